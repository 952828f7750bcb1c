set_option maxHeartbeats 4000000 in
theorem PL_X4_readLine_3 {fi : Nat → Nat → Int32} {fl : Nat → Nat → Int64} {vi : Nat → Int32} {vl : Nat → Int64} {r : Int32} {fj : Nat → Nat → Int32} {fm : Nat → Nat → Int64} {vj : Nat → Int32} {vm : Nat → Int64} : RL_X4_readLine_3 fi fl vi vl r fj fm vj vm (PS_X4_readLine fi fl vi vl r fj fm vj vm) := by
  unfold RL_X4_readLine_3
  intro hp0 hp1 hp2 hp3 hp4 hp5 hp6 hp7 hp8 fik flk vik vlk rk gk_1 tb gk_0 fik_1 flk_1 vik_1 vlk_1 rk_1 gk_1_0 gk_1_1 c33 c60 fik_3 flk_3 vik_3 vlk_3 uk_3 gk_3_0 gk_3_1 gk_3_2 f88 ef88 fik_4 flk_4 vik_4 vlk_4 rk_4 gk_4_0 gk_4_1 gk_4_2 fik_5 flk_5 vik_5 vlk_5 rk_5 gk_5_1 gk_5_2 gk_5_3 gk_5_4 gk_5_5 tb_2 gk_5_0 q0 q1 q2 q3 q4 q5 q6 q7 q8 q9 q10 q11 q12 q13; subst q0
  unfold PS_X4_readLine
  intro n m t hc ho
  (try simp only [q1, q2, q3, q4, q5, q6, q7, q8, q9, q10, q11, q12, q13]); have k9_0 : (0 : Int32).toInt = 0 := (by decide); have k9_1 : (1 : Int32).toInt = 1 := (by decide); have k9_2 : (6 : Int32).toInt = 6 := (by decide)
  have hc0 := hc
  obtain ⟨hn, hm, ht, ck, cp, ce, cw, cu, cg⟩ := hc0
  have y_monday : isW (trn (fi 0) n) n m t 120325360869753 := by
    rcases gk_1 with ⟨z1, z2, z3⟩ | ⟨z1, z2⟩
    · exact ⟨ck.symm.trans z2, by rw [← cw (ck.symm.trans z2)]; exact z3⟩
    · exact absurd (z1.symm.trans tb) (by decide)
  have hc1 := CC_nx hc gk_3_2
  rcases gk_5_5 n m _ hc1 with ⟨b1, b2, b3, b4, b5, b6, b7⟩ | ⟨b1, b2, b3, b4⟩
  · exact absurd (b1.symm.trans tb_2) (by decide)
  · exact Or.inr ⟨by decide, by unfold rll; rw [if_pos y_monday, if_neg (by omega)]; exact rnu_b b2 b3 b4⟩
set_option maxHeartbeats 4000000 in
theorem PL_X4_readLine_4 {fi : Nat → Nat → Int32} {fl : Nat → Nat → Int64} {vi : Nat → Int32} {vl : Nat → Int64} {r : Int32} {fj : Nat → Nat → Int32} {fm : Nat → Nat → Int64} {vj : Nat → Int32} {vm : Nat → Int64} : RL_X4_readLine_4 fi fl vi vl r fj fm vj vm (PS_X4_readLine fi fl vi vl r fj fm vj vm) := by
  unfold RL_X4_readLine_4
  intro hp0 hp1 hp2 hp3 hp4 hp5 hp6 hp7 hp8 fik flk vik vlk rk gk_1 tb gk_0 fik_1 flk_1 vik_1 vlk_1 rk_1 gk_1_0 gk_1_1 c33 c60 fik_6 flk_6 vik_6 vlk_6 rk_6 gk_6_0 gk_6_1 gk_6_2 q0 q1 q2 q3 q4 q5 q6 q7 q8 q9 q10 q11 q12 q13; subst q0
  unfold PS_X4_readLine
  intro n m t hc ho
  (try simp only [q1, q2, q3, q4, q5, q6, q7, q8, q9, q10, q11, q12, q13]); have k9_0 : (0 : Int32).toInt = 0 := (by decide); have k9_1 : (1 : Int32).toInt = 1 := (by decide); have k9_2 : (4 : Int32).toInt = 4 := (by decide)
  have hc0 := hc
  obtain ⟨hn, hm, ht, ck, cp, ce, cw, cu, cg⟩ := hc0
  have y_monday : isW (trn (fi 0) n) n m t 120325360869753 := by
    rcases gk_1 with ⟨z1, z2, z3⟩ | ⟨z1, z2⟩
    · exact ⟨ck.symm.trans z2, by rw [← cw (ck.symm.trans z2)]; exact z3⟩
    · exact absurd (z1.symm.trans tb) (by decide)
  exact Or.inr ⟨by decide, by unfold rll; rw [if_pos y_monday, if_pos (by omega)]; congr 2 <;> omega⟩
set_option maxHeartbeats 4000000 in
theorem PL_X4_readLine_5 {fi : Nat → Nat → Int32} {fl : Nat → Nat → Int64} {vi : Nat → Int32} {vl : Nat → Int64} {r : Int32} {fj : Nat → Nat → Int32} {fm : Nat → Nat → Int64} {vj : Nat → Int32} {vm : Nat → Int64} : RL_X4_readLine_5 fi fl vi vl r fj fm vj vm (PS_X4_readLine fi fl vi vl r fj fm vj vm) := by
  unfold RL_X4_readLine_5
  intro hp0 hp1 hp2 hp3 hp4 hp5 hp6 hp7 hp8 fik flk vik vlk rk gk_1 tb gk_0 fik_7 flk_7 vik_7 vlk_7 rk_7 gk_7_0 gk_7_1 c33_1 fik_8 flk_8 vik_8 vlk_8 rk_8 gk_8_1 gk_8_2 gk_8_3 gk_8_4 gk_8_5 tb_3 gk_8_0 q0 q1 q2 q3 q4 q5 q6 q7 q8 q9 q10 q11 q12 q13; subst q0
  unfold PS_X4_readLine
  intro n m t hc ho
  (try simp only [q1, q2, q3, q4, q5, q6, q7, q8, q9, q10, q11, q12, q13]); have k9_0 : (0 : Int32).toInt = 0 := (by decide); have k9_1 : (1 : Int32).toInt = 1 := (by decide)
  have hc0 := hc
  obtain ⟨hn, hm, ht, ck, cp, ce, cw, cu, cg⟩ := hc0
  have n_monday : ¬ isW (trn (fi 0) n) n m t 120325360869753 := by
    rcases gk_1 with ⟨z1, z2, z3⟩ | ⟨z1, z2⟩
    · exact absurd (z1.symm.trans tb) (by decide)
    · exact fun c => z2 ⟨ck.trans c.1, by rw [cw c.1]; exact c.2⟩
  rcases gk_8_5 n m t hc with ⟨a1, a2, a3, a4, a5⟩ | ⟨a1, a2, a3, a4⟩ | ⟨a1, a2, a3, a4, a5⟩
  · first | (exfalso; omega) | (have h8 := a2.1; exfalso; omega)
  · exact absurd (a1.symm.trans tb_3) (by decide)
  · exact absurd (a1.symm.trans tb_3) (by decide)
set_option maxHeartbeats 4000000 in
theorem PL_X4_readLine_6 {fi : Nat → Nat → Int32} {fl : Nat → Nat → Int64} {vi : Nat → Int32} {vl : Nat → Int64} {r : Int32} {fj : Nat → Nat → Int32} {fm : Nat → Nat → Int64} {vj : Nat → Int32} {vm : Nat → Int64} : RL_X4_readLine_6 fi fl vi vl r fj fm vj vm (PS_X4_readLine fi fl vi vl r fj fm vj vm) := by
  unfold RL_X4_readLine_6
  intro hp0 hp1 hp2 hp3 hp4 hp5 hp6 hp7 hp8 fik flk vik vlk rk gk_1 tb gk_0 fik_7 flk_7 vik_7 vlk_7 rk_7 gk_7_0 gk_7_1 c33_1 fik_8 flk_8 vik_8 vlk_8 rk_8 gk_8_1 gk_8_2 gk_8_3 gk_8_4 gk_8_5 tb_3 gk_8_0 q0 q1 q2 q3 q4 q5 q6 q7 q8 q9 q10 q11 q12 q13; subst q0
  unfold PS_X4_readLine
  intro n m t hc ho
  (try simp only [q1, q2, q3, q4, q5, q6, q7, q8, q9, q10, q11, q12, q13]); have k9_0 : (0 : Int32).toInt = 0 := (by decide); have k9_1 : (1 : Int32).toInt = 1 := (by decide)
  have hc0 := hc
  obtain ⟨hn, hm, ht, ck, cp, ce, cw, cu, cg⟩ := hc0
  have n_monday : ¬ isW (trn (fi 0) n) n m t 120325360869753 := by
    rcases gk_1 with ⟨z1, z2, z3⟩ | ⟨z1, z2⟩
    · exact absurd (z1.symm.trans tb) (by decide)
    · exact fun c => z2 ⟨ck.trans c.1, by rw [cw c.1]; exact c.2⟩
  rcases gk_8_5 n m t hc with ⟨a1, a2, a3, a4, a5⟩ | ⟨a1, a2, a3, a4⟩ | ⟨a1, a2, a3, a4, a5⟩
  · first | (exfalso; omega) | (have h8 := a2.1; exfalso; omega)
  · have nm9 : ¬ isW (trn (fi 0) n) n m t 120325360869753 := n_monday
    exact Or.inr ⟨by decide, by unfold rll; rw [if_neg nm9, if_pos (by rw [fKn_1 a2]; decide), fKn_1 a2, a3, a4]⟩
  · have nm9 : ¬ isW (trn (fi 0) n) n m t 120325360869753 := n_monday
    have h8 := a2.1
    have hfo := kn_of cw gk_7_1 a2
    have hk3 : fKn (trn (fi 0) n) n m (ownB (fl 1)) (fl 0) 0 (vi 18).toInt t = 3 := fKn_3 a2 (by omega)
    exact Or.inr ⟨by decide, by unfold rll; rw [if_neg nm9, if_pos (by rw [hk3]; decide), hk3, a4, a5]⟩
set_option maxHeartbeats 4000000 in
theorem PL_X4_readLine_7 {fi : Nat → Nat → Int32} {fl : Nat → Nat → Int64} {vi : Nat → Int32} {vl : Nat → Int64} {r : Int32} {fj : Nat → Nat → Int32} {fm : Nat → Nat → Int64} {vj : Nat → Int32} {vm : Nat → Int64} : RL_X4_readLine_7 fi fl vi vl r fj fm vj vm (PS_X4_readLine fi fl vi vl r fj fm vj vm) := by
  unfold RL_X4_readLine_7
  intro hp0 hp1 hp2 hp3 hp4 hp5 hp6 hp7 hp8 fik flk vik vlk rk gk_1 tb gk_0 fik_7 flk_7 vik_7 vlk_7 rk_7 gk_7_0 gk_7_1 c33_1 c42 c60_1 fik_9 flk_9 vik_9 vlk_9 uk_9 gk_9_0 gk_9_1 gk_9_2 f88_1 ef88_1 fik_10 flk_10 vik_10 vlk_10 rk_10 gk_10_1 gk_10_2 gk_10_3 gk_10_4 gk_10_5 gk_10_6 tb_4 gk_10_0 f150_1 ef150_1 z157_1 ez157_1 tz157_1 q0 q1 q2 q3 q4 q5 q6 q7 q8 q9 q10 q11 q12 q13; subst q0
  unfold PS_X4_readLine
  intro n m t hc ho
  (try simp only [q1, q2, q3, q4, q5, q6, q7, q8, q9, q10, q11, q12, q13]); have k9_0 : (0 : Int32).toInt = 0 := (by decide); have k9_1 : (1 : Int32).toInt = 1 := (by decide)
  have hc0 := hc
  obtain ⟨hn, hm, ht, ck, cp, ce, cw, cu, cg⟩ := hc0
  have n_monday : ¬ isW (trn (fi 0) n) n m t 120325360869753 := by
    rcases gk_1 with ⟨z1, z2, z3⟩ | ⟨z1, z2⟩
    · exact absurd (z1.symm.trans tb) (by decide)
    · exact fun c => z2 ⟨ck.trans c.1, by rw [cw c.1]; exact c.2⟩
  have hc1 := CC_nx hc gk_9_2
  have hk1 : sK (trn (fi 0) n) n m t = 1 := by omega
  rw [cw hk1] at gk_7_1
  have hq9 := fdx_rng (row := (fl 0)) (a := 0) (w := (sW (trn (fi 0) n) n m t)) ((vi 18).toInt).toNat
  have hh9 := fdx_hit (row := (fl 0)) (a := 0) (w := (sW (trn (fi 0) n) n m t)) ((vi 18).toInt).toNat (by omega)
  rw [Nat.zero_add] at hh9
  have hm9 : wMay (trn (fi 0) n) n m (ownB (fl 1)) t := ⟨hk1, by rw [← hh9]; exact ho _ (by omega)⟩
  have hk0 : fKn (trn (fi 0) n) n m (ownB (fl 1)) (fl 0) 0 (vi 18).toInt t = 0 := fKn_0 hm9 (by omega)
  rcases gk_10_6 n m _ hc1 with ⟨b1, t9, b2, b3⟩ | ⟨b1, b2⟩
  · exact Or.inl ⟨by decide, t9, by unfold rll; rw [if_neg n_monday, if_neg (fun c => c hk0), if_neg (by omega)]; exact b2, b3⟩
  · exact absurd (b1.symm.trans tb_4) (by decide)
set_option maxHeartbeats 4000000 in
theorem PL_X4_readLine_8 {fi : Nat → Nat → Int32} {fl : Nat → Nat → Int64} {vi : Nat → Int32} {vl : Nat → Int64} {r : Int32} {fj : Nat → Nat → Int32} {fm : Nat → Nat → Int64} {vj : Nat → Int32} {vm : Nat → Int64} : RL_X4_readLine_8 fi fl vi vl r fj fm vj vm (PS_X4_readLine fi fl vi vl r fj fm vj vm) := by
  unfold RL_X4_readLine_8
  intro hp0 hp1 hp2 hp3 hp4 hp5 hp6 hp7 hp8 fik flk vik vlk rk gk_1 tb gk_0 fik_7 flk_7 vik_7 vlk_7 rk_7 gk_7_0 gk_7_1 c33_1 c42 c60_1 fik_9 flk_9 vik_9 vlk_9 uk_9 gk_9_0 gk_9_1 gk_9_2 f88_1 ef88_1 fik_10 flk_10 vik_10 vlk_10 rk_10 gk_10_1 gk_10_2 gk_10_3 gk_10_4 gk_10_5 gk_10_6 tb_4 gk_10_0 q0 q1 q2 q3 q4 q5 q6 q7 q8 q9 q10 q11 q12 q13; subst q0
  unfold PS_X4_readLine
  intro n m t hc ho
  (try simp only [q1, q2, q3, q4, q5, q6, q7, q8, q9, q10, q11, q12, q13]); have k9_0 : (0 : Int32).toInt = 0 := (by decide); have k9_1 : (1 : Int32).toInt = 1 := (by decide)
  have hc0 := hc
  obtain ⟨hn, hm, ht, ck, cp, ce, cw, cu, cg⟩ := hc0
  have n_monday : ¬ isW (trn (fi 0) n) n m t 120325360869753 := by
    rcases gk_1 with ⟨z1, z2, z3⟩ | ⟨z1, z2⟩
    · exact absurd (z1.symm.trans tb) (by decide)
    · exact fun c => z2 ⟨ck.trans c.1, by rw [cw c.1]; exact c.2⟩
  have hc1 := CC_nx hc gk_9_2
  have hk1 : sK (trn (fi 0) n) n m t = 1 := by omega
  rw [cw hk1] at gk_7_1
  have hq9 := fdx_rng (row := (fl 0)) (a := 0) (w := (sW (trn (fi 0) n) n m t)) ((vi 18).toInt).toNat
  have hh9 := fdx_hit (row := (fl 0)) (a := 0) (w := (sW (trn (fi 0) n) n m t)) ((vi 18).toInt).toNat (by omega)
  rw [Nat.zero_add] at hh9
  have hm9 : wMay (trn (fi 0) n) n m (ownB (fl 1)) t := ⟨hk1, by rw [← hh9]; exact ho _ (by omega)⟩
  have hk0 : fKn (trn (fi 0) n) n m (ownB (fl 1)) (fl 0) 0 (vi 18).toInt t = 0 := fKn_0 hm9 (by omega)
  rcases gk_10_6 n m _ hc1 with ⟨b1, t9, b2, b3⟩ | ⟨b1, b2⟩
  · exact absurd (b1.symm.trans tb_4) (by decide)
  · exact Or.inr ⟨by decide, by unfold rll; rw [if_neg n_monday, if_neg (fun c => c hk0), if_neg (by omega)]; exact b2⟩
set_option maxHeartbeats 4000000 in
theorem PL_X4_readLine_9 {fi : Nat → Nat → Int32} {fl : Nat → Nat → Int64} {vi : Nat → Int32} {vl : Nat → Int64} {r : Int32} {fj : Nat → Nat → Int32} {fm : Nat → Nat → Int64} {vj : Nat → Int32} {vm : Nat → Int64} : RL_X4_readLine_9 fi fl vi vl r fj fm vj vm (PS_X4_readLine fi fl vi vl r fj fm vj vm) := by
  unfold RL_X4_readLine_9
  intro hp0 hp1 hp2 hp3 hp4 hp5 hp6 hp7 hp8 fik flk vik vlk rk gk_1 tb gk_0 fik_7 flk_7 vik_7 vlk_7 rk_7 gk_7_0 gk_7_1 c33_1 c42 c60_1 fik_11 flk_11 vik_11 vlk_11 rk_11 gk_11_0 gk_11_1 gk_11_2 q0 q1 q2 q3 q4 q5 q6 q7 q8 q9 q10 q11 q12 q13; subst q0
  unfold PS_X4_readLine
  intro n m t hc ho
  (try simp only [q1, q2, q3, q4, q5, q6, q7, q8, q9, q10, q11, q12, q13]); have k9_0 : (0 : Int32).toInt = 0 := (by decide); have k9_1 : (1 : Int32).toInt = 1 := (by decide); have k9_2 : (4 : Int32).toInt = 4 := (by decide)
  have hc0 := hc
  obtain ⟨hn, hm, ht, ck, cp, ce, cw, cu, cg⟩ := hc0
  have n_monday : ¬ isW (trn (fi 0) n) n m t 120325360869753 := by
    rcases gk_1 with ⟨z1, z2, z3⟩ | ⟨z1, z2⟩
    · exact absurd (z1.symm.trans tb) (by decide)
    · exact fun c => z2 ⟨ck.trans c.1, by rw [cw c.1]; exact c.2⟩
  have hk1 : sK (trn (fi 0) n) n m t = 1 := by omega
  rw [cw hk1] at gk_7_1
  have hq9 := fdx_rng (row := (fl 0)) (a := 0) (w := (sW (trn (fi 0) n) n m t)) ((vi 18).toInt).toNat
  have hh9 := fdx_hit (row := (fl 0)) (a := 0) (w := (sW (trn (fi 0) n) n m t)) ((vi 18).toInt).toNat (by omega)
  rw [Nat.zero_add] at hh9
  have hm9 : wMay (trn (fi 0) n) n m (ownB (fl 1)) t := ⟨hk1, by rw [← hh9]; exact ho _ (by omega)⟩
  have hk0 : fKn (trn (fi 0) n) n m (ownB (fl 1)) (fl 0) 0 (vi 18).toInt t = 0 := fKn_0 hm9 (by omega)
  exact Or.inr ⟨by decide, by unfold rll; rw [if_neg n_monday, if_neg (fun c => c hk0), if_pos (by omega)]; congr 2 <;> omega⟩
set_option maxHeartbeats 4000000 in
theorem PL_X4_readLine_10 {fi : Nat → Nat → Int32} {fl : Nat → Nat → Int64} {vi : Nat → Int32} {vl : Nat → Int64} {r : Int32} {fj : Nat → Nat → Int32} {fm : Nat → Nat → Int64} {vj : Nat → Int32} {vm : Nat → Int64} : RL_X4_readLine_10 fi fl vi vl r fj fm vj vm (PS_X4_readLine fi fl vi vl r fj fm vj vm) := by
  unfold RL_X4_readLine_10
  intro hp0 hp1 hp2 hp3 hp4 hp5 hp6 hp7 hp8 fik flk vik vlk rk gk_1 tb gk_0 fik_7 flk_7 vik_7 vlk_7 rk_7 gk_7_0 gk_7_1 c33_1 c42 fik_12 flk_12 vik_12 vlk_12 rk_12 gk_12_1 gk_12_2 gk_12_3 gk_12_4 gk_12_5 tb_5 gk_12_0 q0 q1 q2 q3 q4 q5 q6 q7 q8 q9 q10 q11 q12 q13; subst q0
  unfold PS_X4_readLine
  intro n m t hc ho
  (try simp only [q1, q2, q3, q4, q5, q6, q7, q8, q9, q10, q11, q12, q13]); have k9_0 : (0 : Int32).toInt = 0 := (by decide); have k9_1 : (1 : Int32).toInt = 1 := (by decide)
  have hc0 := hc
  obtain ⟨hn, hm, ht, ck, cp, ce, cw, cu, cg⟩ := hc0
  have n_monday : ¬ isW (trn (fi 0) n) n m t 120325360869753 := by
    rcases gk_1 with ⟨z1, z2, z3⟩ | ⟨z1, z2⟩
    · exact absurd (z1.symm.trans tb) (by decide)
    · exact fun c => z2 ⟨ck.trans c.1, by rw [cw c.1]; exact c.2⟩
  rcases gk_12_5 n m t hc with ⟨a1, a2, a3, a4, a5⟩ | ⟨a1, a2, a3, a4⟩ | ⟨a1, a2, a3, a4, a5⟩
  · first | (exfalso; omega) | (have h8 := a2.1; exfalso; omega)
  · exact absurd (a1.symm.trans tb_5) (by decide)
  · exact absurd (a1.symm.trans tb_5) (by decide)
set_option maxHeartbeats 4000000 in
theorem PL_X4_readLine_11 {fi : Nat → Nat → Int32} {fl : Nat → Nat → Int64} {vi : Nat → Int32} {vl : Nat → Int64} {r : Int32} {fj : Nat → Nat → Int32} {fm : Nat → Nat → Int64} {vj : Nat → Int32} {vm : Nat → Int64} : RL_X4_readLine_11 fi fl vi vl r fj fm vj vm (PS_X4_readLine fi fl vi vl r fj fm vj vm) := by
  unfold RL_X4_readLine_11
  intro hp0 hp1 hp2 hp3 hp4 hp5 hp6 hp7 hp8 fik flk vik vlk rk gk_1 tb gk_0 fik_7 flk_7 vik_7 vlk_7 rk_7 gk_7_0 gk_7_1 c33_1 c42 fik_12 flk_12 vik_12 vlk_12 rk_12 gk_12_1 gk_12_2 gk_12_3 gk_12_4 gk_12_5 tb_5 gk_12_0 q0 q1 q2 q3 q4 q5 q6 q7 q8 q9 q10 q11 q12 q13; subst q0
  unfold PS_X4_readLine
  intro n m t hc ho
  (try simp only [q1, q2, q3, q4, q5, q6, q7, q8, q9, q10, q11, q12, q13]); have k9_0 : (0 : Int32).toInt = 0 := (by decide); have k9_1 : (1 : Int32).toInt = 1 := (by decide)
  have hc0 := hc
  obtain ⟨hn, hm, ht, ck, cp, ce, cw, cu, cg⟩ := hc0
  have n_monday : ¬ isW (trn (fi 0) n) n m t 120325360869753 := by
    rcases gk_1 with ⟨z1, z2, z3⟩ | ⟨z1, z2⟩
    · exact absurd (z1.symm.trans tb) (by decide)
    · exact fun c => z2 ⟨ck.trans c.1, by rw [cw c.1]; exact c.2⟩
  rcases gk_12_5 n m t hc with ⟨a1, a2, a3, a4, a5⟩ | ⟨a1, a2, a3, a4⟩ | ⟨a1, a2, a3, a4, a5⟩
  · first | (exfalso; omega) | (have h8 := a2.1; exfalso; omega)
  · have nm9 : ¬ isW (trn (fi 0) n) n m t 120325360869753 := n_monday
    exact Or.inr ⟨by decide, by unfold rll; rw [if_neg nm9, if_pos (by rw [fKn_1 a2]; decide), fKn_1 a2, a3, a4]⟩
  · have nm9 : ¬ isW (trn (fi 0) n) n m t 120325360869753 := n_monday
    have h8 := a2.1
    have hfo := kn_of cw gk_7_1 a2
    have hk3 : fKn (trn (fi 0) n) n m (ownB (fl 1)) (fl 0) 0 (vi 18).toInt t = 3 := fKn_3 a2 (by omega)
    exact Or.inr ⟨by decide, by unfold rll; rw [if_neg nm9, if_pos (by rw [hk3]; decide), hk3, a4, a5]⟩
theorem P_X4_readLine {fi : Nat → Nat → Int32} {fl : Nat → Nat → Int64} {vi : Nat → Int32} {vl : Nat → Int64} {r : Int32} {fj : Nat → Nat → Int32} {fm : Nat → Nat → Int64} {vj : Nat → Int32} {vm : Nat → Int64} (h : R_X4_readLine fi fl vi vl r fj fm vj vm) : ∀ n m t : Nat, CC (trn (fi 0) n) n m t (vi 7) (vi 8) (vi 10) (vi 11) (vi 9) (vl 0) (vi 12) (vi 13) → (∀ j : Nat, (j : Int) < (vi 18).toInt → ownB (fl 1) ((fl 0) j) = false) → (r.toInt = 1 ∧ ∃ t' : Nat, rll (trn (fi 0) n) n m (ownB (fl 1)) (fl 2) 0 (vi 17).toInt (fl 0) 0 (vi 18).toInt (vi 0).toInt t = .inr t' ∧ CC (trn (fi 0) n) n m t' (vi 7) (vi 8) (vj 1) (vj 2) (vj 5) (vm 0) (vj 4) (vj 3)) ∨ (r.toInt = 0 ∧ rll (trn (fi 0) n) n m (ownB (fl 1)) (fl 2) 0 (vi 17).toInt (fl 0) 0 (vi 18).toInt (vi 0).toInt t = .inl ((vj 6).toInt, (vj 7).toInt)) := h (PS_X4_readLine fi fl vi vl r fj fm vj vm) PL_X4_readLine_0 PL_X4_readLine_1 PL_X4_readLine_2 PL_X4_readLine_3 PL_X4_readLine_4 PL_X4_readLine_5 PL_X4_readLine_6 PL_X4_readLine_7 PL_X4_readLine_8 PL_X4_readLine_9 PL_X4_readLine_10 PL_X4_readLine_11
def RL_X6_passSign_0 (fi : Nat → Nat → Int32) (fl : Nat → Nat → Int64) (vi : Nat → Int32) (vl : Nat → Int64) (r : Int32) (fj : Nat → Nat → Int32) (fm : Nat → Nat → Int64) (vj : Nat → Int32) (vm : Nat → Int64) (Q9 : Prop) : Prop :=
  (0 ≤ (vi 2).toInt ∧ (vi 2).toInt ≤ 940) → (0 ≤ (vi 3).toInt ∧ (vi 3).toInt ≤ 940) → (0 ≤ (vi 4).toInt ∧ (vi 4).toInt ≤ 940) → (0 ≤ (vi 6).toInt ∧ (vi 6).toInt ≤ 940) → (0 ≤ (vi 11).toInt ∧ (vi 11).toInt ≤ 940) → ∀ (fik : Nat → Nat → Int32), ∀ (flk : Nat → Nat → Int64), ∀ (vik : Nat → Int32), ∀ (vlk : Nat → Int64), ∀ (rk : Int32), (rk.toInt = 1) → ((vi 5).toInt = 3 ∧ (vi 8).toInt = (vi 0).toInt) → ∀ (fik_1 : Nat → Nat → Int32), ∀ (flk_1 : Nat → Nat → Int64), ∀ (vik_1 : Nat → Int32), ∀ (vlk_1 : Nat → Int64), ∀ (rk_1 : Int32), (rk_1 = 1) → (0 ≤ (vik_1 4).toInt ∧ (vik_1 4).toInt ≤ 940) → (0 ≤ (vik_1 1).toInt ∧ (vik_1 1).toInt ≤ 940) → (∀ n m : Nat, (vi 2).toInt = (n : Int) → (vi 3).toInt = (m : Int) → (vi 4).toInt ≤ (vi 2).toInt → CC (trn (fi 0) n) n m ((vi 4).toInt).toNat (vi 2) (vi 3) (vik_1 0) (vik_1 1) (vik_1 4) (vlk_1 0) (vik_1 3) (vik_1 2)) → (r = (1 : Int32)) → (vj 0 = (vik_1 0)) → (vj 1 = (vik_1 1)) → (vj 2 = (vik_1 2)) → (vj 3 = (vik_1 3)) → (vj 4 = (vik_1 4)) → (vj 5 = (vi 10)) → (vj 6 = (vi 11)) → (vm 0 = (vlk_1 0)) → Q9
def RL_X6_passSign_1 (fi : Nat → Nat → Int32) (fl : Nat → Nat → Int64) (vi : Nat → Int32) (vl : Nat → Int64) (r : Int32) (fj : Nat → Nat → Int32) (fm : Nat → Nat → Int64) (vj : Nat → Int32) (vm : Nat → Int64) (Q9 : Prop) : Prop :=
  (0 ≤ (vi 2).toInt ∧ (vi 2).toInt ≤ 940) → (0 ≤ (vi 3).toInt ∧ (vi 3).toInt ≤ 940) → (0 ≤ (vi 4).toInt ∧ (vi 4).toInt ≤ 940) → (0 ≤ (vi 6).toInt ∧ (vi 6).toInt ≤ 940) → (0 ≤ (vi 11).toInt ∧ (vi 11).toInt ≤ 940) → ∀ (fik : Nat → Nat → Int32), ∀ (flk : Nat → Nat → Int64), ∀ (vik : Nat → Int32), ∀ (vlk : Nat → Int64), ∀ (rk : Int32), (rk.toInt = 0) → (¬ ((vi 5).toInt = 3 ∧ (vi 8).toInt = (vi 0).toInt)) → ∀ (fik_2 : Nat → Nat → Int32), ∀ (flk_2 : Nat → Nat → Int64), ∀ (vik_2 : Nat → Int32), ∀ (vlk_2 : Nat → Int64), ∀ (rk_2 : Int32), (rk_2 = 0) → (0 ≤ (vik_2 1).toInt ∧ (vik_2 1).toInt ≤ 940) → ((vik_2 0).toInt = (1 : Int32).toInt ∧ (vik_2 1).toInt = (vi 6).toInt) → (r = (0 : Int32)) → (vj 0 = (vi 5)) → (vj 1 = (vi 6)) → (vj 2 = (vi 8)) → (vj 3 = (vi 7)) → (vj 4 = (vi 4)) → (vj 5 = (vik_2 0)) → (vj 6 = (vik_2 1)) → (vm 0 = (vl 0)) → Q9
def R_X6_passSign (fi : Nat → Nat → Int32) (fl : Nat → Nat → Int64) (vi : Nat → Int32) (vl : Nat → Int64) (r : Int32) (fj : Nat → Nat → Int32) (fm : Nat → Nat → Int64) (vj : Nat → Int32) (vm : Nat → Int64) : Prop :=
  ∀ Q9 : Prop, RL_X6_passSign_0 fi fl vi vl r fj fm vj vm Q9 → RL_X6_passSign_1 fi fl vi vl r fj fm vj vm Q9 → Q9
def PS_X6_passSign (fi : Nat → Nat → Int32) (fl : Nat → Nat → Int64) (vi : Nat → Int32) (vl : Nat → Int64) (r : Int32) (fj : Nat → Nat → Int32) (fm : Nat → Nat → Int64) (vj : Nat → Int32) (vm : Nat → Int64) : Prop :=
  ∀ n m t : Nat, CC (trn (fi 0) n) n m t (vi 2) (vi 3) (vi 5) (vi 6) (vi 4) (vl 0) (vi 7) (vi 8) → (r.toInt = 1 ∧ (sK (trn (fi 0) n) n m t) = 3 ∧ (sG (trn (fi 0) n) n m t) = (vi 0).toInt ∧ CC (trn (fi 0) n) n m (sX (trn (fi 0) n) n m t) (vi 2) (vi 3) (vj 0) (vj 1) (vj 4) (vm 0) (vj 3) (vj 2)) ∨ (r.toInt = 0 ∧ ¬ ((sK (trn (fi 0) n) n m t) = 3 ∧ (sG (trn (fi 0) n) n m t) = (vi 0).toInt) ∧ (vj 5).toInt = 1 ∧ (vj 6).toInt = ((sPn (trn (fi 0) n) n m t) : Int))
