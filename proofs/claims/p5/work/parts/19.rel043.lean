set_option maxHeartbeats 4000000 in
theorem PL_X12_behind_0 {fi : Nat → Nat → Int32} {fl : Nat → Nat → Int64} {vi : Nat → Int32} {vl : Nat → Int64} {r : Int32} {fj : Nat → Nat → Int32} {fm : Nat → Nat → Int64} {vj : Nat → Int32} {vm : Nat → Int64} : RL_X12_behind_0 fi fl vi vl r fj fm vj vm (PS_X12_behind fi fl vi vl r fj fm vj vm) := by
  unfold RL_X12_behind_0
  intro hp0 hp1 hp2 hp3 hp4 hp5 hp6 hp7 hp8 hp9 hp10 hp11 hp12 hp13 hp14 hp15 hp16 hp17 hp18 hp19 hp20 hp21 hp22 hp23 hp24 hp25 hp26 hp27 fik flk vik vlk uk gk_0 gk_1 gk_2 gk_3 gk_4 gk_5 hbw9 fik_1 flk_1 vik_1 vlk_1 rk_1 gk_1_1 tb_1 gk_1_0 fik_2 flk_2 vik_2 vlk_2 uk_2 gk_2_0 gk_2_1 gk_2_2 gk_2_3 gk_2_4 gk_2_5 gk_2_6 fik_3 flk_3 vik_3 vlk_3 rk_3 gk_3_1 tb_3 gk_3_0 f70 ef70 tt fik_4 flk_4 vik_4 vlk_4 uk_4 gk_4_0 gk_4_1 gk_4_2 gk_4_3 gk_4_4 gk_4_5 q0 q1 q2 q3 q4 q5 q6 q7 q8 q9 q10 q11 q12 q13 q14; subst q0
  unfold PS_X12_behind
  intro n m t hc hs hd
  (try simp only [q1, q2, q3, q4, q5, q6, q7, q8, q9, q10, q11, q12, q13, q14]); have k9_0 : (0 : Int32).toInt = 0 := (by decide); have k9_1 : (1 : Int32).toInt = 1 := (by decide); have k9_2 : (21 : Int32).toInt = 21 := (by decide)
  have hc0 := hc
  obtain ⟨hn, hm, ht, ck, cp, ce, cw, cu, cg⟩ := hc0
  obtain ⟨o1, o2, o3, o4, o5⟩ := gk_5 hs hd
  obtain ⟨p1, p2, p3, p4⟩ := gk_2_6
  have p5 := p4 (nsk_le hs o5) o3
  have p6 := Int.le_trans p3 o5
  rw [o1] at p1
  rw [o1] at o2
  have hj9 : isW (trn (fi 2) n) n m t 6385252 ∨ isW (trn (fi 2) n) n m t 28530 := by
    rcases hbw9 with ⟨z2, z3⟩ | ⟨z2, z3⟩
    · exact Or.inl ⟨ck.symm.trans z2, by rw [← cw (ck.symm.trans z2)]; exact z3⟩
    · exact Or.inr ⟨ck.symm.trans z2, by rw [← cw (ck.symm.trans z2)]; exact z3⟩
  have hF := flt_up ef70 (y := ((vik_2 0) + 1)) p2 tt
  rw [show (21 : Int32).toInt = 21 by decide, if_neg (by decide), if_neg (by decide), p1] at hF
  have hc1 := CC_nx hc gk_4_5
  refine Or.inl ⟨by decide, _, hc1, nsk_up ef70 p2 tt (nsk_le hs p6) (by decide) (Or.inr (Or.inr p5)), by rw [hF]; exact o2, Or.inl ⟨by first | decide | omega, ?_⟩⟩
  rw [hF]
  exact sg_join ht hj9
set_option maxHeartbeats 4000000 in
theorem PL_X12_behind_1 {fi : Nat → Nat → Int32} {fl : Nat → Nat → Int64} {vi : Nat → Int32} {vl : Nat → Int64} {r : Int32} {fj : Nat → Nat → Int32} {fm : Nat → Nat → Int64} {vj : Nat → Int32} {vm : Nat → Int64} : RL_X12_behind_1 fi fl vi vl r fj fm vj vm (PS_X12_behind fi fl vi vl r fj fm vj vm) := by
  unfold RL_X12_behind_1
  intro hp0 hp1 hp2 hp3 hp4 hp5 hp6 hp7 hp8 hp9 hp10 hp11 hp12 hp13 hp14 hp15 hp16 hp17 hp18 hp19 hp20 hp21 hp22 hp23 hp24 hp25 hp26 hp27 fik flk vik vlk uk gk_0 gk_1 gk_2 gk_3 gk_4 gk_5 hbw9 fik_1 flk_1 vik_1 vlk_1 rk_1 gk_1_1 tb_1 gk_1_0 fik_2 flk_2 vik_2 vlk_2 uk_2 gk_2_0 gk_2_1 gk_2_2 gk_2_3 gk_2_4 gk_2_5 gk_2_6 fik_3 flk_3 vik_3 vlk_3 rk_3 gk_3_1 tb_3 gk_3_0 f70_1 ef70_1 tt_1 fik_5 flk_5 vik_5 vlk_5 uk_5 gk_5_0 gk_5_1 gk_5_2 gk_5_3 gk_5_4 gk_5_5 q0 q1 q2 q3 q4 q5 q6 q7 q8 q9 q10 q11 q12 q13 q14; subst q0
  unfold PS_X12_behind
  intro n m t hc hs hd
  (try simp only [q1, q2, q3, q4, q5, q6, q7, q8, q9, q10, q11, q12, q13, q14]); have k9_0 : (0 : Int32).toInt = 0 := (by decide); have k9_1 : (1 : Int32).toInt = 1 := (by decide); have k9_2 : (21 : Int32).toInt = 21 := (by decide)
  have hc0 := hc
  obtain ⟨hn, hm, ht, ck, cp, ce, cw, cu, cg⟩ := hc0
  obtain ⟨o1, o2, o3, o4, o5⟩ := gk_5 hs hd
  obtain ⟨p1, p2, p3, p4⟩ := gk_2_6
  have p5 := p4 (nsk_le hs o5) o3
  have p6 := Int.le_trans p3 o5
  rw [o1] at p1
  rw [o1] at o2
  exfalso
  rcases gk_3_1 with ⟨z1, z2, z3⟩ | ⟨z1, z2⟩
  · exact absurd (z1.symm.trans tb_3) (by decide)
  · rcases gk_1_1 with ⟨y1, y2, y3⟩ | ⟨y1, y2⟩
    · exact z2 ⟨y2, y3⟩
    · exact absurd (y1.symm.trans tb_1) (by decide)
set_option maxHeartbeats 4000000 in
theorem PL_X12_behind_2 {fi : Nat → Nat → Int32} {fl : Nat → Nat → Int64} {vi : Nat → Int32} {vl : Nat → Int64} {r : Int32} {fj : Nat → Nat → Int32} {fm : Nat → Nat → Int64} {vj : Nat → Int32} {vm : Nat → Int64} : RL_X12_behind_2 fi fl vi vl r fj fm vj vm (PS_X12_behind fi fl vi vl r fj fm vj vm) := by
  unfold RL_X12_behind_2
  intro hp0 hp1 hp2 hp3 hp4 hp5 hp6 hp7 hp8 hp9 hp10 hp11 hp12 hp13 hp14 hp15 hp16 hp17 hp18 hp19 hp20 hp21 hp22 hp23 hp24 hp25 hp26 hp27 fik flk vik vlk uk gk_0 gk_1 gk_2 gk_3 gk_4 gk_5 hbw9 fik_1 flk_1 vik_1 vlk_1 rk_1 gk_1_1 tb_1 gk_1_0 fik_6 flk_6 vik_6 vlk_6 uk_6 gk_6_0 gk_6_1 gk_6_2 gk_6_3 gk_6_4 gk_6_5 gk_6_6 fik_7 flk_7 vik_7 vlk_7 rk_7 gk_7_1 tb_5 gk_7_0 f70_2 ef70_2 tt_2 fik_8 flk_8 vik_8 vlk_8 uk_8 gk_8_0 gk_8_1 gk_8_2 gk_8_3 gk_8_4 gk_8_5 q0 q1 q2 q3 q4 q5 q6 q7 q8 q9 q10 q11 q12 q13 q14; subst q0
  unfold PS_X12_behind
  intro n m t hc hs hd
  (try simp only [q1, q2, q3, q4, q5, q6, q7, q8, q9, q10, q11, q12, q13, q14]); have k9_0 : (0 : Int32).toInt = 0 := (by decide); have k9_1 : (1 : Int32).toInt = 1 := (by decide); have k9_2 : (22 : Int32).toInt = 22 := (by decide)
  have hc0 := hc
  obtain ⟨hn, hm, ht, ck, cp, ce, cw, cu, cg⟩ := hc0
  obtain ⟨o1, o2, o3, o4, o5⟩ := gk_5 hs hd
  obtain ⟨p1, p2, p3, p4⟩ := gk_6_6
  have p5 := p4 (nsk_le hs o5) o3
  have p6 := Int.le_trans p3 o5
  rw [o1] at p1
  rw [o1] at o2
  exfalso
  rcases gk_1_1 with ⟨z1, z2, z3⟩ | ⟨z1, z2⟩
  · exact absurd (z1.symm.trans tb_1) (by decide)
  · rcases gk_7_1 with ⟨y1, y2, y3⟩ | ⟨y1, y2⟩
    · exact z2 ⟨y2, y3⟩
    · exact absurd (y1.symm.trans tb_5) (by decide)
set_option maxHeartbeats 4000000 in
theorem PL_X12_behind_3 {fi : Nat → Nat → Int32} {fl : Nat → Nat → Int64} {vi : Nat → Int32} {vl : Nat → Int64} {r : Int32} {fj : Nat → Nat → Int32} {fm : Nat → Nat → Int64} {vj : Nat → Int32} {vm : Nat → Int64} : RL_X12_behind_3 fi fl vi vl r fj fm vj vm (PS_X12_behind fi fl vi vl r fj fm vj vm) := by
  unfold RL_X12_behind_3
  intro hp0 hp1 hp2 hp3 hp4 hp5 hp6 hp7 hp8 hp9 hp10 hp11 hp12 hp13 hp14 hp15 hp16 hp17 hp18 hp19 hp20 hp21 hp22 hp23 hp24 hp25 hp26 hp27 fik flk vik vlk uk gk_0 gk_1 gk_2 gk_3 gk_4 gk_5 hbw9 fik_1 flk_1 vik_1 vlk_1 rk_1 gk_1_1 tb_1 gk_1_0 fik_6 flk_6 vik_6 vlk_6 uk_6 gk_6_0 gk_6_1 gk_6_2 gk_6_3 gk_6_4 gk_6_5 gk_6_6 fik_7 flk_7 vik_7 vlk_7 rk_7 gk_7_1 tb_5 gk_7_0 f70_3 ef70_3 tt_3 fik_9 flk_9 vik_9 vlk_9 uk_9 gk_9_0 gk_9_1 gk_9_2 gk_9_3 gk_9_4 gk_9_5 q0 q1 q2 q3 q4 q5 q6 q7 q8 q9 q10 q11 q12 q13 q14; subst q0
  unfold PS_X12_behind
  intro n m t hc hs hd
  (try simp only [q1, q2, q3, q4, q5, q6, q7, q8, q9, q10, q11, q12, q13, q14]); have k9_0 : (0 : Int32).toInt = 0 := (by decide); have k9_1 : (1 : Int32).toInt = 1 := (by decide); have k9_2 : (22 : Int32).toInt = 22 := (by decide)
  have hc0 := hc
  obtain ⟨hn, hm, ht, ck, cp, ce, cw, cu, cg⟩ := hc0
  obtain ⟨o1, o2, o3, o4, o5⟩ := gk_5 hs hd
  obtain ⟨p1, p2, p3, p4⟩ := gk_6_6
  have p5 := p4 (nsk_le hs o5) o3
  have p6 := Int.le_trans p3 o5
  rw [o1] at p1
  rw [o1] at o2
  have hj9 : isW (trn (fi 2) n) n m t 6385252 ∨ isW (trn (fi 2) n) n m t 28530 := by
    rcases hbw9 with ⟨z2, z3⟩ | ⟨z2, z3⟩
    · exact Or.inl ⟨ck.symm.trans z2, by rw [← cw (ck.symm.trans z2)]; exact z3⟩
    · exact Or.inr ⟨ck.symm.trans z2, by rw [← cw (ck.symm.trans z2)]; exact z3⟩
  have hF := flt_up ef70_3 (y := ((vik_6 0) + 1)) p2 tt_3
  rw [show (22 : Int32).toInt = 22 by decide, if_neg (by decide), if_neg (by decide), p1] at hF
  have hc1 := CC_nx hc gk_9_5
  refine Or.inl ⟨by decide, _, hc1, nsk_up ef70_3 p2 tt_3 (nsk_le hs p6) (by decide) (Or.inr (Or.inr p5)), by rw [hF]; exact o2, Or.inl ⟨by first | decide | omega, ?_⟩⟩
  rw [hF]
  exact sg_join ht hj9
set_option maxHeartbeats 4000000 in
theorem PL_X12_behind_4 {fi : Nat → Nat → Int32} {fl : Nat → Nat → Int64} {vi : Nat → Int32} {vl : Nat → Int64} {r : Int32} {fj : Nat → Nat → Int32} {fm : Nat → Nat → Int64} {vj : Nat → Int32} {vm : Nat → Int64} : RL_X12_behind_4 fi fl vi vl r fj fm vj vm (PS_X12_behind fi fl vi vl r fj fm vj vm) := by
  unfold RL_X12_behind_4
  intro hp0 hp1 hp2 hp3 hp4 hp5 hp6 hp7 hp8 hp9 hp10 hp11 hp12 hp13 hp14 hp15 hp16 hp17 hp18 hp19 hp20 hp21 hp22 hp23 hp24 hp25 hp26 hp27 fik flk vik vlk uk gk_0 gk_1 gk_2 gk_3 gk_4 gk_5 fik_10 flk_10 vik_10 vlk_10 rk_10 gk_10_1 tb_7 gk_10_0 fik_11 flk_11 vik_11 vlk_11 rk_11 gk_11_1 tb_9 gk_11_0 fik_12 flk_12 vik_12 vlk_12 uk_12 gk_12_0 gk_12_1 gk_12_2 gk_12_3 gk_12_4 gk_12_5 gk_12_6 fik_13 flk_13 vik_13 vlk_13 rk_13 gk_13_1 tb_11 gk_13_0 c111 tt_4 z136 ez136 fik_14 flk_14 vik_14 vlk_14 uk_14 gk_14_0 gk_14_1 gk_14_2 gk_14_3 gk_14_4 gk_14_5 q0 q1 q2 q3 q4 q5 q6 q7 q8 q9 q10 q11 q12 q13 q14; subst q0
  unfold PS_X12_behind
  intro n m t hc hs hd
  (try simp only [q1, q2, q3, q4, q5, q6, q7, q8, q9, q10, q11, q12, q13, q14]); have k9_0 : (0 : Int32).toInt = 0 := (by decide); have k9_1 : (1 : Int32).toInt = 1 := (by decide); have k9_2 : (22 : Int32).toInt = 22 := (by decide)
  have hc0 := hc
  obtain ⟨hn, hm, ht, ck, cp, ce, cw, cu, cg⟩ := hc0
  obtain ⟨o1, o2, o3, o4, o5⟩ := gk_5 hs hd
  obtain ⟨p1, p2, p3, p4⟩ := gk_12_6
  have p5 := p4 (nsk_le hs o5) o3
  have p6 := Int.le_trans p3 o5
  rw [o1] at p1
  rw [o1] at o2
  have n_and : ¬ isW (trn (fi 2) n) n m t 6385252 := by
    rcases gk_10_1 with ⟨z1, z2, z3⟩ | ⟨z1, z2⟩
    · exact absurd (z1.symm.trans tb_7) (by decide)
    · exact fun c => z2 ⟨ck.trans c.1, by rw [cw c.1]; exact c.2⟩
  have n_or : ¬ isW (trn (fi 2) n) n m t 28530 := by
    rcases gk_11_1 with ⟨z1, z2, z3⟩ | ⟨z1, z2⟩
    · exact absurd (z1.symm.trans tb_9) (by decide)
    · exact fun c => z2 ⟨ck.trans c.1, by rw [cw c.1]; exact c.2⟩
  have hcl : sK (trn (fi 2) n) n m t = 3 ∧ sG (trn (fi 2) n) n m t = 41 := by
    rcases gk_13_1 with ⟨z1, z2, z3⟩ | ⟨z1, z2⟩
    · exact ⟨ck.symm.trans z2, (cg (ck.symm.trans z2)).symm.trans z3⟩
    · exact absurd (z1.symm.trans tb_11) (by decide)
  have hB := flt_br (y := ((vik_12 0) - 1)) (nsk_le hs p6) (op_g1 p2 c111) tt_4 p5 (op_o3 gk_12_5 (op_n0 (op_g1 p2 c111)) (by decide))
  rw [p1] at hB
  have hc1 := CC_nx hc gk_14_5
  rw [hB, List.length_cons] at o2
  have hZ := dp_dn ez136 (l := (flt (fi 0) (((vik_12 0) - 1)).toInt.toNat).length) (dp_d2 o2) (flt_40 (by omega))
  rw [hB]
  exact Or.inl ⟨by decide, _, hc1, nsk_le hs (by omega), hZ, Or.inr ⟨hp26, sg_close ht hcl⟩⟩
set_option maxHeartbeats 4000000 in
theorem PL_X12_behind_5 {fi : Nat → Nat → Int32} {fl : Nat → Nat → Int64} {vi : Nat → Int32} {vl : Nat → Int64} {r : Int32} {fj : Nat → Nat → Int32} {fm : Nat → Nat → Int64} {vj : Nat → Int32} {vm : Nat → Int64} : RL_X12_behind_5 fi fl vi vl r fj fm vj vm (PS_X12_behind fi fl vi vl r fj fm vj vm) := by
  unfold RL_X12_behind_5
  intro hp0 hp1 hp2 hp3 hp4 hp5 hp6 hp7 hp8 hp9 hp10 hp11 hp12 hp13 hp14 hp15 hp16 hp17 hp18 hp19 hp20 hp21 hp22 hp23 hp24 hp25 hp26 hp27 fik flk vik vlk uk gk_0 gk_1 gk_2 gk_3 gk_4 gk_5 fik_10 flk_10 vik_10 vlk_10 rk_10 gk_10_1 tb_7 gk_10_0 fik_11 flk_11 vik_11 vlk_11 rk_11 gk_11_1 tb_9 gk_11_0 fik_12 flk_12 vik_12 vlk_12 uk_12 gk_12_0 gk_12_1 gk_12_2 gk_12_3 gk_12_4 gk_12_5 gk_12_6 fik_13 flk_13 vik_13 vlk_13 rk_13 gk_13_1 tb_11 gk_13_0 c111 fik_15 flk_15 vik_15 vlk_15 rk_15 gk_15_0 gk_15_1 gk_15_2 q0 q1 q2 q3 q4 q5 q6 q7 q8 q9 q10 q11 q12 q13 q14; subst q0
  unfold PS_X12_behind
  intro n m t hc hs hd
  (try simp only [q1, q2, q3, q4, q5, q6, q7, q8, q9, q10, q11, q12, q13, q14]); have k9_0 : (0 : Int32).toInt = 0 := (by decide); have k9_1 : (1 : Int32).toInt = 1 := (by decide); have k9_2 : (22 : Int32).toInt = 22 := (by decide)
  have hc0 := hc
  obtain ⟨hn, hm, ht, ck, cp, ce, cw, cu, cg⟩ := hc0
  obtain ⟨o1, o2, o3, o4, o5⟩ := gk_5 hs hd
  obtain ⟨p1, p2, p3, p4⟩ := gk_12_6
  have p5 := p4 (nsk_le hs o5) o3
  have p6 := Int.le_trans p3 o5
  rw [o1] at p1
  rw [o1] at o2
  have n_and : ¬ isW (trn (fi 2) n) n m t 6385252 := by
    rcases gk_10_1 with ⟨z1, z2, z3⟩ | ⟨z1, z2⟩
    · exact absurd (z1.symm.trans tb_7) (by decide)
    · exact fun c => z2 ⟨ck.trans c.1, by rw [cw c.1]; exact c.2⟩
  have n_or : ¬ isW (trn (fi 2) n) n m t 28530 := by
    rcases gk_11_1 with ⟨z1, z2, z3⟩ | ⟨z1, z2⟩
    · exact absurd (z1.symm.trans tb_9) (by decide)
    · exact fun c => z2 ⟨ck.trans c.1, by rw [cw c.1]; exact c.2⟩
  exact Or.inr ⟨by decide, gfa_c (sg_cant ht n_and n_or (Or.inr ⟨(fun c => hp27 (ck.trans c)), Or.inr (by rw [← p1]; exact flt_z (by omega))⟩)) (gk_15_2.1.trans (by decide)) (gk_15_2.2.trans cp)⟩
set_option maxHeartbeats 4000000 in
theorem PL_X12_behind_6 {fi : Nat → Nat → Int32} {fl : Nat → Nat → Int64} {vi : Nat → Int32} {vl : Nat → Int64} {r : Int32} {fj : Nat → Nat → Int32} {fm : Nat → Nat → Int64} {vj : Nat → Int32} {vm : Nat → Int64} : RL_X12_behind_6 fi fl vi vl r fj fm vj vm (PS_X12_behind fi fl vi vl r fj fm vj vm) := by
  unfold RL_X12_behind_6
  intro hp0 hp1 hp2 hp3 hp4 hp5 hp6 hp7 hp8 hp9 hp10 hp11 hp12 hp13 hp14 hp15 hp16 hp17 hp18 hp19 hp20 hp21 hp22 hp23 hp24 hp25 hp26 hp27 fik flk vik vlk uk gk_0 gk_1 gk_2 gk_3 gk_4 gk_5 fik_10 flk_10 vik_10 vlk_10 rk_10 gk_10_1 tb_7 gk_10_0 fik_11 flk_11 vik_11 vlk_11 rk_11 gk_11_1 tb_9 gk_11_0 fik_12 flk_12 vik_12 vlk_12 uk_12 gk_12_0 gk_12_1 gk_12_2 gk_12_3 gk_12_4 gk_12_5 gk_12_6 fik_13 flk_13 vik_13 vlk_13 rk_13 gk_13_1 tb_11 gk_13_0 fik_16 flk_16 vik_16 vlk_16 rk_16 gk_16_0 gk_16_1 gk_16_2 q0 q1 q2 q3 q4 q5 q6 q7 q8 q9 q10 q11 q12 q13 q14; subst q0
  unfold PS_X12_behind
  intro n m t hc hs hd
  (try simp only [q1, q2, q3, q4, q5, q6, q7, q8, q9, q10, q11, q12, q13, q14]); have k9_0 : (0 : Int32).toInt = 0 := (by decide); have k9_1 : (1 : Int32).toInt = 1 := (by decide); have k9_2 : (22 : Int32).toInt = 22 := (by decide)
  have hc0 := hc
  obtain ⟨hn, hm, ht, ck, cp, ce, cw, cu, cg⟩ := hc0
  obtain ⟨o1, o2, o3, o4, o5⟩ := gk_5 hs hd
  obtain ⟨p1, p2, p3, p4⟩ := gk_12_6
  have p5 := p4 (nsk_le hs o5) o3
  have p6 := Int.le_trans p3 o5
  rw [o1] at p1
  rw [o1] at o2
  have n_and : ¬ isW (trn (fi 2) n) n m t 6385252 := by
    rcases gk_10_1 with ⟨z1, z2, z3⟩ | ⟨z1, z2⟩
    · exact absurd (z1.symm.trans tb_7) (by decide)
    · exact fun c => z2 ⟨ck.trans c.1, by rw [cw c.1]; exact c.2⟩
  have n_or : ¬ isW (trn (fi 2) n) n m t 28530 := by
    rcases gk_11_1 with ⟨z1, z2, z3⟩ | ⟨z1, z2⟩
    · exact absurd (z1.symm.trans tb_9) (by decide)
    · exact fun c => z2 ⟨ck.trans c.1, by rw [cw c.1]; exact c.2⟩
  exact Or.inr ⟨by decide, gfa_c (sg_cant ht n_and n_or (Or.inr ⟨(fun c => hp27 (ck.trans c)), Or.inl (fun c => by rcases gk_13_1 with ⟨z1, z2, z3⟩ | ⟨z1, z2⟩; (· exact absurd (z1.symm.trans tb_11) (by decide)); (· exact z2 ⟨ck.trans c.1, (cg c.1).trans c.2⟩))⟩)) (gk_16_2.1.trans (by decide)) (gk_16_2.2.trans cp)⟩
theorem P_X12_behind {fi : Nat → Nat → Int32} {fl : Nat → Nat → Int64} {vi : Nat → Int32} {vl : Nat → Int64} {r : Int32} {fj : Nat → Nat → Int32} {fm : Nat → Nat → Int64} {vj : Nat → Int32} {vm : Nat → Int64} (h : R_X12_behind fi fl vi vl r fj fm vj vm) : ∀ n m t : Nat, CC (trn (fi 2) n) n m t (vi 2) (vi 4) (vi 5) (vi 6) (vi 3) (vl 0) (vi 8) (vi 8) → nsk (fi 0) (vi 25).toInt → (vi 26).toInt = ((flt (fi 0) ((vi 25).toInt).toNat).length : Int) + 1 → (r.toInt = 1 ∧ ∃ t' : Nat, CC (trn (fi 2) n) n m t' (vi 2) (vi 4) (vj 8) (vj 5) (vj 4) (vm 0) (vj 7) (vj 7) ∧ nsk (fj 1) (vj 0).toInt ∧ (vj 1).toInt = ((flt (fj 1) ((vj 0).toInt).toNat).length : Int) + 1 ∧ (((vj 3).toInt = 0 ∧ gto n (SF (trn (fi 2) n) n m (ownB (fl 0)) (fl 1) ((fi 3) 0).toInt (sps (flt (fi 0) ((vi 25).toInt).toNat)) true (vi 24).toInt t) t (SF (trn (fi 2) n) n m (ownB (fl 0)) (fl 1) ((fi 3) 0).toInt (flt (fj 1) ((vj 0).toInt).toNat) false (vi 24).toInt t') t') ∨ ((vj 3).toInt = 1 ∧ gto n (SF (trn (fi 2) n) n m (ownB (fl 0)) (fl 1) ((fi 3) 0).toInt (sps (flt (fi 0) ((vi 25).toInt).toNat)) true (vi 24).toInt t) t (SF (trn (fi 2) n) n m (ownB (fl 0)) (fl 1) ((fi 3) 0).toInt (sps (flt (fj 1) ((vj 0).toInt).toNat)) true (vi 24).toInt t') t'))) ∨ (r.toInt = 0 ∧ gfa n (SF (trn (fi 2) n) n m (ownB (fl 0)) (fl 1) ((fi 3) 0).toInt (sps (flt (fi 0) ((vi 25).toInt).toNat)) true (vi 24).toInt t) t (vj 9).toInt (vj 10).toInt) := h (PS_X12_behind fi fl vi vl r fj fm vj vm) PL_X12_behind_0 PL_X12_behind_1 PL_X12_behind_2 PL_X12_behind_3 PL_X12_behind_4 PL_X12_behind_5 PL_X12_behind_6
def RL_X12_sentence_0 (fi : Nat → Nat → Int32) (fl : Nat → Nat → Int64) (vi : Nat → Int32) (vl : Nat → Int64) (r : Int32) (fj : Nat → Nat → Int32) (fm : Nat → Nat → Int64) (vj : Nat → Int32) (vm : Nat → Int64) (Q9 : Prop) : Prop :=
  (0 ≤ (vi 1).toInt ∧ (vi 1).toInt ≤ 940) → (0 ≤ (vi 2).toInt ∧ (vi 2).toInt ≤ 940) → (0 ≤ (vi 3).toInt ∧ (vi 3).toInt ≤ 940) → (0 ≤ (vi 4).toInt ∧ (vi 4).toInt ≤ 940) → (0 ≤ (vi 5).toInt ∧ (vi 5).toInt ≤ 4) → (0 ≤ (vi 6).toInt ∧ (vi 6).toInt ≤ 940) → (0 ≤ (vi 10).toInt ∧ (vi 10).toInt ≤ 940) → (0 ≤ (vi 14).toInt ∧ (vi 14).toInt ≤ 4) → (-1 ≤ (vi 15).toInt ∧ (vi 15).toInt ≤ 9) → (0 ≤ (vi 21).toInt ∧ (vi 21).toInt ≤ 40) → (0 ≤ (vi 23).toInt ∧ (vi 23).toInt ≤ 40) → (0 ≤ (vi 24).toInt ∧ (vi 24).toInt ≤ 20) → (0 ≤ (vi 25).toInt ∧ (vi 25).toInt ≤ 40) → (0 ≤ (vi 27).toInt ∧ (vi 27).toInt ≤ 1) → (rg (fi 0) 0 940 (-128) 127) → (rg (fi 1) 0 1 0 9) → (rg (fi 1) 1 2 0 9) → (rg (fi 1) 38 47 0 9) → (rg (fi 1) 47 56 0 9) → (rg (fi 1) 146 147 0 200) → (rg (fi 1) 151 152 0 9) → (rg (fi 1) 152 161 0 8) → (rg (fi 1) 161 170 0 9) → (rg (fi 1) 2006 2007 0 45) → ∀ (fik : Nat → Nat → Int32), ∀ (flk : Nat → Nat → Int64), ∀ (vik : Nat → Int32), ∀ (vlk : Nat → Int64), ∀ (uk : Int32), (0 ≤ (vik 1).toInt ∧ (vik 1).toInt ≤ 940) → (0 ≤ (vik 0).toInt ∧ (vik 0).toInt ≤ 940) → (0 ≤ (vik 2).toInt ∧ (vik 2).toInt ≤ 940) → (0 ≤ (vik 3).toInt ∧ (vik 3).toInt ≤ 940) → ((vik 1).toInt = 0) → ((vik 0).toInt = (vi 1).toInt ∧ (vik 2).toInt = 0 ∧ (vik 3).toInt = (200 : Int32).toInt) → ∀ (fik_1 : Nat → Nat → Int32), ∀ (flk_1 : Nat → Nat → Int64), ∀ (vik_1 : Nat → Int32), ∀ (vlk_1 : Nat → Int64), ∀ (uk_1 : Int32), (0 ≤ (vik_1 0).toInt ∧ (vik_1 0).toInt ≤ 940) → (0 ≤ (vik_1 4).toInt ∧ (vik_1 4).toInt ≤ 4) → (0 ≤ (vik_1 1).toInt ∧ (vik_1 1).toInt ≤ 940) → ((vik 2).toInt ≤ (vik_1 0).toInt) → ((vik_1 4).toInt = 0 ∨ (vik_1 4).toInt = 4 ∨ (vik 2).toInt < (vik_1 0).toInt) → (∀ n m : Nat, (vik 0).toInt = (n : Int) → (vik 3).toInt = (m : Int) → (vik 2).toInt ≤ (vik 0).toInt → CC (trn (fi 0) n) n m ((vik 2).toInt).toNat (vik 0) (vik 3) (vik_1 4) (vik_1 1) (vik_1 0) (vlk_1 0) (vik_1 3) (vik_1 3)) → ∀ (w1 : Int32), ∀ (wv : Int32), ∀ (wv_1 : Int32), ∀ (wv_2 : Int32), ∀ (wv_3 : Int32), ∀ (wv_4 : Int32), ∀ (wv_5 : Int32), ∀ (wv_6 : Int32), ∀ (wv_7 : Int32), ∀ (wv_8 : Int32), ∀ (wv_9 : Int64), ∀ (wv_10 : Int32), ∀ (wv_11 : Int32), ∀ (wv_12 : Int32), ∀ (wf : Nat → Int32), ∀ (wf_1 : Nat → Int32), ∀ (wv_13 : Int32), (0 ≤ w1.toInt ∧ w1.toInt ≤ 1) → (0 ≤ wv.toInt ∧ wv.toInt ≤ 940) → (0 ≤ wv_2.toInt ∧ wv_2.toInt ≤ 40) → (0 ≤ wv_3.toInt ∧ wv_3.toInt ≤ 20) → (0 ≤ wv_4.toInt ∧ wv_4.toInt ≤ 40) → (0 ≤ wv_6.toInt ∧ wv_6.toInt ≤ 1) → (0 ≤ wv_7.toInt ∧ wv_7.toInt ≤ 940) → (0 ≤ wv_11.toInt ∧ wv_11.toInt ≤ 4) → (0 ≤ wv_12.toInt ∧ wv_12.toInt ≤ 940) → (sj wf_1 wf wv_2 wv_4 (wv_6).toInt) → ((wv_4).toInt + (wv_2).toInt + (wv_6).toInt ≤ 2 * (wv_3).toInt) → (SEP (fi 0) (ownB (fl 0)) (fl 1) ((fi 1) 0).toInt (vik 0) (vik 3) wv_11 wv_7 wv wv_9 wv_10 wf wv_4 wv_5 wv_6 wv_3 w1.toInt) → ((wv_1).toInt = 0) → (w1.toInt = 0) → ∀ (f143 : Nat → Int32), (f143 = upd (fi 1) (2006 : Int32).toNatClampNeg (wv_2 : Int32)) → ∀ (w2 : Int32), ∀ (wf_2 : Nat → Int32), (0 ≤ w2.toInt ∧ w2.toInt ≤ 120) → (rg wf_2 0 1 0 9) → (rg wf_2 1 2 0 9) → (rg wf_2 38 47 0 9) → (rg wf_2 47 56 0 9) → (rg wf_2 146 147 0 200) → (rg wf_2 151 152 0 9) → (rg wf_2 152 161 0 8) → (rg wf_2 161 170 0 9) → (rg wf_2 2006 2007 0 45) → (mi wf_2 146) → ((wf_2 2006) = wv_2 ∧ (∀ j : Nat, (j : Int) < w2.toInt → wf_2 (2007 + j) = wf_1 j)) → (∀ n : Nat, n < 146 → wf_2 n = (fi 1) n) → ((3 * wv_2).toInt = 3 * wv_2.toInt) → ((3 * wv_2).toInt ≤ w2.toInt) → (r = wv_3) → (fj 0 = wf_2) → (fj 1 = wf) → (fj 2 = wf_1) → (vj 0 = (0 : Int32)) → (vj 1 = (vik 0)) → (vj 2 = (vik 1)) → (vj 3 = wv) → (vj 4 = (vik 3)) → (vj 5 = wv_1) → (vj 6 = wv_2) → (vj 7 = wv_3) → (vj 8 = wv_4) → (vj 9 = wv_5) → (vj 10 = wv_6) → (vj 11 = wv_7) → (vj 12 = wv_8) → (vj 13 = wv_10) → (vj 14 = wv_11) → (vj 15 = wv_12) → (vj 16 = wv_13) → (vm 0 = wv_9) → Q9
