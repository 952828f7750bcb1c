set_option maxHeartbeats 4000000 in
theorem PL_X4_readDeed_5 {fi : Nat → Nat → Int32} {fl : Nat → Nat → Int64} {vi : Nat → Int32} {vl : Nat → Int64} {r : Int32} {fj : Nat → Nat → Int32} {fm : Nat → Nat → Int64} {vj : Nat → Int32} {vm : Nat → Int64} : RL_X4_readDeed_5 fi fl vi vl r fj fm vj vm (PS_X4_readDeed fi fl vi vl r fj fm vj vm) := by
  unfold RL_X4_readDeed_5
  intro hp0 hp1 hp2 hp3 hp4 hp5 hp6 hp7 hp8 fik flk vik vlk rk gk_1 tb gk_0 fik_5 flk_5 vik_5 vlk_5 rk_5 gk_5_1 tb_2 gk_5_0 fik_10 flk_10 vik_10 vlk_10 rk_10 gk_10_1 tb_4 gk_10_0 fik_11 flk_11 vik_11 vlk_11 rk_11 gk_11_0 gk_11_1 gk_11_2 fik_12 flk_12 vik_12 vlk_12 rk_12 gk_12_0 gk_12_1 gk_12_2 gk_12_3 fik_13 flk_13 vik_13 vlk_13 rk_13 gk_13_0 gk_13_1 fik_14 flk_14 vik_14 vlk_14 rk_14 gk_14_1 gk_14_2 gk_14_3 gk_14_4 gk_14_5 tb_5 gk_14_0 q0 q1 q2 q3 q4 q5 q6 q7 q8 q9 q10; subst q0
  unfold PS_X4_readDeed
  intro n m t hc
  (try simp only [q1, q2, q3, q4, q5, q6, q7, q8, q9, q10]); have k9_0 : (0 : Int32).toInt = 0 := (by decide); have k9_1 : (1 : Int32).toInt = 1 := (by decide); have k9_2 : (2 : Int32).toInt = 2 := (by decide)
  have hc0 := hc
  obtain ⟨hn, hm, ht, ck, cp, ce, cw, cu, cg⟩ := hc0
  have n_takes : ¬ isW (trn (fi 1) n) n m t 499850634611 := by
    rcases gk_1 with ⟨z1, z2, z3⟩ | ⟨z1, z2⟩
    · exact absurd (z1.symm.trans tb) (by decide)
    · exact fun c => z2 ⟨ck.trans c.1, by rw [cw c.1]; exact c.2⟩
  have n_swaps : ¬ isW (trn (fi 1) n) n m t 495924113523 := by
    rcases gk_5_1 with ⟨z1, z2, z3⟩ | ⟨z1, z2⟩
    · exact absurd (z1.symm.trans tb_2) (by decide)
    · exact fun c => z2 ⟨ck.trans c.1, by rw [cw c.1]; exact c.2⟩
  have y_sells : isW (trn (fi 1) n) n m t 495622843507 := by
    rcases gk_10_1 with ⟨z1, z2, z3⟩ | ⟨z1, z2⟩
    · exact ⟨ck.symm.trans z2, by rw [← cw (ck.symm.trans z2)]; exact z3⟩
    · exact absurd (z1.symm.trans tb_4) (by decide)
  have hc1 := CC_nx hc gk_12_3
  obtain ⟨hn1, hm1, ht1, dk, dp, de, dw, du, dg⟩ := id hc1
  rcases gk_14_5 n m _ hc1 with ⟨a1, a2, a3, a4, a5⟩ | ⟨a1, a2, a3, a4⟩ | ⟨a1, a2, a3, a4, a5⟩
  · exact absurd (a1.symm.trans tb_5) (by decide)
  · exact Or.inr ⟨by decide, by unfold rld; rw [if_neg n_takes, if_neg n_swaps, if_pos y_sells]; exact rkn_b (fKn_1 a2) (by decide) a3 a4⟩
  · have hfo := kn_of dw gk_13_1 a2
    exact Or.inr ⟨by decide, by unfold rld; rw [if_neg n_takes, if_neg n_swaps, if_pos y_sells]; exact rkn_b (fKn_3 a2 (by omega)) (by decide) a4 a5⟩
set_option maxHeartbeats 4000000 in
theorem PL_X4_readDeed_6 {fi : Nat → Nat → Int32} {fl : Nat → Nat → Int64} {vi : Nat → Int32} {vl : Nat → Int64} {r : Int32} {fj : Nat → Nat → Int32} {fm : Nat → Nat → Int64} {vj : Nat → Int32} {vm : Nat → Int64} : RL_X4_readDeed_6 fi fl vi vl r fj fm vj vm (PS_X4_readDeed fi fl vi vl r fj fm vj vm) := by
  unfold RL_X4_readDeed_6
  intro hp0 hp1 hp2 hp3 hp4 hp5 hp6 hp7 hp8 fik flk vik vlk rk gk_1 tb gk_0 fik_5 flk_5 vik_5 vlk_5 rk_5 gk_5_1 tb_2 gk_5_0 fik_10 flk_10 vik_10 vlk_10 rk_10 gk_10_1 tb_4 gk_10_0 fik_15 flk_15 vik_15 vlk_15 rk_15 gk_15_1 tb_6 gk_15_0 fik_16 flk_16 vik_16 vlk_16 rk_16 gk_16_0 gk_16_1 gk_16_2 fik_17 flk_17 vik_17 vlk_17 rk_17 gk_17_0 gk_17_1 gk_17_2 gk_17_3 q0 q1 q2 q3 q4 q5 q6 q7 q8 q9 q10; subst q0
  unfold PS_X4_readDeed
  intro n m t hc
  (try simp only [q1, q2, q3, q4, q5, q6, q7, q8, q9, q10]); have k9_0 : (0 : Int32).toInt = 0 := (by decide); have k9_1 : (1 : Int32).toInt = 1 := (by decide); have k9_2 : (3 : Int32).toInt = 3 := (by decide)
  have hc0 := hc
  obtain ⟨hn, hm, ht, ck, cp, ce, cw, cu, cg⟩ := hc0
  have n_takes : ¬ isW (trn (fi 1) n) n m t 499850634611 := by
    rcases gk_1 with ⟨z1, z2, z3⟩ | ⟨z1, z2⟩
    · exact absurd (z1.symm.trans tb) (by decide)
    · exact fun c => z2 ⟨ck.trans c.1, by rw [cw c.1]; exact c.2⟩
  have n_swaps : ¬ isW (trn (fi 1) n) n m t 495924113523 := by
    rcases gk_5_1 with ⟨z1, z2, z3⟩ | ⟨z1, z2⟩
    · exact absurd (z1.symm.trans tb_2) (by decide)
    · exact fun c => z2 ⟨ck.trans c.1, by rw [cw c.1]; exact c.2⟩
  have n_sells : ¬ isW (trn (fi 1) n) n m t 495622843507 := by
    rcases gk_10_1 with ⟨z1, z2, z3⟩ | ⟨z1, z2⟩
    · exact absurd (z1.symm.trans tb_4) (by decide)
    · exact fun c => z2 ⟨ck.trans c.1, by rw [cw c.1]; exact c.2⟩
  have y_dies : isW (trn (fi 1) n) n m t 1684628851 := by
    rcases gk_15_1 with ⟨z1, z2, z3⟩ | ⟨z1, z2⟩
    · exact ⟨ck.symm.trans z2, by rw [← cw (ck.symm.trans z2)]; exact z3⟩
    · exact absurd (z1.symm.trans tb_6) (by decide)
  have hc1 := CC_nx hc gk_17_3
  exact Or.inl ⟨by decide, _, by unfold rld; rw [if_neg n_takes, if_neg n_swaps, if_neg n_sells, if_pos y_dies], hc1⟩
set_option maxHeartbeats 4000000 in
theorem PL_X4_readDeed_7 {fi : Nat → Nat → Int32} {fl : Nat → Nat → Int64} {vi : Nat → Int32} {vl : Nat → Int64} {r : Int32} {fj : Nat → Nat → Int32} {fm : Nat → Nat → Int64} {vj : Nat → Int32} {vm : Nat → Int64} : RL_X4_readDeed_7 fi fl vi vl r fj fm vj vm (PS_X4_readDeed fi fl vi vl r fj fm vj vm) := by
  unfold RL_X4_readDeed_7
  intro hp0 hp1 hp2 hp3 hp4 hp5 hp6 hp7 hp8 fik flk vik vlk rk gk_1 tb gk_0 fik_5 flk_5 vik_5 vlk_5 rk_5 gk_5_1 tb_2 gk_5_0 fik_10 flk_10 vik_10 vlk_10 rk_10 gk_10_1 tb_4 gk_10_0 fik_15 flk_15 vik_15 vlk_15 rk_15 gk_15_1 tb_6 gk_15_0 fik_18 flk_18 vik_18 vlk_18 rk_18 gk_18_1 tb_7 gk_18_0 fik_19 flk_19 vik_19 vlk_19 rk_19 gk_19_0 gk_19_1 gk_19_2 fik_20 flk_20 vik_20 vlk_20 rk_20 gk_20_0 gk_20_1 gk_20_2 gk_20_3 q0 q1 q2 q3 q4 q5 q6 q7 q8 q9 q10; subst q0
  unfold PS_X4_readDeed
  intro n m t hc
  (try simp only [q1, q2, q3, q4, q5, q6, q7, q8, q9, q10]); have k9_0 : (0 : Int32).toInt = 0 := (by decide); have k9_1 : (1 : Int32).toInt = 1 := (by decide); have k9_2 : (7 : Int32).toInt = 7 := (by decide)
  have hc0 := hc
  obtain ⟨hn, hm, ht, ck, cp, ce, cw, cu, cg⟩ := hc0
  have n_takes : ¬ isW (trn (fi 1) n) n m t 499850634611 := by
    rcases gk_1 with ⟨z1, z2, z3⟩ | ⟨z1, z2⟩
    · exact absurd (z1.symm.trans tb) (by decide)
    · exact fun c => z2 ⟨ck.trans c.1, by rw [cw c.1]; exact c.2⟩
  have n_swaps : ¬ isW (trn (fi 1) n) n m t 495924113523 := by
    rcases gk_5_1 with ⟨z1, z2, z3⟩ | ⟨z1, z2⟩
    · exact absurd (z1.symm.trans tb_2) (by decide)
    · exact fun c => z2 ⟨ck.trans c.1, by rw [cw c.1]; exact c.2⟩
  have n_sells : ¬ isW (trn (fi 1) n) n m t 495622843507 := by
    rcases gk_10_1 with ⟨z1, z2, z3⟩ | ⟨z1, z2⟩
    · exact absurd (z1.symm.trans tb_4) (by decide)
    · exact fun c => z2 ⟨ck.trans c.1, by rw [cw c.1]; exact c.2⟩
  have n_dies : ¬ isW (trn (fi 1) n) n m t 1684628851 := by
    rcases gk_15_1 with ⟨z1, z2, z3⟩ | ⟨z1, z2⟩
    · exact absurd (z1.symm.trans tb_6) (by decide)
    · exact fun c => z2 ⟨ck.trans c.1, by rw [cw c.1]; exact c.2⟩
  have y_hangs : isW (trn (fi 1) n) n m t 448311224179 := by
    rcases gk_18_1 with ⟨z1, z2, z3⟩ | ⟨z1, z2⟩
    · exact ⟨ck.symm.trans z2, by rw [← cw (ck.symm.trans z2)]; exact z3⟩
    · exact absurd (z1.symm.trans tb_7) (by decide)
  have hc1 := CC_nx hc gk_20_3
  exact Or.inl ⟨by decide, _, by unfold rld; rw [if_neg n_takes, if_neg n_swaps, if_neg n_sells, if_neg n_dies, if_pos y_hangs], hc1⟩
set_option maxHeartbeats 4000000 in
theorem PL_X4_readDeed_8 {fi : Nat → Nat → Int32} {fl : Nat → Nat → Int64} {vi : Nat → Int32} {vl : Nat → Int64} {r : Int32} {fj : Nat → Nat → Int32} {fm : Nat → Nat → Int64} {vj : Nat → Int32} {vm : Nat → Int64} : RL_X4_readDeed_8 fi fl vi vl r fj fm vj vm (PS_X4_readDeed fi fl vi vl r fj fm vj vm) := by
  unfold RL_X4_readDeed_8
  intro hp0 hp1 hp2 hp3 hp4 hp5 hp6 hp7 hp8 fik flk vik vlk rk gk_1 tb gk_0 fik_5 flk_5 vik_5 vlk_5 rk_5 gk_5_1 tb_2 gk_5_0 fik_10 flk_10 vik_10 vlk_10 rk_10 gk_10_1 tb_4 gk_10_0 fik_15 flk_15 vik_15 vlk_15 rk_15 gk_15_1 tb_6 gk_15_0 fik_18 flk_18 vik_18 vlk_18 rk_18 gk_18_1 tb_7 gk_18_0 fik_21 flk_21 vik_21 vlk_21 rk_21 gk_21_1 tb_8 gk_21_0 fik_22 flk_22 vik_22 vlk_22 rk_22 gk_22_0 gk_22_1 gk_22_2 fik_23 flk_23 vik_23 vlk_23 rk_23 gk_23_0 gk_23_1 gk_23_2 gk_23_3 q0 q1 q2 q3 q4 q5 q6 q7 q8 q9 q10; subst q0
  unfold PS_X4_readDeed
  intro n m t hc
  (try simp only [q1, q2, q3, q4, q5, q6, q7, q8, q9, q10]); have k9_0 : (0 : Int32).toInt = 0 := (by decide); have k9_1 : (1 : Int32).toInt = 1 := (by decide); have k9_2 : (4 : Int32).toInt = 4 := (by decide)
  have hc0 := hc
  obtain ⟨hn, hm, ht, ck, cp, ce, cw, cu, cg⟩ := hc0
  have n_takes : ¬ isW (trn (fi 1) n) n m t 499850634611 := by
    rcases gk_1 with ⟨z1, z2, z3⟩ | ⟨z1, z2⟩
    · exact absurd (z1.symm.trans tb) (by decide)
    · exact fun c => z2 ⟨ck.trans c.1, by rw [cw c.1]; exact c.2⟩
  have n_swaps : ¬ isW (trn (fi 1) n) n m t 495924113523 := by
    rcases gk_5_1 with ⟨z1, z2, z3⟩ | ⟨z1, z2⟩
    · exact absurd (z1.symm.trans tb_2) (by decide)
    · exact fun c => z2 ⟨ck.trans c.1, by rw [cw c.1]; exact c.2⟩
  have n_sells : ¬ isW (trn (fi 1) n) n m t 495622843507 := by
    rcases gk_10_1 with ⟨z1, z2, z3⟩ | ⟨z1, z2⟩
    · exact absurd (z1.symm.trans tb_4) (by decide)
    · exact fun c => z2 ⟨ck.trans c.1, by rw [cw c.1]; exact c.2⟩
  have n_dies : ¬ isW (trn (fi 1) n) n m t 1684628851 := by
    rcases gk_15_1 with ⟨z1, z2, z3⟩ | ⟨z1, z2⟩
    · exact absurd (z1.symm.trans tb_6) (by decide)
    · exact fun c => z2 ⟨ck.trans c.1, by rw [cw c.1]; exact c.2⟩
  have n_hangs : ¬ isW (trn (fi 1) n) n m t 448311224179 := by
    rcases gk_18_1 with ⟨z1, z2, z3⟩ | ⟨z1, z2⟩
    · exact absurd (z1.symm.trans tb_7) (by decide)
    · exact fun c => z2 ⟨ck.trans c.1, by rw [cw c.1]; exact c.2⟩
  have y_flees : isW (trn (fi 1) n) n m t 439905248627 := by
    rcases gk_21_1 with ⟨z1, z2, z3⟩ | ⟨z1, z2⟩
    · exact ⟨ck.symm.trans z2, by rw [← cw (ck.symm.trans z2)]; exact z3⟩
    · exact absurd (z1.symm.trans tb_8) (by decide)
  have hc1 := CC_nx hc gk_23_3
  exact Or.inl ⟨by decide, _, by unfold rld; rw [if_neg n_takes, if_neg n_swaps, if_neg n_sells, if_neg n_dies, if_neg n_hangs, if_pos y_flees], hc1⟩
set_option maxHeartbeats 4000000 in
theorem PL_X4_readDeed_9 {fi : Nat → Nat → Int32} {fl : Nat → Nat → Int64} {vi : Nat → Int32} {vl : Nat → Int64} {r : Int32} {fj : Nat → Nat → Int32} {fm : Nat → Nat → Int64} {vj : Nat → Int32} {vm : Nat → Int64} : RL_X4_readDeed_9 fi fl vi vl r fj fm vj vm (PS_X4_readDeed fi fl vi vl r fj fm vj vm) := by
  unfold RL_X4_readDeed_9
  intro hp0 hp1 hp2 hp3 hp4 hp5 hp6 hp7 hp8 fik flk vik vlk rk gk_1 tb gk_0 fik_5 flk_5 vik_5 vlk_5 rk_5 gk_5_1 tb_2 gk_5_0 fik_10 flk_10 vik_10 vlk_10 rk_10 gk_10_1 tb_4 gk_10_0 fik_15 flk_15 vik_15 vlk_15 rk_15 gk_15_1 tb_6 gk_15_0 fik_18 flk_18 vik_18 vlk_18 rk_18 gk_18_1 tb_7 gk_18_0 fik_21 flk_21 vik_21 vlk_21 rk_21 gk_21_1 tb_8 gk_21_0 fik_24 flk_24 vik_24 vlk_24 rk_24 gk_24_1 tb_9 gk_24_0 fik_25 flk_25 vik_25 vlk_25 rk_25 gk_25_0 gk_25_1 gk_25_2 fik_26 flk_26 vik_26 vlk_26 rk_26 gk_26_0 gk_26_1 gk_26_2 gk_26_3 fik_27 flk_27 vik_27 vlk_27 rk_27 gk_27_1 gk_27_2 gk_27_3 gk_27_4 gk_27_5 tb_10 gk_27_0 q0 q1 q2 q3 q4 q5 q6 q7 q8 q9 q10; subst q0
  unfold PS_X4_readDeed
  intro n m t hc
  (try simp only [q1, q2, q3, q4, q5, q6, q7, q8, q9, q10]); have k9_0 : (0 : Int32).toInt = 0 := (by decide); have k9_1 : (1 : Int32).toInt = 1 := (by decide); have k9_2 : (5 : Int32).toInt = 5 := (by decide)
  have hc0 := hc
  obtain ⟨hn, hm, ht, ck, cp, ce, cw, cu, cg⟩ := hc0
  have n_takes : ¬ isW (trn (fi 1) n) n m t 499850634611 := by
    rcases gk_1 with ⟨z1, z2, z3⟩ | ⟨z1, z2⟩
    · exact absurd (z1.symm.trans tb) (by decide)
    · exact fun c => z2 ⟨ck.trans c.1, by rw [cw c.1]; exact c.2⟩
  have n_swaps : ¬ isW (trn (fi 1) n) n m t 495924113523 := by
    rcases gk_5_1 with ⟨z1, z2, z3⟩ | ⟨z1, z2⟩
    · exact absurd (z1.symm.trans tb_2) (by decide)
    · exact fun c => z2 ⟨ck.trans c.1, by rw [cw c.1]; exact c.2⟩
  have n_sells : ¬ isW (trn (fi 1) n) n m t 495622843507 := by
    rcases gk_10_1 with ⟨z1, z2, z3⟩ | ⟨z1, z2⟩
    · exact absurd (z1.symm.trans tb_4) (by decide)
    · exact fun c => z2 ⟨ck.trans c.1, by rw [cw c.1]; exact c.2⟩
  have n_dies : ¬ isW (trn (fi 1) n) n m t 1684628851 := by
    rcases gk_15_1 with ⟨z1, z2, z3⟩ | ⟨z1, z2⟩
    · exact absurd (z1.symm.trans tb_6) (by decide)
    · exact fun c => z2 ⟨ck.trans c.1, by rw [cw c.1]; exact c.2⟩
  have n_hangs : ¬ isW (trn (fi 1) n) n m t 448311224179 := by
    rcases gk_18_1 with ⟨z1, z2, z3⟩ | ⟨z1, z2⟩
    · exact absurd (z1.symm.trans tb_7) (by decide)
    · exact fun c => z2 ⟨ck.trans c.1, by rw [cw c.1]; exact c.2⟩
  have n_flees : ¬ isW (trn (fi 1) n) n m t 439905248627 := by
    rcases gk_21_1 with ⟨z1, z2, z3⟩ | ⟨z1, z2⟩
    · exact absurd (z1.symm.trans tb_8) (by decide)
    · exact fun c => z2 ⟨ck.trans c.1, by rw [cw c.1]; exact c.2⟩
  have y_pays : isW (trn (fi 1) n) n m t 1885436275 := by
    rcases gk_24_1 with ⟨z1, z2, z3⟩ | ⟨z1, z2⟩
    · exact ⟨ck.symm.trans z2, by rw [← cw (ck.symm.trans z2)]; exact z3⟩
    · exact absurd (z1.symm.trans tb_9) (by decide)
  have hc1 := CC_nx hc gk_26_3
  obtain ⟨hn1, hm1, ht1, dk, dp, de, dw, du, dg⟩ := id hc1
  rcases gk_27_5 n m _ hc1 with ⟨b1, b2, b3, b4, b5, b6, b7⟩ | ⟨b1, b2, b3, b4⟩
  · exact Or.inl ⟨by decide, _, by unfold rld; rw [if_neg n_takes, if_neg n_swaps, if_neg n_sells, if_neg n_dies, if_neg n_hangs, if_neg n_flees, if_pos y_pays]; exact rnu_g b2, b7⟩
  · exact absurd (b1.symm.trans tb_10) (by decide)
set_option maxHeartbeats 4000000 in
theorem PL_X4_readDeed_10 {fi : Nat → Nat → Int32} {fl : Nat → Nat → Int64} {vi : Nat → Int32} {vl : Nat → Int64} {r : Int32} {fj : Nat → Nat → Int32} {fm : Nat → Nat → Int64} {vj : Nat → Int32} {vm : Nat → Int64} : RL_X4_readDeed_10 fi fl vi vl r fj fm vj vm (PS_X4_readDeed fi fl vi vl r fj fm vj vm) := by
  unfold RL_X4_readDeed_10
  intro hp0 hp1 hp2 hp3 hp4 hp5 hp6 hp7 hp8 fik flk vik vlk rk gk_1 tb gk_0 fik_5 flk_5 vik_5 vlk_5 rk_5 gk_5_1 tb_2 gk_5_0 fik_10 flk_10 vik_10 vlk_10 rk_10 gk_10_1 tb_4 gk_10_0 fik_15 flk_15 vik_15 vlk_15 rk_15 gk_15_1 tb_6 gk_15_0 fik_18 flk_18 vik_18 vlk_18 rk_18 gk_18_1 tb_7 gk_18_0 fik_21 flk_21 vik_21 vlk_21 rk_21 gk_21_1 tb_8 gk_21_0 fik_24 flk_24 vik_24 vlk_24 rk_24 gk_24_1 tb_9 gk_24_0 fik_25 flk_25 vik_25 vlk_25 rk_25 gk_25_0 gk_25_1 gk_25_2 fik_26 flk_26 vik_26 vlk_26 rk_26 gk_26_0 gk_26_1 gk_26_2 gk_26_3 fik_27 flk_27 vik_27 vlk_27 rk_27 gk_27_1 gk_27_2 gk_27_3 gk_27_4 gk_27_5 tb_10 gk_27_0 q0 q1 q2 q3 q4 q5 q6 q7 q8 q9 q10; subst q0
  unfold PS_X4_readDeed
  intro n m t hc
  (try simp only [q1, q2, q3, q4, q5, q6, q7, q8, q9, q10]); have k9_0 : (0 : Int32).toInt = 0 := (by decide); have k9_1 : (1 : Int32).toInt = 1 := (by decide); have k9_2 : (5 : Int32).toInt = 5 := (by decide)
  have hc0 := hc
  obtain ⟨hn, hm, ht, ck, cp, ce, cw, cu, cg⟩ := hc0
  have n_takes : ¬ isW (trn (fi 1) n) n m t 499850634611 := by
    rcases gk_1 with ⟨z1, z2, z3⟩ | ⟨z1, z2⟩
    · exact absurd (z1.symm.trans tb) (by decide)
    · exact fun c => z2 ⟨ck.trans c.1, by rw [cw c.1]; exact c.2⟩
  have n_swaps : ¬ isW (trn (fi 1) n) n m t 495924113523 := by
    rcases gk_5_1 with ⟨z1, z2, z3⟩ | ⟨z1, z2⟩
    · exact absurd (z1.symm.trans tb_2) (by decide)
    · exact fun c => z2 ⟨ck.trans c.1, by rw [cw c.1]; exact c.2⟩
  have n_sells : ¬ isW (trn (fi 1) n) n m t 495622843507 := by
    rcases gk_10_1 with ⟨z1, z2, z3⟩ | ⟨z1, z2⟩
    · exact absurd (z1.symm.trans tb_4) (by decide)
    · exact fun c => z2 ⟨ck.trans c.1, by rw [cw c.1]; exact c.2⟩
  have n_dies : ¬ isW (trn (fi 1) n) n m t 1684628851 := by
    rcases gk_15_1 with ⟨z1, z2, z3⟩ | ⟨z1, z2⟩
    · exact absurd (z1.symm.trans tb_6) (by decide)
    · exact fun c => z2 ⟨ck.trans c.1, by rw [cw c.1]; exact c.2⟩
  have n_hangs : ¬ isW (trn (fi 1) n) n m t 448311224179 := by
    rcases gk_18_1 with ⟨z1, z2, z3⟩ | ⟨z1, z2⟩
    · exact absurd (z1.symm.trans tb_7) (by decide)
    · exact fun c => z2 ⟨ck.trans c.1, by rw [cw c.1]; exact c.2⟩
  have n_flees : ¬ isW (trn (fi 1) n) n m t 439905248627 := by
    rcases gk_21_1 with ⟨z1, z2, z3⟩ | ⟨z1, z2⟩
    · exact absurd (z1.symm.trans tb_8) (by decide)
    · exact fun c => z2 ⟨ck.trans c.1, by rw [cw c.1]; exact c.2⟩
  have y_pays : isW (trn (fi 1) n) n m t 1885436275 := by
    rcases gk_24_1 with ⟨z1, z2, z3⟩ | ⟨z1, z2⟩
    · exact ⟨ck.symm.trans z2, by rw [← cw (ck.symm.trans z2)]; exact z3⟩
    · exact absurd (z1.symm.trans tb_9) (by decide)
  have hc1 := CC_nx hc gk_26_3
  obtain ⟨hn1, hm1, ht1, dk, dp, de, dw, du, dg⟩ := id hc1
  rcases gk_27_5 n m _ hc1 with ⟨b1, b2, b3, b4, b5, b6, b7⟩ | ⟨b1, b2, b3, b4⟩
  · exact absurd (b1.symm.trans tb_10) (by decide)
  · exact Or.inr ⟨by decide, by unfold rld; rw [if_neg n_takes, if_neg n_swaps, if_neg n_sells, if_neg n_dies, if_neg n_hangs, if_neg n_flees, if_pos y_pays]; exact rnu_b b2 b3 b4⟩
set_option maxHeartbeats 4000000 in
theorem PL_X4_readDeed_11 {fi : Nat → Nat → Int32} {fl : Nat → Nat → Int64} {vi : Nat → Int32} {vl : Nat → Int64} {r : Int32} {fj : Nat → Nat → Int32} {fm : Nat → Nat → Int64} {vj : Nat → Int32} {vm : Nat → Int64} : RL_X4_readDeed_11 fi fl vi vl r fj fm vj vm (PS_X4_readDeed fi fl vi vl r fj fm vj vm) := by
  unfold RL_X4_readDeed_11
  intro hp0 hp1 hp2 hp3 hp4 hp5 hp6 hp7 hp8 fik flk vik vlk rk gk_1 tb gk_0 fik_5 flk_5 vik_5 vlk_5 rk_5 gk_5_1 tb_2 gk_5_0 fik_10 flk_10 vik_10 vlk_10 rk_10 gk_10_1 tb_4 gk_10_0 fik_15 flk_15 vik_15 vlk_15 rk_15 gk_15_1 tb_6 gk_15_0 fik_18 flk_18 vik_18 vlk_18 rk_18 gk_18_1 tb_7 gk_18_0 fik_21 flk_21 vik_21 vlk_21 rk_21 gk_21_1 tb_8 gk_21_0 fik_24 flk_24 vik_24 vlk_24 rk_24 gk_24_1 tb_9 gk_24_0 fik_28 flk_28 vik_28 vlk_28 rk_28 gk_28_0 gk_28_1 gk_28_2 q0 q1 q2 q3 q4 q5 q6 q7 q8 q9 q10; subst q0
  unfold PS_X4_readDeed
  intro n m t hc
  (try simp only [q1, q2, q3, q4, q5, q6, q7, q8, q9, q10]); have k9_0 : (0 : Int32).toInt = 0 := (by decide); have k9_1 : (1 : Int32).toInt = 1 := (by decide)
  have hc0 := hc
  obtain ⟨hn, hm, ht, ck, cp, ce, cw, cu, cg⟩ := hc0
  have n_takes : ¬ isW (trn (fi 1) n) n m t 499850634611 := by
    rcases gk_1 with ⟨z1, z2, z3⟩ | ⟨z1, z2⟩
    · exact absurd (z1.symm.trans tb) (by decide)
    · exact fun c => z2 ⟨ck.trans c.1, by rw [cw c.1]; exact c.2⟩
  have n_swaps : ¬ isW (trn (fi 1) n) n m t 495924113523 := by
    rcases gk_5_1 with ⟨z1, z2, z3⟩ | ⟨z1, z2⟩
    · exact absurd (z1.symm.trans tb_2) (by decide)
    · exact fun c => z2 ⟨ck.trans c.1, by rw [cw c.1]; exact c.2⟩
  have n_sells : ¬ isW (trn (fi 1) n) n m t 495622843507 := by
    rcases gk_10_1 with ⟨z1, z2, z3⟩ | ⟨z1, z2⟩
    · exact absurd (z1.symm.trans tb_4) (by decide)
    · exact fun c => z2 ⟨ck.trans c.1, by rw [cw c.1]; exact c.2⟩
  have n_dies : ¬ isW (trn (fi 1) n) n m t 1684628851 := by
    rcases gk_15_1 with ⟨z1, z2, z3⟩ | ⟨z1, z2⟩
    · exact absurd (z1.symm.trans tb_6) (by decide)
    · exact fun c => z2 ⟨ck.trans c.1, by rw [cw c.1]; exact c.2⟩
  have n_hangs : ¬ isW (trn (fi 1) n) n m t 448311224179 := by
    rcases gk_18_1 with ⟨z1, z2, z3⟩ | ⟨z1, z2⟩
    · exact absurd (z1.symm.trans tb_7) (by decide)
    · exact fun c => z2 ⟨ck.trans c.1, by rw [cw c.1]; exact c.2⟩
  have n_flees : ¬ isW (trn (fi 1) n) n m t 439905248627 := by
    rcases gk_21_1 with ⟨z1, z2, z3⟩ | ⟨z1, z2⟩
    · exact absurd (z1.symm.trans tb_8) (by decide)
    · exact fun c => z2 ⟨ck.trans c.1, by rw [cw c.1]; exact c.2⟩
  have n_pays : ¬ isW (trn (fi 1) n) n m t 1885436275 := by
    rcases gk_24_1 with ⟨z1, z2, z3⟩ | ⟨z1, z2⟩
    · exact absurd (z1.symm.trans tb_9) (by decide)
    · exact fun c => z2 ⟨ck.trans c.1, by rw [cw c.1]; exact c.2⟩
  exact Or.inr ⟨by decide, by unfold rld; rw [if_neg n_takes, if_neg n_swaps, if_neg n_sells, if_neg n_dies, if_neg n_hangs, if_neg n_flees, if_neg n_pays]; congr 2 <;> omega⟩
