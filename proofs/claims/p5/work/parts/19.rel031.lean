set_option maxHeartbeats 4000000 in
theorem PL_X12_rollLine_2 {fi : Nat → Nat → Int32} {fl : Nat → Nat → Int64} {vi : Nat → Int32} {vl : Nat → Int64} {r : Int32} {fj : Nat → Nat → Int32} {fm : Nat → Nat → Int64} {vj : Nat → Int32} {vm : Nat → Int64} : RL_X12_rollLine_2 fi fl vi vl r fj fm vj vm (PS_X12_rollLine fi fl vi vl r fj fm vj vm) := by
  unfold RL_X12_rollLine_2
  intro hp0 hp1 hp2 hp3 hp4 hp5 hp6 hp7 hp8 hp9 hp10 hp11 hp12 hp13 hp14 hp15 hp16 hp17 hp18 hp19 hp20 hp21 hp22 hp23 hp24 tt fik flk vik vlk rk gk_1 tb_1 gk_0 c23 fik_3 flk_3 vik_3 vlk_3 rk_3 gk_3_0 gk_3_1 gk_3_2 q0 q1 q2 q3 q4 q5 q6 q7 q8 q9 q10; subst q0
  unfold PS_X12_rollLine
  intro n m t hc
  (try simp only [q1, q2, q3, q4, q5, q6, q7, q8, q9, q10]); have k9_0 : (0 : Int32).toInt = 0 := (by decide); have k9_1 : (1 : Int32).toInt = 1 := (by decide); have k9_2 : (4 : Int32).toInt = 4 := (by decide)
  have hc0 := hc
  obtain ⟨hn, hm, ht, ck, cp, ce, cw, cu, cg⟩ := hc0
  have y_monday : isW (trn (fi 0) n) n m t 120325360869753 := by
    rcases gk_1 with ⟨z1, z2, z3⟩ | ⟨z1, z2⟩
    · exact ⟨ck.symm.trans z2, by rw [← cw (ck.symm.trans z2)]; exact z3⟩
    · exact absurd (z1.symm.trans tb_1) (by decide)
  exact Or.inr ⟨by decide, by unfold rll; rw [if_pos y_monday, if_pos c23]; exact il_eq (gk_3_2.1.trans (by decide)) (gk_3_2.2.trans cp)⟩
set_option maxHeartbeats 4000000 in
theorem PL_X12_rollLine_3 {fi : Nat → Nat → Int32} {fl : Nat → Nat → Int64} {vi : Nat → Int32} {vl : Nat → Int64} {r : Int32} {fj : Nat → Nat → Int32} {fm : Nat → Nat → Int64} {vj : Nat → Int32} {vm : Nat → Int64} : RL_X12_rollLine_3 fi fl vi vl r fj fm vj vm (PS_X12_rollLine fi fl vi vl r fj fm vj vm) := by
  unfold RL_X12_rollLine_3
  intro hp0 hp1 hp2 hp3 hp4 hp5 hp6 hp7 hp8 hp9 hp10 hp11 hp12 hp13 hp14 hp15 hp16 hp17 hp18 hp19 hp20 hp21 hp22 hp23 hp24 tt fik flk vik vlk rk gk_1 tb_1 gk_0 fik_4 flk_4 vik_4 vlk_4 rk_4 gk_4_1 gk_4_2 gk_4_3 tb_5 gk_4_0 c93 tt_2 f113 ef113 fik_5 flk_5 vik_5 vlk_5 uk_5 gk_5_0 gk_5_1 gk_5_2 gk_5_3 gk_5_4 gk_5_5 w2 hj hj_1 hrw9 c215 f230 ef230 tt_3 fik_6 flk_6 vik_6 vlk_6 rk_6 gk_6_1 tb_7 gk_6_0 f253 ef253 fik_7 flk_7 vik_7 vlk_7 uk_7 gk_7_0 gk_7_1 gk_7_2 gk_7_3 gk_7_4 gk_7_5 c260 q0 q1 q2 q3 q4 q5 q6 q7 q8 q9 q10; subst q0
  unfold PS_X12_rollLine
  intro n m t hc
  (try simp only [q1, q2, q3, q4, q5, q6, q7, q8, q9, q10]); have k9_0 : (0 : Int32).toInt = 0 := (by decide); have k9_1 : (1 : Int32).toInt = 1 := (by decide)
  have hc0 := hc
  obtain ⟨hn, hm, ht, ck, cp, ce, cw, cu, cg⟩ := hc0
  have n_monday : ¬ isW (trn (fi 0) n) n m t 120325360869753 := by
    rcases gk_1 with ⟨z1, z2, z3⟩ | ⟨z1, z2⟩
    · exact absurd (z1.symm.trans tb_1) (by decide)
    · exact fun c => z2 ⟨ck.trans c.1, by rw [cw c.1]; exact c.2⟩
  have hl8 := gk_4_3 (trn (fi 0) n) n m _ hc
  rw [show (9 : Int).toNat = 9 from rfl] at hl8
  obtain ⟨d2, d3, d4⟩ := or1 hl8 tb_5
  have hc1 := CC_nx hc gk_5_5
  obtain ⟨hn1, hm1, ht1, dk, dp, de, dw, du, dg⟩ := id hc1
  rcases hrw9 with ⟨j1, j2, j3⟩ | ⟨j1, j2, j3⟩ | ⟨j1, j2, j3⟩ | ⟨j1, j2, j3⟩ | ⟨j1, j2, j3⟩ | ⟨j1, j2, j3⟩ | ⟨j1, j2, j3⟩ | ⟨j1, m1, m2, m3, m4, m5, m6, m7⟩
  · exact absurd (j1.symm.trans c260) (by decide)
  · exact absurd (j1.symm.trans c260) (by decide)
  · exact absurd (j1.symm.trans c260) (by decide)
  · have y_dies : isW (trn (fi 0) n) n m (sX (trn (fi 0) n) n m t) 1684628851 := ⟨dk.symm.trans j2, by rw [← dw (dk.symm.trans j2)]; exact j3⟩
    have n_takes : ¬ isW (trn (fi 0) n) n m (sX (trn (fi 0) n) n m t) 499850634611 := fun c => absurd (c.2.symm.trans y_dies.2) (by decide)
    have n_swaps : ¬ isW (trn (fi 0) n) n m (sX (trn (fi 0) n) n m t) 495924113523 := fun c => absurd (c.2.symm.trans y_dies.2) (by decide)
    have n_sells : ¬ isW (trn (fi 0) n) n m (sX (trn (fi 0) n) n m t) 495622843507 := fun c => absurd (c.2.symm.trans y_dies.2) (by decide)
    have hc2 := CC_nx hc1 gk_7_5
    have hx9 : rld (trn (fi 0) n) n m (ownB (fl 0)) (fl 1) 0 ((fi 2) 0).toInt (fl 1) 9 ((fi 2) 1).toInt (sX (trn (fi 0) n) n m t) = .inr (sX (trn (fi 0) n) n m (sX (trn (fi 0) n) n m t)) := by unfold rld; rw [if_neg n_takes, if_neg n_swaps, if_neg n_sells, if_pos y_dies]
    exact Or.inl ⟨by decide, _, by unfold rll; rw [if_neg n_monday, if_neg (fun c => c d2), if_neg c93]; exact hx9, hc2⟩
  · have y_hangs : isW (trn (fi 0) n) n m (sX (trn (fi 0) n) n m t) 448311224179 := ⟨dk.symm.trans j2, by rw [← dw (dk.symm.trans j2)]; exact j3⟩
    have n_takes : ¬ isW (trn (fi 0) n) n m (sX (trn (fi 0) n) n m t) 499850634611 := fun c => absurd (c.2.symm.trans y_hangs.2) (by decide)
    have n_swaps : ¬ isW (trn (fi 0) n) n m (sX (trn (fi 0) n) n m t) 495924113523 := fun c => absurd (c.2.symm.trans y_hangs.2) (by decide)
    have n_sells : ¬ isW (trn (fi 0) n) n m (sX (trn (fi 0) n) n m t) 495622843507 := fun c => absurd (c.2.symm.trans y_hangs.2) (by decide)
    have n_dies : ¬ isW (trn (fi 0) n) n m (sX (trn (fi 0) n) n m t) 1684628851 := fun c => absurd (c.2.symm.trans y_hangs.2) (by decide)
    have hc2 := CC_nx hc1 gk_7_5
    have hx9 : rld (trn (fi 0) n) n m (ownB (fl 0)) (fl 1) 0 ((fi 2) 0).toInt (fl 1) 9 ((fi 2) 1).toInt (sX (trn (fi 0) n) n m t) = .inr (sX (trn (fi 0) n) n m (sX (trn (fi 0) n) n m t)) := by unfold rld; rw [if_neg n_takes, if_neg n_swaps, if_neg n_sells, if_neg n_dies, if_pos y_hangs]
    exact Or.inl ⟨by decide, _, by unfold rll; rw [if_neg n_monday, if_neg (fun c => c d2), if_neg c93]; exact hx9, hc2⟩
  · exact absurd (j1.symm.trans c260) (by decide)
  · exact absurd (j1.symm.trans c260) (by decide)
  · exact absurd c215 (by rw [j1]; decide)
set_option maxHeartbeats 4000000 in
theorem PL_X12_rollLine_4 {fi : Nat → Nat → Int32} {fl : Nat → Nat → Int64} {vi : Nat → Int32} {vl : Nat → Int64} {r : Int32} {fj : Nat → Nat → Int32} {fm : Nat → Nat → Int64} {vj : Nat → Int32} {vm : Nat → Int64} : RL_X12_rollLine_4 fi fl vi vl r fj fm vj vm (PS_X12_rollLine fi fl vi vl r fj fm vj vm) := by
  unfold RL_X12_rollLine_4
  intro hp0 hp1 hp2 hp3 hp4 hp5 hp6 hp7 hp8 hp9 hp10 hp11 hp12 hp13 hp14 hp15 hp16 hp17 hp18 hp19 hp20 hp21 hp22 hp23 hp24 tt fik flk vik vlk rk gk_1 tb_1 gk_0 fik_4 flk_4 vik_4 vlk_4 rk_4 gk_4_1 gk_4_2 gk_4_3 tb_5 gk_4_0 c93 tt_2 f113 ef113 fik_5 flk_5 vik_5 vlk_5 uk_5 gk_5_0 gk_5_1 gk_5_2 gk_5_3 gk_5_4 gk_5_5 w2 hj hj_1 hrw9 c215 f230 ef230 tt_3 fik_6 flk_6 vik_6 vlk_6 rk_6 gk_6_1 tb_7 gk_6_0 f253 ef253 fik_7 flk_7 vik_7 vlk_7 uk_7 gk_7_0 gk_7_1 gk_7_2 gk_7_3 gk_7_4 gk_7_5 c260 c265 c272 c289 fik_8 flk_8 vik_8 vlk_8 rk_8 gk_8_1 gk_8_2 gk_8_3 tb_9 gk_8_0 fik_9 flk_9 vik_9 vlk_9 uk_9 gk_9_0 gk_9_1 gk_9_2 gk_9_3 gk_9_4 gk_9_5 f335 ef335 q0 q1 q2 q3 q4 q5 q6 q7 q8 q9 q10; subst q0
  unfold PS_X12_rollLine
  intro n m t hc
  (try simp only [q1, q2, q3, q4, q5, q6, q7, q8, q9, q10]); have k9_0 : (0 : Int32).toInt = 0 := (by decide); have k9_1 : (1 : Int32).toInt = 1 := (by decide)
  have hc0 := hc
  obtain ⟨hn, hm, ht, ck, cp, ce, cw, cu, cg⟩ := hc0
  have n_monday : ¬ isW (trn (fi 0) n) n m t 120325360869753 := by
    rcases gk_1 with ⟨z1, z2, z3⟩ | ⟨z1, z2⟩
    · exact absurd (z1.symm.trans tb_1) (by decide)
    · exact fun c => z2 ⟨ck.trans c.1, by rw [cw c.1]; exact c.2⟩
  have hl8 := gk_4_3 (trn (fi 0) n) n m _ hc
  rw [show (9 : Int).toNat = 9 from rfl] at hl8
  obtain ⟨d2, d3, d4⟩ := or1 hl8 tb_5
  have hc1 := CC_nx hc gk_5_5
  obtain ⟨hn1, hm1, ht1, dk, dp, de, dw, du, dg⟩ := id hc1
  rcases hrw9 with ⟨j1, j2, j3⟩ | ⟨j1, j2, j3⟩ | ⟨j1, j2, j3⟩ | ⟨j1, j2, j3⟩ | ⟨j1, j2, j3⟩ | ⟨j1, j2, j3⟩ | ⟨j1, j2, j3⟩ | ⟨j1, m1, m2, m3, m4, m5, m6, m7⟩
  · exact absurd j1 c289
  · have y_swaps : isW (trn (fi 0) n) n m (sX (trn (fi 0) n) n m t) 495924113523 := ⟨dk.symm.trans j2, by rw [← dw (dk.symm.trans j2)]; exact j3⟩
    have n_takes : ¬ isW (trn (fi 0) n) n m (sX (trn (fi 0) n) n m t) 499850634611 := fun c => absurd (c.2.symm.trans y_swaps.2) (by decide)
    have hc2 := CC_nx hc1 gk_7_5
    have hl7 := gk_8_3 (trn (fi 0) n) n m _ hc2
    rw [show (9 : Int).toNat = 9 from rfl] at hl7
    obtain ⟨b2, b3, b4⟩ := or1 hl7 tb_9
    have hc3 := CC_nx hc2 gk_9_5
    have hx9 : rld (trn (fi 0) n) n m (ownB (fl 0)) (fl 1) 0 ((fi 2) 0).toInt (fl 1) 9 ((fi 2) 1).toInt (sX (trn (fi 0) n) n m t) = .inr (sX (trn (fi 0) n) n m (sX (trn (fi 0) n) n m (sX (trn (fi 0) n) n m t))) := by unfold rld; rw [if_neg n_takes, if_pos y_swaps]; exact rkn_g b2
    exact Or.inl ⟨by decide, _, by unfold rll; rw [if_neg n_monday, if_neg (fun c => c d2), if_neg c93]; exact hx9, hc3⟩
  · have y_sells : isW (trn (fi 0) n) n m (sX (trn (fi 0) n) n m t) 495622843507 := ⟨dk.symm.trans j2, by rw [← dw (dk.symm.trans j2)]; exact j3⟩
    have n_takes : ¬ isW (trn (fi 0) n) n m (sX (trn (fi 0) n) n m t) 499850634611 := fun c => absurd (c.2.symm.trans y_sells.2) (by decide)
    have n_swaps : ¬ isW (trn (fi 0) n) n m (sX (trn (fi 0) n) n m t) 495924113523 := fun c => absurd (c.2.symm.trans y_sells.2) (by decide)
    have hc2 := CC_nx hc1 gk_7_5
    have hl7 := gk_8_3 (trn (fi 0) n) n m _ hc2
    rw [show (9 : Int).toNat = 9 from rfl] at hl7
    obtain ⟨b2, b3, b4⟩ := or1 hl7 tb_9
    have hc3 := CC_nx hc2 gk_9_5
    have hx9 : rld (trn (fi 0) n) n m (ownB (fl 0)) (fl 1) 0 ((fi 2) 0).toInt (fl 1) 9 ((fi 2) 1).toInt (sX (trn (fi 0) n) n m t) = .inr (sX (trn (fi 0) n) n m (sX (trn (fi 0) n) n m (sX (trn (fi 0) n) n m t))) := by unfold rld; rw [if_neg n_takes, if_neg n_swaps, if_pos y_sells]; exact rkn_g b2
    exact Or.inl ⟨by decide, _, by unfold rll; rw [if_neg n_monday, if_neg (fun c => c d2), if_neg c93]; exact hx9, hc3⟩
  · exact absurd j1 c260
  · exact absurd j1 c260
  · exact absurd j1 c265
  · exact absurd j1 c272
  · exact absurd c215 (by rw [j1]; decide)
set_option maxHeartbeats 4000000 in
theorem PL_X12_rollLine_5 {fi : Nat → Nat → Int32} {fl : Nat → Nat → Int64} {vi : Nat → Int32} {vl : Nat → Int64} {r : Int32} {fj : Nat → Nat → Int32} {fm : Nat → Nat → Int64} {vj : Nat → Int32} {vm : Nat → Int64} : RL_X12_rollLine_5 fi fl vi vl r fj fm vj vm (PS_X12_rollLine fi fl vi vl r fj fm vj vm) := by
  unfold RL_X12_rollLine_5
  intro hp0 hp1 hp2 hp3 hp4 hp5 hp6 hp7 hp8 hp9 hp10 hp11 hp12 hp13 hp14 hp15 hp16 hp17 hp18 hp19 hp20 hp21 hp22 hp23 hp24 tt fik flk vik vlk rk gk_1 tb_1 gk_0 fik_4 flk_4 vik_4 vlk_4 rk_4 gk_4_1 gk_4_2 gk_4_3 tb_5 gk_4_0 c93 tt_2 f113 ef113 fik_5 flk_5 vik_5 vlk_5 uk_5 gk_5_0 gk_5_1 gk_5_2 gk_5_3 gk_5_4 gk_5_5 w2 hj hj_1 hrw9 c215 f230 ef230 tt_3 fik_6 flk_6 vik_6 vlk_6 rk_6 gk_6_1 tb_7 gk_6_0 f253 ef253 fik_7 flk_7 vik_7 vlk_7 uk_7 gk_7_0 gk_7_1 gk_7_2 gk_7_3 gk_7_4 gk_7_5 c260 c265 c272 c289 fik_8 flk_8 vik_8 vlk_8 rk_8 gk_8_1 gk_8_2 gk_8_3 tb_9 gk_8_0 q0 q1 q2 q3 q4 q5 q6 q7 q8 q9 q10; subst q0
  unfold PS_X12_rollLine
  intro n m t hc
  (try simp only [q1, q2, q3, q4, q5, q6, q7, q8, q9, q10]); have k9_0 : (0 : Int32).toInt = 0 := (by decide); have k9_1 : (1 : Int32).toInt = 1 := (by decide)
  have hc0 := hc
  obtain ⟨hn, hm, ht, ck, cp, ce, cw, cu, cg⟩ := hc0
  have n_monday : ¬ isW (trn (fi 0) n) n m t 120325360869753 := by
    rcases gk_1 with ⟨z1, z2, z3⟩ | ⟨z1, z2⟩
    · exact absurd (z1.symm.trans tb_1) (by decide)
    · exact fun c => z2 ⟨ck.trans c.1, by rw [cw c.1]; exact c.2⟩
  have hl8 := gk_4_3 (trn (fi 0) n) n m _ hc
  rw [show (9 : Int).toNat = 9 from rfl] at hl8
  obtain ⟨d2, d3, d4⟩ := or1 hl8 tb_5
  have hc1 := CC_nx hc gk_5_5
  obtain ⟨hn1, hm1, ht1, dk, dp, de, dw, du, dg⟩ := id hc1
  rcases hrw9 with ⟨j1, j2, j3⟩ | ⟨j1, j2, j3⟩ | ⟨j1, j2, j3⟩ | ⟨j1, j2, j3⟩ | ⟨j1, j2, j3⟩ | ⟨j1, j2, j3⟩ | ⟨j1, j2, j3⟩ | ⟨j1, m1, m2, m3, m4, m5, m6, m7⟩
  · exact absurd j1 c289
  · have y_swaps : isW (trn (fi 0) n) n m (sX (trn (fi 0) n) n m t) 495924113523 := ⟨dk.symm.trans j2, by rw [← dw (dk.symm.trans j2)]; exact j3⟩
    have n_takes : ¬ isW (trn (fi 0) n) n m (sX (trn (fi 0) n) n m t) 499850634611 := fun c => absurd (c.2.symm.trans y_swaps.2) (by decide)
    have hc2 := CC_nx hc1 gk_7_5
    have hl7 := gk_8_3 (trn (fi 0) n) n m _ hc2
    rw [show (9 : Int).toNat = 9 from rfl] at hl7
    obtain ⟨b2, b3, b4⟩ := or0 hl7 tb_9
    have hx9 : rld (trn (fi 0) n) n m (ownB (fl 0)) (fl 1) 0 ((fi 2) 0).toInt (fl 1) 9 ((fi 2) 1).toInt (sX (trn (fi 0) n) n m t) = .inl ((vik_8 1).toInt, (vik_8 2).toInt) := by unfold rld; rw [if_neg n_takes, if_pos y_swaps]; exact rkn_b (rfl : fKn (trn (fi 0) n) n m (ownB (fl 0)) (fl 1) 9 ((fi 2) 1).toInt (sX (trn (fi 0) n) n m (sX (trn (fi 0) n) n m t)) = fKn (trn (fi 0) n) n m (ownB (fl 0)) (fl 1) 9 ((fi 2) 1).toInt (sX (trn (fi 0) n) n m (sX (trn (fi 0) n) n m t))) b2 b3 b4
    exact Or.inr ⟨by decide, by unfold rll; rw [if_neg n_monday, if_neg (fun c => c d2), if_neg c93]; exact hx9⟩
  · have y_sells : isW (trn (fi 0) n) n m (sX (trn (fi 0) n) n m t) 495622843507 := ⟨dk.symm.trans j2, by rw [← dw (dk.symm.trans j2)]; exact j3⟩
    have n_takes : ¬ isW (trn (fi 0) n) n m (sX (trn (fi 0) n) n m t) 499850634611 := fun c => absurd (c.2.symm.trans y_sells.2) (by decide)
    have n_swaps : ¬ isW (trn (fi 0) n) n m (sX (trn (fi 0) n) n m t) 495924113523 := fun c => absurd (c.2.symm.trans y_sells.2) (by decide)
    have hc2 := CC_nx hc1 gk_7_5
    have hl7 := gk_8_3 (trn (fi 0) n) n m _ hc2
    rw [show (9 : Int).toNat = 9 from rfl] at hl7
    obtain ⟨b2, b3, b4⟩ := or0 hl7 tb_9
    have hx9 : rld (trn (fi 0) n) n m (ownB (fl 0)) (fl 1) 0 ((fi 2) 0).toInt (fl 1) 9 ((fi 2) 1).toInt (sX (trn (fi 0) n) n m t) = .inl ((vik_8 1).toInt, (vik_8 2).toInt) := by unfold rld; rw [if_neg n_takes, if_neg n_swaps, if_pos y_sells]; exact rkn_b (rfl : fKn (trn (fi 0) n) n m (ownB (fl 0)) (fl 1) 9 ((fi 2) 1).toInt (sX (trn (fi 0) n) n m (sX (trn (fi 0) n) n m t)) = fKn (trn (fi 0) n) n m (ownB (fl 0)) (fl 1) 9 ((fi 2) 1).toInt (sX (trn (fi 0) n) n m (sX (trn (fi 0) n) n m t))) b2 b3 b4
    exact Or.inr ⟨by decide, by unfold rll; rw [if_neg n_monday, if_neg (fun c => c d2), if_neg c93]; exact hx9⟩
  · exact absurd j1 c260
  · exact absurd j1 c260
  · exact absurd j1 c265
  · exact absurd j1 c272
  · exact absurd c215 (by rw [j1]; decide)
set_option maxHeartbeats 4000000 in
theorem PL_X12_rollLine_6 {fi : Nat → Nat → Int32} {fl : Nat → Nat → Int64} {vi : Nat → Int32} {vl : Nat → Int64} {r : Int32} {fj : Nat → Nat → Int32} {fm : Nat → Nat → Int64} {vj : Nat → Int32} {vm : Nat → Int64} : RL_X12_rollLine_6 fi fl vi vl r fj fm vj vm (PS_X12_rollLine fi fl vi vl r fj fm vj vm) := by
  unfold RL_X12_rollLine_6
  intro hp0 hp1 hp2 hp3 hp4 hp5 hp6 hp7 hp8 hp9 hp10 hp11 hp12 hp13 hp14 hp15 hp16 hp17 hp18 hp19 hp20 hp21 hp22 hp23 hp24 tt fik flk vik vlk rk gk_1 tb_1 gk_0 fik_4 flk_4 vik_4 vlk_4 rk_4 gk_4_1 gk_4_2 gk_4_3 tb_5 gk_4_0 c93 tt_2 f113 ef113 fik_5 flk_5 vik_5 vlk_5 uk_5 gk_5_0 gk_5_1 gk_5_2 gk_5_3 gk_5_4 gk_5_5 w2 hj hj_1 hrw9 c215 f230 ef230 tt_3 fik_6 flk_6 vik_6 vlk_6 rk_6 gk_6_1 tb_7 gk_6_0 f253 ef253 fik_7 flk_7 vik_7 vlk_7 uk_7 gk_7_0 gk_7_1 gk_7_2 gk_7_3 gk_7_4 gk_7_5 c260 c265 c272 c289 fik_10 flk_10 vik_10 vlk_10 rk_10 gk_10_1 gk_10_2 gk_10_3 tb_11 gk_10_0 fik_11 flk_11 vik_11 vlk_11 uk_11 gk_11_0 gk_11_1 gk_11_2 gk_11_3 gk_11_4 gk_11_5 f335_1 ef335_1 q0 q1 q2 q3 q4 q5 q6 q7 q8 q9 q10; subst q0
  unfold PS_X12_rollLine
  intro n m t hc
  (try simp only [q1, q2, q3, q4, q5, q6, q7, q8, q9, q10]); have k9_0 : (0 : Int32).toInt = 0 := (by decide); have k9_1 : (1 : Int32).toInt = 1 := (by decide)
  have hc0 := hc
  obtain ⟨hn, hm, ht, ck, cp, ce, cw, cu, cg⟩ := hc0
  have n_monday : ¬ isW (trn (fi 0) n) n m t 120325360869753 := by
    rcases gk_1 with ⟨z1, z2, z3⟩ | ⟨z1, z2⟩
    · exact absurd (z1.symm.trans tb_1) (by decide)
    · exact fun c => z2 ⟨ck.trans c.1, by rw [cw c.1]; exact c.2⟩
  have hl8 := gk_4_3 (trn (fi 0) n) n m _ hc
  rw [show (9 : Int).toNat = 9 from rfl] at hl8
  obtain ⟨d2, d3, d4⟩ := or1 hl8 tb_5
  have hc1 := CC_nx hc gk_5_5
  obtain ⟨hn1, hm1, ht1, dk, dp, de, dw, du, dg⟩ := id hc1
  rcases hrw9 with ⟨j1, j2, j3⟩ | ⟨j1, j2, j3⟩ | ⟨j1, j2, j3⟩ | ⟨j1, j2, j3⟩ | ⟨j1, j2, j3⟩ | ⟨j1, j2, j3⟩ | ⟨j1, j2, j3⟩ | ⟨j1, m1, m2, m3, m4, m5, m6, m7⟩
  · have y_takes : isW (trn (fi 0) n) n m (sX (trn (fi 0) n) n m t) 499850634611 := ⟨dk.symm.trans j2, by rw [← dw (dk.symm.trans j2)]; exact j3⟩
    have hc2 := CC_nx hc1 gk_7_5
    have hl7 := gk_10_3 (trn (fi 0) n) n m _ hc2
    rw [show (0 : Int).toNat = 0 from rfl] at hl7
    obtain ⟨b2, b3, b4⟩ := or1 hl7 tb_11
    have hc3 := CC_nx hc2 gk_11_5
    have hx9 : rld (trn (fi 0) n) n m (ownB (fl 0)) (fl 1) 0 ((fi 2) 0).toInt (fl 1) 9 ((fi 2) 1).toInt (sX (trn (fi 0) n) n m t) = .inr (sX (trn (fi 0) n) n m (sX (trn (fi 0) n) n m (sX (trn (fi 0) n) n m t))) := by unfold rld; rw [if_pos y_takes]; exact rkn_g b2
    exact Or.inl ⟨by decide, _, by unfold rll; rw [if_neg n_monday, if_neg (fun c => c d2), if_neg c93]; exact hx9, hc3⟩
  · exact absurd (j1.symm.trans c289) (by decide)
  · exact absurd (j1.symm.trans c289) (by decide)
  · exact absurd j1 c260
  · exact absurd j1 c260
  · exact absurd j1 c265
  · exact absurd j1 c272
  · exact absurd c215 (by rw [j1]; decide)
set_option maxHeartbeats 4000000 in
theorem PL_X12_rollLine_7 {fi : Nat → Nat → Int32} {fl : Nat → Nat → Int64} {vi : Nat → Int32} {vl : Nat → Int64} {r : Int32} {fj : Nat → Nat → Int32} {fm : Nat → Nat → Int64} {vj : Nat → Int32} {vm : Nat → Int64} : RL_X12_rollLine_7 fi fl vi vl r fj fm vj vm (PS_X12_rollLine fi fl vi vl r fj fm vj vm) := by
  unfold RL_X12_rollLine_7
  intro hp0 hp1 hp2 hp3 hp4 hp5 hp6 hp7 hp8 hp9 hp10 hp11 hp12 hp13 hp14 hp15 hp16 hp17 hp18 hp19 hp20 hp21 hp22 hp23 hp24 tt fik flk vik vlk rk gk_1 tb_1 gk_0 fik_4 flk_4 vik_4 vlk_4 rk_4 gk_4_1 gk_4_2 gk_4_3 tb_5 gk_4_0 c93 tt_2 f113 ef113 fik_5 flk_5 vik_5 vlk_5 uk_5 gk_5_0 gk_5_1 gk_5_2 gk_5_3 gk_5_4 gk_5_5 w2 hj hj_1 hrw9 c215 f230 ef230 tt_3 fik_6 flk_6 vik_6 vlk_6 rk_6 gk_6_1 tb_7 gk_6_0 f253 ef253 fik_7 flk_7 vik_7 vlk_7 uk_7 gk_7_0 gk_7_1 gk_7_2 gk_7_3 gk_7_4 gk_7_5 c260 c265 c272 c289 fik_10 flk_10 vik_10 vlk_10 rk_10 gk_10_1 gk_10_2 gk_10_3 tb_11 gk_10_0 q0 q1 q2 q3 q4 q5 q6 q7 q8 q9 q10; subst q0
  unfold PS_X12_rollLine
  intro n m t hc
  (try simp only [q1, q2, q3, q4, q5, q6, q7, q8, q9, q10]); have k9_0 : (0 : Int32).toInt = 0 := (by decide); have k9_1 : (1 : Int32).toInt = 1 := (by decide)
  have hc0 := hc
  obtain ⟨hn, hm, ht, ck, cp, ce, cw, cu, cg⟩ := hc0
  have n_monday : ¬ isW (trn (fi 0) n) n m t 120325360869753 := by
    rcases gk_1 with ⟨z1, z2, z3⟩ | ⟨z1, z2⟩
    · exact absurd (z1.symm.trans tb_1) (by decide)
    · exact fun c => z2 ⟨ck.trans c.1, by rw [cw c.1]; exact c.2⟩
  have hl8 := gk_4_3 (trn (fi 0) n) n m _ hc
  rw [show (9 : Int).toNat = 9 from rfl] at hl8
  obtain ⟨d2, d3, d4⟩ := or1 hl8 tb_5
  have hc1 := CC_nx hc gk_5_5
  obtain ⟨hn1, hm1, ht1, dk, dp, de, dw, du, dg⟩ := id hc1
  rcases hrw9 with ⟨j1, j2, j3⟩ | ⟨j1, j2, j3⟩ | ⟨j1, j2, j3⟩ | ⟨j1, j2, j3⟩ | ⟨j1, j2, j3⟩ | ⟨j1, j2, j3⟩ | ⟨j1, j2, j3⟩ | ⟨j1, m1, m2, m3, m4, m5, m6, m7⟩
  · have y_takes : isW (trn (fi 0) n) n m (sX (trn (fi 0) n) n m t) 499850634611 := ⟨dk.symm.trans j2, by rw [← dw (dk.symm.trans j2)]; exact j3⟩
    have hc2 := CC_nx hc1 gk_7_5
    have hl7 := gk_10_3 (trn (fi 0) n) n m _ hc2
    rw [show (0 : Int).toNat = 0 from rfl] at hl7
    obtain ⟨b2, b3, b4⟩ := or0 hl7 tb_11
    have hx9 : rld (trn (fi 0) n) n m (ownB (fl 0)) (fl 1) 0 ((fi 2) 0).toInt (fl 1) 9 ((fi 2) 1).toInt (sX (trn (fi 0) n) n m t) = .inl ((vik_10 1).toInt, (vik_10 2).toInt) := by unfold rld; rw [if_pos y_takes]; exact rkn_b (rfl : fKn (trn (fi 0) n) n m (ownB (fl 0)) (fl 1) 0 ((fi 2) 0).toInt (sX (trn (fi 0) n) n m (sX (trn (fi 0) n) n m t)) = fKn (trn (fi 0) n) n m (ownB (fl 0)) (fl 1) 0 ((fi 2) 0).toInt (sX (trn (fi 0) n) n m (sX (trn (fi 0) n) n m t))) b2 b3 b4
    exact Or.inr ⟨by decide, by unfold rll; rw [if_neg n_monday, if_neg (fun c => c d2), if_neg c93]; exact hx9⟩
  · exact absurd (j1.symm.trans c289) (by decide)
  · exact absurd (j1.symm.trans c289) (by decide)
  · exact absurd j1 c260
  · exact absurd j1 c260
  · exact absurd j1 c265
  · exact absurd j1 c272
  · exact absurd c215 (by rw [j1]; decide)
