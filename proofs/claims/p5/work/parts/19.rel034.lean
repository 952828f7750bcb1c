set_option maxHeartbeats 4000000 in
theorem PL_X12_rollLine_18 {fi : Nat → Nat → Int32} {fl : Nat → Nat → Int64} {vi : Nat → Int32} {vl : Nat → Int64} {r : Int32} {fj : Nat → Nat → Int32} {fm : Nat → Nat → Int64} {vj : Nat → Int32} {vm : Nat → Int64} : RL_X12_rollLine_18 fi fl vi vl r fj fm vj vm (PS_X12_rollLine fi fl vi vl r fj fm vj vm) := by
  unfold RL_X12_rollLine_18
  intro hp0 hp1 hp2 hp3 hp4 hp5 hp6 hp7 hp8 hp9 hp10 hp11 hp12 hp13 hp14 hp15 hp16 hp17 hp18 hp19 hp20 hp21 hp22 hp23 hp24 tt fik flk vik vlk rk gk_1 tb_1 gk_0 fik_4 flk_4 vik_4 vlk_4 rk_4 gk_4_1 gk_4_2 gk_4_3 tb_5 gk_4_0 c93 tt_2 f113 ef113 fik_5 flk_5 vik_5 vlk_5 uk_5 gk_5_0 gk_5_1 gk_5_2 gk_5_3 gk_5_4 gk_5_5 w2 hj hj_1 hrw9 c215 f230 ef230 tt_3 fik_6 flk_6 vik_6 vlk_6 rk_6 gk_6_1 tb_7 gk_6_0 f253_1 ef253_1 fik_13 flk_13 vik_13 vlk_13 uk_13 gk_13_0 gk_13_1 gk_13_2 gk_13_3 gk_13_4 gk_13_5 c260_1 c265_1 q0 q1 q2 q3 q4 q5 q6 q7 q8 q9 q10; subst q0
  unfold PS_X12_rollLine
  intro n m t hc
  (try simp only [q1, q2, q3, q4, q5, q6, q7, q8, q9, q10]); have k9_0 : (0 : Int32).toInt = 0 := (by decide); have k9_1 : (1 : Int32).toInt = 1 := (by decide)
  have hc0 := hc
  obtain ⟨hn, hm, ht, ck, cp, ce, cw, cu, cg⟩ := hc0
  have n_monday : ¬ isW (trn (fi 0) n) n m t 120325360869753 := by
    rcases gk_1 with ⟨z1, z2, z3⟩ | ⟨z1, z2⟩
    · exact absurd (z1.symm.trans tb_1) (by decide)
    · exact fun c => z2 ⟨ck.trans c.1, by rw [cw c.1]; exact c.2⟩
  have hl8 := gk_4_3 (trn (fi 0) n) n m _ hc
  rw [show (9 : Int).toNat = 9 from rfl] at hl8
  obtain ⟨d2, d3, d4⟩ := or1 hl8 tb_5
  have hc1 := CC_nx hc gk_5_5
  obtain ⟨hn1, hm1, ht1, dk, dp, de, dw, du, dg⟩ := id hc1
  rcases hrw9 with ⟨j1, j2, j3⟩ | ⟨j1, j2, j3⟩ | ⟨j1, j2, j3⟩ | ⟨j1, j2, j3⟩ | ⟨j1, j2, j3⟩ | ⟨j1, j2, j3⟩ | ⟨j1, j2, j3⟩ | ⟨j1, m1, m2, m3, m4, m5, m6, m7⟩
  · exact absurd (j1.symm.trans c265_1) (by decide)
  · exact absurd (j1.symm.trans c265_1) (by decide)
  · exact absurd (j1.symm.trans c265_1) (by decide)
  · exact absurd j1 c260_1
  · exact absurd j1 c260_1
  · have y_flees : isW (trn (fi 0) n) n m (sX (trn (fi 0) n) n m t) 439905248627 := ⟨dk.symm.trans j2, by rw [← dw (dk.symm.trans j2)]; exact j3⟩
    have n_takes : ¬ isW (trn (fi 0) n) n m (sX (trn (fi 0) n) n m t) 499850634611 := fun c => absurd (c.2.symm.trans y_flees.2) (by decide)
    have n_swaps : ¬ isW (trn (fi 0) n) n m (sX (trn (fi 0) n) n m t) 495924113523 := fun c => absurd (c.2.symm.trans y_flees.2) (by decide)
    have n_sells : ¬ isW (trn (fi 0) n) n m (sX (trn (fi 0) n) n m t) 495622843507 := fun c => absurd (c.2.symm.trans y_flees.2) (by decide)
    have n_dies : ¬ isW (trn (fi 0) n) n m (sX (trn (fi 0) n) n m t) 1684628851 := fun c => absurd (c.2.symm.trans y_flees.2) (by decide)
    have n_hangs : ¬ isW (trn (fi 0) n) n m (sX (trn (fi 0) n) n m t) 448311224179 := fun c => absurd (c.2.symm.trans y_flees.2) (by decide)
    have hc2 := CC_nx hc1 gk_13_5
    have hx9 : rld (trn (fi 0) n) n m (ownB (fl 0)) (fl 1) 0 ((fi 2) 0).toInt (fl 1) 9 ((fi 2) 1).toInt (sX (trn (fi 0) n) n m t) = .inr (sX (trn (fi 0) n) n m (sX (trn (fi 0) n) n m t)) := by unfold rld; rw [if_neg n_takes, if_neg n_swaps, if_neg n_sells, if_neg n_dies, if_neg n_hangs, if_pos y_flees]
    exact Or.inl ⟨by decide, _, by unfold rll; rw [if_neg n_monday, if_neg (fun c => c d2), if_neg c93]; exact hx9, hc2⟩
  · exact absurd (j1.symm.trans c265_1) (by decide)
  · exact absurd c215 (by rw [j1]; decide)
set_option maxHeartbeats 4000000 in
theorem PL_X12_rollLine_19 {fi : Nat → Nat → Int32} {fl : Nat → Nat → Int64} {vi : Nat → Int32} {vl : Nat → Int64} {r : Int32} {fj : Nat → Nat → Int32} {fm : Nat → Nat → Int64} {vj : Nat → Int32} {vm : Nat → Int64} : RL_X12_rollLine_19 fi fl vi vl r fj fm vj vm (PS_X12_rollLine fi fl vi vl r fj fm vj vm) := by
  unfold RL_X12_rollLine_19
  intro hp0 hp1 hp2 hp3 hp4 hp5 hp6 hp7 hp8 hp9 hp10 hp11 hp12 hp13 hp14 hp15 hp16 hp17 hp18 hp19 hp20 hp21 hp22 hp23 hp24 tt fik flk vik vlk rk gk_1 tb_1 gk_0 fik_4 flk_4 vik_4 vlk_4 rk_4 gk_4_1 gk_4_2 gk_4_3 tb_5 gk_4_0 c93 tt_2 f113 ef113 fik_5 flk_5 vik_5 vlk_5 uk_5 gk_5_0 gk_5_1 gk_5_2 gk_5_3 gk_5_4 gk_5_5 w2 hj hj_1 hrw9 c215 fik_19 flk_19 vik_19 vlk_19 rk_19 gk_19_0 gk_19_1 gk_19_2 q0 q1 q2 q3 q4 q5 q6 q7 q8 q9 q10; subst q0
  unfold PS_X12_rollLine
  intro n m t hc
  (try simp only [q1, q2, q3, q4, q5, q6, q7, q8, q9, q10]); have k9_0 : (0 : Int32).toInt = 0 := (by decide); have k9_1 : (1 : Int32).toInt = 1 := (by decide)
  have hc0 := hc
  obtain ⟨hn, hm, ht, ck, cp, ce, cw, cu, cg⟩ := hc0
  have n_monday : ¬ isW (trn (fi 0) n) n m t 120325360869753 := by
    rcases gk_1 with ⟨z1, z2, z3⟩ | ⟨z1, z2⟩
    · exact absurd (z1.symm.trans tb_1) (by decide)
    · exact fun c => z2 ⟨ck.trans c.1, by rw [cw c.1]; exact c.2⟩
  have hl8 := gk_4_3 (trn (fi 0) n) n m _ hc
  rw [show (9 : Int).toNat = 9 from rfl] at hl8
  obtain ⟨d2, d3, d4⟩ := or1 hl8 tb_5
  have hc1 := CC_nx hc gk_5_5
  obtain ⟨hn1, hm1, ht1, dk, dp, de, dw, du, dg⟩ := id hc1
  rcases hrw9 with ⟨j1, j2, j3⟩ | ⟨j1, j2, j3⟩ | ⟨j1, j2, j3⟩ | ⟨j1, j2, j3⟩ | ⟨j1, j2, j3⟩ | ⟨j1, j2, j3⟩ | ⟨j1, j2, j3⟩ | ⟨j1, m1, m2, m3, m4, m5, m6, m7⟩
  · exact absurd c215 (by rw [j1]; decide)
  · exact absurd c215 (by rw [j1]; decide)
  · exact absurd c215 (by rw [j1]; decide)
  · exact absurd c215 (by rw [j1]; decide)
  · exact absurd c215 (by rw [j1]; decide)
  · exact absurd c215 (by rw [j1]; decide)
  · exact absurd c215 (by rw [j1]; decide)
  · have n_takes : ¬ isW (trn (fi 0) n) n m (sX (trn (fi 0) n) n m t) 499850634611 := fun c => m1 ⟨dk.trans c.1, by rw [dw c.1]; exact c.2⟩
    have n_swaps : ¬ isW (trn (fi 0) n) n m (sX (trn (fi 0) n) n m t) 495924113523 := fun c => m2 ⟨dk.trans c.1, by rw [dw c.1]; exact c.2⟩
    have n_sells : ¬ isW (trn (fi 0) n) n m (sX (trn (fi 0) n) n m t) 495622843507 := fun c => m3 ⟨dk.trans c.1, by rw [dw c.1]; exact c.2⟩
    have n_dies : ¬ isW (trn (fi 0) n) n m (sX (trn (fi 0) n) n m t) 1684628851 := fun c => m4 ⟨dk.trans c.1, by rw [dw c.1]; exact c.2⟩
    have n_hangs : ¬ isW (trn (fi 0) n) n m (sX (trn (fi 0) n) n m t) 448311224179 := fun c => m5 ⟨dk.trans c.1, by rw [dw c.1]; exact c.2⟩
    have n_flees : ¬ isW (trn (fi 0) n) n m (sX (trn (fi 0) n) n m t) 439905248627 := fun c => m6 ⟨dk.trans c.1, by rw [dw c.1]; exact c.2⟩
    have n_pays : ¬ isW (trn (fi 0) n) n m (sX (trn (fi 0) n) n m t) 1885436275 := fun c => m7 ⟨dk.trans c.1, by rw [dw c.1]; exact c.2⟩
    have hx9 : rld (trn (fi 0) n) n m (ownB (fl 0)) (fl 1) 0 ((fi 2) 0).toInt (fl 1) 9 ((fi 2) 1).toInt (sX (trn (fi 0) n) n m t) = .inl (1, (sPn (trn (fi 0) n) n m (sX (trn (fi 0) n) n m t) : Int)) := by unfold rld; rw [if_neg n_takes, if_neg n_swaps, if_neg n_sells, if_neg n_dies, if_neg n_hangs, if_neg n_flees, if_neg n_pays]
    exact Or.inr ⟨by decide, by unfold rll; rw [if_neg n_monday, if_neg (fun c => c d2), if_neg c93, hx9]; exact il_eq (gk_19_2.1.trans (by decide)) (gk_19_2.2.trans dp)⟩
set_option maxHeartbeats 4000000 in
theorem PL_X12_rollLine_20 {fi : Nat → Nat → Int32} {fl : Nat → Nat → Int64} {vi : Nat → Int32} {vl : Nat → Int64} {r : Int32} {fj : Nat → Nat → Int32} {fm : Nat → Nat → Int64} {vj : Nat → Int32} {vm : Nat → Int64} : RL_X12_rollLine_20 fi fl vi vl r fj fm vj vm (PS_X12_rollLine fi fl vi vl r fj fm vj vm) := by
  unfold RL_X12_rollLine_20
  intro hp0 hp1 hp2 hp3 hp4 hp5 hp6 hp7 hp8 hp9 hp10 hp11 hp12 hp13 hp14 hp15 hp16 hp17 hp18 hp19 hp20 hp21 hp22 hp23 hp24 tt fik flk vik vlk rk gk_1 tb_1 gk_0 fik_4 flk_4 vik_4 vlk_4 rk_4 gk_4_1 gk_4_2 gk_4_3 tb_5 gk_4_0 c93 fik_27 flk_27 vik_27 vlk_27 rk_27 gk_27_0 gk_27_1 gk_27_2 q0 q1 q2 q3 q4 q5 q6 q7 q8 q9 q10; subst q0
  unfold PS_X12_rollLine
  intro n m t hc
  (try simp only [q1, q2, q3, q4, q5, q6, q7, q8, q9, q10]); have k9_0 : (0 : Int32).toInt = 0 := (by decide); have k9_1 : (1 : Int32).toInt = 1 := (by decide); have k9_2 : (4 : Int32).toInt = 4 := (by decide)
  have hc0 := hc
  obtain ⟨hn, hm, ht, ck, cp, ce, cw, cu, cg⟩ := hc0
  have n_monday : ¬ isW (trn (fi 0) n) n m t 120325360869753 := by
    rcases gk_1 with ⟨z1, z2, z3⟩ | ⟨z1, z2⟩
    · exact absurd (z1.symm.trans tb_1) (by decide)
    · exact fun c => z2 ⟨ck.trans c.1, by rw [cw c.1]; exact c.2⟩
  have hl8 := gk_4_3 (trn (fi 0) n) n m _ hc
  rw [show (9 : Int).toNat = 9 from rfl] at hl8
  obtain ⟨d2, d3, d4⟩ := or1 hl8 tb_5
  exact Or.inr ⟨by decide, by unfold rll; rw [if_neg n_monday, if_neg (fun c => c d2), if_pos c93]; exact il_eq (gk_27_2.1.trans (by decide)) (gk_27_2.2.trans cp)⟩
set_option maxHeartbeats 4000000 in
theorem PL_X12_rollLine_21 {fi : Nat → Nat → Int32} {fl : Nat → Nat → Int64} {vi : Nat → Int32} {vl : Nat → Int64} {r : Int32} {fj : Nat → Nat → Int32} {fm : Nat → Nat → Int64} {vj : Nat → Int32} {vm : Nat → Int64} : RL_X12_rollLine_21 fi fl vi vl r fj fm vj vm (PS_X12_rollLine fi fl vi vl r fj fm vj vm) := by
  unfold RL_X12_rollLine_21
  intro hp0 hp1 hp2 hp3 hp4 hp5 hp6 hp7 hp8 hp9 hp10 hp11 hp12 hp13 hp14 hp15 hp16 hp17 hp18 hp19 hp20 hp21 hp22 hp23 hp24 tt fik flk vik vlk rk gk_1 tb_1 gk_0 fik_4 flk_4 vik_4 vlk_4 rk_4 gk_4_1 gk_4_2 gk_4_3 tb_5 gk_4_0 q0 q1 q2 q3 q4 q5 q6 q7 q8 q9 q10; subst q0
  unfold PS_X12_rollLine
  intro n m t hc
  (try simp only [q1, q2, q3, q4, q5, q6, q7, q8, q9, q10]); have k9_0 : (0 : Int32).toInt = 0 := (by decide); have k9_1 : (1 : Int32).toInt = 1 := (by decide)
  have hc0 := hc
  obtain ⟨hn, hm, ht, ck, cp, ce, cw, cu, cg⟩ := hc0
  have n_monday : ¬ isW (trn (fi 0) n) n m t 120325360869753 := by
    rcases gk_1 with ⟨z1, z2, z3⟩ | ⟨z1, z2⟩
    · exact absurd (z1.symm.trans tb_1) (by decide)
    · exact fun c => z2 ⟨ck.trans c.1, by rw [cw c.1]; exact c.2⟩
  have hl8 := gk_4_3 (trn (fi 0) n) n m _ hc
  rw [show (9 : Int).toNat = 9 from rfl] at hl8
  obtain ⟨d2, d3, d4⟩ := or0 hl8 tb_5
  exact Or.inr ⟨by decide, by unfold rll; rw [if_neg n_monday, if_pos d2, d3, d4]⟩
theorem P_X12_rollLine {fi : Nat → Nat → Int32} {fl : Nat → Nat → Int64} {vi : Nat → Int32} {vl : Nat → Int64} {r : Int32} {fj : Nat → Nat → Int32} {fm : Nat → Nat → Int64} {vj : Nat → Int32} {vm : Nat → Int64} (h : R_X12_rollLine fi fl vi vl r fj fm vj vm) : ∀ n m t : Nat, CC (trn (fi 0) n) n m t (vi 2) (vi 4) (vi 5) (vi 6) (vi 3) (vl 0) (vi 8) (vi 8) → (r.toInt = 1 ∧ ∃ t' : Nat, rll (trn (fi 0) n) n m (ownB (fl 0)) (fl 1) 0 ((fi 2) 0).toInt (fl 1) 9 ((fi 2) 1).toInt (vi 21).toInt t = .inr t' ∧ CC (trn (fi 0) n) n m t' (vi 2) (vi 4) (vj 4) (vj 1) (vj 0) (vm 0) (vj 3) (vj 3)) ∨ (r.toInt = 0 ∧ rll (trn (fi 0) n) n m (ownB (fl 0)) (fl 1) 0 ((fi 2) 0).toInt (fl 1) 9 ((fi 2) 1).toInt (vi 21).toInt t = .inl ((vj 6).toInt, (vj 7).toInt)) := h (PS_X12_rollLine fi fl vi vl r fj fm vj vm) PL_X12_rollLine_0 PL_X12_rollLine_1 PL_X12_rollLine_2 PL_X12_rollLine_3 PL_X12_rollLine_4 PL_X12_rollLine_5 PL_X12_rollLine_6 PL_X12_rollLine_7 PL_X12_rollLine_8 PL_X12_rollLine_9 PL_X12_rollLine_10 PL_X12_rollLine_11 PL_X12_rollLine_12 PL_X12_rollLine_13 PL_X12_rollLine_14 PL_X12_rollLine_15 PL_X12_rollLine_16 PL_X12_rollLine_17 PL_X12_rollLine_18 PL_X12_rollLine_19 PL_X12_rollLine_20 PL_X12_rollLine_21
def RL_X12_leafOf_0 (fi : Nat → Nat → Int32) (fl : Nat → Nat → Int64) (vi : Nat → Int32) (vl : Nat → Int64) (r : Int32) (fj : Nat → Nat → Int32) (fm : Nat → Nat → Int64) (vj : Nat → Int32) (vm : Nat → Int64) (Q9 : Prop) : Prop :=
  (0 ≤ (vi 1).toInt ∧ (vi 1).toInt ≤ 940) → (0 ≤ (vi 2).toInt ∧ (vi 2).toInt ≤ 940) → (0 ≤ (vi 3).toInt ∧ (vi 3).toInt ≤ 940) → (0 ≤ (vi 4).toInt ∧ (vi 4).toInt ≤ 940) → (0 ≤ (vi 5).toInt ∧ (vi 5).toInt ≤ 4) → (0 ≤ (vi 6).toInt ∧ (vi 6).toInt ≤ 940) → (0 ≤ (vi 10).toInt ∧ (vi 10).toInt ≤ 940) → (0 ≤ (vi 14).toInt ∧ (vi 14).toInt ≤ 4) → (-1 ≤ (vi 15).toInt ∧ (vi 15).toInt ≤ 9) → (0 ≤ (vi 21).toInt ∧ (vi 21).toInt ≤ 40) → (0 ≤ (vi 23).toInt ∧ (vi 23).toInt ≤ 40) → (0 ≤ (vi 24).toInt ∧ (vi 24).toInt ≤ 20) → (0 ≤ (vi 25).toInt ∧ (vi 25).toInt ≤ 40) → (0 ≤ (vi 27).toInt ∧ (vi 27).toInt ≤ 1) → ∀ (fik : Nat → Nat → Int32), ∀ (flk : Nat → Nat → Int64), ∀ (vik : Nat → Int32), ∀ (vlk : Nat → Int64), ∀ (rk : Int32), (DJ (rk.toInt = 1 ∧ (vi 5).toInt = 1 ∧ (vl 0) = (418430678629 : Int64)) (rk.toInt = 0 ∧ ¬ ((vi 5).toInt = 1 ∧ (vl 0) = (418430678629 : Int64)))) → (rk.toInt = 1) → ((vi 5).toInt = 1) → (r = (0 : Int32)) → Q9
def RL_X12_leafOf_1 (fi : Nat → Nat → Int32) (fl : Nat → Nat → Int64) (vi : Nat → Int32) (vl : Nat → Int64) (r : Int32) (fj : Nat → Nat → Int32) (fm : Nat → Nat → Int64) (vj : Nat → Int32) (vm : Nat → Int64) (Q9 : Prop) : Prop :=
  (0 ≤ (vi 1).toInt ∧ (vi 1).toInt ≤ 940) → (0 ≤ (vi 2).toInt ∧ (vi 2).toInt ≤ 940) → (0 ≤ (vi 3).toInt ∧ (vi 3).toInt ≤ 940) → (0 ≤ (vi 4).toInt ∧ (vi 4).toInt ≤ 940) → (0 ≤ (vi 5).toInt ∧ (vi 5).toInt ≤ 4) → (0 ≤ (vi 6).toInt ∧ (vi 6).toInt ≤ 940) → (0 ≤ (vi 10).toInt ∧ (vi 10).toInt ≤ 940) → (0 ≤ (vi 14).toInt ∧ (vi 14).toInt ≤ 4) → (-1 ≤ (vi 15).toInt ∧ (vi 15).toInt ≤ 9) → (0 ≤ (vi 21).toInt ∧ (vi 21).toInt ≤ 40) → (0 ≤ (vi 23).toInt ∧ (vi 23).toInt ≤ 40) → (0 ≤ (vi 24).toInt ∧ (vi 24).toInt ≤ 20) → (0 ≤ (vi 25).toInt ∧ (vi 25).toInt ≤ 40) → (0 ≤ (vi 27).toInt ∧ (vi 27).toInt ≤ 1) → ∀ (fik : Nat → Nat → Int32), ∀ (flk : Nat → Nat → Int64), ∀ (vik : Nat → Int32), ∀ (vlk : Nat → Int64), ∀ (rk : Int32), (DJ (rk.toInt = 1 ∧ (vi 5).toInt = 1 ∧ (vl 0) = (418430678629 : Int64)) (rk.toInt = 0 ∧ ¬ ((vi 5).toInt = 1 ∧ (vl 0) = (418430678629 : Int64)))) → (rk.toInt = 0) → (True) → ∀ (fik_1 : Nat → Nat → Int32), ∀ (flk_1 : Nat → Nat → Int64), ∀ (vik_1 : Nat → Int32), ∀ (vlk_1 : Nat → Int64), ∀ (rk_1 : Int32), (DJ (rk_1.toInt = 1 ∧ (vi 5).toInt = 1 ∧ (vl 0) = (512735409267 : Int64)) (rk_1.toInt = 0 ∧ ¬ ((vi 5).toInt = 1 ∧ (vl 0) = (512735409267 : Int64)))) → (rk_1.toInt = 1) → ((vi 5).toInt = 1) → (r = (1 : Int32)) → Q9
def RL_X12_leafOf_2 (fi : Nat → Nat → Int32) (fl : Nat → Nat → Int64) (vi : Nat → Int32) (vl : Nat → Int64) (r : Int32) (fj : Nat → Nat → Int32) (fm : Nat → Nat → Int64) (vj : Nat → Int32) (vm : Nat → Int64) (Q9 : Prop) : Prop :=
  (0 ≤ (vi 1).toInt ∧ (vi 1).toInt ≤ 940) → (0 ≤ (vi 2).toInt ∧ (vi 2).toInt ≤ 940) → (0 ≤ (vi 3).toInt ∧ (vi 3).toInt ≤ 940) → (0 ≤ (vi 4).toInt ∧ (vi 4).toInt ≤ 940) → (0 ≤ (vi 5).toInt ∧ (vi 5).toInt ≤ 4) → (0 ≤ (vi 6).toInt ∧ (vi 6).toInt ≤ 940) → (0 ≤ (vi 10).toInt ∧ (vi 10).toInt ≤ 940) → (0 ≤ (vi 14).toInt ∧ (vi 14).toInt ≤ 4) → (-1 ≤ (vi 15).toInt ∧ (vi 15).toInt ≤ 9) → (0 ≤ (vi 21).toInt ∧ (vi 21).toInt ≤ 40) → (0 ≤ (vi 23).toInt ∧ (vi 23).toInt ≤ 40) → (0 ≤ (vi 24).toInt ∧ (vi 24).toInt ≤ 20) → (0 ≤ (vi 25).toInt ∧ (vi 25).toInt ≤ 40) → (0 ≤ (vi 27).toInt ∧ (vi 27).toInt ≤ 1) → ∀ (fik : Nat → Nat → Int32), ∀ (flk : Nat → Nat → Int64), ∀ (vik : Nat → Int32), ∀ (vlk : Nat → Int64), ∀ (rk : Int32), (DJ (rk.toInt = 1 ∧ (vi 5).toInt = 1 ∧ (vl 0) = (418430678629 : Int64)) (rk.toInt = 0 ∧ ¬ ((vi 5).toInt = 1 ∧ (vl 0) = (418430678629 : Int64)))) → (rk.toInt = 0) → (True) → ∀ (fik_1 : Nat → Nat → Int32), ∀ (flk_1 : Nat → Nat → Int64), ∀ (vik_1 : Nat → Int32), ∀ (vlk_1 : Nat → Int64), ∀ (rk_1 : Int32), (DJ (rk_1.toInt = 1 ∧ (vi 5).toInt = 1 ∧ (vl 0) = (512735409267 : Int64)) (rk_1.toInt = 0 ∧ ¬ ((vi 5).toInt = 1 ∧ (vl 0) = (512735409267 : Int64)))) → (rk_1.toInt = 0) → (True) → ∀ (fik_2 : Nat → Nat → Int32), ∀ (flk_2 : Nat → Nat → Int64), ∀ (vik_2 : Nat → Int32), ∀ (vlk_2 : Nat → Int64), ∀ (rk_2 : Int32), (DJ (rk_2.toInt = 1 ∧ (vi 5).toInt = 1 ∧ (vl 0) = (1718379876 : Int64)) (rk_2.toInt = 0 ∧ ¬ ((vi 5).toInt = 1 ∧ (vl 0) = (1718379876 : Int64)))) → (rk_2.toInt = 1) → ((vi 5).toInt = 1) → (r = (2 : Int32)) → Q9
def RL_X12_leafOf_3 (fi : Nat → Nat → Int32) (fl : Nat → Nat → Int64) (vi : Nat → Int32) (vl : Nat → Int64) (r : Int32) (fj : Nat → Nat → Int32) (fm : Nat → Nat → Int64) (vj : Nat → Int32) (vm : Nat → Int64) (Q9 : Prop) : Prop :=
  (0 ≤ (vi 1).toInt ∧ (vi 1).toInt ≤ 940) → (0 ≤ (vi 2).toInt ∧ (vi 2).toInt ≤ 940) → (0 ≤ (vi 3).toInt ∧ (vi 3).toInt ≤ 940) → (0 ≤ (vi 4).toInt ∧ (vi 4).toInt ≤ 940) → (0 ≤ (vi 5).toInt ∧ (vi 5).toInt ≤ 4) → (0 ≤ (vi 6).toInt ∧ (vi 6).toInt ≤ 940) → (0 ≤ (vi 10).toInt ∧ (vi 10).toInt ≤ 940) → (0 ≤ (vi 14).toInt ∧ (vi 14).toInt ≤ 4) → (-1 ≤ (vi 15).toInt ∧ (vi 15).toInt ≤ 9) → (0 ≤ (vi 21).toInt ∧ (vi 21).toInt ≤ 40) → (0 ≤ (vi 23).toInt ∧ (vi 23).toInt ≤ 40) → (0 ≤ (vi 24).toInt ∧ (vi 24).toInt ≤ 20) → (0 ≤ (vi 25).toInt ∧ (vi 25).toInt ≤ 40) → (0 ≤ (vi 27).toInt ∧ (vi 27).toInt ≤ 1) → ∀ (fik : Nat → Nat → Int32), ∀ (flk : Nat → Nat → Int64), ∀ (vik : Nat → Int32), ∀ (vlk : Nat → Int64), ∀ (rk : Int32), (DJ (rk.toInt = 1 ∧ (vi 5).toInt = 1 ∧ (vl 0) = (418430678629 : Int64)) (rk.toInt = 0 ∧ ¬ ((vi 5).toInt = 1 ∧ (vl 0) = (418430678629 : Int64)))) → (rk.toInt = 0) → (True) → ∀ (fik_1 : Nat → Nat → Int32), ∀ (flk_1 : Nat → Nat → Int64), ∀ (vik_1 : Nat → Int32), ∀ (vlk_1 : Nat → Int64), ∀ (rk_1 : Int32), (DJ (rk_1.toInt = 1 ∧ (vi 5).toInt = 1 ∧ (vl 0) = (512735409267 : Int64)) (rk_1.toInt = 0 ∧ ¬ ((vi 5).toInt = 1 ∧ (vl 0) = (512735409267 : Int64)))) → (rk_1.toInt = 0) → (True) → ∀ (fik_2 : Nat → Nat → Int32), ∀ (flk_2 : Nat → Nat → Int64), ∀ (vik_2 : Nat → Int32), ∀ (vlk_2 : Nat → Int64), ∀ (rk_2 : Int32), (DJ (rk_2.toInt = 1 ∧ (vi 5).toInt = 1 ∧ (vl 0) = (1718379876 : Int64)) (rk_2.toInt = 0 ∧ ¬ ((vi 5).toInt = 1 ∧ (vl 0) = (1718379876 : Int64)))) → (rk_2.toInt = 0) → (True) → ∀ (fik_3 : Nat → Nat → Int32), ∀ (flk_3 : Nat → Nat → Int64), ∀ (vik_3 : Nat → Int32), ∀ (vlk_3 : Nat → Int64), ∀ (rk_3 : Int32), (DJ (rk_3.toInt = 1 ∧ (vi 5).toInt = 1 ∧ (vl 0) = (1735156068 : Int64)) (rk_3.toInt = 0 ∧ ¬ ((vi 5).toInt = 1 ∧ (vl 0) = (1735156068 : Int64)))) → (rk_3.toInt = 1) → ((vi 5).toInt = 1) → (r = (3 : Int32)) → Q9
def RL_X12_leafOf_4 (fi : Nat → Nat → Int32) (fl : Nat → Nat → Int64) (vi : Nat → Int32) (vl : Nat → Int64) (r : Int32) (fj : Nat → Nat → Int32) (fm : Nat → Nat → Int64) (vj : Nat → Int32) (vm : Nat → Int64) (Q9 : Prop) : Prop :=
  (0 ≤ (vi 1).toInt ∧ (vi 1).toInt ≤ 940) → (0 ≤ (vi 2).toInt ∧ (vi 2).toInt ≤ 940) → (0 ≤ (vi 3).toInt ∧ (vi 3).toInt ≤ 940) → (0 ≤ (vi 4).toInt ∧ (vi 4).toInt ≤ 940) → (0 ≤ (vi 5).toInt ∧ (vi 5).toInt ≤ 4) → (0 ≤ (vi 6).toInt ∧ (vi 6).toInt ≤ 940) → (0 ≤ (vi 10).toInt ∧ (vi 10).toInt ≤ 940) → (0 ≤ (vi 14).toInt ∧ (vi 14).toInt ≤ 4) → (-1 ≤ (vi 15).toInt ∧ (vi 15).toInt ≤ 9) → (0 ≤ (vi 21).toInt ∧ (vi 21).toInt ≤ 40) → (0 ≤ (vi 23).toInt ∧ (vi 23).toInt ≤ 40) → (0 ≤ (vi 24).toInt ∧ (vi 24).toInt ≤ 20) → (0 ≤ (vi 25).toInt ∧ (vi 25).toInt ≤ 40) → (0 ≤ (vi 27).toInt ∧ (vi 27).toInt ≤ 1) → ∀ (fik : Nat → Nat → Int32), ∀ (flk : Nat → Nat → Int64), ∀ (vik : Nat → Int32), ∀ (vlk : Nat → Int64), ∀ (rk : Int32), (DJ (rk.toInt = 1 ∧ (vi 5).toInt = 1 ∧ (vl 0) = (418430678629 : Int64)) (rk.toInt = 0 ∧ ¬ ((vi 5).toInt = 1 ∧ (vl 0) = (418430678629 : Int64)))) → (rk.toInt = 0) → (True) → ∀ (fik_1 : Nat → Nat → Int32), ∀ (flk_1 : Nat → Nat → Int64), ∀ (vik_1 : Nat → Int32), ∀ (vlk_1 : Nat → Int64), ∀ (rk_1 : Int32), (DJ (rk_1.toInt = 1 ∧ (vi 5).toInt = 1 ∧ (vl 0) = (512735409267 : Int64)) (rk_1.toInt = 0 ∧ ¬ ((vi 5).toInt = 1 ∧ (vl 0) = (512735409267 : Int64)))) → (rk_1.toInt = 0) → (True) → ∀ (fik_2 : Nat → Nat → Int32), ∀ (flk_2 : Nat → Nat → Int64), ∀ (vik_2 : Nat → Int32), ∀ (vlk_2 : Nat → Int64), ∀ (rk_2 : Int32), (DJ (rk_2.toInt = 1 ∧ (vi 5).toInt = 1 ∧ (vl 0) = (1718379876 : Int64)) (rk_2.toInt = 0 ∧ ¬ ((vi 5).toInt = 1 ∧ (vl 0) = (1718379876 : Int64)))) → (rk_2.toInt = 0) → (True) → ∀ (fik_3 : Nat → Nat → Int32), ∀ (flk_3 : Nat → Nat → Int64), ∀ (vik_3 : Nat → Int32), ∀ (vlk_3 : Nat → Int64), ∀ (rk_3 : Int32), (DJ (rk_3.toInt = 1 ∧ (vi 5).toInt = 1 ∧ (vl 0) = (1735156068 : Int64)) (rk_3.toInt = 0 ∧ ¬ ((vi 5).toInt = 1 ∧ (vl 0) = (1735156068 : Int64)))) → (rk_3.toInt = 0) → (True) → ∀ (fik_4 : Nat → Nat → Int32), ∀ (flk_4 : Nat → Nat → Int64), ∀ (vik_4 : Nat → Int32), ∀ (vlk_4 : Nat → Int64), ∀ (rk_4 : Int32), (DJ (rk_4.toInt = 1 ∧ (vi 5).toInt = 1 ∧ (vl 0) = (109270082020708 : Int64)) (rk_4.toInt = 0 ∧ ¬ ((vi 5).toInt = 1 ∧ (vl 0) = (109270082020708 : Int64)))) → (rk_4.toInt = 1) → ((vi 5).toInt = 1) → (r = (4 : Int32)) → Q9
