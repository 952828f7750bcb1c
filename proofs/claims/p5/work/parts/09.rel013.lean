def RL_X4_readDeed_10 (fi : Nat → Nat → Int32) (fl : Nat → Nat → Int64) (vi : Nat → Int32) (vl : Nat → Int64) (r : Int32) (fj : Nat → Nat → Int32) (fm : Nat → Nat → Int64) (vj : Nat → Int32) (vm : Nat → Int64) (Q9 : Prop) : Prop :=
  (0 ≤ (vi 0).toInt ∧ (vi 0).toInt ≤ 40) → (0 ≤ (vi 7).toInt ∧ (vi 7).toInt ≤ 940) → (0 ≤ (vi 8).toInt ∧ (vi 8).toInt ≤ 940) → (0 ≤ (vi 9).toInt ∧ (vi 9).toInt ≤ 940) → (0 ≤ (vi 11).toInt ∧ (vi 11).toInt ≤ 940) → (0 ≤ (vi 16).toInt ∧ (vi 16).toInt ≤ 940) → (0 ≤ (vi 17).toInt ∧ (vi 17).toInt ≤ 9) → (0 ≤ (vi 18).toInt ∧ (vi 18).toInt ≤ 9) → ((vi 0).toInt ≤ 39) → ∀ (fik : Nat → Nat → Int32), ∀ (flk : Nat → Nat → Int64), ∀ (vik : Nat → Int32), ∀ (vlk : Nat → Int64), ∀ (rk : Int32), (DJ (rk.toInt = 1 ∧ (vi 10).toInt = 1 ∧ (vl 0) = (499850634611 : Int64)) (rk.toInt = 0 ∧ ¬ ((vi 10).toInt = 1 ∧ (vl 0) = (499850634611 : Int64)))) → (rk.toInt = 0) → (True) → ∀ (fik_5 : Nat → Nat → Int32), ∀ (flk_5 : Nat → Nat → Int64), ∀ (vik_5 : Nat → Int32), ∀ (vlk_5 : Nat → Int64), ∀ (rk_5 : Int32), (DJ (rk_5.toInt = 1 ∧ (vi 10).toInt = 1 ∧ (vl 0) = (495924113523 : Int64)) (rk_5.toInt = 0 ∧ ¬ ((vi 10).toInt = 1 ∧ (vl 0) = (495924113523 : Int64)))) → (rk_5.toInt = 0) → (True) → ∀ (fik_10 : Nat → Nat → Int32), ∀ (flk_10 : Nat → Nat → Int64), ∀ (vik_10 : Nat → Int32), ∀ (vlk_10 : Nat → Int64), ∀ (rk_10 : Int32), (DJ (rk_10.toInt = 1 ∧ (vi 10).toInt = 1 ∧ (vl 0) = (495622843507 : Int64)) (rk_10.toInt = 0 ∧ ¬ ((vi 10).toInt = 1 ∧ (vl 0) = (495622843507 : Int64)))) → (rk_10.toInt = 0) → (True) → ∀ (fik_15 : Nat → Nat → Int32), ∀ (flk_15 : Nat → Nat → Int64), ∀ (vik_15 : Nat → Int32), ∀ (vlk_15 : Nat → Int64), ∀ (rk_15 : Int32), (DJ (rk_15.toInt = 1 ∧ (vi 10).toInt = 1 ∧ (vl 0) = (1684628851 : Int64)) (rk_15.toInt = 0 ∧ ¬ ((vi 10).toInt = 1 ∧ (vl 0) = (1684628851 : Int64)))) → (rk_15.toInt = 0) → (True) → ∀ (fik_18 : Nat → Nat → Int32), ∀ (flk_18 : Nat → Nat → Int64), ∀ (vik_18 : Nat → Int32), ∀ (vlk_18 : Nat → Int64), ∀ (rk_18 : Int32), (DJ (rk_18.toInt = 1 ∧ (vi 10).toInt = 1 ∧ (vl 0) = (448311224179 : Int64)) (rk_18.toInt = 0 ∧ ¬ ((vi 10).toInt = 1 ∧ (vl 0) = (448311224179 : Int64)))) → (rk_18.toInt = 0) → (True) → ∀ (fik_21 : Nat → Nat → Int32), ∀ (flk_21 : Nat → Nat → Int64), ∀ (vik_21 : Nat → Int32), ∀ (vlk_21 : Nat → Int64), ∀ (rk_21 : Int32), (DJ (rk_21.toInt = 1 ∧ (vi 10).toInt = 1 ∧ (vl 0) = (439905248627 : Int64)) (rk_21.toInt = 0 ∧ ¬ ((vi 10).toInt = 1 ∧ (vl 0) = (439905248627 : Int64)))) → (rk_21.toInt = 0) → (True) → ∀ (fik_24 : Nat → Nat → Int32), ∀ (flk_24 : Nat → Nat → Int64), ∀ (vik_24 : Nat → Int32), ∀ (vlk_24 : Nat → Int64), ∀ (rk_24 : Int32), (DJ (rk_24.toInt = 1 ∧ (vi 10).toInt = 1 ∧ (vl 0) = (1885436275 : Int64)) (rk_24.toInt = 0 ∧ ¬ ((vi 10).toInt = 1 ∧ (vl 0) = (1885436275 : Int64)))) → (rk_24.toInt = 1) → (True) → ∀ (fik_25 : Nat → Nat → Int32), ∀ (flk_25 : Nat → Nat → Int64), ∀ (vik_25 : Nat → Int32), ∀ (vlk_25 : Nat → Int64), ∀ (rk_25 : Int32), (rk_25 = 1) → (∀ j : Nat, ¬ j = ((vi 0)).toNatClampNeg → (fik_25 0) j = (fi 0) j) → (((fik_25 0) ((vi 0)).toNatClampNeg).toInt = (5 : Int32).toInt) → ∀ (fik_26 : Nat → Nat → Int32), ∀ (flk_26 : Nat → Nat → Int64), ∀ (vik_26 : Nat → Int32), ∀ (vlk_26 : Nat → Int64), ∀ (rk_26 : Int32), (rk_26 = 1) → (0 ≤ (vik_26 4).toInt ∧ (vik_26 4).toInt ≤ 940) → (0 ≤ (vik_26 1).toInt ∧ (vik_26 1).toInt ≤ 940) → (∀ n m : Nat, (vi 7).toInt = (n : Int) → (vi 8).toInt = (m : Int) → (vi 9).toInt ≤ (vi 7).toInt → CC (trn (fi 1) n) n m ((vi 9).toInt).toNat (vi 7) (vi 8) (vik_26 0) (vik_26 1) (vik_26 4) (vlk_26 0) (vik_26 3) (vik_26 2)) → ∀ (fik_27 : Nat → Nat → Int32), ∀ (flk_27 : Nat → Nat → Int64), ∀ (vik_27 : Nat → Int32), ∀ (vlk_27 : Nat → Int64), ∀ (rk_27 : Int32), (0 ≤ (vik_27 7).toInt ∧ (vik_27 7).toInt ≤ 940) → (0 ≤ (vik_27 4).toInt ∧ (vik_27 4).toInt ≤ 940) → (0 ≤ (vik_27 1).toInt ∧ (vik_27 1).toInt ≤ 940) → (rk_27.toInt = 1 → (vik_27 0).toInt = (vi 15).toInt) → (∀ n m t : Nat, CC (trn (fi 1) n) n m t (vi 7) (vi 8) (vik_26 0) (vik_26 1) (vik_26 4) (vlk_26 0) (vik_26 3) (vik_26 2) → (rk_27.toInt = 1 ∧ (fNum (trn (fi 1) n) n m (1 : Int) (99 : Int) t) = 0 ∧ (vik_27 2).toInt = (sU (trn (fi 1) n) n m t) ∧ (sK (trn (fi 1) n) n m t) = 2 ∧ (1 : Int) ≤ (sU (trn (fi 1) n) n m t) ∧ (sU (trn (fi 1) n) n m t) ≤ (99 : Int) ∧ CC (trn (fi 1) n) n m (sX (trn (fi 1) n) n m t) (vi 7) (vi 8) (vik_27 3) (vik_27 4) (vik_27 7) (vlk_27 0) (vik_27 6) (vik_27 5)) ∨ (rk_27.toInt = 0 ∧ ¬ (fNum (trn (fi 1) n) n m (1 : Int) (99 : Int) t) = 0 ∧ (vik_27 0).toInt = (fNum (trn (fi 1) n) n m (1 : Int) (99 : Int) t) ∧ (vik_27 1).toInt = ((sPn (trn (fi 1) n) n m t) : Int))) → (rk_27.toInt = 0) → (True) → (r = (0 : Int32)) → (fj 0 = (fik_25 0)) → (vj 0 = (vik_27 3)) → (vj 1 = (vik_27 4)) → (vj 2 = (vik_27 5)) → (vj 3 = (vik_27 6)) → (vj 4 = (vik_27 7)) → (vj 5 = (vik_27 2)) → (vj 6 = (vik_27 0)) → (vj 7 = (vik_27 1)) → (vm 0 = (vlk_27 0)) → Q9
def RL_X4_readDeed_11 (fi : Nat → Nat → Int32) (fl : Nat → Nat → Int64) (vi : Nat → Int32) (vl : Nat → Int64) (r : Int32) (fj : Nat → Nat → Int32) (fm : Nat → Nat → Int64) (vj : Nat → Int32) (vm : Nat → Int64) (Q9 : Prop) : Prop :=
  (0 ≤ (vi 0).toInt ∧ (vi 0).toInt ≤ 40) → (0 ≤ (vi 7).toInt ∧ (vi 7).toInt ≤ 940) → (0 ≤ (vi 8).toInt ∧ (vi 8).toInt ≤ 940) → (0 ≤ (vi 9).toInt ∧ (vi 9).toInt ≤ 940) → (0 ≤ (vi 11).toInt ∧ (vi 11).toInt ≤ 940) → (0 ≤ (vi 16).toInt ∧ (vi 16).toInt ≤ 940) → (0 ≤ (vi 17).toInt ∧ (vi 17).toInt ≤ 9) → (0 ≤ (vi 18).toInt ∧ (vi 18).toInt ≤ 9) → ((vi 0).toInt ≤ 39) → ∀ (fik : Nat → Nat → Int32), ∀ (flk : Nat → Nat → Int64), ∀ (vik : Nat → Int32), ∀ (vlk : Nat → Int64), ∀ (rk : Int32), (DJ (rk.toInt = 1 ∧ (vi 10).toInt = 1 ∧ (vl 0) = (499850634611 : Int64)) (rk.toInt = 0 ∧ ¬ ((vi 10).toInt = 1 ∧ (vl 0) = (499850634611 : Int64)))) → (rk.toInt = 0) → (True) → ∀ (fik_5 : Nat → Nat → Int32), ∀ (flk_5 : Nat → Nat → Int64), ∀ (vik_5 : Nat → Int32), ∀ (vlk_5 : Nat → Int64), ∀ (rk_5 : Int32), (DJ (rk_5.toInt = 1 ∧ (vi 10).toInt = 1 ∧ (vl 0) = (495924113523 : Int64)) (rk_5.toInt = 0 ∧ ¬ ((vi 10).toInt = 1 ∧ (vl 0) = (495924113523 : Int64)))) → (rk_5.toInt = 0) → (True) → ∀ (fik_10 : Nat → Nat → Int32), ∀ (flk_10 : Nat → Nat → Int64), ∀ (vik_10 : Nat → Int32), ∀ (vlk_10 : Nat → Int64), ∀ (rk_10 : Int32), (DJ (rk_10.toInt = 1 ∧ (vi 10).toInt = 1 ∧ (vl 0) = (495622843507 : Int64)) (rk_10.toInt = 0 ∧ ¬ ((vi 10).toInt = 1 ∧ (vl 0) = (495622843507 : Int64)))) → (rk_10.toInt = 0) → (True) → ∀ (fik_15 : Nat → Nat → Int32), ∀ (flk_15 : Nat → Nat → Int64), ∀ (vik_15 : Nat → Int32), ∀ (vlk_15 : Nat → Int64), ∀ (rk_15 : Int32), (DJ (rk_15.toInt = 1 ∧ (vi 10).toInt = 1 ∧ (vl 0) = (1684628851 : Int64)) (rk_15.toInt = 0 ∧ ¬ ((vi 10).toInt = 1 ∧ (vl 0) = (1684628851 : Int64)))) → (rk_15.toInt = 0) → (True) → ∀ (fik_18 : Nat → Nat → Int32), ∀ (flk_18 : Nat → Nat → Int64), ∀ (vik_18 : Nat → Int32), ∀ (vlk_18 : Nat → Int64), ∀ (rk_18 : Int32), (DJ (rk_18.toInt = 1 ∧ (vi 10).toInt = 1 ∧ (vl 0) = (448311224179 : Int64)) (rk_18.toInt = 0 ∧ ¬ ((vi 10).toInt = 1 ∧ (vl 0) = (448311224179 : Int64)))) → (rk_18.toInt = 0) → (True) → ∀ (fik_21 : Nat → Nat → Int32), ∀ (flk_21 : Nat → Nat → Int64), ∀ (vik_21 : Nat → Int32), ∀ (vlk_21 : Nat → Int64), ∀ (rk_21 : Int32), (DJ (rk_21.toInt = 1 ∧ (vi 10).toInt = 1 ∧ (vl 0) = (439905248627 : Int64)) (rk_21.toInt = 0 ∧ ¬ ((vi 10).toInt = 1 ∧ (vl 0) = (439905248627 : Int64)))) → (rk_21.toInt = 0) → (True) → ∀ (fik_24 : Nat → Nat → Int32), ∀ (flk_24 : Nat → Nat → Int64), ∀ (vik_24 : Nat → Int32), ∀ (vlk_24 : Nat → Int64), ∀ (rk_24 : Int32), (DJ (rk_24.toInt = 1 ∧ (vi 10).toInt = 1 ∧ (vl 0) = (1885436275 : Int64)) (rk_24.toInt = 0 ∧ ¬ ((vi 10).toInt = 1 ∧ (vl 0) = (1885436275 : Int64)))) → (rk_24.toInt = 0) → (True) → ∀ (fik_28 : Nat → Nat → Int32), ∀ (flk_28 : Nat → Nat → Int64), ∀ (vik_28 : Nat → Int32), ∀ (vlk_28 : Nat → Int64), ∀ (rk_28 : Int32), (rk_28 = 0) → (0 ≤ (vik_28 1).toInt ∧ (vik_28 1).toInt ≤ 940) → ((vik_28 0).toInt = (1 : Int32).toInt ∧ (vik_28 1).toInt = (vi 11).toInt) → (r = (0 : Int32)) → (fj 0 = (fi 0)) → (vj 0 = (vi 10)) → (vj 1 = (vi 11)) → (vj 2 = (vi 13)) → (vj 3 = (vi 12)) → (vj 4 = (vi 9)) → (vj 5 = (vi 14)) → (vj 6 = (vik_28 0)) → (vj 7 = (vik_28 1)) → (vm 0 = (vl 0)) → Q9
def R_X4_readDeed (fi : Nat → Nat → Int32) (fl : Nat → Nat → Int64) (vi : Nat → Int32) (vl : Nat → Int64) (r : Int32) (fj : Nat → Nat → Int32) (fm : Nat → Nat → Int64) (vj : Nat → Int32) (vm : Nat → Int64) : Prop :=
  ∀ Q9 : Prop, RL_X4_readDeed_0 fi fl vi vl r fj fm vj vm Q9 → RL_X4_readDeed_1 fi fl vi vl r fj fm vj vm Q9 → RL_X4_readDeed_2 fi fl vi vl r fj fm vj vm Q9 → RL_X4_readDeed_3 fi fl vi vl r fj fm vj vm Q9 → RL_X4_readDeed_4 fi fl vi vl r fj fm vj vm Q9 → RL_X4_readDeed_5 fi fl vi vl r fj fm vj vm Q9 → RL_X4_readDeed_6 fi fl vi vl r fj fm vj vm Q9 → RL_X4_readDeed_7 fi fl vi vl r fj fm vj vm Q9 → RL_X4_readDeed_8 fi fl vi vl r fj fm vj vm Q9 → RL_X4_readDeed_9 fi fl vi vl r fj fm vj vm Q9 → RL_X4_readDeed_10 fi fl vi vl r fj fm vj vm Q9 → RL_X4_readDeed_11 fi fl vi vl r fj fm vj vm Q9 → Q9
def PS_X4_readDeed (fi : Nat → Nat → Int32) (fl : Nat → Nat → Int64) (vi : Nat → Int32) (vl : Nat → Int64) (r : Int32) (fj : Nat → Nat → Int32) (fm : Nat → Nat → Int64) (vj : Nat → Int32) (vm : Nat → Int64) : Prop :=
  ∀ n m t : Nat, CC (trn (fi 1) n) n m t (vi 7) (vi 8) (vi 10) (vi 11) (vi 9) (vl 0) (vi 12) (vi 13) → (r.toInt = 1 ∧ ∃ t' : Nat, rld (trn (fi 1) n) n m (ownB (fl 1)) (fl 0) 0 (vi 17).toInt (fl 2) 0 (vi 18).toInt t = .inr t' ∧ CC (trn (fi 1) n) n m t' (vi 7) (vi 8) (vj 0) (vj 1) (vj 4) (vm 0) (vj 3) (vj 2)) ∨ (r.toInt = 0 ∧ rld (trn (fi 1) n) n m (ownB (fl 1)) (fl 0) 0 (vi 17).toInt (fl 2) 0 (vi 18).toInt t = .inl ((vj 6).toInt, (vj 7).toInt))
set_option maxHeartbeats 4000000 in
theorem PL_X4_readDeed_0 {fi : Nat → Nat → Int32} {fl : Nat → Nat → Int64} {vi : Nat → Int32} {vl : Nat → Int64} {r : Int32} {fj : Nat → Nat → Int32} {fm : Nat → Nat → Int64} {vj : Nat → Int32} {vm : Nat → Int64} : RL_X4_readDeed_0 fi fl vi vl r fj fm vj vm (PS_X4_readDeed fi fl vi vl r fj fm vj vm) := by
  unfold RL_X4_readDeed_0
  intro hp0 hp1 hp2 hp3 hp4 hp5 hp6 hp7 hp8 fik flk vik vlk rk gk_1 tb gk_0 fik_1 flk_1 vik_1 vlk_1 rk_1 gk_1_0 gk_1_1 gk_1_2 fik_2 flk_2 vik_2 vlk_2 rk_2 gk_2_0 gk_2_1 gk_2_2 gk_2_3 fik_3 flk_3 vik_3 vlk_3 rk_3 gk_3_0 gk_3_1 fik_4 flk_4 vik_4 vlk_4 rk_4 gk_4_1 gk_4_2 gk_4_3 gk_4_4 gk_4_5 tb_1 gk_4_0 q0 q1 q2 q3 q4 q5 q6 q7 q8 q9 q10; subst q0
  unfold PS_X4_readDeed
  intro n m t hc
  (try simp only [q1, q2, q3, q4, q5, q6, q7, q8, q9, q10]); have k9_0 : (0 : Int32).toInt = 0 := (by decide); have k9_1 : (1 : Int32).toInt = 1 := (by decide)
  have hc0 := hc
  obtain ⟨hn, hm, ht, ck, cp, ce, cw, cu, cg⟩ := hc0
  have y_takes : isW (trn (fi 1) n) n m t 499850634611 := by
    rcases gk_1 with ⟨z1, z2, z3⟩ | ⟨z1, z2⟩
    · exact ⟨ck.symm.trans z2, by rw [← cw (ck.symm.trans z2)]; exact z3⟩
    · exact absurd (z1.symm.trans tb) (by decide)
  have hc1 := CC_nx hc gk_2_3
  obtain ⟨hn1, hm1, ht1, dk, dp, de, dw, du, dg⟩ := id hc1
  rcases gk_4_5 n m _ hc1 with ⟨a1, a2, a3, a4, a5⟩ | ⟨a1, a2, a3, a4⟩ | ⟨a1, a2, a3, a4, a5⟩
  · have hfo := kn_of dw gk_3_1 a2
    exact Or.inl ⟨by decide, _, by unfold rld; rw [if_pos y_takes]; exact rkn_g (fKn_0 a2 (by omega)), a5⟩
  · exact absurd (a1.symm.trans tb_1) (by decide)
  · exact absurd (a1.symm.trans tb_1) (by decide)
set_option maxHeartbeats 4000000 in
theorem PL_X4_readDeed_1 {fi : Nat → Nat → Int32} {fl : Nat → Nat → Int64} {vi : Nat → Int32} {vl : Nat → Int64} {r : Int32} {fj : Nat → Nat → Int32} {fm : Nat → Nat → Int64} {vj : Nat → Int32} {vm : Nat → Int64} : RL_X4_readDeed_1 fi fl vi vl r fj fm vj vm (PS_X4_readDeed fi fl vi vl r fj fm vj vm) := by
  unfold RL_X4_readDeed_1
  intro hp0 hp1 hp2 hp3 hp4 hp5 hp6 hp7 hp8 fik flk vik vlk rk gk_1 tb gk_0 fik_1 flk_1 vik_1 vlk_1 rk_1 gk_1_0 gk_1_1 gk_1_2 fik_2 flk_2 vik_2 vlk_2 rk_2 gk_2_0 gk_2_1 gk_2_2 gk_2_3 fik_3 flk_3 vik_3 vlk_3 rk_3 gk_3_0 gk_3_1 fik_4 flk_4 vik_4 vlk_4 rk_4 gk_4_1 gk_4_2 gk_4_3 gk_4_4 gk_4_5 tb_1 gk_4_0 q0 q1 q2 q3 q4 q5 q6 q7 q8 q9 q10; subst q0
  unfold PS_X4_readDeed
  intro n m t hc
  (try simp only [q1, q2, q3, q4, q5, q6, q7, q8, q9, q10]); have k9_0 : (0 : Int32).toInt = 0 := (by decide); have k9_1 : (1 : Int32).toInt = 1 := (by decide)
  have hc0 := hc
  obtain ⟨hn, hm, ht, ck, cp, ce, cw, cu, cg⟩ := hc0
  have y_takes : isW (trn (fi 1) n) n m t 499850634611 := by
    rcases gk_1 with ⟨z1, z2, z3⟩ | ⟨z1, z2⟩
    · exact ⟨ck.symm.trans z2, by rw [← cw (ck.symm.trans z2)]; exact z3⟩
    · exact absurd (z1.symm.trans tb) (by decide)
  have hc1 := CC_nx hc gk_2_3
  obtain ⟨hn1, hm1, ht1, dk, dp, de, dw, du, dg⟩ := id hc1
  rcases gk_4_5 n m _ hc1 with ⟨a1, a2, a3, a4, a5⟩ | ⟨a1, a2, a3, a4⟩ | ⟨a1, a2, a3, a4, a5⟩
  · exact absurd (a1.symm.trans tb_1) (by decide)
  · exact Or.inr ⟨by decide, by unfold rld; rw [if_pos y_takes]; exact rkn_b (fKn_1 a2) (by decide) a3 a4⟩
  · have hfo := kn_of dw gk_3_1 a2
    exact Or.inr ⟨by decide, by unfold rld; rw [if_pos y_takes]; exact rkn_b (fKn_3 a2 (by omega)) (by decide) a4 a5⟩
set_option maxHeartbeats 4000000 in
theorem PL_X4_readDeed_2 {fi : Nat → Nat → Int32} {fl : Nat → Nat → Int64} {vi : Nat → Int32} {vl : Nat → Int64} {r : Int32} {fj : Nat → Nat → Int32} {fm : Nat → Nat → Int64} {vj : Nat → Int32} {vm : Nat → Int64} : RL_X4_readDeed_2 fi fl vi vl r fj fm vj vm (PS_X4_readDeed fi fl vi vl r fj fm vj vm) := by
  unfold RL_X4_readDeed_2
  intro hp0 hp1 hp2 hp3 hp4 hp5 hp6 hp7 hp8 fik flk vik vlk rk gk_1 tb gk_0 fik_5 flk_5 vik_5 vlk_5 rk_5 gk_5_1 tb_2 gk_5_0 fik_6 flk_6 vik_6 vlk_6 rk_6 gk_6_0 gk_6_1 gk_6_2 fik_7 flk_7 vik_7 vlk_7 rk_7 gk_7_0 gk_7_1 gk_7_2 gk_7_3 fik_8 flk_8 vik_8 vlk_8 rk_8 gk_8_0 gk_8_1 fik_9 flk_9 vik_9 vlk_9 rk_9 gk_9_1 gk_9_2 gk_9_3 gk_9_4 gk_9_5 tb_3 gk_9_0 q0 q1 q2 q3 q4 q5 q6 q7 q8 q9 q10; subst q0
  unfold PS_X4_readDeed
  intro n m t hc
  (try simp only [q1, q2, q3, q4, q5, q6, q7, q8, q9, q10]); have k9_0 : (0 : Int32).toInt = 0 := (by decide); have k9_1 : (1 : Int32).toInt = 1 := (by decide)
  have hc0 := hc
  obtain ⟨hn, hm, ht, ck, cp, ce, cw, cu, cg⟩ := hc0
  have n_takes : ¬ isW (trn (fi 1) n) n m t 499850634611 := by
    rcases gk_1 with ⟨z1, z2, z3⟩ | ⟨z1, z2⟩
    · exact absurd (z1.symm.trans tb) (by decide)
    · exact fun c => z2 ⟨ck.trans c.1, by rw [cw c.1]; exact c.2⟩
  have y_swaps : isW (trn (fi 1) n) n m t 495924113523 := by
    rcases gk_5_1 with ⟨z1, z2, z3⟩ | ⟨z1, z2⟩
    · exact ⟨ck.symm.trans z2, by rw [← cw (ck.symm.trans z2)]; exact z3⟩
    · exact absurd (z1.symm.trans tb_2) (by decide)
  have hc1 := CC_nx hc gk_7_3
  obtain ⟨hn1, hm1, ht1, dk, dp, de, dw, du, dg⟩ := id hc1
  rcases gk_9_5 n m _ hc1 with ⟨a1, a2, a3, a4, a5⟩ | ⟨a1, a2, a3, a4⟩ | ⟨a1, a2, a3, a4, a5⟩
  · have hfo := kn_of dw gk_8_1 a2
    exact Or.inl ⟨by decide, _, by unfold rld; rw [if_neg n_takes, if_pos y_swaps]; exact rkn_g (fKn_0 a2 (by omega)), a5⟩
  · exact absurd (a1.symm.trans tb_3) (by decide)
  · exact absurd (a1.symm.trans tb_3) (by decide)
set_option maxHeartbeats 4000000 in
theorem PL_X4_readDeed_3 {fi : Nat → Nat → Int32} {fl : Nat → Nat → Int64} {vi : Nat → Int32} {vl : Nat → Int64} {r : Int32} {fj : Nat → Nat → Int32} {fm : Nat → Nat → Int64} {vj : Nat → Int32} {vm : Nat → Int64} : RL_X4_readDeed_3 fi fl vi vl r fj fm vj vm (PS_X4_readDeed fi fl vi vl r fj fm vj vm) := by
  unfold RL_X4_readDeed_3
  intro hp0 hp1 hp2 hp3 hp4 hp5 hp6 hp7 hp8 fik flk vik vlk rk gk_1 tb gk_0 fik_5 flk_5 vik_5 vlk_5 rk_5 gk_5_1 tb_2 gk_5_0 fik_6 flk_6 vik_6 vlk_6 rk_6 gk_6_0 gk_6_1 gk_6_2 fik_7 flk_7 vik_7 vlk_7 rk_7 gk_7_0 gk_7_1 gk_7_2 gk_7_3 fik_8 flk_8 vik_8 vlk_8 rk_8 gk_8_0 gk_8_1 fik_9 flk_9 vik_9 vlk_9 rk_9 gk_9_1 gk_9_2 gk_9_3 gk_9_4 gk_9_5 tb_3 gk_9_0 q0 q1 q2 q3 q4 q5 q6 q7 q8 q9 q10; subst q0
  unfold PS_X4_readDeed
  intro n m t hc
  (try simp only [q1, q2, q3, q4, q5, q6, q7, q8, q9, q10]); have k9_0 : (0 : Int32).toInt = 0 := (by decide); have k9_1 : (1 : Int32).toInt = 1 := (by decide)
  have hc0 := hc
  obtain ⟨hn, hm, ht, ck, cp, ce, cw, cu, cg⟩ := hc0
  have n_takes : ¬ isW (trn (fi 1) n) n m t 499850634611 := by
    rcases gk_1 with ⟨z1, z2, z3⟩ | ⟨z1, z2⟩
    · exact absurd (z1.symm.trans tb) (by decide)
    · exact fun c => z2 ⟨ck.trans c.1, by rw [cw c.1]; exact c.2⟩
  have y_swaps : isW (trn (fi 1) n) n m t 495924113523 := by
    rcases gk_5_1 with ⟨z1, z2, z3⟩ | ⟨z1, z2⟩
    · exact ⟨ck.symm.trans z2, by rw [← cw (ck.symm.trans z2)]; exact z3⟩
    · exact absurd (z1.symm.trans tb_2) (by decide)
  have hc1 := CC_nx hc gk_7_3
  obtain ⟨hn1, hm1, ht1, dk, dp, de, dw, du, dg⟩ := id hc1
  rcases gk_9_5 n m _ hc1 with ⟨a1, a2, a3, a4, a5⟩ | ⟨a1, a2, a3, a4⟩ | ⟨a1, a2, a3, a4, a5⟩
  · exact absurd (a1.symm.trans tb_3) (by decide)
  · exact Or.inr ⟨by decide, by unfold rld; rw [if_neg n_takes, if_pos y_swaps]; exact rkn_b (fKn_1 a2) (by decide) a3 a4⟩
  · have hfo := kn_of dw gk_8_1 a2
    exact Or.inr ⟨by decide, by unfold rld; rw [if_neg n_takes, if_pos y_swaps]; exact rkn_b (fKn_3 a2 (by omega)) (by decide) a4 a5⟩
set_option maxHeartbeats 4000000 in
theorem PL_X4_readDeed_4 {fi : Nat → Nat → Int32} {fl : Nat → Nat → Int64} {vi : Nat → Int32} {vl : Nat → Int64} {r : Int32} {fj : Nat → Nat → Int32} {fm : Nat → Nat → Int64} {vj : Nat → Int32} {vm : Nat → Int64} : RL_X4_readDeed_4 fi fl vi vl r fj fm vj vm (PS_X4_readDeed fi fl vi vl r fj fm vj vm) := by
  unfold RL_X4_readDeed_4
  intro hp0 hp1 hp2 hp3 hp4 hp5 hp6 hp7 hp8 fik flk vik vlk rk gk_1 tb gk_0 fik_5 flk_5 vik_5 vlk_5 rk_5 gk_5_1 tb_2 gk_5_0 fik_10 flk_10 vik_10 vlk_10 rk_10 gk_10_1 tb_4 gk_10_0 fik_11 flk_11 vik_11 vlk_11 rk_11 gk_11_0 gk_11_1 gk_11_2 fik_12 flk_12 vik_12 vlk_12 rk_12 gk_12_0 gk_12_1 gk_12_2 gk_12_3 fik_13 flk_13 vik_13 vlk_13 rk_13 gk_13_0 gk_13_1 fik_14 flk_14 vik_14 vlk_14 rk_14 gk_14_1 gk_14_2 gk_14_3 gk_14_4 gk_14_5 tb_5 gk_14_0 q0 q1 q2 q3 q4 q5 q6 q7 q8 q9 q10; subst q0
  unfold PS_X4_readDeed
  intro n m t hc
  (try simp only [q1, q2, q3, q4, q5, q6, q7, q8, q9, q10]); have k9_0 : (0 : Int32).toInt = 0 := (by decide); have k9_1 : (1 : Int32).toInt = 1 := (by decide); have k9_2 : (2 : Int32).toInt = 2 := (by decide)
  have hc0 := hc
  obtain ⟨hn, hm, ht, ck, cp, ce, cw, cu, cg⟩ := hc0
  have n_takes : ¬ isW (trn (fi 1) n) n m t 499850634611 := by
    rcases gk_1 with ⟨z1, z2, z3⟩ | ⟨z1, z2⟩
    · exact absurd (z1.symm.trans tb) (by decide)
    · exact fun c => z2 ⟨ck.trans c.1, by rw [cw c.1]; exact c.2⟩
  have n_swaps : ¬ isW (trn (fi 1) n) n m t 495924113523 := by
    rcases gk_5_1 with ⟨z1, z2, z3⟩ | ⟨z1, z2⟩
    · exact absurd (z1.symm.trans tb_2) (by decide)
    · exact fun c => z2 ⟨ck.trans c.1, by rw [cw c.1]; exact c.2⟩
  have y_sells : isW (trn (fi 1) n) n m t 495622843507 := by
    rcases gk_10_1 with ⟨z1, z2, z3⟩ | ⟨z1, z2⟩
    · exact ⟨ck.symm.trans z2, by rw [← cw (ck.symm.trans z2)]; exact z3⟩
    · exact absurd (z1.symm.trans tb_4) (by decide)
  have hc1 := CC_nx hc gk_12_3
  obtain ⟨hn1, hm1, ht1, dk, dp, de, dw, du, dg⟩ := id hc1
  rcases gk_14_5 n m _ hc1 with ⟨a1, a2, a3, a4, a5⟩ | ⟨a1, a2, a3, a4⟩ | ⟨a1, a2, a3, a4, a5⟩
  · have hfo := kn_of dw gk_13_1 a2
    exact Or.inl ⟨by decide, _, by unfold rld; rw [if_neg n_takes, if_neg n_swaps, if_pos y_sells]; exact rkn_g (fKn_0 a2 (by omega)), a5⟩
  · exact absurd (a1.symm.trans tb_5) (by decide)
  · exact absurd (a1.symm.trans tb_5) (by decide)
