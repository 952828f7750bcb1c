def RL_X5_readLeaf_14 (fi : Nat → Nat → Int32) (fl : Nat → Nat → Int64) (vi : Nat → Int32) (vl : Nat → Int64) (r : Int32) (fj : Nat → Nat → Int32) (fm : Nat → Nat → Int64) (vj : Nat → Int32) (vm : Nat → Int64) (Q9 : Prop) : Prop :=
  (0 ≤ (vi 1).toInt ∧ (vi 1).toInt ≤ 40) → (0 ≤ (vi 2).toInt ∧ (vi 2).toInt ≤ 20) → (0 ≤ (vi 4).toInt ∧ (vi 4).toInt ≤ 940) → (0 ≤ (vi 5).toInt ∧ (vi 5).toInt ≤ 940) → (0 ≤ (vi 6).toInt ∧ (vi 6).toInt ≤ 940) → (0 ≤ (vi 8).toInt ∧ (vi 8).toInt ≤ 940) → (0 ≤ (vi 13).toInt ∧ (vi 13).toInt ≤ 940) → (0 ≤ (vi 14).toInt ∧ (vi 14).toInt ≤ 9) → (0 ≤ (vi 15).toInt ∧ (vi 15).toInt ≤ 9) → ((vi 1).toInt < 40) → ((vi 0).toInt = 5) → ∀ (fik_14 : Nat → Nat → Int32), ∀ (flk_14 : Nat → Nat → Int64), ∀ (vik_14 : Nat → Int32), ∀ (vlk_14 : Nat → Int64), ∀ (rk_14 : Int32), (-1 ≤ rk_14.toInt ∧ rk_14.toInt ≤ 8) → (rk_14.toInt = fdx (fl 0) 0 (vl 0) ((vi 14).toInt).toNat) → ∀ (fik_15 : Nat → Nat → Int32), ∀ (flk_15 : Nat → Nat → Int64), ∀ (vik_15 : Nat → Int32), ∀ (vlk_15 : Nat → Int64), ∀ (rk_15 : Int32), (0 ≤ (vik_15 5).toInt ∧ (vik_15 5).toInt ≤ 940) → (0 ≤ (vik_15 2).toInt ∧ (vik_15 2).toInt ≤ 940) → (0 ≤ (vik_15 7).toInt ∧ (vik_15 7).toInt ≤ 940) → (rk_15.toInt = 1 → (vik_15 6).toInt = (vi 12).toInt) → (∀ n m t : Nat, CC (trn (fi 0) n) n m t (vi 4) (vi 5) (vi 7) (vi 8) (vi 6) (vl 0) (vi 9) (vi 10) → (rk_15.toInt = 1 ∧ (wMay (trn (fi 0) n) n m (ownB (fl 1)) t) ∧ ¬ rk_14.toInt = -1 ∧ (vik_15 0).toInt = rk_14.toInt ∧ CC (trn (fi 0) n) n m (sX (trn (fi 0) n) n m t) (vi 4) (vi 5) (vik_15 1) (vik_15 2) (vik_15 5) (vlk_15 0) (vik_15 4) (vik_15 3)) ∨ (rk_15.toInt = 0 ∧ ¬ (wMay (trn (fi 0) n) n m (ownB (fl 1)) t) ∧ (vik_15 6).toInt = 1 ∧ (vik_15 7).toInt = ((sPn (trn (fi 0) n) n m t) : Int)) ∨ (rk_15.toInt = 0 ∧ (wMay (trn (fi 0) n) n m (ownB (fl 1)) t) ∧ rk_14.toInt = -1 ∧ (vik_15 6).toInt = 3 ∧ (vik_15 7).toInt = ((sPn (trn (fi 0) n) n m t) : Int))) → (rk_15.toInt = 0) → (True) → (r = (0 : Int32)) → (fj 0 = (fi 1)) → (fj 1 = (fi 2)) → (fj 2 = (fi 3)) → (vj 0 = (vik_15 1)) → (vj 1 = (vik_15 2)) → (vj 2 = (vik_15 3)) → (vj 3 = (vik_15 4)) → (vj 4 = (vik_15 5)) → (vj 5 = (vik_15 6)) → (vj 6 = (vik_15 7)) → (vj 7 = (vik_15 0)) → (vj 8 = (vi 1)) → (vm 0 = (vlk_15 0)) → Q9
def R_X5_readLeaf (fi : Nat → Nat → Int32) (fl : Nat → Nat → Int64) (vi : Nat → Int32) (vl : Nat → Int64) (r : Int32) (fj : Nat → Nat → Int32) (fm : Nat → Nat → Int64) (vj : Nat → Int32) (vm : Nat → Int64) : Prop :=
  ∀ Q9 : Prop, RL_X5_readLeaf_0 fi fl vi vl r fj fm vj vm Q9 → RL_X5_readLeaf_1 fi fl vi vl r fj fm vj vm Q9 → RL_X5_readLeaf_2 fi fl vi vl r fj fm vj vm Q9 → RL_X5_readLeaf_3 fi fl vi vl r fj fm vj vm Q9 → RL_X5_readLeaf_4 fi fl vi vl r fj fm vj vm Q9 → RL_X5_readLeaf_5 fi fl vi vl r fj fm vj vm Q9 → RL_X5_readLeaf_6 fi fl vi vl r fj fm vj vm Q9 → RL_X5_readLeaf_7 fi fl vi vl r fj fm vj vm Q9 → RL_X5_readLeaf_8 fi fl vi vl r fj fm vj vm Q9 → RL_X5_readLeaf_9 fi fl vi vl r fj fm vj vm Q9 → RL_X5_readLeaf_10 fi fl vi vl r fj fm vj vm Q9 → RL_X5_readLeaf_11 fi fl vi vl r fj fm vj vm Q9 → RL_X5_readLeaf_12 fi fl vi vl r fj fm vj vm Q9 → RL_X5_readLeaf_13 fi fl vi vl r fj fm vj vm Q9 → RL_X5_readLeaf_14 fi fl vi vl r fj fm vj vm Q9 → Q9
def PS_X5_readLeaf (fi : Nat → Nat → Int32) (fl : Nat → Nat → Int64) (vi : Nat → Int32) (vl : Nat → Int64) (r : Int32) (fj : Nat → Nat → Int32) (fm : Nat → Nat → Int64) (vj : Nat → Int32) (vm : Nat → Int64) : Prop :=
  ∀ n m t : Nat, CC (trn (fi 0) n) n m t (vi 4) (vi 5) (vi 7) (vi 8) (vi 6) (vl 0) (vi 9) (vi 10) → ∀ i : Int, LFR (vi 0).toInt i → ¬ (vi 0).toInt = -1 → (r.toInt = 1 ∧ ∃ t' : Nat, lfa (trn (fi 0) n) n m (ownB (fl 1)) (fl 0) (vi 14).toInt i t = .inr t' ∧ CC (trn (fi 0) n) n m t' (vi 4) (vi 5) (vj 0) (vj 1) (vj 4) (vm 0) (vj 3) (vj 2)) ∨ (r.toInt = 0 ∧ lfa (trn (fi 0) n) n m (ownB (fl 1)) (fl 0) (vi 14).toInt i t = .inl ((vj 5).toInt, (vj 6).toInt))
set_option maxHeartbeats 4000000 in
theorem PL_X5_readLeaf_0 {fi : Nat → Nat → Int32} {fl : Nat → Nat → Int64} {vi : Nat → Int32} {vl : Nat → Int64} {r : Int32} {fj : Nat → Nat → Int32} {fm : Nat → Nat → Int64} {vj : Nat → Int32} {vm : Nat → Int64} : RL_X5_readLeaf_0 fi fl vi vl r fj fm vj vm (PS_X5_readLeaf fi fl vi vl r fj fm vj vm) := by
  unfold RL_X5_readLeaf_0
  intro hp0 hp1 hp2 hp3 hp4 hp5 hp6 hp7 hp8 hp9 c2 c54 fik flk vik vlk rk tb gk_0 fik_1 flk_1 vik_1 vlk_1 uk_1 gk_1_0 gk_1_1 gk_1_2 fik_2 flk_2 vik_2 vlk_2 rk_2 gk_2_1 gk_2_2 gk_2_3 gk_2_4 gk_2_5 tb_1 gk_2_0 fik_3 flk_3 vik_3 vlk_3 rk_3 gk_3_1 gk_3_2 gk_3_3 tb_2 gk_3_0 q0 q1 q2 q3 q4 q5 q6 q7 q8 q9 q10 q11 q12 q13; subst q0
  unfold PS_X5_readLeaf
  intro n m t hc i hi hne
  (try simp only [q1, q2, q3, q4, q5, q6, q7, q8, q9, q10, q11, q12, q13]); have k9_0 : (0 : Int32).toInt = 0 := (by decide); have k9_1 : (1 : Int32).toInt = 1 := (by decide); have k9_2 : (60 : Int32).toInt = 60 := (by decide)
  have hc0 := hc
  obtain ⟨hn, hm, ht, ck, cp, ce, cw, cu, cg⟩ := hc0
  have i5 := LFR_ge hi (by omega)
  have h9 := cg (by omega)
  have hc1 := CC_nx hc gk_1_2
  rcases gk_2_5 n m _ hc1 with ⟨b1, b2, b3, b4, b5, b6, b7⟩ | ⟨b1, b2, b3, b4⟩
  · exact Or.inl ⟨by decide, _, lfa_sg i5 ⟨by omega, by omega, by omega⟩ b4, b7⟩
  · exact absurd (b1.symm.trans tb_1) (by decide)
set_option maxHeartbeats 4000000 in
theorem PL_X5_readLeaf_1 {fi : Nat → Nat → Int32} {fl : Nat → Nat → Int64} {vi : Nat → Int32} {vl : Nat → Int64} {r : Int32} {fj : Nat → Nat → Int32} {fm : Nat → Nat → Int64} {vj : Nat → Int32} {vm : Nat → Int64} : RL_X5_readLeaf_1 fi fl vi vl r fj fm vj vm (PS_X5_readLeaf fi fl vi vl r fj fm vj vm) := by
  unfold RL_X5_readLeaf_1
  intro hp0 hp1 hp2 hp3 hp4 hp5 hp6 hp7 hp8 hp9 c2 c54 fik flk vik vlk rk tb gk_0 fik_1 flk_1 vik_1 vlk_1 uk_1 gk_1_0 gk_1_1 gk_1_2 fik_2 flk_2 vik_2 vlk_2 rk_2 gk_2_1 gk_2_2 gk_2_3 gk_2_4 gk_2_5 tb_1 gk_2_0 fik_3 flk_3 vik_3 vlk_3 rk_3 gk_3_1 gk_3_2 gk_3_3 tb_2 gk_3_0 q0 q1 q2 q3 q4 q5 q6 q7 q8 q9 q10 q11 q12 q13; subst q0
  unfold PS_X5_readLeaf
  intro n m t hc i hi hne
  (try simp only [q1, q2, q3, q4, q5, q6, q7, q8, q9, q10, q11, q12, q13]); have k9_0 : (0 : Int32).toInt = 0 := (by decide); have k9_1 : (1 : Int32).toInt = 1 := (by decide); have k9_2 : (60 : Int32).toInt = 60 := (by decide)
  have hc0 := hc
  obtain ⟨hn, hm, ht, ck, cp, ce, cw, cu, cg⟩ := hc0
  have i5 := LFR_ge hi (by omega)
  have h9 := cg (by omega)
  have hc1 := CC_nx hc gk_1_2
  rcases gk_2_5 n m _ hc1 with ⟨b1, b2, b3, b4, b5, b6, b7⟩ | ⟨b1, b2, b3, b4⟩
  · exfalso; omega
  · exact absurd (b1.symm.trans tb_1) (by decide)
set_option maxHeartbeats 4000000 in
theorem PL_X5_readLeaf_2 {fi : Nat → Nat → Int32} {fl : Nat → Nat → Int64} {vi : Nat → Int32} {vl : Nat → Int64} {r : Int32} {fj : Nat → Nat → Int32} {fm : Nat → Nat → Int64} {vj : Nat → Int32} {vm : Nat → Int64} : RL_X5_readLeaf_2 fi fl vi vl r fj fm vj vm (PS_X5_readLeaf fi fl vi vl r fj fm vj vm) := by
  unfold RL_X5_readLeaf_2
  intro hp0 hp1 hp2 hp3 hp4 hp5 hp6 hp7 hp8 hp9 c2 c54 fik flk vik vlk rk tb gk_0 fik_1 flk_1 vik_1 vlk_1 uk_1 gk_1_0 gk_1_1 gk_1_2 fik_2 flk_2 vik_2 vlk_2 rk_2 gk_2_1 gk_2_2 gk_2_3 gk_2_4 gk_2_5 tb_1 gk_2_0 q0 q1 q2 q3 q4 q5 q6 q7 q8 q9 q10 q11 q12 q13; subst q0
  unfold PS_X5_readLeaf
  intro n m t hc i hi hne
  (try simp only [q1, q2, q3, q4, q5, q6, q7, q8, q9, q10, q11, q12, q13]); have k9_0 : (0 : Int32).toInt = 0 := (by decide); have k9_1 : (1 : Int32).toInt = 1 := (by decide); have k9_2 : (60 : Int32).toInt = 60 := (by decide)
  have hc0 := hc
  obtain ⟨hn, hm, ht, ck, cp, ce, cw, cu, cg⟩ := hc0
  have i5 := LFR_ge hi (by omega)
  have h9 := cg (by omega)
  have hc1 := CC_nx hc gk_1_2
  rcases gk_2_5 n m _ hc1 with ⟨b1, b2, b3, b4, b5, b6, b7⟩ | ⟨b1, b2, b3, b4⟩
  · exact absurd (b1.symm.trans tb_1) (by decide)
  · have hk9 : ¬ sK (trn (fi 0) n) n m (sX (trn (fi 0) n) n m t) = 2 := fun c => b2 (fNum_9 c)
    exact Or.inr ⟨by decide, lfa_s2 i5 ⟨by omega, by omega, by omega⟩ hk9 (b3.trans (fNum_1 hk9)) b4⟩
set_option maxHeartbeats 4000000 in
theorem PL_X5_readLeaf_3 {fi : Nat → Nat → Int32} {fl : Nat → Nat → Int64} {vi : Nat → Int32} {vl : Nat → Int64} {r : Int32} {fj : Nat → Nat → Int32} {fm : Nat → Nat → Int64} {vj : Nat → Int32} {vm : Nat → Int64} : RL_X5_readLeaf_3 fi fl vi vl r fj fm vj vm (PS_X5_readLeaf fi fl vi vl r fj fm vj vm) := by
  unfold RL_X5_readLeaf_3
  intro hp0 hp1 hp2 hp3 hp4 hp5 hp6 hp7 hp8 hp9 c2 c54 fik flk vik vlk rk tb gk_0 fik_4 flk_4 vik_4 vlk_4 rk_4 tb_3 gk_4_0 fik_5 flk_5 vik_5 vlk_5 uk_5 gk_5_0 gk_5_1 gk_5_2 fik_6 flk_6 vik_6 vlk_6 rk_6 gk_6_1 gk_6_2 gk_6_3 gk_6_4 gk_6_5 tb_4 gk_6_0 fik_7 flk_7 vik_7 vlk_7 rk_7 gk_7_1 gk_7_2 gk_7_3 tb_5 gk_7_0 q0 q1 q2 q3 q4 q5 q6 q7 q8 q9 q10 q11 q12 q13; subst q0
  unfold PS_X5_readLeaf
  intro n m t hc i hi hne
  (try simp only [q1, q2, q3, q4, q5, q6, q7, q8, q9, q10, q11, q12, q13]); have k9_0 : (0 : Int32).toInt = 0 := (by decide); have k9_1 : (1 : Int32).toInt = 1 := (by decide); have k9_2 : (60 : Int32).toInt = 60 := (by decide); have k9_3 : (61 : Int32).toInt = 61 := (by decide)
  have hc0 := hc
  obtain ⟨hn, hm, ht, ck, cp, ce, cw, cu, cg⟩ := hc0
  have i5 := LFR_ge hi (by omega)
  have h9 := cg (by omega)
  have hc1 := CC_nx hc gk_5_2
  rcases gk_6_5 n m _ hc1 with ⟨b1, b2, b3, b4, b5, b6, b7⟩ | ⟨b1, b2, b3, b4⟩
  · exact Or.inl ⟨by decide, _, lfa_sg i5 ⟨by omega, by omega, by omega⟩ b4, b7⟩
  · exact absurd (b1.symm.trans tb_4) (by decide)
set_option maxHeartbeats 4000000 in
theorem PL_X5_readLeaf_4 {fi : Nat → Nat → Int32} {fl : Nat → Nat → Int64} {vi : Nat → Int32} {vl : Nat → Int64} {r : Int32} {fj : Nat → Nat → Int32} {fm : Nat → Nat → Int64} {vj : Nat → Int32} {vm : Nat → Int64} : RL_X5_readLeaf_4 fi fl vi vl r fj fm vj vm (PS_X5_readLeaf fi fl vi vl r fj fm vj vm) := by
  unfold RL_X5_readLeaf_4
  intro hp0 hp1 hp2 hp3 hp4 hp5 hp6 hp7 hp8 hp9 c2 c54 fik flk vik vlk rk tb gk_0 fik_4 flk_4 vik_4 vlk_4 rk_4 tb_3 gk_4_0 fik_5 flk_5 vik_5 vlk_5 uk_5 gk_5_0 gk_5_1 gk_5_2 fik_6 flk_6 vik_6 vlk_6 rk_6 gk_6_1 gk_6_2 gk_6_3 gk_6_4 gk_6_5 tb_4 gk_6_0 fik_7 flk_7 vik_7 vlk_7 rk_7 gk_7_1 gk_7_2 gk_7_3 tb_5 gk_7_0 q0 q1 q2 q3 q4 q5 q6 q7 q8 q9 q10 q11 q12 q13; subst q0
  unfold PS_X5_readLeaf
  intro n m t hc i hi hne
  (try simp only [q1, q2, q3, q4, q5, q6, q7, q8, q9, q10, q11, q12, q13]); have k9_0 : (0 : Int32).toInt = 0 := (by decide); have k9_1 : (1 : Int32).toInt = 1 := (by decide); have k9_2 : (60 : Int32).toInt = 60 := (by decide); have k9_3 : (61 : Int32).toInt = 61 := (by decide)
  have hc0 := hc
  obtain ⟨hn, hm, ht, ck, cp, ce, cw, cu, cg⟩ := hc0
  have i5 := LFR_ge hi (by omega)
  have h9 := cg (by omega)
  have hc1 := CC_nx hc gk_5_2
  rcases gk_6_5 n m _ hc1 with ⟨b1, b2, b3, b4, b5, b6, b7⟩ | ⟨b1, b2, b3, b4⟩
  · exfalso; omega
  · exact absurd (b1.symm.trans tb_4) (by decide)
set_option maxHeartbeats 4000000 in
theorem PL_X5_readLeaf_5 {fi : Nat → Nat → Int32} {fl : Nat → Nat → Int64} {vi : Nat → Int32} {vl : Nat → Int64} {r : Int32} {fj : Nat → Nat → Int32} {fm : Nat → Nat → Int64} {vj : Nat → Int32} {vm : Nat → Int64} : RL_X5_readLeaf_5 fi fl vi vl r fj fm vj vm (PS_X5_readLeaf fi fl vi vl r fj fm vj vm) := by
  unfold RL_X5_readLeaf_5
  intro hp0 hp1 hp2 hp3 hp4 hp5 hp6 hp7 hp8 hp9 c2 c54 fik flk vik vlk rk tb gk_0 fik_4 flk_4 vik_4 vlk_4 rk_4 tb_3 gk_4_0 fik_5 flk_5 vik_5 vlk_5 uk_5 gk_5_0 gk_5_1 gk_5_2 fik_6 flk_6 vik_6 vlk_6 rk_6 gk_6_1 gk_6_2 gk_6_3 gk_6_4 gk_6_5 tb_4 gk_6_0 q0 q1 q2 q3 q4 q5 q6 q7 q8 q9 q10 q11 q12 q13; subst q0
  unfold PS_X5_readLeaf
  intro n m t hc i hi hne
  (try simp only [q1, q2, q3, q4, q5, q6, q7, q8, q9, q10, q11, q12, q13]); have k9_0 : (0 : Int32).toInt = 0 := (by decide); have k9_1 : (1 : Int32).toInt = 1 := (by decide); have k9_2 : (60 : Int32).toInt = 60 := (by decide); have k9_3 : (61 : Int32).toInt = 61 := (by decide)
  have hc0 := hc
  obtain ⟨hn, hm, ht, ck, cp, ce, cw, cu, cg⟩ := hc0
  have i5 := LFR_ge hi (by omega)
  have h9 := cg (by omega)
  have hc1 := CC_nx hc gk_5_2
  rcases gk_6_5 n m _ hc1 with ⟨b1, b2, b3, b4, b5, b6, b7⟩ | ⟨b1, b2, b3, b4⟩
  · exact absurd (b1.symm.trans tb_4) (by decide)
  · have hk9 : ¬ sK (trn (fi 0) n) n m (sX (trn (fi 0) n) n m t) = 2 := fun c => b2 (fNum_9 c)
    exact Or.inr ⟨by decide, lfa_s2 i5 ⟨by omega, by omega, by omega⟩ hk9 (b3.trans (fNum_1 hk9)) b4⟩
set_option maxHeartbeats 4000000 in
theorem PL_X5_readLeaf_6 {fi : Nat → Nat → Int32} {fl : Nat → Nat → Int64} {vi : Nat → Int32} {vl : Nat → Int64} {r : Int32} {fj : Nat → Nat → Int32} {fm : Nat → Nat → Int64} {vj : Nat → Int32} {vm : Nat → Int64} : RL_X5_readLeaf_6 fi fl vi vl r fj fm vj vm (PS_X5_readLeaf fi fl vi vl r fj fm vj vm) := by
  unfold RL_X5_readLeaf_6
  intro hp0 hp1 hp2 hp3 hp4 hp5 hp6 hp7 hp8 hp9 c2 c54 fik flk vik vlk rk tb gk_0 fik_4 flk_4 vik_4 vlk_4 rk_4 tb_3 gk_4_0 fik_8 flk_8 vik_8 vlk_8 rk_8 tb_6 gk_8_0 fik_9 flk_9 vik_9 vlk_9 uk_9 gk_9_0 gk_9_1 gk_9_2 fik_10 flk_10 vik_10 vlk_10 rk_10 gk_10_1 gk_10_2 gk_10_3 gk_10_4 gk_10_5 tb_7 gk_10_0 fik_11 flk_11 vik_11 vlk_11 rk_11 gk_11_1 gk_11_2 gk_11_3 tb_8 gk_11_0 q0 q1 q2 q3 q4 q5 q6 q7 q8 q9 q10 q11 q12 q13; subst q0
  unfold PS_X5_readLeaf
  intro n m t hc i hi hne
  (try simp only [q1, q2, q3, q4, q5, q6, q7, q8, q9, q10, q11, q12, q13]); have k9_0 : (0 : Int32).toInt = 0 := (by decide); have k9_1 : (1 : Int32).toInt = 1 := (by decide); have k9_2 : (60 : Int32).toInt = 60 := (by decide); have k9_3 : (61 : Int32).toInt = 61 := (by decide); have k9_4 : (62 : Int32).toInt = 62 := (by decide)
  have hc0 := hc
  obtain ⟨hn, hm, ht, ck, cp, ce, cw, cu, cg⟩ := hc0
  have i5 := LFR_ge hi (by omega)
  have h9 := cg (by omega)
  have hc1 := CC_nx hc gk_9_2
  rcases gk_10_5 n m _ hc1 with ⟨b1, b2, b3, b4, b5, b6, b7⟩ | ⟨b1, b2, b3, b4⟩
  · exact Or.inl ⟨by decide, _, lfa_sg i5 ⟨by omega, by omega, by omega⟩ b4, b7⟩
  · exact absurd (b1.symm.trans tb_7) (by decide)
set_option maxHeartbeats 4000000 in
theorem PL_X5_readLeaf_7 {fi : Nat → Nat → Int32} {fl : Nat → Nat → Int64} {vi : Nat → Int32} {vl : Nat → Int64} {r : Int32} {fj : Nat → Nat → Int32} {fm : Nat → Nat → Int64} {vj : Nat → Int32} {vm : Nat → Int64} : RL_X5_readLeaf_7 fi fl vi vl r fj fm vj vm (PS_X5_readLeaf fi fl vi vl r fj fm vj vm) := by
  unfold RL_X5_readLeaf_7
  intro hp0 hp1 hp2 hp3 hp4 hp5 hp6 hp7 hp8 hp9 c2 c54 fik flk vik vlk rk tb gk_0 fik_4 flk_4 vik_4 vlk_4 rk_4 tb_3 gk_4_0 fik_8 flk_8 vik_8 vlk_8 rk_8 tb_6 gk_8_0 fik_9 flk_9 vik_9 vlk_9 uk_9 gk_9_0 gk_9_1 gk_9_2 fik_10 flk_10 vik_10 vlk_10 rk_10 gk_10_1 gk_10_2 gk_10_3 gk_10_4 gk_10_5 tb_7 gk_10_0 fik_11 flk_11 vik_11 vlk_11 rk_11 gk_11_1 gk_11_2 gk_11_3 tb_8 gk_11_0 q0 q1 q2 q3 q4 q5 q6 q7 q8 q9 q10 q11 q12 q13; subst q0
  unfold PS_X5_readLeaf
  intro n m t hc i hi hne
  (try simp only [q1, q2, q3, q4, q5, q6, q7, q8, q9, q10, q11, q12, q13]); have k9_0 : (0 : Int32).toInt = 0 := (by decide); have k9_1 : (1 : Int32).toInt = 1 := (by decide); have k9_2 : (60 : Int32).toInt = 60 := (by decide); have k9_3 : (61 : Int32).toInt = 61 := (by decide); have k9_4 : (62 : Int32).toInt = 62 := (by decide)
  have hc0 := hc
  obtain ⟨hn, hm, ht, ck, cp, ce, cw, cu, cg⟩ := hc0
  have i5 := LFR_ge hi (by omega)
  have h9 := cg (by omega)
  have hc1 := CC_nx hc gk_9_2
  rcases gk_10_5 n m _ hc1 with ⟨b1, b2, b3, b4, b5, b6, b7⟩ | ⟨b1, b2, b3, b4⟩
  · exfalso; omega
  · exact absurd (b1.symm.trans tb_7) (by decide)
set_option maxHeartbeats 4000000 in
theorem PL_X5_readLeaf_8 {fi : Nat → Nat → Int32} {fl : Nat → Nat → Int64} {vi : Nat → Int32} {vl : Nat → Int64} {r : Int32} {fj : Nat → Nat → Int32} {fm : Nat → Nat → Int64} {vj : Nat → Int32} {vm : Nat → Int64} : RL_X5_readLeaf_8 fi fl vi vl r fj fm vj vm (PS_X5_readLeaf fi fl vi vl r fj fm vj vm) := by
  unfold RL_X5_readLeaf_8
  intro hp0 hp1 hp2 hp3 hp4 hp5 hp6 hp7 hp8 hp9 c2 c54 fik flk vik vlk rk tb gk_0 fik_4 flk_4 vik_4 vlk_4 rk_4 tb_3 gk_4_0 fik_8 flk_8 vik_8 vlk_8 rk_8 tb_6 gk_8_0 fik_9 flk_9 vik_9 vlk_9 uk_9 gk_9_0 gk_9_1 gk_9_2 fik_10 flk_10 vik_10 vlk_10 rk_10 gk_10_1 gk_10_2 gk_10_3 gk_10_4 gk_10_5 tb_7 gk_10_0 q0 q1 q2 q3 q4 q5 q6 q7 q8 q9 q10 q11 q12 q13; subst q0
  unfold PS_X5_readLeaf
  intro n m t hc i hi hne
  (try simp only [q1, q2, q3, q4, q5, q6, q7, q8, q9, q10, q11, q12, q13]); have k9_0 : (0 : Int32).toInt = 0 := (by decide); have k9_1 : (1 : Int32).toInt = 1 := (by decide); have k9_2 : (60 : Int32).toInt = 60 := (by decide); have k9_3 : (61 : Int32).toInt = 61 := (by decide); have k9_4 : (62 : Int32).toInt = 62 := (by decide)
  have hc0 := hc
  obtain ⟨hn, hm, ht, ck, cp, ce, cw, cu, cg⟩ := hc0
  have i5 := LFR_ge hi (by omega)
  have h9 := cg (by omega)
  have hc1 := CC_nx hc gk_9_2
  rcases gk_10_5 n m _ hc1 with ⟨b1, b2, b3, b4, b5, b6, b7⟩ | ⟨b1, b2, b3, b4⟩
  · exact absurd (b1.symm.trans tb_7) (by decide)
  · have hk9 : ¬ sK (trn (fi 0) n) n m (sX (trn (fi 0) n) n m t) = 2 := fun c => b2 (fNum_9 c)
    exact Or.inr ⟨by decide, lfa_s2 i5 ⟨by omega, by omega, by omega⟩ hk9 (b3.trans (fNum_1 hk9)) b4⟩
set_option maxHeartbeats 4000000 in
theorem PL_X5_readLeaf_9 {fi : Nat → Nat → Int32} {fl : Nat → Nat → Int64} {vi : Nat → Int32} {vl : Nat → Int64} {r : Int32} {fj : Nat → Nat → Int32} {fm : Nat → Nat → Int64} {vj : Nat → Int32} {vm : Nat → Int64} : RL_X5_readLeaf_9 fi fl vi vl r fj fm vj vm (PS_X5_readLeaf fi fl vi vl r fj fm vj vm) := by
  unfold RL_X5_readLeaf_9
  intro hp0 hp1 hp2 hp3 hp4 hp5 hp6 hp7 hp8 hp9 c2 c54 fik flk vik vlk rk tb gk_0 fik_4 flk_4 vik_4 vlk_4 rk_4 tb_3 gk_4_0 fik_8 flk_8 vik_8 vlk_8 rk_8 tb_6 gk_8_0 fik_12 flk_12 vik_12 vlk_12 rk_12 gk_12_0 gk_12_1 gk_12_2 q0 q1 q2 q3 q4 q5 q6 q7 q8 q9 q10 q11 q12 q13; subst q0
  unfold PS_X5_readLeaf
  intro n m t hc i hi hne
  (try simp only [q1, q2, q3, q4, q5, q6, q7, q8, q9, q10, q11, q12, q13]); have k9_0 : (0 : Int32).toInt = 0 := (by decide); have k9_1 : (1 : Int32).toInt = 1 := (by decide); have k9_2 : (60 : Int32).toInt = 60 := (by decide); have k9_3 : (61 : Int32).toInt = 61 := (by decide); have k9_4 : (62 : Int32).toInt = 62 := (by decide)
  have hc0 := hc
  obtain ⟨hn, hm, ht, ck, cp, ce, cw, cu, cg⟩ := hc0
  have i5 := LFR_ge hi (by omega)
  exact Or.inr ⟨by decide, lfa_s1 i5 (fun c => by have h9 := cg c.1; omega) (by omega) (by omega)⟩
set_option maxHeartbeats 4000000 in
theorem PL_X5_readLeaf_10 {fi : Nat → Nat → Int32} {fl : Nat → Nat → Int64} {vi : Nat → Int32} {vl : Nat → Int64} {r : Int32} {fj : Nat → Nat → Int32} {fm : Nat → Nat → Int64} {vj : Nat → Int32} {vm : Nat → Int64} : RL_X5_readLeaf_10 fi fl vi vl r fj fm vj vm (PS_X5_readLeaf fi fl vi vl r fj fm vj vm) := by
  unfold RL_X5_readLeaf_10
  intro hp0 hp1 hp2 hp3 hp4 hp5 hp6 hp7 hp8 hp9 c2 c54 fik_13 flk_13 vik_13 vlk_13 rk_13 gk_13_1 gk_13_2 gk_13_3 tb_9 gk_13_0 q0 q1 q2 q3 q4 q5 q6 q7 q8 q9 q10 q11 q12 q13; subst q0
  unfold PS_X5_readLeaf
  intro n m t hc i hi hne
  (try simp only [q1, q2, q3, q4, q5, q6, q7, q8, q9, q10, q11, q12, q13]); have k9_0 : (0 : Int32).toInt = 0 := (by decide); have k9_1 : (1 : Int32).toInt = 1 := (by decide)
  have hc0 := hc
  obtain ⟨hn, hm, ht, ck, cp, ce, cw, cu, cg⟩ := hc0
  exact Or.inl ⟨by decide, t, lfa_lt (LFR_lt hi (by omega) (by omega)), hc⟩
set_option maxHeartbeats 4000000 in
theorem PL_X5_readLeaf_11 {fi : Nat → Nat → Int32} {fl : Nat → Nat → Int64} {vi : Nat → Int32} {vl : Nat → Int64} {r : Int32} {fj : Nat → Nat → Int32} {fm : Nat → Nat → Int64} {vj : Nat → Int32} {vm : Nat → Int64} : RL_X5_readLeaf_11 fi fl vi vl r fj fm vj vm (PS_X5_readLeaf fi fl vi vl r fj fm vj vm) := by
  unfold RL_X5_readLeaf_11
  intro hp0 hp1 hp2 hp3 hp4 hp5 hp6 hp7 hp8 hp9 c2 c54 fik_13 flk_13 vik_13 vlk_13 rk_13 gk_13_1 gk_13_2 gk_13_3 tb_9 gk_13_0 q0 q1 q2 q3 q4 q5 q6 q7 q8 q9 q10 q11 q12 q13; subst q0
  unfold PS_X5_readLeaf
  intro n m t hc i hi hne
  (try simp only [q1, q2, q3, q4, q5, q6, q7, q8, q9, q10, q11, q12, q13]); have k9_0 : (0 : Int32).toInt = 0 := (by decide); have k9_1 : (1 : Int32).toInt = 1 := (by decide)
  have hc0 := hc
  obtain ⟨hn, hm, ht, ck, cp, ce, cw, cu, cg⟩ := hc0
  exfalso; omega
