def RL_X5_readOneG_26 (dd de : Nat) (fi : Nat → Nat → Int32) (fl : Nat → Nat → Int64) (vi : Nat → Int32) (vl : Nat → Int64) (r : Int32) (fj : Nat → Nat → Int32) (fm : Nat → Nat → Int64) (vj : Nat → Int32) (vm : Nat → Int64) (Q9 : Prop) : Prop :=
  (0 ≤ (vi 0).toInt ∧ (vi 0).toInt ≤ 40) → (0 ≤ (vi 1).toInt ∧ (vi 1).toInt ≤ 20) → (0 ≤ (vi 3).toInt ∧ (vi 3).toInt ≤ 940) → (0 ≤ (vi 4).toInt ∧ (vi 4).toInt ≤ 940) → (0 ≤ (vi 5).toInt ∧ (vi 5).toInt ≤ 940) → (0 ≤ (vi 7).toInt ∧ (vi 7).toInt ≤ 940) → (0 ≤ (vi 12).toInt ∧ (vi 12).toInt ≤ 940) → (0 ≤ (vi 13).toInt ∧ (vi 13).toInt ≤ 9) → (0 ≤ (vi 14).toInt ∧ (vi 14).toInt ≤ 9) → ((vi 0).toInt ≤ 2 * (vi 1).toInt) → ∀ (fik : Nat → Nat → Int32), ∀ (flk : Nat → Nat → Int64), ∀ (vik : Nat → Int32), ∀ (vlk : Nat → Int64), ∀ (rk : Int32), (∀ n m t : Nat, CC (trn (fi 0) n) n m t (vi 3) (vi 4) (vi 6) (vi 7) (vi 5) (vl 0) (vi 8) (vi 9) → LFR rk.toInt (lfi (trn (fi 0) n) n m t)) → ∀ (fik_1 : Nat → Nat → Int32), ∀ (flk_1 : Nat → Nat → Int64), ∀ (vik_1 : Nat → Int32), ∀ (vlk_1 : Nat → Int64), ∀ (rk_1 : Int32), (DJ (rk_1.toInt = 1 ∧ (vi 6).toInt = 1 ∧ (vl 0) = (7237492 : Int64)) (rk_1.toInt = 0 ∧ ¬ ((vi 6).toInt = 1 ∧ (vl 0) = (7237492 : Int64)))) → (rk_1.toInt = 0) → (True) → ∀ (fik_19 : Nat → Nat → Int32), ∀ (flk_19 : Nat → Nat → Int64), ∀ (vik_19 : Nat → Int32), ∀ (vlk_19 : Nat → Int64), ∀ (rk_19 : Int32), (rk_19.toInt = 0) → (¬ ((vi 6).toInt = 3 ∧ (vi 9).toInt = (40 : Int32).toInt)) → (¬ rk.toInt = (-1)) → ((vi 1).toInt < 20) → ∀ (z79_6 : Int32), (z79_6 = (vi 1) + (1 : Int32)) → (z79_6.toInt = (vi 1).toInt + 1) → ∀ (fik_29 : Nat → Nat → Int32), ∀ (flk_29 : Nat → Nat → Int64), ∀ (vik_29 : Nat → Int32), ∀ (vlk_29 : Nat → Int64), ∀ (uk_29 : Int32), (0 ≤ (vik_29 4).toInt ∧ (vik_29 4).toInt ≤ 940) → (0 ≤ (vik_29 1).toInt ∧ (vik_29 1).toInt ≤ 940) → (∀ n m : Nat, (vi 3).toInt = (n : Int) → (vi 4).toInt = (m : Int) → (vi 5).toInt ≤ (vi 3).toInt → CC (trn (fi 0) n) n m ((vi 5).toInt).toNat (vi 3) (vi 4) (vik_29 0) (vik_29 1) (vik_29 4) (vlk_29 0) (vik_29 3) (vik_29 2)) → ∀ (fik_30 : Nat → Nat → Int32), ∀ (flk_30 : Nat → Nat → Int64), ∀ (vik_30 : Nat → Int32), ∀ (vlk_30 : Nat → Int64), ∀ (rk_30 : Int32), (0 ≤ (vik_30 8).toInt ∧ (vik_30 8).toInt ≤ 40) → (0 ≤ (vik_30 4).toInt ∧ (vik_30 4).toInt ≤ 940) → (0 ≤ (vik_30 1).toInt ∧ (vik_30 1).toInt ≤ 940) → (0 ≤ (vik_30 6).toInt ∧ (vik_30 6).toInt ≤ 940) → (rk_30.toInt = 1 → (vik_30 8).toInt = (vi 0).toInt + 1 ∧ (z79_6).toInt = (z79_6).toInt) → (rk_30.toInt = 1 → (vik_30 5).toInt = (vi 11).toInt) → (∀ n m t : Nat, CC (trn (fi 0) n) n m t (vi 3) (vi 4) (vik_29 0) (vik_29 1) (vik_29 4) (vlk_29 0) (vik_29 3) (vik_29 2) → ∀ i : Int, LFR rk.toInt i → ¬ rk.toInt = -1 → (rk_30.toInt = 1 ∧ ∃ t' : Nat, lfa (trn (fi 0) n) n m (ownB (fl 0)) (fl 1) (vi 13).toInt i t = .inr t' ∧ CC (trn (fi 0) n) n m t' (vi 3) (vi 4) (vik_30 0) (vik_30 1) (vik_30 4) (vlk_30 0) (vik_30 3) (vik_30 2)) ∨ (rk_30.toInt = 0 ∧ lfa (trn (fi 0) n) n m (ownB (fl 0)) (fl 1) (vi 13).toInt i t = .inl ((vik_30 5).toInt, (vik_30 6).toInt))) → (rk_30.toInt = 0) → (True) → (r = (0 : Int32)) → (fj 0 = (fik_30 0)) → (fj 1 = (fik_30 1)) → (fj 2 = (fik_30 2)) → (vj 0 = (vik_30 5)) → (vj 1 = (vik_30 6)) → (vj 2 = z79_6) → (vj 3 = (vik_30 0)) → (vj 4 = (vik_30 1)) → (vj 5 = (vik_30 2)) → (vj 6 = (vik_30 3)) → (vj 7 = (vik_30 4)) → (vj 8 = (vik_30 8)) → (vj 9 = (vik_30 7)) → (vm 0 = (vlk_30 0)) → Q9
def RL_X5_readOneG_27 (dd de : Nat) (fi : Nat → Nat → Int32) (fl : Nat → Nat → Int64) (vi : Nat → Int32) (vl : Nat → Int64) (r : Int32) (fj : Nat → Nat → Int32) (fm : Nat → Nat → Int64) (vj : Nat → Int32) (vm : Nat → Int64) (Q9 : Prop) : Prop :=
  (0 ≤ (vi 0).toInt ∧ (vi 0).toInt ≤ 40) → (0 ≤ (vi 1).toInt ∧ (vi 1).toInt ≤ 20) → (0 ≤ (vi 3).toInt ∧ (vi 3).toInt ≤ 940) → (0 ≤ (vi 4).toInt ∧ (vi 4).toInt ≤ 940) → (0 ≤ (vi 5).toInt ∧ (vi 5).toInt ≤ 940) → (0 ≤ (vi 7).toInt ∧ (vi 7).toInt ≤ 940) → (0 ≤ (vi 12).toInt ∧ (vi 12).toInt ≤ 940) → (0 ≤ (vi 13).toInt ∧ (vi 13).toInt ≤ 9) → (0 ≤ (vi 14).toInt ∧ (vi 14).toInt ≤ 9) → ((vi 0).toInt ≤ 2 * (vi 1).toInt) → ∀ (fik : Nat → Nat → Int32), ∀ (flk : Nat → Nat → Int64), ∀ (vik : Nat → Int32), ∀ (vlk : Nat → Int64), ∀ (rk : Int32), (∀ n m t : Nat, CC (trn (fi 0) n) n m t (vi 3) (vi 4) (vi 6) (vi 7) (vi 5) (vl 0) (vi 8) (vi 9) → LFR rk.toInt (lfi (trn (fi 0) n) n m t)) → ∀ (fik_1 : Nat → Nat → Int32), ∀ (flk_1 : Nat → Nat → Int64), ∀ (vik_1 : Nat → Int32), ∀ (vlk_1 : Nat → Int64), ∀ (rk_1 : Int32), (DJ (rk_1.toInt = 1 ∧ (vi 6).toInt = 1 ∧ (vl 0) = (7237492 : Int64)) (rk_1.toInt = 0 ∧ ¬ ((vi 6).toInt = 1 ∧ (vl 0) = (7237492 : Int64)))) → (rk_1.toInt = 0) → (True) → ∀ (fik_19 : Nat → Nat → Int32), ∀ (flk_19 : Nat → Nat → Int64), ∀ (vik_19 : Nat → Int32), ∀ (vlk_19 : Nat → Int64), ∀ (rk_19 : Int32), (rk_19.toInt = 0) → (¬ ((vi 6).toInt = 3 ∧ (vi 9).toInt = (40 : Int32).toInt)) → (rk.toInt = (-1)) → ∀ (fik_31 : Nat → Nat → Int32), ∀ (flk_31 : Nat → Nat → Int64), ∀ (vik_31 : Nat → Int32), ∀ (vlk_31 : Nat → Int64), ∀ (rk_31 : Int32), (rk_31 = 0) → (0 ≤ (vik_31 1).toInt ∧ (vik_31 1).toInt ≤ 940) → ((vik_31 0).toInt = (1 : Int32).toInt ∧ (vik_31 1).toInt = (vi 7).toInt) → (r = (0 : Int32)) → (fj 0 = (fi 1)) → (fj 1 = (fi 2)) → (fj 2 = (fi 3)) → (vj 0 = (vik_31 0)) → (vj 1 = (vik_31 1)) → (vj 2 = (vi 1)) → (vj 3 = (vi 6)) → (vj 4 = (vi 7)) → (vj 5 = (vi 9)) → (vj 6 = (vi 8)) → (vj 7 = (vi 5)) → (vj 8 = (vi 0)) → (vj 9 = (vi 10)) → (vm 0 = (vl 0)) → Q9
def R_X5_readOneG (dd de : Nat) (fi : Nat → Nat → Int32) (fl : Nat → Nat → Int64) (vi : Nat → Int32) (vl : Nat → Int64) (r : Int32) (fj : Nat → Nat → Int32) (fm : Nat → Nat → Int64) (vj : Nat → Int32) (vm : Nat → Int64) : Prop :=
  ∀ Q9 : Prop, RL_X5_readOneG_0 dd de fi fl vi vl r fj fm vj vm Q9 → RL_X5_readOneG_1 dd de fi fl vi vl r fj fm vj vm Q9 → RL_X5_readOneG_2 dd de fi fl vi vl r fj fm vj vm Q9 → RL_X5_readOneG_3 dd de fi fl vi vl r fj fm vj vm Q9 → RL_X5_readOneG_4 dd de fi fl vi vl r fj fm vj vm Q9 → RL_X5_readOneG_5 dd de fi fl vi vl r fj fm vj vm Q9 → RL_X5_readOneG_6 dd de fi fl vi vl r fj fm vj vm Q9 → RL_X5_readOneG_7 dd de fi fl vi vl r fj fm vj vm Q9 → RL_X5_readOneG_8 dd de fi fl vi vl r fj fm vj vm Q9 → RL_X5_readOneG_9 dd de fi fl vi vl r fj fm vj vm Q9 → RL_X5_readOneG_10 dd de fi fl vi vl r fj fm vj vm Q9 → RL_X5_readOneG_11 dd de fi fl vi vl r fj fm vj vm Q9 → RL_X5_readOneG_12 dd de fi fl vi vl r fj fm vj vm Q9 → RL_X5_readOneG_13 dd de fi fl vi vl r fj fm vj vm Q9 → RL_X5_readOneG_14 dd de fi fl vi vl r fj fm vj vm Q9 → RL_X5_readOneG_15 dd de fi fl vi vl r fj fm vj vm Q9 → RL_X5_readOneG_16 dd de fi fl vi vl r fj fm vj vm Q9 → RL_X5_readOneG_17 dd de fi fl vi vl r fj fm vj vm Q9 → RL_X5_readOneG_18 dd de fi fl vi vl r fj fm vj vm Q9 → RL_X5_readOneG_19 dd de fi fl vi vl r fj fm vj vm Q9 → RL_X5_readOneG_20 dd de fi fl vi vl r fj fm vj vm Q9 → RL_X5_readOneG_21 dd de fi fl vi vl r fj fm vj vm Q9 → RL_X5_readOneG_22 dd de fi fl vi vl r fj fm vj vm Q9 → RL_X5_readOneG_23 dd de fi fl vi vl r fj fm vj vm Q9 → RL_X5_readOneG_24 dd de fi fl vi vl r fj fm vj vm Q9 → RL_X5_readOneG_25 dd de fi fl vi vl r fj fm vj vm Q9 → RL_X5_readOneG_26 dd de fi fl vi vl r fj fm vj vm Q9 → RL_X5_readOneG_27 dd de fi fl vi vl r fj fm vj vm Q9 → Q9
def PS_X5_readOneG (dd de : Nat) (fi : Nat → Nat → Int32) (fl : Nat → Nat → Int64) (vi : Nat → Int32) (vl : Nat → Int64) (r : Int32) (fj : Nat → Nat → Int32) (fm : Nat → Nat → Int64) (vj : Nat → Int32) (vm : Nat → Int64) : Prop :=
  ∀ n m t : Nat, CC (trn (fi 0) n) n m t (vi 3) (vi 4) (vi 6) (vi 7) (vi 5) (vl 0) (vi 8) (vi 9) → ∀ σ : List Bool, σ.length + 1 = dd → (r.toInt = 1 ∧ ∃ t' : Nat, CC (trn (fi 0) n) n m t' (vi 3) (vi 4) (vj 3) (vj 4) (vj 7) (vm 0) (vj 6) (vj 5) ∧ gto n (SF (trn (fi 0) n) n m (ownB (fl 0)) (fl 1) (vi 13).toInt σ false (vi 1).toInt t) t (SF (trn (fi 0) n) n m (ownB (fl 0)) (fl 1) (vi 13).toInt (sps σ) true (vj 2).toInt t') t') ∨ (r.toInt = 0 ∧ gfa n (SF (trn (fi 0) n) n m (ownB (fl 0)) (fl 1) (vi 13).toInt σ false (vi 1).toInt t) t (vj 0).toInt (vj 1).toInt)
set_option maxHeartbeats 4000000 in
theorem PL_X5_readOneG_0 {dd de : Nat} (hde : de = dd + 1) (hle : dd ≤ 8) {fi : Nat → Nat → Int32} {fl : Nat → Nat → Int64} {vi : Nat → Int32} {vl : Nat → Int64} {r : Int32} {fj : Nat → Nat → Int32} {fm : Nat → Nat → Int64} {vj : Nat → Int32} {vm : Nat → Int64} : RL_X5_readOneG_0 dd de fi fl vi vl r fj fm vj vm (PS_X5_readOneG dd de fi fl vi vl r fj fm vj vm) := by
  unfold RL_X5_readOneG_0
  intro hp0 hp1 hp2 hp3 hp4 hp5 hp6 hp7 hp8 hp9 fik flk vik vlk rk gk_0 fik_1 flk_1 vik_1 vlk_1 rk_1 gk_1_1 tb gk_1_0 fik_2 flk_2 vik_2 vlk_2 rk_2 tb_1 gk_2_0 c28 c55 fik_3 flk_3 vik_3 vlk_3 rk_3 gk_3_0 gk_3_1 gk_3_2 q0 q1 q2 q3 q4 q5 q6 q7 q8 q9 q10 q11 q12 q13 q14; subst q0
  unfold PS_X5_readOneG
  intro n m t hc σ hd
  (try simp only [q1, q2, q3, q4, q5, q6, q7, q8, q9, q10, q11, q12, q13, q14]); have k9_0 : (0 : Int32).toInt = 0 := (by decide); have k9_1 : (1 : Int32).toInt = 1 := (by decide); have k9_2 : (4 : Int32).toInt = 4 := (by decide); have k9_3 : (40 : Int32).toInt = 40 := (by decide)
  have hc0 := hc
  obtain ⟨hn, hm, ht, ck, cp, ce, cw, cu, cg⟩ := hc0
  have y_not : isW (trn (fi 0) n) n m t 7237492 := by
    rcases gk_1_1 with ⟨z1, z2, z3⟩ | ⟨z1, z2⟩
    · exact ⟨ck.symm.trans z2, by rw [← cw (ck.symm.trans z2)]; exact z3⟩
    · exact absurd (z1.symm.trans tb) (by decide)
  have hla := gk_0 n m t hc
  have hop : sK (trn (fi 0) n) n m t = 3 ∧ sG (trn (fi 0) n) n m t = 40 := ⟨by omega, by have h9 := cg (by omega); omega⟩
  exact Or.inr ⟨by decide, gfa_c (sg_four ht (Or.inr (Or.inl y_not)) (by omega)) (by omega) (by omega)⟩
set_option maxHeartbeats 4000000 in
theorem PL_X5_readOneG_1 {dd de : Nat} (hde : de = dd + 1) (hle : dd ≤ 8) {fi : Nat → Nat → Int32} {fl : Nat → Nat → Int64} {vi : Nat → Int32} {vl : Nat → Int64} {r : Int32} {fj : Nat → Nat → Int32} {fm : Nat → Nat → Int64} {vj : Nat → Int32} {vm : Nat → Int64} : RL_X5_readOneG_1 dd de fi fl vi vl r fj fm vj vm (PS_X5_readOneG dd de fi fl vi vl r fj fm vj vm) := by
  unfold RL_X5_readOneG_1
  intro hp0 hp1 hp2 hp3 hp4 hp5 hp6 hp7 hp8 hp9 fik flk vik vlk rk gk_0 fik_1 flk_1 vik_1 vlk_1 rk_1 gk_1_1 tb gk_1_0 fik_2 flk_2 vik_2 vlk_2 rk_2 tb_1 gk_2_0 c28 c55 z79 ez79 tz79 fik_4 flk_4 vik_4 vlk_4 uk_4 gk_4_0 gk_4_1 gk_4_2 fik_5 flk_5 vik_5 vlk_5 rk_5 gk_5_1 gk_5_2 gk_5_3 gk_5_4 tb_2 gk_5_0 fik_6 flk_6 vik_6 vlk_6 rk_6 gk_6_1 gk_6_2 gk_6_3 tb_3 gk_6_0 q0 q1 q2 q3 q4 q5 q6 q7 q8 q9 q10 q11 q12 q13 q14; subst q0
  unfold PS_X5_readOneG
  intro n m t hc σ hd
  (try simp only [q1, q2, q3, q4, q5, q6, q7, q8, q9, q10, q11, q12, q13, q14]); have k9_0 : (0 : Int32).toInt = 0 := (by decide); have k9_1 : (1 : Int32).toInt = 1 := (by decide); have k9_2 : (40 : Int32).toInt = 40 := (by decide)
  have hc0 := hc
  obtain ⟨hn, hm, ht, ck, cp, ce, cw, cu, cg⟩ := hc0
  have y_not : isW (trn (fi 0) n) n m t 7237492 := by
    rcases gk_1_1 with ⟨z1, z2, z3⟩ | ⟨z1, z2⟩
    · exact ⟨ck.symm.trans z2, by rw [← cw (ck.symm.trans z2)]; exact z3⟩
    · exact absurd (z1.symm.trans tb) (by decide)
  have hla := gk_0 n m t hc
  have hop : sK (trn (fi 0) n) n m t = 3 ∧ sG (trn (fi 0) n) n m t = 40 := ⟨by omega, by have h9 := cg (by omega); omega⟩
  have hc1 := CC_nx hc gk_4_2
  rcases gk_5_4 n m _ hc1 (false :: σ) (show σ.length + 1 + 1 = de by omega) with ⟨b1, t9, b2, b3⟩ | ⟨b1, b2⟩
  · exact Or.inl ⟨by decide, t9, b2, gto_tr (sg_not ht y_not (by omega) (by omega) (by omega)) b3⟩
  · exact absurd (b1.symm.trans tb_2) (by decide)
set_option maxHeartbeats 4000000 in
theorem PL_X5_readOneG_2 {dd de : Nat} (hde : de = dd + 1) (hle : dd ≤ 8) {fi : Nat → Nat → Int32} {fl : Nat → Nat → Int64} {vi : Nat → Int32} {vl : Nat → Int64} {r : Int32} {fj : Nat → Nat → Int32} {fm : Nat → Nat → Int64} {vj : Nat → Int32} {vm : Nat → Int64} : RL_X5_readOneG_2 dd de fi fl vi vl r fj fm vj vm (PS_X5_readOneG dd de fi fl vi vl r fj fm vj vm) := by
  unfold RL_X5_readOneG_2
  intro hp0 hp1 hp2 hp3 hp4 hp5 hp6 hp7 hp8 hp9 fik flk vik vlk rk gk_0 fik_1 flk_1 vik_1 vlk_1 rk_1 gk_1_1 tb gk_1_0 fik_2 flk_2 vik_2 vlk_2 rk_2 tb_1 gk_2_0 c28 c55 z79 ez79 tz79 fik_4 flk_4 vik_4 vlk_4 uk_4 gk_4_0 gk_4_1 gk_4_2 fik_5 flk_5 vik_5 vlk_5 rk_5 gk_5_1 gk_5_2 gk_5_3 gk_5_4 tb_2 gk_5_0 fik_6 flk_6 vik_6 vlk_6 rk_6 gk_6_1 gk_6_2 gk_6_3 tb_3 gk_6_0 q0 q1 q2 q3 q4 q5 q6 q7 q8 q9 q10 q11 q12 q13 q14; subst q0
  unfold PS_X5_readOneG
  intro n m t hc σ hd
  (try simp only [q1, q2, q3, q4, q5, q6, q7, q8, q9, q10, q11, q12, q13, q14]); have k9_0 : (0 : Int32).toInt = 0 := (by decide); have k9_1 : (1 : Int32).toInt = 1 := (by decide); have k9_2 : (40 : Int32).toInt = 40 := (by decide)
  have hc0 := hc
  obtain ⟨hn, hm, ht, ck, cp, ce, cw, cu, cg⟩ := hc0
  have y_not : isW (trn (fi 0) n) n m t 7237492 := by
    rcases gk_1_1 with ⟨z1, z2, z3⟩ | ⟨z1, z2⟩
    · exact ⟨ck.symm.trans z2, by rw [← cw (ck.symm.trans z2)]; exact z3⟩
    · exact absurd (z1.symm.trans tb) (by decide)
  have hla := gk_0 n m t hc
  have hop : sK (trn (fi 0) n) n m t = 3 ∧ sG (trn (fi 0) n) n m t = 40 := ⟨by omega, by have h9 := cg (by omega); omega⟩
  have hc1 := CC_nx hc gk_4_2
  rcases gk_5_4 n m _ hc1 (false :: σ) (show σ.length + 1 + 1 = de by omega) with ⟨b1, t9, b2, b3⟩ | ⟨b1, b2⟩
  · exfalso; omega
  · exact absurd (b1.symm.trans tb_2) (by decide)
set_option maxHeartbeats 4000000 in
theorem PL_X5_readOneG_3 {dd de : Nat} (hde : de = dd + 1) (hle : dd ≤ 8) {fi : Nat → Nat → Int32} {fl : Nat → Nat → Int64} {vi : Nat → Int32} {vl : Nat → Int64} {r : Int32} {fj : Nat → Nat → Int32} {fm : Nat → Nat → Int64} {vj : Nat → Int32} {vm : Nat → Int64} : RL_X5_readOneG_3 dd de fi fl vi vl r fj fm vj vm (PS_X5_readOneG dd de fi fl vi vl r fj fm vj vm) := by
  unfold RL_X5_readOneG_3
  intro hp0 hp1 hp2 hp3 hp4 hp5 hp6 hp7 hp8 hp9 fik flk vik vlk rk gk_0 fik_1 flk_1 vik_1 vlk_1 rk_1 gk_1_1 tb gk_1_0 fik_2 flk_2 vik_2 vlk_2 rk_2 tb_1 gk_2_0 c28 c55 z79 ez79 tz79 fik_4 flk_4 vik_4 vlk_4 uk_4 gk_4_0 gk_4_1 gk_4_2 fik_5 flk_5 vik_5 vlk_5 rk_5 gk_5_1 gk_5_2 gk_5_3 gk_5_4 tb_2 gk_5_0 q0 q1 q2 q3 q4 q5 q6 q7 q8 q9 q10 q11 q12 q13 q14; subst q0
  unfold PS_X5_readOneG
  intro n m t hc σ hd
  (try simp only [q1, q2, q3, q4, q5, q6, q7, q8, q9, q10, q11, q12, q13, q14]); have k9_0 : (0 : Int32).toInt = 0 := (by decide); have k9_1 : (1 : Int32).toInt = 1 := (by decide); have k9_2 : (40 : Int32).toInt = 40 := (by decide)
  have hc0 := hc
  obtain ⟨hn, hm, ht, ck, cp, ce, cw, cu, cg⟩ := hc0
  have y_not : isW (trn (fi 0) n) n m t 7237492 := by
    rcases gk_1_1 with ⟨z1, z2, z3⟩ | ⟨z1, z2⟩
    · exact ⟨ck.symm.trans z2, by rw [← cw (ck.symm.trans z2)]; exact z3⟩
    · exact absurd (z1.symm.trans tb) (by decide)
  have hla := gk_0 n m t hc
  have hop : sK (trn (fi 0) n) n m t = 3 ∧ sG (trn (fi 0) n) n m t = 40 := ⟨by omega, by have h9 := cg (by omega); omega⟩
  have hc1 := CC_nx hc gk_4_2
  rcases gk_5_4 n m _ hc1 (false :: σ) (show σ.length + 1 + 1 = de by omega) with ⟨b1, t9, b2, b3⟩ | ⟨b1, b2⟩
  · exact absurd (b1.symm.trans tb_2) (by decide)
  · exact Or.inr ⟨by decide, gto_fa (sg_not ht y_not (by omega) (by omega) (by omega)) b2⟩
set_option maxHeartbeats 4000000 in
theorem PL_X5_readOneG_4 {dd de : Nat} (hde : de = dd + 1) (hle : dd ≤ 8) {fi : Nat → Nat → Int32} {fl : Nat → Nat → Int64} {vi : Nat → Int32} {vl : Nat → Int64} {r : Int32} {fj : Nat → Nat → Int32} {fm : Nat → Nat → Int64} {vj : Nat → Int32} {vm : Nat → Int64} : RL_X5_readOneG_4 dd de fi fl vi vl r fj fm vj vm (PS_X5_readOneG dd de fi fl vi vl r fj fm vj vm) := by
  unfold RL_X5_readOneG_4
  intro hp0 hp1 hp2 hp3 hp4 hp5 hp6 hp7 hp8 hp9 fik flk vik vlk rk gk_0 fik_1 flk_1 vik_1 vlk_1 rk_1 gk_1_1 tb gk_1_0 fik_2 flk_2 vik_2 vlk_2 rk_2 tb_1 gk_2_0 c28 c55_1 fik_7 flk_7 vik_7 vlk_7 rk_7 gk_7_0 gk_7_1 gk_7_2 q0 q1 q2 q3 q4 q5 q6 q7 q8 q9 q10 q11 q12 q13 q14; subst q0
  unfold PS_X5_readOneG
  intro n m t hc σ hd
  (try simp only [q1, q2, q3, q4, q5, q6, q7, q8, q9, q10, q11, q12, q13, q14]); have k9_0 : (0 : Int32).toInt = 0 := (by decide); have k9_1 : (1 : Int32).toInt = 1 := (by decide); have k9_2 : (4 : Int32).toInt = 4 := (by decide); have k9_3 : (40 : Int32).toInt = 40 := (by decide)
  have hc0 := hc
  obtain ⟨hn, hm, ht, ck, cp, ce, cw, cu, cg⟩ := hc0
  have y_not : isW (trn (fi 0) n) n m t 7237492 := by
    rcases gk_1_1 with ⟨z1, z2, z3⟩ | ⟨z1, z2⟩
    · exact ⟨ck.symm.trans z2, by rw [← cw (ck.symm.trans z2)]; exact z3⟩
    · exact absurd (z1.symm.trans tb) (by decide)
  have hla := gk_0 n m t hc
  have hop : sK (trn (fi 0) n) n m t = 3 ∧ sG (trn (fi 0) n) n m t = 40 := ⟨by omega, by have h9 := cg (by omega); omega⟩
  exact Or.inr ⟨by decide, gfa_c (sg_four ht (Or.inr (Or.inl y_not)) (by omega)) (by omega) (by omega)⟩
set_option maxHeartbeats 4000000 in
theorem PL_X5_readOneG_5 {dd de : Nat} (hde : de = dd + 1) (hle : dd ≤ 8) {fi : Nat → Nat → Int32} {fl : Nat → Nat → Int64} {vi : Nat → Int32} {vl : Nat → Int64} {r : Int32} {fj : Nat → Nat → Int32} {fm : Nat → Nat → Int64} {vj : Nat → Int32} {vm : Nat → Int64} : RL_X5_readOneG_5 dd de fi fl vi vl r fj fm vj vm (PS_X5_readOneG dd de fi fl vi vl r fj fm vj vm) := by
  unfold RL_X5_readOneG_5
  intro hp0 hp1 hp2 hp3 hp4 hp5 hp6 hp7 hp8 hp9 fik flk vik vlk rk gk_0 fik_1 flk_1 vik_1 vlk_1 rk_1 gk_1_1 tb gk_1_0 fik_2 flk_2 vik_2 vlk_2 rk_2 tb_1 gk_2_0 c28 c55_1 z79_1 ez79_1 tz79_1 fik_8 flk_8 vik_8 vlk_8 uk_8 gk_8_0 gk_8_1 gk_8_2 fik_9 flk_9 vik_9 vlk_9 rk_9 gk_9_1 gk_9_2 gk_9_3 gk_9_4 tb_4 gk_9_0 fik_10 flk_10 vik_10 vlk_10 rk_10 gk_10_1 gk_10_2 gk_10_3 tb_5 gk_10_0 q0 q1 q2 q3 q4 q5 q6 q7 q8 q9 q10 q11 q12 q13 q14; subst q0
  unfold PS_X5_readOneG
  intro n m t hc σ hd
  (try simp only [q1, q2, q3, q4, q5, q6, q7, q8, q9, q10, q11, q12, q13, q14]); have k9_0 : (0 : Int32).toInt = 0 := (by decide); have k9_1 : (1 : Int32).toInt = 1 := (by decide); have k9_2 : (40 : Int32).toInt = 40 := (by decide)
  have hc0 := hc
  obtain ⟨hn, hm, ht, ck, cp, ce, cw, cu, cg⟩ := hc0
  have y_not : isW (trn (fi 0) n) n m t 7237492 := by
    rcases gk_1_1 with ⟨z1, z2, z3⟩ | ⟨z1, z2⟩
    · exact ⟨ck.symm.trans z2, by rw [← cw (ck.symm.trans z2)]; exact z3⟩
    · exact absurd (z1.symm.trans tb) (by decide)
  have hla := gk_0 n m t hc
  have hop : sK (trn (fi 0) n) n m t = 3 ∧ sG (trn (fi 0) n) n m t = 40 := ⟨by omega, by have h9 := cg (by omega); omega⟩
  have hc1 := CC_nx hc gk_8_2
  rcases gk_9_4 n m _ hc1 (false :: σ) (show σ.length + 1 + 1 = de by omega) with ⟨b1, t9, b2, b3⟩ | ⟨b1, b2⟩
  · exact Or.inl ⟨by decide, t9, b2, gto_tr (sg_not ht y_not (by omega) (by omega) (by omega)) b3⟩
  · exact absurd (b1.symm.trans tb_4) (by decide)
