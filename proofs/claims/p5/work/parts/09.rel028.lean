def RL_X5_readOne_9_10 (fi : Nat → Nat → Int32) (fl : Nat → Nat → Int64) (vi : Nat → Int32) (vl : Nat → Int64) (r : Int32) (fj : Nat → Nat → Int32) (fm : Nat → Nat → Int64) (vj : Nat → Int32) (vm : Nat → Int64) (Q9 : Prop) : Prop :=
  (0 ≤ (vi 0).toInt ∧ (vi 0).toInt ≤ 40) → (0 ≤ (vi 1).toInt ∧ (vi 1).toInt ≤ 20) → (0 ≤ (vi 3).toInt ∧ (vi 3).toInt ≤ 940) → (0 ≤ (vi 4).toInt ∧ (vi 4).toInt ≤ 940) → (0 ≤ (vi 5).toInt ∧ (vi 5).toInt ≤ 940) → (0 ≤ (vi 7).toInt ∧ (vi 7).toInt ≤ 940) → (0 ≤ (vi 12).toInt ∧ (vi 12).toInt ≤ 940) → (0 ≤ (vi 13).toInt ∧ (vi 13).toInt ≤ 9) → (0 ≤ (vi 14).toInt ∧ (vi 14).toInt ≤ 9) → ((vi 0).toInt ≤ 2 * (vi 1).toInt) → ∀ (fik : Nat → Nat → Int32), ∀ (flk : Nat → Nat → Int64), ∀ (vik : Nat → Int32), ∀ (vlk : Nat → Int64), ∀ (rk : Int32), (∀ n m t : Nat, CC (trn (fi 0) n) n m t (vi 3) (vi 4) (vi 6) (vi 7) (vi 5) (vl 0) (vi 8) (vi 9) → LFR rk.toInt (lfi (trn (fi 0) n) n m t)) → ∀ (fik_1 : Nat → Nat → Int32), ∀ (flk_1 : Nat → Nat → Int64), ∀ (vik_1 : Nat → Int32), ∀ (vlk_1 : Nat → Int64), ∀ (rk_1 : Int32), (DJ (rk_1.toInt = 1 ∧ (vi 6).toInt = 1 ∧ (vl 0) = (7237492 : Int64)) (rk_1.toInt = 0 ∧ ¬ ((vi 6).toInt = 1 ∧ (vl 0) = (7237492 : Int64)))) → (rk_1.toInt = 0) → (True) → ∀ (fik_11 : Nat → Nat → Int32), ∀ (flk_11 : Nat → Nat → Int64), ∀ (vik_11 : Nat → Int32), ∀ (vlk_11 : Nat → Int64), ∀ (rk_11 : Int32), (rk_11.toInt = 1) → ((vi 6).toInt = 3 ∧ (vi 9).toInt = (40 : Int32).toInt) → (rk.toInt = (-1)) → (20 ≤ (vi 1).toInt) → ∀ (fik_14 : Nat → Nat → Int32), ∀ (flk_14 : Nat → Nat → Int64), ∀ (vik_14 : Nat → Int32), ∀ (vlk_14 : Nat → Int64), ∀ (rk_14 : Int32), (rk_14 = 0) → (0 ≤ (vik_14 1).toInt ∧ (vik_14 1).toInt ≤ 940) → ((vik_14 0).toInt = (4 : Int32).toInt ∧ (vik_14 1).toInt = (vi 7).toInt) → (r = (0 : Int32)) → (vj 0 = (vik_14 0)) → (vj 1 = (vik_14 1)) → Q9
def RL_X5_readOne_9_11 (fi : Nat → Nat → Int32) (fl : Nat → Nat → Int64) (vi : Nat → Int32) (vl : Nat → Int64) (r : Int32) (fj : Nat → Nat → Int32) (fm : Nat → Nat → Int64) (vj : Nat → Int32) (vm : Nat → Int64) (Q9 : Prop) : Prop :=
  (0 ≤ (vi 0).toInt ∧ (vi 0).toInt ≤ 40) → (0 ≤ (vi 1).toInt ∧ (vi 1).toInt ≤ 20) → (0 ≤ (vi 3).toInt ∧ (vi 3).toInt ≤ 940) → (0 ≤ (vi 4).toInt ∧ (vi 4).toInt ≤ 940) → (0 ≤ (vi 5).toInt ∧ (vi 5).toInt ≤ 940) → (0 ≤ (vi 7).toInt ∧ (vi 7).toInt ≤ 940) → (0 ≤ (vi 12).toInt ∧ (vi 12).toInt ≤ 940) → (0 ≤ (vi 13).toInt ∧ (vi 13).toInt ≤ 9) → (0 ≤ (vi 14).toInt ∧ (vi 14).toInt ≤ 9) → ((vi 0).toInt ≤ 2 * (vi 1).toInt) → ∀ (fik : Nat → Nat → Int32), ∀ (flk : Nat → Nat → Int64), ∀ (vik : Nat → Int32), ∀ (vlk : Nat → Int64), ∀ (rk : Int32), (∀ n m t : Nat, CC (trn (fi 0) n) n m t (vi 3) (vi 4) (vi 6) (vi 7) (vi 5) (vl 0) (vi 8) (vi 9) → LFR rk.toInt (lfi (trn (fi 0) n) n m t)) → ∀ (fik_1 : Nat → Nat → Int32), ∀ (flk_1 : Nat → Nat → Int64), ∀ (vik_1 : Nat → Int32), ∀ (vlk_1 : Nat → Int64), ∀ (rk_1 : Int32), (DJ (rk_1.toInt = 1 ∧ (vi 6).toInt = 1 ∧ (vl 0) = (7237492 : Int64)) (rk_1.toInt = 0 ∧ ¬ ((vi 6).toInt = 1 ∧ (vl 0) = (7237492 : Int64)))) → (rk_1.toInt = 0) → (True) → ∀ (fik_11 : Nat → Nat → Int32), ∀ (flk_11 : Nat → Nat → Int64), ∀ (vik_11 : Nat → Int32), ∀ (vlk_11 : Nat → Int64), ∀ (rk_11 : Int32), (rk_11.toInt = 1) → ((vi 6).toInt = 3 ∧ (vi 9).toInt = (40 : Int32).toInt) → (rk.toInt = (-1)) → ((vi 1).toInt < 20) → ∀ (fik_15 : Nat → Nat → Int32), ∀ (flk_15 : Nat → Nat → Int64), ∀ (vik_15 : Nat → Int32), ∀ (vlk_15 : Nat → Int64), ∀ (rk_15 : Int32), (rk_15 = 0) → (0 ≤ (vik_15 1).toInt ∧ (vik_15 1).toInt ≤ 940) → ((vik_15 0).toInt = (4 : Int32).toInt ∧ (vik_15 1).toInt = (vi 7).toInt) → (r = (0 : Int32)) → (vj 0 = (vik_15 0)) → (vj 1 = (vik_15 1)) → Q9
def RL_X5_readOne_9_12 (fi : Nat → Nat → Int32) (fl : Nat → Nat → Int64) (vi : Nat → Int32) (vl : Nat → Int64) (r : Int32) (fj : Nat → Nat → Int32) (fm : Nat → Nat → Int64) (vj : Nat → Int32) (vm : Nat → Int64) (Q9 : Prop) : Prop :=
  (0 ≤ (vi 0).toInt ∧ (vi 0).toInt ≤ 40) → (0 ≤ (vi 1).toInt ∧ (vi 1).toInt ≤ 20) → (0 ≤ (vi 3).toInt ∧ (vi 3).toInt ≤ 940) → (0 ≤ (vi 4).toInt ∧ (vi 4).toInt ≤ 940) → (0 ≤ (vi 5).toInt ∧ (vi 5).toInt ≤ 940) → (0 ≤ (vi 7).toInt ∧ (vi 7).toInt ≤ 940) → (0 ≤ (vi 12).toInt ∧ (vi 12).toInt ≤ 940) → (0 ≤ (vi 13).toInt ∧ (vi 13).toInt ≤ 9) → (0 ≤ (vi 14).toInt ∧ (vi 14).toInt ≤ 9) → ((vi 0).toInt ≤ 2 * (vi 1).toInt) → ∀ (fik : Nat → Nat → Int32), ∀ (flk : Nat → Nat → Int64), ∀ (vik : Nat → Int32), ∀ (vlk : Nat → Int64), ∀ (rk : Int32), (∀ n m t : Nat, CC (trn (fi 0) n) n m t (vi 3) (vi 4) (vi 6) (vi 7) (vi 5) (vl 0) (vi 8) (vi 9) → LFR rk.toInt (lfi (trn (fi 0) n) n m t)) → ∀ (fik_1 : Nat → Nat → Int32), ∀ (flk_1 : Nat → Nat → Int64), ∀ (vik_1 : Nat → Int32), ∀ (vlk_1 : Nat → Int64), ∀ (rk_1 : Int32), (DJ (rk_1.toInt = 1 ∧ (vi 6).toInt = 1 ∧ (vl 0) = (7237492 : Int64)) (rk_1.toInt = 0 ∧ ¬ ((vi 6).toInt = 1 ∧ (vl 0) = (7237492 : Int64)))) → (rk_1.toInt = 0) → (True) → ∀ (fik_11 : Nat → Nat → Int32), ∀ (flk_11 : Nat → Nat → Int64), ∀ (vik_11 : Nat → Int32), ∀ (vlk_11 : Nat → Int64), ∀ (rk_11 : Int32), (rk_11.toInt = 0) → (¬ ((vi 6).toInt = 3 ∧ (vi 9).toInt = (40 : Int32).toInt)) → (¬ rk.toInt = (-1)) → (20 ≤ (vi 1).toInt) → ∀ (fik_16 : Nat → Nat → Int32), ∀ (flk_16 : Nat → Nat → Int64), ∀ (vik_16 : Nat → Int32), ∀ (vlk_16 : Nat → Int64), ∀ (rk_16 : Int32), (rk_16 = 0) → (0 ≤ (vik_16 1).toInt ∧ (vik_16 1).toInt ≤ 940) → ((vik_16 0).toInt = (4 : Int32).toInt ∧ (vik_16 1).toInt = (vi 7).toInt) → (r = (0 : Int32)) → (vj 0 = (vik_16 0)) → (vj 1 = (vik_16 1)) → Q9
def RL_X5_readOne_9_13 (fi : Nat → Nat → Int32) (fl : Nat → Nat → Int64) (vi : Nat → Int32) (vl : Nat → Int64) (r : Int32) (fj : Nat → Nat → Int32) (fm : Nat → Nat → Int64) (vj : Nat → Int32) (vm : Nat → Int64) (Q9 : Prop) : Prop :=
  (0 ≤ (vi 0).toInt ∧ (vi 0).toInt ≤ 40) → (0 ≤ (vi 1).toInt ∧ (vi 1).toInt ≤ 20) → (0 ≤ (vi 3).toInt ∧ (vi 3).toInt ≤ 940) → (0 ≤ (vi 4).toInt ∧ (vi 4).toInt ≤ 940) → (0 ≤ (vi 5).toInt ∧ (vi 5).toInt ≤ 940) → (0 ≤ (vi 7).toInt ∧ (vi 7).toInt ≤ 940) → (0 ≤ (vi 12).toInt ∧ (vi 12).toInt ≤ 940) → (0 ≤ (vi 13).toInt ∧ (vi 13).toInt ≤ 9) → (0 ≤ (vi 14).toInt ∧ (vi 14).toInt ≤ 9) → ((vi 0).toInt ≤ 2 * (vi 1).toInt) → ∀ (fik : Nat → Nat → Int32), ∀ (flk : Nat → Nat → Int64), ∀ (vik : Nat → Int32), ∀ (vlk : Nat → Int64), ∀ (rk : Int32), (∀ n m t : Nat, CC (trn (fi 0) n) n m t (vi 3) (vi 4) (vi 6) (vi 7) (vi 5) (vl 0) (vi 8) (vi 9) → LFR rk.toInt (lfi (trn (fi 0) n) n m t)) → ∀ (fik_1 : Nat → Nat → Int32), ∀ (flk_1 : Nat → Nat → Int64), ∀ (vik_1 : Nat → Int32), ∀ (vlk_1 : Nat → Int64), ∀ (rk_1 : Int32), (DJ (rk_1.toInt = 1 ∧ (vi 6).toInt = 1 ∧ (vl 0) = (7237492 : Int64)) (rk_1.toInt = 0 ∧ ¬ ((vi 6).toInt = 1 ∧ (vl 0) = (7237492 : Int64)))) → (rk_1.toInt = 0) → (True) → ∀ (fik_11 : Nat → Nat → Int32), ∀ (flk_11 : Nat → Nat → Int64), ∀ (vik_11 : Nat → Int32), ∀ (vlk_11 : Nat → Int64), ∀ (rk_11 : Int32), (rk_11.toInt = 0) → (¬ ((vi 6).toInt = 3 ∧ (vi 9).toInt = (40 : Int32).toInt)) → (¬ rk.toInt = (-1)) → ((vi 1).toInt < 20) → ∀ (fik_17 : Nat → Nat → Int32), ∀ (flk_17 : Nat → Nat → Int64), ∀ (vik_17 : Nat → Int32), ∀ (vlk_17 : Nat → Int64), ∀ (rk_17 : Int32), (rk_17 = 0) → (0 ≤ (vik_17 1).toInt ∧ (vik_17 1).toInt ≤ 940) → ((vik_17 0).toInt = (4 : Int32).toInt ∧ (vik_17 1).toInt = (vi 7).toInt) → (r = (0 : Int32)) → (vj 0 = (vik_17 0)) → (vj 1 = (vik_17 1)) → Q9
def RL_X5_readOne_9_14 (fi : Nat → Nat → Int32) (fl : Nat → Nat → Int64) (vi : Nat → Int32) (vl : Nat → Int64) (r : Int32) (fj : Nat → Nat → Int32) (fm : Nat → Nat → Int64) (vj : Nat → Int32) (vm : Nat → Int64) (Q9 : Prop) : Prop :=
  (0 ≤ (vi 0).toInt ∧ (vi 0).toInt ≤ 40) → (0 ≤ (vi 1).toInt ∧ (vi 1).toInt ≤ 20) → (0 ≤ (vi 3).toInt ∧ (vi 3).toInt ≤ 940) → (0 ≤ (vi 4).toInt ∧ (vi 4).toInt ≤ 940) → (0 ≤ (vi 5).toInt ∧ (vi 5).toInt ≤ 940) → (0 ≤ (vi 7).toInt ∧ (vi 7).toInt ≤ 940) → (0 ≤ (vi 12).toInt ∧ (vi 12).toInt ≤ 940) → (0 ≤ (vi 13).toInt ∧ (vi 13).toInt ≤ 9) → (0 ≤ (vi 14).toInt ∧ (vi 14).toInt ≤ 9) → ((vi 0).toInt ≤ 2 * (vi 1).toInt) → ∀ (fik : Nat → Nat → Int32), ∀ (flk : Nat → Nat → Int64), ∀ (vik : Nat → Int32), ∀ (vlk : Nat → Int64), ∀ (rk : Int32), (∀ n m t : Nat, CC (trn (fi 0) n) n m t (vi 3) (vi 4) (vi 6) (vi 7) (vi 5) (vl 0) (vi 8) (vi 9) → LFR rk.toInt (lfi (trn (fi 0) n) n m t)) → ∀ (fik_1 : Nat → Nat → Int32), ∀ (flk_1 : Nat → Nat → Int64), ∀ (vik_1 : Nat → Int32), ∀ (vlk_1 : Nat → Int64), ∀ (rk_1 : Int32), (DJ (rk_1.toInt = 1 ∧ (vi 6).toInt = 1 ∧ (vl 0) = (7237492 : Int64)) (rk_1.toInt = 0 ∧ ¬ ((vi 6).toInt = 1 ∧ (vl 0) = (7237492 : Int64)))) → (rk_1.toInt = 0) → (True) → ∀ (fik_11 : Nat → Nat → Int32), ∀ (flk_11 : Nat → Nat → Int64), ∀ (vik_11 : Nat → Int32), ∀ (vlk_11 : Nat → Int64), ∀ (rk_11 : Int32), (rk_11.toInt = 0) → (¬ ((vi 6).toInt = 3 ∧ (vi 9).toInt = (40 : Int32).toInt)) → (rk.toInt = (-1)) → ∀ (fik_18 : Nat → Nat → Int32), ∀ (flk_18 : Nat → Nat → Int64), ∀ (vik_18 : Nat → Int32), ∀ (vlk_18 : Nat → Int64), ∀ (rk_18 : Int32), (rk_18 = 0) → (0 ≤ (vik_18 1).toInt ∧ (vik_18 1).toInt ≤ 940) → ((vik_18 0).toInt = (1 : Int32).toInt ∧ (vik_18 1).toInt = (vi 7).toInt) → (r = (0 : Int32)) → (vj 0 = (vik_18 0)) → (vj 1 = (vik_18 1)) → Q9
def R_X5_readOne_9 (fi : Nat → Nat → Int32) (fl : Nat → Nat → Int64) (vi : Nat → Int32) (vl : Nat → Int64) (r : Int32) (fj : Nat → Nat → Int32) (fm : Nat → Nat → Int64) (vj : Nat → Int32) (vm : Nat → Int64) : Prop :=
  ∀ Q9 : Prop, RL_X5_readOne_9_0 fi fl vi vl r fj fm vj vm Q9 → RL_X5_readOne_9_1 fi fl vi vl r fj fm vj vm Q9 → RL_X5_readOne_9_2 fi fl vi vl r fj fm vj vm Q9 → RL_X5_readOne_9_3 fi fl vi vl r fj fm vj vm Q9 → RL_X5_readOne_9_4 fi fl vi vl r fj fm vj vm Q9 → RL_X5_readOne_9_5 fi fl vi vl r fj fm vj vm Q9 → RL_X5_readOne_9_6 fi fl vi vl r fj fm vj vm Q9 → RL_X5_readOne_9_7 fi fl vi vl r fj fm vj vm Q9 → RL_X5_readOne_9_8 fi fl vi vl r fj fm vj vm Q9 → RL_X5_readOne_9_9 fi fl vi vl r fj fm vj vm Q9 → RL_X5_readOne_9_10 fi fl vi vl r fj fm vj vm Q9 → RL_X5_readOne_9_11 fi fl vi vl r fj fm vj vm Q9 → RL_X5_readOne_9_12 fi fl vi vl r fj fm vj vm Q9 → RL_X5_readOne_9_13 fi fl vi vl r fj fm vj vm Q9 → RL_X5_readOne_9_14 fi fl vi vl r fj fm vj vm Q9 → Q9
def PS_X5_readOne_9 (fi : Nat → Nat → Int32) (fl : Nat → Nat → Int64) (vi : Nat → Int32) (vl : Nat → Int64) (r : Int32) (fj : Nat → Nat → Int32) (fm : Nat → Nat → Int64) (vj : Nat → Int32) (vm : Nat → Int64) : Prop :=
  ∀ n m t : Nat, CC (trn (fi 0) n) n m t (vi 3) (vi 4) (vi 6) (vi 7) (vi 5) (vl 0) (vi 8) (vi 9) → ∀ σ : List Bool, σ.length + 1 = 9 → (r.toInt = 1 ∧ ∃ t' : Nat, CC (trn (fi 0) n) n m t' (vi 3) (vi 4) (vi 6) (vi 7) (vi 5) (vl 0) (vi 8) (vi 9) ∧ gto n (SF (trn (fi 0) n) n m (ownB (fl 0)) (fl 1) (vi 13).toInt σ false (vi 1).toInt t) t (SF (trn (fi 0) n) n m (ownB (fl 0)) (fl 1) (vi 13).toInt (sps σ) true (vi 1).toInt t') t') ∨ (r.toInt = 0 ∧ gfa n (SF (trn (fi 0) n) n m (ownB (fl 0)) (fl 1) (vi 13).toInt σ false (vi 1).toInt t) t (vj 0).toInt (vj 1).toInt)
set_option maxHeartbeats 4000000 in
theorem PL_X5_readOne_9_0 {fi : Nat → Nat → Int32} {fl : Nat → Nat → Int64} {vi : Nat → Int32} {vl : Nat → Int64} {r : Int32} {fj : Nat → Nat → Int32} {fm : Nat → Nat → Int64} {vj : Nat → Int32} {vm : Nat → Int64} : RL_X5_readOne_9_0 fi fl vi vl r fj fm vj vm (PS_X5_readOne_9 fi fl vi vl r fj fm vj vm) := by
  unfold RL_X5_readOne_9_0
  intro hp0 hp1 hp2 hp3 hp4 hp5 hp6 hp7 hp8 hp9 fik flk vik vlk rk gk_0 fik_1 flk_1 vik_1 vlk_1 rk_1 gk_1_1 tb gk_1_0 fik_2 flk_2 vik_2 vlk_2 rk_2 tb_1 gk_2_0 c28 c55 fik_3 flk_3 vik_3 vlk_3 rk_3 gk_3_0 gk_3_1 gk_3_2 q0 q1 q2; subst q0
  unfold PS_X5_readOne_9
  intro n m t hc σ hd
  (try simp only [q1, q2]); have k9_0 : (0 : Int32).toInt = 0 := (by decide); have k9_1 : (1 : Int32).toInt = 1 := (by decide); have k9_2 : (4 : Int32).toInt = 4 := (by decide); have k9_3 : (40 : Int32).toInt = 40 := (by decide)
  have hc0 := hc
  obtain ⟨hn, hm, ht, ck, cp, ce, cw, cu, cg⟩ := hc0
  have y_not : isW (trn (fi 0) n) n m t 7237492 := by
    rcases gk_1_1 with ⟨z1, z2, z3⟩ | ⟨z1, z2⟩
    · exact ⟨ck.symm.trans z2, by rw [← cw (ck.symm.trans z2)]; exact z3⟩
    · exact absurd (z1.symm.trans tb) (by decide)
  have hla := gk_0 n m t hc
  have hop : sK (trn (fi 0) n) n m t = 3 ∧ sG (trn (fi 0) n) n m t = 40 := ⟨by omega, by have h9 := cg (by omega); omega⟩
  exact Or.inr ⟨by decide, gfa_c (sg_four ht (Or.inr (Or.inl y_not)) (by omega)) (by omega) (by omega)⟩
set_option maxHeartbeats 4000000 in
theorem PL_X5_readOne_9_1 {fi : Nat → Nat → Int32} {fl : Nat → Nat → Int64} {vi : Nat → Int32} {vl : Nat → Int64} {r : Int32} {fj : Nat → Nat → Int32} {fm : Nat → Nat → Int64} {vj : Nat → Int32} {vm : Nat → Int64} : RL_X5_readOne_9_1 fi fl vi vl r fj fm vj vm (PS_X5_readOne_9 fi fl vi vl r fj fm vj vm) := by
  unfold RL_X5_readOne_9_1
  intro hp0 hp1 hp2 hp3 hp4 hp5 hp6 hp7 hp8 hp9 fik flk vik vlk rk gk_0 fik_1 flk_1 vik_1 vlk_1 rk_1 gk_1_1 tb gk_1_0 fik_2 flk_2 vik_2 vlk_2 rk_2 tb_1 gk_2_0 c28 c55 fik_4 flk_4 vik_4 vlk_4 rk_4 gk_4_0 gk_4_1 gk_4_2 q0 q1 q2; subst q0
  unfold PS_X5_readOne_9
  intro n m t hc σ hd
  (try simp only [q1, q2]); have k9_0 : (0 : Int32).toInt = 0 := (by decide); have k9_1 : (1 : Int32).toInt = 1 := (by decide); have k9_2 : (4 : Int32).toInt = 4 := (by decide); have k9_3 : (40 : Int32).toInt = 40 := (by decide)
  have hc0 := hc
  obtain ⟨hn, hm, ht, ck, cp, ce, cw, cu, cg⟩ := hc0
  have y_not : isW (trn (fi 0) n) n m t 7237492 := by
    rcases gk_1_1 with ⟨z1, z2, z3⟩ | ⟨z1, z2⟩
    · exact ⟨ck.symm.trans z2, by rw [← cw (ck.symm.trans z2)]; exact z3⟩
    · exact absurd (z1.symm.trans tb) (by decide)
  have hla := gk_0 n m t hc
  have hop : sK (trn (fi 0) n) n m t = 3 ∧ sG (trn (fi 0) n) n m t = 40 := ⟨by omega, by have h9 := cg (by omega); omega⟩
  exact Or.inr ⟨by decide, gfa_c (sg_four ht (Or.inr (Or.inl y_not)) (by omega)) (by omega) (by omega)⟩
set_option maxHeartbeats 4000000 in
theorem PL_X5_readOne_9_2 {fi : Nat → Nat → Int32} {fl : Nat → Nat → Int64} {vi : Nat → Int32} {vl : Nat → Int64} {r : Int32} {fj : Nat → Nat → Int32} {fm : Nat → Nat → Int64} {vj : Nat → Int32} {vm : Nat → Int64} : RL_X5_readOne_9_2 fi fl vi vl r fj fm vj vm (PS_X5_readOne_9 fi fl vi vl r fj fm vj vm) := by
  unfold RL_X5_readOne_9_2
  intro hp0 hp1 hp2 hp3 hp4 hp5 hp6 hp7 hp8 hp9 fik flk vik vlk rk gk_0 fik_1 flk_1 vik_1 vlk_1 rk_1 gk_1_1 tb gk_1_0 fik_2 flk_2 vik_2 vlk_2 rk_2 tb_1 gk_2_0 c28 c55_1 fik_5 flk_5 vik_5 vlk_5 rk_5 gk_5_0 gk_5_1 gk_5_2 q0 q1 q2; subst q0
  unfold PS_X5_readOne_9
  intro n m t hc σ hd
  (try simp only [q1, q2]); have k9_0 : (0 : Int32).toInt = 0 := (by decide); have k9_1 : (1 : Int32).toInt = 1 := (by decide); have k9_2 : (4 : Int32).toInt = 4 := (by decide); have k9_3 : (40 : Int32).toInt = 40 := (by decide)
  have hc0 := hc
  obtain ⟨hn, hm, ht, ck, cp, ce, cw, cu, cg⟩ := hc0
  have y_not : isW (trn (fi 0) n) n m t 7237492 := by
    rcases gk_1_1 with ⟨z1, z2, z3⟩ | ⟨z1, z2⟩
    · exact ⟨ck.symm.trans z2, by rw [← cw (ck.symm.trans z2)]; exact z3⟩
    · exact absurd (z1.symm.trans tb) (by decide)
  have hla := gk_0 n m t hc
  have hop : sK (trn (fi 0) n) n m t = 3 ∧ sG (trn (fi 0) n) n m t = 40 := ⟨by omega, by have h9 := cg (by omega); omega⟩
  exact Or.inr ⟨by decide, gfa_c (sg_four ht (Or.inr (Or.inl y_not)) (by omega)) (by omega) (by omega)⟩
set_option maxHeartbeats 4000000 in
theorem PL_X5_readOne_9_3 {fi : Nat → Nat → Int32} {fl : Nat → Nat → Int64} {vi : Nat → Int32} {vl : Nat → Int64} {r : Int32} {fj : Nat → Nat → Int32} {fm : Nat → Nat → Int64} {vj : Nat → Int32} {vm : Nat → Int64} : RL_X5_readOne_9_3 fi fl vi vl r fj fm vj vm (PS_X5_readOne_9 fi fl vi vl r fj fm vj vm) := by
  unfold RL_X5_readOne_9_3
  intro hp0 hp1 hp2 hp3 hp4 hp5 hp6 hp7 hp8 hp9 fik flk vik vlk rk gk_0 fik_1 flk_1 vik_1 vlk_1 rk_1 gk_1_1 tb gk_1_0 fik_2 flk_2 vik_2 vlk_2 rk_2 tb_1 gk_2_0 c28 c55_1 fik_6 flk_6 vik_6 vlk_6 rk_6 gk_6_0 gk_6_1 gk_6_2 q0 q1 q2; subst q0
  unfold PS_X5_readOne_9
  intro n m t hc σ hd
  (try simp only [q1, q2]); have k9_0 : (0 : Int32).toInt = 0 := (by decide); have k9_1 : (1 : Int32).toInt = 1 := (by decide); have k9_2 : (4 : Int32).toInt = 4 := (by decide); have k9_3 : (40 : Int32).toInt = 40 := (by decide)
  have hc0 := hc
  obtain ⟨hn, hm, ht, ck, cp, ce, cw, cu, cg⟩ := hc0
  have y_not : isW (trn (fi 0) n) n m t 7237492 := by
    rcases gk_1_1 with ⟨z1, z2, z3⟩ | ⟨z1, z2⟩
    · exact ⟨ck.symm.trans z2, by rw [← cw (ck.symm.trans z2)]; exact z3⟩
    · exact absurd (z1.symm.trans tb) (by decide)
  have hla := gk_0 n m t hc
  have hop : sK (trn (fi 0) n) n m t = 3 ∧ sG (trn (fi 0) n) n m t = 40 := ⟨by omega, by have h9 := cg (by omega); omega⟩
  exact Or.inr ⟨by decide, gfa_c (sg_four ht (Or.inr (Or.inl y_not)) (by omega)) (by omega) (by omega)⟩
set_option maxHeartbeats 4000000 in
theorem PL_X5_readOne_9_4 {fi : Nat → Nat → Int32} {fl : Nat → Nat → Int64} {vi : Nat → Int32} {vl : Nat → Int64} {r : Int32} {fj : Nat → Nat → Int32} {fm : Nat → Nat → Int64} {vj : Nat → Int32} {vm : Nat → Int64} : RL_X5_readOne_9_4 fi fl vi vl r fj fm vj vm (PS_X5_readOne_9 fi fl vi vl r fj fm vj vm) := by
  unfold RL_X5_readOne_9_4
  intro hp0 hp1 hp2 hp3 hp4 hp5 hp6 hp7 hp8 hp9 fik flk vik vlk rk gk_0 fik_1 flk_1 vik_1 vlk_1 rk_1 gk_1_1 tb gk_1_0 fik_2 flk_2 vik_2 vlk_2 rk_2 tb_1 gk_2_0 c28_1 c55_2 fik_7 flk_7 vik_7 vlk_7 rk_7 gk_7_0 gk_7_1 gk_7_2 q0 q1 q2; subst q0
  unfold PS_X5_readOne_9
  intro n m t hc σ hd
  (try simp only [q1, q2]); have k9_0 : (0 : Int32).toInt = 0 := (by decide); have k9_1 : (1 : Int32).toInt = 1 := (by decide); have k9_2 : (4 : Int32).toInt = 4 := (by decide); have k9_3 : (40 : Int32).toInt = 40 := (by decide)
  have hc0 := hc
  obtain ⟨hn, hm, ht, ck, cp, ce, cw, cu, cg⟩ := hc0
  have y_not : isW (trn (fi 0) n) n m t 7237492 := by
    rcases gk_1_1 with ⟨z1, z2, z3⟩ | ⟨z1, z2⟩
    · exact ⟨ck.symm.trans z2, by rw [← cw (ck.symm.trans z2)]; exact z3⟩
    · exact absurd (z1.symm.trans tb) (by decide)
  have hla := gk_0 n m t hc
  have hno : ¬ (sK (trn (fi 0) n) n m t = 3 ∧ sG (trn (fi 0) n) n m t = 40) := fun c => by have h9 := cg c.1; omega
  exact Or.inr ⟨by decide, gfa_c (sg_four ht (Or.inr (Or.inl y_not)) (by omega)) (by omega) (by omega)⟩
set_option maxHeartbeats 4000000 in
theorem PL_X5_readOne_9_5 {fi : Nat → Nat → Int32} {fl : Nat → Nat → Int64} {vi : Nat → Int32} {vl : Nat → Int64} {r : Int32} {fj : Nat → Nat → Int32} {fm : Nat → Nat → Int64} {vj : Nat → Int32} {vm : Nat → Int64} : RL_X5_readOne_9_5 fi fl vi vl r fj fm vj vm (PS_X5_readOne_9 fi fl vi vl r fj fm vj vm) := by
  unfold RL_X5_readOne_9_5
  intro hp0 hp1 hp2 hp3 hp4 hp5 hp6 hp7 hp8 hp9 fik flk vik vlk rk gk_0 fik_1 flk_1 vik_1 vlk_1 rk_1 gk_1_1 tb gk_1_0 fik_2 flk_2 vik_2 vlk_2 rk_2 tb_1 gk_2_0 c28_1 c55_2 fik_8 flk_8 vik_8 vlk_8 rk_8 gk_8_0 gk_8_1 gk_8_2 q0 q1 q2; subst q0
  unfold PS_X5_readOne_9
  intro n m t hc σ hd
  (try simp only [q1, q2]); have k9_0 : (0 : Int32).toInt = 0 := (by decide); have k9_1 : (1 : Int32).toInt = 1 := (by decide); have k9_2 : (4 : Int32).toInt = 4 := (by decide); have k9_3 : (40 : Int32).toInt = 40 := (by decide)
  have hc0 := hc
  obtain ⟨hn, hm, ht, ck, cp, ce, cw, cu, cg⟩ := hc0
  have y_not : isW (trn (fi 0) n) n m t 7237492 := by
    rcases gk_1_1 with ⟨z1, z2, z3⟩ | ⟨z1, z2⟩
    · exact ⟨ck.symm.trans z2, by rw [← cw (ck.symm.trans z2)]; exact z3⟩
    · exact absurd (z1.symm.trans tb) (by decide)
  have hla := gk_0 n m t hc
  have hno : ¬ (sK (trn (fi 0) n) n m t = 3 ∧ sG (trn (fi 0) n) n m t = 40) := fun c => by have h9 := cg c.1; omega
  exact Or.inr ⟨by decide, gfa_c (sg_four ht (Or.inr (Or.inl y_not)) (by omega)) (by omega) (by omega)⟩
