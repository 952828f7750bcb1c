set_option maxHeartbeats 4000000 in
theorem PL_X5_readOne_9_6 {fi : Nat → Nat → Int32} {fl : Nat → Nat → Int64} {vi : Nat → Int32} {vl : Nat → Int64} {r : Int32} {fj : Nat → Nat → Int32} {fm : Nat → Nat → Int64} {vj : Nat → Int32} {vm : Nat → Int64} : RL_X5_readOne_9_6 fi fl vi vl r fj fm vj vm (PS_X5_readOne_9 fi fl vi vl r fj fm vj vm) := by
  unfold RL_X5_readOne_9_6
  intro hp0 hp1 hp2 hp3 hp4 hp5 hp6 hp7 hp8 hp9 fik flk vik vlk rk gk_0 fik_1 flk_1 vik_1 vlk_1 rk_1 gk_1_1 tb gk_1_0 fik_2 flk_2 vik_2 vlk_2 rk_2 tb_1 gk_2_0 c28_1 c55_3 fik_9 flk_9 vik_9 vlk_9 rk_9 gk_9_0 gk_9_1 gk_9_2 q0 q1 q2; subst q0
  unfold PS_X5_readOne_9
  intro n m t hc σ hd
  (try simp only [q1, q2]); have k9_0 : (0 : Int32).toInt = 0 := (by decide); have k9_1 : (1 : Int32).toInt = 1 := (by decide); have k9_2 : (4 : Int32).toInt = 4 := (by decide); have k9_3 : (40 : Int32).toInt = 40 := (by decide)
  have hc0 := hc
  obtain ⟨hn, hm, ht, ck, cp, ce, cw, cu, cg⟩ := hc0
  have y_not : isW (trn (fi 0) n) n m t 7237492 := by
    rcases gk_1_1 with ⟨z1, z2, z3⟩ | ⟨z1, z2⟩
    · exact ⟨ck.symm.trans z2, by rw [← cw (ck.symm.trans z2)]; exact z3⟩
    · exact absurd (z1.symm.trans tb) (by decide)
  have hla := gk_0 n m t hc
  have hno : ¬ (sK (trn (fi 0) n) n m t = 3 ∧ sG (trn (fi 0) n) n m t = 40) := fun c => by have h9 := cg c.1; omega
  exact Or.inr ⟨by decide, gfa_c (sg_four ht (Or.inr (Or.inl y_not)) (by omega)) (by omega) (by omega)⟩
set_option maxHeartbeats 4000000 in
theorem PL_X5_readOne_9_7 {fi : Nat → Nat → Int32} {fl : Nat → Nat → Int64} {vi : Nat → Int32} {vl : Nat → Int64} {r : Int32} {fj : Nat → Nat → Int32} {fm : Nat → Nat → Int64} {vj : Nat → Int32} {vm : Nat → Int64} : RL_X5_readOne_9_7 fi fl vi vl r fj fm vj vm (PS_X5_readOne_9 fi fl vi vl r fj fm vj vm) := by
  unfold RL_X5_readOne_9_7
  intro hp0 hp1 hp2 hp3 hp4 hp5 hp6 hp7 hp8 hp9 fik flk vik vlk rk gk_0 fik_1 flk_1 vik_1 vlk_1 rk_1 gk_1_1 tb gk_1_0 fik_2 flk_2 vik_2 vlk_2 rk_2 tb_1 gk_2_0 c28_1 c55_3 fik_10 flk_10 vik_10 vlk_10 rk_10 gk_10_0 gk_10_1 gk_10_2 q0 q1 q2; subst q0
  unfold PS_X5_readOne_9
  intro n m t hc σ hd
  (try simp only [q1, q2]); have k9_0 : (0 : Int32).toInt = 0 := (by decide); have k9_1 : (1 : Int32).toInt = 1 := (by decide); have k9_2 : (4 : Int32).toInt = 4 := (by decide); have k9_3 : (40 : Int32).toInt = 40 := (by decide)
  have hc0 := hc
  obtain ⟨hn, hm, ht, ck, cp, ce, cw, cu, cg⟩ := hc0
  have y_not : isW (trn (fi 0) n) n m t 7237492 := by
    rcases gk_1_1 with ⟨z1, z2, z3⟩ | ⟨z1, z2⟩
    · exact ⟨ck.symm.trans z2, by rw [← cw (ck.symm.trans z2)]; exact z3⟩
    · exact absurd (z1.symm.trans tb) (by decide)
  have hla := gk_0 n m t hc
  have hno : ¬ (sK (trn (fi 0) n) n m t = 3 ∧ sG (trn (fi 0) n) n m t = 40) := fun c => by have h9 := cg c.1; omega
  exact Or.inr ⟨by decide, gfa_c (sg_four ht (Or.inr (Or.inl y_not)) (by omega)) (by omega) (by omega)⟩
set_option maxHeartbeats 4000000 in
theorem PL_X5_readOne_9_8 {fi : Nat → Nat → Int32} {fl : Nat → Nat → Int64} {vi : Nat → Int32} {vl : Nat → Int64} {r : Int32} {fj : Nat → Nat → Int32} {fm : Nat → Nat → Int64} {vj : Nat → Int32} {vm : Nat → Int64} : RL_X5_readOne_9_8 fi fl vi vl r fj fm vj vm (PS_X5_readOne_9 fi fl vi vl r fj fm vj vm) := by
  unfold RL_X5_readOne_9_8
  intro hp0 hp1 hp2 hp3 hp4 hp5 hp6 hp7 hp8 hp9 fik flk vik vlk rk gk_0 fik_1 flk_1 vik_1 vlk_1 rk_1 gk_1_1 tb gk_1_0 fik_11 flk_11 vik_11 vlk_11 rk_11 tb_2 gk_11_0 c28_2 c55_4 fik_12 flk_12 vik_12 vlk_12 rk_12 gk_12_0 gk_12_1 gk_12_2 q0 q1 q2; subst q0
  unfold PS_X5_readOne_9
  intro n m t hc σ hd
  (try simp only [q1, q2]); have k9_0 : (0 : Int32).toInt = 0 := (by decide); have k9_1 : (1 : Int32).toInt = 1 := (by decide); have k9_2 : (4 : Int32).toInt = 4 := (by decide); have k9_3 : (40 : Int32).toInt = 40 := (by decide)
  have hc0 := hc
  obtain ⟨hn, hm, ht, ck, cp, ce, cw, cu, cg⟩ := hc0
  have n_not : ¬ isW (trn (fi 0) n) n m t 7237492 := by
    rcases gk_1_1 with ⟨z1, z2, z3⟩ | ⟨z1, z2⟩
    · exact absurd (z1.symm.trans tb) (by decide)
    · exact fun c => z2 ⟨ck.trans c.1, by rw [cw c.1]; exact c.2⟩
  have hla := gk_0 n m t hc
  have hop : sK (trn (fi 0) n) n m t = 3 ∧ sG (trn (fi 0) n) n m t = 40 := ⟨by omega, by have h9 := cg (by omega); omega⟩
  exact Or.inr ⟨by decide, gfa_c (sg_four ht (Or.inr (Or.inr hop)) (by omega)) (by omega) (by omega)⟩
set_option maxHeartbeats 4000000 in
theorem PL_X5_readOne_9_9 {fi : Nat → Nat → Int32} {fl : Nat → Nat → Int64} {vi : Nat → Int32} {vl : Nat → Int64} {r : Int32} {fj : Nat → Nat → Int32} {fm : Nat → Nat → Int64} {vj : Nat → Int32} {vm : Nat → Int64} : RL_X5_readOne_9_9 fi fl vi vl r fj fm vj vm (PS_X5_readOne_9 fi fl vi vl r fj fm vj vm) := by
  unfold RL_X5_readOne_9_9
  intro hp0 hp1 hp2 hp3 hp4 hp5 hp6 hp7 hp8 hp9 fik flk vik vlk rk gk_0 fik_1 flk_1 vik_1 vlk_1 rk_1 gk_1_1 tb gk_1_0 fik_11 flk_11 vik_11 vlk_11 rk_11 tb_2 gk_11_0 c28_2 c55_4 fik_13 flk_13 vik_13 vlk_13 rk_13 gk_13_0 gk_13_1 gk_13_2 q0 q1 q2; subst q0
  unfold PS_X5_readOne_9
  intro n m t hc σ hd
  (try simp only [q1, q2]); have k9_0 : (0 : Int32).toInt = 0 := (by decide); have k9_1 : (1 : Int32).toInt = 1 := (by decide); have k9_2 : (4 : Int32).toInt = 4 := (by decide); have k9_3 : (40 : Int32).toInt = 40 := (by decide)
  have hc0 := hc
  obtain ⟨hn, hm, ht, ck, cp, ce, cw, cu, cg⟩ := hc0
  have n_not : ¬ isW (trn (fi 0) n) n m t 7237492 := by
    rcases gk_1_1 with ⟨z1, z2, z3⟩ | ⟨z1, z2⟩
    · exact absurd (z1.symm.trans tb) (by decide)
    · exact fun c => z2 ⟨ck.trans c.1, by rw [cw c.1]; exact c.2⟩
  have hla := gk_0 n m t hc
  have hop : sK (trn (fi 0) n) n m t = 3 ∧ sG (trn (fi 0) n) n m t = 40 := ⟨by omega, by have h9 := cg (by omega); omega⟩
  exact Or.inr ⟨by decide, gfa_c (sg_four ht (Or.inr (Or.inr hop)) (by omega)) (by omega) (by omega)⟩
set_option maxHeartbeats 4000000 in
theorem PL_X5_readOne_9_10 {fi : Nat → Nat → Int32} {fl : Nat → Nat → Int64} {vi : Nat → Int32} {vl : Nat → Int64} {r : Int32} {fj : Nat → Nat → Int32} {fm : Nat → Nat → Int64} {vj : Nat → Int32} {vm : Nat → Int64} : RL_X5_readOne_9_10 fi fl vi vl r fj fm vj vm (PS_X5_readOne_9 fi fl vi vl r fj fm vj vm) := by
  unfold RL_X5_readOne_9_10
  intro hp0 hp1 hp2 hp3 hp4 hp5 hp6 hp7 hp8 hp9 fik flk vik vlk rk gk_0 fik_1 flk_1 vik_1 vlk_1 rk_1 gk_1_1 tb gk_1_0 fik_11 flk_11 vik_11 vlk_11 rk_11 tb_2 gk_11_0 c28_2 c55_5 fik_14 flk_14 vik_14 vlk_14 rk_14 gk_14_0 gk_14_1 gk_14_2 q0 q1 q2; subst q0
  unfold PS_X5_readOne_9
  intro n m t hc σ hd
  (try simp only [q1, q2]); have k9_0 : (0 : Int32).toInt = 0 := (by decide); have k9_1 : (1 : Int32).toInt = 1 := (by decide); have k9_2 : (4 : Int32).toInt = 4 := (by decide); have k9_3 : (40 : Int32).toInt = 40 := (by decide)
  have hc0 := hc
  obtain ⟨hn, hm, ht, ck, cp, ce, cw, cu, cg⟩ := hc0
  have n_not : ¬ isW (trn (fi 0) n) n m t 7237492 := by
    rcases gk_1_1 with ⟨z1, z2, z3⟩ | ⟨z1, z2⟩
    · exact absurd (z1.symm.trans tb) (by decide)
    · exact fun c => z2 ⟨ck.trans c.1, by rw [cw c.1]; exact c.2⟩
  have hla := gk_0 n m t hc
  have hop : sK (trn (fi 0) n) n m t = 3 ∧ sG (trn (fi 0) n) n m t = 40 := ⟨by omega, by have h9 := cg (by omega); omega⟩
  exact Or.inr ⟨by decide, gfa_c (sg_four ht (Or.inr (Or.inr hop)) (by omega)) (by omega) (by omega)⟩
set_option maxHeartbeats 4000000 in
theorem PL_X5_readOne_9_11 {fi : Nat → Nat → Int32} {fl : Nat → Nat → Int64} {vi : Nat → Int32} {vl : Nat → Int64} {r : Int32} {fj : Nat → Nat → Int32} {fm : Nat → Nat → Int64} {vj : Nat → Int32} {vm : Nat → Int64} : RL_X5_readOne_9_11 fi fl vi vl r fj fm vj vm (PS_X5_readOne_9 fi fl vi vl r fj fm vj vm) := by
  unfold RL_X5_readOne_9_11
  intro hp0 hp1 hp2 hp3 hp4 hp5 hp6 hp7 hp8 hp9 fik flk vik vlk rk gk_0 fik_1 flk_1 vik_1 vlk_1 rk_1 gk_1_1 tb gk_1_0 fik_11 flk_11 vik_11 vlk_11 rk_11 tb_2 gk_11_0 c28_2 c55_5 fik_15 flk_15 vik_15 vlk_15 rk_15 gk_15_0 gk_15_1 gk_15_2 q0 q1 q2; subst q0
  unfold PS_X5_readOne_9
  intro n m t hc σ hd
  (try simp only [q1, q2]); have k9_0 : (0 : Int32).toInt = 0 := (by decide); have k9_1 : (1 : Int32).toInt = 1 := (by decide); have k9_2 : (4 : Int32).toInt = 4 := (by decide); have k9_3 : (40 : Int32).toInt = 40 := (by decide)
  have hc0 := hc
  obtain ⟨hn, hm, ht, ck, cp, ce, cw, cu, cg⟩ := hc0
  have n_not : ¬ isW (trn (fi 0) n) n m t 7237492 := by
    rcases gk_1_1 with ⟨z1, z2, z3⟩ | ⟨z1, z2⟩
    · exact absurd (z1.symm.trans tb) (by decide)
    · exact fun c => z2 ⟨ck.trans c.1, by rw [cw c.1]; exact c.2⟩
  have hla := gk_0 n m t hc
  have hop : sK (trn (fi 0) n) n m t = 3 ∧ sG (trn (fi 0) n) n m t = 40 := ⟨by omega, by have h9 := cg (by omega); omega⟩
  exact Or.inr ⟨by decide, gfa_c (sg_four ht (Or.inr (Or.inr hop)) (by omega)) (by omega) (by omega)⟩
set_option maxHeartbeats 4000000 in
theorem PL_X5_readOne_9_12 {fi : Nat → Nat → Int32} {fl : Nat → Nat → Int64} {vi : Nat → Int32} {vl : Nat → Int64} {r : Int32} {fj : Nat → Nat → Int32} {fm : Nat → Nat → Int64} {vj : Nat → Int32} {vm : Nat → Int64} : RL_X5_readOne_9_12 fi fl vi vl r fj fm vj vm (PS_X5_readOne_9 fi fl vi vl r fj fm vj vm) := by
  unfold RL_X5_readOne_9_12
  intro hp0 hp1 hp2 hp3 hp4 hp5 hp6 hp7 hp8 hp9 fik flk vik vlk rk gk_0 fik_1 flk_1 vik_1 vlk_1 rk_1 gk_1_1 tb gk_1_0 fik_11 flk_11 vik_11 vlk_11 rk_11 tb_2 gk_11_0 c28_3 c55_6 fik_16 flk_16 vik_16 vlk_16 rk_16 gk_16_0 gk_16_1 gk_16_2 q0 q1 q2; subst q0
  unfold PS_X5_readOne_9
  intro n m t hc σ hd
  (try simp only [q1, q2]); have k9_0 : (0 : Int32).toInt = 0 := (by decide); have k9_1 : (1 : Int32).toInt = 1 := (by decide); have k9_2 : (4 : Int32).toInt = 4 := (by decide); have k9_3 : (40 : Int32).toInt = 40 := (by decide)
  have hc0 := hc
  obtain ⟨hn, hm, ht, ck, cp, ce, cw, cu, cg⟩ := hc0
  have n_not : ¬ isW (trn (fi 0) n) n m t 7237492 := by
    rcases gk_1_1 with ⟨z1, z2, z3⟩ | ⟨z1, z2⟩
    · exact absurd (z1.symm.trans tb) (by decide)
    · exact fun c => z2 ⟨ck.trans c.1, by rw [cw c.1]; exact c.2⟩
  have hla := gk_0 n m t hc
  have hno : ¬ (sK (trn (fi 0) n) n m t = 3 ∧ sG (trn (fi 0) n) n m t = 40) := fun c => by have h9 := cg c.1; omega
  exact Or.inr ⟨by decide, gfa_c (sg_four ht (Or.inl (LFR_nn hla (by omega))) (by omega)) (by omega) (by omega)⟩
set_option maxHeartbeats 4000000 in
theorem PL_X5_readOne_9_13 {fi : Nat → Nat → Int32} {fl : Nat → Nat → Int64} {vi : Nat → Int32} {vl : Nat → Int64} {r : Int32} {fj : Nat → Nat → Int32} {fm : Nat → Nat → Int64} {vj : Nat → Int32} {vm : Nat → Int64} : RL_X5_readOne_9_13 fi fl vi vl r fj fm vj vm (PS_X5_readOne_9 fi fl vi vl r fj fm vj vm) := by
  unfold RL_X5_readOne_9_13
  intro hp0 hp1 hp2 hp3 hp4 hp5 hp6 hp7 hp8 hp9 fik flk vik vlk rk gk_0 fik_1 flk_1 vik_1 vlk_1 rk_1 gk_1_1 tb gk_1_0 fik_11 flk_11 vik_11 vlk_11 rk_11 tb_2 gk_11_0 c28_3 c55_6 fik_17 flk_17 vik_17 vlk_17 rk_17 gk_17_0 gk_17_1 gk_17_2 q0 q1 q2; subst q0
  unfold PS_X5_readOne_9
  intro n m t hc σ hd
  (try simp only [q1, q2]); have k9_0 : (0 : Int32).toInt = 0 := (by decide); have k9_1 : (1 : Int32).toInt = 1 := (by decide); have k9_2 : (4 : Int32).toInt = 4 := (by decide); have k9_3 : (40 : Int32).toInt = 40 := (by decide)
  have hc0 := hc
  obtain ⟨hn, hm, ht, ck, cp, ce, cw, cu, cg⟩ := hc0
  have n_not : ¬ isW (trn (fi 0) n) n m t 7237492 := by
    rcases gk_1_1 with ⟨z1, z2, z3⟩ | ⟨z1, z2⟩
    · exact absurd (z1.symm.trans tb) (by decide)
    · exact fun c => z2 ⟨ck.trans c.1, by rw [cw c.1]; exact c.2⟩
  have hla := gk_0 n m t hc
  have hno : ¬ (sK (trn (fi 0) n) n m t = 3 ∧ sG (trn (fi 0) n) n m t = 40) := fun c => by have h9 := cg c.1; omega
  exact Or.inr ⟨by decide, gfa_c (sg_four ht (Or.inl (LFR_nn hla (by omega))) (by omega)) (by omega) (by omega)⟩
set_option maxHeartbeats 4000000 in
theorem PL_X5_readOne_9_14 {fi : Nat → Nat → Int32} {fl : Nat → Nat → Int64} {vi : Nat → Int32} {vl : Nat → Int64} {r : Int32} {fj : Nat → Nat → Int32} {fm : Nat → Nat → Int64} {vj : Nat → Int32} {vm : Nat → Int64} : RL_X5_readOne_9_14 fi fl vi vl r fj fm vj vm (PS_X5_readOne_9 fi fl vi vl r fj fm vj vm) := by
  unfold RL_X5_readOne_9_14
  intro hp0 hp1 hp2 hp3 hp4 hp5 hp6 hp7 hp8 hp9 fik flk vik vlk rk gk_0 fik_1 flk_1 vik_1 vlk_1 rk_1 gk_1_1 tb gk_1_0 fik_11 flk_11 vik_11 vlk_11 rk_11 tb_2 gk_11_0 c28_3 fik_18 flk_18 vik_18 vlk_18 rk_18 gk_18_0 gk_18_1 gk_18_2 q0 q1 q2; subst q0
  unfold PS_X5_readOne_9
  intro n m t hc σ hd
  (try simp only [q1, q2]); have k9_0 : (0 : Int32).toInt = 0 := (by decide); have k9_1 : (1 : Int32).toInt = 1 := (by decide); have k9_2 : (40 : Int32).toInt = 40 := (by decide)
  have hc0 := hc
  obtain ⟨hn, hm, ht, ck, cp, ce, cw, cu, cg⟩ := hc0
  have n_not : ¬ isW (trn (fi 0) n) n m t 7237492 := by
    rcases gk_1_1 with ⟨z1, z2, z3⟩ | ⟨z1, z2⟩
    · exact absurd (z1.symm.trans tb) (by decide)
    · exact fun c => z2 ⟨ck.trans c.1, by rw [cw c.1]; exact c.2⟩
  have hla := gk_0 n m t hc
  have hno : ¬ (sK (trn (fi 0) n) n m t = 3 ∧ sG (trn (fi 0) n) n m t = 40) := fun c => by have h9 := cg c.1; omega
  exact Or.inr ⟨by decide, gfa_c (sg_none ht (LFR_n hla (by omega)) n_not hno) (by omega) (by omega)⟩
theorem P_X5_readOne_9 {fi : Nat → Nat → Int32} {fl : Nat → Nat → Int64} {vi : Nat → Int32} {vl : Nat → Int64} {r : Int32} {fj : Nat → Nat → Int32} {fm : Nat → Nat → Int64} {vj : Nat → Int32} {vm : Nat → Int64} (h : R_X5_readOne_9 fi fl vi vl r fj fm vj vm) : ∀ n m t : Nat, CC (trn (fi 0) n) n m t (vi 3) (vi 4) (vi 6) (vi 7) (vi 5) (vl 0) (vi 8) (vi 9) → ∀ σ : List Bool, σ.length + 1 = 9 → (r.toInt = 1 ∧ ∃ t' : Nat, CC (trn (fi 0) n) n m t' (vi 3) (vi 4) (vi 6) (vi 7) (vi 5) (vl 0) (vi 8) (vi 9) ∧ gto n (SF (trn (fi 0) n) n m (ownB (fl 0)) (fl 1) (vi 13).toInt σ false (vi 1).toInt t) t (SF (trn (fi 0) n) n m (ownB (fl 0)) (fl 1) (vi 13).toInt (sps σ) true (vi 1).toInt t') t') ∨ (r.toInt = 0 ∧ gfa n (SF (trn (fi 0) n) n m (ownB (fl 0)) (fl 1) (vi 13).toInt σ false (vi 1).toInt t) t (vj 0).toInt (vj 1).toInt) := h (PS_X5_readOne_9 fi fl vi vl r fj fm vj vm) PL_X5_readOne_9_0 PL_X5_readOne_9_1 PL_X5_readOne_9_2 PL_X5_readOne_9_3 PL_X5_readOne_9_4 PL_X5_readOne_9_5 PL_X5_readOne_9_6 PL_X5_readOne_9_7 PL_X5_readOne_9_8 PL_X5_readOne_9_9 PL_X5_readOne_9_10 PL_X5_readOne_9_11 PL_X5_readOne_9_12 PL_X5_readOne_9_13 PL_X5_readOne_9_14
def RL_J1_charAt_3b067_19_0 (fi : Nat → Nat → Int32) (fl : Nat → Nat → Int64) (vi : Nat → Int32) (vl : Nat → Int64) (r : Int32) (fj : Nat → Nat → Int32) (fm : Nat → Nat → Int64) (vj : Nat → Int32) (vm : Nat → Int64) (Q9 : Prop) : Prop :=
  (0 ≤ (vi 0).toInt ∧ (vi 0).toInt ≤ 2) → ∀ (fik : Nat → Nat → Int32), ∀ (flk : Nat → Nat → Int64), ∀ (vik : Nat → Int32), ∀ (vlk : Nat → Int64), ∀ (uk : Int32), ∀ (z8 : Int32), (z8 = (sBy.getD 29 []).getD (vi 0).toNatClampNeg 0) → ∀ (z12 : Int32), (z12 = z8 &&& (255 : Int32)) → ∀ (z13 : Int32), (z13 = (z12.toUInt32 % 65536).toInt32) → (r = z13) → Q9
def R_J1_charAt_3b067_19 (fi : Nat → Nat → Int32) (fl : Nat → Nat → Int64) (vi : Nat → Int32) (vl : Nat → Int64) (r : Int32) (fj : Nat → Nat → Int32) (fm : Nat → Nat → Int64) (vj : Nat → Int32) (vm : Nat → Int64) : Prop :=
  ∀ Q9 : Prop, RL_J1_charAt_3b067_19_0 fi fl vi vl r fj fm vj vm Q9 → Q9
def PS_J1_charAt_3b067_19 (fi : Nat → Nat → Int32) (fl : Nat → Nat → Int64) (vi : Nat → Int32) (vl : Nat → Int64) (r : Int32) (fj : Nat → Nat → Int32) (fm : Nat → Nat → Int64) (vj : Nat → Int32) (vm : Nat → Int64) : Prop :=
  r = (sBy.getD 29 []).getD ((vi 0).toInt).toNat 0
set_option maxHeartbeats 4000000 in
theorem PL_J1_charAt_3b067_19_0 {fi : Nat → Nat → Int32} {fl : Nat → Nat → Int64} {vi : Nat → Int32} {vl : Nat → Int64} {r : Int32} {fj : Nat → Nat → Int32} {fm : Nat → Nat → Int64} {vj : Nat → Int32} {vm : Nat → Int64} : RL_J1_charAt_3b067_19_0 fi fl vi vl r fj fm vj vm (PS_J1_charAt_3b067_19 fi fl vi vl r fj fm vj vm) := by
  unfold RL_J1_charAt_3b067_19_0
  intro hp0 fik flk vik vlk uk z8 ez8 z12 ez12 z13 ez13 q0; subst q0
  unfold PS_J1_charAt_3b067_19
  first | exact by assumption | exact char_of (by assumption) (by assumption) (by assumption)
theorem P_J1_charAt_3b067_19 {fi : Nat → Nat → Int32} {fl : Nat → Nat → Int64} {vi : Nat → Int32} {vl : Nat → Int64} {r : Int32} {fj : Nat → Nat → Int32} {fm : Nat → Nat → Int64} {vj : Nat → Int32} {vm : Nat → Int64} (h : R_J1_charAt_3b067_19 fi fl vi vl r fj fm vj vm) : r = (sBy.getD 29 []).getD ((vi 0).toInt).toNat 0 := h (PS_J1_charAt_3b067_19 fi fl vi vl r fj fm vj vm) PL_J1_charAt_3b067_19_0
def RL_J0_charAt_5068e_19_0 (fi : Nat → Nat → Int32) (fl : Nat → Nat → Int64) (vi : Nat → Int32) (vl : Nat → Int64) (r : Int32) (fj : Nat → Nat → Int32) (fm : Nat → Nat → Int64) (vj : Nat → Int32) (vm : Nat → Int64) (Q9 : Prop) : Prop :=
  (0 ≤ (vi 0).toInt ∧ (vi 0).toInt ≤ 2) → ∀ (fik : Nat → Nat → Int32), ∀ (flk : Nat → Nat → Int64), ∀ (vik : Nat → Int32), ∀ (vlk : Nat → Int64), ∀ (rk : Int32), (rk = 1) → ∀ (fik_1 : Nat → Nat → Int32), ∀ (flk_1 : Nat → Nat → Int64), ∀ (vik_1 : Nat → Int32), ∀ (vlk_1 : Nat → Int64), ∀ (rk_1 : Int32), (rk_1 = (sBy.getD 29 []).getD ((vi 0).toInt).toNat 0) → (r = rk_1) → Q9
def R_J0_charAt_5068e_19 (fi : Nat → Nat → Int32) (fl : Nat → Nat → Int64) (vi : Nat → Int32) (vl : Nat → Int64) (r : Int32) (fj : Nat → Nat → Int32) (fm : Nat → Nat → Int64) (vj : Nat → Int32) (vm : Nat → Int64) : Prop :=
  ∀ Q9 : Prop, RL_J0_charAt_5068e_19_0 fi fl vi vl r fj fm vj vm Q9 → Q9
def PS_J0_charAt_5068e_19 (fi : Nat → Nat → Int32) (fl : Nat → Nat → Int64) (vi : Nat → Int32) (vl : Nat → Int64) (r : Int32) (fj : Nat → Nat → Int32) (fm : Nat → Nat → Int64) (vj : Nat → Int32) (vm : Nat → Int64) : Prop :=
  r = (sBy.getD 29 []).getD ((vi 0).toInt).toNat 0
set_option maxHeartbeats 4000000 in
theorem PL_J0_charAt_5068e_19_0 {fi : Nat → Nat → Int32} {fl : Nat → Nat → Int64} {vi : Nat → Int32} {vl : Nat → Int64} {r : Int32} {fj : Nat → Nat → Int32} {fm : Nat → Nat → Int64} {vj : Nat → Int32} {vm : Nat → Int64} : RL_J0_charAt_5068e_19_0 fi fl vi vl r fj fm vj vm (PS_J0_charAt_5068e_19 fi fl vi vl r fj fm vj vm) := by
  unfold RL_J0_charAt_5068e_19_0
  intro hp0 fik flk vik vlk rk gk_0 fik_1 flk_1 vik_1 vlk_1 rk_1 gk_1_1 q0; subst q0
  unfold PS_J0_charAt_5068e_19
  first | exact by assumption | exact char_of (by assumption) (by assumption) (by assumption)
theorem P_J0_charAt_5068e_19 {fi : Nat → Nat → Int32} {fl : Nat → Nat → Int64} {vi : Nat → Int32} {vl : Nat → Int64} {r : Int32} {fj : Nat → Nat → Int32} {fm : Nat → Nat → Int64} {vj : Nat → Int32} {vm : Nat → Int64} (h : R_J0_charAt_5068e_19 fi fl vi vl r fj fm vj vm) : r = (sBy.getD 29 []).getD ((vi 0).toInt).toNat 0 := h (PS_J0_charAt_5068e_19 fi fl vi vl r fj fm vj vm) PL_J0_charAt_5068e_19_0
def RL_X6_isWord_19_0 (fi : Nat → Nat → Int32) (fl : Nat → Nat → Int64) (vi : Nat → Int32) (vl : Nat → Int64) (r : Int32) (fj : Nat → Nat → Int32) (fm : Nat → Nat → Int64) (vj : Nat → Int32) (vm : Nat → Int64) (Q9 : Prop) : Prop :=
  (0 ≤ (vi 1).toInt ∧ (vi 1).toInt ≤ 940) → (0 ≤ (vi 2).toInt ∧ (vi 2).toInt ≤ 940) → (0 ≤ (vi 3).toInt ∧ (vi 3).toInt ≤ 940) → (0 ≤ (vi 5).toInt ∧ (vi 5).toInt ≤ 940) → (0 ≤ (vi 10).toInt ∧ (vi 10).toInt ≤ 940) → ∀ (w4 : Int32), ∀ (w2 : Int64), (0 ≤ w4.toInt ∧ w4.toInt ≤ 3) → (w2 = pkw (sBy.getD 29 []) (w4.toInt).toNat) → ∀ (fik : Nat → Nat → Int32), ∀ (flk : Nat → Nat → Int64), ∀ (vik : Nat → Int32), ∀ (vlk : Nat → Int64), ∀ (rk : Int32), (rk = 3) → (3 ≤ w4.toInt) → (¬ (vi 4).toInt = 1) → (r = (0 : Int32)) → Q9
def RL_X6_isWord_19_1 (fi : Nat → Nat → Int32) (fl : Nat → Nat → Int64) (vi : Nat → Int32) (vl : Nat → Int64) (r : Int32) (fj : Nat → Nat → Int32) (fm : Nat → Nat → Int64) (vj : Nat → Int32) (vm : Nat → Int64) (Q9 : Prop) : Prop :=
  (0 ≤ (vi 1).toInt ∧ (vi 1).toInt ≤ 940) → (0 ≤ (vi 2).toInt ∧ (vi 2).toInt ≤ 940) → (0 ≤ (vi 3).toInt ∧ (vi 3).toInt ≤ 940) → (0 ≤ (vi 5).toInt ∧ (vi 5).toInt ≤ 940) → (0 ≤ (vi 10).toInt ∧ (vi 10).toInt ≤ 940) → ∀ (w4 : Int32), ∀ (w2 : Int64), (0 ≤ w4.toInt ∧ w4.toInt ≤ 3) → (w2 = pkw (sBy.getD 29 []) (w4.toInt).toNat) → ∀ (fik : Nat → Nat → Int32), ∀ (flk : Nat → Nat → Int64), ∀ (vik : Nat → Int32), ∀ (vlk : Nat → Int64), ∀ (rk : Int32), (rk = 3) → (3 ≤ w4.toInt) → ((vi 4).toInt = 1) → ∀ (z46 : Int32), (z46 = lg_cmp w2 (vl 0)) → (¬ z46.toInt = 0) → (r = (0 : Int32)) → Q9
