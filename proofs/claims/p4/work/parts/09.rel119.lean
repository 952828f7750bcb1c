set_option maxHeartbeats 4000000 in
theorem PL_X5_readOne_2_20 {fi : Nat → Nat → Int32} {fl : Nat → Nat → Int64} {vi : Nat → Int32} {vl : Nat → Int64} {r : Int32} {fj : Nat → Nat → Int32} {fm : Nat → Nat → Int64} {vj : Nat → Int32} {vm : Nat → Int64} : RL_X5_readOne_2_20 fi fl vi vl r fj fm vj vm (PS_X5_readOne_2 fi fl vi vl r fj fm vj vm) := by
  unfold RL_X5_readOne_2_20
  intro hp0 hp1 hp2 hp3 hp4 hp5 hp6 hp7 hp8 hp9 fik flk vik vlk rk gk_0 fik_1 flk_1 vik_1 vlk_1 rk_1 gk_1_1 tb gk_1_0 fik_19 flk_19 vik_19 vlk_19 rk_19 tb_10 gk_19_0 c28_2 c55_5 fik_24 flk_24 vik_24 vlk_24 rk_24 gk_24_0 gk_24_1 gk_24_2 q0 q1 q2 q3 q4 q5 q6 q7 q8 q9 q10 q11 q12 q13 q14; subst q0
  unfold PS_X5_readOne_2
  intro n m t hc σ hd
  (try simp only [q1, q2, q3, q4, q5, q6, q7, q8, q9, q10, q11, q12, q13, q14]); have k9_0 : (0 : Int32).toInt = 0 := (by decide); have k9_1 : (1 : Int32).toInt = 1 := (by decide); have k9_2 : (4 : Int32).toInt = 4 := (by decide); have k9_3 : (40 : Int32).toInt = 40 := (by decide)
  have hc0 := hc
  obtain ⟨hn, hm, ht, ck, cp, ce, cw, cu, cg⟩ := hc0
  have n_not : ¬ isW (trn (fi 0) n) n m t 7237492 := by
    rcases gk_1_1 with ⟨z1, z2, z3⟩ | ⟨z1, z2⟩
    · exact absurd (z1.symm.trans tb) (by decide)
    · exact fun c => z2 ⟨ck.trans c.1, by rw [cw c.1]; exact c.2⟩
  have hla := gk_0 n m t hc
  have hop : sK (trn (fi 0) n) n m t = 3 ∧ sG (trn (fi 0) n) n m t = 40 := ⟨by omega, by have h9 := cg (by omega); omega⟩
  exact Or.inr ⟨by decide, gfa_c (sg_four ht (Or.inr (Or.inr hop)) (by omega)) (by omega) (by omega)⟩
set_option maxHeartbeats 4000000 in
theorem PL_X5_readOne_2_21 {fi : Nat → Nat → Int32} {fl : Nat → Nat → Int64} {vi : Nat → Int32} {vl : Nat → Int64} {r : Int32} {fj : Nat → Nat → Int32} {fm : Nat → Nat → Int64} {vj : Nat → Int32} {vm : Nat → Int64} : RL_X5_readOne_2_21 fi fl vi vl r fj fm vj vm (PS_X5_readOne_2 fi fl vi vl r fj fm vj vm) := by
  unfold RL_X5_readOne_2_21
  intro hp0 hp1 hp2 hp3 hp4 hp5 hp6 hp7 hp8 hp9 fik flk vik vlk rk gk_0 fik_1 flk_1 vik_1 vlk_1 rk_1 gk_1_1 tb gk_1_0 fik_19 flk_19 vik_19 vlk_19 rk_19 tb_10 gk_19_0 c28_2 c55_5 z79_5 ez79_5 tz79_5 fik_25 flk_25 vik_25 vlk_25 uk_25 gk_25_0 gk_25_1 gk_25_2 fik_26 flk_26 vik_26 vlk_26 rk_26 gk_26_1 gk_26_2 gk_26_3 gk_26_4 gk_26_5 gk_26_6 gk_26_7 gk_26_8 tb_13 gk_26_0 fik_27 flk_27 vik_27 vlk_27 rk_27 gk_27_1 gk_27_2 gk_27_3 gk_27_4 gk_27_5 tb_14 gk_27_0 q0 q1 q2 q3 q4 q5 q6 q7 q8 q9 q10 q11 q12 q13 q14; subst q0
  unfold PS_X5_readOne_2
  intro n m t hc σ hd
  (try simp only [q1, q2, q3, q4, q5, q6, q7, q8, q9, q10, q11, q12, q13, q14]); have k9_0 : (0 : Int32).toInt = 0 := (by decide); have k9_1 : (1 : Int32).toInt = 1 := (by decide); have k9_2 : (40 : Int32).toInt = 40 := (by decide)
  have hc0 := hc
  obtain ⟨hn, hm, ht, ck, cp, ce, cw, cu, cg⟩ := hc0
  have n_not : ¬ isW (trn (fi 0) n) n m t 7237492 := by
    rcases gk_1_1 with ⟨z1, z2, z3⟩ | ⟨z1, z2⟩
    · exact absurd (z1.symm.trans tb) (by decide)
    · exact fun c => z2 ⟨ck.trans c.1, by rw [cw c.1]; exact c.2⟩
  have hla := gk_0 n m t hc
  have hop : sK (trn (fi 0) n) n m t = 3 ∧ sG (trn (fi 0) n) n m t = 40 := ⟨by omega, by have h9 := cg (by omega); omega⟩
  have hc1 := CC_nx hc gk_25_2
  rcases gk_26_8 n m _ hc1 (true :: σ) (show σ.length + 1 + 1 = 3 by omega) rfl with ⟨b1, t9, b2, b3, b4, b5⟩ | ⟨b1, b2⟩
  · have ht9 := b2.2.2.1
    rcases gk_27_5 n m _ b2 with ⟨c1, c2, c3, c4⟩ | ⟨c1, c2, c3, c4⟩
    · exact Or.inl ⟨by decide, _, c4, gto_tr (sg_open ht hop (by omega) (by omega) (by omega)) (gto_tr b5 (sg_close ht9 ⟨c2, c3⟩))⟩
    · exact absurd (c1.symm.trans tb_14) (by decide)
  · exact absurd (b1.symm.trans tb_13) (by decide)
set_option maxHeartbeats 4000000 in
theorem PL_X5_readOne_2_22 {fi : Nat → Nat → Int32} {fl : Nat → Nat → Int64} {vi : Nat → Int32} {vl : Nat → Int64} {r : Int32} {fj : Nat → Nat → Int32} {fm : Nat → Nat → Int64} {vj : Nat → Int32} {vm : Nat → Int64} : RL_X5_readOne_2_22 fi fl vi vl r fj fm vj vm (PS_X5_readOne_2 fi fl vi vl r fj fm vj vm) := by
  unfold RL_X5_readOne_2_22
  intro hp0 hp1 hp2 hp3 hp4 hp5 hp6 hp7 hp8 hp9 fik flk vik vlk rk gk_0 fik_1 flk_1 vik_1 vlk_1 rk_1 gk_1_1 tb gk_1_0 fik_19 flk_19 vik_19 vlk_19 rk_19 tb_10 gk_19_0 c28_2 c55_5 z79_5 ez79_5 tz79_5 fik_25 flk_25 vik_25 vlk_25 uk_25 gk_25_0 gk_25_1 gk_25_2 fik_26 flk_26 vik_26 vlk_26 rk_26 gk_26_1 gk_26_2 gk_26_3 gk_26_4 gk_26_5 gk_26_6 gk_26_7 gk_26_8 tb_13 gk_26_0 fik_27 flk_27 vik_27 vlk_27 rk_27 gk_27_1 gk_27_2 gk_27_3 gk_27_4 gk_27_5 tb_14 gk_27_0 q0 q1 q2 q3 q4 q5 q6 q7 q8 q9 q10 q11 q12 q13 q14; subst q0
  unfold PS_X5_readOne_2
  intro n m t hc σ hd
  (try simp only [q1, q2, q3, q4, q5, q6, q7, q8, q9, q10, q11, q12, q13, q14]); have k9_0 : (0 : Int32).toInt = 0 := (by decide); have k9_1 : (1 : Int32).toInt = 1 := (by decide); have k9_2 : (40 : Int32).toInt = 40 := (by decide)
  have hc0 := hc
  obtain ⟨hn, hm, ht, ck, cp, ce, cw, cu, cg⟩ := hc0
  have n_not : ¬ isW (trn (fi 0) n) n m t 7237492 := by
    rcases gk_1_1 with ⟨z1, z2, z3⟩ | ⟨z1, z2⟩
    · exact absurd (z1.symm.trans tb) (by decide)
    · exact fun c => z2 ⟨ck.trans c.1, by rw [cw c.1]; exact c.2⟩
  have hla := gk_0 n m t hc
  have hop : sK (trn (fi 0) n) n m t = 3 ∧ sG (trn (fi 0) n) n m t = 40 := ⟨by omega, by have h9 := cg (by omega); omega⟩
  have hc1 := CC_nx hc gk_25_2
  rcases gk_26_8 n m _ hc1 (true :: σ) (show σ.length + 1 + 1 = 3 by omega) rfl with ⟨b1, t9, b2, b3, b4, b5⟩ | ⟨b1, b2⟩
  · have ht9 := b2.2.2.1
    rcases gk_27_5 n m _ b2 with ⟨c1, c2, c3, c4⟩ | ⟨c1, c2, c3, c4⟩
    · exact absurd (c1.symm.trans tb_14) (by decide)
    · exact Or.inr ⟨by decide, gto_fa (gto_tr (sg_open ht hop (by omega) (by omega) (by omega)) b5) (gfa_c (sg_cant ht9 b3 b4 ((Classical.em (sK (trn (fi 0) n) n m t9 = 0)).elim (fun e9 => Or.inl ⟨e9, by simp⟩) (fun e9 => Or.inr ⟨e9, Or.inl c2⟩))) c3 c4)⟩
  · exact absurd (b1.symm.trans tb_13) (by decide)
set_option maxHeartbeats 4000000 in
theorem PL_X5_readOne_2_23 {fi : Nat → Nat → Int32} {fl : Nat → Nat → Int64} {vi : Nat → Int32} {vl : Nat → Int64} {r : Int32} {fj : Nat → Nat → Int32} {fm : Nat → Nat → Int64} {vj : Nat → Int32} {vm : Nat → Int64} : RL_X5_readOne_2_23 fi fl vi vl r fj fm vj vm (PS_X5_readOne_2 fi fl vi vl r fj fm vj vm) := by
  unfold RL_X5_readOne_2_23
  intro hp0 hp1 hp2 hp3 hp4 hp5 hp6 hp7 hp8 hp9 fik flk vik vlk rk gk_0 fik_1 flk_1 vik_1 vlk_1 rk_1 gk_1_1 tb gk_1_0 fik_19 flk_19 vik_19 vlk_19 rk_19 tb_10 gk_19_0 c28_2 c55_5 z79_5 ez79_5 tz79_5 fik_25 flk_25 vik_25 vlk_25 uk_25 gk_25_0 gk_25_1 gk_25_2 fik_26 flk_26 vik_26 vlk_26 rk_26 gk_26_1 gk_26_2 gk_26_3 gk_26_4 gk_26_5 gk_26_6 gk_26_7 gk_26_8 tb_13 gk_26_0 q0 q1 q2 q3 q4 q5 q6 q7 q8 q9 q10 q11 q12 q13 q14; subst q0
  unfold PS_X5_readOne_2
  intro n m t hc σ hd
  (try simp only [q1, q2, q3, q4, q5, q6, q7, q8, q9, q10, q11, q12, q13, q14]); have k9_0 : (0 : Int32).toInt = 0 := (by decide); have k9_1 : (1 : Int32).toInt = 1 := (by decide); have k9_2 : (40 : Int32).toInt = 40 := (by decide)
  have hc0 := hc
  obtain ⟨hn, hm, ht, ck, cp, ce, cw, cu, cg⟩ := hc0
  have n_not : ¬ isW (trn (fi 0) n) n m t 7237492 := by
    rcases gk_1_1 with ⟨z1, z2, z3⟩ | ⟨z1, z2⟩
    · exact absurd (z1.symm.trans tb) (by decide)
    · exact fun c => z2 ⟨ck.trans c.1, by rw [cw c.1]; exact c.2⟩
  have hla := gk_0 n m t hc
  have hop : sK (trn (fi 0) n) n m t = 3 ∧ sG (trn (fi 0) n) n m t = 40 := ⟨by omega, by have h9 := cg (by omega); omega⟩
  have hc1 := CC_nx hc gk_25_2
  rcases gk_26_8 n m _ hc1 (true :: σ) (show σ.length + 1 + 1 = 3 by omega) rfl with ⟨b1, t9, b2, b3, b4, b5⟩ | ⟨b1, b2⟩
  · exact absurd (b1.symm.trans tb_13) (by decide)
  · exact Or.inr ⟨by decide, gto_fa (sg_open ht hop (by omega) (by omega) (by omega)) b2⟩
set_option maxHeartbeats 4000000 in
theorem PL_X5_readOne_2_24 {fi : Nat → Nat → Int32} {fl : Nat → Nat → Int64} {vi : Nat → Int32} {vl : Nat → Int64} {r : Int32} {fj : Nat → Nat → Int32} {fm : Nat → Nat → Int64} {vj : Nat → Int32} {vm : Nat → Int64} : RL_X5_readOne_2_24 fi fl vi vl r fj fm vj vm (PS_X5_readOne_2 fi fl vi vl r fj fm vj vm) := by
  unfold RL_X5_readOne_2_24
  intro hp0 hp1 hp2 hp3 hp4 hp5 hp6 hp7 hp8 hp9 fik flk vik vlk rk gk_0 fik_1 flk_1 vik_1 vlk_1 rk_1 gk_1_1 tb gk_1_0 fik_19 flk_19 vik_19 vlk_19 rk_19 tb_10 gk_19_0 c28_3 c55_6 fik_28 flk_28 vik_28 vlk_28 rk_28 gk_28_0 gk_28_1 gk_28_2 q0 q1 q2 q3 q4 q5 q6 q7 q8 q9 q10 q11 q12 q13 q14; subst q0
  unfold PS_X5_readOne_2
  intro n m t hc σ hd
  (try simp only [q1, q2, q3, q4, q5, q6, q7, q8, q9, q10, q11, q12, q13, q14]); have k9_0 : (0 : Int32).toInt = 0 := (by decide); have k9_1 : (1 : Int32).toInt = 1 := (by decide); have k9_2 : (4 : Int32).toInt = 4 := (by decide); have k9_3 : (40 : Int32).toInt = 40 := (by decide)
  have hc0 := hc
  obtain ⟨hn, hm, ht, ck, cp, ce, cw, cu, cg⟩ := hc0
  have n_not : ¬ isW (trn (fi 0) n) n m t 7237492 := by
    rcases gk_1_1 with ⟨z1, z2, z3⟩ | ⟨z1, z2⟩
    · exact absurd (z1.symm.trans tb) (by decide)
    · exact fun c => z2 ⟨ck.trans c.1, by rw [cw c.1]; exact c.2⟩
  have hla := gk_0 n m t hc
  have hno : ¬ (sK (trn (fi 0) n) n m t = 3 ∧ sG (trn (fi 0) n) n m t = 40) := fun c => by have h9 := cg c.1; omega
  exact Or.inr ⟨by decide, gfa_c (sg_four ht (Or.inl (LFR_nn hla (by omega))) (by omega)) (by omega) (by omega)⟩
set_option maxHeartbeats 4000000 in
theorem PL_X5_readOne_2_25 {fi : Nat → Nat → Int32} {fl : Nat → Nat → Int64} {vi : Nat → Int32} {vl : Nat → Int64} {r : Int32} {fj : Nat → Nat → Int32} {fm : Nat → Nat → Int64} {vj : Nat → Int32} {vm : Nat → Int64} : RL_X5_readOne_2_25 fi fl vi vl r fj fm vj vm (PS_X5_readOne_2 fi fl vi vl r fj fm vj vm) := by
  unfold RL_X5_readOne_2_25
  intro hp0 hp1 hp2 hp3 hp4 hp5 hp6 hp7 hp8 hp9 fik flk vik vlk rk gk_0 fik_1 flk_1 vik_1 vlk_1 rk_1 gk_1_1 tb gk_1_0 fik_19 flk_19 vik_19 vlk_19 rk_19 tb_10 gk_19_0 c28_3 c55_6 z79_6 ez79_6 tz79_6 fik_29 flk_29 vik_29 vlk_29 uk_29 gk_29_0 gk_29_1 gk_29_2 fik_30 flk_30 vik_30 vlk_30 rk_30 gk_30_1 gk_30_2 gk_30_3 gk_30_4 gk_30_5 gk_30_6 gk_30_7 tb_15 gk_30_0 q0 q1 q2 q3 q4 q5 q6 q7 q8 q9 q10 q11 q12 q13 q14; subst q0
  unfold PS_X5_readOne_2
  intro n m t hc σ hd
  (try simp only [q1, q2, q3, q4, q5, q6, q7, q8, q9, q10, q11, q12, q13, q14]); have k9_0 : (0 : Int32).toInt = 0 := (by decide); have k9_1 : (1 : Int32).toInt = 1 := (by decide); have k9_2 : (40 : Int32).toInt = 40 := (by decide)
  have hc0 := hc
  obtain ⟨hn, hm, ht, ck, cp, ce, cw, cu, cg⟩ := hc0
  have n_not : ¬ isW (trn (fi 0) n) n m t 7237492 := by
    rcases gk_1_1 with ⟨z1, z2, z3⟩ | ⟨z1, z2⟩
    · exact absurd (z1.symm.trans tb) (by decide)
    · exact fun c => z2 ⟨ck.trans c.1, by rw [cw c.1]; exact c.2⟩
  have hla := gk_0 n m t hc
  have hno : ¬ (sK (trn (fi 0) n) n m t = 3 ∧ sG (trn (fi 0) n) n m t = 40) := fun c => by have h9 := cg c.1; omega
  have hc1 := CC_nx hc gk_29_2
  have hne := LFR_nn hla (by omega)
  rcases gk_30_7 n m _ hc1 _ hla (by omega) with ⟨b1, t9, b2, b3⟩ | ⟨b1, b2⟩
  · exact Or.inl ⟨by decide, t9, b3, sg_leaf ht hne (by omega) (by omega) b2 (by omega)⟩
  · exact absurd (b1.symm.trans tb_15) (by decide)
set_option maxHeartbeats 4000000 in
theorem PL_X5_readOne_2_26 {fi : Nat → Nat → Int32} {fl : Nat → Nat → Int64} {vi : Nat → Int32} {vl : Nat → Int64} {r : Int32} {fj : Nat → Nat → Int32} {fm : Nat → Nat → Int64} {vj : Nat → Int32} {vm : Nat → Int64} : RL_X5_readOne_2_26 fi fl vi vl r fj fm vj vm (PS_X5_readOne_2 fi fl vi vl r fj fm vj vm) := by
  unfold RL_X5_readOne_2_26
  intro hp0 hp1 hp2 hp3 hp4 hp5 hp6 hp7 hp8 hp9 fik flk vik vlk rk gk_0 fik_1 flk_1 vik_1 vlk_1 rk_1 gk_1_1 tb gk_1_0 fik_19 flk_19 vik_19 vlk_19 rk_19 tb_10 gk_19_0 c28_3 c55_6 z79_6 ez79_6 tz79_6 fik_29 flk_29 vik_29 vlk_29 uk_29 gk_29_0 gk_29_1 gk_29_2 fik_30 flk_30 vik_30 vlk_30 rk_30 gk_30_1 gk_30_2 gk_30_3 gk_30_4 gk_30_5 gk_30_6 gk_30_7 tb_15 gk_30_0 q0 q1 q2 q3 q4 q5 q6 q7 q8 q9 q10 q11 q12 q13 q14; subst q0
  unfold PS_X5_readOne_2
  intro n m t hc σ hd
  (try simp only [q1, q2, q3, q4, q5, q6, q7, q8, q9, q10, q11, q12, q13, q14]); have k9_0 : (0 : Int32).toInt = 0 := (by decide); have k9_1 : (1 : Int32).toInt = 1 := (by decide); have k9_2 : (40 : Int32).toInt = 40 := (by decide)
  have hc0 := hc
  obtain ⟨hn, hm, ht, ck, cp, ce, cw, cu, cg⟩ := hc0
  have n_not : ¬ isW (trn (fi 0) n) n m t 7237492 := by
    rcases gk_1_1 with ⟨z1, z2, z3⟩ | ⟨z1, z2⟩
    · exact absurd (z1.symm.trans tb) (by decide)
    · exact fun c => z2 ⟨ck.trans c.1, by rw [cw c.1]; exact c.2⟩
  have hla := gk_0 n m t hc
  have hno : ¬ (sK (trn (fi 0) n) n m t = 3 ∧ sG (trn (fi 0) n) n m t = 40) := fun c => by have h9 := cg c.1; omega
  have hc1 := CC_nx hc gk_29_2
  have hne := LFR_nn hla (by omega)
  rcases gk_30_7 n m _ hc1 _ hla (by omega) with ⟨b1, t9, b2, b3⟩ | ⟨b1, b2⟩
  · exact absurd (b1.symm.trans tb_15) (by decide)
  · exact Or.inr ⟨by decide, sg_leafb ht hne (by omega) (by omega) b2⟩
set_option maxHeartbeats 4000000 in
theorem PL_X5_readOne_2_27 {fi : Nat → Nat → Int32} {fl : Nat → Nat → Int64} {vi : Nat → Int32} {vl : Nat → Int64} {r : Int32} {fj : Nat → Nat → Int32} {fm : Nat → Nat → Int64} {vj : Nat → Int32} {vm : Nat → Int64} : RL_X5_readOne_2_27 fi fl vi vl r fj fm vj vm (PS_X5_readOne_2 fi fl vi vl r fj fm vj vm) := by
  unfold RL_X5_readOne_2_27
  intro hp0 hp1 hp2 hp3 hp4 hp5 hp6 hp7 hp8 hp9 fik flk vik vlk rk gk_0 fik_1 flk_1 vik_1 vlk_1 rk_1 gk_1_1 tb gk_1_0 fik_19 flk_19 vik_19 vlk_19 rk_19 tb_10 gk_19_0 c28_3 fik_31 flk_31 vik_31 vlk_31 rk_31 gk_31_0 gk_31_1 gk_31_2 q0 q1 q2 q3 q4 q5 q6 q7 q8 q9 q10 q11 q12 q13 q14; subst q0
  unfold PS_X5_readOne_2
  intro n m t hc σ hd
  (try simp only [q1, q2, q3, q4, q5, q6, q7, q8, q9, q10, q11, q12, q13, q14]); have k9_0 : (0 : Int32).toInt = 0 := (by decide); have k9_1 : (1 : Int32).toInt = 1 := (by decide); have k9_2 : (40 : Int32).toInt = 40 := (by decide)
  have hc0 := hc
  obtain ⟨hn, hm, ht, ck, cp, ce, cw, cu, cg⟩ := hc0
  have n_not : ¬ isW (trn (fi 0) n) n m t 7237492 := by
    rcases gk_1_1 with ⟨z1, z2, z3⟩ | ⟨z1, z2⟩
    · exact absurd (z1.symm.trans tb) (by decide)
    · exact fun c => z2 ⟨ck.trans c.1, by rw [cw c.1]; exact c.2⟩
  have hla := gk_0 n m t hc
  have hno : ¬ (sK (trn (fi 0) n) n m t = 3 ∧ sG (trn (fi 0) n) n m t = 40) := fun c => by have h9 := cg c.1; omega
  exact Or.inr ⟨by decide, gfa_c (sg_none ht (LFR_n hla (by omega)) n_not hno) (by omega) (by omega)⟩
theorem P_X5_readOne_2 {fi : Nat → Nat → Int32} {fl : Nat → Nat → Int64} {vi : Nat → Int32} {vl : Nat → Int64} {r : Int32} {fj : Nat → Nat → Int32} {fm : Nat → Nat → Int64} {vj : Nat → Int32} {vm : Nat → Int64} (h : R_X5_readOne_2 fi fl vi vl r fj fm vj vm) : ∀ n m t : Nat, CC (trn (fi 0) n) n m t (vi 3) (vi 4) (vi 6) (vi 7) (vi 5) (vl 0) (vi 8) (vi 9) → ∀ σ : List Bool, σ.length + 1 = 2 → (r.toInt = 1 ∧ ∃ t' : Nat, CC (trn (fi 0) n) n m t' (vi 3) (vi 4) (vj 3) (vj 4) (vj 7) (vm 0) (vj 6) (vj 5) ∧ gto n (SF (trn (fi 0) n) n m (ownB (fl 0)) (fl 1) (vi 13).toInt σ false (vi 1).toInt t) t (SF (trn (fi 0) n) n m (ownB (fl 0)) (fl 1) (vi 13).toInt (sps σ) true (vj 2).toInt t') t') ∨ (r.toInt = 0 ∧ gfa n (SF (trn (fi 0) n) n m (ownB (fl 0)) (fl 1) (vi 13).toInt σ false (vi 1).toInt t) t (vj 0).toInt (vj 1).toInt) := h (PS_X5_readOne_2 fi fl vi vl r fj fm vj vm) PL_X5_readOne_2_0 PL_X5_readOne_2_1 PL_X5_readOne_2_2 PL_X5_readOne_2_3 PL_X5_readOne_2_4 PL_X5_readOne_2_5 PL_X5_readOne_2_6 PL_X5_readOne_2_7 PL_X5_readOne_2_8 PL_X5_readOne_2_9 PL_X5_readOne_2_10 PL_X5_readOne_2_11 PL_X5_readOne_2_12 PL_X5_readOne_2_13 PL_X5_readOne_2_14 PL_X5_readOne_2_15 PL_X5_readOne_2_16 PL_X5_readOne_2_17 PL_X5_readOne_2_18 PL_X5_readOne_2_19 PL_X5_readOne_2_20 PL_X5_readOne_2_21 PL_X5_readOne_2_22 PL_X5_readOne_2_23 PL_X5_readOne_2_24 PL_X5_readOne_2_25 PL_X5_readOne_2_26 PL_X5_readOne_2_27
def RL_X5_readAll_9_0 (fi : Nat → Nat → Int32) (fl : Nat → Nat → Int64) (vi : Nat → Int32) (vl : Nat → Int64) (r : Int32) (fj : Nat → Nat → Int32) (fm : Nat → Nat → Int64) (vj : Nat → Int32) (vm : Nat → Int64) (Q9 : Prop) : Prop :=
  (0 ≤ (vi 0).toInt ∧ (vi 0).toInt ≤ 40) → (0 ≤ (vi 1).toInt ∧ (vi 1).toInt ≤ 20) → (0 ≤ (vi 3).toInt ∧ (vi 3).toInt ≤ 940) → (0 ≤ (vi 4).toInt ∧ (vi 4).toInt ≤ 940) → (0 ≤ (vi 5).toInt ∧ (vi 5).toInt ≤ 940) → (0 ≤ (vi 7).toInt ∧ (vi 7).toInt ≤ 940) → (0 ≤ (vi 12).toInt ∧ (vi 12).toInt ≤ 940) → (0 ≤ (vi 13).toInt ∧ (vi 13).toInt ≤ 9) → (0 ≤ (vi 14).toInt ∧ (vi 14).toInt ≤ 9) → ((vi 0).toInt ≤ 2 * (vi 1).toInt) → ∀ (fik : Nat → Nat → Int32), ∀ (flk : Nat → Nat → Int64), ∀ (vik : Nat → Int32), ∀ (vlk : Nat → Int64), ∀ (rk : Int32), (0 ≤ (vik 8).toInt ∧ (vik 8).toInt ≤ 40) → (0 ≤ (vik 2).toInt ∧ (vik 2).toInt ≤ 20) → (0 ≤ (vik 7).toInt ∧ (vik 7).toInt ≤ 940) → (0 ≤ (vik 4).toInt ∧ (vik 4).toInt ≤ 940) → (0 ≤ (vik 1).toInt ∧ (vik 1).toInt ≤ 940) → (rk.toInt = 1 → (vi 1).toInt + 1 ≤ (vik 2).toInt ∧ (vik 8).toInt ≤ (vi 0).toInt + 2 * ((vik 2).toInt - (vi 1).toInt) - 1) → (rk.toInt = 1 → (vik 0).toInt = (vi 11).toInt) → (∀ n m t : Nat, CC (trn (fi 0) n) n m t (vi 3) (vi 4) (vi 6) (vi 7) (vi 5) (vl 0) (vi 8) (vi 9) → ∀ σ : List Bool, σ.length + 1 = 2 → (rk.toInt = 1 ∧ ∃ t' : Nat, CC (trn (fi 0) n) n m t' (vi 3) (vi 4) (vik 3) (vik 4) (vik 7) (vlk 0) (vik 6) (vik 5) ∧ gto n (SF (trn (fi 0) n) n m (ownB (fl 0)) (fl 1) (vi 13).toInt σ false (vi 1).toInt t) t (SF (trn (fi 0) n) n m (ownB (fl 0)) (fl 1) (vi 13).toInt (sps σ) true (vik 2).toInt t') t') ∨ (rk.toInt = 0 ∧ gfa n (SF (trn (fi 0) n) n m (ownB (fl 0)) (fl 1) (vi 13).toInt σ false (vi 1).toInt t) t (vik 0).toInt (vik 1).toInt)) → (rk.toInt = 1) → (True) → ∀ (w3 : Int32), ∀ (w2 : Int32), ∀ (wv : Int32), ∀ (wv_1 : Int32), ∀ (wv_2 : Int32), ∀ (wv_3 : Int32), ∀ (wv_4 : Int32), ∀ (wv_5 : Int32), ∀ (wv_6 : Int64), ∀ (wv_7 : Int32), ∀ (wv_8 : Int32), ∀ (wf : Nat → Int32), ∀ (wf_1 : Nat → Int32), ∀ (wf_2 : Nat → Int32), ∀ (wv_9 : Int32), ∀ (wv_10 : Int32), (0 ≤ w3.toInt ∧ w3.toInt ≤ 20) → (0 ≤ w2.toInt ∧ w2.toInt ≤ 1) → (0 ≤ wv_1.toInt ∧ wv_1.toInt ≤ 940) → (0 ≤ wv_2.toInt ∧ wv_2.toInt ≤ 20) → (0 ≤ wv_4.toInt ∧ wv_4.toInt ≤ 940) → (0 ≤ wv_8.toInt ∧ wv_8.toInt ≤ 940) → (0 ≤ wv_9.toInt ∧ wv_9.toInt ≤ 40) → (∀ n m t : Nat, CC (trn (fi 0) n) n m t (vi 3) (vi 4) (vi 6) (vi 7) (vi 5) (vl 0) (vi 8) (vi 9) → ∀ σ : List Bool, σ.length + 1 = 2 → sps σ = σ → DJ (w2.toInt = 1 ∧ ∃ t' : Nat, CC (trn (fi 0) n) n m t' (vi 3) (vi 4) wv_3 wv_4 wv_8 wv_6 wv_7 wv_5 ∧ gto n (SF (trn (fi 0) n) n m (ownB (fl 0)) (fl 1) (vi 13).toInt σ false (vi 1).toInt t) t (SF (trn (fi 0) n) n m (ownB (fl 0)) (fl 1) (vi 13).toInt σ true (wv_2).toInt t') t') (w2.toInt = 0 ∧ gfa n (SF (trn (fi 0) n) n m (ownB (fl 0)) (fl 1) (vi 13).toInt σ false (vi 1).toInt t) t (wv).toInt (wv_1).toInt)) → (w2.toInt = 1 → (vi 1).toInt + 1 + w3.toInt ≤ (wv_2).toInt ∧ (wv_9).toInt ≤ (vi 0).toInt + 2 * ((wv_2).toInt - (vi 1).toInt) - 1) → (w2.toInt = 1 → (wv).toInt = (vi 11).toInt) → (w2.toInt = 0) → (20 ≤ w3.toInt) → (r = (0 : Int32)) → (fj 0 = wf) → (fj 1 = wf_1) → (fj 2 = wf_2) → (vj 0 = wv) → (vj 1 = wv_1) → (vj 2 = wv_2) → (vj 3 = wv_3) → (vj 4 = wv_4) → (vj 5 = wv_5) → (vj 6 = wv_7) → (vj 7 = wv_8) → (vj 8 = wv_9) → (vj 9 = wv_10) → (vm 0 = wv_6) → Q9
