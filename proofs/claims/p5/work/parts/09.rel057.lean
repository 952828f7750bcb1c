set_option maxHeartbeats 4000000 in
theorem PL_X5_readOneG2_12 {dd de : Nat} (hde : de = dd + 1) (hle : dd ≤ 8) {fi : Nat → Nat → Int32} {fl : Nat → Nat → Int64} {vi : Nat → Int32} {vl : Nat → Int64} {r : Int32} {fj : Nat → Nat → Int32} {fm : Nat → Nat → Int64} {vj : Nat → Int32} {vm : Nat → Int64} : RL_X5_readOneG2_12 dd de fi fl vi vl r fj fm vj vm (PS_X5_readOneG2 dd de fi fl vi vl r fj fm vj vm) := by
  unfold RL_X5_readOneG2_12
  intro hp0 hp1 hp2 hp3 hp4 hp5 hp6 hp7 hp8 hp9 fik flk vik vlk rk gk_0 fik_1 flk_1 vik_1 vlk_1 rk_1 gk_1_1 tb gk_1_0 fik_2 flk_2 vik_2 vlk_2 rk_2 tb_1 gk_2_0 c28_1 c55_3 fik_15 flk_15 vik_15 vlk_15 rk_15 gk_15_0 gk_15_1 gk_15_2 q0 q1 q2 q3 q4 q5 q6 q7 q8 q9 q10 q11 q12 q13 q14; subst q0
  unfold PS_X5_readOneG2
  intro n m t hc σ hd
  (try simp only [q1, q2, q3, q4, q5, q6, q7, q8, q9, q10, q11, q12, q13, q14]); have k9_0 : (0 : Int32).toInt = 0 := (by decide); have k9_1 : (1 : Int32).toInt = 1 := (by decide); have k9_2 : (4 : Int32).toInt = 4 := (by decide); have k9_3 : (40 : Int32).toInt = 40 := (by decide)
  have hc0 := hc
  obtain ⟨hn, hm, ht, ck, cp, ce, cw, cu, cg⟩ := hc0
  have y_not : isW (trn (fi 0) n) n m t 7237492 := by
    rcases gk_1_1 with ⟨z1, z2, z3⟩ | ⟨z1, z2⟩
    · exact ⟨ck.symm.trans z2, by rw [← cw (ck.symm.trans z2)]; exact z3⟩
    · exact absurd (z1.symm.trans tb) (by decide)
  have hla := gk_0 n m t hc
  have hno : ¬ (sK (trn (fi 0) n) n m t = 3 ∧ sG (trn (fi 0) n) n m t = 40) := fun c => by have h9 := cg c.1; omega
  exact Or.inr ⟨by decide, gfa_c (sg_four ht (Or.inr (Or.inl y_not)) (by omega)) (by omega) (by omega)⟩
set_option maxHeartbeats 4000000 in
theorem PL_X5_readOneG2_13 {dd de : Nat} (hde : de = dd + 1) (hle : dd ≤ 8) {fi : Nat → Nat → Int32} {fl : Nat → Nat → Int64} {vi : Nat → Int32} {vl : Nat → Int64} {r : Int32} {fj : Nat → Nat → Int32} {fm : Nat → Nat → Int64} {vj : Nat → Int32} {vm : Nat → Int64} : RL_X5_readOneG2_13 dd de fi fl vi vl r fj fm vj vm (PS_X5_readOneG2 dd de fi fl vi vl r fj fm vj vm) := by
  unfold RL_X5_readOneG2_13
  intro hp0 hp1 hp2 hp3 hp4 hp5 hp6 hp7 hp8 hp9 fik flk vik vlk rk gk_0 fik_1 flk_1 vik_1 vlk_1 rk_1 gk_1_1 tb gk_1_0 fik_2 flk_2 vik_2 vlk_2 rk_2 tb_1 gk_2_0 c28_1 c55_3 z79_3 ez79_3 tz79_3 fik_16 flk_16 vik_16 vlk_16 uk_16 gk_16_0 gk_16_1 gk_16_2 fik_17 flk_17 vik_17 vlk_17 rk_17 gk_17_1 gk_17_2 gk_17_3 gk_17_4 gk_17_5 gk_17_6 gk_17_7 gk_17_8 tb_8 gk_17_0 fik_18 flk_18 vik_18 vlk_18 rk_18 gk_18_1 gk_18_2 gk_18_3 tb_9 gk_18_0 q0 q1 q2 q3 q4 q5 q6 q7 q8 q9 q10 q11 q12 q13 q14; subst q0
  unfold PS_X5_readOneG2
  intro n m t hc σ hd
  (try simp only [q1, q2, q3, q4, q5, q6, q7, q8, q9, q10, q11, q12, q13, q14]); have k9_0 : (0 : Int32).toInt = 0 := (by decide); have k9_1 : (1 : Int32).toInt = 1 := (by decide); have k9_2 : (40 : Int32).toInt = 40 := (by decide)
  have hc0 := hc
  obtain ⟨hn, hm, ht, ck, cp, ce, cw, cu, cg⟩ := hc0
  have y_not : isW (trn (fi 0) n) n m t 7237492 := by
    rcases gk_1_1 with ⟨z1, z2, z3⟩ | ⟨z1, z2⟩
    · exact ⟨ck.symm.trans z2, by rw [← cw (ck.symm.trans z2)]; exact z3⟩
    · exact absurd (z1.symm.trans tb) (by decide)
  have hla := gk_0 n m t hc
  have hno : ¬ (sK (trn (fi 0) n) n m t = 3 ∧ sG (trn (fi 0) n) n m t = 40) := fun c => by have h9 := cg c.1; omega
  have hc1 := CC_nx hc gk_16_2
  rcases gk_17_8 n m _ hc1 (false :: σ) (show σ.length + 1 + 1 = de by omega) with ⟨b1, t9, b2, b3⟩ | ⟨b1, b2⟩
  · exact Or.inl ⟨by decide, t9, b2, gto_tr (sg_not ht y_not (by omega) (by omega) (by omega)) b3⟩
  · exact absurd (b1.symm.trans tb_8) (by decide)
set_option maxHeartbeats 4000000 in
theorem PL_X5_readOneG2_14 {dd de : Nat} (hde : de = dd + 1) (hle : dd ≤ 8) {fi : Nat → Nat → Int32} {fl : Nat → Nat → Int64} {vi : Nat → Int32} {vl : Nat → Int64} {r : Int32} {fj : Nat → Nat → Int32} {fm : Nat → Nat → Int64} {vj : Nat → Int32} {vm : Nat → Int64} : RL_X5_readOneG2_14 dd de fi fl vi vl r fj fm vj vm (PS_X5_readOneG2 dd de fi fl vi vl r fj fm vj vm) := by
  unfold RL_X5_readOneG2_14
  intro hp0 hp1 hp2 hp3 hp4 hp5 hp6 hp7 hp8 hp9 fik flk vik vlk rk gk_0 fik_1 flk_1 vik_1 vlk_1 rk_1 gk_1_1 tb gk_1_0 fik_2 flk_2 vik_2 vlk_2 rk_2 tb_1 gk_2_0 c28_1 c55_3 z79_3 ez79_3 tz79_3 fik_16 flk_16 vik_16 vlk_16 uk_16 gk_16_0 gk_16_1 gk_16_2 fik_17 flk_17 vik_17 vlk_17 rk_17 gk_17_1 gk_17_2 gk_17_3 gk_17_4 gk_17_5 gk_17_6 gk_17_7 gk_17_8 tb_8 gk_17_0 fik_18 flk_18 vik_18 vlk_18 rk_18 gk_18_1 gk_18_2 gk_18_3 tb_9 gk_18_0 q0 q1 q2 q3 q4 q5 q6 q7 q8 q9 q10 q11 q12 q13 q14; subst q0
  unfold PS_X5_readOneG2
  intro n m t hc σ hd
  (try simp only [q1, q2, q3, q4, q5, q6, q7, q8, q9, q10, q11, q12, q13, q14]); have k9_0 : (0 : Int32).toInt = 0 := (by decide); have k9_1 : (1 : Int32).toInt = 1 := (by decide); have k9_2 : (40 : Int32).toInt = 40 := (by decide)
  have hc0 := hc
  obtain ⟨hn, hm, ht, ck, cp, ce, cw, cu, cg⟩ := hc0
  have y_not : isW (trn (fi 0) n) n m t 7237492 := by
    rcases gk_1_1 with ⟨z1, z2, z3⟩ | ⟨z1, z2⟩
    · exact ⟨ck.symm.trans z2, by rw [← cw (ck.symm.trans z2)]; exact z3⟩
    · exact absurd (z1.symm.trans tb) (by decide)
  have hla := gk_0 n m t hc
  have hno : ¬ (sK (trn (fi 0) n) n m t = 3 ∧ sG (trn (fi 0) n) n m t = 40) := fun c => by have h9 := cg c.1; omega
  have hc1 := CC_nx hc gk_16_2
  rcases gk_17_8 n m _ hc1 (false :: σ) (show σ.length + 1 + 1 = de by omega) with ⟨b1, t9, b2, b3⟩ | ⟨b1, b2⟩
  · exfalso; omega
  · exact absurd (b1.symm.trans tb_8) (by decide)
set_option maxHeartbeats 4000000 in
theorem PL_X5_readOneG2_15 {dd de : Nat} (hde : de = dd + 1) (hle : dd ≤ 8) {fi : Nat → Nat → Int32} {fl : Nat → Nat → Int64} {vi : Nat → Int32} {vl : Nat → Int64} {r : Int32} {fj : Nat → Nat → Int32} {fm : Nat → Nat → Int64} {vj : Nat → Int32} {vm : Nat → Int64} : RL_X5_readOneG2_15 dd de fi fl vi vl r fj fm vj vm (PS_X5_readOneG2 dd de fi fl vi vl r fj fm vj vm) := by
  unfold RL_X5_readOneG2_15
  intro hp0 hp1 hp2 hp3 hp4 hp5 hp6 hp7 hp8 hp9 fik flk vik vlk rk gk_0 fik_1 flk_1 vik_1 vlk_1 rk_1 gk_1_1 tb gk_1_0 fik_2 flk_2 vik_2 vlk_2 rk_2 tb_1 gk_2_0 c28_1 c55_3 z79_3 ez79_3 tz79_3 fik_16 flk_16 vik_16 vlk_16 uk_16 gk_16_0 gk_16_1 gk_16_2 fik_17 flk_17 vik_17 vlk_17 rk_17 gk_17_1 gk_17_2 gk_17_3 gk_17_4 gk_17_5 gk_17_6 gk_17_7 gk_17_8 tb_8 gk_17_0 q0 q1 q2 q3 q4 q5 q6 q7 q8 q9 q10 q11 q12 q13 q14; subst q0
  unfold PS_X5_readOneG2
  intro n m t hc σ hd
  (try simp only [q1, q2, q3, q4, q5, q6, q7, q8, q9, q10, q11, q12, q13, q14]); have k9_0 : (0 : Int32).toInt = 0 := (by decide); have k9_1 : (1 : Int32).toInt = 1 := (by decide); have k9_2 : (40 : Int32).toInt = 40 := (by decide)
  have hc0 := hc
  obtain ⟨hn, hm, ht, ck, cp, ce, cw, cu, cg⟩ := hc0
  have y_not : isW (trn (fi 0) n) n m t 7237492 := by
    rcases gk_1_1 with ⟨z1, z2, z3⟩ | ⟨z1, z2⟩
    · exact ⟨ck.symm.trans z2, by rw [← cw (ck.symm.trans z2)]; exact z3⟩
    · exact absurd (z1.symm.trans tb) (by decide)
  have hla := gk_0 n m t hc
  have hno : ¬ (sK (trn (fi 0) n) n m t = 3 ∧ sG (trn (fi 0) n) n m t = 40) := fun c => by have h9 := cg c.1; omega
  have hc1 := CC_nx hc gk_16_2
  rcases gk_17_8 n m _ hc1 (false :: σ) (show σ.length + 1 + 1 = de by omega) with ⟨b1, t9, b2, b3⟩ | ⟨b1, b2⟩
  · exact absurd (b1.symm.trans tb_8) (by decide)
  · exact Or.inr ⟨by decide, gto_fa (sg_not ht y_not (by omega) (by omega) (by omega)) b2⟩
set_option maxHeartbeats 4000000 in
theorem PL_X5_readOneG2_16 {dd de : Nat} (hde : de = dd + 1) (hle : dd ≤ 8) {fi : Nat → Nat → Int32} {fl : Nat → Nat → Int64} {vi : Nat → Int32} {vl : Nat → Int64} {r : Int32} {fj : Nat → Nat → Int32} {fm : Nat → Nat → Int64} {vj : Nat → Int32} {vm : Nat → Int64} : RL_X5_readOneG2_16 dd de fi fl vi vl r fj fm vj vm (PS_X5_readOneG2 dd de fi fl vi vl r fj fm vj vm) := by
  unfold RL_X5_readOneG2_16
  intro hp0 hp1 hp2 hp3 hp4 hp5 hp6 hp7 hp8 hp9 fik flk vik vlk rk gk_0 fik_1 flk_1 vik_1 vlk_1 rk_1 gk_1_1 tb gk_1_0 fik_19 flk_19 vik_19 vlk_19 rk_19 tb_10 gk_19_0 c28_2 c55_4 fik_20 flk_20 vik_20 vlk_20 rk_20 gk_20_0 gk_20_1 gk_20_2 q0 q1 q2 q3 q4 q5 q6 q7 q8 q9 q10 q11 q12 q13 q14; subst q0
  unfold PS_X5_readOneG2
  intro n m t hc σ hd
  (try simp only [q1, q2, q3, q4, q5, q6, q7, q8, q9, q10, q11, q12, q13, q14]); have k9_0 : (0 : Int32).toInt = 0 := (by decide); have k9_1 : (1 : Int32).toInt = 1 := (by decide); have k9_2 : (4 : Int32).toInt = 4 := (by decide); have k9_3 : (40 : Int32).toInt = 40 := (by decide)
  have hc0 := hc
  obtain ⟨hn, hm, ht, ck, cp, ce, cw, cu, cg⟩ := hc0
  have n_not : ¬ isW (trn (fi 0) n) n m t 7237492 := by
    rcases gk_1_1 with ⟨z1, z2, z3⟩ | ⟨z1, z2⟩
    · exact absurd (z1.symm.trans tb) (by decide)
    · exact fun c => z2 ⟨ck.trans c.1, by rw [cw c.1]; exact c.2⟩
  have hla := gk_0 n m t hc
  have hop : sK (trn (fi 0) n) n m t = 3 ∧ sG (trn (fi 0) n) n m t = 40 := ⟨by omega, by have h9 := cg (by omega); omega⟩
  exact Or.inr ⟨by decide, gfa_c (sg_four ht (Or.inr (Or.inr hop)) (by omega)) (by omega) (by omega)⟩
set_option maxHeartbeats 4000000 in
theorem PL_X5_readOneG2_17 {dd de : Nat} (hde : de = dd + 1) (hle : dd ≤ 8) {fi : Nat → Nat → Int32} {fl : Nat → Nat → Int64} {vi : Nat → Int32} {vl : Nat → Int64} {r : Int32} {fj : Nat → Nat → Int32} {fm : Nat → Nat → Int64} {vj : Nat → Int32} {vm : Nat → Int64} : RL_X5_readOneG2_17 dd de fi fl vi vl r fj fm vj vm (PS_X5_readOneG2 dd de fi fl vi vl r fj fm vj vm) := by
  unfold RL_X5_readOneG2_17
  intro hp0 hp1 hp2 hp3 hp4 hp5 hp6 hp7 hp8 hp9 fik flk vik vlk rk gk_0 fik_1 flk_1 vik_1 vlk_1 rk_1 gk_1_1 tb gk_1_0 fik_19 flk_19 vik_19 vlk_19 rk_19 tb_10 gk_19_0 c28_2 c55_4 z79_4 ez79_4 tz79_4 fik_21 flk_21 vik_21 vlk_21 uk_21 gk_21_0 gk_21_1 gk_21_2 fik_22 flk_22 vik_22 vlk_22 rk_22 gk_22_1 gk_22_2 gk_22_3 gk_22_4 gk_22_5 gk_22_6 gk_22_7 gk_22_8 tb_11 gk_22_0 fik_23 flk_23 vik_23 vlk_23 rk_23 gk_23_1 gk_23_2 gk_23_3 gk_23_4 gk_23_5 tb_12 gk_23_0 q0 q1 q2 q3 q4 q5 q6 q7 q8 q9 q10 q11 q12 q13 q14; subst q0
  unfold PS_X5_readOneG2
  intro n m t hc σ hd
  (try simp only [q1, q2, q3, q4, q5, q6, q7, q8, q9, q10, q11, q12, q13, q14]); have k9_0 : (0 : Int32).toInt = 0 := (by decide); have k9_1 : (1 : Int32).toInt = 1 := (by decide); have k9_2 : (40 : Int32).toInt = 40 := (by decide)
  have hc0 := hc
  obtain ⟨hn, hm, ht, ck, cp, ce, cw, cu, cg⟩ := hc0
  have n_not : ¬ isW (trn (fi 0) n) n m t 7237492 := by
    rcases gk_1_1 with ⟨z1, z2, z3⟩ | ⟨z1, z2⟩
    · exact absurd (z1.symm.trans tb) (by decide)
    · exact fun c => z2 ⟨ck.trans c.1, by rw [cw c.1]; exact c.2⟩
  have hla := gk_0 n m t hc
  have hop : sK (trn (fi 0) n) n m t = 3 ∧ sG (trn (fi 0) n) n m t = 40 := ⟨by omega, by have h9 := cg (by omega); omega⟩
  have hc1 := CC_nx hc gk_21_2
  rcases gk_22_8 n m _ hc1 (true :: σ) (show σ.length + 1 + 1 = de by omega) rfl with ⟨b1, t9, b2, b3, b4, b5⟩ | ⟨b1, b2⟩
  · have ht9 := b2.2.2.1
    rcases gk_23_5 n m _ b2 with ⟨c1, c2, c3, c4⟩ | ⟨c1, c2, c3, c4⟩
    · exact Or.inl ⟨by decide, _, c4, gto_tr (sg_open ht hop (by omega) (by omega) (by omega)) (gto_tr b5 (sg_close ht9 ⟨c2, c3⟩))⟩
    · exact absurd (c1.symm.trans tb_12) (by decide)
  · exact absurd (b1.symm.trans tb_11) (by decide)
set_option maxHeartbeats 4000000 in
theorem PL_X5_readOneG2_18 {dd de : Nat} (hde : de = dd + 1) (hle : dd ≤ 8) {fi : Nat → Nat → Int32} {fl : Nat → Nat → Int64} {vi : Nat → Int32} {vl : Nat → Int64} {r : Int32} {fj : Nat → Nat → Int32} {fm : Nat → Nat → Int64} {vj : Nat → Int32} {vm : Nat → Int64} : RL_X5_readOneG2_18 dd de fi fl vi vl r fj fm vj vm (PS_X5_readOneG2 dd de fi fl vi vl r fj fm vj vm) := by
  unfold RL_X5_readOneG2_18
  intro hp0 hp1 hp2 hp3 hp4 hp5 hp6 hp7 hp8 hp9 fik flk vik vlk rk gk_0 fik_1 flk_1 vik_1 vlk_1 rk_1 gk_1_1 tb gk_1_0 fik_19 flk_19 vik_19 vlk_19 rk_19 tb_10 gk_19_0 c28_2 c55_4 z79_4 ez79_4 tz79_4 fik_21 flk_21 vik_21 vlk_21 uk_21 gk_21_0 gk_21_1 gk_21_2 fik_22 flk_22 vik_22 vlk_22 rk_22 gk_22_1 gk_22_2 gk_22_3 gk_22_4 gk_22_5 gk_22_6 gk_22_7 gk_22_8 tb_11 gk_22_0 fik_23 flk_23 vik_23 vlk_23 rk_23 gk_23_1 gk_23_2 gk_23_3 gk_23_4 gk_23_5 tb_12 gk_23_0 q0 q1 q2 q3 q4 q5 q6 q7 q8 q9 q10 q11 q12 q13 q14; subst q0
  unfold PS_X5_readOneG2
  intro n m t hc σ hd
  (try simp only [q1, q2, q3, q4, q5, q6, q7, q8, q9, q10, q11, q12, q13, q14]); have k9_0 : (0 : Int32).toInt = 0 := (by decide); have k9_1 : (1 : Int32).toInt = 1 := (by decide); have k9_2 : (40 : Int32).toInt = 40 := (by decide)
  have hc0 := hc
  obtain ⟨hn, hm, ht, ck, cp, ce, cw, cu, cg⟩ := hc0
  have n_not : ¬ isW (trn (fi 0) n) n m t 7237492 := by
    rcases gk_1_1 with ⟨z1, z2, z3⟩ | ⟨z1, z2⟩
    · exact absurd (z1.symm.trans tb) (by decide)
    · exact fun c => z2 ⟨ck.trans c.1, by rw [cw c.1]; exact c.2⟩
  have hla := gk_0 n m t hc
  have hop : sK (trn (fi 0) n) n m t = 3 ∧ sG (trn (fi 0) n) n m t = 40 := ⟨by omega, by have h9 := cg (by omega); omega⟩
  have hc1 := CC_nx hc gk_21_2
  rcases gk_22_8 n m _ hc1 (true :: σ) (show σ.length + 1 + 1 = de by omega) rfl with ⟨b1, t9, b2, b3, b4, b5⟩ | ⟨b1, b2⟩
  · have ht9 := b2.2.2.1
    rcases gk_23_5 n m _ b2 with ⟨c1, c2, c3, c4⟩ | ⟨c1, c2, c3, c4⟩
    · exact absurd (c1.symm.trans tb_12) (by decide)
    · exact Or.inr ⟨by decide, gto_fa (gto_tr (sg_open ht hop (by omega) (by omega) (by omega)) b5) (gfa_c (sg_cant ht9 b3 b4 ((Classical.em (sK (trn (fi 0) n) n m t9 = 0)).elim (fun e9 => Or.inl ⟨e9, by simp⟩) (fun e9 => Or.inr ⟨e9, Or.inl c2⟩))) c3 c4)⟩
  · exact absurd (b1.symm.trans tb_11) (by decide)
set_option maxHeartbeats 4000000 in
theorem PL_X5_readOneG2_19 {dd de : Nat} (hde : de = dd + 1) (hle : dd ≤ 8) {fi : Nat → Nat → Int32} {fl : Nat → Nat → Int64} {vi : Nat → Int32} {vl : Nat → Int64} {r : Int32} {fj : Nat → Nat → Int32} {fm : Nat → Nat → Int64} {vj : Nat → Int32} {vm : Nat → Int64} : RL_X5_readOneG2_19 dd de fi fl vi vl r fj fm vj vm (PS_X5_readOneG2 dd de fi fl vi vl r fj fm vj vm) := by
  unfold RL_X5_readOneG2_19
  intro hp0 hp1 hp2 hp3 hp4 hp5 hp6 hp7 hp8 hp9 fik flk vik vlk rk gk_0 fik_1 flk_1 vik_1 vlk_1 rk_1 gk_1_1 tb gk_1_0 fik_19 flk_19 vik_19 vlk_19 rk_19 tb_10 gk_19_0 c28_2 c55_4 z79_4 ez79_4 tz79_4 fik_21 flk_21 vik_21 vlk_21 uk_21 gk_21_0 gk_21_1 gk_21_2 fik_22 flk_22 vik_22 vlk_22 rk_22 gk_22_1 gk_22_2 gk_22_3 gk_22_4 gk_22_5 gk_22_6 gk_22_7 gk_22_8 tb_11 gk_22_0 q0 q1 q2 q3 q4 q5 q6 q7 q8 q9 q10 q11 q12 q13 q14; subst q0
  unfold PS_X5_readOneG2
  intro n m t hc σ hd
  (try simp only [q1, q2, q3, q4, q5, q6, q7, q8, q9, q10, q11, q12, q13, q14]); have k9_0 : (0 : Int32).toInt = 0 := (by decide); have k9_1 : (1 : Int32).toInt = 1 := (by decide); have k9_2 : (40 : Int32).toInt = 40 := (by decide)
  have hc0 := hc
  obtain ⟨hn, hm, ht, ck, cp, ce, cw, cu, cg⟩ := hc0
  have n_not : ¬ isW (trn (fi 0) n) n m t 7237492 := by
    rcases gk_1_1 with ⟨z1, z2, z3⟩ | ⟨z1, z2⟩
    · exact absurd (z1.symm.trans tb) (by decide)
    · exact fun c => z2 ⟨ck.trans c.1, by rw [cw c.1]; exact c.2⟩
  have hla := gk_0 n m t hc
  have hop : sK (trn (fi 0) n) n m t = 3 ∧ sG (trn (fi 0) n) n m t = 40 := ⟨by omega, by have h9 := cg (by omega); omega⟩
  have hc1 := CC_nx hc gk_21_2
  rcases gk_22_8 n m _ hc1 (true :: σ) (show σ.length + 1 + 1 = de by omega) rfl with ⟨b1, t9, b2, b3, b4, b5⟩ | ⟨b1, b2⟩
  · exact absurd (b1.symm.trans tb_11) (by decide)
  · exact Or.inr ⟨by decide, gto_fa (sg_open ht hop (by omega) (by omega) (by omega)) b2⟩
set_option maxHeartbeats 4000000 in
theorem PL_X5_readOneG2_20 {dd de : Nat} (hde : de = dd + 1) (hle : dd ≤ 8) {fi : Nat → Nat → Int32} {fl : Nat → Nat → Int64} {vi : Nat → Int32} {vl : Nat → Int64} {r : Int32} {fj : Nat → Nat → Int32} {fm : Nat → Nat → Int64} {vj : Nat → Int32} {vm : Nat → Int64} : RL_X5_readOneG2_20 dd de fi fl vi vl r fj fm vj vm (PS_X5_readOneG2 dd de fi fl vi vl r fj fm vj vm) := by
  unfold RL_X5_readOneG2_20
  intro hp0 hp1 hp2 hp3 hp4 hp5 hp6 hp7 hp8 hp9 fik flk vik vlk rk gk_0 fik_1 flk_1 vik_1 vlk_1 rk_1 gk_1_1 tb gk_1_0 fik_19 flk_19 vik_19 vlk_19 rk_19 tb_10 gk_19_0 c28_2 c55_5 fik_24 flk_24 vik_24 vlk_24 rk_24 gk_24_0 gk_24_1 gk_24_2 q0 q1 q2 q3 q4 q5 q6 q7 q8 q9 q10 q11 q12 q13 q14; subst q0
  unfold PS_X5_readOneG2
  intro n m t hc σ hd
  (try simp only [q1, q2, q3, q4, q5, q6, q7, q8, q9, q10, q11, q12, q13, q14]); have k9_0 : (0 : Int32).toInt = 0 := (by decide); have k9_1 : (1 : Int32).toInt = 1 := (by decide); have k9_2 : (4 : Int32).toInt = 4 := (by decide); have k9_3 : (40 : Int32).toInt = 40 := (by decide)
  have hc0 := hc
  obtain ⟨hn, hm, ht, ck, cp, ce, cw, cu, cg⟩ := hc0
  have n_not : ¬ isW (trn (fi 0) n) n m t 7237492 := by
    rcases gk_1_1 with ⟨z1, z2, z3⟩ | ⟨z1, z2⟩
    · exact absurd (z1.symm.trans tb) (by decide)
    · exact fun c => z2 ⟨ck.trans c.1, by rw [cw c.1]; exact c.2⟩
  have hla := gk_0 n m t hc
  have hop : sK (trn (fi 0) n) n m t = 3 ∧ sG (trn (fi 0) n) n m t = 40 := ⟨by omega, by have h9 := cg (by omega); omega⟩
  exact Or.inr ⟨by decide, gfa_c (sg_four ht (Or.inr (Or.inr hop)) (by omega)) (by omega) (by omega)⟩
set_option maxHeartbeats 4000000 in
theorem PL_X5_readOneG2_21 {dd de : Nat} (hde : de = dd + 1) (hle : dd ≤ 8) {fi : Nat → Nat → Int32} {fl : Nat → Nat → Int64} {vi : Nat → Int32} {vl : Nat → Int64} {r : Int32} {fj : Nat → Nat → Int32} {fm : Nat → Nat → Int64} {vj : Nat → Int32} {vm : Nat → Int64} : RL_X5_readOneG2_21 dd de fi fl vi vl r fj fm vj vm (PS_X5_readOneG2 dd de fi fl vi vl r fj fm vj vm) := by
  unfold RL_X5_readOneG2_21
  intro hp0 hp1 hp2 hp3 hp4 hp5 hp6 hp7 hp8 hp9 fik flk vik vlk rk gk_0 fik_1 flk_1 vik_1 vlk_1 rk_1 gk_1_1 tb gk_1_0 fik_19 flk_19 vik_19 vlk_19 rk_19 tb_10 gk_19_0 c28_2 c55_5 z79_5 ez79_5 tz79_5 fik_25 flk_25 vik_25 vlk_25 uk_25 gk_25_0 gk_25_1 gk_25_2 fik_26 flk_26 vik_26 vlk_26 rk_26 gk_26_1 gk_26_2 gk_26_3 gk_26_4 gk_26_5 gk_26_6 gk_26_7 gk_26_8 tb_13 gk_26_0 fik_27 flk_27 vik_27 vlk_27 rk_27 gk_27_1 gk_27_2 gk_27_3 gk_27_4 gk_27_5 tb_14 gk_27_0 q0 q1 q2 q3 q4 q5 q6 q7 q8 q9 q10 q11 q12 q13 q14; subst q0
  unfold PS_X5_readOneG2
  intro n m t hc σ hd
  (try simp only [q1, q2, q3, q4, q5, q6, q7, q8, q9, q10, q11, q12, q13, q14]); have k9_0 : (0 : Int32).toInt = 0 := (by decide); have k9_1 : (1 : Int32).toInt = 1 := (by decide); have k9_2 : (40 : Int32).toInt = 40 := (by decide)
  have hc0 := hc
  obtain ⟨hn, hm, ht, ck, cp, ce, cw, cu, cg⟩ := hc0
  have n_not : ¬ isW (trn (fi 0) n) n m t 7237492 := by
    rcases gk_1_1 with ⟨z1, z2, z3⟩ | ⟨z1, z2⟩
    · exact absurd (z1.symm.trans tb) (by decide)
    · exact fun c => z2 ⟨ck.trans c.1, by rw [cw c.1]; exact c.2⟩
  have hla := gk_0 n m t hc
  have hop : sK (trn (fi 0) n) n m t = 3 ∧ sG (trn (fi 0) n) n m t = 40 := ⟨by omega, by have h9 := cg (by omega); omega⟩
  have hc1 := CC_nx hc gk_25_2
  rcases gk_26_8 n m _ hc1 (true :: σ) (show σ.length + 1 + 1 = de by omega) rfl with ⟨b1, t9, b2, b3, b4, b5⟩ | ⟨b1, b2⟩
  · have ht9 := b2.2.2.1
    rcases gk_27_5 n m _ b2 with ⟨c1, c2, c3, c4⟩ | ⟨c1, c2, c3, c4⟩
    · exact Or.inl ⟨by decide, _, c4, gto_tr (sg_open ht hop (by omega) (by omega) (by omega)) (gto_tr b5 (sg_close ht9 ⟨c2, c3⟩))⟩
    · exact absurd (c1.symm.trans tb_14) (by decide)
  · exact absurd (b1.symm.trans tb_13) (by decide)
