set_option maxHeartbeats 4000000 in
theorem PL_X5_readOneG_6 {dd de : Nat} (hde : de = dd + 1) (hle : dd ≤ 8) {fi : Nat → Nat → Int32} {fl : Nat → Nat → Int64} {vi : Nat → Int32} {vl : Nat → Int64} {r : Int32} {fj : Nat → Nat → Int32} {fm : Nat → Nat → Int64} {vj : Nat → Int32} {vm : Nat → Int64} : RL_X5_readOneG_6 dd de fi fl vi vl r fj fm vj vm (PS_X5_readOneG dd de fi fl vi vl r fj fm vj vm) := by
  unfold RL_X5_readOneG_6
  intro hp0 hp1 hp2 hp3 hp4 hp5 hp6 hp7 hp8 hp9 fik flk vik vlk rk gk_0 fik_1 flk_1 vik_1 vlk_1 rk_1 gk_1_1 tb gk_1_0 fik_2 flk_2 vik_2 vlk_2 rk_2 tb_1 gk_2_0 c28 c55_1 z79_1 ez79_1 tz79_1 fik_8 flk_8 vik_8 vlk_8 uk_8 gk_8_0 gk_8_1 gk_8_2 fik_9 flk_9 vik_9 vlk_9 rk_9 gk_9_1 gk_9_2 gk_9_3 gk_9_4 tb_4 gk_9_0 fik_10 flk_10 vik_10 vlk_10 rk_10 gk_10_1 gk_10_2 gk_10_3 tb_5 gk_10_0 q0 q1 q2 q3 q4 q5 q6 q7 q8 q9 q10 q11 q12 q13 q14; subst q0
  unfold PS_X5_readOneG
  intro n m t hc σ hd
  (try simp only [q1, q2, q3, q4, q5, q6, q7, q8, q9, q10, q11, q12, q13, q14]); have k9_0 : (0 : Int32).toInt = 0 := (by decide); have k9_1 : (1 : Int32).toInt = 1 := (by decide); have k9_2 : (40 : Int32).toInt = 40 := (by decide)
  have hc0 := hc
  obtain ⟨hn, hm, ht, ck, cp, ce, cw, cu, cg⟩ := hc0
  have y_not : isW (trn (fi 0) n) n m t 7237492 := by
    rcases gk_1_1 with ⟨z1, z2, z3⟩ | ⟨z1, z2⟩
    · exact ⟨ck.symm.trans z2, by rw [← cw (ck.symm.trans z2)]; exact z3⟩
    · exact absurd (z1.symm.trans tb) (by decide)
  have hla := gk_0 n m t hc
  have hop : sK (trn (fi 0) n) n m t = 3 ∧ sG (trn (fi 0) n) n m t = 40 := ⟨by omega, by have h9 := cg (by omega); omega⟩
  have hc1 := CC_nx hc gk_8_2
  rcases gk_9_4 n m _ hc1 (false :: σ) (show σ.length + 1 + 1 = de by omega) with ⟨b1, t9, b2, b3⟩ | ⟨b1, b2⟩
  · exfalso; omega
  · exact absurd (b1.symm.trans tb_4) (by decide)
set_option maxHeartbeats 4000000 in
theorem PL_X5_readOneG_7 {dd de : Nat} (hde : de = dd + 1) (hle : dd ≤ 8) {fi : Nat → Nat → Int32} {fl : Nat → Nat → Int64} {vi : Nat → Int32} {vl : Nat → Int64} {r : Int32} {fj : Nat → Nat → Int32} {fm : Nat → Nat → Int64} {vj : Nat → Int32} {vm : Nat → Int64} : RL_X5_readOneG_7 dd de fi fl vi vl r fj fm vj vm (PS_X5_readOneG dd de fi fl vi vl r fj fm vj vm) := by
  unfold RL_X5_readOneG_7
  intro hp0 hp1 hp2 hp3 hp4 hp5 hp6 hp7 hp8 hp9 fik flk vik vlk rk gk_0 fik_1 flk_1 vik_1 vlk_1 rk_1 gk_1_1 tb gk_1_0 fik_2 flk_2 vik_2 vlk_2 rk_2 tb_1 gk_2_0 c28 c55_1 z79_1 ez79_1 tz79_1 fik_8 flk_8 vik_8 vlk_8 uk_8 gk_8_0 gk_8_1 gk_8_2 fik_9 flk_9 vik_9 vlk_9 rk_9 gk_9_1 gk_9_2 gk_9_3 gk_9_4 tb_4 gk_9_0 q0 q1 q2 q3 q4 q5 q6 q7 q8 q9 q10 q11 q12 q13 q14; subst q0
  unfold PS_X5_readOneG
  intro n m t hc σ hd
  (try simp only [q1, q2, q3, q4, q5, q6, q7, q8, q9, q10, q11, q12, q13, q14]); have k9_0 : (0 : Int32).toInt = 0 := (by decide); have k9_1 : (1 : Int32).toInt = 1 := (by decide); have k9_2 : (40 : Int32).toInt = 40 := (by decide)
  have hc0 := hc
  obtain ⟨hn, hm, ht, ck, cp, ce, cw, cu, cg⟩ := hc0
  have y_not : isW (trn (fi 0) n) n m t 7237492 := by
    rcases gk_1_1 with ⟨z1, z2, z3⟩ | ⟨z1, z2⟩
    · exact ⟨ck.symm.trans z2, by rw [← cw (ck.symm.trans z2)]; exact z3⟩
    · exact absurd (z1.symm.trans tb) (by decide)
  have hla := gk_0 n m t hc
  have hop : sK (trn (fi 0) n) n m t = 3 ∧ sG (trn (fi 0) n) n m t = 40 := ⟨by omega, by have h9 := cg (by omega); omega⟩
  have hc1 := CC_nx hc gk_8_2
  rcases gk_9_4 n m _ hc1 (false :: σ) (show σ.length + 1 + 1 = de by omega) with ⟨b1, t9, b2, b3⟩ | ⟨b1, b2⟩
  · exact absurd (b1.symm.trans tb_4) (by decide)
  · exact Or.inr ⟨by decide, gto_fa (sg_not ht y_not (by omega) (by omega) (by omega)) b2⟩
set_option maxHeartbeats 4000000 in
theorem PL_X5_readOneG_8 {dd de : Nat} (hde : de = dd + 1) (hle : dd ≤ 8) {fi : Nat → Nat → Int32} {fl : Nat → Nat → Int64} {vi : Nat → Int32} {vl : Nat → Int64} {r : Int32} {fj : Nat → Nat → Int32} {fm : Nat → Nat → Int64} {vj : Nat → Int32} {vm : Nat → Int64} : RL_X5_readOneG_8 dd de fi fl vi vl r fj fm vj vm (PS_X5_readOneG dd de fi fl vi vl r fj fm vj vm) := by
  unfold RL_X5_readOneG_8
  intro hp0 hp1 hp2 hp3 hp4 hp5 hp6 hp7 hp8 hp9 fik flk vik vlk rk gk_0 fik_1 flk_1 vik_1 vlk_1 rk_1 gk_1_1 tb gk_1_0 fik_2 flk_2 vik_2 vlk_2 rk_2 tb_1 gk_2_0 c28_1 c55_2 fik_11 flk_11 vik_11 vlk_11 rk_11 gk_11_0 gk_11_1 gk_11_2 q0 q1 q2 q3 q4 q5 q6 q7 q8 q9 q10 q11 q12 q13 q14; subst q0
  unfold PS_X5_readOneG
  intro n m t hc σ hd
  (try simp only [q1, q2, q3, q4, q5, q6, q7, q8, q9, q10, q11, q12, q13, q14]); have k9_0 : (0 : Int32).toInt = 0 := (by decide); have k9_1 : (1 : Int32).toInt = 1 := (by decide); have k9_2 : (4 : Int32).toInt = 4 := (by decide); have k9_3 : (40 : Int32).toInt = 40 := (by decide)
  have hc0 := hc
  obtain ⟨hn, hm, ht, ck, cp, ce, cw, cu, cg⟩ := hc0
  have y_not : isW (trn (fi 0) n) n m t 7237492 := by
    rcases gk_1_1 with ⟨z1, z2, z3⟩ | ⟨z1, z2⟩
    · exact ⟨ck.symm.trans z2, by rw [← cw (ck.symm.trans z2)]; exact z3⟩
    · exact absurd (z1.symm.trans tb) (by decide)
  have hla := gk_0 n m t hc
  have hno : ¬ (sK (trn (fi 0) n) n m t = 3 ∧ sG (trn (fi 0) n) n m t = 40) := fun c => by have h9 := cg c.1; omega
  exact Or.inr ⟨by decide, gfa_c (sg_four ht (Or.inr (Or.inl y_not)) (by omega)) (by omega) (by omega)⟩
set_option maxHeartbeats 4000000 in
theorem PL_X5_readOneG_9 {dd de : Nat} (hde : de = dd + 1) (hle : dd ≤ 8) {fi : Nat → Nat → Int32} {fl : Nat → Nat → Int64} {vi : Nat → Int32} {vl : Nat → Int64} {r : Int32} {fj : Nat → Nat → Int32} {fm : Nat → Nat → Int64} {vj : Nat → Int32} {vm : Nat → Int64} : RL_X5_readOneG_9 dd de fi fl vi vl r fj fm vj vm (PS_X5_readOneG dd de fi fl vi vl r fj fm vj vm) := by
  unfold RL_X5_readOneG_9
  intro hp0 hp1 hp2 hp3 hp4 hp5 hp6 hp7 hp8 hp9 fik flk vik vlk rk gk_0 fik_1 flk_1 vik_1 vlk_1 rk_1 gk_1_1 tb gk_1_0 fik_2 flk_2 vik_2 vlk_2 rk_2 tb_1 gk_2_0 c28_1 c55_2 z79_2 ez79_2 tz79_2 fik_12 flk_12 vik_12 vlk_12 uk_12 gk_12_0 gk_12_1 gk_12_2 fik_13 flk_13 vik_13 vlk_13 rk_13 gk_13_1 gk_13_2 gk_13_3 gk_13_4 tb_6 gk_13_0 fik_14 flk_14 vik_14 vlk_14 rk_14 gk_14_1 gk_14_2 gk_14_3 tb_7 gk_14_0 q0 q1 q2 q3 q4 q5 q6 q7 q8 q9 q10 q11 q12 q13 q14; subst q0
  unfold PS_X5_readOneG
  intro n m t hc σ hd
  (try simp only [q1, q2, q3, q4, q5, q6, q7, q8, q9, q10, q11, q12, q13, q14]); have k9_0 : (0 : Int32).toInt = 0 := (by decide); have k9_1 : (1 : Int32).toInt = 1 := (by decide); have k9_2 : (40 : Int32).toInt = 40 := (by decide)
  have hc0 := hc
  obtain ⟨hn, hm, ht, ck, cp, ce, cw, cu, cg⟩ := hc0
  have y_not : isW (trn (fi 0) n) n m t 7237492 := by
    rcases gk_1_1 with ⟨z1, z2, z3⟩ | ⟨z1, z2⟩
    · exact ⟨ck.symm.trans z2, by rw [← cw (ck.symm.trans z2)]; exact z3⟩
    · exact absurd (z1.symm.trans tb) (by decide)
  have hla := gk_0 n m t hc
  have hno : ¬ (sK (trn (fi 0) n) n m t = 3 ∧ sG (trn (fi 0) n) n m t = 40) := fun c => by have h9 := cg c.1; omega
  have hc1 := CC_nx hc gk_12_2
  rcases gk_13_4 n m _ hc1 (false :: σ) (show σ.length + 1 + 1 = de by omega) with ⟨b1, t9, b2, b3⟩ | ⟨b1, b2⟩
  · exact Or.inl ⟨by decide, t9, b2, gto_tr (sg_not ht y_not (by omega) (by omega) (by omega)) b3⟩
  · exact absurd (b1.symm.trans tb_6) (by decide)
set_option maxHeartbeats 4000000 in
theorem PL_X5_readOneG_10 {dd de : Nat} (hde : de = dd + 1) (hle : dd ≤ 8) {fi : Nat → Nat → Int32} {fl : Nat → Nat → Int64} {vi : Nat → Int32} {vl : Nat → Int64} {r : Int32} {fj : Nat → Nat → Int32} {fm : Nat → Nat → Int64} {vj : Nat → Int32} {vm : Nat → Int64} : RL_X5_readOneG_10 dd de fi fl vi vl r fj fm vj vm (PS_X5_readOneG dd de fi fl vi vl r fj fm vj vm) := by
  unfold RL_X5_readOneG_10
  intro hp0 hp1 hp2 hp3 hp4 hp5 hp6 hp7 hp8 hp9 fik flk vik vlk rk gk_0 fik_1 flk_1 vik_1 vlk_1 rk_1 gk_1_1 tb gk_1_0 fik_2 flk_2 vik_2 vlk_2 rk_2 tb_1 gk_2_0 c28_1 c55_2 z79_2 ez79_2 tz79_2 fik_12 flk_12 vik_12 vlk_12 uk_12 gk_12_0 gk_12_1 gk_12_2 fik_13 flk_13 vik_13 vlk_13 rk_13 gk_13_1 gk_13_2 gk_13_3 gk_13_4 tb_6 gk_13_0 fik_14 flk_14 vik_14 vlk_14 rk_14 gk_14_1 gk_14_2 gk_14_3 tb_7 gk_14_0 q0 q1 q2 q3 q4 q5 q6 q7 q8 q9 q10 q11 q12 q13 q14; subst q0
  unfold PS_X5_readOneG
  intro n m t hc σ hd
  (try simp only [q1, q2, q3, q4, q5, q6, q7, q8, q9, q10, q11, q12, q13, q14]); have k9_0 : (0 : Int32).toInt = 0 := (by decide); have k9_1 : (1 : Int32).toInt = 1 := (by decide); have k9_2 : (40 : Int32).toInt = 40 := (by decide)
  have hc0 := hc
  obtain ⟨hn, hm, ht, ck, cp, ce, cw, cu, cg⟩ := hc0
  have y_not : isW (trn (fi 0) n) n m t 7237492 := by
    rcases gk_1_1 with ⟨z1, z2, z3⟩ | ⟨z1, z2⟩
    · exact ⟨ck.symm.trans z2, by rw [← cw (ck.symm.trans z2)]; exact z3⟩
    · exact absurd (z1.symm.trans tb) (by decide)
  have hla := gk_0 n m t hc
  have hno : ¬ (sK (trn (fi 0) n) n m t = 3 ∧ sG (trn (fi 0) n) n m t = 40) := fun c => by have h9 := cg c.1; omega
  have hc1 := CC_nx hc gk_12_2
  rcases gk_13_4 n m _ hc1 (false :: σ) (show σ.length + 1 + 1 = de by omega) with ⟨b1, t9, b2, b3⟩ | ⟨b1, b2⟩
  · exfalso; omega
  · exact absurd (b1.symm.trans tb_6) (by decide)
set_option maxHeartbeats 4000000 in
theorem PL_X5_readOneG_11 {dd de : Nat} (hde : de = dd + 1) (hle : dd ≤ 8) {fi : Nat → Nat → Int32} {fl : Nat → Nat → Int64} {vi : Nat → Int32} {vl : Nat → Int64} {r : Int32} {fj : Nat → Nat → Int32} {fm : Nat → Nat → Int64} {vj : Nat → Int32} {vm : Nat → Int64} : RL_X5_readOneG_11 dd de fi fl vi vl r fj fm vj vm (PS_X5_readOneG dd de fi fl vi vl r fj fm vj vm) := by
  unfold RL_X5_readOneG_11
  intro hp0 hp1 hp2 hp3 hp4 hp5 hp6 hp7 hp8 hp9 fik flk vik vlk rk gk_0 fik_1 flk_1 vik_1 vlk_1 rk_1 gk_1_1 tb gk_1_0 fik_2 flk_2 vik_2 vlk_2 rk_2 tb_1 gk_2_0 c28_1 c55_2 z79_2 ez79_2 tz79_2 fik_12 flk_12 vik_12 vlk_12 uk_12 gk_12_0 gk_12_1 gk_12_2 fik_13 flk_13 vik_13 vlk_13 rk_13 gk_13_1 gk_13_2 gk_13_3 gk_13_4 tb_6 gk_13_0 q0 q1 q2 q3 q4 q5 q6 q7 q8 q9 q10 q11 q12 q13 q14; subst q0
  unfold PS_X5_readOneG
  intro n m t hc σ hd
  (try simp only [q1, q2, q3, q4, q5, q6, q7, q8, q9, q10, q11, q12, q13, q14]); have k9_0 : (0 : Int32).toInt = 0 := (by decide); have k9_1 : (1 : Int32).toInt = 1 := (by decide); have k9_2 : (40 : Int32).toInt = 40 := (by decide)
  have hc0 := hc
  obtain ⟨hn, hm, ht, ck, cp, ce, cw, cu, cg⟩ := hc0
  have y_not : isW (trn (fi 0) n) n m t 7237492 := by
    rcases gk_1_1 with ⟨z1, z2, z3⟩ | ⟨z1, z2⟩
    · exact ⟨ck.symm.trans z2, by rw [← cw (ck.symm.trans z2)]; exact z3⟩
    · exact absurd (z1.symm.trans tb) (by decide)
  have hla := gk_0 n m t hc
  have hno : ¬ (sK (trn (fi 0) n) n m t = 3 ∧ sG (trn (fi 0) n) n m t = 40) := fun c => by have h9 := cg c.1; omega
  have hc1 := CC_nx hc gk_12_2
  rcases gk_13_4 n m _ hc1 (false :: σ) (show σ.length + 1 + 1 = de by omega) with ⟨b1, t9, b2, b3⟩ | ⟨b1, b2⟩
  · exact absurd (b1.symm.trans tb_6) (by decide)
  · exact Or.inr ⟨by decide, gto_fa (sg_not ht y_not (by omega) (by omega) (by omega)) b2⟩
set_option maxHeartbeats 4000000 in
theorem PL_X5_readOneG_12 {dd de : Nat} (hde : de = dd + 1) (hle : dd ≤ 8) {fi : Nat → Nat → Int32} {fl : Nat → Nat → Int64} {vi : Nat → Int32} {vl : Nat → Int64} {r : Int32} {fj : Nat → Nat → Int32} {fm : Nat → Nat → Int64} {vj : Nat → Int32} {vm : Nat → Int64} : RL_X5_readOneG_12 dd de fi fl vi vl r fj fm vj vm (PS_X5_readOneG dd de fi fl vi vl r fj fm vj vm) := by
  unfold RL_X5_readOneG_12
  intro hp0 hp1 hp2 hp3 hp4 hp5 hp6 hp7 hp8 hp9 fik flk vik vlk rk gk_0 fik_1 flk_1 vik_1 vlk_1 rk_1 gk_1_1 tb gk_1_0 fik_2 flk_2 vik_2 vlk_2 rk_2 tb_1 gk_2_0 c28_1 c55_3 fik_15 flk_15 vik_15 vlk_15 rk_15 gk_15_0 gk_15_1 gk_15_2 q0 q1 q2 q3 q4 q5 q6 q7 q8 q9 q10 q11 q12 q13 q14; subst q0
  unfold PS_X5_readOneG
  intro n m t hc σ hd
  (try simp only [q1, q2, q3, q4, q5, q6, q7, q8, q9, q10, q11, q12, q13, q14]); have k9_0 : (0 : Int32).toInt = 0 := (by decide); have k9_1 : (1 : Int32).toInt = 1 := (by decide); have k9_2 : (4 : Int32).toInt = 4 := (by decide); have k9_3 : (40 : Int32).toInt = 40 := (by decide)
  have hc0 := hc
  obtain ⟨hn, hm, ht, ck, cp, ce, cw, cu, cg⟩ := hc0
  have y_not : isW (trn (fi 0) n) n m t 7237492 := by
    rcases gk_1_1 with ⟨z1, z2, z3⟩ | ⟨z1, z2⟩
    · exact ⟨ck.symm.trans z2, by rw [← cw (ck.symm.trans z2)]; exact z3⟩
    · exact absurd (z1.symm.trans tb) (by decide)
  have hla := gk_0 n m t hc
  have hno : ¬ (sK (trn (fi 0) n) n m t = 3 ∧ sG (trn (fi 0) n) n m t = 40) := fun c => by have h9 := cg c.1; omega
  exact Or.inr ⟨by decide, gfa_c (sg_four ht (Or.inr (Or.inl y_not)) (by omega)) (by omega) (by omega)⟩
set_option maxHeartbeats 4000000 in
theorem PL_X5_readOneG_13 {dd de : Nat} (hde : de = dd + 1) (hle : dd ≤ 8) {fi : Nat → Nat → Int32} {fl : Nat → Nat → Int64} {vi : Nat → Int32} {vl : Nat → Int64} {r : Int32} {fj : Nat → Nat → Int32} {fm : Nat → Nat → Int64} {vj : Nat → Int32} {vm : Nat → Int64} : RL_X5_readOneG_13 dd de fi fl vi vl r fj fm vj vm (PS_X5_readOneG dd de fi fl vi vl r fj fm vj vm) := by
  unfold RL_X5_readOneG_13
  intro hp0 hp1 hp2 hp3 hp4 hp5 hp6 hp7 hp8 hp9 fik flk vik vlk rk gk_0 fik_1 flk_1 vik_1 vlk_1 rk_1 gk_1_1 tb gk_1_0 fik_2 flk_2 vik_2 vlk_2 rk_2 tb_1 gk_2_0 c28_1 c55_3 z79_3 ez79_3 tz79_3 fik_16 flk_16 vik_16 vlk_16 uk_16 gk_16_0 gk_16_1 gk_16_2 fik_17 flk_17 vik_17 vlk_17 rk_17 gk_17_1 gk_17_2 gk_17_3 gk_17_4 tb_8 gk_17_0 fik_18 flk_18 vik_18 vlk_18 rk_18 gk_18_1 gk_18_2 gk_18_3 tb_9 gk_18_0 q0 q1 q2 q3 q4 q5 q6 q7 q8 q9 q10 q11 q12 q13 q14; subst q0
  unfold PS_X5_readOneG
  intro n m t hc σ hd
  (try simp only [q1, q2, q3, q4, q5, q6, q7, q8, q9, q10, q11, q12, q13, q14]); have k9_0 : (0 : Int32).toInt = 0 := (by decide); have k9_1 : (1 : Int32).toInt = 1 := (by decide); have k9_2 : (40 : Int32).toInt = 40 := (by decide)
  have hc0 := hc
  obtain ⟨hn, hm, ht, ck, cp, ce, cw, cu, cg⟩ := hc0
  have y_not : isW (trn (fi 0) n) n m t 7237492 := by
    rcases gk_1_1 with ⟨z1, z2, z3⟩ | ⟨z1, z2⟩
    · exact ⟨ck.symm.trans z2, by rw [← cw (ck.symm.trans z2)]; exact z3⟩
    · exact absurd (z1.symm.trans tb) (by decide)
  have hla := gk_0 n m t hc
  have hno : ¬ (sK (trn (fi 0) n) n m t = 3 ∧ sG (trn (fi 0) n) n m t = 40) := fun c => by have h9 := cg c.1; omega
  have hc1 := CC_nx hc gk_16_2
  rcases gk_17_4 n m _ hc1 (false :: σ) (show σ.length + 1 + 1 = de by omega) with ⟨b1, t9, b2, b3⟩ | ⟨b1, b2⟩
  · exact Or.inl ⟨by decide, t9, b2, gto_tr (sg_not ht y_not (by omega) (by omega) (by omega)) b3⟩
  · exact absurd (b1.symm.trans tb_8) (by decide)
set_option maxHeartbeats 4000000 in
theorem PL_X5_readOneG_14 {dd de : Nat} (hde : de = dd + 1) (hle : dd ≤ 8) {fi : Nat → Nat → Int32} {fl : Nat → Nat → Int64} {vi : Nat → Int32} {vl : Nat → Int64} {r : Int32} {fj : Nat → Nat → Int32} {fm : Nat → Nat → Int64} {vj : Nat → Int32} {vm : Nat → Int64} : RL_X5_readOneG_14 dd de fi fl vi vl r fj fm vj vm (PS_X5_readOneG dd de fi fl vi vl r fj fm vj vm) := by
  unfold RL_X5_readOneG_14
  intro hp0 hp1 hp2 hp3 hp4 hp5 hp6 hp7 hp8 hp9 fik flk vik vlk rk gk_0 fik_1 flk_1 vik_1 vlk_1 rk_1 gk_1_1 tb gk_1_0 fik_2 flk_2 vik_2 vlk_2 rk_2 tb_1 gk_2_0 c28_1 c55_3 z79_3 ez79_3 tz79_3 fik_16 flk_16 vik_16 vlk_16 uk_16 gk_16_0 gk_16_1 gk_16_2 fik_17 flk_17 vik_17 vlk_17 rk_17 gk_17_1 gk_17_2 gk_17_3 gk_17_4 tb_8 gk_17_0 fik_18 flk_18 vik_18 vlk_18 rk_18 gk_18_1 gk_18_2 gk_18_3 tb_9 gk_18_0 q0 q1 q2 q3 q4 q5 q6 q7 q8 q9 q10 q11 q12 q13 q14; subst q0
  unfold PS_X5_readOneG
  intro n m t hc σ hd
  (try simp only [q1, q2, q3, q4, q5, q6, q7, q8, q9, q10, q11, q12, q13, q14]); have k9_0 : (0 : Int32).toInt = 0 := (by decide); have k9_1 : (1 : Int32).toInt = 1 := (by decide); have k9_2 : (40 : Int32).toInt = 40 := (by decide)
  have hc0 := hc
  obtain ⟨hn, hm, ht, ck, cp, ce, cw, cu, cg⟩ := hc0
  have y_not : isW (trn (fi 0) n) n m t 7237492 := by
    rcases gk_1_1 with ⟨z1, z2, z3⟩ | ⟨z1, z2⟩
    · exact ⟨ck.symm.trans z2, by rw [← cw (ck.symm.trans z2)]; exact z3⟩
    · exact absurd (z1.symm.trans tb) (by decide)
  have hla := gk_0 n m t hc
  have hno : ¬ (sK (trn (fi 0) n) n m t = 3 ∧ sG (trn (fi 0) n) n m t = 40) := fun c => by have h9 := cg c.1; omega
  have hc1 := CC_nx hc gk_16_2
  rcases gk_17_4 n m _ hc1 (false :: σ) (show σ.length + 1 + 1 = de by omega) with ⟨b1, t9, b2, b3⟩ | ⟨b1, b2⟩
  · exfalso; omega
  · exact absurd (b1.symm.trans tb_8) (by decide)
set_option maxHeartbeats 4000000 in
theorem PL_X5_readOneG_15 {dd de : Nat} (hde : de = dd + 1) (hle : dd ≤ 8) {fi : Nat → Nat → Int32} {fl : Nat → Nat → Int64} {vi : Nat → Int32} {vl : Nat → Int64} {r : Int32} {fj : Nat → Nat → Int32} {fm : Nat → Nat → Int64} {vj : Nat → Int32} {vm : Nat → Int64} : RL_X5_readOneG_15 dd de fi fl vi vl r fj fm vj vm (PS_X5_readOneG dd de fi fl vi vl r fj fm vj vm) := by
  unfold RL_X5_readOneG_15
  intro hp0 hp1 hp2 hp3 hp4 hp5 hp6 hp7 hp8 hp9 fik flk vik vlk rk gk_0 fik_1 flk_1 vik_1 vlk_1 rk_1 gk_1_1 tb gk_1_0 fik_2 flk_2 vik_2 vlk_2 rk_2 tb_1 gk_2_0 c28_1 c55_3 z79_3 ez79_3 tz79_3 fik_16 flk_16 vik_16 vlk_16 uk_16 gk_16_0 gk_16_1 gk_16_2 fik_17 flk_17 vik_17 vlk_17 rk_17 gk_17_1 gk_17_2 gk_17_3 gk_17_4 tb_8 gk_17_0 q0 q1 q2 q3 q4 q5 q6 q7 q8 q9 q10 q11 q12 q13 q14; subst q0
  unfold PS_X5_readOneG
  intro n m t hc σ hd
  (try simp only [q1, q2, q3, q4, q5, q6, q7, q8, q9, q10, q11, q12, q13, q14]); have k9_0 : (0 : Int32).toInt = 0 := (by decide); have k9_1 : (1 : Int32).toInt = 1 := (by decide); have k9_2 : (40 : Int32).toInt = 40 := (by decide)
  have hc0 := hc
  obtain ⟨hn, hm, ht, ck, cp, ce, cw, cu, cg⟩ := hc0
  have y_not : isW (trn (fi 0) n) n m t 7237492 := by
    rcases gk_1_1 with ⟨z1, z2, z3⟩ | ⟨z1, z2⟩
    · exact ⟨ck.symm.trans z2, by rw [← cw (ck.symm.trans z2)]; exact z3⟩
    · exact absurd (z1.symm.trans tb) (by decide)
  have hla := gk_0 n m t hc
  have hno : ¬ (sK (trn (fi 0) n) n m t = 3 ∧ sG (trn (fi 0) n) n m t = 40) := fun c => by have h9 := cg c.1; omega
  have hc1 := CC_nx hc gk_16_2
  rcases gk_17_4 n m _ hc1 (false :: σ) (show σ.length + 1 + 1 = de by omega) with ⟨b1, t9, b2, b3⟩ | ⟨b1, b2⟩
  · exact absurd (b1.symm.trans tb_8) (by decide)
  · exact Or.inr ⟨by decide, gto_fa (sg_not ht y_not (by omega) (by omega) (by omega)) b2⟩
set_option maxHeartbeats 4000000 in
theorem PL_X5_readOneG_16 {dd de : Nat} (hde : de = dd + 1) (hle : dd ≤ 8) {fi : Nat → Nat → Int32} {fl : Nat → Nat → Int64} {vi : Nat → Int32} {vl : Nat → Int64} {r : Int32} {fj : Nat → Nat → Int32} {fm : Nat → Nat → Int64} {vj : Nat → Int32} {vm : Nat → Int64} : RL_X5_readOneG_16 dd de fi fl vi vl r fj fm vj vm (PS_X5_readOneG dd de fi fl vi vl r fj fm vj vm) := by
  unfold RL_X5_readOneG_16
  intro hp0 hp1 hp2 hp3 hp4 hp5 hp6 hp7 hp8 hp9 fik flk vik vlk rk gk_0 fik_1 flk_1 vik_1 vlk_1 rk_1 gk_1_1 tb gk_1_0 fik_19 flk_19 vik_19 vlk_19 rk_19 tb_10 gk_19_0 c28_2 c55_4 fik_20 flk_20 vik_20 vlk_20 rk_20 gk_20_0 gk_20_1 gk_20_2 q0 q1 q2 q3 q4 q5 q6 q7 q8 q9 q10 q11 q12 q13 q14; subst q0
  unfold PS_X5_readOneG
  intro n m t hc σ hd
  (try simp only [q1, q2, q3, q4, q5, q6, q7, q8, q9, q10, q11, q12, q13, q14]); have k9_0 : (0 : Int32).toInt = 0 := (by decide); have k9_1 : (1 : Int32).toInt = 1 := (by decide); have k9_2 : (4 : Int32).toInt = 4 := (by decide); have k9_3 : (40 : Int32).toInt = 40 := (by decide)
  have hc0 := hc
  obtain ⟨hn, hm, ht, ck, cp, ce, cw, cu, cg⟩ := hc0
  have n_not : ¬ isW (trn (fi 0) n) n m t 7237492 := by
    rcases gk_1_1 with ⟨z1, z2, z3⟩ | ⟨z1, z2⟩
    · exact absurd (z1.symm.trans tb) (by decide)
    · exact fun c => z2 ⟨ck.trans c.1, by rw [cw c.1]; exact c.2⟩
  have hla := gk_0 n m t hc
  have hop : sK (trn (fi 0) n) n m t = 3 ∧ sG (trn (fi 0) n) n m t = 40 := ⟨by omega, by have h9 := cg (by omega); omega⟩
  exact Or.inr ⟨by decide, gfa_c (sg_four ht (Or.inr (Or.inr hop)) (by omega)) (by omega) (by omega)⟩
