set_option maxHeartbeats 4000000 in
theorem PL_X5_readOneG2_22 {dd de : Nat} (hde : de = dd + 1) (hle : dd ≤ 8) {fi : Nat → Nat → Int32} {fl : Nat → Nat → Int64} {vi : Nat → Int32} {vl : Nat → Int64} {r : Int32} {fj : Nat → Nat → Int32} {fm : Nat → Nat → Int64} {vj : Nat → Int32} {vm : Nat → Int64} : RL_X5_readOneG2_22 dd de fi fl vi vl r fj fm vj vm (PS_X5_readOneG2 dd de fi fl vi vl r fj fm vj vm) := by
  unfold RL_X5_readOneG2_22
  intro hp0 hp1 hp2 hp3 hp4 hp5 hp6 hp7 hp8 hp9 fik flk vik vlk rk gk_0 fik_1 flk_1 vik_1 vlk_1 rk_1 gk_1_1 tb gk_1_0 fik_19 flk_19 vik_19 vlk_19 rk_19 tb_10 gk_19_0 c28_2 c55_5 z79_5 ez79_5 tz79_5 fik_25 flk_25 vik_25 vlk_25 uk_25 gk_25_0 gk_25_1 gk_25_2 fik_26 flk_26 vik_26 vlk_26 rk_26 gk_26_1 gk_26_2 gk_26_3 gk_26_4 gk_26_5 gk_26_6 gk_26_7 gk_26_8 tb_13 gk_26_0 fik_27 flk_27 vik_27 vlk_27 rk_27 gk_27_1 gk_27_2 gk_27_3 gk_27_4 gk_27_5 tb_14 gk_27_0 q0 q1 q2 q3 q4 q5 q6 q7 q8 q9 q10 q11 q12 q13 q14; subst q0
  unfold PS_X5_readOneG2
  intro n m t hc σ hd
  (try simp only [q1, q2, q3, q4, q5, q6, q7, q8, q9, q10, q11, q12, q13, q14]); have k9_0 : (0 : Int32).toInt = 0 := (by decide); have k9_1 : (1 : Int32).toInt = 1 := (by decide); have k9_2 : (40 : Int32).toInt = 40 := (by decide)
  have hc0 := hc
  obtain ⟨hn, hm, ht, ck, cp, ce, cw, cu, cg⟩ := hc0
  have n_not : ¬ isW (trn (fi 0) n) n m t 7237492 := by
    rcases gk_1_1 with ⟨z1, z2, z3⟩ | ⟨z1, z2⟩
    · exact absurd (z1.symm.trans tb) (by decide)
    · exact fun c => z2 ⟨ck.trans c.1, by rw [cw c.1]; exact c.2⟩
  have hla := gk_0 n m t hc
  have hop : sK (trn (fi 0) n) n m t = 3 ∧ sG (trn (fi 0) n) n m t = 40 := ⟨by omega, by have h9 := cg (by omega); omega⟩
  have hc1 := CC_nx hc gk_25_2
  rcases gk_26_8 n m _ hc1 (true :: σ) (show σ.length + 1 + 1 = de by omega) rfl with ⟨b1, t9, b2, b3, b4, b5⟩ | ⟨b1, b2⟩
  · have ht9 := b2.2.2.1
    rcases gk_27_5 n m _ b2 with ⟨c1, c2, c3, c4⟩ | ⟨c1, c2, c3, c4⟩
    · exact absurd (c1.symm.trans tb_14) (by decide)
    · exact Or.inr ⟨by decide, gto_fa (gto_tr (sg_open ht hop (by omega) (by omega) (by omega)) b5) (gfa_c (sg_cant ht9 b3 b4 ((Classical.em (sK (trn (fi 0) n) n m t9 = 0)).elim (fun e9 => Or.inl ⟨e9, by simp⟩) (fun e9 => Or.inr ⟨e9, Or.inl c2⟩))) c3 c4)⟩
  · exact absurd (b1.symm.trans tb_13) (by decide)
set_option maxHeartbeats 4000000 in
theorem PL_X5_readOneG2_23 {dd de : Nat} (hde : de = dd + 1) (hle : dd ≤ 8) {fi : Nat → Nat → Int32} {fl : Nat → Nat → Int64} {vi : Nat → Int32} {vl : Nat → Int64} {r : Int32} {fj : Nat → Nat → Int32} {fm : Nat → Nat → Int64} {vj : Nat → Int32} {vm : Nat → Int64} : RL_X5_readOneG2_23 dd de fi fl vi vl r fj fm vj vm (PS_X5_readOneG2 dd de fi fl vi vl r fj fm vj vm) := by
  unfold RL_X5_readOneG2_23
  intro hp0 hp1 hp2 hp3 hp4 hp5 hp6 hp7 hp8 hp9 fik flk vik vlk rk gk_0 fik_1 flk_1 vik_1 vlk_1 rk_1 gk_1_1 tb gk_1_0 fik_19 flk_19 vik_19 vlk_19 rk_19 tb_10 gk_19_0 c28_2 c55_5 z79_5 ez79_5 tz79_5 fik_25 flk_25 vik_25 vlk_25 uk_25 gk_25_0 gk_25_1 gk_25_2 fik_26 flk_26 vik_26 vlk_26 rk_26 gk_26_1 gk_26_2 gk_26_3 gk_26_4 gk_26_5 gk_26_6 gk_26_7 gk_26_8 tb_13 gk_26_0 q0 q1 q2 q3 q4 q5 q6 q7 q8 q9 q10 q11 q12 q13 q14; subst q0
  unfold PS_X5_readOneG2
  intro n m t hc σ hd
  (try simp only [q1, q2, q3, q4, q5, q6, q7, q8, q9, q10, q11, q12, q13, q14]); have k9_0 : (0 : Int32).toInt = 0 := (by decide); have k9_1 : (1 : Int32).toInt = 1 := (by decide); have k9_2 : (40 : Int32).toInt = 40 := (by decide)
  have hc0 := hc
  obtain ⟨hn, hm, ht, ck, cp, ce, cw, cu, cg⟩ := hc0
  have n_not : ¬ isW (trn (fi 0) n) n m t 7237492 := by
    rcases gk_1_1 with ⟨z1, z2, z3⟩ | ⟨z1, z2⟩
    · exact absurd (z1.symm.trans tb) (by decide)
    · exact fun c => z2 ⟨ck.trans c.1, by rw [cw c.1]; exact c.2⟩
  have hla := gk_0 n m t hc
  have hop : sK (trn (fi 0) n) n m t = 3 ∧ sG (trn (fi 0) n) n m t = 40 := ⟨by omega, by have h9 := cg (by omega); omega⟩
  have hc1 := CC_nx hc gk_25_2
  rcases gk_26_8 n m _ hc1 (true :: σ) (show σ.length + 1 + 1 = de by omega) rfl with ⟨b1, t9, b2, b3, b4, b5⟩ | ⟨b1, b2⟩
  · exact absurd (b1.symm.trans tb_13) (by decide)
  · exact Or.inr ⟨by decide, gto_fa (sg_open ht hop (by omega) (by omega) (by omega)) b2⟩
set_option maxHeartbeats 4000000 in
theorem PL_X5_readOneG2_24 {dd de : Nat} (hde : de = dd + 1) (hle : dd ≤ 8) {fi : Nat → Nat → Int32} {fl : Nat → Nat → Int64} {vi : Nat → Int32} {vl : Nat → Int64} {r : Int32} {fj : Nat → Nat → Int32} {fm : Nat → Nat → Int64} {vj : Nat → Int32} {vm : Nat → Int64} : RL_X5_readOneG2_24 dd de fi fl vi vl r fj fm vj vm (PS_X5_readOneG2 dd de fi fl vi vl r fj fm vj vm) := by
  unfold RL_X5_readOneG2_24
  intro hp0 hp1 hp2 hp3 hp4 hp5 hp6 hp7 hp8 hp9 fik flk vik vlk rk gk_0 fik_1 flk_1 vik_1 vlk_1 rk_1 gk_1_1 tb gk_1_0 fik_19 flk_19 vik_19 vlk_19 rk_19 tb_10 gk_19_0 c28_3 c55_6 fik_28 flk_28 vik_28 vlk_28 rk_28 gk_28_0 gk_28_1 gk_28_2 q0 q1 q2 q3 q4 q5 q6 q7 q8 q9 q10 q11 q12 q13 q14; subst q0
  unfold PS_X5_readOneG2
  intro n m t hc σ hd
  (try simp only [q1, q2, q3, q4, q5, q6, q7, q8, q9, q10, q11, q12, q13, q14]); have k9_0 : (0 : Int32).toInt = 0 := (by decide); have k9_1 : (1 : Int32).toInt = 1 := (by decide); have k9_2 : (4 : Int32).toInt = 4 := (by decide); have k9_3 : (40 : Int32).toInt = 40 := (by decide)
  have hc0 := hc
  obtain ⟨hn, hm, ht, ck, cp, ce, cw, cu, cg⟩ := hc0
  have n_not : ¬ isW (trn (fi 0) n) n m t 7237492 := by
    rcases gk_1_1 with ⟨z1, z2, z3⟩ | ⟨z1, z2⟩
    · exact absurd (z1.symm.trans tb) (by decide)
    · exact fun c => z2 ⟨ck.trans c.1, by rw [cw c.1]; exact c.2⟩
  have hla := gk_0 n m t hc
  have hno : ¬ (sK (trn (fi 0) n) n m t = 3 ∧ sG (trn (fi 0) n) n m t = 40) := fun c => by have h9 := cg c.1; omega
  exact Or.inr ⟨by decide, gfa_c (sg_four ht (Or.inl (LFR_nn hla (by omega))) (by omega)) (by omega) (by omega)⟩
set_option maxHeartbeats 4000000 in
theorem PL_X5_readOneG2_25 {dd de : Nat} (hde : de = dd + 1) (hle : dd ≤ 8) {fi : Nat → Nat → Int32} {fl : Nat → Nat → Int64} {vi : Nat → Int32} {vl : Nat → Int64} {r : Int32} {fj : Nat → Nat → Int32} {fm : Nat → Nat → Int64} {vj : Nat → Int32} {vm : Nat → Int64} : RL_X5_readOneG2_25 dd de fi fl vi vl r fj fm vj vm (PS_X5_readOneG2 dd de fi fl vi vl r fj fm vj vm) := by
  unfold RL_X5_readOneG2_25
  intro hp0 hp1 hp2 hp3 hp4 hp5 hp6 hp7 hp8 hp9 fik flk vik vlk rk gk_0 fik_1 flk_1 vik_1 vlk_1 rk_1 gk_1_1 tb gk_1_0 fik_19 flk_19 vik_19 vlk_19 rk_19 tb_10 gk_19_0 c28_3 c55_6 z79_6 ez79_6 tz79_6 fik_29 flk_29 vik_29 vlk_29 uk_29 gk_29_0 gk_29_1 gk_29_2 fik_30 flk_30 vik_30 vlk_30 rk_30 gk_30_1 gk_30_2 gk_30_3 gk_30_4 gk_30_5 gk_30_6 gk_30_7 tb_15 gk_30_0 q0 q1 q2 q3 q4 q5 q6 q7 q8 q9 q10 q11 q12 q13 q14; subst q0
  unfold PS_X5_readOneG2
  intro n m t hc σ hd
  (try simp only [q1, q2, q3, q4, q5, q6, q7, q8, q9, q10, q11, q12, q13, q14]); have k9_0 : (0 : Int32).toInt = 0 := (by decide); have k9_1 : (1 : Int32).toInt = 1 := (by decide); have k9_2 : (40 : Int32).toInt = 40 := (by decide)
  have hc0 := hc
  obtain ⟨hn, hm, ht, ck, cp, ce, cw, cu, cg⟩ := hc0
  have n_not : ¬ isW (trn (fi 0) n) n m t 7237492 := by
    rcases gk_1_1 with ⟨z1, z2, z3⟩ | ⟨z1, z2⟩
    · exact absurd (z1.symm.trans tb) (by decide)
    · exact fun c => z2 ⟨ck.trans c.1, by rw [cw c.1]; exact c.2⟩
  have hla := gk_0 n m t hc
  have hno : ¬ (sK (trn (fi 0) n) n m t = 3 ∧ sG (trn (fi 0) n) n m t = 40) := fun c => by have h9 := cg c.1; omega
  have hc1 := CC_nx hc gk_29_2
  have hne := LFR_nn hla (by omega)
  rcases gk_30_7 n m _ hc1 _ hla (by omega) with ⟨b1, t9, b2, b3⟩ | ⟨b1, b2⟩
  · exact Or.inl ⟨by decide, t9, b3, sg_leaf ht hne (by omega) (by omega) b2 (by omega)⟩
  · exact absurd (b1.symm.trans tb_15) (by decide)
set_option maxHeartbeats 4000000 in
theorem PL_X5_readOneG2_26 {dd de : Nat} (hde : de = dd + 1) (hle : dd ≤ 8) {fi : Nat → Nat → Int32} {fl : Nat → Nat → Int64} {vi : Nat → Int32} {vl : Nat → Int64} {r : Int32} {fj : Nat → Nat → Int32} {fm : Nat → Nat → Int64} {vj : Nat → Int32} {vm : Nat → Int64} : RL_X5_readOneG2_26 dd de fi fl vi vl r fj fm vj vm (PS_X5_readOneG2 dd de fi fl vi vl r fj fm vj vm) := by
  unfold RL_X5_readOneG2_26
  intro hp0 hp1 hp2 hp3 hp4 hp5 hp6 hp7 hp8 hp9 fik flk vik vlk rk gk_0 fik_1 flk_1 vik_1 vlk_1 rk_1 gk_1_1 tb gk_1_0 fik_19 flk_19 vik_19 vlk_19 rk_19 tb_10 gk_19_0 c28_3 c55_6 z79_6 ez79_6 tz79_6 fik_29 flk_29 vik_29 vlk_29 uk_29 gk_29_0 gk_29_1 gk_29_2 fik_30 flk_30 vik_30 vlk_30 rk_30 gk_30_1 gk_30_2 gk_30_3 gk_30_4 gk_30_5 gk_30_6 gk_30_7 tb_15 gk_30_0 q0 q1 q2 q3 q4 q5 q6 q7 q8 q9 q10 q11 q12 q13 q14; subst q0
  unfold PS_X5_readOneG2
  intro n m t hc σ hd
  (try simp only [q1, q2, q3, q4, q5, q6, q7, q8, q9, q10, q11, q12, q13, q14]); have k9_0 : (0 : Int32).toInt = 0 := (by decide); have k9_1 : (1 : Int32).toInt = 1 := (by decide); have k9_2 : (40 : Int32).toInt = 40 := (by decide)
  have hc0 := hc
  obtain ⟨hn, hm, ht, ck, cp, ce, cw, cu, cg⟩ := hc0
  have n_not : ¬ isW (trn (fi 0) n) n m t 7237492 := by
    rcases gk_1_1 with ⟨z1, z2, z3⟩ | ⟨z1, z2⟩
    · exact absurd (z1.symm.trans tb) (by decide)
    · exact fun c => z2 ⟨ck.trans c.1, by rw [cw c.1]; exact c.2⟩
  have hla := gk_0 n m t hc
  have hno : ¬ (sK (trn (fi 0) n) n m t = 3 ∧ sG (trn (fi 0) n) n m t = 40) := fun c => by have h9 := cg c.1; omega
  have hc1 := CC_nx hc gk_29_2
  have hne := LFR_nn hla (by omega)
  rcases gk_30_7 n m _ hc1 _ hla (by omega) with ⟨b1, t9, b2, b3⟩ | ⟨b1, b2⟩
  · exact absurd (b1.symm.trans tb_15) (by decide)
  · exact Or.inr ⟨by decide, sg_leafb ht hne (by omega) (by omega) b2⟩
set_option maxHeartbeats 4000000 in
theorem PL_X5_readOneG2_27 {dd de : Nat} (hde : de = dd + 1) (hle : dd ≤ 8) {fi : Nat → Nat → Int32} {fl : Nat → Nat → Int64} {vi : Nat → Int32} {vl : Nat → Int64} {r : Int32} {fj : Nat → Nat → Int32} {fm : Nat → Nat → Int64} {vj : Nat → Int32} {vm : Nat → Int64} : RL_X5_readOneG2_27 dd de fi fl vi vl r fj fm vj vm (PS_X5_readOneG2 dd de fi fl vi vl r fj fm vj vm) := by
  unfold RL_X5_readOneG2_27
  intro hp0 hp1 hp2 hp3 hp4 hp5 hp6 hp7 hp8 hp9 fik flk vik vlk rk gk_0 fik_1 flk_1 vik_1 vlk_1 rk_1 gk_1_1 tb gk_1_0 fik_19 flk_19 vik_19 vlk_19 rk_19 tb_10 gk_19_0 c28_3 fik_31 flk_31 vik_31 vlk_31 rk_31 gk_31_0 gk_31_1 gk_31_2 q0 q1 q2 q3 q4 q5 q6 q7 q8 q9 q10 q11 q12 q13 q14; subst q0
  unfold PS_X5_readOneG2
  intro n m t hc σ hd
  (try simp only [q1, q2, q3, q4, q5, q6, q7, q8, q9, q10, q11, q12, q13, q14]); have k9_0 : (0 : Int32).toInt = 0 := (by decide); have k9_1 : (1 : Int32).toInt = 1 := (by decide); have k9_2 : (40 : Int32).toInt = 40 := (by decide)
  have hc0 := hc
  obtain ⟨hn, hm, ht, ck, cp, ce, cw, cu, cg⟩ := hc0
  have n_not : ¬ isW (trn (fi 0) n) n m t 7237492 := by
    rcases gk_1_1 with ⟨z1, z2, z3⟩ | ⟨z1, z2⟩
    · exact absurd (z1.symm.trans tb) (by decide)
    · exact fun c => z2 ⟨ck.trans c.1, by rw [cw c.1]; exact c.2⟩
  have hla := gk_0 n m t hc
  have hno : ¬ (sK (trn (fi 0) n) n m t = 3 ∧ sG (trn (fi 0) n) n m t = 40) := fun c => by have h9 := cg c.1; omega
  exact Or.inr ⟨by decide, gfa_c (sg_none ht (LFR_n hla (by omega)) n_not hno) (by omega) (by omega)⟩
theorem P_X5_readOneG2 {dd de : Nat} (hde : de = dd + 1) (hle : dd ≤ 8) {fi : Nat → Nat → Int32} {fl : Nat → Nat → Int64} {vi : Nat → Int32} {vl : Nat → Int64} {r : Int32} {fj : Nat → Nat → Int32} {fm : Nat → Nat → Int64} {vj : Nat → Int32} {vm : Nat → Int64} (h : R_X5_readOneG2 dd de fi fl vi vl r fj fm vj vm) : ∀ n m t : Nat, CC (trn (fi 0) n) n m t (vi 3) (vi 4) (vi 6) (vi 7) (vi 5) (vl 0) (vi 8) (vi 9) → ∀ σ : List Bool, σ.length + 1 = dd → (r.toInt = 1 ∧ ∃ t' : Nat, CC (trn (fi 0) n) n m t' (vi 3) (vi 4) (vj 3) (vj 4) (vj 7) (vm 0) (vj 6) (vj 5) ∧ gto n (SF (trn (fi 0) n) n m (ownB (fl 0)) (fl 1) (vi 13).toInt σ false (vi 1).toInt t) t (SF (trn (fi 0) n) n m (ownB (fl 0)) (fl 1) (vi 13).toInt (sps σ) true (vj 2).toInt t') t') ∨ (r.toInt = 0 ∧ gfa n (SF (trn (fi 0) n) n m (ownB (fl 0)) (fl 1) (vi 13).toInt σ false (vi 1).toInt t) t (vj 0).toInt (vj 1).toInt) := h (PS_X5_readOneG2 dd de fi fl vi vl r fj fm vj vm) (PL_X5_readOneG2_0 hde hle) (PL_X5_readOneG2_1 hde hle) (PL_X5_readOneG2_2 hde hle) (PL_X5_readOneG2_3 hde hle) (PL_X5_readOneG2_4 hde hle) (PL_X5_readOneG2_5 hde hle) (PL_X5_readOneG2_6 hde hle) (PL_X5_readOneG2_7 hde hle) (PL_X5_readOneG2_8 hde hle) (PL_X5_readOneG2_9 hde hle) (PL_X5_readOneG2_10 hde hle) (PL_X5_readOneG2_11 hde hle) (PL_X5_readOneG2_12 hde hle) (PL_X5_readOneG2_13 hde hle) (PL_X5_readOneG2_14 hde hle) (PL_X5_readOneG2_15 hde hle) (PL_X5_readOneG2_16 hde hle) (PL_X5_readOneG2_17 hde hle) (PL_X5_readOneG2_18 hde hle) (PL_X5_readOneG2_19 hde hle) (PL_X5_readOneG2_20 hde hle) (PL_X5_readOneG2_21 hde hle) (PL_X5_readOneG2_22 hde hle) (PL_X5_readOneG2_23 hde hle) (PL_X5_readOneG2_24 hde hle) (PL_X5_readOneG2_25 hde hle) (PL_X5_readOneG2_26 hde hle) (PL_X5_readOneG2_27 hde hle)
def R_X5_readOne_7 (fi : Nat → Nat → Int32) (fl : Nat → Nat → Int64) (vi : Nat → Int32) (vl : Nat → Int64) (r : Int32) (fj : Nat → Nat → Int32) (fm : Nat → Nat → Int64) (vj : Nat → Int32) (vm : Nat → Int64) : Prop := R_X5_readOneG2 7 8 fi fl vi vl r fj fm vj vm
theorem P_X5_readOne_7 {fi : Nat → Nat → Int32} {fl : Nat → Nat → Int64} {vi : Nat → Int32} {vl : Nat → Int64} {r : Int32} {fj : Nat → Nat → Int32} {fm : Nat → Nat → Int64} {vj : Nat → Int32} {vm : Nat → Int64} (h : R_X5_readOne_7 fi fl vi vl r fj fm vj vm) : ∀ n m t : Nat, CC (trn (fi 0) n) n m t (vi 3) (vi 4) (vi 6) (vi 7) (vi 5) (vl 0) (vi 8) (vi 9) → ∀ σ : List Bool, σ.length + 1 = 7 → (r.toInt = 1 ∧ ∃ t' : Nat, CC (trn (fi 0) n) n m t' (vi 3) (vi 4) (vj 3) (vj 4) (vj 7) (vm 0) (vj 6) (vj 5) ∧ gto n (SF (trn (fi 0) n) n m (ownB (fl 0)) (fl 1) (vi 13).toInt σ false (vi 1).toInt t) t (SF (trn (fi 0) n) n m (ownB (fl 0)) (fl 1) (vi 13).toInt (sps σ) true (vj 2).toInt t') t') ∨ (r.toInt = 0 ∧ gfa n (SF (trn (fi 0) n) n m (ownB (fl 0)) (fl 1) (vi 13).toInt σ false (vi 1).toInt t) t (vj 0).toInt (vj 1).toInt) := P_X5_readOneG2 (dd := 7) (de := 8) rfl (by decide) h
def R_X5_readAll_4 (fi : Nat → Nat → Int32) (fl : Nat → Nat → Int64) (vi : Nat → Int32) (vl : Nat → Int64) (r : Int32) (fj : Nat → Nat → Int32) (fm : Nat → Nat → Int64) (vj : Nat → Int32) (vm : Nat → Int64) : Prop := R_X5_readAllG 7 8 fi fl vi vl r fj fm vj vm
theorem P_X5_readAll_4 {fi : Nat → Nat → Int32} {fl : Nat → Nat → Int64} {vi : Nat → Int32} {vl : Nat → Int64} {r : Int32} {fj : Nat → Nat → Int32} {fm : Nat → Nat → Int64} {vj : Nat → Int32} {vm : Nat → Int64} (h : R_X5_readAll_4 fi fl vi vl r fj fm vj vm) : ∀ n m t : Nat, CC (trn (fi 0) n) n m t (vi 3) (vi 4) (vi 6) (vi 7) (vi 5) (vl 0) (vi 8) (vi 9) → ∀ σ : List Bool, σ.length + 1 = 7 → sps σ = σ → (r.toInt = 1 ∧ ∃ t' : Nat, CC (trn (fi 0) n) n m t' (vi 3) (vi 4) (vj 3) (vj 4) (vj 7) (vm 0) (vj 6) (vj 5) ∧ ¬ isW (trn (fi 0) n) n m t' 6385252 ∧ gto n (SF (trn (fi 0) n) n m (ownB (fl 0)) (fl 1) (vi 13).toInt σ false (vi 1).toInt t) t (SF (trn (fi 0) n) n m (ownB (fl 0)) (fl 1) (vi 13).toInt σ true (vj 2).toInt t') t') ∨ (r.toInt = 0 ∧ gfa n (SF (trn (fi 0) n) n m (ownB (fl 0)) (fl 1) (vi 13).toInt σ false (vi 1).toInt t) t (vj 0).toInt (vj 1).toInt) := P_X5_readAllG (dd := 7) (de := 8) rfl (by decide) h
def R_X5_readCond_4 (fi : Nat → Nat → Int32) (fl : Nat → Nat → Int64) (vi : Nat → Int32) (vl : Nat → Int64) (r : Int32) (fj : Nat → Nat → Int32) (fm : Nat → Nat → Int64) (vj : Nat → Int32) (vm : Nat → Int64) : Prop := R_X5_readCondG 7 8 fi fl vi vl r fj fm vj vm
theorem P_X5_readCond_4 {fi : Nat → Nat → Int32} {fl : Nat → Nat → Int64} {vi : Nat → Int32} {vl : Nat → Int64} {r : Int32} {fj : Nat → Nat → Int32} {fm : Nat → Nat → Int64} {vj : Nat → Int32} {vm : Nat → Int64} (h : R_X5_readCond_4 fi fl vi vl r fj fm vj vm) : ∀ n m t : Nat, CC (trn (fi 0) n) n m t (vi 3) (vi 4) (vi 6) (vi 7) (vi 5) (vl 0) (vi 8) (vi 9) → ∀ σ : List Bool, σ.length + 1 = 7 → sps σ = σ → (r.toInt = 1 ∧ ∃ t' : Nat, CC (trn (fi 0) n) n m t' (vi 3) (vi 4) (vj 3) (vj 4) (vj 7) (vm 0) (vj 6) (vj 5) ∧ ¬ isW (trn (fi 0) n) n m t' 6385252 ∧ ¬ isW (trn (fi 0) n) n m t' 28530 ∧ gto n (SF (trn (fi 0) n) n m (ownB (fl 0)) (fl 1) (vi 13).toInt σ false (vi 1).toInt t) t (SF (trn (fi 0) n) n m (ownB (fl 0)) (fl 1) (vi 13).toInt σ true (vj 2).toInt t') t') ∨ (r.toInt = 0 ∧ gfa n (SF (trn (fi 0) n) n m (ownB (fl 0)) (fl 1) (vi 13).toInt σ false (vi 1).toInt t) t (vj 0).toInt (vj 1).toInt) := P_X5_readCondG (dd := 7) (de := 8) rfl (by decide) h
def R_X5_readOne_6 (fi : Nat → Nat → Int32) (fl : Nat → Nat → Int64) (vi : Nat → Int32) (vl : Nat → Int64) (r : Int32) (fj : Nat → Nat → Int32) (fm : Nat → Nat → Int64) (vj : Nat → Int32) (vm : Nat → Int64) : Prop := R_X5_readOneG2 6 7 fi fl vi vl r fj fm vj vm
theorem P_X5_readOne_6 {fi : Nat → Nat → Int32} {fl : Nat → Nat → Int64} {vi : Nat → Int32} {vl : Nat → Int64} {r : Int32} {fj : Nat → Nat → Int32} {fm : Nat → Nat → Int64} {vj : Nat → Int32} {vm : Nat → Int64} (h : R_X5_readOne_6 fi fl vi vl r fj fm vj vm) : ∀ n m t : Nat, CC (trn (fi 0) n) n m t (vi 3) (vi 4) (vi 6) (vi 7) (vi 5) (vl 0) (vi 8) (vi 9) → ∀ σ : List Bool, σ.length + 1 = 6 → (r.toInt = 1 ∧ ∃ t' : Nat, CC (trn (fi 0) n) n m t' (vi 3) (vi 4) (vj 3) (vj 4) (vj 7) (vm 0) (vj 6) (vj 5) ∧ gto n (SF (trn (fi 0) n) n m (ownB (fl 0)) (fl 1) (vi 13).toInt σ false (vi 1).toInt t) t (SF (trn (fi 0) n) n m (ownB (fl 0)) (fl 1) (vi 13).toInt (sps σ) true (vj 2).toInt t') t') ∨ (r.toInt = 0 ∧ gfa n (SF (trn (fi 0) n) n m (ownB (fl 0)) (fl 1) (vi 13).toInt σ false (vi 1).toInt t) t (vj 0).toInt (vj 1).toInt) := P_X5_readOneG2 (dd := 6) (de := 7) rfl (by decide) h
def R_X5_readAll_5 (fi : Nat → Nat → Int32) (fl : Nat → Nat → Int64) (vi : Nat → Int32) (vl : Nat → Int64) (r : Int32) (fj : Nat → Nat → Int32) (fm : Nat → Nat → Int64) (vj : Nat → Int32) (vm : Nat → Int64) : Prop := R_X5_readAllG 6 7 fi fl vi vl r fj fm vj vm
theorem P_X5_readAll_5 {fi : Nat → Nat → Int32} {fl : Nat → Nat → Int64} {vi : Nat → Int32} {vl : Nat → Int64} {r : Int32} {fj : Nat → Nat → Int32} {fm : Nat → Nat → Int64} {vj : Nat → Int32} {vm : Nat → Int64} (h : R_X5_readAll_5 fi fl vi vl r fj fm vj vm) : ∀ n m t : Nat, CC (trn (fi 0) n) n m t (vi 3) (vi 4) (vi 6) (vi 7) (vi 5) (vl 0) (vi 8) (vi 9) → ∀ σ : List Bool, σ.length + 1 = 6 → sps σ = σ → (r.toInt = 1 ∧ ∃ t' : Nat, CC (trn (fi 0) n) n m t' (vi 3) (vi 4) (vj 3) (vj 4) (vj 7) (vm 0) (vj 6) (vj 5) ∧ ¬ isW (trn (fi 0) n) n m t' 6385252 ∧ gto n (SF (trn (fi 0) n) n m (ownB (fl 0)) (fl 1) (vi 13).toInt σ false (vi 1).toInt t) t (SF (trn (fi 0) n) n m (ownB (fl 0)) (fl 1) (vi 13).toInt σ true (vj 2).toInt t') t') ∨ (r.toInt = 0 ∧ gfa n (SF (trn (fi 0) n) n m (ownB (fl 0)) (fl 1) (vi 13).toInt σ false (vi 1).toInt t) t (vj 0).toInt (vj 1).toInt) := P_X5_readAllG (dd := 6) (de := 7) rfl (by decide) h
def R_X5_readCond_5 (fi : Nat → Nat → Int32) (fl : Nat → Nat → Int64) (vi : Nat → Int32) (vl : Nat → Int64) (r : Int32) (fj : Nat → Nat → Int32) (fm : Nat → Nat → Int64) (vj : Nat → Int32) (vm : Nat → Int64) : Prop := R_X5_readCondG 6 7 fi fl vi vl r fj fm vj vm
theorem P_X5_readCond_5 {fi : Nat → Nat → Int32} {fl : Nat → Nat → Int64} {vi : Nat → Int32} {vl : Nat → Int64} {r : Int32} {fj : Nat → Nat → Int32} {fm : Nat → Nat → Int64} {vj : Nat → Int32} {vm : Nat → Int64} (h : R_X5_readCond_5 fi fl vi vl r fj fm vj vm) : ∀ n m t : Nat, CC (trn (fi 0) n) n m t (vi 3) (vi 4) (vi 6) (vi 7) (vi 5) (vl 0) (vi 8) (vi 9) → ∀ σ : List Bool, σ.length + 1 = 6 → sps σ = σ → (r.toInt = 1 ∧ ∃ t' : Nat, CC (trn (fi 0) n) n m t' (vi 3) (vi 4) (vj 3) (vj 4) (vj 7) (vm 0) (vj 6) (vj 5) ∧ ¬ isW (trn (fi 0) n) n m t' 6385252 ∧ ¬ isW (trn (fi 0) n) n m t' 28530 ∧ gto n (SF (trn (fi 0) n) n m (ownB (fl 0)) (fl 1) (vi 13).toInt σ false (vi 1).toInt t) t (SF (trn (fi 0) n) n m (ownB (fl 0)) (fl 1) (vi 13).toInt σ true (vj 2).toInt t') t') ∨ (r.toInt = 0 ∧ gfa n (SF (trn (fi 0) n) n m (ownB (fl 0)) (fl 1) (vi 13).toInt σ false (vi 1).toInt t) t (vj 0).toInt (vj 1).toInt) := P_X5_readCondG (dd := 6) (de := 7) rfl (by decide) h
