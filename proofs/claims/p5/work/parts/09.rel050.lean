set_option maxHeartbeats 4000000 in
theorem PL_X5_readCondG_0 {dd de : Nat} (hde : de = dd + 1) (hle : dd ≤ 8) {fi : Nat → Nat → Int32} {fl : Nat → Nat → Int64} {vi : Nat → Int32} {vl : Nat → Int64} {r : Int32} {fj : Nat → Nat → Int32} {fm : Nat → Nat → Int64} {vj : Nat → Int32} {vm : Nat → Int64} : RL_X5_readCondG_0 dd de fi fl vi vl r fj fm vj vm (PS_X5_readCondG dd de fi fl vi vl r fj fm vj vm) := by
  unfold RL_X5_readCondG_0
  intro hp0 hp1 hp2 hp3 hp4 hp5 hp6 hp7 hp8 hp9 fik flk vik vlk rk gk_1 gk_2 gk_3 gk_4 gk_5 gk_6 gk_7 gk_8 tb gk_0 w3 w2 wv wv_1 wv_2 wv_3 wv_4 wv_5 wv_6 wv_7 wv_8 wf wf_1 wf_2 wv_9 wv_10 hi hi_1 hi_2 hi_3 hi_4 hi_5 hi_6 hai9 hni9 hfj9 hbz c11 q0 q1 q2 q3 q4 q5 q6 q7 q8 q9 q10 q11 q12 q13 q14; subst q0
  unfold PS_X5_readCondG
  intro n m t hc σ hd hs
  (try simp only [q1, q2, q3, q4, q5, q6, q7, q8, q9, q10, q11, q12, q13, q14]); have k9_0 : (0 : Int32).toInt = 0 := (by decide); have k9_1 : (1 : Int32).toInt = 1 := (by decide)
  rcases hai9 n m t hc σ hd hs with ⟨a1, t8, a2, a4, a3⟩ | ⟨a1, a2⟩
  · exfalso; omega
  · exact Or.inr ⟨by decide, a2⟩
set_option maxHeartbeats 4000000 in
theorem PL_X5_readCondG_1 {dd de : Nat} (hde : de = dd + 1) (hle : dd ≤ 8) {fi : Nat → Nat → Int32} {fl : Nat → Nat → Int64} {vi : Nat → Int32} {vl : Nat → Int64} {r : Int32} {fj : Nat → Nat → Int32} {fm : Nat → Nat → Int64} {vj : Nat → Int32} {vm : Nat → Int64} : RL_X5_readCondG_1 dd de fi fl vi vl r fj fm vj vm (PS_X5_readCondG dd de fi fl vi vl r fj fm vj vm) := by
  unfold RL_X5_readCondG_1
  intro hp0 hp1 hp2 hp3 hp4 hp5 hp6 hp7 hp8 hp9 fik flk vik vlk rk gk_1 gk_2 gk_3 gk_4 gk_5 gk_6 gk_7 gk_8 tb gk_0 w3 w2 wv wv_1 wv_2 wv_3 wv_4 wv_5 wv_6 wv_7 wv_8 wf wf_1 wf_2 wv_9 wv_10 hi hi_1 hi_2 hi_3 hi_4 hi_5 hi_6 hai9 hni9 hfj9 hbz c11 q0 q1 q2 q3 q4 q5 q6 q7 q8 q9 q10 q11 q12 q13 q14; subst q0
  unfold PS_X5_readCondG
  intro n m t hc σ hd hs
  (try simp only [q1, q2, q3, q4, q5, q6, q7, q8, q9, q10, q11, q12, q13, q14]); have k9_0 : (0 : Int32).toInt = 0 := (by decide); have k9_1 : (1 : Int32).toInt = 1 := (by decide)
  rcases hai9 n m t hc σ hd hs with ⟨a1, t8, a2, a4, a3⟩ | ⟨a1, a2⟩
  · exfalso; omega
  · exact Or.inr ⟨by decide, a2⟩
set_option maxHeartbeats 4000000 in
theorem PL_X5_readCondG_2 {dd de : Nat} (hde : de = dd + 1) (hle : dd ≤ 8) {fi : Nat → Nat → Int32} {fl : Nat → Nat → Int64} {vi : Nat → Int32} {vl : Nat → Int64} {r : Int32} {fj : Nat → Nat → Int32} {fm : Nat → Nat → Int64} {vj : Nat → Int32} {vm : Nat → Int64} : RL_X5_readCondG_2 dd de fi fl vi vl r fj fm vj vm (PS_X5_readCondG dd de fi fl vi vl r fj fm vj vm) := by
  unfold RL_X5_readCondG_2
  intro hp0 hp1 hp2 hp3 hp4 hp5 hp6 hp7 hp8 hp9 fik flk vik vlk rk gk_1 gk_2 gk_3 gk_4 gk_5 gk_6 gk_7 gk_8 tb gk_0 w3 w2 wv wv_1 wv_2 wv_3 wv_4 wv_5 wv_6 wv_7 wv_8 wf wf_1 wf_2 wv_9 wv_10 hi hi_1 hi_2 hi_3 hi_4 hi_5 hi_6 hai9 hni9 hfj9 hbz c11_1 q0 q1 q2 q3 q4 q5 q6 q7 q8 q9 q10 q11 q12 q13 q14; subst q0
  unfold PS_X5_readCondG
  intro n m t hc σ hd hs
  (try simp only [q1, q2, q3, q4, q5, q6, q7, q8, q9, q10, q11, q12, q13, q14]); have k9_0 : (0 : Int32).toInt = 0 := (by decide); have k9_1 : (1 : Int32).toInt = 1 := (by decide)
  rcases hai9 n m t hc σ hd hs with ⟨a1, t8, a2, a4, a3⟩ | ⟨a1, a2⟩
  · exfalso; omega
  · exfalso; omega
set_option maxHeartbeats 4000000 in
theorem PL_X5_readCondG_3 {dd de : Nat} (hde : de = dd + 1) (hle : dd ≤ 8) {fi : Nat → Nat → Int32} {fl : Nat → Nat → Int64} {vi : Nat → Int32} {vl : Nat → Int64} {r : Int32} {fj : Nat → Nat → Int32} {fm : Nat → Nat → Int64} {vj : Nat → Int32} {vm : Nat → Int64} : RL_X5_readCondG_3 dd de fi fl vi vl r fj fm vj vm (PS_X5_readCondG dd de fi fl vi vl r fj fm vj vm) := by
  unfold RL_X5_readCondG_3
  intro hp0 hp1 hp2 hp3 hp4 hp5 hp6 hp7 hp8 hp9 fik flk vik vlk rk gk_1 gk_2 gk_3 gk_4 gk_5 gk_6 gk_7 gk_8 tb gk_0 w3 w2 wv wv_1 wv_2 wv_3 wv_4 wv_5 wv_6 wv_7 wv_8 wf wf_1 wf_2 wv_9 wv_10 hi hi_1 hi_2 hi_3 hi_4 hi_5 hi_6 hai9 hni9 hfj9 hbz c11_1 fik_1 flk_1 vik_1 vlk_1 rk_1 gk_1_1 tb_1 gk_1_0 q0 q1 q2 q3 q4 q5 q6 q7 q8 q9 q10 q11 q12 q13 q14; subst q0
  unfold PS_X5_readCondG
  intro n m t hc σ hd hs
  (try simp only [q1, q2, q3, q4, q5, q6, q7, q8, q9, q10, q11, q12, q13, q14]); have k9_0 : (0 : Int32).toInt = 0 := (by decide); have k9_1 : (1 : Int32).toInt = 1 := (by decide)
  rcases hai9 n m t hc σ hd hs with ⟨a1, t8, a2, a4, a3⟩ | ⟨a1, a2⟩
  · obtain ⟨hn, hm, ht, ck, cp, ce, cw, cu, cg⟩ := id a2
    have n_or : ¬ isW (trn (fi 0) n) n m t8 28530 := by
      rcases gk_1_1 with ⟨z1, z2, z3⟩ | ⟨z1, z2⟩
      · exact absurd (z1.symm.trans tb_1) (by decide)
      · exact fun c => z2 ⟨ck.trans c.1, by rw [cw c.1]; exact c.2⟩
    exact Or.inl ⟨by decide, t8, a2, a4, n_or, a3⟩
  · exfalso; omega
set_option maxHeartbeats 4000000 in
theorem PL_X5_readCondG_4 {dd de : Nat} (hde : de = dd + 1) (hle : dd ≤ 8) {fi : Nat → Nat → Int32} {fl : Nat → Nat → Int64} {vi : Nat → Int32} {vl : Nat → Int64} {r : Int32} {fj : Nat → Nat → Int32} {fm : Nat → Nat → Int64} {vj : Nat → Int32} {vm : Nat → Int64} : RL_X5_readCondG_4 dd de fi fl vi vl r fj fm vj vm (PS_X5_readCondG dd de fi fl vi vl r fj fm vj vm) := by
  unfold RL_X5_readCondG_4
  intro hp0 hp1 hp2 hp3 hp4 hp5 hp6 hp7 hp8 hp9 fik flk vik vlk rk gk_1 gk_2 gk_3 gk_4 gk_5 gk_6 gk_7 gk_8 tb gk_0 w3_1 w2_1 wv_11 wv_12 wv_13 wv_14 wv_15 wv_16 wv_17 wv_18 wv_19 wf_3 wf_4 wf_5 wv_20 wv_21 hi_7 hi_8 hi_9 hi_10 hi_11 hi_12 hi_13 hai9 hni9 hfj9 hbz_1 c11_2 q0 q1 q2 q3 q4 q5 q6 q7 q8 q9 q10 q11 q12 q13 q14; subst q0
  unfold PS_X5_readCondG
  intro n m t hc σ hd hs
  (try simp only [q1, q2, q3, q4, q5, q6, q7, q8, q9, q10, q11, q12, q13, q14]); have k9_0 : (0 : Int32).toInt = 0 := (by decide); have k9_1 : (1 : Int32).toInt = 1 := (by decide)
  rcases hai9 n m t hc σ hd hs with ⟨a1, t8, a2, a4, a3⟩ | ⟨a1, a2⟩
  · exfalso; omega
  · exact Or.inr ⟨by decide, a2⟩
set_option maxHeartbeats 4000000 in
theorem PL_X5_readCondG_5 {dd de : Nat} (hde : de = dd + 1) (hle : dd ≤ 8) {fi : Nat → Nat → Int32} {fl : Nat → Nat → Int64} {vi : Nat → Int32} {vl : Nat → Int64} {r : Int32} {fj : Nat → Nat → Int32} {fm : Nat → Nat → Int64} {vj : Nat → Int32} {vm : Nat → Int64} : RL_X5_readCondG_5 dd de fi fl vi vl r fj fm vj vm (PS_X5_readCondG dd de fi fl vi vl r fj fm vj vm) := by
  unfold RL_X5_readCondG_5
  intro hp0 hp1 hp2 hp3 hp4 hp5 hp6 hp7 hp8 hp9 fik flk vik vlk rk gk_1 gk_2 gk_3 gk_4 gk_5 gk_6 gk_7 gk_8 tb gk_0 w3_1 w2_1 wv_11 wv_12 wv_13 wv_14 wv_15 wv_16 wv_17 wv_18 wv_19 wf_3 wf_4 wf_5 wv_20 wv_21 hi_7 hi_8 hi_9 hi_10 hi_11 hi_12 hi_13 hai9 hni9 hfj9 hbz_1 c11_2 q0 q1 q2 q3 q4 q5 q6 q7 q8 q9 q10 q11 q12 q13 q14; subst q0
  unfold PS_X5_readCondG
  intro n m t hc σ hd hs
  (try simp only [q1, q2, q3, q4, q5, q6, q7, q8, q9, q10, q11, q12, q13, q14]); have k9_0 : (0 : Int32).toInt = 0 := (by decide); have k9_1 : (1 : Int32).toInt = 1 := (by decide)
  rcases hai9 n m t hc σ hd hs with ⟨a1, t8, a2, a4, a3⟩ | ⟨a1, a2⟩
  · exfalso; omega
  · exact Or.inr ⟨by decide, a2⟩
set_option maxHeartbeats 4000000 in
theorem PL_X5_readCondG_6 {dd de : Nat} (hde : de = dd + 1) (hle : dd ≤ 8) {fi : Nat → Nat → Int32} {fl : Nat → Nat → Int64} {vi : Nat → Int32} {vl : Nat → Int64} {r : Int32} {fj : Nat → Nat → Int32} {fm : Nat → Nat → Int64} {vj : Nat → Int32} {vm : Nat → Int64} : RL_X5_readCondG_6 dd de fi fl vi vl r fj fm vj vm (PS_X5_readCondG dd de fi fl vi vl r fj fm vj vm) := by
  unfold RL_X5_readCondG_6
  intro hp0 hp1 hp2 hp3 hp4 hp5 hp6 hp7 hp8 hp9 fik flk vik vlk rk gk_1 gk_2 gk_3 gk_4 gk_5 gk_6 gk_7 gk_8 tb gk_0 w3_1 w2_1 wv_11 wv_12 wv_13 wv_14 wv_15 wv_16 wv_17 wv_18 wv_19 wf_3 wf_4 wf_5 wv_20 wv_21 hi_7 hi_8 hi_9 hi_10 hi_11 hi_12 hi_13 hai9 hni9 hfj9 hbz_1 c11_3 q0 q1 q2 q3 q4 q5 q6 q7 q8 q9 q10 q11 q12 q13 q14; subst q0
  unfold PS_X5_readCondG
  intro n m t hc σ hd hs
  (try simp only [q1, q2, q3, q4, q5, q6, q7, q8, q9, q10, q11, q12, q13, q14]); have k9_0 : (0 : Int32).toInt = 0 := (by decide); have k9_1 : (1 : Int32).toInt = 1 := (by decide)
  rcases hai9 n m t hc σ hd hs with ⟨a1, t8, a2, a4, a3⟩ | ⟨a1, a2⟩
  · exfalso; omega
  · exfalso; omega
set_option maxHeartbeats 4000000 in
theorem PL_X5_readCondG_7 {dd de : Nat} (hde : de = dd + 1) (hle : dd ≤ 8) {fi : Nat → Nat → Int32} {fl : Nat → Nat → Int64} {vi : Nat → Int32} {vl : Nat → Int64} {r : Int32} {fj : Nat → Nat → Int32} {fm : Nat → Nat → Int64} {vj : Nat → Int32} {vm : Nat → Int64} : RL_X5_readCondG_7 dd de fi fl vi vl r fj fm vj vm (PS_X5_readCondG dd de fi fl vi vl r fj fm vj vm) := by
  unfold RL_X5_readCondG_7
  intro hp0 hp1 hp2 hp3 hp4 hp5 hp6 hp7 hp8 hp9 fik flk vik vlk rk gk_1 gk_2 gk_3 gk_4 gk_5 gk_6 gk_7 gk_8 tb gk_0 w3_1 w2_1 wv_11 wv_12 wv_13 wv_14 wv_15 wv_16 wv_17 wv_18 wv_19 wf_3 wf_4 wf_5 wv_20 wv_21 hi_7 hi_8 hi_9 hi_10 hi_11 hi_12 hi_13 hai9 hni9 hfj9 hbz_1 c11_3 fik_5 flk_5 vik_5 vlk_5 rk_5 gk_5_1 tb_4 gk_5_0 q0 q1 q2 q3 q4 q5 q6 q7 q8 q9 q10 q11 q12 q13 q14; subst q0
  unfold PS_X5_readCondG
  intro n m t hc σ hd hs
  (try simp only [q1, q2, q3, q4, q5, q6, q7, q8, q9, q10, q11, q12, q13, q14]); have k9_0 : (0 : Int32).toInt = 0 := (by decide); have k9_1 : (1 : Int32).toInt = 1 := (by decide)
  rcases hai9 n m t hc σ hd hs with ⟨a1, t8, a2, a4, a3⟩ | ⟨a1, a2⟩
  · obtain ⟨hn, hm, ht, ck, cp, ce, cw, cu, cg⟩ := id a2
    have n_or : ¬ isW (trn (fi 0) n) n m t8 28530 := by
      rcases gk_5_1 with ⟨z1, z2, z3⟩ | ⟨z1, z2⟩
      · exact absurd (z1.symm.trans tb_4) (by decide)
      · exact fun c => z2 ⟨ck.trans c.1, by rw [cw c.1]; exact c.2⟩
    exact Or.inl ⟨by decide, t8, a2, a4, n_or, a3⟩
  · exfalso; omega
theorem P_X5_readCondG {dd de : Nat} (hde : de = dd + 1) (hle : dd ≤ 8) {fi : Nat → Nat → Int32} {fl : Nat → Nat → Int64} {vi : Nat → Int32} {vl : Nat → Int64} {r : Int32} {fj : Nat → Nat → Int32} {fm : Nat → Nat → Int64} {vj : Nat → Int32} {vm : Nat → Int64} (h : R_X5_readCondG dd de fi fl vi vl r fj fm vj vm) : ∀ n m t : Nat, CC (trn (fi 0) n) n m t (vi 3) (vi 4) (vi 6) (vi 7) (vi 5) (vl 0) (vi 8) (vi 9) → ∀ σ : List Bool, σ.length + 1 = dd → sps σ = σ → (r.toInt = 1 ∧ ∃ t' : Nat, CC (trn (fi 0) n) n m t' (vi 3) (vi 4) (vj 3) (vj 4) (vj 7) (vm 0) (vj 6) (vj 5) ∧ ¬ isW (trn (fi 0) n) n m t' 6385252 ∧ ¬ isW (trn (fi 0) n) n m t' 28530 ∧ gto n (SF (trn (fi 0) n) n m (ownB (fl 0)) (fl 1) (vi 13).toInt σ false (vi 1).toInt t) t (SF (trn (fi 0) n) n m (ownB (fl 0)) (fl 1) (vi 13).toInt σ true (vj 2).toInt t') t') ∨ (r.toInt = 0 ∧ gfa n (SF (trn (fi 0) n) n m (ownB (fl 0)) (fl 1) (vi 13).toInt σ false (vi 1).toInt t) t (vj 0).toInt (vj 1).toInt) := h (PS_X5_readCondG dd de fi fl vi vl r fj fm vj vm) (PL_X5_readCondG_0 hde hle) (PL_X5_readCondG_1 hde hle) (PL_X5_readCondG_2 hde hle) (PL_X5_readCondG_3 hde hle) (PL_X5_readCondG_4 hde hle) (PL_X5_readCondG_5 hde hle) (PL_X5_readCondG_6 hde hle) (PL_X5_readCondG_7 hde hle)
def R_X5_readCond_3 (fi : Nat → Nat → Int32) (fl : Nat → Nat → Int64) (vi : Nat → Int32) (vl : Nat → Int64) (r : Int32) (fj : Nat → Nat → Int32) (fm : Nat → Nat → Int64) (vj : Nat → Int32) (vm : Nat → Int64) : Prop := R_X5_readCondG 8 9 fi fl vi vl r fj fm vj vm
theorem P_X5_readCond_3 {fi : Nat → Nat → Int32} {fl : Nat → Nat → Int64} {vi : Nat → Int32} {vl : Nat → Int64} {r : Int32} {fj : Nat → Nat → Int32} {fm : Nat → Nat → Int64} {vj : Nat → Int32} {vm : Nat → Int64} (h : R_X5_readCond_3 fi fl vi vl r fj fm vj vm) : ∀ n m t : Nat, CC (trn (fi 0) n) n m t (vi 3) (vi 4) (vi 6) (vi 7) (vi 5) (vl 0) (vi 8) (vi 9) → ∀ σ : List Bool, σ.length + 1 = 8 → sps σ = σ → (r.toInt = 1 ∧ ∃ t' : Nat, CC (trn (fi 0) n) n m t' (vi 3) (vi 4) (vj 3) (vj 4) (vj 7) (vm 0) (vj 6) (vj 5) ∧ ¬ isW (trn (fi 0) n) n m t' 6385252 ∧ ¬ isW (trn (fi 0) n) n m t' 28530 ∧ gto n (SF (trn (fi 0) n) n m (ownB (fl 0)) (fl 1) (vi 13).toInt σ false (vi 1).toInt t) t (SF (trn (fi 0) n) n m (ownB (fl 0)) (fl 1) (vi 13).toInt σ true (vj 2).toInt t') t') ∨ (r.toInt = 0 ∧ gfa n (SF (trn (fi 0) n) n m (ownB (fl 0)) (fl 1) (vi 13).toInt σ false (vi 1).toInt t) t (vj 0).toInt (vj 1).toInt) := P_X5_readCondG (dd := 8) (de := 9) rfl (by decide) h
def RL_X5_readOneG2_0 (dd de : Nat) (fi : Nat → Nat → Int32) (fl : Nat → Nat → Int64) (vi : Nat → Int32) (vl : Nat → Int64) (r : Int32) (fj : Nat → Nat → Int32) (fm : Nat → Nat → Int64) (vj : Nat → Int32) (vm : Nat → Int64) (Q9 : Prop) : Prop :=
  (0 ≤ (vi 0).toInt ∧ (vi 0).toInt ≤ 40) → (0 ≤ (vi 1).toInt ∧ (vi 1).toInt ≤ 20) → (0 ≤ (vi 3).toInt ∧ (vi 3).toInt ≤ 940) → (0 ≤ (vi 4).toInt ∧ (vi 4).toInt ≤ 940) → (0 ≤ (vi 5).toInt ∧ (vi 5).toInt ≤ 940) → (0 ≤ (vi 7).toInt ∧ (vi 7).toInt ≤ 940) → (0 ≤ (vi 12).toInt ∧ (vi 12).toInt ≤ 940) → (0 ≤ (vi 13).toInt ∧ (vi 13).toInt ≤ 9) → (0 ≤ (vi 14).toInt ∧ (vi 14).toInt ≤ 9) → ((vi 0).toInt ≤ 2 * (vi 1).toInt) → ∀ (fik : Nat → Nat → Int32), ∀ (flk : Nat → Nat → Int64), ∀ (vik : Nat → Int32), ∀ (vlk : Nat → Int64), ∀ (rk : Int32), (∀ n m t : Nat, CC (trn (fi 0) n) n m t (vi 3) (vi 4) (vi 6) (vi 7) (vi 5) (vl 0) (vi 8) (vi 9) → LFR rk.toInt (lfi (trn (fi 0) n) n m t)) → ∀ (fik_1 : Nat → Nat → Int32), ∀ (flk_1 : Nat → Nat → Int64), ∀ (vik_1 : Nat → Int32), ∀ (vlk_1 : Nat → Int64), ∀ (rk_1 : Int32), (DJ (rk_1.toInt = 1 ∧ (vi 6).toInt = 1 ∧ (vl 0) = (7237492 : Int64)) (rk_1.toInt = 0 ∧ ¬ ((vi 6).toInt = 1 ∧ (vl 0) = (7237492 : Int64)))) → (rk_1.toInt = 1) → (True) → ∀ (fik_2 : Nat → Nat → Int32), ∀ (flk_2 : Nat → Nat → Int64), ∀ (vik_2 : Nat → Int32), ∀ (vlk_2 : Nat → Int64), ∀ (rk_2 : Int32), (rk_2.toInt = 1) → ((vi 6).toInt = 3 ∧ (vi 9).toInt = (40 : Int32).toInt) → (¬ rk.toInt = (-1)) → (20 ≤ (vi 1).toInt) → ∀ (fik_3 : Nat → Nat → Int32), ∀ (flk_3 : Nat → Nat → Int64), ∀ (vik_3 : Nat → Int32), ∀ (vlk_3 : Nat → Int64), ∀ (rk_3 : Int32), (rk_3 = 0) → (0 ≤ (vik_3 1).toInt ∧ (vik_3 1).toInt ≤ 940) → ((vik_3 0).toInt = (4 : Int32).toInt ∧ (vik_3 1).toInt = (vi 7).toInt) → (r = (0 : Int32)) → (fj 0 = (fi 1)) → (fj 1 = (fi 2)) → (fj 2 = (fi 3)) → (vj 0 = (vik_3 0)) → (vj 1 = (vik_3 1)) → (vj 2 = (vi 1)) → (vj 3 = (vi 6)) → (vj 4 = (vi 7)) → (vj 5 = (vi 9)) → (vj 6 = (vi 8)) → (vj 7 = (vi 5)) → (vj 8 = (vi 0)) → (vj 9 = (vi 10)) → (vm 0 = (vl 0)) → Q9
def RL_X5_readOneG2_1 (dd de : Nat) (fi : Nat → Nat → Int32) (fl : Nat → Nat → Int64) (vi : Nat → Int32) (vl : Nat → Int64) (r : Int32) (fj : Nat → Nat → Int32) (fm : Nat → Nat → Int64) (vj : Nat → Int32) (vm : Nat → Int64) (Q9 : Prop) : Prop :=
  (0 ≤ (vi 0).toInt ∧ (vi 0).toInt ≤ 40) → (0 ≤ (vi 1).toInt ∧ (vi 1).toInt ≤ 20) → (0 ≤ (vi 3).toInt ∧ (vi 3).toInt ≤ 940) → (0 ≤ (vi 4).toInt ∧ (vi 4).toInt ≤ 940) → (0 ≤ (vi 5).toInt ∧ (vi 5).toInt ≤ 940) → (0 ≤ (vi 7).toInt ∧ (vi 7).toInt ≤ 940) → (0 ≤ (vi 12).toInt ∧ (vi 12).toInt ≤ 940) → (0 ≤ (vi 13).toInt ∧ (vi 13).toInt ≤ 9) → (0 ≤ (vi 14).toInt ∧ (vi 14).toInt ≤ 9) → ((vi 0).toInt ≤ 2 * (vi 1).toInt) → ∀ (fik : Nat → Nat → Int32), ∀ (flk : Nat → Nat → Int64), ∀ (vik : Nat → Int32), ∀ (vlk : Nat → Int64), ∀ (rk : Int32), (∀ n m t : Nat, CC (trn (fi 0) n) n m t (vi 3) (vi 4) (vi 6) (vi 7) (vi 5) (vl 0) (vi 8) (vi 9) → LFR rk.toInt (lfi (trn (fi 0) n) n m t)) → ∀ (fik_1 : Nat → Nat → Int32), ∀ (flk_1 : Nat → Nat → Int64), ∀ (vik_1 : Nat → Int32), ∀ (vlk_1 : Nat → Int64), ∀ (rk_1 : Int32), (DJ (rk_1.toInt = 1 ∧ (vi 6).toInt = 1 ∧ (vl 0) = (7237492 : Int64)) (rk_1.toInt = 0 ∧ ¬ ((vi 6).toInt = 1 ∧ (vl 0) = (7237492 : Int64)))) → (rk_1.toInt = 1) → (True) → ∀ (fik_2 : Nat → Nat → Int32), ∀ (flk_2 : Nat → Nat → Int64), ∀ (vik_2 : Nat → Int32), ∀ (vlk_2 : Nat → Int64), ∀ (rk_2 : Int32), (rk_2.toInt = 1) → ((vi 6).toInt = 3 ∧ (vi 9).toInt = (40 : Int32).toInt) → (¬ rk.toInt = (-1)) → ((vi 1).toInt < 20) → ∀ (z79 : Int32), (z79 = (vi 1) + (1 : Int32)) → (z79.toInt = (vi 1).toInt + 1) → ∀ (fik_4 : Nat → Nat → Int32), ∀ (flk_4 : Nat → Nat → Int64), ∀ (vik_4 : Nat → Int32), ∀ (vlk_4 : Nat → Int64), ∀ (uk_4 : Int32), (0 ≤ (vik_4 4).toInt ∧ (vik_4 4).toInt ≤ 940) → (0 ≤ (vik_4 1).toInt ∧ (vik_4 1).toInt ≤ 940) → (∀ n m : Nat, (vi 3).toInt = (n : Int) → (vi 4).toInt = (m : Int) → (vi 5).toInt ≤ (vi 3).toInt → CC (trn (fi 0) n) n m ((vi 5).toInt).toNat (vi 3) (vi 4) (vik_4 0) (vik_4 1) (vik_4 4) (vlk_4 0) (vik_4 3) (vik_4 2)) → ∀ (fik_5 : Nat → Nat → Int32), ∀ (flk_5 : Nat → Nat → Int64), ∀ (vik_5 : Nat → Int32), ∀ (vlk_5 : Nat → Int64), ∀ (rk_5 : Int32), (0 ≤ (vik_5 8).toInt ∧ (vik_5 8).toInt ≤ 40) → (0 ≤ (vik_5 2).toInt ∧ (vik_5 2).toInt ≤ 20) → (0 ≤ (vik_5 7).toInt ∧ (vik_5 7).toInt ≤ 940) → (0 ≤ (vik_5 4).toInt ∧ (vik_5 4).toInt ≤ 940) → (0 ≤ (vik_5 1).toInt ∧ (vik_5 1).toInt ≤ 940) → (rk_5.toInt = 1 → (z79).toInt + 1 ≤ (vik_5 2).toInt ∧ (vik_5 8).toInt ≤ (vi 0).toInt + 2 * ((vik_5 2).toInt - (z79).toInt) - 1) → (rk_5.toInt = 1 → (vik_5 0).toInt = (vi 11).toInt) → (∀ n m t : Nat, CC (trn (fi 0) n) n m t (vi 3) (vi 4) (vik_4 0) (vik_4 1) (vik_4 4) (vlk_4 0) (vik_4 3) (vik_4 2) → ∀ σ : List Bool, σ.length + 1 = de → (rk_5.toInt = 1 ∧ ∃ t' : Nat, CC (trn (fi 0) n) n m t' (vi 3) (vi 4) (vik_5 3) (vik_5 4) (vik_5 7) (vlk_5 0) (vik_5 6) (vik_5 5) ∧ gto n (SF (trn (fi 0) n) n m (ownB (fl 0)) (fl 1) (vi 13).toInt σ false (z79).toInt t) t (SF (trn (fi 0) n) n m (ownB (fl 0)) (fl 1) (vi 13).toInt (sps σ) true (vik_5 2).toInt t') t') ∨ (rk_5.toInt = 0 ∧ gfa n (SF (trn (fi 0) n) n m (ownB (fl 0)) (fl 1) (vi 13).toInt σ false (z79).toInt t) t (vik_5 0).toInt (vik_5 1).toInt)) → (rk_5.toInt = 1) → (True) → ∀ (fik_6 : Nat → Nat → Int32), ∀ (flk_6 : Nat → Nat → Int64), ∀ (vik_6 : Nat → Int32), ∀ (vlk_6 : Nat → Int64), ∀ (rk_6 : Int32), (0 ≤ (vik_6 0).toInt ∧ (vik_6 0).toInt ≤ 40) → (0 ≤ (vik_6 2).toInt ∧ (vik_6 2).toInt ≤ 940) → (rk_6.toInt = 1 → (vik_6 1).toInt = (vik_5 0).toInt) → (rk_6.toInt = 1) → ((vik_5 8).toInt < 40 ∧ (vik_6 0).toInt = (vik_5 8).toInt + 1) → (r = (1 : Int32)) → (fj 0 = (fik_6 0)) → (fj 1 = (fik_6 1)) → (fj 2 = (fik_6 2)) → (vj 0 = (vik_6 1)) → (vj 1 = (vik_6 2)) → (vj 2 = (vik_5 2)) → (vj 3 = (vik_5 3)) → (vj 4 = (vik_5 4)) → (vj 5 = (vik_5 5)) → (vj 6 = (vik_5 6)) → (vj 7 = (vik_5 7)) → (vj 8 = (vik_6 0)) → (vj 9 = (vik_5 9)) → (vm 0 = (vlk_5 0)) → Q9
