set_option maxHeartbeats 4000000 in
theorem PL_X5_readCond_3 {fi : Nat → Nat → Int32} {fl : Nat → Nat → Int64} {vi : Nat → Int32} {vl : Nat → Int64} {r : Int32} {fj : Nat → Nat → Int32} {fm : Nat → Nat → Int64} {vj : Nat → Int32} {vm : Nat → Int64} : RL_X5_readCond_3 fi fl vi vl r fj fm vj vm (PS_X5_readCond fi fl vi vl r fj fm vj vm) := by
  unfold RL_X5_readCond_3
  intro hp0 hp1 hp2 hp3 hp4 hp5 hp6 hp7 hp8 hp9 fik flk vik vlk rk gk_1 gk_2 gk_3 gk_4 gk_5 gk_6 gk_7 gk_8 tb gk_0 w3 w2 wv wv_1 wv_2 wv_3 wv_4 wv_5 wv_6 wv_7 wv_8 wf wf_1 wf_2 wv_9 wv_10 hi hi_1 hi_2 hi_3 hi_4 hi_5 hi_6 hai9 hni9 hfj9 hb c11_1 fik_1 flk_1 vik_1 vlk_1 rk_1 gk_1_1 tb_1 gk_1_0 q0 q1 q2 q3 q4 q5 q6 q7 q8 q9 q10 q11 q12 q13 q14; subst q0
  unfold PS_X5_readCond
  intro n m t hc σ hd hs
  (try simp only [q1, q2, q3, q4, q5, q6, q7, q8, q9, q10, q11, q12, q13, q14]); have k9_0 : (0 : Int32).toInt = 0 := (by decide); have k9_1 : (1 : Int32).toInt = 1 := (by decide)
  rcases hai9 n m t hc σ hd hs with ⟨a1, t8, a2, a4, a3⟩ | ⟨a1, a2⟩
  · obtain ⟨hn, hm, ht, ck, cp, ce, cw, cu, cg⟩ := id a2
    have n_or : ¬ isW (trn (fi 0) n) n m t8 28530 := by
      rcases gk_1_1 with ⟨z1, z2, z3⟩ | ⟨z1, z2⟩
      · exact absurd (z1.symm.trans tb_1) (by decide)
      · exact fun c => z2 ⟨ck.trans c.1, by rw [cw c.1]; exact c.2⟩
    exact Or.inl ⟨by decide, t8, a2, a4, n_or, a3⟩
  · exfalso; omega
set_option maxHeartbeats 4000000 in
theorem PL_X5_readCond_4 {fi : Nat → Nat → Int32} {fl : Nat → Nat → Int64} {vi : Nat → Int32} {vl : Nat → Int64} {r : Int32} {fj : Nat → Nat → Int32} {fm : Nat → Nat → Int64} {vj : Nat → Int32} {vm : Nat → Int64} : RL_X5_readCond_4 fi fl vi vl r fj fm vj vm (PS_X5_readCond fi fl vi vl r fj fm vj vm) := by
  unfold RL_X5_readCond_4
  intro hp0 hp1 hp2 hp3 hp4 hp5 hp6 hp7 hp8 hp9 fik flk vik vlk rk gk_1 gk_2 gk_3 gk_4 gk_5 gk_6 gk_7 gk_8 tb gk_0 w3_1 w2_1 wv_11 wv_12 wv_13 wv_14 wv_15 wv_16 wv_17 wv_18 wv_19 wf_3 wf_4 wf_5 wv_20 wv_21 hi_7 hi_8 hi_9 hi_10 hi_11 hi_12 hi_13 hai9 hni9 hfj9 hb_1 c11_2 q0 q1 q2 q3 q4 q5 q6 q7 q8 q9 q10 q11 q12 q13 q14; subst q0
  unfold PS_X5_readCond
  intro n m t hc σ hd hs
  (try simp only [q1, q2, q3, q4, q5, q6, q7, q8, q9, q10, q11, q12, q13, q14]); have k9_0 : (0 : Int32).toInt = 0 := (by decide); have k9_1 : (1 : Int32).toInt = 1 := (by decide)
  rcases hai9 n m t hc σ hd hs with ⟨a1, t8, a2, a4, a3⟩ | ⟨a1, a2⟩
  · exfalso; omega
  · exact Or.inr ⟨by decide, a2⟩
set_option maxHeartbeats 4000000 in
theorem PL_X5_readCond_5 {fi : Nat → Nat → Int32} {fl : Nat → Nat → Int64} {vi : Nat → Int32} {vl : Nat → Int64} {r : Int32} {fj : Nat → Nat → Int32} {fm : Nat → Nat → Int64} {vj : Nat → Int32} {vm : Nat → Int64} : RL_X5_readCond_5 fi fl vi vl r fj fm vj vm (PS_X5_readCond fi fl vi vl r fj fm vj vm) := by
  unfold RL_X5_readCond_5
  intro hp0 hp1 hp2 hp3 hp4 hp5 hp6 hp7 hp8 hp9 fik flk vik vlk rk gk_1 gk_2 gk_3 gk_4 gk_5 gk_6 gk_7 gk_8 tb gk_0 w3_1 w2_1 wv_11 wv_12 wv_13 wv_14 wv_15 wv_16 wv_17 wv_18 wv_19 wf_3 wf_4 wf_5 wv_20 wv_21 hi_7 hi_8 hi_9 hi_10 hi_11 hi_12 hi_13 hai9 hni9 hfj9 hb_1 c11_2 q0 q1 q2 q3 q4 q5 q6 q7 q8 q9 q10 q11 q12 q13 q14; subst q0
  unfold PS_X5_readCond
  intro n m t hc σ hd hs
  (try simp only [q1, q2, q3, q4, q5, q6, q7, q8, q9, q10, q11, q12, q13, q14]); have k9_0 : (0 : Int32).toInt = 0 := (by decide); have k9_1 : (1 : Int32).toInt = 1 := (by decide)
  rcases hai9 n m t hc σ hd hs with ⟨a1, t8, a2, a4, a3⟩ | ⟨a1, a2⟩
  · exfalso; omega
  · exact Or.inr ⟨by decide, a2⟩
set_option maxHeartbeats 4000000 in
theorem PL_X5_readCond_6 {fi : Nat → Nat → Int32} {fl : Nat → Nat → Int64} {vi : Nat → Int32} {vl : Nat → Int64} {r : Int32} {fj : Nat → Nat → Int32} {fm : Nat → Nat → Int64} {vj : Nat → Int32} {vm : Nat → Int64} : RL_X5_readCond_6 fi fl vi vl r fj fm vj vm (PS_X5_readCond fi fl vi vl r fj fm vj vm) := by
  unfold RL_X5_readCond_6
  intro hp0 hp1 hp2 hp3 hp4 hp5 hp6 hp7 hp8 hp9 fik flk vik vlk rk gk_1 gk_2 gk_3 gk_4 gk_5 gk_6 gk_7 gk_8 tb gk_0 w3_1 w2_1 wv_11 wv_12 wv_13 wv_14 wv_15 wv_16 wv_17 wv_18 wv_19 wf_3 wf_4 wf_5 wv_20 wv_21 hi_7 hi_8 hi_9 hi_10 hi_11 hi_12 hi_13 hai9 hni9 hfj9 hb_1 c11_3 q0 q1 q2 q3 q4 q5 q6 q7 q8 q9 q10 q11 q12 q13 q14; subst q0
  unfold PS_X5_readCond
  intro n m t hc σ hd hs
  (try simp only [q1, q2, q3, q4, q5, q6, q7, q8, q9, q10, q11, q12, q13, q14]); have k9_0 : (0 : Int32).toInt = 0 := (by decide); have k9_1 : (1 : Int32).toInt = 1 := (by decide)
  rcases hai9 n m t hc σ hd hs with ⟨a1, t8, a2, a4, a3⟩ | ⟨a1, a2⟩
  · exfalso; omega
  · exfalso; omega
set_option maxHeartbeats 4000000 in
theorem PL_X5_readCond_7 {fi : Nat → Nat → Int32} {fl : Nat → Nat → Int64} {vi : Nat → Int32} {vl : Nat → Int64} {r : Int32} {fj : Nat → Nat → Int32} {fm : Nat → Nat → Int64} {vj : Nat → Int32} {vm : Nat → Int64} : RL_X5_readCond_7 fi fl vi vl r fj fm vj vm (PS_X5_readCond fi fl vi vl r fj fm vj vm) := by
  unfold RL_X5_readCond_7
  intro hp0 hp1 hp2 hp3 hp4 hp5 hp6 hp7 hp8 hp9 fik flk vik vlk rk gk_1 gk_2 gk_3 gk_4 gk_5 gk_6 gk_7 gk_8 tb gk_0 w3_1 w2_1 wv_11 wv_12 wv_13 wv_14 wv_15 wv_16 wv_17 wv_18 wv_19 wf_3 wf_4 wf_5 wv_20 wv_21 hi_7 hi_8 hi_9 hi_10 hi_11 hi_12 hi_13 hai9 hni9 hfj9 hb_1 c11_3 fik_5 flk_5 vik_5 vlk_5 rk_5 gk_5_1 tb_4 gk_5_0 q0 q1 q2 q3 q4 q5 q6 q7 q8 q9 q10 q11 q12 q13 q14; subst q0
  unfold PS_X5_readCond
  intro n m t hc σ hd hs
  (try simp only [q1, q2, q3, q4, q5, q6, q7, q8, q9, q10, q11, q12, q13, q14]); have k9_0 : (0 : Int32).toInt = 0 := (by decide); have k9_1 : (1 : Int32).toInt = 1 := (by decide)
  rcases hai9 n m t hc σ hd hs with ⟨a1, t8, a2, a4, a3⟩ | ⟨a1, a2⟩
  · obtain ⟨hn, hm, ht, ck, cp, ce, cw, cu, cg⟩ := id a2
    have n_or : ¬ isW (trn (fi 0) n) n m t8 28530 := by
      rcases gk_5_1 with ⟨z1, z2, z3⟩ | ⟨z1, z2⟩
      · exact absurd (z1.symm.trans tb_4) (by decide)
      · exact fun c => z2 ⟨ck.trans c.1, by rw [cw c.1]; exact c.2⟩
    exact Or.inl ⟨by decide, t8, a2, a4, n_or, a3⟩
  · exfalso; omega
theorem P_X5_readCond {fi : Nat → Nat → Int32} {fl : Nat → Nat → Int64} {vi : Nat → Int32} {vl : Nat → Int64} {r : Int32} {fj : Nat → Nat → Int32} {fm : Nat → Nat → Int64} {vj : Nat → Int32} {vm : Nat → Int64} (h : R_X5_readCond fi fl vi vl r fj fm vj vm) : ∀ n m t : Nat, CC (trn (fi 0) n) n m t (vi 3) (vi 4) (vi 6) (vi 7) (vi 5) (vl 0) (vi 8) (vi 9) → ∀ σ : List Bool, σ.length + 1 = 1 → sps σ = σ → (r.toInt = 1 ∧ ∃ t' : Nat, CC (trn (fi 0) n) n m t' (vi 3) (vi 4) (vj 3) (vj 4) (vj 7) (vm 0) (vj 6) (vj 5) ∧ ¬ isW (trn (fi 0) n) n m t' 6385252 ∧ ¬ isW (trn (fi 0) n) n m t' 28530 ∧ gto n (SF (trn (fi 0) n) n m (ownB (fl 0)) (fl 1) (vi 13).toInt σ false (vi 1).toInt t) t (SF (trn (fi 0) n) n m (ownB (fl 0)) (fl 1) (vi 13).toInt σ true (vj 2).toInt t') t') ∨ (r.toInt = 0 ∧ gfa n (SF (trn (fi 0) n) n m (ownB (fl 0)) (fl 1) (vi 13).toInt σ false (vi 1).toInt t) t (vj 0).toInt (vj 1).toInt) := h (PS_X5_readCond fi fl vi vl r fj fm vj vm) PL_X5_readCond_0 PL_X5_readCond_1 PL_X5_readCond_2 PL_X5_readCond_3 PL_X5_readCond_4 PL_X5_readCond_5 PL_X5_readCond_6 PL_X5_readCond_7
def RL_X5_read_0 (fi : Nat → Nat → Int32) (fl : Nat → Nat → Int64) (vi : Nat → Int32) (vl : Nat → Int64) (r : Int32) (fj : Nat → Nat → Int32) (fm : Nat → Nat → Int64) (vj : Nat → Int32) (vm : Nat → Int64) (Q9 : Prop) : Prop :=
  (0 ≤ (vi 0).toInt ∧ (vi 0).toInt ≤ 40) → (0 ≤ (vi 1).toInt ∧ (vi 1).toInt ≤ 20) → (0 ≤ (vi 3).toInt ∧ (vi 3).toInt ≤ 940) → (0 ≤ (vi 4).toInt ∧ (vi 4).toInt ≤ 940) → (0 ≤ (vi 5).toInt ∧ (vi 5).toInt ≤ 940) → (0 ≤ (vi 7).toInt ∧ (vi 7).toInt ≤ 940) → (0 ≤ (vi 12).toInt ∧ (vi 12).toInt ≤ 940) → (0 ≤ (vi 13).toInt ∧ (vi 13).toInt ≤ 9) → (0 ≤ (vi 14).toInt ∧ (vi 14).toInt ≤ 9) → ∀ (fik : Nat → Nat → Int32), ∀ (flk : Nat → Nat → Int64), ∀ (vik : Nat → Int32), ∀ (vlk : Nat → Int64), ∀ (uk : Int32), (0 ≤ (vik 0).toInt ∧ (vik 0).toInt ≤ 940) → (0 ≤ (vik 1).toInt ∧ (vik 1).toInt ≤ 940) → (0 ≤ (vik 5).toInt ∧ (vik 5).toInt ≤ 940) → (0 ≤ (vik 3).toInt ∧ (vik 3).toInt ≤ 940) → (∀ n m : Nat, (vi 3).toInt = (n : Int) → (200 : Int) = (m : Int) → (vik 0).toInt = (200 : Int) ∧ (vik 2).toInt = 0 ∧ CC (trn (fi 0) n) n m 0 (vi 3) (vik 0) (vik 4) (vik 5) (vik 1) (vlk 0) (vik 7) (vik 6)) → ∀ (fik_1 : Nat → Nat → Int32), ∀ (flk_1 : Nat → Nat → Int64), ∀ (vik_1 : Nat → Int32), ∀ (vlk_1 : Nat → Int64), ∀ (rk_1 : Int32), (0 ≤ (vik_1 8).toInt ∧ (vik_1 8).toInt ≤ 40) → (0 ≤ (vik_1 2).toInt ∧ (vik_1 2).toInt ≤ 20) → (0 ≤ (vik_1 7).toInt ∧ (vik_1 7).toInt ≤ 940) → (0 ≤ (vik_1 4).toInt ∧ (vik_1 4).toInt ≤ 940) → (0 ≤ (vik_1 1).toInt ∧ (vik_1 1).toInt ≤ 940) → (rk_1.toInt = 1 → (0 : Int32).toInt + 1 ≤ (vik_1 2).toInt ∧ (vik_1 8).toInt ≤ (0 : Int32).toInt + 2 * ((vik_1 2).toInt - (0 : Int32).toInt) - 1) → (rk_1.toInt = 1 → (vik_1 0).toInt = (vik 2).toInt) → (∀ n m t : Nat, CC (trn (fi 0) n) n m t (vi 3) (vik 0) (vik 4) (vik 5) (vik 1) (vlk 0) (vik 7) (vik 6) → ∀ σ : List Bool, σ.length + 1 = 1 → sps σ = σ → (rk_1.toInt = 1 ∧ ∃ t' : Nat, CC (trn (fi 0) n) n m t' (vi 3) (vik 0) (vik_1 3) (vik_1 4) (vik_1 7) (vlk_1 0) (vik_1 6) (vik_1 5) ∧ ¬ isW (trn (fi 0) n) n m t' 6385252 ∧ ¬ isW (trn (fi 0) n) n m t' 28530 ∧ gto n (SF (trn (fi 0) n) n m (ownB (fl 0)) (fl 1) (vi 13).toInt σ false (0 : Int) t) t (SF (trn (fi 0) n) n m (ownB (fl 0)) (fl 1) (vi 13).toInt σ true (vik_1 2).toInt t') t') ∨ (rk_1.toInt = 0 ∧ gfa n (SF (trn (fi 0) n) n m (ownB (fl 0)) (fl 1) (vi 13).toInt σ false (0 : Int) t) t (vik_1 0).toInt (vik_1 1).toInt)) → (rk_1.toInt = 1) → (True) → ((vik_1 3).toInt = 0) → (r = (1 : Int32)) → (fj 0 = (fik_1 0)) → (fj 1 = (fik_1 1)) → (fj 2 = (fik_1 2)) → (vj 0 = (vik_1 8)) → (vj 1 = (vik_1 2)) → (vj 2 = (vik 0)) → (vj 3 = (vik_1 7)) → (vj 4 = (vik_1 0)) → (vj 5 = (vik_1 1)) → (vj 6 = (vik_1 3)) → (vj 7 = (vik_1 4)) → (vj 8 = (vik_1 5)) → (vj 9 = (vik_1 6)) → (vj 10 = (vik_1 9)) → (vm 0 = (vlk_1 0)) → Q9
def RL_X5_read_1 (fi : Nat → Nat → Int32) (fl : Nat → Nat → Int64) (vi : Nat → Int32) (vl : Nat → Int64) (r : Int32) (fj : Nat → Nat → Int32) (fm : Nat → Nat → Int64) (vj : Nat → Int32) (vm : Nat → Int64) (Q9 : Prop) : Prop :=
  (0 ≤ (vi 0).toInt ∧ (vi 0).toInt ≤ 40) → (0 ≤ (vi 1).toInt ∧ (vi 1).toInt ≤ 20) → (0 ≤ (vi 3).toInt ∧ (vi 3).toInt ≤ 940) → (0 ≤ (vi 4).toInt ∧ (vi 4).toInt ≤ 940) → (0 ≤ (vi 5).toInt ∧ (vi 5).toInt ≤ 940) → (0 ≤ (vi 7).toInt ∧ (vi 7).toInt ≤ 940) → (0 ≤ (vi 12).toInt ∧ (vi 12).toInt ≤ 940) → (0 ≤ (vi 13).toInt ∧ (vi 13).toInt ≤ 9) → (0 ≤ (vi 14).toInt ∧ (vi 14).toInt ≤ 9) → ∀ (fik : Nat → Nat → Int32), ∀ (flk : Nat → Nat → Int64), ∀ (vik : Nat → Int32), ∀ (vlk : Nat → Int64), ∀ (uk : Int32), (0 ≤ (vik 0).toInt ∧ (vik 0).toInt ≤ 940) → (0 ≤ (vik 1).toInt ∧ (vik 1).toInt ≤ 940) → (0 ≤ (vik 5).toInt ∧ (vik 5).toInt ≤ 940) → (0 ≤ (vik 3).toInt ∧ (vik 3).toInt ≤ 940) → (∀ n m : Nat, (vi 3).toInt = (n : Int) → (200 : Int) = (m : Int) → (vik 0).toInt = (200 : Int) ∧ (vik 2).toInt = 0 ∧ CC (trn (fi 0) n) n m 0 (vi 3) (vik 0) (vik 4) (vik 5) (vik 1) (vlk 0) (vik 7) (vik 6)) → ∀ (fik_1 : Nat → Nat → Int32), ∀ (flk_1 : Nat → Nat → Int64), ∀ (vik_1 : Nat → Int32), ∀ (vlk_1 : Nat → Int64), ∀ (rk_1 : Int32), (0 ≤ (vik_1 8).toInt ∧ (vik_1 8).toInt ≤ 40) → (0 ≤ (vik_1 2).toInt ∧ (vik_1 2).toInt ≤ 20) → (0 ≤ (vik_1 7).toInt ∧ (vik_1 7).toInt ≤ 940) → (0 ≤ (vik_1 4).toInt ∧ (vik_1 4).toInt ≤ 940) → (0 ≤ (vik_1 1).toInt ∧ (vik_1 1).toInt ≤ 940) → (rk_1.toInt = 1 → (0 : Int32).toInt + 1 ≤ (vik_1 2).toInt ∧ (vik_1 8).toInt ≤ (0 : Int32).toInt + 2 * ((vik_1 2).toInt - (0 : Int32).toInt) - 1) → (rk_1.toInt = 1 → (vik_1 0).toInt = (vik 2).toInt) → (∀ n m t : Nat, CC (trn (fi 0) n) n m t (vi 3) (vik 0) (vik 4) (vik 5) (vik 1) (vlk 0) (vik 7) (vik 6) → ∀ σ : List Bool, σ.length + 1 = 1 → sps σ = σ → (rk_1.toInt = 1 ∧ ∃ t' : Nat, CC (trn (fi 0) n) n m t' (vi 3) (vik 0) (vik_1 3) (vik_1 4) (vik_1 7) (vlk_1 0) (vik_1 6) (vik_1 5) ∧ ¬ isW (trn (fi 0) n) n m t' 6385252 ∧ ¬ isW (trn (fi 0) n) n m t' 28530 ∧ gto n (SF (trn (fi 0) n) n m (ownB (fl 0)) (fl 1) (vi 13).toInt σ false (0 : Int) t) t (SF (trn (fi 0) n) n m (ownB (fl 0)) (fl 1) (vi 13).toInt σ true (vik_1 2).toInt t') t') ∨ (rk_1.toInt = 0 ∧ gfa n (SF (trn (fi 0) n) n m (ownB (fl 0)) (fl 1) (vi 13).toInt σ false (0 : Int) t) t (vik_1 0).toInt (vik_1 1).toInt)) → (rk_1.toInt = 1) → (True) → (¬ (vik_1 3).toInt = 0) → ∀ (fik_2 : Nat → Nat → Int32), ∀ (flk_2 : Nat → Nat → Int64), ∀ (vik_2 : Nat → Int32), ∀ (vlk_2 : Nat → Int64), ∀ (rk_2 : Int32), (rk_2 = 0) → (0 ≤ (vik_2 1).toInt ∧ (vik_2 1).toInt ≤ 940) → ((vik_2 0).toInt = (1 : Int32).toInt ∧ (vik_2 1).toInt = (vik_1 4).toInt) → (r = (0 : Int32)) → (fj 0 = (fik_1 0)) → (fj 1 = (fik_1 1)) → (fj 2 = (fik_1 2)) → (vj 0 = (vik_1 8)) → (vj 1 = (vik_1 2)) → (vj 2 = (vik 0)) → (vj 3 = (vik_1 7)) → (vj 4 = (vik_2 0)) → (vj 5 = (vik_2 1)) → (vj 6 = (vik_1 3)) → (vj 7 = (vik_1 4)) → (vj 8 = (vik_1 5)) → (vj 9 = (vik_1 6)) → (vj 10 = (vik_1 9)) → (vm 0 = (vlk_1 0)) → Q9
def RL_X5_read_2 (fi : Nat → Nat → Int32) (fl : Nat → Nat → Int64) (vi : Nat → Int32) (vl : Nat → Int64) (r : Int32) (fj : Nat → Nat → Int32) (fm : Nat → Nat → Int64) (vj : Nat → Int32) (vm : Nat → Int64) (Q9 : Prop) : Prop :=
  (0 ≤ (vi 0).toInt ∧ (vi 0).toInt ≤ 40) → (0 ≤ (vi 1).toInt ∧ (vi 1).toInt ≤ 20) → (0 ≤ (vi 3).toInt ∧ (vi 3).toInt ≤ 940) → (0 ≤ (vi 4).toInt ∧ (vi 4).toInt ≤ 940) → (0 ≤ (vi 5).toInt ∧ (vi 5).toInt ≤ 940) → (0 ≤ (vi 7).toInt ∧ (vi 7).toInt ≤ 940) → (0 ≤ (vi 12).toInt ∧ (vi 12).toInt ≤ 940) → (0 ≤ (vi 13).toInt ∧ (vi 13).toInt ≤ 9) → (0 ≤ (vi 14).toInt ∧ (vi 14).toInt ≤ 9) → ∀ (fik : Nat → Nat → Int32), ∀ (flk : Nat → Nat → Int64), ∀ (vik : Nat → Int32), ∀ (vlk : Nat → Int64), ∀ (uk : Int32), (0 ≤ (vik 0).toInt ∧ (vik 0).toInt ≤ 940) → (0 ≤ (vik 1).toInt ∧ (vik 1).toInt ≤ 940) → (0 ≤ (vik 5).toInt ∧ (vik 5).toInt ≤ 940) → (0 ≤ (vik 3).toInt ∧ (vik 3).toInt ≤ 940) → (∀ n m : Nat, (vi 3).toInt = (n : Int) → (200 : Int) = (m : Int) → (vik 0).toInt = (200 : Int) ∧ (vik 2).toInt = 0 ∧ CC (trn (fi 0) n) n m 0 (vi 3) (vik 0) (vik 4) (vik 5) (vik 1) (vlk 0) (vik 7) (vik 6)) → ∀ (fik_1 : Nat → Nat → Int32), ∀ (flk_1 : Nat → Nat → Int64), ∀ (vik_1 : Nat → Int32), ∀ (vlk_1 : Nat → Int64), ∀ (rk_1 : Int32), (0 ≤ (vik_1 8).toInt ∧ (vik_1 8).toInt ≤ 40) → (0 ≤ (vik_1 2).toInt ∧ (vik_1 2).toInt ≤ 20) → (0 ≤ (vik_1 7).toInt ∧ (vik_1 7).toInt ≤ 940) → (0 ≤ (vik_1 4).toInt ∧ (vik_1 4).toInt ≤ 940) → (0 ≤ (vik_1 1).toInt ∧ (vik_1 1).toInt ≤ 940) → (rk_1.toInt = 1 → (0 : Int32).toInt + 1 ≤ (vik_1 2).toInt ∧ (vik_1 8).toInt ≤ (0 : Int32).toInt + 2 * ((vik_1 2).toInt - (0 : Int32).toInt) - 1) → (rk_1.toInt = 1 → (vik_1 0).toInt = (vik 2).toInt) → (∀ n m t : Nat, CC (trn (fi 0) n) n m t (vi 3) (vik 0) (vik 4) (vik 5) (vik 1) (vlk 0) (vik 7) (vik 6) → ∀ σ : List Bool, σ.length + 1 = 1 → sps σ = σ → (rk_1.toInt = 1 ∧ ∃ t' : Nat, CC (trn (fi 0) n) n m t' (vi 3) (vik 0) (vik_1 3) (vik_1 4) (vik_1 7) (vlk_1 0) (vik_1 6) (vik_1 5) ∧ ¬ isW (trn (fi 0) n) n m t' 6385252 ∧ ¬ isW (trn (fi 0) n) n m t' 28530 ∧ gto n (SF (trn (fi 0) n) n m (ownB (fl 0)) (fl 1) (vi 13).toInt σ false (0 : Int) t) t (SF (trn (fi 0) n) n m (ownB (fl 0)) (fl 1) (vi 13).toInt σ true (vik_1 2).toInt t') t') ∨ (rk_1.toInt = 0 ∧ gfa n (SF (trn (fi 0) n) n m (ownB (fl 0)) (fl 1) (vi 13).toInt σ false (0 : Int) t) t (vik_1 0).toInt (vik_1 1).toInt)) → (rk_1.toInt = 0) → (True) → (r = (0 : Int32)) → (fj 0 = (fik_1 0)) → (fj 1 = (fik_1 1)) → (fj 2 = (fik_1 2)) → (vj 0 = (vik_1 8)) → (vj 1 = (vik_1 2)) → (vj 2 = (vik 0)) → (vj 3 = (vik_1 7)) → (vj 4 = (vik_1 0)) → (vj 5 = (vik_1 1)) → (vj 6 = (vik_1 3)) → (vj 7 = (vik_1 4)) → (vj 8 = (vik_1 5)) → (vj 9 = (vik_1 6)) → (vj 10 = (vik_1 9)) → (vm 0 = (vlk_1 0)) → Q9
def R_X5_read (fi : Nat → Nat → Int32) (fl : Nat → Nat → Int64) (vi : Nat → Int32) (vl : Nat → Int64) (r : Int32) (fj : Nat → Nat → Int32) (fm : Nat → Nat → Int64) (vj : Nat → Int32) (vm : Nat → Int64) : Prop :=
  ∀ Q9 : Prop, RL_X5_read_0 fi fl vi vl r fj fm vj vm Q9 → RL_X5_read_1 fi fl vi vl r fj fm vj vm Q9 → RL_X5_read_2 fi fl vi vl r fj fm vj vm Q9 → Q9
def PS_X5_read (fi : Nat → Nat → Int32) (fl : Nat → Nat → Int64) (vi : Nat → Int32) (vl : Nat → Int64) (r : Int32) (fj : Nat → Nat → Int32) (fm : Nat → Nat → Int64) (vj : Nat → Int32) (vm : Nat → Int64) : Prop :=
  ∀ n : Nat, (vi 3).toInt = (n : Int) → n ≤ 940 → (r.toInt = 1 ∧ (SR0 (trn (fi 0) n) n (ownB (fl 0)) (fl 1) (vi 13).toInt) = (0, (vj 1).toInt)) ∨ (r.toInt = 0 ∧ ¬ (vj 4).toInt = 0 ∧ (SR0 (trn (fi 0) n) n (ownB (fl 0)) (fl 1) (vi 13).toInt) = ((vj 4).toInt, (vj 5).toInt))
set_option maxHeartbeats 4000000 in
theorem PL_X5_read_0 {fi : Nat → Nat → Int32} {fl : Nat → Nat → Int64} {vi : Nat → Int32} {vl : Nat → Int64} {r : Int32} {fj : Nat → Nat → Int32} {fm : Nat → Nat → Int64} {vj : Nat → Int32} {vm : Nat → Int64} : RL_X5_read_0 fi fl vi vl r fj fm vj vm (PS_X5_read fi fl vi vl r fj fm vj vm) := by
  unfold RL_X5_read_0
  intro hp0 hp1 hp2 hp3 hp4 hp5 hp6 hp7 hp8 fik flk vik vlk uk gk_0 gk_1 gk_2 gk_3 gk_4 fik_1 flk_1 vik_1 vlk_1 rk_1 gk_1_1 gk_1_2 gk_1_3 gk_1_4 gk_1_5 gk_1_6 gk_1_7 gk_1_8 tb gk_1_0 c37 q0 q1 q2 q3 q4 q5 q6 q7 q8 q9 q10 q11 q12 q13 q14 q15; subst q0
  unfold PS_X5_read
  intro n hn h9
  (try simp only [q1, q2, q3, q4, q5, q6, q7, q8, q9, q10, q11, q12, q13, q14, q15]); have k9_0 : (0 : Int32).toInt = 0 := (by decide); have k9_1 : (1 : Int32).toInt = 1 := (by decide)
  obtain ⟨s1, s2, s3⟩ := gk_4 n 200 hn (by decide)
  rcases gk_1_8 n 200 0 s3 [] rfl rfl with ⟨b1, t9, b2, b3, b4, b5⟩ | ⟨b1, b2⟩
  · obtain ⟨hn1, hm1, ht, ck, cp, ce, cw, cu, cg⟩ := id b2
    exact Or.inl ⟨by decide, gto_ok b5 (sg_end ht (by omega)) 1000 (by omega)⟩
  · exact absurd (b1.symm.trans tb) (by decide)
set_option maxHeartbeats 4000000 in
theorem PL_X5_read_1 {fi : Nat → Nat → Int32} {fl : Nat → Nat → Int64} {vi : Nat → Int32} {vl : Nat → Int64} {r : Int32} {fj : Nat → Nat → Int32} {fm : Nat → Nat → Int64} {vj : Nat → Int32} {vm : Nat → Int64} : RL_X5_read_1 fi fl vi vl r fj fm vj vm (PS_X5_read fi fl vi vl r fj fm vj vm) := by
  unfold RL_X5_read_1
  intro hp0 hp1 hp2 hp3 hp4 hp5 hp6 hp7 hp8 fik flk vik vlk uk gk_0 gk_1 gk_2 gk_3 gk_4 fik_1 flk_1 vik_1 vlk_1 rk_1 gk_1_1 gk_1_2 gk_1_3 gk_1_4 gk_1_5 gk_1_6 gk_1_7 gk_1_8 tb gk_1_0 c37 fik_2 flk_2 vik_2 vlk_2 rk_2 gk_2_0 gk_2_1 gk_2_2 q0 q1 q2 q3 q4 q5 q6 q7 q8 q9 q10 q11 q12 q13 q14 q15; subst q0
  unfold PS_X5_read
  intro n hn h9
  (try simp only [q1, q2, q3, q4, q5, q6, q7, q8, q9, q10, q11, q12, q13, q14, q15]); have k9_0 : (0 : Int32).toInt = 0 := (by decide); have k9_1 : (1 : Int32).toInt = 1 := (by decide)
  obtain ⟨s1, s2, s3⟩ := gk_4 n 200 hn (by decide)
  rcases gk_1_8 n 200 0 s3 [] rfl rfl with ⟨b1, t9, b2, b3, b4, b5⟩ | ⟨b1, b2⟩
  · obtain ⟨hn1, hm1, ht, ck, cp, ce, cw, cu, cg⟩ := id b2
    have h5 := gto_fa b5 (gfa_c (sg_cant ht b3 b4 (Or.inr ⟨by omega, Or.inr rfl⟩)) (show (vik_2 0).toInt = 1 by omega) (show (vik_2 1).toInt = (sPn (trn (fi 0) n) n 200 t9 : Int) by omega))
    exact Or.inr ⟨by decide, h5.1, h5.2 1000 (by omega)⟩
  · exact absurd (b1.symm.trans tb) (by decide)
set_option maxHeartbeats 4000000 in
theorem PL_X5_read_2 {fi : Nat → Nat → Int32} {fl : Nat → Nat → Int64} {vi : Nat → Int32} {vl : Nat → Int64} {r : Int32} {fj : Nat → Nat → Int32} {fm : Nat → Nat → Int64} {vj : Nat → Int32} {vm : Nat → Int64} : RL_X5_read_2 fi fl vi vl r fj fm vj vm (PS_X5_read fi fl vi vl r fj fm vj vm) := by
  unfold RL_X5_read_2
  intro hp0 hp1 hp2 hp3 hp4 hp5 hp6 hp7 hp8 fik flk vik vlk uk gk_0 gk_1 gk_2 gk_3 gk_4 fik_1 flk_1 vik_1 vlk_1 rk_1 gk_1_1 gk_1_2 gk_1_3 gk_1_4 gk_1_5 gk_1_6 gk_1_7 gk_1_8 tb gk_1_0 q0 q1 q2 q3 q4 q5 q6 q7 q8 q9 q10 q11 q12 q13 q14 q15; subst q0
  unfold PS_X5_read
  intro n hn h9
  (try simp only [q1, q2, q3, q4, q5, q6, q7, q8, q9, q10, q11, q12, q13, q14, q15]); have k9_0 : (0 : Int32).toInt = 0 := (by decide); have k9_1 : (1 : Int32).toInt = 1 := (by decide)
  obtain ⟨s1, s2, s3⟩ := gk_4 n 200 hn (by decide)
  rcases gk_1_8 n 200 0 s3 [] rfl rfl with ⟨b1, t9, b2, b3, b4, b5⟩ | ⟨b1, b2⟩
  · exact absurd (b1.symm.trans tb) (by decide)
  · exact Or.inr ⟨by decide, b2.1, b2.2 1000 (by omega)⟩
