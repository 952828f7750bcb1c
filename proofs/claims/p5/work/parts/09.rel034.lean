def RL_X5_readCond_2_6 (fi : Nat → Nat → Int32) (fl : Nat → Nat → Int64) (vi : Nat → Int32) (vl : Nat → Int64) (r : Int32) (fj : Nat → Nat → Int32) (fm : Nat → Nat → Int64) (vj : Nat → Int32) (vm : Nat → Int64) (Q9 : Prop) : Prop :=
  (0 ≤ (vi 0).toInt ∧ (vi 0).toInt ≤ 40) → (0 ≤ (vi 1).toInt ∧ (vi 1).toInt ≤ 20) → (0 ≤ (vi 3).toInt ∧ (vi 3).toInt ≤ 940) → (0 ≤ (vi 4).toInt ∧ (vi 4).toInt ≤ 940) → (0 ≤ (vi 5).toInt ∧ (vi 5).toInt ≤ 940) → (0 ≤ (vi 7).toInt ∧ (vi 7).toInt ≤ 940) → (0 ≤ (vi 12).toInt ∧ (vi 12).toInt ≤ 940) → (0 ≤ (vi 13).toInt ∧ (vi 13).toInt ≤ 9) → (0 ≤ (vi 14).toInt ∧ (vi 14).toInt ≤ 9) → ((vi 0).toInt ≤ 2 * (vi 1).toInt) → ∀ (fik : Nat → Nat → Int32), ∀ (flk : Nat → Nat → Int64), ∀ (vik : Nat → Int32), ∀ (vlk : Nat → Int64), ∀ (rk : Int32), (0 ≤ (vik 7).toInt ∧ (vik 7).toInt ≤ 40) → (0 ≤ (vik 6).toInt ∧ (vik 6).toInt ≤ 940) → (0 ≤ (vik 3).toInt ∧ (vik 3).toInt ≤ 940) → (0 ≤ (vik 1).toInt ∧ (vik 1).toInt ≤ 940) → (rk.toInt = 1 → (vi 1).toInt + 1 ≤ (vi 1).toInt ∧ (vik 7).toInt ≤ (vi 0).toInt + 2 * ((vi 1).toInt - (vi 1).toInt) - 1) → (rk.toInt = 1 → (vik 0).toInt = (vi 11).toInt) → (∀ n m t : Nat, CC (trn (fi 0) n) n m t (vi 3) (vi 4) (vi 6) (vi 7) (vi 5) (vl 0) (vi 8) (vi 9) → ∀ σ : List Bool, σ.length + 1 = 9 → sps σ = σ → (rk.toInt = 1 ∧ ∃ t' : Nat, CC (trn (fi 0) n) n m t' (vi 3) (vi 4) (vik 2) (vik 3) (vik 6) (vlk 0) (vik 5) (vik 4) ∧ ¬ isW (trn (fi 0) n) n m t' 6385252 ∧ gto n (SF (trn (fi 0) n) n m (ownB (fl 0)) (fl 1) (vi 13).toInt σ false (vi 1).toInt t) t (SF (trn (fi 0) n) n m (ownB (fl 0)) (fl 1) (vi 13).toInt σ true (vi 1).toInt t') t') ∨ (rk.toInt = 0 ∧ gfa n (SF (trn (fi 0) n) n m (ownB (fl 0)) (fl 1) (vi 13).toInt σ false (vi 1).toInt t) t (vik 0).toInt (vik 1).toInt)) → (rk.toInt = 0) → (True) → ∀ (w3_1 : Int32), ∀ (w2_1 : Int32), ∀ (wv_9 : Int32), ∀ (wv_10 : Int32), ∀ (wv_11 : Int32), ∀ (wv_12 : Int32), ∀ (wv_13 : Int32), ∀ (wv_14 : Int64), ∀ (wv_15 : Int32), ∀ (wv_16 : Int32), ∀ (wf_3 : Nat → Int32), ∀ (wf_4 : Nat → Int32), ∀ (wf_5 : Nat → Int32), ∀ (wv_17 : Int32), (0 ≤ w3_1.toInt ∧ w3_1.toInt ≤ 20) → (0 ≤ w2_1.toInt ∧ w2_1.toInt ≤ 1) → (0 ≤ wv_10.toInt ∧ wv_10.toInt ≤ 940) → (0 ≤ wv_12.toInt ∧ wv_12.toInt ≤ 940) → (0 ≤ wv_16.toInt ∧ wv_16.toInt ≤ 940) → (0 ≤ wv_17.toInt ∧ wv_17.toInt ≤ 40) → (∀ n m t : Nat, CC (trn (fi 0) n) n m t (vi 3) (vi 4) (vi 6) (vi 7) (vi 5) (vl 0) (vi 8) (vi 9) → ∀ σ : List Bool, σ.length + 1 = 9 → sps σ = σ → DJ (w2_1.toInt = 1 ∧ ∃ t' : Nat, CC (trn (fi 0) n) n m t' (vi 3) (vi 4) wv_11 wv_12 wv_16 wv_14 wv_15 wv_13 ∧ ¬ isW (trn (fi 0) n) n m t' 6385252 ∧ gto n (SF (trn (fi 0) n) n m (ownB (fl 0)) (fl 1) (vi 13).toInt σ false (vi 1).toInt t) t (SF (trn (fi 0) n) n m (ownB (fl 0)) (fl 1) (vi 13).toInt σ true (vi 1).toInt t') t') (w2_1.toInt = 0 ∧ gfa n (SF (trn (fi 0) n) n m (ownB (fl 0)) (fl 1) (vi 13).toInt σ false (vi 1).toInt t) t (wv_9).toInt (wv_10).toInt)) → (w2_1.toInt = 1 → (vi 1).toInt + 1 + w3_1.toInt ≤ (vi 1).toInt ∧ (wv_17).toInt ≤ (vi 0).toInt + 2 * ((vi 1).toInt - (vi 1).toInt) - 1) → (w2_1.toInt = 1 → (wv_9).toInt = (vi 11).toInt) → (w2_1.toInt = 1) → (20 ≤ w3_1.toInt) → (r = (1 : Int32)) → (fj 0 = wf_3) → (fj 1 = wf_4) → (fj 2 = wf_5) → (vj 0 = wv_9) → (vj 1 = wv_10) → (vj 2 = wv_11) → (vj 3 = wv_12) → (vj 4 = wv_13) → (vj 5 = wv_15) → (vj 6 = wv_16) → (vj 7 = wv_17) → (vm 0 = wv_14) → Q9
def RL_X5_readCond_2_7 (fi : Nat → Nat → Int32) (fl : Nat → Nat → Int64) (vi : Nat → Int32) (vl : Nat → Int64) (r : Int32) (fj : Nat → Nat → Int32) (fm : Nat → Nat → Int64) (vj : Nat → Int32) (vm : Nat → Int64) (Q9 : Prop) : Prop :=
  (0 ≤ (vi 0).toInt ∧ (vi 0).toInt ≤ 40) → (0 ≤ (vi 1).toInt ∧ (vi 1).toInt ≤ 20) → (0 ≤ (vi 3).toInt ∧ (vi 3).toInt ≤ 940) → (0 ≤ (vi 4).toInt ∧ (vi 4).toInt ≤ 940) → (0 ≤ (vi 5).toInt ∧ (vi 5).toInt ≤ 940) → (0 ≤ (vi 7).toInt ∧ (vi 7).toInt ≤ 940) → (0 ≤ (vi 12).toInt ∧ (vi 12).toInt ≤ 940) → (0 ≤ (vi 13).toInt ∧ (vi 13).toInt ≤ 9) → (0 ≤ (vi 14).toInt ∧ (vi 14).toInt ≤ 9) → ((vi 0).toInt ≤ 2 * (vi 1).toInt) → ∀ (fik : Nat → Nat → Int32), ∀ (flk : Nat → Nat → Int64), ∀ (vik : Nat → Int32), ∀ (vlk : Nat → Int64), ∀ (rk : Int32), (0 ≤ (vik 7).toInt ∧ (vik 7).toInt ≤ 40) → (0 ≤ (vik 6).toInt ∧ (vik 6).toInt ≤ 940) → (0 ≤ (vik 3).toInt ∧ (vik 3).toInt ≤ 940) → (0 ≤ (vik 1).toInt ∧ (vik 1).toInt ≤ 940) → (rk.toInt = 1 → (vi 1).toInt + 1 ≤ (vi 1).toInt ∧ (vik 7).toInt ≤ (vi 0).toInt + 2 * ((vi 1).toInt - (vi 1).toInt) - 1) → (rk.toInt = 1 → (vik 0).toInt = (vi 11).toInt) → (∀ n m t : Nat, CC (trn (fi 0) n) n m t (vi 3) (vi 4) (vi 6) (vi 7) (vi 5) (vl 0) (vi 8) (vi 9) → ∀ σ : List Bool, σ.length + 1 = 9 → sps σ = σ → (rk.toInt = 1 ∧ ∃ t' : Nat, CC (trn (fi 0) n) n m t' (vi 3) (vi 4) (vik 2) (vik 3) (vik 6) (vlk 0) (vik 5) (vik 4) ∧ ¬ isW (trn (fi 0) n) n m t' 6385252 ∧ gto n (SF (trn (fi 0) n) n m (ownB (fl 0)) (fl 1) (vi 13).toInt σ false (vi 1).toInt t) t (SF (trn (fi 0) n) n m (ownB (fl 0)) (fl 1) (vi 13).toInt σ true (vi 1).toInt t') t') ∨ (rk.toInt = 0 ∧ gfa n (SF (trn (fi 0) n) n m (ownB (fl 0)) (fl 1) (vi 13).toInt σ false (vi 1).toInt t) t (vik 0).toInt (vik 1).toInt)) → (rk.toInt = 0) → (True) → ∀ (w3_1 : Int32), ∀ (w2_1 : Int32), ∀ (wv_9 : Int32), ∀ (wv_10 : Int32), ∀ (wv_11 : Int32), ∀ (wv_12 : Int32), ∀ (wv_13 : Int32), ∀ (wv_14 : Int64), ∀ (wv_15 : Int32), ∀ (wv_16 : Int32), ∀ (wf_3 : Nat → Int32), ∀ (wf_4 : Nat → Int32), ∀ (wf_5 : Nat → Int32), ∀ (wv_17 : Int32), (0 ≤ w3_1.toInt ∧ w3_1.toInt ≤ 20) → (0 ≤ w2_1.toInt ∧ w2_1.toInt ≤ 1) → (0 ≤ wv_10.toInt ∧ wv_10.toInt ≤ 940) → (0 ≤ wv_12.toInt ∧ wv_12.toInt ≤ 940) → (0 ≤ wv_16.toInt ∧ wv_16.toInt ≤ 940) → (0 ≤ wv_17.toInt ∧ wv_17.toInt ≤ 40) → (∀ n m t : Nat, CC (trn (fi 0) n) n m t (vi 3) (vi 4) (vi 6) (vi 7) (vi 5) (vl 0) (vi 8) (vi 9) → ∀ σ : List Bool, σ.length + 1 = 9 → sps σ = σ → DJ (w2_1.toInt = 1 ∧ ∃ t' : Nat, CC (trn (fi 0) n) n m t' (vi 3) (vi 4) wv_11 wv_12 wv_16 wv_14 wv_15 wv_13 ∧ ¬ isW (trn (fi 0) n) n m t' 6385252 ∧ gto n (SF (trn (fi 0) n) n m (ownB (fl 0)) (fl 1) (vi 13).toInt σ false (vi 1).toInt t) t (SF (trn (fi 0) n) n m (ownB (fl 0)) (fl 1) (vi 13).toInt σ true (vi 1).toInt t') t') (w2_1.toInt = 0 ∧ gfa n (SF (trn (fi 0) n) n m (ownB (fl 0)) (fl 1) (vi 13).toInt σ false (vi 1).toInt t) t (wv_9).toInt (wv_10).toInt)) → (w2_1.toInt = 1 → (vi 1).toInt + 1 + w3_1.toInt ≤ (vi 1).toInt ∧ (wv_17).toInt ≤ (vi 0).toInt + 2 * ((vi 1).toInt - (vi 1).toInt) - 1) → (w2_1.toInt = 1 → (wv_9).toInt = (vi 11).toInt) → (w2_1.toInt = 1) → (w3_1.toInt < 20) → ∀ (fik_5 : Nat → Nat → Int32), ∀ (flk_5 : Nat → Nat → Int64), ∀ (vik_5 : Nat → Int32), ∀ (vlk_5 : Nat → Int64), ∀ (rk_5 : Int32), (DJ (rk_5.toInt = 1 ∧ (wv_11).toInt = 1 ∧ wv_14 = (28530 : Int64)) (rk_5.toInt = 0 ∧ ¬ ((wv_11).toInt = 1 ∧ wv_14 = (28530 : Int64)))) → (rk_5.toInt = 0) → (True) → (r = (1 : Int32)) → (fj 0 = wf_3) → (fj 1 = wf_4) → (fj 2 = wf_5) → (vj 0 = wv_9) → (vj 1 = wv_10) → (vj 2 = wv_11) → (vj 3 = wv_12) → (vj 4 = wv_13) → (vj 5 = wv_15) → (vj 6 = wv_16) → (vj 7 = wv_17) → (vm 0 = wv_14) → Q9
def R_X5_readCond_2 (fi : Nat → Nat → Int32) (fl : Nat → Nat → Int64) (vi : Nat → Int32) (vl : Nat → Int64) (r : Int32) (fj : Nat → Nat → Int32) (fm : Nat → Nat → Int64) (vj : Nat → Int32) (vm : Nat → Int64) : Prop :=
  ∀ Q9 : Prop, RL_X5_readCond_2_0 fi fl vi vl r fj fm vj vm Q9 → RL_X5_readCond_2_1 fi fl vi vl r fj fm vj vm Q9 → RL_X5_readCond_2_2 fi fl vi vl r fj fm vj vm Q9 → RL_X5_readCond_2_3 fi fl vi vl r fj fm vj vm Q9 → RL_X5_readCond_2_4 fi fl vi vl r fj fm vj vm Q9 → RL_X5_readCond_2_5 fi fl vi vl r fj fm vj vm Q9 → RL_X5_readCond_2_6 fi fl vi vl r fj fm vj vm Q9 → RL_X5_readCond_2_7 fi fl vi vl r fj fm vj vm Q9 → Q9
def PS_X5_readCond_2 (fi : Nat → Nat → Int32) (fl : Nat → Nat → Int64) (vi : Nat → Int32) (vl : Nat → Int64) (r : Int32) (fj : Nat → Nat → Int32) (fm : Nat → Nat → Int64) (vj : Nat → Int32) (vm : Nat → Int64) : Prop :=
  ∀ n m t : Nat, CC (trn (fi 0) n) n m t (vi 3) (vi 4) (vi 6) (vi 7) (vi 5) (vl 0) (vi 8) (vi 9) → ∀ σ : List Bool, σ.length + 1 = 9 → sps σ = σ → (r.toInt = 1 ∧ ∃ t' : Nat, CC (trn (fi 0) n) n m t' (vi 3) (vi 4) (vj 2) (vj 3) (vj 6) (vm 0) (vj 5) (vj 4) ∧ ¬ isW (trn (fi 0) n) n m t' 6385252 ∧ ¬ isW (trn (fi 0) n) n m t' 28530 ∧ gto n (SF (trn (fi 0) n) n m (ownB (fl 0)) (fl 1) (vi 13).toInt σ false (vi 1).toInt t) t (SF (trn (fi 0) n) n m (ownB (fl 0)) (fl 1) (vi 13).toInt σ true (vi 1).toInt t') t') ∨ (r.toInt = 0 ∧ gfa n (SF (trn (fi 0) n) n m (ownB (fl 0)) (fl 1) (vi 13).toInt σ false (vi 1).toInt t) t (vj 0).toInt (vj 1).toInt)
set_option maxHeartbeats 4000000 in
theorem PL_X5_readCond_2_0 {fi : Nat → Nat → Int32} {fl : Nat → Nat → Int64} {vi : Nat → Int32} {vl : Nat → Int64} {r : Int32} {fj : Nat → Nat → Int32} {fm : Nat → Nat → Int64} {vj : Nat → Int32} {vm : Nat → Int64} : RL_X5_readCond_2_0 fi fl vi vl r fj fm vj vm (PS_X5_readCond_2 fi fl vi vl r fj fm vj vm) := by
  unfold RL_X5_readCond_2_0
  intro hp0 hp1 hp2 hp3 hp4 hp5 hp6 hp7 hp8 hp9 fik flk vik vlk rk gk_1 gk_2 gk_3 gk_4 gk_5 gk_6 gk_7 tb gk_0 w3 w2 wv wv_1 wv_2 wv_3 wv_4 wv_5 wv_6 wv_7 wf wf_1 wf_2 wv_8 hi hi_1 hi_2 hi_3 hi_4 hi_5 hai9 hni9 hfj9 hbz c11 q0 q1 q2 q3 q4 q5 q6 q7 q8 q9 q10 q11 q12; subst q0
  unfold PS_X5_readCond_2
  intro n m t hc σ hd hs
  (try simp only [q1, q2, q3, q4, q5, q6, q7, q8, q9, q10, q11, q12]); have k9_0 : (0 : Int32).toInt = 0 := (by decide); have k9_1 : (1 : Int32).toInt = 1 := (by decide)
  rcases hai9 n m t hc σ hd hs with ⟨a1, t8, a2, a4, a3⟩ | ⟨a1, a2⟩
  · exfalso; omega
  · exact Or.inr ⟨by decide, a2⟩
set_option maxHeartbeats 4000000 in
theorem PL_X5_readCond_2_1 {fi : Nat → Nat → Int32} {fl : Nat → Nat → Int64} {vi : Nat → Int32} {vl : Nat → Int64} {r : Int32} {fj : Nat → Nat → Int32} {fm : Nat → Nat → Int64} {vj : Nat → Int32} {vm : Nat → Int64} : RL_X5_readCond_2_1 fi fl vi vl r fj fm vj vm (PS_X5_readCond_2 fi fl vi vl r fj fm vj vm) := by
  unfold RL_X5_readCond_2_1
  intro hp0 hp1 hp2 hp3 hp4 hp5 hp6 hp7 hp8 hp9 fik flk vik vlk rk gk_1 gk_2 gk_3 gk_4 gk_5 gk_6 gk_7 tb gk_0 w3 w2 wv wv_1 wv_2 wv_3 wv_4 wv_5 wv_6 wv_7 wf wf_1 wf_2 wv_8 hi hi_1 hi_2 hi_3 hi_4 hi_5 hai9 hni9 hfj9 hbz c11 q0 q1 q2 q3 q4 q5 q6 q7 q8 q9 q10 q11 q12; subst q0
  unfold PS_X5_readCond_2
  intro n m t hc σ hd hs
  (try simp only [q1, q2, q3, q4, q5, q6, q7, q8, q9, q10, q11, q12]); have k9_0 : (0 : Int32).toInt = 0 := (by decide); have k9_1 : (1 : Int32).toInt = 1 := (by decide)
  rcases hai9 n m t hc σ hd hs with ⟨a1, t8, a2, a4, a3⟩ | ⟨a1, a2⟩
  · exfalso; omega
  · exact Or.inr ⟨by decide, a2⟩
set_option maxHeartbeats 4000000 in
theorem PL_X5_readCond_2_2 {fi : Nat → Nat → Int32} {fl : Nat → Nat → Int64} {vi : Nat → Int32} {vl : Nat → Int64} {r : Int32} {fj : Nat → Nat → Int32} {fm : Nat → Nat → Int64} {vj : Nat → Int32} {vm : Nat → Int64} : RL_X5_readCond_2_2 fi fl vi vl r fj fm vj vm (PS_X5_readCond_2 fi fl vi vl r fj fm vj vm) := by
  unfold RL_X5_readCond_2_2
  intro hp0 hp1 hp2 hp3 hp4 hp5 hp6 hp7 hp8 hp9 fik flk vik vlk rk gk_1 gk_2 gk_3 gk_4 gk_5 gk_6 gk_7 tb gk_0 w3 w2 wv wv_1 wv_2 wv_3 wv_4 wv_5 wv_6 wv_7 wf wf_1 wf_2 wv_8 hi hi_1 hi_2 hi_3 hi_4 hi_5 hai9 hni9 hfj9 hbz c11_1 q0 q1 q2 q3 q4 q5 q6 q7 q8 q9 q10 q11 q12; subst q0
  unfold PS_X5_readCond_2
  intro n m t hc σ hd hs
  (try simp only [q1, q2, q3, q4, q5, q6, q7, q8, q9, q10, q11, q12]); have k9_0 : (0 : Int32).toInt = 0 := (by decide); have k9_1 : (1 : Int32).toInt = 1 := (by decide)
  rcases hai9 n m t hc σ hd hs with ⟨a1, t8, a2, a4, a3⟩ | ⟨a1, a2⟩
  · exfalso; omega
  · exfalso; omega
set_option maxHeartbeats 4000000 in
theorem PL_X5_readCond_2_3 {fi : Nat → Nat → Int32} {fl : Nat → Nat → Int64} {vi : Nat → Int32} {vl : Nat → Int64} {r : Int32} {fj : Nat → Nat → Int32} {fm : Nat → Nat → Int64} {vj : Nat → Int32} {vm : Nat → Int64} : RL_X5_readCond_2_3 fi fl vi vl r fj fm vj vm (PS_X5_readCond_2 fi fl vi vl r fj fm vj vm) := by
  unfold RL_X5_readCond_2_3
  intro hp0 hp1 hp2 hp3 hp4 hp5 hp6 hp7 hp8 hp9 fik flk vik vlk rk gk_1 gk_2 gk_3 gk_4 gk_5 gk_6 gk_7 tb gk_0 w3 w2 wv wv_1 wv_2 wv_3 wv_4 wv_5 wv_6 wv_7 wf wf_1 wf_2 wv_8 hi hi_1 hi_2 hi_3 hi_4 hi_5 hai9 hni9 hfj9 hbz c11_1 fik_1 flk_1 vik_1 vlk_1 rk_1 gk_1_1 tb_1 gk_1_0 q0 q1 q2 q3 q4 q5 q6 q7 q8 q9 q10 q11 q12; subst q0
  unfold PS_X5_readCond_2
  intro n m t hc σ hd hs
  (try simp only [q1, q2, q3, q4, q5, q6, q7, q8, q9, q10, q11, q12]); have k9_0 : (0 : Int32).toInt = 0 := (by decide); have k9_1 : (1 : Int32).toInt = 1 := (by decide)
  rcases hai9 n m t hc σ hd hs with ⟨a1, t8, a2, a4, a3⟩ | ⟨a1, a2⟩
  · obtain ⟨hn, hm, ht, ck, cp, ce, cw, cu, cg⟩ := id a2
    have n_or : ¬ isW (trn (fi 0) n) n m t8 28530 := by
      rcases gk_1_1 with ⟨z1, z2, z3⟩ | ⟨z1, z2⟩
      · exact absurd (z1.symm.trans tb_1) (by decide)
      · exact fun c => z2 ⟨ck.trans c.1, by rw [cw c.1]; exact c.2⟩
    exact Or.inl ⟨by decide, t8, a2, a4, n_or, a3⟩
  · exfalso; omega
set_option maxHeartbeats 4000000 in
theorem PL_X5_readCond_2_4 {fi : Nat → Nat → Int32} {fl : Nat → Nat → Int64} {vi : Nat → Int32} {vl : Nat → Int64} {r : Int32} {fj : Nat → Nat → Int32} {fm : Nat → Nat → Int64} {vj : Nat → Int32} {vm : Nat → Int64} : RL_X5_readCond_2_4 fi fl vi vl r fj fm vj vm (PS_X5_readCond_2 fi fl vi vl r fj fm vj vm) := by
  unfold RL_X5_readCond_2_4
  intro hp0 hp1 hp2 hp3 hp4 hp5 hp6 hp7 hp8 hp9 fik flk vik vlk rk gk_1 gk_2 gk_3 gk_4 gk_5 gk_6 gk_7 tb gk_0 w3_1 w2_1 wv_9 wv_10 wv_11 wv_12 wv_13 wv_14 wv_15 wv_16 wf_3 wf_4 wf_5 wv_17 hi_6 hi_7 hi_8 hi_9 hi_10 hi_11 hai9 hni9 hfj9 hbz_1 c11_2 q0 q1 q2 q3 q4 q5 q6 q7 q8 q9 q10 q11 q12; subst q0
  unfold PS_X5_readCond_2
  intro n m t hc σ hd hs
  (try simp only [q1, q2, q3, q4, q5, q6, q7, q8, q9, q10, q11, q12]); have k9_0 : (0 : Int32).toInt = 0 := (by decide); have k9_1 : (1 : Int32).toInt = 1 := (by decide)
  rcases hai9 n m t hc σ hd hs with ⟨a1, t8, a2, a4, a3⟩ | ⟨a1, a2⟩
  · exfalso; omega
  · exact Or.inr ⟨by decide, a2⟩
set_option maxHeartbeats 4000000 in
theorem PL_X5_readCond_2_5 {fi : Nat → Nat → Int32} {fl : Nat → Nat → Int64} {vi : Nat → Int32} {vl : Nat → Int64} {r : Int32} {fj : Nat → Nat → Int32} {fm : Nat → Nat → Int64} {vj : Nat → Int32} {vm : Nat → Int64} : RL_X5_readCond_2_5 fi fl vi vl r fj fm vj vm (PS_X5_readCond_2 fi fl vi vl r fj fm vj vm) := by
  unfold RL_X5_readCond_2_5
  intro hp0 hp1 hp2 hp3 hp4 hp5 hp6 hp7 hp8 hp9 fik flk vik vlk rk gk_1 gk_2 gk_3 gk_4 gk_5 gk_6 gk_7 tb gk_0 w3_1 w2_1 wv_9 wv_10 wv_11 wv_12 wv_13 wv_14 wv_15 wv_16 wf_3 wf_4 wf_5 wv_17 hi_6 hi_7 hi_8 hi_9 hi_10 hi_11 hai9 hni9 hfj9 hbz_1 c11_2 q0 q1 q2 q3 q4 q5 q6 q7 q8 q9 q10 q11 q12; subst q0
  unfold PS_X5_readCond_2
  intro n m t hc σ hd hs
  (try simp only [q1, q2, q3, q4, q5, q6, q7, q8, q9, q10, q11, q12]); have k9_0 : (0 : Int32).toInt = 0 := (by decide); have k9_1 : (1 : Int32).toInt = 1 := (by decide)
  rcases hai9 n m t hc σ hd hs with ⟨a1, t8, a2, a4, a3⟩ | ⟨a1, a2⟩
  · exfalso; omega
  · exact Or.inr ⟨by decide, a2⟩
set_option maxHeartbeats 4000000 in
theorem PL_X5_readCond_2_6 {fi : Nat → Nat → Int32} {fl : Nat → Nat → Int64} {vi : Nat → Int32} {vl : Nat → Int64} {r : Int32} {fj : Nat → Nat → Int32} {fm : Nat → Nat → Int64} {vj : Nat → Int32} {vm : Nat → Int64} : RL_X5_readCond_2_6 fi fl vi vl r fj fm vj vm (PS_X5_readCond_2 fi fl vi vl r fj fm vj vm) := by
  unfold RL_X5_readCond_2_6
  intro hp0 hp1 hp2 hp3 hp4 hp5 hp6 hp7 hp8 hp9 fik flk vik vlk rk gk_1 gk_2 gk_3 gk_4 gk_5 gk_6 gk_7 tb gk_0 w3_1 w2_1 wv_9 wv_10 wv_11 wv_12 wv_13 wv_14 wv_15 wv_16 wf_3 wf_4 wf_5 wv_17 hi_6 hi_7 hi_8 hi_9 hi_10 hi_11 hai9 hni9 hfj9 hbz_1 c11_3 q0 q1 q2 q3 q4 q5 q6 q7 q8 q9 q10 q11 q12; subst q0
  unfold PS_X5_readCond_2
  intro n m t hc σ hd hs
  (try simp only [q1, q2, q3, q4, q5, q6, q7, q8, q9, q10, q11, q12]); have k9_0 : (0 : Int32).toInt = 0 := (by decide); have k9_1 : (1 : Int32).toInt = 1 := (by decide)
  rcases hai9 n m t hc σ hd hs with ⟨a1, t8, a2, a4, a3⟩ | ⟨a1, a2⟩
  · exfalso; omega
  · exfalso; omega
set_option maxHeartbeats 4000000 in
theorem PL_X5_readCond_2_7 {fi : Nat → Nat → Int32} {fl : Nat → Nat → Int64} {vi : Nat → Int32} {vl : Nat → Int64} {r : Int32} {fj : Nat → Nat → Int32} {fm : Nat → Nat → Int64} {vj : Nat → Int32} {vm : Nat → Int64} : RL_X5_readCond_2_7 fi fl vi vl r fj fm vj vm (PS_X5_readCond_2 fi fl vi vl r fj fm vj vm) := by
  unfold RL_X5_readCond_2_7
  intro hp0 hp1 hp2 hp3 hp4 hp5 hp6 hp7 hp8 hp9 fik flk vik vlk rk gk_1 gk_2 gk_3 gk_4 gk_5 gk_6 gk_7 tb gk_0 w3_1 w2_1 wv_9 wv_10 wv_11 wv_12 wv_13 wv_14 wv_15 wv_16 wf_3 wf_4 wf_5 wv_17 hi_6 hi_7 hi_8 hi_9 hi_10 hi_11 hai9 hni9 hfj9 hbz_1 c11_3 fik_5 flk_5 vik_5 vlk_5 rk_5 gk_5_1 tb_4 gk_5_0 q0 q1 q2 q3 q4 q5 q6 q7 q8 q9 q10 q11 q12; subst q0
  unfold PS_X5_readCond_2
  intro n m t hc σ hd hs
  (try simp only [q1, q2, q3, q4, q5, q6, q7, q8, q9, q10, q11, q12]); have k9_0 : (0 : Int32).toInt = 0 := (by decide); have k9_1 : (1 : Int32).toInt = 1 := (by decide)
  rcases hai9 n m t hc σ hd hs with ⟨a1, t8, a2, a4, a3⟩ | ⟨a1, a2⟩
  · obtain ⟨hn, hm, ht, ck, cp, ce, cw, cu, cg⟩ := id a2
    have n_or : ¬ isW (trn (fi 0) n) n m t8 28530 := by
      rcases gk_5_1 with ⟨z1, z2, z3⟩ | ⟨z1, z2⟩
      · exact absurd (z1.symm.trans tb_4) (by decide)
      · exact fun c => z2 ⟨ck.trans c.1, by rw [cw c.1]; exact c.2⟩
    exact Or.inl ⟨by decide, t8, a2, a4, n_or, a3⟩
  · exfalso; omega
theorem P_X5_readCond_2 {fi : Nat → Nat → Int32} {fl : Nat → Nat → Int64} {vi : Nat → Int32} {vl : Nat → Int64} {r : Int32} {fj : Nat → Nat → Int32} {fm : Nat → Nat → Int64} {vj : Nat → Int32} {vm : Nat → Int64} (h : R_X5_readCond_2 fi fl vi vl r fj fm vj vm) : ∀ n m t : Nat, CC (trn (fi 0) n) n m t (vi 3) (vi 4) (vi 6) (vi 7) (vi 5) (vl 0) (vi 8) (vi 9) → ∀ σ : List Bool, σ.length + 1 = 9 → sps σ = σ → (r.toInt = 1 ∧ ∃ t' : Nat, CC (trn (fi 0) n) n m t' (vi 3) (vi 4) (vj 2) (vj 3) (vj 6) (vm 0) (vj 5) (vj 4) ∧ ¬ isW (trn (fi 0) n) n m t' 6385252 ∧ ¬ isW (trn (fi 0) n) n m t' 28530 ∧ gto n (SF (trn (fi 0) n) n m (ownB (fl 0)) (fl 1) (vi 13).toInt σ false (vi 1).toInt t) t (SF (trn (fi 0) n) n m (ownB (fl 0)) (fl 1) (vi 13).toInt σ true (vi 1).toInt t') t') ∨ (r.toInt = 0 ∧ gfa n (SF (trn (fi 0) n) n m (ownB (fl 0)) (fl 1) (vi 13).toInt σ false (vi 1).toInt t) t (vj 0).toInt (vj 1).toInt) := h (PS_X5_readCond_2 fi fl vi vl r fj fm vj vm) PL_X5_readCond_2_0 PL_X5_readCond_2_1 PL_X5_readCond_2_2 PL_X5_readCond_2_3 PL_X5_readCond_2_4 PL_X5_readCond_2_5 PL_X5_readCond_2_6 PL_X5_readCond_2_7
