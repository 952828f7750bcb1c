set_option maxHeartbeats 4000000 in
theorem PL_X8_passOnce_0 {fi : Nat → Nat → Int32} {fl : Nat → Nat → Int64} {vi : Nat → Int32} {vl : Nat → Int64} {r : Int32} {fj : Nat → Nat → Int32} {fm : Nat → Nat → Int64} {vj : Nat → Int32} {vm : Nat → Int64} : RL_X8_passOnce_0 fi fl vi vl r fj fm vj vm (PS_X8_passOnce fi fl vi vl r fj fm vj vm) := by
  unfold RL_X8_passOnce_0
  intro c8 fik flk vik vlk rk gk_4 tb gk_0 q0 q1 q2 q3 q4 q5 q6 q7 q8 q9; subst q0
  unfold PS_X8_passOnce
  intro n m t hc
  (try simp only [q1, q2, q3, q4, q5, q6, q7, q8, q9]); have k9_0 : (0 : Int32).toInt = 0 := (by decide); have k9_1 : (1 : Int32).toInt = 1 := (by decide)
  have hc0 := hc
  obtain ⟨hn, hm, ht, ck, cp, ce, cw, cu, cg⟩ := hc0
  rcases gk_4 n m t hc with ⟨a1, a2, a3, a4, a5⟩ | ⟨a1, a2, a3, a4⟩ | ⟨a1, a2, a3, a4, a5⟩
  · have h8 := a2.1
    first | exact Or.inl ⟨by decide, a2, a3, a4, (fun _ _ => by omega), a5⟩ | (exfalso; omega)
  · exact absurd (a1.symm.trans tb) (by decide)
  · exact absurd (a1.symm.trans tb) (by decide)
set_option maxHeartbeats 4000000 in
theorem PL_X8_passOnce_1 {fi : Nat → Nat → Int32} {fl : Nat → Nat → Int64} {vi : Nat → Int32} {vl : Nat → Int64} {r : Int32} {fj : Nat → Nat → Int32} {fm : Nat → Nat → Int64} {vj : Nat → Int32} {vm : Nat → Int64} : RL_X8_passOnce_1 fi fl vi vl r fj fm vj vm (PS_X8_passOnce fi fl vi vl r fj fm vj vm) := by
  unfold RL_X8_passOnce_1
  intro c8 fik flk vik vlk rk gk_4 tb gk_0 q0 q1 q2 q3 q4 q5 q6 q7 q8 q9; subst q0
  unfold PS_X8_passOnce
  intro n m t hc
  (try simp only [q1, q2, q3, q4, q5, q6, q7, q8, q9]); have k9_0 : (0 : Int32).toInt = 0 := (by decide); have k9_1 : (1 : Int32).toInt = 1 := (by decide)
  have hc0 := hc
  obtain ⟨hn, hm, ht, ck, cp, ce, cw, cu, cg⟩ := hc0
  rcases gk_4 n m t hc with ⟨a1, a2, a3, a4, a5⟩ | ⟨a1, a2, a3, a4⟩ | ⟨a1, a2, a3, a4, a5⟩
  · exact absurd (a1.symm.trans tb) (by decide)
  · exact Or.inr (Or.inl ⟨by decide, a2, a3, a4⟩)
  · exact Or.inr (Or.inr (Or.inl ⟨by decide, a2, a3, a4, a5⟩))
set_option maxHeartbeats 4000000 in
theorem PL_X8_passOnce_2 {fi : Nat → Nat → Int32} {fl : Nat → Nat → Int64} {vi : Nat → Int32} {vl : Nat → Int64} {r : Int32} {fj : Nat → Nat → Int32} {fm : Nat → Nat → Int64} {vj : Nat → Int32} {vm : Nat → Int64} : RL_X8_passOnce_2 fi fl vi vl r fj fm vj vm (PS_X8_passOnce fi fl vi vl r fj fm vj vm) := by
  unfold RL_X8_passOnce_2
  intro c8 c12 fik_1 flk_1 vik_1 vlk_1 rk_1 gk_1_4 tb_1 gk_1_0 q0 q1 q2 q3 q4 q5 q6 q7 q8 q9; subst q0
  unfold PS_X8_passOnce
  intro n m t hc
  (try simp only [q1, q2, q3, q4, q5, q6, q7, q8, q9]); have k9_0 : (0 : Int32).toInt = 0 := (by decide); have k9_1 : (1 : Int32).toInt = 1 := (by decide)
  have hc0 := hc
  obtain ⟨hn, hm, ht, ck, cp, ce, cw, cu, cg⟩ := hc0
  rcases gk_1_4 n m t hc with ⟨a1, a2, a3, a4, a5⟩ | ⟨a1, a2, a3, a4⟩ | ⟨a1, a2, a3, a4, a5⟩
  · have h8 := a2.1
    first | exact Or.inl ⟨by decide, a2, a3, a4, (fun _ _ => by omega), a5⟩ | (exfalso; omega)
  · exact absurd (a1.symm.trans tb_1) (by decide)
  · exact absurd (a1.symm.trans tb_1) (by decide)
set_option maxHeartbeats 4000000 in
theorem PL_X8_passOnce_3 {fi : Nat → Nat → Int32} {fl : Nat → Nat → Int64} {vi : Nat → Int32} {vl : Nat → Int64} {r : Int32} {fj : Nat → Nat → Int32} {fm : Nat → Nat → Int64} {vj : Nat → Int32} {vm : Nat → Int64} : RL_X8_passOnce_3 fi fl vi vl r fj fm vj vm (PS_X8_passOnce fi fl vi vl r fj fm vj vm) := by
  unfold RL_X8_passOnce_3
  intro c8 c12 fik_1 flk_1 vik_1 vlk_1 rk_1 gk_1_4 tb_1 gk_1_0 q0 q1 q2 q3 q4 q5 q6 q7 q8 q9; subst q0
  unfold PS_X8_passOnce
  intro n m t hc
  (try simp only [q1, q2, q3, q4, q5, q6, q7, q8, q9]); have k9_0 : (0 : Int32).toInt = 0 := (by decide); have k9_1 : (1 : Int32).toInt = 1 := (by decide)
  have hc0 := hc
  obtain ⟨hn, hm, ht, ck, cp, ce, cw, cu, cg⟩ := hc0
  rcases gk_1_4 n m t hc with ⟨a1, a2, a3, a4, a5⟩ | ⟨a1, a2, a3, a4⟩ | ⟨a1, a2, a3, a4, a5⟩
  · exact absurd (a1.symm.trans tb_1) (by decide)
  · exact Or.inr (Or.inl ⟨by decide, a2, a3, a4⟩)
  · exact Or.inr (Or.inr (Or.inl ⟨by decide, a2, a3, a4, a5⟩))
set_option maxHeartbeats 4000000 in
theorem PL_X8_passOnce_4 {fi : Nat → Nat → Int32} {fl : Nat → Nat → Int64} {vi : Nat → Int32} {vl : Nat → Int64} {r : Int32} {fj : Nat → Nat → Int32} {fm : Nat → Nat → Int64} {vj : Nat → Int32} {vm : Nat → Int64} : RL_X8_passOnce_4 fi fl vi vl r fj fm vj vm (PS_X8_passOnce fi fl vi vl r fj fm vj vm) := by
  unfold RL_X8_passOnce_4
  intro c8 c12 c18 fik_2 flk_2 vik_2 vlk_2 rk_2 gk_2_4 tb_2 gk_2_0 q0 q1 q2 q3 q4 q5 q6 q7 q8 q9; subst q0
  unfold PS_X8_passOnce
  intro n m t hc
  (try simp only [q1, q2, q3, q4, q5, q6, q7, q8, q9]); have k9_0 : (0 : Int32).toInt = 0 := (by decide); have k9_1 : (1 : Int32).toInt = 1 := (by decide)
  have hc0 := hc
  obtain ⟨hn, hm, ht, ck, cp, ce, cw, cu, cg⟩ := hc0
  rcases gk_2_4 n m t hc with ⟨a1, a2, a3, a4, a5⟩ | ⟨a1, a2, a3, a4⟩ | ⟨a1, a2, a3, a4, a5⟩
  · have h8 := a2.1
    first | exact Or.inl ⟨by decide, a2, a3, a4, (fun _ _ => by omega), a5⟩ | (exfalso; omega)
  · exact absurd (a1.symm.trans tb_2) (by decide)
  · exact absurd (a1.symm.trans tb_2) (by decide)
set_option maxHeartbeats 4000000 in
theorem PL_X8_passOnce_5 {fi : Nat → Nat → Int32} {fl : Nat → Nat → Int64} {vi : Nat → Int32} {vl : Nat → Int64} {r : Int32} {fj : Nat → Nat → Int32} {fm : Nat → Nat → Int64} {vj : Nat → Int32} {vm : Nat → Int64} : RL_X8_passOnce_5 fi fl vi vl r fj fm vj vm (PS_X8_passOnce fi fl vi vl r fj fm vj vm) := by
  unfold RL_X8_passOnce_5
  intro c8 c12 c18 fik_2 flk_2 vik_2 vlk_2 rk_2 gk_2_4 tb_2 gk_2_0 q0 q1 q2 q3 q4 q5 q6 q7 q8 q9; subst q0
  unfold PS_X8_passOnce
  intro n m t hc
  (try simp only [q1, q2, q3, q4, q5, q6, q7, q8, q9]); have k9_0 : (0 : Int32).toInt = 0 := (by decide); have k9_1 : (1 : Int32).toInt = 1 := (by decide)
  have hc0 := hc
  obtain ⟨hn, hm, ht, ck, cp, ce, cw, cu, cg⟩ := hc0
  rcases gk_2_4 n m t hc with ⟨a1, a2, a3, a4, a5⟩ | ⟨a1, a2, a3, a4⟩ | ⟨a1, a2, a3, a4, a5⟩
  · exact absurd (a1.symm.trans tb_2) (by decide)
  · exact Or.inr (Or.inl ⟨by decide, a2, a3, a4⟩)
  · exact Or.inr (Or.inr (Or.inl ⟨by decide, a2, a3, a4, a5⟩))
set_option maxHeartbeats 4000000 in
theorem PL_X8_passOnce_6 {fi : Nat → Nat → Int32} {fl : Nat → Nat → Int64} {vi : Nat → Int32} {vl : Nat → Int64} {r : Int32} {fj : Nat → Nat → Int32} {fm : Nat → Nat → Int64} {vj : Nat → Int32} {vm : Nat → Int64} : RL_X8_passOnce_6 fi fl vi vl r fj fm vj vm (PS_X8_passOnce fi fl vi vl r fj fm vj vm) := by
  unfold RL_X8_passOnce_6
  intro c8 c12 c18 c35 fik_3 flk_3 vik_3 vlk_3 rk_3 gk_3_4 tb_3 gk_3_0 q0 q1 q2 q3 q4 q5 q6 q7 q8 q9; subst q0
  unfold PS_X8_passOnce
  intro n m t hc
  (try simp only [q1, q2, q3, q4, q5, q6, q7, q8, q9]); have k9_0 : (0 : Int32).toInt = 0 := (by decide); have k9_1 : (1 : Int32).toInt = 1 := (by decide)
  have hc0 := hc
  obtain ⟨hn, hm, ht, ck, cp, ce, cw, cu, cg⟩ := hc0
  rcases gk_3_4 n m t hc with ⟨a1, a2, a3, a4, a5⟩ | ⟨a1, a2, a3, a4⟩ | ⟨a1, a2, a3, a4, a5⟩
  · have h8 := a2.1
    first | exact Or.inl ⟨by decide, a2, a3, a4, (fun _ _ => by omega), a5⟩ | (exfalso; omega)
  · exact absurd (a1.symm.trans tb_3) (by decide)
  · exact absurd (a1.symm.trans tb_3) (by decide)
set_option maxHeartbeats 4000000 in
theorem PL_X8_passOnce_7 {fi : Nat → Nat → Int32} {fl : Nat → Nat → Int64} {vi : Nat → Int32} {vl : Nat → Int64} {r : Int32} {fj : Nat → Nat → Int32} {fm : Nat → Nat → Int64} {vj : Nat → Int32} {vm : Nat → Int64} : RL_X8_passOnce_7 fi fl vi vl r fj fm vj vm (PS_X8_passOnce fi fl vi vl r fj fm vj vm) := by
  unfold RL_X8_passOnce_7
  intro c8 c12 c18 c35 fik_3 flk_3 vik_3 vlk_3 rk_3 gk_3_4 tb_3 gk_3_0 q0 q1 q2 q3 q4 q5 q6 q7 q8 q9; subst q0
  unfold PS_X8_passOnce
  intro n m t hc
  (try simp only [q1, q2, q3, q4, q5, q6, q7, q8, q9]); have k9_0 : (0 : Int32).toInt = 0 := (by decide); have k9_1 : (1 : Int32).toInt = 1 := (by decide)
  have hc0 := hc
  obtain ⟨hn, hm, ht, ck, cp, ce, cw, cu, cg⟩ := hc0
  rcases gk_3_4 n m t hc with ⟨a1, a2, a3, a4, a5⟩ | ⟨a1, a2, a3, a4⟩ | ⟨a1, a2, a3, a4, a5⟩
  · exact absurd (a1.symm.trans tb_3) (by decide)
  · exact Or.inr (Or.inl ⟨by decide, a2, a3, a4⟩)
  · exact Or.inr (Or.inr (Or.inl ⟨by decide, a2, a3, a4, a5⟩))
set_option maxHeartbeats 4000000 in
theorem PL_X8_passOnce_8 {fi : Nat → Nat → Int32} {fl : Nat → Nat → Int64} {vi : Nat → Int32} {vl : Nat → Int64} {r : Int32} {fj : Nat → Nat → Int32} {fm : Nat → Nat → Int64} {vj : Nat → Int32} {vm : Nat → Int64} : RL_X8_passOnce_8 fi fl vi vl r fj fm vj vm (PS_X8_passOnce fi fl vi vl r fj fm vj vm) := by
  unfold RL_X8_passOnce_8
  intro c8 c12 c18 c35 fik_4 flk_4 vik_4 vlk_4 rk_4 gk_4_0 gk_4_2 q0 q1 q2 q3 q4 q5 q6 q7 q8 q9; subst q0
  unfold PS_X8_passOnce
  intro n m t hc
  (try simp only [q1, q2, q3, q4, q5, q6, q7, q8, q9]); have k9_0 : (0 : Int32).toInt = 0 := (by decide); have k9_1 : (1 : Int32).toInt = 1 := (by decide); have k9_2 : (3 : Int32).toInt = 3 := (by decide)
  have hc0 := hc
  obtain ⟨hn, hm, ht, ck, cp, ce, cw, cu, cg⟩ := hc0
  exact Or.inr (Or.inr (Or.inr ⟨by decide, by omega, by omega, by omega, by omega, by omega, by omega⟩))
theorem P_X8_passOnce {fi : Nat → Nat → Int32} {fl : Nat → Nat → Int64} {vi : Nat → Int32} {vl : Nat → Int64} {r : Int32} {fj : Nat → Nat → Int32} {fm : Nat → Nat → Int64} {vj : Nat → Int32} {vm : Nat → Int64} (h : R_X8_passOnce fi fl vi vl r fj fm vj vm) : ∀ n m t : Nat, CC (trn (fi 0) n) n m t (vi 3) (vi 4) (vi 6) (vi 7) (vi 5) (vl 0) (vi 8) (vi 9) → (r.toInt = 1 ∧ (wMay (trn (fi 0) n) n m (ownB (fl 0)) t) ∧ ¬ (vi 0).toInt = -1 ∧ (vj 0).toInt = (vi 0).toInt ∧ (0 ≤ (vi 0).toInt → (vi 0).toInt < 9 → ((fi 1) ((vi 0)).toNatClampNeg).toInt = -1) ∧ CC (trn (fi 0) n) n m (sX (trn (fi 0) n) n m t) (vi 3) (vi 4) (vj 1) (vj 2) (vj 5) (vm 0) (vj 4) (vj 3)) ∨ (r.toInt = 0 ∧ ¬ (wMay (trn (fi 0) n) n m (ownB (fl 0)) t) ∧ (vj 6).toInt = 1 ∧ (vj 7).toInt = ((sPn (trn (fi 0) n) n m t) : Int)) ∨ (r.toInt = 0 ∧ (wMay (trn (fi 0) n) n m (ownB (fl 0)) t) ∧ (vi 0).toInt = -1 ∧ (vj 6).toInt = 3 ∧ (vj 7).toInt = ((sPn (trn (fi 0) n) n m t) : Int)) ∨ (r.toInt = 0 ∧ (sK (trn (fi 0) n) n m t) = 1 ∧ 0 ≤ (vi 0).toInt ∧ (vi 0).toInt < 9 ∧ ¬ ((fi 1) ((vi 0)).toNatClampNeg).toInt = -1 ∧ (vj 6).toInt = 3 ∧ (vj 7).toInt = ((sPn (trn (fi 0) n) n m t) : Int)) := h (PS_X8_passOnce fi fl vi vl r fj fm vj vm) PL_X8_passOnce_0 PL_X8_passOnce_1 PL_X8_passOnce_2 PL_X8_passOnce_3 PL_X8_passOnce_4 PL_X8_passOnce_5 PL_X8_passOnce_6 PL_X8_passOnce_7 PL_X8_passOnce_8
def RL_X8_readOfName_0 (fi : Nat → Nat → Int32) (fl : Nat → Nat → Int64) (vi : Nat → Int32) (vl : Nat → Int64) (r : Int32) (fj : Nat → Nat → Int32) (fm : Nat → Nat → Int64) (vj : Nat → Int32) (vm : Nat → Int64) (Q9 : Prop) : Prop :=
  (0 ≤ (vi 14).toInt ∧ (vi 14).toInt ≤ 9) → (0 ≤ (vi 15).toInt ∧ (vi 15).toInt ≤ 9) → ∀ (fik : Nat → Nat → Int32), ∀ (flk : Nat → Nat → Int64), ∀ (vik : Nat → Int32), ∀ (vlk : Nat → Int64), ∀ (rk : Int32), (-1 ≤ rk.toInt ∧ rk.toInt ≤ 8) → (rk.toInt = fdx (fl 0) 0 (vl 0) ((vi 14).toInt).toNat) → ∀ (fik_1 : Nat → Nat → Int32), ∀ (flk_1 : Nat → Nat → Int64), ∀ (vik_1 : Nat → Int32), ∀ (vlk_1 : Nat → Int64), ∀ (rk_1 : Int32), (∀ n m t : Nat, CC (trn (fi 0) n) n m t (vi 4) (vi 5) (vi 7) (vi 8) (vi 6) (vl 0) (vi 9) (vi 10) → (rk_1.toInt = 1 ∧ (wMay (trn (fi 0) n) n m (ownB (fl 1)) t) ∧ ¬ rk.toInt = -1 ∧ (vik_1 0).toInt = rk.toInt ∧ (0 ≤ rk.toInt → rk.toInt < 9 → ((fi 1) (rk).toNatClampNeg).toInt = -1) ∧ CC (trn (fi 0) n) n m (sX (trn (fi 0) n) n m t) (vi 4) (vi 5) (vik_1 1) (vik_1 2) (vik_1 5) (vlk_1 0) (vik_1 4) (vik_1 3)) ∨ (rk_1.toInt = 0 ∧ ¬ (wMay (trn (fi 0) n) n m (ownB (fl 1)) t) ∧ (vik_1 6).toInt = 1 ∧ (vik_1 7).toInt = ((sPn (trn (fi 0) n) n m t) : Int)) ∨ (rk_1.toInt = 0 ∧ (wMay (trn (fi 0) n) n m (ownB (fl 1)) t) ∧ rk.toInt = -1 ∧ (vik_1 6).toInt = 3 ∧ (vik_1 7).toInt = ((sPn (trn (fi 0) n) n m t) : Int)) ∨ (rk_1.toInt = 0 ∧ (sK (trn (fi 0) n) n m t) = 1 ∧ 0 ≤ rk.toInt ∧ rk.toInt < 9 ∧ ¬ ((fi 1) (rk).toNatClampNeg).toInt = -1 ∧ (vik_1 6).toInt = 3 ∧ (vik_1 7).toInt = ((sPn (trn (fi 0) n) n m t) : Int))) → (rk_1.toInt = 1) → ((vik_1 0).toInt = rk.toInt ∧ ¬ rk.toInt = -1) → ∀ (fik_2 : Nat → Nat → Int32), ∀ (flk_2 : Nat → Nat → Int64), ∀ (vik_2 : Nat → Int32), ∀ (vlk_2 : Nat → Int64), ∀ (rk_2 : Int32), (∀ n m t : Nat, CC (trn (fi 0) n) n m t (vi 4) (vi 5) (vik_1 1) (vik_1 2) (vik_1 5) (vlk_1 0) (vik_1 4) (vik_1 3) → (rk_2.toInt = 1 ∧ (fNum (trn (fi 0) n) n m (vi 0).toInt (vi 1).toInt t) = 0 ∧ (vik_2 2).toInt = (sU (trn (fi 0) n) n m t) ∧ (sK (trn (fi 0) n) n m t) = 2 ∧ (vi 0).toInt ≤ (sU (trn (fi 0) n) n m t) ∧ (sU (trn (fi 0) n) n m t) ≤ (vi 1).toInt ∧ CC (trn (fi 0) n) n m (sX (trn (fi 0) n) n m t) (vi 4) (vi 5) (vik_2 3) (vik_2 4) (vik_2 7) (vlk_2 0) (vik_2 6) (vik_2 5)) ∨ (rk_2.toInt = 0 ∧ ¬ (fNum (trn (fi 0) n) n m (vi 0).toInt (vi 1).toInt t) = 0 ∧ (vik_2 0).toInt = (fNum (trn (fi 0) n) n m (vi 0).toInt (vi 1).toInt t) ∧ (vik_2 1).toInt = ((sPn (trn (fi 0) n) n m t) : Int))) → (rk_2.toInt = 1) → (True) → ((vik_1 0).toInt < 0) → (r = (0 : Int32)) → (fj 0 = (fi 1)) → (vj 0 = (vik_2 2)) → (vj 1 = (vik_2 3)) → (vj 2 = (vik_2 4)) → (vj 3 = (vik_2 5)) → (vj 4 = (vik_2 6)) → (vj 5 = (vik_2 7)) → (vj 6 = (vik_2 0)) → (vj 7 = (vik_2 1)) → (vm 0 = (vlk_2 0)) → Q9
def RL_X8_readOfName_1 (fi : Nat → Nat → Int32) (fl : Nat → Nat → Int64) (vi : Nat → Int32) (vl : Nat → Int64) (r : Int32) (fj : Nat → Nat → Int32) (fm : Nat → Nat → Int64) (vj : Nat → Int32) (vm : Nat → Int64) (Q9 : Prop) : Prop :=
  (0 ≤ (vi 14).toInt ∧ (vi 14).toInt ≤ 9) → (0 ≤ (vi 15).toInt ∧ (vi 15).toInt ≤ 9) → ∀ (fik : Nat → Nat → Int32), ∀ (flk : Nat → Nat → Int64), ∀ (vik : Nat → Int32), ∀ (vlk : Nat → Int64), ∀ (rk : Int32), (-1 ≤ rk.toInt ∧ rk.toInt ≤ 8) → (rk.toInt = fdx (fl 0) 0 (vl 0) ((vi 14).toInt).toNat) → ∀ (fik_1 : Nat → Nat → Int32), ∀ (flk_1 : Nat → Nat → Int64), ∀ (vik_1 : Nat → Int32), ∀ (vlk_1 : Nat → Int64), ∀ (rk_1 : Int32), (∀ n m t : Nat, CC (trn (fi 0) n) n m t (vi 4) (vi 5) (vi 7) (vi 8) (vi 6) (vl 0) (vi 9) (vi 10) → (rk_1.toInt = 1 ∧ (wMay (trn (fi 0) n) n m (ownB (fl 1)) t) ∧ ¬ rk.toInt = -1 ∧ (vik_1 0).toInt = rk.toInt ∧ (0 ≤ rk.toInt → rk.toInt < 9 → ((fi 1) (rk).toNatClampNeg).toInt = -1) ∧ CC (trn (fi 0) n) n m (sX (trn (fi 0) n) n m t) (vi 4) (vi 5) (vik_1 1) (vik_1 2) (vik_1 5) (vlk_1 0) (vik_1 4) (vik_1 3)) ∨ (rk_1.toInt = 0 ∧ ¬ (wMay (trn (fi 0) n) n m (ownB (fl 1)) t) ∧ (vik_1 6).toInt = 1 ∧ (vik_1 7).toInt = ((sPn (trn (fi 0) n) n m t) : Int)) ∨ (rk_1.toInt = 0 ∧ (wMay (trn (fi 0) n) n m (ownB (fl 1)) t) ∧ rk.toInt = -1 ∧ (vik_1 6).toInt = 3 ∧ (vik_1 7).toInt = ((sPn (trn (fi 0) n) n m t) : Int)) ∨ (rk_1.toInt = 0 ∧ (sK (trn (fi 0) n) n m t) = 1 ∧ 0 ≤ rk.toInt ∧ rk.toInt < 9 ∧ ¬ ((fi 1) (rk).toNatClampNeg).toInt = -1 ∧ (vik_1 6).toInt = 3 ∧ (vik_1 7).toInt = ((sPn (trn (fi 0) n) n m t) : Int))) → (rk_1.toInt = 1) → ((vik_1 0).toInt = rk.toInt ∧ ¬ rk.toInt = -1) → ∀ (fik_2 : Nat → Nat → Int32), ∀ (flk_2 : Nat → Nat → Int64), ∀ (vik_2 : Nat → Int32), ∀ (vlk_2 : Nat → Int64), ∀ (rk_2 : Int32), (∀ n m t : Nat, CC (trn (fi 0) n) n m t (vi 4) (vi 5) (vik_1 1) (vik_1 2) (vik_1 5) (vlk_1 0) (vik_1 4) (vik_1 3) → (rk_2.toInt = 1 ∧ (fNum (trn (fi 0) n) n m (vi 0).toInt (vi 1).toInt t) = 0 ∧ (vik_2 2).toInt = (sU (trn (fi 0) n) n m t) ∧ (sK (trn (fi 0) n) n m t) = 2 ∧ (vi 0).toInt ≤ (sU (trn (fi 0) n) n m t) ∧ (sU (trn (fi 0) n) n m t) ≤ (vi 1).toInt ∧ CC (trn (fi 0) n) n m (sX (trn (fi 0) n) n m t) (vi 4) (vi 5) (vik_2 3) (vik_2 4) (vik_2 7) (vlk_2 0) (vik_2 6) (vik_2 5)) ∨ (rk_2.toInt = 0 ∧ ¬ (fNum (trn (fi 0) n) n m (vi 0).toInt (vi 1).toInt t) = 0 ∧ (vik_2 0).toInt = (fNum (trn (fi 0) n) n m (vi 0).toInt (vi 1).toInt t) ∧ (vik_2 1).toInt = ((sPn (trn (fi 0) n) n m t) : Int))) → (rk_2.toInt = 1) → (True) → (0 ≤ (vik_1 0).toInt) → ((vik_1 0).toInt < 9) → ∀ (f69 : Nat → Int32), (f69 = upd (fi 1) (vik_1 0).toNatClampNeg ((vik_2 2) : Int32)) → (r = (1 : Int32)) → (fj 0 = f69) → (vj 0 = (vik_2 2)) → (vj 1 = (vik_2 3)) → (vj 2 = (vik_2 4)) → (vj 3 = (vik_2 5)) → (vj 4 = (vik_2 6)) → (vj 5 = (vik_2 7)) → (vj 6 = (vik_2 0)) → (vj 7 = (vik_2 1)) → (vm 0 = (vlk_2 0)) → Q9
def RL_X8_readOfName_2 (fi : Nat → Nat → Int32) (fl : Nat → Nat → Int64) (vi : Nat → Int32) (vl : Nat → Int64) (r : Int32) (fj : Nat → Nat → Int32) (fm : Nat → Nat → Int64) (vj : Nat → Int32) (vm : Nat → Int64) (Q9 : Prop) : Prop :=
  (0 ≤ (vi 14).toInt ∧ (vi 14).toInt ≤ 9) → (0 ≤ (vi 15).toInt ∧ (vi 15).toInt ≤ 9) → ∀ (fik : Nat → Nat → Int32), ∀ (flk : Nat → Nat → Int64), ∀ (vik : Nat → Int32), ∀ (vlk : Nat → Int64), ∀ (rk : Int32), (-1 ≤ rk.toInt ∧ rk.toInt ≤ 8) → (rk.toInt = fdx (fl 0) 0 (vl 0) ((vi 14).toInt).toNat) → ∀ (fik_1 : Nat → Nat → Int32), ∀ (flk_1 : Nat → Nat → Int64), ∀ (vik_1 : Nat → Int32), ∀ (vlk_1 : Nat → Int64), ∀ (rk_1 : Int32), (∀ n m t : Nat, CC (trn (fi 0) n) n m t (vi 4) (vi 5) (vi 7) (vi 8) (vi 6) (vl 0) (vi 9) (vi 10) → (rk_1.toInt = 1 ∧ (wMay (trn (fi 0) n) n m (ownB (fl 1)) t) ∧ ¬ rk.toInt = -1 ∧ (vik_1 0).toInt = rk.toInt ∧ (0 ≤ rk.toInt → rk.toInt < 9 → ((fi 1) (rk).toNatClampNeg).toInt = -1) ∧ CC (trn (fi 0) n) n m (sX (trn (fi 0) n) n m t) (vi 4) (vi 5) (vik_1 1) (vik_1 2) (vik_1 5) (vlk_1 0) (vik_1 4) (vik_1 3)) ∨ (rk_1.toInt = 0 ∧ ¬ (wMay (trn (fi 0) n) n m (ownB (fl 1)) t) ∧ (vik_1 6).toInt = 1 ∧ (vik_1 7).toInt = ((sPn (trn (fi 0) n) n m t) : Int)) ∨ (rk_1.toInt = 0 ∧ (wMay (trn (fi 0) n) n m (ownB (fl 1)) t) ∧ rk.toInt = -1 ∧ (vik_1 6).toInt = 3 ∧ (vik_1 7).toInt = ((sPn (trn (fi 0) n) n m t) : Int)) ∨ (rk_1.toInt = 0 ∧ (sK (trn (fi 0) n) n m t) = 1 ∧ 0 ≤ rk.toInt ∧ rk.toInt < 9 ∧ ¬ ((fi 1) (rk).toNatClampNeg).toInt = -1 ∧ (vik_1 6).toInt = 3 ∧ (vik_1 7).toInt = ((sPn (trn (fi 0) n) n m t) : Int))) → (rk_1.toInt = 1) → ((vik_1 0).toInt = rk.toInt ∧ ¬ rk.toInt = -1) → ∀ (fik_2 : Nat → Nat → Int32), ∀ (flk_2 : Nat → Nat → Int64), ∀ (vik_2 : Nat → Int32), ∀ (vlk_2 : Nat → Int64), ∀ (rk_2 : Int32), (∀ n m t : Nat, CC (trn (fi 0) n) n m t (vi 4) (vi 5) (vik_1 1) (vik_1 2) (vik_1 5) (vlk_1 0) (vik_1 4) (vik_1 3) → (rk_2.toInt = 1 ∧ (fNum (trn (fi 0) n) n m (vi 0).toInt (vi 1).toInt t) = 0 ∧ (vik_2 2).toInt = (sU (trn (fi 0) n) n m t) ∧ (sK (trn (fi 0) n) n m t) = 2 ∧ (vi 0).toInt ≤ (sU (trn (fi 0) n) n m t) ∧ (sU (trn (fi 0) n) n m t) ≤ (vi 1).toInt ∧ CC (trn (fi 0) n) n m (sX (trn (fi 0) n) n m t) (vi 4) (vi 5) (vik_2 3) (vik_2 4) (vik_2 7) (vlk_2 0) (vik_2 6) (vik_2 5)) ∨ (rk_2.toInt = 0 ∧ ¬ (fNum (trn (fi 0) n) n m (vi 0).toInt (vi 1).toInt t) = 0 ∧ (vik_2 0).toInt = (fNum (trn (fi 0) n) n m (vi 0).toInt (vi 1).toInt t) ∧ (vik_2 1).toInt = ((sPn (trn (fi 0) n) n m t) : Int))) → (rk_2.toInt = 1) → (True) → (0 ≤ (vik_1 0).toInt) → (9 ≤ (vik_1 0).toInt) → (r = (0 : Int32)) → (fj 0 = (fi 1)) → (vj 0 = (vik_2 2)) → (vj 1 = (vik_2 3)) → (vj 2 = (vik_2 4)) → (vj 3 = (vik_2 5)) → (vj 4 = (vik_2 6)) → (vj 5 = (vik_2 7)) → (vj 6 = (vik_2 0)) → (vj 7 = (vik_2 1)) → (vm 0 = (vlk_2 0)) → Q9
