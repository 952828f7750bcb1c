set_option maxHeartbeats 4000000 in
theorem PL_X8_passNewWord_0 {fi : Nat → Nat → Int32} {fl : Nat → Nat → Int64} {vi : Nat → Int32} {vl : Nat → Int64} {r : Int32} {fj : Nat → Nat → Int32} {fm : Nat → Nat → Int64} {vj : Nat → Int32} {vm : Nat → Int64} : RL_X8_passNewWord_0 fi fl vi vl r fj fm vj vm (PS_X8_passNewWord fi fl vi vl r fj fm vj vm) := by
  unfold RL_X8_passNewWord_0
  intro hp5 hp6 fik flk vik vlk rk gk_1 tb gk_0 fik_1 flk_1 vik_1 vlk_1 rk_1 gk_1_0 gk_1_1 c34 fik_2 flk_2 vik_2 vlk_2 rk_2 gk_2_0 gk_2_2 q0 q1 q2 q3 q4 q5 q6 q7 q8; subst q0
  unfold PS_X8_passNewWord
  intro n m t hc H N hN hS
  (try simp only [q1, q2, q3, q4, q5, q6, q7, q8]); have k9_0 : (0 : Int32).toInt = 0 := (by decide); have k9_1 : (1 : Int32).toInt = 1 := (by decide); have k9_2 : (3 : Int32).toInt = 3 := (by decide)
  have hc0 := hc
  obtain ⟨hn, hm, ht, ck, cp, ce, cw, cu, cg⟩ := hc0
  rcases gk_1 with ⟨a1, a2, a3⟩ | ⟨a1, a2⟩
  · have h8 := cw (by omega)
    rw [h8] at a3
    have hm9 : (wMay (trn (fi 0) n) n m (ownB (fl 0)) t) := ⟨by omega, a3⟩
    rw [h8, RWn_f hN] at gk_1_1
    first | (have h7 : (fNew (trn (fi 0) n) n m (ownB (fl 0)) H N t) = 3 := fNew_3 hm9 (Or.inl (by omega)); exact Or.inr ⟨by decide, by omega, by omega, by omega⟩) | (have h7 : (fNew (trn (fi 0) n) n m (ownB (fl 0)) H N t) = 3 := fNew_3 hm9 (Or.inr (by omega)); exact Or.inr ⟨by decide, by omega, by omega, by omega⟩) | exact Or.inl ⟨by decide, fNew_0 hm9 (by omega) (by omega), hm9, CC_nx hc (by assumption)⟩
  · exact absurd (a1.symm.trans tb) (by decide)
set_option maxHeartbeats 4000000 in
theorem PL_X8_passNewWord_1 {fi : Nat → Nat → Int32} {fl : Nat → Nat → Int64} {vi : Nat → Int32} {vl : Nat → Int64} {r : Int32} {fj : Nat → Nat → Int32} {fm : Nat → Nat → Int64} {vj : Nat → Int32} {vm : Nat → Int64} : RL_X8_passNewWord_1 fi fl vi vl r fj fm vj vm (PS_X8_passNewWord fi fl vi vl r fj fm vj vm) := by
  unfold RL_X8_passNewWord_1
  intro hp5 hp6 fik flk vik vlk rk gk_1 tb gk_0 fik_1 flk_1 vik_1 vlk_1 rk_1 gk_1_0 gk_1_1 c34 fik_3 flk_3 vik_3 vlk_3 rk_3 gk_3_0 gk_3_1 c52 fik_4 flk_4 vik_4 vlk_4 rk_4 gk_4_0 gk_4_3 q0 q1 q2 q3 q4 q5 q6 q7 q8; subst q0
  unfold PS_X8_passNewWord
  intro n m t hc H N hN hS
  (try simp only [q1, q2, q3, q4, q5, q6, q7, q8]); have k9_0 : (0 : Int32).toInt = 0 := (by decide); have k9_1 : (1 : Int32).toInt = 1 := (by decide)
  have hc0 := hc
  obtain ⟨hn, hm, ht, ck, cp, ce, cw, cu, cg⟩ := hc0
  rcases gk_1 with ⟨a1, a2, a3⟩ | ⟨a1, a2⟩
  · have h8 := cw (by omega)
    rw [h8] at a3
    have hm9 : (wMay (trn (fi 0) n) n m (ownB (fl 0)) t) := ⟨by omega, a3⟩
    rw [h8, RWn_f hN] at gk_1_1
    rw [h8, RWs_f hS] at gk_3_1
    first | (have h7 : (fNew (trn (fi 0) n) n m (ownB (fl 0)) H N t) = 3 := fNew_3 hm9 (Or.inl (by omega)); exact Or.inr ⟨by decide, by omega, by omega, by omega⟩) | (have h7 : (fNew (trn (fi 0) n) n m (ownB (fl 0)) H N t) = 3 := fNew_3 hm9 (Or.inr (by omega)); exact Or.inr ⟨by decide, by omega, by omega, by omega⟩) | exact Or.inl ⟨by decide, fNew_0 hm9 (by omega) (by omega), hm9, CC_nx hc (by assumption)⟩
  · exact absurd (a1.symm.trans tb) (by decide)
set_option maxHeartbeats 4000000 in
theorem PL_X8_passNewWord_2 {fi : Nat → Nat → Int32} {fl : Nat → Nat → Int64} {vi : Nat → Int32} {vl : Nat → Int64} {r : Int32} {fj : Nat → Nat → Int32} {fm : Nat → Nat → Int64} {vj : Nat → Int32} {vm : Nat → Int64} : RL_X8_passNewWord_2 fi fl vi vl r fj fm vj vm (PS_X8_passNewWord fi fl vi vl r fj fm vj vm) := by
  unfold RL_X8_passNewWord_2
  intro hp5 hp6 fik flk vik vlk rk gk_1 tb gk_0 fik_1 flk_1 vik_1 vlk_1 rk_1 gk_1_0 gk_1_1 c34 fik_3 flk_3 vik_3 vlk_3 rk_3 gk_3_0 gk_3_1 c52 fik_5 flk_5 vik_5 vlk_5 rk_5 gk_5_0 gk_5_2 q0 q1 q2 q3 q4 q5 q6 q7 q8; subst q0
  unfold PS_X8_passNewWord
  intro n m t hc H N hN hS
  (try simp only [q1, q2, q3, q4, q5, q6, q7, q8]); have k9_0 : (0 : Int32).toInt = 0 := (by decide); have k9_1 : (1 : Int32).toInt = 1 := (by decide); have k9_2 : (3 : Int32).toInt = 3 := (by decide)
  have hc0 := hc
  obtain ⟨hn, hm, ht, ck, cp, ce, cw, cu, cg⟩ := hc0
  rcases gk_1 with ⟨a1, a2, a3⟩ | ⟨a1, a2⟩
  · have h8 := cw (by omega)
    rw [h8] at a3
    have hm9 : (wMay (trn (fi 0) n) n m (ownB (fl 0)) t) := ⟨by omega, a3⟩
    rw [h8, RWn_f hN] at gk_1_1
    rw [h8, RWs_f hS] at gk_3_1
    first | (have h7 : (fNew (trn (fi 0) n) n m (ownB (fl 0)) H N t) = 3 := fNew_3 hm9 (Or.inl (by omega)); exact Or.inr ⟨by decide, by omega, by omega, by omega⟩) | (have h7 : (fNew (trn (fi 0) n) n m (ownB (fl 0)) H N t) = 3 := fNew_3 hm9 (Or.inr (by omega)); exact Or.inr ⟨by decide, by omega, by omega, by omega⟩) | exact Or.inl ⟨by decide, fNew_0 hm9 (by omega) (by omega), hm9, CC_nx hc (by assumption)⟩
  · exact absurd (a1.symm.trans tb) (by decide)
set_option maxHeartbeats 4000000 in
theorem PL_X8_passNewWord_3 {fi : Nat → Nat → Int32} {fl : Nat → Nat → Int64} {vi : Nat → Int32} {vl : Nat → Int64} {r : Int32} {fj : Nat → Nat → Int32} {fm : Nat → Nat → Int64} {vj : Nat → Int32} {vm : Nat → Int64} : RL_X8_passNewWord_3 fi fl vi vl r fj fm vj vm (PS_X8_passNewWord fi fl vi vl r fj fm vj vm) := by
  unfold RL_X8_passNewWord_3
  intro hp5 hp6 fik flk vik vlk rk gk_1 tb gk_0 fik_6 flk_6 vik_6 vlk_6 rk_6 gk_6_0 gk_6_2 q0 q1 q2 q3 q4 q5 q6 q7 q8; subst q0
  unfold PS_X8_passNewWord
  intro n m t hc H N hN hS
  (try simp only [q1, q2, q3, q4, q5, q6, q7, q8]); have k9_0 : (0 : Int32).toInt = 0 := (by decide); have k9_1 : (1 : Int32).toInt = 1 := (by decide)
  have hc0 := hc
  obtain ⟨hn, hm, ht, ck, cp, ce, cw, cu, cg⟩ := hc0
  rcases gk_1 with ⟨a1, a2, a3⟩ | ⟨a1, a2⟩
  · exact absurd (a1.symm.trans tb) (by decide)
  · have h7 : (fNew (trn (fi 0) n) n m (ownB (fl 0)) H N t) = 1 := fNew_1 (fun c => by rcases a2 with a2 | a2; (· omega); (· rw [cw c.1, c.2] at a2; exact absurd a2 (by decide)))
    exact Or.inr ⟨by decide, by omega, by omega, by omega⟩
theorem P_X8_passNewWord {fi : Nat → Nat → Int32} {fl : Nat → Nat → Int64} {vi : Nat → Int32} {vl : Nat → Int64} {r : Int32} {fj : Nat → Nat → Int32} {fm : Nat → Nat → Int64} {vj : Nat → Int32} {vm : Nat → Int64} (h : R_X8_passNewWord fi fl vi vl r fj fm vj vm) : ∀ n m t : Nat, CC (trn (fi 0) n) n m t (vi 2) (vi 3) (vi 5) (vi 6) (vi 4) (vl 0) (vi 7) (vi 8) → ∀ (H : Nat → Int) (N : Nat → Int64), (RWn (ownB (fl 0)) (vi 12) (fl 1) H N) → (RWs (ownB (fl 0)) (vi 13) (fl 2) H N) → (r.toInt = 1 ∧ (fNew (trn (fi 0) n) n m (ownB (fl 0)) H N t) = 0 ∧ (wMay (trn (fi 0) n) n m (ownB (fl 0)) t) ∧ CC (trn (fi 0) n) n m (sX (trn (fi 0) n) n m t) (vi 2) (vi 3) (vj 2) (vj 3) (vj 6) (vm 0) (vj 5) (vj 4)) ∨ (r.toInt = 0 ∧ ¬ (fNew (trn (fi 0) n) n m (ownB (fl 0)) H N t) = 0 ∧ (vj 0).toInt = (fNew (trn (fi 0) n) n m (ownB (fl 0)) H N t) ∧ (vj 1).toInt = ((sPn (trn (fi 0) n) n m t) : Int)) := h (PS_X8_passNewWord fi fl vi vl r fj fm vj vm) PL_X8_passNewWord_0 PL_X8_passNewWord_1 PL_X8_passNewWord_2 PL_X8_passNewWord_3
def RL_X7_addName_0 (fi : Nat → Nat → Int32) (fl : Nat → Nat → Int64) (vi : Nat → Int32) (vl : Nat → Int64) (r : Int32) (fj : Nat → Nat → Int32) (fm : Nat → Nat → Int64) (vj : Nat → Int32) (vm : Nat → Int64) (Q9 : Prop) : Prop :=
  (0 ≤ (vi 1).toInt ∧ (vi 1).toInt ≤ 9) → (0 ≤ (vi 2).toInt ∧ (vi 2).toInt ≤ 9) → (9 ≤ (vi 1).toInt) → (fj 0 = (fi 0)) → (fj 1 = (fi 1)) → (fj 2 = (fi 2)) → (fm 0 = (fl 0)) → (vj 0 = (vi 1)) → Q9
def RL_X7_addName_1 (fi : Nat → Nat → Int32) (fl : Nat → Nat → Int64) (vi : Nat → Int32) (vl : Nat → Int64) (r : Int32) (fj : Nat → Nat → Int32) (fm : Nat → Nat → Int64) (vj : Nat → Int32) (vm : Nat → Int64) (Q9 : Prop) : Prop :=
  (0 ≤ (vi 1).toInt ∧ (vi 1).toInt ≤ 9) → (0 ≤ (vi 2).toInt ∧ (vi 2).toInt ≤ 9) → ((vi 1).toInt < 9) → ∀ (f18 : Nat → Int64), (f18 = vp_updL (fl 0) (vi 1).toNatClampNeg ((vl 0) : Int64)) → ∀ (f28 : Nat → Int32), (f28 = upd (fi 0) (vi 1).toNatClampNeg ((vi 0) : Int32)) → ∀ (f38 : Nat → Int32), (f38 = upd (fi 1) (vi 1).toNatClampNeg ((-1) : Int32)) → ∀ (f48 : Nat → Int32), (f48 = upd (fi 2) (vi 1).toNatClampNeg ((-1) : Int32)) → ∀ (z55 : Int32), (z55 = (vi 1) + (1 : Int32)) → (z55.toInt = (vi 1).toInt + 1) → (fj 0 = f28) → (fj 1 = f38) → (fj 2 = f48) → (fm 0 = f18) → (vj 0 = z55) → Q9
def R_X7_addName (fi : Nat → Nat → Int32) (fl : Nat → Nat → Int64) (vi : Nat → Int32) (vl : Nat → Int64) (r : Int32) (fj : Nat → Nat → Int32) (fm : Nat → Nat → Int64) (vj : Nat → Int32) (vm : Nat → Int64) : Prop :=
  ∀ Q9 : Prop, RL_X7_addName_0 fi fl vi vl r fj fm vj vm Q9 → RL_X7_addName_1 fi fl vi vl r fj fm vj vm Q9 → Q9
def PS_X7_addName (fi : Nat → Nat → Int32) (fl : Nat → Nat → Int64) (vi : Nat → Int32) (vl : Nat → Int64) (r : Int32) (fj : Nat → Nat → Int32) (fm : Nat → Nat → Int64) (vj : Nat → Int32) (vm : Nat → Int64) : Prop :=
  (vi 1).toInt < 9 → (fm 0) = vp_updL (fl 0) ((vi 1)).toNatClampNeg (vl 0) ∧ (fj 1) = upd (fi 1) ((vi 1)).toNatClampNeg (-1) ∧ (fj 2) = upd (fi 2) ((vi 1)).toNatClampNeg (-1) ∧ (vj 0).toInt = (vi 1).toInt + 1
set_option maxHeartbeats 4000000 in
theorem PL_X7_addName_0 {fi : Nat → Nat → Int32} {fl : Nat → Nat → Int64} {vi : Nat → Int32} {vl : Nat → Int64} {r : Int32} {fj : Nat → Nat → Int32} {fm : Nat → Nat → Int64} {vj : Nat → Int32} {vm : Nat → Int64} : RL_X7_addName_0 fi fl vi vl r fj fm vj vm (PS_X7_addName fi fl vi vl r fj fm vj vm) := by
  unfold RL_X7_addName_0
  intro hp0 hp1 c6 q0 q1 q2 q3 q4
  unfold PS_X7_addName
  intro h9
  (try simp only [q0, q1, q2, q3, q4]); have k9_0 : (0 : Int32).toInt = 0 := (by decide); have k9_1 : (1 : Int32).toInt = 1 := (by decide)
  first | (exfalso; omega) | exact ⟨by assumption, by assumption, by assumption, by omega⟩
set_option maxHeartbeats 4000000 in
theorem PL_X7_addName_1 {fi : Nat → Nat → Int32} {fl : Nat → Nat → Int64} {vi : Nat → Int32} {vl : Nat → Int64} {r : Int32} {fj : Nat → Nat → Int32} {fm : Nat → Nat → Int64} {vj : Nat → Int32} {vm : Nat → Int64} : RL_X7_addName_1 fi fl vi vl r fj fm vj vm (PS_X7_addName fi fl vi vl r fj fm vj vm) := by
  unfold RL_X7_addName_1
  intro hp0 hp1 c6 f18 ef18 f28 ef28 f38 ef38 f48 ef48 z55 ez55 tz55 q0 q1 q2 q3 q4
  unfold PS_X7_addName
  intro h9
  (try simp only [q0, q1, q2, q3, q4]); have k9_0 : (0 : Int32).toInt = 0 := (by decide); have k9_1 : (1 : Int32).toInt = 1 := (by decide)
  first | (exfalso; omega) | exact ⟨by assumption, by assumption, by assumption, by omega⟩
theorem P_X7_addName {fi : Nat → Nat → Int32} {fl : Nat → Nat → Int64} {vi : Nat → Int32} {vl : Nat → Int64} {r : Int32} {fj : Nat → Nat → Int32} {fm : Nat → Nat → Int64} {vj : Nat → Int32} {vm : Nat → Int64} (h : R_X7_addName fi fl vi vl r fj fm vj vm) : (vi 1).toInt < 9 → (fm 0) = vp_updL (fl 0) ((vi 1)).toNatClampNeg (vl 0) ∧ (fj 1) = upd (fi 1) ((vi 1)).toNatClampNeg (-1) ∧ (fj 2) = upd (fi 2) ((vi 1)).toNatClampNeg (-1) ∧ (vj 0).toInt = (vi 1).toInt + 1 := h (PS_X7_addName fi fl vi vl r fj fm vj vm) PL_X7_addName_0 PL_X7_addName_1
def RL_X8_readNameLine_0 (fi : Nat → Nat → Int32) (fl : Nat → Nat → Int64) (vi : Nat → Int32) (vl : Nat → Int64) (r : Int32) (fj : Nat → Nat → Int32) (fm : Nat → Nat → Int64) (vj : Nat → Int32) (vm : Nat → Int64) (Q9 : Prop) : Prop :=
  (0 ≤ (vi 1).toInt ∧ (vi 1).toInt ≤ 9) → (0 ≤ (vi 2).toInt ∧ (vi 2).toInt ≤ 9) → ((vi 1).toInt < 9) → ∀ (fik : Nat → Nat → Int32), ∀ (flk : Nat → Nat → Int64), ∀ (vik : Nat → Int32), ∀ (vlk : Nat → Int64), ∀ (uk : Int32), (∀ n m : Nat, (vi 4).toInt = (n : Int) → (vi 5).toInt = (m : Int) → (vi 6).toInt ≤ (vi 4).toInt → CC (trn (fi 0) n) n m ((vi 6).toInt).toNat (vi 4) (vi 5) (vik 0) (vik 1) (vik 4) (vlk 0) (vik 3) (vik 2)) → ∀ (fik_1 : Nat → Nat → Int32), ∀ (flk_1 : Nat → Nat → Int64), ∀ (vik_1 : Nat → Int32), ∀ (vlk_1 : Nat → Int64), ∀ (rk_1 : Int32), (∀ n m t : Nat, CC (trn (fi 0) n) n m t (vi 4) (vi 5) (vik 0) (vik 1) (vik 4) (vlk 0) (vik 3) (vik 2) → ∀ (H : Nat → Int) (N : Nat → Int64), (RWn (ownB (fl 0)) (vi 1) (fl 1) H N) → (RWs (ownB (fl 0)) (vi 2) (fl 2) H N) → (rk_1.toInt = 1 ∧ (fNew (trn (fi 0) n) n m (ownB (fl 0)) H N t) = 0 ∧ (wMay (trn (fi 0) n) n m (ownB (fl 0)) t) ∧ CC (trn (fi 0) n) n m (sX (trn (fi 0) n) n m t) (vi 4) (vi 5) (vik_1 2) (vik_1 3) (vik_1 6) (vlk_1 0) (vik_1 5) (vik_1 4)) ∨ (rk_1.toInt = 0 ∧ ¬ (fNew (trn (fi 0) n) n m (ownB (fl 0)) H N t) = 0 ∧ (vik_1 0).toInt = (fNew (trn (fi 0) n) n m (ownB (fl 0)) H N t) ∧ (vik_1 1).toInt = ((sPn (trn (fi 0) n) n m t) : Int))) → (rk_1.toInt = 1) → (True) → ∀ (fik_2 : Nat → Nat → Int32), ∀ (flk_2 : Nat → Nat → Int64), ∀ (vik_2 : Nat → Int32), ∀ (vlk_2 : Nat → Int64), ∀ (rk_2 : Int32), (∀ n m t : Nat, CC (trn (fi 0) n) n m t (vi 4) (vi 5) (vik_1 2) (vik_1 3) (vik_1 6) (vlk_1 0) (vik_1 5) (vik_1 4) → (rk_2.toInt = 1 ∧ (fNum (trn (fi 0) n) n m (0 : Int) (99 : Int) t) = 0 ∧ (vik_2 2).toInt = (sU (trn (fi 0) n) n m t) ∧ (sK (trn (fi 0) n) n m t) = 2 ∧ (0 : Int) ≤ (sU (trn (fi 0) n) n m t) ∧ (sU (trn (fi 0) n) n m t) ≤ (99 : Int) ∧ CC (trn (fi 0) n) n m (sX (trn (fi 0) n) n m t) (vi 4) (vi 5) (vik_2 3) (vik_2 4) (vik_2 7) (vlk_2 0) (vik_2 6) (vik_2 5)) ∨ (rk_2.toInt = 0 ∧ ¬ (fNum (trn (fi 0) n) n m (0 : Int) (99 : Int) t) = 0 ∧ (vik_2 0).toInt = (fNum (trn (fi 0) n) n m (0 : Int) (99 : Int) t) ∧ (vik_2 1).toInt = ((sPn (trn (fi 0) n) n m t) : Int))) → (rk_2.toInt = 1) → (True) → ∀ (fik_3 : Nat → Nat → Int32), ∀ (flk_3 : Nat → Nat → Int64), ∀ (vik_3 : Nat → Int32), ∀ (vlk_3 : Nat → Int64), ∀ (uk_3 : Int32), ((vi 1).toInt < 9 → (flk_3 0) = vp_updL (fl 1) ((vi 1)).toNatClampNeg (vlk 0) ∧ (fik_3 1) = upd (fi 2) ((vi 1)).toNatClampNeg (-1) ∧ (fik_3 2) = upd (fi 3) ((vi 1)).toNatClampNeg (-1) ∧ (vik_3 0).toInt = (vi 1).toInt + 1) → (r = (1 : Int32)) → (fj 0 = (fik_3 0)) → (fj 1 = (fik_3 1)) → (fj 2 = (fik_3 2)) → (fm 0 = (flk_3 0)) → (vj 0 = (vik_2 3)) → (vj 1 = (vik_2 4)) → (vj 2 = (vik_2 5)) → (vj 3 = (vik_2 6)) → (vj 4 = (vik_2 7)) → (vj 5 = (vik_2 0)) → (vj 6 = (vik_2 1)) → (vj 7 = (vik_2 2)) → (vj 8 = (vik_3 0)) → (vm 0 = (vlk_2 0)) → Q9
def RL_X8_readNameLine_1 (fi : Nat → Nat → Int32) (fl : Nat → Nat → Int64) (vi : Nat → Int32) (vl : Nat → Int64) (r : Int32) (fj : Nat → Nat → Int32) (fm : Nat → Nat → Int64) (vj : Nat → Int32) (vm : Nat → Int64) (Q9 : Prop) : Prop :=
  (0 ≤ (vi 1).toInt ∧ (vi 1).toInt ≤ 9) → (0 ≤ (vi 2).toInt ∧ (vi 2).toInt ≤ 9) → ((vi 1).toInt < 9) → ∀ (fik : Nat → Nat → Int32), ∀ (flk : Nat → Nat → Int64), ∀ (vik : Nat → Int32), ∀ (vlk : Nat → Int64), ∀ (uk : Int32), (∀ n m : Nat, (vi 4).toInt = (n : Int) → (vi 5).toInt = (m : Int) → (vi 6).toInt ≤ (vi 4).toInt → CC (trn (fi 0) n) n m ((vi 6).toInt).toNat (vi 4) (vi 5) (vik 0) (vik 1) (vik 4) (vlk 0) (vik 3) (vik 2)) → ∀ (fik_1 : Nat → Nat → Int32), ∀ (flk_1 : Nat → Nat → Int64), ∀ (vik_1 : Nat → Int32), ∀ (vlk_1 : Nat → Int64), ∀ (rk_1 : Int32), (∀ n m t : Nat, CC (trn (fi 0) n) n m t (vi 4) (vi 5) (vik 0) (vik 1) (vik 4) (vlk 0) (vik 3) (vik 2) → ∀ (H : Nat → Int) (N : Nat → Int64), (RWn (ownB (fl 0)) (vi 1) (fl 1) H N) → (RWs (ownB (fl 0)) (vi 2) (fl 2) H N) → (rk_1.toInt = 1 ∧ (fNew (trn (fi 0) n) n m (ownB (fl 0)) H N t) = 0 ∧ (wMay (trn (fi 0) n) n m (ownB (fl 0)) t) ∧ CC (trn (fi 0) n) n m (sX (trn (fi 0) n) n m t) (vi 4) (vi 5) (vik_1 2) (vik_1 3) (vik_1 6) (vlk_1 0) (vik_1 5) (vik_1 4)) ∨ (rk_1.toInt = 0 ∧ ¬ (fNew (trn (fi 0) n) n m (ownB (fl 0)) H N t) = 0 ∧ (vik_1 0).toInt = (fNew (trn (fi 0) n) n m (ownB (fl 0)) H N t) ∧ (vik_1 1).toInt = ((sPn (trn (fi 0) n) n m t) : Int))) → (rk_1.toInt = 1) → (True) → ∀ (fik_2 : Nat → Nat → Int32), ∀ (flk_2 : Nat → Nat → Int64), ∀ (vik_2 : Nat → Int32), ∀ (vlk_2 : Nat → Int64), ∀ (rk_2 : Int32), (∀ n m t : Nat, CC (trn (fi 0) n) n m t (vi 4) (vi 5) (vik_1 2) (vik_1 3) (vik_1 6) (vlk_1 0) (vik_1 5) (vik_1 4) → (rk_2.toInt = 1 ∧ (fNum (trn (fi 0) n) n m (0 : Int) (99 : Int) t) = 0 ∧ (vik_2 2).toInt = (sU (trn (fi 0) n) n m t) ∧ (sK (trn (fi 0) n) n m t) = 2 ∧ (0 : Int) ≤ (sU (trn (fi 0) n) n m t) ∧ (sU (trn (fi 0) n) n m t) ≤ (99 : Int) ∧ CC (trn (fi 0) n) n m (sX (trn (fi 0) n) n m t) (vi 4) (vi 5) (vik_2 3) (vik_2 4) (vik_2 7) (vlk_2 0) (vik_2 6) (vik_2 5)) ∨ (rk_2.toInt = 0 ∧ ¬ (fNum (trn (fi 0) n) n m (0 : Int) (99 : Int) t) = 0 ∧ (vik_2 0).toInt = (fNum (trn (fi 0) n) n m (0 : Int) (99 : Int) t) ∧ (vik_2 1).toInt = ((sPn (trn (fi 0) n) n m t) : Int))) → (rk_2.toInt = 0) → (True) → (r = (0 : Int32)) → (fj 0 = (fi 1)) → (fj 1 = (fi 2)) → (fj 2 = (fi 3)) → (fm 0 = (fl 1)) → (vj 0 = (vik_2 3)) → (vj 1 = (vik_2 4)) → (vj 2 = (vik_2 5)) → (vj 3 = (vik_2 6)) → (vj 4 = (vik_2 7)) → (vj 5 = (vik_2 0)) → (vj 6 = (vik_2 1)) → (vj 7 = (vik_2 2)) → (vj 8 = (vi 1)) → (vm 0 = (vlk_2 0)) → Q9
def RL_X8_readNameLine_2 (fi : Nat → Nat → Int32) (fl : Nat → Nat → Int64) (vi : Nat → Int32) (vl : Nat → Int64) (r : Int32) (fj : Nat → Nat → Int32) (fm : Nat → Nat → Int64) (vj : Nat → Int32) (vm : Nat → Int64) (Q9 : Prop) : Prop :=
  (0 ≤ (vi 1).toInt ∧ (vi 1).toInt ≤ 9) → (0 ≤ (vi 2).toInt ∧ (vi 2).toInt ≤ 9) → ((vi 1).toInt < 9) → ∀ (fik : Nat → Nat → Int32), ∀ (flk : Nat → Nat → Int64), ∀ (vik : Nat → Int32), ∀ (vlk : Nat → Int64), ∀ (uk : Int32), (∀ n m : Nat, (vi 4).toInt = (n : Int) → (vi 5).toInt = (m : Int) → (vi 6).toInt ≤ (vi 4).toInt → CC (trn (fi 0) n) n m ((vi 6).toInt).toNat (vi 4) (vi 5) (vik 0) (vik 1) (vik 4) (vlk 0) (vik 3) (vik 2)) → ∀ (fik_1 : Nat → Nat → Int32), ∀ (flk_1 : Nat → Nat → Int64), ∀ (vik_1 : Nat → Int32), ∀ (vlk_1 : Nat → Int64), ∀ (rk_1 : Int32), (∀ n m t : Nat, CC (trn (fi 0) n) n m t (vi 4) (vi 5) (vik 0) (vik 1) (vik 4) (vlk 0) (vik 3) (vik 2) → ∀ (H : Nat → Int) (N : Nat → Int64), (RWn (ownB (fl 0)) (vi 1) (fl 1) H N) → (RWs (ownB (fl 0)) (vi 2) (fl 2) H N) → (rk_1.toInt = 1 ∧ (fNew (trn (fi 0) n) n m (ownB (fl 0)) H N t) = 0 ∧ (wMay (trn (fi 0) n) n m (ownB (fl 0)) t) ∧ CC (trn (fi 0) n) n m (sX (trn (fi 0) n) n m t) (vi 4) (vi 5) (vik_1 2) (vik_1 3) (vik_1 6) (vlk_1 0) (vik_1 5) (vik_1 4)) ∨ (rk_1.toInt = 0 ∧ ¬ (fNew (trn (fi 0) n) n m (ownB (fl 0)) H N t) = 0 ∧ (vik_1 0).toInt = (fNew (trn (fi 0) n) n m (ownB (fl 0)) H N t) ∧ (vik_1 1).toInt = ((sPn (trn (fi 0) n) n m t) : Int))) → (rk_1.toInt = 0) → (True) → (r = (0 : Int32)) → (fj 0 = (fi 1)) → (fj 1 = (fi 2)) → (fj 2 = (fi 3)) → (fm 0 = (fl 1)) → (vj 0 = (vik_1 2)) → (vj 1 = (vik_1 3)) → (vj 2 = (vik_1 4)) → (vj 3 = (vik_1 5)) → (vj 4 = (vik_1 6)) → (vj 5 = (vik_1 0)) → (vj 6 = (vik_1 1)) → (vj 7 = (vi 11)) → (vj 8 = (vi 1)) → (vm 0 = (vlk_1 0)) → Q9
def RL_X8_readNameLine_3 (fi : Nat → Nat → Int32) (fl : Nat → Nat → Int64) (vi : Nat → Int32) (vl : Nat → Int64) (r : Int32) (fj : Nat → Nat → Int32) (fm : Nat → Nat → Int64) (vj : Nat → Int32) (vm : Nat → Int64) (Q9 : Prop) : Prop :=
  (0 ≤ (vi 1).toInt ∧ (vi 1).toInt ≤ 9) → (0 ≤ (vi 2).toInt ∧ (vi 2).toInt ≤ 9) → (9 ≤ (vi 1).toInt) → ∀ (fik_4 : Nat → Nat → Int32), ∀ (flk_4 : Nat → Nat → Int64), ∀ (vik_4 : Nat → Int32), ∀ (vlk_4 : Nat → Int64), ∀ (rk_4 : Int32), (rk_4 = 0) → ((vik_4 0).toInt = (4 : Int32).toInt ∧ (vik_4 1).toInt = (vi 8).toInt) → (r = (0 : Int32)) → (fj 0 = (fi 1)) → (fj 1 = (fi 2)) → (fj 2 = (fi 3)) → (fm 0 = (fl 1)) → (vj 0 = (vi 7)) → (vj 1 = (vi 8)) → (vj 2 = (vi 10)) → (vj 3 = (vi 9)) → (vj 4 = (vi 6)) → (vj 5 = (vik_4 0)) → (vj 6 = (vik_4 1)) → (vj 7 = (vi 11)) → (vj 8 = (vi 1)) → (vm 0 = (vl 0)) → Q9
def R_X8_readNameLine (fi : Nat → Nat → Int32) (fl : Nat → Nat → Int64) (vi : Nat → Int32) (vl : Nat → Int64) (r : Int32) (fj : Nat → Nat → Int32) (fm : Nat → Nat → Int64) (vj : Nat → Int32) (vm : Nat → Int64) : Prop :=
  ∀ Q9 : Prop, RL_X8_readNameLine_0 fi fl vi vl r fj fm vj vm Q9 → RL_X8_readNameLine_1 fi fl vi vl r fj fm vj vm Q9 → RL_X8_readNameLine_2 fi fl vi vl r fj fm vj vm Q9 → RL_X8_readNameLine_3 fi fl vi vl r fj fm vj vm Q9 → Q9
