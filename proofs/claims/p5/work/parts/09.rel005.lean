def R_J0_charAt_5068e (fi : Nat → Nat → Int32) (fl : Nat → Nat → Int64) (vi : Nat → Int32) (vl : Nat → Int64) (r : Int32) (fj : Nat → Nat → Int32) (fm : Nat → Nat → Int64) (vj : Nat → Int32) (vm : Nat → Int64) : Prop :=
  ∀ Q9 : Prop, RL_J0_charAt_5068e_0 fi fl vi vl r fj fm vj vm Q9 → Q9
def PS_J0_charAt_5068e (fi : Nat → Nat → Int32) (fl : Nat → Nat → Int64) (vi : Nat → Int32) (vl : Nat → Int64) (r : Int32) (fj : Nat → Nat → Int32) (fm : Nat → Nat → Int64) (vj : Nat → Int32) (vm : Nat → Int64) : Prop :=
  r = (sBy.getD 11 []).getD ((vi 0).toInt).toNat 0
set_option maxHeartbeats 4000000 in
theorem PL_J0_charAt_5068e_0 {fi : Nat → Nat → Int32} {fl : Nat → Nat → Int64} {vi : Nat → Int32} {vl : Nat → Int64} {r : Int32} {fj : Nat → Nat → Int32} {fm : Nat → Nat → Int64} {vj : Nat → Int32} {vm : Nat → Int64} : RL_J0_charAt_5068e_0 fi fl vi vl r fj fm vj vm (PS_J0_charAt_5068e fi fl vi vl r fj fm vj vm) := by
  unfold RL_J0_charAt_5068e_0
  intro hp0 fik flk vik vlk rk gk_0 fik_1 flk_1 vik_1 vlk_1 rk_1 gk_1_1 q0; subst q0
  unfold PS_J0_charAt_5068e
  first | exact by assumption | exact char_of (by assumption) (by assumption) (by assumption)
theorem P_J0_charAt_5068e {fi : Nat → Nat → Int32} {fl : Nat → Nat → Int64} {vi : Nat → Int32} {vl : Nat → Int64} {r : Int32} {fj : Nat → Nat → Int32} {fm : Nat → Nat → Int64} {vj : Nat → Int32} {vm : Nat → Int64} (h : R_J0_charAt_5068e fi fl vi vl r fj fm vj vm) : r = (sBy.getD 11 []).getD ((vi 0).toInt).toNat 0 := h (PS_J0_charAt_5068e fi fl vi vl r fj fm vj vm) PL_J0_charAt_5068e_0
def RL_X6_isWord_0 (fi : Nat → Nat → Int32) (fl : Nat → Nat → Int64) (vi : Nat → Int32) (vl : Nat → Int64) (r : Int32) (fj : Nat → Nat → Int32) (fm : Nat → Nat → Int64) (vj : Nat → Int32) (vm : Nat → Int64) (Q9 : Prop) : Prop :=
  (0 ≤ (vi 1).toInt ∧ (vi 1).toInt ≤ 940) → (0 ≤ (vi 2).toInt ∧ (vi 2).toInt ≤ 940) → (0 ≤ (vi 3).toInt ∧ (vi 3).toInt ≤ 940) → (0 ≤ (vi 5).toInt ∧ (vi 5).toInt ≤ 940) → (0 ≤ (vi 10).toInt ∧ (vi 10).toInt ≤ 940) → ∀ (w4 : Int32), ∀ (w2 : Int64), (0 ≤ w4.toInt ∧ w4.toInt ≤ 6) → (w2 = pkw (sBy.getD 11 []) (w4.toInt).toNat) → ∀ (fik : Nat → Nat → Int32), ∀ (flk : Nat → Nat → Int64), ∀ (vik : Nat → Int32), ∀ (vlk : Nat → Int64), ∀ (rk : Int32), (rk = 6) → (6 ≤ w4.toInt) → (¬ (vi 4).toInt = 1) → (r = (0 : Int32)) → Q9
def RL_X6_isWord_1 (fi : Nat → Nat → Int32) (fl : Nat → Nat → Int64) (vi : Nat → Int32) (vl : Nat → Int64) (r : Int32) (fj : Nat → Nat → Int32) (fm : Nat → Nat → Int64) (vj : Nat → Int32) (vm : Nat → Int64) (Q9 : Prop) : Prop :=
  (0 ≤ (vi 1).toInt ∧ (vi 1).toInt ≤ 940) → (0 ≤ (vi 2).toInt ∧ (vi 2).toInt ≤ 940) → (0 ≤ (vi 3).toInt ∧ (vi 3).toInt ≤ 940) → (0 ≤ (vi 5).toInt ∧ (vi 5).toInt ≤ 940) → (0 ≤ (vi 10).toInt ∧ (vi 10).toInt ≤ 940) → ∀ (w4 : Int32), ∀ (w2 : Int64), (0 ≤ w4.toInt ∧ w4.toInt ≤ 6) → (w2 = pkw (sBy.getD 11 []) (w4.toInt).toNat) → ∀ (fik : Nat → Nat → Int32), ∀ (flk : Nat → Nat → Int64), ∀ (vik : Nat → Int32), ∀ (vlk : Nat → Int64), ∀ (rk : Int32), (rk = 6) → (6 ≤ w4.toInt) → ((vi 4).toInt = 1) → ∀ (z46 : Int32), (z46 = lg_cmp w2 (vl 0)) → (¬ z46.toInt = 0) → (r = (0 : Int32)) → Q9
def RL_X6_isWord_2 (fi : Nat → Nat → Int32) (fl : Nat → Nat → Int64) (vi : Nat → Int32) (vl : Nat → Int64) (r : Int32) (fj : Nat → Nat → Int32) (fm : Nat → Nat → Int64) (vj : Nat → Int32) (vm : Nat → Int64) (Q9 : Prop) : Prop :=
  (0 ≤ (vi 1).toInt ∧ (vi 1).toInt ≤ 940) → (0 ≤ (vi 2).toInt ∧ (vi 2).toInt ≤ 940) → (0 ≤ (vi 3).toInt ∧ (vi 3).toInt ≤ 940) → (0 ≤ (vi 5).toInt ∧ (vi 5).toInt ≤ 940) → (0 ≤ (vi 10).toInt ∧ (vi 10).toInt ≤ 940) → ∀ (w4 : Int32), ∀ (w2 : Int64), (0 ≤ w4.toInt ∧ w4.toInt ≤ 6) → (w2 = pkw (sBy.getD 11 []) (w4.toInt).toNat) → ∀ (fik : Nat → Nat → Int32), ∀ (flk : Nat → Nat → Int64), ∀ (vik : Nat → Int32), ∀ (vlk : Nat → Int64), ∀ (rk : Int32), (rk = 6) → (6 ≤ w4.toInt) → ((vi 4).toInt = 1) → ∀ (z46 : Int32), (z46 = lg_cmp w2 (vl 0)) → (z46.toInt = 0) → (r = (1 : Int32)) → Q9
def R_X6_isWord (fi : Nat → Nat → Int32) (fl : Nat → Nat → Int64) (vi : Nat → Int32) (vl : Nat → Int64) (r : Int32) (fj : Nat → Nat → Int32) (fm : Nat → Nat → Int64) (vj : Nat → Int32) (vm : Nat → Int64) : Prop :=
  ∀ Q9 : Prop, RL_X6_isWord_0 fi fl vi vl r fj fm vj vm Q9 → RL_X6_isWord_1 fi fl vi vl r fj fm vj vm Q9 → RL_X6_isWord_2 fi fl vi vl r fj fm vj vm Q9 → Q9
def PS_X6_isWord (fi : Nat → Nat → Int32) (fl : Nat → Nat → Int64) (vi : Nat → Int32) (vl : Nat → Int64) (r : Int32) (fj : Nat → Nat → Int32) (fm : Nat → Nat → Int64) (vj : Nat → Int32) (vm : Nat → Int64) : Prop :=
  DJ (r.toInt = 1 ∧ (vi 4).toInt = 1 ∧ (vl 0) = (120325360869753 : Int64)) (r.toInt = 0 ∧ ¬ ((vi 4).toInt = 1 ∧ (vl 0) = (120325360869753 : Int64)))
set_option maxHeartbeats 4000000 in
theorem PL_X6_isWord_0 {fi : Nat → Nat → Int32} {fl : Nat → Nat → Int64} {vi : Nat → Int32} {vl : Nat → Int64} {r : Int32} {fj : Nat → Nat → Int32} {fm : Nat → Nat → Int64} {vj : Nat → Int32} {vm : Nat → Int64} : RL_X6_isWord_0 fi fl vi vl r fj fm vj vm (PS_X6_isWord fi fl vi vl r fj fm vj vm) := by
  unfold RL_X6_isWord_0
  intro hp0 hp1 hp2 hp3 hp4 w4 w2 hi hpk9 fik flk vik vlk rk gk_0 c11 c38 q0; subst q0
  unfold PS_X6_isWord
  have e9 : w2 = (120325360869753 : Int64) := by rw [hpk9, show w4.toInt.toNat = 6 by omega]; decide
  first | exact Or.inl ⟨by decide, by omega, by rw [← e9]; exact (cmp_eq (by assumption) (by omega)).symm⟩ | exact Or.inr ⟨by decide, fun c => by omega⟩ | exact Or.inr ⟨by decide, fun c => cmp_ne (by assumption) (by omega) (by rw [e9]; exact c.2.symm)⟩
set_option maxHeartbeats 4000000 in
theorem PL_X6_isWord_1 {fi : Nat → Nat → Int32} {fl : Nat → Nat → Int64} {vi : Nat → Int32} {vl : Nat → Int64} {r : Int32} {fj : Nat → Nat → Int32} {fm : Nat → Nat → Int64} {vj : Nat → Int32} {vm : Nat → Int64} : RL_X6_isWord_1 fi fl vi vl r fj fm vj vm (PS_X6_isWord fi fl vi vl r fj fm vj vm) := by
  unfold RL_X6_isWord_1
  intro hp0 hp1 hp2 hp3 hp4 w4 w2 hi hpk9 fik flk vik vlk rk gk_0 c11 c38 z46 ez46 c47 q0; subst q0
  unfold PS_X6_isWord
  have e9 : w2 = (120325360869753 : Int64) := by rw [hpk9, show w4.toInt.toNat = 6 by omega]; decide
  first | exact Or.inl ⟨by decide, by omega, by rw [← e9]; exact (cmp_eq (by assumption) (by omega)).symm⟩ | exact Or.inr ⟨by decide, fun c => by omega⟩ | exact Or.inr ⟨by decide, fun c => cmp_ne (by assumption) (by omega) (by rw [e9]; exact c.2.symm)⟩
set_option maxHeartbeats 4000000 in
theorem PL_X6_isWord_2 {fi : Nat → Nat → Int32} {fl : Nat → Nat → Int64} {vi : Nat → Int32} {vl : Nat → Int64} {r : Int32} {fj : Nat → Nat → Int32} {fm : Nat → Nat → Int64} {vj : Nat → Int32} {vm : Nat → Int64} : RL_X6_isWord_2 fi fl vi vl r fj fm vj vm (PS_X6_isWord fi fl vi vl r fj fm vj vm) := by
  unfold RL_X6_isWord_2
  intro hp0 hp1 hp2 hp3 hp4 w4 w2 hi hpk9 fik flk vik vlk rk gk_0 c11 c38 z46 ez46 c47 q0; subst q0
  unfold PS_X6_isWord
  have e9 : w2 = (120325360869753 : Int64) := by rw [hpk9, show w4.toInt.toNat = 6 by omega]; decide
  first | exact Or.inl ⟨by decide, by omega, by rw [← e9]; exact (cmp_eq (by assumption) (by omega)).symm⟩ | exact Or.inr ⟨by decide, fun c => by omega⟩ | exact Or.inr ⟨by decide, fun c => cmp_ne (by assumption) (by omega) (by rw [e9]; exact c.2.symm)⟩
theorem P_X6_isWord {fi : Nat → Nat → Int32} {fl : Nat → Nat → Int64} {vi : Nat → Int32} {vl : Nat → Int64} {r : Int32} {fj : Nat → Nat → Int32} {fm : Nat → Nat → Int64} {vj : Nat → Int32} {vm : Nat → Int64} (h : R_X6_isWord fi fl vi vl r fj fm vj vm) : DJ (r.toInt = 1 ∧ (vi 4).toInt = 1 ∧ (vl 0) = (120325360869753 : Int64)) (r.toInt = 0 ∧ ¬ ((vi 4).toInt = 1 ∧ (vl 0) = (120325360869753 : Int64))) := h (PS_X6_isWord fi fl vi vl r fj fm vj vm) PL_X6_isWord_0 PL_X6_isWord_1 PL_X6_isWord_2
def RL_X7_find_0 (fi : Nat → Nat → Int32) (fl : Nat → Nat → Int64) (vi : Nat → Int32) (vl : Nat → Int64) (r : Int32) (fj : Nat → Nat → Int32) (fm : Nat → Nat → Int64) (vj : Nat → Int32) (vm : Nat → Int64) (Q9 : Prop) : Prop :=
  ∀ (w4 : Int32), (0 ≤ w4.toInt ∧ w4.toInt ≤ 9) → (∀ j : Nat, (j : Int) < w4.toInt → ¬ (fl 0) j = (vl 0)) → ((vi 0).toInt ≤ w4.toInt) → (r = ((-1) : Int32)) → Q9
def RL_X7_find_1 (fi : Nat → Nat → Int32) (fl : Nat → Nat → Int64) (vi : Nat → Int32) (vl : Nat → Int64) (r : Int32) (fj : Nat → Nat → Int32) (fm : Nat → Nat → Int64) (vj : Nat → Int32) (vm : Nat → Int64) (Q9 : Prop) : Prop :=
  ∀ (w4 : Int32), (0 ≤ w4.toInt ∧ w4.toInt ≤ 9) → (∀ j : Nat, (j : Int) < w4.toInt → ¬ (fl 0) j = (vl 0)) → (¬ (vi 0).toInt ≤ w4.toInt) → (9 ≤ w4.toInt) → (r = ((-1) : Int32)) → Q9
def RL_X7_find_2 (fi : Nat → Nat → Int32) (fl : Nat → Nat → Int64) (vi : Nat → Int32) (vl : Nat → Int64) (r : Int32) (fj : Nat → Nat → Int32) (fm : Nat → Nat → Int64) (vj : Nat → Int32) (vm : Nat → Int64) (Q9 : Prop) : Prop :=
  ∀ (w4 : Int32), (0 ≤ w4.toInt ∧ w4.toInt ≤ 9) → (∀ j : Nat, (j : Int) < w4.toInt → ¬ (fl 0) j = (vl 0)) → (¬ (vi 0).toInt ≤ w4.toInt) → (w4.toInt < 9) → ∀ (z21 : Int32), (z21 = lg_cmp ((fl 0) w4.toNatClampNeg) (vl 0)) → (z21.toInt = 0) → (r = w4) → Q9
def R_X7_find (fi : Nat → Nat → Int32) (fl : Nat → Nat → Int64) (vi : Nat → Int32) (vl : Nat → Int64) (r : Int32) (fj : Nat → Nat → Int32) (fm : Nat → Nat → Int64) (vj : Nat → Int32) (vm : Nat → Int64) : Prop :=
  ∀ Q9 : Prop, RL_X7_find_0 fi fl vi vl r fj fm vj vm Q9 → RL_X7_find_1 fi fl vi vl r fj fm vj vm Q9 → RL_X7_find_2 fi fl vi vl r fj fm vj vm Q9 → Q9
def PS_X7_find (fi : Nat → Nat → Int32) (fl : Nat → Nat → Int64) (vi : Nat → Int32) (vl : Nat → Int64) (r : Int32) (fj : Nat → Nat → Int32) (fm : Nat → Nat → Int64) (vj : Nat → Int32) (vm : Nat → Int64) : Prop :=
  (vi 0).toInt ≤ 9 → r.toInt = fdx (fl 0) 0 (vl 0) ((vi 0).toInt).toNat
set_option maxHeartbeats 4000000 in
theorem PL_X7_find_0 {fi : Nat → Nat → Int32} {fl : Nat → Nat → Int64} {vi : Nat → Int32} {vl : Nat → Int64} {r : Int32} {fj : Nat → Nat → Int32} {fm : Nat → Nat → Int64} {vj : Nat → Int32} {vm : Nat → Int64} : RL_X7_find_0 fi fl vi vl r fj fm vj vm (PS_X7_find fi fl vi vl r fj fm vj vm) := by
  unfold RL_X7_find_0
  intro w4 hi hfd9 c6 q0; subst q0
  unfold PS_X7_find
  intro hl
  first | exact (fdx_none _ (fun j hj => by rw [Nat.zero_add]; exact hfd9 j (by omega))).symm | exact fdx_of hfd9 (by omega) (by omega) (cmp_eq (by assumption) (by omega))
set_option maxHeartbeats 4000000 in
theorem PL_X7_find_1 {fi : Nat → Nat → Int32} {fl : Nat → Nat → Int64} {vi : Nat → Int32} {vl : Nat → Int64} {r : Int32} {fj : Nat → Nat → Int32} {fm : Nat → Nat → Int64} {vj : Nat → Int32} {vm : Nat → Int64} : RL_X7_find_1 fi fl vi vl r fj fm vj vm (PS_X7_find fi fl vi vl r fj fm vj vm) := by
  unfold RL_X7_find_1
  intro w4 hi hfd9 c6 c13 q0; subst q0
  unfold PS_X7_find
  intro hl
  first | exact (fdx_none _ (fun j hj => by rw [Nat.zero_add]; exact hfd9 j (by omega))).symm | exact fdx_of hfd9 (by omega) (by omega) (cmp_eq (by assumption) (by omega))
set_option maxHeartbeats 4000000 in
theorem PL_X7_find_2 {fi : Nat → Nat → Int32} {fl : Nat → Nat → Int64} {vi : Nat → Int32} {vl : Nat → Int64} {r : Int32} {fj : Nat → Nat → Int32} {fm : Nat → Nat → Int64} {vj : Nat → Int32} {vm : Nat → Int64} : RL_X7_find_2 fi fl vi vl r fj fm vj vm (PS_X7_find fi fl vi vl r fj fm vj vm) := by
  unfold RL_X7_find_2
  intro w4 hi hfd9 c6 c13 z21 ez21 c22 q0; subst q0
  unfold PS_X7_find
  intro hl
  first | exact (fdx_none _ (fun j hj => by rw [Nat.zero_add]; exact hfd9 j (by omega))).symm | exact fdx_of hfd9 (by omega) (by omega) (cmp_eq (by assumption) (by omega))
theorem P_X7_find {fi : Nat → Nat → Int32} {fl : Nat → Nat → Int64} {vi : Nat → Int32} {vl : Nat → Int64} {r : Int32} {fj : Nat → Nat → Int32} {fm : Nat → Nat → Int64} {vj : Nat → Int32} {vm : Nat → Int64} (h : R_X7_find fi fl vi vl r fj fm vj vm) : (vi 0).toInt ≤ 9 → r.toInt = fdx (fl 0) 0 (vl 0) ((vi 0).toInt).toNat := h (PS_X7_find fi fl vi vl r fj fm vj vm) PL_X7_find_0 PL_X7_find_1 PL_X7_find_2
def RL_X7_findSoul_0 (fi : Nat → Nat → Int32) (fl : Nat → Nat → Int64) (vi : Nat → Int32) (vl : Nat → Int64) (r : Int32) (fj : Nat → Nat → Int32) (fm : Nat → Nat → Int64) (vj : Nat → Int32) (vm : Nat → Int64) (Q9 : Prop) : Prop :=
  (0 ≤ (vi 0).toInt ∧ (vi 0).toInt ≤ 9) → (0 ≤ (vi 1).toInt ∧ (vi 1).toInt ≤ 9) → ∀ (fik : Nat → Nat → Int32), ∀ (flk : Nat → Nat → Int64), ∀ (vik : Nat → Int32), ∀ (vlk : Nat → Int64), ∀ (rk : Int32), (-1 ≤ rk.toInt ∧ rk.toInt ≤ 8) → ((vi 1).toInt ≤ 9 → rk.toInt = fdx (fl 0) 0 (vl 0) ((vi 1).toInt).toNat) → (r = rk) → Q9
def R_X7_findSoul (fi : Nat → Nat → Int32) (fl : Nat → Nat → Int64) (vi : Nat → Int32) (vl : Nat → Int64) (r : Int32) (fj : Nat → Nat → Int32) (fm : Nat → Nat → Int64) (vj : Nat → Int32) (vm : Nat → Int64) : Prop :=
  ∀ Q9 : Prop, RL_X7_findSoul_0 fi fl vi vl r fj fm vj vm Q9 → Q9
def PS_X7_findSoul (fi : Nat → Nat → Int32) (fl : Nat → Nat → Int64) (vi : Nat → Int32) (vl : Nat → Int64) (r : Int32) (fj : Nat → Nat → Int32) (fm : Nat → Nat → Int64) (vj : Nat → Int32) (vm : Nat → Int64) : Prop :=
  r.toInt = fdx (fl 0) 0 (vl 0) ((vi 1).toInt).toNat
set_option maxHeartbeats 4000000 in
theorem PL_X7_findSoul_0 {fi : Nat → Nat → Int32} {fl : Nat → Nat → Int64} {vi : Nat → Int32} {vl : Nat → Int64} {r : Int32} {fj : Nat → Nat → Int32} {fm : Nat → Nat → Int64} {vj : Nat → Int32} {vm : Nat → Int64} : RL_X7_findSoul_0 fi fl vi vl r fj fm vj vm (PS_X7_findSoul fi fl vi vl r fj fm vj vm) := by
  unfold RL_X7_findSoul_0
  intro hp0 hp1 fik flk vik vlk rk gk_0 gk_1 q0; subst q0
  unfold PS_X7_findSoul
  exact gk_1 (by omega)
theorem P_X7_findSoul {fi : Nat → Nat → Int32} {fl : Nat → Nat → Int64} {vi : Nat → Int32} {vl : Nat → Int64} {r : Int32} {fj : Nat → Nat → Int32} {fm : Nat → Nat → Int64} {vj : Nat → Int32} {vm : Nat → Int64} (h : R_X7_findSoul fi fl vi vl r fj fm vj vm) : r.toInt = fdx (fl 0) 0 (vl 0) ((vi 1).toInt).toNat := h (PS_X7_findSoul fi fl vi vl r fj fm vj vm) PL_X7_findSoul_0
def RL_X6_canBeNameOrSoul_0 (fi : Nat → Nat → Int32) (fl : Nat → Nat → Int64) (vi : Nat → Int32) (vl : Nat → Int64) (r : Int32) (fj : Nat → Nat → Int32) (fm : Nat → Nat → Int64) (vj : Nat → Int32) (vm : Nat → Int64) (Q9 : Prop) : Prop :=
  (0 ≤ (vi 1).toInt ∧ (vi 1).toInt ≤ 940) → (0 ≤ (vi 2).toInt ∧ (vi 2).toInt ≤ 940) → (0 ≤ (vi 3).toInt ∧ (vi 3).toInt ≤ 940) → (0 ≤ (vi 5).toInt ∧ (vi 5).toInt ≤ 940) → (0 ≤ (vi 10).toInt ∧ (vi 10).toInt ≤ 940) → ((vi 4).toInt = 1) → ∀ (w1 : Int32), (0 ≤ w1.toInt ∧ w1.toInt ≤ 27) → (∀ j : Nat, (j : Int) < w1.toInt → ¬ (fl 0) j = (vl 0)) → (27 ≤ w1.toInt) → (r = (1 : Int32)) → Q9
def RL_X6_canBeNameOrSoul_1 (fi : Nat → Nat → Int32) (fl : Nat → Nat → Int64) (vi : Nat → Int32) (vl : Nat → Int64) (r : Int32) (fj : Nat → Nat → Int32) (fm : Nat → Nat → Int64) (vj : Nat → Int32) (vm : Nat → Int64) (Q9 : Prop) : Prop :=
  (0 ≤ (vi 1).toInt ∧ (vi 1).toInt ≤ 940) → (0 ≤ (vi 2).toInt ∧ (vi 2).toInt ≤ 940) → (0 ≤ (vi 3).toInt ∧ (vi 3).toInt ≤ 940) → (0 ≤ (vi 5).toInt ∧ (vi 5).toInt ≤ 940) → (0 ≤ (vi 10).toInt ∧ (vi 10).toInt ≤ 940) → ((vi 4).toInt = 1) → ∀ (w1 : Int32), (0 ≤ w1.toInt ∧ w1.toInt ≤ 27) → (∀ j : Nat, (j : Int) < w1.toInt → ¬ (fl 0) j = (vl 0)) → (w1.toInt < 27) → ∀ (z31 : Int32), (z31 = lg_cmp ((fl 0) w1.toNatClampNeg) (vl 0)) → (z31.toInt = 0) → (r = (0 : Int32)) → Q9
def RL_X6_canBeNameOrSoul_2 (fi : Nat → Nat → Int32) (fl : Nat → Nat → Int64) (vi : Nat → Int32) (vl : Nat → Int64) (r : Int32) (fj : Nat → Nat → Int32) (fm : Nat → Nat → Int64) (vj : Nat → Int32) (vm : Nat → Int64) (Q9 : Prop) : Prop :=
  (0 ≤ (vi 1).toInt ∧ (vi 1).toInt ≤ 940) → (0 ≤ (vi 2).toInt ∧ (vi 2).toInt ≤ 940) → (0 ≤ (vi 3).toInt ∧ (vi 3).toInt ≤ 940) → (0 ≤ (vi 5).toInt ∧ (vi 5).toInt ≤ 940) → (0 ≤ (vi 10).toInt ∧ (vi 10).toInt ≤ 940) → (¬ (vi 4).toInt = 1) → (r = (0 : Int32)) → Q9
def R_X6_canBeNameOrSoul (fi : Nat → Nat → Int32) (fl : Nat → Nat → Int64) (vi : Nat → Int32) (vl : Nat → Int64) (r : Int32) (fj : Nat → Nat → Int32) (fm : Nat → Nat → Int64) (vj : Nat → Int32) (vm : Nat → Int64) : Prop :=
  ∀ Q9 : Prop, RL_X6_canBeNameOrSoul_0 fi fl vi vl r fj fm vj vm Q9 → RL_X6_canBeNameOrSoul_1 fi fl vi vl r fj fm vj vm Q9 → RL_X6_canBeNameOrSoul_2 fi fl vi vl r fj fm vj vm Q9 → Q9
def PS_X6_canBeNameOrSoul (fi : Nat → Nat → Int32) (fl : Nat → Nat → Int64) (vi : Nat → Int32) (vl : Nat → Int64) (r : Int32) (fj : Nat → Nat → Int32) (fm : Nat → Nat → Int64) (vj : Nat → Int32) (vm : Nat → Int64) : Prop :=
  DJ (r.toInt = 1 ∧ (vi 4).toInt = 1 ∧ ownB (fl 0) (vl 0) = false) (r.toInt = 0 ∧ (¬ (vi 4).toInt = 1 ∨ ownB (fl 0) (vl 0) = true))
set_option maxHeartbeats 4000000 in
theorem PL_X6_canBeNameOrSoul_0 {fi : Nat → Nat → Int32} {fl : Nat → Nat → Int64} {vi : Nat → Int32} {vl : Nat → Int64} {r : Int32} {fj : Nat → Nat → Int32} {fm : Nat → Nat → Int64} {vj : Nat → Int32} {vm : Nat → Int64} : RL_X6_canBeNameOrSoul_0 fi fl vi vl r fj fm vj vm (PS_X6_canBeNameOrSoul fi fl vi vl r fj fm vj vm) := by
  unfold RL_X6_canBeNameOrSoul_0
  intro hp0 hp1 hp2 hp3 hp4 c5 w1 hi hcb9 c18 q0; subst q0
  unfold PS_X6_canBeNameOrSoul
  first | exact Or.inl ⟨by decide, by omega, ownB_f (fun j hj => hcb9 j (by omega))⟩ | exact Or.inr ⟨by decide, Or.inl (by omega)⟩ | exact Or.inr ⟨by decide, Or.inr (ownB_t (show w1.toNatClampNeg < 27 from (show w1.toInt.toNat < 27 by omega)) (cmp_eq (by assumption) (by omega)))⟩
set_option maxHeartbeats 4000000 in
theorem PL_X6_canBeNameOrSoul_1 {fi : Nat → Nat → Int32} {fl : Nat → Nat → Int64} {vi : Nat → Int32} {vl : Nat → Int64} {r : Int32} {fj : Nat → Nat → Int32} {fm : Nat → Nat → Int64} {vj : Nat → Int32} {vm : Nat → Int64} : RL_X6_canBeNameOrSoul_1 fi fl vi vl r fj fm vj vm (PS_X6_canBeNameOrSoul fi fl vi vl r fj fm vj vm) := by
  unfold RL_X6_canBeNameOrSoul_1
  intro hp0 hp1 hp2 hp3 hp4 c5 w1 hi hcb9 c18 z31 ez31 c32 q0; subst q0
  unfold PS_X6_canBeNameOrSoul
  first | exact Or.inl ⟨by decide, by omega, ownB_f (fun j hj => hcb9 j (by omega))⟩ | exact Or.inr ⟨by decide, Or.inl (by omega)⟩ | exact Or.inr ⟨by decide, Or.inr (ownB_t (show w1.toNatClampNeg < 27 from (show w1.toInt.toNat < 27 by omega)) (cmp_eq (by assumption) (by omega)))⟩
set_option maxHeartbeats 4000000 in
theorem PL_X6_canBeNameOrSoul_2 {fi : Nat → Nat → Int32} {fl : Nat → Nat → Int64} {vi : Nat → Int32} {vl : Nat → Int64} {r : Int32} {fj : Nat → Nat → Int32} {fm : Nat → Nat → Int64} {vj : Nat → Int32} {vm : Nat → Int64} : RL_X6_canBeNameOrSoul_2 fi fl vi vl r fj fm vj vm (PS_X6_canBeNameOrSoul fi fl vi vl r fj fm vj vm) := by
  unfold RL_X6_canBeNameOrSoul_2
  intro hp0 hp1 hp2 hp3 hp4 c5 q0; subst q0
  unfold PS_X6_canBeNameOrSoul
  first | exact Or.inl ⟨by decide, by omega, ownB_f (fun j hj => hcb9 j (by omega))⟩ | exact Or.inr ⟨by decide, Or.inl (by omega)⟩ | exact Or.inr ⟨by decide, Or.inr (ownB_t (show w1.toNatClampNeg < 27 from (show w1.toInt.toNat < 27 by omega)) (cmp_eq (by assumption) (by omega)))⟩
theorem P_X6_canBeNameOrSoul {fi : Nat → Nat → Int32} {fl : Nat → Nat → Int64} {vi : Nat → Int32} {vl : Nat → Int64} {r : Int32} {fj : Nat → Nat → Int32} {fm : Nat → Nat → Int64} {vj : Nat → Int32} {vm : Nat → Int64} (h : R_X6_canBeNameOrSoul fi fl vi vl r fj fm vj vm) : DJ (r.toInt = 1 ∧ (vi 4).toInt = 1 ∧ ownB (fl 0) (vl 0) = false) (r.toInt = 0 ∧ (¬ (vi 4).toInt = 1 ∨ ownB (fl 0) (vl 0) = true)) := h (PS_X6_canBeNameOrSoul fi fl vi vl r fj fm vj vm) PL_X6_canBeNameOrSoul_0 PL_X6_canBeNameOrSoul_1 PL_X6_canBeNameOrSoul_2
