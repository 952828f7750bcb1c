def RL_X6_isWord_16_0 (fi : Nat → Nat → Int32) (fl : Nat → Nat → Int64) (vi : Nat → Int32) (vl : Nat → Int64) (r : Int32) (fj : Nat → Nat → Int32) (fm : Nat → Nat → Int64) (vj : Nat → Int32) (vm : Nat → Int64) (Q9 : Prop) : Prop :=
  (0 ≤ (vi 1).toInt ∧ (vi 1).toInt ≤ 940) → (0 ≤ (vi 2).toInt ∧ (vi 2).toInt ≤ 940) → (0 ≤ (vi 3).toInt ∧ (vi 3).toInt ≤ 940) → (0 ≤ (vi 5).toInt ∧ (vi 5).toInt ≤ 940) → (0 ≤ (vi 10).toInt ∧ (vi 10).toInt ≤ 940) → ∀ (w4 : Int32), ∀ (w2 : Int64), (0 ≤ w4.toInt ∧ w4.toInt ≤ 6) → (w2 = pkw (sBy.getD 26 []) (w4.toInt).toNat) → ∀ (fik : Nat → Nat → Int32), ∀ (flk : Nat → Nat → Int64), ∀ (vik : Nat → Int32), ∀ (vlk : Nat → Int64), ∀ (rk : Int32), (rk = 6) → (6 ≤ w4.toInt) → (¬ (vi 4).toInt = 1) → (r = (0 : Int32)) → Q9
def RL_X6_isWord_16_1 (fi : Nat → Nat → Int32) (fl : Nat → Nat → Int64) (vi : Nat → Int32) (vl : Nat → Int64) (r : Int32) (fj : Nat → Nat → Int32) (fm : Nat → Nat → Int64) (vj : Nat → Int32) (vm : Nat → Int64) (Q9 : Prop) : Prop :=
  (0 ≤ (vi 1).toInt ∧ (vi 1).toInt ≤ 940) → (0 ≤ (vi 2).toInt ∧ (vi 2).toInt ≤ 940) → (0 ≤ (vi 3).toInt ∧ (vi 3).toInt ≤ 940) → (0 ≤ (vi 5).toInt ∧ (vi 5).toInt ≤ 940) → (0 ≤ (vi 10).toInt ∧ (vi 10).toInt ≤ 940) → ∀ (w4 : Int32), ∀ (w2 : Int64), (0 ≤ w4.toInt ∧ w4.toInt ≤ 6) → (w2 = pkw (sBy.getD 26 []) (w4.toInt).toNat) → ∀ (fik : Nat → Nat → Int32), ∀ (flk : Nat → Nat → Int64), ∀ (vik : Nat → Int32), ∀ (vlk : Nat → Int64), ∀ (rk : Int32), (rk = 6) → (6 ≤ w4.toInt) → ((vi 4).toInt = 1) → ∀ (z46 : Int32), (z46 = lg_cmp w2 (vl 0)) → (¬ z46.toInt = 0) → (r = (0 : Int32)) → Q9
def RL_X6_isWord_16_2 (fi : Nat → Nat → Int32) (fl : Nat → Nat → Int64) (vi : Nat → Int32) (vl : Nat → Int64) (r : Int32) (fj : Nat → Nat → Int32) (fm : Nat → Nat → Int64) (vj : Nat → Int32) (vm : Nat → Int64) (Q9 : Prop) : Prop :=
  (0 ≤ (vi 1).toInt ∧ (vi 1).toInt ≤ 940) → (0 ≤ (vi 2).toInt ∧ (vi 2).toInt ≤ 940) → (0 ≤ (vi 3).toInt ∧ (vi 3).toInt ≤ 940) → (0 ≤ (vi 5).toInt ∧ (vi 5).toInt ≤ 940) → (0 ≤ (vi 10).toInt ∧ (vi 10).toInt ≤ 940) → ∀ (w4 : Int32), ∀ (w2 : Int64), (0 ≤ w4.toInt ∧ w4.toInt ≤ 6) → (w2 = pkw (sBy.getD 26 []) (w4.toInt).toNat) → ∀ (fik : Nat → Nat → Int32), ∀ (flk : Nat → Nat → Int64), ∀ (vik : Nat → Int32), ∀ (vlk : Nat → Int64), ∀ (rk : Int32), (rk = 6) → (6 ≤ w4.toInt) → ((vi 4).toInt = 1) → ∀ (z46 : Int32), (z46 = lg_cmp w2 (vl 0)) → (z46.toInt = 0) → (r = (1 : Int32)) → Q9
def R_X6_isWord_16 (fi : Nat → Nat → Int32) (fl : Nat → Nat → Int64) (vi : Nat → Int32) (vl : Nat → Int64) (r : Int32) (fj : Nat → Nat → Int32) (fm : Nat → Nat → Int64) (vj : Nat → Int32) (vm : Nat → Int64) : Prop :=
  ∀ Q9 : Prop, RL_X6_isWord_16_0 fi fl vi vl r fj fm vj vm Q9 → RL_X6_isWord_16_1 fi fl vi vl r fj fm vj vm Q9 → RL_X6_isWord_16_2 fi fl vi vl r fj fm vj vm Q9 → Q9
def PS_X6_isWord_16 (fi : Nat → Nat → Int32) (fl : Nat → Nat → Int64) (vi : Nat → Int32) (vl : Nat → Int64) (r : Int32) (fj : Nat → Nat → Int32) (fm : Nat → Nat → Int64) (vj : Nat → Int32) (vm : Nat → Int64) : Prop :=
  DJ (r.toInt = 1 ∧ (vi 4).toInt = 1 ∧ (vl 0) = (112585612686451 : Int64)) (r.toInt = 0 ∧ ¬ ((vi 4).toInt = 1 ∧ (vl 0) = (112585612686451 : Int64)))
set_option maxHeartbeats 4000000 in
theorem PL_X6_isWord_16_0 {fi : Nat → Nat → Int32} {fl : Nat → Nat → Int64} {vi : Nat → Int32} {vl : Nat → Int64} {r : Int32} {fj : Nat → Nat → Int32} {fm : Nat → Nat → Int64} {vj : Nat → Int32} {vm : Nat → Int64} : RL_X6_isWord_16_0 fi fl vi vl r fj fm vj vm (PS_X6_isWord_16 fi fl vi vl r fj fm vj vm) := by
  unfold RL_X6_isWord_16_0
  intro hp0 hp1 hp2 hp3 hp4 w4 w2 hi hpk9 fik flk vik vlk rk gk_0 c11 c38 q0; subst q0
  unfold PS_X6_isWord_16
  have e9 : w2 = (112585612686451 : Int64) := by rw [hpk9, show w4.toInt.toNat = 6 by omega]; decide
  first | exact Or.inl ⟨by decide, by omega, by rw [← e9]; exact (cmp_eq (by assumption) (by omega)).symm⟩ | exact Or.inr ⟨by decide, fun c => by omega⟩ | exact Or.inr ⟨by decide, fun c => cmp_ne (by assumption) (by omega) (by rw [e9]; exact c.2.symm)⟩
set_option maxHeartbeats 4000000 in
theorem PL_X6_isWord_16_1 {fi : Nat → Nat → Int32} {fl : Nat → Nat → Int64} {vi : Nat → Int32} {vl : Nat → Int64} {r : Int32} {fj : Nat → Nat → Int32} {fm : Nat → Nat → Int64} {vj : Nat → Int32} {vm : Nat → Int64} : RL_X6_isWord_16_1 fi fl vi vl r fj fm vj vm (PS_X6_isWord_16 fi fl vi vl r fj fm vj vm) := by
  unfold RL_X6_isWord_16_1
  intro hp0 hp1 hp2 hp3 hp4 w4 w2 hi hpk9 fik flk vik vlk rk gk_0 c11 c38 z46 ez46 c47 q0; subst q0
  unfold PS_X6_isWord_16
  have e9 : w2 = (112585612686451 : Int64) := by rw [hpk9, show w4.toInt.toNat = 6 by omega]; decide
  first | exact Or.inl ⟨by decide, by omega, by rw [← e9]; exact (cmp_eq (by assumption) (by omega)).symm⟩ | exact Or.inr ⟨by decide, fun c => by omega⟩ | exact Or.inr ⟨by decide, fun c => cmp_ne (by assumption) (by omega) (by rw [e9]; exact c.2.symm)⟩
set_option maxHeartbeats 4000000 in
theorem PL_X6_isWord_16_2 {fi : Nat → Nat → Int32} {fl : Nat → Nat → Int64} {vi : Nat → Int32} {vl : Nat → Int64} {r : Int32} {fj : Nat → Nat → Int32} {fm : Nat → Nat → Int64} {vj : Nat → Int32} {vm : Nat → Int64} : RL_X6_isWord_16_2 fi fl vi vl r fj fm vj vm (PS_X6_isWord_16 fi fl vi vl r fj fm vj vm) := by
  unfold RL_X6_isWord_16_2
  intro hp0 hp1 hp2 hp3 hp4 w4 w2 hi hpk9 fik flk vik vlk rk gk_0 c11 c38 z46 ez46 c47 q0; subst q0
  unfold PS_X6_isWord_16
  have e9 : w2 = (112585612686451 : Int64) := by rw [hpk9, show w4.toInt.toNat = 6 by omega]; decide
  first | exact Or.inl ⟨by decide, by omega, by rw [← e9]; exact (cmp_eq (by assumption) (by omega)).symm⟩ | exact Or.inr ⟨by decide, fun c => by omega⟩ | exact Or.inr ⟨by decide, fun c => cmp_ne (by assumption) (by omega) (by rw [e9]; exact c.2.symm)⟩
theorem P_X6_isWord_16 {fi : Nat → Nat → Int32} {fl : Nat → Nat → Int64} {vi : Nat → Int32} {vl : Nat → Int64} {r : Int32} {fj : Nat → Nat → Int32} {fm : Nat → Nat → Int64} {vj : Nat → Int32} {vm : Nat → Int64} (h : R_X6_isWord_16 fi fl vi vl r fj fm vj vm) : DJ (r.toInt = 1 ∧ (vi 4).toInt = 1 ∧ (vl 0) = (112585612686451 : Int64)) (r.toInt = 0 ∧ ¬ ((vi 4).toInt = 1 ∧ (vl 0) = (112585612686451 : Int64))) := h (PS_X6_isWord_16 fi fl vi vl r fj fm vj vm) PL_X6_isWord_16_0 PL_X6_isWord_16_1 PL_X6_isWord_16_2
def RL_J1_charAt_3b067_17_0 (fi : Nat → Nat → Int32) (fl : Nat → Nat → Int64) (vi : Nat → Int32) (vl : Nat → Int64) (r : Int32) (fj : Nat → Nat → Int32) (fm : Nat → Nat → Int64) (vj : Nat → Int32) (vm : Nat → Int64) (Q9 : Prop) : Prop :=
  (0 ≤ (vi 0).toInt ∧ (vi 0).toInt ≤ 5) → ∀ (fik : Nat → Nat → Int32), ∀ (flk : Nat → Nat → Int64), ∀ (vik : Nat → Int32), ∀ (vlk : Nat → Int64), ∀ (uk : Int32), ∀ (z8 : Int32), (z8 = (sBy.getD 27 []).getD (vi 0).toNatClampNeg 0) → ∀ (z12 : Int32), (z12 = z8 &&& (255 : Int32)) → ∀ (z13 : Int32), (z13 = (z12.toUInt32 % 65536).toInt32) → (r = z13) → Q9
def R_J1_charAt_3b067_17 (fi : Nat → Nat → Int32) (fl : Nat → Nat → Int64) (vi : Nat → Int32) (vl : Nat → Int64) (r : Int32) (fj : Nat → Nat → Int32) (fm : Nat → Nat → Int64) (vj : Nat → Int32) (vm : Nat → Int64) : Prop :=
  ∀ Q9 : Prop, RL_J1_charAt_3b067_17_0 fi fl vi vl r fj fm vj vm Q9 → Q9
def PS_J1_charAt_3b067_17 (fi : Nat → Nat → Int32) (fl : Nat → Nat → Int64) (vi : Nat → Int32) (vl : Nat → Int64) (r : Int32) (fj : Nat → Nat → Int32) (fm : Nat → Nat → Int64) (vj : Nat → Int32) (vm : Nat → Int64) : Prop :=
  r = (sBy.getD 27 []).getD ((vi 0).toInt).toNat 0
set_option maxHeartbeats 4000000 in
theorem PL_J1_charAt_3b067_17_0 {fi : Nat → Nat → Int32} {fl : Nat → Nat → Int64} {vi : Nat → Int32} {vl : Nat → Int64} {r : Int32} {fj : Nat → Nat → Int32} {fm : Nat → Nat → Int64} {vj : Nat → Int32} {vm : Nat → Int64} : RL_J1_charAt_3b067_17_0 fi fl vi vl r fj fm vj vm (PS_J1_charAt_3b067_17 fi fl vi vl r fj fm vj vm) := by
  unfold RL_J1_charAt_3b067_17_0
  intro hp0 fik flk vik vlk uk z8 ez8 z12 ez12 z13 ez13 q0; subst q0
  unfold PS_J1_charAt_3b067_17
  first | exact by assumption | exact char_of (by assumption) (by assumption) (by assumption)
theorem P_J1_charAt_3b067_17 {fi : Nat → Nat → Int32} {fl : Nat → Nat → Int64} {vi : Nat → Int32} {vl : Nat → Int64} {r : Int32} {fj : Nat → Nat → Int32} {fm : Nat → Nat → Int64} {vj : Nat → Int32} {vm : Nat → Int64} (h : R_J1_charAt_3b067_17 fi fl vi vl r fj fm vj vm) : r = (sBy.getD 27 []).getD ((vi 0).toInt).toNat 0 := h (PS_J1_charAt_3b067_17 fi fl vi vl r fj fm vj vm) PL_J1_charAt_3b067_17_0
def RL_J0_charAt_5068e_17_0 (fi : Nat → Nat → Int32) (fl : Nat → Nat → Int64) (vi : Nat → Int32) (vl : Nat → Int64) (r : Int32) (fj : Nat → Nat → Int32) (fm : Nat → Nat → Int64) (vj : Nat → Int32) (vm : Nat → Int64) (Q9 : Prop) : Prop :=
  (0 ≤ (vi 0).toInt ∧ (vi 0).toInt ≤ 5) → ∀ (fik : Nat → Nat → Int32), ∀ (flk : Nat → Nat → Int64), ∀ (vik : Nat → Int32), ∀ (vlk : Nat → Int64), ∀ (rk : Int32), (rk = 1) → ∀ (fik_1 : Nat → Nat → Int32), ∀ (flk_1 : Nat → Nat → Int64), ∀ (vik_1 : Nat → Int32), ∀ (vlk_1 : Nat → Int64), ∀ (rk_1 : Int32), (rk_1 = (sBy.getD 27 []).getD ((vi 0).toInt).toNat 0) → (r = rk_1) → Q9
def R_J0_charAt_5068e_17 (fi : Nat → Nat → Int32) (fl : Nat → Nat → Int64) (vi : Nat → Int32) (vl : Nat → Int64) (r : Int32) (fj : Nat → Nat → Int32) (fm : Nat → Nat → Int64) (vj : Nat → Int32) (vm : Nat → Int64) : Prop :=
  ∀ Q9 : Prop, RL_J0_charAt_5068e_17_0 fi fl vi vl r fj fm vj vm Q9 → Q9
def PS_J0_charAt_5068e_17 (fi : Nat → Nat → Int32) (fl : Nat → Nat → Int64) (vi : Nat → Int32) (vl : Nat → Int64) (r : Int32) (fj : Nat → Nat → Int32) (fm : Nat → Nat → Int64) (vj : Nat → Int32) (vm : Nat → Int64) : Prop :=
  r = (sBy.getD 27 []).getD ((vi 0).toInt).toNat 0
set_option maxHeartbeats 4000000 in
theorem PL_J0_charAt_5068e_17_0 {fi : Nat → Nat → Int32} {fl : Nat → Nat → Int64} {vi : Nat → Int32} {vl : Nat → Int64} {r : Int32} {fj : Nat → Nat → Int32} {fm : Nat → Nat → Int64} {vj : Nat → Int32} {vm : Nat → Int64} : RL_J0_charAt_5068e_17_0 fi fl vi vl r fj fm vj vm (PS_J0_charAt_5068e_17 fi fl vi vl r fj fm vj vm) := by
  unfold RL_J0_charAt_5068e_17_0
  intro hp0 fik flk vik vlk rk gk_0 fik_1 flk_1 vik_1 vlk_1 rk_1 gk_1_1 q0; subst q0
  unfold PS_J0_charAt_5068e_17
  first | exact by assumption | exact char_of (by assumption) (by assumption) (by assumption)
theorem P_J0_charAt_5068e_17 {fi : Nat → Nat → Int32} {fl : Nat → Nat → Int64} {vi : Nat → Int32} {vl : Nat → Int64} {r : Int32} {fj : Nat → Nat → Int32} {fm : Nat → Nat → Int64} {vj : Nat → Int32} {vm : Nat → Int64} (h : R_J0_charAt_5068e_17 fi fl vi vl r fj fm vj vm) : r = (sBy.getD 27 []).getD ((vi 0).toInt).toNat 0 := h (PS_J0_charAt_5068e_17 fi fl vi vl r fj fm vj vm) PL_J0_charAt_5068e_17_0
def RL_X6_isWord_17_0 (fi : Nat → Nat → Int32) (fl : Nat → Nat → Int64) (vi : Nat → Int32) (vl : Nat → Int64) (r : Int32) (fj : Nat → Nat → Int32) (fm : Nat → Nat → Int64) (vj : Nat → Int32) (vm : Nat → Int64) (Q9 : Prop) : Prop :=
  (0 ≤ (vi 1).toInt ∧ (vi 1).toInt ≤ 940) → (0 ≤ (vi 2).toInt ∧ (vi 2).toInt ≤ 940) → (0 ≤ (vi 3).toInt ∧ (vi 3).toInt ≤ 940) → (0 ≤ (vi 5).toInt ∧ (vi 5).toInt ≤ 940) → (0 ≤ (vi 10).toInt ∧ (vi 10).toInt ≤ 940) → ∀ (w4 : Int32), ∀ (w2 : Int64), (0 ≤ w4.toInt ∧ w4.toInt ≤ 6) → (w2 = pkw (sBy.getD 27 []) (w4.toInt).toNat) → ∀ (fik : Nat → Nat → Int32), ∀ (flk : Nat → Nat → Int64), ∀ (vik : Nat → Int32), ∀ (vlk : Nat → Int64), ∀ (rk : Int32), (rk = 6) → (6 ≤ w4.toInt) → (¬ (vi 4).toInt = 1) → (r = (0 : Int32)) → Q9
def RL_X6_isWord_17_1 (fi : Nat → Nat → Int32) (fl : Nat → Nat → Int64) (vi : Nat → Int32) (vl : Nat → Int64) (r : Int32) (fj : Nat → Nat → Int32) (fm : Nat → Nat → Int64) (vj : Nat → Int32) (vm : Nat → Int64) (Q9 : Prop) : Prop :=
  (0 ≤ (vi 1).toInt ∧ (vi 1).toInt ≤ 940) → (0 ≤ (vi 2).toInt ∧ (vi 2).toInt ≤ 940) → (0 ≤ (vi 3).toInt ∧ (vi 3).toInt ≤ 940) → (0 ≤ (vi 5).toInt ∧ (vi 5).toInt ≤ 940) → (0 ≤ (vi 10).toInt ∧ (vi 10).toInt ≤ 940) → ∀ (w4 : Int32), ∀ (w2 : Int64), (0 ≤ w4.toInt ∧ w4.toInt ≤ 6) → (w2 = pkw (sBy.getD 27 []) (w4.toInt).toNat) → ∀ (fik : Nat → Nat → Int32), ∀ (flk : Nat → Nat → Int64), ∀ (vik : Nat → Int32), ∀ (vlk : Nat → Int64), ∀ (rk : Int32), (rk = 6) → (6 ≤ w4.toInt) → ((vi 4).toInt = 1) → ∀ (z46 : Int32), (z46 = lg_cmp w2 (vl 0)) → (¬ z46.toInt = 0) → (r = (0 : Int32)) → Q9
def RL_X6_isWord_17_2 (fi : Nat → Nat → Int32) (fl : Nat → Nat → Int64) (vi : Nat → Int32) (vl : Nat → Int64) (r : Int32) (fj : Nat → Nat → Int32) (fm : Nat → Nat → Int64) (vj : Nat → Int32) (vm : Nat → Int64) (Q9 : Prop) : Prop :=
  (0 ≤ (vi 1).toInt ∧ (vi 1).toInt ≤ 940) → (0 ≤ (vi 2).toInt ∧ (vi 2).toInt ≤ 940) → (0 ≤ (vi 3).toInt ∧ (vi 3).toInt ≤ 940) → (0 ≤ (vi 5).toInt ∧ (vi 5).toInt ≤ 940) → (0 ≤ (vi 10).toInt ∧ (vi 10).toInt ≤ 940) → ∀ (w4 : Int32), ∀ (w2 : Int64), (0 ≤ w4.toInt ∧ w4.toInt ≤ 6) → (w2 = pkw (sBy.getD 27 []) (w4.toInt).toNat) → ∀ (fik : Nat → Nat → Int32), ∀ (flk : Nat → Nat → Int64), ∀ (vik : Nat → Int32), ∀ (vlk : Nat → Int64), ∀ (rk : Int32), (rk = 6) → (6 ≤ w4.toInt) → ((vi 4).toInt = 1) → ∀ (z46 : Int32), (z46 = lg_cmp w2 (vl 0)) → (z46.toInt = 0) → (r = (1 : Int32)) → Q9
def R_X6_isWord_17 (fi : Nat → Nat → Int32) (fl : Nat → Nat → Int64) (vi : Nat → Int32) (vl : Nat → Int64) (r : Int32) (fj : Nat → Nat → Int32) (fm : Nat → Nat → Int64) (vj : Nat → Int32) (vm : Nat → Int64) : Prop :=
  ∀ Q9 : Prop, RL_X6_isWord_17_0 fi fl vi vl r fj fm vj vm Q9 → RL_X6_isWord_17_1 fi fl vi vl r fj fm vj vm Q9 → RL_X6_isWord_17_2 fi fl vi vl r fj fm vj vm Q9 → Q9
def PS_X6_isWord_17 (fi : Nat → Nat → Int32) (fl : Nat → Nat → Int64) (vi : Nat → Int32) (vl : Nat → Int64) (r : Int32) (fj : Nat → Nat → Int32) (fm : Nat → Nat → Int64) (vj : Nat → Int32) (vm : Nat → Int64) : Prop :=
  DJ (r.toInt = 1 ∧ (vi 4).toInt = 1 ∧ (vl 0) = (121450625394034 : Int64)) (r.toInt = 0 ∧ ¬ ((vi 4).toInt = 1 ∧ (vl 0) = (121450625394034 : Int64)))
set_option maxHeartbeats 4000000 in
theorem PL_X6_isWord_17_0 {fi : Nat → Nat → Int32} {fl : Nat → Nat → Int64} {vi : Nat → Int32} {vl : Nat → Int64} {r : Int32} {fj : Nat → Nat → Int32} {fm : Nat → Nat → Int64} {vj : Nat → Int32} {vm : Nat → Int64} : RL_X6_isWord_17_0 fi fl vi vl r fj fm vj vm (PS_X6_isWord_17 fi fl vi vl r fj fm vj vm) := by
  unfold RL_X6_isWord_17_0
  intro hp0 hp1 hp2 hp3 hp4 w4 w2 hi hpk9 fik flk vik vlk rk gk_0 c11 c38 q0; subst q0
  unfold PS_X6_isWord_17
  have e9 : w2 = (121450625394034 : Int64) := by rw [hpk9, show w4.toInt.toNat = 6 by omega]; decide
  first | exact Or.inl ⟨by decide, by omega, by rw [← e9]; exact (cmp_eq (by assumption) (by omega)).symm⟩ | exact Or.inr ⟨by decide, fun c => by omega⟩ | exact Or.inr ⟨by decide, fun c => cmp_ne (by assumption) (by omega) (by rw [e9]; exact c.2.symm)⟩
set_option maxHeartbeats 4000000 in
theorem PL_X6_isWord_17_1 {fi : Nat → Nat → Int32} {fl : Nat → Nat → Int64} {vi : Nat → Int32} {vl : Nat → Int64} {r : Int32} {fj : Nat → Nat → Int32} {fm : Nat → Nat → Int64} {vj : Nat → Int32} {vm : Nat → Int64} : RL_X6_isWord_17_1 fi fl vi vl r fj fm vj vm (PS_X6_isWord_17 fi fl vi vl r fj fm vj vm) := by
  unfold RL_X6_isWord_17_1
  intro hp0 hp1 hp2 hp3 hp4 w4 w2 hi hpk9 fik flk vik vlk rk gk_0 c11 c38 z46 ez46 c47 q0; subst q0
  unfold PS_X6_isWord_17
  have e9 : w2 = (121450625394034 : Int64) := by rw [hpk9, show w4.toInt.toNat = 6 by omega]; decide
  first | exact Or.inl ⟨by decide, by omega, by rw [← e9]; exact (cmp_eq (by assumption) (by omega)).symm⟩ | exact Or.inr ⟨by decide, fun c => by omega⟩ | exact Or.inr ⟨by decide, fun c => cmp_ne (by assumption) (by omega) (by rw [e9]; exact c.2.symm)⟩
set_option maxHeartbeats 4000000 in
theorem PL_X6_isWord_17_2 {fi : Nat → Nat → Int32} {fl : Nat → Nat → Int64} {vi : Nat → Int32} {vl : Nat → Int64} {r : Int32} {fj : Nat → Nat → Int32} {fm : Nat → Nat → Int64} {vj : Nat → Int32} {vm : Nat → Int64} : RL_X6_isWord_17_2 fi fl vi vl r fj fm vj vm (PS_X6_isWord_17 fi fl vi vl r fj fm vj vm) := by
  unfold RL_X6_isWord_17_2
  intro hp0 hp1 hp2 hp3 hp4 w4 w2 hi hpk9 fik flk vik vlk rk gk_0 c11 c38 z46 ez46 c47 q0; subst q0
  unfold PS_X6_isWord_17
  have e9 : w2 = (121450625394034 : Int64) := by rw [hpk9, show w4.toInt.toNat = 6 by omega]; decide
  first | exact Or.inl ⟨by decide, by omega, by rw [← e9]; exact (cmp_eq (by assumption) (by omega)).symm⟩ | exact Or.inr ⟨by decide, fun c => by omega⟩ | exact Or.inr ⟨by decide, fun c => cmp_ne (by assumption) (by omega) (by rw [e9]; exact c.2.symm)⟩
theorem P_X6_isWord_17 {fi : Nat → Nat → Int32} {fl : Nat → Nat → Int64} {vi : Nat → Int32} {vl : Nat → Int64} {r : Int32} {fj : Nat → Nat → Int32} {fm : Nat → Nat → Int64} {vj : Nat → Int32} {vm : Nat → Int64} (h : R_X6_isWord_17 fi fl vi vl r fj fm vj vm) : DJ (r.toInt = 1 ∧ (vi 4).toInt = 1 ∧ (vl 0) = (121450625394034 : Int64)) (r.toInt = 0 ∧ ¬ ((vi 4).toInt = 1 ∧ (vl 0) = (121450625394034 : Int64))) := h (PS_X6_isWord_17 fi fl vi vl r fj fm vj vm) PL_X6_isWord_17_0 PL_X6_isWord_17_1 PL_X6_isWord_17_2
def RL_X5_leafAhead_0 (fi : Nat → Nat → Int32) (fl : Nat → Nat → Int64) (vi : Nat → Int32) (vl : Nat → Int64) (r : Int32) (fj : Nat → Nat → Int32) (fm : Nat → Nat → Int64) (vj : Nat → Int32) (vm : Nat → Int64) (Q9 : Prop) : Prop :=
  (0 ≤ (vi 0).toInt ∧ (vi 0).toInt ≤ 40) → (0 ≤ (vi 1).toInt ∧ (vi 1).toInt ≤ 20) → (0 ≤ (vi 3).toInt ∧ (vi 3).toInt ≤ 940) → (0 ≤ (vi 4).toInt ∧ (vi 4).toInt ≤ 940) → (0 ≤ (vi 5).toInt ∧ (vi 5).toInt ≤ 940) → (0 ≤ (vi 7).toInt ∧ (vi 7).toInt ≤ 940) → (0 ≤ (vi 12).toInt ∧ (vi 12).toInt ≤ 940) → ∀ (fik : Nat → Nat → Int32), ∀ (flk : Nat → Nat → Int64), ∀ (vik : Nat → Int32), ∀ (vlk : Nat → Int64), ∀ (rk : Int32), (DJ (rk.toInt = 1 ∧ (vi 6).toInt = 1 ∧ (vl 0) = (418430678629 : Int64)) (rk.toInt = 0 ∧ ¬ ((vi 6).toInt = 1 ∧ (vl 0) = (418430678629 : Int64)))) → (rk.toInt = 1) → (True) → (r = (3 : Int32)) → Q9
def RL_X5_leafAhead_1 (fi : Nat → Nat → Int32) (fl : Nat → Nat → Int64) (vi : Nat → Int32) (vl : Nat → Int64) (r : Int32) (fj : Nat → Nat → Int32) (fm : Nat → Nat → Int64) (vj : Nat → Int32) (vm : Nat → Int64) (Q9 : Prop) : Prop :=
  (0 ≤ (vi 0).toInt ∧ (vi 0).toInt ≤ 40) → (0 ≤ (vi 1).toInt ∧ (vi 1).toInt ≤ 20) → (0 ≤ (vi 3).toInt ∧ (vi 3).toInt ≤ 940) → (0 ≤ (vi 4).toInt ∧ (vi 4).toInt ≤ 940) → (0 ≤ (vi 5).toInt ∧ (vi 5).toInt ≤ 940) → (0 ≤ (vi 7).toInt ∧ (vi 7).toInt ≤ 940) → (0 ≤ (vi 12).toInt ∧ (vi 12).toInt ≤ 940) → ∀ (fik : Nat → Nat → Int32), ∀ (flk : Nat → Nat → Int64), ∀ (vik : Nat → Int32), ∀ (vlk : Nat → Int64), ∀ (rk : Int32), (DJ (rk.toInt = 1 ∧ (vi 6).toInt = 1 ∧ (vl 0) = (418430678629 : Int64)) (rk.toInt = 0 ∧ ¬ ((vi 6).toInt = 1 ∧ (vl 0) = (418430678629 : Int64)))) → (rk.toInt = 0) → (True) → ∀ (fik_1 : Nat → Nat → Int32), ∀ (flk_1 : Nat → Nat → Int64), ∀ (vik_1 : Nat → Int32), ∀ (vlk_1 : Nat → Int64), ∀ (rk_1 : Int32), (DJ (rk_1.toInt = 1 ∧ (vi 6).toInt = 1 ∧ (vl 0) = (512735409267 : Int64)) (rk_1.toInt = 0 ∧ ¬ ((vi 6).toInt = 1 ∧ (vl 0) = (512735409267 : Int64)))) → (rk_1.toInt = 1) → (True) → (r = (4 : Int32)) → Q9
