theorem P_J0_charAt_5068e_29 {fi : Nat → Nat → Int32} {fl : Nat → Nat → Int64} {vi : Nat → Int32} {vl : Nat → Int64} {r : Int32} {fj : Nat → Nat → Int32} {fm : Nat → Nat → Int64} {vj : Nat → Int32} {vm : Nat → Int64} (h : R_J0_charAt_5068e_29 fi fl vi vl r fj fm vj vm) : r = (sBy.getD 0 []).getD ((vi 0).toInt).toNat 0 := h (PS_J0_charAt_5068e_29 fi fl vi vl r fj fm vj vm) PL_J0_charAt_5068e_29_0
def RL_J1_charAt_3b067_30_0 (fi : Nat → Nat → Int32) (fl : Nat → Nat → Int64) (vi : Nat → Int32) (vl : Nat → Int64) (r : Int32) (fj : Nat → Nat → Int32) (fm : Nat → Nat → Int64) (vj : Nat → Int32) (vm : Nat → Int64) (Q9 : Prop) : Prop :=
  (0 ≤ (vi 0).toInt ∧ (vi 0).toInt ≤ 46) → ∀ (fik : Nat → Nat → Int32), ∀ (flk : Nat → Nat → Int64), ∀ (vik : Nat → Int32), ∀ (vlk : Nat → Int64), ∀ (uk : Int32), ∀ (z8 : Int32), (z8 = (sBy.getD 1 []).getD (vi 0).toNatClampNeg 0) → ∀ (z12 : Int32), (z12 = z8 &&& (255 : Int32)) → ∀ (z13 : Int32), (z13 = (z12.toUInt32 % 65536).toInt32) → (r = z13) → Q9
def R_J1_charAt_3b067_30 (fi : Nat → Nat → Int32) (fl : Nat → Nat → Int64) (vi : Nat → Int32) (vl : Nat → Int64) (r : Int32) (fj : Nat → Nat → Int32) (fm : Nat → Nat → Int64) (vj : Nat → Int32) (vm : Nat → Int64) : Prop :=
  ∀ Q9 : Prop, RL_J1_charAt_3b067_30_0 fi fl vi vl r fj fm vj vm Q9 → Q9
def PS_J1_charAt_3b067_30 (fi : Nat → Nat → Int32) (fl : Nat → Nat → Int64) (vi : Nat → Int32) (vl : Nat → Int64) (r : Int32) (fj : Nat → Nat → Int32) (fm : Nat → Nat → Int64) (vj : Nat → Int32) (vm : Nat → Int64) : Prop :=
  r = (sBy.getD 1 []).getD ((vi 0).toInt).toNat 0
set_option maxHeartbeats 4000000 in
theorem PL_J1_charAt_3b067_30_0 {fi : Nat → Nat → Int32} {fl : Nat → Nat → Int64} {vi : Nat → Int32} {vl : Nat → Int64} {r : Int32} {fj : Nat → Nat → Int32} {fm : Nat → Nat → Int64} {vj : Nat → Int32} {vm : Nat → Int64} : RL_J1_charAt_3b067_30_0 fi fl vi vl r fj fm vj vm (PS_J1_charAt_3b067_30 fi fl vi vl r fj fm vj vm) := by
  unfold RL_J1_charAt_3b067_30_0
  intro hp0 fik flk vik vlk uk z8 ez8 z12 ez12 z13 ez13 q0; subst q0
  unfold PS_J1_charAt_3b067_30
  first | exact by assumption | exact char_of (by assumption) (by assumption) (by assumption)
theorem P_J1_charAt_3b067_30 {fi : Nat → Nat → Int32} {fl : Nat → Nat → Int64} {vi : Nat → Int32} {vl : Nat → Int64} {r : Int32} {fj : Nat → Nat → Int32} {fm : Nat → Nat → Int64} {vj : Nat → Int32} {vm : Nat → Int64} (h : R_J1_charAt_3b067_30 fi fl vi vl r fj fm vj vm) : r = (sBy.getD 1 []).getD ((vi 0).toInt).toNat 0 := h (PS_J1_charAt_3b067_30 fi fl vi vl r fj fm vj vm) PL_J1_charAt_3b067_30_0
def RL_J0_charAt_5068e_30_0 (fi : Nat → Nat → Int32) (fl : Nat → Nat → Int64) (vi : Nat → Int32) (vl : Nat → Int64) (r : Int32) (fj : Nat → Nat → Int32) (fm : Nat → Nat → Int64) (vj : Nat → Int32) (vm : Nat → Int64) (Q9 : Prop) : Prop :=
  (0 ≤ (vi 0).toInt ∧ (vi 0).toInt ≤ 46) → ∀ (fik : Nat → Nat → Int32), ∀ (flk : Nat → Nat → Int64), ∀ (vik : Nat → Int32), ∀ (vlk : Nat → Int64), ∀ (rk : Int32), (rk = 1) → ∀ (fik_1 : Nat → Nat → Int32), ∀ (flk_1 : Nat → Nat → Int64), ∀ (vik_1 : Nat → Int32), ∀ (vlk_1 : Nat → Int64), ∀ (rk_1 : Int32), (rk_1 = (sBy.getD 1 []).getD ((vi 0).toInt).toNat 0) → (r = rk_1) → Q9
def R_J0_charAt_5068e_30 (fi : Nat → Nat → Int32) (fl : Nat → Nat → Int64) (vi : Nat → Int32) (vl : Nat → Int64) (r : Int32) (fj : Nat → Nat → Int32) (fm : Nat → Nat → Int64) (vj : Nat → Int32) (vm : Nat → Int64) : Prop :=
  ∀ Q9 : Prop, RL_J0_charAt_5068e_30_0 fi fl vi vl r fj fm vj vm Q9 → Q9
def PS_J0_charAt_5068e_30 (fi : Nat → Nat → Int32) (fl : Nat → Nat → Int64) (vi : Nat → Int32) (vl : Nat → Int64) (r : Int32) (fj : Nat → Nat → Int32) (fm : Nat → Nat → Int64) (vj : Nat → Int32) (vm : Nat → Int64) : Prop :=
  r = (sBy.getD 1 []).getD ((vi 0).toInt).toNat 0
set_option maxHeartbeats 4000000 in
theorem PL_J0_charAt_5068e_30_0 {fi : Nat → Nat → Int32} {fl : Nat → Nat → Int64} {vi : Nat → Int32} {vl : Nat → Int64} {r : Int32} {fj : Nat → Nat → Int32} {fm : Nat → Nat → Int64} {vj : Nat → Int32} {vm : Nat → Int64} : RL_J0_charAt_5068e_30_0 fi fl vi vl r fj fm vj vm (PS_J0_charAt_5068e_30 fi fl vi vl r fj fm vj vm) := by
  unfold RL_J0_charAt_5068e_30_0
  intro hp0 fik flk vik vlk rk gk_0 fik_1 flk_1 vik_1 vlk_1 rk_1 gk_1_1 q0; subst q0
  unfold PS_J0_charAt_5068e_30
  first | exact by assumption | exact char_of (by assumption) (by assumption) (by assumption)
theorem P_J0_charAt_5068e_30 {fi : Nat → Nat → Int32} {fl : Nat → Nat → Int64} {vi : Nat → Int32} {vl : Nat → Int64} {r : Int32} {fj : Nat → Nat → Int32} {fm : Nat → Nat → Int64} {vj : Nat → Int32} {vm : Nat → Int64} (h : R_J0_charAt_5068e_30 fi fl vi vl r fj fm vj vm) : r = (sBy.getD 1 []).getD ((vi 0).toInt).toNat 0 := h (PS_J0_charAt_5068e_30 fi fl vi vl r fj fm vj vm) PL_J0_charAt_5068e_30_0
def RL_J1_charAt_3b067_31_0 (fi : Nat → Nat → Int32) (fl : Nat → Nat → Int64) (vi : Nat → Int32) (vl : Nat → Int64) (r : Int32) (fj : Nat → Nat → Int32) (fm : Nat → Nat → Int64) (vj : Nat → Int32) (vm : Nat → Int64) (Q9 : Prop) : Prop :=
  (0 ≤ (vi 0).toInt ∧ (vi 0).toInt ≤ 57) → ∀ (fik : Nat → Nat → Int32), ∀ (flk : Nat → Nat → Int64), ∀ (vik : Nat → Int32), ∀ (vlk : Nat → Int64), ∀ (uk : Int32), ∀ (z8 : Int32), (z8 = (sBy.getD 2 []).getD (vi 0).toNatClampNeg 0) → ∀ (z12 : Int32), (z12 = z8 &&& (255 : Int32)) → ∀ (z13 : Int32), (z13 = (z12.toUInt32 % 65536).toInt32) → (r = z13) → Q9
def R_J1_charAt_3b067_31 (fi : Nat → Nat → Int32) (fl : Nat → Nat → Int64) (vi : Nat → Int32) (vl : Nat → Int64) (r : Int32) (fj : Nat → Nat → Int32) (fm : Nat → Nat → Int64) (vj : Nat → Int32) (vm : Nat → Int64) : Prop :=
  ∀ Q9 : Prop, RL_J1_charAt_3b067_31_0 fi fl vi vl r fj fm vj vm Q9 → Q9
def PS_J1_charAt_3b067_31 (fi : Nat → Nat → Int32) (fl : Nat → Nat → Int64) (vi : Nat → Int32) (vl : Nat → Int64) (r : Int32) (fj : Nat → Nat → Int32) (fm : Nat → Nat → Int64) (vj : Nat → Int32) (vm : Nat → Int64) : Prop :=
  r = (sBy.getD 2 []).getD ((vi 0).toInt).toNat 0
set_option maxHeartbeats 4000000 in
theorem PL_J1_charAt_3b067_31_0 {fi : Nat → Nat → Int32} {fl : Nat → Nat → Int64} {vi : Nat → Int32} {vl : Nat → Int64} {r : Int32} {fj : Nat → Nat → Int32} {fm : Nat → Nat → Int64} {vj : Nat → Int32} {vm : Nat → Int64} : RL_J1_charAt_3b067_31_0 fi fl vi vl r fj fm vj vm (PS_J1_charAt_3b067_31 fi fl vi vl r fj fm vj vm) := by
  unfold RL_J1_charAt_3b067_31_0
  intro hp0 fik flk vik vlk uk z8 ez8 z12 ez12 z13 ez13 q0; subst q0
  unfold PS_J1_charAt_3b067_31
  first | exact by assumption | exact char_of (by assumption) (by assumption) (by assumption)
theorem P_J1_charAt_3b067_31 {fi : Nat → Nat → Int32} {fl : Nat → Nat → Int64} {vi : Nat → Int32} {vl : Nat → Int64} {r : Int32} {fj : Nat → Nat → Int32} {fm : Nat → Nat → Int64} {vj : Nat → Int32} {vm : Nat → Int64} (h : R_J1_charAt_3b067_31 fi fl vi vl r fj fm vj vm) : r = (sBy.getD 2 []).getD ((vi 0).toInt).toNat 0 := h (PS_J1_charAt_3b067_31 fi fl vi vl r fj fm vj vm) PL_J1_charAt_3b067_31_0
def RL_J0_charAt_5068e_31_0 (fi : Nat → Nat → Int32) (fl : Nat → Nat → Int64) (vi : Nat → Int32) (vl : Nat → Int64) (r : Int32) (fj : Nat → Nat → Int32) (fm : Nat → Nat → Int64) (vj : Nat → Int32) (vm : Nat → Int64) (Q9 : Prop) : Prop :=
  (0 ≤ (vi 0).toInt ∧ (vi 0).toInt ≤ 57) → ∀ (fik : Nat → Nat → Int32), ∀ (flk : Nat → Nat → Int64), ∀ (vik : Nat → Int32), ∀ (vlk : Nat → Int64), ∀ (rk : Int32), (rk = 1) → ∀ (fik_1 : Nat → Nat → Int32), ∀ (flk_1 : Nat → Nat → Int64), ∀ (vik_1 : Nat → Int32), ∀ (vlk_1 : Nat → Int64), ∀ (rk_1 : Int32), (rk_1 = (sBy.getD 2 []).getD ((vi 0).toInt).toNat 0) → (r = rk_1) → Q9
def R_J0_charAt_5068e_31 (fi : Nat → Nat → Int32) (fl : Nat → Nat → Int64) (vi : Nat → Int32) (vl : Nat → Int64) (r : Int32) (fj : Nat → Nat → Int32) (fm : Nat → Nat → Int64) (vj : Nat → Int32) (vm : Nat → Int64) : Prop :=
  ∀ Q9 : Prop, RL_J0_charAt_5068e_31_0 fi fl vi vl r fj fm vj vm Q9 → Q9
def PS_J0_charAt_5068e_31 (fi : Nat → Nat → Int32) (fl : Nat → Nat → Int64) (vi : Nat → Int32) (vl : Nat → Int64) (r : Int32) (fj : Nat → Nat → Int32) (fm : Nat → Nat → Int64) (vj : Nat → Int32) (vm : Nat → Int64) : Prop :=
  r = (sBy.getD 2 []).getD ((vi 0).toInt).toNat 0
set_option maxHeartbeats 4000000 in
theorem PL_J0_charAt_5068e_31_0 {fi : Nat → Nat → Int32} {fl : Nat → Nat → Int64} {vi : Nat → Int32} {vl : Nat → Int64} {r : Int32} {fj : Nat → Nat → Int32} {fm : Nat → Nat → Int64} {vj : Nat → Int32} {vm : Nat → Int64} : RL_J0_charAt_5068e_31_0 fi fl vi vl r fj fm vj vm (PS_J0_charAt_5068e_31 fi fl vi vl r fj fm vj vm) := by
  unfold RL_J0_charAt_5068e_31_0
  intro hp0 fik flk vik vlk rk gk_0 fik_1 flk_1 vik_1 vlk_1 rk_1 gk_1_1 q0; subst q0
  unfold PS_J0_charAt_5068e_31
  first | exact by assumption | exact char_of (by assumption) (by assumption) (by assumption)
theorem P_J0_charAt_5068e_31 {fi : Nat → Nat → Int32} {fl : Nat → Nat → Int64} {vi : Nat → Int32} {vl : Nat → Int64} {r : Int32} {fj : Nat → Nat → Int32} {fm : Nat → Nat → Int64} {vj : Nat → Int32} {vm : Nat → Int64} (h : R_J0_charAt_5068e_31 fi fl vi vl r fj fm vj vm) : r = (sBy.getD 2 []).getD ((vi 0).toInt).toNat 0 := h (PS_J0_charAt_5068e_31 fi fl vi vl r fj fm vj vm) PL_J0_charAt_5068e_31_0
