def RL_J0_charAt_5068e_31_0 (fi : Nat → Nat → Int32) (fl : Nat → Nat → Int64) (vi : Nat → Int32) (vl : Nat → Int64) (r : Int32) (fj : Nat → Nat → Int32) (fm : Nat → Nat → Int64) (vj : Nat → Int32) (vm : Nat → Int64) (Q9 : Prop) : Prop :=
  (0 ≤ (vi 0).toInt ∧ (vi 0).toInt ≤ 57) → ∀ (fik : Nat → Nat → Int32), ∀ (flk : Nat → Nat → Int64), ∀ (vik : Nat → Int32), ∀ (vlk : Nat → Int64), ∀ (rk : Int32), (rk = 1) → ∀ (fik_1 : Nat → Nat → Int32), ∀ (flk_1 : Nat → Nat → Int64), ∀ (vik_1 : Nat → Int32), ∀ (vlk_1 : Nat → Int64), ∀ (rk_1 : Int32), (rk_1 = (sBy.getD 2 []).getD ((vi 0).toInt).toNat 0) → (r = rk_1) → Q9
def R_J0_charAt_5068e_31 (fi : Nat → Nat → Int32) (fl : Nat → Nat → Int64) (vi : Nat → Int32) (vl : Nat → Int64) (r : Int32) (fj : Nat → Nat → Int32) (fm : Nat → Nat → Int64) (vj : Nat → Int32) (vm : Nat → Int64) : Prop :=
  ∀ Q9 : Prop, RL_J0_charAt_5068e_31_0 fi fl vi vl r fj fm vj vm Q9 → Q9
def PS_J0_charAt_5068e_31 (fi : Nat → Nat → Int32) (fl : Nat → Nat → Int64) (vi : Nat → Int32) (vl : Nat → Int64) (r : Int32) (fj : Nat → Nat → Int32) (fm : Nat → Nat → Int64) (vj : Nat → Int32) (vm : Nat → Int64) : Prop :=
  r = (sBy.getD 2 []).getD ((vi 0).toInt).toNat 0
set_option maxHeartbeats 4000000 in
theorem PL_J0_charAt_5068e_31_0 {fi : Nat → Nat → Int32} {fl : Nat → Nat → Int64} {vi : Nat → Int32} {vl : Nat → Int64} {r : Int32} {fj : Nat → Nat → Int32} {fm : Nat → Nat → Int64} {vj : Nat → Int32} {vm : Nat → Int64} : RL_J0_charAt_5068e_31_0 fi fl vi vl r fj fm vj vm (PS_J0_charAt_5068e_31 fi fl vi vl r fj fm vj vm) := by
  unfold RL_J0_charAt_5068e_31_0
  intro hp0 fik flk vik vlk rk gk_0 fik_1 flk_1 vik_1 vlk_1 rk_1 gk_1_1 q0; subst q0
  unfold PS_J0_charAt_5068e_31
  first | exact by assumption | exact char_of (by assumption) (by assumption) (by assumption)
theorem P_J0_charAt_5068e_31 {fi : Nat → Nat → Int32} {fl : Nat → Nat → Int64} {vi : Nat → Int32} {vl : Nat → Int64} {r : Int32} {fj : Nat → Nat → Int32} {fm : Nat → Nat → Int64} {vj : Nat → Int32} {vm : Nat → Int64} (h : R_J0_charAt_5068e_31 fi fl vi vl r fj fm vj vm) : r = (sBy.getD 2 []).getD ((vi 0).toInt).toNat 0 := h (PS_J0_charAt_5068e_31 fi fl vi vl r fj fm vj vm) PL_J0_charAt_5068e_31_0
