def PS_X7_addSoul (fi : Nat → Nat → Int32) (fl : Nat → Nat → Int64) (vi : Nat → Int32) (vl : Nat → Int64) (r : Int32) (fj : Nat → Nat → Int32) (fm : Nat → Nat → Int64) (vj : Nat → Int32) (vm : Nat → Int64) : Prop :=
  (vi 2).toInt < 9 → (fm 0) = vp_updL (fl 0) ((vi 2)).toNatClampNeg (vl 0) ∧ (fj 1) = upd (fi 1) ((vi 2)).toNatClampNeg (-1) ∧ (fj 2) = upd (fi 2) ((vi 2)).toNatClampNeg (-1) ∧ (fj 3) = upd (fi 3) ((vi 2)).toNatClampNeg (-1) ∧ (vj 0).toInt = (vi 2).toInt + 1 ∧ ∀ j : Nat, (fj 4) j = if 9 * (vi 2).toInt ≤ (j : Int) ∧ (j : Int) < 9 * (vi 2).toInt + 9 then 0 else (fi 4) j
set_option maxHeartbeats 4000000 in
theorem PL_X7_addSoul_0 {fi : Nat → Nat → Int32} {fl : Nat → Nat → Int64} {vi : Nat → Int32} {vl : Nat → Int64} {r : Int32} {fj : Nat → Nat → Int32} {fm : Nat → Nat → Int64} {vj : Nat → Int32} {vm : Nat → Int64} : RL_X7_addSoul_0 fi fl vi vl r fj fm vj vm (PS_X7_addSoul fi fl vi vl r fj fm vj vm) := by
  unfold RL_X7_addSoul_0
  intro hp0 hp1 c6 q0 q1 q2 q3 q4 q5 q6
  unfold PS_X7_addSoul
  intro h9
  (try simp only [q0, q1, q2, q3, q4, q5, q6]); have k9_0 : (0 : Int32).toInt = 0 := (by decide); have k9_1 : (1 : Int32).toInt = 1 := (by decide)
  first | (exfalso; omega) | (have e9 : w4.toInt = 9 := (by omega); rw [e9] at hwz9; exact ⟨by assumption, by assumption, by assumption, by assumption, by omega, hwz9⟩)
set_option maxHeartbeats 4000000 in
theorem PL_X7_addSoul_1 {fi : Nat → Nat → Int32} {fl : Nat → Nat → Int64} {vi : Nat → Int32} {vl : Nat → Int64} {r : Int32} {fj : Nat → Nat → Int32} {fm : Nat → Nat → Int64} {vj : Nat → Int32} {vm : Nat → Int64} : RL_X7_addSoul_1 fi fl vi vl r fj fm vj vm (PS_X7_addSoul fi fl vi vl r fj fm vj vm) := by
  unfold RL_X7_addSoul_1
  intro hp0 hp1 c6 f18 ef18 f28 ef28 f38 ef38 f48 ef48 f58 ef58 w4 wf hi hwz9 c66 z97 ez97 tz97 q0 q1 q2 q3 q4 q5 q6
  unfold PS_X7_addSoul
  intro h9
  (try simp only [q0, q1, q2, q3, q4, q5, q6]); have k9_0 : (0 : Int32).toInt = 0 := (by decide); have k9_1 : (1 : Int32).toInt = 1 := (by decide)
  first | (exfalso; omega) | (have e9 : w4.toInt = 9 := (by omega); rw [e9] at hwz9; exact ⟨by assumption, by assumption, by assumption, by assumption, by omega, hwz9⟩)
theorem P_X7_addSoul {fi : Nat → Nat → Int32} {fl : Nat → Nat → Int64} {vi : Nat → Int32} {vl : Nat → Int64} {r : Int32} {fj : Nat → Nat → Int32} {fm : Nat → Nat → Int64} {vj : Nat → Int32} {vm : Nat → Int64} (h : R_X7_addSoul fi fl vi vl r fj fm vj vm) : (vi 2).toInt < 9 → (fm 0) = vp_updL (fl 0) ((vi 2)).toNatClampNeg (vl 0) ∧ (fj 1) = upd (fi 1) ((vi 2)).toNatClampNeg (-1) ∧ (fj 2) = upd (fi 2) ((vi 2)).toNatClampNeg (-1) ∧ (fj 3) = upd (fi 3) ((vi 2)).toNatClampNeg (-1) ∧ (vj 0).toInt = (vi 2).toInt + 1 ∧ ∀ j : Nat, (fj 4) j = if 9 * (vi 2).toInt ≤ (j : Int) ∧ (j : Int) < 9 * (vi 2).toInt + 9 then 0 else (fi 4) j := h (PS_X7_addSoul fi fl vi vl r fj fm vj vm) PL_X7_addSoul_0 PL_X7_addSoul_1
def RL_J1_charAt_3b067_25_0 (fi : Nat → Nat → Int32) (fl : Nat → Nat → Int64) (vi : Nat → Int32) (vl : Nat → Int64) (r : Int32) (fj : Nat → Nat → Int32) (fm : Nat → Nat → Int64) (vj : Nat → Int32) (vm : Nat → Int64) (Q9 : Prop) : Prop :=
  (0 ≤ (vi 0).toInt ∧ (vi 0).toInt ≤ 5) → ∀ (fik : Nat → Nat → Int32), ∀ (flk : Nat → Nat → Int64), ∀ (vik : Nat → Int32), ∀ (vlk : Nat → Int64), ∀ (uk : Int32), ∀ (z8 : Int32), (z8 = (sBy.getD 7 []).getD (vi 0).toNatClampNeg 0) → ∀ (z12 : Int32), (z12 = z8 &&& (255 : Int32)) → ∀ (z13 : Int32), (z13 = (z12.toUInt32 % 65536).toInt32) → (r = z13) → Q9
def R_J1_charAt_3b067_25 (fi : Nat → Nat → Int32) (fl : Nat → Nat → Int64) (vi : Nat → Int32) (vl : Nat → Int64) (r : Int32) (fj : Nat → Nat → Int32) (fm : Nat → Nat → Int64) (vj : Nat → Int32) (vm : Nat → Int64) : Prop :=
  ∀ Q9 : Prop, RL_J1_charAt_3b067_25_0 fi fl vi vl r fj fm vj vm Q9 → Q9
def PS_J1_charAt_3b067_25 (fi : Nat → Nat → Int32) (fl : Nat → Nat → Int64) (vi : Nat → Int32) (vl : Nat → Int64) (r : Int32) (fj : Nat → Nat → Int32) (fm : Nat → Nat → Int64) (vj : Nat → Int32) (vm : Nat → Int64) : Prop :=
  r = (sBy.getD 7 []).getD ((vi 0).toInt).toNat 0
set_option maxHeartbeats 4000000 in
theorem PL_J1_charAt_3b067_25_0 {fi : Nat → Nat → Int32} {fl : Nat → Nat → Int64} {vi : Nat → Int32} {vl : Nat → Int64} {r : Int32} {fj : Nat → Nat → Int32} {fm : Nat → Nat → Int64} {vj : Nat → Int32} {vm : Nat → Int64} : RL_J1_charAt_3b067_25_0 fi fl vi vl r fj fm vj vm (PS_J1_charAt_3b067_25 fi fl vi vl r fj fm vj vm) := by
  unfold RL_J1_charAt_3b067_25_0
  intro hp0 fik flk vik vlk uk z8 ez8 z12 ez12 z13 ez13 q0; subst q0
  unfold PS_J1_charAt_3b067_25
  first | exact by assumption | exact char_of (by assumption) (by assumption) (by assumption)
theorem P_J1_charAt_3b067_25 {fi : Nat → Nat → Int32} {fl : Nat → Nat → Int64} {vi : Nat → Int32} {vl : Nat → Int64} {r : Int32} {fj : Nat → Nat → Int32} {fm : Nat → Nat → Int64} {vj : Nat → Int32} {vm : Nat → Int64} (h : R_J1_charAt_3b067_25 fi fl vi vl r fj fm vj vm) : r = (sBy.getD 7 []).getD ((vi 0).toInt).toNat 0 := h (PS_J1_charAt_3b067_25 fi fl vi vl r fj fm vj vm) PL_J1_charAt_3b067_25_0
def RL_J0_charAt_5068e_25_0 (fi : Nat → Nat → Int32) (fl : Nat → Nat → Int64) (vi : Nat → Int32) (vl : Nat → Int64) (r : Int32) (fj : Nat → Nat → Int32) (fm : Nat → Nat → Int64) (vj : Nat → Int32) (vm : Nat → Int64) (Q9 : Prop) : Prop :=
  (0 ≤ (vi 0).toInt ∧ (vi 0).toInt ≤ 5) → ∀ (fik : Nat → Nat → Int32), ∀ (flk : Nat → Nat → Int64), ∀ (vik : Nat → Int32), ∀ (vlk : Nat → Int64), ∀ (rk : Int32), (rk = 1) → ∀ (fik_1 : Nat → Nat → Int32), ∀ (flk_1 : Nat → Nat → Int64), ∀ (vik_1 : Nat → Int32), ∀ (vlk_1 : Nat → Int64), ∀ (rk_1 : Int32), (rk_1 = (sBy.getD 7 []).getD ((vi 0).toInt).toNat 0) → (r = rk_1) → Q9
def R_J0_charAt_5068e_25 (fi : Nat → Nat → Int32) (fl : Nat → Nat → Int64) (vi : Nat → Int32) (vl : Nat → Int64) (r : Int32) (fj : Nat → Nat → Int32) (fm : Nat → Nat → Int64) (vj : Nat → Int32) (vm : Nat → Int64) : Prop :=
  ∀ Q9 : Prop, RL_J0_charAt_5068e_25_0 fi fl vi vl r fj fm vj vm Q9 → Q9
def PS_J0_charAt_5068e_25 (fi : Nat → Nat → Int32) (fl : Nat → Nat → Int64) (vi : Nat → Int32) (vl : Nat → Int64) (r : Int32) (fj : Nat → Nat → Int32) (fm : Nat → Nat → Int64) (vj : Nat → Int32) (vm : Nat → Int64) : Prop :=
  r = (sBy.getD 7 []).getD ((vi 0).toInt).toNat 0
set_option maxHeartbeats 4000000 in
theorem PL_J0_charAt_5068e_25_0 {fi : Nat → Nat → Int32} {fl : Nat → Nat → Int64} {vi : Nat → Int32} {vl : Nat → Int64} {r : Int32} {fj : Nat → Nat → Int32} {fm : Nat → Nat → Int64} {vj : Nat → Int32} {vm : Nat → Int64} : RL_J0_charAt_5068e_25_0 fi fl vi vl r fj fm vj vm (PS_J0_charAt_5068e_25 fi fl vi vl r fj fm vj vm) := by
  unfold RL_J0_charAt_5068e_25_0
  intro hp0 fik flk vik vlk rk gk_0 fik_1 flk_1 vik_1 vlk_1 rk_1 gk_1_1 q0; subst q0
  unfold PS_J0_charAt_5068e_25
  first | exact by assumption | exact char_of (by assumption) (by assumption) (by assumption)
theorem P_J0_charAt_5068e_25 {fi : Nat → Nat → Int32} {fl : Nat → Nat → Int64} {vi : Nat → Int32} {vl : Nat → Int64} {r : Int32} {fj : Nat → Nat → Int32} {fm : Nat → Nat → Int64} {vj : Nat → Int32} {vm : Nat → Int64} (h : R_J0_charAt_5068e_25 fi fl vi vl r fj fm vj vm) : r = (sBy.getD 7 []).getD ((vi 0).toInt).toNat 0 := h (PS_J0_charAt_5068e_25 fi fl vi vl r fj fm vj vm) PL_J0_charAt_5068e_25_0
def RL_X6_isWord_25_0 (fi : Nat → Nat → Int32) (fl : Nat → Nat → Int64) (vi : Nat → Int32) (vl : Nat → Int64) (r : Int32) (fj : Nat → Nat → Int32) (fm : Nat → Nat → Int64) (vj : Nat → Int32) (vm : Nat → Int64) (Q9 : Prop) : Prop :=
  (0 ≤ (vi 1).toInt ∧ (vi 1).toInt ≤ 940) → (0 ≤ (vi 2).toInt ∧ (vi 2).toInt ≤ 940) → (0 ≤ (vi 3).toInt ∧ (vi 3).toInt ≤ 940) → (0 ≤ (vi 5).toInt ∧ (vi 5).toInt ≤ 940) → (0 ≤ (vi 10).toInt ∧ (vi 10).toInt ≤ 940) → ∀ (w4 : Int32), ∀ (w2 : Int64), (0 ≤ w4.toInt ∧ w4.toInt ≤ 6) → (w2 = pkw (sBy.getD 7 []) (w4.toInt).toNat) → ∀ (fik : Nat → Nat → Int32), ∀ (flk : Nat → Nat → Int64), ∀ (vik : Nat → Int32), ∀ (vlk : Nat → Int64), ∀ (rk : Int32), (rk = 6) → (6 ≤ w4.toInt) → (¬ (vi 4).toInt = 1) → (r = (0 : Int32)) → Q9
def RL_X6_isWord_25_1 (fi : Nat → Nat → Int32) (fl : Nat → Nat → Int64) (vi : Nat → Int32) (vl : Nat → Int64) (r : Int32) (fj : Nat → Nat → Int32) (fm : Nat → Nat → Int64) (vj : Nat → Int32) (vm : Nat → Int64) (Q9 : Prop) : Prop :=
  (0 ≤ (vi 1).toInt ∧ (vi 1).toInt ≤ 940) → (0 ≤ (vi 2).toInt ∧ (vi 2).toInt ≤ 940) → (0 ≤ (vi 3).toInt ∧ (vi 3).toInt ≤ 940) → (0 ≤ (vi 5).toInt ∧ (vi 5).toInt ≤ 940) → (0 ≤ (vi 10).toInt ∧ (vi 10).toInt ≤ 940) → ∀ (w4 : Int32), ∀ (w2 : Int64), (0 ≤ w4.toInt ∧ w4.toInt ≤ 6) → (w2 = pkw (sBy.getD 7 []) (w4.toInt).toNat) → ∀ (fik : Nat → Nat → Int32), ∀ (flk : Nat → Nat → Int64), ∀ (vik : Nat → Int32), ∀ (vlk : Nat → Int64), ∀ (rk : Int32), (rk = 6) → (6 ≤ w4.toInt) → ((vi 4).toInt = 1) → ∀ (z46 : Int32), (z46 = lg_cmp w2 (vl 0)) → (¬ z46.toInt = 0) → (r = (0 : Int32)) → Q9
def RL_X6_isWord_25_2 (fi : Nat → Nat → Int32) (fl : Nat → Nat → Int64) (vi : Nat → Int32) (vl : Nat → Int64) (r : Int32) (fj : Nat → Nat → Int32) (fm : Nat → Nat → Int64) (vj : Nat → Int32) (vm : Nat → Int64) (Q9 : Prop) : Prop :=
  (0 ≤ (vi 1).toInt ∧ (vi 1).toInt ≤ 940) → (0 ≤ (vi 2).toInt ∧ (vi 2).toInt ≤ 940) → (0 ≤ (vi 3).toInt ∧ (vi 3).toInt ≤ 940) → (0 ≤ (vi 5).toInt ∧ (vi 5).toInt ≤ 940) → (0 ≤ (vi 10).toInt ∧ (vi 10).toInt ≤ 940) → ∀ (w4 : Int32), ∀ (w2 : Int64), (0 ≤ w4.toInt ∧ w4.toInt ≤ 6) → (w2 = pkw (sBy.getD 7 []) (w4.toInt).toNat) → ∀ (fik : Nat → Nat → Int32), ∀ (flk : Nat → Nat → Int64), ∀ (vik : Nat → Int32), ∀ (vlk : Nat → Int64), ∀ (rk : Int32), (rk = 6) → (6 ≤ w4.toInt) → ((vi 4).toInt = 1) → ∀ (z46 : Int32), (z46 = lg_cmp w2 (vl 0)) → (z46.toInt = 0) → (r = (1 : Int32)) → Q9
def R_X6_isWord_25 (fi : Nat → Nat → Int32) (fl : Nat → Nat → Int64) (vi : Nat → Int32) (vl : Nat → Int64) (r : Int32) (fj : Nat → Nat → Int32) (fm : Nat → Nat → Int64) (vj : Nat → Int32) (vm : Nat → Int64) : Prop :=
  ∀ Q9 : Prop, RL_X6_isWord_25_0 fi fl vi vl r fj fm vj vm Q9 → RL_X6_isWord_25_1 fi fl vi vl r fj fm vj vm Q9 → RL_X6_isWord_25_2 fi fl vi vl r fj fm vj vm Q9 → Q9
def PS_X6_isWord_25 (fi : Nat → Nat → Int32) (fl : Nat → Nat → Int64) (vi : Nat → Int32) (vl : Nat → Int64) (r : Int32) (fj : Nat → Nat → Int32) (fm : Nat → Nat → Int64) (vj : Nat → Int32) (vm : Nat → Int64) : Prop :=
  DJ (r.toInt = 1 ∧ (vi 4).toInt = 1 ∧ (vl 0) = (109270082020708 : Int64)) (r.toInt = 0 ∧ ¬ ((vi 4).toInt = 1 ∧ (vl 0) = (109270082020708 : Int64)))
set_option maxHeartbeats 4000000 in
theorem PL_X6_isWord_25_0 {fi : Nat → Nat → Int32} {fl : Nat → Nat → Int64} {vi : Nat → Int32} {vl : Nat → Int64} {r : Int32} {fj : Nat → Nat → Int32} {fm : Nat → Nat → Int64} {vj : Nat → Int32} {vm : Nat → Int64} : RL_X6_isWord_25_0 fi fl vi vl r fj fm vj vm (PS_X6_isWord_25 fi fl vi vl r fj fm vj vm) := by
  unfold RL_X6_isWord_25_0
  intro hp0 hp1 hp2 hp3 hp4 w4 w2 hi hpk9 fik flk vik vlk rk gk_0 c11 c38 q0; subst q0
  unfold PS_X6_isWord_25
  have e9 : w2 = (109270082020708 : Int64) := by rw [hpk9, show w4.toInt.toNat = 6 by omega]; decide
  first | exact Or.inl ⟨by decide, by omega, by rw [← e9]; exact (cmp_eq (by assumption) (by omega)).symm⟩ | exact Or.inr ⟨by decide, fun c => by omega⟩ | exact Or.inr ⟨by decide, fun c => cmp_ne (by assumption) (by omega) (by rw [e9]; exact c.2.symm)⟩
set_option maxHeartbeats 4000000 in
theorem PL_X6_isWord_25_1 {fi : Nat → Nat → Int32} {fl : Nat → Nat → Int64} {vi : Nat → Int32} {vl : Nat → Int64} {r : Int32} {fj : Nat → Nat → Int32} {fm : Nat → Nat → Int64} {vj : Nat → Int32} {vm : Nat → Int64} : RL_X6_isWord_25_1 fi fl vi vl r fj fm vj vm (PS_X6_isWord_25 fi fl vi vl r fj fm vj vm) := by
  unfold RL_X6_isWord_25_1
  intro hp0 hp1 hp2 hp3 hp4 w4 w2 hi hpk9 fik flk vik vlk rk gk_0 c11 c38 z46 ez46 c47 q0; subst q0
  unfold PS_X6_isWord_25
  have e9 : w2 = (109270082020708 : Int64) := by rw [hpk9, show w4.toInt.toNat = 6 by omega]; decide
  first | exact Or.inl ⟨by decide, by omega, by rw [← e9]; exact (cmp_eq (by assumption) (by omega)).symm⟩ | exact Or.inr ⟨by decide, fun c => by omega⟩ | exact Or.inr ⟨by decide, fun c => cmp_ne (by assumption) (by omega) (by rw [e9]; exact c.2.symm)⟩
set_option maxHeartbeats 4000000 in
theorem PL_X6_isWord_25_2 {fi : Nat → Nat → Int32} {fl : Nat → Nat → Int64} {vi : Nat → Int32} {vl : Nat → Int64} {r : Int32} {fj : Nat → Nat → Int32} {fm : Nat → Nat → Int64} {vj : Nat → Int32} {vm : Nat → Int64} : RL_X6_isWord_25_2 fi fl vi vl r fj fm vj vm (PS_X6_isWord_25 fi fl vi vl r fj fm vj vm) := by
  unfold RL_X6_isWord_25_2
  intro hp0 hp1 hp2 hp3 hp4 w4 w2 hi hpk9 fik flk vik vlk rk gk_0 c11 c38 z46 ez46 c47 q0; subst q0
  unfold PS_X6_isWord_25
  have e9 : w2 = (109270082020708 : Int64) := by rw [hpk9, show w4.toInt.toNat = 6 by omega]; decide
  first | exact Or.inl ⟨by decide, by omega, by rw [← e9]; exact (cmp_eq (by assumption) (by omega)).symm⟩ | exact Or.inr ⟨by decide, fun c => by omega⟩ | exact Or.inr ⟨by decide, fun c => cmp_ne (by assumption) (by omega) (by rw [e9]; exact c.2.symm)⟩
theorem P_X6_isWord_25 {fi : Nat → Nat → Int32} {fl : Nat → Nat → Int64} {vi : Nat → Int32} {vl : Nat → Int64} {r : Int32} {fj : Nat → Nat → Int32} {fm : Nat → Nat → Int64} {vj : Nat → Int32} {vm : Nat → Int64} (h : R_X6_isWord_25 fi fl vi vl r fj fm vj vm) : DJ (r.toInt = 1 ∧ (vi 4).toInt = 1 ∧ (vl 0) = (109270082020708 : Int64)) (r.toInt = 0 ∧ ¬ ((vi 4).toInt = 1 ∧ (vl 0) = (109270082020708 : Int64))) := h (PS_X6_isWord_25 fi fl vi vl r fj fm vj vm) PL_X6_isWord_25_0 PL_X6_isWord_25_1 PL_X6_isWord_25_2
def RL_X7_isBorneAtFirst_0 (fi : Nat → Nat → Int32) (fl : Nat → Nat → Int64) (vi : Nat → Int32) (vl : Nat → Int64) (r : Int32) (fj : Nat → Nat → Int32) (fm : Nat → Nat → Int64) (vj : Nat → Int32) (vm : Nat → Int64) (Q9 : Prop) : Prop :=
  (0 ≤ (vi 1).toInt ∧ (vi 1).toInt ≤ 9) → (0 ≤ (vi 2).toInt ∧ (vi 2).toInt ≤ 9) → ∀ (w2 : Int32), (0 ≤ w2.toInt ∧ w2.toInt ≤ 9) → (∀ j : Nat, (j : Int) < w2.toInt → ¬ ((fi 0) j).toInt = (vi 0).toInt) → ((vi 2).toInt ≤ w2.toInt) → (r = (0 : Int32)) → Q9
def RL_X7_isBorneAtFirst_1 (fi : Nat → Nat → Int32) (fl : Nat → Nat → Int64) (vi : Nat → Int32) (vl : Nat → Int64) (r : Int32) (fj : Nat → Nat → Int32) (fm : Nat → Nat → Int64) (vj : Nat → Int32) (vm : Nat → Int64) (Q9 : Prop) : Prop :=
  (0 ≤ (vi 1).toInt ∧ (vi 1).toInt ≤ 9) → (0 ≤ (vi 2).toInt ∧ (vi 2).toInt ≤ 9) → ∀ (w2 : Int32), (0 ≤ w2.toInt ∧ w2.toInt ≤ 9) → (∀ j : Nat, (j : Int) < w2.toInt → ¬ ((fi 0) j).toInt = (vi 0).toInt) → (¬ (vi 2).toInt ≤ w2.toInt) → (((fi 0) w2.toNatClampNeg).toInt = (vi 0).toInt) → (r = (1 : Int32)) → Q9
def R_X7_isBorneAtFirst (fi : Nat → Nat → Int32) (fl : Nat → Nat → Int64) (vi : Nat → Int32) (vl : Nat → Int64) (r : Int32) (fj : Nat → Nat → Int32) (fm : Nat → Nat → Int64) (vj : Nat → Int32) (vm : Nat → Int64) : Prop :=
  ∀ Q9 : Prop, RL_X7_isBorneAtFirst_0 fi fl vi vl r fj fm vj vm Q9 → RL_X7_isBorneAtFirst_1 fi fl vi vl r fj fm vj vm Q9 → Q9
def PS_X7_isBorneAtFirst (fi : Nat → Nat → Int32) (fl : Nat → Nat → Int64) (vi : Nat → Int32) (vl : Nat → Int64) (r : Int32) (fj : Nat → Nat → Int32) (fm : Nat → Nat → Int64) (vj : Nat → Int32) (vm : Nat → Int64) : Prop :=
  DJ (r.toInt = 1 ∧ bo1 (fi 0) (vi 2).toInt (vi 0).toInt) (r.toInt = 0 ∧ bo0 (fi 0) (vi 2).toInt (vi 0).toInt)
set_option maxHeartbeats 4000000 in
theorem PL_X7_isBorneAtFirst_0 {fi : Nat → Nat → Int32} {fl : Nat → Nat → Int64} {vi : Nat → Int32} {vl : Nat → Int64} {r : Int32} {fj : Nat → Nat → Int32} {fm : Nat → Nat → Int64} {vj : Nat → Int32} {vm : Nat → Int64} : RL_X7_isBorneAtFirst_0 fi fl vi vl r fj fm vj vm (PS_X7_isBorneAtFirst fi fl vi vl r fj fm vj vm) := by
  unfold RL_X7_isBorneAtFirst_0
  intro hp0 hp1 w2 hi hbo9 c7 q0; subst q0
  unfold PS_X7_isBorneAtFirst
  first | exact Or.inl ⟨by decide, w2.toNatClampNeg, (show ((w2.toInt.toNat : Nat) : Int) < _ by omega), by omega⟩ | exact Or.inr ⟨by decide, fun j hj => hbo9 j (by omega)⟩
set_option maxHeartbeats 4000000 in
theorem PL_X7_isBorneAtFirst_1 {fi : Nat → Nat → Int32} {fl : Nat → Nat → Int64} {vi : Nat → Int32} {vl : Nat → Int64} {r : Int32} {fj : Nat → Nat → Int32} {fm : Nat → Nat → Int64} {vj : Nat → Int32} {vm : Nat → Int64} : RL_X7_isBorneAtFirst_1 fi fl vi vl r fj fm vj vm (PS_X7_isBorneAtFirst fi fl vi vl r fj fm vj vm) := by
  unfold RL_X7_isBorneAtFirst_1
  intro hp0 hp1 w2 hi hbo9 c7 c17 q0; subst q0
  unfold PS_X7_isBorneAtFirst
  first | exact Or.inl ⟨by decide, w2.toNatClampNeg, (show ((w2.toInt.toNat : Nat) : Int) < _ by omega), by omega⟩ | exact Or.inr ⟨by decide, fun j hj => hbo9 j (by omega)⟩
theorem P_X7_isBorneAtFirst {fi : Nat → Nat → Int32} {fl : Nat → Nat → Int64} {vi : Nat → Int32} {vl : Nat → Int64} {r : Int32} {fj : Nat → Nat → Int32} {fm : Nat → Nat → Int64} {vj : Nat → Int32} {vm : Nat → Int64} (h : R_X7_isBorneAtFirst fi fl vi vl r fj fm vj vm) : DJ (r.toInt = 1 ∧ bo1 (fi 0) (vi 2).toInt (vi 0).toInt) (r.toInt = 0 ∧ bo0 (fi 0) (vi 2).toInt (vi 0).toInt) := h (PS_X7_isBorneAtFirst fi fl vi vl r fj fm vj vm) PL_X7_isBorneAtFirst_0 PL_X7_isBorneAtFirst_1
def RL_X8_readFirstName_0 (fi : Nat → Nat → Int32) (fl : Nat → Nat → Int64) (vi : Nat → Int32) (vl : Nat → Int64) (r : Int32) (fj : Nat → Nat → Int32) (fm : Nat → Nat → Int64) (vj : Nat → Int32) (vm : Nat → Int64) (Q9 : Prop) : Prop :=
  (0 ≤ (vi 13).toInt ∧ (vi 13).toInt ≤ 9) → (0 ≤ (vi 14).toInt ∧ (vi 14).toInt ≤ 9) → ∀ (fik : Nat → Nat → Int32), ∀ (flk : Nat → Nat → Int64), ∀ (vik : Nat → Int32), ∀ (vlk : Nat → Int64), ∀ (rk : Int32), (-1 ≤ rk.toInt ∧ rk.toInt ≤ 8) → (rk.toInt = fdx (fl 0) 0 (vl 0) ((vi 13).toInt).toNat) → (¬ (vi 6).toInt = 1) → ∀ (fik_1 : Nat → Nat → Int32), ∀ (flk_1 : Nat → Nat → Int64), ∀ (vik_1 : Nat → Int32), ∀ (vlk_1 : Nat → Int64), ∀ (rk_1 : Int32), (∀ n m t : Nat, CC (trn (fi 0) n) n m t (vi 3) (vi 4) (vi 6) (vi 7) (vi 5) (vl 0) (vi 8) (vi 9) → (rk_1.toInt = 1 ∧ (wMay (trn (fi 0) n) n m (ownB (fl 1)) t) ∧ ¬ rk.toInt = -1 ∧ (vik_1 0).toInt = rk.toInt ∧ CC (trn (fi 0) n) n m (sX (trn (fi 0) n) n m t) (vi 3) (vi 4) (vik_1 1) (vik_1 2) (vik_1 5) (vlk_1 0) (vik_1 4) (vik_1 3)) ∨ (rk_1.toInt = 0 ∧ ¬ (wMay (trn (fi 0) n) n m (ownB (fl 1)) t) ∧ (vik_1 6).toInt = 1 ∧ (vik_1 7).toInt = ((sPn (trn (fi 0) n) n m t) : Int)) ∨ (rk_1.toInt = 0 ∧ (wMay (trn (fi 0) n) n m (ownB (fl 1)) t) ∧ rk.toInt = -1 ∧ (vik_1 6).toInt = 3 ∧ (vik_1 7).toInt = ((sPn (trn (fi 0) n) n m t) : Int))) → (rk_1.toInt = 1) → ((vik_1 0).toInt = rk.toInt ∧ ¬ rk.toInt = -1) → ∀ (fik_2 : Nat → Nat → Int32), ∀ (flk_2 : Nat → Nat → Int64), ∀ (vik_2 : Nat → Int32), ∀ (vlk_2 : Nat → Int64), ∀ (rk_2 : Int32), (rk_2.toInt = 1) → (0 ≤ (vi 0).toInt ∧ (vi 0).toInt < (vi 14).toInt) → ∀ (f90 : Nat → Int32), (f90 = upd (fi 1) (vi 0).toNatClampNeg ((vik_1 0) : Int32)) → (r = (1 : Int32)) → (fj 0 = f90) → (vj 0 = (vik_1 0)) → (vj 1 = (vik_1 1)) → (vj 2 = (vik_1 2)) → (vj 3 = (vik_1 3)) → (vj 4 = (vik_1 4)) → (vj 5 = (vik_1 5)) → (vj 6 = (vik_1 6)) → (vj 7 = (vik_1 7)) → (vm 0 = (vlk_1 0)) → Q9
