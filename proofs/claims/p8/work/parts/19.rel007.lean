def PS_X12_isName (fi : Nat → Nat → Int32) (fl : Nat → Nat → Int64) (vi : Nat → Int32) (vl : Nat → Int64) (r : Int32) (fj : Nat → Nat → Int32) (fm : Nat → Nat → Int64) (vj : Nat → Int32) (vm : Nat → Int64) : Prop :=
  DJ (r.toInt = 1 ∧ (vi 5).toInt = 1 ∧ ownB (fl 0) (vl 0) = false) (r.toInt = 0 ∧ (¬ (vi 5).toInt = 1 ∨ ownB (fl 0) (vl 0) = true))
set_option maxHeartbeats 4000000 in
theorem PL_X12_isName_0 {fi : Nat → Nat → Int32} {fl : Nat → Nat → Int64} {vi : Nat → Int32} {vl : Nat → Int64} {r : Int32} {fj : Nat → Nat → Int32} {fm : Nat → Nat → Int64} {vj : Nat → Int32} {vm : Nat → Int64} : RL_X12_isName_0 fi fl vi vl r fj fm vj vm (PS_X12_isName fi fl vi vl r fj fm vj vm) := by
  unfold RL_X12_isName_0
  intro hp0 hp1 hp2 hp3 hp4 hp5 hp6 hp7 hp8 hp9 hp10 hp11 hp12 hp13 c5 w2 w1 hi hi_1 hio9 hin9 c19 lf q0; subst q0
  unfold PS_X12_isName
  have k9_0 : (0 : Int32).toInt = 0 := (by decide); have k9_1 : (1 : Int32).toInt = 1 := (by decide)
  rcases inm_e hin9 (by omega) with ⟨a1, a2, a3⟩ | ⟨a1, a2⟩
  · first | (exfalso; omega) | exact Or.inl ⟨by decide, a2, a3⟩
  · first | (exfalso; omega) | exact Or.inr ⟨by decide, a2⟩
set_option maxHeartbeats 4000000 in
theorem PL_X12_isName_1 {fi : Nat → Nat → Int32} {fl : Nat → Nat → Int64} {vi : Nat → Int32} {vl : Nat → Int64} {r : Int32} {fj : Nat → Nat → Int32} {fm : Nat → Nat → Int64} {vj : Nat → Int32} {vm : Nat → Int64} : RL_X12_isName_1 fi fl vi vl r fj fm vj vm (PS_X12_isName fi fl vi vl r fj fm vj vm) := by
  unfold RL_X12_isName_1
  intro hp0 hp1 hp2 hp3 hp4 hp5 hp6 hp7 hp8 hp9 hp10 hp11 hp12 hp13 c5 w2 w1 hi hi_1 hio9 hin9 c19 lf q0; subst q0
  unfold PS_X12_isName
  have k9_0 : (0 : Int32).toInt = 0 := (by decide); have k9_1 : (1 : Int32).toInt = 1 := (by decide)
  rcases inm_e hin9 (by omega) with ⟨a1, a2, a3⟩ | ⟨a1, a2⟩
  · first | (exfalso; omega) | exact Or.inl ⟨by decide, a2, a3⟩
  · first | (exfalso; omega) | exact Or.inr ⟨by decide, a2⟩
set_option maxHeartbeats 4000000 in
theorem PL_X12_isName_2 {fi : Nat → Nat → Int32} {fl : Nat → Nat → Int64} {vi : Nat → Int32} {vl : Nat → Int64} {r : Int32} {fj : Nat → Nat → Int32} {fm : Nat → Nat → Int64} {vj : Nat → Int32} {vm : Nat → Int64} : RL_X12_isName_2 fi fl vi vl r fj fm vj vm (PS_X12_isName fi fl vi vl r fj fm vj vm) := by
  unfold RL_X12_isName_2
  intro hp0 hp1 hp2 hp3 hp4 hp5 hp6 hp7 hp8 hp9 hp10 hp11 hp12 hp13 c5 w2_1 w1_1 hi_2 hi_3 hio9 hin9 c19_1 lf_1 q0; subst q0
  unfold PS_X12_isName
  have k9_0 : (0 : Int32).toInt = 0 := (by decide); have k9_1 : (1 : Int32).toInt = 1 := (by decide)
  rcases inm_e hin9 (by omega) with ⟨a1, a2, a3⟩ | ⟨a1, a2⟩
  · first | (exfalso; omega) | exact Or.inl ⟨by decide, a2, a3⟩
  · first | (exfalso; omega) | exact Or.inr ⟨by decide, a2⟩
set_option maxHeartbeats 4000000 in
theorem PL_X12_isName_3 {fi : Nat → Nat → Int32} {fl : Nat → Nat → Int64} {vi : Nat → Int32} {vl : Nat → Int64} {r : Int32} {fj : Nat → Nat → Int32} {fm : Nat → Nat → Int64} {vj : Nat → Int32} {vm : Nat → Int64} : RL_X12_isName_3 fi fl vi vl r fj fm vj vm (PS_X12_isName fi fl vi vl r fj fm vj vm) := by
  unfold RL_X12_isName_3
  intro hp0 hp1 hp2 hp3 hp4 hp5 hp6 hp7 hp8 hp9 hp10 hp11 hp12 hp13 c5 w2_1 w1_1 hi_2 hi_3 hio9 hin9 c19_1 lf_1 q0; subst q0
  unfold PS_X12_isName
  have k9_0 : (0 : Int32).toInt = 0 := (by decide); have k9_1 : (1 : Int32).toInt = 1 := (by decide)
  rcases inm_e hin9 (by omega) with ⟨a1, a2, a3⟩ | ⟨a1, a2⟩
  · first | (exfalso; omega) | exact Or.inl ⟨by decide, a2, a3⟩
  · first | (exfalso; omega) | exact Or.inr ⟨by decide, a2⟩
theorem P_X12_isName {fi : Nat → Nat → Int32} {fl : Nat → Nat → Int64} {vi : Nat → Int32} {vl : Nat → Int64} {r : Int32} {fj : Nat → Nat → Int32} {fm : Nat → Nat → Int64} {vj : Nat → Int32} {vm : Nat → Int64} (h : R_X12_isName fi fl vi vl r fj fm vj vm) : DJ (r.toInt = 1 ∧ (vi 5).toInt = 1 ∧ ownB (fl 0) (vl 0) = false) (r.toInt = 0 ∧ (¬ (vi 5).toInt = 1 ∨ ownB (fl 0) (vl 0) = true)) := h (PS_X12_isName fi fl vi vl r fj fm vj vm) PL_X12_isName_0 PL_X12_isName_1 PL_X12_isName_2 PL_X12_isName_3
def RL_X12_find_0 (fi : Nat → Nat → Int32) (fl : Nat → Nat → Int64) (vi : Nat → Int32) (vl : Nat → Int64) (r : Int32) (fj : Nat → Nat → Int32) (fm : Nat → Nat → Int64) (vj : Nat → Int32) (vm : Nat → Int64) (Q9 : Prop) : Prop :=
  (0 ≤ (vi 0).toInt ∧ (vi 0).toInt ≤ 27) → (0 ≤ (vi 1).toInt ∧ (vi 1).toInt ≤ 9) → (0 ≤ (vi 3).toInt ∧ (vi 3).toInt ≤ 940) → (0 ≤ (vi 4).toInt ∧ (vi 4).toInt ≤ 940) → (0 ≤ (vi 5).toInt ∧ (vi 5).toInt ≤ 940) → (0 ≤ (vi 6).toInt ∧ (vi 6).toInt ≤ 940) → (0 ≤ (vi 7).toInt ∧ (vi 7).toInt ≤ 4) → (0 ≤ (vi 8).toInt ∧ (vi 8).toInt ≤ 940) → (0 ≤ (vi 12).toInt ∧ (vi 12).toInt ≤ 940) → (0 ≤ (vi 16).toInt ∧ (vi 16).toInt ≤ 4) → (-1 ≤ (vi 17).toInt ∧ (vi 17).toInt ≤ 9) → (0 ≤ (vi 23).toInt ∧ (vi 23).toInt ≤ 40) → (0 ≤ (vi 25).toInt ∧ (vi 25).toInt ≤ 40) → (0 ≤ (vi 26).toInt ∧ (vi 26).toInt ≤ 20) → (0 ≤ (vi 27).toInt ∧ (vi 27).toInt ≤ 40) → (0 ≤ (vi 29).toInt ∧ (vi 29).toInt ≤ 1) → ∀ (w3 : Int32), (0 ≤ w3.toInt ∧ w3.toInt ≤ 9) → (∀ j : Nat, (j : Int) < w3.toInt → ¬ (fl 0) (((vi 0).toInt).toNat + j) = (vl 0)) → ((vi 1).toInt ≤ w3.toInt) → (r = ((-1) : Int32)) → Q9
def RL_X12_find_1 (fi : Nat → Nat → Int32) (fl : Nat → Nat → Int64) (vi : Nat → Int32) (vl : Nat → Int64) (r : Int32) (fj : Nat → Nat → Int32) (fm : Nat → Nat → Int64) (vj : Nat → Int32) (vm : Nat → Int64) (Q9 : Prop) : Prop :=
  (0 ≤ (vi 0).toInt ∧ (vi 0).toInt ≤ 27) → (0 ≤ (vi 1).toInt ∧ (vi 1).toInt ≤ 9) → (0 ≤ (vi 3).toInt ∧ (vi 3).toInt ≤ 940) → (0 ≤ (vi 4).toInt ∧ (vi 4).toInt ≤ 940) → (0 ≤ (vi 5).toInt ∧ (vi 5).toInt ≤ 940) → (0 ≤ (vi 6).toInt ∧ (vi 6).toInt ≤ 940) → (0 ≤ (vi 7).toInt ∧ (vi 7).toInt ≤ 4) → (0 ≤ (vi 8).toInt ∧ (vi 8).toInt ≤ 940) → (0 ≤ (vi 12).toInt ∧ (vi 12).toInt ≤ 940) → (0 ≤ (vi 16).toInt ∧ (vi 16).toInt ≤ 4) → (-1 ≤ (vi 17).toInt ∧ (vi 17).toInt ≤ 9) → (0 ≤ (vi 23).toInt ∧ (vi 23).toInt ≤ 40) → (0 ≤ (vi 25).toInt ∧ (vi 25).toInt ≤ 40) → (0 ≤ (vi 26).toInt ∧ (vi 26).toInt ≤ 20) → (0 ≤ (vi 27).toInt ∧ (vi 27).toInt ≤ 40) → (0 ≤ (vi 29).toInt ∧ (vi 29).toInt ≤ 1) → ∀ (w3 : Int32), (0 ≤ w3.toInt ∧ w3.toInt ≤ 9) → (∀ j : Nat, (j : Int) < w3.toInt → ¬ (fl 0) (((vi 0).toInt).toNat + j) = (vl 0)) → (¬ (vi 1).toInt ≤ w3.toInt) → ∀ (z13 : Int32), (z13 = (vi 0) + w3) → (z13.toInt = (vi 0).toInt + w3.toInt) → ∀ (z19 : Int32), (z19 = lg_cmp ((fl 0) z13.toNatClampNeg) (vl 0)) → (z19.toInt = 0) → (r = w3) → Q9
def R_X12_find (fi : Nat → Nat → Int32) (fl : Nat → Nat → Int64) (vi : Nat → Int32) (vl : Nat → Int64) (r : Int32) (fj : Nat → Nat → Int32) (fm : Nat → Nat → Int64) (vj : Nat → Int32) (vm : Nat → Int64) : Prop :=
  ∀ Q9 : Prop, RL_X12_find_0 fi fl vi vl r fj fm vj vm Q9 → RL_X12_find_1 fi fl vi vl r fj fm vj vm Q9 → Q9
def PS_X12_find (fi : Nat → Nat → Int32) (fl : Nat → Nat → Int64) (vi : Nat → Int32) (vl : Nat → Int64) (r : Int32) (fj : Nat → Nat → Int32) (fm : Nat → Nat → Int64) (vj : Nat → Int32) (vm : Nat → Int64) : Prop :=
  r.toInt = fdx (fl 0) ((vi 0).toInt).toNat (vl 0) ((vi 1).toInt).toNat
set_option maxHeartbeats 4000000 in
theorem PL_X12_find_0 {fi : Nat → Nat → Int32} {fl : Nat → Nat → Int64} {vi : Nat → Int32} {vl : Nat → Int64} {r : Int32} {fj : Nat → Nat → Int32} {fm : Nat → Nat → Int64} {vj : Nat → Int32} {vm : Nat → Int64} : RL_X12_find_0 fi fl vi vl r fj fm vj vm (PS_X12_find fi fl vi vl r fj fm vj vm) := by
  unfold RL_X12_find_0
  intro hp0 hp1 hp2 hp3 hp4 hp5 hp6 hp7 hp8 hp9 hp10 hp11 hp12 hp13 hp14 hp15 w3 hi hfd9 c4 q0; subst q0
  unfold PS_X12_find
  first | exact (fdx_none _ (fun j hj => hfd9 j (by omega))).symm
set_option maxHeartbeats 4000000 in
theorem PL_X12_find_1 {fi : Nat → Nat → Int32} {fl : Nat → Nat → Int64} {vi : Nat → Int32} {vl : Nat → Int64} {r : Int32} {fj : Nat → Nat → Int32} {fm : Nat → Nat → Int64} {vj : Nat → Int32} {vm : Nat → Int64} : RL_X12_find_1 fi fl vi vl r fj fm vj vm (PS_X12_find fi fl vi vl r fj fm vj vm) := by
  unfold RL_X12_find_1
  intro hp0 hp1 hp2 hp3 hp4 hp5 hp6 hp7 hp8 hp9 hp10 hp11 hp12 hp13 hp14 hp15 w3 hi hfd9 c4 z13 ez13 tz13 z19 ez19 c20 q0; subst q0
  unfold PS_X12_find
  first | exact (fdx_none _ (fun j hj => hfd9 j (by omega))).symm | exact fdx_ofa hfd9 (by omega) (by omega) (by rw [show ((vi 0).toInt).toNat + r.toInt.toNat = z13.toNatClampNeg from (show _ = z13.toInt.toNat by omega)]; exact cmp_eq (by assumption) (by omega))
theorem P_X12_find {fi : Nat → Nat → Int32} {fl : Nat → Nat → Int64} {vi : Nat → Int32} {vl : Nat → Int64} {r : Int32} {fj : Nat → Nat → Int32} {fm : Nat → Nat → Int64} {vj : Nat → Int32} {vm : Nat → Int64} (h : R_X12_find fi fl vi vl r fj fm vj vm) : r.toInt = fdx (fl 0) ((vi 0).toInt).toNat (vl 0) ((vi 1).toInt).toNat := h (PS_X12_find fi fl vi vl r fj fm vj vm) PL_X12_find_0 PL_X12_find_1
def RL_X12_looksAt_0 (fi : Nat → Nat → Int32) (fl : Nat → Nat → Int64) (vi : Nat → Int32) (vl : Nat → Int64) (r : Int32) (fj : Nat → Nat → Int32) (fm : Nat → Nat → Int64) (vj : Nat → Int32) (vm : Nat → Int64) (Q9 : Prop) : Prop :=
  (0 ≤ (vi 0).toInt ∧ (vi 0).toInt ≤ 27) → (0 ≤ (vi 1).toInt ∧ (vi 1).toInt ≤ 9) → (0 ≤ (vi 3).toInt ∧ (vi 3).toInt ≤ 940) → (0 ≤ (vi 4).toInt ∧ (vi 4).toInt ≤ 940) → (0 ≤ (vi 5).toInt ∧ (vi 5).toInt ≤ 940) → (0 ≤ (vi 6).toInt ∧ (vi 6).toInt ≤ 940) → (0 ≤ (vi 7).toInt ∧ (vi 7).toInt ≤ 4) → (0 ≤ (vi 8).toInt ∧ (vi 8).toInt ≤ 940) → (0 ≤ (vi 12).toInt ∧ (vi 12).toInt ≤ 940) → (0 ≤ (vi 16).toInt ∧ (vi 16).toInt ≤ 4) → (-1 ≤ (vi 17).toInt ∧ (vi 17).toInt ≤ 9) → (0 ≤ (vi 23).toInt ∧ (vi 23).toInt ≤ 40) → (0 ≤ (vi 25).toInt ∧ (vi 25).toInt ≤ 40) → (0 ≤ (vi 26).toInt ∧ (vi 26).toInt ≤ 20) → (0 ≤ (vi 27).toInt ∧ (vi 27).toInt ≤ 40) → (0 ≤ (vi 29).toInt ∧ (vi 29).toInt ≤ 1) → ∀ (fik : Nat → Nat → Int32), ∀ (flk : Nat → Nat → Int64), ∀ (vik : Nat → Int32), ∀ (vlk : Nat → Int64), ∀ (rk : Int32), (DJ (rk.toInt = 1 ∧ (vi 7).toInt = 1 ∧ ownB (fl 0) (vl 0) = false) (rk.toInt = 0 ∧ (¬ (vi 7).toInt = 1 ∨ ownB (fl 0) (vl 0) = true))) → (rk.toInt = 1) → ((vi 7).toInt = 1) → ∀ (fik_1 : Nat → Nat → Int32), ∀ (flk_1 : Nat → Nat → Int64), ∀ (vik_1 : Nat → Int32), ∀ (vlk_1 : Nat → Int64), ∀ (rk_1 : Int32), (-1 ≤ rk_1.toInt ∧ rk_1.toInt ≤ 8 ∧ (rk_1.toInt < (vi 1).toInt)) → (rk_1.toInt = fdx (fl 1) ((vi 0).toInt).toNat (vl 0) ((vi 1).toInt).toNat) → (0 ≤ rk_1.toInt) → (r = (1 : Int32)) → (vj 0 = rk_1) → (vj 1 = (vi 11)) → (vj 2 = (vi 12)) → Q9
def RL_X12_looksAt_1 (fi : Nat → Nat → Int32) (fl : Nat → Nat → Int64) (vi : Nat → Int32) (vl : Nat → Int64) (r : Int32) (fj : Nat → Nat → Int32) (fm : Nat → Nat → Int64) (vj : Nat → Int32) (vm : Nat → Int64) (Q9 : Prop) : Prop :=
  (0 ≤ (vi 0).toInt ∧ (vi 0).toInt ≤ 27) → (0 ≤ (vi 1).toInt ∧ (vi 1).toInt ≤ 9) → (0 ≤ (vi 3).toInt ∧ (vi 3).toInt ≤ 940) → (0 ≤ (vi 4).toInt ∧ (vi 4).toInt ≤ 940) → (0 ≤ (vi 5).toInt ∧ (vi 5).toInt ≤ 940) → (0 ≤ (vi 6).toInt ∧ (vi 6).toInt ≤ 940) → (0 ≤ (vi 7).toInt ∧ (vi 7).toInt ≤ 4) → (0 ≤ (vi 8).toInt ∧ (vi 8).toInt ≤ 940) → (0 ≤ (vi 12).toInt ∧ (vi 12).toInt ≤ 940) → (0 ≤ (vi 16).toInt ∧ (vi 16).toInt ≤ 4) → (-1 ≤ (vi 17).toInt ∧ (vi 17).toInt ≤ 9) → (0 ≤ (vi 23).toInt ∧ (vi 23).toInt ≤ 40) → (0 ≤ (vi 25).toInt ∧ (vi 25).toInt ≤ 40) → (0 ≤ (vi 26).toInt ∧ (vi 26).toInt ≤ 20) → (0 ≤ (vi 27).toInt ∧ (vi 27).toInt ≤ 40) → (0 ≤ (vi 29).toInt ∧ (vi 29).toInt ≤ 1) → ∀ (fik : Nat → Nat → Int32), ∀ (flk : Nat → Nat → Int64), ∀ (vik : Nat → Int32), ∀ (vlk : Nat → Int64), ∀ (rk : Int32), (DJ (rk.toInt = 1 ∧ (vi 7).toInt = 1 ∧ ownB (fl 0) (vl 0) = false) (rk.toInt = 0 ∧ (¬ (vi 7).toInt = 1 ∨ ownB (fl 0) (vl 0) = true))) → (rk.toInt = 1) → ((vi 7).toInt = 1) → ∀ (fik_1 : Nat → Nat → Int32), ∀ (flk_1 : Nat → Nat → Int64), ∀ (vik_1 : Nat → Int32), ∀ (vlk_1 : Nat → Int64), ∀ (rk_1 : Int32), (-1 ≤ rk_1.toInt ∧ rk_1.toInt ≤ 8 ∧ (rk_1.toInt < (vi 1).toInt)) → (rk_1.toInt = fdx (fl 1) ((vi 0).toInt).toNat (vl 0) ((vi 1).toInt).toNat) → (rk_1.toInt < 0) → ∀ (fik_2 : Nat → Nat → Int32), ∀ (flk_2 : Nat → Nat → Int64), ∀ (vik_2 : Nat → Int32), ∀ (vlk_2 : Nat → Int64), ∀ (rk_2 : Int32), (rk_2 = 0) → (0 ≤ (vik_2 1).toInt ∧ (vik_2 1).toInt ≤ 940) → ((vik_2 0).toInt = (3 : Int32).toInt ∧ (vik_2 1).toInt = (vi 8).toInt) → (r = (0 : Int32)) → (vj 0 = rk_1) → (vj 1 = (vik_2 0)) → (vj 2 = (vik_2 1)) → Q9
def RL_X12_looksAt_2 (fi : Nat → Nat → Int32) (fl : Nat → Nat → Int64) (vi : Nat → Int32) (vl : Nat → Int64) (r : Int32) (fj : Nat → Nat → Int32) (fm : Nat → Nat → Int64) (vj : Nat → Int32) (vm : Nat → Int64) (Q9 : Prop) : Prop :=
  (0 ≤ (vi 0).toInt ∧ (vi 0).toInt ≤ 27) → (0 ≤ (vi 1).toInt ∧ (vi 1).toInt ≤ 9) → (0 ≤ (vi 3).toInt ∧ (vi 3).toInt ≤ 940) → (0 ≤ (vi 4).toInt ∧ (vi 4).toInt ≤ 940) → (0 ≤ (vi 5).toInt ∧ (vi 5).toInt ≤ 940) → (0 ≤ (vi 6).toInt ∧ (vi 6).toInt ≤ 940) → (0 ≤ (vi 7).toInt ∧ (vi 7).toInt ≤ 4) → (0 ≤ (vi 8).toInt ∧ (vi 8).toInt ≤ 940) → (0 ≤ (vi 12).toInt ∧ (vi 12).toInt ≤ 940) → (0 ≤ (vi 16).toInt ∧ (vi 16).toInt ≤ 4) → (-1 ≤ (vi 17).toInt ∧ (vi 17).toInt ≤ 9) → (0 ≤ (vi 23).toInt ∧ (vi 23).toInt ≤ 40) → (0 ≤ (vi 25).toInt ∧ (vi 25).toInt ≤ 40) → (0 ≤ (vi 26).toInt ∧ (vi 26).toInt ≤ 20) → (0 ≤ (vi 27).toInt ∧ (vi 27).toInt ≤ 40) → (0 ≤ (vi 29).toInt ∧ (vi 29).toInt ≤ 1) → ∀ (fik : Nat → Nat → Int32), ∀ (flk : Nat → Nat → Int64), ∀ (vik : Nat → Int32), ∀ (vlk : Nat → Int64), ∀ (rk : Int32), (DJ (rk.toInt = 1 ∧ (vi 7).toInt = 1 ∧ ownB (fl 0) (vl 0) = false) (rk.toInt = 0 ∧ (¬ (vi 7).toInt = 1 ∨ ownB (fl 0) (vl 0) = true))) → (rk.toInt = 0) → (True) → ∀ (fik_3 : Nat → Nat → Int32), ∀ (flk_3 : Nat → Nat → Int64), ∀ (vik_3 : Nat → Int32), ∀ (vlk_3 : Nat → Int64), ∀ (rk_3 : Int32), (rk_3 = 0) → (0 ≤ (vik_3 1).toInt ∧ (vik_3 1).toInt ≤ 940) → ((vik_3 0).toInt = (1 : Int32).toInt ∧ (vik_3 1).toInt = (vi 8).toInt) → (r = (0 : Int32)) → (vj 0 = (vi 13)) → (vj 1 = (vik_3 0)) → (vj 2 = (vik_3 1)) → Q9
def R_X12_looksAt (fi : Nat → Nat → Int32) (fl : Nat → Nat → Int64) (vi : Nat → Int32) (vl : Nat → Int64) (r : Int32) (fj : Nat → Nat → Int32) (fm : Nat → Nat → Int64) (vj : Nat → Int32) (vm : Nat → Int64) : Prop :=
  ∀ Q9 : Prop, RL_X12_looksAt_0 fi fl vi vl r fj fm vj vm Q9 → RL_X12_looksAt_1 fi fl vi vl r fj fm vj vm Q9 → RL_X12_looksAt_2 fi fl vi vl r fj fm vj vm Q9 → Q9
def PS_X12_looksAt (fi : Nat → Nat → Int32) (fl : Nat → Nat → Int64) (vi : Nat → Int32) (vl : Nat → Int64) (r : Int32) (fj : Nat → Nat → Int32) (fm : Nat → Nat → Int64) (vj : Nat → Int32) (vm : Nat → Int64) : Prop :=
  ∀ (f : Nat → Int32) (n m t : Nat), CC f n m t (vi 4) (vi 6) (vi 7) (vi 8) (vi 5) (vl 0) (vi 10) (vi 10) → (r.toInt = 1 ∧ (fKn f n m (ownB (fl 0)) (fl 1) ((vi 0).toInt).toNat (vi 1).toInt t) = 0 ∧ (wMay f n m (ownB (fl 0)) t) ∧ (vj 0).toInt = fdx (fl 1) ((vi 0).toInt).toNat (sW f n m t) ((vi 1).toInt).toNat) ∨ (r.toInt = 0 ∧ ¬ (fKn f n m (ownB (fl 0)) (fl 1) ((vi 0).toInt).toNat (vi 1).toInt t) = 0 ∧ (vj 1).toInt = (fKn f n m (ownB (fl 0)) (fl 1) ((vi 0).toInt).toNat (vi 1).toInt t) ∧ (vj 2).toInt = (sPn f n m t : Int))
set_option maxHeartbeats 4000000 in
theorem PL_X12_looksAt_0 {fi : Nat → Nat → Int32} {fl : Nat → Nat → Int64} {vi : Nat → Int32} {vl : Nat → Int64} {r : Int32} {fj : Nat → Nat → Int32} {fm : Nat → Nat → Int64} {vj : Nat → Int32} {vm : Nat → Int64} : RL_X12_looksAt_0 fi fl vi vl r fj fm vj vm (PS_X12_looksAt fi fl vi vl r fj fm vj vm) := by
  unfold RL_X12_looksAt_0
  intro hp0 hp1 hp2 hp3 hp4 hp5 hp6 hp7 hp8 hp9 hp10 hp11 hp12 hp13 hp14 hp15 fik flk vik vlk rk gk_1 tb_1 gk_0 fik_1 flk_1 vik_1 vlk_1 rk_1 gk_1_0 gk_1_1 c27 q0 q1 q2 q3; subst q0
  unfold PS_X12_looksAt
  intro f n m t hc
  (try simp only [q1, q2, q3]); have k9_0 : (0 : Int32).toInt = 0 := (by decide); have k9_1 : (1 : Int32).toInt = 1 := (by decide)
  have hc0 := hc
  obtain ⟨hn, hm, ht, ck, cp, ce, cw, cu, cg⟩ := hc0
  rcases gk_1 with ⟨a1, a2, a3⟩ | ⟨a1, a2⟩
  · have h8 := cw (by omega)
    rw [h8] at a3
    have hm9 : wMay f n m (ownB (fl 0)) t := ⟨by omega, a3⟩
    rw [h8] at gk_1_1
    first | exact Or.inl ⟨by decide, fKn_0 hm9 (by omega), hm9, by omega⟩ | (have h7 : (fKn f n m (ownB (fl 0)) (fl 1) ((vi 0).toInt).toNat (vi 1).toInt t) = 3 := fKn_3 hm9 (by omega); exact Or.inr ⟨by decide, by omega, by omega, by omega⟩)
  · exact absurd (a1.symm.trans tb_1) (by decide)
set_option maxHeartbeats 4000000 in
theorem PL_X12_looksAt_1 {fi : Nat → Nat → Int32} {fl : Nat → Nat → Int64} {vi : Nat → Int32} {vl : Nat → Int64} {r : Int32} {fj : Nat → Nat → Int32} {fm : Nat → Nat → Int64} {vj : Nat → Int32} {vm : Nat → Int64} : RL_X12_looksAt_1 fi fl vi vl r fj fm vj vm (PS_X12_looksAt fi fl vi vl r fj fm vj vm) := by
  unfold RL_X12_looksAt_1
  intro hp0 hp1 hp2 hp3 hp4 hp5 hp6 hp7 hp8 hp9 hp10 hp11 hp12 hp13 hp14 hp15 fik flk vik vlk rk gk_1 tb_1 gk_0 fik_1 flk_1 vik_1 vlk_1 rk_1 gk_1_0 gk_1_1 c27 fik_2 flk_2 vik_2 vlk_2 rk_2 gk_2_0 gk_2_1 gk_2_2 q0 q1 q2 q3; subst q0
  unfold PS_X12_looksAt
  intro f n m t hc
  (try simp only [q1, q2, q3]); have k9_0 : (0 : Int32).toInt = 0 := (by decide); have k9_1 : (1 : Int32).toInt = 1 := (by decide); have k9_2 : (3 : Int32).toInt = 3 := (by decide)
  have hc0 := hc
  obtain ⟨hn, hm, ht, ck, cp, ce, cw, cu, cg⟩ := hc0
  rcases gk_1 with ⟨a1, a2, a3⟩ | ⟨a1, a2⟩
  · have h8 := cw (by omega)
    rw [h8] at a3
    have hm9 : wMay f n m (ownB (fl 0)) t := ⟨by omega, a3⟩
    rw [h8] at gk_1_1
    first | exact Or.inl ⟨by decide, fKn_0 hm9 (by omega), hm9, by omega⟩ | (have h7 : (fKn f n m (ownB (fl 0)) (fl 1) ((vi 0).toInt).toNat (vi 1).toInt t) = 3 := fKn_3 hm9 (by omega); exact Or.inr ⟨by decide, by omega, by omega, by omega⟩)
  · exact absurd (a1.symm.trans tb_1) (by decide)
set_option maxHeartbeats 4000000 in
theorem PL_X12_looksAt_2 {fi : Nat → Nat → Int32} {fl : Nat → Nat → Int64} {vi : Nat → Int32} {vl : Nat → Int64} {r : Int32} {fj : Nat → Nat → Int32} {fm : Nat → Nat → Int64} {vj : Nat → Int32} {vm : Nat → Int64} : RL_X12_looksAt_2 fi fl vi vl r fj fm vj vm (PS_X12_looksAt fi fl vi vl r fj fm vj vm) := by
  unfold RL_X12_looksAt_2
  intro hp0 hp1 hp2 hp3 hp4 hp5 hp6 hp7 hp8 hp9 hp10 hp11 hp12 hp13 hp14 hp15 fik flk vik vlk rk gk_1 tb_1 gk_0 fik_3 flk_3 vik_3 vlk_3 rk_3 gk_3_0 gk_3_1 gk_3_2 q0 q1 q2 q3; subst q0
  unfold PS_X12_looksAt
  intro f n m t hc
  (try simp only [q1, q2, q3]); have k9_0 : (0 : Int32).toInt = 0 := (by decide); have k9_1 : (1 : Int32).toInt = 1 := (by decide)
  have hc0 := hc
  obtain ⟨hn, hm, ht, ck, cp, ce, cw, cu, cg⟩ := hc0
  rcases gk_1 with ⟨a1, a2, a3⟩ | ⟨a1, a2⟩
  · exact absurd (a1.symm.trans tb_1) (by decide)
  · have h7 : (fKn f n m (ownB (fl 0)) (fl 1) ((vi 0).toInt).toNat (vi 1).toInt t) = 1 := fKn_1 (fun c => by rcases a2 with a2 | a2; (· omega); (· rw [cw c.1, c.2] at a2; exact absurd a2 (by decide)))
    exact Or.inr ⟨by decide, by omega, by omega, by omega⟩
theorem P_X12_looksAt {fi : Nat → Nat → Int32} {fl : Nat → Nat → Int64} {vi : Nat → Int32} {vl : Nat → Int64} {r : Int32} {fj : Nat → Nat → Int32} {fm : Nat → Nat → Int64} {vj : Nat → Int32} {vm : Nat → Int64} (h : R_X12_looksAt fi fl vi vl r fj fm vj vm) : ∀ (f : Nat → Int32) (n m t : Nat), CC f n m t (vi 4) (vi 6) (vi 7) (vi 8) (vi 5) (vl 0) (vi 10) (vi 10) → (r.toInt = 1 ∧ (fKn f n m (ownB (fl 0)) (fl 1) ((vi 0).toInt).toNat (vi 1).toInt t) = 0 ∧ (wMay f n m (ownB (fl 0)) t) ∧ (vj 0).toInt = fdx (fl 1) ((vi 0).toInt).toNat (sW f n m t) ((vi 1).toInt).toNat) ∨ (r.toInt = 0 ∧ ¬ (fKn f n m (ownB (fl 0)) (fl 1) ((vi 0).toInt).toNat (vi 1).toInt t) = 0 ∧ (vj 1).toInt = (fKn f n m (ownB (fl 0)) (fl 1) ((vi 0).toInt).toNat (vi 1).toInt t) ∧ (vj 2).toInt = (sPn f n m t : Int)) := h (PS_X12_looksAt fi fl vi vl r fj fm vj vm) PL_X12_looksAt_0 PL_X12_looksAt_1 PL_X12_looksAt_2
