def RL_X12_bitOf_0 (fi : Nat → Nat → Int32) (fl : Nat → Nat → Int64) (vi : Nat → Int32) (vl : Nat → Int64) (r : Int32) (fj : Nat → Nat → Int32) (fm : Nat → Nat → Int64) (vj : Nat → Int32) (vm : Nat → Int64) (Q9 : Prop) : Prop :=
  ∀ (z2 : Int32), (z2 = (vi 0) >>> ((vi 1) &&& 31)) → ∀ (z4 : Int32), (z4 = z2 &&& (1 : Int32)) → (¬ z4.toInt = 1) → (r = (0 : Int32)) → Q9
def RL_X12_bitOf_1 (fi : Nat → Nat → Int32) (fl : Nat → Nat → Int64) (vi : Nat → Int32) (vl : Nat → Int64) (r : Int32) (fj : Nat → Nat → Int32) (fm : Nat → Nat → Int64) (vj : Nat → Int32) (vm : Nat → Int64) (Q9 : Prop) : Prop :=
  ∀ (z2 : Int32), (z2 = (vi 0) >>> ((vi 1) &&& 31)) → ∀ (z4 : Int32), (z4 = z2 &&& (1 : Int32)) → (z4.toInt = 1) → (r = (1 : Int32)) → Q9
def R_X12_bitOf (fi : Nat → Nat → Int32) (fl : Nat → Nat → Int64) (vi : Nat → Int32) (vl : Nat → Int64) (r : Int32) (fj : Nat → Nat → Int32) (fm : Nat → Nat → Int64) (vj : Nat → Int32) (vm : Nat → Int64) : Prop :=
  ∀ Q9 : Prop, RL_X12_bitOf_0 fi fl vi vl r fj fm vj vm Q9 → RL_X12_bitOf_1 fi fl vi vl r fj fm vj vm Q9 → Q9
def PS_X12_bitOf (fi : Nat → Nat → Int32) (fl : Nat → Nat → Int64) (vi : Nat → Int32) (vl : Nat → Int64) (r : Int32) (fj : Nat → Nat → Int32) (fm : Nat → Nat → Int64) (vj : Nat → Int32) (vm : Nat → Int64) : Prop :=
  0 ≤ (vi 1).toInt → (vi 1).toInt < 18 → (r.toInt = 1 ∧ ob (vi 0) ((vi 1).toInt).toNat = true) ∨ (r.toInt = 0 ∧ ob (vi 0) ((vi 1).toInt).toNat = false)
set_option maxHeartbeats 4000000 in
theorem PL_X12_bitOf_0 {fi : Nat → Nat → Int32} {fl : Nat → Nat → Int64} {vi : Nat → Int32} {vl : Nat → Int64} {r : Int32} {fj : Nat → Nat → Int32} {fm : Nat → Nat → Int64} {vj : Nat → Int32} {vm : Nat → Int64} : RL_X12_bitOf_0 fi fl vi vl r fj fm vj vm (PS_X12_bitOf fi fl vi vl r fj fm vj vm) := by
  unfold RL_X12_bitOf_0
  intro z2 ez2 z4 ez4 c6 q0; subst q0
  unfold PS_X12_bitOf
  intro h1 h2
  have k9_0 : (0 : Int32).toInt = 0 := (by decide); have k9_1 : (1 : Int32).toInt = 1 := (by decide)
  first | exact Or.inl ⟨by decide, ob_t h1 h2 (by assumption) (by assumption) (by omega)⟩ | exact Or.inr ⟨by decide, ob_f h1 h2 (by assumption) (by assumption) (by omega)⟩
set_option maxHeartbeats 4000000 in
theorem PL_X12_bitOf_1 {fi : Nat → Nat → Int32} {fl : Nat → Nat → Int64} {vi : Nat → Int32} {vl : Nat → Int64} {r : Int32} {fj : Nat → Nat → Int32} {fm : Nat → Nat → Int64} {vj : Nat → Int32} {vm : Nat → Int64} : RL_X12_bitOf_1 fi fl vi vl r fj fm vj vm (PS_X12_bitOf fi fl vi vl r fj fm vj vm) := by
  unfold RL_X12_bitOf_1
  intro z2 ez2 z4 ez4 c6 q0; subst q0
  unfold PS_X12_bitOf
  intro h1 h2
  have k9_0 : (0 : Int32).toInt = 0 := (by decide); have k9_1 : (1 : Int32).toInt = 1 := (by decide)
  first | exact Or.inl ⟨by decide, ob_t h1 h2 (by assumption) (by assumption) (by omega)⟩ | exact Or.inr ⟨by decide, ob_f h1 h2 (by assumption) (by assumption) (by omega)⟩
theorem P_X12_bitOf {fi : Nat → Nat → Int32} {fl : Nat → Nat → Int64} {vi : Nat → Int32} {vl : Nat → Int64} {r : Int32} {fj : Nat → Nat → Int32} {fm : Nat → Nat → Int64} {vj : Nat → Int32} {vm : Nat → Int64} (h : R_X12_bitOf fi fl vi vl r fj fm vj vm) : 0 ≤ (vi 1).toInt → (vi 1).toInt < 18 → (r.toInt = 1 ∧ ob (vi 0) ((vi 1).toInt).toNat = true) ∨ (r.toInt = 0 ∧ ob (vi 0) ((vi 1).toInt).toNat = false) := h (PS_X12_bitOf fi fl vi vl r fj fm vj vm) PL_X12_bitOf_0 PL_X12_bitOf_1
def RL_X12_four_0 (fi : Nat → Nat → Int32) (fl : Nat → Nat → Int64) (vi : Nat → Int32) (vl : Nat → Int64) (r : Int32) (fj : Nat → Nat → Int32) (fm : Nat → Nat → Int64) (vj : Nat → Int32) (vm : Nat → Int64) (Q9 : Prop) : Prop :=
  (0 ≤ (vi 2).toInt ∧ (vi 2).toInt ≤ 940) → (0 ≤ (vi 3).toInt ∧ (vi 3).toInt ≤ 940) → (0 ≤ (vi 4).toInt ∧ (vi 4).toInt ≤ 940) → (0 ≤ (vi 5).toInt ∧ (vi 5).toInt ≤ 940) → (0 ≤ (vi 6).toInt ∧ (vi 6).toInt ≤ 4) → (0 ≤ (vi 7).toInt ∧ (vi 7).toInt ≤ 940) → (0 ≤ (vi 11).toInt ∧ (vi 11).toInt ≤ 940) → (0 ≤ (vi 15).toInt ∧ (vi 15).toInt ≤ 4) → (-1 ≤ (vi 16).toInt ∧ (vi 16).toInt ≤ 9) → (0 ≤ (vi 22).toInt ∧ (vi 22).toInt ≤ 40) → (0 ≤ (vi 24).toInt ∧ (vi 24).toInt ≤ 40) → (0 ≤ (vi 25).toInt ∧ (vi 25).toInt ≤ 20) → (0 ≤ (vi 26).toInt ∧ (vi 26).toInt ≤ 40) → (0 ≤ (vi 28).toInt ∧ (vi 28).toInt ≤ 1) → ((vi 2).toInt ≤ 936) → ∀ (w2 : Int32), ∀ (wf : Nat → Int32), ∀ (wv : Int32), (-8 ≤ w2.toInt ∧ w2.toInt ≤ 24) → (rg wf 0 940 (-128) 127) → (0 ≤ wv.toInt ∧ wv.toInt ≤ 940) → (8 * ((wv).toInt - (vi 2).toInt) = 24 - w2.toInt) → (wf = pf (fi 0) ((vi 2).toInt).toNat (vi 0) ((wv).toInt - (vi 2).toInt).toNat) → (w2.toInt < 0) → (fj 0 = wf) → (vj 0 = wv) → Q9
def R_X12_four (fi : Nat → Nat → Int32) (fl : Nat → Nat → Int64) (vi : Nat → Int32) (vl : Nat → Int64) (r : Int32) (fj : Nat → Nat → Int32) (fm : Nat → Nat → Int64) (vj : Nat → Int32) (vm : Nat → Int64) : Prop :=
  ∀ Q9 : Prop, RL_X12_four_0 fi fl vi vl r fj fm vj vm Q9 → Q9
def PS_X12_four (fi : Nat → Nat → Int32) (fl : Nat → Nat → Int64) (vi : Nat → Int32) (vl : Nat → Int64) (r : Int32) (fj : Nat → Nat → Int32) (fm : Nat → Nat → Int64) (vj : Nat → Int32) (vm : Nat → Int64) : Prop :=
  (fj 0) = pf (fi 0) ((vi 2).toInt).toNat (vi 0) 4 ∧ (vj 0).toInt = (vi 2).toInt + 4
set_option maxHeartbeats 4000000 in
theorem PL_X12_four_0 {fi : Nat → Nat → Int32} {fl : Nat → Nat → Int64} {vi : Nat → Int32} {vl : Nat → Int64} {r : Int32} {fj : Nat → Nat → Int32} {fm : Nat → Nat → Int64} {vj : Nat → Int32} {vm : Nat → Int64} : RL_X12_four_0 fi fl vi vl r fj fm vj vm (PS_X12_four fi fl vi vl r fj fm vj vm) := by
  unfold RL_X12_four_0
  intro hp0 hp1 hp2 hp3 hp4 hp5 hp6 hp7 hp8 hp9 hp10 hp11 hp12 hp13 hp15 w2 wf wv hi hi_1 hi_2 hpl8 hpf9 c4 q0 q1
  unfold PS_X12_four
  (try simp only [q0, q1]); have k9_0 : (0 : Int32).toInt = 0 := (by decide); have k9_1 : (1 : Int32).toInt = 1 := (by decide)
  first | (exfalso; omega) | exact ⟨by rw [hpf9, show ((wv).toInt - (vi 2).toInt).toNat = 4 by omega], by omega⟩
theorem P_X12_four {fi : Nat → Nat → Int32} {fl : Nat → Nat → Int64} {vi : Nat → Int32} {vl : Nat → Int64} {r : Int32} {fj : Nat → Nat → Int32} {fm : Nat → Nat → Int64} {vj : Nat → Int32} {vm : Nat → Int64} (h : R_X12_four fi fl vi vl r fj fm vj vm) : (fj 0) = pf (fi 0) ((vi 2).toInt).toNat (vi 0) 4 ∧ (vj 0).toInt = (vi 2).toInt + 4 := h (PS_X12_four fi fl vi vl r fj fm vj vm) PL_X12_four_0
def RL_X12_feed_0 (fi : Nat → Nat → Int32) (fl : Nat → Nat → Int64) (vi : Nat → Int32) (vl : Nat → Int64) (r : Int32) (fj : Nat → Nat → Int32) (fm : Nat → Nat → Int64) (vj : Nat → Int32) (vm : Nat → Int64) (Q9 : Prop) : Prop :=
  (0 ≤ (vi 6).toInt ∧ (vi 6).toInt ≤ 940) → (0 ≤ (vi 7).toInt ∧ (vi 7).toInt ≤ 940) → (0 ≤ (vi 8).toInt ∧ (vi 8).toInt ≤ 940) → (0 ≤ (vi 9).toInt ∧ (vi 9).toInt ≤ 940) → (0 ≤ (vi 10).toInt ∧ (vi 10).toInt ≤ 4) → (0 ≤ (vi 11).toInt ∧ (vi 11).toInt ≤ 940) → (0 ≤ (vi 15).toInt ∧ (vi 15).toInt ≤ 940) → (0 ≤ (vi 19).toInt ∧ (vi 19).toInt ≤ 4) → (-1 ≤ (vi 20).toInt ∧ (vi 20).toInt ≤ 9) → (0 ≤ (vi 26).toInt ∧ (vi 26).toInt ≤ 40) → (0 ≤ (vi 28).toInt ∧ (vi 28).toInt ≤ 40) → (0 ≤ (vi 29).toInt ∧ (vi 29).toInt ≤ 20) → (0 ≤ (vi 30).toInt ∧ (vi 30).toInt ≤ 40) → (0 ≤ (vi 32).toInt ∧ (vi 32).toInt ≤ 1) → (((vi 6) + 20).toInt = (vi 6).toInt + 20) → (((vi 6) + 20).toInt ≤ 940) → ∀ (fik : Nat → Nat → Int32), ∀ (flk : Nat → Nat → Int64), ∀ (vik : Nat → Int32), ∀ (vlk : Nat → Int64), ∀ (uk : Int32), (0 ≤ (vik 0).toInt ∧ (vik 0).toInt ≤ 940) → ((vik 0).toInt = (vi 6).toInt + 4) → ((fik 0) = pf (fi 0) ((vi 6).toInt).toNat (vi 0) 4 ∧ (vik 0).toInt = (vi 6).toInt + 4) → ∀ (fik_1 : Nat → Nat → Int32), ∀ (flk_1 : Nat → Nat → Int64), ∀ (vik_1 : Nat → Int32), ∀ (vlk_1 : Nat → Int64), ∀ (uk_1 : Int32), (0 ≤ (vik_1 0).toInt ∧ (vik_1 0).toInt ≤ 940) → ((vik_1 0).toInt = (vik 0).toInt + 4) → ((fik_1 0) = pf (fik 0) ((vik 0).toInt).toNat (vi 1) 4 ∧ (vik_1 0).toInt = (vik 0).toInt + 4) → ∀ (fik_2 : Nat → Nat → Int32), ∀ (flk_2 : Nat → Nat → Int64), ∀ (vik_2 : Nat → Int32), ∀ (vlk_2 : Nat → Int64), ∀ (uk_2 : Int32), (0 ≤ (vik_2 0).toInt ∧ (vik_2 0).toInt ≤ 940) → ((vik_2 0).toInt = (vik_1 0).toInt + 4) → ((fik_2 0) = pf (fik_1 0) ((vik_1 0).toInt).toNat (vi 2) 4 ∧ (vik_2 0).toInt = (vik_1 0).toInt + 4) → ∀ (fik_3 : Nat → Nat → Int32), ∀ (flk_3 : Nat → Nat → Int64), ∀ (vik_3 : Nat → Int32), ∀ (vlk_3 : Nat → Int64), ∀ (uk_3 : Int32), (0 ≤ (vik_3 0).toInt ∧ (vik_3 0).toInt ≤ 940) → ((vik_3 0).toInt = (vik_2 0).toInt + 4) → ((fik_3 0) = pf (fik_2 0) ((vik_2 0).toInt).toNat (vi 3) 4 ∧ (vik_3 0).toInt = (vik_2 0).toInt + 4) → ∀ (fik_4 : Nat → Nat → Int32), ∀ (flk_4 : Nat → Nat → Int64), ∀ (vik_4 : Nat → Int32), ∀ (vlk_4 : Nat → Int64), ∀ (uk_4 : Int32), (0 ≤ (vik_4 0).toInt ∧ (vik_4 0).toInt ≤ 940) → ((vik_4 0).toInt = (vik_3 0).toInt + 4) → ((fik_4 0) = pf (fik_3 0) ((vik_3 0).toInt).toNat (vi 4) 4 ∧ (vik_4 0).toInt = (vik_3 0).toInt + 4) → (r = (vik_4 0)) → (fj 0 = (fik_4 0)) → (vj 0 = (0 : Int32)) → (vj 1 = (vik_4 0)) → Q9
def RL_X12_feed_1 (fi : Nat → Nat → Int32) (fl : Nat → Nat → Int64) (vi : Nat → Int32) (vl : Nat → Int64) (r : Int32) (fj : Nat → Nat → Int32) (fm : Nat → Nat → Int64) (vj : Nat → Int32) (vm : Nat → Int64) (Q9 : Prop) : Prop :=
  (0 ≤ (vi 6).toInt ∧ (vi 6).toInt ≤ 940) → (0 ≤ (vi 7).toInt ∧ (vi 7).toInt ≤ 940) → (0 ≤ (vi 8).toInt ∧ (vi 8).toInt ≤ 940) → (0 ≤ (vi 9).toInt ∧ (vi 9).toInt ≤ 940) → (0 ≤ (vi 10).toInt ∧ (vi 10).toInt ≤ 4) → (0 ≤ (vi 11).toInt ∧ (vi 11).toInt ≤ 940) → (0 ≤ (vi 15).toInt ∧ (vi 15).toInt ≤ 940) → (0 ≤ (vi 19).toInt ∧ (vi 19).toInt ≤ 4) → (-1 ≤ (vi 20).toInt ∧ (vi 20).toInt ≤ 9) → (0 ≤ (vi 26).toInt ∧ (vi 26).toInt ≤ 40) → (0 ≤ (vi 28).toInt ∧ (vi 28).toInt ≤ 40) → (0 ≤ (vi 29).toInt ∧ (vi 29).toInt ≤ 20) → (0 ≤ (vi 30).toInt ∧ (vi 30).toInt ≤ 40) → (0 ≤ (vi 32).toInt ∧ (vi 32).toInt ≤ 1) → (((vi 6) + 20).toInt = (vi 6).toInt + 20) → (940 < ((vi 6) + 20).toInt) → (r = ((-1) : Int32)) → (fj 0 = (fi 0)) → (vj 0 = (0 : Int32)) → (vj 1 = (vi 6)) → Q9
def R_X12_feed (fi : Nat → Nat → Int32) (fl : Nat → Nat → Int64) (vi : Nat → Int32) (vl : Nat → Int64) (r : Int32) (fj : Nat → Nat → Int32) (fm : Nat → Nat → Int64) (vj : Nat → Int32) (vm : Nat → Int64) : Prop :=
  ∀ Q9 : Prop, RL_X12_feed_0 fi fl vi vl r fj fm vj vm Q9 → RL_X12_feed_1 fi fl vi vl r fj fm vj vm Q9 → Q9
def PS_X12_feed (fi : Nat → Nat → Int32) (fl : Nat → Nat → Int64) (vi : Nat → Int32) (vl : Nat → Int64) (r : Int32) (fj : Nat → Nat → Int32) (fm : Nat → Nat → Int64) (vj : Nat → Int32) (vm : Nat → Int64) : Prop :=
  ((vi 6).toInt ≤ 920 ∧ (fj 0) = pf5 (fi 0) ((vi 6).toInt).toNat (vi 0) (vi 1) (vi 2) (vi 3) (vi 4) ∧ (vj 1).toInt = (vi 6).toInt + 20) ∨ (¬ (vi 6).toInt ≤ 920 ∧ (fj 0) = (fi 0) ∧ (vj 1).toInt = (vi 6).toInt)
set_option maxHeartbeats 4000000 in
theorem PL_X12_feed_0 {fi : Nat → Nat → Int32} {fl : Nat → Nat → Int64} {vi : Nat → Int32} {vl : Nat → Int64} {r : Int32} {fj : Nat → Nat → Int32} {fm : Nat → Nat → Int64} {vj : Nat → Int32} {vm : Nat → Int64} : RL_X12_feed_0 fi fl vi vl r fj fm vj vm (PS_X12_feed fi fl vi vl r fj fm vj vm) := by
  unfold RL_X12_feed_0
  intro hp0 hp1 hp2 hp3 hp4 hp5 hp6 hp7 hp8 hp9 hp10 hp11 hp12 hp13 tt c15 fik flk vik vlk uk gk_0 gk_2 gk_3 fik_1 flk_1 vik_1 vlk_1 uk_1 gk_1_0 gk_1_2 gk_1_3 fik_2 flk_2 vik_2 vlk_2 uk_2 gk_2_0 gk_2_2 gk_2_3 fik_3 flk_3 vik_3 vlk_3 uk_3 gk_3_0 gk_3_2 gk_3_3 fik_4 flk_4 vik_4 vlk_4 uk_4 gk_4_0 gk_4_2 gk_4_3 q0 q1 q2 q3; subst q0
  unfold PS_X12_feed
  (try simp only [q1, q2, q3]); have k9_0 : (0 : Int32).toInt = 0 := (by decide); have k9_1 : (1 : Int32).toInt = 1 := (by decide)
  obtain ⟨p0, l0⟩ := gk_3
  obtain ⟨p1, l1⟩ := gk_1_3
  obtain ⟨p2, l2⟩ := gk_2_3
  obtain ⟨p3, l3⟩ := gk_3_3
  obtain ⟨p4, l4⟩ := gk_4_3
  refine Or.inl ⟨by omega, ?_, by omega⟩
  rw [p4, show ((vik_3 0).toInt).toNat = ((vi 6).toInt).toNat + 16 by omega, p3, show ((vik_2 0).toInt).toNat = ((vi 6).toInt).toNat + 12 by omega, p2, show ((vik_1 0).toInt).toNat = ((vi 6).toInt).toNat + 8 by omega, p1, show ((vik 0).toInt).toNat = ((vi 6).toInt).toNat + 4 by omega, p0]
  rfl
set_option maxHeartbeats 4000000 in
theorem PL_X12_feed_1 {fi : Nat → Nat → Int32} {fl : Nat → Nat → Int64} {vi : Nat → Int32} {vl : Nat → Int64} {r : Int32} {fj : Nat → Nat → Int32} {fm : Nat → Nat → Int64} {vj : Nat → Int32} {vm : Nat → Int64} : RL_X12_feed_1 fi fl vi vl r fj fm vj vm (PS_X12_feed fi fl vi vl r fj fm vj vm) := by
  unfold RL_X12_feed_1
  intro hp0 hp1 hp2 hp3 hp4 hp5 hp6 hp7 hp8 hp9 hp10 hp11 hp12 hp13 tt c15 q0 q1 q2 q3; subst q0
  unfold PS_X12_feed
  (try simp only [q1, q2, q3]); have k9_0 : ((-1) : Int32).toInt = (-1) := (by decide); have k9_1 : (0 : Int32).toInt = 0 := (by decide); have k9_2 : (1 : Int32).toInt = 1 := (by decide)
  exact Or.inr ⟨by omega, by first | rfl | trivial, by first | rfl | trivial | omega⟩
theorem P_X12_feed {fi : Nat → Nat → Int32} {fl : Nat → Nat → Int64} {vi : Nat → Int32} {vl : Nat → Int64} {r : Int32} {fj : Nat → Nat → Int32} {fm : Nat → Nat → Int64} {vj : Nat → Int32} {vm : Nat → Int64} (h : R_X12_feed fi fl vi vl r fj fm vj vm) : ((vi 6).toInt ≤ 920 ∧ (fj 0) = pf5 (fi 0) ((vi 6).toInt).toNat (vi 0) (vi 1) (vi 2) (vi 3) (vi 4) ∧ (vj 1).toInt = (vi 6).toInt + 20) ∨ (¬ (vi 6).toInt ≤ 920 ∧ (fj 0) = (fi 0) ∧ (vj 1).toInt = (vi 6).toInt) := h (PS_X12_feed fi fl vi vl r fj fm vj vm) PL_X12_feed_0 PL_X12_feed_1
def RL_X12_nots_0 (fi : Nat → Nat → Int32) (fl : Nat → Nat → Int64) (vi : Nat → Int32) (vl : Nat → Int64) (r : Int32) (fj : Nat → Nat → Int32) (fm : Nat → Nat → Int64) (vj : Nat → Int32) (vm : Nat → Int64) (Q9 : Prop) : Prop :=
  (0 ≤ (vi 1).toInt ∧ (vi 1).toInt ≤ 940) → (0 ≤ (vi 2).toInt ∧ (vi 2).toInt ≤ 940) → (0 ≤ (vi 3).toInt ∧ (vi 3).toInt ≤ 940) → (0 ≤ (vi 4).toInt ∧ (vi 4).toInt ≤ 940) → (0 ≤ (vi 5).toInt ∧ (vi 5).toInt ≤ 4) → (0 ≤ (vi 6).toInt ∧ (vi 6).toInt ≤ 940) → (0 ≤ (vi 10).toInt ∧ (vi 10).toInt ≤ 940) → (0 ≤ (vi 14).toInt ∧ (vi 14).toInt ≤ 4) → (-1 ≤ (vi 15).toInt ∧ (vi 15).toInt ≤ 9) → (0 ≤ (vi 21).toInt ∧ (vi 21).toInt ≤ 40) → (0 ≤ (vi 23).toInt ∧ (vi 23).toInt ≤ 40) → (0 ≤ (vi 24).toInt ∧ (vi 24).toInt ≤ 20) → (0 ≤ (vi 25).toInt ∧ (vi 25).toInt ≤ 40) → (0 ≤ (vi 27).toInt ∧ (vi 27).toInt ≤ 1) → (sj (fi 1) (fi 0) (vi 23) (vi 25) 1) → ((vi 25).toInt + (vi 23).toInt ≤ 39) → ∀ (wv : Int32), ∀ (wv_1 : Int32), ∀ (wf : Nat → Int32), ∀ (wv_2 : Int32), (0 ≤ wv.toInt ∧ wv.toInt ≤ 40) → (0 ≤ wv_2.toInt ∧ wv_2.toInt ≤ 40) → (sj wf (fi 0) wv_2 wv 1) → ((wv).toInt + (wv_2).toInt = (vi 25).toInt + (vi 23).toInt) → ((wv).toInt ≤ (vi 25).toInt) → ((vi 26).toInt = ((flt (fi 0) ((vi 25).toInt).toNat).length : Int) + 1 → sps (flt (fi 0) ((wv).toInt).toNat) = sps (flt (fi 0) ((vi 25).toInt).toNat) ∧ (wv_1).toInt = ((flt (fi 0) ((wv).toInt).toNat).length : Int) + 1) → (wv.toInt ≤ 0) → (fj 0 = wf) → (vj 0 = wv) → (vj 1 = wv_1) → (vj 2 = wv_2) → Q9
def RL_X12_nots_1 (fi : Nat → Nat → Int32) (fl : Nat → Nat → Int64) (vi : Nat → Int32) (vl : Nat → Int64) (r : Int32) (fj : Nat → Nat → Int32) (fm : Nat → Nat → Int64) (vj : Nat → Int32) (vm : Nat → Int64) (Q9 : Prop) : Prop :=
  (0 ≤ (vi 1).toInt ∧ (vi 1).toInt ≤ 940) → (0 ≤ (vi 2).toInt ∧ (vi 2).toInt ≤ 940) → (0 ≤ (vi 3).toInt ∧ (vi 3).toInt ≤ 940) → (0 ≤ (vi 4).toInt ∧ (vi 4).toInt ≤ 940) → (0 ≤ (vi 5).toInt ∧ (vi 5).toInt ≤ 4) → (0 ≤ (vi 6).toInt ∧ (vi 6).toInt ≤ 940) → (0 ≤ (vi 10).toInt ∧ (vi 10).toInt ≤ 940) → (0 ≤ (vi 14).toInt ∧ (vi 14).toInt ≤ 4) → (-1 ≤ (vi 15).toInt ∧ (vi 15).toInt ≤ 9) → (0 ≤ (vi 21).toInt ∧ (vi 21).toInt ≤ 40) → (0 ≤ (vi 23).toInt ∧ (vi 23).toInt ≤ 40) → (0 ≤ (vi 24).toInt ∧ (vi 24).toInt ≤ 20) → (0 ≤ (vi 25).toInt ∧ (vi 25).toInt ≤ 40) → (0 ≤ (vi 27).toInt ∧ (vi 27).toInt ≤ 1) → (sj (fi 1) (fi 0) (vi 23) (vi 25) 1) → ((vi 25).toInt + (vi 23).toInt ≤ 39) → ∀ (wv : Int32), ∀ (wv_1 : Int32), ∀ (wf : Nat → Int32), ∀ (wv_2 : Int32), (0 ≤ wv.toInt ∧ wv.toInt ≤ 40) → (0 ≤ wv_2.toInt ∧ wv_2.toInt ≤ 40) → (sj wf (fi 0) wv_2 wv 1) → ((wv).toInt + (wv_2).toInt = (vi 25).toInt + (vi 23).toInt) → ((wv).toInt ≤ (vi 25).toInt) → ((vi 26).toInt = ((flt (fi 0) ((vi 25).toInt).toNat).length : Int) + 1 → sps (flt (fi 0) ((wv).toInt).toNat) = sps (flt (fi 0) ((vi 25).toInt).toNat) ∧ (wv_1).toInt = ((flt (fi 0) ((wv).toInt).toNat).length : Int) + 1) → (0 < wv.toInt) → ((wv - 1).toInt = wv.toInt - 1) → (¬ ((fi 0) (wv - 1).toNatClampNeg).toInt = 20) → (fj 0 = wf) → (vj 0 = wv) → (vj 1 = wv_1) → (vj 2 = wv_2) → Q9
def R_X12_nots (fi : Nat → Nat → Int32) (fl : Nat → Nat → Int64) (vi : Nat → Int32) (vl : Nat → Int64) (r : Int32) (fj : Nat → Nat → Int32) (fm : Nat → Nat → Int64) (vj : Nat → Int32) (vm : Nat → Int64) : Prop :=
  ∀ Q9 : Prop, RL_X12_nots_0 fi fl vi vl r fj fm vj vm Q9 → RL_X12_nots_1 fi fl vi vl r fj fm vj vm Q9 → Q9
def PS_X12_nots (fi : Nat → Nat → Int32) (fl : Nat → Nat → Int64) (vi : Nat → Int32) (vl : Nat → Int64) (r : Int32) (fj : Nat → Nat → Int32) (fm : Nat → Nat → Int64) (vj : Nat → Int32) (vm : Nat → Int64) : Prop :=
  nsk (fi 0) (vi 25).toInt → (vi 26).toInt = ((flt (fi 0) ((vi 25).toInt).toNat).length : Int) + 1 → flt (fi 0) ((vj 0).toInt).toNat = sps (flt (fi 0) ((vi 25).toInt).toNat) ∧ (vj 1).toInt = ((flt (fi 0) ((vj 0).toInt).toNat).length : Int) + 1 ∧ nnt (fi 0) (vj 0).toInt ∧ 0 ≤ (vj 0).toInt ∧ (vj 0).toInt ≤ (vi 25).toInt
set_option maxHeartbeats 4000000 in
theorem PL_X12_nots_0 {fi : Nat → Nat → Int32} {fl : Nat → Nat → Int64} {vi : Nat → Int32} {vl : Nat → Int64} {r : Int32} {fj : Nat → Nat → Int32} {fm : Nat → Nat → Int64} {vj : Nat → Int32} {vm : Nat → Int64} : RL_X12_nots_0 fi fl vi vl r fj fm vj vm (PS_X12_nots fi fl vi vl r fj fm vj vm) := by
  unfold RL_X12_nots_0
  intro hp0 hp1 hp2 hp3 hp4 hp5 hp6 hp7 hp8 hp9 hp10 hp11 hp12 hp13 hp14 hp15 wv wv_1 wf wv_2 hi hi_1 hsj9 hsu9 hle9 hno9 c4 q0 q1 q2 q3
  unfold PS_X12_nots
  intro hs hd
  (try simp only [q0, q1, q2, q3]); have k9_0 : (0 : Int32).toInt = 0 := (by decide); have k9_1 : (1 : Int32).toInt = 1 := (by decide)
  have h8 := hno9 hd
  have hn9 := nnt_of (q := (fi 0)) (x := wv) (by omega) (by first | exact Or.inl (by omega) | exact Or.inr (by omega))
  exact ⟨(flt_np (nsk_le hs (by omega)) (by omega) hn9).symm.trans h8.1, h8.2, hn9, by omega, by omega⟩
set_option maxHeartbeats 4000000 in
theorem PL_X12_nots_1 {fi : Nat → Nat → Int32} {fl : Nat → Nat → Int64} {vi : Nat → Int32} {vl : Nat → Int64} {r : Int32} {fj : Nat → Nat → Int32} {fm : Nat → Nat → Int64} {vj : Nat → Int32} {vm : Nat → Int64} : RL_X12_nots_1 fi fl vi vl r fj fm vj vm (PS_X12_nots fi fl vi vl r fj fm vj vm) := by
  unfold RL_X12_nots_1
  intro hp0 hp1 hp2 hp3 hp4 hp5 hp6 hp7 hp8 hp9 hp10 hp11 hp12 hp13 hp14 hp15 wv wv_1 wf wv_2 hi hi_1 hsj9 hsu9 hle9 hno9 c4 tt c20 q0 q1 q2 q3
  unfold PS_X12_nots
  intro hs hd
  (try simp only [q0, q1, q2, q3]); have k9_0 : (0 : Int32).toInt = 0 := (by decide); have k9_1 : (1 : Int32).toInt = 1 := (by decide)
  have h8 := hno9 hd
  have hn9 := nnt_of (q := (fi 0)) (x := wv) (by omega) (by first | exact Or.inl (by omega) | exact Or.inr (by omega))
  exact ⟨(flt_np (nsk_le hs (by omega)) (by omega) hn9).symm.trans h8.1, h8.2, hn9, by omega, by omega⟩
theorem P_X12_nots {fi : Nat → Nat → Int32} {fl : Nat → Nat → Int64} {vi : Nat → Int32} {vl : Nat → Int64} {r : Int32} {fj : Nat → Nat → Int32} {fm : Nat → Nat → Int64} {vj : Nat → Int32} {vm : Nat → Int64} (h : R_X12_nots fi fl vi vl r fj fm vj vm) : nsk (fi 0) (vi 25).toInt → (vi 26).toInt = ((flt (fi 0) ((vi 25).toInt).toNat).length : Int) + 1 → flt (fi 0) ((vj 0).toInt).toNat = sps (flt (fi 0) ((vi 25).toInt).toNat) ∧ (vj 1).toInt = ((flt (fi 0) ((vj 0).toInt).toNat).length : Int) + 1 ∧ nnt (fi 0) (vj 0).toInt ∧ 0 ≤ (vj 0).toInt ∧ (vj 0).toInt ≤ (vi 25).toInt := h (PS_X12_nots fi fl vi vl r fj fm vj vm) PL_X12_nots_0 PL_X12_nots_1
