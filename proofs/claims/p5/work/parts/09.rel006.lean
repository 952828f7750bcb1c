def RL_X6_passKnown_0 (fi : Nat → Nat → Int32) (fl : Nat → Nat → Int64) (vi : Nat → Int32) (vl : Nat → Int64) (r : Int32) (fj : Nat → Nat → Int32) (fm : Nat → Nat → Int64) (vj : Nat → Int32) (vm : Nat → Int64) (Q9 : Prop) : Prop :=
  (0 ≤ (vi 2).toInt ∧ (vi 2).toInt ≤ 940) → (0 ≤ (vi 3).toInt ∧ (vi 3).toInt ≤ 940) → (0 ≤ (vi 4).toInt ∧ (vi 4).toInt ≤ 940) → (0 ≤ (vi 6).toInt ∧ (vi 6).toInt ≤ 940) → (0 ≤ (vi 11).toInt ∧ (vi 11).toInt ≤ 940) → ∀ (fik : Nat → Nat → Int32), ∀ (flk : Nat → Nat → Int64), ∀ (vik : Nat → Int32), ∀ (vlk : Nat → Int64), ∀ (rk : Int32), (DJ (rk.toInt = 1 ∧ (vi 5).toInt = 1 ∧ ownB (fl 0) (vl 0) = false) (rk.toInt = 0 ∧ (¬ (vi 5).toInt = 1 ∨ ownB (fl 0) (vl 0) = true))) → (rk.toInt = 1) → (True) → (¬ (vi 0).toInt = (-1)) → ∀ (fik_1 : Nat → Nat → Int32), ∀ (flk_1 : Nat → Nat → Int64), ∀ (vik_1 : Nat → Int32), ∀ (vlk_1 : Nat → Int64), ∀ (uk_1 : Int32), (0 ≤ (vik_1 4).toInt ∧ (vik_1 4).toInt ≤ 940) → (0 ≤ (vik_1 1).toInt ∧ (vik_1 1).toInt ≤ 940) → (∀ n m : Nat, (vi 2).toInt = (n : Int) → (vi 3).toInt = (m : Int) → (vi 4).toInt ≤ (vi 2).toInt → CC (trn (fi 0) n) n m ((vi 4).toInt).toNat (vi 2) (vi 3) (vik_1 0) (vik_1 1) (vik_1 4) (vlk_1 0) (vik_1 3) (vik_1 2)) → (r = (1 : Int32)) → (vj 0 = (vi 0)) → (vj 1 = (vik_1 0)) → (vj 2 = (vik_1 1)) → (vj 3 = (vik_1 2)) → (vj 4 = (vik_1 3)) → (vj 5 = (vik_1 4)) → (vj 6 = (vi 10)) → (vj 7 = (vi 11)) → (vm 0 = (vlk_1 0)) → Q9
def RL_X6_passKnown_1 (fi : Nat → Nat → Int32) (fl : Nat → Nat → Int64) (vi : Nat → Int32) (vl : Nat → Int64) (r : Int32) (fj : Nat → Nat → Int32) (fm : Nat → Nat → Int64) (vj : Nat → Int32) (vm : Nat → Int64) (Q9 : Prop) : Prop :=
  (0 ≤ (vi 2).toInt ∧ (vi 2).toInt ≤ 940) → (0 ≤ (vi 3).toInt ∧ (vi 3).toInt ≤ 940) → (0 ≤ (vi 4).toInt ∧ (vi 4).toInt ≤ 940) → (0 ≤ (vi 6).toInt ∧ (vi 6).toInt ≤ 940) → (0 ≤ (vi 11).toInt ∧ (vi 11).toInt ≤ 940) → ∀ (fik : Nat → Nat → Int32), ∀ (flk : Nat → Nat → Int64), ∀ (vik : Nat → Int32), ∀ (vlk : Nat → Int64), ∀ (rk : Int32), (DJ (rk.toInt = 1 ∧ (vi 5).toInt = 1 ∧ ownB (fl 0) (vl 0) = false) (rk.toInt = 0 ∧ (¬ (vi 5).toInt = 1 ∨ ownB (fl 0) (vl 0) = true))) → (rk.toInt = 1) → (True) → ((vi 0).toInt = (-1)) → ∀ (fik_2 : Nat → Nat → Int32), ∀ (flk_2 : Nat → Nat → Int64), ∀ (vik_2 : Nat → Int32), ∀ (vlk_2 : Nat → Int64), ∀ (rk_2 : Int32), (rk_2 = 0) → (0 ≤ (vik_2 1).toInt ∧ (vik_2 1).toInt ≤ 940) → ((vik_2 0).toInt = (3 : Int32).toInt ∧ (vik_2 1).toInt = (vi 6).toInt) → (r = (0 : Int32)) → (vj 0 = (vi 9)) → (vj 1 = (vi 5)) → (vj 2 = (vi 6)) → (vj 3 = (vi 8)) → (vj 4 = (vi 7)) → (vj 5 = (vi 4)) → (vj 6 = (vik_2 0)) → (vj 7 = (vik_2 1)) → (vm 0 = (vl 0)) → Q9
def RL_X6_passKnown_2 (fi : Nat → Nat → Int32) (fl : Nat → Nat → Int64) (vi : Nat → Int32) (vl : Nat → Int64) (r : Int32) (fj : Nat → Nat → Int32) (fm : Nat → Nat → Int64) (vj : Nat → Int32) (vm : Nat → Int64) (Q9 : Prop) : Prop :=
  (0 ≤ (vi 2).toInt ∧ (vi 2).toInt ≤ 940) → (0 ≤ (vi 3).toInt ∧ (vi 3).toInt ≤ 940) → (0 ≤ (vi 4).toInt ∧ (vi 4).toInt ≤ 940) → (0 ≤ (vi 6).toInt ∧ (vi 6).toInt ≤ 940) → (0 ≤ (vi 11).toInt ∧ (vi 11).toInt ≤ 940) → ∀ (fik : Nat → Nat → Int32), ∀ (flk : Nat → Nat → Int64), ∀ (vik : Nat → Int32), ∀ (vlk : Nat → Int64), ∀ (rk : Int32), (DJ (rk.toInt = 1 ∧ (vi 5).toInt = 1 ∧ ownB (fl 0) (vl 0) = false) (rk.toInt = 0 ∧ (¬ (vi 5).toInt = 1 ∨ ownB (fl 0) (vl 0) = true))) → (rk.toInt = 0) → (True) → ∀ (fik_3 : Nat → Nat → Int32), ∀ (flk_3 : Nat → Nat → Int64), ∀ (vik_3 : Nat → Int32), ∀ (vlk_3 : Nat → Int64), ∀ (rk_3 : Int32), (rk_3 = 0) → (0 ≤ (vik_3 1).toInt ∧ (vik_3 1).toInt ≤ 940) → ((vik_3 0).toInt = (1 : Int32).toInt ∧ (vik_3 1).toInt = (vi 6).toInt) → (r = (0 : Int32)) → (vj 0 = (vi 9)) → (vj 1 = (vi 5)) → (vj 2 = (vi 6)) → (vj 3 = (vi 8)) → (vj 4 = (vi 7)) → (vj 5 = (vi 4)) → (vj 6 = (vik_3 0)) → (vj 7 = (vik_3 1)) → (vm 0 = (vl 0)) → Q9
def R_X6_passKnown (fi : Nat → Nat → Int32) (fl : Nat → Nat → Int64) (vi : Nat → Int32) (vl : Nat → Int64) (r : Int32) (fj : Nat → Nat → Int32) (fm : Nat → Nat → Int64) (vj : Nat → Int32) (vm : Nat → Int64) : Prop :=
  ∀ Q9 : Prop, RL_X6_passKnown_0 fi fl vi vl r fj fm vj vm Q9 → RL_X6_passKnown_1 fi fl vi vl r fj fm vj vm Q9 → RL_X6_passKnown_2 fi fl vi vl r fj fm vj vm Q9 → Q9
def PS_X6_passKnown (fi : Nat → Nat → Int32) (fl : Nat → Nat → Int64) (vi : Nat → Int32) (vl : Nat → Int64) (r : Int32) (fj : Nat → Nat → Int32) (fm : Nat → Nat → Int64) (vj : Nat → Int32) (vm : Nat → Int64) : Prop :=
  ∀ n m t : Nat, CC (trn (fi 0) n) n m t (vi 2) (vi 3) (vi 5) (vi 6) (vi 4) (vl 0) (vi 7) (vi 8) → (r.toInt = 1 ∧ (wMay (trn (fi 0) n) n m (ownB (fl 0)) t) ∧ ¬ (vi 0).toInt = -1 ∧ (vj 0).toInt = (vi 0).toInt ∧ CC (trn (fi 0) n) n m (sX (trn (fi 0) n) n m t) (vi 2) (vi 3) (vj 1) (vj 2) (vj 5) (vm 0) (vj 4) (vj 3)) ∨ (r.toInt = 0 ∧ ¬ (wMay (trn (fi 0) n) n m (ownB (fl 0)) t) ∧ (vj 6).toInt = 1 ∧ (vj 7).toInt = ((sPn (trn (fi 0) n) n m t) : Int)) ∨ (r.toInt = 0 ∧ (wMay (trn (fi 0) n) n m (ownB (fl 0)) t) ∧ (vi 0).toInt = -1 ∧ (vj 6).toInt = 3 ∧ (vj 7).toInt = ((sPn (trn (fi 0) n) n m t) : Int))
set_option maxHeartbeats 4000000 in
theorem PL_X6_passKnown_0 {fi : Nat → Nat → Int32} {fl : Nat → Nat → Int64} {vi : Nat → Int32} {vl : Nat → Int64} {r : Int32} {fj : Nat → Nat → Int32} {fm : Nat → Nat → Int64} {vj : Nat → Int32} {vm : Nat → Int64} : RL_X6_passKnown_0 fi fl vi vl r fj fm vj vm (PS_X6_passKnown fi fl vi vl r fj fm vj vm) := by
  unfold RL_X6_passKnown_0
  intro hp0 hp1 hp2 hp3 hp4 fik flk vik vlk rk gk_1 tb gk_0 c15 fik_1 flk_1 vik_1 vlk_1 uk_1 gk_1_0 gk_1_1 gk_1_2 q0 q1 q2 q3 q4 q5 q6 q7 q8 q9; subst q0
  unfold PS_X6_passKnown
  intro n m t hc
  (try simp only [q1, q2, q3, q4, q5, q6, q7, q8, q9]); have k9_0 : (0 : Int32).toInt = 0 := (by decide); have k9_1 : (1 : Int32).toInt = 1 := (by decide)
  have hc0 := hc
  obtain ⟨hn, hm, ht, ck, cp, ce, cw, cu, cg⟩ := hc0
  rcases gk_1 with ⟨a1, a2, a3⟩ | ⟨a1, a2⟩
  · have h8 := cw (by omega)
    rw [h8] at a3
    first | exact Or.inl ⟨by decide, ⟨by omega, a3⟩, by omega, by omega, CC_nx hc (by assumption)⟩ | exact Or.inr (Or.inr ⟨by decide, ⟨by omega, a3⟩, by omega, by omega, by omega⟩)
  · exact absurd (a1.symm.trans tb) (by decide)
set_option maxHeartbeats 4000000 in
theorem PL_X6_passKnown_1 {fi : Nat → Nat → Int32} {fl : Nat → Nat → Int64} {vi : Nat → Int32} {vl : Nat → Int64} {r : Int32} {fj : Nat → Nat → Int32} {fm : Nat → Nat → Int64} {vj : Nat → Int32} {vm : Nat → Int64} : RL_X6_passKnown_1 fi fl vi vl r fj fm vj vm (PS_X6_passKnown fi fl vi vl r fj fm vj vm) := by
  unfold RL_X6_passKnown_1
  intro hp0 hp1 hp2 hp3 hp4 fik flk vik vlk rk gk_1 tb gk_0 c15 fik_2 flk_2 vik_2 vlk_2 rk_2 gk_2_0 gk_2_1 gk_2_2 q0 q1 q2 q3 q4 q5 q6 q7 q8 q9; subst q0
  unfold PS_X6_passKnown
  intro n m t hc
  (try simp only [q1, q2, q3, q4, q5, q6, q7, q8, q9]); have k9_0 : (0 : Int32).toInt = 0 := (by decide); have k9_1 : (1 : Int32).toInt = 1 := (by decide); have k9_2 : (3 : Int32).toInt = 3 := (by decide)
  have hc0 := hc
  obtain ⟨hn, hm, ht, ck, cp, ce, cw, cu, cg⟩ := hc0
  rcases gk_1 with ⟨a1, a2, a3⟩ | ⟨a1, a2⟩
  · have h8 := cw (by omega)
    rw [h8] at a3
    first | exact Or.inl ⟨by decide, ⟨by omega, a3⟩, by omega, by omega, CC_nx hc (by assumption)⟩ | exact Or.inr (Or.inr ⟨by decide, ⟨by omega, a3⟩, by omega, by omega, by omega⟩)
  · exact absurd (a1.symm.trans tb) (by decide)
set_option maxHeartbeats 4000000 in
theorem PL_X6_passKnown_2 {fi : Nat → Nat → Int32} {fl : Nat → Nat → Int64} {vi : Nat → Int32} {vl : Nat → Int64} {r : Int32} {fj : Nat → Nat → Int32} {fm : Nat → Nat → Int64} {vj : Nat → Int32} {vm : Nat → Int64} : RL_X6_passKnown_2 fi fl vi vl r fj fm vj vm (PS_X6_passKnown fi fl vi vl r fj fm vj vm) := by
  unfold RL_X6_passKnown_2
  intro hp0 hp1 hp2 hp3 hp4 fik flk vik vlk rk gk_1 tb gk_0 fik_3 flk_3 vik_3 vlk_3 rk_3 gk_3_0 gk_3_1 gk_3_2 q0 q1 q2 q3 q4 q5 q6 q7 q8 q9; subst q0
  unfold PS_X6_passKnown
  intro n m t hc
  (try simp only [q1, q2, q3, q4, q5, q6, q7, q8, q9]); have k9_0 : (0 : Int32).toInt = 0 := (by decide); have k9_1 : (1 : Int32).toInt = 1 := (by decide)
  have hc0 := hc
  obtain ⟨hn, hm, ht, ck, cp, ce, cw, cu, cg⟩ := hc0
  rcases gk_1 with ⟨a1, a2, a3⟩ | ⟨a1, a2⟩
  · exact absurd (a1.symm.trans tb) (by decide)
  · exact Or.inr (Or.inl ⟨by decide, (fun c => by rcases a2 with a2 | a2; (· omega); (· rw [cw c.1, c.2] at a2; exact absurd a2 (by decide))), by omega, by omega⟩)
theorem P_X6_passKnown {fi : Nat → Nat → Int32} {fl : Nat → Nat → Int64} {vi : Nat → Int32} {vl : Nat → Int64} {r : Int32} {fj : Nat → Nat → Int32} {fm : Nat → Nat → Int64} {vj : Nat → Int32} {vm : Nat → Int64} (h : R_X6_passKnown fi fl vi vl r fj fm vj vm) : ∀ n m t : Nat, CC (trn (fi 0) n) n m t (vi 2) (vi 3) (vi 5) (vi 6) (vi 4) (vl 0) (vi 7) (vi 8) → (r.toInt = 1 ∧ (wMay (trn (fi 0) n) n m (ownB (fl 0)) t) ∧ ¬ (vi 0).toInt = -1 ∧ (vj 0).toInt = (vi 0).toInt ∧ CC (trn (fi 0) n) n m (sX (trn (fi 0) n) n m t) (vi 2) (vi 3) (vj 1) (vj 2) (vj 5) (vm 0) (vj 4) (vj 3)) ∨ (r.toInt = 0 ∧ ¬ (wMay (trn (fi 0) n) n m (ownB (fl 0)) t) ∧ (vj 6).toInt = 1 ∧ (vj 7).toInt = ((sPn (trn (fi 0) n) n m t) : Int)) ∨ (r.toInt = 0 ∧ (wMay (trn (fi 0) n) n m (ownB (fl 0)) t) ∧ (vi 0).toInt = -1 ∧ (vj 6).toInt = 3 ∧ (vj 7).toInt = ((sPn (trn (fi 0) n) n m t) : Int)) := h (PS_X6_passKnown fi fl vi vl r fj fm vj vm) PL_X6_passKnown_0 PL_X6_passKnown_1 PL_X6_passKnown_2
def RL_X6_passNumber_0 (fi : Nat → Nat → Int32) (fl : Nat → Nat → Int64) (vi : Nat → Int32) (vl : Nat → Int64) (r : Int32) (fj : Nat → Nat → Int32) (fm : Nat → Nat → Int64) (vj : Nat → Int32) (vm : Nat → Int64) (Q9 : Prop) : Prop :=
  (0 ≤ (vi 3).toInt ∧ (vi 3).toInt ≤ 940) → (0 ≤ (vi 4).toInt ∧ (vi 4).toInt ≤ 940) → (0 ≤ (vi 5).toInt ∧ (vi 5).toInt ≤ 940) → (0 ≤ (vi 7).toInt ∧ (vi 7).toInt ≤ 940) → (0 ≤ (vi 12).toInt ∧ (vi 12).toInt ≤ 940) → ((vi 6).toInt = 2) → ((vi 8).toInt < (vi 0).toInt) → ∀ (fik : Nat → Nat → Int32), ∀ (flk : Nat → Nat → Int64), ∀ (vik : Nat → Int32), ∀ (vlk : Nat → Int64), ∀ (rk : Int32), (rk = 0) → (0 ≤ (vik 1).toInt ∧ (vik 1).toInt ≤ 940) → ((vik 0).toInt = (2 : Int32).toInt ∧ (vik 1).toInt = (vi 7).toInt) → (r = (0 : Int32)) → (vj 0 = (vik 0)) → (vj 1 = (vik 1)) → (vj 2 = (vi 10)) → (vj 3 = (vi 6)) → (vj 4 = (vi 7)) → (vj 5 = (vi 9)) → (vj 6 = (vi 8)) → (vj 7 = (vi 5)) → (vm 0 = (vl 0)) → Q9
def RL_X6_passNumber_1 (fi : Nat → Nat → Int32) (fl : Nat → Nat → Int64) (vi : Nat → Int32) (vl : Nat → Int64) (r : Int32) (fj : Nat → Nat → Int32) (fm : Nat → Nat → Int64) (vj : Nat → Int32) (vm : Nat → Int64) (Q9 : Prop) : Prop :=
  (0 ≤ (vi 3).toInt ∧ (vi 3).toInt ≤ 940) → (0 ≤ (vi 4).toInt ∧ (vi 4).toInt ≤ 940) → (0 ≤ (vi 5).toInt ∧ (vi 5).toInt ≤ 940) → (0 ≤ (vi 7).toInt ∧ (vi 7).toInt ≤ 940) → (0 ≤ (vi 12).toInt ∧ (vi 12).toInt ≤ 940) → ((vi 6).toInt = 2) → (¬ (vi 8).toInt < (vi 0).toInt) → ((vi 8).toInt ≤ (vi 1).toInt) → ∀ (fik_1 : Nat → Nat → Int32), ∀ (flk_1 : Nat → Nat → Int64), ∀ (vik_1 : Nat → Int32), ∀ (vlk_1 : Nat → Int64), ∀ (uk_1 : Int32), (0 ≤ (vik_1 4).toInt ∧ (vik_1 4).toInt ≤ 940) → (0 ≤ (vik_1 1).toInt ∧ (vik_1 1).toInt ≤ 940) → (∀ n m : Nat, (vi 3).toInt = (n : Int) → (vi 4).toInt = (m : Int) → (vi 5).toInt ≤ (vi 3).toInt → CC (trn (fi 0) n) n m ((vi 5).toInt).toNat (vi 3) (vi 4) (vik_1 0) (vik_1 1) (vik_1 4) (vlk_1 0) (vik_1 3) (vik_1 2)) → (r = (1 : Int32)) → (vj 0 = (vi 11)) → (vj 1 = (vi 12)) → (vj 2 = (vi 8)) → (vj 3 = (vik_1 0)) → (vj 4 = (vik_1 1)) → (vj 5 = (vik_1 2)) → (vj 6 = (vik_1 3)) → (vj 7 = (vik_1 4)) → (vm 0 = (vlk_1 0)) → Q9
def RL_X6_passNumber_2 (fi : Nat → Nat → Int32) (fl : Nat → Nat → Int64) (vi : Nat → Int32) (vl : Nat → Int64) (r : Int32) (fj : Nat → Nat → Int32) (fm : Nat → Nat → Int64) (vj : Nat → Int32) (vm : Nat → Int64) (Q9 : Prop) : Prop :=
  (0 ≤ (vi 3).toInt ∧ (vi 3).toInt ≤ 940) → (0 ≤ (vi 4).toInt ∧ (vi 4).toInt ≤ 940) → (0 ≤ (vi 5).toInt ∧ (vi 5).toInt ≤ 940) → (0 ≤ (vi 7).toInt ∧ (vi 7).toInt ≤ 940) → (0 ≤ (vi 12).toInt ∧ (vi 12).toInt ≤ 940) → ((vi 6).toInt = 2) → (¬ (vi 8).toInt < (vi 0).toInt) → (¬ (vi 8).toInt ≤ (vi 1).toInt) → ∀ (fik_2 : Nat → Nat → Int32), ∀ (flk_2 : Nat → Nat → Int64), ∀ (vik_2 : Nat → Int32), ∀ (vlk_2 : Nat → Int64), ∀ (rk_2 : Int32), (rk_2 = 0) → (0 ≤ (vik_2 1).toInt ∧ (vik_2 1).toInt ≤ 940) → ((vik_2 0).toInt = (2 : Int32).toInt ∧ (vik_2 1).toInt = (vi 7).toInt) → (r = (0 : Int32)) → (vj 0 = (vik_2 0)) → (vj 1 = (vik_2 1)) → (vj 2 = (vi 10)) → (vj 3 = (vi 6)) → (vj 4 = (vi 7)) → (vj 5 = (vi 9)) → (vj 6 = (vi 8)) → (vj 7 = (vi 5)) → (vm 0 = (vl 0)) → Q9
def RL_X6_passNumber_3 (fi : Nat → Nat → Int32) (fl : Nat → Nat → Int64) (vi : Nat → Int32) (vl : Nat → Int64) (r : Int32) (fj : Nat → Nat → Int32) (fm : Nat → Nat → Int64) (vj : Nat → Int32) (vm : Nat → Int64) (Q9 : Prop) : Prop :=
  (0 ≤ (vi 3).toInt ∧ (vi 3).toInt ≤ 940) → (0 ≤ (vi 4).toInt ∧ (vi 4).toInt ≤ 940) → (0 ≤ (vi 5).toInt ∧ (vi 5).toInt ≤ 940) → (0 ≤ (vi 7).toInt ∧ (vi 7).toInt ≤ 940) → (0 ≤ (vi 12).toInt ∧ (vi 12).toInt ≤ 940) → (¬ (vi 6).toInt = 2) → ∀ (fik_3 : Nat → Nat → Int32), ∀ (flk_3 : Nat → Nat → Int64), ∀ (vik_3 : Nat → Int32), ∀ (vlk_3 : Nat → Int64), ∀ (rk_3 : Int32), (rk_3 = 0) → (0 ≤ (vik_3 1).toInt ∧ (vik_3 1).toInt ≤ 940) → ((vik_3 0).toInt = (1 : Int32).toInt ∧ (vik_3 1).toInt = (vi 7).toInt) → (r = (0 : Int32)) → (vj 0 = (vik_3 0)) → (vj 1 = (vik_3 1)) → (vj 2 = (vi 10)) → (vj 3 = (vi 6)) → (vj 4 = (vi 7)) → (vj 5 = (vi 9)) → (vj 6 = (vi 8)) → (vj 7 = (vi 5)) → (vm 0 = (vl 0)) → Q9
def R_X6_passNumber (fi : Nat → Nat → Int32) (fl : Nat → Nat → Int64) (vi : Nat → Int32) (vl : Nat → Int64) (r : Int32) (fj : Nat → Nat → Int32) (fm : Nat → Nat → Int64) (vj : Nat → Int32) (vm : Nat → Int64) : Prop :=
  ∀ Q9 : Prop, RL_X6_passNumber_0 fi fl vi vl r fj fm vj vm Q9 → RL_X6_passNumber_1 fi fl vi vl r fj fm vj vm Q9 → RL_X6_passNumber_2 fi fl vi vl r fj fm vj vm Q9 → RL_X6_passNumber_3 fi fl vi vl r fj fm vj vm Q9 → Q9
def PS_X6_passNumber (fi : Nat → Nat → Int32) (fl : Nat → Nat → Int64) (vi : Nat → Int32) (vl : Nat → Int64) (r : Int32) (fj : Nat → Nat → Int32) (fm : Nat → Nat → Int64) (vj : Nat → Int32) (vm : Nat → Int64) : Prop :=
  ∀ n m t : Nat, CC (trn (fi 0) n) n m t (vi 3) (vi 4) (vi 6) (vi 7) (vi 5) (vl 0) (vi 8) (vi 9) → (r.toInt = 1 ∧ (fNum (trn (fi 0) n) n m (vi 0).toInt (vi 1).toInt t) = 0 ∧ (vj 2).toInt = (sU (trn (fi 0) n) n m t) ∧ (sK (trn (fi 0) n) n m t) = 2 ∧ (vi 0).toInt ≤ (sU (trn (fi 0) n) n m t) ∧ (sU (trn (fi 0) n) n m t) ≤ (vi 1).toInt ∧ CC (trn (fi 0) n) n m (sX (trn (fi 0) n) n m t) (vi 3) (vi 4) (vj 3) (vj 4) (vj 7) (vm 0) (vj 6) (vj 5)) ∨ (r.toInt = 0 ∧ ¬ (fNum (trn (fi 0) n) n m (vi 0).toInt (vi 1).toInt t) = 0 ∧ (vj 0).toInt = (fNum (trn (fi 0) n) n m (vi 0).toInt (vi 1).toInt t) ∧ (vj 1).toInt = ((sPn (trn (fi 0) n) n m t) : Int))
set_option maxHeartbeats 4000000 in
theorem PL_X6_passNumber_0 {fi : Nat → Nat → Int32} {fl : Nat → Nat → Int64} {vi : Nat → Int32} {vl : Nat → Int64} {r : Int32} {fj : Nat → Nat → Int32} {fm : Nat → Nat → Int64} {vj : Nat → Int32} {vm : Nat → Int64} : RL_X6_passNumber_0 fi fl vi vl r fj fm vj vm (PS_X6_passNumber fi fl vi vl r fj fm vj vm) := by
  unfold RL_X6_passNumber_0
  intro hp0 hp1 hp2 hp3 hp4 c5 c19 fik flk vik vlk rk gk_0 gk_1 gk_2 q0 q1 q2 q3 q4 q5 q6 q7 q8 q9; subst q0
  unfold PS_X6_passNumber
  intro n m t hc
  (try simp only [q1, q2, q3, q4, q5, q6, q7, q8, q9]); have k9_0 : (0 : Int32).toInt = 0 := (by decide); have k9_1 : (1 : Int32).toInt = 1 := (by decide); have k9_2 : (2 : Int32).toInt = 2 := (by decide)
  have hc0 := hc
  obtain ⟨hn, hm, ht, ck, cp, ce, cw, cu, cg⟩ := hc0
  first | (have h9 := cu (by omega); exact Or.inl ⟨by decide, fNum_0 (by omega) (by omega) (by omega), by omega, by omega, by omega, by omega, CC_nx hc (by assumption)⟩) | (have h9 : (fNum (trn (fi 0) n) n m (vi 0).toInt (vi 1).toInt t) = 1 := fNum_1 (by omega); exact Or.inr ⟨by decide, by omega, by omega, by omega⟩) | (have h8 := cu (by omega); have h9 : (fNum (trn (fi 0) n) n m (vi 0).toInt (vi 1).toInt t) = 2 := fNum_2 (by omega) (by omega); exact Or.inr ⟨by decide, by omega, by omega, by omega⟩)
set_option maxHeartbeats 4000000 in
theorem PL_X6_passNumber_1 {fi : Nat → Nat → Int32} {fl : Nat → Nat → Int64} {vi : Nat → Int32} {vl : Nat → Int64} {r : Int32} {fj : Nat → Nat → Int32} {fm : Nat → Nat → Int64} {vj : Nat → Int32} {vm : Nat → Int64} : RL_X6_passNumber_1 fi fl vi vl r fj fm vj vm (PS_X6_passNumber fi fl vi vl r fj fm vj vm) := by
  unfold RL_X6_passNumber_1
  intro hp0 hp1 hp2 hp3 hp4 c5 c19 c27 fik_1 flk_1 vik_1 vlk_1 uk_1 gk_1_0 gk_1_1 gk_1_2 q0 q1 q2 q3 q4 q5 q6 q7 q8 q9; subst q0
  unfold PS_X6_passNumber
  intro n m t hc
  (try simp only [q1, q2, q3, q4, q5, q6, q7, q8, q9]); have k9_0 : (0 : Int32).toInt = 0 := (by decide); have k9_1 : (1 : Int32).toInt = 1 := (by decide)
  have hc0 := hc
  obtain ⟨hn, hm, ht, ck, cp, ce, cw, cu, cg⟩ := hc0
  first | (have h9 := cu (by omega); exact Or.inl ⟨by decide, fNum_0 (by omega) (by omega) (by omega), by omega, by omega, by omega, by omega, CC_nx hc (by assumption)⟩) | (have h9 : (fNum (trn (fi 0) n) n m (vi 0).toInt (vi 1).toInt t) = 1 := fNum_1 (by omega); exact Or.inr ⟨by decide, by omega, by omega, by omega⟩) | (have h8 := cu (by omega); have h9 : (fNum (trn (fi 0) n) n m (vi 0).toInt (vi 1).toInt t) = 2 := fNum_2 (by omega) (by omega); exact Or.inr ⟨by decide, by omega, by omega, by omega⟩)
set_option maxHeartbeats 4000000 in
theorem PL_X6_passNumber_2 {fi : Nat → Nat → Int32} {fl : Nat → Nat → Int64} {vi : Nat → Int32} {vl : Nat → Int64} {r : Int32} {fj : Nat → Nat → Int32} {fm : Nat → Nat → Int64} {vj : Nat → Int32} {vm : Nat → Int64} : RL_X6_passNumber_2 fi fl vi vl r fj fm vj vm (PS_X6_passNumber fi fl vi vl r fj fm vj vm) := by
  unfold RL_X6_passNumber_2
  intro hp0 hp1 hp2 hp3 hp4 c5 c19 c27 fik_2 flk_2 vik_2 vlk_2 rk_2 gk_2_0 gk_2_1 gk_2_2 q0 q1 q2 q3 q4 q5 q6 q7 q8 q9; subst q0
  unfold PS_X6_passNumber
  intro n m t hc
  (try simp only [q1, q2, q3, q4, q5, q6, q7, q8, q9]); have k9_0 : (0 : Int32).toInt = 0 := (by decide); have k9_1 : (1 : Int32).toInt = 1 := (by decide); have k9_2 : (2 : Int32).toInt = 2 := (by decide)
  have hc0 := hc
  obtain ⟨hn, hm, ht, ck, cp, ce, cw, cu, cg⟩ := hc0
  first | (have h9 := cu (by omega); exact Or.inl ⟨by decide, fNum_0 (by omega) (by omega) (by omega), by omega, by omega, by omega, by omega, CC_nx hc (by assumption)⟩) | (have h9 : (fNum (trn (fi 0) n) n m (vi 0).toInt (vi 1).toInt t) = 1 := fNum_1 (by omega); exact Or.inr ⟨by decide, by omega, by omega, by omega⟩) | (have h8 := cu (by omega); have h9 : (fNum (trn (fi 0) n) n m (vi 0).toInt (vi 1).toInt t) = 2 := fNum_2 (by omega) (by omega); exact Or.inr ⟨by decide, by omega, by omega, by omega⟩)
set_option maxHeartbeats 4000000 in
theorem PL_X6_passNumber_3 {fi : Nat → Nat → Int32} {fl : Nat → Nat → Int64} {vi : Nat → Int32} {vl : Nat → Int64} {r : Int32} {fj : Nat → Nat → Int32} {fm : Nat → Nat → Int64} {vj : Nat → Int32} {vm : Nat → Int64} : RL_X6_passNumber_3 fi fl vi vl r fj fm vj vm (PS_X6_passNumber fi fl vi vl r fj fm vj vm) := by
  unfold RL_X6_passNumber_3
  intro hp0 hp1 hp2 hp3 hp4 c5 fik_3 flk_3 vik_3 vlk_3 rk_3 gk_3_0 gk_3_1 gk_3_2 q0 q1 q2 q3 q4 q5 q6 q7 q8 q9; subst q0
  unfold PS_X6_passNumber
  intro n m t hc
  (try simp only [q1, q2, q3, q4, q5, q6, q7, q8, q9]); have k9_0 : (0 : Int32).toInt = 0 := (by decide); have k9_1 : (1 : Int32).toInt = 1 := (by decide)
  have hc0 := hc
  obtain ⟨hn, hm, ht, ck, cp, ce, cw, cu, cg⟩ := hc0
  first | (have h9 := cu (by omega); exact Or.inl ⟨by decide, fNum_0 (by omega) (by omega) (by omega), by omega, by omega, by omega, by omega, CC_nx hc (by assumption)⟩) | (have h9 : (fNum (trn (fi 0) n) n m (vi 0).toInt (vi 1).toInt t) = 1 := fNum_1 (by omega); exact Or.inr ⟨by decide, by omega, by omega, by omega⟩) | (have h8 := cu (by omega); have h9 : (fNum (trn (fi 0) n) n m (vi 0).toInt (vi 1).toInt t) = 2 := fNum_2 (by omega) (by omega); exact Or.inr ⟨by decide, by omega, by omega, by omega⟩)
