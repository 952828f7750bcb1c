def RL_X8_passOnce_1 (fi : Nat → Nat → Int32) (fl : Nat → Nat → Int64) (vi : Nat → Int32) (vl : Nat → Int64) (r : Int32) (fj : Nat → Nat → Int32) (fm : Nat → Nat → Int64) (vj : Nat → Int32) (vm : Nat → Int64) (Q9 : Prop) : Prop :=
  (¬ (vi 6).toInt = 1) → ∀ (fik : Nat → Nat → Int32), ∀ (flk : Nat → Nat → Int64), ∀ (vik : Nat → Int32), ∀ (vlk : Nat → Int64), ∀ (rk : Int32), (∀ n m t : Nat, CC (trn (fi 0) n) n m t (vi 3) (vi 4) (vi 6) (vi 7) (vi 5) (vl 0) (vi 8) (vi 9) → (rk.toInt = 1 ∧ (wMay (trn (fi 0) n) n m (ownB (fl 0)) t) ∧ ¬ (vi 0).toInt = -1 ∧ (vik 0).toInt = (vi 0).toInt ∧ CC (trn (fi 0) n) n m (sX (trn (fi 0) n) n m t) (vi 3) (vi 4) (vik 1) (vik 2) (vik 5) (vlk 0) (vik 4) (vik 3)) ∨ (rk.toInt = 0 ∧ ¬ (wMay (trn (fi 0) n) n m (ownB (fl 0)) t) ∧ (vik 6).toInt = 1 ∧ (vik 7).toInt = ((sPn (trn (fi 0) n) n m t) : Int)) ∨ (rk.toInt = 0 ∧ (wMay (trn (fi 0) n) n m (ownB (fl 0)) t) ∧ (vi 0).toInt = -1 ∧ (vik 6).toInt = 3 ∧ (vik 7).toInt = ((sPn (trn (fi 0) n) n m t) : Int))) → (rk.toInt = 0) → (True) → (r = (0 : Int32)) → (vj 0 = (vik 0)) → (vj 1 = (vik 1)) → (vj 2 = (vik 2)) → (vj 3 = (vik 3)) → (vj 4 = (vik 4)) → (vj 5 = (vik 5)) → (vj 6 = (vik 6)) → (vj 7 = (vik 7)) → (vm 0 = (vlk 0)) → Q9
def RL_X8_passOnce_2 (fi : Nat → Nat → Int32) (fl : Nat → Nat → Int64) (vi : Nat → Int32) (vl : Nat → Int64) (r : Int32) (fj : Nat → Nat → Int32) (fm : Nat → Nat → Int64) (vj : Nat → Int32) (vm : Nat → Int64) (Q9 : Prop) : Prop :=
  ((vi 6).toInt = 1) → ((vi 0).toInt < 0) → ∀ (fik_1 : Nat → Nat → Int32), ∀ (flk_1 : Nat → Nat → Int64), ∀ (vik_1 : Nat → Int32), ∀ (vlk_1 : Nat → Int64), ∀ (rk_1 : Int32), (∀ n m t : Nat, CC (trn (fi 0) n) n m t (vi 3) (vi 4) (vi 6) (vi 7) (vi 5) (vl 0) (vi 8) (vi 9) → (rk_1.toInt = 1 ∧ (wMay (trn (fi 0) n) n m (ownB (fl 0)) t) ∧ ¬ (vi 0).toInt = -1 ∧ (vik_1 0).toInt = (vi 0).toInt ∧ CC (trn (fi 0) n) n m (sX (trn (fi 0) n) n m t) (vi 3) (vi 4) (vik_1 1) (vik_1 2) (vik_1 5) (vlk_1 0) (vik_1 4) (vik_1 3)) ∨ (rk_1.toInt = 0 ∧ ¬ (wMay (trn (fi 0) n) n m (ownB (fl 0)) t) ∧ (vik_1 6).toInt = 1 ∧ (vik_1 7).toInt = ((sPn (trn (fi 0) n) n m t) : Int)) ∨ (rk_1.toInt = 0 ∧ (wMay (trn (fi 0) n) n m (ownB (fl 0)) t) ∧ (vi 0).toInt = -1 ∧ (vik_1 6).toInt = 3 ∧ (vik_1 7).toInt = ((sPn (trn (fi 0) n) n m t) : Int))) → (rk_1.toInt = 1) → ((vik_1 0).toInt = (vi 0).toInt ∧ ¬ (vi 0).toInt = -1 ∧ (vi 6).toInt = 1) → (r = (1 : Int32)) → (vj 0 = (vik_1 0)) → (vj 1 = (vik_1 1)) → (vj 2 = (vik_1 2)) → (vj 3 = (vik_1 3)) → (vj 4 = (vik_1 4)) → (vj 5 = (vik_1 5)) → (vj 6 = (vik_1 6)) → (vj 7 = (vik_1 7)) → (vm 0 = (vlk_1 0)) → Q9
def RL_X8_passOnce_3 (fi : Nat → Nat → Int32) (fl : Nat → Nat → Int64) (vi : Nat → Int32) (vl : Nat → Int64) (r : Int32) (fj : Nat → Nat → Int32) (fm : Nat → Nat → Int64) (vj : Nat → Int32) (vm : Nat → Int64) (Q9 : Prop) : Prop :=
  ((vi 6).toInt = 1) → ((vi 0).toInt < 0) → ∀ (fik_1 : Nat → Nat → Int32), ∀ (flk_1 : Nat → Nat → Int64), ∀ (vik_1 : Nat → Int32), ∀ (vlk_1 : Nat → Int64), ∀ (rk_1 : Int32), (∀ n m t : Nat, CC (trn (fi 0) n) n m t (vi 3) (vi 4) (vi 6) (vi 7) (vi 5) (vl 0) (vi 8) (vi 9) → (rk_1.toInt = 1 ∧ (wMay (trn (fi 0) n) n m (ownB (fl 0)) t) ∧ ¬ (vi 0).toInt = -1 ∧ (vik_1 0).toInt = (vi 0).toInt ∧ CC (trn (fi 0) n) n m (sX (trn (fi 0) n) n m t) (vi 3) (vi 4) (vik_1 1) (vik_1 2) (vik_1 5) (vlk_1 0) (vik_1 4) (vik_1 3)) ∨ (rk_1.toInt = 0 ∧ ¬ (wMay (trn (fi 0) n) n m (ownB (fl 0)) t) ∧ (vik_1 6).toInt = 1 ∧ (vik_1 7).toInt = ((sPn (trn (fi 0) n) n m t) : Int)) ∨ (rk_1.toInt = 0 ∧ (wMay (trn (fi 0) n) n m (ownB (fl 0)) t) ∧ (vi 0).toInt = -1 ∧ (vik_1 6).toInt = 3 ∧ (vik_1 7).toInt = ((sPn (trn (fi 0) n) n m t) : Int))) → (rk_1.toInt = 0) → (True) → (r = (0 : Int32)) → (vj 0 = (vik_1 0)) → (vj 1 = (vik_1 1)) → (vj 2 = (vik_1 2)) → (vj 3 = (vik_1 3)) → (vj 4 = (vik_1 4)) → (vj 5 = (vik_1 5)) → (vj 6 = (vik_1 6)) → (vj 7 = (vik_1 7)) → (vm 0 = (vlk_1 0)) → Q9
def RL_X8_passOnce_4 (fi : Nat → Nat → Int32) (fl : Nat → Nat → Int64) (vi : Nat → Int32) (vl : Nat → Int64) (r : Int32) (fj : Nat → Nat → Int32) (fm : Nat → Nat → Int64) (vj : Nat → Int32) (vm : Nat → Int64) (Q9 : Prop) : Prop :=
  ((vi 6).toInt = 1) → (0 ≤ (vi 0).toInt) → (9 ≤ (vi 0).toInt) → ∀ (fik_2 : Nat → Nat → Int32), ∀ (flk_2 : Nat → Nat → Int64), ∀ (vik_2 : Nat → Int32), ∀ (vlk_2 : Nat → Int64), ∀ (rk_2 : Int32), (∀ n m t : Nat, CC (trn (fi 0) n) n m t (vi 3) (vi 4) (vi 6) (vi 7) (vi 5) (vl 0) (vi 8) (vi 9) → (rk_2.toInt = 1 ∧ (wMay (trn (fi 0) n) n m (ownB (fl 0)) t) ∧ ¬ (vi 0).toInt = -1 ∧ (vik_2 0).toInt = (vi 0).toInt ∧ CC (trn (fi 0) n) n m (sX (trn (fi 0) n) n m t) (vi 3) (vi 4) (vik_2 1) (vik_2 2) (vik_2 5) (vlk_2 0) (vik_2 4) (vik_2 3)) ∨ (rk_2.toInt = 0 ∧ ¬ (wMay (trn (fi 0) n) n m (ownB (fl 0)) t) ∧ (vik_2 6).toInt = 1 ∧ (vik_2 7).toInt = ((sPn (trn (fi 0) n) n m t) : Int)) ∨ (rk_2.toInt = 0 ∧ (wMay (trn (fi 0) n) n m (ownB (fl 0)) t) ∧ (vi 0).toInt = -1 ∧ (vik_2 6).toInt = 3 ∧ (vik_2 7).toInt = ((sPn (trn (fi 0) n) n m t) : Int))) → (rk_2.toInt = 1) → ((vik_2 0).toInt = (vi 0).toInt ∧ ¬ (vi 0).toInt = -1 ∧ (vi 6).toInt = 1) → (r = (1 : Int32)) → (vj 0 = (vik_2 0)) → (vj 1 = (vik_2 1)) → (vj 2 = (vik_2 2)) → (vj 3 = (vik_2 3)) → (vj 4 = (vik_2 4)) → (vj 5 = (vik_2 5)) → (vj 6 = (vik_2 6)) → (vj 7 = (vik_2 7)) → (vm 0 = (vlk_2 0)) → Q9
def RL_X8_passOnce_5 (fi : Nat → Nat → Int32) (fl : Nat → Nat → Int64) (vi : Nat → Int32) (vl : Nat → Int64) (r : Int32) (fj : Nat → Nat → Int32) (fm : Nat → Nat → Int64) (vj : Nat → Int32) (vm : Nat → Int64) (Q9 : Prop) : Prop :=
  ((vi 6).toInt = 1) → (0 ≤ (vi 0).toInt) → (9 ≤ (vi 0).toInt) → ∀ (fik_2 : Nat → Nat → Int32), ∀ (flk_2 : Nat → Nat → Int64), ∀ (vik_2 : Nat → Int32), ∀ (vlk_2 : Nat → Int64), ∀ (rk_2 : Int32), (∀ n m t : Nat, CC (trn (fi 0) n) n m t (vi 3) (vi 4) (vi 6) (vi 7) (vi 5) (vl 0) (vi 8) (vi 9) → (rk_2.toInt = 1 ∧ (wMay (trn (fi 0) n) n m (ownB (fl 0)) t) ∧ ¬ (vi 0).toInt = -1 ∧ (vik_2 0).toInt = (vi 0).toInt ∧ CC (trn (fi 0) n) n m (sX (trn (fi 0) n) n m t) (vi 3) (vi 4) (vik_2 1) (vik_2 2) (vik_2 5) (vlk_2 0) (vik_2 4) (vik_2 3)) ∨ (rk_2.toInt = 0 ∧ ¬ (wMay (trn (fi 0) n) n m (ownB (fl 0)) t) ∧ (vik_2 6).toInt = 1 ∧ (vik_2 7).toInt = ((sPn (trn (fi 0) n) n m t) : Int)) ∨ (rk_2.toInt = 0 ∧ (wMay (trn (fi 0) n) n m (ownB (fl 0)) t) ∧ (vi 0).toInt = -1 ∧ (vik_2 6).toInt = 3 ∧ (vik_2 7).toInt = ((sPn (trn (fi 0) n) n m t) : Int))) → (rk_2.toInt = 0) → (True) → (r = (0 : Int32)) → (vj 0 = (vik_2 0)) → (vj 1 = (vik_2 1)) → (vj 2 = (vik_2 2)) → (vj 3 = (vik_2 3)) → (vj 4 = (vik_2 4)) → (vj 5 = (vik_2 5)) → (vj 6 = (vik_2 6)) → (vj 7 = (vik_2 7)) → (vm 0 = (vlk_2 0)) → Q9
def RL_X8_passOnce_6 (fi : Nat → Nat → Int32) (fl : Nat → Nat → Int64) (vi : Nat → Int32) (vl : Nat → Int64) (r : Int32) (fj : Nat → Nat → Int32) (fm : Nat → Nat → Int64) (vj : Nat → Int32) (vm : Nat → Int64) (Q9 : Prop) : Prop :=
  ((vi 6).toInt = 1) → (0 ≤ (vi 0).toInt) → ((vi 0).toInt < 9) → (((fi 1) (vi 0).toNatClampNeg).toInt = (-1)) → ∀ (fik_3 : Nat → Nat → Int32), ∀ (flk_3 : Nat → Nat → Int64), ∀ (vik_3 : Nat → Int32), ∀ (vlk_3 : Nat → Int64), ∀ (rk_3 : Int32), (∀ n m t : Nat, CC (trn (fi 0) n) n m t (vi 3) (vi 4) (vi 6) (vi 7) (vi 5) (vl 0) (vi 8) (vi 9) → (rk_3.toInt = 1 ∧ (wMay (trn (fi 0) n) n m (ownB (fl 0)) t) ∧ ¬ (vi 0).toInt = -1 ∧ (vik_3 0).toInt = (vi 0).toInt ∧ CC (trn (fi 0) n) n m (sX (trn (fi 0) n) n m t) (vi 3) (vi 4) (vik_3 1) (vik_3 2) (vik_3 5) (vlk_3 0) (vik_3 4) (vik_3 3)) ∨ (rk_3.toInt = 0 ∧ ¬ (wMay (trn (fi 0) n) n m (ownB (fl 0)) t) ∧ (vik_3 6).toInt = 1 ∧ (vik_3 7).toInt = ((sPn (trn (fi 0) n) n m t) : Int)) ∨ (rk_3.toInt = 0 ∧ (wMay (trn (fi 0) n) n m (ownB (fl 0)) t) ∧ (vi 0).toInt = -1 ∧ (vik_3 6).toInt = 3 ∧ (vik_3 7).toInt = ((sPn (trn (fi 0) n) n m t) : Int))) → (rk_3.toInt = 1) → ((vik_3 0).toInt = (vi 0).toInt ∧ ¬ (vi 0).toInt = -1 ∧ (vi 6).toInt = 1) → (r = (1 : Int32)) → (vj 0 = (vik_3 0)) → (vj 1 = (vik_3 1)) → (vj 2 = (vik_3 2)) → (vj 3 = (vik_3 3)) → (vj 4 = (vik_3 4)) → (vj 5 = (vik_3 5)) → (vj 6 = (vik_3 6)) → (vj 7 = (vik_3 7)) → (vm 0 = (vlk_3 0)) → Q9
def RL_X8_passOnce_7 (fi : Nat → Nat → Int32) (fl : Nat → Nat → Int64) (vi : Nat → Int32) (vl : Nat → Int64) (r : Int32) (fj : Nat → Nat → Int32) (fm : Nat → Nat → Int64) (vj : Nat → Int32) (vm : Nat → Int64) (Q9 : Prop) : Prop :=
  ((vi 6).toInt = 1) → (0 ≤ (vi 0).toInt) → ((vi 0).toInt < 9) → (((fi 1) (vi 0).toNatClampNeg).toInt = (-1)) → ∀ (fik_3 : Nat → Nat → Int32), ∀ (flk_3 : Nat → Nat → Int64), ∀ (vik_3 : Nat → Int32), ∀ (vlk_3 : Nat → Int64), ∀ (rk_3 : Int32), (∀ n m t : Nat, CC (trn (fi 0) n) n m t (vi 3) (vi 4) (vi 6) (vi 7) (vi 5) (vl 0) (vi 8) (vi 9) → (rk_3.toInt = 1 ∧ (wMay (trn (fi 0) n) n m (ownB (fl 0)) t) ∧ ¬ (vi 0).toInt = -1 ∧ (vik_3 0).toInt = (vi 0).toInt ∧ CC (trn (fi 0) n) n m (sX (trn (fi 0) n) n m t) (vi 3) (vi 4) (vik_3 1) (vik_3 2) (vik_3 5) (vlk_3 0) (vik_3 4) (vik_3 3)) ∨ (rk_3.toInt = 0 ∧ ¬ (wMay (trn (fi 0) n) n m (ownB (fl 0)) t) ∧ (vik_3 6).toInt = 1 ∧ (vik_3 7).toInt = ((sPn (trn (fi 0) n) n m t) : Int)) ∨ (rk_3.toInt = 0 ∧ (wMay (trn (fi 0) n) n m (ownB (fl 0)) t) ∧ (vi 0).toInt = -1 ∧ (vik_3 6).toInt = 3 ∧ (vik_3 7).toInt = ((sPn (trn (fi 0) n) n m t) : Int))) → (rk_3.toInt = 0) → (True) → (r = (0 : Int32)) → (vj 0 = (vik_3 0)) → (vj 1 = (vik_3 1)) → (vj 2 = (vik_3 2)) → (vj 3 = (vik_3 3)) → (vj 4 = (vik_3 4)) → (vj 5 = (vik_3 5)) → (vj 6 = (vik_3 6)) → (vj 7 = (vik_3 7)) → (vm 0 = (vlk_3 0)) → Q9
def RL_X8_passOnce_8 (fi : Nat → Nat → Int32) (fl : Nat → Nat → Int64) (vi : Nat → Int32) (vl : Nat → Int64) (r : Int32) (fj : Nat → Nat → Int32) (fm : Nat → Nat → Int64) (vj : Nat → Int32) (vm : Nat → Int64) (Q9 : Prop) : Prop :=
  ((vi 6).toInt = 1) → (0 ≤ (vi 0).toInt) → ((vi 0).toInt < 9) → (¬ ((fi 1) (vi 0).toNatClampNeg).toInt = (-1)) → ∀ (fik_4 : Nat → Nat → Int32), ∀ (flk_4 : Nat → Nat → Int64), ∀ (vik_4 : Nat → Int32), ∀ (vlk_4 : Nat → Int64), ∀ (rk_4 : Int32), (rk_4 = 0) → ((vik_4 0).toInt = (3 : Int32).toInt ∧ (vik_4 1).toInt = (vi 7).toInt) → (r = (0 : Int32)) → (vj 0 = (vi 10)) → (vj 1 = (vi 6)) → (vj 2 = (vi 7)) → (vj 3 = (vi 9)) → (vj 4 = (vi 8)) → (vj 5 = (vi 5)) → (vj 6 = (vik_4 0)) → (vj 7 = (vik_4 1)) → (vm 0 = (vl 0)) → Q9
def R_X8_passOnce (fi : Nat → Nat → Int32) (fl : Nat → Nat → Int64) (vi : Nat → Int32) (vl : Nat → Int64) (r : Int32) (fj : Nat → Nat → Int32) (fm : Nat → Nat → Int64) (vj : Nat → Int32) (vm : Nat → Int64) : Prop :=
  ∀ Q9 : Prop, RL_X8_passOnce_0 fi fl vi vl r fj fm vj vm Q9 → RL_X8_passOnce_1 fi fl vi vl r fj fm vj vm Q9 → RL_X8_passOnce_2 fi fl vi vl r fj fm vj vm Q9 → RL_X8_passOnce_3 fi fl vi vl r fj fm vj vm Q9 → RL_X8_passOnce_4 fi fl vi vl r fj fm vj vm Q9 → RL_X8_passOnce_5 fi fl vi vl r fj fm vj vm Q9 → RL_X8_passOnce_6 fi fl vi vl r fj fm vj vm Q9 → RL_X8_passOnce_7 fi fl vi vl r fj fm vj vm Q9 → RL_X8_passOnce_8 fi fl vi vl r fj fm vj vm Q9 → Q9
def PS_X8_passOnce (fi : Nat → Nat → Int32) (fl : Nat → Nat → Int64) (vi : Nat → Int32) (vl : Nat → Int64) (r : Int32) (fj : Nat → Nat → Int32) (fm : Nat → Nat → Int64) (vj : Nat → Int32) (vm : Nat → Int64) : Prop :=
  ∀ n m t : Nat, CC (trn (fi 0) n) n m t (vi 3) (vi 4) (vi 6) (vi 7) (vi 5) (vl 0) (vi 8) (vi 9) → (r.toInt = 1 ∧ (wMay (trn (fi 0) n) n m (ownB (fl 0)) t) ∧ ¬ (vi 0).toInt = -1 ∧ (vj 0).toInt = (vi 0).toInt ∧ (0 ≤ (vi 0).toInt → (vi 0).toInt < 9 → ((fi 1) ((vi 0)).toNatClampNeg).toInt = -1) ∧ CC (trn (fi 0) n) n m (sX (trn (fi 0) n) n m t) (vi 3) (vi 4) (vj 1) (vj 2) (vj 5) (vm 0) (vj 4) (vj 3)) ∨ (r.toInt = 0 ∧ ¬ (wMay (trn (fi 0) n) n m (ownB (fl 0)) t) ∧ (vj 6).toInt = 1 ∧ (vj 7).toInt = ((sPn (trn (fi 0) n) n m t) : Int)) ∨ (r.toInt = 0 ∧ (wMay (trn (fi 0) n) n m (ownB (fl 0)) t) ∧ (vi 0).toInt = -1 ∧ (vj 6).toInt = 3 ∧ (vj 7).toInt = ((sPn (trn (fi 0) n) n m t) : Int)) ∨ (r.toInt = 0 ∧ (sK (trn (fi 0) n) n m t) = 1 ∧ 0 ≤ (vi 0).toInt ∧ (vi 0).toInt < 9 ∧ ¬ ((fi 1) ((vi 0)).toNatClampNeg).toInt = -1 ∧ (vj 6).toInt = 3 ∧ (vj 7).toInt = ((sPn (trn (fi 0) n) n m t) : Int))
set_option maxHeartbeats 4000000 in
theorem PL_X8_passOnce_0 {fi : Nat → Nat → Int32} {fl : Nat → Nat → Int64} {vi : Nat → Int32} {vl : Nat → Int64} {r : Int32} {fj : Nat → Nat → Int32} {fm : Nat → Nat → Int64} {vj : Nat → Int32} {vm : Nat → Int64} : RL_X8_passOnce_0 fi fl vi vl r fj fm vj vm (PS_X8_passOnce fi fl vi vl r fj fm vj vm) := by
  unfold RL_X8_passOnce_0
  intro c8 fik flk vik vlk rk gk_5 tb gk_0 q0 q1 q2 q3 q4 q5 q6 q7 q8 q9; subst q0
  unfold PS_X8_passOnce
  intro n m t hc
  (try simp only [q1, q2, q3, q4, q5, q6, q7, q8, q9]); have k9_0 : (0 : Int32).toInt = 0 := (by decide); have k9_1 : (1 : Int32).toInt = 1 := (by decide)
  have hc0 := hc
  obtain ⟨hn, hm, ht, ck, cp, ce, cw, cu, cg⟩ := hc0
  rcases gk_5 n m t hc with ⟨a1, a2, a3, a4, a5⟩ | ⟨a1, a2, a3, a4⟩ | ⟨a1, a2, a3, a4, a5⟩
  · have h8 := a2.1
    first | exact Or.inl ⟨by decide, a2, a3, a4, (fun _ _ => by omega), a5⟩ | (exfalso; omega)
  · exact absurd (a1.symm.trans tb) (by decide)
  · exact absurd (a1.symm.trans tb) (by decide)
set_option maxHeartbeats 4000000 in
theorem PL_X8_passOnce_1 {fi : Nat → Nat → Int32} {fl : Nat → Nat → Int64} {vi : Nat → Int32} {vl : Nat → Int64} {r : Int32} {fj : Nat → Nat → Int32} {fm : Nat → Nat → Int64} {vj : Nat → Int32} {vm : Nat → Int64} : RL_X8_passOnce_1 fi fl vi vl r fj fm vj vm (PS_X8_passOnce fi fl vi vl r fj fm vj vm) := by
  unfold RL_X8_passOnce_1
  intro c8 fik flk vik vlk rk gk_5 tb gk_0 q0 q1 q2 q3 q4 q5 q6 q7 q8 q9; subst q0
  unfold PS_X8_passOnce
  intro n m t hc
  (try simp only [q1, q2, q3, q4, q5, q6, q7, q8, q9]); have k9_0 : (0 : Int32).toInt = 0 := (by decide); have k9_1 : (1 : Int32).toInt = 1 := (by decide)
  have hc0 := hc
  obtain ⟨hn, hm, ht, ck, cp, ce, cw, cu, cg⟩ := hc0
  rcases gk_5 n m t hc with ⟨a1, a2, a3, a4, a5⟩ | ⟨a1, a2, a3, a4⟩ | ⟨a1, a2, a3, a4, a5⟩
  · exact absurd (a1.symm.trans tb) (by decide)
  · exact Or.inr (Or.inl ⟨by decide, a2, a3, a4⟩)
  · exact Or.inr (Or.inr (Or.inl ⟨by decide, a2, a3, a4, a5⟩))
set_option maxHeartbeats 4000000 in
theorem PL_X8_passOnce_2 {fi : Nat → Nat → Int32} {fl : Nat → Nat → Int64} {vi : Nat → Int32} {vl : Nat → Int64} {r : Int32} {fj : Nat → Nat → Int32} {fm : Nat → Nat → Int64} {vj : Nat → Int32} {vm : Nat → Int64} : RL_X8_passOnce_2 fi fl vi vl r fj fm vj vm (PS_X8_passOnce fi fl vi vl r fj fm vj vm) := by
  unfold RL_X8_passOnce_2
  intro c8 c12 fik_1 flk_1 vik_1 vlk_1 rk_1 gk_1_5 tb_1 gk_1_0 q0 q1 q2 q3 q4 q5 q6 q7 q8 q9; subst q0
  unfold PS_X8_passOnce
  intro n m t hc
  (try simp only [q1, q2, q3, q4, q5, q6, q7, q8, q9]); have k9_0 : (0 : Int32).toInt = 0 := (by decide); have k9_1 : (1 : Int32).toInt = 1 := (by decide)
  have hc0 := hc
  obtain ⟨hn, hm, ht, ck, cp, ce, cw, cu, cg⟩ := hc0
  rcases gk_1_5 n m t hc with ⟨a1, a2, a3, a4, a5⟩ | ⟨a1, a2, a3, a4⟩ | ⟨a1, a2, a3, a4, a5⟩
  · have h8 := a2.1
    first | exact Or.inl ⟨by decide, a2, a3, a4, (fun _ _ => by omega), a5⟩ | (exfalso; omega)
  · exact absurd (a1.symm.trans tb_1) (by decide)
  · exact absurd (a1.symm.trans tb_1) (by decide)
set_option maxHeartbeats 4000000 in
theorem PL_X8_passOnce_3 {fi : Nat → Nat → Int32} {fl : Nat → Nat → Int64} {vi : Nat → Int32} {vl : Nat → Int64} {r : Int32} {fj : Nat → Nat → Int32} {fm : Nat → Nat → Int64} {vj : Nat → Int32} {vm : Nat → Int64} : RL_X8_passOnce_3 fi fl vi vl r fj fm vj vm (PS_X8_passOnce fi fl vi vl r fj fm vj vm) := by
  unfold RL_X8_passOnce_3
  intro c8 c12 fik_1 flk_1 vik_1 vlk_1 rk_1 gk_1_5 tb_1 gk_1_0 q0 q1 q2 q3 q4 q5 q6 q7 q8 q9; subst q0
  unfold PS_X8_passOnce
  intro n m t hc
  (try simp only [q1, q2, q3, q4, q5, q6, q7, q8, q9]); have k9_0 : (0 : Int32).toInt = 0 := (by decide); have k9_1 : (1 : Int32).toInt = 1 := (by decide)
  have hc0 := hc
  obtain ⟨hn, hm, ht, ck, cp, ce, cw, cu, cg⟩ := hc0
  rcases gk_1_5 n m t hc with ⟨a1, a2, a3, a4, a5⟩ | ⟨a1, a2, a3, a4⟩ | ⟨a1, a2, a3, a4, a5⟩
  · exact absurd (a1.symm.trans tb_1) (by decide)
  · exact Or.inr (Or.inl ⟨by decide, a2, a3, a4⟩)
  · exact Or.inr (Or.inr (Or.inl ⟨by decide, a2, a3, a4, a5⟩))
set_option maxHeartbeats 4000000 in
theorem PL_X8_passOnce_4 {fi : Nat → Nat → Int32} {fl : Nat → Nat → Int64} {vi : Nat → Int32} {vl : Nat → Int64} {r : Int32} {fj : Nat → Nat → Int32} {fm : Nat → Nat → Int64} {vj : Nat → Int32} {vm : Nat → Int64} : RL_X8_passOnce_4 fi fl vi vl r fj fm vj vm (PS_X8_passOnce fi fl vi vl r fj fm vj vm) := by
  unfold RL_X8_passOnce_4
  intro c8 c12 c18 fik_2 flk_2 vik_2 vlk_2 rk_2 gk_2_5 tb_2 gk_2_0 q0 q1 q2 q3 q4 q5 q6 q7 q8 q9; subst q0
  unfold PS_X8_passOnce
  intro n m t hc
  (try simp only [q1, q2, q3, q4, q5, q6, q7, q8, q9]); have k9_0 : (0 : Int32).toInt = 0 := (by decide); have k9_1 : (1 : Int32).toInt = 1 := (by decide)
  have hc0 := hc
  obtain ⟨hn, hm, ht, ck, cp, ce, cw, cu, cg⟩ := hc0
  rcases gk_2_5 n m t hc with ⟨a1, a2, a3, a4, a5⟩ | ⟨a1, a2, a3, a4⟩ | ⟨a1, a2, a3, a4, a5⟩
  · have h8 := a2.1
    first | exact Or.inl ⟨by decide, a2, a3, a4, (fun _ _ => by omega), a5⟩ | (exfalso; omega)
  · exact absurd (a1.symm.trans tb_2) (by decide)
  · exact absurd (a1.symm.trans tb_2) (by decide)
set_option maxHeartbeats 4000000 in
theorem PL_X8_passOnce_5 {fi : Nat → Nat → Int32} {fl : Nat → Nat → Int64} {vi : Nat → Int32} {vl : Nat → Int64} {r : Int32} {fj : Nat → Nat → Int32} {fm : Nat → Nat → Int64} {vj : Nat → Int32} {vm : Nat → Int64} : RL_X8_passOnce_5 fi fl vi vl r fj fm vj vm (PS_X8_passOnce fi fl vi vl r fj fm vj vm) := by
  unfold RL_X8_passOnce_5
  intro c8 c12 c18 fik_2 flk_2 vik_2 vlk_2 rk_2 gk_2_5 tb_2 gk_2_0 q0 q1 q2 q3 q4 q5 q6 q7 q8 q9; subst q0
  unfold PS_X8_passOnce
  intro n m t hc
  (try simp only [q1, q2, q3, q4, q5, q6, q7, q8, q9]); have k9_0 : (0 : Int32).toInt = 0 := (by decide); have k9_1 : (1 : Int32).toInt = 1 := (by decide)
  have hc0 := hc
  obtain ⟨hn, hm, ht, ck, cp, ce, cw, cu, cg⟩ := hc0
  rcases gk_2_5 n m t hc with ⟨a1, a2, a3, a4, a5⟩ | ⟨a1, a2, a3, a4⟩ | ⟨a1, a2, a3, a4, a5⟩
  · exact absurd (a1.symm.trans tb_2) (by decide)
  · exact Or.inr (Or.inl ⟨by decide, a2, a3, a4⟩)
  · exact Or.inr (Or.inr (Or.inl ⟨by decide, a2, a3, a4, a5⟩))
set_option maxHeartbeats 4000000 in
theorem PL_X8_passOnce_6 {fi : Nat → Nat → Int32} {fl : Nat → Nat → Int64} {vi : Nat → Int32} {vl : Nat → Int64} {r : Int32} {fj : Nat → Nat → Int32} {fm : Nat → Nat → Int64} {vj : Nat → Int32} {vm : Nat → Int64} : RL_X8_passOnce_6 fi fl vi vl r fj fm vj vm (PS_X8_passOnce fi fl vi vl r fj fm vj vm) := by
  unfold RL_X8_passOnce_6
  intro c8 c12 c18 c35 fik_3 flk_3 vik_3 vlk_3 rk_3 gk_3_5 tb_3 gk_3_0 q0 q1 q2 q3 q4 q5 q6 q7 q8 q9; subst q0
  unfold PS_X8_passOnce
  intro n m t hc
  (try simp only [q1, q2, q3, q4, q5, q6, q7, q8, q9]); have k9_0 : (0 : Int32).toInt = 0 := (by decide); have k9_1 : (1 : Int32).toInt = 1 := (by decide)
  have hc0 := hc
  obtain ⟨hn, hm, ht, ck, cp, ce, cw, cu, cg⟩ := hc0
  rcases gk_3_5 n m t hc with ⟨a1, a2, a3, a4, a5⟩ | ⟨a1, a2, a3, a4⟩ | ⟨a1, a2, a3, a4, a5⟩
  · have h8 := a2.1
    first | exact Or.inl ⟨by decide, a2, a3, a4, (fun _ _ => by omega), a5⟩ | (exfalso; omega)
  · exact absurd (a1.symm.trans tb_3) (by decide)
  · exact absurd (a1.symm.trans tb_3) (by decide)
set_option maxHeartbeats 4000000 in
theorem PL_X8_passOnce_7 {fi : Nat → Nat → Int32} {fl : Nat → Nat → Int64} {vi : Nat → Int32} {vl : Nat → Int64} {r : Int32} {fj : Nat → Nat → Int32} {fm : Nat → Nat → Int64} {vj : Nat → Int32} {vm : Nat → Int64} : RL_X8_passOnce_7 fi fl vi vl r fj fm vj vm (PS_X8_passOnce fi fl vi vl r fj fm vj vm) := by
  unfold RL_X8_passOnce_7
  intro c8 c12 c18 c35 fik_3 flk_3 vik_3 vlk_3 rk_3 gk_3_5 tb_3 gk_3_0 q0 q1 q2 q3 q4 q5 q6 q7 q8 q9; subst q0
  unfold PS_X8_passOnce
  intro n m t hc
  (try simp only [q1, q2, q3, q4, q5, q6, q7, q8, q9]); have k9_0 : (0 : Int32).toInt = 0 := (by decide); have k9_1 : (1 : Int32).toInt = 1 := (by decide)
  have hc0 := hc
  obtain ⟨hn, hm, ht, ck, cp, ce, cw, cu, cg⟩ := hc0
  rcases gk_3_5 n m t hc with ⟨a1, a2, a3, a4, a5⟩ | ⟨a1, a2, a3, a4⟩ | ⟨a1, a2, a3, a4, a5⟩
  · exact absurd (a1.symm.trans tb_3) (by decide)
  · exact Or.inr (Or.inl ⟨by decide, a2, a3, a4⟩)
  · exact Or.inr (Or.inr (Or.inl ⟨by decide, a2, a3, a4, a5⟩))
