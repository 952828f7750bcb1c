def RL_X8_readWish_0 (fi : Nat → Nat → Int32) (fl : Nat → Nat → Int64) (vi : Nat → Int32) (vl : Nat → Int64) (r : Int32) (fj : Nat → Nat → Int32) (fm : Nat → Nat → Int64) (vj : Nat → Int32) (vm : Nat → Int64) (Q9 : Prop) : Prop :=
  (0 ≤ (vi 12).toInt ∧ (vi 12).toInt ≤ 9) → (0 ≤ (vi 13).toInt ∧ (vi 13).toInt ≤ 9) → ∀ (fik : Nat → Nat → Int32), ∀ (flk : Nat → Nat → Int64), ∀ (vik : Nat → Int32), ∀ (vlk : Nat → Int64), ∀ (rk : Int32), (-1 ≤ rk.toInt ∧ rk.toInt ≤ 8) → (rk.toInt = fdx (fl 0) 0 (vl 0) ((vi 13).toInt).toNat) → ∀ (fik_1 : Nat → Nat → Int32), ∀ (flk_1 : Nat → Nat → Int64), ∀ (vik_1 : Nat → Int32), ∀ (vlk_1 : Nat → Int64), ∀ (rk_1 : Int32), (∀ n m t : Nat, CC (trn (fi 0) n) n m t (vi 2) (vi 3) (vi 5) (vi 6) (vi 4) (vl 0) (vi 7) (vi 8) → (rk_1.toInt = 1 ∧ (wMay (trn (fi 0) n) n m (ownB (fl 1)) t) ∧ ¬ rk.toInt = -1 ∧ (vik_1 0).toInt = rk.toInt ∧ (0 ≤ rk.toInt → rk.toInt < 9 → ((fi 1) (rk).toNatClampNeg).toInt = -1) ∧ CC (trn (fi 0) n) n m (sX (trn (fi 0) n) n m t) (vi 2) (vi 3) (vik_1 1) (vik_1 2) (vik_1 5) (vlk_1 0) (vik_1 4) (vik_1 3)) ∨ (rk_1.toInt = 0 ∧ ¬ (wMay (trn (fi 0) n) n m (ownB (fl 1)) t) ∧ (vik_1 6).toInt = 1 ∧ (vik_1 7).toInt = ((sPn (trn (fi 0) n) n m t) : Int)) ∨ (rk_1.toInt = 0 ∧ (wMay (trn (fi 0) n) n m (ownB (fl 1)) t) ∧ rk.toInt = -1 ∧ (vik_1 6).toInt = 3 ∧ (vik_1 7).toInt = ((sPn (trn (fi 0) n) n m t) : Int)) ∨ (rk_1.toInt = 0 ∧ (sK (trn (fi 0) n) n m t) = 1 ∧ 0 ≤ rk.toInt ∧ rk.toInt < 9 ∧ ¬ ((fi 1) (rk).toNatClampNeg).toInt = -1 ∧ (vik_1 6).toInt = 3 ∧ (vik_1 7).toInt = ((sPn (trn (fi 0) n) n m t) : Int))) → (rk_1.toInt = 1) → ((vik_1 0).toInt = rk.toInt ∧ ¬ rk.toInt = -1) → ∀ (fik_2 : Nat → Nat → Int32), ∀ (flk_2 : Nat → Nat → Int64), ∀ (vik_2 : Nat → Int32), ∀ (vlk_2 : Nat → Int64), ∀ (rk_2 : Int32), (-1 ≤ rk_2.toInt ∧ rk_2.toInt ≤ 8) → (rk_2.toInt = fdx (fl 2) 0 (vlk_1 0) ((vi 12).toInt).toNat) → ∀ (fik_3 : Nat → Nat → Int32), ∀ (flk_3 : Nat → Nat → Int64), ∀ (vik_3 : Nat → Int32), ∀ (vlk_3 : Nat → Int64), ∀ (rk_3 : Int32), (∀ n m t : Nat, CC (trn (fi 0) n) n m t (vi 2) (vi 3) (vik_1 1) (vik_1 2) (vik_1 5) (vlk_1 0) (vik_1 4) (vik_1 3) → (rk_3.toInt = 1 ∧ (wMay (trn (fi 0) n) n m (ownB (fl 1)) t) ∧ ¬ rk_2.toInt = -1 ∧ (vik_3 0).toInt = rk_2.toInt ∧ CC (trn (fi 0) n) n m (sX (trn (fi 0) n) n m t) (vi 2) (vi 3) (vik_3 1) (vik_3 2) (vik_3 5) (vlk_3 0) (vik_3 4) (vik_3 3)) ∨ (rk_3.toInt = 0 ∧ ¬ (wMay (trn (fi 0) n) n m (ownB (fl 1)) t) ∧ (vik_3 6).toInt = 1 ∧ (vik_3 7).toInt = ((sPn (trn (fi 0) n) n m t) : Int)) ∨ (rk_3.toInt = 0 ∧ (wMay (trn (fi 0) n) n m (ownB (fl 1)) t) ∧ rk_2.toInt = -1 ∧ (vik_3 6).toInt = 3 ∧ (vik_3 7).toInt = ((sPn (trn (fi 0) n) n m t) : Int))) → (rk_3.toInt = 1) → ((vik_3 0).toInt = rk_2.toInt ∧ ¬ rk_2.toInt = -1 ∧ (vik_1 1).toInt = 1) → ∀ (fik_4 : Nat → Nat → Int32), ∀ (flk_4 : Nat → Nat → Int64), ∀ (vik_4 : Nat → Int32), ∀ (vlk_4 : Nat → Int64), ∀ (rk_4 : Int32), (rk_4.toInt = 1) → (0 ≤ (vik_1 0).toInt ∧ (vik_1 0).toInt < (vi 13).toInt) → ∀ (f90 : Nat → Int32), (f90 = upd (fi 1) (vik_1 0).toNatClampNeg ((vik_3 0) : Int32)) → (r = (1 : Int32)) → (fj 0 = f90) → (vj 0 = (vik_3 0)) → (vj 1 = (vik_3 1)) → (vj 2 = (vik_3 2)) → (vj 3 = (vik_3 3)) → (vj 4 = (vik_3 4)) → (vj 5 = (vik_3 5)) → (vj 6 = (vik_3 6)) → (vj 7 = (vik_3 7)) → (vm 0 = (vlk_3 0)) → Q9
def RL_X8_readWish_1 (fi : Nat → Nat → Int32) (fl : Nat → Nat → Int64) (vi : Nat → Int32) (vl : Nat → Int64) (r : Int32) (fj : Nat → Nat → Int32) (fm : Nat → Nat → Int64) (vj : Nat → Int32) (vm : Nat → Int64) (Q9 : Prop) : Prop :=
  (0 ≤ (vi 12).toInt ∧ (vi 12).toInt ≤ 9) → (0 ≤ (vi 13).toInt ∧ (vi 13).toInt ≤ 9) → ∀ (fik : Nat → Nat → Int32), ∀ (flk : Nat → Nat → Int64), ∀ (vik : Nat → Int32), ∀ (vlk : Nat → Int64), ∀ (rk : Int32), (-1 ≤ rk.toInt ∧ rk.toInt ≤ 8) → (rk.toInt = fdx (fl 0) 0 (vl 0) ((vi 13).toInt).toNat) → ∀ (fik_1 : Nat → Nat → Int32), ∀ (flk_1 : Nat → Nat → Int64), ∀ (vik_1 : Nat → Int32), ∀ (vlk_1 : Nat → Int64), ∀ (rk_1 : Int32), (∀ n m t : Nat, CC (trn (fi 0) n) n m t (vi 2) (vi 3) (vi 5) (vi 6) (vi 4) (vl 0) (vi 7) (vi 8) → (rk_1.toInt = 1 ∧ (wMay (trn (fi 0) n) n m (ownB (fl 1)) t) ∧ ¬ rk.toInt = -1 ∧ (vik_1 0).toInt = rk.toInt ∧ (0 ≤ rk.toInt → rk.toInt < 9 → ((fi 1) (rk).toNatClampNeg).toInt = -1) ∧ CC (trn (fi 0) n) n m (sX (trn (fi 0) n) n m t) (vi 2) (vi 3) (vik_1 1) (vik_1 2) (vik_1 5) (vlk_1 0) (vik_1 4) (vik_1 3)) ∨ (rk_1.toInt = 0 ∧ ¬ (wMay (trn (fi 0) n) n m (ownB (fl 1)) t) ∧ (vik_1 6).toInt = 1 ∧ (vik_1 7).toInt = ((sPn (trn (fi 0) n) n m t) : Int)) ∨ (rk_1.toInt = 0 ∧ (wMay (trn (fi 0) n) n m (ownB (fl 1)) t) ∧ rk.toInt = -1 ∧ (vik_1 6).toInt = 3 ∧ (vik_1 7).toInt = ((sPn (trn (fi 0) n) n m t) : Int)) ∨ (rk_1.toInt = 0 ∧ (sK (trn (fi 0) n) n m t) = 1 ∧ 0 ≤ rk.toInt ∧ rk.toInt < 9 ∧ ¬ ((fi 1) (rk).toNatClampNeg).toInt = -1 ∧ (vik_1 6).toInt = 3 ∧ (vik_1 7).toInt = ((sPn (trn (fi 0) n) n m t) : Int))) → (rk_1.toInt = 1) → ((vik_1 0).toInt = rk.toInt ∧ ¬ rk.toInt = -1) → ∀ (fik_2 : Nat → Nat → Int32), ∀ (flk_2 : Nat → Nat → Int64), ∀ (vik_2 : Nat → Int32), ∀ (vlk_2 : Nat → Int64), ∀ (rk_2 : Int32), (-1 ≤ rk_2.toInt ∧ rk_2.toInt ≤ 8) → (rk_2.toInt = fdx (fl 2) 0 (vlk_1 0) ((vi 12).toInt).toNat) → ∀ (fik_3 : Nat → Nat → Int32), ∀ (flk_3 : Nat → Nat → Int64), ∀ (vik_3 : Nat → Int32), ∀ (vlk_3 : Nat → Int64), ∀ (rk_3 : Int32), (∀ n m t : Nat, CC (trn (fi 0) n) n m t (vi 2) (vi 3) (vik_1 1) (vik_1 2) (vik_1 5) (vlk_1 0) (vik_1 4) (vik_1 3) → (rk_3.toInt = 1 ∧ (wMay (trn (fi 0) n) n m (ownB (fl 1)) t) ∧ ¬ rk_2.toInt = -1 ∧ (vik_3 0).toInt = rk_2.toInt ∧ CC (trn (fi 0) n) n m (sX (trn (fi 0) n) n m t) (vi 2) (vi 3) (vik_3 1) (vik_3 2) (vik_3 5) (vlk_3 0) (vik_3 4) (vik_3 3)) ∨ (rk_3.toInt = 0 ∧ ¬ (wMay (trn (fi 0) n) n m (ownB (fl 1)) t) ∧ (vik_3 6).toInt = 1 ∧ (vik_3 7).toInt = ((sPn (trn (fi 0) n) n m t) : Int)) ∨ (rk_3.toInt = 0 ∧ (wMay (trn (fi 0) n) n m (ownB (fl 1)) t) ∧ rk_2.toInt = -1 ∧ (vik_3 6).toInt = 3 ∧ (vik_3 7).toInt = ((sPn (trn (fi 0) n) n m t) : Int))) → (rk_3.toInt = 1) → ((vik_3 0).toInt = rk_2.toInt ∧ ¬ rk_2.toInt = -1 ∧ (vik_1 1).toInt = 1) → ∀ (fik_4 : Nat → Nat → Int32), ∀ (flk_4 : Nat → Nat → Int64), ∀ (vik_4 : Nat → Int32), ∀ (vlk_4 : Nat → Int64), ∀ (rk_4 : Int32), (rk_4.toInt = 0) → (¬ (0 ≤ (vik_1 0).toInt ∧ (vik_1 0).toInt < (vi 13).toInt)) → (r = (0 : Int32)) → (fj 0 = (fi 1)) → (vj 0 = (vik_3 0)) → (vj 1 = (vik_3 1)) → (vj 2 = (vik_3 2)) → (vj 3 = (vik_3 3)) → (vj 4 = (vik_3 4)) → (vj 5 = (vik_3 5)) → (vj 6 = (vik_3 6)) → (vj 7 = (vik_3 7)) → (vm 0 = (vlk_3 0)) → Q9
def RL_X8_readWish_2 (fi : Nat → Nat → Int32) (fl : Nat → Nat → Int64) (vi : Nat → Int32) (vl : Nat → Int64) (r : Int32) (fj : Nat → Nat → Int32) (fm : Nat → Nat → Int64) (vj : Nat → Int32) (vm : Nat → Int64) (Q9 : Prop) : Prop :=
  (0 ≤ (vi 12).toInt ∧ (vi 12).toInt ≤ 9) → (0 ≤ (vi 13).toInt ∧ (vi 13).toInt ≤ 9) → ∀ (fik : Nat → Nat → Int32), ∀ (flk : Nat → Nat → Int64), ∀ (vik : Nat → Int32), ∀ (vlk : Nat → Int64), ∀ (rk : Int32), (-1 ≤ rk.toInt ∧ rk.toInt ≤ 8) → (rk.toInt = fdx (fl 0) 0 (vl 0) ((vi 13).toInt).toNat) → ∀ (fik_1 : Nat → Nat → Int32), ∀ (flk_1 : Nat → Nat → Int64), ∀ (vik_1 : Nat → Int32), ∀ (vlk_1 : Nat → Int64), ∀ (rk_1 : Int32), (∀ n m t : Nat, CC (trn (fi 0) n) n m t (vi 2) (vi 3) (vi 5) (vi 6) (vi 4) (vl 0) (vi 7) (vi 8) → (rk_1.toInt = 1 ∧ (wMay (trn (fi 0) n) n m (ownB (fl 1)) t) ∧ ¬ rk.toInt = -1 ∧ (vik_1 0).toInt = rk.toInt ∧ (0 ≤ rk.toInt → rk.toInt < 9 → ((fi 1) (rk).toNatClampNeg).toInt = -1) ∧ CC (trn (fi 0) n) n m (sX (trn (fi 0) n) n m t) (vi 2) (vi 3) (vik_1 1) (vik_1 2) (vik_1 5) (vlk_1 0) (vik_1 4) (vik_1 3)) ∨ (rk_1.toInt = 0 ∧ ¬ (wMay (trn (fi 0) n) n m (ownB (fl 1)) t) ∧ (vik_1 6).toInt = 1 ∧ (vik_1 7).toInt = ((sPn (trn (fi 0) n) n m t) : Int)) ∨ (rk_1.toInt = 0 ∧ (wMay (trn (fi 0) n) n m (ownB (fl 1)) t) ∧ rk.toInt = -1 ∧ (vik_1 6).toInt = 3 ∧ (vik_1 7).toInt = ((sPn (trn (fi 0) n) n m t) : Int)) ∨ (rk_1.toInt = 0 ∧ (sK (trn (fi 0) n) n m t) = 1 ∧ 0 ≤ rk.toInt ∧ rk.toInt < 9 ∧ ¬ ((fi 1) (rk).toNatClampNeg).toInt = -1 ∧ (vik_1 6).toInt = 3 ∧ (vik_1 7).toInt = ((sPn (trn (fi 0) n) n m t) : Int))) → (rk_1.toInt = 1) → ((vik_1 0).toInt = rk.toInt ∧ ¬ rk.toInt = -1) → ∀ (fik_2 : Nat → Nat → Int32), ∀ (flk_2 : Nat → Nat → Int64), ∀ (vik_2 : Nat → Int32), ∀ (vlk_2 : Nat → Int64), ∀ (rk_2 : Int32), (-1 ≤ rk_2.toInt ∧ rk_2.toInt ≤ 8) → (rk_2.toInt = fdx (fl 2) 0 (vlk_1 0) ((vi 12).toInt).toNat) → ∀ (fik_3 : Nat → Nat → Int32), ∀ (flk_3 : Nat → Nat → Int64), ∀ (vik_3 : Nat → Int32), ∀ (vlk_3 : Nat → Int64), ∀ (rk_3 : Int32), (∀ n m t : Nat, CC (trn (fi 0) n) n m t (vi 2) (vi 3) (vik_1 1) (vik_1 2) (vik_1 5) (vlk_1 0) (vik_1 4) (vik_1 3) → (rk_3.toInt = 1 ∧ (wMay (trn (fi 0) n) n m (ownB (fl 1)) t) ∧ ¬ rk_2.toInt = -1 ∧ (vik_3 0).toInt = rk_2.toInt ∧ CC (trn (fi 0) n) n m (sX (trn (fi 0) n) n m t) (vi 2) (vi 3) (vik_3 1) (vik_3 2) (vik_3 5) (vlk_3 0) (vik_3 4) (vik_3 3)) ∨ (rk_3.toInt = 0 ∧ ¬ (wMay (trn (fi 0) n) n m (ownB (fl 1)) t) ∧ (vik_3 6).toInt = 1 ∧ (vik_3 7).toInt = ((sPn (trn (fi 0) n) n m t) : Int)) ∨ (rk_3.toInt = 0 ∧ (wMay (trn (fi 0) n) n m (ownB (fl 1)) t) ∧ rk_2.toInt = -1 ∧ (vik_3 6).toInt = 3 ∧ (vik_3 7).toInt = ((sPn (trn (fi 0) n) n m t) : Int))) → (rk_3.toInt = 0) → (True) → (r = (0 : Int32)) → (fj 0 = (fi 1)) → (vj 0 = (vik_3 0)) → (vj 1 = (vik_3 1)) → (vj 2 = (vik_3 2)) → (vj 3 = (vik_3 3)) → (vj 4 = (vik_3 4)) → (vj 5 = (vik_3 5)) → (vj 6 = (vik_3 6)) → (vj 7 = (vik_3 7)) → (vm 0 = (vlk_3 0)) → Q9
def RL_X8_readWish_3 (fi : Nat → Nat → Int32) (fl : Nat → Nat → Int64) (vi : Nat → Int32) (vl : Nat → Int64) (r : Int32) (fj : Nat → Nat → Int32) (fm : Nat → Nat → Int64) (vj : Nat → Int32) (vm : Nat → Int64) (Q9 : Prop) : Prop :=
  (0 ≤ (vi 12).toInt ∧ (vi 12).toInt ≤ 9) → (0 ≤ (vi 13).toInt ∧ (vi 13).toInt ≤ 9) → ∀ (fik : Nat → Nat → Int32), ∀ (flk : Nat → Nat → Int64), ∀ (vik : Nat → Int32), ∀ (vlk : Nat → Int64), ∀ (rk : Int32), (-1 ≤ rk.toInt ∧ rk.toInt ≤ 8) → (rk.toInt = fdx (fl 0) 0 (vl 0) ((vi 13).toInt).toNat) → ∀ (fik_1 : Nat → Nat → Int32), ∀ (flk_1 : Nat → Nat → Int64), ∀ (vik_1 : Nat → Int32), ∀ (vlk_1 : Nat → Int64), ∀ (rk_1 : Int32), (∀ n m t : Nat, CC (trn (fi 0) n) n m t (vi 2) (vi 3) (vi 5) (vi 6) (vi 4) (vl 0) (vi 7) (vi 8) → (rk_1.toInt = 1 ∧ (wMay (trn (fi 0) n) n m (ownB (fl 1)) t) ∧ ¬ rk.toInt = -1 ∧ (vik_1 0).toInt = rk.toInt ∧ (0 ≤ rk.toInt → rk.toInt < 9 → ((fi 1) (rk).toNatClampNeg).toInt = -1) ∧ CC (trn (fi 0) n) n m (sX (trn (fi 0) n) n m t) (vi 2) (vi 3) (vik_1 1) (vik_1 2) (vik_1 5) (vlk_1 0) (vik_1 4) (vik_1 3)) ∨ (rk_1.toInt = 0 ∧ ¬ (wMay (trn (fi 0) n) n m (ownB (fl 1)) t) ∧ (vik_1 6).toInt = 1 ∧ (vik_1 7).toInt = ((sPn (trn (fi 0) n) n m t) : Int)) ∨ (rk_1.toInt = 0 ∧ (wMay (trn (fi 0) n) n m (ownB (fl 1)) t) ∧ rk.toInt = -1 ∧ (vik_1 6).toInt = 3 ∧ (vik_1 7).toInt = ((sPn (trn (fi 0) n) n m t) : Int)) ∨ (rk_1.toInt = 0 ∧ (sK (trn (fi 0) n) n m t) = 1 ∧ 0 ≤ rk.toInt ∧ rk.toInt < 9 ∧ ¬ ((fi 1) (rk).toNatClampNeg).toInt = -1 ∧ (vik_1 6).toInt = 3 ∧ (vik_1 7).toInt = ((sPn (trn (fi 0) n) n m t) : Int))) → (rk_1.toInt = 0) → (True) → (r = (0 : Int32)) → (fj 0 = (fi 1)) → (vj 0 = (vik_1 0)) → (vj 1 = (vik_1 1)) → (vj 2 = (vik_1 2)) → (vj 3 = (vik_1 3)) → (vj 4 = (vik_1 4)) → (vj 5 = (vik_1 5)) → (vj 6 = (vik_1 6)) → (vj 7 = (vik_1 7)) → (vm 0 = (vlk_1 0)) → Q9
def R_X8_readWish (fi : Nat → Nat → Int32) (fl : Nat → Nat → Int64) (vi : Nat → Int32) (vl : Nat → Int64) (r : Int32) (fj : Nat → Nat → Int32) (fm : Nat → Nat → Int64) (vj : Nat → Int32) (vm : Nat → Int64) : Prop :=
  ∀ Q9 : Prop, RL_X8_readWish_0 fi fl vi vl r fj fm vj vm Q9 → RL_X8_readWish_1 fi fl vi vl r fj fm vj vm Q9 → RL_X8_readWish_2 fi fl vi vl r fj fm vj vm Q9 → RL_X8_readWish_3 fi fl vi vl r fj fm vj vm Q9 → Q9
def PS_X8_readWish (fi : Nat → Nat → Int32) (fl : Nat → Nat → Int64) (vi : Nat → Int32) (vl : Nat → Int64) (r : Int32) (fj : Nat → Nat → Int32) (fm : Nat → Nat → Int64) (vj : Nat → Int32) (vm : Nat → Int64) : Prop :=
  ∀ n m t : Nat, CC (trn (fi 0) n) n m t (vi 2) (vi 3) (vi 5) (vi 6) (vi 4) (vl 0) (vi 7) (vi 8) → ∀ (H : Nat → Int) (N : Nat → Int64) (O : Nat → Bool), (RWn (ownB (fl 1)) (vi 12) (fl 2) H N) → (RWs (ownB (fl 1)) (vi 13) (fl 0) H N) → RH (fi 1) 47 H → LO (lnWish (trn (fi 0) n) n m (ownB (fl 1)) H N O t) r (vj 6) (vj 7) (fun t' H' N' O' => CC (trn (fi 0) n) n m t' (vi 2) (vi 3) (vj 1) (vj 2) (vj 5) (vm 0) (vj 4) (vj 3) ∧ ∃ (k : Nat) (u : Int), (k : Int) < H 1 ∧ 0 < u ∧ H' = setI H (47 + k) u ∧ N' = N ∧ O' = O ∧ (∀ j : Nat, ¬ j = k → (fj 0) j = (fi 1) j) ∧ ¬ ((fj 0) k).toInt = -1)
set_option maxHeartbeats 4000000 in
theorem PL_X8_readWish_0 {fi : Nat → Nat → Int32} {fl : Nat → Nat → Int64} {vi : Nat → Int32} {vl : Nat → Int64} {r : Int32} {fj : Nat → Nat → Int32} {fm : Nat → Nat → Int64} {vj : Nat → Int32} {vm : Nat → Int64} : RL_X8_readWish_0 fi fl vi vl r fj fm vj vm (PS_X8_readWish fi fl vi vl r fj fm vj vm) := by
  unfold RL_X8_readWish_0
  intro hp5 hp6 fik flk vik vlk rk gk_0 gk_1 fik_1 flk_1 vik_1 vlk_1 rk_1 gk_1_5 tb gk_1_0 fik_2 flk_2 vik_2 vlk_2 rk_2 gk_2_0 gk_2_1 fik_3 flk_3 vik_3 vlk_3 rk_3 gk_3_5 tb_1 gk_3_0 fik_4 flk_4 vik_4 vlk_4 rk_4 tb_2 gk_4_0 f90 ef90 q0 q1 q2 q3 q4 q5 q6 q7 q8 q9 q10; subst q0
  unfold PS_X8_readWish
  intro n m t hc H N O hN hS hI
  (try simp only [q1, q2, q3, q4, q5, q6, q7, q8, q9, q10]); have k9_0 : (0 : Int32).toInt = 0 := (by decide); have k9_1 : (1 : Int32).toInt = 1 := (by decide)
  have hc0 := hc
  obtain ⟨hn, hm, ht, ck, cp, ce, cw, cu, cg⟩ := hc0
  have hS9 := hS.1
  rw [RWs_f hS] at gk_1
  rcases gk_1_5 n m t hc with ⟨a1, a2, a3, a4, a5, a6⟩ | ⟨a1, a2, a3, a4⟩ | ⟨a1, a2, a3, a4, a5⟩ | ⟨a1, a2, a3, a4, a5, a6, a7⟩
  · have hfo := kn_of cw gk_1 a2
    have hr9 := RWs_o hS (w := sW (trn (fi 0) n) n m t) (by omega)
    have hk0 : (fKn (trn (fi 0) n) n m (ownB (fl 1)) N 27 (H 1) t) = 0 := fKn_0 a2 (by omega)
    have hrow := a5 (by omega) (by omega)
    have hI9 := hI (fdx N 27 (sW (trn (fi 0) n) n m t) (H 1).toNat).toNat (by omega)
    have hz9 : H (47 + (fdx N 27 (sW (trn (fi 0) n) n m t) (H 1).toNat).toNat) = 0 := hI9.1.mp (by rw [show (fdx N 27 (sW (trn (fi 0) n) n m t) (H 1).toNat).toNat = rk.toNatClampNeg from (show _ = rk.toInt.toNat by omega)]; exact hrow)
    have hd0 := a6
    obtain ⟨dn, dm, dt, dk, dp, de, dw, du, dg⟩ := hd0
    rw [RWn_f hN] at gk_2_1
    have hN9 := hN.1
    rcases gk_3_5 n m _ a6 with ⟨b1, b2, b3, b4, b5⟩ | ⟨b1, b2, b3, b4⟩ | ⟨b1, b2, b3, b4, b5⟩
    · have hfo2 := kn_of dw gk_2_1 b2
      have hk2 : (fKn (trn (fi 0) n) n m (ownB (fl 1)) N 18 (H 0) (sX (trn (fi 0) n) n m t)) = 0 := fKn_0 b2 (by omega)
      have hr8 := RWn_o hN (w := sW (trn (fi 0) n) n m (sX (trn (fi 0) n) n m t)) (by omega)
      exact LO_good (by unfold lnWish; rw [if_neg (fun c => c hk0), if_neg (by omega), if_neg (fun c => c hk2)]) (by decide) ⟨b5, (fdx N 27 (sW (trn (fi 0) n) n m t) (H 1).toNat).toNat, _, by omega, by omega, rfl, rfl, rfl, (fun j hj => by rw [ef90]; exact if_neg (fun c => hj (c.trans (show (vik_1 0).toInt.toNat = _ by omega)))), (by rw [ef90, show (fdx N 27 (sW (trn (fi 0) n) n m t) (H 1).toNat).toNat = (vik_1 0).toNatClampNeg from (show _ = (vik_1 0).toInt.toNat by omega), upd_eq]; omega)⟩
    · exact absurd (b1.symm.trans tb_1) (by decide)
    · exact absurd (b1.symm.trans tb_1) (by decide)
  · exact absurd (a1.symm.trans tb) (by decide)
  · exact absurd (a1.symm.trans tb) (by decide)
  · exact absurd (a1.symm.trans tb) (by decide)
set_option maxHeartbeats 4000000 in
theorem PL_X8_readWish_1 {fi : Nat → Nat → Int32} {fl : Nat → Nat → Int64} {vi : Nat → Int32} {vl : Nat → Int64} {r : Int32} {fj : Nat → Nat → Int32} {fm : Nat → Nat → Int64} {vj : Nat → Int32} {vm : Nat → Int64} : RL_X8_readWish_1 fi fl vi vl r fj fm vj vm (PS_X8_readWish fi fl vi vl r fj fm vj vm) := by
  unfold RL_X8_readWish_1
  intro hp5 hp6 fik flk vik vlk rk gk_0 gk_1 fik_1 flk_1 vik_1 vlk_1 rk_1 gk_1_5 tb gk_1_0 fik_2 flk_2 vik_2 vlk_2 rk_2 gk_2_0 gk_2_1 fik_3 flk_3 vik_3 vlk_3 rk_3 gk_3_5 tb_1 gk_3_0 fik_4 flk_4 vik_4 vlk_4 rk_4 tb_2 gk_4_0 q0 q1 q2 q3 q4 q5 q6 q7 q8 q9 q10; subst q0
  unfold PS_X8_readWish
  intro n m t hc H N O hN hS hI
  (try simp only [q1, q2, q3, q4, q5, q6, q7, q8, q9, q10]); have k9_0 : (0 : Int32).toInt = 0 := (by decide); have k9_1 : (1 : Int32).toInt = 1 := (by decide)
  have hc0 := hc
  obtain ⟨hn, hm, ht, ck, cp, ce, cw, cu, cg⟩ := hc0
  have hS9 := hS.1
  rw [RWs_f hS] at gk_1
  rcases gk_1_5 n m t hc with ⟨a1, a2, a3, a4, a5, a6⟩ | ⟨a1, a2, a3, a4⟩ | ⟨a1, a2, a3, a4, a5⟩ | ⟨a1, a2, a3, a4, a5, a6, a7⟩
  · have hfo := kn_of cw gk_1 a2
    have hr9 := RWs_o hS (w := sW (trn (fi 0) n) n m t) (by omega)
    have hk0 : (fKn (trn (fi 0) n) n m (ownB (fl 1)) N 27 (H 1) t) = 0 := fKn_0 a2 (by omega)
    have hrow := a5 (by omega) (by omega)
    have hI9 := hI (fdx N 27 (sW (trn (fi 0) n) n m t) (H 1).toNat).toNat (by omega)
    have hz9 : H (47 + (fdx N 27 (sW (trn (fi 0) n) n m t) (H 1).toNat).toNat) = 0 := hI9.1.mp (by rw [show (fdx N 27 (sW (trn (fi 0) n) n m t) (H 1).toNat).toNat = rk.toNatClampNeg from (show _ = rk.toInt.toNat by omega)]; exact hrow)
    have hd0 := a6
    obtain ⟨dn, dm, dt, dk, dp, de, dw, du, dg⟩ := hd0
    rw [RWn_f hN] at gk_2_1
    have hN9 := hN.1
    rcases gk_3_5 n m _ a6 with ⟨b1, b2, b3, b4, b5⟩ | ⟨b1, b2, b3, b4⟩ | ⟨b1, b2, b3, b4, b5⟩
    · exfalso; omega
    · exact absurd (b1.symm.trans tb_1) (by decide)
    · exact absurd (b1.symm.trans tb_1) (by decide)
  · exact absurd (a1.symm.trans tb) (by decide)
  · exact absurd (a1.symm.trans tb) (by decide)
  · exact absurd (a1.symm.trans tb) (by decide)
set_option maxHeartbeats 4000000 in
theorem PL_X8_readWish_2 {fi : Nat → Nat → Int32} {fl : Nat → Nat → Int64} {vi : Nat → Int32} {vl : Nat → Int64} {r : Int32} {fj : Nat → Nat → Int32} {fm : Nat → Nat → Int64} {vj : Nat → Int32} {vm : Nat → Int64} : RL_X8_readWish_2 fi fl vi vl r fj fm vj vm (PS_X8_readWish fi fl vi vl r fj fm vj vm) := by
  unfold RL_X8_readWish_2
  intro hp5 hp6 fik flk vik vlk rk gk_0 gk_1 fik_1 flk_1 vik_1 vlk_1 rk_1 gk_1_5 tb gk_1_0 fik_2 flk_2 vik_2 vlk_2 rk_2 gk_2_0 gk_2_1 fik_3 flk_3 vik_3 vlk_3 rk_3 gk_3_5 tb_1 gk_3_0 q0 q1 q2 q3 q4 q5 q6 q7 q8 q9 q10; subst q0
  unfold PS_X8_readWish
  intro n m t hc H N O hN hS hI
  (try simp only [q1, q2, q3, q4, q5, q6, q7, q8, q9, q10]); have k9_0 : (0 : Int32).toInt = 0 := (by decide); have k9_1 : (1 : Int32).toInt = 1 := (by decide)
  have hc0 := hc
  obtain ⟨hn, hm, ht, ck, cp, ce, cw, cu, cg⟩ := hc0
  have hS9 := hS.1
  rw [RWs_f hS] at gk_1
  rcases gk_1_5 n m t hc with ⟨a1, a2, a3, a4, a5, a6⟩ | ⟨a1, a2, a3, a4⟩ | ⟨a1, a2, a3, a4, a5⟩ | ⟨a1, a2, a3, a4, a5, a6, a7⟩
  · have hfo := kn_of cw gk_1 a2
    have hr9 := RWs_o hS (w := sW (trn (fi 0) n) n m t) (by omega)
    have hk0 : (fKn (trn (fi 0) n) n m (ownB (fl 1)) N 27 (H 1) t) = 0 := fKn_0 a2 (by omega)
    have hrow := a5 (by omega) (by omega)
    have hI9 := hI (fdx N 27 (sW (trn (fi 0) n) n m t) (H 1).toNat).toNat (by omega)
    have hz9 : H (47 + (fdx N 27 (sW (trn (fi 0) n) n m t) (H 1).toNat).toNat) = 0 := hI9.1.mp (by rw [show (fdx N 27 (sW (trn (fi 0) n) n m t) (H 1).toNat).toNat = rk.toNatClampNeg from (show _ = rk.toInt.toNat by omega)]; exact hrow)
    have hd0 := a6
    obtain ⟨dn, dm, dt, dk, dp, de, dw, du, dg⟩ := hd0
    rw [RWn_f hN] at gk_2_1
    have hN9 := hN.1
    rcases gk_3_5 n m _ a6 with ⟨b1, b2, b3, b4, b5⟩ | ⟨b1, b2, b3, b4⟩ | ⟨b1, b2, b3, b4, b5⟩
    · exact absurd (b1.symm.trans tb_1) (by decide)
    · have hk1 : (fKn (trn (fi 0) n) n m (ownB (fl 1)) N 18 (H 0) (sX (trn (fi 0) n) n m t)) = 1 := fKn_1 b2
      exact LO_bad (by unfold lnWish; rw [if_neg (fun c => c hk0), if_neg (by omega), if_pos (by omega)]) (by decide) (by omega) b4
    · have hfo2 := kn_of dw gk_2_1 b2
      have hk3 : (fKn (trn (fi 0) n) n m (ownB (fl 1)) N 18 (H 0) (sX (trn (fi 0) n) n m t)) = 3 := fKn_3 b2 (by omega)
      exact LO_bad (by unfold lnWish; rw [if_neg (fun c => c hk0), if_neg (by omega), if_pos (by omega)]) (by decide) (by omega) b5
  · exact absurd (a1.symm.trans tb) (by decide)
  · exact absurd (a1.symm.trans tb) (by decide)
  · exact absurd (a1.symm.trans tb) (by decide)
