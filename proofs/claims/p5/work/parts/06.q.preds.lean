/-! a ROLL's rows: what each LINE holds -/
def rk (so wo wm : Nat → Int32) (n : Int) : Prop := ∀ j : Nat, (j : Int) < n → 0 ≤ (so j).toInt ∧ (so j).toInt ≤ 7 ∧ ((so j).toInt = 6 ∨ 0 ≤ (wo j).toInt ∧ (wo j).toInt ≤ 8) ∧ (3 ≤ (so j).toInt ∨ 0 ≤ (wm j).toInt ∧ (wm j).toInt ≤ 8)
theorem rk_at {so wo wm : Nat → Int32} {n : Int} (h : rk so wo wm n) {i : Int32} (h0 : 0 ≤ i.toInt) (h1 : i.toInt < n) : 0 ≤ (so i.toNatClampNeg).toInt ∧ (so i.toNatClampNeg).toInt ≤ 7 ∧ ((so i.toNatClampNeg).toInt = 6 ∨ 0 ≤ (wo i.toNatClampNeg).toInt ∧ (wo i.toNatClampNeg).toInt ≤ 8) ∧ (3 ≤ (so i.toNatClampNeg).toInt ∨ 0 ≤ (wm i.toNatClampNeg).toInt ∧ (wm i.toNatClampNeg).toInt ≤ 8) :=
  h _ (show ((i.toInt.toNat : Nat) : Int) < n by omega)
theorem rk_new {so so' wo wm : Nat → Int32} {n s g : Int32} {n' : Int} (h : rk so wo wm n.toInt) (h0 : 0 ≤ n.toInt) (hs : ∀ j : Nat, ¬ j = n.toNatClampNeg → so' j = so j) (hv : 0 ≤ (so' n.toNatClampNeg).toInt ∧ (so' n.toNatClampNeg).toInt ≤ 7 ∧ ((so' n.toNatClampNeg).toInt = 6 ∨ 0 ≤ s.toInt ∧ s.toInt ≤ 8) ∧ (3 ≤ (so' n.toNatClampNeg).toInt ∨ 0 ≤ g.toInt ∧ g.toInt ≤ 8)) (hn : n' = n.toInt + 1) : rk so' (upd wo n.toNatClampNeg s) (upd wm n.toNatClampNeg g) n' := by
  intro j hj
  by_cases e : j = n.toNatClampNeg
  · subst e
    simpa [upd] using hv
  · have e1 : n.toNatClampNeg = n.toInt.toNat := rfl
    rw [hs j e]
    unfold upd
    rw [if_neg e, if_neg e]
    exact h j (by omega)
