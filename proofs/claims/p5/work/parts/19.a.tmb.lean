theorem tm_bad4 {X : Int × Int × (Nat → Int) × (Nat → Int64)} {r fp fk : Int32} {E S : Prop} (h : X.1 = -1 - fp.toInt ∧ X.2.1 = fk.toInt) (hr : r.toInt = -1 - fp.toInt) (h0 : 0 ≤ fp.toInt) (hS : S) : r.toInt = X.1 ∧ (0 ≤ r.toInt → E) ∧ (r.toInt < 0 → S) :=
  ⟨hr.trans h.1.symm, fun c => absurd c (by omega), fun _ => hS⟩
theorem tm_bad5 {X : Int × Int × (Nat → Int) × (Nat → Int64)} {r fp fk : Int32} {E S : Prop} (h : X.1 = -1 - fp.toInt ∧ X.2.1 = fk.toInt) (hr : r.toInt = -1 - fp.toInt) (h0 : 0 ≤ fp.toInt) (hS : S) : r.toInt = X.1 ∧ (0 ≤ r.toInt → E) ∧ (r.toInt < 0 → S) ∧ fk.toInt = X.2.1 :=
  ⟨hr.trans h.1.symm, fun c => absurd c (by omega), fun _ => hS, h.2.symm⟩
