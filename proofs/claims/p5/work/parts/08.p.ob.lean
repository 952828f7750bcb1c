/-! bits of what was told once; bytes of what is fed -/
def ob (x : Int32) : Nat → Bool := fun i => decide (i < 18) && bt x i
theorem b_1 : ∀ i, i < 32 → bt 1 i = decide (i = 0) := by decide +kernel
theorem nI_i {i : Int32} (h0 : 0 ≤ i.toInt) (h1 : i.toInt < 2147483648) : i = nI i.toInt.toNat := by
  obtain ⟨k, hk, ek⟩ := nI_of (x := i) (xn0 h0)
  have h6 := nI_toInt hk
  rw [ek, h6]
  rfl
theorem and1_bt (y : Int32) : ((y &&& 1).toInt = 1 ∧ bt y 0 = true) ∨ ((y &&& 1).toInt = 0 ∧ bt y 0 = false) := by
  have hx : ∀ c : Bool, bt y 0 = c → y &&& 1 = if c then 1 else 0 := fun c hc => b_ext (fun i hi => by
    rw [b_and, b_1 i hi]
    by_cases e : i = 0
    · subst e
      rw [hc]
      cases c <;> decide
    · rw [decide_eq_false e, Bool.and_false]
      cases c
      · exact (b_0 i).symm
      · show false = bt 1 i
        rw [b_1 i hi, decide_eq_false e])
  cases hb : bt y 0
  · rw [hx false hb]
    exact Or.inr ⟨by decide, rfl⟩
  · rw [hx true hb]
    exact Or.inl ⟨by decide, rfl⟩
theorem ob_bit {x k z z2 : Int32} (h0 : 0 ≤ k.toInt) (h1 : k.toInt < 18) (hz : z = x >>> (k &&& 31)) (hz2 : z2 = z &&& 1) : (z2.toInt = 1 ∧ ob x k.toInt.toNat = true) ∨ (z2.toInt = 0 ∧ ob x k.toInt.toNat = false) := by
  have hk := nI_i h0 (by omega)
  have e : bt z 0 = bt x k.toInt.toNat := by
    rw [hz, hk, b_sshr k.toInt.toNat (by omega) x (by omega), if_pos (by omega), ← hk]
    rfl
  have eo : ob x k.toInt.toNat = bt x k.toInt.toNat := by
    unfold ob
    rw [decide_eq_true (by omega), Bool.true_and]
  rw [hz2, eo, ← e]
  exact and1_bt z
theorem ob_t {x k z z2 : Int32} (h0 : 0 ≤ k.toInt) (h1 : k.toInt < 18) (hz : z = x >>> (k &&& 31)) (hz2 : z2 = z &&& 1) (h : z2.toInt = 1) : ob x k.toInt.toNat = true := by
  rcases ob_bit h0 h1 hz hz2 with g | g
  · exact g.2
  · omega
theorem ob_f {x k z z2 : Int32} (h0 : 0 ≤ k.toInt) (h1 : k.toInt < 18) (hz : z = x >>> (k &&& 31)) (hz2 : z2 = z &&& 1) (h : ¬ z2.toInt = 1) : ob x k.toInt.toNat = false := by
  rcases ob_bit h0 h1 hz hz2 with g | g
  · omega
  · exact g.2
theorem ob_set {x k z z2 : Int32} {q : Nat} (hq : k.toInt = (q : Int)) (h1 : q < 18) (hz : z = 1 <<< (k &&& 31)) (hz2 : z2 = x ||| z) : ob z2 = setB (ob x) q := by
  have hk := nI_i (i := k) (by omega) (by omega)
  funext i
  unfold ob setB
  rw [hz2, b_or, hz, hk, show k.toInt.toNat = q by omega]
  by_cases c : i < 18
  · rw [decide_eq_true c, Bool.true_and, b_shl q (by omega) 1 (by omega), b_1 (i - q) (by omega)]
    by_cases e : i = q
    · rw [if_pos e, decide_eq_true (by omega), decide_eq_true (by omega)]
      simp
    · rw [if_neg e]
      show _ = (decide (i < 18) && bt x i)
      rw [decide_eq_true c, Bool.true_and]
      by_cases e2 : q ≤ i
      · rw [decide_eq_false (show ¬ i - q = 0 by omega), Bool.and_false, Bool.or_false]
      · rw [decide_eq_false e2, Bool.false_and, Bool.or_false]
  · rw [decide_eq_false c, Bool.false_and, if_neg (by omega)]
    show false = (decide (i < 18) && bt x i)
    rw [decide_eq_false c, Bool.false_and]
theorem ob_0 {x : Int32} (h : x.toInt = 0) : ob x = fun _ => false := by
  have e : x = 0 := Int32.toInt_inj.mp (by rw [h]; decide)
  funext i
  unfold ob
  rw [e, b_0, Bool.and_false]
theorem gi_upd {f : Nat → Int32} {k : Nat} {v : Int32} : gi (upd f k v) = setI (gi f) k v.toInt := by
  funext j
  unfold gi upd setI
  split <;> rfl
theorem updL_W {f : Nat → Int64} {k : Nat} {v : Int64} : vp_updL f k v = setW f k v := rfl
theorem ne_all38 {f : Nat → Int32} {v : Int} {i i' x : Int32} (h : ∀ j : Nat, (j : Int) < i.toInt → ¬ (f (38 + j)).toInt = v) (h0 : 0 ≤ i.toInt) (h1 : i'.toInt = i.toInt + 1) (hx : x.toInt = 38 + i.toInt) (hc : ¬ (f x.toNatClampNeg).toInt = v) : ∀ j : Nat, (j : Int) < i'.toInt → ¬ (f (38 + j)).toInt = v := fun j hj => by
  by_cases e : j = i.toInt.toNat
  · rw [show 38 + j = x.toNatClampNeg from (show 38 + j = x.toInt.toNat by omega)]
    exact hc
  · exact h j (by omega)
/-- the reference's h behind a 'soul' LINE, without and with 'called' -/
theorem upd_ne {f : Nat → Int32} {k j : Nat} {v : Int32} (h : ¬ j = k) : upd f k v j = f j := if_neg h
theorem gi_soul4 {h h1 h2 h3 : Nat → Int32} {a b v x : Int32} {u : Int} (hq : 0 ≤ (h 1).toInt ∧ (h 1).toInt ≤ 9) (ha : a.toInt = 29 + (h 1).toInt) (hb : b.toInt = 38 + (h 1).toInt) (e1 : h1 = upd h a.toNatClampNeg v) (e2 : h2 = upd h1 b.toNatClampNeg (0 : Int32)) (e3 : h3 = upd h2 (1 : Int32).toNatClampNeg x) (hv : v.toInt = u) (hx : x.toInt = (h2 1).toInt + 1) : gi h3 = setI (setI (setI (gi h) (29 + (gi h 1).toNat) u) (38 + (gi h 1).toNat) 0) 1 (gi h 1 + 1) := by
  have i1 : a.toNatClampNeg = 29 + (h 1).toInt.toNat := show a.toInt.toNat = _ by omega
  have i2 : b.toNatClampNeg = 38 + (h 1).toInt.toNat := show b.toInt.toNat = _ by omega
  have i3 : (1 : Int32).toNatClampNeg = 1 := by decide
  have e4 : (h2 1).toInt = (h 1).toInt := by rw [e2, e1, i1, i2, upd_ne (by omega), upd_ne (by omega)]
  rw [e3, gi_upd, e2, gi_upd, e1, gi_upd, i1, i2, i3, hv, hx, e4]
  rfl
theorem gi_soul1 {h h1 h2 h3 h4 : Nat → Int32} {a b v y x : Int32} {u i : Int} (hq : 0 ≤ (h 1).toInt ∧ (h 1).toInt ≤ 9) (ha : a.toInt = 29 + (h 1).toInt) (hb : b.toInt = 38 + (h 1).toInt) (e1 : h1 = upd h a.toNatClampNeg v) (e2 : h2 = upd h1 b.toNatClampNeg (0 : Int32)) (e3 : h3 = upd h2 b.toNatClampNeg y) (e4 : h4 = upd h3 (1 : Int32).toNatClampNeg x) (hv : v.toInt = u) (hy : y.toInt = i + 1) (hx : x.toInt = (h3 1).toInt + 1) : gi h4 = setI (setI (setI (setI (gi h) (29 + (gi h 1).toNat) u) (38 + (gi h 1).toNat) 0) (38 + (gi h 1).toNat) (i + 1)) 1 (((gi h 1).toNat : Int) + 1) := by
  have i1 : a.toNatClampNeg = 29 + (h 1).toInt.toNat := show a.toInt.toNat = _ by omega
  have i2 : b.toNatClampNeg = 38 + (h 1).toInt.toNat := show b.toInt.toNat = _ by omega
  have i3 : (1 : Int32).toNatClampNeg = 1 := by decide
  have e5 : (h3 1).toInt = (h 1).toInt := by rw [e3, e2, e1, i1, i2, upd_ne (by omega), upd_ne (by omega), upd_ne (by omega)]
  rw [e4, gi_upd, e3, gi_upd, e2, gi_upd, e1, gi_upd, i1, i2, i3, hv, hy, hx, e5]
  show setI (setI (setI (setI (gi h) (29 + (h 1).toInt.toNat) u) (38 + (h 1).toInt.toNat) 0) (38 + (h 1).toInt.toNat) (i + 1)) 1 ((h 1).toInt + 1) = setI (setI (setI (setI (gi h) (29 + (h 1).toInt.toNat) u) (38 + (h 1).toInt.toNat) 0) (38 + (h 1).toInt.toNat) (i + 1)) 1 (((h 1).toInt.toNat : Int) + 1)
  rw [show (((h 1).toInt.toNat : Nat) : Int) = (h 1).toInt by omega]
/-- what the second half of a 'soul' LINE looks at -/
theorem soul_38 {h h1 h2 : Nat → Int32} {a b v : Int32} (hq : 0 ≤ (h 1).toInt ∧ (h 1).toInt ≤ 9) (ha : a.toInt = 29 + (h 1).toInt) (hb : b.toInt = 38 + (h 1).toInt) (e1 : h1 = upd h a.toNatClampNeg v) (e2 : h2 = upd h1 b.toNatClampNeg (0 : Int32)) {u : Int} (hv : v.toInt = u) : gi h2 = setI (setI (gi h) (29 + (gi h 1).toNat) u) (38 + (gi h 1).toNat) 0 := by
  have i1 : a.toNatClampNeg = 29 + (h 1).toInt.toNat := show a.toInt.toNat = _ by omega
  have i2 : b.toNatClampNeg = 38 + (h 1).toInt.toNat := show b.toInt.toNat = _ by omega
  rw [e2, gi_upd, e1, gi_upd, i1, i2, hv]
  rfl
