/-! the reference's reading of a TOWN -/
theorem or1 {r : Int32} {A B : Prop} (h : (r.toInt = 1 ∧ A) ∨ (r.toInt = 0 ∧ B)) (t : r.toInt = 1) : A := by
  rcases h with h | h
  · exact h.2
  · exact absurd (t.symm.trans h.1) (by decide)
theorem or0 {r : Int32} {A B : Prop} (h : (r.toInt = 1 ∧ A) ∨ (r.toInt = 0 ∧ B)) (t : r.toInt = 0) : B := by
  rcases h with h | h
  · exact absurd (t.symm.trans h.1) (by decide)
  · exact h.2
theorem dj1 {r : Int32} {A B : Prop} (h : DJ (r.toInt = 1 ∧ A) (r.toInt = 0 ∧ B)) (t : r.toInt = 1) : A := or1 h t
theorem dj0 {r : Int32} {A B : Prop} (h : DJ (r.toInt = 1 ∧ A) (r.toInt = 0 ∧ B)) (t : r.toInt = 0) : B := or0 h t
theorem gi_updk {h h' : Nat → Int32} {x v : Int32} {k : Nat} {u : Int} (e : h' = upd h x.toNatClampNeg v) (hx : x.toInt = (k : Int)) (hv : v.toInt = u) : gi h' = setI (gi h) k u := by
  rw [e, gi_upd, show x.toNatClampNeg = k from (show x.toInt.toNat = k by omega), hv]
theorem gi_name {h h1 h2 : Nat → Int32} {a v x : Int32} {u : Int} (hq : 0 ≤ (h 0).toInt ∧ (h 0).toInt ≤ 9) (ha : a.toInt = 2 + (h 0).toInt) (e1 : h1 = upd h a.toNatClampNeg v) (e2 : h2 = upd h1 (0 : Int32).toNatClampNeg x) (hv : v.toInt = u) (hx : x.toInt = (h1 0).toInt + 1) : gi h2 = setI (setI (gi h) (2 + (gi h 0).toNat) u) 0 (gi h 0 + 1) := by
  have i1 : a.toNatClampNeg = 2 + (h 0).toInt.toNat := show a.toInt.toNat = _ by omega
  have i3 : (0 : Int32).toNatClampNeg = 0 := by decide
  have e4 : (h1 0).toInt = (h 0).toInt := by rw [e1, i1, upd_ne (by omega)]
  rw [e2, gi_upd, e1, gi_upd, i1, i3, hv, hx, e4]
/-- where the reference is in a TOWN's text -/
def TM (f : Nat → Int32) (ow : Int64 → Bool) (H0 : Nat → Int) (N0 : Nat → Int64) (sz lim k pl e : Int32) (w : Int64) (nu : Int32) (h : Nat → Int32) (nm : Nat → Int64) (on ln : Int32) : Prop :=
  ∀ n : Nat, sz.toInt = (n : Int) → n ≤ 940 → ∃ t fu : Nat, CC (trn f n) n 900 t sz lim k pl e w nu nu ∧ (fu : Int) + ln.toInt = 1000 ∧ 2 * ln.toInt ≤ (t : Int) ∧ 0 ≤ ln.toInt ∧ TL0 (trn f n) n ow H0 N0 = TL (trn f n) n 900 ow (gi h) nm (ob on) t ln.toInt fu
theorem TM_0 {f : Nat → Int32} {ow : Int64 → Bool} {nm : Nat → Int64} {sz lim p k pl e nu on ln : Int32} {w : Int64} {h : Nat → Int32} (g : ∀ n m : Nat, sz.toInt = (n : Int) → lim.toInt = (m : Int) → p.toInt ≤ sz.toInt → CC (trn f n) n m p.toInt.toNat sz lim k pl e w nu nu) (hl : lim.toInt = 900) (hp : p.toInt = 0) (hs : 0 ≤ sz.toInt) (ho : on.toInt = 0) (hn : ln.toInt = 0) : TM f ow (gi h) nm sz lim k pl e w nu h nm on ln := by
  intro n h1 _
  have h2 := g n 900 h1 hl (by omega)
  rw [show p.toInt.toNat = 0 by omega] at h2
  refine ⟨0, 1000, h2, by omega, by omega, by omega, ?_⟩
  rw [ob_0 ho, hn]
theorem TM_s {f : Nat → Int32} {ow : Int64 → Bool} {H0 : Nat → Int} {N0 : Nat → Int64} {sz lim k pl e nu on ln r r2 fk fp fk2 fp2 k1 pl1 e1 nu1 on1 k2 pl2 e2 nu2 ln2 : Int32} {w w1 w2 : Int64} {h h1 : Nat → Int32} {nm nm1 : Nat → Int64}
    (hT : TM f ow H0 N0 sz lim k pl e w nu h nm on ln) (hk : ¬ k.toInt = 0)
    (hL : ∀ n m t : Nat, CC (trn f n) n m t sz lim k pl e w nu nu → LO (LN (trn f n) n m ow (gi h) nm (ob on) t) r fk fp (fun t' H' N' O' => CC (trn f n) n m t' sz lim k1 pl1 e1 w1 nu1 nu1 ∧ gi h1 = H' ∧ nm1 = N' ∧ ob on1 = O')) (hr : r.toInt = 1)
    (hS : ∀ n m t : Nat, CC (trn f n) n m t sz lim k1 pl1 e1 w1 nu1 nu1 → (r2.toInt = 1 ∧ sK (trn f n) n m t = 3 ∧ sG (trn f n) n m t = 59 ∧ CC (trn f n) n m (sX (trn f n) n m t) sz lim k2 pl2 e2 w2 nu2 nu2) ∨ (r2.toInt = 0 ∧ ¬ (sK (trn f n) n m t = 3 ∧ sG (trn f n) n m t = 59) ∧ fk2.toInt = 1 ∧ fp2.toInt = (sPn (trn f n) n m t : Int))) (hr2 : r2.toInt = 1) (hln : ln2.toInt = ln.toInt + 1) :
    TM f ow H0 N0 sz lim k2 pl2 e2 w2 nu2 h1 nm1 on1 ln2 := by
  intro n hn h940
  obtain ⟨t, fu, hc, hf, ht, h0, hE⟩ := hT n hn h940
  have hl := hL n 900 t hc
  have hck := hc.2.2.2.1
  have hct := hc.2.2.1
  cases hx : LN (trn f n) n 900 ow (gi h) nm (ob on) t with
  | inl y =>
    rw [hx] at hl
    have := hl.1
    omega
  | inr y =>
    obtain ⟨t', H', N', O'⟩ := y
    rw [hx] at hl
    obtain ⟨_, hc', g1, g2, g3⟩ := hl
    subst g1 g2 g3
    have hct' := hc'.2.2.1
    have hp := LN_pos hct hx
    rcases hS n 900 t' hc' with ⟨_, s1, s2, s3⟩ | ⟨s0, _⟩
    · have hg := sX_gt (f := trn f n) (n := n) (m := 900) (t := t') hct' (Or.inr (Or.inr s1))
      have h5 := s3.2.2.1
      refine ⟨_, fu - 1, s3, by omega, by omega, by omega, ?_⟩
      rw [hE, show fu = (fu - 1) + 1 by omega, TL_next (by omega) hx ⟨s1, s2⟩, hln]
      rfl
    · omega
theorem TM_e {f : Nat → Int32} {ow : Int64 → Bool} {H0 : Nat → Int} {N0 : Nat → Int64} {sz lim k pl e nu on ln : Int32} {w : Int64} {h : Nat → Int32} {nm : Nat → Int64} (hT : TM f ow H0 N0 sz lim k pl e w nu h nm on ln) (hk : k.toInt = 0) (n : Nat) (hn : sz.toInt = (n : Int)) (h9 : n ≤ 940) : TL0 (trn f n) n ow H0 N0 = (ln.toInt, 0, gi h, nm) ∧ 0 ≤ ln.toInt := by
  obtain ⟨t, fu, hc, hf, ht, h0, hE⟩ := hT n hn h9
  have hck := hc.2.2.2.1
  have hct := hc.2.2.1
  refine ⟨?_, h0⟩
  rw [hE, show fu = (fu - 1) + 1 by omega, TL_end (by omega)]
theorem TM_b {f : Nat → Int32} {ow : Int64 → Bool} {H0 : Nat → Int} {N0 : Nat → Int64} {sz lim k pl e nu on ln r fk fp : Int32} {w : Int64} {h : Nat → Int32} {nm : Nat → Int64} {good : Nat → Nat → Nat → (Nat → Int) → (Nat → Int64) → (Nat → Bool) → Prop} (hT : TM f ow H0 N0 sz lim k pl e w nu h nm on ln) (hk : ¬ k.toInt = 0)
    (hL : ∀ n m t : Nat, CC (trn f n) n m t sz lim k pl e w nu nu → LO (LN (trn f n) n m ow (gi h) nm (ob on) t) r fk fp (good n m)) (hr : r.toInt = 0) (n : Nat) (hn : sz.toInt = (n : Int)) (h9 : n ≤ 940) : (TL0 (trn f n) n ow H0 N0).1 = -1 - fp.toInt ∧ (TL0 (trn f n) n ow H0 N0).2.1 = fk.toInt := by
  obtain ⟨t, fu, hc, hf, ht, h0, hE⟩ := hT n hn h9
  have hl := hL n 900 t hc
  have hck := hc.2.2.2.1
  have hct := hc.2.2.1
  cases hx : LN (trn f n) n 900 ow (gi h) nm (ob on) t with
  | inl y =>
    obtain ⟨e9, p9⟩ := y
    rw [hx] at hl
    obtain ⟨_, l1, l2⟩ := hl
    rw [hE, show fu = (fu - 1) + 1 by omega, TL_bad (by omega) hx]
    exact ⟨by show -1 - p9 = _; omega, l1.symm⟩
  | inr y =>
    obtain ⟨t', H', N', O'⟩ := y
    rw [hx] at hl
    have := hl.1
    omega
theorem TM_g {f : Nat → Int32} {ow : Int64 → Bool} {H0 : Nat → Int} {N0 : Nat → Int64} {sz lim k pl e nu on ln r r2 fk fp fk2 fp2 k1 pl1 e1 nu1 on1 k2 pl2 e2 nu2 : Int32} {w w1 w2 : Int64} {h h1 : Nat → Int32} {nm nm1 : Nat → Int64}
    (hT : TM f ow H0 N0 sz lim k pl e w nu h nm on ln) (hk : ¬ k.toInt = 0)
    (hL : ∀ n m t : Nat, CC (trn f n) n m t sz lim k pl e w nu nu → LO (LN (trn f n) n m ow (gi h) nm (ob on) t) r fk fp (fun t' H' N' O' => CC (trn f n) n m t' sz lim k1 pl1 e1 w1 nu1 nu1 ∧ gi h1 = H' ∧ nm1 = N' ∧ ob on1 = O')) (hr : r.toInt = 1)
    (hS : ∀ n m t : Nat, CC (trn f n) n m t sz lim k1 pl1 e1 w1 nu1 nu1 → (r2.toInt = 1 ∧ sK (trn f n) n m t = 3 ∧ sG (trn f n) n m t = 59 ∧ CC (trn f n) n m (sX (trn f n) n m t) sz lim k2 pl2 e2 w2 nu2 nu2) ∨ (r2.toInt = 0 ∧ ¬ (sK (trn f n) n m t = 3 ∧ sG (trn f n) n m t = 59) ∧ fk2.toInt = 1 ∧ fp2.toInt = (sPn (trn f n) n m t : Int))) (hr2 : r2.toInt = 0) (n : Nat) (hn : sz.toInt = (n : Int)) (h9 : n ≤ 940) : (TL0 (trn f n) n ow H0 N0).1 = -1 - fp2.toInt ∧ (TL0 (trn f n) n ow H0 N0).2.1 = fk2.toInt := by
  obtain ⟨t, fu, hc, hf, ht, h0, hE⟩ := hT n hn h9
  have hl := hL n 900 t hc
  have hck := hc.2.2.2.1
  have hct := hc.2.2.1
  cases hx : LN (trn f n) n 900 ow (gi h) nm (ob on) t with
  | inl y =>
    rw [hx] at hl
    have := hl.1
    omega
  | inr y =>
    obtain ⟨t', H', N', O'⟩ := y
    rw [hx] at hl
    obtain ⟨_, hc', g1, g2, g3⟩ := hl
    rcases hS n 900 t' hc' with ⟨s0, _⟩ | ⟨_, s1, s2, s3⟩
    · omega
    · rw [hE, show fu = (fu - 1) + 1 by omega, TL_sign (by omega) hx s1]
      exact ⟨by show -1 - (sPn (trn f n) n 900 t' : Int) = _; omega, s2.symm⟩
/-! the bytes that are fed -/
theorem i2b_eq {x y : Int32} (h : x &&& 255 = y &&& 255) : x.toInt8.toInt32 = y.toInt8.toInt32 := by
  have a := lg_i2b_range x
  have b := lg_i2b_range y
  have e : (x.toInt8.toInt32 &&& 255).toInt = (y.toInt8.toInt32 &&& 255).toInt := by rw [bp_b, bp_b, h]
  rw [b255 a.1 (by omega), b255 b.1 (by omega)] at e
  apply Int32.toInt_inj.mp
  split at e <;> split at e <;> omega
theorem sh_255 (v : Int32) {n : Nat} (hn : n ≤ 24) : (v.toUInt32 >>> ((nI n).toUInt32 &&& Int32.toUInt32 31)).toInt32 &&& 255 = (v >>> (nI n &&& 31)) &&& 255 := b_ext (fun i hi => by
  rw [b_and, b_and, b_255, b_ushr n (by omega), b_sshr n (by omega) v hi]
  by_cases c : i < 8
  · rw [if_pos (by omega)]
  · rw [decide_eq_false c, Bool.and_false, Bool.and_false])
def pfb (v : Int32) (k : Nat) : Int32 := vp_nar .byte (v >>> (nI (24 - 8 * k) &&& 31)).toInt8.toInt32
def pf (f : Nat → Int32) (L : Nat) (v : Int32) : Nat → Nat → Int32
  | 0 => f
  | k + 1 => upd (pf f L v k) (L + k) (pfb v k)
def pf5 (f : Nat → Int32) (L : Nat) (a b c d e : Int32) : Nat → Int32 := pf (pf (pf (pf (pf f L a 4) (L + 4) b 4) (L + 8) c 4) (L + 12) d 4) (L + 16) e 4
theorem pf_m {f f' : Nat → Int32} {L l l' s v z y : Int32} (h : f' = pf f L.toInt.toNat v (l.toInt - L.toInt).toNat) (h0 : 0 ≤ L.toInt ∧ L.toInt ≤ l.toInt) (hs : 8 * (l.toInt - L.toInt) = 24 - s.toInt) (hs0 : 0 ≤ s.toInt) (hy : y = z.toInt8.toInt32) (hz : z = v >>> (s &&& 31)) (hl : l'.toInt = l.toInt + 1) : upd f' l.toNatClampNeg (vp_nar .byte y) = pf f L.toInt.toNat v (l'.toInt - L.toInt).toNat := by
  have e1 : (l'.toInt - L.toInt).toNat = (l.toInt - L.toInt).toNat + 1 := by omega
  have e2 : l.toNatClampNeg = L.toInt.toNat + (l.toInt - L.toInt).toNat := show l.toInt.toNat = _ by omega
  have e3 : s = nI (24 - 8 * (l.toInt - L.toInt).toNat) := by
    have := nI_i (i := s) hs0 (by omega)
    rw [this]
    congr 1
    omega
  rw [e1, hy, hz, e3, e2, h]
  rfl
theorem pf_s {f f' : Nat → Int32} {L l l' s v z y : Int32} (h : f' = pf f L.toInt.toNat v (l.toInt - L.toInt).toNat) (h0 : 0 ≤ L.toInt ∧ L.toInt ≤ l.toInt) (hs : 8 * (l.toInt - L.toInt) = 24 - s.toInt) (hs0 : 0 ≤ s.toInt) (hy : y = z.toInt8.toInt32) (hz : z = (v.toUInt32 >>> (s.toUInt32 &&& Int32.toUInt32 31)).toInt32) (hl : l'.toInt = l.toInt + 1) : upd f' l.toNatClampNeg (vp_nar .byte y) = pf f L.toInt.toNat v (l'.toInt - L.toInt).toNat := by
  refine pf_m (z := v >>> (s &&& 31)) h h0 hs hs0 ?_ rfl hl
  rw [hy]
  refine i2b_eq ?_
  have hs9 := nI_i (i := s) hs0 (by omega)
  rw [hz, hs9]
  exact sh_255 v (by omega)
/-- the two tapes are alike as far as they go -/
def tpe (f g : Nat → Int32) (L : Int) : Prop := ∀ j : Nat, (j : Int) < L → f j = g j
theorem tpe_le {f g : Nat → Int32} {L L' : Int} (h : tpe f g L) (hl : L' ≤ L) : tpe f g L' := fun j hj => h j (by omega)
theorem tpe_pf {f g : Nat → Int32} {L : Nat} {v : Int32} : ∀ k : Nat, tpe f g (L : Int) → tpe (pf f L v k) (pf g L v k) ((L : Int) + (k : Int)) := by
  intro k
  induction k with
  | zero => intro h j hj; exact h j (by omega)
  | succ k ih =>
    intro h j hj
    show upd (pf f L v k) (L + k) (pfb v k) j = upd (pf g L v k) (L + k) (pfb v k) j
    by_cases e : j = L + k
    · rw [e, upd_eq, upd_eq]
    · rw [upd_ne e, upd_ne e]
      exact ih h j (by omega)
theorem tpe_pf4 {f g : Nat → Int32} {L M : Nat} {v : Int32} (h : tpe f g (L : Int)) (e : M = L + 4) : tpe (pf f L v 4) (pf g L v 4) (M : Int) := fun j hj => tpe_pf 4 h j (by omega)
theorem tpe_feed {f g f' g' : Nat → Int32} {l l2 l' l2' : Int32} {a b c d e : Int32} (h : tpe f g l.toInt) (hl : l.toInt = l2.toInt) (h0 : 0 ≤ l.toInt) (h1 : (l.toInt ≤ 920 ∧ f' = pf5 f l.toInt.toNat a b c d e ∧ l'.toInt = l.toInt + 20) ∨ (¬ l.toInt ≤ 920 ∧ f' = f ∧ l'.toInt = l.toInt)) (h2 : (l2.toInt ≤ 920 ∧ g' = pf5 g l2.toInt.toNat a b c d e ∧ l2'.toInt = l2.toInt + 20) ∨ (¬ l2.toInt ≤ 920 ∧ g' = g ∧ l2'.toInt = l2.toInt)) : tpe f' g' l'.toInt := by
  rcases h1 with ⟨a1, a2, a3⟩ | ⟨a1, a2, a3⟩ <;> rcases h2 with ⟨b1, b2, b3⟩ | ⟨b1, b2, b3⟩
  · rw [← hl] at b2
    have t0 : tpe f g (l.toInt.toNat : Int) := tpe_le h (by omega)
    have t1 := tpe_pf4 (v := a) t0 (M := l.toInt.toNat + 4) rfl
    have t2 := tpe_pf4 (v := b) t1 (M := l.toInt.toNat + 8) (by omega)
    have t3 := tpe_pf4 (v := c) t2 (M := l.toInt.toNat + 12) (by omega)
    have t4 := tpe_pf4 (v := d) t3 (M := l.toInt.toNat + 16) (by omega)
    have t5 := tpe_pf4 (v := e) t4 (M := l.toInt.toNat + 20) (by omega)
    rw [a2, b2]
    exact tpe_le t5 (by omega)
  · omega
  · omega
  · rw [a2, b2, a3]
    exact h
/-- both answer alike -/
theorem town_eq {f g : Nat → Int32} {q q' nm : Nat → Int64} {len len2 r r2 : Int32} (hl : len.toInt = len2.toInt) (h0 : 0 ≤ len.toInt ∧ len.toInt ≤ 940) (ht : tpe f g len.toInt) (ho : ∀ j : Nat, j < 27 → q j = q' j)
    (h1 : ∀ (n : Nat) (H0 : Nat → Int) (N0 : Nat → Int64), len.toInt = (n : Int) → n ≤ 940 → HZ H0 → r.toInt = (TL0 (trn f n) n (ownB q) H0 N0).1)
    (h2 : ∃ H0 : Nat → Int, HZ H0 ∧ ∀ n : Nat, len2.toInt = (n : Int) → n ≤ 940 → r2.toInt = (TL0 (trn g n) n (ownB q') H0 nm).1) : r.toInt = r2.toInt := by
  obtain ⟨H0, hz, h2⟩ := h2
  rw [h1 len.toInt.toNat H0 nm (by omega) (by omega) hz, h2 len.toInt.toNat (by omega) (by omega), ownB_cong ho, trn_eq (f := f) (f' := g) (n := len.toInt.toNat) (fun j hj => ht j (by omega))]
