/-! the whole text of a TOWN -/
theorem TL_end {f : Nat → Int32} {n m : Nat} {ow : Int64 → Bool} {H : Nat → Int} {N : Nat → Int64} {O : Nat → Bool} {t : Nat} {L : Int} {k : Nat} (h : sK f n m t = 0) : TL f n m ow H N O t L (k + 1) = (L, 0, H, N) := if_pos h
theorem TL_bad {f : Nat → Int32} {n m : Nat} {ow : Int64 → Bool} {H : Nat → Int} {N : Nat → Int64} {O : Nat → Bool} {t : Nat} {L e p : Int} {k : Nat} (h : ¬ sK f n m t = 0) (hl : LN f n m ow H N O t = .inl (e, p)) : TL f n m ow H N O t L (k + 1) = (-1 - p, e, H, N) := by
  show (if sK f n m t = 0 then (L, 0, H, N) else match LN f n m ow H N O t with
    | .inl (e, p) => (-1 - p, e, H, N)
    | .inr (t', H', N', O') => if sK f n m t' = 3 ∧ sG f n m t' = 59 then TL f n m ow H' N' O' (sX f n m t') (L + 1) k else (-1 - (sPn f n m t' : Int), 1, H', N')) = _
  rw [if_neg h, hl]
theorem TL_sign {f : Nat → Int32} {n m : Nat} {ow : Int64 → Bool} {H H' : Nat → Int} {N N' : Nat → Int64} {O O' : Nat → Bool} {t t' : Nat} {L : Int} {k : Nat} (h : ¬ sK f n m t = 0) (hl : LN f n m ow H N O t = .inr (t', H', N', O')) (hs : ¬ (sK f n m t' = 3 ∧ sG f n m t' = 59)) : TL f n m ow H N O t L (k + 1) = (-1 - (sPn f n m t' : Int), 1, H', N') := by
  show (if sK f n m t = 0 then (L, 0, H, N) else match LN f n m ow H N O t with
    | .inl (e, p) => (-1 - p, e, H, N)
    | .inr (t', H', N', O') => if sK f n m t' = 3 ∧ sG f n m t' = 59 then TL f n m ow H' N' O' (sX f n m t') (L + 1) k else (-1 - (sPn f n m t' : Int), 1, H', N')) = _
  rw [if_neg h, hl]
  exact if_neg hs
theorem TL_next {f : Nat → Int32} {n m : Nat} {ow : Int64 → Bool} {H H' : Nat → Int} {N N' : Nat → Int64} {O O' : Nat → Bool} {t t' : Nat} {L : Int} {k : Nat} (h : ¬ sK f n m t = 0) (hl : LN f n m ow H N O t = .inr (t', H', N', O')) (hs : sK f n m t' = 3 ∧ sG f n m t' = 59) : TL f n m ow H N O t L (k + 1) = TL f n m ow H' N' O' (sX f n m t') (L + 1) k := by
  show (if sK f n m t = 0 then (L, 0, H, N) else match LN f n m ow H N O t with
    | .inl (e, p) => (-1 - p, e, H, N)
    | .inr (t', H', N', O') => if sK f n m t' = 3 ∧ sG f n m t' = 59 then TL f n m ow H' N' O' (sX f n m t') (L + 1) k else (-1 - (sPn f n m t' : Int), 1, H', N')) = _
  rw [if_neg h, hl]
  exact if_pos hs
abbrev TL0 (f : Nat → Int32) (n : Nat) (ow : Int64 → Bool) (H0 : Nat → Int) (N0 : Nat → Int64) : Int × Int × (Nat → Int) × (Nat → Int64) := TL f n 900 ow H0 N0 (fun _ => false) 0 0 1000
def HZ (H0 : Nat → Int) : Prop := ∀ j : Nat, j < 146 → H0 j = 0
/-- where the class is in it -/
def TI (f : Nat → Int32) (ow : Int64 → Bool) (len mst k pl e : Int32) (w : Int64) (nu sg : Int32) (names souls : Int32) (nw sw : Nat → Int64) (fd ev fn wi ol wr : Nat → Int32) (lc : Int32) : Prop :=
  ∀ (n : Nat) (H0 : Nat → Int) (N0 : Nat → Int64), len.toInt = (n : Int) → n ≤ 940 → HZ H0 → ∃ (t : Nat) (H : Nat → Int) (N : Nat → Int64) (O : Nat → Bool) (fu : Nat), CC (trn f n) n 900 t len mst k pl e w nu sg ∧ RC ow names souls nw sw fd ev fn wi ol wr H N O ∧ (fu : Int) + lc.toInt = 1000 ∧ 2 * lc.toInt ≤ (t : Int) ∧ 0 ≤ lc.toInt ∧ TL0 (trn f n) n ow H0 N0 = TL (trn f n) n 900 ow H N O t lc.toInt fu
theorem TI_0 {f : Nat → Int32} {ow : Int64 → Bool} {len mst k pl e nu sg names souls lc x : Int32} {w : Int64} {nw sw : Nat → Int64} {fd ev fn wi ol wr : Nat → Int32} (h : ∀ n m : Nat, len.toInt = (n : Int) → 900 = (m : Int) → mst.toInt = 900 ∧ x.toInt = 0 ∧ CC (trn f n) n m 0 len mst k pl e w nu sg) (h0 : names.toInt = 0) (h1 : souls.toInt = 0) (hl : lc.toInt = 0) : TI f ow len mst k pl e w nu sg names souls nw sw fd ev fn wi ol wr lc := by
  intro n H0 N0 hn _ hz
  refine ⟨0, H0, N0, fun _ => false, 1000, (h n 900 hn rfl).2.2, RC_0 hz h0 h1, by omega, by omega, by omega, ?_⟩
  rw [hl]
/-- one LINE more -/
theorem TI_s {f : Nat → Int32} {ow : Int64 → Bool} {len mst k pl e nu sg names souls lc r r2 fk fp fk2 fp2 k1 pl1 e1 nu1 sg1 names' souls' k2 pl2 e2 nu2 sg2 lc' : Int32} {w w1 w2 : Int64} {nw sw nw' sw' : Nat → Int64} {fd ev fn wi ol wr fd' ev' fn' wi' ol' wr' : Nat → Int32}
    (h : TI f ow len mst k pl e w nu sg names souls nw sw fd ev fn wi ol wr lc) (hk : ¬ k.toInt = 0)
    (hL : ∀ n m t : Nat, CC (trn f n) n m t len mst k pl e w nu sg → ∀ (H : Nat → Int) (N : Nat → Int64) (O : Nat → Bool), RC ow names souls nw sw fd ev fn wi ol wr H N O → LO (LN (trn f n) n m ow H N O t) r fk fp (fun t' H' N' O' => CC (trn f n) n m t' len mst k1 pl1 e1 w1 nu1 sg1 ∧ RC ow names' souls' nw' sw' fd' ev' fn' wi' ol' wr' H' N' O')) (hr : r.toInt = 1)
    (hS : ∀ n m t : Nat, CC (trn f n) n m t len mst k1 pl1 e1 w1 nu1 sg1 → (r2.toInt = 1 ∧ sK (trn f n) n m t = 3 ∧ sG (trn f n) n m t = 59 ∧ CC (trn f n) n m (sX (trn f n) n m t) len mst k2 pl2 e2 w2 nu2 sg2) ∨ (r2.toInt = 0 ∧ ¬ (sK (trn f n) n m t = 3 ∧ sG (trn f n) n m t = 59) ∧ fk2.toInt = 1 ∧ fp2.toInt = (sPn (trn f n) n m t : Int))) (hr2 : r2.toInt = 1) (hlc : lc'.toInt = lc.toInt + 1) :
    TI f ow len mst k2 pl2 e2 w2 nu2 sg2 names' souls' nw' sw' fd' ev' fn' wi' ol' wr' lc' := by
  intro n H0 N0 hn h940 hz
  obtain ⟨t, H, N, O, fu, hc, hR, hf, ht, h0, hT⟩ := h n H0 N0 hn h940 hz
  have hl := hL n 900 t hc H N O hR
  have hck := hc.2.2.2.1
  have hct := hc.2.2.1
  cases hx : LN (trn f n) n 900 ow H N O t with
  | inl y =>
    rw [hx] at hl
    have := hl.1
    omega
  | inr y =>
    obtain ⟨t', H', N', O'⟩ := y
    rw [hx] at hl
    obtain ⟨_, hc', hR'⟩ := hl
    have hct' := hc'.2.2.1
    have hp := LN_pos hct hx
    rcases hS n 900 t' hc' with ⟨_, s1, s2, s3⟩ | ⟨s0, _⟩
    · have hg := sX_gt (f := trn f n) (n := n) (m := 900) (t := t') hct' (Or.inr (Or.inr s1))
      have h5 := s3.2.2.1
      refine ⟨_, H', N', O', fu - 1, s3, hR', by omega, by omega, by omega, ?_⟩
      rw [hT, show fu = (fu - 1) + 1 by omega, TL_next (by omega) hx ⟨s1, s2⟩, hlc]
      rfl
    · omega
theorem TI_room {f : Nat → Int32} {ow : Int64 → Bool} {len mst k pl e nu sg names souls lc : Int32} {w : Int64} {nw sw : Nat → Int64} {fd ev fn wi ol wr : Nat → Int32} (h : TI f ow len mst k pl e w nu sg names souls nw sw fd ev fn wi ol wr lc) (h0 : 0 ≤ len.toInt) (h1 : len.toInt ≤ 940) : lc.toInt < 900 := by
  obtain ⟨t, H, N, O, fu, hc, hR, hf, ht, h0, hT⟩ := h len.toInt.toNat (fun _ => 0) (fun _ => 0) (by omega) (by omega) (fun _ _ => rfl)
  have hct := hc.2.2.1
  omega
theorem TI_e {f : Nat → Int32} {ow : Int64 → Bool} {len mst k pl e nu sg names souls lc : Int32} {w : Int64} {nw sw : Nat → Int64} {fd ev fn wi ol wr : Nat → Int32} (h : TI f ow len mst k pl e w nu sg names souls nw sw fd ev fn wi ol wr lc) (hk : k.toInt = 0) (n : Nat) (H0 : Nat → Int) (N0 : Nat → Int64) (hn : len.toInt = (n : Int)) (h9 : n ≤ 940) (hz : HZ H0) : ∃ (H : Nat → Int) (N : Nat → Int64) (O : Nat → Bool), RC ow names souls nw sw fd ev fn wi ol wr H N O ∧ TL0 (trn f n) n ow H0 N0 = (lc.toInt, 0, H, N) := by
  obtain ⟨t, H, N, O, fu, hc, hR, hf, ht, h0, hT⟩ := h n H0 N0 hn h9 hz
  have hck := hc.2.2.2.1
  have hct := hc.2.2.1
  refine ⟨H, N, O, hR, ?_⟩
  rw [hT, show fu = (fu - 1) + 1 by omega, TL_end (by omega)]
theorem TI_b {f : Nat → Int32} {ow : Int64 → Bool} {len mst k pl e nu sg names souls lc r fk fp : Int32} {w : Int64} {nw sw : Nat → Int64} {fd ev fn wi ol wr : Nat → Int32} {good : Nat → Nat → Nat → (Nat → Int) → (Nat → Int64) → (Nat → Bool) → Prop}
    (h : TI f ow len mst k pl e w nu sg names souls nw sw fd ev fn wi ol wr lc) (hk : ¬ k.toInt = 0)
    (hL : ∀ n m t : Nat, CC (trn f n) n m t len mst k pl e w nu sg → ∀ (H : Nat → Int) (N : Nat → Int64) (O : Nat → Bool), RC ow names souls nw sw fd ev fn wi ol wr H N O → LO (LN (trn f n) n m ow H N O t) r fk fp (good n m)) (hr : r.toInt = 0) (n : Nat) (H0 : Nat → Int) (N0 : Nat → Int64) (hn : len.toInt = (n : Int)) (h9 : n ≤ 940) (hz : HZ H0) : (TL0 (trn f n) n ow H0 N0).1 = -1 - fp.toInt ∧ (TL0 (trn f n) n ow H0 N0).2.1 = fk.toInt := by
  obtain ⟨t, H, N, O, fu, hc, hR, hf, ht, h0, hT⟩ := h n H0 N0 hn h9 hz
  have hl := hL n 900 t hc H N O hR
  have hck := hc.2.2.2.1
  have hct := hc.2.2.1
  cases hx : LN (trn f n) n 900 ow H N O t with
  | inl y =>
    obtain ⟨e9, p9⟩ := y
    rw [hx] at hl
    obtain ⟨_, l1, l2⟩ := hl
    rw [hT, show fu = (fu - 1) + 1 by omega, TL_bad (by omega) hx]
    exact ⟨by show -1 - p9 = _; omega, l1.symm⟩
  | inr y =>
    obtain ⟨t', H', N', O'⟩ := y
    rw [hx] at hl
    have := hl.1
    omega
theorem TI_g {f : Nat → Int32} {ow : Int64 → Bool} {len mst k pl e nu sg names souls lc r r2 fk fp fk2 fp2 k1 pl1 e1 nu1 sg1 names' souls' k2 pl2 e2 nu2 sg2 : Int32} {w w1 w2 : Int64} {nw sw nw' sw' : Nat → Int64} {fd ev fn wi ol wr fd' ev' fn' wi' ol' wr' : Nat → Int32}
    (h : TI f ow len mst k pl e w nu sg names souls nw sw fd ev fn wi ol wr lc) (hk : ¬ k.toInt = 0)
    (hL : ∀ n m t : Nat, CC (trn f n) n m t len mst k pl e w nu sg → ∀ (H : Nat → Int) (N : Nat → Int64) (O : Nat → Bool), RC ow names souls nw sw fd ev fn wi ol wr H N O → LO (LN (trn f n) n m ow H N O t) r fk fp (fun t' H' N' O' => CC (trn f n) n m t' len mst k1 pl1 e1 w1 nu1 sg1 ∧ RC ow names' souls' nw' sw' fd' ev' fn' wi' ol' wr' H' N' O')) (hr : r.toInt = 1)
    (hS : ∀ n m t : Nat, CC (trn f n) n m t len mst k1 pl1 e1 w1 nu1 sg1 → (r2.toInt = 1 ∧ sK (trn f n) n m t = 3 ∧ sG (trn f n) n m t = 59 ∧ CC (trn f n) n m (sX (trn f n) n m t) len mst k2 pl2 e2 w2 nu2 sg2) ∨ (r2.toInt = 0 ∧ ¬ (sK (trn f n) n m t = 3 ∧ sG (trn f n) n m t = 59) ∧ fk2.toInt = 1 ∧ fp2.toInt = (sPn (trn f n) n m t : Int))) (hr2 : r2.toInt = 0) (n : Nat) (H0 : Nat → Int) (N0 : Nat → Int64) (hn : len.toInt = (n : Int)) (h9 : n ≤ 940) (hz : HZ H0) : (TL0 (trn f n) n ow H0 N0).1 = -1 - fp2.toInt ∧ (TL0 (trn f n) n ow H0 N0).2.1 = fk2.toInt := by
  obtain ⟨t, H, N, O, fu, hc, hR, hf, ht, h0, hT⟩ := h n H0 N0 hn h9 hz
  have hl := hL n 900 t hc H N O hR
  have hck := hc.2.2.2.1
  have hct := hc.2.2.1
  cases hx : LN (trn f n) n 900 ow H N O t with
  | inl y =>
    rw [hx] at hl
    have := hl.1
    omega
  | inr y =>
    obtain ⟨t', H', N', O'⟩ := y
    rw [hx] at hl
    obtain ⟨_, hc', hR'⟩ := hl
    rcases hS n 900 t' hc' with ⟨s0, _⟩ | ⟨_, s1, s2, s3⟩
    · omega
    · rw [hT, show fu = (fu - 1) + 1 by omega, TL_sign (by omega) hx s1]
      exact ⟨by show -1 - (sPn (trn f n) n 900 t' : Int) = _; omega, s2.symm⟩
