/-- an 'or' that omega doesn't take apart -/
def DJ (a b : Prop) : Prop := a ∨ b
/-! small steps of the readers -/
theorem cmp_eq {z : Int32} {x y : Int64} (h : z = lg_cmp x y) (h0 : z.toInt = 0) : x = y := by
  by_cases c : x = y
  · exact c
  · exfalso
    by_cases c2 : y < x
    · rw [h, show lg_cmp x y = 1 by simp [lg_cmp, c2]] at h0
      exact absurd h0 (by decide)
    · rw [h, show lg_cmp x y = -1 by simp [lg_cmp, c, c2]] at h0
      exact absurd h0 (by decide)
theorem cmp_ne {z : Int32} {x y : Int64} (h : z = lg_cmp x y) (h0 : ¬ z.toInt = 0) : ¬ x = y := fun c => by
  subst c
  apply h0
  rw [h, show lg_cmp x x = 0 by simp [lg_cmp]]
  decide
theorem cmp_all {q : Nat → Int64} {w : Int64} {i i' z : Int32} (h : ∀ j : Nat, (j : Int) < i.toInt → ¬ q j = w) (h0 : 0 ≤ i.toInt) (h1 : i'.toInt = i.toInt + 1) (hz : z = lg_cmp (q i.toNatClampNeg) w) (hc : ¬ z.toInt = 0) : ∀ j : Nat, (j : Int) < i'.toInt → ¬ q j = w := fun j hj => by
  by_cases e : j = i.toNatClampNeg
  · rw [e]; exact cmp_ne hz hc
  · have e2 : ¬ j = i.toInt.toNat := e
    exact h j (by omega)
theorem ne_all {f : Nat → Int32} {v : Int} {i i' : Int32} (h : ∀ j : Nat, (j : Int) < i.toInt → ¬ (f j).toInt = v) (h0 : 0 ≤ i.toInt) (h1 : i'.toInt = i.toInt + 1) (hc : ¬ (f i.toNatClampNeg).toInt = v) : ∀ j : Nat, (j : Int) < i'.toInt → ¬ (f j).toInt = v := fun j hj => by
  by_cases e : j = i.toNatClampNeg
  · rw [e]; exact hc
  · have e2 : ¬ j = i.toInt.toNat := e
    exact h j (by omega)
theorem fdx_of {row : Nat → Int64} {w : Int64} {i : Int32} {k : Int} (h : ∀ j : Nat, (j : Int) < i.toInt → ¬ row j = w) (h0 : 0 ≤ i.toInt) (h1 : i.toInt < k) (hq : row i.toNatClampNeg = w) : i.toInt = fdx row 0 w k.toNat := by
  have e := fdx_some (row := row) (a := 0) (w := w) (i := i.toInt.toNat) (by rw [Nat.zero_add]; exact hq) (fun j hj => by rw [Nat.zero_add]; exact h j (by omega)) k.toNat (by omega)
  omega
theorem xatN {f : Nat → Int32} {i : Int32} {k : Nat} (h : i.toInt = (k : Int)) : f i.toNatClampNeg = f k := by
  rw [show i.toNatClampNeg = k from (show i.toInt.toNat = k by omega)]
theorem wz_s {g g0 : Nat → Int32} {s : Int} {a i i' : Int32} (h : ∀ j : Nat, g j = if 9 * s ≤ (j : Int) ∧ (j : Int) < 9 * s + i.toInt then 0 else g0 j) (ha : a.toInt = 9 * s + i.toInt) (h0 : 0 ≤ a.toInt ∧ 0 ≤ i.toInt) (h1 : i'.toInt = i.toInt + 1) : ∀ j : Nat, upd g a.toNatClampNeg 0 j = if 9 * s ≤ (j : Int) ∧ (j : Int) < 9 * s + i'.toInt then 0 else g0 j := fun j => by
  have e0 : a.toNatClampNeg = a.toInt.toNat := rfl
  unfold upd
  by_cases e : j = a.toNatClampNeg
  · rw [if_pos e, if_pos (by omega)]
  · rw [if_neg e, h j]
    by_cases c : 9 * s ≤ (j : Int) ∧ (j : Int) < 9 * s + i.toInt
    · rw [if_pos c, if_pos (by omega)]
    · rw [if_neg c, if_neg (by omega)]
theorem sBy_all : ∀ l ∈ sBy, ∀ x ∈ l, 0 ≤ x.toInt ∧ x.toInt ≤ 127 := by decide +kernel
theorem getD_or {α : Type} (l : List α) (i : Nat) (d : α) : l.getD i d ∈ l ∨ l.getD i d = d := by
  show (l[i]?).getD d ∈ l ∨ (l[i]?).getD d = d
  cases h : l[i]? with
  | none => exact Or.inr rfl
  | some x => exact Or.inl (List.mem_of_getElem? h)
theorem sBy_at (j i : Nat) : 0 ≤ ((sBy.getD j []).getD i 0).toInt ∧ ((sBy.getD j []).getD i 0).toInt ≤ 127 := by
  rcases getD_or (sBy.getD j []) i 0 with h | h
  · rcases getD_or sBy j [] with g | g
    · exact sBy_all _ g _ h
    · rw [g] at h
      exact absurd h (by simp)
  · rw [h]
    exact ⟨by decide, by decide⟩
theorem char_of {j : Nat} {i z z2 z3 : Int32} (h1 : z = (sBy.getD j []).getD i.toNatClampNeg 0) (h2 : z2 = z &&& 255) (h3 : z3 = (z2.toUInt32 % 65536).toInt32) : z3 = (sBy.getD j []).getD i.toInt.toNat 0 := by
  have hr := sBy_at j i.toNatClampNeg
  rw [← h1] at hr
  have e : z &&& 255 = z := b255p hr.1 hr.2
  rw [h3, h2, e, lg_i2c_word hr.1 (by omega)]
  exact h1
def pkw (l : List Int32) : Nat → Int64
  | 0 => 0
  | k + 1 => (pkw l k <<< ((8 : Int32).toInt64 &&& 63)) ||| (l.getD k 0).toInt64
theorem pkw_s {l : List Int32} {w : Int64} {i i' r : Int32} (h : w = pkw l i.toInt.toNat) (h0 : 0 ≤ i.toInt) (h1 : i'.toInt = i.toInt + 1) (hr : r = l.getD i.toInt.toNat 0) : (w <<< ((8 : Int32).toInt64 &&& 63)) ||| r.toInt64 = pkw l i'.toInt.toNat := by
  rw [show i'.toInt.toNat = i.toInt.toNat + 1 by omega, h, hr]
  rfl
theorem fNum_0 {f : Nat → Int32} {n m t : Nat} {lo hi : Int} (h : sK f n m t = 2) (h1 : lo ≤ sU f n m t) (h2 : sU f n m t ≤ hi) : fNum f n m lo hi t = 0 := by
  unfold fNum
  rw [if_neg (fun c => c h), if_neg (fun c => c ⟨h1, h2⟩)]
theorem fNum_1 {f : Nat → Int32} {n m t : Nat} {lo hi : Int} (h : ¬ sK f n m t = 2) : fNum f n m lo hi t = 1 := if_pos h
theorem fNum_2 {f : Nat → Int32} {n m t : Nat} {lo hi : Int} (h : sK f n m t = 2) (h1 : ¬ (lo ≤ sU f n m t ∧ sU f n m t ≤ hi)) : fNum f n m lo hi t = 2 := by
  unfold fNum
  rw [if_neg (fun c => c h), if_pos h1]
theorem fKn_0 {f : Nat → Int32} {n m t a : Nat} {ow : Int64 → Bool} {N : Nat → Int64} {k : Int} (h : wMay f n m ow t) (h1 : ¬ fdx N a (sW f n m t) k.toNat = -1) : fKn f n m ow N a k t = 0 := by
  unfold fKn
  rw [if_neg (fun c => c h), if_neg h1]
theorem fKn_1 {f : Nat → Int32} {n m t a : Nat} {ow : Int64 → Bool} {N : Nat → Int64} {k : Int} (h : ¬ wMay f n m ow t) : fKn f n m ow N a k t = 1 := if_pos h
theorem fKn_3 {f : Nat → Int32} {n m t a : Nat} {ow : Int64 → Bool} {N : Nat → Int64} {k : Int} (h : wMay f n m ow t) (h1 : fdx N a (sW f n m t) k.toNat = -1) : fKn f n m ow N a k t = 3 := by
  unfold fKn
  rw [if_neg (fun c => c h), if_pos h1]
theorem fNew_0 {f : Nat → Int32} {n m t : Nat} {ow : Int64 → Bool} {H : Nat → Int} {N : Nat → Int64} (h : wMay f n m ow t) (h1 : fdx N 18 (sW f n m t) (H 0).toNat = -1) (h2 : fdx N 27 (sW f n m t) (H 1).toNat = -1) : fNew f n m ow H N t = 0 := by
  unfold fNew
  rw [if_neg (fun c => c h), if_neg (fun c => by rcases c with c | c <;> exact c (by assumption))]
theorem fNew_1 {f : Nat → Int32} {n m t : Nat} {ow : Int64 → Bool} {H : Nat → Int} {N : Nat → Int64} (h : ¬ wMay f n m ow t) : fNew f n m ow H N t = 1 := if_pos h
theorem fNew_3 {f : Nat → Int32} {n m t : Nat} {ow : Int64 → Bool} {H : Nat → Int} {N : Nat → Int64} (h : wMay f n m ow t) (h1 : ¬ fdx N 18 (sW f n m t) (H 0).toNat = -1 ∨ ¬ fdx N 27 (sW f n m t) (H 1).toNat = -1) : fNew f n m ow H N t = 3 := by
  unfold fNew
  rw [if_neg (fun c => c h), if_pos h1]
/-- what a reader of a LINE answers, against what the LINE is -/
def LO (x : LR) (r fk fp : Int32) (good : Nat → (Nat → Int) → (Nat → Int64) → (Nat → Bool) → Prop) : Prop :=
  match x with
  | .inl (e, p) => r.toInt = 0 ∧ fk.toInt = e ∧ fp.toInt = p
  | .inr (t', H', N', O') => r.toInt = 1 ∧ good t' H' N' O'
theorem LO_bad {x : LR} {f : Nat → Int32} {n m t : Nat} {e : Int} {r fk fp : Int32} {good : Nat → (Nat → Int) → (Nat → Int64) → (Nat → Bool) → Prop} (h : x = bad f n m e t) (h0 : r.toInt = 0) (h1 : fk.toInt = e) (h2 : fp.toInt = (sPn f n m t : Int)) : LO x r fk fp good := by
  rw [h]
  exact ⟨h0, h1, h2⟩
theorem LO_good {x : LR} {t' : Nat} {H' : Nat → Int} {N' : Nat → Int64} {O' : Nat → Bool} {r fk fp : Int32} {good : Nat → (Nat → Int) → (Nat → Int64) → (Nat → Bool) → Prop} (h : x = .inr (t', H', N', O')) (h0 : r.toInt = 1) (h1 : good t' H' N' O') : LO x r fk fp good := by
  rw [h]
  exact ⟨h0, h1⟩
theorem LO_weak {x : LR} {r fk fp : Int32} {good good' : Nat → (Nat → Int) → (Nat → Int64) → (Nat → Bool) → Prop} (h : LO x r fk fp good) (hg : ∀ t H N O, good t H N O → good' t H N O) : LO x r fk fp good' := by
  unfold LO at h ⊢
  split at h
  · exact h
  · exact ⟨h.1, hg _ _ _ _ h.2⟩
theorem upd_eq {f : Nat → Int32} {k : Nat} {v : Int32} : upd f k v k = v := if_pos rfl
theorem LO_r {x : LR} {r r' fk fp : Int32} {good : Nat → (Nat → Int) → (Nat → Int64) → (Nat → Bool) → Prop} (h : LO x r fk fp good) (e : r.toInt = r'.toInt) : LO x r' fk fp good := by
  unfold LO at h ⊢
  split at h
  · exact ⟨by omega, h.2⟩
  · exact ⟨by omega, h.2⟩
theorem LN_pos {f : Nat → Int32} {n m : Nat} {ow : Int64 → Bool} {H : Nat → Int} {N : Nat → Int64} {O : Nat → Bool} {t t' : Nat} {H' : Nat → Int} {N' : Nat → Int64} {O' : Nat → Bool} (ht : t ≤ n) (h : LN f n m ow H N O t = .inr (t', H', N', O')) : t < t' := by
  have hx : ∀ q, q ≤ n → q ≤ sX f n m q ∧ sX f n m q ≤ n := fun q hq => sX_le hq
  have l1 := hx t ht
  have l2 := hx _ l1.2
  have l3 := hx _ l2.2
  have l4 := hx _ l3.2
  have l5 := hx _ l4.2
  have hg : ∀ w, isW f n m t w → t < sX f n m t := fun w c => sX_gt ht (Or.inl c.1)
  unfold LN at h
  split at h
  · next c =>
    have := hg _ c
    unfold lnName at h
    repeat (split at h; (· exact absurd h (by simp [bad])))
    simp only [Sum.inr.injEq, Prod.mk.injEq] at h
    omega
  · split at h
    · next c =>
      have := hg _ c
      unfold lnSoul at h
      repeat (split at h; (· exact absurd h (by simp [bad])))
      split at h
      · unfold lnCalled at h
        repeat (split at h; (· exact absurd h (by simp [bad])))
        simp only [Sum.inr.injEq, Prod.mk.injEq] at h
        omega
      · simp only [Sum.inr.injEq, Prod.mk.injEq] at h
        omega
    · split at h
      · next c =>
        have := hg _ c
        unfold lnOf at h
        repeat (split at h; (· exact absurd h (by simp [bad])))
        simp only [Sum.inr.injEq, Prod.mk.injEq] at h
        omega
      · split at h
        · next c =>
          have := hg _ c
          unfold lnOf at h
          repeat (split at h; (· exact absurd h (by simp [bad])))
          simp only [Sum.inr.injEq, Prod.mk.injEq] at h
          omega
        · split at h
          · next c =>
            have := hg _ c
            unfold lnWish at h
            repeat (split at h; (· exact absurd h (by simp [bad])))
            simp only [Sum.inr.injEq, Prod.mk.injEq] at h
            omega
          · split at h
            · next c =>
              have := hg _ c
              unfold lnWorth at h
              repeat (split at h; (· exact absurd h (by simp [bad])))
              simp only [Sum.inr.injEq, Prod.mk.injEq] at h
              omega
            · split at h
              · next c =>
                have := hg _ c
                unfold lnOld at h
                repeat (split at h; (· exact absurd h (by simp [bad])))
                simp only [Sum.inr.injEq, Prod.mk.injEq] at h
                omega
              · exact absurd h (by simp [bad])
/-- the reference's look at the own WORDS -/
def inm (tk : Int) (q : Nat → Int64) (w : Int64) (s k : Int) : Prop := (s = 1 ∧ tk = 1 ∧ ∀ j : Nat, (j : Int) < k → ¬ q j = w) ∨ (s = 0 ∧ (¬ tk = 1 ∨ ∃ j : Nat, j < 27 ∧ q j = w))
theorem inm_0 {tk : Int} {q : Nat → Int64} {w : Int64} {s k : Int} (hk : k = 0) (h : (s = 1 ∧ tk = 1) ∨ (s = 0 ∧ ¬ tk = 1)) : inm tk q w s k := by
  rcases h with h | h
  · exact Or.inl ⟨h.1, h.2, fun j hj => by omega⟩
  · exact Or.inr ⟨h.1, Or.inl h.2⟩
theorem inm_k {tk : Int} {q : Nat → Int64} {w : Int64} {s s' : Int} {i i' : Int32} (h : inm tk q w s i.toInt) (h0 : 0 ≤ i.toInt ∧ i.toInt < 27) (h1 : i'.toInt = i.toInt + 1) (hc : (s = 0 ∧ s' = 0) ∨ (¬ s = 0 ∧ s' = 0 ∧ q i.toNatClampNeg = w) ∨ (¬ s = 0 ∧ s' = 1 ∧ ¬ q i.toNatClampNeg = w)) : inm tk q w s' i'.toInt := by
  rcases hc with hc | hc | hc
  · rcases h with h | h
    · exfalso; omega
    · exact Or.inr ⟨hc.2, h.2⟩
  · exact Or.inr ⟨hc.2.1, Or.inr ⟨i.toNatClampNeg, show i.toInt.toNat < 27 by omega, hc.2.2⟩⟩
  · rcases h with h | h
    · refine Or.inl ⟨hc.2.1, h.2.1, fun j hj => ?_⟩
      by_cases e : j = i.toNatClampNeg
      · rw [e]; exact hc.2.2
      · have e2 : ¬ j = i.toInt.toNat := e
        exact h.2.2 j (by omega)
    · exfalso; omega
theorem inm_e {tk : Int} {q : Nat → Int64} {w : Int64} {s k : Int} (h : inm tk q w s k) (hk : 27 ≤ k) : (s = 1 ∧ tk = 1 ∧ ownB q w = false) ∨ (s = 0 ∧ (¬ tk = 1 ∨ ownB q w = true)) := by
  rcases h with h | h
  · exact Or.inl ⟨h.1, h.2.1, ownB_f (fun j hj => h.2.2 j (by omega))⟩
  · refine Or.inr ⟨h.1, ?_⟩
    rcases h.2 with g | ⟨j, hj, g⟩
    · exact Or.inl g
    · exact Or.inr (ownB_t hj g)
theorem fdx_ofa {row : Nat → Int64} {w : Int64} {a : Nat} {i : Int32} {k : Int} (h : ∀ j : Nat, (j : Int) < i.toInt → ¬ row (a + j) = w) (h0 : 0 ≤ i.toInt) (h1 : i.toInt < k) (hq : row (a + i.toInt.toNat) = w) : i.toInt = fdx row a w k.toNat := by
  have e := fdx_some (row := row) (a := a) (w := w) (i := i.toInt.toNat) hq (fun j hj => h j (by omega)) k.toNat (by omega)
  omega
theorem cmp_alla {q : Nat → Int64} {w : Int64} {a : Nat} {i i' x z : Int32} (h : ∀ j : Nat, (j : Int) < i.toInt → ¬ q (a + j) = w) (h0 : 0 ≤ i.toInt) (h1 : i'.toInt = i.toInt + 1) (hx : x.toInt = (a : Int) + i.toInt) (hz : z = lg_cmp (q x.toNatClampNeg) w) (hc : ¬ z.toInt = 0) : ∀ j : Nat, (j : Int) < i'.toInt → ¬ q (a + j) = w := fun j hj => by
  by_cases e : j = i.toInt.toNat
  · have e2 : a + j = x.toNatClampNeg := show a + j = x.toInt.toNat by omega
    rw [e2]; exact cmp_ne hz hc
  · exact h j (by omega)
def bo1 (fn : Nat → Int32) (k v : Int) : Prop := ∃ j : Nat, (j : Int) < k ∧ (fn j).toInt = v
def bo0 (fn : Nat → Int32) (k v : Int) : Prop := ∀ j : Nat, (j : Int) < k → ¬ (fn j).toInt = v
theorem ix9 {x : Int32} {p q : Int} (h0 : 0 ≤ p) (h1 : 0 ≤ q) (hx : x.toInt = 9 * p + q) : 9 * p.toNat + q.toNat = x.toNatClampNeg := by
  show _ = x.toInt.toNat
  omega
/-- the last step of a 'worth' LINE -/
theorem wo_good {f : Nat → Int32} {n m t : Nat} {ow : Int64 → Bool} {H : Nat → Int} {N : Nat → Int64} {O : Nat → Bool} {wr wr' : Nat → Int32} {x v r fk fp : Int32} {C : Nat → Prop}
    (hk0 : fKn f n m ow N 27 (H 1) t = 0) (hk2 : fKn f n m ow N 18 (H 0) (sX f n m t) = 0) (hz : ¬ 0 < H (56 + 9 * (fdx N 27 (sW f n m t) (H 1).toNat).toNat + (fdx N 18 (sW f n m (sX f n m t)) (H 0).toNat).toNat)) (hn : fNum f n m 1 99 (sX f n m (sX f n m t)) = 0)
    (h0 : 0 ≤ fdx N 27 (sW f n m t) (H 1).toNat ∧ fdx N 27 (sW f n m t) (H 1).toNat < H 1) (h1 : 0 ≤ fdx N 18 (sW f n m (sX f n m t)) (H 0).toNat ∧ fdx N 18 (sW f n m (sX f n m t)) (H 0).toNat < H 0) (h9 : H 0 ≤ 9) (hx : x.toInt = 9 * fdx N 27 (sW f n m t) (H 1).toNat + fdx N 18 (sW f n m (sX f n m t)) (H 0).toNat) (hv : v.toInt = sU f n m (sX f n m (sX f n m t))) (hv1 : 1 ≤ sU f n m (sX f n m (sX f n m t))) (hw : wr' = upd wr x.toNatClampNeg v) (hr : r.toInt = 1) (hC : C (sX f n m (sX f n m (sX f n m t)))) :
    LO (lnWorth f n m ow H N O t) r fk fp (fun t' H' N' O' => C t' ∧ ∃ (k i : Nat) (u : Int), (k : Int) < H 1 ∧ i < 9 ∧ 0 ≤ u ∧ H' = setI H (56 + 9 * k + i) u ∧ N' = N ∧ O' = O ∧ (∀ j : Nat, ¬ j = 9 * k + i → wr' j = wr j) ∧ (wr' (9 * k + i)).toInt = u) := by
  have e := ix9 h0.1 h1.1 hx
  refine LO_good (by unfold lnWorth; rw [if_neg (fun c => c hk0), if_neg (fun c => c hk2), if_neg hz, if_neg (fun c => c hn)]) hr ⟨hC, (fdx N 27 (sW f n m t) (H 1).toNat).toNat, (fdx N 18 (sW f n m (sX f n m t)) (H 0).toNat).toNat, _, by omega, by omega, by omega, rfl, rfl, rfl, fun j hj => ?_, ?_⟩
  · rw [hw, ← e]
    exact if_neg hj
  · rw [hw, ← e, upd_eq]
    exact hv
