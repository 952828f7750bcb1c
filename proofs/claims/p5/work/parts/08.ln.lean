/-! what a TOWN's text says, LINE by LINE, over the stream of TOKENS -/
/-- the first of many places from a on that holds w -/
def fdx (row : Nat → Int64) (a : Nat) (w : Int64) : Nat → Int
  | 0 => -1
  | k + 1 => if fdx row a w k = -1 then (if row (a + k) = w then (k : Int) else -1) else fdx row a w k
theorem fdx_none {row : Nat → Int64} {a : Nat} {w : Int64} : ∀ k, (∀ j, j < k → ¬ row (a + j) = w) → fdx row a w k = -1 := by
  intro k
  induction k with
  | zero => intro _; rfl
  | succ k ih =>
    intro h
    show (if fdx row a w k = -1 then (if row (a + k) = w then (k : Int) else -1) else fdx row a w k) = -1
    rw [if_pos (ih (fun j hj => h j (by omega))), if_neg (h k (by omega))]
theorem fdx_some {row : Nat → Int64} {a : Nat} {w : Int64} {i : Nat} (hi : row (a + i) = w) (hn : ∀ j, j < i → ¬ row (a + j) = w) : ∀ k, i < k → fdx row a w k = (i : Int) := by
  intro k
  induction k with
  | zero => intro h; omega
  | succ k ih =>
    intro h
    show (if fdx row a w k = -1 then (if row (a + k) = w then (k : Int) else -1) else fdx row a w k) = (i : Int)
    by_cases e : i = k
    · subst e
      rw [if_pos (fdx_none i hn), if_pos hi]
    · have := ih (by omega)
      rw [if_neg (by omega), this]
theorem fdx_rng {row : Nat → Int64} {a : Nat} {w : Int64} : ∀ k, -1 ≤ fdx row a w k ∧ fdx row a w k < (k : Int) := by
  intro k
  induction k with
  | zero => exact ⟨by show (-1 : Int) ≤ -1; decide, by show (-1 : Int) < ((0 : Nat) : Int); decide⟩
  | succ k ih =>
    show -1 ≤ (if fdx row a w k = -1 then (if row (a + k) = w then (k : Int) else -1) else fdx row a w k) ∧ (if fdx row a w k = -1 then (if row (a + k) = w then (k : Int) else -1) else fdx row a w k) < ((k + 1 : Nat) : Int)
    split
    · split <;> omega
    · omega
theorem fdx_hit {row : Nat → Int64} {a : Nat} {w : Int64} : ∀ k, ¬ fdx row a w k = -1 → row (a + (fdx row a w k).toNat) = w := by
  intro k
  induction k with
  | zero => intro h; exact absurd rfl h
  | succ k ih =>
    have e : fdx row a w (k + 1) = (if fdx row a w k = -1 then (if row (a + k) = w then (k : Int) else -1) else fdx row a w k) := rfl
    intro h
    rw [e] at h ⊢
    by_cases c : fdx row a w k = -1
    · rw [if_pos c] at h ⊢
      by_cases c2 : row (a + k) = w
      · rw [if_pos c2]
        exact c2
      · rw [if_neg c2] at h
        exact absurd rfl h
    · rw [if_neg c]
      exact ih c
theorem fdx_cong {row row' : Nat → Int64} {a b : Nat} {w : Int64} : ∀ k, (∀ j, j < k → row (a + j) = row' (b + j)) → fdx row a w k = fdx row' b w k := by
  intro k
  induction k with
  | zero => intro _; rfl
  | succ k ih =>
    intro h
    show (if fdx row a w k = -1 then (if row (a + k) = w then (k : Int) else -1) else fdx row a w k) = (if fdx row' b w k = -1 then (if row' (b + k) = w then (k : Int) else -1) else fdx row' b w k)
    rw [ih (fun j hj => h j (by omega)), h k (by omega)]
/-- the document's own WORDS, by the row q of 27 -/
def ownB (q : Nat → Int64) (w : Int64) : Bool := decide (¬ fdx q 0 w 27 = -1)
theorem ownB_t {q : Nat → Int64} {w : Int64} {j : Nat} (hj : j < 27) (h : q j = w) : ownB q w = true := by
  unfold ownB
  refine decide_eq_true (fun c => ?_)
  by_cases e : ∀ i, i < 27 → ¬ q (0 + i) = w
  · exact e j hj (by rw [Nat.zero_add]; exact h)
  · -- the first such place
    have hx : ∀ k, k ≤ 27 → (∀ i, i < k → ¬ q (0 + i) = w) ∨ ∃ i, i < k ∧ q (0 + i) = w ∧ ∀ m, m < i → ¬ q (0 + m) = w := by
      intro k
      induction k with
      | zero => intro _; exact Or.inl (fun i hi => by omega)
      | succ k ih =>
        intro hk
        rcases ih (by omega) with g | ⟨i, g1, g2, g3⟩
        · by_cases c2 : q (0 + k) = w
          · exact Or.inr ⟨k, by omega, c2, g⟩
          · exact Or.inl (fun i hi => by
              by_cases c3 : i = k
              · rw [c3]; exact c2
              · exact g i (by omega))
        · exact Or.inr ⟨i, by omega, g2, g3⟩
    rcases hx 27 (by omega) with g | ⟨i, g1, g2, g3⟩
    · exact e g
    · rw [fdx_some g2 g3 27 g1] at c
      omega
theorem ownB_f {q : Nat → Int64} {w : Int64} (h : ∀ j, j < 27 → ¬ q j = w) : ownB q w = false := by
  unfold ownB
  refine decide_eq_false (fun c => c ?_)
  exact fdx_none 27 (fun j hj => by rw [Nat.zero_add]; exact h j hj)
theorem ownB_cong {q q' : Nat → Int64} (h : ∀ j, j < 27 → q j = q' j) : ownB q = ownB q' := by
  funext w
  unfold ownB
  rw [fdx_cong (row := q) (row' := q') (a := 0) (b := 0) (w := w) 27 (fun j hj => by rw [Nat.zero_add]; exact h j hj)]
def setI (H : Nat → Int) (k : Nat) (v : Int) : Nat → Int := fun j => if j = k then v else H j
def setW (N : Nat → Int64) (k : Nat) (v : Int64) : Nat → Int64 := fun j => if j = k then v else N j
def setB (O : Nat → Bool) (k : Nat) : Nat → Bool := fun j => if j = k then true else O j
section LN
variable (f : Nat → Int32) (n m : Nat) (ow : Int64 → Bool)
abbrev wMay (t : Nat) : Prop := sK f n m t = 1 ∧ ow (sW f n m t) = false
abbrev isW (t : Nat) (w : Int64) : Prop := sK f n m t = 1 ∧ sW f n m t = w
/-- kinds of FAULTS (0: none) of a WORD that is to be new, a NUMBER, a WORD that is to be known -/
def fNew (H : Nat → Int) (N : Nat → Int64) (t : Nat) : Int := if ¬ wMay f n m ow t then 1 else if ¬ fdx N 18 (sW f n m t) (H 0).toNat = -1 ∨ ¬ fdx N 27 (sW f n m t) (H 1).toNat = -1 then 3 else 0
def fNum (lo hi : Int) (t : Nat) : Int := if ¬ sK f n m t = 2 then 1 else if ¬ (lo ≤ sU f n m t ∧ sU f n m t ≤ hi) then 2 else 0
def fKn (N : Nat → Int64) (a : Nat) (k : Int) (t : Nat) : Int := if ¬ wMay f n m ow t then 1 else if fdx N a (sW f n m t) k.toNat = -1 then 3 else 0
abbrev LR : Type := (Int × Int) ⊕ (Nat × (Nat → Int) × (Nat → Int64) × (Nat → Bool))
abbrev bad (k : Int) (t : Nat) : LR := .inl (k, (sPn f n m t : Int))
def lnName (H : Nat → Int) (N : Nat → Int64) (O : Nat → Bool) (t : Nat) : LR :=
  if H 0 = 9 then bad f n m 4 t else
  if ¬ fNew f n m ow H N (sX f n m t) = 0 then bad f n m (fNew f n m ow H N (sX f n m t)) (sX f n m t) else
  if ¬ fNum f n m 0 99 (sX f n m (sX f n m t)) = 0 then bad f n m (fNum f n m 0 99 (sX f n m (sX f n m t))) (sX f n m (sX f n m t)) else
  .inr (sX f n m (sX f n m (sX f n m t)), setI (setI H (2 + (H 0).toNat) (sU f n m (sX f n m (sX f n m t)))) 0 (H 0 + 1), setW N (18 + (H 0).toNat) (sW f n m (sX f n m t)), O)
def lnOf (b to : Nat) (lo hi : Int) (H : Nat → Int) (N : Nat → Int64) (O : Nat → Bool) (t : Nat) : LR :=
  if ¬ fKn f n m ow N 18 (H 0) t = 0 then bad f n m (fKn f n m ow N 18 (H 0) t) t else
  if O (b + (fdx N 18 (sW f n m t) (H 0).toNat).toNat) = true then bad f n m 3 t else
  if ¬ fNum f n m lo hi (sX f n m t) = 0 then bad f n m (fNum f n m lo hi (sX f n m t)) (sX f n m t) else
  .inr (sX f n m (sX f n m t), setI H (to + (fdx N 18 (sW f n m t) (H 0).toNat).toNat) (sU f n m (sX f n m t)), N, setB O (b + (fdx N 18 (sW f n m t) (H 0).toNat).toNat))
def lnWish (H : Nat → Int) (N : Nat → Int64) (O : Nat → Bool) (t : Nat) : LR :=
  if ¬ fKn f n m ow N 27 (H 1) t = 0 then bad f n m (fKn f n m ow N 27 (H 1) t) t else
  if 0 < H (47 + (fdx N 27 (sW f n m t) (H 1).toNat).toNat) then bad f n m 3 t else
  if ¬ fKn f n m ow N 18 (H 0) (sX f n m t) = 0 then bad f n m (fKn f n m ow N 18 (H 0) (sX f n m t)) (sX f n m t) else
  .inr (sX f n m (sX f n m t), setI H (47 + (fdx N 27 (sW f n m t) (H 1).toNat).toNat) (fdx N 18 (sW f n m (sX f n m t)) (H 0).toNat + 1), N, O)
def lnOld (H : Nat → Int) (N : Nat → Int64) (O : Nat → Bool) (t : Nat) : LR :=
  if ¬ fKn f n m ow N 27 (H 1) t = 0 then bad f n m (fKn f n m ow N 27 (H 1) t) t else
  if 0 < H (137 + (fdx N 27 (sW f n m t) (H 1).toNat).toNat) then bad f n m 3 t else
  if ¬ fNum f n m 0 199 (sX f n m t) = 0 then bad f n m (fNum f n m 0 199 (sX f n m t)) (sX f n m t) else
  .inr (sX f n m (sX f n m t), setI H (137 + (fdx N 27 (sW f n m t) (H 1).toNat).toNat) (sU f n m (sX f n m t) + 1), N, O)
def lnWorth (H : Nat → Int) (N : Nat → Int64) (O : Nat → Bool) (t : Nat) : LR :=
  if ¬ fKn f n m ow N 27 (H 1) t = 0 then bad f n m (fKn f n m ow N 27 (H 1) t) t else
  if ¬ fKn f n m ow N 18 (H 0) (sX f n m t) = 0 then bad f n m (fKn f n m ow N 18 (H 0) (sX f n m t)) (sX f n m t) else
  if 0 < H (56 + 9 * (fdx N 27 (sW f n m t) (H 1).toNat).toNat + (fdx N 18 (sW f n m (sX f n m t)) (H 0).toNat).toNat) then bad f n m 3 (sX f n m t) else
  if ¬ fNum f n m 1 99 (sX f n m (sX f n m t)) = 0 then bad f n m (fNum f n m 1 99 (sX f n m (sX f n m t))) (sX f n m (sX f n m t)) else
  .inr (sX f n m (sX f n m (sX f n m t)), setI H (56 + 9 * (fdx N 27 (sW f n m t) (H 1).toNat).toNat + (fdx N 18 (sW f n m (sX f n m t)) (H 0).toNat).toNat) (sU f n m (sX f n m (sX f n m t))), N, O)
/-- is one of the first k SOULS called j so far -/
def borne (H : Nat → Int) (j : Int) : Nat → Bool
  | 0 => false
  | k + 1 => borne H j k || decide (H (38 + k) = j + 1)
def lnCalled (H : Nat → Int) (N : Nat → Int64) (O : Nat → Bool) (k t : Nat) : LR :=
  if ¬ fKn f n m ow N 18 (H 0) t = 0 then bad f n m (fKn f n m ow N 18 (H 0) t) t else
  if borne H (fdx N 18 (sW f n m t) (H 0).toNat) k = true then bad f n m 3 t else
  .inr (sX f n m t, setI (setI H (38 + k) (fdx N 18 (sW f n m t) (H 0).toNat + 1)) 1 ((k : Int) + 1), N, O)
def lnSoul (H : Nat → Int) (N : Nat → Int64) (O : Nat → Bool) (t : Nat) : LR :=
  if H 1 = 9 then bad f n m 4 t else
  if ¬ fNew f n m ow H N (sX f n m t) = 0 then bad f n m (fNew f n m ow H N (sX f n m t)) (sX f n m t) else
  if ¬ fNum f n m 0 999 (sX f n m (sX f n m t)) = 0 then bad f n m (fNum f n m 0 999 (sX f n m (sX f n m t))) (sX f n m (sX f n m t)) else
  if isW f n m (sX f n m (sX f n m (sX f n m t))) 0x63616c6c6564 then
    lnCalled f n m ow (setI (setI H (29 + (H 1).toNat) (sU f n m (sX f n m (sX f n m t)))) (38 + (H 1).toNat) 0) (setW N (27 + (H 1).toNat) (sW f n m (sX f n m t))) O (H 1).toNat (sX f n m (sX f n m (sX f n m (sX f n m t))))
  else .inr (sX f n m (sX f n m (sX f n m t)), setI (setI (setI H (29 + (H 1).toNat) (sU f n m (sX f n m (sX f n m t)))) (38 + (H 1).toNat) 0) 1 (H 1 + 1), setW N (27 + (H 1).toNat) (sW f n m (sX f n m t)), O)
def LN (H : Nat → Int) (N : Nat → Int64) (O : Nat → Bool) (t : Nat) : LR :=
  if isW f n m t 0x6e616d65 then lnName f n m ow H N O t else
  if isW f n m t 0x736f756c then lnSoul f n m ow H N O t else
  if isW f n m t 0x64656274 then lnOf f n m ow 0 11 0 99 H N O (sX f n m t) else
  if isW f n m t 0x6665617374 then lnOf f n m ow 9 20 1 9 H N O (sX f n m t) else
  if isW f n m t 0x77697368 then lnWish f n m ow H N O (sX f n m t) else
  if isW f n m t 0x776f727468 then lnWorth f n m ow H N O (sX f n m t) else
  if isW f n m t 0x6f6c64 then lnOld f n m ow H N O (sX f n m t) else bad f n m 1 t
/-- the whole text: the answer, the kind of its FAULT, and what was told -/
def TL (H : Nat → Int) (N : Nat → Int64) (O : Nat → Bool) (t : Nat) (L : Int) : Nat → Int × Int × (Nat → Int) × (Nat → Int64)
  | 0 => (0, 0, H, N)
  | k + 1 =>
    if sK f n m t = 0 then (L, 0, H, N) else
    match LN f n m ow H N O t with
    | .inl (e, p) => (-1 - p, e, H, N)
    | .inr (t', H', N', O') => if sK f n m t' = 3 ∧ sG f n m t' = 59 then TL H' N' O' (sX f n m t') (L + 1) k else (-1 - (sPn f n m t' : Int), 1, H', N')
end LN
