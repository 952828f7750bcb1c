/-! TOKENS of a tape, as both sides read them: g the bytes (signed), n how many, m the most, p the place from which the next one is looked for -/
abbrev tbl (c : Int) : Prop := c = 32 ∨ c = 10
abbrev tsm (c : Int) : Prop := 97 ≤ c ∧ c ≤ 122
abbrev tdg (c : Int) : Prop := 48 ≤ c ∧ c ≤ 57
abbrev tal (c : Int) : Prop := tsm c ∨ tdg c
abbrev tsg (c : Int) : Prop := c = 59 ∨ c = 40 ∨ c = 41 ∨ (60 ≤ c ∧ c ≤ 62)
abbrev gi (f : Nat → Int32) : Nat → Int := fun j => (f j).toInt
def tsk (g : Nat → Int) (n : Nat) : Nat → Nat → Nat
  | 0, p => p
  | k + 1, p => if p < n ∧ tbl (g p) then tsk g n k (p + 1) else p
def ten (g : Nat → Int) (n : Nat) : Nat → Nat → Nat
  | 0, p => p
  | k + 1, p => if p < n ∧ tal (g p) then ten g n k (p + 1) else p
theorem tsk_eq {g : Nat → Int} {n : Nat} : ∀ (k p q : Nat), q - p ≤ k → p ≤ q → (∀ j, p ≤ j → j < q → j < n ∧ tbl (g j)) → ¬ (q < n ∧ tbl (g q)) → tsk g n k p = q := by
  intro k
  induction k with
  | zero => intro p q h1 h2 _ _; show p = q; omega
  | succ k ih =>
    intro p q h1 h2 h3 h4
    by_cases e : p = q
    · subst e
      exact if_neg h4
    · show (if p < n ∧ tbl (g p) then tsk g n k (p + 1) else p) = q
      rw [if_pos (h3 p (Nat.le_refl _) (by omega))]
      exact ih (p + 1) q (by omega) (by omega) (fun j a b => h3 j (by omega) b) h4
theorem ten_eq {g : Nat → Int} {n : Nat} : ∀ (k p q : Nat), q - p ≤ k → p ≤ q → (∀ j, p ≤ j → j < q → j < n ∧ tal (g j)) → ¬ (q < n ∧ tal (g q)) → ten g n k p = q := by
  intro k
  induction k with
  | zero => intro p q h1 h2 _ _; show p = q; omega
  | succ k ih =>
    intro p q h1 h2 h3 h4
    by_cases e : p = q
    · subst e
      exact if_neg h4
    · show (if p < n ∧ tal (g p) then ten g n k (p + 1) else p) = q
      rw [if_pos (h3 p (Nat.le_refl _) (by omega))]
      exact ih (p + 1) q (by omega) (by omega) (fun j a b => h3 j (by omega) b) h4
theorem tsk_le {g : Nat → Int} {n : Nat} : ∀ (k p : Nat), p ≤ n → p ≤ tsk g n k p ∧ tsk g n k p ≤ n := by
  intro k
  induction k with
  | zero => intro p h; exact ⟨Nat.le_refl _, h⟩
  | succ k ih =>
    intro p h
    show p ≤ (if p < n ∧ tbl (g p) then tsk g n k (p + 1) else p) ∧ (if p < n ∧ tbl (g p) then tsk g n k (p + 1) else p) ≤ n
    split
    · next c => have := ih (p + 1) (by omega); omega
    · exact ⟨Nat.le_refl _, h⟩
theorem ten_le {g : Nat → Int} {n : Nat} : ∀ (k p : Nat), p ≤ n → p ≤ ten g n k p ∧ ten g n k p ≤ n := by
  intro k
  induction k with
  | zero => intro p h; exact ⟨Nat.le_refl _, h⟩
  | succ k ih =>
    intro p h
    show p ≤ (if p < n ∧ tal (g p) then ten g n k (p + 1) else p) ∧ (if p < n ∧ tal (g p) then ten g n k (p + 1) else p) ≤ n
    split
    · next c => have := ih (p + 1) (by omega); omega
    · exact ⟨Nat.le_refl _, h⟩
theorem tsk_cong {g g' : Nat → Int} {n : Nat} (h : ∀ j, j < n → g j = g' j) : ∀ (k p : Nat), tsk g n k p = tsk g' n k p := by
  intro k
  induction k with
  | zero => intro p; rfl
  | succ k ih =>
    intro p
    show (if p < n ∧ tbl (g p) then tsk g n k (p + 1) else p) = (if p < n ∧ tbl (g' p) then tsk g' n k (p + 1) else p)
    by_cases c : p < n
    · rw [h p c, ih]
    · rw [if_neg (fun q => c q.1), if_neg (fun q => c q.1)]
theorem ten_cong {g g' : Nat → Int} {n : Nat} (h : ∀ j, j < n → g j = g' j) : ∀ (k p : Nat), ten g n k p = ten g' n k p := by
  intro k
  induction k with
  | zero => intro p; rfl
  | succ k ih =>
    intro p
    show (if p < n ∧ tal (g p) then ten g n k (p + 1) else p) = (if p < n ∧ tal (g' p) then ten g' n k (p + 1) else p)
    by_cases c : p < n
    · rw [h p c, ih]
    · rw [if_neg (fun q => c q.1), if_neg (fun q => c q.1)]
/-- how many of k bytes from q on are small letters; the WORD, the NUMBER that they are -/
def tnl (g : Nat → Int) (q : Nat) : Nat → Nat
  | 0 => 0
  | k + 1 => tnl g q k + (if tsm (g (q + k)) then 1 else 0)
def twv (f : Nat → Int32) (q : Nat) : Nat → Int64
  | 0 => 0
  | k + 1 => (twv f q k <<< ((8 : Int32).toInt64 &&& 63)) ||| (f (q + k)).toInt64
def tnv (f : Nat → Int32) (q : Nat) : Nat → Int32
  | 0 => 0
  | k + 1 => tnv f q k * 10 + f (q + k) - 48
theorem tnl_le (g : Nat → Int) (q : Nat) : ∀ k, tnl g q k ≤ k := by
  intro k
  induction k with
  | zero => exact Nat.le_refl _
  | succ k ih =>
    show tnl g q k + (if tsm (g (q + k)) then 1 else 0) ≤ k + 1
    split <;> omega
theorem tnl_cong {g g' : Nat → Int} {q : Nat} : ∀ k, (∀ j, j < k → g (q + j) = g' (q + j)) → tnl g q k = tnl g' q k := by
  intro k
  induction k with
  | zero => intro _; rfl
  | succ k ih =>
    intro h
    show tnl g q k + (if tsm (g (q + k)) then 1 else 0) = tnl g' q k + (if tsm (g' (q + k)) then 1 else 0)
    rw [ih (fun j hj => h j (by omega)), h k (by omega)]
theorem twv_cong {f f' : Nat → Int32} {q : Nat} : ∀ k, (∀ j, j < k → f (q + j) = f' (q + j)) → twv f q k = twv f' q k := by
  intro k
  induction k with
  | zero => intro _; rfl
  | succ k ih =>
    intro h
    show (twv f q k <<< ((8 : Int32).toInt64 &&& 63)) ||| (f (q + k)).toInt64 = (twv f' q k <<< ((8 : Int32).toInt64 &&& 63)) ||| (f' (q + k)).toInt64
    rw [ih (fun j hj => h j (by omega)), h k (by omega)]
theorem tnv_cong {f f' : Nat → Int32} {q : Nat} : ∀ k, (∀ j, j < k → f (q + j) = f' (q + j)) → tnv f q k = tnv f' q k := by
  intro k
  induction k with
  | zero => intro _; rfl
  | succ k ih =>
    intro h
    show tnv f q k * 10 + f (q + k) - 48 = tnv f' q k * 10 + f' (q + k) - 48
    rw [ih (fun j hj => h j (by omega)), h k (by omega)]
/-- the kind of a run of k letters and digits, of which L are letters -/
def tkd (L k : Nat) : Int := if L = k then (if k ≤ 7 then 1 else 4) else if L = 0 then (if k ≤ 3 then 2 else 4) else 4
abbrev tq (g : Nat → Int) (n p : Nat) : Nat := tsk g n n p
abbrev te (g : Nat → Int) (n q : Nat) : Nat := ten g n n q
def tkk (g : Nat → Int) (n m p : Nat) : Int :=
  if m < n ∧ m ≤ tq g n p then 4 else if n ≤ tq g n p then 0 else if tal (g (tq g n p)) then tkd (tnl g (tq g n p) (te g n (tq g n p) - tq g n p)) (te g n (tq g n p) - tq g n p) else if tsg (g (tq g n p)) then 3 else 4
def tkp (g : Nat → Int) (n m p : Nat) : Nat := if m < n ∧ m ≤ tq g n p then m else tq g n p
def tke (g : Nat → Int) (n m p : Nat) : Nat := if m < n ∧ m ≤ tq g n p then tq g n p else if n ≤ tq g n p then tq g n p else if tal (g (tq g n p)) then te g n (tq g n p) else tq g n p + 1
/-- what one side's numbers say of the TOKEN that lies ahead: kind, place, end, WORD, NUMBER, sign -/
def TS (f : Nat → Int32) (n m p : Nat) (k pl e : Int32) (w : Int64) (nu sg : Int32) : Prop :=
  k.toInt = tkk (gi f) n m p ∧ pl.toInt = (tkp (gi f) n m p : Int) ∧ e.toInt = (tke (gi f) n m p : Int) ∧ (k.toInt = 1 → w = twv f (tkp (gi f) n m p) (tke (gi f) n m p - tkp (gi f) n m p)) ∧ (k.toInt = 2 → nu = tnv f (tkp (gi f) n m p) (tke (gi f) n m p - tkp (gi f) n m p)) ∧ (k.toInt = 3 → sg.toInt = (f (tkp (gi f) n m p)).toInt)
theorem TS_lim {f : Nat → Int32} {n m p q : Nat} {k pl e : Int32} {w : Int64} {nu sg : Int32} (hq : tq (gi f) n p = q) (h : m < n ∧ m ≤ q) (hk : k.toInt = 4) (hp : pl.toInt = (m : Int)) (he : e.toInt = (q : Int)) : TS f n m p k pl e w nu sg := by
  have h1 : tkk (gi f) n m p = 4 := by unfold tkk; rw [hq, if_pos h]
  have h2 : tkp (gi f) n m p = m := by unfold tkp; rw [hq, if_pos h]
  have h3 : tke (gi f) n m p = q := by unfold tke; rw [hq, if_pos h]
  refine ⟨by rw [h1]; exact hk, by rw [h2]; exact hp, by rw [h3]; exact he, fun c => ?_, fun c => ?_, fun c => ?_⟩ <;> omega
theorem TS_end {f : Nat → Int32} {n m p q : Nat} {k pl e : Int32} {w : Int64} {nu sg : Int32} (hq : tq (gi f) n p = q) (h : ¬ (m < n ∧ m ≤ q)) (hn : n ≤ q) (hk : k.toInt = 0) (hp : pl.toInt = (q : Int)) (he : e.toInt = (q : Int)) : TS f n m p k pl e w nu sg := by
  have h1 : tkk (gi f) n m p = 0 := by unfold tkk; rw [hq, if_neg h, if_pos hn]
  have h2 : tkp (gi f) n m p = q := by unfold tkp; rw [hq, if_neg h]
  have h3 : tke (gi f) n m p = q := by unfold tke; rw [hq, if_neg h, if_pos hn]
  refine ⟨by rw [h1]; exact hk, by rw [h2]; exact hp, by rw [h3]; exact he, fun c => ?_, fun c => ?_, fun c => ?_⟩ <;> omega
theorem TS_sign {f : Nat → Int32} {n m p q : Nat} {k pl e : Int32} {w : Int64} {nu sg : Int32} (hq : tq (gi f) n p = q) (h : ¬ (m < n ∧ m ≤ q)) (hn : ¬ n ≤ q) (ha : ¬ tal (f q).toInt) (hk : k.toInt = if tsg (f q).toInt then 3 else 4) (hp : pl.toInt = (q : Int)) (he : e.toInt = (q : Int) + 1) (hs : sg.toInt = (f q).toInt ∨ ¬ tsg (f q).toInt) : TS f n m p k pl e w nu sg := by
  have h1 : tkk (gi f) n m p = if tsg (f q).toInt then 3 else 4 := by unfold tkk; rw [hq, if_neg h, if_neg hn, if_neg ha]
  have h2 : tkp (gi f) n m p = q := by unfold tkp; rw [hq, if_neg h]
  have h3 : tke (gi f) n m p = q + 1 := by unfold tke; rw [hq, if_neg h, if_neg hn, if_neg ha]
  refine ⟨by rw [h1]; exact hk, by rw [h2]; exact hp, by rw [h3]; omega, fun c => ?_, fun c => ?_, fun c => ?_⟩
  · rw [hk] at c; split at c <;> omega
  · rw [hk] at c; split at c <;> omega
  · rw [h2]
    rcases hs with hs | hs
    · exact hs
    · rw [if_neg hs] at hk; omega
theorem TS_run {f : Nat → Int32} {n m p q r : Nat} {k pl e : Int32} {w : Int64} {nu sg : Int32} (hq : tq (gi f) n p = q) (h : ¬ (m < n ∧ m ≤ q)) (hn : ¬ n ≤ q) (ha : tal (f q).toInt) (hr : te (gi f) n q = r) (hk : k.toInt = tkd (tnl (gi f) q (r - q)) (r - q)) (hp : pl.toInt = (q : Int)) (he : e.toInt = (r : Int)) (hw : tnl (gi f) q (r - q) = r - q → r - q ≤ 7 → w = twv f q (r - q)) (hu : tnl (gi f) q (r - q) = 0 → r - q ≤ 3 → nu = tnv f q (r - q)) (hqr : q < r) : TS f n m p k pl e w nu sg := by
  have h1 : tkk (gi f) n m p = tkd (tnl (gi f) q (r - q)) (r - q) := by unfold tkk; rw [hq, if_neg h, if_neg hn, if_pos ha, hr]
  have h2 : tkp (gi f) n m p = q := by unfold tkp; rw [hq, if_neg h]
  have h3 : tke (gi f) n m p = r := by unfold tke; rw [hq, if_neg h, if_neg hn, if_pos ha, hr]
  refine ⟨by rw [h1]; exact hk, by rw [h2]; exact hp, by rw [h3]; exact he, fun c => ?_, fun c => ?_, fun c => ?_⟩
  · rw [h2, h3]
    rw [hk] at c
    unfold tkd at c
    split at c
    · next e1 =>
      split at c
      · next e2 => exact hw e1 e2
      · omega
    · split at c
      · split at c <;> omega
      · omega
  · rw [h2, h3]
    rw [hk] at c
    unfold tkd at c
    split at c
    · split at c <;> omega
    · split at c
      · next e1 =>
        split at c
        · next e2 => exact hu e1 e2
        · omega
      · omega
  · rw [hk] at c
    unfold tkd at c
    split at c
    · split at c <;> omega
    · split at c
      · split at c <;> omega
      · omega
theorem tq_le {g : Nat → Int} {n p : Nat} (h : p ≤ n) : p ≤ tq g n p ∧ tq g n p ≤ n := tsk_le n p h
theorem te_le {g : Nat → Int} {n p : Nat} (h : p ≤ n) : p ≤ te g n p ∧ te g n p ≤ n := ten_le n p h
theorem tk_cong {f f' : Nat → Int32} {n : Nat} (h : ∀ j, j < n → f j = f' j) (m p : Nat) (hp : p ≤ n) : tkk (gi f) n m p = tkk (gi f') n m p ∧ tkp (gi f) n m p = tkp (gi f') n m p ∧ tke (gi f) n m p = tke (gi f') n m p := by
  have hg : ∀ j, j < n → gi f j = gi f' j := fun j hj => congrArg Int32.toInt (h j hj)
  have e1 : tq (gi f) n p = tq (gi f') n p := tsk_cong hg n p
  have e2 : te (gi f) n (tq (gi f') n p) = te (gi f') n (tq (gi f') n p) := ten_cong hg n _
  have l1 := tq_le (g := gi f') (n := n) (p := p) hp
  refine ⟨?_, ?_, ?_⟩
  · unfold tkk
    rw [e1]
    split
    · rfl
    · split
      · rfl
      · next c =>
        have hq : gi f (tq (gi f') n p) = gi f' (tq (gi f') n p) := hg _ (by omega)
        rw [hq, e2]
        have l2 := te_le (g := gi f') (n := n) (p := tq (gi f') n p) l1.2
        rw [tnl_cong (g := gi f) (g' := gi f') (q := tq (gi f') n p) _ (fun j hj => hg _ (by omega))]
  · unfold tkp
    rw [e1]
  · unfold tke
    rw [e1]
    split
    · rfl
    · split
      · rfl
      · next c =>
        have hq : gi f (tq (gi f') n p) = gi f' (tq (gi f') n p) := hg _ (by omega)
        rw [hq, e2]
