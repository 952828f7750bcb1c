theorem fb_holes : ∀ (m n : Nat) (f : Nat → Nat), (∀ i, i < n → f i < m) → (∀ i j, i < j → j < n → f i ≠ f j) → n ≤ m := by
  intro m
  induction m with
  | zero =>
    intro n f h1 _
    rcases Nat.eq_zero_or_pos n with h | h
    · omega
    · exact absurd (h1 0 h) (Nat.not_lt_zero _)
  | succ m ih =>
    intro n f h1 h2
    by_cases hx : ∃ i, i < n ∧ f i = m
    · obtain ⟨a, ha, hfa⟩ := hx
      have hg := ih (n - 1) (fun i => if i < a then f i else f (i + 1)) (by
        intro i hi
        by_cases q : i < a
        · simp only [if_pos q]
          have b1 := h1 i (by omega)
          have b2 := h2 i a q ha
          omega
        · simp only [if_neg q]
          have b1 := h1 (i + 1) (by omega)
          have b2 := h2 a (i + 1) (by omega) (by omega)
          omega) (by
        intro i j hij hj
        by_cases q : i < a
        · by_cases r : j < a
          · simp only [if_pos q, if_pos r]
            exact h2 i j hij (by omega)
          · simp only [if_pos q, if_neg r]
            exact h2 i (j + 1) (by omega) (by omega)
        · have r : ¬ j < a := by omega
          simp only [if_neg q, if_neg r]
          exact h2 (i + 1) (j + 1) (by omega) (by omega))
      omega
    · have hg := ih n f (fun i hi => by
        have b1 := h1 i hi
        have b2 : f i ≠ m := fun e => hx ⟨i, hi, e⟩
        omega) h2
      omega
/-! the reference's queue in its state at the place o: WAITING at o + 5, ROW from o + 6, CALLED from o + 15 -/
def mq (f : Nat → Int32) (o : Nat) (q : Int) : Prop :=
  (0 ≤ (f (o + 5)).toInt ∧ (f (o + 5)).toInt ≤ 9) ∧ (∀ i : Nat, i < 9 → 0 ≤ (f (o + 6 + i)).toInt ∧ (f (o + 6 + i)).toInt ≤ 8) ∧ (∀ i j : Nat, i < j → (j : Int) < (f (o + 5)).toInt → ¬ (f (o + 6 + i)).toInt = (f (o + 6 + j)).toInt) ∧ (∀ i : Nat, (i : Int) < (f (o + 5)).toInt → (f (o + 6 + i)).toInt = q ∨ (f (o + 15 + (f (o + 6 + i)).toInt.toNat)).toInt = 0)
def mi (f : Nat → Int32) (o : Nat) : Prop := mq f o (-1)
def nq (f : Nat → Int32) (o : Nat) (q : Int) : Prop := ∀ i : Nat, (i : Int) < (f (o + 5)).toInt → ¬ (f (o + 6 + i)).toInt = q
theorem mq_move {f g : Nat → Int32} {o o' : Nat} {q : Int} (h : mq f o q) (e : ∀ k : Nat, 5 ≤ k → k < 24 → g (o' + k) = f (o + k)) : mq g o' q := by
  obtain ⟨h1, h2, h3, h4⟩ := h
  have e5 : g (o' + 5) = f (o + 5) := e 5 (by omega) (by omega)
  have e6 : ∀ i : Nat, i < 9 → g (o' + 6 + i) = f (o + 6 + i) := fun i hi => by
    rw [Nat.add_assoc, Nat.add_assoc]
    exact e (6 + i) (by omega) (by omega)
  have e15 : ∀ i : Nat, i < 9 → g (o' + 15 + i) = f (o + 15 + i) := fun i hi => by
    rw [Nat.add_assoc, Nat.add_assoc]
    exact e (15 + i) (by omega) (by omega)
  refine ⟨by rw [e5]; exact h1, fun i hi => by rw [e6 i hi]; exact h2 i hi, fun i j hij hj => ?_, fun i hi => ?_⟩
  · rw [e5] at hj
    rw [e6 i (by omega), e6 j (by omega)]
    exact h3 i j hij hj
  · rw [e5] at hi
    have hi9 : i < 9 := by omega
    have b := h2 i hi9
    rw [e6 i hi9, e15 _ (by omega)]
    exact h4 i hi
theorem mi_move {f g : Nat → Int32} {o o' : Nat} (h : mi f o) (e : ∀ k : Nat, 5 ≤ k → k < 24 → g (o' + k) = f (o + k)) : mi g o' := mq_move h e
theorem xupd_ne {f : Nat → Int32} {i v : Int32} {n : Nat} (h0 : 0 ≤ i.toInt) (h : ¬ (n : Int) = i.toInt) : upd f i.toNatClampNeg v n = f n := by
  have e : ¬ n = i.toNatClampNeg := show ¬ n = i.toInt.toNat by omega
  exact if_neg e
theorem xupd_eq {f : Nat → Int32} {i v : Int32} {n : Nat} (h : (n : Int) = i.toInt) : upd f i.toNatClampNeg v n = v := by
  have e : n = i.toNatClampNeg := show n = i.toInt.toNat by omega
  exact if_pos e
theorem xat {f : Nat → Int32} {i : Int32} {n : Nat} (h : (n : Int) = i.toInt) : f i.toNatClampNeg = f n := by
  have e : i.toNatClampNeg = n := show i.toInt.toNat = n by omega
  rw [e]
theorem mq_out {f : Nat → Int32} {o : Nat} {q : Int} (h : mq f o q) {i v : Int32} (h0 : 0 ≤ i.toInt) (h9 : i.toInt < (o : Int) + 5 ∨ (o : Int) + 24 ≤ i.toInt) : mq (upd f i.toNatClampNeg v) o q :=
  mq_move h (fun k h1 h2 => xupd_ne h0 (by omega))
theorem mi_out {f : Nat → Int32} {o : Nat} (h : mi f o) {i v : Int32} (h0 : 0 ≤ i.toInt) (h9 : i.toInt < (o : Int) + 5 ∨ (o : Int) + 24 ≤ i.toInt) : mi (upd f i.toNatClampNeg v) o := mq_out h h0 h9
theorem mq_weak {f : Nat → Int32} {o : Nat} (h : mi f o) (q : Int) : mq f o q := by
  obtain ⟨h1, h2, h3, h4⟩ := h
  refine ⟨h1, h2, h3, fun i hi => ?_⟩
  have b := h2 i (by omega)
  rcases h4 i hi with c | c
  · omega
  · exact Or.inr c
theorem mi_of_nq {f : Nat → Int32} {o : Nat} {q : Int} (h : mq f o q) (hn : nq f o q) : mi f o := by
  obtain ⟨h1, h2, h3, h4⟩ := h
  refine ⟨h1, h2, h3, fun i hi => ?_⟩
  rcases h4 i hi with c | c
  · exact absurd c (hn i hi)
  · exact Or.inr c
/-- q is called something now: the others are as they were -/
theorem mq_called {f : Nat → Int32} {o : Nat} (h : mi f o) {z v : Int32} {q : Int} (hz : z.toInt = (o : Int) + 15 + q) (hq : 0 ≤ q ∧ q ≤ 8) : mq (upd f z.toNatClampNeg v) o q := by
  obtain ⟨h1, h2, h3, h4⟩ := h
  have e5 : upd f z.toNatClampNeg v (o + 5) = f (o + 5) := xupd_ne (by omega) (by omega)
  have e6 : ∀ i : Nat, i < 9 → upd f z.toNatClampNeg v (o + 6 + i) = f (o + 6 + i) := fun i hi => xupd_ne (by omega) (by omega)
  refine ⟨by rw [e5]; exact h1, fun i hi => by rw [e6 i hi]; exact h2 i hi, fun i j hij hj => ?_, fun i hi => ?_⟩
  · rw [e5] at hj
    rw [e6 i (by omega), e6 j (by omega)]
    exact h3 i j hij hj
  · rw [e5] at hi
    have hi9 : i < 9 := by omega
    have b := h2 i hi9
    rw [e6 i hi9]
    by_cases c : (f (o + 6 + i)).toInt = q
    · exact Or.inl c
    · right
      rw [xupd_ne (by omega) (by omega)]
      rcases h4 i hi with d | d
      · omega
      · exact d
/-- somebody is called nothing now -/
theorem mq_zero {f : Nat → Int32} {o : Nat} {q : Int} (h : mq f o q) {z v : Int32} (hz : (o : Int) + 15 ≤ z.toInt ∧ z.toInt < (o : Int) + 24) (hv : v.toInt = 0) : mq (upd f z.toNatClampNeg v) o q := by
  obtain ⟨h1, h2, h3, h4⟩ := h
  have e5 : upd f z.toNatClampNeg v (o + 5) = f (o + 5) := xupd_ne (by omega) (by omega)
  have e6 : ∀ i : Nat, i < 9 → upd f z.toNatClampNeg v (o + 6 + i) = f (o + 6 + i) := fun i hi => xupd_ne (by omega) (by omega)
  refine ⟨by rw [e5]; exact h1, fun i hi => by rw [e6 i hi]; exact h2 i hi, fun i j hij hj => ?_, fun i hi => ?_⟩
  · rw [e5] at hj
    rw [e6 i (by omega), e6 j (by omega)]
    exact h3 i j hij hj
  · rw [e5] at hi
    have hi9 : i < 9 := by omega
    have b := h2 i hi9
    rw [e6 i hi9]
    rcases h4 i hi with d | d
    · exact Or.inl d
    · right
      by_cases c : ((o + 15 + (f (o + 6 + i)).toInt.toNat : Nat) : Int) = z.toInt
      · rw [xupd_eq c]; exact hv
      · rw [xupd_ne (by omega) c]; exact d
theorem mi_zero {f : Nat → Int32} {o : Nat} (h : mi f o) {z v : Int32} (hz : (o : Int) + 15 ≤ z.toInt ∧ z.toInt < (o : Int) + 24) (hv : v.toInt = 0) : mi (upd f z.toNatClampNeg v) o := mq_zero h hz hv
/-- one who is called something is called something else -/
theorem mi_set {f : Nat → Int32} {o : Nat} (h : mi f o) {z v : Int32} (hz : (o : Int) + 15 ≤ z.toInt ∧ z.toInt < (o : Int) + 24) (hn : ¬ (f z.toNatClampNeg).toInt = 0) : mi (upd f z.toNatClampNeg v) o := by
  obtain ⟨h1, h2, h3, h4⟩ := h
  have e5 : upd f z.toNatClampNeg v (o + 5) = f (o + 5) := xupd_ne (by omega) (by omega)
  have e6 : ∀ i : Nat, i < 9 → upd f z.toNatClampNeg v (o + 6 + i) = f (o + 6 + i) := fun i hi => xupd_ne (by omega) (by omega)
  refine ⟨by rw [e5]; exact h1, fun i hi => by rw [e6 i hi]; exact h2 i hi, fun i j hij hj => ?_, fun i hi => ?_⟩
  · rw [e5] at hj
    rw [e6 i (by omega), e6 j (by omega)]
    exact h3 i j hij hj
  · rw [e5] at hi
    have hi9 : i < 9 := by omega
    have b := h2 i hi9
    rw [e6 i hi9]
    rcases h4 i hi with d | d
    · omega
    · right
      by_cases c : ((o + 15 + (f (o + 6 + i)).toInt.toNat : Nat) : Int) = z.toInt
      · rw [xat (f := f) c] at hn
        exact absurd d hn
      · rw [xupd_ne (by omega) c]; exact d
theorem nq_of {f : Nat → Int32} {o : Nat} (h : mi f o) {z : Int32} {q : Int} (hz : z.toInt = (o : Int) + 15 + q) (hq : 0 ≤ q) (hn : ¬ (f z.toNatClampNeg).toInt = 0) : nq f o q := by
  obtain ⟨h1, h2, h3, h4⟩ := h
  intro i hi c
  have b := h2 i (by omega)
  rcases h4 i hi with d | d
  · omega
  · have c2 : ((o + 15 + (f (o + 6 + i)).toInt.toNat : Nat) : Int) = z.toInt := by omega
    rw [xat (f := f) c2] at hn
    exact hn d
theorem nq_out {f : Nat → Int32} {o : Nat} {q : Int} (hn : nq f o q) (hw : (f (o + 5)).toInt ≤ 9) {i v : Int32} (h0 : 0 ≤ i.toInt) (h9 : i.toInt < (o : Int) + 5 ∨ (o : Int) + 15 ≤ i.toInt) : nq (upd f i.toNatClampNeg v) o q := by
  intro k hk
  rw [xupd_ne h0 (by omega)] at hk
  rw [xupd_ne h0 (by omega)]
  exact hn k hk
theorem mq_room {f : Nat → Int32} {o : Nat} {q : Int} (h : mi f o) (hn : nq f o q) (hq : 0 ≤ q ∧ q ≤ 8) : (f (o + 5)).toInt ≤ 8 := by
  obtain ⟨h1, h2, h3, h4⟩ := h
  have hh := fb_holes 9 ((f (o + 5)).toInt.toNat + 1) (fun i => if i < (f (o + 5)).toInt.toNat then (f (o + 6 + i)).toInt.toNat else q.toNat) (by
    intro i hi
    by_cases c : i < (f (o + 5)).toInt.toNat
    · simp only [if_pos c]
      have b := h2 i (by omega)
      omega
    · simp only [if_neg c]
      omega) (by
    intro i j hij hj
    have c : i < (f (o + 5)).toInt.toNat := by omega
    have b := h2 i (by omega)
    simp only [if_pos c]
    by_cases d : j < (f (o + 5)).toInt.toNat
    · simp only [if_pos d]
      have b2 := h2 j (by omega)
      have b3 := h3 i j hij (by omega)
      omega
    · simp only [if_neg d]
      have b4 := hn i (by omega)
      omega)
  omega
/-- one more waits, behind all -/
theorem mi_waits {f f1 f2 : Nat → Int32} {o : Nat} (h : mi f o) {q a b v : Int32} (hn : nq f o q.toInt) (hq : 0 ≤ q.toInt ∧ q.toInt ≤ 8) {z : Int32} (hz : z.toInt = (o : Int) + 15 + q.toInt) (hc : (f z.toNatClampNeg).toInt = 0) (ha : a.toInt = (o : Int) + 6 + (f (o + 5)).toInt) (hb : b.toInt = (o : Int) + 5) (e1 : f1 = upd f a.toNatClampNeg q) (e2 : f2 = upd f1 b.toNatClampNeg v) (hv : v.toInt = (f (o + 5)).toInt + 1) : mi f2 o := by
  have hr := mq_room h hn hq
  obtain ⟨h1, h2, h3, h4⟩ := h
  have e5 : f2 (o + 5) = v := by rw [e2]; exact xupd_eq (by omega)
  have eo : ∀ n : Nat, ¬ (n : Int) = a.toInt → ¬ (n : Int) = b.toInt → f2 n = f n := fun n c1 c2 => by
    rw [e2, xupd_ne (by omega) c2, e1, xupd_ne (by omega) c1]
  have ea : ∀ n : Nat, (n : Int) = a.toInt → f2 n = q := fun n c => by
    rw [e2, xupd_ne (by omega) (by omega), e1, xupd_eq c]
  have e6 : ∀ i : Nat, (i : Int) < (f (o + 5)).toInt → f2 (o + 6 + i) = f (o + 6 + i) := fun i hi => eo _ (by omega) (by omega)
  have el : ∀ i : Nat, (i : Int) = (f (o + 5)).toInt → f2 (o + 6 + i) = q := fun i hi => ea _ (by omega)
  refine ⟨by rw [e5, hv]; omega, fun i hi => ?_, fun i j hij hj => ?_, fun i hi => ?_⟩
  · by_cases c : (i : Int) = (f (o + 5)).toInt
    · rw [el i c]; exact hq
    · rw [eo _ (by omega) (by omega)]; exact h2 i hi
  · rw [e5, hv] at hj
    rw [e6 i (by omega)]
    by_cases c : (j : Int) = (f (o + 5)).toInt
    · rw [el j c]; exact hn i (by omega)
    · rw [e6 j (by omega)]; exact h3 i j hij (by omega)
  · rw [e5, hv] at hi
    right
    by_cases c : (i : Int) = (f (o + 5)).toInt
    · rw [el i c, eo _ (by omega) (by omega), ← xat (f := f) (i := z) (n := o + 15 + q.toInt.toNat) (by omega)]
      exact hc
    · rw [e6 i (by omega)]
      have b1 := h2 i (by omega)
      rw [eo _ (by omega) (by omega)]
      rcases h4 i (by omega) with d | d
      · omega
      · exact d
/-- while one leaves: the rows from k on have moved up to i -/
def lvs (f g : Nat → Int32) (o : Nat) (k i : Int) : Prop := (g (o + 5)).toInt = (f (o + 5)).toInt - 1 ∧ (∀ n : Nat, n < o + 5 ∨ o + 15 ≤ n → g n = f n) ∧ (∀ j : Nat, j < 9 → g (o + 6 + j) = if k ≤ (j : Int) ∧ (j : Int) < i then f (o + 6 + (j + 1)) else f (o + 6 + j))
theorem lvs_0 {f : Nat → Int32} {o : Nat} {k : Int} {b v : Int32} (hb : b.toInt = (o : Int) + 5) (hv : v.toInt = (f (o + 5)).toInt - 1) : lvs f (upd f b.toNatClampNeg v) o k k := by
  refine ⟨by rw [xupd_eq (by omega)]; exact hv, fun n hn => xupd_ne (by omega) (by omega), fun j hj => ?_⟩
  rw [if_neg (by omega), xupd_ne (by omega) (by omega)]
theorem lvs_s {f g : Nat → Int32} {o : Nat} {k i : Int} (h : lvs f g o k i) {a c : Int32} (hk : 0 ≤ k ∧ k ≤ i) (hi : i < 8) (ha : a.toInt = (o : Int) + 6 + i) (hc : c.toInt = (o : Int) + 6 + i + 1) : lvs f (upd g a.toNatClampNeg (g c.toNatClampNeg)) o k (i + 1) := by
  obtain ⟨h1, h2, h3⟩ := h
  refine ⟨by rw [xupd_ne (by omega) (by omega)]; exact h1, fun n hn => by rw [xupd_ne (by omega) (by omega)]; exact h2 n hn, fun j hj => ?_⟩
  by_cases e : (j : Int) = i
  · rw [xupd_eq (by omega), if_pos (by omega), xat (f := g) (i := c) (n := o + 6 + (j + 1)) (by omega), h3 (j + 1) (by omega), if_neg (by omega)]
  · rw [xupd_ne (by omega) (by omega), h3 j hj]
    by_cases d : k ≤ (j : Int) ∧ (j : Int) < i
    · rw [if_pos d, if_pos (by omega)]
    · rw [if_neg d, if_neg (by omega)]
theorem mi_leaves {f g : Nat → Int32} {o : Nat} {k q : Int} (h : mq f o q) (hk : 0 ≤ k ∧ k < (f (o + 5)).toInt) (hr : ∀ n : Nat, (n : Int) = (o : Int) + 6 + k → (f n).toInt = q) (hl : lvs f g o k ((f (o + 5)).toInt - 1)) {a v : Int32} (ha : a.toInt = (o : Int) + 6 + ((f (o + 5)).toInt - 1)) (hv : v.toInt = 0) : mi (upd g a.toNatClampNeg v) o ∧ (∀ x : Int, nq f o x → nq (upd g a.toNatClampNeg v) o x) := by
  obtain ⟨h1, h2, h3, h4⟩ := h
  obtain ⟨l1, l2, l3⟩ := hl
  have e5 : (upd g a.toNatClampNeg v (o + 5)).toInt = (f (o + 5)).toInt - 1 := by rw [xupd_ne (by omega) (by omega)]; exact l1
  have el : ∀ j : Nat, (j : Int) < (f (o + 5)).toInt - 1 → ∃ m : Nat, (m : Int) < (f (o + 5)).toInt ∧ ¬ (m : Int) = k ∧ (m = if k ≤ (j : Int) then j + 1 else j) ∧ upd g a.toNatClampNeg v (o + 6 + j) = f (o + 6 + m) := fun j hj => by
    rw [xupd_ne (by omega) (by omega), l3 j (by omega)]
    by_cases d : k ≤ (j : Int)
    · exact ⟨j + 1, by omega, by omega, by rw [if_pos d], by rw [if_pos ⟨d, hj⟩]⟩
    · exact ⟨j, by omega, by omega, by rw [if_neg d], by rw [if_neg (by omega)]⟩
  refine ⟨⟨by rw [e5]; omega, fun i hi => ?_, fun i j hij hj => ?_, fun i hi => ?_⟩, fun x hx i hi => ?_⟩
  · by_cases c : ((o + 6 + i : Nat) : Int) = a.toInt
    · rw [xupd_eq c, hv]; omega
    · rw [xupd_ne (by omega) c, l3 i hi]
      by_cases d : k ≤ (i : Int) ∧ (i : Int) < (f (o + 5)).toInt - 1
      · rw [if_pos d]; exact h2 (i + 1) (by omega)
      · rw [if_neg d]; exact h2 i hi
  · rw [e5] at hj
    obtain ⟨m1, a1, a2, a3, a4⟩ := el i (by omega)
    obtain ⟨m2, b1, b2, b3, b4⟩ := el j hj
    rw [a4, b4]
    refine h3 m1 m2 ?_ b1
    rw [a3, b3]
    split <;> split <;> omega
  · rw [e5] at hi
    obtain ⟨m1, a1, a2, a3, a4⟩ := el i hi
    right
    rw [a4]
    have b := h2 m1 (by omega)
    rw [xupd_ne (by omega) (by omega), l2 _ (by omega)]
    rcases h4 m1 a1 with c | c
    · exfalso
      have r1 := hr (o + 6 + k.toNat) (by omega)
      rcases Nat.lt_or_ge m1 k.toNat with d | d
      · exact h3 m1 k.toNat d (by omega) (by rw [c, r1])
      · exact h3 k.toNat m1 (by omega) a1 (by rw [c, r1])
    · exact c
  · rw [e5] at hi
    obtain ⟨m1, a1, a2, a3, a4⟩ := el i hi
    rw [a4]
    exact hx m1 a1
/-! the same at the place of the state itself -/
theorem ws_room {f : Nat → Int32} {q : Int} (h : mi f 146) (hn : nq f 146 q) (hq : 0 ≤ q ∧ q ≤ 8) : (f 151).toInt ≤ 8 := mq_room h hn hq
theorem ws_waits {f f1 f2 : Nat → Int32} (h : mi f 146) {q a b v z : Int32} (hn : nq f 146 q.toInt) (hq : 0 ≤ q.toInt ∧ q.toInt ≤ 8) (hz : z.toInt = 161 + q.toInt) (hc : (f z.toNatClampNeg).toInt = 0) (ha : a.toInt = 152 + (f 151).toInt) (hb : b.toInt = 151) (e1 : f1 = upd f a.toNatClampNeg q) (e2 : f2 = upd f1 b.toNatClampNeg v) (hv : v.toInt = (f 151).toInt + 1) : mi f2 146 :=
  mi_waits h hn hq (by omega) hc (show a.toInt = ((146 : Nat) : Int) + 6 + (f 151).toInt by omega) (by omega) e1 e2 hv
theorem ws_called {f : Nat → Int32} (h : mi f 146) {z v : Int32} {q : Int} (hz : z.toInt = 161 + q) (hq : 0 ≤ q ∧ q ≤ 8) : mq (upd f z.toNatClampNeg v) 146 q := mq_called h (by omega) hq
theorem ws_zero {f : Nat → Int32} {q : Int} (h : mq f 146 q) {z v : Int32} (hz : 161 ≤ z.toInt ∧ z.toInt ≤ 169) (hv : v.toInt = 0) : mq (upd f z.toNatClampNeg v) 146 q := mq_zero h (by omega) hv
theorem ws_set {f : Nat → Int32} (h : mi f 146) {z v : Int32} (hz : 161 ≤ z.toInt ∧ z.toInt ≤ 169) (hn : ¬ (f z.toNatClampNeg).toInt = 0) : mi (upd f z.toNatClampNeg v) 146 := mi_set h (by omega) hn
theorem ws_nq {f : Nat → Int32} (h : mi f 146) {z : Int32} {q : Int} (hz : z.toInt = 161 + q) (hq : 0 ≤ q) (hn : ¬ (f z.toNatClampNeg).toInt = 0) : nq f 146 q := nq_of h (by omega) hq hn
theorem ws_nqo {f : Nat → Int32} {q : Int} (hn : nq f 146 q) (hw : (f 151).toInt ≤ 9) {i v : Int32} (h0 : 0 ≤ i.toInt) (h9 : i.toInt < 151 ∨ 161 ≤ i.toInt) : nq (upd f i.toNatClampNeg v) 146 q := nq_out hn hw h0 (by omega)
theorem ws_nqn {f : Nat → Int32} {q : Int} {r : Int32} (h : nq f 146 q) : nq f 146 q := h
theorem xupd_neI {f : Nat → Int32} {i j v : Int32} (h0 : 0 ≤ i.toInt) (h1 : 0 ≤ j.toInt) (h : ¬ j.toInt = i.toInt) : upd f i.toNatClampNeg v j.toNatClampNeg = f j.toNatClampNeg := by
  have e : ¬ j.toNatClampNeg = i.toNatClampNeg := show ¬ j.toInt.toNat = i.toInt.toNat by omega
  exact if_neg e
theorem xupd_eqI {f : Nat → Int32} {i v : Int32} : upd f i.toNatClampNeg v i.toNatClampNeg = v := if_pos rfl
theorem mi_zero9 {f : Nat → Int32} (h : mi f 146) {z v : Int32} (hz : 161 ≤ z.toInt ∧ z.toInt ≤ 169) (hv : v.toInt = 0) : mi (upd f z.toNatClampNeg v) 146 := mi_zero h (by omega) hv
/-- a kept state at the place o: MONDAY, CALLED, the queue -/
def wn (f : Nat → Int32) (o : Nat) : Prop := (0 ≤ (f o).toInt ∧ (f o).toInt ≤ 200) ∧ (∀ i : Nat, i < 9 → 0 ≤ (f (o + 15 + i)).toInt ∧ (f (o + 15 + i)).toInt ≤ 9) ∧ mi f o
theorem wn_move {f g : Nat → Int32} {o o' : Nat} (h : wn f o) (e : ∀ k : Nat, k < 24 → g (o' + k) = f (o + k)) : wn g o' := by
  obtain ⟨h1, h2, h3⟩ := h
  have e0 : g o' = f o := e 0 (by omega)
  refine ⟨by rw [e0]; exact h1, fun i hi => ?_, mi_move h3 (fun k _ hk => e k hk)⟩
  have e1 : g (o' + 15 + i) = f (o + 15 + i) := by
    rw [Nat.add_assoc, Nat.add_assoc]
    exact e (15 + i) (by omega)
  rw [e1]
  exact h2 i hi
theorem wn_of {f : Nat → Int32} (h1 : rg f 146 147 0 200) (h2 : rg f 161 170 0 9) (h3 : mi f 146) : wn f 146 :=
  ⟨h1 146 (by decide) (by decide), fun i hi => h2 (146 + 15 + i) (by omega) (by omega), h3⟩
theorem wn_mon {f : Nat → Int32} (h : wn f 146) : rg f 146 147 0 200 := fun j h1 h2 => by
  obtain rfl : j = 146 := by omega
  exact h.1
theorem wn_cal {f : Nat → Int32} (h : wn f 146) : rg f 161 170 0 9 := fun j h1 h2 => by
  have e : j = 146 + 15 + (j - 161) := by omega
  rw [e]
  exact h.2.1 (j - 161) (by omega)
theorem wn_wai {f : Nat → Int32} (h : wn f 146) : rg f 151 152 0 9 := fun j h1 h2 => by
  obtain rfl : j = 151 := by omega
  exact h.2.2.1
theorem wn_row {f : Nat → Int32} (h : wn f 146) : rg f 152 161 0 8 := fun j h1 h2 => by
  have e : j = 146 + 6 + (j - 152) := by omega
  rw [e]
  exact h.2.2.2.1 (j - 152) (by omega)
theorem wn_out {f : Nat → Int32} {o : Nat} (h : wn f o) {i v : Int32} (h0 : 0 ≤ i.toInt) (h9 : i.toInt < (o : Int) ∨ (o : Int) + 24 ≤ i.toInt) : wn (upd f i.toNatClampNeg v) o :=
  wn_move h (fun k hk => xupd_ne h0 (by omega))
/-- a loop that copies -/
theorem cp_0 {f h : Nat → Int32} {sp dp : Nat} {i : Int32} (hi : i.toInt = 0) : h = va_cpy f h sp dp i.toNatClampNeg := by
  have e : i.toNatClampNeg = 0 := show i.toInt.toNat = 0 by omega
  rw [e]
  funext j
  exact (pk_cpy_out (by omega)).symm
theorem cp_s {f g h : Nat → Int32} {sp dp : Nat} {i i' a v : Int32} (e : g = va_cpy f h sp dp i.toNatClampNeg) (h0 : 0 ≤ i.toInt) (hi : i'.toInt = i.toInt + 1) (ha : a.toInt = (dp : Int) + i.toInt) (hv : v = f (sp + i.toNatClampNeg)) : upd g a.toNatClampNeg v = va_cpy f h sp dp i'.toNatClampNeg := by
  have e1 : i'.toNatClampNeg = i.toNatClampNeg + 1 := show i'.toInt.toNat = i.toInt.toNat + 1 by omega
  have e2 : a.toNatClampNeg = dp + i.toNatClampNeg := show a.toInt.toNat = dp + i.toInt.toNat by omega
  rw [e1, e2, hv, e]
  funext j
  unfold upd
  by_cases c : j = dp + i.toNatClampNeg
  · rw [if_pos c, pk_cpy_in (by omega) (by omega)]
    congr 1
    omega
  · rw [if_neg c]
    by_cases d : dp ≤ j ∧ j < dp + i.toNatClampNeg
    · rw [pk_cpy_in d.1 d.2, pk_cpy_in (by omega) (by omega)]
    · rw [pk_cpy_out (by omega), pk_cpy_out (by omega)]
theorem wn_cpy {f h : Nat → Int32} {sp dp n o o' : Nat} (hw : wn f o) (h1 : sp ≤ o) (h2 : o + 24 ≤ sp + n) (h3 : o' + sp = o + dp) : wn (va_cpy f h sp dp n) o' :=
  wn_move hw (fun k hk => by
    rw [pk_cpy_in (by omega) (by omega)]
    congr 1
    omega)
theorem wn_cpyo {f h : Nat → Int32} {sp dp n o : Nat} (hw : wn h o) (h1 : o + 24 ≤ dp ∨ dp + n ≤ o) : wn (va_cpy f h sp dp n) o :=
  wn_move hw (fun k hk => pk_cpy_out (by omega))
theorem rg_cpyo {f h : Nat → Int32} {sp dp n a b : Nat} {lo hi : Int} (hw : rg h a b lo hi) (h1 : b ≤ dp ∨ dp + n ≤ a) : rg (va_cpy f h sp dp n) a b lo hi := fun j h2 h3 => by
  rw [pk_cpy_out (by omega)]
  exact hw j h2 h3
theorem rg_cpyi {f h : Nat → Int32} {sp dp n a b a' b' : Nat} {lo hi : Int} (hw : rg f a b lo hi) (h1 : sp ≤ a) (h2 : b ≤ sp + n) (h3 : a' + sp = a + dp) (h4 : b' + sp = b + dp) : rg (va_cpy f h sp dp n) a' b' lo hi := fun j h5 h6 => by
  rw [pk_cpy_in (by omega) (by omega)]
  exact hw _ (by omega) (by omega)
theorem xixN {f : Nat → Int32} {z i : Int32} {k : Nat} (h : z.toInt = (k : Int) + i.toInt) (h0 : 0 ≤ i.toInt) : f z.toNatClampNeg = f (k + i.toNatClampNeg) := by
  have e : z.toNatClampNeg = k + i.toNatClampNeg := show z.toInt.toNat = k + i.toInt.toNat by omega
  rw [e]
theorem cp_self {g F : Nat → Int32} {sp : Nat} {i z : Int32} (e : g = va_cpy F F sp 0 i.toNatClampNeg) (h0 : 0 ≤ i.toInt) (hz : z.toInt = (sp : Int) + i.toInt) : g z.toNatClampNeg = F (sp + i.toNatClampNeg) := by
  have e1 : z.toNatClampNeg = sp + i.toNatClampNeg := show z.toInt.toNat = sp + i.toInt.toNat by omega
  rw [e, e1]
  exact pk_cpy_out (by omega)
theorem xcl {i : Int32} {n : Nat} (h : i.toInt = (n : Int)) : i.toNatClampNeg = n := show i.toInt.toNat = n by omega
/-- a kept TOWN at the place o -/
def tn (f : Nat → Int32) (o : Nat) : Prop := rg f o (o + 2) 0 9 ∧ rg f (o + 38) (o + 56) 0 9
theorem tn_of {f : Nat → Int32} (h1 : rg f 0 1 0 9) (h2 : rg f 1 2 0 9) (h3 : rg f 38 47 0 9) (h4 : rg f 47 56 0 9) : tn f 0 :=
  ⟨fun j a b => by
    rcases Nat.lt_or_ge j 1 with c | c
    · exact h1 j a c
    · exact h2 j c (by omega), fun j a b => by
    rcases Nat.lt_or_ge j 47 with c | c
    · exact h3 j (by omega) c
    · exact h4 j c (by omega)⟩
theorem tn_move {f g : Nat → Int32} {o o' : Nat} (h : tn f o) (e : ∀ k : Nat, k < 56 → g (o' + k) = f (o + k)) : tn g o' := by
  refine ⟨fun j a b => ?_, fun j a b => ?_⟩
  · have e1 := e (j - o') (by omega)
    rw [show o' + (j - o') = j by omega] at e1
    rw [e1]
    exact h.1 _ (by omega) (by omega)
  · have e1 := e (j - o') (by omega)
    rw [show o' + (j - o') = j by omega] at e1
    rw [e1]
    exact h.2 _ (by omega) (by omega)
theorem tn_cpy {f h : Nat → Int32} {sp dp n o o' : Nat} (hw : tn f o) (h1 : sp ≤ o) (h2 : o + 56 ≤ sp + n) (h3 : o' + sp = o + dp) : tn (va_cpy f h sp dp n) o' :=
  tn_move hw (fun k hk => by
    rw [pk_cpy_in (by omega) (by omega)]
    congr 1
    omega)
theorem tn_cpyo {f h : Nat → Int32} {sp dp n o : Nat} (hw : tn h o) (h1 : o + 56 ≤ dp ∨ dp + n ≤ o) : tn (va_cpy f h sp dp n) o :=
  tn_move hw (fun k hk => pk_cpy_out (by omega))
theorem tn_0 {f : Nat → Int32} (h : tn f 0) : rg f 0 1 0 9 := fun j a b => h.1 j (by omega) (by omega)
theorem tn_1 {f : Nat → Int32} (h : tn f 0) : rg f 1 2 0 9 := fun j a b => h.1 j (by omega) (by omega)
theorem tn_38 {f : Nat → Int32} (h : tn f 0) : rg f 38 47 0 9 := fun j a b => h.2 j (by omega) (by omega)
theorem tn_47 {f : Nat → Int32} (h : tn f 0) : rg f 47 56 0 9 := fun j a b => h.2 j (by omega) (by omega)
theorem bits_lt {v : Int32} (h : ¬ v.toInt = 0) : (v &&& (v - 1)).toBitVec.toNat < v.toBitVec.toNat := by
  have h0 : ¬ v.toBitVec.toNat = 0 := fun c => h (by
    have e : v = 0 := Int32.toBitVec_inj.mp (BitVec.eq_of_toNat_eq (by rw [c]; rfl))
    rw [e]; decide)
  have h1 : (v &&& (v - 1)).toBitVec.toNat ≤ (v - 1).toBitVec.toNat := by
    rw [Int32.toBitVec_and, BitVec.toNat_and]
    exact Nat.and_le_right
  have h2 : (v - 1).toBitVec.toNat = v.toBitVec.toNat - 1 := by
    rw [Int32.toBitVec_sub, BitVec.toNat_sub]
    have h3 : v.toBitVec.toNat < 2 ^ 32 := v.toBitVec.isLt
    have h4 : (1 : Int32).toBitVec.toNat = 1 := by decide
    rw [h4]
    omega
  omega
/-- the byte ahead -/
def pk (f : Nat → Int32) (p n : Int32) : Int32 := if p.toInt < n.toInt then f p.toNatClampNeg &&& 255 else -1
theorem mi_w0 {f : Nat → Int32} (h : (f 151).toInt = 0) (hr : rg f 152 161 0 8) : mi f 146 :=
  ⟨show 0 ≤ (f 151).toInt ∧ (f 151).toInt ≤ 9 by omega, fun i hi => hr (146 + 6 + i) (by omega) (by omega), fun i j _ hj => by
    have h2 : (j : Int) < (f 151).toInt := hj
    omega, fun i hi => by
    have h2 : (i : Int) < (f 151).toInt := hi
    omega⟩
theorem nq_w0 {f : Nat → Int32} (h : (f 151).toInt = 0) (x : Int) : nq f 146 x := fun i hi => by
  have h2 : (i : Int) < (f 151).toInt := hi
  omega
theorem nq_waits {f f1 f2 : Nat → Int32} {q a b v : Int32} {x : Int} (hn : nq f 146 x) (hx : ¬ x = q.toInt) (ha : a.toInt = 152 + (f 151).toInt) (hb : b.toInt = 151) (e1 : f1 = upd f a.toNatClampNeg q) (e2 : f2 = upd f1 b.toNatClampNeg v) (hv : v.toInt = (f 151).toInt + 1 ∧ 0 ≤ (f 151).toInt) : nq f2 146 x := by
  intro i hi
  have e5 : f2 151 = v := by rw [e2]; exact xupd_eq (by omega)
  have hi2 : (i : Int) < (f2 151).toInt := hi
  rw [e5] at hi2
  by_cases c : (i : Int) = (f 151).toInt
  · rw [e2, xupd_ne (by omega) (by omega), e1, xupd_eq (by omega)]
    exact fun d => hx d.symm
  · rw [e2, xupd_ne (by omega) (by omega), e1, xupd_ne (by omega) (by omega)]
    exact hn i (show (i : Int) < (f 151).toInt by omega)
/-- q's wish can come true, or it has none -/
def cb (f : Nat → Int32) (q : Int32) : Prop := (((f 147) >>> (q &&& 31)) &&& 1).toInt = 1 ∨ (f (47 + q).toNatClampNeg).toInt ≤ 0 ∨ ∃ j : Nat, (j : Int) < (f 1).toInt ∧ (f (161 + j)).toInt = (f (47 + q).toNatClampNeg).toInt
theorem seen_all : ∀ k : Fin 512, ∀ o : Fin 9, ¬ (((nI k.val) >>> ((nI o.val) &&& 31)) &&& 1).toInt = 1 → (nI k.val).toInt < ((nI k.val) ||| (1 <<< ((nI o.val) &&& 31))).toInt ∧ ((nI k.val) ||| (1 <<< ((nI o.val) &&& 31))).toInt < 512 := by decide +kernel
theorem seen_up {s o : Int32} (hs : 0 ≤ s.toInt ∧ s.toInt ≤ 511) (ho : 0 ≤ o.toInt ∧ o.toInt ≤ 8) (hb : ¬ ((s >>> (o &&& 31)) &&& 1).toInt = 1) : s.toInt < (s ||| (1 <<< (o &&& 31))).toInt ∧ (s ||| (1 <<< (o &&& 31))).toInt < 512 := by
  obtain ⟨i, hi, ei⟩ := nI_of (x := s) (xn0 hs.1)
  obtain ⟨j, hj, ej⟩ := nI_of (x := o) (xn0 ho.1)
  have h6 := nI_toInt hi
  have h7 := nI_toInt hj
  rw [ei] at hs
  rw [ej] at ho
  rw [ei, ej] at hb ⊢
  exact seen_all ⟨i, by omega⟩ ⟨j, by omega⟩ hb
/-- a ROLL's rows: three places a LINE -/
def rr (f : Nat → Int32) (n : Int) : Prop := ∀ j : Nat, (j : Int) < n → 0 ≤ (f (3 * j)).toInt ∧ (f (3 * j)).toInt ≤ 6 ∧ ((f (3 * j)).toInt = 6 ∨ 0 ≤ (f (3 * j + 1)).toInt ∧ (f (3 * j + 1)).toInt ≤ 8) ∧ (3 ≤ (f (3 * j)).toInt ∨ 0 ≤ (f (3 * j + 2)).toInt ∧ (f (3 * j + 2)).toInt ≤ 8)
theorem rr_at {f : Nat → Int32} {n : Int} (h : rr f n) {i : Int32} (h0 : 0 ≤ i.toInt ∧ i.toInt ≤ 39) (h1 : i.toInt < n) : 0 ≤ (f (3 * i).toNatClampNeg).toInt ∧ (f (3 * i).toNatClampNeg).toInt ≤ 6 ∧ ((f (3 * i).toNatClampNeg).toInt = 6 ∨ 0 ≤ (f ((3 * i) + 1).toNatClampNeg).toInt ∧ (f ((3 * i) + 1).toNatClampNeg).toInt ≤ 8) ∧ (3 ≤ (f (3 * i).toNatClampNeg).toInt ∨ 0 ≤ (f ((3 * i) + 2).toNatClampNeg).toInt ∧ (f ((3 * i) + 2).toNatClampNeg).toInt ≤ 8) := by
  have q0 : (3 * i).toInt = 3 * i.toInt := xmul (by decide) rfl (by omega) (by omega)
  have q1 : ((3 * i) + 1).toInt = 3 * i.toInt + 1 := xadd q0 (by decide) (by omega) (by omega)
  have q2 : ((3 * i) + 2).toInt = 3 * i.toInt + 2 := xadd q0 (by decide) (by omega) (by omega)
  rw [xat (f := f) (i := 3 * i) (n := 3 * i.toInt.toNat) (by omega), xat (f := f) (i := (3 * i) + 1) (n := 3 * i.toInt.toNat + 1) (by omega), xat (f := f) (i := (3 * i) + 2) (n := 3 * i.toInt.toNat + 2) (by omega)]
  exact h _ (by omega)
theorem rr_new {f g : Nat → Int32} {t i0 i1 i2 : Int32} (h : rr f t.toInt) (h0 : 0 ≤ t.toInt) (e : ∀ j : Nat, (j : Int) < 3 * t.toInt → g j = f j) (q0 : i0.toInt = 3 * t.toInt) (q1 : i1.toInt = 3 * t.toInt + 1) (q2 : i2.toInt = 3 * t.toInt + 2) (hv : 0 ≤ (g i0.toNatClampNeg).toInt ∧ (g i0.toNatClampNeg).toInt ≤ 6 ∧ ((g i0.toNatClampNeg).toInt = 6 ∨ 0 ≤ (g i1.toNatClampNeg).toInt ∧ (g i1.toNatClampNeg).toInt ≤ 8) ∧ (3 ≤ (g i0.toNatClampNeg).toInt ∨ 0 ≤ (g i2.toNatClampNeg).toInt ∧ (g i2.toNatClampNeg).toInt ≤ 8)) : rr g (t.toInt + 1) := by
  intro j hj
  by_cases c : (j : Int) = t.toInt
  · rw [xat (f := g) (i := i0) (n := 3 * j) (by omega), xat (f := g) (i := i1) (n := 3 * j + 1) (by omega), xat (f := g) (i := i2) (n := 3 * j + 2) (by omega)] at hv
    exact hv
  · rw [e (3 * j) (by omega), e (3 * j + 1) (by omega), e (3 * j + 2) (by omega)]
    exact h j (by omega)
/-! a SENTENCE as it is read: the height of what its code leaves, the joining words on the stack -/
def hg (f : Nat → Int32) : Nat → Int
  | 0 => 0
  | i + 1 => hg f i + (if (f (3 * i)).toInt = 20 then 0 else if (f (3 * i)).toInt = 21 ∨ (f (3 * i)).toInt = 22 then -1 else 1)
def okc (f : Nat → Int32) (n : Nat) : Prop := ∀ i : Nat, i < n → ((f (3 * i)).toInt = 20 → 1 ≤ hg f i) ∧ ((f (3 * i)).toInt = 21 ∨ (f (3 * i)).toInt = 22 → 2 ≤ hg f i)
def nb (g : Nat → Int32) : Nat → Int
  | 0 => 0
  | i + 1 => nb g i + (if (g i).toInt = 21 ∨ (g i).toInt = 22 then 1 else 0)
def sj (f g : Nat → Int32) (c t : Int32) (w : Int) : Prop := okc f c.toInt.toNat ∧ hg f c.toInt.toNat = nb g t.toInt.toNat + w
theorem hg_cong {f f' : Nat → Int32} : ∀ n : Nat, (∀ j : Nat, j < 3 * n → f' j = f j) → hg f' n = hg f n
  | 0, _ => rfl
  | n + 1, h => by
    show hg f' n + _ = hg f n + _
    rw [hg_cong n (fun j hj => h j (by omega)), h (3 * n) (by omega)]
theorem okc_cong {f f' : Nat → Int32} {n : Nat} (h : ∀ j : Nat, j < 3 * n → f' j = f j) (ho : okc f n) : okc f' n := fun i hi => by
  rw [hg_cong i (fun j hj => h j (by omega)), h (3 * i) (by omega)]
  exact ho i hi
theorem nb_cong {g g' : Nat → Int32} : ∀ n : Nat, (∀ j : Nat, j < n → g' j = g j) → nb g' n = nb g n
  | 0, _ => rfl
  | n + 1, h => by
    show nb g' n + _ = nb g n + _
    rw [nb_cong n (fun j hj => h j (by omega)), h n (by omega)]
theorem nb_nn (g : Nat → Int32) : ∀ n : Nat, 0 ≤ nb g n
  | 0 => Int.le_refl 0
  | n + 1 => by
    have h := nb_nn g n
    show 0 ≤ nb g n + _
    split <;> omega
theorem hg_le (f : Nat → Int32) : ∀ n : Nat, hg f n ≤ n
  | 0 => Int.le_refl 0
  | n + 1 => by
    have h := hg_le f n
    show hg f n + _ ≤ _
    split
    · omega
    · split <;> omega
theorem hg_nn {f : Nat → Int32} : ∀ n : Nat, okc f n → 0 ≤ hg f n
  | 0, _ => Int.le_refl 0
  | n + 1, h => by
    have h1 := hg_nn n (fun i hi => h i (by omega))
    have h2 := h n (by omega)
    show 0 ≤ hg f n + _
    split
    · omega
    · split
      · next c => have h3 := h2.2 c; omega
      · omega
/-- one more code: v at the place of c -/
theorem sj_step {f f' g : Nat → Int32} {c c' t t' z : Int32} {w w' : Int} (h : sj f g c t w) (h0 : 0 ≤ c.toInt) (hc : c'.toInt = c.toInt + 1) (hz : z.toInt = 3 * c.toInt) (hf : ∀ j : Nat, (j : Int) < 3 * c.toInt → f' j = f j) (v : Int) (hv : (f' z.toNatClampNeg).toInt = v) (ok : (v = 20 → 1 ≤ nb g t.toInt.toNat + w) ∧ (v = 21 ∨ v = 22 → 2 ≤ nb g t.toInt.toNat + w)) (hn : nb g t.toInt.toNat + w + (if v = 20 then 0 else if v = 21 ∨ v = 22 then -1 else 1) = nb g t'.toInt.toNat + w') : sj f' g c' t' w' := by
  have e : c'.toInt.toNat = c.toInt.toNat + 1 := by omega
  have hf2 : ∀ j : Nat, j < 3 * c.toInt.toNat → f' j = f j := fun j hj => hf j (by omega)
  have hv2 : (f' (3 * c.toInt.toNat)).toInt = v := by rw [← xat (f := f') (i := z) (n := 3 * c.toInt.toNat) (by omega)]; exact hv
  have hh := hg_cong c.toInt.toNat hf2
  refine ⟨fun i hi => ?_, ?_⟩
  · rw [e] at hi
    by_cases d : i = c.toInt.toNat
    · rw [d, hv2, hh, h.2]; exact ok
    · exact okc_cong hf2 h.1 i (by omega)
  · rw [e]
    show hg f' c.toInt.toNat + _ = _
    rw [hv2, hh, h.2]
    exact hn
theorem sj_leaf {f f' g : Nat → Int32} {c c' t z : Int32} (h : sj f g c t 0) (h0 : 0 ≤ c.toInt) (hc : c'.toInt = c.toInt + 1) (hz : z.toInt = 3 * c.toInt) (hf : ∀ j : Nat, (j : Int) < 3 * c.toInt → f' j = f j) {v : Int} (hv : (f' z.toNatClampNeg).toInt = v) (hl : v < 20) : sj f' g c' t 1 :=
  sj_step h h0 hc hz hf v hv ⟨fun a => by omega, fun a => by omega⟩ (by rw [if_neg (by omega), if_neg (by omega)]; omega)
theorem nb_top {g : Nat → Int32} {t t' : Int32} (h : t'.toInt = t.toInt - 1) (h0 : 0 ≤ t'.toInt) : nb g t.toInt.toNat = nb g t'.toInt.toNat + (if (g t'.toNatClampNeg).toInt = 21 ∨ (g t'.toNatClampNeg).toInt = 22 then 1 else 0) := by
  have e : t.toInt.toNat = t'.toInt.toNat + 1 := by omega
  rw [e]
  rfl
theorem sj_not {f f' g : Nat → Int32} {c c' t t' z : Int32} (h : sj f g c t 1) (h0 : 0 ≤ c.toInt) (hc : c'.toInt = c.toInt + 1) (hz : z.toInt = 3 * c.toInt) (hf : ∀ j : Nat, (j : Int) < 3 * c.toInt → f' j = f j) (hv : (f' z.toNatClampNeg).toInt = 20) (ht : t'.toInt = t.toInt - 1) (ht0 : 0 ≤ t'.toInt) (hg' : (g t'.toNatClampNeg).toInt = 20) : sj f' g c' t' 1 := by
  have a := nb_top (g := g) ht ht0
  rw [if_neg (by omega)] at a
  have b := nb_nn g t'.toInt.toNat
  exact sj_step h h0 hc hz hf 20 hv ⟨fun _ => by omega, fun _ => by omega⟩ (by rw [if_pos rfl]; omega)
theorem sj_join {f f' g : Nat → Int32} {c c' t t' z : Int32} (h : sj f g c t 1) (h0 : 0 ≤ c.toInt) (hc : c'.toInt = c.toInt + 1) (hz : z.toInt = 3 * c.toInt) (hf : ∀ j : Nat, (j : Int) < 3 * c.toInt → f' j = f j) (hv : (f' z.toNatClampNeg).toInt = (g t'.toNatClampNeg).toInt) (ht : t'.toInt = t.toInt - 1) (ht0 : 0 ≤ t'.toInt) (hg' : (g t'.toNatClampNeg).toInt = 21 ∨ (g t'.toNatClampNeg).toInt = 22) : sj f' g c' t' 1 := by
  have a := nb_top (g := g) ht ht0
  rw [if_pos hg'] at a
  have b := nb_nn g t'.toInt.toNat
  exact sj_step h h0 hc hz hf _ hv ⟨fun _ => by omega, fun _ => by omega⟩ (by rw [if_neg (by omega), if_pos hg']; omega)
theorem sj_push {f g g' : Nat → Int32} {c t t' v : Int32} {w w' : Int} (h : sj f g c t w) (h0 : 0 ≤ t.toInt) (ht : t'.toInt = t.toInt + 1) (eg : g' = upd g t.toNatClampNeg v) (hw : w = w' + (if v.toInt = 21 ∨ v.toInt = 22 then 1 else 0)) : sj f g' c t' w' := by
  have e : t'.toInt.toNat = t.toInt.toNat + 1 := by omega
  have e1 : nb g' t.toInt.toNat = nb g t.toInt.toNat := nb_cong _ (fun j hj => by rw [eg]; exact xupd_ne h0 (by omega))
  have e2 : g' t.toInt.toNat = v := by rw [eg]; exact if_pos rfl
  refine ⟨h.1, ?_⟩
  rw [e]
  show _ = nb g' t.toInt.toNat + _ + w'
  rw [e1, e2, h.2, hw]
  omega
theorem sj_pop {f g : Nat → Int32} {c t t' : Int32} {w : Int} (h : sj f g c t w) (ht : t'.toInt = t.toInt - 1) (ht0 : 0 ≤ t'.toInt) (hg' : ¬ (g t'.toNatClampNeg).toInt = 21 ∧ ¬ (g t'.toNatClampNeg).toInt = 22) : sj f g c t' w := by
  have a := nb_top (g := g) ht ht0
  rw [if_neg (by omega)] at a
  exact ⟨h.1, by rw [h.2]; omega⟩
theorem sj_0 {f g : Nat → Int32} {c t : Int32} (hc : c.toInt = 0) (ht : t.toInt = 0) : sj f g c t 0 := by
  have e1 : c.toInt.toNat = 0 := by omega
  have e2 : t.toInt.toNat = 0 := by omega
  unfold sj
  rw [e1, e2]
  exact ⟨fun i hi => absurd hi (Nat.not_lt_zero i), rfl⟩
/-- a SENTENCE in a state at the place o -/
def cw (f : Nat → Int32) (o : Nat) : Prop := okc (fun j => f (o + 2007 + j)) (f (o + 2006)).toInt.toNat ∧ (f (o + 2006)).toInt ≤ 45
theorem cw_move {f g : Nat → Int32} {o o' : Nat} (h : cw f o) (e : ∀ k : Nat, 2006 ≤ k → k < 2187 → g (o' + k) = f (o + k)) : cw g o' := by
  have e0 : g (o' + 2006) = f (o + 2006) := e 2006 (by omega) (by omega)
  have h2 := h.2
  refine ⟨?_, by rw [e0]; exact h.2⟩
  rw [e0]
  refine okc_cong (fun j hj => ?_) h.1
  show g (o' + 2007 + j) = f (o + 2007 + j)
  rw [Nat.add_assoc, Nat.add_assoc]
  exact e (2007 + j) (by omega) (by omega)
theorem cw_out {f : Nat → Int32} {o : Nat} (h : cw f o) {i v : Int32} (h0 : 0 ≤ i.toInt) (h9 : i.toInt < (o : Int) + 2006 ∨ (o : Int) + 2187 ≤ i.toInt) : cw (upd f i.toNatClampNeg v) o :=
  cw_move h (fun k h1 h2 => xupd_ne h0 (by omega))
theorem cw_cpy {f h : Nat → Int32} {sp dp n o o' : Nat} (hw : cw f o) (h1 : sp ≤ o + 2006) (h2 : o + 2187 ≤ sp + n) (h3 : o' + sp = o + dp) : cw (va_cpy f h sp dp n) o' :=
  cw_move hw (fun k hk1 hk2 => by
    rw [pk_cpy_in (by omega) (by omega)]
    congr 1
    omega)
theorem cw_cpyo {f h : Nat → Int32} {sp dp n o : Nat} (hw : cw h o) (h1 : o + 2187 ≤ dp ∨ dp + n ≤ o + 2006) : cw (va_cpy f h sp dp n) o :=
  cw_move hw (fun k hk1 hk2 => pk_cpy_out (by omega))
theorem cw_0 {f : Nat → Int32} {o : Nat} (h : (f (o + 2006)).toInt = 0) : cw f o := by
  refine ⟨fun i hi => ?_, by omega⟩
  rw [h] at hi
  exact absurd hi (Nat.not_lt_zero i)
