/-! any state: ranges of numbers and of contents, what a contract says behind a method -/
def rg (f : Nat → Int32) (a b : Nat) (lo hi : Int) : Prop := ∀ j : Nat, a ≤ j → j < b → lo ≤ (f j).toInt ∧ (f j).toInt ≤ hi
theorem rg_at {f : Nat → Int32} {a b : Nat} {lo hi : Int} (h : rg f a b lo hi) {i : Int32} (h1 : (a : Int) ≤ i.toInt) (h2 : i.toInt < (b : Int)) : lo ≤ (f i.toNatClampNeg).toInt ∧ (f i.toNatClampNeg).toInt ≤ hi :=
  h _ (show a ≤ i.toInt.toNat by omega) (show i.toInt.toNat < b by omega)
theorem rg_upd {f : Nat → Int32} {a b : Nat} {lo hi : Int} (h : rg f a b lo hi) {k : Nat} {v : Int32} (hv : lo ≤ v.toInt ∧ v.toInt ≤ hi) : rg (upd f k v) a b lo hi := by
  intro j h1 h2
  unfold upd
  split
  · exact hv
  · exact h j h1 h2
theorem rg_out {f : Nat → Int32} {a b : Nat} {lo hi : Int} (h : rg f a b lo hi) {i v : Int32} (h0 : 0 ≤ i.toInt) (h9 : i.toInt < (a : Int) ∨ (b : Int) ≤ i.toInt) : rg (upd f i.toNatClampNeg v) a b lo hi := by
  intro j h1 h2
  unfold upd
  have e9 : ¬ j = i.toNatClampNeg := show ¬ j = i.toInt.toNat by omega
  rw [if_neg e9]
  exact h j h1 h2
theorem rg_eq {f g : Nat → Int32} {b : Nat} {lo hi : Int} (he : ∀ j : Nat, j < b → g j = f j) (h : rg f 0 b lo hi) : rg g 0 b lo hi := by
  intro j h1 h2
  rw [he j h2]
  exact h j h1 h2
theorem rg_cpy {f g : Nat → Int32} {N : Nat} {lo hi : Int} (hf : rg f 0 N lo hi) (hg : rg g 0 N lo hi) {sp dp n : Int32} (h1 : 0 ≤ sp.toInt) (h2 : 0 ≤ dp.toInt) (h3 : 0 ≤ n.toInt) (h4 : sp.toInt + n.toInt ≤ (N : Int)) : rg (va_cpy f g sp.toNatClampNeg dp.toNatClampNeg n.toNatClampNeg) 0 N lo hi := by
  intro j _ h6
  have e1 : sp.toNatClampNeg = sp.toInt.toNat := rfl
  have e2 : dp.toNatClampNeg = dp.toInt.toNat := rfl
  have e3 : n.toNatClampNeg = n.toInt.toNat := rfl
  by_cases c : dp.toNatClampNeg ≤ j ∧ j < dp.toNatClampNeg + n.toNatClampNeg
  · rw [pk_cpy_in c.1 c.2]
    exact hf _ (Nat.zero_le _) (by omega)
  · rw [pk_cpy_out (by omega)]
    exact hg j (Nat.zero_le _) h6
theorem xrng (x : Int32) : -2147483648 ≤ x.toInt ∧ x.toInt < 2147483648 := ⟨Int32.le_toInt x, Int32.toInt_lt x⟩
theorem xadd {x y : Int32} {a b : Int} (hx : x.toInt = a) (hy : y.toInt = b) (h1 : -2147483648 ≤ a + b) (h2 : a + b < 2147483648) : (x + y).toInt = a + b := by
  rw [Int32.toInt_add, hx, hy]
  exact Int.bmod_eq_of_le (by omega) (by omega)
theorem xsub {x y : Int32} {a b : Int} (hx : x.toInt = a) (hy : y.toInt = b) (h1 : -2147483648 ≤ a - b) (h2 : a - b < 2147483648) : (x - y).toInt = a - b := by
  rw [Int32.toInt_sub, hx, hy]
  exact Int.bmod_eq_of_le (by omega) (by omega)
theorem xmul {x y : Int32} {a b : Int} (hx : x.toInt = a) (hy : y.toInt = b) (h1 : -2147483648 ≤ a * b) (h2 : a * b < 2147483648) : (x * y).toInt = a * b := by
  rw [Int32.toInt_mul, hx, hy]
  exact Int.bmod_eq_of_le (by omega) (by omega)
theorem xnz {y : Int32} (h : ¬ y.toInt = 0) : ¬ y = 0 := fun q => h (by rw [q]; decide)
theorem xn0 {y : Int32} (h : 0 ≤ y.toInt) : ¬ y < 0 := fun q => by
  have h9 := Int32.lt_iff_toInt_lt.mp q
  have h8 : (0 : Int32).toInt = 0 := by decide
  omega
theorem xne2 {x y : Int32} (h : ¬ x = y) : ¬ x.toInt = y.toInt := fun q => h (Int32.toInt_inj.mp q)
theorem xtoi {x v : Int32} {k : Int} (hk : v.toInt = k) (h : x.toInt = k) : x = v := Int32.toInt_inj.mp (h.trans hk.symm)
theorem xcl2 {x y : Int32} {N : Nat} (h1 : 0 ≤ x.toInt) (h2 : 0 ≤ y.toInt) (h3 : x.toInt + y.toInt ≤ (N : Int)) : x.toNatClampNeg + y.toNatClampNeg ≤ N := by
  show x.toInt.toNat + y.toInt.toNat ≤ N
  omega
theorem xi2b (x : Int32) : -128 ≤ x.toInt8.toInt32.toInt ∧ x.toInt8.toInt32.toInt ≤ 127 := by
  have h := Int8.le_toInt x.toInt8
  have h2 := Int8.toInt_lt x.toInt8
  rw [Int8.toInt_toInt32]
  exact ⟨h, by omega⟩
theorem xandk (x : Int32) {m : Int32} (k : Nat) (hm : m.toBitVec.toNat = 2 ^ k - 1) (hk : k ≤ 30) : 0 ≤ (x &&& m).toInt ∧ (x &&& m).toInt < (2 ^ k : Nat) := vp_in_iff.mp (pk_andIn x k hm hk)
theorem xand1 (x : Int32) : 0 ≤ (x &&& 1).toInt ∧ (x &&& 1).toInt ≤ 1 := by
  have h := xandk x (m := 1) 1 (by decide) (by decide)
  omega
theorem xand15 (x : Int32) : 0 ≤ (x &&& 15).toInt ∧ (x &&& 15).toInt ≤ 15 := by
  have h := xandk x (m := 15) 4 (by decide) (by decide)
  omega
theorem xand255 (x : Int32) : 0 ≤ (x &&& 255).toInt ∧ (x &&& 255).toInt ≤ 255 := by
  have h := xandk x (m := 255) 8 (by decide) (by decide)
  omega
theorem xush8 (x : Int32) : 0 ≤ ((x.toUInt32 >>> ((8 : Int32).toUInt32 &&& Int32.toUInt32 31)).toInt32).toInt ∧ ((x.toUInt32 >>> ((8 : Int32).toUInt32 &&& Int32.toUInt32 31)).toInt32).toInt ≤ 16777215 := by
  have h := pk_ushr x 8 8 (by decide)
  obtain ⟨z, hz⟩ : ∃ z, z = (x.toUInt32 >>> ((8 : Int32).toUInt32 &&& Int32.toUInt32 31)).toInt32 := ⟨_, rfl⟩
  rw [← hz] at h ⊢
  have h2 : x.toBitVec.toNat < 2 ^ 32 := x.toBitVec.isLt
  have h3 : z.toInt = (z.toBitVec.toNat : Int) := by
    show z.toBitVec.toInt = _
    rw [BitVec.toInt_eq_toNat_of_lt (by omega)]
  omega
theorem xremN {x y : Int32} {b : Int} (hy : y.toInt = b) (h1 : 0 ≤ x.toInt) (h2 : 0 < b) : (x - x / y * y).toInt = x.toInt % b := by
  have h3 := xrng x
  have h4 := xrng y
  obtain ⟨i, hi, ei⟩ := nI_of (x := x) (xn0 h1)
  obtain ⟨j, hj, ej⟩ := nI_of (x := y) (xn0 (by omega))
  have h6 := nI_toInt hi
  have h7 := nI_toInt hj
  rw [ej] at hy
  rw [ei, ej, pk_rem hi (by omega) hj, nI_toInt (Nat.lt_of_le_of_lt (Nat.mod_le _ _) hi), h6, ← hy, h7]
  rfl
theorem xrem {x y : Int32} {b : Int} (hy : y.toInt = b) (h1 : 0 ≤ x.toInt) (h2 : 0 < b) : 0 ≤ (x - x / y * y).toInt ∧ (x - x / y * y).toInt < b := by
  rw [xremN hy h1 h2]
  exact ⟨Int.emod_nonneg _ (by omega), Int.emod_lt_of_pos _ h2⟩
theorem xdivc {x y : Int32} {b : Int} (hy : y.toInt = b) (h2 : 0 < b) (h1 : 0 ≤ x.toInt) : 0 ≤ (x / y).toInt ∧ (x / y).toInt ≤ x.toInt := by
  have h4 := xrng y
  obtain ⟨i, hi, ei⟩ := nI_of (x := x) (xn0 h1)
  obtain ⟨j, hj, ej⟩ := nI_of (x := y) (xn0 (by omega))
  have h6 := nI_toInt hi
  have h7 := nI_toInt hj
  rw [ej] at hy
  have h8 := Nat.div_le_self i j
  rw [ei, ej, pk_div hi (by omega) hj, nI_toInt (Nat.lt_of_le_of_lt h8 hi), h6]
  exact ⟨Int.natCast_nonneg _, Int.ofNat_le.mpr h8⟩
theorem xmin {x y : Int32} {a b : Int} (hx : x.toInt = a) (hy : y.toInt = b) : (if y < x then y else x).toInt = min a b := by
  split
  · next h => have h9 := Int32.lt_iff_toInt_lt.mp h; omega
  · next h => have h9 := mt Int32.lt_iff_toInt_lt.mpr h; omega
theorem xmax {x y : Int32} {a b : Int} (hx : x.toInt = a) (hy : y.toInt = b) : (if x < y then y else x).toInt = max a b := by
  split
  · next h => have h9 := Int32.lt_iff_toInt_lt.mp h; omega
  · next h => have h9 := mt Int32.lt_iff_toInt_lt.mpr h; omega
abbrev xl (l : List Int64) : Nat → Int64 := fun k => l.getD k 0
/-- behind a method: its cells with new contents, as G says of them and of the answer r -/
def xC (D : va_G) (A : Nat → Prop) (F : (Nat → Nat → Int32) → (Nat → Nat → Int64) → (Nat → Int32) → (Nat → Int64) → va_W) (G : Int32 → (Nat → Nat → Int32) → (Nat → Nat → Int64) → (Nat → Int32) → (Nat → Int64) → Prop) (r : Int32) (t : State) : Prop :=
  ∃ (fi : Nat → Nat → Int32) (fl : Nat → Nat → Int64) (vi : Nat → Int32) (vl : Nat → Int64), va_P D vwCl (F fi fl vi vl) t.heap ∧ va_D A (F fi fl vi vl) ∧ G r fi fl vi vl
section XZ3
variable {p : Program} {l : Launch} {e : Env} {R : Room} {s : State} {m : MethodId} {args : Array Value} {below : List Frame} {meth : Method} {c : Code} {H : Heap} {locs : List Loc} {cells slots : Nat} {Q : State → Prop} {pc : Nat} {ls : Array Slot} {rest : List Value}
theorem xz_2i {x : Int32} (v : Int32) (h : x = v) (k : W p l e R s m args below meth c H locs cells slots Q (F0 m pc ls (.int v :: rest))) : W p l e R s m args below meth c H locs cells slots Q (F0 m pc ls (.int x :: rest)) := h ▸ k
end XZ3
/-! a callee's cells cut out of the world, in one -/
def xPD (D : va_G) (A : Nat → Prop) (ws : va_W) (H : Heap) : Prop := va_P D vwCl ws H ∧ va_D A ws
theorem xcut_fm {α β : Type} (f : α → Option β) : ∀ (is : List α) (w : List β), is.map f = w.map some → is.filterMap f = w := by
  intro is
  induction is with
  | nil => intro w h; cases w with
    | nil => rfl
    | cons x w => simp at h
  | cons i is ih => intro w h; cases w with
    | nil => simp at h
    | cons x w =>
      simp only [List.map_cons, List.cons.injEq] at h
      rw [List.filterMap_cons, h.1]
      show x :: List.filterMap f is = x :: w
      rw [ih w h.2]
theorem xcut {A0 : Nat → Prop} {D : va_G} {ws wc : va_W} {H0 H : Heap} {locs : List Loc} (hP : va_P D vwCl ws H) (hD : va_D A0 ws) (hS : va_S A0 H0 H locs) (hA : ∀ q, H0.size ≤ q → A0 q) (isC : List Nat) (hn : va_nd isC = true) (hC : isC.map (fun i => ws[i]?) = wc.map some) :
    isC.map (fun i => ws[i]?) = wc.map some ∧ va_P D vwCl wc H ∧ va_D A0 wc ∧ ∀ q, va_A wc H.size q → A0 q :=
  ⟨hC, hP.sub isC (xcut_fm _ _ _ hC), hD.sub isC hn hC, va_free hD hS hA isC hC⟩
