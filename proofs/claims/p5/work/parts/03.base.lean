/-! the tables' words that calls keep, the nest's words, and what every method of the claim is told at its start -/
def xg : List Cond := lw_tbl.filter goodWord
theorem xg_good : ∀ w ∈ xg, (w.onTables && w.keeps) = true ∨ ∃ ty, w = .arrayClass ty := fun _ h => good_of_word (List.mem_filter.mp h).2
theorem xg_in {w : Cond} (h : w ∈ lw_tbl) (g : goodWord w = true) : w ∈ xg := List.mem_filter.mpr ⟨h, g⟩
def xw (y : MethodName) (b : ByteArray) (n : Nat) (r : Option FieldType) : List Cond := .code y b n r :: xg
theorem xg_ok {y : MethodName} {b : ByteArray} {n : Nat} {r : Option FieldType} (h : Cond.code y b n r ∈ xg) : GoodIn xg (xw y b n r) := by
  intro w hw
  rcases List.mem_cons.mp hw with e | e
  · subst e
    exact ⟨h, xg_good _ h⟩
  · exact ⟨e, xg_good _ e⟩
def xisN : Cond → Bool
  | .fieldLinkNest .. => true
  | .methodLinkNest .. => true
  | .castable .. => true
  | _ => false
def xn : List Cond := lw_tbl.filter xisN
theorem xn_in {w : Cond} (h : w ∈ lw_tbl) (g : xisN w = true) : w ∈ xn := List.mem_filter.mpr ⟨h, g⟩
def xN (U : State) : Prop := ∀ w ∈ xn, va_Nw w U
theorem xN.warm {s U : State} (hW : s.WarmedH U.vm) (h : xN s) : xN U := by
  intro w hw
  have h1 := h w hw
  have h2 := (List.mem_filter.mp hw).2
  cases w <;> first | exact va_Nw.warmF hW h1 | exact va_Nw.warmM hW h1 | exact va_Nw.warmC hW h1 | (exact absurd h2 (by simp [xisN]))
theorem xN.same {u U : State} (hv : u.vm = U.vm) (h : xN u) : xN U := by
  intro w hw
  have h1 := h w hw
  have h2 := (List.mem_filter.mp hw).2
  cases w <;> first | exact va_Nw.same rfl hv h1 | (exact absurd h2 (by simp [xisN]))
abbrev xTy (T : Nat → ClassId) : List (ClassId × FieldType) := [(T 0, .byte), (T 1, .int), (T 2, .long), (T 3, .boolean), (T 4, .object "NamesAgain$Image"), (T 5, .object "NamesAgain$Life")]
def xK (D : va_G) (T : Nat → ClassId) (U : State) : Prop := va_K D vwCl (xTy T) U ∧ xN U ∧ va_AO "NamesAgain$Image" U ∧ va_AO "NamesAgain$Life" U
theorem xK.warm {D : va_G} {T : Nat → ClassId} {s U : State} (hW : s.WarmedH U.vm) (h : xK D T s) : xK D T U := ⟨va_K.moved hW.alike h.1, xN.warm hW h.2.1, h.2.2.1.moved hW.alike, h.2.2.2.moved hW.alike⟩
theorem xK.same {D : va_G} {T : Nat → ClassId} {u U : State} (hv : u.vm = U.vm) (h : xK D T u) : xK D T U := ⟨va_K.moved (by rw [hv]; exact Vm.Alike.refl U.vm) h.1, xN.same hv h.2.1, h.2.2.1.moved (by rw [hv]; exact Vm.Alike.refl U.vm), h.2.2.2.moved (by rw [hv]; exact Vm.Alike.refl U.vm)⟩
/-- a method's start: its arguments, the heap's size, its cells -/
def xP (D : va_G) (T : Nat → ClassId) (av : List Value) (sz : Nat) (ws : va_W) : Array Value → State → Prop := va_Pc av (fun U => U.heap.size = sz ∧ va_P D vwCl ws U.heap ∧ xK D T U ∧ va_D (fun _ => True) ws)
theorem xP_blind {D : va_G} {T : Nat → ClassId} {av : List Value} {sz : Nat} {ws : va_W} : FrameBlind (xP D T av sz ws) := fun a U g mk q => by
  obtain ⟨q0, q1, qP, qK, qD⟩ := q
  exact ⟨q0, q1, qP, xK.same (u := U) (U := U.calling g mk a) rfl qK, qD⟩
theorem xpreS {D : va_G} {T : Nat → ClassId} {As : List Value} {ws : va_W} {s : State} {H : Heap} {A : Nat → Prop} (hK : xK D T s) (hP : va_P D vwCl ws H) (hD : va_D A ws) : PreS s H (xP D T As H.size ws) As :=
  ⟨xP_blind, fun U hU hW => ⟨rfl, by rw [hU], by rw [hU]; exact hP, hK.warm hW, hD.weaken (fun _ _ _ _ => trivial)⟩⟩
theorem xpreV {D : va_G} {T : Nat → ClassId} {As : List Value} {ws : va_W} {s : State} {H : Heap} {A : Nat → Prop} {C : String} {b : Addr} (hK : xK D T s) (hP : va_P D vwCl ws H) (hD : va_D A ws) (hr : ∃ cell : Cell, H[b]? = some cell ∧ cell.vm.isStatics = false ∧ s.vm.findClass C = some cell.cls) : PreV s H C b (xP D T (.ref b :: As) H.size ws) As :=
  ⟨xP_blind, hr, fun U hU hW => ⟨rfl, by rw [hU], by rw [hU]; exact hP, hK.warm hW, hD.weaken (fun _ _ _ _ => trivial)⟩⟩
/-- behind a method: its cells, the new ones at addresses b, contents fi fl, numbers vi that may be any, but as G says -/
def xB (D : va_G) (A : Nat → Prop) (G : (Nat → Int32) → Prop) (F : (Nat → Nat) → (Nat → Nat → Int32) → (Nat → Nat → Int64) → (Nat → Int32) → va_W) (_ : Unit) (t : State) : Prop :=
  ∃ (b : Nat → Nat) (fi : Nat → Nat → Int32) (fl : Nat → Nat → Int64) (vi : Nat → Int32), va_P D vwCl (F b fi fl vi) t.heap ∧ va_D A (F b fi fl vi) ∧ G vi
theorem xu0 (k : Nat) : upd (fun _ => 0) k 0 = fun _ => 0 := by
  funext j
  simp [upd]
theorem xuL0 (k : Nat) : vp_updL (fun _ => 0) k 0 = fun _ => 0 := by
  funext j
  simp [vp_updL]
theorem xc0 {α : Type} (z : α) (a b c : Nat) : va_cpy (fun _ => z) (fun _ => z) a b c = fun _ => z := by
  funext j
  simp [va_cpy]
section XZ
variable {p : Program} {l : Launch} {e : Env} {R : Room} {s : State} {m : MethodId} {args : Array Value} {below : List Frame} {meth : Method} {c : Code} {H : Heap} {locs : List Loc} {cells slots : Nat} {Q : State → Prop} {pc : Nat} {ls : Array Slot} {rest : List Value}
theorem xz_i {x : Int32} (v : Int32) (h : x = v) (k : W p l e R s m args below meth c H locs cells slots Q (F0 m pc ls (.int v :: rest))) : W p l e R s m args below meth c H locs cells slots Q (F0 m pc ls (.int x :: rest)) := h ▸ k
theorem xz_l {x : Int64} (v : Int64) (h : x = v) (k : W p l e R s m args below meth c H locs cells slots Q (F0 m pc ls (.long v :: rest))) : W p l e R s m args below meth c H locs cells slots Q (F0 m pc ls (.long x :: rest)) := h ▸ k
theorem xz_v {x : Value} (v : Value) (h : x = v) (k : W p l e R s m args below meth c H locs cells slots Q (F0 m pc ls (v :: rest))) : W p l e R s m args below meth c H locs cells slots Q (F0 m pc ls (x :: rest)) := h ▸ k
end XZ
theorem xlt {x v : Int32} {k : Int} (hk : v.toInt = k) (h : x < v) : x.toInt < k := hk ▸ Int32.lt_iff_toInt_lt.mp h
theorem xle {x v : Int32} {k : Int} (hk : v.toInt = k) (h : x ≤ v) : x.toInt ≤ k := hk ▸ Int32.le_iff_toInt_le.mp h
theorem xgt {x v : Int32} {k : Int} (hk : v.toInt = k) (h : v < x) : k < x.toInt := hk ▸ Int32.lt_iff_toInt_lt.mp h
theorem xge {x v : Int32} {k : Int} (hk : v.toInt = k) (h : v ≤ x) : k ≤ x.toInt := hk ▸ Int32.le_iff_toInt_le.mp h
theorem xnlt {x v : Int32} {k : Int} (hk : v.toInt = k) (h : ¬ x < v) : k ≤ x.toInt := by
  have := mt Int32.lt_iff_toInt_lt.mpr h
  omega
theorem xnle {x v : Int32} {k : Int} (hk : v.toInt = k) (h : ¬ x ≤ v) : k < x.toInt := by
  have := mt Int32.le_iff_toInt_le.mpr h
  omega
theorem xngt {x v : Int32} {k : Int} (hk : v.toInt = k) (h : ¬ v < x) : x.toInt ≤ k := by
  have := mt Int32.lt_iff_toInt_lt.mpr h
  omega
theorem xnge {x v : Int32} {k : Int} (hk : v.toInt = k) (h : ¬ v ≤ x) : x.toInt < k := by
  have := mt Int32.le_iff_toInt_le.mpr h
  omega
theorem xeq {x v : Int32} {k : Int} (hk : v.toInt = k) (h : x = v) : x.toInt = k := by rw [h, hk]
theorem xne {x v : Int32} {k : Int} (hk : v.toInt = k) (h : ¬ x = v) : ¬ x.toInt = k := fun q => h (Int32.toInt_inj.mp (q.trans hk.symm))
theorem xRA_eq {U : State} {c1 c2 : ClassId} {ty : FieldType} (h1 : va_RA U c1 ty) (h2 : va_RA U c2 ty) : c1 = c2 := by
  cases ty with
  | object C =>
    obtain ⟨_, _, _, _, _, a⟩ := h1
    obtain ⟨_, _, _, _, _, b⟩ := h2
    exact Option.some.inj (a.symm.trans b)
  | _ => exact Option.some.inj ((show U.vm.findClass _ = some c1 from h1).symm.trans (show U.vm.findClass _ = some c2 from h2))
abbrev xa (l : List Nat) : Nat → Nat := fun k => l.getD k 0
abbrev xf (l : List (Nat → Int32)) : Nat → Nat → Int32 := fun k => l.getD k (fun _ => 0)
abbrev xh (l : List (Nat → Int64)) : Nat → Nat → Int64 := fun k => l.getD k (fun _ => 0)
abbrev xv (l : List Int32) : Nat → Int32 := fun k => l.getD k 0
abbrev xo (l : List (Option Nat)) : Nat → Option Nat := fun k => l.getD k none
theorem xo_none (n : Nat) : (fun _ : Nat => (none : Option Nat)) = xo (List.replicate n none) := by
  funext j
  simp only [List.getD, List.getElem?_replicate]
  split <;> rfl
theorem xo_set {l : List (Option Nat)} {k v : Nat} (h : k < l.length) : va_up (xo l) k (some v) = xo (l.set k (some v)) := by
  funext j
  by_cases e : j = k
  · subst e
    simp [va_up, List.getD, h]
  · have e2 : ¬ k = j := fun q => e q.symm
    simp [va_up, List.getD, e, e2, List.getElem?_set]
theorem xofW {l : Launch} {y : MethodName} {ws ws' : List Cond} {rm : Room} {Pc : Array Value → State → Prop} {Qc : Array Value → State → Outcome → State → Prop} {mc ms : Nat} {free : Addr → Prop} {cc : ByteArray} {maxL : Nat} {ret : Option FieldType}
    (hy : plainName y.cls = true) (hw : ws = Cond.code y cc maxL ret :: ws')
    (body : ∀ p e s m args below meth c s₁ (R : Room) (Q : State → Prop), R = rm → Q = MQ below Qc args s mc ms free → BodyLoose p l y (headSpec ws rm) cc maxL ret e s m args below meth c s₁ → c.maxLocals = maxL → Pc args s →
      W p l e R s m args below meth c s.heap [] 0 0 Q (entryFrame m args maxL)) : Met l y ws rm Pc Qc mc ms free :=
  Met.ofW hy hw (fun p e s m args below meth c s₁ B hml hv => body p e s m args below meth c s₁ _ _ rfl rfl B hml hv)
/-- the reference's state where nothing but the place 146 isn't 0 -/
def xm (v : Int32) : Nat → Int32 := upd (fun _ => 0) 146 v
theorem xm_0 : (fun _ : Nat => (0 : Int32)) = xm (nI 0) := by
  funext j
  simp [xm, upd, nI_0]
theorem xm_at (v : Int32) : xm v (146 : Int32).toNatClampNeg = v := by
  unfold xm upd
  exact if_pos (by decide)
theorem xm_ne {v : Int32} {k : Nat} (h : k ≠ 146) : xm v k = 0 := if_neg h
theorem xm_neN {v : Int32} {n : Nat} (h : n < 2 ^ 31) (h2 : n ≠ 146) : xm v (nI n).toNatClampNeg = 0 := by
  rw [nI_clamp h]
  exact xm_ne h2
theorem xm_up (v w : Int32) : upd (xm v) (146 : Int32).toNatClampNeg w = xm w := by
  rw [show (146 : Int32).toNatClampNeg = 146 by decide]
  funext j
  simp only [xm, upd]
  split <;> rfl
theorem xm_up0 {v : Int32} {k : Nat} (h : k ≠ 146) : upd (xm v) k 0 = xm v := by
  funext j
  simp only [xm, upd]
  split
  · next e => rw [if_neg (by omega)]
  · rfl
theorem xm_up0N {v : Int32} {n : Nat} (h : n < 2 ^ 31) (h2 : n ≠ 146) : upd (xm v) (nI n).toNatClampNeg 0 = xm v := by
  rw [nI_clamp h]
  exact xm_up0 h2
theorem xaddc {x v : Int32} {k : Int} (hk : v.toInt = k) (h1 : -2147483648 ≤ x.toInt + k) (h2 : x.toInt + k < 2147483648) : (x + v).toInt = x.toInt + k := by
  rw [Int32.toInt_add, hk]
  exact Int.bmod_eq_of_le (by omega) (by omega)
/-! the String constants: their places, texts and bytes -/
def sTab : List (String × Nat × String × Nat) := [("NamesAgain$Tape", 19, "name debt feast soul called wish worth old ", 43), ("NamesAgain$Tape", 25, "takes swaps sells dies hangs flees pays monday ", 47), ("NamesAgain$Tape", 27, "or and not alive waits fled glad purse owes feasts number ", 58), ("NamesAgain$TownReader", 45, "name", 4), ("NamesAgain$TownReader", 54, "debt", 4), ("NamesAgain$TownReader", 67, "feast", 5), ("NamesAgain$TownReader", 72, "soul", 4), ("NamesAgain$TownReader", 126, "called", 6), ("NamesAgain$TownReader", 77, "wish", 4), ("NamesAgain$TownReader", 82, "worth", 5), ("NamesAgain$TownReader", 87, "old", 3), ("NamesAgain$Roll", 50, "monday", 6), ("NamesAgain$Roll", 89, "takes", 5), ("NamesAgain$Roll", 97, "swaps", 5), ("NamesAgain$Roll", 99, "sells", 5), ("NamesAgain$Roll", 101, "dies", 4), ("NamesAgain$Roll", 103, "hangs", 5), ("NamesAgain$Roll", 105, "flees", 5), ("NamesAgain$Roll", 107, "pays", 4), ("NamesAgain$Sentence", 96, "alive", 5), ("NamesAgain$Sentence", 98, "waits", 5), ("NamesAgain$Sentence", 100, "called", 6), ("NamesAgain$Sentence", 102, "fled", 4), ("NamesAgain$Sentence", 104, "glad", 4), ("NamesAgain$Sentence", 106, "purse", 5), ("NamesAgain$Sentence", 108, "owes", 4), ("NamesAgain$Sentence", 110, "feasts", 6), ("NamesAgain$Sentence", 112, "number", 6), ("NamesAgain$Sentence", 84, "not", 3), ("NamesAgain$Sentence", 78, "and", 3), ("NamesAgain$Sentence", 62, "or", 2)]
def sBy : List (List Int32) := [[110, 97, 109, 101, 32, 100, 101, 98, 116, 32, 102, 101, 97, 115, 116, 32, 115, 111, 117, 108, 32, 99, 97, 108, 108, 101, 100, 32, 119, 105, 115, 104, 32, 119, 111, 114, 116, 104, 32, 111, 108, 100, 32], [116, 97, 107, 101, 115, 32, 115, 119, 97, 112, 115, 32, 115, 101, 108, 108, 115, 32, 100, 105, 101, 115, 32, 104, 97, 110, 103, 115, 32, 102, 108, 101, 101, 115, 32, 112, 97, 121, 115, 32, 109, 111, 110, 100, 97, 121, 32], [111, 114, 32, 97, 110, 100, 32, 110, 111, 116, 32, 97, 108, 105, 118, 101, 32, 119, 97, 105, 116, 115, 32, 102, 108, 101, 100, 32, 103, 108, 97, 100, 32, 112, 117, 114, 115, 101, 32, 111, 119, 101, 115, 32, 102, 101, 97, 115, 116, 115, 32, 110, 117, 109, 98, 101, 114, 32], [110, 97, 109, 101], [100, 101, 98, 116], [102, 101, 97, 115, 116], [115, 111, 117, 108], [99, 97, 108, 108, 101, 100], [119, 105, 115, 104], [119, 111, 114, 116, 104], [111, 108, 100], [109, 111, 110, 100, 97, 121], [116, 97, 107, 101, 115], [115, 119, 97, 112, 115], [115, 101, 108, 108, 115], [100, 105, 101, 115], [104, 97, 110, 103, 115], [102, 108, 101, 101, 115], [112, 97, 121, 115], [97, 108, 105, 118, 101], [119, 97, 105, 116, 115], [99, 97, 108, 108, 101, 100], [102, 108, 101, 100], [103, 108, 97, 100], [112, 117, 114, 115, 101], [111, 119, 101, 115], [102, 101, 97, 115, 116, 115], [110, 117, 109, 98, 101, 114], [110, 111, 116], [97, 110, 100], [111, 114]]
abbrev sAt (j : Nat) : String × Nat × String × Nat := sTab.getD j ("", 0, "", 0)
def xT (kK kV : Nat → Nat) (A : Nat → Prop) (U : State) (H : Heap) : Prop :=
  (∀ j, j < 31 → vk_R (sAt j).1 (sAt j).2.1 (sAt j).2.2.1 (kK j) U) ∧
  (∀ j, j < 31 → va_O "java/lang/String" (kK j) A U H ∧ va_OF "java/lang/String" "coder" "B" (.int 0) (kK j) A U H ∧ va_OF "java/lang/String" "value" "[B" (.ref (kV j)) (kK j) A U H ∧ va_T .byte (kV j) (sAt j).2.2.2 (fun i => .int ((sBy.getD j []).getD i 0)) A U H) ∧
  va_Z "java/lang/String" "COMPACT_STRINGS" "Z" (.int 1) A U H ∧
  (va_Z "jdk/internal/util/Preconditions" "SIOOBE_FORMATTER" "Ljava/util/function/BiFunction;" .null A U H ∨ ∃ z : Nat, va_Z "jdk/internal/util/Preconditions" "SIOOBE_FORMATTER" "Ljava/util/function/BiFunction;" (.ref z) A U H)
theorem xT.move {kK kV : Nat → Nat} {A B : Nat → Prop} {s U : State} {H H1 : Heap} (hR : ∀ j, j < 31 → vk_R (sAt j).1 (sAt j).2.1 (sAt j).2.2.1 (kK j) U) (hvm : s.vm.Alike U.vm) (hq : ∀ a : Nat, a < H.size → ¬ A a → H1[a]? = H[a]?) (hAB : ∀ q, B q → A q) (h : xT kK kV A s H) : xT kK kV B U H1 := by
  obtain ⟨h1, h2, h3, h4⟩ := h
  refine ⟨hR, fun j hj => ?_, ((h3.kept hq).narrow hAB).moved hvm, ?_⟩
  · obtain ⟨g1, g2, g3, g4⟩ := h2 j hj
    exact ⟨((g1.kept hq).narrow hAB).moved hvm, ((g2.kept hq).narrow hAB).moved hvm, ((g3.kept hq).narrow hAB).moved hvm, ((g4.kept hq).narrow hAB).moved hvm⟩
  · rcases h4 with g | ⟨z, g⟩
    · exact Or.inl (((g.kept hq).narrow hAB).moved hvm)
    · exact Or.inr ⟨z, ((g.kept hq).narrow hAB).moved hvm⟩
theorem xT.warm {kK kV : Nat → Nat} {A B : Nat → Prop} {s U : State} {H H1 : Heap} (hW : s.WarmedH U.vm) (hq : ∀ a : Nat, a < H.size → ¬ A a → H1[a]? = H[a]?) (hAB : ∀ q, B q → A q) (h : xT kK kV A s H) : xT kK kV B U H1 :=
  xT.move (fun j hj => (h.1 j hj).warm hW) hW.alike hq hAB h
theorem xT.recv {kK kV : Nat → Nat} {A : Nat → Prop} {s : State} {H : Heap} {locs : List Loc} (h : xT kK kV A s s.heap) (j : Nat) (hj : j < 31) (hS : va_S A s.heap H locs) : ∃ cell : Cell, H[kK j]? = some cell ∧ cell.vm.isStatics = false ∧ s.vm.findClass "java/lang/String" = some cell.cls := by
  obtain ⟨cell, h1, h2, h3, -⟩ := (h.2.1 j hj).1.kept hS.2.1
  exact ⟨cell, h1, h2, h3⟩
/-- a start where the String constants are there too -/
def xPs (D : va_G) (T : Nat → ClassId) (kK kV : Nat → Nat) (av : List Value) (sz : Nat) (ws : va_W) : Array Value → State → Prop := va_Pc av (fun U => U.heap.size = sz ∧ va_P D vwCl ws U.heap ∧ xK D T U ∧ va_D (fun _ => True) ws ∧ xT kK kV (va_A ws sz) U U.heap)
theorem xPs_blind {D : va_G} {T : Nat → ClassId} {kK kV : Nat → Nat} {av : List Value} {sz : Nat} {ws : va_W} : FrameBlind (xPs D T kK kV av sz ws) := fun a U g mk q => by
  obtain ⟨q0, q1, qP, qK, qD, qT⟩ := q
  exact ⟨q0, q1, qP, xK.same (u := U) (U := U.calling g mk a) rfl qK, qD, xT.move (s := U) (U := U.calling g mk a) (fun j hj => (qT.1 j hj).same rfl) (Vm.Alike.refl U.vm) (fun _ _ _ => rfl) (fun _ h => h) qT⟩
theorem xpreSs {D : va_G} {T : Nat → ClassId} {kK kV : Nat → Nat} {As : List Value} {ws : va_W} {s : State} {H : Heap} {A B : Nat → Prop} {locs : List Loc} (hK : xK D T s) (hP : va_P D vwCl ws H) (hD : va_D B ws) (hT : xT kK kV A s s.heap) (hF : ∀ q, va_A ws H.size q → A q) (hS : va_S A s.heap H locs) : PreS s H (xPs D T kK kV As H.size ws) As :=
  ⟨xPs_blind, fun U hU hW => ⟨rfl, by rw [hU], by rw [hU]; exact hP, hK.warm hW, hD.weaken (fun _ _ _ _ => trivial), by rw [hU]; exact xT.warm hW hS.2.1 hF hT⟩⟩
theorem xpreVs {D : va_G} {T : Nat → ClassId} {kK kV : Nat → Nat} {As : List Value} {ws : va_W} {s : State} {H : Heap} {A B : Nat → Prop} {locs : List Loc} {C : String} {b : Addr} (hK : xK D T s) (hP : va_P D vwCl ws H) (hD : va_D B ws) (hT : xT kK kV A s s.heap) (hF : ∀ q, va_A ws H.size q → A q) (hS : va_S A s.heap H locs) (hr : ∃ cell : Cell, H[b]? = some cell ∧ cell.vm.isStatics = false ∧ s.vm.findClass C = some cell.cls) : PreV s H C b (xPs D T kK kV (.ref b :: As) H.size ws) As :=
  ⟨xPs_blind, hr, fun U hU hW => ⟨rfl, by rw [hU], by rw [hU]; exact hP, hK.warm hW, hD.weaken (fun _ _ _ _ => trivial), by rw [hU]; exact xT.warm hW hS.2.1 hF hT⟩⟩
