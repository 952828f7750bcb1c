/-! what both sides hold of the TOWN that was told: how many NAMES, SOULS, their WORDS, what NAMES are worth -/
theorem cpL_0 {f h : Nat → Int64} {sp dp : Nat} {i : Int32} (hi : i.toInt = 0) : h = va_cpy f h sp dp i.toNatClampNeg := by
  have e : i.toNatClampNeg = 0 := show i.toInt.toNat = 0 by omega
  rw [e]
  funext j
  exact (pk_cpy_out (by omega)).symm
theorem cpL_s {f g h : Nat → Int64} {sp dp : Nat} {i i' a : Int32} {v : Int64} (e : g = va_cpy f h sp dp i.toNatClampNeg) (h0 : 0 ≤ i.toInt) (hi : i'.toInt = i.toInt + 1) (ha : a.toInt = (dp : Int) + i.toInt) (hv : v = f (sp + i.toNatClampNeg)) : vp_updL g a.toNatClampNeg v = va_cpy f h sp dp i'.toNatClampNeg := by
  have e1 : i'.toNatClampNeg = i.toNatClampNeg + 1 := show i'.toInt.toNat = i.toInt.toNat + 1 by omega
  have e2 : a.toNatClampNeg = dp + i.toNatClampNeg := show a.toInt.toNat = dp + i.toInt.toNat by omega
  rw [e1, e2, hv, e]
  funext j
  unfold vp_updL
  by_cases c : j = dp + i.toNatClampNeg
  · rw [if_pos c, pk_cpy_in (by omega) (by omega)]
    congr 1
    omega
  · rw [if_neg c]
    by_cases c2 : dp ≤ j ∧ j < dp + i.toNatClampNeg
    · rw [pk_cpy_in c2.1 c2.2, pk_cpy_in c2.1 (by omega)]
    · rw [pk_cpy_out (by omega), pk_cpy_out (by omega)]
theorem xixL {f : Nat → Int64} {z i : Int32} {k : Nat} (h : z.toInt = (k : Int) + i.toInt) (h0 : 0 ≤ i.toInt) : f z.toNatClampNeg = f (k + i.toNatClampNeg) := by
  have e : z.toNatClampNeg = k + i.toNatClampNeg := show z.toInt.toNat = k + i.toInt.toNat by omega
  rw [e]
theorem cpL_self {g F : Nat → Int64} {sp : Nat} {i z : Int32} (e : g = va_cpy F F sp 0 i.toNatClampNeg) (h0 : 0 ≤ i.toInt) (hz : z.toInt = (sp : Int) + i.toInt) : g z.toNatClampNeg = F (sp + i.toNatClampNeg) := by
  have e1 : z.toNatClampNeg = sp + i.toNatClampNeg := show z.toInt.toNat = sp + i.toInt.toNat by omega
  rw [e, e1]
  exact pk_cpy_out (by omega)
theorem updL_o {f : Nat → Int64} {i : Int32} {v : Int64} {j k : Nat} (hk : (k : Int) ≤ i.toInt) (hj : j < k) : vp_updL f i.toNatClampNeg v j = f j := if_neg (fun c => by have e : i.toNatClampNeg = i.toInt.toNat := rfl; omega)
/-- a TOWN told is copied -/
def TQ (n' sl' : Int32) (nw' sw' : Nat → Int64) (wr' : Nat → Int32) (n sl : Int32) (nw sw : Nat → Int64) (wr : Nat → Int32) : Prop :=
  n' = n ∧ sl' = sl ∧ (∀ j : Nat, j < 9 → nw' j = nw j) ∧ (∀ j : Nat, j < 9 → sw' j = sw j) ∧ ∀ j : Nat, j < 81 → wr' j = wr j
theorem TQ_rf {n sl : Int32} {nw sw : Nat → Int64} {wr : Nat → Int32} : TQ n sl nw sw wr n sl nw sw wr := ⟨rfl, rfl, fun _ _ => rfl, fun _ _ => rfl, fun _ _ => rfl⟩
/-- the reference's copy of it -/
def SQ (s' s : Nat → Int32) (nm' nm : Nat → Int64) (o p : Nat) : Prop := (∀ j : Nat, j < 146 → s' j = s (o + j)) ∧ ∀ j : Nat, j < 18 → nm' j = nm (p + j)
theorem SQ_rf {s : Nat → Int32} {nm : Nat → Int64} : SQ s s nm nm 0 0 := ⟨fun _ _ => by rw [Nat.zero_add], fun _ _ => by rw [Nat.zero_add]⟩
def TT (n sl : Int32) (nw sw : Nat → Int64) (wr : Nat → Int32) (s : Nat → Int32) (o : Nat) (nm : Nat → Int64) (p : Nat) : Prop :=
  n.toInt = (s o).toInt ∧ sl.toInt = (s (o + 1)).toInt ∧ (∀ j : Nat, (j : Int) < n.toInt → nw j = nm (p + j)) ∧ (∀ j : Nat, (j : Int) < sl.toInt → sw j = nm (p + 9 + j)) ∧ ∀ k i : Nat, (k : Int) < sl.toInt → i < 9 → wr (9 * k + i) = s (o + 56 + 9 * k + i)
theorem TT_z (o p : Nat) : TT 0 0 (fun _ => 0) (fun _ => 0) (fun _ => 0) (fun _ => 0) o (fun _ => 0) p := ⟨rfl, rfl, fun _ _ => rfl, fun _ _ => rfl, fun _ _ _ _ => rfl⟩
/-- both are copied: from the places o, p to o', p' -/
theorem TT_cp {n sl n' sl' : Int32} {nw sw nw' sw' : Nat → Int64} {wr wr' s s' : Nat → Int32} {nm nm' : Nat → Int64} {o p o' p' : Nat} (h : TT n sl nw sw wr s o nm p) (hC : TQ n' sl' nw' sw' wr' n sl nw sw wr) (h9 : n.toInt ≤ 9 ∧ sl.toInt ≤ 9) (hs : ∀ j : Nat, j < 146 → s' (o' + j) = s (o + j)) (hn : ∀ j : Nat, j < 18 → nm' (p' + j) = nm (p + j)) : TT n' sl' nw' sw' wr' s' o' nm' p' := by
  obtain ⟨t1, t2, t3, t4, t5⟩ := h
  obtain ⟨c1, c2, c3, c4, c5⟩ := hC
  subst c1 c2
  have s0 := hs 0 (by omega)
  rw [Nat.add_zero, Nat.add_zero] at s0
  refine ⟨by rw [s0]; exact t1, by rw [hs 1 (by omega)]; exact t2, fun j hj => ?_, fun j hj => ?_, fun k i hk hi => ?_⟩
  · rw [c3 j (by omega), hn j (by omega)]
    exact t3 j hj
  · rw [c4 j (by omega), show p' + 9 + j = p' + (9 + j) by omega, hn (9 + j) (by omega), show p + (9 + j) = p + 9 + j by omega]
    exact t4 j hj
  · rw [c5 (9 * k + i) (by omega), show o' + 56 + 9 * k + i = o' + (56 + 9 * k + i) by omega, hs (56 + 9 * k + i) (by omega), show o + (56 + 9 * k + i) = o + 56 + 9 * k + i by omega]
    exact t5 k i hk hi
theorem TT_fr {n sl : Int32} {nw sw : Nat → Int64} {wr s s' : Nat → Int32} {nm : Nat → Int64} (h : TT n sl nw sw wr s 0 nm 0) (hs : ∀ j : Nat, j < 146 → s' j = s j) (h9 : n.toInt ≤ 9 ∧ sl.toInt ≤ 9) : TT n sl nw sw wr s' 0 nm 0 :=
  TT_cp h TQ_rf h9 (fun j hj => by rw [Nat.zero_add]; exact hs j hj) (fun _ _ => rfl)
/-- restored -/
theorem TT_re {n sl n' sl' : Int32} {nw sw nw' sw' : Nat → Int64} {wr wr' s s' : Nat → Int32} {nm nm' : Nat → Int64} {o p : Nat} (h : TT n sl nw sw wr s o nm p) (hC : TQ n' sl' nw' sw' wr' n sl nw sw wr) (hS : SQ s' s nm' nm o p) (h9 : n.toInt ≤ 9 ∧ sl.toInt ≤ 9) : TT n' sl' nw' sw' wr' s' 0 nm' 0 :=
  TT_cp h hC h9 (fun j hj => by rw [Nat.zero_add]; exact hS.1 j hj) (fun j hj => by rw [Nat.zero_add]; exact hS.2 j hj)
/-- what a text told -/
def TD (ow : Int64 → Bool) (n sl : Int32) (nw sw : Nat → Int64) (wr : Nat → Int32) (H : Nat → Int) (N : Nat → Int64) : Prop :=
  n.toInt = H 0 ∧ sl.toInt = H 1 ∧ H 0 ≤ 9 ∧ H 1 ≤ 9 ∧ (∀ j : Nat, (j : Int) < H 0 → nw j = N (18 + j)) ∧ (∀ j : Nat, (j : Int) < H 1 → sw j = N (27 + j)) ∧ (∀ k i : Nat, (k : Int) < H 1 → i < 9 → (wr (9 * k + i)).toInt = H (56 + 9 * k + i)) ∧ ∀ j : Nat, (j : Int) < H 1 → ow (sw j) = false
theorem TD_of {ow : Int64 → Bool} {n sl n' sl' : Int32} {nw sw nw' sw' : Nat → Int64} {fd ev fn wi ol wr wr' : Nat → Int32} {H : Nat → Int} {N : Nat → Int64} {O : Nat → Bool} (h : RC ow n sl nw sw fd ev fn wi ol wr H N O) (hC : TQ n' sl' nw' sw' wr' n sl nw sw wr) : TD ow n' sl' nw' sw' wr' H N := by
  obtain ⟨hW, hd, he, hf, hi, ho, hv, hz⟩ := h
  obtain ⟨⟨w1, w2, w3, w4, w5, w6⟩, w7, w8⟩ := hW
  obtain ⟨c1, c2, c3, c4, c5⟩ := hC
  subst c1 c2
  refine ⟨w1, w2, w4, w6, fun j hj => ?_, fun j hj => ?_, fun k i hk hi9 => ?_, fun j hj => ?_⟩
  · rw [c3 j (by omega)]
    exact (w7 j hj).1
  · rw [c4 j (by omega)]
    exact (w8 j hj).1
  · rw [c5 (9 * k + i) (by omega)]
    exact (hv k hk i hi9).1
  · rw [c4 j (by omega)]
    exact (w8 j hj).2
theorem town_tt {f g : Nat → Int32} {q q' nm nm' : Nat → Int64} {len len2 r r2 n sl n' sl' : Int32} {nw sw nw' sw' : Nat → Int64} {wr wr' s s' : Nat → Int32} (hl : len.toInt = len2.toInt) (h0 : 0 ≤ len.toInt ∧ len.toInt ≤ 940) (ht : tpe f g len.toInt) (ho : ∀ j : Nat, j < 27 → q j = q' j) (hT : TT n sl nw sw wr s 0 nm 0) (h9 : n.toInt ≤ 9 ∧ sl.toInt ≤ 9)
    (h1 : ∀ (m : Nat) (H0 : Nat → Int) (N0 : Nat → Int64), len.toInt = (m : Int) → m ≤ 940 → HZ H0 → r.toInt = (TL0 (trn f m) m (ownB q) H0 N0).1 ∧ (0 ≤ r.toInt → ∃ (L e : Int) (H : Nat → Int) (N : Nat → Int64), TL0 (trn f m) m (ownB q) H0 N0 = (L, e, H, N) ∧ TD (ownB q) n' sl' nw' sw' wr' H N) ∧ (r.toInt < 0 → TQ n' sl' nw' sw' wr' n sl nw sw wr))
    (h2 : ∃ H0 : Nat → Int, HZ H0 ∧ ∀ m : Nat, len2.toInt = (m : Int) → m ≤ 940 → r2.toInt = (TL0 (trn g m) m (ownB q') H0 nm).1 ∧ (0 ≤ r2.toInt → ∃ (L e : Int) (H : Nat → Int) (N : Nat → Int64), TL0 (trn g m) m (ownB q') H0 nm = (L, e, H, N) ∧ (∀ j : Nat, j < 146 → (s' j).toInt = H j) ∧ ∀ j : Nat, j < 18 → nm' j = N (18 + j)) ∧ (r2.toInt < 0 → SQ s' s nm' nm 0 0)) : r.toInt = r2.toInt ∧ TT n' sl' nw' sw' wr' s' 0 nm' 0 := by
  obtain ⟨H0, hz, h2⟩ := h2
  obtain ⟨a1, a2, a3⟩ := h1 len.toInt.toNat H0 nm (by omega) (by omega) hz
  obtain ⟨b1, b2, b3⟩ := h2 len.toInt.toNat (by omega) (by omega)
  rw [ownB_cong ho, trn_eq (f := f) (f' := g) (n := len.toInt.toNat) (fun j hj => ht j (by omega))] at a1 a2
  have er : r.toInt = r2.toInt := a1.trans b1.symm
  refine ⟨er, ?_⟩
  by_cases c : 0 ≤ r.toInt
  · obtain ⟨L, e, H, N, e1, d1, d2, d3, d4, d5, d6, d7, d8⟩ := a2 c
    obtain ⟨L', e', H', N', e2, g1, g2⟩ := b2 (by omega)
    have e3 := e1.symm.trans e2
    simp only [Prod.mk.injEq] at e3
    obtain ⟨_, _, e4, e5⟩ := e3
    subst e4 e5
    refine ⟨d1.trans (g1 0 (by omega)).symm, d2.trans (g1 1 (by omega)).symm, fun j hj => ?_, fun j hj => ?_, fun k i hk hi => ?_⟩
    · rw [d5 j (by omega), Nat.zero_add]
      exact (g2 j (by omega)).symm
    · rw [d6 j (by omega), show 0 + 9 + j = 9 + j by omega, g2 (9 + j) (by omega)]
      congr 1
      omega
    · apply Int32.toInt_inj.mp
      rw [d7 k i (by omega) hi, show 0 + 56 + 9 * k + i = 56 + 9 * k + i by omega, g1 (56 + 9 * k + i) (by omega)]
  · exact TT_re hT (a3 (by omega)) (b3 (by omega)) h9
/-- what a NAME is worth -/
theorem worth_eq {n sl : Int32} {nw sw : Nat → Int64} {wr s : Nat → Int32} {nm : Nat → Int64} {x y r r2 : Int32} (hT : TT n sl nw sw wr s 0 nm 0) (h9 : n.toInt ≤ 9 ∧ sl.toInt ≤ 9)
    (h1 : (0 ≤ x.toInt ∧ x.toInt < sl.toInt ∧ 0 ≤ y.toInt ∧ y.toInt < n.toInt ∧ r = wr (9 * x.toInt.toNat + y.toInt.toNat)) ∨ (¬ (0 ≤ x.toInt ∧ x.toInt < sl.toInt ∧ 0 ≤ y.toInt ∧ y.toInt < n.toInt) ∧ r.toInt = -1))
    (h2 : (0 ≤ x.toInt ∧ x.toInt < (s 1).toInt ∧ 0 ≤ y.toInt ∧ y.toInt < (s 0).toInt ∧ r2 = s (56 + 9 * x.toInt.toNat + y.toInt.toNat)) ∨ (¬ (0 ≤ x.toInt ∧ x.toInt < (s 1).toInt ∧ 0 ≤ y.toInt ∧ y.toInt < (s 0).toInt) ∧ r2.toInt = -1)) : r.toInt = r2.toInt := by
  obtain ⟨t1, t2, t3, t4, t5⟩ := hT
  rw [Nat.zero_add] at t2
  rcases h1 with ⟨a1, a2, a3, a4, a5⟩ | ⟨a1, a2⟩ <;> rcases h2 with ⟨b1, b2, b3, b4, b5⟩ | ⟨b1, b2⟩
  · rw [a5, b5, t5 x.toInt.toNat y.toInt.toNat (by omega) (by omega), Nat.zero_add]
  · omega
  · omega
  · omega
