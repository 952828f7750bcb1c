/-! the reference's reading: bytes as 0 to 255 -/
theorem b255_all : ∀ k : Fin 256, ((Int32.ofInt ((k.val : Int) - 128)) &&& 255).toInt = (if (k.val : Int) - 128 < 0 then (k.val : Int) + 128 else (k.val : Int) - 128) := by decide +kernel
theorem b255 {x : Int32} (h1 : -128 ≤ x.toInt) (h2 : x.toInt ≤ 127) : (x &&& 255).toInt = if x.toInt < 0 then x.toInt + 256 else x.toInt := by
  have h := b255_all ⟨(x.toInt + 128).toNat, by omega⟩
  have e1 : ((((x.toInt + 128).toNat : Nat) : Int)) = x.toInt + 128 := by omega
  have e2 : x.toInt + 128 - 128 = x.toInt := by omega
  simp only [e1, e2, Int32.ofInt_toInt] at h
  rw [h]
  split <;> omega
theorem b255p {x : Int32} (h1 : 0 ≤ x.toInt) (h2 : x.toInt ≤ 127) : x &&& 255 = x := by
  apply Int32.toInt_inj.mp
  rw [b255 (by omega) h2, if_neg (by omega)]
theorem pkb_out {f : Nat → Int32} {p n : Int32} (h : n.toInt ≤ p.toInt) : (pk f p n).toInt = -1 := by
  unfold pk
  rw [if_neg (by omega)]
  decide
theorem pkb_in {f : Nat → Int32} {p n : Int32} (h0 : 0 ≤ p.toInt) (h : p.toInt < n.toInt) (hn : n.toInt ≤ 940) (hb : rg f 0 940 (-128) 127) : (pk f p n).toInt = if (f p.toNatClampNeg).toInt < 0 then (f p.toNatClampNeg).toInt + 256 else (f p.toNatClampNeg).toInt := by
  unfold pk
  rw [if_pos h]
  have := rg_at hb (i := p) (by omega) (by omega)
  exact b255 this.1 this.2
/-- a byte that is looked at and is below 128 -/
theorem pkb_lo {f : Nat → Int32} {p n : Int32} (h0 : 0 ≤ p.toInt) (hn : n.toInt ≤ 940) (hb : rg f 0 940 (-128) 127) (h : 0 ≤ (pk f p n).toInt) (h2 : (pk f p n).toInt ≤ 127) : p.toInt < n.toInt ∧ (f p.toNatClampNeg).toInt = (pk f p n).toInt ∧ pk f p n = f p.toNatClampNeg := by
  by_cases c : p.toInt < n.toInt
  · have e := pkb_in h0 c hn hb
    have hr := rg_at hb (i := p) (by omega) (by omega)
    have e2 : (f p.toNatClampNeg).toInt = (pk f p n).toInt := by
      rw [e] at h2 ⊢
      split at h2 <;> split <;> omega
    exact ⟨c, e2, (Int32.toInt_inj.mp e2).symm⟩
  · rw [pkb_out (by omega)] at h
    omega
theorem pkb_hi {f : Nat → Int32} {p n : Int32} (h0 : 0 ≤ p.toInt) (hn : n.toInt ≤ 940) (hb : rg f 0 940 (-128) 127) (h : p.toInt < n.toInt) (h2 : 0 ≤ (f p.toNatClampNeg).toInt) : (pk f p n).toInt = (f p.toNatClampNeg).toInt := by
  rw [pkb_in h0 h hn hb, if_neg (by omega)]
theorem skp_m {f : Nat → Int32} {a : Int} {n i i' : Int32} (h : skp f n.toInt a i.toInt) (h0 : 0 ≤ i.toInt) (hn : n.toInt ≤ 940) (hb : rg f 0 940 (-128) 127) (hc : (pk f i n).toInt = 32 ∨ (pk f i n).toInt = 10) (h2 : i'.toInt = i.toInt + 1) : skp f n.toInt a i'.toInt := by
  have g := pkb_lo h0 hn hb (by omega) (by omega)
  exact skp_s h h0 g.1 h2 (by omega)
theorem tbl_m {f : Nat → Int32} {n i : Int32} (h0 : 0 ≤ i.toInt) (hn : n.toInt ≤ 940) (hb : rg f 0 940 (-128) 127) (hc : ¬ (pk f i n).toInt = 32 ∧ ¬ (pk f i n).toInt = 10) : ¬ (i.toInt < n.toInt ∧ tbl (f i.toNatClampNeg).toInt) := fun c => by
  have g := pkb_hi h0 hn hb c.1 (by omega)
  omega
theorem tal_m {f : Nat → Int32} {n i : Int32} (h0 : 0 ≤ i.toInt) (hn : n.toInt ≤ 940) (hb : rg f 0 940 (-128) 127) (hc : ¬ (97 ≤ (pk f i n).toInt ∧ (pk f i n).toInt ≤ 122) ∧ ¬ (48 ≤ (pk f i n).toInt ∧ (pk f i n).toInt ≤ 57)) : ¬ (i.toInt < n.toInt ∧ tal (f i.toNatClampNeg).toInt) := fun c => by
  have g := pkb_hi h0 hn hb c.1 (by omega)
  omega
theorem tnl_k {g : Nat → Int} {q : Nat} : ∀ k, tnl g q k = k ↔ ∀ j, j < k → tsm (g (q + j)) := by
  intro k
  induction k with
  | zero => exact ⟨fun _ j hj => by omega, fun _ => rfl⟩
  | succ k ih =>
    have hl := tnl_le g q k
    show tnl g q k + (if tsm (g (q + k)) then 1 else 0) = k + 1 ↔ _
    constructor
    · intro h j hj
      split at h
      · next c =>
        by_cases e : j = k
        · rw [e]; exact c
        · exact ih.mp (by omega) j (by omega)
      · omega
    · intro h
      rw [if_pos (h k (by omega)), ih.mpr (fun j hj => h j (by omega))]
theorem tnl_z {g : Nat → Int} {q : Nat} : ∀ k, tnl g q k = 0 ↔ ∀ j, j < k → ¬ tsm (g (q + j)) := by
  intro k
  induction k with
  | zero => exact ⟨fun _ j hj => by omega, fun _ => rfl⟩
  | succ k ih =>
    show tnl g q k + (if tsm (g (q + k)) then 1 else 0) = 0 ↔ _
    constructor
    · intro h j hj
      split at h
      · omega
      · next c =>
        by_cases e : j = k
        · rw [e]; exact c
        · exact ih.mp (by omega) j (by omega)
    · intro h
      rw [if_neg (h k (by omega)), ih.mpr (fun j hj => h j (by omega))]
/-- the run from q on: sp are passed, a are judged, w of them are in the WORD, u in the NUMBER -/
def nvx (f : Nat → Int32) (n q p sp sm al a w u : Int) (wd : Int64) (nu : Int32) : Prop :=
  0 ≤ q ∧ 0 ≤ sp ∧ p = q + sp ∧ q + a ≤ n ∧ 0 ≤ a ∧ 0 ≤ w ∧ 0 ≤ u ∧ (∀ j : Nat, q ≤ (j : Int) → (j : Int) < q + a → tal (f j).toInt) ∧ (q < n ∧ tal (f q.toNat).toInt) ∧ (sm = 0 ∨ sm = 1) ∧ (sm = 1 ↔ tsm (f q.toNat).toInt) ∧ (al = 0 ∨ al = 1) ∧ (al = 1 ↔ ∀ j : Nat, q ≤ (j : Int) → (j : Int) < q + a → (tsm (f j).toInt ↔ sm = 1)) ∧ wd = twv f q.toNat (min w 7).toNat ∧ nu = tnv f q.toNat (min u 3).toNat
theorem nvx_0 {f : Nat → Int32} {n q sp sm al : Int32} (h0 : 0 ≤ q.toInt) (hn : n.toInt ≤ 940) (hb : rg f 0 940 (-128) 127) (hsp : sp.toInt = 0) (hal : al.toInt = 1) (hc : (97 ≤ (pk f q n).toInt ∧ (pk f q n).toInt ≤ 122 ∧ sm.toInt = 1) ∨ (48 ≤ (pk f q n).toInt ∧ (pk f q n).toInt ≤ 57 ∧ sm.toInt = 0)) : nvx f n.toInt q.toInt q.toInt sp.toInt sm.toInt al.toInt sp.toInt sp.toInt sp.toInt 0 0 := by
  have g := pkb_lo (f := f) (p := q) (n := n) h0 hn hb (by omega) (by omega)
  have e0 : q.toNatClampNeg = q.toInt.toNat := rfl
  rw [e0] at g
  rw [hsp, hal]
  refine ⟨h0, by omega, by omega, by omega, by omega, by omega, by omega, fun j h1 h2 => by omega, ⟨g.1, by omega⟩, by omega, by omega, by omega, ⟨fun _ j h1 h2 => by omega, fun _ => rfl⟩, rfl, rfl⟩
theorem nvx_a {f : Nat → Int32} {n q p sp sm al al' : Int32} {wd : Int64} {nu : Int32} (h : nvx f n.toInt q.toInt p.toInt sp.toInt sm.toInt al.toInt sp.toInt sp.toInt sp.toInt wd nu) (hn : n.toInt ≤ 940) (hb : rg f 0 940 (-128) 127) (hc : (97 ≤ (pk f p n).toInt ∧ (pk f p n).toInt ≤ 122) ∨ (48 ≤ (pk f p n).toInt ∧ (pk f p n).toInt ≤ 57)) (ha : (al'.toInt = 1 ∧ al.toInt = 1 ∧ ((97 ≤ (pk f p n).toInt ∧ (pk f p n).toInt ≤ 122) ∧ sm.toInt = 1 ∨ ¬ (97 ≤ (pk f p n).toInt ∧ (pk f p n).toInt ≤ 122) ∧ sm.toInt = 0)) ∨ (al'.toInt = 0 ∧ (al.toInt = 0 ∨ (97 ≤ (pk f p n).toInt ∧ (pk f p n).toInt ≤ 122) ∧ sm.toInt = 0 ∨ ¬ (97 ≤ (pk f p n).toInt ∧ (pk f p n).toInt ≤ 122) ∧ sm.toInt = 1))) : nvx f n.toInt q.toInt p.toInt sp.toInt sm.toInt al'.toInt (sp.toInt + 1) sp.toInt sp.toInt wd nu := by
  obtain ⟨g1, g2, g3, g4, g5, g6, g7, g8, g9, g10, g11, g12, g13, g14, g15⟩ := h
  have g := pkb_lo (f := f) (p := p) (n := n) (by omega) hn hb (by omega) (by omega)
  have e0 : p.toNatClampNeg = p.toInt.toNat := rfl
  rw [e0] at g
  refine ⟨g1, g2, g3, by omega, by omega, g6, g7, fun j h1 h2 => ?_, g9, g10, g11, by omega, ?_, g14, g15⟩
  · by_cases e : j = p.toInt.toNat
    · rw [e]; omega
    · exact g8 j h1 (by omega)
  · constructor
    · intro c j h1 h2
      by_cases e : j = p.toInt.toNat
      · rw [e]
        constructor
        · intro _; omega
        · intro _; omega
      · exact g13.mp (by omega) j h1 (by omega)
    · intro c
      have c1 := c p.toInt.toNat (by omega) (by omega)
      have c2 : al.toInt = 1 := g13.mpr (fun j h1 h2 => c j h1 (by omega))
      rcases ha with ha | ⟨_, ha | ha | ha⟩
      · exact ha.1
      · omega
      · have := c1.mp (by omega)
        omega
      · have := c1.mpr (by omega)
        omega
theorem twv_s {f : Nat → Int32} {q k : Nat} : twv f q (k + 1) = (twv f q k <<< ((8 : Int32).toInt64 &&& 63)) ||| (f (q + k)).toInt64 := rfl
theorem tnv_s {f : Nat → Int32} {q k : Nat} : tnv f q (k + 1) = tnv f q k * 10 + f (q + k) - 48 := rfl
theorem nvx_w {f : Nat → Int32} {n q p sp sm al : Int32} {wd wd' : Int64} {nu : Int32} (h : nvx f n.toInt q.toInt p.toInt sp.toInt sm.toInt al.toInt (sp.toInt + 1) sp.toInt sp.toInt wd nu) (hn : n.toInt ≤ 940) (hb : rg f 0 940 (-128) 127) (hw : (sp.toInt < 7 ∧ wd' = (wd <<< ((8 : Int32).toInt64 &&& 63)) ||| (pk f p n).toInt64) ∨ (7 ≤ sp.toInt ∧ wd' = wd)) : nvx f n.toInt q.toInt p.toInt sp.toInt sm.toInt al.toInt (sp.toInt + 1) (sp.toInt + 1) sp.toInt wd' nu := by
  obtain ⟨g1, g2, g3, g4, g5, g6, g7, g8, g9, g10, g11, g12, g13, g14, g15⟩ := h
  refine ⟨g1, g2, g3, g4, g5, by omega, g7, g8, g9, g10, g11, g12, g13, ?_, g15⟩
  rcases hw with ⟨c, hw⟩ | ⟨c, hw⟩
  · have e1 : (min (sp.toInt + 1) 7).toNat = (min sp.toInt 7).toNat + 1 := by omega
    have e2 : q.toInt.toNat + (min sp.toInt 7).toNat = p.toNatClampNeg := show _ = p.toInt.toNat by omega
    have hp : 0 ≤ (f p.toNatClampNeg).toInt := by
      have := g8 p.toInt.toNat (by omega) (by omega)
      have e0 : p.toNatClampNeg = p.toInt.toNat := rfl
      rw [e0]; omega
    have hr := rg_at hb (i := p) (by omega) (by omega)
    have e3 : pk f p n = f p.toNatClampNeg := by
      unfold pk
      rw [if_pos (by omega), b255p hp hr.2]
    rw [hw, e1, twv_s, e2, e3, ← g14]
  · have e1 : (min (sp.toInt + 1) 7).toNat = (min sp.toInt 7).toNat := by omega
    rw [hw, e1, ← g14]
theorem nvx_u {f : Nat → Int32} {n q p sp sm al : Int32} {wd : Int64} {nu nu' : Int32} (h : nvx f n.toInt q.toInt p.toInt sp.toInt sm.toInt al.toInt (sp.toInt + 1) (sp.toInt + 1) sp.toInt wd nu) (hn : n.toInt ≤ 940) (hb : rg f 0 940 (-128) 127) (hw : (sp.toInt < 3 ∧ nu' = 10 * nu + pk f p n - 48) ∨ (3 ≤ sp.toInt ∧ nu' = nu)) : nvx f n.toInt q.toInt p.toInt sp.toInt sm.toInt al.toInt (sp.toInt + 1) (sp.toInt + 1) (sp.toInt + 1) wd nu' := by
  obtain ⟨g1, g2, g3, g4, g5, g6, g7, g8, g9, g10, g11, g12, g13, g14, g15⟩ := h
  refine ⟨g1, g2, g3, g4, g5, g6, by omega, g8, g9, g10, g11, g12, g13, g14, ?_⟩
  rcases hw with ⟨c, hw⟩ | ⟨c, hw⟩
  · have e1 : (min (sp.toInt + 1) 3).toNat = (min sp.toInt 3).toNat + 1 := by omega
    have e2 : q.toInt.toNat + (min sp.toInt 3).toNat = p.toNatClampNeg := show _ = p.toInt.toNat by omega
    have hp : 0 ≤ (f p.toNatClampNeg).toInt := by
      have := g8 p.toInt.toNat (by omega) (by omega)
      have e0 : p.toNatClampNeg = p.toInt.toNat := rfl
      rw [e0]; omega
    have hr := rg_at hb (i := p) (by omega) (by omega)
    have e3 : pk f p n = f p.toNatClampNeg := by
      unfold pk
      rw [if_pos (by omega), b255p hp hr.2]
    rw [hw, e1, tnv_s, e2, e3, ← g15, Int32.mul_comm 10 nu]
  · have e1 : (min (sp.toInt + 1) 3).toNat = (min sp.toInt 3).toNat := by omega
    rw [hw, e1, ← g15]
theorem nvx_s {f : Nat → Int32} {n q p sp p' sp' sm al : Int32} {wd : Int64} {nu : Int32} (h : nvx f n.toInt q.toInt p.toInt sp.toInt sm.toInt al.toInt (sp.toInt + 1) (sp.toInt + 1) (sp.toInt + 1) wd nu) (hp : p'.toInt = p.toInt + 1) (hs : sp'.toInt = sp.toInt + 1) : nvx f n.toInt q.toInt p'.toInt sp'.toInt sm.toInt al.toInt sp'.toInt sp'.toInt sp'.toInt wd nu := by
  obtain ⟨g1, g2, g3, g4, g5, g6, g7, g8, g9, g10, g11, g12, g13, g14, g15⟩ := h
  rw [hp, hs]
  exact ⟨g1, by omega, by omega, g4, g5, g6, g7, g8, g9, g10, g11, g12, g13, g14, g15⟩
/-- its end is the same as the class's -/
theorem CTa_nv {f : Nat → Int32} {len mst a0 q k p sp sm al nu sg : Int32} {w : Int64} (hs : skp f len.toInt a0.toInt q.toInt) (h0 : 0 ≤ a0.toInt) (h1 : a0.toInt ≤ len.toInt) (hm : 0 ≤ mst.toInt) (hj : ¬ (q.toInt < len.toInt ∧ tbl (f q.toNatClampNeg).toInt)) (hd : ¬ (mst.toInt < len.toInt ∧ mst.toInt ≤ q.toInt)) (h : nvx f len.toInt q.toInt p.toInt sp.toInt sm.toInt al.toInt sp.toInt sp.toInt sp.toInt w nu) (hj2 : ¬ (p.toInt < len.toInt ∧ tal (f p.toNatClampNeg).toInt)) (hk : (al.toInt = 0 ∧ k.toInt = 4) ∨ (¬ al.toInt = 0 ∧ ¬ sm.toInt = 0 ∧ (sp.toInt ≤ 7 ∧ k.toInt = 1 ∨ 7 < sp.toInt ∧ k.toInt = 4)) ∨ (¬ al.toInt = 0 ∧ sm.toInt = 0 ∧ (sp.toInt ≤ 3 ∧ k.toInt = 2 ∨ 3 < sp.toInt ∧ k.toInt = 4))) : CT (trn f len.toInt.toNat) len.toInt.toNat mst.toInt.toNat a0.toInt.toNat k q p w nu sg := by
  obtain ⟨g1, g2, g3, g4, g5, g6, g7, g8, g9, g10, g11, g12, g13, g14, g15⟩ := h
  have e0 : q.toNatClampNeg = q.toInt.toNat := rfl
  have e9 : p.toNatClampNeg = p.toInt.toNat := rfl
  rw [e9] at hj2
  have hsp : 0 < sp.toInt := by
    by_cases c : sp.toInt = 0
    · have e3 : p.toInt.toNat = q.toInt.toNat := by omega
      rw [e3] at hj2
      exact absurd ⟨by omega, g9.2⟩ hj2
    · omega
  have ek : p.toInt.toNat - q.toInt.toNat = sp.toInt.toNat := by omega
  have hte : te (gi f) len.toInt.toNat q.toInt.toNat = p.toInt.toNat :=
    ten_eq _ _ _ (by omega) (by omega) (fun j h4 h5 => ⟨by omega, g8 j (by omega) (by omega)⟩) (fun c => hj2 ⟨by omega, c.2⟩)
  have hall : al.toInt = 1 → (sm.toInt = 1 → tnl (gi f) q.toInt.toNat sp.toInt.toNat = sp.toInt.toNat) ∧ (sm.toInt = 0 → tnl (gi f) q.toInt.toNat sp.toInt.toNat = 0) := fun c => by
    have c1 := g13.mp c
    constructor
    · intro c2
      exact (tnl_k _).mpr (fun j hj => (c1 (q.toInt.toNat + j) (by omega) (by omega)).mpr c2)
    · intro c2
      exact (tnl_z _).mpr (fun j hj c3 => by
        have := (c1 (q.toInt.toNat + j) (by omega) (by omega)).mp c3
        omega)
  have hnot : al.toInt = 0 → ¬ tnl (gi f) q.toInt.toNat sp.toInt.toNat = sp.toInt.toNat ∧ ¬ tnl (gi f) q.toInt.toNat sp.toInt.toNat = 0 := fun c => by
    constructor
    · intro c2
      have c3 := (tnl_k _).mp c2
      have c4 : sm.toInt = 1 := g11.mpr (by have := c3 0 (by omega); simpa using this)
      have c5 : al.toInt = 1 := g13.mpr (fun j h1 h2 => ⟨fun _ => c4, fun _ => by
        have := c3 (j - q.toInt.toNat) (by omega)
        rw [show q.toInt.toNat + (j - q.toInt.toNat) = j by omega] at this
        exact this⟩)
      omega
    · intro c2
      have c3 := (tnl_z _).mp c2
      have c4 : sm.toInt = 0 := by
        rcases g10 with c | c
        · exact c
        · have := c3 0 (by omega)
          exact absurd (by simpa using g11.mp c) this
      have c5 : al.toInt = 1 := g13.mpr (fun j h1 h2 => ⟨fun c6 => by
        have := c3 (j - q.toInt.toNat) (by omega)
        rw [show q.toInt.toNat + (j - q.toInt.toNat) = j by omega] at this
        exact absurd c6 this, fun c6 => by omega⟩)
      omega
  refine CTa_run hs h0 h1 hm hj hd (fun j h4 h5 => g8 j h4 (by omega)) hte (by omega) ?_ (fun c1 c2 => ?_) (fun c1 c2 => ?_)
  · rw [ek]
    rcases hk with ⟨c, hk⟩ | ⟨c, c2, hk⟩ | ⟨c, c2, hk⟩
    · have := hnot c
      rw [tkd_m this.2 this.1]
      exact hk
    · rw [tkd_w ((hall (by omega)).1 (by omega))]
      split <;> omega
    · rw [tkd_n ((hall (by omega)).2 c2) (by omega)]
      split <;> omega
  · rw [g14, ek]
    rw [ek] at c2
    rw [show (min sp.toInt 7).toNat = sp.toInt.toNat by omega]
  · rw [g15, ek]
    rw [ek] at c2
    rw [show (min sp.toInt 3).toNat = sp.toInt.toNat by omega]
theorem skp_le {f : Nat → Int32} {n a b : Int} (h : skp f n a b) (h1 : a ≤ n) : a ≤ b ∧ b ≤ n ∨ a < 0 := by
  by_cases c : a < 0
  · exact Or.inr c
  · left
    refine ⟨h.1, ?_⟩
    by_cases e : a = b
    · omega
    · have h2 := h.1
      have := (h.2 (b.toNat - 1) (by omega) (by omega)).1
      omega
/-- what is looked at, as the byte that lies there -/
theorem pkb_c {f : Nat → Int32} {p n : Int32} (h0 : 0 ≤ p.toInt) (hn : n.toInt ≤ 940) (hb : rg f 0 940 (-128) 127) : (p.toInt < n.toInt ∧ 0 ≤ (f p.toNatClampNeg).toInt ∧ (pk f p n).toInt = (f p.toNatClampNeg).toInt) ∨ (p.toInt < n.toInt ∧ (f p.toNatClampNeg).toInt < 0 ∧ -128 ≤ (f p.toNatClampNeg).toInt ∧ (pk f p n).toInt = (f p.toNatClampNeg).toInt + 256) ∨ (n.toInt ≤ p.toInt ∧ (pk f p n).toInt = -1) := by
  by_cases c : p.toInt < n.toInt
  · have e := pkb_in h0 c hn hb
    have hr := rg_at hb (i := p) (by omega) (by omega)
    by_cases c2 : (f p.toNatClampNeg).toInt < 0
    · rw [if_pos c2] at e
      exact Or.inr (Or.inl ⟨c, c2, hr.1, e⟩)
    · rw [if_neg c2] at e
      exact Or.inl ⟨c, by omega, e⟩
  · exact Or.inr (Or.inr ⟨by omega, pkb_out (by omega)⟩)
