/-! the tape read as a stream of TOKENS: what lies from the place t on -/
def trn (f : Nat → Int32) (n : Nat) : Nat → Int32 := fun j => if j < n then f j else 0
theorem trn_at {f : Nat → Int32} {n j : Nat} (h : j < n) : trn f n j = f j := if_pos h
theorem trn_eq {f f' : Nat → Int32} {n : Nat} (h : ∀ j, j < n → f j = f' j) : trn f n = trn f' n := by
  funext j
  unfold trn
  split
  · next c => exact h j c
  · rfl
def sK (f : Nat → Int32) (n m t : Nat) : Int := tkk (gi f) n m t
def sPn (f : Nat → Int32) (n m t : Nat) : Nat := tkp (gi f) n m t
def sX (f : Nat → Int32) (n m t : Nat) : Nat := tke (gi f) n m t
def sW (f : Nat → Int32) (n m t : Nat) : Int64 := twv f (sPn f n m t) (sX f n m t - sPn f n m t)
def sU (f : Nat → Int32) (n m t : Nat) : Int := (tnv f (sPn f n m t) (sX f n m t - sPn f n m t)).toInt
def sG (f : Nat → Int32) (n m t : Nat) : Int := (f (sPn f n m t)).toInt
/-- one side's numbers say what the TOKEN from t on is -/
def CT (f : Nat → Int32) (n m t : Nat) (k pl e : Int32) (w : Int64) (nu sg : Int32) : Prop :=
  t ≤ n ∧ k.toInt = sK f n m t ∧ pl.toInt = (sPn f n m t : Int) ∧ e.toInt = (sX f n m t : Int) ∧ (sK f n m t = 1 → w = sW f n m t) ∧ (sK f n m t = 2 → nu.toInt = sU f n m t) ∧ (sK f n m t = 3 → sg.toInt = sG f n m t)
theorem ten_gt {g : Nat → Int} {n q : Nat} (h : q < n) (ha : tal (g q)) : q < te g n q := by
  have e1 : te g n q = ten g n (n - 1) (q + 1) := by
    show ten g n n q = _
    obtain ⟨k, hk⟩ : ∃ k, n = k + 1 := ⟨n - 1, by omega⟩
    have e2 : ∀ i : Nat, ten g n (i + 1) q = ten g n i (q + 1) := fun i => if_pos ⟨h, ha⟩
    have e3 := e2 (n - 1)
    rw [show n - 1 + 1 = n by omega] at e3
    exact e3
  rw [e1]
  have := (ten_le (g := g) (n := n) (n - 1) (q + 1) (by omega)).1
  omega
theorem tke_le {g : Nat → Int} {n m p : Nat} (hp : p ≤ n) : p ≤ tke g n m p ∧ tke g n m p ≤ n ∧ tkp g n m p ≤ tke g n m p := by
  have l1 := tq_le (g := g) (n := n) (p := p) hp
  unfold tke tkp
  by_cases c1 : m < n ∧ m ≤ tq g n p
  · simp only [if_pos c1]
    omega
  · simp only [if_neg c1]
    by_cases c2 : n ≤ tq g n p
    · simp only [if_pos c2]
      omega
    · simp only [if_neg c2]
      have l2 := te_le (g := g) (n := n) (p := tq g n p) (by omega)
      by_cases c3 : tal (g (tq g n p))
      · simp only [if_pos c3]
        omega
      · simp only [if_neg c3]
        omega
theorem tk_pos {g : Nat → Int} {n m p : Nat} (hp : p ≤ n) (h : tkk g n m p = 1 ∨ tkk g n m p = 2 ∨ tkk g n m p = 3) : p < tke g n m p ∧ tkp g n m p < n := by
  have l1 := tq_le (g := g) (n := n) (p := p) hp
  unfold tkk at h
  unfold tke tkp
  by_cases c1 : m < n ∧ m ≤ tq g n p
  · simp only [if_pos c1] at h
    omega
  · simp only [if_neg c1] at h ⊢
    by_cases c2 : n ≤ tq g n p
    · simp only [if_pos c2] at h
      omega
    · simp only [if_neg c2] at h ⊢
      by_cases c3 : tal (g (tq g n p))
      · simp only [if_pos c3] at h ⊢
        have l2 := ten_gt (g := g) (n := n) (q := tq g n p) (by omega) c3
        omega
      · simp only [if_neg c3] at h ⊢
        omega
theorem sX_le {f : Nat → Int32} {n m t : Nat} (h : t ≤ n) : t ≤ sX f n m t ∧ sX f n m t ≤ n := ⟨(tke_le h).1, (tke_le h).2.1⟩
theorem sX_gt {f : Nat → Int32} {n m t : Nat} (h : t ≤ n) (hk : sK f n m t = 1 ∨ sK f n m t = 2 ∨ sK f n m t = 3) : t < sX f n m t := (tk_pos h hk).1
theorem CT_of {f : Nat → Int32} {n m t : Nat} {k pl e : Int32} {w : Int64} {nu sg : Int32} (h : TS f n m t k pl e w nu sg) (ht : t ≤ n) : CT (trn f n) n m t k pl e w nu sg := by
  obtain ⟨h1, h2, h3, h4, h5, h6⟩ := h
  have hc := tk_cong (f := f) (f' := trn f n) (n := n) (fun j hj => (trn_at hj).symm) m t ht
  have hl := tke_le (g := gi (trn f n)) (n := n) (m := m) ht
  have ek : k.toInt = sK (trn f n) n m t := by rw [h1, hc.1]; rfl
  have ep : tkp (gi f) n m t = sPn (trn f n) n m t := hc.2.1
  have ee : tke (gi f) n m t = sX (trn f n) n m t := hc.2.2
  have l1 : sPn (trn f n) n m t ≤ sX (trn f n) n m t := hl.2.2
  have l2 : sX (trn f n) n m t ≤ n := hl.2.1
  refine ⟨ht, ek, by rw [h2, ep], by rw [h3, ee], fun c => ?_, fun c => ?_, fun c => ?_⟩
  · rw [h4 (by omega), ep, ee]
    exact twv_cong _ (fun j hj => (trn_at (by omega)).symm)
  · rw [h5 (by omega), ep, ee]
    show (tnv f (sPn (trn f n) n m t) (sX (trn f n) n m t - sPn (trn f n) n m t)).toInt = (tnv (trn f n) (sPn (trn f n) n m t) (sX (trn f n) n m t - sPn (trn f n) n m t)).toInt
    rw [tnv_cong (f := f) (f' := trn f n) (q := sPn (trn f n) n m t) _ (fun j hj => (trn_at (by omega)).symm)]
  · rw [h6 (by omega), ep]
    have l3 := (tk_pos (g := gi (trn f n)) (n := n) (m := m) ht (Or.inr (Or.inr c))).2
    show (f (sPn (trn f n) n m t)).toInt = (trn f n (sPn (trn f n) n m t)).toInt
    rw [trn_at (show sPn (trn f n) n m t < n from l3)]
/-- the class's reading of blanks: from a to b all are blanks -/
def skp (f : Nat → Int32) (n a b : Int) : Prop := a ≤ b ∧ ∀ j : Nat, a ≤ (j : Int) → (j : Int) < b → (j : Int) < n ∧ tbl (f j).toInt
theorem skp_0 {f : Nat → Int32} {n a : Int} : skp f n a a := ⟨Int.le_refl _, fun j h1 h2 => by omega⟩
theorem skp_s {f : Nat → Int32} {n a : Int} {i i' : Int32} (h : skp f n a i.toInt) (h0 : 0 ≤ i.toInt) (h1 : i.toInt < n) (h2 : i'.toInt = i.toInt + 1) (hc : tbl (f i.toNatClampNeg).toInt) : skp f n a i'.toInt := by
  refine ⟨by have := h.1; omega, fun j h3 h4 => ?_⟩
  by_cases e : (j : Int) = i.toInt
  · have e1 : j = i.toNatClampNeg := show j = i.toInt.toNat by omega
    subst e1
    exact ⟨by omega, hc⟩
  · exact h.2 j h3 (by omega)
theorem skp_q {f : Nat → Int32} {n a b : Int} (h : skp f n a b) (h0 : 0 ≤ a) (h1 : a ≤ n) (hn : ¬ (b < n ∧ tbl (f b.toNat).toInt)) : tq (gi f) n.toNat a.toNat = b.toNat ∧ a ≤ b ∧ b ≤ n := by
  have h2 := h.1
  have h3 : b ≤ n := by
    by_cases e : a = b
    · omega
    · have := (h.2 (b.toNat - 1) (by omega) (by omega)).1
      omega
  refine ⟨?_, h2, h3⟩
  refine tsk_eq n.toNat a.toNat b.toNat (by omega) (by omega) (fun j h4 h5 => ?_) (fun c => hn ⟨by omega, c.2⟩)
  have := h.2 j (by omega) (by omega)
  exact ⟨by omega, this.2⟩
/-- the class's reading of letters and digits from q up to a: L letters, D digits, the WORD and the NUMBER so far -/
def av2 (f : Nat → Int32) (n q a L D : Int) (w : Int64) (nu : Int32) : Prop :=
  0 ≤ q ∧ 0 ≤ L ∧ 0 ≤ D ∧ a = q + L + D ∧ a ≤ n ∧ (∀ j : Nat, q ≤ (j : Int) → (j : Int) < a → tal (f j).toInt) ∧ L = (tnl (gi f) q.toNat (a - q).toNat : Nat) ∧ (D = 0 → w = twv f q.toNat (a - q).toNat) ∧ (L = 0 → nu = tnv f q.toNat (a - q).toNat)
theorem av2_0 {f : Nat → Int32} {n : Int} {q : Int32} (h0 : 0 ≤ q.toInt) (h1 : q.toInt ≤ n) {l d : Int32} (hl : l.toInt = 0) (hd : d.toInt = 0) : av2 f n q.toInt q.toInt l.toInt d.toInt 0 0 := by
  rw [hl, hd]
  refine ⟨h0, by omega, by omega, by omega, h1, fun j h2 h3 => by omega, ?_, fun _ => ?_, fun _ => ?_⟩
  · rw [show (q.toInt - q.toInt).toNat = 0 by omega]; rfl
  · rw [show (q.toInt - q.toInt).toNat = 0 by omega]; rfl
  · rw [show (q.toInt - q.toInt).toNat = 0 by omega]; rfl
theorem av2_l {f : Nat → Int32} {n q L D L' : Int} {w : Int64} {nu i i' : Int32} (h : av2 f n q i.toInt L D w nu) (h1 : i.toInt < n) (h2 : i'.toInt = i.toInt + 1) (hc : tsm (f i.toNatClampNeg).toInt) (hL : L' = L + 1) : av2 f n q i'.toInt L' D ((w <<< ((8 : Int32).toInt64 &&& 63)) ||| (f i.toNatClampNeg).toInt64) nu := by
  obtain ⟨g1, g2, g3, g4, g5, g6, g7, g8, g9⟩ := h
  have e0 : i.toNatClampNeg = i.toInt.toNat := rfl
  have e1 : (i'.toInt - q).toNat = (i.toInt - q).toNat + 1 := by omega
  have e2 : q.toNat + (i.toInt - q).toNat = i.toInt.toNat := by omega
  rw [e0] at hc
  refine ⟨g1, by omega, g3, by omega, by omega, fun j h3 h4 => ?_, ?_, fun c => ?_, fun c => by omega⟩
  · by_cases e : j = i.toInt.toNat
    · rw [e]; exact Or.inl hc
    · exact g6 j h3 (by omega)
  · rw [e1]
    show L' = ((tnl (gi f) q.toNat (i.toInt - q).toNat + (if tsm (gi f (q.toNat + (i.toInt - q).toNat)) then 1 else 0) : Nat) : Int)
    rw [e2, if_pos (show tsm (gi f i.toInt.toNat) from hc)]
    omega
  · rw [e1]
    show _ = (twv f q.toNat (i.toInt - q).toNat <<< ((8 : Int32).toInt64 &&& 63)) ||| (f (q.toNat + (i.toInt - q).toNat)).toInt64
    rw [e2, ← g8 c, e0]
theorem av2_d {f : Nat → Int32} {n q L D D' : Int} {w : Int64} {nu i i' : Int32} (h : av2 f n q i.toInt L D w nu) (h1 : i.toInt < n) (h2 : i'.toInt = i.toInt + 1) (hc : tdg (f i.toNatClampNeg).toInt) (hD : D' = D + 1) : av2 f n q i'.toInt L D' w (nu * 10 + f i.toNatClampNeg - 48) := by
  obtain ⟨g1, g2, g3, g4, g5, g6, g7, g8, g9⟩ := h
  have e0 : i.toNatClampNeg = i.toInt.toNat := rfl
  have e1 : (i'.toInt - q).toNat = (i.toInt - q).toNat + 1 := by omega
  have e2 : q.toNat + (i.toInt - q).toNat = i.toInt.toNat := by omega
  rw [e0] at hc
  have hn : ¬ tsm (gi f i.toInt.toNat) := fun c => by
    have c' : tsm (f i.toInt.toNat).toInt := c
    omega
  refine ⟨g1, g2, by omega, by omega, by omega, fun j h3 h4 => ?_, ?_, fun c => by omega, fun c => ?_⟩
  · by_cases e : j = i.toInt.toNat
    · rw [e]; exact Or.inr hc
    · exact g6 j h3 (by omega)
  · rw [e1]
    show L = ((tnl (gi f) q.toNat (i.toInt - q).toNat + (if tsm (gi f (q.toNat + (i.toInt - q).toNat)) then 1 else 0) : Nat) : Int)
    rw [e2, if_neg hn]
    omega
  · rw [e1]
    show _ = tnv f q.toNat (i.toInt - q).toNat * 10 + f (q.toNat + (i.toInt - q).toNat) - 48
    rw [e2, ← g9 c, e0]
/-- its end -/
theorem av2_e {f : Nat → Int32} {n q a L D : Int} {w : Int64} {nu : Int32} (h : av2 f n q a L D w nu) (hn : ¬ (a < n ∧ tal (f a.toNat).toInt)) : te (gi f) n.toNat q.toNat = a.toNat ∧ (tnl (gi f) q.toNat (a.toNat - q.toNat) : Int) = L ∧ ((a.toNat - q.toNat : Nat) : Int) = L + D ∧ (D = 0 → w = twv f q.toNat (a.toNat - q.toNat)) ∧ (L = 0 → nu = tnv f q.toNat (a.toNat - q.toNat)) := by
  obtain ⟨g1, g2, g3, g4, g5, g6, g7, g8, g9⟩ := h
  have e1 : a.toNat - q.toNat = (a - q).toNat := by omega
  rw [e1]
  refine ⟨?_, g7.symm, by omega, g8, g9⟩
  refine ten_eq n.toNat q.toNat a.toNat (by omega) (by omega) (fun j h4 h5 => ?_) (fun c => hn ⟨by omega, c.2⟩)
  exact ⟨by omega, g6 j (by omega) (by omega)⟩
/-- kinds of a run -/
theorem tkd_w {L k : Nat} (h : L = k) : tkd L k = if k ≤ 7 then 1 else 4 := if_pos h
theorem tkd_n {L k : Nat} (h : L = 0) (hk : 0 < k) : tkd L k = if k ≤ 3 then 2 else 4 := by
  unfold tkd
  rw [if_neg (by omega), if_pos h]
theorem tkd_m {L k : Nat} (h : ¬ L = 0) (hk : ¬ L = k) : tkd L k = 4 := by
  unfold tkd
  rw [if_neg hk, if_neg h]
/-- a side's three ends of a TOKEN: nothing more or too much; a sign; a run -/
theorem CTa_end {f : Nat → Int32} {len mst a0 wv k pl nu sg : Int32} {w : Int64} (hs : skp f len.toInt a0.toInt wv.toInt) (h0 : 0 ≤ a0.toInt) (h1 : a0.toInt ≤ len.toInt) (hm : 0 ≤ mst.toInt) (hj : ¬ (wv.toInt < len.toInt ∧ tbl (f wv.toNatClampNeg).toInt)) (hc : len.toInt ≤ wv.toInt ∨ mst.toInt < len.toInt ∧ mst.toInt ≤ wv.toInt) (hk : (mst.toInt < len.toInt ∧ k.toInt = 4 ∧ pl.toInt = mst.toInt) ∨ (len.toInt ≤ mst.toInt ∧ k.toInt = 0 ∧ pl.toInt = len.toInt)) : CT (trn f len.toInt.toNat) len.toInt.toNat mst.toInt.toNat a0.toInt.toNat k pl wv w nu sg := by
  obtain ⟨e1, e2, e3⟩ := skp_q hs h0 h1 hj
  refine CT_of ?_ (by omega)
  rcases hk with ⟨c, hk, hp⟩ | ⟨c, hk, hp⟩
  · exact TS_lim e1 (by omega) hk (by omega) (by omega)
  · exact TS_end e1 (by omega) (by omega) hk (by omega) (by omega)
theorem CTa_sign {f : Nat → Int32} {len mst a0 wv k e nu sg : Int32} {w : Int64} (hs : skp f len.toInt a0.toInt wv.toInt) (h0 : 0 ≤ a0.toInt) (h1 : a0.toInt ≤ len.toInt) (hm : 0 ≤ mst.toInt) (hj : ¬ (wv.toInt < len.toInt ∧ tbl (f wv.toNatClampNeg).toInt)) (hc : wv.toInt < len.toInt) (hd : ¬ (mst.toInt < len.toInt ∧ mst.toInt ≤ wv.toInt)) (ha : ¬ tal (f wv.toNatClampNeg).toInt) (he : e.toInt = wv.toInt + 1) (hk : (tsg (f wv.toNatClampNeg).toInt ∧ k.toInt = 3 ∧ sg.toInt = (f wv.toNatClampNeg).toInt) ∨ (¬ tsg (f wv.toNatClampNeg).toInt ∧ k.toInt = 4)) : CT (trn f len.toInt.toNat) len.toInt.toNat mst.toInt.toNat a0.toInt.toNat k wv e w nu sg := by
  obtain ⟨e1, e2, e3⟩ := skp_q hs h0 h1 hj
  refine CT_of ?_ (by omega)
  have e0 : wv.toNatClampNeg = wv.toInt.toNat := rfl
  rw [e0] at ha hk
  rcases hk with ⟨c, hk, hp⟩ | ⟨c, hk⟩
  · exact TS_sign e1 (by omega) (by omega) ha (by rw [if_pos c]; exact hk) (by omega) (by omega) (Or.inl hp)
  · exact TS_sign e1 (by omega) (by omega) ha (by rw [if_neg c]; exact hk) (by omega) (by omega) (Or.inr c)
theorem CTa_run {f : Nat → Int32} {len mst a0 wv k e nu sg : Int32} {w : Int64} (hs : skp f len.toInt a0.toInt wv.toInt) (h0 : 0 ≤ a0.toInt) (h1 : a0.toInt ≤ len.toInt) (hm : 0 ≤ mst.toInt) (hj : ¬ (wv.toInt < len.toInt ∧ tbl (f wv.toNatClampNeg).toInt)) (hd : ¬ (mst.toInt < len.toInt ∧ mst.toInt ≤ wv.toInt)) (ha : ∀ j : Nat, wv.toInt ≤ (j : Int) → (j : Int) < e.toInt → tal (f j).toInt) (hr : te (gi f) len.toInt.toNat wv.toInt.toNat = e.toInt.toNat) (hl : wv.toInt < e.toInt ∧ e.toInt ≤ len.toInt) (hk : k.toInt = tkd (tnl (gi f) wv.toInt.toNat (e.toInt.toNat - wv.toInt.toNat)) (e.toInt.toNat - wv.toInt.toNat)) (hw : tnl (gi f) wv.toInt.toNat (e.toInt.toNat - wv.toInt.toNat) = e.toInt.toNat - wv.toInt.toNat → e.toInt.toNat - wv.toInt.toNat ≤ 7 → w = twv f wv.toInt.toNat (e.toInt.toNat - wv.toInt.toNat)) (hu : tnl (gi f) wv.toInt.toNat (e.toInt.toNat - wv.toInt.toNat) = 0 → e.toInt.toNat - wv.toInt.toNat ≤ 3 → nu = tnv f wv.toInt.toNat (e.toInt.toNat - wv.toInt.toNat)) : CT (trn f len.toInt.toNat) len.toInt.toNat mst.toInt.toNat a0.toInt.toNat k wv e w nu sg := by
  obtain ⟨e1, e2, e3⟩ := skp_q hs h0 h1 hj
  refine CT_of ?_ (by omega)
  exact TS_run e1 (by omega) (by omega) (ha wv.toInt.toNat (by omega) (by omega)) hr hk (by omega) (by omega) hw hu (by omega)
theorem CTa_av {f : Nat → Int32} {len mst a0 wv k e nu sg : Int32} {L D : Int} {w : Int64} (hs : skp f len.toInt a0.toInt wv.toInt) (h0 : 0 ≤ a0.toInt) (h1 : a0.toInt ≤ len.toInt) (hm : 0 ≤ mst.toInt) (hj : ¬ (wv.toInt < len.toInt ∧ tbl (f wv.toNatClampNeg).toInt)) (hd : ¬ (mst.toInt < len.toInt ∧ mst.toInt ≤ wv.toInt)) (hv : av2 f len.toInt wv.toInt e.toInt L D w nu) (hj2 : ¬ (e.toInt < len.toInt ∧ tal (f e.toNatClampNeg).toInt)) (hLD : ¬ L + D = 0) (hk : (D = 0 ∧ (L ≤ 7 ∧ k.toInt = 1 ∨ 7 < L ∧ k.toInt = 4)) ∨ (¬ D = 0 ∧ L = 0 ∧ (D ≤ 3 ∧ k.toInt = 2 ∨ 3 < D ∧ k.toInt = 4)) ∨ (¬ D = 0 ∧ ¬ L = 0 ∧ k.toInt = 4)) : CT (trn f len.toInt.toNat) len.toInt.toNat mst.toInt.toNat a0.toInt.toNat k wv e w nu sg := by
  obtain ⟨g1, g2, g3, g4, g5⟩ := av2_e hv hj2
  obtain ⟨v1, v2, v3, v4, v5, v6, v7, v8, v9⟩ := hv
  refine CTa_run hs h0 h1 hm hj hd v6 g1 (by omega) ?_ (fun c _ => g4 (by omega)) (fun c _ => g5 (by omega))
  rcases hk with ⟨c, hk⟩ | ⟨c, c2, hk⟩ | ⟨c, c2, hk⟩
  · rw [tkd_w (by omega)]
    split <;> omega
  · rw [tkd_n (by omega) (by omega)]
    split <;> omega
  · rw [tkd_m (by omega) (by omega)]
    exact hk
/-- the same, with the numbers that say how many bytes there are and may be -/
def CC (f : Nat → Int32) (n m t : Nat) (len mst k pl e : Int32) (w : Int64) (nu sg : Int32) : Prop := len.toInt = (n : Int) ∧ mst.toInt = (m : Int) ∧ CT f n m t k pl e w nu sg
theorem CC_nx {f : Nat → Int32} {n m t : Nat} {len mst k pl e k' pl' e' nu sg nu' sg' : Int32} {w w' : Int64} (h : CC (trn f n) n m t len mst k pl e w nu sg) (g : ∀ n m : Nat, len.toInt = (n : Int) → mst.toInt = (m : Int) → e.toInt ≤ len.toInt → CC (trn f n) n m e.toInt.toNat len mst k' pl' e' w' nu' sg') : CC (trn f n) n m (sX (trn f n) n m t) len mst k' pl' e' w' nu' sg' := by
  obtain ⟨hn, hm, ht, ck, cp, ce, cw, cu, cg⟩ := h
  have hl := sX_le (f := trn f n) (m := m) ht
  have := g n m hn hm (by omega)
  rw [show e.toInt.toNat = sX (trn f n) n m t by omega] at this
  exact this
theorem CC_ot {f : Nat → Int32} {n m t : Nat} {len mst k pl e nu sg : Int32} {w : Int64} (hn : len.toInt = (n : Int)) (hm : mst.toInt = (m : Int)) (h : CT (trn f len.toInt.toNat) len.toInt.toNat mst.toInt.toNat t k pl e w nu sg) : CC (trn f n) n m t len mst k pl e w nu sg := by
  have e1 : len.toInt.toNat = n := by omega
  have e2 : mst.toInt.toNat = m := by omega
  rw [e1, e2] at h
  exact ⟨hn, hm, h⟩
