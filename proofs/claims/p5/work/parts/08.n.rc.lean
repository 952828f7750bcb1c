/-! the class's draft of a TOWN, against what the LINES so far told -/
def RW (ow : Int64 → Bool) (names souls : Int32) (nw sw : Nat → Int64) (H : Nat → Int) (N : Nat → Int64) : Prop :=
  (names.toInt = H 0 ∧ souls.toInt = H 1 ∧ 0 ≤ H 0 ∧ H 0 ≤ 9 ∧ 0 ≤ H 1 ∧ H 1 ≤ 9) ∧ (∀ k : Nat, (k : Int) < H 0 → nw k = N (18 + k) ∧ ow (nw k) = false) ∧ (∀ k : Nat, (k : Int) < H 1 → sw k = N (27 + k) ∧ ow (sw k) = false)
/-- told once or not: debts, feasts -/
def RO (row : Nat → Int32) (b : Nat) (H : Nat → Int) (O : Nat → Bool) : Prop := ∀ k : Nat, (k : Int) < H 0 → ((row k).toInt = -1 ↔ O (b + k) = false)
/-- told once or not: wishes, the old -/
def RH (row : Nat → Int32) (b : Nat) (H : Nat → Int) : Prop := ∀ k : Nat, (k : Int) < H 1 → ((row k).toInt = -1 ↔ H (b + k) = 0) ∧ 0 ≤ H (b + k)
def RF (fn : Nat → Int32) (H : Nat → Int) : Prop := ∀ k : Nat, (k : Int) < H 1 → (fn k).toInt + 1 = H (38 + k)
def RV (wr : Nat → Int32) (H : Nat → Int) : Prop := ∀ k : Nat, (k : Int) < H 1 → ∀ j : Nat, j < 9 → (wr (9 * k + j)).toInt = H (56 + 9 * k + j) ∧ 0 ≤ H (56 + 9 * k + j)
/-- nothing is told yet of who isn't there -/
def RZ (H : Nat → Int) (O : Nat → Bool) : Prop :=
  (∀ k : Nat, H 0 ≤ (k : Int) → k < 9 → O k = false ∧ O (9 + k) = false) ∧ (∀ k : Nat, H 1 ≤ (k : Int) → k < 9 → H (47 + k) = 0 ∧ H (137 + k) = 0 ∧ ∀ j : Nat, j < 9 → H (56 + 9 * k + j) = 0)
def RC (ow : Int64 → Bool) (names souls : Int32) (nw sw : Nat → Int64) (fd ev fn wi ol wr : Nat → Int32) (H : Nat → Int) (N : Nat → Int64) (O : Nat → Bool) : Prop :=
  RW ow names souls nw sw H N ∧ RO fd 0 H O ∧ RO ev 9 H O ∧ RF fn H ∧ RH wi 47 H ∧ RH ol 137 H ∧ RV wr H ∧ RZ H O
theorem RW_n {ow : Int64 → Bool} {names souls : Int32} {nw sw : Nat → Int64} {H : Nat → Int} {N : Nat → Int64} (h : RW ow names souls nw sw H N) (w : Int64) : fdx nw 0 w names.toInt.toNat = fdx N 18 w (H 0).toNat := by
  rw [show names.toInt.toNat = (H 0).toNat by rw [h.1.1]]
  exact fdx_cong _ (fun j hj => by rw [Nat.zero_add]; exact (h.2.1 j (by omega)).1)
theorem RW_s {ow : Int64 → Bool} {names souls : Int32} {nw sw : Nat → Int64} {H : Nat → Int} {N : Nat → Int64} (h : RW ow names souls nw sw H N) (w : Int64) : fdx sw 0 w souls.toInt.toNat = fdx N 27 w (H 1).toNat := by
  rw [show souls.toInt.toNat = (H 1).toNat by rw [h.1.2.1]]
  exact fdx_cong _ (fun j hj => by rw [Nat.zero_add]; exact (h.2.2 j (by omega)).1)
theorem RW_on {ow : Int64 → Bool} {names souls : Int32} {nw sw : Nat → Int64} {H : Nat → Int} {N : Nat → Int64} (h : RW ow names souls nw sw H N) {w : Int64} (hf : ¬ fdx N 18 w (H 0).toNat = -1) : ow w = false ∧ 0 ≤ fdx N 18 w (H 0).toNat ∧ fdx N 18 w (H 0).toNat < H 0 := by
  have h1 := fdx_rng (row := N) (a := 18) (w := w) (H 0).toNat
  have h2 := fdx_hit (row := N) (a := 18) (w := w) (H 0).toNat hf
  have h3 := h.1
  have h4 := h.2.1 (fdx N 18 w (H 0).toNat).toNat (by omega)
  rw [h4.1, h2] at h4
  exact ⟨h4.2, by omega, by omega⟩
theorem RW_os {ow : Int64 → Bool} {names souls : Int32} {nw sw : Nat → Int64} {H : Nat → Int} {N : Nat → Int64} (h : RW ow names souls nw sw H N) {w : Int64} (hf : ¬ fdx N 27 w (H 1).toNat = -1) : ow w = false ∧ 0 ≤ fdx N 27 w (H 1).toNat ∧ fdx N 27 w (H 1).toNat < H 1 := by
  have h1 := fdx_rng (row := N) (a := 27) (w := w) (H 1).toNat
  have h2 := fdx_hit (row := N) (a := 27) (w := w) (H 1).toNat hf
  have h3 := h.1
  have h4 := h.2.2 (fdx N 27 w (H 1).toNat).toNat (by omega)
  rw [h4.1, h2] at h4
  exact ⟨h4.2, by omega, by omega⟩
theorem setI_ne {H : Nat → Int} {k j : Nat} {v : Int} (h : ¬ j = k) : setI H k v j = H j := if_neg h
theorem setI_eq {H : Nat → Int} {k : Nat} {v : Int} : setI H k v k = v := if_pos rfl
theorem setB_ne {O : Nat → Bool} {k j : Nat} (h : ¬ j = k) : setB O k j = O j := if_neg h
theorem setB_eq {O : Nat → Bool} {k : Nat} : setB O k k = true := if_pos rfl
/-- H' is H but for some places: what is said of the others stays -/
theorem RW_H {ow : Int64 → Bool} {names souls : Int32} {nw sw : Nat → Int64} {H H' : Nat → Int} {N : Nat → Int64} (h : RW ow names souls nw sw H N) (e0 : H' 0 = H 0) (e1 : H' 1 = H 1) : RW ow names souls nw sw H' N := by
  unfold RW
  rw [e0, e1]
  exact h
theorem RO_H {row : Nat → Int32} {b : Nat} {H H' : Nat → Int} {O : Nat → Bool} (h : RO row b H O) (e0 : H' 0 = H 0) : RO row b H' O := by
  unfold RO
  rw [e0]
  exact h
theorem RH_H {row : Nat → Int32} {b : Nat} {H H' : Nat → Int} (h : RH row b H) (e1 : H' 1 = H 1) (e : ∀ k : Nat, k < 9 → H' (b + k) = H (b + k)) (h9 : H 1 ≤ 9) : RH row b H' := by
  intro k hk
  rw [e1] at hk
  rw [e k (by omega)]
  exact h k hk
theorem RF_H {row : Nat → Int32} {H H' : Nat → Int} (h : RF row H) (e1 : H' 1 = H 1) (e : ∀ k : Nat, k < 9 → H' (38 + k) = H (38 + k)) (h9 : H 1 ≤ 9) : RF row H' := by
  intro k hk
  rw [e1] at hk
  rw [e k (by omega)]
  exact h k hk
theorem RV_H {wr : Nat → Int32} {H H' : Nat → Int} (h : RV wr H) (e1 : H' 1 = H 1) (e : ∀ k : Nat, k < 81 → H' (56 + k) = H (56 + k)) (h9 : H 1 ≤ 9) : RV wr H' := by
  intro k hk j hj
  rw [e1] at hk
  rw [show 56 + 9 * k + j = 56 + (9 * k + j) by omega, e (9 * k + j) (by omega), show 56 + (9 * k + j) = 56 + 9 * k + j by omega]
  exact h k hk j hj
theorem RC_0 {ow : Int64 → Bool} {names souls : Int32} {nw sw : Nat → Int64} {fd ev fn wi ol wr : Nat → Int32} {H : Nat → Int} {N : Nat → Int64} (hz : ∀ j : Nat, j < 146 → H j = 0) (h0 : names.toInt = 0) (h1 : souls.toInt = 0) : RC ow names souls nw sw fd ev fn wi ol wr H N (fun _ => false) := by
  have z0 := hz 0 (by decide)
  have z1 := hz 1 (by decide)
  refine ⟨⟨⟨by omega, by omega, by omega, by omega, by omega, by omega⟩, fun k hk => ?_, fun k hk => ?_⟩, fun k hk => ?_, fun k hk => ?_, fun k hk => ?_, fun k hk => ?_, fun k hk => ?_, fun k hk => ?_, ⟨fun k _ _ => ⟨rfl, rfl⟩, fun k _ h9 => ⟨hz _ (by omega), hz _ (by omega), fun j hj => hz _ (by omega)⟩⟩⟩
  all_goals (exfalso; omega)
/-- a 'name' LINE -/
theorem RC_name {ow : Int64 → Bool} {names souls names' : Int32} {nw sw nw' : Nat → Int64} {fd ev fn wi ol wr fd' ev' : Nat → Int32} {H : Nat → Int} {N : Nat → Int64} {O : Nat → Bool} {w : Int64} {u : Int} (h : RC ow names souls nw sw fd ev fn wi ol wr H N O) (h9 : H 0 < 9) (hw : ow w = false) (en : nw' = vp_updL nw names.toNatClampNeg w) (ed : fd' = upd fd names.toNatClampNeg (-1)) (ee : ev' = upd ev names.toNatClampNeg (-1)) (hn : names'.toInt = names.toInt + 1) : RC ow names' souls nw' sw fd' ev' fn wi ol wr (setI (setI H (2 + (H 0).toNat) u) 0 (H 0 + 1)) (setW N (18 + (H 0).toNat) w) O := by
  obtain ⟨hW, hd, he, hf, hi, ho, hv, hz⟩ := h
  obtain ⟨⟨g1, g2, g3, g4, g5, g6⟩, gn, gs⟩ := hW
  have i0 : names.toNatClampNeg = (H 0).toNat := show names.toInt.toNat = (H 0).toNat by rw [g1]
  have H0 : setI (setI H (2 + (H 0).toNat) u) 0 (H 0 + 1) 0 = H 0 + 1 := setI_eq
  have Hj : ∀ j : Nat, 11 ≤ j → setI (setI H (2 + (H 0).toNat) u) 0 (H 0 + 1) j = H j := fun j hj => by rw [setI_ne (by omega), setI_ne (by omega)]
  have H1 : setI (setI H (2 + (H 0).toNat) u) 0 (H 0 + 1) 1 = H 1 := by rw [setI_ne (by omega), setI_ne (by omega)]
  refine ⟨⟨⟨by rw [H0]; omega, by rw [H1]; exact g2, by rw [H0]; omega, by rw [H0]; omega, by rw [H1]; exact g5, by rw [H1]; exact g6⟩, fun k hk => ?_, fun k hk => ?_⟩, fun k hk => ?_, fun k hk => ?_, ?_, ?_, ?_, ?_, ?_⟩
  · rw [H0] at hk
    rw [en, i0]
    by_cases e : k = (H 0).toNat
    · subst e
      exact ⟨by simp [vp_updL, setW], by simp [vp_updL, hw]⟩
    · have := gn k (by omega)
      rw [show vp_updL nw (H 0).toNat w k = nw k from if_neg e]
      exact ⟨by rw [show setW N (18 + (H 0).toNat) w (18 + k) = N (18 + k) from if_neg (by omega)]; exact this.1, this.2⟩
  · rw [H1] at hk
    have := gs k hk
    exact ⟨by rw [show setW N (18 + (H 0).toNat) w (27 + k) = N (27 + k) from if_neg (by omega)]; exact this.1, this.2⟩
  · rw [H0] at hk
    rw [ed, i0]
    by_cases e : k = (H 0).toNat
    · subst e
      rw [show upd fd (H 0).toNat (-1) (H 0).toNat = -1 from if_pos rfl]
      exact ⟨fun _ => (by rw [Nat.zero_add]; exact (hz.1 _ (by omega) (by omega)).1), fun _ => by decide⟩
    · rw [show upd fd (H 0).toNat (-1) k = fd k from if_neg e]
      exact hd k (by omega)
  · rw [H0] at hk
    rw [ee, i0]
    by_cases e : k = (H 0).toNat
    · subst e
      rw [show upd ev (H 0).toNat (-1) (H 0).toNat = -1 from if_pos rfl]
      exact ⟨fun _ => (hz.1 _ (by omega) (by omega)).2, fun _ => by decide⟩
    · rw [show upd ev (H 0).toNat (-1) k = ev k from if_neg e]
      exact he k (by omega)
  · exact RF_H hf H1 (fun k _ => Hj _ (by omega)) g6
  · exact RH_H hi H1 (fun k _ => Hj _ (by omega)) g6
  · exact RH_H ho H1 (fun k _ => Hj _ (by omega)) g6
  · exact RV_H hv H1 (fun k _ => Hj _ (by omega)) g6
  · refine ⟨fun k h1 h2 => ?_, fun k h1 h2 => ?_⟩
    · rw [H0] at h1
      exact hz.1 k (by omega) h2
    · rw [H1] at h1
      rw [Hj _ (by omega), Hj _ (by omega)]
      refine ⟨(hz.2 k h1 h2).1, (hz.2 k h1 h2).2.1, fun j hj => ?_⟩
      rw [Hj _ (by omega)]
      exact (hz.2 k h1 h2).2.2 j hj
/-- a 'debt' LINE, a 'feast' LINE -/
theorem RC_fd {ow : Int64 → Bool} {names souls : Int32} {nw sw : Nat → Int64} {fd ev fn wi ol wr fd' : Nat → Int32} {H : Nat → Int} {N : Nat → Int64} {O : Nat → Bool} {k : Nat} {u : Int} (h : RC ow names souls nw sw fd ev fn wi ol wr H N O) (hk : (k : Int) < H 0) (e1 : ∀ j, ¬ j = k → fd' j = fd j) (e2 : ¬ (fd' k).toInt = -1) : RC ow names souls nw sw fd' ev fn wi ol wr (setI H (11 + k) u) N (setB O (0 + k)) := by
  obtain ⟨hW, hd, he, hf, hi, ho, hv, hz⟩ := h
  have g := hW.1
  have Hj : ∀ j : Nat, ¬ j = 11 + k → setI H (11 + k) u j = H j := fun j hj => setI_ne hj
  refine ⟨RW_H hW (Hj _ (by omega)) (Hj _ (by omega)), fun j hj => ?_, fun j hj => ?_, RF_H hf (Hj _ (by omega)) (fun _ _ => Hj _ (by omega)) (by omega), RH_H hi (Hj _ (by omega)) (fun _ _ => Hj _ (by omega)) (by omega), RH_H ho (Hj _ (by omega)) (fun _ _ => Hj _ (by omega)) (by omega), RV_H hv (Hj _ (by omega)) (fun _ _ => Hj _ (by omega)) (by omega), fun j h1 h2 => ?_, fun j h1 h2 => ?_⟩
  · rw [Hj 0 (by omega)] at hj
    by_cases e : j = k
    · subst e
      rw [setB_eq]
      exact ⟨fun c => absurd c e2, fun c => absurd c (by decide)⟩
    · rw [e1 j e, setB_ne (by omega)]
      exact hd j hj
  · rw [Hj 0 (by omega)] at hj
    rw [setB_ne (by omega)]
    exact he j hj
  · rw [Hj 0 (by omega)] at h1
    rw [setB_ne (by omega), setB_ne (by omega)]
    exact hz.1 j h1 h2
  · rw [Hj 1 (by omega)] at h1
    rw [Hj _ (by omega), Hj _ (by omega)]
    refine ⟨(hz.2 j h1 h2).1, (hz.2 j h1 h2).2.1, fun i hi => ?_⟩
    rw [Hj _ (by omega)]
    exact (hz.2 j h1 h2).2.2 i hi
theorem RC_ev {ow : Int64 → Bool} {names souls : Int32} {nw sw : Nat → Int64} {fd ev fn wi ol wr ev' : Nat → Int32} {H : Nat → Int} {N : Nat → Int64} {O : Nat → Bool} {k : Nat} {u : Int} (h : RC ow names souls nw sw fd ev fn wi ol wr H N O) (hk : (k : Int) < H 0) (e1 : ∀ j, ¬ j = k → ev' j = ev j) (e2 : ¬ (ev' k).toInt = -1) : RC ow names souls nw sw fd ev' fn wi ol wr (setI H (20 + k) u) N (setB O (9 + k)) := by
  obtain ⟨hW, hd, he, hf, hi, ho, hv, hz⟩ := h
  have g := hW.1
  have Hj : ∀ j : Nat, ¬ j = 20 + k → setI H (20 + k) u j = H j := fun j hj => setI_ne hj
  refine ⟨RW_H hW (Hj _ (by omega)) (Hj _ (by omega)), fun j hj => ?_, fun j hj => ?_, RF_H hf (Hj _ (by omega)) (fun _ _ => Hj _ (by omega)) (by omega), RH_H hi (Hj _ (by omega)) (fun _ _ => Hj _ (by omega)) (by omega), RH_H ho (Hj _ (by omega)) (fun _ _ => Hj _ (by omega)) (by omega), RV_H hv (Hj _ (by omega)) (fun _ _ => Hj _ (by omega)) (by omega), fun j h1 h2 => ?_, fun j h1 h2 => ?_⟩
  · rw [Hj 0 (by omega)] at hj
    rw [setB_ne (by omega)]
    exact hd j hj
  · rw [Hj 0 (by omega)] at hj
    by_cases e : j = k
    · subst e
      rw [setB_eq]
      exact ⟨fun c => absurd c e2, fun c => absurd c (by decide)⟩
    · rw [e1 j e, setB_ne (by omega)]
      exact he j hj
  · rw [Hj 0 (by omega)] at h1
    rw [setB_ne (by omega), setB_ne (by omega)]
    exact hz.1 j h1 h2
  · rw [Hj 1 (by omega)] at h1
    rw [Hj _ (by omega), Hj _ (by omega)]
    refine ⟨(hz.2 j h1 h2).1, (hz.2 j h1 h2).2.1, fun i hi => ?_⟩
    rw [Hj _ (by omega)]
    exact (hz.2 j h1 h2).2.2 i hi
/-- a 'wish' LINE, an 'old' LINE -/
theorem RC_wi {ow : Int64 → Bool} {names souls : Int32} {nw sw : Nat → Int64} {fd ev fn wi ol wr wi' : Nat → Int32} {H : Nat → Int} {N : Nat → Int64} {O : Nat → Bool} {k : Nat} {u : Int} (h : RC ow names souls nw sw fd ev fn wi ol wr H N O) (hk : (k : Int) < H 1) (e1 : ∀ j, ¬ j = k → wi' j = wi j) (e2 : ¬ (wi' k).toInt = -1) (hu : 0 < u) : RC ow names souls nw sw fd ev fn wi' ol wr (setI H (47 + k) u) N O := by
  obtain ⟨hW, hd, he, hf, hi, ho, hv, hz⟩ := h
  have g := hW.1
  have Hj : ∀ j : Nat, ¬ j = 47 + k → setI H (47 + k) u j = H j := fun j hj => setI_ne hj
  refine ⟨RW_H hW (Hj _ (by omega)) (Hj _ (by omega)), RO_H hd (Hj _ (by omega)), RO_H he (Hj _ (by omega)), RF_H hf (Hj _ (by omega)) (fun _ _ => Hj _ (by omega)) (by omega), fun j hj => ?_, RH_H ho (Hj _ (by omega)) (fun _ _ => Hj _ (by omega)) (by omega), RV_H hv (Hj _ (by omega)) (fun _ _ => Hj _ (by omega)) (by omega), fun j h1 h2 => ?_, fun j h1 h2 => ?_⟩
  · rw [Hj 1 (by omega)] at hj
    by_cases e : j = k
    · subst e
      rw [setI_eq]
      exact ⟨⟨fun c => absurd c e2, fun c => by omega⟩, by omega⟩
    · rw [e1 j e, Hj _ (by omega)]
      exact hi j hj
  · rw [Hj 0 (by omega)] at h1
    exact hz.1 j h1 h2
  · rw [Hj 1 (by omega)] at h1
    rw [Hj _ (by omega), Hj _ (by omega)]
    refine ⟨(hz.2 j h1 h2).1, (hz.2 j h1 h2).2.1, fun i hi => ?_⟩
    rw [Hj _ (by omega)]
    exact (hz.2 j h1 h2).2.2 i hi
theorem RC_ol {ow : Int64 → Bool} {names souls : Int32} {nw sw : Nat → Int64} {fd ev fn wi ol wr ol' : Nat → Int32} {H : Nat → Int} {N : Nat → Int64} {O : Nat → Bool} {k : Nat} {u : Int} (h : RC ow names souls nw sw fd ev fn wi ol wr H N O) (hk : (k : Int) < H 1) (e1 : ∀ j, ¬ j = k → ol' j = ol j) (e2 : ¬ (ol' k).toInt = -1) (hu : 0 < u) : RC ow names souls nw sw fd ev fn wi ol' wr (setI H (137 + k) u) N O := by
  obtain ⟨hW, hd, he, hf, hi, ho, hv, hz⟩ := h
  have g := hW.1
  have Hj : ∀ j : Nat, ¬ j = 137 + k → setI H (137 + k) u j = H j := fun j hj => setI_ne hj
  refine ⟨RW_H hW (Hj _ (by omega)) (Hj _ (by omega)), RO_H hd (Hj _ (by omega)), RO_H he (Hj _ (by omega)), RF_H hf (Hj _ (by omega)) (fun _ _ => Hj _ (by omega)) (by omega), RH_H hi (Hj _ (by omega)) (fun _ _ => Hj _ (by omega)) (by omega), fun j hj => ?_, RV_H hv (Hj _ (by omega)) (fun _ _ => Hj _ (by omega)) (by omega), fun j h1 h2 => ?_, fun j h1 h2 => ?_⟩
  · rw [Hj 1 (by omega)] at hj
    by_cases e : j = k
    · subst e
      rw [setI_eq]
      exact ⟨⟨fun c => absurd c e2, fun c => by omega⟩, by omega⟩
    · rw [e1 j e, Hj _ (by omega)]
      exact ho j hj
  · rw [Hj 0 (by omega)] at h1
    exact hz.1 j h1 h2
  · rw [Hj 1 (by omega)] at h1
    rw [Hj _ (by omega), Hj _ (by omega)]
    refine ⟨(hz.2 j h1 h2).1, (hz.2 j h1 h2).2.1, fun i hi => ?_⟩
    rw [Hj _ (by omega)]
    exact (hz.2 j h1 h2).2.2 i hi
/-- a 'worth' LINE -/
theorem RC_wr {ow : Int64 → Bool} {names souls : Int32} {nw sw : Nat → Int64} {fd ev fn wi ol wr wr' : Nat → Int32} {H : Nat → Int} {N : Nat → Int64} {O : Nat → Bool} {k i : Nat} {u : Int} (h : RC ow names souls nw sw fd ev fn wi ol wr H N O) (hk : (k : Int) < H 1) (hi9 : i < 9) (e1 : ∀ j, ¬ j = 9 * k + i → wr' j = wr j) (e2 : (wr' (9 * k + i)).toInt = u) (hu : 0 ≤ u) : RC ow names souls nw sw fd ev fn wi ol wr' (setI H (56 + 9 * k + i) u) N O := by
  obtain ⟨hW, hd, he, hf, hi, ho, hv, hz⟩ := h
  have g := hW.1
  have Hj : ∀ j : Nat, ¬ j = 56 + 9 * k + i → setI H (56 + 9 * k + i) u j = H j := fun j hj => setI_ne hj
  refine ⟨RW_H hW (Hj _ (by omega)) (Hj _ (by omega)), RO_H hd (Hj _ (by omega)), RO_H he (Hj _ (by omega)), RF_H hf (Hj _ (by omega)) (fun _ _ => Hj _ (by omega)) (by omega), RH_H hi (Hj _ (by omega)) (fun _ _ => Hj _ (by omega)) (by omega), RH_H ho (Hj _ (by omega)) (fun _ _ => Hj _ (by omega)) (by omega), fun j hj l hl => ?_, fun j h1 h2 => ?_, fun j h1 h2 => ?_⟩
  · rw [Hj 1 (by omega)] at hj
    by_cases e : 9 * j + l = 9 * k + i
    · rw [show 56 + 9 * j + l = 56 + 9 * k + i by omega, e, setI_eq]
      exact ⟨e2, hu⟩
    · rw [e1 _ e, Hj _ (by omega)]
      exact hv j hj l hl
  · rw [Hj 0 (by omega)] at h1
    exact hz.1 j h1 h2
  · rw [Hj 1 (by omega)] at h1
    rw [Hj _ (by omega), Hj _ (by omega)]
    refine ⟨(hz.2 j h1 h2).1, (hz.2 j h1 h2).2.1, fun l hl => ?_⟩
    rw [Hj _ (by omega)]
    exact (hz.2 j h1 h2).2.2 l hl
/-- a 'soul' LINE -/
theorem RC_soul {ow : Int64 → Bool} {names souls souls' : Int32} {nw sw sw' : Nat → Int64} {fd ev fn wi ol wr fn' wi' ol' wr' : Nat → Int32} {H H' : Nat → Int} {N : Nat → Int64} {O : Nat → Bool} {w : Int64} (h : RC ow names souls nw sw fd ev fn wi ol wr H N O) (h9 : H 1 < 9) (hw : ow w = false) (en : sw' = vp_updL sw souls.toNatClampNeg w) (ei : wi' = upd wi souls.toNatClampNeg (-1)) (eo : ol' = upd ol souls.toNatClampNeg (-1)) (ev9 : ∀ j : Nat, wr' j = if 9 * souls.toInt ≤ (j : Int) ∧ (j : Int) < 9 * souls.toInt + 9 then 0 else wr j) (hn : souls'.toInt = souls.toInt + 1) (ef : ∀ j : Nat, ¬ j = (H 1).toNat → fn' j = fn j) (ef2 : (fn' (H 1).toNat).toInt + 1 = H' (38 + (H 1).toNat)) (eH1 : H' 1 = H 1 + 1) (eH : ∀ j : Nat, ¬ j = 1 → ¬ j = 29 + (H 1).toNat → ¬ j = 38 + (H 1).toNat → H' j = H j) : RC ow names souls' nw sw' fd ev fn' wi' ol' wr' H' (setW N (27 + (H 1).toNat) w) O := by
  obtain ⟨hW, hd, he, hf, hi, ho, hv, hz⟩ := h
  obtain ⟨⟨g1, g2, g3, g4, g5, g6⟩, gn, gs⟩ := hW
  have i0 : souls.toNatClampNeg = (H 1).toNat := show souls.toInt.toNat = (H 1).toNat by rw [g2]
  have H0 : H' 0 = H 0 := eH 0 (by omega) (by omega) (by omega)
  have Hj : ∀ j : Nat, 47 ≤ j → H' j = H j := fun j hj => eH j (by omega) (by omega) (by omega)
  rw [i0] at en ei eo
  refine ⟨⟨⟨by rw [H0]; exact g1, by rw [eH1]; omega, by rw [H0]; exact g3, by rw [H0]; exact g4, by rw [eH1]; omega, by rw [eH1]; omega⟩, fun k hk => ?_, fun k hk => ?_⟩, RO_H hd H0, RO_H he H0, fun k hk => ?_, fun k hk => ?_, fun k hk => ?_, fun k hk j hj => ?_, fun k h1 h2 => ?_, fun k h1 h2 => ?_⟩
  · rw [H0] at hk
    have := gn k hk
    exact ⟨by rw [show setW N (27 + (H 1).toNat) w (18 + k) = N (18 + k) from if_neg (by omega)]; exact this.1, this.2⟩
  · rw [eH1] at hk
    rw [en]
    by_cases e : k = (H 1).toNat
    · subst e
      exact ⟨by simp [vp_updL, setW], by simp [vp_updL, hw]⟩
    · have := gs k (by omega)
      rw [show vp_updL sw (H 1).toNat w k = sw k from if_neg e]
      exact ⟨by rw [show setW N (27 + (H 1).toNat) w (27 + k) = N (27 + k) from if_neg (by omega)]; exact this.1, this.2⟩
  · rw [eH1] at hk
    by_cases e : k = (H 1).toNat
    · subst e
      exact ef2
    · rw [ef k e, eH _ (by omega) (by omega) (by omega)]
      exact hf k (by omega)
  · rw [eH1] at hk
    rw [ei, Hj _ (by omega)]
    by_cases e : k = (H 1).toNat
    · subst e
      rw [show upd wi (H 1).toNat (-1) (H 1).toNat = -1 from if_pos rfl, (hz.2 (H 1).toNat (by omega) (by omega)).1]
      exact ⟨⟨fun _ => rfl, fun _ => by decide⟩, by decide⟩
    · rw [show upd wi (H 1).toNat (-1) k = wi k from if_neg e]
      exact hi k (by omega)
  · rw [eH1] at hk
    rw [eo, Hj _ (by omega)]
    by_cases e : k = (H 1).toNat
    · subst e
      rw [show upd ol (H 1).toNat (-1) (H 1).toNat = -1 from if_pos rfl, (hz.2 (H 1).toNat (by omega) (by omega)).2.1]
      exact ⟨⟨fun _ => rfl, fun _ => by decide⟩, by decide⟩
    · rw [show upd ol (H 1).toNat (-1) k = ol k from if_neg e]
      exact ho k (by omega)
  · rw [eH1] at hk
    rw [Hj _ (by omega), ev9]
    by_cases e : k = (H 1).toNat
    · subst e
      rw [if_pos (by omega), (hz.2 (H 1).toNat (by omega) (by omega)).2.2 j hj]
      exact ⟨by decide, by decide⟩
    · rw [if_neg (by omega)]
      exact hv k (by omega) j hj
  · rw [H0] at h1
    exact hz.1 k h1 h2
  · rw [eH1] at h1
    rw [Hj _ (by omega), Hj _ (by omega)]
    have := hz.2 k (by omega) h2
    refine ⟨this.1, this.2.1, fun j hj => ?_⟩
    rw [Hj _ (by omega)]
    exact this.2.2 j hj
/-- the NAMES' half, the SOULS' half -/
def RWn (ow : Int64 → Bool) (names : Int32) (nw : Nat → Int64) (H : Nat → Int) (N : Nat → Int64) : Prop := (names.toInt = H 0 ∧ 0 ≤ H 0 ∧ H 0 ≤ 9) ∧ ∀ k : Nat, (k : Int) < H 0 → nw k = N (18 + k) ∧ ow (nw k) = false
def RWs (ow : Int64 → Bool) (souls : Int32) (sw : Nat → Int64) (H : Nat → Int) (N : Nat → Int64) : Prop := (souls.toInt = H 1 ∧ 0 ≤ H 1 ∧ H 1 ≤ 9) ∧ ∀ k : Nat, (k : Int) < H 1 → sw k = N (27 + k) ∧ ow (sw k) = false
theorem RW_hn {ow : Int64 → Bool} {names souls : Int32} {nw sw : Nat → Int64} {H : Nat → Int} {N : Nat → Int64} (h : RW ow names souls nw sw H N) : RWn ow names nw H N := ⟨⟨h.1.1, h.1.2.2.1, h.1.2.2.2.1⟩, h.2.1⟩
theorem RW_hs {ow : Int64 → Bool} {names souls : Int32} {nw sw : Nat → Int64} {H : Nat → Int} {N : Nat → Int64} (h : RW ow names souls nw sw H N) : RWs ow souls sw H N := ⟨⟨h.1.2.1, h.1.2.2.2.2.1, h.1.2.2.2.2.2⟩, h.2.2⟩
theorem RWn_f {ow : Int64 → Bool} {names : Int32} {nw : Nat → Int64} {H : Nat → Int} {N : Nat → Int64} (h : RWn ow names nw H N) (w : Int64) : fdx nw 0 w names.toInt.toNat = fdx N 18 w (H 0).toNat := by
  rw [show names.toInt.toNat = (H 0).toNat by rw [h.1.1]]
  exact fdx_cong _ (fun j hj => by rw [Nat.zero_add]; exact (h.2 j (by omega)).1)
theorem RWs_f {ow : Int64 → Bool} {souls : Int32} {sw : Nat → Int64} {H : Nat → Int} {N : Nat → Int64} (h : RWs ow souls sw H N) (w : Int64) : fdx sw 0 w souls.toInt.toNat = fdx N 27 w (H 1).toNat := by
  rw [show souls.toInt.toNat = (H 1).toNat by rw [h.1.1]]
  exact fdx_cong _ (fun j hj => by rw [Nat.zero_add]; exact (h.2 j (by omega)).1)
theorem RWn_o {ow : Int64 → Bool} {names : Int32} {nw : Nat → Int64} {H : Nat → Int} {N : Nat → Int64} (h : RWn ow names nw H N) {w : Int64} (hf : ¬ fdx N 18 w (H 0).toNat = -1) : ow w = false ∧ 0 ≤ fdx N 18 w (H 0).toNat ∧ fdx N 18 w (H 0).toNat < H 0 := by
  have h1 := fdx_rng (row := N) (a := 18) (w := w) (H 0).toNat
  have h2 := fdx_hit (row := N) (a := 18) (w := w) (H 0).toNat hf
  have h3 := h.1
  have h4 := h.2 (fdx N 18 w (H 0).toNat).toNat (by omega)
  rw [h4.1, h2] at h4
  exact ⟨h4.2, by omega, by omega⟩
theorem RWs_o {ow : Int64 → Bool} {souls : Int32} {sw : Nat → Int64} {H : Nat → Int} {N : Nat → Int64} (h : RWs ow souls sw H N) {w : Int64} (hf : ¬ fdx N 27 w (H 1).toNat = -1) : ow w = false ∧ 0 ≤ fdx N 27 w (H 1).toNat ∧ fdx N 27 w (H 1).toNat < H 1 := by
  have h1 := fdx_rng (row := N) (a := 27) (w := w) (H 1).toNat
  have h2 := fdx_hit (row := N) (a := 27) (w := w) (H 1).toNat hf
  have h3 := h.1
  have h4 := h.2 (fdx N 27 w (H 1).toNat).toNat (by omega)
  rw [h4.1, h2] at h4
  exact ⟨h4.2, by omega, by omega⟩
/-- what a passed or refused TOKEN says, of a WORD that is to be known -/
theorem kn_of {f : Nat → Int32} {n m t a : Nat} {ow : Int64 → Bool} {N : Nat → Int64} {k fo : Int} {w : Int64} (hw : sK f n m t = 1 → w = sW f n m t) (hf : fo = fdx N a w k.toNat) (hm : wMay f n m ow t) : fo = fdx N a (sW f n m t) k.toNat := by
  rw [hf, hw hm.1]
theorem borne_t {H : Nat → Int} {j : Int} : ∀ k : Nat, borne H j k = true ↔ ∃ q : Nat, q < k ∧ H (38 + q) = j + 1 := by
  intro k
  induction k with
  | zero => exact ⟨fun h => absurd (show false = true from h) (by decide), fun ⟨q, h, _⟩ => by omega⟩
  | succ k ih =>
    show (borne H j k || decide (H (38 + k) = j + 1)) = true ↔ _
    rw [Bool.or_eq_true, ih, decide_eq_true_eq]
    constructor
    · rintro (⟨q, h1, h2⟩ | h)
      · exact ⟨q, by omega, h2⟩
      · exact ⟨k, by omega, h⟩
    · rintro ⟨q, h1, h2⟩
      by_cases e : q = k
      · rw [e] at h2; exact Or.inr h2
      · exact Or.inl ⟨q, by omega, h2⟩
