abbrev pre_X7_addSoul (T : Nat → ClassId) (a ex : Nat → Nat) (fi : Nat → Nat → Int32) (fl : Nat → Nat → Int64) (vi : Nat → Int32) (vl : Nat → Int64) : va_W := [((a 0), .inr (7, [.int (vi 1), .int (vi 2), .ref (ex 0), .ref (ex 1), .ref (ex 2), .ref (ex 3), .ref (a 1), .ref (a 2), .ref (a 3), .ref (a 4), .ref (a 5), .ref (a 6)])), ((a 1), .inl (T 2, 9, .inr (.inl (fl 0)))), ((a 2), .inl (T 1, 9, .inl (fi 0))), ((a 3), .inl (T 1, 9, .inl (fi 1))), ((a 4), .inl (T 1, 9, .inl (fi 2))), ((a 5), .inl (T 1, 9, .inl (fi 3))), ((a 6), .inl (T 1, 81, .inl (fi 4)))]
set_option maxHeartbeats 8000000 in
set_option maxRecDepth 100000 in
theorem c_X7_addSoul (l : Launch) (D : va_G) (T : Nat → ClassId) (a ex : Nat → Nat) (fi : Nat → Nat → Int32) (fl : Nat → Nat → Int64) (vi : Nat → Int32) (vl : Nat → Int64) (sz : Nat) (hp0 : 0 ≤ (vi 1).toInt ∧ (vi 1).toInt ≤ 9) (hp1 : 0 ≤ (vi 2).toInt ∧ (vi 2).toInt ≤ 9) : Met l yX7_addSoul (xw yX7_addSoul cX7_addSoul 5 none) ({ frames := 0, cells := 0, slots := 0, locals := 0 }) (xP D T [.ref (a 0), .long (vl 0), .int (vi 0)] sz (pre_X7_addSoul T a ex fi fl vi vl)) (va_Qv (fun _ : Int32 => True) (xC D (va_A (pre_X7_addSoul T a ex fi fl vi vl) sz) (fun fj fm vj vm => [((a 0), .inr (7, [.int (vi 1), .int (vj 0), .ref (ex 0), .ref (ex 1), .ref (ex 2), .ref (ex 3), .ref (a 1), .ref (a 2), .ref (a 3), .ref (a 4), .ref (a 5), .ref (a 6)])), ((a 1), .inl (T 2, 9, .inr (.inl (fm 0)))), ((a 2), .inl (T 1, 9, .inl (fj 0))), ((a 3), .inl (T 1, 9, .inl (fj 1))), ((a 4), .inl (T 1, 9, .inl (fj 2))), ((a 5), .inl (T 1, 9, .inl (fj 3))), ((a 6), .inl (T 1, 81, .inl (fj 4)))]) (fun (r : Int32) (fj : Nat → Nat → Int32) (fm : Nat → Nat → Int64) (vj : Nat → Int32) (vm : Nat → Int64) => (0 ≤ (vj 0).toInt ∧ (vj 0).toInt ≤ 9) ∧ True)) (va_A (pre_X7_addSoul T a ex fi fl vi vl) sz)) 0 0 (va_A (pre_X7_addSoul T a ex fi fl vi vl) sz) := by
  refine xofW (cc := cX7_addSoul) (maxL := 5) (ret := none) (by decide) rfl ?_
  intro p e s m args below meth c s₁ R Q hR hQ B hml hv
  obtain ⟨rfl, hsz, hP, hK, hD0⟩ := hv
  have hx := B.exec
  have hb := B.bytes
  have hr := B.returns
  have hts := atoms_spec (ws := xw yX7_addSoul cX7_addSoul 5 none) B.pre
  have htg : ∀ w ∈ xg, w.before _ s = true := fun w h => hts w (List.mem_cons_of_mem _ h)
  have hown : s.vm.findClass RX7 = some m.cls := findClass_of_methodNamed B.named
  have hlocks := B.notSynchronized
  subst hsz
  have hD := hD0.self (sz := s.heap.size)
  generalize hAe : va_A (pre_X7_addSoul T a ex fi fl vi vl) s.heap.size = A at hD hQ
  have hA : ∀ q : Nat, s.heap.size ≤ q → A q := fun q h => by rw [← hAe]; exact Or.inr h
  have hS : va_S A s.heap s.heap [] := va_S.rf
  replace hP : va_P D vwCl [((a 0), .inr (7, [.int (vi 1), .int (vi 2), .ref (ex 0), .ref (ex 1), .ref (ex 2), .ref (ex 3), .ref (a 1), .ref (a 2), .ref (a 3), .ref (a 4), .ref (a 5), .ref (a 6)])), ((a 1), .inl (T 2, 9, .inr (.inl (fl 0)))), ((a 2), .inl (T 1, 9, .inl (fi 0))), ((a 3), .inl (T 1, 9, .inl (fi 1))), ((a 4), .inl (T 1, 9, .inl (fi 2))), ((a 5), .inl (T 1, 9, .inl (fi 3))), ((a 6), .inl (T 1, 81, .inl (fi 4)))] s.heap := hP
  replace hD : va_D A [((a 0), .inr (7, [.int (vi 1), .int (vi 2), .ref (ex 0), .ref (ex 1), .ref (ex 2), .ref (ex 3), .ref (a 1), .ref (a 2), .ref (a 3), .ref (a 4), .ref (a 5), .ref (a 6)])), ((a 1), .inl (T 2, 9, .inr (.inl (fl 0)))), ((a 2), .inl (T 1, 9, .inl (fi 0))), ((a 3), .inl (T 1, 9, .inl (fi 1))), ((a 4), .inl (T 1, 9, .inl (fi 2))), ((a 5), .inl (T 1, 9, .inl (fi 3))), ((a 6), .inl (T 1, 81, .inl (fi 4)))] := hD
  have hl := lv_entry ([.ref (a 0), .long (vl 0), .int (vi 0)]) (n := 5) (Nat.le_of_ble_eq_true rfl)
  rw [lg_entry_eq]
  generalize (lg_sl ([.ref (a 0), .long (vl 0), .int (vi 0)]) ++ List.replicate (5 - (lg_sl ([.ref (a 0), .long (vl 0), .int (vi 0)])).length) Slot.unset).toArray = ls at hl ⊢
  replace hl : lv_has ls 5 [(0, .ref (a 0)), (1, .long (vl 0)), (3, .int (vi 0))] := hl
  refine lv_aload_n hx hb dX7_addSoul_0 rfl (lv_at hl 0 rfl) ?_
  refine va_get (D := D) (ci := 7) (v := .int (vi 2)) (C := RX7) (T := TX7) (N := 12) hx hb htg inX7 hown hK.1 hP 0 rfl rfl 1 (by decide) (htg _ kw_163) (fun _ h9 => h9) rfl dX7_addSoul_1 ?_
  refine lv_bipush (v := 9) hx hb dX7_addSoul_4 (by decide) ?_
  refine lv_icmp_ge (tgt := 101) hx hb dX7_addSoul_6 (by decide) (fun c6 => ?_) (fun c6 => ?_)
  · have c6 := xge (k := 9) (by decide) c6
    have hP9 := hP.sub (ws' := [((a 0), .inr (7, [.int (vi 1), .int (vi 2), .ref (ex 0), .ref (ex 1), .ref (ex 2), .ref (ex 3), .ref (a 1), .ref (a 2), .ref (a 3), .ref (a 4), .ref (a 5), .ref (a 6)])), ((a 1), .inl (T 2, 9, .inr (.inl (fl 0)))), ((a 2), .inl (T 1, 9, .inl (fi 0))), ((a 3), .inl (T 1, 9, .inl (fi 1))), ((a 4), .inl (T 1, 9, .inl (fi 2))), ((a 5), .inl (T 1, 9, .inl (fi 3))), ((a 6), .inl (T 1, 81, .inl (fi 4)))]) [0, 1, 2, 3, 4, 5, 6] rfl
    have hD9 := hD.sub (ws' := [((a 0), .inr (7, [.int (vi 1), .int (vi 2), .ref (ex 0), .ref (ex 1), .ref (ex 2), .ref (ex 3), .ref (a 1), .ref (a 2), .ref (a 3), .ref (a 4), .ref (a 5), .ref (a 6)])), ((a 1), .inl (T 2, 9, .inr (.inl (fl 0)))), ((a 2), .inl (T 1, 9, .inl (fi 0))), ((a 3), .inl (T 1, 9, .inl (fi 1))), ((a 4), .inl (T 1, 9, .inl (fi 2))), ((a 5), .inl (T 1, 9, .inl (fi 3))), ((a 6), .inl (T 1, 81, .inl (fi 4)))]) [0, 1, 2, 3, 4, 5, 6] (by decide +kernel) rfl
    rw [hQ]
    exact W.vret hx hb hr (fun t ht hW => ⟨⟨(0 : Int32), rfl, trivial, xf [(fi 0), (fi 1), (fi 2), (fi 3), (fi 4)], xh [(fl 0)], xv [(vi 2)], xl [], by rw [ht]; exact hP9, hD9, ⟨(by show 0 ≤ (vi 2).toInt ∧ (vi 2).toInt ≤ 9; omega), trivial⟩⟩, hS.F ht⟩) hS.2.2 dX7_addSoul_101
  · have c6 := xnge (k := 9) (by decide) c6
    refine lv_aload_n hx hb dX7_addSoul_9 rfl (lv_at hl 0 rfl) ?_
    refine va_get (D := D) (ci := 7) (v := .ref (a 1)) (C := RX7) (T := TX7) (N := 12) hx hb htg inX7 hown hK.1 hP 0 rfl rfl 6 (by decide) (htg _ kw_180) (fun _ h9 => h9) rfl dX7_addSoul_10 ?_
    refine lv_aload_n hx hb dX7_addSoul_13 rfl (lv_at hl 0 rfl) ?_
    refine va_get (D := D) (ci := 7) (v := .int (vi 2)) (C := RX7) (T := TX7) (N := 12) hx hb htg inX7 hown hK.1 hP 0 rfl rfl 1 (by decide) (htg _ kw_163) (fun _ h9 => h9) rfl dX7_addSoul_14 ?_
    refine lv_lload_n hx hb dX7_addSoul_17 rfl (lv_at hl 1 rfl) ?_
    refine va_last hx hb hK.1 hP hD hS 1 2 rfl rfl (vp_in_iff.mpr (by omega)) dX7_addSoul_18 (fun H locs hP hD hS => ?_)
    obtain ⟨f18, ef18, hP, hD⟩ : ∃ f7 : Nat → Int64, f7 = vp_updL (fl 0) (vi 2).toNatClampNeg ((vl 0) : Int64) ∧ va_P D vwCl [((a 0), .inr (7, [.int (vi 1), .int (vi 2), .ref (ex 0), .ref (ex 1), .ref (ex 2), .ref (ex 3), .ref (a 1), .ref (a 2), .ref (a 3), .ref (a 4), .ref (a 5), .ref (a 6)])), ((a 1), .inl (T 2, 9, .inr (.inl f7))), ((a 2), .inl (T 1, 9, .inl (fi 0))), ((a 3), .inl (T 1, 9, .inl (fi 1))), ((a 4), .inl (T 1, 9, .inl (fi 2))), ((a 5), .inl (T 1, 9, .inl (fi 3))), ((a 6), .inl (T 1, 81, .inl (fi 4)))] H ∧ va_D A [((a 0), .inr (7, [.int (vi 1), .int (vi 2), .ref (ex 0), .ref (ex 1), .ref (ex 2), .ref (ex 3), .ref (a 1), .ref (a 2), .ref (a 3), .ref (a 4), .ref (a 5), .ref (a 6)])), ((a 1), .inl (T 2, 9, .inr (.inl f7))), ((a 2), .inl (T 1, 9, .inl (fi 0))), ((a 3), .inl (T 1, 9, .inl (fi 1))), ((a 4), .inl (T 1, 9, .inl (fi 2))), ((a 5), .inl (T 1, 9, .inl (fi 3))), ((a 6), .inl (T 1, 81, .inl (fi 4)))] := ⟨_, rfl, hP, hD⟩
    refine lv_aload_n hx hb dX7_addSoul_19 rfl (lv_at hl 0 rfl) ?_
    refine va_get (D := D) (ci := 7) (v := .ref (a 2)) (C := RX7) (T := TX7) (N := 12) hx hb htg inX7 hown hK.1 hP 0 rfl rfl 7 (by decide) (htg _ kw_181) (fun _ h9 => h9) rfl dX7_addSoul_20 ?_
    refine lv_aload_n hx hb dX7_addSoul_23 rfl (lv_at hl 0 rfl) ?_
    refine va_get (D := D) (ci := 7) (v := .int (vi 2)) (C := RX7) (T := TX7) (N := 12) hx hb htg inX7 hown hK.1 hP 0 rfl rfl 1 (by decide) (htg _ kw_163) (fun _ h9 => h9) rfl dX7_addSoul_24 ?_
    refine lv_iload_n hx hb dX7_addSoul_27 rfl (lv_at hl 2 rfl) ?_
    refine va_iast hx hb hK.1 hP hD hS 2 1 rfl rfl (vp_in_iff.mpr (by omega)) dX7_addSoul_28 (fun H locs hP hD hS => ?_)
    obtain ⟨f28, ef28, hP, hD⟩ : ∃ f7 : Nat → Int32, f7 = upd (fi 0) (vi 2).toNatClampNeg ((vi 0) : Int32) ∧ va_P D vwCl [((a 0), .inr (7, [.int (vi 1), .int (vi 2), .ref (ex 0), .ref (ex 1), .ref (ex 2), .ref (ex 3), .ref (a 1), .ref (a 2), .ref (a 3), .ref (a 4), .ref (a 5), .ref (a 6)])), ((a 1), .inl (T 2, 9, .inr (.inl f18))), ((a 2), .inl (T 1, 9, .inl f7)), ((a 3), .inl (T 1, 9, .inl (fi 1))), ((a 4), .inl (T 1, 9, .inl (fi 2))), ((a 5), .inl (T 1, 9, .inl (fi 3))), ((a 6), .inl (T 1, 81, .inl (fi 4)))] H ∧ va_D A [((a 0), .inr (7, [.int (vi 1), .int (vi 2), .ref (ex 0), .ref (ex 1), .ref (ex 2), .ref (ex 3), .ref (a 1), .ref (a 2), .ref (a 3), .ref (a 4), .ref (a 5), .ref (a 6)])), ((a 1), .inl (T 2, 9, .inr (.inl f18))), ((a 2), .inl (T 1, 9, .inl f7)), ((a 3), .inl (T 1, 9, .inl (fi 1))), ((a 4), .inl (T 1, 9, .inl (fi 2))), ((a 5), .inl (T 1, 9, .inl (fi 3))), ((a 6), .inl (T 1, 81, .inl (fi 4)))] := ⟨_, rfl, hP, hD⟩
    refine lv_aload_n hx hb dX7_addSoul_29 rfl (lv_at hl 0 rfl) ?_
    refine va_get (D := D) (ci := 7) (v := .ref (a 3)) (C := RX7) (T := TX7) (N := 12) hx hb htg inX7 hown hK.1 hP 0 rfl rfl 8 (by decide) (htg _ kw_183) (fun _ h9 => h9) rfl dX7_addSoul_30 ?_
    refine lv_aload_n hx hb dX7_addSoul_33 rfl (lv_at hl 0 rfl) ?_
    refine va_get (D := D) (ci := 7) (v := .int (vi 2)) (C := RX7) (T := TX7) (N := 12) hx hb htg inX7 hown hK.1 hP 0 rfl rfl 1 (by decide) (htg _ kw_163) (fun _ h9 => h9) rfl dX7_addSoul_34 ?_
    refine lv_iconst (v := (-1)) hx hb dX7_addSoul_37 (by decide) ?_
    refine va_iast hx hb hK.1 hP hD hS 3 1 rfl rfl (vp_in_iff.mpr (by omega)) dX7_addSoul_38 (fun H locs hP hD hS => ?_)
    obtain ⟨f38, ef38, hP, hD⟩ : ∃ f7 : Nat → Int32, f7 = upd (fi 1) (vi 2).toNatClampNeg ((-1) : Int32) ∧ va_P D vwCl [((a 0), .inr (7, [.int (vi 1), .int (vi 2), .ref (ex 0), .ref (ex 1), .ref (ex 2), .ref (ex 3), .ref (a 1), .ref (a 2), .ref (a 3), .ref (a 4), .ref (a 5), .ref (a 6)])), ((a 1), .inl (T 2, 9, .inr (.inl f18))), ((a 2), .inl (T 1, 9, .inl f28)), ((a 3), .inl (T 1, 9, .inl f7)), ((a 4), .inl (T 1, 9, .inl (fi 2))), ((a 5), .inl (T 1, 9, .inl (fi 3))), ((a 6), .inl (T 1, 81, .inl (fi 4)))] H ∧ va_D A [((a 0), .inr (7, [.int (vi 1), .int (vi 2), .ref (ex 0), .ref (ex 1), .ref (ex 2), .ref (ex 3), .ref (a 1), .ref (a 2), .ref (a 3), .ref (a 4), .ref (a 5), .ref (a 6)])), ((a 1), .inl (T 2, 9, .inr (.inl f18))), ((a 2), .inl (T 1, 9, .inl f28)), ((a 3), .inl (T 1, 9, .inl f7)), ((a 4), .inl (T 1, 9, .inl (fi 2))), ((a 5), .inl (T 1, 9, .inl (fi 3))), ((a 6), .inl (T 1, 81, .inl (fi 4)))] := ⟨_, rfl, hP, hD⟩
    refine lv_aload_n hx hb dX7_addSoul_39 rfl (lv_at hl 0 rfl) ?_
    refine va_get (D := D) (ci := 7) (v := .ref (a 4)) (C := RX7) (T := TX7) (N := 12) hx hb htg inX7 hown hK.1 hP 0 rfl rfl 9 (by decide) (htg _ kw_186) (fun _ h9 => h9) rfl dX7_addSoul_40 ?_
    refine lv_aload_n hx hb dX7_addSoul_43 rfl (lv_at hl 0 rfl) ?_
    refine va_get (D := D) (ci := 7) (v := .int (vi 2)) (C := RX7) (T := TX7) (N := 12) hx hb htg inX7 hown hK.1 hP 0 rfl rfl 1 (by decide) (htg _ kw_163) (fun _ h9 => h9) rfl dX7_addSoul_44 ?_
    refine lv_iconst (v := (-1)) hx hb dX7_addSoul_47 (by decide) ?_
    refine va_iast hx hb hK.1 hP hD hS 4 1 rfl rfl (vp_in_iff.mpr (by omega)) dX7_addSoul_48 (fun H locs hP hD hS => ?_)
    obtain ⟨f48, ef48, hP, hD⟩ : ∃ f7 : Nat → Int32, f7 = upd (fi 2) (vi 2).toNatClampNeg ((-1) : Int32) ∧ va_P D vwCl [((a 0), .inr (7, [.int (vi 1), .int (vi 2), .ref (ex 0), .ref (ex 1), .ref (ex 2), .ref (ex 3), .ref (a 1), .ref (a 2), .ref (a 3), .ref (a 4), .ref (a 5), .ref (a 6)])), ((a 1), .inl (T 2, 9, .inr (.inl f18))), ((a 2), .inl (T 1, 9, .inl f28)), ((a 3), .inl (T 1, 9, .inl f38)), ((a 4), .inl (T 1, 9, .inl f7)), ((a 5), .inl (T 1, 9, .inl (fi 3))), ((a 6), .inl (T 1, 81, .inl (fi 4)))] H ∧ va_D A [((a 0), .inr (7, [.int (vi 1), .int (vi 2), .ref (ex 0), .ref (ex 1), .ref (ex 2), .ref (ex 3), .ref (a 1), .ref (a 2), .ref (a 3), .ref (a 4), .ref (a 5), .ref (a 6)])), ((a 1), .inl (T 2, 9, .inr (.inl f18))), ((a 2), .inl (T 1, 9, .inl f28)), ((a 3), .inl (T 1, 9, .inl f38)), ((a 4), .inl (T 1, 9, .inl f7)), ((a 5), .inl (T 1, 9, .inl (fi 3))), ((a 6), .inl (T 1, 81, .inl (fi 4)))] := ⟨_, rfl, hP, hD⟩
    refine lv_aload_n hx hb dX7_addSoul_49 rfl (lv_at hl 0 rfl) ?_
    refine va_get (D := D) (ci := 7) (v := .ref (a 5)) (C := RX7) (T := TX7) (N := 12) hx hb htg inX7 hown hK.1 hP 0 rfl rfl 10 (by decide) (htg _ kw_191) (fun _ h9 => h9) rfl dX7_addSoul_50 ?_
    refine lv_aload_n hx hb dX7_addSoul_53 rfl (lv_at hl 0 rfl) ?_
    refine va_get (D := D) (ci := 7) (v := .int (vi 2)) (C := RX7) (T := TX7) (N := 12) hx hb htg inX7 hown hK.1 hP 0 rfl rfl 1 (by decide) (htg _ kw_163) (fun _ h9 => h9) rfl dX7_addSoul_54 ?_
    refine lv_iconst (v := (-1)) hx hb dX7_addSoul_57 (by decide) ?_
    refine va_iast hx hb hK.1 hP hD hS 5 1 rfl rfl (vp_in_iff.mpr (by omega)) dX7_addSoul_58 (fun H locs hP hD hS => ?_)
    obtain ⟨f58, ef58, hP, hD⟩ : ∃ f7 : Nat → Int32, f7 = upd (fi 3) (vi 2).toNatClampNeg ((-1) : Int32) ∧ va_P D vwCl [((a 0), .inr (7, [.int (vi 1), .int (vi 2), .ref (ex 0), .ref (ex 1), .ref (ex 2), .ref (ex 3), .ref (a 1), .ref (a 2), .ref (a 3), .ref (a 4), .ref (a 5), .ref (a 6)])), ((a 1), .inl (T 2, 9, .inr (.inl f18))), ((a 2), .inl (T 1, 9, .inl f28)), ((a 3), .inl (T 1, 9, .inl f38)), ((a 4), .inl (T 1, 9, .inl f48)), ((a 5), .inl (T 1, 9, .inl f7)), ((a 6), .inl (T 1, 81, .inl (fi 4)))] H ∧ va_D A [((a 0), .inr (7, [.int (vi 1), .int (vi 2), .ref (ex 0), .ref (ex 1), .ref (ex 2), .ref (ex 3), .ref (a 1), .ref (a 2), .ref (a 3), .ref (a 4), .ref (a 5), .ref (a 6)])), ((a 1), .inl (T 2, 9, .inr (.inl f18))), ((a 2), .inl (T 1, 9, .inl f28)), ((a 3), .inl (T 1, 9, .inl f38)), ((a 4), .inl (T 1, 9, .inl f48)), ((a 5), .inl (T 1, 9, .inl f7)), ((a 6), .inl (T 1, 81, .inl (fi 4)))] := ⟨_, rfl, hP, hD⟩
    refine lv_iconst (v := 0) hx hb dX7_addSoul_59 (by decide) ?_
    refine lv_istore (lv' := [(4, .int 0), (0, .ref (a 0)), (1, .long (vl 0)), (3, .int (vi 0))]) hx hb dX7_addSoul_60 hl (by decide) rfl (fun ls hl => ?_)
    have lp : ∀ (kn : Nat) (w4 : Int32) (wf : Nat → Int32) (H : Heap) (locs : List Loc) (ls : Array Slot), (0 ≤ w4.toInt) → (2147483648 - w4.toInt).toNat = kn → va_P D vwCl [((a 0), .inr (7, [.int (vi 1), .int (vi 2), .ref (ex 0), .ref (ex 1), .ref (ex 2), .ref (ex 3), .ref (a 1), .ref (a 2), .ref (a 3), .ref (a 4), .ref (a 5), .ref (a 6)])), ((a 1), .inl (T 2, 9, .inr (.inl f18))), ((a 2), .inl (T 1, 9, .inl f28)), ((a 3), .inl (T 1, 9, .inl f38)), ((a 4), .inl (T 1, 9, .inl f48)), ((a 5), .inl (T 1, 9, .inl f58)), ((a 6), .inl (T 1, 81, .inl wf))] H → va_D A [((a 0), .inr (7, [.int (vi 1), .int (vi 2), .ref (ex 0), .ref (ex 1), .ref (ex 2), .ref (ex 3), .ref (a 1), .ref (a 2), .ref (a 3), .ref (a 4), .ref (a 5), .ref (a 6)])), ((a 1), .inl (T 2, 9, .inr (.inl f18))), ((a 2), .inl (T 1, 9, .inl f28)), ((a 3), .inl (T 1, 9, .inl f38)), ((a 4), .inl (T 1, 9, .inl f48)), ((a 5), .inl (T 1, 9, .inl f58)), ((a 6), .inl (T 1, 81, .inl wf))] → va_S A s.heap H locs → lv_has ls 5 [(4, .int w4), (0, .ref (a 0)), (1, .long (vl 0)), (3, .int (vi 0))] → W p l e R s m ([.ref (a 0), .long (vl 0), .int (vi 0)] : List Value).toArray below meth c H locs 0 0 Q (F0 m 62 ls []) := by
      intro kn
      induction kn using Nat.strongRecOn with
      | _ kn ih =>
        intro w4 wf H locs ls hi hm hP hD hS hl
        refine lv_iload hx hb dX7_addSoul_62 (lv_at hl 0 rfl) ?_
        refine lv_bipush (v := 9) hx hb dX7_addSoul_64 (by decide) ?_
        refine lv_icmp_ge (tgt := 91) hx hb dX7_addSoul_66 (by decide) (fun c66 => ?_) (fun c66 => ?_)
        · have c66 := xge (k := 9) (by decide) c66
          refine lv_aload_n hx hb dX7_addSoul_91 rfl (lv_at hl 1 rfl) ?_
          refine lv_dup hx hb dX7_addSoul_92 rfl ?_
          refine va_get (D := D) (ci := 7) (v := .int (vi 2)) (C := RX7) (T := TX7) (N := 12) hx hb htg inX7 hown hK.1 hP 0 rfl rfl 1 (by decide) (htg _ kw_163) (fun _ h9 => h9) rfl dX7_addSoul_93 ?_
          refine lv_iconst (v := 1) hx hb dX7_addSoul_96 (by decide) ?_
          refine lv_iadd hx hb dX7_addSoul_97 ?_
          refine lv_topi (fun z97 ez97 => ?_)
          have tz97 : z97.toInt = (vi 2).toInt + 1 := by rw [ez97]; exact xadd rfl (by decide) (by omega) (by omega)
          refine va_put (D := D) (ci := 7) (v := .int z97) (ty := .int) (C := RX7) (T := TX7) (N := 12) hx hb htg inX7 tyX7 tyX7_ok nmX7 hown hK.1 hP hD hS 0 rfl rfl 1 (by decide) (htg _ kw_163) (fun _ h9 => h9) rfl (by decide +kernel) rfl rfl (Nat.le_of_ble_eq_true rfl) dX7_addSoul_98 (fun H locs hP hD hS => ?_)
          replace hP : va_P D vwCl [((a 0), .inr (7, [.int (vi 1), .int z97, .ref (ex 0), .ref (ex 1), .ref (ex 2), .ref (ex 3), .ref (a 1), .ref (a 2), .ref (a 3), .ref (a 4), .ref (a 5), .ref (a 6)])), ((a 1), .inl (T 2, 9, .inr (.inl f18))), ((a 2), .inl (T 1, 9, .inl f28)), ((a 3), .inl (T 1, 9, .inl f38)), ((a 4), .inl (T 1, 9, .inl f48)), ((a 5), .inl (T 1, 9, .inl f58)), ((a 6), .inl (T 1, 81, .inl wf))] H := hP
          replace hD : va_D A [((a 0), .inr (7, [.int (vi 1), .int z97, .ref (ex 0), .ref (ex 1), .ref (ex 2), .ref (ex 3), .ref (a 1), .ref (a 2), .ref (a 3), .ref (a 4), .ref (a 5), .ref (a 6)])), ((a 1), .inl (T 2, 9, .inr (.inl f18))), ((a 2), .inl (T 1, 9, .inl f28)), ((a 3), .inl (T 1, 9, .inl f38)), ((a 4), .inl (T 1, 9, .inl f48)), ((a 5), .inl (T 1, 9, .inl f58)), ((a 6), .inl (T 1, 81, .inl wf))] := hD
          have hP9 := hP.sub (ws' := [((a 0), .inr (7, [.int (vi 1), .int z97, .ref (ex 0), .ref (ex 1), .ref (ex 2), .ref (ex 3), .ref (a 1), .ref (a 2), .ref (a 3), .ref (a 4), .ref (a 5), .ref (a 6)])), ((a 1), .inl (T 2, 9, .inr (.inl f18))), ((a 2), .inl (T 1, 9, .inl f28)), ((a 3), .inl (T 1, 9, .inl f38)), ((a 4), .inl (T 1, 9, .inl f48)), ((a 5), .inl (T 1, 9, .inl f58)), ((a 6), .inl (T 1, 81, .inl wf))]) [0, 1, 2, 3, 4, 5, 6] rfl
          have hD9 := hD.sub (ws' := [((a 0), .inr (7, [.int (vi 1), .int z97, .ref (ex 0), .ref (ex 1), .ref (ex 2), .ref (ex 3), .ref (a 1), .ref (a 2), .ref (a 3), .ref (a 4), .ref (a 5), .ref (a 6)])), ((a 1), .inl (T 2, 9, .inr (.inl f18))), ((a 2), .inl (T 1, 9, .inl f28)), ((a 3), .inl (T 1, 9, .inl f38)), ((a 4), .inl (T 1, 9, .inl f48)), ((a 5), .inl (T 1, 9, .inl f58)), ((a 6), .inl (T 1, 81, .inl wf))]) [0, 1, 2, 3, 4, 5, 6] (by decide +kernel) rfl
          rw [hQ]
          exact W.vret hx hb hr (fun t ht hW => ⟨⟨(0 : Int32), rfl, trivial, xf [f28, f38, f48, f58, wf], xh [f18], xv [z97], xl [], by rw [ht]; exact hP9, hD9, ⟨(by show 0 ≤ z97.toInt ∧ z97.toInt ≤ 9; omega), trivial⟩⟩, hS.F ht⟩) hS.2.2 dX7_addSoul_101
        · have c66 := xnge (k := 9) (by decide) c66
          refine lv_aload_n hx hb dX7_addSoul_69 rfl (lv_at hl 1 rfl) ?_
          refine va_get (D := D) (ci := 7) (v := .ref (a 6)) (C := RX7) (T := TX7) (N := 12) hx hb htg inX7 hown hK.1 hP 0 rfl rfl 11 (by decide) (htg _ kw_194) (fun _ h9 => h9) rfl dX7_addSoul_70 ?_
          refine lv_aload_n hx hb dX7_addSoul_73 rfl (lv_at hl 1 rfl) ?_
          refine va_get (D := D) (ci := 7) (v := .int (vi 2)) (C := RX7) (T := TX7) (N := 12) hx hb htg inX7 hown hK.1 hP 0 rfl rfl 1 (by decide) (htg _ kw_163) (fun _ h9 => h9) rfl dX7_addSoul_74 ?_
          refine lv_bipush (v := 9) hx hb dX7_addSoul_77 (by decide) ?_
          refine lv_imul hx hb dX7_addSoul_79 ?_
          refine lv_topi (fun z79 ez79 => ?_)
          have tz79 : z79.toInt = (vi 2).toInt * 9 := by rw [ez79]; exact xmul rfl (by decide) (by omega) (by omega)
          refine lv_iload hx hb dX7_addSoul_80 (lv_at hl 0 rfl) ?_
          refine lv_iadd hx hb dX7_addSoul_82 ?_
          refine lv_topi (fun z82 ez82 => ?_)
          have tz82 : z82.toInt = z79.toInt + w4.toInt := by rw [ez82]; exact xadd rfl rfl (by omega) (by omega)
          refine lv_iconst (v := 0) hx hb dX7_addSoul_83 (by decide) ?_
          refine va_iast hx hb hK.1 hP hD hS 6 1 rfl rfl (vp_in_iff.mpr (by omega)) dX7_addSoul_84 (fun H locs hP hD hS => ?_)
          obtain ⟨f84, ef84, hP, hD⟩ : ∃ f7 : Nat → Int32, f7 = upd wf z82.toNatClampNeg (0 : Int32) ∧ va_P D vwCl [((a 0), .inr (7, [.int (vi 1), .int (vi 2), .ref (ex 0), .ref (ex 1), .ref (ex 2), .ref (ex 3), .ref (a 1), .ref (a 2), .ref (a 3), .ref (a 4), .ref (a 5), .ref (a 6)])), ((a 1), .inl (T 2, 9, .inr (.inl f18))), ((a 2), .inl (T 1, 9, .inl f28)), ((a 3), .inl (T 1, 9, .inl f38)), ((a 4), .inl (T 1, 9, .inl f48)), ((a 5), .inl (T 1, 9, .inl f58)), ((a 6), .inl (T 1, 81, .inl f7))] H ∧ va_D A [((a 0), .inr (7, [.int (vi 1), .int (vi 2), .ref (ex 0), .ref (ex 1), .ref (ex 2), .ref (ex 3), .ref (a 1), .ref (a 2), .ref (a 3), .ref (a 4), .ref (a 5), .ref (a 6)])), ((a 1), .inl (T 2, 9, .inr (.inl f18))), ((a 2), .inl (T 1, 9, .inl f28)), ((a 3), .inl (T 1, 9, .inl f38)), ((a 4), .inl (T 1, 9, .inl f48)), ((a 5), .inl (T 1, 9, .inl f58)), ((a 6), .inl (T 1, 81, .inl f7))] := ⟨_, rfl, hP, hD⟩
          obtain ⟨i85, ei85⟩ : ∃ z : Int32, w4 + Int32.ofInt 1 = z := ⟨_, rfl⟩
          have ti85 : i85.toInt = w4.toInt + 1 := by rw [← ei85]; exact xadd rfl (by decide) (by omega) (by omega)
          refine lv_iinc (v := i85) (lv' := [(4, .int i85), (0, .ref (a 0)), (1, .long (vl 0)), (3, .int (vi 0))]) hx hb dX7_addSoul_85 hl (k := 0) rfl ei85 (by decide) rfl (fun ls hl => ?_)
          refine lv_goto (tgt := 62) hx hb dX7_addSoul_88 (by decide) ?_
          exact ih _ (by omega) i85 f84 _ _ _ (by show 0 ≤ i85.toInt; omega) rfl (hP.sub [0, 1, 2, 3, 4, 5, 6] rfl) (hD.sub [0, 1, 2, 3, 4, 5, 6] (by decide) rfl) hS (lv_sub hl [0, 1, 2, 3] rfl)
    exact lp _ (0 : Int32) (fi 4) _ _ _ (by show 0 ≤ (0 : Int32).toInt; have k9_0 : (0 : Int32).toInt = 0 := by decide; omega) rfl hP hD hS hl
abbrev pre_X7_isFeast (T : Nat → ClassId) (a ex : Nat → Nat) (fi : Nat → Nat → Int32) (fl : Nat → Nat → Int64) (vi : Nat → Int32) (vl : Nat → Int64) : va_W := [((a 0), .inr (7, [.int (vi 2), .int (vi 3), .ref (ex 0), .ref (ex 1), .ref (ex 2), .ref (a 1), .ref (ex 3), .ref (ex 4), .ref (ex 5), .ref (ex 6), .ref (ex 7), .ref (ex 8)])), ((a 1), .inl (T 1, 9, .inl (fi 0)))]
set_option maxHeartbeats 8000000 in
set_option maxRecDepth 100000 in
theorem c_X7_isFeast (l : Launch) (D : va_G) (T : Nat → ClassId) (a ex : Nat → Nat) (fi : Nat → Nat → Int32) (fl : Nat → Nat → Int64) (vi : Nat → Int32) (vl : Nat → Int64) (sz : Nat) (hp0 : 0 ≤ (vi 1).toInt ∧ (vi 1).toInt ≤ 200) (hp1 : 0 ≤ (vi 2).toInt ∧ (vi 2).toInt ≤ 9) (hp2 : 0 ≤ (vi 3).toInt ∧ (vi 3).toInt ≤ 9) : Met l yX7_isFeast (xw yX7_isFeast cX7_isFeast 3 (some .boolean)) ({ frames := 0, cells := 0, slots := 0, locals := 0 }) (xP D T [.ref (a 0), .int (vi 0), .int (vi 1)] sz (pre_X7_isFeast T a ex fi fl vi vl)) (va_Qi (fun r u => r = u) (xC D (va_A (pre_X7_isFeast T a ex fi fl vi vl) sz) (fun fj fm vj vm => [((a 0), .inr (7, [.int (vi 2), .int (vi 3), .ref (ex 0), .ref (ex 1), .ref (ex 2), .ref (a 1), .ref (ex 3), .ref (ex 4), .ref (ex 5), .ref (ex 6), .ref (ex 7), .ref (ex 8)])), ((a 1), .inl (T 1, 9, .inl (fi 0)))]) (fun (r : Int32) (fj : Nat → Nat → Int32) (fm : Nat → Nat → Int64) (vj : Nat → Int32) (vm : Nat → Int64) => ((r = 1 ∧ (True)) ∨ (r = 0 ∧ (True))) ∧ True)) (va_A (pre_X7_isFeast T a ex fi fl vi vl) sz)) 0 0 (va_A (pre_X7_isFeast T a ex fi fl vi vl) sz) := by
  refine xofW (cc := cX7_isFeast) (maxL := 3) (ret := (some .boolean)) (by decide) rfl ?_
  intro p e s m args below meth c s₁ R Q hR hQ B hml hv
  obtain ⟨rfl, hsz, hP, hK, hD0⟩ := hv
  have hx := B.exec
  have hb := B.bytes
  have hr := B.returns
  have hts := atoms_spec (ws := xw yX7_isFeast cX7_isFeast 3 (some .boolean)) B.pre
  have htg : ∀ w ∈ xg, w.before _ s = true := fun w h => hts w (List.mem_cons_of_mem _ h)
  have hown : s.vm.findClass RX7 = some m.cls := findClass_of_methodNamed B.named
  have hlocks := B.notSynchronized
  subst hsz
  have hD := hD0.self (sz := s.heap.size)
  generalize hAe : va_A (pre_X7_isFeast T a ex fi fl vi vl) s.heap.size = A at hD hQ
  have hA : ∀ q : Nat, s.heap.size ≤ q → A q := fun q h => by rw [← hAe]; exact Or.inr h
  have hS : va_S A s.heap s.heap [] := va_S.rf
  replace hP : va_P D vwCl [((a 0), .inr (7, [.int (vi 2), .int (vi 3), .ref (ex 0), .ref (ex 1), .ref (ex 2), .ref (a 1), .ref (ex 3), .ref (ex 4), .ref (ex 5), .ref (ex 6), .ref (ex 7), .ref (ex 8)])), ((a 1), .inl (T 1, 9, .inl (fi 0)))] s.heap := hP
  replace hD : va_D A [((a 0), .inr (7, [.int (vi 2), .int (vi 3), .ref (ex 0), .ref (ex 1), .ref (ex 2), .ref (a 1), .ref (ex 3), .ref (ex 4), .ref (ex 5), .ref (ex 6), .ref (ex 7), .ref (ex 8)])), ((a 1), .inl (T 1, 9, .inl (fi 0)))] := hD
  have hl := lv_entry ([.ref (a 0), .int (vi 0), .int (vi 1)]) (n := 3) (Nat.le_of_ble_eq_true rfl)
  rw [lg_entry_eq]
  generalize (lg_sl ([.ref (a 0), .int (vi 0), .int (vi 1)]) ++ List.replicate (3 - (lg_sl ([.ref (a 0), .int (vi 0), .int (vi 1)])).length) Slot.unset).toArray = ls at hl ⊢
  replace hl : lv_has ls 3 [(0, .ref (a 0)), (1, .int (vi 0)), (2, .int (vi 1))] := hl
  refine lv_iload_n hx hb dX7_isFeast_0 rfl (lv_at hl 1 rfl) ?_
  refine lv_if_lt (tgt := 36) hx hb dX7_isFeast_1 (by decide) (fun c1 => ?_) (fun c1 => ?_)
  · have c1 := xlt (k := 0) (by decide) c1
    refine lv_iconst (v := 0) hx hb dX7_isFeast_36 (by decide) ?_
    have hP9 := hP.sub (ws' := [((a 0), .inr (7, [.int (vi 2), .int (vi 3), .ref (ex 0), .ref (ex 1), .ref (ex 2), .ref (a 1), .ref (ex 3), .ref (ex 4), .ref (ex 5), .ref (ex 6), .ref (ex 7), .ref (ex 8)])), ((a 1), .inl (T 1, 9, .inl (fi 0)))]) [0, 1] rfl
    have hD9 := hD.sub (ws' := [((a 0), .inr (7, [.int (vi 2), .int (vi 3), .ref (ex 0), .ref (ex 1), .ref (ex 2), .ref (a 1), .ref (ex 3), .ref (ex 4), .ref (ex 5), .ref (ex 6), .ref (ex 7), .ref (ex 8)])), ((a 1), .inl (T 1, 9, .inl (fi 0)))]) [0, 1] (by decide +kernel) rfl
    rw [hQ]
    exact W.zret (v := 0) hx hb hr rfl (fun t ht hW => ⟨⟨0, 0, rfl, rfl, xf [], xh [], xv [], xl [], by rw [ht]; exact hP9, hD9, ⟨(Or.inr ⟨rfl, by show True; first | trivial | omega⟩), trivial⟩⟩, hS.F ht⟩) hS.2.2 dX7_isFeast_37
  · have c1 := xnlt (k := 0) (by decide) c1
    refine lv_iload_n hx hb dX7_isFeast_4 rfl (lv_at hl 1 rfl) ?_
    refine lv_aload_n hx hb dX7_isFeast_5 rfl (lv_at hl 0 rfl) ?_
    refine va_get (D := D) (ci := 7) (v := .int (vi 2)) (C := RX7) (T := TX7) (N := 12) hx hb htg inX7 hown hK.1 hP 0 rfl rfl 0 (by decide) (htg _ kw_158) (fun _ h9 => h9) rfl dX7_isFeast_6 ?_
    refine lv_icmp_ge (tgt := 36) hx hb dX7_isFeast_9 (by decide) (fun c9 => ?_) (fun c9 => ?_)
    · have c9 := Int32.le_iff_toInt_le.mp c9
      have rc9 := xrng (vi 0); have qc9 := xrng (vi 2)
      refine lv_iconst (v := 0) hx hb dX7_isFeast_36 (by decide) ?_
      have hP9 := hP.sub (ws' := [((a 0), .inr (7, [.int (vi 2), .int (vi 3), .ref (ex 0), .ref (ex 1), .ref (ex 2), .ref (a 1), .ref (ex 3), .ref (ex 4), .ref (ex 5), .ref (ex 6), .ref (ex 7), .ref (ex 8)])), ((a 1), .inl (T 1, 9, .inl (fi 0)))]) [0, 1] rfl
      have hD9 := hD.sub (ws' := [((a 0), .inr (7, [.int (vi 2), .int (vi 3), .ref (ex 0), .ref (ex 1), .ref (ex 2), .ref (a 1), .ref (ex 3), .ref (ex 4), .ref (ex 5), .ref (ex 6), .ref (ex 7), .ref (ex 8)])), ((a 1), .inl (T 1, 9, .inl (fi 0)))]) [0, 1] (by decide +kernel) rfl
      rw [hQ]
      exact W.zret (v := 0) hx hb hr rfl (fun t ht hW => ⟨⟨0, 0, rfl, rfl, xf [], xh [], xv [], xl [], by rw [ht]; exact hP9, hD9, ⟨(Or.inr ⟨rfl, by show True; first | trivial | omega⟩), trivial⟩⟩, hS.F ht⟩) hS.2.2 dX7_isFeast_37
    · have c9 := (mt Int32.le_iff_toInt_le.mpr c9)
      have rc9 := xrng (vi 0); have qc9 := xrng (vi 2)
      refine lv_aload_n hx hb dX7_isFeast_12 rfl (lv_at hl 0 rfl) ?_
      refine va_get (D := D) (ci := 7) (v := .ref (a 1)) (C := RX7) (T := TX7) (N := 12) hx hb htg inX7 hown hK.1 hP 0 rfl rfl 5 (by decide) (htg _ kw_177) (fun _ h9 => h9) rfl dX7_isFeast_13 ?_
      refine lv_iload_n hx hb dX7_isFeast_16 rfl (lv_at hl 1 rfl) ?_
      refine va_iald hx hb hK.1 hP 1 1 rfl rfl (vp_in_iff.mpr (by omega)) dX7_isFeast_17 ?_
      refine lv_if_le (tgt := 36) hx hb dX7_isFeast_18 (by decide) (fun c18 => ?_) (fun c18 => ?_)
      · have c18 := xle (k := 0) (by decide) c18
        refine lv_iconst (v := 0) hx hb dX7_isFeast_36 (by decide) ?_
        have hP9 := hP.sub (ws' := [((a 0), .inr (7, [.int (vi 2), .int (vi 3), .ref (ex 0), .ref (ex 1), .ref (ex 2), .ref (a 1), .ref (ex 3), .ref (ex 4), .ref (ex 5), .ref (ex 6), .ref (ex 7), .ref (ex 8)])), ((a 1), .inl (T 1, 9, .inl (fi 0)))]) [0, 1] rfl
        have hD9 := hD.sub (ws' := [((a 0), .inr (7, [.int (vi 2), .int (vi 3), .ref (ex 0), .ref (ex 1), .ref (ex 2), .ref (a 1), .ref (ex 3), .ref (ex 4), .ref (ex 5), .ref (ex 6), .ref (ex 7), .ref (ex 8)])), ((a 1), .inl (T 1, 9, .inl (fi 0)))]) [0, 1] (by decide +kernel) rfl
        rw [hQ]
        exact W.zret (v := 0) hx hb hr rfl (fun t ht hW => ⟨⟨0, 0, rfl, rfl, xf [], xh [], xv [], xl [], by rw [ht]; exact hP9, hD9, ⟨(Or.inr ⟨rfl, by show True; first | trivial | omega⟩), trivial⟩⟩, hS.F ht⟩) hS.2.2 dX7_isFeast_37
      · have c18 := xnle (k := 0) (by decide) c18
        refine lv_iload_n hx hb dX7_isFeast_21 rfl (lv_at hl 2 rfl) ?_
        refine lv_aload_n hx hb dX7_isFeast_22 rfl (lv_at hl 0 rfl) ?_
        refine va_get (D := D) (ci := 7) (v := .ref (a 1)) (C := RX7) (T := TX7) (N := 12) hx hb htg inX7 hown hK.1 hP 0 rfl rfl 5 (by decide) (htg _ kw_177) (fun _ h9 => h9) rfl dX7_isFeast_23 ?_
        refine lv_iload_n hx hb dX7_isFeast_26 rfl (lv_at hl 1 rfl) ?_
        refine va_iald hx hb hK.1 hP 1 1 rfl rfl (vp_in_iff.mpr (by omega)) dX7_isFeast_27 ?_
        refine lv_irem hx hb dX7_isFeast_28 (xnz (by omega)) ?_
        refine lv_topi (fun z28 ez28 => ?_)
        have tz28 : 0 ≤ z28.toInt ∧ z28.toInt < ((fi 0) (vi 0).toNatClampNeg).toInt := by rw [ez28]; exact xrem rfl (by omega) (by omega)
        refine lv_if_ne (tgt := 36) hx hb dX7_isFeast_29 (by decide) (fun c29 => ?_) (fun c29 => ?_)
        · have c29 := xne (k := 0) (by decide) c29
          refine lv_iconst (v := 0) hx hb dX7_isFeast_36 (by decide) ?_
          have hP9 := hP.sub (ws' := [((a 0), .inr (7, [.int (vi 2), .int (vi 3), .ref (ex 0), .ref (ex 1), .ref (ex 2), .ref (a 1), .ref (ex 3), .ref (ex 4), .ref (ex 5), .ref (ex 6), .ref (ex 7), .ref (ex 8)])), ((a 1), .inl (T 1, 9, .inl (fi 0)))]) [0, 1] rfl
          have hD9 := hD.sub (ws' := [((a 0), .inr (7, [.int (vi 2), .int (vi 3), .ref (ex 0), .ref (ex 1), .ref (ex 2), .ref (a 1), .ref (ex 3), .ref (ex 4), .ref (ex 5), .ref (ex 6), .ref (ex 7), .ref (ex 8)])), ((a 1), .inl (T 1, 9, .inl (fi 0)))]) [0, 1] (by decide +kernel) rfl
          rw [hQ]
          exact W.zret (v := 0) hx hb hr rfl (fun t ht hW => ⟨⟨0, 0, rfl, rfl, xf [], xh [], xv [], xl [], by rw [ht]; exact hP9, hD9, ⟨(Or.inr ⟨rfl, by show True; first | trivial | omega⟩), trivial⟩⟩, hS.F ht⟩) hS.2.2 dX7_isFeast_37
        · have c29 := xeq (k := 0) (by decide) c29
          refine lv_iconst (v := 1) hx hb dX7_isFeast_32 (by decide) ?_
          refine lv_goto (tgt := 37) hx hb dX7_isFeast_33 (by decide) ?_
          have hP9 := hP.sub (ws' := [((a 0), .inr (7, [.int (vi 2), .int (vi 3), .ref (ex 0), .ref (ex 1), .ref (ex 2), .ref (a 1), .ref (ex 3), .ref (ex 4), .ref (ex 5), .ref (ex 6), .ref (ex 7), .ref (ex 8)])), ((a 1), .inl (T 1, 9, .inl (fi 0)))]) [0, 1] rfl
          have hD9 := hD.sub (ws' := [((a 0), .inr (7, [.int (vi 2), .int (vi 3), .ref (ex 0), .ref (ex 1), .ref (ex 2), .ref (a 1), .ref (ex 3), .ref (ex 4), .ref (ex 5), .ref (ex 6), .ref (ex 7), .ref (ex 8)])), ((a 1), .inl (T 1, 9, .inl (fi 0)))]) [0, 1] (by decide +kernel) rfl
          rw [hQ]
          exact W.zret (v := 1) hx hb hr rfl (fun t ht hW => ⟨⟨1, 1, rfl, rfl, xf [], xh [], xv [], xl [], by rw [ht]; exact hP9, hD9, ⟨(Or.inl ⟨rfl, by show True; first | trivial | omega⟩), trivial⟩⟩, hS.F ht⟩) hS.2.2 dX7_isFeast_37
abbrev pre_X2_feast (T : Nat → ClassId) (a ex : Nat → Nat) (fi : Nat → Nat → Int32) (fl : Nat → Nat → Int64) (vi : Nat → Int32) (vl : Nat → Int64) : va_W := [((a 0), .inr (2, [.ref (ex 0), .int (vi 1), .int (vi 2), .int (vi 3), .int (vi 4), .int (vi 5), .int (vi 6), .ref (ex 1), .ref (ex 2), .ref (ex 3), .ref (ex 4), .ref (a 1), .ref (a 2), .ref (ex 5), .ref (ex 6)])), ((a 1), .inl (T 1, 9, .inl (fi 0))), ((a 2), .inl (T 1, 9, .inl (fi 1)))]
set_option maxHeartbeats 8000000 in
set_option maxRecDepth 100000 in
theorem c_X2_feast (l : Launch) (D : va_G) (T : Nat → ClassId) (a ex : Nat → Nat) (fi : Nat → Nat → Int32) (fl : Nat → Nat → Int64) (vi : Nat → Int32) (vl : Nat → Int64) (sz : Nat) (hp0 : 0 ≤ (vi 0).toInt ∧ (vi 0).toInt ≤ 8) (hp1 : 0 ≤ (vi 1).toInt ∧ (vi 1).toInt ≤ 200) (hp2 : 0 ≤ (vi 6).toInt ∧ (vi 6).toInt ≤ 9) : Met l yX2_feast (xw yX2_feast cX2_feast 2 none) ({ frames := 0, cells := 0, slots := 0, locals := 0 }) (xP D T [.ref (a 0), .int (vi 0)] sz (pre_X2_feast T a ex fi fl vi vl)) (va_Qv (fun _ : Int32 => True) (xC D (va_A (pre_X2_feast T a ex fi fl vi vl) sz) (fun fj fm vj vm => [((a 0), .inr (2, [.ref (ex 0), .int (vi 1), .int (vi 2), .int (vi 3), .int (vi 4), .int (vi 5), .int (vi 6), .ref (ex 1), .ref (ex 2), .ref (ex 3), .ref (ex 4), .ref (a 1), .ref (a 2), .ref (ex 5), .ref (ex 6)])), ((a 1), .inl (T 1, 9, .inl (fj 0))), ((a 2), .inl (T 1, 9, .inl (fj 1)))]) (fun (r : Int32) (fj : Nat → Nat → Int32) (fm : Nat → Nat → Int64) (vj : Nat → Int32) (vm : Nat → Int64) => True)) (va_A (pre_X2_feast T a ex fi fl vi vl) sz)) 0 0 (va_A (pre_X2_feast T a ex fi fl vi vl) sz) := by
  refine xofW (cc := cX2_feast) (maxL := 2) (ret := none) (by decide) rfl ?_
  intro p e s m args below meth c s₁ R Q hR hQ B hml hv
  obtain ⟨rfl, hsz, hP, hK, hD0⟩ := hv
  have hx := B.exec
  have hb := B.bytes
  have hr := B.returns
  have hts := atoms_spec (ws := xw yX2_feast cX2_feast 2 none) B.pre
  have htg : ∀ w ∈ xg, w.before _ s = true := fun w h => hts w (List.mem_cons_of_mem _ h)
  have hown : s.vm.findClass RX2 = some m.cls := findClass_of_methodNamed B.named
  have hlocks := B.notSynchronized
  subst hsz
  have hD := hD0.self (sz := s.heap.size)
  generalize hAe : va_A (pre_X2_feast T a ex fi fl vi vl) s.heap.size = A at hD hQ
  have hA : ∀ q : Nat, s.heap.size ≤ q → A q := fun q h => by rw [← hAe]; exact Or.inr h
  have hS : va_S A s.heap s.heap [] := va_S.rf
  replace hP : va_P D vwCl [((a 0), .inr (2, [.ref (ex 0), .int (vi 1), .int (vi 2), .int (vi 3), .int (vi 4), .int (vi 5), .int (vi 6), .ref (ex 1), .ref (ex 2), .ref (ex 3), .ref (ex 4), .ref (a 1), .ref (a 2), .ref (ex 5), .ref (ex 6)])), ((a 1), .inl (T 1, 9, .inl (fi 0))), ((a 2), .inl (T 1, 9, .inl (fi 1)))] s.heap := hP
  replace hD : va_D A [((a 0), .inr (2, [.ref (ex 0), .int (vi 1), .int (vi 2), .int (vi 3), .int (vi 4), .int (vi 5), .int (vi 6), .ref (ex 1), .ref (ex 2), .ref (ex 3), .ref (ex 4), .ref (a 1), .ref (a 2), .ref (ex 5), .ref (ex 6)])), ((a 1), .inl (T 1, 9, .inl (fi 0))), ((a 2), .inl (T 1, 9, .inl (fi 1)))] := hD
  have hl := lv_entry ([.ref (a 0), .int (vi 0)]) (n := 2) (Nat.le_of_ble_eq_true rfl)
  rw [lg_entry_eq]
  generalize (lg_sl ([.ref (a 0), .int (vi 0)]) ++ List.replicate (2 - (lg_sl ([.ref (a 0), .int (vi 0)])).length) Slot.unset).toArray = ls at hl ⊢
  replace hl : lv_has ls 2 [(0, .ref (a 0)), (1, .int (vi 0))] := hl
  refine lv_aload_n hx hb dX2_feast_0 rfl (lv_at hl 0 rfl) ?_
  refine va_get (D := D) (ci := 2) (v := .ref (a 1)) (C := RX2) (T := TX2) (N := 15) hx hb htg inX2 hown hK.1 hP 0 rfl rfl 11 (by decide) (htg _ kw_271) (fun _ h9 => h9) rfl dX2_feast_1 ?_
  refine lv_iload_n hx hb dX2_feast_4 rfl (lv_at hl 1 rfl) ?_
  refine lv_aload_n hx hb dX2_feast_5 rfl (lv_at hl 0 rfl) ?_
  refine va_get (D := D) (ci := 2) (v := .ref (a 1)) (C := RX2) (T := TX2) (N := 15) hx hb htg inX2 hown hK.1 hP 0 rfl rfl 11 (by decide) (htg _ kw_271) (fun _ h9 => h9) rfl dX2_feast_6 ?_
  refine lv_iload_n hx hb dX2_feast_9 rfl (lv_at hl 1 rfl) ?_
  refine va_iald hx hb hK.1 hP 1 1 rfl rfl (vp_in_iff.mpr (by omega)) dX2_feast_10 ?_
  refine lv_iconst (v := 2) hx hb dX2_feast_11 (by decide) ?_
  refine lv_icmp_le (tgt := 26) hx hb dX2_feast_12 (by decide) (fun c12 => ?_) (fun c12 => ?_)
  · have c12 := xle (k := 2) (by decide) c12
    refine lv_iconst (v := 0) hx hb dX2_feast_26 (by decide) ?_
    refine va_iast hx hb hK.1 hP hD hS 1 1 rfl rfl (vp_in_iff.mpr (by omega)) dX2_feast_27 (fun H locs hP hD hS => ?_)
    obtain ⟨f27, ef27, hP, hD⟩ : ∃ f7 : Nat → Int32, f7 = upd (fi 0) (vi 0).toNatClampNeg (0 : Int32) ∧ va_P D vwCl [((a 0), .inr (2, [.ref (ex 0), .int (vi 1), .int (vi 2), .int (vi 3), .int (vi 4), .int (vi 5), .int (vi 6), .ref (ex 1), .ref (ex 2), .ref (ex 3), .ref (ex 4), .ref (a 1), .ref (a 2), .ref (ex 5), .ref (ex 6)])), ((a 1), .inl (T 1, 9, .inl f7)), ((a 2), .inl (T 1, 9, .inl (fi 1)))] H ∧ va_D A [((a 0), .inr (2, [.ref (ex 0), .int (vi 1), .int (vi 2), .int (vi 3), .int (vi 4), .int (vi 5), .int (vi 6), .ref (ex 1), .ref (ex 2), .ref (ex 3), .ref (ex 4), .ref (a 1), .ref (a 2), .ref (ex 5), .ref (ex 6)])), ((a 1), .inl (T 1, 9, .inl f7)), ((a 2), .inl (T 1, 9, .inl (fi 1)))] := ⟨_, rfl, hP, hD⟩
    refine lv_aload_n hx hb dX2_feast_28 rfl (lv_at hl 0 rfl) ?_
    refine va_get (D := D) (ci := 2) (v := .ref (a 2)) (C := RX2) (T := TX2) (N := 15) hx hb htg inX2 hown hK.1 hP 0 rfl rfl 12 (by decide) (htg _ kw_275) (fun _ h9 => h9) rfl dX2_feast_29 ?_
    refine lv_iload_n hx hb dX2_feast_32 rfl (lv_at hl 1 rfl) ?_
    refine lv_dup2_11 hx hb dX2_feast_33 rfl rfl ?_
    refine va_iald hx hb hK.1 hP 2 1 rfl rfl (vp_in_iff.mpr (by omega)) dX2_feast_34 ?_
    refine lv_iconst (v := 1) hx hb dX2_feast_35 (by decide) ?_
    refine lv_iadd hx hb dX2_feast_36 ?_
    refine lv_topi (fun z36 ez36 => ?_)
    refine va_iast hx hb hK.1 hP hD hS 2 1 rfl rfl (vp_in_iff.mpr (by omega)) dX2_feast_37 (fun H locs hP hD hS => ?_)
    obtain ⟨f37, ef37, hP, hD⟩ : ∃ f7 : Nat → Int32, f7 = upd (fi 1) (vi 0).toNatClampNeg (z36 : Int32) ∧ va_P D vwCl [((a 0), .inr (2, [.ref (ex 0), .int (vi 1), .int (vi 2), .int (vi 3), .int (vi 4), .int (vi 5), .int (vi 6), .ref (ex 1), .ref (ex 2), .ref (ex 3), .ref (ex 4), .ref (a 1), .ref (a 2), .ref (ex 5), .ref (ex 6)])), ((a 1), .inl (T 1, 9, .inl f27)), ((a 2), .inl (T 1, 9, .inl f7))] H ∧ va_D A [((a 0), .inr (2, [.ref (ex 0), .int (vi 1), .int (vi 2), .int (vi 3), .int (vi 4), .int (vi 5), .int (vi 6), .ref (ex 1), .ref (ex 2), .ref (ex 3), .ref (ex 4), .ref (a 1), .ref (a 2), .ref (ex 5), .ref (ex 6)])), ((a 1), .inl (T 1, 9, .inl f27)), ((a 2), .inl (T 1, 9, .inl f7))] := ⟨_, rfl, hP, hD⟩
    have hP9 := hP.sub (ws' := [((a 0), .inr (2, [.ref (ex 0), .int (vi 1), .int (vi 2), .int (vi 3), .int (vi 4), .int (vi 5), .int (vi 6), .ref (ex 1), .ref (ex 2), .ref (ex 3), .ref (ex 4), .ref (a 1), .ref (a 2), .ref (ex 5), .ref (ex 6)])), ((a 1), .inl (T 1, 9, .inl f27)), ((a 2), .inl (T 1, 9, .inl f37))]) [0, 1, 2] rfl
    have hD9 := hD.sub (ws' := [((a 0), .inr (2, [.ref (ex 0), .int (vi 1), .int (vi 2), .int (vi 3), .int (vi 4), .int (vi 5), .int (vi 6), .ref (ex 1), .ref (ex 2), .ref (ex 3), .ref (ex 4), .ref (a 1), .ref (a 2), .ref (ex 5), .ref (ex 6)])), ((a 1), .inl (T 1, 9, .inl f27)), ((a 2), .inl (T 1, 9, .inl f37))]) [0, 1, 2] (by decide +kernel) rfl
    rw [hQ]
    exact W.vret hx hb hr (fun t ht hW => ⟨⟨(0 : Int32), rfl, trivial, xf [f27, f37], xh [], xv [], xl [], by rw [ht]; exact hP9, hD9, trivial⟩, hS.F ht⟩) hS.2.2 dX2_feast_38
  · have c12 := xnle (k := 2) (by decide) c12
    refine lv_aload_n hx hb dX2_feast_15 rfl (lv_at hl 0 rfl) ?_
    refine va_get (D := D) (ci := 2) (v := .ref (a 1)) (C := RX2) (T := TX2) (N := 15) hx hb htg inX2 hown hK.1 hP 0 rfl rfl 11 (by decide) (htg _ kw_271) (fun _ h9 => h9) rfl dX2_feast_16 ?_
    refine lv_iload_n hx hb dX2_feast_19 rfl (lv_at hl 1 rfl) ?_
    refine va_iald hx hb hK.1 hP 1 1 rfl rfl (vp_in_iff.mpr (by omega)) dX2_feast_20 ?_
    refine lv_iconst (v := 2) hx hb dX2_feast_21 (by decide) ?_
    refine lv_isub hx hb dX2_feast_22 ?_
    refine lv_topi (fun z22 ez22 => ?_)
    have tz22 : z22.toInt = ((fi 0) (vi 0).toNatClampNeg).toInt - 2 := by rw [ez22]; exact xsub rfl (by decide) (by omega) (by omega)
    refine lv_goto (tgt := 27) hx hb dX2_feast_23 (by decide) ?_
    refine va_iast hx hb hK.1 hP hD hS 1 1 rfl rfl (vp_in_iff.mpr (by omega)) dX2_feast_27 (fun H locs hP hD hS => ?_)
    obtain ⟨f27_1, ef27_1, hP, hD⟩ : ∃ f7 : Nat → Int32, f7 = upd (fi 0) (vi 0).toNatClampNeg (z22 : Int32) ∧ va_P D vwCl [((a 0), .inr (2, [.ref (ex 0), .int (vi 1), .int (vi 2), .int (vi 3), .int (vi 4), .int (vi 5), .int (vi 6), .ref (ex 1), .ref (ex 2), .ref (ex 3), .ref (ex 4), .ref (a 1), .ref (a 2), .ref (ex 5), .ref (ex 6)])), ((a 1), .inl (T 1, 9, .inl f7)), ((a 2), .inl (T 1, 9, .inl (fi 1)))] H ∧ va_D A [((a 0), .inr (2, [.ref (ex 0), .int (vi 1), .int (vi 2), .int (vi 3), .int (vi 4), .int (vi 5), .int (vi 6), .ref (ex 1), .ref (ex 2), .ref (ex 3), .ref (ex 4), .ref (a 1), .ref (a 2), .ref (ex 5), .ref (ex 6)])), ((a 1), .inl (T 1, 9, .inl f7)), ((a 2), .inl (T 1, 9, .inl (fi 1)))] := ⟨_, rfl, hP, hD⟩
    refine lv_aload_n hx hb dX2_feast_28 rfl (lv_at hl 0 rfl) ?_
    refine va_get (D := D) (ci := 2) (v := .ref (a 2)) (C := RX2) (T := TX2) (N := 15) hx hb htg inX2 hown hK.1 hP 0 rfl rfl 12 (by decide) (htg _ kw_275) (fun _ h9 => h9) rfl dX2_feast_29 ?_
    refine lv_iload_n hx hb dX2_feast_32 rfl (lv_at hl 1 rfl) ?_
    refine lv_dup2_11 hx hb dX2_feast_33 rfl rfl ?_
    refine va_iald hx hb hK.1 hP 2 1 rfl rfl (vp_in_iff.mpr (by omega)) dX2_feast_34 ?_
    refine lv_iconst (v := 1) hx hb dX2_feast_35 (by decide) ?_
    refine lv_iadd hx hb dX2_feast_36 ?_
    refine lv_topi (fun z36_1 ez36_1 => ?_)
    refine va_iast hx hb hK.1 hP hD hS 2 1 rfl rfl (vp_in_iff.mpr (by omega)) dX2_feast_37 (fun H locs hP hD hS => ?_)
    obtain ⟨f37_1, ef37_1, hP, hD⟩ : ∃ f7 : Nat → Int32, f7 = upd (fi 1) (vi 0).toNatClampNeg (z36_1 : Int32) ∧ va_P D vwCl [((a 0), .inr (2, [.ref (ex 0), .int (vi 1), .int (vi 2), .int (vi 3), .int (vi 4), .int (vi 5), .int (vi 6), .ref (ex 1), .ref (ex 2), .ref (ex 3), .ref (ex 4), .ref (a 1), .ref (a 2), .ref (ex 5), .ref (ex 6)])), ((a 1), .inl (T 1, 9, .inl f27_1)), ((a 2), .inl (T 1, 9, .inl f7))] H ∧ va_D A [((a 0), .inr (2, [.ref (ex 0), .int (vi 1), .int (vi 2), .int (vi 3), .int (vi 4), .int (vi 5), .int (vi 6), .ref (ex 1), .ref (ex 2), .ref (ex 3), .ref (ex 4), .ref (a 1), .ref (a 2), .ref (ex 5), .ref (ex 6)])), ((a 1), .inl (T 1, 9, .inl f27_1)), ((a 2), .inl (T 1, 9, .inl f7))] := ⟨_, rfl, hP, hD⟩
    have hP9 := hP.sub (ws' := [((a 0), .inr (2, [.ref (ex 0), .int (vi 1), .int (vi 2), .int (vi 3), .int (vi 4), .int (vi 5), .int (vi 6), .ref (ex 1), .ref (ex 2), .ref (ex 3), .ref (ex 4), .ref (a 1), .ref (a 2), .ref (ex 5), .ref (ex 6)])), ((a 1), .inl (T 1, 9, .inl f27_1)), ((a 2), .inl (T 1, 9, .inl f37_1))]) [0, 1, 2] rfl
    have hD9 := hD.sub (ws' := [((a 0), .inr (2, [.ref (ex 0), .int (vi 1), .int (vi 2), .int (vi 3), .int (vi 4), .int (vi 5), .int (vi 6), .ref (ex 1), .ref (ex 2), .ref (ex 3), .ref (ex 4), .ref (a 1), .ref (a 2), .ref (ex 5), .ref (ex 6)])), ((a 1), .inl (T 1, 9, .inl f27_1)), ((a 2), .inl (T 1, 9, .inl f37_1))]) [0, 1, 2] (by decide +kernel) rfl
    rw [hQ]
    exact W.vret hx hb hr (fun t ht hW => ⟨⟨(0 : Int32), rfl, trivial, xf [f27_1, f37_1], xh [], xv [], xl [], by rw [ht]; exact hP9, hD9, trivial⟩, hS.F ht⟩) hS.2.2 dX2_feast_38
abbrev pre_X2_endMonday (T : Nat → ClassId) (a ex : Nat → Nat) (fi : Nat → Nat → Int32) (fl : Nat → Nat → Int64) (vi : Nat → Int32) (vl : Nat → Int64) : va_W := [((a 0), .inr (2, [.ref (a 1), .int (vi 0), .int (vi 1), .int (vi 2), .int (vi 3), .int (vi 4), .int (vi 5), .ref (a 3), .ref (ex 0), .ref (ex 1), .ref (a 7), .ref (a 5), .ref (a 6), .ref (ex 2), .ref (a 2)])), ((a 1), .inr (7, [.int (vi 6), .int (vi 7), .ref (ex 3), .ref (ex 4), .ref (ex 5), .ref (a 4), .ref (ex 6), .ref (ex 7), .ref (ex 8), .ref (ex 9), .ref (ex 10), .ref (ex 11)])), ((a 2), .inl (T 2, 200, .inr (.inl (fl 0)))), ((a 3), .inl (T 1, 9, .inl (fi 0))), ((a 4), .inl (T 1, 9, .inl (fi 1))), ((a 5), .inl (T 1, 9, .inl (fi 2))), ((a 6), .inl (T 1, 9, .inl (fi 3))), ((a 7), .inl (T 1, 9, .inl (fi 4)))]
set_option maxHeartbeats 8000000 in
set_option maxRecDepth 100000 in
theorem c_X2_endMonday (l : Launch) (D : va_G) (T : Nat → ClassId) (a ex : Nat → Nat) (fi : Nat → Nat → Int32) (fl : Nat → Nat → Int64) (vi : Nat → Int32) (vl : Nat → Int64) (sz : Nat) (hp0 : 0 ≤ (vi 0).toInt ∧ (vi 0).toInt ≤ 200) (hp1 : 0 ≤ (vi 5).toInt ∧ (vi 5).toInt ≤ 9) (hp2 : 0 ≤ (vi 6).toInt ∧ (vi 6).toInt ≤ 9) (hp3 : 0 ≤ (vi 7).toInt ∧ (vi 7).toInt ≤ 9) (hp4 : rg (fi 0) 0 9 (-1) 8) (hp5 : rg (fi 4) 0 9 (-1) 8) : Met l yX2_endMonday (xw yX2_endMonday cX2_endMonday 4 none) ({ frames := 1, cells := 0, slots := 0, locals := 26 }) (xP D T [.ref (a 0)] sz (pre_X2_endMonday T a ex fi fl vi vl)) (va_Qv (fun _ : Int32 => True) (xC D (va_A (pre_X2_endMonday T a ex fi fl vi vl) sz) (fun fj fm vj vm => [((a 0), .inr (2, [.ref (a 1), .int (vj 0), .int (vi 1), .int (vj 1), .int (vi 3), .int (vi 4), .int (vi 5), .ref (a 3), .ref (ex 0), .ref (ex 1), .ref (a 7), .ref (a 5), .ref (a 6), .ref (ex 2), .ref (a 2)])), ((a 1), .inr (7, [.int (vi 6), .int (vi 7), .ref (ex 3), .ref (ex 4), .ref (ex 5), .ref (a 4), .ref (ex 6), .ref (ex 7), .ref (ex 8), .ref (ex 9), .ref (ex 10), .ref (ex 11)])), ((a 2), .inl (T 2, 200, .inr (.inl (fm 0)))), ((a 3), .inl (T 1, 9, .inl (fi 0))), ((a 4), .inl (T 1, 9, .inl (fi 1))), ((a 5), .inl (T 1, 9, .inl (fj 0))), ((a 6), .inl (T 1, 9, .inl (fj 1))), ((a 7), .inl (T 1, 9, .inl (fi 4)))]) (fun (r : Int32) (fj : Nat → Nat → Int32) (fm : Nat → Nat → Int64) (vj : Nat → Int32) (vm : Nat → Int64) => (0 ≤ (vj 0).toInt ∧ (vj 0).toInt ≤ 200) ∧ True)) (va_A (pre_X2_endMonday T a ex fi fl vi vl) sz)) 0 0 (va_A (pre_X2_endMonday T a ex fi fl vi vl) sz) := by
  refine xofW (cc := cX2_endMonday) (maxL := 4) (ret := none) (by decide) rfl ?_
  intro p e s m args below meth c s₁ R Q hR hQ B hml hv
  obtain ⟨rfl, hsz, hP, hK, hD0⟩ := hv
  have hx := B.exec
  have hb := B.bytes
  have hr := B.returns
  have hts := atoms_spec (ws := xw yX2_endMonday cX2_endMonday 4 none) B.pre
  have htg : ∀ w ∈ xg, w.before _ s = true := fun w h => hts w (List.mem_cons_of_mem _ h)
  have hown : s.vm.findClass RX2 = some m.cls := findClass_of_methodNamed B.named
  have hlocks := B.notSynchronized
  subst hsz
  have hD := hD0.self (sz := s.heap.size)
  generalize hAe : va_A (pre_X2_endMonday T a ex fi fl vi vl) s.heap.size = A at hD hQ
  have hA : ∀ q : Nat, s.heap.size ≤ q → A q := fun q h => by rw [← hAe]; exact Or.inr h
  have hS : va_S A s.heap s.heap [] := va_S.rf
  replace hP : va_P D vwCl [((a 0), .inr (2, [.ref (a 1), .int (vi 0), .int (vi 1), .int (vi 2), .int (vi 3), .int (vi 4), .int (vi 5), .ref (a 3), .ref (ex 0), .ref (ex 1), .ref (a 7), .ref (a 5), .ref (a 6), .ref (ex 2), .ref (a 2)])), ((a 1), .inr (7, [.int (vi 6), .int (vi 7), .ref (ex 3), .ref (ex 4), .ref (ex 5), .ref (a 4), .ref (ex 6), .ref (ex 7), .ref (ex 8), .ref (ex 9), .ref (ex 10), .ref (ex 11)])), ((a 2), .inl (T 2, 200, .inr (.inl (fl 0)))), ((a 3), .inl (T 1, 9, .inl (fi 0))), ((a 4), .inl (T 1, 9, .inl (fi 1))), ((a 5), .inl (T 1, 9, .inl (fi 2))), ((a 6), .inl (T 1, 9, .inl (fi 3))), ((a 7), .inl (T 1, 9, .inl (fi 4)))] s.heap := hP
  replace hD : va_D A [((a 0), .inr (2, [.ref (a 1), .int (vi 0), .int (vi 1), .int (vi 2), .int (vi 3), .int (vi 4), .int (vi 5), .ref (a 3), .ref (ex 0), .ref (ex 1), .ref (a 7), .ref (a 5), .ref (a 6), .ref (ex 2), .ref (a 2)])), ((a 1), .inr (7, [.int (vi 6), .int (vi 7), .ref (ex 3), .ref (ex 4), .ref (ex 5), .ref (a 4), .ref (ex 6), .ref (ex 7), .ref (ex 8), .ref (ex 9), .ref (ex 10), .ref (ex 11)])), ((a 2), .inl (T 2, 200, .inr (.inl (fl 0)))), ((a 3), .inl (T 1, 9, .inl (fi 0))), ((a 4), .inl (T 1, 9, .inl (fi 1))), ((a 5), .inl (T 1, 9, .inl (fi 2))), ((a 6), .inl (T 1, 9, .inl (fi 3))), ((a 7), .inl (T 1, 9, .inl (fi 4)))] := hD
  have hl := lv_entry ([.ref (a 0)]) (n := 4) (Nat.le_of_ble_eq_true rfl)
  rw [lg_entry_eq]
  generalize (lg_sl ([.ref (a 0)]) ++ List.replicate (4 - (lg_sl ([.ref (a 0)])).length) Slot.unset).toArray = ls at hl ⊢
  replace hl : lv_has ls 4 [(0, .ref (a 0))] := hl
  refine lv_aload_n hx hb dX2_endMonday_0 rfl (lv_at hl 0 rfl) ?_
  refine va_get (D := D) (ci := 2) (v := .int (vi 0)) (C := RX2) (T := TX2) (N := 15) hx hb htg inX2 hown hK.1 hP 0 rfl rfl 1 (by decide) (htg _ kw_247) (fun _ h9 => h9) rfl dX2_endMonday_1 ?_
  refine lv_sipush (v := 200) hx hb dX2_endMonday_4 (by decide) ?_
  refine lv_icmp_lt (tgt := 11) hx hb dX2_endMonday_7 (by decide) (fun c7 => ?_) (fun c7 => ?_)
  · have c7 := xlt (k := 200) (by decide) c7
    refine lv_lconst (v := 0) hx hb dX2_endMonday_11 (by decide) ?_
    refine lv_lstore_n (lv' := [(1, .long 0), (0, .ref (a 0))]) hx hb dX2_endMonday_12 rfl hl (by decide) rfl (fun ls hl => ?_)
    refine lv_iconst (v := 0) hx hb dX2_endMonday_13 (by decide) ?_
    refine lv_istore_n (lv' := [(3, .int 0), (1, .long 0), (0, .ref (a 0))]) hx hb dX2_endMonday_14 rfl hl (by decide) rfl (fun ls hl => ?_)
    have lp : ∀ (kn : Nat) (w3 : Int32) (w1 : Int64) (H : Heap) (locs : List Loc) (ls : Array Slot), (0 ≤ w3.toInt) → (2147483648 - w3.toInt).toNat = kn → va_P D vwCl [((a 0), .inr (2, [.ref (a 1), .int (vi 0), .int (vi 1), .int (vi 2), .int (vi 3), .int (vi 4), .int (vi 5), .ref (a 3), .ref (ex 0), .ref (ex 1), .ref (a 7), .ref (a 5), .ref (a 6), .ref (ex 2), .ref (a 2)])), ((a 1), .inr (7, [.int (vi 6), .int (vi 7), .ref (ex 3), .ref (ex 4), .ref (ex 5), .ref (a 4), .ref (ex 6), .ref (ex 7), .ref (ex 8), .ref (ex 9), .ref (ex 10), .ref (ex 11)])), ((a 2), .inl (T 2, 200, .inr (.inl (fl 0)))), ((a 3), .inl (T 1, 9, .inl (fi 0))), ((a 4), .inl (T 1, 9, .inl (fi 1))), ((a 5), .inl (T 1, 9, .inl (fi 2))), ((a 6), .inl (T 1, 9, .inl (fi 3))), ((a 7), .inl (T 1, 9, .inl (fi 4)))] H → va_D A [((a 0), .inr (2, [.ref (a 1), .int (vi 0), .int (vi 1), .int (vi 2), .int (vi 3), .int (vi 4), .int (vi 5), .ref (a 3), .ref (ex 0), .ref (ex 1), .ref (a 7), .ref (a 5), .ref (a 6), .ref (ex 2), .ref (a 2)])), ((a 1), .inr (7, [.int (vi 6), .int (vi 7), .ref (ex 3), .ref (ex 4), .ref (ex 5), .ref (a 4), .ref (ex 6), .ref (ex 7), .ref (ex 8), .ref (ex 9), .ref (ex 10), .ref (ex 11)])), ((a 2), .inl (T 2, 200, .inr (.inl (fl 0)))), ((a 3), .inl (T 1, 9, .inl (fi 0))), ((a 4), .inl (T 1, 9, .inl (fi 1))), ((a 5), .inl (T 1, 9, .inl (fi 2))), ((a 6), .inl (T 1, 9, .inl (fi 3))), ((a 7), .inl (T 1, 9, .inl (fi 4)))] → va_S A s.heap H locs → lv_has ls 4 [(3, .int w3), (1, .long w1), (0, .ref (a 0))] → W p l e R s m ([.ref (a 0)] : List Value).toArray below meth c H locs 0 0 Q (F0 m 15 ls []) := by
      intro kn
      induction kn using Nat.strongRecOn with
      | _ kn ih =>
        intro w3 w1 H locs ls hi hm hP hD hS hl
        refine lv_iload_n hx hb dX2_endMonday_15 rfl (lv_at hl 0 rfl) ?_
        refine lv_aload_n hx hb dX2_endMonday_16 rfl (lv_at hl 2 rfl) ?_
        refine va_get (D := D) (ci := 2) (v := .ref (a 1)) (C := RX2) (T := TX2) (N := 15) hx hb htg inX2 hown hK.1 hP 0 rfl rfl 0 (by decide) (htg _ kw_245) (fun _ h9 => h9) rfl dX2_endMonday_17 ?_
        refine va_getN (D := D) (ci := 7) (v := .int (vi 7)) (C := RX7) (T := TX7) (N := 12) hx hb htg inX7 hown hK.1 hP 1 rfl rfl 1 (by decide) (va_Nw.use rfl (hK.2.1 _ kn_164)) (fun _ h9 => h9) rfl dX2_endMonday_20 ?_
        refine lv_icmp_ge (tgt := 48) hx hb dX2_endMonday_23 (by decide) (fun c23 => ?_) (fun c23 => ?_)
        · have c23 := Int32.le_iff_toInt_le.mp c23
          have rc23 := xrng w3; have qc23 := xrng (vi 7)
          refine lv_aload_n hx hb dX2_endMonday_48 rfl (lv_at hl 2 rfl) ?_
          refine va_get (D := D) (ci := 2) (v := .ref (a 2)) (C := RX2) (T := TX2) (N := 15) hx hb htg inX2 hown hK.1 hP 0 rfl rfl 14 (by decide) (htg _ kw_281) (fun _ h9 => h9) rfl dX2_endMonday_49 ?_
          refine lv_aload_n hx hb dX2_endMonday_52 rfl (lv_at hl 2 rfl) ?_
          refine va_get (D := D) (ci := 2) (v := .int (vi 0)) (C := RX2) (T := TX2) (N := 15) hx hb htg inX2 hown hK.1 hP 0 rfl rfl 1 (by decide) (htg _ kw_247) (fun _ h9 => h9) rfl dX2_endMonday_53 ?_
          refine lv_lload_n hx hb dX2_endMonday_56 rfl (lv_at hl 1 rfl) ?_
          refine va_last hx hb hK.1 hP hD hS 2 2 rfl rfl (vp_in_iff.mpr (by omega)) dX2_endMonday_57 (fun H locs hP hD hS => ?_)
          obtain ⟨f57, ef57, hP, hD⟩ : ∃ f7 : Nat → Int64, f7 = vp_updL (fl 0) (vi 0).toNatClampNeg (w1 : Int64) ∧ va_P D vwCl [((a 0), .inr (2, [.ref (a 1), .int (vi 0), .int (vi 1), .int (vi 2), .int (vi 3), .int (vi 4), .int (vi 5), .ref (a 3), .ref (ex 0), .ref (ex 1), .ref (a 7), .ref (a 5), .ref (a 6), .ref (ex 2), .ref (a 2)])), ((a 1), .inr (7, [.int (vi 6), .int (vi 7), .ref (ex 3), .ref (ex 4), .ref (ex 5), .ref (a 4), .ref (ex 6), .ref (ex 7), .ref (ex 8), .ref (ex 9), .ref (ex 10), .ref (ex 11)])), ((a 2), .inl (T 2, 200, .inr (.inl f7))), ((a 3), .inl (T 1, 9, .inl (fi 0))), ((a 4), .inl (T 1, 9, .inl (fi 1))), ((a 5), .inl (T 1, 9, .inl (fi 2))), ((a 6), .inl (T 1, 9, .inl (fi 3))), ((a 7), .inl (T 1, 9, .inl (fi 4)))] H ∧ va_D A [((a 0), .inr (2, [.ref (a 1), .int (vi 0), .int (vi 1), .int (vi 2), .int (vi 3), .int (vi 4), .int (vi 5), .ref (a 3), .ref (ex 0), .ref (ex 1), .ref (a 7), .ref (a 5), .ref (a 6), .ref (ex 2), .ref (a 2)])), ((a 1), .inr (7, [.int (vi 6), .int (vi 7), .ref (ex 3), .ref (ex 4), .ref (ex 5), .ref (a 4), .ref (ex 6), .ref (ex 7), .ref (ex 8), .ref (ex 9), .ref (ex 10), .ref (ex 11)])), ((a 2), .inl (T 2, 200, .inr (.inl f7))), ((a 3), .inl (T 1, 9, .inl (fi 0))), ((a 4), .inl (T 1, 9, .inl (fi 1))), ((a 5), .inl (T 1, 9, .inl (fi 2))), ((a 6), .inl (T 1, 9, .inl (fi 3))), ((a 7), .inl (T 1, 9, .inl (fi 4)))] := ⟨_, rfl, hP, hD⟩
          refine lv_iconst (v := 0) hx hb dX2_endMonday_58 (by decide) ?_
          refine lv_istore_n (lv' := [(3, .int 0), (1, .long w1), (0, .ref (a 0))]) hx hb dX2_endMonday_59 rfl hl (by decide) rfl (fun ls hl => ?_)
          have lp_1 : ∀ (kn_1 : Nat) (w3_1 : Int32) (wf : Nat → Int32) (wf_1 : Nat → Int32) (H : Heap) (locs : List Loc) (ls : Array Slot), (0 ≤ w3_1.toInt) → (2147483648 - w3_1.toInt).toNat = kn_1 → va_P D vwCl [((a 0), .inr (2, [.ref (a 1), .int (vi 0), .int (vi 1), .int (vi 2), .int (vi 3), .int (vi 4), .int (vi 5), .ref (a 3), .ref (ex 0), .ref (ex 1), .ref (a 7), .ref (a 5), .ref (a 6), .ref (ex 2), .ref (a 2)])), ((a 1), .inr (7, [.int (vi 6), .int (vi 7), .ref (ex 3), .ref (ex 4), .ref (ex 5), .ref (a 4), .ref (ex 6), .ref (ex 7), .ref (ex 8), .ref (ex 9), .ref (ex 10), .ref (ex 11)])), ((a 2), .inl (T 2, 200, .inr (.inl f57))), ((a 3), .inl (T 1, 9, .inl (fi 0))), ((a 4), .inl (T 1, 9, .inl (fi 1))), ((a 5), .inl (T 1, 9, .inl wf)), ((a 6), .inl (T 1, 9, .inl wf_1)), ((a 7), .inl (T 1, 9, .inl (fi 4)))] H → va_D A [((a 0), .inr (2, [.ref (a 1), .int (vi 0), .int (vi 1), .int (vi 2), .int (vi 3), .int (vi 4), .int (vi 5), .ref (a 3), .ref (ex 0), .ref (ex 1), .ref (a 7), .ref (a 5), .ref (a 6), .ref (ex 2), .ref (a 2)])), ((a 1), .inr (7, [.int (vi 6), .int (vi 7), .ref (ex 3), .ref (ex 4), .ref (ex 5), .ref (a 4), .ref (ex 6), .ref (ex 7), .ref (ex 8), .ref (ex 9), .ref (ex 10), .ref (ex 11)])), ((a 2), .inl (T 2, 200, .inr (.inl f57))), ((a 3), .inl (T 1, 9, .inl (fi 0))), ((a 4), .inl (T 1, 9, .inl (fi 1))), ((a 5), .inl (T 1, 9, .inl wf)), ((a 6), .inl (T 1, 9, .inl wf_1)), ((a 7), .inl (T 1, 9, .inl (fi 4)))] → va_S A s.heap H locs → lv_has ls 4 [(3, .int w3_1), (1, .long w1), (0, .ref (a 0))] → W p l e R s m ([.ref (a 0)] : List Value).toArray below meth c H locs 0 0 Q (F0 m 60 ls []) := by
            intro kn_1
            induction kn_1 using Nat.strongRecOn with
            | _ kn_1 ih_1 =>
              intro w3_1 wf wf_1 H locs ls hi_1 hm_1 hP hD hS hl
              refine lv_iload_n hx hb dX2_endMonday_60 rfl (lv_at hl 0 rfl) ?_
              refine lv_aload_n hx hb dX2_endMonday_61 rfl (lv_at hl 2 rfl) ?_
              refine va_get (D := D) (ci := 2) (v := .ref (a 1)) (C := RX2) (T := TX2) (N := 15) hx hb htg inX2 hown hK.1 hP 0 rfl rfl 0 (by decide) (htg _ kw_245) (fun _ h9 => h9) rfl dX2_endMonday_62 ?_
              refine va_getN (D := D) (ci := 7) (v := .int (vi 6)) (C := RX7) (T := TX7) (N := 12) hx hb htg inX7 hown hK.1 hP 1 rfl rfl 0 (by decide) (va_Nw.use rfl (hK.2.1 _ kn_159)) (fun _ h9 => h9) rfl dX2_endMonday_65 ?_
              refine lv_icmp_ge (tgt := 112) hx hb dX2_endMonday_68 (by decide) (fun c68 => ?_) (fun c68 => ?_)
              · have c68 := Int32.le_iff_toInt_le.mp c68
                have rc68 := xrng w3_1; have qc68 := xrng (vi 6)
                refine lv_aload_n hx hb dX2_endMonday_112 rfl (lv_at hl 2 rfl) ?_
                refine lv_dup hx hb dX2_endMonday_113 rfl ?_
                refine va_get (D := D) (ci := 2) (v := .int (vi 0)) (C := RX2) (T := TX2) (N := 15) hx hb htg inX2 hown hK.1 hP 0 rfl rfl 1 (by decide) (htg _ kw_247) (fun _ h9 => h9) rfl dX2_endMonday_114 ?_
                refine lv_iconst (v := 1) hx hb dX2_endMonday_117 (by decide) ?_
                refine lv_iadd hx hb dX2_endMonday_118 ?_
                refine lv_topi (fun z118 ez118 => ?_)
                have tz118 : z118.toInt = (vi 0).toInt + 1 := by rw [ez118]; exact xadd rfl (by decide) (by omega) (by omega)
                refine va_put (D := D) (ci := 2) (v := .int z118) (ty := .int) (C := RX2) (T := TX2) (N := 15) hx hb htg inX2 tyX2 tyX2_ok nmX2 hown hK.1 hP hD hS 0 rfl rfl 1 (by decide) (htg _ kw_247) (fun _ h9 => h9) rfl (by decide +kernel) rfl rfl (Nat.le_of_ble_eq_true rfl) dX2_endMonday_119 (fun H locs hP hD hS => ?_)
                replace hP : va_P D vwCl [((a 0), .inr (2, [.ref (a 1), .int z118, .int (vi 1), .int (vi 2), .int (vi 3), .int (vi 4), .int (vi 5), .ref (a 3), .ref (ex 0), .ref (ex 1), .ref (a 7), .ref (a 5), .ref (a 6), .ref (ex 2), .ref (a 2)])), ((a 1), .inr (7, [.int (vi 6), .int (vi 7), .ref (ex 3), .ref (ex 4), .ref (ex 5), .ref (a 4), .ref (ex 6), .ref (ex 7), .ref (ex 8), .ref (ex 9), .ref (ex 10), .ref (ex 11)])), ((a 2), .inl (T 2, 200, .inr (.inl f57))), ((a 3), .inl (T 1, 9, .inl (fi 0))), ((a 4), .inl (T 1, 9, .inl (fi 1))), ((a 5), .inl (T 1, 9, .inl wf)), ((a 6), .inl (T 1, 9, .inl wf_1)), ((a 7), .inl (T 1, 9, .inl (fi 4)))] H := hP
                replace hD : va_D A [((a 0), .inr (2, [.ref (a 1), .int z118, .int (vi 1), .int (vi 2), .int (vi 3), .int (vi 4), .int (vi 5), .ref (a 3), .ref (ex 0), .ref (ex 1), .ref (a 7), .ref (a 5), .ref (a 6), .ref (ex 2), .ref (a 2)])), ((a 1), .inr (7, [.int (vi 6), .int (vi 7), .ref (ex 3), .ref (ex 4), .ref (ex 5), .ref (a 4), .ref (ex 6), .ref (ex 7), .ref (ex 8), .ref (ex 9), .ref (ex 10), .ref (ex 11)])), ((a 2), .inl (T 2, 200, .inr (.inl f57))), ((a 3), .inl (T 1, 9, .inl (fi 0))), ((a 4), .inl (T 1, 9, .inl (fi 1))), ((a 5), .inl (T 1, 9, .inl wf)), ((a 6), .inl (T 1, 9, .inl wf_1)), ((a 7), .inl (T 1, 9, .inl (fi 4)))] := hD
                refine lv_aload_n hx hb dX2_endMonday_122 rfl (lv_at hl 2 rfl) ?_
                refine lv_iconst (v := 0) hx hb dX2_endMonday_123 (by decide) ?_
                refine va_put (D := D) (ci := 2) (v := .int 0) (ty := .int) (C := RX2) (T := TX2) (N := 15) hx hb htg inX2 tyX2 tyX2_ok nmX2 hown hK.1 hP hD hS 0 rfl rfl 3 (by decide) (htg _ kw_252) (fun _ h9 => h9) rfl (by decide +kernel) rfl rfl (Nat.le_of_ble_eq_true rfl) dX2_endMonday_124 (fun H locs hP hD hS => ?_)
                replace hP : va_P D vwCl [((a 0), .inr (2, [.ref (a 1), .int z118, .int (vi 1), .int 0, .int (vi 3), .int (vi 4), .int (vi 5), .ref (a 3), .ref (ex 0), .ref (ex 1), .ref (a 7), .ref (a 5), .ref (a 6), .ref (ex 2), .ref (a 2)])), ((a 1), .inr (7, [.int (vi 6), .int (vi 7), .ref (ex 3), .ref (ex 4), .ref (ex 5), .ref (a 4), .ref (ex 6), .ref (ex 7), .ref (ex 8), .ref (ex 9), .ref (ex 10), .ref (ex 11)])), ((a 2), .inl (T 2, 200, .inr (.inl f57))), ((a 3), .inl (T 1, 9, .inl (fi 0))), ((a 4), .inl (T 1, 9, .inl (fi 1))), ((a 5), .inl (T 1, 9, .inl wf)), ((a 6), .inl (T 1, 9, .inl wf_1)), ((a 7), .inl (T 1, 9, .inl (fi 4)))] H := hP
                replace hD : va_D A [((a 0), .inr (2, [.ref (a 1), .int z118, .int (vi 1), .int 0, .int (vi 3), .int (vi 4), .int (vi 5), .ref (a 3), .ref (ex 0), .ref (ex 1), .ref (a 7), .ref (a 5), .ref (a 6), .ref (ex 2), .ref (a 2)])), ((a 1), .inr (7, [.int (vi 6), .int (vi 7), .ref (ex 3), .ref (ex 4), .ref (ex 5), .ref (a 4), .ref (ex 6), .ref (ex 7), .ref (ex 8), .ref (ex 9), .ref (ex 10), .ref (ex 11)])), ((a 2), .inl (T 2, 200, .inr (.inl f57))), ((a 3), .inl (T 1, 9, .inl (fi 0))), ((a 4), .inl (T 1, 9, .inl (fi 1))), ((a 5), .inl (T 1, 9, .inl wf)), ((a 6), .inl (T 1, 9, .inl wf_1)), ((a 7), .inl (T 1, 9, .inl (fi 4)))] := hD
                have hP9 := hP.sub (ws' := [((a 0), .inr (2, [.ref (a 1), .int z118, .int (vi 1), .int 0, .int (vi 3), .int (vi 4), .int (vi 5), .ref (a 3), .ref (ex 0), .ref (ex 1), .ref (a 7), .ref (a 5), .ref (a 6), .ref (ex 2), .ref (a 2)])), ((a 1), .inr (7, [.int (vi 6), .int (vi 7), .ref (ex 3), .ref (ex 4), .ref (ex 5), .ref (a 4), .ref (ex 6), .ref (ex 7), .ref (ex 8), .ref (ex 9), .ref (ex 10), .ref (ex 11)])), ((a 2), .inl (T 2, 200, .inr (.inl f57))), ((a 3), .inl (T 1, 9, .inl (fi 0))), ((a 4), .inl (T 1, 9, .inl (fi 1))), ((a 5), .inl (T 1, 9, .inl wf)), ((a 6), .inl (T 1, 9, .inl wf_1)), ((a 7), .inl (T 1, 9, .inl (fi 4)))]) [0, 1, 2, 3, 4, 5, 6, 7] rfl
                have hD9 := hD.sub (ws' := [((a 0), .inr (2, [.ref (a 1), .int z118, .int (vi 1), .int 0, .int (vi 3), .int (vi 4), .int (vi 5), .ref (a 3), .ref (ex 0), .ref (ex 1), .ref (a 7), .ref (a 5), .ref (a 6), .ref (ex 2), .ref (a 2)])), ((a 1), .inr (7, [.int (vi 6), .int (vi 7), .ref (ex 3), .ref (ex 4), .ref (ex 5), .ref (a 4), .ref (ex 6), .ref (ex 7), .ref (ex 8), .ref (ex 9), .ref (ex 10), .ref (ex 11)])), ((a 2), .inl (T 2, 200, .inr (.inl f57))), ((a 3), .inl (T 1, 9, .inl (fi 0))), ((a 4), .inl (T 1, 9, .inl (fi 1))), ((a 5), .inl (T 1, 9, .inl wf)), ((a 6), .inl (T 1, 9, .inl wf_1)), ((a 7), .inl (T 1, 9, .inl (fi 4)))]) [0, 1, 2, 3, 4, 5, 6, 7] (by decide +kernel) rfl
                rw [hQ]
                exact W.vret hx hb hr (fun t ht hW => ⟨⟨(0 : Int32), rfl, trivial, xf [wf, wf_1], xh [f57], xv [z118, 0], xl [], by rw [ht]; exact hP9, hD9, ⟨(by show 0 ≤ z118.toInt ∧ z118.toInt ≤ 200; omega), trivial⟩⟩, hS.F ht⟩) hS.2.2 dX2_endMonday_127
              · have c68 := (mt Int32.le_iff_toInt_le.mpr c68)
                have rc68 := xrng w3_1; have qc68 := xrng (vi 6)
                refine lv_aload_n hx hb dX2_endMonday_71 rfl (lv_at hl 2 rfl) ?_
                refine va_get (D := D) (ci := 2) (v := .ref (a 3)) (C := RX2) (T := TX2) (N := 15) hx hb htg inX2 hown hK.1 hP 0 rfl rfl 7 (by decide) (htg _ kw_260) (fun _ h9 => h9) rfl dX2_endMonday_72 ?_
                refine lv_iload_n hx hb dX2_endMonday_75 rfl (lv_at hl 0 rfl) ?_
                refine va_iald hx hb hK.1 hP 3 1 rfl rfl (vp_in_iff.mpr (by omega)) dX2_endMonday_76 ?_
                have hv := rg_at hp4 (i := w3_1) (by omega) (by omega)
                refine lv_iconst (v := (-1)) hx hb dX2_endMonday_77 (by decide) ?_
                refine lv_icmp_eq (tgt := 106) hx hb dX2_endMonday_78 (by decide) (fun c78 => ?_) (fun c78 => ?_)
                · have c78 := xeq (k := (-1)) (by decide) c78
                  obtain ⟨i106, ei106⟩ : ∃ z : Int32, w3_1 + Int32.ofInt 1 = z := ⟨_, rfl⟩
                  have ti106 : i106.toInt = w3_1.toInt + 1 := by rw [← ei106]; exact xadd rfl (by decide) (by omega) (by omega)
                  refine lv_iinc (v := i106) (lv' := [(3, .int i106), (1, .long w1), (0, .ref (a 0))]) hx hb dX2_endMonday_106 hl (k := 0) rfl ei106 (by decide) rfl (fun ls hl => ?_)
                  refine lv_goto (tgt := 60) hx hb dX2_endMonday_109 (by decide) ?_
                  exact ih_1 _ (by omega) i106 wf wf_1 _ _ _ (by show 0 ≤ i106.toInt; omega) rfl (hP.sub [0, 1, 2, 3, 4, 5, 6, 7] rfl) (hD.sub [0, 1, 2, 3, 4, 5, 6, 7] (by decide) rfl) hS (lv_sub hl [0, 1, 2] rfl)
                · have c78 := xne (k := (-1)) (by decide) c78
                  refine lv_aload_n hx hb dX2_endMonday_81 rfl (lv_at hl 2 rfl) ?_
                  refine va_get (D := D) (ci := 2) (v := .ref (a 1)) (C := RX2) (T := TX2) (N := 15) hx hb htg inX2 hown hK.1 hP 0 rfl rfl 0 (by decide) (htg _ kw_245) (fun _ h9 => h9) rfl dX2_endMonday_82 ?_
                  refine lv_iload_n hx hb dX2_endMonday_85 rfl (lv_at hl 0 rfl) ?_
                  refine lv_aload_n hx hb dX2_endMonday_86 rfl (lv_at hl 2 rfl) ?_
                  refine va_get (D := D) (ci := 2) (v := .int (vi 0)) (C := RX2) (T := TX2) (N := 15) hx hb htg inX2 hown hK.1 hP 0 rfl rfl 1 (by decide) (htg _ kw_247) (fun _ h9 => h9) rfl dX2_endMonday_87 ?_
                  have hPc := hP.sub (ws' := (pre_X7_isFeast T (xa [(a 1), (a 4)]) (xa [(ex 3), (ex 4), (ex 5), (ex 6), (ex 7), (ex 8), (ex 9), (ex 10), (ex 11)]) (xf [(fi 1)]) (xh []) (xv [w3_1, (vi 0), (vi 6), (vi 7)]) (xl []))) [1, 4] rfl
                  have hDc := hD.sub (ws' := (pre_X7_isFeast T (xa [(a 1), (a 4)]) (xa [(ex 3), (ex 4), (ex 5), (ex 6), (ex 7), (ex 8), (ex 9), (ex 10), (ex 11)]) (xf [(fi 1)]) (xh []) (xv [w3_1, (vi 0), (vi 6), (vi 7)]) (xl []))) [1, 4] (by decide) rfl
                  have hFc := va_free (wc := (pre_X7_isFeast T (xa [(a 1), (a 4)]) (xa [(ex 3), (ex 4), (ex 5), (ex 6), (ex 7), (ex 8), (ex 9), (ex 10), (ex 11)]) (xf [(fi 1)]) (xh []) (xv [w3_1, (vi 0), (vi 6), (vi 7)]) (xl []))) hD hS hA [1, 4] rfl
                  refine va_calli (va_runVN (As := [.int w3_1, .int (vi 0)]) (rest := []) ⟨hx, hb, hml, hown, htg⟩ (c_X7_isFeast l D T (xa [(a 1), (a 4)]) (xa [(ex 3), (ex 4), (ex 5), (ex 6), (ex 7), (ex 8), (ex 9), (ex 10), (ex 11)]) (xf [(fi 1)]) (xh []) (xv [w3_1, (vi 0), (vi 6), (vi 7)]) (xl []) H.size (by show 0 ≤ (vi 0).toInt ∧ (vi 0).toInt ≤ 200; omega) (by show 0 ≤ (vi 6).toInt ∧ (vi 6).toInt ≤ 9; omega) (by show 0 ≤ (vi 7).toInt ∧ (vi 7).toInt ≤ 9; omega)) ⟨va_cnB 2 htg (xg_ok kw_882) rfl rfl rfl (hK.2.1 _ kn_879) (htg _ kw_7) (by decide +kernel) ⟨by rw [hR]; exact Nat.le_of_ble_eq_true rfl, by rw [hR]; exact Nat.le_of_ble_eq_true rfl⟩, htg _ kw_881, htg _ ks_65⟩ (xpreV hK hPc hDc (va_recv hK.1 hPc (ci := 7) (q0 := 0) rfl rfl)) rfl rfl hl.1 rfl (lv_room (Nat.le_of_ble_eq_true rfl)) dX2_endMonday_90 ⟨by rw [hR]; exact Nat.le_of_ble_eq_true rfl, by rw [hR]; exact Nat.le_of_ble_eq_true rfl⟩) hS (fun q _ h => hFc q h) hFc (fun r9 u9 t H1 locs ht hvm hw hB hz1 hk1 hS => ?_)
                  subst hw
                  obtain ⟨fik, flk, vik, vlk, hP1, hD1, hG⟩ := hB
                  rw [ht] at hP1
                  obtain ⟨hP, hD⟩ := va_join (wr := [((a 0), .inr (2, [.ref (a 1), .int (vi 0), .int (vi 1), .int (vi 2), .int (vi 3), .int (vi 4), .int (vi 5), .ref (a 3), .ref (ex 0), .ref (ex 1), .ref (a 7), .ref (a 5), .ref (a 6), .ref (ex 2), .ref (a 2)])), ((a 2), .inl (T 2, 200, .inr (.inl f57))), ((a 3), .inl (T 1, 9, .inl (fi 0))), ((a 5), .inl (T 1, 9, .inl wf)), ((a 6), .inl (T 1, 9, .inl wf_1)), ((a 7), .inl (T 1, 9, .inl (fi 4)))]) (w1 := [((a 1), .inr (7, [.int (vi 6), .int (vi 7), .ref (ex 3), .ref (ex 4), .ref (ex 5), .ref (a 4), .ref (ex 6), .ref (ex 7), .ref (ex 8), .ref (ex 9), .ref (ex 10), .ref (ex 11)])), ((a 4), .inl (T 1, 9, .inl (fi 1)))]) hP hD [1, 4] [0, 2, 3, 5, 6, 7] rfl rfl (by decide) (by decide) hk1 hFc hP1 hD1
                  obtain ⟨rk, er9⟩ : ∃ z, z = r9 := ⟨_, rfl⟩
                  subst er9
                  clear hPc hDc hFc hP1 hD1 hk1 hz1 hvm ht
                  generalize H1 = H at hP hS ⊢
                  replace hP : va_P D vwCl [((a 0), .inr (2, [.ref (a 1), .int (vi 0), .int (vi 1), .int (vi 2), .int (vi 3), .int (vi 4), .int (vi 5), .ref (a 3), .ref (ex 0), .ref (ex 1), .ref (a 7), .ref (a 5), .ref (a 6), .ref (ex 2), .ref (a 2)])), ((a 2), .inl (T 2, 200, .inr (.inl f57))), ((a 3), .inl (T 1, 9, .inl (fi 0))), ((a 5), .inl (T 1, 9, .inl wf)), ((a 6), .inl (T 1, 9, .inl wf_1)), ((a 7), .inl (T 1, 9, .inl (fi 4))), ((a 1), .inr (7, [.int (vi 6), .int (vi 7), .ref (ex 3), .ref (ex 4), .ref (ex 5), .ref (a 4), .ref (ex 6), .ref (ex 7), .ref (ex 8), .ref (ex 9), .ref (ex 10), .ref (ex 11)])), ((a 4), .inl (T 1, 9, .inl (fi 1)))] H := hP
                  replace hD : va_D A [((a 0), .inr (2, [.ref (a 1), .int (vi 0), .int (vi 1), .int (vi 2), .int (vi 3), .int (vi 4), .int (vi 5), .ref (a 3), .ref (ex 0), .ref (ex 1), .ref (a 7), .ref (a 5), .ref (a 6), .ref (ex 2), .ref (a 2)])), ((a 2), .inl (T 2, 200, .inr (.inl f57))), ((a 3), .inl (T 1, 9, .inl (fi 0))), ((a 5), .inl (T 1, 9, .inl wf)), ((a 6), .inl (T 1, 9, .inl wf_1)), ((a 7), .inl (T 1, 9, .inl (fi 4))), ((a 1), .inr (7, [.int (vi 6), .int (vi 7), .ref (ex 3), .ref (ex 4), .ref (ex 5), .ref (a 4), .ref (ex 6), .ref (ex 7), .ref (ex 8), .ref (ex 9), .ref (ex 10), .ref (ex 11)])), ((a 4), .inl (T 1, 9, .inl (fi 1)))] := hD
                  obtain ⟨gk_0, -⟩ := hG
                  rcases (show (rk = 1 ∧ (True)) ∨ (rk = 0 ∧ (True)) from gk_0) with ⟨er9, gk_0⟩ | ⟨er9, gk_0⟩
                  · refine xz_i 1 er9 ?_
                    refine lv_if_eq (tgt := 106) hx hb dX2_endMonday_93 (by decide) (fun c => absurd c (by decide)) (fun _ => ?_)
                    refine lv_aload_n hx hb dX2_endMonday_96 rfl (lv_at hl 2 rfl) ?_
                    refine lv_aload_n hx hb dX2_endMonday_97 rfl (lv_at hl 2 rfl) ?_
                    refine va_get (D := D) (ci := 2) (v := .ref (a 3)) (C := RX2) (T := TX2) (N := 15) hx hb htg inX2 hown hK.1 hP 0 rfl rfl 7 (by decide) (htg _ kw_260) (fun _ h9 => h9) rfl dX2_endMonday_98 ?_
                    refine lv_iload_n hx hb dX2_endMonday_101 rfl (lv_at hl 0 rfl) ?_
                    refine va_iald hx hb hK.1 hP 2 1 rfl rfl (vp_in_iff.mpr (by omega)) dX2_endMonday_102 ?_
                    have hPc := hP.sub (ws' := (pre_X2_feast T (xa [(a 0), (a 5), (a 6)]) (xa [(a 1), (a 3), (ex 0), (ex 1), (a 7), (ex 2), (a 2)]) (xf [wf, wf_1]) (xh []) (xv [((fi 0) w3_1.toNatClampNeg), (vi 0), (vi 1), (vi 2), (vi 3), (vi 4), (vi 5)]) (xl []))) [0, 3, 4] rfl
                    have hDc := hD.sub (ws' := (pre_X2_feast T (xa [(a 0), (a 5), (a 6)]) (xa [(a 1), (a 3), (ex 0), (ex 1), (a 7), (ex 2), (a 2)]) (xf [wf, wf_1]) (xh []) (xv [((fi 0) w3_1.toNatClampNeg), (vi 0), (vi 1), (vi 2), (vi 3), (vi 4), (vi 5)]) (xl []))) [0, 3, 4] (by decide) rfl
                    have hFc := va_free (wc := (pre_X2_feast T (xa [(a 0), (a 5), (a 6)]) (xa [(a 1), (a 3), (ex 0), (ex 1), (a 7), (ex 2), (a 2)]) (xf [wf, wf_1]) (xh []) (xv [((fi 0) w3_1.toNatClampNeg), (vi 0), (vi 1), (vi 2), (vi 3), (vi 4), (vi 5)]) (xl []))) hD hS hA [0, 3, 4] rfl
                    refine va_callv (va_runV (As := [.int ((fi 0) w3_1.toNatClampNeg)]) (rest := []) ⟨hx, hb, hml, hown, htg⟩ (c_X2_feast l D T (xa [(a 0), (a 5), (a 6)]) (xa [(a 1), (a 3), (ex 0), (ex 1), (a 7), (ex 2), (a 2)]) (xf [wf, wf_1]) (xh []) (xv [((fi 0) w3_1.toNatClampNeg), (vi 0), (vi 1), (vi 2), (vi 3), (vi 4), (vi 5)]) (xl []) H.size (by show 0 ≤ ((fi 0) w3_1.toNatClampNeg).toInt ∧ ((fi 0) w3_1.toNatClampNeg).toInt ≤ 8; omega) (by show 0 ≤ (vi 0).toInt ∧ (vi 0).toInt ≤ 200; omega) (by show 0 ≤ (vi 5).toInt ∧ (vi 5).toInt ≤ 9; omega)) ⟨callB_of 1 htg (xg_ok kw_886) rfl rfl rfl (htg _ kw_9) (htg _ kw_883) (by decide +kernel) ⟨by rw [hR]; exact Nat.le_of_ble_eq_true rfl, by rw [hR]; exact Nat.le_of_ble_eq_true rfl⟩, htg _ kw_885, htg _ ks_66⟩ (xpreV hK hPc hDc (va_recv hK.1 hPc (ci := 2) (q0 := 0) rfl rfl)) rfl rfl hl.1 rfl (lv_room (Nat.le_of_ble_eq_true rfl)) dX2_endMonday_103 ⟨by rw [hR]; exact Nat.le_of_ble_eq_true rfl, by rw [hR]; exact Nat.le_of_ble_eq_true rfl⟩) hS (fun q _ h => hFc q h) hFc (fun u9 t H1 locs ht hvm hw hB hz1 hk1 hS => ?_)
                    obtain ⟨fik_1, flk_1, vik_1, vlk_1, hP1, hD1, hG⟩ := hB
                    rw [ht] at hP1
                    obtain ⟨hP, hD⟩ := va_join (wr := [((a 2), .inl (T 2, 200, .inr (.inl f57))), ((a 3), .inl (T 1, 9, .inl (fi 0))), ((a 7), .inl (T 1, 9, .inl (fi 4))), ((a 1), .inr (7, [.int (vi 6), .int (vi 7), .ref (ex 3), .ref (ex 4), .ref (ex 5), .ref (a 4), .ref (ex 6), .ref (ex 7), .ref (ex 8), .ref (ex 9), .ref (ex 10), .ref (ex 11)])), ((a 4), .inl (T 1, 9, .inl (fi 1)))]) (w1 := [((a 0), .inr (2, [.ref (a 1), .int (vi 0), .int (vi 1), .int (vi 2), .int (vi 3), .int (vi 4), .int (vi 5), .ref (a 3), .ref (ex 0), .ref (ex 1), .ref (a 7), .ref (a 5), .ref (a 6), .ref (ex 2), .ref (a 2)])), ((a 5), .inl (T 1, 9, .inl (fik_1 0))), ((a 6), .inl (T 1, 9, .inl (fik_1 1)))]) hP hD [0, 3, 4] [1, 2, 5, 6, 7] rfl rfl (by decide) (by decide) hk1 hFc hP1 hD1
                    clear hPc hDc hFc hP1 hD1 hk1 hz1 hvm ht
                    generalize H1 = H at hP hS ⊢
                    replace hP : va_P D vwCl [((a 2), .inl (T 2, 200, .inr (.inl f57))), ((a 3), .inl (T 1, 9, .inl (fi 0))), ((a 7), .inl (T 1, 9, .inl (fi 4))), ((a 1), .inr (7, [.int (vi 6), .int (vi 7), .ref (ex 3), .ref (ex 4), .ref (ex 5), .ref (a 4), .ref (ex 6), .ref (ex 7), .ref (ex 8), .ref (ex 9), .ref (ex 10), .ref (ex 11)])), ((a 4), .inl (T 1, 9, .inl (fi 1))), ((a 0), .inr (2, [.ref (a 1), .int (vi 0), .int (vi 1), .int (vi 2), .int (vi 3), .int (vi 4), .int (vi 5), .ref (a 3), .ref (ex 0), .ref (ex 1), .ref (a 7), .ref (a 5), .ref (a 6), .ref (ex 2), .ref (a 2)])), ((a 5), .inl (T 1, 9, .inl (fik_1 0))), ((a 6), .inl (T 1, 9, .inl (fik_1 1)))] H := hP
                    replace hD : va_D A [((a 2), .inl (T 2, 200, .inr (.inl f57))), ((a 3), .inl (T 1, 9, .inl (fi 0))), ((a 7), .inl (T 1, 9, .inl (fi 4))), ((a 1), .inr (7, [.int (vi 6), .int (vi 7), .ref (ex 3), .ref (ex 4), .ref (ex 5), .ref (a 4), .ref (ex 6), .ref (ex 7), .ref (ex 8), .ref (ex 9), .ref (ex 10), .ref (ex 11)])), ((a 4), .inl (T 1, 9, .inl (fi 1))), ((a 0), .inr (2, [.ref (a 1), .int (vi 0), .int (vi 1), .int (vi 2), .int (vi 3), .int (vi 4), .int (vi 5), .ref (a 3), .ref (ex 0), .ref (ex 1), .ref (a 7), .ref (a 5), .ref (a 6), .ref (ex 2), .ref (a 2)])), ((a 5), .inl (T 1, 9, .inl (fik_1 0))), ((a 6), .inl (T 1, 9, .inl (fik_1 1)))] := hD
                    clear hG
                    obtain ⟨i106_1, ei106_1⟩ : ∃ z : Int32, w3_1 + Int32.ofInt 1 = z := ⟨_, rfl⟩
                    have ti106_1 : i106_1.toInt = w3_1.toInt + 1 := by rw [← ei106_1]; exact xadd rfl (by decide) (by omega) (by omega)
                    refine lv_iinc (v := i106_1) (lv' := [(3, .int i106_1), (1, .long w1), (0, .ref (a 0))]) hx hb dX2_endMonday_106 hl (k := 0) rfl ei106_1 (by decide) rfl (fun ls hl => ?_)
                    refine lv_goto (tgt := 60) hx hb dX2_endMonday_109 (by decide) ?_
                    exact ih_1 _ (by omega) i106_1 (fik_1 0) (fik_1 1) _ _ _ (by show 0 ≤ i106_1.toInt; omega) rfl (hP.sub [5, 3, 0, 1, 4, 6, 7, 2] rfl) (hD.sub [5, 3, 0, 1, 4, 6, 7, 2] (by decide) rfl) hS (lv_sub hl [0, 1, 2] rfl)
                  · refine xz_i 0 er9 ?_
                    refine lv_if_eq (tgt := 106) hx hb dX2_endMonday_93 (by decide) (fun _ => ?_) (fun c => absurd (by decide) c)
                    obtain ⟨i106_2, ei106_2⟩ : ∃ z : Int32, w3_1 + Int32.ofInt 1 = z := ⟨_, rfl⟩
                    have ti106_2 : i106_2.toInt = w3_1.toInt + 1 := by rw [← ei106_2]; exact xadd rfl (by decide) (by omega) (by omega)
                    refine lv_iinc (v := i106_2) (lv' := [(3, .int i106_2), (1, .long w1), (0, .ref (a 0))]) hx hb dX2_endMonday_106 hl (k := 0) rfl ei106_2 (by decide) rfl (fun ls hl => ?_)
                    refine lv_goto (tgt := 60) hx hb dX2_endMonday_109 (by decide) ?_
                    exact ih_1 _ (by omega) i106_2 wf wf_1 _ _ _ (by show 0 ≤ i106_2.toInt; omega) rfl (hP.sub [0, 6, 1, 2, 7, 3, 4, 5] rfl) (hD.sub [0, 6, 1, 2, 7, 3, 4, 5] (by decide) rfl) hS (lv_sub hl [0, 1, 2] rfl)
          exact lp_1 _ (0 : Int32) (fi 2) (fi 3) _ _ _ (by show 0 ≤ (0 : Int32).toInt; have k9_0 : (0 : Int32).toInt = 0 := by decide; omega) rfl hP hD hS hl
        · have c23 := (mt Int32.le_iff_toInt_le.mpr c23)
          have rc23 := xrng w3; have qc23 := xrng (vi 7)
          refine lv_lload_n hx hb dX2_endMonday_26 rfl (lv_at hl 1 rfl) ?_
          refine lv_aload_n hx hb dX2_endMonday_27 rfl (lv_at hl 2 rfl) ?_
          refine va_get (D := D) (ci := 2) (v := .ref (a 7)) (C := RX2) (T := TX2) (N := 15) hx hb htg inX2 hown hK.1 hP 0 rfl rfl 10 (by decide) (htg _ kw_267) (fun _ h9 => h9) rfl dX2_endMonday_28 ?_
          refine lv_iload_n hx hb dX2_endMonday_31 rfl (lv_at hl 0 rfl) ?_
          refine va_iald hx hb hK.1 hP 7 1 rfl rfl (vp_in_iff.mpr (by omega)) dX2_endMonday_32 ?_
          have hv_1 := rg_at hp5 (i := w3) (by omega) (by omega)
          refine lv_iconst (v := 1) hx hb dX2_endMonday_33 (by decide) ?_
          refine lv_iadd hx hb dX2_endMonday_34 ?_
          refine lv_topi (fun z34 ez34 => ?_)
          have tz34 : z34.toInt = ((fi 4) w3.toNatClampNeg).toInt + 1 := by rw [ez34]; exact xadd rfl (by decide) (by omega) (by omega)
          refine lv_i2l hx hb dX2_endMonday_35 rfl ?_
          refine lv_topl (fun z35 ez35 => ?_)
          refine lv_iconst (v := 4) hx hb dX2_endMonday_36 (by decide) ?_
          refine lv_iload_n hx hb dX2_endMonday_37 rfl (lv_at hl 0 rfl) ?_
          refine lv_imul hx hb dX2_endMonday_38 ?_
          refine lv_topi (fun z38 ez38 => ?_)
          have tz38 : z38.toInt = 4 * w3.toInt := by rw [ez38]; exact xmul (by decide) rfl (by omega) (by omega)
          refine lv_lshl hx hb dX2_endMonday_39 rfl ?_
          refine lv_topl (fun z39 ez39 => ?_)
          refine lv_lor hx hb dX2_endMonday_40 ?_
          refine lv_topl (fun z40 ez40 => ?_)
          refine lv_lstore_n (lv' := [(1, .long z40), (3, .int w3), (0, .ref (a 0))]) hx hb dX2_endMonday_41 rfl hl (by decide) rfl (fun ls hl => ?_)
          obtain ⟨i42, ei42⟩ : ∃ z : Int32, w3 + Int32.ofInt 1 = z := ⟨_, rfl⟩
          have ti42 : i42.toInt = w3.toInt + 1 := by rw [← ei42]; exact xadd rfl (by decide) (by omega) (by omega)
          refine lv_iinc (v := i42) (lv' := [(3, .int i42), (1, .long z40), (0, .ref (a 0))]) hx hb dX2_endMonday_42 hl (k := 1) rfl ei42 (by decide) rfl (fun ls hl => ?_)
          refine lv_goto (tgt := 15) hx hb dX2_endMonday_45 (by decide) ?_
          exact ih _ (by omega) i42 z40 _ _ _ (by show 0 ≤ i42.toInt; omega) rfl (hP.sub [0, 1, 2, 3, 4, 5, 6, 7] rfl) (hD.sub [0, 1, 2, 3, 4, 5, 6, 7] (by decide) rfl) hS (lv_sub hl [0, 1, 2] rfl)
    exact lp _ (0 : Int32) (0 : Int64) _ _ _ (by show 0 ≤ (0 : Int32).toInt; have k9_0 : (0 : Int32).toInt = 0 := by decide; omega) rfl hP hD hS hl
  · have c7 := xnlt (k := 200) (by decide) c7
    have hP9 := hP.sub (ws' := [((a 0), .inr (2, [.ref (a 1), .int (vi 0), .int (vi 1), .int (vi 2), .int (vi 3), .int (vi 4), .int (vi 5), .ref (a 3), .ref (ex 0), .ref (ex 1), .ref (a 7), .ref (a 5), .ref (a 6), .ref (ex 2), .ref (a 2)])), ((a 1), .inr (7, [.int (vi 6), .int (vi 7), .ref (ex 3), .ref (ex 4), .ref (ex 5), .ref (a 4), .ref (ex 6), .ref (ex 7), .ref (ex 8), .ref (ex 9), .ref (ex 10), .ref (ex 11)])), ((a 2), .inl (T 2, 200, .inr (.inl (fl 0)))), ((a 3), .inl (T 1, 9, .inl (fi 0))), ((a 4), .inl (T 1, 9, .inl (fi 1))), ((a 5), .inl (T 1, 9, .inl (fi 2))), ((a 6), .inl (T 1, 9, .inl (fi 3))), ((a 7), .inl (T 1, 9, .inl (fi 4)))]) [0, 1, 2, 3, 4, 5, 6, 7] rfl
    have hD9 := hD.sub (ws' := [((a 0), .inr (2, [.ref (a 1), .int (vi 0), .int (vi 1), .int (vi 2), .int (vi 3), .int (vi 4), .int (vi 5), .ref (a 3), .ref (ex 0), .ref (ex 1), .ref (a 7), .ref (a 5), .ref (a 6), .ref (ex 2), .ref (a 2)])), ((a 1), .inr (7, [.int (vi 6), .int (vi 7), .ref (ex 3), .ref (ex 4), .ref (ex 5), .ref (a 4), .ref (ex 6), .ref (ex 7), .ref (ex 8), .ref (ex 9), .ref (ex 10), .ref (ex 11)])), ((a 2), .inl (T 2, 200, .inr (.inl (fl 0)))), ((a 3), .inl (T 1, 9, .inl (fi 0))), ((a 4), .inl (T 1, 9, .inl (fi 1))), ((a 5), .inl (T 1, 9, .inl (fi 2))), ((a 6), .inl (T 1, 9, .inl (fi 3))), ((a 7), .inl (T 1, 9, .inl (fi 4)))]) [0, 1, 2, 3, 4, 5, 6, 7] (by decide +kernel) rfl
    rw [hQ]
    exact W.vret hx hb hr (fun t ht hW => ⟨⟨(0 : Int32), rfl, trivial, xf [(fi 2), (fi 3)], xh [(fl 0)], xv [(vi 0), (vi 2)], xl [], by rw [ht]; exact hP9, hD9, ⟨(by show 0 ≤ (vi 0).toInt ∧ (vi 0).toInt ≤ 200; omega), trivial⟩⟩, hS.F ht⟩) hS.2.2 dX2_endMonday_10
abbrev pre_X10_isFirstOfRing (T : Nat → ClassId) (a ex : Nat → Nat) (fi : Nat → Nat → Int32) (fl : Nat → Nat → Int64) (vi : Nat → Int32) (vl : Nat → Int64) : va_W := [((a 0), .inr (10, [.ref (ex 0), .ref (ex 1), .ref (a 1), .ref (ex 2), .int (vi 1)])), ((a 1), .inl (T 1, 9, .inl (fi 0)))]
set_option maxHeartbeats 8000000 in
set_option maxRecDepth 100000 in
theorem c_X10_isFirstOfRing (l : Launch) (D : va_G) (T : Nat → ClassId) (a ex : Nat → Nat) (fi : Nat → Nat → Int32) (fl : Nat → Nat → Int64) (vi : Nat → Int32) (vl : Nat → Int64) (sz : Nat) (hp0 : 0 ≤ (vi 0).toInt ∧ (vi 0).toInt ≤ 8) (hp1 : rg (fi 0) 0 9 (-1) 8) : Met l yX10_isFirstOfRing (xw yX10_isFirstOfRing cX10_isFirstOfRing 4 (some .boolean)) ({ frames := 0, cells := 0, slots := 0, locals := 0 }) (xP D T [.ref (a 0), .int (vi 0)] sz (pre_X10_isFirstOfRing T a ex fi fl vi vl)) (va_Qi (fun r u => r = u) (xC D (va_A (pre_X10_isFirstOfRing T a ex fi fl vi vl) sz) (fun fj fm vj vm => [((a 0), .inr (10, [.ref (ex 0), .ref (ex 1), .ref (a 1), .ref (ex 2), .int (vi 1)])), ((a 1), .inl (T 1, 9, .inl (fi 0)))]) (fun (r : Int32) (fj : Nat → Nat → Int32) (fm : Nat → Nat → Int64) (vj : Nat → Int32) (vm : Nat → Int64) => ((r = 1 ∧ (True)) ∨ (r = 0 ∧ (True))) ∧ True)) (va_A (pre_X10_isFirstOfRing T a ex fi fl vi vl) sz)) 0 0 (va_A (pre_X10_isFirstOfRing T a ex fi fl vi vl) sz) := by
  refine xofW (cc := cX10_isFirstOfRing) (maxL := 4) (ret := (some .boolean)) (by decide) rfl ?_
  intro p e s m args below meth c s₁ R Q hR hQ B hml hv
  obtain ⟨rfl, hsz, hP, hK, hD0⟩ := hv
  have hx := B.exec
  have hb := B.bytes
  have hr := B.returns
  have hts := atoms_spec (ws := xw yX10_isFirstOfRing cX10_isFirstOfRing 4 (some .boolean)) B.pre
  have htg : ∀ w ∈ xg, w.before _ s = true := fun w h => hts w (List.mem_cons_of_mem _ h)
  have hown : s.vm.findClass RX10 = some m.cls := findClass_of_methodNamed B.named
  have hlocks := B.notSynchronized
  subst hsz
  have hD := hD0.self (sz := s.heap.size)
  generalize hAe : va_A (pre_X10_isFirstOfRing T a ex fi fl vi vl) s.heap.size = A at hD hQ
  have hA : ∀ q : Nat, s.heap.size ≤ q → A q := fun q h => by rw [← hAe]; exact Or.inr h
  have hS : va_S A s.heap s.heap [] := va_S.rf
  replace hP : va_P D vwCl [((a 0), .inr (10, [.ref (ex 0), .ref (ex 1), .ref (a 1), .ref (ex 2), .int (vi 1)])), ((a 1), .inl (T 1, 9, .inl (fi 0)))] s.heap := hP
  replace hD : va_D A [((a 0), .inr (10, [.ref (ex 0), .ref (ex 1), .ref (a 1), .ref (ex 2), .int (vi 1)])), ((a 1), .inl (T 1, 9, .inl (fi 0)))] := hD
  have hl := lv_entry ([.ref (a 0), .int (vi 0)]) (n := 4) (Nat.le_of_ble_eq_true rfl)
  rw [lg_entry_eq]
  generalize (lg_sl ([.ref (a 0), .int (vi 0)]) ++ List.replicate (4 - (lg_sl ([.ref (a 0), .int (vi 0)])).length) Slot.unset).toArray = ls at hl ⊢
  replace hl : lv_has ls 4 [(0, .ref (a 0)), (1, .int (vi 0))] := hl
  refine lv_aload_n hx hb dX10_isFirstOfRing_0 rfl (lv_at hl 0 rfl) ?_
  refine va_get (D := D) (ci := 10) (v := .ref (a 1)) (C := RX10) (T := TX10) (N := 5) hx hb htg inX10 hown hK.1 hP 0 rfl rfl 2 (by decide) (htg _ kw_418) (fun _ h9 => h9) rfl dX10_isFirstOfRing_1 ?_
  refine lv_iload_n hx hb dX10_isFirstOfRing_4 rfl (lv_at hl 1 rfl) ?_
  refine va_iald hx hb hK.1 hP 1 1 rfl rfl (vp_in_iff.mpr (by omega)) dX10_isFirstOfRing_5 ?_
  have hv := rg_at hp1 (i := (vi 0)) (by omega) (by omega)
  refine lv_istore_n (lv' := [(2, .int ((fi 0) (vi 0).toNatClampNeg)), (0, .ref (a 0)), (1, .int (vi 0))]) hx hb dX10_isFirstOfRing_6 rfl hl (by decide) rfl (fun ls hl => ?_)
  refine lv_iconst (v := 0) hx hb dX10_isFirstOfRing_7 (by decide) ?_
  refine lv_istore_n (lv' := [(3, .int 0), (2, .int ((fi 0) (vi 0).toNatClampNeg)), (0, .ref (a 0)), (1, .int (vi 0))]) hx hb dX10_isFirstOfRing_8 rfl hl (by decide) rfl (fun ls hl => ?_)
  have lp : ∀ (kn : Nat) (w3 : Int32) (w2 : Int32) (H : Heap) (locs : List Loc) (ls : Array Slot), (0 ≤ w3.toInt) → (-1 ≤ w2.toInt ∧ w2.toInt ≤ 8) → (2147483648 - w3.toInt).toNat = kn → va_P D vwCl [((a 0), .inr (10, [.ref (ex 0), .ref (ex 1), .ref (a 1), .ref (ex 2), .int (vi 1)])), ((a 1), .inl (T 1, 9, .inl (fi 0)))] H → va_D A [((a 0), .inr (10, [.ref (ex 0), .ref (ex 1), .ref (a 1), .ref (ex 2), .int (vi 1)])), ((a 1), .inl (T 1, 9, .inl (fi 0)))] → va_S A s.heap H locs → lv_has ls 4 [(3, .int w3), (2, .int w2), (0, .ref (a 0)), (1, .int (vi 0))] → W p l e R s m ([.ref (a 0), .int (vi 0)] : List Value).toArray below meth c H locs 0 0 Q (F0 m 9 ls []) := by
    intro kn
    induction kn using Nat.strongRecOn with
    | _ kn ih =>
      intro w3 w2 H locs ls hi hi_1 hm hP hD hS hl
      refine lv_iload_n hx hb dX10_isFirstOfRing_9 rfl (lv_at hl 0 rfl) ?_
      refine lv_bipush (v := 9) hx hb dX10_isFirstOfRing_10 (by decide) ?_
      refine lv_icmp_ge (tgt := 33) hx hb dX10_isFirstOfRing_12 (by decide) (fun c12 => ?_) (fun c12 => ?_)
      · have c12 := xge (k := 9) (by decide) c12
        refine lv_iload_n hx hb dX10_isFirstOfRing_33 rfl (lv_at hl 1 rfl) ?_
        refine lv_iload_n hx hb dX10_isFirstOfRing_34 rfl (lv_at hl 3 rfl) ?_
        refine lv_icmp_ne (tgt := 42) hx hb dX10_isFirstOfRing_35 (by decide) (fun c35 => ?_) (fun c35 => ?_)
        · have c35 := xne2 c35
          have rc35 := xrng w2; have qc35 := xrng (vi 0)
          refine lv_iconst (v := 0) hx hb dX10_isFirstOfRing_42 (by decide) ?_
          have hP9 := hP.sub (ws' := [((a 0), .inr (10, [.ref (ex 0), .ref (ex 1), .ref (a 1), .ref (ex 2), .int (vi 1)])), ((a 1), .inl (T 1, 9, .inl (fi 0)))]) [0, 1] rfl
          have hD9 := hD.sub (ws' := [((a 0), .inr (10, [.ref (ex 0), .ref (ex 1), .ref (a 1), .ref (ex 2), .int (vi 1)])), ((a 1), .inl (T 1, 9, .inl (fi 0)))]) [0, 1] (by decide +kernel) rfl
          rw [hQ]
          exact W.zret (v := 0) hx hb hr rfl (fun t ht hW => ⟨⟨0, 0, rfl, rfl, xf [], xh [], xv [], xl [], by rw [ht]; exact hP9, hD9, ⟨(Or.inr ⟨rfl, by show True; first | trivial | omega⟩), trivial⟩⟩, hS.F ht⟩) hS.2.2 dX10_isFirstOfRing_43
        · have c35 := congrArg Int32.toInt c35
          have rc35 := xrng w2; have qc35 := xrng (vi 0)
          refine lv_iconst (v := 1) hx hb dX10_isFirstOfRing_38 (by decide) ?_
          refine lv_goto (tgt := 43) hx hb dX10_isFirstOfRing_39 (by decide) ?_
          have hP9 := hP.sub (ws' := [((a 0), .inr (10, [.ref (ex 0), .ref (ex 1), .ref (a 1), .ref (ex 2), .int (vi 1)])), ((a 1), .inl (T 1, 9, .inl (fi 0)))]) [0, 1] rfl
          have hD9 := hD.sub (ws' := [((a 0), .inr (10, [.ref (ex 0), .ref (ex 1), .ref (a 1), .ref (ex 2), .int (vi 1)])), ((a 1), .inl (T 1, 9, .inl (fi 0)))]) [0, 1] (by decide +kernel) rfl
          rw [hQ]
          exact W.zret (v := 1) hx hb hr rfl (fun t ht hW => ⟨⟨1, 1, rfl, rfl, xf [], xh [], xv [], xl [], by rw [ht]; exact hP9, hD9, ⟨(Or.inl ⟨rfl, by show True; first | trivial | omega⟩), trivial⟩⟩, hS.F ht⟩) hS.2.2 dX10_isFirstOfRing_43
      · have c12 := xnge (k := 9) (by decide) c12
        refine lv_iload_n hx hb dX10_isFirstOfRing_15 rfl (lv_at hl 1 rfl) ?_
        refine lv_iload_n hx hb dX10_isFirstOfRing_16 rfl (lv_at hl 3 rfl) ?_
        refine lv_icmp_le (tgt := 33) hx hb dX10_isFirstOfRing_17 (by decide) (fun c17 => ?_) (fun c17 => ?_)
        · have c17 := Int32.le_iff_toInt_le.mp c17
          have rc17 := xrng w2; have qc17 := xrng (vi 0)
          refine lv_iload_n hx hb dX10_isFirstOfRing_33 rfl (lv_at hl 1 rfl) ?_
          refine lv_iload_n hx hb dX10_isFirstOfRing_34 rfl (lv_at hl 3 rfl) ?_
          refine lv_icmp_ne (tgt := 42) hx hb dX10_isFirstOfRing_35 (by decide) (fun c35_1 => ?_) (fun c35_1 => ?_)
          · have c35_1 := xne2 c35_1
            have rc35_1 := xrng w2; have qc35_1 := xrng (vi 0)
            refine lv_iconst (v := 0) hx hb dX10_isFirstOfRing_42 (by decide) ?_
            have hP9 := hP.sub (ws' := [((a 0), .inr (10, [.ref (ex 0), .ref (ex 1), .ref (a 1), .ref (ex 2), .int (vi 1)])), ((a 1), .inl (T 1, 9, .inl (fi 0)))]) [0, 1] rfl
            have hD9 := hD.sub (ws' := [((a 0), .inr (10, [.ref (ex 0), .ref (ex 1), .ref (a 1), .ref (ex 2), .int (vi 1)])), ((a 1), .inl (T 1, 9, .inl (fi 0)))]) [0, 1] (by decide +kernel) rfl
            rw [hQ]
            exact W.zret (v := 0) hx hb hr rfl (fun t ht hW => ⟨⟨0, 0, rfl, rfl, xf [], xh [], xv [], xl [], by rw [ht]; exact hP9, hD9, ⟨(Or.inr ⟨rfl, by show True; first | trivial | omega⟩), trivial⟩⟩, hS.F ht⟩) hS.2.2 dX10_isFirstOfRing_43
          · have c35_1 := congrArg Int32.toInt c35_1
            have rc35_1 := xrng w2; have qc35_1 := xrng (vi 0)
            refine lv_iconst (v := 1) hx hb dX10_isFirstOfRing_38 (by decide) ?_
            refine lv_goto (tgt := 43) hx hb dX10_isFirstOfRing_39 (by decide) ?_
            have hP9 := hP.sub (ws' := [((a 0), .inr (10, [.ref (ex 0), .ref (ex 1), .ref (a 1), .ref (ex 2), .int (vi 1)])), ((a 1), .inl (T 1, 9, .inl (fi 0)))]) [0, 1] rfl
            have hD9 := hD.sub (ws' := [((a 0), .inr (10, [.ref (ex 0), .ref (ex 1), .ref (a 1), .ref (ex 2), .int (vi 1)])), ((a 1), .inl (T 1, 9, .inl (fi 0)))]) [0, 1] (by decide +kernel) rfl
            rw [hQ]
            exact W.zret (v := 1) hx hb hr rfl (fun t ht hW => ⟨⟨1, 1, rfl, rfl, xf [], xh [], xv [], xl [], by rw [ht]; exact hP9, hD9, ⟨(Or.inl ⟨rfl, by show True; first | trivial | omega⟩), trivial⟩⟩, hS.F ht⟩) hS.2.2 dX10_isFirstOfRing_43
        · have c17 := (mt Int32.le_iff_toInt_le.mpr c17)
          have rc17 := xrng w2; have qc17 := xrng (vi 0)
          refine lv_aload_n hx hb dX10_isFirstOfRing_20 rfl (lv_at hl 2 rfl) ?_
          refine va_get (D := D) (ci := 10) (v := .ref (a 1)) (C := RX10) (T := TX10) (N := 5) hx hb htg inX10 hown hK.1 hP 0 rfl rfl 2 (by decide) (htg _ kw_418) (fun _ h9 => h9) rfl dX10_isFirstOfRing_21 ?_
          refine lv_iload_n hx hb dX10_isFirstOfRing_24 rfl (lv_at hl 1 rfl) ?_
          refine va_iald hx hb hK.1 hP 1 1 rfl rfl (vp_in_iff.mpr (by omega)) dX10_isFirstOfRing_25 ?_
          have hv_1 := rg_at hp1 (i := w2) (by omega) (by omega)
          refine lv_istore_n (lv' := [(2, .int ((fi 0) w2.toNatClampNeg)), (3, .int w3), (0, .ref (a 0)), (1, .int (vi 0))]) hx hb dX10_isFirstOfRing_26 rfl hl (by decide) rfl (fun ls hl => ?_)
          obtain ⟨i27, ei27⟩ : ∃ z : Int32, w3 + Int32.ofInt 1 = z := ⟨_, rfl⟩
          have ti27 : i27.toInt = w3.toInt + 1 := by rw [← ei27]; exact xadd rfl (by decide) (by omega) (by omega)
          refine lv_iinc (v := i27) (lv' := [(3, .int i27), (2, .int ((fi 0) w2.toNatClampNeg)), (0, .ref (a 0)), (1, .int (vi 0))]) hx hb dX10_isFirstOfRing_27 hl (k := 1) rfl ei27 (by decide) rfl (fun ls hl => ?_)
          refine lv_goto (tgt := 9) hx hb dX10_isFirstOfRing_30 (by decide) ?_
          exact ih _ (by omega) i27 ((fi 0) w2.toNatClampNeg) _ _ _ (by show 0 ≤ i27.toInt; omega) (by show -1 ≤ ((fi 0) w2.toNatClampNeg).toInt ∧ ((fi 0) w2.toNatClampNeg).toInt ≤ 8; omega) rfl (hP.sub [0, 1] rfl) (hD.sub [0, 1] (by decide) rfl) hS (lv_sub hl [0, 1, 2, 3] rfl)
  exact lp _ (0 : Int32) ((fi 0) (vi 0).toNatClampNeg) _ _ _ (by show 0 ≤ (0 : Int32).toInt; have k9_0 : (0 : Int32).toInt = 0 := by decide; omega) (by show -1 ≤ ((fi 0) (vi 0).toNatClampNeg).toInt ∧ ((fi 0) (vi 0).toNatClampNeg).toInt ≤ 8; omega) rfl hP hD hS hl
abbrev pre_X2_drawLot (T : Nat → ClassId) (a ex : Nat → Nat) (fi : Nat → Nat → Int32) (fl : Nat → Nat → Int64) (vi : Nat → Int32) (vl : Nat → Int64) : va_W := [((a 0), .inr (2, [.ref (ex 0), .int (vi 1), .int (vi 2), .int (vi 3), .int (vi 4), .int (vi 5), .int (vi 6), .ref (a 4), .ref (ex 1), .ref (ex 2), .ref (a 3), .ref (ex 3), .ref (ex 4), .ref (a 2), .ref (ex 5)])), ((a 1), .inr (0, [.int (vi 7)])), ((a 2), .inl (T 1, 9, .inl (fi 0))), ((a 3), .inl (T 1, 9, .inl (fi 1))), ((a 4), .inl (T 1, 9, .inl (fi 2)))]
set_option maxHeartbeats 8000000 in
set_option maxRecDepth 100000 in
theorem c_X2_drawLot (l : Launch) (D : va_G) (T : Nat → ClassId) (a ex : Nat → Nat) (fi : Nat → Nat → Int32) (fl : Nat → Nat → Int64) (vi : Nat → Int32) (vl : Nat → Int64) (sz : Nat) (hp0 : 0 ≤ (vi 0).toInt ∧ (vi 0).toInt ≤ 8) (hp1 : 0 ≤ (vi 1).toInt ∧ (vi 1).toInt ≤ 200) (hp2 : 0 ≤ (vi 6).toInt ∧ (vi 6).toInt ≤ 9) (hp3 : rg (fi 0) 0 9 0 8) (hp4 : rg (fi 1) 0 9 (-1) 8) (hp5 : rg (fi 2) 0 9 (-1) 8) : Met l yX2_drawLot (xw yX2_drawLot cX2_drawLot 5 (some .int)) ({ frames := 2, cells := 0, slots := 0, locals := 146 }) (xP D T [.ref (a 0), .int (vi 0), .ref (a 1)] sz (pre_X2_drawLot T a ex fi fl vi vl)) (va_Qi (fun r u => r = u) (xC D (va_A (pre_X2_drawLot T a ex fi fl vi vl) sz) (fun fj fm vj vm => [((a 0), .inr (2, [.ref (ex 0), .int (vi 1), .int (vi 2), .int (vj 3), .int (vi 4), .int (vj 2), .int (vj 1), .ref (a 4), .ref (ex 1), .ref (ex 2), .ref (a 3), .ref (ex 3), .ref (ex 4), .ref (a 2), .ref (ex 5)])), ((a 1), .inr (0, [.int (vj 0)])), ((a 2), .inl (T 1, 9, .inl (fj 0))), ((a 3), .inl (T 1, 9, .inl (fj 1))), ((a 4), .inl (T 1, 9, .inl (fj 2)))]) (fun (r : Int32) (fj : Nat → Nat → Int32) (fm : Nat → Nat → Int64) (vj : Nat → Int32) (vm : Nat → Int64) => (0 ≤ (vj 1).toInt ∧ (vj 1).toInt ≤ 9) ∧ rg (fj 0) 0 9 0 8 ∧ rg (fj 1) 0 9 (-1) 8 ∧ rg (fj 2) 0 9 (-1) 8 ∧ True)) (va_A (pre_X2_drawLot T a ex fi fl vi vl) sz)) 0 0 (va_A (pre_X2_drawLot T a ex fi fl vi vl) sz) := by
  refine xofW (cc := cX2_drawLot) (maxL := 5) (ret := (some .int)) (by decide) rfl ?_
  intro p e s m args below meth c s₁ R Q hR hQ B hml hv
  obtain ⟨rfl, hsz, hP, hK, hD0⟩ := hv
  have hx := B.exec
  have hb := B.bytes
  have hr := B.returns
  have hts := atoms_spec (ws := xw yX2_drawLot cX2_drawLot 5 (some .int)) B.pre
  have htg : ∀ w ∈ xg, w.before _ s = true := fun w h => hts w (List.mem_cons_of_mem _ h)
  have hown : s.vm.findClass RX2 = some m.cls := findClass_of_methodNamed B.named
  have hlocks := B.notSynchronized
  subst hsz
  have hD := hD0.self (sz := s.heap.size)
  generalize hAe : va_A (pre_X2_drawLot T a ex fi fl vi vl) s.heap.size = A at hD hQ
  have hA : ∀ q : Nat, s.heap.size ≤ q → A q := fun q h => by rw [← hAe]; exact Or.inr h
  have hS : va_S A s.heap s.heap [] := va_S.rf
  replace hP : va_P D vwCl [((a 0), .inr (2, [.ref (ex 0), .int (vi 1), .int (vi 2), .int (vi 3), .int (vi 4), .int (vi 5), .int (vi 6), .ref (a 4), .ref (ex 1), .ref (ex 2), .ref (a 3), .ref (ex 3), .ref (ex 4), .ref (a 2), .ref (ex 5)])), ((a 1), .inr (0, [.int (vi 7)])), ((a 2), .inl (T 1, 9, .inl (fi 0))), ((a 3), .inl (T 1, 9, .inl (fi 1))), ((a 4), .inl (T 1, 9, .inl (fi 2)))] s.heap := hP
  replace hD : va_D A [((a 0), .inr (2, [.ref (ex 0), .int (vi 1), .int (vi 2), .int (vi 3), .int (vi 4), .int (vi 5), .int (vi 6), .ref (a 4), .ref (ex 1), .ref (ex 2), .ref (a 3), .ref (ex 3), .ref (ex 4), .ref (a 2), .ref (ex 5)])), ((a 1), .inr (0, [.int (vi 7)])), ((a 2), .inl (T 1, 9, .inl (fi 0))), ((a 3), .inl (T 1, 9, .inl (fi 1))), ((a 4), .inl (T 1, 9, .inl (fi 2)))] := hD
  have hl := lv_entry ([.ref (a 0), .int (vi 0), .ref (a 1)]) (n := 5) (Nat.le_of_ble_eq_true rfl)
  rw [lg_entry_eq]
  generalize (lg_sl ([.ref (a 0), .int (vi 0), .ref (a 1)]) ++ List.replicate (5 - (lg_sl ([.ref (a 0), .int (vi 0), .ref (a 1)])).length) Slot.unset).toArray = ls at hl ⊢
  replace hl : lv_has ls 5 [(0, .ref (a 0)), (1, .int (vi 0)), (2, .ref (a 1))] := hl
  refine lv_aload_n hx hb dX2_drawLot_0 rfl (lv_at hl 2 rfl) ?_
  refine lv_aload_n hx hb dX2_drawLot_1 rfl (lv_at hl 0 rfl) ?_
  refine va_get (D := D) (ci := 2) (v := .int (vi 6)) (C := RX2) (T := TX2) (N := 15) hx hb htg inX2 hown hK.1 hP 0 rfl rfl 6 (by decide) (htg _ kw_257) (fun _ h9 => h9) rfl dX2_drawLot_2 ?_
  have hPc := hP.sub (ws' := (pre_X0_next T (xa [(a 1)]) (xa []) (xf []) (xh []) (xv [(vi 6), (vi 7)]) (xl []))) [1] rfl
  have hDc := hD.sub (ws' := (pre_X0_next T (xa [(a 1)]) (xa []) (xf []) (xh []) (xv [(vi 6), (vi 7)]) (xl []))) [1] (by decide) rfl
  have hFc := va_free (wc := (pre_X0_next T (xa [(a 1)]) (xa []) (xf []) (xh []) (xv [(vi 6), (vi 7)]) (xl []))) hD hS hA [1] rfl
  refine va_calli (va_runVN (As := [.int (vi 6)]) (rest := []) ⟨hx, hb, hml, hown, htg⟩ (c_X0_next l D T (xa [(a 1)]) (xa []) (xf []) (xh []) (xv [(vi 6), (vi 7)]) (xl []) s.heap.size) ⟨va_cnB 1 htg (xg_ok kw_926) rfl rfl rfl (hK.2.1 _ kn_923) (htg _ kw_15) (by decide +kernel) ⟨by rw [hR]; exact Nat.le_of_ble_eq_true rfl, by rw [hR]; exact Nat.le_of_ble_eq_true rfl⟩, htg _ kw_925, htg _ ks_70⟩ (xpreV hK hPc hDc (va_recv hK.1 hPc (ci := 0) (q0 := 0) rfl rfl)) rfl rfl hl.1 rfl (lv_room (Nat.le_of_ble_eq_true rfl)) dX2_drawLot_5 ⟨by rw [hR]; exact Nat.le_of_ble_eq_true rfl, by rw [hR]; exact Nat.le_of_ble_eq_true rfl⟩) hS (fun q _ h => hFc q h) hFc (fun r9 u9 t H1 locs ht hvm hw hB hz1 hk1 hS => ?_)
  subst hw
  obtain ⟨fik, flk, vik, vlk, hP1, hD1, hG⟩ := hB
  rw [ht] at hP1
  obtain ⟨hP, hD⟩ := va_join (wr := [((a 0), .inr (2, [.ref (ex 0), .int (vi 1), .int (vi 2), .int (vi 3), .int (vi 4), .int (vi 5), .int (vi 6), .ref (a 4), .ref (ex 1), .ref (ex 2), .ref (a 3), .ref (ex 3), .ref (ex 4), .ref (a 2), .ref (ex 5)])), ((a 2), .inl (T 1, 9, .inl (fi 0))), ((a 3), .inl (T 1, 9, .inl (fi 1))), ((a 4), .inl (T 1, 9, .inl (fi 2)))]) (w1 := [((a 1), .inr (0, [.int (vik 0)]))]) hP hD [1] [0, 2, 3, 4] rfl rfl (by decide) (by decide) hk1 hFc hP1 hD1
  obtain ⟨rk, er9⟩ : ∃ z, z = r9 := ⟨_, rfl⟩
  subst er9
  clear hPc hDc hFc hP1 hD1 hk1 hz1 hvm ht
  generalize H1 = H at hP hS ⊢
  replace hP : va_P D vwCl [((a 0), .inr (2, [.ref (ex 0), .int (vi 1), .int (vi 2), .int (vi 3), .int (vi 4), .int (vi 5), .int (vi 6), .ref (a 4), .ref (ex 1), .ref (ex 2), .ref (a 3), .ref (ex 3), .ref (ex 4), .ref (a 2), .ref (ex 5)])), ((a 2), .inl (T 1, 9, .inl (fi 0))), ((a 3), .inl (T 1, 9, .inl (fi 1))), ((a 4), .inl (T 1, 9, .inl (fi 2))), ((a 1), .inr (0, [.int (vik 0)]))] H := hP
  replace hD : va_D A [((a 0), .inr (2, [.ref (ex 0), .int (vi 1), .int (vi 2), .int (vi 3), .int (vi 4), .int (vi 5), .int (vi 6), .ref (a 4), .ref (ex 1), .ref (ex 2), .ref (a 3), .ref (ex 3), .ref (ex 4), .ref (a 2), .ref (ex 5)])), ((a 2), .inl (T 1, 9, .inl (fi 0))), ((a 3), .inl (T 1, 9, .inl (fi 1))), ((a 4), .inl (T 1, 9, .inl (fi 2))), ((a 1), .inr (0, [.int (vik 0)]))] := hD
  obtain ⟨gk_0, -⟩ := hG
  replace gk_0 : 0 ≤ rk.toInt ∧ ((0 < (vi 6).toInt → rk.toInt < (vi 6).toInt)) := gk_0
  refine lv_istore_n (lv' := [(3, .int rk), (0, .ref (a 0)), (1, .int (vi 0)), (2, .ref (a 1))]) hx hb dX2_drawLot_8 rfl hl (by decide) rfl (fun ls hl => ?_)
  refine lv_iload_n hx hb dX2_drawLot_9 rfl (lv_at hl 0 rfl) ?_
  refine lv_aload_n hx hb dX2_drawLot_10 rfl (lv_at hl 1 rfl) ?_
  refine va_get (D := D) (ci := 2) (v := .int (vi 6)) (C := RX2) (T := TX2) (N := 15) hx hb htg inX2 hown hK.1 hP 0 rfl rfl 6 (by decide) (htg _ kw_257) (fun _ h9 => h9) rfl dX2_drawLot_11 ?_
  refine lv_icmp_lt (tgt := 19) hx hb dX2_drawLot_14 (by decide) (fun c14 => ?_) (fun c14 => ?_)
  · have c14 := Int32.lt_iff_toInt_lt.mp c14
    have rc14 := xrng rk; have qc14 := xrng (vi 6)
    refine lv_aload_n hx hb dX2_drawLot_19 rfl (lv_at hl 1 rfl) ?_
    refine va_get (D := D) (ci := 2) (v := .ref (a 2)) (C := RX2) (T := TX2) (N := 15) hx hb htg inX2 hown hK.1 hP 0 rfl rfl 13 (by decide) (htg _ kw_278) (fun _ h9 => h9) rfl dX2_drawLot_20 ?_
    refine lv_iload_n hx hb dX2_drawLot_23 rfl (lv_at hl 0 rfl) ?_
    refine va_iald hx hb hK.1 hP 1 1 rfl rfl (vp_in_iff.mpr (by omega)) dX2_drawLot_24 ?_
    have hv := rg_at hp3 (i := rk) (by omega) (by omega)
    refine lv_istore (lv' := [(4, .int ((fi 0) rk.toNatClampNeg)), (3, .int rk), (0, .ref (a 0)), (1, .int (vi 0)), (2, .ref (a 1))]) hx hb dX2_drawLot_25 hl (by decide) rfl (fun ls hl => ?_)
    refine lv_aload_n hx hb dX2_drawLot_27 rfl (lv_at hl 2 rfl) ?_
    refine lv_iload hx hb dX2_drawLot_28 (lv_at hl 0 rfl) ?_
    have hPc := hP.sub (ws' := (pre_X2_leaveQueue T (xa [(a 0), (a 2)]) (xa [(ex 0), (a 4), (ex 1), (ex 2), (a 3), (ex 3), (ex 4), (ex 5)]) (xf [(fi 0)]) (xh []) (xv [((fi 0) rk.toNatClampNeg), (vi 1), (vi 2), (vi 3), (vi 4), (vi 5), (vi 6)]) (xl []))) [0, 1] rfl
    have hDc := hD.sub (ws' := (pre_X2_leaveQueue T (xa [(a 0), (a 2)]) (xa [(ex 0), (a 4), (ex 1), (ex 2), (a 3), (ex 3), (ex 4), (ex 5)]) (xf [(fi 0)]) (xh []) (xv [((fi 0) rk.toNatClampNeg), (vi 1), (vi 2), (vi 3), (vi 4), (vi 5), (vi 6)]) (xl []))) [0, 1] (by decide) rfl
    have hFc := va_free (wc := (pre_X2_leaveQueue T (xa [(a 0), (a 2)]) (xa [(ex 0), (a 4), (ex 1), (ex 2), (a 3), (ex 3), (ex 4), (ex 5)]) (xf [(fi 0)]) (xh []) (xv [((fi 0) rk.toNatClampNeg), (vi 1), (vi 2), (vi 3), (vi 4), (vi 5), (vi 6)]) (xl []))) hD hS hA [0, 1] rfl
    refine va_callv (va_runV (As := [.int ((fi 0) rk.toNatClampNeg)]) (rest := []) ⟨hx, hb, hml, hown, htg⟩ (c_X2_leaveQueue l D T (xa [(a 0), (a 2)]) (xa [(ex 0), (a 4), (ex 1), (ex 2), (a 3), (ex 3), (ex 4), (ex 5)]) (xf [(fi 0)]) (xh []) (xv [((fi 0) rk.toNatClampNeg), (vi 1), (vi 2), (vi 3), (vi 4), (vi 5), (vi 6)]) (xl []) H.size (by show 0 ≤ (vi 1).toInt ∧ (vi 1).toInt ≤ 200; omega) (by show 0 ≤ (vi 6).toInt ∧ (vi 6).toInt ≤ 9; omega) (show rg (fi 0) 0 9 0 8 from hp3)) ⟨callB_of 1 htg (xg_ok kw_849) rfl rfl rfl (htg _ kw_9) (htg _ kw_846) (by decide +kernel) ⟨by rw [hR]; exact Nat.le_of_ble_eq_true rfl, by rw [hR]; exact Nat.le_of_ble_eq_true rfl⟩, htg _ kw_848, htg _ ks_57⟩ (xpreV hK hPc hDc (va_recv hK.1 hPc (ci := 2) (q0 := 0) rfl rfl)) rfl rfl hl.1 rfl (lv_room (Nat.le_of_ble_eq_true rfl)) dX2_drawLot_30 ⟨by rw [hR]; exact Nat.le_of_ble_eq_true rfl, by rw [hR]; exact Nat.le_of_ble_eq_true rfl⟩) hS (fun q _ h => hFc q h) hFc (fun u9 t H1 locs ht hvm hw hB hz1 hk1 hS => ?_)
    obtain ⟨fik_1, flk_1, vik_1, vlk_1, hP1, hD1, hG⟩ := hB
    rw [ht] at hP1
    obtain ⟨hP, hD⟩ := va_join (wr := [((a 3), .inl (T 1, 9, .inl (fi 1))), ((a 4), .inl (T 1, 9, .inl (fi 2))), ((a 1), .inr (0, [.int (vik 0)]))]) (w1 := [((a 0), .inr (2, [.ref (ex 0), .int (vi 1), .int (vi 2), .int (vi 3), .int (vi 4), .int (vi 5), .int (vik_1 0), .ref (a 4), .ref (ex 1), .ref (ex 2), .ref (a 3), .ref (ex 3), .ref (ex 4), .ref (a 2), .ref (ex 5)])), ((a 2), .inl (T 1, 9, .inl (fik_1 0)))]) hP hD [0, 1] [2, 3, 4] rfl rfl (by decide) (by decide) hk1 hFc hP1 hD1
    clear hPc hDc hFc hP1 hD1 hk1 hz1 hvm ht
    generalize H1 = H at hP hS ⊢
    replace hP : va_P D vwCl [((a 3), .inl (T 1, 9, .inl (fi 1))), ((a 4), .inl (T 1, 9, .inl (fi 2))), ((a 1), .inr (0, [.int (vik 0)])), ((a 0), .inr (2, [.ref (ex 0), .int (vi 1), .int (vi 2), .int (vi 3), .int (vi 4), .int (vi 5), .int (vik_1 0), .ref (a 4), .ref (ex 1), .ref (ex 2), .ref (a 3), .ref (ex 3), .ref (ex 4), .ref (a 2), .ref (ex 5)])), ((a 2), .inl (T 1, 9, .inl (fik_1 0)))] H := hP
    replace hD : va_D A [((a 3), .inl (T 1, 9, .inl (fi 1))), ((a 4), .inl (T 1, 9, .inl (fi 2))), ((a 1), .inr (0, [.int (vik 0)])), ((a 0), .inr (2, [.ref (ex 0), .int (vi 1), .int (vi 2), .int (vi 3), .int (vi 4), .int (vi 5), .int (vik_1 0), .ref (a 4), .ref (ex 1), .ref (ex 2), .ref (a 3), .ref (ex 3), .ref (ex 4), .ref (a 2), .ref (ex 5)])), ((a 2), .inl (T 1, 9, .inl (fik_1 0)))] := hD
    obtain ⟨gk_1_0, gk_1_1, -⟩ := hG
    replace gk_1_0 : 0 ≤ (vik_1 0).toInt ∧ (vik_1 0).toInt ≤ 9 := gk_1_0
    replace gk_1_1 : rg (fik_1 0) 0 9 0 8 := gk_1_1
    refine lv_aload_n hx hb dX2_drawLot_33 rfl (lv_at hl 2 rfl) ?_
    refine lv_iload hx hb dX2_drawLot_34 (lv_at hl 0 rfl) ?_
    refine lv_iload_n hx hb dX2_drawLot_36 rfl (lv_at hl 3 rfl) ?_
    have hPc := hP.sub (ws' := (pre_X2_give T (xa [(a 0), (a 3), (a 4)]) (xa [(ex 0), (ex 1), (ex 2), (ex 3), (ex 4), (a 2), (ex 5)]) (xf [(fi 1), (fi 2)]) (xh []) (xv [((fi 0) rk.toNatClampNeg), (vi 0), (vi 1), (vi 2), (vi 3), (vi 4), (vi 5), (vik_1 0)]) (xl []))) [3, 0, 1] rfl
    have hDc := hD.sub (ws' := (pre_X2_give T (xa [(a 0), (a 3), (a 4)]) (xa [(ex 0), (ex 1), (ex 2), (ex 3), (ex 4), (a 2), (ex 5)]) (xf [(fi 1), (fi 2)]) (xh []) (xv [((fi 0) rk.toNatClampNeg), (vi 0), (vi 1), (vi 2), (vi 3), (vi 4), (vi 5), (vik_1 0)]) (xl []))) [3, 0, 1] (by decide) rfl
    have hFc := va_free (wc := (pre_X2_give T (xa [(a 0), (a 3), (a 4)]) (xa [(ex 0), (ex 1), (ex 2), (ex 3), (ex 4), (a 2), (ex 5)]) (xf [(fi 1), (fi 2)]) (xh []) (xv [((fi 0) rk.toNatClampNeg), (vi 0), (vi 1), (vi 2), (vi 3), (vi 4), (vi 5), (vik_1 0)]) (xl []))) hD hS hA [3, 0, 1] rfl
    refine va_callv (va_runV (As := [.int ((fi 0) rk.toNatClampNeg), .int (vi 0)]) (rest := []) ⟨hx, hb, hml, hown, htg⟩ (c_X2_give l D T (xa [(a 0), (a 3), (a 4)]) (xa [(ex 0), (ex 1), (ex 2), (ex 3), (ex 4), (a 2), (ex 5)]) (xf [(fi 1), (fi 2)]) (xh []) (xv [((fi 0) rk.toNatClampNeg), (vi 0), (vi 1), (vi 2), (vi 3), (vi 4), (vi 5), (vik_1 0)]) (xl []) H.size (by show 0 ≤ ((fi 0) rk.toNatClampNeg).toInt ∧ ((fi 0) rk.toNatClampNeg).toInt ≤ 8; omega) (by show 0 ≤ (vi 0).toInt ∧ (vi 0).toInt ≤ 8; omega) (by show 0 ≤ (vi 1).toInt ∧ (vi 1).toInt ≤ 200; omega) (by show 0 ≤ (vik_1 0).toInt ∧ (vik_1 0).toInt ≤ 9; omega) (show rg (fi 1) 0 9 (-1) 8 from hp4) (show rg (fi 2) 0 9 (-1) 8 from hp5)) ⟨callB_of 2 htg (xg_ok kw_726) rfl rfl rfl (htg _ kw_9) (htg _ kw_723) (by decide +kernel) ⟨by rw [hR]; exact Nat.le_of_ble_eq_true rfl, by rw [hR]; exact Nat.le_of_ble_eq_true rfl⟩, htg _ kw_725, htg _ ks_35⟩ (xpreV hK hPc hDc (va_recv hK.1 hPc (ci := 2) (q0 := 0) rfl rfl)) rfl rfl hl.1 rfl (lv_room (Nat.le_of_ble_eq_true rfl)) dX2_drawLot_37 ⟨by rw [hR]; exact Nat.le_of_ble_eq_true rfl, by rw [hR]; exact Nat.le_of_ble_eq_true rfl⟩) hS (fun q _ h => hFc q h) hFc (fun u9 t H1 locs ht hvm hw hB hz1 hk1 hS => ?_)
    obtain ⟨fik_2, flk_2, vik_2, vlk_2, hP1, hD1, hG⟩ := hB
    rw [ht] at hP1
    obtain ⟨hP, hD⟩ := va_join (wr := [((a 1), .inr (0, [.int (vik 0)])), ((a 2), .inl (T 1, 9, .inl (fik_1 0)))]) (w1 := [((a 0), .inr (2, [.ref (ex 0), .int (vi 1), .int (vi 2), .int (vi 3), .int (vi 4), .int (vi 5), .int (vik_1 0), .ref (a 4), .ref (ex 1), .ref (ex 2), .ref (a 3), .ref (ex 3), .ref (ex 4), .ref (a 2), .ref (ex 5)])), ((a 3), .inl (T 1, 9, .inl (fik_2 0))), ((a 4), .inl (T 1, 9, .inl (fik_2 1)))]) hP hD [3, 0, 1] [2, 4] rfl rfl (by decide) (by decide) hk1 hFc hP1 hD1
    clear hPc hDc hFc hP1 hD1 hk1 hz1 hvm ht
    generalize H1 = H at hP hS ⊢
    replace hP : va_P D vwCl [((a 1), .inr (0, [.int (vik 0)])), ((a 2), .inl (T 1, 9, .inl (fik_1 0))), ((a 0), .inr (2, [.ref (ex 0), .int (vi 1), .int (vi 2), .int (vi 3), .int (vi 4), .int (vi 5), .int (vik_1 0), .ref (a 4), .ref (ex 1), .ref (ex 2), .ref (a 3), .ref (ex 3), .ref (ex 4), .ref (a 2), .ref (ex 5)])), ((a 3), .inl (T 1, 9, .inl (fik_2 0))), ((a 4), .inl (T 1, 9, .inl (fik_2 1)))] H := hP
    replace hD : va_D A [((a 1), .inr (0, [.int (vik 0)])), ((a 2), .inl (T 1, 9, .inl (fik_1 0))), ((a 0), .inr (2, [.ref (ex 0), .int (vi 1), .int (vi 2), .int (vi 3), .int (vi 4), .int (vi 5), .int (vik_1 0), .ref (a 4), .ref (ex 1), .ref (ex 2), .ref (a 3), .ref (ex 3), .ref (ex 4), .ref (a 2), .ref (ex 5)])), ((a 3), .inl (T 1, 9, .inl (fik_2 0))), ((a 4), .inl (T 1, 9, .inl (fik_2 1)))] := hD
    obtain ⟨gk_2_0, gk_2_1, -⟩ := hG
    replace gk_2_0 : rg (fik_2 0) 0 9 (-1) 8 := gk_2_0
    replace gk_2_1 : rg (fik_2 1) 0 9 (-1) 8 := gk_2_1
    refine lv_aload_n hx hb dX2_drawLot_40 rfl (lv_at hl 2 rfl) ?_
    refine lv_dup hx hb dX2_drawLot_41 rfl ?_
    refine va_get (D := D) (ci := 2) (v := .int (vi 5)) (C := RX2) (T := TX2) (N := 15) hx hb htg inX2 hown hK.1 hP 2 rfl rfl 5 (by decide) (htg _ kw_255) (fun _ h9 => h9) rfl dX2_drawLot_42 ?_
    refine lv_iconst (v := 1) hx hb dX2_drawLot_45 (by decide) ?_
    refine lv_iload_n hx hb dX2_drawLot_46 rfl (lv_at hl 3 rfl) ?_
    refine lv_ishl hx hb dX2_drawLot_47 ?_
    refine lv_topi (fun z47 ez47 => ?_)
    refine lv_iconst (v := (-1)) hx hb dX2_drawLot_48 (by decide) ?_
    refine lv_ixor hx hb dX2_drawLot_49 ?_
    refine lv_topi (fun z49 ez49 => ?_)
    refine lv_iand hx hb dX2_drawLot_50 ?_
    refine lv_topi (fun z50 ez50 => ?_)
    refine va_put (D := D) (ci := 2) (v := .int z50) (ty := .int) (C := RX2) (T := TX2) (N := 15) hx hb htg inX2 tyX2 tyX2_ok nmX2 hown hK.1 hP hD hS 2 rfl rfl 5 (by decide) (htg _ kw_255) (fun _ h9 => h9) rfl (by decide +kernel) rfl rfl (Nat.le_of_ble_eq_true rfl) dX2_drawLot_51 (fun H locs hP hD hS => ?_)
    replace hP : va_P D vwCl [((a 1), .inr (0, [.int (vik 0)])), ((a 2), .inl (T 1, 9, .inl (fik_1 0))), ((a 0), .inr (2, [.ref (ex 0), .int (vi 1), .int (vi 2), .int (vi 3), .int (vi 4), .int z50, .int (vik_1 0), .ref (a 4), .ref (ex 1), .ref (ex 2), .ref (a 3), .ref (ex 3), .ref (ex 4), .ref (a 2), .ref (ex 5)])), ((a 3), .inl (T 1, 9, .inl (fik_2 0))), ((a 4), .inl (T 1, 9, .inl (fik_2 1)))] H := hP
    replace hD : va_D A [((a 1), .inr (0, [.int (vik 0)])), ((a 2), .inl (T 1, 9, .inl (fik_1 0))), ((a 0), .inr (2, [.ref (ex 0), .int (vi 1), .int (vi 2), .int (vi 3), .int (vi 4), .int z50, .int (vik_1 0), .ref (a 4), .ref (ex 1), .ref (ex 2), .ref (a 3), .ref (ex 3), .ref (ex 4), .ref (a 2), .ref (ex 5)])), ((a 3), .inl (T 1, 9, .inl (fik_2 0))), ((a 4), .inl (T 1, 9, .inl (fik_2 1)))] := hD
    refine lv_aload_n hx hb dX2_drawLot_54 rfl (lv_at hl 2 rfl) ?_
    refine lv_dup hx hb dX2_drawLot_55 rfl ?_
    refine va_get (D := D) (ci := 2) (v := .int (vi 3)) (C := RX2) (T := TX2) (N := 15) hx hb htg inX2 hown hK.1 hP 2 rfl rfl 3 (by decide) (htg _ kw_252) (fun _ h9 => h9) rfl dX2_drawLot_56 ?_
    refine lv_iconst (v := 1) hx hb dX2_drawLot_59 (by decide) ?_
    refine lv_iload hx hb dX2_drawLot_60 (lv_at hl 0 rfl) ?_
    refine lv_ishl hx hb dX2_drawLot_62 ?_
    refine lv_topi (fun z62 ez62 => ?_)
    refine lv_ior hx hb dX2_drawLot_63 ?_
    refine lv_topi (fun z63 ez63 => ?_)
    refine va_put (D := D) (ci := 2) (v := .int z63) (ty := .int) (C := RX2) (T := TX2) (N := 15) hx hb htg inX2 tyX2 tyX2_ok nmX2 hown hK.1 hP hD hS 2 rfl rfl 3 (by decide) (htg _ kw_252) (fun _ h9 => h9) rfl (by decide +kernel) rfl rfl (Nat.le_of_ble_eq_true rfl) dX2_drawLot_64 (fun H locs hP hD hS => ?_)
    replace hP : va_P D vwCl [((a 1), .inr (0, [.int (vik 0)])), ((a 2), .inl (T 1, 9, .inl (fik_1 0))), ((a 0), .inr (2, [.ref (ex 0), .int (vi 1), .int (vi 2), .int z63, .int (vi 4), .int z50, .int (vik_1 0), .ref (a 4), .ref (ex 1), .ref (ex 2), .ref (a 3), .ref (ex 3), .ref (ex 4), .ref (a 2), .ref (ex 5)])), ((a 3), .inl (T 1, 9, .inl (fik_2 0))), ((a 4), .inl (T 1, 9, .inl (fik_2 1)))] H := hP
    replace hD : va_D A [((a 1), .inr (0, [.int (vik 0)])), ((a 2), .inl (T 1, 9, .inl (fik_1 0))), ((a 0), .inr (2, [.ref (ex 0), .int (vi 1), .int (vi 2), .int z63, .int (vi 4), .int z50, .int (vik_1 0), .ref (a 4), .ref (ex 1), .ref (ex 2), .ref (a 3), .ref (ex 3), .ref (ex 4), .ref (a 2), .ref (ex 5)])), ((a 3), .inl (T 1, 9, .inl (fik_2 0))), ((a 4), .inl (T 1, 9, .inl (fik_2 1)))] := hD
    refine lv_iload hx hb dX2_drawLot_67 (lv_at hl 0 rfl) ?_
    have hP9 := hP.sub (ws' := [((a 0), .inr (2, [.ref (ex 0), .int (vi 1), .int (vi 2), .int z63, .int (vi 4), .int z50, .int (vik_1 0), .ref (a 4), .ref (ex 1), .ref (ex 2), .ref (a 3), .ref (ex 3), .ref (ex 4), .ref (a 2), .ref (ex 5)])), ((a 1), .inr (0, [.int (vik 0)])), ((a 2), .inl (T 1, 9, .inl (fik_1 0))), ((a 3), .inl (T 1, 9, .inl (fik_2 0))), ((a 4), .inl (T 1, 9, .inl (fik_2 1)))]) [2, 0, 1, 3, 4] rfl
    have hD9 := hD.sub (ws' := [((a 0), .inr (2, [.ref (ex 0), .int (vi 1), .int (vi 2), .int z63, .int (vi 4), .int z50, .int (vik_1 0), .ref (a 4), .ref (ex 1), .ref (ex 2), .ref (a 3), .ref (ex 3), .ref (ex 4), .ref (a 2), .ref (ex 5)])), ((a 1), .inr (0, [.int (vik 0)])), ((a 2), .inl (T 1, 9, .inl (fik_1 0))), ((a 3), .inl (T 1, 9, .inl (fik_2 0))), ((a 4), .inl (T 1, 9, .inl (fik_2 1)))]) [2, 0, 1, 3, 4] (by decide +kernel) rfl
    rw [hQ]
    exact W.iret (v := ((fi 0) rk.toNatClampNeg)) hx hb hr (fun t ht hW => ⟨⟨((fi 0) rk.toNatClampNeg), ((fi 0) rk.toNatClampNeg), rfl, rfl, xf [(fik_1 0), (fik_2 0), (fik_2 1)], xh [], xv [(vik 0), (vik_1 0), z50, z63], xl [], by rw [ht]; exact hP9, hD9, ⟨(by show 0 ≤ (vik_1 0).toInt ∧ (vik_1 0).toInt ≤ 9; omega), (show rg (fik_1 0) 0 9 0 8 from gk_1_1), (show rg (fik_2 0) 0 9 (-1) 8 from gk_2_0), (show rg (fik_2 1) 0 9 (-1) 8 from gk_2_1), trivial⟩⟩, hS.F ht⟩) hS.2.2 dX2_drawLot_69
  · have c14 := (mt Int32.lt_iff_toInt_lt.mpr c14)
    have rc14 := xrng rk; have qc14 := xrng (vi 6)
    refine lv_iconst (v := (-1)) hx hb dX2_drawLot_17 (by decide) ?_
    have hP9 := hP.sub (ws' := [((a 0), .inr (2, [.ref (ex 0), .int (vi 1), .int (vi 2), .int (vi 3), .int (vi 4), .int (vi 5), .int (vi 6), .ref (a 4), .ref (ex 1), .ref (ex 2), .ref (a 3), .ref (ex 3), .ref (ex 4), .ref (a 2), .ref (ex 5)])), ((a 1), .inr (0, [.int (vik 0)])), ((a 2), .inl (T 1, 9, .inl (fi 0))), ((a 3), .inl (T 1, 9, .inl (fi 1))), ((a 4), .inl (T 1, 9, .inl (fi 2)))]) [0, 4, 1, 2, 3] rfl
    have hD9 := hD.sub (ws' := [((a 0), .inr (2, [.ref (ex 0), .int (vi 1), .int (vi 2), .int (vi 3), .int (vi 4), .int (vi 5), .int (vi 6), .ref (a 4), .ref (ex 1), .ref (ex 2), .ref (a 3), .ref (ex 3), .ref (ex 4), .ref (a 2), .ref (ex 5)])), ((a 1), .inr (0, [.int (vik 0)])), ((a 2), .inl (T 1, 9, .inl (fi 0))), ((a 3), .inl (T 1, 9, .inl (fi 1))), ((a 4), .inl (T 1, 9, .inl (fi 2)))]) [0, 4, 1, 2, 3] (by decide +kernel) rfl
    rw [hQ]
    exact W.iret (v := (-1)) hx hb hr (fun t ht hW => ⟨⟨(-1), (-1), rfl, rfl, xf [(fi 0), (fi 1), (fi 2)], xh [], xv [(vik 0), (vi 6), (vi 5), (vi 3)], xl [], by rw [ht]; exact hP9, hD9, ⟨(by show 0 ≤ (vi 6).toInt ∧ (vi 6).toInt ≤ 9; omega), (show rg (fi 0) 0 9 0 8 from hp3), (show rg (fi 1) 0 9 (-1) 8 from hp4), (show rg (fi 2) 0 9 (-1) 8 from hp5), trivial⟩⟩, hS.F ht⟩) hS.2.2 dX2_drawLot_18
abbrev pre_J0_coder_7d493 (T : Nat → ClassId) (a ex : Nat → Nat) (fi : Nat → Nat → Int32) (fl : Nat → Nat → Int64) (vi : Nat → Int32) (vl : Nat → Int64) : va_W := []
set_option maxHeartbeats 8000000 in
set_option maxRecDepth 100000 in
theorem c_J0_coder_7d493 (l : Launch) (D : va_G) (T : Nat → ClassId) (a ex : Nat → Nat) (fi : Nat → Nat → Int32) (fl : Nat → Nat → Int64) (vi : Nat → Int32) (vl : Nat → Int64) (kK kV : Nat → Nat) (sz : Nat) : Met l yJ0_coder_7d493 (xw yJ0_coder_7d493 cJ0_coder_7d493 1 (some .byte)) ({ frames := 0, cells := 0, slots := 0, locals := 0 }) (xPs D T kK kV [.ref (kK 3)] sz (pre_J0_coder_7d493 T a ex fi fl vi vl)) (va_Qi (fun r u => r = u) (xC D (va_A (pre_J0_coder_7d493 T a ex fi fl vi vl) sz) (fun fj fm vj vm => []) (fun (r : Int32) (fj : Nat → Nat → Int32) (fm : Nat → Nat → Int64) (vj : Nat → Int32) (vm : Nat → Int64) => r = 0 ∧ True)) (va_A (pre_J0_coder_7d493 T a ex fi fl vi vl) sz)) 0 0 (va_A (pre_J0_coder_7d493 T a ex fi fl vi vl) sz) := by
  refine xofW (cc := cJ0_coder_7d493) (maxL := 1) (ret := (some .byte)) (by decide) rfl ?_
  intro p e s m args below meth c s₁ R Q hR hQ B hml hv
  obtain ⟨rfl, hsz, hP, hK, hD0, hT⟩ := hv
  have hx := B.exec
  have hb := B.bytes
  have hr := B.returns
  have hts := atoms_spec (ws := xw yJ0_coder_7d493 cJ0_coder_7d493 1 (some .byte)) B.pre
  have htg : ∀ w ∈ xg, w.before _ s = true := fun w h => hts w (List.mem_cons_of_mem _ h)
  have hown : s.vm.findClass RJ0 = some m.cls := findClass_of_methodNamed B.named
  have hlocks := B.notSynchronized
  subst hsz
  have hD := hD0.self (sz := s.heap.size)
  generalize hAe : va_A (pre_J0_coder_7d493 T a ex fi fl vi vl) s.heap.size = A at hD hQ hT
  have hA : ∀ q : Nat, s.heap.size ≤ q → A q := fun q h => by rw [← hAe]; exact Or.inr h
  have hS : va_S A s.heap s.heap [] := va_S.rf
  replace hP : va_P D vwCl [] s.heap := hP
  replace hD : va_D A [] := hD
  have hl := lv_entry ([.ref (kK 3)]) (n := 1) (Nat.le_of_ble_eq_true rfl)
  rw [lg_entry_eq]
  generalize (lg_sl ([.ref (kK 3)]) ++ List.replicate (1 - (lg_sl ([.ref (kK 3)])).length) Slot.unset).toArray = ls at hl ⊢
  replace hl : lv_has ls 1 [(0, .ref (kK 3))] := hl
  refine va_gets hx hb hT.2.2.1 hS hown (htg _ kw_52) (fun _ h9 => h9) dJ0_coder_7d493_0 ?_
  refine lv_if_eq (tgt := 13) hx hb dJ0_coder_7d493_3 (by decide) (fun c => absurd c (by decide)) (fun _ => ?_)
  refine lv_aload_n hx hb dJ0_coder_7d493_6 rfl (lv_at hl 0 rfl) ?_
  refine vk_getf hx hb (hT.2.1 3 (by decide)).2.1 hS hown (htg _ kw_2031) (fun _ h9 => h9) dJ0_coder_7d493_7 ?_
  refine lv_goto (tgt := 14) hx hb dJ0_coder_7d493_10 (by decide) ?_
  have hP9 := hP.sub (ws' := []) [] rfl
  have hD9 := hD.sub (ws' := []) [] (by decide +kernel) rfl
  rw [hQ]
  exact W.zret (v := 0) hx hb hr rfl (fun t ht hW => ⟨⟨0, 0, rfl, rfl, xf [], xh [], xv [], xl [], by rw [ht]; exact hP9, hD9, ⟨rfl, trivial⟩⟩, hS.F ht⟩) hS.2.2 dJ0_coder_7d493_14
abbrev pre_J0_length_8abf5 (T : Nat → ClassId) (a ex : Nat → Nat) (fi : Nat → Nat → Int32) (fl : Nat → Nat → Int64) (vi : Nat → Int32) (vl : Nat → Int64) : va_W := []
set_option maxHeartbeats 8000000 in
set_option maxRecDepth 100000 in
theorem c_J0_length_8abf5 (l : Launch) (D : va_G) (T : Nat → ClassId) (a ex : Nat → Nat) (fi : Nat → Nat → Int32) (fl : Nat → Nat → Int64) (vi : Nat → Int32) (vl : Nat → Int64) (kK kV : Nat → Nat) (sz : Nat) : Met l yJ0_length_8abf5 (xw yJ0_length_8abf5 cJ0_length_8abf5 1 (some .int)) ({ frames := 1, cells := 0, slots := 0, locals := 24 }) (xPs D T kK kV [.ref (kK 3)] sz (pre_J0_length_8abf5 T a ex fi fl vi vl)) (va_Qi (fun r u => r = u) (xC D (va_A (pre_J0_length_8abf5 T a ex fi fl vi vl) sz) (fun fj fm vj vm => []) (fun (r : Int32) (fj : Nat → Nat → Int32) (fm : Nat → Nat → Int64) (vj : Nat → Int32) (vm : Nat → Int64) => r = 4 ∧ True)) (va_A (pre_J0_length_8abf5 T a ex fi fl vi vl) sz)) 0 0 (va_A (pre_J0_length_8abf5 T a ex fi fl vi vl) sz) := by
  refine xofW (cc := cJ0_length_8abf5) (maxL := 1) (ret := (some .int)) (by decide) rfl ?_
  intro p e s m args below meth c s₁ R Q hR hQ B hml hv
  obtain ⟨rfl, hsz, hP, hK, hD0, hT⟩ := hv
  have hx := B.exec
  have hb := B.bytes
  have hr := B.returns
  have hts := atoms_spec (ws := xw yJ0_length_8abf5 cJ0_length_8abf5 1 (some .int)) B.pre
  have htg : ∀ w ∈ xg, w.before _ s = true := fun w h => hts w (List.mem_cons_of_mem _ h)
  have hown : s.vm.findClass RJ0 = some m.cls := findClass_of_methodNamed B.named
  have hlocks := B.notSynchronized
  subst hsz
  have hD := hD0.self (sz := s.heap.size)
  generalize hAe : va_A (pre_J0_length_8abf5 T a ex fi fl vi vl) s.heap.size = A at hD hQ hT
  have hA : ∀ q : Nat, s.heap.size ≤ q → A q := fun q h => by rw [← hAe]; exact Or.inr h
  have hS : va_S A s.heap s.heap [] := va_S.rf
  replace hP : va_P D vwCl [] s.heap := hP
  replace hD : va_D A [] := hD
  have hl := lv_entry ([.ref (kK 3)]) (n := 1) (Nat.le_of_ble_eq_true rfl)
  rw [lg_entry_eq]
  generalize (lg_sl ([.ref (kK 3)]) ++ List.replicate (1 - (lg_sl ([.ref (kK 3)])).length) Slot.unset).toArray = ls at hl ⊢
  replace hl : lv_has ls 1 [(0, .ref (kK 3))] := hl
  refine lv_aload_n hx hb dJ0_length_8abf5_0 rfl (lv_at hl 0 rfl) ?_
  refine vk_getf hx hb (hT.2.1 3 (by decide)).2.2.1 hS hown (htg _ kw_2030) (fun _ h9 => h9) dJ0_length_8abf5_1 ?_
  refine va_tlen (v := 4) hx hb (hT.2.1 3 (by decide)).2.2.2 hS (by decide) dJ0_length_8abf5_4 ?_
  refine lv_aload_n hx hb dJ0_length_8abf5_5 rfl (lv_at hl 0 rfl) ?_
  have hPc := hP.sub (ws' := (pre_J0_coder_7d493 T (xa []) (xa []) (xf []) (xh []) (xv []) (xl []))) [] rfl
  have hDc := hD.sub (ws' := (pre_J0_coder_7d493 T (xa []) (xa []) (xf []) (xh []) (xv []) (xl []))) [] (by decide) rfl
  have hFc := va_free (wc := (pre_J0_coder_7d493 T (xa []) (xa []) (xf []) (xh []) (xv []) (xl []))) hD hS hA [] rfl
  refine va_calli (va_runV (As := []) (rest := [.int 4]) ⟨hx, hb, hml, hown, htg⟩ (c_J0_coder_7d493 l D T (xa []) (xa []) (xf []) (xh []) (xv []) (xl []) kK kV s.heap.size) ⟨callB_of 0 htg (xg_ok kw_51) rfl rfl rfl (htg _ kw_3) (htg _ kw_48) (by decide +kernel) ⟨by rw [hR]; exact Nat.le_of_ble_eq_true rfl, by rw [hR]; exact Nat.le_of_ble_eq_true rfl⟩, htg _ kw_49, htg _ kw_50⟩ (xpreVs hK hPc hDc hT hFc hS (xT.recv hT 3 (by decide) hS)) rfl rfl hl.1 rfl (lv_room (Nat.le_of_ble_eq_true rfl)) dJ0_length_8abf5_6 ⟨by rw [hR]; exact Nat.le_of_ble_eq_true rfl, by rw [hR]; exact Nat.le_of_ble_eq_true rfl⟩) hS (fun q _ h => hFc q h) hFc (fun r9 u9 t H1 locs ht hvm hw hB hz1 hk1 hS => ?_)
  subst hw
  obtain ⟨fik, flk, vik, vlk, hP1, hD1, hG⟩ := hB
  rw [ht] at hP1
  obtain ⟨hP, hD⟩ := va_join (wr := []) (w1 := []) hP hD [] [] rfl rfl (by decide) (by decide) hk1 hFc hP1 hD1
  obtain ⟨rk, er9⟩ : ∃ z, z = r9 := ⟨_, rfl⟩
  subst er9
  clear hPc hDc hFc hP1 hD1 hk1 hz1 hvm ht
  generalize H1 = H at hP hS ⊢
  replace hP : va_P D vwCl [] H := hP
  replace hD : va_D A [] := hD
  obtain ⟨gk_0, -⟩ := hG
  replace gk_0 : rk = 0 := gk_0
  refine xz_i 0 gk_0 ?_
  refine lv_ishr hx hb dJ0_length_8abf5_9 ?_
  refine xz_i 4 (by decide) ?_
  have hP9 := hP.sub (ws' := []) [] rfl
  have hD9 := hD.sub (ws' := []) [] (by decide +kernel) rfl
  rw [hQ]
  exact W.iret (v := 4) hx hb hr (fun t ht hW => ⟨⟨4, 4, rfl, rfl, xf [], xh [], xv [], xl [], by rw [ht]; exact hP9, hD9, ⟨rfl, trivial⟩⟩, hS.F ht⟩) hS.2.2 dJ0_length_8abf5_10
abbrev pre_J0_isLatin1_aae02 (T : Nat → ClassId) (a ex : Nat → Nat) (fi : Nat → Nat → Int32) (fl : Nat → Nat → Int64) (vi : Nat → Int32) (vl : Nat → Int64) : va_W := []
set_option maxHeartbeats 8000000 in
set_option maxRecDepth 100000 in
theorem c_J0_isLatin1_aae02 (l : Launch) (D : va_G) (T : Nat → ClassId) (a ex : Nat → Nat) (fi : Nat → Nat → Int32) (fl : Nat → Nat → Int64) (vi : Nat → Int32) (vl : Nat → Int64) (kK kV : Nat → Nat) (sz : Nat) : Met l yJ0_isLatin1_aae02 (xw yJ0_isLatin1_aae02 cJ0_isLatin1_aae02 1 (some .boolean)) ({ frames := 0, cells := 0, slots := 0, locals := 0 }) (xPs D T kK kV [.ref (kK 3)] sz (pre_J0_isLatin1_aae02 T a ex fi fl vi vl)) (va_Qi (fun r u => r = u) (xC D (va_A (pre_J0_isLatin1_aae02 T a ex fi fl vi vl) sz) (fun fj fm vj vm => []) (fun (r : Int32) (fj : Nat → Nat → Int32) (fm : Nat → Nat → Int64) (vj : Nat → Int32) (vm : Nat → Int64) => r = 1 ∧ True)) (va_A (pre_J0_isLatin1_aae02 T a ex fi fl vi vl) sz)) 0 0 (va_A (pre_J0_isLatin1_aae02 T a ex fi fl vi vl) sz) := by
  refine xofW (cc := cJ0_isLatin1_aae02) (maxL := 1) (ret := (some .boolean)) (by decide) rfl ?_
  intro p e s m args below meth c s₁ R Q hR hQ B hml hv
  obtain ⟨rfl, hsz, hP, hK, hD0, hT⟩ := hv
  have hx := B.exec
  have hb := B.bytes
  have hr := B.returns
  have hts := atoms_spec (ws := xw yJ0_isLatin1_aae02 cJ0_isLatin1_aae02 1 (some .boolean)) B.pre
  have htg : ∀ w ∈ xg, w.before _ s = true := fun w h => hts w (List.mem_cons_of_mem _ h)
  have hown : s.vm.findClass RJ0 = some m.cls := findClass_of_methodNamed B.named
  have hlocks := B.notSynchronized
  subst hsz
  have hD := hD0.self (sz := s.heap.size)
  generalize hAe : va_A (pre_J0_isLatin1_aae02 T a ex fi fl vi vl) s.heap.size = A at hD hQ hT
  have hA : ∀ q : Nat, s.heap.size ≤ q → A q := fun q h => by rw [← hAe]; exact Or.inr h
  have hS : va_S A s.heap s.heap [] := va_S.rf
  replace hP : va_P D vwCl [] s.heap := hP
  replace hD : va_D A [] := hD
  have hl := lv_entry ([.ref (kK 3)]) (n := 1) (Nat.le_of_ble_eq_true rfl)
  rw [lg_entry_eq]
  generalize (lg_sl ([.ref (kK 3)]) ++ List.replicate (1 - (lg_sl ([.ref (kK 3)])).length) Slot.unset).toArray = ls at hl ⊢
  replace hl : lv_has ls 1 [(0, .ref (kK 3))] := hl
  refine va_gets hx hb hT.2.2.1 hS hown (htg _ kw_52) (fun _ h9 => h9) dJ0_isLatin1_aae02_0 ?_
  refine lv_if_eq (tgt := 17) hx hb dJ0_isLatin1_aae02_3 (by decide) (fun c => absurd c (by decide)) (fun _ => ?_)
  refine lv_aload_n hx hb dJ0_isLatin1_aae02_6 rfl (lv_at hl 0 rfl) ?_
  refine vk_getf hx hb (hT.2.1 3 (by decide)).2.1 hS hown (htg _ kw_2031) (fun _ h9 => h9) dJ0_isLatin1_aae02_7 ?_
  refine lv_if_ne (tgt := 17) hx hb dJ0_isLatin1_aae02_10 (by decide) (fun c => absurd (by decide) c) (fun _ => ?_)
  refine lv_iconst (v := 1) hx hb dJ0_isLatin1_aae02_13 (by decide) ?_
  refine lv_goto (tgt := 18) hx hb dJ0_isLatin1_aae02_14 (by decide) ?_
  have hP9 := hP.sub (ws' := []) [] rfl
  have hD9 := hD.sub (ws' := []) [] (by decide +kernel) rfl
  rw [hQ]
  exact W.zret (v := 1) hx hb hr rfl (fun t ht hW => ⟨⟨1, 1, rfl, rfl, xf [], xh [], xv [], xl [], by rw [ht]; exact hP9, hD9, ⟨rfl, trivial⟩⟩, hS.F ht⟩) hS.2.2 dJ0_isLatin1_aae02_18
abbrev pre_J3_checkIndex_8e157 (T : Nat → ClassId) (a ex : Nat → Nat) (fi : Nat → Nat → Int32) (fl : Nat → Nat → Int64) (vi : Nat → Int32) (vl : Nat → Int64) : va_W := []
set_option maxHeartbeats 8000000 in
set_option maxRecDepth 100000 in
theorem c_J3_checkIndex_8e157 (l : Launch) (D : va_G) (T : Nat → ClassId) (a ex : Nat → Nat) (fi : Nat → Nat → Int32) (fl : Nat → Nat → Int64) (vi : Nat → Int32) (vl : Nat → Int64) (sz : Nat) (hp0 : 0 ≤ (vi 0).toInt ∧ (vi 0).toInt ≤ 3) : Met l yJ3_checkIndex_8e157 (xw yJ3_checkIndex_8e157 cJ3_checkIndex_8e157 3 (some .int)) ({ frames := 0, cells := 0, slots := 0, locals := 0 }) (xP D T [.int (vi 0), .int 4, .null] sz (pre_J3_checkIndex_8e157 T a ex fi fl vi vl)) (va_Qi (fun r u => r = u) (xC D (va_A (pre_J3_checkIndex_8e157 T a ex fi fl vi vl) sz) (fun fj fm vj vm => []) (fun (r : Int32) (fj : Nat → Nat → Int32) (fm : Nat → Nat → Int64) (vj : Nat → Int32) (vm : Nat → Int64) => True)) (va_A (pre_J3_checkIndex_8e157 T a ex fi fl vi vl) sz)) 0 0 (va_A (pre_J3_checkIndex_8e157 T a ex fi fl vi vl) sz) := by
  refine xofW (cc := cJ3_checkIndex_8e157) (maxL := 3) (ret := (some .int)) (by decide) rfl ?_
  intro p e s m args below meth c s₁ R Q hR hQ B hml hv
  obtain ⟨rfl, hsz, hP, hK, hD0⟩ := hv
  have hx := B.exec
  have hb := B.bytes
  have hr := B.returns
  have hts := atoms_spec (ws := xw yJ3_checkIndex_8e157 cJ3_checkIndex_8e157 3 (some .int)) B.pre
  have htg : ∀ w ∈ xg, w.before _ s = true := fun w h => hts w (List.mem_cons_of_mem _ h)
  have hown : s.vm.findClass RJ3 = some m.cls := findClass_of_methodNamed B.named
  have hlocks := B.notSynchronized
  subst hsz
  have hD := hD0.self (sz := s.heap.size)
  generalize hAe : va_A (pre_J3_checkIndex_8e157 T a ex fi fl vi vl) s.heap.size = A at hD hQ
  have hA : ∀ q : Nat, s.heap.size ≤ q → A q := fun q h => by rw [← hAe]; exact Or.inr h
  have hS : va_S A s.heap s.heap [] := va_S.rf
  replace hP : va_P D vwCl [] s.heap := hP
  replace hD : va_D A [] := hD
  have hl := lv_entry ([.int (vi 0), .int 4, .null]) (n := 3) (Nat.le_of_ble_eq_true rfl)
  rw [lg_entry_eq]
  generalize (lg_sl ([.int (vi 0), .int 4, .null]) ++ List.replicate (3 - (lg_sl ([.int (vi 0), .int 4, .null])).length) Slot.unset).toArray = ls at hl ⊢
  replace hl : lv_has ls 3 [(0, .int (vi 0)), (1, .int 4), (2, .null)] := hl
  refine lv_iload_n hx hb dJ3_checkIndex_8e157_0 rfl (lv_at hl 0 rfl) ?_
  refine lv_if_lt (tgt := 9) hx hb dJ3_checkIndex_8e157_1 (by decide) (fun c => by exfalso; have h9 := xlt (k := 0) (by decide) c; have h7 := xrng (vi 0); omega) (fun _ => ?_)
  refine lv_iload_n hx hb dJ3_checkIndex_8e157_4 rfl (lv_at hl 0 rfl) ?_
  refine lv_iload_n hx hb dJ3_checkIndex_8e157_5 rfl (lv_at hl 1 rfl) ?_
  refine lv_icmp_lt (tgt := 16) hx hb dJ3_checkIndex_8e157_6 (by decide) (fun _ => ?_) (fun c => by exfalso; have h9 := xnlt (k := 4) (by decide) c; have h7 := xrng (vi 0); omega)
  refine lv_iload_n hx hb dJ3_checkIndex_8e157_16 rfl (lv_at hl 0 rfl) ?_
  have hP9 := hP.sub (ws' := []) [] rfl
  have hD9 := hD.sub (ws' := []) [] (by decide +kernel) rfl
  rw [hQ]
  exact W.iret (v := (vi 0)) hx hb hr (fun t ht hW => ⟨⟨(vi 0), (vi 0), rfl, rfl, xf [], xh [], xv [], xl [], by rw [ht]; exact hP9, hD9, trivial⟩, hS.F ht⟩) hS.2.2 dJ3_checkIndex_8e157_17
abbrev pre_J3_checkIndex_8e157_2 (T : Nat → ClassId) (a ex : Nat → Nat) (fi : Nat → Nat → Int32) (fl : Nat → Nat → Int64) (vi : Nat → Int32) (vl : Nat → Int64) : va_W := []
set_option maxHeartbeats 8000000 in
set_option maxRecDepth 100000 in
theorem c_J3_checkIndex_8e157_2 (l : Launch) (D : va_G) (T : Nat → ClassId) (a ex : Nat → Nat) (fi : Nat → Nat → Int32) (fl : Nat → Nat → Int64) (vi : Nat → Int32) (vl : Nat → Int64) (sz : Nat) (hp0 : 0 ≤ (vi 0).toInt ∧ (vi 0).toInt ≤ 3) : Met l yJ3_checkIndex_8e157 (xw yJ3_checkIndex_8e157 cJ3_checkIndex_8e157 3 (some .int)) ({ frames := 0, cells := 0, slots := 0, locals := 0 }) (xP D T [.int (vi 0), .int 4, .ref (ex 0)] sz (pre_J3_checkIndex_8e157_2 T a ex fi fl vi vl)) (va_Qi (fun r u => r = u) (xC D (va_A (pre_J3_checkIndex_8e157_2 T a ex fi fl vi vl) sz) (fun fj fm vj vm => []) (fun (r : Int32) (fj : Nat → Nat → Int32) (fm : Nat → Nat → Int64) (vj : Nat → Int32) (vm : Nat → Int64) => True)) (va_A (pre_J3_checkIndex_8e157_2 T a ex fi fl vi vl) sz)) 0 0 (va_A (pre_J3_checkIndex_8e157_2 T a ex fi fl vi vl) sz) := by
  refine xofW (cc := cJ3_checkIndex_8e157) (maxL := 3) (ret := (some .int)) (by decide) rfl ?_
  intro p e s m args below meth c s₁ R Q hR hQ B hml hv
  obtain ⟨rfl, hsz, hP, hK, hD0⟩ := hv
  have hx := B.exec
  have hb := B.bytes
  have hr := B.returns
  have hts := atoms_spec (ws := xw yJ3_checkIndex_8e157 cJ3_checkIndex_8e157 3 (some .int)) B.pre
  have htg : ∀ w ∈ xg, w.before _ s = true := fun w h => hts w (List.mem_cons_of_mem _ h)
  have hown : s.vm.findClass RJ3 = some m.cls := findClass_of_methodNamed B.named
  have hlocks := B.notSynchronized
  subst hsz
  have hD := hD0.self (sz := s.heap.size)
  generalize hAe : va_A (pre_J3_checkIndex_8e157_2 T a ex fi fl vi vl) s.heap.size = A at hD hQ
  have hA : ∀ q : Nat, s.heap.size ≤ q → A q := fun q h => by rw [← hAe]; exact Or.inr h
  have hS : va_S A s.heap s.heap [] := va_S.rf
  replace hP : va_P D vwCl [] s.heap := hP
  replace hD : va_D A [] := hD
  have hl := lv_entry ([.int (vi 0), .int 4, .ref (ex 0)]) (n := 3) (Nat.le_of_ble_eq_true rfl)
  rw [lg_entry_eq]
  generalize (lg_sl ([.int (vi 0), .int 4, .ref (ex 0)]) ++ List.replicate (3 - (lg_sl ([.int (vi 0), .int 4, .ref (ex 0)])).length) Slot.unset).toArray = ls at hl ⊢
  replace hl : lv_has ls 3 [(0, .int (vi 0)), (1, .int 4), (2, .ref (ex 0))] := hl
  refine lv_iload_n hx hb dJ3_checkIndex_8e157_0 rfl (lv_at hl 0 rfl) ?_
  refine lv_if_lt (tgt := 9) hx hb dJ3_checkIndex_8e157_1 (by decide) (fun c => by exfalso; have h9 := xlt (k := 0) (by decide) c; have h7 := xrng (vi 0); omega) (fun _ => ?_)
  refine lv_iload_n hx hb dJ3_checkIndex_8e157_4 rfl (lv_at hl 0 rfl) ?_
  refine lv_iload_n hx hb dJ3_checkIndex_8e157_5 rfl (lv_at hl 1 rfl) ?_
  refine lv_icmp_lt (tgt := 16) hx hb dJ3_checkIndex_8e157_6 (by decide) (fun _ => ?_) (fun c => by exfalso; have h9 := xnlt (k := 4) (by decide) c; have h7 := xrng (vi 0); omega)
  refine lv_iload_n hx hb dJ3_checkIndex_8e157_16 rfl (lv_at hl 0 rfl) ?_
  have hP9 := hP.sub (ws' := []) [] rfl
  have hD9 := hD.sub (ws' := []) [] (by decide +kernel) rfl
  rw [hQ]
  exact W.iret (v := (vi 0)) hx hb hr (fun t ht hW => ⟨⟨(vi 0), (vi 0), rfl, rfl, xf [], xh [], xv [], xl [], by rw [ht]; exact hP9, hD9, trivial⟩, hS.F ht⟩) hS.2.2 dJ3_checkIndex_8e157_17
abbrev pre_J0_checkIndex_df160 (T : Nat → ClassId) (a ex : Nat → Nat) (fi : Nat → Nat → Int32) (fl : Nat → Nat → Int64) (vi : Nat → Int32) (vl : Nat → Int64) : va_W := []
set_option maxHeartbeats 8000000 in
set_option maxRecDepth 100000 in
theorem c_J0_checkIndex_df160 (l : Launch) (D : va_G) (T : Nat → ClassId) (a ex : Nat → Nat) (fi : Nat → Nat → Int32) (fl : Nat → Nat → Int64) (vi : Nat → Int32) (vl : Nat → Int64) (kK kV : Nat → Nat) (sz : Nat) (hp0 : 0 ≤ (vi 0).toInt ∧ (vi 0).toInt ≤ 3) : Met l yJ0_checkIndex_df160 (xw yJ0_checkIndex_df160 cJ0_checkIndex_df160 2 none) ({ frames := 1, cells := 0, slots := 0, locals := 26 }) (xPs D T kK kV [.int (vi 0), .int 4] sz (pre_J0_checkIndex_df160 T a ex fi fl vi vl)) (va_Qv (fun _ : Int32 => True) (xC D (va_A (pre_J0_checkIndex_df160 T a ex fi fl vi vl) sz) (fun fj fm vj vm => []) (fun (r : Int32) (fj : Nat → Nat → Int32) (fm : Nat → Nat → Int64) (vj : Nat → Int32) (vm : Nat → Int64) => True)) (va_A (pre_J0_checkIndex_df160 T a ex fi fl vi vl) sz)) 0 0 (va_A (pre_J0_checkIndex_df160 T a ex fi fl vi vl) sz) := by
  refine xofW (cc := cJ0_checkIndex_df160) (maxL := 2) (ret := none) (by decide) rfl ?_
  intro p e s m args below meth c s₁ R Q hR hQ B hml hv
  obtain ⟨rfl, hsz, hP, hK, hD0, hT⟩ := hv
  have hx := B.exec
  have hb := B.bytes
  have hr := B.returns
  have hts := atoms_spec (ws := xw yJ0_checkIndex_df160 cJ0_checkIndex_df160 2 none) B.pre
  have htg : ∀ w ∈ xg, w.before _ s = true := fun w h => hts w (List.mem_cons_of_mem _ h)
  have hown : s.vm.findClass RJ0 = some m.cls := findClass_of_methodNamed B.named
  have hlocks := B.notSynchronized
  subst hsz
  have hD := hD0.self (sz := s.heap.size)
  generalize hAe : va_A (pre_J0_checkIndex_df160 T a ex fi fl vi vl) s.heap.size = A at hD hQ hT
  have hA : ∀ q : Nat, s.heap.size ≤ q → A q := fun q h => by rw [← hAe]; exact Or.inr h
  have hS : va_S A s.heap s.heap [] := va_S.rf
  replace hP : va_P D vwCl [] s.heap := hP
  replace hD : va_D A [] := hD
  have hl := lv_entry ([.int (vi 0), .int 4]) (n := 2) (Nat.le_of_ble_eq_true rfl)
  rw [lg_entry_eq]
  generalize (lg_sl ([.int (vi 0), .int 4]) ++ List.replicate (2 - (lg_sl ([.int (vi 0), .int 4])).length) Slot.unset).toArray = ls at hl ⊢
  replace hl : lv_has ls 2 [(0, .int (vi 0)), (1, .int 4)] := hl
  refine lv_iload_n hx hb dJ0_checkIndex_df160_0 rfl (lv_at hl 0 rfl) ?_
  refine lv_iload_n hx hb dJ0_checkIndex_df160_1 rfl (lv_at hl 1 rfl) ?_
  rcases hT.2.2.2 with hz9 | ⟨z9, hz9⟩
  · refine va_gets hx hb hz9 hS hown (htg _ kw_68) (fun _ h9 => h9) dJ0_checkIndex_df160_2 ?_
    have hPc := hP.sub (ws' := (pre_J3_checkIndex_8e157 T (xa []) (xa []) (xf []) (xh []) (xv [(vi 0)]) (xl []))) [] rfl
    have hDc := hD.sub (ws' := (pre_J3_checkIndex_8e157 T (xa []) (xa []) (xf []) (xh []) (xv [(vi 0)]) (xl []))) [] (by decide) rfl
    have hFc := va_free (wc := (pre_J3_checkIndex_8e157 T (xa []) (xa []) (xf []) (xh []) (xv [(vi 0)]) (xl []))) hD hS hA [] rfl
    refine va_calli (va_runS (As := [.int (vi 0), .int 4, .null]) (rest := []) ⟨hx, hb, hml, hown, htg⟩ (c_J3_checkIndex_8e157 l D T (xa []) (xa []) (xf []) (xh []) (xv [(vi 0)]) (xl []) s.heap.size (by show 0 ≤ (vi 0).toInt ∧ (vi 0).toInt ≤ 3; omega)) ⟨callB_of 3 htg (xg_ok kw_72) rfl rfl rfl (htg _ kw_5) (htg _ kw_70) (by decide +kernel) ⟨by rw [hR]; exact Nat.le_of_ble_eq_true rfl, by rw [hR]; exact Nat.le_of_ble_eq_true rfl⟩, htg _ kw_71⟩ (xpreS hK hPc hDc) rfl rfl hl.1 rfl (lv_room (Nat.le_of_ble_eq_true rfl)) dJ0_checkIndex_df160_5 ⟨by rw [hR]; exact Nat.le_of_ble_eq_true rfl, by rw [hR]; exact Nat.le_of_ble_eq_true rfl⟩) hS (fun q _ h => hFc q h) hFc (fun r9 u9 t H1 locs ht hvm hw hB hz1 hk1 hS => ?_)
    subst hw
    obtain ⟨fik, flk, vik, vlk, hP1, hD1, hG⟩ := hB
    rw [ht] at hP1
    obtain ⟨hP, hD⟩ := va_join (wr := []) (w1 := []) hP hD [] [] rfl rfl (by decide) (by decide) hk1 hFc hP1 hD1
    obtain ⟨rk, er9⟩ : ∃ z, z = r9 := ⟨_, rfl⟩
    subst er9
    clear hPc hDc hFc hP1 hD1 hk1 hz1 hvm ht
    generalize H1 = H at hP hS ⊢
    replace hP : va_P D vwCl [] H := hP
    replace hD : va_D A [] := hD
    clear hG
    refine lv_pop hx hb dJ0_checkIndex_df160_8 rfl ?_
    have hP9 := hP.sub (ws' := []) [] rfl
    have hD9 := hD.sub (ws' := []) [] (by decide +kernel) rfl
    rw [hQ]
    exact W.vret hx hb hr (fun t ht hW => ⟨⟨(0 : Int32), rfl, trivial, xf [], xh [], xv [], xl [], by rw [ht]; exact hP9, hD9, trivial⟩, hS.F ht⟩) hS.2.2 dJ0_checkIndex_df160_9
  · refine va_gets hx hb hz9 hS hown (htg _ kw_68) (fun _ h9 => h9) dJ0_checkIndex_df160_2 ?_
    have hPc := hP.sub (ws' := (pre_J3_checkIndex_8e157_2 T (xa []) (xa [z9]) (xf []) (xh []) (xv [(vi 0)]) (xl []))) [] rfl
    have hDc := hD.sub (ws' := (pre_J3_checkIndex_8e157_2 T (xa []) (xa [z9]) (xf []) (xh []) (xv [(vi 0)]) (xl []))) [] (by decide) rfl
    have hFc := va_free (wc := (pre_J3_checkIndex_8e157_2 T (xa []) (xa [z9]) (xf []) (xh []) (xv [(vi 0)]) (xl []))) hD hS hA [] rfl
    refine va_calli (va_runS (As := [.int (vi 0), .int 4, .ref z9]) (rest := []) ⟨hx, hb, hml, hown, htg⟩ (c_J3_checkIndex_8e157_2 l D T (xa []) (xa [z9]) (xf []) (xh []) (xv [(vi 0)]) (xl []) s.heap.size (by show 0 ≤ (vi 0).toInt ∧ (vi 0).toInt ≤ 3; omega)) ⟨callB_of 3 htg (xg_ok kw_72) rfl rfl rfl (htg _ kw_5) (htg _ kw_70) (by decide +kernel) ⟨by rw [hR]; exact Nat.le_of_ble_eq_true rfl, by rw [hR]; exact Nat.le_of_ble_eq_true rfl⟩, htg _ kw_71⟩ (xpreS hK hPc hDc) rfl rfl hl.1 rfl (lv_room (Nat.le_of_ble_eq_true rfl)) dJ0_checkIndex_df160_5 ⟨by rw [hR]; exact Nat.le_of_ble_eq_true rfl, by rw [hR]; exact Nat.le_of_ble_eq_true rfl⟩) hS (fun q _ h => hFc q h) hFc (fun r9 u9 t H1 locs ht hvm hw hB hz1 hk1 hS => ?_)
    subst hw
    obtain ⟨fik_1, flk_1, vik_1, vlk_1, hP1, hD1, hG⟩ := hB
    rw [ht] at hP1
    obtain ⟨hP, hD⟩ := va_join (wr := []) (w1 := []) hP hD [] [] rfl rfl (by decide) (by decide) hk1 hFc hP1 hD1
    obtain ⟨rk_1, er9⟩ : ∃ z, z = r9 := ⟨_, rfl⟩
    subst er9
    clear hPc hDc hFc hP1 hD1 hk1 hz1 hvm ht
    generalize H1 = H at hP hS ⊢
    replace hP : va_P D vwCl [] H := hP
    replace hD : va_D A [] := hD
    clear hG
    refine lv_pop hx hb dJ0_checkIndex_df160_8 rfl ?_
    have hP9 := hP.sub (ws' := []) [] rfl
    have hD9 := hD.sub (ws' := []) [] (by decide +kernel) rfl
    rw [hQ]
    exact W.vret hx hb hr (fun t ht hW => ⟨⟨(0 : Int32), rfl, trivial, xf [], xh [], xv [], xl [], by rw [ht]; exact hP9, hD9, trivial⟩, hS.F ht⟩) hS.2.2 dJ0_checkIndex_df160_9
abbrev pre_J1_charAt_3b067 (T : Nat → ClassId) (a ex : Nat → Nat) (fi : Nat → Nat → Int32) (fl : Nat → Nat → Int64) (vi : Nat → Int32) (vl : Nat → Int64) : va_W := []
set_option maxHeartbeats 8000000 in
set_option maxRecDepth 100000 in
theorem c_J1_charAt_3b067 (l : Launch) (D : va_G) (T : Nat → ClassId) (a ex : Nat → Nat) (fi : Nat → Nat → Int32) (fl : Nat → Nat → Int64) (vi : Nat → Int32) (vl : Nat → Int64) (kK kV : Nat → Nat) (sz : Nat) (hp0 : 0 ≤ (vi 0).toInt ∧ (vi 0).toInt ≤ 3) : Met l yJ1_charAt_3b067 (xw yJ1_charAt_3b067 cJ1_charAt_3b067 2 (some .char)) ({ frames := 2, cells := 0, slots := 0, locals := 51 }) (xPs D T kK kV [.ref (kV 3), .int (vi 0)] sz (pre_J1_charAt_3b067 T a ex fi fl vi vl)) (va_Qi (fun r u => r = u) (xC D (va_A (pre_J1_charAt_3b067 T a ex fi fl vi vl) sz) (fun fj fm vj vm => []) (fun (r : Int32) (fj : Nat → Nat → Int32) (fm : Nat → Nat → Int64) (vj : Nat → Int32) (vm : Nat → Int64) => narrow .char (.int r) = .int r ∧ True)) (va_A (pre_J1_charAt_3b067 T a ex fi fl vi vl) sz)) 0 0 (va_A (pre_J1_charAt_3b067 T a ex fi fl vi vl) sz) := by
  refine xofW (cc := cJ1_charAt_3b067) (maxL := 2) (ret := (some .char)) (by decide) rfl ?_
  intro p e s m args below meth c s₁ R Q hR hQ B hml hv
  obtain ⟨rfl, hsz, hP, hK, hD0, hT⟩ := hv
  have hx := B.exec
  have hb := B.bytes
  have hr := B.returns
  have hts := atoms_spec (ws := xw yJ1_charAt_3b067 cJ1_charAt_3b067 2 (some .char)) B.pre
  have htg : ∀ w ∈ xg, w.before _ s = true := fun w h => hts w (List.mem_cons_of_mem _ h)
  have hown : s.vm.findClass RJ1 = some m.cls := findClass_of_methodNamed B.named
  have hlocks := B.notSynchronized
  subst hsz
  have hD := hD0.self (sz := s.heap.size)
  generalize hAe : va_A (pre_J1_charAt_3b067 T a ex fi fl vi vl) s.heap.size = A at hD hQ hT
  have hA : ∀ q : Nat, s.heap.size ≤ q → A q := fun q h => by rw [← hAe]; exact Or.inr h
  have hS : va_S A s.heap s.heap [] := va_S.rf
  replace hP : va_P D vwCl [] s.heap := hP
  replace hD : va_D A [] := hD
  have hl := lv_entry ([.ref (kV 3), .int (vi 0)]) (n := 2) (Nat.le_of_ble_eq_true rfl)
  rw [lg_entry_eq]
  generalize (lg_sl ([.ref (kV 3), .int (vi 0)]) ++ List.replicate (2 - (lg_sl ([.ref (kV 3), .int (vi 0)])).length) Slot.unset).toArray = ls at hl ⊢
  replace hl : lv_has ls 2 [(0, .ref (kV 3)), (1, .int (vi 0))] := hl
  refine lv_iload_n hx hb dJ1_charAt_3b067_0 rfl (lv_at hl 1 rfl) ?_
  refine lv_aload_n hx hb dJ1_charAt_3b067_1 rfl (lv_at hl 0 rfl) ?_
  refine va_tlen (v := 4) hx hb (hT.2.1 3 (by decide)).2.2.2 hS (by decide) dJ1_charAt_3b067_2 ?_
  have hPc := hP.sub (ws' := (pre_J0_checkIndex_df160 T (xa []) (xa []) (xf []) (xh []) (xv [(vi 0)]) (xl []))) [] rfl
  have hDc := hD.sub (ws' := (pre_J0_checkIndex_df160 T (xa []) (xa []) (xf []) (xh []) (xv [(vi 0)]) (xl []))) [] (by decide) rfl
  have hFc := va_free (wc := (pre_J0_checkIndex_df160 T (xa []) (xa []) (xf []) (xh []) (xv [(vi 0)]) (xl []))) hD hS hA [] rfl
  refine va_callv (va_runS (As := [.int (vi 0), .int 4]) (rest := []) ⟨hx, hb, hml, hown, htg⟩ (c_J0_checkIndex_df160 l D T (xa []) (xa []) (xf []) (xh []) (xv [(vi 0)]) (xl []) kK kV s.heap.size (by show 0 ≤ (vi 0).toInt ∧ (vi 0).toInt ≤ 3; omega)) ⟨callB_of 2 htg (xg_ok kw_67) rfl rfl rfl (htg _ kw_3) (htg _ kw_65) (by decide +kernel) ⟨by rw [hR]; exact Nat.le_of_ble_eq_true rfl, by rw [hR]; exact Nat.le_of_ble_eq_true rfl⟩, htg _ kw_66⟩ (xpreSs hK hPc hDc hT hFc hS) rfl rfl hl.1 rfl (lv_room (Nat.le_of_ble_eq_true rfl)) dJ1_charAt_3b067_3 ⟨by rw [hR]; exact Nat.le_of_ble_eq_true rfl, by rw [hR]; exact Nat.le_of_ble_eq_true rfl⟩) hS (fun q _ h => hFc q h) hFc (fun u9 t H1 locs ht hvm hw hB hz1 hk1 hS => ?_)
  obtain ⟨fik, flk, vik, vlk, hP1, hD1, hG⟩ := hB
  rw [ht] at hP1
  obtain ⟨hP, hD⟩ := va_join (wr := []) (w1 := []) hP hD [] [] rfl rfl (by decide) (by decide) hk1 hFc hP1 hD1
  clear hPc hDc hFc hP1 hD1 hk1 hz1 hvm ht
  generalize H1 = H at hP hS ⊢
  replace hP : va_P D vwCl [] H := hP
  replace hD : va_D A [] := hD
  clear hG
  refine lv_aload_n hx hb dJ1_charAt_3b067_6 rfl (lv_at hl 0 rfl) ?_
  refine lv_iload_n hx hb dJ1_charAt_3b067_7 rfl (lv_at hl 1 rfl) ?_
  refine va_tb hx hb (hT.2.1 3 (by decide)).2.2.2 hS (show vp_in (vi 0) 4 from (vp_in_iff.mpr (by omega))) rfl dJ1_charAt_3b067_8 ?_
  refine lv_topi (fun z8 _ => ?_)
  refine lv_sipush (v := 255) hx hb dJ1_charAt_3b067_9 (by decide) ?_
  refine lv_iand hx hb dJ1_charAt_3b067_12 ?_
  refine lv_topi (fun z12 ez12 => ?_)
  have tz12 : 0 ≤ z12.toInt ∧ z12.toInt ≤ 255 := by rw [ez12]; exact xand255 _
  refine lv_i2c hx hb dJ1_charAt_3b067_13 rfl ?_
  refine lv_topi (fun z13 ez13 => ?_)
  have nz13 : narrow .char (.int z13) = .int z13 := by rw [ez13]; exact pk_nc _
  have hP9 := hP.sub (ws' := []) [] rfl
  have hD9 := hD.sub (ws' := []) [] (by decide +kernel) rfl
  rw [hQ]
  exact W.zret (v := z13) hx hb hr nz13 (fun t ht hW => ⟨⟨z13, z13, rfl, rfl, xf [], xh [], xv [], xl [], by rw [ht]; exact hP9, hD9, ⟨nz13, trivial⟩⟩, hS.F ht⟩) hS.2.2 dJ1_charAt_3b067_14
abbrev pre_J0_charAt_5068e (T : Nat → ClassId) (a ex : Nat → Nat) (fi : Nat → Nat → Int32) (fl : Nat → Nat → Int64) (vi : Nat → Int32) (vl : Nat → Int64) : va_W := []
set_option maxHeartbeats 8000000 in
set_option maxRecDepth 100000 in
theorem c_J0_charAt_5068e (l : Launch) (D : va_G) (T : Nat → ClassId) (a ex : Nat → Nat) (fi : Nat → Nat → Int32) (fl : Nat → Nat → Int64) (vi : Nat → Int32) (vl : Nat → Int64) (kK kV : Nat → Nat) (sz : Nat) (hp0 : 0 ≤ (vi 0).toInt ∧ (vi 0).toInt ≤ 3) : Met l yJ0_charAt_5068e (xw yJ0_charAt_5068e cJ0_charAt_5068e 2 (some .char)) ({ frames := 3, cells := 0, slots := 0, locals := 76 }) (xPs D T kK kV [.ref (kK 3), .int (vi 0)] sz (pre_J0_charAt_5068e T a ex fi fl vi vl)) (va_Qi (fun r u => r = u) (xC D (va_A (pre_J0_charAt_5068e T a ex fi fl vi vl) sz) (fun fj fm vj vm => []) (fun (r : Int32) (fj : Nat → Nat → Int32) (fm : Nat → Nat → Int64) (vj : Nat → Int32) (vm : Nat → Int64) => narrow .char (.int r) = .int r ∧ True)) (va_A (pre_J0_charAt_5068e T a ex fi fl vi vl) sz)) 0 0 (va_A (pre_J0_charAt_5068e T a ex fi fl vi vl) sz) := by
  refine xofW (cc := cJ0_charAt_5068e) (maxL := 2) (ret := (some .char)) (by decide) rfl ?_
  intro p e s m args below meth c s₁ R Q hR hQ B hml hv
  obtain ⟨rfl, hsz, hP, hK, hD0, hT⟩ := hv
  have hx := B.exec
  have hb := B.bytes
  have hr := B.returns
  have hts := atoms_spec (ws := xw yJ0_charAt_5068e cJ0_charAt_5068e 2 (some .char)) B.pre
  have htg : ∀ w ∈ xg, w.before _ s = true := fun w h => hts w (List.mem_cons_of_mem _ h)
  have hown : s.vm.findClass RJ0 = some m.cls := findClass_of_methodNamed B.named
  have hlocks := B.notSynchronized
  subst hsz
  have hD := hD0.self (sz := s.heap.size)
  generalize hAe : va_A (pre_J0_charAt_5068e T a ex fi fl vi vl) s.heap.size = A at hD hQ hT
  have hA : ∀ q : Nat, s.heap.size ≤ q → A q := fun q h => by rw [← hAe]; exact Or.inr h
  have hS : va_S A s.heap s.heap [] := va_S.rf
  replace hP : va_P D vwCl [] s.heap := hP
  replace hD : va_D A [] := hD
  have hl := lv_entry ([.ref (kK 3), .int (vi 0)]) (n := 2) (Nat.le_of_ble_eq_true rfl)
  rw [lg_entry_eq]
  generalize (lg_sl ([.ref (kK 3), .int (vi 0)]) ++ List.replicate (2 - (lg_sl ([.ref (kK 3), .int (vi 0)])).length) Slot.unset).toArray = ls at hl ⊢
  replace hl : lv_has ls 2 [(0, .ref (kK 3)), (1, .int (vi 0))] := hl
  refine lv_aload_n hx hb dJ0_charAt_5068e_0 rfl (lv_at hl 0 rfl) ?_
  have hPc := hP.sub (ws' := (pre_J0_isLatin1_aae02 T (xa []) (xa []) (xf []) (xh []) (xv []) (xl []))) [] rfl
  have hDc := hD.sub (ws' := (pre_J0_isLatin1_aae02 T (xa []) (xa []) (xf []) (xh []) (xv []) (xl []))) [] (by decide) rfl
  have hFc := va_free (wc := (pre_J0_isLatin1_aae02 T (xa []) (xa []) (xf []) (xh []) (xv []) (xl []))) hD hS hA [] rfl
  refine va_calli (va_runV (As := []) (rest := []) ⟨hx, hb, hml, hown, htg⟩ (c_J0_isLatin1_aae02 l D T (xa []) (xa []) (xf []) (xh []) (xv []) (xl []) kK kV s.heap.size) ⟨callB_of 0 htg (xg_ok kw_61) rfl rfl rfl (htg _ kw_3) (htg _ kw_58) (by decide +kernel) ⟨by rw [hR]; exact Nat.le_of_ble_eq_true rfl, by rw [hR]; exact Nat.le_of_ble_eq_true rfl⟩, htg _ kw_59, htg _ kw_60⟩ (xpreVs hK hPc hDc hT hFc hS (xT.recv hT 3 (by decide) hS)) rfl rfl hl.1 rfl (lv_room (Nat.le_of_ble_eq_true rfl)) dJ0_charAt_5068e_1 ⟨by rw [hR]; exact Nat.le_of_ble_eq_true rfl, by rw [hR]; exact Nat.le_of_ble_eq_true rfl⟩) hS (fun q _ h => hFc q h) hFc (fun r9 u9 t H1 locs ht hvm hw hB hz1 hk1 hS => ?_)
  subst hw
  obtain ⟨fik, flk, vik, vlk, hP1, hD1, hG⟩ := hB
  rw [ht] at hP1
  obtain ⟨hP, hD⟩ := va_join (wr := []) (w1 := []) hP hD [] [] rfl rfl (by decide) (by decide) hk1 hFc hP1 hD1
  obtain ⟨rk, er9⟩ : ∃ z, z = r9 := ⟨_, rfl⟩
  subst er9
  clear hPc hDc hFc hP1 hD1 hk1 hz1 hvm ht
  generalize H1 = H at hP hS ⊢
  replace hP : va_P D vwCl [] H := hP
  replace hD : va_D A [] := hD
  obtain ⟨gk_0, -⟩ := hG
  replace gk_0 : rk = 1 := gk_0
  refine xz_i 1 gk_0 ?_
  refine lv_if_eq (tgt := 16) hx hb dJ0_charAt_5068e_4 (by decide) (fun c => absurd c (by decide)) (fun _ => ?_)
  refine lv_aload_n hx hb dJ0_charAt_5068e_7 rfl (lv_at hl 0 rfl) ?_
  refine vk_getf hx hb (hT.2.1 3 (by decide)).2.2.1 hS hown (htg _ kw_2030) (fun _ h9 => h9) dJ0_charAt_5068e_8 ?_
  refine lv_iload_n hx hb dJ0_charAt_5068e_11 rfl (lv_at hl 1 rfl) ?_
  have hPc := hP.sub (ws' := (pre_J1_charAt_3b067 T (xa []) (xa []) (xf []) (xh []) (xv [(vi 0)]) (xl []))) [] rfl
  have hDc := hD.sub (ws' := (pre_J1_charAt_3b067 T (xa []) (xa []) (xf []) (xh []) (xv [(vi 0)]) (xl []))) [] (by decide) rfl
  have hFc := va_free (wc := (pre_J1_charAt_3b067 T (xa []) (xa []) (xf []) (xh []) (xv [(vi 0)]) (xl []))) hD hS hA [] rfl
  refine va_calli (va_runS (As := [.ref (kV 3), .int (vi 0)]) (rest := []) ⟨hx, hb, hml, hown, htg⟩ (c_J1_charAt_3b067 l D T (xa []) (xa []) (xf []) (xh []) (xv [(vi 0)]) (xl []) kK kV H.size (by show 0 ≤ (vi 0).toInt ∧ (vi 0).toInt ≤ 3; omega)) ⟨callB_of 2 htg (xg_ok kw_64) rfl rfl rfl (htg _ kw_4) (htg _ kw_62) (by decide +kernel) ⟨by rw [hR]; exact Nat.le_of_ble_eq_true rfl, by rw [hR]; exact Nat.le_of_ble_eq_true rfl⟩, htg _ kw_63⟩ (xpreSs hK hPc hDc hT hFc hS) rfl rfl hl.1 rfl (lv_room (Nat.le_of_ble_eq_true rfl)) dJ0_charAt_5068e_12 ⟨by rw [hR]; exact Nat.le_of_ble_eq_true rfl, by rw [hR]; exact Nat.le_of_ble_eq_true rfl⟩) hS (fun q _ h => hFc q h) hFc (fun r9 u9 t H1 locs ht hvm hw hB hz1 hk1 hS => ?_)
  subst hw
  obtain ⟨fik_1, flk_1, vik_1, vlk_1, hP1, hD1, hG⟩ := hB
  rw [ht] at hP1
  obtain ⟨hP, hD⟩ := va_join (wr := []) (w1 := []) hP hD [] [] rfl rfl (by decide) (by decide) hk1 hFc hP1 hD1
  obtain ⟨rk_1, er9⟩ : ∃ z, z = r9 := ⟨_, rfl⟩
  subst er9
  clear hPc hDc hFc hP1 hD1 hk1 hz1 hvm ht
  generalize H1 = H at hP hS ⊢
  replace hP : va_P D vwCl [] H := hP
  replace hD : va_D A [] := hD
  obtain ⟨gk_1_0, -⟩ := hG
  replace gk_1_0 : narrow .char (.int rk_1) = .int rk_1 := gk_1_0
  have hP9 := hP.sub (ws' := []) [] rfl
  have hD9 := hD.sub (ws' := []) [] (by decide +kernel) rfl
  rw [hQ]
  exact W.zret (v := rk_1) hx hb hr gk_1_0 (fun t ht hW => ⟨⟨rk_1, rk_1, rfl, rfl, xf [], xh [], xv [], xl [], by rw [ht]; exact hP9, hD9, ⟨gk_1_0, trivial⟩⟩, hS.F ht⟩) hS.2.2 dJ0_charAt_5068e_15
abbrev pre_X6_isWord (T : Nat → ClassId) (a ex : Nat → Nat) (fi : Nat → Nat → Int32) (fl : Nat → Nat → Int64) (vi : Nat → Int32) (vl : Nat → Int64) : va_W := [((a 0), .inr (6, [.ref (ex 0), .ref (ex 1), .int (vi 0), .int (vi 1), .int (vi 2), .int (vi 3), .int (vi 4), .int (vi 5), .long (vl 0), .int (vi 6), .int (vi 7), .int (vi 8), .int (vi 9), .int (vi 10)]))]
set_option maxHeartbeats 8000000 in
set_option maxRecDepth 100000 in
theorem c_X6_isWord (l : Launch) (D : va_G) (T : Nat → ClassId) (a ex : Nat → Nat) (fi : Nat → Nat → Int32) (fl : Nat → Nat → Int64) (vi : Nat → Int32) (vl : Nat → Int64) (kK kV : Nat → Nat) (sz : Nat) (hp0 : 0 ≤ (vi 1).toInt ∧ (vi 1).toInt ≤ 940) (hp1 : 0 ≤ (vi 3).toInt ∧ (vi 3).toInt ≤ 940) : Met l yX6_isWord (xw yX6_isWord cX6_isWord 5 (some .boolean)) ({ frames := 4, cells := 0, slots := 0, locals := 101 }) (xPs D T kK kV [.ref (a 0), .ref (kK 3)] sz (pre_X6_isWord T a ex fi fl vi vl)) (va_Qi (fun r u => r = u) (xC D (va_A (pre_X6_isWord T a ex fi fl vi vl) sz) (fun fj fm vj vm => [((a 0), .inr (6, [.ref (ex 0), .ref (ex 1), .int (vi 0), .int (vi 1), .int (vi 2), .int (vi 3), .int (vi 4), .int (vi 5), .long (vl 0), .int (vi 6), .int (vi 7), .int (vi 8), .int (vi 9), .int (vi 10)]))]) (fun (r : Int32) (fj : Nat → Nat → Int32) (fm : Nat → Nat → Int64) (vj : Nat → Int32) (vm : Nat → Int64) => ((r = 1 ∧ (True)) ∨ (r = 0 ∧ (True))) ∧ True)) (va_A (pre_X6_isWord T a ex fi fl vi vl) sz)) 0 0 (va_A (pre_X6_isWord T a ex fi fl vi vl) sz) := by
  refine xofW (cc := cX6_isWord) (maxL := 5) (ret := (some .boolean)) (by decide) rfl ?_
  intro p e s m args below meth c s₁ R Q hR hQ B hml hv
  obtain ⟨rfl, hsz, hP, hK, hD0, hT⟩ := hv
  have hx := B.exec
  have hb := B.bytes
  have hr := B.returns
  have hts := atoms_spec (ws := xw yX6_isWord cX6_isWord 5 (some .boolean)) B.pre
  have htg : ∀ w ∈ xg, w.before _ s = true := fun w h => hts w (List.mem_cons_of_mem _ h)
  have hown : s.vm.findClass RX6 = some m.cls := findClass_of_methodNamed B.named
  have hlocks := B.notSynchronized
  subst hsz
  have hD := hD0.self (sz := s.heap.size)
  generalize hAe : va_A (pre_X6_isWord T a ex fi fl vi vl) s.heap.size = A at hD hQ hT
  have hA : ∀ q : Nat, s.heap.size ≤ q → A q := fun q h => by rw [← hAe]; exact Or.inr h
  have hS : va_S A s.heap s.heap [] := va_S.rf
  replace hP : va_P D vwCl [((a 0), .inr (6, [.ref (ex 0), .ref (ex 1), .int (vi 0), .int (vi 1), .int (vi 2), .int (vi 3), .int (vi 4), .int (vi 5), .long (vl 0), .int (vi 6), .int (vi 7), .int (vi 8), .int (vi 9), .int (vi 10)]))] s.heap := hP
  replace hD : va_D A [((a 0), .inr (6, [.ref (ex 0), .ref (ex 1), .int (vi 0), .int (vi 1), .int (vi 2), .int (vi 3), .int (vi 4), .int (vi 5), .long (vl 0), .int (vi 6), .int (vi 7), .int (vi 8), .int (vi 9), .int (vi 10)]))] := hD
  have hl := lv_entry ([.ref (a 0), .ref (kK 3)]) (n := 5) (Nat.le_of_ble_eq_true rfl)
  rw [lg_entry_eq]
  generalize (lg_sl ([.ref (a 0), .ref (kK 3)]) ++ List.replicate (5 - (lg_sl ([.ref (a 0), .ref (kK 3)])).length) Slot.unset).toArray = ls at hl ⊢
  replace hl : lv_has ls 5 [(0, .ref (a 0)), (1, .ref (kK 3))] := hl
  refine lv_lconst (v := 0) hx hb dX6_isWord_0 (by decide) ?_
  refine lv_lstore_n (lv' := [(2, .long 0), (0, .ref (a 0)), (1, .ref (kK 3))]) hx hb dX6_isWord_1 rfl hl (by decide) rfl (fun ls hl => ?_)
  refine lv_iconst (v := 0) hx hb dX6_isWord_2 (by decide) ?_
  refine lv_istore (lv' := [(4, .int 0), (2, .long 0), (0, .ref (a 0)), (1, .ref (kK 3))]) hx hb dX6_isWord_3 hl (by decide) rfl (fun ls hl => ?_)
  have lp : ∀ (kn : Nat) (w4 : Int32) (w2 : Int64) (H : Heap) (locs : List Loc) (ls : Array Slot), (0 ≤ w4.toInt) → (2147483648 - w4.toInt).toNat = kn → va_P D vwCl [((a 0), .inr (6, [.ref (ex 0), .ref (ex 1), .int (vi 0), .int (vi 1), .int (vi 2), .int (vi 3), .int (vi 4), .int (vi 5), .long (vl 0), .int (vi 6), .int (vi 7), .int (vi 8), .int (vi 9), .int (vi 10)]))] H → va_D A [((a 0), .inr (6, [.ref (ex 0), .ref (ex 1), .int (vi 0), .int (vi 1), .int (vi 2), .int (vi 3), .int (vi 4), .int (vi 5), .long (vl 0), .int (vi 6), .int (vi 7), .int (vi 8), .int (vi 9), .int (vi 10)]))] → va_S A s.heap H locs → lv_has ls 5 [(4, .int w4), (2, .long w2), (0, .ref (a 0)), (1, .ref (kK 3))] → W p l e R s m ([.ref (a 0), .ref (kK 3)] : List Value).toArray below meth c H locs 0 0 Q (F0 m 5 ls []) := by
    intro kn
    induction kn using Nat.strongRecOn with
    | _ kn ih =>
      intro w4 w2 H locs ls hi hm hP hD hS hl
      refine lv_iload hx hb dX6_isWord_5 (lv_at hl 0 rfl) ?_
      refine lv_aload_n hx hb dX6_isWord_7 rfl (lv_at hl 3 rfl) ?_
      have hPc := hP.sub (ws' := (pre_J0_length_8abf5 T (xa []) (xa []) (xf []) (xh []) (xv []) (xl []))) [] rfl
      have hDc := hD.sub (ws' := (pre_J0_length_8abf5 T (xa []) (xa []) (xf []) (xh []) (xv []) (xl []))) [] (by decide) rfl
      have hFc := va_free (wc := (pre_J0_length_8abf5 T (xa []) (xa []) (xf []) (xh []) (xv []) (xl []))) hD hS hA [] rfl
      refine va_calli (va_runV (As := []) (rest := [.int w4]) ⟨hx, hb, hml, hown, htg⟩ (c_J0_length_8abf5 l D T (xa []) (xa []) (xf []) (xh []) (xv []) (xl []) kK kV H.size) ⟨callB_of 0 htg (xg_ok kw_47) rfl rfl rfl (htg _ kw_3) (htg _ kw_44) (by decide +kernel) ⟨by rw [hR]; exact Nat.le_of_ble_eq_true rfl, by rw [hR]; exact Nat.le_of_ble_eq_true rfl⟩, htg _ kw_45, htg _ kw_46⟩ (xpreVs hK hPc hDc hT hFc hS (xT.recv hT 3 (by decide) hS)) rfl rfl hl.1 rfl (lv_room (Nat.le_of_ble_eq_true rfl)) dX6_isWord_8 ⟨by rw [hR]; exact Nat.le_of_ble_eq_true rfl, by rw [hR]; exact Nat.le_of_ble_eq_true rfl⟩) hS (fun q _ h => hFc q h) hFc (fun r9 u9 t H1 locs ht hvm hw hB hz1 hk1 hS => ?_)
      subst hw
      obtain ⟨fik, flk, vik, vlk, hP1, hD1, hG⟩ := hB
      rw [ht] at hP1
      obtain ⟨hP, hD⟩ := va_join (wr := [((a 0), .inr (6, [.ref (ex 0), .ref (ex 1), .int (vi 0), .int (vi 1), .int (vi 2), .int (vi 3), .int (vi 4), .int (vi 5), .long (vl 0), .int (vi 6), .int (vi 7), .int (vi 8), .int (vi 9), .int (vi 10)]))]) (w1 := []) hP hD [] [0] rfl rfl (by decide) (by decide) hk1 hFc hP1 hD1
      obtain ⟨rk, er9⟩ : ∃ z, z = r9 := ⟨_, rfl⟩
      subst er9
      clear hPc hDc hFc hP1 hD1 hk1 hz1 hvm ht
      generalize H1 = H at hP hS ⊢
      replace hP : va_P D vwCl [((a 0), .inr (6, [.ref (ex 0), .ref (ex 1), .int (vi 0), .int (vi 1), .int (vi 2), .int (vi 3), .int (vi 4), .int (vi 5), .long (vl 0), .int (vi 6), .int (vi 7), .int (vi 8), .int (vi 9), .int (vi 10)]))] H := hP
      replace hD : va_D A [((a 0), .inr (6, [.ref (ex 0), .ref (ex 1), .int (vi 0), .int (vi 1), .int (vi 2), .int (vi 3), .int (vi 4), .int (vi 5), .long (vl 0), .int (vi 6), .int (vi 7), .int (vi 8), .int (vi 9), .int (vi 10)]))] := hD
      obtain ⟨gk_0, -⟩ := hG
      replace gk_0 : rk = 4 := gk_0
      refine xz_i 4 gk_0 ?_
      refine lv_icmp_ge (tgt := 33) hx hb dX6_isWord_11 (by decide) (fun c11 => ?_) (fun c11 => ?_)
      · have c11 := xge (k := 4) (by decide) c11
        refine lv_aload_n hx hb dX6_isWord_33 rfl (lv_at hl 2 rfl) ?_
        refine va_get (D := D) (ci := 6) (v := .int (vi 4)) (C := RX6) (T := TX6) (N := 14) hx hb htg inX6 hown hK.1 hP 0 rfl rfl 6 (by decide) (htg _ kw_104) (fun _ h9 => h9) rfl dX6_isWord_34 ?_
        refine lv_iconst (v := 1) hx hb dX6_isWord_37 (by decide) ?_
        refine lv_icmp_ne (tgt := 54) hx hb dX6_isWord_38 (by decide) (fun c38 => ?_) (fun c38 => ?_)
        · have c38 := xne (k := 1) (by decide) c38
          refine lv_iconst (v := 0) hx hb dX6_isWord_54 (by decide) ?_
          have hP9 := hP.sub (ws' := [((a 0), .inr (6, [.ref (ex 0), .ref (ex 1), .int (vi 0), .int (vi 1), .int (vi 2), .int (vi 3), .int (vi 4), .int (vi 5), .long (vl 0), .int (vi 6), .int (vi 7), .int (vi 8), .int (vi 9), .int (vi 10)]))]) [0] rfl
          have hD9 := hD.sub (ws' := [((a 0), .inr (6, [.ref (ex 0), .ref (ex 1), .int (vi 0), .int (vi 1), .int (vi 2), .int (vi 3), .int (vi 4), .int (vi 5), .long (vl 0), .int (vi 6), .int (vi 7), .int (vi 8), .int (vi 9), .int (vi 10)]))]) [0] (by decide +kernel) rfl
          rw [hQ]
          exact W.zret (v := 0) hx hb hr rfl (fun t ht hW => ⟨⟨0, 0, rfl, rfl, xf [], xh [], xv [], xl [], by rw [ht]; exact hP9, hD9, ⟨(Or.inr ⟨rfl, by show True; first | trivial | omega⟩), trivial⟩⟩, hS.F ht⟩) hS.2.2 dX6_isWord_55
        · have c38 := xeq (k := 1) (by decide) c38
          refine lv_lload_n hx hb dX6_isWord_41 rfl (lv_at hl 1 rfl) ?_
          refine lv_aload_n hx hb dX6_isWord_42 rfl (lv_at hl 2 rfl) ?_
          refine va_get (D := D) (ci := 6) (v := .long (vl 0)) (C := RX6) (T := TX6) (N := 14) hx hb htg inX6 hown hK.1 hP 0 rfl rfl 8 (by decide) (htg _ kw_108) (fun _ h9 => h9) rfl dX6_isWord_43 ?_
          refine W.lcmp hx hb dX6_isWord_46 ?_
          refine lv_topi (fun z46 ez46 => ?_)
          refine lv_if_ne (tgt := 54) hx hb dX6_isWord_47 (by decide) (fun c47 => ?_) (fun c47 => ?_)
          · have c47 := xne (k := 0) (by decide) c47
            refine lv_iconst (v := 0) hx hb dX6_isWord_54 (by decide) ?_
            have hP9 := hP.sub (ws' := [((a 0), .inr (6, [.ref (ex 0), .ref (ex 1), .int (vi 0), .int (vi 1), .int (vi 2), .int (vi 3), .int (vi 4), .int (vi 5), .long (vl 0), .int (vi 6), .int (vi 7), .int (vi 8), .int (vi 9), .int (vi 10)]))]) [0] rfl
            have hD9 := hD.sub (ws' := [((a 0), .inr (6, [.ref (ex 0), .ref (ex 1), .int (vi 0), .int (vi 1), .int (vi 2), .int (vi 3), .int (vi 4), .int (vi 5), .long (vl 0), .int (vi 6), .int (vi 7), .int (vi 8), .int (vi 9), .int (vi 10)]))]) [0] (by decide +kernel) rfl
            rw [hQ]
            exact W.zret (v := 0) hx hb hr rfl (fun t ht hW => ⟨⟨0, 0, rfl, rfl, xf [], xh [], xv [], xl [], by rw [ht]; exact hP9, hD9, ⟨(Or.inr ⟨rfl, by show True; first | trivial | omega⟩), trivial⟩⟩, hS.F ht⟩) hS.2.2 dX6_isWord_55
          · have c47 := xeq (k := 0) (by decide) c47
            refine lv_iconst (v := 1) hx hb dX6_isWord_50 (by decide) ?_
            refine lv_goto (tgt := 55) hx hb dX6_isWord_51 (by decide) ?_
            have hP9 := hP.sub (ws' := [((a 0), .inr (6, [.ref (ex 0), .ref (ex 1), .int (vi 0), .int (vi 1), .int (vi 2), .int (vi 3), .int (vi 4), .int (vi 5), .long (vl 0), .int (vi 6), .int (vi 7), .int (vi 8), .int (vi 9), .int (vi 10)]))]) [0] rfl
            have hD9 := hD.sub (ws' := [((a 0), .inr (6, [.ref (ex 0), .ref (ex 1), .int (vi 0), .int (vi 1), .int (vi 2), .int (vi 3), .int (vi 4), .int (vi 5), .long (vl 0), .int (vi 6), .int (vi 7), .int (vi 8), .int (vi 9), .int (vi 10)]))]) [0] (by decide +kernel) rfl
            rw [hQ]
            exact W.zret (v := 1) hx hb hr rfl (fun t ht hW => ⟨⟨1, 1, rfl, rfl, xf [], xh [], xv [], xl [], by rw [ht]; exact hP9, hD9, ⟨(Or.inl ⟨rfl, by show True; first | trivial | omega⟩), trivial⟩⟩, hS.F ht⟩) hS.2.2 dX6_isWord_55
      · have c11 := xnge (k := 4) (by decide) c11
        refine lv_lload_n hx hb dX6_isWord_14 rfl (lv_at hl 1 rfl) ?_
        refine lv_bipush (v := 8) hx hb dX6_isWord_15 (by decide) ?_
        refine lv_lshl hx hb dX6_isWord_17 rfl ?_
        refine lv_topl (fun z17 ez17 => ?_)
        refine lv_aload_n hx hb dX6_isWord_18 rfl (lv_at hl 3 rfl) ?_
        refine lv_iload hx hb dX6_isWord_19 (lv_at hl 0 rfl) ?_
        have hPc := hP.sub (ws' := (pre_J0_charAt_5068e T (xa []) (xa []) (xf []) (xh []) (xv [w4]) (xl []))) [] rfl
        have hDc := hD.sub (ws' := (pre_J0_charAt_5068e T (xa []) (xa []) (xf []) (xh []) (xv [w4]) (xl []))) [] (by decide) rfl
        have hFc := va_free (wc := (pre_J0_charAt_5068e T (xa []) (xa []) (xf []) (xh []) (xv [w4]) (xl []))) hD hS hA [] rfl
        refine va_calli (va_runV (As := [.int w4]) (rest := [.long z17]) ⟨hx, hb, hml, hown, htg⟩ (c_J0_charAt_5068e l D T (xa []) (xa []) (xf []) (xh []) (xv [w4]) (xl []) kK kV H.size (by show 0 ≤ w4.toInt ∧ w4.toInt ≤ 3; omega)) ⟨callB_of 1 htg (xg_ok kw_57) rfl rfl rfl (htg _ kw_3) (htg _ kw_54) (by decide +kernel) ⟨by rw [hR]; exact Nat.le_of_ble_eq_true rfl, by rw [hR]; exact Nat.le_of_ble_eq_true rfl⟩, htg _ kw_55, htg _ kw_56⟩ (xpreVs hK hPc hDc hT hFc hS (xT.recv hT 3 (by decide) hS)) rfl rfl hl.1 rfl (lv_room (Nat.le_of_ble_eq_true rfl)) dX6_isWord_21 ⟨by rw [hR]; exact Nat.le_of_ble_eq_true rfl, by rw [hR]; exact Nat.le_of_ble_eq_true rfl⟩) hS (fun q _ h => hFc q h) hFc (fun r9 u9 t H1 locs ht hvm hw hB hz1 hk1 hS => ?_)
        subst hw
        obtain ⟨fik_1, flk_1, vik_1, vlk_1, hP1, hD1, hG⟩ := hB
        rw [ht] at hP1
        obtain ⟨hP, hD⟩ := va_join (wr := [((a 0), .inr (6, [.ref (ex 0), .ref (ex 1), .int (vi 0), .int (vi 1), .int (vi 2), .int (vi 3), .int (vi 4), .int (vi 5), .long (vl 0), .int (vi 6), .int (vi 7), .int (vi 8), .int (vi 9), .int (vi 10)]))]) (w1 := []) hP hD [] [0] rfl rfl (by decide) (by decide) hk1 hFc hP1 hD1
        obtain ⟨rk_1, er9⟩ : ∃ z, z = r9 := ⟨_, rfl⟩
        subst er9
        clear hPc hDc hFc hP1 hD1 hk1 hz1 hvm ht
        generalize H1 = H at hP hS ⊢
        replace hP : va_P D vwCl [((a 0), .inr (6, [.ref (ex 0), .ref (ex 1), .int (vi 0), .int (vi 1), .int (vi 2), .int (vi 3), .int (vi 4), .int (vi 5), .long (vl 0), .int (vi 6), .int (vi 7), .int (vi 8), .int (vi 9), .int (vi 10)]))] H := hP
        replace hD : va_D A [((a 0), .inr (6, [.ref (ex 0), .ref (ex 1), .int (vi 0), .int (vi 1), .int (vi 2), .int (vi 3), .int (vi 4), .int (vi 5), .long (vl 0), .int (vi 6), .int (vi 7), .int (vi 8), .int (vi 9), .int (vi 10)]))] := hD
        obtain ⟨gk_1_0, -⟩ := hG
        replace gk_1_0 : narrow .char (.int rk_1) = .int rk_1 := gk_1_0
        refine lv_i2l hx hb dX6_isWord_24 rfl ?_
        refine lv_topl (fun z24 ez24 => ?_)
        refine lv_lor hx hb dX6_isWord_25 ?_
        refine lv_topl (fun z25 ez25 => ?_)
        refine lv_lstore_n (lv' := [(2, .long z25), (4, .int w4), (0, .ref (a 0)), (1, .ref (kK 3))]) hx hb dX6_isWord_26 rfl hl (by decide) rfl (fun ls hl => ?_)
        obtain ⟨i27, ei27⟩ : ∃ z : Int32, w4 + Int32.ofInt 1 = z := ⟨_, rfl⟩
        have ti27 : i27.toInt = w4.toInt + 1 := by rw [← ei27]; exact xadd rfl (by decide) (by omega) (by omega)
        refine lv_iinc (v := i27) (lv' := [(4, .int i27), (2, .long z25), (0, .ref (a 0)), (1, .ref (kK 3))]) hx hb dX6_isWord_27 hl (k := 1) rfl ei27 (by decide) rfl (fun ls hl => ?_)
        refine lv_goto (tgt := 5) hx hb dX6_isWord_30 (by decide) ?_
        exact ih _ (by omega) i27 z25 _ _ _ (by show 0 ≤ i27.toInt; omega) rfl (hP.sub [0] rfl) (hD.sub [0] (by decide) rfl) hS (lv_sub hl [0, 1, 2, 3] rfl)
  exact lp _ (0 : Int32) (0 : Int64) _ _ _ (by show 0 ≤ (0 : Int32).toInt; have k9_0 : (0 : Int32).toInt = 0 := by decide; omega) rfl hP hD hS hl
abbrev pre_X2_passMondays (T : Nat → ClassId) (a ex : Nat → Nat) (fi : Nat → Nat → Int32) (fl : Nat → Nat → Int64) (vi : Nat → Int32) (vl : Nat → Int64) : va_W := [((a 0), .inr (2, [.ref (a 1), .int (vi 1), .int (vi 2), .int (vi 3), .int (vi 4), .int (vi 5), .int (vi 6), .ref (a 3), .ref (ex 0), .ref (ex 1), .ref (a 7), .ref (a 5), .ref (a 6), .ref (ex 2), .ref (a 2)])), ((a 1), .inr (7, [.int (vi 7), .int (vi 8), .ref (ex 3), .ref (ex 4), .ref (ex 5), .ref (a 4), .ref (ex 6), .ref (ex 7), .ref (ex 8), .ref (ex 9), .ref (ex 10), .ref (ex 11)])), ((a 2), .inl (T 2, 200, .inr (.inl (fl 0)))), ((a 3), .inl (T 1, 9, .inl (fi 0))), ((a 4), .inl (T 1, 9, .inl (fi 1))), ((a 5), .inl (T 1, 9, .inl (fi 2))), ((a 6), .inl (T 1, 9, .inl (fi 3))), ((a 7), .inl (T 1, 9, .inl (fi 4)))]
set_option maxHeartbeats 8000000 in
set_option maxRecDepth 100000 in
theorem c_X2_passMondays (l : Launch) (D : va_G) (T : Nat → ClassId) (a ex : Nat → Nat) (fi : Nat → Nat → Int32) (fl : Nat → Nat → Int64) (vi : Nat → Int32) (vl : Nat → Int64) (sz : Nat) (hp0 : 0 ≤ (vi 1).toInt ∧ (vi 1).toInt ≤ 200) (hp1 : 0 ≤ (vi 6).toInt ∧ (vi 6).toInt ≤ 9) (hp2 : 0 ≤ (vi 7).toInt ∧ (vi 7).toInt ≤ 9) (hp3 : 0 ≤ (vi 8).toInt ∧ (vi 8).toInt ≤ 9) (hp4 : rg (fi 0) 0 9 (-1) 8) (hp5 : rg (fi 4) 0 9 (-1) 8) : Met l yX2_passMondays (xw yX2_passMondays cX2_passMondays 3 none) ({ frames := 2, cells := 0, slots := 0, locals := 53 }) (xP D T [.ref (a 0), .int (vi 0)] sz (pre_X2_passMondays T a ex fi fl vi vl)) (va_Qv (fun _ : Int32 => True) (xC D (va_A (pre_X2_passMondays T a ex fi fl vi vl) sz) (fun fj fm vj vm => [((a 0), .inr (2, [.ref (a 1), .int (vj 0), .int (vi 2), .int (vj 1), .int (vi 4), .int (vi 5), .int (vi 6), .ref (a 3), .ref (ex 0), .ref (ex 1), .ref (a 7), .ref (a 5), .ref (a 6), .ref (ex 2), .ref (a 2)])), ((a 1), .inr (7, [.int (vi 7), .int (vi 8), .ref (ex 3), .ref (ex 4), .ref (ex 5), .ref (a 4), .ref (ex 6), .ref (ex 7), .ref (ex 8), .ref (ex 9), .ref (ex 10), .ref (ex 11)])), ((a 2), .inl (T 2, 200, .inr (.inl (fm 0)))), ((a 3), .inl (T 1, 9, .inl (fi 0))), ((a 4), .inl (T 1, 9, .inl (fi 1))), ((a 5), .inl (T 1, 9, .inl (fj 0))), ((a 6), .inl (T 1, 9, .inl (fj 1))), ((a 7), .inl (T 1, 9, .inl (fi 4)))]) (fun (r : Int32) (fj : Nat → Nat → Int32) (fm : Nat → Nat → Int64) (vj : Nat → Int32) (vm : Nat → Int64) => (0 ≤ (vj 0).toInt ∧ (vj 0).toInt ≤ 200) ∧ True)) (va_A (pre_X2_passMondays T a ex fi fl vi vl) sz)) 0 0 (va_A (pre_X2_passMondays T a ex fi fl vi vl) sz) := by
  refine xofW (cc := cX2_passMondays) (maxL := 3) (ret := none) (by decide) rfl ?_
  intro p e s m args below meth c s₁ R Q hR hQ B hml hv
  obtain ⟨rfl, hsz, hP, hK, hD0⟩ := hv
  have hx := B.exec
  have hb := B.bytes
  have hr := B.returns
  have hts := atoms_spec (ws := xw yX2_passMondays cX2_passMondays 3 none) B.pre
  have htg : ∀ w ∈ xg, w.before _ s = true := fun w h => hts w (List.mem_cons_of_mem _ h)
  have hown : s.vm.findClass RX2 = some m.cls := findClass_of_methodNamed B.named
  have hlocks := B.notSynchronized
  subst hsz
  have hD := hD0.self (sz := s.heap.size)
  generalize hAe : va_A (pre_X2_passMondays T a ex fi fl vi vl) s.heap.size = A at hD hQ
  have hA : ∀ q : Nat, s.heap.size ≤ q → A q := fun q h => by rw [← hAe]; exact Or.inr h
  have hS : va_S A s.heap s.heap [] := va_S.rf
  replace hP : va_P D vwCl [((a 0), .inr (2, [.ref (a 1), .int (vi 1), .int (vi 2), .int (vi 3), .int (vi 4), .int (vi 5), .int (vi 6), .ref (a 3), .ref (ex 0), .ref (ex 1), .ref (a 7), .ref (a 5), .ref (a 6), .ref (ex 2), .ref (a 2)])), ((a 1), .inr (7, [.int (vi 7), .int (vi 8), .ref (ex 3), .ref (ex 4), .ref (ex 5), .ref (a 4), .ref (ex 6), .ref (ex 7), .ref (ex 8), .ref (ex 9), .ref (ex 10), .ref (ex 11)])), ((a 2), .inl (T 2, 200, .inr (.inl (fl 0)))), ((a 3), .inl (T 1, 9, .inl (fi 0))), ((a 4), .inl (T 1, 9, .inl (fi 1))), ((a 5), .inl (T 1, 9, .inl (fi 2))), ((a 6), .inl (T 1, 9, .inl (fi 3))), ((a 7), .inl (T 1, 9, .inl (fi 4)))] s.heap := hP
  replace hD : va_D A [((a 0), .inr (2, [.ref (a 1), .int (vi 1), .int (vi 2), .int (vi 3), .int (vi 4), .int (vi 5), .int (vi 6), .ref (a 3), .ref (ex 0), .ref (ex 1), .ref (a 7), .ref (a 5), .ref (a 6), .ref (ex 2), .ref (a 2)])), ((a 1), .inr (7, [.int (vi 7), .int (vi 8), .ref (ex 3), .ref (ex 4), .ref (ex 5), .ref (a 4), .ref (ex 6), .ref (ex 7), .ref (ex 8), .ref (ex 9), .ref (ex 10), .ref (ex 11)])), ((a 2), .inl (T 2, 200, .inr (.inl (fl 0)))), ((a 3), .inl (T 1, 9, .inl (fi 0))), ((a 4), .inl (T 1, 9, .inl (fi 1))), ((a 5), .inl (T 1, 9, .inl (fi 2))), ((a 6), .inl (T 1, 9, .inl (fi 3))), ((a 7), .inl (T 1, 9, .inl (fi 4)))] := hD
  have hl := lv_entry ([.ref (a 0), .int (vi 0)]) (n := 3) (Nat.le_of_ble_eq_true rfl)
  rw [lg_entry_eq]
  generalize (lg_sl ([.ref (a 0), .int (vi 0)]) ++ List.replicate (3 - (lg_sl ([.ref (a 0), .int (vi 0)])).length) Slot.unset).toArray = ls at hl ⊢
  replace hl : lv_has ls 3 [(0, .ref (a 0)), (1, .int (vi 0))] := hl
  refine lv_iconst (v := 0) hx hb dX2_passMondays_0 (by decide) ?_
  refine lv_istore_n (lv' := [(2, .int 0), (0, .ref (a 0)), (1, .int (vi 0))]) hx hb dX2_passMondays_1 rfl hl (by decide) rfl (fun ls hl => ?_)
  have lp : ∀ (kn : Nat) (w2 : Int32) (wf : Nat → Int64) (wv : Int32) (wv_1 : Int32) (wf_1 : Nat → Int32) (wf_2 : Nat → Int32) (H : Heap) (locs : List Loc) (ls : Array Slot), (0 ≤ w2.toInt) → (0 ≤ wv.toInt ∧ wv.toInt ≤ 200) → (2147483648 - w2.toInt).toNat = kn → va_P D vwCl [((a 0), .inr (2, [.ref (a 1), .int wv, .int (vi 2), .int wv_1, .int (vi 4), .int (vi 5), .int (vi 6), .ref (a 3), .ref (ex 0), .ref (ex 1), .ref (a 7), .ref (a 5), .ref (a 6), .ref (ex 2), .ref (a 2)])), ((a 1), .inr (7, [.int (vi 7), .int (vi 8), .ref (ex 3), .ref (ex 4), .ref (ex 5), .ref (a 4), .ref (ex 6), .ref (ex 7), .ref (ex 8), .ref (ex 9), .ref (ex 10), .ref (ex 11)])), ((a 2), .inl (T 2, 200, .inr (.inl wf))), ((a 3), .inl (T 1, 9, .inl (fi 0))), ((a 4), .inl (T 1, 9, .inl (fi 1))), ((a 5), .inl (T 1, 9, .inl wf_1)), ((a 6), .inl (T 1, 9, .inl wf_2)), ((a 7), .inl (T 1, 9, .inl (fi 4)))] H → va_D A [((a 0), .inr (2, [.ref (a 1), .int wv, .int (vi 2), .int wv_1, .int (vi 4), .int (vi 5), .int (vi 6), .ref (a 3), .ref (ex 0), .ref (ex 1), .ref (a 7), .ref (a 5), .ref (a 6), .ref (ex 2), .ref (a 2)])), ((a 1), .inr (7, [.int (vi 7), .int (vi 8), .ref (ex 3), .ref (ex 4), .ref (ex 5), .ref (a 4), .ref (ex 6), .ref (ex 7), .ref (ex 8), .ref (ex 9), .ref (ex 10), .ref (ex 11)])), ((a 2), .inl (T 2, 200, .inr (.inl wf))), ((a 3), .inl (T 1, 9, .inl (fi 0))), ((a 4), .inl (T 1, 9, .inl (fi 1))), ((a 5), .inl (T 1, 9, .inl wf_1)), ((a 6), .inl (T 1, 9, .inl wf_2)), ((a 7), .inl (T 1, 9, .inl (fi 4)))] → va_S A s.heap H locs → lv_has ls 3 [(2, .int w2), (0, .ref (a 0)), (1, .int (vi 0))] → W p l e R s m ([.ref (a 0), .int (vi 0)] : List Value).toArray below meth c H locs 0 0 Q (F0 m 2 ls []) := by
    intro kn
    induction kn using Nat.strongRecOn with
    | _ kn ih =>
      intro w2 wf wv wv_1 wf_1 wf_2 H locs ls hi hi_1 hm hP hD hS hl
      refine lv_iload_n hx hb dX2_passMondays_2 rfl (lv_at hl 0 rfl) ?_
      refine lv_iload_n hx hb dX2_passMondays_3 rfl (lv_at hl 2 rfl) ?_
      refine lv_icmp_ge (tgt := 17) hx hb dX2_passMondays_4 (by decide) (fun c4 => ?_) (fun c4 => ?_)
      · have c4 := Int32.le_iff_toInt_le.mp c4
        have rc4 := xrng w2; have qc4 := xrng (vi 0)
        have hP9 := hP.sub (ws' := [((a 0), .inr (2, [.ref (a 1), .int wv, .int (vi 2), .int wv_1, .int (vi 4), .int (vi 5), .int (vi 6), .ref (a 3), .ref (ex 0), .ref (ex 1), .ref (a 7), .ref (a 5), .ref (a 6), .ref (ex 2), .ref (a 2)])), ((a 1), .inr (7, [.int (vi 7), .int (vi 8), .ref (ex 3), .ref (ex 4), .ref (ex 5), .ref (a 4), .ref (ex 6), .ref (ex 7), .ref (ex 8), .ref (ex 9), .ref (ex 10), .ref (ex 11)])), ((a 2), .inl (T 2, 200, .inr (.inl wf))), ((a 3), .inl (T 1, 9, .inl (fi 0))), ((a 4), .inl (T 1, 9, .inl (fi 1))), ((a 5), .inl (T 1, 9, .inl wf_1)), ((a 6), .inl (T 1, 9, .inl wf_2)), ((a 7), .inl (T 1, 9, .inl (fi 4)))]) [0, 1, 2, 3, 4, 5, 6, 7] rfl
        have hD9 := hD.sub (ws' := [((a 0), .inr (2, [.ref (a 1), .int wv, .int (vi 2), .int wv_1, .int (vi 4), .int (vi 5), .int (vi 6), .ref (a 3), .ref (ex 0), .ref (ex 1), .ref (a 7), .ref (a 5), .ref (a 6), .ref (ex 2), .ref (a 2)])), ((a 1), .inr (7, [.int (vi 7), .int (vi 8), .ref (ex 3), .ref (ex 4), .ref (ex 5), .ref (a 4), .ref (ex 6), .ref (ex 7), .ref (ex 8), .ref (ex 9), .ref (ex 10), .ref (ex 11)])), ((a 2), .inl (T 2, 200, .inr (.inl wf))), ((a 3), .inl (T 1, 9, .inl (fi 0))), ((a 4), .inl (T 1, 9, .inl (fi 1))), ((a 5), .inl (T 1, 9, .inl wf_1)), ((a 6), .inl (T 1, 9, .inl wf_2)), ((a 7), .inl (T 1, 9, .inl (fi 4)))]) [0, 1, 2, 3, 4, 5, 6, 7] (by decide +kernel) rfl
        rw [hQ]
        exact W.vret hx hb hr (fun t ht hW => ⟨⟨(0 : Int32), rfl, trivial, xf [wf_1, wf_2], xh [wf], xv [wv, wv_1], xl [], by rw [ht]; exact hP9, hD9, ⟨(by show 0 ≤ wv.toInt ∧ wv.toInt ≤ 200; omega), trivial⟩⟩, hS.F ht⟩) hS.2.2 dX2_passMondays_17
      · have c4 := (mt Int32.le_iff_toInt_le.mpr c4)
        have rc4 := xrng w2; have qc4 := xrng (vi 0)
        refine lv_aload_n hx hb dX2_passMondays_7 rfl (lv_at hl 1 rfl) ?_
        have hPc := hP.sub (ws' := (pre_X2_endMonday T (xa [(a 0), (a 1), (a 2), (a 3), (a 4), (a 5), (a 6), (a 7)]) (xa [(ex 0), (ex 1), (ex 2), (ex 3), (ex 4), (ex 5), (ex 6), (ex 7), (ex 8), (ex 9), (ex 10), (ex 11)]) (xf [(fi 0), (fi 1), wf_1, wf_2, (fi 4)]) (xh [wf]) (xv [wv, (vi 2), wv_1, (vi 4), (vi 5), (vi 6), (vi 7), (vi 8)]) (xl []))) [0, 1, 2, 3, 4, 5, 6, 7] rfl
        have hDc := hD.sub (ws' := (pre_X2_endMonday T (xa [(a 0), (a 1), (a 2), (a 3), (a 4), (a 5), (a 6), (a 7)]) (xa [(ex 0), (ex 1), (ex 2), (ex 3), (ex 4), (ex 5), (ex 6), (ex 7), (ex 8), (ex 9), (ex 10), (ex 11)]) (xf [(fi 0), (fi 1), wf_1, wf_2, (fi 4)]) (xh [wf]) (xv [wv, (vi 2), wv_1, (vi 4), (vi 5), (vi 6), (vi 7), (vi 8)]) (xl []))) [0, 1, 2, 3, 4, 5, 6, 7] (by decide) rfl
        have hFc := va_free (wc := (pre_X2_endMonday T (xa [(a 0), (a 1), (a 2), (a 3), (a 4), (a 5), (a 6), (a 7)]) (xa [(ex 0), (ex 1), (ex 2), (ex 3), (ex 4), (ex 5), (ex 6), (ex 7), (ex 8), (ex 9), (ex 10), (ex 11)]) (xf [(fi 0), (fi 1), wf_1, wf_2, (fi 4)]) (xh [wf]) (xv [wv, (vi 2), wv_1, (vi 4), (vi 5), (vi 6), (vi 7), (vi 8)]) (xl []))) hD hS hA [0, 1, 2, 3, 4, 5, 6, 7] rfl
        refine va_callv (va_runV (As := []) (rest := []) ⟨hx, hb, hml, hown, htg⟩ (c_X2_endMonday l D T (xa [(a 0), (a 1), (a 2), (a 3), (a 4), (a 5), (a 6), (a 7)]) (xa [(ex 0), (ex 1), (ex 2), (ex 3), (ex 4), (ex 5), (ex 6), (ex 7), (ex 8), (ex 9), (ex 10), (ex 11)]) (xf [(fi 0), (fi 1), wf_1, wf_2, (fi 4)]) (xh [wf]) (xv [wv, (vi 2), wv_1, (vi 4), (vi 5), (vi 6), (vi 7), (vi 8)]) (xl []) H.size (by show 0 ≤ wv.toInt ∧ wv.toInt ≤ 200; omega) (by show 0 ≤ (vi 6).toInt ∧ (vi 6).toInt ≤ 9; omega) (by show 0 ≤ (vi 7).toInt ∧ (vi 7).toInt ≤ 9; omega) (by show 0 ≤ (vi 8).toInt ∧ (vi 8).toInt ≤ 9; omega) (show rg (fi 0) 0 9 (-1) 8 from hp4) (show rg (fi 4) 0 9 (-1) 8 from hp5)) ⟨callB_of 0 htg (xg_ok kw_878) rfl rfl rfl (htg _ kw_9) (htg _ kw_875) (by decide +kernel) ⟨by rw [hR]; exact Nat.le_of_ble_eq_true rfl, by rw [hR]; exact Nat.le_of_ble_eq_true rfl⟩, htg _ kw_877, htg _ ks_64⟩ (xpreV hK hPc hDc (va_recv hK.1 hPc (ci := 2) (q0 := 0) rfl rfl)) rfl rfl hl.1 rfl (lv_room (Nat.le_of_ble_eq_true rfl)) dX2_passMondays_8 ⟨by rw [hR]; exact Nat.le_of_ble_eq_true rfl, by rw [hR]; exact Nat.le_of_ble_eq_true rfl⟩) hS (fun q _ h => hFc q h) hFc (fun u9 t H1 locs ht hvm hw hB hz1 hk1 hS => ?_)
        obtain ⟨fik, flk, vik, vlk, hP1, hD1, hG⟩ := hB
        rw [ht] at hP1
        obtain ⟨hP, hD⟩ := va_join (wr := []) (w1 := [((a 0), .inr (2, [.ref (a 1), .int (vik 0), .int (vi 2), .int (vik 1), .int (vi 4), .int (vi 5), .int (vi 6), .ref (a 3), .ref (ex 0), .ref (ex 1), .ref (a 7), .ref (a 5), .ref (a 6), .ref (ex 2), .ref (a 2)])), ((a 1), .inr (7, [.int (vi 7), .int (vi 8), .ref (ex 3), .ref (ex 4), .ref (ex 5), .ref (a 4), .ref (ex 6), .ref (ex 7), .ref (ex 8), .ref (ex 9), .ref (ex 10), .ref (ex 11)])), ((a 2), .inl (T 2, 200, .inr (.inl (flk 0)))), ((a 3), .inl (T 1, 9, .inl (fi 0))), ((a 4), .inl (T 1, 9, .inl (fi 1))), ((a 5), .inl (T 1, 9, .inl (fik 0))), ((a 6), .inl (T 1, 9, .inl (fik 1))), ((a 7), .inl (T 1, 9, .inl (fi 4)))]) hP hD [0, 1, 2, 3, 4, 5, 6, 7] [] rfl rfl (by decide) (by decide) hk1 hFc hP1 hD1
        clear hPc hDc hFc hP1 hD1 hk1 hz1 hvm ht
        generalize H1 = H at hP hS ⊢
        replace hP : va_P D vwCl [((a 0), .inr (2, [.ref (a 1), .int (vik 0), .int (vi 2), .int (vik 1), .int (vi 4), .int (vi 5), .int (vi 6), .ref (a 3), .ref (ex 0), .ref (ex 1), .ref (a 7), .ref (a 5), .ref (a 6), .ref (ex 2), .ref (a 2)])), ((a 1), .inr (7, [.int (vi 7), .int (vi 8), .ref (ex 3), .ref (ex 4), .ref (ex 5), .ref (a 4), .ref (ex 6), .ref (ex 7), .ref (ex 8), .ref (ex 9), .ref (ex 10), .ref (ex 11)])), ((a 2), .inl (T 2, 200, .inr (.inl (flk 0)))), ((a 3), .inl (T 1, 9, .inl (fi 0))), ((a 4), .inl (T 1, 9, .inl (fi 1))), ((a 5), .inl (T 1, 9, .inl (fik 0))), ((a 6), .inl (T 1, 9, .inl (fik 1))), ((a 7), .inl (T 1, 9, .inl (fi 4)))] H := hP
        replace hD : va_D A [((a 0), .inr (2, [.ref (a 1), .int (vik 0), .int (vi 2), .int (vik 1), .int (vi 4), .int (vi 5), .int (vi 6), .ref (a 3), .ref (ex 0), .ref (ex 1), .ref (a 7), .ref (a 5), .ref (a 6), .ref (ex 2), .ref (a 2)])), ((a 1), .inr (7, [.int (vi 7), .int (vi 8), .ref (ex 3), .ref (ex 4), .ref (ex 5), .ref (a 4), .ref (ex 6), .ref (ex 7), .ref (ex 8), .ref (ex 9), .ref (ex 10), .ref (ex 11)])), ((a 2), .inl (T 2, 200, .inr (.inl (flk 0)))), ((a 3), .inl (T 1, 9, .inl (fi 0))), ((a 4), .inl (T 1, 9, .inl (fi 1))), ((a 5), .inl (T 1, 9, .inl (fik 0))), ((a 6), .inl (T 1, 9, .inl (fik 1))), ((a 7), .inl (T 1, 9, .inl (fi 4)))] := hD
        obtain ⟨gk_0, -⟩ := hG
        replace gk_0 : 0 ≤ (vik 0).toInt ∧ (vik 0).toInt ≤ 200 := gk_0
        obtain ⟨i11, ei11⟩ : ∃ z : Int32, w2 + Int32.ofInt 1 = z := ⟨_, rfl⟩
        have ti11 : i11.toInt = w2.toInt + 1 := by rw [← ei11]; exact xadd rfl (by decide) (by omega) (by omega)
        refine lv_iinc (v := i11) (lv' := [(2, .int i11), (0, .ref (a 0)), (1, .int (vi 0))]) hx hb dX2_passMondays_11 hl (k := 0) rfl ei11 (by decide) rfl (fun ls hl => ?_)
        refine lv_goto (tgt := 2) hx hb dX2_passMondays_14 (by decide) ?_
        exact ih _ (by omega) i11 (flk 0) (vik 0) (vik 1) (fik 0) (fik 1) _ _ _ (by show 0 ≤ i11.toInt; omega) (by show 0 ≤ (vik 0).toInt ∧ (vik 0).toInt ≤ 200; omega) rfl (hP.sub [0, 1, 2, 3, 4, 5, 6, 7] rfl) (hD.sub [0, 1, 2, 3, 4, 5, 6, 7] (by decide) rfl) hS (lv_sub hl [0, 1, 2] rfl)
  exact lp _ (0 : Int32) (fl 0) (vi 1) (vi 3) (fi 2) (fi 3) _ _ _ (by show 0 ≤ (0 : Int32).toInt; have k9_0 : (0 : Int32).toInt = 0 := by decide; omega) (by show 0 ≤ (vi 1).toInt ∧ (vi 1).toInt ≤ 200; omega) rfl hP hD hS hl
abbrev pre_X2_loseName (T : Nat → ClassId) (a ex : Nat → Nat) (fi : Nat → Nat → Int32) (fl : Nat → Nat → Int64) (vi : Nat → Int32) (vl : Nat → Int64) : va_W := [((a 0), .inr (2, [.ref (ex 0), .int (vi 1), .int (vi 2), .int (vi 3), .int (vi 4), .int (vi 5), .int (vi 6), .ref (a 2), .ref (ex 1), .ref (ex 2), .ref (a 1), .ref (ex 3), .ref (ex 4), .ref (ex 5), .ref (ex 6)])), ((a 1), .inl (T 1, 9, .inl (fi 0))), ((a 2), .inl (T 1, 9, .inl (fi 1)))]
set_option maxHeartbeats 8000000 in
set_option maxRecDepth 100000 in
theorem c_X2_loseName (l : Launch) (D : va_G) (T : Nat → ClassId) (a ex : Nat → Nat) (fi : Nat → Nat → Int32) (fl : Nat → Nat → Int64) (vi : Nat → Int32) (vl : Nat → Int64) (sz : Nat) (hp0 : 0 ≤ (vi 0).toInt ∧ (vi 0).toInt ≤ 8) (hp1 : 0 ≤ (vi 1).toInt ∧ (vi 1).toInt ≤ 200) (hp2 : 0 ≤ (vi 6).toInt ∧ (vi 6).toInt ≤ 9) (hp3 : rg (fi 0) 0 9 (-1) 8) (hp4 : rg (fi 1) 0 9 (-1) 8) (hp5 : 0 ≤ ((fi 0) (vi 0).toNatClampNeg).toInt) : Met l yX2_loseName (xw yX2_loseName cX2_loseName 2 none) ({ frames := 0, cells := 0, slots := 0, locals := 0 }) (xP D T [.ref (a 0), .int (vi 0)] sz (pre_X2_loseName T a ex fi fl vi vl)) (va_Qv (fun _ : Int32 => True) (xC D (va_A (pre_X2_loseName T a ex fi fl vi vl) sz) (fun fj fm vj vm => [((a 0), .inr (2, [.ref (ex 0), .int (vi 1), .int (vi 2), .int (vi 3), .int (vi 4), .int (vi 5), .int (vi 6), .ref (a 2), .ref (ex 1), .ref (ex 2), .ref (a 1), .ref (ex 3), .ref (ex 4), .ref (ex 5), .ref (ex 6)])), ((a 1), .inl (T 1, 9, .inl (fj 1))), ((a 2), .inl (T 1, 9, .inl (fj 0)))]) (fun (r : Int32) (fj : Nat → Nat → Int32) (fm : Nat → Nat → Int64) (vj : Nat → Int32) (vm : Nat → Int64) => rg (fj 1) 0 9 (-1) 8 ∧ rg (fj 0) 0 9 (-1) 8 ∧ True)) (va_A (pre_X2_loseName T a ex fi fl vi vl) sz)) 0 0 (va_A (pre_X2_loseName T a ex fi fl vi vl) sz) := by
  refine xofW (cc := cX2_loseName) (maxL := 2) (ret := none) (by decide) rfl ?_
  intro p e s m args below meth c s₁ R Q hR hQ B hml hv
  obtain ⟨rfl, hsz, hP, hK, hD0⟩ := hv
  have hx := B.exec
  have hb := B.bytes
  have hr := B.returns
  have hts := atoms_spec (ws := xw yX2_loseName cX2_loseName 2 none) B.pre
  have htg : ∀ w ∈ xg, w.before _ s = true := fun w h => hts w (List.mem_cons_of_mem _ h)
  have hown : s.vm.findClass RX2 = some m.cls := findClass_of_methodNamed B.named
  have hlocks := B.notSynchronized
  subst hsz
  have hD := hD0.self (sz := s.heap.size)
  generalize hAe : va_A (pre_X2_loseName T a ex fi fl vi vl) s.heap.size = A at hD hQ
  have hA : ∀ q : Nat, s.heap.size ≤ q → A q := fun q h => by rw [← hAe]; exact Or.inr h
  have hS : va_S A s.heap s.heap [] := va_S.rf
  replace hP : va_P D vwCl [((a 0), .inr (2, [.ref (ex 0), .int (vi 1), .int (vi 2), .int (vi 3), .int (vi 4), .int (vi 5), .int (vi 6), .ref (a 2), .ref (ex 1), .ref (ex 2), .ref (a 1), .ref (ex 3), .ref (ex 4), .ref (ex 5), .ref (ex 6)])), ((a 1), .inl (T 1, 9, .inl (fi 0))), ((a 2), .inl (T 1, 9, .inl (fi 1)))] s.heap := hP
  replace hD : va_D A [((a 0), .inr (2, [.ref (ex 0), .int (vi 1), .int (vi 2), .int (vi 3), .int (vi 4), .int (vi 5), .int (vi 6), .ref (a 2), .ref (ex 1), .ref (ex 2), .ref (a 1), .ref (ex 3), .ref (ex 4), .ref (ex 5), .ref (ex 6)])), ((a 1), .inl (T 1, 9, .inl (fi 0))), ((a 2), .inl (T 1, 9, .inl (fi 1)))] := hD
  have hl := lv_entry ([.ref (a 0), .int (vi 0)]) (n := 2) (Nat.le_of_ble_eq_true rfl)
  rw [lg_entry_eq]
  generalize (lg_sl ([.ref (a 0), .int (vi 0)]) ++ List.replicate (2 - (lg_sl ([.ref (a 0), .int (vi 0)])).length) Slot.unset).toArray = ls at hl ⊢
  replace hl : lv_has ls 2 [(0, .ref (a 0)), (1, .int (vi 0))] := hl
  refine lv_aload_n hx hb dX2_loseName_0 rfl (lv_at hl 0 rfl) ?_
  refine va_get (D := D) (ci := 2) (v := .ref (a 2)) (C := RX2) (T := TX2) (N := 15) hx hb htg inX2 hown hK.1 hP 0 rfl rfl 7 (by decide) (htg _ kw_260) (fun _ h9 => h9) rfl dX2_loseName_1 ?_
  refine lv_aload_n hx hb dX2_loseName_4 rfl (lv_at hl 0 rfl) ?_
  refine va_get (D := D) (ci := 2) (v := .ref (a 1)) (C := RX2) (T := TX2) (N := 15) hx hb htg inX2 hown hK.1 hP 0 rfl rfl 10 (by decide) (htg _ kw_267) (fun _ h9 => h9) rfl dX2_loseName_5 ?_
  refine lv_iload_n hx hb dX2_loseName_8 rfl (lv_at hl 1 rfl) ?_
  refine va_iald hx hb hK.1 hP 1 1 rfl rfl (vp_in_iff.mpr (by omega)) dX2_loseName_9 ?_
  have hv := rg_at hp3 (i := (vi 0)) (by omega) (by omega)
  refine lv_iconst (v := (-1)) hx hb dX2_loseName_10 (by decide) ?_
  refine va_iast hx hb hK.1 hP hD hS 2 1 rfl rfl (vp_in_iff.mpr (by omega)) dX2_loseName_11 (fun H locs hP hD hS => ?_)
  obtain ⟨f11, ef11, hP, hD⟩ : ∃ f7 : Nat → Int32, f7 = upd (fi 1) ((fi 0) (vi 0).toNatClampNeg).toNatClampNeg ((-1) : Int32) ∧ va_P D vwCl [((a 0), .inr (2, [.ref (ex 0), .int (vi 1), .int (vi 2), .int (vi 3), .int (vi 4), .int (vi 5), .int (vi 6), .ref (a 2), .ref (ex 1), .ref (ex 2), .ref (a 1), .ref (ex 3), .ref (ex 4), .ref (ex 5), .ref (ex 6)])), ((a 1), .inl (T 1, 9, .inl (fi 0))), ((a 2), .inl (T 1, 9, .inl f7))] H ∧ va_D A [((a 0), .inr (2, [.ref (ex 0), .int (vi 1), .int (vi 2), .int (vi 3), .int (vi 4), .int (vi 5), .int (vi 6), .ref (a 2), .ref (ex 1), .ref (ex 2), .ref (a 1), .ref (ex 3), .ref (ex 4), .ref (ex 5), .ref (ex 6)])), ((a 1), .inl (T 1, 9, .inl (fi 0))), ((a 2), .inl (T 1, 9, .inl f7))] := ⟨_, rfl, hP, hD⟩
  have hr11 : rg f11 0 9 (-1) 8 := by rw [ef11]; exact rg_upd hp4 (by decide)
  refine lv_aload_n hx hb dX2_loseName_12 rfl (lv_at hl 0 rfl) ?_
  refine va_get (D := D) (ci := 2) (v := .ref (a 1)) (C := RX2) (T := TX2) (N := 15) hx hb htg inX2 hown hK.1 hP 0 rfl rfl 10 (by decide) (htg _ kw_267) (fun _ h9 => h9) rfl dX2_loseName_13 ?_
  refine lv_iload_n hx hb dX2_loseName_16 rfl (lv_at hl 1 rfl) ?_
  refine lv_iconst (v := (-1)) hx hb dX2_loseName_17 (by decide) ?_
  refine va_iast hx hb hK.1 hP hD hS 1 1 rfl rfl (vp_in_iff.mpr (by omega)) dX2_loseName_18 (fun H locs hP hD hS => ?_)
  obtain ⟨f18, ef18, hP, hD⟩ : ∃ f7 : Nat → Int32, f7 = upd (fi 0) (vi 0).toNatClampNeg ((-1) : Int32) ∧ va_P D vwCl [((a 0), .inr (2, [.ref (ex 0), .int (vi 1), .int (vi 2), .int (vi 3), .int (vi 4), .int (vi 5), .int (vi 6), .ref (a 2), .ref (ex 1), .ref (ex 2), .ref (a 1), .ref (ex 3), .ref (ex 4), .ref (ex 5), .ref (ex 6)])), ((a 1), .inl (T 1, 9, .inl f7)), ((a 2), .inl (T 1, 9, .inl f11))] H ∧ va_D A [((a 0), .inr (2, [.ref (ex 0), .int (vi 1), .int (vi 2), .int (vi 3), .int (vi 4), .int (vi 5), .int (vi 6), .ref (a 2), .ref (ex 1), .ref (ex 2), .ref (a 1), .ref (ex 3), .ref (ex 4), .ref (ex 5), .ref (ex 6)])), ((a 1), .inl (T 1, 9, .inl f7)), ((a 2), .inl (T 1, 9, .inl f11))] := ⟨_, rfl, hP, hD⟩
  have hr18 : rg f18 0 9 (-1) 8 := by rw [ef18]; exact rg_upd hp3 (by decide)
  have hP9 := hP.sub (ws' := [((a 0), .inr (2, [.ref (ex 0), .int (vi 1), .int (vi 2), .int (vi 3), .int (vi 4), .int (vi 5), .int (vi 6), .ref (a 2), .ref (ex 1), .ref (ex 2), .ref (a 1), .ref (ex 3), .ref (ex 4), .ref (ex 5), .ref (ex 6)])), ((a 1), .inl (T 1, 9, .inl f18)), ((a 2), .inl (T 1, 9, .inl f11))]) [0, 1, 2] rfl
  have hD9 := hD.sub (ws' := [((a 0), .inr (2, [.ref (ex 0), .int (vi 1), .int (vi 2), .int (vi 3), .int (vi 4), .int (vi 5), .int (vi 6), .ref (a 2), .ref (ex 1), .ref (ex 2), .ref (a 1), .ref (ex 3), .ref (ex 4), .ref (ex 5), .ref (ex 6)])), ((a 1), .inl (T 1, 9, .inl f18)), ((a 2), .inl (T 1, 9, .inl f11))]) [0, 1, 2] (by decide +kernel) rfl
  rw [hQ]
  exact W.vret hx hb hr (fun t ht hW => ⟨⟨(0 : Int32), rfl, trivial, xf [f11, f18], xh [], xv [], xl [], by rw [ht]; exact hP9, hD9, ⟨(show rg f18 0 9 (-1) 8 from hr18), (show rg f11 0 9 (-1) 8 from hr11), trivial⟩⟩, hS.F ht⟩) hS.2.2 dX2_loseName_19
