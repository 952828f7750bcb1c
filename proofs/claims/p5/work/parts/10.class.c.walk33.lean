abbrev pre_X5_addStep_2 (T : Nat → ClassId) (a ex : Nat → Nat) (fi : Nat → Nat → Int32) (fl : Nat → Nat → Int64) (vi : Nat → Int32) (vl : Nat → Int64) : va_W := [((a 0), .inr (5, [.ref (a 4), .ref (ex 0), .ref (a 1), .ref (a 2), .ref (a 3), .ref (ex 1), .int (vi 2), .int (vi 3)])), ((a 1), .inl (T 1, 40, .inl (fi 0))), ((a 2), .inl (T 1, 40, .inl (fi 1))), ((a 3), .inl (T 1, 40, .inl (fi 2))), ((a 4), .inr (6, [.ref (ex 2), .ref (ex 3), .int (vi 4), .int (vi 5), .int (vi 6), .int (vi 7), .int (vi 8), .int (vi 9), .long (vl 0), .int (vi 10), .int (vi 11), .int (vi 12), .int (vi 13), .int (vi 14)]))]
set_option maxHeartbeats 8000000 in
set_option maxRecDepth 100000 in
theorem c_X5_addStep_2 (l : Launch) (D : va_G) (T : Nat → ClassId) (a ex : Nat → Nat) (fi : Nat → Nat → Int32) (fl : Nat → Nat → Int64) (vi : Nat → Int32) (vl : Nat → Int64) (sz : Nat) (hp0 : 0 ≤ (vi 2).toInt ∧ (vi 2).toInt ≤ 40) (hp1 : 0 ≤ (vi 3).toInt ∧ (vi 3).toInt ≤ 20) (hp2 : 0 ≤ (vi 5).toInt ∧ (vi 5).toInt ≤ 940) (hp3 : 0 ≤ (vi 6).toInt ∧ (vi 6).toInt ≤ 940) (hp4 : 0 ≤ (vi 7).toInt ∧ (vi 7).toInt ≤ 940) (hp5 : 0 ≤ (vi 9).toInt ∧ (vi 9).toInt ≤ 940) (hp6 : 0 ≤ (vi 14).toInt ∧ (vi 14).toInt ≤ 940) : Met l yX5_addStep (xw yX5_addStep cX5_addStep 4 (some .boolean)) ({ frames := 1, cells := 0, slots := 0, locals := 25 }) (xP D T [.ref (a 0), .int 1, .int (vi 0), .int (vi 1)] sz (pre_X5_addStep_2 T a ex fi fl vi vl)) (va_Qi (fun r u => r = u) (xC D (va_A (pre_X5_addStep_2 T a ex fi fl vi vl) sz) (fun fj fm vj vm => [((a 0), .inr (5, [.ref (a 4), .ref (ex 0), .ref (a 1), .ref (a 2), .ref (a 3), .ref (ex 1), .int (vj 0), .int (vi 3)])), ((a 1), .inl (T 1, 40, .inl (fj 0))), ((a 2), .inl (T 1, 40, .inl (fj 1))), ((a 3), .inl (T 1, 40, .inl (fj 2))), ((a 4), .inr (6, [.ref (ex 2), .ref (ex 3), .int (vi 4), .int (vi 5), .int (vi 6), .int (vi 7), .int (vi 8), .int (vi 9), .long (vl 0), .int (vi 10), .int (vi 11), .int (vi 12), .int (vj 1), .int (vj 2)]))]) (fun (r : Int32) (fj : Nat → Nat → Int32) (fm : Nat → Nat → Int64) (vj : Nat → Int32) (vm : Nat → Int64) => ((r = 1 ∧ ((vi 2).toInt < 40 ∧ (vj 0).toInt = (vi 2).toInt + 1)) ∨ (r = 0 ∧ (40 ≤ (vi 2).toInt))) ∧ (0 ≤ (vj 0).toInt ∧ (vj 0).toInt ≤ 40) ∧ (0 ≤ (vj 2).toInt ∧ (vj 2).toInt ≤ 940) ∧ (r.toInt = 1 → (vj 1).toInt = (vi 13).toInt) ∧ True)) (va_A (pre_X5_addStep_2 T a ex fi fl vi vl) sz)) 0 0 (va_A (pre_X5_addStep_2 T a ex fi fl vi vl) sz) := by
  refine xofW (cc := cX5_addStep) (maxL := 4) (ret := (some .boolean)) (by decide) rfl ?_
  intro p e s m args below meth c s₁ R Q hR hQ B hml hv
  obtain ⟨rfl, hsz, hP, hK, hD0⟩ := hv
  have hx := B.exec
  have hb := B.bytes
  have hr := B.returns
  have hts := atoms_spec (ws := xw yX5_addStep cX5_addStep 4 (some .boolean)) B.pre
  have htg : ∀ w ∈ xg, w.before _ s = true := fun w h => hts w (List.mem_cons_of_mem _ h)
  have hown : s.vm.findClass RX5 = some m.cls := findClass_of_methodNamed B.named
  have hlocks := B.notSynchronized
  subst hsz
  have hD := hD0.self (sz := s.heap.size)
  generalize hAe : va_A (pre_X5_addStep_2 T a ex fi fl vi vl) s.heap.size = A at hD hQ
  have hA : ∀ q : Nat, s.heap.size ≤ q → A q := fun q h => by rw [← hAe]; exact Or.inr h
  have hS : va_S A s.heap s.heap [] := va_S.rf
  replace hP : va_P D vwCl [((a 0), .inr (5, [.ref (a 4), .ref (ex 0), .ref (a 1), .ref (a 2), .ref (a 3), .ref (ex 1), .int (vi 2), .int (vi 3)])), ((a 1), .inl (T 1, 40, .inl (fi 0))), ((a 2), .inl (T 1, 40, .inl (fi 1))), ((a 3), .inl (T 1, 40, .inl (fi 2))), ((a 4), .inr (6, [.ref (ex 2), .ref (ex 3), .int (vi 4), .int (vi 5), .int (vi 6), .int (vi 7), .int (vi 8), .int (vi 9), .long (vl 0), .int (vi 10), .int (vi 11), .int (vi 12), .int (vi 13), .int (vi 14)]))] s.heap := hP
  replace hD : va_D A [((a 0), .inr (5, [.ref (a 4), .ref (ex 0), .ref (a 1), .ref (a 2), .ref (a 3), .ref (ex 1), .int (vi 2), .int (vi 3)])), ((a 1), .inl (T 1, 40, .inl (fi 0))), ((a 2), .inl (T 1, 40, .inl (fi 1))), ((a 3), .inl (T 1, 40, .inl (fi 2))), ((a 4), .inr (6, [.ref (ex 2), .ref (ex 3), .int (vi 4), .int (vi 5), .int (vi 6), .int (vi 7), .int (vi 8), .int (vi 9), .long (vl 0), .int (vi 10), .int (vi 11), .int (vi 12), .int (vi 13), .int (vi 14)]))] := hD
  have hl := lv_entry ([.ref (a 0), .int 1, .int (vi 0), .int (vi 1)]) (n := 4) (Nat.le_of_ble_eq_true rfl)
  rw [lg_entry_eq]
  generalize (lg_sl ([.ref (a 0), .int 1, .int (vi 0), .int (vi 1)]) ++ List.replicate (4 - (lg_sl ([.ref (a 0), .int 1, .int (vi 0), .int (vi 1)])).length) Slot.unset).toArray = ls at hl ⊢
  replace hl : lv_has ls 4 [(0, .ref (a 0)), (1, .int 1), (2, .int (vi 0)), (3, .int (vi 1))] := hl
  refine lv_aload_n hx hb dX5_addStep_0 rfl (lv_at hl 0 rfl) ?_
  refine va_get (D := D) (ci := 5) (v := .int (vi 2)) (C := RX5) (T := TX5) (N := 8) hx hb htg inX5 hown hK.1 hP 0 rfl rfl 6 (by decide) (htg _ kw_390) (fun _ h9 => h9) rfl dX5_addStep_1 ?_
  refine lv_bipush (v := 40) hx hb dX5_addStep_4 (by decide) ?_
  refine lv_icmp_lt (tgt := 18) hx hb dX5_addStep_6 (by decide) (fun c6 => ?_) (fun c6 => ?_)
  · have c6 := xlt (k := 40) (by decide) c6
    refine lv_aload_n hx hb dX5_addStep_18 rfl (lv_at hl 0 rfl) ?_
    refine va_get (D := D) (ci := 5) (v := .ref (a 1)) (C := RX5) (T := TX5) (N := 8) hx hb htg inX5 hown hK.1 hP 0 rfl rfl 2 (by decide) (htg _ kw_386) (fun _ h9 => h9) rfl dX5_addStep_19 ?_
    refine lv_aload_n hx hb dX5_addStep_22 rfl (lv_at hl 0 rfl) ?_
    refine va_get (D := D) (ci := 5) (v := .int (vi 2)) (C := RX5) (T := TX5) (N := 8) hx hb htg inX5 hown hK.1 hP 0 rfl rfl 6 (by decide) (htg _ kw_390) (fun _ h9 => h9) rfl dX5_addStep_23 ?_
    refine lv_iload_n hx hb dX5_addStep_26 rfl (lv_at hl 1 rfl) ?_
    refine va_iast hx hb hK.1 hP hD hS 1 1 rfl rfl (vp_in_iff.mpr (by omega)) dX5_addStep_27 (fun H locs hP hD hS => ?_)
    obtain ⟨f27, ef27, hP, hD⟩ : ∃ f7 : Nat → Int32, f7 = upd (fi 0) (vi 2).toNatClampNeg (1 : Int32) ∧ va_P D vwCl [((a 0), .inr (5, [.ref (a 4), .ref (ex 0), .ref (a 1), .ref (a 2), .ref (a 3), .ref (ex 1), .int (vi 2), .int (vi 3)])), ((a 1), .inl (T 1, 40, .inl f7)), ((a 2), .inl (T 1, 40, .inl (fi 1))), ((a 3), .inl (T 1, 40, .inl (fi 2))), ((a 4), .inr (6, [.ref (ex 2), .ref (ex 3), .int (vi 4), .int (vi 5), .int (vi 6), .int (vi 7), .int (vi 8), .int (vi 9), .long (vl 0), .int (vi 10), .int (vi 11), .int (vi 12), .int (vi 13), .int (vi 14)]))] H ∧ va_D A [((a 0), .inr (5, [.ref (a 4), .ref (ex 0), .ref (a 1), .ref (a 2), .ref (a 3), .ref (ex 1), .int (vi 2), .int (vi 3)])), ((a 1), .inl (T 1, 40, .inl f7)), ((a 2), .inl (T 1, 40, .inl (fi 1))), ((a 3), .inl (T 1, 40, .inl (fi 2))), ((a 4), .inr (6, [.ref (ex 2), .ref (ex 3), .int (vi 4), .int (vi 5), .int (vi 6), .int (vi 7), .int (vi 8), .int (vi 9), .long (vl 0), .int (vi 10), .int (vi 11), .int (vi 12), .int (vi 13), .int (vi 14)]))] := ⟨_, rfl, hP, hD⟩
    refine lv_aload_n hx hb dX5_addStep_28 rfl (lv_at hl 0 rfl) ?_
    refine va_get (D := D) (ci := 5) (v := .ref (a 2)) (C := RX5) (T := TX5) (N := 8) hx hb htg inX5 hown hK.1 hP 0 rfl rfl 3 (by decide) (htg _ kw_387) (fun _ h9 => h9) rfl dX5_addStep_29 ?_
    refine lv_aload_n hx hb dX5_addStep_32 rfl (lv_at hl 0 rfl) ?_
    refine va_get (D := D) (ci := 5) (v := .int (vi 2)) (C := RX5) (T := TX5) (N := 8) hx hb htg inX5 hown hK.1 hP 0 rfl rfl 6 (by decide) (htg _ kw_390) (fun _ h9 => h9) rfl dX5_addStep_33 ?_
    refine lv_iload_n hx hb dX5_addStep_36 rfl (lv_at hl 2 rfl) ?_
    refine va_iast hx hb hK.1 hP hD hS 2 1 rfl rfl (vp_in_iff.mpr (by omega)) dX5_addStep_37 (fun H locs hP hD hS => ?_)
    obtain ⟨f37, ef37, hP, hD⟩ : ∃ f7 : Nat → Int32, f7 = upd (fi 1) (vi 2).toNatClampNeg ((vi 0) : Int32) ∧ va_P D vwCl [((a 0), .inr (5, [.ref (a 4), .ref (ex 0), .ref (a 1), .ref (a 2), .ref (a 3), .ref (ex 1), .int (vi 2), .int (vi 3)])), ((a 1), .inl (T 1, 40, .inl f27)), ((a 2), .inl (T 1, 40, .inl f7)), ((a 3), .inl (T 1, 40, .inl (fi 2))), ((a 4), .inr (6, [.ref (ex 2), .ref (ex 3), .int (vi 4), .int (vi 5), .int (vi 6), .int (vi 7), .int (vi 8), .int (vi 9), .long (vl 0), .int (vi 10), .int (vi 11), .int (vi 12), .int (vi 13), .int (vi 14)]))] H ∧ va_D A [((a 0), .inr (5, [.ref (a 4), .ref (ex 0), .ref (a 1), .ref (a 2), .ref (a 3), .ref (ex 1), .int (vi 2), .int (vi 3)])), ((a 1), .inl (T 1, 40, .inl f27)), ((a 2), .inl (T 1, 40, .inl f7)), ((a 3), .inl (T 1, 40, .inl (fi 2))), ((a 4), .inr (6, [.ref (ex 2), .ref (ex 3), .int (vi 4), .int (vi 5), .int (vi 6), .int (vi 7), .int (vi 8), .int (vi 9), .long (vl 0), .int (vi 10), .int (vi 11), .int (vi 12), .int (vi 13), .int (vi 14)]))] := ⟨_, rfl, hP, hD⟩
    refine lv_aload_n hx hb dX5_addStep_38 rfl (lv_at hl 0 rfl) ?_
    refine va_get (D := D) (ci := 5) (v := .ref (a 3)) (C := RX5) (T := TX5) (N := 8) hx hb htg inX5 hown hK.1 hP 0 rfl rfl 4 (by decide) (htg _ kw_388) (fun _ h9 => h9) rfl dX5_addStep_39 ?_
    refine lv_aload_n hx hb dX5_addStep_42 rfl (lv_at hl 0 rfl) ?_
    refine va_get (D := D) (ci := 5) (v := .int (vi 2)) (C := RX5) (T := TX5) (N := 8) hx hb htg inX5 hown hK.1 hP 0 rfl rfl 6 (by decide) (htg _ kw_390) (fun _ h9 => h9) rfl dX5_addStep_43 ?_
    refine lv_iload_n hx hb dX5_addStep_46 rfl (lv_at hl 3 rfl) ?_
    refine va_iast hx hb hK.1 hP hD hS 3 1 rfl rfl (vp_in_iff.mpr (by omega)) dX5_addStep_47 (fun H locs hP hD hS => ?_)
    obtain ⟨f47, ef47, hP, hD⟩ : ∃ f7 : Nat → Int32, f7 = upd (fi 2) (vi 2).toNatClampNeg ((vi 1) : Int32) ∧ va_P D vwCl [((a 0), .inr (5, [.ref (a 4), .ref (ex 0), .ref (a 1), .ref (a 2), .ref (a 3), .ref (ex 1), .int (vi 2), .int (vi 3)])), ((a 1), .inl (T 1, 40, .inl f27)), ((a 2), .inl (T 1, 40, .inl f37)), ((a 3), .inl (T 1, 40, .inl f7)), ((a 4), .inr (6, [.ref (ex 2), .ref (ex 3), .int (vi 4), .int (vi 5), .int (vi 6), .int (vi 7), .int (vi 8), .int (vi 9), .long (vl 0), .int (vi 10), .int (vi 11), .int (vi 12), .int (vi 13), .int (vi 14)]))] H ∧ va_D A [((a 0), .inr (5, [.ref (a 4), .ref (ex 0), .ref (a 1), .ref (a 2), .ref (a 3), .ref (ex 1), .int (vi 2), .int (vi 3)])), ((a 1), .inl (T 1, 40, .inl f27)), ((a 2), .inl (T 1, 40, .inl f37)), ((a 3), .inl (T 1, 40, .inl f7)), ((a 4), .inr (6, [.ref (ex 2), .ref (ex 3), .int (vi 4), .int (vi 5), .int (vi 6), .int (vi 7), .int (vi 8), .int (vi 9), .long (vl 0), .int (vi 10), .int (vi 11), .int (vi 12), .int (vi 13), .int (vi 14)]))] := ⟨_, rfl, hP, hD⟩
    refine lv_aload_n hx hb dX5_addStep_48 rfl (lv_at hl 0 rfl) ?_
    refine lv_dup hx hb dX5_addStep_49 rfl ?_
    refine va_get (D := D) (ci := 5) (v := .int (vi 2)) (C := RX5) (T := TX5) (N := 8) hx hb htg inX5 hown hK.1 hP 0 rfl rfl 6 (by decide) (htg _ kw_390) (fun _ h9 => h9) rfl dX5_addStep_50 ?_
    refine lv_iconst (v := 1) hx hb dX5_addStep_53 (by decide) ?_
    refine lv_iadd hx hb dX5_addStep_54 ?_
    refine lv_topi (fun z54 ez54 => ?_)
    have tz54 : z54.toInt = (vi 2).toInt + 1 := by rw [ez54]; exact xadd rfl (by decide) (by omega) (by omega)
    refine va_put (D := D) (ci := 5) (v := .int z54) (ty := .int) (C := RX5) (T := TX5) (N := 8) hx hb htg inX5 tyX5 tyX5_ok nmX5 hown hK.1 hP hD hS 0 rfl rfl 6 (by decide) (htg _ kw_390) (fun _ h9 => h9) rfl (by decide +kernel) rfl rfl (Nat.le_of_ble_eq_true rfl) dX5_addStep_55 (fun H locs hP hD hS => ?_)
    obtain ⟨hP, hD⟩ := (show xPD D A [((a 0), .inr (5, [.ref (a 4), .ref (ex 0), .ref (a 1), .ref (a 2), .ref (a 3), .ref (ex 1), .int z54, .int (vi 3)])), ((a 1), .inl (T 1, 40, .inl f27)), ((a 2), .inl (T 1, 40, .inl f37)), ((a 3), .inl (T 1, 40, .inl f47)), ((a 4), .inr (6, [.ref (ex 2), .ref (ex 3), .int (vi 4), .int (vi 5), .int (vi 6), .int (vi 7), .int (vi 8), .int (vi 9), .long (vl 0), .int (vi 10), .int (vi 11), .int (vi 12), .int (vi 13), .int (vi 14)]))] H from ⟨hP, hD⟩)
    refine lv_iconst (v := 1) hx hb dX5_addStep_58 (by decide) ?_
    have hP9 := hP.sub (ws' := [((a 0), .inr (5, [.ref (a 4), .ref (ex 0), .ref (a 1), .ref (a 2), .ref (a 3), .ref (ex 1), .int z54, .int (vi 3)])), ((a 1), .inl (T 1, 40, .inl f27)), ((a 2), .inl (T 1, 40, .inl f37)), ((a 3), .inl (T 1, 40, .inl f47)), ((a 4), .inr (6, [.ref (ex 2), .ref (ex 3), .int (vi 4), .int (vi 5), .int (vi 6), .int (vi 7), .int (vi 8), .int (vi 9), .long (vl 0), .int (vi 10), .int (vi 11), .int (vi 12), .int (vi 13), .int (vi 14)]))]) [0, 1, 2, 3, 4] rfl
    have hD9 := hD.sub (ws' := [((a 0), .inr (5, [.ref (a 4), .ref (ex 0), .ref (a 1), .ref (a 2), .ref (a 3), .ref (ex 1), .int z54, .int (vi 3)])), ((a 1), .inl (T 1, 40, .inl f27)), ((a 2), .inl (T 1, 40, .inl f37)), ((a 3), .inl (T 1, 40, .inl f47)), ((a 4), .inr (6, [.ref (ex 2), .ref (ex 3), .int (vi 4), .int (vi 5), .int (vi 6), .int (vi 7), .int (vi 8), .int (vi 9), .long (vl 0), .int (vi 10), .int (vi 11), .int (vi 12), .int (vi 13), .int (vi 14)]))]) [0, 1, 2, 3, 4] (by decide +kernel) rfl
    rw [hQ]
    exact W.zret (v := 1) hx hb hr rfl (fun t ht hW => ⟨⟨1, 1, rfl, rfl, xf [f27, f37, f47], xh [], xv [z54, (vi 13), (vi 14)], xl [], by rw [ht]; exact hP9, hD9, ⟨(Or.inl ⟨rfl, by show (vi 2).toInt < 40 ∧ (z54).toInt = (vi 2).toInt + 1; first | trivial | omega | assumption⟩), (by show 0 ≤ z54.toInt ∧ z54.toInt ≤ 40; omega), hp6, (by show (1 : Int32).toInt = 1 → (vi 13).toInt = (vi 13).toInt; have k9_0 : (1 : Int32).toInt = 1 := (by decide); exact fun _ => rfl), trivial⟩⟩, hS.F ht⟩) hS.2.2 dX5_addStep_59
  · have c6 := xnlt (k := 40) (by decide) c6
    refine lv_aload_n hx hb dX5_addStep_9 rfl (lv_at hl 0 rfl) ?_
    refine va_get (D := D) (ci := 5) (v := .ref (a 4)) (C := RX5) (T := TX5) (N := 8) hx hb htg inX5 hown hK.1 hP 0 rfl rfl 0 (by decide) (htg _ kw_384) (fun _ h9 => h9) rfl dX5_addStep_10 ?_
    refine lv_iconst (v := 4) hx hb dX5_addStep_13 (by decide) ?_
    obtain ⟨hC9, hPc, hDc, hFc⟩ := xcut (wc := (pre_X6_refuse T (xa [(a 4)]) (xa [(ex 2), (ex 3)]) (xf []) (xh []) (xv [4, (vi 4), (vi 5), (vi 6), (vi 7), (vi 8), (vi 9), (vi 10), (vi 11), (vi 12), (vi 13), (vi 14)]) (xl [(vl 0)]))) hP hD hS hA [4] (by decide) rfl
    refine va_calli (va_runVN (As := [.int 4]) (rest := []) ⟨hx, hb, hml, hown, htg⟩ (c_X6_refuse l D T (xa [(a 4)]) (xa [(ex 2), (ex 3)]) (xf []) (xh []) (xv [4, (vi 4), (vi 5), (vi 6), (vi 7), (vi 8), (vi 9), (vi 10), (vi 11), (vi 12), (vi 13), (vi 14)]) (xl [(vl 0)]) s.heap.size hp2 hp3 hp4 hp5 hp6) ⟨va_cnB 1 htg (xg_ok kw_594) rfl rfl rfl (hK.2.1 _ kn_1218) (htg _ kw_2) (by decide +kernel) ⟨by rw [hR]; exact Nat.le_of_ble_eq_true rfl, by rw [hR]; exact Nat.le_of_ble_eq_true rfl⟩, htg _ kw_593, htg _ ks_10⟩ (xpreV hK hPc hDc (va_recv hK.1 hPc (ci := 6) (q0 := 0) rfl rfl)) rfl rfl hl.1 rfl (lv_room (Nat.le_of_ble_eq_true rfl)) dX5_addStep_14 ⟨by rw [hR]; exact Nat.le_of_ble_eq_true rfl, by rw [hR]; exact Nat.le_of_ble_eq_true rfl⟩) hS (fun q _ h => hFc q h) hFc (fun r9 u9 t H1 locs ht hvm hw hB hz1 hk1 hS => ?_)
    subst hw
    obtain ⟨fik, flk, vik, vlk, hP1, hD1, hG⟩ := hB
    rw [ht] at hP1
    obtain ⟨hP, hD⟩ := va_join (wr := [((a 0), .inr (5, [.ref (a 4), .ref (ex 0), .ref (a 1), .ref (a 2), .ref (a 3), .ref (ex 1), .int (vi 2), .int (vi 3)])), ((a 1), .inl (T 1, 40, .inl (fi 0))), ((a 2), .inl (T 1, 40, .inl (fi 1))), ((a 3), .inl (T 1, 40, .inl (fi 2)))]) (w1 := [((a 4), .inr (6, [.ref (ex 2), .ref (ex 3), .int (vi 4), .int (vi 5), .int (vi 6), .int (vi 7), .int (vi 8), .int (vi 9), .long (vl 0), .int (vi 10), .int (vi 11), .int (vi 12), .int (vik 0), .int (vik 1)]))]) hP hD [4] [0, 1, 2, 3] hC9 rfl (by decide) (by decide) hk1 hFc hP1 hD1
    obtain ⟨rk, er9⟩ : ∃ z, z = r9 := ⟨_, rfl⟩
    subst er9
    clear hPc hDc hFc hP1 hD1 hk1 hz1 hvm ht hC9
    generalize H1 = H at hP hS ⊢
    obtain ⟨hP, hD⟩ := (show xPD D A [((a 0), .inr (5, [.ref (a 4), .ref (ex 0), .ref (a 1), .ref (a 2), .ref (a 3), .ref (ex 1), .int (vi 2), .int (vi 3)])), ((a 1), .inl (T 1, 40, .inl (fi 0))), ((a 2), .inl (T 1, 40, .inl (fi 1))), ((a 3), .inl (T 1, 40, .inl (fi 2))), ((a 4), .inr (6, [.ref (ex 2), .ref (ex 3), .int (vi 4), .int (vi 5), .int (vi 6), .int (vi 7), .int (vi 8), .int (vi 9), .long (vl 0), .int (vi 10), .int (vi 11), .int (vi 12), .int (vik 0), .int (vik 1)]))] H from ⟨hP, hD⟩)
    obtain ⟨gk_0, gk_1, gk_2, -⟩ := hG
    replace gk_1 : 0 ≤ (vik 1).toInt ∧ (vik 1).toInt ≤ 940 := gk_1
    replace gk_2 : (vik 0).toInt = (4 : Int32).toInt ∧ (vik 1).toInt = (vi 9).toInt := gk_2
    replace gk_0 : rk = 0 := gk_0
    refine xz_i 0 gk_0 ?_
    have hP9 := hP.sub (ws' := [((a 0), .inr (5, [.ref (a 4), .ref (ex 0), .ref (a 1), .ref (a 2), .ref (a 3), .ref (ex 1), .int (vi 2), .int (vi 3)])), ((a 1), .inl (T 1, 40, .inl (fi 0))), ((a 2), .inl (T 1, 40, .inl (fi 1))), ((a 3), .inl (T 1, 40, .inl (fi 2))), ((a 4), .inr (6, [.ref (ex 2), .ref (ex 3), .int (vi 4), .int (vi 5), .int (vi 6), .int (vi 7), .int (vi 8), .int (vi 9), .long (vl 0), .int (vi 10), .int (vi 11), .int (vi 12), .int (vik 0), .int (vik 1)]))]) [0, 1, 2, 3, 4] rfl
    have hD9 := hD.sub (ws' := [((a 0), .inr (5, [.ref (a 4), .ref (ex 0), .ref (a 1), .ref (a 2), .ref (a 3), .ref (ex 1), .int (vi 2), .int (vi 3)])), ((a 1), .inl (T 1, 40, .inl (fi 0))), ((a 2), .inl (T 1, 40, .inl (fi 1))), ((a 3), .inl (T 1, 40, .inl (fi 2))), ((a 4), .inr (6, [.ref (ex 2), .ref (ex 3), .int (vi 4), .int (vi 5), .int (vi 6), .int (vi 7), .int (vi 8), .int (vi 9), .long (vl 0), .int (vi 10), .int (vi 11), .int (vi 12), .int (vik 0), .int (vik 1)]))]) [0, 1, 2, 3, 4] (by decide +kernel) rfl
    rw [hQ]
    exact W.zret (v := 0) hx hb hr rfl (fun t ht hW => ⟨⟨0, 0, rfl, rfl, xf [(fi 0), (fi 1), (fi 2)], xh [], xv [(vi 2), (vik 0), (vik 1)], xl [], by rw [ht]; exact hP9, hD9, ⟨(Or.inr ⟨rfl, by show 40 ≤ (vi 2).toInt; first | trivial | omega | assumption⟩), hp0, gk_1, (by show (0 : Int32).toInt = 1 → (vik 0).toInt = (vi 13).toInt; have k9_0 : (0 : Int32).toInt = 0 := (by decide); exact fun h9 => absurd h9 (by decide)), trivial⟩⟩, hS.F ht⟩) hS.2.2 dX5_addStep_17
abbrev pre_X5_readAll_2 (T : Nat → ClassId) (a ex : Nat → Nat) (fi : Nat → Nat → Int32) (fl : Nat → Nat → Int64) (vi : Nat → Int32) (vl : Nat → Int64) : va_W := [((a 0), .inr (5, [.ref (a 1), .ref (a 4), .ref (a 6), .ref (a 7), .ref (a 8), .ref (ex 0), .int (vi 0), .int (vi 1)])), ((a 1), .inr (6, [.ref (a 2), .ref (a 3), .int (vi 2), .int (vi 3), .int (vi 4), .int (vi 5), .int (vi 6), .int (vi 7), .long (vl 0), .int (vi 8), .int (vi 9), .int (vi 10), .int (vi 11), .int (vi 12)])), ((a 2), .inl (T 0, 940, .inl (fi 0))), ((a 3), .inl (T 2, 27, .inr (.inl (fl 0)))), ((a 4), .inr (7, [.int (vi 13), .int (vi 14), .ref (a 5), .ref (ex 1), .ref (ex 2), .ref (ex 3), .ref (ex 4), .ref (ex 5), .ref (ex 6), .ref (ex 7), .ref (ex 8), .ref (ex 9)])), ((a 5), .inl (T 2, 9, .inr (.inl (fl 1)))), ((a 6), .inl (T 1, 40, .inl (fi 1))), ((a 7), .inl (T 1, 40, .inl (fi 2))), ((a 8), .inl (T 1, 40, .inl (fi 3)))]
set_option maxHeartbeats 8000000 in
set_option maxRecDepth 100000 in
theorem c_X5_readAll_2 (l : Launch) (D : va_G) (T : Nat → ClassId) (a ex : Nat → Nat) (fi : Nat → Nat → Int32) (fl : Nat → Nat → Int64) (vi : Nat → Int32) (vl : Nat → Int64) (kK kV : Nat → Nat) (sz : Nat) (hp0 : 0 ≤ (vi 0).toInt ∧ (vi 0).toInt ≤ 40) (hp1 : 0 ≤ (vi 1).toInt ∧ (vi 1).toInt ≤ 20) (hp2 : 0 ≤ (vi 3).toInt ∧ (vi 3).toInt ≤ 940) (hp3 : 0 ≤ (vi 4).toInt ∧ (vi 4).toInt ≤ 940) (hp4 : 0 ≤ (vi 5).toInt ∧ (vi 5).toInt ≤ 940) (hp5 : 0 ≤ (vi 7).toInt ∧ (vi 7).toInt ≤ 940) (hp6 : 0 ≤ (vi 12).toInt ∧ (vi 12).toInt ≤ 940) (hp7 : 0 ≤ (vi 13).toInt ∧ (vi 13).toInt ≤ 9) (hp8 : 0 ≤ (vi 14).toInt ∧ (vi 14).toInt ≤ 9) (hp9 : (vi 0).toInt ≤ 2 * (vi 1).toInt) : Met l yX5_readAll (xw yX5_readAll cX5_readAll 4 (some .boolean)) ({ frames := 7, cells := 0, slots := 0, locals := 181 }) (xPs D T kK kV [.ref (a 0), .int 9] sz (pre_X5_readAll_2 T a ex fi fl vi vl)) (va_Qi (fun r u => r = u) (xC D (va_A (pre_X5_readAll_2 T a ex fi fl vi vl) sz) (fun fj fm vj vm => [((a 0), .inr (5, [.ref (a 1), .ref (a 4), .ref (a 6), .ref (a 7), .ref (a 8), .ref (ex 0), .int (vj 7), .int (vi 1)])), ((a 1), .inr (6, [.ref (a 2), .ref (a 3), .int (vi 2), .int (vi 3), .int (vi 4), .int (vj 6), .int (vj 2), .int (vj 3), .long (vm 0), .int (vj 5), .int (vj 4), .int (vi 10), .int (vj 0), .int (vj 1)])), ((a 2), .inl (T 0, 940, .inl (fi 0))), ((a 3), .inl (T 2, 27, .inr (.inl (fl 0)))), ((a 4), .inr (7, [.int (vi 13), .int (vi 14), .ref (a 5), .ref (ex 1), .ref (ex 2), .ref (ex 3), .ref (ex 4), .ref (ex 5), .ref (ex 6), .ref (ex 7), .ref (ex 8), .ref (ex 9)])), ((a 5), .inl (T 2, 9, .inr (.inl (fl 1)))), ((a 6), .inl (T 1, 40, .inl (fj 0))), ((a 7), .inl (T 1, 40, .inl (fj 1))), ((a 8), .inl (T 1, 40, .inl (fj 2)))]) (fun (r : Int32) (fj : Nat → Nat → Int32) (fm : Nat → Nat → Int64) (vj : Nat → Int32) (vm : Nat → Int64) => ((r = 1 ∧ (True)) ∨ (r = 0 ∧ (True))) ∧ (0 ≤ (vj 7).toInt ∧ (vj 7).toInt ≤ 40) ∧ (0 ≤ (vj 6).toInt ∧ (vj 6).toInt ≤ 940) ∧ (0 ≤ (vj 3).toInt ∧ (vj 3).toInt ≤ 940) ∧ (0 ≤ (vj 1).toInt ∧ (vj 1).toInt ≤ 940) ∧ (r.toInt = 1 → (vi 1).toInt + 1 ≤ (vi 1).toInt ∧ (vj 7).toInt ≤ (vi 0).toInt + 2 * ((vi 1).toInt - (vi 1).toInt) - 1) ∧ (r.toInt = 1 → (vj 0).toInt = (vi 11).toInt) ∧ R_X5_readAll_2 fi fl vi vl r fj fm vj vm ∧ True)) (va_A (pre_X5_readAll_2 T a ex fi fl vi vl) sz)) 0 0 (va_A (pre_X5_readAll_2 T a ex fi fl vi vl) sz) := by
  refine xofW (cc := cX5_readAll) (maxL := 4) (ret := (some .boolean)) (by decide) rfl ?_
  intro p e s m args below meth c s₁ R Q hR hQ B hml hv
  obtain ⟨rfl, hsz, hP, hK, hD0, hT⟩ := hv
  have hx := B.exec
  have hb := B.bytes
  have hr := B.returns
  have hts := atoms_spec (ws := xw yX5_readAll cX5_readAll 4 (some .boolean)) B.pre
  have htg : ∀ w ∈ xg, w.before _ s = true := fun w h => hts w (List.mem_cons_of_mem _ h)
  have hown : s.vm.findClass RX5 = some m.cls := findClass_of_methodNamed B.named
  have hlocks := B.notSynchronized
  subst hsz
  have hD := hD0.self (sz := s.heap.size)
  generalize hAe : va_A (pre_X5_readAll_2 T a ex fi fl vi vl) s.heap.size = A at hD hQ hT
  have hA : ∀ q : Nat, s.heap.size ≤ q → A q := fun q h => by rw [← hAe]; exact Or.inr h
  have hS : va_S A s.heap s.heap [] := va_S.rf
  replace hP : va_P D vwCl [((a 0), .inr (5, [.ref (a 1), .ref (a 4), .ref (a 6), .ref (a 7), .ref (a 8), .ref (ex 0), .int (vi 0), .int (vi 1)])), ((a 1), .inr (6, [.ref (a 2), .ref (a 3), .int (vi 2), .int (vi 3), .int (vi 4), .int (vi 5), .int (vi 6), .int (vi 7), .long (vl 0), .int (vi 8), .int (vi 9), .int (vi 10), .int (vi 11), .int (vi 12)])), ((a 2), .inl (T 0, 940, .inl (fi 0))), ((a 3), .inl (T 2, 27, .inr (.inl (fl 0)))), ((a 4), .inr (7, [.int (vi 13), .int (vi 14), .ref (a 5), .ref (ex 1), .ref (ex 2), .ref (ex 3), .ref (ex 4), .ref (ex 5), .ref (ex 6), .ref (ex 7), .ref (ex 8), .ref (ex 9)])), ((a 5), .inl (T 2, 9, .inr (.inl (fl 1)))), ((a 6), .inl (T 1, 40, .inl (fi 1))), ((a 7), .inl (T 1, 40, .inl (fi 2))), ((a 8), .inl (T 1, 40, .inl (fi 3)))] s.heap := hP
  replace hD : va_D A [((a 0), .inr (5, [.ref (a 1), .ref (a 4), .ref (a 6), .ref (a 7), .ref (a 8), .ref (ex 0), .int (vi 0), .int (vi 1)])), ((a 1), .inr (6, [.ref (a 2), .ref (a 3), .int (vi 2), .int (vi 3), .int (vi 4), .int (vi 5), .int (vi 6), .int (vi 7), .long (vl 0), .int (vi 8), .int (vi 9), .int (vi 10), .int (vi 11), .int (vi 12)])), ((a 2), .inl (T 0, 940, .inl (fi 0))), ((a 3), .inl (T 2, 27, .inr (.inl (fl 0)))), ((a 4), .inr (7, [.int (vi 13), .int (vi 14), .ref (a 5), .ref (ex 1), .ref (ex 2), .ref (ex 3), .ref (ex 4), .ref (ex 5), .ref (ex 6), .ref (ex 7), .ref (ex 8), .ref (ex 9)])), ((a 5), .inl (T 2, 9, .inr (.inl (fl 1)))), ((a 6), .inl (T 1, 40, .inl (fi 1))), ((a 7), .inl (T 1, 40, .inl (fi 2))), ((a 8), .inl (T 1, 40, .inl (fi 3)))] := hD
  have hl := lv_entry ([.ref (a 0), .int 9]) (n := 4) (Nat.le_of_ble_eq_true rfl)
  rw [lg_entry_eq]
  generalize (lg_sl ([.ref (a 0), .int 9]) ++ List.replicate (4 - (lg_sl ([.ref (a 0), .int 9])).length) Slot.unset).toArray = ls at hl ⊢
  replace hl : lv_has ls 4 [(0, .ref (a 0)), (1, .int 9)] := hl
  refine lv_aload_n hx hb dX5_readAll_0 rfl (lv_at hl 0 rfl) ?_
  refine lv_iload_n hx hb dX5_readAll_1 rfl (lv_at hl 1 rfl) ?_
  obtain ⟨hC9, hPc, hDc, hFc⟩ := xcut (wc := (pre_X5_readOne_9 T (xa [(a 0), (a 1), (a 2), (a 3), (a 4), (a 5)]) (xa [(a 6), (a 7), (a 8), (ex 0), (ex 1), (ex 2), (ex 3), (ex 4), (ex 5), (ex 6), (ex 7), (ex 8), (ex 9)]) (xf [(fi 0)]) (xh [(fl 0), (fl 1)]) (xv [(vi 0), (vi 1), (vi 2), (vi 3), (vi 4), (vi 5), (vi 6), (vi 7), (vi 8), (vi 9), (vi 10), (vi 11), (vi 12), (vi 13), (vi 14)]) (xl [(vl 0)]))) hP hD hS hA [0, 1, 2, 3, 4, 5] (by decide) rfl
  refine va_calli (va_runV (As := [.int 9]) (rest := []) ⟨hx, hb, hml, hown, htg⟩ (c_X5_readOne_9 l D T (xa [(a 0), (a 1), (a 2), (a 3), (a 4), (a 5)]) (xa [(a 6), (a 7), (a 8), (ex 0), (ex 1), (ex 2), (ex 3), (ex 4), (ex 5), (ex 6), (ex 7), (ex 8), (ex 9)]) (xf [(fi 0)]) (xh [(fl 0), (fl 1)]) (xv [(vi 0), (vi 1), (vi 2), (vi 3), (vi 4), (vi 5), (vi 6), (vi 7), (vi 8), (vi 9), (vi 10), (vi 11), (vi 12), (vi 13), (vi 14)]) (xl [(vl 0)]) kK kV s.heap.size hp0 hp1 hp2 hp3 hp4 hp5 hp6 hp7 hp8 (by show (vi 0).toInt ≤ 2 * (vi 1).toInt; first | omega | assumption)) ⟨callB_of 1 htg (xg_ok kw_1201) rfl rfl rfl (htg _ kw_12) (htg _ kw_1198) (by decide +kernel) ⟨by rw [hR]; exact Nat.le_of_ble_eq_true rfl, by rw [hR]; exact Nat.le_of_ble_eq_true rfl⟩, htg _ kw_1200, htg _ ks_103⟩ (xpreVs hK hPc hDc hT hFc hS (va_recv hK.1 hPc (ci := 5) (q0 := 0) rfl rfl)) rfl rfl hl.1 rfl (lv_room (Nat.le_of_ble_eq_true rfl)) dX5_readAll_2 ⟨by rw [hR]; exact Nat.le_of_ble_eq_true rfl, by rw [hR]; exact Nat.le_of_ble_eq_true rfl⟩) hS (fun q _ h => hFc q h) hFc (fun r9 u9 t H1 locs ht hvm hw hB hz1 hk1 hS => ?_)
  subst hw
  obtain ⟨fik, flk, vik, vlk, hP1, hD1, hG⟩ := hB
  rw [ht] at hP1
  obtain ⟨hP, hD⟩ := va_join (wr := [((a 6), .inl (T 1, 40, .inl (fi 1))), ((a 7), .inl (T 1, 40, .inl (fi 2))), ((a 8), .inl (T 1, 40, .inl (fi 3)))]) (w1 := [((a 0), .inr (5, [.ref (a 1), .ref (a 4), .ref (a 6), .ref (a 7), .ref (a 8), .ref (ex 0), .int (vi 0), .int (vi 1)])), ((a 1), .inr (6, [.ref (a 2), .ref (a 3), .int (vi 2), .int (vi 3), .int (vi 4), .int (vi 5), .int (vi 6), .int (vi 7), .long (vl 0), .int (vi 8), .int (vi 9), .int (vi 10), .int (vik 0), .int (vik 1)])), ((a 2), .inl (T 0, 940, .inl (fi 0))), ((a 3), .inl (T 2, 27, .inr (.inl (fl 0)))), ((a 4), .inr (7, [.int (vi 13), .int (vi 14), .ref (a 5), .ref (ex 1), .ref (ex 2), .ref (ex 3), .ref (ex 4), .ref (ex 5), .ref (ex 6), .ref (ex 7), .ref (ex 8), .ref (ex 9)])), ((a 5), .inl (T 2, 9, .inr (.inl (fl 1))))]) hP hD [0, 1, 2, 3, 4, 5] [6, 7, 8] hC9 rfl (by decide) (by decide) hk1 hFc hP1 hD1
  obtain ⟨rk, er9⟩ : ∃ z, z = r9 := ⟨_, rfl⟩
  subst er9
  clear hPc hDc hFc hP1 hD1 hk1 hz1 hvm ht hC9
  generalize H1 = H at hP hS ⊢
  obtain ⟨hP, hD⟩ := (show xPD D A [((a 6), .inl (T 1, 40, .inl (fi 1))), ((a 7), .inl (T 1, 40, .inl (fi 2))), ((a 8), .inl (T 1, 40, .inl (fi 3))), ((a 0), .inr (5, [.ref (a 1), .ref (a 4), .ref (a 6), .ref (a 7), .ref (a 8), .ref (ex 0), .int (vi 0), .int (vi 1)])), ((a 1), .inr (6, [.ref (a 2), .ref (a 3), .int (vi 2), .int (vi 3), .int (vi 4), .int (vi 5), .int (vi 6), .int (vi 7), .long (vl 0), .int (vi 8), .int (vi 9), .int (vi 10), .int (vik 0), .int (vik 1)])), ((a 2), .inl (T 0, 940, .inl (fi 0))), ((a 3), .inl (T 2, 27, .inr (.inl (fl 0)))), ((a 4), .inr (7, [.int (vi 13), .int (vi 14), .ref (a 5), .ref (ex 1), .ref (ex 2), .ref (ex 3), .ref (ex 4), .ref (ex 5), .ref (ex 6), .ref (ex 7), .ref (ex 8), .ref (ex 9)])), ((a 5), .inl (T 2, 9, .inr (.inl (fl 1))))] H from ⟨hP, hD⟩)
  obtain ⟨gk_0, gk_1, gk_2, gk_3, gk_4, -⟩ := hG
  replace gk_4 : ∀ n m t : Nat, CC (trn (fi 0) n) n m t (vi 3) (vi 4) (vi 6) (vi 7) (vi 5) (vl 0) (vi 8) (vi 9) → ∀ σ : List Bool, σ.length + 1 = 9 → (rk.toInt = 1 ∧ ∃ t' : Nat, CC (trn (fi 0) n) n m t' (vi 3) (vi 4) (vi 6) (vi 7) (vi 5) (vl 0) (vi 8) (vi 9) ∧ gto n (SF (trn (fi 0) n) n m (ownB (fl 0)) (fl 1) (vi 13).toInt σ false (vi 1).toInt t) t (SF (trn (fi 0) n) n m (ownB (fl 0)) (fl 1) (vi 13).toInt (sps σ) true (vi 1).toInt t') t') ∨ (rk.toInt = 0 ∧ gfa n (SF (trn (fi 0) n) n m (ownB (fl 0)) (fl 1) (vi 13).toInt σ false (vi 1).toInt t) t (vik 0).toInt (vik 1).toInt) := (P_X5_readOne_9 gk_4 : _)
  replace gk_1 : 0 ≤ (vik 1).toInt ∧ (vik 1).toInt ≤ 940 := gk_1
  replace gk_2 : rk.toInt = 1 → (vi 1).toInt + 1 ≤ (vi 1).toInt ∧ (vi 0).toInt ≤ (vi 0).toInt + 2 * ((vi 1).toInt - (vi 1).toInt) - 1 := gk_2
  replace gk_3 : rk.toInt = 1 → (vik 0).toInt = (vi 11).toInt := gk_3
  rcases (show (rk = 1 ∧ (True)) ∨ (rk = 0 ∧ (True)) from gk_0) with ⟨er9, gk_0⟩ | ⟨er9, gk_0⟩
  · refine xz_i 1 er9 ?_
    have tb : rk.toInt = 1 := by rw [er9]; decide
    refine lv_istore_n (lv' := [(2, .int 1), (0, .ref (a 0)), (1, .int 9)]) hx hb dX5_readAll_5 rfl hl (by decide) rfl (fun ls hl => ?_)
    refine lv_iconst (v := 0) hx hb dX5_readAll_6 (by decide) ?_
    refine lv_istore_n (lv' := [(3, .int 0), (2, .int 1), (0, .ref (a 0)), (1, .int 9)]) hx hb dX5_readAll_7 rfl hl (by decide) rfl (fun ls hl => ?_)
    have lp : ∀ (kn : Nat) (w3 : Int32) (w2 : Int32) (wv : Int32) (wv_1 : Int32) (wv_2 : Int32) (wv_3 : Int32) (wv_4 : Int32) (wv_5 : Int64) (wv_6 : Int32) (wv_7 : Int32) (wf : Nat → Int32) (wf_1 : Nat → Int32) (wf_2 : Nat → Int32) (wv_8 : Int32) (H : Heap) (locs : List Loc) (ls : Array Slot), (0 ≤ w3.toInt ∧ w3.toInt ≤ 20) → (0 ≤ w2.toInt ∧ w2.toInt ≤ 1) → (0 ≤ wv_1.toInt ∧ wv_1.toInt ≤ 940) → (0 ≤ wv_3.toInt ∧ wv_3.toInt ≤ 940) → (0 ≤ wv_7.toInt ∧ wv_7.toInt ≤ 940) → (0 ≤ wv_8.toInt ∧ wv_8.toInt ≤ 40) → (∀ n m t : Nat, CC (trn (fi 0) n) n m t (vi 3) (vi 4) (vi 6) (vi 7) (vi 5) (vl 0) (vi 8) (vi 9) → ∀ σ : List Bool, σ.length + 1 = 9 → sps σ = σ → DJ (w2.toInt = 1 ∧ ∃ t' : Nat, CC (trn (fi 0) n) n m t' (vi 3) (vi 4) wv_2 wv_3 wv_7 wv_5 wv_6 wv_4 ∧ gto n (SF (trn (fi 0) n) n m (ownB (fl 0)) (fl 1) (vi 13).toInt σ false (vi 1).toInt t) t (SF (trn (fi 0) n) n m (ownB (fl 0)) (fl 1) (vi 13).toInt σ true (vi 1).toInt t') t') (w2.toInt = 0 ∧ gfa n (SF (trn (fi 0) n) n m (ownB (fl 0)) (fl 1) (vi 13).toInt σ false (vi 1).toInt t) t (wv).toInt (wv_1).toInt)) → (w2.toInt = 1 → (vi 1).toInt + 1 + w3.toInt ≤ (vi 1).toInt ∧ (wv_8).toInt ≤ (vi 0).toInt + 2 * ((vi 1).toInt - (vi 1).toInt) - 1) → (w2.toInt = 1 → (wv).toInt = (vi 11).toInt) → (2147483648 - w3.toInt).toNat = kn → va_P D vwCl [((a 6), .inl (T 1, 40, .inl wf)), ((a 7), .inl (T 1, 40, .inl wf_1)), ((a 8), .inl (T 1, 40, .inl wf_2)), ((a 0), .inr (5, [.ref (a 1), .ref (a 4), .ref (a 6), .ref (a 7), .ref (a 8), .ref (ex 0), .int wv_8, .int (vi 1)])), ((a 1), .inr (6, [.ref (a 2), .ref (a 3), .int (vi 2), .int (vi 3), .int (vi 4), .int wv_7, .int wv_2, .int wv_3, .long wv_5, .int wv_6, .int wv_4, .int (vi 10), .int wv, .int wv_1])), ((a 2), .inl (T 0, 940, .inl (fi 0))), ((a 3), .inl (T 2, 27, .inr (.inl (fl 0)))), ((a 4), .inr (7, [.int (vi 13), .int (vi 14), .ref (a 5), .ref (ex 1), .ref (ex 2), .ref (ex 3), .ref (ex 4), .ref (ex 5), .ref (ex 6), .ref (ex 7), .ref (ex 8), .ref (ex 9)])), ((a 5), .inl (T 2, 9, .inr (.inl (fl 1))))] H → va_D A [((a 6), .inl (T 1, 40, .inl wf)), ((a 7), .inl (T 1, 40, .inl wf_1)), ((a 8), .inl (T 1, 40, .inl wf_2)), ((a 0), .inr (5, [.ref (a 1), .ref (a 4), .ref (a 6), .ref (a 7), .ref (a 8), .ref (ex 0), .int wv_8, .int (vi 1)])), ((a 1), .inr (6, [.ref (a 2), .ref (a 3), .int (vi 2), .int (vi 3), .int (vi 4), .int wv_7, .int wv_2, .int wv_3, .long wv_5, .int wv_6, .int wv_4, .int (vi 10), .int wv, .int wv_1])), ((a 2), .inl (T 0, 940, .inl (fi 0))), ((a 3), .inl (T 2, 27, .inr (.inl (fl 0)))), ((a 4), .inr (7, [.int (vi 13), .int (vi 14), .ref (a 5), .ref (ex 1), .ref (ex 2), .ref (ex 3), .ref (ex 4), .ref (ex 5), .ref (ex 6), .ref (ex 7), .ref (ex 8), .ref (ex 9)])), ((a 5), .inl (T 2, 9, .inr (.inl (fl 1))))] → va_S A s.heap H locs → lv_has ls 4 [(3, .int w3), (2, .int w2), (0, .ref (a 0)), (1, .int 9)] → W p l e R s m ([.ref (a 0), .int 9] : List Value).toArray below meth c H locs 0 0 Q (F0 m 8 ls []) := by
      intro kn
      induction kn using Nat.strongRecOn with
      | _ kn ih =>
        intro w3 w2 wv wv_1 wv_2 wv_3 wv_4 wv_5 wv_6 wv_7 wf wf_1 wf_2 wv_8 H locs ls hi hi_1 hi_2 hi_3 hi_4 hi_5 hai9 hni9 hfj9 hm hP hD hS hl
        rcases (show w2.toInt = 0 ∨ w2.toInt = 1 by omega) with hbz | hbz
        · rw [xtoi (v := 0) (k := 0) (by decide) hbz] at hl
          refine lv_iload_n hx hb dX5_readAll_8 rfl (lv_at hl 0 rfl) ?_
          refine lv_bipush (v := 20) hx hb dX5_readAll_9 (by decide) ?_
          refine lv_icmp_ge (tgt := 67) hx hb dX5_readAll_11 (by decide) (fun c11 => ?_) (fun c11 => ?_)
          · have c11 := xge (k := 20) (by decide) c11
            refine lv_iload_n hx hb dX5_readAll_67 rfl (lv_at hl 1 rfl) ?_
            have hP9 := hP.sub (ws' := [((a 0), .inr (5, [.ref (a 1), .ref (a 4), .ref (a 6), .ref (a 7), .ref (a 8), .ref (ex 0), .int wv_8, .int (vi 1)])), ((a 1), .inr (6, [.ref (a 2), .ref (a 3), .int (vi 2), .int (vi 3), .int (vi 4), .int wv_7, .int wv_2, .int wv_3, .long wv_5, .int wv_6, .int wv_4, .int (vi 10), .int wv, .int wv_1])), ((a 2), .inl (T 0, 940, .inl (fi 0))), ((a 3), .inl (T 2, 27, .inr (.inl (fl 0)))), ((a 4), .inr (7, [.int (vi 13), .int (vi 14), .ref (a 5), .ref (ex 1), .ref (ex 2), .ref (ex 3), .ref (ex 4), .ref (ex 5), .ref (ex 6), .ref (ex 7), .ref (ex 8), .ref (ex 9)])), ((a 5), .inl (T 2, 9, .inr (.inl (fl 1)))), ((a 6), .inl (T 1, 40, .inl wf)), ((a 7), .inl (T 1, 40, .inl wf_1)), ((a 8), .inl (T 1, 40, .inl wf_2))]) [3, 4, 5, 6, 7, 8, 0, 1, 2] rfl
            have hD9 := hD.sub (ws' := [((a 0), .inr (5, [.ref (a 1), .ref (a 4), .ref (a 6), .ref (a 7), .ref (a 8), .ref (ex 0), .int wv_8, .int (vi 1)])), ((a 1), .inr (6, [.ref (a 2), .ref (a 3), .int (vi 2), .int (vi 3), .int (vi 4), .int wv_7, .int wv_2, .int wv_3, .long wv_5, .int wv_6, .int wv_4, .int (vi 10), .int wv, .int wv_1])), ((a 2), .inl (T 0, 940, .inl (fi 0))), ((a 3), .inl (T 2, 27, .inr (.inl (fl 0)))), ((a 4), .inr (7, [.int (vi 13), .int (vi 14), .ref (a 5), .ref (ex 1), .ref (ex 2), .ref (ex 3), .ref (ex 4), .ref (ex 5), .ref (ex 6), .ref (ex 7), .ref (ex 8), .ref (ex 9)])), ((a 5), .inl (T 2, 9, .inr (.inl (fl 1)))), ((a 6), .inl (T 1, 40, .inl wf)), ((a 7), .inl (T 1, 40, .inl wf_1)), ((a 8), .inl (T 1, 40, .inl wf_2))]) [3, 4, 5, 6, 7, 8, 0, 1, 2] (by decide +kernel) rfl
            rw [hQ]
            exact W.zret (v := 0) hx hb hr rfl (fun t ht hW => ⟨⟨0, 0, rfl, rfl, xf [wf, wf_1, wf_2], xh [], xv [wv, wv_1, wv_2, wv_3, wv_4, wv_6, wv_7, wv_8], xl [wv_5], by rw [ht]; exact hP9, hD9, ⟨(Or.inr ⟨rfl, by show True; first | trivial | omega | assumption⟩), hi_5, hi_4, hi_3, hi_2, (by show (0 : Int32).toInt = 1 → (vi 1).toInt + 1 ≤ (vi 1).toInt ∧ (wv_8).toInt ≤ (vi 0).toInt + 2 * ((vi 1).toInt - (vi 1).toInt) - 1; have k9_0 : (0 : Int32).toInt = 0 := (by decide); have k8 : (0 : Int32).toInt = 0 := (by decide); have k7 : (1 : Int32).toInt = 1 := (by decide); intro h9; exfalso; omega), (by show (0 : Int32).toInt = 1 → (wv).toInt = (vi 11).toInt; have k9_0 : (0 : Int32).toInt = 0 := (by decide); exact fun h9 => absurd h9 (by decide)), (by unfold R_X5_readAll_2; exact (fun Q9 k9_0 k9_1 k9_2 k9_3 k9_4 k9_5 k9_6 k9_7 => k9_0 hp0 hp1 hp2 hp3 hp4 hp5 hp6 hp7 hp8 hp9 fik flk vik vlk rk gk_1 gk_2 gk_3 gk_4 tb gk_0 w3 w2 wv wv_1 wv_2 wv_3 wv_4 wv_5 wv_6 wv_7 wf wf_1 wf_2 wv_8 hi hi_1 hi_2 hi_3 hi_4 hi_5 hai9 hni9 hfj9 hbz c11 rfl rfl rfl rfl rfl rfl rfl rfl rfl rfl rfl rfl rfl)), trivial⟩⟩, hS.F ht⟩) hS.2.2 dX5_readAll_68
          · have c11 := xnge (k := 20) (by decide) c11
            refine lv_iload_n hx hb dX5_readAll_14 rfl (lv_at hl 1 rfl) ?_
            refine lv_if_eq (tgt := 67) hx hb dX5_readAll_15 (by decide) (fun _ => ?_) (fun c => absurd (by decide) c)
            refine lv_iload_n hx hb dX5_readAll_67 rfl (lv_at hl 1 rfl) ?_
            have hP9 := hP.sub (ws' := [((a 0), .inr (5, [.ref (a 1), .ref (a 4), .ref (a 6), .ref (a 7), .ref (a 8), .ref (ex 0), .int wv_8, .int (vi 1)])), ((a 1), .inr (6, [.ref (a 2), .ref (a 3), .int (vi 2), .int (vi 3), .int (vi 4), .int wv_7, .int wv_2, .int wv_3, .long wv_5, .int wv_6, .int wv_4, .int (vi 10), .int wv, .int wv_1])), ((a 2), .inl (T 0, 940, .inl (fi 0))), ((a 3), .inl (T 2, 27, .inr (.inl (fl 0)))), ((a 4), .inr (7, [.int (vi 13), .int (vi 14), .ref (a 5), .ref (ex 1), .ref (ex 2), .ref (ex 3), .ref (ex 4), .ref (ex 5), .ref (ex 6), .ref (ex 7), .ref (ex 8), .ref (ex 9)])), ((a 5), .inl (T 2, 9, .inr (.inl (fl 1)))), ((a 6), .inl (T 1, 40, .inl wf)), ((a 7), .inl (T 1, 40, .inl wf_1)), ((a 8), .inl (T 1, 40, .inl wf_2))]) [3, 4, 5, 6, 7, 8, 0, 1, 2] rfl
            have hD9 := hD.sub (ws' := [((a 0), .inr (5, [.ref (a 1), .ref (a 4), .ref (a 6), .ref (a 7), .ref (a 8), .ref (ex 0), .int wv_8, .int (vi 1)])), ((a 1), .inr (6, [.ref (a 2), .ref (a 3), .int (vi 2), .int (vi 3), .int (vi 4), .int wv_7, .int wv_2, .int wv_3, .long wv_5, .int wv_6, .int wv_4, .int (vi 10), .int wv, .int wv_1])), ((a 2), .inl (T 0, 940, .inl (fi 0))), ((a 3), .inl (T 2, 27, .inr (.inl (fl 0)))), ((a 4), .inr (7, [.int (vi 13), .int (vi 14), .ref (a 5), .ref (ex 1), .ref (ex 2), .ref (ex 3), .ref (ex 4), .ref (ex 5), .ref (ex 6), .ref (ex 7), .ref (ex 8), .ref (ex 9)])), ((a 5), .inl (T 2, 9, .inr (.inl (fl 1)))), ((a 6), .inl (T 1, 40, .inl wf)), ((a 7), .inl (T 1, 40, .inl wf_1)), ((a 8), .inl (T 1, 40, .inl wf_2))]) [3, 4, 5, 6, 7, 8, 0, 1, 2] (by decide +kernel) rfl
            rw [hQ]
            exact W.zret (v := 0) hx hb hr rfl (fun t ht hW => ⟨⟨0, 0, rfl, rfl, xf [wf, wf_1, wf_2], xh [], xv [wv, wv_1, wv_2, wv_3, wv_4, wv_6, wv_7, wv_8], xl [wv_5], by rw [ht]; exact hP9, hD9, ⟨(Or.inr ⟨rfl, by show True; first | trivial | omega | assumption⟩), hi_5, hi_4, hi_3, hi_2, (by show (0 : Int32).toInt = 1 → (vi 1).toInt + 1 ≤ (vi 1).toInt ∧ (wv_8).toInt ≤ (vi 0).toInt + 2 * ((vi 1).toInt - (vi 1).toInt) - 1; have k9_0 : (0 : Int32).toInt = 0 := (by decide); have k8 : (0 : Int32).toInt = 0 := (by decide); have k7 : (1 : Int32).toInt = 1 := (by decide); intro h9; exfalso; omega), (by show (0 : Int32).toInt = 1 → (wv).toInt = (vi 11).toInt; have k9_0 : (0 : Int32).toInt = 0 := (by decide); exact fun h9 => absurd h9 (by decide)), (by unfold R_X5_readAll_2; exact (fun Q9 k9_0 k9_1 k9_2 k9_3 k9_4 k9_5 k9_6 k9_7 => k9_1 hp0 hp1 hp2 hp3 hp4 hp5 hp6 hp7 hp8 hp9 fik flk vik vlk rk gk_1 gk_2 gk_3 gk_4 tb gk_0 w3 w2 wv wv_1 wv_2 wv_3 wv_4 wv_5 wv_6 wv_7 wf wf_1 wf_2 wv_8 hi hi_1 hi_2 hi_3 hi_4 hi_5 hai9 hni9 hfj9 hbz c11 rfl rfl rfl rfl rfl rfl rfl rfl rfl rfl rfl rfl rfl)), trivial⟩⟩, hS.F ht⟩) hS.2.2 dX5_readAll_68
        · rw [xtoi (v := 1) (k := 1) (by decide) hbz] at hl
          refine lv_iload_n hx hb dX5_readAll_8 rfl (lv_at hl 0 rfl) ?_
          refine lv_bipush (v := 20) hx hb dX5_readAll_9 (by decide) ?_
          refine lv_icmp_ge (tgt := 67) hx hb dX5_readAll_11 (by decide) (fun c11_1 => ?_) (fun c11_1 => ?_)
          · have c11_1 := xge (k := 20) (by decide) c11_1
            refine lv_iload_n hx hb dX5_readAll_67 rfl (lv_at hl 1 rfl) ?_
            have hP9 := hP.sub (ws' := [((a 0), .inr (5, [.ref (a 1), .ref (a 4), .ref (a 6), .ref (a 7), .ref (a 8), .ref (ex 0), .int wv_8, .int (vi 1)])), ((a 1), .inr (6, [.ref (a 2), .ref (a 3), .int (vi 2), .int (vi 3), .int (vi 4), .int wv_7, .int wv_2, .int wv_3, .long wv_5, .int wv_6, .int wv_4, .int (vi 10), .int wv, .int wv_1])), ((a 2), .inl (T 0, 940, .inl (fi 0))), ((a 3), .inl (T 2, 27, .inr (.inl (fl 0)))), ((a 4), .inr (7, [.int (vi 13), .int (vi 14), .ref (a 5), .ref (ex 1), .ref (ex 2), .ref (ex 3), .ref (ex 4), .ref (ex 5), .ref (ex 6), .ref (ex 7), .ref (ex 8), .ref (ex 9)])), ((a 5), .inl (T 2, 9, .inr (.inl (fl 1)))), ((a 6), .inl (T 1, 40, .inl wf)), ((a 7), .inl (T 1, 40, .inl wf_1)), ((a 8), .inl (T 1, 40, .inl wf_2))]) [3, 4, 5, 6, 7, 8, 0, 1, 2] rfl
            have hD9 := hD.sub (ws' := [((a 0), .inr (5, [.ref (a 1), .ref (a 4), .ref (a 6), .ref (a 7), .ref (a 8), .ref (ex 0), .int wv_8, .int (vi 1)])), ((a 1), .inr (6, [.ref (a 2), .ref (a 3), .int (vi 2), .int (vi 3), .int (vi 4), .int wv_7, .int wv_2, .int wv_3, .long wv_5, .int wv_6, .int wv_4, .int (vi 10), .int wv, .int wv_1])), ((a 2), .inl (T 0, 940, .inl (fi 0))), ((a 3), .inl (T 2, 27, .inr (.inl (fl 0)))), ((a 4), .inr (7, [.int (vi 13), .int (vi 14), .ref (a 5), .ref (ex 1), .ref (ex 2), .ref (ex 3), .ref (ex 4), .ref (ex 5), .ref (ex 6), .ref (ex 7), .ref (ex 8), .ref (ex 9)])), ((a 5), .inl (T 2, 9, .inr (.inl (fl 1)))), ((a 6), .inl (T 1, 40, .inl wf)), ((a 7), .inl (T 1, 40, .inl wf_1)), ((a 8), .inl (T 1, 40, .inl wf_2))]) [3, 4, 5, 6, 7, 8, 0, 1, 2] (by decide +kernel) rfl
            rw [hQ]
            exact W.zret (v := 1) hx hb hr rfl (fun t ht hW => ⟨⟨1, 1, rfl, rfl, xf [wf, wf_1, wf_2], xh [], xv [wv, wv_1, wv_2, wv_3, wv_4, wv_6, wv_7, wv_8], xl [wv_5], by rw [ht]; exact hP9, hD9, ⟨(Or.inl ⟨rfl, by show True; first | trivial | omega | assumption⟩), hi_5, hi_4, hi_3, hi_2, (by show (1 : Int32).toInt = 1 → (vi 1).toInt + 1 ≤ (vi 1).toInt ∧ (wv_8).toInt ≤ (vi 0).toInt + 2 * ((vi 1).toInt - (vi 1).toInt) - 1; have k9_0 : (1 : Int32).toInt = 1 := (by decide); have k8 : (0 : Int32).toInt = 0 := (by decide); have k7 : (1 : Int32).toInt = 1 := (by decide); intro _; omega), (by show (1 : Int32).toInt = 1 → (wv).toInt = (vi 11).toInt; have k9_0 : (1 : Int32).toInt = 1 := (by decide); exact fun _ => (hfj9 hbz)), (by unfold R_X5_readAll_2; exact (fun Q9 k9_0 k9_1 k9_2 k9_3 k9_4 k9_5 k9_6 k9_7 => k9_2 hp0 hp1 hp2 hp3 hp4 hp5 hp6 hp7 hp8 hp9 fik flk vik vlk rk gk_1 gk_2 gk_3 gk_4 tb gk_0 w3 w2 wv wv_1 wv_2 wv_3 wv_4 wv_5 wv_6 wv_7 wf wf_1 wf_2 wv_8 hi hi_1 hi_2 hi_3 hi_4 hi_5 hai9 hni9 hfj9 hbz c11_1 rfl rfl rfl rfl rfl rfl rfl rfl rfl rfl rfl rfl rfl)), trivial⟩⟩, hS.F ht⟩) hS.2.2 dX5_readAll_68
          · have c11_1 := xnge (k := 20) (by decide) c11_1
            refine lv_iload_n hx hb dX5_readAll_14 rfl (lv_at hl 1 rfl) ?_
            refine lv_if_eq (tgt := 67) hx hb dX5_readAll_15 (by decide) (fun c => absurd c (by decide)) (fun _ => ?_)
            refine lv_aload_n hx hb dX5_readAll_18 rfl (lv_at hl 2 rfl) ?_
            refine va_get (D := D) (ci := 5) (v := .ref (a 1)) (C := RX5) (T := TX5) (N := 8) hx hb htg inX5 hown hK.1 hP 3 rfl rfl 0 (by decide) (htg _ kw_384) (fun _ h9 => h9) rfl dX5_readAll_19 ?_
            refine va_ldcS hx hb hown (hT.1 29 (by decide)) dX5_readAll_22 ?_
            obtain ⟨hC9, hPc, hDc, hFc⟩ := xcut (wc := (pre_X6_isWord_19 T (xa [(a 1)]) (xa [(a 2), (a 3)]) (xf []) (xh []) (xv [(vi 2), (vi 3), (vi 4), wv_7, wv_2, wv_3, wv_6, wv_4, (vi 10), wv, wv_1]) (xl [wv_5]))) hP hD hS hA [4] (by decide) rfl
            refine va_calli (va_runVN (As := [.ref (kK 29)]) (rest := []) ⟨hx, hb, hml, hown, htg⟩ (c_X6_isWord_19 l D T (xa [(a 1)]) (xa [(a 2), (a 3)]) (xf []) (xh []) (xv [(vi 2), (vi 3), (vi 4), wv_7, wv_2, wv_3, wv_6, wv_4, (vi 10), wv, wv_1]) (xl [wv_5]) kK kV H.size hp2 hp3 hi_4 hi_3 hi_2) ⟨va_cnB 1 htg (xg_ok kw_586) rfl rfl rfl (hK.2.1 _ kn_1207) (htg _ kw_2) (by decide +kernel) ⟨by rw [hR]; exact Nat.le_of_ble_eq_true rfl, by rw [hR]; exact Nat.le_of_ble_eq_true rfl⟩, htg _ kw_585, htg _ ks_8⟩ (xpreVs hK hPc hDc hT hFc hS (va_recv hK.1 hPc (ci := 6) (q0 := 0) rfl rfl)) rfl rfl hl.1 rfl (lv_room (Nat.le_of_ble_eq_true rfl)) dX5_readAll_24 ⟨by rw [hR]; exact Nat.le_of_ble_eq_true rfl, by rw [hR]; exact Nat.le_of_ble_eq_true rfl⟩) hS (fun q _ h => hFc q h) hFc (fun r9 u9 t H1 locs ht hvm hw hB hz1 hk1 hS => ?_)
            subst hw
            obtain ⟨fik_1, flk_1, vik_1, vlk_1, hP1, hD1, hG⟩ := hB
            rw [ht] at hP1
            obtain ⟨hP, hD⟩ := va_join (wr := [((a 6), .inl (T 1, 40, .inl wf)), ((a 7), .inl (T 1, 40, .inl wf_1)), ((a 8), .inl (T 1, 40, .inl wf_2)), ((a 0), .inr (5, [.ref (a 1), .ref (a 4), .ref (a 6), .ref (a 7), .ref (a 8), .ref (ex 0), .int wv_8, .int (vi 1)])), ((a 2), .inl (T 0, 940, .inl (fi 0))), ((a 3), .inl (T 2, 27, .inr (.inl (fl 0)))), ((a 4), .inr (7, [.int (vi 13), .int (vi 14), .ref (a 5), .ref (ex 1), .ref (ex 2), .ref (ex 3), .ref (ex 4), .ref (ex 5), .ref (ex 6), .ref (ex 7), .ref (ex 8), .ref (ex 9)])), ((a 5), .inl (T 2, 9, .inr (.inl (fl 1))))]) (w1 := [((a 1), .inr (6, [.ref (a 2), .ref (a 3), .int (vi 2), .int (vi 3), .int (vi 4), .int wv_7, .int wv_2, .int wv_3, .long wv_5, .int wv_6, .int wv_4, .int (vi 10), .int wv, .int wv_1]))]) hP hD [4] [0, 1, 2, 3, 5, 6, 7, 8] hC9 rfl (by decide) (by decide) hk1 hFc hP1 hD1
            obtain ⟨rk_1, er9⟩ : ∃ z, z = r9 := ⟨_, rfl⟩
            subst er9
            clear hPc hDc hFc hP1 hD1 hk1 hz1 hvm ht hC9
            generalize H1 = H at hP hS ⊢
            obtain ⟨hP, hD⟩ := (show xPD D A [((a 6), .inl (T 1, 40, .inl wf)), ((a 7), .inl (T 1, 40, .inl wf_1)), ((a 8), .inl (T 1, 40, .inl wf_2)), ((a 0), .inr (5, [.ref (a 1), .ref (a 4), .ref (a 6), .ref (a 7), .ref (a 8), .ref (ex 0), .int wv_8, .int (vi 1)])), ((a 2), .inl (T 0, 940, .inl (fi 0))), ((a 3), .inl (T 2, 27, .inr (.inl (fl 0)))), ((a 4), .inr (7, [.int (vi 13), .int (vi 14), .ref (a 5), .ref (ex 1), .ref (ex 2), .ref (ex 3), .ref (ex 4), .ref (ex 5), .ref (ex 6), .ref (ex 7), .ref (ex 8), .ref (ex 9)])), ((a 5), .inl (T 2, 9, .inr (.inl (fl 1)))), ((a 1), .inr (6, [.ref (a 2), .ref (a 3), .int (vi 2), .int (vi 3), .int (vi 4), .int wv_7, .int wv_2, .int wv_3, .long wv_5, .int wv_6, .int wv_4, .int (vi 10), .int wv, .int wv_1]))] H from ⟨hP, hD⟩)
            obtain ⟨gk_1_0, gk_1_1, -⟩ := hG
            replace gk_1_1 : DJ (rk_1.toInt = 1 ∧ (wv_2).toInt = 1 ∧ wv_5 = (6385252 : Int64)) (rk_1.toInt = 0 ∧ ¬ ((wv_2).toInt = 1 ∧ wv_5 = (6385252 : Int64))) := (P_X6_isWord_19 gk_1_1 : _)
            rcases (show (rk_1 = 1 ∧ (True)) ∨ (rk_1 = 0 ∧ (True)) from gk_1_0) with ⟨er9, gk_1_0⟩ | ⟨er9, gk_1_0⟩
            · refine xz_i 1 er9 ?_
              have tb_1 : rk_1.toInt = 1 := by rw [er9]; decide
              refine lv_if_eq (tgt := 67) hx hb dX5_readAll_27 (by decide) (fun c => absurd c (by decide)) (fun _ => ?_)
              refine lv_aload_n hx hb dX5_readAll_30 rfl (lv_at hl 2 rfl) ?_
              refine va_get (D := D) (ci := 5) (v := .ref (a 1)) (C := RX5) (T := TX5) (N := 8) hx hb htg inX5 hown hK.1 hP 3 rfl rfl 0 (by decide) (htg _ kw_384) (fun _ h9 => h9) rfl dX5_readAll_31 ?_
              obtain ⟨hC9, hPc, hDc, hFc⟩ := xcut (wc := (pre_X6_advance T (xa [(a 1), (a 2)]) (xa [(a 3)]) (xf [(fi 0)]) (xh []) (xv [(vi 2), (vi 3), (vi 4), wv_7, wv_2, wv_3, wv_6, wv_4, (vi 10), wv, wv_1]) (xl [wv_5]))) hP hD hS hA [8, 4] (by decide) rfl
              refine va_callv (va_runVN (As := []) (rest := []) ⟨hx, hb, hml, hown, htg⟩ (c_X6_advance l D T (xa [(a 1), (a 2)]) (xa [(a 3)]) (xf [(fi 0)]) (xh []) (xv [(vi 2), (vi 3), (vi 4), wv_7, wv_2, wv_3, wv_6, wv_4, (vi 10), wv, wv_1]) (xl [wv_5]) H.size hp2 hp3 hi_4 hi_3 hi_2) ⟨va_cnB 0 htg (xg_ok kw_577) rfl rfl rfl (hK.2.1 _ kn_1219) (htg _ kw_2) (by decide +kernel) ⟨by rw [hR]; exact Nat.le_of_ble_eq_true rfl, by rw [hR]; exact Nat.le_of_ble_eq_true rfl⟩, htg _ kw_576, htg _ ks_6⟩ (xpreV hK hPc hDc (va_recv hK.1 hPc (ci := 6) (q0 := 0) rfl rfl)) rfl rfl hl.1 rfl (lv_room (Nat.le_of_ble_eq_true rfl)) dX5_readAll_34 ⟨by rw [hR]; exact Nat.le_of_ble_eq_true rfl, by rw [hR]; exact Nat.le_of_ble_eq_true rfl⟩) hS (fun q _ h => hFc q h) hFc (fun u9 t H1 locs ht hvm hw hB hz1 hk1 hS => ?_)
              obtain ⟨fik_2, flk_2, vik_2, vlk_2, hP1, hD1, hG⟩ := hB
              rw [ht] at hP1
              obtain ⟨hP, hD⟩ := va_join (wr := [((a 6), .inl (T 1, 40, .inl wf)), ((a 7), .inl (T 1, 40, .inl wf_1)), ((a 8), .inl (T 1, 40, .inl wf_2)), ((a 0), .inr (5, [.ref (a 1), .ref (a 4), .ref (a 6), .ref (a 7), .ref (a 8), .ref (ex 0), .int wv_8, .int (vi 1)])), ((a 3), .inl (T 2, 27, .inr (.inl (fl 0)))), ((a 4), .inr (7, [.int (vi 13), .int (vi 14), .ref (a 5), .ref (ex 1), .ref (ex 2), .ref (ex 3), .ref (ex 4), .ref (ex 5), .ref (ex 6), .ref (ex 7), .ref (ex 8), .ref (ex 9)])), ((a 5), .inl (T 2, 9, .inr (.inl (fl 1))))]) (w1 := [((a 1), .inr (6, [.ref (a 2), .ref (a 3), .int (vi 2), .int (vi 3), .int (vi 4), .int (vik_2 4), .int (vik_2 0), .int (vik_2 1), .long (vlk_2 0), .int (vik_2 3), .int (vik_2 2), .int (vi 10), .int wv, .int wv_1])), ((a 2), .inl (T 0, 940, .inl (fi 0)))]) hP hD [8, 4] [0, 1, 2, 3, 5, 6, 7] hC9 rfl (by decide) (by decide) hk1 hFc hP1 hD1
              clear hPc hDc hFc hP1 hD1 hk1 hz1 hvm ht hC9
              generalize H1 = H at hP hS ⊢
              obtain ⟨hP, hD⟩ := (show xPD D A [((a 6), .inl (T 1, 40, .inl wf)), ((a 7), .inl (T 1, 40, .inl wf_1)), ((a 8), .inl (T 1, 40, .inl wf_2)), ((a 0), .inr (5, [.ref (a 1), .ref (a 4), .ref (a 6), .ref (a 7), .ref (a 8), .ref (ex 0), .int wv_8, .int (vi 1)])), ((a 3), .inl (T 2, 27, .inr (.inl (fl 0)))), ((a 4), .inr (7, [.int (vi 13), .int (vi 14), .ref (a 5), .ref (ex 1), .ref (ex 2), .ref (ex 3), .ref (ex 4), .ref (ex 5), .ref (ex 6), .ref (ex 7), .ref (ex 8), .ref (ex 9)])), ((a 5), .inl (T 2, 9, .inr (.inl (fl 1)))), ((a 1), .inr (6, [.ref (a 2), .ref (a 3), .int (vi 2), .int (vi 3), .int (vi 4), .int (vik_2 4), .int (vik_2 0), .int (vik_2 1), .long (vlk_2 0), .int (vik_2 3), .int (vik_2 2), .int (vi 10), .int wv, .int wv_1])), ((a 2), .inl (T 0, 940, .inl (fi 0)))] H from ⟨hP, hD⟩)
              obtain ⟨uk_2, eu9⟩ : ∃ z, z = u9 := ⟨_, rfl⟩
              subst eu9
              obtain ⟨gk_2_0, gk_2_1, gk_2_2, -⟩ := hG
              replace gk_2_2 : ∀ n m : Nat, (vi 3).toInt = (n : Int) → (vi 4).toInt = (m : Int) → (wv_7).toInt ≤ (vi 3).toInt → CC (trn (fi 0) n) n m ((wv_7).toInt).toNat (vi 3) (vi 4) (vik_2 0) (vik_2 1) (vik_2 4) (vlk_2 0) (vik_2 3) (vik_2 2) := (P_X6_advance gk_2_2 : _)
              replace gk_2_0 : 0 ≤ (vik_2 4).toInt ∧ (vik_2 4).toInt ≤ 940 := gk_2_0
              replace gk_2_1 : 0 ≤ (vik_2 1).toInt ∧ (vik_2 1).toInt ≤ 940 := gk_2_1
              refine lv_aload_n hx hb dX5_readAll_37 rfl (lv_at hl 2 rfl) ?_
              refine lv_iload_n hx hb dX5_readAll_38 rfl (lv_at hl 3 rfl) ?_
              obtain ⟨hC9, hPc, hDc, hFc⟩ := xcut (wc := (pre_X5_readOne_9 T (xa [(a 0), (a 1), (a 2), (a 3), (a 4), (a 5)]) (xa [(a 6), (a 7), (a 8), (ex 0), (ex 1), (ex 2), (ex 3), (ex 4), (ex 5), (ex 6), (ex 7), (ex 8), (ex 9)]) (xf [(fi 0)]) (xh [(fl 0), (fl 1)]) (xv [wv_8, (vi 1), (vi 2), (vi 3), (vi 4), (vik_2 4), (vik_2 0), (vik_2 1), (vik_2 3), (vik_2 2), (vi 10), wv, wv_1, (vi 13), (vi 14)]) (xl [(vlk_2 0)]))) hP hD hS hA [3, 7, 8, 4, 5, 6] (by decide) rfl
              refine va_calli (va_runV (As := [.int 9]) (rest := []) ⟨hx, hb, hml, hown, htg⟩ (c_X5_readOne_9 l D T (xa [(a 0), (a 1), (a 2), (a 3), (a 4), (a 5)]) (xa [(a 6), (a 7), (a 8), (ex 0), (ex 1), (ex 2), (ex 3), (ex 4), (ex 5), (ex 6), (ex 7), (ex 8), (ex 9)]) (xf [(fi 0)]) (xh [(fl 0), (fl 1)]) (xv [wv_8, (vi 1), (vi 2), (vi 3), (vi 4), (vik_2 4), (vik_2 0), (vik_2 1), (vik_2 3), (vik_2 2), (vi 10), wv, wv_1, (vi 13), (vi 14)]) (xl [(vlk_2 0)]) kK kV H.size hi_5 hp1 hp2 hp3 gk_2_0 gk_2_1 hi_2 hp7 hp8 (by show (wv_8).toInt ≤ 2 * (vi 1).toInt; first | omega | assumption)) ⟨callB_of 1 htg (xg_ok kw_1201) rfl rfl rfl (htg _ kw_12) (htg _ kw_1198) (by decide +kernel) ⟨by rw [hR]; exact Nat.le_of_ble_eq_true rfl, by rw [hR]; exact Nat.le_of_ble_eq_true rfl⟩, htg _ kw_1200, htg _ ks_103⟩ (xpreVs hK hPc hDc hT hFc hS (va_recv hK.1 hPc (ci := 5) (q0 := 0) rfl rfl)) rfl rfl hl.1 rfl (lv_room (Nat.le_of_ble_eq_true rfl)) dX5_readAll_39 ⟨by rw [hR]; exact Nat.le_of_ble_eq_true rfl, by rw [hR]; exact Nat.le_of_ble_eq_true rfl⟩) hS (fun q _ h => hFc q h) hFc (fun r9 u9 t H1 locs ht hvm hw hB hz1 hk1 hS => ?_)
              subst hw
              obtain ⟨fik_3, flk_3, vik_3, vlk_3, hP1, hD1, hG⟩ := hB
              rw [ht] at hP1
              obtain ⟨hP, hD⟩ := va_join (wr := [((a 6), .inl (T 1, 40, .inl wf)), ((a 7), .inl (T 1, 40, .inl wf_1)), ((a 8), .inl (T 1, 40, .inl wf_2))]) (w1 := [((a 0), .inr (5, [.ref (a 1), .ref (a 4), .ref (a 6), .ref (a 7), .ref (a 8), .ref (ex 0), .int wv_8, .int (vi 1)])), ((a 1), .inr (6, [.ref (a 2), .ref (a 3), .int (vi 2), .int (vi 3), .int (vi 4), .int (vik_2 4), .int (vik_2 0), .int (vik_2 1), .long (vlk_2 0), .int (vik_2 3), .int (vik_2 2), .int (vi 10), .int (vik_3 0), .int (vik_3 1)])), ((a 2), .inl (T 0, 940, .inl (fi 0))), ((a 3), .inl (T 2, 27, .inr (.inl (fl 0)))), ((a 4), .inr (7, [.int (vi 13), .int (vi 14), .ref (a 5), .ref (ex 1), .ref (ex 2), .ref (ex 3), .ref (ex 4), .ref (ex 5), .ref (ex 6), .ref (ex 7), .ref (ex 8), .ref (ex 9)])), ((a 5), .inl (T 2, 9, .inr (.inl (fl 1))))]) hP hD [3, 7, 8, 4, 5, 6] [0, 1, 2] hC9 rfl (by decide) (by decide) hk1 hFc hP1 hD1
              obtain ⟨rk_3, er9⟩ : ∃ z, z = r9 := ⟨_, rfl⟩
              subst er9
              clear hPc hDc hFc hP1 hD1 hk1 hz1 hvm ht hC9
              generalize H1 = H at hP hS ⊢
              obtain ⟨hP, hD⟩ := (show xPD D A [((a 6), .inl (T 1, 40, .inl wf)), ((a 7), .inl (T 1, 40, .inl wf_1)), ((a 8), .inl (T 1, 40, .inl wf_2)), ((a 0), .inr (5, [.ref (a 1), .ref (a 4), .ref (a 6), .ref (a 7), .ref (a 8), .ref (ex 0), .int wv_8, .int (vi 1)])), ((a 1), .inr (6, [.ref (a 2), .ref (a 3), .int (vi 2), .int (vi 3), .int (vi 4), .int (vik_2 4), .int (vik_2 0), .int (vik_2 1), .long (vlk_2 0), .int (vik_2 3), .int (vik_2 2), .int (vi 10), .int (vik_3 0), .int (vik_3 1)])), ((a 2), .inl (T 0, 940, .inl (fi 0))), ((a 3), .inl (T 2, 27, .inr (.inl (fl 0)))), ((a 4), .inr (7, [.int (vi 13), .int (vi 14), .ref (a 5), .ref (ex 1), .ref (ex 2), .ref (ex 3), .ref (ex 4), .ref (ex 5), .ref (ex 6), .ref (ex 7), .ref (ex 8), .ref (ex 9)])), ((a 5), .inl (T 2, 9, .inr (.inl (fl 1))))] H from ⟨hP, hD⟩)
              obtain ⟨gk_3_0, gk_3_1, gk_3_2, gk_3_3, gk_3_4, -⟩ := hG
              replace gk_3_4 : ∀ n m t : Nat, CC (trn (fi 0) n) n m t (vi 3) (vi 4) (vik_2 0) (vik_2 1) (vik_2 4) (vlk_2 0) (vik_2 3) (vik_2 2) → ∀ σ : List Bool, σ.length + 1 = 9 → (rk_3.toInt = 1 ∧ ∃ t' : Nat, CC (trn (fi 0) n) n m t' (vi 3) (vi 4) (vik_2 0) (vik_2 1) (vik_2 4) (vlk_2 0) (vik_2 3) (vik_2 2) ∧ gto n (SF (trn (fi 0) n) n m (ownB (fl 0)) (fl 1) (vi 13).toInt σ false (vi 1).toInt t) t (SF (trn (fi 0) n) n m (ownB (fl 0)) (fl 1) (vi 13).toInt (sps σ) true (vi 1).toInt t') t') ∨ (rk_3.toInt = 0 ∧ gfa n (SF (trn (fi 0) n) n m (ownB (fl 0)) (fl 1) (vi 13).toInt σ false (vi 1).toInt t) t (vik_3 0).toInt (vik_3 1).toInt) := (P_X5_readOne_9 gk_3_4 : _)
              replace gk_3_1 : 0 ≤ (vik_3 1).toInt ∧ (vik_3 1).toInt ≤ 940 := gk_3_1
              replace gk_3_2 : rk_3.toInt = 1 → (vi 1).toInt + 1 ≤ (vi 1).toInt ∧ (wv_8).toInt ≤ (wv_8).toInt + 2 * ((vi 1).toInt - (vi 1).toInt) - 1 := gk_3_2
              replace gk_3_3 : rk_3.toInt = 1 → (vik_3 0).toInt = (wv).toInt := gk_3_3
              rcases (show (rk_3 = 1 ∧ (True)) ∨ (rk_3 = 0 ∧ (True)) from gk_3_0) with ⟨er9, gk_3_0⟩ | ⟨er9, gk_3_0⟩
              · refine xz_i 1 er9 ?_
                have tb_2 : rk_3.toInt = 1 := by rw [er9]; decide
                refine lv_if_eq (tgt := 59) hx hb dX5_readAll_42 (by decide) (fun c => absurd c (by decide)) (fun _ => ?_)
                refine lv_aload_n hx hb dX5_readAll_45 rfl (lv_at hl 2 rfl) ?_
                refine lv_iconst (v := 1) hx hb dX5_readAll_46 (by decide) ?_
                refine lv_iconst (v := 0) hx hb dX5_readAll_47 (by decide) ?_
                refine lv_iconst (v := 0) hx hb dX5_readAll_48 (by decide) ?_
                obtain ⟨hC9, hPc, hDc, hFc⟩ := xcut (wc := (pre_X5_addStep_2 T (xa [(a 0), (a 6), (a 7), (a 8), (a 1)]) (xa [(a 4), (ex 0), (a 2), (a 3)]) (xf [wf, wf_1, wf_2]) (xh []) (xv [0, 0, wv_8, (vi 1), (vi 2), (vi 3), (vi 4), (vik_2 4), (vik_2 0), (vik_2 1), (vik_2 3), (vik_2 2), (vi 10), (vik_3 0), (vik_3 1)]) (xl [(vlk_2 0)]))) hP hD hS hA [3, 0, 1, 2, 4] (by decide) rfl
                refine va_calli (va_runV (As := [.int 1, .int 0, .int 0]) (rest := []) ⟨hx, hb, hml, hown, htg⟩ (c_X5_addStep_2 l D T (xa [(a 0), (a 6), (a 7), (a 8), (a 1)]) (xa [(a 4), (ex 0), (a 2), (a 3)]) (xf [wf, wf_1, wf_2]) (xh []) (xv [0, 0, wv_8, (vi 1), (vi 2), (vi 3), (vi 4), (vik_2 4), (vik_2 0), (vik_2 1), (vik_2 3), (vik_2 2), (vi 10), (vik_3 0), (vik_3 1)]) (xl [(vlk_2 0)]) H.size hi_5 hp1 hp2 hp3 gk_2_0 gk_2_1 gk_3_1) ⟨callB_of 3 htg (xg_ok kw_1223) rfl rfl rfl (htg _ kw_12) (htg _ kw_1220) (by decide +kernel) ⟨by rw [hR]; exact Nat.le_of_ble_eq_true rfl, by rw [hR]; exact Nat.le_of_ble_eq_true rfl⟩, htg _ kw_1222, htg _ ks_105⟩ (xpreV hK hPc hDc (va_recv hK.1 hPc (ci := 5) (q0 := 0) rfl rfl)) rfl rfl hl.1 rfl (lv_room (Nat.le_of_ble_eq_true rfl)) dX5_readAll_49 ⟨by rw [hR]; exact Nat.le_of_ble_eq_true rfl, by rw [hR]; exact Nat.le_of_ble_eq_true rfl⟩) hS (fun q _ h => hFc q h) hFc (fun r9 u9 t H1 locs ht hvm hw hB hz1 hk1 hS => ?_)
                subst hw
                obtain ⟨fik_4, flk_4, vik_4, vlk_4, hP1, hD1, hG⟩ := hB
                rw [ht] at hP1
                obtain ⟨hP, hD⟩ := va_join (wr := [((a 2), .inl (T 0, 940, .inl (fi 0))), ((a 3), .inl (T 2, 27, .inr (.inl (fl 0)))), ((a 4), .inr (7, [.int (vi 13), .int (vi 14), .ref (a 5), .ref (ex 1), .ref (ex 2), .ref (ex 3), .ref (ex 4), .ref (ex 5), .ref (ex 6), .ref (ex 7), .ref (ex 8), .ref (ex 9)])), ((a 5), .inl (T 2, 9, .inr (.inl (fl 1))))]) (w1 := [((a 0), .inr (5, [.ref (a 1), .ref (a 4), .ref (a 6), .ref (a 7), .ref (a 8), .ref (ex 0), .int (vik_4 0), .int (vi 1)])), ((a 6), .inl (T 1, 40, .inl (fik_4 0))), ((a 7), .inl (T 1, 40, .inl (fik_4 1))), ((a 8), .inl (T 1, 40, .inl (fik_4 2))), ((a 1), .inr (6, [.ref (a 2), .ref (a 3), .int (vi 2), .int (vi 3), .int (vi 4), .int (vik_2 4), .int (vik_2 0), .int (vik_2 1), .long (vlk_2 0), .int (vik_2 3), .int (vik_2 2), .int (vi 10), .int (vik_4 1), .int (vik_4 2)]))]) hP hD [3, 0, 1, 2, 4] [5, 6, 7, 8] hC9 rfl (by decide) (by decide) hk1 hFc hP1 hD1
                obtain ⟨rk_4, er9⟩ : ∃ z, z = r9 := ⟨_, rfl⟩
                subst er9
                clear hPc hDc hFc hP1 hD1 hk1 hz1 hvm ht hC9
                generalize H1 = H at hP hS ⊢
                obtain ⟨hP, hD⟩ := (show xPD D A [((a 2), .inl (T 0, 940, .inl (fi 0))), ((a 3), .inl (T 2, 27, .inr (.inl (fl 0)))), ((a 4), .inr (7, [.int (vi 13), .int (vi 14), .ref (a 5), .ref (ex 1), .ref (ex 2), .ref (ex 3), .ref (ex 4), .ref (ex 5), .ref (ex 6), .ref (ex 7), .ref (ex 8), .ref (ex 9)])), ((a 5), .inl (T 2, 9, .inr (.inl (fl 1)))), ((a 0), .inr (5, [.ref (a 1), .ref (a 4), .ref (a 6), .ref (a 7), .ref (a 8), .ref (ex 0), .int (vik_4 0), .int (vi 1)])), ((a 6), .inl (T 1, 40, .inl (fik_4 0))), ((a 7), .inl (T 1, 40, .inl (fik_4 1))), ((a 8), .inl (T 1, 40, .inl (fik_4 2))), ((a 1), .inr (6, [.ref (a 2), .ref (a 3), .int (vi 2), .int (vi 3), .int (vi 4), .int (vik_2 4), .int (vik_2 0), .int (vik_2 1), .long (vlk_2 0), .int (vik_2 3), .int (vik_2 2), .int (vi 10), .int (vik_4 1), .int (vik_4 2)]))] H from ⟨hP, hD⟩)
                obtain ⟨gk_4_0, gk_4_1, gk_4_2, gk_4_3, -⟩ := hG
                replace gk_4_1 : 0 ≤ (vik_4 0).toInt ∧ (vik_4 0).toInt ≤ 40 := gk_4_1
                replace gk_4_2 : 0 ≤ (vik_4 2).toInt ∧ (vik_4 2).toInt ≤ 940 := gk_4_2
                replace gk_4_3 : rk_4.toInt = 1 → (vik_4 1).toInt = (vik_3 0).toInt := gk_4_3
                rcases (show (rk_4 = 1 ∧ ((wv_8).toInt < 40 ∧ (vik_4 0).toInt = (wv_8).toInt + 1)) ∨ (rk_4 = 0 ∧ (40 ≤ (wv_8).toInt)) from gk_4_0) with ⟨er9, gk_4_0⟩ | ⟨er9, gk_4_0⟩
                · refine xz_i 1 er9 ?_
                  have tb_3 : rk_4.toInt = 1 := by rw [er9]; decide
                  refine lv_if_eq (tgt := 59) hx hb dX5_readAll_52 (by decide) (fun c => absurd c (by decide)) (fun _ => ?_)
                  refine lv_iconst (v := 1) hx hb dX5_readAll_55 (by decide) ?_
                  refine lv_goto (tgt := 60) hx hb dX5_readAll_56 (by decide) ?_
                  refine lv_istore_n (lv' := [(2, .int 1), (3, .int w3), (0, .ref (a 0)), (1, .int 9)]) hx hb dX5_readAll_60 rfl hl (by decide) rfl (fun ls hl => ?_)
                  obtain ⟨i61, ei61⟩ : ∃ z : Int32, w3 + Int32.ofInt 1 = z := ⟨_, rfl⟩
                  have ti61 : i61.toInt = w3.toInt + 1 := by rw [← ei61]; have h79 := xrng w3; exact xadd rfl (by decide) (by omega) (by omega)
                  refine lv_iinc (v := i61) (lv' := [(3, .int i61), (2, .int 1), (0, .ref (a 0)), (1, .int 9)]) hx hb dX5_readAll_61 hl (k := 1) rfl ei61 (by decide) rfl (fun ls hl => ?_)
                  refine lv_goto (tgt := 8) hx hb dX5_readAll_64 (by decide) ?_
                  exact ih _ (by omega) i61 (1 : Int32) (vik_4 1) (vik_4 2) (vik_2 0) (vik_2 1) (vik_2 2) (vlk_2 0) (vik_2 3) (vik_2 4) (fik_4 0) (fik_4 1) (fik_4 2) (vik_4 0) _ _ _ (by show 0 ≤ i61.toInt ∧ i61.toInt ≤ 20; omega) (show 0 ≤ (1 : Int32).toInt ∧ (1 : Int32).toInt ≤ 1 by decide) gk_4_2 gk_2_1 gk_2_0 gk_4_1 (by show ∀ n m t : Nat, CC (trn (fi 0) n) n m t (vi 3) (vi 4) (vi 6) (vi 7) (vi 5) (vl 0) (vi 8) (vi 9) → ∀ σ : List Bool, σ.length + 1 = 9 → sps σ = σ → DJ ((1 : Int32).toInt = 1 ∧ ∃ t' : Nat, CC (trn (fi 0) n) n m t' (vi 3) (vi 4) (vik_2 0) (vik_2 1) (vik_2 4) (vlk_2 0) (vik_2 3) (vik_2 2) ∧ gto n (SF (trn (fi 0) n) n m (ownB (fl 0)) (fl 1) (vi 13).toInt σ false (vi 1).toInt t) t (SF (trn (fi 0) n) n m (ownB (fl 0)) (fl 1) (vi 13).toInt σ true (vi 1).toInt t') t') ((1 : Int32).toInt = 0 ∧ gfa n (SF (trn (fi 0) n) n m (ownB (fl 0)) (fl 1) (vi 13).toInt σ false (vi 1).toInt t) t (vik_4 1).toInt (vik_4 2).toInt); have k9_0 : (1 : Int32).toInt = 1 := (by decide); have k8 : (0 : Int32).toInt = 0 := (by decide); have k7 : (1 : Int32).toInt = 1 := (by decide); intro n m t hc σ hd hs; rcases hai9 n m t hc σ hd hs with ⟨a1, t8, a2, a3⟩ | ⟨a1, a2⟩; (· obtain ⟨hn, hm, ht, ck, cp, ce, cw, cu, cg⟩ := id a2; have y9 : isW (trn (fi 0) n) n m t8 6385252 := (by rcases gk_1_1 with ⟨z1, z2, z3⟩ | ⟨z1, z2⟩; (· exact ⟨ck.symm.trans z2, by rw [← cw (ck.symm.trans z2)]; exact z3⟩); (· exfalso; omega)); have hc1 := CC_nx a2 gk_2_2; rcases gk_3_4 n m _ hc1 σ hd with ⟨b1, t9, b2, b3⟩ | ⟨b1, b2⟩; (· exact Or.inl ⟨by decide, t9, b2, gto_tr a3 (gto_tr (sg_join ht (Or.inl y9)) (by rw [hs] at b3; exact b3))⟩); (· exact absurd (b1.symm.trans tb_2) (by decide))); (· exfalso; omega)) (by show (1 : Int32).toInt = 1 → (vi 1).toInt + 1 + i61.toInt ≤ (vi 1).toInt ∧ (vik_4 0).toInt ≤ (vi 0).toInt + 2 * ((vi 1).toInt - (vi 1).toInt) - 1; have k9_0 : (1 : Int32).toInt = 1 := (by decide); have k8 : (0 : Int32).toInt = 0 := (by decide); have k7 : (1 : Int32).toInt = 1 := (by decide); intro _; omega) (by show (1 : Int32).toInt = 1 → (vik_4 1).toInt = (vi 11).toInt; have k9_0 : (1 : Int32).toInt = 1 := (by decide); exact fun _ => ((gk_4_3 tb_3).trans (gk_3_3 tb_2) |>.trans (hfj9 hbz))) rfl (hP.sub [5, 6, 7, 4, 8, 0, 1, 2, 3] rfl) (hD.sub [5, 6, 7, 4, 8, 0, 1, 2, 3] (by decide) rfl) hS (lv_sub hl [0, 1, 2, 3] rfl)
                · refine xz_i 0 er9 ?_
                  have tb_3 : rk_4.toInt = 0 := by rw [er9]; decide
                  refine lv_if_eq (tgt := 59) hx hb dX5_readAll_52 (by decide) (fun _ => ?_) (fun c => absurd (by decide) c)
                  refine lv_iconst (v := 0) hx hb dX5_readAll_59 (by decide) ?_
                  refine lv_istore_n (lv' := [(2, .int 0), (3, .int w3), (0, .ref (a 0)), (1, .int 9)]) hx hb dX5_readAll_60 rfl hl (by decide) rfl (fun ls hl => ?_)
                  obtain ⟨i61_1, ei61_1⟩ : ∃ z : Int32, w3 + Int32.ofInt 1 = z := ⟨_, rfl⟩
                  have ti61_1 : i61_1.toInt = w3.toInt + 1 := by rw [← ei61_1]; have h79 := xrng w3; exact xadd rfl (by decide) (by omega) (by omega)
                  refine lv_iinc (v := i61_1) (lv' := [(3, .int i61_1), (2, .int 0), (0, .ref (a 0)), (1, .int 9)]) hx hb dX5_readAll_61 hl (k := 1) rfl ei61_1 (by decide) rfl (fun ls hl => ?_)
                  refine lv_goto (tgt := 8) hx hb dX5_readAll_64 (by decide) ?_
                  exact ih _ (by omega) i61_1 (0 : Int32) (vik_4 1) (vik_4 2) (vik_2 0) (vik_2 1) (vik_2 2) (vlk_2 0) (vik_2 3) (vik_2 4) (fik_4 0) (fik_4 1) (fik_4 2) (vik_4 0) _ _ _ (by show 0 ≤ i61_1.toInt ∧ i61_1.toInt ≤ 20; omega) (show 0 ≤ (0 : Int32).toInt ∧ (0 : Int32).toInt ≤ 1 by decide) gk_4_2 gk_2_1 gk_2_0 gk_4_1 (by show ∀ n m t : Nat, CC (trn (fi 0) n) n m t (vi 3) (vi 4) (vi 6) (vi 7) (vi 5) (vl 0) (vi 8) (vi 9) → ∀ σ : List Bool, σ.length + 1 = 9 → sps σ = σ → DJ ((0 : Int32).toInt = 1 ∧ ∃ t' : Nat, CC (trn (fi 0) n) n m t' (vi 3) (vi 4) (vik_2 0) (vik_2 1) (vik_2 4) (vlk_2 0) (vik_2 3) (vik_2 2) ∧ gto n (SF (trn (fi 0) n) n m (ownB (fl 0)) (fl 1) (vi 13).toInt σ false (vi 1).toInt t) t (SF (trn (fi 0) n) n m (ownB (fl 0)) (fl 1) (vi 13).toInt σ true (vi 1).toInt t') t') ((0 : Int32).toInt = 0 ∧ gfa n (SF (trn (fi 0) n) n m (ownB (fl 0)) (fl 1) (vi 13).toInt σ false (vi 1).toInt t) t (vik_4 1).toInt (vik_4 2).toInt); have k9_0 : (0 : Int32).toInt = 0 := (by decide); have k8 : (0 : Int32).toInt = 0 := (by decide); have k7 : (1 : Int32).toInt = 1 := (by decide); intro n m t hc σ hd hs; rcases hai9 n m t hc σ hd hs with ⟨a1, t8, a2, a3⟩ | ⟨a1, a2⟩; (· obtain ⟨hn, hm, ht, ck, cp, ce, cw, cu, cg⟩ := id a2; have y9 : isW (trn (fi 0) n) n m t8 6385252 := (by rcases gk_1_1 with ⟨z1, z2, z3⟩ | ⟨z1, z2⟩; (· exact ⟨ck.symm.trans z2, by rw [← cw (ck.symm.trans z2)]; exact z3⟩); (· exfalso; omega)); have hc1 := CC_nx a2 gk_2_2; rcases gk_3_4 n m _ hc1 σ hd with ⟨b1, t9, b2, b3⟩ | ⟨b1, b2⟩; (· exfalso; omega); (· exact absurd (b1.symm.trans tb_2) (by decide))); (· exfalso; omega)) (by show (0 : Int32).toInt = 1 → (vi 1).toInt + 1 + i61_1.toInt ≤ (vi 1).toInt ∧ (vik_4 0).toInt ≤ (vi 0).toInt + 2 * ((vi 1).toInt - (vi 1).toInt) - 1; have k9_0 : (0 : Int32).toInt = 0 := (by decide); have k8 : (0 : Int32).toInt = 0 := (by decide); have k7 : (1 : Int32).toInt = 1 := (by decide); intro h9; exfalso; omega) (by show (0 : Int32).toInt = 1 → (vik_4 1).toInt = (vi 11).toInt; have k9_0 : (0 : Int32).toInt = 0 := (by decide); exact fun h9 => absurd h9 (by decide)) rfl (hP.sub [5, 6, 7, 4, 8, 0, 1, 2, 3] rfl) (hD.sub [5, 6, 7, 4, 8, 0, 1, 2, 3] (by decide) rfl) hS (lv_sub hl [0, 1, 2, 3] rfl)
              · refine xz_i 0 er9 ?_
                have tb_2 : rk_3.toInt = 0 := by rw [er9]; decide
                refine lv_if_eq (tgt := 59) hx hb dX5_readAll_42 (by decide) (fun _ => ?_) (fun c => absurd (by decide) c)
                refine lv_iconst (v := 0) hx hb dX5_readAll_59 (by decide) ?_
                refine lv_istore_n (lv' := [(2, .int 0), (3, .int w3), (0, .ref (a 0)), (1, .int 9)]) hx hb dX5_readAll_60 rfl hl (by decide) rfl (fun ls hl => ?_)
                obtain ⟨i61_2, ei61_2⟩ : ∃ z : Int32, w3 + Int32.ofInt 1 = z := ⟨_, rfl⟩
                have ti61_2 : i61_2.toInt = w3.toInt + 1 := by rw [← ei61_2]; have h79 := xrng w3; exact xadd rfl (by decide) (by omega) (by omega)
                refine lv_iinc (v := i61_2) (lv' := [(3, .int i61_2), (2, .int 0), (0, .ref (a 0)), (1, .int 9)]) hx hb dX5_readAll_61 hl (k := 1) rfl ei61_2 (by decide) rfl (fun ls hl => ?_)
                refine lv_goto (tgt := 8) hx hb dX5_readAll_64 (by decide) ?_
                exact ih _ (by omega) i61_2 (0 : Int32) (vik_3 0) (vik_3 1) (vik_2 0) (vik_2 1) (vik_2 2) (vlk_2 0) (vik_2 3) (vik_2 4) wf wf_1 wf_2 wv_8 _ _ _ (by show 0 ≤ i61_2.toInt ∧ i61_2.toInt ≤ 20; omega) (show 0 ≤ (0 : Int32).toInt ∧ (0 : Int32).toInt ≤ 1 by decide) gk_3_1 gk_2_1 gk_2_0 hi_5 (by show ∀ n m t : Nat, CC (trn (fi 0) n) n m t (vi 3) (vi 4) (vi 6) (vi 7) (vi 5) (vl 0) (vi 8) (vi 9) → ∀ σ : List Bool, σ.length + 1 = 9 → sps σ = σ → DJ ((0 : Int32).toInt = 1 ∧ ∃ t' : Nat, CC (trn (fi 0) n) n m t' (vi 3) (vi 4) (vik_2 0) (vik_2 1) (vik_2 4) (vlk_2 0) (vik_2 3) (vik_2 2) ∧ gto n (SF (trn (fi 0) n) n m (ownB (fl 0)) (fl 1) (vi 13).toInt σ false (vi 1).toInt t) t (SF (trn (fi 0) n) n m (ownB (fl 0)) (fl 1) (vi 13).toInt σ true (vi 1).toInt t') t') ((0 : Int32).toInt = 0 ∧ gfa n (SF (trn (fi 0) n) n m (ownB (fl 0)) (fl 1) (vi 13).toInt σ false (vi 1).toInt t) t (vik_3 0).toInt (vik_3 1).toInt); have k9_0 : (0 : Int32).toInt = 0 := (by decide); have k8 : (0 : Int32).toInt = 0 := (by decide); have k7 : (1 : Int32).toInt = 1 := (by decide); intro n m t hc σ hd hs; rcases hai9 n m t hc σ hd hs with ⟨a1, t8, a2, a3⟩ | ⟨a1, a2⟩; (· obtain ⟨hn, hm, ht, ck, cp, ce, cw, cu, cg⟩ := id a2; have y9 : isW (trn (fi 0) n) n m t8 6385252 := (by rcases gk_1_1 with ⟨z1, z2, z3⟩ | ⟨z1, z2⟩; (· exact ⟨ck.symm.trans z2, by rw [← cw (ck.symm.trans z2)]; exact z3⟩); (· exfalso; omega)); have hc1 := CC_nx a2 gk_2_2; rcases gk_3_4 n m _ hc1 σ hd with ⟨b1, t9, b2, b3⟩ | ⟨b1, b2⟩; (· exact absurd (b1.symm.trans tb_2) (by decide)); (· exact Or.inr ⟨by decide, gto_fa (gto_tr a3 (sg_join ht (Or.inl y9))) b2⟩)); (· exfalso; omega)) (by show (0 : Int32).toInt = 1 → (vi 1).toInt + 1 + i61_2.toInt ≤ (vi 1).toInt ∧ (wv_8).toInt ≤ (vi 0).toInt + 2 * ((vi 1).toInt - (vi 1).toInt) - 1; have k9_0 : (0 : Int32).toInt = 0 := (by decide); have k8 : (0 : Int32).toInt = 0 := (by decide); have k7 : (1 : Int32).toInt = 1 := (by decide); intro h9; exfalso; omega) (by show (0 : Int32).toInt = 1 → (vik_3 0).toInt = (vi 11).toInt; have k9_0 : (0 : Int32).toInt = 0 := (by decide); exact fun h9 => absurd h9 (by decide)) rfl (hP.sub [0, 1, 2, 3, 4, 5, 6, 7, 8] rfl) (hD.sub [0, 1, 2, 3, 4, 5, 6, 7, 8] (by decide) rfl) hS (lv_sub hl [0, 1, 2, 3] rfl)
            · refine xz_i 0 er9 ?_
              have tb_1 : rk_1.toInt = 0 := by rw [er9]; decide
              refine lv_if_eq (tgt := 67) hx hb dX5_readAll_27 (by decide) (fun _ => ?_) (fun c => absurd (by decide) c)
              refine lv_iload_n hx hb dX5_readAll_67 rfl (lv_at hl 1 rfl) ?_
              have hP9 := hP.sub (ws' := [((a 0), .inr (5, [.ref (a 1), .ref (a 4), .ref (a 6), .ref (a 7), .ref (a 8), .ref (ex 0), .int wv_8, .int (vi 1)])), ((a 1), .inr (6, [.ref (a 2), .ref (a 3), .int (vi 2), .int (vi 3), .int (vi 4), .int wv_7, .int wv_2, .int wv_3, .long wv_5, .int wv_6, .int wv_4, .int (vi 10), .int wv, .int wv_1])), ((a 2), .inl (T 0, 940, .inl (fi 0))), ((a 3), .inl (T 2, 27, .inr (.inl (fl 0)))), ((a 4), .inr (7, [.int (vi 13), .int (vi 14), .ref (a 5), .ref (ex 1), .ref (ex 2), .ref (ex 3), .ref (ex 4), .ref (ex 5), .ref (ex 6), .ref (ex 7), .ref (ex 8), .ref (ex 9)])), ((a 5), .inl (T 2, 9, .inr (.inl (fl 1)))), ((a 6), .inl (T 1, 40, .inl wf)), ((a 7), .inl (T 1, 40, .inl wf_1)), ((a 8), .inl (T 1, 40, .inl wf_2))]) [3, 8, 4, 5, 6, 7, 0, 1, 2] rfl
              have hD9 := hD.sub (ws' := [((a 0), .inr (5, [.ref (a 1), .ref (a 4), .ref (a 6), .ref (a 7), .ref (a 8), .ref (ex 0), .int wv_8, .int (vi 1)])), ((a 1), .inr (6, [.ref (a 2), .ref (a 3), .int (vi 2), .int (vi 3), .int (vi 4), .int wv_7, .int wv_2, .int wv_3, .long wv_5, .int wv_6, .int wv_4, .int (vi 10), .int wv, .int wv_1])), ((a 2), .inl (T 0, 940, .inl (fi 0))), ((a 3), .inl (T 2, 27, .inr (.inl (fl 0)))), ((a 4), .inr (7, [.int (vi 13), .int (vi 14), .ref (a 5), .ref (ex 1), .ref (ex 2), .ref (ex 3), .ref (ex 4), .ref (ex 5), .ref (ex 6), .ref (ex 7), .ref (ex 8), .ref (ex 9)])), ((a 5), .inl (T 2, 9, .inr (.inl (fl 1)))), ((a 6), .inl (T 1, 40, .inl wf)), ((a 7), .inl (T 1, 40, .inl wf_1)), ((a 8), .inl (T 1, 40, .inl wf_2))]) [3, 8, 4, 5, 6, 7, 0, 1, 2] (by decide +kernel) rfl
              rw [hQ]
              exact W.zret (v := 1) hx hb hr rfl (fun t ht hW => ⟨⟨1, 1, rfl, rfl, xf [wf, wf_1, wf_2], xh [], xv [wv, wv_1, wv_2, wv_3, wv_4, wv_6, wv_7, wv_8], xl [wv_5], by rw [ht]; exact hP9, hD9, ⟨(Or.inl ⟨rfl, by show True; first | trivial | omega | assumption⟩), hi_5, hi_4, hi_3, hi_2, (by show (1 : Int32).toInt = 1 → (vi 1).toInt + 1 ≤ (vi 1).toInt ∧ (wv_8).toInt ≤ (vi 0).toInt + 2 * ((vi 1).toInt - (vi 1).toInt) - 1; have k9_0 : (1 : Int32).toInt = 1 := (by decide); have k8 : (0 : Int32).toInt = 0 := (by decide); have k7 : (1 : Int32).toInt = 1 := (by decide); intro _; omega), (by show (1 : Int32).toInt = 1 → (wv).toInt = (vi 11).toInt; have k9_0 : (1 : Int32).toInt = 1 := (by decide); exact fun _ => (hfj9 hbz)), (by unfold R_X5_readAll_2; exact (fun Q9 k9_0 k9_1 k9_2 k9_3 k9_4 k9_5 k9_6 k9_7 => k9_3 hp0 hp1 hp2 hp3 hp4 hp5 hp6 hp7 hp8 hp9 fik flk vik vlk rk gk_1 gk_2 gk_3 gk_4 tb gk_0 w3 w2 wv wv_1 wv_2 wv_3 wv_4 wv_5 wv_6 wv_7 wf wf_1 wf_2 wv_8 hi hi_1 hi_2 hi_3 hi_4 hi_5 hai9 hni9 hfj9 hbz c11_1 fik_1 flk_1 vik_1 vlk_1 rk_1 gk_1_1 tb_1 gk_1_0 rfl rfl rfl rfl rfl rfl rfl rfl rfl rfl rfl rfl rfl)), trivial⟩⟩, hS.F ht⟩) hS.2.2 dX5_readAll_68
    exact lp _ (0 : Int32) (1 : Int32) (vik 0) (vik 1) (vi 6) (vi 7) (vi 9) (vl 0) (vi 8) (vi 5) (fi 1) (fi 2) (fi 3) (vi 0) _ _ _ (show 0 ≤ (0 : Int32).toInt ∧ (0 : Int32).toInt ≤ 20 by decide) (show 0 ≤ (1 : Int32).toInt ∧ (1 : Int32).toInt ≤ 1 by decide) gk_1 hp5 hp4 hp0 (by show ∀ n m t : Nat, CC (trn (fi 0) n) n m t (vi 3) (vi 4) (vi 6) (vi 7) (vi 5) (vl 0) (vi 8) (vi 9) → ∀ σ : List Bool, σ.length + 1 = 9 → sps σ = σ → DJ ((1 : Int32).toInt = 1 ∧ ∃ t' : Nat, CC (trn (fi 0) n) n m t' (vi 3) (vi 4) (vi 6) (vi 7) (vi 5) (vl 0) (vi 8) (vi 9) ∧ gto n (SF (trn (fi 0) n) n m (ownB (fl 0)) (fl 1) (vi 13).toInt σ false (vi 1).toInt t) t (SF (trn (fi 0) n) n m (ownB (fl 0)) (fl 1) (vi 13).toInt σ true (vi 1).toInt t') t') ((1 : Int32).toInt = 0 ∧ gfa n (SF (trn (fi 0) n) n m (ownB (fl 0)) (fl 1) (vi 13).toInt σ false (vi 1).toInt t) t (vik 0).toInt (vik 1).toInt); have k9_0 : (1 : Int32).toInt = 1 := (by decide); have k8 : (0 : Int32).toInt = 0 := (by decide); have k7 : (1 : Int32).toInt = 1 := (by decide); intro n m t hc σ hd hs; rcases gk_4 n m t hc σ hd with ⟨b1, t9, b2, b3⟩ | ⟨b1, b2⟩; (· exact Or.inl ⟨by decide, t9, b2, by rw [hs] at b3; exact b3⟩); (· exact absurd (b1.symm.trans tb) (by decide))) (by show (1 : Int32).toInt = 1 → (vi 1).toInt + 1 + (0 : Int32).toInt ≤ (vi 1).toInt ∧ (vi 0).toInt ≤ (vi 0).toInt + 2 * ((vi 1).toInt - (vi 1).toInt) - 1; have k9_0 : (0 : Int32).toInt = 0 := (by decide); have k9_1 : (1 : Int32).toInt = 1 := (by decide); have k8 : (0 : Int32).toInt = 0 := (by decide); have k7 : (1 : Int32).toInt = 1 := (by decide); intro _; omega) (by show (1 : Int32).toInt = 1 → (vik 0).toInt = (vi 11).toInt; have k9_0 : (1 : Int32).toInt = 1 := (by decide); exact fun _ => (gk_3 tb)) rfl hP hD hS hl
  · refine xz_i 0 er9 ?_
    have tb : rk.toInt = 0 := by rw [er9]; decide
    refine lv_istore_n (lv' := [(2, .int 0), (0, .ref (a 0)), (1, .int 9)]) hx hb dX5_readAll_5 rfl hl (by decide) rfl (fun ls hl => ?_)
    refine lv_iconst (v := 0) hx hb dX5_readAll_6 (by decide) ?_
    refine lv_istore_n (lv' := [(3, .int 0), (2, .int 0), (0, .ref (a 0)), (1, .int 9)]) hx hb dX5_readAll_7 rfl hl (by decide) rfl (fun ls hl => ?_)
    have lp_1 : ∀ (kn_1 : Nat) (w3_1 : Int32) (w2_1 : Int32) (wv_9 : Int32) (wv_10 : Int32) (wv_11 : Int32) (wv_12 : Int32) (wv_13 : Int32) (wv_14 : Int64) (wv_15 : Int32) (wv_16 : Int32) (wf_3 : Nat → Int32) (wf_4 : Nat → Int32) (wf_5 : Nat → Int32) (wv_17 : Int32) (H : Heap) (locs : List Loc) (ls : Array Slot), (0 ≤ w3_1.toInt ∧ w3_1.toInt ≤ 20) → (0 ≤ w2_1.toInt ∧ w2_1.toInt ≤ 1) → (0 ≤ wv_10.toInt ∧ wv_10.toInt ≤ 940) → (0 ≤ wv_12.toInt ∧ wv_12.toInt ≤ 940) → (0 ≤ wv_16.toInt ∧ wv_16.toInt ≤ 940) → (0 ≤ wv_17.toInt ∧ wv_17.toInt ≤ 40) → (∀ n m t : Nat, CC (trn (fi 0) n) n m t (vi 3) (vi 4) (vi 6) (vi 7) (vi 5) (vl 0) (vi 8) (vi 9) → ∀ σ : List Bool, σ.length + 1 = 9 → sps σ = σ → DJ (w2_1.toInt = 1 ∧ ∃ t' : Nat, CC (trn (fi 0) n) n m t' (vi 3) (vi 4) wv_11 wv_12 wv_16 wv_14 wv_15 wv_13 ∧ gto n (SF (trn (fi 0) n) n m (ownB (fl 0)) (fl 1) (vi 13).toInt σ false (vi 1).toInt t) t (SF (trn (fi 0) n) n m (ownB (fl 0)) (fl 1) (vi 13).toInt σ true (vi 1).toInt t') t') (w2_1.toInt = 0 ∧ gfa n (SF (trn (fi 0) n) n m (ownB (fl 0)) (fl 1) (vi 13).toInt σ false (vi 1).toInt t) t (wv_9).toInt (wv_10).toInt)) → (w2_1.toInt = 1 → (vi 1).toInt + 1 + w3_1.toInt ≤ (vi 1).toInt ∧ (wv_17).toInt ≤ (vi 0).toInt + 2 * ((vi 1).toInt - (vi 1).toInt) - 1) → (w2_1.toInt = 1 → (wv_9).toInt = (vi 11).toInt) → (2147483648 - w3_1.toInt).toNat = kn_1 → va_P D vwCl [((a 6), .inl (T 1, 40, .inl wf_3)), ((a 7), .inl (T 1, 40, .inl wf_4)), ((a 8), .inl (T 1, 40, .inl wf_5)), ((a 0), .inr (5, [.ref (a 1), .ref (a 4), .ref (a 6), .ref (a 7), .ref (a 8), .ref (ex 0), .int wv_17, .int (vi 1)])), ((a 1), .inr (6, [.ref (a 2), .ref (a 3), .int (vi 2), .int (vi 3), .int (vi 4), .int wv_16, .int wv_11, .int wv_12, .long wv_14, .int wv_15, .int wv_13, .int (vi 10), .int wv_9, .int wv_10])), ((a 2), .inl (T 0, 940, .inl (fi 0))), ((a 3), .inl (T 2, 27, .inr (.inl (fl 0)))), ((a 4), .inr (7, [.int (vi 13), .int (vi 14), .ref (a 5), .ref (ex 1), .ref (ex 2), .ref (ex 3), .ref (ex 4), .ref (ex 5), .ref (ex 6), .ref (ex 7), .ref (ex 8), .ref (ex 9)])), ((a 5), .inl (T 2, 9, .inr (.inl (fl 1))))] H → va_D A [((a 6), .inl (T 1, 40, .inl wf_3)), ((a 7), .inl (T 1, 40, .inl wf_4)), ((a 8), .inl (T 1, 40, .inl wf_5)), ((a 0), .inr (5, [.ref (a 1), .ref (a 4), .ref (a 6), .ref (a 7), .ref (a 8), .ref (ex 0), .int wv_17, .int (vi 1)])), ((a 1), .inr (6, [.ref (a 2), .ref (a 3), .int (vi 2), .int (vi 3), .int (vi 4), .int wv_16, .int wv_11, .int wv_12, .long wv_14, .int wv_15, .int wv_13, .int (vi 10), .int wv_9, .int wv_10])), ((a 2), .inl (T 0, 940, .inl (fi 0))), ((a 3), .inl (T 2, 27, .inr (.inl (fl 0)))), ((a 4), .inr (7, [.int (vi 13), .int (vi 14), .ref (a 5), .ref (ex 1), .ref (ex 2), .ref (ex 3), .ref (ex 4), .ref (ex 5), .ref (ex 6), .ref (ex 7), .ref (ex 8), .ref (ex 9)])), ((a 5), .inl (T 2, 9, .inr (.inl (fl 1))))] → va_S A s.heap H locs → lv_has ls 4 [(3, .int w3_1), (2, .int w2_1), (0, .ref (a 0)), (1, .int 9)] → W p l e R s m ([.ref (a 0), .int 9] : List Value).toArray below meth c H locs 0 0 Q (F0 m 8 ls []) := by
      intro kn_1
      induction kn_1 using Nat.strongRecOn with
      | _ kn_1 ih_1 =>
        intro w3_1 w2_1 wv_9 wv_10 wv_11 wv_12 wv_13 wv_14 wv_15 wv_16 wf_3 wf_4 wf_5 wv_17 H locs ls hi_6 hi_7 hi_8 hi_9 hi_10 hi_11 hai9 hni9 hfj9 hm_1 hP hD hS hl
        rcases (show w2_1.toInt = 0 ∨ w2_1.toInt = 1 by omega) with hbz_1 | hbz_1
        · rw [xtoi (v := 0) (k := 0) (by decide) hbz_1] at hl
          refine lv_iload_n hx hb dX5_readAll_8 rfl (lv_at hl 0 rfl) ?_
          refine lv_bipush (v := 20) hx hb dX5_readAll_9 (by decide) ?_
          refine lv_icmp_ge (tgt := 67) hx hb dX5_readAll_11 (by decide) (fun c11_2 => ?_) (fun c11_2 => ?_)
          · have c11_2 := xge (k := 20) (by decide) c11_2
            refine lv_iload_n hx hb dX5_readAll_67 rfl (lv_at hl 1 rfl) ?_
            have hP9 := hP.sub (ws' := [((a 0), .inr (5, [.ref (a 1), .ref (a 4), .ref (a 6), .ref (a 7), .ref (a 8), .ref (ex 0), .int wv_17, .int (vi 1)])), ((a 1), .inr (6, [.ref (a 2), .ref (a 3), .int (vi 2), .int (vi 3), .int (vi 4), .int wv_16, .int wv_11, .int wv_12, .long wv_14, .int wv_15, .int wv_13, .int (vi 10), .int wv_9, .int wv_10])), ((a 2), .inl (T 0, 940, .inl (fi 0))), ((a 3), .inl (T 2, 27, .inr (.inl (fl 0)))), ((a 4), .inr (7, [.int (vi 13), .int (vi 14), .ref (a 5), .ref (ex 1), .ref (ex 2), .ref (ex 3), .ref (ex 4), .ref (ex 5), .ref (ex 6), .ref (ex 7), .ref (ex 8), .ref (ex 9)])), ((a 5), .inl (T 2, 9, .inr (.inl (fl 1)))), ((a 6), .inl (T 1, 40, .inl wf_3)), ((a 7), .inl (T 1, 40, .inl wf_4)), ((a 8), .inl (T 1, 40, .inl wf_5))]) [3, 4, 5, 6, 7, 8, 0, 1, 2] rfl
            have hD9 := hD.sub (ws' := [((a 0), .inr (5, [.ref (a 1), .ref (a 4), .ref (a 6), .ref (a 7), .ref (a 8), .ref (ex 0), .int wv_17, .int (vi 1)])), ((a 1), .inr (6, [.ref (a 2), .ref (a 3), .int (vi 2), .int (vi 3), .int (vi 4), .int wv_16, .int wv_11, .int wv_12, .long wv_14, .int wv_15, .int wv_13, .int (vi 10), .int wv_9, .int wv_10])), ((a 2), .inl (T 0, 940, .inl (fi 0))), ((a 3), .inl (T 2, 27, .inr (.inl (fl 0)))), ((a 4), .inr (7, [.int (vi 13), .int (vi 14), .ref (a 5), .ref (ex 1), .ref (ex 2), .ref (ex 3), .ref (ex 4), .ref (ex 5), .ref (ex 6), .ref (ex 7), .ref (ex 8), .ref (ex 9)])), ((a 5), .inl (T 2, 9, .inr (.inl (fl 1)))), ((a 6), .inl (T 1, 40, .inl wf_3)), ((a 7), .inl (T 1, 40, .inl wf_4)), ((a 8), .inl (T 1, 40, .inl wf_5))]) [3, 4, 5, 6, 7, 8, 0, 1, 2] (by decide +kernel) rfl
            rw [hQ]
            exact W.zret (v := 0) hx hb hr rfl (fun t ht hW => ⟨⟨0, 0, rfl, rfl, xf [wf_3, wf_4, wf_5], xh [], xv [wv_9, wv_10, wv_11, wv_12, wv_13, wv_15, wv_16, wv_17], xl [wv_14], by rw [ht]; exact hP9, hD9, ⟨(Or.inr ⟨rfl, by show True; first | trivial | omega | assumption⟩), hi_11, hi_10, hi_9, hi_8, (by show (0 : Int32).toInt = 1 → (vi 1).toInt + 1 ≤ (vi 1).toInt ∧ (wv_17).toInt ≤ (vi 0).toInt + 2 * ((vi 1).toInt - (vi 1).toInt) - 1; have k9_0 : (0 : Int32).toInt = 0 := (by decide); have k8 : (0 : Int32).toInt = 0 := (by decide); have k7 : (1 : Int32).toInt = 1 := (by decide); intro h9; exfalso; omega), (by show (0 : Int32).toInt = 1 → (wv_9).toInt = (vi 11).toInt; have k9_0 : (0 : Int32).toInt = 0 := (by decide); exact fun h9 => absurd h9 (by decide)), (by unfold R_X5_readAll_2; exact (fun Q9 k9_0 k9_1 k9_2 k9_3 k9_4 k9_5 k9_6 k9_7 => k9_4 hp0 hp1 hp2 hp3 hp4 hp5 hp6 hp7 hp8 hp9 fik flk vik vlk rk gk_1 gk_2 gk_3 gk_4 tb gk_0 w3_1 w2_1 wv_9 wv_10 wv_11 wv_12 wv_13 wv_14 wv_15 wv_16 wf_3 wf_4 wf_5 wv_17 hi_6 hi_7 hi_8 hi_9 hi_10 hi_11 hai9 hni9 hfj9 hbz_1 c11_2 rfl rfl rfl rfl rfl rfl rfl rfl rfl rfl rfl rfl rfl)), trivial⟩⟩, hS.F ht⟩) hS.2.2 dX5_readAll_68
          · have c11_2 := xnge (k := 20) (by decide) c11_2
            refine lv_iload_n hx hb dX5_readAll_14 rfl (lv_at hl 1 rfl) ?_
            refine lv_if_eq (tgt := 67) hx hb dX5_readAll_15 (by decide) (fun _ => ?_) (fun c => absurd (by decide) c)
            refine lv_iload_n hx hb dX5_readAll_67 rfl (lv_at hl 1 rfl) ?_
            have hP9 := hP.sub (ws' := [((a 0), .inr (5, [.ref (a 1), .ref (a 4), .ref (a 6), .ref (a 7), .ref (a 8), .ref (ex 0), .int wv_17, .int (vi 1)])), ((a 1), .inr (6, [.ref (a 2), .ref (a 3), .int (vi 2), .int (vi 3), .int (vi 4), .int wv_16, .int wv_11, .int wv_12, .long wv_14, .int wv_15, .int wv_13, .int (vi 10), .int wv_9, .int wv_10])), ((a 2), .inl (T 0, 940, .inl (fi 0))), ((a 3), .inl (T 2, 27, .inr (.inl (fl 0)))), ((a 4), .inr (7, [.int (vi 13), .int (vi 14), .ref (a 5), .ref (ex 1), .ref (ex 2), .ref (ex 3), .ref (ex 4), .ref (ex 5), .ref (ex 6), .ref (ex 7), .ref (ex 8), .ref (ex 9)])), ((a 5), .inl (T 2, 9, .inr (.inl (fl 1)))), ((a 6), .inl (T 1, 40, .inl wf_3)), ((a 7), .inl (T 1, 40, .inl wf_4)), ((a 8), .inl (T 1, 40, .inl wf_5))]) [3, 4, 5, 6, 7, 8, 0, 1, 2] rfl
            have hD9 := hD.sub (ws' := [((a 0), .inr (5, [.ref (a 1), .ref (a 4), .ref (a 6), .ref (a 7), .ref (a 8), .ref (ex 0), .int wv_17, .int (vi 1)])), ((a 1), .inr (6, [.ref (a 2), .ref (a 3), .int (vi 2), .int (vi 3), .int (vi 4), .int wv_16, .int wv_11, .int wv_12, .long wv_14, .int wv_15, .int wv_13, .int (vi 10), .int wv_9, .int wv_10])), ((a 2), .inl (T 0, 940, .inl (fi 0))), ((a 3), .inl (T 2, 27, .inr (.inl (fl 0)))), ((a 4), .inr (7, [.int (vi 13), .int (vi 14), .ref (a 5), .ref (ex 1), .ref (ex 2), .ref (ex 3), .ref (ex 4), .ref (ex 5), .ref (ex 6), .ref (ex 7), .ref (ex 8), .ref (ex 9)])), ((a 5), .inl (T 2, 9, .inr (.inl (fl 1)))), ((a 6), .inl (T 1, 40, .inl wf_3)), ((a 7), .inl (T 1, 40, .inl wf_4)), ((a 8), .inl (T 1, 40, .inl wf_5))]) [3, 4, 5, 6, 7, 8, 0, 1, 2] (by decide +kernel) rfl
            rw [hQ]
            exact W.zret (v := 0) hx hb hr rfl (fun t ht hW => ⟨⟨0, 0, rfl, rfl, xf [wf_3, wf_4, wf_5], xh [], xv [wv_9, wv_10, wv_11, wv_12, wv_13, wv_15, wv_16, wv_17], xl [wv_14], by rw [ht]; exact hP9, hD9, ⟨(Or.inr ⟨rfl, by show True; first | trivial | omega | assumption⟩), hi_11, hi_10, hi_9, hi_8, (by show (0 : Int32).toInt = 1 → (vi 1).toInt + 1 ≤ (vi 1).toInt ∧ (wv_17).toInt ≤ (vi 0).toInt + 2 * ((vi 1).toInt - (vi 1).toInt) - 1; have k9_0 : (0 : Int32).toInt = 0 := (by decide); have k8 : (0 : Int32).toInt = 0 := (by decide); have k7 : (1 : Int32).toInt = 1 := (by decide); intro h9; exfalso; omega), (by show (0 : Int32).toInt = 1 → (wv_9).toInt = (vi 11).toInt; have k9_0 : (0 : Int32).toInt = 0 := (by decide); exact fun h9 => absurd h9 (by decide)), (by unfold R_X5_readAll_2; exact (fun Q9 k9_0 k9_1 k9_2 k9_3 k9_4 k9_5 k9_6 k9_7 => k9_5 hp0 hp1 hp2 hp3 hp4 hp5 hp6 hp7 hp8 hp9 fik flk vik vlk rk gk_1 gk_2 gk_3 gk_4 tb gk_0 w3_1 w2_1 wv_9 wv_10 wv_11 wv_12 wv_13 wv_14 wv_15 wv_16 wf_3 wf_4 wf_5 wv_17 hi_6 hi_7 hi_8 hi_9 hi_10 hi_11 hai9 hni9 hfj9 hbz_1 c11_2 rfl rfl rfl rfl rfl rfl rfl rfl rfl rfl rfl rfl rfl)), trivial⟩⟩, hS.F ht⟩) hS.2.2 dX5_readAll_68
        · rw [xtoi (v := 1) (k := 1) (by decide) hbz_1] at hl
          refine lv_iload_n hx hb dX5_readAll_8 rfl (lv_at hl 0 rfl) ?_
          refine lv_bipush (v := 20) hx hb dX5_readAll_9 (by decide) ?_
          refine lv_icmp_ge (tgt := 67) hx hb dX5_readAll_11 (by decide) (fun c11_3 => ?_) (fun c11_3 => ?_)
          · have c11_3 := xge (k := 20) (by decide) c11_3
            refine lv_iload_n hx hb dX5_readAll_67 rfl (lv_at hl 1 rfl) ?_
            have hP9 := hP.sub (ws' := [((a 0), .inr (5, [.ref (a 1), .ref (a 4), .ref (a 6), .ref (a 7), .ref (a 8), .ref (ex 0), .int wv_17, .int (vi 1)])), ((a 1), .inr (6, [.ref (a 2), .ref (a 3), .int (vi 2), .int (vi 3), .int (vi 4), .int wv_16, .int wv_11, .int wv_12, .long wv_14, .int wv_15, .int wv_13, .int (vi 10), .int wv_9, .int wv_10])), ((a 2), .inl (T 0, 940, .inl (fi 0))), ((a 3), .inl (T 2, 27, .inr (.inl (fl 0)))), ((a 4), .inr (7, [.int (vi 13), .int (vi 14), .ref (a 5), .ref (ex 1), .ref (ex 2), .ref (ex 3), .ref (ex 4), .ref (ex 5), .ref (ex 6), .ref (ex 7), .ref (ex 8), .ref (ex 9)])), ((a 5), .inl (T 2, 9, .inr (.inl (fl 1)))), ((a 6), .inl (T 1, 40, .inl wf_3)), ((a 7), .inl (T 1, 40, .inl wf_4)), ((a 8), .inl (T 1, 40, .inl wf_5))]) [3, 4, 5, 6, 7, 8, 0, 1, 2] rfl
            have hD9 := hD.sub (ws' := [((a 0), .inr (5, [.ref (a 1), .ref (a 4), .ref (a 6), .ref (a 7), .ref (a 8), .ref (ex 0), .int wv_17, .int (vi 1)])), ((a 1), .inr (6, [.ref (a 2), .ref (a 3), .int (vi 2), .int (vi 3), .int (vi 4), .int wv_16, .int wv_11, .int wv_12, .long wv_14, .int wv_15, .int wv_13, .int (vi 10), .int wv_9, .int wv_10])), ((a 2), .inl (T 0, 940, .inl (fi 0))), ((a 3), .inl (T 2, 27, .inr (.inl (fl 0)))), ((a 4), .inr (7, [.int (vi 13), .int (vi 14), .ref (a 5), .ref (ex 1), .ref (ex 2), .ref (ex 3), .ref (ex 4), .ref (ex 5), .ref (ex 6), .ref (ex 7), .ref (ex 8), .ref (ex 9)])), ((a 5), .inl (T 2, 9, .inr (.inl (fl 1)))), ((a 6), .inl (T 1, 40, .inl wf_3)), ((a 7), .inl (T 1, 40, .inl wf_4)), ((a 8), .inl (T 1, 40, .inl wf_5))]) [3, 4, 5, 6, 7, 8, 0, 1, 2] (by decide +kernel) rfl
            rw [hQ]
            exact W.zret (v := 1) hx hb hr rfl (fun t ht hW => ⟨⟨1, 1, rfl, rfl, xf [wf_3, wf_4, wf_5], xh [], xv [wv_9, wv_10, wv_11, wv_12, wv_13, wv_15, wv_16, wv_17], xl [wv_14], by rw [ht]; exact hP9, hD9, ⟨(Or.inl ⟨rfl, by show True; first | trivial | omega | assumption⟩), hi_11, hi_10, hi_9, hi_8, (by show (1 : Int32).toInt = 1 → (vi 1).toInt + 1 ≤ (vi 1).toInt ∧ (wv_17).toInt ≤ (vi 0).toInt + 2 * ((vi 1).toInt - (vi 1).toInt) - 1; have k9_0 : (1 : Int32).toInt = 1 := (by decide); have k8 : (0 : Int32).toInt = 0 := (by decide); have k7 : (1 : Int32).toInt = 1 := (by decide); intro _; omega), (by show (1 : Int32).toInt = 1 → (wv_9).toInt = (vi 11).toInt; have k9_0 : (1 : Int32).toInt = 1 := (by decide); exact fun _ => (hfj9 hbz_1)), (by unfold R_X5_readAll_2; exact (fun Q9 k9_0 k9_1 k9_2 k9_3 k9_4 k9_5 k9_6 k9_7 => k9_6 hp0 hp1 hp2 hp3 hp4 hp5 hp6 hp7 hp8 hp9 fik flk vik vlk rk gk_1 gk_2 gk_3 gk_4 tb gk_0 w3_1 w2_1 wv_9 wv_10 wv_11 wv_12 wv_13 wv_14 wv_15 wv_16 wf_3 wf_4 wf_5 wv_17 hi_6 hi_7 hi_8 hi_9 hi_10 hi_11 hai9 hni9 hfj9 hbz_1 c11_3 rfl rfl rfl rfl rfl rfl rfl rfl rfl rfl rfl rfl rfl)), trivial⟩⟩, hS.F ht⟩) hS.2.2 dX5_readAll_68
          · have c11_3 := xnge (k := 20) (by decide) c11_3
            refine lv_iload_n hx hb dX5_readAll_14 rfl (lv_at hl 1 rfl) ?_
            refine lv_if_eq (tgt := 67) hx hb dX5_readAll_15 (by decide) (fun c => absurd c (by decide)) (fun _ => ?_)
            refine lv_aload_n hx hb dX5_readAll_18 rfl (lv_at hl 2 rfl) ?_
            refine va_get (D := D) (ci := 5) (v := .ref (a 1)) (C := RX5) (T := TX5) (N := 8) hx hb htg inX5 hown hK.1 hP 3 rfl rfl 0 (by decide) (htg _ kw_384) (fun _ h9 => h9) rfl dX5_readAll_19 ?_
            refine va_ldcS hx hb hown (hT.1 29 (by decide)) dX5_readAll_22 ?_
            obtain ⟨hC9, hPc, hDc, hFc⟩ := xcut (wc := (pre_X6_isWord_19 T (xa [(a 1)]) (xa [(a 2), (a 3)]) (xf []) (xh []) (xv [(vi 2), (vi 3), (vi 4), wv_16, wv_11, wv_12, wv_15, wv_13, (vi 10), wv_9, wv_10]) (xl [wv_14]))) hP hD hS hA [4] (by decide) rfl
            refine va_calli (va_runVN (As := [.ref (kK 29)]) (rest := []) ⟨hx, hb, hml, hown, htg⟩ (c_X6_isWord_19 l D T (xa [(a 1)]) (xa [(a 2), (a 3)]) (xf []) (xh []) (xv [(vi 2), (vi 3), (vi 4), wv_16, wv_11, wv_12, wv_15, wv_13, (vi 10), wv_9, wv_10]) (xl [wv_14]) kK kV H.size hp2 hp3 hi_10 hi_9 hi_8) ⟨va_cnB 1 htg (xg_ok kw_586) rfl rfl rfl (hK.2.1 _ kn_1207) (htg _ kw_2) (by decide +kernel) ⟨by rw [hR]; exact Nat.le_of_ble_eq_true rfl, by rw [hR]; exact Nat.le_of_ble_eq_true rfl⟩, htg _ kw_585, htg _ ks_8⟩ (xpreVs hK hPc hDc hT hFc hS (va_recv hK.1 hPc (ci := 6) (q0 := 0) rfl rfl)) rfl rfl hl.1 rfl (lv_room (Nat.le_of_ble_eq_true rfl)) dX5_readAll_24 ⟨by rw [hR]; exact Nat.le_of_ble_eq_true rfl, by rw [hR]; exact Nat.le_of_ble_eq_true rfl⟩) hS (fun q _ h => hFc q h) hFc (fun r9 u9 t H1 locs ht hvm hw hB hz1 hk1 hS => ?_)
            subst hw
            obtain ⟨fik_5, flk_5, vik_5, vlk_5, hP1, hD1, hG⟩ := hB
            rw [ht] at hP1
            obtain ⟨hP, hD⟩ := va_join (wr := [((a 6), .inl (T 1, 40, .inl wf_3)), ((a 7), .inl (T 1, 40, .inl wf_4)), ((a 8), .inl (T 1, 40, .inl wf_5)), ((a 0), .inr (5, [.ref (a 1), .ref (a 4), .ref (a 6), .ref (a 7), .ref (a 8), .ref (ex 0), .int wv_17, .int (vi 1)])), ((a 2), .inl (T 0, 940, .inl (fi 0))), ((a 3), .inl (T 2, 27, .inr (.inl (fl 0)))), ((a 4), .inr (7, [.int (vi 13), .int (vi 14), .ref (a 5), .ref (ex 1), .ref (ex 2), .ref (ex 3), .ref (ex 4), .ref (ex 5), .ref (ex 6), .ref (ex 7), .ref (ex 8), .ref (ex 9)])), ((a 5), .inl (T 2, 9, .inr (.inl (fl 1))))]) (w1 := [((a 1), .inr (6, [.ref (a 2), .ref (a 3), .int (vi 2), .int (vi 3), .int (vi 4), .int wv_16, .int wv_11, .int wv_12, .long wv_14, .int wv_15, .int wv_13, .int (vi 10), .int wv_9, .int wv_10]))]) hP hD [4] [0, 1, 2, 3, 5, 6, 7, 8] hC9 rfl (by decide) (by decide) hk1 hFc hP1 hD1
            obtain ⟨rk_5, er9⟩ : ∃ z, z = r9 := ⟨_, rfl⟩
            subst er9
            clear hPc hDc hFc hP1 hD1 hk1 hz1 hvm ht hC9
            generalize H1 = H at hP hS ⊢
            obtain ⟨hP, hD⟩ := (show xPD D A [((a 6), .inl (T 1, 40, .inl wf_3)), ((a 7), .inl (T 1, 40, .inl wf_4)), ((a 8), .inl (T 1, 40, .inl wf_5)), ((a 0), .inr (5, [.ref (a 1), .ref (a 4), .ref (a 6), .ref (a 7), .ref (a 8), .ref (ex 0), .int wv_17, .int (vi 1)])), ((a 2), .inl (T 0, 940, .inl (fi 0))), ((a 3), .inl (T 2, 27, .inr (.inl (fl 0)))), ((a 4), .inr (7, [.int (vi 13), .int (vi 14), .ref (a 5), .ref (ex 1), .ref (ex 2), .ref (ex 3), .ref (ex 4), .ref (ex 5), .ref (ex 6), .ref (ex 7), .ref (ex 8), .ref (ex 9)])), ((a 5), .inl (T 2, 9, .inr (.inl (fl 1)))), ((a 1), .inr (6, [.ref (a 2), .ref (a 3), .int (vi 2), .int (vi 3), .int (vi 4), .int wv_16, .int wv_11, .int wv_12, .long wv_14, .int wv_15, .int wv_13, .int (vi 10), .int wv_9, .int wv_10]))] H from ⟨hP, hD⟩)
            obtain ⟨gk_5_0, gk_5_1, -⟩ := hG
            replace gk_5_1 : DJ (rk_5.toInt = 1 ∧ (wv_11).toInt = 1 ∧ wv_14 = (6385252 : Int64)) (rk_5.toInt = 0 ∧ ¬ ((wv_11).toInt = 1 ∧ wv_14 = (6385252 : Int64))) := (P_X6_isWord_19 gk_5_1 : _)
            rcases (show (rk_5 = 1 ∧ (True)) ∨ (rk_5 = 0 ∧ (True)) from gk_5_0) with ⟨er9, gk_5_0⟩ | ⟨er9, gk_5_0⟩
            · refine xz_i 1 er9 ?_
              have tb_4 : rk_5.toInt = 1 := by rw [er9]; decide
              refine lv_if_eq (tgt := 67) hx hb dX5_readAll_27 (by decide) (fun c => absurd c (by decide)) (fun _ => ?_)
              refine lv_aload_n hx hb dX5_readAll_30 rfl (lv_at hl 2 rfl) ?_
              refine va_get (D := D) (ci := 5) (v := .ref (a 1)) (C := RX5) (T := TX5) (N := 8) hx hb htg inX5 hown hK.1 hP 3 rfl rfl 0 (by decide) (htg _ kw_384) (fun _ h9 => h9) rfl dX5_readAll_31 ?_
              obtain ⟨hC9, hPc, hDc, hFc⟩ := xcut (wc := (pre_X6_advance T (xa [(a 1), (a 2)]) (xa [(a 3)]) (xf [(fi 0)]) (xh []) (xv [(vi 2), (vi 3), (vi 4), wv_16, wv_11, wv_12, wv_15, wv_13, (vi 10), wv_9, wv_10]) (xl [wv_14]))) hP hD hS hA [8, 4] (by decide) rfl
              refine va_callv (va_runVN (As := []) (rest := []) ⟨hx, hb, hml, hown, htg⟩ (c_X6_advance l D T (xa [(a 1), (a 2)]) (xa [(a 3)]) (xf [(fi 0)]) (xh []) (xv [(vi 2), (vi 3), (vi 4), wv_16, wv_11, wv_12, wv_15, wv_13, (vi 10), wv_9, wv_10]) (xl [wv_14]) H.size hp2 hp3 hi_10 hi_9 hi_8) ⟨va_cnB 0 htg (xg_ok kw_577) rfl rfl rfl (hK.2.1 _ kn_1219) (htg _ kw_2) (by decide +kernel) ⟨by rw [hR]; exact Nat.le_of_ble_eq_true rfl, by rw [hR]; exact Nat.le_of_ble_eq_true rfl⟩, htg _ kw_576, htg _ ks_6⟩ (xpreV hK hPc hDc (va_recv hK.1 hPc (ci := 6) (q0 := 0) rfl rfl)) rfl rfl hl.1 rfl (lv_room (Nat.le_of_ble_eq_true rfl)) dX5_readAll_34 ⟨by rw [hR]; exact Nat.le_of_ble_eq_true rfl, by rw [hR]; exact Nat.le_of_ble_eq_true rfl⟩) hS (fun q _ h => hFc q h) hFc (fun u9 t H1 locs ht hvm hw hB hz1 hk1 hS => ?_)
              obtain ⟨fik_6, flk_6, vik_6, vlk_6, hP1, hD1, hG⟩ := hB
              rw [ht] at hP1
              obtain ⟨hP, hD⟩ := va_join (wr := [((a 6), .inl (T 1, 40, .inl wf_3)), ((a 7), .inl (T 1, 40, .inl wf_4)), ((a 8), .inl (T 1, 40, .inl wf_5)), ((a 0), .inr (5, [.ref (a 1), .ref (a 4), .ref (a 6), .ref (a 7), .ref (a 8), .ref (ex 0), .int wv_17, .int (vi 1)])), ((a 3), .inl (T 2, 27, .inr (.inl (fl 0)))), ((a 4), .inr (7, [.int (vi 13), .int (vi 14), .ref (a 5), .ref (ex 1), .ref (ex 2), .ref (ex 3), .ref (ex 4), .ref (ex 5), .ref (ex 6), .ref (ex 7), .ref (ex 8), .ref (ex 9)])), ((a 5), .inl (T 2, 9, .inr (.inl (fl 1))))]) (w1 := [((a 1), .inr (6, [.ref (a 2), .ref (a 3), .int (vi 2), .int (vi 3), .int (vi 4), .int (vik_6 4), .int (vik_6 0), .int (vik_6 1), .long (vlk_6 0), .int (vik_6 3), .int (vik_6 2), .int (vi 10), .int wv_9, .int wv_10])), ((a 2), .inl (T 0, 940, .inl (fi 0)))]) hP hD [8, 4] [0, 1, 2, 3, 5, 6, 7] hC9 rfl (by decide) (by decide) hk1 hFc hP1 hD1
              clear hPc hDc hFc hP1 hD1 hk1 hz1 hvm ht hC9
              generalize H1 = H at hP hS ⊢
              obtain ⟨hP, hD⟩ := (show xPD D A [((a 6), .inl (T 1, 40, .inl wf_3)), ((a 7), .inl (T 1, 40, .inl wf_4)), ((a 8), .inl (T 1, 40, .inl wf_5)), ((a 0), .inr (5, [.ref (a 1), .ref (a 4), .ref (a 6), .ref (a 7), .ref (a 8), .ref (ex 0), .int wv_17, .int (vi 1)])), ((a 3), .inl (T 2, 27, .inr (.inl (fl 0)))), ((a 4), .inr (7, [.int (vi 13), .int (vi 14), .ref (a 5), .ref (ex 1), .ref (ex 2), .ref (ex 3), .ref (ex 4), .ref (ex 5), .ref (ex 6), .ref (ex 7), .ref (ex 8), .ref (ex 9)])), ((a 5), .inl (T 2, 9, .inr (.inl (fl 1)))), ((a 1), .inr (6, [.ref (a 2), .ref (a 3), .int (vi 2), .int (vi 3), .int (vi 4), .int (vik_6 4), .int (vik_6 0), .int (vik_6 1), .long (vlk_6 0), .int (vik_6 3), .int (vik_6 2), .int (vi 10), .int wv_9, .int wv_10])), ((a 2), .inl (T 0, 940, .inl (fi 0)))] H from ⟨hP, hD⟩)
              obtain ⟨uk_6, eu9⟩ : ∃ z, z = u9 := ⟨_, rfl⟩
              subst eu9
              obtain ⟨gk_6_0, gk_6_1, gk_6_2, -⟩ := hG
              replace gk_6_2 : ∀ n m : Nat, (vi 3).toInt = (n : Int) → (vi 4).toInt = (m : Int) → (wv_16).toInt ≤ (vi 3).toInt → CC (trn (fi 0) n) n m ((wv_16).toInt).toNat (vi 3) (vi 4) (vik_6 0) (vik_6 1) (vik_6 4) (vlk_6 0) (vik_6 3) (vik_6 2) := (P_X6_advance gk_6_2 : _)
              replace gk_6_0 : 0 ≤ (vik_6 4).toInt ∧ (vik_6 4).toInt ≤ 940 := gk_6_0
              replace gk_6_1 : 0 ≤ (vik_6 1).toInt ∧ (vik_6 1).toInt ≤ 940 := gk_6_1
              refine lv_aload_n hx hb dX5_readAll_37 rfl (lv_at hl 2 rfl) ?_
              refine lv_iload_n hx hb dX5_readAll_38 rfl (lv_at hl 3 rfl) ?_
              obtain ⟨hC9, hPc, hDc, hFc⟩ := xcut (wc := (pre_X5_readOne_9 T (xa [(a 0), (a 1), (a 2), (a 3), (a 4), (a 5)]) (xa [(a 6), (a 7), (a 8), (ex 0), (ex 1), (ex 2), (ex 3), (ex 4), (ex 5), (ex 6), (ex 7), (ex 8), (ex 9)]) (xf [(fi 0)]) (xh [(fl 0), (fl 1)]) (xv [wv_17, (vi 1), (vi 2), (vi 3), (vi 4), (vik_6 4), (vik_6 0), (vik_6 1), (vik_6 3), (vik_6 2), (vi 10), wv_9, wv_10, (vi 13), (vi 14)]) (xl [(vlk_6 0)]))) hP hD hS hA [3, 7, 8, 4, 5, 6] (by decide) rfl
              refine va_calli (va_runV (As := [.int 9]) (rest := []) ⟨hx, hb, hml, hown, htg⟩ (c_X5_readOne_9 l D T (xa [(a 0), (a 1), (a 2), (a 3), (a 4), (a 5)]) (xa [(a 6), (a 7), (a 8), (ex 0), (ex 1), (ex 2), (ex 3), (ex 4), (ex 5), (ex 6), (ex 7), (ex 8), (ex 9)]) (xf [(fi 0)]) (xh [(fl 0), (fl 1)]) (xv [wv_17, (vi 1), (vi 2), (vi 3), (vi 4), (vik_6 4), (vik_6 0), (vik_6 1), (vik_6 3), (vik_6 2), (vi 10), wv_9, wv_10, (vi 13), (vi 14)]) (xl [(vlk_6 0)]) kK kV H.size hi_11 hp1 hp2 hp3 gk_6_0 gk_6_1 hi_8 hp7 hp8 (by show (wv_17).toInt ≤ 2 * (vi 1).toInt; first | omega | assumption)) ⟨callB_of 1 htg (xg_ok kw_1201) rfl rfl rfl (htg _ kw_12) (htg _ kw_1198) (by decide +kernel) ⟨by rw [hR]; exact Nat.le_of_ble_eq_true rfl, by rw [hR]; exact Nat.le_of_ble_eq_true rfl⟩, htg _ kw_1200, htg _ ks_103⟩ (xpreVs hK hPc hDc hT hFc hS (va_recv hK.1 hPc (ci := 5) (q0 := 0) rfl rfl)) rfl rfl hl.1 rfl (lv_room (Nat.le_of_ble_eq_true rfl)) dX5_readAll_39 ⟨by rw [hR]; exact Nat.le_of_ble_eq_true rfl, by rw [hR]; exact Nat.le_of_ble_eq_true rfl⟩) hS (fun q _ h => hFc q h) hFc (fun r9 u9 t H1 locs ht hvm hw hB hz1 hk1 hS => ?_)
              subst hw
              obtain ⟨fik_7, flk_7, vik_7, vlk_7, hP1, hD1, hG⟩ := hB
              rw [ht] at hP1
              obtain ⟨hP, hD⟩ := va_join (wr := [((a 6), .inl (T 1, 40, .inl wf_3)), ((a 7), .inl (T 1, 40, .inl wf_4)), ((a 8), .inl (T 1, 40, .inl wf_5))]) (w1 := [((a 0), .inr (5, [.ref (a 1), .ref (a 4), .ref (a 6), .ref (a 7), .ref (a 8), .ref (ex 0), .int wv_17, .int (vi 1)])), ((a 1), .inr (6, [.ref (a 2), .ref (a 3), .int (vi 2), .int (vi 3), .int (vi 4), .int (vik_6 4), .int (vik_6 0), .int (vik_6 1), .long (vlk_6 0), .int (vik_6 3), .int (vik_6 2), .int (vi 10), .int (vik_7 0), .int (vik_7 1)])), ((a 2), .inl (T 0, 940, .inl (fi 0))), ((a 3), .inl (T 2, 27, .inr (.inl (fl 0)))), ((a 4), .inr (7, [.int (vi 13), .int (vi 14), .ref (a 5), .ref (ex 1), .ref (ex 2), .ref (ex 3), .ref (ex 4), .ref (ex 5), .ref (ex 6), .ref (ex 7), .ref (ex 8), .ref (ex 9)])), ((a 5), .inl (T 2, 9, .inr (.inl (fl 1))))]) hP hD [3, 7, 8, 4, 5, 6] [0, 1, 2] hC9 rfl (by decide) (by decide) hk1 hFc hP1 hD1
              obtain ⟨rk_7, er9⟩ : ∃ z, z = r9 := ⟨_, rfl⟩
              subst er9
              clear hPc hDc hFc hP1 hD1 hk1 hz1 hvm ht hC9
              generalize H1 = H at hP hS ⊢
              obtain ⟨hP, hD⟩ := (show xPD D A [((a 6), .inl (T 1, 40, .inl wf_3)), ((a 7), .inl (T 1, 40, .inl wf_4)), ((a 8), .inl (T 1, 40, .inl wf_5)), ((a 0), .inr (5, [.ref (a 1), .ref (a 4), .ref (a 6), .ref (a 7), .ref (a 8), .ref (ex 0), .int wv_17, .int (vi 1)])), ((a 1), .inr (6, [.ref (a 2), .ref (a 3), .int (vi 2), .int (vi 3), .int (vi 4), .int (vik_6 4), .int (vik_6 0), .int (vik_6 1), .long (vlk_6 0), .int (vik_6 3), .int (vik_6 2), .int (vi 10), .int (vik_7 0), .int (vik_7 1)])), ((a 2), .inl (T 0, 940, .inl (fi 0))), ((a 3), .inl (T 2, 27, .inr (.inl (fl 0)))), ((a 4), .inr (7, [.int (vi 13), .int (vi 14), .ref (a 5), .ref (ex 1), .ref (ex 2), .ref (ex 3), .ref (ex 4), .ref (ex 5), .ref (ex 6), .ref (ex 7), .ref (ex 8), .ref (ex 9)])), ((a 5), .inl (T 2, 9, .inr (.inl (fl 1))))] H from ⟨hP, hD⟩)
              obtain ⟨gk_7_0, gk_7_1, gk_7_2, gk_7_3, gk_7_4, -⟩ := hG
              replace gk_7_4 : ∀ n m t : Nat, CC (trn (fi 0) n) n m t (vi 3) (vi 4) (vik_6 0) (vik_6 1) (vik_6 4) (vlk_6 0) (vik_6 3) (vik_6 2) → ∀ σ : List Bool, σ.length + 1 = 9 → (rk_7.toInt = 1 ∧ ∃ t' : Nat, CC (trn (fi 0) n) n m t' (vi 3) (vi 4) (vik_6 0) (vik_6 1) (vik_6 4) (vlk_6 0) (vik_6 3) (vik_6 2) ∧ gto n (SF (trn (fi 0) n) n m (ownB (fl 0)) (fl 1) (vi 13).toInt σ false (vi 1).toInt t) t (SF (trn (fi 0) n) n m (ownB (fl 0)) (fl 1) (vi 13).toInt (sps σ) true (vi 1).toInt t') t') ∨ (rk_7.toInt = 0 ∧ gfa n (SF (trn (fi 0) n) n m (ownB (fl 0)) (fl 1) (vi 13).toInt σ false (vi 1).toInt t) t (vik_7 0).toInt (vik_7 1).toInt) := (P_X5_readOne_9 gk_7_4 : _)
              replace gk_7_1 : 0 ≤ (vik_7 1).toInt ∧ (vik_7 1).toInt ≤ 940 := gk_7_1
              replace gk_7_2 : rk_7.toInt = 1 → (vi 1).toInt + 1 ≤ (vi 1).toInt ∧ (wv_17).toInt ≤ (wv_17).toInt + 2 * ((vi 1).toInt - (vi 1).toInt) - 1 := gk_7_2
              replace gk_7_3 : rk_7.toInt = 1 → (vik_7 0).toInt = (wv_9).toInt := gk_7_3
              rcases (show (rk_7 = 1 ∧ (True)) ∨ (rk_7 = 0 ∧ (True)) from gk_7_0) with ⟨er9, gk_7_0⟩ | ⟨er9, gk_7_0⟩
              · refine xz_i 1 er9 ?_
                have tb_5 : rk_7.toInt = 1 := by rw [er9]; decide
                refine lv_if_eq (tgt := 59) hx hb dX5_readAll_42 (by decide) (fun c => absurd c (by decide)) (fun _ => ?_)
                refine lv_aload_n hx hb dX5_readAll_45 rfl (lv_at hl 2 rfl) ?_
                refine lv_iconst (v := 1) hx hb dX5_readAll_46 (by decide) ?_
                refine lv_iconst (v := 0) hx hb dX5_readAll_47 (by decide) ?_
                refine lv_iconst (v := 0) hx hb dX5_readAll_48 (by decide) ?_
                obtain ⟨hC9, hPc, hDc, hFc⟩ := xcut (wc := (pre_X5_addStep_2 T (xa [(a 0), (a 6), (a 7), (a 8), (a 1)]) (xa [(a 4), (ex 0), (a 2), (a 3)]) (xf [wf_3, wf_4, wf_5]) (xh []) (xv [0, 0, wv_17, (vi 1), (vi 2), (vi 3), (vi 4), (vik_6 4), (vik_6 0), (vik_6 1), (vik_6 3), (vik_6 2), (vi 10), (vik_7 0), (vik_7 1)]) (xl [(vlk_6 0)]))) hP hD hS hA [3, 0, 1, 2, 4] (by decide) rfl
                refine va_calli (va_runV (As := [.int 1, .int 0, .int 0]) (rest := []) ⟨hx, hb, hml, hown, htg⟩ (c_X5_addStep_2 l D T (xa [(a 0), (a 6), (a 7), (a 8), (a 1)]) (xa [(a 4), (ex 0), (a 2), (a 3)]) (xf [wf_3, wf_4, wf_5]) (xh []) (xv [0, 0, wv_17, (vi 1), (vi 2), (vi 3), (vi 4), (vik_6 4), (vik_6 0), (vik_6 1), (vik_6 3), (vik_6 2), (vi 10), (vik_7 0), (vik_7 1)]) (xl [(vlk_6 0)]) H.size hi_11 hp1 hp2 hp3 gk_6_0 gk_6_1 gk_7_1) ⟨callB_of 3 htg (xg_ok kw_1223) rfl rfl rfl (htg _ kw_12) (htg _ kw_1220) (by decide +kernel) ⟨by rw [hR]; exact Nat.le_of_ble_eq_true rfl, by rw [hR]; exact Nat.le_of_ble_eq_true rfl⟩, htg _ kw_1222, htg _ ks_105⟩ (xpreV hK hPc hDc (va_recv hK.1 hPc (ci := 5) (q0 := 0) rfl rfl)) rfl rfl hl.1 rfl (lv_room (Nat.le_of_ble_eq_true rfl)) dX5_readAll_49 ⟨by rw [hR]; exact Nat.le_of_ble_eq_true rfl, by rw [hR]; exact Nat.le_of_ble_eq_true rfl⟩) hS (fun q _ h => hFc q h) hFc (fun r9 u9 t H1 locs ht hvm hw hB hz1 hk1 hS => ?_)
                subst hw
                obtain ⟨fik_8, flk_8, vik_8, vlk_8, hP1, hD1, hG⟩ := hB
                rw [ht] at hP1
                obtain ⟨hP, hD⟩ := va_join (wr := [((a 2), .inl (T 0, 940, .inl (fi 0))), ((a 3), .inl (T 2, 27, .inr (.inl (fl 0)))), ((a 4), .inr (7, [.int (vi 13), .int (vi 14), .ref (a 5), .ref (ex 1), .ref (ex 2), .ref (ex 3), .ref (ex 4), .ref (ex 5), .ref (ex 6), .ref (ex 7), .ref (ex 8), .ref (ex 9)])), ((a 5), .inl (T 2, 9, .inr (.inl (fl 1))))]) (w1 := [((a 0), .inr (5, [.ref (a 1), .ref (a 4), .ref (a 6), .ref (a 7), .ref (a 8), .ref (ex 0), .int (vik_8 0), .int (vi 1)])), ((a 6), .inl (T 1, 40, .inl (fik_8 0))), ((a 7), .inl (T 1, 40, .inl (fik_8 1))), ((a 8), .inl (T 1, 40, .inl (fik_8 2))), ((a 1), .inr (6, [.ref (a 2), .ref (a 3), .int (vi 2), .int (vi 3), .int (vi 4), .int (vik_6 4), .int (vik_6 0), .int (vik_6 1), .long (vlk_6 0), .int (vik_6 3), .int (vik_6 2), .int (vi 10), .int (vik_8 1), .int (vik_8 2)]))]) hP hD [3, 0, 1, 2, 4] [5, 6, 7, 8] hC9 rfl (by decide) (by decide) hk1 hFc hP1 hD1
                obtain ⟨rk_8, er9⟩ : ∃ z, z = r9 := ⟨_, rfl⟩
                subst er9
                clear hPc hDc hFc hP1 hD1 hk1 hz1 hvm ht hC9
                generalize H1 = H at hP hS ⊢
                obtain ⟨hP, hD⟩ := (show xPD D A [((a 2), .inl (T 0, 940, .inl (fi 0))), ((a 3), .inl (T 2, 27, .inr (.inl (fl 0)))), ((a 4), .inr (7, [.int (vi 13), .int (vi 14), .ref (a 5), .ref (ex 1), .ref (ex 2), .ref (ex 3), .ref (ex 4), .ref (ex 5), .ref (ex 6), .ref (ex 7), .ref (ex 8), .ref (ex 9)])), ((a 5), .inl (T 2, 9, .inr (.inl (fl 1)))), ((a 0), .inr (5, [.ref (a 1), .ref (a 4), .ref (a 6), .ref (a 7), .ref (a 8), .ref (ex 0), .int (vik_8 0), .int (vi 1)])), ((a 6), .inl (T 1, 40, .inl (fik_8 0))), ((a 7), .inl (T 1, 40, .inl (fik_8 1))), ((a 8), .inl (T 1, 40, .inl (fik_8 2))), ((a 1), .inr (6, [.ref (a 2), .ref (a 3), .int (vi 2), .int (vi 3), .int (vi 4), .int (vik_6 4), .int (vik_6 0), .int (vik_6 1), .long (vlk_6 0), .int (vik_6 3), .int (vik_6 2), .int (vi 10), .int (vik_8 1), .int (vik_8 2)]))] H from ⟨hP, hD⟩)
                obtain ⟨gk_8_0, gk_8_1, gk_8_2, gk_8_3, -⟩ := hG
                replace gk_8_1 : 0 ≤ (vik_8 0).toInt ∧ (vik_8 0).toInt ≤ 40 := gk_8_1
                replace gk_8_2 : 0 ≤ (vik_8 2).toInt ∧ (vik_8 2).toInt ≤ 940 := gk_8_2
                replace gk_8_3 : rk_8.toInt = 1 → (vik_8 1).toInt = (vik_7 0).toInt := gk_8_3
                rcases (show (rk_8 = 1 ∧ ((wv_17).toInt < 40 ∧ (vik_8 0).toInt = (wv_17).toInt + 1)) ∨ (rk_8 = 0 ∧ (40 ≤ (wv_17).toInt)) from gk_8_0) with ⟨er9, gk_8_0⟩ | ⟨er9, gk_8_0⟩
                · refine xz_i 1 er9 ?_
                  have tb_6 : rk_8.toInt = 1 := by rw [er9]; decide
                  refine lv_if_eq (tgt := 59) hx hb dX5_readAll_52 (by decide) (fun c => absurd c (by decide)) (fun _ => ?_)
                  refine lv_iconst (v := 1) hx hb dX5_readAll_55 (by decide) ?_
                  refine lv_goto (tgt := 60) hx hb dX5_readAll_56 (by decide) ?_
                  refine lv_istore_n (lv' := [(2, .int 1), (3, .int w3_1), (0, .ref (a 0)), (1, .int 9)]) hx hb dX5_readAll_60 rfl hl (by decide) rfl (fun ls hl => ?_)
                  obtain ⟨i61_3, ei61_3⟩ : ∃ z : Int32, w3_1 + Int32.ofInt 1 = z := ⟨_, rfl⟩
                  have ti61_3 : i61_3.toInt = w3_1.toInt + 1 := by rw [← ei61_3]; have h79 := xrng w3_1; exact xadd rfl (by decide) (by omega) (by omega)
                  refine lv_iinc (v := i61_3) (lv' := [(3, .int i61_3), (2, .int 1), (0, .ref (a 0)), (1, .int 9)]) hx hb dX5_readAll_61 hl (k := 1) rfl ei61_3 (by decide) rfl (fun ls hl => ?_)
                  refine lv_goto (tgt := 8) hx hb dX5_readAll_64 (by decide) ?_
                  exact ih_1 _ (by omega) i61_3 (1 : Int32) (vik_8 1) (vik_8 2) (vik_6 0) (vik_6 1) (vik_6 2) (vlk_6 0) (vik_6 3) (vik_6 4) (fik_8 0) (fik_8 1) (fik_8 2) (vik_8 0) _ _ _ (by show 0 ≤ i61_3.toInt ∧ i61_3.toInt ≤ 20; omega) (show 0 ≤ (1 : Int32).toInt ∧ (1 : Int32).toInt ≤ 1 by decide) gk_8_2 gk_6_1 gk_6_0 gk_8_1 (by show ∀ n m t : Nat, CC (trn (fi 0) n) n m t (vi 3) (vi 4) (vi 6) (vi 7) (vi 5) (vl 0) (vi 8) (vi 9) → ∀ σ : List Bool, σ.length + 1 = 9 → sps σ = σ → DJ ((1 : Int32).toInt = 1 ∧ ∃ t' : Nat, CC (trn (fi 0) n) n m t' (vi 3) (vi 4) (vik_6 0) (vik_6 1) (vik_6 4) (vlk_6 0) (vik_6 3) (vik_6 2) ∧ gto n (SF (trn (fi 0) n) n m (ownB (fl 0)) (fl 1) (vi 13).toInt σ false (vi 1).toInt t) t (SF (trn (fi 0) n) n m (ownB (fl 0)) (fl 1) (vi 13).toInt σ true (vi 1).toInt t') t') ((1 : Int32).toInt = 0 ∧ gfa n (SF (trn (fi 0) n) n m (ownB (fl 0)) (fl 1) (vi 13).toInt σ false (vi 1).toInt t) t (vik_8 1).toInt (vik_8 2).toInt); have k9_0 : (1 : Int32).toInt = 1 := (by decide); have k8 : (0 : Int32).toInt = 0 := (by decide); have k7 : (1 : Int32).toInt = 1 := (by decide); intro n m t hc σ hd hs; rcases hai9 n m t hc σ hd hs with ⟨a1, t8, a2, a3⟩ | ⟨a1, a2⟩; (· obtain ⟨hn, hm, ht, ck, cp, ce, cw, cu, cg⟩ := id a2; have y9 : isW (trn (fi 0) n) n m t8 6385252 := (by rcases gk_5_1 with ⟨z1, z2, z3⟩ | ⟨z1, z2⟩; (· exact ⟨ck.symm.trans z2, by rw [← cw (ck.symm.trans z2)]; exact z3⟩); (· exfalso; omega)); have hc1 := CC_nx a2 gk_6_2; rcases gk_7_4 n m _ hc1 σ hd with ⟨b1, t9, b2, b3⟩ | ⟨b1, b2⟩; (· exact Or.inl ⟨by decide, t9, b2, gto_tr a3 (gto_tr (sg_join ht (Or.inl y9)) (by rw [hs] at b3; exact b3))⟩); (· exact absurd (b1.symm.trans tb_5) (by decide))); (· exfalso; omega)) (by show (1 : Int32).toInt = 1 → (vi 1).toInt + 1 + i61_3.toInt ≤ (vi 1).toInt ∧ (vik_8 0).toInt ≤ (vi 0).toInt + 2 * ((vi 1).toInt - (vi 1).toInt) - 1; have k9_0 : (1 : Int32).toInt = 1 := (by decide); have k8 : (0 : Int32).toInt = 0 := (by decide); have k7 : (1 : Int32).toInt = 1 := (by decide); intro _; omega) (by show (1 : Int32).toInt = 1 → (vik_8 1).toInt = (vi 11).toInt; have k9_0 : (1 : Int32).toInt = 1 := (by decide); exact fun _ => ((gk_8_3 tb_6).trans (gk_7_3 tb_5) |>.trans (hfj9 hbz_1))) rfl (hP.sub [5, 6, 7, 4, 8, 0, 1, 2, 3] rfl) (hD.sub [5, 6, 7, 4, 8, 0, 1, 2, 3] (by decide) rfl) hS (lv_sub hl [0, 1, 2, 3] rfl)
                · refine xz_i 0 er9 ?_
                  have tb_6 : rk_8.toInt = 0 := by rw [er9]; decide
                  refine lv_if_eq (tgt := 59) hx hb dX5_readAll_52 (by decide) (fun _ => ?_) (fun c => absurd (by decide) c)
                  refine lv_iconst (v := 0) hx hb dX5_readAll_59 (by decide) ?_
                  refine lv_istore_n (lv' := [(2, .int 0), (3, .int w3_1), (0, .ref (a 0)), (1, .int 9)]) hx hb dX5_readAll_60 rfl hl (by decide) rfl (fun ls hl => ?_)
                  obtain ⟨i61_4, ei61_4⟩ : ∃ z : Int32, w3_1 + Int32.ofInt 1 = z := ⟨_, rfl⟩
                  have ti61_4 : i61_4.toInt = w3_1.toInt + 1 := by rw [← ei61_4]; have h79 := xrng w3_1; exact xadd rfl (by decide) (by omega) (by omega)
                  refine lv_iinc (v := i61_4) (lv' := [(3, .int i61_4), (2, .int 0), (0, .ref (a 0)), (1, .int 9)]) hx hb dX5_readAll_61 hl (k := 1) rfl ei61_4 (by decide) rfl (fun ls hl => ?_)
                  refine lv_goto (tgt := 8) hx hb dX5_readAll_64 (by decide) ?_
                  exact ih_1 _ (by omega) i61_4 (0 : Int32) (vik_8 1) (vik_8 2) (vik_6 0) (vik_6 1) (vik_6 2) (vlk_6 0) (vik_6 3) (vik_6 4) (fik_8 0) (fik_8 1) (fik_8 2) (vik_8 0) _ _ _ (by show 0 ≤ i61_4.toInt ∧ i61_4.toInt ≤ 20; omega) (show 0 ≤ (0 : Int32).toInt ∧ (0 : Int32).toInt ≤ 1 by decide) gk_8_2 gk_6_1 gk_6_0 gk_8_1 (by show ∀ n m t : Nat, CC (trn (fi 0) n) n m t (vi 3) (vi 4) (vi 6) (vi 7) (vi 5) (vl 0) (vi 8) (vi 9) → ∀ σ : List Bool, σ.length + 1 = 9 → sps σ = σ → DJ ((0 : Int32).toInt = 1 ∧ ∃ t' : Nat, CC (trn (fi 0) n) n m t' (vi 3) (vi 4) (vik_6 0) (vik_6 1) (vik_6 4) (vlk_6 0) (vik_6 3) (vik_6 2) ∧ gto n (SF (trn (fi 0) n) n m (ownB (fl 0)) (fl 1) (vi 13).toInt σ false (vi 1).toInt t) t (SF (trn (fi 0) n) n m (ownB (fl 0)) (fl 1) (vi 13).toInt σ true (vi 1).toInt t') t') ((0 : Int32).toInt = 0 ∧ gfa n (SF (trn (fi 0) n) n m (ownB (fl 0)) (fl 1) (vi 13).toInt σ false (vi 1).toInt t) t (vik_8 1).toInt (vik_8 2).toInt); have k9_0 : (0 : Int32).toInt = 0 := (by decide); have k8 : (0 : Int32).toInt = 0 := (by decide); have k7 : (1 : Int32).toInt = 1 := (by decide); intro n m t hc σ hd hs; rcases hai9 n m t hc σ hd hs with ⟨a1, t8, a2, a3⟩ | ⟨a1, a2⟩; (· obtain ⟨hn, hm, ht, ck, cp, ce, cw, cu, cg⟩ := id a2; have y9 : isW (trn (fi 0) n) n m t8 6385252 := (by rcases gk_5_1 with ⟨z1, z2, z3⟩ | ⟨z1, z2⟩; (· exact ⟨ck.symm.trans z2, by rw [← cw (ck.symm.trans z2)]; exact z3⟩); (· exfalso; omega)); have hc1 := CC_nx a2 gk_6_2; rcases gk_7_4 n m _ hc1 σ hd with ⟨b1, t9, b2, b3⟩ | ⟨b1, b2⟩; (· exfalso; omega); (· exact absurd (b1.symm.trans tb_5) (by decide))); (· exfalso; omega)) (by show (0 : Int32).toInt = 1 → (vi 1).toInt + 1 + i61_4.toInt ≤ (vi 1).toInt ∧ (vik_8 0).toInt ≤ (vi 0).toInt + 2 * ((vi 1).toInt - (vi 1).toInt) - 1; have k9_0 : (0 : Int32).toInt = 0 := (by decide); have k8 : (0 : Int32).toInt = 0 := (by decide); have k7 : (1 : Int32).toInt = 1 := (by decide); intro h9; exfalso; omega) (by show (0 : Int32).toInt = 1 → (vik_8 1).toInt = (vi 11).toInt; have k9_0 : (0 : Int32).toInt = 0 := (by decide); exact fun h9 => absurd h9 (by decide)) rfl (hP.sub [5, 6, 7, 4, 8, 0, 1, 2, 3] rfl) (hD.sub [5, 6, 7, 4, 8, 0, 1, 2, 3] (by decide) rfl) hS (lv_sub hl [0, 1, 2, 3] rfl)
              · refine xz_i 0 er9 ?_
                have tb_5 : rk_7.toInt = 0 := by rw [er9]; decide
                refine lv_if_eq (tgt := 59) hx hb dX5_readAll_42 (by decide) (fun _ => ?_) (fun c => absurd (by decide) c)
                refine lv_iconst (v := 0) hx hb dX5_readAll_59 (by decide) ?_
                refine lv_istore_n (lv' := [(2, .int 0), (3, .int w3_1), (0, .ref (a 0)), (1, .int 9)]) hx hb dX5_readAll_60 rfl hl (by decide) rfl (fun ls hl => ?_)
                obtain ⟨i61_5, ei61_5⟩ : ∃ z : Int32, w3_1 + Int32.ofInt 1 = z := ⟨_, rfl⟩
                have ti61_5 : i61_5.toInt = w3_1.toInt + 1 := by rw [← ei61_5]; have h79 := xrng w3_1; exact xadd rfl (by decide) (by omega) (by omega)
                refine lv_iinc (v := i61_5) (lv' := [(3, .int i61_5), (2, .int 0), (0, .ref (a 0)), (1, .int 9)]) hx hb dX5_readAll_61 hl (k := 1) rfl ei61_5 (by decide) rfl (fun ls hl => ?_)
                refine lv_goto (tgt := 8) hx hb dX5_readAll_64 (by decide) ?_
                exact ih_1 _ (by omega) i61_5 (0 : Int32) (vik_7 0) (vik_7 1) (vik_6 0) (vik_6 1) (vik_6 2) (vlk_6 0) (vik_6 3) (vik_6 4) wf_3 wf_4 wf_5 wv_17 _ _ _ (by show 0 ≤ i61_5.toInt ∧ i61_5.toInt ≤ 20; omega) (show 0 ≤ (0 : Int32).toInt ∧ (0 : Int32).toInt ≤ 1 by decide) gk_7_1 gk_6_1 gk_6_0 hi_11 (by show ∀ n m t : Nat, CC (trn (fi 0) n) n m t (vi 3) (vi 4) (vi 6) (vi 7) (vi 5) (vl 0) (vi 8) (vi 9) → ∀ σ : List Bool, σ.length + 1 = 9 → sps σ = σ → DJ ((0 : Int32).toInt = 1 ∧ ∃ t' : Nat, CC (trn (fi 0) n) n m t' (vi 3) (vi 4) (vik_6 0) (vik_6 1) (vik_6 4) (vlk_6 0) (vik_6 3) (vik_6 2) ∧ gto n (SF (trn (fi 0) n) n m (ownB (fl 0)) (fl 1) (vi 13).toInt σ false (vi 1).toInt t) t (SF (trn (fi 0) n) n m (ownB (fl 0)) (fl 1) (vi 13).toInt σ true (vi 1).toInt t') t') ((0 : Int32).toInt = 0 ∧ gfa n (SF (trn (fi 0) n) n m (ownB (fl 0)) (fl 1) (vi 13).toInt σ false (vi 1).toInt t) t (vik_7 0).toInt (vik_7 1).toInt); have k9_0 : (0 : Int32).toInt = 0 := (by decide); have k8 : (0 : Int32).toInt = 0 := (by decide); have k7 : (1 : Int32).toInt = 1 := (by decide); intro n m t hc σ hd hs; rcases hai9 n m t hc σ hd hs with ⟨a1, t8, a2, a3⟩ | ⟨a1, a2⟩; (· obtain ⟨hn, hm, ht, ck, cp, ce, cw, cu, cg⟩ := id a2; have y9 : isW (trn (fi 0) n) n m t8 6385252 := (by rcases gk_5_1 with ⟨z1, z2, z3⟩ | ⟨z1, z2⟩; (· exact ⟨ck.symm.trans z2, by rw [← cw (ck.symm.trans z2)]; exact z3⟩); (· exfalso; omega)); have hc1 := CC_nx a2 gk_6_2; rcases gk_7_4 n m _ hc1 σ hd with ⟨b1, t9, b2, b3⟩ | ⟨b1, b2⟩; (· exact absurd (b1.symm.trans tb_5) (by decide)); (· exact Or.inr ⟨by decide, gto_fa (gto_tr a3 (sg_join ht (Or.inl y9))) b2⟩)); (· exfalso; omega)) (by show (0 : Int32).toInt = 1 → (vi 1).toInt + 1 + i61_5.toInt ≤ (vi 1).toInt ∧ (wv_17).toInt ≤ (vi 0).toInt + 2 * ((vi 1).toInt - (vi 1).toInt) - 1; have k9_0 : (0 : Int32).toInt = 0 := (by decide); have k8 : (0 : Int32).toInt = 0 := (by decide); have k7 : (1 : Int32).toInt = 1 := (by decide); intro h9; exfalso; omega) (by show (0 : Int32).toInt = 1 → (vik_7 0).toInt = (vi 11).toInt; have k9_0 : (0 : Int32).toInt = 0 := (by decide); exact fun h9 => absurd h9 (by decide)) rfl (hP.sub [0, 1, 2, 3, 4, 5, 6, 7, 8] rfl) (hD.sub [0, 1, 2, 3, 4, 5, 6, 7, 8] (by decide) rfl) hS (lv_sub hl [0, 1, 2, 3] rfl)
            · refine xz_i 0 er9 ?_
              have tb_4 : rk_5.toInt = 0 := by rw [er9]; decide
              refine lv_if_eq (tgt := 67) hx hb dX5_readAll_27 (by decide) (fun _ => ?_) (fun c => absurd (by decide) c)
              refine lv_iload_n hx hb dX5_readAll_67 rfl (lv_at hl 1 rfl) ?_
              have hP9 := hP.sub (ws' := [((a 0), .inr (5, [.ref (a 1), .ref (a 4), .ref (a 6), .ref (a 7), .ref (a 8), .ref (ex 0), .int wv_17, .int (vi 1)])), ((a 1), .inr (6, [.ref (a 2), .ref (a 3), .int (vi 2), .int (vi 3), .int (vi 4), .int wv_16, .int wv_11, .int wv_12, .long wv_14, .int wv_15, .int wv_13, .int (vi 10), .int wv_9, .int wv_10])), ((a 2), .inl (T 0, 940, .inl (fi 0))), ((a 3), .inl (T 2, 27, .inr (.inl (fl 0)))), ((a 4), .inr (7, [.int (vi 13), .int (vi 14), .ref (a 5), .ref (ex 1), .ref (ex 2), .ref (ex 3), .ref (ex 4), .ref (ex 5), .ref (ex 6), .ref (ex 7), .ref (ex 8), .ref (ex 9)])), ((a 5), .inl (T 2, 9, .inr (.inl (fl 1)))), ((a 6), .inl (T 1, 40, .inl wf_3)), ((a 7), .inl (T 1, 40, .inl wf_4)), ((a 8), .inl (T 1, 40, .inl wf_5))]) [3, 8, 4, 5, 6, 7, 0, 1, 2] rfl
              have hD9 := hD.sub (ws' := [((a 0), .inr (5, [.ref (a 1), .ref (a 4), .ref (a 6), .ref (a 7), .ref (a 8), .ref (ex 0), .int wv_17, .int (vi 1)])), ((a 1), .inr (6, [.ref (a 2), .ref (a 3), .int (vi 2), .int (vi 3), .int (vi 4), .int wv_16, .int wv_11, .int wv_12, .long wv_14, .int wv_15, .int wv_13, .int (vi 10), .int wv_9, .int wv_10])), ((a 2), .inl (T 0, 940, .inl (fi 0))), ((a 3), .inl (T 2, 27, .inr (.inl (fl 0)))), ((a 4), .inr (7, [.int (vi 13), .int (vi 14), .ref (a 5), .ref (ex 1), .ref (ex 2), .ref (ex 3), .ref (ex 4), .ref (ex 5), .ref (ex 6), .ref (ex 7), .ref (ex 8), .ref (ex 9)])), ((a 5), .inl (T 2, 9, .inr (.inl (fl 1)))), ((a 6), .inl (T 1, 40, .inl wf_3)), ((a 7), .inl (T 1, 40, .inl wf_4)), ((a 8), .inl (T 1, 40, .inl wf_5))]) [3, 8, 4, 5, 6, 7, 0, 1, 2] (by decide +kernel) rfl
              rw [hQ]
              exact W.zret (v := 1) hx hb hr rfl (fun t ht hW => ⟨⟨1, 1, rfl, rfl, xf [wf_3, wf_4, wf_5], xh [], xv [wv_9, wv_10, wv_11, wv_12, wv_13, wv_15, wv_16, wv_17], xl [wv_14], by rw [ht]; exact hP9, hD9, ⟨(Or.inl ⟨rfl, by show True; first | trivial | omega | assumption⟩), hi_11, hi_10, hi_9, hi_8, (by show (1 : Int32).toInt = 1 → (vi 1).toInt + 1 ≤ (vi 1).toInt ∧ (wv_17).toInt ≤ (vi 0).toInt + 2 * ((vi 1).toInt - (vi 1).toInt) - 1; have k9_0 : (1 : Int32).toInt = 1 := (by decide); have k8 : (0 : Int32).toInt = 0 := (by decide); have k7 : (1 : Int32).toInt = 1 := (by decide); intro _; omega), (by show (1 : Int32).toInt = 1 → (wv_9).toInt = (vi 11).toInt; have k9_0 : (1 : Int32).toInt = 1 := (by decide); exact fun _ => (hfj9 hbz_1)), (by unfold R_X5_readAll_2; exact (fun Q9 k9_0 k9_1 k9_2 k9_3 k9_4 k9_5 k9_6 k9_7 => k9_7 hp0 hp1 hp2 hp3 hp4 hp5 hp6 hp7 hp8 hp9 fik flk vik vlk rk gk_1 gk_2 gk_3 gk_4 tb gk_0 w3_1 w2_1 wv_9 wv_10 wv_11 wv_12 wv_13 wv_14 wv_15 wv_16 wf_3 wf_4 wf_5 wv_17 hi_6 hi_7 hi_8 hi_9 hi_10 hi_11 hai9 hni9 hfj9 hbz_1 c11_3 fik_5 flk_5 vik_5 vlk_5 rk_5 gk_5_1 tb_4 gk_5_0 rfl rfl rfl rfl rfl rfl rfl rfl rfl rfl rfl rfl rfl)), trivial⟩⟩, hS.F ht⟩) hS.2.2 dX5_readAll_68
    exact lp_1 _ (0 : Int32) (0 : Int32) (vik 0) (vik 1) (vi 6) (vi 7) (vi 9) (vl 0) (vi 8) (vi 5) (fi 1) (fi 2) (fi 3) (vi 0) _ _ _ (show 0 ≤ (0 : Int32).toInt ∧ (0 : Int32).toInt ≤ 20 by decide) (show 0 ≤ (0 : Int32).toInt ∧ (0 : Int32).toInt ≤ 1 by decide) gk_1 hp5 hp4 hp0 (by show ∀ n m t : Nat, CC (trn (fi 0) n) n m t (vi 3) (vi 4) (vi 6) (vi 7) (vi 5) (vl 0) (vi 8) (vi 9) → ∀ σ : List Bool, σ.length + 1 = 9 → sps σ = σ → DJ ((0 : Int32).toInt = 1 ∧ ∃ t' : Nat, CC (trn (fi 0) n) n m t' (vi 3) (vi 4) (vi 6) (vi 7) (vi 5) (vl 0) (vi 8) (vi 9) ∧ gto n (SF (trn (fi 0) n) n m (ownB (fl 0)) (fl 1) (vi 13).toInt σ false (vi 1).toInt t) t (SF (trn (fi 0) n) n m (ownB (fl 0)) (fl 1) (vi 13).toInt σ true (vi 1).toInt t') t') ((0 : Int32).toInt = 0 ∧ gfa n (SF (trn (fi 0) n) n m (ownB (fl 0)) (fl 1) (vi 13).toInt σ false (vi 1).toInt t) t (vik 0).toInt (vik 1).toInt); have k9_0 : (0 : Int32).toInt = 0 := (by decide); have k8 : (0 : Int32).toInt = 0 := (by decide); have k7 : (1 : Int32).toInt = 1 := (by decide); intro n m t hc σ hd hs; rcases gk_4 n m t hc σ hd with ⟨b1, t9, b2, b3⟩ | ⟨b1, b2⟩; (· exact absurd (b1.symm.trans tb) (by decide)); (· exact Or.inr ⟨by decide, b2⟩)) (by show (0 : Int32).toInt = 1 → (vi 1).toInt + 1 + (0 : Int32).toInt ≤ (vi 1).toInt ∧ (vi 0).toInt ≤ (vi 0).toInt + 2 * ((vi 1).toInt - (vi 1).toInt) - 1; have k9_0 : (0 : Int32).toInt = 0 := (by decide); have k8 : (0 : Int32).toInt = 0 := (by decide); have k7 : (1 : Int32).toInt = 1 := (by decide); intro h9; exfalso; omega) (by show (0 : Int32).toInt = 1 → (vik 0).toInt = (vi 11).toInt; have k9_0 : (0 : Int32).toInt = 0 := (by decide); exact fun h9 => absurd h9 (by decide)) rfl hP hD hS hl
abbrev pre_J0_coder_7d493_20 (T : Nat → ClassId) (a ex : Nat → Nat) (fi : Nat → Nat → Int32) (fl : Nat → Nat → Int64) (vi : Nat → Int32) (vl : Nat → Int64) : va_W := []
set_option maxHeartbeats 8000000 in
set_option maxRecDepth 100000 in
theorem c_J0_coder_7d493_20 (l : Launch) (D : va_G) (T : Nat → ClassId) (a ex : Nat → Nat) (fi : Nat → Nat → Int32) (fl : Nat → Nat → Int64) (vi : Nat → Int32) (vl : Nat → Int64) (kK kV : Nat → Nat) (sz : Nat) : Met l yJ0_coder_7d493 (xw yJ0_coder_7d493 cJ0_coder_7d493 1 (some .byte)) ({ frames := 0, cells := 0, slots := 0, locals := 0 }) (xPs D T kK kV [.ref (kK 30)] sz (pre_J0_coder_7d493_20 T a ex fi fl vi vl)) (va_Qi (fun r u => r = u) (xC D (va_A (pre_J0_coder_7d493_20 T a ex fi fl vi vl) sz) (fun fj fm vj vm => []) (fun (r : Int32) (fj : Nat → Nat → Int32) (fm : Nat → Nat → Int64) (vj : Nat → Int32) (vm : Nat → Int64) => r = 0 ∧ True)) (va_A (pre_J0_coder_7d493_20 T a ex fi fl vi vl) sz)) 0 0 (va_A (pre_J0_coder_7d493_20 T a ex fi fl vi vl) sz) := by
  refine xofW (cc := cJ0_coder_7d493) (maxL := 1) (ret := (some .byte)) (by decide) rfl ?_
  intro p e s m args below meth c s₁ R Q hR hQ B hml hv
  obtain ⟨rfl, hsz, hP, hK, hD0, hT⟩ := hv
  have hx := B.exec
  have hb := B.bytes
  have hr := B.returns
  have hts := atoms_spec (ws := xw yJ0_coder_7d493 cJ0_coder_7d493 1 (some .byte)) B.pre
  have htg : ∀ w ∈ xg, w.before _ s = true := fun w h => hts w (List.mem_cons_of_mem _ h)
  have hown : s.vm.findClass RJ0 = some m.cls := findClass_of_methodNamed B.named
  have hlocks := B.notSynchronized
  subst hsz
  have hD := hD0.self (sz := s.heap.size)
  generalize hAe : va_A (pre_J0_coder_7d493_20 T a ex fi fl vi vl) s.heap.size = A at hD hQ hT
  have hA : ∀ q : Nat, s.heap.size ≤ q → A q := fun q h => by rw [← hAe]; exact Or.inr h
  have hS : va_S A s.heap s.heap [] := va_S.rf
  replace hP : va_P D vwCl [] s.heap := hP
  replace hD : va_D A [] := hD
  have hl := lv_entry ([.ref (kK 30)]) (n := 1) (Nat.le_of_ble_eq_true rfl)
  rw [lg_entry_eq]
  generalize (lg_sl ([.ref (kK 30)]) ++ List.replicate (1 - (lg_sl ([.ref (kK 30)])).length) Slot.unset).toArray = ls at hl ⊢
  replace hl : lv_has ls 1 [(0, .ref (kK 30))] := hl
  refine va_gets hx hb hT.2.2.1 hS hown (htg _ kw_52) (fun _ h9 => h9) dJ0_coder_7d493_0 ?_
  refine lv_if_eq (tgt := 13) hx hb dJ0_coder_7d493_3 (by decide) (fun c => absurd c (by decide)) (fun _ => ?_)
  refine lv_aload_n hx hb dJ0_coder_7d493_6 rfl (lv_at hl 0 rfl) ?_
  refine vk_getf hx hb (hT.2.1 30 (by decide)).2.1 hS hown (htg _ kw_2031) (fun _ h9 => h9) dJ0_coder_7d493_7 ?_
  refine lv_goto (tgt := 14) hx hb dJ0_coder_7d493_10 (by decide) ?_
  have hP9 := hP.sub (ws' := []) [] rfl
  have hD9 := hD.sub (ws' := []) [] (by decide +kernel) rfl
  rw [hQ]
  exact W.zret (v := 0) hx hb hr rfl (fun t ht hW => ⟨⟨0, 0, rfl, rfl, xf [], xh [], xv [], xl [], by rw [ht]; exact hP9, hD9, ⟨rfl, trivial⟩⟩, hS.F ht⟩) hS.2.2 dJ0_coder_7d493_14
abbrev pre_J0_length_8abf5_20 (T : Nat → ClassId) (a ex : Nat → Nat) (fi : Nat → Nat → Int32) (fl : Nat → Nat → Int64) (vi : Nat → Int32) (vl : Nat → Int64) : va_W := []
set_option maxHeartbeats 8000000 in
set_option maxRecDepth 100000 in
theorem c_J0_length_8abf5_20 (l : Launch) (D : va_G) (T : Nat → ClassId) (a ex : Nat → Nat) (fi : Nat → Nat → Int32) (fl : Nat → Nat → Int64) (vi : Nat → Int32) (vl : Nat → Int64) (kK kV : Nat → Nat) (sz : Nat) : Met l yJ0_length_8abf5 (xw yJ0_length_8abf5 cJ0_length_8abf5 1 (some .int)) ({ frames := 1, cells := 0, slots := 0, locals := 24 }) (xPs D T kK kV [.ref (kK 30)] sz (pre_J0_length_8abf5_20 T a ex fi fl vi vl)) (va_Qi (fun r u => r = u) (xC D (va_A (pre_J0_length_8abf5_20 T a ex fi fl vi vl) sz) (fun fj fm vj vm => []) (fun (r : Int32) (fj : Nat → Nat → Int32) (fm : Nat → Nat → Int64) (vj : Nat → Int32) (vm : Nat → Int64) => r = 2 ∧ True)) (va_A (pre_J0_length_8abf5_20 T a ex fi fl vi vl) sz)) 0 0 (va_A (pre_J0_length_8abf5_20 T a ex fi fl vi vl) sz) := by
  refine xofW (cc := cJ0_length_8abf5) (maxL := 1) (ret := (some .int)) (by decide) rfl ?_
  intro p e s m args below meth c s₁ R Q hR hQ B hml hv
  obtain ⟨rfl, hsz, hP, hK, hD0, hT⟩ := hv
  have hx := B.exec
  have hb := B.bytes
  have hr := B.returns
  have hts := atoms_spec (ws := xw yJ0_length_8abf5 cJ0_length_8abf5 1 (some .int)) B.pre
  have htg : ∀ w ∈ xg, w.before _ s = true := fun w h => hts w (List.mem_cons_of_mem _ h)
  have hown : s.vm.findClass RJ0 = some m.cls := findClass_of_methodNamed B.named
  have hlocks := B.notSynchronized
  subst hsz
  have hD := hD0.self (sz := s.heap.size)
  generalize hAe : va_A (pre_J0_length_8abf5_20 T a ex fi fl vi vl) s.heap.size = A at hD hQ hT
  have hA : ∀ q : Nat, s.heap.size ≤ q → A q := fun q h => by rw [← hAe]; exact Or.inr h
  have hS : va_S A s.heap s.heap [] := va_S.rf
  replace hP : va_P D vwCl [] s.heap := hP
  replace hD : va_D A [] := hD
  have hl := lv_entry ([.ref (kK 30)]) (n := 1) (Nat.le_of_ble_eq_true rfl)
  rw [lg_entry_eq]
  generalize (lg_sl ([.ref (kK 30)]) ++ List.replicate (1 - (lg_sl ([.ref (kK 30)])).length) Slot.unset).toArray = ls at hl ⊢
  replace hl : lv_has ls 1 [(0, .ref (kK 30))] := hl
  refine lv_aload_n hx hb dJ0_length_8abf5_0 rfl (lv_at hl 0 rfl) ?_
  refine vk_getf hx hb (hT.2.1 30 (by decide)).2.2.1 hS hown (htg _ kw_2030) (fun _ h9 => h9) dJ0_length_8abf5_1 ?_
  refine va_tlen (v := 2) hx hb (hT.2.1 30 (by decide)).2.2.2 hS (by decide) dJ0_length_8abf5_4 ?_
  refine lv_aload_n hx hb dJ0_length_8abf5_5 rfl (lv_at hl 0 rfl) ?_
  obtain ⟨hC9, hPc, hDc, hFc⟩ := xcut (wc := (pre_J0_coder_7d493_20 T (xa []) (xa []) (xf []) (xh []) (xv []) (xl []))) hP hD hS hA [] (by decide) rfl
  refine va_calli (va_runV (As := []) (rest := [.int 2]) ⟨hx, hb, hml, hown, htg⟩ (c_J0_coder_7d493_20 l D T (xa []) (xa []) (xf []) (xh []) (xv []) (xl []) kK kV s.heap.size) ⟨callB_of 0 htg (xg_ok kw_51) rfl rfl rfl (htg _ kw_3) (htg _ kw_48) (by decide +kernel) ⟨by rw [hR]; exact Nat.le_of_ble_eq_true rfl, by rw [hR]; exact Nat.le_of_ble_eq_true rfl⟩, htg _ kw_49, htg _ kw_50⟩ (xpreVs hK hPc hDc hT hFc hS (xT.recv hT 30 (by decide) hS)) rfl rfl hl.1 rfl (lv_room (Nat.le_of_ble_eq_true rfl)) dJ0_length_8abf5_6 ⟨by rw [hR]; exact Nat.le_of_ble_eq_true rfl, by rw [hR]; exact Nat.le_of_ble_eq_true rfl⟩) hS (fun q _ h => hFc q h) hFc (fun r9 u9 t H1 locs ht hvm hw hB hz1 hk1 hS => ?_)
  subst hw
  obtain ⟨fik, flk, vik, vlk, hP1, hD1, hG⟩ := hB
  rw [ht] at hP1
  obtain ⟨hP, hD⟩ := va_join (wr := []) (w1 := []) hP hD [] [] hC9 rfl (by decide) (by decide) hk1 hFc hP1 hD1
  obtain ⟨rk, er9⟩ : ∃ z, z = r9 := ⟨_, rfl⟩
  subst er9
  clear hPc hDc hFc hP1 hD1 hk1 hz1 hvm ht hC9
  generalize H1 = H at hP hS ⊢
  obtain ⟨hP, hD⟩ := (show xPD D A [] H from ⟨hP, hD⟩)
  obtain ⟨gk_0, -⟩ := hG
  replace gk_0 : rk = 0 := gk_0
  refine xz_i 0 gk_0 ?_
  refine lv_ishr hx hb dJ0_length_8abf5_9 ?_
  refine xz_i 2 (by decide) ?_
  have hP9 := hP.sub (ws' := []) [] rfl
  have hD9 := hD.sub (ws' := []) [] (by decide +kernel) rfl
  rw [hQ]
  exact W.iret (v := 2) hx hb hr (fun t ht hW => ⟨⟨2, 2, rfl, rfl, xf [], xh [], xv [], xl [], by rw [ht]; exact hP9, hD9, ⟨rfl, trivial⟩⟩, hS.F ht⟩) hS.2.2 dJ0_length_8abf5_10
abbrev pre_J0_isLatin1_aae02_20 (T : Nat → ClassId) (a ex : Nat → Nat) (fi : Nat → Nat → Int32) (fl : Nat → Nat → Int64) (vi : Nat → Int32) (vl : Nat → Int64) : va_W := []
set_option maxHeartbeats 8000000 in
set_option maxRecDepth 100000 in
theorem c_J0_isLatin1_aae02_20 (l : Launch) (D : va_G) (T : Nat → ClassId) (a ex : Nat → Nat) (fi : Nat → Nat → Int32) (fl : Nat → Nat → Int64) (vi : Nat → Int32) (vl : Nat → Int64) (kK kV : Nat → Nat) (sz : Nat) : Met l yJ0_isLatin1_aae02 (xw yJ0_isLatin1_aae02 cJ0_isLatin1_aae02 1 (some .boolean)) ({ frames := 0, cells := 0, slots := 0, locals := 0 }) (xPs D T kK kV [.ref (kK 30)] sz (pre_J0_isLatin1_aae02_20 T a ex fi fl vi vl)) (va_Qi (fun r u => r = u) (xC D (va_A (pre_J0_isLatin1_aae02_20 T a ex fi fl vi vl) sz) (fun fj fm vj vm => []) (fun (r : Int32) (fj : Nat → Nat → Int32) (fm : Nat → Nat → Int64) (vj : Nat → Int32) (vm : Nat → Int64) => r = 1 ∧ True)) (va_A (pre_J0_isLatin1_aae02_20 T a ex fi fl vi vl) sz)) 0 0 (va_A (pre_J0_isLatin1_aae02_20 T a ex fi fl vi vl) sz) := by
  refine xofW (cc := cJ0_isLatin1_aae02) (maxL := 1) (ret := (some .boolean)) (by decide) rfl ?_
  intro p e s m args below meth c s₁ R Q hR hQ B hml hv
  obtain ⟨rfl, hsz, hP, hK, hD0, hT⟩ := hv
  have hx := B.exec
  have hb := B.bytes
  have hr := B.returns
  have hts := atoms_spec (ws := xw yJ0_isLatin1_aae02 cJ0_isLatin1_aae02 1 (some .boolean)) B.pre
  have htg : ∀ w ∈ xg, w.before _ s = true := fun w h => hts w (List.mem_cons_of_mem _ h)
  have hown : s.vm.findClass RJ0 = some m.cls := findClass_of_methodNamed B.named
  have hlocks := B.notSynchronized
  subst hsz
  have hD := hD0.self (sz := s.heap.size)
  generalize hAe : va_A (pre_J0_isLatin1_aae02_20 T a ex fi fl vi vl) s.heap.size = A at hD hQ hT
  have hA : ∀ q : Nat, s.heap.size ≤ q → A q := fun q h => by rw [← hAe]; exact Or.inr h
  have hS : va_S A s.heap s.heap [] := va_S.rf
  replace hP : va_P D vwCl [] s.heap := hP
  replace hD : va_D A [] := hD
  have hl := lv_entry ([.ref (kK 30)]) (n := 1) (Nat.le_of_ble_eq_true rfl)
  rw [lg_entry_eq]
  generalize (lg_sl ([.ref (kK 30)]) ++ List.replicate (1 - (lg_sl ([.ref (kK 30)])).length) Slot.unset).toArray = ls at hl ⊢
  replace hl : lv_has ls 1 [(0, .ref (kK 30))] := hl
  refine va_gets hx hb hT.2.2.1 hS hown (htg _ kw_52) (fun _ h9 => h9) dJ0_isLatin1_aae02_0 ?_
  refine lv_if_eq (tgt := 17) hx hb dJ0_isLatin1_aae02_3 (by decide) (fun c => absurd c (by decide)) (fun _ => ?_)
  refine lv_aload_n hx hb dJ0_isLatin1_aae02_6 rfl (lv_at hl 0 rfl) ?_
  refine vk_getf hx hb (hT.2.1 30 (by decide)).2.1 hS hown (htg _ kw_2031) (fun _ h9 => h9) dJ0_isLatin1_aae02_7 ?_
  refine lv_if_ne (tgt := 17) hx hb dJ0_isLatin1_aae02_10 (by decide) (fun c => absurd (by decide) c) (fun _ => ?_)
  refine lv_iconst (v := 1) hx hb dJ0_isLatin1_aae02_13 (by decide) ?_
  refine lv_goto (tgt := 18) hx hb dJ0_isLatin1_aae02_14 (by decide) ?_
  have hP9 := hP.sub (ws' := []) [] rfl
  have hD9 := hD.sub (ws' := []) [] (by decide +kernel) rfl
  rw [hQ]
  exact W.zret (v := 1) hx hb hr rfl (fun t ht hW => ⟨⟨1, 1, rfl, rfl, xf [], xh [], xv [], xl [], by rw [ht]; exact hP9, hD9, ⟨rfl, trivial⟩⟩, hS.F ht⟩) hS.2.2 dJ0_isLatin1_aae02_18
abbrev pre_J3_checkIndex_8e157_9 (T : Nat → ClassId) (a ex : Nat → Nat) (fi : Nat → Nat → Int32) (fl : Nat → Nat → Int64) (vi : Nat → Int32) (vl : Nat → Int64) : va_W := []
set_option maxHeartbeats 8000000 in
set_option maxRecDepth 100000 in
theorem c_J3_checkIndex_8e157_9 (l : Launch) (D : va_G) (T : Nat → ClassId) (a ex : Nat → Nat) (fi : Nat → Nat → Int32) (fl : Nat → Nat → Int64) (vi : Nat → Int32) (vl : Nat → Int64) (sz : Nat) (hp0 : 0 ≤ (vi 0).toInt ∧ (vi 0).toInt ≤ 1) : Met l yJ3_checkIndex_8e157 (xw yJ3_checkIndex_8e157 cJ3_checkIndex_8e157 3 (some .int)) ({ frames := 0, cells := 0, slots := 0, locals := 0 }) (xP D T [.int (vi 0), .int 2, .null] sz (pre_J3_checkIndex_8e157_9 T a ex fi fl vi vl)) (va_Qi (fun r u => r = u) (xC D (va_A (pre_J3_checkIndex_8e157_9 T a ex fi fl vi vl) sz) (fun fj fm vj vm => []) (fun (r : Int32) (fj : Nat → Nat → Int32) (fm : Nat → Nat → Int64) (vj : Nat → Int32) (vm : Nat → Int64) => True)) (va_A (pre_J3_checkIndex_8e157_9 T a ex fi fl vi vl) sz)) 0 0 (va_A (pre_J3_checkIndex_8e157_9 T a ex fi fl vi vl) sz) := by
  refine xofW (cc := cJ3_checkIndex_8e157) (maxL := 3) (ret := (some .int)) (by decide) rfl ?_
  intro p e s m args below meth c s₁ R Q hR hQ B hml hv
  obtain ⟨rfl, hsz, hP, hK, hD0⟩ := hv
  have hx := B.exec
  have hb := B.bytes
  have hr := B.returns
  have hts := atoms_spec (ws := xw yJ3_checkIndex_8e157 cJ3_checkIndex_8e157 3 (some .int)) B.pre
  have htg : ∀ w ∈ xg, w.before _ s = true := fun w h => hts w (List.mem_cons_of_mem _ h)
  have hown : s.vm.findClass RJ3 = some m.cls := findClass_of_methodNamed B.named
  have hlocks := B.notSynchronized
  subst hsz
  have hD := hD0.self (sz := s.heap.size)
  generalize hAe : va_A (pre_J3_checkIndex_8e157_9 T a ex fi fl vi vl) s.heap.size = A at hD hQ
  have hA : ∀ q : Nat, s.heap.size ≤ q → A q := fun q h => by rw [← hAe]; exact Or.inr h
  have hS : va_S A s.heap s.heap [] := va_S.rf
  replace hP : va_P D vwCl [] s.heap := hP
  replace hD : va_D A [] := hD
  have hl := lv_entry ([.int (vi 0), .int 2, .null]) (n := 3) (Nat.le_of_ble_eq_true rfl)
  rw [lg_entry_eq]
  generalize (lg_sl ([.int (vi 0), .int 2, .null]) ++ List.replicate (3 - (lg_sl ([.int (vi 0), .int 2, .null])).length) Slot.unset).toArray = ls at hl ⊢
  replace hl : lv_has ls 3 [(0, .int (vi 0)), (1, .int 2), (2, .null)] := hl
  refine lv_iload_n hx hb dJ3_checkIndex_8e157_0 rfl (lv_at hl 0 rfl) ?_
  refine lv_if_lt (tgt := 9) hx hb dJ3_checkIndex_8e157_1 (by decide) (fun c => by exfalso; have h9 := xlt (k := 0) (by decide) c; have h7 := xrng (vi 0); omega) (fun _ => ?_)
  refine lv_iload_n hx hb dJ3_checkIndex_8e157_4 rfl (lv_at hl 0 rfl) ?_
  refine lv_iload_n hx hb dJ3_checkIndex_8e157_5 rfl (lv_at hl 1 rfl) ?_
  refine lv_icmp_lt (tgt := 16) hx hb dJ3_checkIndex_8e157_6 (by decide) (fun _ => ?_) (fun c => by exfalso; have h9 := xnlt (k := 2) (by decide) c; have h7 := xrng (vi 0); omega)
  refine lv_iload_n hx hb dJ3_checkIndex_8e157_16 rfl (lv_at hl 0 rfl) ?_
  have hP9 := hP.sub (ws' := []) [] rfl
  have hD9 := hD.sub (ws' := []) [] (by decide +kernel) rfl
  rw [hQ]
  exact W.iret (v := (vi 0)) hx hb hr (fun t ht hW => ⟨⟨(vi 0), (vi 0), rfl, rfl, xf [], xh [], xv [], xl [], by rw [ht]; exact hP9, hD9, trivial⟩, hS.F ht⟩) hS.2.2 dJ3_checkIndex_8e157_17
abbrev pre_J3_checkIndex_8e157_10 (T : Nat → ClassId) (a ex : Nat → Nat) (fi : Nat → Nat → Int32) (fl : Nat → Nat → Int64) (vi : Nat → Int32) (vl : Nat → Int64) : va_W := []
set_option maxHeartbeats 8000000 in
set_option maxRecDepth 100000 in
theorem c_J3_checkIndex_8e157_10 (l : Launch) (D : va_G) (T : Nat → ClassId) (a ex : Nat → Nat) (fi : Nat → Nat → Int32) (fl : Nat → Nat → Int64) (vi : Nat → Int32) (vl : Nat → Int64) (sz : Nat) (hp0 : 0 ≤ (vi 0).toInt ∧ (vi 0).toInt ≤ 1) : Met l yJ3_checkIndex_8e157 (xw yJ3_checkIndex_8e157 cJ3_checkIndex_8e157 3 (some .int)) ({ frames := 0, cells := 0, slots := 0, locals := 0 }) (xP D T [.int (vi 0), .int 2, .ref (ex 0)] sz (pre_J3_checkIndex_8e157_10 T a ex fi fl vi vl)) (va_Qi (fun r u => r = u) (xC D (va_A (pre_J3_checkIndex_8e157_10 T a ex fi fl vi vl) sz) (fun fj fm vj vm => []) (fun (r : Int32) (fj : Nat → Nat → Int32) (fm : Nat → Nat → Int64) (vj : Nat → Int32) (vm : Nat → Int64) => True)) (va_A (pre_J3_checkIndex_8e157_10 T a ex fi fl vi vl) sz)) 0 0 (va_A (pre_J3_checkIndex_8e157_10 T a ex fi fl vi vl) sz) := by
  refine xofW (cc := cJ3_checkIndex_8e157) (maxL := 3) (ret := (some .int)) (by decide) rfl ?_
  intro p e s m args below meth c s₁ R Q hR hQ B hml hv
  obtain ⟨rfl, hsz, hP, hK, hD0⟩ := hv
  have hx := B.exec
  have hb := B.bytes
  have hr := B.returns
  have hts := atoms_spec (ws := xw yJ3_checkIndex_8e157 cJ3_checkIndex_8e157 3 (some .int)) B.pre
  have htg : ∀ w ∈ xg, w.before _ s = true := fun w h => hts w (List.mem_cons_of_mem _ h)
  have hown : s.vm.findClass RJ3 = some m.cls := findClass_of_methodNamed B.named
  have hlocks := B.notSynchronized
  subst hsz
  have hD := hD0.self (sz := s.heap.size)
  generalize hAe : va_A (pre_J3_checkIndex_8e157_10 T a ex fi fl vi vl) s.heap.size = A at hD hQ
  have hA : ∀ q : Nat, s.heap.size ≤ q → A q := fun q h => by rw [← hAe]; exact Or.inr h
  have hS : va_S A s.heap s.heap [] := va_S.rf
  replace hP : va_P D vwCl [] s.heap := hP
  replace hD : va_D A [] := hD
  have hl := lv_entry ([.int (vi 0), .int 2, .ref (ex 0)]) (n := 3) (Nat.le_of_ble_eq_true rfl)
  rw [lg_entry_eq]
  generalize (lg_sl ([.int (vi 0), .int 2, .ref (ex 0)]) ++ List.replicate (3 - (lg_sl ([.int (vi 0), .int 2, .ref (ex 0)])).length) Slot.unset).toArray = ls at hl ⊢
  replace hl : lv_has ls 3 [(0, .int (vi 0)), (1, .int 2), (2, .ref (ex 0))] := hl
  refine lv_iload_n hx hb dJ3_checkIndex_8e157_0 rfl (lv_at hl 0 rfl) ?_
  refine lv_if_lt (tgt := 9) hx hb dJ3_checkIndex_8e157_1 (by decide) (fun c => by exfalso; have h9 := xlt (k := 0) (by decide) c; have h7 := xrng (vi 0); omega) (fun _ => ?_)
  refine lv_iload_n hx hb dJ3_checkIndex_8e157_4 rfl (lv_at hl 0 rfl) ?_
  refine lv_iload_n hx hb dJ3_checkIndex_8e157_5 rfl (lv_at hl 1 rfl) ?_
  refine lv_icmp_lt (tgt := 16) hx hb dJ3_checkIndex_8e157_6 (by decide) (fun _ => ?_) (fun c => by exfalso; have h9 := xnlt (k := 2) (by decide) c; have h7 := xrng (vi 0); omega)
  refine lv_iload_n hx hb dJ3_checkIndex_8e157_16 rfl (lv_at hl 0 rfl) ?_
  have hP9 := hP.sub (ws' := []) [] rfl
  have hD9 := hD.sub (ws' := []) [] (by decide +kernel) rfl
  rw [hQ]
  exact W.iret (v := (vi 0)) hx hb hr (fun t ht hW => ⟨⟨(vi 0), (vi 0), rfl, rfl, xf [], xh [], xv [], xl [], by rw [ht]; exact hP9, hD9, trivial⟩, hS.F ht⟩) hS.2.2 dJ3_checkIndex_8e157_17
abbrev pre_J0_checkIndex_df160_5 (T : Nat → ClassId) (a ex : Nat → Nat) (fi : Nat → Nat → Int32) (fl : Nat → Nat → Int64) (vi : Nat → Int32) (vl : Nat → Int64) : va_W := []
set_option maxHeartbeats 8000000 in
set_option maxRecDepth 100000 in
theorem c_J0_checkIndex_df160_5 (l : Launch) (D : va_G) (T : Nat → ClassId) (a ex : Nat → Nat) (fi : Nat → Nat → Int32) (fl : Nat → Nat → Int64) (vi : Nat → Int32) (vl : Nat → Int64) (kK kV : Nat → Nat) (sz : Nat) (hp0 : 0 ≤ (vi 0).toInt ∧ (vi 0).toInt ≤ 1) : Met l yJ0_checkIndex_df160 (xw yJ0_checkIndex_df160 cJ0_checkIndex_df160 2 none) ({ frames := 1, cells := 0, slots := 0, locals := 26 }) (xPs D T kK kV [.int (vi 0), .int 2] sz (pre_J0_checkIndex_df160_5 T a ex fi fl vi vl)) (va_Qv (fun _ : Int32 => True) (xC D (va_A (pre_J0_checkIndex_df160_5 T a ex fi fl vi vl) sz) (fun fj fm vj vm => []) (fun (r : Int32) (fj : Nat → Nat → Int32) (fm : Nat → Nat → Int64) (vj : Nat → Int32) (vm : Nat → Int64) => True)) (va_A (pre_J0_checkIndex_df160_5 T a ex fi fl vi vl) sz)) 0 0 (va_A (pre_J0_checkIndex_df160_5 T a ex fi fl vi vl) sz) := by
  refine xofW (cc := cJ0_checkIndex_df160) (maxL := 2) (ret := none) (by decide) rfl ?_
  intro p e s m args below meth c s₁ R Q hR hQ B hml hv
  obtain ⟨rfl, hsz, hP, hK, hD0, hT⟩ := hv
  have hx := B.exec
  have hb := B.bytes
  have hr := B.returns
  have hts := atoms_spec (ws := xw yJ0_checkIndex_df160 cJ0_checkIndex_df160 2 none) B.pre
  have htg : ∀ w ∈ xg, w.before _ s = true := fun w h => hts w (List.mem_cons_of_mem _ h)
  have hown : s.vm.findClass RJ0 = some m.cls := findClass_of_methodNamed B.named
  have hlocks := B.notSynchronized
  subst hsz
  have hD := hD0.self (sz := s.heap.size)
  generalize hAe : va_A (pre_J0_checkIndex_df160_5 T a ex fi fl vi vl) s.heap.size = A at hD hQ hT
  have hA : ∀ q : Nat, s.heap.size ≤ q → A q := fun q h => by rw [← hAe]; exact Or.inr h
  have hS : va_S A s.heap s.heap [] := va_S.rf
  replace hP : va_P D vwCl [] s.heap := hP
  replace hD : va_D A [] := hD
  have hl := lv_entry ([.int (vi 0), .int 2]) (n := 2) (Nat.le_of_ble_eq_true rfl)
  rw [lg_entry_eq]
  generalize (lg_sl ([.int (vi 0), .int 2]) ++ List.replicate (2 - (lg_sl ([.int (vi 0), .int 2])).length) Slot.unset).toArray = ls at hl ⊢
  replace hl : lv_has ls 2 [(0, .int (vi 0)), (1, .int 2)] := hl
  refine lv_iload_n hx hb dJ0_checkIndex_df160_0 rfl (lv_at hl 0 rfl) ?_
  refine lv_iload_n hx hb dJ0_checkIndex_df160_1 rfl (lv_at hl 1 rfl) ?_
  rcases hT.2.2.2 with hz9 | ⟨z9, hz9⟩
  · refine va_gets hx hb hz9 hS hown (htg _ kw_68) (fun _ h9 => h9) dJ0_checkIndex_df160_2 ?_
    obtain ⟨hC9, hPc, hDc, hFc⟩ := xcut (wc := (pre_J3_checkIndex_8e157_9 T (xa []) (xa []) (xf []) (xh []) (xv [(vi 0)]) (xl []))) hP hD hS hA [] (by decide) rfl
    refine va_calli (va_runS (As := [.int (vi 0), .int 2, .null]) (rest := []) ⟨hx, hb, hml, hown, htg⟩ (c_J3_checkIndex_8e157_9 l D T (xa []) (xa []) (xf []) (xh []) (xv [(vi 0)]) (xl []) s.heap.size hp0) ⟨callB_of 3 htg (xg_ok kw_72) rfl rfl rfl (htg _ kw_5) (htg _ kw_70) (by decide +kernel) ⟨by rw [hR]; exact Nat.le_of_ble_eq_true rfl, by rw [hR]; exact Nat.le_of_ble_eq_true rfl⟩, htg _ kw_71⟩ (xpreS hK hPc hDc) rfl rfl hl.1 rfl (lv_room (Nat.le_of_ble_eq_true rfl)) dJ0_checkIndex_df160_5 ⟨by rw [hR]; exact Nat.le_of_ble_eq_true rfl, by rw [hR]; exact Nat.le_of_ble_eq_true rfl⟩) hS (fun q _ h => hFc q h) hFc (fun r9 u9 t H1 locs ht hvm hw hB hz1 hk1 hS => ?_)
    subst hw
    obtain ⟨fik, flk, vik, vlk, hP1, hD1, hG⟩ := hB
    rw [ht] at hP1
    obtain ⟨hP, hD⟩ := va_join (wr := []) (w1 := []) hP hD [] [] hC9 rfl (by decide) (by decide) hk1 hFc hP1 hD1
    obtain ⟨rk, er9⟩ : ∃ z, z = r9 := ⟨_, rfl⟩
    subst er9
    clear hPc hDc hFc hP1 hD1 hk1 hz1 hvm ht hC9
    generalize H1 = H at hP hS ⊢
    obtain ⟨hP, hD⟩ := (show xPD D A [] H from ⟨hP, hD⟩)
    clear hG
    refine lv_pop hx hb dJ0_checkIndex_df160_8 rfl ?_
    have hP9 := hP.sub (ws' := []) [] rfl
    have hD9 := hD.sub (ws' := []) [] (by decide +kernel) rfl
    rw [hQ]
    exact W.vret hx hb hr (fun t ht hW => ⟨⟨(0 : Int32), rfl, trivial, xf [], xh [], xv [], xl [], by rw [ht]; exact hP9, hD9, trivial⟩, hS.F ht⟩) hS.2.2 dJ0_checkIndex_df160_9
  · refine va_gets hx hb hz9 hS hown (htg _ kw_68) (fun _ h9 => h9) dJ0_checkIndex_df160_2 ?_
    obtain ⟨hC9, hPc, hDc, hFc⟩ := xcut (wc := (pre_J3_checkIndex_8e157_10 T (xa []) (xa [z9]) (xf []) (xh []) (xv [(vi 0)]) (xl []))) hP hD hS hA [] (by decide) rfl
    refine va_calli (va_runS (As := [.int (vi 0), .int 2, .ref z9]) (rest := []) ⟨hx, hb, hml, hown, htg⟩ (c_J3_checkIndex_8e157_10 l D T (xa []) (xa [z9]) (xf []) (xh []) (xv [(vi 0)]) (xl []) s.heap.size hp0) ⟨callB_of 3 htg (xg_ok kw_72) rfl rfl rfl (htg _ kw_5) (htg _ kw_70) (by decide +kernel) ⟨by rw [hR]; exact Nat.le_of_ble_eq_true rfl, by rw [hR]; exact Nat.le_of_ble_eq_true rfl⟩, htg _ kw_71⟩ (xpreS hK hPc hDc) rfl rfl hl.1 rfl (lv_room (Nat.le_of_ble_eq_true rfl)) dJ0_checkIndex_df160_5 ⟨by rw [hR]; exact Nat.le_of_ble_eq_true rfl, by rw [hR]; exact Nat.le_of_ble_eq_true rfl⟩) hS (fun q _ h => hFc q h) hFc (fun r9 u9 t H1 locs ht hvm hw hB hz1 hk1 hS => ?_)
    subst hw
    obtain ⟨fik_1, flk_1, vik_1, vlk_1, hP1, hD1, hG⟩ := hB
    rw [ht] at hP1
    obtain ⟨hP, hD⟩ := va_join (wr := []) (w1 := []) hP hD [] [] hC9 rfl (by decide) (by decide) hk1 hFc hP1 hD1
    obtain ⟨rk_1, er9⟩ : ∃ z, z = r9 := ⟨_, rfl⟩
    subst er9
    clear hPc hDc hFc hP1 hD1 hk1 hz1 hvm ht hC9
    generalize H1 = H at hP hS ⊢
    obtain ⟨hP, hD⟩ := (show xPD D A [] H from ⟨hP, hD⟩)
    clear hG
    refine lv_pop hx hb dJ0_checkIndex_df160_8 rfl ?_
    have hP9 := hP.sub (ws' := []) [] rfl
    have hD9 := hD.sub (ws' := []) [] (by decide +kernel) rfl
    rw [hQ]
    exact W.vret hx hb hr (fun t ht hW => ⟨⟨(0 : Int32), rfl, trivial, xf [], xh [], xv [], xl [], by rw [ht]; exact hP9, hD9, trivial⟩, hS.F ht⟩) hS.2.2 dJ0_checkIndex_df160_9
abbrev pre_J1_charAt_3b067_20 (T : Nat → ClassId) (a ex : Nat → Nat) (fi : Nat → Nat → Int32) (fl : Nat → Nat → Int64) (vi : Nat → Int32) (vl : Nat → Int64) : va_W := []
set_option maxHeartbeats 8000000 in
set_option maxRecDepth 100000 in
theorem c_J1_charAt_3b067_20 (l : Launch) (D : va_G) (T : Nat → ClassId) (a ex : Nat → Nat) (fi : Nat → Nat → Int32) (fl : Nat → Nat → Int64) (vi : Nat → Int32) (vl : Nat → Int64) (kK kV : Nat → Nat) (sz : Nat) (hp0 : 0 ≤ (vi 0).toInt ∧ (vi 0).toInt ≤ 1) : Met l yJ1_charAt_3b067 (xw yJ1_charAt_3b067 cJ1_charAt_3b067 2 (some .char)) ({ frames := 2, cells := 0, slots := 0, locals := 51 }) (xPs D T kK kV [.ref (kV 30), .int (vi 0)] sz (pre_J1_charAt_3b067_20 T a ex fi fl vi vl)) (va_Qi (fun r u => r = u) (xC D (va_A (pre_J1_charAt_3b067_20 T a ex fi fl vi vl) sz) (fun fj fm vj vm => []) (fun (r : Int32) (fj : Nat → Nat → Int32) (fm : Nat → Nat → Int64) (vj : Nat → Int32) (vm : Nat → Int64) => narrow .char (.int r) = .int r ∧ R_J1_charAt_3b067_20 fi fl vi vl r fj fm vj vm ∧ True)) (va_A (pre_J1_charAt_3b067_20 T a ex fi fl vi vl) sz)) 0 0 (va_A (pre_J1_charAt_3b067_20 T a ex fi fl vi vl) sz) := by
  refine xofW (cc := cJ1_charAt_3b067) (maxL := 2) (ret := (some .char)) (by decide) rfl ?_
  intro p e s m args below meth c s₁ R Q hR hQ B hml hv
  obtain ⟨rfl, hsz, hP, hK, hD0, hT⟩ := hv
  have hx := B.exec
  have hb := B.bytes
  have hr := B.returns
  have hts := atoms_spec (ws := xw yJ1_charAt_3b067 cJ1_charAt_3b067 2 (some .char)) B.pre
  have htg : ∀ w ∈ xg, w.before _ s = true := fun w h => hts w (List.mem_cons_of_mem _ h)
  have hown : s.vm.findClass RJ1 = some m.cls := findClass_of_methodNamed B.named
  have hlocks := B.notSynchronized
  subst hsz
  have hD := hD0.self (sz := s.heap.size)
  generalize hAe : va_A (pre_J1_charAt_3b067_20 T a ex fi fl vi vl) s.heap.size = A at hD hQ hT
  have hA : ∀ q : Nat, s.heap.size ≤ q → A q := fun q h => by rw [← hAe]; exact Or.inr h
  have hS : va_S A s.heap s.heap [] := va_S.rf
  replace hP : va_P D vwCl [] s.heap := hP
  replace hD : va_D A [] := hD
  have hl := lv_entry ([.ref (kV 30), .int (vi 0)]) (n := 2) (Nat.le_of_ble_eq_true rfl)
  rw [lg_entry_eq]
  generalize (lg_sl ([.ref (kV 30), .int (vi 0)]) ++ List.replicate (2 - (lg_sl ([.ref (kV 30), .int (vi 0)])).length) Slot.unset).toArray = ls at hl ⊢
  replace hl : lv_has ls 2 [(0, .ref (kV 30)), (1, .int (vi 0))] := hl
  refine lv_iload_n hx hb dJ1_charAt_3b067_0 rfl (lv_at hl 1 rfl) ?_
  refine lv_aload_n hx hb dJ1_charAt_3b067_1 rfl (lv_at hl 0 rfl) ?_
  refine va_tlen (v := 2) hx hb (hT.2.1 30 (by decide)).2.2.2 hS (by decide) dJ1_charAt_3b067_2 ?_
  obtain ⟨hC9, hPc, hDc, hFc⟩ := xcut (wc := (pre_J0_checkIndex_df160_5 T (xa []) (xa []) (xf []) (xh []) (xv [(vi 0)]) (xl []))) hP hD hS hA [] (by decide) rfl
  refine va_callv (va_runS (As := [.int (vi 0), .int 2]) (rest := []) ⟨hx, hb, hml, hown, htg⟩ (c_J0_checkIndex_df160_5 l D T (xa []) (xa []) (xf []) (xh []) (xv [(vi 0)]) (xl []) kK kV s.heap.size hp0) ⟨callB_of 2 htg (xg_ok kw_67) rfl rfl rfl (htg _ kw_3) (htg _ kw_65) (by decide +kernel) ⟨by rw [hR]; exact Nat.le_of_ble_eq_true rfl, by rw [hR]; exact Nat.le_of_ble_eq_true rfl⟩, htg _ kw_66⟩ (xpreSs hK hPc hDc hT hFc hS) rfl rfl hl.1 rfl (lv_room (Nat.le_of_ble_eq_true rfl)) dJ1_charAt_3b067_3 ⟨by rw [hR]; exact Nat.le_of_ble_eq_true rfl, by rw [hR]; exact Nat.le_of_ble_eq_true rfl⟩) hS (fun q _ h => hFc q h) hFc (fun u9 t H1 locs ht hvm hw hB hz1 hk1 hS => ?_)
  obtain ⟨fik, flk, vik, vlk, hP1, hD1, hG⟩ := hB
  rw [ht] at hP1
  obtain ⟨hP, hD⟩ := va_join (wr := []) (w1 := []) hP hD [] [] hC9 rfl (by decide) (by decide) hk1 hFc hP1 hD1
  clear hPc hDc hFc hP1 hD1 hk1 hz1 hvm ht hC9
  generalize H1 = H at hP hS ⊢
  obtain ⟨hP, hD⟩ := (show xPD D A [] H from ⟨hP, hD⟩)
  obtain ⟨uk, eu9⟩ : ∃ z, z = u9 := ⟨_, rfl⟩
  subst eu9
  clear hG
  refine lv_aload_n hx hb dJ1_charAt_3b067_6 rfl (lv_at hl 0 rfl) ?_
  refine lv_iload_n hx hb dJ1_charAt_3b067_7 rfl (lv_at hl 1 rfl) ?_
  refine va_tb hx hb (hT.2.1 30 (by decide)).2.2.2 hS (show vp_in (vi 0) 2 from (vp_in_iff.mpr (by omega))) rfl dJ1_charAt_3b067_8 ?_
  refine lv_topi (fun z8 ez8 => ?_)
  refine lv_sipush (v := 255) hx hb dJ1_charAt_3b067_9 (by decide) ?_
  refine lv_iand hx hb dJ1_charAt_3b067_12 ?_
  refine lv_topi (fun z12 ez12 => ?_)
  have tz12 : 0 ≤ z12.toInt ∧ z12.toInt ≤ 255 := by rw [ez12]; exact xand255 _
  refine lv_i2c hx hb dJ1_charAt_3b067_13 rfl ?_
  refine lv_topi (fun z13 ez13 => ?_)
  have nz13 : narrow .char (.int z13) = .int z13 := by rw [ez13]; exact pk_nc _
  have hP9 := hP.sub (ws' := []) [] rfl
  have hD9 := hD.sub (ws' := []) [] (by decide +kernel) rfl
  rw [hQ]
  exact W.zret (v := z13) hx hb hr nz13 (fun t ht hW => ⟨⟨z13, z13, rfl, rfl, xf [], xh [], xv [], xl [], by rw [ht]; exact hP9, hD9, ⟨nz13, (by unfold R_J1_charAt_3b067_20; exact (fun Q9 k9_0 => k9_0 hp0 fik flk vik vlk uk z8 ez8 z12 ez12 z13 ez13 rfl)), trivial⟩⟩, hS.F ht⟩) hS.2.2 dJ1_charAt_3b067_14
abbrev pre_J0_charAt_5068e_20 (T : Nat → ClassId) (a ex : Nat → Nat) (fi : Nat → Nat → Int32) (fl : Nat → Nat → Int64) (vi : Nat → Int32) (vl : Nat → Int64) : va_W := []
set_option maxHeartbeats 8000000 in
set_option maxRecDepth 100000 in
theorem c_J0_charAt_5068e_20 (l : Launch) (D : va_G) (T : Nat → ClassId) (a ex : Nat → Nat) (fi : Nat → Nat → Int32) (fl : Nat → Nat → Int64) (vi : Nat → Int32) (vl : Nat → Int64) (kK kV : Nat → Nat) (sz : Nat) (hp0 : 0 ≤ (vi 0).toInt ∧ (vi 0).toInt ≤ 1) : Met l yJ0_charAt_5068e (xw yJ0_charAt_5068e cJ0_charAt_5068e 2 (some .char)) ({ frames := 3, cells := 0, slots := 0, locals := 76 }) (xPs D T kK kV [.ref (kK 30), .int (vi 0)] sz (pre_J0_charAt_5068e_20 T a ex fi fl vi vl)) (va_Qi (fun r u => r = u) (xC D (va_A (pre_J0_charAt_5068e_20 T a ex fi fl vi vl) sz) (fun fj fm vj vm => []) (fun (r : Int32) (fj : Nat → Nat → Int32) (fm : Nat → Nat → Int64) (vj : Nat → Int32) (vm : Nat → Int64) => narrow .char (.int r) = .int r ∧ R_J0_charAt_5068e_20 fi fl vi vl r fj fm vj vm ∧ True)) (va_A (pre_J0_charAt_5068e_20 T a ex fi fl vi vl) sz)) 0 0 (va_A (pre_J0_charAt_5068e_20 T a ex fi fl vi vl) sz) := by
  refine xofW (cc := cJ0_charAt_5068e) (maxL := 2) (ret := (some .char)) (by decide) rfl ?_
  intro p e s m args below meth c s₁ R Q hR hQ B hml hv
  obtain ⟨rfl, hsz, hP, hK, hD0, hT⟩ := hv
  have hx := B.exec
  have hb := B.bytes
  have hr := B.returns
  have hts := atoms_spec (ws := xw yJ0_charAt_5068e cJ0_charAt_5068e 2 (some .char)) B.pre
  have htg : ∀ w ∈ xg, w.before _ s = true := fun w h => hts w (List.mem_cons_of_mem _ h)
  have hown : s.vm.findClass RJ0 = some m.cls := findClass_of_methodNamed B.named
  have hlocks := B.notSynchronized
  subst hsz
  have hD := hD0.self (sz := s.heap.size)
  generalize hAe : va_A (pre_J0_charAt_5068e_20 T a ex fi fl vi vl) s.heap.size = A at hD hQ hT
  have hA : ∀ q : Nat, s.heap.size ≤ q → A q := fun q h => by rw [← hAe]; exact Or.inr h
  have hS : va_S A s.heap s.heap [] := va_S.rf
  replace hP : va_P D vwCl [] s.heap := hP
  replace hD : va_D A [] := hD
  have hl := lv_entry ([.ref (kK 30), .int (vi 0)]) (n := 2) (Nat.le_of_ble_eq_true rfl)
  rw [lg_entry_eq]
  generalize (lg_sl ([.ref (kK 30), .int (vi 0)]) ++ List.replicate (2 - (lg_sl ([.ref (kK 30), .int (vi 0)])).length) Slot.unset).toArray = ls at hl ⊢
  replace hl : lv_has ls 2 [(0, .ref (kK 30)), (1, .int (vi 0))] := hl
  refine lv_aload_n hx hb dJ0_charAt_5068e_0 rfl (lv_at hl 0 rfl) ?_
  obtain ⟨hC9, hPc, hDc, hFc⟩ := xcut (wc := (pre_J0_isLatin1_aae02_20 T (xa []) (xa []) (xf []) (xh []) (xv []) (xl []))) hP hD hS hA [] (by decide) rfl
  refine va_calli (va_runV (As := []) (rest := []) ⟨hx, hb, hml, hown, htg⟩ (c_J0_isLatin1_aae02_20 l D T (xa []) (xa []) (xf []) (xh []) (xv []) (xl []) kK kV s.heap.size) ⟨callB_of 0 htg (xg_ok kw_61) rfl rfl rfl (htg _ kw_3) (htg _ kw_58) (by decide +kernel) ⟨by rw [hR]; exact Nat.le_of_ble_eq_true rfl, by rw [hR]; exact Nat.le_of_ble_eq_true rfl⟩, htg _ kw_59, htg _ kw_60⟩ (xpreVs hK hPc hDc hT hFc hS (xT.recv hT 30 (by decide) hS)) rfl rfl hl.1 rfl (lv_room (Nat.le_of_ble_eq_true rfl)) dJ0_charAt_5068e_1 ⟨by rw [hR]; exact Nat.le_of_ble_eq_true rfl, by rw [hR]; exact Nat.le_of_ble_eq_true rfl⟩) hS (fun q _ h => hFc q h) hFc (fun r9 u9 t H1 locs ht hvm hw hB hz1 hk1 hS => ?_)
  subst hw
  obtain ⟨fik, flk, vik, vlk, hP1, hD1, hG⟩ := hB
  rw [ht] at hP1
  obtain ⟨hP, hD⟩ := va_join (wr := []) (w1 := []) hP hD [] [] hC9 rfl (by decide) (by decide) hk1 hFc hP1 hD1
  obtain ⟨rk, er9⟩ : ∃ z, z = r9 := ⟨_, rfl⟩
  subst er9
  clear hPc hDc hFc hP1 hD1 hk1 hz1 hvm ht hC9
  generalize H1 = H at hP hS ⊢
  obtain ⟨hP, hD⟩ := (show xPD D A [] H from ⟨hP, hD⟩)
  obtain ⟨gk_0, -⟩ := hG
  replace gk_0 : rk = 1 := gk_0
  refine xz_i 1 gk_0 ?_
  refine lv_if_eq (tgt := 16) hx hb dJ0_charAt_5068e_4 (by decide) (fun c => absurd c (by decide)) (fun _ => ?_)
  refine lv_aload_n hx hb dJ0_charAt_5068e_7 rfl (lv_at hl 0 rfl) ?_
  refine vk_getf hx hb (hT.2.1 30 (by decide)).2.2.1 hS hown (htg _ kw_2030) (fun _ h9 => h9) dJ0_charAt_5068e_8 ?_
  refine lv_iload_n hx hb dJ0_charAt_5068e_11 rfl (lv_at hl 1 rfl) ?_
  obtain ⟨hC9, hPc, hDc, hFc⟩ := xcut (wc := (pre_J1_charAt_3b067_20 T (xa []) (xa []) (xf []) (xh []) (xv [(vi 0)]) (xl []))) hP hD hS hA [] (by decide) rfl
  refine va_calli (va_runS (As := [.ref (kV 30), .int (vi 0)]) (rest := []) ⟨hx, hb, hml, hown, htg⟩ (c_J1_charAt_3b067_20 l D T (xa []) (xa []) (xf []) (xh []) (xv [(vi 0)]) (xl []) kK kV H.size hp0) ⟨callB_of 2 htg (xg_ok kw_64) rfl rfl rfl (htg _ kw_4) (htg _ kw_62) (by decide +kernel) ⟨by rw [hR]; exact Nat.le_of_ble_eq_true rfl, by rw [hR]; exact Nat.le_of_ble_eq_true rfl⟩, htg _ kw_63⟩ (xpreSs hK hPc hDc hT hFc hS) rfl rfl hl.1 rfl (lv_room (Nat.le_of_ble_eq_true rfl)) dJ0_charAt_5068e_12 ⟨by rw [hR]; exact Nat.le_of_ble_eq_true rfl, by rw [hR]; exact Nat.le_of_ble_eq_true rfl⟩) hS (fun q _ h => hFc q h) hFc (fun r9 u9 t H1 locs ht hvm hw hB hz1 hk1 hS => ?_)
  subst hw
  obtain ⟨fik_1, flk_1, vik_1, vlk_1, hP1, hD1, hG⟩ := hB
  rw [ht] at hP1
  obtain ⟨hP, hD⟩ := va_join (wr := []) (w1 := []) hP hD [] [] hC9 rfl (by decide) (by decide) hk1 hFc hP1 hD1
  obtain ⟨rk_1, er9⟩ : ∃ z, z = r9 := ⟨_, rfl⟩
  subst er9
  clear hPc hDc hFc hP1 hD1 hk1 hz1 hvm ht hC9
  generalize H1 = H at hP hS ⊢
  obtain ⟨hP, hD⟩ := (show xPD D A [] H from ⟨hP, hD⟩)
  obtain ⟨gk_1_0, gk_1_1, -⟩ := hG
  replace gk_1_1 : rk_1 = (sBy.getD 30 []).getD ((vi 0).toInt).toNat 0 := (P_J1_charAt_3b067_20 gk_1_1 : _)
  replace gk_1_0 : narrow .char (.int rk_1) = .int rk_1 := gk_1_0
  have hP9 := hP.sub (ws' := []) [] rfl
  have hD9 := hD.sub (ws' := []) [] (by decide +kernel) rfl
  rw [hQ]
  exact W.zret (v := rk_1) hx hb hr gk_1_0 (fun t ht hW => ⟨⟨rk_1, rk_1, rfl, rfl, xf [], xh [], xv [], xl [], by rw [ht]; exact hP9, hD9, ⟨gk_1_0, (by unfold R_J0_charAt_5068e_20; exact (fun Q9 k9_0 => k9_0 hp0 fik flk vik vlk rk gk_0 fik_1 flk_1 vik_1 vlk_1 rk_1 gk_1_1 rfl)), trivial⟩⟩, hS.F ht⟩) hS.2.2 dJ0_charAt_5068e_15
abbrev pre_X6_isWord_20 (T : Nat → ClassId) (a ex : Nat → Nat) (fi : Nat → Nat → Int32) (fl : Nat → Nat → Int64) (vi : Nat → Int32) (vl : Nat → Int64) : va_W := [((a 0), .inr (6, [.ref (ex 0), .ref (ex 1), .int (vi 0), .int (vi 1), .int (vi 2), .int (vi 3), .int (vi 4), .int (vi 5), .long (vl 0), .int (vi 6), .int (vi 7), .int (vi 8), .int (vi 9), .int (vi 10)]))]
set_option maxHeartbeats 8000000 in
set_option maxRecDepth 100000 in
theorem c_X6_isWord_20 (l : Launch) (D : va_G) (T : Nat → ClassId) (a ex : Nat → Nat) (fi : Nat → Nat → Int32) (fl : Nat → Nat → Int64) (vi : Nat → Int32) (vl : Nat → Int64) (kK kV : Nat → Nat) (sz : Nat) (hp0 : 0 ≤ (vi 1).toInt ∧ (vi 1).toInt ≤ 940) (hp1 : 0 ≤ (vi 2).toInt ∧ (vi 2).toInt ≤ 940) (hp2 : 0 ≤ (vi 3).toInt ∧ (vi 3).toInt ≤ 940) (hp3 : 0 ≤ (vi 5).toInt ∧ (vi 5).toInt ≤ 940) (hp4 : 0 ≤ (vi 10).toInt ∧ (vi 10).toInt ≤ 940) : Met l yX6_isWord (xw yX6_isWord cX6_isWord 5 (some .boolean)) ({ frames := 4, cells := 0, slots := 0, locals := 101 }) (xPs D T kK kV [.ref (a 0), .ref (kK 30)] sz (pre_X6_isWord_20 T a ex fi fl vi vl)) (va_Qi (fun r u => r = u) (xC D (va_A (pre_X6_isWord_20 T a ex fi fl vi vl) sz) (fun fj fm vj vm => [((a 0), .inr (6, [.ref (ex 0), .ref (ex 1), .int (vi 0), .int (vi 1), .int (vi 2), .int (vi 3), .int (vi 4), .int (vi 5), .long (vl 0), .int (vi 6), .int (vi 7), .int (vi 8), .int (vi 9), .int (vi 10)]))]) (fun (r : Int32) (fj : Nat → Nat → Int32) (fm : Nat → Nat → Int64) (vj : Nat → Int32) (vm : Nat → Int64) => ((r = 1 ∧ (True)) ∨ (r = 0 ∧ (True))) ∧ R_X6_isWord_20 fi fl vi vl r fj fm vj vm ∧ True)) (va_A (pre_X6_isWord_20 T a ex fi fl vi vl) sz)) 0 0 (va_A (pre_X6_isWord_20 T a ex fi fl vi vl) sz) := by
  refine xofW (cc := cX6_isWord) (maxL := 5) (ret := (some .boolean)) (by decide) rfl ?_
  intro p e s m args below meth c s₁ R Q hR hQ B hml hv
  obtain ⟨rfl, hsz, hP, hK, hD0, hT⟩ := hv
  have hx := B.exec
  have hb := B.bytes
  have hr := B.returns
  have hts := atoms_spec (ws := xw yX6_isWord cX6_isWord 5 (some .boolean)) B.pre
  have htg : ∀ w ∈ xg, w.before _ s = true := fun w h => hts w (List.mem_cons_of_mem _ h)
  have hown : s.vm.findClass RX6 = some m.cls := findClass_of_methodNamed B.named
  have hlocks := B.notSynchronized
  subst hsz
  have hD := hD0.self (sz := s.heap.size)
  generalize hAe : va_A (pre_X6_isWord_20 T a ex fi fl vi vl) s.heap.size = A at hD hQ hT
  have hA : ∀ q : Nat, s.heap.size ≤ q → A q := fun q h => by rw [← hAe]; exact Or.inr h
  have hS : va_S A s.heap s.heap [] := va_S.rf
  replace hP : va_P D vwCl [((a 0), .inr (6, [.ref (ex 0), .ref (ex 1), .int (vi 0), .int (vi 1), .int (vi 2), .int (vi 3), .int (vi 4), .int (vi 5), .long (vl 0), .int (vi 6), .int (vi 7), .int (vi 8), .int (vi 9), .int (vi 10)]))] s.heap := hP
  replace hD : va_D A [((a 0), .inr (6, [.ref (ex 0), .ref (ex 1), .int (vi 0), .int (vi 1), .int (vi 2), .int (vi 3), .int (vi 4), .int (vi 5), .long (vl 0), .int (vi 6), .int (vi 7), .int (vi 8), .int (vi 9), .int (vi 10)]))] := hD
  have hl := lv_entry ([.ref (a 0), .ref (kK 30)]) (n := 5) (Nat.le_of_ble_eq_true rfl)
  rw [lg_entry_eq]
  generalize (lg_sl ([.ref (a 0), .ref (kK 30)]) ++ List.replicate (5 - (lg_sl ([.ref (a 0), .ref (kK 30)])).length) Slot.unset).toArray = ls at hl ⊢
  replace hl : lv_has ls 5 [(0, .ref (a 0)), (1, .ref (kK 30))] := hl
  refine lv_lconst (v := 0) hx hb dX6_isWord_0 (by decide) ?_
  refine lv_lstore_n (lv' := [(2, .long 0), (0, .ref (a 0)), (1, .ref (kK 30))]) hx hb dX6_isWord_1 rfl hl (by decide) rfl (fun ls hl => ?_)
  refine lv_iconst (v := 0) hx hb dX6_isWord_2 (by decide) ?_
  refine lv_istore (lv' := [(4, .int 0), (2, .long 0), (0, .ref (a 0)), (1, .ref (kK 30))]) hx hb dX6_isWord_3 hl (by decide) rfl (fun ls hl => ?_)
  have lp : ∀ (kn : Nat) (w4 : Int32) (w2 : Int64) (H : Heap) (locs : List Loc) (ls : Array Slot), (0 ≤ w4.toInt ∧ w4.toInt ≤ 2) → (w2 = pkw (sBy.getD 30 []) (w4.toInt).toNat) → (2147483648 - w4.toInt).toNat = kn → va_P D vwCl [((a 0), .inr (6, [.ref (ex 0), .ref (ex 1), .int (vi 0), .int (vi 1), .int (vi 2), .int (vi 3), .int (vi 4), .int (vi 5), .long (vl 0), .int (vi 6), .int (vi 7), .int (vi 8), .int (vi 9), .int (vi 10)]))] H → va_D A [((a 0), .inr (6, [.ref (ex 0), .ref (ex 1), .int (vi 0), .int (vi 1), .int (vi 2), .int (vi 3), .int (vi 4), .int (vi 5), .long (vl 0), .int (vi 6), .int (vi 7), .int (vi 8), .int (vi 9), .int (vi 10)]))] → va_S A s.heap H locs → lv_has ls 5 [(4, .int w4), (2, .long w2), (0, .ref (a 0)), (1, .ref (kK 30))] → W p l e R s m ([.ref (a 0), .ref (kK 30)] : List Value).toArray below meth c H locs 0 0 Q (F0 m 5 ls []) := by
    intro kn
    induction kn using Nat.strongRecOn with
    | _ kn ih =>
      intro w4 w2 H locs ls hi hpk9 hm hP hD hS hl
      refine lv_iload hx hb dX6_isWord_5 (lv_at hl 0 rfl) ?_
      refine lv_aload_n hx hb dX6_isWord_7 rfl (lv_at hl 3 rfl) ?_
      obtain ⟨hC9, hPc, hDc, hFc⟩ := xcut (wc := (pre_J0_length_8abf5_20 T (xa []) (xa []) (xf []) (xh []) (xv []) (xl []))) hP hD hS hA [] (by decide) rfl
      refine va_calli (va_runV (As := []) (rest := [.int w4]) ⟨hx, hb, hml, hown, htg⟩ (c_J0_length_8abf5_20 l D T (xa []) (xa []) (xf []) (xh []) (xv []) (xl []) kK kV H.size) ⟨callB_of 0 htg (xg_ok kw_47) rfl rfl rfl (htg _ kw_3) (htg _ kw_44) (by decide +kernel) ⟨by rw [hR]; exact Nat.le_of_ble_eq_true rfl, by rw [hR]; exact Nat.le_of_ble_eq_true rfl⟩, htg _ kw_45, htg _ kw_46⟩ (xpreVs hK hPc hDc hT hFc hS (xT.recv hT 30 (by decide) hS)) rfl rfl hl.1 rfl (lv_room (Nat.le_of_ble_eq_true rfl)) dX6_isWord_8 ⟨by rw [hR]; exact Nat.le_of_ble_eq_true rfl, by rw [hR]; exact Nat.le_of_ble_eq_true rfl⟩) hS (fun q _ h => hFc q h) hFc (fun r9 u9 t H1 locs ht hvm hw hB hz1 hk1 hS => ?_)
      subst hw
      obtain ⟨fik, flk, vik, vlk, hP1, hD1, hG⟩ := hB
      rw [ht] at hP1
      obtain ⟨hP, hD⟩ := va_join (wr := [((a 0), .inr (6, [.ref (ex 0), .ref (ex 1), .int (vi 0), .int (vi 1), .int (vi 2), .int (vi 3), .int (vi 4), .int (vi 5), .long (vl 0), .int (vi 6), .int (vi 7), .int (vi 8), .int (vi 9), .int (vi 10)]))]) (w1 := []) hP hD [] [0] hC9 rfl (by decide) (by decide) hk1 hFc hP1 hD1
      obtain ⟨rk, er9⟩ : ∃ z, z = r9 := ⟨_, rfl⟩
      subst er9
      clear hPc hDc hFc hP1 hD1 hk1 hz1 hvm ht hC9
      generalize H1 = H at hP hS ⊢
      obtain ⟨hP, hD⟩ := (show xPD D A [((a 0), .inr (6, [.ref (ex 0), .ref (ex 1), .int (vi 0), .int (vi 1), .int (vi 2), .int (vi 3), .int (vi 4), .int (vi 5), .long (vl 0), .int (vi 6), .int (vi 7), .int (vi 8), .int (vi 9), .int (vi 10)]))] H from ⟨hP, hD⟩)
      obtain ⟨gk_0, -⟩ := hG
      replace gk_0 : rk = 2 := gk_0
      refine xz_i 2 gk_0 ?_
      refine lv_icmp_ge (tgt := 33) hx hb dX6_isWord_11 (by decide) (fun c11 => ?_) (fun c11 => ?_)
      · have c11 := xge (k := 2) (by decide) c11
        refine lv_aload_n hx hb dX6_isWord_33 rfl (lv_at hl 2 rfl) ?_
        refine va_get (D := D) (ci := 6) (v := .int (vi 4)) (C := RX6) (T := TX6) (N := 14) hx hb htg inX6 hown hK.1 hP 0 rfl rfl 6 (by decide) (htg _ kw_104) (fun _ h9 => h9) rfl dX6_isWord_34 ?_
        refine lv_iconst (v := 1) hx hb dX6_isWord_37 (by decide) ?_
        refine lv_icmp_ne (tgt := 54) hx hb dX6_isWord_38 (by decide) (fun c38 => ?_) (fun c38 => ?_)
        · have c38 := xne (k := 1) (by decide) c38
          refine lv_iconst (v := 0) hx hb dX6_isWord_54 (by decide) ?_
          have hP9 := hP.sub (ws' := [((a 0), .inr (6, [.ref (ex 0), .ref (ex 1), .int (vi 0), .int (vi 1), .int (vi 2), .int (vi 3), .int (vi 4), .int (vi 5), .long (vl 0), .int (vi 6), .int (vi 7), .int (vi 8), .int (vi 9), .int (vi 10)]))]) [0] rfl
          have hD9 := hD.sub (ws' := [((a 0), .inr (6, [.ref (ex 0), .ref (ex 1), .int (vi 0), .int (vi 1), .int (vi 2), .int (vi 3), .int (vi 4), .int (vi 5), .long (vl 0), .int (vi 6), .int (vi 7), .int (vi 8), .int (vi 9), .int (vi 10)]))]) [0] (by decide +kernel) rfl
          rw [hQ]
          exact W.zret (v := 0) hx hb hr rfl (fun t ht hW => ⟨⟨0, 0, rfl, rfl, xf [], xh [], xv [], xl [], by rw [ht]; exact hP9, hD9, ⟨(Or.inr ⟨rfl, by show True; first | trivial | omega | assumption⟩), (by unfold R_X6_isWord_20; exact (fun Q9 k9_0 k9_1 k9_2 => k9_0 hp0 hp1 hp2 hp3 hp4 w4 w2 hi hpk9 fik flk vik vlk rk gk_0 c11 c38 rfl)), trivial⟩⟩, hS.F ht⟩) hS.2.2 dX6_isWord_55
        · have c38 := xeq (k := 1) (by decide) c38
          refine lv_lload_n hx hb dX6_isWord_41 rfl (lv_at hl 1 rfl) ?_
          refine lv_aload_n hx hb dX6_isWord_42 rfl (lv_at hl 2 rfl) ?_
          refine va_get (D := D) (ci := 6) (v := .long (vl 0)) (C := RX6) (T := TX6) (N := 14) hx hb htg inX6 hown hK.1 hP 0 rfl rfl 8 (by decide) (htg _ kw_108) (fun _ h9 => h9) rfl dX6_isWord_43 ?_
          refine W.lcmp hx hb dX6_isWord_46 ?_
          refine lv_topi (fun z46 ez46 => ?_)
          refine lv_if_ne (tgt := 54) hx hb dX6_isWord_47 (by decide) (fun c47 => ?_) (fun c47 => ?_)
          · have c47 := xne (k := 0) (by decide) c47
            refine lv_iconst (v := 0) hx hb dX6_isWord_54 (by decide) ?_
            have hP9 := hP.sub (ws' := [((a 0), .inr (6, [.ref (ex 0), .ref (ex 1), .int (vi 0), .int (vi 1), .int (vi 2), .int (vi 3), .int (vi 4), .int (vi 5), .long (vl 0), .int (vi 6), .int (vi 7), .int (vi 8), .int (vi 9), .int (vi 10)]))]) [0] rfl
            have hD9 := hD.sub (ws' := [((a 0), .inr (6, [.ref (ex 0), .ref (ex 1), .int (vi 0), .int (vi 1), .int (vi 2), .int (vi 3), .int (vi 4), .int (vi 5), .long (vl 0), .int (vi 6), .int (vi 7), .int (vi 8), .int (vi 9), .int (vi 10)]))]) [0] (by decide +kernel) rfl
            rw [hQ]
            exact W.zret (v := 0) hx hb hr rfl (fun t ht hW => ⟨⟨0, 0, rfl, rfl, xf [], xh [], xv [], xl [], by rw [ht]; exact hP9, hD9, ⟨(Or.inr ⟨rfl, by show True; first | trivial | omega | assumption⟩), (by unfold R_X6_isWord_20; exact (fun Q9 k9_0 k9_1 k9_2 => k9_1 hp0 hp1 hp2 hp3 hp4 w4 w2 hi hpk9 fik flk vik vlk rk gk_0 c11 c38 z46 ez46 c47 rfl)), trivial⟩⟩, hS.F ht⟩) hS.2.2 dX6_isWord_55
          · have c47 := xeq (k := 0) (by decide) c47
            refine lv_iconst (v := 1) hx hb dX6_isWord_50 (by decide) ?_
            refine lv_goto (tgt := 55) hx hb dX6_isWord_51 (by decide) ?_
            have hP9 := hP.sub (ws' := [((a 0), .inr (6, [.ref (ex 0), .ref (ex 1), .int (vi 0), .int (vi 1), .int (vi 2), .int (vi 3), .int (vi 4), .int (vi 5), .long (vl 0), .int (vi 6), .int (vi 7), .int (vi 8), .int (vi 9), .int (vi 10)]))]) [0] rfl
            have hD9 := hD.sub (ws' := [((a 0), .inr (6, [.ref (ex 0), .ref (ex 1), .int (vi 0), .int (vi 1), .int (vi 2), .int (vi 3), .int (vi 4), .int (vi 5), .long (vl 0), .int (vi 6), .int (vi 7), .int (vi 8), .int (vi 9), .int (vi 10)]))]) [0] (by decide +kernel) rfl
            rw [hQ]
            exact W.zret (v := 1) hx hb hr rfl (fun t ht hW => ⟨⟨1, 1, rfl, rfl, xf [], xh [], xv [], xl [], by rw [ht]; exact hP9, hD9, ⟨(Or.inl ⟨rfl, by show True; first | trivial | omega | assumption⟩), (by unfold R_X6_isWord_20; exact (fun Q9 k9_0 k9_1 k9_2 => k9_2 hp0 hp1 hp2 hp3 hp4 w4 w2 hi hpk9 fik flk vik vlk rk gk_0 c11 c38 z46 ez46 c47 rfl)), trivial⟩⟩, hS.F ht⟩) hS.2.2 dX6_isWord_55
      · have c11 := xnge (k := 2) (by decide) c11
        refine lv_lload_n hx hb dX6_isWord_14 rfl (lv_at hl 1 rfl) ?_
        refine lv_bipush (v := 8) hx hb dX6_isWord_15 (by decide) ?_
        refine lv_lshl hx hb dX6_isWord_17 rfl ?_
        refine lv_topl (fun z17 ez17 => ?_)
        refine lv_aload_n hx hb dX6_isWord_18 rfl (lv_at hl 3 rfl) ?_
        refine lv_iload hx hb dX6_isWord_19 (lv_at hl 0 rfl) ?_
        obtain ⟨hC9, hPc, hDc, hFc⟩ := xcut (wc := (pre_J0_charAt_5068e_20 T (xa []) (xa []) (xf []) (xh []) (xv [w4]) (xl []))) hP hD hS hA [] (by decide) rfl
        refine va_calli (va_runV (As := [.int w4]) (rest := [.long z17]) ⟨hx, hb, hml, hown, htg⟩ (c_J0_charAt_5068e_20 l D T (xa []) (xa []) (xf []) (xh []) (xv [w4]) (xl []) kK kV H.size (by show 0 ≤ w4.toInt ∧ w4.toInt ≤ 1; omega)) ⟨callB_of 1 htg (xg_ok kw_57) rfl rfl rfl (htg _ kw_3) (htg _ kw_54) (by decide +kernel) ⟨by rw [hR]; exact Nat.le_of_ble_eq_true rfl, by rw [hR]; exact Nat.le_of_ble_eq_true rfl⟩, htg _ kw_55, htg _ kw_56⟩ (xpreVs hK hPc hDc hT hFc hS (xT.recv hT 30 (by decide) hS)) rfl rfl hl.1 rfl (lv_room (Nat.le_of_ble_eq_true rfl)) dX6_isWord_21 ⟨by rw [hR]; exact Nat.le_of_ble_eq_true rfl, by rw [hR]; exact Nat.le_of_ble_eq_true rfl⟩) hS (fun q _ h => hFc q h) hFc (fun r9 u9 t H1 locs ht hvm hw hB hz1 hk1 hS => ?_)
        subst hw
        obtain ⟨fik_1, flk_1, vik_1, vlk_1, hP1, hD1, hG⟩ := hB
        rw [ht] at hP1
        obtain ⟨hP, hD⟩ := va_join (wr := [((a 0), .inr (6, [.ref (ex 0), .ref (ex 1), .int (vi 0), .int (vi 1), .int (vi 2), .int (vi 3), .int (vi 4), .int (vi 5), .long (vl 0), .int (vi 6), .int (vi 7), .int (vi 8), .int (vi 9), .int (vi 10)]))]) (w1 := []) hP hD [] [0] hC9 rfl (by decide) (by decide) hk1 hFc hP1 hD1
        obtain ⟨rk_1, er9⟩ : ∃ z, z = r9 := ⟨_, rfl⟩
        subst er9
        clear hPc hDc hFc hP1 hD1 hk1 hz1 hvm ht hC9
        generalize H1 = H at hP hS ⊢
        obtain ⟨hP, hD⟩ := (show xPD D A [((a 0), .inr (6, [.ref (ex 0), .ref (ex 1), .int (vi 0), .int (vi 1), .int (vi 2), .int (vi 3), .int (vi 4), .int (vi 5), .long (vl 0), .int (vi 6), .int (vi 7), .int (vi 8), .int (vi 9), .int (vi 10)]))] H from ⟨hP, hD⟩)
        obtain ⟨gk_1_0, gk_1_1, -⟩ := hG
        replace gk_1_1 : rk_1 = (sBy.getD 30 []).getD (w4.toInt).toNat 0 := (P_J0_charAt_5068e_20 gk_1_1 : _)
        replace gk_1_0 : narrow .char (.int rk_1) = .int rk_1 := gk_1_0
        refine lv_i2l hx hb dX6_isWord_24 rfl ?_
        refine lv_topl (fun z24 ez24 => ?_)
        refine lv_lor hx hb dX6_isWord_25 ?_
        refine lv_topl (fun z25 ez25 => ?_)
        refine lv_lstore_n (lv' := [(2, .long z25), (4, .int w4), (0, .ref (a 0)), (1, .ref (kK 30))]) hx hb dX6_isWord_26 rfl hl (by decide) rfl (fun ls hl => ?_)
        obtain ⟨i27, ei27⟩ : ∃ z : Int32, w4 + Int32.ofInt 1 = z := ⟨_, rfl⟩
        have ti27 : i27.toInt = w4.toInt + 1 := by rw [← ei27]; have h79 := xrng w4; exact xadd rfl (by decide) (by omega) (by omega)
        refine lv_iinc (v := i27) (lv' := [(4, .int i27), (2, .long z25), (0, .ref (a 0)), (1, .ref (kK 30))]) hx hb dX6_isWord_27 hl (k := 1) rfl ei27 (by decide) rfl (fun ls hl => ?_)
        refine lv_goto (tgt := 5) hx hb dX6_isWord_30 (by decide) ?_
        exact ih _ (by omega) i27 z25 _ _ _ (by show 0 ≤ i27.toInt ∧ i27.toInt ≤ 2; omega) (by show z25 = pkw (sBy.getD 30 []) (i27.toInt).toNat; rw [ez25, ez17, ez24]; exact pkw_s hpk9 (by omega) (by omega) (by assumption)) rfl (hP.sub [0] rfl) (hD.sub [0] (by decide) rfl) hS (lv_sub hl [0, 1, 2, 3] rfl)
  exact lp _ (0 : Int32) (0 : Int64) _ _ _ (show 0 ≤ (0 : Int32).toInt ∧ (0 : Int32).toInt ≤ 2 by decide) (by show (0 : Int64) = pkw (sBy.getD 30 []) ((0 : Int32).toInt).toNat; have k9_0 : (0 : Int32).toInt = 0 := (by decide); rw [show (0 : Int32).toInt.toNat = 0 by decide]; rfl) rfl hP hD hS hl
abbrev pre_X5_addStep_3 (T : Nat → ClassId) (a ex : Nat → Nat) (fi : Nat → Nat → Int32) (fl : Nat → Nat → Int64) (vi : Nat → Int32) (vl : Nat → Int64) : va_W := [((a 0), .inr (5, [.ref (a 4), .ref (ex 0), .ref (a 1), .ref (a 2), .ref (a 3), .ref (ex 1), .int (vi 2), .int (vi 3)])), ((a 1), .inl (T 1, 40, .inl (fi 0))), ((a 2), .inl (T 1, 40, .inl (fi 1))), ((a 3), .inl (T 1, 40, .inl (fi 2))), ((a 4), .inr (6, [.ref (ex 2), .ref (ex 3), .int (vi 4), .int (vi 5), .int (vi 6), .int (vi 7), .int (vi 8), .int (vi 9), .long (vl 0), .int (vi 10), .int (vi 11), .int (vi 12), .int (vi 13), .int (vi 14)]))]
set_option maxHeartbeats 8000000 in
set_option maxRecDepth 100000 in
theorem c_X5_addStep_3 (l : Launch) (D : va_G) (T : Nat → ClassId) (a ex : Nat → Nat) (fi : Nat → Nat → Int32) (fl : Nat → Nat → Int64) (vi : Nat → Int32) (vl : Nat → Int64) (sz : Nat) (hp0 : 0 ≤ (vi 2).toInt ∧ (vi 2).toInt ≤ 40) (hp1 : 0 ≤ (vi 3).toInt ∧ (vi 3).toInt ≤ 20) (hp2 : 0 ≤ (vi 5).toInt ∧ (vi 5).toInt ≤ 940) (hp3 : 0 ≤ (vi 6).toInt ∧ (vi 6).toInt ≤ 940) (hp4 : 0 ≤ (vi 7).toInt ∧ (vi 7).toInt ≤ 940) (hp5 : 0 ≤ (vi 9).toInt ∧ (vi 9).toInt ≤ 940) (hp6 : 0 ≤ (vi 14).toInt ∧ (vi 14).toInt ≤ 940) : Met l yX5_addStep (xw yX5_addStep cX5_addStep 4 (some .boolean)) ({ frames := 1, cells := 0, slots := 0, locals := 25 }) (xP D T [.ref (a 0), .int 2, .int (vi 0), .int (vi 1)] sz (pre_X5_addStep_3 T a ex fi fl vi vl)) (va_Qi (fun r u => r = u) (xC D (va_A (pre_X5_addStep_3 T a ex fi fl vi vl) sz) (fun fj fm vj vm => [((a 0), .inr (5, [.ref (a 4), .ref (ex 0), .ref (a 1), .ref (a 2), .ref (a 3), .ref (ex 1), .int (vj 0), .int (vi 3)])), ((a 1), .inl (T 1, 40, .inl (fj 0))), ((a 2), .inl (T 1, 40, .inl (fj 1))), ((a 3), .inl (T 1, 40, .inl (fj 2))), ((a 4), .inr (6, [.ref (ex 2), .ref (ex 3), .int (vi 4), .int (vi 5), .int (vi 6), .int (vi 7), .int (vi 8), .int (vi 9), .long (vl 0), .int (vi 10), .int (vi 11), .int (vi 12), .int (vj 1), .int (vj 2)]))]) (fun (r : Int32) (fj : Nat → Nat → Int32) (fm : Nat → Nat → Int64) (vj : Nat → Int32) (vm : Nat → Int64) => ((r = 1 ∧ ((vi 2).toInt < 40 ∧ (vj 0).toInt = (vi 2).toInt + 1)) ∨ (r = 0 ∧ (40 ≤ (vi 2).toInt))) ∧ (0 ≤ (vj 0).toInt ∧ (vj 0).toInt ≤ 40) ∧ (0 ≤ (vj 2).toInt ∧ (vj 2).toInt ≤ 940) ∧ (r.toInt = 1 → (vj 1).toInt = (vi 13).toInt) ∧ True)) (va_A (pre_X5_addStep_3 T a ex fi fl vi vl) sz)) 0 0 (va_A (pre_X5_addStep_3 T a ex fi fl vi vl) sz) := by
  refine xofW (cc := cX5_addStep) (maxL := 4) (ret := (some .boolean)) (by decide) rfl ?_
  intro p e s m args below meth c s₁ R Q hR hQ B hml hv
  obtain ⟨rfl, hsz, hP, hK, hD0⟩ := hv
  have hx := B.exec
  have hb := B.bytes
  have hr := B.returns
  have hts := atoms_spec (ws := xw yX5_addStep cX5_addStep 4 (some .boolean)) B.pre
  have htg : ∀ w ∈ xg, w.before _ s = true := fun w h => hts w (List.mem_cons_of_mem _ h)
  have hown : s.vm.findClass RX5 = some m.cls := findClass_of_methodNamed B.named
  have hlocks := B.notSynchronized
  subst hsz
  have hD := hD0.self (sz := s.heap.size)
  generalize hAe : va_A (pre_X5_addStep_3 T a ex fi fl vi vl) s.heap.size = A at hD hQ
  have hA : ∀ q : Nat, s.heap.size ≤ q → A q := fun q h => by rw [← hAe]; exact Or.inr h
  have hS : va_S A s.heap s.heap [] := va_S.rf
  replace hP : va_P D vwCl [((a 0), .inr (5, [.ref (a 4), .ref (ex 0), .ref (a 1), .ref (a 2), .ref (a 3), .ref (ex 1), .int (vi 2), .int (vi 3)])), ((a 1), .inl (T 1, 40, .inl (fi 0))), ((a 2), .inl (T 1, 40, .inl (fi 1))), ((a 3), .inl (T 1, 40, .inl (fi 2))), ((a 4), .inr (6, [.ref (ex 2), .ref (ex 3), .int (vi 4), .int (vi 5), .int (vi 6), .int (vi 7), .int (vi 8), .int (vi 9), .long (vl 0), .int (vi 10), .int (vi 11), .int (vi 12), .int (vi 13), .int (vi 14)]))] s.heap := hP
  replace hD : va_D A [((a 0), .inr (5, [.ref (a 4), .ref (ex 0), .ref (a 1), .ref (a 2), .ref (a 3), .ref (ex 1), .int (vi 2), .int (vi 3)])), ((a 1), .inl (T 1, 40, .inl (fi 0))), ((a 2), .inl (T 1, 40, .inl (fi 1))), ((a 3), .inl (T 1, 40, .inl (fi 2))), ((a 4), .inr (6, [.ref (ex 2), .ref (ex 3), .int (vi 4), .int (vi 5), .int (vi 6), .int (vi 7), .int (vi 8), .int (vi 9), .long (vl 0), .int (vi 10), .int (vi 11), .int (vi 12), .int (vi 13), .int (vi 14)]))] := hD
  have hl := lv_entry ([.ref (a 0), .int 2, .int (vi 0), .int (vi 1)]) (n := 4) (Nat.le_of_ble_eq_true rfl)
  rw [lg_entry_eq]
  generalize (lg_sl ([.ref (a 0), .int 2, .int (vi 0), .int (vi 1)]) ++ List.replicate (4 - (lg_sl ([.ref (a 0), .int 2, .int (vi 0), .int (vi 1)])).length) Slot.unset).toArray = ls at hl ⊢
  replace hl : lv_has ls 4 [(0, .ref (a 0)), (1, .int 2), (2, .int (vi 0)), (3, .int (vi 1))] := hl
  refine lv_aload_n hx hb dX5_addStep_0 rfl (lv_at hl 0 rfl) ?_
  refine va_get (D := D) (ci := 5) (v := .int (vi 2)) (C := RX5) (T := TX5) (N := 8) hx hb htg inX5 hown hK.1 hP 0 rfl rfl 6 (by decide) (htg _ kw_390) (fun _ h9 => h9) rfl dX5_addStep_1 ?_
  refine lv_bipush (v := 40) hx hb dX5_addStep_4 (by decide) ?_
  refine lv_icmp_lt (tgt := 18) hx hb dX5_addStep_6 (by decide) (fun c6 => ?_) (fun c6 => ?_)
  · have c6 := xlt (k := 40) (by decide) c6
    refine lv_aload_n hx hb dX5_addStep_18 rfl (lv_at hl 0 rfl) ?_
    refine va_get (D := D) (ci := 5) (v := .ref (a 1)) (C := RX5) (T := TX5) (N := 8) hx hb htg inX5 hown hK.1 hP 0 rfl rfl 2 (by decide) (htg _ kw_386) (fun _ h9 => h9) rfl dX5_addStep_19 ?_
    refine lv_aload_n hx hb dX5_addStep_22 rfl (lv_at hl 0 rfl) ?_
    refine va_get (D := D) (ci := 5) (v := .int (vi 2)) (C := RX5) (T := TX5) (N := 8) hx hb htg inX5 hown hK.1 hP 0 rfl rfl 6 (by decide) (htg _ kw_390) (fun _ h9 => h9) rfl dX5_addStep_23 ?_
    refine lv_iload_n hx hb dX5_addStep_26 rfl (lv_at hl 1 rfl) ?_
    refine va_iast hx hb hK.1 hP hD hS 1 1 rfl rfl (vp_in_iff.mpr (by omega)) dX5_addStep_27 (fun H locs hP hD hS => ?_)
    obtain ⟨f27, ef27, hP, hD⟩ : ∃ f7 : Nat → Int32, f7 = upd (fi 0) (vi 2).toNatClampNeg (2 : Int32) ∧ va_P D vwCl [((a 0), .inr (5, [.ref (a 4), .ref (ex 0), .ref (a 1), .ref (a 2), .ref (a 3), .ref (ex 1), .int (vi 2), .int (vi 3)])), ((a 1), .inl (T 1, 40, .inl f7)), ((a 2), .inl (T 1, 40, .inl (fi 1))), ((a 3), .inl (T 1, 40, .inl (fi 2))), ((a 4), .inr (6, [.ref (ex 2), .ref (ex 3), .int (vi 4), .int (vi 5), .int (vi 6), .int (vi 7), .int (vi 8), .int (vi 9), .long (vl 0), .int (vi 10), .int (vi 11), .int (vi 12), .int (vi 13), .int (vi 14)]))] H ∧ va_D A [((a 0), .inr (5, [.ref (a 4), .ref (ex 0), .ref (a 1), .ref (a 2), .ref (a 3), .ref (ex 1), .int (vi 2), .int (vi 3)])), ((a 1), .inl (T 1, 40, .inl f7)), ((a 2), .inl (T 1, 40, .inl (fi 1))), ((a 3), .inl (T 1, 40, .inl (fi 2))), ((a 4), .inr (6, [.ref (ex 2), .ref (ex 3), .int (vi 4), .int (vi 5), .int (vi 6), .int (vi 7), .int (vi 8), .int (vi 9), .long (vl 0), .int (vi 10), .int (vi 11), .int (vi 12), .int (vi 13), .int (vi 14)]))] := ⟨_, rfl, hP, hD⟩
    refine lv_aload_n hx hb dX5_addStep_28 rfl (lv_at hl 0 rfl) ?_
    refine va_get (D := D) (ci := 5) (v := .ref (a 2)) (C := RX5) (T := TX5) (N := 8) hx hb htg inX5 hown hK.1 hP 0 rfl rfl 3 (by decide) (htg _ kw_387) (fun _ h9 => h9) rfl dX5_addStep_29 ?_
    refine lv_aload_n hx hb dX5_addStep_32 rfl (lv_at hl 0 rfl) ?_
    refine va_get (D := D) (ci := 5) (v := .int (vi 2)) (C := RX5) (T := TX5) (N := 8) hx hb htg inX5 hown hK.1 hP 0 rfl rfl 6 (by decide) (htg _ kw_390) (fun _ h9 => h9) rfl dX5_addStep_33 ?_
    refine lv_iload_n hx hb dX5_addStep_36 rfl (lv_at hl 2 rfl) ?_
    refine va_iast hx hb hK.1 hP hD hS 2 1 rfl rfl (vp_in_iff.mpr (by omega)) dX5_addStep_37 (fun H locs hP hD hS => ?_)
    obtain ⟨f37, ef37, hP, hD⟩ : ∃ f7 : Nat → Int32, f7 = upd (fi 1) (vi 2).toNatClampNeg ((vi 0) : Int32) ∧ va_P D vwCl [((a 0), .inr (5, [.ref (a 4), .ref (ex 0), .ref (a 1), .ref (a 2), .ref (a 3), .ref (ex 1), .int (vi 2), .int (vi 3)])), ((a 1), .inl (T 1, 40, .inl f27)), ((a 2), .inl (T 1, 40, .inl f7)), ((a 3), .inl (T 1, 40, .inl (fi 2))), ((a 4), .inr (6, [.ref (ex 2), .ref (ex 3), .int (vi 4), .int (vi 5), .int (vi 6), .int (vi 7), .int (vi 8), .int (vi 9), .long (vl 0), .int (vi 10), .int (vi 11), .int (vi 12), .int (vi 13), .int (vi 14)]))] H ∧ va_D A [((a 0), .inr (5, [.ref (a 4), .ref (ex 0), .ref (a 1), .ref (a 2), .ref (a 3), .ref (ex 1), .int (vi 2), .int (vi 3)])), ((a 1), .inl (T 1, 40, .inl f27)), ((a 2), .inl (T 1, 40, .inl f7)), ((a 3), .inl (T 1, 40, .inl (fi 2))), ((a 4), .inr (6, [.ref (ex 2), .ref (ex 3), .int (vi 4), .int (vi 5), .int (vi 6), .int (vi 7), .int (vi 8), .int (vi 9), .long (vl 0), .int (vi 10), .int (vi 11), .int (vi 12), .int (vi 13), .int (vi 14)]))] := ⟨_, rfl, hP, hD⟩
    refine lv_aload_n hx hb dX5_addStep_38 rfl (lv_at hl 0 rfl) ?_
    refine va_get (D := D) (ci := 5) (v := .ref (a 3)) (C := RX5) (T := TX5) (N := 8) hx hb htg inX5 hown hK.1 hP 0 rfl rfl 4 (by decide) (htg _ kw_388) (fun _ h9 => h9) rfl dX5_addStep_39 ?_
    refine lv_aload_n hx hb dX5_addStep_42 rfl (lv_at hl 0 rfl) ?_
    refine va_get (D := D) (ci := 5) (v := .int (vi 2)) (C := RX5) (T := TX5) (N := 8) hx hb htg inX5 hown hK.1 hP 0 rfl rfl 6 (by decide) (htg _ kw_390) (fun _ h9 => h9) rfl dX5_addStep_43 ?_
    refine lv_iload_n hx hb dX5_addStep_46 rfl (lv_at hl 3 rfl) ?_
    refine va_iast hx hb hK.1 hP hD hS 3 1 rfl rfl (vp_in_iff.mpr (by omega)) dX5_addStep_47 (fun H locs hP hD hS => ?_)
    obtain ⟨f47, ef47, hP, hD⟩ : ∃ f7 : Nat → Int32, f7 = upd (fi 2) (vi 2).toNatClampNeg ((vi 1) : Int32) ∧ va_P D vwCl [((a 0), .inr (5, [.ref (a 4), .ref (ex 0), .ref (a 1), .ref (a 2), .ref (a 3), .ref (ex 1), .int (vi 2), .int (vi 3)])), ((a 1), .inl (T 1, 40, .inl f27)), ((a 2), .inl (T 1, 40, .inl f37)), ((a 3), .inl (T 1, 40, .inl f7)), ((a 4), .inr (6, [.ref (ex 2), .ref (ex 3), .int (vi 4), .int (vi 5), .int (vi 6), .int (vi 7), .int (vi 8), .int (vi 9), .long (vl 0), .int (vi 10), .int (vi 11), .int (vi 12), .int (vi 13), .int (vi 14)]))] H ∧ va_D A [((a 0), .inr (5, [.ref (a 4), .ref (ex 0), .ref (a 1), .ref (a 2), .ref (a 3), .ref (ex 1), .int (vi 2), .int (vi 3)])), ((a 1), .inl (T 1, 40, .inl f27)), ((a 2), .inl (T 1, 40, .inl f37)), ((a 3), .inl (T 1, 40, .inl f7)), ((a 4), .inr (6, [.ref (ex 2), .ref (ex 3), .int (vi 4), .int (vi 5), .int (vi 6), .int (vi 7), .int (vi 8), .int (vi 9), .long (vl 0), .int (vi 10), .int (vi 11), .int (vi 12), .int (vi 13), .int (vi 14)]))] := ⟨_, rfl, hP, hD⟩
    refine lv_aload_n hx hb dX5_addStep_48 rfl (lv_at hl 0 rfl) ?_
    refine lv_dup hx hb dX5_addStep_49 rfl ?_
    refine va_get (D := D) (ci := 5) (v := .int (vi 2)) (C := RX5) (T := TX5) (N := 8) hx hb htg inX5 hown hK.1 hP 0 rfl rfl 6 (by decide) (htg _ kw_390) (fun _ h9 => h9) rfl dX5_addStep_50 ?_
    refine lv_iconst (v := 1) hx hb dX5_addStep_53 (by decide) ?_
    refine lv_iadd hx hb dX5_addStep_54 ?_
    refine lv_topi (fun z54 ez54 => ?_)
    have tz54 : z54.toInt = (vi 2).toInt + 1 := by rw [ez54]; exact xadd rfl (by decide) (by omega) (by omega)
    refine va_put (D := D) (ci := 5) (v := .int z54) (ty := .int) (C := RX5) (T := TX5) (N := 8) hx hb htg inX5 tyX5 tyX5_ok nmX5 hown hK.1 hP hD hS 0 rfl rfl 6 (by decide) (htg _ kw_390) (fun _ h9 => h9) rfl (by decide +kernel) rfl rfl (Nat.le_of_ble_eq_true rfl) dX5_addStep_55 (fun H locs hP hD hS => ?_)
    obtain ⟨hP, hD⟩ := (show xPD D A [((a 0), .inr (5, [.ref (a 4), .ref (ex 0), .ref (a 1), .ref (a 2), .ref (a 3), .ref (ex 1), .int z54, .int (vi 3)])), ((a 1), .inl (T 1, 40, .inl f27)), ((a 2), .inl (T 1, 40, .inl f37)), ((a 3), .inl (T 1, 40, .inl f47)), ((a 4), .inr (6, [.ref (ex 2), .ref (ex 3), .int (vi 4), .int (vi 5), .int (vi 6), .int (vi 7), .int (vi 8), .int (vi 9), .long (vl 0), .int (vi 10), .int (vi 11), .int (vi 12), .int (vi 13), .int (vi 14)]))] H from ⟨hP, hD⟩)
    refine lv_iconst (v := 1) hx hb dX5_addStep_58 (by decide) ?_
    have hP9 := hP.sub (ws' := [((a 0), .inr (5, [.ref (a 4), .ref (ex 0), .ref (a 1), .ref (a 2), .ref (a 3), .ref (ex 1), .int z54, .int (vi 3)])), ((a 1), .inl (T 1, 40, .inl f27)), ((a 2), .inl (T 1, 40, .inl f37)), ((a 3), .inl (T 1, 40, .inl f47)), ((a 4), .inr (6, [.ref (ex 2), .ref (ex 3), .int (vi 4), .int (vi 5), .int (vi 6), .int (vi 7), .int (vi 8), .int (vi 9), .long (vl 0), .int (vi 10), .int (vi 11), .int (vi 12), .int (vi 13), .int (vi 14)]))]) [0, 1, 2, 3, 4] rfl
    have hD9 := hD.sub (ws' := [((a 0), .inr (5, [.ref (a 4), .ref (ex 0), .ref (a 1), .ref (a 2), .ref (a 3), .ref (ex 1), .int z54, .int (vi 3)])), ((a 1), .inl (T 1, 40, .inl f27)), ((a 2), .inl (T 1, 40, .inl f37)), ((a 3), .inl (T 1, 40, .inl f47)), ((a 4), .inr (6, [.ref (ex 2), .ref (ex 3), .int (vi 4), .int (vi 5), .int (vi 6), .int (vi 7), .int (vi 8), .int (vi 9), .long (vl 0), .int (vi 10), .int (vi 11), .int (vi 12), .int (vi 13), .int (vi 14)]))]) [0, 1, 2, 3, 4] (by decide +kernel) rfl
    rw [hQ]
    exact W.zret (v := 1) hx hb hr rfl (fun t ht hW => ⟨⟨1, 1, rfl, rfl, xf [f27, f37, f47], xh [], xv [z54, (vi 13), (vi 14)], xl [], by rw [ht]; exact hP9, hD9, ⟨(Or.inl ⟨rfl, by show (vi 2).toInt < 40 ∧ (z54).toInt = (vi 2).toInt + 1; first | trivial | omega | assumption⟩), (by show 0 ≤ z54.toInt ∧ z54.toInt ≤ 40; omega), hp6, (by show (1 : Int32).toInt = 1 → (vi 13).toInt = (vi 13).toInt; have k9_0 : (1 : Int32).toInt = 1 := (by decide); exact fun _ => rfl), trivial⟩⟩, hS.F ht⟩) hS.2.2 dX5_addStep_59
  · have c6 := xnlt (k := 40) (by decide) c6
    refine lv_aload_n hx hb dX5_addStep_9 rfl (lv_at hl 0 rfl) ?_
    refine va_get (D := D) (ci := 5) (v := .ref (a 4)) (C := RX5) (T := TX5) (N := 8) hx hb htg inX5 hown hK.1 hP 0 rfl rfl 0 (by decide) (htg _ kw_384) (fun _ h9 => h9) rfl dX5_addStep_10 ?_
    refine lv_iconst (v := 4) hx hb dX5_addStep_13 (by decide) ?_
    obtain ⟨hC9, hPc, hDc, hFc⟩ := xcut (wc := (pre_X6_refuse T (xa [(a 4)]) (xa [(ex 2), (ex 3)]) (xf []) (xh []) (xv [4, (vi 4), (vi 5), (vi 6), (vi 7), (vi 8), (vi 9), (vi 10), (vi 11), (vi 12), (vi 13), (vi 14)]) (xl [(vl 0)]))) hP hD hS hA [4] (by decide) rfl
    refine va_calli (va_runVN (As := [.int 4]) (rest := []) ⟨hx, hb, hml, hown, htg⟩ (c_X6_refuse l D T (xa [(a 4)]) (xa [(ex 2), (ex 3)]) (xf []) (xh []) (xv [4, (vi 4), (vi 5), (vi 6), (vi 7), (vi 8), (vi 9), (vi 10), (vi 11), (vi 12), (vi 13), (vi 14)]) (xl [(vl 0)]) s.heap.size hp2 hp3 hp4 hp5 hp6) ⟨va_cnB 1 htg (xg_ok kw_594) rfl rfl rfl (hK.2.1 _ kn_1218) (htg _ kw_2) (by decide +kernel) ⟨by rw [hR]; exact Nat.le_of_ble_eq_true rfl, by rw [hR]; exact Nat.le_of_ble_eq_true rfl⟩, htg _ kw_593, htg _ ks_10⟩ (xpreV hK hPc hDc (va_recv hK.1 hPc (ci := 6) (q0 := 0) rfl rfl)) rfl rfl hl.1 rfl (lv_room (Nat.le_of_ble_eq_true rfl)) dX5_addStep_14 ⟨by rw [hR]; exact Nat.le_of_ble_eq_true rfl, by rw [hR]; exact Nat.le_of_ble_eq_true rfl⟩) hS (fun q _ h => hFc q h) hFc (fun r9 u9 t H1 locs ht hvm hw hB hz1 hk1 hS => ?_)
    subst hw
    obtain ⟨fik, flk, vik, vlk, hP1, hD1, hG⟩ := hB
    rw [ht] at hP1
    obtain ⟨hP, hD⟩ := va_join (wr := [((a 0), .inr (5, [.ref (a 4), .ref (ex 0), .ref (a 1), .ref (a 2), .ref (a 3), .ref (ex 1), .int (vi 2), .int (vi 3)])), ((a 1), .inl (T 1, 40, .inl (fi 0))), ((a 2), .inl (T 1, 40, .inl (fi 1))), ((a 3), .inl (T 1, 40, .inl (fi 2)))]) (w1 := [((a 4), .inr (6, [.ref (ex 2), .ref (ex 3), .int (vi 4), .int (vi 5), .int (vi 6), .int (vi 7), .int (vi 8), .int (vi 9), .long (vl 0), .int (vi 10), .int (vi 11), .int (vi 12), .int (vik 0), .int (vik 1)]))]) hP hD [4] [0, 1, 2, 3] hC9 rfl (by decide) (by decide) hk1 hFc hP1 hD1
    obtain ⟨rk, er9⟩ : ∃ z, z = r9 := ⟨_, rfl⟩
    subst er9
    clear hPc hDc hFc hP1 hD1 hk1 hz1 hvm ht hC9
    generalize H1 = H at hP hS ⊢
    obtain ⟨hP, hD⟩ := (show xPD D A [((a 0), .inr (5, [.ref (a 4), .ref (ex 0), .ref (a 1), .ref (a 2), .ref (a 3), .ref (ex 1), .int (vi 2), .int (vi 3)])), ((a 1), .inl (T 1, 40, .inl (fi 0))), ((a 2), .inl (T 1, 40, .inl (fi 1))), ((a 3), .inl (T 1, 40, .inl (fi 2))), ((a 4), .inr (6, [.ref (ex 2), .ref (ex 3), .int (vi 4), .int (vi 5), .int (vi 6), .int (vi 7), .int (vi 8), .int (vi 9), .long (vl 0), .int (vi 10), .int (vi 11), .int (vi 12), .int (vik 0), .int (vik 1)]))] H from ⟨hP, hD⟩)
    obtain ⟨gk_0, gk_1, gk_2, -⟩ := hG
    replace gk_1 : 0 ≤ (vik 1).toInt ∧ (vik 1).toInt ≤ 940 := gk_1
    replace gk_2 : (vik 0).toInt = (4 : Int32).toInt ∧ (vik 1).toInt = (vi 9).toInt := gk_2
    replace gk_0 : rk = 0 := gk_0
    refine xz_i 0 gk_0 ?_
    have hP9 := hP.sub (ws' := [((a 0), .inr (5, [.ref (a 4), .ref (ex 0), .ref (a 1), .ref (a 2), .ref (a 3), .ref (ex 1), .int (vi 2), .int (vi 3)])), ((a 1), .inl (T 1, 40, .inl (fi 0))), ((a 2), .inl (T 1, 40, .inl (fi 1))), ((a 3), .inl (T 1, 40, .inl (fi 2))), ((a 4), .inr (6, [.ref (ex 2), .ref (ex 3), .int (vi 4), .int (vi 5), .int (vi 6), .int (vi 7), .int (vi 8), .int (vi 9), .long (vl 0), .int (vi 10), .int (vi 11), .int (vi 12), .int (vik 0), .int (vik 1)]))]) [0, 1, 2, 3, 4] rfl
    have hD9 := hD.sub (ws' := [((a 0), .inr (5, [.ref (a 4), .ref (ex 0), .ref (a 1), .ref (a 2), .ref (a 3), .ref (ex 1), .int (vi 2), .int (vi 3)])), ((a 1), .inl (T 1, 40, .inl (fi 0))), ((a 2), .inl (T 1, 40, .inl (fi 1))), ((a 3), .inl (T 1, 40, .inl (fi 2))), ((a 4), .inr (6, [.ref (ex 2), .ref (ex 3), .int (vi 4), .int (vi 5), .int (vi 6), .int (vi 7), .int (vi 8), .int (vi 9), .long (vl 0), .int (vi 10), .int (vi 11), .int (vi 12), .int (vik 0), .int (vik 1)]))]) [0, 1, 2, 3, 4] (by decide +kernel) rfl
    rw [hQ]
    exact W.zret (v := 0) hx hb hr rfl (fun t ht hW => ⟨⟨0, 0, rfl, rfl, xf [(fi 0), (fi 1), (fi 2)], xh [], xv [(vi 2), (vik 0), (vik 1)], xl [], by rw [ht]; exact hP9, hD9, ⟨(Or.inr ⟨rfl, by show 40 ≤ (vi 2).toInt; first | trivial | omega | assumption⟩), hp0, gk_1, (by show (0 : Int32).toInt = 1 → (vik 0).toInt = (vi 13).toInt; have k9_0 : (0 : Int32).toInt = 0 := (by decide); exact fun h9 => absurd h9 (by decide)), trivial⟩⟩, hS.F ht⟩) hS.2.2 dX5_addStep_17
