abbrev pre_X6_hasRoom (T : Nat → ClassId) (a ex : Nat → Nat) (fi : Nat → Nat → Int32) (fl : Nat → Nat → Int64) (vi : Nat → Int32) : va_W := [((a 0), .inr (6, [.ref (ex 0), .ref (ex 1), .int (vi 0), .int 0, .int 0, .int 0, .int 0, .int 0, .long 0, .int 0, .int 0, .int 0, .int 0, .int 0]))]
set_option maxHeartbeats 4000000 in
set_option maxRecDepth 100000 in
theorem c_X6_hasRoom (l : Launch) (D : va_G) (T : Nat → ClassId) (a ex : Nat → Nat) (fi : Nat → Nat → Int32) (fl : Nat → Nat → Int64) (vi : Nat → Int32) (sz : Nat) : Met l yX6_hasRoom (xw yX6_hasRoom cX6_hasRoom 2 (some .boolean)) ({ frames := 0, cells := 0, slots := 0, locals := 0 }) (xP D T [.ref (a 0), .int 20] sz (pre_X6_hasRoom T a ex fi fl vi)) (va_Qi (fun r (_ : Unit) => r = 1) (xB D (va_A (pre_X6_hasRoom T a ex fi fl vi) sz) (fun _ => True) (fun b fj fm vj => [((a 0), .inr (6, [.ref (ex 0), .ref (ex 1), .int (vi 0), .int 0, .int 0, .int 0, .int 0, .int 0, .long 0, .int 0, .int 0, .int 0, .int 0, .int 0]))])) (va_A (pre_X6_hasRoom T a ex fi fl vi) sz)) 0 0 (va_A (pre_X6_hasRoom T a ex fi fl vi) sz) := by
  refine xofW (cc := cX6_hasRoom) (maxL := 2) (ret := (some .boolean)) (by decide) rfl ?_
  intro p e s m args below meth c s₁ R Q hR hQ B hml hv
  obtain ⟨rfl, hsz, hP, hK, hD0⟩ := hv
  have hx := B.exec
  have hb := B.bytes
  have hr := B.returns
  have hts := atoms_spec (ws := xw yX6_hasRoom cX6_hasRoom 2 (some .boolean)) B.pre
  have htg : ∀ w ∈ xg, w.before _ s = true := fun w h => hts w (List.mem_cons_of_mem _ h)
  have hown : s.vm.findClass RX6 = some m.cls := findClass_of_methodNamed B.named
  have hlocks := B.notSynchronized
  subst hsz
  have hD := hD0.self (sz := s.heap.size)
  generalize hAe : va_A (pre_X6_hasRoom T a ex fi fl vi) s.heap.size = A at hD hQ
  have hA : ∀ q : Nat, s.heap.size ≤ q → A q := fun q h => by rw [← hAe]; exact Or.inr h
  have hS : va_S A s.heap s.heap [] := va_S.rf
  replace hP : va_P D vwCl [((a 0), .inr (6, [.ref (ex 0), .ref (ex 1), .int (vi 0), .int 0, .int 0, .int 0, .int 0, .int 0, .long 0, .int 0, .int 0, .int 0, .int 0, .int 0]))] s.heap := hP
  replace hD : va_D A [((a 0), .inr (6, [.ref (ex 0), .ref (ex 1), .int (vi 0), .int 0, .int 0, .int 0, .int 0, .int 0, .long 0, .int 0, .int 0, .int 0, .int 0, .int 0]))] := hD
  have hl := lv_entry ([.ref (a 0), .int 20]) (n := 2) (Nat.le_of_ble_eq_true rfl)
  rw [lg_entry_eq]
  generalize (lg_sl ([.ref (a 0), .int 20]) ++ List.replicate (2 - (lg_sl ([.ref (a 0), .int 20])).length) Slot.unset).toArray = ls at hl ⊢
  replace hl : lv_has ls 2 [(0, .ref (a 0)), (1, .int 20)] := hl
  refine lv_aload_n hx hb dX6_hasRoom_0 rfl (lv_at hl 0 rfl) ?_
  refine va_get (D := D) (ci := 6) (v := .int 0) (C := RX6) (T := TX6) (N := 14) hx hb htg inX6 hown hK.1 hP 0 rfl rfl 3 (by decide) (htg _ kw_98) (fun _ h9 => h9) rfl dX6_hasRoom_1 ?_
  refine lv_iload_n hx hb dX6_hasRoom_4 rfl (lv_at hl 1 rfl) ?_
  refine lv_iadd hx hb dX6_hasRoom_5 ?_
  refine xz_i 20 (by decide) ?_
  refine lv_sipush (v := 940) hx hb dX6_hasRoom_6 (by decide) ?_
  refine lv_icmp_gt (tgt := 16) hx hb dX6_hasRoom_9 (by decide) (fun c => absurd c (by decide)) (fun _ => ?_)
  refine lv_iconst (v := 1) hx hb dX6_hasRoom_12 (by decide) ?_
  refine lv_goto (tgt := 17) hx hb dX6_hasRoom_13 (by decide) ?_
  have hP9 := hP.sub (ws' := [((a 0), .inr (6, [.ref (ex 0), .ref (ex 1), .int (vi 0), .int 0, .int 0, .int 0, .int 0, .int 0, .long 0, .int 0, .int 0, .int 0, .int 0, .int 0]))]) [0] rfl
  have hD9 := hD.sub (ws' := [((a 0), .inr (6, [.ref (ex 0), .ref (ex 1), .int (vi 0), .int 0, .int 0, .int 0, .int 0, .int 0, .long 0, .int 0, .int 0, .int 0, .int 0, .int 0]))]) [0] (by decide +kernel) rfl
  rw [hQ]
  exact W.zret (v := 1) hx hb hr rfl (fun t ht hW => ⟨⟨1, (), rfl, rfl, ⟨xa [], xf [], xh [], xv [], by rw [ht]; exact hP9, hD9, trivial⟩⟩, hS.F ht⟩) hS.2.2 dX6_hasRoom_17
abbrev pre_X6_put (T : Nat → ClassId) (a ex : Nat → Nat) (fi : Nat → Nat → Int32) (fl : Nat → Nat → Int64) (vi : Nat → Int32) : va_W := [((a 0), .inr (6, [.ref (a 1), .ref (ex 0), .int (vi 1), .int 0, .int 0, .int 0, .int 0, .int 0, .long 0, .int 0, .int 0, .int 0, .int 0, .int 0])), ((a 1), .inl (T 0, 940, .inl (fun _ => 0)))]
set_option maxHeartbeats 4000000 in
set_option maxRecDepth 100000 in
theorem c_X6_put (l : Launch) (D : va_G) (T : Nat → ClassId) (a ex : Nat → Nat) (fi : Nat → Nat → Int32) (fl : Nat → Nat → Int64) (vi : Nat → Int32) (sz : Nat) : Met l yX6_put (xw yX6_put cX6_put 3 none) ({ frames := 0, cells := 0, slots := 0, locals := 0 }) (xP D T [.ref (a 0), .int (vi 0)] sz (pre_X6_put T a ex fi fl vi)) (va_Qv (fun _ : Unit => True) (xB D (va_A (pre_X6_put T a ex fi fl vi) sz) (fun _ => True) (fun b fj fm vj => [((a 0), .inr (6, [.ref (a 1), .ref (ex 0), .int (vi 1), .int 4, .int 0, .int 0, .int 0, .int 0, .long 0, .int 0, .int 0, .int 0, .int 0, .int 0])), ((a 1), .inl (T 0, 940, .inl (fj 0)))])) (va_A (pre_X6_put T a ex fi fl vi) sz)) 0 0 (va_A (pre_X6_put T a ex fi fl vi) sz) := by
  refine xofW (cc := cX6_put) (maxL := 3) (ret := none) (by decide) rfl ?_
  intro p e s m args below meth c s₁ R Q hR hQ B hml hv
  obtain ⟨rfl, hsz, hP, hK, hD0⟩ := hv
  have hx := B.exec
  have hb := B.bytes
  have hr := B.returns
  have hts := atoms_spec (ws := xw yX6_put cX6_put 3 none) B.pre
  have htg : ∀ w ∈ xg, w.before _ s = true := fun w h => hts w (List.mem_cons_of_mem _ h)
  have hown : s.vm.findClass RX6 = some m.cls := findClass_of_methodNamed B.named
  have hlocks := B.notSynchronized
  subst hsz
  have hD := hD0.self (sz := s.heap.size)
  generalize hAe : va_A (pre_X6_put T a ex fi fl vi) s.heap.size = A at hD hQ
  have hA : ∀ q : Nat, s.heap.size ≤ q → A q := fun q h => by rw [← hAe]; exact Or.inr h
  have hS : va_S A s.heap s.heap [] := va_S.rf
  replace hP : va_P D vwCl [((a 0), .inr (6, [.ref (a 1), .ref (ex 0), .int (vi 1), .int 0, .int 0, .int 0, .int 0, .int 0, .long 0, .int 0, .int 0, .int 0, .int 0, .int 0])), ((a 1), .inl (T 0, 940, .inl (fun _ => 0)))] s.heap := hP
  replace hD : va_D A [((a 0), .inr (6, [.ref (a 1), .ref (ex 0), .int (vi 1), .int 0, .int 0, .int 0, .int 0, .int 0, .long 0, .int 0, .int 0, .int 0, .int 0, .int 0])), ((a 1), .inl (T 0, 940, .inl (fun _ => 0)))] := hD
  have hl := lv_entry ([.ref (a 0), .int (vi 0)]) (n := 3) (Nat.le_of_ble_eq_true rfl)
  rw [lg_entry_eq]
  generalize (lg_sl ([.ref (a 0), .int (vi 0)]) ++ List.replicate (3 - (lg_sl ([.ref (a 0), .int (vi 0)])).length) Slot.unset).toArray = ls at hl ⊢
  replace hl : lv_has ls 3 [(0, .ref (a 0)), (1, .int (vi 0))] := hl
  refine lv_bipush (v := 24) hx hb dX6_put_0 (by decide) ?_
  refine lv_istore_n (lv' := [(2, .int 24), (0, .ref (a 0)), (1, .int (vi 0))]) hx hb dX6_put_2 rfl hl (by decide) rfl (fun ls hl => ?_)
  refine lv_iload_n hx hb dX6_put_3 rfl (lv_at hl 0 rfl) ?_
  refine lv_if_lt (tgt := 46) hx hb dX6_put_4 (by decide) (fun c => absurd c (by decide)) (fun _ => ?_)
  refine lv_aload_n hx hb dX6_put_7 rfl (lv_at hl 1 rfl) ?_
  refine va_get (D := D) (ci := 6) (v := .int 0) (C := RX6) (T := TX6) (N := 14) hx hb htg inX6 hown hK.1 hP 0 rfl rfl 3 (by decide) (htg _ kw_98) (fun _ h9 => h9) rfl dX6_put_8 ?_
  refine lv_sipush (v := 940) hx hb dX6_put_11 (by decide) ?_
  refine lv_icmp_ge (tgt := 46) hx hb dX6_put_14 (by decide) (fun c => absurd c (by decide)) (fun _ => ?_)
  refine lv_aload_n hx hb dX6_put_17 rfl (lv_at hl 1 rfl) ?_
  refine va_get (D := D) (ci := 6) (v := .ref (a 1)) (C := RX6) (T := TX6) (N := 14) hx hb htg inX6 hown hK.1 hP 0 rfl rfl 0 (by decide) (htg _ kw_94) (fun _ h9 => h9) rfl dX6_put_18 ?_
  refine lv_aload_n hx hb dX6_put_21 rfl (lv_at hl 1 rfl) ?_
  refine va_get (D := D) (ci := 6) (v := .int 0) (C := RX6) (T := TX6) (N := 14) hx hb htg inX6 hown hK.1 hP 0 rfl rfl 3 (by decide) (htg _ kw_98) (fun _ h9 => h9) rfl dX6_put_22 ?_
  refine lv_iload_n hx hb dX6_put_25 rfl (lv_at hl 2 rfl) ?_
  refine lv_iload_n hx hb dX6_put_26 rfl (lv_at hl 0 rfl) ?_
  refine lv_iushr hx hb dX6_put_27 rfl ?_
  refine lv_topi (fun z27 _ => ?_)
  refine lv_i2b hx hb dX6_put_28 rfl ?_
  refine lv_topi (fun z28 _ => ?_)
  refine va_bast hx hb hK.1 hP hD hS 1 0 rfl rfl (vp_in_nI (n := 0) (by decide) (by decide)) dX6_put_29 (fun H locs hP hD hS => ?_)
  obtain ⟨f29, hP, hD⟩ : ∃ f29 : Nat → Int32, va_P D vwCl [((a 0), .inr (6, [.ref (a 1), .ref (ex 0), .int (vi 1), .int 0, .int 0, .int 0, .int 0, .int 0, .long 0, .int 0, .int 0, .int 0, .int 0, .int 0])), ((a 1), .inl (T 0, 940, .inl f29))] H ∧ va_D A [((a 0), .inr (6, [.ref (a 1), .ref (ex 0), .int (vi 1), .int 0, .int 0, .int 0, .int 0, .int 0, .long 0, .int 0, .int 0, .int 0, .int 0, .int 0])), ((a 1), .inl (T 0, 940, .inl f29))] := ⟨upd (fun _ => 0) (0 : Int32).toNatClampNeg (vp_nar .byte (z28 : Int32)), hP, hD⟩
  refine lv_aload_n hx hb dX6_put_30 rfl (lv_at hl 1 rfl) ?_
  refine lv_dup hx hb dX6_put_31 rfl ?_
  refine va_get (D := D) (ci := 6) (v := .int 0) (C := RX6) (T := TX6) (N := 14) hx hb htg inX6 hown hK.1 hP 0 rfl rfl 3 (by decide) (htg _ kw_98) (fun _ h9 => h9) rfl dX6_put_32 ?_
  refine lv_iconst (v := 1) hx hb dX6_put_35 (by decide) ?_
  refine lv_iadd hx hb dX6_put_36 ?_
  refine xz_i 1 (by decide) ?_
  refine va_put (D := D) (ci := 6) (v := .int 1) (ty := .int) (C := RX6) (T := TX6) (N := 14) hx hb htg inX6 tyX6 tyX6_ok nmX6 hown hK.1 hP hD hS 0 rfl rfl 3 (by decide) (htg _ kw_98) (fun _ h9 => h9) rfl (by decide +kernel) rfl rfl (Nat.le_of_ble_eq_true rfl) dX6_put_37 (fun H locs hP hD hS => ?_)
  replace hP : va_P D vwCl [((a 0), .inr (6, [.ref (a 1), .ref (ex 0), .int (vi 1), .int 1, .int 0, .int 0, .int 0, .int 0, .long 0, .int 0, .int 0, .int 0, .int 0, .int 0])), ((a 1), .inl (T 0, 940, .inl f29))] H := hP
  replace hD : va_D A [((a 0), .inr (6, [.ref (a 1), .ref (ex 0), .int (vi 1), .int 1, .int 0, .int 0, .int 0, .int 0, .long 0, .int 0, .int 0, .int 0, .int 0, .int 0])), ((a 1), .inl (T 0, 940, .inl f29))] := hD
  refine lv_iinc (v := 16) (lv' := [(2, .int 16), (0, .ref (a 0)), (1, .int (vi 0))]) hx hb dX6_put_40 hl (k := 0) rfl (by decide) (by decide) rfl (fun ls hl => ?_)
  refine lv_goto (tgt := 3) hx hb dX6_put_43 (by decide) ?_
  refine lv_iload_n hx hb dX6_put_3 rfl (lv_at hl 0 rfl) ?_
  refine lv_if_lt (tgt := 46) hx hb dX6_put_4 (by decide) (fun c => absurd c (by decide)) (fun _ => ?_)
  refine lv_aload_n hx hb dX6_put_7 rfl (lv_at hl 1 rfl) ?_
  refine va_get (D := D) (ci := 6) (v := .int 1) (C := RX6) (T := TX6) (N := 14) hx hb htg inX6 hown hK.1 hP 0 rfl rfl 3 (by decide) (htg _ kw_98) (fun _ h9 => h9) rfl dX6_put_8 ?_
  refine lv_sipush (v := 940) hx hb dX6_put_11 (by decide) ?_
  refine lv_icmp_ge (tgt := 46) hx hb dX6_put_14 (by decide) (fun c => absurd c (by decide)) (fun _ => ?_)
  refine lv_aload_n hx hb dX6_put_17 rfl (lv_at hl 1 rfl) ?_
  refine va_get (D := D) (ci := 6) (v := .ref (a 1)) (C := RX6) (T := TX6) (N := 14) hx hb htg inX6 hown hK.1 hP 0 rfl rfl 0 (by decide) (htg _ kw_94) (fun _ h9 => h9) rfl dX6_put_18 ?_
  refine lv_aload_n hx hb dX6_put_21 rfl (lv_at hl 1 rfl) ?_
  refine va_get (D := D) (ci := 6) (v := .int 1) (C := RX6) (T := TX6) (N := 14) hx hb htg inX6 hown hK.1 hP 0 rfl rfl 3 (by decide) (htg _ kw_98) (fun _ h9 => h9) rfl dX6_put_22 ?_
  refine lv_iload_n hx hb dX6_put_25 rfl (lv_at hl 2 rfl) ?_
  refine lv_iload_n hx hb dX6_put_26 rfl (lv_at hl 0 rfl) ?_
  refine lv_iushr hx hb dX6_put_27 rfl ?_
  refine lv_topi (fun z27_1 _ => ?_)
  refine lv_i2b hx hb dX6_put_28 rfl ?_
  refine lv_topi (fun z28_1 _ => ?_)
  refine va_bast hx hb hK.1 hP hD hS 1 0 rfl rfl (vp_in_nI (n := 1) (by decide) (by decide)) dX6_put_29 (fun H locs hP hD hS => ?_)
  obtain ⟨f29_1, hP, hD⟩ : ∃ f29_1 : Nat → Int32, va_P D vwCl [((a 0), .inr (6, [.ref (a 1), .ref (ex 0), .int (vi 1), .int 1, .int 0, .int 0, .int 0, .int 0, .long 0, .int 0, .int 0, .int 0, .int 0, .int 0])), ((a 1), .inl (T 0, 940, .inl f29_1))] H ∧ va_D A [((a 0), .inr (6, [.ref (a 1), .ref (ex 0), .int (vi 1), .int 1, .int 0, .int 0, .int 0, .int 0, .long 0, .int 0, .int 0, .int 0, .int 0, .int 0])), ((a 1), .inl (T 0, 940, .inl f29_1))] := ⟨upd f29 (1 : Int32).toNatClampNeg (vp_nar .byte (z28_1 : Int32)), hP, hD⟩
  refine lv_aload_n hx hb dX6_put_30 rfl (lv_at hl 1 rfl) ?_
  refine lv_dup hx hb dX6_put_31 rfl ?_
  refine va_get (D := D) (ci := 6) (v := .int 1) (C := RX6) (T := TX6) (N := 14) hx hb htg inX6 hown hK.1 hP 0 rfl rfl 3 (by decide) (htg _ kw_98) (fun _ h9 => h9) rfl dX6_put_32 ?_
  refine lv_iconst (v := 1) hx hb dX6_put_35 (by decide) ?_
  refine lv_iadd hx hb dX6_put_36 ?_
  refine xz_i 2 (by decide) ?_
  refine va_put (D := D) (ci := 6) (v := .int 2) (ty := .int) (C := RX6) (T := TX6) (N := 14) hx hb htg inX6 tyX6 tyX6_ok nmX6 hown hK.1 hP hD hS 0 rfl rfl 3 (by decide) (htg _ kw_98) (fun _ h9 => h9) rfl (by decide +kernel) rfl rfl (Nat.le_of_ble_eq_true rfl) dX6_put_37 (fun H locs hP hD hS => ?_)
  replace hP : va_P D vwCl [((a 0), .inr (6, [.ref (a 1), .ref (ex 0), .int (vi 1), .int 2, .int 0, .int 0, .int 0, .int 0, .long 0, .int 0, .int 0, .int 0, .int 0, .int 0])), ((a 1), .inl (T 0, 940, .inl f29_1))] H := hP
  replace hD : va_D A [((a 0), .inr (6, [.ref (a 1), .ref (ex 0), .int (vi 1), .int 2, .int 0, .int 0, .int 0, .int 0, .long 0, .int 0, .int 0, .int 0, .int 0, .int 0])), ((a 1), .inl (T 0, 940, .inl f29_1))] := hD
  refine lv_iinc (v := 8) (lv' := [(2, .int 8), (0, .ref (a 0)), (1, .int (vi 0))]) hx hb dX6_put_40 hl (k := 0) rfl (by decide) (by decide) rfl (fun ls hl => ?_)
  refine lv_goto (tgt := 3) hx hb dX6_put_43 (by decide) ?_
  refine lv_iload_n hx hb dX6_put_3 rfl (lv_at hl 0 rfl) ?_
  refine lv_if_lt (tgt := 46) hx hb dX6_put_4 (by decide) (fun c => absurd c (by decide)) (fun _ => ?_)
  refine lv_aload_n hx hb dX6_put_7 rfl (lv_at hl 1 rfl) ?_
  refine va_get (D := D) (ci := 6) (v := .int 2) (C := RX6) (T := TX6) (N := 14) hx hb htg inX6 hown hK.1 hP 0 rfl rfl 3 (by decide) (htg _ kw_98) (fun _ h9 => h9) rfl dX6_put_8 ?_
  refine lv_sipush (v := 940) hx hb dX6_put_11 (by decide) ?_
  refine lv_icmp_ge (tgt := 46) hx hb dX6_put_14 (by decide) (fun c => absurd c (by decide)) (fun _ => ?_)
  refine lv_aload_n hx hb dX6_put_17 rfl (lv_at hl 1 rfl) ?_
  refine va_get (D := D) (ci := 6) (v := .ref (a 1)) (C := RX6) (T := TX6) (N := 14) hx hb htg inX6 hown hK.1 hP 0 rfl rfl 0 (by decide) (htg _ kw_94) (fun _ h9 => h9) rfl dX6_put_18 ?_
  refine lv_aload_n hx hb dX6_put_21 rfl (lv_at hl 1 rfl) ?_
  refine va_get (D := D) (ci := 6) (v := .int 2) (C := RX6) (T := TX6) (N := 14) hx hb htg inX6 hown hK.1 hP 0 rfl rfl 3 (by decide) (htg _ kw_98) (fun _ h9 => h9) rfl dX6_put_22 ?_
  refine lv_iload_n hx hb dX6_put_25 rfl (lv_at hl 2 rfl) ?_
  refine lv_iload_n hx hb dX6_put_26 rfl (lv_at hl 0 rfl) ?_
  refine lv_iushr hx hb dX6_put_27 rfl ?_
  refine lv_topi (fun z27_2 _ => ?_)
  refine lv_i2b hx hb dX6_put_28 rfl ?_
  refine lv_topi (fun z28_2 _ => ?_)
  refine va_bast hx hb hK.1 hP hD hS 1 0 rfl rfl (vp_in_nI (n := 2) (by decide) (by decide)) dX6_put_29 (fun H locs hP hD hS => ?_)
  obtain ⟨f29_2, hP, hD⟩ : ∃ f29_2 : Nat → Int32, va_P D vwCl [((a 0), .inr (6, [.ref (a 1), .ref (ex 0), .int (vi 1), .int 2, .int 0, .int 0, .int 0, .int 0, .long 0, .int 0, .int 0, .int 0, .int 0, .int 0])), ((a 1), .inl (T 0, 940, .inl f29_2))] H ∧ va_D A [((a 0), .inr (6, [.ref (a 1), .ref (ex 0), .int (vi 1), .int 2, .int 0, .int 0, .int 0, .int 0, .long 0, .int 0, .int 0, .int 0, .int 0, .int 0])), ((a 1), .inl (T 0, 940, .inl f29_2))] := ⟨upd f29_1 (2 : Int32).toNatClampNeg (vp_nar .byte (z28_2 : Int32)), hP, hD⟩
  refine lv_aload_n hx hb dX6_put_30 rfl (lv_at hl 1 rfl) ?_
  refine lv_dup hx hb dX6_put_31 rfl ?_
  refine va_get (D := D) (ci := 6) (v := .int 2) (C := RX6) (T := TX6) (N := 14) hx hb htg inX6 hown hK.1 hP 0 rfl rfl 3 (by decide) (htg _ kw_98) (fun _ h9 => h9) rfl dX6_put_32 ?_
  refine lv_iconst (v := 1) hx hb dX6_put_35 (by decide) ?_
  refine lv_iadd hx hb dX6_put_36 ?_
  refine xz_i 3 (by decide) ?_
  refine va_put (D := D) (ci := 6) (v := .int 3) (ty := .int) (C := RX6) (T := TX6) (N := 14) hx hb htg inX6 tyX6 tyX6_ok nmX6 hown hK.1 hP hD hS 0 rfl rfl 3 (by decide) (htg _ kw_98) (fun _ h9 => h9) rfl (by decide +kernel) rfl rfl (Nat.le_of_ble_eq_true rfl) dX6_put_37 (fun H locs hP hD hS => ?_)
  replace hP : va_P D vwCl [((a 0), .inr (6, [.ref (a 1), .ref (ex 0), .int (vi 1), .int 3, .int 0, .int 0, .int 0, .int 0, .long 0, .int 0, .int 0, .int 0, .int 0, .int 0])), ((a 1), .inl (T 0, 940, .inl f29_2))] H := hP
  replace hD : va_D A [((a 0), .inr (6, [.ref (a 1), .ref (ex 0), .int (vi 1), .int 3, .int 0, .int 0, .int 0, .int 0, .long 0, .int 0, .int 0, .int 0, .int 0, .int 0])), ((a 1), .inl (T 0, 940, .inl f29_2))] := hD
  refine lv_iinc (v := 0) (lv' := [(2, .int 0), (0, .ref (a 0)), (1, .int (vi 0))]) hx hb dX6_put_40 hl (k := 0) rfl (by decide) (by decide) rfl (fun ls hl => ?_)
  refine lv_goto (tgt := 3) hx hb dX6_put_43 (by decide) ?_
  refine lv_iload_n hx hb dX6_put_3 rfl (lv_at hl 0 rfl) ?_
  refine lv_if_lt (tgt := 46) hx hb dX6_put_4 (by decide) (fun c => absurd c (by decide)) (fun _ => ?_)
  refine lv_aload_n hx hb dX6_put_7 rfl (lv_at hl 1 rfl) ?_
  refine va_get (D := D) (ci := 6) (v := .int 3) (C := RX6) (T := TX6) (N := 14) hx hb htg inX6 hown hK.1 hP 0 rfl rfl 3 (by decide) (htg _ kw_98) (fun _ h9 => h9) rfl dX6_put_8 ?_
  refine lv_sipush (v := 940) hx hb dX6_put_11 (by decide) ?_
  refine lv_icmp_ge (tgt := 46) hx hb dX6_put_14 (by decide) (fun c => absurd c (by decide)) (fun _ => ?_)
  refine lv_aload_n hx hb dX6_put_17 rfl (lv_at hl 1 rfl) ?_
  refine va_get (D := D) (ci := 6) (v := .ref (a 1)) (C := RX6) (T := TX6) (N := 14) hx hb htg inX6 hown hK.1 hP 0 rfl rfl 0 (by decide) (htg _ kw_94) (fun _ h9 => h9) rfl dX6_put_18 ?_
  refine lv_aload_n hx hb dX6_put_21 rfl (lv_at hl 1 rfl) ?_
  refine va_get (D := D) (ci := 6) (v := .int 3) (C := RX6) (T := TX6) (N := 14) hx hb htg inX6 hown hK.1 hP 0 rfl rfl 3 (by decide) (htg _ kw_98) (fun _ h9 => h9) rfl dX6_put_22 ?_
  refine lv_iload_n hx hb dX6_put_25 rfl (lv_at hl 2 rfl) ?_
  refine lv_iload_n hx hb dX6_put_26 rfl (lv_at hl 0 rfl) ?_
  refine lv_iushr hx hb dX6_put_27 rfl ?_
  refine lv_topi (fun z27_3 _ => ?_)
  refine lv_i2b hx hb dX6_put_28 rfl ?_
  refine lv_topi (fun z28_3 _ => ?_)
  refine va_bast hx hb hK.1 hP hD hS 1 0 rfl rfl (vp_in_nI (n := 3) (by decide) (by decide)) dX6_put_29 (fun H locs hP hD hS => ?_)
  obtain ⟨f29_3, hP, hD⟩ : ∃ f29_3 : Nat → Int32, va_P D vwCl [((a 0), .inr (6, [.ref (a 1), .ref (ex 0), .int (vi 1), .int 3, .int 0, .int 0, .int 0, .int 0, .long 0, .int 0, .int 0, .int 0, .int 0, .int 0])), ((a 1), .inl (T 0, 940, .inl f29_3))] H ∧ va_D A [((a 0), .inr (6, [.ref (a 1), .ref (ex 0), .int (vi 1), .int 3, .int 0, .int 0, .int 0, .int 0, .long 0, .int 0, .int 0, .int 0, .int 0, .int 0])), ((a 1), .inl (T 0, 940, .inl f29_3))] := ⟨upd f29_2 (3 : Int32).toNatClampNeg (vp_nar .byte (z28_3 : Int32)), hP, hD⟩
  refine lv_aload_n hx hb dX6_put_30 rfl (lv_at hl 1 rfl) ?_
  refine lv_dup hx hb dX6_put_31 rfl ?_
  refine va_get (D := D) (ci := 6) (v := .int 3) (C := RX6) (T := TX6) (N := 14) hx hb htg inX6 hown hK.1 hP 0 rfl rfl 3 (by decide) (htg _ kw_98) (fun _ h9 => h9) rfl dX6_put_32 ?_
  refine lv_iconst (v := 1) hx hb dX6_put_35 (by decide) ?_
  refine lv_iadd hx hb dX6_put_36 ?_
  refine xz_i 4 (by decide) ?_
  refine va_put (D := D) (ci := 6) (v := .int 4) (ty := .int) (C := RX6) (T := TX6) (N := 14) hx hb htg inX6 tyX6 tyX6_ok nmX6 hown hK.1 hP hD hS 0 rfl rfl 3 (by decide) (htg _ kw_98) (fun _ h9 => h9) rfl (by decide +kernel) rfl rfl (Nat.le_of_ble_eq_true rfl) dX6_put_37 (fun H locs hP hD hS => ?_)
  replace hP : va_P D vwCl [((a 0), .inr (6, [.ref (a 1), .ref (ex 0), .int (vi 1), .int 4, .int 0, .int 0, .int 0, .int 0, .long 0, .int 0, .int 0, .int 0, .int 0, .int 0])), ((a 1), .inl (T 0, 940, .inl f29_3))] H := hP
  replace hD : va_D A [((a 0), .inr (6, [.ref (a 1), .ref (ex 0), .int (vi 1), .int 4, .int 0, .int 0, .int 0, .int 0, .long 0, .int 0, .int 0, .int 0, .int 0, .int 0])), ((a 1), .inl (T 0, 940, .inl f29_3))] := hD
  refine lv_iinc (v := (-8)) (lv' := [(2, .int (-8)), (0, .ref (a 0)), (1, .int (vi 0))]) hx hb dX6_put_40 hl (k := 0) rfl (by decide) (by decide) rfl (fun ls hl => ?_)
  refine lv_goto (tgt := 3) hx hb dX6_put_43 (by decide) ?_
  refine lv_iload_n hx hb dX6_put_3 rfl (lv_at hl 0 rfl) ?_
  refine lv_if_lt (tgt := 46) hx hb dX6_put_4 (by decide) (fun _ => ?_) (fun c => absurd (by decide) c)
  have hP9 := hP.sub (ws' := [((a 0), .inr (6, [.ref (a 1), .ref (ex 0), .int (vi 1), .int 4, .int 0, .int 0, .int 0, .int 0, .long 0, .int 0, .int 0, .int 0, .int 0, .int 0])), ((a 1), .inl (T 0, 940, .inl f29_3))]) [0, 1] rfl
  have hD9 := hD.sub (ws' := [((a 0), .inr (6, [.ref (a 1), .ref (ex 0), .int (vi 1), .int 4, .int 0, .int 0, .int 0, .int 0, .long 0, .int 0, .int 0, .int 0, .int 0, .int 0])), ((a 1), .inl (T 0, 940, .inl f29_3))]) [0, 1] (by decide +kernel) rfl
  rw [hQ]
  exact W.vret hx hb hr (fun t ht hW => ⟨⟨(), rfl, trivial, ⟨xa [], xf [f29_3], xh [], xv [], by rw [ht]; exact hP9, hD9, trivial⟩⟩, hS.F ht⟩) hS.2.2 dX6_put_46
abbrev pre_X6_put_2 (T : Nat → ClassId) (a ex : Nat → Nat) (fi : Nat → Nat → Int32) (fl : Nat → Nat → Int64) (vi : Nat → Int32) : va_W := [((a 0), .inr (6, [.ref (a 1), .ref (ex 0), .int (vi 1), .int 4, .int 0, .int 0, .int 0, .int 0, .long 0, .int 0, .int 0, .int 0, .int 0, .int 0])), ((a 1), .inl (T 0, 940, .inl (fi 0)))]
set_option maxHeartbeats 4000000 in
set_option maxRecDepth 100000 in
theorem c_X6_put_2 (l : Launch) (D : va_G) (T : Nat → ClassId) (a ex : Nat → Nat) (fi : Nat → Nat → Int32) (fl : Nat → Nat → Int64) (vi : Nat → Int32) (sz : Nat) : Met l yX6_put (xw yX6_put cX6_put 3 none) ({ frames := 0, cells := 0, slots := 0, locals := 0 }) (xP D T [.ref (a 0), .int (vi 0)] sz (pre_X6_put_2 T a ex fi fl vi)) (va_Qv (fun _ : Unit => True) (xB D (va_A (pre_X6_put_2 T a ex fi fl vi) sz) (fun _ => True) (fun b fj fm vj => [((a 0), .inr (6, [.ref (a 1), .ref (ex 0), .int (vi 1), .int 8, .int 0, .int 0, .int 0, .int 0, .long 0, .int 0, .int 0, .int 0, .int 0, .int 0])), ((a 1), .inl (T 0, 940, .inl (fj 0)))])) (va_A (pre_X6_put_2 T a ex fi fl vi) sz)) 0 0 (va_A (pre_X6_put_2 T a ex fi fl vi) sz) := by
  refine xofW (cc := cX6_put) (maxL := 3) (ret := none) (by decide) rfl ?_
  intro p e s m args below meth c s₁ R Q hR hQ B hml hv
  obtain ⟨rfl, hsz, hP, hK, hD0⟩ := hv
  have hx := B.exec
  have hb := B.bytes
  have hr := B.returns
  have hts := atoms_spec (ws := xw yX6_put cX6_put 3 none) B.pre
  have htg : ∀ w ∈ xg, w.before _ s = true := fun w h => hts w (List.mem_cons_of_mem _ h)
  have hown : s.vm.findClass RX6 = some m.cls := findClass_of_methodNamed B.named
  have hlocks := B.notSynchronized
  subst hsz
  have hD := hD0.self (sz := s.heap.size)
  generalize hAe : va_A (pre_X6_put_2 T a ex fi fl vi) s.heap.size = A at hD hQ
  have hA : ∀ q : Nat, s.heap.size ≤ q → A q := fun q h => by rw [← hAe]; exact Or.inr h
  have hS : va_S A s.heap s.heap [] := va_S.rf
  replace hP : va_P D vwCl [((a 0), .inr (6, [.ref (a 1), .ref (ex 0), .int (vi 1), .int 4, .int 0, .int 0, .int 0, .int 0, .long 0, .int 0, .int 0, .int 0, .int 0, .int 0])), ((a 1), .inl (T 0, 940, .inl (fi 0)))] s.heap := hP
  replace hD : va_D A [((a 0), .inr (6, [.ref (a 1), .ref (ex 0), .int (vi 1), .int 4, .int 0, .int 0, .int 0, .int 0, .long 0, .int 0, .int 0, .int 0, .int 0, .int 0])), ((a 1), .inl (T 0, 940, .inl (fi 0)))] := hD
  have hl := lv_entry ([.ref (a 0), .int (vi 0)]) (n := 3) (Nat.le_of_ble_eq_true rfl)
  rw [lg_entry_eq]
  generalize (lg_sl ([.ref (a 0), .int (vi 0)]) ++ List.replicate (3 - (lg_sl ([.ref (a 0), .int (vi 0)])).length) Slot.unset).toArray = ls at hl ⊢
  replace hl : lv_has ls 3 [(0, .ref (a 0)), (1, .int (vi 0))] := hl
  refine lv_bipush (v := 24) hx hb dX6_put_0 (by decide) ?_
  refine lv_istore_n (lv' := [(2, .int 24), (0, .ref (a 0)), (1, .int (vi 0))]) hx hb dX6_put_2 rfl hl (by decide) rfl (fun ls hl => ?_)
  refine lv_iload_n hx hb dX6_put_3 rfl (lv_at hl 0 rfl) ?_
  refine lv_if_lt (tgt := 46) hx hb dX6_put_4 (by decide) (fun c => absurd c (by decide)) (fun _ => ?_)
  refine lv_aload_n hx hb dX6_put_7 rfl (lv_at hl 1 rfl) ?_
  refine va_get (D := D) (ci := 6) (v := .int 4) (C := RX6) (T := TX6) (N := 14) hx hb htg inX6 hown hK.1 hP 0 rfl rfl 3 (by decide) (htg _ kw_98) (fun _ h9 => h9) rfl dX6_put_8 ?_
  refine lv_sipush (v := 940) hx hb dX6_put_11 (by decide) ?_
  refine lv_icmp_ge (tgt := 46) hx hb dX6_put_14 (by decide) (fun c => absurd c (by decide)) (fun _ => ?_)
  refine lv_aload_n hx hb dX6_put_17 rfl (lv_at hl 1 rfl) ?_
  refine va_get (D := D) (ci := 6) (v := .ref (a 1)) (C := RX6) (T := TX6) (N := 14) hx hb htg inX6 hown hK.1 hP 0 rfl rfl 0 (by decide) (htg _ kw_94) (fun _ h9 => h9) rfl dX6_put_18 ?_
  refine lv_aload_n hx hb dX6_put_21 rfl (lv_at hl 1 rfl) ?_
  refine va_get (D := D) (ci := 6) (v := .int 4) (C := RX6) (T := TX6) (N := 14) hx hb htg inX6 hown hK.1 hP 0 rfl rfl 3 (by decide) (htg _ kw_98) (fun _ h9 => h9) rfl dX6_put_22 ?_
  refine lv_iload_n hx hb dX6_put_25 rfl (lv_at hl 2 rfl) ?_
  refine lv_iload_n hx hb dX6_put_26 rfl (lv_at hl 0 rfl) ?_
  refine lv_iushr hx hb dX6_put_27 rfl ?_
  refine lv_topi (fun z27 _ => ?_)
  refine lv_i2b hx hb dX6_put_28 rfl ?_
  refine lv_topi (fun z28 _ => ?_)
  refine va_bast hx hb hK.1 hP hD hS 1 0 rfl rfl (vp_in_nI (n := 4) (by decide) (by decide)) dX6_put_29 (fun H locs hP hD hS => ?_)
  obtain ⟨f29, hP, hD⟩ : ∃ f29 : Nat → Int32, va_P D vwCl [((a 0), .inr (6, [.ref (a 1), .ref (ex 0), .int (vi 1), .int 4, .int 0, .int 0, .int 0, .int 0, .long 0, .int 0, .int 0, .int 0, .int 0, .int 0])), ((a 1), .inl (T 0, 940, .inl f29))] H ∧ va_D A [((a 0), .inr (6, [.ref (a 1), .ref (ex 0), .int (vi 1), .int 4, .int 0, .int 0, .int 0, .int 0, .long 0, .int 0, .int 0, .int 0, .int 0, .int 0])), ((a 1), .inl (T 0, 940, .inl f29))] := ⟨upd (fi 0) (4 : Int32).toNatClampNeg (vp_nar .byte (z28 : Int32)), hP, hD⟩
  refine lv_aload_n hx hb dX6_put_30 rfl (lv_at hl 1 rfl) ?_
  refine lv_dup hx hb dX6_put_31 rfl ?_
  refine va_get (D := D) (ci := 6) (v := .int 4) (C := RX6) (T := TX6) (N := 14) hx hb htg inX6 hown hK.1 hP 0 rfl rfl 3 (by decide) (htg _ kw_98) (fun _ h9 => h9) rfl dX6_put_32 ?_
  refine lv_iconst (v := 1) hx hb dX6_put_35 (by decide) ?_
  refine lv_iadd hx hb dX6_put_36 ?_
  refine xz_i 5 (by decide) ?_
  refine va_put (D := D) (ci := 6) (v := .int 5) (ty := .int) (C := RX6) (T := TX6) (N := 14) hx hb htg inX6 tyX6 tyX6_ok nmX6 hown hK.1 hP hD hS 0 rfl rfl 3 (by decide) (htg _ kw_98) (fun _ h9 => h9) rfl (by decide +kernel) rfl rfl (Nat.le_of_ble_eq_true rfl) dX6_put_37 (fun H locs hP hD hS => ?_)
  replace hP : va_P D vwCl [((a 0), .inr (6, [.ref (a 1), .ref (ex 0), .int (vi 1), .int 5, .int 0, .int 0, .int 0, .int 0, .long 0, .int 0, .int 0, .int 0, .int 0, .int 0])), ((a 1), .inl (T 0, 940, .inl f29))] H := hP
  replace hD : va_D A [((a 0), .inr (6, [.ref (a 1), .ref (ex 0), .int (vi 1), .int 5, .int 0, .int 0, .int 0, .int 0, .long 0, .int 0, .int 0, .int 0, .int 0, .int 0])), ((a 1), .inl (T 0, 940, .inl f29))] := hD
  refine lv_iinc (v := 16) (lv' := [(2, .int 16), (0, .ref (a 0)), (1, .int (vi 0))]) hx hb dX6_put_40 hl (k := 0) rfl (by decide) (by decide) rfl (fun ls hl => ?_)
  refine lv_goto (tgt := 3) hx hb dX6_put_43 (by decide) ?_
  refine lv_iload_n hx hb dX6_put_3 rfl (lv_at hl 0 rfl) ?_
  refine lv_if_lt (tgt := 46) hx hb dX6_put_4 (by decide) (fun c => absurd c (by decide)) (fun _ => ?_)
  refine lv_aload_n hx hb dX6_put_7 rfl (lv_at hl 1 rfl) ?_
  refine va_get (D := D) (ci := 6) (v := .int 5) (C := RX6) (T := TX6) (N := 14) hx hb htg inX6 hown hK.1 hP 0 rfl rfl 3 (by decide) (htg _ kw_98) (fun _ h9 => h9) rfl dX6_put_8 ?_
  refine lv_sipush (v := 940) hx hb dX6_put_11 (by decide) ?_
  refine lv_icmp_ge (tgt := 46) hx hb dX6_put_14 (by decide) (fun c => absurd c (by decide)) (fun _ => ?_)
  refine lv_aload_n hx hb dX6_put_17 rfl (lv_at hl 1 rfl) ?_
  refine va_get (D := D) (ci := 6) (v := .ref (a 1)) (C := RX6) (T := TX6) (N := 14) hx hb htg inX6 hown hK.1 hP 0 rfl rfl 0 (by decide) (htg _ kw_94) (fun _ h9 => h9) rfl dX6_put_18 ?_
  refine lv_aload_n hx hb dX6_put_21 rfl (lv_at hl 1 rfl) ?_
  refine va_get (D := D) (ci := 6) (v := .int 5) (C := RX6) (T := TX6) (N := 14) hx hb htg inX6 hown hK.1 hP 0 rfl rfl 3 (by decide) (htg _ kw_98) (fun _ h9 => h9) rfl dX6_put_22 ?_
  refine lv_iload_n hx hb dX6_put_25 rfl (lv_at hl 2 rfl) ?_
  refine lv_iload_n hx hb dX6_put_26 rfl (lv_at hl 0 rfl) ?_
  refine lv_iushr hx hb dX6_put_27 rfl ?_
  refine lv_topi (fun z27_1 _ => ?_)
  refine lv_i2b hx hb dX6_put_28 rfl ?_
  refine lv_topi (fun z28_1 _ => ?_)
  refine va_bast hx hb hK.1 hP hD hS 1 0 rfl rfl (vp_in_nI (n := 5) (by decide) (by decide)) dX6_put_29 (fun H locs hP hD hS => ?_)
  obtain ⟨f29_1, hP, hD⟩ : ∃ f29_1 : Nat → Int32, va_P D vwCl [((a 0), .inr (6, [.ref (a 1), .ref (ex 0), .int (vi 1), .int 5, .int 0, .int 0, .int 0, .int 0, .long 0, .int 0, .int 0, .int 0, .int 0, .int 0])), ((a 1), .inl (T 0, 940, .inl f29_1))] H ∧ va_D A [((a 0), .inr (6, [.ref (a 1), .ref (ex 0), .int (vi 1), .int 5, .int 0, .int 0, .int 0, .int 0, .long 0, .int 0, .int 0, .int 0, .int 0, .int 0])), ((a 1), .inl (T 0, 940, .inl f29_1))] := ⟨upd f29 (5 : Int32).toNatClampNeg (vp_nar .byte (z28_1 : Int32)), hP, hD⟩
  refine lv_aload_n hx hb dX6_put_30 rfl (lv_at hl 1 rfl) ?_
  refine lv_dup hx hb dX6_put_31 rfl ?_
  refine va_get (D := D) (ci := 6) (v := .int 5) (C := RX6) (T := TX6) (N := 14) hx hb htg inX6 hown hK.1 hP 0 rfl rfl 3 (by decide) (htg _ kw_98) (fun _ h9 => h9) rfl dX6_put_32 ?_
  refine lv_iconst (v := 1) hx hb dX6_put_35 (by decide) ?_
  refine lv_iadd hx hb dX6_put_36 ?_
  refine xz_i 6 (by decide) ?_
  refine va_put (D := D) (ci := 6) (v := .int 6) (ty := .int) (C := RX6) (T := TX6) (N := 14) hx hb htg inX6 tyX6 tyX6_ok nmX6 hown hK.1 hP hD hS 0 rfl rfl 3 (by decide) (htg _ kw_98) (fun _ h9 => h9) rfl (by decide +kernel) rfl rfl (Nat.le_of_ble_eq_true rfl) dX6_put_37 (fun H locs hP hD hS => ?_)
  replace hP : va_P D vwCl [((a 0), .inr (6, [.ref (a 1), .ref (ex 0), .int (vi 1), .int 6, .int 0, .int 0, .int 0, .int 0, .long 0, .int 0, .int 0, .int 0, .int 0, .int 0])), ((a 1), .inl (T 0, 940, .inl f29_1))] H := hP
  replace hD : va_D A [((a 0), .inr (6, [.ref (a 1), .ref (ex 0), .int (vi 1), .int 6, .int 0, .int 0, .int 0, .int 0, .long 0, .int 0, .int 0, .int 0, .int 0, .int 0])), ((a 1), .inl (T 0, 940, .inl f29_1))] := hD
  refine lv_iinc (v := 8) (lv' := [(2, .int 8), (0, .ref (a 0)), (1, .int (vi 0))]) hx hb dX6_put_40 hl (k := 0) rfl (by decide) (by decide) rfl (fun ls hl => ?_)
  refine lv_goto (tgt := 3) hx hb dX6_put_43 (by decide) ?_
  refine lv_iload_n hx hb dX6_put_3 rfl (lv_at hl 0 rfl) ?_
  refine lv_if_lt (tgt := 46) hx hb dX6_put_4 (by decide) (fun c => absurd c (by decide)) (fun _ => ?_)
  refine lv_aload_n hx hb dX6_put_7 rfl (lv_at hl 1 rfl) ?_
  refine va_get (D := D) (ci := 6) (v := .int 6) (C := RX6) (T := TX6) (N := 14) hx hb htg inX6 hown hK.1 hP 0 rfl rfl 3 (by decide) (htg _ kw_98) (fun _ h9 => h9) rfl dX6_put_8 ?_
  refine lv_sipush (v := 940) hx hb dX6_put_11 (by decide) ?_
  refine lv_icmp_ge (tgt := 46) hx hb dX6_put_14 (by decide) (fun c => absurd c (by decide)) (fun _ => ?_)
  refine lv_aload_n hx hb dX6_put_17 rfl (lv_at hl 1 rfl) ?_
  refine va_get (D := D) (ci := 6) (v := .ref (a 1)) (C := RX6) (T := TX6) (N := 14) hx hb htg inX6 hown hK.1 hP 0 rfl rfl 0 (by decide) (htg _ kw_94) (fun _ h9 => h9) rfl dX6_put_18 ?_
  refine lv_aload_n hx hb dX6_put_21 rfl (lv_at hl 1 rfl) ?_
  refine va_get (D := D) (ci := 6) (v := .int 6) (C := RX6) (T := TX6) (N := 14) hx hb htg inX6 hown hK.1 hP 0 rfl rfl 3 (by decide) (htg _ kw_98) (fun _ h9 => h9) rfl dX6_put_22 ?_
  refine lv_iload_n hx hb dX6_put_25 rfl (lv_at hl 2 rfl) ?_
  refine lv_iload_n hx hb dX6_put_26 rfl (lv_at hl 0 rfl) ?_
  refine lv_iushr hx hb dX6_put_27 rfl ?_
  refine lv_topi (fun z27_2 _ => ?_)
  refine lv_i2b hx hb dX6_put_28 rfl ?_
  refine lv_topi (fun z28_2 _ => ?_)
  refine va_bast hx hb hK.1 hP hD hS 1 0 rfl rfl (vp_in_nI (n := 6) (by decide) (by decide)) dX6_put_29 (fun H locs hP hD hS => ?_)
  obtain ⟨f29_2, hP, hD⟩ : ∃ f29_2 : Nat → Int32, va_P D vwCl [((a 0), .inr (6, [.ref (a 1), .ref (ex 0), .int (vi 1), .int 6, .int 0, .int 0, .int 0, .int 0, .long 0, .int 0, .int 0, .int 0, .int 0, .int 0])), ((a 1), .inl (T 0, 940, .inl f29_2))] H ∧ va_D A [((a 0), .inr (6, [.ref (a 1), .ref (ex 0), .int (vi 1), .int 6, .int 0, .int 0, .int 0, .int 0, .long 0, .int 0, .int 0, .int 0, .int 0, .int 0])), ((a 1), .inl (T 0, 940, .inl f29_2))] := ⟨upd f29_1 (6 : Int32).toNatClampNeg (vp_nar .byte (z28_2 : Int32)), hP, hD⟩
  refine lv_aload_n hx hb dX6_put_30 rfl (lv_at hl 1 rfl) ?_
  refine lv_dup hx hb dX6_put_31 rfl ?_
  refine va_get (D := D) (ci := 6) (v := .int 6) (C := RX6) (T := TX6) (N := 14) hx hb htg inX6 hown hK.1 hP 0 rfl rfl 3 (by decide) (htg _ kw_98) (fun _ h9 => h9) rfl dX6_put_32 ?_
  refine lv_iconst (v := 1) hx hb dX6_put_35 (by decide) ?_
  refine lv_iadd hx hb dX6_put_36 ?_
  refine xz_i 7 (by decide) ?_
  refine va_put (D := D) (ci := 6) (v := .int 7) (ty := .int) (C := RX6) (T := TX6) (N := 14) hx hb htg inX6 tyX6 tyX6_ok nmX6 hown hK.1 hP hD hS 0 rfl rfl 3 (by decide) (htg _ kw_98) (fun _ h9 => h9) rfl (by decide +kernel) rfl rfl (Nat.le_of_ble_eq_true rfl) dX6_put_37 (fun H locs hP hD hS => ?_)
  replace hP : va_P D vwCl [((a 0), .inr (6, [.ref (a 1), .ref (ex 0), .int (vi 1), .int 7, .int 0, .int 0, .int 0, .int 0, .long 0, .int 0, .int 0, .int 0, .int 0, .int 0])), ((a 1), .inl (T 0, 940, .inl f29_2))] H := hP
  replace hD : va_D A [((a 0), .inr (6, [.ref (a 1), .ref (ex 0), .int (vi 1), .int 7, .int 0, .int 0, .int 0, .int 0, .long 0, .int 0, .int 0, .int 0, .int 0, .int 0])), ((a 1), .inl (T 0, 940, .inl f29_2))] := hD
  refine lv_iinc (v := 0) (lv' := [(2, .int 0), (0, .ref (a 0)), (1, .int (vi 0))]) hx hb dX6_put_40 hl (k := 0) rfl (by decide) (by decide) rfl (fun ls hl => ?_)
  refine lv_goto (tgt := 3) hx hb dX6_put_43 (by decide) ?_
  refine lv_iload_n hx hb dX6_put_3 rfl (lv_at hl 0 rfl) ?_
  refine lv_if_lt (tgt := 46) hx hb dX6_put_4 (by decide) (fun c => absurd c (by decide)) (fun _ => ?_)
  refine lv_aload_n hx hb dX6_put_7 rfl (lv_at hl 1 rfl) ?_
  refine va_get (D := D) (ci := 6) (v := .int 7) (C := RX6) (T := TX6) (N := 14) hx hb htg inX6 hown hK.1 hP 0 rfl rfl 3 (by decide) (htg _ kw_98) (fun _ h9 => h9) rfl dX6_put_8 ?_
  refine lv_sipush (v := 940) hx hb dX6_put_11 (by decide) ?_
  refine lv_icmp_ge (tgt := 46) hx hb dX6_put_14 (by decide) (fun c => absurd c (by decide)) (fun _ => ?_)
  refine lv_aload_n hx hb dX6_put_17 rfl (lv_at hl 1 rfl) ?_
  refine va_get (D := D) (ci := 6) (v := .ref (a 1)) (C := RX6) (T := TX6) (N := 14) hx hb htg inX6 hown hK.1 hP 0 rfl rfl 0 (by decide) (htg _ kw_94) (fun _ h9 => h9) rfl dX6_put_18 ?_
  refine lv_aload_n hx hb dX6_put_21 rfl (lv_at hl 1 rfl) ?_
  refine va_get (D := D) (ci := 6) (v := .int 7) (C := RX6) (T := TX6) (N := 14) hx hb htg inX6 hown hK.1 hP 0 rfl rfl 3 (by decide) (htg _ kw_98) (fun _ h9 => h9) rfl dX6_put_22 ?_
  refine lv_iload_n hx hb dX6_put_25 rfl (lv_at hl 2 rfl) ?_
  refine lv_iload_n hx hb dX6_put_26 rfl (lv_at hl 0 rfl) ?_
  refine lv_iushr hx hb dX6_put_27 rfl ?_
  refine lv_topi (fun z27_3 _ => ?_)
  refine lv_i2b hx hb dX6_put_28 rfl ?_
  refine lv_topi (fun z28_3 _ => ?_)
  refine va_bast hx hb hK.1 hP hD hS 1 0 rfl rfl (vp_in_nI (n := 7) (by decide) (by decide)) dX6_put_29 (fun H locs hP hD hS => ?_)
  obtain ⟨f29_3, hP, hD⟩ : ∃ f29_3 : Nat → Int32, va_P D vwCl [((a 0), .inr (6, [.ref (a 1), .ref (ex 0), .int (vi 1), .int 7, .int 0, .int 0, .int 0, .int 0, .long 0, .int 0, .int 0, .int 0, .int 0, .int 0])), ((a 1), .inl (T 0, 940, .inl f29_3))] H ∧ va_D A [((a 0), .inr (6, [.ref (a 1), .ref (ex 0), .int (vi 1), .int 7, .int 0, .int 0, .int 0, .int 0, .long 0, .int 0, .int 0, .int 0, .int 0, .int 0])), ((a 1), .inl (T 0, 940, .inl f29_3))] := ⟨upd f29_2 (7 : Int32).toNatClampNeg (vp_nar .byte (z28_3 : Int32)), hP, hD⟩
  refine lv_aload_n hx hb dX6_put_30 rfl (lv_at hl 1 rfl) ?_
  refine lv_dup hx hb dX6_put_31 rfl ?_
  refine va_get (D := D) (ci := 6) (v := .int 7) (C := RX6) (T := TX6) (N := 14) hx hb htg inX6 hown hK.1 hP 0 rfl rfl 3 (by decide) (htg _ kw_98) (fun _ h9 => h9) rfl dX6_put_32 ?_
  refine lv_iconst (v := 1) hx hb dX6_put_35 (by decide) ?_
  refine lv_iadd hx hb dX6_put_36 ?_
  refine xz_i 8 (by decide) ?_
  refine va_put (D := D) (ci := 6) (v := .int 8) (ty := .int) (C := RX6) (T := TX6) (N := 14) hx hb htg inX6 tyX6 tyX6_ok nmX6 hown hK.1 hP hD hS 0 rfl rfl 3 (by decide) (htg _ kw_98) (fun _ h9 => h9) rfl (by decide +kernel) rfl rfl (Nat.le_of_ble_eq_true rfl) dX6_put_37 (fun H locs hP hD hS => ?_)
  replace hP : va_P D vwCl [((a 0), .inr (6, [.ref (a 1), .ref (ex 0), .int (vi 1), .int 8, .int 0, .int 0, .int 0, .int 0, .long 0, .int 0, .int 0, .int 0, .int 0, .int 0])), ((a 1), .inl (T 0, 940, .inl f29_3))] H := hP
  replace hD : va_D A [((a 0), .inr (6, [.ref (a 1), .ref (ex 0), .int (vi 1), .int 8, .int 0, .int 0, .int 0, .int 0, .long 0, .int 0, .int 0, .int 0, .int 0, .int 0])), ((a 1), .inl (T 0, 940, .inl f29_3))] := hD
  refine lv_iinc (v := (-8)) (lv' := [(2, .int (-8)), (0, .ref (a 0)), (1, .int (vi 0))]) hx hb dX6_put_40 hl (k := 0) rfl (by decide) (by decide) rfl (fun ls hl => ?_)
  refine lv_goto (tgt := 3) hx hb dX6_put_43 (by decide) ?_
  refine lv_iload_n hx hb dX6_put_3 rfl (lv_at hl 0 rfl) ?_
  refine lv_if_lt (tgt := 46) hx hb dX6_put_4 (by decide) (fun _ => ?_) (fun c => absurd (by decide) c)
  have hP9 := hP.sub (ws' := [((a 0), .inr (6, [.ref (a 1), .ref (ex 0), .int (vi 1), .int 8, .int 0, .int 0, .int 0, .int 0, .long 0, .int 0, .int 0, .int 0, .int 0, .int 0])), ((a 1), .inl (T 0, 940, .inl f29_3))]) [0, 1] rfl
  have hD9 := hD.sub (ws' := [((a 0), .inr (6, [.ref (a 1), .ref (ex 0), .int (vi 1), .int 8, .int 0, .int 0, .int 0, .int 0, .long 0, .int 0, .int 0, .int 0, .int 0, .int 0])), ((a 1), .inl (T 0, 940, .inl f29_3))]) [0, 1] (by decide +kernel) rfl
  rw [hQ]
  exact W.vret hx hb hr (fun t ht hW => ⟨⟨(), rfl, trivial, ⟨xa [], xf [f29_3], xh [], xv [], by rw [ht]; exact hP9, hD9, trivial⟩⟩, hS.F ht⟩) hS.2.2 dX6_put_46
abbrev pre_X6_put_3 (T : Nat → ClassId) (a ex : Nat → Nat) (fi : Nat → Nat → Int32) (fl : Nat → Nat → Int64) (vi : Nat → Int32) : va_W := [((a 0), .inr (6, [.ref (a 1), .ref (ex 0), .int (vi 1), .int 8, .int 0, .int 0, .int 0, .int 0, .long 0, .int 0, .int 0, .int 0, .int 0, .int 0])), ((a 1), .inl (T 0, 940, .inl (fi 0)))]
set_option maxHeartbeats 4000000 in
set_option maxRecDepth 100000 in
theorem c_X6_put_3 (l : Launch) (D : va_G) (T : Nat → ClassId) (a ex : Nat → Nat) (fi : Nat → Nat → Int32) (fl : Nat → Nat → Int64) (vi : Nat → Int32) (sz : Nat) : Met l yX6_put (xw yX6_put cX6_put 3 none) ({ frames := 0, cells := 0, slots := 0, locals := 0 }) (xP D T [.ref (a 0), .int (vi 0)] sz (pre_X6_put_3 T a ex fi fl vi)) (va_Qv (fun _ : Unit => True) (xB D (va_A (pre_X6_put_3 T a ex fi fl vi) sz) (fun _ => True) (fun b fj fm vj => [((a 0), .inr (6, [.ref (a 1), .ref (ex 0), .int (vi 1), .int 12, .int 0, .int 0, .int 0, .int 0, .long 0, .int 0, .int 0, .int 0, .int 0, .int 0])), ((a 1), .inl (T 0, 940, .inl (fj 0)))])) (va_A (pre_X6_put_3 T a ex fi fl vi) sz)) 0 0 (va_A (pre_X6_put_3 T a ex fi fl vi) sz) := by
  refine xofW (cc := cX6_put) (maxL := 3) (ret := none) (by decide) rfl ?_
  intro p e s m args below meth c s₁ R Q hR hQ B hml hv
  obtain ⟨rfl, hsz, hP, hK, hD0⟩ := hv
  have hx := B.exec
  have hb := B.bytes
  have hr := B.returns
  have hts := atoms_spec (ws := xw yX6_put cX6_put 3 none) B.pre
  have htg : ∀ w ∈ xg, w.before _ s = true := fun w h => hts w (List.mem_cons_of_mem _ h)
  have hown : s.vm.findClass RX6 = some m.cls := findClass_of_methodNamed B.named
  have hlocks := B.notSynchronized
  subst hsz
  have hD := hD0.self (sz := s.heap.size)
  generalize hAe : va_A (pre_X6_put_3 T a ex fi fl vi) s.heap.size = A at hD hQ
  have hA : ∀ q : Nat, s.heap.size ≤ q → A q := fun q h => by rw [← hAe]; exact Or.inr h
  have hS : va_S A s.heap s.heap [] := va_S.rf
  replace hP : va_P D vwCl [((a 0), .inr (6, [.ref (a 1), .ref (ex 0), .int (vi 1), .int 8, .int 0, .int 0, .int 0, .int 0, .long 0, .int 0, .int 0, .int 0, .int 0, .int 0])), ((a 1), .inl (T 0, 940, .inl (fi 0)))] s.heap := hP
  replace hD : va_D A [((a 0), .inr (6, [.ref (a 1), .ref (ex 0), .int (vi 1), .int 8, .int 0, .int 0, .int 0, .int 0, .long 0, .int 0, .int 0, .int 0, .int 0, .int 0])), ((a 1), .inl (T 0, 940, .inl (fi 0)))] := hD
  have hl := lv_entry ([.ref (a 0), .int (vi 0)]) (n := 3) (Nat.le_of_ble_eq_true rfl)
  rw [lg_entry_eq]
  generalize (lg_sl ([.ref (a 0), .int (vi 0)]) ++ List.replicate (3 - (lg_sl ([.ref (a 0), .int (vi 0)])).length) Slot.unset).toArray = ls at hl ⊢
  replace hl : lv_has ls 3 [(0, .ref (a 0)), (1, .int (vi 0))] := hl
  refine lv_bipush (v := 24) hx hb dX6_put_0 (by decide) ?_
  refine lv_istore_n (lv' := [(2, .int 24), (0, .ref (a 0)), (1, .int (vi 0))]) hx hb dX6_put_2 rfl hl (by decide) rfl (fun ls hl => ?_)
  refine lv_iload_n hx hb dX6_put_3 rfl (lv_at hl 0 rfl) ?_
  refine lv_if_lt (tgt := 46) hx hb dX6_put_4 (by decide) (fun c => absurd c (by decide)) (fun _ => ?_)
  refine lv_aload_n hx hb dX6_put_7 rfl (lv_at hl 1 rfl) ?_
  refine va_get (D := D) (ci := 6) (v := .int 8) (C := RX6) (T := TX6) (N := 14) hx hb htg inX6 hown hK.1 hP 0 rfl rfl 3 (by decide) (htg _ kw_98) (fun _ h9 => h9) rfl dX6_put_8 ?_
  refine lv_sipush (v := 940) hx hb dX6_put_11 (by decide) ?_
  refine lv_icmp_ge (tgt := 46) hx hb dX6_put_14 (by decide) (fun c => absurd c (by decide)) (fun _ => ?_)
  refine lv_aload_n hx hb dX6_put_17 rfl (lv_at hl 1 rfl) ?_
  refine va_get (D := D) (ci := 6) (v := .ref (a 1)) (C := RX6) (T := TX6) (N := 14) hx hb htg inX6 hown hK.1 hP 0 rfl rfl 0 (by decide) (htg _ kw_94) (fun _ h9 => h9) rfl dX6_put_18 ?_
  refine lv_aload_n hx hb dX6_put_21 rfl (lv_at hl 1 rfl) ?_
  refine va_get (D := D) (ci := 6) (v := .int 8) (C := RX6) (T := TX6) (N := 14) hx hb htg inX6 hown hK.1 hP 0 rfl rfl 3 (by decide) (htg _ kw_98) (fun _ h9 => h9) rfl dX6_put_22 ?_
  refine lv_iload_n hx hb dX6_put_25 rfl (lv_at hl 2 rfl) ?_
  refine lv_iload_n hx hb dX6_put_26 rfl (lv_at hl 0 rfl) ?_
  refine lv_iushr hx hb dX6_put_27 rfl ?_
  refine lv_topi (fun z27 _ => ?_)
  refine lv_i2b hx hb dX6_put_28 rfl ?_
  refine lv_topi (fun z28 _ => ?_)
  refine va_bast hx hb hK.1 hP hD hS 1 0 rfl rfl (vp_in_nI (n := 8) (by decide) (by decide)) dX6_put_29 (fun H locs hP hD hS => ?_)
  obtain ⟨f29, hP, hD⟩ : ∃ f29 : Nat → Int32, va_P D vwCl [((a 0), .inr (6, [.ref (a 1), .ref (ex 0), .int (vi 1), .int 8, .int 0, .int 0, .int 0, .int 0, .long 0, .int 0, .int 0, .int 0, .int 0, .int 0])), ((a 1), .inl (T 0, 940, .inl f29))] H ∧ va_D A [((a 0), .inr (6, [.ref (a 1), .ref (ex 0), .int (vi 1), .int 8, .int 0, .int 0, .int 0, .int 0, .long 0, .int 0, .int 0, .int 0, .int 0, .int 0])), ((a 1), .inl (T 0, 940, .inl f29))] := ⟨upd (fi 0) (8 : Int32).toNatClampNeg (vp_nar .byte (z28 : Int32)), hP, hD⟩
  refine lv_aload_n hx hb dX6_put_30 rfl (lv_at hl 1 rfl) ?_
  refine lv_dup hx hb dX6_put_31 rfl ?_
  refine va_get (D := D) (ci := 6) (v := .int 8) (C := RX6) (T := TX6) (N := 14) hx hb htg inX6 hown hK.1 hP 0 rfl rfl 3 (by decide) (htg _ kw_98) (fun _ h9 => h9) rfl dX6_put_32 ?_
  refine lv_iconst (v := 1) hx hb dX6_put_35 (by decide) ?_
  refine lv_iadd hx hb dX6_put_36 ?_
  refine xz_i 9 (by decide) ?_
  refine va_put (D := D) (ci := 6) (v := .int 9) (ty := .int) (C := RX6) (T := TX6) (N := 14) hx hb htg inX6 tyX6 tyX6_ok nmX6 hown hK.1 hP hD hS 0 rfl rfl 3 (by decide) (htg _ kw_98) (fun _ h9 => h9) rfl (by decide +kernel) rfl rfl (Nat.le_of_ble_eq_true rfl) dX6_put_37 (fun H locs hP hD hS => ?_)
  replace hP : va_P D vwCl [((a 0), .inr (6, [.ref (a 1), .ref (ex 0), .int (vi 1), .int 9, .int 0, .int 0, .int 0, .int 0, .long 0, .int 0, .int 0, .int 0, .int 0, .int 0])), ((a 1), .inl (T 0, 940, .inl f29))] H := hP
  replace hD : va_D A [((a 0), .inr (6, [.ref (a 1), .ref (ex 0), .int (vi 1), .int 9, .int 0, .int 0, .int 0, .int 0, .long 0, .int 0, .int 0, .int 0, .int 0, .int 0])), ((a 1), .inl (T 0, 940, .inl f29))] := hD
  refine lv_iinc (v := 16) (lv' := [(2, .int 16), (0, .ref (a 0)), (1, .int (vi 0))]) hx hb dX6_put_40 hl (k := 0) rfl (by decide) (by decide) rfl (fun ls hl => ?_)
  refine lv_goto (tgt := 3) hx hb dX6_put_43 (by decide) ?_
  refine lv_iload_n hx hb dX6_put_3 rfl (lv_at hl 0 rfl) ?_
  refine lv_if_lt (tgt := 46) hx hb dX6_put_4 (by decide) (fun c => absurd c (by decide)) (fun _ => ?_)
  refine lv_aload_n hx hb dX6_put_7 rfl (lv_at hl 1 rfl) ?_
  refine va_get (D := D) (ci := 6) (v := .int 9) (C := RX6) (T := TX6) (N := 14) hx hb htg inX6 hown hK.1 hP 0 rfl rfl 3 (by decide) (htg _ kw_98) (fun _ h9 => h9) rfl dX6_put_8 ?_
  refine lv_sipush (v := 940) hx hb dX6_put_11 (by decide) ?_
  refine lv_icmp_ge (tgt := 46) hx hb dX6_put_14 (by decide) (fun c => absurd c (by decide)) (fun _ => ?_)
  refine lv_aload_n hx hb dX6_put_17 rfl (lv_at hl 1 rfl) ?_
  refine va_get (D := D) (ci := 6) (v := .ref (a 1)) (C := RX6) (T := TX6) (N := 14) hx hb htg inX6 hown hK.1 hP 0 rfl rfl 0 (by decide) (htg _ kw_94) (fun _ h9 => h9) rfl dX6_put_18 ?_
  refine lv_aload_n hx hb dX6_put_21 rfl (lv_at hl 1 rfl) ?_
  refine va_get (D := D) (ci := 6) (v := .int 9) (C := RX6) (T := TX6) (N := 14) hx hb htg inX6 hown hK.1 hP 0 rfl rfl 3 (by decide) (htg _ kw_98) (fun _ h9 => h9) rfl dX6_put_22 ?_
  refine lv_iload_n hx hb dX6_put_25 rfl (lv_at hl 2 rfl) ?_
  refine lv_iload_n hx hb dX6_put_26 rfl (lv_at hl 0 rfl) ?_
  refine lv_iushr hx hb dX6_put_27 rfl ?_
  refine lv_topi (fun z27_1 _ => ?_)
  refine lv_i2b hx hb dX6_put_28 rfl ?_
  refine lv_topi (fun z28_1 _ => ?_)
  refine va_bast hx hb hK.1 hP hD hS 1 0 rfl rfl (vp_in_nI (n := 9) (by decide) (by decide)) dX6_put_29 (fun H locs hP hD hS => ?_)
  obtain ⟨f29_1, hP, hD⟩ : ∃ f29_1 : Nat → Int32, va_P D vwCl [((a 0), .inr (6, [.ref (a 1), .ref (ex 0), .int (vi 1), .int 9, .int 0, .int 0, .int 0, .int 0, .long 0, .int 0, .int 0, .int 0, .int 0, .int 0])), ((a 1), .inl (T 0, 940, .inl f29_1))] H ∧ va_D A [((a 0), .inr (6, [.ref (a 1), .ref (ex 0), .int (vi 1), .int 9, .int 0, .int 0, .int 0, .int 0, .long 0, .int 0, .int 0, .int 0, .int 0, .int 0])), ((a 1), .inl (T 0, 940, .inl f29_1))] := ⟨upd f29 (9 : Int32).toNatClampNeg (vp_nar .byte (z28_1 : Int32)), hP, hD⟩
  refine lv_aload_n hx hb dX6_put_30 rfl (lv_at hl 1 rfl) ?_
  refine lv_dup hx hb dX6_put_31 rfl ?_
  refine va_get (D := D) (ci := 6) (v := .int 9) (C := RX6) (T := TX6) (N := 14) hx hb htg inX6 hown hK.1 hP 0 rfl rfl 3 (by decide) (htg _ kw_98) (fun _ h9 => h9) rfl dX6_put_32 ?_
  refine lv_iconst (v := 1) hx hb dX6_put_35 (by decide) ?_
  refine lv_iadd hx hb dX6_put_36 ?_
  refine xz_i 10 (by decide) ?_
  refine va_put (D := D) (ci := 6) (v := .int 10) (ty := .int) (C := RX6) (T := TX6) (N := 14) hx hb htg inX6 tyX6 tyX6_ok nmX6 hown hK.1 hP hD hS 0 rfl rfl 3 (by decide) (htg _ kw_98) (fun _ h9 => h9) rfl (by decide +kernel) rfl rfl (Nat.le_of_ble_eq_true rfl) dX6_put_37 (fun H locs hP hD hS => ?_)
  replace hP : va_P D vwCl [((a 0), .inr (6, [.ref (a 1), .ref (ex 0), .int (vi 1), .int 10, .int 0, .int 0, .int 0, .int 0, .long 0, .int 0, .int 0, .int 0, .int 0, .int 0])), ((a 1), .inl (T 0, 940, .inl f29_1))] H := hP
  replace hD : va_D A [((a 0), .inr (6, [.ref (a 1), .ref (ex 0), .int (vi 1), .int 10, .int 0, .int 0, .int 0, .int 0, .long 0, .int 0, .int 0, .int 0, .int 0, .int 0])), ((a 1), .inl (T 0, 940, .inl f29_1))] := hD
  refine lv_iinc (v := 8) (lv' := [(2, .int 8), (0, .ref (a 0)), (1, .int (vi 0))]) hx hb dX6_put_40 hl (k := 0) rfl (by decide) (by decide) rfl (fun ls hl => ?_)
  refine lv_goto (tgt := 3) hx hb dX6_put_43 (by decide) ?_
  refine lv_iload_n hx hb dX6_put_3 rfl (lv_at hl 0 rfl) ?_
  refine lv_if_lt (tgt := 46) hx hb dX6_put_4 (by decide) (fun c => absurd c (by decide)) (fun _ => ?_)
  refine lv_aload_n hx hb dX6_put_7 rfl (lv_at hl 1 rfl) ?_
  refine va_get (D := D) (ci := 6) (v := .int 10) (C := RX6) (T := TX6) (N := 14) hx hb htg inX6 hown hK.1 hP 0 rfl rfl 3 (by decide) (htg _ kw_98) (fun _ h9 => h9) rfl dX6_put_8 ?_
  refine lv_sipush (v := 940) hx hb dX6_put_11 (by decide) ?_
  refine lv_icmp_ge (tgt := 46) hx hb dX6_put_14 (by decide) (fun c => absurd c (by decide)) (fun _ => ?_)
  refine lv_aload_n hx hb dX6_put_17 rfl (lv_at hl 1 rfl) ?_
  refine va_get (D := D) (ci := 6) (v := .ref (a 1)) (C := RX6) (T := TX6) (N := 14) hx hb htg inX6 hown hK.1 hP 0 rfl rfl 0 (by decide) (htg _ kw_94) (fun _ h9 => h9) rfl dX6_put_18 ?_
  refine lv_aload_n hx hb dX6_put_21 rfl (lv_at hl 1 rfl) ?_
  refine va_get (D := D) (ci := 6) (v := .int 10) (C := RX6) (T := TX6) (N := 14) hx hb htg inX6 hown hK.1 hP 0 rfl rfl 3 (by decide) (htg _ kw_98) (fun _ h9 => h9) rfl dX6_put_22 ?_
  refine lv_iload_n hx hb dX6_put_25 rfl (lv_at hl 2 rfl) ?_
  refine lv_iload_n hx hb dX6_put_26 rfl (lv_at hl 0 rfl) ?_
  refine lv_iushr hx hb dX6_put_27 rfl ?_
  refine lv_topi (fun z27_2 _ => ?_)
  refine lv_i2b hx hb dX6_put_28 rfl ?_
  refine lv_topi (fun z28_2 _ => ?_)
  refine va_bast hx hb hK.1 hP hD hS 1 0 rfl rfl (vp_in_nI (n := 10) (by decide) (by decide)) dX6_put_29 (fun H locs hP hD hS => ?_)
  obtain ⟨f29_2, hP, hD⟩ : ∃ f29_2 : Nat → Int32, va_P D vwCl [((a 0), .inr (6, [.ref (a 1), .ref (ex 0), .int (vi 1), .int 10, .int 0, .int 0, .int 0, .int 0, .long 0, .int 0, .int 0, .int 0, .int 0, .int 0])), ((a 1), .inl (T 0, 940, .inl f29_2))] H ∧ va_D A [((a 0), .inr (6, [.ref (a 1), .ref (ex 0), .int (vi 1), .int 10, .int 0, .int 0, .int 0, .int 0, .long 0, .int 0, .int 0, .int 0, .int 0, .int 0])), ((a 1), .inl (T 0, 940, .inl f29_2))] := ⟨upd f29_1 (10 : Int32).toNatClampNeg (vp_nar .byte (z28_2 : Int32)), hP, hD⟩
  refine lv_aload_n hx hb dX6_put_30 rfl (lv_at hl 1 rfl) ?_
  refine lv_dup hx hb dX6_put_31 rfl ?_
  refine va_get (D := D) (ci := 6) (v := .int 10) (C := RX6) (T := TX6) (N := 14) hx hb htg inX6 hown hK.1 hP 0 rfl rfl 3 (by decide) (htg _ kw_98) (fun _ h9 => h9) rfl dX6_put_32 ?_
  refine lv_iconst (v := 1) hx hb dX6_put_35 (by decide) ?_
  refine lv_iadd hx hb dX6_put_36 ?_
  refine xz_i 11 (by decide) ?_
  refine va_put (D := D) (ci := 6) (v := .int 11) (ty := .int) (C := RX6) (T := TX6) (N := 14) hx hb htg inX6 tyX6 tyX6_ok nmX6 hown hK.1 hP hD hS 0 rfl rfl 3 (by decide) (htg _ kw_98) (fun _ h9 => h9) rfl (by decide +kernel) rfl rfl (Nat.le_of_ble_eq_true rfl) dX6_put_37 (fun H locs hP hD hS => ?_)
  replace hP : va_P D vwCl [((a 0), .inr (6, [.ref (a 1), .ref (ex 0), .int (vi 1), .int 11, .int 0, .int 0, .int 0, .int 0, .long 0, .int 0, .int 0, .int 0, .int 0, .int 0])), ((a 1), .inl (T 0, 940, .inl f29_2))] H := hP
  replace hD : va_D A [((a 0), .inr (6, [.ref (a 1), .ref (ex 0), .int (vi 1), .int 11, .int 0, .int 0, .int 0, .int 0, .long 0, .int 0, .int 0, .int 0, .int 0, .int 0])), ((a 1), .inl (T 0, 940, .inl f29_2))] := hD
  refine lv_iinc (v := 0) (lv' := [(2, .int 0), (0, .ref (a 0)), (1, .int (vi 0))]) hx hb dX6_put_40 hl (k := 0) rfl (by decide) (by decide) rfl (fun ls hl => ?_)
  refine lv_goto (tgt := 3) hx hb dX6_put_43 (by decide) ?_
  refine lv_iload_n hx hb dX6_put_3 rfl (lv_at hl 0 rfl) ?_
  refine lv_if_lt (tgt := 46) hx hb dX6_put_4 (by decide) (fun c => absurd c (by decide)) (fun _ => ?_)
  refine lv_aload_n hx hb dX6_put_7 rfl (lv_at hl 1 rfl) ?_
  refine va_get (D := D) (ci := 6) (v := .int 11) (C := RX6) (T := TX6) (N := 14) hx hb htg inX6 hown hK.1 hP 0 rfl rfl 3 (by decide) (htg _ kw_98) (fun _ h9 => h9) rfl dX6_put_8 ?_
  refine lv_sipush (v := 940) hx hb dX6_put_11 (by decide) ?_
  refine lv_icmp_ge (tgt := 46) hx hb dX6_put_14 (by decide) (fun c => absurd c (by decide)) (fun _ => ?_)
  refine lv_aload_n hx hb dX6_put_17 rfl (lv_at hl 1 rfl) ?_
  refine va_get (D := D) (ci := 6) (v := .ref (a 1)) (C := RX6) (T := TX6) (N := 14) hx hb htg inX6 hown hK.1 hP 0 rfl rfl 0 (by decide) (htg _ kw_94) (fun _ h9 => h9) rfl dX6_put_18 ?_
  refine lv_aload_n hx hb dX6_put_21 rfl (lv_at hl 1 rfl) ?_
  refine va_get (D := D) (ci := 6) (v := .int 11) (C := RX6) (T := TX6) (N := 14) hx hb htg inX6 hown hK.1 hP 0 rfl rfl 3 (by decide) (htg _ kw_98) (fun _ h9 => h9) rfl dX6_put_22 ?_
  refine lv_iload_n hx hb dX6_put_25 rfl (lv_at hl 2 rfl) ?_
  refine lv_iload_n hx hb dX6_put_26 rfl (lv_at hl 0 rfl) ?_
  refine lv_iushr hx hb dX6_put_27 rfl ?_
  refine lv_topi (fun z27_3 _ => ?_)
  refine lv_i2b hx hb dX6_put_28 rfl ?_
  refine lv_topi (fun z28_3 _ => ?_)
  refine va_bast hx hb hK.1 hP hD hS 1 0 rfl rfl (vp_in_nI (n := 11) (by decide) (by decide)) dX6_put_29 (fun H locs hP hD hS => ?_)
  obtain ⟨f29_3, hP, hD⟩ : ∃ f29_3 : Nat → Int32, va_P D vwCl [((a 0), .inr (6, [.ref (a 1), .ref (ex 0), .int (vi 1), .int 11, .int 0, .int 0, .int 0, .int 0, .long 0, .int 0, .int 0, .int 0, .int 0, .int 0])), ((a 1), .inl (T 0, 940, .inl f29_3))] H ∧ va_D A [((a 0), .inr (6, [.ref (a 1), .ref (ex 0), .int (vi 1), .int 11, .int 0, .int 0, .int 0, .int 0, .long 0, .int 0, .int 0, .int 0, .int 0, .int 0])), ((a 1), .inl (T 0, 940, .inl f29_3))] := ⟨upd f29_2 (11 : Int32).toNatClampNeg (vp_nar .byte (z28_3 : Int32)), hP, hD⟩
  refine lv_aload_n hx hb dX6_put_30 rfl (lv_at hl 1 rfl) ?_
  refine lv_dup hx hb dX6_put_31 rfl ?_
  refine va_get (D := D) (ci := 6) (v := .int 11) (C := RX6) (T := TX6) (N := 14) hx hb htg inX6 hown hK.1 hP 0 rfl rfl 3 (by decide) (htg _ kw_98) (fun _ h9 => h9) rfl dX6_put_32 ?_
  refine lv_iconst (v := 1) hx hb dX6_put_35 (by decide) ?_
  refine lv_iadd hx hb dX6_put_36 ?_
  refine xz_i 12 (by decide) ?_
  refine va_put (D := D) (ci := 6) (v := .int 12) (ty := .int) (C := RX6) (T := TX6) (N := 14) hx hb htg inX6 tyX6 tyX6_ok nmX6 hown hK.1 hP hD hS 0 rfl rfl 3 (by decide) (htg _ kw_98) (fun _ h9 => h9) rfl (by decide +kernel) rfl rfl (Nat.le_of_ble_eq_true rfl) dX6_put_37 (fun H locs hP hD hS => ?_)
  replace hP : va_P D vwCl [((a 0), .inr (6, [.ref (a 1), .ref (ex 0), .int (vi 1), .int 12, .int 0, .int 0, .int 0, .int 0, .long 0, .int 0, .int 0, .int 0, .int 0, .int 0])), ((a 1), .inl (T 0, 940, .inl f29_3))] H := hP
  replace hD : va_D A [((a 0), .inr (6, [.ref (a 1), .ref (ex 0), .int (vi 1), .int 12, .int 0, .int 0, .int 0, .int 0, .long 0, .int 0, .int 0, .int 0, .int 0, .int 0])), ((a 1), .inl (T 0, 940, .inl f29_3))] := hD
  refine lv_iinc (v := (-8)) (lv' := [(2, .int (-8)), (0, .ref (a 0)), (1, .int (vi 0))]) hx hb dX6_put_40 hl (k := 0) rfl (by decide) (by decide) rfl (fun ls hl => ?_)
  refine lv_goto (tgt := 3) hx hb dX6_put_43 (by decide) ?_
  refine lv_iload_n hx hb dX6_put_3 rfl (lv_at hl 0 rfl) ?_
  refine lv_if_lt (tgt := 46) hx hb dX6_put_4 (by decide) (fun _ => ?_) (fun c => absurd (by decide) c)
  have hP9 := hP.sub (ws' := [((a 0), .inr (6, [.ref (a 1), .ref (ex 0), .int (vi 1), .int 12, .int 0, .int 0, .int 0, .int 0, .long 0, .int 0, .int 0, .int 0, .int 0, .int 0])), ((a 1), .inl (T 0, 940, .inl f29_3))]) [0, 1] rfl
  have hD9 := hD.sub (ws' := [((a 0), .inr (6, [.ref (a 1), .ref (ex 0), .int (vi 1), .int 12, .int 0, .int 0, .int 0, .int 0, .long 0, .int 0, .int 0, .int 0, .int 0, .int 0])), ((a 1), .inl (T 0, 940, .inl f29_3))]) [0, 1] (by decide +kernel) rfl
  rw [hQ]
  exact W.vret hx hb hr (fun t ht hW => ⟨⟨(), rfl, trivial, ⟨xa [], xf [f29_3], xh [], xv [], by rw [ht]; exact hP9, hD9, trivial⟩⟩, hS.F ht⟩) hS.2.2 dX6_put_46
abbrev pre_X6_put_4 (T : Nat → ClassId) (a ex : Nat → Nat) (fi : Nat → Nat → Int32) (fl : Nat → Nat → Int64) (vi : Nat → Int32) : va_W := [((a 0), .inr (6, [.ref (a 1), .ref (ex 0), .int (vi 1), .int 12, .int 0, .int 0, .int 0, .int 0, .long 0, .int 0, .int 0, .int 0, .int 0, .int 0])), ((a 1), .inl (T 0, 940, .inl (fi 0)))]
set_option maxHeartbeats 4000000 in
set_option maxRecDepth 100000 in
theorem c_X6_put_4 (l : Launch) (D : va_G) (T : Nat → ClassId) (a ex : Nat → Nat) (fi : Nat → Nat → Int32) (fl : Nat → Nat → Int64) (vi : Nat → Int32) (sz : Nat) : Met l yX6_put (xw yX6_put cX6_put 3 none) ({ frames := 0, cells := 0, slots := 0, locals := 0 }) (xP D T [.ref (a 0), .int (vi 0)] sz (pre_X6_put_4 T a ex fi fl vi)) (va_Qv (fun _ : Unit => True) (xB D (va_A (pre_X6_put_4 T a ex fi fl vi) sz) (fun _ => True) (fun b fj fm vj => [((a 0), .inr (6, [.ref (a 1), .ref (ex 0), .int (vi 1), .int 16, .int 0, .int 0, .int 0, .int 0, .long 0, .int 0, .int 0, .int 0, .int 0, .int 0])), ((a 1), .inl (T 0, 940, .inl (fj 0)))])) (va_A (pre_X6_put_4 T a ex fi fl vi) sz)) 0 0 (va_A (pre_X6_put_4 T a ex fi fl vi) sz) := by
  refine xofW (cc := cX6_put) (maxL := 3) (ret := none) (by decide) rfl ?_
  intro p e s m args below meth c s₁ R Q hR hQ B hml hv
  obtain ⟨rfl, hsz, hP, hK, hD0⟩ := hv
  have hx := B.exec
  have hb := B.bytes
  have hr := B.returns
  have hts := atoms_spec (ws := xw yX6_put cX6_put 3 none) B.pre
  have htg : ∀ w ∈ xg, w.before _ s = true := fun w h => hts w (List.mem_cons_of_mem _ h)
  have hown : s.vm.findClass RX6 = some m.cls := findClass_of_methodNamed B.named
  have hlocks := B.notSynchronized
  subst hsz
  have hD := hD0.self (sz := s.heap.size)
  generalize hAe : va_A (pre_X6_put_4 T a ex fi fl vi) s.heap.size = A at hD hQ
  have hA : ∀ q : Nat, s.heap.size ≤ q → A q := fun q h => by rw [← hAe]; exact Or.inr h
  have hS : va_S A s.heap s.heap [] := va_S.rf
  replace hP : va_P D vwCl [((a 0), .inr (6, [.ref (a 1), .ref (ex 0), .int (vi 1), .int 12, .int 0, .int 0, .int 0, .int 0, .long 0, .int 0, .int 0, .int 0, .int 0, .int 0])), ((a 1), .inl (T 0, 940, .inl (fi 0)))] s.heap := hP
  replace hD : va_D A [((a 0), .inr (6, [.ref (a 1), .ref (ex 0), .int (vi 1), .int 12, .int 0, .int 0, .int 0, .int 0, .long 0, .int 0, .int 0, .int 0, .int 0, .int 0])), ((a 1), .inl (T 0, 940, .inl (fi 0)))] := hD
  have hl := lv_entry ([.ref (a 0), .int (vi 0)]) (n := 3) (Nat.le_of_ble_eq_true rfl)
  rw [lg_entry_eq]
  generalize (lg_sl ([.ref (a 0), .int (vi 0)]) ++ List.replicate (3 - (lg_sl ([.ref (a 0), .int (vi 0)])).length) Slot.unset).toArray = ls at hl ⊢
  replace hl : lv_has ls 3 [(0, .ref (a 0)), (1, .int (vi 0))] := hl
  refine lv_bipush (v := 24) hx hb dX6_put_0 (by decide) ?_
  refine lv_istore_n (lv' := [(2, .int 24), (0, .ref (a 0)), (1, .int (vi 0))]) hx hb dX6_put_2 rfl hl (by decide) rfl (fun ls hl => ?_)
  refine lv_iload_n hx hb dX6_put_3 rfl (lv_at hl 0 rfl) ?_
  refine lv_if_lt (tgt := 46) hx hb dX6_put_4 (by decide) (fun c => absurd c (by decide)) (fun _ => ?_)
  refine lv_aload_n hx hb dX6_put_7 rfl (lv_at hl 1 rfl) ?_
  refine va_get (D := D) (ci := 6) (v := .int 12) (C := RX6) (T := TX6) (N := 14) hx hb htg inX6 hown hK.1 hP 0 rfl rfl 3 (by decide) (htg _ kw_98) (fun _ h9 => h9) rfl dX6_put_8 ?_
  refine lv_sipush (v := 940) hx hb dX6_put_11 (by decide) ?_
  refine lv_icmp_ge (tgt := 46) hx hb dX6_put_14 (by decide) (fun c => absurd c (by decide)) (fun _ => ?_)
  refine lv_aload_n hx hb dX6_put_17 rfl (lv_at hl 1 rfl) ?_
  refine va_get (D := D) (ci := 6) (v := .ref (a 1)) (C := RX6) (T := TX6) (N := 14) hx hb htg inX6 hown hK.1 hP 0 rfl rfl 0 (by decide) (htg _ kw_94) (fun _ h9 => h9) rfl dX6_put_18 ?_
  refine lv_aload_n hx hb dX6_put_21 rfl (lv_at hl 1 rfl) ?_
  refine va_get (D := D) (ci := 6) (v := .int 12) (C := RX6) (T := TX6) (N := 14) hx hb htg inX6 hown hK.1 hP 0 rfl rfl 3 (by decide) (htg _ kw_98) (fun _ h9 => h9) rfl dX6_put_22 ?_
  refine lv_iload_n hx hb dX6_put_25 rfl (lv_at hl 2 rfl) ?_
  refine lv_iload_n hx hb dX6_put_26 rfl (lv_at hl 0 rfl) ?_
  refine lv_iushr hx hb dX6_put_27 rfl ?_
  refine lv_topi (fun z27 _ => ?_)
  refine lv_i2b hx hb dX6_put_28 rfl ?_
  refine lv_topi (fun z28 _ => ?_)
  refine va_bast hx hb hK.1 hP hD hS 1 0 rfl rfl (vp_in_nI (n := 12) (by decide) (by decide)) dX6_put_29 (fun H locs hP hD hS => ?_)
  obtain ⟨f29, hP, hD⟩ : ∃ f29 : Nat → Int32, va_P D vwCl [((a 0), .inr (6, [.ref (a 1), .ref (ex 0), .int (vi 1), .int 12, .int 0, .int 0, .int 0, .int 0, .long 0, .int 0, .int 0, .int 0, .int 0, .int 0])), ((a 1), .inl (T 0, 940, .inl f29))] H ∧ va_D A [((a 0), .inr (6, [.ref (a 1), .ref (ex 0), .int (vi 1), .int 12, .int 0, .int 0, .int 0, .int 0, .long 0, .int 0, .int 0, .int 0, .int 0, .int 0])), ((a 1), .inl (T 0, 940, .inl f29))] := ⟨upd (fi 0) (12 : Int32).toNatClampNeg (vp_nar .byte (z28 : Int32)), hP, hD⟩
  refine lv_aload_n hx hb dX6_put_30 rfl (lv_at hl 1 rfl) ?_
  refine lv_dup hx hb dX6_put_31 rfl ?_
  refine va_get (D := D) (ci := 6) (v := .int 12) (C := RX6) (T := TX6) (N := 14) hx hb htg inX6 hown hK.1 hP 0 rfl rfl 3 (by decide) (htg _ kw_98) (fun _ h9 => h9) rfl dX6_put_32 ?_
  refine lv_iconst (v := 1) hx hb dX6_put_35 (by decide) ?_
  refine lv_iadd hx hb dX6_put_36 ?_
  refine xz_i 13 (by decide) ?_
  refine va_put (D := D) (ci := 6) (v := .int 13) (ty := .int) (C := RX6) (T := TX6) (N := 14) hx hb htg inX6 tyX6 tyX6_ok nmX6 hown hK.1 hP hD hS 0 rfl rfl 3 (by decide) (htg _ kw_98) (fun _ h9 => h9) rfl (by decide +kernel) rfl rfl (Nat.le_of_ble_eq_true rfl) dX6_put_37 (fun H locs hP hD hS => ?_)
  replace hP : va_P D vwCl [((a 0), .inr (6, [.ref (a 1), .ref (ex 0), .int (vi 1), .int 13, .int 0, .int 0, .int 0, .int 0, .long 0, .int 0, .int 0, .int 0, .int 0, .int 0])), ((a 1), .inl (T 0, 940, .inl f29))] H := hP
  replace hD : va_D A [((a 0), .inr (6, [.ref (a 1), .ref (ex 0), .int (vi 1), .int 13, .int 0, .int 0, .int 0, .int 0, .long 0, .int 0, .int 0, .int 0, .int 0, .int 0])), ((a 1), .inl (T 0, 940, .inl f29))] := hD
  refine lv_iinc (v := 16) (lv' := [(2, .int 16), (0, .ref (a 0)), (1, .int (vi 0))]) hx hb dX6_put_40 hl (k := 0) rfl (by decide) (by decide) rfl (fun ls hl => ?_)
  refine lv_goto (tgt := 3) hx hb dX6_put_43 (by decide) ?_
  refine lv_iload_n hx hb dX6_put_3 rfl (lv_at hl 0 rfl) ?_
  refine lv_if_lt (tgt := 46) hx hb dX6_put_4 (by decide) (fun c => absurd c (by decide)) (fun _ => ?_)
  refine lv_aload_n hx hb dX6_put_7 rfl (lv_at hl 1 rfl) ?_
  refine va_get (D := D) (ci := 6) (v := .int 13) (C := RX6) (T := TX6) (N := 14) hx hb htg inX6 hown hK.1 hP 0 rfl rfl 3 (by decide) (htg _ kw_98) (fun _ h9 => h9) rfl dX6_put_8 ?_
  refine lv_sipush (v := 940) hx hb dX6_put_11 (by decide) ?_
  refine lv_icmp_ge (tgt := 46) hx hb dX6_put_14 (by decide) (fun c => absurd c (by decide)) (fun _ => ?_)
  refine lv_aload_n hx hb dX6_put_17 rfl (lv_at hl 1 rfl) ?_
  refine va_get (D := D) (ci := 6) (v := .ref (a 1)) (C := RX6) (T := TX6) (N := 14) hx hb htg inX6 hown hK.1 hP 0 rfl rfl 0 (by decide) (htg _ kw_94) (fun _ h9 => h9) rfl dX6_put_18 ?_
  refine lv_aload_n hx hb dX6_put_21 rfl (lv_at hl 1 rfl) ?_
  refine va_get (D := D) (ci := 6) (v := .int 13) (C := RX6) (T := TX6) (N := 14) hx hb htg inX6 hown hK.1 hP 0 rfl rfl 3 (by decide) (htg _ kw_98) (fun _ h9 => h9) rfl dX6_put_22 ?_
  refine lv_iload_n hx hb dX6_put_25 rfl (lv_at hl 2 rfl) ?_
  refine lv_iload_n hx hb dX6_put_26 rfl (lv_at hl 0 rfl) ?_
  refine lv_iushr hx hb dX6_put_27 rfl ?_
  refine lv_topi (fun z27_1 _ => ?_)
  refine lv_i2b hx hb dX6_put_28 rfl ?_
  refine lv_topi (fun z28_1 _ => ?_)
  refine va_bast hx hb hK.1 hP hD hS 1 0 rfl rfl (vp_in_nI (n := 13) (by decide) (by decide)) dX6_put_29 (fun H locs hP hD hS => ?_)
  obtain ⟨f29_1, hP, hD⟩ : ∃ f29_1 : Nat → Int32, va_P D vwCl [((a 0), .inr (6, [.ref (a 1), .ref (ex 0), .int (vi 1), .int 13, .int 0, .int 0, .int 0, .int 0, .long 0, .int 0, .int 0, .int 0, .int 0, .int 0])), ((a 1), .inl (T 0, 940, .inl f29_1))] H ∧ va_D A [((a 0), .inr (6, [.ref (a 1), .ref (ex 0), .int (vi 1), .int 13, .int 0, .int 0, .int 0, .int 0, .long 0, .int 0, .int 0, .int 0, .int 0, .int 0])), ((a 1), .inl (T 0, 940, .inl f29_1))] := ⟨upd f29 (13 : Int32).toNatClampNeg (vp_nar .byte (z28_1 : Int32)), hP, hD⟩
  refine lv_aload_n hx hb dX6_put_30 rfl (lv_at hl 1 rfl) ?_
  refine lv_dup hx hb dX6_put_31 rfl ?_
  refine va_get (D := D) (ci := 6) (v := .int 13) (C := RX6) (T := TX6) (N := 14) hx hb htg inX6 hown hK.1 hP 0 rfl rfl 3 (by decide) (htg _ kw_98) (fun _ h9 => h9) rfl dX6_put_32 ?_
  refine lv_iconst (v := 1) hx hb dX6_put_35 (by decide) ?_
  refine lv_iadd hx hb dX6_put_36 ?_
  refine xz_i 14 (by decide) ?_
  refine va_put (D := D) (ci := 6) (v := .int 14) (ty := .int) (C := RX6) (T := TX6) (N := 14) hx hb htg inX6 tyX6 tyX6_ok nmX6 hown hK.1 hP hD hS 0 rfl rfl 3 (by decide) (htg _ kw_98) (fun _ h9 => h9) rfl (by decide +kernel) rfl rfl (Nat.le_of_ble_eq_true rfl) dX6_put_37 (fun H locs hP hD hS => ?_)
  replace hP : va_P D vwCl [((a 0), .inr (6, [.ref (a 1), .ref (ex 0), .int (vi 1), .int 14, .int 0, .int 0, .int 0, .int 0, .long 0, .int 0, .int 0, .int 0, .int 0, .int 0])), ((a 1), .inl (T 0, 940, .inl f29_1))] H := hP
  replace hD : va_D A [((a 0), .inr (6, [.ref (a 1), .ref (ex 0), .int (vi 1), .int 14, .int 0, .int 0, .int 0, .int 0, .long 0, .int 0, .int 0, .int 0, .int 0, .int 0])), ((a 1), .inl (T 0, 940, .inl f29_1))] := hD
  refine lv_iinc (v := 8) (lv' := [(2, .int 8), (0, .ref (a 0)), (1, .int (vi 0))]) hx hb dX6_put_40 hl (k := 0) rfl (by decide) (by decide) rfl (fun ls hl => ?_)
  refine lv_goto (tgt := 3) hx hb dX6_put_43 (by decide) ?_
  refine lv_iload_n hx hb dX6_put_3 rfl (lv_at hl 0 rfl) ?_
  refine lv_if_lt (tgt := 46) hx hb dX6_put_4 (by decide) (fun c => absurd c (by decide)) (fun _ => ?_)
  refine lv_aload_n hx hb dX6_put_7 rfl (lv_at hl 1 rfl) ?_
  refine va_get (D := D) (ci := 6) (v := .int 14) (C := RX6) (T := TX6) (N := 14) hx hb htg inX6 hown hK.1 hP 0 rfl rfl 3 (by decide) (htg _ kw_98) (fun _ h9 => h9) rfl dX6_put_8 ?_
  refine lv_sipush (v := 940) hx hb dX6_put_11 (by decide) ?_
  refine lv_icmp_ge (tgt := 46) hx hb dX6_put_14 (by decide) (fun c => absurd c (by decide)) (fun _ => ?_)
  refine lv_aload_n hx hb dX6_put_17 rfl (lv_at hl 1 rfl) ?_
  refine va_get (D := D) (ci := 6) (v := .ref (a 1)) (C := RX6) (T := TX6) (N := 14) hx hb htg inX6 hown hK.1 hP 0 rfl rfl 0 (by decide) (htg _ kw_94) (fun _ h9 => h9) rfl dX6_put_18 ?_
  refine lv_aload_n hx hb dX6_put_21 rfl (lv_at hl 1 rfl) ?_
  refine va_get (D := D) (ci := 6) (v := .int 14) (C := RX6) (T := TX6) (N := 14) hx hb htg inX6 hown hK.1 hP 0 rfl rfl 3 (by decide) (htg _ kw_98) (fun _ h9 => h9) rfl dX6_put_22 ?_
  refine lv_iload_n hx hb dX6_put_25 rfl (lv_at hl 2 rfl) ?_
  refine lv_iload_n hx hb dX6_put_26 rfl (lv_at hl 0 rfl) ?_
  refine lv_iushr hx hb dX6_put_27 rfl ?_
  refine lv_topi (fun z27_2 _ => ?_)
  refine lv_i2b hx hb dX6_put_28 rfl ?_
  refine lv_topi (fun z28_2 _ => ?_)
  refine va_bast hx hb hK.1 hP hD hS 1 0 rfl rfl (vp_in_nI (n := 14) (by decide) (by decide)) dX6_put_29 (fun H locs hP hD hS => ?_)
  obtain ⟨f29_2, hP, hD⟩ : ∃ f29_2 : Nat → Int32, va_P D vwCl [((a 0), .inr (6, [.ref (a 1), .ref (ex 0), .int (vi 1), .int 14, .int 0, .int 0, .int 0, .int 0, .long 0, .int 0, .int 0, .int 0, .int 0, .int 0])), ((a 1), .inl (T 0, 940, .inl f29_2))] H ∧ va_D A [((a 0), .inr (6, [.ref (a 1), .ref (ex 0), .int (vi 1), .int 14, .int 0, .int 0, .int 0, .int 0, .long 0, .int 0, .int 0, .int 0, .int 0, .int 0])), ((a 1), .inl (T 0, 940, .inl f29_2))] := ⟨upd f29_1 (14 : Int32).toNatClampNeg (vp_nar .byte (z28_2 : Int32)), hP, hD⟩
  refine lv_aload_n hx hb dX6_put_30 rfl (lv_at hl 1 rfl) ?_
  refine lv_dup hx hb dX6_put_31 rfl ?_
  refine va_get (D := D) (ci := 6) (v := .int 14) (C := RX6) (T := TX6) (N := 14) hx hb htg inX6 hown hK.1 hP 0 rfl rfl 3 (by decide) (htg _ kw_98) (fun _ h9 => h9) rfl dX6_put_32 ?_
  refine lv_iconst (v := 1) hx hb dX6_put_35 (by decide) ?_
  refine lv_iadd hx hb dX6_put_36 ?_
  refine xz_i 15 (by decide) ?_
  refine va_put (D := D) (ci := 6) (v := .int 15) (ty := .int) (C := RX6) (T := TX6) (N := 14) hx hb htg inX6 tyX6 tyX6_ok nmX6 hown hK.1 hP hD hS 0 rfl rfl 3 (by decide) (htg _ kw_98) (fun _ h9 => h9) rfl (by decide +kernel) rfl rfl (Nat.le_of_ble_eq_true rfl) dX6_put_37 (fun H locs hP hD hS => ?_)
  replace hP : va_P D vwCl [((a 0), .inr (6, [.ref (a 1), .ref (ex 0), .int (vi 1), .int 15, .int 0, .int 0, .int 0, .int 0, .long 0, .int 0, .int 0, .int 0, .int 0, .int 0])), ((a 1), .inl (T 0, 940, .inl f29_2))] H := hP
  replace hD : va_D A [((a 0), .inr (6, [.ref (a 1), .ref (ex 0), .int (vi 1), .int 15, .int 0, .int 0, .int 0, .int 0, .long 0, .int 0, .int 0, .int 0, .int 0, .int 0])), ((a 1), .inl (T 0, 940, .inl f29_2))] := hD
  refine lv_iinc (v := 0) (lv' := [(2, .int 0), (0, .ref (a 0)), (1, .int (vi 0))]) hx hb dX6_put_40 hl (k := 0) rfl (by decide) (by decide) rfl (fun ls hl => ?_)
  refine lv_goto (tgt := 3) hx hb dX6_put_43 (by decide) ?_
  refine lv_iload_n hx hb dX6_put_3 rfl (lv_at hl 0 rfl) ?_
  refine lv_if_lt (tgt := 46) hx hb dX6_put_4 (by decide) (fun c => absurd c (by decide)) (fun _ => ?_)
  refine lv_aload_n hx hb dX6_put_7 rfl (lv_at hl 1 rfl) ?_
  refine va_get (D := D) (ci := 6) (v := .int 15) (C := RX6) (T := TX6) (N := 14) hx hb htg inX6 hown hK.1 hP 0 rfl rfl 3 (by decide) (htg _ kw_98) (fun _ h9 => h9) rfl dX6_put_8 ?_
  refine lv_sipush (v := 940) hx hb dX6_put_11 (by decide) ?_
  refine lv_icmp_ge (tgt := 46) hx hb dX6_put_14 (by decide) (fun c => absurd c (by decide)) (fun _ => ?_)
  refine lv_aload_n hx hb dX6_put_17 rfl (lv_at hl 1 rfl) ?_
  refine va_get (D := D) (ci := 6) (v := .ref (a 1)) (C := RX6) (T := TX6) (N := 14) hx hb htg inX6 hown hK.1 hP 0 rfl rfl 0 (by decide) (htg _ kw_94) (fun _ h9 => h9) rfl dX6_put_18 ?_
  refine lv_aload_n hx hb dX6_put_21 rfl (lv_at hl 1 rfl) ?_
  refine va_get (D := D) (ci := 6) (v := .int 15) (C := RX6) (T := TX6) (N := 14) hx hb htg inX6 hown hK.1 hP 0 rfl rfl 3 (by decide) (htg _ kw_98) (fun _ h9 => h9) rfl dX6_put_22 ?_
  refine lv_iload_n hx hb dX6_put_25 rfl (lv_at hl 2 rfl) ?_
  refine lv_iload_n hx hb dX6_put_26 rfl (lv_at hl 0 rfl) ?_
  refine lv_iushr hx hb dX6_put_27 rfl ?_
  refine lv_topi (fun z27_3 _ => ?_)
  refine lv_i2b hx hb dX6_put_28 rfl ?_
  refine lv_topi (fun z28_3 _ => ?_)
  refine va_bast hx hb hK.1 hP hD hS 1 0 rfl rfl (vp_in_nI (n := 15) (by decide) (by decide)) dX6_put_29 (fun H locs hP hD hS => ?_)
  obtain ⟨f29_3, hP, hD⟩ : ∃ f29_3 : Nat → Int32, va_P D vwCl [((a 0), .inr (6, [.ref (a 1), .ref (ex 0), .int (vi 1), .int 15, .int 0, .int 0, .int 0, .int 0, .long 0, .int 0, .int 0, .int 0, .int 0, .int 0])), ((a 1), .inl (T 0, 940, .inl f29_3))] H ∧ va_D A [((a 0), .inr (6, [.ref (a 1), .ref (ex 0), .int (vi 1), .int 15, .int 0, .int 0, .int 0, .int 0, .long 0, .int 0, .int 0, .int 0, .int 0, .int 0])), ((a 1), .inl (T 0, 940, .inl f29_3))] := ⟨upd f29_2 (15 : Int32).toNatClampNeg (vp_nar .byte (z28_3 : Int32)), hP, hD⟩
  refine lv_aload_n hx hb dX6_put_30 rfl (lv_at hl 1 rfl) ?_
  refine lv_dup hx hb dX6_put_31 rfl ?_
  refine va_get (D := D) (ci := 6) (v := .int 15) (C := RX6) (T := TX6) (N := 14) hx hb htg inX6 hown hK.1 hP 0 rfl rfl 3 (by decide) (htg _ kw_98) (fun _ h9 => h9) rfl dX6_put_32 ?_
  refine lv_iconst (v := 1) hx hb dX6_put_35 (by decide) ?_
  refine lv_iadd hx hb dX6_put_36 ?_
  refine xz_i 16 (by decide) ?_
  refine va_put (D := D) (ci := 6) (v := .int 16) (ty := .int) (C := RX6) (T := TX6) (N := 14) hx hb htg inX6 tyX6 tyX6_ok nmX6 hown hK.1 hP hD hS 0 rfl rfl 3 (by decide) (htg _ kw_98) (fun _ h9 => h9) rfl (by decide +kernel) rfl rfl (Nat.le_of_ble_eq_true rfl) dX6_put_37 (fun H locs hP hD hS => ?_)
  replace hP : va_P D vwCl [((a 0), .inr (6, [.ref (a 1), .ref (ex 0), .int (vi 1), .int 16, .int 0, .int 0, .int 0, .int 0, .long 0, .int 0, .int 0, .int 0, .int 0, .int 0])), ((a 1), .inl (T 0, 940, .inl f29_3))] H := hP
  replace hD : va_D A [((a 0), .inr (6, [.ref (a 1), .ref (ex 0), .int (vi 1), .int 16, .int 0, .int 0, .int 0, .int 0, .long 0, .int 0, .int 0, .int 0, .int 0, .int 0])), ((a 1), .inl (T 0, 940, .inl f29_3))] := hD
  refine lv_iinc (v := (-8)) (lv' := [(2, .int (-8)), (0, .ref (a 0)), (1, .int (vi 0))]) hx hb dX6_put_40 hl (k := 0) rfl (by decide) (by decide) rfl (fun ls hl => ?_)
  refine lv_goto (tgt := 3) hx hb dX6_put_43 (by decide) ?_
  refine lv_iload_n hx hb dX6_put_3 rfl (lv_at hl 0 rfl) ?_
  refine lv_if_lt (tgt := 46) hx hb dX6_put_4 (by decide) (fun _ => ?_) (fun c => absurd (by decide) c)
  have hP9 := hP.sub (ws' := [((a 0), .inr (6, [.ref (a 1), .ref (ex 0), .int (vi 1), .int 16, .int 0, .int 0, .int 0, .int 0, .long 0, .int 0, .int 0, .int 0, .int 0, .int 0])), ((a 1), .inl (T 0, 940, .inl f29_3))]) [0, 1] rfl
  have hD9 := hD.sub (ws' := [((a 0), .inr (6, [.ref (a 1), .ref (ex 0), .int (vi 1), .int 16, .int 0, .int 0, .int 0, .int 0, .long 0, .int 0, .int 0, .int 0, .int 0, .int 0])), ((a 1), .inl (T 0, 940, .inl f29_3))]) [0, 1] (by decide +kernel) rfl
  rw [hQ]
  exact W.vret hx hb hr (fun t ht hW => ⟨⟨(), rfl, trivial, ⟨xa [], xf [f29_3], xh [], xv [], by rw [ht]; exact hP9, hD9, trivial⟩⟩, hS.F ht⟩) hS.2.2 dX6_put_46
abbrev pre_X6_put_5 (T : Nat → ClassId) (a ex : Nat → Nat) (fi : Nat → Nat → Int32) (fl : Nat → Nat → Int64) (vi : Nat → Int32) : va_W := [((a 0), .inr (6, [.ref (a 1), .ref (ex 0), .int (vi 1), .int 16, .int 0, .int 0, .int 0, .int 0, .long 0, .int 0, .int 0, .int 0, .int 0, .int 0])), ((a 1), .inl (T 0, 940, .inl (fi 0)))]
set_option maxHeartbeats 4000000 in
set_option maxRecDepth 100000 in
theorem c_X6_put_5 (l : Launch) (D : va_G) (T : Nat → ClassId) (a ex : Nat → Nat) (fi : Nat → Nat → Int32) (fl : Nat → Nat → Int64) (vi : Nat → Int32) (sz : Nat) : Met l yX6_put (xw yX6_put cX6_put 3 none) ({ frames := 0, cells := 0, slots := 0, locals := 0 }) (xP D T [.ref (a 0), .int (vi 0)] sz (pre_X6_put_5 T a ex fi fl vi)) (va_Qv (fun _ : Unit => True) (xB D (va_A (pre_X6_put_5 T a ex fi fl vi) sz) (fun _ => True) (fun b fj fm vj => [((a 0), .inr (6, [.ref (a 1), .ref (ex 0), .int (vi 1), .int 20, .int 0, .int 0, .int 0, .int 0, .long 0, .int 0, .int 0, .int 0, .int 0, .int 0])), ((a 1), .inl (T 0, 940, .inl (fj 0)))])) (va_A (pre_X6_put_5 T a ex fi fl vi) sz)) 0 0 (va_A (pre_X6_put_5 T a ex fi fl vi) sz) := by
  refine xofW (cc := cX6_put) (maxL := 3) (ret := none) (by decide) rfl ?_
  intro p e s m args below meth c s₁ R Q hR hQ B hml hv
  obtain ⟨rfl, hsz, hP, hK, hD0⟩ := hv
  have hx := B.exec
  have hb := B.bytes
  have hr := B.returns
  have hts := atoms_spec (ws := xw yX6_put cX6_put 3 none) B.pre
  have htg : ∀ w ∈ xg, w.before _ s = true := fun w h => hts w (List.mem_cons_of_mem _ h)
  have hown : s.vm.findClass RX6 = some m.cls := findClass_of_methodNamed B.named
  have hlocks := B.notSynchronized
  subst hsz
  have hD := hD0.self (sz := s.heap.size)
  generalize hAe : va_A (pre_X6_put_5 T a ex fi fl vi) s.heap.size = A at hD hQ
  have hA : ∀ q : Nat, s.heap.size ≤ q → A q := fun q h => by rw [← hAe]; exact Or.inr h
  have hS : va_S A s.heap s.heap [] := va_S.rf
  replace hP : va_P D vwCl [((a 0), .inr (6, [.ref (a 1), .ref (ex 0), .int (vi 1), .int 16, .int 0, .int 0, .int 0, .int 0, .long 0, .int 0, .int 0, .int 0, .int 0, .int 0])), ((a 1), .inl (T 0, 940, .inl (fi 0)))] s.heap := hP
  replace hD : va_D A [((a 0), .inr (6, [.ref (a 1), .ref (ex 0), .int (vi 1), .int 16, .int 0, .int 0, .int 0, .int 0, .long 0, .int 0, .int 0, .int 0, .int 0, .int 0])), ((a 1), .inl (T 0, 940, .inl (fi 0)))] := hD
  have hl := lv_entry ([.ref (a 0), .int (vi 0)]) (n := 3) (Nat.le_of_ble_eq_true rfl)
  rw [lg_entry_eq]
  generalize (lg_sl ([.ref (a 0), .int (vi 0)]) ++ List.replicate (3 - (lg_sl ([.ref (a 0), .int (vi 0)])).length) Slot.unset).toArray = ls at hl ⊢
  replace hl : lv_has ls 3 [(0, .ref (a 0)), (1, .int (vi 0))] := hl
  refine lv_bipush (v := 24) hx hb dX6_put_0 (by decide) ?_
  refine lv_istore_n (lv' := [(2, .int 24), (0, .ref (a 0)), (1, .int (vi 0))]) hx hb dX6_put_2 rfl hl (by decide) rfl (fun ls hl => ?_)
  refine lv_iload_n hx hb dX6_put_3 rfl (lv_at hl 0 rfl) ?_
  refine lv_if_lt (tgt := 46) hx hb dX6_put_4 (by decide) (fun c => absurd c (by decide)) (fun _ => ?_)
  refine lv_aload_n hx hb dX6_put_7 rfl (lv_at hl 1 rfl) ?_
  refine va_get (D := D) (ci := 6) (v := .int 16) (C := RX6) (T := TX6) (N := 14) hx hb htg inX6 hown hK.1 hP 0 rfl rfl 3 (by decide) (htg _ kw_98) (fun _ h9 => h9) rfl dX6_put_8 ?_
  refine lv_sipush (v := 940) hx hb dX6_put_11 (by decide) ?_
  refine lv_icmp_ge (tgt := 46) hx hb dX6_put_14 (by decide) (fun c => absurd c (by decide)) (fun _ => ?_)
  refine lv_aload_n hx hb dX6_put_17 rfl (lv_at hl 1 rfl) ?_
  refine va_get (D := D) (ci := 6) (v := .ref (a 1)) (C := RX6) (T := TX6) (N := 14) hx hb htg inX6 hown hK.1 hP 0 rfl rfl 0 (by decide) (htg _ kw_94) (fun _ h9 => h9) rfl dX6_put_18 ?_
  refine lv_aload_n hx hb dX6_put_21 rfl (lv_at hl 1 rfl) ?_
  refine va_get (D := D) (ci := 6) (v := .int 16) (C := RX6) (T := TX6) (N := 14) hx hb htg inX6 hown hK.1 hP 0 rfl rfl 3 (by decide) (htg _ kw_98) (fun _ h9 => h9) rfl dX6_put_22 ?_
  refine lv_iload_n hx hb dX6_put_25 rfl (lv_at hl 2 rfl) ?_
  refine lv_iload_n hx hb dX6_put_26 rfl (lv_at hl 0 rfl) ?_
  refine lv_iushr hx hb dX6_put_27 rfl ?_
  refine lv_topi (fun z27 _ => ?_)
  refine lv_i2b hx hb dX6_put_28 rfl ?_
  refine lv_topi (fun z28 _ => ?_)
  refine va_bast hx hb hK.1 hP hD hS 1 0 rfl rfl (vp_in_nI (n := 16) (by decide) (by decide)) dX6_put_29 (fun H locs hP hD hS => ?_)
  obtain ⟨f29, hP, hD⟩ : ∃ f29 : Nat → Int32, va_P D vwCl [((a 0), .inr (6, [.ref (a 1), .ref (ex 0), .int (vi 1), .int 16, .int 0, .int 0, .int 0, .int 0, .long 0, .int 0, .int 0, .int 0, .int 0, .int 0])), ((a 1), .inl (T 0, 940, .inl f29))] H ∧ va_D A [((a 0), .inr (6, [.ref (a 1), .ref (ex 0), .int (vi 1), .int 16, .int 0, .int 0, .int 0, .int 0, .long 0, .int 0, .int 0, .int 0, .int 0, .int 0])), ((a 1), .inl (T 0, 940, .inl f29))] := ⟨upd (fi 0) (16 : Int32).toNatClampNeg (vp_nar .byte (z28 : Int32)), hP, hD⟩
  refine lv_aload_n hx hb dX6_put_30 rfl (lv_at hl 1 rfl) ?_
  refine lv_dup hx hb dX6_put_31 rfl ?_
  refine va_get (D := D) (ci := 6) (v := .int 16) (C := RX6) (T := TX6) (N := 14) hx hb htg inX6 hown hK.1 hP 0 rfl rfl 3 (by decide) (htg _ kw_98) (fun _ h9 => h9) rfl dX6_put_32 ?_
  refine lv_iconst (v := 1) hx hb dX6_put_35 (by decide) ?_
  refine lv_iadd hx hb dX6_put_36 ?_
  refine xz_i 17 (by decide) ?_
  refine va_put (D := D) (ci := 6) (v := .int 17) (ty := .int) (C := RX6) (T := TX6) (N := 14) hx hb htg inX6 tyX6 tyX6_ok nmX6 hown hK.1 hP hD hS 0 rfl rfl 3 (by decide) (htg _ kw_98) (fun _ h9 => h9) rfl (by decide +kernel) rfl rfl (Nat.le_of_ble_eq_true rfl) dX6_put_37 (fun H locs hP hD hS => ?_)
  replace hP : va_P D vwCl [((a 0), .inr (6, [.ref (a 1), .ref (ex 0), .int (vi 1), .int 17, .int 0, .int 0, .int 0, .int 0, .long 0, .int 0, .int 0, .int 0, .int 0, .int 0])), ((a 1), .inl (T 0, 940, .inl f29))] H := hP
  replace hD : va_D A [((a 0), .inr (6, [.ref (a 1), .ref (ex 0), .int (vi 1), .int 17, .int 0, .int 0, .int 0, .int 0, .long 0, .int 0, .int 0, .int 0, .int 0, .int 0])), ((a 1), .inl (T 0, 940, .inl f29))] := hD
  refine lv_iinc (v := 16) (lv' := [(2, .int 16), (0, .ref (a 0)), (1, .int (vi 0))]) hx hb dX6_put_40 hl (k := 0) rfl (by decide) (by decide) rfl (fun ls hl => ?_)
  refine lv_goto (tgt := 3) hx hb dX6_put_43 (by decide) ?_
  refine lv_iload_n hx hb dX6_put_3 rfl (lv_at hl 0 rfl) ?_
  refine lv_if_lt (tgt := 46) hx hb dX6_put_4 (by decide) (fun c => absurd c (by decide)) (fun _ => ?_)
  refine lv_aload_n hx hb dX6_put_7 rfl (lv_at hl 1 rfl) ?_
  refine va_get (D := D) (ci := 6) (v := .int 17) (C := RX6) (T := TX6) (N := 14) hx hb htg inX6 hown hK.1 hP 0 rfl rfl 3 (by decide) (htg _ kw_98) (fun _ h9 => h9) rfl dX6_put_8 ?_
  refine lv_sipush (v := 940) hx hb dX6_put_11 (by decide) ?_
  refine lv_icmp_ge (tgt := 46) hx hb dX6_put_14 (by decide) (fun c => absurd c (by decide)) (fun _ => ?_)
  refine lv_aload_n hx hb dX6_put_17 rfl (lv_at hl 1 rfl) ?_
  refine va_get (D := D) (ci := 6) (v := .ref (a 1)) (C := RX6) (T := TX6) (N := 14) hx hb htg inX6 hown hK.1 hP 0 rfl rfl 0 (by decide) (htg _ kw_94) (fun _ h9 => h9) rfl dX6_put_18 ?_
  refine lv_aload_n hx hb dX6_put_21 rfl (lv_at hl 1 rfl) ?_
  refine va_get (D := D) (ci := 6) (v := .int 17) (C := RX6) (T := TX6) (N := 14) hx hb htg inX6 hown hK.1 hP 0 rfl rfl 3 (by decide) (htg _ kw_98) (fun _ h9 => h9) rfl dX6_put_22 ?_
  refine lv_iload_n hx hb dX6_put_25 rfl (lv_at hl 2 rfl) ?_
  refine lv_iload_n hx hb dX6_put_26 rfl (lv_at hl 0 rfl) ?_
  refine lv_iushr hx hb dX6_put_27 rfl ?_
  refine lv_topi (fun z27_1 _ => ?_)
  refine lv_i2b hx hb dX6_put_28 rfl ?_
  refine lv_topi (fun z28_1 _ => ?_)
  refine va_bast hx hb hK.1 hP hD hS 1 0 rfl rfl (vp_in_nI (n := 17) (by decide) (by decide)) dX6_put_29 (fun H locs hP hD hS => ?_)
  obtain ⟨f29_1, hP, hD⟩ : ∃ f29_1 : Nat → Int32, va_P D vwCl [((a 0), .inr (6, [.ref (a 1), .ref (ex 0), .int (vi 1), .int 17, .int 0, .int 0, .int 0, .int 0, .long 0, .int 0, .int 0, .int 0, .int 0, .int 0])), ((a 1), .inl (T 0, 940, .inl f29_1))] H ∧ va_D A [((a 0), .inr (6, [.ref (a 1), .ref (ex 0), .int (vi 1), .int 17, .int 0, .int 0, .int 0, .int 0, .long 0, .int 0, .int 0, .int 0, .int 0, .int 0])), ((a 1), .inl (T 0, 940, .inl f29_1))] := ⟨upd f29 (17 : Int32).toNatClampNeg (vp_nar .byte (z28_1 : Int32)), hP, hD⟩
  refine lv_aload_n hx hb dX6_put_30 rfl (lv_at hl 1 rfl) ?_
  refine lv_dup hx hb dX6_put_31 rfl ?_
  refine va_get (D := D) (ci := 6) (v := .int 17) (C := RX6) (T := TX6) (N := 14) hx hb htg inX6 hown hK.1 hP 0 rfl rfl 3 (by decide) (htg _ kw_98) (fun _ h9 => h9) rfl dX6_put_32 ?_
  refine lv_iconst (v := 1) hx hb dX6_put_35 (by decide) ?_
  refine lv_iadd hx hb dX6_put_36 ?_
  refine xz_i 18 (by decide) ?_
  refine va_put (D := D) (ci := 6) (v := .int 18) (ty := .int) (C := RX6) (T := TX6) (N := 14) hx hb htg inX6 tyX6 tyX6_ok nmX6 hown hK.1 hP hD hS 0 rfl rfl 3 (by decide) (htg _ kw_98) (fun _ h9 => h9) rfl (by decide +kernel) rfl rfl (Nat.le_of_ble_eq_true rfl) dX6_put_37 (fun H locs hP hD hS => ?_)
  replace hP : va_P D vwCl [((a 0), .inr (6, [.ref (a 1), .ref (ex 0), .int (vi 1), .int 18, .int 0, .int 0, .int 0, .int 0, .long 0, .int 0, .int 0, .int 0, .int 0, .int 0])), ((a 1), .inl (T 0, 940, .inl f29_1))] H := hP
  replace hD : va_D A [((a 0), .inr (6, [.ref (a 1), .ref (ex 0), .int (vi 1), .int 18, .int 0, .int 0, .int 0, .int 0, .long 0, .int 0, .int 0, .int 0, .int 0, .int 0])), ((a 1), .inl (T 0, 940, .inl f29_1))] := hD
  refine lv_iinc (v := 8) (lv' := [(2, .int 8), (0, .ref (a 0)), (1, .int (vi 0))]) hx hb dX6_put_40 hl (k := 0) rfl (by decide) (by decide) rfl (fun ls hl => ?_)
  refine lv_goto (tgt := 3) hx hb dX6_put_43 (by decide) ?_
  refine lv_iload_n hx hb dX6_put_3 rfl (lv_at hl 0 rfl) ?_
  refine lv_if_lt (tgt := 46) hx hb dX6_put_4 (by decide) (fun c => absurd c (by decide)) (fun _ => ?_)
  refine lv_aload_n hx hb dX6_put_7 rfl (lv_at hl 1 rfl) ?_
  refine va_get (D := D) (ci := 6) (v := .int 18) (C := RX6) (T := TX6) (N := 14) hx hb htg inX6 hown hK.1 hP 0 rfl rfl 3 (by decide) (htg _ kw_98) (fun _ h9 => h9) rfl dX6_put_8 ?_
  refine lv_sipush (v := 940) hx hb dX6_put_11 (by decide) ?_
  refine lv_icmp_ge (tgt := 46) hx hb dX6_put_14 (by decide) (fun c => absurd c (by decide)) (fun _ => ?_)
  refine lv_aload_n hx hb dX6_put_17 rfl (lv_at hl 1 rfl) ?_
  refine va_get (D := D) (ci := 6) (v := .ref (a 1)) (C := RX6) (T := TX6) (N := 14) hx hb htg inX6 hown hK.1 hP 0 rfl rfl 0 (by decide) (htg _ kw_94) (fun _ h9 => h9) rfl dX6_put_18 ?_
  refine lv_aload_n hx hb dX6_put_21 rfl (lv_at hl 1 rfl) ?_
  refine va_get (D := D) (ci := 6) (v := .int 18) (C := RX6) (T := TX6) (N := 14) hx hb htg inX6 hown hK.1 hP 0 rfl rfl 3 (by decide) (htg _ kw_98) (fun _ h9 => h9) rfl dX6_put_22 ?_
  refine lv_iload_n hx hb dX6_put_25 rfl (lv_at hl 2 rfl) ?_
  refine lv_iload_n hx hb dX6_put_26 rfl (lv_at hl 0 rfl) ?_
  refine lv_iushr hx hb dX6_put_27 rfl ?_
  refine lv_topi (fun z27_2 _ => ?_)
  refine lv_i2b hx hb dX6_put_28 rfl ?_
  refine lv_topi (fun z28_2 _ => ?_)
  refine va_bast hx hb hK.1 hP hD hS 1 0 rfl rfl (vp_in_nI (n := 18) (by decide) (by decide)) dX6_put_29 (fun H locs hP hD hS => ?_)
  obtain ⟨f29_2, hP, hD⟩ : ∃ f29_2 : Nat → Int32, va_P D vwCl [((a 0), .inr (6, [.ref (a 1), .ref (ex 0), .int (vi 1), .int 18, .int 0, .int 0, .int 0, .int 0, .long 0, .int 0, .int 0, .int 0, .int 0, .int 0])), ((a 1), .inl (T 0, 940, .inl f29_2))] H ∧ va_D A [((a 0), .inr (6, [.ref (a 1), .ref (ex 0), .int (vi 1), .int 18, .int 0, .int 0, .int 0, .int 0, .long 0, .int 0, .int 0, .int 0, .int 0, .int 0])), ((a 1), .inl (T 0, 940, .inl f29_2))] := ⟨upd f29_1 (18 : Int32).toNatClampNeg (vp_nar .byte (z28_2 : Int32)), hP, hD⟩
  refine lv_aload_n hx hb dX6_put_30 rfl (lv_at hl 1 rfl) ?_
  refine lv_dup hx hb dX6_put_31 rfl ?_
  refine va_get (D := D) (ci := 6) (v := .int 18) (C := RX6) (T := TX6) (N := 14) hx hb htg inX6 hown hK.1 hP 0 rfl rfl 3 (by decide) (htg _ kw_98) (fun _ h9 => h9) rfl dX6_put_32 ?_
  refine lv_iconst (v := 1) hx hb dX6_put_35 (by decide) ?_
  refine lv_iadd hx hb dX6_put_36 ?_
  refine xz_i 19 (by decide) ?_
  refine va_put (D := D) (ci := 6) (v := .int 19) (ty := .int) (C := RX6) (T := TX6) (N := 14) hx hb htg inX6 tyX6 tyX6_ok nmX6 hown hK.1 hP hD hS 0 rfl rfl 3 (by decide) (htg _ kw_98) (fun _ h9 => h9) rfl (by decide +kernel) rfl rfl (Nat.le_of_ble_eq_true rfl) dX6_put_37 (fun H locs hP hD hS => ?_)
  replace hP : va_P D vwCl [((a 0), .inr (6, [.ref (a 1), .ref (ex 0), .int (vi 1), .int 19, .int 0, .int 0, .int 0, .int 0, .long 0, .int 0, .int 0, .int 0, .int 0, .int 0])), ((a 1), .inl (T 0, 940, .inl f29_2))] H := hP
  replace hD : va_D A [((a 0), .inr (6, [.ref (a 1), .ref (ex 0), .int (vi 1), .int 19, .int 0, .int 0, .int 0, .int 0, .long 0, .int 0, .int 0, .int 0, .int 0, .int 0])), ((a 1), .inl (T 0, 940, .inl f29_2))] := hD
  refine lv_iinc (v := 0) (lv' := [(2, .int 0), (0, .ref (a 0)), (1, .int (vi 0))]) hx hb dX6_put_40 hl (k := 0) rfl (by decide) (by decide) rfl (fun ls hl => ?_)
  refine lv_goto (tgt := 3) hx hb dX6_put_43 (by decide) ?_
  refine lv_iload_n hx hb dX6_put_3 rfl (lv_at hl 0 rfl) ?_
  refine lv_if_lt (tgt := 46) hx hb dX6_put_4 (by decide) (fun c => absurd c (by decide)) (fun _ => ?_)
  refine lv_aload_n hx hb dX6_put_7 rfl (lv_at hl 1 rfl) ?_
  refine va_get (D := D) (ci := 6) (v := .int 19) (C := RX6) (T := TX6) (N := 14) hx hb htg inX6 hown hK.1 hP 0 rfl rfl 3 (by decide) (htg _ kw_98) (fun _ h9 => h9) rfl dX6_put_8 ?_
  refine lv_sipush (v := 940) hx hb dX6_put_11 (by decide) ?_
  refine lv_icmp_ge (tgt := 46) hx hb dX6_put_14 (by decide) (fun c => absurd c (by decide)) (fun _ => ?_)
  refine lv_aload_n hx hb dX6_put_17 rfl (lv_at hl 1 rfl) ?_
  refine va_get (D := D) (ci := 6) (v := .ref (a 1)) (C := RX6) (T := TX6) (N := 14) hx hb htg inX6 hown hK.1 hP 0 rfl rfl 0 (by decide) (htg _ kw_94) (fun _ h9 => h9) rfl dX6_put_18 ?_
  refine lv_aload_n hx hb dX6_put_21 rfl (lv_at hl 1 rfl) ?_
  refine va_get (D := D) (ci := 6) (v := .int 19) (C := RX6) (T := TX6) (N := 14) hx hb htg inX6 hown hK.1 hP 0 rfl rfl 3 (by decide) (htg _ kw_98) (fun _ h9 => h9) rfl dX6_put_22 ?_
  refine lv_iload_n hx hb dX6_put_25 rfl (lv_at hl 2 rfl) ?_
  refine lv_iload_n hx hb dX6_put_26 rfl (lv_at hl 0 rfl) ?_
  refine lv_iushr hx hb dX6_put_27 rfl ?_
  refine lv_topi (fun z27_3 _ => ?_)
  refine lv_i2b hx hb dX6_put_28 rfl ?_
  refine lv_topi (fun z28_3 _ => ?_)
  refine va_bast hx hb hK.1 hP hD hS 1 0 rfl rfl (vp_in_nI (n := 19) (by decide) (by decide)) dX6_put_29 (fun H locs hP hD hS => ?_)
  obtain ⟨f29_3, hP, hD⟩ : ∃ f29_3 : Nat → Int32, va_P D vwCl [((a 0), .inr (6, [.ref (a 1), .ref (ex 0), .int (vi 1), .int 19, .int 0, .int 0, .int 0, .int 0, .long 0, .int 0, .int 0, .int 0, .int 0, .int 0])), ((a 1), .inl (T 0, 940, .inl f29_3))] H ∧ va_D A [((a 0), .inr (6, [.ref (a 1), .ref (ex 0), .int (vi 1), .int 19, .int 0, .int 0, .int 0, .int 0, .long 0, .int 0, .int 0, .int 0, .int 0, .int 0])), ((a 1), .inl (T 0, 940, .inl f29_3))] := ⟨upd f29_2 (19 : Int32).toNatClampNeg (vp_nar .byte (z28_3 : Int32)), hP, hD⟩
  refine lv_aload_n hx hb dX6_put_30 rfl (lv_at hl 1 rfl) ?_
  refine lv_dup hx hb dX6_put_31 rfl ?_
  refine va_get (D := D) (ci := 6) (v := .int 19) (C := RX6) (T := TX6) (N := 14) hx hb htg inX6 hown hK.1 hP 0 rfl rfl 3 (by decide) (htg _ kw_98) (fun _ h9 => h9) rfl dX6_put_32 ?_
  refine lv_iconst (v := 1) hx hb dX6_put_35 (by decide) ?_
  refine lv_iadd hx hb dX6_put_36 ?_
  refine xz_i 20 (by decide) ?_
  refine va_put (D := D) (ci := 6) (v := .int 20) (ty := .int) (C := RX6) (T := TX6) (N := 14) hx hb htg inX6 tyX6 tyX6_ok nmX6 hown hK.1 hP hD hS 0 rfl rfl 3 (by decide) (htg _ kw_98) (fun _ h9 => h9) rfl (by decide +kernel) rfl rfl (Nat.le_of_ble_eq_true rfl) dX6_put_37 (fun H locs hP hD hS => ?_)
  replace hP : va_P D vwCl [((a 0), .inr (6, [.ref (a 1), .ref (ex 0), .int (vi 1), .int 20, .int 0, .int 0, .int 0, .int 0, .long 0, .int 0, .int 0, .int 0, .int 0, .int 0])), ((a 1), .inl (T 0, 940, .inl f29_3))] H := hP
  replace hD : va_D A [((a 0), .inr (6, [.ref (a 1), .ref (ex 0), .int (vi 1), .int 20, .int 0, .int 0, .int 0, .int 0, .long 0, .int 0, .int 0, .int 0, .int 0, .int 0])), ((a 1), .inl (T 0, 940, .inl f29_3))] := hD
  refine lv_iinc (v := (-8)) (lv' := [(2, .int (-8)), (0, .ref (a 0)), (1, .int (vi 0))]) hx hb dX6_put_40 hl (k := 0) rfl (by decide) (by decide) rfl (fun ls hl => ?_)
  refine lv_goto (tgt := 3) hx hb dX6_put_43 (by decide) ?_
  refine lv_iload_n hx hb dX6_put_3 rfl (lv_at hl 0 rfl) ?_
  refine lv_if_lt (tgt := 46) hx hb dX6_put_4 (by decide) (fun _ => ?_) (fun c => absurd (by decide) c)
  have hP9 := hP.sub (ws' := [((a 0), .inr (6, [.ref (a 1), .ref (ex 0), .int (vi 1), .int 20, .int 0, .int 0, .int 0, .int 0, .long 0, .int 0, .int 0, .int 0, .int 0, .int 0])), ((a 1), .inl (T 0, 940, .inl f29_3))]) [0, 1] rfl
  have hD9 := hD.sub (ws' := [((a 0), .inr (6, [.ref (a 1), .ref (ex 0), .int (vi 1), .int 20, .int 0, .int 0, .int 0, .int 0, .long 0, .int 0, .int 0, .int 0, .int 0, .int 0])), ((a 1), .inl (T 0, 940, .inl f29_3))]) [0, 1] (by decide +kernel) rfl
  rw [hQ]
  exact W.vret hx hb hr (fun t ht hW => ⟨⟨(), rfl, trivial, ⟨xa [], xf [f29_3], xh [], xv [], by rw [ht]; exact hP9, hD9, trivial⟩⟩, hS.F ht⟩) hS.2.2 dX6_put_46
abbrev pre_X11_feed (T : Nat → ClassId) (a ex : Nat → Nat) (fi : Nat → Nat → Int32) (fl : Nat → Nat → Int64) (vi : Nat → Int32) : va_W := [((a 0), .inr (11, [.ref (a 1), .ref (ex 0), .ref (ex 1), .ref (ex 2), .ref (ex 3), .ref (ex 4), .ref (ex 5), .ref (ex 6), .ref (ex 7), .ref (ex 8), .ref (ex 9), .ref (ex 10), .ref (ex 11), .ref (ex 12), .int 0])), ((a 1), .inr (6, [.ref (a 2), .ref (ex 13), .int (vi 5), .int 0, .int 0, .int 0, .int 0, .int 0, .long 0, .int 0, .int 0, .int 0, .int 0, .int 0])), ((a 2), .inl (T 0, 940, .inl (fun _ => 0)))]
set_option maxHeartbeats 4000000 in
set_option maxRecDepth 100000 in
theorem c_X11_feed (l : Launch) (D : va_G) (T : Nat → ClassId) (a ex : Nat → Nat) (fi : Nat → Nat → Int32) (fl : Nat → Nat → Int64) (vi : Nat → Int32) (sz : Nat) : Met l yX11_feed (xw yX11_feed cX11_feed 6 (some .int)) ({ frames := 1, cells := 0, slots := 0, locals := 26 }) (xP D T [.ref (a 0), .int (vi 0), .int (vi 1), .int (vi 2), .int (vi 3), .int (vi 4)] sz (pre_X11_feed T a ex fi fl vi)) (va_Qi (fun r (_ : Unit) => r = 20) (xB D (va_A (pre_X11_feed T a ex fi fl vi) sz) (fun _ => True) (fun b fj fm vj => [])) (va_A (pre_X11_feed T a ex fi fl vi) sz)) 0 0 (va_A (pre_X11_feed T a ex fi fl vi) sz) := by
  refine xofW (cc := cX11_feed) (maxL := 6) (ret := (some .int)) (by decide) rfl ?_
  intro p e s m args below meth c s₁ R Q hR hQ B hml hv
  obtain ⟨rfl, hsz, hP, hK, hD0⟩ := hv
  have hx := B.exec
  have hb := B.bytes
  have hr := B.returns
  have hts := atoms_spec (ws := xw yX11_feed cX11_feed 6 (some .int)) B.pre
  have htg : ∀ w ∈ xg, w.before _ s = true := fun w h => hts w (List.mem_cons_of_mem _ h)
  have hown : s.vm.findClass RX11 = some m.cls := findClass_of_methodNamed B.named
  have hlocks := B.notSynchronized
  subst hsz
  have hD := hD0.self (sz := s.heap.size)
  generalize hAe : va_A (pre_X11_feed T a ex fi fl vi) s.heap.size = A at hD hQ
  have hA : ∀ q : Nat, s.heap.size ≤ q → A q := fun q h => by rw [← hAe]; exact Or.inr h
  have hS : va_S A s.heap s.heap [] := va_S.rf
  replace hP : va_P D vwCl [((a 0), .inr (11, [.ref (a 1), .ref (ex 0), .ref (ex 1), .ref (ex 2), .ref (ex 3), .ref (ex 4), .ref (ex 5), .ref (ex 6), .ref (ex 7), .ref (ex 8), .ref (ex 9), .ref (ex 10), .ref (ex 11), .ref (ex 12), .int 0])), ((a 1), .inr (6, [.ref (a 2), .ref (ex 13), .int (vi 5), .int 0, .int 0, .int 0, .int 0, .int 0, .long 0, .int 0, .int 0, .int 0, .int 0, .int 0])), ((a 2), .inl (T 0, 940, .inl (fun _ => 0)))] s.heap := hP
  replace hD : va_D A [((a 0), .inr (11, [.ref (a 1), .ref (ex 0), .ref (ex 1), .ref (ex 2), .ref (ex 3), .ref (ex 4), .ref (ex 5), .ref (ex 6), .ref (ex 7), .ref (ex 8), .ref (ex 9), .ref (ex 10), .ref (ex 11), .ref (ex 12), .int 0])), ((a 1), .inr (6, [.ref (a 2), .ref (ex 13), .int (vi 5), .int 0, .int 0, .int 0, .int 0, .int 0, .long 0, .int 0, .int 0, .int 0, .int 0, .int 0])), ((a 2), .inl (T 0, 940, .inl (fun _ => 0)))] := hD
  have hl := lv_entry ([.ref (a 0), .int (vi 0), .int (vi 1), .int (vi 2), .int (vi 3), .int (vi 4)]) (n := 6) (Nat.le_of_ble_eq_true rfl)
  rw [lg_entry_eq]
  generalize (lg_sl ([.ref (a 0), .int (vi 0), .int (vi 1), .int (vi 2), .int (vi 3), .int (vi 4)]) ++ List.replicate (6 - (lg_sl ([.ref (a 0), .int (vi 0), .int (vi 1), .int (vi 2), .int (vi 3), .int (vi 4)])).length) Slot.unset).toArray = ls at hl ⊢
  replace hl : lv_has ls 6 [(0, .ref (a 0)), (1, .int (vi 0)), (2, .int (vi 1)), (3, .int (vi 2)), (4, .int (vi 3)), (5, .int (vi 4))] := hl
  refine lv_aload_n hx hb dX11_feed_0 rfl (lv_at hl 0 rfl) ?_
  refine va_get (D := D) (ci := 11) (v := .ref (a 1)) (C := RX11) (T := TX11) (N := 15) hx hb htg inX11 hown hK.1 hP 0 rfl rfl 0 (by decide) (htg _ kw_496) (fun _ h9 => h9) rfl dX11_feed_1 ?_
  refine lv_bipush (v := 20) hx hb dX11_feed_4 (by decide) ?_
  have hPc := hP.sub (ws' := (pre_X6_hasRoom T (xa [(a 1)]) (xa [(a 2), (ex 13)]) (xf []) (xh []) (xv [(vi 5)]))) [1] rfl
  have hDc := hD.sub (ws' := (pre_X6_hasRoom T (xa [(a 1)]) (xa [(a 2), (ex 13)]) (xf []) (xh []) (xv [(vi 5)]))) [1] (by decide) rfl
  have hFc := va_free (wc := (pre_X6_hasRoom T (xa [(a 1)]) (xa [(a 2), (ex 13)]) (xf []) (xh []) (xv [(vi 5)]))) hD hS hA [1] rfl
  refine va_calli (va_runVN (As := [.int 20]) (rest := []) ⟨hx, hb, hml, hown, htg⟩ (c_X6_hasRoom l D T (xa [(a 1)]) (xa [(a 2), (ex 13)]) (xf []) (xh []) (xv [(vi 5)]) s.heap.size) ⟨va_cnB 1 htg (xg_ok kw_549) rfl rfl rfl (hK.2.1 _ kn_546) (htg _ kw_2) (by decide +kernel) ⟨by rw [hR]; exact Nat.le_of_ble_eq_true rfl, by rw [hR]; exact Nat.le_of_ble_eq_true rfl⟩, htg _ kw_548, htg _ ks_1⟩ (xpreV hK hPc hDc (va_recv hK.1 hPc (ci := 6) (q0 := 0) rfl rfl)) rfl rfl hl.1 rfl (lv_room (Nat.le_of_ble_eq_true rfl)) dX11_feed_6 ⟨by rw [hR]; exact Nat.le_of_ble_eq_true rfl, by rw [hR]; exact Nat.le_of_ble_eq_true rfl⟩) hS (fun q _ h => hFc q h) hFc (fun r9 u t H1 locs ht hvm hw hB hz1 hk1 hS => ?_)
  obtain ⟨bk, fik, flk, vik, hP1, hD1, hGk⟩ := hB
  rw [ht] at hP1
  obtain ⟨hP, hD⟩ := va_join (wr := [((a 0), .inr (11, [.ref (a 1), .ref (ex 0), .ref (ex 1), .ref (ex 2), .ref (ex 3), .ref (ex 4), .ref (ex 5), .ref (ex 6), .ref (ex 7), .ref (ex 8), .ref (ex 9), .ref (ex 10), .ref (ex 11), .ref (ex 12), .int 0])), ((a 2), .inl (T 0, 940, .inl (fun _ => 0)))]) (w1 := [((a 1), .inr (6, [.ref (a 2), .ref (ex 13), .int (vi 5), .int 0, .int 0, .int 0, .int 0, .int 0, .long 0, .int 0, .int 0, .int 0, .int 0, .int 0]))]) hP hD [1] [0, 2] rfl rfl (by decide) (by decide) hk1 hFc hP1 hD1
  subst hw
  clear hPc hDc hFc hP1 hD1 hk1 hz1 hvm ht
  generalize H1 = H at hP hS ⊢
  replace hP : va_P D vwCl [((a 0), .inr (11, [.ref (a 1), .ref (ex 0), .ref (ex 1), .ref (ex 2), .ref (ex 3), .ref (ex 4), .ref (ex 5), .ref (ex 6), .ref (ex 7), .ref (ex 8), .ref (ex 9), .ref (ex 10), .ref (ex 11), .ref (ex 12), .int 0])), ((a 2), .inl (T 0, 940, .inl (fun _ => 0))), ((a 1), .inr (6, [.ref (a 2), .ref (ex 13), .int (vi 5), .int 0, .int 0, .int 0, .int 0, .int 0, .long 0, .int 0, .int 0, .int 0, .int 0, .int 0]))] H := hP
  replace hD : va_D A [((a 0), .inr (11, [.ref (a 1), .ref (ex 0), .ref (ex 1), .ref (ex 2), .ref (ex 3), .ref (ex 4), .ref (ex 5), .ref (ex 6), .ref (ex 7), .ref (ex 8), .ref (ex 9), .ref (ex 10), .ref (ex 11), .ref (ex 12), .int 0])), ((a 2), .inl (T 0, 940, .inl (fun _ => 0))), ((a 1), .inr (6, [.ref (a 2), .ref (ex 13), .int (vi 5), .int 0, .int 0, .int 0, .int 0, .int 0, .long 0, .int 0, .int 0, .int 0, .int 0, .int 0]))] := hD
  refine lv_if_ne (tgt := 14) hx hb dX11_feed_9 (by decide) (fun _ => ?_) (fun c => absurd c (by decide))
  refine lv_aload_n hx hb dX11_feed_14 rfl (lv_at hl 0 rfl) ?_
  refine va_get (D := D) (ci := 11) (v := .ref (a 1)) (C := RX11) (T := TX11) (N := 15) hx hb htg inX11 hown hK.1 hP 0 rfl rfl 0 (by decide) (htg _ kw_496) (fun _ h9 => h9) rfl dX11_feed_15 ?_
  refine lv_iload_n hx hb dX11_feed_18 rfl (lv_at hl 1 rfl) ?_
  have hPc := hP.sub (ws' := (pre_X6_put T (xa [(a 1), (a 2)]) (xa [(ex 13)]) (xf []) (xh []) (xv [(vi 0), (vi 5)]))) [2, 1] rfl
  have hDc := hD.sub (ws' := (pre_X6_put T (xa [(a 1), (a 2)]) (xa [(ex 13)]) (xf []) (xh []) (xv [(vi 0), (vi 5)]))) [2, 1] (by decide) rfl
  have hFc := va_free (wc := (pre_X6_put T (xa [(a 1), (a 2)]) (xa [(ex 13)]) (xf []) (xh []) (xv [(vi 0), (vi 5)]))) hD hS hA [2, 1] rfl
  refine va_callv (va_runVN (As := [.int (vi 0)]) (rest := []) ⟨hx, hb, hml, hown, htg⟩ (c_X6_put l D T (xa [(a 1), (a 2)]) (xa [(ex 13)]) (xf []) (xh []) (xv [(vi 0), (vi 5)]) H.size) ⟨va_cnB 1 htg (xg_ok kw_553) rfl rfl rfl (hK.2.1 _ kn_550) (htg _ kw_2) (by decide +kernel) ⟨by rw [hR]; exact Nat.le_of_ble_eq_true rfl, by rw [hR]; exact Nat.le_of_ble_eq_true rfl⟩, htg _ kw_552, htg _ ks_2⟩ (xpreV hK hPc hDc (va_recv hK.1 hPc (ci := 6) (q0 := 0) rfl rfl)) rfl rfl hl.1 rfl (lv_room (Nat.le_of_ble_eq_true rfl)) dX11_feed_19 ⟨by rw [hR]; exact Nat.le_of_ble_eq_true rfl, by rw [hR]; exact Nat.le_of_ble_eq_true rfl⟩) hS (fun q _ h => hFc q h) hFc (fun u t H1 locs ht hvm hw hB hz1 hk1 hS => ?_)
  obtain ⟨bk_1, fik_1, flk_1, vik_1, hP1, hD1, hGk_1⟩ := hB
  rw [ht] at hP1
  obtain ⟨hP, hD⟩ := va_join (wr := [((a 0), .inr (11, [.ref (a 1), .ref (ex 0), .ref (ex 1), .ref (ex 2), .ref (ex 3), .ref (ex 4), .ref (ex 5), .ref (ex 6), .ref (ex 7), .ref (ex 8), .ref (ex 9), .ref (ex 10), .ref (ex 11), .ref (ex 12), .int 0]))]) (w1 := [((a 1), .inr (6, [.ref (a 2), .ref (ex 13), .int (vi 5), .int 4, .int 0, .int 0, .int 0, .int 0, .long 0, .int 0, .int 0, .int 0, .int 0, .int 0])), ((a 2), .inl (T 0, 940, .inl (fik_1 0)))]) hP hD [2, 1] [0] rfl rfl (by decide) (by decide) hk1 hFc hP1 hD1
  clear hPc hDc hFc hP1 hD1 hk1 hz1 hvm ht hw
  generalize H1 = H at hP hS ⊢
  replace hP : va_P D vwCl [((a 0), .inr (11, [.ref (a 1), .ref (ex 0), .ref (ex 1), .ref (ex 2), .ref (ex 3), .ref (ex 4), .ref (ex 5), .ref (ex 6), .ref (ex 7), .ref (ex 8), .ref (ex 9), .ref (ex 10), .ref (ex 11), .ref (ex 12), .int 0])), ((a 1), .inr (6, [.ref (a 2), .ref (ex 13), .int (vi 5), .int 4, .int 0, .int 0, .int 0, .int 0, .long 0, .int 0, .int 0, .int 0, .int 0, .int 0])), ((a 2), .inl (T 0, 940, .inl (fik_1 0)))] H := hP
  replace hD : va_D A [((a 0), .inr (11, [.ref (a 1), .ref (ex 0), .ref (ex 1), .ref (ex 2), .ref (ex 3), .ref (ex 4), .ref (ex 5), .ref (ex 6), .ref (ex 7), .ref (ex 8), .ref (ex 9), .ref (ex 10), .ref (ex 11), .ref (ex 12), .int 0])), ((a 1), .inr (6, [.ref (a 2), .ref (ex 13), .int (vi 5), .int 4, .int 0, .int 0, .int 0, .int 0, .long 0, .int 0, .int 0, .int 0, .int 0, .int 0])), ((a 2), .inl (T 0, 940, .inl (fik_1 0)))] := hD
  refine lv_aload_n hx hb dX11_feed_22 rfl (lv_at hl 0 rfl) ?_
  refine va_get (D := D) (ci := 11) (v := .ref (a 1)) (C := RX11) (T := TX11) (N := 15) hx hb htg inX11 hown hK.1 hP 0 rfl rfl 0 (by decide) (htg _ kw_496) (fun _ h9 => h9) rfl dX11_feed_23 ?_
  refine lv_iload_n hx hb dX11_feed_26 rfl (lv_at hl 2 rfl) ?_
  have hPc := hP.sub (ws' := (pre_X6_put_2 T (xa [(a 1), (a 2)]) (xa [(ex 13)]) (xf [(fik_1 0)]) (xh []) (xv [(vi 1), (vi 5)]))) [1, 2] rfl
  have hDc := hD.sub (ws' := (pre_X6_put_2 T (xa [(a 1), (a 2)]) (xa [(ex 13)]) (xf [(fik_1 0)]) (xh []) (xv [(vi 1), (vi 5)]))) [1, 2] (by decide) rfl
  have hFc := va_free (wc := (pre_X6_put_2 T (xa [(a 1), (a 2)]) (xa [(ex 13)]) (xf [(fik_1 0)]) (xh []) (xv [(vi 1), (vi 5)]))) hD hS hA [1, 2] rfl
  refine va_callv (va_runVN (As := [.int (vi 1)]) (rest := []) ⟨hx, hb, hml, hown, htg⟩ (c_X6_put_2 l D T (xa [(a 1), (a 2)]) (xa [(ex 13)]) (xf [(fik_1 0)]) (xh []) (xv [(vi 1), (vi 5)]) H.size) ⟨va_cnB 1 htg (xg_ok kw_553) rfl rfl rfl (hK.2.1 _ kn_550) (htg _ kw_2) (by decide +kernel) ⟨by rw [hR]; exact Nat.le_of_ble_eq_true rfl, by rw [hR]; exact Nat.le_of_ble_eq_true rfl⟩, htg _ kw_552, htg _ ks_2⟩ (xpreV hK hPc hDc (va_recv hK.1 hPc (ci := 6) (q0 := 0) rfl rfl)) rfl rfl hl.1 rfl (lv_room (Nat.le_of_ble_eq_true rfl)) dX11_feed_27 ⟨by rw [hR]; exact Nat.le_of_ble_eq_true rfl, by rw [hR]; exact Nat.le_of_ble_eq_true rfl⟩) hS (fun q _ h => hFc q h) hFc (fun u t H1 locs ht hvm hw hB hz1 hk1 hS => ?_)
  obtain ⟨bk_2, fik_2, flk_2, vik_2, hP1, hD1, hGk_2⟩ := hB
  rw [ht] at hP1
  obtain ⟨hP, hD⟩ := va_join (wr := [((a 0), .inr (11, [.ref (a 1), .ref (ex 0), .ref (ex 1), .ref (ex 2), .ref (ex 3), .ref (ex 4), .ref (ex 5), .ref (ex 6), .ref (ex 7), .ref (ex 8), .ref (ex 9), .ref (ex 10), .ref (ex 11), .ref (ex 12), .int 0]))]) (w1 := [((a 1), .inr (6, [.ref (a 2), .ref (ex 13), .int (vi 5), .int 8, .int 0, .int 0, .int 0, .int 0, .long 0, .int 0, .int 0, .int 0, .int 0, .int 0])), ((a 2), .inl (T 0, 940, .inl (fik_2 0)))]) hP hD [1, 2] [0] rfl rfl (by decide) (by decide) hk1 hFc hP1 hD1
  clear hPc hDc hFc hP1 hD1 hk1 hz1 hvm ht hw
  generalize H1 = H at hP hS ⊢
  replace hP : va_P D vwCl [((a 0), .inr (11, [.ref (a 1), .ref (ex 0), .ref (ex 1), .ref (ex 2), .ref (ex 3), .ref (ex 4), .ref (ex 5), .ref (ex 6), .ref (ex 7), .ref (ex 8), .ref (ex 9), .ref (ex 10), .ref (ex 11), .ref (ex 12), .int 0])), ((a 1), .inr (6, [.ref (a 2), .ref (ex 13), .int (vi 5), .int 8, .int 0, .int 0, .int 0, .int 0, .long 0, .int 0, .int 0, .int 0, .int 0, .int 0])), ((a 2), .inl (T 0, 940, .inl (fik_2 0)))] H := hP
  replace hD : va_D A [((a 0), .inr (11, [.ref (a 1), .ref (ex 0), .ref (ex 1), .ref (ex 2), .ref (ex 3), .ref (ex 4), .ref (ex 5), .ref (ex 6), .ref (ex 7), .ref (ex 8), .ref (ex 9), .ref (ex 10), .ref (ex 11), .ref (ex 12), .int 0])), ((a 1), .inr (6, [.ref (a 2), .ref (ex 13), .int (vi 5), .int 8, .int 0, .int 0, .int 0, .int 0, .long 0, .int 0, .int 0, .int 0, .int 0, .int 0])), ((a 2), .inl (T 0, 940, .inl (fik_2 0)))] := hD
  refine lv_aload_n hx hb dX11_feed_30 rfl (lv_at hl 0 rfl) ?_
  refine va_get (D := D) (ci := 11) (v := .ref (a 1)) (C := RX11) (T := TX11) (N := 15) hx hb htg inX11 hown hK.1 hP 0 rfl rfl 0 (by decide) (htg _ kw_496) (fun _ h9 => h9) rfl dX11_feed_31 ?_
  refine lv_iload_n hx hb dX11_feed_34 rfl (lv_at hl 3 rfl) ?_
  have hPc := hP.sub (ws' := (pre_X6_put_3 T (xa [(a 1), (a 2)]) (xa [(ex 13)]) (xf [(fik_2 0)]) (xh []) (xv [(vi 2), (vi 5)]))) [1, 2] rfl
  have hDc := hD.sub (ws' := (pre_X6_put_3 T (xa [(a 1), (a 2)]) (xa [(ex 13)]) (xf [(fik_2 0)]) (xh []) (xv [(vi 2), (vi 5)]))) [1, 2] (by decide) rfl
  have hFc := va_free (wc := (pre_X6_put_3 T (xa [(a 1), (a 2)]) (xa [(ex 13)]) (xf [(fik_2 0)]) (xh []) (xv [(vi 2), (vi 5)]))) hD hS hA [1, 2] rfl
  refine va_callv (va_runVN (As := [.int (vi 2)]) (rest := []) ⟨hx, hb, hml, hown, htg⟩ (c_X6_put_3 l D T (xa [(a 1), (a 2)]) (xa [(ex 13)]) (xf [(fik_2 0)]) (xh []) (xv [(vi 2), (vi 5)]) H.size) ⟨va_cnB 1 htg (xg_ok kw_553) rfl rfl rfl (hK.2.1 _ kn_550) (htg _ kw_2) (by decide +kernel) ⟨by rw [hR]; exact Nat.le_of_ble_eq_true rfl, by rw [hR]; exact Nat.le_of_ble_eq_true rfl⟩, htg _ kw_552, htg _ ks_2⟩ (xpreV hK hPc hDc (va_recv hK.1 hPc (ci := 6) (q0 := 0) rfl rfl)) rfl rfl hl.1 rfl (lv_room (Nat.le_of_ble_eq_true rfl)) dX11_feed_35 ⟨by rw [hR]; exact Nat.le_of_ble_eq_true rfl, by rw [hR]; exact Nat.le_of_ble_eq_true rfl⟩) hS (fun q _ h => hFc q h) hFc (fun u t H1 locs ht hvm hw hB hz1 hk1 hS => ?_)
  obtain ⟨bk_3, fik_3, flk_3, vik_3, hP1, hD1, hGk_3⟩ := hB
  rw [ht] at hP1
  obtain ⟨hP, hD⟩ := va_join (wr := [((a 0), .inr (11, [.ref (a 1), .ref (ex 0), .ref (ex 1), .ref (ex 2), .ref (ex 3), .ref (ex 4), .ref (ex 5), .ref (ex 6), .ref (ex 7), .ref (ex 8), .ref (ex 9), .ref (ex 10), .ref (ex 11), .ref (ex 12), .int 0]))]) (w1 := [((a 1), .inr (6, [.ref (a 2), .ref (ex 13), .int (vi 5), .int 12, .int 0, .int 0, .int 0, .int 0, .long 0, .int 0, .int 0, .int 0, .int 0, .int 0])), ((a 2), .inl (T 0, 940, .inl (fik_3 0)))]) hP hD [1, 2] [0] rfl rfl (by decide) (by decide) hk1 hFc hP1 hD1
  clear hPc hDc hFc hP1 hD1 hk1 hz1 hvm ht hw
  generalize H1 = H at hP hS ⊢
  replace hP : va_P D vwCl [((a 0), .inr (11, [.ref (a 1), .ref (ex 0), .ref (ex 1), .ref (ex 2), .ref (ex 3), .ref (ex 4), .ref (ex 5), .ref (ex 6), .ref (ex 7), .ref (ex 8), .ref (ex 9), .ref (ex 10), .ref (ex 11), .ref (ex 12), .int 0])), ((a 1), .inr (6, [.ref (a 2), .ref (ex 13), .int (vi 5), .int 12, .int 0, .int 0, .int 0, .int 0, .long 0, .int 0, .int 0, .int 0, .int 0, .int 0])), ((a 2), .inl (T 0, 940, .inl (fik_3 0)))] H := hP
  replace hD : va_D A [((a 0), .inr (11, [.ref (a 1), .ref (ex 0), .ref (ex 1), .ref (ex 2), .ref (ex 3), .ref (ex 4), .ref (ex 5), .ref (ex 6), .ref (ex 7), .ref (ex 8), .ref (ex 9), .ref (ex 10), .ref (ex 11), .ref (ex 12), .int 0])), ((a 1), .inr (6, [.ref (a 2), .ref (ex 13), .int (vi 5), .int 12, .int 0, .int 0, .int 0, .int 0, .long 0, .int 0, .int 0, .int 0, .int 0, .int 0])), ((a 2), .inl (T 0, 940, .inl (fik_3 0)))] := hD
  refine lv_aload_n hx hb dX11_feed_38 rfl (lv_at hl 0 rfl) ?_
  refine va_get (D := D) (ci := 11) (v := .ref (a 1)) (C := RX11) (T := TX11) (N := 15) hx hb htg inX11 hown hK.1 hP 0 rfl rfl 0 (by decide) (htg _ kw_496) (fun _ h9 => h9) rfl dX11_feed_39 ?_
  refine lv_iload hx hb dX11_feed_42 (lv_at hl 4 rfl) ?_
  have hPc := hP.sub (ws' := (pre_X6_put_4 T (xa [(a 1), (a 2)]) (xa [(ex 13)]) (xf [(fik_3 0)]) (xh []) (xv [(vi 3), (vi 5)]))) [1, 2] rfl
  have hDc := hD.sub (ws' := (pre_X6_put_4 T (xa [(a 1), (a 2)]) (xa [(ex 13)]) (xf [(fik_3 0)]) (xh []) (xv [(vi 3), (vi 5)]))) [1, 2] (by decide) rfl
  have hFc := va_free (wc := (pre_X6_put_4 T (xa [(a 1), (a 2)]) (xa [(ex 13)]) (xf [(fik_3 0)]) (xh []) (xv [(vi 3), (vi 5)]))) hD hS hA [1, 2] rfl
  refine va_callv (va_runVN (As := [.int (vi 3)]) (rest := []) ⟨hx, hb, hml, hown, htg⟩ (c_X6_put_4 l D T (xa [(a 1), (a 2)]) (xa [(ex 13)]) (xf [(fik_3 0)]) (xh []) (xv [(vi 3), (vi 5)]) H.size) ⟨va_cnB 1 htg (xg_ok kw_553) rfl rfl rfl (hK.2.1 _ kn_550) (htg _ kw_2) (by decide +kernel) ⟨by rw [hR]; exact Nat.le_of_ble_eq_true rfl, by rw [hR]; exact Nat.le_of_ble_eq_true rfl⟩, htg _ kw_552, htg _ ks_2⟩ (xpreV hK hPc hDc (va_recv hK.1 hPc (ci := 6) (q0 := 0) rfl rfl)) rfl rfl hl.1 rfl (lv_room (Nat.le_of_ble_eq_true rfl)) dX11_feed_44 ⟨by rw [hR]; exact Nat.le_of_ble_eq_true rfl, by rw [hR]; exact Nat.le_of_ble_eq_true rfl⟩) hS (fun q _ h => hFc q h) hFc (fun u t H1 locs ht hvm hw hB hz1 hk1 hS => ?_)
  obtain ⟨bk_4, fik_4, flk_4, vik_4, hP1, hD1, hGk_4⟩ := hB
  rw [ht] at hP1
  obtain ⟨hP, hD⟩ := va_join (wr := [((a 0), .inr (11, [.ref (a 1), .ref (ex 0), .ref (ex 1), .ref (ex 2), .ref (ex 3), .ref (ex 4), .ref (ex 5), .ref (ex 6), .ref (ex 7), .ref (ex 8), .ref (ex 9), .ref (ex 10), .ref (ex 11), .ref (ex 12), .int 0]))]) (w1 := [((a 1), .inr (6, [.ref (a 2), .ref (ex 13), .int (vi 5), .int 16, .int 0, .int 0, .int 0, .int 0, .long 0, .int 0, .int 0, .int 0, .int 0, .int 0])), ((a 2), .inl (T 0, 940, .inl (fik_4 0)))]) hP hD [1, 2] [0] rfl rfl (by decide) (by decide) hk1 hFc hP1 hD1
  clear hPc hDc hFc hP1 hD1 hk1 hz1 hvm ht hw
  generalize H1 = H at hP hS ⊢
  replace hP : va_P D vwCl [((a 0), .inr (11, [.ref (a 1), .ref (ex 0), .ref (ex 1), .ref (ex 2), .ref (ex 3), .ref (ex 4), .ref (ex 5), .ref (ex 6), .ref (ex 7), .ref (ex 8), .ref (ex 9), .ref (ex 10), .ref (ex 11), .ref (ex 12), .int 0])), ((a 1), .inr (6, [.ref (a 2), .ref (ex 13), .int (vi 5), .int 16, .int 0, .int 0, .int 0, .int 0, .long 0, .int 0, .int 0, .int 0, .int 0, .int 0])), ((a 2), .inl (T 0, 940, .inl (fik_4 0)))] H := hP
  replace hD : va_D A [((a 0), .inr (11, [.ref (a 1), .ref (ex 0), .ref (ex 1), .ref (ex 2), .ref (ex 3), .ref (ex 4), .ref (ex 5), .ref (ex 6), .ref (ex 7), .ref (ex 8), .ref (ex 9), .ref (ex 10), .ref (ex 11), .ref (ex 12), .int 0])), ((a 1), .inr (6, [.ref (a 2), .ref (ex 13), .int (vi 5), .int 16, .int 0, .int 0, .int 0, .int 0, .long 0, .int 0, .int 0, .int 0, .int 0, .int 0])), ((a 2), .inl (T 0, 940, .inl (fik_4 0)))] := hD
  refine lv_aload_n hx hb dX11_feed_47 rfl (lv_at hl 0 rfl) ?_
  refine va_get (D := D) (ci := 11) (v := .ref (a 1)) (C := RX11) (T := TX11) (N := 15) hx hb htg inX11 hown hK.1 hP 0 rfl rfl 0 (by decide) (htg _ kw_496) (fun _ h9 => h9) rfl dX11_feed_48 ?_
  refine lv_iload hx hb dX11_feed_51 (lv_at hl 5 rfl) ?_
  have hPc := hP.sub (ws' := (pre_X6_put_5 T (xa [(a 1), (a 2)]) (xa [(ex 13)]) (xf [(fik_4 0)]) (xh []) (xv [(vi 4), (vi 5)]))) [1, 2] rfl
  have hDc := hD.sub (ws' := (pre_X6_put_5 T (xa [(a 1), (a 2)]) (xa [(ex 13)]) (xf [(fik_4 0)]) (xh []) (xv [(vi 4), (vi 5)]))) [1, 2] (by decide) rfl
  have hFc := va_free (wc := (pre_X6_put_5 T (xa [(a 1), (a 2)]) (xa [(ex 13)]) (xf [(fik_4 0)]) (xh []) (xv [(vi 4), (vi 5)]))) hD hS hA [1, 2] rfl
  refine va_callv (va_runVN (As := [.int (vi 4)]) (rest := []) ⟨hx, hb, hml, hown, htg⟩ (c_X6_put_5 l D T (xa [(a 1), (a 2)]) (xa [(ex 13)]) (xf [(fik_4 0)]) (xh []) (xv [(vi 4), (vi 5)]) H.size) ⟨va_cnB 1 htg (xg_ok kw_553) rfl rfl rfl (hK.2.1 _ kn_550) (htg _ kw_2) (by decide +kernel) ⟨by rw [hR]; exact Nat.le_of_ble_eq_true rfl, by rw [hR]; exact Nat.le_of_ble_eq_true rfl⟩, htg _ kw_552, htg _ ks_2⟩ (xpreV hK hPc hDc (va_recv hK.1 hPc (ci := 6) (q0 := 0) rfl rfl)) rfl rfl hl.1 rfl (lv_room (Nat.le_of_ble_eq_true rfl)) dX11_feed_53 ⟨by rw [hR]; exact Nat.le_of_ble_eq_true rfl, by rw [hR]; exact Nat.le_of_ble_eq_true rfl⟩) hS (fun q _ h => hFc q h) hFc (fun u t H1 locs ht hvm hw hB hz1 hk1 hS => ?_)
  obtain ⟨bk_5, fik_5, flk_5, vik_5, hP1, hD1, hGk_5⟩ := hB
  rw [ht] at hP1
  obtain ⟨hP, hD⟩ := va_join (wr := [((a 0), .inr (11, [.ref (a 1), .ref (ex 0), .ref (ex 1), .ref (ex 2), .ref (ex 3), .ref (ex 4), .ref (ex 5), .ref (ex 6), .ref (ex 7), .ref (ex 8), .ref (ex 9), .ref (ex 10), .ref (ex 11), .ref (ex 12), .int 0]))]) (w1 := [((a 1), .inr (6, [.ref (a 2), .ref (ex 13), .int (vi 5), .int 20, .int 0, .int 0, .int 0, .int 0, .long 0, .int 0, .int 0, .int 0, .int 0, .int 0])), ((a 2), .inl (T 0, 940, .inl (fik_5 0)))]) hP hD [1, 2] [0] rfl rfl (by decide) (by decide) hk1 hFc hP1 hD1
  clear hPc hDc hFc hP1 hD1 hk1 hz1 hvm ht hw
  generalize H1 = H at hP hS ⊢
  replace hP : va_P D vwCl [((a 0), .inr (11, [.ref (a 1), .ref (ex 0), .ref (ex 1), .ref (ex 2), .ref (ex 3), .ref (ex 4), .ref (ex 5), .ref (ex 6), .ref (ex 7), .ref (ex 8), .ref (ex 9), .ref (ex 10), .ref (ex 11), .ref (ex 12), .int 0])), ((a 1), .inr (6, [.ref (a 2), .ref (ex 13), .int (vi 5), .int 20, .int 0, .int 0, .int 0, .int 0, .long 0, .int 0, .int 0, .int 0, .int 0, .int 0])), ((a 2), .inl (T 0, 940, .inl (fik_5 0)))] H := hP
  replace hD : va_D A [((a 0), .inr (11, [.ref (a 1), .ref (ex 0), .ref (ex 1), .ref (ex 2), .ref (ex 3), .ref (ex 4), .ref (ex 5), .ref (ex 6), .ref (ex 7), .ref (ex 8), .ref (ex 9), .ref (ex 10), .ref (ex 11), .ref (ex 12), .int 0])), ((a 1), .inr (6, [.ref (a 2), .ref (ex 13), .int (vi 5), .int 20, .int 0, .int 0, .int 0, .int 0, .long 0, .int 0, .int 0, .int 0, .int 0, .int 0])), ((a 2), .inl (T 0, 940, .inl (fik_5 0)))] := hD
  refine lv_aload_n hx hb dX11_feed_56 rfl (lv_at hl 0 rfl) ?_
  refine va_get (D := D) (ci := 11) (v := .ref (a 1)) (C := RX11) (T := TX11) (N := 15) hx hb htg inX11 hown hK.1 hP 0 rfl rfl 0 (by decide) (htg _ kw_496) (fun _ h9 => h9) rfl dX11_feed_57 ?_
  refine va_getN (D := D) (ci := 6) (v := .int 20) (C := RX6) (T := TX6) (N := 14) hx hb htg inX6 hown hK.1 hP 1 rfl rfl 3 (by decide) (va_Nw.use rfl (hK.2.1 _ kn_97)) (fun _ h9 => h9) rfl dX11_feed_60 ?_
  have hP9 := hP.sub (ws' := []) [] rfl
  have hD9 := hD.sub (ws' := []) [] (by decide) rfl
  rw [hQ]
  exact W.iret (v := 20) hx hb hr (fun t ht hW => ⟨⟨20, (), rfl, rfl, ⟨xa [], xf [], xh [], xv [], by rw [ht]; exact hP9, hD9, trivial⟩⟩, hS.F ht⟩) hS.2.2 dX11_feed_63
abbrev pre_X11_end (T : Nat → ClassId) (a ex : Nat → Nat) (fi : Nat → Nat → Int32) (fl : Nat → Nat → Int64) (vi : Nat → Int32) : va_W := [((a 0), .inr (11, [.ref (a 1), .ref (ex 0), .ref (ex 1), .ref (ex 2), .ref (ex 3), .ref (ex 4), .ref (ex 5), .ref (ex 6), .ref (ex 7), .ref (ex 8), .ref (ex 9), .ref (ex 10), .ref (ex 11), .ref (ex 12), .int 0])), ((a 1), .inr (6, [.ref (ex 13), .ref (ex 14), .int (vi 0), .int 0, .int 0, .int 0, .int 0, .int 0, .long 0, .int 0, .int 0, .int 0, .int 0, .int 0]))]
set_option maxHeartbeats 4000000 in
set_option maxRecDepth 100000 in
theorem c_X11_end (l : Launch) (D : va_G) (T : Nat → ClassId) (a ex : Nat → Nat) (fi : Nat → Nat → Int32) (fl : Nat → Nat → Int64) (vi : Nat → Int32) (sz : Nat) : Met l yX11_end (xw yX11_end cX11_end 2 (some .boolean)) ({ frames := 0, cells := 0, slots := 0, locals := 0 }) (xP D T [.ref (a 0), .int 0] sz (pre_X11_end T a ex fi fl vi)) (va_Qi (fun r (_ : Unit) => r = 1) (xB D (va_A (pre_X11_end T a ex fi fl vi) sz) (fun _ => True) (fun b fj fm vj => [])) (va_A (pre_X11_end T a ex fi fl vi) sz)) 0 0 (va_A (pre_X11_end T a ex fi fl vi) sz) := by
  refine xofW (cc := cX11_end) (maxL := 2) (ret := (some .boolean)) (by decide) rfl ?_
  intro p e s m args below meth c s₁ R Q hR hQ B hml hv
  obtain ⟨rfl, hsz, hP, hK, hD0⟩ := hv
  have hx := B.exec
  have hb := B.bytes
  have hr := B.returns
  have hts := atoms_spec (ws := xw yX11_end cX11_end 2 (some .boolean)) B.pre
  have htg : ∀ w ∈ xg, w.before _ s = true := fun w h => hts w (List.mem_cons_of_mem _ h)
  have hown : s.vm.findClass RX11 = some m.cls := findClass_of_methodNamed B.named
  have hlocks := B.notSynchronized
  subst hsz
  have hD := hD0.self (sz := s.heap.size)
  generalize hAe : va_A (pre_X11_end T a ex fi fl vi) s.heap.size = A at hD hQ
  have hA : ∀ q : Nat, s.heap.size ≤ q → A q := fun q h => by rw [← hAe]; exact Or.inr h
  have hS : va_S A s.heap s.heap [] := va_S.rf
  replace hP : va_P D vwCl [((a 0), .inr (11, [.ref (a 1), .ref (ex 0), .ref (ex 1), .ref (ex 2), .ref (ex 3), .ref (ex 4), .ref (ex 5), .ref (ex 6), .ref (ex 7), .ref (ex 8), .ref (ex 9), .ref (ex 10), .ref (ex 11), .ref (ex 12), .int 0])), ((a 1), .inr (6, [.ref (ex 13), .ref (ex 14), .int (vi 0), .int 0, .int 0, .int 0, .int 0, .int 0, .long 0, .int 0, .int 0, .int 0, .int 0, .int 0]))] s.heap := hP
  replace hD : va_D A [((a 0), .inr (11, [.ref (a 1), .ref (ex 0), .ref (ex 1), .ref (ex 2), .ref (ex 3), .ref (ex 4), .ref (ex 5), .ref (ex 6), .ref (ex 7), .ref (ex 8), .ref (ex 9), .ref (ex 10), .ref (ex 11), .ref (ex 12), .int 0])), ((a 1), .inr (6, [.ref (ex 13), .ref (ex 14), .int (vi 0), .int 0, .int 0, .int 0, .int 0, .int 0, .long 0, .int 0, .int 0, .int 0, .int 0, .int 0]))] := hD
  have hl := lv_entry ([.ref (a 0), .int 0]) (n := 2) (Nat.le_of_ble_eq_true rfl)
  rw [lg_entry_eq]
  generalize (lg_sl ([.ref (a 0), .int 0]) ++ List.replicate (2 - (lg_sl ([.ref (a 0), .int 0])).length) Slot.unset).toArray = ls at hl ⊢
  replace hl : lv_has ls 2 [(0, .ref (a 0)), (1, .int 0)] := hl
  refine lv_iload_n hx hb dX11_end_0 rfl (lv_at hl 1 rfl) ?_
  refine lv_if_lt (tgt := 15) hx hb dX11_end_1 (by decide) (fun c => absurd c (by decide)) (fun _ => ?_)
  refine lv_iload_n hx hb dX11_end_4 rfl (lv_at hl 1 rfl) ?_
  refine lv_aload_n hx hb dX11_end_5 rfl (lv_at hl 0 rfl) ?_
  refine va_get (D := D) (ci := 11) (v := .ref (a 1)) (C := RX11) (T := TX11) (N := 15) hx hb htg inX11 hown hK.1 hP 0 rfl rfl 0 (by decide) (htg _ kw_496) (fun _ h9 => h9) rfl dX11_end_6 ?_
  refine va_getN (D := D) (ci := 6) (v := .int 0) (C := RX6) (T := TX6) (N := 14) hx hb htg inX6 hown hK.1 hP 1 rfl rfl 3 (by decide) (va_Nw.use rfl (hK.2.1 _ kn_97)) (fun _ h9 => h9) rfl dX11_end_9 ?_
  refine lv_icmp_le (tgt := 17) hx hb dX11_end_12 (by decide) (fun _ => ?_) (fun c => absurd (by decide) c)
  refine lv_aload_n hx hb dX11_end_17 rfl (lv_at hl 0 rfl) ?_
  refine va_get (D := D) (ci := 11) (v := .ref (a 1)) (C := RX11) (T := TX11) (N := 15) hx hb htg inX11 hown hK.1 hP 0 rfl rfl 0 (by decide) (htg _ kw_496) (fun _ h9 => h9) rfl dX11_end_18 ?_
  refine lv_iload_n hx hb dX11_end_21 rfl (lv_at hl 1 rfl) ?_
  refine va_putN (D := D) (ci := 6) (v := .int 0) (ty := .int) (C := RX6) (T := TX6) (N := 14) hx hb htg inX6 tyX6 tyX6_ok nmX6 hown hK.1 hP hD hS 1 rfl rfl 3 (by decide) (va_Nw.use rfl (hK.2.1 _ kn_97)) (fun _ h9 => h9) rfl (by decide +kernel) rfl rfl (Nat.le_of_ble_eq_true rfl) dX11_end_22 (fun H locs hP hD hS => ?_)
  replace hP : va_P D vwCl [((a 0), .inr (11, [.ref (a 1), .ref (ex 0), .ref (ex 1), .ref (ex 2), .ref (ex 3), .ref (ex 4), .ref (ex 5), .ref (ex 6), .ref (ex 7), .ref (ex 8), .ref (ex 9), .ref (ex 10), .ref (ex 11), .ref (ex 12), .int 0])), ((a 1), .inr (6, [.ref (ex 13), .ref (ex 14), .int (vi 0), .int 0, .int 0, .int 0, .int 0, .int 0, .long 0, .int 0, .int 0, .int 0, .int 0, .int 0]))] H := hP
  replace hD : va_D A [((a 0), .inr (11, [.ref (a 1), .ref (ex 0), .ref (ex 1), .ref (ex 2), .ref (ex 3), .ref (ex 4), .ref (ex 5), .ref (ex 6), .ref (ex 7), .ref (ex 8), .ref (ex 9), .ref (ex 10), .ref (ex 11), .ref (ex 12), .int 0])), ((a 1), .inr (6, [.ref (ex 13), .ref (ex 14), .int (vi 0), .int 0, .int 0, .int 0, .int 0, .int 0, .long 0, .int 0, .int 0, .int 0, .int 0, .int 0]))] := hD
  refine lv_iconst (v := 1) hx hb dX11_end_25 (by decide) ?_
  have hP9 := hP.sub (ws' := []) [] rfl
  have hD9 := hD.sub (ws' := []) [] (by decide) rfl
  rw [hQ]
  exact W.zret (v := 1) hx hb hr rfl (fun t ht hW => ⟨⟨1, (), rfl, rfl, ⟨xa [], xf [], xh [], xv [], by rw [ht]; exact hP9, hD9, trivial⟩⟩, hS.F ht⟩) hS.2.2 dX11_end_26
abbrev pre_X11_end_2 (T : Nat → ClassId) (a ex : Nat → Nat) (fi : Nat → Nat → Int32) (fl : Nat → Nat → Int64) (vi : Nat → Int32) : va_W := [((a 0), .inr (11, [.ref (a 1), .ref (ex 0), .ref (ex 1), .ref (ex 2), .ref (ex 3), .ref (ex 4), .ref (ex 5), .ref (ex 6), .ref (ex 7), .ref (ex 8), .ref (ex 9), .ref (ex 10), .ref (ex 11), .ref (ex 12), .int 0])), ((a 1), .inr (6, [.ref (ex 13), .ref (ex 14), .int (vi 1), .int 0, .int 0, .int 0, .int 0, .int 0, .long 0, .int 0, .int 0, .int 0, .int 0, .int 0]))]
set_option maxHeartbeats 4000000 in
set_option maxRecDepth 100000 in
theorem c_X11_end_2 (l : Launch) (D : va_G) (T : Nat → ClassId) (a ex : Nat → Nat) (fi : Nat → Nat → Int32) (fl : Nat → Nat → Int64) (vi : Nat → Int32) (sz : Nat) (hd0 : (vi 0).toInt ≤ -1 ∨ 1 ≤ (vi 0).toInt) : Met l yX11_end (xw yX11_end cX11_end 2 (some .boolean)) ({ frames := 0, cells := 0, slots := 0, locals := 0 }) (xP D T [.ref (a 0), .int (vi 0)] sz (pre_X11_end_2 T a ex fi fl vi)) (va_Qi (fun r (_ : Unit) => r = 0) (xB D (va_A (pre_X11_end_2 T a ex fi fl vi) sz) (fun _ => True) (fun b fj fm vj => [])) (va_A (pre_X11_end_2 T a ex fi fl vi) sz)) 0 0 (va_A (pre_X11_end_2 T a ex fi fl vi) sz) := by
  refine xofW (cc := cX11_end) (maxL := 2) (ret := (some .boolean)) (by decide) rfl ?_
  intro p e s m args below meth c s₁ R Q hR hQ B hml hv
  obtain ⟨rfl, hsz, hP, hK, hD0⟩ := hv
  have hx := B.exec
  have hb := B.bytes
  have hr := B.returns
  have hts := atoms_spec (ws := xw yX11_end cX11_end 2 (some .boolean)) B.pre
  have htg : ∀ w ∈ xg, w.before _ s = true := fun w h => hts w (List.mem_cons_of_mem _ h)
  have hown : s.vm.findClass RX11 = some m.cls := findClass_of_methodNamed B.named
  have hlocks := B.notSynchronized
  subst hsz
  have hD := hD0.self (sz := s.heap.size)
  generalize hAe : va_A (pre_X11_end_2 T a ex fi fl vi) s.heap.size = A at hD hQ
  have hA : ∀ q : Nat, s.heap.size ≤ q → A q := fun q h => by rw [← hAe]; exact Or.inr h
  have hS : va_S A s.heap s.heap [] := va_S.rf
  replace hP : va_P D vwCl [((a 0), .inr (11, [.ref (a 1), .ref (ex 0), .ref (ex 1), .ref (ex 2), .ref (ex 3), .ref (ex 4), .ref (ex 5), .ref (ex 6), .ref (ex 7), .ref (ex 8), .ref (ex 9), .ref (ex 10), .ref (ex 11), .ref (ex 12), .int 0])), ((a 1), .inr (6, [.ref (ex 13), .ref (ex 14), .int (vi 1), .int 0, .int 0, .int 0, .int 0, .int 0, .long 0, .int 0, .int 0, .int 0, .int 0, .int 0]))] s.heap := hP
  replace hD : va_D A [((a 0), .inr (11, [.ref (a 1), .ref (ex 0), .ref (ex 1), .ref (ex 2), .ref (ex 3), .ref (ex 4), .ref (ex 5), .ref (ex 6), .ref (ex 7), .ref (ex 8), .ref (ex 9), .ref (ex 10), .ref (ex 11), .ref (ex 12), .int 0])), ((a 1), .inr (6, [.ref (ex 13), .ref (ex 14), .int (vi 1), .int 0, .int 0, .int 0, .int 0, .int 0, .long 0, .int 0, .int 0, .int 0, .int 0, .int 0]))] := hD
  have hl := lv_entry ([.ref (a 0), .int (vi 0)]) (n := 2) (Nat.le_of_ble_eq_true rfl)
  rw [lg_entry_eq]
  generalize (lg_sl ([.ref (a 0), .int (vi 0)]) ++ List.replicate (2 - (lg_sl ([.ref (a 0), .int (vi 0)])).length) Slot.unset).toArray = ls at hl ⊢
  replace hl : lv_has ls 2 [(0, .ref (a 0)), (1, .int (vi 0))] := hl
  refine lv_iload_n hx hb dX11_end_0 rfl (lv_at hl 1 rfl) ?_
  refine lv_if_lt (tgt := 15) hx hb dX11_end_1 (by decide) (fun c1 => ?_) (fun c1 => ?_)
  · have c1 := xlt (k := 0) (by decide) c1
    refine lv_iconst (v := 0) hx hb dX11_end_15 (by decide) ?_
    have hP9 := hP.sub (ws' := []) [] rfl
    have hD9 := hD.sub (ws' := []) [] (by decide) rfl
    rw [hQ]
    exact W.zret (v := 0) hx hb hr rfl (fun t ht hW => ⟨⟨0, (), rfl, rfl, ⟨xa [], xf [], xh [], xv [], by rw [ht]; exact hP9, hD9, trivial⟩⟩, hS.F ht⟩) hS.2.2 dX11_end_16
  · have c1 := xnlt (k := 0) (by decide) c1
    refine lv_iload_n hx hb dX11_end_4 rfl (lv_at hl 1 rfl) ?_
    refine lv_aload_n hx hb dX11_end_5 rfl (lv_at hl 0 rfl) ?_
    refine va_get (D := D) (ci := 11) (v := .ref (a 1)) (C := RX11) (T := TX11) (N := 15) hx hb htg inX11 hown hK.1 hP 0 rfl rfl 0 (by decide) (htg _ kw_496) (fun _ h9 => h9) rfl dX11_end_6 ?_
    refine va_getN (D := D) (ci := 6) (v := .int 0) (C := RX6) (T := TX6) (N := 14) hx hb htg inX6 hown hK.1 hP 1 rfl rfl 3 (by decide) (va_Nw.use rfl (hK.2.1 _ kn_97)) (fun _ h9 => h9) rfl dX11_end_9 ?_
    refine lv_icmp_le (tgt := 17) hx hb dX11_end_12 (by decide) (fun c => by exfalso; have h9 := xle (k := 0) (by decide) c; omega) (fun _ => ?_)
    refine lv_iconst (v := 0) hx hb dX11_end_15 (by decide) ?_
    have hP9 := hP.sub (ws' := []) [] rfl
    have hD9 := hD.sub (ws' := []) [] (by decide) rfl
    rw [hQ]
    exact W.zret (v := 0) hx hb hr rfl (fun t ht hW => ⟨⟨0, (), rfl, rfl, ⟨xa [], xf [], xh [], xv [], by rw [ht]; exact hP9, hD9, trivial⟩⟩, hS.F ht⟩) hS.2.2 dX11_end_16
abbrev pre_X7_clear (T : Nat → ClassId) (a ex : Nat → Nat) (fi : Nat → Nat → Int32) (fl : Nat → Nat → Int64) (vi : Nat → Int32) : va_W := [((a 0), .inr (7, [.int 0, .int 0, .ref (ex 0), .ref (ex 1), .ref (ex 2), .ref (ex 3), .ref (ex 4), .ref (ex 5), .ref (ex 6), .ref (ex 7), .ref (ex 8), .ref (ex 9)]))]
set_option maxHeartbeats 4000000 in
set_option maxRecDepth 100000 in
theorem c_X7_clear (l : Launch) (D : va_G) (T : Nat → ClassId) (a ex : Nat → Nat) (fi : Nat → Nat → Int32) (fl : Nat → Nat → Int64) (vi : Nat → Int32) (sz : Nat) : Met l yX7_clear (xw yX7_clear cX7_clear 1 none) ({ frames := 0, cells := 0, slots := 0, locals := 0 }) (xP D T [.ref (a 0)] sz (pre_X7_clear T a ex fi fl vi)) (va_Qv (fun _ : Unit => True) (xB D (va_A (pre_X7_clear T a ex fi fl vi) sz) (fun _ => True) (fun b fj fm vj => [((a 0), .inr (7, [.int 0, .int 0, .ref (ex 0), .ref (ex 1), .ref (ex 2), .ref (ex 3), .ref (ex 4), .ref (ex 5), .ref (ex 6), .ref (ex 7), .ref (ex 8), .ref (ex 9)]))])) (va_A (pre_X7_clear T a ex fi fl vi) sz)) 0 0 (va_A (pre_X7_clear T a ex fi fl vi) sz) := by
  refine xofW (cc := cX7_clear) (maxL := 1) (ret := none) (by decide) rfl ?_
  intro p e s m args below meth c s₁ R Q hR hQ B hml hv
  obtain ⟨rfl, hsz, hP, hK, hD0⟩ := hv
  have hx := B.exec
  have hb := B.bytes
  have hr := B.returns
  have hts := atoms_spec (ws := xw yX7_clear cX7_clear 1 none) B.pre
  have htg : ∀ w ∈ xg, w.before _ s = true := fun w h => hts w (List.mem_cons_of_mem _ h)
  have hown : s.vm.findClass RX7 = some m.cls := findClass_of_methodNamed B.named
  have hlocks := B.notSynchronized
  subst hsz
  have hD := hD0.self (sz := s.heap.size)
  generalize hAe : va_A (pre_X7_clear T a ex fi fl vi) s.heap.size = A at hD hQ
  have hA : ∀ q : Nat, s.heap.size ≤ q → A q := fun q h => by rw [← hAe]; exact Or.inr h
  have hS : va_S A s.heap s.heap [] := va_S.rf
  replace hP : va_P D vwCl [((a 0), .inr (7, [.int 0, .int 0, .ref (ex 0), .ref (ex 1), .ref (ex 2), .ref (ex 3), .ref (ex 4), .ref (ex 5), .ref (ex 6), .ref (ex 7), .ref (ex 8), .ref (ex 9)]))] s.heap := hP
  replace hD : va_D A [((a 0), .inr (7, [.int 0, .int 0, .ref (ex 0), .ref (ex 1), .ref (ex 2), .ref (ex 3), .ref (ex 4), .ref (ex 5), .ref (ex 6), .ref (ex 7), .ref (ex 8), .ref (ex 9)]))] := hD
  have hl := lv_entry ([.ref (a 0)]) (n := 1) (Nat.le_of_ble_eq_true rfl)
  rw [lg_entry_eq]
  generalize (lg_sl ([.ref (a 0)]) ++ List.replicate (1 - (lg_sl ([.ref (a 0)])).length) Slot.unset).toArray = ls at hl ⊢
  replace hl : lv_has ls 1 [(0, .ref (a 0))] := hl
  refine lv_aload_n hx hb dX7_clear_0 rfl (lv_at hl 0 rfl) ?_
  refine lv_iconst (v := 0) hx hb dX7_clear_1 (by decide) ?_
  refine va_put (D := D) (ci := 7) (v := .int 0) (ty := .int) (C := RX7) (T := TX7) (N := 12) hx hb htg inX7 tyX7 tyX7_ok nmX7 hown hK.1 hP hD hS 0 rfl rfl 0 (by decide) (htg _ kw_158) (fun _ h9 => h9) rfl (by decide +kernel) rfl rfl (Nat.le_of_ble_eq_true rfl) dX7_clear_2 (fun H locs hP hD hS => ?_)
  replace hP : va_P D vwCl [((a 0), .inr (7, [.int 0, .int 0, .ref (ex 0), .ref (ex 1), .ref (ex 2), .ref (ex 3), .ref (ex 4), .ref (ex 5), .ref (ex 6), .ref (ex 7), .ref (ex 8), .ref (ex 9)]))] H := hP
  replace hD : va_D A [((a 0), .inr (7, [.int 0, .int 0, .ref (ex 0), .ref (ex 1), .ref (ex 2), .ref (ex 3), .ref (ex 4), .ref (ex 5), .ref (ex 6), .ref (ex 7), .ref (ex 8), .ref (ex 9)]))] := hD
  refine lv_aload_n hx hb dX7_clear_5 rfl (lv_at hl 0 rfl) ?_
  refine lv_iconst (v := 0) hx hb dX7_clear_6 (by decide) ?_
  refine va_put (D := D) (ci := 7) (v := .int 0) (ty := .int) (C := RX7) (T := TX7) (N := 12) hx hb htg inX7 tyX7 tyX7_ok nmX7 hown hK.1 hP hD hS 0 rfl rfl 1 (by decide) (htg _ kw_163) (fun _ h9 => h9) rfl (by decide +kernel) rfl rfl (Nat.le_of_ble_eq_true rfl) dX7_clear_7 (fun H locs hP hD hS => ?_)
  replace hP : va_P D vwCl [((a 0), .inr (7, [.int 0, .int 0, .ref (ex 0), .ref (ex 1), .ref (ex 2), .ref (ex 3), .ref (ex 4), .ref (ex 5), .ref (ex 6), .ref (ex 7), .ref (ex 8), .ref (ex 9)]))] H := hP
  replace hD : va_D A [((a 0), .inr (7, [.int 0, .int 0, .ref (ex 0), .ref (ex 1), .ref (ex 2), .ref (ex 3), .ref (ex 4), .ref (ex 5), .ref (ex 6), .ref (ex 7), .ref (ex 8), .ref (ex 9)]))] := hD
  have hP9 := hP.sub (ws' := [((a 0), .inr (7, [.int 0, .int 0, .ref (ex 0), .ref (ex 1), .ref (ex 2), .ref (ex 3), .ref (ex 4), .ref (ex 5), .ref (ex 6), .ref (ex 7), .ref (ex 8), .ref (ex 9)]))]) [0] rfl
  have hD9 := hD.sub (ws' := [((a 0), .inr (7, [.int 0, .int 0, .ref (ex 0), .ref (ex 1), .ref (ex 2), .ref (ex 3), .ref (ex 4), .ref (ex 5), .ref (ex 6), .ref (ex 7), .ref (ex 8), .ref (ex 9)]))]) [0] (by decide +kernel) rfl
  rw [hQ]
  exact W.vret hx hb hr (fun t ht hW => ⟨⟨(), rfl, trivial, ⟨xa [], xf [], xh [], xv [], by rw [ht]; exact hP9, hD9, trivial⟩⟩, hS.F ht⟩) hS.2.2 dX7_clear_10
abbrev pre_X6_advance (T : Nat → ClassId) (a ex : Nat → Nat) (fi : Nat → Nat → Int32) (fl : Nat → Nat → Int64) (vi : Nat → Int32) : va_W := [((a 0), .inr (6, [.ref (ex 0), .ref (ex 1), .int (vi 0), .int 0, .int 900, .int 0, .int 0, .int 0, .long 0, .int 0, .int 0, .int 0, .int 0, .int 0]))]
set_option maxHeartbeats 4000000 in
set_option maxRecDepth 100000 in
theorem c_X6_advance (l : Launch) (D : va_G) (T : Nat → ClassId) (a ex : Nat → Nat) (fi : Nat → Nat → Int32) (fl : Nat → Nat → Int64) (vi : Nat → Int32) (sz : Nat) : Met l yX6_advance (xw yX6_advance cX6_advance 4 none) ({ frames := 0, cells := 0, slots := 0, locals := 0 }) (xP D T [.ref (a 0)] sz (pre_X6_advance T a ex fi fl vi)) (va_Qv (fun _ : Unit => True) (xB D (va_A (pre_X6_advance T a ex fi fl vi) sz) (fun _ => True) (fun b fj fm vj => [((a 0), .inr (6, [.ref (ex 0), .ref (ex 1), .int (vi 0), .int 0, .int 900, .int 0, .int 0, .int 0, .long 0, .int 0, .int 0, .int 0, .int 0, .int 0]))])) (va_A (pre_X6_advance T a ex fi fl vi) sz)) 0 0 (va_A (pre_X6_advance T a ex fi fl vi) sz) := by
  refine xofW (cc := cX6_advance) (maxL := 4) (ret := none) (by decide) rfl ?_
  intro p e s m args below meth c s₁ R Q hR hQ B hml hv
  obtain ⟨rfl, hsz, hP, hK, hD0⟩ := hv
  have hx := B.exec
  have hb := B.bytes
  have hr := B.returns
  have hts := atoms_spec (ws := xw yX6_advance cX6_advance 4 none) B.pre
  have htg : ∀ w ∈ xg, w.before _ s = true := fun w h => hts w (List.mem_cons_of_mem _ h)
  have hown : s.vm.findClass RX6 = some m.cls := findClass_of_methodNamed B.named
  have hlocks := B.notSynchronized
  subst hsz
  have hD := hD0.self (sz := s.heap.size)
  generalize hAe : va_A (pre_X6_advance T a ex fi fl vi) s.heap.size = A at hD hQ
  have hA : ∀ q : Nat, s.heap.size ≤ q → A q := fun q h => by rw [← hAe]; exact Or.inr h
  have hS : va_S A s.heap s.heap [] := va_S.rf
  replace hP : va_P D vwCl [((a 0), .inr (6, [.ref (ex 0), .ref (ex 1), .int (vi 0), .int 0, .int 900, .int 0, .int 0, .int 0, .long 0, .int 0, .int 0, .int 0, .int 0, .int 0]))] s.heap := hP
  replace hD : va_D A [((a 0), .inr (6, [.ref (ex 0), .ref (ex 1), .int (vi 0), .int 0, .int 900, .int 0, .int 0, .int 0, .long 0, .int 0, .int 0, .int 0, .int 0, .int 0]))] := hD
  have hl := lv_entry ([.ref (a 0)]) (n := 4) (Nat.le_of_ble_eq_true rfl)
  rw [lg_entry_eq]
  generalize (lg_sl ([.ref (a 0)]) ++ List.replicate (4 - (lg_sl ([.ref (a 0)])).length) Slot.unset).toArray = ls at hl ⊢
  replace hl : lv_has ls 4 [(0, .ref (a 0))] := hl
  refine lv_aload_n hx hb dX6_advance_0 rfl (lv_at hl 0 rfl) ?_
  refine va_get (D := D) (ci := 6) (v := .int 0) (C := RX6) (T := TX6) (N := 14) hx hb htg inX6 hown hK.1 hP 0 rfl rfl 5 (by decide) (htg _ kw_100) (fun _ h9 => h9) rfl dX6_advance_1 ?_
  refine lv_aload_n hx hb dX6_advance_4 rfl (lv_at hl 0 rfl) ?_
  refine va_get (D := D) (ci := 6) (v := .int 0) (C := RX6) (T := TX6) (N := 14) hx hb htg inX6 hown hK.1 hP 0 rfl rfl 3 (by decide) (htg _ kw_98) (fun _ h9 => h9) rfl dX6_advance_5 ?_
  refine lv_icmp_ge (tgt := 52) hx hb dX6_advance_8 (by decide) (fun _ => ?_) (fun c => absurd (by decide) c)
  refine lv_aload_n hx hb dX6_advance_52 rfl (lv_at hl 0 rfl) ?_
  refine va_get (D := D) (ci := 6) (v := .int 0) (C := RX6) (T := TX6) (N := 14) hx hb htg inX6 hown hK.1 hP 0 rfl rfl 5 (by decide) (htg _ kw_100) (fun _ h9 => h9) rfl dX6_advance_53 ?_
  refine lv_aload_n hx hb dX6_advance_56 rfl (lv_at hl 0 rfl) ?_
  refine va_get (D := D) (ci := 6) (v := .int 0) (C := RX6) (T := TX6) (N := 14) hx hb htg inX6 hown hK.1 hP 0 rfl rfl 3 (by decide) (htg _ kw_98) (fun _ h9 => h9) rfl dX6_advance_57 ?_
  refine lv_icmp_ge (tgt := 74) hx hb dX6_advance_60 (by decide) (fun _ => ?_) (fun c => absurd (by decide) c)
  refine lv_aload_n hx hb dX6_advance_74 rfl (lv_at hl 0 rfl) ?_
  refine lv_aload_n hx hb dX6_advance_75 rfl (lv_at hl 0 rfl) ?_
  refine va_get (D := D) (ci := 6) (v := .int 0) (C := RX6) (T := TX6) (N := 14) hx hb htg inX6 hown hK.1 hP 0 rfl rfl 3 (by decide) (htg _ kw_98) (fun _ h9 => h9) rfl dX6_advance_76 ?_
  refine lv_aload_n hx hb dX6_advance_79 rfl (lv_at hl 0 rfl) ?_
  refine va_get (D := D) (ci := 6) (v := .int 900) (C := RX6) (T := TX6) (N := 14) hx hb htg inX6 hown hK.1 hP 0 rfl rfl 4 (by decide) (htg _ kw_99) (fun _ h9 => h9) rfl dX6_advance_80 ?_
  refine lv_icmp_le (tgt := 90) hx hb dX6_advance_83 (by decide) (fun _ => ?_) (fun c => absurd (by decide) c)
  refine lv_iconst (v := 0) hx hb dX6_advance_90 (by decide) ?_
  refine va_put (D := D) (ci := 6) (v := .int 0) (ty := .int) (C := RX6) (T := TX6) (N := 14) hx hb htg inX6 tyX6 tyX6_ok nmX6 hown hK.1 hP hD hS 0 rfl rfl 6 (by decide) (htg _ kw_104) (fun _ h9 => h9) rfl (by decide +kernel) rfl rfl (Nat.le_of_ble_eq_true rfl) dX6_advance_91 (fun H locs hP hD hS => ?_)
  replace hP : va_P D vwCl [((a 0), .inr (6, [.ref (ex 0), .ref (ex 1), .int (vi 0), .int 0, .int 900, .int 0, .int 0, .int 0, .long 0, .int 0, .int 0, .int 0, .int 0, .int 0]))] H := hP
  replace hD : va_D A [((a 0), .inr (6, [.ref (ex 0), .ref (ex 1), .int (vi 0), .int 0, .int 900, .int 0, .int 0, .int 0, .long 0, .int 0, .int 0, .int 0, .int 0, .int 0]))] := hD
  refine lv_aload_n hx hb dX6_advance_94 rfl (lv_at hl 0 rfl) ?_
  refine lv_aload_n hx hb dX6_advance_95 rfl (lv_at hl 0 rfl) ?_
  refine va_get (D := D) (ci := 6) (v := .int 0) (C := RX6) (T := TX6) (N := 14) hx hb htg inX6 hown hK.1 hP 0 rfl rfl 3 (by decide) (htg _ kw_98) (fun _ h9 => h9) rfl dX6_advance_96 ?_
  refine lv_aload_n hx hb dX6_advance_99 rfl (lv_at hl 0 rfl) ?_
  refine va_get (D := D) (ci := 6) (v := .int 900) (C := RX6) (T := TX6) (N := 14) hx hb htg inX6 hown hK.1 hP 0 rfl rfl 4 (by decide) (htg _ kw_99) (fun _ h9 => h9) rfl dX6_advance_100 ?_
  refine lv_icmp_le (tgt := 113) hx hb dX6_advance_103 (by decide) (fun _ => ?_) (fun c => absurd (by decide) c)
  refine lv_aload_n hx hb dX6_advance_113 rfl (lv_at hl 0 rfl) ?_
  refine va_get (D := D) (ci := 6) (v := .int 0) (C := RX6) (T := TX6) (N := 14) hx hb htg inX6 hown hK.1 hP 0 rfl rfl 3 (by decide) (htg _ kw_98) (fun _ h9 => h9) rfl dX6_advance_114 ?_
  refine va_put (D := D) (ci := 6) (v := .int 0) (ty := .int) (C := RX6) (T := TX6) (N := 14) hx hb htg inX6 tyX6 tyX6_ok nmX6 hown hK.1 hP hD hS 0 rfl rfl 7 (by decide) (htg _ kw_105) (fun _ h9 => h9) rfl (by decide +kernel) rfl rfl (Nat.le_of_ble_eq_true rfl) dX6_advance_117 (fun H locs hP hD hS => ?_)
  replace hP : va_P D vwCl [((a 0), .inr (6, [.ref (ex 0), .ref (ex 1), .int (vi 0), .int 0, .int 900, .int 0, .int 0, .int 0, .long 0, .int 0, .int 0, .int 0, .int 0, .int 0]))] H := hP
  replace hD : va_D A [((a 0), .inr (6, [.ref (ex 0), .ref (ex 1), .int (vi 0), .int 0, .int 900, .int 0, .int 0, .int 0, .long 0, .int 0, .int 0, .int 0, .int 0, .int 0]))] := hD
  have hP9 := hP.sub (ws' := [((a 0), .inr (6, [.ref (ex 0), .ref (ex 1), .int (vi 0), .int 0, .int 900, .int 0, .int 0, .int 0, .long 0, .int 0, .int 0, .int 0, .int 0, .int 0]))]) [0] rfl
  have hD9 := hD.sub (ws' := [((a 0), .inr (6, [.ref (ex 0), .ref (ex 1), .int (vi 0), .int 0, .int 900, .int 0, .int 0, .int 0, .long 0, .int 0, .int 0, .int 0, .int 0, .int 0]))]) [0] (by decide +kernel) rfl
  rw [hQ]
  exact W.vret hx hb hr (fun t ht hW => ⟨⟨(), rfl, trivial, ⟨xa [], xf [], xh [], xv [], by rw [ht]; exact hP9, hD9, trivial⟩⟩, hS.F ht⟩) hS.2.2 dX6_advance_120
abbrev pre_X6_startText (T : Nat → ClassId) (a ex : Nat → Nat) (fi : Nat → Nat → Int32) (fl : Nat → Nat → Int64) (vi : Nat → Int32) : va_W := [((a 0), .inr (6, [.ref (ex 0), .ref (ex 1), .int (vi 0), .int 0, .int 0, .int 0, .int 0, .int 0, .long 0, .int 0, .int 0, .int 0, .int 0, .int 0]))]
set_option maxHeartbeats 4000000 in
set_option maxRecDepth 100000 in
theorem c_X6_startText (l : Launch) (D : va_G) (T : Nat → ClassId) (a ex : Nat → Nat) (fi : Nat → Nat → Int32) (fl : Nat → Nat → Int64) (vi : Nat → Int32) (sz : Nat) : Met l yX6_startText (xw yX6_startText cX6_startText 2 none) ({ frames := 1, cells := 0, slots := 0, locals := 27 }) (xP D T [.ref (a 0), .int 900] sz (pre_X6_startText T a ex fi fl vi)) (va_Qv (fun _ : Unit => True) (xB D (va_A (pre_X6_startText T a ex fi fl vi) sz) (fun _ => True) (fun b fj fm vj => [((a 0), .inr (6, [.ref (ex 0), .ref (ex 1), .int (vi 0), .int 0, .int 900, .int 0, .int 0, .int 0, .long 0, .int 0, .int 0, .int 0, .int 0, .int 0]))])) (va_A (pre_X6_startText T a ex fi fl vi) sz)) 0 0 (va_A (pre_X6_startText T a ex fi fl vi) sz) := by
  refine xofW (cc := cX6_startText) (maxL := 2) (ret := none) (by decide) rfl ?_
  intro p e s m args below meth c s₁ R Q hR hQ B hml hv
  obtain ⟨rfl, hsz, hP, hK, hD0⟩ := hv
  have hx := B.exec
  have hb := B.bytes
  have hr := B.returns
  have hts := atoms_spec (ws := xw yX6_startText cX6_startText 2 none) B.pre
  have htg : ∀ w ∈ xg, w.before _ s = true := fun w h => hts w (List.mem_cons_of_mem _ h)
  have hown : s.vm.findClass RX6 = some m.cls := findClass_of_methodNamed B.named
  have hlocks := B.notSynchronized
  subst hsz
  have hD := hD0.self (sz := s.heap.size)
  generalize hAe : va_A (pre_X6_startText T a ex fi fl vi) s.heap.size = A at hD hQ
  have hA : ∀ q : Nat, s.heap.size ≤ q → A q := fun q h => by rw [← hAe]; exact Or.inr h
  have hS : va_S A s.heap s.heap [] := va_S.rf
  replace hP : va_P D vwCl [((a 0), .inr (6, [.ref (ex 0), .ref (ex 1), .int (vi 0), .int 0, .int 0, .int 0, .int 0, .int 0, .long 0, .int 0, .int 0, .int 0, .int 0, .int 0]))] s.heap := hP
  replace hD : va_D A [((a 0), .inr (6, [.ref (ex 0), .ref (ex 1), .int (vi 0), .int 0, .int 0, .int 0, .int 0, .int 0, .long 0, .int 0, .int 0, .int 0, .int 0, .int 0]))] := hD
  have hl := lv_entry ([.ref (a 0), .int 900]) (n := 2) (Nat.le_of_ble_eq_true rfl)
  rw [lg_entry_eq]
  generalize (lg_sl ([.ref (a 0), .int 900]) ++ List.replicate (2 - (lg_sl ([.ref (a 0), .int 900])).length) Slot.unset).toArray = ls at hl ⊢
  replace hl : lv_has ls 2 [(0, .ref (a 0)), (1, .int 900)] := hl
  refine lv_aload_n hx hb dX6_startText_0 rfl (lv_at hl 0 rfl) ?_
  refine lv_iload_n hx hb dX6_startText_1 rfl (lv_at hl 1 rfl) ?_
  refine va_put (D := D) (ci := 6) (v := .int 900) (ty := .int) (C := RX6) (T := TX6) (N := 14) hx hb htg inX6 tyX6 tyX6_ok nmX6 hown hK.1 hP hD hS 0 rfl rfl 4 (by decide) (htg _ kw_99) (fun _ h9 => h9) rfl (by decide +kernel) rfl rfl (Nat.le_of_ble_eq_true rfl) dX6_startText_2 (fun H locs hP hD hS => ?_)
  replace hP : va_P D vwCl [((a 0), .inr (6, [.ref (ex 0), .ref (ex 1), .int (vi 0), .int 0, .int 900, .int 0, .int 0, .int 0, .long 0, .int 0, .int 0, .int 0, .int 0, .int 0]))] H := hP
  replace hD : va_D A [((a 0), .inr (6, [.ref (ex 0), .ref (ex 1), .int (vi 0), .int 0, .int 900, .int 0, .int 0, .int 0, .long 0, .int 0, .int 0, .int 0, .int 0, .int 0]))] := hD
  refine lv_aload_n hx hb dX6_startText_5 rfl (lv_at hl 0 rfl) ?_
  refine lv_iconst (v := 0) hx hb dX6_startText_6 (by decide) ?_
  refine va_put (D := D) (ci := 6) (v := .int 0) (ty := .int) (C := RX6) (T := TX6) (N := 14) hx hb htg inX6 tyX6 tyX6_ok nmX6 hown hK.1 hP hD hS 0 rfl rfl 5 (by decide) (htg _ kw_100) (fun _ h9 => h9) rfl (by decide +kernel) rfl rfl (Nat.le_of_ble_eq_true rfl) dX6_startText_7 (fun H locs hP hD hS => ?_)
  replace hP : va_P D vwCl [((a 0), .inr (6, [.ref (ex 0), .ref (ex 1), .int (vi 0), .int 0, .int 900, .int 0, .int 0, .int 0, .long 0, .int 0, .int 0, .int 0, .int 0, .int 0]))] H := hP
  replace hD : va_D A [((a 0), .inr (6, [.ref (ex 0), .ref (ex 1), .int (vi 0), .int 0, .int 900, .int 0, .int 0, .int 0, .long 0, .int 0, .int 0, .int 0, .int 0, .int 0]))] := hD
  refine lv_aload_n hx hb dX6_startText_10 rfl (lv_at hl 0 rfl) ?_
  refine lv_iconst (v := 0) hx hb dX6_startText_11 (by decide) ?_
  refine va_put (D := D) (ci := 6) (v := .int 0) (ty := .int) (C := RX6) (T := TX6) (N := 14) hx hb htg inX6 tyX6 tyX6_ok nmX6 hown hK.1 hP hD hS 0 rfl rfl 12 (by decide) (htg _ kw_118) (fun _ h9 => h9) rfl (by decide +kernel) rfl rfl (Nat.le_of_ble_eq_true rfl) dX6_startText_12 (fun H locs hP hD hS => ?_)
  replace hP : va_P D vwCl [((a 0), .inr (6, [.ref (ex 0), .ref (ex 1), .int (vi 0), .int 0, .int 900, .int 0, .int 0, .int 0, .long 0, .int 0, .int 0, .int 0, .int 0, .int 0]))] H := hP
  replace hD : va_D A [((a 0), .inr (6, [.ref (ex 0), .ref (ex 1), .int (vi 0), .int 0, .int 900, .int 0, .int 0, .int 0, .long 0, .int 0, .int 0, .int 0, .int 0, .int 0]))] := hD
  refine lv_aload_n hx hb dX6_startText_15 rfl (lv_at hl 0 rfl) ?_
  refine lv_iconst (v := 0) hx hb dX6_startText_16 (by decide) ?_
  refine va_put (D := D) (ci := 6) (v := .int 0) (ty := .int) (C := RX6) (T := TX6) (N := 14) hx hb htg inX6 tyX6 tyX6_ok nmX6 hown hK.1 hP hD hS 0 rfl rfl 13 (by decide) (htg _ kw_120) (fun _ h9 => h9) rfl (by decide +kernel) rfl rfl (Nat.le_of_ble_eq_true rfl) dX6_startText_17 (fun H locs hP hD hS => ?_)
  replace hP : va_P D vwCl [((a 0), .inr (6, [.ref (ex 0), .ref (ex 1), .int (vi 0), .int 0, .int 900, .int 0, .int 0, .int 0, .long 0, .int 0, .int 0, .int 0, .int 0, .int 0]))] H := hP
  replace hD : va_D A [((a 0), .inr (6, [.ref (ex 0), .ref (ex 1), .int (vi 0), .int 0, .int 900, .int 0, .int 0, .int 0, .long 0, .int 0, .int 0, .int 0, .int 0, .int 0]))] := hD
  refine lv_aload_n hx hb dX6_startText_20 rfl (lv_at hl 0 rfl) ?_
  have hPc := hP.sub (ws' := (pre_X6_advance T (xa [(a 0)]) (xa [(ex 0), (ex 1)]) (xf []) (xh []) (xv [(vi 0)]))) [0] rfl
  have hDc := hD.sub (ws' := (pre_X6_advance T (xa [(a 0)]) (xa [(ex 0), (ex 1)]) (xf []) (xh []) (xv [(vi 0)]))) [0] (by decide) rfl
  have hFc := va_free (wc := (pre_X6_advance T (xa [(a 0)]) (xa [(ex 0), (ex 1)]) (xf []) (xh []) (xv [(vi 0)]))) hD hS hA [0] rfl
  refine va_callv (va_runV (As := []) (rest := []) ⟨hx, hb, hml, hown, htg⟩ (c_X6_advance l D T (xa [(a 0)]) (xa [(ex 0), (ex 1)]) (xf []) (xh []) (xv [(vi 0)]) H.size) ⟨callB_of 0 htg (xg_ok kw_577) rfl rfl rfl (htg _ kw_2) (htg _ kw_574) (by decide +kernel) ⟨by rw [hR]; exact Nat.le_of_ble_eq_true rfl, by rw [hR]; exact Nat.le_of_ble_eq_true rfl⟩, htg _ kw_576, htg _ ks_6⟩ (xpreV hK hPc hDc (va_recv hK.1 hPc (ci := 6) (q0 := 0) rfl rfl)) rfl rfl hl.1 rfl (lv_room (Nat.le_of_ble_eq_true rfl)) dX6_startText_21 ⟨by rw [hR]; exact Nat.le_of_ble_eq_true rfl, by rw [hR]; exact Nat.le_of_ble_eq_true rfl⟩) hS (fun q _ h => hFc q h) hFc (fun u t H1 locs ht hvm hw hB hz1 hk1 hS => ?_)
  obtain ⟨bk, fik, flk, vik, hP1, hD1, hGk⟩ := hB
  rw [ht] at hP1
  obtain ⟨hP, hD⟩ := va_join (wr := []) (w1 := [((a 0), .inr (6, [.ref (ex 0), .ref (ex 1), .int (vi 0), .int 0, .int 900, .int 0, .int 0, .int 0, .long 0, .int 0, .int 0, .int 0, .int 0, .int 0]))]) hP hD [0] [] rfl rfl (by decide) (by decide) hk1 hFc hP1 hD1
  clear hPc hDc hFc hP1 hD1 hk1 hz1 hvm ht hw
  generalize H1 = H at hP hS ⊢
  replace hP : va_P D vwCl [((a 0), .inr (6, [.ref (ex 0), .ref (ex 1), .int (vi 0), .int 0, .int 900, .int 0, .int 0, .int 0, .long 0, .int 0, .int 0, .int 0, .int 0, .int 0]))] H := hP
  replace hD : va_D A [((a 0), .inr (6, [.ref (ex 0), .ref (ex 1), .int (vi 0), .int 0, .int 900, .int 0, .int 0, .int 0, .long 0, .int 0, .int 0, .int 0, .int 0, .int 0]))] := hD
  have hP9 := hP.sub (ws' := [((a 0), .inr (6, [.ref (ex 0), .ref (ex 1), .int (vi 0), .int 0, .int 900, .int 0, .int 0, .int 0, .long 0, .int 0, .int 0, .int 0, .int 0, .int 0]))]) [0] rfl
  have hD9 := hD.sub (ws' := [((a 0), .inr (6, [.ref (ex 0), .ref (ex 1), .int (vi 0), .int 0, .int 900, .int 0, .int 0, .int 0, .long 0, .int 0, .int 0, .int 0, .int 0, .int 0]))]) [0] (by decide +kernel) rfl
  rw [hQ]
  exact W.vret hx hb hr (fun t ht hW => ⟨⟨(), rfl, trivial, ⟨xa [], xf [], xh [], xv [], by rw [ht]; exact hP9, hD9, trivial⟩⟩, hS.F ht⟩) hS.2.2 dX6_startText_24
abbrev pre_X8_read (T : Nat → ClassId) (a ex : Nat → Nat) (fi : Nat → Nat → Int32) (fl : Nat → Nat → Int64) (vi : Nat → Int32) : va_W := [((a 0), .inr (8, [.ref (a 2), .ref (a 1), .int 0])), ((a 1), .inr (7, [.int 0, .int 0, .ref (ex 0), .ref (ex 1), .ref (ex 2), .ref (ex 3), .ref (ex 4), .ref (ex 5), .ref (ex 6), .ref (ex 7), .ref (ex 8), .ref (ex 9)])), ((a 2), .inr (6, [.ref (ex 10), .ref (ex 11), .int (vi 0), .int 0, .int 0, .int 0, .int 0, .int 0, .long 0, .int 0, .int 0, .int 0, .int 0, .int 0]))]
set_option maxHeartbeats 4000000 in
set_option maxRecDepth 100000 in
theorem c_X8_read (l : Launch) (D : va_G) (T : Nat → ClassId) (a ex : Nat → Nat) (fi : Nat → Nat → Int32) (fl : Nat → Nat → Int64) (vi : Nat → Int32) (sz : Nat) : Met l yX8_read (xw yX8_read cX8_read 1 (some .boolean)) ({ frames := 2, cells := 0, slots := 0, locals := 52 }) (xP D T [.ref (a 0)] sz (pre_X8_read T a ex fi fl vi)) (va_Qi (fun r (_ : Unit) => r = 1) (xB D (va_A (pre_X8_read T a ex fi fl vi) sz) (fun _ => True) (fun b fj fm vj => [((a 0), .inr (8, [.ref (a 2), .ref (a 1), .int 0])), ((a 1), .inr (7, [.int 0, .int 0, .ref (ex 0), .ref (ex 1), .ref (ex 2), .ref (ex 3), .ref (ex 4), .ref (ex 5), .ref (ex 6), .ref (ex 7), .ref (ex 8), .ref (ex 9)])), ((a 2), .inr (6, [.ref (ex 10), .ref (ex 11), .int (vi 0), .int 0, .int 900, .int 0, .int 0, .int 0, .long 0, .int 0, .int 0, .int 0, .int 0, .int 0]))])) (va_A (pre_X8_read T a ex fi fl vi) sz)) 0 0 (va_A (pre_X8_read T a ex fi fl vi) sz) := by
  refine xofW (cc := cX8_read) (maxL := 1) (ret := (some .boolean)) (by decide) rfl ?_
  intro p e s m args below meth c s₁ R Q hR hQ B hml hv
  obtain ⟨rfl, hsz, hP, hK, hD0⟩ := hv
  have hx := B.exec
  have hb := B.bytes
  have hr := B.returns
  have hts := atoms_spec (ws := xw yX8_read cX8_read 1 (some .boolean)) B.pre
  have htg : ∀ w ∈ xg, w.before _ s = true := fun w h => hts w (List.mem_cons_of_mem _ h)
  have hown : s.vm.findClass RX8 = some m.cls := findClass_of_methodNamed B.named
  have hlocks := B.notSynchronized
  subst hsz
  have hD := hD0.self (sz := s.heap.size)
  generalize hAe : va_A (pre_X8_read T a ex fi fl vi) s.heap.size = A at hD hQ
  have hA : ∀ q : Nat, s.heap.size ≤ q → A q := fun q h => by rw [← hAe]; exact Or.inr h
  have hS : va_S A s.heap s.heap [] := va_S.rf
  replace hP : va_P D vwCl [((a 0), .inr (8, [.ref (a 2), .ref (a 1), .int 0])), ((a 1), .inr (7, [.int 0, .int 0, .ref (ex 0), .ref (ex 1), .ref (ex 2), .ref (ex 3), .ref (ex 4), .ref (ex 5), .ref (ex 6), .ref (ex 7), .ref (ex 8), .ref (ex 9)])), ((a 2), .inr (6, [.ref (ex 10), .ref (ex 11), .int (vi 0), .int 0, .int 0, .int 0, .int 0, .int 0, .long 0, .int 0, .int 0, .int 0, .int 0, .int 0]))] s.heap := hP
  replace hD : va_D A [((a 0), .inr (8, [.ref (a 2), .ref (a 1), .int 0])), ((a 1), .inr (7, [.int 0, .int 0, .ref (ex 0), .ref (ex 1), .ref (ex 2), .ref (ex 3), .ref (ex 4), .ref (ex 5), .ref (ex 6), .ref (ex 7), .ref (ex 8), .ref (ex 9)])), ((a 2), .inr (6, [.ref (ex 10), .ref (ex 11), .int (vi 0), .int 0, .int 0, .int 0, .int 0, .int 0, .long 0, .int 0, .int 0, .int 0, .int 0, .int 0]))] := hD
  have hl := lv_entry ([.ref (a 0)]) (n := 1) (Nat.le_of_ble_eq_true rfl)
  rw [lg_entry_eq]
  generalize (lg_sl ([.ref (a 0)]) ++ List.replicate (1 - (lg_sl ([.ref (a 0)])).length) Slot.unset).toArray = ls at hl ⊢
  replace hl : lv_has ls 1 [(0, .ref (a 0))] := hl
  refine lv_aload_n hx hb dX8_read_0 rfl (lv_at hl 0 rfl) ?_
  refine va_get (D := D) (ci := 8) (v := .ref (a 1)) (C := RX8) (T := TX8) (N := 3) hx hb htg inX8 hown hK.1 hP 0 rfl rfl 1 (by decide) (htg _ kw_229) (fun _ h9 => h9) rfl dX8_read_1 ?_
  have hPc := hP.sub (ws' := (pre_X7_clear T (xa [(a 1)]) (xa [(ex 0), (ex 1), (ex 2), (ex 3), (ex 4), (ex 5), (ex 6), (ex 7), (ex 8), (ex 9)]) (xf []) (xh []) (xv []))) [1] rfl
  have hDc := hD.sub (ws' := (pre_X7_clear T (xa [(a 1)]) (xa [(ex 0), (ex 1), (ex 2), (ex 3), (ex 4), (ex 5), (ex 6), (ex 7), (ex 8), (ex 9)]) (xf []) (xh []) (xv []))) [1] (by decide) rfl
  have hFc := va_free (wc := (pre_X7_clear T (xa [(a 1)]) (xa [(ex 0), (ex 1), (ex 2), (ex 3), (ex 4), (ex 5), (ex 6), (ex 7), (ex 8), (ex 9)]) (xf []) (xh []) (xv []))) hD hS hA [1] rfl
  refine va_callv (va_runVN (As := []) (rest := []) ⟨hx, hb, hml, hown, htg⟩ (c_X7_clear l D T (xa [(a 1)]) (xa [(ex 0), (ex 1), (ex 2), (ex 3), (ex 4), (ex 5), (ex 6), (ex 7), (ex 8), (ex 9)]) (xf []) (xh []) (xv []) s.heap.size) ⟨va_cnB 0 htg (xg_ok kw_569) rfl rfl rfl (hK.2.1 _ kn_566) (htg _ kw_7) (by decide +kernel) ⟨by rw [hR]; exact Nat.le_of_ble_eq_true rfl, by rw [hR]; exact Nat.le_of_ble_eq_true rfl⟩, htg _ kw_568, htg _ ks_4⟩ (xpreV hK hPc hDc (va_recv hK.1 hPc (ci := 7) (q0 := 0) rfl rfl)) rfl rfl hl.1 rfl (lv_room (Nat.le_of_ble_eq_true rfl)) dX8_read_4 ⟨by rw [hR]; exact Nat.le_of_ble_eq_true rfl, by rw [hR]; exact Nat.le_of_ble_eq_true rfl⟩) hS (fun q _ h => hFc q h) hFc (fun u t H1 locs ht hvm hw hB hz1 hk1 hS => ?_)
  obtain ⟨bk, fik, flk, vik, hP1, hD1, hGk⟩ := hB
  rw [ht] at hP1
  obtain ⟨hP, hD⟩ := va_join (wr := [((a 0), .inr (8, [.ref (a 2), .ref (a 1), .int 0])), ((a 2), .inr (6, [.ref (ex 10), .ref (ex 11), .int (vi 0), .int 0, .int 0, .int 0, .int 0, .int 0, .long 0, .int 0, .int 0, .int 0, .int 0, .int 0]))]) (w1 := [((a 1), .inr (7, [.int 0, .int 0, .ref (ex 0), .ref (ex 1), .ref (ex 2), .ref (ex 3), .ref (ex 4), .ref (ex 5), .ref (ex 6), .ref (ex 7), .ref (ex 8), .ref (ex 9)]))]) hP hD [1] [0, 2] rfl rfl (by decide) (by decide) hk1 hFc hP1 hD1
  clear hPc hDc hFc hP1 hD1 hk1 hz1 hvm ht hw
  generalize H1 = H at hP hS ⊢
  replace hP : va_P D vwCl [((a 0), .inr (8, [.ref (a 2), .ref (a 1), .int 0])), ((a 2), .inr (6, [.ref (ex 10), .ref (ex 11), .int (vi 0), .int 0, .int 0, .int 0, .int 0, .int 0, .long 0, .int 0, .int 0, .int 0, .int 0, .int 0])), ((a 1), .inr (7, [.int 0, .int 0, .ref (ex 0), .ref (ex 1), .ref (ex 2), .ref (ex 3), .ref (ex 4), .ref (ex 5), .ref (ex 6), .ref (ex 7), .ref (ex 8), .ref (ex 9)]))] H := hP
  replace hD : va_D A [((a 0), .inr (8, [.ref (a 2), .ref (a 1), .int 0])), ((a 2), .inr (6, [.ref (ex 10), .ref (ex 11), .int (vi 0), .int 0, .int 0, .int 0, .int 0, .int 0, .long 0, .int 0, .int 0, .int 0, .int 0, .int 0])), ((a 1), .inr (7, [.int 0, .int 0, .ref (ex 0), .ref (ex 1), .ref (ex 2), .ref (ex 3), .ref (ex 4), .ref (ex 5), .ref (ex 6), .ref (ex 7), .ref (ex 8), .ref (ex 9)]))] := hD
  refine lv_aload_n hx hb dX8_read_7 rfl (lv_at hl 0 rfl) ?_
  refine va_get (D := D) (ci := 8) (v := .ref (a 2)) (C := RX8) (T := TX8) (N := 3) hx hb htg inX8 hown hK.1 hP 0 rfl rfl 0 (by decide) (htg _ kw_228) (fun _ h9 => h9) rfl dX8_read_8 ?_
  refine lv_sipush (v := 900) hx hb dX8_read_11 (by decide) ?_
  have hPc := hP.sub (ws' := (pre_X6_startText T (xa [(a 2)]) (xa [(ex 10), (ex 11)]) (xf []) (xh []) (xv [(vi 0)]))) [1] rfl
  have hDc := hD.sub (ws' := (pre_X6_startText T (xa [(a 2)]) (xa [(ex 10), (ex 11)]) (xf []) (xh []) (xv [(vi 0)]))) [1] (by decide) rfl
  have hFc := va_free (wc := (pre_X6_startText T (xa [(a 2)]) (xa [(ex 10), (ex 11)]) (xf []) (xh []) (xv [(vi 0)]))) hD hS hA [1] rfl
  refine va_callv (va_runVN (As := [.int 900]) (rest := []) ⟨hx, hb, hml, hown, htg⟩ (c_X6_startText l D T (xa [(a 2)]) (xa [(ex 10), (ex 11)]) (xf []) (xh []) (xv [(vi 0)]) H.size) ⟨va_cnB 1 htg (xg_ok kw_573) rfl rfl rfl (hK.2.1 _ kn_570) (htg _ kw_2) (by decide +kernel) ⟨by rw [hR]; exact Nat.le_of_ble_eq_true rfl, by rw [hR]; exact Nat.le_of_ble_eq_true rfl⟩, htg _ kw_572, htg _ ks_5⟩ (xpreV hK hPc hDc (va_recv hK.1 hPc (ci := 6) (q0 := 0) rfl rfl)) rfl rfl hl.1 rfl (lv_room (Nat.le_of_ble_eq_true rfl)) dX8_read_14 ⟨by rw [hR]; exact Nat.le_of_ble_eq_true rfl, by rw [hR]; exact Nat.le_of_ble_eq_true rfl⟩) hS (fun q _ h => hFc q h) hFc (fun u t H1 locs ht hvm hw hB hz1 hk1 hS => ?_)
  obtain ⟨bk_1, fik_1, flk_1, vik_1, hP1, hD1, hGk_1⟩ := hB
  rw [ht] at hP1
  obtain ⟨hP, hD⟩ := va_join (wr := [((a 0), .inr (8, [.ref (a 2), .ref (a 1), .int 0])), ((a 1), .inr (7, [.int 0, .int 0, .ref (ex 0), .ref (ex 1), .ref (ex 2), .ref (ex 3), .ref (ex 4), .ref (ex 5), .ref (ex 6), .ref (ex 7), .ref (ex 8), .ref (ex 9)]))]) (w1 := [((a 2), .inr (6, [.ref (ex 10), .ref (ex 11), .int (vi 0), .int 0, .int 900, .int 0, .int 0, .int 0, .long 0, .int 0, .int 0, .int 0, .int 0, .int 0]))]) hP hD [1] [0, 2] rfl rfl (by decide) (by decide) hk1 hFc hP1 hD1
  clear hPc hDc hFc hP1 hD1 hk1 hz1 hvm ht hw
  generalize H1 = H at hP hS ⊢
  replace hP : va_P D vwCl [((a 0), .inr (8, [.ref (a 2), .ref (a 1), .int 0])), ((a 1), .inr (7, [.int 0, .int 0, .ref (ex 0), .ref (ex 1), .ref (ex 2), .ref (ex 3), .ref (ex 4), .ref (ex 5), .ref (ex 6), .ref (ex 7), .ref (ex 8), .ref (ex 9)])), ((a 2), .inr (6, [.ref (ex 10), .ref (ex 11), .int (vi 0), .int 0, .int 900, .int 0, .int 0, .int 0, .long 0, .int 0, .int 0, .int 0, .int 0, .int 0]))] H := hP
  replace hD : va_D A [((a 0), .inr (8, [.ref (a 2), .ref (a 1), .int 0])), ((a 1), .inr (7, [.int 0, .int 0, .ref (ex 0), .ref (ex 1), .ref (ex 2), .ref (ex 3), .ref (ex 4), .ref (ex 5), .ref (ex 6), .ref (ex 7), .ref (ex 8), .ref (ex 9)])), ((a 2), .inr (6, [.ref (ex 10), .ref (ex 11), .int (vi 0), .int 0, .int 900, .int 0, .int 0, .int 0, .long 0, .int 0, .int 0, .int 0, .int 0, .int 0]))] := hD
  refine lv_aload_n hx hb dX8_read_17 rfl (lv_at hl 0 rfl) ?_
  refine lv_iconst (v := 0) hx hb dX8_read_18 (by decide) ?_
  refine va_put (D := D) (ci := 8) (v := .int 0) (ty := .int) (C := RX8) (T := TX8) (N := 3) hx hb htg inX8 tyX8 tyX8_ok nmX8 hown hK.1 hP hD hS 0 rfl rfl 2 (by decide) (htg _ kw_230) (fun _ h9 => h9) rfl (by decide +kernel) rfl rfl (Nat.le_of_ble_eq_true rfl) dX8_read_19 (fun H locs hP hD hS => ?_)
  replace hP : va_P D vwCl [((a 0), .inr (8, [.ref (a 2), .ref (a 1), .int 0])), ((a 1), .inr (7, [.int 0, .int 0, .ref (ex 0), .ref (ex 1), .ref (ex 2), .ref (ex 3), .ref (ex 4), .ref (ex 5), .ref (ex 6), .ref (ex 7), .ref (ex 8), .ref (ex 9)])), ((a 2), .inr (6, [.ref (ex 10), .ref (ex 11), .int (vi 0), .int 0, .int 900, .int 0, .int 0, .int 0, .long 0, .int 0, .int 0, .int 0, .int 0, .int 0]))] H := hP
  replace hD : va_D A [((a 0), .inr (8, [.ref (a 2), .ref (a 1), .int 0])), ((a 1), .inr (7, [.int 0, .int 0, .ref (ex 0), .ref (ex 1), .ref (ex 2), .ref (ex 3), .ref (ex 4), .ref (ex 5), .ref (ex 6), .ref (ex 7), .ref (ex 8), .ref (ex 9)])), ((a 2), .inr (6, [.ref (ex 10), .ref (ex 11), .int (vi 0), .int 0, .int 900, .int 0, .int 0, .int 0, .long 0, .int 0, .int 0, .int 0, .int 0, .int 0]))] := hD
  refine lv_aload_n hx hb dX8_read_22 rfl (lv_at hl 0 rfl) ?_
  refine va_get (D := D) (ci := 8) (v := .int 0) (C := RX8) (T := TX8) (N := 3) hx hb htg inX8 hown hK.1 hP 0 rfl rfl 2 (by decide) (htg _ kw_230) (fun _ h9 => h9) rfl dX8_read_23 ?_
  refine lv_sipush (v := 900) hx hb dX8_read_26 (by decide) ?_
  refine lv_icmp_ge (tgt := 76) hx hb dX8_read_29 (by decide) (fun c => absurd c (by decide)) (fun _ => ?_)
  refine lv_aload_n hx hb dX8_read_32 rfl (lv_at hl 0 rfl) ?_
  refine va_get (D := D) (ci := 8) (v := .ref (a 2)) (C := RX8) (T := TX8) (N := 3) hx hb htg inX8 hown hK.1 hP 0 rfl rfl 0 (by decide) (htg _ kw_228) (fun _ h9 => h9) rfl dX8_read_33 ?_
  refine va_getN (D := D) (ci := 6) (v := .int 0) (C := RX6) (T := TX6) (N := 14) hx hb htg inX6 hown hK.1 hP 2 rfl rfl 6 (by decide) (va_Nw.use rfl (hK.2.1 _ kn_102)) (fun _ h9 => h9) rfl dX8_read_36 ?_
  refine lv_if_eq (tgt := 76) hx hb dX8_read_39 (by decide) (fun _ => ?_) (fun c => absurd (by decide) c)
  refine lv_iconst (v := 1) hx hb dX8_read_76 (by decide) ?_
  have hP9 := hP.sub (ws' := [((a 0), .inr (8, [.ref (a 2), .ref (a 1), .int 0])), ((a 1), .inr (7, [.int 0, .int 0, .ref (ex 0), .ref (ex 1), .ref (ex 2), .ref (ex 3), .ref (ex 4), .ref (ex 5), .ref (ex 6), .ref (ex 7), .ref (ex 8), .ref (ex 9)])), ((a 2), .inr (6, [.ref (ex 10), .ref (ex 11), .int (vi 0), .int 0, .int 900, .int 0, .int 0, .int 0, .long 0, .int 0, .int 0, .int 0, .int 0, .int 0]))]) [0, 1, 2] rfl
  have hD9 := hD.sub (ws' := [((a 0), .inr (8, [.ref (a 2), .ref (a 1), .int 0])), ((a 1), .inr (7, [.int 0, .int 0, .ref (ex 0), .ref (ex 1), .ref (ex 2), .ref (ex 3), .ref (ex 4), .ref (ex 5), .ref (ex 6), .ref (ex 7), .ref (ex 8), .ref (ex 9)])), ((a 2), .inr (6, [.ref (ex 10), .ref (ex 11), .int (vi 0), .int 0, .int 900, .int 0, .int 0, .int 0, .long 0, .int 0, .int 0, .int 0, .int 0, .int 0]))]) [0, 1, 2] (by decide +kernel) rfl
  rw [hQ]
  exact W.zret (v := 1) hx hb hr rfl (fun t ht hW => ⟨⟨1, (), rfl, rfl, ⟨xa [], xf [], xh [], xv [], by rw [ht]; exact hP9, hD9, trivial⟩⟩, hS.F ht⟩) hS.2.2 dX8_read_77
abbrev pre_X11_copyRow_ (T : Nat → ClassId) (a ex : Nat → Nat) (fi : Nat → Nat → Int32) (fl : Nat → Nat → Int64) (vi : Nat → Int32) : va_W := [((a 0), .inl (T 2, 9, .inr (.inl (fun _ => 0)))), ((a 1), .inl (T 2, 9, .inr (.inl (fun _ => 0))))]
set_option maxHeartbeats 4000000 in
set_option maxRecDepth 100000 in
theorem c_X11_copyRow_ (l : Launch) (D : va_G) (T : Nat → ClassId) (a ex : Nat → Nat) (fi : Nat → Nat → Int32) (fl : Nat → Nat → Int64) (vi : Nat → Int32) (sz : Nat) : Met l yX11_copyRow_ (xw yX11_copyRow_ cX11_copyRow_ 2 none) ({ frames := 1, cells := 0, slots := 0, locals := 120 }) (xP D T [.ref (a 0), .ref (a 1)] sz (pre_X11_copyRow_ T a ex fi fl vi)) (va_Qv (fun _ : Unit => True) (xB D (va_A (pre_X11_copyRow_ T a ex fi fl vi) sz) (fun _ => True) (fun b fj fm vj => [((a 0), .inl (T 2, 9, .inr (.inl (fun _ => 0)))), ((a 1), .inl (T 2, 9, .inr (.inl (fun _ => 0))))])) (va_A (pre_X11_copyRow_ T a ex fi fl vi) sz)) 0 0 (va_A (pre_X11_copyRow_ T a ex fi fl vi) sz) := by
  refine xofW (cc := cX11_copyRow_) (maxL := 2) (ret := none) (by decide) rfl ?_
  intro p e s m args below meth c s₁ R Q hR hQ B hml hv
  obtain ⟨rfl, hsz, hP, hK, hD0⟩ := hv
  have hx := B.exec
  have hb := B.bytes
  have hr := B.returns
  have hts := atoms_spec (ws := xw yX11_copyRow_ cX11_copyRow_ 2 none) B.pre
  have htg : ∀ w ∈ xg, w.before _ s = true := fun w h => hts w (List.mem_cons_of_mem _ h)
  have hown : s.vm.findClass RX11 = some m.cls := findClass_of_methodNamed B.named
  have hlocks := B.notSynchronized
  subst hsz
  have hD := hD0.self (sz := s.heap.size)
  generalize hAe : va_A (pre_X11_copyRow_ T a ex fi fl vi) s.heap.size = A at hD hQ
  have hA : ∀ q : Nat, s.heap.size ≤ q → A q := fun q h => by rw [← hAe]; exact Or.inr h
  have hS : va_S A s.heap s.heap [] := va_S.rf
  replace hP : va_P D vwCl [((a 0), .inl (T 2, 9, .inr (.inl (fun _ => 0)))), ((a 1), .inl (T 2, 9, .inr (.inl (fun _ => 0))))] s.heap := hP
  replace hD : va_D A [((a 0), .inl (T 2, 9, .inr (.inl (fun _ => 0)))), ((a 1), .inl (T 2, 9, .inr (.inl (fun _ => 0))))] := hD
  have hl := lv_entry ([.ref (a 0), .ref (a 1)]) (n := 2) (Nat.le_of_ble_eq_true rfl)
  rw [lg_entry_eq]
  generalize (lg_sl ([.ref (a 0), .ref (a 1)]) ++ List.replicate (2 - (lg_sl ([.ref (a 0), .ref (a 1)])).length) Slot.unset).toArray = ls at hl ⊢
  replace hl : lv_has ls 2 [(0, .ref (a 0)), (1, .ref (a 1))] := hl
  refine lv_aload_n hx hb dX11_copyRow__0 rfl (lv_at hl 0 rfl) ?_
  refine lv_iconst (v := 0) hx hb dX11_copyRow__1 (by decide) ?_
  refine lv_aload_n hx hb dX11_copyRow__2 rfl (lv_at hl 1 rfl) ?_
  refine lv_iconst (v := 0) hx hb dX11_copyRow__3 (by decide) ?_
  refine lv_aload_n hx hb dX11_copyRow__4 rfl (lv_at hl 0 rfl) ?_
  refine va_alen (v := 9) hx hb hK.1 hP 0 2 rfl rfl (by decide) dX11_copyRow__5 ?_
  refine lv_aload_n hx hb dX11_copyRow__6 rfl (lv_at hl 1 rfl) ?_
  refine va_alen (v := 9) hx hb hK.1 hP 1 2 rfl rfl (by decide) dX11_copyRow__7 ?_
  refine va_mmin hx hb (hml.trans hl.1.symm) hown (htg _ kw_706) (htg _ kw_707) (htg _ kw_18) (htg _ kw_708) (by rw [hR]; exact Nat.le_of_ble_eq_true rfl) (by rw [hR]; exact Nat.le_of_ble_eq_true rfl) (by rw [hR]; exact Nat.le_of_ble_eq_true rfl) (by rw [hR]; exact Nat.le_of_ble_eq_true rfl) dX11_copyRow__8 ?_
  refine xz_i 9 (by decide) ?_
  refine va_copyl hx hb (hml.trans hl.1.symm) hown (htg _ kw_709) (htg _ kw_711) (htg _ kw_710) (htg _ kw_19) hK.1 hP hD hS 0 1 2 2 rfl rfl rfl rfl rfl (by decide) (by decide) (by decide) (by decide) (by decide) (fun _ _ => rfl) (by rw [hR]; exact Nat.le_of_ble_eq_true rfl) (by rw [hR]; exact Nat.le_of_ble_eq_true rfl) dX11_copyRow__11 (fun H locs hP hD hS => ?_)
  rw [xc0] at hP hD
  replace hP : va_P D vwCl [((a 0), .inl (T 2, 9, .inr (.inl (fun _ => 0)))), ((a 1), .inl (T 2, 9, .inr (.inl (fun _ => 0))))] H := hP
  replace hD : va_D A [((a 0), .inl (T 2, 9, .inr (.inl (fun _ => 0)))), ((a 1), .inl (T 2, 9, .inr (.inl (fun _ => 0))))] := hD
  have hP9 := hP.sub (ws' := [((a 0), .inl (T 2, 9, .inr (.inl (fun _ => 0)))), ((a 1), .inl (T 2, 9, .inr (.inl (fun _ => 0))))]) [0, 1] rfl
  have hD9 := hD.sub (ws' := [((a 0), .inl (T 2, 9, .inr (.inl (fun _ => 0)))), ((a 1), .inl (T 2, 9, .inr (.inl (fun _ => 0))))]) [0, 1] (by decide +kernel) rfl
  rw [hQ]
  exact W.vret hx hb hr (fun t ht hW => ⟨⟨(), rfl, trivial, ⟨xa [], xf [], xh [], xv [], by rw [ht]; exact hP9, hD9, trivial⟩⟩, hS.F ht⟩) hS.2.2 dX11_copyRow__14
abbrev pre_X11_copyRow (T : Nat → ClassId) (a ex : Nat → Nat) (fi : Nat → Nat → Int32) (fl : Nat → Nat → Int64) (vi : Nat → Int32) : va_W := [((a 0), .inl (T 1, 9, .inl (fun _ => 0))), ((a 1), .inl (T 1, 9, .inl (fun _ => 0)))]
set_option maxHeartbeats 4000000 in
set_option maxRecDepth 100000 in
theorem c_X11_copyRow (l : Launch) (D : va_G) (T : Nat → ClassId) (a ex : Nat → Nat) (fi : Nat → Nat → Int32) (fl : Nat → Nat → Int64) (vi : Nat → Int32) (sz : Nat) : Met l yX11_copyRow (xw yX11_copyRow cX11_copyRow 2 none) ({ frames := 1, cells := 0, slots := 0, locals := 120 }) (xP D T [.ref (a 0), .ref (a 1)] sz (pre_X11_copyRow T a ex fi fl vi)) (va_Qv (fun _ : Unit => True) (xB D (va_A (pre_X11_copyRow T a ex fi fl vi) sz) (fun _ => True) (fun b fj fm vj => [((a 0), .inl (T 1, 9, .inl (fun _ => 0))), ((a 1), .inl (T 1, 9, .inl (fun _ => 0)))])) (va_A (pre_X11_copyRow T a ex fi fl vi) sz)) 0 0 (va_A (pre_X11_copyRow T a ex fi fl vi) sz) := by
  refine xofW (cc := cX11_copyRow) (maxL := 2) (ret := none) (by decide) rfl ?_
  intro p e s m args below meth c s₁ R Q hR hQ B hml hv
  obtain ⟨rfl, hsz, hP, hK, hD0⟩ := hv
  have hx := B.exec
  have hb := B.bytes
  have hr := B.returns
  have hts := atoms_spec (ws := xw yX11_copyRow cX11_copyRow 2 none) B.pre
  have htg : ∀ w ∈ xg, w.before _ s = true := fun w h => hts w (List.mem_cons_of_mem _ h)
  have hown : s.vm.findClass RX11 = some m.cls := findClass_of_methodNamed B.named
  have hlocks := B.notSynchronized
  subst hsz
  have hD := hD0.self (sz := s.heap.size)
  generalize hAe : va_A (pre_X11_copyRow T a ex fi fl vi) s.heap.size = A at hD hQ
  have hA : ∀ q : Nat, s.heap.size ≤ q → A q := fun q h => by rw [← hAe]; exact Or.inr h
  have hS : va_S A s.heap s.heap [] := va_S.rf
  replace hP : va_P D vwCl [((a 0), .inl (T 1, 9, .inl (fun _ => 0))), ((a 1), .inl (T 1, 9, .inl (fun _ => 0)))] s.heap := hP
  replace hD : va_D A [((a 0), .inl (T 1, 9, .inl (fun _ => 0))), ((a 1), .inl (T 1, 9, .inl (fun _ => 0)))] := hD
  have hl := lv_entry ([.ref (a 0), .ref (a 1)]) (n := 2) (Nat.le_of_ble_eq_true rfl)
  rw [lg_entry_eq]
  generalize (lg_sl ([.ref (a 0), .ref (a 1)]) ++ List.replicate (2 - (lg_sl ([.ref (a 0), .ref (a 1)])).length) Slot.unset).toArray = ls at hl ⊢
  replace hl : lv_has ls 2 [(0, .ref (a 0)), (1, .ref (a 1))] := hl
  refine lv_aload_n hx hb dX11_copyRow_0 rfl (lv_at hl 0 rfl) ?_
  refine lv_iconst (v := 0) hx hb dX11_copyRow_1 (by decide) ?_
  refine lv_aload_n hx hb dX11_copyRow_2 rfl (lv_at hl 1 rfl) ?_
  refine lv_iconst (v := 0) hx hb dX11_copyRow_3 (by decide) ?_
  refine lv_aload_n hx hb dX11_copyRow_4 rfl (lv_at hl 0 rfl) ?_
  refine va_alen (v := 9) hx hb hK.1 hP 0 1 rfl rfl (by decide) dX11_copyRow_5 ?_
  refine lv_aload_n hx hb dX11_copyRow_6 rfl (lv_at hl 1 rfl) ?_
  refine va_alen (v := 9) hx hb hK.1 hP 1 1 rfl rfl (by decide) dX11_copyRow_7 ?_
  refine va_mmin hx hb (hml.trans hl.1.symm) hown (htg _ kw_706) (htg _ kw_707) (htg _ kw_18) (htg _ kw_708) (by rw [hR]; exact Nat.le_of_ble_eq_true rfl) (by rw [hR]; exact Nat.le_of_ble_eq_true rfl) (by rw [hR]; exact Nat.le_of_ble_eq_true rfl) (by rw [hR]; exact Nat.le_of_ble_eq_true rfl) dX11_copyRow_8 ?_
  refine xz_i 9 (by decide) ?_
  refine va_copyi hx hb (hml.trans hl.1.symm) hown (htg _ kw_709) (htg _ kw_711) (htg _ kw_710) (htg _ kw_19) hK.1 hP hD hS 0 1 1 1 rfl rfl rfl rfl rfl (by decide) (by decide) (by decide) (by decide) (by decide) (fun _ _ => rfl) (by rw [hR]; exact Nat.le_of_ble_eq_true rfl) (by rw [hR]; exact Nat.le_of_ble_eq_true rfl) dX11_copyRow_11 (fun H locs hP hD hS => ?_)
  rw [xc0] at hP hD
  replace hP : va_P D vwCl [((a 0), .inl (T 1, 9, .inl (fun _ => 0))), ((a 1), .inl (T 1, 9, .inl (fun _ => 0)))] H := hP
  replace hD : va_D A [((a 0), .inl (T 1, 9, .inl (fun _ => 0))), ((a 1), .inl (T 1, 9, .inl (fun _ => 0)))] := hD
  have hP9 := hP.sub (ws' := [((a 0), .inl (T 1, 9, .inl (fun _ => 0))), ((a 1), .inl (T 1, 9, .inl (fun _ => 0)))]) [0, 1] rfl
  have hD9 := hD.sub (ws' := [((a 0), .inl (T 1, 9, .inl (fun _ => 0))), ((a 1), .inl (T 1, 9, .inl (fun _ => 0)))]) [0, 1] (by decide +kernel) rfl
  rw [hQ]
  exact W.vret hx hb hr (fun t ht hW => ⟨⟨(), rfl, trivial, ⟨xa [], xf [], xh [], xv [], by rw [ht]; exact hP9, hD9, trivial⟩⟩, hS.F ht⟩) hS.2.2 dX11_copyRow_14
abbrev pre_X11_copyRow_2 (T : Nat → ClassId) (a ex : Nat → Nat) (fi : Nat → Nat → Int32) (fl : Nat → Nat → Int64) (vi : Nat → Int32) : va_W := [((a 0), .inl (T 1, 81, .inl (fun _ => 0))), ((a 1), .inl (T 1, 81, .inl (fun _ => 0)))]
set_option maxHeartbeats 4000000 in
set_option maxRecDepth 100000 in
theorem c_X11_copyRow_2 (l : Launch) (D : va_G) (T : Nat → ClassId) (a ex : Nat → Nat) (fi : Nat → Nat → Int32) (fl : Nat → Nat → Int64) (vi : Nat → Int32) (sz : Nat) : Met l yX11_copyRow (xw yX11_copyRow cX11_copyRow 2 none) ({ frames := 1, cells := 0, slots := 0, locals := 120 }) (xP D T [.ref (a 0), .ref (a 1)] sz (pre_X11_copyRow_2 T a ex fi fl vi)) (va_Qv (fun _ : Unit => True) (xB D (va_A (pre_X11_copyRow_2 T a ex fi fl vi) sz) (fun _ => True) (fun b fj fm vj => [((a 0), .inl (T 1, 81, .inl (fun _ => 0))), ((a 1), .inl (T 1, 81, .inl (fun _ => 0)))])) (va_A (pre_X11_copyRow_2 T a ex fi fl vi) sz)) 0 0 (va_A (pre_X11_copyRow_2 T a ex fi fl vi) sz) := by
  refine xofW (cc := cX11_copyRow) (maxL := 2) (ret := none) (by decide) rfl ?_
  intro p e s m args below meth c s₁ R Q hR hQ B hml hv
  obtain ⟨rfl, hsz, hP, hK, hD0⟩ := hv
  have hx := B.exec
  have hb := B.bytes
  have hr := B.returns
  have hts := atoms_spec (ws := xw yX11_copyRow cX11_copyRow 2 none) B.pre
  have htg : ∀ w ∈ xg, w.before _ s = true := fun w h => hts w (List.mem_cons_of_mem _ h)
  have hown : s.vm.findClass RX11 = some m.cls := findClass_of_methodNamed B.named
  have hlocks := B.notSynchronized
  subst hsz
  have hD := hD0.self (sz := s.heap.size)
  generalize hAe : va_A (pre_X11_copyRow_2 T a ex fi fl vi) s.heap.size = A at hD hQ
  have hA : ∀ q : Nat, s.heap.size ≤ q → A q := fun q h => by rw [← hAe]; exact Or.inr h
  have hS : va_S A s.heap s.heap [] := va_S.rf
  replace hP : va_P D vwCl [((a 0), .inl (T 1, 81, .inl (fun _ => 0))), ((a 1), .inl (T 1, 81, .inl (fun _ => 0)))] s.heap := hP
  replace hD : va_D A [((a 0), .inl (T 1, 81, .inl (fun _ => 0))), ((a 1), .inl (T 1, 81, .inl (fun _ => 0)))] := hD
  have hl := lv_entry ([.ref (a 0), .ref (a 1)]) (n := 2) (Nat.le_of_ble_eq_true rfl)
  rw [lg_entry_eq]
  generalize (lg_sl ([.ref (a 0), .ref (a 1)]) ++ List.replicate (2 - (lg_sl ([.ref (a 0), .ref (a 1)])).length) Slot.unset).toArray = ls at hl ⊢
  replace hl : lv_has ls 2 [(0, .ref (a 0)), (1, .ref (a 1))] := hl
  refine lv_aload_n hx hb dX11_copyRow_0 rfl (lv_at hl 0 rfl) ?_
  refine lv_iconst (v := 0) hx hb dX11_copyRow_1 (by decide) ?_
  refine lv_aload_n hx hb dX11_copyRow_2 rfl (lv_at hl 1 rfl) ?_
  refine lv_iconst (v := 0) hx hb dX11_copyRow_3 (by decide) ?_
  refine lv_aload_n hx hb dX11_copyRow_4 rfl (lv_at hl 0 rfl) ?_
  refine va_alen (v := 81) hx hb hK.1 hP 0 1 rfl rfl (by decide) dX11_copyRow_5 ?_
  refine lv_aload_n hx hb dX11_copyRow_6 rfl (lv_at hl 1 rfl) ?_
  refine va_alen (v := 81) hx hb hK.1 hP 1 1 rfl rfl (by decide) dX11_copyRow_7 ?_
  refine va_mmin hx hb (hml.trans hl.1.symm) hown (htg _ kw_706) (htg _ kw_707) (htg _ kw_18) (htg _ kw_708) (by rw [hR]; exact Nat.le_of_ble_eq_true rfl) (by rw [hR]; exact Nat.le_of_ble_eq_true rfl) (by rw [hR]; exact Nat.le_of_ble_eq_true rfl) (by rw [hR]; exact Nat.le_of_ble_eq_true rfl) dX11_copyRow_8 ?_
  refine xz_i 81 (by decide) ?_
  refine va_copyi hx hb (hml.trans hl.1.symm) hown (htg _ kw_709) (htg _ kw_711) (htg _ kw_710) (htg _ kw_19) hK.1 hP hD hS 0 1 1 1 rfl rfl rfl rfl rfl (by decide) (by decide) (by decide) (by decide) (by decide) (fun _ _ => rfl) (by rw [hR]; exact Nat.le_of_ble_eq_true rfl) (by rw [hR]; exact Nat.le_of_ble_eq_true rfl) dX11_copyRow_11 (fun H locs hP hD hS => ?_)
  rw [xc0] at hP hD
  replace hP : va_P D vwCl [((a 0), .inl (T 1, 81, .inl (fun _ => 0))), ((a 1), .inl (T 1, 81, .inl (fun _ => 0)))] H := hP
  replace hD : va_D A [((a 0), .inl (T 1, 81, .inl (fun _ => 0))), ((a 1), .inl (T 1, 81, .inl (fun _ => 0)))] := hD
  have hP9 := hP.sub (ws' := [((a 0), .inl (T 1, 81, .inl (fun _ => 0))), ((a 1), .inl (T 1, 81, .inl (fun _ => 0)))]) [0, 1] rfl
  have hD9 := hD.sub (ws' := [((a 0), .inl (T 1, 81, .inl (fun _ => 0))), ((a 1), .inl (T 1, 81, .inl (fun _ => 0)))]) [0, 1] (by decide +kernel) rfl
  rw [hQ]
  exact W.vret hx hb hr (fun t ht hW => ⟨⟨(), rfl, trivial, ⟨xa [], xf [], xh [], xv [], by rw [ht]; exact hP9, hD9, trivial⟩⟩, hS.F ht⟩) hS.2.2 dX11_copyRow_14
