abbrev pre_X7_init (T : Nat → ClassId) (a ex : Nat → Nat) (fi : Nat → Nat → Int32) (fl : Nat → Nat → Int64) (vi : Nat → Int32) : va_W := [((a 0), .inr (7, [.int 0, .int 0, .null, .null, .null, .null, .null, .null, .null, .null, .null, .null]))]
set_option maxHeartbeats 4000000 in
set_option maxRecDepth 100000 in
theorem c_X7_init (l : Launch) (D : va_G) (T : Nat → ClassId) (a ex : Nat → Nat) (fi : Nat → Nat → Int32) (fl : Nat → Nat → Int64) (vi : Nat → Int32) (sz : Nat) : Met l yX7_init (xw yX7_init cX7_init 1 none) ({ frames := 1, cells := 10, slots := 162, locals := 40 }) (xP D T [.ref (a 0)] sz (pre_X7_init T a ex fi fl vi)) (va_Qv (fun _ : Unit => True) (xB D (va_A (pre_X7_init T a ex fi fl vi) sz) (fun b fj fm vj => [((a 0), .inr (7, [.int 0, .int 0, .ref (b 0), .ref (b 1), .ref (b 2), .ref (b 3), .ref (b 4), .ref (b 5), .ref (b 6), .ref (b 7), .ref (b 8), .ref (b 9)])), ((b 0), .inl (T 2, 9, .inr (.inl (fun _ => 0)))), ((b 1), .inl (T 1, 9, .inl (fun _ => 0))), ((b 2), .inl (T 1, 9, .inl (fun _ => 0))), ((b 3), .inl (T 1, 9, .inl (fun _ => 0))), ((b 4), .inl (T 2, 9, .inr (.inl (fun _ => 0)))), ((b 5), .inl (T 1, 9, .inl (fun _ => 0))), ((b 6), .inl (T 1, 9, .inl (fun _ => 0))), ((b 7), .inl (T 1, 9, .inl (fun _ => 0))), ((b 8), .inl (T 1, 9, .inl (fun _ => 0))), ((b 9), .inl (T 1, 81, .inl (fun _ => 0)))])) (va_A (pre_X7_init T a ex fi fl vi) sz)) 10 162 (va_A (pre_X7_init T a ex fi fl vi) sz) := by
  refine xofW (cc := cX7_init) (maxL := 1) (ret := none) (by decide) rfl ?_
  intro p e s m args below meth c s₁ R Q hR hQ B hml hv
  obtain ⟨rfl, hsz, hP, hK, hD0⟩ := hv
  have hx := B.exec
  have hb := B.bytes
  have hr := B.returns
  have hts := atoms_spec (ws := xw yX7_init cX7_init 1 none) B.pre
  have htg : ∀ w ∈ xg, w.before _ s = true := fun w h => hts w (List.mem_cons_of_mem _ h)
  have hown : s.vm.findClass RX7 = some m.cls := findClass_of_methodNamed B.named
  have hlocks := B.notSynchronized
  have hin : meth.name = "<init>" := (name_of_methodNamed B.named B.method).1
  subst hsz
  have hD := hD0.self (sz := s.heap.size)
  generalize hAe : va_A (pre_X7_init T a ex fi fl vi) s.heap.size = A at hD hQ
  have hA : ∀ q : Nat, s.heap.size ≤ q → A q := fun q h => by rw [← hAe]; exact Or.inr h
  have hS : va_S A s.heap s.heap [] := va_S.rf
  replace hP : va_P D vwCl [((a 0), .inr (7, [.int 0, .int 0, .null, .null, .null, .null, .null, .null, .null, .null, .null, .null]))] s.heap := hP
  replace hD : va_D A [((a 0), .inr (7, [.int 0, .int 0, .null, .null, .null, .null, .null, .null, .null, .null, .null, .null]))] := hD
  have hl := lv_entry ([.ref (a 0)]) (n := 1) (Nat.le_of_ble_eq_true rfl)
  rw [lg_entry_eq]
  generalize (lg_sl ([.ref (a 0)]) ++ List.replicate (1 - (lg_sl ([.ref (a 0)])).length) Slot.unset).toArray = ls at hl ⊢
  replace hl : lv_has ls 1 [(0, .ref (a 0))] := hl
  refine lv_aload_n hx hb dX7_init_0 rfl (lv_at hl 0 rfl) ?_
  refine W.objInit hx hb hown (htg _ kw_157) (htg _ kw_31) (htg _ kw_32) rfl (by rw [hml]; exact hl.1) rfl dX7_init_1 (by rw [hR]; exact Nat.le_of_ble_eq_true rfl) (by rw [hR]; exact Nat.le_of_ble_eq_true rfl) ?_
  refine W.eq (g2 := F0 m 4 ls []) rfl ?_
  refine lv_aload_n hx hb dX7_init_4 rfl (lv_at hl 0 rfl) ?_
  refine lv_bipush (v := 9) hx hb dX7_init_5 (by decide) ?_
  refine va_newa (atype := .long) (a0 := (9, .inr (.inl (fun _ => 0)))) (N' := 9) hx hb (htg _ kw_151) rfl hK.1 hP hD hS hA (fun _ => rfl) (by decide) (by decide) (Nat.le_of_ble_eq_true rfl) (by rw [hR]; exact Nat.le_of_ble_eq_true rfl) (by rw [hR]; exact Nat.le_of_ble_eq_true rfl) dX7_init_7 (fun q7 cA H hK9 hP hD hS => ?_)
  obtain rfl : cA = T 2 := xRA_eq (hK9.2 6 _ rfl).2 (hK.1.2 2 _ rfl).2
  clear hK9
  replace hP : va_P D vwCl [((a 0), .inr (7, [.int 0, .int 0, .null, .null, .null, .null, .null, .null, .null, .null, .null, .null])), (q7, .inl (T 2, 9, .inr (.inl (fun _ => 0))))] H := hP
  replace hD : va_D A [((a 0), .inr (7, [.int 0, .int 0, .null, .null, .null, .null, .null, .null, .null, .null, .null, .null])), (q7, .inl (T 2, 9, .inr (.inl (fun _ => 0))))] := hD
  refine va_putF (D := D) (ci := 7) (v := .ref q7) (ty := .array .long) (C := RX7) (T := TX7) (N := 12) hx hb htg inX7 tyX7 tyX7_ok nmX7 hown hK.1 hP hD hS 0 rfl rfl 2 (by decide) (htg _ kw_169) (fun _ h9 => h9) rfl hin rfl (by decide +kernel) rfl rfl (Nat.le_of_ble_eq_true rfl) dX7_init_9 (fun H locs hP hD hS => ?_)
  replace hP : va_P D vwCl [((a 0), .inr (7, [.int 0, .int 0, .ref q7, .null, .null, .null, .null, .null, .null, .null, .null, .null])), (q7, .inl (T 2, 9, .inr (.inl (fun _ => 0))))] H := hP
  replace hD : va_D A [((a 0), .inr (7, [.int 0, .int 0, .ref q7, .null, .null, .null, .null, .null, .null, .null, .null, .null])), (q7, .inl (T 2, 9, .inr (.inl (fun _ => 0))))] := hD
  refine lv_aload_n hx hb dX7_init_12 rfl (lv_at hl 0 rfl) ?_
  refine lv_bipush (v := 9) hx hb dX7_init_13 (by decide) ?_
  refine va_newa (atype := .int) (a0 := (9, .inl (fun _ => 0))) (N' := 9) hx hb (htg _ kw_221) rfl hK.1 hP hD hS hA (fun _ => rfl) (by decide) (by decide) (Nat.le_of_ble_eq_true rfl) (by rw [hR]; exact Nat.le_of_ble_eq_true rfl) (by rw [hR]; exact Nat.le_of_ble_eq_true rfl) dX7_init_15 (fun q15 cA H hK9 hP hD hS => ?_)
  obtain rfl : cA = T 1 := xRA_eq (hK9.2 6 _ rfl).2 (hK.1.2 1 _ rfl).2
  clear hK9
  replace hP : va_P D vwCl [((a 0), .inr (7, [.int 0, .int 0, .ref q7, .null, .null, .null, .null, .null, .null, .null, .null, .null])), (q7, .inl (T 2, 9, .inr (.inl (fun _ => 0)))), (q15, .inl (T 1, 9, .inl (fun _ => 0)))] H := hP
  replace hD : va_D A [((a 0), .inr (7, [.int 0, .int 0, .ref q7, .null, .null, .null, .null, .null, .null, .null, .null, .null])), (q7, .inl (T 2, 9, .inr (.inl (fun _ => 0)))), (q15, .inl (T 1, 9, .inl (fun _ => 0)))] := hD
  refine va_putF (D := D) (ci := 7) (v := .ref q15) (ty := .array .int) (C := RX7) (T := TX7) (N := 12) hx hb htg inX7 tyX7 tyX7_ok nmX7 hown hK.1 hP hD hS 0 rfl rfl 3 (by decide) (htg _ kw_170) (fun _ h9 => h9) rfl hin rfl (by decide +kernel) rfl rfl (Nat.le_of_ble_eq_true rfl) dX7_init_17 (fun H locs hP hD hS => ?_)
  replace hP : va_P D vwCl [((a 0), .inr (7, [.int 0, .int 0, .ref q7, .ref q15, .null, .null, .null, .null, .null, .null, .null, .null])), (q7, .inl (T 2, 9, .inr (.inl (fun _ => 0)))), (q15, .inl (T 1, 9, .inl (fun _ => 0)))] H := hP
  replace hD : va_D A [((a 0), .inr (7, [.int 0, .int 0, .ref q7, .ref q15, .null, .null, .null, .null, .null, .null, .null, .null])), (q7, .inl (T 2, 9, .inr (.inl (fun _ => 0)))), (q15, .inl (T 1, 9, .inl (fun _ => 0)))] := hD
  refine lv_aload_n hx hb dX7_init_20 rfl (lv_at hl 0 rfl) ?_
  refine lv_bipush (v := 9) hx hb dX7_init_21 (by decide) ?_
  refine va_newa (atype := .int) (a0 := (9, .inl (fun _ => 0))) (N' := 9) hx hb (htg _ kw_221) rfl hK.1 hP hD hS hA (fun _ => rfl) (by decide) (by decide) (Nat.le_of_ble_eq_true rfl) (by rw [hR]; exact Nat.le_of_ble_eq_true rfl) (by rw [hR]; exact Nat.le_of_ble_eq_true rfl) dX7_init_23 (fun q23 cA H hK9 hP hD hS => ?_)
  obtain rfl : cA = T 1 := xRA_eq (hK9.2 6 _ rfl).2 (hK.1.2 1 _ rfl).2
  clear hK9
  replace hP : va_P D vwCl [((a 0), .inr (7, [.int 0, .int 0, .ref q7, .ref q15, .null, .null, .null, .null, .null, .null, .null, .null])), (q7, .inl (T 2, 9, .inr (.inl (fun _ => 0)))), (q15, .inl (T 1, 9, .inl (fun _ => 0))), (q23, .inl (T 1, 9, .inl (fun _ => 0)))] H := hP
  replace hD : va_D A [((a 0), .inr (7, [.int 0, .int 0, .ref q7, .ref q15, .null, .null, .null, .null, .null, .null, .null, .null])), (q7, .inl (T 2, 9, .inr (.inl (fun _ => 0)))), (q15, .inl (T 1, 9, .inl (fun _ => 0))), (q23, .inl (T 1, 9, .inl (fun _ => 0)))] := hD
  refine va_putF (D := D) (ci := 7) (v := .ref q23) (ty := .array .int) (C := RX7) (T := TX7) (N := 12) hx hb htg inX7 tyX7 tyX7_ok nmX7 hown hK.1 hP hD hS 0 rfl rfl 4 (by decide) (htg _ kw_174) (fun _ h9 => h9) rfl hin rfl (by decide +kernel) rfl rfl (Nat.le_of_ble_eq_true rfl) dX7_init_25 (fun H locs hP hD hS => ?_)
  replace hP : va_P D vwCl [((a 0), .inr (7, [.int 0, .int 0, .ref q7, .ref q15, .ref q23, .null, .null, .null, .null, .null, .null, .null])), (q7, .inl (T 2, 9, .inr (.inl (fun _ => 0)))), (q15, .inl (T 1, 9, .inl (fun _ => 0))), (q23, .inl (T 1, 9, .inl (fun _ => 0)))] H := hP
  replace hD : va_D A [((a 0), .inr (7, [.int 0, .int 0, .ref q7, .ref q15, .ref q23, .null, .null, .null, .null, .null, .null, .null])), (q7, .inl (T 2, 9, .inr (.inl (fun _ => 0)))), (q15, .inl (T 1, 9, .inl (fun _ => 0))), (q23, .inl (T 1, 9, .inl (fun _ => 0)))] := hD
  refine lv_aload_n hx hb dX7_init_28 rfl (lv_at hl 0 rfl) ?_
  refine lv_bipush (v := 9) hx hb dX7_init_29 (by decide) ?_
  refine va_newa (atype := .int) (a0 := (9, .inl (fun _ => 0))) (N' := 9) hx hb (htg _ kw_221) rfl hK.1 hP hD hS hA (fun _ => rfl) (by decide) (by decide) (Nat.le_of_ble_eq_true rfl) (by rw [hR]; exact Nat.le_of_ble_eq_true rfl) (by rw [hR]; exact Nat.le_of_ble_eq_true rfl) dX7_init_31 (fun q31 cA H hK9 hP hD hS => ?_)
  obtain rfl : cA = T 1 := xRA_eq (hK9.2 6 _ rfl).2 (hK.1.2 1 _ rfl).2
  clear hK9
  replace hP : va_P D vwCl [((a 0), .inr (7, [.int 0, .int 0, .ref q7, .ref q15, .ref q23, .null, .null, .null, .null, .null, .null, .null])), (q7, .inl (T 2, 9, .inr (.inl (fun _ => 0)))), (q15, .inl (T 1, 9, .inl (fun _ => 0))), (q23, .inl (T 1, 9, .inl (fun _ => 0))), (q31, .inl (T 1, 9, .inl (fun _ => 0)))] H := hP
  replace hD : va_D A [((a 0), .inr (7, [.int 0, .int 0, .ref q7, .ref q15, .ref q23, .null, .null, .null, .null, .null, .null, .null])), (q7, .inl (T 2, 9, .inr (.inl (fun _ => 0)))), (q15, .inl (T 1, 9, .inl (fun _ => 0))), (q23, .inl (T 1, 9, .inl (fun _ => 0))), (q31, .inl (T 1, 9, .inl (fun _ => 0)))] := hD
  refine va_putF (D := D) (ci := 7) (v := .ref q31) (ty := .array .int) (C := RX7) (T := TX7) (N := 12) hx hb htg inX7 tyX7 tyX7_ok nmX7 hown hK.1 hP hD hS 0 rfl rfl 5 (by decide) (htg _ kw_177) (fun _ h9 => h9) rfl hin rfl (by decide +kernel) rfl rfl (Nat.le_of_ble_eq_true rfl) dX7_init_33 (fun H locs hP hD hS => ?_)
  replace hP : va_P D vwCl [((a 0), .inr (7, [.int 0, .int 0, .ref q7, .ref q15, .ref q23, .ref q31, .null, .null, .null, .null, .null, .null])), (q7, .inl (T 2, 9, .inr (.inl (fun _ => 0)))), (q15, .inl (T 1, 9, .inl (fun _ => 0))), (q23, .inl (T 1, 9, .inl (fun _ => 0))), (q31, .inl (T 1, 9, .inl (fun _ => 0)))] H := hP
  replace hD : va_D A [((a 0), .inr (7, [.int 0, .int 0, .ref q7, .ref q15, .ref q23, .ref q31, .null, .null, .null, .null, .null, .null])), (q7, .inl (T 2, 9, .inr (.inl (fun _ => 0)))), (q15, .inl (T 1, 9, .inl (fun _ => 0))), (q23, .inl (T 1, 9, .inl (fun _ => 0))), (q31, .inl (T 1, 9, .inl (fun _ => 0)))] := hD
  refine lv_aload_n hx hb dX7_init_36 rfl (lv_at hl 0 rfl) ?_
  refine lv_bipush (v := 9) hx hb dX7_init_37 (by decide) ?_
  refine va_newa (atype := .long) (a0 := (9, .inr (.inl (fun _ => 0)))) (N' := 9) hx hb (htg _ kw_151) rfl hK.1 hP hD hS hA (fun _ => rfl) (by decide) (by decide) (Nat.le_of_ble_eq_true rfl) (by rw [hR]; exact Nat.le_of_ble_eq_true rfl) (by rw [hR]; exact Nat.le_of_ble_eq_true rfl) dX7_init_39 (fun q39 cA H hK9 hP hD hS => ?_)
  obtain rfl : cA = T 2 := xRA_eq (hK9.2 6 _ rfl).2 (hK.1.2 2 _ rfl).2
  clear hK9
  replace hP : va_P D vwCl [((a 0), .inr (7, [.int 0, .int 0, .ref q7, .ref q15, .ref q23, .ref q31, .null, .null, .null, .null, .null, .null])), (q7, .inl (T 2, 9, .inr (.inl (fun _ => 0)))), (q15, .inl (T 1, 9, .inl (fun _ => 0))), (q23, .inl (T 1, 9, .inl (fun _ => 0))), (q31, .inl (T 1, 9, .inl (fun _ => 0))), (q39, .inl (T 2, 9, .inr (.inl (fun _ => 0))))] H := hP
  replace hD : va_D A [((a 0), .inr (7, [.int 0, .int 0, .ref q7, .ref q15, .ref q23, .ref q31, .null, .null, .null, .null, .null, .null])), (q7, .inl (T 2, 9, .inr (.inl (fun _ => 0)))), (q15, .inl (T 1, 9, .inl (fun _ => 0))), (q23, .inl (T 1, 9, .inl (fun _ => 0))), (q31, .inl (T 1, 9, .inl (fun _ => 0))), (q39, .inl (T 2, 9, .inr (.inl (fun _ => 0))))] := hD
  refine va_putF (D := D) (ci := 7) (v := .ref q39) (ty := .array .long) (C := RX7) (T := TX7) (N := 12) hx hb htg inX7 tyX7 tyX7_ok nmX7 hown hK.1 hP hD hS 0 rfl rfl 6 (by decide) (htg _ kw_180) (fun _ h9 => h9) rfl hin rfl (by decide +kernel) rfl rfl (Nat.le_of_ble_eq_true rfl) dX7_init_41 (fun H locs hP hD hS => ?_)
  replace hP : va_P D vwCl [((a 0), .inr (7, [.int 0, .int 0, .ref q7, .ref q15, .ref q23, .ref q31, .ref q39, .null, .null, .null, .null, .null])), (q7, .inl (T 2, 9, .inr (.inl (fun _ => 0)))), (q15, .inl (T 1, 9, .inl (fun _ => 0))), (q23, .inl (T 1, 9, .inl (fun _ => 0))), (q31, .inl (T 1, 9, .inl (fun _ => 0))), (q39, .inl (T 2, 9, .inr (.inl (fun _ => 0))))] H := hP
  replace hD : va_D A [((a 0), .inr (7, [.int 0, .int 0, .ref q7, .ref q15, .ref q23, .ref q31, .ref q39, .null, .null, .null, .null, .null])), (q7, .inl (T 2, 9, .inr (.inl (fun _ => 0)))), (q15, .inl (T 1, 9, .inl (fun _ => 0))), (q23, .inl (T 1, 9, .inl (fun _ => 0))), (q31, .inl (T 1, 9, .inl (fun _ => 0))), (q39, .inl (T 2, 9, .inr (.inl (fun _ => 0))))] := hD
  refine lv_aload_n hx hb dX7_init_44 rfl (lv_at hl 0 rfl) ?_
  refine lv_bipush (v := 9) hx hb dX7_init_45 (by decide) ?_
  refine va_newa (atype := .int) (a0 := (9, .inl (fun _ => 0))) (N' := 9) hx hb (htg _ kw_221) rfl hK.1 hP hD hS hA (fun _ => rfl) (by decide) (by decide) (Nat.le_of_ble_eq_true rfl) (by rw [hR]; exact Nat.le_of_ble_eq_true rfl) (by rw [hR]; exact Nat.le_of_ble_eq_true rfl) dX7_init_47 (fun q47 cA H hK9 hP hD hS => ?_)
  obtain rfl : cA = T 1 := xRA_eq (hK9.2 6 _ rfl).2 (hK.1.2 1 _ rfl).2
  clear hK9
  replace hP : va_P D vwCl [((a 0), .inr (7, [.int 0, .int 0, .ref q7, .ref q15, .ref q23, .ref q31, .ref q39, .null, .null, .null, .null, .null])), (q7, .inl (T 2, 9, .inr (.inl (fun _ => 0)))), (q15, .inl (T 1, 9, .inl (fun _ => 0))), (q23, .inl (T 1, 9, .inl (fun _ => 0))), (q31, .inl (T 1, 9, .inl (fun _ => 0))), (q39, .inl (T 2, 9, .inr (.inl (fun _ => 0)))), (q47, .inl (T 1, 9, .inl (fun _ => 0)))] H := hP
  replace hD : va_D A [((a 0), .inr (7, [.int 0, .int 0, .ref q7, .ref q15, .ref q23, .ref q31, .ref q39, .null, .null, .null, .null, .null])), (q7, .inl (T 2, 9, .inr (.inl (fun _ => 0)))), (q15, .inl (T 1, 9, .inl (fun _ => 0))), (q23, .inl (T 1, 9, .inl (fun _ => 0))), (q31, .inl (T 1, 9, .inl (fun _ => 0))), (q39, .inl (T 2, 9, .inr (.inl (fun _ => 0)))), (q47, .inl (T 1, 9, .inl (fun _ => 0)))] := hD
  refine va_putF (D := D) (ci := 7) (v := .ref q47) (ty := .array .int) (C := RX7) (T := TX7) (N := 12) hx hb htg inX7 tyX7 tyX7_ok nmX7 hown hK.1 hP hD hS 0 rfl rfl 7 (by decide) (htg _ kw_181) (fun _ h9 => h9) rfl hin rfl (by decide +kernel) rfl rfl (Nat.le_of_ble_eq_true rfl) dX7_init_49 (fun H locs hP hD hS => ?_)
  replace hP : va_P D vwCl [((a 0), .inr (7, [.int 0, .int 0, .ref q7, .ref q15, .ref q23, .ref q31, .ref q39, .ref q47, .null, .null, .null, .null])), (q7, .inl (T 2, 9, .inr (.inl (fun _ => 0)))), (q15, .inl (T 1, 9, .inl (fun _ => 0))), (q23, .inl (T 1, 9, .inl (fun _ => 0))), (q31, .inl (T 1, 9, .inl (fun _ => 0))), (q39, .inl (T 2, 9, .inr (.inl (fun _ => 0)))), (q47, .inl (T 1, 9, .inl (fun _ => 0)))] H := hP
  replace hD : va_D A [((a 0), .inr (7, [.int 0, .int 0, .ref q7, .ref q15, .ref q23, .ref q31, .ref q39, .ref q47, .null, .null, .null, .null])), (q7, .inl (T 2, 9, .inr (.inl (fun _ => 0)))), (q15, .inl (T 1, 9, .inl (fun _ => 0))), (q23, .inl (T 1, 9, .inl (fun _ => 0))), (q31, .inl (T 1, 9, .inl (fun _ => 0))), (q39, .inl (T 2, 9, .inr (.inl (fun _ => 0)))), (q47, .inl (T 1, 9, .inl (fun _ => 0)))] := hD
  refine lv_aload_n hx hb dX7_init_52 rfl (lv_at hl 0 rfl) ?_
  refine lv_bipush (v := 9) hx hb dX7_init_53 (by decide) ?_
  refine va_newa (atype := .int) (a0 := (9, .inl (fun _ => 0))) (N' := 9) hx hb (htg _ kw_221) rfl hK.1 hP hD hS hA (fun _ => rfl) (by decide) (by decide) (Nat.le_of_ble_eq_true rfl) (by rw [hR]; exact Nat.le_of_ble_eq_true rfl) (by rw [hR]; exact Nat.le_of_ble_eq_true rfl) dX7_init_55 (fun q55 cA H hK9 hP hD hS => ?_)
  obtain rfl : cA = T 1 := xRA_eq (hK9.2 6 _ rfl).2 (hK.1.2 1 _ rfl).2
  clear hK9
  replace hP : va_P D vwCl [((a 0), .inr (7, [.int 0, .int 0, .ref q7, .ref q15, .ref q23, .ref q31, .ref q39, .ref q47, .null, .null, .null, .null])), (q7, .inl (T 2, 9, .inr (.inl (fun _ => 0)))), (q15, .inl (T 1, 9, .inl (fun _ => 0))), (q23, .inl (T 1, 9, .inl (fun _ => 0))), (q31, .inl (T 1, 9, .inl (fun _ => 0))), (q39, .inl (T 2, 9, .inr (.inl (fun _ => 0)))), (q47, .inl (T 1, 9, .inl (fun _ => 0))), (q55, .inl (T 1, 9, .inl (fun _ => 0)))] H := hP
  replace hD : va_D A [((a 0), .inr (7, [.int 0, .int 0, .ref q7, .ref q15, .ref q23, .ref q31, .ref q39, .ref q47, .null, .null, .null, .null])), (q7, .inl (T 2, 9, .inr (.inl (fun _ => 0)))), (q15, .inl (T 1, 9, .inl (fun _ => 0))), (q23, .inl (T 1, 9, .inl (fun _ => 0))), (q31, .inl (T 1, 9, .inl (fun _ => 0))), (q39, .inl (T 2, 9, .inr (.inl (fun _ => 0)))), (q47, .inl (T 1, 9, .inl (fun _ => 0))), (q55, .inl (T 1, 9, .inl (fun _ => 0)))] := hD
  refine va_putF (D := D) (ci := 7) (v := .ref q55) (ty := .array .int) (C := RX7) (T := TX7) (N := 12) hx hb htg inX7 tyX7 tyX7_ok nmX7 hown hK.1 hP hD hS 0 rfl rfl 8 (by decide) (htg _ kw_183) (fun _ h9 => h9) rfl hin rfl (by decide +kernel) rfl rfl (Nat.le_of_ble_eq_true rfl) dX7_init_57 (fun H locs hP hD hS => ?_)
  replace hP : va_P D vwCl [((a 0), .inr (7, [.int 0, .int 0, .ref q7, .ref q15, .ref q23, .ref q31, .ref q39, .ref q47, .ref q55, .null, .null, .null])), (q7, .inl (T 2, 9, .inr (.inl (fun _ => 0)))), (q15, .inl (T 1, 9, .inl (fun _ => 0))), (q23, .inl (T 1, 9, .inl (fun _ => 0))), (q31, .inl (T 1, 9, .inl (fun _ => 0))), (q39, .inl (T 2, 9, .inr (.inl (fun _ => 0)))), (q47, .inl (T 1, 9, .inl (fun _ => 0))), (q55, .inl (T 1, 9, .inl (fun _ => 0)))] H := hP
  replace hD : va_D A [((a 0), .inr (7, [.int 0, .int 0, .ref q7, .ref q15, .ref q23, .ref q31, .ref q39, .ref q47, .ref q55, .null, .null, .null])), (q7, .inl (T 2, 9, .inr (.inl (fun _ => 0)))), (q15, .inl (T 1, 9, .inl (fun _ => 0))), (q23, .inl (T 1, 9, .inl (fun _ => 0))), (q31, .inl (T 1, 9, .inl (fun _ => 0))), (q39, .inl (T 2, 9, .inr (.inl (fun _ => 0)))), (q47, .inl (T 1, 9, .inl (fun _ => 0))), (q55, .inl (T 1, 9, .inl (fun _ => 0)))] := hD
  refine lv_aload_n hx hb dX7_init_60 rfl (lv_at hl 0 rfl) ?_
  refine lv_bipush (v := 9) hx hb dX7_init_61 (by decide) ?_
  refine va_newa (atype := .int) (a0 := (9, .inl (fun _ => 0))) (N' := 9) hx hb (htg _ kw_221) rfl hK.1 hP hD hS hA (fun _ => rfl) (by decide) (by decide) (Nat.le_of_ble_eq_true rfl) (by rw [hR]; exact Nat.le_of_ble_eq_true rfl) (by rw [hR]; exact Nat.le_of_ble_eq_true rfl) dX7_init_63 (fun q63 cA H hK9 hP hD hS => ?_)
  obtain rfl : cA = T 1 := xRA_eq (hK9.2 6 _ rfl).2 (hK.1.2 1 _ rfl).2
  clear hK9
  replace hP : va_P D vwCl [((a 0), .inr (7, [.int 0, .int 0, .ref q7, .ref q15, .ref q23, .ref q31, .ref q39, .ref q47, .ref q55, .null, .null, .null])), (q7, .inl (T 2, 9, .inr (.inl (fun _ => 0)))), (q15, .inl (T 1, 9, .inl (fun _ => 0))), (q23, .inl (T 1, 9, .inl (fun _ => 0))), (q31, .inl (T 1, 9, .inl (fun _ => 0))), (q39, .inl (T 2, 9, .inr (.inl (fun _ => 0)))), (q47, .inl (T 1, 9, .inl (fun _ => 0))), (q55, .inl (T 1, 9, .inl (fun _ => 0))), (q63, .inl (T 1, 9, .inl (fun _ => 0)))] H := hP
  replace hD : va_D A [((a 0), .inr (7, [.int 0, .int 0, .ref q7, .ref q15, .ref q23, .ref q31, .ref q39, .ref q47, .ref q55, .null, .null, .null])), (q7, .inl (T 2, 9, .inr (.inl (fun _ => 0)))), (q15, .inl (T 1, 9, .inl (fun _ => 0))), (q23, .inl (T 1, 9, .inl (fun _ => 0))), (q31, .inl (T 1, 9, .inl (fun _ => 0))), (q39, .inl (T 2, 9, .inr (.inl (fun _ => 0)))), (q47, .inl (T 1, 9, .inl (fun _ => 0))), (q55, .inl (T 1, 9, .inl (fun _ => 0))), (q63, .inl (T 1, 9, .inl (fun _ => 0)))] := hD
  refine va_putF (D := D) (ci := 7) (v := .ref q63) (ty := .array .int) (C := RX7) (T := TX7) (N := 12) hx hb htg inX7 tyX7 tyX7_ok nmX7 hown hK.1 hP hD hS 0 rfl rfl 9 (by decide) (htg _ kw_186) (fun _ h9 => h9) rfl hin rfl (by decide +kernel) rfl rfl (Nat.le_of_ble_eq_true rfl) dX7_init_65 (fun H locs hP hD hS => ?_)
  replace hP : va_P D vwCl [((a 0), .inr (7, [.int 0, .int 0, .ref q7, .ref q15, .ref q23, .ref q31, .ref q39, .ref q47, .ref q55, .ref q63, .null, .null])), (q7, .inl (T 2, 9, .inr (.inl (fun _ => 0)))), (q15, .inl (T 1, 9, .inl (fun _ => 0))), (q23, .inl (T 1, 9, .inl (fun _ => 0))), (q31, .inl (T 1, 9, .inl (fun _ => 0))), (q39, .inl (T 2, 9, .inr (.inl (fun _ => 0)))), (q47, .inl (T 1, 9, .inl (fun _ => 0))), (q55, .inl (T 1, 9, .inl (fun _ => 0))), (q63, .inl (T 1, 9, .inl (fun _ => 0)))] H := hP
  replace hD : va_D A [((a 0), .inr (7, [.int 0, .int 0, .ref q7, .ref q15, .ref q23, .ref q31, .ref q39, .ref q47, .ref q55, .ref q63, .null, .null])), (q7, .inl (T 2, 9, .inr (.inl (fun _ => 0)))), (q15, .inl (T 1, 9, .inl (fun _ => 0))), (q23, .inl (T 1, 9, .inl (fun _ => 0))), (q31, .inl (T 1, 9, .inl (fun _ => 0))), (q39, .inl (T 2, 9, .inr (.inl (fun _ => 0)))), (q47, .inl (T 1, 9, .inl (fun _ => 0))), (q55, .inl (T 1, 9, .inl (fun _ => 0))), (q63, .inl (T 1, 9, .inl (fun _ => 0)))] := hD
  refine lv_aload_n hx hb dX7_init_68 rfl (lv_at hl 0 rfl) ?_
  refine lv_bipush (v := 9) hx hb dX7_init_69 (by decide) ?_
  refine va_newa (atype := .int) (a0 := (9, .inl (fun _ => 0))) (N' := 9) hx hb (htg _ kw_221) rfl hK.1 hP hD hS hA (fun _ => rfl) (by decide) (by decide) (Nat.le_of_ble_eq_true rfl) (by rw [hR]; exact Nat.le_of_ble_eq_true rfl) (by rw [hR]; exact Nat.le_of_ble_eq_true rfl) dX7_init_71 (fun q71 cA H hK9 hP hD hS => ?_)
  obtain rfl : cA = T 1 := xRA_eq (hK9.2 6 _ rfl).2 (hK.1.2 1 _ rfl).2
  clear hK9
  replace hP : va_P D vwCl [((a 0), .inr (7, [.int 0, .int 0, .ref q7, .ref q15, .ref q23, .ref q31, .ref q39, .ref q47, .ref q55, .ref q63, .null, .null])), (q7, .inl (T 2, 9, .inr (.inl (fun _ => 0)))), (q15, .inl (T 1, 9, .inl (fun _ => 0))), (q23, .inl (T 1, 9, .inl (fun _ => 0))), (q31, .inl (T 1, 9, .inl (fun _ => 0))), (q39, .inl (T 2, 9, .inr (.inl (fun _ => 0)))), (q47, .inl (T 1, 9, .inl (fun _ => 0))), (q55, .inl (T 1, 9, .inl (fun _ => 0))), (q63, .inl (T 1, 9, .inl (fun _ => 0))), (q71, .inl (T 1, 9, .inl (fun _ => 0)))] H := hP
  replace hD : va_D A [((a 0), .inr (7, [.int 0, .int 0, .ref q7, .ref q15, .ref q23, .ref q31, .ref q39, .ref q47, .ref q55, .ref q63, .null, .null])), (q7, .inl (T 2, 9, .inr (.inl (fun _ => 0)))), (q15, .inl (T 1, 9, .inl (fun _ => 0))), (q23, .inl (T 1, 9, .inl (fun _ => 0))), (q31, .inl (T 1, 9, .inl (fun _ => 0))), (q39, .inl (T 2, 9, .inr (.inl (fun _ => 0)))), (q47, .inl (T 1, 9, .inl (fun _ => 0))), (q55, .inl (T 1, 9, .inl (fun _ => 0))), (q63, .inl (T 1, 9, .inl (fun _ => 0))), (q71, .inl (T 1, 9, .inl (fun _ => 0)))] := hD
  refine va_putF (D := D) (ci := 7) (v := .ref q71) (ty := .array .int) (C := RX7) (T := TX7) (N := 12) hx hb htg inX7 tyX7 tyX7_ok nmX7 hown hK.1 hP hD hS 0 rfl rfl 10 (by decide) (htg _ kw_191) (fun _ h9 => h9) rfl hin rfl (by decide +kernel) rfl rfl (Nat.le_of_ble_eq_true rfl) dX7_init_73 (fun H locs hP hD hS => ?_)
  replace hP : va_P D vwCl [((a 0), .inr (7, [.int 0, .int 0, .ref q7, .ref q15, .ref q23, .ref q31, .ref q39, .ref q47, .ref q55, .ref q63, .ref q71, .null])), (q7, .inl (T 2, 9, .inr (.inl (fun _ => 0)))), (q15, .inl (T 1, 9, .inl (fun _ => 0))), (q23, .inl (T 1, 9, .inl (fun _ => 0))), (q31, .inl (T 1, 9, .inl (fun _ => 0))), (q39, .inl (T 2, 9, .inr (.inl (fun _ => 0)))), (q47, .inl (T 1, 9, .inl (fun _ => 0))), (q55, .inl (T 1, 9, .inl (fun _ => 0))), (q63, .inl (T 1, 9, .inl (fun _ => 0))), (q71, .inl (T 1, 9, .inl (fun _ => 0)))] H := hP
  replace hD : va_D A [((a 0), .inr (7, [.int 0, .int 0, .ref q7, .ref q15, .ref q23, .ref q31, .ref q39, .ref q47, .ref q55, .ref q63, .ref q71, .null])), (q7, .inl (T 2, 9, .inr (.inl (fun _ => 0)))), (q15, .inl (T 1, 9, .inl (fun _ => 0))), (q23, .inl (T 1, 9, .inl (fun _ => 0))), (q31, .inl (T 1, 9, .inl (fun _ => 0))), (q39, .inl (T 2, 9, .inr (.inl (fun _ => 0)))), (q47, .inl (T 1, 9, .inl (fun _ => 0))), (q55, .inl (T 1, 9, .inl (fun _ => 0))), (q63, .inl (T 1, 9, .inl (fun _ => 0))), (q71, .inl (T 1, 9, .inl (fun _ => 0)))] := hD
  refine lv_aload_n hx hb dX7_init_76 rfl (lv_at hl 0 rfl) ?_
  refine lv_bipush (v := 81) hx hb dX7_init_77 (by decide) ?_
  refine va_newa (atype := .int) (a0 := (81, .inl (fun _ => 0))) (N' := 81) hx hb (htg _ kw_221) rfl hK.1 hP hD hS hA (fun _ => rfl) (by decide) (by decide) (Nat.le_of_ble_eq_true rfl) (by rw [hR]; exact Nat.le_of_ble_eq_true rfl) (by rw [hR]; exact Nat.le_of_ble_eq_true rfl) dX7_init_79 (fun q79 cA H hK9 hP hD hS => ?_)
  obtain rfl : cA = T 1 := xRA_eq (hK9.2 6 _ rfl).2 (hK.1.2 1 _ rfl).2
  clear hK9
  replace hP : va_P D vwCl [((a 0), .inr (7, [.int 0, .int 0, .ref q7, .ref q15, .ref q23, .ref q31, .ref q39, .ref q47, .ref q55, .ref q63, .ref q71, .null])), (q7, .inl (T 2, 9, .inr (.inl (fun _ => 0)))), (q15, .inl (T 1, 9, .inl (fun _ => 0))), (q23, .inl (T 1, 9, .inl (fun _ => 0))), (q31, .inl (T 1, 9, .inl (fun _ => 0))), (q39, .inl (T 2, 9, .inr (.inl (fun _ => 0)))), (q47, .inl (T 1, 9, .inl (fun _ => 0))), (q55, .inl (T 1, 9, .inl (fun _ => 0))), (q63, .inl (T 1, 9, .inl (fun _ => 0))), (q71, .inl (T 1, 9, .inl (fun _ => 0))), (q79, .inl (T 1, 81, .inl (fun _ => 0)))] H := hP
  replace hD : va_D A [((a 0), .inr (7, [.int 0, .int 0, .ref q7, .ref q15, .ref q23, .ref q31, .ref q39, .ref q47, .ref q55, .ref q63, .ref q71, .null])), (q7, .inl (T 2, 9, .inr (.inl (fun _ => 0)))), (q15, .inl (T 1, 9, .inl (fun _ => 0))), (q23, .inl (T 1, 9, .inl (fun _ => 0))), (q31, .inl (T 1, 9, .inl (fun _ => 0))), (q39, .inl (T 2, 9, .inr (.inl (fun _ => 0)))), (q47, .inl (T 1, 9, .inl (fun _ => 0))), (q55, .inl (T 1, 9, .inl (fun _ => 0))), (q63, .inl (T 1, 9, .inl (fun _ => 0))), (q71, .inl (T 1, 9, .inl (fun _ => 0))), (q79, .inl (T 1, 81, .inl (fun _ => 0)))] := hD
  refine va_putF (D := D) (ci := 7) (v := .ref q79) (ty := .array .int) (C := RX7) (T := TX7) (N := 12) hx hb htg inX7 tyX7 tyX7_ok nmX7 hown hK.1 hP hD hS 0 rfl rfl 11 (by decide) (htg _ kw_194) (fun _ h9 => h9) rfl hin rfl (by decide +kernel) rfl rfl (Nat.le_of_ble_eq_true rfl) dX7_init_81 (fun H locs hP hD hS => ?_)
  replace hP : va_P D vwCl [((a 0), .inr (7, [.int 0, .int 0, .ref q7, .ref q15, .ref q23, .ref q31, .ref q39, .ref q47, .ref q55, .ref q63, .ref q71, .ref q79])), (q7, .inl (T 2, 9, .inr (.inl (fun _ => 0)))), (q15, .inl (T 1, 9, .inl (fun _ => 0))), (q23, .inl (T 1, 9, .inl (fun _ => 0))), (q31, .inl (T 1, 9, .inl (fun _ => 0))), (q39, .inl (T 2, 9, .inr (.inl (fun _ => 0)))), (q47, .inl (T 1, 9, .inl (fun _ => 0))), (q55, .inl (T 1, 9, .inl (fun _ => 0))), (q63, .inl (T 1, 9, .inl (fun _ => 0))), (q71, .inl (T 1, 9, .inl (fun _ => 0))), (q79, .inl (T 1, 81, .inl (fun _ => 0)))] H := hP
  replace hD : va_D A [((a 0), .inr (7, [.int 0, .int 0, .ref q7, .ref q15, .ref q23, .ref q31, .ref q39, .ref q47, .ref q55, .ref q63, .ref q71, .ref q79])), (q7, .inl (T 2, 9, .inr (.inl (fun _ => 0)))), (q15, .inl (T 1, 9, .inl (fun _ => 0))), (q23, .inl (T 1, 9, .inl (fun _ => 0))), (q31, .inl (T 1, 9, .inl (fun _ => 0))), (q39, .inl (T 2, 9, .inr (.inl (fun _ => 0)))), (q47, .inl (T 1, 9, .inl (fun _ => 0))), (q55, .inl (T 1, 9, .inl (fun _ => 0))), (q63, .inl (T 1, 9, .inl (fun _ => 0))), (q71, .inl (T 1, 9, .inl (fun _ => 0))), (q79, .inl (T 1, 81, .inl (fun _ => 0)))] := hD
  have hP9 := hP.sub (ws' := [((a 0), .inr (7, [.int 0, .int 0, .ref q7, .ref q15, .ref q23, .ref q31, .ref q39, .ref q47, .ref q55, .ref q63, .ref q71, .ref q79])), (q7, .inl (T 2, 9, .inr (.inl (fun _ => 0)))), (q15, .inl (T 1, 9, .inl (fun _ => 0))), (q23, .inl (T 1, 9, .inl (fun _ => 0))), (q31, .inl (T 1, 9, .inl (fun _ => 0))), (q39, .inl (T 2, 9, .inr (.inl (fun _ => 0)))), (q47, .inl (T 1, 9, .inl (fun _ => 0))), (q55, .inl (T 1, 9, .inl (fun _ => 0))), (q63, .inl (T 1, 9, .inl (fun _ => 0))), (q71, .inl (T 1, 9, .inl (fun _ => 0))), (q79, .inl (T 1, 81, .inl (fun _ => 0)))]) [0, 1, 2, 3, 4, 5, 6, 7, 8, 9, 10] rfl
  have hD9 := hD.sub (ws' := [((a 0), .inr (7, [.int 0, .int 0, .ref q7, .ref q15, .ref q23, .ref q31, .ref q39, .ref q47, .ref q55, .ref q63, .ref q71, .ref q79])), (q7, .inl (T 2, 9, .inr (.inl (fun _ => 0)))), (q15, .inl (T 1, 9, .inl (fun _ => 0))), (q23, .inl (T 1, 9, .inl (fun _ => 0))), (q31, .inl (T 1, 9, .inl (fun _ => 0))), (q39, .inl (T 2, 9, .inr (.inl (fun _ => 0)))), (q47, .inl (T 1, 9, .inl (fun _ => 0))), (q55, .inl (T 1, 9, .inl (fun _ => 0))), (q63, .inl (T 1, 9, .inl (fun _ => 0))), (q71, .inl (T 1, 9, .inl (fun _ => 0))), (q79, .inl (T 1, 81, .inl (fun _ => 0)))]) [0, 1, 2, 3, 4, 5, 6, 7, 8, 9, 10] (by decide +kernel) rfl
  refine W.widen (k := 10) (n := 162) (Nat.le_of_ble_eq_true rfl) (Nat.le_of_ble_eq_true rfl) ?_
  rw [hQ]
  exact W.vret hx hb hr (fun t ht hW => ⟨⟨(), rfl, trivial, ⟨xa [q7, q15, q23, q31, q39, q47, q55, q63, q71, q79], xf [], xh [], xv [], by rw [ht]; exact hP9, hD9⟩⟩, hS.F ht⟩) hS.2.2 dX7_init_84
abbrev pre_X7_isName (T : Nat → ClassId) (a ex : Nat → Nat) (fi : Nat → Nat → Int32) (fl : Nat → Nat → Int64) (vi : Nat → Int32) : va_W := [((a 0), .inr (7, [.int 0, .int 0, .ref (ex 0), .ref (ex 1), .ref (ex 2), .ref (ex 3), .ref (ex 4), .ref (ex 5), .ref (ex 6), .ref (ex 7), .ref (ex 8), .ref (ex 9)]))]
set_option maxHeartbeats 4000000 in
set_option maxRecDepth 100000 in
theorem c_X7_isName (l : Launch) (D : va_G) (T : Nat → ClassId) (a ex : Nat → Nat) (fi : Nat → Nat → Int32) (fl : Nat → Nat → Int64) (vi : Nat → Int32) (sz : Nat) : Met l yX7_isName (xw yX7_isName cX7_isName 2 (some .boolean)) ({ frames := 0, cells := 0, slots := 0, locals := 0 }) (xP D T [.ref (a 0), .int (vi 0)] sz (pre_X7_isName T a ex fi fl vi)) (va_Qi (fun r (_ : Unit) => r = 0) (xB D (va_A (pre_X7_isName T a ex fi fl vi) sz) (fun b fj fm vj => [((a 0), .inr (7, [.int 0, .int 0, .ref (ex 0), .ref (ex 1), .ref (ex 2), .ref (ex 3), .ref (ex 4), .ref (ex 5), .ref (ex 6), .ref (ex 7), .ref (ex 8), .ref (ex 9)]))])) (va_A (pre_X7_isName T a ex fi fl vi) sz)) 0 0 (va_A (pre_X7_isName T a ex fi fl vi) sz) := by
  refine xofW (cc := cX7_isName) (maxL := 2) (ret := (some .boolean)) (by decide) rfl ?_
  intro p e s m args below meth c s₁ R Q hR hQ B hml hv
  obtain ⟨rfl, hsz, hP, hK, hD0⟩ := hv
  have hx := B.exec
  have hb := B.bytes
  have hr := B.returns
  have hts := atoms_spec (ws := xw yX7_isName cX7_isName 2 (some .boolean)) B.pre
  have htg : ∀ w ∈ xg, w.before _ s = true := fun w h => hts w (List.mem_cons_of_mem _ h)
  have hown : s.vm.findClass RX7 = some m.cls := findClass_of_methodNamed B.named
  have hlocks := B.notSynchronized
  subst hsz
  have hD := hD0.self (sz := s.heap.size)
  generalize hAe : va_A (pre_X7_isName T a ex fi fl vi) s.heap.size = A at hD hQ
  have hA : ∀ q : Nat, s.heap.size ≤ q → A q := fun q h => by rw [← hAe]; exact Or.inr h
  have hS : va_S A s.heap s.heap [] := va_S.rf
  replace hP : va_P D vwCl [((a 0), .inr (7, [.int 0, .int 0, .ref (ex 0), .ref (ex 1), .ref (ex 2), .ref (ex 3), .ref (ex 4), .ref (ex 5), .ref (ex 6), .ref (ex 7), .ref (ex 8), .ref (ex 9)]))] s.heap := hP
  replace hD : va_D A [((a 0), .inr (7, [.int 0, .int 0, .ref (ex 0), .ref (ex 1), .ref (ex 2), .ref (ex 3), .ref (ex 4), .ref (ex 5), .ref (ex 6), .ref (ex 7), .ref (ex 8), .ref (ex 9)]))] := hD
  have hl := lv_entry ([.ref (a 0), .int (vi 0)]) (n := 2) (Nat.le_of_ble_eq_true rfl)
  rw [lg_entry_eq]
  generalize (lg_sl ([.ref (a 0), .int (vi 0)]) ++ List.replicate (2 - (lg_sl ([.ref (a 0), .int (vi 0)])).length) Slot.unset).toArray = ls at hl ⊢
  replace hl : lv_has ls 2 [(0, .ref (a 0)), (1, .int (vi 0))] := hl
  refine lv_iload_n hx hb dX7_isName_0 rfl (lv_at hl 1 rfl) ?_
  refine lv_if_lt (tgt := 16) hx hb dX7_isName_1 (by decide) (fun c1 => ?_) (fun c1 => ?_)
  · have c1 := xlt (k := 0) (by decide) c1
    refine lv_iconst (v := 0) hx hb dX7_isName_16 (by decide) ?_
    have hP9 := hP.sub (ws' := [((a 0), .inr (7, [.int 0, .int 0, .ref (ex 0), .ref (ex 1), .ref (ex 2), .ref (ex 3), .ref (ex 4), .ref (ex 5), .ref (ex 6), .ref (ex 7), .ref (ex 8), .ref (ex 9)]))]) [0] rfl
    have hD9 := hD.sub (ws' := [((a 0), .inr (7, [.int 0, .int 0, .ref (ex 0), .ref (ex 1), .ref (ex 2), .ref (ex 3), .ref (ex 4), .ref (ex 5), .ref (ex 6), .ref (ex 7), .ref (ex 8), .ref (ex 9)]))]) [0] (by decide +kernel) rfl
    rw [hQ]
    exact W.zret (v := 0) hx hb hr rfl (fun t ht hW => ⟨⟨0, (), rfl, rfl, ⟨xa [], xf [], xh [], xv [], by rw [ht]; exact hP9, hD9⟩⟩, hS.F ht⟩) hS.2.2 dX7_isName_17
  · have c1 := xnlt (k := 0) (by decide) c1
    refine lv_iload_n hx hb dX7_isName_4 rfl (lv_at hl 1 rfl) ?_
    refine lv_aload_n hx hb dX7_isName_5 rfl (lv_at hl 0 rfl) ?_
    refine va_get (D := D) (ci := 7) (v := .int 0) (C := RX7) (T := TX7) (N := 12) hx hb htg inX7 hown hK.1 hP 0 rfl rfl 0 (by decide) (htg _ kw_158) (fun _ h9 => h9) rfl dX7_isName_6 ?_
    refine lv_icmp_ge (tgt := 16) hx hb dX7_isName_9 (by decide) (fun _ => ?_) (fun c => by exfalso; have h9 := xnge (k := 0) (by decide) c; omega)
    refine lv_iconst (v := 0) hx hb dX7_isName_16 (by decide) ?_
    have hP9 := hP.sub (ws' := [((a 0), .inr (7, [.int 0, .int 0, .ref (ex 0), .ref (ex 1), .ref (ex 2), .ref (ex 3), .ref (ex 4), .ref (ex 5), .ref (ex 6), .ref (ex 7), .ref (ex 8), .ref (ex 9)]))]) [0] rfl
    have hD9 := hD.sub (ws' := [((a 0), .inr (7, [.int 0, .int 0, .ref (ex 0), .ref (ex 1), .ref (ex 2), .ref (ex 3), .ref (ex 4), .ref (ex 5), .ref (ex 6), .ref (ex 7), .ref (ex 8), .ref (ex 9)]))]) [0] (by decide +kernel) rfl
    rw [hQ]
    exact W.zret (v := 0) hx hb hr rfl (fun t ht hW => ⟨⟨0, (), rfl, rfl, ⟨xa [], xf [], xh [], xv [], by rw [ht]; exact hP9, hD9⟩⟩, hS.F ht⟩) hS.2.2 dX7_isName_17
abbrev pre_X11_copyRow_ (T : Nat → ClassId) (a ex : Nat → Nat) (fi : Nat → Nat → Int32) (fl : Nat → Nat → Int64) (vi : Nat → Int32) : va_W := [((a 0), .inl (T 2, 9, .inr (.inl (fun _ => 0)))), ((a 1), .inl (T 2, 9, .inr (.inl (fun _ => 0))))]
set_option maxHeartbeats 4000000 in
set_option maxRecDepth 100000 in
theorem c_X11_copyRow_ (l : Launch) (D : va_G) (T : Nat → ClassId) (a ex : Nat → Nat) (fi : Nat → Nat → Int32) (fl : Nat → Nat → Int64) (vi : Nat → Int32) (sz : Nat) : Met l yX11_copyRow_ (xw yX11_copyRow_ cX11_copyRow_ 2 none) ({ frames := 1, cells := 0, slots := 0, locals := 120 }) (xP D T [.ref (a 0), .ref (a 1)] sz (pre_X11_copyRow_ T a ex fi fl vi)) (va_Qv (fun _ : Unit => True) (xB D (va_A (pre_X11_copyRow_ T a ex fi fl vi) sz) (fun b fj fm vj => [((a 0), .inl (T 2, 9, .inr (.inl (fun _ => 0)))), ((a 1), .inl (T 2, 9, .inr (.inl (fun _ => 0))))])) (va_A (pre_X11_copyRow_ T a ex fi fl vi) sz)) 0 0 (va_A (pre_X11_copyRow_ T a ex fi fl vi) sz) := by
  refine xofW (cc := cX11_copyRow_) (maxL := 2) (ret := none) (by decide) rfl ?_
  intro p e s m args below meth c s₁ R Q hR hQ B hml hv
  obtain ⟨rfl, hsz, hP, hK, hD0⟩ := hv
  have hx := B.exec
  have hb := B.bytes
  have hr := B.returns
  have hts := atoms_spec (ws := xw yX11_copyRow_ cX11_copyRow_ 2 none) B.pre
  have htg : ∀ w ∈ xg, w.before _ s = true := fun w h => hts w (List.mem_cons_of_mem _ h)
  have hown : s.vm.findClass RX11 = some m.cls := findClass_of_methodNamed B.named
  have hlocks := B.notSynchronized
  subst hsz
  have hD := hD0.self (sz := s.heap.size)
  generalize hAe : va_A (pre_X11_copyRow_ T a ex fi fl vi) s.heap.size = A at hD hQ
  have hA : ∀ q : Nat, s.heap.size ≤ q → A q := fun q h => by rw [← hAe]; exact Or.inr h
  have hS : va_S A s.heap s.heap [] := va_S.rf
  replace hP : va_P D vwCl [((a 0), .inl (T 2, 9, .inr (.inl (fun _ => 0)))), ((a 1), .inl (T 2, 9, .inr (.inl (fun _ => 0))))] s.heap := hP
  replace hD : va_D A [((a 0), .inl (T 2, 9, .inr (.inl (fun _ => 0)))), ((a 1), .inl (T 2, 9, .inr (.inl (fun _ => 0))))] := hD
  have hl := lv_entry ([.ref (a 0), .ref (a 1)]) (n := 2) (Nat.le_of_ble_eq_true rfl)
  rw [lg_entry_eq]
  generalize (lg_sl ([.ref (a 0), .ref (a 1)]) ++ List.replicate (2 - (lg_sl ([.ref (a 0), .ref (a 1)])).length) Slot.unset).toArray = ls at hl ⊢
  replace hl : lv_has ls 2 [(0, .ref (a 0)), (1, .ref (a 1))] := hl
  refine lv_aload_n hx hb dX11_copyRow__0 rfl (lv_at hl 0 rfl) ?_
  refine lv_iconst (v := 0) hx hb dX11_copyRow__1 (by decide) ?_
  refine lv_aload_n hx hb dX11_copyRow__2 rfl (lv_at hl 1 rfl) ?_
  refine lv_iconst (v := 0) hx hb dX11_copyRow__3 (by decide) ?_
  refine lv_aload_n hx hb dX11_copyRow__4 rfl (lv_at hl 0 rfl) ?_
  refine va_alen (v := 9) hx hb hK.1 hP 0 2 rfl rfl (by decide) dX11_copyRow__5 ?_
  refine lv_aload_n hx hb dX11_copyRow__6 rfl (lv_at hl 1 rfl) ?_
  refine va_alen (v := 9) hx hb hK.1 hP 1 2 rfl rfl (by decide) dX11_copyRow__7 ?_
  refine va_mmin hx hb (hml.trans hl.1.symm) hown (htg _ kw_706) (htg _ kw_707) (htg _ kw_18) (htg _ kw_708) (by rw [hR]; exact Nat.le_of_ble_eq_true rfl) (by rw [hR]; exact Nat.le_of_ble_eq_true rfl) (by rw [hR]; exact Nat.le_of_ble_eq_true rfl) (by rw [hR]; exact Nat.le_of_ble_eq_true rfl) dX11_copyRow__8 ?_
  refine xz_i 9 (by decide) ?_
  refine va_copyl hx hb (hml.trans hl.1.symm) hown (htg _ kw_709) (htg _ kw_711) (htg _ kw_710) (htg _ kw_19) hK.1 hP hD hS 0 1 2 2 rfl rfl rfl rfl rfl (by decide) (by decide) (by decide) (by decide) (by decide) (fun _ _ => rfl) (by rw [hR]; exact Nat.le_of_ble_eq_true rfl) (by rw [hR]; exact Nat.le_of_ble_eq_true rfl) dX11_copyRow__11 (fun H locs hP hD hS => ?_)
  rw [xc0] at hP hD
  replace hP : va_P D vwCl [((a 0), .inl (T 2, 9, .inr (.inl (fun _ => 0)))), ((a 1), .inl (T 2, 9, .inr (.inl (fun _ => 0))))] H := hP
  replace hD : va_D A [((a 0), .inl (T 2, 9, .inr (.inl (fun _ => 0)))), ((a 1), .inl (T 2, 9, .inr (.inl (fun _ => 0))))] := hD
  have hP9 := hP.sub (ws' := [((a 0), .inl (T 2, 9, .inr (.inl (fun _ => 0)))), ((a 1), .inl (T 2, 9, .inr (.inl (fun _ => 0))))]) [0, 1] rfl
  have hD9 := hD.sub (ws' := [((a 0), .inl (T 2, 9, .inr (.inl (fun _ => 0)))), ((a 1), .inl (T 2, 9, .inr (.inl (fun _ => 0))))]) [0, 1] (by decide +kernel) rfl
  rw [hQ]
  exact W.vret hx hb hr (fun t ht hW => ⟨⟨(), rfl, trivial, ⟨xa [], xf [], xh [], xv [], by rw [ht]; exact hP9, hD9⟩⟩, hS.F ht⟩) hS.2.2 dX11_copyRow__14
abbrev pre_X11_copyRow (T : Nat → ClassId) (a ex : Nat → Nat) (fi : Nat → Nat → Int32) (fl : Nat → Nat → Int64) (vi : Nat → Int32) : va_W := [((a 0), .inl (T 1, 9, .inl (fun _ => 0))), ((a 1), .inl (T 1, 9, .inl (fun _ => 0)))]
set_option maxHeartbeats 4000000 in
set_option maxRecDepth 100000 in
theorem c_X11_copyRow (l : Launch) (D : va_G) (T : Nat → ClassId) (a ex : Nat → Nat) (fi : Nat → Nat → Int32) (fl : Nat → Nat → Int64) (vi : Nat → Int32) (sz : Nat) : Met l yX11_copyRow (xw yX11_copyRow cX11_copyRow 2 none) ({ frames := 1, cells := 0, slots := 0, locals := 120 }) (xP D T [.ref (a 0), .ref (a 1)] sz (pre_X11_copyRow T a ex fi fl vi)) (va_Qv (fun _ : Unit => True) (xB D (va_A (pre_X11_copyRow T a ex fi fl vi) sz) (fun b fj fm vj => [((a 0), .inl (T 1, 9, .inl (fun _ => 0))), ((a 1), .inl (T 1, 9, .inl (fun _ => 0)))])) (va_A (pre_X11_copyRow T a ex fi fl vi) sz)) 0 0 (va_A (pre_X11_copyRow T a ex fi fl vi) sz) := by
  refine xofW (cc := cX11_copyRow) (maxL := 2) (ret := none) (by decide) rfl ?_
  intro p e s m args below meth c s₁ R Q hR hQ B hml hv
  obtain ⟨rfl, hsz, hP, hK, hD0⟩ := hv
  have hx := B.exec
  have hb := B.bytes
  have hr := B.returns
  have hts := atoms_spec (ws := xw yX11_copyRow cX11_copyRow 2 none) B.pre
  have htg : ∀ w ∈ xg, w.before _ s = true := fun w h => hts w (List.mem_cons_of_mem _ h)
  have hown : s.vm.findClass RX11 = some m.cls := findClass_of_methodNamed B.named
  have hlocks := B.notSynchronized
  subst hsz
  have hD := hD0.self (sz := s.heap.size)
  generalize hAe : va_A (pre_X11_copyRow T a ex fi fl vi) s.heap.size = A at hD hQ
  have hA : ∀ q : Nat, s.heap.size ≤ q → A q := fun q h => by rw [← hAe]; exact Or.inr h
  have hS : va_S A s.heap s.heap [] := va_S.rf
  replace hP : va_P D vwCl [((a 0), .inl (T 1, 9, .inl (fun _ => 0))), ((a 1), .inl (T 1, 9, .inl (fun _ => 0)))] s.heap := hP
  replace hD : va_D A [((a 0), .inl (T 1, 9, .inl (fun _ => 0))), ((a 1), .inl (T 1, 9, .inl (fun _ => 0)))] := hD
  have hl := lv_entry ([.ref (a 0), .ref (a 1)]) (n := 2) (Nat.le_of_ble_eq_true rfl)
  rw [lg_entry_eq]
  generalize (lg_sl ([.ref (a 0), .ref (a 1)]) ++ List.replicate (2 - (lg_sl ([.ref (a 0), .ref (a 1)])).length) Slot.unset).toArray = ls at hl ⊢
  replace hl : lv_has ls 2 [(0, .ref (a 0)), (1, .ref (a 1))] := hl
  refine lv_aload_n hx hb dX11_copyRow_0 rfl (lv_at hl 0 rfl) ?_
  refine lv_iconst (v := 0) hx hb dX11_copyRow_1 (by decide) ?_
  refine lv_aload_n hx hb dX11_copyRow_2 rfl (lv_at hl 1 rfl) ?_
  refine lv_iconst (v := 0) hx hb dX11_copyRow_3 (by decide) ?_
  refine lv_aload_n hx hb dX11_copyRow_4 rfl (lv_at hl 0 rfl) ?_
  refine va_alen (v := 9) hx hb hK.1 hP 0 1 rfl rfl (by decide) dX11_copyRow_5 ?_
  refine lv_aload_n hx hb dX11_copyRow_6 rfl (lv_at hl 1 rfl) ?_
  refine va_alen (v := 9) hx hb hK.1 hP 1 1 rfl rfl (by decide) dX11_copyRow_7 ?_
  refine va_mmin hx hb (hml.trans hl.1.symm) hown (htg _ kw_706) (htg _ kw_707) (htg _ kw_18) (htg _ kw_708) (by rw [hR]; exact Nat.le_of_ble_eq_true rfl) (by rw [hR]; exact Nat.le_of_ble_eq_true rfl) (by rw [hR]; exact Nat.le_of_ble_eq_true rfl) (by rw [hR]; exact Nat.le_of_ble_eq_true rfl) dX11_copyRow_8 ?_
  refine xz_i 9 (by decide) ?_
  refine va_copyi hx hb (hml.trans hl.1.symm) hown (htg _ kw_709) (htg _ kw_711) (htg _ kw_710) (htg _ kw_19) hK.1 hP hD hS 0 1 1 1 rfl rfl rfl rfl rfl (by decide) (by decide) (by decide) (by decide) (by decide) (fun _ _ => rfl) (by rw [hR]; exact Nat.le_of_ble_eq_true rfl) (by rw [hR]; exact Nat.le_of_ble_eq_true rfl) dX11_copyRow_11 (fun H locs hP hD hS => ?_)
  rw [xc0] at hP hD
  replace hP : va_P D vwCl [((a 0), .inl (T 1, 9, .inl (fun _ => 0))), ((a 1), .inl (T 1, 9, .inl (fun _ => 0)))] H := hP
  replace hD : va_D A [((a 0), .inl (T 1, 9, .inl (fun _ => 0))), ((a 1), .inl (T 1, 9, .inl (fun _ => 0)))] := hD
  have hP9 := hP.sub (ws' := [((a 0), .inl (T 1, 9, .inl (fun _ => 0))), ((a 1), .inl (T 1, 9, .inl (fun _ => 0)))]) [0, 1] rfl
  have hD9 := hD.sub (ws' := [((a 0), .inl (T 1, 9, .inl (fun _ => 0))), ((a 1), .inl (T 1, 9, .inl (fun _ => 0)))]) [0, 1] (by decide +kernel) rfl
  rw [hQ]
  exact W.vret hx hb hr (fun t ht hW => ⟨⟨(), rfl, trivial, ⟨xa [], xf [], xh [], xv [], by rw [ht]; exact hP9, hD9⟩⟩, hS.F ht⟩) hS.2.2 dX11_copyRow_14
abbrev pre_X11_copyRow_2 (T : Nat → ClassId) (a ex : Nat → Nat) (fi : Nat → Nat → Int32) (fl : Nat → Nat → Int64) (vi : Nat → Int32) : va_W := [((a 0), .inl (T 1, 81, .inl (fun _ => 0))), ((a 1), .inl (T 1, 81, .inl (fun _ => 0)))]
set_option maxHeartbeats 4000000 in
set_option maxRecDepth 100000 in
theorem c_X11_copyRow_2 (l : Launch) (D : va_G) (T : Nat → ClassId) (a ex : Nat → Nat) (fi : Nat → Nat → Int32) (fl : Nat → Nat → Int64) (vi : Nat → Int32) (sz : Nat) : Met l yX11_copyRow (xw yX11_copyRow cX11_copyRow 2 none) ({ frames := 1, cells := 0, slots := 0, locals := 120 }) (xP D T [.ref (a 0), .ref (a 1)] sz (pre_X11_copyRow_2 T a ex fi fl vi)) (va_Qv (fun _ : Unit => True) (xB D (va_A (pre_X11_copyRow_2 T a ex fi fl vi) sz) (fun b fj fm vj => [((a 0), .inl (T 1, 81, .inl (fun _ => 0))), ((a 1), .inl (T 1, 81, .inl (fun _ => 0)))])) (va_A (pre_X11_copyRow_2 T a ex fi fl vi) sz)) 0 0 (va_A (pre_X11_copyRow_2 T a ex fi fl vi) sz) := by
  refine xofW (cc := cX11_copyRow) (maxL := 2) (ret := none) (by decide) rfl ?_
  intro p e s m args below meth c s₁ R Q hR hQ B hml hv
  obtain ⟨rfl, hsz, hP, hK, hD0⟩ := hv
  have hx := B.exec
  have hb := B.bytes
  have hr := B.returns
  have hts := atoms_spec (ws := xw yX11_copyRow cX11_copyRow 2 none) B.pre
  have htg : ∀ w ∈ xg, w.before _ s = true := fun w h => hts w (List.mem_cons_of_mem _ h)
  have hown : s.vm.findClass RX11 = some m.cls := findClass_of_methodNamed B.named
  have hlocks := B.notSynchronized
  subst hsz
  have hD := hD0.self (sz := s.heap.size)
  generalize hAe : va_A (pre_X11_copyRow_2 T a ex fi fl vi) s.heap.size = A at hD hQ
  have hA : ∀ q : Nat, s.heap.size ≤ q → A q := fun q h => by rw [← hAe]; exact Or.inr h
  have hS : va_S A s.heap s.heap [] := va_S.rf
  replace hP : va_P D vwCl [((a 0), .inl (T 1, 81, .inl (fun _ => 0))), ((a 1), .inl (T 1, 81, .inl (fun _ => 0)))] s.heap := hP
  replace hD : va_D A [((a 0), .inl (T 1, 81, .inl (fun _ => 0))), ((a 1), .inl (T 1, 81, .inl (fun _ => 0)))] := hD
  have hl := lv_entry ([.ref (a 0), .ref (a 1)]) (n := 2) (Nat.le_of_ble_eq_true rfl)
  rw [lg_entry_eq]
  generalize (lg_sl ([.ref (a 0), .ref (a 1)]) ++ List.replicate (2 - (lg_sl ([.ref (a 0), .ref (a 1)])).length) Slot.unset).toArray = ls at hl ⊢
  replace hl : lv_has ls 2 [(0, .ref (a 0)), (1, .ref (a 1))] := hl
  refine lv_aload_n hx hb dX11_copyRow_0 rfl (lv_at hl 0 rfl) ?_
  refine lv_iconst (v := 0) hx hb dX11_copyRow_1 (by decide) ?_
  refine lv_aload_n hx hb dX11_copyRow_2 rfl (lv_at hl 1 rfl) ?_
  refine lv_iconst (v := 0) hx hb dX11_copyRow_3 (by decide) ?_
  refine lv_aload_n hx hb dX11_copyRow_4 rfl (lv_at hl 0 rfl) ?_
  refine va_alen (v := 81) hx hb hK.1 hP 0 1 rfl rfl (by decide) dX11_copyRow_5 ?_
  refine lv_aload_n hx hb dX11_copyRow_6 rfl (lv_at hl 1 rfl) ?_
  refine va_alen (v := 81) hx hb hK.1 hP 1 1 rfl rfl (by decide) dX11_copyRow_7 ?_
  refine va_mmin hx hb (hml.trans hl.1.symm) hown (htg _ kw_706) (htg _ kw_707) (htg _ kw_18) (htg _ kw_708) (by rw [hR]; exact Nat.le_of_ble_eq_true rfl) (by rw [hR]; exact Nat.le_of_ble_eq_true rfl) (by rw [hR]; exact Nat.le_of_ble_eq_true rfl) (by rw [hR]; exact Nat.le_of_ble_eq_true rfl) dX11_copyRow_8 ?_
  refine xz_i 81 (by decide) ?_
  refine va_copyi hx hb (hml.trans hl.1.symm) hown (htg _ kw_709) (htg _ kw_711) (htg _ kw_710) (htg _ kw_19) hK.1 hP hD hS 0 1 1 1 rfl rfl rfl rfl rfl (by decide) (by decide) (by decide) (by decide) (by decide) (fun _ _ => rfl) (by rw [hR]; exact Nat.le_of_ble_eq_true rfl) (by rw [hR]; exact Nat.le_of_ble_eq_true rfl) dX11_copyRow_11 (fun H locs hP hD hS => ?_)
  rw [xc0] at hP hD
  replace hP : va_P D vwCl [((a 0), .inl (T 1, 81, .inl (fun _ => 0))), ((a 1), .inl (T 1, 81, .inl (fun _ => 0)))] H := hP
  replace hD : va_D A [((a 0), .inl (T 1, 81, .inl (fun _ => 0))), ((a 1), .inl (T 1, 81, .inl (fun _ => 0)))] := hD
  have hP9 := hP.sub (ws' := [((a 0), .inl (T 1, 81, .inl (fun _ => 0))), ((a 1), .inl (T 1, 81, .inl (fun _ => 0)))]) [0, 1] rfl
  have hD9 := hD.sub (ws' := [((a 0), .inl (T 1, 81, .inl (fun _ => 0))), ((a 1), .inl (T 1, 81, .inl (fun _ => 0)))]) [0, 1] (by decide +kernel) rfl
  rw [hQ]
  exact W.vret hx hb hr (fun t ht hW => ⟨⟨(), rfl, trivial, ⟨xa [], xf [], xh [], xv [], by rw [ht]; exact hP9, hD9⟩⟩, hS.F ht⟩) hS.2.2 dX11_copyRow_14
