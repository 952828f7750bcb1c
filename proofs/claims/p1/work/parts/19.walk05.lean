abbrev pre_X12_mondays_2 (T : Nat → ClassId) (a ex : Nat → Nat) (fi : Nat → Nat → Int32) (fl : Nat → Nat → Int64) (vi : Nat → Int32) : va_W := [((a 0), .inr (12, ((.int 0) :: (.ref (ex 0)) :: (.int 0) :: (.int 0) :: (.int 0) :: (.int 0) :: (.ref (ex 1)) :: (.ref (ex 2)) :: (.ref (ex 3)) :: (.ref (ex 4)) :: (.ref (ex 5)) :: (.int 0) :: (.int 0) :: (.int 0) :: (.int 0) :: (.int 0) :: (.int 0) :: (.long 0) :: (.int 0) :: (.int 0) :: (.int 0) :: (.ref (ex 6)) :: (.ref (ex 7)) :: (.int 0) :: (.ref (ex 8)) :: (.int (-1)) :: (.int 0) :: (.int 0) :: (.int 0) :: (.int 0) :: (.int 0) :: (.int 0) :: (.ref (ex 9)) :: (.int 0) :: (.ref (ex 10)) :: (.int 0) :: (.int 0) :: (.int 0) :: (.int 0) :: (.int 0) :: (.ref (ex 11)) :: (.ref (ex 12)) :: (.ref (ex 13)) :: (.ref (ex 14)) :: [])))]
set_option maxHeartbeats 4000000 in
set_option maxRecDepth 100000 in
theorem c_X12_mondays_2 (l : Launch) (D : va_G) (T : Nat → ClassId) (a ex : Nat → Nat) (fi : Nat → Nat → Int32) (fl : Nat → Nat → Int64) (vi : Nat → Int32) (sz : Nat) (hd0 : (vi 0).toInt ≤ 0 ∨ 61 ≤ (vi 0).toInt) : Met l yX12_mondays (xw yX12_mondays cX12_mondays 2 (some .int)) ({ frames := 1, cells := 0, slots := 0, locals := 26 }) (xP D T [.ref (a 0), .int (vi 0)] sz (pre_X12_mondays_2 T a ex fi fl vi)) (va_Qi (fun r (_ : Unit) => r = (-1)) (xB D (va_A (pre_X12_mondays_2 T a ex fi fl vi) sz) (fun _ => True) (fun b fj fm vj => [])) (va_A (pre_X12_mondays_2 T a ex fi fl vi) sz)) 0 0 (va_A (pre_X12_mondays_2 T a ex fi fl vi) sz) := by
  refine xofW (cc := cX12_mondays) (maxL := 2) (ret := (some .int)) (by decide) rfl ?_
  intro p e s m args below meth c s₁ R Q hR hQ B hml hv
  obtain ⟨rfl, hsz, hP, hK, hD0⟩ := hv
  have hx := B.exec
  have hb := B.bytes
  have hr := B.returns
  have hts := atoms_spec (ws := xw yX12_mondays cX12_mondays 2 (some .int)) B.pre
  have htg : ∀ w ∈ xg, w.before _ s = true := fun w h => hts w (List.mem_cons_of_mem _ h)
  have hown : s.vm.findClass RX12 = some m.cls := findClass_of_methodNamed B.named
  have hlocks := B.notSynchronized
  subst hsz
  have hD := hD0.self (sz := s.heap.size)
  generalize hAe : va_A (pre_X12_mondays_2 T a ex fi fl vi) s.heap.size = A at hD hQ
  have hA : ∀ q : Nat, s.heap.size ≤ q → A q := fun q h => by rw [← hAe]; exact Or.inr h
  have hS : va_S A s.heap s.heap [] := va_S.rf
  replace hP : va_P D vwCl [((a 0), .inr (12, ((.int 0) :: (.ref (ex 0)) :: (.int 0) :: (.int 0) :: (.int 0) :: (.int 0) :: (.ref (ex 1)) :: (.ref (ex 2)) :: (.ref (ex 3)) :: (.ref (ex 4)) :: (.ref (ex 5)) :: (.int 0) :: (.int 0) :: (.int 0) :: (.int 0) :: (.int 0) :: (.int 0) :: (.long 0) :: (.int 0) :: (.int 0) :: (.int 0) :: (.ref (ex 6)) :: (.ref (ex 7)) :: (.int 0) :: (.ref (ex 8)) :: (.int (-1)) :: (.int 0) :: (.int 0) :: (.int 0) :: (.int 0) :: (.int 0) :: (.int 0) :: (.ref (ex 9)) :: (.int 0) :: (.ref (ex 10)) :: (.int 0) :: (.int 0) :: (.int 0) :: (.int 0) :: (.int 0) :: (.ref (ex 11)) :: (.ref (ex 12)) :: (.ref (ex 13)) :: (.ref (ex 14)) :: [])))] s.heap := hP
  replace hD : va_D A [((a 0), .inr (12, ((.int 0) :: (.ref (ex 0)) :: (.int 0) :: (.int 0) :: (.int 0) :: (.int 0) :: (.ref (ex 1)) :: (.ref (ex 2)) :: (.ref (ex 3)) :: (.ref (ex 4)) :: (.ref (ex 5)) :: (.int 0) :: (.int 0) :: (.int 0) :: (.int 0) :: (.int 0) :: (.int 0) :: (.long 0) :: (.int 0) :: (.int 0) :: (.int 0) :: (.ref (ex 6)) :: (.ref (ex 7)) :: (.int 0) :: (.ref (ex 8)) :: (.int (-1)) :: (.int 0) :: (.int 0) :: (.int 0) :: (.int 0) :: (.int 0) :: (.int 0) :: (.ref (ex 9)) :: (.int 0) :: (.ref (ex 10)) :: (.int 0) :: (.int 0) :: (.int 0) :: (.int 0) :: (.int 0) :: (.ref (ex 11)) :: (.ref (ex 12)) :: (.ref (ex 13)) :: (.ref (ex 14)) :: [])))] := hD
  have hl := lv_entry ([.ref (a 0), .int (vi 0)]) (n := 2) (Nat.le_of_ble_eq_true rfl)
  rw [lg_entry_eq]
  generalize (lg_sl ([.ref (a 0), .int (vi 0)]) ++ List.replicate (2 - (lg_sl ([.ref (a 0), .int (vi 0)])).length) Slot.unset).toArray = ls at hl ⊢
  replace hl : lv_has ls 2 [(0, .ref (a 0)), (1, .int (vi 0))] := hl
  refine lv_aload_n hx hb dX12_mondays_0 rfl (lv_at hl 0 rfl) ?_
  refine lv_iconst (v := 0) hx hb dX12_mondays_1 (by decide) ?_
  refine va_put (D := D) (ci := 12) (v := .int 0) (ty := .int) (C := RX12) (T := TX12) (N := 44) hx hb htg inX12 tyX12 tyX12_ok nmX12 hown hK.1 hP hD hS 0 rfl rfl 0 (by decide) (htg _ kw_1407) (fun _ h9 => h9) rfl (by decide +kernel) rfl rfl (Nat.le_of_ble_eq_true rfl) dX12_mondays_2 (fun H locs hP hD hS => ?_)
  replace hP : va_P D vwCl [((a 0), .inr (12, ((.int 0) :: (.ref (ex 0)) :: (.int 0) :: (.int 0) :: (.int 0) :: (.int 0) :: (.ref (ex 1)) :: (.ref (ex 2)) :: (.ref (ex 3)) :: (.ref (ex 4)) :: (.ref (ex 5)) :: (.int 0) :: (.int 0) :: (.int 0) :: (.int 0) :: (.int 0) :: (.int 0) :: (.long 0) :: (.int 0) :: (.int 0) :: (.int 0) :: (.ref (ex 6)) :: (.ref (ex 7)) :: (.int 0) :: (.ref (ex 8)) :: (.int (-1)) :: (.int 0) :: (.int 0) :: (.int 0) :: (.int 0) :: (.int 0) :: (.int 0) :: (.ref (ex 9)) :: (.int 0) :: (.ref (ex 10)) :: (.int 0) :: (.int 0) :: (.int 0) :: (.int 0) :: (.int 0) :: (.ref (ex 11)) :: (.ref (ex 12)) :: (.ref (ex 13)) :: (.ref (ex 14)) :: [])))] H := hP
  replace hD : va_D A [((a 0), .inr (12, ((.int 0) :: (.ref (ex 0)) :: (.int 0) :: (.int 0) :: (.int 0) :: (.int 0) :: (.ref (ex 1)) :: (.ref (ex 2)) :: (.ref (ex 3)) :: (.ref (ex 4)) :: (.ref (ex 5)) :: (.int 0) :: (.int 0) :: (.int 0) :: (.int 0) :: (.int 0) :: (.int 0) :: (.long 0) :: (.int 0) :: (.int 0) :: (.int 0) :: (.ref (ex 6)) :: (.ref (ex 7)) :: (.int 0) :: (.ref (ex 8)) :: (.int (-1)) :: (.int 0) :: (.int 0) :: (.int 0) :: (.int 0) :: (.int 0) :: (.int 0) :: (.ref (ex 9)) :: (.int 0) :: (.ref (ex 10)) :: (.int 0) :: (.int 0) :: (.int 0) :: (.int 0) :: (.int 0) :: (.ref (ex 11)) :: (.ref (ex 12)) :: (.ref (ex 13)) :: (.ref (ex 14)) :: [])))] := hD
  refine lv_iload_n hx hb dX12_mondays_5 rfl (lv_at hl 1 rfl) ?_
  refine lv_iconst (v := 1) hx hb dX12_mondays_6 (by decide) ?_
  refine lv_bipush (v := 60) hx hb dX12_mondays_7 (by decide) ?_
  have hPc := hP.sub (ws' := (pre_X12_isIn_3 T (xa []) (xa []) (xf []) (xh []) (xv [(vi 0)]))) [] rfl
  have hDc := hD.sub (ws' := (pre_X12_isIn_3 T (xa []) (xa []) (xf []) (xh []) (xv [(vi 0)]))) [] (by decide) rfl
  have hFc := va_free (wc := (pre_X12_isIn_3 T (xa []) (xa []) (xf []) (xh []) (xv [(vi 0)]))) hD hS hA [] rfl
  refine va_calli (va_runS (As := [.int (vi 0), .int 1, .int 60]) (rest := []) ⟨hx, hb, hml, hown, htg⟩ (c_X12_isIn_3 l D T (xa []) (xa []) (xf []) (xh []) (xv [(vi 0)]) H.size (by show ((vi 0) : Int32).toInt ≤ 0 ∨ 61 ≤ ((vi 0) : Int32).toInt; omega)) ⟨callB_of 3 htg (xg_ok kw_1597) rfl rfl rfl (htg _ kw_17) (htg _ kw_1595) (by decide +kernel) ⟨by rw [hR]; exact Nat.le_of_ble_eq_true rfl, by rw [hR]; exact Nat.le_of_ble_eq_true rfl⟩, htg _ kw_1596⟩ (xpreS hK hPc hDc) rfl rfl hl.1 rfl (lv_room (Nat.le_of_ble_eq_true rfl)) dX12_mondays_9 ⟨by rw [hR]; exact Nat.le_of_ble_eq_true rfl, by rw [hR]; exact Nat.le_of_ble_eq_true rfl⟩) hS (fun q _ h => hFc q h) hFc (fun r9 u t H1 locs ht hvm hw hB hz1 hk1 hS => ?_)
  obtain ⟨bk, fik, flk, vik, hP1, hD1, hGk⟩ := hB
  rw [ht] at hP1
  obtain ⟨hP, hD⟩ := va_join (wr := [((a 0), .inr (12, ((.int 0) :: (.ref (ex 0)) :: (.int 0) :: (.int 0) :: (.int 0) :: (.int 0) :: (.ref (ex 1)) :: (.ref (ex 2)) :: (.ref (ex 3)) :: (.ref (ex 4)) :: (.ref (ex 5)) :: (.int 0) :: (.int 0) :: (.int 0) :: (.int 0) :: (.int 0) :: (.int 0) :: (.long 0) :: (.int 0) :: (.int 0) :: (.int 0) :: (.ref (ex 6)) :: (.ref (ex 7)) :: (.int 0) :: (.ref (ex 8)) :: (.int (-1)) :: (.int 0) :: (.int 0) :: (.int 0) :: (.int 0) :: (.int 0) :: (.int 0) :: (.ref (ex 9)) :: (.int 0) :: (.ref (ex 10)) :: (.int 0) :: (.int 0) :: (.int 0) :: (.int 0) :: (.int 0) :: (.ref (ex 11)) :: (.ref (ex 12)) :: (.ref (ex 13)) :: (.ref (ex 14)) :: [])))]) (w1 := []) hP hD [] [0] rfl rfl (by decide) (by decide) hk1 hFc hP1 hD1
  subst hw
  clear hPc hDc hFc hP1 hD1 hk1 hz1 hvm ht
  generalize H1 = H at hP hS ⊢
  replace hP : va_P D vwCl [((a 0), .inr (12, ((.int 0) :: (.ref (ex 0)) :: (.int 0) :: (.int 0) :: (.int 0) :: (.int 0) :: (.ref (ex 1)) :: (.ref (ex 2)) :: (.ref (ex 3)) :: (.ref (ex 4)) :: (.ref (ex 5)) :: (.int 0) :: (.int 0) :: (.int 0) :: (.int 0) :: (.int 0) :: (.int 0) :: (.long 0) :: (.int 0) :: (.int 0) :: (.int 0) :: (.ref (ex 6)) :: (.ref (ex 7)) :: (.int 0) :: (.ref (ex 8)) :: (.int (-1)) :: (.int 0) :: (.int 0) :: (.int 0) :: (.int 0) :: (.int 0) :: (.int 0) :: (.ref (ex 9)) :: (.int 0) :: (.ref (ex 10)) :: (.int 0) :: (.int 0) :: (.int 0) :: (.int 0) :: (.int 0) :: (.ref (ex 11)) :: (.ref (ex 12)) :: (.ref (ex 13)) :: (.ref (ex 14)) :: [])))] H := hP
  replace hD : va_D A [((a 0), .inr (12, ((.int 0) :: (.ref (ex 0)) :: (.int 0) :: (.int 0) :: (.int 0) :: (.int 0) :: (.ref (ex 1)) :: (.ref (ex 2)) :: (.ref (ex 3)) :: (.ref (ex 4)) :: (.ref (ex 5)) :: (.int 0) :: (.int 0) :: (.int 0) :: (.int 0) :: (.int 0) :: (.int 0) :: (.long 0) :: (.int 0) :: (.int 0) :: (.int 0) :: (.ref (ex 6)) :: (.ref (ex 7)) :: (.int 0) :: (.ref (ex 8)) :: (.int (-1)) :: (.int 0) :: (.int 0) :: (.int 0) :: (.int 0) :: (.int 0) :: (.int 0) :: (.ref (ex 9)) :: (.int 0) :: (.ref (ex 10)) :: (.int 0) :: (.int 0) :: (.int 0) :: (.int 0) :: (.int 0) :: (.ref (ex 11)) :: (.ref (ex 12)) :: (.ref (ex 13)) :: (.ref (ex 14)) :: [])))] := hD
  refine lv_if_ne (tgt := 17) hx hb dX12_mondays_12 (by decide) (fun c => absurd (by decide) c) (fun _ => ?_)
  refine lv_iconst (v := (-1)) hx hb dX12_mondays_15 (by decide) ?_
  have hP9 := hP.sub (ws' := []) [] rfl
  have hD9 := hD.sub (ws' := []) [] (by decide) rfl
  rw [hQ]
  exact W.iret (v := (-1)) hx hb hr (fun t ht hW => ⟨⟨(-1), (), rfl, rfl, ⟨xa [], xf [], xh [], xv [], by rw [ht]; exact hP9, hD9, trivial⟩⟩, hS.F ht⟩) hS.2.2 dX12_mondays_16
abbrev pre_X12_undo (T : Nat → ClassId) (a ex : Nat → Nat) (fi : Nat → Nat → Int32) (fl : Nat → Nat → Int64) (vi : Nat → Int32) : va_W := [((a 0), .inr (12, ((.int 0) :: (.ref (ex 0)) :: (.int 0) :: (.int 0) :: (.int 0) :: (.int 0) :: (.ref (ex 1)) :: (.ref (ex 2)) :: (.ref (ex 3)) :: (.ref (ex 4)) :: (.ref (ex 5)) :: (.int 0) :: (.int 0) :: (.int 0) :: (.int 0) :: (.int 0) :: (.int 0) :: (.long 0) :: (.int 0) :: (.int 0) :: (.int 0) :: (.ref (ex 6)) :: (.ref (ex 7)) :: (.int 0) :: (.ref (ex 8)) :: (.int (-1)) :: (.int 0) :: (.int 0) :: (.int 0) :: (.int 0) :: (.int 0) :: (.int 0) :: (.ref (ex 9)) :: (.int 0) :: (.ref (ex 10)) :: (.int 0) :: (.int 0) :: (.int 0) :: (.int 0) :: (.int 0) :: (.ref (ex 11)) :: (.ref (ex 12)) :: (.ref (ex 13)) :: (.ref (ex 14)) :: [])))]
set_option maxHeartbeats 4000000 in
set_option maxRecDepth 100000 in
theorem c_X12_undo (l : Launch) (D : va_G) (T : Nat → ClassId) (a ex : Nat → Nat) (fi : Nat → Nat → Int32) (fl : Nat → Nat → Int64) (vi : Nat → Int32) (sz : Nat) : Met l yX12_undo (xw yX12_undo cX12_undo 2 (some .int)) ({ frames := 0, cells := 0, slots := 0, locals := 0 }) (xP D T [.ref (a 0)] sz (pre_X12_undo T a ex fi fl vi)) (va_Qi (fun r (_ : Unit) => r = (-1)) (xB D (va_A (pre_X12_undo T a ex fi fl vi) sz) (fun _ => True) (fun b fj fm vj => [])) (va_A (pre_X12_undo T a ex fi fl vi) sz)) 0 0 (va_A (pre_X12_undo T a ex fi fl vi) sz) := by
  refine xofW (cc := cX12_undo) (maxL := 2) (ret := (some .int)) (by decide) rfl ?_
  intro p e s m args below meth c s₁ R Q hR hQ B hml hv
  obtain ⟨rfl, hsz, hP, hK, hD0⟩ := hv
  have hx := B.exec
  have hb := B.bytes
  have hr := B.returns
  have hts := atoms_spec (ws := xw yX12_undo cX12_undo 2 (some .int)) B.pre
  have htg : ∀ w ∈ xg, w.before _ s = true := fun w h => hts w (List.mem_cons_of_mem _ h)
  have hown : s.vm.findClass RX12 = some m.cls := findClass_of_methodNamed B.named
  have hlocks := B.notSynchronized
  subst hsz
  have hD := hD0.self (sz := s.heap.size)
  generalize hAe : va_A (pre_X12_undo T a ex fi fl vi) s.heap.size = A at hD hQ
  have hA : ∀ q : Nat, s.heap.size ≤ q → A q := fun q h => by rw [← hAe]; exact Or.inr h
  have hS : va_S A s.heap s.heap [] := va_S.rf
  replace hP : va_P D vwCl [((a 0), .inr (12, ((.int 0) :: (.ref (ex 0)) :: (.int 0) :: (.int 0) :: (.int 0) :: (.int 0) :: (.ref (ex 1)) :: (.ref (ex 2)) :: (.ref (ex 3)) :: (.ref (ex 4)) :: (.ref (ex 5)) :: (.int 0) :: (.int 0) :: (.int 0) :: (.int 0) :: (.int 0) :: (.int 0) :: (.long 0) :: (.int 0) :: (.int 0) :: (.int 0) :: (.ref (ex 6)) :: (.ref (ex 7)) :: (.int 0) :: (.ref (ex 8)) :: (.int (-1)) :: (.int 0) :: (.int 0) :: (.int 0) :: (.int 0) :: (.int 0) :: (.int 0) :: (.ref (ex 9)) :: (.int 0) :: (.ref (ex 10)) :: (.int 0) :: (.int 0) :: (.int 0) :: (.int 0) :: (.int 0) :: (.ref (ex 11)) :: (.ref (ex 12)) :: (.ref (ex 13)) :: (.ref (ex 14)) :: [])))] s.heap := hP
  replace hD : va_D A [((a 0), .inr (12, ((.int 0) :: (.ref (ex 0)) :: (.int 0) :: (.int 0) :: (.int 0) :: (.int 0) :: (.ref (ex 1)) :: (.ref (ex 2)) :: (.ref (ex 3)) :: (.ref (ex 4)) :: (.ref (ex 5)) :: (.int 0) :: (.int 0) :: (.int 0) :: (.int 0) :: (.int 0) :: (.int 0) :: (.long 0) :: (.int 0) :: (.int 0) :: (.int 0) :: (.ref (ex 6)) :: (.ref (ex 7)) :: (.int 0) :: (.ref (ex 8)) :: (.int (-1)) :: (.int 0) :: (.int 0) :: (.int 0) :: (.int 0) :: (.int 0) :: (.int 0) :: (.ref (ex 9)) :: (.int 0) :: (.ref (ex 10)) :: (.int 0) :: (.int 0) :: (.int 0) :: (.int 0) :: (.int 0) :: (.ref (ex 11)) :: (.ref (ex 12)) :: (.ref (ex 13)) :: (.ref (ex 14)) :: [])))] := hD
  have hl := lv_entry ([.ref (a 0)]) (n := 2) (Nat.le_of_ble_eq_true rfl)
  rw [lg_entry_eq]
  generalize (lg_sl ([.ref (a 0)]) ++ List.replicate (2 - (lg_sl ([.ref (a 0)])).length) Slot.unset).toArray = ls at hl ⊢
  replace hl : lv_has ls 2 [(0, .ref (a 0))] := hl
  refine lv_aload_n hx hb dX12_undo_0 rfl (lv_at hl 0 rfl) ?_
  refine lv_iconst (v := 0) hx hb dX12_undo_1 (by decide) ?_
  refine va_put (D := D) (ci := 12) (v := .int 0) (ty := .int) (C := RX12) (T := TX12) (N := 44) hx hb htg inX12 tyX12 tyX12_ok nmX12 hown hK.1 hP hD hS 0 rfl rfl 0 (by decide) (htg _ kw_1407) (fun _ h9 => h9) rfl (by decide +kernel) rfl rfl (Nat.le_of_ble_eq_true rfl) dX12_undo_2 (fun H locs hP hD hS => ?_)
  replace hP : va_P D vwCl [((a 0), .inr (12, ((.int 0) :: (.ref (ex 0)) :: (.int 0) :: (.int 0) :: (.int 0) :: (.int 0) :: (.ref (ex 1)) :: (.ref (ex 2)) :: (.ref (ex 3)) :: (.ref (ex 4)) :: (.ref (ex 5)) :: (.int 0) :: (.int 0) :: (.int 0) :: (.int 0) :: (.int 0) :: (.int 0) :: (.long 0) :: (.int 0) :: (.int 0) :: (.int 0) :: (.ref (ex 6)) :: (.ref (ex 7)) :: (.int 0) :: (.ref (ex 8)) :: (.int (-1)) :: (.int 0) :: (.int 0) :: (.int 0) :: (.int 0) :: (.int 0) :: (.int 0) :: (.ref (ex 9)) :: (.int 0) :: (.ref (ex 10)) :: (.int 0) :: (.int 0) :: (.int 0) :: (.int 0) :: (.int 0) :: (.ref (ex 11)) :: (.ref (ex 12)) :: (.ref (ex 13)) :: (.ref (ex 14)) :: [])))] H := hP
  replace hD : va_D A [((a 0), .inr (12, ((.int 0) :: (.ref (ex 0)) :: (.int 0) :: (.int 0) :: (.int 0) :: (.int 0) :: (.ref (ex 1)) :: (.ref (ex 2)) :: (.ref (ex 3)) :: (.ref (ex 4)) :: (.ref (ex 5)) :: (.int 0) :: (.int 0) :: (.int 0) :: (.int 0) :: (.int 0) :: (.int 0) :: (.long 0) :: (.int 0) :: (.int 0) :: (.int 0) :: (.ref (ex 6)) :: (.ref (ex 7)) :: (.int 0) :: (.ref (ex 8)) :: (.int (-1)) :: (.int 0) :: (.int 0) :: (.int 0) :: (.int 0) :: (.int 0) :: (.int 0) :: (.ref (ex 9)) :: (.int 0) :: (.ref (ex 10)) :: (.int 0) :: (.int 0) :: (.int 0) :: (.int 0) :: (.int 0) :: (.ref (ex 11)) :: (.ref (ex 12)) :: (.ref (ex 13)) :: (.ref (ex 14)) :: [])))] := hD
  refine lv_aload_n hx hb dX12_undo_5 rfl (lv_at hl 0 rfl) ?_
  refine va_get (D := D) (ci := 12) (v := .int 0) (C := RX12) (T := TX12) (N := 44) hx hb htg inX12 hown hK.1 hP 0 rfl rfl 23 (by decide) (htg _ kw_1430) (fun _ h9 => h9) rfl dX12_undo_6 ?_
  refine lv_if_ne (tgt := 14) hx hb dX12_undo_9 (by decide) (fun c => absurd (by decide) c) (fun _ => ?_)
  refine lv_iconst (v := (-1)) hx hb dX12_undo_12 (by decide) ?_
  have hP9 := hP.sub (ws' := []) [] rfl
  have hD9 := hD.sub (ws' := []) [] (by decide) rfl
  rw [hQ]
  exact W.iret (v := (-1)) hx hb hr (fun t ht hW => ⟨⟨(-1), (), rfl, rfl, ⟨xa [], xf [], xh [], xv [], by rw [ht]; exact hP9, hD9, trivial⟩⟩, hS.F ht⟩) hS.2.2 dX12_undo_13
abbrev pre_X12_called (T : Nat → ClassId) (a ex : Nat → Nat) (fi : Nat → Nat → Int32) (fl : Nat → Nat → Int64) (vi : Nat → Int32) : va_W := [((a 0), .inr (12, ((.int 0) :: (.ref (ex 0)) :: (.int 0) :: (.int 0) :: (.int 0) :: (.int 0) :: (.ref (a 1)) :: (.ref (ex 1)) :: (.ref (ex 2)) :: (.ref (ex 3)) :: (.ref (ex 4)) :: (.int 0) :: (.int 0) :: (.int 0) :: (.int 0) :: (.int 0) :: (.int 0) :: (.long 0) :: (.int 0) :: (.int 0) :: (.int 0) :: (.ref (ex 5)) :: (.ref (ex 6)) :: (.int 0) :: (.ref (ex 7)) :: (.int (-1)) :: (.int 0) :: (.int 0) :: (.int 0) :: (.int 0) :: (.int 0) :: (.int 0) :: (.ref (ex 8)) :: (.int 0) :: (.ref (ex 9)) :: (.int 0) :: (.int 0) :: (.int 0) :: (.int 0) :: (.int 0) :: (.ref (ex 10)) :: (.ref (ex 11)) :: (.ref (ex 12)) :: (.ref (ex 13)) :: []))), ((a 1), .inl (T 1, 2187, .inl (fun _ => 0)))]
set_option maxHeartbeats 4000000 in
set_option maxRecDepth 100000 in
theorem c_X12_called (l : Launch) (D : va_G) (T : Nat → ClassId) (a ex : Nat → Nat) (fi : Nat → Nat → Int32) (fl : Nat → Nat → Int64) (vi : Nat → Int32) (sz : Nat) : Met l yX12_called (xw yX12_called cX12_called 3 (some .int)) ({ frames := 2, cells := 0, slots := 0, locals := 51 }) (xP D T [.ref (a 0), .int (vi 0), .int (vi 1)] sz (pre_X12_called T a ex fi fl vi)) (va_Qi (fun r (_ : Unit) => r = (-2)) (xB D (va_A (pre_X12_called T a ex fi fl vi) sz) (fun _ => True) (fun b fj fm vj => [])) (va_A (pre_X12_called T a ex fi fl vi) sz)) 0 0 (va_A (pre_X12_called T a ex fi fl vi) sz) := by
  refine xofW (cc := cX12_called) (maxL := 3) (ret := (some .int)) (by decide) rfl ?_
  intro p e s m args below meth c s₁ R Q hR hQ B hml hv
  obtain ⟨rfl, hsz, hP, hK, hD0⟩ := hv
  have hx := B.exec
  have hb := B.bytes
  have hr := B.returns
  have hts := atoms_spec (ws := xw yX12_called cX12_called 3 (some .int)) B.pre
  have htg : ∀ w ∈ xg, w.before _ s = true := fun w h => hts w (List.mem_cons_of_mem _ h)
  have hown : s.vm.findClass RX12 = some m.cls := findClass_of_methodNamed B.named
  have hlocks := B.notSynchronized
  subst hsz
  have hD := hD0.self (sz := s.heap.size)
  generalize hAe : va_A (pre_X12_called T a ex fi fl vi) s.heap.size = A at hD hQ
  have hA : ∀ q : Nat, s.heap.size ≤ q → A q := fun q h => by rw [← hAe]; exact Or.inr h
  have hS : va_S A s.heap s.heap [] := va_S.rf
  replace hP : va_P D vwCl [((a 0), .inr (12, ((.int 0) :: (.ref (ex 0)) :: (.int 0) :: (.int 0) :: (.int 0) :: (.int 0) :: (.ref (a 1)) :: (.ref (ex 1)) :: (.ref (ex 2)) :: (.ref (ex 3)) :: (.ref (ex 4)) :: (.int 0) :: (.int 0) :: (.int 0) :: (.int 0) :: (.int 0) :: (.int 0) :: (.long 0) :: (.int 0) :: (.int 0) :: (.int 0) :: (.ref (ex 5)) :: (.ref (ex 6)) :: (.int 0) :: (.ref (ex 7)) :: (.int (-1)) :: (.int 0) :: (.int 0) :: (.int 0) :: (.int 0) :: (.int 0) :: (.int 0) :: (.ref (ex 8)) :: (.int 0) :: (.ref (ex 9)) :: (.int 0) :: (.int 0) :: (.int 0) :: (.int 0) :: (.int 0) :: (.ref (ex 10)) :: (.ref (ex 11)) :: (.ref (ex 12)) :: (.ref (ex 13)) :: []))), ((a 1), .inl (T 1, 2187, .inl (fun _ => 0)))] s.heap := hP
  replace hD : va_D A [((a 0), .inr (12, ((.int 0) :: (.ref (ex 0)) :: (.int 0) :: (.int 0) :: (.int 0) :: (.int 0) :: (.ref (a 1)) :: (.ref (ex 1)) :: (.ref (ex 2)) :: (.ref (ex 3)) :: (.ref (ex 4)) :: (.int 0) :: (.int 0) :: (.int 0) :: (.int 0) :: (.int 0) :: (.int 0) :: (.long 0) :: (.int 0) :: (.int 0) :: (.int 0) :: (.ref (ex 5)) :: (.ref (ex 6)) :: (.int 0) :: (.ref (ex 7)) :: (.int (-1)) :: (.int 0) :: (.int 0) :: (.int 0) :: (.int 0) :: (.int 0) :: (.int 0) :: (.ref (ex 8)) :: (.int 0) :: (.ref (ex 9)) :: (.int 0) :: (.int 0) :: (.int 0) :: (.int 0) :: (.int 0) :: (.ref (ex 10)) :: (.ref (ex 11)) :: (.ref (ex 12)) :: (.ref (ex 13)) :: []))), ((a 1), .inl (T 1, 2187, .inl (fun _ => 0)))] := hD
  have hl := lv_entry ([.ref (a 0), .int (vi 0), .int (vi 1)]) (n := 3) (Nat.le_of_ble_eq_true rfl)
  rw [lg_entry_eq]
  generalize (lg_sl ([.ref (a 0), .int (vi 0), .int (vi 1)]) ++ List.replicate (3 - (lg_sl ([.ref (a 0), .int (vi 0), .int (vi 1)])).length) Slot.unset).toArray = ls at hl ⊢
  replace hl : lv_has ls 3 [(0, .ref (a 0)), (1, .int (vi 0)), (2, .int (vi 1))] := hl
  refine lv_aload_n hx hb dX12_called_0 rfl (lv_at hl 0 rfl) ?_
  refine lv_iconst (v := 0) hx hb dX12_called_1 (by decide) ?_
  refine va_put (D := D) (ci := 12) (v := .int 0) (ty := .int) (C := RX12) (T := TX12) (N := 44) hx hb htg inX12 tyX12 tyX12_ok nmX12 hown hK.1 hP hD hS 0 rfl rfl 0 (by decide) (htg _ kw_1407) (fun _ h9 => h9) rfl (by decide +kernel) rfl rfl (Nat.le_of_ble_eq_true rfl) dX12_called_2 (fun H locs hP hD hS => ?_)
  replace hP : va_P D vwCl [((a 0), .inr (12, ((.int 0) :: (.ref (ex 0)) :: (.int 0) :: (.int 0) :: (.int 0) :: (.int 0) :: (.ref (a 1)) :: (.ref (ex 1)) :: (.ref (ex 2)) :: (.ref (ex 3)) :: (.ref (ex 4)) :: (.int 0) :: (.int 0) :: (.int 0) :: (.int 0) :: (.int 0) :: (.int 0) :: (.long 0) :: (.int 0) :: (.int 0) :: (.int 0) :: (.ref (ex 5)) :: (.ref (ex 6)) :: (.int 0) :: (.ref (ex 7)) :: (.int (-1)) :: (.int 0) :: (.int 0) :: (.int 0) :: (.int 0) :: (.int 0) :: (.int 0) :: (.ref (ex 8)) :: (.int 0) :: (.ref (ex 9)) :: (.int 0) :: (.int 0) :: (.int 0) :: (.int 0) :: (.int 0) :: (.ref (ex 10)) :: (.ref (ex 11)) :: (.ref (ex 12)) :: (.ref (ex 13)) :: []))), ((a 1), .inl (T 1, 2187, .inl (fun _ => 0)))] H := hP
  replace hD : va_D A [((a 0), .inr (12, ((.int 0) :: (.ref (ex 0)) :: (.int 0) :: (.int 0) :: (.int 0) :: (.int 0) :: (.ref (a 1)) :: (.ref (ex 1)) :: (.ref (ex 2)) :: (.ref (ex 3)) :: (.ref (ex 4)) :: (.int 0) :: (.int 0) :: (.int 0) :: (.int 0) :: (.int 0) :: (.int 0) :: (.long 0) :: (.int 0) :: (.int 0) :: (.int 0) :: (.ref (ex 5)) :: (.ref (ex 6)) :: (.int 0) :: (.ref (ex 7)) :: (.int (-1)) :: (.int 0) :: (.int 0) :: (.int 0) :: (.int 0) :: (.int 0) :: (.int 0) :: (.ref (ex 8)) :: (.int 0) :: (.ref (ex 9)) :: (.int 0) :: (.int 0) :: (.int 0) :: (.int 0) :: (.int 0) :: (.ref (ex 10)) :: (.ref (ex 11)) :: (.ref (ex 12)) :: (.ref (ex 13)) :: []))), ((a 1), .inl (T 1, 2187, .inl (fun _ => 0)))] := hD
  refine lv_aload_n hx hb dX12_called_5 rfl (lv_at hl 0 rfl) ?_
  refine lv_iload_n hx hb dX12_called_6 rfl (lv_at hl 1 rfl) ?_
  have hPc := hP.sub (ws' := (pre_X12_isSoul T (xa [(a 0), (a 1)]) (xa [(ex 0), (ex 1), (ex 2), (ex 3), (ex 4), (ex 5), (ex 6), (ex 7), (ex 8), (ex 9), (ex 10), (ex 11), (ex 12), (ex 13)]) (xf []) (xh []) (xv [(vi 0)]))) [0, 1] rfl
  have hDc := hD.sub (ws' := (pre_X12_isSoul T (xa [(a 0), (a 1)]) (xa [(ex 0), (ex 1), (ex 2), (ex 3), (ex 4), (ex 5), (ex 6), (ex 7), (ex 8), (ex 9), (ex 10), (ex 11), (ex 12), (ex 13)]) (xf []) (xh []) (xv [(vi 0)]))) [0, 1] (by decide) rfl
  have hFc := va_free (wc := (pre_X12_isSoul T (xa [(a 0), (a 1)]) (xa [(ex 0), (ex 1), (ex 2), (ex 3), (ex 4), (ex 5), (ex 6), (ex 7), (ex 8), (ex 9), (ex 10), (ex 11), (ex 12), (ex 13)]) (xf []) (xh []) (xv [(vi 0)]))) hD hS hA [0, 1] rfl
  refine va_calli (va_runV (As := [.int (vi 0)]) (rest := []) ⟨hx, hb, hml, hown, htg⟩ (c_X12_isSoul l D T (xa [(a 0), (a 1)]) (xa [(ex 0), (ex 1), (ex 2), (ex 3), (ex 4), (ex 5), (ex 6), (ex 7), (ex 8), (ex 9), (ex 10), (ex 11), (ex 12), (ex 13)]) (xf []) (xh []) (xv [(vi 0)]) H.size) ⟨callB_of 1 htg (xg_ok kw_1652) rfl rfl rfl (htg _ kw_17) (htg _ kw_1649) (by decide +kernel) ⟨by rw [hR]; exact Nat.le_of_ble_eq_true rfl, by rw [hR]; exact Nat.le_of_ble_eq_true rfl⟩, htg _ kw_1651, htg _ ks_135⟩ (xpreV hK hPc hDc (va_recv hK.1 hPc (ci := 12) (q0 := 0) rfl rfl)) rfl rfl hl.1 rfl (lv_room (Nat.le_of_ble_eq_true rfl)) dX12_called_7 ⟨by rw [hR]; exact Nat.le_of_ble_eq_true rfl, by rw [hR]; exact Nat.le_of_ble_eq_true rfl⟩) hS (fun q _ h => hFc q h) hFc (fun r9 u t H1 locs ht hvm hw hB hz1 hk1 hS => ?_)
  obtain ⟨bk, fik, flk, vik, hP1, hD1, hGk⟩ := hB
  rw [ht] at hP1
  obtain ⟨hP, hD⟩ := va_join (wr := []) (w1 := [((a 0), .inr (12, ((.int 0) :: (.ref (ex 0)) :: (.int 0) :: (.int 0) :: (.int 0) :: (.int 0) :: (.ref (a 1)) :: (.ref (ex 1)) :: (.ref (ex 2)) :: (.ref (ex 3)) :: (.ref (ex 4)) :: (.int 0) :: (.int 0) :: (.int 0) :: (.int 0) :: (.int 0) :: (.int 0) :: (.long 0) :: (.int 0) :: (.int 0) :: (.int 0) :: (.ref (ex 5)) :: (.ref (ex 6)) :: (.int 0) :: (.ref (ex 7)) :: (.int (-1)) :: (.int 0) :: (.int 0) :: (.int 0) :: (.int 0) :: (.int 0) :: (.int 0) :: (.ref (ex 8)) :: (.int 0) :: (.ref (ex 9)) :: (.int 0) :: (.int 0) :: (.int 0) :: (.int 0) :: (.int 0) :: (.ref (ex 10)) :: (.ref (ex 11)) :: (.ref (ex 12)) :: (.ref (ex 13)) :: []))), ((a 1), .inl (T 1, 2187, .inl (fun _ => 0)))]) hP hD [0, 1] [] rfl rfl (by decide) (by decide) hk1 hFc hP1 hD1
  subst hw
  clear hPc hDc hFc hP1 hD1 hk1 hz1 hvm ht
  generalize H1 = H at hP hS ⊢
  replace hP : va_P D vwCl [((a 0), .inr (12, ((.int 0) :: (.ref (ex 0)) :: (.int 0) :: (.int 0) :: (.int 0) :: (.int 0) :: (.ref (a 1)) :: (.ref (ex 1)) :: (.ref (ex 2)) :: (.ref (ex 3)) :: (.ref (ex 4)) :: (.int 0) :: (.int 0) :: (.int 0) :: (.int 0) :: (.int 0) :: (.int 0) :: (.long 0) :: (.int 0) :: (.int 0) :: (.int 0) :: (.ref (ex 5)) :: (.ref (ex 6)) :: (.int 0) :: (.ref (ex 7)) :: (.int (-1)) :: (.int 0) :: (.int 0) :: (.int 0) :: (.int 0) :: (.int 0) :: (.int 0) :: (.ref (ex 8)) :: (.int 0) :: (.ref (ex 9)) :: (.int 0) :: (.int 0) :: (.int 0) :: (.int 0) :: (.int 0) :: (.ref (ex 10)) :: (.ref (ex 11)) :: (.ref (ex 12)) :: (.ref (ex 13)) :: []))), ((a 1), .inl (T 1, 2187, .inl (fun _ => 0)))] H := hP
  replace hD : va_D A [((a 0), .inr (12, ((.int 0) :: (.ref (ex 0)) :: (.int 0) :: (.int 0) :: (.int 0) :: (.int 0) :: (.ref (a 1)) :: (.ref (ex 1)) :: (.ref (ex 2)) :: (.ref (ex 3)) :: (.ref (ex 4)) :: (.int 0) :: (.int 0) :: (.int 0) :: (.int 0) :: (.int 0) :: (.int 0) :: (.long 0) :: (.int 0) :: (.int 0) :: (.int 0) :: (.ref (ex 5)) :: (.ref (ex 6)) :: (.int 0) :: (.ref (ex 7)) :: (.int (-1)) :: (.int 0) :: (.int 0) :: (.int 0) :: (.int 0) :: (.int 0) :: (.int 0) :: (.ref (ex 8)) :: (.int 0) :: (.ref (ex 9)) :: (.int 0) :: (.int 0) :: (.int 0) :: (.int 0) :: (.int 0) :: (.ref (ex 10)) :: (.ref (ex 11)) :: (.ref (ex 12)) :: (.ref (ex 13)) :: []))), ((a 1), .inl (T 1, 2187, .inl (fun _ => 0)))] := hD
  refine lv_if_eq (tgt := 30) hx hb dX12_called_10 (by decide) (fun _ => ?_) (fun c => absurd (by decide) c)
  refine lv_bipush (v := (-2)) hx hb dX12_called_30 (by decide) ?_
  have hP9 := hP.sub (ws' := []) [] rfl
  have hD9 := hD.sub (ws' := []) [] (by decide) rfl
  rw [hQ]
  exact W.iret (v := (-2)) hx hb hr (fun t ht hW => ⟨⟨(-2), (), rfl, rfl, ⟨xa [], xf [], xh [], xv [], by rw [ht]; exact hP9, hD9, trivial⟩⟩, hS.F ht⟩) hS.2.2 dX12_called_32
abbrev pre_X12_holder (T : Nat → ClassId) (a ex : Nat → Nat) (fi : Nat → Nat → Int32) (fl : Nat → Nat → Int64) (vi : Nat → Int32) : va_W := [((a 0), .inr (12, ((.int 0) :: (.ref (ex 0)) :: (.int 0) :: (.int 0) :: (.int 0) :: (.int 0) :: (.ref (a 1)) :: (.ref (ex 1)) :: (.ref (ex 2)) :: (.ref (ex 3)) :: (.ref (ex 4)) :: (.int 0) :: (.int 0) :: (.int 0) :: (.int 0) :: (.int 0) :: (.int 0) :: (.long 0) :: (.int 0) :: (.int 0) :: (.int 0) :: (.ref (ex 5)) :: (.ref (ex 6)) :: (.int 0) :: (.ref (ex 7)) :: (.int (-1)) :: (.int 0) :: (.int 0) :: (.int 0) :: (.int 0) :: (.int 0) :: (.int 0) :: (.ref (ex 8)) :: (.int 0) :: (.ref (ex 9)) :: (.int 0) :: (.int 0) :: (.int 0) :: (.int 0) :: (.int 0) :: (.ref (ex 10)) :: (.ref (ex 11)) :: (.ref (ex 12)) :: (.ref (ex 13)) :: []))), ((a 1), .inl (T 1, 2187, .inl (fun _ => 0)))]
set_option maxHeartbeats 4000000 in
set_option maxRecDepth 100000 in
theorem c_X12_holder (l : Launch) (D : va_G) (T : Nat → ClassId) (a ex : Nat → Nat) (fi : Nat → Nat → Int32) (fl : Nat → Nat → Int64) (vi : Nat → Int32) (sz : Nat) : Met l yX12_holder (xw yX12_holder cX12_holder 4 (some .int)) ({ frames := 2, cells := 0, slots := 0, locals := 51 }) (xP D T [.ref (a 0), .int (vi 0), .int (vi 1)] sz (pre_X12_holder T a ex fi fl vi)) (va_Qi (fun r (_ : Unit) => r = (-2)) (xB D (va_A (pre_X12_holder T a ex fi fl vi) sz) (fun _ => True) (fun b fj fm vj => [])) (va_A (pre_X12_holder T a ex fi fl vi) sz)) 0 0 (va_A (pre_X12_holder T a ex fi fl vi) sz) := by
  refine xofW (cc := cX12_holder) (maxL := 4) (ret := (some .int)) (by decide) rfl ?_
  intro p e s m args below meth c s₁ R Q hR hQ B hml hv
  obtain ⟨rfl, hsz, hP, hK, hD0⟩ := hv
  have hx := B.exec
  have hb := B.bytes
  have hr := B.returns
  have hts := atoms_spec (ws := xw yX12_holder cX12_holder 4 (some .int)) B.pre
  have htg : ∀ w ∈ xg, w.before _ s = true := fun w h => hts w (List.mem_cons_of_mem _ h)
  have hown : s.vm.findClass RX12 = some m.cls := findClass_of_methodNamed B.named
  have hlocks := B.notSynchronized
  subst hsz
  have hD := hD0.self (sz := s.heap.size)
  generalize hAe : va_A (pre_X12_holder T a ex fi fl vi) s.heap.size = A at hD hQ
  have hA : ∀ q : Nat, s.heap.size ≤ q → A q := fun q h => by rw [← hAe]; exact Or.inr h
  have hS : va_S A s.heap s.heap [] := va_S.rf
  replace hP : va_P D vwCl [((a 0), .inr (12, ((.int 0) :: (.ref (ex 0)) :: (.int 0) :: (.int 0) :: (.int 0) :: (.int 0) :: (.ref (a 1)) :: (.ref (ex 1)) :: (.ref (ex 2)) :: (.ref (ex 3)) :: (.ref (ex 4)) :: (.int 0) :: (.int 0) :: (.int 0) :: (.int 0) :: (.int 0) :: (.int 0) :: (.long 0) :: (.int 0) :: (.int 0) :: (.int 0) :: (.ref (ex 5)) :: (.ref (ex 6)) :: (.int 0) :: (.ref (ex 7)) :: (.int (-1)) :: (.int 0) :: (.int 0) :: (.int 0) :: (.int 0) :: (.int 0) :: (.int 0) :: (.ref (ex 8)) :: (.int 0) :: (.ref (ex 9)) :: (.int 0) :: (.int 0) :: (.int 0) :: (.int 0) :: (.int 0) :: (.ref (ex 10)) :: (.ref (ex 11)) :: (.ref (ex 12)) :: (.ref (ex 13)) :: []))), ((a 1), .inl (T 1, 2187, .inl (fun _ => 0)))] s.heap := hP
  replace hD : va_D A [((a 0), .inr (12, ((.int 0) :: (.ref (ex 0)) :: (.int 0) :: (.int 0) :: (.int 0) :: (.int 0) :: (.ref (a 1)) :: (.ref (ex 1)) :: (.ref (ex 2)) :: (.ref (ex 3)) :: (.ref (ex 4)) :: (.int 0) :: (.int 0) :: (.int 0) :: (.int 0) :: (.int 0) :: (.int 0) :: (.long 0) :: (.int 0) :: (.int 0) :: (.int 0) :: (.ref (ex 5)) :: (.ref (ex 6)) :: (.int 0) :: (.ref (ex 7)) :: (.int (-1)) :: (.int 0) :: (.int 0) :: (.int 0) :: (.int 0) :: (.int 0) :: (.int 0) :: (.ref (ex 8)) :: (.int 0) :: (.ref (ex 9)) :: (.int 0) :: (.int 0) :: (.int 0) :: (.int 0) :: (.int 0) :: (.ref (ex 10)) :: (.ref (ex 11)) :: (.ref (ex 12)) :: (.ref (ex 13)) :: []))), ((a 1), .inl (T 1, 2187, .inl (fun _ => 0)))] := hD
  have hl := lv_entry ([.ref (a 0), .int (vi 0), .int (vi 1)]) (n := 4) (Nat.le_of_ble_eq_true rfl)
  rw [lg_entry_eq]
  generalize (lg_sl ([.ref (a 0), .int (vi 0), .int (vi 1)]) ++ List.replicate (4 - (lg_sl ([.ref (a 0), .int (vi 0), .int (vi 1)])).length) Slot.unset).toArray = ls at hl ⊢
  replace hl : lv_has ls 4 [(0, .ref (a 0)), (1, .int (vi 0)), (2, .int (vi 1))] := hl
  refine lv_aload_n hx hb dX12_holder_0 rfl (lv_at hl 0 rfl) ?_
  refine lv_iconst (v := 0) hx hb dX12_holder_1 (by decide) ?_
  refine va_put (D := D) (ci := 12) (v := .int 0) (ty := .int) (C := RX12) (T := TX12) (N := 44) hx hb htg inX12 tyX12 tyX12_ok nmX12 hown hK.1 hP hD hS 0 rfl rfl 0 (by decide) (htg _ kw_1407) (fun _ h9 => h9) rfl (by decide +kernel) rfl rfl (Nat.le_of_ble_eq_true rfl) dX12_holder_2 (fun H locs hP hD hS => ?_)
  replace hP : va_P D vwCl [((a 0), .inr (12, ((.int 0) :: (.ref (ex 0)) :: (.int 0) :: (.int 0) :: (.int 0) :: (.int 0) :: (.ref (a 1)) :: (.ref (ex 1)) :: (.ref (ex 2)) :: (.ref (ex 3)) :: (.ref (ex 4)) :: (.int 0) :: (.int 0) :: (.int 0) :: (.int 0) :: (.int 0) :: (.int 0) :: (.long 0) :: (.int 0) :: (.int 0) :: (.int 0) :: (.ref (ex 5)) :: (.ref (ex 6)) :: (.int 0) :: (.ref (ex 7)) :: (.int (-1)) :: (.int 0) :: (.int 0) :: (.int 0) :: (.int 0) :: (.int 0) :: (.int 0) :: (.ref (ex 8)) :: (.int 0) :: (.ref (ex 9)) :: (.int 0) :: (.int 0) :: (.int 0) :: (.int 0) :: (.int 0) :: (.ref (ex 10)) :: (.ref (ex 11)) :: (.ref (ex 12)) :: (.ref (ex 13)) :: []))), ((a 1), .inl (T 1, 2187, .inl (fun _ => 0)))] H := hP
  replace hD : va_D A [((a 0), .inr (12, ((.int 0) :: (.ref (ex 0)) :: (.int 0) :: (.int 0) :: (.int 0) :: (.int 0) :: (.ref (a 1)) :: (.ref (ex 1)) :: (.ref (ex 2)) :: (.ref (ex 3)) :: (.ref (ex 4)) :: (.int 0) :: (.int 0) :: (.int 0) :: (.int 0) :: (.int 0) :: (.int 0) :: (.long 0) :: (.int 0) :: (.int 0) :: (.int 0) :: (.ref (ex 5)) :: (.ref (ex 6)) :: (.int 0) :: (.ref (ex 7)) :: (.int (-1)) :: (.int 0) :: (.int 0) :: (.int 0) :: (.int 0) :: (.int 0) :: (.int 0) :: (.ref (ex 8)) :: (.int 0) :: (.ref (ex 9)) :: (.int 0) :: (.int 0) :: (.int 0) :: (.int 0) :: (.int 0) :: (.ref (ex 10)) :: (.ref (ex 11)) :: (.ref (ex 12)) :: (.ref (ex 13)) :: []))), ((a 1), .inl (T 1, 2187, .inl (fun _ => 0)))] := hD
  refine lv_aload_n hx hb dX12_holder_5 rfl (lv_at hl 0 rfl) ?_
  refine lv_iload_n hx hb dX12_holder_6 rfl (lv_at hl 1 rfl) ?_
  have hPc := hP.sub (ws' := (pre_X12_isNameOf T (xa [(a 0), (a 1)]) (xa [(ex 0), (ex 1), (ex 2), (ex 3), (ex 4), (ex 5), (ex 6), (ex 7), (ex 8), (ex 9), (ex 10), (ex 11), (ex 12), (ex 13)]) (xf []) (xh []) (xv [(vi 0)]))) [0, 1] rfl
  have hDc := hD.sub (ws' := (pre_X12_isNameOf T (xa [(a 0), (a 1)]) (xa [(ex 0), (ex 1), (ex 2), (ex 3), (ex 4), (ex 5), (ex 6), (ex 7), (ex 8), (ex 9), (ex 10), (ex 11), (ex 12), (ex 13)]) (xf []) (xh []) (xv [(vi 0)]))) [0, 1] (by decide) rfl
  have hFc := va_free (wc := (pre_X12_isNameOf T (xa [(a 0), (a 1)]) (xa [(ex 0), (ex 1), (ex 2), (ex 3), (ex 4), (ex 5), (ex 6), (ex 7), (ex 8), (ex 9), (ex 10), (ex 11), (ex 12), (ex 13)]) (xf []) (xh []) (xv [(vi 0)]))) hD hS hA [0, 1] rfl
  refine va_calli (va_runV (As := [.int (vi 0)]) (rest := []) ⟨hx, hb, hml, hown, htg⟩ (c_X12_isNameOf l D T (xa [(a 0), (a 1)]) (xa [(ex 0), (ex 1), (ex 2), (ex 3), (ex 4), (ex 5), (ex 6), (ex 7), (ex 8), (ex 9), (ex 10), (ex 11), (ex 12), (ex 13)]) (xf []) (xh []) (xv [(vi 0)]) H.size) ⟨callB_of 1 htg (xg_ok kw_1632) rfl rfl rfl (htg _ kw_17) (htg _ kw_1629) (by decide +kernel) ⟨by rw [hR]; exact Nat.le_of_ble_eq_true rfl, by rw [hR]; exact Nat.le_of_ble_eq_true rfl⟩, htg _ kw_1631, htg _ ks_131⟩ (xpreV hK hPc hDc (va_recv hK.1 hPc (ci := 12) (q0 := 0) rfl rfl)) rfl rfl hl.1 rfl (lv_room (Nat.le_of_ble_eq_true rfl)) dX12_holder_7 ⟨by rw [hR]; exact Nat.le_of_ble_eq_true rfl, by rw [hR]; exact Nat.le_of_ble_eq_true rfl⟩) hS (fun q _ h => hFc q h) hFc (fun r9 u t H1 locs ht hvm hw hB hz1 hk1 hS => ?_)
  obtain ⟨bk, fik, flk, vik, hP1, hD1, hGk⟩ := hB
  rw [ht] at hP1
  obtain ⟨hP, hD⟩ := va_join (wr := []) (w1 := [((a 0), .inr (12, ((.int 0) :: (.ref (ex 0)) :: (.int 0) :: (.int 0) :: (.int 0) :: (.int 0) :: (.ref (a 1)) :: (.ref (ex 1)) :: (.ref (ex 2)) :: (.ref (ex 3)) :: (.ref (ex 4)) :: (.int 0) :: (.int 0) :: (.int 0) :: (.int 0) :: (.int 0) :: (.int 0) :: (.long 0) :: (.int 0) :: (.int 0) :: (.int 0) :: (.ref (ex 5)) :: (.ref (ex 6)) :: (.int 0) :: (.ref (ex 7)) :: (.int (-1)) :: (.int 0) :: (.int 0) :: (.int 0) :: (.int 0) :: (.int 0) :: (.int 0) :: (.ref (ex 8)) :: (.int 0) :: (.ref (ex 9)) :: (.int 0) :: (.int 0) :: (.int 0) :: (.int 0) :: (.int 0) :: (.ref (ex 10)) :: (.ref (ex 11)) :: (.ref (ex 12)) :: (.ref (ex 13)) :: []))), ((a 1), .inl (T 1, 2187, .inl (fun _ => 0)))]) hP hD [0, 1] [] rfl rfl (by decide) (by decide) hk1 hFc hP1 hD1
  subst hw
  clear hPc hDc hFc hP1 hD1 hk1 hz1 hvm ht
  generalize H1 = H at hP hS ⊢
  replace hP : va_P D vwCl [((a 0), .inr (12, ((.int 0) :: (.ref (ex 0)) :: (.int 0) :: (.int 0) :: (.int 0) :: (.int 0) :: (.ref (a 1)) :: (.ref (ex 1)) :: (.ref (ex 2)) :: (.ref (ex 3)) :: (.ref (ex 4)) :: (.int 0) :: (.int 0) :: (.int 0) :: (.int 0) :: (.int 0) :: (.int 0) :: (.long 0) :: (.int 0) :: (.int 0) :: (.int 0) :: (.ref (ex 5)) :: (.ref (ex 6)) :: (.int 0) :: (.ref (ex 7)) :: (.int (-1)) :: (.int 0) :: (.int 0) :: (.int 0) :: (.int 0) :: (.int 0) :: (.int 0) :: (.ref (ex 8)) :: (.int 0) :: (.ref (ex 9)) :: (.int 0) :: (.int 0) :: (.int 0) :: (.int 0) :: (.int 0) :: (.ref (ex 10)) :: (.ref (ex 11)) :: (.ref (ex 12)) :: (.ref (ex 13)) :: []))), ((a 1), .inl (T 1, 2187, .inl (fun _ => 0)))] H := hP
  replace hD : va_D A [((a 0), .inr (12, ((.int 0) :: (.ref (ex 0)) :: (.int 0) :: (.int 0) :: (.int 0) :: (.int 0) :: (.ref (a 1)) :: (.ref (ex 1)) :: (.ref (ex 2)) :: (.ref (ex 3)) :: (.ref (ex 4)) :: (.int 0) :: (.int 0) :: (.int 0) :: (.int 0) :: (.int 0) :: (.int 0) :: (.long 0) :: (.int 0) :: (.int 0) :: (.int 0) :: (.ref (ex 5)) :: (.ref (ex 6)) :: (.int 0) :: (.ref (ex 7)) :: (.int (-1)) :: (.int 0) :: (.int 0) :: (.int 0) :: (.int 0) :: (.int 0) :: (.int 0) :: (.ref (ex 8)) :: (.int 0) :: (.ref (ex 9)) :: (.int 0) :: (.int 0) :: (.int 0) :: (.int 0) :: (.int 0) :: (.ref (ex 10)) :: (.ref (ex 11)) :: (.ref (ex 12)) :: (.ref (ex 13)) :: []))), ((a 1), .inl (T 1, 2187, .inl (fun _ => 0)))] := hD
  refine lv_if_eq (tgt := 21) hx hb dX12_holder_10 (by decide) (fun _ => ?_) (fun c => absurd (by decide) c)
  refine lv_bipush (v := (-2)) hx hb dX12_holder_21 (by decide) ?_
  have hP9 := hP.sub (ws' := []) [] rfl
  have hD9 := hD.sub (ws' := []) [] (by decide) rfl
  rw [hQ]
  exact W.iret (v := (-2)) hx hb hr (fun t ht hW => ⟨⟨(-2), (), rfl, rfl, ⟨xa [], xf [], xh [], xv [], by rw [ht]; exact hP9, hD9, trivial⟩⟩, hS.F ht⟩) hS.2.2 dX12_holder_23
abbrev pre_X12_bearers (T : Nat → ClassId) (a ex : Nat → Nat) (fi : Nat → Nat → Int32) (fl : Nat → Nat → Int64) (vi : Nat → Int32) : va_W := [((a 0), .inr (12, ((.int 0) :: (.ref (ex 0)) :: (.int 0) :: (.int 0) :: (.int 0) :: (.int 0) :: (.ref (a 1)) :: (.ref (ex 1)) :: (.ref (ex 2)) :: (.ref (ex 3)) :: (.ref (ex 4)) :: (.int 0) :: (.int 0) :: (.int 0) :: (.int 0) :: (.int 0) :: (.int 0) :: (.long 0) :: (.int 0) :: (.int 0) :: (.int 0) :: (.ref (ex 5)) :: (.ref (ex 6)) :: (.int 0) :: (.ref (ex 7)) :: (.int (-1)) :: (.int 0) :: (.int 0) :: (.int 0) :: (.int 0) :: (.int 0) :: (.int 0) :: (.ref (ex 8)) :: (.int 0) :: (.ref (ex 9)) :: (.int 0) :: (.int 0) :: (.int 0) :: (.int 0) :: (.int 0) :: (.ref (ex 10)) :: (.ref (ex 11)) :: (.ref (ex 12)) :: (.ref (ex 13)) :: []))), ((a 1), .inl (T 1, 2187, .inl (fun _ => 0)))]
set_option maxHeartbeats 4000000 in
set_option maxRecDepth 100000 in
theorem c_X12_bearers (l : Launch) (D : va_G) (T : Nat → ClassId) (a ex : Nat → Nat) (fi : Nat → Nat → Int32) (fl : Nat → Nat → Int64) (vi : Nat → Int32) (sz : Nat) : Met l yX12_bearers (xw yX12_bearers cX12_bearers 4 (some .int)) ({ frames := 2, cells := 0, slots := 0, locals := 51 }) (xP D T [.ref (a 0), .int (vi 0)] sz (pre_X12_bearers T a ex fi fl vi)) (va_Qi (fun r (_ : Unit) => r = (-1)) (xB D (va_A (pre_X12_bearers T a ex fi fl vi) sz) (fun _ => True) (fun b fj fm vj => [])) (va_A (pre_X12_bearers T a ex fi fl vi) sz)) 0 0 (va_A (pre_X12_bearers T a ex fi fl vi) sz) := by
  refine xofW (cc := cX12_bearers) (maxL := 4) (ret := (some .int)) (by decide) rfl ?_
  intro p e s m args below meth c s₁ R Q hR hQ B hml hv
  obtain ⟨rfl, hsz, hP, hK, hD0⟩ := hv
  have hx := B.exec
  have hb := B.bytes
  have hr := B.returns
  have hts := atoms_spec (ws := xw yX12_bearers cX12_bearers 4 (some .int)) B.pre
  have htg : ∀ w ∈ xg, w.before _ s = true := fun w h => hts w (List.mem_cons_of_mem _ h)
  have hown : s.vm.findClass RX12 = some m.cls := findClass_of_methodNamed B.named
  have hlocks := B.notSynchronized
  subst hsz
  have hD := hD0.self (sz := s.heap.size)
  generalize hAe : va_A (pre_X12_bearers T a ex fi fl vi) s.heap.size = A at hD hQ
  have hA : ∀ q : Nat, s.heap.size ≤ q → A q := fun q h => by rw [← hAe]; exact Or.inr h
  have hS : va_S A s.heap s.heap [] := va_S.rf
  replace hP : va_P D vwCl [((a 0), .inr (12, ((.int 0) :: (.ref (ex 0)) :: (.int 0) :: (.int 0) :: (.int 0) :: (.int 0) :: (.ref (a 1)) :: (.ref (ex 1)) :: (.ref (ex 2)) :: (.ref (ex 3)) :: (.ref (ex 4)) :: (.int 0) :: (.int 0) :: (.int 0) :: (.int 0) :: (.int 0) :: (.int 0) :: (.long 0) :: (.int 0) :: (.int 0) :: (.int 0) :: (.ref (ex 5)) :: (.ref (ex 6)) :: (.int 0) :: (.ref (ex 7)) :: (.int (-1)) :: (.int 0) :: (.int 0) :: (.int 0) :: (.int 0) :: (.int 0) :: (.int 0) :: (.ref (ex 8)) :: (.int 0) :: (.ref (ex 9)) :: (.int 0) :: (.int 0) :: (.int 0) :: (.int 0) :: (.int 0) :: (.ref (ex 10)) :: (.ref (ex 11)) :: (.ref (ex 12)) :: (.ref (ex 13)) :: []))), ((a 1), .inl (T 1, 2187, .inl (fun _ => 0)))] s.heap := hP
  replace hD : va_D A [((a 0), .inr (12, ((.int 0) :: (.ref (ex 0)) :: (.int 0) :: (.int 0) :: (.int 0) :: (.int 0) :: (.ref (a 1)) :: (.ref (ex 1)) :: (.ref (ex 2)) :: (.ref (ex 3)) :: (.ref (ex 4)) :: (.int 0) :: (.int 0) :: (.int 0) :: (.int 0) :: (.int 0) :: (.int 0) :: (.long 0) :: (.int 0) :: (.int 0) :: (.int 0) :: (.ref (ex 5)) :: (.ref (ex 6)) :: (.int 0) :: (.ref (ex 7)) :: (.int (-1)) :: (.int 0) :: (.int 0) :: (.int 0) :: (.int 0) :: (.int 0) :: (.int 0) :: (.ref (ex 8)) :: (.int 0) :: (.ref (ex 9)) :: (.int 0) :: (.int 0) :: (.int 0) :: (.int 0) :: (.int 0) :: (.ref (ex 10)) :: (.ref (ex 11)) :: (.ref (ex 12)) :: (.ref (ex 13)) :: []))), ((a 1), .inl (T 1, 2187, .inl (fun _ => 0)))] := hD
  have hl := lv_entry ([.ref (a 0), .int (vi 0)]) (n := 4) (Nat.le_of_ble_eq_true rfl)
  rw [lg_entry_eq]
  generalize (lg_sl ([.ref (a 0), .int (vi 0)]) ++ List.replicate (4 - (lg_sl ([.ref (a 0), .int (vi 0)])).length) Slot.unset).toArray = ls at hl ⊢
  replace hl : lv_has ls 4 [(0, .ref (a 0)), (1, .int (vi 0))] := hl
  refine lv_aload_n hx hb dX12_bearers_0 rfl (lv_at hl 0 rfl) ?_
  refine lv_iconst (v := 0) hx hb dX12_bearers_1 (by decide) ?_
  refine va_put (D := D) (ci := 12) (v := .int 0) (ty := .int) (C := RX12) (T := TX12) (N := 44) hx hb htg inX12 tyX12 tyX12_ok nmX12 hown hK.1 hP hD hS 0 rfl rfl 0 (by decide) (htg _ kw_1407) (fun _ h9 => h9) rfl (by decide +kernel) rfl rfl (Nat.le_of_ble_eq_true rfl) dX12_bearers_2 (fun H locs hP hD hS => ?_)
  replace hP : va_P D vwCl [((a 0), .inr (12, ((.int 0) :: (.ref (ex 0)) :: (.int 0) :: (.int 0) :: (.int 0) :: (.int 0) :: (.ref (a 1)) :: (.ref (ex 1)) :: (.ref (ex 2)) :: (.ref (ex 3)) :: (.ref (ex 4)) :: (.int 0) :: (.int 0) :: (.int 0) :: (.int 0) :: (.int 0) :: (.int 0) :: (.long 0) :: (.int 0) :: (.int 0) :: (.int 0) :: (.ref (ex 5)) :: (.ref (ex 6)) :: (.int 0) :: (.ref (ex 7)) :: (.int (-1)) :: (.int 0) :: (.int 0) :: (.int 0) :: (.int 0) :: (.int 0) :: (.int 0) :: (.ref (ex 8)) :: (.int 0) :: (.ref (ex 9)) :: (.int 0) :: (.int 0) :: (.int 0) :: (.int 0) :: (.int 0) :: (.ref (ex 10)) :: (.ref (ex 11)) :: (.ref (ex 12)) :: (.ref (ex 13)) :: []))), ((a 1), .inl (T 1, 2187, .inl (fun _ => 0)))] H := hP
  replace hD : va_D A [((a 0), .inr (12, ((.int 0) :: (.ref (ex 0)) :: (.int 0) :: (.int 0) :: (.int 0) :: (.int 0) :: (.ref (a 1)) :: (.ref (ex 1)) :: (.ref (ex 2)) :: (.ref (ex 3)) :: (.ref (ex 4)) :: (.int 0) :: (.int 0) :: (.int 0) :: (.int 0) :: (.int 0) :: (.int 0) :: (.long 0) :: (.int 0) :: (.int 0) :: (.int 0) :: (.ref (ex 5)) :: (.ref (ex 6)) :: (.int 0) :: (.ref (ex 7)) :: (.int (-1)) :: (.int 0) :: (.int 0) :: (.int 0) :: (.int 0) :: (.int 0) :: (.int 0) :: (.ref (ex 8)) :: (.int 0) :: (.ref (ex 9)) :: (.int 0) :: (.int 0) :: (.int 0) :: (.int 0) :: (.int 0) :: (.ref (ex 10)) :: (.ref (ex 11)) :: (.ref (ex 12)) :: (.ref (ex 13)) :: []))), ((a 1), .inl (T 1, 2187, .inl (fun _ => 0)))] := hD
  refine lv_aload_n hx hb dX12_bearers_5 rfl (lv_at hl 0 rfl) ?_
  refine lv_iload_n hx hb dX12_bearers_6 rfl (lv_at hl 1 rfl) ?_
  have hPc := hP.sub (ws' := (pre_X12_isNameOf T (xa [(a 0), (a 1)]) (xa [(ex 0), (ex 1), (ex 2), (ex 3), (ex 4), (ex 5), (ex 6), (ex 7), (ex 8), (ex 9), (ex 10), (ex 11), (ex 12), (ex 13)]) (xf []) (xh []) (xv [(vi 0)]))) [0, 1] rfl
  have hDc := hD.sub (ws' := (pre_X12_isNameOf T (xa [(a 0), (a 1)]) (xa [(ex 0), (ex 1), (ex 2), (ex 3), (ex 4), (ex 5), (ex 6), (ex 7), (ex 8), (ex 9), (ex 10), (ex 11), (ex 12), (ex 13)]) (xf []) (xh []) (xv [(vi 0)]))) [0, 1] (by decide) rfl
  have hFc := va_free (wc := (pre_X12_isNameOf T (xa [(a 0), (a 1)]) (xa [(ex 0), (ex 1), (ex 2), (ex 3), (ex 4), (ex 5), (ex 6), (ex 7), (ex 8), (ex 9), (ex 10), (ex 11), (ex 12), (ex 13)]) (xf []) (xh []) (xv [(vi 0)]))) hD hS hA [0, 1] rfl
  refine va_calli (va_runV (As := [.int (vi 0)]) (rest := []) ⟨hx, hb, hml, hown, htg⟩ (c_X12_isNameOf l D T (xa [(a 0), (a 1)]) (xa [(ex 0), (ex 1), (ex 2), (ex 3), (ex 4), (ex 5), (ex 6), (ex 7), (ex 8), (ex 9), (ex 10), (ex 11), (ex 12), (ex 13)]) (xf []) (xh []) (xv [(vi 0)]) H.size) ⟨callB_of 1 htg (xg_ok kw_1632) rfl rfl rfl (htg _ kw_17) (htg _ kw_1629) (by decide +kernel) ⟨by rw [hR]; exact Nat.le_of_ble_eq_true rfl, by rw [hR]; exact Nat.le_of_ble_eq_true rfl⟩, htg _ kw_1631, htg _ ks_131⟩ (xpreV hK hPc hDc (va_recv hK.1 hPc (ci := 12) (q0 := 0) rfl rfl)) rfl rfl hl.1 rfl (lv_room (Nat.le_of_ble_eq_true rfl)) dX12_bearers_7 ⟨by rw [hR]; exact Nat.le_of_ble_eq_true rfl, by rw [hR]; exact Nat.le_of_ble_eq_true rfl⟩) hS (fun q _ h => hFc q h) hFc (fun r9 u t H1 locs ht hvm hw hB hz1 hk1 hS => ?_)
  obtain ⟨bk, fik, flk, vik, hP1, hD1, hGk⟩ := hB
  rw [ht] at hP1
  obtain ⟨hP, hD⟩ := va_join (wr := []) (w1 := [((a 0), .inr (12, ((.int 0) :: (.ref (ex 0)) :: (.int 0) :: (.int 0) :: (.int 0) :: (.int 0) :: (.ref (a 1)) :: (.ref (ex 1)) :: (.ref (ex 2)) :: (.ref (ex 3)) :: (.ref (ex 4)) :: (.int 0) :: (.int 0) :: (.int 0) :: (.int 0) :: (.int 0) :: (.int 0) :: (.long 0) :: (.int 0) :: (.int 0) :: (.int 0) :: (.ref (ex 5)) :: (.ref (ex 6)) :: (.int 0) :: (.ref (ex 7)) :: (.int (-1)) :: (.int 0) :: (.int 0) :: (.int 0) :: (.int 0) :: (.int 0) :: (.int 0) :: (.ref (ex 8)) :: (.int 0) :: (.ref (ex 9)) :: (.int 0) :: (.int 0) :: (.int 0) :: (.int 0) :: (.int 0) :: (.ref (ex 10)) :: (.ref (ex 11)) :: (.ref (ex 12)) :: (.ref (ex 13)) :: []))), ((a 1), .inl (T 1, 2187, .inl (fun _ => 0)))]) hP hD [0, 1] [] rfl rfl (by decide) (by decide) hk1 hFc hP1 hD1
  subst hw
  clear hPc hDc hFc hP1 hD1 hk1 hz1 hvm ht
  generalize H1 = H at hP hS ⊢
  replace hP : va_P D vwCl [((a 0), .inr (12, ((.int 0) :: (.ref (ex 0)) :: (.int 0) :: (.int 0) :: (.int 0) :: (.int 0) :: (.ref (a 1)) :: (.ref (ex 1)) :: (.ref (ex 2)) :: (.ref (ex 3)) :: (.ref (ex 4)) :: (.int 0) :: (.int 0) :: (.int 0) :: (.int 0) :: (.int 0) :: (.int 0) :: (.long 0) :: (.int 0) :: (.int 0) :: (.int 0) :: (.ref (ex 5)) :: (.ref (ex 6)) :: (.int 0) :: (.ref (ex 7)) :: (.int (-1)) :: (.int 0) :: (.int 0) :: (.int 0) :: (.int 0) :: (.int 0) :: (.int 0) :: (.ref (ex 8)) :: (.int 0) :: (.ref (ex 9)) :: (.int 0) :: (.int 0) :: (.int 0) :: (.int 0) :: (.int 0) :: (.ref (ex 10)) :: (.ref (ex 11)) :: (.ref (ex 12)) :: (.ref (ex 13)) :: []))), ((a 1), .inl (T 1, 2187, .inl (fun _ => 0)))] H := hP
  replace hD : va_D A [((a 0), .inr (12, ((.int 0) :: (.ref (ex 0)) :: (.int 0) :: (.int 0) :: (.int 0) :: (.int 0) :: (.ref (a 1)) :: (.ref (ex 1)) :: (.ref (ex 2)) :: (.ref (ex 3)) :: (.ref (ex 4)) :: (.int 0) :: (.int 0) :: (.int 0) :: (.int 0) :: (.int 0) :: (.int 0) :: (.long 0) :: (.int 0) :: (.int 0) :: (.int 0) :: (.ref (ex 5)) :: (.ref (ex 6)) :: (.int 0) :: (.ref (ex 7)) :: (.int (-1)) :: (.int 0) :: (.int 0) :: (.int 0) :: (.int 0) :: (.int 0) :: (.int 0) :: (.ref (ex 8)) :: (.int 0) :: (.ref (ex 9)) :: (.int 0) :: (.int 0) :: (.int 0) :: (.int 0) :: (.int 0) :: (.ref (ex 10)) :: (.ref (ex 11)) :: (.ref (ex 12)) :: (.ref (ex 13)) :: []))), ((a 1), .inl (T 1, 2187, .inl (fun _ => 0)))] := hD
  refine lv_if_ne (tgt := 15) hx hb dX12_bearers_10 (by decide) (fun c => absurd (by decide) c) (fun _ => ?_)
  refine lv_iconst (v := (-1)) hx hb dX12_bearers_13 (by decide) ?_
  have hP9 := hP.sub (ws' := []) [] rfl
  have hD9 := hD.sub (ws' := []) [] (by decide) rfl
  rw [hQ]
  exact W.iret (v := (-1)) hx hb hr (fun t ht hW => ⟨⟨(-1), (), rfl, rfl, ⟨xa [], xf [], xh [], xv [], by rw [ht]; exact hP9, hD9, trivial⟩⟩, hS.F ht⟩) hS.2.2 dX12_bearers_14
abbrev pre_X12_howLong (T : Nat → ClassId) (a ex : Nat → Nat) (fi : Nat → Nat → Int32) (fl : Nat → Nat → Int64) (vi : Nat → Int32) : va_W := [((a 0), .inr (12, ((.int 0) :: (.ref (ex 0)) :: (.int 0) :: (.int 0) :: (.int 0) :: (.int 0) :: (.ref (a 1)) :: (.ref (ex 1)) :: (.ref (ex 2)) :: (.ref (ex 3)) :: (.ref (ex 4)) :: (.int 0) :: (.int 0) :: (.int 0) :: (.int 0) :: (.int 0) :: (.int 0) :: (.long 0) :: (.int 0) :: (.int 0) :: (.int 0) :: (.ref (ex 5)) :: (.ref (ex 6)) :: (.int 0) :: (.ref (ex 7)) :: (.int (-1)) :: (.int 0) :: (.int 0) :: (.int 0) :: (.int 0) :: (.int 0) :: (.int 0) :: (.ref (ex 8)) :: (.int 0) :: (.ref (ex 9)) :: (.int 0) :: (.int 0) :: (.int 0) :: (.int 0) :: (.int 0) :: (.ref (ex 10)) :: (.ref (ex 11)) :: (.ref (ex 12)) :: (.ref (ex 13)) :: []))), ((a 1), .inl (T 1, 2187, .inl (fun _ => 0)))]
set_option maxHeartbeats 4000000 in
set_option maxRecDepth 100000 in
theorem c_X12_howLong (l : Launch) (D : va_G) (T : Nat → ClassId) (a ex : Nat → Nat) (fi : Nat → Nat → Int32) (fl : Nat → Nat → Int64) (vi : Nat → Int32) (sz : Nat) : Met l yX12_howLong (xw yX12_howLong cX12_howLong 3 (some .int)) ({ frames := 2, cells := 0, slots := 0, locals := 51 }) (xP D T [.ref (a 0), .int (vi 0), .int (vi 1)] sz (pre_X12_howLong T a ex fi fl vi)) (va_Qi (fun r (_ : Unit) => r = (-1)) (xB D (va_A (pre_X12_howLong T a ex fi fl vi) sz) (fun _ => True) (fun b fj fm vj => [])) (va_A (pre_X12_howLong T a ex fi fl vi) sz)) 0 0 (va_A (pre_X12_howLong T a ex fi fl vi) sz) := by
  refine xofW (cc := cX12_howLong) (maxL := 3) (ret := (some .int)) (by decide) rfl ?_
  intro p e s m args below meth c s₁ R Q hR hQ B hml hv
  obtain ⟨rfl, hsz, hP, hK, hD0⟩ := hv
  have hx := B.exec
  have hb := B.bytes
  have hr := B.returns
  have hts := atoms_spec (ws := xw yX12_howLong cX12_howLong 3 (some .int)) B.pre
  have htg : ∀ w ∈ xg, w.before _ s = true := fun w h => hts w (List.mem_cons_of_mem _ h)
  have hown : s.vm.findClass RX12 = some m.cls := findClass_of_methodNamed B.named
  have hlocks := B.notSynchronized
  subst hsz
  have hD := hD0.self (sz := s.heap.size)
  generalize hAe : va_A (pre_X12_howLong T a ex fi fl vi) s.heap.size = A at hD hQ
  have hA : ∀ q : Nat, s.heap.size ≤ q → A q := fun q h => by rw [← hAe]; exact Or.inr h
  have hS : va_S A s.heap s.heap [] := va_S.rf
  replace hP : va_P D vwCl [((a 0), .inr (12, ((.int 0) :: (.ref (ex 0)) :: (.int 0) :: (.int 0) :: (.int 0) :: (.int 0) :: (.ref (a 1)) :: (.ref (ex 1)) :: (.ref (ex 2)) :: (.ref (ex 3)) :: (.ref (ex 4)) :: (.int 0) :: (.int 0) :: (.int 0) :: (.int 0) :: (.int 0) :: (.int 0) :: (.long 0) :: (.int 0) :: (.int 0) :: (.int 0) :: (.ref (ex 5)) :: (.ref (ex 6)) :: (.int 0) :: (.ref (ex 7)) :: (.int (-1)) :: (.int 0) :: (.int 0) :: (.int 0) :: (.int 0) :: (.int 0) :: (.int 0) :: (.ref (ex 8)) :: (.int 0) :: (.ref (ex 9)) :: (.int 0) :: (.int 0) :: (.int 0) :: (.int 0) :: (.int 0) :: (.ref (ex 10)) :: (.ref (ex 11)) :: (.ref (ex 12)) :: (.ref (ex 13)) :: []))), ((a 1), .inl (T 1, 2187, .inl (fun _ => 0)))] s.heap := hP
  replace hD : va_D A [((a 0), .inr (12, ((.int 0) :: (.ref (ex 0)) :: (.int 0) :: (.int 0) :: (.int 0) :: (.int 0) :: (.ref (a 1)) :: (.ref (ex 1)) :: (.ref (ex 2)) :: (.ref (ex 3)) :: (.ref (ex 4)) :: (.int 0) :: (.int 0) :: (.int 0) :: (.int 0) :: (.int 0) :: (.int 0) :: (.long 0) :: (.int 0) :: (.int 0) :: (.int 0) :: (.ref (ex 5)) :: (.ref (ex 6)) :: (.int 0) :: (.ref (ex 7)) :: (.int (-1)) :: (.int 0) :: (.int 0) :: (.int 0) :: (.int 0) :: (.int 0) :: (.int 0) :: (.ref (ex 8)) :: (.int 0) :: (.ref (ex 9)) :: (.int 0) :: (.int 0) :: (.int 0) :: (.int 0) :: (.int 0) :: (.ref (ex 10)) :: (.ref (ex 11)) :: (.ref (ex 12)) :: (.ref (ex 13)) :: []))), ((a 1), .inl (T 1, 2187, .inl (fun _ => 0)))] := hD
  have hl := lv_entry ([.ref (a 0), .int (vi 0), .int (vi 1)]) (n := 3) (Nat.le_of_ble_eq_true rfl)
  rw [lg_entry_eq]
  generalize (lg_sl ([.ref (a 0), .int (vi 0), .int (vi 1)]) ++ List.replicate (3 - (lg_sl ([.ref (a 0), .int (vi 0), .int (vi 1)])).length) Slot.unset).toArray = ls at hl ⊢
  replace hl : lv_has ls 3 [(0, .ref (a 0)), (1, .int (vi 0)), (2, .int (vi 1))] := hl
  refine lv_aload_n hx hb dX12_howLong_0 rfl (lv_at hl 0 rfl) ?_
  refine lv_iconst (v := 0) hx hb dX12_howLong_1 (by decide) ?_
  refine va_put (D := D) (ci := 12) (v := .int 0) (ty := .int) (C := RX12) (T := TX12) (N := 44) hx hb htg inX12 tyX12 tyX12_ok nmX12 hown hK.1 hP hD hS 0 rfl rfl 0 (by decide) (htg _ kw_1407) (fun _ h9 => h9) rfl (by decide +kernel) rfl rfl (Nat.le_of_ble_eq_true rfl) dX12_howLong_2 (fun H locs hP hD hS => ?_)
  replace hP : va_P D vwCl [((a 0), .inr (12, ((.int 0) :: (.ref (ex 0)) :: (.int 0) :: (.int 0) :: (.int 0) :: (.int 0) :: (.ref (a 1)) :: (.ref (ex 1)) :: (.ref (ex 2)) :: (.ref (ex 3)) :: (.ref (ex 4)) :: (.int 0) :: (.int 0) :: (.int 0) :: (.int 0) :: (.int 0) :: (.int 0) :: (.long 0) :: (.int 0) :: (.int 0) :: (.int 0) :: (.ref (ex 5)) :: (.ref (ex 6)) :: (.int 0) :: (.ref (ex 7)) :: (.int (-1)) :: (.int 0) :: (.int 0) :: (.int 0) :: (.int 0) :: (.int 0) :: (.int 0) :: (.ref (ex 8)) :: (.int 0) :: (.ref (ex 9)) :: (.int 0) :: (.int 0) :: (.int 0) :: (.int 0) :: (.int 0) :: (.ref (ex 10)) :: (.ref (ex 11)) :: (.ref (ex 12)) :: (.ref (ex 13)) :: []))), ((a 1), .inl (T 1, 2187, .inl (fun _ => 0)))] H := hP
  replace hD : va_D A [((a 0), .inr (12, ((.int 0) :: (.ref (ex 0)) :: (.int 0) :: (.int 0) :: (.int 0) :: (.int 0) :: (.ref (a 1)) :: (.ref (ex 1)) :: (.ref (ex 2)) :: (.ref (ex 3)) :: (.ref (ex 4)) :: (.int 0) :: (.int 0) :: (.int 0) :: (.int 0) :: (.int 0) :: (.int 0) :: (.long 0) :: (.int 0) :: (.int 0) :: (.int 0) :: (.ref (ex 5)) :: (.ref (ex 6)) :: (.int 0) :: (.ref (ex 7)) :: (.int (-1)) :: (.int 0) :: (.int 0) :: (.int 0) :: (.int 0) :: (.int 0) :: (.int 0) :: (.ref (ex 8)) :: (.int 0) :: (.ref (ex 9)) :: (.int 0) :: (.int 0) :: (.int 0) :: (.int 0) :: (.int 0) :: (.ref (ex 10)) :: (.ref (ex 11)) :: (.ref (ex 12)) :: (.ref (ex 13)) :: []))), ((a 1), .inl (T 1, 2187, .inl (fun _ => 0)))] := hD
  refine lv_aload_n hx hb dX12_howLong_5 rfl (lv_at hl 0 rfl) ?_
  refine lv_iload_n hx hb dX12_howLong_6 rfl (lv_at hl 1 rfl) ?_
  have hPc := hP.sub (ws' := (pre_X12_isSoul T (xa [(a 0), (a 1)]) (xa [(ex 0), (ex 1), (ex 2), (ex 3), (ex 4), (ex 5), (ex 6), (ex 7), (ex 8), (ex 9), (ex 10), (ex 11), (ex 12), (ex 13)]) (xf []) (xh []) (xv [(vi 0)]))) [0, 1] rfl
  have hDc := hD.sub (ws' := (pre_X12_isSoul T (xa [(a 0), (a 1)]) (xa [(ex 0), (ex 1), (ex 2), (ex 3), (ex 4), (ex 5), (ex 6), (ex 7), (ex 8), (ex 9), (ex 10), (ex 11), (ex 12), (ex 13)]) (xf []) (xh []) (xv [(vi 0)]))) [0, 1] (by decide) rfl
  have hFc := va_free (wc := (pre_X12_isSoul T (xa [(a 0), (a 1)]) (xa [(ex 0), (ex 1), (ex 2), (ex 3), (ex 4), (ex 5), (ex 6), (ex 7), (ex 8), (ex 9), (ex 10), (ex 11), (ex 12), (ex 13)]) (xf []) (xh []) (xv [(vi 0)]))) hD hS hA [0, 1] rfl
  refine va_calli (va_runV (As := [.int (vi 0)]) (rest := []) ⟨hx, hb, hml, hown, htg⟩ (c_X12_isSoul l D T (xa [(a 0), (a 1)]) (xa [(ex 0), (ex 1), (ex 2), (ex 3), (ex 4), (ex 5), (ex 6), (ex 7), (ex 8), (ex 9), (ex 10), (ex 11), (ex 12), (ex 13)]) (xf []) (xh []) (xv [(vi 0)]) H.size) ⟨callB_of 1 htg (xg_ok kw_1652) rfl rfl rfl (htg _ kw_17) (htg _ kw_1649) (by decide +kernel) ⟨by rw [hR]; exact Nat.le_of_ble_eq_true rfl, by rw [hR]; exact Nat.le_of_ble_eq_true rfl⟩, htg _ kw_1651, htg _ ks_135⟩ (xpreV hK hPc hDc (va_recv hK.1 hPc (ci := 12) (q0 := 0) rfl rfl)) rfl rfl hl.1 rfl (lv_room (Nat.le_of_ble_eq_true rfl)) dX12_howLong_7 ⟨by rw [hR]; exact Nat.le_of_ble_eq_true rfl, by rw [hR]; exact Nat.le_of_ble_eq_true rfl⟩) hS (fun q _ h => hFc q h) hFc (fun r9 u t H1 locs ht hvm hw hB hz1 hk1 hS => ?_)
  obtain ⟨bk, fik, flk, vik, hP1, hD1, hGk⟩ := hB
  rw [ht] at hP1
  obtain ⟨hP, hD⟩ := va_join (wr := []) (w1 := [((a 0), .inr (12, ((.int 0) :: (.ref (ex 0)) :: (.int 0) :: (.int 0) :: (.int 0) :: (.int 0) :: (.ref (a 1)) :: (.ref (ex 1)) :: (.ref (ex 2)) :: (.ref (ex 3)) :: (.ref (ex 4)) :: (.int 0) :: (.int 0) :: (.int 0) :: (.int 0) :: (.int 0) :: (.int 0) :: (.long 0) :: (.int 0) :: (.int 0) :: (.int 0) :: (.ref (ex 5)) :: (.ref (ex 6)) :: (.int 0) :: (.ref (ex 7)) :: (.int (-1)) :: (.int 0) :: (.int 0) :: (.int 0) :: (.int 0) :: (.int 0) :: (.int 0) :: (.ref (ex 8)) :: (.int 0) :: (.ref (ex 9)) :: (.int 0) :: (.int 0) :: (.int 0) :: (.int 0) :: (.int 0) :: (.ref (ex 10)) :: (.ref (ex 11)) :: (.ref (ex 12)) :: (.ref (ex 13)) :: []))), ((a 1), .inl (T 1, 2187, .inl (fun _ => 0)))]) hP hD [0, 1] [] rfl rfl (by decide) (by decide) hk1 hFc hP1 hD1
  subst hw
  clear hPc hDc hFc hP1 hD1 hk1 hz1 hvm ht
  generalize H1 = H at hP hS ⊢
  replace hP : va_P D vwCl [((a 0), .inr (12, ((.int 0) :: (.ref (ex 0)) :: (.int 0) :: (.int 0) :: (.int 0) :: (.int 0) :: (.ref (a 1)) :: (.ref (ex 1)) :: (.ref (ex 2)) :: (.ref (ex 3)) :: (.ref (ex 4)) :: (.int 0) :: (.int 0) :: (.int 0) :: (.int 0) :: (.int 0) :: (.int 0) :: (.long 0) :: (.int 0) :: (.int 0) :: (.int 0) :: (.ref (ex 5)) :: (.ref (ex 6)) :: (.int 0) :: (.ref (ex 7)) :: (.int (-1)) :: (.int 0) :: (.int 0) :: (.int 0) :: (.int 0) :: (.int 0) :: (.int 0) :: (.ref (ex 8)) :: (.int 0) :: (.ref (ex 9)) :: (.int 0) :: (.int 0) :: (.int 0) :: (.int 0) :: (.int 0) :: (.ref (ex 10)) :: (.ref (ex 11)) :: (.ref (ex 12)) :: (.ref (ex 13)) :: []))), ((a 1), .inl (T 1, 2187, .inl (fun _ => 0)))] H := hP
  replace hD : va_D A [((a 0), .inr (12, ((.int 0) :: (.ref (ex 0)) :: (.int 0) :: (.int 0) :: (.int 0) :: (.int 0) :: (.ref (a 1)) :: (.ref (ex 1)) :: (.ref (ex 2)) :: (.ref (ex 3)) :: (.ref (ex 4)) :: (.int 0) :: (.int 0) :: (.int 0) :: (.int 0) :: (.int 0) :: (.int 0) :: (.long 0) :: (.int 0) :: (.int 0) :: (.int 0) :: (.ref (ex 5)) :: (.ref (ex 6)) :: (.int 0) :: (.ref (ex 7)) :: (.int (-1)) :: (.int 0) :: (.int 0) :: (.int 0) :: (.int 0) :: (.int 0) :: (.int 0) :: (.ref (ex 8)) :: (.int 0) :: (.ref (ex 9)) :: (.int 0) :: (.int 0) :: (.int 0) :: (.int 0) :: (.int 0) :: (.ref (ex 10)) :: (.ref (ex 11)) :: (.ref (ex 12)) :: (.ref (ex 13)) :: []))), ((a 1), .inl (T 1, 2187, .inl (fun _ => 0)))] := hD
  refine lv_if_eq (tgt := 30) hx hb dX12_howLong_10 (by decide) (fun _ => ?_) (fun c => absurd (by decide) c)
  refine lv_iconst (v := (-1)) hx hb dX12_howLong_30 (by decide) ?_
  have hP9 := hP.sub (ws' := []) [] rfl
  have hD9 := hD.sub (ws' := []) [] (by decide) rfl
  rw [hQ]
  exact W.iret (v := (-1)) hx hb hr (fun t ht hW => ⟨⟨(-1), (), rfl, rfl, ⟨xa [], xf [], xh [], xv [], by rw [ht]; exact hP9, hD9, trivial⟩⟩, hS.F ht⟩) hS.2.2 dX12_howLong_31
abbrev pre_X12_canBe (T : Nat → ClassId) (a ex : Nat → Nat) (fi : Nat → Nat → Int32) (fl : Nat → Nat → Int64) (vi : Nat → Int32) : va_W := [((a 0), .inr (12, ((.int 0) :: (.ref (ex 0)) :: (.int 0) :: (.int 0) :: (.int 0) :: (.int 0) :: (.ref (a 1)) :: (.ref (ex 1)) :: (.ref (ex 2)) :: (.ref (ex 3)) :: (.ref (ex 4)) :: (.int 0) :: (.int 0) :: (.int 0) :: (.int 0) :: (.int 0) :: (.int 0) :: (.long 0) :: (.int 0) :: (.int 0) :: (.int 0) :: (.ref (ex 5)) :: (.ref (ex 6)) :: (.int 0) :: (.ref (ex 7)) :: (.int (-1)) :: (.int 0) :: (.int 0) :: (.int 0) :: (.int 0) :: (.int 0) :: (.int 0) :: (.ref (ex 8)) :: (.int 0) :: (.ref (ex 9)) :: (.int 0) :: (.int 0) :: (.int 0) :: (.int 0) :: (.int 0) :: (.ref (ex 10)) :: (.ref (ex 11)) :: (.ref (ex 12)) :: (.ref (ex 13)) :: []))), ((a 1), .inl (T 1, 2187, .inl (fun _ => 0)))]
set_option maxHeartbeats 4000000 in
set_option maxRecDepth 100000 in
theorem c_X12_canBe (l : Launch) (D : va_G) (T : Nat → ClassId) (a ex : Nat → Nat) (fi : Nat → Nat → Int32) (fl : Nat → Nat → Int64) (vi : Nat → Int32) (sz : Nat) : Met l yX12_canBe (xw yX12_canBe cX12_canBe 3 (some .boolean)) ({ frames := 0, cells := 0, slots := 0, locals := 0 }) (xP D T [.ref (a 0)] sz (pre_X12_canBe T a ex fi fl vi)) (va_Qi (fun r (_ : Unit) => r = 1) (xB D (va_A (pre_X12_canBe T a ex fi fl vi) sz) (fun _ => True) (fun b fj fm vj => [((a 0), .inr (12, ((.int 0) :: (.ref (ex 0)) :: (.int 0) :: (.int 0) :: (.int 0) :: (.int 0) :: (.ref (a 1)) :: (.ref (ex 1)) :: (.ref (ex 2)) :: (.ref (ex 3)) :: (.ref (ex 4)) :: (.int 0) :: (.int 0) :: (.int 0) :: (.int 0) :: (.int 0) :: (.int 0) :: (.long 0) :: (.int 0) :: (.int 0) :: (.int 0) :: (.ref (ex 5)) :: (.ref (ex 6)) :: (.int 0) :: (.ref (ex 7)) :: (.int (-1)) :: (.int 0) :: (.int 0) :: (.int 0) :: (.int 0) :: (.int 0) :: (.int 0) :: (.ref (ex 8)) :: (.int 0) :: (.ref (ex 9)) :: (.int 0) :: (.int 0) :: (.int 0) :: (.int 0) :: (.int 0) :: (.ref (ex 10)) :: (.ref (ex 11)) :: (.ref (ex 12)) :: (.ref (ex 13)) :: []))), ((a 1), .inl (T 1, 2187, .inl (fun _ => 0)))])) (va_A (pre_X12_canBe T a ex fi fl vi) sz)) 0 0 (va_A (pre_X12_canBe T a ex fi fl vi) sz) := by
  refine xofW (cc := cX12_canBe) (maxL := 3) (ret := (some .boolean)) (by decide) rfl ?_
  intro p e s m args below meth c s₁ R Q hR hQ B hml hv
  obtain ⟨rfl, hsz, hP, hK, hD0⟩ := hv
  have hx := B.exec
  have hb := B.bytes
  have hr := B.returns
  have hts := atoms_spec (ws := xw yX12_canBe cX12_canBe 3 (some .boolean)) B.pre
  have htg : ∀ w ∈ xg, w.before _ s = true := fun w h => hts w (List.mem_cons_of_mem _ h)
  have hown : s.vm.findClass RX12 = some m.cls := findClass_of_methodNamed B.named
  have hlocks := B.notSynchronized
  subst hsz
  have hD := hD0.self (sz := s.heap.size)
  generalize hAe : va_A (pre_X12_canBe T a ex fi fl vi) s.heap.size = A at hD hQ
  have hA : ∀ q : Nat, s.heap.size ≤ q → A q := fun q h => by rw [← hAe]; exact Or.inr h
  have hS : va_S A s.heap s.heap [] := va_S.rf
  replace hP : va_P D vwCl [((a 0), .inr (12, ((.int 0) :: (.ref (ex 0)) :: (.int 0) :: (.int 0) :: (.int 0) :: (.int 0) :: (.ref (a 1)) :: (.ref (ex 1)) :: (.ref (ex 2)) :: (.ref (ex 3)) :: (.ref (ex 4)) :: (.int 0) :: (.int 0) :: (.int 0) :: (.int 0) :: (.int 0) :: (.int 0) :: (.long 0) :: (.int 0) :: (.int 0) :: (.int 0) :: (.ref (ex 5)) :: (.ref (ex 6)) :: (.int 0) :: (.ref (ex 7)) :: (.int (-1)) :: (.int 0) :: (.int 0) :: (.int 0) :: (.int 0) :: (.int 0) :: (.int 0) :: (.ref (ex 8)) :: (.int 0) :: (.ref (ex 9)) :: (.int 0) :: (.int 0) :: (.int 0) :: (.int 0) :: (.int 0) :: (.ref (ex 10)) :: (.ref (ex 11)) :: (.ref (ex 12)) :: (.ref (ex 13)) :: []))), ((a 1), .inl (T 1, 2187, .inl (fun _ => 0)))] s.heap := hP
  replace hD : va_D A [((a 0), .inr (12, ((.int 0) :: (.ref (ex 0)) :: (.int 0) :: (.int 0) :: (.int 0) :: (.int 0) :: (.ref (a 1)) :: (.ref (ex 1)) :: (.ref (ex 2)) :: (.ref (ex 3)) :: (.ref (ex 4)) :: (.int 0) :: (.int 0) :: (.int 0) :: (.int 0) :: (.int 0) :: (.int 0) :: (.long 0) :: (.int 0) :: (.int 0) :: (.int 0) :: (.ref (ex 5)) :: (.ref (ex 6)) :: (.int 0) :: (.ref (ex 7)) :: (.int (-1)) :: (.int 0) :: (.int 0) :: (.int 0) :: (.int 0) :: (.int 0) :: (.int 0) :: (.ref (ex 8)) :: (.int 0) :: (.ref (ex 9)) :: (.int 0) :: (.int 0) :: (.int 0) :: (.int 0) :: (.int 0) :: (.ref (ex 10)) :: (.ref (ex 11)) :: (.ref (ex 12)) :: (.ref (ex 13)) :: []))), ((a 1), .inl (T 1, 2187, .inl (fun _ => 0)))] := hD
  have hl := lv_entry ([.ref (a 0)]) (n := 3) (Nat.le_of_ble_eq_true rfl)
  rw [lg_entry_eq]
  generalize (lg_sl ([.ref (a 0)]) ++ List.replicate (3 - (lg_sl ([.ref (a 0)])).length) Slot.unset).toArray = ls at hl ⊢
  replace hl : lv_has ls 3 [(0, .ref (a 0))] := hl
  refine lv_iconst (v := 0) hx hb dX12_canBe_0 (by decide) ?_
  refine lv_istore_n (lv' := [(1, .int 0), (0, .ref (a 0))]) hx hb dX12_canBe_1 rfl hl (by decide) rfl (fun ls hl => ?_)
  refine lv_iload_n hx hb dX12_canBe_2 rfl (lv_at hl 0 rfl) ?_
  refine lv_aload_n hx hb dX12_canBe_3 rfl (lv_at hl 1 rfl) ?_
  refine va_get (D := D) (ci := 12) (v := .ref (a 1)) (C := RX12) (T := TX12) (N := 44) hx hb htg inX12 hown hK.1 hP 0 rfl rfl 6 (by decide) (htg _ kw_1413) (fun _ h9 => h9) rfl dX12_canBe_4 ?_
  refine lv_iconst (v := 1) hx hb dX12_canBe_7 (by decide) ?_
  refine va_iald hx hb hK.1 hP 1 1 rfl rfl (vp_in_nI (n := 1) (by decide) (by decide)) dX12_canBe_8 ?_
  refine xz_i 0 rfl ?_
  refine lv_icmp_ge (tgt := 96) hx hb dX12_canBe_9 (by decide) (fun _ => ?_) (fun c => absurd (by decide) c)
  refine lv_iconst (v := 1) hx hb dX12_canBe_96 (by decide) ?_
  have hP9 := hP.sub (ws' := [((a 0), .inr (12, ((.int 0) :: (.ref (ex 0)) :: (.int 0) :: (.int 0) :: (.int 0) :: (.int 0) :: (.ref (a 1)) :: (.ref (ex 1)) :: (.ref (ex 2)) :: (.ref (ex 3)) :: (.ref (ex 4)) :: (.int 0) :: (.int 0) :: (.int 0) :: (.int 0) :: (.int 0) :: (.int 0) :: (.long 0) :: (.int 0) :: (.int 0) :: (.int 0) :: (.ref (ex 5)) :: (.ref (ex 6)) :: (.int 0) :: (.ref (ex 7)) :: (.int (-1)) :: (.int 0) :: (.int 0) :: (.int 0) :: (.int 0) :: (.int 0) :: (.int 0) :: (.ref (ex 8)) :: (.int 0) :: (.ref (ex 9)) :: (.int 0) :: (.int 0) :: (.int 0) :: (.int 0) :: (.int 0) :: (.ref (ex 10)) :: (.ref (ex 11)) :: (.ref (ex 12)) :: (.ref (ex 13)) :: []))), ((a 1), .inl (T 1, 2187, .inl (fun _ => 0)))]) [0, 1] rfl
  have hD9 := hD.sub (ws' := [((a 0), .inr (12, ((.int 0) :: (.ref (ex 0)) :: (.int 0) :: (.int 0) :: (.int 0) :: (.int 0) :: (.ref (a 1)) :: (.ref (ex 1)) :: (.ref (ex 2)) :: (.ref (ex 3)) :: (.ref (ex 4)) :: (.int 0) :: (.int 0) :: (.int 0) :: (.int 0) :: (.int 0) :: (.int 0) :: (.long 0) :: (.int 0) :: (.int 0) :: (.int 0) :: (.ref (ex 5)) :: (.ref (ex 6)) :: (.int 0) :: (.ref (ex 7)) :: (.int (-1)) :: (.int 0) :: (.int 0) :: (.int 0) :: (.int 0) :: (.int 0) :: (.int 0) :: (.ref (ex 8)) :: (.int 0) :: (.ref (ex 9)) :: (.int 0) :: (.int 0) :: (.int 0) :: (.int 0) :: (.int 0) :: (.ref (ex 10)) :: (.ref (ex 11)) :: (.ref (ex 12)) :: (.ref (ex 13)) :: []))), ((a 1), .inl (T 1, 2187, .inl (fun _ => 0)))]) [0, 1] (by decide +kernel) rfl
  rw [hQ]
  exact W.zret (v := 1) hx hb hr rfl (fun t ht hW => ⟨⟨1, (), rfl, rfl, ⟨xa [], xf [], xh [], xv [], by rw [ht]; exact hP9, hD9, trivial⟩⟩, hS.F ht⟩) hS.2.2 dX12_canBe_97
abbrev pre_X12_wishes (T : Nat → ClassId) (a ex : Nat → Nat) (fi : Nat → Nat → Int32) (fl : Nat → Nat → Int64) (vi : Nat → Int32) : va_W := [((a 0), .inr (12, ((.int 0) :: (.ref (ex 0)) :: (.int 0) :: (.int 0) :: (.int 0) :: (.int 0) :: (.ref (a 1)) :: (.ref (ex 1)) :: (.ref (ex 2)) :: (.ref (ex 3)) :: (.ref (ex 4)) :: (.int 0) :: (.int 0) :: (.int 0) :: (.int 0) :: (.int 0) :: (.int 0) :: (.long 0) :: (.int 0) :: (.int 0) :: (.int 0) :: (.ref (ex 5)) :: (.ref (ex 6)) :: (.int 0) :: (.ref (a 2)) :: (.int (-1)) :: (.int 0) :: (.int 0) :: (.int 0) :: (.int 0) :: (.int 0) :: (.int 0) :: (.ref (ex 7)) :: (.int 0) :: (.ref (ex 8)) :: (.int 0) :: (.int 0) :: (.int 0) :: (.int 0) :: (.int 0) :: (.ref (ex 9)) :: (.ref (ex 10)) :: (.ref (ex 11)) :: (.ref (ex 12)) :: []))), ((a 1), .inl (T 1, 2187, .inl (fun _ => 0))), ((a 2), .inl (T 1, 9, .inl (fun _ => 0)))]
set_option maxHeartbeats 4000000 in
set_option maxRecDepth 100000 in
theorem c_X12_wishes (l : Launch) (D : va_G) (T : Nat → ClassId) (a ex : Nat → Nat) (fi : Nat → Nat → Int32) (fl : Nat → Nat → Int64) (vi : Nat → Int32) (sz : Nat) : Met l yX12_wishes (xw yX12_wishes cX12_wishes 5 (some .int)) ({ frames := 1, cells := 0, slots := 0, locals := 26 }) (xP D T [.ref (a 0)] sz (pre_X12_wishes T a ex fi fl vi)) (va_Qi (fun r (_ : Unit) => r = 0) (xB D (va_A (pre_X12_wishes T a ex fi fl vi) sz) (fun _ => True) (fun b fj fm vj => [])) (va_A (pre_X12_wishes T a ex fi fl vi) sz)) 0 0 (va_A (pre_X12_wishes T a ex fi fl vi) sz) := by
  refine xofW (cc := cX12_wishes) (maxL := 5) (ret := (some .int)) (by decide) rfl ?_
  intro p e s m args below meth c s₁ R Q hR hQ B hml hv
  obtain ⟨rfl, hsz, hP, hK, hD0⟩ := hv
  have hx := B.exec
  have hb := B.bytes
  have hr := B.returns
  have hts := atoms_spec (ws := xw yX12_wishes cX12_wishes 5 (some .int)) B.pre
  have htg : ∀ w ∈ xg, w.before _ s = true := fun w h => hts w (List.mem_cons_of_mem _ h)
  have hown : s.vm.findClass RX12 = some m.cls := findClass_of_methodNamed B.named
  have hlocks := B.notSynchronized
  subst hsz
  have hD := hD0.self (sz := s.heap.size)
  generalize hAe : va_A (pre_X12_wishes T a ex fi fl vi) s.heap.size = A at hD hQ
  have hA : ∀ q : Nat, s.heap.size ≤ q → A q := fun q h => by rw [← hAe]; exact Or.inr h
  have hS : va_S A s.heap s.heap [] := va_S.rf
  replace hP : va_P D vwCl [((a 0), .inr (12, ((.int 0) :: (.ref (ex 0)) :: (.int 0) :: (.int 0) :: (.int 0) :: (.int 0) :: (.ref (a 1)) :: (.ref (ex 1)) :: (.ref (ex 2)) :: (.ref (ex 3)) :: (.ref (ex 4)) :: (.int 0) :: (.int 0) :: (.int 0) :: (.int 0) :: (.int 0) :: (.int 0) :: (.long 0) :: (.int 0) :: (.int 0) :: (.int 0) :: (.ref (ex 5)) :: (.ref (ex 6)) :: (.int 0) :: (.ref (a 2)) :: (.int (-1)) :: (.int 0) :: (.int 0) :: (.int 0) :: (.int 0) :: (.int 0) :: (.int 0) :: (.ref (ex 7)) :: (.int 0) :: (.ref (ex 8)) :: (.int 0) :: (.int 0) :: (.int 0) :: (.int 0) :: (.int 0) :: (.ref (ex 9)) :: (.ref (ex 10)) :: (.ref (ex 11)) :: (.ref (ex 12)) :: []))), ((a 1), .inl (T 1, 2187, .inl (fun _ => 0))), ((a 2), .inl (T 1, 9, .inl (fun _ => 0)))] s.heap := hP
  replace hD : va_D A [((a 0), .inr (12, ((.int 0) :: (.ref (ex 0)) :: (.int 0) :: (.int 0) :: (.int 0) :: (.int 0) :: (.ref (a 1)) :: (.ref (ex 1)) :: (.ref (ex 2)) :: (.ref (ex 3)) :: (.ref (ex 4)) :: (.int 0) :: (.int 0) :: (.int 0) :: (.int 0) :: (.int 0) :: (.int 0) :: (.long 0) :: (.int 0) :: (.int 0) :: (.int 0) :: (.ref (ex 5)) :: (.ref (ex 6)) :: (.int 0) :: (.ref (a 2)) :: (.int (-1)) :: (.int 0) :: (.int 0) :: (.int 0) :: (.int 0) :: (.int 0) :: (.int 0) :: (.ref (ex 7)) :: (.int 0) :: (.ref (ex 8)) :: (.int 0) :: (.int 0) :: (.int 0) :: (.int 0) :: (.int 0) :: (.ref (ex 9)) :: (.ref (ex 10)) :: (.ref (ex 11)) :: (.ref (ex 12)) :: []))), ((a 1), .inl (T 1, 2187, .inl (fun _ => 0))), ((a 2), .inl (T 1, 9, .inl (fun _ => 0)))] := hD
  have hl := lv_entry ([.ref (a 0)]) (n := 5) (Nat.le_of_ble_eq_true rfl)
  rw [lg_entry_eq]
  generalize (lg_sl ([.ref (a 0)]) ++ List.replicate (5 - (lg_sl ([.ref (a 0)])).length) Slot.unset).toArray = ls at hl ⊢
  replace hl : lv_has ls 5 [(0, .ref (a 0))] := hl
  refine lv_aload_n hx hb dX12_wishes_0 rfl (lv_at hl 0 rfl) ?_
  refine lv_iconst (v := 0) hx hb dX12_wishes_1 (by decide) ?_
  refine va_put (D := D) (ci := 12) (v := .int 0) (ty := .int) (C := RX12) (T := TX12) (N := 44) hx hb htg inX12 tyX12 tyX12_ok nmX12 hown hK.1 hP hD hS 0 rfl rfl 0 (by decide) (htg _ kw_1407) (fun _ h9 => h9) rfl (by decide +kernel) rfl rfl (Nat.le_of_ble_eq_true rfl) dX12_wishes_2 (fun H locs hP hD hS => ?_)
  replace hP : va_P D vwCl [((a 0), .inr (12, ((.int 0) :: (.ref (ex 0)) :: (.int 0) :: (.int 0) :: (.int 0) :: (.int 0) :: (.ref (a 1)) :: (.ref (ex 1)) :: (.ref (ex 2)) :: (.ref (ex 3)) :: (.ref (ex 4)) :: (.int 0) :: (.int 0) :: (.int 0) :: (.int 0) :: (.int 0) :: (.int 0) :: (.long 0) :: (.int 0) :: (.int 0) :: (.int 0) :: (.ref (ex 5)) :: (.ref (ex 6)) :: (.int 0) :: (.ref (a 2)) :: (.int (-1)) :: (.int 0) :: (.int 0) :: (.int 0) :: (.int 0) :: (.int 0) :: (.int 0) :: (.ref (ex 7)) :: (.int 0) :: (.ref (ex 8)) :: (.int 0) :: (.int 0) :: (.int 0) :: (.int 0) :: (.int 0) :: (.ref (ex 9)) :: (.ref (ex 10)) :: (.ref (ex 11)) :: (.ref (ex 12)) :: []))), ((a 1), .inl (T 1, 2187, .inl (fun _ => 0))), ((a 2), .inl (T 1, 9, .inl (fun _ => 0)))] H := hP
  replace hD : va_D A [((a 0), .inr (12, ((.int 0) :: (.ref (ex 0)) :: (.int 0) :: (.int 0) :: (.int 0) :: (.int 0) :: (.ref (a 1)) :: (.ref (ex 1)) :: (.ref (ex 2)) :: (.ref (ex 3)) :: (.ref (ex 4)) :: (.int 0) :: (.int 0) :: (.int 0) :: (.int 0) :: (.int 0) :: (.int 0) :: (.long 0) :: (.int 0) :: (.int 0) :: (.int 0) :: (.ref (ex 5)) :: (.ref (ex 6)) :: (.int 0) :: (.ref (a 2)) :: (.int (-1)) :: (.int 0) :: (.int 0) :: (.int 0) :: (.int 0) :: (.int 0) :: (.int 0) :: (.ref (ex 7)) :: (.int 0) :: (.ref (ex 8)) :: (.int 0) :: (.int 0) :: (.int 0) :: (.int 0) :: (.int 0) :: (.ref (ex 9)) :: (.ref (ex 10)) :: (.ref (ex 11)) :: (.ref (ex 12)) :: []))), ((a 1), .inl (T 1, 2187, .inl (fun _ => 0))), ((a 2), .inl (T 1, 9, .inl (fun _ => 0)))] := hD
  refine lv_aload_n hx hb dX12_wishes_5 rfl (lv_at hl 0 rfl) ?_
  refine lv_iconst (v := (-1)) hx hb dX12_wishes_6 (by decide) ?_
  refine va_put (D := D) (ci := 12) (v := .int (-1)) (ty := .int) (C := RX12) (T := TX12) (N := 44) hx hb htg inX12 tyX12 tyX12_ok nmX12 hown hK.1 hP hD hS 0 rfl rfl 25 (by decide) (htg _ kw_1432) (fun _ h9 => h9) rfl (by decide +kernel) rfl rfl (Nat.le_of_ble_eq_true rfl) dX12_wishes_7 (fun H locs hP hD hS => ?_)
  replace hP : va_P D vwCl [((a 0), .inr (12, ((.int 0) :: (.ref (ex 0)) :: (.int 0) :: (.int 0) :: (.int 0) :: (.int 0) :: (.ref (a 1)) :: (.ref (ex 1)) :: (.ref (ex 2)) :: (.ref (ex 3)) :: (.ref (ex 4)) :: (.int 0) :: (.int 0) :: (.int 0) :: (.int 0) :: (.int 0) :: (.int 0) :: (.long 0) :: (.int 0) :: (.int 0) :: (.int 0) :: (.ref (ex 5)) :: (.ref (ex 6)) :: (.int 0) :: (.ref (a 2)) :: (.int (-1)) :: (.int 0) :: (.int 0) :: (.int 0) :: (.int 0) :: (.int 0) :: (.int 0) :: (.ref (ex 7)) :: (.int 0) :: (.ref (ex 8)) :: (.int 0) :: (.int 0) :: (.int 0) :: (.int 0) :: (.int 0) :: (.ref (ex 9)) :: (.ref (ex 10)) :: (.ref (ex 11)) :: (.ref (ex 12)) :: []))), ((a 1), .inl (T 1, 2187, .inl (fun _ => 0))), ((a 2), .inl (T 1, 9, .inl (fun _ => 0)))] H := hP
  replace hD : va_D A [((a 0), .inr (12, ((.int 0) :: (.ref (ex 0)) :: (.int 0) :: (.int 0) :: (.int 0) :: (.int 0) :: (.ref (a 1)) :: (.ref (ex 1)) :: (.ref (ex 2)) :: (.ref (ex 3)) :: (.ref (ex 4)) :: (.int 0) :: (.int 0) :: (.int 0) :: (.int 0) :: (.int 0) :: (.int 0) :: (.long 0) :: (.int 0) :: (.int 0) :: (.int 0) :: (.ref (ex 5)) :: (.ref (ex 6)) :: (.int 0) :: (.ref (a 2)) :: (.int (-1)) :: (.int 0) :: (.int 0) :: (.int 0) :: (.int 0) :: (.int 0) :: (.int 0) :: (.ref (ex 7)) :: (.int 0) :: (.ref (ex 8)) :: (.int 0) :: (.int 0) :: (.int 0) :: (.int 0) :: (.int 0) :: (.ref (ex 9)) :: (.ref (ex 10)) :: (.ref (ex 11)) :: (.ref (ex 12)) :: []))), ((a 1), .inl (T 1, 2187, .inl (fun _ => 0))), ((a 2), .inl (T 1, 9, .inl (fun _ => 0)))] := hD
  refine lv_aload_n hx hb dX12_wishes_10 rfl (lv_at hl 0 rfl) ?_
  have hPc := hP.sub (ws' := (pre_X12_canBe T (xa [(a 0), (a 1)]) (xa [(ex 0), (ex 1), (ex 2), (ex 3), (ex 4), (ex 5), (ex 6), (a 2), (ex 7), (ex 8), (ex 9), (ex 10), (ex 11), (ex 12)]) (xf []) (xh []) (xv []))) [0, 1] rfl
  have hDc := hD.sub (ws' := (pre_X12_canBe T (xa [(a 0), (a 1)]) (xa [(ex 0), (ex 1), (ex 2), (ex 3), (ex 4), (ex 5), (ex 6), (a 2), (ex 7), (ex 8), (ex 9), (ex 10), (ex 11), (ex 12)]) (xf []) (xh []) (xv []))) [0, 1] (by decide) rfl
  have hFc := va_free (wc := (pre_X12_canBe T (xa [(a 0), (a 1)]) (xa [(ex 0), (ex 1), (ex 2), (ex 3), (ex 4), (ex 5), (ex 6), (a 2), (ex 7), (ex 8), (ex 9), (ex 10), (ex 11), (ex 12)]) (xf []) (xh []) (xv []))) hD hS hA [0, 1] rfl
  refine va_calli (va_runV (As := []) (rest := []) ⟨hx, hb, hml, hown, htg⟩ (c_X12_canBe l D T (xa [(a 0), (a 1)]) (xa [(ex 0), (ex 1), (ex 2), (ex 3), (ex 4), (ex 5), (ex 6), (a 2), (ex 7), (ex 8), (ex 9), (ex 10), (ex 11), (ex 12)]) (xf []) (xh []) (xv []) H.size) ⟨callB_of 0 htg (xg_ok kw_1829) rfl rfl rfl (htg _ kw_17) (htg _ kw_1826) (by decide +kernel) ⟨by rw [hR]; exact Nat.le_of_ble_eq_true rfl, by rw [hR]; exact Nat.le_of_ble_eq_true rfl⟩, htg _ kw_1828, htg _ ks_163⟩ (xpreV hK hPc hDc (va_recv hK.1 hPc (ci := 12) (q0 := 0) rfl rfl)) rfl rfl hl.1 rfl (lv_room (Nat.le_of_ble_eq_true rfl)) dX12_wishes_11 ⟨by rw [hR]; exact Nat.le_of_ble_eq_true rfl, by rw [hR]; exact Nat.le_of_ble_eq_true rfl⟩) hS (fun q _ h => hFc q h) hFc (fun r9 u t H1 locs ht hvm hw hB hz1 hk1 hS => ?_)
  obtain ⟨bk, fik, flk, vik, hP1, hD1, hGk⟩ := hB
  rw [ht] at hP1
  obtain ⟨hP, hD⟩ := va_join (wr := [((a 2), .inl (T 1, 9, .inl (fun _ => 0)))]) (w1 := [((a 0), .inr (12, ((.int 0) :: (.ref (ex 0)) :: (.int 0) :: (.int 0) :: (.int 0) :: (.int 0) :: (.ref (a 1)) :: (.ref (ex 1)) :: (.ref (ex 2)) :: (.ref (ex 3)) :: (.ref (ex 4)) :: (.int 0) :: (.int 0) :: (.int 0) :: (.int 0) :: (.int 0) :: (.int 0) :: (.long 0) :: (.int 0) :: (.int 0) :: (.int 0) :: (.ref (ex 5)) :: (.ref (ex 6)) :: (.int 0) :: (.ref (a 2)) :: (.int (-1)) :: (.int 0) :: (.int 0) :: (.int 0) :: (.int 0) :: (.int 0) :: (.int 0) :: (.ref (ex 7)) :: (.int 0) :: (.ref (ex 8)) :: (.int 0) :: (.int 0) :: (.int 0) :: (.int 0) :: (.int 0) :: (.ref (ex 9)) :: (.ref (ex 10)) :: (.ref (ex 11)) :: (.ref (ex 12)) :: []))), ((a 1), .inl (T 1, 2187, .inl (fun _ => 0)))]) hP hD [0, 1] [2] rfl rfl (by decide) (by decide) hk1 hFc hP1 hD1
  subst hw
  clear hPc hDc hFc hP1 hD1 hk1 hz1 hvm ht
  generalize H1 = H at hP hS ⊢
  replace hP : va_P D vwCl [((a 2), .inl (T 1, 9, .inl (fun _ => 0))), ((a 0), .inr (12, ((.int 0) :: (.ref (ex 0)) :: (.int 0) :: (.int 0) :: (.int 0) :: (.int 0) :: (.ref (a 1)) :: (.ref (ex 1)) :: (.ref (ex 2)) :: (.ref (ex 3)) :: (.ref (ex 4)) :: (.int 0) :: (.int 0) :: (.int 0) :: (.int 0) :: (.int 0) :: (.int 0) :: (.long 0) :: (.int 0) :: (.int 0) :: (.int 0) :: (.ref (ex 5)) :: (.ref (ex 6)) :: (.int 0) :: (.ref (a 2)) :: (.int (-1)) :: (.int 0) :: (.int 0) :: (.int 0) :: (.int 0) :: (.int 0) :: (.int 0) :: (.ref (ex 7)) :: (.int 0) :: (.ref (ex 8)) :: (.int 0) :: (.int 0) :: (.int 0) :: (.int 0) :: (.int 0) :: (.ref (ex 9)) :: (.ref (ex 10)) :: (.ref (ex 11)) :: (.ref (ex 12)) :: []))), ((a 1), .inl (T 1, 2187, .inl (fun _ => 0)))] H := hP
  replace hD : va_D A [((a 2), .inl (T 1, 9, .inl (fun _ => 0))), ((a 0), .inr (12, ((.int 0) :: (.ref (ex 0)) :: (.int 0) :: (.int 0) :: (.int 0) :: (.int 0) :: (.ref (a 1)) :: (.ref (ex 1)) :: (.ref (ex 2)) :: (.ref (ex 3)) :: (.ref (ex 4)) :: (.int 0) :: (.int 0) :: (.int 0) :: (.int 0) :: (.int 0) :: (.int 0) :: (.long 0) :: (.int 0) :: (.int 0) :: (.int 0) :: (.ref (ex 5)) :: (.ref (ex 6)) :: (.int 0) :: (.ref (a 2)) :: (.int (-1)) :: (.int 0) :: (.int 0) :: (.int 0) :: (.int 0) :: (.int 0) :: (.int 0) :: (.ref (ex 7)) :: (.int 0) :: (.ref (ex 8)) :: (.int 0) :: (.int 0) :: (.int 0) :: (.int 0) :: (.int 0) :: (.ref (ex 9)) :: (.ref (ex 10)) :: (.ref (ex 11)) :: (.ref (ex 12)) :: []))), ((a 1), .inl (T 1, 2187, .inl (fun _ => 0)))] := hD
  refine lv_if_ne (tgt := 19) hx hb dX12_wishes_14 (by decide) (fun _ => ?_) (fun c => absurd c (by decide))
  refine lv_iconst (v := 0) hx hb dX12_wishes_19 (by decide) ?_
  refine lv_istore_n (lv' := [(1, .int 0), (0, .ref (a 0))]) hx hb dX12_wishes_20 rfl hl (by decide) rfl (fun ls hl => ?_)
  refine lv_iconst (v := 0) hx hb dX12_wishes_21 (by decide) ?_
  refine lv_istore_n (lv' := [(2, .int 0), (1, .int 0), (0, .ref (a 0))]) hx hb dX12_wishes_22 rfl hl (by decide) rfl (fun ls hl => ?_)
  refine lv_iload_n hx hb dX12_wishes_23 rfl (lv_at hl 0 rfl) ?_
  refine lv_bipush (v := 9) hx hb dX12_wishes_24 (by decide) ?_
  refine lv_icmp_ge (tgt := 42) hx hb dX12_wishes_26 (by decide) (fun c => absurd c (by decide)) (fun _ => ?_)
  refine lv_aload_n hx hb dX12_wishes_29 rfl (lv_at hl 2 rfl) ?_
  refine va_get (D := D) (ci := 12) (v := .ref (a 2)) (C := RX12) (T := TX12) (N := 44) hx hb htg inX12 hown hK.1 hP 1 rfl rfl 24 (by decide) (htg _ kw_1431) (fun _ h9 => h9) rfl dX12_wishes_30 ?_
  refine lv_iload_n hx hb dX12_wishes_33 rfl (lv_at hl 0 rfl) ?_
  refine lv_iconst (v := (-1)) hx hb dX12_wishes_34 (by decide) ?_
  refine va_iast hx hb hK.1 hP hD hS 0 1 rfl rfl (vp_in_nI (n := 0) (by decide) (by decide)) dX12_wishes_35 (fun H locs hP hD hS => ?_)
  obtain ⟨f35, hP, hD⟩ : ∃ f35 : Nat → Int32, va_P D vwCl [((a 2), .inl (T 1, 9, .inl f35)), ((a 0), .inr (12, ((.int 0) :: (.ref (ex 0)) :: (.int 0) :: (.int 0) :: (.int 0) :: (.int 0) :: (.ref (a 1)) :: (.ref (ex 1)) :: (.ref (ex 2)) :: (.ref (ex 3)) :: (.ref (ex 4)) :: (.int 0) :: (.int 0) :: (.int 0) :: (.int 0) :: (.int 0) :: (.int 0) :: (.long 0) :: (.int 0) :: (.int 0) :: (.int 0) :: (.ref (ex 5)) :: (.ref (ex 6)) :: (.int 0) :: (.ref (a 2)) :: (.int (-1)) :: (.int 0) :: (.int 0) :: (.int 0) :: (.int 0) :: (.int 0) :: (.int 0) :: (.ref (ex 7)) :: (.int 0) :: (.ref (ex 8)) :: (.int 0) :: (.int 0) :: (.int 0) :: (.int 0) :: (.int 0) :: (.ref (ex 9)) :: (.ref (ex 10)) :: (.ref (ex 11)) :: (.ref (ex 12)) :: []))), ((a 1), .inl (T 1, 2187, .inl (fun _ => 0)))] H ∧ va_D A [((a 2), .inl (T 1, 9, .inl f35)), ((a 0), .inr (12, ((.int 0) :: (.ref (ex 0)) :: (.int 0) :: (.int 0) :: (.int 0) :: (.int 0) :: (.ref (a 1)) :: (.ref (ex 1)) :: (.ref (ex 2)) :: (.ref (ex 3)) :: (.ref (ex 4)) :: (.int 0) :: (.int 0) :: (.int 0) :: (.int 0) :: (.int 0) :: (.int 0) :: (.long 0) :: (.int 0) :: (.int 0) :: (.int 0) :: (.ref (ex 5)) :: (.ref (ex 6)) :: (.int 0) :: (.ref (a 2)) :: (.int (-1)) :: (.int 0) :: (.int 0) :: (.int 0) :: (.int 0) :: (.int 0) :: (.int 0) :: (.ref (ex 7)) :: (.int 0) :: (.ref (ex 8)) :: (.int 0) :: (.int 0) :: (.int 0) :: (.int 0) :: (.int 0) :: (.ref (ex 9)) :: (.ref (ex 10)) :: (.ref (ex 11)) :: (.ref (ex 12)) :: []))), ((a 1), .inl (T 1, 2187, .inl (fun _ => 0)))] := ⟨upd (fun _ => 0) (0 : Int32).toNatClampNeg ((-1) : Int32), hP, hD⟩
  refine lv_iinc (v := 1) (lv' := [(2, .int 1), (1, .int 0), (0, .ref (a 0))]) hx hb dX12_wishes_36 hl (k := 0) rfl (by decide) (by decide) rfl (fun ls hl => ?_)
  refine lv_goto (tgt := 23) hx hb dX12_wishes_39 (by decide) ?_
  refine lv_iload_n hx hb dX12_wishes_23 rfl (lv_at hl 0 rfl) ?_
  refine lv_bipush (v := 9) hx hb dX12_wishes_24 (by decide) ?_
  refine lv_icmp_ge (tgt := 42) hx hb dX12_wishes_26 (by decide) (fun c => absurd c (by decide)) (fun _ => ?_)
  refine lv_aload_n hx hb dX12_wishes_29 rfl (lv_at hl 2 rfl) ?_
  refine va_get (D := D) (ci := 12) (v := .ref (a 2)) (C := RX12) (T := TX12) (N := 44) hx hb htg inX12 hown hK.1 hP 1 rfl rfl 24 (by decide) (htg _ kw_1431) (fun _ h9 => h9) rfl dX12_wishes_30 ?_
  refine lv_iload_n hx hb dX12_wishes_33 rfl (lv_at hl 0 rfl) ?_
  refine lv_iconst (v := (-1)) hx hb dX12_wishes_34 (by decide) ?_
  refine va_iast hx hb hK.1 hP hD hS 0 1 rfl rfl (vp_in_nI (n := 1) (by decide) (by decide)) dX12_wishes_35 (fun H locs hP hD hS => ?_)
  obtain ⟨f35_1, hP, hD⟩ : ∃ f35_1 : Nat → Int32, va_P D vwCl [((a 2), .inl (T 1, 9, .inl f35_1)), ((a 0), .inr (12, ((.int 0) :: (.ref (ex 0)) :: (.int 0) :: (.int 0) :: (.int 0) :: (.int 0) :: (.ref (a 1)) :: (.ref (ex 1)) :: (.ref (ex 2)) :: (.ref (ex 3)) :: (.ref (ex 4)) :: (.int 0) :: (.int 0) :: (.int 0) :: (.int 0) :: (.int 0) :: (.int 0) :: (.long 0) :: (.int 0) :: (.int 0) :: (.int 0) :: (.ref (ex 5)) :: (.ref (ex 6)) :: (.int 0) :: (.ref (a 2)) :: (.int (-1)) :: (.int 0) :: (.int 0) :: (.int 0) :: (.int 0) :: (.int 0) :: (.int 0) :: (.ref (ex 7)) :: (.int 0) :: (.ref (ex 8)) :: (.int 0) :: (.int 0) :: (.int 0) :: (.int 0) :: (.int 0) :: (.ref (ex 9)) :: (.ref (ex 10)) :: (.ref (ex 11)) :: (.ref (ex 12)) :: []))), ((a 1), .inl (T 1, 2187, .inl (fun _ => 0)))] H ∧ va_D A [((a 2), .inl (T 1, 9, .inl f35_1)), ((a 0), .inr (12, ((.int 0) :: (.ref (ex 0)) :: (.int 0) :: (.int 0) :: (.int 0) :: (.int 0) :: (.ref (a 1)) :: (.ref (ex 1)) :: (.ref (ex 2)) :: (.ref (ex 3)) :: (.ref (ex 4)) :: (.int 0) :: (.int 0) :: (.int 0) :: (.int 0) :: (.int 0) :: (.int 0) :: (.long 0) :: (.int 0) :: (.int 0) :: (.int 0) :: (.ref (ex 5)) :: (.ref (ex 6)) :: (.int 0) :: (.ref (a 2)) :: (.int (-1)) :: (.int 0) :: (.int 0) :: (.int 0) :: (.int 0) :: (.int 0) :: (.int 0) :: (.ref (ex 7)) :: (.int 0) :: (.ref (ex 8)) :: (.int 0) :: (.int 0) :: (.int 0) :: (.int 0) :: (.int 0) :: (.ref (ex 9)) :: (.ref (ex 10)) :: (.ref (ex 11)) :: (.ref (ex 12)) :: []))), ((a 1), .inl (T 1, 2187, .inl (fun _ => 0)))] := ⟨upd f35 (1 : Int32).toNatClampNeg ((-1) : Int32), hP, hD⟩
  refine lv_iinc (v := 2) (lv' := [(2, .int 2), (1, .int 0), (0, .ref (a 0))]) hx hb dX12_wishes_36 hl (k := 0) rfl (by decide) (by decide) rfl (fun ls hl => ?_)
  refine lv_goto (tgt := 23) hx hb dX12_wishes_39 (by decide) ?_
  refine lv_iload_n hx hb dX12_wishes_23 rfl (lv_at hl 0 rfl) ?_
  refine lv_bipush (v := 9) hx hb dX12_wishes_24 (by decide) ?_
  refine lv_icmp_ge (tgt := 42) hx hb dX12_wishes_26 (by decide) (fun c => absurd c (by decide)) (fun _ => ?_)
  refine lv_aload_n hx hb dX12_wishes_29 rfl (lv_at hl 2 rfl) ?_
  refine va_get (D := D) (ci := 12) (v := .ref (a 2)) (C := RX12) (T := TX12) (N := 44) hx hb htg inX12 hown hK.1 hP 1 rfl rfl 24 (by decide) (htg _ kw_1431) (fun _ h9 => h9) rfl dX12_wishes_30 ?_
  refine lv_iload_n hx hb dX12_wishes_33 rfl (lv_at hl 0 rfl) ?_
  refine lv_iconst (v := (-1)) hx hb dX12_wishes_34 (by decide) ?_
  refine va_iast hx hb hK.1 hP hD hS 0 1 rfl rfl (vp_in_nI (n := 2) (by decide) (by decide)) dX12_wishes_35 (fun H locs hP hD hS => ?_)
  obtain ⟨f35_2, hP, hD⟩ : ∃ f35_2 : Nat → Int32, va_P D vwCl [((a 2), .inl (T 1, 9, .inl f35_2)), ((a 0), .inr (12, ((.int 0) :: (.ref (ex 0)) :: (.int 0) :: (.int 0) :: (.int 0) :: (.int 0) :: (.ref (a 1)) :: (.ref (ex 1)) :: (.ref (ex 2)) :: (.ref (ex 3)) :: (.ref (ex 4)) :: (.int 0) :: (.int 0) :: (.int 0) :: (.int 0) :: (.int 0) :: (.int 0) :: (.long 0) :: (.int 0) :: (.int 0) :: (.int 0) :: (.ref (ex 5)) :: (.ref (ex 6)) :: (.int 0) :: (.ref (a 2)) :: (.int (-1)) :: (.int 0) :: (.int 0) :: (.int 0) :: (.int 0) :: (.int 0) :: (.int 0) :: (.ref (ex 7)) :: (.int 0) :: (.ref (ex 8)) :: (.int 0) :: (.int 0) :: (.int 0) :: (.int 0) :: (.int 0) :: (.ref (ex 9)) :: (.ref (ex 10)) :: (.ref (ex 11)) :: (.ref (ex 12)) :: []))), ((a 1), .inl (T 1, 2187, .inl (fun _ => 0)))] H ∧ va_D A [((a 2), .inl (T 1, 9, .inl f35_2)), ((a 0), .inr (12, ((.int 0) :: (.ref (ex 0)) :: (.int 0) :: (.int 0) :: (.int 0) :: (.int 0) :: (.ref (a 1)) :: (.ref (ex 1)) :: (.ref (ex 2)) :: (.ref (ex 3)) :: (.ref (ex 4)) :: (.int 0) :: (.int 0) :: (.int 0) :: (.int 0) :: (.int 0) :: (.int 0) :: (.long 0) :: (.int 0) :: (.int 0) :: (.int 0) :: (.ref (ex 5)) :: (.ref (ex 6)) :: (.int 0) :: (.ref (a 2)) :: (.int (-1)) :: (.int 0) :: (.int 0) :: (.int 0) :: (.int 0) :: (.int 0) :: (.int 0) :: (.ref (ex 7)) :: (.int 0) :: (.ref (ex 8)) :: (.int 0) :: (.int 0) :: (.int 0) :: (.int 0) :: (.int 0) :: (.ref (ex 9)) :: (.ref (ex 10)) :: (.ref (ex 11)) :: (.ref (ex 12)) :: []))), ((a 1), .inl (T 1, 2187, .inl (fun _ => 0)))] := ⟨upd f35_1 (2 : Int32).toNatClampNeg ((-1) : Int32), hP, hD⟩
  refine lv_iinc (v := 3) (lv' := [(2, .int 3), (1, .int 0), (0, .ref (a 0))]) hx hb dX12_wishes_36 hl (k := 0) rfl (by decide) (by decide) rfl (fun ls hl => ?_)
  refine lv_goto (tgt := 23) hx hb dX12_wishes_39 (by decide) ?_
  refine lv_iload_n hx hb dX12_wishes_23 rfl (lv_at hl 0 rfl) ?_
  refine lv_bipush (v := 9) hx hb dX12_wishes_24 (by decide) ?_
  refine lv_icmp_ge (tgt := 42) hx hb dX12_wishes_26 (by decide) (fun c => absurd c (by decide)) (fun _ => ?_)
  refine lv_aload_n hx hb dX12_wishes_29 rfl (lv_at hl 2 rfl) ?_
  refine va_get (D := D) (ci := 12) (v := .ref (a 2)) (C := RX12) (T := TX12) (N := 44) hx hb htg inX12 hown hK.1 hP 1 rfl rfl 24 (by decide) (htg _ kw_1431) (fun _ h9 => h9) rfl dX12_wishes_30 ?_
  refine lv_iload_n hx hb dX12_wishes_33 rfl (lv_at hl 0 rfl) ?_
  refine lv_iconst (v := (-1)) hx hb dX12_wishes_34 (by decide) ?_
  refine va_iast hx hb hK.1 hP hD hS 0 1 rfl rfl (vp_in_nI (n := 3) (by decide) (by decide)) dX12_wishes_35 (fun H locs hP hD hS => ?_)
  obtain ⟨f35_3, hP, hD⟩ : ∃ f35_3 : Nat → Int32, va_P D vwCl [((a 2), .inl (T 1, 9, .inl f35_3)), ((a 0), .inr (12, ((.int 0) :: (.ref (ex 0)) :: (.int 0) :: (.int 0) :: (.int 0) :: (.int 0) :: (.ref (a 1)) :: (.ref (ex 1)) :: (.ref (ex 2)) :: (.ref (ex 3)) :: (.ref (ex 4)) :: (.int 0) :: (.int 0) :: (.int 0) :: (.int 0) :: (.int 0) :: (.int 0) :: (.long 0) :: (.int 0) :: (.int 0) :: (.int 0) :: (.ref (ex 5)) :: (.ref (ex 6)) :: (.int 0) :: (.ref (a 2)) :: (.int (-1)) :: (.int 0) :: (.int 0) :: (.int 0) :: (.int 0) :: (.int 0) :: (.int 0) :: (.ref (ex 7)) :: (.int 0) :: (.ref (ex 8)) :: (.int 0) :: (.int 0) :: (.int 0) :: (.int 0) :: (.int 0) :: (.ref (ex 9)) :: (.ref (ex 10)) :: (.ref (ex 11)) :: (.ref (ex 12)) :: []))), ((a 1), .inl (T 1, 2187, .inl (fun _ => 0)))] H ∧ va_D A [((a 2), .inl (T 1, 9, .inl f35_3)), ((a 0), .inr (12, ((.int 0) :: (.ref (ex 0)) :: (.int 0) :: (.int 0) :: (.int 0) :: (.int 0) :: (.ref (a 1)) :: (.ref (ex 1)) :: (.ref (ex 2)) :: (.ref (ex 3)) :: (.ref (ex 4)) :: (.int 0) :: (.int 0) :: (.int 0) :: (.int 0) :: (.int 0) :: (.int 0) :: (.long 0) :: (.int 0) :: (.int 0) :: (.int 0) :: (.ref (ex 5)) :: (.ref (ex 6)) :: (.int 0) :: (.ref (a 2)) :: (.int (-1)) :: (.int 0) :: (.int 0) :: (.int 0) :: (.int 0) :: (.int 0) :: (.int 0) :: (.ref (ex 7)) :: (.int 0) :: (.ref (ex 8)) :: (.int 0) :: (.int 0) :: (.int 0) :: (.int 0) :: (.int 0) :: (.ref (ex 9)) :: (.ref (ex 10)) :: (.ref (ex 11)) :: (.ref (ex 12)) :: []))), ((a 1), .inl (T 1, 2187, .inl (fun _ => 0)))] := ⟨upd f35_2 (3 : Int32).toNatClampNeg ((-1) : Int32), hP, hD⟩
  refine lv_iinc (v := 4) (lv' := [(2, .int 4), (1, .int 0), (0, .ref (a 0))]) hx hb dX12_wishes_36 hl (k := 0) rfl (by decide) (by decide) rfl (fun ls hl => ?_)
  refine lv_goto (tgt := 23) hx hb dX12_wishes_39 (by decide) ?_
  refine lv_iload_n hx hb dX12_wishes_23 rfl (lv_at hl 0 rfl) ?_
  refine lv_bipush (v := 9) hx hb dX12_wishes_24 (by decide) ?_
  refine lv_icmp_ge (tgt := 42) hx hb dX12_wishes_26 (by decide) (fun c => absurd c (by decide)) (fun _ => ?_)
  refine lv_aload_n hx hb dX12_wishes_29 rfl (lv_at hl 2 rfl) ?_
  refine va_get (D := D) (ci := 12) (v := .ref (a 2)) (C := RX12) (T := TX12) (N := 44) hx hb htg inX12 hown hK.1 hP 1 rfl rfl 24 (by decide) (htg _ kw_1431) (fun _ h9 => h9) rfl dX12_wishes_30 ?_
  refine lv_iload_n hx hb dX12_wishes_33 rfl (lv_at hl 0 rfl) ?_
  refine lv_iconst (v := (-1)) hx hb dX12_wishes_34 (by decide) ?_
  refine va_iast hx hb hK.1 hP hD hS 0 1 rfl rfl (vp_in_nI (n := 4) (by decide) (by decide)) dX12_wishes_35 (fun H locs hP hD hS => ?_)
  obtain ⟨f35_4, hP, hD⟩ : ∃ f35_4 : Nat → Int32, va_P D vwCl [((a 2), .inl (T 1, 9, .inl f35_4)), ((a 0), .inr (12, ((.int 0) :: (.ref (ex 0)) :: (.int 0) :: (.int 0) :: (.int 0) :: (.int 0) :: (.ref (a 1)) :: (.ref (ex 1)) :: (.ref (ex 2)) :: (.ref (ex 3)) :: (.ref (ex 4)) :: (.int 0) :: (.int 0) :: (.int 0) :: (.int 0) :: (.int 0) :: (.int 0) :: (.long 0) :: (.int 0) :: (.int 0) :: (.int 0) :: (.ref (ex 5)) :: (.ref (ex 6)) :: (.int 0) :: (.ref (a 2)) :: (.int (-1)) :: (.int 0) :: (.int 0) :: (.int 0) :: (.int 0) :: (.int 0) :: (.int 0) :: (.ref (ex 7)) :: (.int 0) :: (.ref (ex 8)) :: (.int 0) :: (.int 0) :: (.int 0) :: (.int 0) :: (.int 0) :: (.ref (ex 9)) :: (.ref (ex 10)) :: (.ref (ex 11)) :: (.ref (ex 12)) :: []))), ((a 1), .inl (T 1, 2187, .inl (fun _ => 0)))] H ∧ va_D A [((a 2), .inl (T 1, 9, .inl f35_4)), ((a 0), .inr (12, ((.int 0) :: (.ref (ex 0)) :: (.int 0) :: (.int 0) :: (.int 0) :: (.int 0) :: (.ref (a 1)) :: (.ref (ex 1)) :: (.ref (ex 2)) :: (.ref (ex 3)) :: (.ref (ex 4)) :: (.int 0) :: (.int 0) :: (.int 0) :: (.int 0) :: (.int 0) :: (.int 0) :: (.long 0) :: (.int 0) :: (.int 0) :: (.int 0) :: (.ref (ex 5)) :: (.ref (ex 6)) :: (.int 0) :: (.ref (a 2)) :: (.int (-1)) :: (.int 0) :: (.int 0) :: (.int 0) :: (.int 0) :: (.int 0) :: (.int 0) :: (.ref (ex 7)) :: (.int 0) :: (.ref (ex 8)) :: (.int 0) :: (.int 0) :: (.int 0) :: (.int 0) :: (.int 0) :: (.ref (ex 9)) :: (.ref (ex 10)) :: (.ref (ex 11)) :: (.ref (ex 12)) :: []))), ((a 1), .inl (T 1, 2187, .inl (fun _ => 0)))] := ⟨upd f35_3 (4 : Int32).toNatClampNeg ((-1) : Int32), hP, hD⟩
  refine lv_iinc (v := 5) (lv' := [(2, .int 5), (1, .int 0), (0, .ref (a 0))]) hx hb dX12_wishes_36 hl (k := 0) rfl (by decide) (by decide) rfl (fun ls hl => ?_)
  refine lv_goto (tgt := 23) hx hb dX12_wishes_39 (by decide) ?_
  refine lv_iload_n hx hb dX12_wishes_23 rfl (lv_at hl 0 rfl) ?_
  refine lv_bipush (v := 9) hx hb dX12_wishes_24 (by decide) ?_
  refine lv_icmp_ge (tgt := 42) hx hb dX12_wishes_26 (by decide) (fun c => absurd c (by decide)) (fun _ => ?_)
  refine lv_aload_n hx hb dX12_wishes_29 rfl (lv_at hl 2 rfl) ?_
  refine va_get (D := D) (ci := 12) (v := .ref (a 2)) (C := RX12) (T := TX12) (N := 44) hx hb htg inX12 hown hK.1 hP 1 rfl rfl 24 (by decide) (htg _ kw_1431) (fun _ h9 => h9) rfl dX12_wishes_30 ?_
  refine lv_iload_n hx hb dX12_wishes_33 rfl (lv_at hl 0 rfl) ?_
  refine lv_iconst (v := (-1)) hx hb dX12_wishes_34 (by decide) ?_
  refine va_iast hx hb hK.1 hP hD hS 0 1 rfl rfl (vp_in_nI (n := 5) (by decide) (by decide)) dX12_wishes_35 (fun H locs hP hD hS => ?_)
  obtain ⟨f35_5, hP, hD⟩ : ∃ f35_5 : Nat → Int32, va_P D vwCl [((a 2), .inl (T 1, 9, .inl f35_5)), ((a 0), .inr (12, ((.int 0) :: (.ref (ex 0)) :: (.int 0) :: (.int 0) :: (.int 0) :: (.int 0) :: (.ref (a 1)) :: (.ref (ex 1)) :: (.ref (ex 2)) :: (.ref (ex 3)) :: (.ref (ex 4)) :: (.int 0) :: (.int 0) :: (.int 0) :: (.int 0) :: (.int 0) :: (.int 0) :: (.long 0) :: (.int 0) :: (.int 0) :: (.int 0) :: (.ref (ex 5)) :: (.ref (ex 6)) :: (.int 0) :: (.ref (a 2)) :: (.int (-1)) :: (.int 0) :: (.int 0) :: (.int 0) :: (.int 0) :: (.int 0) :: (.int 0) :: (.ref (ex 7)) :: (.int 0) :: (.ref (ex 8)) :: (.int 0) :: (.int 0) :: (.int 0) :: (.int 0) :: (.int 0) :: (.ref (ex 9)) :: (.ref (ex 10)) :: (.ref (ex 11)) :: (.ref (ex 12)) :: []))), ((a 1), .inl (T 1, 2187, .inl (fun _ => 0)))] H ∧ va_D A [((a 2), .inl (T 1, 9, .inl f35_5)), ((a 0), .inr (12, ((.int 0) :: (.ref (ex 0)) :: (.int 0) :: (.int 0) :: (.int 0) :: (.int 0) :: (.ref (a 1)) :: (.ref (ex 1)) :: (.ref (ex 2)) :: (.ref (ex 3)) :: (.ref (ex 4)) :: (.int 0) :: (.int 0) :: (.int 0) :: (.int 0) :: (.int 0) :: (.int 0) :: (.long 0) :: (.int 0) :: (.int 0) :: (.int 0) :: (.ref (ex 5)) :: (.ref (ex 6)) :: (.int 0) :: (.ref (a 2)) :: (.int (-1)) :: (.int 0) :: (.int 0) :: (.int 0) :: (.int 0) :: (.int 0) :: (.int 0) :: (.ref (ex 7)) :: (.int 0) :: (.ref (ex 8)) :: (.int 0) :: (.int 0) :: (.int 0) :: (.int 0) :: (.int 0) :: (.ref (ex 9)) :: (.ref (ex 10)) :: (.ref (ex 11)) :: (.ref (ex 12)) :: []))), ((a 1), .inl (T 1, 2187, .inl (fun _ => 0)))] := ⟨upd f35_4 (5 : Int32).toNatClampNeg ((-1) : Int32), hP, hD⟩
  refine lv_iinc (v := 6) (lv' := [(2, .int 6), (1, .int 0), (0, .ref (a 0))]) hx hb dX12_wishes_36 hl (k := 0) rfl (by decide) (by decide) rfl (fun ls hl => ?_)
  refine lv_goto (tgt := 23) hx hb dX12_wishes_39 (by decide) ?_
  refine lv_iload_n hx hb dX12_wishes_23 rfl (lv_at hl 0 rfl) ?_
  refine lv_bipush (v := 9) hx hb dX12_wishes_24 (by decide) ?_
  refine lv_icmp_ge (tgt := 42) hx hb dX12_wishes_26 (by decide) (fun c => absurd c (by decide)) (fun _ => ?_)
  refine lv_aload_n hx hb dX12_wishes_29 rfl (lv_at hl 2 rfl) ?_
  refine va_get (D := D) (ci := 12) (v := .ref (a 2)) (C := RX12) (T := TX12) (N := 44) hx hb htg inX12 hown hK.1 hP 1 rfl rfl 24 (by decide) (htg _ kw_1431) (fun _ h9 => h9) rfl dX12_wishes_30 ?_
  refine lv_iload_n hx hb dX12_wishes_33 rfl (lv_at hl 0 rfl) ?_
  refine lv_iconst (v := (-1)) hx hb dX12_wishes_34 (by decide) ?_
  refine va_iast hx hb hK.1 hP hD hS 0 1 rfl rfl (vp_in_nI (n := 6) (by decide) (by decide)) dX12_wishes_35 (fun H locs hP hD hS => ?_)
  obtain ⟨f35_6, hP, hD⟩ : ∃ f35_6 : Nat → Int32, va_P D vwCl [((a 2), .inl (T 1, 9, .inl f35_6)), ((a 0), .inr (12, ((.int 0) :: (.ref (ex 0)) :: (.int 0) :: (.int 0) :: (.int 0) :: (.int 0) :: (.ref (a 1)) :: (.ref (ex 1)) :: (.ref (ex 2)) :: (.ref (ex 3)) :: (.ref (ex 4)) :: (.int 0) :: (.int 0) :: (.int 0) :: (.int 0) :: (.int 0) :: (.int 0) :: (.long 0) :: (.int 0) :: (.int 0) :: (.int 0) :: (.ref (ex 5)) :: (.ref (ex 6)) :: (.int 0) :: (.ref (a 2)) :: (.int (-1)) :: (.int 0) :: (.int 0) :: (.int 0) :: (.int 0) :: (.int 0) :: (.int 0) :: (.ref (ex 7)) :: (.int 0) :: (.ref (ex 8)) :: (.int 0) :: (.int 0) :: (.int 0) :: (.int 0) :: (.int 0) :: (.ref (ex 9)) :: (.ref (ex 10)) :: (.ref (ex 11)) :: (.ref (ex 12)) :: []))), ((a 1), .inl (T 1, 2187, .inl (fun _ => 0)))] H ∧ va_D A [((a 2), .inl (T 1, 9, .inl f35_6)), ((a 0), .inr (12, ((.int 0) :: (.ref (ex 0)) :: (.int 0) :: (.int 0) :: (.int 0) :: (.int 0) :: (.ref (a 1)) :: (.ref (ex 1)) :: (.ref (ex 2)) :: (.ref (ex 3)) :: (.ref (ex 4)) :: (.int 0) :: (.int 0) :: (.int 0) :: (.int 0) :: (.int 0) :: (.int 0) :: (.long 0) :: (.int 0) :: (.int 0) :: (.int 0) :: (.ref (ex 5)) :: (.ref (ex 6)) :: (.int 0) :: (.ref (a 2)) :: (.int (-1)) :: (.int 0) :: (.int 0) :: (.int 0) :: (.int 0) :: (.int 0) :: (.int 0) :: (.ref (ex 7)) :: (.int 0) :: (.ref (ex 8)) :: (.int 0) :: (.int 0) :: (.int 0) :: (.int 0) :: (.int 0) :: (.ref (ex 9)) :: (.ref (ex 10)) :: (.ref (ex 11)) :: (.ref (ex 12)) :: []))), ((a 1), .inl (T 1, 2187, .inl (fun _ => 0)))] := ⟨upd f35_5 (6 : Int32).toNatClampNeg ((-1) : Int32), hP, hD⟩
  refine lv_iinc (v := 7) (lv' := [(2, .int 7), (1, .int 0), (0, .ref (a 0))]) hx hb dX12_wishes_36 hl (k := 0) rfl (by decide) (by decide) rfl (fun ls hl => ?_)
  refine lv_goto (tgt := 23) hx hb dX12_wishes_39 (by decide) ?_
  refine lv_iload_n hx hb dX12_wishes_23 rfl (lv_at hl 0 rfl) ?_
  refine lv_bipush (v := 9) hx hb dX12_wishes_24 (by decide) ?_
  refine lv_icmp_ge (tgt := 42) hx hb dX12_wishes_26 (by decide) (fun c => absurd c (by decide)) (fun _ => ?_)
  refine lv_aload_n hx hb dX12_wishes_29 rfl (lv_at hl 2 rfl) ?_
  refine va_get (D := D) (ci := 12) (v := .ref (a 2)) (C := RX12) (T := TX12) (N := 44) hx hb htg inX12 hown hK.1 hP 1 rfl rfl 24 (by decide) (htg _ kw_1431) (fun _ h9 => h9) rfl dX12_wishes_30 ?_
  refine lv_iload_n hx hb dX12_wishes_33 rfl (lv_at hl 0 rfl) ?_
  refine lv_iconst (v := (-1)) hx hb dX12_wishes_34 (by decide) ?_
  refine va_iast hx hb hK.1 hP hD hS 0 1 rfl rfl (vp_in_nI (n := 7) (by decide) (by decide)) dX12_wishes_35 (fun H locs hP hD hS => ?_)
  obtain ⟨f35_7, hP, hD⟩ : ∃ f35_7 : Nat → Int32, va_P D vwCl [((a 2), .inl (T 1, 9, .inl f35_7)), ((a 0), .inr (12, ((.int 0) :: (.ref (ex 0)) :: (.int 0) :: (.int 0) :: (.int 0) :: (.int 0) :: (.ref (a 1)) :: (.ref (ex 1)) :: (.ref (ex 2)) :: (.ref (ex 3)) :: (.ref (ex 4)) :: (.int 0) :: (.int 0) :: (.int 0) :: (.int 0) :: (.int 0) :: (.int 0) :: (.long 0) :: (.int 0) :: (.int 0) :: (.int 0) :: (.ref (ex 5)) :: (.ref (ex 6)) :: (.int 0) :: (.ref (a 2)) :: (.int (-1)) :: (.int 0) :: (.int 0) :: (.int 0) :: (.int 0) :: (.int 0) :: (.int 0) :: (.ref (ex 7)) :: (.int 0) :: (.ref (ex 8)) :: (.int 0) :: (.int 0) :: (.int 0) :: (.int 0) :: (.int 0) :: (.ref (ex 9)) :: (.ref (ex 10)) :: (.ref (ex 11)) :: (.ref (ex 12)) :: []))), ((a 1), .inl (T 1, 2187, .inl (fun _ => 0)))] H ∧ va_D A [((a 2), .inl (T 1, 9, .inl f35_7)), ((a 0), .inr (12, ((.int 0) :: (.ref (ex 0)) :: (.int 0) :: (.int 0) :: (.int 0) :: (.int 0) :: (.ref (a 1)) :: (.ref (ex 1)) :: (.ref (ex 2)) :: (.ref (ex 3)) :: (.ref (ex 4)) :: (.int 0) :: (.int 0) :: (.int 0) :: (.int 0) :: (.int 0) :: (.int 0) :: (.long 0) :: (.int 0) :: (.int 0) :: (.int 0) :: (.ref (ex 5)) :: (.ref (ex 6)) :: (.int 0) :: (.ref (a 2)) :: (.int (-1)) :: (.int 0) :: (.int 0) :: (.int 0) :: (.int 0) :: (.int 0) :: (.int 0) :: (.ref (ex 7)) :: (.int 0) :: (.ref (ex 8)) :: (.int 0) :: (.int 0) :: (.int 0) :: (.int 0) :: (.int 0) :: (.ref (ex 9)) :: (.ref (ex 10)) :: (.ref (ex 11)) :: (.ref (ex 12)) :: []))), ((a 1), .inl (T 1, 2187, .inl (fun _ => 0)))] := ⟨upd f35_6 (7 : Int32).toNatClampNeg ((-1) : Int32), hP, hD⟩
  refine lv_iinc (v := 8) (lv' := [(2, .int 8), (1, .int 0), (0, .ref (a 0))]) hx hb dX12_wishes_36 hl (k := 0) rfl (by decide) (by decide) rfl (fun ls hl => ?_)
  refine lv_goto (tgt := 23) hx hb dX12_wishes_39 (by decide) ?_
  refine lv_iload_n hx hb dX12_wishes_23 rfl (lv_at hl 0 rfl) ?_
  refine lv_bipush (v := 9) hx hb dX12_wishes_24 (by decide) ?_
  refine lv_icmp_ge (tgt := 42) hx hb dX12_wishes_26 (by decide) (fun c => absurd c (by decide)) (fun _ => ?_)
  refine lv_aload_n hx hb dX12_wishes_29 rfl (lv_at hl 2 rfl) ?_
  refine va_get (D := D) (ci := 12) (v := .ref (a 2)) (C := RX12) (T := TX12) (N := 44) hx hb htg inX12 hown hK.1 hP 1 rfl rfl 24 (by decide) (htg _ kw_1431) (fun _ h9 => h9) rfl dX12_wishes_30 ?_
  refine lv_iload_n hx hb dX12_wishes_33 rfl (lv_at hl 0 rfl) ?_
  refine lv_iconst (v := (-1)) hx hb dX12_wishes_34 (by decide) ?_
  refine va_iast hx hb hK.1 hP hD hS 0 1 rfl rfl (vp_in_nI (n := 8) (by decide) (by decide)) dX12_wishes_35 (fun H locs hP hD hS => ?_)
  obtain ⟨f35_8, hP, hD⟩ : ∃ f35_8 : Nat → Int32, va_P D vwCl [((a 2), .inl (T 1, 9, .inl f35_8)), ((a 0), .inr (12, ((.int 0) :: (.ref (ex 0)) :: (.int 0) :: (.int 0) :: (.int 0) :: (.int 0) :: (.ref (a 1)) :: (.ref (ex 1)) :: (.ref (ex 2)) :: (.ref (ex 3)) :: (.ref (ex 4)) :: (.int 0) :: (.int 0) :: (.int 0) :: (.int 0) :: (.int 0) :: (.int 0) :: (.long 0) :: (.int 0) :: (.int 0) :: (.int 0) :: (.ref (ex 5)) :: (.ref (ex 6)) :: (.int 0) :: (.ref (a 2)) :: (.int (-1)) :: (.int 0) :: (.int 0) :: (.int 0) :: (.int 0) :: (.int 0) :: (.int 0) :: (.ref (ex 7)) :: (.int 0) :: (.ref (ex 8)) :: (.int 0) :: (.int 0) :: (.int 0) :: (.int 0) :: (.int 0) :: (.ref (ex 9)) :: (.ref (ex 10)) :: (.ref (ex 11)) :: (.ref (ex 12)) :: []))), ((a 1), .inl (T 1, 2187, .inl (fun _ => 0)))] H ∧ va_D A [((a 2), .inl (T 1, 9, .inl f35_8)), ((a 0), .inr (12, ((.int 0) :: (.ref (ex 0)) :: (.int 0) :: (.int 0) :: (.int 0) :: (.int 0) :: (.ref (a 1)) :: (.ref (ex 1)) :: (.ref (ex 2)) :: (.ref (ex 3)) :: (.ref (ex 4)) :: (.int 0) :: (.int 0) :: (.int 0) :: (.int 0) :: (.int 0) :: (.int 0) :: (.long 0) :: (.int 0) :: (.int 0) :: (.int 0) :: (.ref (ex 5)) :: (.ref (ex 6)) :: (.int 0) :: (.ref (a 2)) :: (.int (-1)) :: (.int 0) :: (.int 0) :: (.int 0) :: (.int 0) :: (.int 0) :: (.int 0) :: (.ref (ex 7)) :: (.int 0) :: (.ref (ex 8)) :: (.int 0) :: (.int 0) :: (.int 0) :: (.int 0) :: (.int 0) :: (.ref (ex 9)) :: (.ref (ex 10)) :: (.ref (ex 11)) :: (.ref (ex 12)) :: []))), ((a 1), .inl (T 1, 2187, .inl (fun _ => 0)))] := ⟨upd f35_7 (8 : Int32).toNatClampNeg ((-1) : Int32), hP, hD⟩
  refine lv_iinc (v := 9) (lv' := [(2, .int 9), (1, .int 0), (0, .ref (a 0))]) hx hb dX12_wishes_36 hl (k := 0) rfl (by decide) (by decide) rfl (fun ls hl => ?_)
  refine lv_goto (tgt := 23) hx hb dX12_wishes_39 (by decide) ?_
  refine lv_iload_n hx hb dX12_wishes_23 rfl (lv_at hl 0 rfl) ?_
  refine lv_bipush (v := 9) hx hb dX12_wishes_24 (by decide) ?_
  refine lv_icmp_ge (tgt := 42) hx hb dX12_wishes_26 (by decide) (fun _ => ?_) (fun c => absurd (by decide) c)
  refine lv_iconst (v := 0) hx hb dX12_wishes_42 (by decide) ?_
  refine lv_istore_n (lv' := [(2, .int 0), (1, .int 0), (0, .ref (a 0))]) hx hb dX12_wishes_43 rfl hl (by decide) rfl (fun ls hl => ?_)
  refine lv_iload_n hx hb dX12_wishes_44 rfl (lv_at hl 0 rfl) ?_
  refine lv_aload_n hx hb dX12_wishes_45 rfl (lv_at hl 2 rfl) ?_
  refine va_get (D := D) (ci := 12) (v := .ref (a 1)) (C := RX12) (T := TX12) (N := 44) hx hb htg inX12 hown hK.1 hP 1 rfl rfl 6 (by decide) (htg _ kw_1413) (fun _ h9 => h9) rfl dX12_wishes_46 ?_
  refine lv_iconst (v := 1) hx hb dX12_wishes_49 (by decide) ?_
  refine va_iald hx hb hK.1 hP 2 1 rfl rfl (vp_in_nI (n := 1) (by decide) (by decide)) dX12_wishes_50 ?_
  refine xz_i 0 rfl ?_
  refine lv_icmp_ge (tgt := 156) hx hb dX12_wishes_51 (by decide) (fun _ => ?_) (fun c => absurd (by decide) c)
  refine lv_iload_n hx hb dX12_wishes_156 rfl (lv_at hl 1 rfl) ?_
  refine lv_iconst (v := 1) hx hb dX12_wishes_157 (by decide) ?_
  refine lv_icmp_ne (tgt := 171) hx hb dX12_wishes_158 (by decide) (fun _ => ?_) (fun c => absurd c (by decide))
  refine lv_iload_n hx hb dX12_wishes_171 rfl (lv_at hl 1 rfl) ?_
  have hP9 := hP.sub (ws' := []) [] rfl
  have hD9 := hD.sub (ws' := []) [] (by decide) rfl
  rw [hQ]
  exact W.iret (v := 0) hx hb hr (fun t ht hW => ⟨⟨0, (), rfl, rfl, ⟨xa [], xf [], xh [], xv [], by rw [ht]; exact hP9, hD9, trivial⟩⟩, hS.F ht⟩) hS.2.2 dX12_wishes_172
abbrev pre_X12_swaps (T : Nat → ClassId) (a ex : Nat → Nat) (fi : Nat → Nat → Int32) (fl : Nat → Nat → Int64) (vi : Nat → Int32) : va_W := [((a 0), .inr (12, ((.int 0) :: (.ref (ex 0)) :: (.int 0) :: (.int 0) :: (.int 0) :: (.int 0) :: (.ref (a 1)) :: (.ref (ex 1)) :: (.ref (ex 2)) :: (.ref (ex 3)) :: (.ref (ex 4)) :: (.int 0) :: (.int 0) :: (.int 0) :: (.int 0) :: (.int 0) :: (.int 0) :: (.long 0) :: (.int 0) :: (.int 0) :: (.int 0) :: (.ref (ex 5)) :: (.ref (ex 6)) :: (.int 0) :: (.ref (ex 7)) :: (.int (-1)) :: (.int 0) :: (.int 0) :: (.int 0) :: (.int 0) :: (.int 0) :: (.int 0) :: (.ref (ex 8)) :: (.int 0) :: (.ref (ex 9)) :: (.int 0) :: (.int 0) :: (.int 0) :: (.int 0) :: (.int 0) :: (.ref (ex 10)) :: (.ref (ex 11)) :: (.ref (ex 12)) :: (.ref (ex 13)) :: []))), ((a 1), .inl (T 1, 2187, .inl (fun _ => 0)))]
set_option maxHeartbeats 4000000 in
set_option maxRecDepth 100000 in
theorem c_X12_swaps (l : Launch) (D : va_G) (T : Nat → ClassId) (a ex : Nat → Nat) (fi : Nat → Nat → Int32) (fl : Nat → Nat → Int64) (vi : Nat → Int32) (sz : Nat) : Met l yX12_swaps (xw yX12_swaps cX12_swaps 6 (some .int)) ({ frames := 1, cells := 0, slots := 0, locals := 26 }) (xP D T [.ref (a 0)] sz (pre_X12_swaps T a ex fi fl vi)) (va_Qi (fun r (_ : Unit) => r = 0) (xB D (va_A (pre_X12_swaps T a ex fi fl vi) sz) (fun _ => True) (fun b fj fm vj => [])) (va_A (pre_X12_swaps T a ex fi fl vi) sz)) 0 0 (va_A (pre_X12_swaps T a ex fi fl vi) sz) := by
  refine xofW (cc := cX12_swaps) (maxL := 6) (ret := (some .int)) (by decide) rfl ?_
  intro p e s m args below meth c s₁ R Q hR hQ B hml hv
  obtain ⟨rfl, hsz, hP, hK, hD0⟩ := hv
  have hx := B.exec
  have hb := B.bytes
  have hr := B.returns
  have hts := atoms_spec (ws := xw yX12_swaps cX12_swaps 6 (some .int)) B.pre
  have htg : ∀ w ∈ xg, w.before _ s = true := fun w h => hts w (List.mem_cons_of_mem _ h)
  have hown : s.vm.findClass RX12 = some m.cls := findClass_of_methodNamed B.named
  have hlocks := B.notSynchronized
  subst hsz
  have hD := hD0.self (sz := s.heap.size)
  generalize hAe : va_A (pre_X12_swaps T a ex fi fl vi) s.heap.size = A at hD hQ
  have hA : ∀ q : Nat, s.heap.size ≤ q → A q := fun q h => by rw [← hAe]; exact Or.inr h
  have hS : va_S A s.heap s.heap [] := va_S.rf
  replace hP : va_P D vwCl [((a 0), .inr (12, ((.int 0) :: (.ref (ex 0)) :: (.int 0) :: (.int 0) :: (.int 0) :: (.int 0) :: (.ref (a 1)) :: (.ref (ex 1)) :: (.ref (ex 2)) :: (.ref (ex 3)) :: (.ref (ex 4)) :: (.int 0) :: (.int 0) :: (.int 0) :: (.int 0) :: (.int 0) :: (.int 0) :: (.long 0) :: (.int 0) :: (.int 0) :: (.int 0) :: (.ref (ex 5)) :: (.ref (ex 6)) :: (.int 0) :: (.ref (ex 7)) :: (.int (-1)) :: (.int 0) :: (.int 0) :: (.int 0) :: (.int 0) :: (.int 0) :: (.int 0) :: (.ref (ex 8)) :: (.int 0) :: (.ref (ex 9)) :: (.int 0) :: (.int 0) :: (.int 0) :: (.int 0) :: (.int 0) :: (.ref (ex 10)) :: (.ref (ex 11)) :: (.ref (ex 12)) :: (.ref (ex 13)) :: []))), ((a 1), .inl (T 1, 2187, .inl (fun _ => 0)))] s.heap := hP
  replace hD : va_D A [((a 0), .inr (12, ((.int 0) :: (.ref (ex 0)) :: (.int 0) :: (.int 0) :: (.int 0) :: (.int 0) :: (.ref (a 1)) :: (.ref (ex 1)) :: (.ref (ex 2)) :: (.ref (ex 3)) :: (.ref (ex 4)) :: (.int 0) :: (.int 0) :: (.int 0) :: (.int 0) :: (.int 0) :: (.int 0) :: (.long 0) :: (.int 0) :: (.int 0) :: (.int 0) :: (.ref (ex 5)) :: (.ref (ex 6)) :: (.int 0) :: (.ref (ex 7)) :: (.int (-1)) :: (.int 0) :: (.int 0) :: (.int 0) :: (.int 0) :: (.int 0) :: (.int 0) :: (.ref (ex 8)) :: (.int 0) :: (.ref (ex 9)) :: (.int 0) :: (.int 0) :: (.int 0) :: (.int 0) :: (.int 0) :: (.ref (ex 10)) :: (.ref (ex 11)) :: (.ref (ex 12)) :: (.ref (ex 13)) :: []))), ((a 1), .inl (T 1, 2187, .inl (fun _ => 0)))] := hD
  have hl := lv_entry ([.ref (a 0)]) (n := 6) (Nat.le_of_ble_eq_true rfl)
  rw [lg_entry_eq]
  generalize (lg_sl ([.ref (a 0)]) ++ List.replicate (6 - (lg_sl ([.ref (a 0)])).length) Slot.unset).toArray = ls at hl ⊢
  replace hl : lv_has ls 6 [(0, .ref (a 0))] := hl
  refine lv_aload_n hx hb dX12_swaps_0 rfl (lv_at hl 0 rfl) ?_
  refine lv_iconst (v := 0) hx hb dX12_swaps_1 (by decide) ?_
  refine va_put (D := D) (ci := 12) (v := .int 0) (ty := .int) (C := RX12) (T := TX12) (N := 44) hx hb htg inX12 tyX12 tyX12_ok nmX12 hown hK.1 hP hD hS 0 rfl rfl 0 (by decide) (htg _ kw_1407) (fun _ h9 => h9) rfl (by decide +kernel) rfl rfl (Nat.le_of_ble_eq_true rfl) dX12_swaps_2 (fun H locs hP hD hS => ?_)
  replace hP : va_P D vwCl [((a 0), .inr (12, ((.int 0) :: (.ref (ex 0)) :: (.int 0) :: (.int 0) :: (.int 0) :: (.int 0) :: (.ref (a 1)) :: (.ref (ex 1)) :: (.ref (ex 2)) :: (.ref (ex 3)) :: (.ref (ex 4)) :: (.int 0) :: (.int 0) :: (.int 0) :: (.int 0) :: (.int 0) :: (.int 0) :: (.long 0) :: (.int 0) :: (.int 0) :: (.int 0) :: (.ref (ex 5)) :: (.ref (ex 6)) :: (.int 0) :: (.ref (ex 7)) :: (.int (-1)) :: (.int 0) :: (.int 0) :: (.int 0) :: (.int 0) :: (.int 0) :: (.int 0) :: (.ref (ex 8)) :: (.int 0) :: (.ref (ex 9)) :: (.int 0) :: (.int 0) :: (.int 0) :: (.int 0) :: (.int 0) :: (.ref (ex 10)) :: (.ref (ex 11)) :: (.ref (ex 12)) :: (.ref (ex 13)) :: []))), ((a 1), .inl (T 1, 2187, .inl (fun _ => 0)))] H := hP
  replace hD : va_D A [((a 0), .inr (12, ((.int 0) :: (.ref (ex 0)) :: (.int 0) :: (.int 0) :: (.int 0) :: (.int 0) :: (.ref (a 1)) :: (.ref (ex 1)) :: (.ref (ex 2)) :: (.ref (ex 3)) :: (.ref (ex 4)) :: (.int 0) :: (.int 0) :: (.int 0) :: (.int 0) :: (.int 0) :: (.int 0) :: (.long 0) :: (.int 0) :: (.int 0) :: (.int 0) :: (.ref (ex 5)) :: (.ref (ex 6)) :: (.int 0) :: (.ref (ex 7)) :: (.int (-1)) :: (.int 0) :: (.int 0) :: (.int 0) :: (.int 0) :: (.int 0) :: (.int 0) :: (.ref (ex 8)) :: (.int 0) :: (.ref (ex 9)) :: (.int 0) :: (.int 0) :: (.int 0) :: (.int 0) :: (.int 0) :: (.ref (ex 10)) :: (.ref (ex 11)) :: (.ref (ex 12)) :: (.ref (ex 13)) :: []))), ((a 1), .inl (T 1, 2187, .inl (fun _ => 0)))] := hD
  refine lv_aload_n hx hb dX12_swaps_5 rfl (lv_at hl 0 rfl) ?_
  have hPc := hP.sub (ws' := (pre_X12_canBe T (xa [(a 0), (a 1)]) (xa [(ex 0), (ex 1), (ex 2), (ex 3), (ex 4), (ex 5), (ex 6), (ex 7), (ex 8), (ex 9), (ex 10), (ex 11), (ex 12), (ex 13)]) (xf []) (xh []) (xv []))) [0, 1] rfl
  have hDc := hD.sub (ws' := (pre_X12_canBe T (xa [(a 0), (a 1)]) (xa [(ex 0), (ex 1), (ex 2), (ex 3), (ex 4), (ex 5), (ex 6), (ex 7), (ex 8), (ex 9), (ex 10), (ex 11), (ex 12), (ex 13)]) (xf []) (xh []) (xv []))) [0, 1] (by decide) rfl
  have hFc := va_free (wc := (pre_X12_canBe T (xa [(a 0), (a 1)]) (xa [(ex 0), (ex 1), (ex 2), (ex 3), (ex 4), (ex 5), (ex 6), (ex 7), (ex 8), (ex 9), (ex 10), (ex 11), (ex 12), (ex 13)]) (xf []) (xh []) (xv []))) hD hS hA [0, 1] rfl
  refine va_calli (va_runV (As := []) (rest := []) ⟨hx, hb, hml, hown, htg⟩ (c_X12_canBe l D T (xa [(a 0), (a 1)]) (xa [(ex 0), (ex 1), (ex 2), (ex 3), (ex 4), (ex 5), (ex 6), (ex 7), (ex 8), (ex 9), (ex 10), (ex 11), (ex 12), (ex 13)]) (xf []) (xh []) (xv []) H.size) ⟨callB_of 0 htg (xg_ok kw_1829) rfl rfl rfl (htg _ kw_17) (htg _ kw_1826) (by decide +kernel) ⟨by rw [hR]; exact Nat.le_of_ble_eq_true rfl, by rw [hR]; exact Nat.le_of_ble_eq_true rfl⟩, htg _ kw_1828, htg _ ks_163⟩ (xpreV hK hPc hDc (va_recv hK.1 hPc (ci := 12) (q0 := 0) rfl rfl)) rfl rfl hl.1 rfl (lv_room (Nat.le_of_ble_eq_true rfl)) dX12_swaps_6 ⟨by rw [hR]; exact Nat.le_of_ble_eq_true rfl, by rw [hR]; exact Nat.le_of_ble_eq_true rfl⟩) hS (fun q _ h => hFc q h) hFc (fun r9 u t H1 locs ht hvm hw hB hz1 hk1 hS => ?_)
  obtain ⟨bk, fik, flk, vik, hP1, hD1, hGk⟩ := hB
  rw [ht] at hP1
  obtain ⟨hP, hD⟩ := va_join (wr := []) (w1 := [((a 0), .inr (12, ((.int 0) :: (.ref (ex 0)) :: (.int 0) :: (.int 0) :: (.int 0) :: (.int 0) :: (.ref (a 1)) :: (.ref (ex 1)) :: (.ref (ex 2)) :: (.ref (ex 3)) :: (.ref (ex 4)) :: (.int 0) :: (.int 0) :: (.int 0) :: (.int 0) :: (.int 0) :: (.int 0) :: (.long 0) :: (.int 0) :: (.int 0) :: (.int 0) :: (.ref (ex 5)) :: (.ref (ex 6)) :: (.int 0) :: (.ref (ex 7)) :: (.int (-1)) :: (.int 0) :: (.int 0) :: (.int 0) :: (.int 0) :: (.int 0) :: (.int 0) :: (.ref (ex 8)) :: (.int 0) :: (.ref (ex 9)) :: (.int 0) :: (.int 0) :: (.int 0) :: (.int 0) :: (.int 0) :: (.ref (ex 10)) :: (.ref (ex 11)) :: (.ref (ex 12)) :: (.ref (ex 13)) :: []))), ((a 1), .inl (T 1, 2187, .inl (fun _ => 0)))]) hP hD [0, 1] [] rfl rfl (by decide) (by decide) hk1 hFc hP1 hD1
  subst hw
  clear hPc hDc hFc hP1 hD1 hk1 hz1 hvm ht
  generalize H1 = H at hP hS ⊢
  replace hP : va_P D vwCl [((a 0), .inr (12, ((.int 0) :: (.ref (ex 0)) :: (.int 0) :: (.int 0) :: (.int 0) :: (.int 0) :: (.ref (a 1)) :: (.ref (ex 1)) :: (.ref (ex 2)) :: (.ref (ex 3)) :: (.ref (ex 4)) :: (.int 0) :: (.int 0) :: (.int 0) :: (.int 0) :: (.int 0) :: (.int 0) :: (.long 0) :: (.int 0) :: (.int 0) :: (.int 0) :: (.ref (ex 5)) :: (.ref (ex 6)) :: (.int 0) :: (.ref (ex 7)) :: (.int (-1)) :: (.int 0) :: (.int 0) :: (.int 0) :: (.int 0) :: (.int 0) :: (.int 0) :: (.ref (ex 8)) :: (.int 0) :: (.ref (ex 9)) :: (.int 0) :: (.int 0) :: (.int 0) :: (.int 0) :: (.int 0) :: (.ref (ex 10)) :: (.ref (ex 11)) :: (.ref (ex 12)) :: (.ref (ex 13)) :: []))), ((a 1), .inl (T 1, 2187, .inl (fun _ => 0)))] H := hP
  replace hD : va_D A [((a 0), .inr (12, ((.int 0) :: (.ref (ex 0)) :: (.int 0) :: (.int 0) :: (.int 0) :: (.int 0) :: (.ref (a 1)) :: (.ref (ex 1)) :: (.ref (ex 2)) :: (.ref (ex 3)) :: (.ref (ex 4)) :: (.int 0) :: (.int 0) :: (.int 0) :: (.int 0) :: (.int 0) :: (.int 0) :: (.long 0) :: (.int 0) :: (.int 0) :: (.int 0) :: (.ref (ex 5)) :: (.ref (ex 6)) :: (.int 0) :: (.ref (ex 7)) :: (.int (-1)) :: (.int 0) :: (.int 0) :: (.int 0) :: (.int 0) :: (.int 0) :: (.int 0) :: (.ref (ex 8)) :: (.int 0) :: (.ref (ex 9)) :: (.int 0) :: (.int 0) :: (.int 0) :: (.int 0) :: (.int 0) :: (.ref (ex 10)) :: (.ref (ex 11)) :: (.ref (ex 12)) :: (.ref (ex 13)) :: []))), ((a 1), .inl (T 1, 2187, .inl (fun _ => 0)))] := hD
  refine lv_if_ne (tgt := 14) hx hb dX12_swaps_9 (by decide) (fun _ => ?_) (fun c => absurd c (by decide))
  refine lv_iconst (v := 0) hx hb dX12_swaps_14 (by decide) ?_
  refine lv_istore_n (lv' := [(1, .int 0), (0, .ref (a 0))]) hx hb dX12_swaps_15 rfl hl (by decide) rfl (fun ls hl => ?_)
  refine lv_iconst (v := 0) hx hb dX12_swaps_16 (by decide) ?_
  refine lv_istore_n (lv' := [(2, .int 0), (1, .int 0), (0, .ref (a 0))]) hx hb dX12_swaps_17 rfl hl (by decide) rfl (fun ls hl => ?_)
  refine lv_iconst (v := 0) hx hb dX12_swaps_18 (by decide) ?_
  refine lv_istore_n (lv' := [(3, .int 0), (2, .int 0), (1, .int 0), (0, .ref (a 0))]) hx hb dX12_swaps_19 rfl hl (by decide) rfl (fun ls hl => ?_)
  refine lv_iload_n hx hb dX12_swaps_20 rfl (lv_at hl 0 rfl) ?_
  refine lv_aload_n hx hb dX12_swaps_21 rfl (lv_at hl 3 rfl) ?_
  refine va_get (D := D) (ci := 12) (v := .ref (a 1)) (C := RX12) (T := TX12) (N := 44) hx hb htg inX12 hown hK.1 hP 0 rfl rfl 6 (by decide) (htg _ kw_1413) (fun _ h9 => h9) rfl dX12_swaps_22 ?_
  refine lv_iconst (v := 1) hx hb dX12_swaps_25 (by decide) ?_
  refine va_iald hx hb hK.1 hP 1 1 rfl rfl (vp_in_nI (n := 1) (by decide) (by decide)) dX12_swaps_26 ?_
  refine xz_i 0 rfl ?_
  refine lv_icmp_ge (tgt := 150) hx hb dX12_swaps_27 (by decide) (fun _ => ?_) (fun c => absurd (by decide) c)
  refine lv_iload_n hx hb dX12_swaps_150 rfl (lv_at hl 2 rfl) ?_
  have hP9 := hP.sub (ws' := []) [] rfl
  have hD9 := hD.sub (ws' := []) [] (by decide) rfl
  rw [hQ]
  exact W.iret (v := 0) hx hb hr (fun t ht hW => ⟨⟨0, (), rfl, rfl, ⟨xa [], xf [], xh [], xv [], by rw [ht]; exact hP9, hD9, trivial⟩⟩, hS.F ht⟩) hS.2.2 dX12_swaps_151
abbrev pre_X12_isIn_4 (T : Nat → ClassId) (a ex : Nat → Nat) (fi : Nat → Nat → Int32) (fl : Nat → Nat → Int64) (vi : Nat → Int32) : va_W := []
set_option maxHeartbeats 4000000 in
set_option maxRecDepth 100000 in
theorem c_X12_isIn_4 (l : Launch) (D : va_G) (T : Nat → ClassId) (a ex : Nat → Nat) (fi : Nat → Nat → Int32) (fl : Nat → Nat → Int64) (vi : Nat → Int32) (sz : Nat) : Met l yX12_isIn (xw yX12_isIn cX12_isIn 3 (some .boolean)) ({ frames := 0, cells := 0, slots := 0, locals := 0 }) (xP D T [.int (vi 0), .int 0, .int (-2)] sz (pre_X12_isIn_4 T a ex fi fl vi)) (va_Qi (fun r (_ : Unit) => r = 0) (xB D (va_A (pre_X12_isIn_4 T a ex fi fl vi) sz) (fun _ => True) (fun b fj fm vj => [])) (va_A (pre_X12_isIn_4 T a ex fi fl vi) sz)) 0 0 (va_A (pre_X12_isIn_4 T a ex fi fl vi) sz) := by
  refine xofW (cc := cX12_isIn) (maxL := 3) (ret := (some .boolean)) (by decide) rfl ?_
  intro p e s m args below meth c s₁ R Q hR hQ B hml hv
  obtain ⟨rfl, hsz, hP, hK, hD0⟩ := hv
  have hx := B.exec
  have hb := B.bytes
  have hr := B.returns
  have hts := atoms_spec (ws := xw yX12_isIn cX12_isIn 3 (some .boolean)) B.pre
  have htg : ∀ w ∈ xg, w.before _ s = true := fun w h => hts w (List.mem_cons_of_mem _ h)
  have hown : s.vm.findClass RX12 = some m.cls := findClass_of_methodNamed B.named
  have hlocks := B.notSynchronized
  subst hsz
  have hD := hD0.self (sz := s.heap.size)
  generalize hAe : va_A (pre_X12_isIn_4 T a ex fi fl vi) s.heap.size = A at hD hQ
  have hA : ∀ q : Nat, s.heap.size ≤ q → A q := fun q h => by rw [← hAe]; exact Or.inr h
  have hS : va_S A s.heap s.heap [] := va_S.rf
  replace hP : va_P D vwCl [] s.heap := hP
  replace hD : va_D A [] := hD
  have hl := lv_entry ([.int (vi 0), .int 0, .int (-2)]) (n := 3) (Nat.le_of_ble_eq_true rfl)
  rw [lg_entry_eq]
  generalize (lg_sl ([.int (vi 0), .int 0, .int (-2)]) ++ List.replicate (3 - (lg_sl ([.int (vi 0), .int 0, .int (-2)])).length) Slot.unset).toArray = ls at hl ⊢
  replace hl : lv_has ls 3 [(0, .int (vi 0)), (1, .int 0), (2, .int (-2))] := hl
  refine lv_iload_n hx hb dX12_isIn_0 rfl (lv_at hl 0 rfl) ?_
  refine lv_iload_n hx hb dX12_isIn_1 rfl (lv_at hl 1 rfl) ?_
  refine lv_icmp_lt (tgt := 14) hx hb dX12_isIn_2 (by decide) (fun c2 => ?_) (fun c2 => ?_)
  · have c2 := xlt (k := 0) (by decide) c2
    refine lv_iconst (v := 0) hx hb dX12_isIn_14 (by decide) ?_
    have hP9 := hP.sub (ws' := []) [] rfl
    have hD9 := hD.sub (ws' := []) [] (by decide +kernel) rfl
    rw [hQ]
    exact W.zret (v := 0) hx hb hr rfl (fun t ht hW => ⟨⟨0, (), rfl, rfl, ⟨xa [], xf [], xh [], xv [], by rw [ht]; exact hP9, hD9, trivial⟩⟩, hS.F ht⟩) hS.2.2 dX12_isIn_15
  · have c2 := xnlt (k := 0) (by decide) c2
    refine lv_iload_n hx hb dX12_isIn_5 rfl (lv_at hl 0 rfl) ?_
    refine lv_iload_n hx hb dX12_isIn_6 rfl (lv_at hl 2 rfl) ?_
    refine lv_icmp_gt (tgt := 14) hx hb dX12_isIn_7 (by decide) (fun _ => ?_) (fun c => by exfalso; have h9 := xngt (k := -2) (by decide) c; omega)
    refine lv_iconst (v := 0) hx hb dX12_isIn_14 (by decide) ?_
    have hP9 := hP.sub (ws' := []) [] rfl
    have hD9 := hD.sub (ws' := []) [] (by decide +kernel) rfl
    rw [hQ]
    exact W.zret (v := 0) hx hb hr rfl (fun t ht hW => ⟨⟨0, (), rfl, rfl, ⟨xa [], xf [], xh [], xv [], by rw [ht]; exact hP9, hD9, trivial⟩⟩, hS.F ht⟩) hS.2.2 dX12_isIn_15
abbrev pre_X12_partner (T : Nat → ClassId) (a ex : Nat → Nat) (fi : Nat → Nat → Int32) (fl : Nat → Nat → Int64) (vi : Nat → Int32) : va_W := [((a 0), .inr (12, ((.int 0) :: (.ref (ex 0)) :: (.int 0) :: (.int 0) :: (.int 0) :: (.int 0) :: (.ref (ex 1)) :: (.ref (ex 2)) :: (.ref (ex 3)) :: (.ref (ex 4)) :: (.ref (ex 5)) :: (.int 0) :: (.int 0) :: (.int 0) :: (.int 0) :: (.int 0) :: (.int 0) :: (.long 0) :: (.int 0) :: (.int 0) :: (.int 0) :: (.ref (ex 6)) :: (.ref (ex 7)) :: (.int 0) :: (.ref (ex 8)) :: (.int (-1)) :: (.int 0) :: (.int 0) :: (.int 0) :: (.int 0) :: (.int 0) :: (.int 0) :: (.ref (ex 9)) :: (.int 0) :: (.ref (ex 10)) :: (.int 0) :: (.int 0) :: (.int 0) :: (.int 0) :: (.int 0) :: (.ref (ex 11)) :: (.ref (ex 12)) :: (.ref (ex 13)) :: (.ref (ex 14)) :: [])))]
set_option maxHeartbeats 4000000 in
set_option maxRecDepth 100000 in
theorem c_X12_partner (l : Launch) (D : va_G) (T : Nat → ClassId) (a ex : Nat → Nat) (fi : Nat → Nat → Int32) (fl : Nat → Nat → Int64) (vi : Nat → Int32) (sz : Nat) : Met l yX12_partner (xw yX12_partner cX12_partner 2 (some .int)) ({ frames := 1, cells := 0, slots := 0, locals := 26 }) (xP D T [.ref (a 0), .int (vi 0)] sz (pre_X12_partner T a ex fi fl vi)) (va_Qi (fun r (_ : Unit) => r = (-1)) (xB D (va_A (pre_X12_partner T a ex fi fl vi) sz) (fun _ => True) (fun b fj fm vj => [])) (va_A (pre_X12_partner T a ex fi fl vi) sz)) 0 0 (va_A (pre_X12_partner T a ex fi fl vi) sz) := by
  refine xofW (cc := cX12_partner) (maxL := 2) (ret := (some .int)) (by decide) rfl ?_
  intro p e s m args below meth c s₁ R Q hR hQ B hml hv
  obtain ⟨rfl, hsz, hP, hK, hD0⟩ := hv
  have hx := B.exec
  have hb := B.bytes
  have hr := B.returns
  have hts := atoms_spec (ws := xw yX12_partner cX12_partner 2 (some .int)) B.pre
  have htg : ∀ w ∈ xg, w.before _ s = true := fun w h => hts w (List.mem_cons_of_mem _ h)
  have hown : s.vm.findClass RX12 = some m.cls := findClass_of_methodNamed B.named
  have hlocks := B.notSynchronized
  subst hsz
  have hD := hD0.self (sz := s.heap.size)
  generalize hAe : va_A (pre_X12_partner T a ex fi fl vi) s.heap.size = A at hD hQ
  have hA : ∀ q : Nat, s.heap.size ≤ q → A q := fun q h => by rw [← hAe]; exact Or.inr h
  have hS : va_S A s.heap s.heap [] := va_S.rf
  replace hP : va_P D vwCl [((a 0), .inr (12, ((.int 0) :: (.ref (ex 0)) :: (.int 0) :: (.int 0) :: (.int 0) :: (.int 0) :: (.ref (ex 1)) :: (.ref (ex 2)) :: (.ref (ex 3)) :: (.ref (ex 4)) :: (.ref (ex 5)) :: (.int 0) :: (.int 0) :: (.int 0) :: (.int 0) :: (.int 0) :: (.int 0) :: (.long 0) :: (.int 0) :: (.int 0) :: (.int 0) :: (.ref (ex 6)) :: (.ref (ex 7)) :: (.int 0) :: (.ref (ex 8)) :: (.int (-1)) :: (.int 0) :: (.int 0) :: (.int 0) :: (.int 0) :: (.int 0) :: (.int 0) :: (.ref (ex 9)) :: (.int 0) :: (.ref (ex 10)) :: (.int 0) :: (.int 0) :: (.int 0) :: (.int 0) :: (.int 0) :: (.ref (ex 11)) :: (.ref (ex 12)) :: (.ref (ex 13)) :: (.ref (ex 14)) :: [])))] s.heap := hP
  replace hD : va_D A [((a 0), .inr (12, ((.int 0) :: (.ref (ex 0)) :: (.int 0) :: (.int 0) :: (.int 0) :: (.int 0) :: (.ref (ex 1)) :: (.ref (ex 2)) :: (.ref (ex 3)) :: (.ref (ex 4)) :: (.ref (ex 5)) :: (.int 0) :: (.int 0) :: (.int 0) :: (.int 0) :: (.int 0) :: (.int 0) :: (.long 0) :: (.int 0) :: (.int 0) :: (.int 0) :: (.ref (ex 6)) :: (.ref (ex 7)) :: (.int 0) :: (.ref (ex 8)) :: (.int (-1)) :: (.int 0) :: (.int 0) :: (.int 0) :: (.int 0) :: (.int 0) :: (.int 0) :: (.ref (ex 9)) :: (.int 0) :: (.ref (ex 10)) :: (.int 0) :: (.int 0) :: (.int 0) :: (.int 0) :: (.int 0) :: (.ref (ex 11)) :: (.ref (ex 12)) :: (.ref (ex 13)) :: (.ref (ex 14)) :: [])))] := hD
  have hl := lv_entry ([.ref (a 0), .int (vi 0)]) (n := 2) (Nat.le_of_ble_eq_true rfl)
  rw [lg_entry_eq]
  generalize (lg_sl ([.ref (a 0), .int (vi 0)]) ++ List.replicate (2 - (lg_sl ([.ref (a 0), .int (vi 0)])).length) Slot.unset).toArray = ls at hl ⊢
  replace hl : lv_has ls 2 [(0, .ref (a 0)), (1, .int (vi 0))] := hl
  refine lv_aload_n hx hb dX12_partner_0 rfl (lv_at hl 0 rfl) ?_
  refine lv_iconst (v := 0) hx hb dX12_partner_1 (by decide) ?_
  refine va_put (D := D) (ci := 12) (v := .int 0) (ty := .int) (C := RX12) (T := TX12) (N := 44) hx hb htg inX12 tyX12 tyX12_ok nmX12 hown hK.1 hP hD hS 0 rfl rfl 0 (by decide) (htg _ kw_1407) (fun _ h9 => h9) rfl (by decide +kernel) rfl rfl (Nat.le_of_ble_eq_true rfl) dX12_partner_2 (fun H locs hP hD hS => ?_)
  replace hP : va_P D vwCl [((a 0), .inr (12, ((.int 0) :: (.ref (ex 0)) :: (.int 0) :: (.int 0) :: (.int 0) :: (.int 0) :: (.ref (ex 1)) :: (.ref (ex 2)) :: (.ref (ex 3)) :: (.ref (ex 4)) :: (.ref (ex 5)) :: (.int 0) :: (.int 0) :: (.int 0) :: (.int 0) :: (.int 0) :: (.int 0) :: (.long 0) :: (.int 0) :: (.int 0) :: (.int 0) :: (.ref (ex 6)) :: (.ref (ex 7)) :: (.int 0) :: (.ref (ex 8)) :: (.int (-1)) :: (.int 0) :: (.int 0) :: (.int 0) :: (.int 0) :: (.int 0) :: (.int 0) :: (.ref (ex 9)) :: (.int 0) :: (.ref (ex 10)) :: (.int 0) :: (.int 0) :: (.int 0) :: (.int 0) :: (.int 0) :: (.ref (ex 11)) :: (.ref (ex 12)) :: (.ref (ex 13)) :: (.ref (ex 14)) :: [])))] H := hP
  replace hD : va_D A [((a 0), .inr (12, ((.int 0) :: (.ref (ex 0)) :: (.int 0) :: (.int 0) :: (.int 0) :: (.int 0) :: (.ref (ex 1)) :: (.ref (ex 2)) :: (.ref (ex 3)) :: (.ref (ex 4)) :: (.ref (ex 5)) :: (.int 0) :: (.int 0) :: (.int 0) :: (.int 0) :: (.int 0) :: (.int 0) :: (.long 0) :: (.int 0) :: (.int 0) :: (.int 0) :: (.ref (ex 6)) :: (.ref (ex 7)) :: (.int 0) :: (.ref (ex 8)) :: (.int (-1)) :: (.int 0) :: (.int 0) :: (.int 0) :: (.int 0) :: (.int 0) :: (.int 0) :: (.ref (ex 9)) :: (.int 0) :: (.ref (ex 10)) :: (.int 0) :: (.int 0) :: (.int 0) :: (.int 0) :: (.int 0) :: (.ref (ex 11)) :: (.ref (ex 12)) :: (.ref (ex 13)) :: (.ref (ex 14)) :: [])))] := hD
  refine lv_iload_n hx hb dX12_partner_5 rfl (lv_at hl 1 rfl) ?_
  refine lv_iconst (v := 0) hx hb dX12_partner_6 (by decide) ?_
  refine lv_aload_n hx hb dX12_partner_7 rfl (lv_at hl 0 rfl) ?_
  refine va_get (D := D) (ci := 12) (v := .int (-1)) (C := RX12) (T := TX12) (N := 44) hx hb htg inX12 hown hK.1 hP 0 rfl rfl 25 (by decide) (htg _ kw_1432) (fun _ h9 => h9) rfl dX12_partner_8 ?_
  refine lv_iconst (v := 1) hx hb dX12_partner_11 (by decide) ?_
  refine lv_isub hx hb dX12_partner_12 ?_
  refine xz_i (-2) (by decide) ?_
  have hPc := hP.sub (ws' := (pre_X12_isIn_4 T (xa []) (xa []) (xf []) (xh []) (xv [(vi 0)]))) [] rfl
  have hDc := hD.sub (ws' := (pre_X12_isIn_4 T (xa []) (xa []) (xf []) (xh []) (xv [(vi 0)]))) [] (by decide) rfl
  have hFc := va_free (wc := (pre_X12_isIn_4 T (xa []) (xa []) (xf []) (xh []) (xv [(vi 0)]))) hD hS hA [] rfl
  refine va_calli (va_runS (As := [.int (vi 0), .int 0, .int (-2)]) (rest := []) ⟨hx, hb, hml, hown, htg⟩ (c_X12_isIn_4 l D T (xa []) (xa []) (xf []) (xh []) (xv [(vi 0)]) H.size) ⟨callB_of 3 htg (xg_ok kw_1597) rfl rfl rfl (htg _ kw_17) (htg _ kw_1595) (by decide +kernel) ⟨by rw [hR]; exact Nat.le_of_ble_eq_true rfl, by rw [hR]; exact Nat.le_of_ble_eq_true rfl⟩, htg _ kw_1596⟩ (xpreS hK hPc hDc) rfl rfl hl.1 rfl (lv_room (Nat.le_of_ble_eq_true rfl)) dX12_partner_13 ⟨by rw [hR]; exact Nat.le_of_ble_eq_true rfl, by rw [hR]; exact Nat.le_of_ble_eq_true rfl⟩) hS (fun q _ h => hFc q h) hFc (fun r9 u t H1 locs ht hvm hw hB hz1 hk1 hS => ?_)
  obtain ⟨bk, fik, flk, vik, hP1, hD1, hGk⟩ := hB
  rw [ht] at hP1
  obtain ⟨hP, hD⟩ := va_join (wr := [((a 0), .inr (12, ((.int 0) :: (.ref (ex 0)) :: (.int 0) :: (.int 0) :: (.int 0) :: (.int 0) :: (.ref (ex 1)) :: (.ref (ex 2)) :: (.ref (ex 3)) :: (.ref (ex 4)) :: (.ref (ex 5)) :: (.int 0) :: (.int 0) :: (.int 0) :: (.int 0) :: (.int 0) :: (.int 0) :: (.long 0) :: (.int 0) :: (.int 0) :: (.int 0) :: (.ref (ex 6)) :: (.ref (ex 7)) :: (.int 0) :: (.ref (ex 8)) :: (.int (-1)) :: (.int 0) :: (.int 0) :: (.int 0) :: (.int 0) :: (.int 0) :: (.int 0) :: (.ref (ex 9)) :: (.int 0) :: (.ref (ex 10)) :: (.int 0) :: (.int 0) :: (.int 0) :: (.int 0) :: (.int 0) :: (.ref (ex 11)) :: (.ref (ex 12)) :: (.ref (ex 13)) :: (.ref (ex 14)) :: [])))]) (w1 := []) hP hD [] [0] rfl rfl (by decide) (by decide) hk1 hFc hP1 hD1
  subst hw
  clear hPc hDc hFc hP1 hD1 hk1 hz1 hvm ht
  generalize H1 = H at hP hS ⊢
  replace hP : va_P D vwCl [((a 0), .inr (12, ((.int 0) :: (.ref (ex 0)) :: (.int 0) :: (.int 0) :: (.int 0) :: (.int 0) :: (.ref (ex 1)) :: (.ref (ex 2)) :: (.ref (ex 3)) :: (.ref (ex 4)) :: (.ref (ex 5)) :: (.int 0) :: (.int 0) :: (.int 0) :: (.int 0) :: (.int 0) :: (.int 0) :: (.long 0) :: (.int 0) :: (.int 0) :: (.int 0) :: (.ref (ex 6)) :: (.ref (ex 7)) :: (.int 0) :: (.ref (ex 8)) :: (.int (-1)) :: (.int 0) :: (.int 0) :: (.int 0) :: (.int 0) :: (.int 0) :: (.int 0) :: (.ref (ex 9)) :: (.int 0) :: (.ref (ex 10)) :: (.int 0) :: (.int 0) :: (.int 0) :: (.int 0) :: (.int 0) :: (.ref (ex 11)) :: (.ref (ex 12)) :: (.ref (ex 13)) :: (.ref (ex 14)) :: [])))] H := hP
  replace hD : va_D A [((a 0), .inr (12, ((.int 0) :: (.ref (ex 0)) :: (.int 0) :: (.int 0) :: (.int 0) :: (.int 0) :: (.ref (ex 1)) :: (.ref (ex 2)) :: (.ref (ex 3)) :: (.ref (ex 4)) :: (.ref (ex 5)) :: (.int 0) :: (.int 0) :: (.int 0) :: (.int 0) :: (.int 0) :: (.int 0) :: (.long 0) :: (.int 0) :: (.int 0) :: (.int 0) :: (.ref (ex 6)) :: (.ref (ex 7)) :: (.int 0) :: (.ref (ex 8)) :: (.int (-1)) :: (.int 0) :: (.int 0) :: (.int 0) :: (.int 0) :: (.int 0) :: (.int 0) :: (.ref (ex 9)) :: (.int 0) :: (.ref (ex 10)) :: (.int 0) :: (.int 0) :: (.int 0) :: (.int 0) :: (.int 0) :: (.ref (ex 11)) :: (.ref (ex 12)) :: (.ref (ex 13)) :: (.ref (ex 14)) :: [])))] := hD
  refine lv_if_eq (tgt := 28) hx hb dX12_partner_16 (by decide) (fun _ => ?_) (fun c => absurd (by decide) c)
  refine lv_iconst (v := (-1)) hx hb dX12_partner_28 (by decide) ?_
  have hP9 := hP.sub (ws' := []) [] rfl
  have hD9 := hD.sub (ws' := []) [] (by decide) rfl
  rw [hQ]
  exact W.iret (v := (-1)) hx hb hr (fun t ht hW => ⟨⟨(-1), (), rfl, rfl, ⟨xa [], xf [], xh [], xv [], by rw [ht]; exact hP9, hD9, trivial⟩⟩, hS.F ht⟩) hS.2.2 dX12_partner_29
abbrev pre_X12_bidder (T : Nat → ClassId) (a ex : Nat → Nat) (fi : Nat → Nat → Int32) (fl : Nat → Nat → Int64) (vi : Nat → Int32) : va_W := [((a 0), .inr (12, ((.int 0) :: (.ref (ex 0)) :: (.int 0) :: (.int 0) :: (.int 0) :: (.int 0) :: (.ref (a 1)) :: (.ref (ex 1)) :: (.ref (ex 2)) :: (.ref (ex 3)) :: (.ref (ex 4)) :: (.int 0) :: (.int 0) :: (.int 0) :: (.int 0) :: (.int 0) :: (.int 0) :: (.long 0) :: (.int 0) :: (.int 0) :: (.int 0) :: (.ref (ex 5)) :: (.ref (ex 6)) :: (.int 0) :: (.ref (ex 7)) :: (.int (-1)) :: (.int 0) :: (.int 0) :: (.int 0) :: (.int 0) :: (.int 0) :: (.int 0) :: (.ref (ex 8)) :: (.int 0) :: (.ref (ex 9)) :: (.int 0) :: (.int 0) :: (.int 0) :: (.int 0) :: (.int 0) :: (.ref (ex 10)) :: (.ref (ex 11)) :: (.ref (ex 12)) :: (.ref (ex 13)) :: []))), ((a 1), .inl (T 1, 2187, .inl (fun _ => 0)))]
set_option maxHeartbeats 4000000 in
set_option maxRecDepth 100000 in
theorem c_X12_bidder (l : Launch) (D : va_G) (T : Nat → ClassId) (a ex : Nat → Nat) (fi : Nat → Nat → Int32) (fl : Nat → Nat → Int64) (vi : Nat → Int32) (sz : Nat) : Met l yX12_bidder (xw yX12_bidder cX12_bidder 2 (some .int)) ({ frames := 2, cells := 0, slots := 0, locals := 51 }) (xP D T [.ref (a 0), .int (vi 0)] sz (pre_X12_bidder T a ex fi fl vi)) (va_Qi (fun r (_ : Unit) => r = (-1)) (xB D (va_A (pre_X12_bidder T a ex fi fl vi) sz) (fun _ => True) (fun b fj fm vj => [])) (va_A (pre_X12_bidder T a ex fi fl vi) sz)) 0 0 (va_A (pre_X12_bidder T a ex fi fl vi) sz) := by
  refine xofW (cc := cX12_bidder) (maxL := 2) (ret := (some .int)) (by decide) rfl ?_
  intro p e s m args below meth c s₁ R Q hR hQ B hml hv
  obtain ⟨rfl, hsz, hP, hK, hD0⟩ := hv
  have hx := B.exec
  have hb := B.bytes
  have hr := B.returns
  have hts := atoms_spec (ws := xw yX12_bidder cX12_bidder 2 (some .int)) B.pre
  have htg : ∀ w ∈ xg, w.before _ s = true := fun w h => hts w (List.mem_cons_of_mem _ h)
  have hown : s.vm.findClass RX12 = some m.cls := findClass_of_methodNamed B.named
  have hlocks := B.notSynchronized
  subst hsz
  have hD := hD0.self (sz := s.heap.size)
  generalize hAe : va_A (pre_X12_bidder T a ex fi fl vi) s.heap.size = A at hD hQ
  have hA : ∀ q : Nat, s.heap.size ≤ q → A q := fun q h => by rw [← hAe]; exact Or.inr h
  have hS : va_S A s.heap s.heap [] := va_S.rf
  replace hP : va_P D vwCl [((a 0), .inr (12, ((.int 0) :: (.ref (ex 0)) :: (.int 0) :: (.int 0) :: (.int 0) :: (.int 0) :: (.ref (a 1)) :: (.ref (ex 1)) :: (.ref (ex 2)) :: (.ref (ex 3)) :: (.ref (ex 4)) :: (.int 0) :: (.int 0) :: (.int 0) :: (.int 0) :: (.int 0) :: (.int 0) :: (.long 0) :: (.int 0) :: (.int 0) :: (.int 0) :: (.ref (ex 5)) :: (.ref (ex 6)) :: (.int 0) :: (.ref (ex 7)) :: (.int (-1)) :: (.int 0) :: (.int 0) :: (.int 0) :: (.int 0) :: (.int 0) :: (.int 0) :: (.ref (ex 8)) :: (.int 0) :: (.ref (ex 9)) :: (.int 0) :: (.int 0) :: (.int 0) :: (.int 0) :: (.int 0) :: (.ref (ex 10)) :: (.ref (ex 11)) :: (.ref (ex 12)) :: (.ref (ex 13)) :: []))), ((a 1), .inl (T 1, 2187, .inl (fun _ => 0)))] s.heap := hP
  replace hD : va_D A [((a 0), .inr (12, ((.int 0) :: (.ref (ex 0)) :: (.int 0) :: (.int 0) :: (.int 0) :: (.int 0) :: (.ref (a 1)) :: (.ref (ex 1)) :: (.ref (ex 2)) :: (.ref (ex 3)) :: (.ref (ex 4)) :: (.int 0) :: (.int 0) :: (.int 0) :: (.int 0) :: (.int 0) :: (.int 0) :: (.long 0) :: (.int 0) :: (.int 0) :: (.int 0) :: (.ref (ex 5)) :: (.ref (ex 6)) :: (.int 0) :: (.ref (ex 7)) :: (.int (-1)) :: (.int 0) :: (.int 0) :: (.int 0) :: (.int 0) :: (.int 0) :: (.int 0) :: (.ref (ex 8)) :: (.int 0) :: (.ref (ex 9)) :: (.int 0) :: (.int 0) :: (.int 0) :: (.int 0) :: (.int 0) :: (.ref (ex 10)) :: (.ref (ex 11)) :: (.ref (ex 12)) :: (.ref (ex 13)) :: []))), ((a 1), .inl (T 1, 2187, .inl (fun _ => 0)))] := hD
  have hl := lv_entry ([.ref (a 0), .int (vi 0)]) (n := 2) (Nat.le_of_ble_eq_true rfl)
  rw [lg_entry_eq]
  generalize (lg_sl ([.ref (a 0), .int (vi 0)]) ++ List.replicate (2 - (lg_sl ([.ref (a 0), .int (vi 0)])).length) Slot.unset).toArray = ls at hl ⊢
  replace hl : lv_has ls 2 [(0, .ref (a 0)), (1, .int (vi 0))] := hl
  refine lv_aload_n hx hb dX12_bidder_0 rfl (lv_at hl 0 rfl) ?_
  refine lv_iconst (v := 0) hx hb dX12_bidder_1 (by decide) ?_
  refine va_put (D := D) (ci := 12) (v := .int 0) (ty := .int) (C := RX12) (T := TX12) (N := 44) hx hb htg inX12 tyX12 tyX12_ok nmX12 hown hK.1 hP hD hS 0 rfl rfl 0 (by decide) (htg _ kw_1407) (fun _ h9 => h9) rfl (by decide +kernel) rfl rfl (Nat.le_of_ble_eq_true rfl) dX12_bidder_2 (fun H locs hP hD hS => ?_)
  replace hP : va_P D vwCl [((a 0), .inr (12, ((.int 0) :: (.ref (ex 0)) :: (.int 0) :: (.int 0) :: (.int 0) :: (.int 0) :: (.ref (a 1)) :: (.ref (ex 1)) :: (.ref (ex 2)) :: (.ref (ex 3)) :: (.ref (ex 4)) :: (.int 0) :: (.int 0) :: (.int 0) :: (.int 0) :: (.int 0) :: (.int 0) :: (.long 0) :: (.int 0) :: (.int 0) :: (.int 0) :: (.ref (ex 5)) :: (.ref (ex 6)) :: (.int 0) :: (.ref (ex 7)) :: (.int (-1)) :: (.int 0) :: (.int 0) :: (.int 0) :: (.int 0) :: (.int 0) :: (.int 0) :: (.ref (ex 8)) :: (.int 0) :: (.ref (ex 9)) :: (.int 0) :: (.int 0) :: (.int 0) :: (.int 0) :: (.int 0) :: (.ref (ex 10)) :: (.ref (ex 11)) :: (.ref (ex 12)) :: (.ref (ex 13)) :: []))), ((a 1), .inl (T 1, 2187, .inl (fun _ => 0)))] H := hP
  replace hD : va_D A [((a 0), .inr (12, ((.int 0) :: (.ref (ex 0)) :: (.int 0) :: (.int 0) :: (.int 0) :: (.int 0) :: (.ref (a 1)) :: (.ref (ex 1)) :: (.ref (ex 2)) :: (.ref (ex 3)) :: (.ref (ex 4)) :: (.int 0) :: (.int 0) :: (.int 0) :: (.int 0) :: (.int 0) :: (.int 0) :: (.long 0) :: (.int 0) :: (.int 0) :: (.int 0) :: (.ref (ex 5)) :: (.ref (ex 6)) :: (.int 0) :: (.ref (ex 7)) :: (.int (-1)) :: (.int 0) :: (.int 0) :: (.int 0) :: (.int 0) :: (.int 0) :: (.int 0) :: (.ref (ex 8)) :: (.int 0) :: (.ref (ex 9)) :: (.int 0) :: (.int 0) :: (.int 0) :: (.int 0) :: (.int 0) :: (.ref (ex 10)) :: (.ref (ex 11)) :: (.ref (ex 12)) :: (.ref (ex 13)) :: []))), ((a 1), .inl (T 1, 2187, .inl (fun _ => 0)))] := hD
  refine lv_aload_n hx hb dX12_bidder_5 rfl (lv_at hl 0 rfl) ?_
  refine lv_iload_n hx hb dX12_bidder_6 rfl (lv_at hl 1 rfl) ?_
  have hPc := hP.sub (ws' := (pre_X12_isNameOf T (xa [(a 0), (a 1)]) (xa [(ex 0), (ex 1), (ex 2), (ex 3), (ex 4), (ex 5), (ex 6), (ex 7), (ex 8), (ex 9), (ex 10), (ex 11), (ex 12), (ex 13)]) (xf []) (xh []) (xv [(vi 0)]))) [0, 1] rfl
  have hDc := hD.sub (ws' := (pre_X12_isNameOf T (xa [(a 0), (a 1)]) (xa [(ex 0), (ex 1), (ex 2), (ex 3), (ex 4), (ex 5), (ex 6), (ex 7), (ex 8), (ex 9), (ex 10), (ex 11), (ex 12), (ex 13)]) (xf []) (xh []) (xv [(vi 0)]))) [0, 1] (by decide) rfl
  have hFc := va_free (wc := (pre_X12_isNameOf T (xa [(a 0), (a 1)]) (xa [(ex 0), (ex 1), (ex 2), (ex 3), (ex 4), (ex 5), (ex 6), (ex 7), (ex 8), (ex 9), (ex 10), (ex 11), (ex 12), (ex 13)]) (xf []) (xh []) (xv [(vi 0)]))) hD hS hA [0, 1] rfl
  refine va_calli (va_runV (As := [.int (vi 0)]) (rest := []) ⟨hx, hb, hml, hown, htg⟩ (c_X12_isNameOf l D T (xa [(a 0), (a 1)]) (xa [(ex 0), (ex 1), (ex 2), (ex 3), (ex 4), (ex 5), (ex 6), (ex 7), (ex 8), (ex 9), (ex 10), (ex 11), (ex 12), (ex 13)]) (xf []) (xh []) (xv [(vi 0)]) H.size) ⟨callB_of 1 htg (xg_ok kw_1632) rfl rfl rfl (htg _ kw_17) (htg _ kw_1629) (by decide +kernel) ⟨by rw [hR]; exact Nat.le_of_ble_eq_true rfl, by rw [hR]; exact Nat.le_of_ble_eq_true rfl⟩, htg _ kw_1631, htg _ ks_131⟩ (xpreV hK hPc hDc (va_recv hK.1 hPc (ci := 12) (q0 := 0) rfl rfl)) rfl rfl hl.1 rfl (lv_room (Nat.le_of_ble_eq_true rfl)) dX12_bidder_7 ⟨by rw [hR]; exact Nat.le_of_ble_eq_true rfl, by rw [hR]; exact Nat.le_of_ble_eq_true rfl⟩) hS (fun q _ h => hFc q h) hFc (fun r9 u t H1 locs ht hvm hw hB hz1 hk1 hS => ?_)
  obtain ⟨bk, fik, flk, vik, hP1, hD1, hGk⟩ := hB
  rw [ht] at hP1
  obtain ⟨hP, hD⟩ := va_join (wr := []) (w1 := [((a 0), .inr (12, ((.int 0) :: (.ref (ex 0)) :: (.int 0) :: (.int 0) :: (.int 0) :: (.int 0) :: (.ref (a 1)) :: (.ref (ex 1)) :: (.ref (ex 2)) :: (.ref (ex 3)) :: (.ref (ex 4)) :: (.int 0) :: (.int 0) :: (.int 0) :: (.int 0) :: (.int 0) :: (.int 0) :: (.long 0) :: (.int 0) :: (.int 0) :: (.int 0) :: (.ref (ex 5)) :: (.ref (ex 6)) :: (.int 0) :: (.ref (ex 7)) :: (.int (-1)) :: (.int 0) :: (.int 0) :: (.int 0) :: (.int 0) :: (.int 0) :: (.int 0) :: (.ref (ex 8)) :: (.int 0) :: (.ref (ex 9)) :: (.int 0) :: (.int 0) :: (.int 0) :: (.int 0) :: (.int 0) :: (.ref (ex 10)) :: (.ref (ex 11)) :: (.ref (ex 12)) :: (.ref (ex 13)) :: []))), ((a 1), .inl (T 1, 2187, .inl (fun _ => 0)))]) hP hD [0, 1] [] rfl rfl (by decide) (by decide) hk1 hFc hP1 hD1
  subst hw
  clear hPc hDc hFc hP1 hD1 hk1 hz1 hvm ht
  generalize H1 = H at hP hS ⊢
  replace hP : va_P D vwCl [((a 0), .inr (12, ((.int 0) :: (.ref (ex 0)) :: (.int 0) :: (.int 0) :: (.int 0) :: (.int 0) :: (.ref (a 1)) :: (.ref (ex 1)) :: (.ref (ex 2)) :: (.ref (ex 3)) :: (.ref (ex 4)) :: (.int 0) :: (.int 0) :: (.int 0) :: (.int 0) :: (.int 0) :: (.int 0) :: (.long 0) :: (.int 0) :: (.int 0) :: (.int 0) :: (.ref (ex 5)) :: (.ref (ex 6)) :: (.int 0) :: (.ref (ex 7)) :: (.int (-1)) :: (.int 0) :: (.int 0) :: (.int 0) :: (.int 0) :: (.int 0) :: (.int 0) :: (.ref (ex 8)) :: (.int 0) :: (.ref (ex 9)) :: (.int 0) :: (.int 0) :: (.int 0) :: (.int 0) :: (.int 0) :: (.ref (ex 10)) :: (.ref (ex 11)) :: (.ref (ex 12)) :: (.ref (ex 13)) :: []))), ((a 1), .inl (T 1, 2187, .inl (fun _ => 0)))] H := hP
  replace hD : va_D A [((a 0), .inr (12, ((.int 0) :: (.ref (ex 0)) :: (.int 0) :: (.int 0) :: (.int 0) :: (.int 0) :: (.ref (a 1)) :: (.ref (ex 1)) :: (.ref (ex 2)) :: (.ref (ex 3)) :: (.ref (ex 4)) :: (.int 0) :: (.int 0) :: (.int 0) :: (.int 0) :: (.int 0) :: (.int 0) :: (.long 0) :: (.int 0) :: (.int 0) :: (.int 0) :: (.ref (ex 5)) :: (.ref (ex 6)) :: (.int 0) :: (.ref (ex 7)) :: (.int (-1)) :: (.int 0) :: (.int 0) :: (.int 0) :: (.int 0) :: (.int 0) :: (.int 0) :: (.ref (ex 8)) :: (.int 0) :: (.ref (ex 9)) :: (.int 0) :: (.int 0) :: (.int 0) :: (.int 0) :: (.int 0) :: (.ref (ex 10)) :: (.ref (ex 11)) :: (.ref (ex 12)) :: (.ref (ex 13)) :: []))), ((a 1), .inl (T 1, 2187, .inl (fun _ => 0)))] := hD
  refine lv_if_ne (tgt := 15) hx hb dX12_bidder_10 (by decide) (fun c => absurd (by decide) c) (fun _ => ?_)
  refine lv_iconst (v := (-1)) hx hb dX12_bidder_13 (by decide) ?_
  have hP9 := hP.sub (ws' := []) [] rfl
  have hD9 := hD.sub (ws' := []) [] (by decide) rfl
  rw [hQ]
  exact W.iret (v := (-1)) hx hb hr (fun t ht hW => ⟨⟨(-1), (), rfl, rfl, ⟨xa [], xf [], xh [], xv [], by rw [ht]; exact hP9, hD9, trivial⟩⟩, hS.F ht⟩) hS.2.2 dX12_bidder_14
abbrev pre_X12_bid (T : Nat → ClassId) (a ex : Nat → Nat) (fi : Nat → Nat → Int32) (fl : Nat → Nat → Int64) (vi : Nat → Int32) : va_W := [((a 0), .inr (12, ((.int 0) :: (.ref (ex 0)) :: (.int 0) :: (.int 0) :: (.int 0) :: (.int 0) :: (.ref (a 1)) :: (.ref (ex 1)) :: (.ref (ex 2)) :: (.ref (ex 3)) :: (.ref (ex 4)) :: (.int 0) :: (.int 0) :: (.int 0) :: (.int 0) :: (.int 0) :: (.int 0) :: (.long 0) :: (.int 0) :: (.int 0) :: (.int 0) :: (.ref (ex 5)) :: (.ref (ex 6)) :: (.int 0) :: (.ref (ex 7)) :: (.int (-1)) :: (.int 0) :: (.int 0) :: (.int 0) :: (.int 0) :: (.int 0) :: (.int 0) :: (.ref (ex 8)) :: (.int 0) :: (.ref (ex 9)) :: (.int 0) :: (.int 0) :: (.int 0) :: (.int 0) :: (.int 0) :: (.ref (ex 10)) :: (.ref (ex 11)) :: (.ref (ex 12)) :: (.ref (ex 13)) :: []))), ((a 1), .inl (T 1, 2187, .inl (fun _ => 0)))]
set_option maxHeartbeats 4000000 in
set_option maxRecDepth 100000 in
theorem c_X12_bid (l : Launch) (D : va_G) (T : Nat → ClassId) (a ex : Nat → Nat) (fi : Nat → Nat → Int32) (fl : Nat → Nat → Int64) (vi : Nat → Int32) (sz : Nat) : Met l yX12_bid (xw yX12_bid cX12_bid 2 (some .int)) ({ frames := 2, cells := 0, slots := 0, locals := 51 }) (xP D T [.ref (a 0), .int (vi 0)] sz (pre_X12_bid T a ex fi fl vi)) (va_Qi (fun r (_ : Unit) => r = (-1)) (xB D (va_A (pre_X12_bid T a ex fi fl vi) sz) (fun _ => True) (fun b fj fm vj => [])) (va_A (pre_X12_bid T a ex fi fl vi) sz)) 0 0 (va_A (pre_X12_bid T a ex fi fl vi) sz) := by
  refine xofW (cc := cX12_bid) (maxL := 2) (ret := (some .int)) (by decide) rfl ?_
  intro p e s m args below meth c s₁ R Q hR hQ B hml hv
  obtain ⟨rfl, hsz, hP, hK, hD0⟩ := hv
  have hx := B.exec
  have hb := B.bytes
  have hr := B.returns
  have hts := atoms_spec (ws := xw yX12_bid cX12_bid 2 (some .int)) B.pre
  have htg : ∀ w ∈ xg, w.before _ s = true := fun w h => hts w (List.mem_cons_of_mem _ h)
  have hown : s.vm.findClass RX12 = some m.cls := findClass_of_methodNamed B.named
  have hlocks := B.notSynchronized
  subst hsz
  have hD := hD0.self (sz := s.heap.size)
  generalize hAe : va_A (pre_X12_bid T a ex fi fl vi) s.heap.size = A at hD hQ
  have hA : ∀ q : Nat, s.heap.size ≤ q → A q := fun q h => by rw [← hAe]; exact Or.inr h
  have hS : va_S A s.heap s.heap [] := va_S.rf
  replace hP : va_P D vwCl [((a 0), .inr (12, ((.int 0) :: (.ref (ex 0)) :: (.int 0) :: (.int 0) :: (.int 0) :: (.int 0) :: (.ref (a 1)) :: (.ref (ex 1)) :: (.ref (ex 2)) :: (.ref (ex 3)) :: (.ref (ex 4)) :: (.int 0) :: (.int 0) :: (.int 0) :: (.int 0) :: (.int 0) :: (.int 0) :: (.long 0) :: (.int 0) :: (.int 0) :: (.int 0) :: (.ref (ex 5)) :: (.ref (ex 6)) :: (.int 0) :: (.ref (ex 7)) :: (.int (-1)) :: (.int 0) :: (.int 0) :: (.int 0) :: (.int 0) :: (.int 0) :: (.int 0) :: (.ref (ex 8)) :: (.int 0) :: (.ref (ex 9)) :: (.int 0) :: (.int 0) :: (.int 0) :: (.int 0) :: (.int 0) :: (.ref (ex 10)) :: (.ref (ex 11)) :: (.ref (ex 12)) :: (.ref (ex 13)) :: []))), ((a 1), .inl (T 1, 2187, .inl (fun _ => 0)))] s.heap := hP
  replace hD : va_D A [((a 0), .inr (12, ((.int 0) :: (.ref (ex 0)) :: (.int 0) :: (.int 0) :: (.int 0) :: (.int 0) :: (.ref (a 1)) :: (.ref (ex 1)) :: (.ref (ex 2)) :: (.ref (ex 3)) :: (.ref (ex 4)) :: (.int 0) :: (.int 0) :: (.int 0) :: (.int 0) :: (.int 0) :: (.int 0) :: (.long 0) :: (.int 0) :: (.int 0) :: (.int 0) :: (.ref (ex 5)) :: (.ref (ex 6)) :: (.int 0) :: (.ref (ex 7)) :: (.int (-1)) :: (.int 0) :: (.int 0) :: (.int 0) :: (.int 0) :: (.int 0) :: (.int 0) :: (.ref (ex 8)) :: (.int 0) :: (.ref (ex 9)) :: (.int 0) :: (.int 0) :: (.int 0) :: (.int 0) :: (.int 0) :: (.ref (ex 10)) :: (.ref (ex 11)) :: (.ref (ex 12)) :: (.ref (ex 13)) :: []))), ((a 1), .inl (T 1, 2187, .inl (fun _ => 0)))] := hD
  have hl := lv_entry ([.ref (a 0), .int (vi 0)]) (n := 2) (Nat.le_of_ble_eq_true rfl)
  rw [lg_entry_eq]
  generalize (lg_sl ([.ref (a 0), .int (vi 0)]) ++ List.replicate (2 - (lg_sl ([.ref (a 0), .int (vi 0)])).length) Slot.unset).toArray = ls at hl ⊢
  replace hl : lv_has ls 2 [(0, .ref (a 0)), (1, .int (vi 0))] := hl
  refine lv_aload_n hx hb dX12_bid_0 rfl (lv_at hl 0 rfl) ?_
  refine lv_iconst (v := 0) hx hb dX12_bid_1 (by decide) ?_
  refine va_put (D := D) (ci := 12) (v := .int 0) (ty := .int) (C := RX12) (T := TX12) (N := 44) hx hb htg inX12 tyX12 tyX12_ok nmX12 hown hK.1 hP hD hS 0 rfl rfl 0 (by decide) (htg _ kw_1407) (fun _ h9 => h9) rfl (by decide +kernel) rfl rfl (Nat.le_of_ble_eq_true rfl) dX12_bid_2 (fun H locs hP hD hS => ?_)
  replace hP : va_P D vwCl [((a 0), .inr (12, ((.int 0) :: (.ref (ex 0)) :: (.int 0) :: (.int 0) :: (.int 0) :: (.int 0) :: (.ref (a 1)) :: (.ref (ex 1)) :: (.ref (ex 2)) :: (.ref (ex 3)) :: (.ref (ex 4)) :: (.int 0) :: (.int 0) :: (.int 0) :: (.int 0) :: (.int 0) :: (.int 0) :: (.long 0) :: (.int 0) :: (.int 0) :: (.int 0) :: (.ref (ex 5)) :: (.ref (ex 6)) :: (.int 0) :: (.ref (ex 7)) :: (.int (-1)) :: (.int 0) :: (.int 0) :: (.int 0) :: (.int 0) :: (.int 0) :: (.int 0) :: (.ref (ex 8)) :: (.int 0) :: (.ref (ex 9)) :: (.int 0) :: (.int 0) :: (.int 0) :: (.int 0) :: (.int 0) :: (.ref (ex 10)) :: (.ref (ex 11)) :: (.ref (ex 12)) :: (.ref (ex 13)) :: []))), ((a 1), .inl (T 1, 2187, .inl (fun _ => 0)))] H := hP
  replace hD : va_D A [((a 0), .inr (12, ((.int 0) :: (.ref (ex 0)) :: (.int 0) :: (.int 0) :: (.int 0) :: (.int 0) :: (.ref (a 1)) :: (.ref (ex 1)) :: (.ref (ex 2)) :: (.ref (ex 3)) :: (.ref (ex 4)) :: (.int 0) :: (.int 0) :: (.int 0) :: (.int 0) :: (.int 0) :: (.int 0) :: (.long 0) :: (.int 0) :: (.int 0) :: (.int 0) :: (.ref (ex 5)) :: (.ref (ex 6)) :: (.int 0) :: (.ref (ex 7)) :: (.int (-1)) :: (.int 0) :: (.int 0) :: (.int 0) :: (.int 0) :: (.int 0) :: (.int 0) :: (.ref (ex 8)) :: (.int 0) :: (.ref (ex 9)) :: (.int 0) :: (.int 0) :: (.int 0) :: (.int 0) :: (.int 0) :: (.ref (ex 10)) :: (.ref (ex 11)) :: (.ref (ex 12)) :: (.ref (ex 13)) :: []))), ((a 1), .inl (T 1, 2187, .inl (fun _ => 0)))] := hD
  refine lv_aload_n hx hb dX12_bid_5 rfl (lv_at hl 0 rfl) ?_
  refine lv_iload_n hx hb dX12_bid_6 rfl (lv_at hl 1 rfl) ?_
  have hPc := hP.sub (ws' := (pre_X12_isNameOf T (xa [(a 0), (a 1)]) (xa [(ex 0), (ex 1), (ex 2), (ex 3), (ex 4), (ex 5), (ex 6), (ex 7), (ex 8), (ex 9), (ex 10), (ex 11), (ex 12), (ex 13)]) (xf []) (xh []) (xv [(vi 0)]))) [0, 1] rfl
  have hDc := hD.sub (ws' := (pre_X12_isNameOf T (xa [(a 0), (a 1)]) (xa [(ex 0), (ex 1), (ex 2), (ex 3), (ex 4), (ex 5), (ex 6), (ex 7), (ex 8), (ex 9), (ex 10), (ex 11), (ex 12), (ex 13)]) (xf []) (xh []) (xv [(vi 0)]))) [0, 1] (by decide) rfl
  have hFc := va_free (wc := (pre_X12_isNameOf T (xa [(a 0), (a 1)]) (xa [(ex 0), (ex 1), (ex 2), (ex 3), (ex 4), (ex 5), (ex 6), (ex 7), (ex 8), (ex 9), (ex 10), (ex 11), (ex 12), (ex 13)]) (xf []) (xh []) (xv [(vi 0)]))) hD hS hA [0, 1] rfl
  refine va_calli (va_runV (As := [.int (vi 0)]) (rest := []) ⟨hx, hb, hml, hown, htg⟩ (c_X12_isNameOf l D T (xa [(a 0), (a 1)]) (xa [(ex 0), (ex 1), (ex 2), (ex 3), (ex 4), (ex 5), (ex 6), (ex 7), (ex 8), (ex 9), (ex 10), (ex 11), (ex 12), (ex 13)]) (xf []) (xh []) (xv [(vi 0)]) H.size) ⟨callB_of 1 htg (xg_ok kw_1632) rfl rfl rfl (htg _ kw_17) (htg _ kw_1629) (by decide +kernel) ⟨by rw [hR]; exact Nat.le_of_ble_eq_true rfl, by rw [hR]; exact Nat.le_of_ble_eq_true rfl⟩, htg _ kw_1631, htg _ ks_131⟩ (xpreV hK hPc hDc (va_recv hK.1 hPc (ci := 12) (q0 := 0) rfl rfl)) rfl rfl hl.1 rfl (lv_room (Nat.le_of_ble_eq_true rfl)) dX12_bid_7 ⟨by rw [hR]; exact Nat.le_of_ble_eq_true rfl, by rw [hR]; exact Nat.le_of_ble_eq_true rfl⟩) hS (fun q _ h => hFc q h) hFc (fun r9 u t H1 locs ht hvm hw hB hz1 hk1 hS => ?_)
  obtain ⟨bk, fik, flk, vik, hP1, hD1, hGk⟩ := hB
  rw [ht] at hP1
  obtain ⟨hP, hD⟩ := va_join (wr := []) (w1 := [((a 0), .inr (12, ((.int 0) :: (.ref (ex 0)) :: (.int 0) :: (.int 0) :: (.int 0) :: (.int 0) :: (.ref (a 1)) :: (.ref (ex 1)) :: (.ref (ex 2)) :: (.ref (ex 3)) :: (.ref (ex 4)) :: (.int 0) :: (.int 0) :: (.int 0) :: (.int 0) :: (.int 0) :: (.int 0) :: (.long 0) :: (.int 0) :: (.int 0) :: (.int 0) :: (.ref (ex 5)) :: (.ref (ex 6)) :: (.int 0) :: (.ref (ex 7)) :: (.int (-1)) :: (.int 0) :: (.int 0) :: (.int 0) :: (.int 0) :: (.int 0) :: (.int 0) :: (.ref (ex 8)) :: (.int 0) :: (.ref (ex 9)) :: (.int 0) :: (.int 0) :: (.int 0) :: (.int 0) :: (.int 0) :: (.ref (ex 10)) :: (.ref (ex 11)) :: (.ref (ex 12)) :: (.ref (ex 13)) :: []))), ((a 1), .inl (T 1, 2187, .inl (fun _ => 0)))]) hP hD [0, 1] [] rfl rfl (by decide) (by decide) hk1 hFc hP1 hD1
  subst hw
  clear hPc hDc hFc hP1 hD1 hk1 hz1 hvm ht
  generalize H1 = H at hP hS ⊢
  replace hP : va_P D vwCl [((a 0), .inr (12, ((.int 0) :: (.ref (ex 0)) :: (.int 0) :: (.int 0) :: (.int 0) :: (.int 0) :: (.ref (a 1)) :: (.ref (ex 1)) :: (.ref (ex 2)) :: (.ref (ex 3)) :: (.ref (ex 4)) :: (.int 0) :: (.int 0) :: (.int 0) :: (.int 0) :: (.int 0) :: (.int 0) :: (.long 0) :: (.int 0) :: (.int 0) :: (.int 0) :: (.ref (ex 5)) :: (.ref (ex 6)) :: (.int 0) :: (.ref (ex 7)) :: (.int (-1)) :: (.int 0) :: (.int 0) :: (.int 0) :: (.int 0) :: (.int 0) :: (.int 0) :: (.ref (ex 8)) :: (.int 0) :: (.ref (ex 9)) :: (.int 0) :: (.int 0) :: (.int 0) :: (.int 0) :: (.int 0) :: (.ref (ex 10)) :: (.ref (ex 11)) :: (.ref (ex 12)) :: (.ref (ex 13)) :: []))), ((a 1), .inl (T 1, 2187, .inl (fun _ => 0)))] H := hP
  replace hD : va_D A [((a 0), .inr (12, ((.int 0) :: (.ref (ex 0)) :: (.int 0) :: (.int 0) :: (.int 0) :: (.int 0) :: (.ref (a 1)) :: (.ref (ex 1)) :: (.ref (ex 2)) :: (.ref (ex 3)) :: (.ref (ex 4)) :: (.int 0) :: (.int 0) :: (.int 0) :: (.int 0) :: (.int 0) :: (.int 0) :: (.long 0) :: (.int 0) :: (.int 0) :: (.int 0) :: (.ref (ex 5)) :: (.ref (ex 6)) :: (.int 0) :: (.ref (ex 7)) :: (.int (-1)) :: (.int 0) :: (.int 0) :: (.int 0) :: (.int 0) :: (.int 0) :: (.int 0) :: (.ref (ex 8)) :: (.int 0) :: (.ref (ex 9)) :: (.int 0) :: (.int 0) :: (.int 0) :: (.int 0) :: (.int 0) :: (.ref (ex 10)) :: (.ref (ex 11)) :: (.ref (ex 12)) :: (.ref (ex 13)) :: []))), ((a 1), .inl (T 1, 2187, .inl (fun _ => 0)))] := hD
  refine lv_if_ne (tgt := 15) hx hb dX12_bid_10 (by decide) (fun c => absurd (by decide) c) (fun _ => ?_)
  refine lv_iconst (v := (-1)) hx hb dX12_bid_13 (by decide) ?_
  have hP9 := hP.sub (ws' := []) [] rfl
  have hD9 := hD.sub (ws' := []) [] (by decide) rfl
  rw [hQ]
  exact W.iret (v := (-1)) hx hb hr (fun t ht hW => ⟨⟨(-1), (), rfl, rfl, ⟨xa [], xf [], xh [], xv [], by rw [ht]; exact hP9, hD9, trivial⟩⟩, hS.F ht⟩) hS.2.2 dX12_bid_14
abbrev pre_X12_isIn_5 (T : Nat → ClassId) (a ex : Nat → Nat) (fi : Nat → Nat → Int32) (fl : Nat → Nat → Int64) (vi : Nat → Int32) : va_W := []
set_option maxHeartbeats 4000000 in
set_option maxRecDepth 100000 in
theorem c_X12_isIn_5 (l : Launch) (D : va_G) (T : Nat → ClassId) (a ex : Nat → Nat) (fi : Nat → Nat → Int32) (fl : Nat → Nat → Int64) (vi : Nat → Int32) (sz : Nat) (hd0 : (0 ≤ (vi 0).toInt ∧ (vi 0).toInt ≤ 199)) : Met l yX12_isIn (xw yX12_isIn cX12_isIn 3 (some .boolean)) ({ frames := 0, cells := 0, slots := 0, locals := 0 }) (xP D T [.int (vi 0), .int 0, .int 199] sz (pre_X12_isIn_5 T a ex fi fl vi)) (va_Qi (fun r (_ : Unit) => r = 1) (xB D (va_A (pre_X12_isIn_5 T a ex fi fl vi) sz) (fun _ => True) (fun b fj fm vj => [])) (va_A (pre_X12_isIn_5 T a ex fi fl vi) sz)) 0 0 (va_A (pre_X12_isIn_5 T a ex fi fl vi) sz) := by
  refine xofW (cc := cX12_isIn) (maxL := 3) (ret := (some .boolean)) (by decide) rfl ?_
  intro p e s m args below meth c s₁ R Q hR hQ B hml hv
  obtain ⟨rfl, hsz, hP, hK, hD0⟩ := hv
  have hx := B.exec
  have hb := B.bytes
  have hr := B.returns
  have hts := atoms_spec (ws := xw yX12_isIn cX12_isIn 3 (some .boolean)) B.pre
  have htg : ∀ w ∈ xg, w.before _ s = true := fun w h => hts w (List.mem_cons_of_mem _ h)
  have hown : s.vm.findClass RX12 = some m.cls := findClass_of_methodNamed B.named
  have hlocks := B.notSynchronized
  subst hsz
  have hD := hD0.self (sz := s.heap.size)
  generalize hAe : va_A (pre_X12_isIn_5 T a ex fi fl vi) s.heap.size = A at hD hQ
  have hA : ∀ q : Nat, s.heap.size ≤ q → A q := fun q h => by rw [← hAe]; exact Or.inr h
  have hS : va_S A s.heap s.heap [] := va_S.rf
  replace hP : va_P D vwCl [] s.heap := hP
  replace hD : va_D A [] := hD
  have hl := lv_entry ([.int (vi 0), .int 0, .int 199]) (n := 3) (Nat.le_of_ble_eq_true rfl)
  rw [lg_entry_eq]
  generalize (lg_sl ([.int (vi 0), .int 0, .int 199]) ++ List.replicate (3 - (lg_sl ([.int (vi 0), .int 0, .int 199])).length) Slot.unset).toArray = ls at hl ⊢
  replace hl : lv_has ls 3 [(0, .int (vi 0)), (1, .int 0), (2, .int 199)] := hl
  refine lv_iload_n hx hb dX12_isIn_0 rfl (lv_at hl 0 rfl) ?_
  refine lv_iload_n hx hb dX12_isIn_1 rfl (lv_at hl 1 rfl) ?_
  refine lv_icmp_lt (tgt := 14) hx hb dX12_isIn_2 (by decide) (fun c => by exfalso; have h9 := xlt (k := 0) (by decide) c; omega) (fun _ => ?_)
  refine lv_iload_n hx hb dX12_isIn_5 rfl (lv_at hl 0 rfl) ?_
  refine lv_iload_n hx hb dX12_isIn_6 rfl (lv_at hl 2 rfl) ?_
  refine lv_icmp_gt (tgt := 14) hx hb dX12_isIn_7 (by decide) (fun c => by exfalso; have h9 := xgt (k := 199) (by decide) c; omega) (fun _ => ?_)
  refine lv_iconst (v := 1) hx hb dX12_isIn_10 (by decide) ?_
  refine lv_goto (tgt := 15) hx hb dX12_isIn_11 (by decide) ?_
  have hP9 := hP.sub (ws' := []) [] rfl
  have hD9 := hD.sub (ws' := []) [] (by decide +kernel) rfl
  rw [hQ]
  exact W.zret (v := 1) hx hb hr rfl (fun t ht hW => ⟨⟨1, (), rfl, rfl, ⟨xa [], xf [], xh [], xv [], by rw [ht]; exact hP9, hD9, trivial⟩⟩, hS.F ht⟩) hS.2.2 dX12_isIn_15
abbrev pre_X12_must (T : Nat → ClassId) (a ex : Nat → Nat) (fi : Nat → Nat → Int32) (fl : Nat → Nat → Int64) (vi : Nat → Int32) : va_W := [((a 0), .inr (12, ((.int 0) :: (.ref (ex 0)) :: (.int 0) :: (.int 0) :: (.int 0) :: (.int 0) :: (.ref (a 1)) :: (.ref (ex 1)) :: (.ref (ex 2)) :: (.ref (ex 3)) :: (.ref (ex 4)) :: (.int 0) :: (.int 0) :: (.int 0) :: (.int 0) :: (.int 0) :: (.int 0) :: (.long 0) :: (.int 0) :: (.int 0) :: (.int 0) :: (.ref (ex 5)) :: (.ref (ex 6)) :: (.int 0) :: (.ref (ex 7)) :: (.int (-1)) :: (.int 0) :: (.int 0) :: (.int 0) :: (.int 0) :: (.int 0) :: (.int 0) :: (.ref (ex 8)) :: (.int 0) :: (.ref (ex 9)) :: (.int 0) :: (.int 0) :: (.int 0) :: (.int 0) :: (.int 0) :: (.ref (ex 10)) :: (.ref (ex 11)) :: (.ref (ex 12)) :: (.ref (ex 13)) :: []))), ((a 1), .inl (T 1, 2187, .inl (fun _ => 0)))]
set_option maxHeartbeats 4000000 in
set_option maxRecDepth 100000 in
theorem c_X12_must (l : Launch) (D : va_G) (T : Nat → ClassId) (a ex : Nat → Nat) (fi : Nat → Nat → Int32) (fl : Nat → Nat → Int64) (vi : Nat → Int32) (sz : Nat) (hd0 : (0 ≤ (vi 0).toInt ∧ (vi 0).toInt ≤ 199)) : Met l yX12_must (xw yX12_must cX12_must 5 (some .int)) ({ frames := 1, cells := 0, slots := 0, locals := 26 }) (xP D T [.ref (a 0), .int (vi 0)] sz (pre_X12_must T a ex fi fl vi)) (va_Qi (fun r (_ : Unit) => r = 0) (xB D (va_A (pre_X12_must T a ex fi fl vi) sz) (fun _ => True) (fun b fj fm vj => [])) (va_A (pre_X12_must T a ex fi fl vi) sz)) 0 0 (va_A (pre_X12_must T a ex fi fl vi) sz) := by
  refine xofW (cc := cX12_must) (maxL := 5) (ret := (some .int)) (by decide) rfl ?_
  intro p e s m args below meth c s₁ R Q hR hQ B hml hv
  obtain ⟨rfl, hsz, hP, hK, hD0⟩ := hv
  have hx := B.exec
  have hb := B.bytes
  have hr := B.returns
  have hts := atoms_spec (ws := xw yX12_must cX12_must 5 (some .int)) B.pre
  have htg : ∀ w ∈ xg, w.before _ s = true := fun w h => hts w (List.mem_cons_of_mem _ h)
  have hown : s.vm.findClass RX12 = some m.cls := findClass_of_methodNamed B.named
  have hlocks := B.notSynchronized
  subst hsz
  have hD := hD0.self (sz := s.heap.size)
  generalize hAe : va_A (pre_X12_must T a ex fi fl vi) s.heap.size = A at hD hQ
  have hA : ∀ q : Nat, s.heap.size ≤ q → A q := fun q h => by rw [← hAe]; exact Or.inr h
  have hS : va_S A s.heap s.heap [] := va_S.rf
  replace hP : va_P D vwCl [((a 0), .inr (12, ((.int 0) :: (.ref (ex 0)) :: (.int 0) :: (.int 0) :: (.int 0) :: (.int 0) :: (.ref (a 1)) :: (.ref (ex 1)) :: (.ref (ex 2)) :: (.ref (ex 3)) :: (.ref (ex 4)) :: (.int 0) :: (.int 0) :: (.int 0) :: (.int 0) :: (.int 0) :: (.int 0) :: (.long 0) :: (.int 0) :: (.int 0) :: (.int 0) :: (.ref (ex 5)) :: (.ref (ex 6)) :: (.int 0) :: (.ref (ex 7)) :: (.int (-1)) :: (.int 0) :: (.int 0) :: (.int 0) :: (.int 0) :: (.int 0) :: (.int 0) :: (.ref (ex 8)) :: (.int 0) :: (.ref (ex 9)) :: (.int 0) :: (.int 0) :: (.int 0) :: (.int 0) :: (.int 0) :: (.ref (ex 10)) :: (.ref (ex 11)) :: (.ref (ex 12)) :: (.ref (ex 13)) :: []))), ((a 1), .inl (T 1, 2187, .inl (fun _ => 0)))] s.heap := hP
  replace hD : va_D A [((a 0), .inr (12, ((.int 0) :: (.ref (ex 0)) :: (.int 0) :: (.int 0) :: (.int 0) :: (.int 0) :: (.ref (a 1)) :: (.ref (ex 1)) :: (.ref (ex 2)) :: (.ref (ex 3)) :: (.ref (ex 4)) :: (.int 0) :: (.int 0) :: (.int 0) :: (.int 0) :: (.int 0) :: (.int 0) :: (.long 0) :: (.int 0) :: (.int 0) :: (.int 0) :: (.ref (ex 5)) :: (.ref (ex 6)) :: (.int 0) :: (.ref (ex 7)) :: (.int (-1)) :: (.int 0) :: (.int 0) :: (.int 0) :: (.int 0) :: (.int 0) :: (.int 0) :: (.ref (ex 8)) :: (.int 0) :: (.ref (ex 9)) :: (.int 0) :: (.int 0) :: (.int 0) :: (.int 0) :: (.int 0) :: (.ref (ex 10)) :: (.ref (ex 11)) :: (.ref (ex 12)) :: (.ref (ex 13)) :: []))), ((a 1), .inl (T 1, 2187, .inl (fun _ => 0)))] := hD
  have hl := lv_entry ([.ref (a 0), .int (vi 0)]) (n := 5) (Nat.le_of_ble_eq_true rfl)
  rw [lg_entry_eq]
  generalize (lg_sl ([.ref (a 0), .int (vi 0)]) ++ List.replicate (5 - (lg_sl ([.ref (a 0), .int (vi 0)])).length) Slot.unset).toArray = ls at hl ⊢
  replace hl : lv_has ls 5 [(0, .ref (a 0)), (1, .int (vi 0))] := hl
  refine lv_aload_n hx hb dX12_must_0 rfl (lv_at hl 0 rfl) ?_
  refine lv_iconst (v := 0) hx hb dX12_must_1 (by decide) ?_
  refine va_put (D := D) (ci := 12) (v := .int 0) (ty := .int) (C := RX12) (T := TX12) (N := 44) hx hb htg inX12 tyX12 tyX12_ok nmX12 hown hK.1 hP hD hS 0 rfl rfl 0 (by decide) (htg _ kw_1407) (fun _ h9 => h9) rfl (by decide +kernel) rfl rfl (Nat.le_of_ble_eq_true rfl) dX12_must_2 (fun H locs hP hD hS => ?_)
  replace hP : va_P D vwCl [((a 0), .inr (12, ((.int 0) :: (.ref (ex 0)) :: (.int 0) :: (.int 0) :: (.int 0) :: (.int 0) :: (.ref (a 1)) :: (.ref (ex 1)) :: (.ref (ex 2)) :: (.ref (ex 3)) :: (.ref (ex 4)) :: (.int 0) :: (.int 0) :: (.int 0) :: (.int 0) :: (.int 0) :: (.int 0) :: (.long 0) :: (.int 0) :: (.int 0) :: (.int 0) :: (.ref (ex 5)) :: (.ref (ex 6)) :: (.int 0) :: (.ref (ex 7)) :: (.int (-1)) :: (.int 0) :: (.int 0) :: (.int 0) :: (.int 0) :: (.int 0) :: (.int 0) :: (.ref (ex 8)) :: (.int 0) :: (.ref (ex 9)) :: (.int 0) :: (.int 0) :: (.int 0) :: (.int 0) :: (.int 0) :: (.ref (ex 10)) :: (.ref (ex 11)) :: (.ref (ex 12)) :: (.ref (ex 13)) :: []))), ((a 1), .inl (T 1, 2187, .inl (fun _ => 0)))] H := hP
  replace hD : va_D A [((a 0), .inr (12, ((.int 0) :: (.ref (ex 0)) :: (.int 0) :: (.int 0) :: (.int 0) :: (.int 0) :: (.ref (a 1)) :: (.ref (ex 1)) :: (.ref (ex 2)) :: (.ref (ex 3)) :: (.ref (ex 4)) :: (.int 0) :: (.int 0) :: (.int 0) :: (.int 0) :: (.int 0) :: (.int 0) :: (.long 0) :: (.int 0) :: (.int 0) :: (.int 0) :: (.ref (ex 5)) :: (.ref (ex 6)) :: (.int 0) :: (.ref (ex 7)) :: (.int (-1)) :: (.int 0) :: (.int 0) :: (.int 0) :: (.int 0) :: (.int 0) :: (.int 0) :: (.ref (ex 8)) :: (.int 0) :: (.ref (ex 9)) :: (.int 0) :: (.int 0) :: (.int 0) :: (.int 0) :: (.int 0) :: (.ref (ex 10)) :: (.ref (ex 11)) :: (.ref (ex 12)) :: (.ref (ex 13)) :: []))), ((a 1), .inl (T 1, 2187, .inl (fun _ => 0)))] := hD
  refine lv_iload_n hx hb dX12_must_5 rfl (lv_at hl 1 rfl) ?_
  refine lv_iconst (v := 0) hx hb dX12_must_6 (by decide) ?_
  refine lv_sipush (v := 199) hx hb dX12_must_7 (by decide) ?_
  have hPc := hP.sub (ws' := (pre_X12_isIn_5 T (xa []) (xa []) (xf []) (xh []) (xv [(vi 0)]))) [] rfl
  have hDc := hD.sub (ws' := (pre_X12_isIn_5 T (xa []) (xa []) (xf []) (xh []) (xv [(vi 0)]))) [] (by decide) rfl
  have hFc := va_free (wc := (pre_X12_isIn_5 T (xa []) (xa []) (xf []) (xh []) (xv [(vi 0)]))) hD hS hA [] rfl
  refine va_calli (va_runS (As := [.int (vi 0), .int 0, .int 199]) (rest := []) ⟨hx, hb, hml, hown, htg⟩ (c_X12_isIn_5 l D T (xa []) (xa []) (xf []) (xh []) (xv [(vi 0)]) H.size (by show (0 ≤ ((vi 0) : Int32).toInt ∧ ((vi 0) : Int32).toInt ≤ 199); omega)) ⟨callB_of 3 htg (xg_ok kw_1597) rfl rfl rfl (htg _ kw_17) (htg _ kw_1595) (by decide +kernel) ⟨by rw [hR]; exact Nat.le_of_ble_eq_true rfl, by rw [hR]; exact Nat.le_of_ble_eq_true rfl⟩, htg _ kw_1596⟩ (xpreS hK hPc hDc) rfl rfl hl.1 rfl (lv_room (Nat.le_of_ble_eq_true rfl)) dX12_must_10 ⟨by rw [hR]; exact Nat.le_of_ble_eq_true rfl, by rw [hR]; exact Nat.le_of_ble_eq_true rfl⟩) hS (fun q _ h => hFc q h) hFc (fun r9 u t H1 locs ht hvm hw hB hz1 hk1 hS => ?_)
  obtain ⟨bk, fik, flk, vik, hP1, hD1, hGk⟩ := hB
  rw [ht] at hP1
  obtain ⟨hP, hD⟩ := va_join (wr := [((a 0), .inr (12, ((.int 0) :: (.ref (ex 0)) :: (.int 0) :: (.int 0) :: (.int 0) :: (.int 0) :: (.ref (a 1)) :: (.ref (ex 1)) :: (.ref (ex 2)) :: (.ref (ex 3)) :: (.ref (ex 4)) :: (.int 0) :: (.int 0) :: (.int 0) :: (.int 0) :: (.int 0) :: (.int 0) :: (.long 0) :: (.int 0) :: (.int 0) :: (.int 0) :: (.ref (ex 5)) :: (.ref (ex 6)) :: (.int 0) :: (.ref (ex 7)) :: (.int (-1)) :: (.int 0) :: (.int 0) :: (.int 0) :: (.int 0) :: (.int 0) :: (.int 0) :: (.ref (ex 8)) :: (.int 0) :: (.ref (ex 9)) :: (.int 0) :: (.int 0) :: (.int 0) :: (.int 0) :: (.int 0) :: (.ref (ex 10)) :: (.ref (ex 11)) :: (.ref (ex 12)) :: (.ref (ex 13)) :: []))), ((a 1), .inl (T 1, 2187, .inl (fun _ => 0)))]) (w1 := []) hP hD [] [0, 1] rfl rfl (by decide) (by decide) hk1 hFc hP1 hD1
  subst hw
  clear hPc hDc hFc hP1 hD1 hk1 hz1 hvm ht
  generalize H1 = H at hP hS ⊢
  replace hP : va_P D vwCl [((a 0), .inr (12, ((.int 0) :: (.ref (ex 0)) :: (.int 0) :: (.int 0) :: (.int 0) :: (.int 0) :: (.ref (a 1)) :: (.ref (ex 1)) :: (.ref (ex 2)) :: (.ref (ex 3)) :: (.ref (ex 4)) :: (.int 0) :: (.int 0) :: (.int 0) :: (.int 0) :: (.int 0) :: (.int 0) :: (.long 0) :: (.int 0) :: (.int 0) :: (.int 0) :: (.ref (ex 5)) :: (.ref (ex 6)) :: (.int 0) :: (.ref (ex 7)) :: (.int (-1)) :: (.int 0) :: (.int 0) :: (.int 0) :: (.int 0) :: (.int 0) :: (.int 0) :: (.ref (ex 8)) :: (.int 0) :: (.ref (ex 9)) :: (.int 0) :: (.int 0) :: (.int 0) :: (.int 0) :: (.int 0) :: (.ref (ex 10)) :: (.ref (ex 11)) :: (.ref (ex 12)) :: (.ref (ex 13)) :: []))), ((a 1), .inl (T 1, 2187, .inl (fun _ => 0)))] H := hP
  replace hD : va_D A [((a 0), .inr (12, ((.int 0) :: (.ref (ex 0)) :: (.int 0) :: (.int 0) :: (.int 0) :: (.int 0) :: (.ref (a 1)) :: (.ref (ex 1)) :: (.ref (ex 2)) :: (.ref (ex 3)) :: (.ref (ex 4)) :: (.int 0) :: (.int 0) :: (.int 0) :: (.int 0) :: (.int 0) :: (.int 0) :: (.long 0) :: (.int 0) :: (.int 0) :: (.int 0) :: (.ref (ex 5)) :: (.ref (ex 6)) :: (.int 0) :: (.ref (ex 7)) :: (.int (-1)) :: (.int 0) :: (.int 0) :: (.int 0) :: (.int 0) :: (.int 0) :: (.int 0) :: (.ref (ex 8)) :: (.int 0) :: (.ref (ex 9)) :: (.int 0) :: (.int 0) :: (.int 0) :: (.int 0) :: (.int 0) :: (.ref (ex 10)) :: (.ref (ex 11)) :: (.ref (ex 12)) :: (.ref (ex 13)) :: []))), ((a 1), .inl (T 1, 2187, .inl (fun _ => 0)))] := hD
  refine lv_if_ne (tgt := 18) hx hb dX12_must_13 (by decide) (fun _ => ?_) (fun c => absurd c (by decide))
  refine lv_iconst (v := 0) hx hb dX12_must_18 (by decide) ?_
  refine lv_istore_n (lv' := [(2, .int 0), (0, .ref (a 0)), (1, .int (vi 0))]) hx hb dX12_must_19 rfl hl (by decide) rfl (fun ls hl => ?_)
  refine lv_iconst (v := 0) hx hb dX12_must_20 (by decide) ?_
  refine lv_istore_n (lv' := [(3, .int 0), (2, .int 0), (0, .ref (a 0)), (1, .int (vi 0))]) hx hb dX12_must_21 rfl hl (by decide) rfl (fun ls hl => ?_)
  refine lv_iload_n hx hb dX12_must_22 rfl (lv_at hl 0 rfl) ?_
  refine lv_aload_n hx hb dX12_must_23 rfl (lv_at hl 2 rfl) ?_
  refine va_get (D := D) (ci := 12) (v := .ref (a 1)) (C := RX12) (T := TX12) (N := 44) hx hb htg inX12 hown hK.1 hP 0 rfl rfl 6 (by decide) (htg _ kw_1413) (fun _ h9 => h9) rfl dX12_must_24 ?_
  refine lv_iconst (v := 0) hx hb dX12_must_27 (by decide) ?_
  refine va_iald hx hb hK.1 hP 1 1 rfl rfl (vp_in_nI (n := 0) (by decide) (by decide)) dX12_must_28 ?_
  refine xz_i 0 rfl ?_
  refine lv_icmp_ge (tgt := 91) hx hb dX12_must_29 (by decide) (fun _ => ?_) (fun c => absurd (by decide) c)
  refine lv_iload_n hx hb dX12_must_91 rfl (lv_at hl 1 rfl) ?_
  have hP9 := hP.sub (ws' := []) [] rfl
  have hD9 := hD.sub (ws' := []) [] (by decide) rfl
  rw [hQ]
  exact W.iret (v := 0) hx hb hr (fun t ht hW => ⟨⟨0, (), rfl, rfl, ⟨xa [], xf [], xh [], xv [], by rw [ht]; exact hP9, hD9, trivial⟩⟩, hS.F ht⟩) hS.2.2 dX12_must_92
abbrev pre_X12_isIn_6 (T : Nat → ClassId) (a ex : Nat → Nat) (fi : Nat → Nat → Int32) (fl : Nat → Nat → Int64) (vi : Nat → Int32) : va_W := []
set_option maxHeartbeats 4000000 in
set_option maxRecDepth 100000 in
theorem c_X12_isIn_6 (l : Launch) (D : va_G) (T : Nat → ClassId) (a ex : Nat → Nat) (fi : Nat → Nat → Int32) (fl : Nat → Nat → Int64) (vi : Nat → Int32) (sz : Nat) (hd0 : (vi 0).toInt ≤ -1 ∨ 200 ≤ (vi 0).toInt) : Met l yX12_isIn (xw yX12_isIn cX12_isIn 3 (some .boolean)) ({ frames := 0, cells := 0, slots := 0, locals := 0 }) (xP D T [.int (vi 0), .int 0, .int 199] sz (pre_X12_isIn_6 T a ex fi fl vi)) (va_Qi (fun r (_ : Unit) => r = 0) (xB D (va_A (pre_X12_isIn_6 T a ex fi fl vi) sz) (fun _ => True) (fun b fj fm vj => [])) (va_A (pre_X12_isIn_6 T a ex fi fl vi) sz)) 0 0 (va_A (pre_X12_isIn_6 T a ex fi fl vi) sz) := by
  refine xofW (cc := cX12_isIn) (maxL := 3) (ret := (some .boolean)) (by decide) rfl ?_
  intro p e s m args below meth c s₁ R Q hR hQ B hml hv
  obtain ⟨rfl, hsz, hP, hK, hD0⟩ := hv
  have hx := B.exec
  have hb := B.bytes
  have hr := B.returns
  have hts := atoms_spec (ws := xw yX12_isIn cX12_isIn 3 (some .boolean)) B.pre
  have htg : ∀ w ∈ xg, w.before _ s = true := fun w h => hts w (List.mem_cons_of_mem _ h)
  have hown : s.vm.findClass RX12 = some m.cls := findClass_of_methodNamed B.named
  have hlocks := B.notSynchronized
  subst hsz
  have hD := hD0.self (sz := s.heap.size)
  generalize hAe : va_A (pre_X12_isIn_6 T a ex fi fl vi) s.heap.size = A at hD hQ
  have hA : ∀ q : Nat, s.heap.size ≤ q → A q := fun q h => by rw [← hAe]; exact Or.inr h
  have hS : va_S A s.heap s.heap [] := va_S.rf
  replace hP : va_P D vwCl [] s.heap := hP
  replace hD : va_D A [] := hD
  have hl := lv_entry ([.int (vi 0), .int 0, .int 199]) (n := 3) (Nat.le_of_ble_eq_true rfl)
  rw [lg_entry_eq]
  generalize (lg_sl ([.int (vi 0), .int 0, .int 199]) ++ List.replicate (3 - (lg_sl ([.int (vi 0), .int 0, .int 199])).length) Slot.unset).toArray = ls at hl ⊢
  replace hl : lv_has ls 3 [(0, .int (vi 0)), (1, .int 0), (2, .int 199)] := hl
  refine lv_iload_n hx hb dX12_isIn_0 rfl (lv_at hl 0 rfl) ?_
  refine lv_iload_n hx hb dX12_isIn_1 rfl (lv_at hl 1 rfl) ?_
  refine lv_icmp_lt (tgt := 14) hx hb dX12_isIn_2 (by decide) (fun c2 => ?_) (fun c2 => ?_)
  · have c2 := xlt (k := 0) (by decide) c2
    refine lv_iconst (v := 0) hx hb dX12_isIn_14 (by decide) ?_
    have hP9 := hP.sub (ws' := []) [] rfl
    have hD9 := hD.sub (ws' := []) [] (by decide +kernel) rfl
    rw [hQ]
    exact W.zret (v := 0) hx hb hr rfl (fun t ht hW => ⟨⟨0, (), rfl, rfl, ⟨xa [], xf [], xh [], xv [], by rw [ht]; exact hP9, hD9, trivial⟩⟩, hS.F ht⟩) hS.2.2 dX12_isIn_15
  · have c2 := xnlt (k := 0) (by decide) c2
    refine lv_iload_n hx hb dX12_isIn_5 rfl (lv_at hl 0 rfl) ?_
    refine lv_iload_n hx hb dX12_isIn_6 rfl (lv_at hl 2 rfl) ?_
    refine lv_icmp_gt (tgt := 14) hx hb dX12_isIn_7 (by decide) (fun _ => ?_) (fun c => by exfalso; have h9 := xngt (k := 199) (by decide) c; omega)
    refine lv_iconst (v := 0) hx hb dX12_isIn_14 (by decide) ?_
    have hP9 := hP.sub (ws' := []) [] rfl
    have hD9 := hD.sub (ws' := []) [] (by decide +kernel) rfl
    rw [hQ]
    exact W.zret (v := 0) hx hb hr rfl (fun t ht hW => ⟨⟨0, (), rfl, rfl, ⟨xa [], xf [], xh [], xv [], by rw [ht]; exact hP9, hD9, trivial⟩⟩, hS.F ht⟩) hS.2.2 dX12_isIn_15
abbrev pre_X12_must_2 (T : Nat → ClassId) (a ex : Nat → Nat) (fi : Nat → Nat → Int32) (fl : Nat → Nat → Int64) (vi : Nat → Int32) : va_W := [((a 0), .inr (12, ((.int 0) :: (.ref (ex 0)) :: (.int 0) :: (.int 0) :: (.int 0) :: (.int 0) :: (.ref (ex 1)) :: (.ref (ex 2)) :: (.ref (ex 3)) :: (.ref (ex 4)) :: (.ref (ex 5)) :: (.int 0) :: (.int 0) :: (.int 0) :: (.int 0) :: (.int 0) :: (.int 0) :: (.long 0) :: (.int 0) :: (.int 0) :: (.int 0) :: (.ref (ex 6)) :: (.ref (ex 7)) :: (.int 0) :: (.ref (ex 8)) :: (.int (-1)) :: (.int 0) :: (.int 0) :: (.int 0) :: (.int 0) :: (.int 0) :: (.int 0) :: (.ref (ex 9)) :: (.int 0) :: (.ref (ex 10)) :: (.int 0) :: (.int 0) :: (.int 0) :: (.int 0) :: (.int 0) :: (.ref (ex 11)) :: (.ref (ex 12)) :: (.ref (ex 13)) :: (.ref (ex 14)) :: [])))]
set_option maxHeartbeats 4000000 in
set_option maxRecDepth 100000 in
theorem c_X12_must_2 (l : Launch) (D : va_G) (T : Nat → ClassId) (a ex : Nat → Nat) (fi : Nat → Nat → Int32) (fl : Nat → Nat → Int64) (vi : Nat → Int32) (sz : Nat) (hd0 : (vi 0).toInt ≤ -1 ∨ 200 ≤ (vi 0).toInt) : Met l yX12_must (xw yX12_must cX12_must 5 (some .int)) ({ frames := 1, cells := 0, slots := 0, locals := 26 }) (xP D T [.ref (a 0), .int (vi 0)] sz (pre_X12_must_2 T a ex fi fl vi)) (va_Qi (fun r (_ : Unit) => r = (-1)) (xB D (va_A (pre_X12_must_2 T a ex fi fl vi) sz) (fun _ => True) (fun b fj fm vj => [])) (va_A (pre_X12_must_2 T a ex fi fl vi) sz)) 0 0 (va_A (pre_X12_must_2 T a ex fi fl vi) sz) := by
  refine xofW (cc := cX12_must) (maxL := 5) (ret := (some .int)) (by decide) rfl ?_
  intro p e s m args below meth c s₁ R Q hR hQ B hml hv
  obtain ⟨rfl, hsz, hP, hK, hD0⟩ := hv
  have hx := B.exec
  have hb := B.bytes
  have hr := B.returns
  have hts := atoms_spec (ws := xw yX12_must cX12_must 5 (some .int)) B.pre
  have htg : ∀ w ∈ xg, w.before _ s = true := fun w h => hts w (List.mem_cons_of_mem _ h)
  have hown : s.vm.findClass RX12 = some m.cls := findClass_of_methodNamed B.named
  have hlocks := B.notSynchronized
  subst hsz
  have hD := hD0.self (sz := s.heap.size)
  generalize hAe : va_A (pre_X12_must_2 T a ex fi fl vi) s.heap.size = A at hD hQ
  have hA : ∀ q : Nat, s.heap.size ≤ q → A q := fun q h => by rw [← hAe]; exact Or.inr h
  have hS : va_S A s.heap s.heap [] := va_S.rf
  replace hP : va_P D vwCl [((a 0), .inr (12, ((.int 0) :: (.ref (ex 0)) :: (.int 0) :: (.int 0) :: (.int 0) :: (.int 0) :: (.ref (ex 1)) :: (.ref (ex 2)) :: (.ref (ex 3)) :: (.ref (ex 4)) :: (.ref (ex 5)) :: (.int 0) :: (.int 0) :: (.int 0) :: (.int 0) :: (.int 0) :: (.int 0) :: (.long 0) :: (.int 0) :: (.int 0) :: (.int 0) :: (.ref (ex 6)) :: (.ref (ex 7)) :: (.int 0) :: (.ref (ex 8)) :: (.int (-1)) :: (.int 0) :: (.int 0) :: (.int 0) :: (.int 0) :: (.int 0) :: (.int 0) :: (.ref (ex 9)) :: (.int 0) :: (.ref (ex 10)) :: (.int 0) :: (.int 0) :: (.int 0) :: (.int 0) :: (.int 0) :: (.ref (ex 11)) :: (.ref (ex 12)) :: (.ref (ex 13)) :: (.ref (ex 14)) :: [])))] s.heap := hP
  replace hD : va_D A [((a 0), .inr (12, ((.int 0) :: (.ref (ex 0)) :: (.int 0) :: (.int 0) :: (.int 0) :: (.int 0) :: (.ref (ex 1)) :: (.ref (ex 2)) :: (.ref (ex 3)) :: (.ref (ex 4)) :: (.ref (ex 5)) :: (.int 0) :: (.int 0) :: (.int 0) :: (.int 0) :: (.int 0) :: (.int 0) :: (.long 0) :: (.int 0) :: (.int 0) :: (.int 0) :: (.ref (ex 6)) :: (.ref (ex 7)) :: (.int 0) :: (.ref (ex 8)) :: (.int (-1)) :: (.int 0) :: (.int 0) :: (.int 0) :: (.int 0) :: (.int 0) :: (.int 0) :: (.ref (ex 9)) :: (.int 0) :: (.ref (ex 10)) :: (.int 0) :: (.int 0) :: (.int 0) :: (.int 0) :: (.int 0) :: (.ref (ex 11)) :: (.ref (ex 12)) :: (.ref (ex 13)) :: (.ref (ex 14)) :: [])))] := hD
  have hl := lv_entry ([.ref (a 0), .int (vi 0)]) (n := 5) (Nat.le_of_ble_eq_true rfl)
  rw [lg_entry_eq]
  generalize (lg_sl ([.ref (a 0), .int (vi 0)]) ++ List.replicate (5 - (lg_sl ([.ref (a 0), .int (vi 0)])).length) Slot.unset).toArray = ls at hl ⊢
  replace hl : lv_has ls 5 [(0, .ref (a 0)), (1, .int (vi 0))] := hl
  refine lv_aload_n hx hb dX12_must_0 rfl (lv_at hl 0 rfl) ?_
  refine lv_iconst (v := 0) hx hb dX12_must_1 (by decide) ?_
  refine va_put (D := D) (ci := 12) (v := .int 0) (ty := .int) (C := RX12) (T := TX12) (N := 44) hx hb htg inX12 tyX12 tyX12_ok nmX12 hown hK.1 hP hD hS 0 rfl rfl 0 (by decide) (htg _ kw_1407) (fun _ h9 => h9) rfl (by decide +kernel) rfl rfl (Nat.le_of_ble_eq_true rfl) dX12_must_2 (fun H locs hP hD hS => ?_)
  replace hP : va_P D vwCl [((a 0), .inr (12, ((.int 0) :: (.ref (ex 0)) :: (.int 0) :: (.int 0) :: (.int 0) :: (.int 0) :: (.ref (ex 1)) :: (.ref (ex 2)) :: (.ref (ex 3)) :: (.ref (ex 4)) :: (.ref (ex 5)) :: (.int 0) :: (.int 0) :: (.int 0) :: (.int 0) :: (.int 0) :: (.int 0) :: (.long 0) :: (.int 0) :: (.int 0) :: (.int 0) :: (.ref (ex 6)) :: (.ref (ex 7)) :: (.int 0) :: (.ref (ex 8)) :: (.int (-1)) :: (.int 0) :: (.int 0) :: (.int 0) :: (.int 0) :: (.int 0) :: (.int 0) :: (.ref (ex 9)) :: (.int 0) :: (.ref (ex 10)) :: (.int 0) :: (.int 0) :: (.int 0) :: (.int 0) :: (.int 0) :: (.ref (ex 11)) :: (.ref (ex 12)) :: (.ref (ex 13)) :: (.ref (ex 14)) :: [])))] H := hP
  replace hD : va_D A [((a 0), .inr (12, ((.int 0) :: (.ref (ex 0)) :: (.int 0) :: (.int 0) :: (.int 0) :: (.int 0) :: (.ref (ex 1)) :: (.ref (ex 2)) :: (.ref (ex 3)) :: (.ref (ex 4)) :: (.ref (ex 5)) :: (.int 0) :: (.int 0) :: (.int 0) :: (.int 0) :: (.int 0) :: (.int 0) :: (.long 0) :: (.int 0) :: (.int 0) :: (.int 0) :: (.ref (ex 6)) :: (.ref (ex 7)) :: (.int 0) :: (.ref (ex 8)) :: (.int (-1)) :: (.int 0) :: (.int 0) :: (.int 0) :: (.int 0) :: (.int 0) :: (.int 0) :: (.ref (ex 9)) :: (.int 0) :: (.ref (ex 10)) :: (.int 0) :: (.int 0) :: (.int 0) :: (.int 0) :: (.int 0) :: (.ref (ex 11)) :: (.ref (ex 12)) :: (.ref (ex 13)) :: (.ref (ex 14)) :: [])))] := hD
  refine lv_iload_n hx hb dX12_must_5 rfl (lv_at hl 1 rfl) ?_
  refine lv_iconst (v := 0) hx hb dX12_must_6 (by decide) ?_
  refine lv_sipush (v := 199) hx hb dX12_must_7 (by decide) ?_
  have hPc := hP.sub (ws' := (pre_X12_isIn_6 T (xa []) (xa []) (xf []) (xh []) (xv [(vi 0)]))) [] rfl
  have hDc := hD.sub (ws' := (pre_X12_isIn_6 T (xa []) (xa []) (xf []) (xh []) (xv [(vi 0)]))) [] (by decide) rfl
  have hFc := va_free (wc := (pre_X12_isIn_6 T (xa []) (xa []) (xf []) (xh []) (xv [(vi 0)]))) hD hS hA [] rfl
  refine va_calli (va_runS (As := [.int (vi 0), .int 0, .int 199]) (rest := []) ⟨hx, hb, hml, hown, htg⟩ (c_X12_isIn_6 l D T (xa []) (xa []) (xf []) (xh []) (xv [(vi 0)]) H.size (by show ((vi 0) : Int32).toInt ≤ -1 ∨ 200 ≤ ((vi 0) : Int32).toInt; omega)) ⟨callB_of 3 htg (xg_ok kw_1597) rfl rfl rfl (htg _ kw_17) (htg _ kw_1595) (by decide +kernel) ⟨by rw [hR]; exact Nat.le_of_ble_eq_true rfl, by rw [hR]; exact Nat.le_of_ble_eq_true rfl⟩, htg _ kw_1596⟩ (xpreS hK hPc hDc) rfl rfl hl.1 rfl (lv_room (Nat.le_of_ble_eq_true rfl)) dX12_must_10 ⟨by rw [hR]; exact Nat.le_of_ble_eq_true rfl, by rw [hR]; exact Nat.le_of_ble_eq_true rfl⟩) hS (fun q _ h => hFc q h) hFc (fun r9 u t H1 locs ht hvm hw hB hz1 hk1 hS => ?_)
  obtain ⟨bk, fik, flk, vik, hP1, hD1, hGk⟩ := hB
  rw [ht] at hP1
  obtain ⟨hP, hD⟩ := va_join (wr := [((a 0), .inr (12, ((.int 0) :: (.ref (ex 0)) :: (.int 0) :: (.int 0) :: (.int 0) :: (.int 0) :: (.ref (ex 1)) :: (.ref (ex 2)) :: (.ref (ex 3)) :: (.ref (ex 4)) :: (.ref (ex 5)) :: (.int 0) :: (.int 0) :: (.int 0) :: (.int 0) :: (.int 0) :: (.int 0) :: (.long 0) :: (.int 0) :: (.int 0) :: (.int 0) :: (.ref (ex 6)) :: (.ref (ex 7)) :: (.int 0) :: (.ref (ex 8)) :: (.int (-1)) :: (.int 0) :: (.int 0) :: (.int 0) :: (.int 0) :: (.int 0) :: (.int 0) :: (.ref (ex 9)) :: (.int 0) :: (.ref (ex 10)) :: (.int 0) :: (.int 0) :: (.int 0) :: (.int 0) :: (.int 0) :: (.ref (ex 11)) :: (.ref (ex 12)) :: (.ref (ex 13)) :: (.ref (ex 14)) :: [])))]) (w1 := []) hP hD [] [0] rfl rfl (by decide) (by decide) hk1 hFc hP1 hD1
  subst hw
  clear hPc hDc hFc hP1 hD1 hk1 hz1 hvm ht
  generalize H1 = H at hP hS ⊢
  replace hP : va_P D vwCl [((a 0), .inr (12, ((.int 0) :: (.ref (ex 0)) :: (.int 0) :: (.int 0) :: (.int 0) :: (.int 0) :: (.ref (ex 1)) :: (.ref (ex 2)) :: (.ref (ex 3)) :: (.ref (ex 4)) :: (.ref (ex 5)) :: (.int 0) :: (.int 0) :: (.int 0) :: (.int 0) :: (.int 0) :: (.int 0) :: (.long 0) :: (.int 0) :: (.int 0) :: (.int 0) :: (.ref (ex 6)) :: (.ref (ex 7)) :: (.int 0) :: (.ref (ex 8)) :: (.int (-1)) :: (.int 0) :: (.int 0) :: (.int 0) :: (.int 0) :: (.int 0) :: (.int 0) :: (.ref (ex 9)) :: (.int 0) :: (.ref (ex 10)) :: (.int 0) :: (.int 0) :: (.int 0) :: (.int 0) :: (.int 0) :: (.ref (ex 11)) :: (.ref (ex 12)) :: (.ref (ex 13)) :: (.ref (ex 14)) :: [])))] H := hP
  replace hD : va_D A [((a 0), .inr (12, ((.int 0) :: (.ref (ex 0)) :: (.int 0) :: (.int 0) :: (.int 0) :: (.int 0) :: (.ref (ex 1)) :: (.ref (ex 2)) :: (.ref (ex 3)) :: (.ref (ex 4)) :: (.ref (ex 5)) :: (.int 0) :: (.int 0) :: (.int 0) :: (.int 0) :: (.int 0) :: (.int 0) :: (.long 0) :: (.int 0) :: (.int 0) :: (.int 0) :: (.ref (ex 6)) :: (.ref (ex 7)) :: (.int 0) :: (.ref (ex 8)) :: (.int (-1)) :: (.int 0) :: (.int 0) :: (.int 0) :: (.int 0) :: (.int 0) :: (.int 0) :: (.ref (ex 9)) :: (.int 0) :: (.ref (ex 10)) :: (.int 0) :: (.int 0) :: (.int 0) :: (.int 0) :: (.int 0) :: (.ref (ex 11)) :: (.ref (ex 12)) :: (.ref (ex 13)) :: (.ref (ex 14)) :: [])))] := hD
  refine lv_if_ne (tgt := 18) hx hb dX12_must_13 (by decide) (fun c => absurd (by decide) c) (fun _ => ?_)
  refine lv_iconst (v := (-1)) hx hb dX12_must_16 (by decide) ?_
  have hP9 := hP.sub (ws' := []) [] rfl
  have hD9 := hD.sub (ws' := []) [] (by decide) rfl
  rw [hQ]
  exact W.iret (v := (-1)) hx hb hr (fun t ht hW => ⟨⟨(-1), (), rfl, rfl, ⟨xa [], xf [], xh [], xv [], by rw [ht]; exact hP9, hD9, trivial⟩⟩, hS.F ht⟩) hS.2.2 dX12_must_17
abbrev pre_X12_taken_2 (T : Nat → ClassId) (a ex : Nat → Nat) (fi : Nat → Nat → Int32) (fl : Nat → Nat → Int64) (vi : Nat → Int32) : va_W := [((a 0), .inr (12, ((.int 0) :: (.ref (ex 0)) :: (.int 0) :: (.int 0) :: (.int 0) :: (.int 0) :: (.ref (ex 1)) :: (.ref (ex 2)) :: (.ref (ex 3)) :: (.ref (ex 4)) :: (.ref (ex 5)) :: (.int 0) :: (.int 0) :: (.int 0) :: (.int 0) :: (.int 0) :: (.int 0) :: (.long 0) :: (.int 0) :: (.int 0) :: (.int 0) :: (.ref (ex 6)) :: (.ref (ex 7)) :: (.int 0) :: (.ref (ex 8)) :: (.int (-1)) :: (.int 0) :: (.int 0) :: (.int 0) :: (.int 0) :: (.int 0) :: (.int 0) :: (.ref (ex 9)) :: (.int 0) :: (.ref (ex 10)) :: (.int 0) :: (.int 0) :: (.int 0) :: (.int 0) :: (.int 0) :: (.ref (ex 11)) :: (.ref (ex 12)) :: (.ref (ex 13)) :: (.ref (ex 14)) :: [])))]
set_option maxHeartbeats 4000000 in
set_option maxRecDepth 100000 in
theorem c_X12_taken_2 (l : Launch) (D : va_G) (T : Nat → ClassId) (a ex : Nat → Nat) (fi : Nat → Nat → Int32) (fl : Nat → Nat → Int64) (vi : Nat → Int32) (sz : Nat) : Met l yX12_taken (xw yX12_taken cX12_taken 2 none) ({ frames := 0, cells := 0, slots := 0, locals := 0 }) (xP D T [.ref (a 0), .int 940] sz (pre_X12_taken_2 T a ex fi fl vi)) (va_Qv (fun _ : Unit => True) (xB D (va_A (pre_X12_taken_2 T a ex fi fl vi) sz) (fun _ => True) (fun b fj fm vj => [((a 0), .inr (12, ((.int 0) :: (.ref (ex 0)) :: (.int 0) :: (.int 0) :: (.int 0) :: (.int 940) :: (.ref (ex 1)) :: (.ref (ex 2)) :: (.ref (ex 3)) :: (.ref (ex 4)) :: (.ref (ex 5)) :: (.int 0) :: (.int 0) :: (.int 0) :: (.int 0) :: (.int 0) :: (.int 0) :: (.long 0) :: (.int 0) :: (.int 0) :: (.int 0) :: (.ref (ex 6)) :: (.ref (ex 7)) :: (.int 0) :: (.ref (ex 8)) :: (.int (-1)) :: (.int 0) :: (.int 0) :: (.int 0) :: (.int 0) :: (.int 0) :: (.int 0) :: (.ref (ex 9)) :: (.int 0) :: (.ref (ex 10)) :: (.int 0) :: (.int 0) :: (.int 0) :: (.int 0) :: (.int 0) :: (.ref (ex 11)) :: (.ref (ex 12)) :: (.ref (ex 13)) :: (.ref (ex 14)) :: [])))])) (va_A (pre_X12_taken_2 T a ex fi fl vi) sz)) 0 0 (va_A (pre_X12_taken_2 T a ex fi fl vi) sz) := by
  refine xofW (cc := cX12_taken) (maxL := 2) (ret := none) (by decide) rfl ?_
  intro p e s m args below meth c s₁ R Q hR hQ B hml hv
  obtain ⟨rfl, hsz, hP, hK, hD0⟩ := hv
  have hx := B.exec
  have hb := B.bytes
  have hr := B.returns
  have hts := atoms_spec (ws := xw yX12_taken cX12_taken 2 none) B.pre
  have htg : ∀ w ∈ xg, w.before _ s = true := fun w h => hts w (List.mem_cons_of_mem _ h)
  have hown : s.vm.findClass RX12 = some m.cls := findClass_of_methodNamed B.named
  have hlocks := B.notSynchronized
  subst hsz
  have hD := hD0.self (sz := s.heap.size)
  generalize hAe : va_A (pre_X12_taken_2 T a ex fi fl vi) s.heap.size = A at hD hQ
  have hA : ∀ q : Nat, s.heap.size ≤ q → A q := fun q h => by rw [← hAe]; exact Or.inr h
  have hS : va_S A s.heap s.heap [] := va_S.rf
  replace hP : va_P D vwCl [((a 0), .inr (12, ((.int 0) :: (.ref (ex 0)) :: (.int 0) :: (.int 0) :: (.int 0) :: (.int 0) :: (.ref (ex 1)) :: (.ref (ex 2)) :: (.ref (ex 3)) :: (.ref (ex 4)) :: (.ref (ex 5)) :: (.int 0) :: (.int 0) :: (.int 0) :: (.int 0) :: (.int 0) :: (.int 0) :: (.long 0) :: (.int 0) :: (.int 0) :: (.int 0) :: (.ref (ex 6)) :: (.ref (ex 7)) :: (.int 0) :: (.ref (ex 8)) :: (.int (-1)) :: (.int 0) :: (.int 0) :: (.int 0) :: (.int 0) :: (.int 0) :: (.int 0) :: (.ref (ex 9)) :: (.int 0) :: (.ref (ex 10)) :: (.int 0) :: (.int 0) :: (.int 0) :: (.int 0) :: (.int 0) :: (.ref (ex 11)) :: (.ref (ex 12)) :: (.ref (ex 13)) :: (.ref (ex 14)) :: [])))] s.heap := hP
  replace hD : va_D A [((a 0), .inr (12, ((.int 0) :: (.ref (ex 0)) :: (.int 0) :: (.int 0) :: (.int 0) :: (.int 0) :: (.ref (ex 1)) :: (.ref (ex 2)) :: (.ref (ex 3)) :: (.ref (ex 4)) :: (.ref (ex 5)) :: (.int 0) :: (.int 0) :: (.int 0) :: (.int 0) :: (.int 0) :: (.int 0) :: (.long 0) :: (.int 0) :: (.int 0) :: (.int 0) :: (.ref (ex 6)) :: (.ref (ex 7)) :: (.int 0) :: (.ref (ex 8)) :: (.int (-1)) :: (.int 0) :: (.int 0) :: (.int 0) :: (.int 0) :: (.int 0) :: (.int 0) :: (.ref (ex 9)) :: (.int 0) :: (.ref (ex 10)) :: (.int 0) :: (.int 0) :: (.int 0) :: (.int 0) :: (.int 0) :: (.ref (ex 11)) :: (.ref (ex 12)) :: (.ref (ex 13)) :: (.ref (ex 14)) :: [])))] := hD
  have hl := lv_entry ([.ref (a 0), .int 940]) (n := 2) (Nat.le_of_ble_eq_true rfl)
  rw [lg_entry_eq]
  generalize (lg_sl ([.ref (a 0), .int 940]) ++ List.replicate (2 - (lg_sl ([.ref (a 0), .int 940])).length) Slot.unset).toArray = ls at hl ⊢
  replace hl : lv_has ls 2 [(0, .ref (a 0)), (1, .int 940)] := hl
  refine lv_aload_n hx hb dX12_taken_0 rfl (lv_at hl 0 rfl) ?_
  refine lv_aload_n hx hb dX12_taken_1 rfl (lv_at hl 0 rfl) ?_
  refine va_get (D := D) (ci := 12) (v := .int 0) (C := RX12) (T := TX12) (N := 44) hx hb htg inX12 hown hK.1 hP 0 rfl rfl 2 (by decide) (htg _ kw_1409) (fun _ h9 => h9) rfl dX12_taken_2 ?_
  refine va_put (D := D) (ci := 12) (v := .int 0) (ty := .int) (C := RX12) (T := TX12) (N := 44) hx hb htg inX12 tyX12 tyX12_ok nmX12 hown hK.1 hP hD hS 0 rfl rfl 3 (by decide) (htg _ kw_1410) (fun _ h9 => h9) rfl (by decide +kernel) rfl rfl (Nat.le_of_ble_eq_true rfl) dX12_taken_5 (fun H locs hP hD hS => ?_)
  replace hP : va_P D vwCl [((a 0), .inr (12, ((.int 0) :: (.ref (ex 0)) :: (.int 0) :: (.int 0) :: (.int 0) :: (.int 0) :: (.ref (ex 1)) :: (.ref (ex 2)) :: (.ref (ex 3)) :: (.ref (ex 4)) :: (.ref (ex 5)) :: (.int 0) :: (.int 0) :: (.int 0) :: (.int 0) :: (.int 0) :: (.int 0) :: (.long 0) :: (.int 0) :: (.int 0) :: (.int 0) :: (.ref (ex 6)) :: (.ref (ex 7)) :: (.int 0) :: (.ref (ex 8)) :: (.int (-1)) :: (.int 0) :: (.int 0) :: (.int 0) :: (.int 0) :: (.int 0) :: (.int 0) :: (.ref (ex 9)) :: (.int 0) :: (.ref (ex 10)) :: (.int 0) :: (.int 0) :: (.int 0) :: (.int 0) :: (.int 0) :: (.ref (ex 11)) :: (.ref (ex 12)) :: (.ref (ex 13)) :: (.ref (ex 14)) :: [])))] H := hP
  replace hD : va_D A [((a 0), .inr (12, ((.int 0) :: (.ref (ex 0)) :: (.int 0) :: (.int 0) :: (.int 0) :: (.int 0) :: (.ref (ex 1)) :: (.ref (ex 2)) :: (.ref (ex 3)) :: (.ref (ex 4)) :: (.ref (ex 5)) :: (.int 0) :: (.int 0) :: (.int 0) :: (.int 0) :: (.int 0) :: (.int 0) :: (.long 0) :: (.int 0) :: (.int 0) :: (.int 0) :: (.ref (ex 6)) :: (.ref (ex 7)) :: (.int 0) :: (.ref (ex 8)) :: (.int (-1)) :: (.int 0) :: (.int 0) :: (.int 0) :: (.int 0) :: (.int 0) :: (.int 0) :: (.ref (ex 9)) :: (.int 0) :: (.ref (ex 10)) :: (.int 0) :: (.int 0) :: (.int 0) :: (.int 0) :: (.int 0) :: (.ref (ex 11)) :: (.ref (ex 12)) :: (.ref (ex 13)) :: (.ref (ex 14)) :: [])))] := hD
  refine lv_aload_n hx hb dX12_taken_8 rfl (lv_at hl 0 rfl) ?_
  refine lv_iconst (v := 0) hx hb dX12_taken_9 (by decide) ?_
  refine va_put (D := D) (ci := 12) (v := .int 0) (ty := .int) (C := RX12) (T := TX12) (N := 44) hx hb htg inX12 tyX12 tyX12_ok nmX12 hown hK.1 hP hD hS 0 rfl rfl 2 (by decide) (htg _ kw_1409) (fun _ h9 => h9) rfl (by decide +kernel) rfl rfl (Nat.le_of_ble_eq_true rfl) dX12_taken_10 (fun H locs hP hD hS => ?_)
  replace hP : va_P D vwCl [((a 0), .inr (12, ((.int 0) :: (.ref (ex 0)) :: (.int 0) :: (.int 0) :: (.int 0) :: (.int 0) :: (.ref (ex 1)) :: (.ref (ex 2)) :: (.ref (ex 3)) :: (.ref (ex 4)) :: (.ref (ex 5)) :: (.int 0) :: (.int 0) :: (.int 0) :: (.int 0) :: (.int 0) :: (.int 0) :: (.long 0) :: (.int 0) :: (.int 0) :: (.int 0) :: (.ref (ex 6)) :: (.ref (ex 7)) :: (.int 0) :: (.ref (ex 8)) :: (.int (-1)) :: (.int 0) :: (.int 0) :: (.int 0) :: (.int 0) :: (.int 0) :: (.int 0) :: (.ref (ex 9)) :: (.int 0) :: (.ref (ex 10)) :: (.int 0) :: (.int 0) :: (.int 0) :: (.int 0) :: (.int 0) :: (.ref (ex 11)) :: (.ref (ex 12)) :: (.ref (ex 13)) :: (.ref (ex 14)) :: [])))] H := hP
  replace hD : va_D A [((a 0), .inr (12, ((.int 0) :: (.ref (ex 0)) :: (.int 0) :: (.int 0) :: (.int 0) :: (.int 0) :: (.ref (ex 1)) :: (.ref (ex 2)) :: (.ref (ex 3)) :: (.ref (ex 4)) :: (.ref (ex 5)) :: (.int 0) :: (.int 0) :: (.int 0) :: (.int 0) :: (.int 0) :: (.int 0) :: (.long 0) :: (.int 0) :: (.int 0) :: (.int 0) :: (.ref (ex 6)) :: (.ref (ex 7)) :: (.int 0) :: (.ref (ex 8)) :: (.int (-1)) :: (.int 0) :: (.int 0) :: (.int 0) :: (.int 0) :: (.int 0) :: (.int 0) :: (.ref (ex 9)) :: (.int 0) :: (.ref (ex 10)) :: (.int 0) :: (.int 0) :: (.int 0) :: (.int 0) :: (.int 0) :: (.ref (ex 11)) :: (.ref (ex 12)) :: (.ref (ex 13)) :: (.ref (ex 14)) :: [])))] := hD
  refine lv_aload_n hx hb dX12_taken_13 rfl (lv_at hl 0 rfl) ?_
  refine lv_iconst (v := 0) hx hb dX12_taken_14 (by decide) ?_
  refine va_put (D := D) (ci := 12) (v := .int 0) (ty := .int) (C := RX12) (T := TX12) (N := 44) hx hb htg inX12 tyX12 tyX12_ok nmX12 hown hK.1 hP hD hS 0 rfl rfl 4 (by decide) (htg _ kw_1411) (fun _ h9 => h9) rfl (by decide +kernel) rfl rfl (Nat.le_of_ble_eq_true rfl) dX12_taken_15 (fun H locs hP hD hS => ?_)
  replace hP : va_P D vwCl [((a 0), .inr (12, ((.int 0) :: (.ref (ex 0)) :: (.int 0) :: (.int 0) :: (.int 0) :: (.int 0) :: (.ref (ex 1)) :: (.ref (ex 2)) :: (.ref (ex 3)) :: (.ref (ex 4)) :: (.ref (ex 5)) :: (.int 0) :: (.int 0) :: (.int 0) :: (.int 0) :: (.int 0) :: (.int 0) :: (.long 0) :: (.int 0) :: (.int 0) :: (.int 0) :: (.ref (ex 6)) :: (.ref (ex 7)) :: (.int 0) :: (.ref (ex 8)) :: (.int (-1)) :: (.int 0) :: (.int 0) :: (.int 0) :: (.int 0) :: (.int 0) :: (.int 0) :: (.ref (ex 9)) :: (.int 0) :: (.ref (ex 10)) :: (.int 0) :: (.int 0) :: (.int 0) :: (.int 0) :: (.int 0) :: (.ref (ex 11)) :: (.ref (ex 12)) :: (.ref (ex 13)) :: (.ref (ex 14)) :: [])))] H := hP
  replace hD : va_D A [((a 0), .inr (12, ((.int 0) :: (.ref (ex 0)) :: (.int 0) :: (.int 0) :: (.int 0) :: (.int 0) :: (.ref (ex 1)) :: (.ref (ex 2)) :: (.ref (ex 3)) :: (.ref (ex 4)) :: (.ref (ex 5)) :: (.int 0) :: (.int 0) :: (.int 0) :: (.int 0) :: (.int 0) :: (.int 0) :: (.long 0) :: (.int 0) :: (.int 0) :: (.int 0) :: (.ref (ex 6)) :: (.ref (ex 7)) :: (.int 0) :: (.ref (ex 8)) :: (.int (-1)) :: (.int 0) :: (.int 0) :: (.int 0) :: (.int 0) :: (.int 0) :: (.int 0) :: (.ref (ex 9)) :: (.int 0) :: (.ref (ex 10)) :: (.int 0) :: (.int 0) :: (.int 0) :: (.int 0) :: (.int 0) :: (.ref (ex 11)) :: (.ref (ex 12)) :: (.ref (ex 13)) :: (.ref (ex 14)) :: [])))] := hD
  refine lv_aload_n hx hb dX12_taken_18 rfl (lv_at hl 0 rfl) ?_
  refine lv_iload_n hx hb dX12_taken_19 rfl (lv_at hl 1 rfl) ?_
  refine va_put (D := D) (ci := 12) (v := .int 940) (ty := .int) (C := RX12) (T := TX12) (N := 44) hx hb htg inX12 tyX12 tyX12_ok nmX12 hown hK.1 hP hD hS 0 rfl rfl 5 (by decide) (htg _ kw_1412) (fun _ h9 => h9) rfl (by decide +kernel) rfl rfl (Nat.le_of_ble_eq_true rfl) dX12_taken_20 (fun H locs hP hD hS => ?_)
  replace hP : va_P D vwCl [((a 0), .inr (12, ((.int 0) :: (.ref (ex 0)) :: (.int 0) :: (.int 0) :: (.int 0) :: (.int 940) :: (.ref (ex 1)) :: (.ref (ex 2)) :: (.ref (ex 3)) :: (.ref (ex 4)) :: (.ref (ex 5)) :: (.int 0) :: (.int 0) :: (.int 0) :: (.int 0) :: (.int 0) :: (.int 0) :: (.long 0) :: (.int 0) :: (.int 0) :: (.int 0) :: (.ref (ex 6)) :: (.ref (ex 7)) :: (.int 0) :: (.ref (ex 8)) :: (.int (-1)) :: (.int 0) :: (.int 0) :: (.int 0) :: (.int 0) :: (.int 0) :: (.int 0) :: (.ref (ex 9)) :: (.int 0) :: (.ref (ex 10)) :: (.int 0) :: (.int 0) :: (.int 0) :: (.int 0) :: (.int 0) :: (.ref (ex 11)) :: (.ref (ex 12)) :: (.ref (ex 13)) :: (.ref (ex 14)) :: [])))] H := hP
  replace hD : va_D A [((a 0), .inr (12, ((.int 0) :: (.ref (ex 0)) :: (.int 0) :: (.int 0) :: (.int 0) :: (.int 940) :: (.ref (ex 1)) :: (.ref (ex 2)) :: (.ref (ex 3)) :: (.ref (ex 4)) :: (.ref (ex 5)) :: (.int 0) :: (.int 0) :: (.int 0) :: (.int 0) :: (.int 0) :: (.int 0) :: (.long 0) :: (.int 0) :: (.int 0) :: (.int 0) :: (.ref (ex 6)) :: (.ref (ex 7)) :: (.int 0) :: (.ref (ex 8)) :: (.int (-1)) :: (.int 0) :: (.int 0) :: (.int 0) :: (.int 0) :: (.int 0) :: (.int 0) :: (.ref (ex 9)) :: (.int 0) :: (.ref (ex 10)) :: (.int 0) :: (.int 0) :: (.int 0) :: (.int 0) :: (.int 0) :: (.ref (ex 11)) :: (.ref (ex 12)) :: (.ref (ex 13)) :: (.ref (ex 14)) :: [])))] := hD
  have hP9 := hP.sub (ws' := [((a 0), .inr (12, ((.int 0) :: (.ref (ex 0)) :: (.int 0) :: (.int 0) :: (.int 0) :: (.int 940) :: (.ref (ex 1)) :: (.ref (ex 2)) :: (.ref (ex 3)) :: (.ref (ex 4)) :: (.ref (ex 5)) :: (.int 0) :: (.int 0) :: (.int 0) :: (.int 0) :: (.int 0) :: (.int 0) :: (.long 0) :: (.int 0) :: (.int 0) :: (.int 0) :: (.ref (ex 6)) :: (.ref (ex 7)) :: (.int 0) :: (.ref (ex 8)) :: (.int (-1)) :: (.int 0) :: (.int 0) :: (.int 0) :: (.int 0) :: (.int 0) :: (.int 0) :: (.ref (ex 9)) :: (.int 0) :: (.ref (ex 10)) :: (.int 0) :: (.int 0) :: (.int 0) :: (.int 0) :: (.int 0) :: (.ref (ex 11)) :: (.ref (ex 12)) :: (.ref (ex 13)) :: (.ref (ex 14)) :: [])))]) [0] rfl
  have hD9 := hD.sub (ws' := [((a 0), .inr (12, ((.int 0) :: (.ref (ex 0)) :: (.int 0) :: (.int 0) :: (.int 0) :: (.int 940) :: (.ref (ex 1)) :: (.ref (ex 2)) :: (.ref (ex 3)) :: (.ref (ex 4)) :: (.ref (ex 5)) :: (.int 0) :: (.int 0) :: (.int 0) :: (.int 0) :: (.int 0) :: (.int 0) :: (.long 0) :: (.int 0) :: (.int 0) :: (.int 0) :: (.ref (ex 6)) :: (.ref (ex 7)) :: (.int 0) :: (.ref (ex 8)) :: (.int (-1)) :: (.int 0) :: (.int 0) :: (.int 0) :: (.int 0) :: (.int 0) :: (.int 0) :: (.ref (ex 9)) :: (.int 0) :: (.ref (ex 10)) :: (.int 0) :: (.int 0) :: (.int 0) :: (.int 0) :: (.int 0) :: (.ref (ex 11)) :: (.ref (ex 12)) :: (.ref (ex 13)) :: (.ref (ex 14)) :: [])))]) [0] (by decide +kernel) rfl
  rw [hQ]
  exact W.vret hx hb hr (fun t ht hW => ⟨⟨(), rfl, trivial, ⟨xa [], xf [], xh [], xv [], by rw [ht]; exact hP9, hD9, trivial⟩⟩, hS.F ht⟩) hS.2.2 dX12_taken_23
abbrev pre_X12_isIn_7 (T : Nat → ClassId) (a ex : Nat → Nat) (fi : Nat → Nat → Int32) (fl : Nat → Nat → Int64) (vi : Nat → Int32) : va_W := []
set_option maxHeartbeats 4000000 in
set_option maxRecDepth 100000 in
theorem c_X12_isIn_7 (l : Launch) (D : va_G) (T : Nat → ClassId) (a ex : Nat → Nat) (fi : Nat → Nat → Int32) (fl : Nat → Nat → Int64) (vi : Nat → Int32) (sz : Nat) : Met l yX12_isIn (xw yX12_isIn cX12_isIn 3 (some .boolean)) ({ frames := 0, cells := 0, slots := 0, locals := 0 }) (xP D T [.int 0, .int 1, .int 0] sz (pre_X12_isIn_7 T a ex fi fl vi)) (va_Qi (fun r (_ : Unit) => r = 0) (xB D (va_A (pre_X12_isIn_7 T a ex fi fl vi) sz) (fun _ => True) (fun b fj fm vj => [])) (va_A (pre_X12_isIn_7 T a ex fi fl vi) sz)) 0 0 (va_A (pre_X12_isIn_7 T a ex fi fl vi) sz) := by
  refine xofW (cc := cX12_isIn) (maxL := 3) (ret := (some .boolean)) (by decide) rfl ?_
  intro p e s m args below meth c s₁ R Q hR hQ B hml hv
  obtain ⟨rfl, hsz, hP, hK, hD0⟩ := hv
  have hx := B.exec
  have hb := B.bytes
  have hr := B.returns
  have hts := atoms_spec (ws := xw yX12_isIn cX12_isIn 3 (some .boolean)) B.pre
  have htg : ∀ w ∈ xg, w.before _ s = true := fun w h => hts w (List.mem_cons_of_mem _ h)
  have hown : s.vm.findClass RX12 = some m.cls := findClass_of_methodNamed B.named
  have hlocks := B.notSynchronized
  subst hsz
  have hD := hD0.self (sz := s.heap.size)
  generalize hAe : va_A (pre_X12_isIn_7 T a ex fi fl vi) s.heap.size = A at hD hQ
  have hA : ∀ q : Nat, s.heap.size ≤ q → A q := fun q h => by rw [← hAe]; exact Or.inr h
  have hS : va_S A s.heap s.heap [] := va_S.rf
  replace hP : va_P D vwCl [] s.heap := hP
  replace hD : va_D A [] := hD
  have hl := lv_entry ([.int 0, .int 1, .int 0]) (n := 3) (Nat.le_of_ble_eq_true rfl)
  rw [lg_entry_eq]
  generalize (lg_sl ([.int 0, .int 1, .int 0]) ++ List.replicate (3 - (lg_sl ([.int 0, .int 1, .int 0])).length) Slot.unset).toArray = ls at hl ⊢
  replace hl : lv_has ls 3 [(0, .int 0), (1, .int 1), (2, .int 0)] := hl
  refine lv_iload_n hx hb dX12_isIn_0 rfl (lv_at hl 0 rfl) ?_
  refine lv_iload_n hx hb dX12_isIn_1 rfl (lv_at hl 1 rfl) ?_
  refine lv_icmp_lt (tgt := 14) hx hb dX12_isIn_2 (by decide) (fun _ => ?_) (fun c => absurd (by decide) c)
  refine lv_iconst (v := 0) hx hb dX12_isIn_14 (by decide) ?_
  have hP9 := hP.sub (ws' := []) [] rfl
  have hD9 := hD.sub (ws' := []) [] (by decide +kernel) rfl
  rw [hQ]
  exact W.zret (v := 0) hx hb hr rfl (fun t ht hW => ⟨⟨0, (), rfl, rfl, ⟨xa [], xf [], xh [], xv [], by rw [ht]; exact hP9, hD9, trivial⟩⟩, hS.F ht⟩) hS.2.2 dX12_isIn_15
