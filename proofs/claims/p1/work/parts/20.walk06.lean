abbrev pre_X12_ledger (T : Nat → ClassId) (a ex : Nat → Nat) (fi : Nat → Nat → Int32) (fl : Nat → Nat → Int64) (vi : Nat → Int32) : va_W := [((a 0), .inr (12, ((.int 0) :: (.ref (ex 0)) :: (.int 0) :: (.int 0) :: (.int 0) :: (.int 0) :: (.ref (a 1)) :: (.ref (ex 1)) :: (.ref (ex 2)) :: (.ref (ex 3)) :: (.ref (ex 4)) :: (.int 0) :: (.int 0) :: (.int 0) :: (.int 0) :: (.int 0) :: (.int 0) :: (.long 0) :: (.int 0) :: (.int 0) :: (.int 0) :: (.ref (ex 5)) :: (.ref (ex 6)) :: (.int 0) :: (.ref (ex 7)) :: (.int (-1)) :: (.int 0) :: (.int 0) :: (.int 0) :: (.int 0) :: (.int 0) :: (.int 0) :: (.ref (ex 8)) :: (.int 0) :: (.ref (ex 9)) :: (.int 0) :: (.int 0) :: (.int 0) :: (.int 0) :: (.int 0) :: (.ref (ex 10)) :: (.ref (ex 11)) :: (.ref (ex 12)) :: (.ref (ex 13)) :: []))), ((a 1), .inl (T 1, 2187, .inl (fun _ => 0)))]
set_option maxHeartbeats 4000000 in
set_option maxRecDepth 100000 in
theorem c_X12_ledger (l : Launch) (D : va_G) (T : Nat → ClassId) (a ex : Nat → Nat) (fi : Nat → Nat → Int32) (fl : Nat → Nat → Int64) (vi : Nat → Int32) (sz : Nat) : Met l yX12_ledger (xw yX12_ledger cX12_ledger 5 (some .int)) ({ frames := 1, cells := 0, slots := 0, locals := 26 }) (xP D T [.ref (a 0)] sz (pre_X12_ledger T a ex fi fl vi)) (va_Qi (fun r (_ : Unit) => r = (-1)) (xB D (va_A (pre_X12_ledger T a ex fi fl vi) sz) (fun _ => True) (fun b fj fm vj => [])) (va_A (pre_X12_ledger T a ex fi fl vi) sz)) 0 0 (va_A (pre_X12_ledger T a ex fi fl vi) sz) := by
  refine xofW (cc := cX12_ledger) (maxL := 5) (ret := (some .int)) (by decide) rfl ?_
  intro p e s m args below meth c s₁ R Q hR hQ B hml hv
  obtain ⟨rfl, hsz, hP, hK, hD0⟩ := hv
  have hx := B.exec
  have hb := B.bytes
  have hr := B.returns
  have hts := atoms_spec (ws := xw yX12_ledger cX12_ledger 5 (some .int)) B.pre
  have htg : ∀ w ∈ xg, w.before _ s = true := fun w h => hts w (List.mem_cons_of_mem _ h)
  have hown : s.vm.findClass RX12 = some m.cls := findClass_of_methodNamed B.named
  have hlocks := B.notSynchronized
  subst hsz
  have hD := hD0.self (sz := s.heap.size)
  generalize hAe : va_A (pre_X12_ledger T a ex fi fl vi) s.heap.size = A at hD hQ
  have hA : ∀ q : Nat, s.heap.size ≤ q → A q := fun q h => by rw [← hAe]; exact Or.inr h
  have hS : va_S A s.heap s.heap [] := va_S.rf
  replace hP : va_P D vwCl [((a 0), .inr (12, ((.int 0) :: (.ref (ex 0)) :: (.int 0) :: (.int 0) :: (.int 0) :: (.int 0) :: (.ref (a 1)) :: (.ref (ex 1)) :: (.ref (ex 2)) :: (.ref (ex 3)) :: (.ref (ex 4)) :: (.int 0) :: (.int 0) :: (.int 0) :: (.int 0) :: (.int 0) :: (.int 0) :: (.long 0) :: (.int 0) :: (.int 0) :: (.int 0) :: (.ref (ex 5)) :: (.ref (ex 6)) :: (.int 0) :: (.ref (ex 7)) :: (.int (-1)) :: (.int 0) :: (.int 0) :: (.int 0) :: (.int 0) :: (.int 0) :: (.int 0) :: (.ref (ex 8)) :: (.int 0) :: (.ref (ex 9)) :: (.int 0) :: (.int 0) :: (.int 0) :: (.int 0) :: (.int 0) :: (.ref (ex 10)) :: (.ref (ex 11)) :: (.ref (ex 12)) :: (.ref (ex 13)) :: []))), ((a 1), .inl (T 1, 2187, .inl (fun _ => 0)))] s.heap := hP
  replace hD : va_D A [((a 0), .inr (12, ((.int 0) :: (.ref (ex 0)) :: (.int 0) :: (.int 0) :: (.int 0) :: (.int 0) :: (.ref (a 1)) :: (.ref (ex 1)) :: (.ref (ex 2)) :: (.ref (ex 3)) :: (.ref (ex 4)) :: (.int 0) :: (.int 0) :: (.int 0) :: (.int 0) :: (.int 0) :: (.int 0) :: (.long 0) :: (.int 0) :: (.int 0) :: (.int 0) :: (.ref (ex 5)) :: (.ref (ex 6)) :: (.int 0) :: (.ref (ex 7)) :: (.int (-1)) :: (.int 0) :: (.int 0) :: (.int 0) :: (.int 0) :: (.int 0) :: (.int 0) :: (.ref (ex 8)) :: (.int 0) :: (.ref (ex 9)) :: (.int 0) :: (.int 0) :: (.int 0) :: (.int 0) :: (.int 0) :: (.ref (ex 10)) :: (.ref (ex 11)) :: (.ref (ex 12)) :: (.ref (ex 13)) :: []))), ((a 1), .inl (T 1, 2187, .inl (fun _ => 0)))] := hD
  have hl := lv_entry ([.ref (a 0)]) (n := 5) (Nat.le_of_ble_eq_true rfl)
  rw [lg_entry_eq]
  generalize (lg_sl ([.ref (a 0)]) ++ List.replicate (5 - (lg_sl ([.ref (a 0)])).length) Slot.unset).toArray = ls at hl ⊢
  replace hl : lv_has ls 5 [(0, .ref (a 0))] := hl
  refine lv_aload_n hx hb dX12_ledger_0 rfl (lv_at hl 0 rfl) ?_
  refine lv_iconst (v := 0) hx hb dX12_ledger_1 (by decide) ?_
  refine va_put (D := D) (ci := 12) (v := .int 0) (ty := .int) (C := RX12) (T := TX12) (N := 44) hx hb htg inX12 tyX12 tyX12_ok nmX12 hown hK.1 hP hD hS 0 rfl rfl 0 (by decide) (htg _ kw_1407) (fun _ h9 => h9) rfl (by decide +kernel) rfl rfl (Nat.le_of_ble_eq_true rfl) dX12_ledger_2 (fun H locs hP hD hS => ?_)
  replace hP : va_P D vwCl [((a 0), .inr (12, ((.int 0) :: (.ref (ex 0)) :: (.int 0) :: (.int 0) :: (.int 0) :: (.int 0) :: (.ref (a 1)) :: (.ref (ex 1)) :: (.ref (ex 2)) :: (.ref (ex 3)) :: (.ref (ex 4)) :: (.int 0) :: (.int 0) :: (.int 0) :: (.int 0) :: (.int 0) :: (.int 0) :: (.long 0) :: (.int 0) :: (.int 0) :: (.int 0) :: (.ref (ex 5)) :: (.ref (ex 6)) :: (.int 0) :: (.ref (ex 7)) :: (.int (-1)) :: (.int 0) :: (.int 0) :: (.int 0) :: (.int 0) :: (.int 0) :: (.int 0) :: (.ref (ex 8)) :: (.int 0) :: (.ref (ex 9)) :: (.int 0) :: (.int 0) :: (.int 0) :: (.int 0) :: (.int 0) :: (.ref (ex 10)) :: (.ref (ex 11)) :: (.ref (ex 12)) :: (.ref (ex 13)) :: []))), ((a 1), .inl (T 1, 2187, .inl (fun _ => 0)))] H := hP
  replace hD : va_D A [((a 0), .inr (12, ((.int 0) :: (.ref (ex 0)) :: (.int 0) :: (.int 0) :: (.int 0) :: (.int 0) :: (.ref (a 1)) :: (.ref (ex 1)) :: (.ref (ex 2)) :: (.ref (ex 3)) :: (.ref (ex 4)) :: (.int 0) :: (.int 0) :: (.int 0) :: (.int 0) :: (.int 0) :: (.int 0) :: (.long 0) :: (.int 0) :: (.int 0) :: (.int 0) :: (.ref (ex 5)) :: (.ref (ex 6)) :: (.int 0) :: (.ref (ex 7)) :: (.int (-1)) :: (.int 0) :: (.int 0) :: (.int 0) :: (.int 0) :: (.int 0) :: (.int 0) :: (.ref (ex 8)) :: (.int 0) :: (.ref (ex 9)) :: (.int 0) :: (.int 0) :: (.int 0) :: (.int 0) :: (.int 0) :: (.ref (ex 10)) :: (.ref (ex 11)) :: (.ref (ex 12)) :: (.ref (ex 13)) :: []))), ((a 1), .inl (T 1, 2187, .inl (fun _ => 0)))] := hD
  refine lv_aload_n hx hb dX12_ledger_5 rfl (lv_at hl 0 rfl) ?_
  refine lv_sipush (v := 940) hx hb dX12_ledger_6 (by decide) ?_
  have hPc := hP.sub (ws' := (pre_X12_taken_2 T (xa [(a 0)]) (xa [(ex 0), (a 1), (ex 1), (ex 2), (ex 3), (ex 4), (ex 5), (ex 6), (ex 7), (ex 8), (ex 9), (ex 10), (ex 11), (ex 12), (ex 13)]) (xf []) (xh []) (xv []))) [0] rfl
  have hDc := hD.sub (ws' := (pre_X12_taken_2 T (xa [(a 0)]) (xa [(ex 0), (a 1), (ex 1), (ex 2), (ex 3), (ex 4), (ex 5), (ex 6), (ex 7), (ex 8), (ex 9), (ex 10), (ex 11), (ex 12), (ex 13)]) (xf []) (xh []) (xv []))) [0] (by decide) rfl
  have hFc := va_free (wc := (pre_X12_taken_2 T (xa [(a 0)]) (xa [(ex 0), (a 1), (ex 1), (ex 2), (ex 3), (ex 4), (ex 5), (ex 6), (ex 7), (ex 8), (ex 9), (ex 10), (ex 11), (ex 12), (ex 13)]) (xf []) (xh []) (xv []))) hD hS hA [0] rfl
  refine va_callv (va_runV (As := [.int 940]) (rest := []) ⟨hx, hb, hml, hown, htg⟩ (c_X12_taken_2 l D T (xa [(a 0)]) (xa [(ex 0), (a 1), (ex 1), (ex 2), (ex 3), (ex 4), (ex 5), (ex 6), (ex 7), (ex 8), (ex 9), (ex 10), (ex 11), (ex 12), (ex 13)]) (xf []) (xh []) (xv []) H.size) ⟨callB_of 1 htg (xg_ok kw_1548) rfl rfl rfl (htg _ kw_17) (htg _ kw_1545) (by decide +kernel) ⟨by rw [hR]; exact Nat.le_of_ble_eq_true rfl, by rw [hR]; exact Nat.le_of_ble_eq_true rfl⟩, htg _ kw_1547, htg _ ks_115⟩ (xpreV hK hPc hDc (va_recv hK.1 hPc (ci := 12) (q0 := 0) rfl rfl)) rfl rfl hl.1 rfl (lv_room (Nat.le_of_ble_eq_true rfl)) dX12_ledger_9 ⟨by rw [hR]; exact Nat.le_of_ble_eq_true rfl, by rw [hR]; exact Nat.le_of_ble_eq_true rfl⟩) hS (fun q _ h => hFc q h) hFc (fun u t H1 locs ht hvm hw hB hz1 hk1 hS => ?_)
  obtain ⟨bk, fik, flk, vik, hP1, hD1, hGk⟩ := hB
  rw [ht] at hP1
  obtain ⟨hP, hD⟩ := va_join (wr := [((a 1), .inl (T 1, 2187, .inl (fun _ => 0)))]) (w1 := [((a 0), .inr (12, ((.int 0) :: (.ref (ex 0)) :: (.int 0) :: (.int 0) :: (.int 0) :: (.int 940) :: (.ref (a 1)) :: (.ref (ex 1)) :: (.ref (ex 2)) :: (.ref (ex 3)) :: (.ref (ex 4)) :: (.int 0) :: (.int 0) :: (.int 0) :: (.int 0) :: (.int 0) :: (.int 0) :: (.long 0) :: (.int 0) :: (.int 0) :: (.int 0) :: (.ref (ex 5)) :: (.ref (ex 6)) :: (.int 0) :: (.ref (ex 7)) :: (.int (-1)) :: (.int 0) :: (.int 0) :: (.int 0) :: (.int 0) :: (.int 0) :: (.int 0) :: (.ref (ex 8)) :: (.int 0) :: (.ref (ex 9)) :: (.int 0) :: (.int 0) :: (.int 0) :: (.int 0) :: (.int 0) :: (.ref (ex 10)) :: (.ref (ex 11)) :: (.ref (ex 12)) :: (.ref (ex 13)) :: [])))]) hP hD [0] [1] rfl rfl (by decide) (by decide) hk1 hFc hP1 hD1
  clear hPc hDc hFc hP1 hD1 hk1 hz1 hvm ht hw
  generalize H1 = H at hP hS ⊢
  replace hP : va_P D vwCl [((a 1), .inl (T 1, 2187, .inl (fun _ => 0))), ((a 0), .inr (12, ((.int 0) :: (.ref (ex 0)) :: (.int 0) :: (.int 0) :: (.int 0) :: (.int 940) :: (.ref (a 1)) :: (.ref (ex 1)) :: (.ref (ex 2)) :: (.ref (ex 3)) :: (.ref (ex 4)) :: (.int 0) :: (.int 0) :: (.int 0) :: (.int 0) :: (.int 0) :: (.int 0) :: (.long 0) :: (.int 0) :: (.int 0) :: (.int 0) :: (.ref (ex 5)) :: (.ref (ex 6)) :: (.int 0) :: (.ref (ex 7)) :: (.int (-1)) :: (.int 0) :: (.int 0) :: (.int 0) :: (.int 0) :: (.int 0) :: (.int 0) :: (.ref (ex 8)) :: (.int 0) :: (.ref (ex 9)) :: (.int 0) :: (.int 0) :: (.int 0) :: (.int 0) :: (.int 0) :: (.ref (ex 10)) :: (.ref (ex 11)) :: (.ref (ex 12)) :: (.ref (ex 13)) :: [])))] H := hP
  replace hD : va_D A [((a 1), .inl (T 1, 2187, .inl (fun _ => 0))), ((a 0), .inr (12, ((.int 0) :: (.ref (ex 0)) :: (.int 0) :: (.int 0) :: (.int 0) :: (.int 940) :: (.ref (a 1)) :: (.ref (ex 1)) :: (.ref (ex 2)) :: (.ref (ex 3)) :: (.ref (ex 4)) :: (.int 0) :: (.int 0) :: (.int 0) :: (.int 0) :: (.int 0) :: (.int 0) :: (.long 0) :: (.int 0) :: (.int 0) :: (.int 0) :: (.ref (ex 5)) :: (.ref (ex 6)) :: (.int 0) :: (.ref (ex 7)) :: (.int (-1)) :: (.int 0) :: (.int 0) :: (.int 0) :: (.int 0) :: (.int 0) :: (.int 0) :: (.ref (ex 8)) :: (.int 0) :: (.ref (ex 9)) :: (.int 0) :: (.int 0) :: (.int 0) :: (.int 0) :: (.int 0) :: (.ref (ex 10)) :: (.ref (ex 11)) :: (.ref (ex 12)) :: (.ref (ex 13)) :: [])))] := hD
  refine lv_aload_n hx hb dX12_ledger_12 rfl (lv_at hl 0 rfl) ?_
  refine va_get (D := D) (ci := 12) (v := .int 0) (C := RX12) (T := TX12) (N := 44) hx hb htg inX12 hown hK.1 hP 1 rfl rfl 3 (by decide) (htg _ kw_1410) (fun _ h9 => h9) rfl dX12_ledger_13 ?_
  refine lv_iconst (v := 1) hx hb dX12_ledger_16 (by decide) ?_
  refine lv_aload_n hx hb dX12_ledger_17 rfl (lv_at hl 0 rfl) ?_
  refine va_get (D := D) (ci := 12) (v := .ref (a 1)) (C := RX12) (T := TX12) (N := 44) hx hb htg inX12 hown hK.1 hP 1 rfl rfl 6 (by decide) (htg _ kw_1413) (fun _ h9 => h9) rfl dX12_ledger_18 ?_
  refine lv_sipush (v := 146) hx hb dX12_ledger_21 (by decide) ?_
  refine va_iald hx hb hK.1 hP 0 1 rfl rfl (vp_in_nI (n := 146) (by decide) (by decide)) dX12_ledger_24 ?_
  refine xz_i 0 rfl ?_
  have hPc := hP.sub (ws' := (pre_X12_isIn_7 T (xa []) (xa []) (xf []) (xh []) (xv []))) [] rfl
  have hDc := hD.sub (ws' := (pre_X12_isIn_7 T (xa []) (xa []) (xf []) (xh []) (xv []))) [] (by decide) rfl
  have hFc := va_free (wc := (pre_X12_isIn_7 T (xa []) (xa []) (xf []) (xh []) (xv []))) hD hS hA [] rfl
  refine va_calli (va_runS (As := [.int 0, .int 1, .int 0]) (rest := []) ⟨hx, hb, hml, hown, htg⟩ (c_X12_isIn_7 l D T (xa []) (xa []) (xf []) (xh []) (xv []) H.size) ⟨callB_of 3 htg (xg_ok kw_1597) rfl rfl rfl (htg _ kw_17) (htg _ kw_1595) (by decide +kernel) ⟨by rw [hR]; exact Nat.le_of_ble_eq_true rfl, by rw [hR]; exact Nat.le_of_ble_eq_true rfl⟩, htg _ kw_1596⟩ (xpreS hK hPc hDc) rfl rfl hl.1 rfl (lv_room (Nat.le_of_ble_eq_true rfl)) dX12_ledger_25 ⟨by rw [hR]; exact Nat.le_of_ble_eq_true rfl, by rw [hR]; exact Nat.le_of_ble_eq_true rfl⟩) hS (fun q _ h => hFc q h) hFc (fun r9 u t H1 locs ht hvm hw hB hz1 hk1 hS => ?_)
  obtain ⟨bk_1, fik_1, flk_1, vik_1, hP1, hD1, hGk_1⟩ := hB
  rw [ht] at hP1
  obtain ⟨hP, hD⟩ := va_join (wr := [((a 1), .inl (T 1, 2187, .inl (fun _ => 0))), ((a 0), .inr (12, ((.int 0) :: (.ref (ex 0)) :: (.int 0) :: (.int 0) :: (.int 0) :: (.int 940) :: (.ref (a 1)) :: (.ref (ex 1)) :: (.ref (ex 2)) :: (.ref (ex 3)) :: (.ref (ex 4)) :: (.int 0) :: (.int 0) :: (.int 0) :: (.int 0) :: (.int 0) :: (.int 0) :: (.long 0) :: (.int 0) :: (.int 0) :: (.int 0) :: (.ref (ex 5)) :: (.ref (ex 6)) :: (.int 0) :: (.ref (ex 7)) :: (.int (-1)) :: (.int 0) :: (.int 0) :: (.int 0) :: (.int 0) :: (.int 0) :: (.int 0) :: (.ref (ex 8)) :: (.int 0) :: (.ref (ex 9)) :: (.int 0) :: (.int 0) :: (.int 0) :: (.int 0) :: (.int 0) :: (.ref (ex 10)) :: (.ref (ex 11)) :: (.ref (ex 12)) :: (.ref (ex 13)) :: [])))]) (w1 := []) hP hD [] [0, 1] rfl rfl (by decide) (by decide) hk1 hFc hP1 hD1
  subst hw
  clear hPc hDc hFc hP1 hD1 hk1 hz1 hvm ht
  generalize H1 = H at hP hS ⊢
  replace hP : va_P D vwCl [((a 1), .inl (T 1, 2187, .inl (fun _ => 0))), ((a 0), .inr (12, ((.int 0) :: (.ref (ex 0)) :: (.int 0) :: (.int 0) :: (.int 0) :: (.int 940) :: (.ref (a 1)) :: (.ref (ex 1)) :: (.ref (ex 2)) :: (.ref (ex 3)) :: (.ref (ex 4)) :: (.int 0) :: (.int 0) :: (.int 0) :: (.int 0) :: (.int 0) :: (.int 0) :: (.long 0) :: (.int 0) :: (.int 0) :: (.int 0) :: (.ref (ex 5)) :: (.ref (ex 6)) :: (.int 0) :: (.ref (ex 7)) :: (.int (-1)) :: (.int 0) :: (.int 0) :: (.int 0) :: (.int 0) :: (.int 0) :: (.int 0) :: (.ref (ex 8)) :: (.int 0) :: (.ref (ex 9)) :: (.int 0) :: (.int 0) :: (.int 0) :: (.int 0) :: (.int 0) :: (.ref (ex 10)) :: (.ref (ex 11)) :: (.ref (ex 12)) :: (.ref (ex 13)) :: [])))] H := hP
  replace hD : va_D A [((a 1), .inl (T 1, 2187, .inl (fun _ => 0))), ((a 0), .inr (12, ((.int 0) :: (.ref (ex 0)) :: (.int 0) :: (.int 0) :: (.int 0) :: (.int 940) :: (.ref (a 1)) :: (.ref (ex 1)) :: (.ref (ex 2)) :: (.ref (ex 3)) :: (.ref (ex 4)) :: (.int 0) :: (.int 0) :: (.int 0) :: (.int 0) :: (.int 0) :: (.int 0) :: (.long 0) :: (.int 0) :: (.int 0) :: (.int 0) :: (.ref (ex 5)) :: (.ref (ex 6)) :: (.int 0) :: (.ref (ex 7)) :: (.int (-1)) :: (.int 0) :: (.int 0) :: (.int 0) :: (.int 0) :: (.int 0) :: (.int 0) :: (.ref (ex 8)) :: (.int 0) :: (.ref (ex 9)) :: (.int 0) :: (.int 0) :: (.int 0) :: (.int 0) :: (.int 0) :: (.ref (ex 10)) :: (.ref (ex 11)) :: (.ref (ex 12)) :: (.ref (ex 13)) :: [])))] := hD
  refine lv_if_ne (tgt := 33) hx hb dX12_ledger_28 (by decide) (fun c => absurd (by decide) c) (fun _ => ?_)
  refine lv_iconst (v := (-1)) hx hb dX12_ledger_31 (by decide) ?_
  have hP9 := hP.sub (ws' := []) [] rfl
  have hD9 := hD.sub (ws' := []) [] (by decide) rfl
  rw [hQ]
  exact W.iret (v := (-1)) hx hb hr (fun t ht hW => ⟨⟨(-1), (), rfl, rfl, ⟨xa [], xf [], xh [], xv [], by rw [ht]; exact hP9, hD9, trivial⟩⟩, hS.F ht⟩) hS.2.2 dX12_ledger_32
abbrev pre_X12_waitSet (T : Nat → ClassId) (a ex : Nat → Nat) (fi : Nat → Nat → Int32) (fl : Nat → Nat → Int64) (vi : Nat → Int32) : va_W := [((a 0), .inr (12, ((.int 0) :: (.ref (ex 0)) :: (.int 0) :: (.int 0) :: (.int 0) :: (.int 0) :: (.ref (a 1)) :: (.ref (ex 1)) :: (.ref (ex 2)) :: (.ref (ex 3)) :: (.ref (ex 4)) :: (.int 0) :: (.int 0) :: (.int 0) :: (.int 0) :: (.int 0) :: (.int 0) :: (.long 0) :: (.int 0) :: (.int 0) :: (.int 0) :: (.ref (ex 5)) :: (.ref (ex 6)) :: (.int 0) :: (.ref (ex 7)) :: (.int (-1)) :: (.int 0) :: (.int 0) :: (.int 0) :: (.int 0) :: (.int 0) :: (.int 0) :: (.ref (ex 8)) :: (.int 0) :: (.ref (ex 9)) :: (.int 0) :: (.int 0) :: (.int 0) :: (.int 0) :: (.int 0) :: (.ref (ex 10)) :: (.ref (ex 11)) :: (.ref (ex 12)) :: (.ref (ex 13)) :: []))), ((a 1), .inl (T 1, 2187, .inl (fun _ => 0)))]
set_option maxHeartbeats 4000000 in
set_option maxRecDepth 100000 in
theorem c_X12_waitSet (l : Launch) (D : va_G) (T : Nat → ClassId) (a ex : Nat → Nat) (fi : Nat → Nat → Int32) (fl : Nat → Nat → Int64) (vi : Nat → Int32) (sz : Nat) : Met l yX12_waitSet (xw yX12_waitSet cX12_waitSet 3 (some .int)) ({ frames := 0, cells := 0, slots := 0, locals := 0 }) (xP D T [.ref (a 0)] sz (pre_X12_waitSet T a ex fi fl vi)) (va_Qi (fun r (_ : Unit) => r = 0) (xB D (va_A (pre_X12_waitSet T a ex fi fl vi) sz) (fun _ => True) (fun b fj fm vj => [((a 0), .inr (12, ((.int 0) :: (.ref (ex 0)) :: (.int 0) :: (.int 0) :: (.int 0) :: (.int 0) :: (.ref (a 1)) :: (.ref (ex 1)) :: (.ref (ex 2)) :: (.ref (ex 3)) :: (.ref (ex 4)) :: (.int 0) :: (.int 0) :: (.int 0) :: (.int 0) :: (.int 0) :: (.int 0) :: (.long 0) :: (.int 0) :: (.int 0) :: (.int 0) :: (.ref (ex 5)) :: (.ref (ex 6)) :: (.int 0) :: (.ref (ex 7)) :: (.int (-1)) :: (.int 0) :: (.int 0) :: (.int 0) :: (.int 0) :: (.int 0) :: (.int 0) :: (.ref (ex 8)) :: (.int 0) :: (.ref (ex 9)) :: (.int 0) :: (.int 0) :: (.int 0) :: (.int 0) :: (.int 0) :: (.ref (ex 10)) :: (.ref (ex 11)) :: (.ref (ex 12)) :: (.ref (ex 13)) :: []))), ((a 1), .inl (T 1, 2187, .inl (fun _ => 0)))])) (va_A (pre_X12_waitSet T a ex fi fl vi) sz)) 0 0 (va_A (pre_X12_waitSet T a ex fi fl vi) sz) := by
  refine xofW (cc := cX12_waitSet) (maxL := 3) (ret := (some .int)) (by decide) rfl ?_
  intro p e s m args below meth c s₁ R Q hR hQ B hml hv
  obtain ⟨rfl, hsz, hP, hK, hD0⟩ := hv
  have hx := B.exec
  have hb := B.bytes
  have hr := B.returns
  have hts := atoms_spec (ws := xw yX12_waitSet cX12_waitSet 3 (some .int)) B.pre
  have htg : ∀ w ∈ xg, w.before _ s = true := fun w h => hts w (List.mem_cons_of_mem _ h)
  have hown : s.vm.findClass RX12 = some m.cls := findClass_of_methodNamed B.named
  have hlocks := B.notSynchronized
  subst hsz
  have hD := hD0.self (sz := s.heap.size)
  generalize hAe : va_A (pre_X12_waitSet T a ex fi fl vi) s.heap.size = A at hD hQ
  have hA : ∀ q : Nat, s.heap.size ≤ q → A q := fun q h => by rw [← hAe]; exact Or.inr h
  have hS : va_S A s.heap s.heap [] := va_S.rf
  replace hP : va_P D vwCl [((a 0), .inr (12, ((.int 0) :: (.ref (ex 0)) :: (.int 0) :: (.int 0) :: (.int 0) :: (.int 0) :: (.ref (a 1)) :: (.ref (ex 1)) :: (.ref (ex 2)) :: (.ref (ex 3)) :: (.ref (ex 4)) :: (.int 0) :: (.int 0) :: (.int 0) :: (.int 0) :: (.int 0) :: (.int 0) :: (.long 0) :: (.int 0) :: (.int 0) :: (.int 0) :: (.ref (ex 5)) :: (.ref (ex 6)) :: (.int 0) :: (.ref (ex 7)) :: (.int (-1)) :: (.int 0) :: (.int 0) :: (.int 0) :: (.int 0) :: (.int 0) :: (.int 0) :: (.ref (ex 8)) :: (.int 0) :: (.ref (ex 9)) :: (.int 0) :: (.int 0) :: (.int 0) :: (.int 0) :: (.int 0) :: (.ref (ex 10)) :: (.ref (ex 11)) :: (.ref (ex 12)) :: (.ref (ex 13)) :: []))), ((a 1), .inl (T 1, 2187, .inl (fun _ => 0)))] s.heap := hP
  replace hD : va_D A [((a 0), .inr (12, ((.int 0) :: (.ref (ex 0)) :: (.int 0) :: (.int 0) :: (.int 0) :: (.int 0) :: (.ref (a 1)) :: (.ref (ex 1)) :: (.ref (ex 2)) :: (.ref (ex 3)) :: (.ref (ex 4)) :: (.int 0) :: (.int 0) :: (.int 0) :: (.int 0) :: (.int 0) :: (.int 0) :: (.long 0) :: (.int 0) :: (.int 0) :: (.int 0) :: (.ref (ex 5)) :: (.ref (ex 6)) :: (.int 0) :: (.ref (ex 7)) :: (.int (-1)) :: (.int 0) :: (.int 0) :: (.int 0) :: (.int 0) :: (.int 0) :: (.int 0) :: (.ref (ex 8)) :: (.int 0) :: (.ref (ex 9)) :: (.int 0) :: (.int 0) :: (.int 0) :: (.int 0) :: (.int 0) :: (.ref (ex 10)) :: (.ref (ex 11)) :: (.ref (ex 12)) :: (.ref (ex 13)) :: []))), ((a 1), .inl (T 1, 2187, .inl (fun _ => 0)))] := hD
  have hl := lv_entry ([.ref (a 0)]) (n := 3) (Nat.le_of_ble_eq_true rfl)
  rw [lg_entry_eq]
  generalize (lg_sl ([.ref (a 0)]) ++ List.replicate (3 - (lg_sl ([.ref (a 0)])).length) Slot.unset).toArray = ls at hl ⊢
  replace hl : lv_has ls 3 [(0, .ref (a 0))] := hl
  refine lv_iconst (v := 0) hx hb dX12_waitSet_0 (by decide) ?_
  refine lv_istore_n (lv' := [(1, .int 0), (0, .ref (a 0))]) hx hb dX12_waitSet_1 rfl hl (by decide) rfl (fun ls hl => ?_)
  refine lv_iconst (v := 0) hx hb dX12_waitSet_2 (by decide) ?_
  refine lv_istore_n (lv' := [(2, .int 0), (1, .int 0), (0, .ref (a 0))]) hx hb dX12_waitSet_3 rfl hl (by decide) rfl (fun ls hl => ?_)
  refine lv_iload_n hx hb dX12_waitSet_4 rfl (lv_at hl 0 rfl) ?_
  refine lv_aload_n hx hb dX12_waitSet_5 rfl (lv_at hl 2 rfl) ?_
  refine va_get (D := D) (ci := 12) (v := .ref (a 1)) (C := RX12) (T := TX12) (N := 44) hx hb htg inX12 hown hK.1 hP 0 rfl rfl 6 (by decide) (htg _ kw_1413) (fun _ h9 => h9) rfl dX12_waitSet_6 ?_
  refine lv_sipush (v := 151) hx hb dX12_waitSet_9 (by decide) ?_
  refine va_iald hx hb hK.1 hP 1 1 rfl rfl (vp_in_nI (n := 151) (by decide) (by decide)) dX12_waitSet_12 ?_
  refine xz_i 0 rfl ?_
  refine lv_icmp_ge (tgt := 37) hx hb dX12_waitSet_13 (by decide) (fun _ => ?_) (fun c => absurd (by decide) c)
  refine lv_iload_n hx hb dX12_waitSet_37 rfl (lv_at hl 1 rfl) ?_
  have hP9 := hP.sub (ws' := [((a 0), .inr (12, ((.int 0) :: (.ref (ex 0)) :: (.int 0) :: (.int 0) :: (.int 0) :: (.int 0) :: (.ref (a 1)) :: (.ref (ex 1)) :: (.ref (ex 2)) :: (.ref (ex 3)) :: (.ref (ex 4)) :: (.int 0) :: (.int 0) :: (.int 0) :: (.int 0) :: (.int 0) :: (.int 0) :: (.long 0) :: (.int 0) :: (.int 0) :: (.int 0) :: (.ref (ex 5)) :: (.ref (ex 6)) :: (.int 0) :: (.ref (ex 7)) :: (.int (-1)) :: (.int 0) :: (.int 0) :: (.int 0) :: (.int 0) :: (.int 0) :: (.int 0) :: (.ref (ex 8)) :: (.int 0) :: (.ref (ex 9)) :: (.int 0) :: (.int 0) :: (.int 0) :: (.int 0) :: (.int 0) :: (.ref (ex 10)) :: (.ref (ex 11)) :: (.ref (ex 12)) :: (.ref (ex 13)) :: []))), ((a 1), .inl (T 1, 2187, .inl (fun _ => 0)))]) [0, 1] rfl
  have hD9 := hD.sub (ws' := [((a 0), .inr (12, ((.int 0) :: (.ref (ex 0)) :: (.int 0) :: (.int 0) :: (.int 0) :: (.int 0) :: (.ref (a 1)) :: (.ref (ex 1)) :: (.ref (ex 2)) :: (.ref (ex 3)) :: (.ref (ex 4)) :: (.int 0) :: (.int 0) :: (.int 0) :: (.int 0) :: (.int 0) :: (.int 0) :: (.long 0) :: (.int 0) :: (.int 0) :: (.int 0) :: (.ref (ex 5)) :: (.ref (ex 6)) :: (.int 0) :: (.ref (ex 7)) :: (.int (-1)) :: (.int 0) :: (.int 0) :: (.int 0) :: (.int 0) :: (.int 0) :: (.int 0) :: (.ref (ex 8)) :: (.int 0) :: (.ref (ex 9)) :: (.int 0) :: (.int 0) :: (.int 0) :: (.int 0) :: (.int 0) :: (.ref (ex 10)) :: (.ref (ex 11)) :: (.ref (ex 12)) :: (.ref (ex 13)) :: []))), ((a 1), .inl (T 1, 2187, .inl (fun _ => 0)))]) [0, 1] (by decide +kernel) rfl
  rw [hQ]
  exact W.iret (v := 0) hx hb hr (fun t ht hW => ⟨⟨0, (), rfl, rfl, ⟨xa [], xf [], xh [], xv [], by rw [ht]; exact hP9, hD9, trivial⟩⟩, hS.F ht⟩) hS.2.2 dX12_waitSet_38
abbrev pre_X12_calledSet (T : Nat → ClassId) (a ex : Nat → Nat) (fi : Nat → Nat → Int32) (fl : Nat → Nat → Int64) (vi : Nat → Int32) : va_W := [((a 0), .inr (12, ((.int 0) :: (.ref (ex 0)) :: (.int 0) :: (.int 0) :: (.int 0) :: (.int 0) :: (.ref (a 1)) :: (.ref (ex 1)) :: (.ref (ex 2)) :: (.ref (ex 3)) :: (.ref (ex 4)) :: (.int 0) :: (.int 0) :: (.int 0) :: (.int 0) :: (.int 0) :: (.int 0) :: (.long 0) :: (.int 0) :: (.int 0) :: (.int 0) :: (.ref (ex 5)) :: (.ref (ex 6)) :: (.int 0) :: (.ref (ex 7)) :: (.int (-1)) :: (.int 0) :: (.int 0) :: (.int 0) :: (.int 0) :: (.int 0) :: (.int 0) :: (.ref (ex 8)) :: (.int 0) :: (.ref (ex 9)) :: (.int 0) :: (.int 0) :: (.int 0) :: (.int 0) :: (.int 0) :: (.ref (ex 10)) :: (.ref (ex 11)) :: (.ref (ex 12)) :: (.ref (ex 13)) :: []))), ((a 1), .inl (T 1, 2187, .inl (fun _ => 0)))]
set_option maxHeartbeats 4000000 in
set_option maxRecDepth 100000 in
theorem c_X12_calledSet (l : Launch) (D : va_G) (T : Nat → ClassId) (a ex : Nat → Nat) (fi : Nat → Nat → Int32) (fl : Nat → Nat → Int64) (vi : Nat → Int32) (sz : Nat) : Met l yX12_calledSet (xw yX12_calledSet cX12_calledSet 3 (some .int)) ({ frames := 0, cells := 0, slots := 0, locals := 0 }) (xP D T [.ref (a 0)] sz (pre_X12_calledSet T a ex fi fl vi)) (va_Qi (fun r (_ : Unit) => r = 0) (xB D (va_A (pre_X12_calledSet T a ex fi fl vi) sz) (fun _ => True) (fun b fj fm vj => [((a 0), .inr (12, ((.int 0) :: (.ref (ex 0)) :: (.int 0) :: (.int 0) :: (.int 0) :: (.int 0) :: (.ref (a 1)) :: (.ref (ex 1)) :: (.ref (ex 2)) :: (.ref (ex 3)) :: (.ref (ex 4)) :: (.int 0) :: (.int 0) :: (.int 0) :: (.int 0) :: (.int 0) :: (.int 0) :: (.long 0) :: (.int 0) :: (.int 0) :: (.int 0) :: (.ref (ex 5)) :: (.ref (ex 6)) :: (.int 0) :: (.ref (ex 7)) :: (.int (-1)) :: (.int 0) :: (.int 0) :: (.int 0) :: (.int 0) :: (.int 0) :: (.int 0) :: (.ref (ex 8)) :: (.int 0) :: (.ref (ex 9)) :: (.int 0) :: (.int 0) :: (.int 0) :: (.int 0) :: (.int 0) :: (.ref (ex 10)) :: (.ref (ex 11)) :: (.ref (ex 12)) :: (.ref (ex 13)) :: []))), ((a 1), .inl (T 1, 2187, .inl (fun _ => 0)))])) (va_A (pre_X12_calledSet T a ex fi fl vi) sz)) 0 0 (va_A (pre_X12_calledSet T a ex fi fl vi) sz) := by
  refine xofW (cc := cX12_calledSet) (maxL := 3) (ret := (some .int)) (by decide) rfl ?_
  intro p e s m args below meth c s₁ R Q hR hQ B hml hv
  obtain ⟨rfl, hsz, hP, hK, hD0⟩ := hv
  have hx := B.exec
  have hb := B.bytes
  have hr := B.returns
  have hts := atoms_spec (ws := xw yX12_calledSet cX12_calledSet 3 (some .int)) B.pre
  have htg : ∀ w ∈ xg, w.before _ s = true := fun w h => hts w (List.mem_cons_of_mem _ h)
  have hown : s.vm.findClass RX12 = some m.cls := findClass_of_methodNamed B.named
  have hlocks := B.notSynchronized
  subst hsz
  have hD := hD0.self (sz := s.heap.size)
  generalize hAe : va_A (pre_X12_calledSet T a ex fi fl vi) s.heap.size = A at hD hQ
  have hA : ∀ q : Nat, s.heap.size ≤ q → A q := fun q h => by rw [← hAe]; exact Or.inr h
  have hS : va_S A s.heap s.heap [] := va_S.rf
  replace hP : va_P D vwCl [((a 0), .inr (12, ((.int 0) :: (.ref (ex 0)) :: (.int 0) :: (.int 0) :: (.int 0) :: (.int 0) :: (.ref (a 1)) :: (.ref (ex 1)) :: (.ref (ex 2)) :: (.ref (ex 3)) :: (.ref (ex 4)) :: (.int 0) :: (.int 0) :: (.int 0) :: (.int 0) :: (.int 0) :: (.int 0) :: (.long 0) :: (.int 0) :: (.int 0) :: (.int 0) :: (.ref (ex 5)) :: (.ref (ex 6)) :: (.int 0) :: (.ref (ex 7)) :: (.int (-1)) :: (.int 0) :: (.int 0) :: (.int 0) :: (.int 0) :: (.int 0) :: (.int 0) :: (.ref (ex 8)) :: (.int 0) :: (.ref (ex 9)) :: (.int 0) :: (.int 0) :: (.int 0) :: (.int 0) :: (.int 0) :: (.ref (ex 10)) :: (.ref (ex 11)) :: (.ref (ex 12)) :: (.ref (ex 13)) :: []))), ((a 1), .inl (T 1, 2187, .inl (fun _ => 0)))] s.heap := hP
  replace hD : va_D A [((a 0), .inr (12, ((.int 0) :: (.ref (ex 0)) :: (.int 0) :: (.int 0) :: (.int 0) :: (.int 0) :: (.ref (a 1)) :: (.ref (ex 1)) :: (.ref (ex 2)) :: (.ref (ex 3)) :: (.ref (ex 4)) :: (.int 0) :: (.int 0) :: (.int 0) :: (.int 0) :: (.int 0) :: (.int 0) :: (.long 0) :: (.int 0) :: (.int 0) :: (.int 0) :: (.ref (ex 5)) :: (.ref (ex 6)) :: (.int 0) :: (.ref (ex 7)) :: (.int (-1)) :: (.int 0) :: (.int 0) :: (.int 0) :: (.int 0) :: (.int 0) :: (.int 0) :: (.ref (ex 8)) :: (.int 0) :: (.ref (ex 9)) :: (.int 0) :: (.int 0) :: (.int 0) :: (.int 0) :: (.int 0) :: (.ref (ex 10)) :: (.ref (ex 11)) :: (.ref (ex 12)) :: (.ref (ex 13)) :: []))), ((a 1), .inl (T 1, 2187, .inl (fun _ => 0)))] := hD
  have hl := lv_entry ([.ref (a 0)]) (n := 3) (Nat.le_of_ble_eq_true rfl)
  rw [lg_entry_eq]
  generalize (lg_sl ([.ref (a 0)]) ++ List.replicate (3 - (lg_sl ([.ref (a 0)])).length) Slot.unset).toArray = ls at hl ⊢
  replace hl : lv_has ls 3 [(0, .ref (a 0))] := hl
  refine lv_iconst (v := 0) hx hb dX12_calledSet_0 (by decide) ?_
  refine lv_istore_n (lv' := [(1, .int 0), (0, .ref (a 0))]) hx hb dX12_calledSet_1 rfl hl (by decide) rfl (fun ls hl => ?_)
  refine lv_iconst (v := 0) hx hb dX12_calledSet_2 (by decide) ?_
  refine lv_istore_n (lv' := [(2, .int 0), (1, .int 0), (0, .ref (a 0))]) hx hb dX12_calledSet_3 rfl hl (by decide) rfl (fun ls hl => ?_)
  refine lv_iload_n hx hb dX12_calledSet_4 rfl (lv_at hl 0 rfl) ?_
  refine lv_aload_n hx hb dX12_calledSet_5 rfl (lv_at hl 2 rfl) ?_
  refine va_get (D := D) (ci := 12) (v := .ref (a 1)) (C := RX12) (T := TX12) (N := 44) hx hb htg inX12 hown hK.1 hP 0 rfl rfl 6 (by decide) (htg _ kw_1413) (fun _ h9 => h9) rfl dX12_calledSet_6 ?_
  refine lv_iconst (v := 1) hx hb dX12_calledSet_9 (by decide) ?_
  refine va_iald hx hb hK.1 hP 1 1 rfl rfl (vp_in_nI (n := 1) (by decide) (by decide)) dX12_calledSet_10 ?_
  refine xz_i 0 rfl ?_
  refine lv_icmp_ge (tgt := 43) hx hb dX12_calledSet_11 (by decide) (fun _ => ?_) (fun c => absurd (by decide) c)
  refine lv_iload_n hx hb dX12_calledSet_43 rfl (lv_at hl 1 rfl) ?_
  have hP9 := hP.sub (ws' := [((a 0), .inr (12, ((.int 0) :: (.ref (ex 0)) :: (.int 0) :: (.int 0) :: (.int 0) :: (.int 0) :: (.ref (a 1)) :: (.ref (ex 1)) :: (.ref (ex 2)) :: (.ref (ex 3)) :: (.ref (ex 4)) :: (.int 0) :: (.int 0) :: (.int 0) :: (.int 0) :: (.int 0) :: (.int 0) :: (.long 0) :: (.int 0) :: (.int 0) :: (.int 0) :: (.ref (ex 5)) :: (.ref (ex 6)) :: (.int 0) :: (.ref (ex 7)) :: (.int (-1)) :: (.int 0) :: (.int 0) :: (.int 0) :: (.int 0) :: (.int 0) :: (.int 0) :: (.ref (ex 8)) :: (.int 0) :: (.ref (ex 9)) :: (.int 0) :: (.int 0) :: (.int 0) :: (.int 0) :: (.int 0) :: (.ref (ex 10)) :: (.ref (ex 11)) :: (.ref (ex 12)) :: (.ref (ex 13)) :: []))), ((a 1), .inl (T 1, 2187, .inl (fun _ => 0)))]) [0, 1] rfl
  have hD9 := hD.sub (ws' := [((a 0), .inr (12, ((.int 0) :: (.ref (ex 0)) :: (.int 0) :: (.int 0) :: (.int 0) :: (.int 0) :: (.ref (a 1)) :: (.ref (ex 1)) :: (.ref (ex 2)) :: (.ref (ex 3)) :: (.ref (ex 4)) :: (.int 0) :: (.int 0) :: (.int 0) :: (.int 0) :: (.int 0) :: (.int 0) :: (.long 0) :: (.int 0) :: (.int 0) :: (.int 0) :: (.ref (ex 5)) :: (.ref (ex 6)) :: (.int 0) :: (.ref (ex 7)) :: (.int (-1)) :: (.int 0) :: (.int 0) :: (.int 0) :: (.int 0) :: (.int 0) :: (.int 0) :: (.ref (ex 8)) :: (.int 0) :: (.ref (ex 9)) :: (.int 0) :: (.int 0) :: (.int 0) :: (.int 0) :: (.int 0) :: (.ref (ex 10)) :: (.ref (ex 11)) :: (.ref (ex 12)) :: (.ref (ex 13)) :: []))), ((a 1), .inl (T 1, 2187, .inl (fun _ => 0)))]) [0, 1] (by decide +kernel) rfl
  rw [hQ]
  exact W.iret (v := 0) hx hb hr (fun t ht hW => ⟨⟨0, (), rfl, rfl, ⟨xa [], xf [], xh [], xv [], by rw [ht]; exact hP9, hD9, trivial⟩⟩, hS.F ht⟩) hS.2.2 dX12_calledSet_44
abbrev pre_X12_bits (T : Nat → ClassId) (a ex : Nat → Nat) (fi : Nat → Nat → Int32) (fl : Nat → Nat → Int64) (vi : Nat → Int32) : va_W := []
set_option maxHeartbeats 4000000 in
set_option maxRecDepth 100000 in
theorem c_X12_bits (l : Launch) (D : va_G) (T : Nat → ClassId) (a ex : Nat → Nat) (fi : Nat → Nat → Int32) (fl : Nat → Nat → Int64) (vi : Nat → Int32) (sz : Nat) : Met l yX12_bits (xw yX12_bits cX12_bits 3 (some .int)) ({ frames := 0, cells := 0, slots := 0, locals := 0 }) (xP D T [.int 0] sz (pre_X12_bits T a ex fi fl vi)) (va_Qi (fun r (_ : Unit) => r = 0) (xB D (va_A (pre_X12_bits T a ex fi fl vi) sz) (fun _ => True) (fun b fj fm vj => [])) (va_A (pre_X12_bits T a ex fi fl vi) sz)) 0 0 (va_A (pre_X12_bits T a ex fi fl vi) sz) := by
  refine xofW (cc := cX12_bits) (maxL := 3) (ret := (some .int)) (by decide) rfl ?_
  intro p e s m args below meth c s₁ R Q hR hQ B hml hv
  obtain ⟨rfl, hsz, hP, hK, hD0⟩ := hv
  have hx := B.exec
  have hb := B.bytes
  have hr := B.returns
  have hts := atoms_spec (ws := xw yX12_bits cX12_bits 3 (some .int)) B.pre
  have htg : ∀ w ∈ xg, w.before _ s = true := fun w h => hts w (List.mem_cons_of_mem _ h)
  have hown : s.vm.findClass RX12 = some m.cls := findClass_of_methodNamed B.named
  have hlocks := B.notSynchronized
  subst hsz
  have hD := hD0.self (sz := s.heap.size)
  generalize hAe : va_A (pre_X12_bits T a ex fi fl vi) s.heap.size = A at hD hQ
  have hA : ∀ q : Nat, s.heap.size ≤ q → A q := fun q h => by rw [← hAe]; exact Or.inr h
  have hS : va_S A s.heap s.heap [] := va_S.rf
  replace hP : va_P D vwCl [] s.heap := hP
  replace hD : va_D A [] := hD
  have hl := lv_entry ([.int 0]) (n := 3) (Nat.le_of_ble_eq_true rfl)
  rw [lg_entry_eq]
  generalize (lg_sl ([.int 0]) ++ List.replicate (3 - (lg_sl ([.int 0])).length) Slot.unset).toArray = ls at hl ⊢
  replace hl : lv_has ls 3 [(0, .int 0)] := hl
  refine lv_iconst (v := 0) hx hb dX12_bits_0 (by decide) ?_
  refine lv_istore_n (lv' := [(1, .int 0), (0, .int 0)]) hx hb dX12_bits_1 rfl hl (by decide) rfl (fun ls hl => ?_)
  refine lv_iload_n hx hb dX12_bits_2 rfl (lv_at hl 1 rfl) ?_
  refine lv_istore_n (lv' := [(2, .int 0), (1, .int 0), (0, .int 0)]) hx hb dX12_bits_3 rfl hl (by decide) rfl (fun ls hl => ?_)
  refine lv_iload_n hx hb dX12_bits_4 rfl (lv_at hl 0 rfl) ?_
  refine lv_if_eq (tgt := 20) hx hb dX12_bits_5 (by decide) (fun _ => ?_) (fun c => absurd (by decide) c)
  refine lv_iload_n hx hb dX12_bits_20 rfl (lv_at hl 1 rfl) ?_
  have hP9 := hP.sub (ws' := []) [] rfl
  have hD9 := hD.sub (ws' := []) [] (by decide +kernel) rfl
  rw [hQ]
  exact W.iret (v := 0) hx hb hr (fun t ht hW => ⟨⟨0, (), rfl, rfl, ⟨xa [], xf [], xh [], xv [], by rw [ht]; exact hP9, hD9, trivial⟩⟩, hS.F ht⟩) hS.2.2 dX12_bits_21
abbrev pre_X12_hasEnough (T : Nat → ClassId) (a ex : Nat → Nat) (fi : Nat → Nat → Int32) (fl : Nat → Nat → Int64) (vi : Nat → Int32) : va_W := [((a 0), .inr (12, ((.int 0) :: (.ref (ex 0)) :: (.int 0) :: (.int 0) :: (.int 0) :: (.int 0) :: (.ref (a 1)) :: (.ref (ex 1)) :: (.ref (ex 2)) :: (.ref (ex 3)) :: (.ref (ex 4)) :: (.int 0) :: (.int 0) :: (.int 0) :: (.int 0) :: (.int 0) :: (.int 0) :: (.long 0) :: (.int 0) :: (.int 0) :: (.int 0) :: (.ref (ex 5)) :: (.ref (ex 6)) :: (.int 0) :: (.ref (ex 7)) :: (.int (-1)) :: (.int 0) :: (.int 0) :: (.int 0) :: (.int 0) :: (.int 0) :: (.int 0) :: (.ref (ex 8)) :: (.int 0) :: (.ref (ex 9)) :: (.int 0) :: (.int 0) :: (.int 0) :: (.int 0) :: (.int 0) :: (.ref (ex 10)) :: (.ref (ex 11)) :: (.ref (ex 12)) :: (.ref (ex 13)) :: []))), ((a 1), .inl (T 1, 2187, .inl (fun _ => 0)))]
set_option maxHeartbeats 4000000 in
set_option maxRecDepth 100000 in
theorem c_X12_hasEnough (l : Launch) (D : va_G) (T : Nat → ClassId) (a ex : Nat → Nat) (fi : Nat → Nat → Int32) (fl : Nat → Nat → Int64) (vi : Nat → Int32) (sz : Nat) : Met l yX12_hasEnough (xw yX12_hasEnough cX12_hasEnough 5 (some .boolean)) ({ frames := 1, cells := 0, slots := 0, locals := 26 }) (xP D T [.ref (a 0), .int 0] sz (pre_X12_hasEnough T a ex fi fl vi)) (va_Qi (fun r (_ : Unit) => r = 0) (xB D (va_A (pre_X12_hasEnough T a ex fi fl vi) sz) (fun _ => True) (fun b fj fm vj => [((a 0), .inr (12, ((.int 0) :: (.ref (ex 0)) :: (.int 0) :: (.int 0) :: (.int 0) :: (.int 0) :: (.ref (a 1)) :: (.ref (ex 1)) :: (.ref (ex 2)) :: (.ref (ex 3)) :: (.ref (ex 4)) :: (.int 0) :: (.int 0) :: (.int 0) :: (.int 0) :: (.int 0) :: (.int 0) :: (.long 0) :: (.int 0) :: (.int 0) :: (.int 0) :: (.ref (ex 5)) :: (.ref (ex 6)) :: (.int 0) :: (.ref (ex 7)) :: (.int (-1)) :: (.int 0) :: (.int 0) :: (.int 0) :: (.int 0) :: (.int 0) :: (.int 0) :: (.ref (ex 8)) :: (.int 0) :: (.ref (ex 9)) :: (.int 0) :: (.int 0) :: (.int 0) :: (.int 0) :: (.int 0) :: (.ref (ex 10)) :: (.ref (ex 11)) :: (.ref (ex 12)) :: (.ref (ex 13)) :: []))), ((a 1), .inl (T 1, 2187, .inl (fun _ => 0)))])) (va_A (pre_X12_hasEnough T a ex fi fl vi) sz)) 0 0 (va_A (pre_X12_hasEnough T a ex fi fl vi) sz) := by
  refine xofW (cc := cX12_hasEnough) (maxL := 5) (ret := (some .boolean)) (by decide) rfl ?_
  intro p e s m args below meth c s₁ R Q hR hQ B hml hv
  obtain ⟨rfl, hsz, hP, hK, hD0⟩ := hv
  have hx := B.exec
  have hb := B.bytes
  have hr := B.returns
  have hts := atoms_spec (ws := xw yX12_hasEnough cX12_hasEnough 5 (some .boolean)) B.pre
  have htg : ∀ w ∈ xg, w.before _ s = true := fun w h => hts w (List.mem_cons_of_mem _ h)
  have hown : s.vm.findClass RX12 = some m.cls := findClass_of_methodNamed B.named
  have hlocks := B.notSynchronized
  subst hsz
  have hD := hD0.self (sz := s.heap.size)
  generalize hAe : va_A (pre_X12_hasEnough T a ex fi fl vi) s.heap.size = A at hD hQ
  have hA : ∀ q : Nat, s.heap.size ≤ q → A q := fun q h => by rw [← hAe]; exact Or.inr h
  have hS : va_S A s.heap s.heap [] := va_S.rf
  replace hP : va_P D vwCl [((a 0), .inr (12, ((.int 0) :: (.ref (ex 0)) :: (.int 0) :: (.int 0) :: (.int 0) :: (.int 0) :: (.ref (a 1)) :: (.ref (ex 1)) :: (.ref (ex 2)) :: (.ref (ex 3)) :: (.ref (ex 4)) :: (.int 0) :: (.int 0) :: (.int 0) :: (.int 0) :: (.int 0) :: (.int 0) :: (.long 0) :: (.int 0) :: (.int 0) :: (.int 0) :: (.ref (ex 5)) :: (.ref (ex 6)) :: (.int 0) :: (.ref (ex 7)) :: (.int (-1)) :: (.int 0) :: (.int 0) :: (.int 0) :: (.int 0) :: (.int 0) :: (.int 0) :: (.ref (ex 8)) :: (.int 0) :: (.ref (ex 9)) :: (.int 0) :: (.int 0) :: (.int 0) :: (.int 0) :: (.int 0) :: (.ref (ex 10)) :: (.ref (ex 11)) :: (.ref (ex 12)) :: (.ref (ex 13)) :: []))), ((a 1), .inl (T 1, 2187, .inl (fun _ => 0)))] s.heap := hP
  replace hD : va_D A [((a 0), .inr (12, ((.int 0) :: (.ref (ex 0)) :: (.int 0) :: (.int 0) :: (.int 0) :: (.int 0) :: (.ref (a 1)) :: (.ref (ex 1)) :: (.ref (ex 2)) :: (.ref (ex 3)) :: (.ref (ex 4)) :: (.int 0) :: (.int 0) :: (.int 0) :: (.int 0) :: (.int 0) :: (.int 0) :: (.long 0) :: (.int 0) :: (.int 0) :: (.int 0) :: (.ref (ex 5)) :: (.ref (ex 6)) :: (.int 0) :: (.ref (ex 7)) :: (.int (-1)) :: (.int 0) :: (.int 0) :: (.int 0) :: (.int 0) :: (.int 0) :: (.int 0) :: (.ref (ex 8)) :: (.int 0) :: (.ref (ex 9)) :: (.int 0) :: (.int 0) :: (.int 0) :: (.int 0) :: (.int 0) :: (.ref (ex 10)) :: (.ref (ex 11)) :: (.ref (ex 12)) :: (.ref (ex 13)) :: []))), ((a 1), .inl (T 1, 2187, .inl (fun _ => 0)))] := hD
  have hl := lv_entry ([.ref (a 0), .int 0]) (n := 5) (Nat.le_of_ble_eq_true rfl)
  rw [lg_entry_eq]
  generalize (lg_sl ([.ref (a 0), .int 0]) ++ List.replicate (5 - (lg_sl ([.ref (a 0), .int 0])).length) Slot.unset).toArray = ls at hl ⊢
  replace hl : lv_has ls 5 [(0, .ref (a 0)), (1, .int 0)] := hl
  refine lv_aload_n hx hb dX12_hasEnough_0 rfl (lv_at hl 0 rfl) ?_
  have hPc := hP.sub (ws' := (pre_X12_waitSet T (xa [(a 0), (a 1)]) (xa [(ex 0), (ex 1), (ex 2), (ex 3), (ex 4), (ex 5), (ex 6), (ex 7), (ex 8), (ex 9), (ex 10), (ex 11), (ex 12), (ex 13)]) (xf []) (xh []) (xv []))) [0, 1] rfl
  have hDc := hD.sub (ws' := (pre_X12_waitSet T (xa [(a 0), (a 1)]) (xa [(ex 0), (ex 1), (ex 2), (ex 3), (ex 4), (ex 5), (ex 6), (ex 7), (ex 8), (ex 9), (ex 10), (ex 11), (ex 12), (ex 13)]) (xf []) (xh []) (xv []))) [0, 1] (by decide) rfl
  have hFc := va_free (wc := (pre_X12_waitSet T (xa [(a 0), (a 1)]) (xa [(ex 0), (ex 1), (ex 2), (ex 3), (ex 4), (ex 5), (ex 6), (ex 7), (ex 8), (ex 9), (ex 10), (ex 11), (ex 12), (ex 13)]) (xf []) (xh []) (xv []))) hD hS hA [0, 1] rfl
  refine va_calli (va_runV (As := []) (rest := []) ⟨hx, hb, hml, hown, htg⟩ (c_X12_waitSet l D T (xa [(a 0), (a 1)]) (xa [(ex 0), (ex 1), (ex 2), (ex 3), (ex 4), (ex 5), (ex 6), (ex 7), (ex 8), (ex 9), (ex 10), (ex 11), (ex 12), (ex 13)]) (xf []) (xh []) (xv []) s.heap.size) ⟨callB_of 0 htg (xg_ok kw_1888) rfl rfl rfl (htg _ kw_17) (htg _ kw_1885) (by decide +kernel) ⟨by rw [hR]; exact Nat.le_of_ble_eq_true rfl, by rw [hR]; exact Nat.le_of_ble_eq_true rfl⟩, htg _ kw_1887, htg _ ks_170⟩ (xpreV hK hPc hDc (va_recv hK.1 hPc (ci := 12) (q0 := 0) rfl rfl)) rfl rfl hl.1 rfl (lv_room (Nat.le_of_ble_eq_true rfl)) dX12_hasEnough_1 ⟨by rw [hR]; exact Nat.le_of_ble_eq_true rfl, by rw [hR]; exact Nat.le_of_ble_eq_true rfl⟩) hS (fun q _ h => hFc q h) hFc (fun r9 u t H1 locs ht hvm hw hB hz1 hk1 hS => ?_)
  obtain ⟨bk, fik, flk, vik, hP1, hD1, hGk⟩ := hB
  rw [ht] at hP1
  obtain ⟨hP, hD⟩ := va_join (wr := []) (w1 := [((a 0), .inr (12, ((.int 0) :: (.ref (ex 0)) :: (.int 0) :: (.int 0) :: (.int 0) :: (.int 0) :: (.ref (a 1)) :: (.ref (ex 1)) :: (.ref (ex 2)) :: (.ref (ex 3)) :: (.ref (ex 4)) :: (.int 0) :: (.int 0) :: (.int 0) :: (.int 0) :: (.int 0) :: (.int 0) :: (.long 0) :: (.int 0) :: (.int 0) :: (.int 0) :: (.ref (ex 5)) :: (.ref (ex 6)) :: (.int 0) :: (.ref (ex 7)) :: (.int (-1)) :: (.int 0) :: (.int 0) :: (.int 0) :: (.int 0) :: (.int 0) :: (.int 0) :: (.ref (ex 8)) :: (.int 0) :: (.ref (ex 9)) :: (.int 0) :: (.int 0) :: (.int 0) :: (.int 0) :: (.int 0) :: (.ref (ex 10)) :: (.ref (ex 11)) :: (.ref (ex 12)) :: (.ref (ex 13)) :: []))), ((a 1), .inl (T 1, 2187, .inl (fun _ => 0)))]) hP hD [0, 1] [] rfl rfl (by decide) (by decide) hk1 hFc hP1 hD1
  subst hw
  clear hPc hDc hFc hP1 hD1 hk1 hz1 hvm ht
  generalize H1 = H at hP hS ⊢
  replace hP : va_P D vwCl [((a 0), .inr (12, ((.int 0) :: (.ref (ex 0)) :: (.int 0) :: (.int 0) :: (.int 0) :: (.int 0) :: (.ref (a 1)) :: (.ref (ex 1)) :: (.ref (ex 2)) :: (.ref (ex 3)) :: (.ref (ex 4)) :: (.int 0) :: (.int 0) :: (.int 0) :: (.int 0) :: (.int 0) :: (.int 0) :: (.long 0) :: (.int 0) :: (.int 0) :: (.int 0) :: (.ref (ex 5)) :: (.ref (ex 6)) :: (.int 0) :: (.ref (ex 7)) :: (.int (-1)) :: (.int 0) :: (.int 0) :: (.int 0) :: (.int 0) :: (.int 0) :: (.int 0) :: (.ref (ex 8)) :: (.int 0) :: (.ref (ex 9)) :: (.int 0) :: (.int 0) :: (.int 0) :: (.int 0) :: (.int 0) :: (.ref (ex 10)) :: (.ref (ex 11)) :: (.ref (ex 12)) :: (.ref (ex 13)) :: []))), ((a 1), .inl (T 1, 2187, .inl (fun _ => 0)))] H := hP
  replace hD : va_D A [((a 0), .inr (12, ((.int 0) :: (.ref (ex 0)) :: (.int 0) :: (.int 0) :: (.int 0) :: (.int 0) :: (.ref (a 1)) :: (.ref (ex 1)) :: (.ref (ex 2)) :: (.ref (ex 3)) :: (.ref (ex 4)) :: (.int 0) :: (.int 0) :: (.int 0) :: (.int 0) :: (.int 0) :: (.int 0) :: (.long 0) :: (.int 0) :: (.int 0) :: (.int 0) :: (.ref (ex 5)) :: (.ref (ex 6)) :: (.int 0) :: (.ref (ex 7)) :: (.int (-1)) :: (.int 0) :: (.int 0) :: (.int 0) :: (.int 0) :: (.int 0) :: (.int 0) :: (.ref (ex 8)) :: (.int 0) :: (.ref (ex 9)) :: (.int 0) :: (.int 0) :: (.int 0) :: (.int 0) :: (.int 0) :: (.ref (ex 10)) :: (.ref (ex 11)) :: (.ref (ex 12)) :: (.ref (ex 13)) :: []))), ((a 1), .inl (T 1, 2187, .inl (fun _ => 0)))] := hD
  refine lv_istore_n (lv' := [(2, .int 0), (0, .ref (a 0)), (1, .int 0)]) hx hb dX12_hasEnough_4 rfl hl (by decide) rfl (fun ls hl => ?_)
  refine lv_aload_n hx hb dX12_hasEnough_5 rfl (lv_at hl 1 rfl) ?_
  have hPc := hP.sub (ws' := (pre_X12_calledSet T (xa [(a 0), (a 1)]) (xa [(ex 0), (ex 1), (ex 2), (ex 3), (ex 4), (ex 5), (ex 6), (ex 7), (ex 8), (ex 9), (ex 10), (ex 11), (ex 12), (ex 13)]) (xf []) (xh []) (xv []))) [0, 1] rfl
  have hDc := hD.sub (ws' := (pre_X12_calledSet T (xa [(a 0), (a 1)]) (xa [(ex 0), (ex 1), (ex 2), (ex 3), (ex 4), (ex 5), (ex 6), (ex 7), (ex 8), (ex 9), (ex 10), (ex 11), (ex 12), (ex 13)]) (xf []) (xh []) (xv []))) [0, 1] (by decide) rfl
  have hFc := va_free (wc := (pre_X12_calledSet T (xa [(a 0), (a 1)]) (xa [(ex 0), (ex 1), (ex 2), (ex 3), (ex 4), (ex 5), (ex 6), (ex 7), (ex 8), (ex 9), (ex 10), (ex 11), (ex 12), (ex 13)]) (xf []) (xh []) (xv []))) hD hS hA [0, 1] rfl
  refine va_calli (va_runV (As := []) (rest := []) ⟨hx, hb, hml, hown, htg⟩ (c_X12_calledSet l D T (xa [(a 0), (a 1)]) (xa [(ex 0), (ex 1), (ex 2), (ex 3), (ex 4), (ex 5), (ex 6), (ex 7), (ex 8), (ex 9), (ex 10), (ex 11), (ex 12), (ex 13)]) (xf []) (xh []) (xv []) H.size) ⟨callB_of 0 htg (xg_ok kw_1892) rfl rfl rfl (htg _ kw_17) (htg _ kw_1889) (by decide +kernel) ⟨by rw [hR]; exact Nat.le_of_ble_eq_true rfl, by rw [hR]; exact Nat.le_of_ble_eq_true rfl⟩, htg _ kw_1891, htg _ ks_171⟩ (xpreV hK hPc hDc (va_recv hK.1 hPc (ci := 12) (q0 := 0) rfl rfl)) rfl rfl hl.1 rfl (lv_room (Nat.le_of_ble_eq_true rfl)) dX12_hasEnough_6 ⟨by rw [hR]; exact Nat.le_of_ble_eq_true rfl, by rw [hR]; exact Nat.le_of_ble_eq_true rfl⟩) hS (fun q _ h => hFc q h) hFc (fun r9 u t H1 locs ht hvm hw hB hz1 hk1 hS => ?_)
  obtain ⟨bk_1, fik_1, flk_1, vik_1, hP1, hD1, hGk_1⟩ := hB
  rw [ht] at hP1
  obtain ⟨hP, hD⟩ := va_join (wr := []) (w1 := [((a 0), .inr (12, ((.int 0) :: (.ref (ex 0)) :: (.int 0) :: (.int 0) :: (.int 0) :: (.int 0) :: (.ref (a 1)) :: (.ref (ex 1)) :: (.ref (ex 2)) :: (.ref (ex 3)) :: (.ref (ex 4)) :: (.int 0) :: (.int 0) :: (.int 0) :: (.int 0) :: (.int 0) :: (.int 0) :: (.long 0) :: (.int 0) :: (.int 0) :: (.int 0) :: (.ref (ex 5)) :: (.ref (ex 6)) :: (.int 0) :: (.ref (ex 7)) :: (.int (-1)) :: (.int 0) :: (.int 0) :: (.int 0) :: (.int 0) :: (.int 0) :: (.int 0) :: (.ref (ex 8)) :: (.int 0) :: (.ref (ex 9)) :: (.int 0) :: (.int 0) :: (.int 0) :: (.int 0) :: (.int 0) :: (.ref (ex 10)) :: (.ref (ex 11)) :: (.ref (ex 12)) :: (.ref (ex 13)) :: []))), ((a 1), .inl (T 1, 2187, .inl (fun _ => 0)))]) hP hD [0, 1] [] rfl rfl (by decide) (by decide) hk1 hFc hP1 hD1
  subst hw
  clear hPc hDc hFc hP1 hD1 hk1 hz1 hvm ht
  generalize H1 = H at hP hS ⊢
  replace hP : va_P D vwCl [((a 0), .inr (12, ((.int 0) :: (.ref (ex 0)) :: (.int 0) :: (.int 0) :: (.int 0) :: (.int 0) :: (.ref (a 1)) :: (.ref (ex 1)) :: (.ref (ex 2)) :: (.ref (ex 3)) :: (.ref (ex 4)) :: (.int 0) :: (.int 0) :: (.int 0) :: (.int 0) :: (.int 0) :: (.int 0) :: (.long 0) :: (.int 0) :: (.int 0) :: (.int 0) :: (.ref (ex 5)) :: (.ref (ex 6)) :: (.int 0) :: (.ref (ex 7)) :: (.int (-1)) :: (.int 0) :: (.int 0) :: (.int 0) :: (.int 0) :: (.int 0) :: (.int 0) :: (.ref (ex 8)) :: (.int 0) :: (.ref (ex 9)) :: (.int 0) :: (.int 0) :: (.int 0) :: (.int 0) :: (.int 0) :: (.ref (ex 10)) :: (.ref (ex 11)) :: (.ref (ex 12)) :: (.ref (ex 13)) :: []))), ((a 1), .inl (T 1, 2187, .inl (fun _ => 0)))] H := hP
  replace hD : va_D A [((a 0), .inr (12, ((.int 0) :: (.ref (ex 0)) :: (.int 0) :: (.int 0) :: (.int 0) :: (.int 0) :: (.ref (a 1)) :: (.ref (ex 1)) :: (.ref (ex 2)) :: (.ref (ex 3)) :: (.ref (ex 4)) :: (.int 0) :: (.int 0) :: (.int 0) :: (.int 0) :: (.int 0) :: (.int 0) :: (.long 0) :: (.int 0) :: (.int 0) :: (.int 0) :: (.ref (ex 5)) :: (.ref (ex 6)) :: (.int 0) :: (.ref (ex 7)) :: (.int (-1)) :: (.int 0) :: (.int 0) :: (.int 0) :: (.int 0) :: (.int 0) :: (.int 0) :: (.ref (ex 8)) :: (.int 0) :: (.ref (ex 9)) :: (.int 0) :: (.int 0) :: (.int 0) :: (.int 0) :: (.int 0) :: (.ref (ex 10)) :: (.ref (ex 11)) :: (.ref (ex 12)) :: (.ref (ex 13)) :: []))), ((a 1), .inl (T 1, 2187, .inl (fun _ => 0)))] := hD
  have hPc := hP.sub (ws' := (pre_X12_bits T (xa []) (xa []) (xf []) (xh []) (xv []))) [] rfl
  have hDc := hD.sub (ws' := (pre_X12_bits T (xa []) (xa []) (xf []) (xh []) (xv []))) [] (by decide) rfl
  have hFc := va_free (wc := (pre_X12_bits T (xa []) (xa []) (xf []) (xh []) (xv []))) hD hS hA [] rfl
  refine va_calli (va_runS (As := [.int 0]) (rest := []) ⟨hx, hb, hml, hown, htg⟩ (c_X12_bits l D T (xa []) (xa []) (xf []) (xh []) (xv []) H.size) ⟨callB_of 1 htg (xg_ok kw_1895) rfl rfl rfl (htg _ kw_17) (htg _ kw_1893) (by decide +kernel) ⟨by rw [hR]; exact Nat.le_of_ble_eq_true rfl, by rw [hR]; exact Nat.le_of_ble_eq_true rfl⟩, htg _ kw_1894⟩ (xpreS hK hPc hDc) rfl rfl hl.1 rfl (lv_room (Nat.le_of_ble_eq_true rfl)) dX12_hasEnough_9 ⟨by rw [hR]; exact Nat.le_of_ble_eq_true rfl, by rw [hR]; exact Nat.le_of_ble_eq_true rfl⟩) hS (fun q _ h => hFc q h) hFc (fun r9 u t H1 locs ht hvm hw hB hz1 hk1 hS => ?_)
  obtain ⟨bk_2, fik_2, flk_2, vik_2, hP1, hD1, hGk_2⟩ := hB
  rw [ht] at hP1
  obtain ⟨hP, hD⟩ := va_join (wr := [((a 0), .inr (12, ((.int 0) :: (.ref (ex 0)) :: (.int 0) :: (.int 0) :: (.int 0) :: (.int 0) :: (.ref (a 1)) :: (.ref (ex 1)) :: (.ref (ex 2)) :: (.ref (ex 3)) :: (.ref (ex 4)) :: (.int 0) :: (.int 0) :: (.int 0) :: (.int 0) :: (.int 0) :: (.int 0) :: (.long 0) :: (.int 0) :: (.int 0) :: (.int 0) :: (.ref (ex 5)) :: (.ref (ex 6)) :: (.int 0) :: (.ref (ex 7)) :: (.int (-1)) :: (.int 0) :: (.int 0) :: (.int 0) :: (.int 0) :: (.int 0) :: (.int 0) :: (.ref (ex 8)) :: (.int 0) :: (.ref (ex 9)) :: (.int 0) :: (.int 0) :: (.int 0) :: (.int 0) :: (.int 0) :: (.ref (ex 10)) :: (.ref (ex 11)) :: (.ref (ex 12)) :: (.ref (ex 13)) :: []))), ((a 1), .inl (T 1, 2187, .inl (fun _ => 0)))]) (w1 := []) hP hD [] [0, 1] rfl rfl (by decide) (by decide) hk1 hFc hP1 hD1
  subst hw
  clear hPc hDc hFc hP1 hD1 hk1 hz1 hvm ht
  generalize H1 = H at hP hS ⊢
  replace hP : va_P D vwCl [((a 0), .inr (12, ((.int 0) :: (.ref (ex 0)) :: (.int 0) :: (.int 0) :: (.int 0) :: (.int 0) :: (.ref (a 1)) :: (.ref (ex 1)) :: (.ref (ex 2)) :: (.ref (ex 3)) :: (.ref (ex 4)) :: (.int 0) :: (.int 0) :: (.int 0) :: (.int 0) :: (.int 0) :: (.int 0) :: (.long 0) :: (.int 0) :: (.int 0) :: (.int 0) :: (.ref (ex 5)) :: (.ref (ex 6)) :: (.int 0) :: (.ref (ex 7)) :: (.int (-1)) :: (.int 0) :: (.int 0) :: (.int 0) :: (.int 0) :: (.int 0) :: (.int 0) :: (.ref (ex 8)) :: (.int 0) :: (.ref (ex 9)) :: (.int 0) :: (.int 0) :: (.int 0) :: (.int 0) :: (.int 0) :: (.ref (ex 10)) :: (.ref (ex 11)) :: (.ref (ex 12)) :: (.ref (ex 13)) :: []))), ((a 1), .inl (T 1, 2187, .inl (fun _ => 0)))] H := hP
  replace hD : va_D A [((a 0), .inr (12, ((.int 0) :: (.ref (ex 0)) :: (.int 0) :: (.int 0) :: (.int 0) :: (.int 0) :: (.ref (a 1)) :: (.ref (ex 1)) :: (.ref (ex 2)) :: (.ref (ex 3)) :: (.ref (ex 4)) :: (.int 0) :: (.int 0) :: (.int 0) :: (.int 0) :: (.int 0) :: (.int 0) :: (.long 0) :: (.int 0) :: (.int 0) :: (.int 0) :: (.ref (ex 5)) :: (.ref (ex 6)) :: (.int 0) :: (.ref (ex 7)) :: (.int (-1)) :: (.int 0) :: (.int 0) :: (.int 0) :: (.int 0) :: (.int 0) :: (.int 0) :: (.ref (ex 8)) :: (.int 0) :: (.ref (ex 9)) :: (.int 0) :: (.int 0) :: (.int 0) :: (.int 0) :: (.int 0) :: (.ref (ex 10)) :: (.ref (ex 11)) :: (.ref (ex 12)) :: (.ref (ex 13)) :: []))), ((a 1), .inl (T 1, 2187, .inl (fun _ => 0)))] := hD
  refine lv_iload_n hx hb dX12_hasEnough_12 rfl (lv_at hl 0 rfl) ?_
  refine lv_if_eq (tgt := 20) hx hb dX12_hasEnough_13 (by decide) (fun _ => ?_) (fun c => absurd (by decide) c)
  refine lv_iconst (v := 0) hx hb dX12_hasEnough_20 (by decide) ?_
  refine lv_iadd hx hb dX12_hasEnough_21 ?_
  refine xz_i 0 (by decide) ?_
  refine lv_istore_n (lv' := [(3, .int 0), (2, .int 0), (0, .ref (a 0)), (1, .int 0)]) hx hb dX12_hasEnough_22 rfl hl (by decide) rfl (fun ls hl => ?_)
  refine lv_iload_n hx hb dX12_hasEnough_23 rfl (lv_at hl 3 rfl) ?_
  refine lv_aload_n hx hb dX12_hasEnough_24 rfl (lv_at hl 2 rfl) ?_
  have hPc := hP.sub (ws' := (pre_X12_calledSet T (xa [(a 0), (a 1)]) (xa [(ex 0), (ex 1), (ex 2), (ex 3), (ex 4), (ex 5), (ex 6), (ex 7), (ex 8), (ex 9), (ex 10), (ex 11), (ex 12), (ex 13)]) (xf []) (xh []) (xv []))) [0, 1] rfl
  have hDc := hD.sub (ws' := (pre_X12_calledSet T (xa [(a 0), (a 1)]) (xa [(ex 0), (ex 1), (ex 2), (ex 3), (ex 4), (ex 5), (ex 6), (ex 7), (ex 8), (ex 9), (ex 10), (ex 11), (ex 12), (ex 13)]) (xf []) (xh []) (xv []))) [0, 1] (by decide) rfl
  have hFc := va_free (wc := (pre_X12_calledSet T (xa [(a 0), (a 1)]) (xa [(ex 0), (ex 1), (ex 2), (ex 3), (ex 4), (ex 5), (ex 6), (ex 7), (ex 8), (ex 9), (ex 10), (ex 11), (ex 12), (ex 13)]) (xf []) (xh []) (xv []))) hD hS hA [0, 1] rfl
  refine va_calli (va_runV (As := []) (rest := [.int 0]) ⟨hx, hb, hml, hown, htg⟩ (c_X12_calledSet l D T (xa [(a 0), (a 1)]) (xa [(ex 0), (ex 1), (ex 2), (ex 3), (ex 4), (ex 5), (ex 6), (ex 7), (ex 8), (ex 9), (ex 10), (ex 11), (ex 12), (ex 13)]) (xf []) (xh []) (xv []) H.size) ⟨callB_of 0 htg (xg_ok kw_1892) rfl rfl rfl (htg _ kw_17) (htg _ kw_1889) (by decide +kernel) ⟨by rw [hR]; exact Nat.le_of_ble_eq_true rfl, by rw [hR]; exact Nat.le_of_ble_eq_true rfl⟩, htg _ kw_1891, htg _ ks_171⟩ (xpreV hK hPc hDc (va_recv hK.1 hPc (ci := 12) (q0 := 0) rfl rfl)) rfl rfl hl.1 rfl (lv_room (Nat.le_of_ble_eq_true rfl)) dX12_hasEnough_25 ⟨by rw [hR]; exact Nat.le_of_ble_eq_true rfl, by rw [hR]; exact Nat.le_of_ble_eq_true rfl⟩) hS (fun q _ h => hFc q h) hFc (fun r9 u t H1 locs ht hvm hw hB hz1 hk1 hS => ?_)
  obtain ⟨bk_3, fik_3, flk_3, vik_3, hP1, hD1, hGk_3⟩ := hB
  rw [ht] at hP1
  obtain ⟨hP, hD⟩ := va_join (wr := []) (w1 := [((a 0), .inr (12, ((.int 0) :: (.ref (ex 0)) :: (.int 0) :: (.int 0) :: (.int 0) :: (.int 0) :: (.ref (a 1)) :: (.ref (ex 1)) :: (.ref (ex 2)) :: (.ref (ex 3)) :: (.ref (ex 4)) :: (.int 0) :: (.int 0) :: (.int 0) :: (.int 0) :: (.int 0) :: (.int 0) :: (.long 0) :: (.int 0) :: (.int 0) :: (.int 0) :: (.ref (ex 5)) :: (.ref (ex 6)) :: (.int 0) :: (.ref (ex 7)) :: (.int (-1)) :: (.int 0) :: (.int 0) :: (.int 0) :: (.int 0) :: (.int 0) :: (.int 0) :: (.ref (ex 8)) :: (.int 0) :: (.ref (ex 9)) :: (.int 0) :: (.int 0) :: (.int 0) :: (.int 0) :: (.int 0) :: (.ref (ex 10)) :: (.ref (ex 11)) :: (.ref (ex 12)) :: (.ref (ex 13)) :: []))), ((a 1), .inl (T 1, 2187, .inl (fun _ => 0)))]) hP hD [0, 1] [] rfl rfl (by decide) (by decide) hk1 hFc hP1 hD1
  subst hw
  clear hPc hDc hFc hP1 hD1 hk1 hz1 hvm ht
  generalize H1 = H at hP hS ⊢
  replace hP : va_P D vwCl [((a 0), .inr (12, ((.int 0) :: (.ref (ex 0)) :: (.int 0) :: (.int 0) :: (.int 0) :: (.int 0) :: (.ref (a 1)) :: (.ref (ex 1)) :: (.ref (ex 2)) :: (.ref (ex 3)) :: (.ref (ex 4)) :: (.int 0) :: (.int 0) :: (.int 0) :: (.int 0) :: (.int 0) :: (.int 0) :: (.long 0) :: (.int 0) :: (.int 0) :: (.int 0) :: (.ref (ex 5)) :: (.ref (ex 6)) :: (.int 0) :: (.ref (ex 7)) :: (.int (-1)) :: (.int 0) :: (.int 0) :: (.int 0) :: (.int 0) :: (.int 0) :: (.int 0) :: (.ref (ex 8)) :: (.int 0) :: (.ref (ex 9)) :: (.int 0) :: (.int 0) :: (.int 0) :: (.int 0) :: (.int 0) :: (.ref (ex 10)) :: (.ref (ex 11)) :: (.ref (ex 12)) :: (.ref (ex 13)) :: []))), ((a 1), .inl (T 1, 2187, .inl (fun _ => 0)))] H := hP
  replace hD : va_D A [((a 0), .inr (12, ((.int 0) :: (.ref (ex 0)) :: (.int 0) :: (.int 0) :: (.int 0) :: (.int 0) :: (.ref (a 1)) :: (.ref (ex 1)) :: (.ref (ex 2)) :: (.ref (ex 3)) :: (.ref (ex 4)) :: (.int 0) :: (.int 0) :: (.int 0) :: (.int 0) :: (.int 0) :: (.int 0) :: (.long 0) :: (.int 0) :: (.int 0) :: (.int 0) :: (.ref (ex 5)) :: (.ref (ex 6)) :: (.int 0) :: (.ref (ex 7)) :: (.int (-1)) :: (.int 0) :: (.int 0) :: (.int 0) :: (.int 0) :: (.int 0) :: (.int 0) :: (.ref (ex 8)) :: (.int 0) :: (.ref (ex 9)) :: (.int 0) :: (.int 0) :: (.int 0) :: (.int 0) :: (.int 0) :: (.ref (ex 10)) :: (.ref (ex 11)) :: (.ref (ex 12)) :: (.ref (ex 13)) :: []))), ((a 1), .inl (T 1, 2187, .inl (fun _ => 0)))] := hD
  refine lv_iand hx hb dX12_hasEnough_28 ?_
  refine xz_i 0 (by decide) ?_
  have hPc := hP.sub (ws' := (pre_X12_bits T (xa []) (xa []) (xf []) (xh []) (xv []))) [] rfl
  have hDc := hD.sub (ws' := (pre_X12_bits T (xa []) (xa []) (xf []) (xh []) (xv []))) [] (by decide) rfl
  have hFc := va_free (wc := (pre_X12_bits T (xa []) (xa []) (xf []) (xh []) (xv []))) hD hS hA [] rfl
  refine va_calli (va_runS (As := [.int 0]) (rest := []) ⟨hx, hb, hml, hown, htg⟩ (c_X12_bits l D T (xa []) (xa []) (xf []) (xh []) (xv []) H.size) ⟨callB_of 1 htg (xg_ok kw_1895) rfl rfl rfl (htg _ kw_17) (htg _ kw_1893) (by decide +kernel) ⟨by rw [hR]; exact Nat.le_of_ble_eq_true rfl, by rw [hR]; exact Nat.le_of_ble_eq_true rfl⟩, htg _ kw_1894⟩ (xpreS hK hPc hDc) rfl rfl hl.1 rfl (lv_room (Nat.le_of_ble_eq_true rfl)) dX12_hasEnough_29 ⟨by rw [hR]; exact Nat.le_of_ble_eq_true rfl, by rw [hR]; exact Nat.le_of_ble_eq_true rfl⟩) hS (fun q _ h => hFc q h) hFc (fun r9 u t H1 locs ht hvm hw hB hz1 hk1 hS => ?_)
  obtain ⟨bk_4, fik_4, flk_4, vik_4, hP1, hD1, hGk_4⟩ := hB
  rw [ht] at hP1
  obtain ⟨hP, hD⟩ := va_join (wr := [((a 0), .inr (12, ((.int 0) :: (.ref (ex 0)) :: (.int 0) :: (.int 0) :: (.int 0) :: (.int 0) :: (.ref (a 1)) :: (.ref (ex 1)) :: (.ref (ex 2)) :: (.ref (ex 3)) :: (.ref (ex 4)) :: (.int 0) :: (.int 0) :: (.int 0) :: (.int 0) :: (.int 0) :: (.int 0) :: (.long 0) :: (.int 0) :: (.int 0) :: (.int 0) :: (.ref (ex 5)) :: (.ref (ex 6)) :: (.int 0) :: (.ref (ex 7)) :: (.int (-1)) :: (.int 0) :: (.int 0) :: (.int 0) :: (.int 0) :: (.int 0) :: (.int 0) :: (.ref (ex 8)) :: (.int 0) :: (.ref (ex 9)) :: (.int 0) :: (.int 0) :: (.int 0) :: (.int 0) :: (.int 0) :: (.ref (ex 10)) :: (.ref (ex 11)) :: (.ref (ex 12)) :: (.ref (ex 13)) :: []))), ((a 1), .inl (T 1, 2187, .inl (fun _ => 0)))]) (w1 := []) hP hD [] [0, 1] rfl rfl (by decide) (by decide) hk1 hFc hP1 hD1
  subst hw
  clear hPc hDc hFc hP1 hD1 hk1 hz1 hvm ht
  generalize H1 = H at hP hS ⊢
  replace hP : va_P D vwCl [((a 0), .inr (12, ((.int 0) :: (.ref (ex 0)) :: (.int 0) :: (.int 0) :: (.int 0) :: (.int 0) :: (.ref (a 1)) :: (.ref (ex 1)) :: (.ref (ex 2)) :: (.ref (ex 3)) :: (.ref (ex 4)) :: (.int 0) :: (.int 0) :: (.int 0) :: (.int 0) :: (.int 0) :: (.int 0) :: (.long 0) :: (.int 0) :: (.int 0) :: (.int 0) :: (.ref (ex 5)) :: (.ref (ex 6)) :: (.int 0) :: (.ref (ex 7)) :: (.int (-1)) :: (.int 0) :: (.int 0) :: (.int 0) :: (.int 0) :: (.int 0) :: (.int 0) :: (.ref (ex 8)) :: (.int 0) :: (.ref (ex 9)) :: (.int 0) :: (.int 0) :: (.int 0) :: (.int 0) :: (.int 0) :: (.ref (ex 10)) :: (.ref (ex 11)) :: (.ref (ex 12)) :: (.ref (ex 13)) :: []))), ((a 1), .inl (T 1, 2187, .inl (fun _ => 0)))] H := hP
  replace hD : va_D A [((a 0), .inr (12, ((.int 0) :: (.ref (ex 0)) :: (.int 0) :: (.int 0) :: (.int 0) :: (.int 0) :: (.ref (a 1)) :: (.ref (ex 1)) :: (.ref (ex 2)) :: (.ref (ex 3)) :: (.ref (ex 4)) :: (.int 0) :: (.int 0) :: (.int 0) :: (.int 0) :: (.int 0) :: (.int 0) :: (.long 0) :: (.int 0) :: (.int 0) :: (.int 0) :: (.ref (ex 5)) :: (.ref (ex 6)) :: (.int 0) :: (.ref (ex 7)) :: (.int (-1)) :: (.int 0) :: (.int 0) :: (.int 0) :: (.int 0) :: (.int 0) :: (.int 0) :: (.ref (ex 8)) :: (.int 0) :: (.ref (ex 9)) :: (.int 0) :: (.int 0) :: (.int 0) :: (.int 0) :: (.int 0) :: (.ref (ex 10)) :: (.ref (ex 11)) :: (.ref (ex 12)) :: (.ref (ex 13)) :: []))), ((a 1), .inl (T 1, 2187, .inl (fun _ => 0)))] := hD
  refine lv_iload_n hx hb dX12_hasEnough_32 rfl (lv_at hl 1 rfl) ?_
  refine lv_if_eq (tgt := 48) hx hb dX12_hasEnough_33 (by decide) (fun _ => ?_) (fun c => absurd (by decide) c)
  refine lv_iconst (v := 0) hx hb dX12_hasEnough_48 (by decide) ?_
  refine lv_iadd hx hb dX12_hasEnough_49 ?_
  refine xz_i 0 (by decide) ?_
  refine lv_istore (lv' := [(4, .int 0), (3, .int 0), (2, .int 0), (0, .ref (a 0)), (1, .int 0)]) hx hb dX12_hasEnough_50 hl (by decide) rfl (fun ls hl => ?_)
  refine lv_iconst (v := 2) hx hb dX12_hasEnough_52 (by decide) ?_
  refine lv_iload hx hb dX12_hasEnough_53 (lv_at hl 0 rfl) ?_
  refine lv_imul hx hb dX12_hasEnough_55 ?_
  refine xz_i 0 (by decide) ?_
  refine lv_iload_n hx hb dX12_hasEnough_56 rfl (lv_at hl 1 rfl) ?_
  refine lv_icmp_le (tgt := 64) hx hb dX12_hasEnough_57 (by decide) (fun _ => ?_) (fun c => absurd (by decide) c)
  refine lv_iconst (v := 0) hx hb dX12_hasEnough_64 (by decide) ?_
  have hP9 := hP.sub (ws' := [((a 0), .inr (12, ((.int 0) :: (.ref (ex 0)) :: (.int 0) :: (.int 0) :: (.int 0) :: (.int 0) :: (.ref (a 1)) :: (.ref (ex 1)) :: (.ref (ex 2)) :: (.ref (ex 3)) :: (.ref (ex 4)) :: (.int 0) :: (.int 0) :: (.int 0) :: (.int 0) :: (.int 0) :: (.int 0) :: (.long 0) :: (.int 0) :: (.int 0) :: (.int 0) :: (.ref (ex 5)) :: (.ref (ex 6)) :: (.int 0) :: (.ref (ex 7)) :: (.int (-1)) :: (.int 0) :: (.int 0) :: (.int 0) :: (.int 0) :: (.int 0) :: (.int 0) :: (.ref (ex 8)) :: (.int 0) :: (.ref (ex 9)) :: (.int 0) :: (.int 0) :: (.int 0) :: (.int 0) :: (.int 0) :: (.ref (ex 10)) :: (.ref (ex 11)) :: (.ref (ex 12)) :: (.ref (ex 13)) :: []))), ((a 1), .inl (T 1, 2187, .inl (fun _ => 0)))]) [0, 1] rfl
  have hD9 := hD.sub (ws' := [((a 0), .inr (12, ((.int 0) :: (.ref (ex 0)) :: (.int 0) :: (.int 0) :: (.int 0) :: (.int 0) :: (.ref (a 1)) :: (.ref (ex 1)) :: (.ref (ex 2)) :: (.ref (ex 3)) :: (.ref (ex 4)) :: (.int 0) :: (.int 0) :: (.int 0) :: (.int 0) :: (.int 0) :: (.int 0) :: (.long 0) :: (.int 0) :: (.int 0) :: (.int 0) :: (.ref (ex 5)) :: (.ref (ex 6)) :: (.int 0) :: (.ref (ex 7)) :: (.int (-1)) :: (.int 0) :: (.int 0) :: (.int 0) :: (.int 0) :: (.int 0) :: (.int 0) :: (.ref (ex 8)) :: (.int 0) :: (.ref (ex 9)) :: (.int 0) :: (.int 0) :: (.int 0) :: (.int 0) :: (.int 0) :: (.ref (ex 10)) :: (.ref (ex 11)) :: (.ref (ex 12)) :: (.ref (ex 13)) :: []))), ((a 1), .inl (T 1, 2187, .inl (fun _ => 0)))]) [0, 1] (by decide +kernel) rfl
  rw [hQ]
  exact W.zret (v := 0) hx hb hr rfl (fun t ht hW => ⟨⟨0, (), rfl, rfl, ⟨xa [], xf [], xh [], xv [], by rw [ht]; exact hP9, hD9, trivial⟩⟩, hS.F ht⟩) hS.2.2 dX12_hasEnough_65
abbrev pre_X12_votes (T : Nat → ClassId) (a ex : Nat → Nat) (fi : Nat → Nat → Int32) (fl : Nat → Nat → Int64) (vi : Nat → Int32) : va_W := [((a 0), .inr (12, ((.int 0) :: (.ref (ex 0)) :: (.int 0) :: (.int 0) :: (.int 0) :: (.int 0) :: (.ref (a 1)) :: (.ref (ex 1)) :: (.ref (ex 2)) :: (.ref (ex 3)) :: (.ref (ex 4)) :: (.int 0) :: (.int 0) :: (.int 0) :: (.int 0) :: (.int 0) :: (.int 0) :: (.long 0) :: (.int 0) :: (.int 0) :: (.int 0) :: (.ref (ex 5)) :: (.ref (ex 6)) :: (.int 0) :: (.ref (ex 7)) :: (.int (-1)) :: (.int 0) :: (.int 0) :: (.int 0) :: (.int 0) :: (.int 0) :: (.int 0) :: (.ref (ex 8)) :: (.int 0) :: (.ref (ex 9)) :: (.int 0) :: (.int 0) :: (.int 0) :: (.int 0) :: (.int 0) :: (.ref (ex 10)) :: (.ref (ex 11)) :: (.ref (ex 12)) :: (.ref (ex 13)) :: []))), ((a 1), .inl (T 1, 2187, .inl (fun _ => 0)))]
set_option maxHeartbeats 4000000 in
set_option maxRecDepth 100000 in
theorem c_X12_votes (l : Launch) (D : va_G) (T : Nat → ClassId) (a ex : Nat → Nat) (fi : Nat → Nat → Int32) (fl : Nat → Nat → Int64) (vi : Nat → Int32) (sz : Nat) : Met l yX12_votes (xw yX12_votes cX12_votes 2 (some .int)) ({ frames := 2, cells := 0, slots := 0, locals := 54 }) (xP D T [.ref (a 0), .int 0] sz (pre_X12_votes T a ex fi fl vi)) (va_Qi (fun r (_ : Unit) => r = 0) (xB D (va_A (pre_X12_votes T a ex fi fl vi) sz) (fun _ => True) (fun b fj fm vj => [])) (va_A (pre_X12_votes T a ex fi fl vi) sz)) 0 0 (va_A (pre_X12_votes T a ex fi fl vi) sz) := by
  refine xofW (cc := cX12_votes) (maxL := 2) (ret := (some .int)) (by decide) rfl ?_
  intro p e s m args below meth c s₁ R Q hR hQ B hml hv
  obtain ⟨rfl, hsz, hP, hK, hD0⟩ := hv
  have hx := B.exec
  have hb := B.bytes
  have hr := B.returns
  have hts := atoms_spec (ws := xw yX12_votes cX12_votes 2 (some .int)) B.pre
  have htg : ∀ w ∈ xg, w.before _ s = true := fun w h => hts w (List.mem_cons_of_mem _ h)
  have hown : s.vm.findClass RX12 = some m.cls := findClass_of_methodNamed B.named
  have hlocks := B.notSynchronized
  subst hsz
  have hD := hD0.self (sz := s.heap.size)
  generalize hAe : va_A (pre_X12_votes T a ex fi fl vi) s.heap.size = A at hD hQ
  have hA : ∀ q : Nat, s.heap.size ≤ q → A q := fun q h => by rw [← hAe]; exact Or.inr h
  have hS : va_S A s.heap s.heap [] := va_S.rf
  replace hP : va_P D vwCl [((a 0), .inr (12, ((.int 0) :: (.ref (ex 0)) :: (.int 0) :: (.int 0) :: (.int 0) :: (.int 0) :: (.ref (a 1)) :: (.ref (ex 1)) :: (.ref (ex 2)) :: (.ref (ex 3)) :: (.ref (ex 4)) :: (.int 0) :: (.int 0) :: (.int 0) :: (.int 0) :: (.int 0) :: (.int 0) :: (.long 0) :: (.int 0) :: (.int 0) :: (.int 0) :: (.ref (ex 5)) :: (.ref (ex 6)) :: (.int 0) :: (.ref (ex 7)) :: (.int (-1)) :: (.int 0) :: (.int 0) :: (.int 0) :: (.int 0) :: (.int 0) :: (.int 0) :: (.ref (ex 8)) :: (.int 0) :: (.ref (ex 9)) :: (.int 0) :: (.int 0) :: (.int 0) :: (.int 0) :: (.int 0) :: (.ref (ex 10)) :: (.ref (ex 11)) :: (.ref (ex 12)) :: (.ref (ex 13)) :: []))), ((a 1), .inl (T 1, 2187, .inl (fun _ => 0)))] s.heap := hP
  replace hD : va_D A [((a 0), .inr (12, ((.int 0) :: (.ref (ex 0)) :: (.int 0) :: (.int 0) :: (.int 0) :: (.int 0) :: (.ref (a 1)) :: (.ref (ex 1)) :: (.ref (ex 2)) :: (.ref (ex 3)) :: (.ref (ex 4)) :: (.int 0) :: (.int 0) :: (.int 0) :: (.int 0) :: (.int 0) :: (.int 0) :: (.long 0) :: (.int 0) :: (.int 0) :: (.int 0) :: (.ref (ex 5)) :: (.ref (ex 6)) :: (.int 0) :: (.ref (ex 7)) :: (.int (-1)) :: (.int 0) :: (.int 0) :: (.int 0) :: (.int 0) :: (.int 0) :: (.int 0) :: (.ref (ex 8)) :: (.int 0) :: (.ref (ex 9)) :: (.int 0) :: (.int 0) :: (.int 0) :: (.int 0) :: (.int 0) :: (.ref (ex 10)) :: (.ref (ex 11)) :: (.ref (ex 12)) :: (.ref (ex 13)) :: []))), ((a 1), .inl (T 1, 2187, .inl (fun _ => 0)))] := hD
  have hl := lv_entry ([.ref (a 0), .int 0]) (n := 2) (Nat.le_of_ble_eq_true rfl)
  rw [lg_entry_eq]
  generalize (lg_sl ([.ref (a 0), .int 0]) ++ List.replicate (2 - (lg_sl ([.ref (a 0), .int 0])).length) Slot.unset).toArray = ls at hl ⊢
  replace hl : lv_has ls 2 [(0, .ref (a 0)), (1, .int 0)] := hl
  refine lv_aload_n hx hb dX12_votes_0 rfl (lv_at hl 0 rfl) ?_
  refine lv_iconst (v := 0) hx hb dX12_votes_1 (by decide) ?_
  refine va_put (D := D) (ci := 12) (v := .int 0) (ty := .int) (C := RX12) (T := TX12) (N := 44) hx hb htg inX12 tyX12 tyX12_ok nmX12 hown hK.1 hP hD hS 0 rfl rfl 0 (by decide) (htg _ kw_1407) (fun _ h9 => h9) rfl (by decide +kernel) rfl rfl (Nat.le_of_ble_eq_true rfl) dX12_votes_2 (fun H locs hP hD hS => ?_)
  replace hP : va_P D vwCl [((a 0), .inr (12, ((.int 0) :: (.ref (ex 0)) :: (.int 0) :: (.int 0) :: (.int 0) :: (.int 0) :: (.ref (a 1)) :: (.ref (ex 1)) :: (.ref (ex 2)) :: (.ref (ex 3)) :: (.ref (ex 4)) :: (.int 0) :: (.int 0) :: (.int 0) :: (.int 0) :: (.int 0) :: (.int 0) :: (.long 0) :: (.int 0) :: (.int 0) :: (.int 0) :: (.ref (ex 5)) :: (.ref (ex 6)) :: (.int 0) :: (.ref (ex 7)) :: (.int (-1)) :: (.int 0) :: (.int 0) :: (.int 0) :: (.int 0) :: (.int 0) :: (.int 0) :: (.ref (ex 8)) :: (.int 0) :: (.ref (ex 9)) :: (.int 0) :: (.int 0) :: (.int 0) :: (.int 0) :: (.int 0) :: (.ref (ex 10)) :: (.ref (ex 11)) :: (.ref (ex 12)) :: (.ref (ex 13)) :: []))), ((a 1), .inl (T 1, 2187, .inl (fun _ => 0)))] H := hP
  replace hD : va_D A [((a 0), .inr (12, ((.int 0) :: (.ref (ex 0)) :: (.int 0) :: (.int 0) :: (.int 0) :: (.int 0) :: (.ref (a 1)) :: (.ref (ex 1)) :: (.ref (ex 2)) :: (.ref (ex 3)) :: (.ref (ex 4)) :: (.int 0) :: (.int 0) :: (.int 0) :: (.int 0) :: (.int 0) :: (.int 0) :: (.long 0) :: (.int 0) :: (.int 0) :: (.int 0) :: (.ref (ex 5)) :: (.ref (ex 6)) :: (.int 0) :: (.ref (ex 7)) :: (.int (-1)) :: (.int 0) :: (.int 0) :: (.int 0) :: (.int 0) :: (.int 0) :: (.int 0) :: (.ref (ex 8)) :: (.int 0) :: (.ref (ex 9)) :: (.int 0) :: (.int 0) :: (.int 0) :: (.int 0) :: (.int 0) :: (.ref (ex 10)) :: (.ref (ex 11)) :: (.ref (ex 12)) :: (.ref (ex 13)) :: []))), ((a 1), .inl (T 1, 2187, .inl (fun _ => 0)))] := hD
  refine lv_iload_n hx hb dX12_votes_5 rfl (lv_at hl 1 rfl) ?_
  refine lv_if_lt (tgt := 21) hx hb dX12_votes_6 (by decide) (fun c => absurd c (by decide)) (fun _ => ?_)
  refine lv_iload_n hx hb dX12_votes_9 rfl (lv_at hl 1 rfl) ?_
  refine lv_iconst (v := 1) hx hb dX12_votes_10 (by decide) ?_
  refine lv_aload_n hx hb dX12_votes_11 rfl (lv_at hl 0 rfl) ?_
  refine va_get (D := D) (ci := 12) (v := .ref (a 1)) (C := RX12) (T := TX12) (N := 44) hx hb htg inX12 hown hK.1 hP 0 rfl rfl 6 (by decide) (htg _ kw_1413) (fun _ h9 => h9) rfl dX12_votes_12 ?_
  refine lv_iconst (v := 1) hx hb dX12_votes_15 (by decide) ?_
  refine va_iald hx hb hK.1 hP 1 1 rfl rfl (vp_in_nI (n := 1) (by decide) (by decide)) dX12_votes_16 ?_
  refine xz_i 0 rfl ?_
  refine lv_ishl hx hb dX12_votes_17 ?_
  refine xz_i 1 (by decide) ?_
  refine lv_icmp_lt (tgt := 23) hx hb dX12_votes_18 (by decide) (fun _ => ?_) (fun c => absurd (by decide) c)
  refine lv_aload_n hx hb dX12_votes_23 rfl (lv_at hl 0 rfl) ?_
  refine lv_iload_n hx hb dX12_votes_24 rfl (lv_at hl 1 rfl) ?_
  have hPc := hP.sub (ws' := (pre_X12_hasEnough T (xa [(a 0), (a 1)]) (xa [(ex 0), (ex 1), (ex 2), (ex 3), (ex 4), (ex 5), (ex 6), (ex 7), (ex 8), (ex 9), (ex 10), (ex 11), (ex 12), (ex 13)]) (xf []) (xh []) (xv []))) [0, 1] rfl
  have hDc := hD.sub (ws' := (pre_X12_hasEnough T (xa [(a 0), (a 1)]) (xa [(ex 0), (ex 1), (ex 2), (ex 3), (ex 4), (ex 5), (ex 6), (ex 7), (ex 8), (ex 9), (ex 10), (ex 11), (ex 12), (ex 13)]) (xf []) (xh []) (xv []))) [0, 1] (by decide) rfl
  have hFc := va_free (wc := (pre_X12_hasEnough T (xa [(a 0), (a 1)]) (xa [(ex 0), (ex 1), (ex 2), (ex 3), (ex 4), (ex 5), (ex 6), (ex 7), (ex 8), (ex 9), (ex 10), (ex 11), (ex 12), (ex 13)]) (xf []) (xh []) (xv []))) hD hS hA [0, 1] rfl
  refine va_calli (va_runV (As := [.int 0]) (rest := []) ⟨hx, hb, hml, hown, htg⟩ (c_X12_hasEnough l D T (xa [(a 0), (a 1)]) (xa [(ex 0), (ex 1), (ex 2), (ex 3), (ex 4), (ex 5), (ex 6), (ex 7), (ex 8), (ex 9), (ex 10), (ex 11), (ex 12), (ex 13)]) (xf []) (xh []) (xv []) H.size) ⟨callB_of 1 htg (xg_ok kw_1884) rfl rfl rfl (htg _ kw_17) (htg _ kw_1881) (by decide +kernel) ⟨by rw [hR]; exact Nat.le_of_ble_eq_true rfl, by rw [hR]; exact Nat.le_of_ble_eq_true rfl⟩, htg _ kw_1883, htg _ ks_169⟩ (xpreV hK hPc hDc (va_recv hK.1 hPc (ci := 12) (q0 := 0) rfl rfl)) rfl rfl hl.1 rfl (lv_room (Nat.le_of_ble_eq_true rfl)) dX12_votes_25 ⟨by rw [hR]; exact Nat.le_of_ble_eq_true rfl, by rw [hR]; exact Nat.le_of_ble_eq_true rfl⟩) hS (fun q _ h => hFc q h) hFc (fun r9 u t H1 locs ht hvm hw hB hz1 hk1 hS => ?_)
  obtain ⟨bk, fik, flk, vik, hP1, hD1, hGk⟩ := hB
  rw [ht] at hP1
  obtain ⟨hP, hD⟩ := va_join (wr := []) (w1 := [((a 0), .inr (12, ((.int 0) :: (.ref (ex 0)) :: (.int 0) :: (.int 0) :: (.int 0) :: (.int 0) :: (.ref (a 1)) :: (.ref (ex 1)) :: (.ref (ex 2)) :: (.ref (ex 3)) :: (.ref (ex 4)) :: (.int 0) :: (.int 0) :: (.int 0) :: (.int 0) :: (.int 0) :: (.int 0) :: (.long 0) :: (.int 0) :: (.int 0) :: (.int 0) :: (.ref (ex 5)) :: (.ref (ex 6)) :: (.int 0) :: (.ref (ex 7)) :: (.int (-1)) :: (.int 0) :: (.int 0) :: (.int 0) :: (.int 0) :: (.int 0) :: (.int 0) :: (.ref (ex 8)) :: (.int 0) :: (.ref (ex 9)) :: (.int 0) :: (.int 0) :: (.int 0) :: (.int 0) :: (.int 0) :: (.ref (ex 10)) :: (.ref (ex 11)) :: (.ref (ex 12)) :: (.ref (ex 13)) :: []))), ((a 1), .inl (T 1, 2187, .inl (fun _ => 0)))]) hP hD [0, 1] [] rfl rfl (by decide) (by decide) hk1 hFc hP1 hD1
  subst hw
  clear hPc hDc hFc hP1 hD1 hk1 hz1 hvm ht
  generalize H1 = H at hP hS ⊢
  replace hP : va_P D vwCl [((a 0), .inr (12, ((.int 0) :: (.ref (ex 0)) :: (.int 0) :: (.int 0) :: (.int 0) :: (.int 0) :: (.ref (a 1)) :: (.ref (ex 1)) :: (.ref (ex 2)) :: (.ref (ex 3)) :: (.ref (ex 4)) :: (.int 0) :: (.int 0) :: (.int 0) :: (.int 0) :: (.int 0) :: (.int 0) :: (.long 0) :: (.int 0) :: (.int 0) :: (.int 0) :: (.ref (ex 5)) :: (.ref (ex 6)) :: (.int 0) :: (.ref (ex 7)) :: (.int (-1)) :: (.int 0) :: (.int 0) :: (.int 0) :: (.int 0) :: (.int 0) :: (.int 0) :: (.ref (ex 8)) :: (.int 0) :: (.ref (ex 9)) :: (.int 0) :: (.int 0) :: (.int 0) :: (.int 0) :: (.int 0) :: (.ref (ex 10)) :: (.ref (ex 11)) :: (.ref (ex 12)) :: (.ref (ex 13)) :: []))), ((a 1), .inl (T 1, 2187, .inl (fun _ => 0)))] H := hP
  replace hD : va_D A [((a 0), .inr (12, ((.int 0) :: (.ref (ex 0)) :: (.int 0) :: (.int 0) :: (.int 0) :: (.int 0) :: (.ref (a 1)) :: (.ref (ex 1)) :: (.ref (ex 2)) :: (.ref (ex 3)) :: (.ref (ex 4)) :: (.int 0) :: (.int 0) :: (.int 0) :: (.int 0) :: (.int 0) :: (.int 0) :: (.long 0) :: (.int 0) :: (.int 0) :: (.int 0) :: (.ref (ex 5)) :: (.ref (ex 6)) :: (.int 0) :: (.ref (ex 7)) :: (.int (-1)) :: (.int 0) :: (.int 0) :: (.int 0) :: (.int 0) :: (.int 0) :: (.int 0) :: (.ref (ex 8)) :: (.int 0) :: (.ref (ex 9)) :: (.int 0) :: (.int 0) :: (.int 0) :: (.int 0) :: (.int 0) :: (.ref (ex 10)) :: (.ref (ex 11)) :: (.ref (ex 12)) :: (.ref (ex 13)) :: []))), ((a 1), .inl (T 1, 2187, .inl (fun _ => 0)))] := hD
  refine lv_if_eq (tgt := 35) hx hb dX12_votes_28 (by decide) (fun _ => ?_) (fun c => absurd (by decide) c)
  refine lv_iconst (v := 0) hx hb dX12_votes_35 (by decide) ?_
  have hP9 := hP.sub (ws' := []) [] rfl
  have hD9 := hD.sub (ws' := []) [] (by decide) rfl
  rw [hQ]
  exact W.iret (v := 0) hx hb hr (fun t ht hW => ⟨⟨0, (), rfl, rfl, ⟨xa [], xf [], xh [], xv [], by rw [ht]; exact hP9, hD9, trivial⟩⟩, hS.F ht⟩) hS.2.2 dX12_votes_36
abbrev pre_X12_votes_2 (T : Nat → ClassId) (a ex : Nat → Nat) (fi : Nat → Nat → Int32) (fl : Nat → Nat → Int64) (vi : Nat → Int32) : va_W := [((a 0), .inr (12, ((.int 0) :: (.ref (ex 0)) :: (.int 0) :: (.int 0) :: (.int 0) :: (.int 0) :: (.ref (a 1)) :: (.ref (ex 1)) :: (.ref (ex 2)) :: (.ref (ex 3)) :: (.ref (ex 4)) :: (.int 0) :: (.int 0) :: (.int 0) :: (.int 0) :: (.int 0) :: (.int 0) :: (.long 0) :: (.int 0) :: (.int 0) :: (.int 0) :: (.ref (ex 5)) :: (.ref (ex 6)) :: (.int 0) :: (.ref (ex 7)) :: (.int (-1)) :: (.int 0) :: (.int 0) :: (.int 0) :: (.int 0) :: (.int 0) :: (.int 0) :: (.ref (ex 8)) :: (.int 0) :: (.ref (ex 9)) :: (.int 0) :: (.int 0) :: (.int 0) :: (.int 0) :: (.int 0) :: (.ref (ex 10)) :: (.ref (ex 11)) :: (.ref (ex 12)) :: (.ref (ex 13)) :: []))), ((a 1), .inl (T 1, 2187, .inl (fun _ => 0)))]
set_option maxHeartbeats 4000000 in
set_option maxRecDepth 100000 in
theorem c_X12_votes_2 (l : Launch) (D : va_G) (T : Nat → ClassId) (a ex : Nat → Nat) (fi : Nat → Nat → Int32) (fl : Nat → Nat → Int64) (vi : Nat → Int32) (sz : Nat) (hd0 : (vi 0).toInt ≤ -1 ∨ 1 ≤ (vi 0).toInt) : Met l yX12_votes (xw yX12_votes cX12_votes 2 (some .int)) ({ frames := 0, cells := 0, slots := 0, locals := 0 }) (xP D T [.ref (a 0), .int (vi 0)] sz (pre_X12_votes_2 T a ex fi fl vi)) (va_Qi (fun r (_ : Unit) => r = (-1)) (xB D (va_A (pre_X12_votes_2 T a ex fi fl vi) sz) (fun _ => True) (fun b fj fm vj => [])) (va_A (pre_X12_votes_2 T a ex fi fl vi) sz)) 0 0 (va_A (pre_X12_votes_2 T a ex fi fl vi) sz) := by
  refine xofW (cc := cX12_votes) (maxL := 2) (ret := (some .int)) (by decide) rfl ?_
  intro p e s m args below meth c s₁ R Q hR hQ B hml hv
  obtain ⟨rfl, hsz, hP, hK, hD0⟩ := hv
  have hx := B.exec
  have hb := B.bytes
  have hr := B.returns
  have hts := atoms_spec (ws := xw yX12_votes cX12_votes 2 (some .int)) B.pre
  have htg : ∀ w ∈ xg, w.before _ s = true := fun w h => hts w (List.mem_cons_of_mem _ h)
  have hown : s.vm.findClass RX12 = some m.cls := findClass_of_methodNamed B.named
  have hlocks := B.notSynchronized
  subst hsz
  have hD := hD0.self (sz := s.heap.size)
  generalize hAe : va_A (pre_X12_votes_2 T a ex fi fl vi) s.heap.size = A at hD hQ
  have hA : ∀ q : Nat, s.heap.size ≤ q → A q := fun q h => by rw [← hAe]; exact Or.inr h
  have hS : va_S A s.heap s.heap [] := va_S.rf
  replace hP : va_P D vwCl [((a 0), .inr (12, ((.int 0) :: (.ref (ex 0)) :: (.int 0) :: (.int 0) :: (.int 0) :: (.int 0) :: (.ref (a 1)) :: (.ref (ex 1)) :: (.ref (ex 2)) :: (.ref (ex 3)) :: (.ref (ex 4)) :: (.int 0) :: (.int 0) :: (.int 0) :: (.int 0) :: (.int 0) :: (.int 0) :: (.long 0) :: (.int 0) :: (.int 0) :: (.int 0) :: (.ref (ex 5)) :: (.ref (ex 6)) :: (.int 0) :: (.ref (ex 7)) :: (.int (-1)) :: (.int 0) :: (.int 0) :: (.int 0) :: (.int 0) :: (.int 0) :: (.int 0) :: (.ref (ex 8)) :: (.int 0) :: (.ref (ex 9)) :: (.int 0) :: (.int 0) :: (.int 0) :: (.int 0) :: (.int 0) :: (.ref (ex 10)) :: (.ref (ex 11)) :: (.ref (ex 12)) :: (.ref (ex 13)) :: []))), ((a 1), .inl (T 1, 2187, .inl (fun _ => 0)))] s.heap := hP
  replace hD : va_D A [((a 0), .inr (12, ((.int 0) :: (.ref (ex 0)) :: (.int 0) :: (.int 0) :: (.int 0) :: (.int 0) :: (.ref (a 1)) :: (.ref (ex 1)) :: (.ref (ex 2)) :: (.ref (ex 3)) :: (.ref (ex 4)) :: (.int 0) :: (.int 0) :: (.int 0) :: (.int 0) :: (.int 0) :: (.int 0) :: (.long 0) :: (.int 0) :: (.int 0) :: (.int 0) :: (.ref (ex 5)) :: (.ref (ex 6)) :: (.int 0) :: (.ref (ex 7)) :: (.int (-1)) :: (.int 0) :: (.int 0) :: (.int 0) :: (.int 0) :: (.int 0) :: (.int 0) :: (.ref (ex 8)) :: (.int 0) :: (.ref (ex 9)) :: (.int 0) :: (.int 0) :: (.int 0) :: (.int 0) :: (.int 0) :: (.ref (ex 10)) :: (.ref (ex 11)) :: (.ref (ex 12)) :: (.ref (ex 13)) :: []))), ((a 1), .inl (T 1, 2187, .inl (fun _ => 0)))] := hD
  have hl := lv_entry ([.ref (a 0), .int (vi 0)]) (n := 2) (Nat.le_of_ble_eq_true rfl)
  rw [lg_entry_eq]
  generalize (lg_sl ([.ref (a 0), .int (vi 0)]) ++ List.replicate (2 - (lg_sl ([.ref (a 0), .int (vi 0)])).length) Slot.unset).toArray = ls at hl ⊢
  replace hl : lv_has ls 2 [(0, .ref (a 0)), (1, .int (vi 0))] := hl
  refine lv_aload_n hx hb dX12_votes_0 rfl (lv_at hl 0 rfl) ?_
  refine lv_iconst (v := 0) hx hb dX12_votes_1 (by decide) ?_
  refine va_put (D := D) (ci := 12) (v := .int 0) (ty := .int) (C := RX12) (T := TX12) (N := 44) hx hb htg inX12 tyX12 tyX12_ok nmX12 hown hK.1 hP hD hS 0 rfl rfl 0 (by decide) (htg _ kw_1407) (fun _ h9 => h9) rfl (by decide +kernel) rfl rfl (Nat.le_of_ble_eq_true rfl) dX12_votes_2 (fun H locs hP hD hS => ?_)
  replace hP : va_P D vwCl [((a 0), .inr (12, ((.int 0) :: (.ref (ex 0)) :: (.int 0) :: (.int 0) :: (.int 0) :: (.int 0) :: (.ref (a 1)) :: (.ref (ex 1)) :: (.ref (ex 2)) :: (.ref (ex 3)) :: (.ref (ex 4)) :: (.int 0) :: (.int 0) :: (.int 0) :: (.int 0) :: (.int 0) :: (.int 0) :: (.long 0) :: (.int 0) :: (.int 0) :: (.int 0) :: (.ref (ex 5)) :: (.ref (ex 6)) :: (.int 0) :: (.ref (ex 7)) :: (.int (-1)) :: (.int 0) :: (.int 0) :: (.int 0) :: (.int 0) :: (.int 0) :: (.int 0) :: (.ref (ex 8)) :: (.int 0) :: (.ref (ex 9)) :: (.int 0) :: (.int 0) :: (.int 0) :: (.int 0) :: (.int 0) :: (.ref (ex 10)) :: (.ref (ex 11)) :: (.ref (ex 12)) :: (.ref (ex 13)) :: []))), ((a 1), .inl (T 1, 2187, .inl (fun _ => 0)))] H := hP
  replace hD : va_D A [((a 0), .inr (12, ((.int 0) :: (.ref (ex 0)) :: (.int 0) :: (.int 0) :: (.int 0) :: (.int 0) :: (.ref (a 1)) :: (.ref (ex 1)) :: (.ref (ex 2)) :: (.ref (ex 3)) :: (.ref (ex 4)) :: (.int 0) :: (.int 0) :: (.int 0) :: (.int 0) :: (.int 0) :: (.int 0) :: (.long 0) :: (.int 0) :: (.int 0) :: (.int 0) :: (.ref (ex 5)) :: (.ref (ex 6)) :: (.int 0) :: (.ref (ex 7)) :: (.int (-1)) :: (.int 0) :: (.int 0) :: (.int 0) :: (.int 0) :: (.int 0) :: (.int 0) :: (.ref (ex 8)) :: (.int 0) :: (.ref (ex 9)) :: (.int 0) :: (.int 0) :: (.int 0) :: (.int 0) :: (.int 0) :: (.ref (ex 10)) :: (.ref (ex 11)) :: (.ref (ex 12)) :: (.ref (ex 13)) :: []))), ((a 1), .inl (T 1, 2187, .inl (fun _ => 0)))] := hD
  refine lv_iload_n hx hb dX12_votes_5 rfl (lv_at hl 1 rfl) ?_
  refine lv_if_lt (tgt := 21) hx hb dX12_votes_6 (by decide) (fun c6 => ?_) (fun c6 => ?_)
  · have c6 := xlt (k := 0) (by decide) c6
    refine lv_iconst (v := (-1)) hx hb dX12_votes_21 (by decide) ?_
    have hP9 := hP.sub (ws' := []) [] rfl
    have hD9 := hD.sub (ws' := []) [] (by decide) rfl
    rw [hQ]
    exact W.iret (v := (-1)) hx hb hr (fun t ht hW => ⟨⟨(-1), (), rfl, rfl, ⟨xa [], xf [], xh [], xv [], by rw [ht]; exact hP9, hD9, trivial⟩⟩, hS.F ht⟩) hS.2.2 dX12_votes_22
  · have c6 := xnlt (k := 0) (by decide) c6
    refine lv_iload_n hx hb dX12_votes_9 rfl (lv_at hl 1 rfl) ?_
    refine lv_iconst (v := 1) hx hb dX12_votes_10 (by decide) ?_
    refine lv_aload_n hx hb dX12_votes_11 rfl (lv_at hl 0 rfl) ?_
    refine va_get (D := D) (ci := 12) (v := .ref (a 1)) (C := RX12) (T := TX12) (N := 44) hx hb htg inX12 hown hK.1 hP 0 rfl rfl 6 (by decide) (htg _ kw_1413) (fun _ h9 => h9) rfl dX12_votes_12 ?_
    refine lv_iconst (v := 1) hx hb dX12_votes_15 (by decide) ?_
    refine va_iald hx hb hK.1 hP 1 1 rfl rfl (vp_in_nI (n := 1) (by decide) (by decide)) dX12_votes_16 ?_
    refine xz_i 0 rfl ?_
    refine lv_ishl hx hb dX12_votes_17 ?_
    refine xz_i 1 (by decide) ?_
    refine lv_icmp_lt (tgt := 23) hx hb dX12_votes_18 (by decide) (fun c => by exfalso; have h9 := xlt (k := 1) (by decide) c; omega) (fun _ => ?_)
    refine lv_iconst (v := (-1)) hx hb dX12_votes_21 (by decide) ?_
    have hP9 := hP.sub (ws' := []) [] rfl
    have hD9 := hD.sub (ws' := []) [] (by decide) rfl
    rw [hQ]
    exact W.iret (v := (-1)) hx hb hr (fun t ht hW => ⟨⟨(-1), (), rfl, rfl, ⟨xa [], xf [], xh [], xv [], by rw [ht]; exact hP9, hD9, trivial⟩⟩, hS.F ht⟩) hS.2.2 dX12_votes_22
abbrev pre_X12_party (T : Nat → ClassId) (a ex : Nat → Nat) (fi : Nat → Nat → Int32) (fl : Nat → Nat → Int64) (vi : Nat → Int32) : va_W := [((a 0), .inr (12, ((.int 0) :: (.ref (ex 0)) :: (.int 0) :: (.int 0) :: (.int 0) :: (.int 0) :: (.ref (a 1)) :: (.ref (ex 1)) :: (.ref (ex 2)) :: (.ref (ex 3)) :: (.ref (ex 4)) :: (.int 0) :: (.int 0) :: (.int 0) :: (.int 0) :: (.int 0) :: (.int 0) :: (.long 0) :: (.int 0) :: (.int 0) :: (.int 0) :: (.ref (ex 5)) :: (.ref (ex 6)) :: (.int 0) :: (.ref (ex 7)) :: (.int (-1)) :: (.int 0) :: (.int 0) :: (.int 0) :: (.int 0) :: (.int 0) :: (.int 0) :: (.ref (ex 8)) :: (.int 0) :: (.ref (ex 9)) :: (.int 0) :: (.int 0) :: (.int 0) :: (.int 0) :: (.int 0) :: (.ref (ex 10)) :: (.ref (ex 11)) :: (.ref (ex 12)) :: (.ref (ex 13)) :: []))), ((a 1), .inl (T 1, 2187, .inl (fun _ => 0)))]
set_option maxHeartbeats 4000000 in
set_option maxRecDepth 100000 in
theorem c_X12_party (l : Launch) (D : va_G) (T : Nat → ClassId) (a ex : Nat → Nat) (fi : Nat → Nat → Int32) (fl : Nat → Nat → Int64) (vi : Nat → Int32) (sz : Nat) : Met l yX12_party (xw yX12_party cX12_party 3 (some .int)) ({ frames := 2, cells := 0, slots := 0, locals := 54 }) (xP D T [.ref (a 0)] sz (pre_X12_party T a ex fi fl vi)) (va_Qi (fun r (_ : Unit) => r = (-1)) (xB D (va_A (pre_X12_party T a ex fi fl vi) sz) (fun _ => True) (fun b fj fm vj => [])) (va_A (pre_X12_party T a ex fi fl vi) sz)) 0 0 (va_A (pre_X12_party T a ex fi fl vi) sz) := by
  refine xofW (cc := cX12_party) (maxL := 3) (ret := (some .int)) (by decide) rfl ?_
  intro p e s m args below meth c s₁ R Q hR hQ B hml hv
  obtain ⟨rfl, hsz, hP, hK, hD0⟩ := hv
  have hx := B.exec
  have hb := B.bytes
  have hr := B.returns
  have hts := atoms_spec (ws := xw yX12_party cX12_party 3 (some .int)) B.pre
  have htg : ∀ w ∈ xg, w.before _ s = true := fun w h => hts w (List.mem_cons_of_mem _ h)
  have hown : s.vm.findClass RX12 = some m.cls := findClass_of_methodNamed B.named
  have hlocks := B.notSynchronized
  subst hsz
  have hD := hD0.self (sz := s.heap.size)
  generalize hAe : va_A (pre_X12_party T a ex fi fl vi) s.heap.size = A at hD hQ
  have hA : ∀ q : Nat, s.heap.size ≤ q → A q := fun q h => by rw [← hAe]; exact Or.inr h
  have hS : va_S A s.heap s.heap [] := va_S.rf
  replace hP : va_P D vwCl [((a 0), .inr (12, ((.int 0) :: (.ref (ex 0)) :: (.int 0) :: (.int 0) :: (.int 0) :: (.int 0) :: (.ref (a 1)) :: (.ref (ex 1)) :: (.ref (ex 2)) :: (.ref (ex 3)) :: (.ref (ex 4)) :: (.int 0) :: (.int 0) :: (.int 0) :: (.int 0) :: (.int 0) :: (.int 0) :: (.long 0) :: (.int 0) :: (.int 0) :: (.int 0) :: (.ref (ex 5)) :: (.ref (ex 6)) :: (.int 0) :: (.ref (ex 7)) :: (.int (-1)) :: (.int 0) :: (.int 0) :: (.int 0) :: (.int 0) :: (.int 0) :: (.int 0) :: (.ref (ex 8)) :: (.int 0) :: (.ref (ex 9)) :: (.int 0) :: (.int 0) :: (.int 0) :: (.int 0) :: (.int 0) :: (.ref (ex 10)) :: (.ref (ex 11)) :: (.ref (ex 12)) :: (.ref (ex 13)) :: []))), ((a 1), .inl (T 1, 2187, .inl (fun _ => 0)))] s.heap := hP
  replace hD : va_D A [((a 0), .inr (12, ((.int 0) :: (.ref (ex 0)) :: (.int 0) :: (.int 0) :: (.int 0) :: (.int 0) :: (.ref (a 1)) :: (.ref (ex 1)) :: (.ref (ex 2)) :: (.ref (ex 3)) :: (.ref (ex 4)) :: (.int 0) :: (.int 0) :: (.int 0) :: (.int 0) :: (.int 0) :: (.int 0) :: (.long 0) :: (.int 0) :: (.int 0) :: (.int 0) :: (.ref (ex 5)) :: (.ref (ex 6)) :: (.int 0) :: (.ref (ex 7)) :: (.int (-1)) :: (.int 0) :: (.int 0) :: (.int 0) :: (.int 0) :: (.int 0) :: (.int 0) :: (.ref (ex 8)) :: (.int 0) :: (.ref (ex 9)) :: (.int 0) :: (.int 0) :: (.int 0) :: (.int 0) :: (.int 0) :: (.ref (ex 10)) :: (.ref (ex 11)) :: (.ref (ex 12)) :: (.ref (ex 13)) :: []))), ((a 1), .inl (T 1, 2187, .inl (fun _ => 0)))] := hD
  have hl := lv_entry ([.ref (a 0)]) (n := 3) (Nat.le_of_ble_eq_true rfl)
  rw [lg_entry_eq]
  generalize (lg_sl ([.ref (a 0)]) ++ List.replicate (3 - (lg_sl ([.ref (a 0)])).length) Slot.unset).toArray = ls at hl ⊢
  replace hl : lv_has ls 3 [(0, .ref (a 0))] := hl
  refine lv_aload_n hx hb dX12_party_0 rfl (lv_at hl 0 rfl) ?_
  refine lv_iconst (v := 0) hx hb dX12_party_1 (by decide) ?_
  refine va_put (D := D) (ci := 12) (v := .int 0) (ty := .int) (C := RX12) (T := TX12) (N := 44) hx hb htg inX12 tyX12 tyX12_ok nmX12 hown hK.1 hP hD hS 0 rfl rfl 0 (by decide) (htg _ kw_1407) (fun _ h9 => h9) rfl (by decide +kernel) rfl rfl (Nat.le_of_ble_eq_true rfl) dX12_party_2 (fun H locs hP hD hS => ?_)
  replace hP : va_P D vwCl [((a 0), .inr (12, ((.int 0) :: (.ref (ex 0)) :: (.int 0) :: (.int 0) :: (.int 0) :: (.int 0) :: (.ref (a 1)) :: (.ref (ex 1)) :: (.ref (ex 2)) :: (.ref (ex 3)) :: (.ref (ex 4)) :: (.int 0) :: (.int 0) :: (.int 0) :: (.int 0) :: (.int 0) :: (.int 0) :: (.long 0) :: (.int 0) :: (.int 0) :: (.int 0) :: (.ref (ex 5)) :: (.ref (ex 6)) :: (.int 0) :: (.ref (ex 7)) :: (.int (-1)) :: (.int 0) :: (.int 0) :: (.int 0) :: (.int 0) :: (.int 0) :: (.int 0) :: (.ref (ex 8)) :: (.int 0) :: (.ref (ex 9)) :: (.int 0) :: (.int 0) :: (.int 0) :: (.int 0) :: (.int 0) :: (.ref (ex 10)) :: (.ref (ex 11)) :: (.ref (ex 12)) :: (.ref (ex 13)) :: []))), ((a 1), .inl (T 1, 2187, .inl (fun _ => 0)))] H := hP
  replace hD : va_D A [((a 0), .inr (12, ((.int 0) :: (.ref (ex 0)) :: (.int 0) :: (.int 0) :: (.int 0) :: (.int 0) :: (.ref (a 1)) :: (.ref (ex 1)) :: (.ref (ex 2)) :: (.ref (ex 3)) :: (.ref (ex 4)) :: (.int 0) :: (.int 0) :: (.int 0) :: (.int 0) :: (.int 0) :: (.int 0) :: (.long 0) :: (.int 0) :: (.int 0) :: (.int 0) :: (.ref (ex 5)) :: (.ref (ex 6)) :: (.int 0) :: (.ref (ex 7)) :: (.int (-1)) :: (.int 0) :: (.int 0) :: (.int 0) :: (.int 0) :: (.int 0) :: (.int 0) :: (.ref (ex 8)) :: (.int 0) :: (.ref (ex 9)) :: (.int 0) :: (.int 0) :: (.int 0) :: (.int 0) :: (.int 0) :: (.ref (ex 10)) :: (.ref (ex 11)) :: (.ref (ex 12)) :: (.ref (ex 13)) :: []))), ((a 1), .inl (T 1, 2187, .inl (fun _ => 0)))] := hD
  refine lv_iconst (v := (-1)) hx hb dX12_party_5 (by decide) ?_
  refine lv_istore_n (lv' := [(1, .int (-1)), (0, .ref (a 0))]) hx hb dX12_party_6 rfl hl (by decide) rfl (fun ls hl => ?_)
  refine lv_iconst (v := 0) hx hb dX12_party_7 (by decide) ?_
  refine lv_istore_n (lv' := [(2, .int 0), (1, .int (-1)), (0, .ref (a 0))]) hx hb dX12_party_8 rfl hl (by decide) rfl (fun ls hl => ?_)
  refine lv_iload_n hx hb dX12_party_9 rfl (lv_at hl 0 rfl) ?_
  refine lv_iconst (v := 1) hx hb dX12_party_10 (by decide) ?_
  refine lv_aload_n hx hb dX12_party_11 rfl (lv_at hl 2 rfl) ?_
  refine va_get (D := D) (ci := 12) (v := .ref (a 1)) (C := RX12) (T := TX12) (N := 44) hx hb htg inX12 hown hK.1 hP 0 rfl rfl 6 (by decide) (htg _ kw_1413) (fun _ h9 => h9) rfl dX12_party_12 ?_
  refine lv_iconst (v := 1) hx hb dX12_party_15 (by decide) ?_
  refine va_iald hx hb hK.1 hP 1 1 rfl rfl (vp_in_nI (n := 1) (by decide) (by decide)) dX12_party_16 ?_
  refine xz_i 0 rfl ?_
  refine lv_ishl hx hb dX12_party_17 ?_
  refine xz_i 1 (by decide) ?_
  refine lv_icmp_ge (tgt := 65) hx hb dX12_party_18 (by decide) (fun c => absurd c (by decide)) (fun _ => ?_)
  refine lv_iload_n hx hb dX12_party_21 rfl (lv_at hl 0 rfl) ?_
  refine lv_aload_n hx hb dX12_party_22 rfl (lv_at hl 2 rfl) ?_
  refine va_get (D := D) (ci := 12) (v := .ref (a 1)) (C := RX12) (T := TX12) (N := 44) hx hb htg inX12 hown hK.1 hP 0 rfl rfl 6 (by decide) (htg _ kw_1413) (fun _ h9 => h9) rfl dX12_party_23 ?_
  refine lv_sipush (v := 147) hx hb dX12_party_26 (by decide) ?_
  refine va_iald hx hb hK.1 hP 1 1 rfl rfl (vp_in_nI (n := 147) (by decide) (by decide)) dX12_party_29 ?_
  refine xz_i 0 rfl ?_
  refine lv_iand hx hb dX12_party_30 ?_
  refine xz_i 0 (by decide) ?_
  refine lv_if_ne (tgt := 59) hx hb dX12_party_31 (by decide) (fun c => absurd (by decide) c) (fun _ => ?_)
  refine lv_iload_n hx hb dX12_party_34 rfl (lv_at hl 1 rfl) ?_
  refine lv_if_lt (tgt := 49) hx hb dX12_party_35 (by decide) (fun _ => ?_) (fun c => absurd (by decide) c)
  refine lv_aload_n hx hb dX12_party_49 rfl (lv_at hl 2 rfl) ?_
  refine lv_iload_n hx hb dX12_party_50 rfl (lv_at hl 0 rfl) ?_
  have hPc := hP.sub (ws' := (pre_X12_hasEnough T (xa [(a 0), (a 1)]) (xa [(ex 0), (ex 1), (ex 2), (ex 3), (ex 4), (ex 5), (ex 6), (ex 7), (ex 8), (ex 9), (ex 10), (ex 11), (ex 12), (ex 13)]) (xf []) (xh []) (xv []))) [0, 1] rfl
  have hDc := hD.sub (ws' := (pre_X12_hasEnough T (xa [(a 0), (a 1)]) (xa [(ex 0), (ex 1), (ex 2), (ex 3), (ex 4), (ex 5), (ex 6), (ex 7), (ex 8), (ex 9), (ex 10), (ex 11), (ex 12), (ex 13)]) (xf []) (xh []) (xv []))) [0, 1] (by decide) rfl
  have hFc := va_free (wc := (pre_X12_hasEnough T (xa [(a 0), (a 1)]) (xa [(ex 0), (ex 1), (ex 2), (ex 3), (ex 4), (ex 5), (ex 6), (ex 7), (ex 8), (ex 9), (ex 10), (ex 11), (ex 12), (ex 13)]) (xf []) (xh []) (xv []))) hD hS hA [0, 1] rfl
  refine va_calli (va_runV (As := [.int 0]) (rest := []) ⟨hx, hb, hml, hown, htg⟩ (c_X12_hasEnough l D T (xa [(a 0), (a 1)]) (xa [(ex 0), (ex 1), (ex 2), (ex 3), (ex 4), (ex 5), (ex 6), (ex 7), (ex 8), (ex 9), (ex 10), (ex 11), (ex 12), (ex 13)]) (xf []) (xh []) (xv []) H.size) ⟨callB_of 1 htg (xg_ok kw_1884) rfl rfl rfl (htg _ kw_17) (htg _ kw_1881) (by decide +kernel) ⟨by rw [hR]; exact Nat.le_of_ble_eq_true rfl, by rw [hR]; exact Nat.le_of_ble_eq_true rfl⟩, htg _ kw_1883, htg _ ks_169⟩ (xpreV hK hPc hDc (va_recv hK.1 hPc (ci := 12) (q0 := 0) rfl rfl)) rfl rfl hl.1 rfl (lv_room (Nat.le_of_ble_eq_true rfl)) dX12_party_51 ⟨by rw [hR]; exact Nat.le_of_ble_eq_true rfl, by rw [hR]; exact Nat.le_of_ble_eq_true rfl⟩) hS (fun q _ h => hFc q h) hFc (fun r9 u t H1 locs ht hvm hw hB hz1 hk1 hS => ?_)
  obtain ⟨bk, fik, flk, vik, hP1, hD1, hGk⟩ := hB
  rw [ht] at hP1
  obtain ⟨hP, hD⟩ := va_join (wr := []) (w1 := [((a 0), .inr (12, ((.int 0) :: (.ref (ex 0)) :: (.int 0) :: (.int 0) :: (.int 0) :: (.int 0) :: (.ref (a 1)) :: (.ref (ex 1)) :: (.ref (ex 2)) :: (.ref (ex 3)) :: (.ref (ex 4)) :: (.int 0) :: (.int 0) :: (.int 0) :: (.int 0) :: (.int 0) :: (.int 0) :: (.long 0) :: (.int 0) :: (.int 0) :: (.int 0) :: (.ref (ex 5)) :: (.ref (ex 6)) :: (.int 0) :: (.ref (ex 7)) :: (.int (-1)) :: (.int 0) :: (.int 0) :: (.int 0) :: (.int 0) :: (.int 0) :: (.int 0) :: (.ref (ex 8)) :: (.int 0) :: (.ref (ex 9)) :: (.int 0) :: (.int 0) :: (.int 0) :: (.int 0) :: (.int 0) :: (.ref (ex 10)) :: (.ref (ex 11)) :: (.ref (ex 12)) :: (.ref (ex 13)) :: []))), ((a 1), .inl (T 1, 2187, .inl (fun _ => 0)))]) hP hD [0, 1] [] rfl rfl (by decide) (by decide) hk1 hFc hP1 hD1
  subst hw
  clear hPc hDc hFc hP1 hD1 hk1 hz1 hvm ht
  generalize H1 = H at hP hS ⊢
  replace hP : va_P D vwCl [((a 0), .inr (12, ((.int 0) :: (.ref (ex 0)) :: (.int 0) :: (.int 0) :: (.int 0) :: (.int 0) :: (.ref (a 1)) :: (.ref (ex 1)) :: (.ref (ex 2)) :: (.ref (ex 3)) :: (.ref (ex 4)) :: (.int 0) :: (.int 0) :: (.int 0) :: (.int 0) :: (.int 0) :: (.int 0) :: (.long 0) :: (.int 0) :: (.int 0) :: (.int 0) :: (.ref (ex 5)) :: (.ref (ex 6)) :: (.int 0) :: (.ref (ex 7)) :: (.int (-1)) :: (.int 0) :: (.int 0) :: (.int 0) :: (.int 0) :: (.int 0) :: (.int 0) :: (.ref (ex 8)) :: (.int 0) :: (.ref (ex 9)) :: (.int 0) :: (.int 0) :: (.int 0) :: (.int 0) :: (.int 0) :: (.ref (ex 10)) :: (.ref (ex 11)) :: (.ref (ex 12)) :: (.ref (ex 13)) :: []))), ((a 1), .inl (T 1, 2187, .inl (fun _ => 0)))] H := hP
  replace hD : va_D A [((a 0), .inr (12, ((.int 0) :: (.ref (ex 0)) :: (.int 0) :: (.int 0) :: (.int 0) :: (.int 0) :: (.ref (a 1)) :: (.ref (ex 1)) :: (.ref (ex 2)) :: (.ref (ex 3)) :: (.ref (ex 4)) :: (.int 0) :: (.int 0) :: (.int 0) :: (.int 0) :: (.int 0) :: (.int 0) :: (.long 0) :: (.int 0) :: (.int 0) :: (.int 0) :: (.ref (ex 5)) :: (.ref (ex 6)) :: (.int 0) :: (.ref (ex 7)) :: (.int (-1)) :: (.int 0) :: (.int 0) :: (.int 0) :: (.int 0) :: (.int 0) :: (.int 0) :: (.ref (ex 8)) :: (.int 0) :: (.ref (ex 9)) :: (.int 0) :: (.int 0) :: (.int 0) :: (.int 0) :: (.int 0) :: (.ref (ex 10)) :: (.ref (ex 11)) :: (.ref (ex 12)) :: (.ref (ex 13)) :: []))), ((a 1), .inl (T 1, 2187, .inl (fun _ => 0)))] := hD
  refine lv_if_eq (tgt := 59) hx hb dX12_party_54 (by decide) (fun _ => ?_) (fun c => absurd (by decide) c)
  refine lv_iinc (v := 1) (lv' := [(2, .int 1), (1, .int (-1)), (0, .ref (a 0))]) hx hb dX12_party_59 hl (k := 0) rfl (by decide) (by decide) rfl (fun ls hl => ?_)
  refine lv_goto (tgt := 9) hx hb dX12_party_62 (by decide) ?_
  refine lv_iload_n hx hb dX12_party_9 rfl (lv_at hl 0 rfl) ?_
  refine lv_iconst (v := 1) hx hb dX12_party_10 (by decide) ?_
  refine lv_aload_n hx hb dX12_party_11 rfl (lv_at hl 2 rfl) ?_
  refine va_get (D := D) (ci := 12) (v := .ref (a 1)) (C := RX12) (T := TX12) (N := 44) hx hb htg inX12 hown hK.1 hP 0 rfl rfl 6 (by decide) (htg _ kw_1413) (fun _ h9 => h9) rfl dX12_party_12 ?_
  refine lv_iconst (v := 1) hx hb dX12_party_15 (by decide) ?_
  refine va_iald hx hb hK.1 hP 1 1 rfl rfl (vp_in_nI (n := 1) (by decide) (by decide)) dX12_party_16 ?_
  refine xz_i 0 rfl ?_
  refine lv_ishl hx hb dX12_party_17 ?_
  refine xz_i 1 (by decide) ?_
  refine lv_icmp_ge (tgt := 65) hx hb dX12_party_18 (by decide) (fun _ => ?_) (fun c => absurd (by decide) c)
  refine lv_iload_n hx hb dX12_party_65 rfl (lv_at hl 1 rfl) ?_
  have hP9 := hP.sub (ws' := []) [] rfl
  have hD9 := hD.sub (ws' := []) [] (by decide) rfl
  rw [hQ]
  exact W.iret (v := (-1)) hx hb hr (fun t ht hW => ⟨⟨(-1), (), rfl, rfl, ⟨xa [], xf [], xh [], xv [], by rw [ht]; exact hP9, hD9, trivial⟩⟩, hS.F ht⟩) hS.2.2 dX12_party_66
abbrev pre_X12_least (T : Nat → ClassId) (a ex : Nat → Nat) (fi : Nat → Nat → Int32) (fl : Nat → Nat → Int64) (vi : Nat → Int32) : va_W := [((a 0), .inr (12, ((.int 0) :: (.ref (ex 0)) :: (.int 0) :: (.int 0) :: (.int 0) :: (.int 0) :: (.ref (a 1)) :: (.ref (ex 1)) :: (.ref (ex 2)) :: (.ref (ex 3)) :: (.ref (ex 4)) :: (.int 0) :: (.int 0) :: (.int 0) :: (.int 0) :: (.int 0) :: (.int 0) :: (.long 0) :: (.int 0) :: (.int 0) :: (.int 0) :: (.ref (ex 5)) :: (.ref (ex 6)) :: (.int 0) :: (.ref (ex 7)) :: (.int (-1)) :: (.int 0) :: (.int 0) :: (.int 0) :: (.int 0) :: (.int 0) :: (.int 0) :: (.ref (ex 8)) :: (.int 0) :: (.ref (ex 9)) :: (.int 0) :: (.int 0) :: (.int 0) :: (.int 0) :: (.int 0) :: (.ref (ex 10)) :: (.ref (ex 11)) :: (.ref (ex 12)) :: (.ref (ex 13)) :: []))), ((a 1), .inl (T 1, 2187, .inl (fun _ => 0)))]
set_option maxHeartbeats 4000000 in
set_option maxRecDepth 100000 in
theorem c_X12_least (l : Launch) (D : va_G) (T : Nat → ClassId) (a ex : Nat → Nat) (fi : Nat → Nat → Int32) (fl : Nat → Nat → Int64) (vi : Nat → Int32) (sz : Nat) : Met l yX12_least (xw yX12_least cX12_least 6 (some .int)) ({ frames := 2, cells := 0, slots := 0, locals := 51 }) (xP D T [.ref (a 0), .int (vi 0)] sz (pre_X12_least T a ex fi fl vi)) (va_Qi (fun r (_ : Unit) => r = (-1)) (xB D (va_A (pre_X12_least T a ex fi fl vi) sz) (fun _ => True) (fun b fj fm vj => [])) (va_A (pre_X12_least T a ex fi fl vi) sz)) 0 0 (va_A (pre_X12_least T a ex fi fl vi) sz) := by
  refine xofW (cc := cX12_least) (maxL := 6) (ret := (some .int)) (by decide) rfl ?_
  intro p e s m args below meth c s₁ R Q hR hQ B hml hv
  obtain ⟨rfl, hsz, hP, hK, hD0⟩ := hv
  have hx := B.exec
  have hb := B.bytes
  have hr := B.returns
  have hts := atoms_spec (ws := xw yX12_least cX12_least 6 (some .int)) B.pre
  have htg : ∀ w ∈ xg, w.before _ s = true := fun w h => hts w (List.mem_cons_of_mem _ h)
  have hown : s.vm.findClass RX12 = some m.cls := findClass_of_methodNamed B.named
  have hlocks := B.notSynchronized
  subst hsz
  have hD := hD0.self (sz := s.heap.size)
  generalize hAe : va_A (pre_X12_least T a ex fi fl vi) s.heap.size = A at hD hQ
  have hA : ∀ q : Nat, s.heap.size ≤ q → A q := fun q h => by rw [← hAe]; exact Or.inr h
  have hS : va_S A s.heap s.heap [] := va_S.rf
  replace hP : va_P D vwCl [((a 0), .inr (12, ((.int 0) :: (.ref (ex 0)) :: (.int 0) :: (.int 0) :: (.int 0) :: (.int 0) :: (.ref (a 1)) :: (.ref (ex 1)) :: (.ref (ex 2)) :: (.ref (ex 3)) :: (.ref (ex 4)) :: (.int 0) :: (.int 0) :: (.int 0) :: (.int 0) :: (.int 0) :: (.int 0) :: (.long 0) :: (.int 0) :: (.int 0) :: (.int 0) :: (.ref (ex 5)) :: (.ref (ex 6)) :: (.int 0) :: (.ref (ex 7)) :: (.int (-1)) :: (.int 0) :: (.int 0) :: (.int 0) :: (.int 0) :: (.int 0) :: (.int 0) :: (.ref (ex 8)) :: (.int 0) :: (.ref (ex 9)) :: (.int 0) :: (.int 0) :: (.int 0) :: (.int 0) :: (.int 0) :: (.ref (ex 10)) :: (.ref (ex 11)) :: (.ref (ex 12)) :: (.ref (ex 13)) :: []))), ((a 1), .inl (T 1, 2187, .inl (fun _ => 0)))] s.heap := hP
  replace hD : va_D A [((a 0), .inr (12, ((.int 0) :: (.ref (ex 0)) :: (.int 0) :: (.int 0) :: (.int 0) :: (.int 0) :: (.ref (a 1)) :: (.ref (ex 1)) :: (.ref (ex 2)) :: (.ref (ex 3)) :: (.ref (ex 4)) :: (.int 0) :: (.int 0) :: (.int 0) :: (.int 0) :: (.int 0) :: (.int 0) :: (.long 0) :: (.int 0) :: (.int 0) :: (.int 0) :: (.ref (ex 5)) :: (.ref (ex 6)) :: (.int 0) :: (.ref (ex 7)) :: (.int (-1)) :: (.int 0) :: (.int 0) :: (.int 0) :: (.int 0) :: (.int 0) :: (.int 0) :: (.ref (ex 8)) :: (.int 0) :: (.ref (ex 9)) :: (.int 0) :: (.int 0) :: (.int 0) :: (.int 0) :: (.int 0) :: (.ref (ex 10)) :: (.ref (ex 11)) :: (.ref (ex 12)) :: (.ref (ex 13)) :: []))), ((a 1), .inl (T 1, 2187, .inl (fun _ => 0)))] := hD
  have hl := lv_entry ([.ref (a 0), .int (vi 0)]) (n := 6) (Nat.le_of_ble_eq_true rfl)
  rw [lg_entry_eq]
  generalize (lg_sl ([.ref (a 0), .int (vi 0)]) ++ List.replicate (6 - (lg_sl ([.ref (a 0), .int (vi 0)])).length) Slot.unset).toArray = ls at hl ⊢
  replace hl : lv_has ls 6 [(0, .ref (a 0)), (1, .int (vi 0))] := hl
  refine lv_aload_n hx hb dX12_least_0 rfl (lv_at hl 0 rfl) ?_
  refine lv_iconst (v := 0) hx hb dX12_least_1 (by decide) ?_
  refine va_put (D := D) (ci := 12) (v := .int 0) (ty := .int) (C := RX12) (T := TX12) (N := 44) hx hb htg inX12 tyX12 tyX12_ok nmX12 hown hK.1 hP hD hS 0 rfl rfl 0 (by decide) (htg _ kw_1407) (fun _ h9 => h9) rfl (by decide +kernel) rfl rfl (Nat.le_of_ble_eq_true rfl) dX12_least_2 (fun H locs hP hD hS => ?_)
  replace hP : va_P D vwCl [((a 0), .inr (12, ((.int 0) :: (.ref (ex 0)) :: (.int 0) :: (.int 0) :: (.int 0) :: (.int 0) :: (.ref (a 1)) :: (.ref (ex 1)) :: (.ref (ex 2)) :: (.ref (ex 3)) :: (.ref (ex 4)) :: (.int 0) :: (.int 0) :: (.int 0) :: (.int 0) :: (.int 0) :: (.int 0) :: (.long 0) :: (.int 0) :: (.int 0) :: (.int 0) :: (.ref (ex 5)) :: (.ref (ex 6)) :: (.int 0) :: (.ref (ex 7)) :: (.int (-1)) :: (.int 0) :: (.int 0) :: (.int 0) :: (.int 0) :: (.int 0) :: (.int 0) :: (.ref (ex 8)) :: (.int 0) :: (.ref (ex 9)) :: (.int 0) :: (.int 0) :: (.int 0) :: (.int 0) :: (.int 0) :: (.ref (ex 10)) :: (.ref (ex 11)) :: (.ref (ex 12)) :: (.ref (ex 13)) :: []))), ((a 1), .inl (T 1, 2187, .inl (fun _ => 0)))] H := hP
  replace hD : va_D A [((a 0), .inr (12, ((.int 0) :: (.ref (ex 0)) :: (.int 0) :: (.int 0) :: (.int 0) :: (.int 0) :: (.ref (a 1)) :: (.ref (ex 1)) :: (.ref (ex 2)) :: (.ref (ex 3)) :: (.ref (ex 4)) :: (.int 0) :: (.int 0) :: (.int 0) :: (.int 0) :: (.int 0) :: (.int 0) :: (.long 0) :: (.int 0) :: (.int 0) :: (.int 0) :: (.ref (ex 5)) :: (.ref (ex 6)) :: (.int 0) :: (.ref (ex 7)) :: (.int (-1)) :: (.int 0) :: (.int 0) :: (.int 0) :: (.int 0) :: (.int 0) :: (.int 0) :: (.ref (ex 8)) :: (.int 0) :: (.ref (ex 9)) :: (.int 0) :: (.int 0) :: (.int 0) :: (.int 0) :: (.int 0) :: (.ref (ex 10)) :: (.ref (ex 11)) :: (.ref (ex 12)) :: (.ref (ex 13)) :: []))), ((a 1), .inl (T 1, 2187, .inl (fun _ => 0)))] := hD
  refine lv_aload_n hx hb dX12_least_5 rfl (lv_at hl 0 rfl) ?_
  refine lv_iload_n hx hb dX12_least_6 rfl (lv_at hl 1 rfl) ?_
  have hPc := hP.sub (ws' := (pre_X12_isSoul T (xa [(a 0), (a 1)]) (xa [(ex 0), (ex 1), (ex 2), (ex 3), (ex 4), (ex 5), (ex 6), (ex 7), (ex 8), (ex 9), (ex 10), (ex 11), (ex 12), (ex 13)]) (xf []) (xh []) (xv [(vi 0)]))) [0, 1] rfl
  have hDc := hD.sub (ws' := (pre_X12_isSoul T (xa [(a 0), (a 1)]) (xa [(ex 0), (ex 1), (ex 2), (ex 3), (ex 4), (ex 5), (ex 6), (ex 7), (ex 8), (ex 9), (ex 10), (ex 11), (ex 12), (ex 13)]) (xf []) (xh []) (xv [(vi 0)]))) [0, 1] (by decide) rfl
  have hFc := va_free (wc := (pre_X12_isSoul T (xa [(a 0), (a 1)]) (xa [(ex 0), (ex 1), (ex 2), (ex 3), (ex 4), (ex 5), (ex 6), (ex 7), (ex 8), (ex 9), (ex 10), (ex 11), (ex 12), (ex 13)]) (xf []) (xh []) (xv [(vi 0)]))) hD hS hA [0, 1] rfl
  refine va_calli (va_runV (As := [.int (vi 0)]) (rest := []) ⟨hx, hb, hml, hown, htg⟩ (c_X12_isSoul l D T (xa [(a 0), (a 1)]) (xa [(ex 0), (ex 1), (ex 2), (ex 3), (ex 4), (ex 5), (ex 6), (ex 7), (ex 8), (ex 9), (ex 10), (ex 11), (ex 12), (ex 13)]) (xf []) (xh []) (xv [(vi 0)]) H.size) ⟨callB_of 1 htg (xg_ok kw_1652) rfl rfl rfl (htg _ kw_17) (htg _ kw_1649) (by decide +kernel) ⟨by rw [hR]; exact Nat.le_of_ble_eq_true rfl, by rw [hR]; exact Nat.le_of_ble_eq_true rfl⟩, htg _ kw_1651, htg _ ks_135⟩ (xpreV hK hPc hDc (va_recv hK.1 hPc (ci := 12) (q0 := 0) rfl rfl)) rfl rfl hl.1 rfl (lv_room (Nat.le_of_ble_eq_true rfl)) dX12_least_7 ⟨by rw [hR]; exact Nat.le_of_ble_eq_true rfl, by rw [hR]; exact Nat.le_of_ble_eq_true rfl⟩) hS (fun q _ h => hFc q h) hFc (fun r9 u t H1 locs ht hvm hw hB hz1 hk1 hS => ?_)
  obtain ⟨bk, fik, flk, vik, hP1, hD1, hGk⟩ := hB
  rw [ht] at hP1
  obtain ⟨hP, hD⟩ := va_join (wr := []) (w1 := [((a 0), .inr (12, ((.int 0) :: (.ref (ex 0)) :: (.int 0) :: (.int 0) :: (.int 0) :: (.int 0) :: (.ref (a 1)) :: (.ref (ex 1)) :: (.ref (ex 2)) :: (.ref (ex 3)) :: (.ref (ex 4)) :: (.int 0) :: (.int 0) :: (.int 0) :: (.int 0) :: (.int 0) :: (.int 0) :: (.long 0) :: (.int 0) :: (.int 0) :: (.int 0) :: (.ref (ex 5)) :: (.ref (ex 6)) :: (.int 0) :: (.ref (ex 7)) :: (.int (-1)) :: (.int 0) :: (.int 0) :: (.int 0) :: (.int 0) :: (.int 0) :: (.int 0) :: (.ref (ex 8)) :: (.int 0) :: (.ref (ex 9)) :: (.int 0) :: (.int 0) :: (.int 0) :: (.int 0) :: (.int 0) :: (.ref (ex 10)) :: (.ref (ex 11)) :: (.ref (ex 12)) :: (.ref (ex 13)) :: []))), ((a 1), .inl (T 1, 2187, .inl (fun _ => 0)))]) hP hD [0, 1] [] rfl rfl (by decide) (by decide) hk1 hFc hP1 hD1
  subst hw
  clear hPc hDc hFc hP1 hD1 hk1 hz1 hvm ht
  generalize H1 = H at hP hS ⊢
  replace hP : va_P D vwCl [((a 0), .inr (12, ((.int 0) :: (.ref (ex 0)) :: (.int 0) :: (.int 0) :: (.int 0) :: (.int 0) :: (.ref (a 1)) :: (.ref (ex 1)) :: (.ref (ex 2)) :: (.ref (ex 3)) :: (.ref (ex 4)) :: (.int 0) :: (.int 0) :: (.int 0) :: (.int 0) :: (.int 0) :: (.int 0) :: (.long 0) :: (.int 0) :: (.int 0) :: (.int 0) :: (.ref (ex 5)) :: (.ref (ex 6)) :: (.int 0) :: (.ref (ex 7)) :: (.int (-1)) :: (.int 0) :: (.int 0) :: (.int 0) :: (.int 0) :: (.int 0) :: (.int 0) :: (.ref (ex 8)) :: (.int 0) :: (.ref (ex 9)) :: (.int 0) :: (.int 0) :: (.int 0) :: (.int 0) :: (.int 0) :: (.ref (ex 10)) :: (.ref (ex 11)) :: (.ref (ex 12)) :: (.ref (ex 13)) :: []))), ((a 1), .inl (T 1, 2187, .inl (fun _ => 0)))] H := hP
  replace hD : va_D A [((a 0), .inr (12, ((.int 0) :: (.ref (ex 0)) :: (.int 0) :: (.int 0) :: (.int 0) :: (.int 0) :: (.ref (a 1)) :: (.ref (ex 1)) :: (.ref (ex 2)) :: (.ref (ex 3)) :: (.ref (ex 4)) :: (.int 0) :: (.int 0) :: (.int 0) :: (.int 0) :: (.int 0) :: (.int 0) :: (.long 0) :: (.int 0) :: (.int 0) :: (.int 0) :: (.ref (ex 5)) :: (.ref (ex 6)) :: (.int 0) :: (.ref (ex 7)) :: (.int (-1)) :: (.int 0) :: (.int 0) :: (.int 0) :: (.int 0) :: (.int 0) :: (.int 0) :: (.ref (ex 8)) :: (.int 0) :: (.ref (ex 9)) :: (.int 0) :: (.int 0) :: (.int 0) :: (.int 0) :: (.int 0) :: (.ref (ex 10)) :: (.ref (ex 11)) :: (.ref (ex 12)) :: (.ref (ex 13)) :: []))), ((a 1), .inl (T 1, 2187, .inl (fun _ => 0)))] := hD
  refine lv_if_eq (tgt := 21) hx hb dX12_least_10 (by decide) (fun _ => ?_) (fun c => absurd (by decide) c)
  refine lv_iconst (v := (-1)) hx hb dX12_least_21 (by decide) ?_
  have hP9 := hP.sub (ws' := []) [] rfl
  have hD9 := hD.sub (ws' := []) [] (by decide) rfl
  rw [hQ]
  exact W.iret (v := (-1)) hx hb hr (fun t ht hW => ⟨⟨(-1), (), rfl, rfl, ⟨xa [], xf [], xh [], xv [], by rw [ht]; exact hP9, hD9, trivial⟩⟩, hS.F ht⟩) hS.2.2 dX12_least_22
abbrev pre_X12_cheapest (T : Nat → ClassId) (a ex : Nat → Nat) (fi : Nat → Nat → Int32) (fl : Nat → Nat → Int64) (vi : Nat → Int32) : va_W := [((a 0), .inr (12, ((.int 0) :: (.ref (ex 0)) :: (.int 0) :: (.int 0) :: (.int 0) :: (.int 0) :: (.ref (ex 1)) :: (.ref (ex 2)) :: (.ref (ex 3)) :: (.ref (ex 4)) :: (.ref (ex 5)) :: (.int 0) :: (.int 0) :: (.int 0) :: (.int 0) :: (.int 0) :: (.int 0) :: (.long 0) :: (.int 0) :: (.int 0) :: (.int 0) :: (.ref (ex 6)) :: (.ref (ex 7)) :: (.int 0) :: (.ref (ex 8)) :: (.int (-1)) :: (.int 0) :: (.int 0) :: (.int 0) :: (.int 0) :: (.int 0) :: (.int 0) :: (.ref (ex 9)) :: (.int 0) :: (.ref (ex 10)) :: (.int 0) :: (.int 0) :: (.int 0) :: (.int 0) :: (.int 0) :: (.ref (ex 11)) :: (.ref (ex 12)) :: (.ref (ex 13)) :: (.ref (ex 14)) :: [])))]
set_option maxHeartbeats 4000000 in
set_option maxRecDepth 100000 in
theorem c_X12_cheapest (l : Launch) (D : va_G) (T : Nat → ClassId) (a ex : Nat → Nat) (fi : Nat → Nat → Int32) (fl : Nat → Nat → Int64) (vi : Nat → Int32) (sz : Nat) : Met l yX12_cheapest (xw yX12_cheapest cX12_cheapest 1 (some .int)) ({ frames := 0, cells := 0, slots := 0, locals := 0 }) (xP D T [.ref (a 0)] sz (pre_X12_cheapest T a ex fi fl vi)) (va_Qi (fun r (_ : Unit) => r = (-1)) (xB D (va_A (pre_X12_cheapest T a ex fi fl vi) sz) (fun _ => True) (fun b fj fm vj => [])) (va_A (pre_X12_cheapest T a ex fi fl vi) sz)) 0 0 (va_A (pre_X12_cheapest T a ex fi fl vi) sz) := by
  refine xofW (cc := cX12_cheapest) (maxL := 1) (ret := (some .int)) (by decide) rfl ?_
  intro p e s m args below meth c s₁ R Q hR hQ B hml hv
  obtain ⟨rfl, hsz, hP, hK, hD0⟩ := hv
  have hx := B.exec
  have hb := B.bytes
  have hr := B.returns
  have hts := atoms_spec (ws := xw yX12_cheapest cX12_cheapest 1 (some .int)) B.pre
  have htg : ∀ w ∈ xg, w.before _ s = true := fun w h => hts w (List.mem_cons_of_mem _ h)
  have hown : s.vm.findClass RX12 = some m.cls := findClass_of_methodNamed B.named
  have hlocks := B.notSynchronized
  subst hsz
  have hD := hD0.self (sz := s.heap.size)
  generalize hAe : va_A (pre_X12_cheapest T a ex fi fl vi) s.heap.size = A at hD hQ
  have hA : ∀ q : Nat, s.heap.size ≤ q → A q := fun q h => by rw [← hAe]; exact Or.inr h
  have hS : va_S A s.heap s.heap [] := va_S.rf
  replace hP : va_P D vwCl [((a 0), .inr (12, ((.int 0) :: (.ref (ex 0)) :: (.int 0) :: (.int 0) :: (.int 0) :: (.int 0) :: (.ref (ex 1)) :: (.ref (ex 2)) :: (.ref (ex 3)) :: (.ref (ex 4)) :: (.ref (ex 5)) :: (.int 0) :: (.int 0) :: (.int 0) :: (.int 0) :: (.int 0) :: (.int 0) :: (.long 0) :: (.int 0) :: (.int 0) :: (.int 0) :: (.ref (ex 6)) :: (.ref (ex 7)) :: (.int 0) :: (.ref (ex 8)) :: (.int (-1)) :: (.int 0) :: (.int 0) :: (.int 0) :: (.int 0) :: (.int 0) :: (.int 0) :: (.ref (ex 9)) :: (.int 0) :: (.ref (ex 10)) :: (.int 0) :: (.int 0) :: (.int 0) :: (.int 0) :: (.int 0) :: (.ref (ex 11)) :: (.ref (ex 12)) :: (.ref (ex 13)) :: (.ref (ex 14)) :: [])))] s.heap := hP
  replace hD : va_D A [((a 0), .inr (12, ((.int 0) :: (.ref (ex 0)) :: (.int 0) :: (.int 0) :: (.int 0) :: (.int 0) :: (.ref (ex 1)) :: (.ref (ex 2)) :: (.ref (ex 3)) :: (.ref (ex 4)) :: (.ref (ex 5)) :: (.int 0) :: (.int 0) :: (.int 0) :: (.int 0) :: (.int 0) :: (.int 0) :: (.long 0) :: (.int 0) :: (.int 0) :: (.int 0) :: (.ref (ex 6)) :: (.ref (ex 7)) :: (.int 0) :: (.ref (ex 8)) :: (.int (-1)) :: (.int 0) :: (.int 0) :: (.int 0) :: (.int 0) :: (.int 0) :: (.int 0) :: (.ref (ex 9)) :: (.int 0) :: (.ref (ex 10)) :: (.int 0) :: (.int 0) :: (.int 0) :: (.int 0) :: (.int 0) :: (.ref (ex 11)) :: (.ref (ex 12)) :: (.ref (ex 13)) :: (.ref (ex 14)) :: [])))] := hD
  have hl := lv_entry ([.ref (a 0)]) (n := 1) (Nat.le_of_ble_eq_true rfl)
  rw [lg_entry_eq]
  generalize (lg_sl ([.ref (a 0)]) ++ List.replicate (1 - (lg_sl ([.ref (a 0)])).length) Slot.unset).toArray = ls at hl ⊢
  replace hl : lv_has ls 1 [(0, .ref (a 0))] := hl
  refine lv_aload_n hx hb dX12_cheapest_0 rfl (lv_at hl 0 rfl) ?_
  refine lv_iconst (v := 0) hx hb dX12_cheapest_1 (by decide) ?_
  refine va_put (D := D) (ci := 12) (v := .int 0) (ty := .int) (C := RX12) (T := TX12) (N := 44) hx hb htg inX12 tyX12 tyX12_ok nmX12 hown hK.1 hP hD hS 0 rfl rfl 0 (by decide) (htg _ kw_1407) (fun _ h9 => h9) rfl (by decide +kernel) rfl rfl (Nat.le_of_ble_eq_true rfl) dX12_cheapest_2 (fun H locs hP hD hS => ?_)
  replace hP : va_P D vwCl [((a 0), .inr (12, ((.int 0) :: (.ref (ex 0)) :: (.int 0) :: (.int 0) :: (.int 0) :: (.int 0) :: (.ref (ex 1)) :: (.ref (ex 2)) :: (.ref (ex 3)) :: (.ref (ex 4)) :: (.ref (ex 5)) :: (.int 0) :: (.int 0) :: (.int 0) :: (.int 0) :: (.int 0) :: (.int 0) :: (.long 0) :: (.int 0) :: (.int 0) :: (.int 0) :: (.ref (ex 6)) :: (.ref (ex 7)) :: (.int 0) :: (.ref (ex 8)) :: (.int (-1)) :: (.int 0) :: (.int 0) :: (.int 0) :: (.int 0) :: (.int 0) :: (.int 0) :: (.ref (ex 9)) :: (.int 0) :: (.ref (ex 10)) :: (.int 0) :: (.int 0) :: (.int 0) :: (.int 0) :: (.int 0) :: (.ref (ex 11)) :: (.ref (ex 12)) :: (.ref (ex 13)) :: (.ref (ex 14)) :: [])))] H := hP
  replace hD : va_D A [((a 0), .inr (12, ((.int 0) :: (.ref (ex 0)) :: (.int 0) :: (.int 0) :: (.int 0) :: (.int 0) :: (.ref (ex 1)) :: (.ref (ex 2)) :: (.ref (ex 3)) :: (.ref (ex 4)) :: (.ref (ex 5)) :: (.int 0) :: (.int 0) :: (.int 0) :: (.int 0) :: (.int 0) :: (.int 0) :: (.long 0) :: (.int 0) :: (.int 0) :: (.int 0) :: (.ref (ex 6)) :: (.ref (ex 7)) :: (.int 0) :: (.ref (ex 8)) :: (.int (-1)) :: (.int 0) :: (.int 0) :: (.int 0) :: (.int 0) :: (.int 0) :: (.int 0) :: (.ref (ex 9)) :: (.int 0) :: (.ref (ex 10)) :: (.int 0) :: (.int 0) :: (.int 0) :: (.int 0) :: (.int 0) :: (.ref (ex 11)) :: (.ref (ex 12)) :: (.ref (ex 13)) :: (.ref (ex 14)) :: [])))] := hD
  refine lv_aload_n hx hb dX12_cheapest_5 rfl (lv_at hl 0 rfl) ?_
  refine va_get (D := D) (ci := 12) (v := .int 0) (C := RX12) (T := TX12) (N := 44) hx hb htg inX12 hown hK.1 hP 0 rfl rfl 29 (by decide) (htg _ kw_1436) (fun _ h9 => h9) rfl dX12_cheapest_6 ?_
  refine lv_if_eq (tgt := 19) hx hb dX12_cheapest_9 (by decide) (fun _ => ?_) (fun c => absurd (by decide) c)
  refine lv_iconst (v := (-1)) hx hb dX12_cheapest_19 (by decide) ?_
  have hP9 := hP.sub (ws' := []) [] rfl
  have hD9 := hD.sub (ws' := []) [] (by decide) rfl
  rw [hQ]
  exact W.iret (v := (-1)) hx hb hr (fun t ht hW => ⟨⟨(-1), (), rfl, rfl, ⟨xa [], xf [], xh [], xv [], by rw [ht]; exact hP9, hD9, trivial⟩⟩, hS.F ht⟩) hS.2.2 dX12_cheapest_20
abbrev pre_X12_feasts (T : Nat → ClassId) (a ex : Nat → Nat) (fi : Nat → Nat → Int32) (fl : Nat → Nat → Int64) (vi : Nat → Int32) : va_W := [((a 0), .inr (12, ((.int 0) :: (.ref (ex 0)) :: (.int 0) :: (.int 0) :: (.int 0) :: (.int 0) :: (.ref (a 1)) :: (.ref (ex 1)) :: (.ref (ex 2)) :: (.ref (ex 3)) :: (.ref (ex 4)) :: (.int 0) :: (.int 0) :: (.int 0) :: (.int 0) :: (.int 0) :: (.int 0) :: (.long 0) :: (.int 0) :: (.int 0) :: (.int 0) :: (.ref (ex 5)) :: (.ref (ex 6)) :: (.int 0) :: (.ref (ex 7)) :: (.int (-1)) :: (.int 0) :: (.int 0) :: (.int 0) :: (.int 0) :: (.int 0) :: (.int 0) :: (.ref (ex 8)) :: (.int 0) :: (.ref (ex 9)) :: (.int 0) :: (.int 0) :: (.int 0) :: (.int 0) :: (.int 0) :: (.ref (ex 10)) :: (.ref (ex 11)) :: (.ref (ex 12)) :: (.ref (ex 13)) :: []))), ((a 1), .inl (T 1, 2187, .inl (fun _ => 0)))]
set_option maxHeartbeats 4000000 in
set_option maxRecDepth 100000 in
theorem c_X12_feasts (l : Launch) (D : va_G) (T : Nat → ClassId) (a ex : Nat → Nat) (fi : Nat → Nat → Int32) (fl : Nat → Nat → Int64) (vi : Nat → Int32) (sz : Nat) : Met l yX12_feasts (xw yX12_feasts cX12_feasts 5 (some .int)) ({ frames := 2, cells := 0, slots := 0, locals := 51 }) (xP D T [.ref (a 0), .int (vi 0), .int (vi 1)] sz (pre_X12_feasts T a ex fi fl vi)) (va_Qi (fun r (_ : Unit) => r = (-1)) (xB D (va_A (pre_X12_feasts T a ex fi fl vi) sz) (fun _ => True) (fun b fj fm vj => [])) (va_A (pre_X12_feasts T a ex fi fl vi) sz)) 0 0 (va_A (pre_X12_feasts T a ex fi fl vi) sz) := by
  refine xofW (cc := cX12_feasts) (maxL := 5) (ret := (some .int)) (by decide) rfl ?_
  intro p e s m args below meth c s₁ R Q hR hQ B hml hv
  obtain ⟨rfl, hsz, hP, hK, hD0⟩ := hv
  have hx := B.exec
  have hb := B.bytes
  have hr := B.returns
  have hts := atoms_spec (ws := xw yX12_feasts cX12_feasts 5 (some .int)) B.pre
  have htg : ∀ w ∈ xg, w.before _ s = true := fun w h => hts w (List.mem_cons_of_mem _ h)
  have hown : s.vm.findClass RX12 = some m.cls := findClass_of_methodNamed B.named
  have hlocks := B.notSynchronized
  subst hsz
  have hD := hD0.self (sz := s.heap.size)
  generalize hAe : va_A (pre_X12_feasts T a ex fi fl vi) s.heap.size = A at hD hQ
  have hA : ∀ q : Nat, s.heap.size ≤ q → A q := fun q h => by rw [← hAe]; exact Or.inr h
  have hS : va_S A s.heap s.heap [] := va_S.rf
  replace hP : va_P D vwCl [((a 0), .inr (12, ((.int 0) :: (.ref (ex 0)) :: (.int 0) :: (.int 0) :: (.int 0) :: (.int 0) :: (.ref (a 1)) :: (.ref (ex 1)) :: (.ref (ex 2)) :: (.ref (ex 3)) :: (.ref (ex 4)) :: (.int 0) :: (.int 0) :: (.int 0) :: (.int 0) :: (.int 0) :: (.int 0) :: (.long 0) :: (.int 0) :: (.int 0) :: (.int 0) :: (.ref (ex 5)) :: (.ref (ex 6)) :: (.int 0) :: (.ref (ex 7)) :: (.int (-1)) :: (.int 0) :: (.int 0) :: (.int 0) :: (.int 0) :: (.int 0) :: (.int 0) :: (.ref (ex 8)) :: (.int 0) :: (.ref (ex 9)) :: (.int 0) :: (.int 0) :: (.int 0) :: (.int 0) :: (.int 0) :: (.ref (ex 10)) :: (.ref (ex 11)) :: (.ref (ex 12)) :: (.ref (ex 13)) :: []))), ((a 1), .inl (T 1, 2187, .inl (fun _ => 0)))] s.heap := hP
  replace hD : va_D A [((a 0), .inr (12, ((.int 0) :: (.ref (ex 0)) :: (.int 0) :: (.int 0) :: (.int 0) :: (.int 0) :: (.ref (a 1)) :: (.ref (ex 1)) :: (.ref (ex 2)) :: (.ref (ex 3)) :: (.ref (ex 4)) :: (.int 0) :: (.int 0) :: (.int 0) :: (.int 0) :: (.int 0) :: (.int 0) :: (.long 0) :: (.int 0) :: (.int 0) :: (.int 0) :: (.ref (ex 5)) :: (.ref (ex 6)) :: (.int 0) :: (.ref (ex 7)) :: (.int (-1)) :: (.int 0) :: (.int 0) :: (.int 0) :: (.int 0) :: (.int 0) :: (.int 0) :: (.ref (ex 8)) :: (.int 0) :: (.ref (ex 9)) :: (.int 0) :: (.int 0) :: (.int 0) :: (.int 0) :: (.int 0) :: (.ref (ex 10)) :: (.ref (ex 11)) :: (.ref (ex 12)) :: (.ref (ex 13)) :: []))), ((a 1), .inl (T 1, 2187, .inl (fun _ => 0)))] := hD
  have hl := lv_entry ([.ref (a 0), .int (vi 0), .int (vi 1)]) (n := 5) (Nat.le_of_ble_eq_true rfl)
  rw [lg_entry_eq]
  generalize (lg_sl ([.ref (a 0), .int (vi 0), .int (vi 1)]) ++ List.replicate (5 - (lg_sl ([.ref (a 0), .int (vi 0), .int (vi 1)])).length) Slot.unset).toArray = ls at hl ⊢
  replace hl : lv_has ls 5 [(0, .ref (a 0)), (1, .int (vi 0)), (2, .int (vi 1))] := hl
  refine lv_aload_n hx hb dX12_feasts_0 rfl (lv_at hl 0 rfl) ?_
  refine lv_iconst (v := 0) hx hb dX12_feasts_1 (by decide) ?_
  refine va_put (D := D) (ci := 12) (v := .int 0) (ty := .int) (C := RX12) (T := TX12) (N := 44) hx hb htg inX12 tyX12 tyX12_ok nmX12 hown hK.1 hP hD hS 0 rfl rfl 0 (by decide) (htg _ kw_1407) (fun _ h9 => h9) rfl (by decide +kernel) rfl rfl (Nat.le_of_ble_eq_true rfl) dX12_feasts_2 (fun H locs hP hD hS => ?_)
  replace hP : va_P D vwCl [((a 0), .inr (12, ((.int 0) :: (.ref (ex 0)) :: (.int 0) :: (.int 0) :: (.int 0) :: (.int 0) :: (.ref (a 1)) :: (.ref (ex 1)) :: (.ref (ex 2)) :: (.ref (ex 3)) :: (.ref (ex 4)) :: (.int 0) :: (.int 0) :: (.int 0) :: (.int 0) :: (.int 0) :: (.int 0) :: (.long 0) :: (.int 0) :: (.int 0) :: (.int 0) :: (.ref (ex 5)) :: (.ref (ex 6)) :: (.int 0) :: (.ref (ex 7)) :: (.int (-1)) :: (.int 0) :: (.int 0) :: (.int 0) :: (.int 0) :: (.int 0) :: (.int 0) :: (.ref (ex 8)) :: (.int 0) :: (.ref (ex 9)) :: (.int 0) :: (.int 0) :: (.int 0) :: (.int 0) :: (.int 0) :: (.ref (ex 10)) :: (.ref (ex 11)) :: (.ref (ex 12)) :: (.ref (ex 13)) :: []))), ((a 1), .inl (T 1, 2187, .inl (fun _ => 0)))] H := hP
  replace hD : va_D A [((a 0), .inr (12, ((.int 0) :: (.ref (ex 0)) :: (.int 0) :: (.int 0) :: (.int 0) :: (.int 0) :: (.ref (a 1)) :: (.ref (ex 1)) :: (.ref (ex 2)) :: (.ref (ex 3)) :: (.ref (ex 4)) :: (.int 0) :: (.int 0) :: (.int 0) :: (.int 0) :: (.int 0) :: (.int 0) :: (.long 0) :: (.int 0) :: (.int 0) :: (.int 0) :: (.ref (ex 5)) :: (.ref (ex 6)) :: (.int 0) :: (.ref (ex 7)) :: (.int (-1)) :: (.int 0) :: (.int 0) :: (.int 0) :: (.int 0) :: (.int 0) :: (.int 0) :: (.ref (ex 8)) :: (.int 0) :: (.ref (ex 9)) :: (.int 0) :: (.int 0) :: (.int 0) :: (.int 0) :: (.int 0) :: (.ref (ex 10)) :: (.ref (ex 11)) :: (.ref (ex 12)) :: (.ref (ex 13)) :: []))), ((a 1), .inl (T 1, 2187, .inl (fun _ => 0)))] := hD
  refine lv_aload_n hx hb dX12_feasts_5 rfl (lv_at hl 0 rfl) ?_
  refine lv_iload_n hx hb dX12_feasts_6 rfl (lv_at hl 1 rfl) ?_
  have hPc := hP.sub (ws' := (pre_X12_isNameOf T (xa [(a 0), (a 1)]) (xa [(ex 0), (ex 1), (ex 2), (ex 3), (ex 4), (ex 5), (ex 6), (ex 7), (ex 8), (ex 9), (ex 10), (ex 11), (ex 12), (ex 13)]) (xf []) (xh []) (xv [(vi 0)]))) [0, 1] rfl
  have hDc := hD.sub (ws' := (pre_X12_isNameOf T (xa [(a 0), (a 1)]) (xa [(ex 0), (ex 1), (ex 2), (ex 3), (ex 4), (ex 5), (ex 6), (ex 7), (ex 8), (ex 9), (ex 10), (ex 11), (ex 12), (ex 13)]) (xf []) (xh []) (xv [(vi 0)]))) [0, 1] (by decide) rfl
  have hFc := va_free (wc := (pre_X12_isNameOf T (xa [(a 0), (a 1)]) (xa [(ex 0), (ex 1), (ex 2), (ex 3), (ex 4), (ex 5), (ex 6), (ex 7), (ex 8), (ex 9), (ex 10), (ex 11), (ex 12), (ex 13)]) (xf []) (xh []) (xv [(vi 0)]))) hD hS hA [0, 1] rfl
  refine va_calli (va_runV (As := [.int (vi 0)]) (rest := []) ⟨hx, hb, hml, hown, htg⟩ (c_X12_isNameOf l D T (xa [(a 0), (a 1)]) (xa [(ex 0), (ex 1), (ex 2), (ex 3), (ex 4), (ex 5), (ex 6), (ex 7), (ex 8), (ex 9), (ex 10), (ex 11), (ex 12), (ex 13)]) (xf []) (xh []) (xv [(vi 0)]) H.size) ⟨callB_of 1 htg (xg_ok kw_1632) rfl rfl rfl (htg _ kw_17) (htg _ kw_1629) (by decide +kernel) ⟨by rw [hR]; exact Nat.le_of_ble_eq_true rfl, by rw [hR]; exact Nat.le_of_ble_eq_true rfl⟩, htg _ kw_1631, htg _ ks_131⟩ (xpreV hK hPc hDc (va_recv hK.1 hPc (ci := 12) (q0 := 0) rfl rfl)) rfl rfl hl.1 rfl (lv_room (Nat.le_of_ble_eq_true rfl)) dX12_feasts_7 ⟨by rw [hR]; exact Nat.le_of_ble_eq_true rfl, by rw [hR]; exact Nat.le_of_ble_eq_true rfl⟩) hS (fun q _ h => hFc q h) hFc (fun r9 u t H1 locs ht hvm hw hB hz1 hk1 hS => ?_)
  obtain ⟨bk, fik, flk, vik, hP1, hD1, hGk⟩ := hB
  rw [ht] at hP1
  obtain ⟨hP, hD⟩ := va_join (wr := []) (w1 := [((a 0), .inr (12, ((.int 0) :: (.ref (ex 0)) :: (.int 0) :: (.int 0) :: (.int 0) :: (.int 0) :: (.ref (a 1)) :: (.ref (ex 1)) :: (.ref (ex 2)) :: (.ref (ex 3)) :: (.ref (ex 4)) :: (.int 0) :: (.int 0) :: (.int 0) :: (.int 0) :: (.int 0) :: (.int 0) :: (.long 0) :: (.int 0) :: (.int 0) :: (.int 0) :: (.ref (ex 5)) :: (.ref (ex 6)) :: (.int 0) :: (.ref (ex 7)) :: (.int (-1)) :: (.int 0) :: (.int 0) :: (.int 0) :: (.int 0) :: (.int 0) :: (.int 0) :: (.ref (ex 8)) :: (.int 0) :: (.ref (ex 9)) :: (.int 0) :: (.int 0) :: (.int 0) :: (.int 0) :: (.int 0) :: (.ref (ex 10)) :: (.ref (ex 11)) :: (.ref (ex 12)) :: (.ref (ex 13)) :: []))), ((a 1), .inl (T 1, 2187, .inl (fun _ => 0)))]) hP hD [0, 1] [] rfl rfl (by decide) (by decide) hk1 hFc hP1 hD1
  subst hw
  clear hPc hDc hFc hP1 hD1 hk1 hz1 hvm ht
  generalize H1 = H at hP hS ⊢
  replace hP : va_P D vwCl [((a 0), .inr (12, ((.int 0) :: (.ref (ex 0)) :: (.int 0) :: (.int 0) :: (.int 0) :: (.int 0) :: (.ref (a 1)) :: (.ref (ex 1)) :: (.ref (ex 2)) :: (.ref (ex 3)) :: (.ref (ex 4)) :: (.int 0) :: (.int 0) :: (.int 0) :: (.int 0) :: (.int 0) :: (.int 0) :: (.long 0) :: (.int 0) :: (.int 0) :: (.int 0) :: (.ref (ex 5)) :: (.ref (ex 6)) :: (.int 0) :: (.ref (ex 7)) :: (.int (-1)) :: (.int 0) :: (.int 0) :: (.int 0) :: (.int 0) :: (.int 0) :: (.int 0) :: (.ref (ex 8)) :: (.int 0) :: (.ref (ex 9)) :: (.int 0) :: (.int 0) :: (.int 0) :: (.int 0) :: (.int 0) :: (.ref (ex 10)) :: (.ref (ex 11)) :: (.ref (ex 12)) :: (.ref (ex 13)) :: []))), ((a 1), .inl (T 1, 2187, .inl (fun _ => 0)))] H := hP
  replace hD : va_D A [((a 0), .inr (12, ((.int 0) :: (.ref (ex 0)) :: (.int 0) :: (.int 0) :: (.int 0) :: (.int 0) :: (.ref (a 1)) :: (.ref (ex 1)) :: (.ref (ex 2)) :: (.ref (ex 3)) :: (.ref (ex 4)) :: (.int 0) :: (.int 0) :: (.int 0) :: (.int 0) :: (.int 0) :: (.int 0) :: (.long 0) :: (.int 0) :: (.int 0) :: (.int 0) :: (.ref (ex 5)) :: (.ref (ex 6)) :: (.int 0) :: (.ref (ex 7)) :: (.int (-1)) :: (.int 0) :: (.int 0) :: (.int 0) :: (.int 0) :: (.int 0) :: (.int 0) :: (.ref (ex 8)) :: (.int 0) :: (.ref (ex 9)) :: (.int 0) :: (.int 0) :: (.int 0) :: (.int 0) :: (.int 0) :: (.ref (ex 10)) :: (.ref (ex 11)) :: (.ref (ex 12)) :: (.ref (ex 13)) :: []))), ((a 1), .inl (T 1, 2187, .inl (fun _ => 0)))] := hD
  refine lv_if_eq (tgt := 23) hx hb dX12_feasts_10 (by decide) (fun _ => ?_) (fun c => absurd (by decide) c)
  refine lv_iconst (v := (-1)) hx hb dX12_feasts_23 (by decide) ?_
  have hP9 := hP.sub (ws' := []) [] rfl
  have hD9 := hD.sub (ws' := []) [] (by decide) rfl
  rw [hQ]
  exact W.iret (v := (-1)) hx hb hr (fun t ht hW => ⟨⟨(-1), (), rfl, rfl, ⟨xa [], xf [], xh [], xv [], by rw [ht]; exact hP9, hD9, trivial⟩⟩, hS.F ht⟩) hS.2.2 dX12_feasts_24
abbrev pre_X12_queue (T : Nat → ClassId) (a ex : Nat → Nat) (fi : Nat → Nat → Int32) (fl : Nat → Nat → Int64) (vi : Nat → Int32) : va_W := [((a 0), .inr (12, ((.int 0) :: (.ref (ex 0)) :: (.int 0) :: (.int 0) :: (.int 0) :: (.int 0) :: (.ref (a 1)) :: (.ref (ex 1)) :: (.ref (ex 2)) :: (.ref (ex 3)) :: (.ref (ex 4)) :: (.int 0) :: (.int 0) :: (.int 0) :: (.int 0) :: (.int 0) :: (.int 0) :: (.long 0) :: (.int 0) :: (.int 0) :: (.int 0) :: (.ref (ex 5)) :: (.ref (ex 6)) :: (.int 0) :: (.ref (ex 7)) :: (.int (-1)) :: (.int 0) :: (.int 0) :: (.int 0) :: (.int 0) :: (.int 0) :: (.int 0) :: (.ref (ex 8)) :: (.int 0) :: (.ref (ex 9)) :: (.int 0) :: (.int 0) :: (.int 0) :: (.int 0) :: (.int 0) :: (.ref (ex 10)) :: (.ref (ex 11)) :: (.ref (ex 12)) :: (.ref (ex 13)) :: []))), ((a 1), .inl (T 1, 2187, .inl (fun _ => 0)))]
set_option maxHeartbeats 4000000 in
set_option maxRecDepth 100000 in
theorem c_X12_queue (l : Launch) (D : va_G) (T : Nat → ClassId) (a ex : Nat → Nat) (fi : Nat → Nat → Int32) (fl : Nat → Nat → Int64) (vi : Nat → Int32) (sz : Nat) : Met l yX12_queue (xw yX12_queue cX12_queue 2 (some .int)) ({ frames := 1, cells := 0, slots := 0, locals := 26 }) (xP D T [.ref (a 0), .int (vi 0)] sz (pre_X12_queue T a ex fi fl vi)) (va_Qi (fun r (_ : Unit) => r = (-1)) (xB D (va_A (pre_X12_queue T a ex fi fl vi) sz) (fun _ => True) (fun b fj fm vj => [])) (va_A (pre_X12_queue T a ex fi fl vi) sz)) 0 0 (va_A (pre_X12_queue T a ex fi fl vi) sz) := by
  refine xofW (cc := cX12_queue) (maxL := 2) (ret := (some .int)) (by decide) rfl ?_
  intro p e s m args below meth c s₁ R Q hR hQ B hml hv
  obtain ⟨rfl, hsz, hP, hK, hD0⟩ := hv
  have hx := B.exec
  have hb := B.bytes
  have hr := B.returns
  have hts := atoms_spec (ws := xw yX12_queue cX12_queue 2 (some .int)) B.pre
  have htg : ∀ w ∈ xg, w.before _ s = true := fun w h => hts w (List.mem_cons_of_mem _ h)
  have hown : s.vm.findClass RX12 = some m.cls := findClass_of_methodNamed B.named
  have hlocks := B.notSynchronized
  subst hsz
  have hD := hD0.self (sz := s.heap.size)
  generalize hAe : va_A (pre_X12_queue T a ex fi fl vi) s.heap.size = A at hD hQ
  have hA : ∀ q : Nat, s.heap.size ≤ q → A q := fun q h => by rw [← hAe]; exact Or.inr h
  have hS : va_S A s.heap s.heap [] := va_S.rf
  replace hP : va_P D vwCl [((a 0), .inr (12, ((.int 0) :: (.ref (ex 0)) :: (.int 0) :: (.int 0) :: (.int 0) :: (.int 0) :: (.ref (a 1)) :: (.ref (ex 1)) :: (.ref (ex 2)) :: (.ref (ex 3)) :: (.ref (ex 4)) :: (.int 0) :: (.int 0) :: (.int 0) :: (.int 0) :: (.int 0) :: (.int 0) :: (.long 0) :: (.int 0) :: (.int 0) :: (.int 0) :: (.ref (ex 5)) :: (.ref (ex 6)) :: (.int 0) :: (.ref (ex 7)) :: (.int (-1)) :: (.int 0) :: (.int 0) :: (.int 0) :: (.int 0) :: (.int 0) :: (.int 0) :: (.ref (ex 8)) :: (.int 0) :: (.ref (ex 9)) :: (.int 0) :: (.int 0) :: (.int 0) :: (.int 0) :: (.int 0) :: (.ref (ex 10)) :: (.ref (ex 11)) :: (.ref (ex 12)) :: (.ref (ex 13)) :: []))), ((a 1), .inl (T 1, 2187, .inl (fun _ => 0)))] s.heap := hP
  replace hD : va_D A [((a 0), .inr (12, ((.int 0) :: (.ref (ex 0)) :: (.int 0) :: (.int 0) :: (.int 0) :: (.int 0) :: (.ref (a 1)) :: (.ref (ex 1)) :: (.ref (ex 2)) :: (.ref (ex 3)) :: (.ref (ex 4)) :: (.int 0) :: (.int 0) :: (.int 0) :: (.int 0) :: (.int 0) :: (.int 0) :: (.long 0) :: (.int 0) :: (.int 0) :: (.int 0) :: (.ref (ex 5)) :: (.ref (ex 6)) :: (.int 0) :: (.ref (ex 7)) :: (.int (-1)) :: (.int 0) :: (.int 0) :: (.int 0) :: (.int 0) :: (.int 0) :: (.int 0) :: (.ref (ex 8)) :: (.int 0) :: (.ref (ex 9)) :: (.int 0) :: (.int 0) :: (.int 0) :: (.int 0) :: (.int 0) :: (.ref (ex 10)) :: (.ref (ex 11)) :: (.ref (ex 12)) :: (.ref (ex 13)) :: []))), ((a 1), .inl (T 1, 2187, .inl (fun _ => 0)))] := hD
  have hl := lv_entry ([.ref (a 0), .int (vi 0)]) (n := 2) (Nat.le_of_ble_eq_true rfl)
  rw [lg_entry_eq]
  generalize (lg_sl ([.ref (a 0), .int (vi 0)]) ++ List.replicate (2 - (lg_sl ([.ref (a 0), .int (vi 0)])).length) Slot.unset).toArray = ls at hl ⊢
  replace hl : lv_has ls 2 [(0, .ref (a 0)), (1, .int (vi 0))] := hl
  refine lv_aload_n hx hb dX12_queue_0 rfl (lv_at hl 0 rfl) ?_
  refine lv_iconst (v := 0) hx hb dX12_queue_1 (by decide) ?_
  refine va_put (D := D) (ci := 12) (v := .int 0) (ty := .int) (C := RX12) (T := TX12) (N := 44) hx hb htg inX12 tyX12 tyX12_ok nmX12 hown hK.1 hP hD hS 0 rfl rfl 0 (by decide) (htg _ kw_1407) (fun _ h9 => h9) rfl (by decide +kernel) rfl rfl (Nat.le_of_ble_eq_true rfl) dX12_queue_2 (fun H locs hP hD hS => ?_)
  replace hP : va_P D vwCl [((a 0), .inr (12, ((.int 0) :: (.ref (ex 0)) :: (.int 0) :: (.int 0) :: (.int 0) :: (.int 0) :: (.ref (a 1)) :: (.ref (ex 1)) :: (.ref (ex 2)) :: (.ref (ex 3)) :: (.ref (ex 4)) :: (.int 0) :: (.int 0) :: (.int 0) :: (.int 0) :: (.int 0) :: (.int 0) :: (.long 0) :: (.int 0) :: (.int 0) :: (.int 0) :: (.ref (ex 5)) :: (.ref (ex 6)) :: (.int 0) :: (.ref (ex 7)) :: (.int (-1)) :: (.int 0) :: (.int 0) :: (.int 0) :: (.int 0) :: (.int 0) :: (.int 0) :: (.ref (ex 8)) :: (.int 0) :: (.ref (ex 9)) :: (.int 0) :: (.int 0) :: (.int 0) :: (.int 0) :: (.int 0) :: (.ref (ex 10)) :: (.ref (ex 11)) :: (.ref (ex 12)) :: (.ref (ex 13)) :: []))), ((a 1), .inl (T 1, 2187, .inl (fun _ => 0)))] H := hP
  replace hD : va_D A [((a 0), .inr (12, ((.int 0) :: (.ref (ex 0)) :: (.int 0) :: (.int 0) :: (.int 0) :: (.int 0) :: (.ref (a 1)) :: (.ref (ex 1)) :: (.ref (ex 2)) :: (.ref (ex 3)) :: (.ref (ex 4)) :: (.int 0) :: (.int 0) :: (.int 0) :: (.int 0) :: (.int 0) :: (.int 0) :: (.long 0) :: (.int 0) :: (.int 0) :: (.int 0) :: (.ref (ex 5)) :: (.ref (ex 6)) :: (.int 0) :: (.ref (ex 7)) :: (.int (-1)) :: (.int 0) :: (.int 0) :: (.int 0) :: (.int 0) :: (.int 0) :: (.int 0) :: (.ref (ex 8)) :: (.int 0) :: (.ref (ex 9)) :: (.int 0) :: (.int 0) :: (.int 0) :: (.int 0) :: (.int 0) :: (.ref (ex 10)) :: (.ref (ex 11)) :: (.ref (ex 12)) :: (.ref (ex 13)) :: []))), ((a 1), .inl (T 1, 2187, .inl (fun _ => 0)))] := hD
  refine lv_iload_n hx hb dX12_queue_5 rfl (lv_at hl 1 rfl) ?_
  refine lv_iconst (v := 0) hx hb dX12_queue_6 (by decide) ?_
  refine lv_aload_n hx hb dX12_queue_7 rfl (lv_at hl 0 rfl) ?_
  refine va_get (D := D) (ci := 12) (v := .ref (a 1)) (C := RX12) (T := TX12) (N := 44) hx hb htg inX12 hown hK.1 hP 0 rfl rfl 6 (by decide) (htg _ kw_1413) (fun _ h9 => h9) rfl dX12_queue_8 ?_
  refine lv_sipush (v := 151) hx hb dX12_queue_11 (by decide) ?_
  refine va_iald hx hb hK.1 hP 1 1 rfl rfl (vp_in_nI (n := 151) (by decide) (by decide)) dX12_queue_14 ?_
  refine xz_i 0 rfl ?_
  refine lv_iconst (v := 1) hx hb dX12_queue_15 (by decide) ?_
  refine lv_isub hx hb dX12_queue_16 ?_
  refine xz_i (-1) (by decide) ?_
  have hPc := hP.sub (ws' := (pre_X12_isIn T (xa []) (xa []) (xf []) (xh []) (xv [(vi 0)]))) [] rfl
  have hDc := hD.sub (ws' := (pre_X12_isIn T (xa []) (xa []) (xf []) (xh []) (xv [(vi 0)]))) [] (by decide) rfl
  have hFc := va_free (wc := (pre_X12_isIn T (xa []) (xa []) (xf []) (xh []) (xv [(vi 0)]))) hD hS hA [] rfl
  refine va_calli (va_runS (As := [.int (vi 0), .int 0, .int (-1)]) (rest := []) ⟨hx, hb, hml, hown, htg⟩ (c_X12_isIn l D T (xa []) (xa []) (xf []) (xh []) (xv [(vi 0)]) H.size) ⟨callB_of 3 htg (xg_ok kw_1597) rfl rfl rfl (htg _ kw_17) (htg _ kw_1595) (by decide +kernel) ⟨by rw [hR]; exact Nat.le_of_ble_eq_true rfl, by rw [hR]; exact Nat.le_of_ble_eq_true rfl⟩, htg _ kw_1596⟩ (xpreS hK hPc hDc) rfl rfl hl.1 rfl (lv_room (Nat.le_of_ble_eq_true rfl)) dX12_queue_17 ⟨by rw [hR]; exact Nat.le_of_ble_eq_true rfl, by rw [hR]; exact Nat.le_of_ble_eq_true rfl⟩) hS (fun q _ h => hFc q h) hFc (fun r9 u t H1 locs ht hvm hw hB hz1 hk1 hS => ?_)
  obtain ⟨bk, fik, flk, vik, hP1, hD1, hGk⟩ := hB
  rw [ht] at hP1
  obtain ⟨hP, hD⟩ := va_join (wr := [((a 0), .inr (12, ((.int 0) :: (.ref (ex 0)) :: (.int 0) :: (.int 0) :: (.int 0) :: (.int 0) :: (.ref (a 1)) :: (.ref (ex 1)) :: (.ref (ex 2)) :: (.ref (ex 3)) :: (.ref (ex 4)) :: (.int 0) :: (.int 0) :: (.int 0) :: (.int 0) :: (.int 0) :: (.int 0) :: (.long 0) :: (.int 0) :: (.int 0) :: (.int 0) :: (.ref (ex 5)) :: (.ref (ex 6)) :: (.int 0) :: (.ref (ex 7)) :: (.int (-1)) :: (.int 0) :: (.int 0) :: (.int 0) :: (.int 0) :: (.int 0) :: (.int 0) :: (.ref (ex 8)) :: (.int 0) :: (.ref (ex 9)) :: (.int 0) :: (.int 0) :: (.int 0) :: (.int 0) :: (.int 0) :: (.ref (ex 10)) :: (.ref (ex 11)) :: (.ref (ex 12)) :: (.ref (ex 13)) :: []))), ((a 1), .inl (T 1, 2187, .inl (fun _ => 0)))]) (w1 := []) hP hD [] [0, 1] rfl rfl (by decide) (by decide) hk1 hFc hP1 hD1
  subst hw
  clear hPc hDc hFc hP1 hD1 hk1 hz1 hvm ht
  generalize H1 = H at hP hS ⊢
  replace hP : va_P D vwCl [((a 0), .inr (12, ((.int 0) :: (.ref (ex 0)) :: (.int 0) :: (.int 0) :: (.int 0) :: (.int 0) :: (.ref (a 1)) :: (.ref (ex 1)) :: (.ref (ex 2)) :: (.ref (ex 3)) :: (.ref (ex 4)) :: (.int 0) :: (.int 0) :: (.int 0) :: (.int 0) :: (.int 0) :: (.int 0) :: (.long 0) :: (.int 0) :: (.int 0) :: (.int 0) :: (.ref (ex 5)) :: (.ref (ex 6)) :: (.int 0) :: (.ref (ex 7)) :: (.int (-1)) :: (.int 0) :: (.int 0) :: (.int 0) :: (.int 0) :: (.int 0) :: (.int 0) :: (.ref (ex 8)) :: (.int 0) :: (.ref (ex 9)) :: (.int 0) :: (.int 0) :: (.int 0) :: (.int 0) :: (.int 0) :: (.ref (ex 10)) :: (.ref (ex 11)) :: (.ref (ex 12)) :: (.ref (ex 13)) :: []))), ((a 1), .inl (T 1, 2187, .inl (fun _ => 0)))] H := hP
  replace hD : va_D A [((a 0), .inr (12, ((.int 0) :: (.ref (ex 0)) :: (.int 0) :: (.int 0) :: (.int 0) :: (.int 0) :: (.ref (a 1)) :: (.ref (ex 1)) :: (.ref (ex 2)) :: (.ref (ex 3)) :: (.ref (ex 4)) :: (.int 0) :: (.int 0) :: (.int 0) :: (.int 0) :: (.int 0) :: (.int 0) :: (.long 0) :: (.int 0) :: (.int 0) :: (.int 0) :: (.ref (ex 5)) :: (.ref (ex 6)) :: (.int 0) :: (.ref (ex 7)) :: (.int (-1)) :: (.int 0) :: (.int 0) :: (.int 0) :: (.int 0) :: (.int 0) :: (.int 0) :: (.ref (ex 8)) :: (.int 0) :: (.ref (ex 9)) :: (.int 0) :: (.int 0) :: (.int 0) :: (.int 0) :: (.int 0) :: (.ref (ex 10)) :: (.ref (ex 11)) :: (.ref (ex 12)) :: (.ref (ex 13)) :: []))), ((a 1), .inl (T 1, 2187, .inl (fun _ => 0)))] := hD
  refine lv_if_eq (tgt := 36) hx hb dX12_queue_20 (by decide) (fun _ => ?_) (fun c => absurd (by decide) c)
  refine lv_iconst (v := (-1)) hx hb dX12_queue_36 (by decide) ?_
  have hP9 := hP.sub (ws' := []) [] rfl
  have hD9 := hD.sub (ws' := []) [] (by decide) rfl
  rw [hQ]
  exact W.iret (v := (-1)) hx hb hr (fun t ht hW => ⟨⟨(-1), (), rfl, rfl, ⟨xa [], xf [], xh [], xv [], by rw [ht]; exact hP9, hD9, trivial⟩⟩, hS.F ht⟩) hS.2.2 dX12_queue_37
abbrev pre_X12_drawn (T : Nat → ClassId) (a ex : Nat → Nat) (fi : Nat → Nat → Int32) (fl : Nat → Nat → Int64) (vi : Nat → Int32) : va_W := [((a 0), .inr (12, ((.int 0) :: (.ref (ex 0)) :: (.int 0) :: (.int 0) :: (.int 0) :: (.int 0) :: (.ref (a 1)) :: (.ref (ex 1)) :: (.ref (ex 2)) :: (.ref (ex 3)) :: (.ref (ex 4)) :: (.int 0) :: (.int 0) :: (.int 0) :: (.int 0) :: (.int 0) :: (.int 0) :: (.long 0) :: (.int 0) :: (.int 0) :: (.int 0) :: (.ref (ex 5)) :: (.ref (ex 6)) :: (.int 0) :: (.ref (ex 7)) :: (.int (-1)) :: (.int 0) :: (.int 0) :: (.int 0) :: (.int 0) :: (.int 0) :: (.int 0) :: (.ref (ex 8)) :: (.int 0) :: (.ref (ex 9)) :: (.int 0) :: (.int 0) :: (.int 0) :: (.int 0) :: (.int 0) :: (.ref (ex 10)) :: (.ref (ex 11)) :: (.ref (ex 12)) :: (.ref (ex 13)) :: []))), ((a 1), .inl (T 1, 2187, .inl (fun _ => 0)))]
set_option maxHeartbeats 4000000 in
set_option maxRecDepth 100000 in
theorem c_X12_drawn (l : Launch) (D : va_G) (T : Nat → ClassId) (a ex : Nat → Nat) (fi : Nat → Nat → Int32) (fl : Nat → Nat → Int64) (vi : Nat → Int32) (sz : Nat) (hd0 : (1 ≤ (vi 0).toInt ∧ (vi 0).toInt ≤ 60)) : Met l yX12_drawn (xw yX12_drawn cX12_drawn 3 (some .int)) ({ frames := 1, cells := 0, slots := 0, locals := 26 }) (xP D T [.ref (a 0), .int (vi 0), .int (vi 1)] sz (pre_X12_drawn T a ex fi fl vi)) (va_Qi (fun r (_ : Unit) => r = (-1)) (xB D (va_A (pre_X12_drawn T a ex fi fl vi) sz) (fun _ => True) (fun b fj fm vj => [])) (va_A (pre_X12_drawn T a ex fi fl vi) sz)) 0 0 (va_A (pre_X12_drawn T a ex fi fl vi) sz) := by
  refine xofW (cc := cX12_drawn) (maxL := 3) (ret := (some .int)) (by decide) rfl ?_
  intro p e s m args below meth c s₁ R Q hR hQ B hml hv
  obtain ⟨rfl, hsz, hP, hK, hD0⟩ := hv
  have hx := B.exec
  have hb := B.bytes
  have hr := B.returns
  have hts := atoms_spec (ws := xw yX12_drawn cX12_drawn 3 (some .int)) B.pre
  have htg : ∀ w ∈ xg, w.before _ s = true := fun w h => hts w (List.mem_cons_of_mem _ h)
  have hown : s.vm.findClass RX12 = some m.cls := findClass_of_methodNamed B.named
  have hlocks := B.notSynchronized
  subst hsz
  have hD := hD0.self (sz := s.heap.size)
  generalize hAe : va_A (pre_X12_drawn T a ex fi fl vi) s.heap.size = A at hD hQ
  have hA : ∀ q : Nat, s.heap.size ≤ q → A q := fun q h => by rw [← hAe]; exact Or.inr h
  have hS : va_S A s.heap s.heap [] := va_S.rf
  replace hP : va_P D vwCl [((a 0), .inr (12, ((.int 0) :: (.ref (ex 0)) :: (.int 0) :: (.int 0) :: (.int 0) :: (.int 0) :: (.ref (a 1)) :: (.ref (ex 1)) :: (.ref (ex 2)) :: (.ref (ex 3)) :: (.ref (ex 4)) :: (.int 0) :: (.int 0) :: (.int 0) :: (.int 0) :: (.int 0) :: (.int 0) :: (.long 0) :: (.int 0) :: (.int 0) :: (.int 0) :: (.ref (ex 5)) :: (.ref (ex 6)) :: (.int 0) :: (.ref (ex 7)) :: (.int (-1)) :: (.int 0) :: (.int 0) :: (.int 0) :: (.int 0) :: (.int 0) :: (.int 0) :: (.ref (ex 8)) :: (.int 0) :: (.ref (ex 9)) :: (.int 0) :: (.int 0) :: (.int 0) :: (.int 0) :: (.int 0) :: (.ref (ex 10)) :: (.ref (ex 11)) :: (.ref (ex 12)) :: (.ref (ex 13)) :: []))), ((a 1), .inl (T 1, 2187, .inl (fun _ => 0)))] s.heap := hP
  replace hD : va_D A [((a 0), .inr (12, ((.int 0) :: (.ref (ex 0)) :: (.int 0) :: (.int 0) :: (.int 0) :: (.int 0) :: (.ref (a 1)) :: (.ref (ex 1)) :: (.ref (ex 2)) :: (.ref (ex 3)) :: (.ref (ex 4)) :: (.int 0) :: (.int 0) :: (.int 0) :: (.int 0) :: (.int 0) :: (.int 0) :: (.long 0) :: (.int 0) :: (.int 0) :: (.int 0) :: (.ref (ex 5)) :: (.ref (ex 6)) :: (.int 0) :: (.ref (ex 7)) :: (.int (-1)) :: (.int 0) :: (.int 0) :: (.int 0) :: (.int 0) :: (.int 0) :: (.int 0) :: (.ref (ex 8)) :: (.int 0) :: (.ref (ex 9)) :: (.int 0) :: (.int 0) :: (.int 0) :: (.int 0) :: (.int 0) :: (.ref (ex 10)) :: (.ref (ex 11)) :: (.ref (ex 12)) :: (.ref (ex 13)) :: []))), ((a 1), .inl (T 1, 2187, .inl (fun _ => 0)))] := hD
  have hl := lv_entry ([.ref (a 0), .int (vi 0), .int (vi 1)]) (n := 3) (Nat.le_of_ble_eq_true rfl)
  rw [lg_entry_eq]
  generalize (lg_sl ([.ref (a 0), .int (vi 0), .int (vi 1)]) ++ List.replicate (3 - (lg_sl ([.ref (a 0), .int (vi 0), .int (vi 1)])).length) Slot.unset).toArray = ls at hl ⊢
  replace hl : lv_has ls 3 [(0, .ref (a 0)), (1, .int (vi 0)), (2, .int (vi 1))] := hl
  refine lv_aload_n hx hb dX12_drawn_0 rfl (lv_at hl 0 rfl) ?_
  refine lv_iconst (v := 0) hx hb dX12_drawn_1 (by decide) ?_
  refine va_put (D := D) (ci := 12) (v := .int 0) (ty := .int) (C := RX12) (T := TX12) (N := 44) hx hb htg inX12 tyX12 tyX12_ok nmX12 hown hK.1 hP hD hS 0 rfl rfl 0 (by decide) (htg _ kw_1407) (fun _ h9 => h9) rfl (by decide +kernel) rfl rfl (Nat.le_of_ble_eq_true rfl) dX12_drawn_2 (fun H locs hP hD hS => ?_)
  replace hP : va_P D vwCl [((a 0), .inr (12, ((.int 0) :: (.ref (ex 0)) :: (.int 0) :: (.int 0) :: (.int 0) :: (.int 0) :: (.ref (a 1)) :: (.ref (ex 1)) :: (.ref (ex 2)) :: (.ref (ex 3)) :: (.ref (ex 4)) :: (.int 0) :: (.int 0) :: (.int 0) :: (.int 0) :: (.int 0) :: (.int 0) :: (.long 0) :: (.int 0) :: (.int 0) :: (.int 0) :: (.ref (ex 5)) :: (.ref (ex 6)) :: (.int 0) :: (.ref (ex 7)) :: (.int (-1)) :: (.int 0) :: (.int 0) :: (.int 0) :: (.int 0) :: (.int 0) :: (.int 0) :: (.ref (ex 8)) :: (.int 0) :: (.ref (ex 9)) :: (.int 0) :: (.int 0) :: (.int 0) :: (.int 0) :: (.int 0) :: (.ref (ex 10)) :: (.ref (ex 11)) :: (.ref (ex 12)) :: (.ref (ex 13)) :: []))), ((a 1), .inl (T 1, 2187, .inl (fun _ => 0)))] H := hP
  replace hD : va_D A [((a 0), .inr (12, ((.int 0) :: (.ref (ex 0)) :: (.int 0) :: (.int 0) :: (.int 0) :: (.int 0) :: (.ref (a 1)) :: (.ref (ex 1)) :: (.ref (ex 2)) :: (.ref (ex 3)) :: (.ref (ex 4)) :: (.int 0) :: (.int 0) :: (.int 0) :: (.int 0) :: (.int 0) :: (.int 0) :: (.long 0) :: (.int 0) :: (.int 0) :: (.int 0) :: (.ref (ex 5)) :: (.ref (ex 6)) :: (.int 0) :: (.ref (ex 7)) :: (.int (-1)) :: (.int 0) :: (.int 0) :: (.int 0) :: (.int 0) :: (.int 0) :: (.int 0) :: (.ref (ex 8)) :: (.int 0) :: (.ref (ex 9)) :: (.int 0) :: (.int 0) :: (.int 0) :: (.int 0) :: (.int 0) :: (.ref (ex 10)) :: (.ref (ex 11)) :: (.ref (ex 12)) :: (.ref (ex 13)) :: []))), ((a 1), .inl (T 1, 2187, .inl (fun _ => 0)))] := hD
  refine lv_iload_n hx hb dX12_drawn_5 rfl (lv_at hl 1 rfl) ?_
  refine lv_iconst (v := 1) hx hb dX12_drawn_6 (by decide) ?_
  refine lv_bipush (v := 60) hx hb dX12_drawn_7 (by decide) ?_
  have hPc := hP.sub (ws' := (pre_X12_isIn_2 T (xa []) (xa []) (xf []) (xh []) (xv [(vi 0)]))) [] rfl
  have hDc := hD.sub (ws' := (pre_X12_isIn_2 T (xa []) (xa []) (xf []) (xh []) (xv [(vi 0)]))) [] (by decide) rfl
  have hFc := va_free (wc := (pre_X12_isIn_2 T (xa []) (xa []) (xf []) (xh []) (xv [(vi 0)]))) hD hS hA [] rfl
  refine va_calli (va_runS (As := [.int (vi 0), .int 1, .int 60]) (rest := []) ⟨hx, hb, hml, hown, htg⟩ (c_X12_isIn_2 l D T (xa []) (xa []) (xf []) (xh []) (xv [(vi 0)]) H.size (by show (1 ≤ ((vi 0) : Int32).toInt ∧ ((vi 0) : Int32).toInt ≤ 60); omega)) ⟨callB_of 3 htg (xg_ok kw_1597) rfl rfl rfl (htg _ kw_17) (htg _ kw_1595) (by decide +kernel) ⟨by rw [hR]; exact Nat.le_of_ble_eq_true rfl, by rw [hR]; exact Nat.le_of_ble_eq_true rfl⟩, htg _ kw_1596⟩ (xpreS hK hPc hDc) rfl rfl hl.1 rfl (lv_room (Nat.le_of_ble_eq_true rfl)) dX12_drawn_9 ⟨by rw [hR]; exact Nat.le_of_ble_eq_true rfl, by rw [hR]; exact Nat.le_of_ble_eq_true rfl⟩) hS (fun q _ h => hFc q h) hFc (fun r9 u t H1 locs ht hvm hw hB hz1 hk1 hS => ?_)
  obtain ⟨bk, fik, flk, vik, hP1, hD1, hGk⟩ := hB
  rw [ht] at hP1
  obtain ⟨hP, hD⟩ := va_join (wr := [((a 0), .inr (12, ((.int 0) :: (.ref (ex 0)) :: (.int 0) :: (.int 0) :: (.int 0) :: (.int 0) :: (.ref (a 1)) :: (.ref (ex 1)) :: (.ref (ex 2)) :: (.ref (ex 3)) :: (.ref (ex 4)) :: (.int 0) :: (.int 0) :: (.int 0) :: (.int 0) :: (.int 0) :: (.int 0) :: (.long 0) :: (.int 0) :: (.int 0) :: (.int 0) :: (.ref (ex 5)) :: (.ref (ex 6)) :: (.int 0) :: (.ref (ex 7)) :: (.int (-1)) :: (.int 0) :: (.int 0) :: (.int 0) :: (.int 0) :: (.int 0) :: (.int 0) :: (.ref (ex 8)) :: (.int 0) :: (.ref (ex 9)) :: (.int 0) :: (.int 0) :: (.int 0) :: (.int 0) :: (.int 0) :: (.ref (ex 10)) :: (.ref (ex 11)) :: (.ref (ex 12)) :: (.ref (ex 13)) :: []))), ((a 1), .inl (T 1, 2187, .inl (fun _ => 0)))]) (w1 := []) hP hD [] [0, 1] rfl rfl (by decide) (by decide) hk1 hFc hP1 hD1
  subst hw
  clear hPc hDc hFc hP1 hD1 hk1 hz1 hvm ht
  generalize H1 = H at hP hS ⊢
  replace hP : va_P D vwCl [((a 0), .inr (12, ((.int 0) :: (.ref (ex 0)) :: (.int 0) :: (.int 0) :: (.int 0) :: (.int 0) :: (.ref (a 1)) :: (.ref (ex 1)) :: (.ref (ex 2)) :: (.ref (ex 3)) :: (.ref (ex 4)) :: (.int 0) :: (.int 0) :: (.int 0) :: (.int 0) :: (.int 0) :: (.int 0) :: (.long 0) :: (.int 0) :: (.int 0) :: (.int 0) :: (.ref (ex 5)) :: (.ref (ex 6)) :: (.int 0) :: (.ref (ex 7)) :: (.int (-1)) :: (.int 0) :: (.int 0) :: (.int 0) :: (.int 0) :: (.int 0) :: (.int 0) :: (.ref (ex 8)) :: (.int 0) :: (.ref (ex 9)) :: (.int 0) :: (.int 0) :: (.int 0) :: (.int 0) :: (.int 0) :: (.ref (ex 10)) :: (.ref (ex 11)) :: (.ref (ex 12)) :: (.ref (ex 13)) :: []))), ((a 1), .inl (T 1, 2187, .inl (fun _ => 0)))] H := hP
  replace hD : va_D A [((a 0), .inr (12, ((.int 0) :: (.ref (ex 0)) :: (.int 0) :: (.int 0) :: (.int 0) :: (.int 0) :: (.ref (a 1)) :: (.ref (ex 1)) :: (.ref (ex 2)) :: (.ref (ex 3)) :: (.ref (ex 4)) :: (.int 0) :: (.int 0) :: (.int 0) :: (.int 0) :: (.int 0) :: (.int 0) :: (.long 0) :: (.int 0) :: (.int 0) :: (.int 0) :: (.ref (ex 5)) :: (.ref (ex 6)) :: (.int 0) :: (.ref (ex 7)) :: (.int (-1)) :: (.int 0) :: (.int 0) :: (.int 0) :: (.int 0) :: (.int 0) :: (.int 0) :: (.ref (ex 8)) :: (.int 0) :: (.ref (ex 9)) :: (.int 0) :: (.int 0) :: (.int 0) :: (.int 0) :: (.int 0) :: (.ref (ex 10)) :: (.ref (ex 11)) :: (.ref (ex 12)) :: (.ref (ex 13)) :: []))), ((a 1), .inl (T 1, 2187, .inl (fun _ => 0)))] := hD
  refine lv_if_eq (tgt := 33) hx hb dX12_drawn_12 (by decide) (fun c => absurd c (by decide)) (fun _ => ?_)
  refine lv_aload_n hx hb dX12_drawn_15 rfl (lv_at hl 0 rfl) ?_
  refine va_get (D := D) (ci := 12) (v := .ref (a 1)) (C := RX12) (T := TX12) (N := 44) hx hb htg inX12 hown hK.1 hP 0 rfl rfl 6 (by decide) (htg _ kw_1413) (fun _ h9 => h9) rfl dX12_drawn_16 ?_
  refine lv_iconst (v := 1) hx hb dX12_drawn_19 (by decide) ?_
  refine va_iald hx hb hK.1 hP 1 1 rfl rfl (vp_in_nI (n := 1) (by decide) (by decide)) dX12_drawn_20 ?_
  refine xz_i 0 rfl ?_
  refine lv_if_eq (tgt := 33) hx hb dX12_drawn_21 (by decide) (fun _ => ?_) (fun c => absurd (by decide) c)
  refine lv_iconst (v := (-1)) hx hb dX12_drawn_33 (by decide) ?_
  have hP9 := hP.sub (ws' := []) [] rfl
  have hD9 := hD.sub (ws' := []) [] (by decide) rfl
  rw [hQ]
  exact W.iret (v := (-1)) hx hb hr (fun t ht hW => ⟨⟨(-1), (), rfl, rfl, ⟨xa [], xf [], xh [], xv [], by rw [ht]; exact hP9, hD9, trivial⟩⟩, hS.F ht⟩) hS.2.2 dX12_drawn_34
abbrev pre_X12_drawn_2 (T : Nat → ClassId) (a ex : Nat → Nat) (fi : Nat → Nat → Int32) (fl : Nat → Nat → Int64) (vi : Nat → Int32) : va_W := [((a 0), .inr (12, ((.int 0) :: (.ref (ex 0)) :: (.int 0) :: (.int 0) :: (.int 0) :: (.int 0) :: (.ref (ex 1)) :: (.ref (ex 2)) :: (.ref (ex 3)) :: (.ref (ex 4)) :: (.ref (ex 5)) :: (.int 0) :: (.int 0) :: (.int 0) :: (.int 0) :: (.int 0) :: (.int 0) :: (.long 0) :: (.int 0) :: (.int 0) :: (.int 0) :: (.ref (ex 6)) :: (.ref (ex 7)) :: (.int 0) :: (.ref (ex 8)) :: (.int (-1)) :: (.int 0) :: (.int 0) :: (.int 0) :: (.int 0) :: (.int 0) :: (.int 0) :: (.ref (ex 9)) :: (.int 0) :: (.ref (ex 10)) :: (.int 0) :: (.int 0) :: (.int 0) :: (.int 0) :: (.int 0) :: (.ref (ex 11)) :: (.ref (ex 12)) :: (.ref (ex 13)) :: (.ref (ex 14)) :: [])))]
set_option maxHeartbeats 4000000 in
set_option maxRecDepth 100000 in
theorem c_X12_drawn_2 (l : Launch) (D : va_G) (T : Nat → ClassId) (a ex : Nat → Nat) (fi : Nat → Nat → Int32) (fl : Nat → Nat → Int64) (vi : Nat → Int32) (sz : Nat) (hd0 : (vi 0).toInt ≤ 0 ∨ 61 ≤ (vi 0).toInt) : Met l yX12_drawn (xw yX12_drawn cX12_drawn 3 (some .int)) ({ frames := 1, cells := 0, slots := 0, locals := 26 }) (xP D T [.ref (a 0), .int (vi 0), .int (vi 1)] sz (pre_X12_drawn_2 T a ex fi fl vi)) (va_Qi (fun r (_ : Unit) => r = (-1)) (xB D (va_A (pre_X12_drawn_2 T a ex fi fl vi) sz) (fun _ => True) (fun b fj fm vj => [])) (va_A (pre_X12_drawn_2 T a ex fi fl vi) sz)) 0 0 (va_A (pre_X12_drawn_2 T a ex fi fl vi) sz) := by
  refine xofW (cc := cX12_drawn) (maxL := 3) (ret := (some .int)) (by decide) rfl ?_
  intro p e s m args below meth c s₁ R Q hR hQ B hml hv
  obtain ⟨rfl, hsz, hP, hK, hD0⟩ := hv
  have hx := B.exec
  have hb := B.bytes
  have hr := B.returns
  have hts := atoms_spec (ws := xw yX12_drawn cX12_drawn 3 (some .int)) B.pre
  have htg : ∀ w ∈ xg, w.before _ s = true := fun w h => hts w (List.mem_cons_of_mem _ h)
  have hown : s.vm.findClass RX12 = some m.cls := findClass_of_methodNamed B.named
  have hlocks := B.notSynchronized
  subst hsz
  have hD := hD0.self (sz := s.heap.size)
  generalize hAe : va_A (pre_X12_drawn_2 T a ex fi fl vi) s.heap.size = A at hD hQ
  have hA : ∀ q : Nat, s.heap.size ≤ q → A q := fun q h => by rw [← hAe]; exact Or.inr h
  have hS : va_S A s.heap s.heap [] := va_S.rf
  replace hP : va_P D vwCl [((a 0), .inr (12, ((.int 0) :: (.ref (ex 0)) :: (.int 0) :: (.int 0) :: (.int 0) :: (.int 0) :: (.ref (ex 1)) :: (.ref (ex 2)) :: (.ref (ex 3)) :: (.ref (ex 4)) :: (.ref (ex 5)) :: (.int 0) :: (.int 0) :: (.int 0) :: (.int 0) :: (.int 0) :: (.int 0) :: (.long 0) :: (.int 0) :: (.int 0) :: (.int 0) :: (.ref (ex 6)) :: (.ref (ex 7)) :: (.int 0) :: (.ref (ex 8)) :: (.int (-1)) :: (.int 0) :: (.int 0) :: (.int 0) :: (.int 0) :: (.int 0) :: (.int 0) :: (.ref (ex 9)) :: (.int 0) :: (.ref (ex 10)) :: (.int 0) :: (.int 0) :: (.int 0) :: (.int 0) :: (.int 0) :: (.ref (ex 11)) :: (.ref (ex 12)) :: (.ref (ex 13)) :: (.ref (ex 14)) :: [])))] s.heap := hP
  replace hD : va_D A [((a 0), .inr (12, ((.int 0) :: (.ref (ex 0)) :: (.int 0) :: (.int 0) :: (.int 0) :: (.int 0) :: (.ref (ex 1)) :: (.ref (ex 2)) :: (.ref (ex 3)) :: (.ref (ex 4)) :: (.ref (ex 5)) :: (.int 0) :: (.int 0) :: (.int 0) :: (.int 0) :: (.int 0) :: (.int 0) :: (.long 0) :: (.int 0) :: (.int 0) :: (.int 0) :: (.ref (ex 6)) :: (.ref (ex 7)) :: (.int 0) :: (.ref (ex 8)) :: (.int (-1)) :: (.int 0) :: (.int 0) :: (.int 0) :: (.int 0) :: (.int 0) :: (.int 0) :: (.ref (ex 9)) :: (.int 0) :: (.ref (ex 10)) :: (.int 0) :: (.int 0) :: (.int 0) :: (.int 0) :: (.int 0) :: (.ref (ex 11)) :: (.ref (ex 12)) :: (.ref (ex 13)) :: (.ref (ex 14)) :: [])))] := hD
  have hl := lv_entry ([.ref (a 0), .int (vi 0), .int (vi 1)]) (n := 3) (Nat.le_of_ble_eq_true rfl)
  rw [lg_entry_eq]
  generalize (lg_sl ([.ref (a 0), .int (vi 0), .int (vi 1)]) ++ List.replicate (3 - (lg_sl ([.ref (a 0), .int (vi 0), .int (vi 1)])).length) Slot.unset).toArray = ls at hl ⊢
  replace hl : lv_has ls 3 [(0, .ref (a 0)), (1, .int (vi 0)), (2, .int (vi 1))] := hl
  refine lv_aload_n hx hb dX12_drawn_0 rfl (lv_at hl 0 rfl) ?_
  refine lv_iconst (v := 0) hx hb dX12_drawn_1 (by decide) ?_
  refine va_put (D := D) (ci := 12) (v := .int 0) (ty := .int) (C := RX12) (T := TX12) (N := 44) hx hb htg inX12 tyX12 tyX12_ok nmX12 hown hK.1 hP hD hS 0 rfl rfl 0 (by decide) (htg _ kw_1407) (fun _ h9 => h9) rfl (by decide +kernel) rfl rfl (Nat.le_of_ble_eq_true rfl) dX12_drawn_2 (fun H locs hP hD hS => ?_)
  replace hP : va_P D vwCl [((a 0), .inr (12, ((.int 0) :: (.ref (ex 0)) :: (.int 0) :: (.int 0) :: (.int 0) :: (.int 0) :: (.ref (ex 1)) :: (.ref (ex 2)) :: (.ref (ex 3)) :: (.ref (ex 4)) :: (.ref (ex 5)) :: (.int 0) :: (.int 0) :: (.int 0) :: (.int 0) :: (.int 0) :: (.int 0) :: (.long 0) :: (.int 0) :: (.int 0) :: (.int 0) :: (.ref (ex 6)) :: (.ref (ex 7)) :: (.int 0) :: (.ref (ex 8)) :: (.int (-1)) :: (.int 0) :: (.int 0) :: (.int 0) :: (.int 0) :: (.int 0) :: (.int 0) :: (.ref (ex 9)) :: (.int 0) :: (.ref (ex 10)) :: (.int 0) :: (.int 0) :: (.int 0) :: (.int 0) :: (.int 0) :: (.ref (ex 11)) :: (.ref (ex 12)) :: (.ref (ex 13)) :: (.ref (ex 14)) :: [])))] H := hP
  replace hD : va_D A [((a 0), .inr (12, ((.int 0) :: (.ref (ex 0)) :: (.int 0) :: (.int 0) :: (.int 0) :: (.int 0) :: (.ref (ex 1)) :: (.ref (ex 2)) :: (.ref (ex 3)) :: (.ref (ex 4)) :: (.ref (ex 5)) :: (.int 0) :: (.int 0) :: (.int 0) :: (.int 0) :: (.int 0) :: (.int 0) :: (.long 0) :: (.int 0) :: (.int 0) :: (.int 0) :: (.ref (ex 6)) :: (.ref (ex 7)) :: (.int 0) :: (.ref (ex 8)) :: (.int (-1)) :: (.int 0) :: (.int 0) :: (.int 0) :: (.int 0) :: (.int 0) :: (.int 0) :: (.ref (ex 9)) :: (.int 0) :: (.ref (ex 10)) :: (.int 0) :: (.int 0) :: (.int 0) :: (.int 0) :: (.int 0) :: (.ref (ex 11)) :: (.ref (ex 12)) :: (.ref (ex 13)) :: (.ref (ex 14)) :: [])))] := hD
  refine lv_iload_n hx hb dX12_drawn_5 rfl (lv_at hl 1 rfl) ?_
  refine lv_iconst (v := 1) hx hb dX12_drawn_6 (by decide) ?_
  refine lv_bipush (v := 60) hx hb dX12_drawn_7 (by decide) ?_
  have hPc := hP.sub (ws' := (pre_X12_isIn_3 T (xa []) (xa []) (xf []) (xh []) (xv [(vi 0)]))) [] rfl
  have hDc := hD.sub (ws' := (pre_X12_isIn_3 T (xa []) (xa []) (xf []) (xh []) (xv [(vi 0)]))) [] (by decide) rfl
  have hFc := va_free (wc := (pre_X12_isIn_3 T (xa []) (xa []) (xf []) (xh []) (xv [(vi 0)]))) hD hS hA [] rfl
  refine va_calli (va_runS (As := [.int (vi 0), .int 1, .int 60]) (rest := []) ⟨hx, hb, hml, hown, htg⟩ (c_X12_isIn_3 l D T (xa []) (xa []) (xf []) (xh []) (xv [(vi 0)]) H.size (by show ((vi 0) : Int32).toInt ≤ 0 ∨ 61 ≤ ((vi 0) : Int32).toInt; omega)) ⟨callB_of 3 htg (xg_ok kw_1597) rfl rfl rfl (htg _ kw_17) (htg _ kw_1595) (by decide +kernel) ⟨by rw [hR]; exact Nat.le_of_ble_eq_true rfl, by rw [hR]; exact Nat.le_of_ble_eq_true rfl⟩, htg _ kw_1596⟩ (xpreS hK hPc hDc) rfl rfl hl.1 rfl (lv_room (Nat.le_of_ble_eq_true rfl)) dX12_drawn_9 ⟨by rw [hR]; exact Nat.le_of_ble_eq_true rfl, by rw [hR]; exact Nat.le_of_ble_eq_true rfl⟩) hS (fun q _ h => hFc q h) hFc (fun r9 u t H1 locs ht hvm hw hB hz1 hk1 hS => ?_)
  obtain ⟨bk, fik, flk, vik, hP1, hD1, hGk⟩ := hB
  rw [ht] at hP1
  obtain ⟨hP, hD⟩ := va_join (wr := [((a 0), .inr (12, ((.int 0) :: (.ref (ex 0)) :: (.int 0) :: (.int 0) :: (.int 0) :: (.int 0) :: (.ref (ex 1)) :: (.ref (ex 2)) :: (.ref (ex 3)) :: (.ref (ex 4)) :: (.ref (ex 5)) :: (.int 0) :: (.int 0) :: (.int 0) :: (.int 0) :: (.int 0) :: (.int 0) :: (.long 0) :: (.int 0) :: (.int 0) :: (.int 0) :: (.ref (ex 6)) :: (.ref (ex 7)) :: (.int 0) :: (.ref (ex 8)) :: (.int (-1)) :: (.int 0) :: (.int 0) :: (.int 0) :: (.int 0) :: (.int 0) :: (.int 0) :: (.ref (ex 9)) :: (.int 0) :: (.ref (ex 10)) :: (.int 0) :: (.int 0) :: (.int 0) :: (.int 0) :: (.int 0) :: (.ref (ex 11)) :: (.ref (ex 12)) :: (.ref (ex 13)) :: (.ref (ex 14)) :: [])))]) (w1 := []) hP hD [] [0] rfl rfl (by decide) (by decide) hk1 hFc hP1 hD1
  subst hw
  clear hPc hDc hFc hP1 hD1 hk1 hz1 hvm ht
  generalize H1 = H at hP hS ⊢
  replace hP : va_P D vwCl [((a 0), .inr (12, ((.int 0) :: (.ref (ex 0)) :: (.int 0) :: (.int 0) :: (.int 0) :: (.int 0) :: (.ref (ex 1)) :: (.ref (ex 2)) :: (.ref (ex 3)) :: (.ref (ex 4)) :: (.ref (ex 5)) :: (.int 0) :: (.int 0) :: (.int 0) :: (.int 0) :: (.int 0) :: (.int 0) :: (.long 0) :: (.int 0) :: (.int 0) :: (.int 0) :: (.ref (ex 6)) :: (.ref (ex 7)) :: (.int 0) :: (.ref (ex 8)) :: (.int (-1)) :: (.int 0) :: (.int 0) :: (.int 0) :: (.int 0) :: (.int 0) :: (.int 0) :: (.ref (ex 9)) :: (.int 0) :: (.ref (ex 10)) :: (.int 0) :: (.int 0) :: (.int 0) :: (.int 0) :: (.int 0) :: (.ref (ex 11)) :: (.ref (ex 12)) :: (.ref (ex 13)) :: (.ref (ex 14)) :: [])))] H := hP
  replace hD : va_D A [((a 0), .inr (12, ((.int 0) :: (.ref (ex 0)) :: (.int 0) :: (.int 0) :: (.int 0) :: (.int 0) :: (.ref (ex 1)) :: (.ref (ex 2)) :: (.ref (ex 3)) :: (.ref (ex 4)) :: (.ref (ex 5)) :: (.int 0) :: (.int 0) :: (.int 0) :: (.int 0) :: (.int 0) :: (.int 0) :: (.long 0) :: (.int 0) :: (.int 0) :: (.int 0) :: (.ref (ex 6)) :: (.ref (ex 7)) :: (.int 0) :: (.ref (ex 8)) :: (.int (-1)) :: (.int 0) :: (.int 0) :: (.int 0) :: (.int 0) :: (.int 0) :: (.int 0) :: (.ref (ex 9)) :: (.int 0) :: (.ref (ex 10)) :: (.int 0) :: (.int 0) :: (.int 0) :: (.int 0) :: (.int 0) :: (.ref (ex 11)) :: (.ref (ex 12)) :: (.ref (ex 13)) :: (.ref (ex 14)) :: [])))] := hD
  refine lv_if_eq (tgt := 33) hx hb dX12_drawn_12 (by decide) (fun _ => ?_) (fun c => absurd (by decide) c)
  refine lv_iconst (v := (-1)) hx hb dX12_drawn_33 (by decide) ?_
  have hP9 := hP.sub (ws' := []) [] rfl
  have hD9 := hD.sub (ws' := []) [] (by decide) rfl
  rw [hQ]
  exact W.iret (v := (-1)) hx hb hr (fun t ht hW => ⟨⟨(-1), (), rfl, rfl, ⟨xa [], xf [], xh [], xv [], by rw [ht]; exact hP9, hD9, trivial⟩⟩, hS.F ht⟩) hS.2.2 dX12_drawn_34
abbrev pre_X12_odds (T : Nat → ClassId) (a ex : Nat → Nat) (fi : Nat → Nat → Int32) (fl : Nat → Nat → Int64) (vi : Nat → Int32) : va_W := [((a 0), .inr (12, ((.int 0) :: (.ref (ex 0)) :: (.int 0) :: (.int 0) :: (.int 0) :: (.int 0) :: (.ref (a 1)) :: (.ref (ex 1)) :: (.ref (ex 2)) :: (.ref (ex 3)) :: (.ref (ex 4)) :: (.int 0) :: (.int 0) :: (.int 0) :: (.int 0) :: (.int 0) :: (.int 0) :: (.long 0) :: (.int 0) :: (.int 0) :: (.int 0) :: (.ref (ex 5)) :: (.ref (ex 6)) :: (.int 0) :: (.ref (ex 7)) :: (.int (-1)) :: (.int 0) :: (.int 0) :: (.int 0) :: (.int 0) :: (.int 0) :: (.int 0) :: (.ref (ex 8)) :: (.int 0) :: (.ref (ex 9)) :: (.int 0) :: (.int 0) :: (.int 0) :: (.int 0) :: (.int 0) :: (.ref (ex 10)) :: (.ref (ex 11)) :: (.ref (ex 12)) :: (.ref (ex 13)) :: []))), ((a 1), .inl (T 1, 2187, .inl (fun _ => 0)))]
set_option maxHeartbeats 4000000 in
set_option maxRecDepth 100000 in
theorem c_X12_odds (l : Launch) (D : va_G) (T : Nat → ClassId) (a ex : Nat → Nat) (fi : Nat → Nat → Int32) (fl : Nat → Nat → Int64) (vi : Nat → Int32) (sz : Nat) : Met l yX12_odds (xw yX12_odds cX12_odds 6 (some .int)) ({ frames := 2, cells := 0, slots := 0, locals := 51 }) (xP D T [.ref (a 0), .int (vi 0), .int (vi 1), .int (vi 2)] sz (pre_X12_odds T a ex fi fl vi)) (va_Qi (fun r (_ : Unit) => r = (-1)) (xB D (va_A (pre_X12_odds T a ex fi fl vi) sz) (fun _ => True) (fun b fj fm vj => [])) (va_A (pre_X12_odds T a ex fi fl vi) sz)) 0 0 (va_A (pre_X12_odds T a ex fi fl vi) sz) := by
  refine xofW (cc := cX12_odds) (maxL := 6) (ret := (some .int)) (by decide) rfl ?_
  intro p e s m args below meth c s₁ R Q hR hQ B hml hv
  obtain ⟨rfl, hsz, hP, hK, hD0⟩ := hv
  have hx := B.exec
  have hb := B.bytes
  have hr := B.returns
  have hts := atoms_spec (ws := xw yX12_odds cX12_odds 6 (some .int)) B.pre
  have htg : ∀ w ∈ xg, w.before _ s = true := fun w h => hts w (List.mem_cons_of_mem _ h)
  have hown : s.vm.findClass RX12 = some m.cls := findClass_of_methodNamed B.named
  have hlocks := B.notSynchronized
  subst hsz
  have hD := hD0.self (sz := s.heap.size)
  generalize hAe : va_A (pre_X12_odds T a ex fi fl vi) s.heap.size = A at hD hQ
  have hA : ∀ q : Nat, s.heap.size ≤ q → A q := fun q h => by rw [← hAe]; exact Or.inr h
  have hS : va_S A s.heap s.heap [] := va_S.rf
  replace hP : va_P D vwCl [((a 0), .inr (12, ((.int 0) :: (.ref (ex 0)) :: (.int 0) :: (.int 0) :: (.int 0) :: (.int 0) :: (.ref (a 1)) :: (.ref (ex 1)) :: (.ref (ex 2)) :: (.ref (ex 3)) :: (.ref (ex 4)) :: (.int 0) :: (.int 0) :: (.int 0) :: (.int 0) :: (.int 0) :: (.int 0) :: (.long 0) :: (.int 0) :: (.int 0) :: (.int 0) :: (.ref (ex 5)) :: (.ref (ex 6)) :: (.int 0) :: (.ref (ex 7)) :: (.int (-1)) :: (.int 0) :: (.int 0) :: (.int 0) :: (.int 0) :: (.int 0) :: (.int 0) :: (.ref (ex 8)) :: (.int 0) :: (.ref (ex 9)) :: (.int 0) :: (.int 0) :: (.int 0) :: (.int 0) :: (.int 0) :: (.ref (ex 10)) :: (.ref (ex 11)) :: (.ref (ex 12)) :: (.ref (ex 13)) :: []))), ((a 1), .inl (T 1, 2187, .inl (fun _ => 0)))] s.heap := hP
  replace hD : va_D A [((a 0), .inr (12, ((.int 0) :: (.ref (ex 0)) :: (.int 0) :: (.int 0) :: (.int 0) :: (.int 0) :: (.ref (a 1)) :: (.ref (ex 1)) :: (.ref (ex 2)) :: (.ref (ex 3)) :: (.ref (ex 4)) :: (.int 0) :: (.int 0) :: (.int 0) :: (.int 0) :: (.int 0) :: (.int 0) :: (.long 0) :: (.int 0) :: (.int 0) :: (.int 0) :: (.ref (ex 5)) :: (.ref (ex 6)) :: (.int 0) :: (.ref (ex 7)) :: (.int (-1)) :: (.int 0) :: (.int 0) :: (.int 0) :: (.int 0) :: (.int 0) :: (.int 0) :: (.ref (ex 8)) :: (.int 0) :: (.ref (ex 9)) :: (.int 0) :: (.int 0) :: (.int 0) :: (.int 0) :: (.int 0) :: (.ref (ex 10)) :: (.ref (ex 11)) :: (.ref (ex 12)) :: (.ref (ex 13)) :: []))), ((a 1), .inl (T 1, 2187, .inl (fun _ => 0)))] := hD
  have hl := lv_entry ([.ref (a 0), .int (vi 0), .int (vi 1), .int (vi 2)]) (n := 6) (Nat.le_of_ble_eq_true rfl)
  rw [lg_entry_eq]
  generalize (lg_sl ([.ref (a 0), .int (vi 0), .int (vi 1), .int (vi 2)]) ++ List.replicate (6 - (lg_sl ([.ref (a 0), .int (vi 0), .int (vi 1), .int (vi 2)])).length) Slot.unset).toArray = ls at hl ⊢
  replace hl : lv_has ls 6 [(0, .ref (a 0)), (1, .int (vi 0)), (2, .int (vi 1)), (3, .int (vi 2))] := hl
  refine lv_aload_n hx hb dX12_odds_0 rfl (lv_at hl 0 rfl) ?_
  refine lv_iconst (v := 0) hx hb dX12_odds_1 (by decide) ?_
  refine va_put (D := D) (ci := 12) (v := .int 0) (ty := .int) (C := RX12) (T := TX12) (N := 44) hx hb htg inX12 tyX12 tyX12_ok nmX12 hown hK.1 hP hD hS 0 rfl rfl 0 (by decide) (htg _ kw_1407) (fun _ h9 => h9) rfl (by decide +kernel) rfl rfl (Nat.le_of_ble_eq_true rfl) dX12_odds_2 (fun H locs hP hD hS => ?_)
  replace hP : va_P D vwCl [((a 0), .inr (12, ((.int 0) :: (.ref (ex 0)) :: (.int 0) :: (.int 0) :: (.int 0) :: (.int 0) :: (.ref (a 1)) :: (.ref (ex 1)) :: (.ref (ex 2)) :: (.ref (ex 3)) :: (.ref (ex 4)) :: (.int 0) :: (.int 0) :: (.int 0) :: (.int 0) :: (.int 0) :: (.int 0) :: (.long 0) :: (.int 0) :: (.int 0) :: (.int 0) :: (.ref (ex 5)) :: (.ref (ex 6)) :: (.int 0) :: (.ref (ex 7)) :: (.int (-1)) :: (.int 0) :: (.int 0) :: (.int 0) :: (.int 0) :: (.int 0) :: (.int 0) :: (.ref (ex 8)) :: (.int 0) :: (.ref (ex 9)) :: (.int 0) :: (.int 0) :: (.int 0) :: (.int 0) :: (.int 0) :: (.ref (ex 10)) :: (.ref (ex 11)) :: (.ref (ex 12)) :: (.ref (ex 13)) :: []))), ((a 1), .inl (T 1, 2187, .inl (fun _ => 0)))] H := hP
  replace hD : va_D A [((a 0), .inr (12, ((.int 0) :: (.ref (ex 0)) :: (.int 0) :: (.int 0) :: (.int 0) :: (.int 0) :: (.ref (a 1)) :: (.ref (ex 1)) :: (.ref (ex 2)) :: (.ref (ex 3)) :: (.ref (ex 4)) :: (.int 0) :: (.int 0) :: (.int 0) :: (.int 0) :: (.int 0) :: (.int 0) :: (.long 0) :: (.int 0) :: (.int 0) :: (.int 0) :: (.ref (ex 5)) :: (.ref (ex 6)) :: (.int 0) :: (.ref (ex 7)) :: (.int (-1)) :: (.int 0) :: (.int 0) :: (.int 0) :: (.int 0) :: (.int 0) :: (.int 0) :: (.ref (ex 8)) :: (.int 0) :: (.ref (ex 9)) :: (.int 0) :: (.int 0) :: (.int 0) :: (.int 0) :: (.int 0) :: (.ref (ex 10)) :: (.ref (ex 11)) :: (.ref (ex 12)) :: (.ref (ex 13)) :: []))), ((a 1), .inl (T 1, 2187, .inl (fun _ => 0)))] := hD
  refine lv_aload_n hx hb dX12_odds_5 rfl (lv_at hl 0 rfl) ?_
  refine lv_iload_n hx hb dX12_odds_6 rfl (lv_at hl 1 rfl) ?_
  have hPc := hP.sub (ws' := (pre_X12_isSoul T (xa [(a 0), (a 1)]) (xa [(ex 0), (ex 1), (ex 2), (ex 3), (ex 4), (ex 5), (ex 6), (ex 7), (ex 8), (ex 9), (ex 10), (ex 11), (ex 12), (ex 13)]) (xf []) (xh []) (xv [(vi 0)]))) [0, 1] rfl
  have hDc := hD.sub (ws' := (pre_X12_isSoul T (xa [(a 0), (a 1)]) (xa [(ex 0), (ex 1), (ex 2), (ex 3), (ex 4), (ex 5), (ex 6), (ex 7), (ex 8), (ex 9), (ex 10), (ex 11), (ex 12), (ex 13)]) (xf []) (xh []) (xv [(vi 0)]))) [0, 1] (by decide) rfl
  have hFc := va_free (wc := (pre_X12_isSoul T (xa [(a 0), (a 1)]) (xa [(ex 0), (ex 1), (ex 2), (ex 3), (ex 4), (ex 5), (ex 6), (ex 7), (ex 8), (ex 9), (ex 10), (ex 11), (ex 12), (ex 13)]) (xf []) (xh []) (xv [(vi 0)]))) hD hS hA [0, 1] rfl
  refine va_calli (va_runV (As := [.int (vi 0)]) (rest := []) ⟨hx, hb, hml, hown, htg⟩ (c_X12_isSoul l D T (xa [(a 0), (a 1)]) (xa [(ex 0), (ex 1), (ex 2), (ex 3), (ex 4), (ex 5), (ex 6), (ex 7), (ex 8), (ex 9), (ex 10), (ex 11), (ex 12), (ex 13)]) (xf []) (xh []) (xv [(vi 0)]) H.size) ⟨callB_of 1 htg (xg_ok kw_1652) rfl rfl rfl (htg _ kw_17) (htg _ kw_1649) (by decide +kernel) ⟨by rw [hR]; exact Nat.le_of_ble_eq_true rfl, by rw [hR]; exact Nat.le_of_ble_eq_true rfl⟩, htg _ kw_1651, htg _ ks_135⟩ (xpreV hK hPc hDc (va_recv hK.1 hPc (ci := 12) (q0 := 0) rfl rfl)) rfl rfl hl.1 rfl (lv_room (Nat.le_of_ble_eq_true rfl)) dX12_odds_7 ⟨by rw [hR]; exact Nat.le_of_ble_eq_true rfl, by rw [hR]; exact Nat.le_of_ble_eq_true rfl⟩) hS (fun q _ h => hFc q h) hFc (fun r9 u t H1 locs ht hvm hw hB hz1 hk1 hS => ?_)
  obtain ⟨bk, fik, flk, vik, hP1, hD1, hGk⟩ := hB
  rw [ht] at hP1
  obtain ⟨hP, hD⟩ := va_join (wr := []) (w1 := [((a 0), .inr (12, ((.int 0) :: (.ref (ex 0)) :: (.int 0) :: (.int 0) :: (.int 0) :: (.int 0) :: (.ref (a 1)) :: (.ref (ex 1)) :: (.ref (ex 2)) :: (.ref (ex 3)) :: (.ref (ex 4)) :: (.int 0) :: (.int 0) :: (.int 0) :: (.int 0) :: (.int 0) :: (.int 0) :: (.long 0) :: (.int 0) :: (.int 0) :: (.int 0) :: (.ref (ex 5)) :: (.ref (ex 6)) :: (.int 0) :: (.ref (ex 7)) :: (.int (-1)) :: (.int 0) :: (.int 0) :: (.int 0) :: (.int 0) :: (.int 0) :: (.int 0) :: (.ref (ex 8)) :: (.int 0) :: (.ref (ex 9)) :: (.int 0) :: (.int 0) :: (.int 0) :: (.int 0) :: (.int 0) :: (.ref (ex 10)) :: (.ref (ex 11)) :: (.ref (ex 12)) :: (.ref (ex 13)) :: []))), ((a 1), .inl (T 1, 2187, .inl (fun _ => 0)))]) hP hD [0, 1] [] rfl rfl (by decide) (by decide) hk1 hFc hP1 hD1
  subst hw
  clear hPc hDc hFc hP1 hD1 hk1 hz1 hvm ht
  generalize H1 = H at hP hS ⊢
  replace hP : va_P D vwCl [((a 0), .inr (12, ((.int 0) :: (.ref (ex 0)) :: (.int 0) :: (.int 0) :: (.int 0) :: (.int 0) :: (.ref (a 1)) :: (.ref (ex 1)) :: (.ref (ex 2)) :: (.ref (ex 3)) :: (.ref (ex 4)) :: (.int 0) :: (.int 0) :: (.int 0) :: (.int 0) :: (.int 0) :: (.int 0) :: (.long 0) :: (.int 0) :: (.int 0) :: (.int 0) :: (.ref (ex 5)) :: (.ref (ex 6)) :: (.int 0) :: (.ref (ex 7)) :: (.int (-1)) :: (.int 0) :: (.int 0) :: (.int 0) :: (.int 0) :: (.int 0) :: (.int 0) :: (.ref (ex 8)) :: (.int 0) :: (.ref (ex 9)) :: (.int 0) :: (.int 0) :: (.int 0) :: (.int 0) :: (.int 0) :: (.ref (ex 10)) :: (.ref (ex 11)) :: (.ref (ex 12)) :: (.ref (ex 13)) :: []))), ((a 1), .inl (T 1, 2187, .inl (fun _ => 0)))] H := hP
  replace hD : va_D A [((a 0), .inr (12, ((.int 0) :: (.ref (ex 0)) :: (.int 0) :: (.int 0) :: (.int 0) :: (.int 0) :: (.ref (a 1)) :: (.ref (ex 1)) :: (.ref (ex 2)) :: (.ref (ex 3)) :: (.ref (ex 4)) :: (.int 0) :: (.int 0) :: (.int 0) :: (.int 0) :: (.int 0) :: (.int 0) :: (.long 0) :: (.int 0) :: (.int 0) :: (.int 0) :: (.ref (ex 5)) :: (.ref (ex 6)) :: (.int 0) :: (.ref (ex 7)) :: (.int (-1)) :: (.int 0) :: (.int 0) :: (.int 0) :: (.int 0) :: (.int 0) :: (.int 0) :: (.ref (ex 8)) :: (.int 0) :: (.ref (ex 9)) :: (.int 0) :: (.int 0) :: (.int 0) :: (.int 0) :: (.int 0) :: (.ref (ex 10)) :: (.ref (ex 11)) :: (.ref (ex 12)) :: (.ref (ex 13)) :: []))), ((a 1), .inl (T 1, 2187, .inl (fun _ => 0)))] := hD
  refine lv_if_eq (tgt := 32) hx hb dX12_odds_10 (by decide) (fun _ => ?_) (fun c => absurd (by decide) c)
  refine lv_iconst (v := (-1)) hx hb dX12_odds_32 (by decide) ?_
  have hP9 := hP.sub (ws' := []) [] rfl
  have hD9 := hD.sub (ws' := []) [] (by decide) rfl
  rw [hQ]
  exact W.iret (v := (-1)) hx hb hr (fun t ht hW => ⟨⟨(-1), (), rfl, rfl, ⟨xa [], xf [], xh [], xv [], by rw [ht]; exact hP9, hD9, trivial⟩⟩, hS.F ht⟩) hS.2.2 dX12_odds_33
abbrev pre_X12_isIn_8 (T : Nat → ClassId) (a ex : Nat → Nat) (fi : Nat → Nat → Int32) (fl : Nat → Nat → Int64) (vi : Nat → Int32) : va_W := []
set_option maxHeartbeats 4000000 in
set_option maxRecDepth 100000 in
theorem c_X12_isIn_8 (l : Launch) (D : va_G) (T : Nat → ClassId) (a ex : Nat → Nat) (fi : Nat → Nat → Int32) (fl : Nat → Nat → Int64) (vi : Nat → Int32) (sz : Nat) : Met l yX12_isIn (xw yX12_isIn cX12_isIn 3 (some .boolean)) ({ frames := 0, cells := 0, slots := 0, locals := 0 }) (xP D T [.int 0, .int 0, .int 1] sz (pre_X12_isIn_8 T a ex fi fl vi)) (va_Qi (fun r (_ : Unit) => r = 1) (xB D (va_A (pre_X12_isIn_8 T a ex fi fl vi) sz) (fun _ => True) (fun b fj fm vj => [])) (va_A (pre_X12_isIn_8 T a ex fi fl vi) sz)) 0 0 (va_A (pre_X12_isIn_8 T a ex fi fl vi) sz) := by
  refine xofW (cc := cX12_isIn) (maxL := 3) (ret := (some .boolean)) (by decide) rfl ?_
  intro p e s m args below meth c s₁ R Q hR hQ B hml hv
  obtain ⟨rfl, hsz, hP, hK, hD0⟩ := hv
  have hx := B.exec
  have hb := B.bytes
  have hr := B.returns
  have hts := atoms_spec (ws := xw yX12_isIn cX12_isIn 3 (some .boolean)) B.pre
  have htg : ∀ w ∈ xg, w.before _ s = true := fun w h => hts w (List.mem_cons_of_mem _ h)
  have hown : s.vm.findClass RX12 = some m.cls := findClass_of_methodNamed B.named
  have hlocks := B.notSynchronized
  subst hsz
  have hD := hD0.self (sz := s.heap.size)
  generalize hAe : va_A (pre_X12_isIn_8 T a ex fi fl vi) s.heap.size = A at hD hQ
  have hA : ∀ q : Nat, s.heap.size ≤ q → A q := fun q h => by rw [← hAe]; exact Or.inr h
  have hS : va_S A s.heap s.heap [] := va_S.rf
  replace hP : va_P D vwCl [] s.heap := hP
  replace hD : va_D A [] := hD
  have hl := lv_entry ([.int 0, .int 0, .int 1]) (n := 3) (Nat.le_of_ble_eq_true rfl)
  rw [lg_entry_eq]
  generalize (lg_sl ([.int 0, .int 0, .int 1]) ++ List.replicate (3 - (lg_sl ([.int 0, .int 0, .int 1])).length) Slot.unset).toArray = ls at hl ⊢
  replace hl : lv_has ls 3 [(0, .int 0), (1, .int 0), (2, .int 1)] := hl
  refine lv_iload_n hx hb dX12_isIn_0 rfl (lv_at hl 0 rfl) ?_
  refine lv_iload_n hx hb dX12_isIn_1 rfl (lv_at hl 1 rfl) ?_
  refine lv_icmp_lt (tgt := 14) hx hb dX12_isIn_2 (by decide) (fun c => absurd c (by decide)) (fun _ => ?_)
  refine lv_iload_n hx hb dX12_isIn_5 rfl (lv_at hl 0 rfl) ?_
  refine lv_iload_n hx hb dX12_isIn_6 rfl (lv_at hl 2 rfl) ?_
  refine lv_icmp_gt (tgt := 14) hx hb dX12_isIn_7 (by decide) (fun c => absurd c (by decide)) (fun _ => ?_)
  refine lv_iconst (v := 1) hx hb dX12_isIn_10 (by decide) ?_
  refine lv_goto (tgt := 15) hx hb dX12_isIn_11 (by decide) ?_
  have hP9 := hP.sub (ws' := []) [] rfl
  have hD9 := hD.sub (ws' := []) [] (by decide +kernel) rfl
  rw [hQ]
  exact W.zret (v := 1) hx hb hr rfl (fun t ht hW => ⟨⟨1, (), rfl, rfl, ⟨xa [], xf [], xh [], xv [], by rw [ht]; exact hP9, hD9, trivial⟩⟩, hS.F ht⟩) hS.2.2 dX12_isIn_15
abbrev pre_X12_taken_3 (T : Nat → ClassId) (a ex : Nat → Nat) (fi : Nat → Nat → Int32) (fl : Nat → Nat → Int64) (vi : Nat → Int32) : va_W := [((a 0), .inr (12, ((.int 0) :: (.ref (ex 0)) :: (.int 0) :: (.int 0) :: (.int 0) :: (.int 0) :: (.ref (ex 1)) :: (.ref (ex 2)) :: (.ref (ex 3)) :: (.ref (ex 4)) :: (.ref (ex 5)) :: (.int 0) :: (.int 0) :: (.int 0) :: (.int 0) :: (.int 0) :: (.int 0) :: (.long 0) :: (.int 0) :: (.int 0) :: (.int 0) :: (.ref (ex 6)) :: (.ref (ex 7)) :: (.int 0) :: (.ref (ex 8)) :: (.int (-1)) :: (.int 0) :: (.int 0) :: (.int 0) :: (.int 0) :: (.int 0) :: (.int 0) :: (.ref (ex 9)) :: (.int 0) :: (.ref (ex 10)) :: (.int 0) :: (.int 0) :: (.int 0) :: (.int 0) :: (.int 0) :: (.ref (ex 11)) :: (.ref (ex 12)) :: (.ref (ex 13)) :: (.ref (ex 14)) :: [])))]
set_option maxHeartbeats 4000000 in
set_option maxRecDepth 100000 in
theorem c_X12_taken_3 (l : Launch) (D : va_G) (T : Nat → ClassId) (a ex : Nat → Nat) (fi : Nat → Nat → Int32) (fl : Nat → Nat → Int64) (vi : Nat → Int32) (sz : Nat) : Met l yX12_taken (xw yX12_taken cX12_taken 2 none) ({ frames := 0, cells := 0, slots := 0, locals := 0 }) (xP D T [.ref (a 0), .int 400] sz (pre_X12_taken_3 T a ex fi fl vi)) (va_Qv (fun _ : Unit => True) (xB D (va_A (pre_X12_taken_3 T a ex fi fl vi) sz) (fun _ => True) (fun b fj fm vj => [((a 0), .inr (12, ((.int 0) :: (.ref (ex 0)) :: (.int 0) :: (.int 0) :: (.int 0) :: (.int 400) :: (.ref (ex 1)) :: (.ref (ex 2)) :: (.ref (ex 3)) :: (.ref (ex 4)) :: (.ref (ex 5)) :: (.int 0) :: (.int 0) :: (.int 0) :: (.int 0) :: (.int 0) :: (.int 0) :: (.long 0) :: (.int 0) :: (.int 0) :: (.int 0) :: (.ref (ex 6)) :: (.ref (ex 7)) :: (.int 0) :: (.ref (ex 8)) :: (.int (-1)) :: (.int 0) :: (.int 0) :: (.int 0) :: (.int 0) :: (.int 0) :: (.int 0) :: (.ref (ex 9)) :: (.int 0) :: (.ref (ex 10)) :: (.int 0) :: (.int 0) :: (.int 0) :: (.int 0) :: (.int 0) :: (.ref (ex 11)) :: (.ref (ex 12)) :: (.ref (ex 13)) :: (.ref (ex 14)) :: [])))])) (va_A (pre_X12_taken_3 T a ex fi fl vi) sz)) 0 0 (va_A (pre_X12_taken_3 T a ex fi fl vi) sz) := by
  refine xofW (cc := cX12_taken) (maxL := 2) (ret := none) (by decide) rfl ?_
  intro p e s m args below meth c s₁ R Q hR hQ B hml hv
  obtain ⟨rfl, hsz, hP, hK, hD0⟩ := hv
  have hx := B.exec
  have hb := B.bytes
  have hr := B.returns
  have hts := atoms_spec (ws := xw yX12_taken cX12_taken 2 none) B.pre
  have htg : ∀ w ∈ xg, w.before _ s = true := fun w h => hts w (List.mem_cons_of_mem _ h)
  have hown : s.vm.findClass RX12 = some m.cls := findClass_of_methodNamed B.named
  have hlocks := B.notSynchronized
  subst hsz
  have hD := hD0.self (sz := s.heap.size)
  generalize hAe : va_A (pre_X12_taken_3 T a ex fi fl vi) s.heap.size = A at hD hQ
  have hA : ∀ q : Nat, s.heap.size ≤ q → A q := fun q h => by rw [← hAe]; exact Or.inr h
  have hS : va_S A s.heap s.heap [] := va_S.rf
  replace hP : va_P D vwCl [((a 0), .inr (12, ((.int 0) :: (.ref (ex 0)) :: (.int 0) :: (.int 0) :: (.int 0) :: (.int 0) :: (.ref (ex 1)) :: (.ref (ex 2)) :: (.ref (ex 3)) :: (.ref (ex 4)) :: (.ref (ex 5)) :: (.int 0) :: (.int 0) :: (.int 0) :: (.int 0) :: (.int 0) :: (.int 0) :: (.long 0) :: (.int 0) :: (.int 0) :: (.int 0) :: (.ref (ex 6)) :: (.ref (ex 7)) :: (.int 0) :: (.ref (ex 8)) :: (.int (-1)) :: (.int 0) :: (.int 0) :: (.int 0) :: (.int 0) :: (.int 0) :: (.int 0) :: (.ref (ex 9)) :: (.int 0) :: (.ref (ex 10)) :: (.int 0) :: (.int 0) :: (.int 0) :: (.int 0) :: (.int 0) :: (.ref (ex 11)) :: (.ref (ex 12)) :: (.ref (ex 13)) :: (.ref (ex 14)) :: [])))] s.heap := hP
  replace hD : va_D A [((a 0), .inr (12, ((.int 0) :: (.ref (ex 0)) :: (.int 0) :: (.int 0) :: (.int 0) :: (.int 0) :: (.ref (ex 1)) :: (.ref (ex 2)) :: (.ref (ex 3)) :: (.ref (ex 4)) :: (.ref (ex 5)) :: (.int 0) :: (.int 0) :: (.int 0) :: (.int 0) :: (.int 0) :: (.int 0) :: (.long 0) :: (.int 0) :: (.int 0) :: (.int 0) :: (.ref (ex 6)) :: (.ref (ex 7)) :: (.int 0) :: (.ref (ex 8)) :: (.int (-1)) :: (.int 0) :: (.int 0) :: (.int 0) :: (.int 0) :: (.int 0) :: (.int 0) :: (.ref (ex 9)) :: (.int 0) :: (.ref (ex 10)) :: (.int 0) :: (.int 0) :: (.int 0) :: (.int 0) :: (.int 0) :: (.ref (ex 11)) :: (.ref (ex 12)) :: (.ref (ex 13)) :: (.ref (ex 14)) :: [])))] := hD
  have hl := lv_entry ([.ref (a 0), .int 400]) (n := 2) (Nat.le_of_ble_eq_true rfl)
  rw [lg_entry_eq]
  generalize (lg_sl ([.ref (a 0), .int 400]) ++ List.replicate (2 - (lg_sl ([.ref (a 0), .int 400])).length) Slot.unset).toArray = ls at hl ⊢
  replace hl : lv_has ls 2 [(0, .ref (a 0)), (1, .int 400)] := hl
  refine lv_aload_n hx hb dX12_taken_0 rfl (lv_at hl 0 rfl) ?_
  refine lv_aload_n hx hb dX12_taken_1 rfl (lv_at hl 0 rfl) ?_
  refine va_get (D := D) (ci := 12) (v := .int 0) (C := RX12) (T := TX12) (N := 44) hx hb htg inX12 hown hK.1 hP 0 rfl rfl 2 (by decide) (htg _ kw_1409) (fun _ h9 => h9) rfl dX12_taken_2 ?_
  refine va_put (D := D) (ci := 12) (v := .int 0) (ty := .int) (C := RX12) (T := TX12) (N := 44) hx hb htg inX12 tyX12 tyX12_ok nmX12 hown hK.1 hP hD hS 0 rfl rfl 3 (by decide) (htg _ kw_1410) (fun _ h9 => h9) rfl (by decide +kernel) rfl rfl (Nat.le_of_ble_eq_true rfl) dX12_taken_5 (fun H locs hP hD hS => ?_)
  replace hP : va_P D vwCl [((a 0), .inr (12, ((.int 0) :: (.ref (ex 0)) :: (.int 0) :: (.int 0) :: (.int 0) :: (.int 0) :: (.ref (ex 1)) :: (.ref (ex 2)) :: (.ref (ex 3)) :: (.ref (ex 4)) :: (.ref (ex 5)) :: (.int 0) :: (.int 0) :: (.int 0) :: (.int 0) :: (.int 0) :: (.int 0) :: (.long 0) :: (.int 0) :: (.int 0) :: (.int 0) :: (.ref (ex 6)) :: (.ref (ex 7)) :: (.int 0) :: (.ref (ex 8)) :: (.int (-1)) :: (.int 0) :: (.int 0) :: (.int 0) :: (.int 0) :: (.int 0) :: (.int 0) :: (.ref (ex 9)) :: (.int 0) :: (.ref (ex 10)) :: (.int 0) :: (.int 0) :: (.int 0) :: (.int 0) :: (.int 0) :: (.ref (ex 11)) :: (.ref (ex 12)) :: (.ref (ex 13)) :: (.ref (ex 14)) :: [])))] H := hP
  replace hD : va_D A [((a 0), .inr (12, ((.int 0) :: (.ref (ex 0)) :: (.int 0) :: (.int 0) :: (.int 0) :: (.int 0) :: (.ref (ex 1)) :: (.ref (ex 2)) :: (.ref (ex 3)) :: (.ref (ex 4)) :: (.ref (ex 5)) :: (.int 0) :: (.int 0) :: (.int 0) :: (.int 0) :: (.int 0) :: (.int 0) :: (.long 0) :: (.int 0) :: (.int 0) :: (.int 0) :: (.ref (ex 6)) :: (.ref (ex 7)) :: (.int 0) :: (.ref (ex 8)) :: (.int (-1)) :: (.int 0) :: (.int 0) :: (.int 0) :: (.int 0) :: (.int 0) :: (.int 0) :: (.ref (ex 9)) :: (.int 0) :: (.ref (ex 10)) :: (.int 0) :: (.int 0) :: (.int 0) :: (.int 0) :: (.int 0) :: (.ref (ex 11)) :: (.ref (ex 12)) :: (.ref (ex 13)) :: (.ref (ex 14)) :: [])))] := hD
  refine lv_aload_n hx hb dX12_taken_8 rfl (lv_at hl 0 rfl) ?_
  refine lv_iconst (v := 0) hx hb dX12_taken_9 (by decide) ?_
  refine va_put (D := D) (ci := 12) (v := .int 0) (ty := .int) (C := RX12) (T := TX12) (N := 44) hx hb htg inX12 tyX12 tyX12_ok nmX12 hown hK.1 hP hD hS 0 rfl rfl 2 (by decide) (htg _ kw_1409) (fun _ h9 => h9) rfl (by decide +kernel) rfl rfl (Nat.le_of_ble_eq_true rfl) dX12_taken_10 (fun H locs hP hD hS => ?_)
  replace hP : va_P D vwCl [((a 0), .inr (12, ((.int 0) :: (.ref (ex 0)) :: (.int 0) :: (.int 0) :: (.int 0) :: (.int 0) :: (.ref (ex 1)) :: (.ref (ex 2)) :: (.ref (ex 3)) :: (.ref (ex 4)) :: (.ref (ex 5)) :: (.int 0) :: (.int 0) :: (.int 0) :: (.int 0) :: (.int 0) :: (.int 0) :: (.long 0) :: (.int 0) :: (.int 0) :: (.int 0) :: (.ref (ex 6)) :: (.ref (ex 7)) :: (.int 0) :: (.ref (ex 8)) :: (.int (-1)) :: (.int 0) :: (.int 0) :: (.int 0) :: (.int 0) :: (.int 0) :: (.int 0) :: (.ref (ex 9)) :: (.int 0) :: (.ref (ex 10)) :: (.int 0) :: (.int 0) :: (.int 0) :: (.int 0) :: (.int 0) :: (.ref (ex 11)) :: (.ref (ex 12)) :: (.ref (ex 13)) :: (.ref (ex 14)) :: [])))] H := hP
  replace hD : va_D A [((a 0), .inr (12, ((.int 0) :: (.ref (ex 0)) :: (.int 0) :: (.int 0) :: (.int 0) :: (.int 0) :: (.ref (ex 1)) :: (.ref (ex 2)) :: (.ref (ex 3)) :: (.ref (ex 4)) :: (.ref (ex 5)) :: (.int 0) :: (.int 0) :: (.int 0) :: (.int 0) :: (.int 0) :: (.int 0) :: (.long 0) :: (.int 0) :: (.int 0) :: (.int 0) :: (.ref (ex 6)) :: (.ref (ex 7)) :: (.int 0) :: (.ref (ex 8)) :: (.int (-1)) :: (.int 0) :: (.int 0) :: (.int 0) :: (.int 0) :: (.int 0) :: (.int 0) :: (.ref (ex 9)) :: (.int 0) :: (.ref (ex 10)) :: (.int 0) :: (.int 0) :: (.int 0) :: (.int 0) :: (.int 0) :: (.ref (ex 11)) :: (.ref (ex 12)) :: (.ref (ex 13)) :: (.ref (ex 14)) :: [])))] := hD
  refine lv_aload_n hx hb dX12_taken_13 rfl (lv_at hl 0 rfl) ?_
  refine lv_iconst (v := 0) hx hb dX12_taken_14 (by decide) ?_
  refine va_put (D := D) (ci := 12) (v := .int 0) (ty := .int) (C := RX12) (T := TX12) (N := 44) hx hb htg inX12 tyX12 tyX12_ok nmX12 hown hK.1 hP hD hS 0 rfl rfl 4 (by decide) (htg _ kw_1411) (fun _ h9 => h9) rfl (by decide +kernel) rfl rfl (Nat.le_of_ble_eq_true rfl) dX12_taken_15 (fun H locs hP hD hS => ?_)
  replace hP : va_P D vwCl [((a 0), .inr (12, ((.int 0) :: (.ref (ex 0)) :: (.int 0) :: (.int 0) :: (.int 0) :: (.int 0) :: (.ref (ex 1)) :: (.ref (ex 2)) :: (.ref (ex 3)) :: (.ref (ex 4)) :: (.ref (ex 5)) :: (.int 0) :: (.int 0) :: (.int 0) :: (.int 0) :: (.int 0) :: (.int 0) :: (.long 0) :: (.int 0) :: (.int 0) :: (.int 0) :: (.ref (ex 6)) :: (.ref (ex 7)) :: (.int 0) :: (.ref (ex 8)) :: (.int (-1)) :: (.int 0) :: (.int 0) :: (.int 0) :: (.int 0) :: (.int 0) :: (.int 0) :: (.ref (ex 9)) :: (.int 0) :: (.ref (ex 10)) :: (.int 0) :: (.int 0) :: (.int 0) :: (.int 0) :: (.int 0) :: (.ref (ex 11)) :: (.ref (ex 12)) :: (.ref (ex 13)) :: (.ref (ex 14)) :: [])))] H := hP
  replace hD : va_D A [((a 0), .inr (12, ((.int 0) :: (.ref (ex 0)) :: (.int 0) :: (.int 0) :: (.int 0) :: (.int 0) :: (.ref (ex 1)) :: (.ref (ex 2)) :: (.ref (ex 3)) :: (.ref (ex 4)) :: (.ref (ex 5)) :: (.int 0) :: (.int 0) :: (.int 0) :: (.int 0) :: (.int 0) :: (.int 0) :: (.long 0) :: (.int 0) :: (.int 0) :: (.int 0) :: (.ref (ex 6)) :: (.ref (ex 7)) :: (.int 0) :: (.ref (ex 8)) :: (.int (-1)) :: (.int 0) :: (.int 0) :: (.int 0) :: (.int 0) :: (.int 0) :: (.int 0) :: (.ref (ex 9)) :: (.int 0) :: (.ref (ex 10)) :: (.int 0) :: (.int 0) :: (.int 0) :: (.int 0) :: (.int 0) :: (.ref (ex 11)) :: (.ref (ex 12)) :: (.ref (ex 13)) :: (.ref (ex 14)) :: [])))] := hD
  refine lv_aload_n hx hb dX12_taken_18 rfl (lv_at hl 0 rfl) ?_
  refine lv_iload_n hx hb dX12_taken_19 rfl (lv_at hl 1 rfl) ?_
  refine va_put (D := D) (ci := 12) (v := .int 400) (ty := .int) (C := RX12) (T := TX12) (N := 44) hx hb htg inX12 tyX12 tyX12_ok nmX12 hown hK.1 hP hD hS 0 rfl rfl 5 (by decide) (htg _ kw_1412) (fun _ h9 => h9) rfl (by decide +kernel) rfl rfl (Nat.le_of_ble_eq_true rfl) dX12_taken_20 (fun H locs hP hD hS => ?_)
  replace hP : va_P D vwCl [((a 0), .inr (12, ((.int 0) :: (.ref (ex 0)) :: (.int 0) :: (.int 0) :: (.int 0) :: (.int 400) :: (.ref (ex 1)) :: (.ref (ex 2)) :: (.ref (ex 3)) :: (.ref (ex 4)) :: (.ref (ex 5)) :: (.int 0) :: (.int 0) :: (.int 0) :: (.int 0) :: (.int 0) :: (.int 0) :: (.long 0) :: (.int 0) :: (.int 0) :: (.int 0) :: (.ref (ex 6)) :: (.ref (ex 7)) :: (.int 0) :: (.ref (ex 8)) :: (.int (-1)) :: (.int 0) :: (.int 0) :: (.int 0) :: (.int 0) :: (.int 0) :: (.int 0) :: (.ref (ex 9)) :: (.int 0) :: (.ref (ex 10)) :: (.int 0) :: (.int 0) :: (.int 0) :: (.int 0) :: (.int 0) :: (.ref (ex 11)) :: (.ref (ex 12)) :: (.ref (ex 13)) :: (.ref (ex 14)) :: [])))] H := hP
  replace hD : va_D A [((a 0), .inr (12, ((.int 0) :: (.ref (ex 0)) :: (.int 0) :: (.int 0) :: (.int 0) :: (.int 400) :: (.ref (ex 1)) :: (.ref (ex 2)) :: (.ref (ex 3)) :: (.ref (ex 4)) :: (.ref (ex 5)) :: (.int 0) :: (.int 0) :: (.int 0) :: (.int 0) :: (.int 0) :: (.int 0) :: (.long 0) :: (.int 0) :: (.int 0) :: (.int 0) :: (.ref (ex 6)) :: (.ref (ex 7)) :: (.int 0) :: (.ref (ex 8)) :: (.int (-1)) :: (.int 0) :: (.int 0) :: (.int 0) :: (.int 0) :: (.int 0) :: (.int 0) :: (.ref (ex 9)) :: (.int 0) :: (.ref (ex 10)) :: (.int 0) :: (.int 0) :: (.int 0) :: (.int 0) :: (.int 0) :: (.ref (ex 11)) :: (.ref (ex 12)) :: (.ref (ex 13)) :: (.ref (ex 14)) :: [])))] := hD
  have hP9 := hP.sub (ws' := [((a 0), .inr (12, ((.int 0) :: (.ref (ex 0)) :: (.int 0) :: (.int 0) :: (.int 0) :: (.int 400) :: (.ref (ex 1)) :: (.ref (ex 2)) :: (.ref (ex 3)) :: (.ref (ex 4)) :: (.ref (ex 5)) :: (.int 0) :: (.int 0) :: (.int 0) :: (.int 0) :: (.int 0) :: (.int 0) :: (.long 0) :: (.int 0) :: (.int 0) :: (.int 0) :: (.ref (ex 6)) :: (.ref (ex 7)) :: (.int 0) :: (.ref (ex 8)) :: (.int (-1)) :: (.int 0) :: (.int 0) :: (.int 0) :: (.int 0) :: (.int 0) :: (.int 0) :: (.ref (ex 9)) :: (.int 0) :: (.ref (ex 10)) :: (.int 0) :: (.int 0) :: (.int 0) :: (.int 0) :: (.int 0) :: (.ref (ex 11)) :: (.ref (ex 12)) :: (.ref (ex 13)) :: (.ref (ex 14)) :: [])))]) [0] rfl
  have hD9 := hD.sub (ws' := [((a 0), .inr (12, ((.int 0) :: (.ref (ex 0)) :: (.int 0) :: (.int 0) :: (.int 0) :: (.int 400) :: (.ref (ex 1)) :: (.ref (ex 2)) :: (.ref (ex 3)) :: (.ref (ex 4)) :: (.ref (ex 5)) :: (.int 0) :: (.int 0) :: (.int 0) :: (.int 0) :: (.int 0) :: (.int 0) :: (.long 0) :: (.int 0) :: (.int 0) :: (.int 0) :: (.ref (ex 6)) :: (.ref (ex 7)) :: (.int 0) :: (.ref (ex 8)) :: (.int (-1)) :: (.int 0) :: (.int 0) :: (.int 0) :: (.int 0) :: (.int 0) :: (.int 0) :: (.ref (ex 9)) :: (.int 0) :: (.ref (ex 10)) :: (.int 0) :: (.int 0) :: (.int 0) :: (.int 0) :: (.int 0) :: (.ref (ex 11)) :: (.ref (ex 12)) :: (.ref (ex 13)) :: (.ref (ex 14)) :: [])))]) [0] (by decide +kernel) rfl
  rw [hQ]
  exact W.vret hx hb hr (fun t ht hW => ⟨⟨(), rfl, trivial, ⟨xa [], xf [], xh [], xv [], by rw [ht]; exact hP9, hD9, trivial⟩⟩, hS.F ht⟩) hS.2.2 dX12_taken_23
abbrev pre_X12_peek_2 (T : Nat → ClassId) (a ex : Nat → Nat) (fi : Nat → Nat → Int32) (fl : Nat → Nat → Int64) (vi : Nat → Int32) : va_W := [((a 0), .inr (12, ((.int 0) :: (.ref (ex 0)) :: (.int 0) :: (.int 0) :: (.int 0) :: (.int 400) :: (.ref (ex 1)) :: (.ref (ex 2)) :: (.ref (ex 3)) :: (.ref (ex 4)) :: (.ref (ex 5)) :: (.int 0) :: (.int 0) :: (.int 0) :: (.int 0) :: (.int 0) :: (.int 0) :: (.long 0) :: (.int 0) :: (.int 0) :: (.int 0) :: (.ref (ex 6)) :: (.ref (ex 7)) :: (.int 0) :: (.ref (ex 8)) :: (.int (-1)) :: (.int 0) :: (.int 0) :: (.int 0) :: (.int 0) :: (.int 0) :: (.int 0) :: (.ref (ex 9)) :: (.int 0) :: (.ref (ex 10)) :: (.int 0) :: (.int 0) :: (.int 0) :: (.int 0) :: (.int 0) :: (.ref (ex 11)) :: (.ref (ex 12)) :: (.ref (ex 13)) :: (.ref (ex 14)) :: [])))]
set_option maxHeartbeats 4000000 in
set_option maxRecDepth 100000 in
theorem c_X12_peek_2 (l : Launch) (D : va_G) (T : Nat → ClassId) (a ex : Nat → Nat) (fi : Nat → Nat → Int32) (fl : Nat → Nat → Int64) (vi : Nat → Int32) (sz : Nat) : Met l yX12_peek (xw yX12_peek cX12_peek 1 (some .int)) ({ frames := 0, cells := 0, slots := 0, locals := 0 }) (xP D T [.ref (a 0)] sz (pre_X12_peek_2 T a ex fi fl vi)) (va_Qi (fun r (_ : Unit) => r = (-1)) (xB D (va_A (pre_X12_peek_2 T a ex fi fl vi) sz) (fun _ => True) (fun b fj fm vj => [((a 0), .inr (12, ((.int 0) :: (.ref (ex 0)) :: (.int 0) :: (.int 0) :: (.int 0) :: (.int 400) :: (.ref (ex 1)) :: (.ref (ex 2)) :: (.ref (ex 3)) :: (.ref (ex 4)) :: (.ref (ex 5)) :: (.int 0) :: (.int 0) :: (.int 0) :: (.int 0) :: (.int 0) :: (.int 0) :: (.long 0) :: (.int 0) :: (.int 0) :: (.int 0) :: (.ref (ex 6)) :: (.ref (ex 7)) :: (.int 0) :: (.ref (ex 8)) :: (.int (-1)) :: (.int 0) :: (.int 0) :: (.int 0) :: (.int 0) :: (.int 0) :: (.int 0) :: (.ref (ex 9)) :: (.int 0) :: (.ref (ex 10)) :: (.int 0) :: (.int 0) :: (.int 0) :: (.int 0) :: (.int 0) :: (.ref (ex 11)) :: (.ref (ex 12)) :: (.ref (ex 13)) :: (.ref (ex 14)) :: [])))])) (va_A (pre_X12_peek_2 T a ex fi fl vi) sz)) 0 0 (va_A (pre_X12_peek_2 T a ex fi fl vi) sz) := by
  refine xofW (cc := cX12_peek) (maxL := 1) (ret := (some .int)) (by decide) rfl ?_
  intro p e s m args below meth c s₁ R Q hR hQ B hml hv
  obtain ⟨rfl, hsz, hP, hK, hD0⟩ := hv
  have hx := B.exec
  have hb := B.bytes
  have hr := B.returns
  have hts := atoms_spec (ws := xw yX12_peek cX12_peek 1 (some .int)) B.pre
  have htg : ∀ w ∈ xg, w.before _ s = true := fun w h => hts w (List.mem_cons_of_mem _ h)
  have hown : s.vm.findClass RX12 = some m.cls := findClass_of_methodNamed B.named
  have hlocks := B.notSynchronized
  subst hsz
  have hD := hD0.self (sz := s.heap.size)
  generalize hAe : va_A (pre_X12_peek_2 T a ex fi fl vi) s.heap.size = A at hD hQ
  have hA : ∀ q : Nat, s.heap.size ≤ q → A q := fun q h => by rw [← hAe]; exact Or.inr h
  have hS : va_S A s.heap s.heap [] := va_S.rf
  replace hP : va_P D vwCl [((a 0), .inr (12, ((.int 0) :: (.ref (ex 0)) :: (.int 0) :: (.int 0) :: (.int 0) :: (.int 400) :: (.ref (ex 1)) :: (.ref (ex 2)) :: (.ref (ex 3)) :: (.ref (ex 4)) :: (.ref (ex 5)) :: (.int 0) :: (.int 0) :: (.int 0) :: (.int 0) :: (.int 0) :: (.int 0) :: (.long 0) :: (.int 0) :: (.int 0) :: (.int 0) :: (.ref (ex 6)) :: (.ref (ex 7)) :: (.int 0) :: (.ref (ex 8)) :: (.int (-1)) :: (.int 0) :: (.int 0) :: (.int 0) :: (.int 0) :: (.int 0) :: (.int 0) :: (.ref (ex 9)) :: (.int 0) :: (.ref (ex 10)) :: (.int 0) :: (.int 0) :: (.int 0) :: (.int 0) :: (.int 0) :: (.ref (ex 11)) :: (.ref (ex 12)) :: (.ref (ex 13)) :: (.ref (ex 14)) :: [])))] s.heap := hP
  replace hD : va_D A [((a 0), .inr (12, ((.int 0) :: (.ref (ex 0)) :: (.int 0) :: (.int 0) :: (.int 0) :: (.int 400) :: (.ref (ex 1)) :: (.ref (ex 2)) :: (.ref (ex 3)) :: (.ref (ex 4)) :: (.ref (ex 5)) :: (.int 0) :: (.int 0) :: (.int 0) :: (.int 0) :: (.int 0) :: (.int 0) :: (.long 0) :: (.int 0) :: (.int 0) :: (.int 0) :: (.ref (ex 6)) :: (.ref (ex 7)) :: (.int 0) :: (.ref (ex 8)) :: (.int (-1)) :: (.int 0) :: (.int 0) :: (.int 0) :: (.int 0) :: (.int 0) :: (.int 0) :: (.ref (ex 9)) :: (.int 0) :: (.ref (ex 10)) :: (.int 0) :: (.int 0) :: (.int 0) :: (.int 0) :: (.int 0) :: (.ref (ex 11)) :: (.ref (ex 12)) :: (.ref (ex 13)) :: (.ref (ex 14)) :: [])))] := hD
  have hl := lv_entry ([.ref (a 0)]) (n := 1) (Nat.le_of_ble_eq_true rfl)
  rw [lg_entry_eq]
  generalize (lg_sl ([.ref (a 0)]) ++ List.replicate (1 - (lg_sl ([.ref (a 0)])).length) Slot.unset).toArray = ls at hl ⊢
  replace hl : lv_has ls 1 [(0, .ref (a 0))] := hl
  refine lv_aload_n hx hb dX12_peek_0 rfl (lv_at hl 0 rfl) ?_
  refine va_get (D := D) (ci := 12) (v := .int 0) (C := RX12) (T := TX12) (N := 44) hx hb htg inX12 hown hK.1 hP 0 rfl rfl 4 (by decide) (htg _ kw_1411) (fun _ h9 => h9) rfl dX12_peek_1 ?_
  refine lv_aload_n hx hb dX12_peek_4 rfl (lv_at hl 0 rfl) ?_
  refine va_get (D := D) (ci := 12) (v := .int 0) (C := RX12) (T := TX12) (N := 44) hx hb htg inX12 hown hK.1 hP 0 rfl rfl 3 (by decide) (htg _ kw_1410) (fun _ h9 => h9) rfl dX12_peek_5 ?_
  refine lv_icmp_ge (tgt := 27) hx hb dX12_peek_8 (by decide) (fun _ => ?_) (fun c => absurd (by decide) c)
  refine lv_iconst (v := (-1)) hx hb dX12_peek_27 (by decide) ?_
  have hP9 := hP.sub (ws' := [((a 0), .inr (12, ((.int 0) :: (.ref (ex 0)) :: (.int 0) :: (.int 0) :: (.int 0) :: (.int 400) :: (.ref (ex 1)) :: (.ref (ex 2)) :: (.ref (ex 3)) :: (.ref (ex 4)) :: (.ref (ex 5)) :: (.int 0) :: (.int 0) :: (.int 0) :: (.int 0) :: (.int 0) :: (.int 0) :: (.long 0) :: (.int 0) :: (.int 0) :: (.int 0) :: (.ref (ex 6)) :: (.ref (ex 7)) :: (.int 0) :: (.ref (ex 8)) :: (.int (-1)) :: (.int 0) :: (.int 0) :: (.int 0) :: (.int 0) :: (.int 0) :: (.int 0) :: (.ref (ex 9)) :: (.int 0) :: (.ref (ex 10)) :: (.int 0) :: (.int 0) :: (.int 0) :: (.int 0) :: (.int 0) :: (.ref (ex 11)) :: (.ref (ex 12)) :: (.ref (ex 13)) :: (.ref (ex 14)) :: [])))]) [0] rfl
  have hD9 := hD.sub (ws' := [((a 0), .inr (12, ((.int 0) :: (.ref (ex 0)) :: (.int 0) :: (.int 0) :: (.int 0) :: (.int 400) :: (.ref (ex 1)) :: (.ref (ex 2)) :: (.ref (ex 3)) :: (.ref (ex 4)) :: (.ref (ex 5)) :: (.int 0) :: (.int 0) :: (.int 0) :: (.int 0) :: (.int 0) :: (.int 0) :: (.long 0) :: (.int 0) :: (.int 0) :: (.int 0) :: (.ref (ex 6)) :: (.ref (ex 7)) :: (.int 0) :: (.ref (ex 8)) :: (.int (-1)) :: (.int 0) :: (.int 0) :: (.int 0) :: (.int 0) :: (.int 0) :: (.int 0) :: (.ref (ex 9)) :: (.int 0) :: (.ref (ex 10)) :: (.int 0) :: (.int 0) :: (.int 0) :: (.int 0) :: (.int 0) :: (.ref (ex 11)) :: (.ref (ex 12)) :: (.ref (ex 13)) :: (.ref (ex 14)) :: [])))]) [0] (by decide +kernel) rfl
  rw [hQ]
  exact W.iret (v := (-1)) hx hb hr (fun t ht hW => ⟨⟨(-1), (), rfl, rfl, ⟨xa [], xf [], xh [], xv [], by rw [ht]; exact hP9, hD9, trivial⟩⟩, hS.F ht⟩) hS.2.2 dX12_peek_28
