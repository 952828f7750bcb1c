abbrev pre_X12_town (T : Nat → ClassId) (a ex : Nat → Nat) (fi : Nat → Nat → Int32) (fl : Nat → Nat → Int64) (vi : Nat → Int32) : va_W := [((a 0), .inr (12, ((.int 0) :: (.ref (ex 0)) :: (.int 0) :: (.int 0) :: (.int 0) :: (.int 0) :: (.ref (a 2)) :: (.ref (a 1)) :: (.ref (ex 1)) :: (.ref (a 3)) :: (.ref (ex 2)) :: (.int 0) :: (.int 0) :: (.int 0) :: (.int 0) :: (.int 0) :: (.int 0) :: (.long 0) :: (.int 0) :: (.int 0) :: (.int 0) :: (.ref (ex 3)) :: (.ref (ex 4)) :: (.int 0) :: (.ref (ex 5)) :: (.int (-1)) :: (.int 0) :: (.int 0) :: (.int 0) :: (.int 0) :: (.int 0) :: (.int 0) :: (.ref (ex 6)) :: (.int 0) :: (.ref (ex 7)) :: (.int 0) :: (.int 0) :: (.int 0) :: (.int 0) :: (.int 0) :: (.ref (ex 8)) :: (.ref (ex 9)) :: (.ref (ex 10)) :: (.ref (ex 11)) :: []))), ((a 1), .inl (T 1, 146, .inl (fun _ => 0))), ((a 2), .inl (T 1, 2187, .inl (fun _ => 0))), ((a 3), .inl (T 2, 36, .inr (.inl (fun _ => 0))))]
set_option maxHeartbeats 4000000 in
set_option maxRecDepth 100000 in
theorem c_X12_town (l : Launch) (D : va_G) (T : Nat → ClassId) (a ex : Nat → Nat) (fi : Nat → Nat → Int32) (fl : Nat → Nat → Int64) (vi : Nat → Int32) (sz : Nat) : Met l yX12_town (xw yX12_town cX12_town 2 (some .int)) ({ frames := 2, cells := 0, slots := 0, locals := 51 }) (xP D T [.ref (a 0)] sz (pre_X12_town T a ex fi fl vi)) (va_Qi (fun r (_ : Unit) => r = 0) (xB D (va_A (pre_X12_town T a ex fi fl vi) sz) (fun _ => True) (fun b fj fm vj => [])) (va_A (pre_X12_town T a ex fi fl vi) sz)) 0 0 (va_A (pre_X12_town T a ex fi fl vi) sz) := by
  refine xofW (cc := cX12_town) (maxL := 2) (ret := (some .int)) (by decide) rfl ?_
  intro p e s m args below meth c s₁ R Q hR hQ B hml hv
  obtain ⟨rfl, hsz, hP, hK, hD0⟩ := hv
  have hx := B.exec
  have hb := B.bytes
  have hr := B.returns
  have hts := atoms_spec (ws := xw yX12_town cX12_town 2 (some .int)) B.pre
  have htg : ∀ w ∈ xg, w.before _ s = true := fun w h => hts w (List.mem_cons_of_mem _ h)
  have hown : s.vm.findClass RX12 = some m.cls := findClass_of_methodNamed B.named
  have hlocks := B.notSynchronized
  subst hsz
  have hD := hD0.self (sz := s.heap.size)
  generalize hAe : va_A (pre_X12_town T a ex fi fl vi) s.heap.size = A at hD hQ
  have hA : ∀ q : Nat, s.heap.size ≤ q → A q := fun q h => by rw [← hAe]; exact Or.inr h
  have hS : va_S A s.heap s.heap [] := va_S.rf
  replace hP : va_P D vwCl [((a 0), .inr (12, ((.int 0) :: (.ref (ex 0)) :: (.int 0) :: (.int 0) :: (.int 0) :: (.int 0) :: (.ref (a 2)) :: (.ref (a 1)) :: (.ref (ex 1)) :: (.ref (a 3)) :: (.ref (ex 2)) :: (.int 0) :: (.int 0) :: (.int 0) :: (.int 0) :: (.int 0) :: (.int 0) :: (.long 0) :: (.int 0) :: (.int 0) :: (.int 0) :: (.ref (ex 3)) :: (.ref (ex 4)) :: (.int 0) :: (.ref (ex 5)) :: (.int (-1)) :: (.int 0) :: (.int 0) :: (.int 0) :: (.int 0) :: (.int 0) :: (.int 0) :: (.ref (ex 6)) :: (.int 0) :: (.ref (ex 7)) :: (.int 0) :: (.int 0) :: (.int 0) :: (.int 0) :: (.int 0) :: (.ref (ex 8)) :: (.ref (ex 9)) :: (.ref (ex 10)) :: (.ref (ex 11)) :: []))), ((a 1), .inl (T 1, 146, .inl (fun _ => 0))), ((a 2), .inl (T 1, 2187, .inl (fun _ => 0))), ((a 3), .inl (T 2, 36, .inr (.inl (fun _ => 0))))] s.heap := hP
  replace hD : va_D A [((a 0), .inr (12, ((.int 0) :: (.ref (ex 0)) :: (.int 0) :: (.int 0) :: (.int 0) :: (.int 0) :: (.ref (a 2)) :: (.ref (a 1)) :: (.ref (ex 1)) :: (.ref (a 3)) :: (.ref (ex 2)) :: (.int 0) :: (.int 0) :: (.int 0) :: (.int 0) :: (.int 0) :: (.int 0) :: (.long 0) :: (.int 0) :: (.int 0) :: (.int 0) :: (.ref (ex 3)) :: (.ref (ex 4)) :: (.int 0) :: (.ref (ex 5)) :: (.int (-1)) :: (.int 0) :: (.int 0) :: (.int 0) :: (.int 0) :: (.int 0) :: (.int 0) :: (.ref (ex 6)) :: (.int 0) :: (.ref (ex 7)) :: (.int 0) :: (.int 0) :: (.int 0) :: (.int 0) :: (.int 0) :: (.ref (ex 8)) :: (.ref (ex 9)) :: (.ref (ex 10)) :: (.ref (ex 11)) :: []))), ((a 1), .inl (T 1, 146, .inl (fun _ => 0))), ((a 2), .inl (T 1, 2187, .inl (fun _ => 0))), ((a 3), .inl (T 2, 36, .inr (.inl (fun _ => 0))))] := hD
  have hl := lv_entry ([.ref (a 0)]) (n := 2) (Nat.le_of_ble_eq_true rfl)
  rw [lg_entry_eq]
  generalize (lg_sl ([.ref (a 0)]) ++ List.replicate (2 - (lg_sl ([.ref (a 0)])).length) Slot.unset).toArray = ls at hl ⊢
  replace hl : lv_has ls 2 [(0, .ref (a 0))] := hl
  refine lv_aload_n hx hb dX12_town_0 rfl (lv_at hl 0 rfl) ?_
  refine lv_iconst (v := 0) hx hb dX12_town_1 (by decide) ?_
  refine va_put (D := D) (ci := 12) (v := .int 0) (ty := .int) (C := RX12) (T := TX12) (N := 44) hx hb htg inX12 tyX12 tyX12_ok nmX12 hown hK.1 hP hD hS 0 rfl rfl 0 (by decide) (htg _ kw_1407) (fun _ h9 => h9) rfl (by decide +kernel) rfl rfl (Nat.le_of_ble_eq_true rfl) dX12_town_2 (fun H locs hP hD hS => ?_)
  replace hP : va_P D vwCl [((a 0), .inr (12, ((.int 0) :: (.ref (ex 0)) :: (.int 0) :: (.int 0) :: (.int 0) :: (.int 0) :: (.ref (a 2)) :: (.ref (a 1)) :: (.ref (ex 1)) :: (.ref (a 3)) :: (.ref (ex 2)) :: (.int 0) :: (.int 0) :: (.int 0) :: (.int 0) :: (.int 0) :: (.int 0) :: (.long 0) :: (.int 0) :: (.int 0) :: (.int 0) :: (.ref (ex 3)) :: (.ref (ex 4)) :: (.int 0) :: (.ref (ex 5)) :: (.int (-1)) :: (.int 0) :: (.int 0) :: (.int 0) :: (.int 0) :: (.int 0) :: (.int 0) :: (.ref (ex 6)) :: (.int 0) :: (.ref (ex 7)) :: (.int 0) :: (.int 0) :: (.int 0) :: (.int 0) :: (.int 0) :: (.ref (ex 8)) :: (.ref (ex 9)) :: (.ref (ex 10)) :: (.ref (ex 11)) :: []))), ((a 1), .inl (T 1, 146, .inl (fun _ => 0))), ((a 2), .inl (T 1, 2187, .inl (fun _ => 0))), ((a 3), .inl (T 2, 36, .inr (.inl (fun _ => 0))))] H := hP
  replace hD : va_D A [((a 0), .inr (12, ((.int 0) :: (.ref (ex 0)) :: (.int 0) :: (.int 0) :: (.int 0) :: (.int 0) :: (.ref (a 2)) :: (.ref (a 1)) :: (.ref (ex 1)) :: (.ref (a 3)) :: (.ref (ex 2)) :: (.int 0) :: (.int 0) :: (.int 0) :: (.int 0) :: (.int 0) :: (.int 0) :: (.long 0) :: (.int 0) :: (.int 0) :: (.int 0) :: (.ref (ex 3)) :: (.ref (ex 4)) :: (.int 0) :: (.ref (ex 5)) :: (.int (-1)) :: (.int 0) :: (.int 0) :: (.int 0) :: (.int 0) :: (.int 0) :: (.int 0) :: (.ref (ex 6)) :: (.int 0) :: (.ref (ex 7)) :: (.int 0) :: (.int 0) :: (.int 0) :: (.int 0) :: (.int 0) :: (.ref (ex 8)) :: (.ref (ex 9)) :: (.ref (ex 10)) :: (.ref (ex 11)) :: []))), ((a 1), .inl (T 1, 146, .inl (fun _ => 0))), ((a 2), .inl (T 1, 2187, .inl (fun _ => 0))), ((a 3), .inl (T 2, 36, .inr (.inl (fun _ => 0))))] := hD
  refine lv_aload_n hx hb dX12_town_5 rfl (lv_at hl 0 rfl) ?_
  refine lv_sipush (v := 900) hx hb dX12_town_6 (by decide) ?_
  have hPc := hP.sub (ws' := (pre_X12_taken T (xa [(a 0)]) (xa [(ex 0), (a 2), (a 1), (ex 1), (a 3), (ex 2), (ex 3), (ex 4), (ex 5), (ex 6), (ex 7), (ex 8), (ex 9), (ex 10), (ex 11)]) (xf []) (xh []) (xv []))) [0] rfl
  have hDc := hD.sub (ws' := (pre_X12_taken T (xa [(a 0)]) (xa [(ex 0), (a 2), (a 1), (ex 1), (a 3), (ex 2), (ex 3), (ex 4), (ex 5), (ex 6), (ex 7), (ex 8), (ex 9), (ex 10), (ex 11)]) (xf []) (xh []) (xv []))) [0] (by decide) rfl
  have hFc := va_free (wc := (pre_X12_taken T (xa [(a 0)]) (xa [(ex 0), (a 2), (a 1), (ex 1), (a 3), (ex 2), (ex 3), (ex 4), (ex 5), (ex 6), (ex 7), (ex 8), (ex 9), (ex 10), (ex 11)]) (xf []) (xh []) (xv []))) hD hS hA [0] rfl
  refine va_callv (va_runV (As := [.int 900]) (rest := []) ⟨hx, hb, hml, hown, htg⟩ (c_X12_taken l D T (xa [(a 0)]) (xa [(ex 0), (a 2), (a 1), (ex 1), (a 3), (ex 2), (ex 3), (ex 4), (ex 5), (ex 6), (ex 7), (ex 8), (ex 9), (ex 10), (ex 11)]) (xf []) (xh []) (xv []) H.size) ⟨callB_of 1 htg (xg_ok kw_1548) rfl rfl rfl (htg _ kw_17) (htg _ kw_1545) (by decide +kernel) ⟨by rw [hR]; exact Nat.le_of_ble_eq_true rfl, by rw [hR]; exact Nat.le_of_ble_eq_true rfl⟩, htg _ kw_1547, htg _ ks_115⟩ (xpreV hK hPc hDc (va_recv hK.1 hPc (ci := 12) (q0 := 0) rfl rfl)) rfl rfl hl.1 rfl (lv_room (Nat.le_of_ble_eq_true rfl)) dX12_town_9 ⟨by rw [hR]; exact Nat.le_of_ble_eq_true rfl, by rw [hR]; exact Nat.le_of_ble_eq_true rfl⟩) hS (fun q _ h => hFc q h) hFc (fun u t H1 locs ht hvm hw hB hz1 hk1 hS => ?_)
  obtain ⟨bk, fik, flk, vik, hP1, hD1, hGk⟩ := hB
  rw [ht] at hP1
  obtain ⟨hP, hD⟩ := va_join (wr := [((a 1), .inl (T 1, 146, .inl (fun _ => 0))), ((a 2), .inl (T 1, 2187, .inl (fun _ => 0))), ((a 3), .inl (T 2, 36, .inr (.inl (fun _ => 0))))]) (w1 := [((a 0), .inr (12, ((.int 0) :: (.ref (ex 0)) :: (.int 0) :: (.int 0) :: (.int 0) :: (.int 900) :: (.ref (a 2)) :: (.ref (a 1)) :: (.ref (ex 1)) :: (.ref (a 3)) :: (.ref (ex 2)) :: (.int 0) :: (.int 0) :: (.int 0) :: (.int 0) :: (.int 0) :: (.int 0) :: (.long 0) :: (.int 0) :: (.int 0) :: (.int 0) :: (.ref (ex 3)) :: (.ref (ex 4)) :: (.int 0) :: (.ref (ex 5)) :: (.int (-1)) :: (.int 0) :: (.int 0) :: (.int 0) :: (.int 0) :: (.int 0) :: (.int 0) :: (.ref (ex 6)) :: (.int 0) :: (.ref (ex 7)) :: (.int 0) :: (.int 0) :: (.int 0) :: (.int 0) :: (.int 0) :: (.ref (ex 8)) :: (.ref (ex 9)) :: (.ref (ex 10)) :: (.ref (ex 11)) :: [])))]) hP hD [0] [1, 2, 3] rfl rfl (by decide) (by decide) hk1 hFc hP1 hD1
  clear hPc hDc hFc hP1 hD1 hk1 hz1 hvm ht hw
  generalize H1 = H at hP hS ⊢
  replace hP : va_P D vwCl [((a 1), .inl (T 1, 146, .inl (fun _ => 0))), ((a 2), .inl (T 1, 2187, .inl (fun _ => 0))), ((a 3), .inl (T 2, 36, .inr (.inl (fun _ => 0)))), ((a 0), .inr (12, ((.int 0) :: (.ref (ex 0)) :: (.int 0) :: (.int 0) :: (.int 0) :: (.int 900) :: (.ref (a 2)) :: (.ref (a 1)) :: (.ref (ex 1)) :: (.ref (a 3)) :: (.ref (ex 2)) :: (.int 0) :: (.int 0) :: (.int 0) :: (.int 0) :: (.int 0) :: (.int 0) :: (.long 0) :: (.int 0) :: (.int 0) :: (.int 0) :: (.ref (ex 3)) :: (.ref (ex 4)) :: (.int 0) :: (.ref (ex 5)) :: (.int (-1)) :: (.int 0) :: (.int 0) :: (.int 0) :: (.int 0) :: (.int 0) :: (.int 0) :: (.ref (ex 6)) :: (.int 0) :: (.ref (ex 7)) :: (.int 0) :: (.int 0) :: (.int 0) :: (.int 0) :: (.int 0) :: (.ref (ex 8)) :: (.ref (ex 9)) :: (.ref (ex 10)) :: (.ref (ex 11)) :: [])))] H := hP
  replace hD : va_D A [((a 1), .inl (T 1, 146, .inl (fun _ => 0))), ((a 2), .inl (T 1, 2187, .inl (fun _ => 0))), ((a 3), .inl (T 2, 36, .inr (.inl (fun _ => 0)))), ((a 0), .inr (12, ((.int 0) :: (.ref (ex 0)) :: (.int 0) :: (.int 0) :: (.int 0) :: (.int 900) :: (.ref (a 2)) :: (.ref (a 1)) :: (.ref (ex 1)) :: (.ref (a 3)) :: (.ref (ex 2)) :: (.int 0) :: (.int 0) :: (.int 0) :: (.int 0) :: (.int 0) :: (.int 0) :: (.long 0) :: (.int 0) :: (.int 0) :: (.int 0) :: (.ref (ex 3)) :: (.ref (ex 4)) :: (.int 0) :: (.ref (ex 5)) :: (.int (-1)) :: (.int 0) :: (.int 0) :: (.int 0) :: (.int 0) :: (.int 0) :: (.int 0) :: (.ref (ex 6)) :: (.int 0) :: (.ref (ex 7)) :: (.int 0) :: (.int 0) :: (.int 0) :: (.int 0) :: (.int 0) :: (.ref (ex 8)) :: (.ref (ex 9)) :: (.ref (ex 10)) :: (.ref (ex 11)) :: [])))] := hD
  refine lv_aload_n hx hb dX12_town_12 rfl (lv_at hl 0 rfl) ?_
  refine lv_iconst (v := 0) hx hb dX12_town_13 (by decide) ?_
  refine va_put (D := D) (ci := 12) (v := .int 0) (ty := .int) (C := RX12) (T := TX12) (N := 44) hx hb htg inX12 tyX12 tyX12_ok nmX12 hown hK.1 hP hD hS 3 rfl rfl 15 (by decide) (htg _ kw_1422) (fun _ h9 => h9) rfl (by decide +kernel) rfl rfl (Nat.le_of_ble_eq_true rfl) dX12_town_14 (fun H locs hP hD hS => ?_)
  replace hP : va_P D vwCl [((a 1), .inl (T 1, 146, .inl (fun _ => 0))), ((a 2), .inl (T 1, 2187, .inl (fun _ => 0))), ((a 3), .inl (T 2, 36, .inr (.inl (fun _ => 0)))), ((a 0), .inr (12, ((.int 0) :: (.ref (ex 0)) :: (.int 0) :: (.int 0) :: (.int 0) :: (.int 900) :: (.ref (a 2)) :: (.ref (a 1)) :: (.ref (ex 1)) :: (.ref (a 3)) :: (.ref (ex 2)) :: (.int 0) :: (.int 0) :: (.int 0) :: (.int 0) :: (.int 0) :: (.int 0) :: (.long 0) :: (.int 0) :: (.int 0) :: (.int 0) :: (.ref (ex 3)) :: (.ref (ex 4)) :: (.int 0) :: (.ref (ex 5)) :: (.int (-1)) :: (.int 0) :: (.int 0) :: (.int 0) :: (.int 0) :: (.int 0) :: (.int 0) :: (.ref (ex 6)) :: (.int 0) :: (.ref (ex 7)) :: (.int 0) :: (.int 0) :: (.int 0) :: (.int 0) :: (.int 0) :: (.ref (ex 8)) :: (.ref (ex 9)) :: (.ref (ex 10)) :: (.ref (ex 11)) :: [])))] H := hP
  replace hD : va_D A [((a 1), .inl (T 1, 146, .inl (fun _ => 0))), ((a 2), .inl (T 1, 2187, .inl (fun _ => 0))), ((a 3), .inl (T 2, 36, .inr (.inl (fun _ => 0)))), ((a 0), .inr (12, ((.int 0) :: (.ref (ex 0)) :: (.int 0) :: (.int 0) :: (.int 0) :: (.int 900) :: (.ref (a 2)) :: (.ref (a 1)) :: (.ref (ex 1)) :: (.ref (a 3)) :: (.ref (ex 2)) :: (.int 0) :: (.int 0) :: (.int 0) :: (.int 0) :: (.int 0) :: (.int 0) :: (.long 0) :: (.int 0) :: (.int 0) :: (.int 0) :: (.ref (ex 3)) :: (.ref (ex 4)) :: (.int 0) :: (.ref (ex 5)) :: (.int (-1)) :: (.int 0) :: (.int 0) :: (.int 0) :: (.int 0) :: (.int 0) :: (.int 0) :: (.ref (ex 6)) :: (.int 0) :: (.ref (ex 7)) :: (.int 0) :: (.int 0) :: (.int 0) :: (.int 0) :: (.int 0) :: (.ref (ex 8)) :: (.ref (ex 9)) :: (.ref (ex 10)) :: (.ref (ex 11)) :: [])))] := hD
  refine lv_aload_n hx hb dX12_town_17 rfl (lv_at hl 0 rfl) ?_
  refine lv_iconst (v := 0) hx hb dX12_town_18 (by decide) ?_
  refine va_put (D := D) (ci := 12) (v := .int 0) (ty := .int) (C := RX12) (T := TX12) (N := 44) hx hb htg inX12 tyX12 tyX12_ok nmX12 hown hK.1 hP hD hS 3 rfl rfl 19 (by decide) (htg _ kw_1426) (fun _ h9 => h9) rfl (by decide +kernel) rfl rfl (Nat.le_of_ble_eq_true rfl) dX12_town_19 (fun H locs hP hD hS => ?_)
  replace hP : va_P D vwCl [((a 1), .inl (T 1, 146, .inl (fun _ => 0))), ((a 2), .inl (T 1, 2187, .inl (fun _ => 0))), ((a 3), .inl (T 2, 36, .inr (.inl (fun _ => 0)))), ((a 0), .inr (12, ((.int 0) :: (.ref (ex 0)) :: (.int 0) :: (.int 0) :: (.int 0) :: (.int 900) :: (.ref (a 2)) :: (.ref (a 1)) :: (.ref (ex 1)) :: (.ref (a 3)) :: (.ref (ex 2)) :: (.int 0) :: (.int 0) :: (.int 0) :: (.int 0) :: (.int 0) :: (.int 0) :: (.long 0) :: (.int 0) :: (.int 0) :: (.int 0) :: (.ref (ex 3)) :: (.ref (ex 4)) :: (.int 0) :: (.ref (ex 5)) :: (.int (-1)) :: (.int 0) :: (.int 0) :: (.int 0) :: (.int 0) :: (.int 0) :: (.int 0) :: (.ref (ex 6)) :: (.int 0) :: (.ref (ex 7)) :: (.int 0) :: (.int 0) :: (.int 0) :: (.int 0) :: (.int 0) :: (.ref (ex 8)) :: (.ref (ex 9)) :: (.ref (ex 10)) :: (.ref (ex 11)) :: [])))] H := hP
  replace hD : va_D A [((a 1), .inl (T 1, 146, .inl (fun _ => 0))), ((a 2), .inl (T 1, 2187, .inl (fun _ => 0))), ((a 3), .inl (T 2, 36, .inr (.inl (fun _ => 0)))), ((a 0), .inr (12, ((.int 0) :: (.ref (ex 0)) :: (.int 0) :: (.int 0) :: (.int 0) :: (.int 900) :: (.ref (a 2)) :: (.ref (a 1)) :: (.ref (ex 1)) :: (.ref (a 3)) :: (.ref (ex 2)) :: (.int 0) :: (.int 0) :: (.int 0) :: (.int 0) :: (.int 0) :: (.int 0) :: (.long 0) :: (.int 0) :: (.int 0) :: (.int 0) :: (.ref (ex 3)) :: (.ref (ex 4)) :: (.int 0) :: (.ref (ex 5)) :: (.int (-1)) :: (.int 0) :: (.int 0) :: (.int 0) :: (.int 0) :: (.int 0) :: (.int 0) :: (.ref (ex 6)) :: (.int 0) :: (.ref (ex 7)) :: (.int 0) :: (.int 0) :: (.int 0) :: (.int 0) :: (.int 0) :: (.ref (ex 8)) :: (.ref (ex 9)) :: (.ref (ex 10)) :: (.ref (ex 11)) :: [])))] := hD
  refine lv_aload_n hx hb dX12_town_22 rfl (lv_at hl 0 rfl) ?_
  refine lv_iconst (v := 0) hx hb dX12_town_23 (by decide) ?_
  refine va_put (D := D) (ci := 12) (v := .int 0) (ty := .int) (C := RX12) (T := TX12) (N := 44) hx hb htg inX12 tyX12 tyX12_ok nmX12 hown hK.1 hP hD hS 3 rfl rfl 20 (by decide) (htg _ kw_1427) (fun _ h9 => h9) rfl (by decide +kernel) rfl rfl (Nat.le_of_ble_eq_true rfl) dX12_town_24 (fun H locs hP hD hS => ?_)
  replace hP : va_P D vwCl [((a 1), .inl (T 1, 146, .inl (fun _ => 0))), ((a 2), .inl (T 1, 2187, .inl (fun _ => 0))), ((a 3), .inl (T 2, 36, .inr (.inl (fun _ => 0)))), ((a 0), .inr (12, ((.int 0) :: (.ref (ex 0)) :: (.int 0) :: (.int 0) :: (.int 0) :: (.int 900) :: (.ref (a 2)) :: (.ref (a 1)) :: (.ref (ex 1)) :: (.ref (a 3)) :: (.ref (ex 2)) :: (.int 0) :: (.int 0) :: (.int 0) :: (.int 0) :: (.int 0) :: (.int 0) :: (.long 0) :: (.int 0) :: (.int 0) :: (.int 0) :: (.ref (ex 3)) :: (.ref (ex 4)) :: (.int 0) :: (.ref (ex 5)) :: (.int (-1)) :: (.int 0) :: (.int 0) :: (.int 0) :: (.int 0) :: (.int 0) :: (.int 0) :: (.ref (ex 6)) :: (.int 0) :: (.ref (ex 7)) :: (.int 0) :: (.int 0) :: (.int 0) :: (.int 0) :: (.int 0) :: (.ref (ex 8)) :: (.ref (ex 9)) :: (.ref (ex 10)) :: (.ref (ex 11)) :: [])))] H := hP
  replace hD : va_D A [((a 1), .inl (T 1, 146, .inl (fun _ => 0))), ((a 2), .inl (T 1, 2187, .inl (fun _ => 0))), ((a 3), .inl (T 2, 36, .inr (.inl (fun _ => 0)))), ((a 0), .inr (12, ((.int 0) :: (.ref (ex 0)) :: (.int 0) :: (.int 0) :: (.int 0) :: (.int 900) :: (.ref (a 2)) :: (.ref (a 1)) :: (.ref (ex 1)) :: (.ref (a 3)) :: (.ref (ex 2)) :: (.int 0) :: (.int 0) :: (.int 0) :: (.int 0) :: (.int 0) :: (.int 0) :: (.long 0) :: (.int 0) :: (.int 0) :: (.int 0) :: (.ref (ex 3)) :: (.ref (ex 4)) :: (.int 0) :: (.ref (ex 5)) :: (.int (-1)) :: (.int 0) :: (.int 0) :: (.int 0) :: (.int 0) :: (.int 0) :: (.int 0) :: (.ref (ex 6)) :: (.int 0) :: (.ref (ex 7)) :: (.int 0) :: (.int 0) :: (.int 0) :: (.int 0) :: (.int 0) :: (.ref (ex 8)) :: (.ref (ex 9)) :: (.ref (ex 10)) :: (.ref (ex 11)) :: [])))] := hD
  refine lv_iconst (v := 0) hx hb dX12_town_27 (by decide) ?_
  refine lv_istore_n (lv' := [(1, .int 0), (0, .ref (a 0))]) hx hb dX12_town_28 rfl hl (by decide) rfl (fun ls hl => ?_)
  have lp : ∀ (n i : Nat) (H : Heap) (locs : List Loc) (ls : Array Slot), i + n = 146 → va_P D vwCl [((a 1), .inl (T 1, 146, .inl (fun _ => 0))), ((a 2), .inl (T 1, 2187, .inl (fun _ => 0))), ((a 3), .inl (T 2, 36, .inr (.inl (fun _ => 0)))), ((a 0), .inr (12, ((.int 0) :: (.ref (ex 0)) :: (.int 0) :: (.int 0) :: (.int 0) :: (.int 900) :: (.ref (a 2)) :: (.ref (a 1)) :: (.ref (ex 1)) :: (.ref (a 3)) :: (.ref (ex 2)) :: (.int 0) :: (.int 0) :: (.int 0) :: (.int 0) :: (.int 0) :: (.int 0) :: (.long 0) :: (.int 0) :: (.int 0) :: (.int 0) :: (.ref (ex 3)) :: (.ref (ex 4)) :: (.int 0) :: (.ref (ex 5)) :: (.int (-1)) :: (.int 0) :: (.int 0) :: (.int 0) :: (.int 0) :: (.int 0) :: (.int 0) :: (.ref (ex 6)) :: (.int 0) :: (.ref (ex 7)) :: (.int 0) :: (.int 0) :: (.int 0) :: (.int 0) :: (.int 0) :: (.ref (ex 8)) :: (.ref (ex 9)) :: (.ref (ex 10)) :: (.ref (ex 11)) :: [])))] H → va_D A [((a 1), .inl (T 1, 146, .inl (fun _ => 0))), ((a 2), .inl (T 1, 2187, .inl (fun _ => 0))), ((a 3), .inl (T 2, 36, .inr (.inl (fun _ => 0)))), ((a 0), .inr (12, ((.int 0) :: (.ref (ex 0)) :: (.int 0) :: (.int 0) :: (.int 0) :: (.int 900) :: (.ref (a 2)) :: (.ref (a 1)) :: (.ref (ex 1)) :: (.ref (a 3)) :: (.ref (ex 2)) :: (.int 0) :: (.int 0) :: (.int 0) :: (.int 0) :: (.int 0) :: (.int 0) :: (.long 0) :: (.int 0) :: (.int 0) :: (.int 0) :: (.ref (ex 3)) :: (.ref (ex 4)) :: (.int 0) :: (.ref (ex 5)) :: (.int (-1)) :: (.int 0) :: (.int 0) :: (.int 0) :: (.int 0) :: (.int 0) :: (.int 0) :: (.ref (ex 6)) :: (.int 0) :: (.ref (ex 7)) :: (.int 0) :: (.int 0) :: (.int 0) :: (.int 0) :: (.int 0) :: (.ref (ex 8)) :: (.ref (ex 9)) :: (.ref (ex 10)) :: (.ref (ex 11)) :: [])))] → va_S A s.heap H locs → lv_has ls 2 [(1, .int (nI i)), (0, .ref (a 0))] → W p l e R s m ([.ref (a 0)] : List Value).toArray below meth c H locs 0 0 Q (F0 m 29 ls []) := by
    intro n
    induction n with
    | zero =>
      intro i H locs ls hin hP hD hS hl
      obtain rfl : i = 146 := by omega
      replace hl : lv_has ls 2 [(1, .int 146), (0, .ref (a 0))] := hl
      refine lv_iload_n hx hb dX12_town_29 rfl (lv_at hl 0 rfl) ?_
      refine lv_sipush (v := 146) hx hb dX12_town_30 (by decide) ?_
      refine lv_icmp_ge (tgt := 49) hx hb dX12_town_33 (by decide) (fun _ => ?_) (fun c => absurd (by decide) c)
      refine lv_aload_n hx hb dX12_town_49 rfl (lv_at hl 1 rfl) ?_
      have hPc := hP.sub (ws' := (pre_X12_next T (xa [(a 0)]) (xa [(ex 0), (a 2), (a 1), (ex 1), (a 3), (ex 2), (ex 3), (ex 4), (ex 5), (ex 6), (ex 7), (ex 8), (ex 9), (ex 10), (ex 11)]) (xf []) (xh []) (xv []))) [3] rfl
      have hDc := hD.sub (ws' := (pre_X12_next T (xa [(a 0)]) (xa [(ex 0), (a 2), (a 1), (ex 1), (a 3), (ex 2), (ex 3), (ex 4), (ex 5), (ex 6), (ex 7), (ex 8), (ex 9), (ex 10), (ex 11)]) (xf []) (xh []) (xv []))) [3] (by decide) rfl
      have hFc := va_free (wc := (pre_X12_next T (xa [(a 0)]) (xa [(ex 0), (a 2), (a 1), (ex 1), (a 3), (ex 2), (ex 3), (ex 4), (ex 5), (ex 6), (ex 7), (ex 8), (ex 9), (ex 10), (ex 11)]) (xf []) (xh []) (xv []))) hD hS hA [3] rfl
      refine va_callv (va_runV (As := []) (rest := []) ⟨hx, hb, hml, hown, htg⟩ (c_X12_next l D T (xa [(a 0)]) (xa [(ex 0), (a 2), (a 1), (ex 1), (a 3), (ex 2), (ex 3), (ex 4), (ex 5), (ex 6), (ex 7), (ex 8), (ex 9), (ex 10), (ex 11)]) (xf []) (xh []) (xv []) H.size) ⟨callB_of 0 htg (xg_ok kw_1552) rfl rfl rfl (htg _ kw_17) (htg _ kw_1549) (by decide +kernel) ⟨by rw [hR]; exact Nat.le_of_ble_eq_true rfl, by rw [hR]; exact Nat.le_of_ble_eq_true rfl⟩, htg _ kw_1551, htg _ ks_116⟩ (xpreV hK hPc hDc (va_recv hK.1 hPc (ci := 12) (q0 := 0) rfl rfl)) rfl rfl hl.1 rfl (lv_room (Nat.le_of_ble_eq_true rfl)) dX12_town_50 ⟨by rw [hR]; exact Nat.le_of_ble_eq_true rfl, by rw [hR]; exact Nat.le_of_ble_eq_true rfl⟩) hS (fun q _ h => hFc q h) hFc (fun u t H1 locs ht hvm hw hB hz1 hk1 hS => ?_)
      obtain ⟨bk_1, fik_1, flk_1, vik_1, hP1, hD1, hGk_1⟩ := hB
      rw [ht] at hP1
      obtain ⟨hP, hD⟩ := va_join (wr := [((a 1), .inl (T 1, 146, .inl (fun _ => 0))), ((a 2), .inl (T 1, 2187, .inl (fun _ => 0))), ((a 3), .inl (T 2, 36, .inr (.inl (fun _ => 0))))]) (w1 := [((a 0), .inr (12, ((.int 0) :: (.ref (ex 0)) :: (.int 0) :: (.int 0) :: (.int 0) :: (.int 900) :: (.ref (a 2)) :: (.ref (a 1)) :: (.ref (ex 1)) :: (.ref (a 3)) :: (.ref (ex 2)) :: (.int 0) :: (.int 0) :: (.int 0) :: (.int 0) :: (.int 0) :: (.int 0) :: (.long 0) :: (.int 0) :: (.int 0) :: (.int 0) :: (.ref (ex 3)) :: (.ref (ex 4)) :: (.int 0) :: (.ref (ex 5)) :: (.int (-1)) :: (.int 0) :: (.int 0) :: (.int 0) :: (.int 0) :: (.int 0) :: (.int 0) :: (.ref (ex 6)) :: (.int 0) :: (.ref (ex 7)) :: (.int 0) :: (.int 0) :: (.int 0) :: (.int 0) :: (.int 0) :: (.ref (ex 8)) :: (.ref (ex 9)) :: (.ref (ex 10)) :: (.ref (ex 11)) :: [])))]) hP hD [3] [0, 1, 2] rfl rfl (by decide) (by decide) hk1 hFc hP1 hD1
      clear hPc hDc hFc hP1 hD1 hk1 hz1 hvm ht hw
      generalize H1 = H at hP hS ⊢
      replace hP : va_P D vwCl [((a 1), .inl (T 1, 146, .inl (fun _ => 0))), ((a 2), .inl (T 1, 2187, .inl (fun _ => 0))), ((a 3), .inl (T 2, 36, .inr (.inl (fun _ => 0)))), ((a 0), .inr (12, ((.int 0) :: (.ref (ex 0)) :: (.int 0) :: (.int 0) :: (.int 0) :: (.int 900) :: (.ref (a 2)) :: (.ref (a 1)) :: (.ref (ex 1)) :: (.ref (a 3)) :: (.ref (ex 2)) :: (.int 0) :: (.int 0) :: (.int 0) :: (.int 0) :: (.int 0) :: (.int 0) :: (.long 0) :: (.int 0) :: (.int 0) :: (.int 0) :: (.ref (ex 3)) :: (.ref (ex 4)) :: (.int 0) :: (.ref (ex 5)) :: (.int (-1)) :: (.int 0) :: (.int 0) :: (.int 0) :: (.int 0) :: (.int 0) :: (.int 0) :: (.ref (ex 6)) :: (.int 0) :: (.ref (ex 7)) :: (.int 0) :: (.int 0) :: (.int 0) :: (.int 0) :: (.int 0) :: (.ref (ex 8)) :: (.ref (ex 9)) :: (.ref (ex 10)) :: (.ref (ex 11)) :: [])))] H := hP
      replace hD : va_D A [((a 1), .inl (T 1, 146, .inl (fun _ => 0))), ((a 2), .inl (T 1, 2187, .inl (fun _ => 0))), ((a 3), .inl (T 2, 36, .inr (.inl (fun _ => 0)))), ((a 0), .inr (12, ((.int 0) :: (.ref (ex 0)) :: (.int 0) :: (.int 0) :: (.int 0) :: (.int 900) :: (.ref (a 2)) :: (.ref (a 1)) :: (.ref (ex 1)) :: (.ref (a 3)) :: (.ref (ex 2)) :: (.int 0) :: (.int 0) :: (.int 0) :: (.int 0) :: (.int 0) :: (.int 0) :: (.long 0) :: (.int 0) :: (.int 0) :: (.int 0) :: (.ref (ex 3)) :: (.ref (ex 4)) :: (.int 0) :: (.ref (ex 5)) :: (.int (-1)) :: (.int 0) :: (.int 0) :: (.int 0) :: (.int 0) :: (.int 0) :: (.int 0) :: (.ref (ex 6)) :: (.int 0) :: (.ref (ex 7)) :: (.int 0) :: (.int 0) :: (.int 0) :: (.int 0) :: (.int 0) :: (.ref (ex 8)) :: (.ref (ex 9)) :: (.ref (ex 10)) :: (.ref (ex 11)) :: [])))] := hD
      refine lv_aload_n hx hb dX12_town_53 rfl (lv_at hl 1 rfl) ?_
      refine va_get (D := D) (ci := 12) (v := .int 0) (C := RX12) (T := TX12) (N := 44) hx hb htg inX12 hown hK.1 hP 3 rfl rfl 11 (by decide) (htg _ kw_1418) (fun _ h9 => h9) rfl dX12_town_54 ?_
      refine lv_if_eq (tgt := 96) hx hb dX12_town_57 (by decide) (fun _ => ?_) (fun c => absurd (by decide) c)
      refine lv_iconst (v := 0) hx hb dX12_town_96 (by decide) ?_
      refine lv_istore_n (lv' := [(1, .int 0), (0, .ref (a 0))]) hx hb dX12_town_97 rfl hl (by decide) rfl (fun ls hl => ?_)
      have lp_1 : ∀ (n i_1 : Nat) (H : Heap) (locs : List Loc) (ls : Array Slot), i_1 + n = 2187 → va_P D vwCl [((a 1), .inl (T 1, 146, .inl (fun _ => 0))), ((a 2), .inl (T 1, 2187, .inl (fun _ => 0))), ((a 3), .inl (T 2, 36, .inr (.inl (fun _ => 0)))), ((a 0), .inr (12, ((.int 0) :: (.ref (ex 0)) :: (.int 0) :: (.int 0) :: (.int 0) :: (.int 900) :: (.ref (a 2)) :: (.ref (a 1)) :: (.ref (ex 1)) :: (.ref (a 3)) :: (.ref (ex 2)) :: (.int 0) :: (.int 0) :: (.int 0) :: (.int 0) :: (.int 0) :: (.int 0) :: (.long 0) :: (.int 0) :: (.int 0) :: (.int 0) :: (.ref (ex 3)) :: (.ref (ex 4)) :: (.int 0) :: (.ref (ex 5)) :: (.int (-1)) :: (.int 0) :: (.int 0) :: (.int 0) :: (.int 0) :: (.int 0) :: (.int 0) :: (.ref (ex 6)) :: (.int 0) :: (.ref (ex 7)) :: (.int 0) :: (.int 0) :: (.int 0) :: (.int 0) :: (.int 0) :: (.ref (ex 8)) :: (.ref (ex 9)) :: (.ref (ex 10)) :: (.ref (ex 11)) :: [])))] H → va_D A [((a 1), .inl (T 1, 146, .inl (fun _ => 0))), ((a 2), .inl (T 1, 2187, .inl (fun _ => 0))), ((a 3), .inl (T 2, 36, .inr (.inl (fun _ => 0)))), ((a 0), .inr (12, ((.int 0) :: (.ref (ex 0)) :: (.int 0) :: (.int 0) :: (.int 0) :: (.int 900) :: (.ref (a 2)) :: (.ref (a 1)) :: (.ref (ex 1)) :: (.ref (a 3)) :: (.ref (ex 2)) :: (.int 0) :: (.int 0) :: (.int 0) :: (.int 0) :: (.int 0) :: (.int 0) :: (.long 0) :: (.int 0) :: (.int 0) :: (.int 0) :: (.ref (ex 3)) :: (.ref (ex 4)) :: (.int 0) :: (.ref (ex 5)) :: (.int (-1)) :: (.int 0) :: (.int 0) :: (.int 0) :: (.int 0) :: (.int 0) :: (.int 0) :: (.ref (ex 6)) :: (.int 0) :: (.ref (ex 7)) :: (.int 0) :: (.int 0) :: (.int 0) :: (.int 0) :: (.int 0) :: (.ref (ex 8)) :: (.ref (ex 9)) :: (.ref (ex 10)) :: (.ref (ex 11)) :: [])))] → va_S A s.heap H locs → lv_has ls 2 [(1, .int (nI i_1)), (0, .ref (a 0))] → W p l e R s m ([.ref (a 0)] : List Value).toArray below meth c H locs 0 0 Q (F0 m 98 ls []) := by
        intro n
        induction n with
        | zero =>
          intro i_1 H locs ls hin hP hD hS hl
          obtain rfl : i_1 = 2187 := by omega
          replace hl : lv_has ls 2 [(1, .int 2187), (0, .ref (a 0))] := hl
          refine lv_iload_n hx hb dX12_town_98 rfl (lv_at hl 0 rfl) ?_
          refine lv_sipush (v := 2187) hx hb dX12_town_99 (by decide) ?_
          refine lv_icmp_ge (tgt := 134) hx hb dX12_town_102 (by decide) (fun _ => ?_) (fun c => absurd (by decide) c)
          refine lv_iconst (v := 0) hx hb dX12_town_134 (by decide) ?_
          refine lv_istore_n (lv' := [(1, .int 0), (0, .ref (a 0))]) hx hb dX12_town_135 rfl hl (by decide) rfl (fun ls hl => ?_)
          have lp_2 : ∀ (n i_2 : Nat) (H : Heap) (locs : List Loc) (ls : Array Slot), i_2 + n = 18 → va_P D vwCl [((a 1), .inl (T 1, 146, .inl (fun _ => 0))), ((a 2), .inl (T 1, 2187, .inl (fun _ => 0))), ((a 3), .inl (T 2, 36, .inr (.inl (fun _ => 0)))), ((a 0), .inr (12, ((.int 0) :: (.ref (ex 0)) :: (.int 0) :: (.int 0) :: (.int 0) :: (.int 900) :: (.ref (a 2)) :: (.ref (a 1)) :: (.ref (ex 1)) :: (.ref (a 3)) :: (.ref (ex 2)) :: (.int 0) :: (.int 0) :: (.int 0) :: (.int 0) :: (.int 0) :: (.int 0) :: (.long 0) :: (.int 0) :: (.int 0) :: (.int 0) :: (.ref (ex 3)) :: (.ref (ex 4)) :: (.int 0) :: (.ref (ex 5)) :: (.int (-1)) :: (.int 0) :: (.int 0) :: (.int 0) :: (.int 0) :: (.int 0) :: (.int 0) :: (.ref (ex 6)) :: (.int 0) :: (.ref (ex 7)) :: (.int 0) :: (.int 0) :: (.int 0) :: (.int 0) :: (.int 0) :: (.ref (ex 8)) :: (.ref (ex 9)) :: (.ref (ex 10)) :: (.ref (ex 11)) :: [])))] H → va_D A [((a 1), .inl (T 1, 146, .inl (fun _ => 0))), ((a 2), .inl (T 1, 2187, .inl (fun _ => 0))), ((a 3), .inl (T 2, 36, .inr (.inl (fun _ => 0)))), ((a 0), .inr (12, ((.int 0) :: (.ref (ex 0)) :: (.int 0) :: (.int 0) :: (.int 0) :: (.int 900) :: (.ref (a 2)) :: (.ref (a 1)) :: (.ref (ex 1)) :: (.ref (a 3)) :: (.ref (ex 2)) :: (.int 0) :: (.int 0) :: (.int 0) :: (.int 0) :: (.int 0) :: (.int 0) :: (.long 0) :: (.int 0) :: (.int 0) :: (.int 0) :: (.ref (ex 3)) :: (.ref (ex 4)) :: (.int 0) :: (.ref (ex 5)) :: (.int (-1)) :: (.int 0) :: (.int 0) :: (.int 0) :: (.int 0) :: (.int 0) :: (.int 0) :: (.ref (ex 6)) :: (.int 0) :: (.ref (ex 7)) :: (.int 0) :: (.int 0) :: (.int 0) :: (.int 0) :: (.int 0) :: (.ref (ex 8)) :: (.ref (ex 9)) :: (.ref (ex 10)) :: (.ref (ex 11)) :: [])))] → va_S A s.heap H locs → lv_has ls 2 [(1, .int (nI i_2)), (0, .ref (a 0))] → W p l e R s m ([.ref (a 0)] : List Value).toArray below meth c H locs 0 0 Q (F0 m 136 ls []) := by
            intro n
            induction n with
            | zero =>
              intro i_2 H locs ls hin hP hD hS hl
              obtain rfl : i_2 = 18 := by omega
              replace hl : lv_has ls 2 [(1, .int 18), (0, .ref (a 0))] := hl
              refine lv_iload_n hx hb dX12_town_136 rfl (lv_at hl 0 rfl) ?_
              refine lv_bipush (v := 18) hx hb dX12_town_137 (by decide) ?_
              refine lv_icmp_ge (tgt := 163) hx hb dX12_town_139 (by decide) (fun _ => ?_) (fun c => absurd (by decide) c)
              refine lv_iconst (v := 0) hx hb dX12_town_163 (by decide) ?_
              refine lv_istore_n (lv' := [(1, .int 0), (0, .ref (a 0))]) hx hb dX12_town_164 rfl hl (by decide) rfl (fun ls hl => ?_)
              have lp_3 : ∀ (n i_3 : Nat) (H : Heap) (locs : List Loc) (ls : Array Slot), i_3 + n = 9 → va_P D vwCl [((a 1), .inl (T 1, 146, .inl (fun _ => 0))), ((a 2), .inl (T 1, 2187, .inl (fun _ => 0))), ((a 3), .inl (T 2, 36, .inr (.inl (fun _ => 0)))), ((a 0), .inr (12, ((.int 0) :: (.ref (ex 0)) :: (.int 0) :: (.int 0) :: (.int 0) :: (.int 900) :: (.ref (a 2)) :: (.ref (a 1)) :: (.ref (ex 1)) :: (.ref (a 3)) :: (.ref (ex 2)) :: (.int 0) :: (.int 0) :: (.int 0) :: (.int 0) :: (.int 0) :: (.int 0) :: (.long 0) :: (.int 0) :: (.int 0) :: (.int 0) :: (.ref (ex 3)) :: (.ref (ex 4)) :: (.int 0) :: (.ref (ex 5)) :: (.int (-1)) :: (.int 0) :: (.int 0) :: (.int 0) :: (.int 0) :: (.int 0) :: (.int 0) :: (.ref (ex 6)) :: (.int 0) :: (.ref (ex 7)) :: (.int 0) :: (.int 0) :: (.int 0) :: (.int 0) :: (.int 0) :: (.ref (ex 8)) :: (.ref (ex 9)) :: (.ref (ex 10)) :: (.ref (ex 11)) :: [])))] H → va_D A [((a 1), .inl (T 1, 146, .inl (fun _ => 0))), ((a 2), .inl (T 1, 2187, .inl (fun _ => 0))), ((a 3), .inl (T 2, 36, .inr (.inl (fun _ => 0)))), ((a 0), .inr (12, ((.int 0) :: (.ref (ex 0)) :: (.int 0) :: (.int 0) :: (.int 0) :: (.int 900) :: (.ref (a 2)) :: (.ref (a 1)) :: (.ref (ex 1)) :: (.ref (a 3)) :: (.ref (ex 2)) :: (.int 0) :: (.int 0) :: (.int 0) :: (.int 0) :: (.int 0) :: (.int 0) :: (.long 0) :: (.int 0) :: (.int 0) :: (.int 0) :: (.ref (ex 3)) :: (.ref (ex 4)) :: (.int 0) :: (.ref (ex 5)) :: (.int (-1)) :: (.int 0) :: (.int 0) :: (.int 0) :: (.int 0) :: (.int 0) :: (.int 0) :: (.ref (ex 6)) :: (.int 0) :: (.ref (ex 7)) :: (.int 0) :: (.int 0) :: (.int 0) :: (.int 0) :: (.int 0) :: (.ref (ex 8)) :: (.ref (ex 9)) :: (.ref (ex 10)) :: (.ref (ex 11)) :: [])))] → va_S A s.heap H locs → lv_has ls 2 [(1, .int (nI i_3)), (0, .ref (a 0))] → W p l e R s m ([.ref (a 0)] : List Value).toArray below meth c H locs 0 0 Q (F0 m 165 ls []) := by
                intro n
                induction n with
                | zero =>
                  intro i_3 H locs ls hin hP hD hS hl
                  obtain rfl : i_3 = 9 := by omega
                  replace hl : lv_has ls 2 [(1, .int 9), (0, .ref (a 0))] := hl
                  refine lv_iload_n hx hb dX12_town_165 rfl (lv_at hl 0 rfl) ?_
                  refine lv_bipush (v := 9) hx hb dX12_town_166 (by decide) ?_
                  refine lv_icmp_ge (tgt := 234) hx hb dX12_town_168 (by decide) (fun _ => ?_) (fun c => absurd (by decide) c)
                  refine lv_iconst (v := 0) hx hb dX12_town_234 (by decide) ?_
                  refine lv_istore_n (lv' := [(1, .int 0), (0, .ref (a 0))]) hx hb dX12_town_235 rfl hl (by decide) rfl (fun ls hl => ?_)
                  refine lv_iload_n hx hb dX12_town_236 rfl (lv_at hl 0 rfl) ?_
                  refine lv_aload_n hx hb dX12_town_237 rfl (lv_at hl 1 rfl) ?_
                  refine va_get (D := D) (ci := 12) (v := .ref (a 2)) (C := RX12) (T := TX12) (N := 44) hx hb htg inX12 hown hK.1 hP 3 rfl rfl 6 (by decide) (htg _ kw_1413) (fun _ h9 => h9) rfl dX12_town_238 ?_
                  refine lv_iconst (v := 1) hx hb dX12_town_241 (by decide) ?_
                  refine va_iald hx hb hK.1 hP 1 1 rfl rfl (vp_in_nI (n := 1) (by decide) (by decide)) dX12_town_242 ?_
                  refine xz_i 0 rfl ?_
                  refine lv_icmp_ge (tgt := 270) hx hb dX12_town_243 (by decide) (fun _ => ?_) (fun c => absurd (by decide) c)
                  refine lv_aload_n hx hb dX12_town_270 rfl (lv_at hl 1 rfl) ?_
                  refine lv_iconst (v := 0) hx hb dX12_town_271 (by decide) ?_
                  refine va_put (D := D) (ci := 12) (v := .int 0) (ty := .int) (C := RX12) (T := TX12) (N := 44) hx hb htg inX12 tyX12 tyX12_ok nmX12 hown hK.1 hP hD hS 3 rfl rfl 23 (by decide) (htg _ kw_1430) (fun _ h9 => h9) rfl (by decide +kernel) rfl rfl (Nat.le_of_ble_eq_true rfl) dX12_town_272 (fun H locs hP hD hS => ?_)
                  replace hP : va_P D vwCl [((a 1), .inl (T 1, 146, .inl (fun _ => 0))), ((a 2), .inl (T 1, 2187, .inl (fun _ => 0))), ((a 3), .inl (T 2, 36, .inr (.inl (fun _ => 0)))), ((a 0), .inr (12, ((.int 0) :: (.ref (ex 0)) :: (.int 0) :: (.int 0) :: (.int 0) :: (.int 900) :: (.ref (a 2)) :: (.ref (a 1)) :: (.ref (ex 1)) :: (.ref (a 3)) :: (.ref (ex 2)) :: (.int 0) :: (.int 0) :: (.int 0) :: (.int 0) :: (.int 0) :: (.int 0) :: (.long 0) :: (.int 0) :: (.int 0) :: (.int 0) :: (.ref (ex 3)) :: (.ref (ex 4)) :: (.int 0) :: (.ref (ex 5)) :: (.int (-1)) :: (.int 0) :: (.int 0) :: (.int 0) :: (.int 0) :: (.int 0) :: (.int 0) :: (.ref (ex 6)) :: (.int 0) :: (.ref (ex 7)) :: (.int 0) :: (.int 0) :: (.int 0) :: (.int 0) :: (.int 0) :: (.ref (ex 8)) :: (.ref (ex 9)) :: (.ref (ex 10)) :: (.ref (ex 11)) :: [])))] H := hP
                  replace hD : va_D A [((a 1), .inl (T 1, 146, .inl (fun _ => 0))), ((a 2), .inl (T 1, 2187, .inl (fun _ => 0))), ((a 3), .inl (T 2, 36, .inr (.inl (fun _ => 0)))), ((a 0), .inr (12, ((.int 0) :: (.ref (ex 0)) :: (.int 0) :: (.int 0) :: (.int 0) :: (.int 900) :: (.ref (a 2)) :: (.ref (a 1)) :: (.ref (ex 1)) :: (.ref (a 3)) :: (.ref (ex 2)) :: (.int 0) :: (.int 0) :: (.int 0) :: (.int 0) :: (.int 0) :: (.int 0) :: (.long 0) :: (.int 0) :: (.int 0) :: (.int 0) :: (.ref (ex 3)) :: (.ref (ex 4)) :: (.int 0) :: (.ref (ex 5)) :: (.int (-1)) :: (.int 0) :: (.int 0) :: (.int 0) :: (.int 0) :: (.int 0) :: (.int 0) :: (.ref (ex 6)) :: (.int 0) :: (.ref (ex 7)) :: (.int 0) :: (.int 0) :: (.int 0) :: (.int 0) :: (.int 0) :: (.ref (ex 8)) :: (.ref (ex 9)) :: (.ref (ex 10)) :: (.ref (ex 11)) :: [])))] := hD
                  refine lv_aload_n hx hb dX12_town_275 rfl (lv_at hl 1 rfl) ?_
                  refine va_get (D := D) (ci := 12) (v := .int 0) (C := RX12) (T := TX12) (N := 44) hx hb htg inX12 hown hK.1 hP 3 rfl rfl 19 (by decide) (htg _ kw_1426) (fun _ h9 => h9) rfl dX12_town_276 ?_
                  have hP9 := hP.sub (ws' := []) [] rfl
                  have hD9 := hD.sub (ws' := []) [] (by decide) rfl
                  rw [hQ]
                  exact W.iret (v := 0) hx hb hr (fun t ht hW => ⟨⟨0, (), rfl, rfl, ⟨xa [], xf [], xh [], xv [], by rw [ht]; exact hP9, hD9, trivial⟩⟩, hS.F ht⟩) hS.2.2 dX12_town_279
                | succ n ih =>
                  intro i_3 H locs ls hin hP hD hS hl
                  refine lv_iload_n hx hb dX12_town_165 rfl (lv_at hl 0 rfl) ?_
                  refine lv_bipush (v := 9) hx hb dX12_town_166 (by decide) ?_
                  refine lv_icmp_ge (tgt := 234) hx hb dX12_town_168 (by decide) (fun c => by exfalso; have h9 := xge (k := 9) (by decide) c; have h8 := nI_toInt (n := i_3) (by omega); omega) (fun _ => ?_)
                  refine lv_aload_n hx hb dX12_town_171 rfl (lv_at hl 1 rfl) ?_
                  refine va_get (D := D) (ci := 12) (v := .ref (a 2)) (C := RX12) (T := TX12) (N := 44) hx hb htg inX12 hown hK.1 hP 3 rfl rfl 6 (by decide) (htg _ kw_1413) (fun _ h9 => h9) rfl dX12_town_172 ?_
                  refine lv_sipush (v := 161) hx hb dX12_town_175 (by decide) ?_
                  refine lv_iload_n hx hb dX12_town_178 rfl (lv_at hl 0 rfl) ?_
                  refine lv_iadd hx hb dX12_town_179 ?_
                  refine xz_i (nI (161 + i_3)) (nI_add (161) (i_3)) ?_
                  refine lv_aload_n hx hb dX12_town_180 rfl (lv_at hl 1 rfl) ?_
                  refine va_get (D := D) (ci := 12) (v := .ref (a 2)) (C := RX12) (T := TX12) (N := 44) hx hb htg inX12 hown hK.1 hP 3 rfl rfl 6 (by decide) (htg _ kw_1413) (fun _ h9 => h9) rfl dX12_town_181 ?_
                  refine lv_bipush (v := 38) hx hb dX12_town_184 (by decide) ?_
                  refine lv_iload_n hx hb dX12_town_186 rfl (lv_at hl 0 rfl) ?_
                  refine lv_iadd hx hb dX12_town_187 ?_
                  refine xz_i (nI (38 + i_3)) (nI_add (38) (i_3)) ?_
                  refine va_iald hx hb hK.1 hP 1 1 rfl rfl (vp_in_nI (n := 38 + i_3) (by omega) (by decide)) dX12_town_188 ?_
                  refine xz_i 0 rfl ?_
                  refine va_iast hx hb hK.1 hP hD hS 1 1 rfl rfl (vp_in_nI (n := 161 + i_3) (by omega) (by decide)) dX12_town_189 (fun H locs hP hD hS => ?_)
                  obtain ⟨f7, ⟨i7, rfl⟩, hP, hD⟩ : ∃ f7 : Nat → Int32, (∃ i7, f7 = upd (fun _ => 0) i7 0) ∧ va_P D vwCl [((a 1), .inl (T 1, 146, .inl (fun _ => 0))), ((a 2), .inl (T 1, 2187, .inl f7)), ((a 3), .inl (T 2, 36, .inr (.inl (fun _ => 0)))), ((a 0), .inr (12, ((.int 0) :: (.ref (ex 0)) :: (.int 0) :: (.int 0) :: (.int 0) :: (.int 900) :: (.ref (a 2)) :: (.ref (a 1)) :: (.ref (ex 1)) :: (.ref (a 3)) :: (.ref (ex 2)) :: (.int 0) :: (.int 0) :: (.int 0) :: (.int 0) :: (.int 0) :: (.int 0) :: (.long 0) :: (.int 0) :: (.int 0) :: (.int 0) :: (.ref (ex 3)) :: (.ref (ex 4)) :: (.int 0) :: (.ref (ex 5)) :: (.int (-1)) :: (.int 0) :: (.int 0) :: (.int 0) :: (.int 0) :: (.int 0) :: (.int 0) :: (.ref (ex 6)) :: (.int 0) :: (.ref (ex 7)) :: (.int 0) :: (.int 0) :: (.int 0) :: (.int 0) :: (.int 0) :: (.ref (ex 8)) :: (.ref (ex 9)) :: (.ref (ex 10)) :: (.ref (ex 11)) :: [])))] H ∧ va_D A [((a 1), .inl (T 1, 146, .inl (fun _ => 0))), ((a 2), .inl (T 1, 2187, .inl f7)), ((a 3), .inl (T 2, 36, .inr (.inl (fun _ => 0)))), ((a 0), .inr (12, ((.int 0) :: (.ref (ex 0)) :: (.int 0) :: (.int 0) :: (.int 0) :: (.int 900) :: (.ref (a 2)) :: (.ref (a 1)) :: (.ref (ex 1)) :: (.ref (a 3)) :: (.ref (ex 2)) :: (.int 0) :: (.int 0) :: (.int 0) :: (.int 0) :: (.int 0) :: (.int 0) :: (.long 0) :: (.int 0) :: (.int 0) :: (.int 0) :: (.ref (ex 3)) :: (.ref (ex 4)) :: (.int 0) :: (.ref (ex 5)) :: (.int (-1)) :: (.int 0) :: (.int 0) :: (.int 0) :: (.int 0) :: (.int 0) :: (.int 0) :: (.ref (ex 6)) :: (.int 0) :: (.ref (ex 7)) :: (.int 0) :: (.int 0) :: (.int 0) :: (.int 0) :: (.int 0) :: (.ref (ex 8)) :: (.ref (ex 9)) :: (.ref (ex 10)) :: (.ref (ex 11)) :: [])))] := ⟨_, ⟨_, rfl⟩, hP, hD⟩
                  rw [xu0] at hP hD
                  refine lv_aload_n hx hb dX12_town_190 rfl (lv_at hl 1 rfl) ?_
                  refine va_get (D := D) (ci := 12) (v := .ref (a 2)) (C := RX12) (T := TX12) (N := 44) hx hb htg inX12 hown hK.1 hP 3 rfl rfl 6 (by decide) (htg _ kw_1413) (fun _ h9 => h9) rfl dX12_town_191 ?_
                  refine lv_sipush (v := 170) hx hb dX12_town_194 (by decide) ?_
                  refine lv_iload_n hx hb dX12_town_197 rfl (lv_at hl 0 rfl) ?_
                  refine lv_iadd hx hb dX12_town_198 ?_
                  refine xz_i (nI (170 + i_3)) (nI_add (170) (i_3)) ?_
                  refine lv_aload_n hx hb dX12_town_199 rfl (lv_at hl 1 rfl) ?_
                  refine va_get (D := D) (ci := 12) (v := .ref (a 2)) (C := RX12) (T := TX12) (N := 44) hx hb htg inX12 hown hK.1 hP 3 rfl rfl 6 (by decide) (htg _ kw_1413) (fun _ h9 => h9) rfl dX12_town_200 ?_
                  refine lv_bipush (v := 29) hx hb dX12_town_203 (by decide) ?_
                  refine lv_iload_n hx hb dX12_town_205 rfl (lv_at hl 0 rfl) ?_
                  refine lv_iadd hx hb dX12_town_206 ?_
                  refine xz_i (nI (29 + i_3)) (nI_add (29) (i_3)) ?_
                  refine va_iald hx hb hK.1 hP 1 1 rfl rfl (vp_in_nI (n := 29 + i_3) (by omega) (by decide)) dX12_town_207 ?_
                  refine xz_i 0 rfl ?_
                  refine va_iast hx hb hK.1 hP hD hS 1 1 rfl rfl (vp_in_nI (n := 170 + i_3) (by omega) (by decide)) dX12_town_208 (fun H locs hP hD hS => ?_)
                  obtain ⟨f7, ⟨i7, rfl⟩, hP, hD⟩ : ∃ f7 : Nat → Int32, (∃ i7, f7 = upd (fun _ => 0) i7 0) ∧ va_P D vwCl [((a 1), .inl (T 1, 146, .inl (fun _ => 0))), ((a 2), .inl (T 1, 2187, .inl f7)), ((a 3), .inl (T 2, 36, .inr (.inl (fun _ => 0)))), ((a 0), .inr (12, ((.int 0) :: (.ref (ex 0)) :: (.int 0) :: (.int 0) :: (.int 0) :: (.int 900) :: (.ref (a 2)) :: (.ref (a 1)) :: (.ref (ex 1)) :: (.ref (a 3)) :: (.ref (ex 2)) :: (.int 0) :: (.int 0) :: (.int 0) :: (.int 0) :: (.int 0) :: (.int 0) :: (.long 0) :: (.int 0) :: (.int 0) :: (.int 0) :: (.ref (ex 3)) :: (.ref (ex 4)) :: (.int 0) :: (.ref (ex 5)) :: (.int (-1)) :: (.int 0) :: (.int 0) :: (.int 0) :: (.int 0) :: (.int 0) :: (.int 0) :: (.ref (ex 6)) :: (.int 0) :: (.ref (ex 7)) :: (.int 0) :: (.int 0) :: (.int 0) :: (.int 0) :: (.int 0) :: (.ref (ex 8)) :: (.ref (ex 9)) :: (.ref (ex 10)) :: (.ref (ex 11)) :: [])))] H ∧ va_D A [((a 1), .inl (T 1, 146, .inl (fun _ => 0))), ((a 2), .inl (T 1, 2187, .inl f7)), ((a 3), .inl (T 2, 36, .inr (.inl (fun _ => 0)))), ((a 0), .inr (12, ((.int 0) :: (.ref (ex 0)) :: (.int 0) :: (.int 0) :: (.int 0) :: (.int 900) :: (.ref (a 2)) :: (.ref (a 1)) :: (.ref (ex 1)) :: (.ref (a 3)) :: (.ref (ex 2)) :: (.int 0) :: (.int 0) :: (.int 0) :: (.int 0) :: (.int 0) :: (.int 0) :: (.long 0) :: (.int 0) :: (.int 0) :: (.int 0) :: (.ref (ex 3)) :: (.ref (ex 4)) :: (.int 0) :: (.ref (ex 5)) :: (.int (-1)) :: (.int 0) :: (.int 0) :: (.int 0) :: (.int 0) :: (.int 0) :: (.int 0) :: (.ref (ex 6)) :: (.int 0) :: (.ref (ex 7)) :: (.int 0) :: (.int 0) :: (.int 0) :: (.int 0) :: (.int 0) :: (.ref (ex 8)) :: (.ref (ex 9)) :: (.ref (ex 10)) :: (.ref (ex 11)) :: [])))] := ⟨_, ⟨_, rfl⟩, hP, hD⟩
                  rw [xu0] at hP hD
                  refine lv_aload_n hx hb dX12_town_209 rfl (lv_at hl 1 rfl) ?_
                  refine va_get (D := D) (ci := 12) (v := .ref (a 2)) (C := RX12) (T := TX12) (N := 44) hx hb htg inX12 hown hK.1 hP 3 rfl rfl 6 (by decide) (htg _ kw_1413) (fun _ h9 => h9) rfl dX12_town_210 ?_
                  refine lv_sipush (v := 188) hx hb dX12_town_213 (by decide) ?_
                  refine lv_iload_n hx hb dX12_town_216 rfl (lv_at hl 0 rfl) ?_
                  refine lv_iadd hx hb dX12_town_217 ?_
                  refine xz_i (nI (188 + i_3)) (nI_add (188) (i_3)) ?_
                  refine lv_aload_n hx hb dX12_town_218 rfl (lv_at hl 1 rfl) ?_
                  refine va_get (D := D) (ci := 12) (v := .ref (a 2)) (C := RX12) (T := TX12) (N := 44) hx hb htg inX12 hown hK.1 hP 3 rfl rfl 6 (by decide) (htg _ kw_1413) (fun _ h9 => h9) rfl dX12_town_219 ?_
                  refine lv_bipush (v := 11) hx hb dX12_town_222 (by decide) ?_
                  refine lv_iload_n hx hb dX12_town_224 rfl (lv_at hl 0 rfl) ?_
                  refine lv_iadd hx hb dX12_town_225 ?_
                  refine xz_i (nI (11 + i_3)) (nI_add (11) (i_3)) ?_
                  refine va_iald hx hb hK.1 hP 1 1 rfl rfl (vp_in_nI (n := 11 + i_3) (by omega) (by decide)) dX12_town_226 ?_
                  refine xz_i 0 rfl ?_
                  refine va_iast hx hb hK.1 hP hD hS 1 1 rfl rfl (vp_in_nI (n := 188 + i_3) (by omega) (by decide)) dX12_town_227 (fun H locs hP hD hS => ?_)
                  obtain ⟨f7, ⟨i7, rfl⟩, hP, hD⟩ : ∃ f7 : Nat → Int32, (∃ i7, f7 = upd (fun _ => 0) i7 0) ∧ va_P D vwCl [((a 1), .inl (T 1, 146, .inl (fun _ => 0))), ((a 2), .inl (T 1, 2187, .inl f7)), ((a 3), .inl (T 2, 36, .inr (.inl (fun _ => 0)))), ((a 0), .inr (12, ((.int 0) :: (.ref (ex 0)) :: (.int 0) :: (.int 0) :: (.int 0) :: (.int 900) :: (.ref (a 2)) :: (.ref (a 1)) :: (.ref (ex 1)) :: (.ref (a 3)) :: (.ref (ex 2)) :: (.int 0) :: (.int 0) :: (.int 0) :: (.int 0) :: (.int 0) :: (.int 0) :: (.long 0) :: (.int 0) :: (.int 0) :: (.int 0) :: (.ref (ex 3)) :: (.ref (ex 4)) :: (.int 0) :: (.ref (ex 5)) :: (.int (-1)) :: (.int 0) :: (.int 0) :: (.int 0) :: (.int 0) :: (.int 0) :: (.int 0) :: (.ref (ex 6)) :: (.int 0) :: (.ref (ex 7)) :: (.int 0) :: (.int 0) :: (.int 0) :: (.int 0) :: (.int 0) :: (.ref (ex 8)) :: (.ref (ex 9)) :: (.ref (ex 10)) :: (.ref (ex 11)) :: [])))] H ∧ va_D A [((a 1), .inl (T 1, 146, .inl (fun _ => 0))), ((a 2), .inl (T 1, 2187, .inl f7)), ((a 3), .inl (T 2, 36, .inr (.inl (fun _ => 0)))), ((a 0), .inr (12, ((.int 0) :: (.ref (ex 0)) :: (.int 0) :: (.int 0) :: (.int 0) :: (.int 900) :: (.ref (a 2)) :: (.ref (a 1)) :: (.ref (ex 1)) :: (.ref (a 3)) :: (.ref (ex 2)) :: (.int 0) :: (.int 0) :: (.int 0) :: (.int 0) :: (.int 0) :: (.int 0) :: (.long 0) :: (.int 0) :: (.int 0) :: (.int 0) :: (.ref (ex 3)) :: (.ref (ex 4)) :: (.int 0) :: (.ref (ex 5)) :: (.int (-1)) :: (.int 0) :: (.int 0) :: (.int 0) :: (.int 0) :: (.int 0) :: (.int 0) :: (.ref (ex 6)) :: (.int 0) :: (.ref (ex 7)) :: (.int 0) :: (.int 0) :: (.int 0) :: (.int 0) :: (.int 0) :: (.ref (ex 8)) :: (.ref (ex 9)) :: (.ref (ex 10)) :: (.ref (ex 11)) :: [])))] := ⟨_, ⟨_, rfl⟩, hP, hD⟩
                  rw [xu0] at hP hD
                  refine lv_iinc (v := (nI (i_3 + 1))) (lv' := [(1, .int (nI (i_3 + 1))), (0, .ref (a 0))]) hx hb dX12_town_228 hl (k := 0) rfl (nI_add (i_3) 1) (by decide) rfl (fun ls hl => ?_)
                  refine lv_goto (tgt := 165) hx hb dX12_town_231 (by decide) ?_
                  exact ih (i_3 + 1) _ _ _ (by omega) (hP.sub [0, 1, 2, 3] rfl) (hD.sub [0, 1, 2, 3] (by decide) rfl) hS (lv_sub hl [0, 1] rfl)
              exact lp_3 9 0 _ _ _ (by omega) hP hD hS hl
            | succ n ih =>
              intro i_2 H locs ls hin hP hD hS hl
              refine lv_iload_n hx hb dX12_town_136 rfl (lv_at hl 0 rfl) ?_
              refine lv_bipush (v := 18) hx hb dX12_town_137 (by decide) ?_
              refine lv_icmp_ge (tgt := 163) hx hb dX12_town_139 (by decide) (fun c => by exfalso; have h9 := xge (k := 18) (by decide) c; have h8 := nI_toInt (n := i_2) (by omega); omega) (fun _ => ?_)
              refine lv_aload_n hx hb dX12_town_142 rfl (lv_at hl 1 rfl) ?_
              refine va_get (D := D) (ci := 12) (v := .ref (a 3)) (C := RX12) (T := TX12) (N := 44) hx hb htg inX12 hown hK.1 hP 3 rfl rfl 9 (by decide) (htg _ kw_1416) (fun _ h9 => h9) rfl dX12_town_143 ?_
              refine lv_iload_n hx hb dX12_town_146 rfl (lv_at hl 0 rfl) ?_
              refine lv_aload_n hx hb dX12_town_147 rfl (lv_at hl 1 rfl) ?_
              refine va_get (D := D) (ci := 12) (v := .ref (a 3)) (C := RX12) (T := TX12) (N := 44) hx hb htg inX12 hown hK.1 hP 3 rfl rfl 9 (by decide) (htg _ kw_1416) (fun _ h9 => h9) rfl dX12_town_148 ?_
              refine lv_bipush (v := 18) hx hb dX12_town_151 (by decide) ?_
              refine lv_iload_n hx hb dX12_town_153 rfl (lv_at hl 0 rfl) ?_
              refine lv_iadd hx hb dX12_town_154 ?_
              refine xz_i (nI (18 + i_2)) (nI_add (18) (i_2)) ?_
              refine va_lald hx hb hK.1 hP 2 2 rfl rfl (vp_in_nI (n := 18 + i_2) (by omega) (by decide)) dX12_town_155 ?_
              refine xz_l 0 rfl ?_
              refine va_last hx hb hK.1 hP hD hS 2 2 rfl rfl (vp_in_nI (n := i_2) (by omega) (by decide)) dX12_town_156 (fun H locs hP hD hS => ?_)
              obtain ⟨f7, ⟨i7, rfl⟩, hP, hD⟩ : ∃ f7 : Nat → Int64, (∃ i7, f7 = vp_updL (fun _ => 0) i7 0) ∧ va_P D vwCl [((a 1), .inl (T 1, 146, .inl (fun _ => 0))), ((a 2), .inl (T 1, 2187, .inl (fun _ => 0))), ((a 3), .inl (T 2, 36, .inr (.inl f7))), ((a 0), .inr (12, ((.int 0) :: (.ref (ex 0)) :: (.int 0) :: (.int 0) :: (.int 0) :: (.int 900) :: (.ref (a 2)) :: (.ref (a 1)) :: (.ref (ex 1)) :: (.ref (a 3)) :: (.ref (ex 2)) :: (.int 0) :: (.int 0) :: (.int 0) :: (.int 0) :: (.int 0) :: (.int 0) :: (.long 0) :: (.int 0) :: (.int 0) :: (.int 0) :: (.ref (ex 3)) :: (.ref (ex 4)) :: (.int 0) :: (.ref (ex 5)) :: (.int (-1)) :: (.int 0) :: (.int 0) :: (.int 0) :: (.int 0) :: (.int 0) :: (.int 0) :: (.ref (ex 6)) :: (.int 0) :: (.ref (ex 7)) :: (.int 0) :: (.int 0) :: (.int 0) :: (.int 0) :: (.int 0) :: (.ref (ex 8)) :: (.ref (ex 9)) :: (.ref (ex 10)) :: (.ref (ex 11)) :: [])))] H ∧ va_D A [((a 1), .inl (T 1, 146, .inl (fun _ => 0))), ((a 2), .inl (T 1, 2187, .inl (fun _ => 0))), ((a 3), .inl (T 2, 36, .inr (.inl f7))), ((a 0), .inr (12, ((.int 0) :: (.ref (ex 0)) :: (.int 0) :: (.int 0) :: (.int 0) :: (.int 900) :: (.ref (a 2)) :: (.ref (a 1)) :: (.ref (ex 1)) :: (.ref (a 3)) :: (.ref (ex 2)) :: (.int 0) :: (.int 0) :: (.int 0) :: (.int 0) :: (.int 0) :: (.int 0) :: (.long 0) :: (.int 0) :: (.int 0) :: (.int 0) :: (.ref (ex 3)) :: (.ref (ex 4)) :: (.int 0) :: (.ref (ex 5)) :: (.int (-1)) :: (.int 0) :: (.int 0) :: (.int 0) :: (.int 0) :: (.int 0) :: (.int 0) :: (.ref (ex 6)) :: (.int 0) :: (.ref (ex 7)) :: (.int 0) :: (.int 0) :: (.int 0) :: (.int 0) :: (.int 0) :: (.ref (ex 8)) :: (.ref (ex 9)) :: (.ref (ex 10)) :: (.ref (ex 11)) :: [])))] := ⟨_, ⟨_, rfl⟩, hP, hD⟩
              rw [xuL0] at hP hD
              refine lv_iinc (v := (nI (i_2 + 1))) (lv' := [(1, .int (nI (i_2 + 1))), (0, .ref (a 0))]) hx hb dX12_town_157 hl (k := 0) rfl (nI_add (i_2) 1) (by decide) rfl (fun ls hl => ?_)
              refine lv_goto (tgt := 136) hx hb dX12_town_160 (by decide) ?_
              exact ih (i_2 + 1) _ _ _ (by omega) (hP.sub [0, 1, 2, 3] rfl) (hD.sub [0, 1, 2, 3] (by decide) rfl) hS (lv_sub hl [0, 1] rfl)
          exact lp_2 18 0 _ _ _ (by omega) hP hD hS hl
        | succ n ih =>
          intro i_1 H locs ls hin hP hD hS hl
          refine lv_iload_n hx hb dX12_town_98 rfl (lv_at hl 0 rfl) ?_
          refine lv_sipush (v := 2187) hx hb dX12_town_99 (by decide) ?_
          refine lv_icmp_ge (tgt := 134) hx hb dX12_town_102 (by decide) (fun c => by exfalso; have h9 := xge (k := 2187) (by decide) c; have h8 := nI_toInt (n := i_1) (by omega); omega) (fun _ => ?_)
          refine lv_aload_n hx hb dX12_town_105 rfl (lv_at hl 1 rfl) ?_
          refine va_get (D := D) (ci := 12) (v := .ref (a 2)) (C := RX12) (T := TX12) (N := 44) hx hb htg inX12 hown hK.1 hP 3 rfl rfl 6 (by decide) (htg _ kw_1413) (fun _ h9 => h9) rfl dX12_town_106 ?_
          refine lv_iload_n hx hb dX12_town_109 rfl (lv_at hl 0 rfl) ?_
          refine lv_iload_n hx hb dX12_town_110 rfl (lv_at hl 0 rfl) ?_
          refine lv_sipush (v := 146) hx hb dX12_town_111 (by decide) ?_
          refine lv_icmp_ge (tgt := 126) hx hb dX12_town_114 (by decide) (fun c114 => ?_) (fun c114 => ?_)
          · have c114 := xge (k := 146) (by decide) c114
            have h8 := nI_toInt (n := i_1) (by omega)
            refine lv_iconst (v := 0) hx hb dX12_town_126 (by decide) ?_
            refine va_iast hx hb hK.1 hP hD hS 1 1 rfl rfl (vp_in_nI (n := i_1) (by omega) (by decide)) dX12_town_127 (fun H locs hP hD hS => ?_)
            obtain ⟨f7, ⟨i7, rfl⟩, hP, hD⟩ : ∃ f7 : Nat → Int32, (∃ i7, f7 = upd (fun _ => 0) i7 0) ∧ va_P D vwCl [((a 1), .inl (T 1, 146, .inl (fun _ => 0))), ((a 2), .inl (T 1, 2187, .inl f7)), ((a 3), .inl (T 2, 36, .inr (.inl (fun _ => 0)))), ((a 0), .inr (12, ((.int 0) :: (.ref (ex 0)) :: (.int 0) :: (.int 0) :: (.int 0) :: (.int 900) :: (.ref (a 2)) :: (.ref (a 1)) :: (.ref (ex 1)) :: (.ref (a 3)) :: (.ref (ex 2)) :: (.int 0) :: (.int 0) :: (.int 0) :: (.int 0) :: (.int 0) :: (.int 0) :: (.long 0) :: (.int 0) :: (.int 0) :: (.int 0) :: (.ref (ex 3)) :: (.ref (ex 4)) :: (.int 0) :: (.ref (ex 5)) :: (.int (-1)) :: (.int 0) :: (.int 0) :: (.int 0) :: (.int 0) :: (.int 0) :: (.int 0) :: (.ref (ex 6)) :: (.int 0) :: (.ref (ex 7)) :: (.int 0) :: (.int 0) :: (.int 0) :: (.int 0) :: (.int 0) :: (.ref (ex 8)) :: (.ref (ex 9)) :: (.ref (ex 10)) :: (.ref (ex 11)) :: [])))] H ∧ va_D A [((a 1), .inl (T 1, 146, .inl (fun _ => 0))), ((a 2), .inl (T 1, 2187, .inl f7)), ((a 3), .inl (T 2, 36, .inr (.inl (fun _ => 0)))), ((a 0), .inr (12, ((.int 0) :: (.ref (ex 0)) :: (.int 0) :: (.int 0) :: (.int 0) :: (.int 900) :: (.ref (a 2)) :: (.ref (a 1)) :: (.ref (ex 1)) :: (.ref (a 3)) :: (.ref (ex 2)) :: (.int 0) :: (.int 0) :: (.int 0) :: (.int 0) :: (.int 0) :: (.int 0) :: (.long 0) :: (.int 0) :: (.int 0) :: (.int 0) :: (.ref (ex 3)) :: (.ref (ex 4)) :: (.int 0) :: (.ref (ex 5)) :: (.int (-1)) :: (.int 0) :: (.int 0) :: (.int 0) :: (.int 0) :: (.int 0) :: (.int 0) :: (.ref (ex 6)) :: (.int 0) :: (.ref (ex 7)) :: (.int 0) :: (.int 0) :: (.int 0) :: (.int 0) :: (.int 0) :: (.ref (ex 8)) :: (.ref (ex 9)) :: (.ref (ex 10)) :: (.ref (ex 11)) :: [])))] := ⟨_, ⟨_, rfl⟩, hP, hD⟩
            rw [xu0] at hP hD
            refine lv_iinc (v := (nI (i_1 + 1))) (lv' := [(1, .int (nI (i_1 + 1))), (0, .ref (a 0))]) hx hb dX12_town_128 hl (k := 0) rfl (nI_add (i_1) 1) (by decide) rfl (fun ls hl => ?_)
            refine lv_goto (tgt := 98) hx hb dX12_town_131 (by decide) ?_
            exact ih (i_1 + 1) _ _ _ (by omega) (hP.sub [0, 1, 2, 3] rfl) (hD.sub [0, 1, 2, 3] (by decide) rfl) hS (lv_sub hl [0, 1] rfl)
          · have c114 := xnge (k := 146) (by decide) c114
            have h8 := nI_toInt (n := i_1) (by omega)
            refine lv_aload_n hx hb dX12_town_117 rfl (lv_at hl 1 rfl) ?_
            refine va_get (D := D) (ci := 12) (v := .ref (a 1)) (C := RX12) (T := TX12) (N := 44) hx hb htg inX12 hown hK.1 hP 3 rfl rfl 7 (by decide) (htg _ kw_1414) (fun _ h9 => h9) rfl dX12_town_118 ?_
            refine lv_iload_n hx hb dX12_town_121 rfl (lv_at hl 0 rfl) ?_
            refine va_iald hx hb hK.1 hP 0 1 rfl rfl (vp_in_nI (n := i_1) (by omega) (by decide)) dX12_town_122 ?_
            refine xz_i 0 rfl ?_
            refine lv_goto (tgt := 127) hx hb dX12_town_123 (by decide) ?_
            refine va_iast hx hb hK.1 hP hD hS 1 1 rfl rfl (vp_in_nI (n := i_1) (by omega) (by decide)) dX12_town_127 (fun H locs hP hD hS => ?_)
            obtain ⟨f7, ⟨i7, rfl⟩, hP, hD⟩ : ∃ f7 : Nat → Int32, (∃ i7, f7 = upd (fun _ => 0) i7 0) ∧ va_P D vwCl [((a 1), .inl (T 1, 146, .inl (fun _ => 0))), ((a 2), .inl (T 1, 2187, .inl f7)), ((a 3), .inl (T 2, 36, .inr (.inl (fun _ => 0)))), ((a 0), .inr (12, ((.int 0) :: (.ref (ex 0)) :: (.int 0) :: (.int 0) :: (.int 0) :: (.int 900) :: (.ref (a 2)) :: (.ref (a 1)) :: (.ref (ex 1)) :: (.ref (a 3)) :: (.ref (ex 2)) :: (.int 0) :: (.int 0) :: (.int 0) :: (.int 0) :: (.int 0) :: (.int 0) :: (.long 0) :: (.int 0) :: (.int 0) :: (.int 0) :: (.ref (ex 3)) :: (.ref (ex 4)) :: (.int 0) :: (.ref (ex 5)) :: (.int (-1)) :: (.int 0) :: (.int 0) :: (.int 0) :: (.int 0) :: (.int 0) :: (.int 0) :: (.ref (ex 6)) :: (.int 0) :: (.ref (ex 7)) :: (.int 0) :: (.int 0) :: (.int 0) :: (.int 0) :: (.int 0) :: (.ref (ex 8)) :: (.ref (ex 9)) :: (.ref (ex 10)) :: (.ref (ex 11)) :: [])))] H ∧ va_D A [((a 1), .inl (T 1, 146, .inl (fun _ => 0))), ((a 2), .inl (T 1, 2187, .inl f7)), ((a 3), .inl (T 2, 36, .inr (.inl (fun _ => 0)))), ((a 0), .inr (12, ((.int 0) :: (.ref (ex 0)) :: (.int 0) :: (.int 0) :: (.int 0) :: (.int 900) :: (.ref (a 2)) :: (.ref (a 1)) :: (.ref (ex 1)) :: (.ref (a 3)) :: (.ref (ex 2)) :: (.int 0) :: (.int 0) :: (.int 0) :: (.int 0) :: (.int 0) :: (.int 0) :: (.long 0) :: (.int 0) :: (.int 0) :: (.int 0) :: (.ref (ex 3)) :: (.ref (ex 4)) :: (.int 0) :: (.ref (ex 5)) :: (.int (-1)) :: (.int 0) :: (.int 0) :: (.int 0) :: (.int 0) :: (.int 0) :: (.int 0) :: (.ref (ex 6)) :: (.int 0) :: (.ref (ex 7)) :: (.int 0) :: (.int 0) :: (.int 0) :: (.int 0) :: (.int 0) :: (.ref (ex 8)) :: (.ref (ex 9)) :: (.ref (ex 10)) :: (.ref (ex 11)) :: [])))] := ⟨_, ⟨_, rfl⟩, hP, hD⟩
            rw [xu0] at hP hD
            refine lv_iinc (v := (nI (i_1 + 1))) (lv' := [(1, .int (nI (i_1 + 1))), (0, .ref (a 0))]) hx hb dX12_town_128 hl (k := 0) rfl (nI_add (i_1) 1) (by decide) rfl (fun ls hl => ?_)
            refine lv_goto (tgt := 98) hx hb dX12_town_131 (by decide) ?_
            exact ih (i_1 + 1) _ _ _ (by omega) (hP.sub [0, 1, 2, 3] rfl) (hD.sub [0, 1, 2, 3] (by decide) rfl) hS (lv_sub hl [0, 1] rfl)
      exact lp_1 2187 0 _ _ _ (by omega) hP hD hS hl
    | succ n ih =>
      intro i H locs ls hin hP hD hS hl
      refine lv_iload_n hx hb dX12_town_29 rfl (lv_at hl 0 rfl) ?_
      refine lv_sipush (v := 146) hx hb dX12_town_30 (by decide) ?_
      refine lv_icmp_ge (tgt := 49) hx hb dX12_town_33 (by decide) (fun c => by exfalso; have h9 := xge (k := 146) (by decide) c; have h8 := nI_toInt (n := i) (by omega); omega) (fun _ => ?_)
      refine lv_aload_n hx hb dX12_town_36 rfl (lv_at hl 1 rfl) ?_
      refine va_get (D := D) (ci := 12) (v := .ref (a 1)) (C := RX12) (T := TX12) (N := 44) hx hb htg inX12 hown hK.1 hP 3 rfl rfl 7 (by decide) (htg _ kw_1414) (fun _ h9 => h9) rfl dX12_town_37 ?_
      refine lv_iload_n hx hb dX12_town_40 rfl (lv_at hl 0 rfl) ?_
      refine lv_iconst (v := 0) hx hb dX12_town_41 (by decide) ?_
      refine va_iast hx hb hK.1 hP hD hS 0 1 rfl rfl (vp_in_nI (n := i) (by omega) (by decide)) dX12_town_42 (fun H locs hP hD hS => ?_)
      obtain ⟨f7, ⟨i7, rfl⟩, hP, hD⟩ : ∃ f7 : Nat → Int32, (∃ i7, f7 = upd (fun _ => 0) i7 0) ∧ va_P D vwCl [((a 1), .inl (T 1, 146, .inl f7)), ((a 2), .inl (T 1, 2187, .inl (fun _ => 0))), ((a 3), .inl (T 2, 36, .inr (.inl (fun _ => 0)))), ((a 0), .inr (12, ((.int 0) :: (.ref (ex 0)) :: (.int 0) :: (.int 0) :: (.int 0) :: (.int 900) :: (.ref (a 2)) :: (.ref (a 1)) :: (.ref (ex 1)) :: (.ref (a 3)) :: (.ref (ex 2)) :: (.int 0) :: (.int 0) :: (.int 0) :: (.int 0) :: (.int 0) :: (.int 0) :: (.long 0) :: (.int 0) :: (.int 0) :: (.int 0) :: (.ref (ex 3)) :: (.ref (ex 4)) :: (.int 0) :: (.ref (ex 5)) :: (.int (-1)) :: (.int 0) :: (.int 0) :: (.int 0) :: (.int 0) :: (.int 0) :: (.int 0) :: (.ref (ex 6)) :: (.int 0) :: (.ref (ex 7)) :: (.int 0) :: (.int 0) :: (.int 0) :: (.int 0) :: (.int 0) :: (.ref (ex 8)) :: (.ref (ex 9)) :: (.ref (ex 10)) :: (.ref (ex 11)) :: [])))] H ∧ va_D A [((a 1), .inl (T 1, 146, .inl f7)), ((a 2), .inl (T 1, 2187, .inl (fun _ => 0))), ((a 3), .inl (T 2, 36, .inr (.inl (fun _ => 0)))), ((a 0), .inr (12, ((.int 0) :: (.ref (ex 0)) :: (.int 0) :: (.int 0) :: (.int 0) :: (.int 900) :: (.ref (a 2)) :: (.ref (a 1)) :: (.ref (ex 1)) :: (.ref (a 3)) :: (.ref (ex 2)) :: (.int 0) :: (.int 0) :: (.int 0) :: (.int 0) :: (.int 0) :: (.int 0) :: (.long 0) :: (.int 0) :: (.int 0) :: (.int 0) :: (.ref (ex 3)) :: (.ref (ex 4)) :: (.int 0) :: (.ref (ex 5)) :: (.int (-1)) :: (.int 0) :: (.int 0) :: (.int 0) :: (.int 0) :: (.int 0) :: (.int 0) :: (.ref (ex 6)) :: (.int 0) :: (.ref (ex 7)) :: (.int 0) :: (.int 0) :: (.int 0) :: (.int 0) :: (.int 0) :: (.ref (ex 8)) :: (.ref (ex 9)) :: (.ref (ex 10)) :: (.ref (ex 11)) :: [])))] := ⟨_, ⟨_, rfl⟩, hP, hD⟩
      rw [xu0] at hP hD
      refine lv_iinc (v := (nI (i + 1))) (lv' := [(1, .int (nI (i + 1))), (0, .ref (a 0))]) hx hb dX12_town_43 hl (k := 0) rfl (nI_add (i) 1) (by decide) rfl (fun ls hl => ?_)
      refine lv_goto (tgt := 29) hx hb dX12_town_46 (by decide) ?_
      exact ih (i + 1) _ _ _ (by omega) (hP.sub [0, 1, 2, 3] rfl) (hD.sub [0, 1, 2, 3] (by decide) rfl) hS (lv_sub hl [0, 1] rfl)
  exact lp 146 0 _ _ _ (by omega) hP hD hS hl
abbrev pre_X12_fault (T : Nat → ClassId) (a ex : Nat → Nat) (fi : Nat → Nat → Int32) (fl : Nat → Nat → Int64) (vi : Nat → Int32) : va_W := [((a 0), .inr (12, ((.int 0) :: (.ref (ex 0)) :: (.int 0) :: (.int 0) :: (.int 0) :: (.int 0) :: (.ref (ex 1)) :: (.ref (ex 2)) :: (.ref (ex 3)) :: (.ref (ex 4)) :: (.ref (ex 5)) :: (.int 0) :: (.int 0) :: (.int 0) :: (.int 0) :: (.int 0) :: (.int 0) :: (.long 0) :: (.int 0) :: (.int 0) :: (.int 0) :: (.ref (ex 6)) :: (.ref (ex 7)) :: (.int 0) :: (.ref (ex 8)) :: (.int (-1)) :: (.int 0) :: (.int 0) :: (.int 0) :: (.int 0) :: (.int 0) :: (.int 0) :: (.ref (ex 9)) :: (.int 0) :: (.ref (ex 10)) :: (.int 0) :: (.int 0) :: (.int 0) :: (.int 0) :: (.int 0) :: (.ref (ex 11)) :: (.ref (ex 12)) :: (.ref (ex 13)) :: (.ref (ex 14)) :: [])))]
set_option maxHeartbeats 4000000 in
set_option maxRecDepth 100000 in
theorem c_X12_fault (l : Launch) (D : va_G) (T : Nat → ClassId) (a ex : Nat → Nat) (fi : Nat → Nat → Int32) (fl : Nat → Nat → Int64) (vi : Nat → Int32) (sz : Nat) : Met l yX12_fault (xw yX12_fault cX12_fault 1 (some .int)) ({ frames := 0, cells := 0, slots := 0, locals := 0 }) (xP D T [.ref (a 0)] sz (pre_X12_fault T a ex fi fl vi)) (va_Qi (fun r (_ : Unit) => r = 0) (xB D (va_A (pre_X12_fault T a ex fi fl vi) sz) (fun _ => True) (fun b fj fm vj => [])) (va_A (pre_X12_fault T a ex fi fl vi) sz)) 0 0 (va_A (pre_X12_fault T a ex fi fl vi) sz) := by
  refine xofW (cc := cX12_fault) (maxL := 1) (ret := (some .int)) (by decide) rfl ?_
  intro p e s m args below meth c s₁ R Q hR hQ B hml hv
  obtain ⟨rfl, hsz, hP, hK, hD0⟩ := hv
  have hx := B.exec
  have hb := B.bytes
  have hr := B.returns
  have hts := atoms_spec (ws := xw yX12_fault cX12_fault 1 (some .int)) B.pre
  have htg : ∀ w ∈ xg, w.before _ s = true := fun w h => hts w (List.mem_cons_of_mem _ h)
  have hown : s.vm.findClass RX12 = some m.cls := findClass_of_methodNamed B.named
  have hlocks := B.notSynchronized
  subst hsz
  have hD := hD0.self (sz := s.heap.size)
  generalize hAe : va_A (pre_X12_fault T a ex fi fl vi) s.heap.size = A at hD hQ
  have hA : ∀ q : Nat, s.heap.size ≤ q → A q := fun q h => by rw [← hAe]; exact Or.inr h
  have hS : va_S A s.heap s.heap [] := va_S.rf
  replace hP : va_P D vwCl [((a 0), .inr (12, ((.int 0) :: (.ref (ex 0)) :: (.int 0) :: (.int 0) :: (.int 0) :: (.int 0) :: (.ref (ex 1)) :: (.ref (ex 2)) :: (.ref (ex 3)) :: (.ref (ex 4)) :: (.ref (ex 5)) :: (.int 0) :: (.int 0) :: (.int 0) :: (.int 0) :: (.int 0) :: (.int 0) :: (.long 0) :: (.int 0) :: (.int 0) :: (.int 0) :: (.ref (ex 6)) :: (.ref (ex 7)) :: (.int 0) :: (.ref (ex 8)) :: (.int (-1)) :: (.int 0) :: (.int 0) :: (.int 0) :: (.int 0) :: (.int 0) :: (.int 0) :: (.ref (ex 9)) :: (.int 0) :: (.ref (ex 10)) :: (.int 0) :: (.int 0) :: (.int 0) :: (.int 0) :: (.int 0) :: (.ref (ex 11)) :: (.ref (ex 12)) :: (.ref (ex 13)) :: (.ref (ex 14)) :: [])))] s.heap := hP
  replace hD : va_D A [((a 0), .inr (12, ((.int 0) :: (.ref (ex 0)) :: (.int 0) :: (.int 0) :: (.int 0) :: (.int 0) :: (.ref (ex 1)) :: (.ref (ex 2)) :: (.ref (ex 3)) :: (.ref (ex 4)) :: (.ref (ex 5)) :: (.int 0) :: (.int 0) :: (.int 0) :: (.int 0) :: (.int 0) :: (.int 0) :: (.long 0) :: (.int 0) :: (.int 0) :: (.int 0) :: (.ref (ex 6)) :: (.ref (ex 7)) :: (.int 0) :: (.ref (ex 8)) :: (.int (-1)) :: (.int 0) :: (.int 0) :: (.int 0) :: (.int 0) :: (.int 0) :: (.int 0) :: (.ref (ex 9)) :: (.int 0) :: (.ref (ex 10)) :: (.int 0) :: (.int 0) :: (.int 0) :: (.int 0) :: (.int 0) :: (.ref (ex 11)) :: (.ref (ex 12)) :: (.ref (ex 13)) :: (.ref (ex 14)) :: [])))] := hD
  have hl := lv_entry ([.ref (a 0)]) (n := 1) (Nat.le_of_ble_eq_true rfl)
  rw [lg_entry_eq]
  generalize (lg_sl ([.ref (a 0)]) ++ List.replicate (1 - (lg_sl ([.ref (a 0)])).length) Slot.unset).toArray = ls at hl ⊢
  replace hl : lv_has ls 1 [(0, .ref (a 0))] := hl
  refine lv_aload_n hx hb dX12_fault_0 rfl (lv_at hl 0 rfl) ?_
  refine lv_iconst (v := 0) hx hb dX12_fault_1 (by decide) ?_
  refine va_put (D := D) (ci := 12) (v := .int 0) (ty := .int) (C := RX12) (T := TX12) (N := 44) hx hb htg inX12 tyX12 tyX12_ok nmX12 hown hK.1 hP hD hS 0 rfl rfl 0 (by decide) (htg _ kw_1407) (fun _ h9 => h9) rfl (by decide +kernel) rfl rfl (Nat.le_of_ble_eq_true rfl) dX12_fault_2 (fun H locs hP hD hS => ?_)
  replace hP : va_P D vwCl [((a 0), .inr (12, ((.int 0) :: (.ref (ex 0)) :: (.int 0) :: (.int 0) :: (.int 0) :: (.int 0) :: (.ref (ex 1)) :: (.ref (ex 2)) :: (.ref (ex 3)) :: (.ref (ex 4)) :: (.ref (ex 5)) :: (.int 0) :: (.int 0) :: (.int 0) :: (.int 0) :: (.int 0) :: (.int 0) :: (.long 0) :: (.int 0) :: (.int 0) :: (.int 0) :: (.ref (ex 6)) :: (.ref (ex 7)) :: (.int 0) :: (.ref (ex 8)) :: (.int (-1)) :: (.int 0) :: (.int 0) :: (.int 0) :: (.int 0) :: (.int 0) :: (.int 0) :: (.ref (ex 9)) :: (.int 0) :: (.ref (ex 10)) :: (.int 0) :: (.int 0) :: (.int 0) :: (.int 0) :: (.int 0) :: (.ref (ex 11)) :: (.ref (ex 12)) :: (.ref (ex 13)) :: (.ref (ex 14)) :: [])))] H := hP
  replace hD : va_D A [((a 0), .inr (12, ((.int 0) :: (.ref (ex 0)) :: (.int 0) :: (.int 0) :: (.int 0) :: (.int 0) :: (.ref (ex 1)) :: (.ref (ex 2)) :: (.ref (ex 3)) :: (.ref (ex 4)) :: (.ref (ex 5)) :: (.int 0) :: (.int 0) :: (.int 0) :: (.int 0) :: (.int 0) :: (.int 0) :: (.long 0) :: (.int 0) :: (.int 0) :: (.int 0) :: (.ref (ex 6)) :: (.ref (ex 7)) :: (.int 0) :: (.ref (ex 8)) :: (.int (-1)) :: (.int 0) :: (.int 0) :: (.int 0) :: (.int 0) :: (.int 0) :: (.int 0) :: (.ref (ex 9)) :: (.int 0) :: (.ref (ex 10)) :: (.int 0) :: (.int 0) :: (.int 0) :: (.int 0) :: (.int 0) :: (.ref (ex 11)) :: (.ref (ex 12)) :: (.ref (ex 13)) :: (.ref (ex 14)) :: [])))] := hD
  refine lv_aload_n hx hb dX12_fault_5 rfl (lv_at hl 0 rfl) ?_
  refine va_get (D := D) (ci := 12) (v := .int 0) (C := RX12) (T := TX12) (N := 44) hx hb htg inX12 hown hK.1 hP 0 rfl rfl 15 (by decide) (htg _ kw_1422) (fun _ h9 => h9) rfl dX12_fault_6 ?_
  have hP9 := hP.sub (ws' := []) [] rfl
  have hD9 := hD.sub (ws' := []) [] (by decide) rfl
  rw [hQ]
  exact W.iret (v := 0) hx hb hr (fun t ht hW => ⟨⟨0, (), rfl, rfl, ⟨xa [], xf [], xh [], xv [], by rw [ht]; exact hP9, hD9, trivial⟩⟩, hS.F ht⟩) hS.2.2 dX12_fault_9
abbrev pre_X12_isIn (T : Nat → ClassId) (a ex : Nat → Nat) (fi : Nat → Nat → Int32) (fl : Nat → Nat → Int64) (vi : Nat → Int32) : va_W := []
set_option maxHeartbeats 4000000 in
set_option maxRecDepth 100000 in
theorem c_X12_isIn (l : Launch) (D : va_G) (T : Nat → ClassId) (a ex : Nat → Nat) (fi : Nat → Nat → Int32) (fl : Nat → Nat → Int64) (vi : Nat → Int32) (sz : Nat) : Met l yX12_isIn (xw yX12_isIn cX12_isIn 3 (some .boolean)) ({ frames := 0, cells := 0, slots := 0, locals := 0 }) (xP D T [.int (vi 0), .int 0, .int (-1)] sz (pre_X12_isIn T a ex fi fl vi)) (va_Qi (fun r (_ : Unit) => r = 0) (xB D (va_A (pre_X12_isIn T a ex fi fl vi) sz) (fun _ => True) (fun b fj fm vj => [])) (va_A (pre_X12_isIn T a ex fi fl vi) sz)) 0 0 (va_A (pre_X12_isIn T a ex fi fl vi) sz) := by
  refine xofW (cc := cX12_isIn) (maxL := 3) (ret := (some .boolean)) (by decide) rfl ?_
  intro p e s m args below meth c s₁ R Q hR hQ B hml hv
  obtain ⟨rfl, hsz, hP, hK, hD0⟩ := hv
  have hx := B.exec
  have hb := B.bytes
  have hr := B.returns
  have hts := atoms_spec (ws := xw yX12_isIn cX12_isIn 3 (some .boolean)) B.pre
  have htg : ∀ w ∈ xg, w.before _ s = true := fun w h => hts w (List.mem_cons_of_mem _ h)
  have hown : s.vm.findClass RX12 = some m.cls := findClass_of_methodNamed B.named
  have hlocks := B.notSynchronized
  subst hsz
  have hD := hD0.self (sz := s.heap.size)
  generalize hAe : va_A (pre_X12_isIn T a ex fi fl vi) s.heap.size = A at hD hQ
  have hA : ∀ q : Nat, s.heap.size ≤ q → A q := fun q h => by rw [← hAe]; exact Or.inr h
  have hS : va_S A s.heap s.heap [] := va_S.rf
  replace hP : va_P D vwCl [] s.heap := hP
  replace hD : va_D A [] := hD
  have hl := lv_entry ([.int (vi 0), .int 0, .int (-1)]) (n := 3) (Nat.le_of_ble_eq_true rfl)
  rw [lg_entry_eq]
  generalize (lg_sl ([.int (vi 0), .int 0, .int (-1)]) ++ List.replicate (3 - (lg_sl ([.int (vi 0), .int 0, .int (-1)])).length) Slot.unset).toArray = ls at hl ⊢
  replace hl : lv_has ls 3 [(0, .int (vi 0)), (1, .int 0), (2, .int (-1))] := hl
  refine lv_iload_n hx hb dX12_isIn_0 rfl (lv_at hl 0 rfl) ?_
  refine lv_iload_n hx hb dX12_isIn_1 rfl (lv_at hl 1 rfl) ?_
  refine lv_icmp_lt (tgt := 14) hx hb dX12_isIn_2 (by decide) (fun c2 => ?_) (fun c2 => ?_)
  · have c2 := xlt (k := 0) (by decide) c2
    refine lv_iconst (v := 0) hx hb dX12_isIn_14 (by decide) ?_
    have hP9 := hP.sub (ws' := []) [] rfl
    have hD9 := hD.sub (ws' := []) [] (by decide +kernel) rfl
    rw [hQ]
    exact W.zret (v := 0) hx hb hr rfl (fun t ht hW => ⟨⟨0, (), rfl, rfl, ⟨xa [], xf [], xh [], xv [], by rw [ht]; exact hP9, hD9, trivial⟩⟩, hS.F ht⟩) hS.2.2 dX12_isIn_15
  · have c2 := xnlt (k := 0) (by decide) c2
    refine lv_iload_n hx hb dX12_isIn_5 rfl (lv_at hl 0 rfl) ?_
    refine lv_iload_n hx hb dX12_isIn_6 rfl (lv_at hl 2 rfl) ?_
    refine lv_icmp_gt (tgt := 14) hx hb dX12_isIn_7 (by decide) (fun _ => ?_) (fun c => by exfalso; have h9 := xngt (k := -1) (by decide) c; omega)
    refine lv_iconst (v := 0) hx hb dX12_isIn_14 (by decide) ?_
    have hP9 := hP.sub (ws' := []) [] rfl
    have hD9 := hD.sub (ws' := []) [] (by decide +kernel) rfl
    rw [hQ]
    exact W.zret (v := 0) hx hb hr rfl (fun t ht hW => ⟨⟨0, (), rfl, rfl, ⟨xa [], xf [], xh [], xv [], by rw [ht]; exact hP9, hD9, trivial⟩⟩, hS.F ht⟩) hS.2.2 dX12_isIn_15
abbrev pre_X12_isNameOf (T : Nat → ClassId) (a ex : Nat → Nat) (fi : Nat → Nat → Int32) (fl : Nat → Nat → Int64) (vi : Nat → Int32) : va_W := [((a 0), .inr (12, ((.int 0) :: (.ref (ex 0)) :: (.int 0) :: (.int 0) :: (.int 0) :: (.int 0) :: (.ref (a 1)) :: (.ref (ex 1)) :: (.ref (ex 2)) :: (.ref (ex 3)) :: (.ref (ex 4)) :: (.int 0) :: (.int 0) :: (.int 0) :: (.int 0) :: (.int 0) :: (.int 0) :: (.long 0) :: (.int 0) :: (.int 0) :: (.int 0) :: (.ref (ex 5)) :: (.ref (ex 6)) :: (.int 0) :: (.ref (ex 7)) :: (.int (-1)) :: (.int 0) :: (.int 0) :: (.int 0) :: (.int 0) :: (.int 0) :: (.int 0) :: (.ref (ex 8)) :: (.int 0) :: (.ref (ex 9)) :: (.int 0) :: (.int 0) :: (.int 0) :: (.int 0) :: (.int 0) :: (.ref (ex 10)) :: (.ref (ex 11)) :: (.ref (ex 12)) :: (.ref (ex 13)) :: []))), ((a 1), .inl (T 1, 2187, .inl (fun _ => 0)))]
set_option maxHeartbeats 4000000 in
set_option maxRecDepth 100000 in
theorem c_X12_isNameOf (l : Launch) (D : va_G) (T : Nat → ClassId) (a ex : Nat → Nat) (fi : Nat → Nat → Int32) (fl : Nat → Nat → Int64) (vi : Nat → Int32) (sz : Nat) : Met l yX12_isNameOf (xw yX12_isNameOf cX12_isNameOf 2 (some .boolean)) ({ frames := 1, cells := 0, slots := 0, locals := 26 }) (xP D T [.ref (a 0), .int (vi 0)] sz (pre_X12_isNameOf T a ex fi fl vi)) (va_Qi (fun r (_ : Unit) => r = 0) (xB D (va_A (pre_X12_isNameOf T a ex fi fl vi) sz) (fun _ => True) (fun b fj fm vj => [((a 0), .inr (12, ((.int 0) :: (.ref (ex 0)) :: (.int 0) :: (.int 0) :: (.int 0) :: (.int 0) :: (.ref (a 1)) :: (.ref (ex 1)) :: (.ref (ex 2)) :: (.ref (ex 3)) :: (.ref (ex 4)) :: (.int 0) :: (.int 0) :: (.int 0) :: (.int 0) :: (.int 0) :: (.int 0) :: (.long 0) :: (.int 0) :: (.int 0) :: (.int 0) :: (.ref (ex 5)) :: (.ref (ex 6)) :: (.int 0) :: (.ref (ex 7)) :: (.int (-1)) :: (.int 0) :: (.int 0) :: (.int 0) :: (.int 0) :: (.int 0) :: (.int 0) :: (.ref (ex 8)) :: (.int 0) :: (.ref (ex 9)) :: (.int 0) :: (.int 0) :: (.int 0) :: (.int 0) :: (.int 0) :: (.ref (ex 10)) :: (.ref (ex 11)) :: (.ref (ex 12)) :: (.ref (ex 13)) :: []))), ((a 1), .inl (T 1, 2187, .inl (fun _ => 0)))])) (va_A (pre_X12_isNameOf T a ex fi fl vi) sz)) 0 0 (va_A (pre_X12_isNameOf T a ex fi fl vi) sz) := by
  refine xofW (cc := cX12_isNameOf) (maxL := 2) (ret := (some .boolean)) (by decide) rfl ?_
  intro p e s m args below meth c s₁ R Q hR hQ B hml hv
  obtain ⟨rfl, hsz, hP, hK, hD0⟩ := hv
  have hx := B.exec
  have hb := B.bytes
  have hr := B.returns
  have hts := atoms_spec (ws := xw yX12_isNameOf cX12_isNameOf 2 (some .boolean)) B.pre
  have htg : ∀ w ∈ xg, w.before _ s = true := fun w h => hts w (List.mem_cons_of_mem _ h)
  have hown : s.vm.findClass RX12 = some m.cls := findClass_of_methodNamed B.named
  have hlocks := B.notSynchronized
  subst hsz
  have hD := hD0.self (sz := s.heap.size)
  generalize hAe : va_A (pre_X12_isNameOf T a ex fi fl vi) s.heap.size = A at hD hQ
  have hA : ∀ q : Nat, s.heap.size ≤ q → A q := fun q h => by rw [← hAe]; exact Or.inr h
  have hS : va_S A s.heap s.heap [] := va_S.rf
  replace hP : va_P D vwCl [((a 0), .inr (12, ((.int 0) :: (.ref (ex 0)) :: (.int 0) :: (.int 0) :: (.int 0) :: (.int 0) :: (.ref (a 1)) :: (.ref (ex 1)) :: (.ref (ex 2)) :: (.ref (ex 3)) :: (.ref (ex 4)) :: (.int 0) :: (.int 0) :: (.int 0) :: (.int 0) :: (.int 0) :: (.int 0) :: (.long 0) :: (.int 0) :: (.int 0) :: (.int 0) :: (.ref (ex 5)) :: (.ref (ex 6)) :: (.int 0) :: (.ref (ex 7)) :: (.int (-1)) :: (.int 0) :: (.int 0) :: (.int 0) :: (.int 0) :: (.int 0) :: (.int 0) :: (.ref (ex 8)) :: (.int 0) :: (.ref (ex 9)) :: (.int 0) :: (.int 0) :: (.int 0) :: (.int 0) :: (.int 0) :: (.ref (ex 10)) :: (.ref (ex 11)) :: (.ref (ex 12)) :: (.ref (ex 13)) :: []))), ((a 1), .inl (T 1, 2187, .inl (fun _ => 0)))] s.heap := hP
  replace hD : va_D A [((a 0), .inr (12, ((.int 0) :: (.ref (ex 0)) :: (.int 0) :: (.int 0) :: (.int 0) :: (.int 0) :: (.ref (a 1)) :: (.ref (ex 1)) :: (.ref (ex 2)) :: (.ref (ex 3)) :: (.ref (ex 4)) :: (.int 0) :: (.int 0) :: (.int 0) :: (.int 0) :: (.int 0) :: (.int 0) :: (.long 0) :: (.int 0) :: (.int 0) :: (.int 0) :: (.ref (ex 5)) :: (.ref (ex 6)) :: (.int 0) :: (.ref (ex 7)) :: (.int (-1)) :: (.int 0) :: (.int 0) :: (.int 0) :: (.int 0) :: (.int 0) :: (.int 0) :: (.ref (ex 8)) :: (.int 0) :: (.ref (ex 9)) :: (.int 0) :: (.int 0) :: (.int 0) :: (.int 0) :: (.int 0) :: (.ref (ex 10)) :: (.ref (ex 11)) :: (.ref (ex 12)) :: (.ref (ex 13)) :: []))), ((a 1), .inl (T 1, 2187, .inl (fun _ => 0)))] := hD
  have hl := lv_entry ([.ref (a 0), .int (vi 0)]) (n := 2) (Nat.le_of_ble_eq_true rfl)
  rw [lg_entry_eq]
  generalize (lg_sl ([.ref (a 0), .int (vi 0)]) ++ List.replicate (2 - (lg_sl ([.ref (a 0), .int (vi 0)])).length) Slot.unset).toArray = ls at hl ⊢
  replace hl : lv_has ls 2 [(0, .ref (a 0)), (1, .int (vi 0))] := hl
  refine lv_iload_n hx hb dX12_isNameOf_0 rfl (lv_at hl 1 rfl) ?_
  refine lv_iconst (v := 0) hx hb dX12_isNameOf_1 (by decide) ?_
  refine lv_aload_n hx hb dX12_isNameOf_2 rfl (lv_at hl 0 rfl) ?_
  refine va_get (D := D) (ci := 12) (v := .ref (a 1)) (C := RX12) (T := TX12) (N := 44) hx hb htg inX12 hown hK.1 hP 0 rfl rfl 6 (by decide) (htg _ kw_1413) (fun _ h9 => h9) rfl dX12_isNameOf_3 ?_
  refine lv_iconst (v := 0) hx hb dX12_isNameOf_6 (by decide) ?_
  refine va_iald hx hb hK.1 hP 1 1 rfl rfl (vp_in_nI (n := 0) (by decide) (by decide)) dX12_isNameOf_7 ?_
  refine xz_i 0 rfl ?_
  refine lv_iconst (v := 1) hx hb dX12_isNameOf_8 (by decide) ?_
  refine lv_isub hx hb dX12_isNameOf_9 ?_
  refine xz_i (-1) (by decide) ?_
  have hPc := hP.sub (ws' := (pre_X12_isIn T (xa []) (xa []) (xf []) (xh []) (xv [(vi 0)]))) [] rfl
  have hDc := hD.sub (ws' := (pre_X12_isIn T (xa []) (xa []) (xf []) (xh []) (xv [(vi 0)]))) [] (by decide) rfl
  have hFc := va_free (wc := (pre_X12_isIn T (xa []) (xa []) (xf []) (xh []) (xv [(vi 0)]))) hD hS hA [] rfl
  refine va_calli (va_runS (As := [.int (vi 0), .int 0, .int (-1)]) (rest := []) ⟨hx, hb, hml, hown, htg⟩ (c_X12_isIn l D T (xa []) (xa []) (xf []) (xh []) (xv [(vi 0)]) s.heap.size) ⟨callB_of 3 htg (xg_ok kw_1597) rfl rfl rfl (htg _ kw_17) (htg _ kw_1595) (by decide +kernel) ⟨by rw [hR]; exact Nat.le_of_ble_eq_true rfl, by rw [hR]; exact Nat.le_of_ble_eq_true rfl⟩, htg _ kw_1596⟩ (xpreS hK hPc hDc) rfl rfl hl.1 rfl (lv_room (Nat.le_of_ble_eq_true rfl)) dX12_isNameOf_10 ⟨by rw [hR]; exact Nat.le_of_ble_eq_true rfl, by rw [hR]; exact Nat.le_of_ble_eq_true rfl⟩) hS (fun q _ h => hFc q h) hFc (fun r9 u t H1 locs ht hvm hw hB hz1 hk1 hS => ?_)
  obtain ⟨bk, fik, flk, vik, hP1, hD1, hGk⟩ := hB
  rw [ht] at hP1
  obtain ⟨hP, hD⟩ := va_join (wr := [((a 0), .inr (12, ((.int 0) :: (.ref (ex 0)) :: (.int 0) :: (.int 0) :: (.int 0) :: (.int 0) :: (.ref (a 1)) :: (.ref (ex 1)) :: (.ref (ex 2)) :: (.ref (ex 3)) :: (.ref (ex 4)) :: (.int 0) :: (.int 0) :: (.int 0) :: (.int 0) :: (.int 0) :: (.int 0) :: (.long 0) :: (.int 0) :: (.int 0) :: (.int 0) :: (.ref (ex 5)) :: (.ref (ex 6)) :: (.int 0) :: (.ref (ex 7)) :: (.int (-1)) :: (.int 0) :: (.int 0) :: (.int 0) :: (.int 0) :: (.int 0) :: (.int 0) :: (.ref (ex 8)) :: (.int 0) :: (.ref (ex 9)) :: (.int 0) :: (.int 0) :: (.int 0) :: (.int 0) :: (.int 0) :: (.ref (ex 10)) :: (.ref (ex 11)) :: (.ref (ex 12)) :: (.ref (ex 13)) :: []))), ((a 1), .inl (T 1, 2187, .inl (fun _ => 0)))]) (w1 := []) hP hD [] [0, 1] rfl rfl (by decide) (by decide) hk1 hFc hP1 hD1
  subst hw
  clear hPc hDc hFc hP1 hD1 hk1 hz1 hvm ht
  generalize H1 = H at hP hS ⊢
  replace hP : va_P D vwCl [((a 0), .inr (12, ((.int 0) :: (.ref (ex 0)) :: (.int 0) :: (.int 0) :: (.int 0) :: (.int 0) :: (.ref (a 1)) :: (.ref (ex 1)) :: (.ref (ex 2)) :: (.ref (ex 3)) :: (.ref (ex 4)) :: (.int 0) :: (.int 0) :: (.int 0) :: (.int 0) :: (.int 0) :: (.int 0) :: (.long 0) :: (.int 0) :: (.int 0) :: (.int 0) :: (.ref (ex 5)) :: (.ref (ex 6)) :: (.int 0) :: (.ref (ex 7)) :: (.int (-1)) :: (.int 0) :: (.int 0) :: (.int 0) :: (.int 0) :: (.int 0) :: (.int 0) :: (.ref (ex 8)) :: (.int 0) :: (.ref (ex 9)) :: (.int 0) :: (.int 0) :: (.int 0) :: (.int 0) :: (.int 0) :: (.ref (ex 10)) :: (.ref (ex 11)) :: (.ref (ex 12)) :: (.ref (ex 13)) :: []))), ((a 1), .inl (T 1, 2187, .inl (fun _ => 0)))] H := hP
  replace hD : va_D A [((a 0), .inr (12, ((.int 0) :: (.ref (ex 0)) :: (.int 0) :: (.int 0) :: (.int 0) :: (.int 0) :: (.ref (a 1)) :: (.ref (ex 1)) :: (.ref (ex 2)) :: (.ref (ex 3)) :: (.ref (ex 4)) :: (.int 0) :: (.int 0) :: (.int 0) :: (.int 0) :: (.int 0) :: (.int 0) :: (.long 0) :: (.int 0) :: (.int 0) :: (.int 0) :: (.ref (ex 5)) :: (.ref (ex 6)) :: (.int 0) :: (.ref (ex 7)) :: (.int (-1)) :: (.int 0) :: (.int 0) :: (.int 0) :: (.int 0) :: (.int 0) :: (.int 0) :: (.ref (ex 8)) :: (.int 0) :: (.ref (ex 9)) :: (.int 0) :: (.int 0) :: (.int 0) :: (.int 0) :: (.int 0) :: (.ref (ex 10)) :: (.ref (ex 11)) :: (.ref (ex 12)) :: (.ref (ex 13)) :: []))), ((a 1), .inl (T 1, 2187, .inl (fun _ => 0)))] := hD
  have hP9 := hP.sub (ws' := [((a 0), .inr (12, ((.int 0) :: (.ref (ex 0)) :: (.int 0) :: (.int 0) :: (.int 0) :: (.int 0) :: (.ref (a 1)) :: (.ref (ex 1)) :: (.ref (ex 2)) :: (.ref (ex 3)) :: (.ref (ex 4)) :: (.int 0) :: (.int 0) :: (.int 0) :: (.int 0) :: (.int 0) :: (.int 0) :: (.long 0) :: (.int 0) :: (.int 0) :: (.int 0) :: (.ref (ex 5)) :: (.ref (ex 6)) :: (.int 0) :: (.ref (ex 7)) :: (.int (-1)) :: (.int 0) :: (.int 0) :: (.int 0) :: (.int 0) :: (.int 0) :: (.int 0) :: (.ref (ex 8)) :: (.int 0) :: (.ref (ex 9)) :: (.int 0) :: (.int 0) :: (.int 0) :: (.int 0) :: (.int 0) :: (.ref (ex 10)) :: (.ref (ex 11)) :: (.ref (ex 12)) :: (.ref (ex 13)) :: []))), ((a 1), .inl (T 1, 2187, .inl (fun _ => 0)))]) [0, 1] rfl
  have hD9 := hD.sub (ws' := [((a 0), .inr (12, ((.int 0) :: (.ref (ex 0)) :: (.int 0) :: (.int 0) :: (.int 0) :: (.int 0) :: (.ref (a 1)) :: (.ref (ex 1)) :: (.ref (ex 2)) :: (.ref (ex 3)) :: (.ref (ex 4)) :: (.int 0) :: (.int 0) :: (.int 0) :: (.int 0) :: (.int 0) :: (.int 0) :: (.long 0) :: (.int 0) :: (.int 0) :: (.int 0) :: (.ref (ex 5)) :: (.ref (ex 6)) :: (.int 0) :: (.ref (ex 7)) :: (.int (-1)) :: (.int 0) :: (.int 0) :: (.int 0) :: (.int 0) :: (.int 0) :: (.int 0) :: (.ref (ex 8)) :: (.int 0) :: (.ref (ex 9)) :: (.int 0) :: (.int 0) :: (.int 0) :: (.int 0) :: (.int 0) :: (.ref (ex 10)) :: (.ref (ex 11)) :: (.ref (ex 12)) :: (.ref (ex 13)) :: []))), ((a 1), .inl (T 1, 2187, .inl (fun _ => 0)))]) [0, 1] (by decide +kernel) rfl
  rw [hQ]
  exact W.zret (v := 0) hx hb hr rfl (fun t ht hW => ⟨⟨0, (), rfl, rfl, ⟨xa [], xf [], xh [], xv [], by rw [ht]; exact hP9, hD9, trivial⟩⟩, hS.F ht⟩) hS.2.2 dX12_isNameOf_13
abbrev pre_X12_name (T : Nat → ClassId) (a ex : Nat → Nat) (fi : Nat → Nat → Int32) (fl : Nat → Nat → Int64) (vi : Nat → Int32) : va_W := [((a 0), .inr (12, ((.int 0) :: (.ref (ex 0)) :: (.int 0) :: (.int 0) :: (.int 0) :: (.int 0) :: (.ref (a 1)) :: (.ref (ex 1)) :: (.ref (ex 2)) :: (.ref (ex 3)) :: (.ref (ex 4)) :: (.int 0) :: (.int 0) :: (.int 0) :: (.int 0) :: (.int 0) :: (.int 0) :: (.long 0) :: (.int 0) :: (.int 0) :: (.int 0) :: (.ref (ex 5)) :: (.ref (ex 6)) :: (.int 0) :: (.ref (ex 7)) :: (.int (-1)) :: (.int 0) :: (.int 0) :: (.int 0) :: (.int 0) :: (.int 0) :: (.int 0) :: (.ref (ex 8)) :: (.int 0) :: (.ref (ex 9)) :: (.int 0) :: (.int 0) :: (.int 0) :: (.int 0) :: (.int 0) :: (.ref (ex 10)) :: (.ref (ex 11)) :: (.ref (ex 12)) :: (.ref (ex 13)) :: []))), ((a 1), .inl (T 1, 2187, .inl (fun _ => 0)))]
set_option maxHeartbeats 4000000 in
set_option maxRecDepth 100000 in
theorem c_X12_name (l : Launch) (D : va_G) (T : Nat → ClassId) (a ex : Nat → Nat) (fi : Nat → Nat → Int32) (fl : Nat → Nat → Int64) (vi : Nat → Int32) (sz : Nat) : Met l yX12_name (xw yX12_name cX12_name 3 (some .int)) ({ frames := 2, cells := 0, slots := 0, locals := 51 }) (xP D T [.ref (a 0), .int (vi 0), .int (vi 1)] sz (pre_X12_name T a ex fi fl vi)) (va_Qi (fun r (_ : Unit) => r = (-1)) (xB D (va_A (pre_X12_name T a ex fi fl vi) sz) (fun _ => True) (fun b fj fm vj => [])) (va_A (pre_X12_name T a ex fi fl vi) sz)) 0 0 (va_A (pre_X12_name T a ex fi fl vi) sz) := by
  refine xofW (cc := cX12_name) (maxL := 3) (ret := (some .int)) (by decide) rfl ?_
  intro p e s m args below meth c s₁ R Q hR hQ B hml hv
  obtain ⟨rfl, hsz, hP, hK, hD0⟩ := hv
  have hx := B.exec
  have hb := B.bytes
  have hr := B.returns
  have hts := atoms_spec (ws := xw yX12_name cX12_name 3 (some .int)) B.pre
  have htg : ∀ w ∈ xg, w.before _ s = true := fun w h => hts w (List.mem_cons_of_mem _ h)
  have hown : s.vm.findClass RX12 = some m.cls := findClass_of_methodNamed B.named
  have hlocks := B.notSynchronized
  subst hsz
  have hD := hD0.self (sz := s.heap.size)
  generalize hAe : va_A (pre_X12_name T a ex fi fl vi) s.heap.size = A at hD hQ
  have hA : ∀ q : Nat, s.heap.size ≤ q → A q := fun q h => by rw [← hAe]; exact Or.inr h
  have hS : va_S A s.heap s.heap [] := va_S.rf
  replace hP : va_P D vwCl [((a 0), .inr (12, ((.int 0) :: (.ref (ex 0)) :: (.int 0) :: (.int 0) :: (.int 0) :: (.int 0) :: (.ref (a 1)) :: (.ref (ex 1)) :: (.ref (ex 2)) :: (.ref (ex 3)) :: (.ref (ex 4)) :: (.int 0) :: (.int 0) :: (.int 0) :: (.int 0) :: (.int 0) :: (.int 0) :: (.long 0) :: (.int 0) :: (.int 0) :: (.int 0) :: (.ref (ex 5)) :: (.ref (ex 6)) :: (.int 0) :: (.ref (ex 7)) :: (.int (-1)) :: (.int 0) :: (.int 0) :: (.int 0) :: (.int 0) :: (.int 0) :: (.int 0) :: (.ref (ex 8)) :: (.int 0) :: (.ref (ex 9)) :: (.int 0) :: (.int 0) :: (.int 0) :: (.int 0) :: (.int 0) :: (.ref (ex 10)) :: (.ref (ex 11)) :: (.ref (ex 12)) :: (.ref (ex 13)) :: []))), ((a 1), .inl (T 1, 2187, .inl (fun _ => 0)))] s.heap := hP
  replace hD : va_D A [((a 0), .inr (12, ((.int 0) :: (.ref (ex 0)) :: (.int 0) :: (.int 0) :: (.int 0) :: (.int 0) :: (.ref (a 1)) :: (.ref (ex 1)) :: (.ref (ex 2)) :: (.ref (ex 3)) :: (.ref (ex 4)) :: (.int 0) :: (.int 0) :: (.int 0) :: (.int 0) :: (.int 0) :: (.int 0) :: (.long 0) :: (.int 0) :: (.int 0) :: (.int 0) :: (.ref (ex 5)) :: (.ref (ex 6)) :: (.int 0) :: (.ref (ex 7)) :: (.int (-1)) :: (.int 0) :: (.int 0) :: (.int 0) :: (.int 0) :: (.int 0) :: (.int 0) :: (.ref (ex 8)) :: (.int 0) :: (.ref (ex 9)) :: (.int 0) :: (.int 0) :: (.int 0) :: (.int 0) :: (.int 0) :: (.ref (ex 10)) :: (.ref (ex 11)) :: (.ref (ex 12)) :: (.ref (ex 13)) :: []))), ((a 1), .inl (T 1, 2187, .inl (fun _ => 0)))] := hD
  have hl := lv_entry ([.ref (a 0), .int (vi 0), .int (vi 1)]) (n := 3) (Nat.le_of_ble_eq_true rfl)
  rw [lg_entry_eq]
  generalize (lg_sl ([.ref (a 0), .int (vi 0), .int (vi 1)]) ++ List.replicate (3 - (lg_sl ([.ref (a 0), .int (vi 0), .int (vi 1)])).length) Slot.unset).toArray = ls at hl ⊢
  replace hl : lv_has ls 3 [(0, .ref (a 0)), (1, .int (vi 0)), (2, .int (vi 1))] := hl
  refine lv_aload_n hx hb dX12_name_0 rfl (lv_at hl 0 rfl) ?_
  refine lv_iconst (v := 0) hx hb dX12_name_1 (by decide) ?_
  refine va_put (D := D) (ci := 12) (v := .int 0) (ty := .int) (C := RX12) (T := TX12) (N := 44) hx hb htg inX12 tyX12 tyX12_ok nmX12 hown hK.1 hP hD hS 0 rfl rfl 0 (by decide) (htg _ kw_1407) (fun _ h9 => h9) rfl (by decide +kernel) rfl rfl (Nat.le_of_ble_eq_true rfl) dX12_name_2 (fun H locs hP hD hS => ?_)
  replace hP : va_P D vwCl [((a 0), .inr (12, ((.int 0) :: (.ref (ex 0)) :: (.int 0) :: (.int 0) :: (.int 0) :: (.int 0) :: (.ref (a 1)) :: (.ref (ex 1)) :: (.ref (ex 2)) :: (.ref (ex 3)) :: (.ref (ex 4)) :: (.int 0) :: (.int 0) :: (.int 0) :: (.int 0) :: (.int 0) :: (.int 0) :: (.long 0) :: (.int 0) :: (.int 0) :: (.int 0) :: (.ref (ex 5)) :: (.ref (ex 6)) :: (.int 0) :: (.ref (ex 7)) :: (.int (-1)) :: (.int 0) :: (.int 0) :: (.int 0) :: (.int 0) :: (.int 0) :: (.int 0) :: (.ref (ex 8)) :: (.int 0) :: (.ref (ex 9)) :: (.int 0) :: (.int 0) :: (.int 0) :: (.int 0) :: (.int 0) :: (.ref (ex 10)) :: (.ref (ex 11)) :: (.ref (ex 12)) :: (.ref (ex 13)) :: []))), ((a 1), .inl (T 1, 2187, .inl (fun _ => 0)))] H := hP
  replace hD : va_D A [((a 0), .inr (12, ((.int 0) :: (.ref (ex 0)) :: (.int 0) :: (.int 0) :: (.int 0) :: (.int 0) :: (.ref (a 1)) :: (.ref (ex 1)) :: (.ref (ex 2)) :: (.ref (ex 3)) :: (.ref (ex 4)) :: (.int 0) :: (.int 0) :: (.int 0) :: (.int 0) :: (.int 0) :: (.int 0) :: (.long 0) :: (.int 0) :: (.int 0) :: (.int 0) :: (.ref (ex 5)) :: (.ref (ex 6)) :: (.int 0) :: (.ref (ex 7)) :: (.int (-1)) :: (.int 0) :: (.int 0) :: (.int 0) :: (.int 0) :: (.int 0) :: (.int 0) :: (.ref (ex 8)) :: (.int 0) :: (.ref (ex 9)) :: (.int 0) :: (.int 0) :: (.int 0) :: (.int 0) :: (.int 0) :: (.ref (ex 10)) :: (.ref (ex 11)) :: (.ref (ex 12)) :: (.ref (ex 13)) :: []))), ((a 1), .inl (T 1, 2187, .inl (fun _ => 0)))] := hD
  refine lv_aload_n hx hb dX12_name_5 rfl (lv_at hl 0 rfl) ?_
  refine lv_iload_n hx hb dX12_name_6 rfl (lv_at hl 1 rfl) ?_
  have hPc := hP.sub (ws' := (pre_X12_isNameOf T (xa [(a 0), (a 1)]) (xa [(ex 0), (ex 1), (ex 2), (ex 3), (ex 4), (ex 5), (ex 6), (ex 7), (ex 8), (ex 9), (ex 10), (ex 11), (ex 12), (ex 13)]) (xf []) (xh []) (xv [(vi 0)]))) [0, 1] rfl
  have hDc := hD.sub (ws' := (pre_X12_isNameOf T (xa [(a 0), (a 1)]) (xa [(ex 0), (ex 1), (ex 2), (ex 3), (ex 4), (ex 5), (ex 6), (ex 7), (ex 8), (ex 9), (ex 10), (ex 11), (ex 12), (ex 13)]) (xf []) (xh []) (xv [(vi 0)]))) [0, 1] (by decide) rfl
  have hFc := va_free (wc := (pre_X12_isNameOf T (xa [(a 0), (a 1)]) (xa [(ex 0), (ex 1), (ex 2), (ex 3), (ex 4), (ex 5), (ex 6), (ex 7), (ex 8), (ex 9), (ex 10), (ex 11), (ex 12), (ex 13)]) (xf []) (xh []) (xv [(vi 0)]))) hD hS hA [0, 1] rfl
  refine va_calli (va_runV (As := [.int (vi 0)]) (rest := []) ⟨hx, hb, hml, hown, htg⟩ (c_X12_isNameOf l D T (xa [(a 0), (a 1)]) (xa [(ex 0), (ex 1), (ex 2), (ex 3), (ex 4), (ex 5), (ex 6), (ex 7), (ex 8), (ex 9), (ex 10), (ex 11), (ex 12), (ex 13)]) (xf []) (xh []) (xv [(vi 0)]) H.size) ⟨callB_of 1 htg (xg_ok kw_1632) rfl rfl rfl (htg _ kw_17) (htg _ kw_1629) (by decide +kernel) ⟨by rw [hR]; exact Nat.le_of_ble_eq_true rfl, by rw [hR]; exact Nat.le_of_ble_eq_true rfl⟩, htg _ kw_1631, htg _ ks_131⟩ (xpreV hK hPc hDc (va_recv hK.1 hPc (ci := 12) (q0 := 0) rfl rfl)) rfl rfl hl.1 rfl (lv_room (Nat.le_of_ble_eq_true rfl)) dX12_name_7 ⟨by rw [hR]; exact Nat.le_of_ble_eq_true rfl, by rw [hR]; exact Nat.le_of_ble_eq_true rfl⟩) hS (fun q _ h => hFc q h) hFc (fun r9 u t H1 locs ht hvm hw hB hz1 hk1 hS => ?_)
  obtain ⟨bk, fik, flk, vik, hP1, hD1, hGk⟩ := hB
  rw [ht] at hP1
  obtain ⟨hP, hD⟩ := va_join (wr := []) (w1 := [((a 0), .inr (12, ((.int 0) :: (.ref (ex 0)) :: (.int 0) :: (.int 0) :: (.int 0) :: (.int 0) :: (.ref (a 1)) :: (.ref (ex 1)) :: (.ref (ex 2)) :: (.ref (ex 3)) :: (.ref (ex 4)) :: (.int 0) :: (.int 0) :: (.int 0) :: (.int 0) :: (.int 0) :: (.int 0) :: (.long 0) :: (.int 0) :: (.int 0) :: (.int 0) :: (.ref (ex 5)) :: (.ref (ex 6)) :: (.int 0) :: (.ref (ex 7)) :: (.int (-1)) :: (.int 0) :: (.int 0) :: (.int 0) :: (.int 0) :: (.int 0) :: (.int 0) :: (.ref (ex 8)) :: (.int 0) :: (.ref (ex 9)) :: (.int 0) :: (.int 0) :: (.int 0) :: (.int 0) :: (.int 0) :: (.ref (ex 10)) :: (.ref (ex 11)) :: (.ref (ex 12)) :: (.ref (ex 13)) :: []))), ((a 1), .inl (T 1, 2187, .inl (fun _ => 0)))]) hP hD [0, 1] [] rfl rfl (by decide) (by decide) hk1 hFc hP1 hD1
  subst hw
  clear hPc hDc hFc hP1 hD1 hk1 hz1 hvm ht
  generalize H1 = H at hP hS ⊢
  replace hP : va_P D vwCl [((a 0), .inr (12, ((.int 0) :: (.ref (ex 0)) :: (.int 0) :: (.int 0) :: (.int 0) :: (.int 0) :: (.ref (a 1)) :: (.ref (ex 1)) :: (.ref (ex 2)) :: (.ref (ex 3)) :: (.ref (ex 4)) :: (.int 0) :: (.int 0) :: (.int 0) :: (.int 0) :: (.int 0) :: (.int 0) :: (.long 0) :: (.int 0) :: (.int 0) :: (.int 0) :: (.ref (ex 5)) :: (.ref (ex 6)) :: (.int 0) :: (.ref (ex 7)) :: (.int (-1)) :: (.int 0) :: (.int 0) :: (.int 0) :: (.int 0) :: (.int 0) :: (.int 0) :: (.ref (ex 8)) :: (.int 0) :: (.ref (ex 9)) :: (.int 0) :: (.int 0) :: (.int 0) :: (.int 0) :: (.int 0) :: (.ref (ex 10)) :: (.ref (ex 11)) :: (.ref (ex 12)) :: (.ref (ex 13)) :: []))), ((a 1), .inl (T 1, 2187, .inl (fun _ => 0)))] H := hP
  replace hD : va_D A [((a 0), .inr (12, ((.int 0) :: (.ref (ex 0)) :: (.int 0) :: (.int 0) :: (.int 0) :: (.int 0) :: (.ref (a 1)) :: (.ref (ex 1)) :: (.ref (ex 2)) :: (.ref (ex 3)) :: (.ref (ex 4)) :: (.int 0) :: (.int 0) :: (.int 0) :: (.int 0) :: (.int 0) :: (.int 0) :: (.long 0) :: (.int 0) :: (.int 0) :: (.int 0) :: (.ref (ex 5)) :: (.ref (ex 6)) :: (.int 0) :: (.ref (ex 7)) :: (.int (-1)) :: (.int 0) :: (.int 0) :: (.int 0) :: (.int 0) :: (.int 0) :: (.int 0) :: (.ref (ex 8)) :: (.int 0) :: (.ref (ex 9)) :: (.int 0) :: (.int 0) :: (.int 0) :: (.int 0) :: (.int 0) :: (.ref (ex 10)) :: (.ref (ex 11)) :: (.ref (ex 12)) :: (.ref (ex 13)) :: []))), ((a 1), .inl (T 1, 2187, .inl (fun _ => 0)))] := hD
  refine lv_if_ne (tgt := 15) hx hb dX12_name_10 (by decide) (fun c => absurd (by decide) c) (fun _ => ?_)
  refine lv_iconst (v := (-1)) hx hb dX12_name_13 (by decide) ?_
  have hP9 := hP.sub (ws' := []) [] rfl
  have hD9 := hD.sub (ws' := []) [] (by decide) rfl
  rw [hQ]
  exact W.iret (v := (-1)) hx hb hr (fun t ht hW => ⟨⟨(-1), (), rfl, rfl, ⟨xa [], xf [], xh [], xv [], by rw [ht]; exact hP9, hD9, trivial⟩⟩, hS.F ht⟩) hS.2.2 dX12_name_14
abbrev pre_X12_isSoul (T : Nat → ClassId) (a ex : Nat → Nat) (fi : Nat → Nat → Int32) (fl : Nat → Nat → Int64) (vi : Nat → Int32) : va_W := [((a 0), .inr (12, ((.int 0) :: (.ref (ex 0)) :: (.int 0) :: (.int 0) :: (.int 0) :: (.int 0) :: (.ref (a 1)) :: (.ref (ex 1)) :: (.ref (ex 2)) :: (.ref (ex 3)) :: (.ref (ex 4)) :: (.int 0) :: (.int 0) :: (.int 0) :: (.int 0) :: (.int 0) :: (.int 0) :: (.long 0) :: (.int 0) :: (.int 0) :: (.int 0) :: (.ref (ex 5)) :: (.ref (ex 6)) :: (.int 0) :: (.ref (ex 7)) :: (.int (-1)) :: (.int 0) :: (.int 0) :: (.int 0) :: (.int 0) :: (.int 0) :: (.int 0) :: (.ref (ex 8)) :: (.int 0) :: (.ref (ex 9)) :: (.int 0) :: (.int 0) :: (.int 0) :: (.int 0) :: (.int 0) :: (.ref (ex 10)) :: (.ref (ex 11)) :: (.ref (ex 12)) :: (.ref (ex 13)) :: []))), ((a 1), .inl (T 1, 2187, .inl (fun _ => 0)))]
set_option maxHeartbeats 4000000 in
set_option maxRecDepth 100000 in
theorem c_X12_isSoul (l : Launch) (D : va_G) (T : Nat → ClassId) (a ex : Nat → Nat) (fi : Nat → Nat → Int32) (fl : Nat → Nat → Int64) (vi : Nat → Int32) (sz : Nat) : Met l yX12_isSoul (xw yX12_isSoul cX12_isSoul 2 (some .boolean)) ({ frames := 1, cells := 0, slots := 0, locals := 26 }) (xP D T [.ref (a 0), .int (vi 0)] sz (pre_X12_isSoul T a ex fi fl vi)) (va_Qi (fun r (_ : Unit) => r = 0) (xB D (va_A (pre_X12_isSoul T a ex fi fl vi) sz) (fun _ => True) (fun b fj fm vj => [((a 0), .inr (12, ((.int 0) :: (.ref (ex 0)) :: (.int 0) :: (.int 0) :: (.int 0) :: (.int 0) :: (.ref (a 1)) :: (.ref (ex 1)) :: (.ref (ex 2)) :: (.ref (ex 3)) :: (.ref (ex 4)) :: (.int 0) :: (.int 0) :: (.int 0) :: (.int 0) :: (.int 0) :: (.int 0) :: (.long 0) :: (.int 0) :: (.int 0) :: (.int 0) :: (.ref (ex 5)) :: (.ref (ex 6)) :: (.int 0) :: (.ref (ex 7)) :: (.int (-1)) :: (.int 0) :: (.int 0) :: (.int 0) :: (.int 0) :: (.int 0) :: (.int 0) :: (.ref (ex 8)) :: (.int 0) :: (.ref (ex 9)) :: (.int 0) :: (.int 0) :: (.int 0) :: (.int 0) :: (.int 0) :: (.ref (ex 10)) :: (.ref (ex 11)) :: (.ref (ex 12)) :: (.ref (ex 13)) :: []))), ((a 1), .inl (T 1, 2187, .inl (fun _ => 0)))])) (va_A (pre_X12_isSoul T a ex fi fl vi) sz)) 0 0 (va_A (pre_X12_isSoul T a ex fi fl vi) sz) := by
  refine xofW (cc := cX12_isSoul) (maxL := 2) (ret := (some .boolean)) (by decide) rfl ?_
  intro p e s m args below meth c s₁ R Q hR hQ B hml hv
  obtain ⟨rfl, hsz, hP, hK, hD0⟩ := hv
  have hx := B.exec
  have hb := B.bytes
  have hr := B.returns
  have hts := atoms_spec (ws := xw yX12_isSoul cX12_isSoul 2 (some .boolean)) B.pre
  have htg : ∀ w ∈ xg, w.before _ s = true := fun w h => hts w (List.mem_cons_of_mem _ h)
  have hown : s.vm.findClass RX12 = some m.cls := findClass_of_methodNamed B.named
  have hlocks := B.notSynchronized
  subst hsz
  have hD := hD0.self (sz := s.heap.size)
  generalize hAe : va_A (pre_X12_isSoul T a ex fi fl vi) s.heap.size = A at hD hQ
  have hA : ∀ q : Nat, s.heap.size ≤ q → A q := fun q h => by rw [← hAe]; exact Or.inr h
  have hS : va_S A s.heap s.heap [] := va_S.rf
  replace hP : va_P D vwCl [((a 0), .inr (12, ((.int 0) :: (.ref (ex 0)) :: (.int 0) :: (.int 0) :: (.int 0) :: (.int 0) :: (.ref (a 1)) :: (.ref (ex 1)) :: (.ref (ex 2)) :: (.ref (ex 3)) :: (.ref (ex 4)) :: (.int 0) :: (.int 0) :: (.int 0) :: (.int 0) :: (.int 0) :: (.int 0) :: (.long 0) :: (.int 0) :: (.int 0) :: (.int 0) :: (.ref (ex 5)) :: (.ref (ex 6)) :: (.int 0) :: (.ref (ex 7)) :: (.int (-1)) :: (.int 0) :: (.int 0) :: (.int 0) :: (.int 0) :: (.int 0) :: (.int 0) :: (.ref (ex 8)) :: (.int 0) :: (.ref (ex 9)) :: (.int 0) :: (.int 0) :: (.int 0) :: (.int 0) :: (.int 0) :: (.ref (ex 10)) :: (.ref (ex 11)) :: (.ref (ex 12)) :: (.ref (ex 13)) :: []))), ((a 1), .inl (T 1, 2187, .inl (fun _ => 0)))] s.heap := hP
  replace hD : va_D A [((a 0), .inr (12, ((.int 0) :: (.ref (ex 0)) :: (.int 0) :: (.int 0) :: (.int 0) :: (.int 0) :: (.ref (a 1)) :: (.ref (ex 1)) :: (.ref (ex 2)) :: (.ref (ex 3)) :: (.ref (ex 4)) :: (.int 0) :: (.int 0) :: (.int 0) :: (.int 0) :: (.int 0) :: (.int 0) :: (.long 0) :: (.int 0) :: (.int 0) :: (.int 0) :: (.ref (ex 5)) :: (.ref (ex 6)) :: (.int 0) :: (.ref (ex 7)) :: (.int (-1)) :: (.int 0) :: (.int 0) :: (.int 0) :: (.int 0) :: (.int 0) :: (.int 0) :: (.ref (ex 8)) :: (.int 0) :: (.ref (ex 9)) :: (.int 0) :: (.int 0) :: (.int 0) :: (.int 0) :: (.int 0) :: (.ref (ex 10)) :: (.ref (ex 11)) :: (.ref (ex 12)) :: (.ref (ex 13)) :: []))), ((a 1), .inl (T 1, 2187, .inl (fun _ => 0)))] := hD
  have hl := lv_entry ([.ref (a 0), .int (vi 0)]) (n := 2) (Nat.le_of_ble_eq_true rfl)
  rw [lg_entry_eq]
  generalize (lg_sl ([.ref (a 0), .int (vi 0)]) ++ List.replicate (2 - (lg_sl ([.ref (a 0), .int (vi 0)])).length) Slot.unset).toArray = ls at hl ⊢
  replace hl : lv_has ls 2 [(0, .ref (a 0)), (1, .int (vi 0))] := hl
  refine lv_iload_n hx hb dX12_isSoul_0 rfl (lv_at hl 1 rfl) ?_
  refine lv_iconst (v := 0) hx hb dX12_isSoul_1 (by decide) ?_
  refine lv_aload_n hx hb dX12_isSoul_2 rfl (lv_at hl 0 rfl) ?_
  refine va_get (D := D) (ci := 12) (v := .ref (a 1)) (C := RX12) (T := TX12) (N := 44) hx hb htg inX12 hown hK.1 hP 0 rfl rfl 6 (by decide) (htg _ kw_1413) (fun _ h9 => h9) rfl dX12_isSoul_3 ?_
  refine lv_iconst (v := 1) hx hb dX12_isSoul_6 (by decide) ?_
  refine va_iald hx hb hK.1 hP 1 1 rfl rfl (vp_in_nI (n := 1) (by decide) (by decide)) dX12_isSoul_7 ?_
  refine xz_i 0 rfl ?_
  refine lv_iconst (v := 1) hx hb dX12_isSoul_8 (by decide) ?_
  refine lv_isub hx hb dX12_isSoul_9 ?_
  refine xz_i (-1) (by decide) ?_
  have hPc := hP.sub (ws' := (pre_X12_isIn T (xa []) (xa []) (xf []) (xh []) (xv [(vi 0)]))) [] rfl
  have hDc := hD.sub (ws' := (pre_X12_isIn T (xa []) (xa []) (xf []) (xh []) (xv [(vi 0)]))) [] (by decide) rfl
  have hFc := va_free (wc := (pre_X12_isIn T (xa []) (xa []) (xf []) (xh []) (xv [(vi 0)]))) hD hS hA [] rfl
  refine va_calli (va_runS (As := [.int (vi 0), .int 0, .int (-1)]) (rest := []) ⟨hx, hb, hml, hown, htg⟩ (c_X12_isIn l D T (xa []) (xa []) (xf []) (xh []) (xv [(vi 0)]) s.heap.size) ⟨callB_of 3 htg (xg_ok kw_1597) rfl rfl rfl (htg _ kw_17) (htg _ kw_1595) (by decide +kernel) ⟨by rw [hR]; exact Nat.le_of_ble_eq_true rfl, by rw [hR]; exact Nat.le_of_ble_eq_true rfl⟩, htg _ kw_1596⟩ (xpreS hK hPc hDc) rfl rfl hl.1 rfl (lv_room (Nat.le_of_ble_eq_true rfl)) dX12_isSoul_10 ⟨by rw [hR]; exact Nat.le_of_ble_eq_true rfl, by rw [hR]; exact Nat.le_of_ble_eq_true rfl⟩) hS (fun q _ h => hFc q h) hFc (fun r9 u t H1 locs ht hvm hw hB hz1 hk1 hS => ?_)
  obtain ⟨bk, fik, flk, vik, hP1, hD1, hGk⟩ := hB
  rw [ht] at hP1
  obtain ⟨hP, hD⟩ := va_join (wr := [((a 0), .inr (12, ((.int 0) :: (.ref (ex 0)) :: (.int 0) :: (.int 0) :: (.int 0) :: (.int 0) :: (.ref (a 1)) :: (.ref (ex 1)) :: (.ref (ex 2)) :: (.ref (ex 3)) :: (.ref (ex 4)) :: (.int 0) :: (.int 0) :: (.int 0) :: (.int 0) :: (.int 0) :: (.int 0) :: (.long 0) :: (.int 0) :: (.int 0) :: (.int 0) :: (.ref (ex 5)) :: (.ref (ex 6)) :: (.int 0) :: (.ref (ex 7)) :: (.int (-1)) :: (.int 0) :: (.int 0) :: (.int 0) :: (.int 0) :: (.int 0) :: (.int 0) :: (.ref (ex 8)) :: (.int 0) :: (.ref (ex 9)) :: (.int 0) :: (.int 0) :: (.int 0) :: (.int 0) :: (.int 0) :: (.ref (ex 10)) :: (.ref (ex 11)) :: (.ref (ex 12)) :: (.ref (ex 13)) :: []))), ((a 1), .inl (T 1, 2187, .inl (fun _ => 0)))]) (w1 := []) hP hD [] [0, 1] rfl rfl (by decide) (by decide) hk1 hFc hP1 hD1
  subst hw
  clear hPc hDc hFc hP1 hD1 hk1 hz1 hvm ht
  generalize H1 = H at hP hS ⊢
  replace hP : va_P D vwCl [((a 0), .inr (12, ((.int 0) :: (.ref (ex 0)) :: (.int 0) :: (.int 0) :: (.int 0) :: (.int 0) :: (.ref (a 1)) :: (.ref (ex 1)) :: (.ref (ex 2)) :: (.ref (ex 3)) :: (.ref (ex 4)) :: (.int 0) :: (.int 0) :: (.int 0) :: (.int 0) :: (.int 0) :: (.int 0) :: (.long 0) :: (.int 0) :: (.int 0) :: (.int 0) :: (.ref (ex 5)) :: (.ref (ex 6)) :: (.int 0) :: (.ref (ex 7)) :: (.int (-1)) :: (.int 0) :: (.int 0) :: (.int 0) :: (.int 0) :: (.int 0) :: (.int 0) :: (.ref (ex 8)) :: (.int 0) :: (.ref (ex 9)) :: (.int 0) :: (.int 0) :: (.int 0) :: (.int 0) :: (.int 0) :: (.ref (ex 10)) :: (.ref (ex 11)) :: (.ref (ex 12)) :: (.ref (ex 13)) :: []))), ((a 1), .inl (T 1, 2187, .inl (fun _ => 0)))] H := hP
  replace hD : va_D A [((a 0), .inr (12, ((.int 0) :: (.ref (ex 0)) :: (.int 0) :: (.int 0) :: (.int 0) :: (.int 0) :: (.ref (a 1)) :: (.ref (ex 1)) :: (.ref (ex 2)) :: (.ref (ex 3)) :: (.ref (ex 4)) :: (.int 0) :: (.int 0) :: (.int 0) :: (.int 0) :: (.int 0) :: (.int 0) :: (.long 0) :: (.int 0) :: (.int 0) :: (.int 0) :: (.ref (ex 5)) :: (.ref (ex 6)) :: (.int 0) :: (.ref (ex 7)) :: (.int (-1)) :: (.int 0) :: (.int 0) :: (.int 0) :: (.int 0) :: (.int 0) :: (.int 0) :: (.ref (ex 8)) :: (.int 0) :: (.ref (ex 9)) :: (.int 0) :: (.int 0) :: (.int 0) :: (.int 0) :: (.int 0) :: (.ref (ex 10)) :: (.ref (ex 11)) :: (.ref (ex 12)) :: (.ref (ex 13)) :: []))), ((a 1), .inl (T 1, 2187, .inl (fun _ => 0)))] := hD
  have hP9 := hP.sub (ws' := [((a 0), .inr (12, ((.int 0) :: (.ref (ex 0)) :: (.int 0) :: (.int 0) :: (.int 0) :: (.int 0) :: (.ref (a 1)) :: (.ref (ex 1)) :: (.ref (ex 2)) :: (.ref (ex 3)) :: (.ref (ex 4)) :: (.int 0) :: (.int 0) :: (.int 0) :: (.int 0) :: (.int 0) :: (.int 0) :: (.long 0) :: (.int 0) :: (.int 0) :: (.int 0) :: (.ref (ex 5)) :: (.ref (ex 6)) :: (.int 0) :: (.ref (ex 7)) :: (.int (-1)) :: (.int 0) :: (.int 0) :: (.int 0) :: (.int 0) :: (.int 0) :: (.int 0) :: (.ref (ex 8)) :: (.int 0) :: (.ref (ex 9)) :: (.int 0) :: (.int 0) :: (.int 0) :: (.int 0) :: (.int 0) :: (.ref (ex 10)) :: (.ref (ex 11)) :: (.ref (ex 12)) :: (.ref (ex 13)) :: []))), ((a 1), .inl (T 1, 2187, .inl (fun _ => 0)))]) [0, 1] rfl
  have hD9 := hD.sub (ws' := [((a 0), .inr (12, ((.int 0) :: (.ref (ex 0)) :: (.int 0) :: (.int 0) :: (.int 0) :: (.int 0) :: (.ref (a 1)) :: (.ref (ex 1)) :: (.ref (ex 2)) :: (.ref (ex 3)) :: (.ref (ex 4)) :: (.int 0) :: (.int 0) :: (.int 0) :: (.int 0) :: (.int 0) :: (.int 0) :: (.long 0) :: (.int 0) :: (.int 0) :: (.int 0) :: (.ref (ex 5)) :: (.ref (ex 6)) :: (.int 0) :: (.ref (ex 7)) :: (.int (-1)) :: (.int 0) :: (.int 0) :: (.int 0) :: (.int 0) :: (.int 0) :: (.int 0) :: (.ref (ex 8)) :: (.int 0) :: (.ref (ex 9)) :: (.int 0) :: (.int 0) :: (.int 0) :: (.int 0) :: (.int 0) :: (.ref (ex 10)) :: (.ref (ex 11)) :: (.ref (ex 12)) :: (.ref (ex 13)) :: []))), ((a 1), .inl (T 1, 2187, .inl (fun _ => 0)))]) [0, 1] (by decide +kernel) rfl
  rw [hQ]
  exact W.zret (v := 0) hx hb hr rfl (fun t ht hW => ⟨⟨0, (), rfl, rfl, ⟨xa [], xf [], xh [], xv [], by rw [ht]; exact hP9, hD9, trivial⟩⟩, hS.F ht⟩) hS.2.2 dX12_isSoul_13
abbrev pre_X12_throwsIf (T : Nat → ClassId) (a ex : Nat → Nat) (fi : Nat → Nat → Int32) (fl : Nat → Nat → Int64) (vi : Nat → Int32) : va_W := [((a 0), .inr (12, ((.int 0) :: (.ref (ex 0)) :: (.int 0) :: (.int 0) :: (.int 0) :: (.int 0) :: (.ref (ex 1)) :: (.ref (ex 2)) :: (.ref (ex 3)) :: (.ref (ex 4)) :: (.ref (ex 5)) :: (.int 0) :: (.int 0) :: (.int 0) :: (.int 0) :: (.int 0) :: (.int 0) :: (.long 0) :: (.int 0) :: (.int 0) :: (.int 0) :: (.ref (ex 6)) :: (.ref (ex 7)) :: (.int 0) :: (.ref (ex 8)) :: (.int (-1)) :: (.int 0) :: (.int 0) :: (.int 0) :: (.int 0) :: (.int 0) :: (.int 0) :: (.ref (ex 9)) :: (.int 0) :: (.ref (ex 10)) :: (.int 0) :: (.int 0) :: (.int 0) :: (.int 0) :: (.int 0) :: (.ref (ex 11)) :: (.ref (ex 12)) :: (.ref (ex 13)) :: (.ref (ex 14)) :: [])))]
set_option maxHeartbeats 4000000 in
set_option maxRecDepth 100000 in
theorem c_X12_throwsIf (l : Launch) (D : va_G) (T : Nat → ClassId) (a ex : Nat → Nat) (fi : Nat → Nat → Int32) (fl : Nat → Nat → Int64) (vi : Nat → Int32) (sz : Nat) : Met l yX12_throwsIf (xw yX12_throwsIf cX12_throwsIf 2 (some .boolean)) ({ frames := 0, cells := 0, slots := 0, locals := 0 }) (xP D T [.ref (a 0), .int 1] sz (pre_X12_throwsIf T a ex fi fl vi)) (va_Qi (fun r (_ : Unit) => r = 1) (xB D (va_A (pre_X12_throwsIf T a ex fi fl vi) sz) (fun _ => True) (fun b fj fm vj => [((a 0), .inr (12, ((.int 1) :: (.ref (ex 0)) :: (.int 0) :: (.int 0) :: (.int 0) :: (.int 0) :: (.ref (ex 1)) :: (.ref (ex 2)) :: (.ref (ex 3)) :: (.ref (ex 4)) :: (.ref (ex 5)) :: (.int 0) :: (.int 0) :: (.int 0) :: (.int 0) :: (.int 0) :: (.int 0) :: (.long 0) :: (.int 0) :: (.int 0) :: (.int 0) :: (.ref (ex 6)) :: (.ref (ex 7)) :: (.int 0) :: (.ref (ex 8)) :: (.int (-1)) :: (.int 0) :: (.int 0) :: (.int 0) :: (.int 0) :: (.int 0) :: (.int 0) :: (.ref (ex 9)) :: (.int 0) :: (.ref (ex 10)) :: (.int 0) :: (.int 0) :: (.int 0) :: (.int 0) :: (.int 0) :: (.ref (ex 11)) :: (.ref (ex 12)) :: (.ref (ex 13)) :: (.ref (ex 14)) :: [])))])) (va_A (pre_X12_throwsIf T a ex fi fl vi) sz)) 0 0 (va_A (pre_X12_throwsIf T a ex fi fl vi) sz) := by
  refine xofW (cc := cX12_throwsIf) (maxL := 2) (ret := (some .boolean)) (by decide) rfl ?_
  intro p e s m args below meth c s₁ R Q hR hQ B hml hv
  obtain ⟨rfl, hsz, hP, hK, hD0⟩ := hv
  have hx := B.exec
  have hb := B.bytes
  have hr := B.returns
  have hts := atoms_spec (ws := xw yX12_throwsIf cX12_throwsIf 2 (some .boolean)) B.pre
  have htg : ∀ w ∈ xg, w.before _ s = true := fun w h => hts w (List.mem_cons_of_mem _ h)
  have hown : s.vm.findClass RX12 = some m.cls := findClass_of_methodNamed B.named
  have hlocks := B.notSynchronized
  subst hsz
  have hD := hD0.self (sz := s.heap.size)
  generalize hAe : va_A (pre_X12_throwsIf T a ex fi fl vi) s.heap.size = A at hD hQ
  have hA : ∀ q : Nat, s.heap.size ≤ q → A q := fun q h => by rw [← hAe]; exact Or.inr h
  have hS : va_S A s.heap s.heap [] := va_S.rf
  replace hP : va_P D vwCl [((a 0), .inr (12, ((.int 0) :: (.ref (ex 0)) :: (.int 0) :: (.int 0) :: (.int 0) :: (.int 0) :: (.ref (ex 1)) :: (.ref (ex 2)) :: (.ref (ex 3)) :: (.ref (ex 4)) :: (.ref (ex 5)) :: (.int 0) :: (.int 0) :: (.int 0) :: (.int 0) :: (.int 0) :: (.int 0) :: (.long 0) :: (.int 0) :: (.int 0) :: (.int 0) :: (.ref (ex 6)) :: (.ref (ex 7)) :: (.int 0) :: (.ref (ex 8)) :: (.int (-1)) :: (.int 0) :: (.int 0) :: (.int 0) :: (.int 0) :: (.int 0) :: (.int 0) :: (.ref (ex 9)) :: (.int 0) :: (.ref (ex 10)) :: (.int 0) :: (.int 0) :: (.int 0) :: (.int 0) :: (.int 0) :: (.ref (ex 11)) :: (.ref (ex 12)) :: (.ref (ex 13)) :: (.ref (ex 14)) :: [])))] s.heap := hP
  replace hD : va_D A [((a 0), .inr (12, ((.int 0) :: (.ref (ex 0)) :: (.int 0) :: (.int 0) :: (.int 0) :: (.int 0) :: (.ref (ex 1)) :: (.ref (ex 2)) :: (.ref (ex 3)) :: (.ref (ex 4)) :: (.ref (ex 5)) :: (.int 0) :: (.int 0) :: (.int 0) :: (.int 0) :: (.int 0) :: (.int 0) :: (.long 0) :: (.int 0) :: (.int 0) :: (.int 0) :: (.ref (ex 6)) :: (.ref (ex 7)) :: (.int 0) :: (.ref (ex 8)) :: (.int (-1)) :: (.int 0) :: (.int 0) :: (.int 0) :: (.int 0) :: (.int 0) :: (.int 0) :: (.ref (ex 9)) :: (.int 0) :: (.ref (ex 10)) :: (.int 0) :: (.int 0) :: (.int 0) :: (.int 0) :: (.int 0) :: (.ref (ex 11)) :: (.ref (ex 12)) :: (.ref (ex 13)) :: (.ref (ex 14)) :: [])))] := hD
  have hl := lv_entry ([.ref (a 0), .int 1]) (n := 2) (Nat.le_of_ble_eq_true rfl)
  rw [lg_entry_eq]
  generalize (lg_sl ([.ref (a 0), .int 1]) ++ List.replicate (2 - (lg_sl ([.ref (a 0), .int 1])).length) Slot.unset).toArray = ls at hl ⊢
  replace hl : lv_has ls 2 [(0, .ref (a 0)), (1, .int 1)] := hl
  refine lv_aload_n hx hb dX12_throwsIf_0 rfl (lv_at hl 0 rfl) ?_
  refine lv_iload_n hx hb dX12_throwsIf_1 rfl (lv_at hl 1 rfl) ?_
  refine lv_if_eq (tgt := 9) hx hb dX12_throwsIf_2 (by decide) (fun c => absurd c (by decide)) (fun _ => ?_)
  refine lv_iconst (v := 1) hx hb dX12_throwsIf_5 (by decide) ?_
  refine lv_goto (tgt := 10) hx hb dX12_throwsIf_6 (by decide) ?_
  refine va_put (D := D) (ci := 12) (v := .int 1) (ty := .int) (C := RX12) (T := TX12) (N := 44) hx hb htg inX12 tyX12 tyX12_ok nmX12 hown hK.1 hP hD hS 0 rfl rfl 0 (by decide) (htg _ kw_1407) (fun _ h9 => h9) rfl (by decide +kernel) rfl rfl (Nat.le_of_ble_eq_true rfl) dX12_throwsIf_10 (fun H locs hP hD hS => ?_)
  replace hP : va_P D vwCl [((a 0), .inr (12, ((.int 1) :: (.ref (ex 0)) :: (.int 0) :: (.int 0) :: (.int 0) :: (.int 0) :: (.ref (ex 1)) :: (.ref (ex 2)) :: (.ref (ex 3)) :: (.ref (ex 4)) :: (.ref (ex 5)) :: (.int 0) :: (.int 0) :: (.int 0) :: (.int 0) :: (.int 0) :: (.int 0) :: (.long 0) :: (.int 0) :: (.int 0) :: (.int 0) :: (.ref (ex 6)) :: (.ref (ex 7)) :: (.int 0) :: (.ref (ex 8)) :: (.int (-1)) :: (.int 0) :: (.int 0) :: (.int 0) :: (.int 0) :: (.int 0) :: (.int 0) :: (.ref (ex 9)) :: (.int 0) :: (.ref (ex 10)) :: (.int 0) :: (.int 0) :: (.int 0) :: (.int 0) :: (.int 0) :: (.ref (ex 11)) :: (.ref (ex 12)) :: (.ref (ex 13)) :: (.ref (ex 14)) :: [])))] H := hP
  replace hD : va_D A [((a 0), .inr (12, ((.int 1) :: (.ref (ex 0)) :: (.int 0) :: (.int 0) :: (.int 0) :: (.int 0) :: (.ref (ex 1)) :: (.ref (ex 2)) :: (.ref (ex 3)) :: (.ref (ex 4)) :: (.ref (ex 5)) :: (.int 0) :: (.int 0) :: (.int 0) :: (.int 0) :: (.int 0) :: (.int 0) :: (.long 0) :: (.int 0) :: (.int 0) :: (.int 0) :: (.ref (ex 6)) :: (.ref (ex 7)) :: (.int 0) :: (.ref (ex 8)) :: (.int (-1)) :: (.int 0) :: (.int 0) :: (.int 0) :: (.int 0) :: (.int 0) :: (.int 0) :: (.ref (ex 9)) :: (.int 0) :: (.ref (ex 10)) :: (.int 0) :: (.int 0) :: (.int 0) :: (.int 0) :: (.int 0) :: (.ref (ex 11)) :: (.ref (ex 12)) :: (.ref (ex 13)) :: (.ref (ex 14)) :: [])))] := hD
  refine lv_iload_n hx hb dX12_throwsIf_13 rfl (lv_at hl 1 rfl) ?_
  have hP9 := hP.sub (ws' := [((a 0), .inr (12, ((.int 1) :: (.ref (ex 0)) :: (.int 0) :: (.int 0) :: (.int 0) :: (.int 0) :: (.ref (ex 1)) :: (.ref (ex 2)) :: (.ref (ex 3)) :: (.ref (ex 4)) :: (.ref (ex 5)) :: (.int 0) :: (.int 0) :: (.int 0) :: (.int 0) :: (.int 0) :: (.int 0) :: (.long 0) :: (.int 0) :: (.int 0) :: (.int 0) :: (.ref (ex 6)) :: (.ref (ex 7)) :: (.int 0) :: (.ref (ex 8)) :: (.int (-1)) :: (.int 0) :: (.int 0) :: (.int 0) :: (.int 0) :: (.int 0) :: (.int 0) :: (.ref (ex 9)) :: (.int 0) :: (.ref (ex 10)) :: (.int 0) :: (.int 0) :: (.int 0) :: (.int 0) :: (.int 0) :: (.ref (ex 11)) :: (.ref (ex 12)) :: (.ref (ex 13)) :: (.ref (ex 14)) :: [])))]) [0] rfl
  have hD9 := hD.sub (ws' := [((a 0), .inr (12, ((.int 1) :: (.ref (ex 0)) :: (.int 0) :: (.int 0) :: (.int 0) :: (.int 0) :: (.ref (ex 1)) :: (.ref (ex 2)) :: (.ref (ex 3)) :: (.ref (ex 4)) :: (.ref (ex 5)) :: (.int 0) :: (.int 0) :: (.int 0) :: (.int 0) :: (.int 0) :: (.int 0) :: (.long 0) :: (.int 0) :: (.int 0) :: (.int 0) :: (.ref (ex 6)) :: (.ref (ex 7)) :: (.int 0) :: (.ref (ex 8)) :: (.int (-1)) :: (.int 0) :: (.int 0) :: (.int 0) :: (.int 0) :: (.int 0) :: (.int 0) :: (.ref (ex 9)) :: (.int 0) :: (.ref (ex 10)) :: (.int 0) :: (.int 0) :: (.int 0) :: (.int 0) :: (.int 0) :: (.ref (ex 11)) :: (.ref (ex 12)) :: (.ref (ex 13)) :: (.ref (ex 14)) :: [])))]) [0] (by decide +kernel) rfl
  rw [hQ]
  exact W.zret (v := 1) hx hb hr rfl (fun t ht hW => ⟨⟨1, (), rfl, rfl, ⟨xa [], xf [], xh [], xv [], by rw [ht]; exact hP9, hD9, trivial⟩⟩, hS.F ht⟩) hS.2.2 dX12_throwsIf_14
abbrev pre_X12_soul (T : Nat → ClassId) (a ex : Nat → Nat) (fi : Nat → Nat → Int32) (fl : Nat → Nat → Int64) (vi : Nat → Int32) : va_W := [((a 0), .inr (12, ((.int 0) :: (.ref (ex 0)) :: (.int 0) :: (.int 0) :: (.int 0) :: (.int 0) :: (.ref (a 1)) :: (.ref (ex 1)) :: (.ref (ex 2)) :: (.ref (ex 3)) :: (.ref (ex 4)) :: (.int 0) :: (.int 0) :: (.int 0) :: (.int 0) :: (.int 0) :: (.int 0) :: (.long 0) :: (.int 0) :: (.int 0) :: (.int 0) :: (.ref (ex 5)) :: (.ref (ex 6)) :: (.int 0) :: (.ref (ex 7)) :: (.int (-1)) :: (.int 0) :: (.int 0) :: (.int 0) :: (.int 0) :: (.int 0) :: (.int 0) :: (.ref (ex 8)) :: (.int 0) :: (.ref (ex 9)) :: (.int 0) :: (.int 0) :: (.int 0) :: (.int 0) :: (.int 0) :: (.ref (ex 10)) :: (.ref (ex 11)) :: (.ref (ex 12)) :: (.ref (ex 13)) :: []))), ((a 1), .inl (T 1, 2187, .inl (fun _ => 0)))]
set_option maxHeartbeats 4000000 in
set_option maxRecDepth 100000 in
theorem c_X12_soul (l : Launch) (D : va_G) (T : Nat → ClassId) (a ex : Nat → Nat) (fi : Nat → Nat → Int32) (fl : Nat → Nat → Int64) (vi : Nat → Int32) (sz : Nat) : Met l yX12_soul (xw yX12_soul cX12_soul 3 (some .int)) ({ frames := 2, cells := 0, slots := 0, locals := 51 }) (xP D T [.ref (a 0), .int (vi 0), .int (vi 1)] sz (pre_X12_soul T a ex fi fl vi)) (va_Qi (fun r (_ : Unit) => r = 0) (xB D (va_A (pre_X12_soul T a ex fi fl vi) sz) (fun _ => True) (fun b fj fm vj => [])) (va_A (pre_X12_soul T a ex fi fl vi) sz)) 0 0 (va_A (pre_X12_soul T a ex fi fl vi) sz) := by
  refine xofW (cc := cX12_soul) (maxL := 3) (ret := (some .int)) (by decide) rfl ?_
  intro p e s m args below meth c s₁ R Q hR hQ B hml hv
  obtain ⟨rfl, hsz, hP, hK, hD0⟩ := hv
  have hx := B.exec
  have hb := B.bytes
  have hr := B.returns
  have hts := atoms_spec (ws := xw yX12_soul cX12_soul 3 (some .int)) B.pre
  have htg : ∀ w ∈ xg, w.before _ s = true := fun w h => hts w (List.mem_cons_of_mem _ h)
  have hown : s.vm.findClass RX12 = some m.cls := findClass_of_methodNamed B.named
  have hlocks := B.notSynchronized
  subst hsz
  have hD := hD0.self (sz := s.heap.size)
  generalize hAe : va_A (pre_X12_soul T a ex fi fl vi) s.heap.size = A at hD hQ
  have hA : ∀ q : Nat, s.heap.size ≤ q → A q := fun q h => by rw [← hAe]; exact Or.inr h
  have hS : va_S A s.heap s.heap [] := va_S.rf
  replace hP : va_P D vwCl [((a 0), .inr (12, ((.int 0) :: (.ref (ex 0)) :: (.int 0) :: (.int 0) :: (.int 0) :: (.int 0) :: (.ref (a 1)) :: (.ref (ex 1)) :: (.ref (ex 2)) :: (.ref (ex 3)) :: (.ref (ex 4)) :: (.int 0) :: (.int 0) :: (.int 0) :: (.int 0) :: (.int 0) :: (.int 0) :: (.long 0) :: (.int 0) :: (.int 0) :: (.int 0) :: (.ref (ex 5)) :: (.ref (ex 6)) :: (.int 0) :: (.ref (ex 7)) :: (.int (-1)) :: (.int 0) :: (.int 0) :: (.int 0) :: (.int 0) :: (.int 0) :: (.int 0) :: (.ref (ex 8)) :: (.int 0) :: (.ref (ex 9)) :: (.int 0) :: (.int 0) :: (.int 0) :: (.int 0) :: (.int 0) :: (.ref (ex 10)) :: (.ref (ex 11)) :: (.ref (ex 12)) :: (.ref (ex 13)) :: []))), ((a 1), .inl (T 1, 2187, .inl (fun _ => 0)))] s.heap := hP
  replace hD : va_D A [((a 0), .inr (12, ((.int 0) :: (.ref (ex 0)) :: (.int 0) :: (.int 0) :: (.int 0) :: (.int 0) :: (.ref (a 1)) :: (.ref (ex 1)) :: (.ref (ex 2)) :: (.ref (ex 3)) :: (.ref (ex 4)) :: (.int 0) :: (.int 0) :: (.int 0) :: (.int 0) :: (.int 0) :: (.int 0) :: (.long 0) :: (.int 0) :: (.int 0) :: (.int 0) :: (.ref (ex 5)) :: (.ref (ex 6)) :: (.int 0) :: (.ref (ex 7)) :: (.int (-1)) :: (.int 0) :: (.int 0) :: (.int 0) :: (.int 0) :: (.int 0) :: (.int 0) :: (.ref (ex 8)) :: (.int 0) :: (.ref (ex 9)) :: (.int 0) :: (.int 0) :: (.int 0) :: (.int 0) :: (.int 0) :: (.ref (ex 10)) :: (.ref (ex 11)) :: (.ref (ex 12)) :: (.ref (ex 13)) :: []))), ((a 1), .inl (T 1, 2187, .inl (fun _ => 0)))] := hD
  have hl := lv_entry ([.ref (a 0), .int (vi 0), .int (vi 1)]) (n := 3) (Nat.le_of_ble_eq_true rfl)
  rw [lg_entry_eq]
  generalize (lg_sl ([.ref (a 0), .int (vi 0), .int (vi 1)]) ++ List.replicate (3 - (lg_sl ([.ref (a 0), .int (vi 0), .int (vi 1)])).length) Slot.unset).toArray = ls at hl ⊢
  replace hl : lv_has ls 3 [(0, .ref (a 0)), (1, .int (vi 0)), (2, .int (vi 1))] := hl
  refine lv_aload_n hx hb dX12_soul_0 rfl (lv_at hl 0 rfl) ?_
  refine lv_aload_n hx hb dX12_soul_1 rfl (lv_at hl 0 rfl) ?_
  refine lv_iload_n hx hb dX12_soul_2 rfl (lv_at hl 1 rfl) ?_
  have hPc := hP.sub (ws' := (pre_X12_isSoul T (xa [(a 0), (a 1)]) (xa [(ex 0), (ex 1), (ex 2), (ex 3), (ex 4), (ex 5), (ex 6), (ex 7), (ex 8), (ex 9), (ex 10), (ex 11), (ex 12), (ex 13)]) (xf []) (xh []) (xv [(vi 0)]))) [0, 1] rfl
  have hDc := hD.sub (ws' := (pre_X12_isSoul T (xa [(a 0), (a 1)]) (xa [(ex 0), (ex 1), (ex 2), (ex 3), (ex 4), (ex 5), (ex 6), (ex 7), (ex 8), (ex 9), (ex 10), (ex 11), (ex 12), (ex 13)]) (xf []) (xh []) (xv [(vi 0)]))) [0, 1] (by decide) rfl
  have hFc := va_free (wc := (pre_X12_isSoul T (xa [(a 0), (a 1)]) (xa [(ex 0), (ex 1), (ex 2), (ex 3), (ex 4), (ex 5), (ex 6), (ex 7), (ex 8), (ex 9), (ex 10), (ex 11), (ex 12), (ex 13)]) (xf []) (xh []) (xv [(vi 0)]))) hD hS hA [0, 1] rfl
  refine va_calli (va_runV (As := [.int (vi 0)]) (rest := [.ref (a 0)]) ⟨hx, hb, hml, hown, htg⟩ (c_X12_isSoul l D T (xa [(a 0), (a 1)]) (xa [(ex 0), (ex 1), (ex 2), (ex 3), (ex 4), (ex 5), (ex 6), (ex 7), (ex 8), (ex 9), (ex 10), (ex 11), (ex 12), (ex 13)]) (xf []) (xh []) (xv [(vi 0)]) s.heap.size) ⟨callB_of 1 htg (xg_ok kw_1652) rfl rfl rfl (htg _ kw_17) (htg _ kw_1649) (by decide +kernel) ⟨by rw [hR]; exact Nat.le_of_ble_eq_true rfl, by rw [hR]; exact Nat.le_of_ble_eq_true rfl⟩, htg _ kw_1651, htg _ ks_135⟩ (xpreV hK hPc hDc (va_recv hK.1 hPc (ci := 12) (q0 := 0) rfl rfl)) rfl rfl hl.1 rfl (lv_room (Nat.le_of_ble_eq_true rfl)) dX12_soul_3 ⟨by rw [hR]; exact Nat.le_of_ble_eq_true rfl, by rw [hR]; exact Nat.le_of_ble_eq_true rfl⟩) hS (fun q _ h => hFc q h) hFc (fun r9 u t H1 locs ht hvm hw hB hz1 hk1 hS => ?_)
  obtain ⟨bk, fik, flk, vik, hP1, hD1, hGk⟩ := hB
  rw [ht] at hP1
  obtain ⟨hP, hD⟩ := va_join (wr := []) (w1 := [((a 0), .inr (12, ((.int 0) :: (.ref (ex 0)) :: (.int 0) :: (.int 0) :: (.int 0) :: (.int 0) :: (.ref (a 1)) :: (.ref (ex 1)) :: (.ref (ex 2)) :: (.ref (ex 3)) :: (.ref (ex 4)) :: (.int 0) :: (.int 0) :: (.int 0) :: (.int 0) :: (.int 0) :: (.int 0) :: (.long 0) :: (.int 0) :: (.int 0) :: (.int 0) :: (.ref (ex 5)) :: (.ref (ex 6)) :: (.int 0) :: (.ref (ex 7)) :: (.int (-1)) :: (.int 0) :: (.int 0) :: (.int 0) :: (.int 0) :: (.int 0) :: (.int 0) :: (.ref (ex 8)) :: (.int 0) :: (.ref (ex 9)) :: (.int 0) :: (.int 0) :: (.int 0) :: (.int 0) :: (.int 0) :: (.ref (ex 10)) :: (.ref (ex 11)) :: (.ref (ex 12)) :: (.ref (ex 13)) :: []))), ((a 1), .inl (T 1, 2187, .inl (fun _ => 0)))]) hP hD [0, 1] [] rfl rfl (by decide) (by decide) hk1 hFc hP1 hD1
  subst hw
  clear hPc hDc hFc hP1 hD1 hk1 hz1 hvm ht
  generalize H1 = H at hP hS ⊢
  replace hP : va_P D vwCl [((a 0), .inr (12, ((.int 0) :: (.ref (ex 0)) :: (.int 0) :: (.int 0) :: (.int 0) :: (.int 0) :: (.ref (a 1)) :: (.ref (ex 1)) :: (.ref (ex 2)) :: (.ref (ex 3)) :: (.ref (ex 4)) :: (.int 0) :: (.int 0) :: (.int 0) :: (.int 0) :: (.int 0) :: (.int 0) :: (.long 0) :: (.int 0) :: (.int 0) :: (.int 0) :: (.ref (ex 5)) :: (.ref (ex 6)) :: (.int 0) :: (.ref (ex 7)) :: (.int (-1)) :: (.int 0) :: (.int 0) :: (.int 0) :: (.int 0) :: (.int 0) :: (.int 0) :: (.ref (ex 8)) :: (.int 0) :: (.ref (ex 9)) :: (.int 0) :: (.int 0) :: (.int 0) :: (.int 0) :: (.int 0) :: (.ref (ex 10)) :: (.ref (ex 11)) :: (.ref (ex 12)) :: (.ref (ex 13)) :: []))), ((a 1), .inl (T 1, 2187, .inl (fun _ => 0)))] H := hP
  replace hD : va_D A [((a 0), .inr (12, ((.int 0) :: (.ref (ex 0)) :: (.int 0) :: (.int 0) :: (.int 0) :: (.int 0) :: (.ref (a 1)) :: (.ref (ex 1)) :: (.ref (ex 2)) :: (.ref (ex 3)) :: (.ref (ex 4)) :: (.int 0) :: (.int 0) :: (.int 0) :: (.int 0) :: (.int 0) :: (.int 0) :: (.long 0) :: (.int 0) :: (.int 0) :: (.int 0) :: (.ref (ex 5)) :: (.ref (ex 6)) :: (.int 0) :: (.ref (ex 7)) :: (.int (-1)) :: (.int 0) :: (.int 0) :: (.int 0) :: (.int 0) :: (.int 0) :: (.int 0) :: (.ref (ex 8)) :: (.int 0) :: (.ref (ex 9)) :: (.int 0) :: (.int 0) :: (.int 0) :: (.int 0) :: (.int 0) :: (.ref (ex 10)) :: (.ref (ex 11)) :: (.ref (ex 12)) :: (.ref (ex 13)) :: []))), ((a 1), .inl (T 1, 2187, .inl (fun _ => 0)))] := hD
  refine lv_if_eq (tgt := 19) hx hb dX12_soul_6 (by decide) (fun _ => ?_) (fun c => absurd (by decide) c)
  refine lv_iconst (v := 1) hx hb dX12_soul_19 (by decide) ?_
  refine lv_goto (tgt := 24) hx hb dX12_soul_20 (by decide) ?_
  have hPc := hP.sub (ws' := (pre_X12_throwsIf T (xa [(a 0)]) (xa [(ex 0), (a 1), (ex 1), (ex 2), (ex 3), (ex 4), (ex 5), (ex 6), (ex 7), (ex 8), (ex 9), (ex 10), (ex 11), (ex 12), (ex 13)]) (xf []) (xh []) (xv []))) [0] rfl
  have hDc := hD.sub (ws' := (pre_X12_throwsIf T (xa [(a 0)]) (xa [(ex 0), (a 1), (ex 1), (ex 2), (ex 3), (ex 4), (ex 5), (ex 6), (ex 7), (ex 8), (ex 9), (ex 10), (ex 11), (ex 12), (ex 13)]) (xf []) (xh []) (xv []))) [0] (by decide) rfl
  have hFc := va_free (wc := (pre_X12_throwsIf T (xa [(a 0)]) (xa [(ex 0), (a 1), (ex 1), (ex 2), (ex 3), (ex 4), (ex 5), (ex 6), (ex 7), (ex 8), (ex 9), (ex 10), (ex 11), (ex 12), (ex 13)]) (xf []) (xh []) (xv []))) hD hS hA [0] rfl
  refine va_calli (va_runV (As := [.int 1]) (rest := []) ⟨hx, hb, hml, hown, htg⟩ (c_X12_throwsIf l D T (xa [(a 0)]) (xa [(ex 0), (a 1), (ex 1), (ex 2), (ex 3), (ex 4), (ex 5), (ex 6), (ex 7), (ex 8), (ex 9), (ex 10), (ex 11), (ex 12), (ex 13)]) (xf []) (xh []) (xv []) H.size) ⟨callB_of 1 htg (xg_ok kw_1656) rfl rfl rfl (htg _ kw_17) (htg _ kw_1653) (by decide +kernel) ⟨by rw [hR]; exact Nat.le_of_ble_eq_true rfl, by rw [hR]; exact Nat.le_of_ble_eq_true rfl⟩, htg _ kw_1655, htg _ ks_136⟩ (xpreV hK hPc hDc (va_recv hK.1 hPc (ci := 12) (q0 := 0) rfl rfl)) rfl rfl hl.1 rfl (lv_room (Nat.le_of_ble_eq_true rfl)) dX12_soul_24 ⟨by rw [hR]; exact Nat.le_of_ble_eq_true rfl, by rw [hR]; exact Nat.le_of_ble_eq_true rfl⟩) hS (fun q _ h => hFc q h) hFc (fun r9 u t H1 locs ht hvm hw hB hz1 hk1 hS => ?_)
  obtain ⟨bk_1, fik_1, flk_1, vik_1, hP1, hD1, hGk_1⟩ := hB
  rw [ht] at hP1
  obtain ⟨hP, hD⟩ := va_join (wr := [((a 1), .inl (T 1, 2187, .inl (fun _ => 0)))]) (w1 := [((a 0), .inr (12, ((.int 1) :: (.ref (ex 0)) :: (.int 0) :: (.int 0) :: (.int 0) :: (.int 0) :: (.ref (a 1)) :: (.ref (ex 1)) :: (.ref (ex 2)) :: (.ref (ex 3)) :: (.ref (ex 4)) :: (.int 0) :: (.int 0) :: (.int 0) :: (.int 0) :: (.int 0) :: (.int 0) :: (.long 0) :: (.int 0) :: (.int 0) :: (.int 0) :: (.ref (ex 5)) :: (.ref (ex 6)) :: (.int 0) :: (.ref (ex 7)) :: (.int (-1)) :: (.int 0) :: (.int 0) :: (.int 0) :: (.int 0) :: (.int 0) :: (.int 0) :: (.ref (ex 8)) :: (.int 0) :: (.ref (ex 9)) :: (.int 0) :: (.int 0) :: (.int 0) :: (.int 0) :: (.int 0) :: (.ref (ex 10)) :: (.ref (ex 11)) :: (.ref (ex 12)) :: (.ref (ex 13)) :: [])))]) hP hD [0] [1] rfl rfl (by decide) (by decide) hk1 hFc hP1 hD1
  subst hw
  clear hPc hDc hFc hP1 hD1 hk1 hz1 hvm ht
  generalize H1 = H at hP hS ⊢
  replace hP : va_P D vwCl [((a 1), .inl (T 1, 2187, .inl (fun _ => 0))), ((a 0), .inr (12, ((.int 1) :: (.ref (ex 0)) :: (.int 0) :: (.int 0) :: (.int 0) :: (.int 0) :: (.ref (a 1)) :: (.ref (ex 1)) :: (.ref (ex 2)) :: (.ref (ex 3)) :: (.ref (ex 4)) :: (.int 0) :: (.int 0) :: (.int 0) :: (.int 0) :: (.int 0) :: (.int 0) :: (.long 0) :: (.int 0) :: (.int 0) :: (.int 0) :: (.ref (ex 5)) :: (.ref (ex 6)) :: (.int 0) :: (.ref (ex 7)) :: (.int (-1)) :: (.int 0) :: (.int 0) :: (.int 0) :: (.int 0) :: (.int 0) :: (.int 0) :: (.ref (ex 8)) :: (.int 0) :: (.ref (ex 9)) :: (.int 0) :: (.int 0) :: (.int 0) :: (.int 0) :: (.int 0) :: (.ref (ex 10)) :: (.ref (ex 11)) :: (.ref (ex 12)) :: (.ref (ex 13)) :: [])))] H := hP
  replace hD : va_D A [((a 1), .inl (T 1, 2187, .inl (fun _ => 0))), ((a 0), .inr (12, ((.int 1) :: (.ref (ex 0)) :: (.int 0) :: (.int 0) :: (.int 0) :: (.int 0) :: (.ref (a 1)) :: (.ref (ex 1)) :: (.ref (ex 2)) :: (.ref (ex 3)) :: (.ref (ex 4)) :: (.int 0) :: (.int 0) :: (.int 0) :: (.int 0) :: (.int 0) :: (.int 0) :: (.long 0) :: (.int 0) :: (.int 0) :: (.int 0) :: (.ref (ex 5)) :: (.ref (ex 6)) :: (.int 0) :: (.ref (ex 7)) :: (.int (-1)) :: (.int 0) :: (.int 0) :: (.int 0) :: (.int 0) :: (.int 0) :: (.int 0) :: (.ref (ex 8)) :: (.int 0) :: (.ref (ex 9)) :: (.int 0) :: (.int 0) :: (.int 0) :: (.int 0) :: (.int 0) :: (.ref (ex 10)) :: (.ref (ex 11)) :: (.ref (ex 12)) :: (.ref (ex 13)) :: [])))] := hD
  refine lv_if_eq (tgt := 32) hx hb dX12_soul_27 (by decide) (fun c => absurd c (by decide)) (fun _ => ?_)
  refine lv_iconst (v := 0) hx hb dX12_soul_30 (by decide) ?_
  have hP9 := hP.sub (ws' := []) [] rfl
  have hD9 := hD.sub (ws' := []) [] (by decide) rfl
  rw [hQ]
  exact W.iret (v := 0) hx hb hr (fun t ht hW => ⟨⟨0, (), rfl, rfl, ⟨xa [], xf [], xh [], xv [], by rw [ht]; exact hP9, hD9, trivial⟩⟩, hS.F ht⟩) hS.2.2 dX12_soul_31
abbrev pre_X12_worth (T : Nat → ClassId) (a ex : Nat → Nat) (fi : Nat → Nat → Int32) (fl : Nat → Nat → Int64) (vi : Nat → Int32) : va_W := [((a 0), .inr (12, ((.int 0) :: (.ref (ex 0)) :: (.int 0) :: (.int 0) :: (.int 0) :: (.int 0) :: (.ref (a 1)) :: (.ref (ex 1)) :: (.ref (ex 2)) :: (.ref (ex 3)) :: (.ref (ex 4)) :: (.int 0) :: (.int 0) :: (.int 0) :: (.int 0) :: (.int 0) :: (.int 0) :: (.long 0) :: (.int 0) :: (.int 0) :: (.int 0) :: (.ref (ex 5)) :: (.ref (ex 6)) :: (.int 0) :: (.ref (ex 7)) :: (.int (-1)) :: (.int 0) :: (.int 0) :: (.int 0) :: (.int 0) :: (.int 0) :: (.int 0) :: (.ref (ex 8)) :: (.int 0) :: (.ref (ex 9)) :: (.int 0) :: (.int 0) :: (.int 0) :: (.int 0) :: (.int 0) :: (.ref (ex 10)) :: (.ref (ex 11)) :: (.ref (ex 12)) :: (.ref (ex 13)) :: []))), ((a 1), .inl (T 1, 2187, .inl (fun _ => 0)))]
set_option maxHeartbeats 4000000 in
set_option maxRecDepth 100000 in
theorem c_X12_worth (l : Launch) (D : va_G) (T : Nat → ClassId) (a ex : Nat → Nat) (fi : Nat → Nat → Int32) (fl : Nat → Nat → Int64) (vi : Nat → Int32) (sz : Nat) : Met l yX12_worth (xw yX12_worth cX12_worth 3 (some .int)) ({ frames := 2, cells := 0, slots := 0, locals := 51 }) (xP D T [.ref (a 0), .int (vi 0), .int (vi 1)] sz (pre_X12_worth T a ex fi fl vi)) (va_Qi (fun r (_ : Unit) => r = (-1)) (xB D (va_A (pre_X12_worth T a ex fi fl vi) sz) (fun _ => True) (fun b fj fm vj => [])) (va_A (pre_X12_worth T a ex fi fl vi) sz)) 0 0 (va_A (pre_X12_worth T a ex fi fl vi) sz) := by
  refine xofW (cc := cX12_worth) (maxL := 3) (ret := (some .int)) (by decide) rfl ?_
  intro p e s m args below meth c s₁ R Q hR hQ B hml hv
  obtain ⟨rfl, hsz, hP, hK, hD0⟩ := hv
  have hx := B.exec
  have hb := B.bytes
  have hr := B.returns
  have hts := atoms_spec (ws := xw yX12_worth cX12_worth 3 (some .int)) B.pre
  have htg : ∀ w ∈ xg, w.before _ s = true := fun w h => hts w (List.mem_cons_of_mem _ h)
  have hown : s.vm.findClass RX12 = some m.cls := findClass_of_methodNamed B.named
  have hlocks := B.notSynchronized
  subst hsz
  have hD := hD0.self (sz := s.heap.size)
  generalize hAe : va_A (pre_X12_worth T a ex fi fl vi) s.heap.size = A at hD hQ
  have hA : ∀ q : Nat, s.heap.size ≤ q → A q := fun q h => by rw [← hAe]; exact Or.inr h
  have hS : va_S A s.heap s.heap [] := va_S.rf
  replace hP : va_P D vwCl [((a 0), .inr (12, ((.int 0) :: (.ref (ex 0)) :: (.int 0) :: (.int 0) :: (.int 0) :: (.int 0) :: (.ref (a 1)) :: (.ref (ex 1)) :: (.ref (ex 2)) :: (.ref (ex 3)) :: (.ref (ex 4)) :: (.int 0) :: (.int 0) :: (.int 0) :: (.int 0) :: (.int 0) :: (.int 0) :: (.long 0) :: (.int 0) :: (.int 0) :: (.int 0) :: (.ref (ex 5)) :: (.ref (ex 6)) :: (.int 0) :: (.ref (ex 7)) :: (.int (-1)) :: (.int 0) :: (.int 0) :: (.int 0) :: (.int 0) :: (.int 0) :: (.int 0) :: (.ref (ex 8)) :: (.int 0) :: (.ref (ex 9)) :: (.int 0) :: (.int 0) :: (.int 0) :: (.int 0) :: (.int 0) :: (.ref (ex 10)) :: (.ref (ex 11)) :: (.ref (ex 12)) :: (.ref (ex 13)) :: []))), ((a 1), .inl (T 1, 2187, .inl (fun _ => 0)))] s.heap := hP
  replace hD : va_D A [((a 0), .inr (12, ((.int 0) :: (.ref (ex 0)) :: (.int 0) :: (.int 0) :: (.int 0) :: (.int 0) :: (.ref (a 1)) :: (.ref (ex 1)) :: (.ref (ex 2)) :: (.ref (ex 3)) :: (.ref (ex 4)) :: (.int 0) :: (.int 0) :: (.int 0) :: (.int 0) :: (.int 0) :: (.int 0) :: (.long 0) :: (.int 0) :: (.int 0) :: (.int 0) :: (.ref (ex 5)) :: (.ref (ex 6)) :: (.int 0) :: (.ref (ex 7)) :: (.int (-1)) :: (.int 0) :: (.int 0) :: (.int 0) :: (.int 0) :: (.int 0) :: (.int 0) :: (.ref (ex 8)) :: (.int 0) :: (.ref (ex 9)) :: (.int 0) :: (.int 0) :: (.int 0) :: (.int 0) :: (.int 0) :: (.ref (ex 10)) :: (.ref (ex 11)) :: (.ref (ex 12)) :: (.ref (ex 13)) :: []))), ((a 1), .inl (T 1, 2187, .inl (fun _ => 0)))] := hD
  have hl := lv_entry ([.ref (a 0), .int (vi 0), .int (vi 1)]) (n := 3) (Nat.le_of_ble_eq_true rfl)
  rw [lg_entry_eq]
  generalize (lg_sl ([.ref (a 0), .int (vi 0), .int (vi 1)]) ++ List.replicate (3 - (lg_sl ([.ref (a 0), .int (vi 0), .int (vi 1)])).length) Slot.unset).toArray = ls at hl ⊢
  replace hl : lv_has ls 3 [(0, .ref (a 0)), (1, .int (vi 0)), (2, .int (vi 1))] := hl
  refine lv_aload_n hx hb dX12_worth_0 rfl (lv_at hl 0 rfl) ?_
  refine lv_iconst (v := 0) hx hb dX12_worth_1 (by decide) ?_
  refine va_put (D := D) (ci := 12) (v := .int 0) (ty := .int) (C := RX12) (T := TX12) (N := 44) hx hb htg inX12 tyX12 tyX12_ok nmX12 hown hK.1 hP hD hS 0 rfl rfl 0 (by decide) (htg _ kw_1407) (fun _ h9 => h9) rfl (by decide +kernel) rfl rfl (Nat.le_of_ble_eq_true rfl) dX12_worth_2 (fun H locs hP hD hS => ?_)
  replace hP : va_P D vwCl [((a 0), .inr (12, ((.int 0) :: (.ref (ex 0)) :: (.int 0) :: (.int 0) :: (.int 0) :: (.int 0) :: (.ref (a 1)) :: (.ref (ex 1)) :: (.ref (ex 2)) :: (.ref (ex 3)) :: (.ref (ex 4)) :: (.int 0) :: (.int 0) :: (.int 0) :: (.int 0) :: (.int 0) :: (.int 0) :: (.long 0) :: (.int 0) :: (.int 0) :: (.int 0) :: (.ref (ex 5)) :: (.ref (ex 6)) :: (.int 0) :: (.ref (ex 7)) :: (.int (-1)) :: (.int 0) :: (.int 0) :: (.int 0) :: (.int 0) :: (.int 0) :: (.int 0) :: (.ref (ex 8)) :: (.int 0) :: (.ref (ex 9)) :: (.int 0) :: (.int 0) :: (.int 0) :: (.int 0) :: (.int 0) :: (.ref (ex 10)) :: (.ref (ex 11)) :: (.ref (ex 12)) :: (.ref (ex 13)) :: []))), ((a 1), .inl (T 1, 2187, .inl (fun _ => 0)))] H := hP
  replace hD : va_D A [((a 0), .inr (12, ((.int 0) :: (.ref (ex 0)) :: (.int 0) :: (.int 0) :: (.int 0) :: (.int 0) :: (.ref (a 1)) :: (.ref (ex 1)) :: (.ref (ex 2)) :: (.ref (ex 3)) :: (.ref (ex 4)) :: (.int 0) :: (.int 0) :: (.int 0) :: (.int 0) :: (.int 0) :: (.int 0) :: (.long 0) :: (.int 0) :: (.int 0) :: (.int 0) :: (.ref (ex 5)) :: (.ref (ex 6)) :: (.int 0) :: (.ref (ex 7)) :: (.int (-1)) :: (.int 0) :: (.int 0) :: (.int 0) :: (.int 0) :: (.int 0) :: (.int 0) :: (.ref (ex 8)) :: (.int 0) :: (.ref (ex 9)) :: (.int 0) :: (.int 0) :: (.int 0) :: (.int 0) :: (.int 0) :: (.ref (ex 10)) :: (.ref (ex 11)) :: (.ref (ex 12)) :: (.ref (ex 13)) :: []))), ((a 1), .inl (T 1, 2187, .inl (fun _ => 0)))] := hD
  refine lv_aload_n hx hb dX12_worth_5 rfl (lv_at hl 0 rfl) ?_
  refine lv_iload_n hx hb dX12_worth_6 rfl (lv_at hl 1 rfl) ?_
  have hPc := hP.sub (ws' := (pre_X12_isSoul T (xa [(a 0), (a 1)]) (xa [(ex 0), (ex 1), (ex 2), (ex 3), (ex 4), (ex 5), (ex 6), (ex 7), (ex 8), (ex 9), (ex 10), (ex 11), (ex 12), (ex 13)]) (xf []) (xh []) (xv [(vi 0)]))) [0, 1] rfl
  have hDc := hD.sub (ws' := (pre_X12_isSoul T (xa [(a 0), (a 1)]) (xa [(ex 0), (ex 1), (ex 2), (ex 3), (ex 4), (ex 5), (ex 6), (ex 7), (ex 8), (ex 9), (ex 10), (ex 11), (ex 12), (ex 13)]) (xf []) (xh []) (xv [(vi 0)]))) [0, 1] (by decide) rfl
  have hFc := va_free (wc := (pre_X12_isSoul T (xa [(a 0), (a 1)]) (xa [(ex 0), (ex 1), (ex 2), (ex 3), (ex 4), (ex 5), (ex 6), (ex 7), (ex 8), (ex 9), (ex 10), (ex 11), (ex 12), (ex 13)]) (xf []) (xh []) (xv [(vi 0)]))) hD hS hA [0, 1] rfl
  refine va_calli (va_runV (As := [.int (vi 0)]) (rest := []) ⟨hx, hb, hml, hown, htg⟩ (c_X12_isSoul l D T (xa [(a 0), (a 1)]) (xa [(ex 0), (ex 1), (ex 2), (ex 3), (ex 4), (ex 5), (ex 6), (ex 7), (ex 8), (ex 9), (ex 10), (ex 11), (ex 12), (ex 13)]) (xf []) (xh []) (xv [(vi 0)]) H.size) ⟨callB_of 1 htg (xg_ok kw_1652) rfl rfl rfl (htg _ kw_17) (htg _ kw_1649) (by decide +kernel) ⟨by rw [hR]; exact Nat.le_of_ble_eq_true rfl, by rw [hR]; exact Nat.le_of_ble_eq_true rfl⟩, htg _ kw_1651, htg _ ks_135⟩ (xpreV hK hPc hDc (va_recv hK.1 hPc (ci := 12) (q0 := 0) rfl rfl)) rfl rfl hl.1 rfl (lv_room (Nat.le_of_ble_eq_true rfl)) dX12_worth_7 ⟨by rw [hR]; exact Nat.le_of_ble_eq_true rfl, by rw [hR]; exact Nat.le_of_ble_eq_true rfl⟩) hS (fun q _ h => hFc q h) hFc (fun r9 u t H1 locs ht hvm hw hB hz1 hk1 hS => ?_)
  obtain ⟨bk, fik, flk, vik, hP1, hD1, hGk⟩ := hB
  rw [ht] at hP1
  obtain ⟨hP, hD⟩ := va_join (wr := []) (w1 := [((a 0), .inr (12, ((.int 0) :: (.ref (ex 0)) :: (.int 0) :: (.int 0) :: (.int 0) :: (.int 0) :: (.ref (a 1)) :: (.ref (ex 1)) :: (.ref (ex 2)) :: (.ref (ex 3)) :: (.ref (ex 4)) :: (.int 0) :: (.int 0) :: (.int 0) :: (.int 0) :: (.int 0) :: (.int 0) :: (.long 0) :: (.int 0) :: (.int 0) :: (.int 0) :: (.ref (ex 5)) :: (.ref (ex 6)) :: (.int 0) :: (.ref (ex 7)) :: (.int (-1)) :: (.int 0) :: (.int 0) :: (.int 0) :: (.int 0) :: (.int 0) :: (.int 0) :: (.ref (ex 8)) :: (.int 0) :: (.ref (ex 9)) :: (.int 0) :: (.int 0) :: (.int 0) :: (.int 0) :: (.int 0) :: (.ref (ex 10)) :: (.ref (ex 11)) :: (.ref (ex 12)) :: (.ref (ex 13)) :: []))), ((a 1), .inl (T 1, 2187, .inl (fun _ => 0)))]) hP hD [0, 1] [] rfl rfl (by decide) (by decide) hk1 hFc hP1 hD1
  subst hw
  clear hPc hDc hFc hP1 hD1 hk1 hz1 hvm ht
  generalize H1 = H at hP hS ⊢
  replace hP : va_P D vwCl [((a 0), .inr (12, ((.int 0) :: (.ref (ex 0)) :: (.int 0) :: (.int 0) :: (.int 0) :: (.int 0) :: (.ref (a 1)) :: (.ref (ex 1)) :: (.ref (ex 2)) :: (.ref (ex 3)) :: (.ref (ex 4)) :: (.int 0) :: (.int 0) :: (.int 0) :: (.int 0) :: (.int 0) :: (.int 0) :: (.long 0) :: (.int 0) :: (.int 0) :: (.int 0) :: (.ref (ex 5)) :: (.ref (ex 6)) :: (.int 0) :: (.ref (ex 7)) :: (.int (-1)) :: (.int 0) :: (.int 0) :: (.int 0) :: (.int 0) :: (.int 0) :: (.int 0) :: (.ref (ex 8)) :: (.int 0) :: (.ref (ex 9)) :: (.int 0) :: (.int 0) :: (.int 0) :: (.int 0) :: (.int 0) :: (.ref (ex 10)) :: (.ref (ex 11)) :: (.ref (ex 12)) :: (.ref (ex 13)) :: []))), ((a 1), .inl (T 1, 2187, .inl (fun _ => 0)))] H := hP
  replace hD : va_D A [((a 0), .inr (12, ((.int 0) :: (.ref (ex 0)) :: (.int 0) :: (.int 0) :: (.int 0) :: (.int 0) :: (.ref (a 1)) :: (.ref (ex 1)) :: (.ref (ex 2)) :: (.ref (ex 3)) :: (.ref (ex 4)) :: (.int 0) :: (.int 0) :: (.int 0) :: (.int 0) :: (.int 0) :: (.int 0) :: (.long 0) :: (.int 0) :: (.int 0) :: (.int 0) :: (.ref (ex 5)) :: (.ref (ex 6)) :: (.int 0) :: (.ref (ex 7)) :: (.int (-1)) :: (.int 0) :: (.int 0) :: (.int 0) :: (.int 0) :: (.int 0) :: (.int 0) :: (.ref (ex 8)) :: (.int 0) :: (.ref (ex 9)) :: (.int 0) :: (.int 0) :: (.int 0) :: (.int 0) :: (.int 0) :: (.ref (ex 10)) :: (.ref (ex 11)) :: (.ref (ex 12)) :: (.ref (ex 13)) :: []))), ((a 1), .inl (T 1, 2187, .inl (fun _ => 0)))] := hD
  refine lv_if_eq (tgt := 38) hx hb dX12_worth_10 (by decide) (fun _ => ?_) (fun c => absurd (by decide) c)
  refine lv_iconst (v := (-1)) hx hb dX12_worth_38 (by decide) ?_
  have hP9 := hP.sub (ws' := []) [] rfl
  have hD9 := hD.sub (ws' := []) [] (by decide) rfl
  rw [hQ]
  exact W.iret (v := (-1)) hx hb hr (fun t ht hW => ⟨⟨(-1), (), rfl, rfl, ⟨xa [], xf [], xh [], xv [], by rw [ht]; exact hP9, hD9, trivial⟩⟩, hS.F ht⟩) hS.2.2 dX12_worth_39
abbrev pre_X12_now (T : Nat → ClassId) (a ex : Nat → Nat) (fi : Nat → Nat → Int32) (fl : Nat → Nat → Int64) (vi : Nat → Int32) : va_W := [((a 0), .inr (12, ((.int 0) :: (.ref (ex 0)) :: (.int 0) :: (.int 0) :: (.int 0) :: (.int 0) :: (.ref (a 1)) :: (.ref (ex 1)) :: (.ref (ex 2)) :: (.ref (ex 3)) :: (.ref (ex 4)) :: (.int 0) :: (.int 0) :: (.int 0) :: (.int 0) :: (.int 0) :: (.int 0) :: (.long 0) :: (.int 0) :: (.int 0) :: (.int 0) :: (.ref (ex 5)) :: (.ref (ex 6)) :: (.int 0) :: (.ref (ex 7)) :: (.int (-1)) :: (.int 0) :: (.int 0) :: (.int 0) :: (.int 0) :: (.int 0) :: (.int 0) :: (.ref (ex 8)) :: (.int 0) :: (.ref (ex 9)) :: (.int 0) :: (.int 0) :: (.int 0) :: (.int 0) :: (.int 0) :: (.ref (ex 10)) :: (.ref (ex 11)) :: (.ref (ex 12)) :: (.ref (ex 13)) :: []))), ((a 1), .inl (T 1, 2187, .inl (fun _ => 0)))]
set_option maxHeartbeats 4000000 in
set_option maxRecDepth 100000 in
theorem c_X12_now (l : Launch) (D : va_G) (T : Nat → ClassId) (a ex : Nat → Nat) (fi : Nat → Nat → Int32) (fl : Nat → Nat → Int64) (vi : Nat → Int32) (sz : Nat) : Met l yX12_now (xw yX12_now cX12_now 2 (some .int)) ({ frames := 0, cells := 0, slots := 0, locals := 0 }) (xP D T [.ref (a 0), .int 0] sz (pre_X12_now T a ex fi fl vi)) (va_Qi (fun r (_ : Unit) => r = 0) (xB D (va_A (pre_X12_now T a ex fi fl vi) sz) (fun _ => True) (fun b fj fm vj => [])) (va_A (pre_X12_now T a ex fi fl vi) sz)) 0 0 (va_A (pre_X12_now T a ex fi fl vi) sz) := by
  refine xofW (cc := cX12_now) (maxL := 2) (ret := (some .int)) (by decide) rfl ?_
  intro p e s m args below meth c s₁ R Q hR hQ B hml hv
  obtain ⟨rfl, hsz, hP, hK, hD0⟩ := hv
  have hx := B.exec
  have hb := B.bytes
  have hr := B.returns
  have hts := atoms_spec (ws := xw yX12_now cX12_now 2 (some .int)) B.pre
  have htg : ∀ w ∈ xg, w.before _ s = true := fun w h => hts w (List.mem_cons_of_mem _ h)
  have hown : s.vm.findClass RX12 = some m.cls := findClass_of_methodNamed B.named
  have hlocks := B.notSynchronized
  subst hsz
  have hD := hD0.self (sz := s.heap.size)
  generalize hAe : va_A (pre_X12_now T a ex fi fl vi) s.heap.size = A at hD hQ
  have hA : ∀ q : Nat, s.heap.size ≤ q → A q := fun q h => by rw [← hAe]; exact Or.inr h
  have hS : va_S A s.heap s.heap [] := va_S.rf
  replace hP : va_P D vwCl [((a 0), .inr (12, ((.int 0) :: (.ref (ex 0)) :: (.int 0) :: (.int 0) :: (.int 0) :: (.int 0) :: (.ref (a 1)) :: (.ref (ex 1)) :: (.ref (ex 2)) :: (.ref (ex 3)) :: (.ref (ex 4)) :: (.int 0) :: (.int 0) :: (.int 0) :: (.int 0) :: (.int 0) :: (.int 0) :: (.long 0) :: (.int 0) :: (.int 0) :: (.int 0) :: (.ref (ex 5)) :: (.ref (ex 6)) :: (.int 0) :: (.ref (ex 7)) :: (.int (-1)) :: (.int 0) :: (.int 0) :: (.int 0) :: (.int 0) :: (.int 0) :: (.int 0) :: (.ref (ex 8)) :: (.int 0) :: (.ref (ex 9)) :: (.int 0) :: (.int 0) :: (.int 0) :: (.int 0) :: (.int 0) :: (.ref (ex 10)) :: (.ref (ex 11)) :: (.ref (ex 12)) :: (.ref (ex 13)) :: []))), ((a 1), .inl (T 1, 2187, .inl (fun _ => 0)))] s.heap := hP
  replace hD : va_D A [((a 0), .inr (12, ((.int 0) :: (.ref (ex 0)) :: (.int 0) :: (.int 0) :: (.int 0) :: (.int 0) :: (.ref (a 1)) :: (.ref (ex 1)) :: (.ref (ex 2)) :: (.ref (ex 3)) :: (.ref (ex 4)) :: (.int 0) :: (.int 0) :: (.int 0) :: (.int 0) :: (.int 0) :: (.int 0) :: (.long 0) :: (.int 0) :: (.int 0) :: (.int 0) :: (.ref (ex 5)) :: (.ref (ex 6)) :: (.int 0) :: (.ref (ex 7)) :: (.int (-1)) :: (.int 0) :: (.int 0) :: (.int 0) :: (.int 0) :: (.int 0) :: (.int 0) :: (.ref (ex 8)) :: (.int 0) :: (.ref (ex 9)) :: (.int 0) :: (.int 0) :: (.int 0) :: (.int 0) :: (.int 0) :: (.ref (ex 10)) :: (.ref (ex 11)) :: (.ref (ex 12)) :: (.ref (ex 13)) :: []))), ((a 1), .inl (T 1, 2187, .inl (fun _ => 0)))] := hD
  have hl := lv_entry ([.ref (a 0), .int 0]) (n := 2) (Nat.le_of_ble_eq_true rfl)
  rw [lg_entry_eq]
  generalize (lg_sl ([.ref (a 0), .int 0]) ++ List.replicate (2 - (lg_sl ([.ref (a 0), .int 0])).length) Slot.unset).toArray = ls at hl ⊢
  replace hl : lv_has ls 2 [(0, .ref (a 0)), (1, .int 0)] := hl
  refine lv_aload_n hx hb dX12_now_0 rfl (lv_at hl 0 rfl) ?_
  refine lv_iconst (v := 0) hx hb dX12_now_1 (by decide) ?_
  refine va_put (D := D) (ci := 12) (v := .int 0) (ty := .int) (C := RX12) (T := TX12) (N := 44) hx hb htg inX12 tyX12 tyX12_ok nmX12 hown hK.1 hP hD hS 0 rfl rfl 0 (by decide) (htg _ kw_1407) (fun _ h9 => h9) rfl (by decide +kernel) rfl rfl (Nat.le_of_ble_eq_true rfl) dX12_now_2 (fun H locs hP hD hS => ?_)
  replace hP : va_P D vwCl [((a 0), .inr (12, ((.int 0) :: (.ref (ex 0)) :: (.int 0) :: (.int 0) :: (.int 0) :: (.int 0) :: (.ref (a 1)) :: (.ref (ex 1)) :: (.ref (ex 2)) :: (.ref (ex 3)) :: (.ref (ex 4)) :: (.int 0) :: (.int 0) :: (.int 0) :: (.int 0) :: (.int 0) :: (.int 0) :: (.long 0) :: (.int 0) :: (.int 0) :: (.int 0) :: (.ref (ex 5)) :: (.ref (ex 6)) :: (.int 0) :: (.ref (ex 7)) :: (.int (-1)) :: (.int 0) :: (.int 0) :: (.int 0) :: (.int 0) :: (.int 0) :: (.int 0) :: (.ref (ex 8)) :: (.int 0) :: (.ref (ex 9)) :: (.int 0) :: (.int 0) :: (.int 0) :: (.int 0) :: (.int 0) :: (.ref (ex 10)) :: (.ref (ex 11)) :: (.ref (ex 12)) :: (.ref (ex 13)) :: []))), ((a 1), .inl (T 1, 2187, .inl (fun _ => 0)))] H := hP
  replace hD : va_D A [((a 0), .inr (12, ((.int 0) :: (.ref (ex 0)) :: (.int 0) :: (.int 0) :: (.int 0) :: (.int 0) :: (.ref (a 1)) :: (.ref (ex 1)) :: (.ref (ex 2)) :: (.ref (ex 3)) :: (.ref (ex 4)) :: (.int 0) :: (.int 0) :: (.int 0) :: (.int 0) :: (.int 0) :: (.int 0) :: (.long 0) :: (.int 0) :: (.int 0) :: (.int 0) :: (.ref (ex 5)) :: (.ref (ex 6)) :: (.int 0) :: (.ref (ex 7)) :: (.int (-1)) :: (.int 0) :: (.int 0) :: (.int 0) :: (.int 0) :: (.int 0) :: (.int 0) :: (.ref (ex 8)) :: (.int 0) :: (.ref (ex 9)) :: (.int 0) :: (.int 0) :: (.int 0) :: (.int 0) :: (.int 0) :: (.ref (ex 10)) :: (.ref (ex 11)) :: (.ref (ex 12)) :: (.ref (ex 13)) :: []))), ((a 1), .inl (T 1, 2187, .inl (fun _ => 0)))] := hD
  refine lv_iload_n hx hb dX12_now_5 rfl (lv_at hl 1 rfl) ?_
  refine lv_tableIn (off := 42) (tgt := 48) hx hb dX12_now_6 (by decide) (by decide) (by decide) (by decide) ?_
  refine lv_aload_n hx hb dX12_now_48 rfl (lv_at hl 0 rfl) ?_
  refine va_get (D := D) (ci := 12) (v := .ref (a 1)) (C := RX12) (T := TX12) (N := 44) hx hb htg inX12 hown hK.1 hP 0 rfl rfl 6 (by decide) (htg _ kw_1413) (fun _ h9 => h9) rfl dX12_now_49 ?_
  refine lv_sipush (v := 146) hx hb dX12_now_52 (by decide) ?_
  refine va_iald hx hb hK.1 hP 1 1 rfl rfl (vp_in_nI (n := 146) (by decide) (by decide)) dX12_now_55 ?_
  refine xz_i 0 rfl ?_
  have hP9 := hP.sub (ws' := []) [] rfl
  have hD9 := hD.sub (ws' := []) [] (by decide) rfl
  rw [hQ]
  exact W.iret (v := 0) hx hb hr (fun t ht hW => ⟨⟨0, (), rfl, rfl, ⟨xa [], xf [], xh [], xv [], by rw [ht]; exact hP9, hD9, trivial⟩⟩, hS.F ht⟩) hS.2.2 dX12_now_56
abbrev pre_X12_now_2 (T : Nat → ClassId) (a ex : Nat → Nat) (fi : Nat → Nat → Int32) (fl : Nat → Nat → Int64) (vi : Nat → Int32) : va_W := [((a 0), .inr (12, ((.int 0) :: (.ref (ex 0)) :: (.int 0) :: (.int 0) :: (.int 0) :: (.int 0) :: (.ref (a 1)) :: (.ref (ex 1)) :: (.ref (ex 2)) :: (.ref (ex 3)) :: (.ref (ex 4)) :: (.int 0) :: (.int 0) :: (.int 0) :: (.int 0) :: (.int 0) :: (.int 0) :: (.long 0) :: (.int 0) :: (.int 0) :: (.int 0) :: (.ref (ex 5)) :: (.ref (ex 6)) :: (.int 0) :: (.ref (ex 7)) :: (.int (-1)) :: (.int 0) :: (.int 0) :: (.int 0) :: (.int 0) :: (.int 0) :: (.int 0) :: (.ref (ex 8)) :: (.int 0) :: (.ref (ex 9)) :: (.int 0) :: (.int 0) :: (.int 0) :: (.int 0) :: (.int 0) :: (.ref (ex 10)) :: (.ref (ex 11)) :: (.ref (ex 12)) :: (.ref (ex 13)) :: []))), ((a 1), .inl (T 1, 2187, .inl (fun _ => 0)))]
set_option maxHeartbeats 4000000 in
set_option maxRecDepth 100000 in
theorem c_X12_now_2 (l : Launch) (D : va_G) (T : Nat → ClassId) (a ex : Nat → Nat) (fi : Nat → Nat → Int32) (fl : Nat → Nat → Int64) (vi : Nat → Int32) (sz : Nat) : Met l yX12_now (xw yX12_now cX12_now 2 (some .int)) ({ frames := 0, cells := 0, slots := 0, locals := 0 }) (xP D T [.ref (a 0), .int 1] sz (pre_X12_now_2 T a ex fi fl vi)) (va_Qi (fun r (_ : Unit) => r = 0) (xB D (va_A (pre_X12_now_2 T a ex fi fl vi) sz) (fun _ => True) (fun b fj fm vj => [])) (va_A (pre_X12_now_2 T a ex fi fl vi) sz)) 0 0 (va_A (pre_X12_now_2 T a ex fi fl vi) sz) := by
  refine xofW (cc := cX12_now) (maxL := 2) (ret := (some .int)) (by decide) rfl ?_
  intro p e s m args below meth c s₁ R Q hR hQ B hml hv
  obtain ⟨rfl, hsz, hP, hK, hD0⟩ := hv
  have hx := B.exec
  have hb := B.bytes
  have hr := B.returns
  have hts := atoms_spec (ws := xw yX12_now cX12_now 2 (some .int)) B.pre
  have htg : ∀ w ∈ xg, w.before _ s = true := fun w h => hts w (List.mem_cons_of_mem _ h)
  have hown : s.vm.findClass RX12 = some m.cls := findClass_of_methodNamed B.named
  have hlocks := B.notSynchronized
  subst hsz
  have hD := hD0.self (sz := s.heap.size)
  generalize hAe : va_A (pre_X12_now_2 T a ex fi fl vi) s.heap.size = A at hD hQ
  have hA : ∀ q : Nat, s.heap.size ≤ q → A q := fun q h => by rw [← hAe]; exact Or.inr h
  have hS : va_S A s.heap s.heap [] := va_S.rf
  replace hP : va_P D vwCl [((a 0), .inr (12, ((.int 0) :: (.ref (ex 0)) :: (.int 0) :: (.int 0) :: (.int 0) :: (.int 0) :: (.ref (a 1)) :: (.ref (ex 1)) :: (.ref (ex 2)) :: (.ref (ex 3)) :: (.ref (ex 4)) :: (.int 0) :: (.int 0) :: (.int 0) :: (.int 0) :: (.int 0) :: (.int 0) :: (.long 0) :: (.int 0) :: (.int 0) :: (.int 0) :: (.ref (ex 5)) :: (.ref (ex 6)) :: (.int 0) :: (.ref (ex 7)) :: (.int (-1)) :: (.int 0) :: (.int 0) :: (.int 0) :: (.int 0) :: (.int 0) :: (.int 0) :: (.ref (ex 8)) :: (.int 0) :: (.ref (ex 9)) :: (.int 0) :: (.int 0) :: (.int 0) :: (.int 0) :: (.int 0) :: (.ref (ex 10)) :: (.ref (ex 11)) :: (.ref (ex 12)) :: (.ref (ex 13)) :: []))), ((a 1), .inl (T 1, 2187, .inl (fun _ => 0)))] s.heap := hP
  replace hD : va_D A [((a 0), .inr (12, ((.int 0) :: (.ref (ex 0)) :: (.int 0) :: (.int 0) :: (.int 0) :: (.int 0) :: (.ref (a 1)) :: (.ref (ex 1)) :: (.ref (ex 2)) :: (.ref (ex 3)) :: (.ref (ex 4)) :: (.int 0) :: (.int 0) :: (.int 0) :: (.int 0) :: (.int 0) :: (.int 0) :: (.long 0) :: (.int 0) :: (.int 0) :: (.int 0) :: (.ref (ex 5)) :: (.ref (ex 6)) :: (.int 0) :: (.ref (ex 7)) :: (.int (-1)) :: (.int 0) :: (.int 0) :: (.int 0) :: (.int 0) :: (.int 0) :: (.int 0) :: (.ref (ex 8)) :: (.int 0) :: (.ref (ex 9)) :: (.int 0) :: (.int 0) :: (.int 0) :: (.int 0) :: (.int 0) :: (.ref (ex 10)) :: (.ref (ex 11)) :: (.ref (ex 12)) :: (.ref (ex 13)) :: []))), ((a 1), .inl (T 1, 2187, .inl (fun _ => 0)))] := hD
  have hl := lv_entry ([.ref (a 0), .int 1]) (n := 2) (Nat.le_of_ble_eq_true rfl)
  rw [lg_entry_eq]
  generalize (lg_sl ([.ref (a 0), .int 1]) ++ List.replicate (2 - (lg_sl ([.ref (a 0), .int 1])).length) Slot.unset).toArray = ls at hl ⊢
  replace hl : lv_has ls 2 [(0, .ref (a 0)), (1, .int 1)] := hl
  refine lv_aload_n hx hb dX12_now_0 rfl (lv_at hl 0 rfl) ?_
  refine lv_iconst (v := 0) hx hb dX12_now_1 (by decide) ?_
  refine va_put (D := D) (ci := 12) (v := .int 0) (ty := .int) (C := RX12) (T := TX12) (N := 44) hx hb htg inX12 tyX12 tyX12_ok nmX12 hown hK.1 hP hD hS 0 rfl rfl 0 (by decide) (htg _ kw_1407) (fun _ h9 => h9) rfl (by decide +kernel) rfl rfl (Nat.le_of_ble_eq_true rfl) dX12_now_2 (fun H locs hP hD hS => ?_)
  replace hP : va_P D vwCl [((a 0), .inr (12, ((.int 0) :: (.ref (ex 0)) :: (.int 0) :: (.int 0) :: (.int 0) :: (.int 0) :: (.ref (a 1)) :: (.ref (ex 1)) :: (.ref (ex 2)) :: (.ref (ex 3)) :: (.ref (ex 4)) :: (.int 0) :: (.int 0) :: (.int 0) :: (.int 0) :: (.int 0) :: (.int 0) :: (.long 0) :: (.int 0) :: (.int 0) :: (.int 0) :: (.ref (ex 5)) :: (.ref (ex 6)) :: (.int 0) :: (.ref (ex 7)) :: (.int (-1)) :: (.int 0) :: (.int 0) :: (.int 0) :: (.int 0) :: (.int 0) :: (.int 0) :: (.ref (ex 8)) :: (.int 0) :: (.ref (ex 9)) :: (.int 0) :: (.int 0) :: (.int 0) :: (.int 0) :: (.int 0) :: (.ref (ex 10)) :: (.ref (ex 11)) :: (.ref (ex 12)) :: (.ref (ex 13)) :: []))), ((a 1), .inl (T 1, 2187, .inl (fun _ => 0)))] H := hP
  replace hD : va_D A [((a 0), .inr (12, ((.int 0) :: (.ref (ex 0)) :: (.int 0) :: (.int 0) :: (.int 0) :: (.int 0) :: (.ref (a 1)) :: (.ref (ex 1)) :: (.ref (ex 2)) :: (.ref (ex 3)) :: (.ref (ex 4)) :: (.int 0) :: (.int 0) :: (.int 0) :: (.int 0) :: (.int 0) :: (.int 0) :: (.long 0) :: (.int 0) :: (.int 0) :: (.int 0) :: (.ref (ex 5)) :: (.ref (ex 6)) :: (.int 0) :: (.ref (ex 7)) :: (.int (-1)) :: (.int 0) :: (.int 0) :: (.int 0) :: (.int 0) :: (.int 0) :: (.int 0) :: (.ref (ex 8)) :: (.int 0) :: (.ref (ex 9)) :: (.int 0) :: (.int 0) :: (.int 0) :: (.int 0) :: (.int 0) :: (.ref (ex 10)) :: (.ref (ex 11)) :: (.ref (ex 12)) :: (.ref (ex 13)) :: []))), ((a 1), .inl (T 1, 2187, .inl (fun _ => 0)))] := hD
  refine lv_iload_n hx hb dX12_now_5 rfl (lv_at hl 1 rfl) ?_
  refine lv_tableIn (off := 51) (tgt := 57) hx hb dX12_now_6 (by decide) (by decide) (by decide) (by decide) ?_
  refine lv_iconst (v := 1) hx hb dX12_now_57 (by decide) ?_
  refine lv_aload_n hx hb dX12_now_58 rfl (lv_at hl 0 rfl) ?_
  refine va_get (D := D) (ci := 12) (v := .ref (a 1)) (C := RX12) (T := TX12) (N := 44) hx hb htg inX12 hown hK.1 hP 0 rfl rfl 6 (by decide) (htg _ kw_1413) (fun _ h9 => h9) rfl dX12_now_59 ?_
  refine lv_iconst (v := 1) hx hb dX12_now_62 (by decide) ?_
  refine va_iald hx hb hK.1 hP 1 1 rfl rfl (vp_in_nI (n := 1) (by decide) (by decide)) dX12_now_63 ?_
  refine xz_i 0 rfl ?_
  refine lv_ishl hx hb dX12_now_64 ?_
  refine xz_i 1 (by decide) ?_
  refine lv_iconst (v := 1) hx hb dX12_now_65 (by decide) ?_
  refine lv_isub hx hb dX12_now_66 ?_
  refine xz_i 0 (by decide) ?_
  refine lv_aload_n hx hb dX12_now_67 rfl (lv_at hl 0 rfl) ?_
  refine va_get (D := D) (ci := 12) (v := .ref (a 1)) (C := RX12) (T := TX12) (N := 44) hx hb htg inX12 hown hK.1 hP 0 rfl rfl 6 (by decide) (htg _ kw_1413) (fun _ h9 => h9) rfl dX12_now_68 ?_
  refine lv_sipush (v := 147) hx hb dX12_now_71 (by decide) ?_
  refine va_iald hx hb hK.1 hP 1 1 rfl rfl (vp_in_nI (n := 147) (by decide) (by decide)) dX12_now_74 ?_
  refine xz_i 0 rfl ?_
  refine lv_iconst (v := (-1)) hx hb dX12_now_75 (by decide) ?_
  refine lv_ixor hx hb dX12_now_76 ?_
  refine xz_i (-1) (by decide) ?_
  refine lv_iand hx hb dX12_now_77 ?_
  refine xz_i 0 (by decide) ?_
  have hP9 := hP.sub (ws' := []) [] rfl
  have hD9 := hD.sub (ws' := []) [] (by decide) rfl
  rw [hQ]
  exact W.iret (v := 0) hx hb hr (fun t ht hW => ⟨⟨0, (), rfl, rfl, ⟨xa [], xf [], xh [], xv [], by rw [ht]; exact hP9, hD9, trivial⟩⟩, hS.F ht⟩) hS.2.2 dX12_now_78
abbrev pre_X12_freeNames (T : Nat → ClassId) (a ex : Nat → Nat) (fi : Nat → Nat → Int32) (fl : Nat → Nat → Int64) (vi : Nat → Int32) : va_W := [((a 0), .inr (12, ((.int 0) :: (.ref (ex 0)) :: (.int 0) :: (.int 0) :: (.int 0) :: (.int 0) :: (.ref (a 1)) :: (.ref (ex 1)) :: (.ref (ex 2)) :: (.ref (ex 3)) :: (.ref (ex 4)) :: (.int 0) :: (.int 0) :: (.int 0) :: (.int 0) :: (.int 0) :: (.int 0) :: (.long 0) :: (.int 0) :: (.int 0) :: (.int 0) :: (.ref (ex 5)) :: (.ref (ex 6)) :: (.int 0) :: (.ref (ex 7)) :: (.int (-1)) :: (.int 0) :: (.int 0) :: (.int 0) :: (.int 0) :: (.int 0) :: (.int 0) :: (.ref (ex 8)) :: (.int 0) :: (.ref (ex 9)) :: (.int 0) :: (.int 0) :: (.int 0) :: (.int 0) :: (.int 0) :: (.ref (ex 10)) :: (.ref (ex 11)) :: (.ref (ex 12)) :: (.ref (ex 13)) :: []))), ((a 1), .inl (T 1, 2187, .inl (fun _ => 0)))]
set_option maxHeartbeats 4000000 in
set_option maxRecDepth 100000 in
theorem c_X12_freeNames (l : Launch) (D : va_G) (T : Nat → ClassId) (a ex : Nat → Nat) (fi : Nat → Nat → Int32) (fl : Nat → Nat → Int64) (vi : Nat → Int32) (sz : Nat) : Met l yX12_freeNames (xw yX12_freeNames cX12_freeNames 3 (some .int)) ({ frames := 0, cells := 0, slots := 0, locals := 0 }) (xP D T [.ref (a 0)] sz (pre_X12_freeNames T a ex fi fl vi)) (va_Qi (fun r (_ : Unit) => r = 0) (xB D (va_A (pre_X12_freeNames T a ex fi fl vi) sz) (fun _ => True) (fun b fj fm vj => [((a 0), .inr (12, ((.int 0) :: (.ref (ex 0)) :: (.int 0) :: (.int 0) :: (.int 0) :: (.int 0) :: (.ref (a 1)) :: (.ref (ex 1)) :: (.ref (ex 2)) :: (.ref (ex 3)) :: (.ref (ex 4)) :: (.int 0) :: (.int 0) :: (.int 0) :: (.int 0) :: (.int 0) :: (.int 0) :: (.long 0) :: (.int 0) :: (.int 0) :: (.int 0) :: (.ref (ex 5)) :: (.ref (ex 6)) :: (.int 0) :: (.ref (ex 7)) :: (.int (-1)) :: (.int 0) :: (.int 0) :: (.int 0) :: (.int 0) :: (.int 0) :: (.int 0) :: (.ref (ex 8)) :: (.int 0) :: (.ref (ex 9)) :: (.int 0) :: (.int 0) :: (.int 0) :: (.int 0) :: (.int 0) :: (.ref (ex 10)) :: (.ref (ex 11)) :: (.ref (ex 12)) :: (.ref (ex 13)) :: []))), ((a 1), .inl (T 1, 2187, .inl (fun _ => 0)))])) (va_A (pre_X12_freeNames T a ex fi fl vi) sz)) 0 0 (va_A (pre_X12_freeNames T a ex fi fl vi) sz) := by
  refine xofW (cc := cX12_freeNames) (maxL := 3) (ret := (some .int)) (by decide) rfl ?_
  intro p e s m args below meth c s₁ R Q hR hQ B hml hv
  obtain ⟨rfl, hsz, hP, hK, hD0⟩ := hv
  have hx := B.exec
  have hb := B.bytes
  have hr := B.returns
  have hts := atoms_spec (ws := xw yX12_freeNames cX12_freeNames 3 (some .int)) B.pre
  have htg : ∀ w ∈ xg, w.before _ s = true := fun w h => hts w (List.mem_cons_of_mem _ h)
  have hown : s.vm.findClass RX12 = some m.cls := findClass_of_methodNamed B.named
  have hlocks := B.notSynchronized
  subst hsz
  have hD := hD0.self (sz := s.heap.size)
  generalize hAe : va_A (pre_X12_freeNames T a ex fi fl vi) s.heap.size = A at hD hQ
  have hA : ∀ q : Nat, s.heap.size ≤ q → A q := fun q h => by rw [← hAe]; exact Or.inr h
  have hS : va_S A s.heap s.heap [] := va_S.rf
  replace hP : va_P D vwCl [((a 0), .inr (12, ((.int 0) :: (.ref (ex 0)) :: (.int 0) :: (.int 0) :: (.int 0) :: (.int 0) :: (.ref (a 1)) :: (.ref (ex 1)) :: (.ref (ex 2)) :: (.ref (ex 3)) :: (.ref (ex 4)) :: (.int 0) :: (.int 0) :: (.int 0) :: (.int 0) :: (.int 0) :: (.int 0) :: (.long 0) :: (.int 0) :: (.int 0) :: (.int 0) :: (.ref (ex 5)) :: (.ref (ex 6)) :: (.int 0) :: (.ref (ex 7)) :: (.int (-1)) :: (.int 0) :: (.int 0) :: (.int 0) :: (.int 0) :: (.int 0) :: (.int 0) :: (.ref (ex 8)) :: (.int 0) :: (.ref (ex 9)) :: (.int 0) :: (.int 0) :: (.int 0) :: (.int 0) :: (.int 0) :: (.ref (ex 10)) :: (.ref (ex 11)) :: (.ref (ex 12)) :: (.ref (ex 13)) :: []))), ((a 1), .inl (T 1, 2187, .inl (fun _ => 0)))] s.heap := hP
  replace hD : va_D A [((a 0), .inr (12, ((.int 0) :: (.ref (ex 0)) :: (.int 0) :: (.int 0) :: (.int 0) :: (.int 0) :: (.ref (a 1)) :: (.ref (ex 1)) :: (.ref (ex 2)) :: (.ref (ex 3)) :: (.ref (ex 4)) :: (.int 0) :: (.int 0) :: (.int 0) :: (.int 0) :: (.int 0) :: (.int 0) :: (.long 0) :: (.int 0) :: (.int 0) :: (.int 0) :: (.ref (ex 5)) :: (.ref (ex 6)) :: (.int 0) :: (.ref (ex 7)) :: (.int (-1)) :: (.int 0) :: (.int 0) :: (.int 0) :: (.int 0) :: (.int 0) :: (.int 0) :: (.ref (ex 8)) :: (.int 0) :: (.ref (ex 9)) :: (.int 0) :: (.int 0) :: (.int 0) :: (.int 0) :: (.int 0) :: (.ref (ex 10)) :: (.ref (ex 11)) :: (.ref (ex 12)) :: (.ref (ex 13)) :: []))), ((a 1), .inl (T 1, 2187, .inl (fun _ => 0)))] := hD
  have hl := lv_entry ([.ref (a 0)]) (n := 3) (Nat.le_of_ble_eq_true rfl)
  rw [lg_entry_eq]
  generalize (lg_sl ([.ref (a 0)]) ++ List.replicate (3 - (lg_sl ([.ref (a 0)])).length) Slot.unset).toArray = ls at hl ⊢
  replace hl : lv_has ls 3 [(0, .ref (a 0))] := hl
  refine lv_iconst (v := 0) hx hb dX12_freeNames_0 (by decide) ?_
  refine lv_istore_n (lv' := [(1, .int 0), (0, .ref (a 0))]) hx hb dX12_freeNames_1 rfl hl (by decide) rfl (fun ls hl => ?_)
  refine lv_iconst (v := 0) hx hb dX12_freeNames_2 (by decide) ?_
  refine lv_istore_n (lv' := [(2, .int 0), (1, .int 0), (0, .ref (a 0))]) hx hb dX12_freeNames_3 rfl hl (by decide) rfl (fun ls hl => ?_)
  refine lv_iload_n hx hb dX12_freeNames_4 rfl (lv_at hl 0 rfl) ?_
  refine lv_aload_n hx hb dX12_freeNames_5 rfl (lv_at hl 2 rfl) ?_
  refine va_get (D := D) (ci := 12) (v := .ref (a 1)) (C := RX12) (T := TX12) (N := 44) hx hb htg inX12 hown hK.1 hP 0 rfl rfl 6 (by decide) (htg _ kw_1413) (fun _ h9 => h9) rfl dX12_freeNames_6 ?_
  refine lv_iconst (v := 0) hx hb dX12_freeNames_9 (by decide) ?_
  refine va_iald hx hb hK.1 hP 1 1 rfl rfl (vp_in_nI (n := 0) (by decide) (by decide)) dX12_freeNames_10 ?_
  refine xz_i 0 rfl ?_
  refine lv_icmp_ge (tgt := 38) hx hb dX12_freeNames_11 (by decide) (fun _ => ?_) (fun c => absurd (by decide) c)
  refine lv_iload_n hx hb dX12_freeNames_38 rfl (lv_at hl 1 rfl) ?_
  have hP9 := hP.sub (ws' := [((a 0), .inr (12, ((.int 0) :: (.ref (ex 0)) :: (.int 0) :: (.int 0) :: (.int 0) :: (.int 0) :: (.ref (a 1)) :: (.ref (ex 1)) :: (.ref (ex 2)) :: (.ref (ex 3)) :: (.ref (ex 4)) :: (.int 0) :: (.int 0) :: (.int 0) :: (.int 0) :: (.int 0) :: (.int 0) :: (.long 0) :: (.int 0) :: (.int 0) :: (.int 0) :: (.ref (ex 5)) :: (.ref (ex 6)) :: (.int 0) :: (.ref (ex 7)) :: (.int (-1)) :: (.int 0) :: (.int 0) :: (.int 0) :: (.int 0) :: (.int 0) :: (.int 0) :: (.ref (ex 8)) :: (.int 0) :: (.ref (ex 9)) :: (.int 0) :: (.int 0) :: (.int 0) :: (.int 0) :: (.int 0) :: (.ref (ex 10)) :: (.ref (ex 11)) :: (.ref (ex 12)) :: (.ref (ex 13)) :: []))), ((a 1), .inl (T 1, 2187, .inl (fun _ => 0)))]) [0, 1] rfl
  have hD9 := hD.sub (ws' := [((a 0), .inr (12, ((.int 0) :: (.ref (ex 0)) :: (.int 0) :: (.int 0) :: (.int 0) :: (.int 0) :: (.ref (a 1)) :: (.ref (ex 1)) :: (.ref (ex 2)) :: (.ref (ex 3)) :: (.ref (ex 4)) :: (.int 0) :: (.int 0) :: (.int 0) :: (.int 0) :: (.int 0) :: (.int 0) :: (.long 0) :: (.int 0) :: (.int 0) :: (.int 0) :: (.ref (ex 5)) :: (.ref (ex 6)) :: (.int 0) :: (.ref (ex 7)) :: (.int (-1)) :: (.int 0) :: (.int 0) :: (.int 0) :: (.int 0) :: (.int 0) :: (.int 0) :: (.ref (ex 8)) :: (.int 0) :: (.ref (ex 9)) :: (.int 0) :: (.int 0) :: (.int 0) :: (.int 0) :: (.int 0) :: (.ref (ex 10)) :: (.ref (ex 11)) :: (.ref (ex 12)) :: (.ref (ex 13)) :: []))), ((a 1), .inl (T 1, 2187, .inl (fun _ => 0)))]) [0, 1] (by decide +kernel) rfl
  rw [hQ]
  exact W.iret (v := 0) hx hb hr (fun t ht hW => ⟨⟨0, (), rfl, rfl, ⟨xa [], xf [], xh [], xv [], by rw [ht]; exact hP9, hD9, trivial⟩⟩, hS.F ht⟩) hS.2.2 dX12_freeNames_39
abbrev pre_X12_now_3 (T : Nat → ClassId) (a ex : Nat → Nat) (fi : Nat → Nat → Int32) (fl : Nat → Nat → Int64) (vi : Nat → Int32) : va_W := [((a 0), .inr (12, ((.int 0) :: (.ref (ex 0)) :: (.int 0) :: (.int 0) :: (.int 0) :: (.int 0) :: (.ref (a 1)) :: (.ref (ex 1)) :: (.ref (ex 2)) :: (.ref (ex 3)) :: (.ref (ex 4)) :: (.int 0) :: (.int 0) :: (.int 0) :: (.int 0) :: (.int 0) :: (.int 0) :: (.long 0) :: (.int 0) :: (.int 0) :: (.int 0) :: (.ref (ex 5)) :: (.ref (ex 6)) :: (.int 0) :: (.ref (ex 7)) :: (.int (-1)) :: (.int 0) :: (.int 0) :: (.int 0) :: (.int 0) :: (.int 0) :: (.int 0) :: (.ref (ex 8)) :: (.int 0) :: (.ref (ex 9)) :: (.int 0) :: (.int 0) :: (.int 0) :: (.int 0) :: (.int 0) :: (.ref (ex 10)) :: (.ref (ex 11)) :: (.ref (ex 12)) :: (.ref (ex 13)) :: []))), ((a 1), .inl (T 1, 2187, .inl (fun _ => 0)))]
set_option maxHeartbeats 4000000 in
set_option maxRecDepth 100000 in
theorem c_X12_now_3 (l : Launch) (D : va_G) (T : Nat → ClassId) (a ex : Nat → Nat) (fi : Nat → Nat → Int32) (fl : Nat → Nat → Int64) (vi : Nat → Int32) (sz : Nat) : Met l yX12_now (xw yX12_now cX12_now 2 (some .int)) ({ frames := 1, cells := 0, slots := 0, locals := 26 }) (xP D T [.ref (a 0), .int 2] sz (pre_X12_now_3 T a ex fi fl vi)) (va_Qi (fun r (_ : Unit) => r = 0) (xB D (va_A (pre_X12_now_3 T a ex fi fl vi) sz) (fun _ => True) (fun b fj fm vj => [])) (va_A (pre_X12_now_3 T a ex fi fl vi) sz)) 0 0 (va_A (pre_X12_now_3 T a ex fi fl vi) sz) := by
  refine xofW (cc := cX12_now) (maxL := 2) (ret := (some .int)) (by decide) rfl ?_
  intro p e s m args below meth c s₁ R Q hR hQ B hml hv
  obtain ⟨rfl, hsz, hP, hK, hD0⟩ := hv
  have hx := B.exec
  have hb := B.bytes
  have hr := B.returns
  have hts := atoms_spec (ws := xw yX12_now cX12_now 2 (some .int)) B.pre
  have htg : ∀ w ∈ xg, w.before _ s = true := fun w h => hts w (List.mem_cons_of_mem _ h)
  have hown : s.vm.findClass RX12 = some m.cls := findClass_of_methodNamed B.named
  have hlocks := B.notSynchronized
  subst hsz
  have hD := hD0.self (sz := s.heap.size)
  generalize hAe : va_A (pre_X12_now_3 T a ex fi fl vi) s.heap.size = A at hD hQ
  have hA : ∀ q : Nat, s.heap.size ≤ q → A q := fun q h => by rw [← hAe]; exact Or.inr h
  have hS : va_S A s.heap s.heap [] := va_S.rf
  replace hP : va_P D vwCl [((a 0), .inr (12, ((.int 0) :: (.ref (ex 0)) :: (.int 0) :: (.int 0) :: (.int 0) :: (.int 0) :: (.ref (a 1)) :: (.ref (ex 1)) :: (.ref (ex 2)) :: (.ref (ex 3)) :: (.ref (ex 4)) :: (.int 0) :: (.int 0) :: (.int 0) :: (.int 0) :: (.int 0) :: (.int 0) :: (.long 0) :: (.int 0) :: (.int 0) :: (.int 0) :: (.ref (ex 5)) :: (.ref (ex 6)) :: (.int 0) :: (.ref (ex 7)) :: (.int (-1)) :: (.int 0) :: (.int 0) :: (.int 0) :: (.int 0) :: (.int 0) :: (.int 0) :: (.ref (ex 8)) :: (.int 0) :: (.ref (ex 9)) :: (.int 0) :: (.int 0) :: (.int 0) :: (.int 0) :: (.int 0) :: (.ref (ex 10)) :: (.ref (ex 11)) :: (.ref (ex 12)) :: (.ref (ex 13)) :: []))), ((a 1), .inl (T 1, 2187, .inl (fun _ => 0)))] s.heap := hP
  replace hD : va_D A [((a 0), .inr (12, ((.int 0) :: (.ref (ex 0)) :: (.int 0) :: (.int 0) :: (.int 0) :: (.int 0) :: (.ref (a 1)) :: (.ref (ex 1)) :: (.ref (ex 2)) :: (.ref (ex 3)) :: (.ref (ex 4)) :: (.int 0) :: (.int 0) :: (.int 0) :: (.int 0) :: (.int 0) :: (.int 0) :: (.long 0) :: (.int 0) :: (.int 0) :: (.int 0) :: (.ref (ex 5)) :: (.ref (ex 6)) :: (.int 0) :: (.ref (ex 7)) :: (.int (-1)) :: (.int 0) :: (.int 0) :: (.int 0) :: (.int 0) :: (.int 0) :: (.int 0) :: (.ref (ex 8)) :: (.int 0) :: (.ref (ex 9)) :: (.int 0) :: (.int 0) :: (.int 0) :: (.int 0) :: (.int 0) :: (.ref (ex 10)) :: (.ref (ex 11)) :: (.ref (ex 12)) :: (.ref (ex 13)) :: []))), ((a 1), .inl (T 1, 2187, .inl (fun _ => 0)))] := hD
  have hl := lv_entry ([.ref (a 0), .int 2]) (n := 2) (Nat.le_of_ble_eq_true rfl)
  rw [lg_entry_eq]
  generalize (lg_sl ([.ref (a 0), .int 2]) ++ List.replicate (2 - (lg_sl ([.ref (a 0), .int 2])).length) Slot.unset).toArray = ls at hl ⊢
  replace hl : lv_has ls 2 [(0, .ref (a 0)), (1, .int 2)] := hl
  refine lv_aload_n hx hb dX12_now_0 rfl (lv_at hl 0 rfl) ?_
  refine lv_iconst (v := 0) hx hb dX12_now_1 (by decide) ?_
  refine va_put (D := D) (ci := 12) (v := .int 0) (ty := .int) (C := RX12) (T := TX12) (N := 44) hx hb htg inX12 tyX12 tyX12_ok nmX12 hown hK.1 hP hD hS 0 rfl rfl 0 (by decide) (htg _ kw_1407) (fun _ h9 => h9) rfl (by decide +kernel) rfl rfl (Nat.le_of_ble_eq_true rfl) dX12_now_2 (fun H locs hP hD hS => ?_)
  replace hP : va_P D vwCl [((a 0), .inr (12, ((.int 0) :: (.ref (ex 0)) :: (.int 0) :: (.int 0) :: (.int 0) :: (.int 0) :: (.ref (a 1)) :: (.ref (ex 1)) :: (.ref (ex 2)) :: (.ref (ex 3)) :: (.ref (ex 4)) :: (.int 0) :: (.int 0) :: (.int 0) :: (.int 0) :: (.int 0) :: (.int 0) :: (.long 0) :: (.int 0) :: (.int 0) :: (.int 0) :: (.ref (ex 5)) :: (.ref (ex 6)) :: (.int 0) :: (.ref (ex 7)) :: (.int (-1)) :: (.int 0) :: (.int 0) :: (.int 0) :: (.int 0) :: (.int 0) :: (.int 0) :: (.ref (ex 8)) :: (.int 0) :: (.ref (ex 9)) :: (.int 0) :: (.int 0) :: (.int 0) :: (.int 0) :: (.int 0) :: (.ref (ex 10)) :: (.ref (ex 11)) :: (.ref (ex 12)) :: (.ref (ex 13)) :: []))), ((a 1), .inl (T 1, 2187, .inl (fun _ => 0)))] H := hP
  replace hD : va_D A [((a 0), .inr (12, ((.int 0) :: (.ref (ex 0)) :: (.int 0) :: (.int 0) :: (.int 0) :: (.int 0) :: (.ref (a 1)) :: (.ref (ex 1)) :: (.ref (ex 2)) :: (.ref (ex 3)) :: (.ref (ex 4)) :: (.int 0) :: (.int 0) :: (.int 0) :: (.int 0) :: (.int 0) :: (.int 0) :: (.long 0) :: (.int 0) :: (.int 0) :: (.int 0) :: (.ref (ex 5)) :: (.ref (ex 6)) :: (.int 0) :: (.ref (ex 7)) :: (.int (-1)) :: (.int 0) :: (.int 0) :: (.int 0) :: (.int 0) :: (.int 0) :: (.int 0) :: (.ref (ex 8)) :: (.int 0) :: (.ref (ex 9)) :: (.int 0) :: (.int 0) :: (.int 0) :: (.int 0) :: (.int 0) :: (.ref (ex 10)) :: (.ref (ex 11)) :: (.ref (ex 12)) :: (.ref (ex 13)) :: []))), ((a 1), .inl (T 1, 2187, .inl (fun _ => 0)))] := hD
  refine lv_iload_n hx hb dX12_now_5 rfl (lv_at hl 1 rfl) ?_
  refine lv_tableIn (off := 73) (tgt := 79) hx hb dX12_now_6 (by decide) (by decide) (by decide) (by decide) ?_
  refine lv_aload_n hx hb dX12_now_79 rfl (lv_at hl 0 rfl) ?_
  have hPc := hP.sub (ws' := (pre_X12_freeNames T (xa [(a 0), (a 1)]) (xa [(ex 0), (ex 1), (ex 2), (ex 3), (ex 4), (ex 5), (ex 6), (ex 7), (ex 8), (ex 9), (ex 10), (ex 11), (ex 12), (ex 13)]) (xf []) (xh []) (xv []))) [0, 1] rfl
  have hDc := hD.sub (ws' := (pre_X12_freeNames T (xa [(a 0), (a 1)]) (xa [(ex 0), (ex 1), (ex 2), (ex 3), (ex 4), (ex 5), (ex 6), (ex 7), (ex 8), (ex 9), (ex 10), (ex 11), (ex 12), (ex 13)]) (xf []) (xh []) (xv []))) [0, 1] (by decide) rfl
  have hFc := va_free (wc := (pre_X12_freeNames T (xa [(a 0), (a 1)]) (xa [(ex 0), (ex 1), (ex 2), (ex 3), (ex 4), (ex 5), (ex 6), (ex 7), (ex 8), (ex 9), (ex 10), (ex 11), (ex 12), (ex 13)]) (xf []) (xh []) (xv []))) hD hS hA [0, 1] rfl
  refine va_calli (va_runV (As := []) (rest := []) ⟨hx, hb, hml, hown, htg⟩ (c_X12_freeNames l D T (xa [(a 0), (a 1)]) (xa [(ex 0), (ex 1), (ex 2), (ex 3), (ex 4), (ex 5), (ex 6), (ex 7), (ex 8), (ex 9), (ex 10), (ex 11), (ex 12), (ex 13)]) (xf []) (xh []) (xv []) H.size) ⟨callB_of 0 htg (xg_ok kw_1676) rfl rfl rfl (htg _ kw_17) (htg _ kw_1673) (by decide +kernel) ⟨by rw [hR]; exact Nat.le_of_ble_eq_true rfl, by rw [hR]; exact Nat.le_of_ble_eq_true rfl⟩, htg _ kw_1675, htg _ ks_139⟩ (xpreV hK hPc hDc (va_recv hK.1 hPc (ci := 12) (q0 := 0) rfl rfl)) rfl rfl hl.1 rfl (lv_room (Nat.le_of_ble_eq_true rfl)) dX12_now_80 ⟨by rw [hR]; exact Nat.le_of_ble_eq_true rfl, by rw [hR]; exact Nat.le_of_ble_eq_true rfl⟩) hS (fun q _ h => hFc q h) hFc (fun r9 u t H1 locs ht hvm hw hB hz1 hk1 hS => ?_)
  obtain ⟨bk, fik, flk, vik, hP1, hD1, hGk⟩ := hB
  rw [ht] at hP1
  obtain ⟨hP, hD⟩ := va_join (wr := []) (w1 := [((a 0), .inr (12, ((.int 0) :: (.ref (ex 0)) :: (.int 0) :: (.int 0) :: (.int 0) :: (.int 0) :: (.ref (a 1)) :: (.ref (ex 1)) :: (.ref (ex 2)) :: (.ref (ex 3)) :: (.ref (ex 4)) :: (.int 0) :: (.int 0) :: (.int 0) :: (.int 0) :: (.int 0) :: (.int 0) :: (.long 0) :: (.int 0) :: (.int 0) :: (.int 0) :: (.ref (ex 5)) :: (.ref (ex 6)) :: (.int 0) :: (.ref (ex 7)) :: (.int (-1)) :: (.int 0) :: (.int 0) :: (.int 0) :: (.int 0) :: (.int 0) :: (.int 0) :: (.ref (ex 8)) :: (.int 0) :: (.ref (ex 9)) :: (.int 0) :: (.int 0) :: (.int 0) :: (.int 0) :: (.int 0) :: (.ref (ex 10)) :: (.ref (ex 11)) :: (.ref (ex 12)) :: (.ref (ex 13)) :: []))), ((a 1), .inl (T 1, 2187, .inl (fun _ => 0)))]) hP hD [0, 1] [] rfl rfl (by decide) (by decide) hk1 hFc hP1 hD1
  subst hw
  clear hPc hDc hFc hP1 hD1 hk1 hz1 hvm ht
  generalize H1 = H at hP hS ⊢
  replace hP : va_P D vwCl [((a 0), .inr (12, ((.int 0) :: (.ref (ex 0)) :: (.int 0) :: (.int 0) :: (.int 0) :: (.int 0) :: (.ref (a 1)) :: (.ref (ex 1)) :: (.ref (ex 2)) :: (.ref (ex 3)) :: (.ref (ex 4)) :: (.int 0) :: (.int 0) :: (.int 0) :: (.int 0) :: (.int 0) :: (.int 0) :: (.long 0) :: (.int 0) :: (.int 0) :: (.int 0) :: (.ref (ex 5)) :: (.ref (ex 6)) :: (.int 0) :: (.ref (ex 7)) :: (.int (-1)) :: (.int 0) :: (.int 0) :: (.int 0) :: (.int 0) :: (.int 0) :: (.int 0) :: (.ref (ex 8)) :: (.int 0) :: (.ref (ex 9)) :: (.int 0) :: (.int 0) :: (.int 0) :: (.int 0) :: (.int 0) :: (.ref (ex 10)) :: (.ref (ex 11)) :: (.ref (ex 12)) :: (.ref (ex 13)) :: []))), ((a 1), .inl (T 1, 2187, .inl (fun _ => 0)))] H := hP
  replace hD : va_D A [((a 0), .inr (12, ((.int 0) :: (.ref (ex 0)) :: (.int 0) :: (.int 0) :: (.int 0) :: (.int 0) :: (.ref (a 1)) :: (.ref (ex 1)) :: (.ref (ex 2)) :: (.ref (ex 3)) :: (.ref (ex 4)) :: (.int 0) :: (.int 0) :: (.int 0) :: (.int 0) :: (.int 0) :: (.int 0) :: (.long 0) :: (.int 0) :: (.int 0) :: (.int 0) :: (.ref (ex 5)) :: (.ref (ex 6)) :: (.int 0) :: (.ref (ex 7)) :: (.int (-1)) :: (.int 0) :: (.int 0) :: (.int 0) :: (.int 0) :: (.int 0) :: (.int 0) :: (.ref (ex 8)) :: (.int 0) :: (.ref (ex 9)) :: (.int 0) :: (.int 0) :: (.int 0) :: (.int 0) :: (.int 0) :: (.ref (ex 10)) :: (.ref (ex 11)) :: (.ref (ex 12)) :: (.ref (ex 13)) :: []))), ((a 1), .inl (T 1, 2187, .inl (fun _ => 0)))] := hD
  have hP9 := hP.sub (ws' := []) [] rfl
  have hD9 := hD.sub (ws' := []) [] (by decide) rfl
  rw [hQ]
  exact W.iret (v := 0) hx hb hr (fun t ht hW => ⟨⟨0, (), rfl, rfl, ⟨xa [], xf [], xh [], xv [], by rw [ht]; exact hP9, hD9, trivial⟩⟩, hS.F ht⟩) hS.2.2 dX12_now_83
abbrev pre_X12_now_4 (T : Nat → ClassId) (a ex : Nat → Nat) (fi : Nat → Nat → Int32) (fl : Nat → Nat → Int64) (vi : Nat → Int32) : va_W := [((a 0), .inr (12, ((.int 0) :: (.ref (ex 0)) :: (.int 0) :: (.int 0) :: (.int 0) :: (.int 0) :: (.ref (a 1)) :: (.ref (ex 1)) :: (.ref (ex 2)) :: (.ref (ex 3)) :: (.ref (ex 4)) :: (.int 0) :: (.int 0) :: (.int 0) :: (.int 0) :: (.int 0) :: (.int 0) :: (.long 0) :: (.int 0) :: (.int 0) :: (.int 0) :: (.ref (ex 5)) :: (.ref (ex 6)) :: (.int 0) :: (.ref (ex 7)) :: (.int (-1)) :: (.int 0) :: (.int 0) :: (.int 0) :: (.int 0) :: (.int 0) :: (.int 0) :: (.ref (ex 8)) :: (.int 0) :: (.ref (ex 9)) :: (.int 0) :: (.int 0) :: (.int 0) :: (.int 0) :: (.int 0) :: (.ref (ex 10)) :: (.ref (ex 11)) :: (.ref (ex 12)) :: (.ref (ex 13)) :: []))), ((a 1), .inl (T 1, 2187, .inl (fun _ => 0)))]
set_option maxHeartbeats 4000000 in
set_option maxRecDepth 100000 in
theorem c_X12_now_4 (l : Launch) (D : va_G) (T : Nat → ClassId) (a ex : Nat → Nat) (fi : Nat → Nat → Int32) (fl : Nat → Nat → Int64) (vi : Nat → Int32) (sz : Nat) : Met l yX12_now (xw yX12_now cX12_now 2 (some .int)) ({ frames := 0, cells := 0, slots := 0, locals := 0 }) (xP D T [.ref (a 0), .int 3] sz (pre_X12_now_4 T a ex fi fl vi)) (va_Qi (fun r (_ : Unit) => r = 0) (xB D (va_A (pre_X12_now_4 T a ex fi fl vi) sz) (fun _ => True) (fun b fj fm vj => [])) (va_A (pre_X12_now_4 T a ex fi fl vi) sz)) 0 0 (va_A (pre_X12_now_4 T a ex fi fl vi) sz) := by
  refine xofW (cc := cX12_now) (maxL := 2) (ret := (some .int)) (by decide) rfl ?_
  intro p e s m args below meth c s₁ R Q hR hQ B hml hv
  obtain ⟨rfl, hsz, hP, hK, hD0⟩ := hv
  have hx := B.exec
  have hb := B.bytes
  have hr := B.returns
  have hts := atoms_spec (ws := xw yX12_now cX12_now 2 (some .int)) B.pre
  have htg : ∀ w ∈ xg, w.before _ s = true := fun w h => hts w (List.mem_cons_of_mem _ h)
  have hown : s.vm.findClass RX12 = some m.cls := findClass_of_methodNamed B.named
  have hlocks := B.notSynchronized
  subst hsz
  have hD := hD0.self (sz := s.heap.size)
  generalize hAe : va_A (pre_X12_now_4 T a ex fi fl vi) s.heap.size = A at hD hQ
  have hA : ∀ q : Nat, s.heap.size ≤ q → A q := fun q h => by rw [← hAe]; exact Or.inr h
  have hS : va_S A s.heap s.heap [] := va_S.rf
  replace hP : va_P D vwCl [((a 0), .inr (12, ((.int 0) :: (.ref (ex 0)) :: (.int 0) :: (.int 0) :: (.int 0) :: (.int 0) :: (.ref (a 1)) :: (.ref (ex 1)) :: (.ref (ex 2)) :: (.ref (ex 3)) :: (.ref (ex 4)) :: (.int 0) :: (.int 0) :: (.int 0) :: (.int 0) :: (.int 0) :: (.int 0) :: (.long 0) :: (.int 0) :: (.int 0) :: (.int 0) :: (.ref (ex 5)) :: (.ref (ex 6)) :: (.int 0) :: (.ref (ex 7)) :: (.int (-1)) :: (.int 0) :: (.int 0) :: (.int 0) :: (.int 0) :: (.int 0) :: (.int 0) :: (.ref (ex 8)) :: (.int 0) :: (.ref (ex 9)) :: (.int 0) :: (.int 0) :: (.int 0) :: (.int 0) :: (.int 0) :: (.ref (ex 10)) :: (.ref (ex 11)) :: (.ref (ex 12)) :: (.ref (ex 13)) :: []))), ((a 1), .inl (T 1, 2187, .inl (fun _ => 0)))] s.heap := hP
  replace hD : va_D A [((a 0), .inr (12, ((.int 0) :: (.ref (ex 0)) :: (.int 0) :: (.int 0) :: (.int 0) :: (.int 0) :: (.ref (a 1)) :: (.ref (ex 1)) :: (.ref (ex 2)) :: (.ref (ex 3)) :: (.ref (ex 4)) :: (.int 0) :: (.int 0) :: (.int 0) :: (.int 0) :: (.int 0) :: (.int 0) :: (.long 0) :: (.int 0) :: (.int 0) :: (.int 0) :: (.ref (ex 5)) :: (.ref (ex 6)) :: (.int 0) :: (.ref (ex 7)) :: (.int (-1)) :: (.int 0) :: (.int 0) :: (.int 0) :: (.int 0) :: (.int 0) :: (.int 0) :: (.ref (ex 8)) :: (.int 0) :: (.ref (ex 9)) :: (.int 0) :: (.int 0) :: (.int 0) :: (.int 0) :: (.int 0) :: (.ref (ex 10)) :: (.ref (ex 11)) :: (.ref (ex 12)) :: (.ref (ex 13)) :: []))), ((a 1), .inl (T 1, 2187, .inl (fun _ => 0)))] := hD
  have hl := lv_entry ([.ref (a 0), .int 3]) (n := 2) (Nat.le_of_ble_eq_true rfl)
  rw [lg_entry_eq]
  generalize (lg_sl ([.ref (a 0), .int 3]) ++ List.replicate (2 - (lg_sl ([.ref (a 0), .int 3])).length) Slot.unset).toArray = ls at hl ⊢
  replace hl : lv_has ls 2 [(0, .ref (a 0)), (1, .int 3)] := hl
  refine lv_aload_n hx hb dX12_now_0 rfl (lv_at hl 0 rfl) ?_
  refine lv_iconst (v := 0) hx hb dX12_now_1 (by decide) ?_
  refine va_put (D := D) (ci := 12) (v := .int 0) (ty := .int) (C := RX12) (T := TX12) (N := 44) hx hb htg inX12 tyX12 tyX12_ok nmX12 hown hK.1 hP hD hS 0 rfl rfl 0 (by decide) (htg _ kw_1407) (fun _ h9 => h9) rfl (by decide +kernel) rfl rfl (Nat.le_of_ble_eq_true rfl) dX12_now_2 (fun H locs hP hD hS => ?_)
  replace hP : va_P D vwCl [((a 0), .inr (12, ((.int 0) :: (.ref (ex 0)) :: (.int 0) :: (.int 0) :: (.int 0) :: (.int 0) :: (.ref (a 1)) :: (.ref (ex 1)) :: (.ref (ex 2)) :: (.ref (ex 3)) :: (.ref (ex 4)) :: (.int 0) :: (.int 0) :: (.int 0) :: (.int 0) :: (.int 0) :: (.int 0) :: (.long 0) :: (.int 0) :: (.int 0) :: (.int 0) :: (.ref (ex 5)) :: (.ref (ex 6)) :: (.int 0) :: (.ref (ex 7)) :: (.int (-1)) :: (.int 0) :: (.int 0) :: (.int 0) :: (.int 0) :: (.int 0) :: (.int 0) :: (.ref (ex 8)) :: (.int 0) :: (.ref (ex 9)) :: (.int 0) :: (.int 0) :: (.int 0) :: (.int 0) :: (.int 0) :: (.ref (ex 10)) :: (.ref (ex 11)) :: (.ref (ex 12)) :: (.ref (ex 13)) :: []))), ((a 1), .inl (T 1, 2187, .inl (fun _ => 0)))] H := hP
  replace hD : va_D A [((a 0), .inr (12, ((.int 0) :: (.ref (ex 0)) :: (.int 0) :: (.int 0) :: (.int 0) :: (.int 0) :: (.ref (a 1)) :: (.ref (ex 1)) :: (.ref (ex 2)) :: (.ref (ex 3)) :: (.ref (ex 4)) :: (.int 0) :: (.int 0) :: (.int 0) :: (.int 0) :: (.int 0) :: (.int 0) :: (.long 0) :: (.int 0) :: (.int 0) :: (.int 0) :: (.ref (ex 5)) :: (.ref (ex 6)) :: (.int 0) :: (.ref (ex 7)) :: (.int (-1)) :: (.int 0) :: (.int 0) :: (.int 0) :: (.int 0) :: (.int 0) :: (.int 0) :: (.ref (ex 8)) :: (.int 0) :: (.ref (ex 9)) :: (.int 0) :: (.int 0) :: (.int 0) :: (.int 0) :: (.int 0) :: (.ref (ex 10)) :: (.ref (ex 11)) :: (.ref (ex 12)) :: (.ref (ex 13)) :: []))), ((a 1), .inl (T 1, 2187, .inl (fun _ => 0)))] := hD
  refine lv_iload_n hx hb dX12_now_5 rfl (lv_at hl 1 rfl) ?_
  refine lv_tableIn (off := 78) (tgt := 84) hx hb dX12_now_6 (by decide) (by decide) (by decide) (by decide) ?_
  refine lv_aload_n hx hb dX12_now_84 rfl (lv_at hl 0 rfl) ?_
  refine va_get (D := D) (ci := 12) (v := .ref (a 1)) (C := RX12) (T := TX12) (N := 44) hx hb htg inX12 hown hK.1 hP 0 rfl rfl 6 (by decide) (htg _ kw_1413) (fun _ h9 => h9) rfl dX12_now_85 ?_
  refine lv_sipush (v := 151) hx hb dX12_now_88 (by decide) ?_
  refine va_iald hx hb hK.1 hP 1 1 rfl rfl (vp_in_nI (n := 151) (by decide) (by decide)) dX12_now_91 ?_
  refine xz_i 0 rfl ?_
  have hP9 := hP.sub (ws' := []) [] rfl
  have hD9 := hD.sub (ws' := []) [] (by decide) rfl
  rw [hQ]
  exact W.iret (v := 0) hx hb hr (fun t ht hW => ⟨⟨0, (), rfl, rfl, ⟨xa [], xf [], xh [], xv [], by rw [ht]; exact hP9, hD9, trivial⟩⟩, hS.F ht⟩) hS.2.2 dX12_now_92
abbrev pre_X12_sum (T : Nat → ClassId) (a ex : Nat → Nat) (fi : Nat → Nat → Int32) (fl : Nat → Nat → Int64) (vi : Nat → Int32) : va_W := [((a 0), .inr (12, ((.int 0) :: (.ref (ex 0)) :: (.int 0) :: (.int 0) :: (.int 0) :: (.int 0) :: (.ref (a 1)) :: (.ref (ex 1)) :: (.ref (ex 2)) :: (.ref (ex 3)) :: (.ref (ex 4)) :: (.int 0) :: (.int 0) :: (.int 0) :: (.int 0) :: (.int 0) :: (.int 0) :: (.long 0) :: (.int 0) :: (.int 0) :: (.int 0) :: (.ref (ex 5)) :: (.ref (ex 6)) :: (.int 0) :: (.ref (ex 7)) :: (.int (-1)) :: (.int 0) :: (.int 0) :: (.int 0) :: (.int 0) :: (.int 0) :: (.int 0) :: (.ref (ex 8)) :: (.int 0) :: (.ref (ex 9)) :: (.int 0) :: (.int 0) :: (.int 0) :: (.int 0) :: (.int 0) :: (.ref (ex 10)) :: (.ref (ex 11)) :: (.ref (ex 12)) :: (.ref (ex 13)) :: []))), ((a 1), .inl (T 1, 2187, .inl (fun _ => 0)))]
set_option maxHeartbeats 4000000 in
set_option maxRecDepth 100000 in
theorem c_X12_sum (l : Launch) (D : va_G) (T : Nat → ClassId) (a ex : Nat → Nat) (fi : Nat → Nat → Int32) (fl : Nat → Nat → Int64) (vi : Nat → Int32) (sz : Nat) : Met l yX12_sum (xw yX12_sum cX12_sum 4 (some .int)) ({ frames := 0, cells := 0, slots := 0, locals := 0 }) (xP D T [.ref (a 0), .int 170] sz (pre_X12_sum T a ex fi fl vi)) (va_Qi (fun r (_ : Unit) => r = 0) (xB D (va_A (pre_X12_sum T a ex fi fl vi) sz) (fun _ => True) (fun b fj fm vj => [((a 0), .inr (12, ((.int 0) :: (.ref (ex 0)) :: (.int 0) :: (.int 0) :: (.int 0) :: (.int 0) :: (.ref (a 1)) :: (.ref (ex 1)) :: (.ref (ex 2)) :: (.ref (ex 3)) :: (.ref (ex 4)) :: (.int 0) :: (.int 0) :: (.int 0) :: (.int 0) :: (.int 0) :: (.int 0) :: (.long 0) :: (.int 0) :: (.int 0) :: (.int 0) :: (.ref (ex 5)) :: (.ref (ex 6)) :: (.int 0) :: (.ref (ex 7)) :: (.int (-1)) :: (.int 0) :: (.int 0) :: (.int 0) :: (.int 0) :: (.int 0) :: (.int 0) :: (.ref (ex 8)) :: (.int 0) :: (.ref (ex 9)) :: (.int 0) :: (.int 0) :: (.int 0) :: (.int 0) :: (.int 0) :: (.ref (ex 10)) :: (.ref (ex 11)) :: (.ref (ex 12)) :: (.ref (ex 13)) :: []))), ((a 1), .inl (T 1, 2187, .inl (fun _ => 0)))])) (va_A (pre_X12_sum T a ex fi fl vi) sz)) 0 0 (va_A (pre_X12_sum T a ex fi fl vi) sz) := by
  refine xofW (cc := cX12_sum) (maxL := 4) (ret := (some .int)) (by decide) rfl ?_
  intro p e s m args below meth c s₁ R Q hR hQ B hml hv
  obtain ⟨rfl, hsz, hP, hK, hD0⟩ := hv
  have hx := B.exec
  have hb := B.bytes
  have hr := B.returns
  have hts := atoms_spec (ws := xw yX12_sum cX12_sum 4 (some .int)) B.pre
  have htg : ∀ w ∈ xg, w.before _ s = true := fun w h => hts w (List.mem_cons_of_mem _ h)
  have hown : s.vm.findClass RX12 = some m.cls := findClass_of_methodNamed B.named
  have hlocks := B.notSynchronized
  subst hsz
  have hD := hD0.self (sz := s.heap.size)
  generalize hAe : va_A (pre_X12_sum T a ex fi fl vi) s.heap.size = A at hD hQ
  have hA : ∀ q : Nat, s.heap.size ≤ q → A q := fun q h => by rw [← hAe]; exact Or.inr h
  have hS : va_S A s.heap s.heap [] := va_S.rf
  replace hP : va_P D vwCl [((a 0), .inr (12, ((.int 0) :: (.ref (ex 0)) :: (.int 0) :: (.int 0) :: (.int 0) :: (.int 0) :: (.ref (a 1)) :: (.ref (ex 1)) :: (.ref (ex 2)) :: (.ref (ex 3)) :: (.ref (ex 4)) :: (.int 0) :: (.int 0) :: (.int 0) :: (.int 0) :: (.int 0) :: (.int 0) :: (.long 0) :: (.int 0) :: (.int 0) :: (.int 0) :: (.ref (ex 5)) :: (.ref (ex 6)) :: (.int 0) :: (.ref (ex 7)) :: (.int (-1)) :: (.int 0) :: (.int 0) :: (.int 0) :: (.int 0) :: (.int 0) :: (.int 0) :: (.ref (ex 8)) :: (.int 0) :: (.ref (ex 9)) :: (.int 0) :: (.int 0) :: (.int 0) :: (.int 0) :: (.int 0) :: (.ref (ex 10)) :: (.ref (ex 11)) :: (.ref (ex 12)) :: (.ref (ex 13)) :: []))), ((a 1), .inl (T 1, 2187, .inl (fun _ => 0)))] s.heap := hP
  replace hD : va_D A [((a 0), .inr (12, ((.int 0) :: (.ref (ex 0)) :: (.int 0) :: (.int 0) :: (.int 0) :: (.int 0) :: (.ref (a 1)) :: (.ref (ex 1)) :: (.ref (ex 2)) :: (.ref (ex 3)) :: (.ref (ex 4)) :: (.int 0) :: (.int 0) :: (.int 0) :: (.int 0) :: (.int 0) :: (.int 0) :: (.long 0) :: (.int 0) :: (.int 0) :: (.int 0) :: (.ref (ex 5)) :: (.ref (ex 6)) :: (.int 0) :: (.ref (ex 7)) :: (.int (-1)) :: (.int 0) :: (.int 0) :: (.int 0) :: (.int 0) :: (.int 0) :: (.int 0) :: (.ref (ex 8)) :: (.int 0) :: (.ref (ex 9)) :: (.int 0) :: (.int 0) :: (.int 0) :: (.int 0) :: (.int 0) :: (.ref (ex 10)) :: (.ref (ex 11)) :: (.ref (ex 12)) :: (.ref (ex 13)) :: []))), ((a 1), .inl (T 1, 2187, .inl (fun _ => 0)))] := hD
  have hl := lv_entry ([.ref (a 0), .int 170]) (n := 4) (Nat.le_of_ble_eq_true rfl)
  rw [lg_entry_eq]
  generalize (lg_sl ([.ref (a 0), .int 170]) ++ List.replicate (4 - (lg_sl ([.ref (a 0), .int 170])).length) Slot.unset).toArray = ls at hl ⊢
  replace hl : lv_has ls 4 [(0, .ref (a 0)), (1, .int 170)] := hl
  refine lv_iconst (v := 0) hx hb dX12_sum_0 (by decide) ?_
  refine lv_istore_n (lv' := [(2, .int 0), (0, .ref (a 0)), (1, .int 170)]) hx hb dX12_sum_1 rfl hl (by decide) rfl (fun ls hl => ?_)
  refine lv_iconst (v := 0) hx hb dX12_sum_2 (by decide) ?_
  refine lv_istore_n (lv' := [(3, .int 0), (2, .int 0), (0, .ref (a 0)), (1, .int 170)]) hx hb dX12_sum_3 rfl hl (by decide) rfl (fun ls hl => ?_)
  have lp : ∀ (n i : Nat) (H : Heap) (locs : List Loc) (ls : Array Slot), i + n = 9 → va_P D vwCl [((a 0), .inr (12, ((.int 0) :: (.ref (ex 0)) :: (.int 0) :: (.int 0) :: (.int 0) :: (.int 0) :: (.ref (a 1)) :: (.ref (ex 1)) :: (.ref (ex 2)) :: (.ref (ex 3)) :: (.ref (ex 4)) :: (.int 0) :: (.int 0) :: (.int 0) :: (.int 0) :: (.int 0) :: (.int 0) :: (.long 0) :: (.int 0) :: (.int 0) :: (.int 0) :: (.ref (ex 5)) :: (.ref (ex 6)) :: (.int 0) :: (.ref (ex 7)) :: (.int (-1)) :: (.int 0) :: (.int 0) :: (.int 0) :: (.int 0) :: (.int 0) :: (.int 0) :: (.ref (ex 8)) :: (.int 0) :: (.ref (ex 9)) :: (.int 0) :: (.int 0) :: (.int 0) :: (.int 0) :: (.int 0) :: (.ref (ex 10)) :: (.ref (ex 11)) :: (.ref (ex 12)) :: (.ref (ex 13)) :: []))), ((a 1), .inl (T 1, 2187, .inl (fun _ => 0)))] H → va_D A [((a 0), .inr (12, ((.int 0) :: (.ref (ex 0)) :: (.int 0) :: (.int 0) :: (.int 0) :: (.int 0) :: (.ref (a 1)) :: (.ref (ex 1)) :: (.ref (ex 2)) :: (.ref (ex 3)) :: (.ref (ex 4)) :: (.int 0) :: (.int 0) :: (.int 0) :: (.int 0) :: (.int 0) :: (.int 0) :: (.long 0) :: (.int 0) :: (.int 0) :: (.int 0) :: (.ref (ex 5)) :: (.ref (ex 6)) :: (.int 0) :: (.ref (ex 7)) :: (.int (-1)) :: (.int 0) :: (.int 0) :: (.int 0) :: (.int 0) :: (.int 0) :: (.int 0) :: (.ref (ex 8)) :: (.int 0) :: (.ref (ex 9)) :: (.int 0) :: (.int 0) :: (.int 0) :: (.int 0) :: (.int 0) :: (.ref (ex 10)) :: (.ref (ex 11)) :: (.ref (ex 12)) :: (.ref (ex 13)) :: []))), ((a 1), .inl (T 1, 2187, .inl (fun _ => 0)))] → va_S A s.heap H locs → lv_has ls 4 [(3, .int (nI i)), (2, .int 0), (0, .ref (a 0)), (1, .int 170)] → W p l e R s m ([.ref (a 0), .int 170] : List Value).toArray below meth c H locs 0 0 Q (F0 m 4 ls []) := by
    intro n
    induction n with
    | zero =>
      intro i H locs ls hin hP hD hS hl
      obtain rfl : i = 9 := by omega
      replace hl : lv_has ls 4 [(3, .int 9), (2, .int 0), (0, .ref (a 0)), (1, .int 170)] := hl
      refine lv_iload_n hx hb dX12_sum_4 rfl (lv_at hl 0 rfl) ?_
      refine lv_bipush (v := 9) hx hb dX12_sum_5 (by decide) ?_
      refine lv_icmp_ge (tgt := 27) hx hb dX12_sum_7 (by decide) (fun _ => ?_) (fun c => absurd (by decide) c)
      refine lv_iload_n hx hb dX12_sum_27 rfl (lv_at hl 1 rfl) ?_
      have hP9 := hP.sub (ws' := [((a 0), .inr (12, ((.int 0) :: (.ref (ex 0)) :: (.int 0) :: (.int 0) :: (.int 0) :: (.int 0) :: (.ref (a 1)) :: (.ref (ex 1)) :: (.ref (ex 2)) :: (.ref (ex 3)) :: (.ref (ex 4)) :: (.int 0) :: (.int 0) :: (.int 0) :: (.int 0) :: (.int 0) :: (.int 0) :: (.long 0) :: (.int 0) :: (.int 0) :: (.int 0) :: (.ref (ex 5)) :: (.ref (ex 6)) :: (.int 0) :: (.ref (ex 7)) :: (.int (-1)) :: (.int 0) :: (.int 0) :: (.int 0) :: (.int 0) :: (.int 0) :: (.int 0) :: (.ref (ex 8)) :: (.int 0) :: (.ref (ex 9)) :: (.int 0) :: (.int 0) :: (.int 0) :: (.int 0) :: (.int 0) :: (.ref (ex 10)) :: (.ref (ex 11)) :: (.ref (ex 12)) :: (.ref (ex 13)) :: []))), ((a 1), .inl (T 1, 2187, .inl (fun _ => 0)))]) [0, 1] rfl
      have hD9 := hD.sub (ws' := [((a 0), .inr (12, ((.int 0) :: (.ref (ex 0)) :: (.int 0) :: (.int 0) :: (.int 0) :: (.int 0) :: (.ref (a 1)) :: (.ref (ex 1)) :: (.ref (ex 2)) :: (.ref (ex 3)) :: (.ref (ex 4)) :: (.int 0) :: (.int 0) :: (.int 0) :: (.int 0) :: (.int 0) :: (.int 0) :: (.long 0) :: (.int 0) :: (.int 0) :: (.int 0) :: (.ref (ex 5)) :: (.ref (ex 6)) :: (.int 0) :: (.ref (ex 7)) :: (.int (-1)) :: (.int 0) :: (.int 0) :: (.int 0) :: (.int 0) :: (.int 0) :: (.int 0) :: (.ref (ex 8)) :: (.int 0) :: (.ref (ex 9)) :: (.int 0) :: (.int 0) :: (.int 0) :: (.int 0) :: (.int 0) :: (.ref (ex 10)) :: (.ref (ex 11)) :: (.ref (ex 12)) :: (.ref (ex 13)) :: []))), ((a 1), .inl (T 1, 2187, .inl (fun _ => 0)))]) [0, 1] (by decide +kernel) rfl
      rw [hQ]
      exact W.iret (v := 0) hx hb hr (fun t ht hW => ⟨⟨0, (), rfl, rfl, ⟨xa [], xf [], xh [], xv [], by rw [ht]; exact hP9, hD9, trivial⟩⟩, hS.F ht⟩) hS.2.2 dX12_sum_28
    | succ n ih =>
      intro i H locs ls hin hP hD hS hl
      refine lv_iload_n hx hb dX12_sum_4 rfl (lv_at hl 0 rfl) ?_
      refine lv_bipush (v := 9) hx hb dX12_sum_5 (by decide) ?_
      refine lv_icmp_ge (tgt := 27) hx hb dX12_sum_7 (by decide) (fun c => by exfalso; have h9 := xge (k := 9) (by decide) c; have h8 := nI_toInt (n := i) (by omega); omega) (fun _ => ?_)
      refine lv_iload_n hx hb dX12_sum_10 rfl (lv_at hl 1 rfl) ?_
      refine lv_aload_n hx hb dX12_sum_11 rfl (lv_at hl 2 rfl) ?_
      refine va_get (D := D) (ci := 12) (v := .ref (a 1)) (C := RX12) (T := TX12) (N := 44) hx hb htg inX12 hown hK.1 hP 0 rfl rfl 6 (by decide) (htg _ kw_1413) (fun _ h9 => h9) rfl dX12_sum_12 ?_
      refine lv_iload_n hx hb dX12_sum_15 rfl (lv_at hl 3 rfl) ?_
      refine lv_iload_n hx hb dX12_sum_16 rfl (lv_at hl 0 rfl) ?_
      refine lv_iadd hx hb dX12_sum_17 ?_
      refine xz_i (nI (170 + i)) (nI_add (170) (i)) ?_
      refine va_iald hx hb hK.1 hP 1 1 rfl rfl (vp_in_nI (n := 170 + i) (by omega) (by decide)) dX12_sum_18 ?_
      refine xz_i 0 rfl ?_
      refine lv_iadd hx hb dX12_sum_19 ?_
      refine xz_i 0 (by decide) ?_
      refine lv_istore_n (lv' := [(2, .int 0), (3, .int (nI i)), (0, .ref (a 0)), (1, .int 170)]) hx hb dX12_sum_20 rfl hl (by decide) rfl (fun ls hl => ?_)
      refine lv_iinc (v := (nI (i + 1))) (lv' := [(3, .int (nI (i + 1))), (2, .int 0), (0, .ref (a 0)), (1, .int 170)]) hx hb dX12_sum_21 hl (k := 1) rfl (nI_add (i) 1) (by decide) rfl (fun ls hl => ?_)
      refine lv_goto (tgt := 4) hx hb dX12_sum_24 (by decide) ?_
      exact ih (i + 1) _ _ _ (by omega) (hP.sub [0, 1] rfl) (hD.sub [0, 1] (by decide) rfl) hS (lv_sub hl [0, 1, 2, 3] rfl)
  exact lp 9 0 _ _ _ (by omega) hP hD hS hl
abbrev pre_X12_now_5 (T : Nat → ClassId) (a ex : Nat → Nat) (fi : Nat → Nat → Int32) (fl : Nat → Nat → Int64) (vi : Nat → Int32) : va_W := [((a 0), .inr (12, ((.int 0) :: (.ref (ex 0)) :: (.int 0) :: (.int 0) :: (.int 0) :: (.int 0) :: (.ref (a 1)) :: (.ref (ex 1)) :: (.ref (ex 2)) :: (.ref (ex 3)) :: (.ref (ex 4)) :: (.int 0) :: (.int 0) :: (.int 0) :: (.int 0) :: (.int 0) :: (.int 0) :: (.long 0) :: (.int 0) :: (.int 0) :: (.int 0) :: (.ref (ex 5)) :: (.ref (ex 6)) :: (.int 0) :: (.ref (ex 7)) :: (.int (-1)) :: (.int 0) :: (.int 0) :: (.int 0) :: (.int 0) :: (.int 0) :: (.int 0) :: (.ref (ex 8)) :: (.int 0) :: (.ref (ex 9)) :: (.int 0) :: (.int 0) :: (.int 0) :: (.int 0) :: (.int 0) :: (.ref (ex 10)) :: (.ref (ex 11)) :: (.ref (ex 12)) :: (.ref (ex 13)) :: []))), ((a 1), .inl (T 1, 2187, .inl (fun _ => 0)))]
set_option maxHeartbeats 4000000 in
set_option maxRecDepth 100000 in
theorem c_X12_now_5 (l : Launch) (D : va_G) (T : Nat → ClassId) (a ex : Nat → Nat) (fi : Nat → Nat → Int32) (fl : Nat → Nat → Int64) (vi : Nat → Int32) (sz : Nat) : Met l yX12_now (xw yX12_now cX12_now 2 (some .int)) ({ frames := 1, cells := 0, slots := 0, locals := 27 }) (xP D T [.ref (a 0), .int 4] sz (pre_X12_now_5 T a ex fi fl vi)) (va_Qi (fun r (_ : Unit) => r = 0) (xB D (va_A (pre_X12_now_5 T a ex fi fl vi) sz) (fun _ => True) (fun b fj fm vj => [])) (va_A (pre_X12_now_5 T a ex fi fl vi) sz)) 0 0 (va_A (pre_X12_now_5 T a ex fi fl vi) sz) := by
  refine xofW (cc := cX12_now) (maxL := 2) (ret := (some .int)) (by decide) rfl ?_
  intro p e s m args below meth c s₁ R Q hR hQ B hml hv
  obtain ⟨rfl, hsz, hP, hK, hD0⟩ := hv
  have hx := B.exec
  have hb := B.bytes
  have hr := B.returns
  have hts := atoms_spec (ws := xw yX12_now cX12_now 2 (some .int)) B.pre
  have htg : ∀ w ∈ xg, w.before _ s = true := fun w h => hts w (List.mem_cons_of_mem _ h)
  have hown : s.vm.findClass RX12 = some m.cls := findClass_of_methodNamed B.named
  have hlocks := B.notSynchronized
  subst hsz
  have hD := hD0.self (sz := s.heap.size)
  generalize hAe : va_A (pre_X12_now_5 T a ex fi fl vi) s.heap.size = A at hD hQ
  have hA : ∀ q : Nat, s.heap.size ≤ q → A q := fun q h => by rw [← hAe]; exact Or.inr h
  have hS : va_S A s.heap s.heap [] := va_S.rf
  replace hP : va_P D vwCl [((a 0), .inr (12, ((.int 0) :: (.ref (ex 0)) :: (.int 0) :: (.int 0) :: (.int 0) :: (.int 0) :: (.ref (a 1)) :: (.ref (ex 1)) :: (.ref (ex 2)) :: (.ref (ex 3)) :: (.ref (ex 4)) :: (.int 0) :: (.int 0) :: (.int 0) :: (.int 0) :: (.int 0) :: (.int 0) :: (.long 0) :: (.int 0) :: (.int 0) :: (.int 0) :: (.ref (ex 5)) :: (.ref (ex 6)) :: (.int 0) :: (.ref (ex 7)) :: (.int (-1)) :: (.int 0) :: (.int 0) :: (.int 0) :: (.int 0) :: (.int 0) :: (.int 0) :: (.ref (ex 8)) :: (.int 0) :: (.ref (ex 9)) :: (.int 0) :: (.int 0) :: (.int 0) :: (.int 0) :: (.int 0) :: (.ref (ex 10)) :: (.ref (ex 11)) :: (.ref (ex 12)) :: (.ref (ex 13)) :: []))), ((a 1), .inl (T 1, 2187, .inl (fun _ => 0)))] s.heap := hP
  replace hD : va_D A [((a 0), .inr (12, ((.int 0) :: (.ref (ex 0)) :: (.int 0) :: (.int 0) :: (.int 0) :: (.int 0) :: (.ref (a 1)) :: (.ref (ex 1)) :: (.ref (ex 2)) :: (.ref (ex 3)) :: (.ref (ex 4)) :: (.int 0) :: (.int 0) :: (.int 0) :: (.int 0) :: (.int 0) :: (.int 0) :: (.long 0) :: (.int 0) :: (.int 0) :: (.int 0) :: (.ref (ex 5)) :: (.ref (ex 6)) :: (.int 0) :: (.ref (ex 7)) :: (.int (-1)) :: (.int 0) :: (.int 0) :: (.int 0) :: (.int 0) :: (.int 0) :: (.int 0) :: (.ref (ex 8)) :: (.int 0) :: (.ref (ex 9)) :: (.int 0) :: (.int 0) :: (.int 0) :: (.int 0) :: (.int 0) :: (.ref (ex 10)) :: (.ref (ex 11)) :: (.ref (ex 12)) :: (.ref (ex 13)) :: []))), ((a 1), .inl (T 1, 2187, .inl (fun _ => 0)))] := hD
  have hl := lv_entry ([.ref (a 0), .int 4]) (n := 2) (Nat.le_of_ble_eq_true rfl)
  rw [lg_entry_eq]
  generalize (lg_sl ([.ref (a 0), .int 4]) ++ List.replicate (2 - (lg_sl ([.ref (a 0), .int 4])).length) Slot.unset).toArray = ls at hl ⊢
  replace hl : lv_has ls 2 [(0, .ref (a 0)), (1, .int 4)] := hl
  refine lv_aload_n hx hb dX12_now_0 rfl (lv_at hl 0 rfl) ?_
  refine lv_iconst (v := 0) hx hb dX12_now_1 (by decide) ?_
  refine va_put (D := D) (ci := 12) (v := .int 0) (ty := .int) (C := RX12) (T := TX12) (N := 44) hx hb htg inX12 tyX12 tyX12_ok nmX12 hown hK.1 hP hD hS 0 rfl rfl 0 (by decide) (htg _ kw_1407) (fun _ h9 => h9) rfl (by decide +kernel) rfl rfl (Nat.le_of_ble_eq_true rfl) dX12_now_2 (fun H locs hP hD hS => ?_)
  replace hP : va_P D vwCl [((a 0), .inr (12, ((.int 0) :: (.ref (ex 0)) :: (.int 0) :: (.int 0) :: (.int 0) :: (.int 0) :: (.ref (a 1)) :: (.ref (ex 1)) :: (.ref (ex 2)) :: (.ref (ex 3)) :: (.ref (ex 4)) :: (.int 0) :: (.int 0) :: (.int 0) :: (.int 0) :: (.int 0) :: (.int 0) :: (.long 0) :: (.int 0) :: (.int 0) :: (.int 0) :: (.ref (ex 5)) :: (.ref (ex 6)) :: (.int 0) :: (.ref (ex 7)) :: (.int (-1)) :: (.int 0) :: (.int 0) :: (.int 0) :: (.int 0) :: (.int 0) :: (.int 0) :: (.ref (ex 8)) :: (.int 0) :: (.ref (ex 9)) :: (.int 0) :: (.int 0) :: (.int 0) :: (.int 0) :: (.int 0) :: (.ref (ex 10)) :: (.ref (ex 11)) :: (.ref (ex 12)) :: (.ref (ex 13)) :: []))), ((a 1), .inl (T 1, 2187, .inl (fun _ => 0)))] H := hP
  replace hD : va_D A [((a 0), .inr (12, ((.int 0) :: (.ref (ex 0)) :: (.int 0) :: (.int 0) :: (.int 0) :: (.int 0) :: (.ref (a 1)) :: (.ref (ex 1)) :: (.ref (ex 2)) :: (.ref (ex 3)) :: (.ref (ex 4)) :: (.int 0) :: (.int 0) :: (.int 0) :: (.int 0) :: (.int 0) :: (.int 0) :: (.long 0) :: (.int 0) :: (.int 0) :: (.int 0) :: (.ref (ex 5)) :: (.ref (ex 6)) :: (.int 0) :: (.ref (ex 7)) :: (.int (-1)) :: (.int 0) :: (.int 0) :: (.int 0) :: (.int 0) :: (.int 0) :: (.int 0) :: (.ref (ex 8)) :: (.int 0) :: (.ref (ex 9)) :: (.int 0) :: (.int 0) :: (.int 0) :: (.int 0) :: (.int 0) :: (.ref (ex 10)) :: (.ref (ex 11)) :: (.ref (ex 12)) :: (.ref (ex 13)) :: []))), ((a 1), .inl (T 1, 2187, .inl (fun _ => 0)))] := hD
  refine lv_iload_n hx hb dX12_now_5 rfl (lv_at hl 1 rfl) ?_
  refine lv_tableIn (off := 87) (tgt := 93) hx hb dX12_now_6 (by decide) (by decide) (by decide) (by decide) ?_
  refine lv_aload_n hx hb dX12_now_93 rfl (lv_at hl 0 rfl) ?_
  refine lv_sipush (v := 170) hx hb dX12_now_94 (by decide) ?_
  have hPc := hP.sub (ws' := (pre_X12_sum T (xa [(a 0), (a 1)]) (xa [(ex 0), (ex 1), (ex 2), (ex 3), (ex 4), (ex 5), (ex 6), (ex 7), (ex 8), (ex 9), (ex 10), (ex 11), (ex 12), (ex 13)]) (xf []) (xh []) (xv []))) [0, 1] rfl
  have hDc := hD.sub (ws' := (pre_X12_sum T (xa [(a 0), (a 1)]) (xa [(ex 0), (ex 1), (ex 2), (ex 3), (ex 4), (ex 5), (ex 6), (ex 7), (ex 8), (ex 9), (ex 10), (ex 11), (ex 12), (ex 13)]) (xf []) (xh []) (xv []))) [0, 1] (by decide) rfl
  have hFc := va_free (wc := (pre_X12_sum T (xa [(a 0), (a 1)]) (xa [(ex 0), (ex 1), (ex 2), (ex 3), (ex 4), (ex 5), (ex 6), (ex 7), (ex 8), (ex 9), (ex 10), (ex 11), (ex 12), (ex 13)]) (xf []) (xh []) (xv []))) hD hS hA [0, 1] rfl
  refine va_calli (va_runV (As := [.int 170]) (rest := []) ⟨hx, hb, hml, hown, htg⟩ (c_X12_sum l D T (xa [(a 0), (a 1)]) (xa [(ex 0), (ex 1), (ex 2), (ex 3), (ex 4), (ex 5), (ex 6), (ex 7), (ex 8), (ex 9), (ex 10), (ex 11), (ex 12), (ex 13)]) (xf []) (xh []) (xv []) H.size) ⟨callB_of 1 htg (xg_ok kw_1680) rfl rfl rfl (htg _ kw_17) (htg _ kw_1677) (by decide +kernel) ⟨by rw [hR]; exact Nat.le_of_ble_eq_true rfl, by rw [hR]; exact Nat.le_of_ble_eq_true rfl⟩, htg _ kw_1679, htg _ ks_140⟩ (xpreV hK hPc hDc (va_recv hK.1 hPc (ci := 12) (q0 := 0) rfl rfl)) rfl rfl hl.1 rfl (lv_room (Nat.le_of_ble_eq_true rfl)) dX12_now_97 ⟨by rw [hR]; exact Nat.le_of_ble_eq_true rfl, by rw [hR]; exact Nat.le_of_ble_eq_true rfl⟩) hS (fun q _ h => hFc q h) hFc (fun r9 u t H1 locs ht hvm hw hB hz1 hk1 hS => ?_)
  obtain ⟨bk, fik, flk, vik, hP1, hD1, hGk⟩ := hB
  rw [ht] at hP1
  obtain ⟨hP, hD⟩ := va_join (wr := []) (w1 := [((a 0), .inr (12, ((.int 0) :: (.ref (ex 0)) :: (.int 0) :: (.int 0) :: (.int 0) :: (.int 0) :: (.ref (a 1)) :: (.ref (ex 1)) :: (.ref (ex 2)) :: (.ref (ex 3)) :: (.ref (ex 4)) :: (.int 0) :: (.int 0) :: (.int 0) :: (.int 0) :: (.int 0) :: (.int 0) :: (.long 0) :: (.int 0) :: (.int 0) :: (.int 0) :: (.ref (ex 5)) :: (.ref (ex 6)) :: (.int 0) :: (.ref (ex 7)) :: (.int (-1)) :: (.int 0) :: (.int 0) :: (.int 0) :: (.int 0) :: (.int 0) :: (.int 0) :: (.ref (ex 8)) :: (.int 0) :: (.ref (ex 9)) :: (.int 0) :: (.int 0) :: (.int 0) :: (.int 0) :: (.int 0) :: (.ref (ex 10)) :: (.ref (ex 11)) :: (.ref (ex 12)) :: (.ref (ex 13)) :: []))), ((a 1), .inl (T 1, 2187, .inl (fun _ => 0)))]) hP hD [0, 1] [] rfl rfl (by decide) (by decide) hk1 hFc hP1 hD1
  subst hw
  clear hPc hDc hFc hP1 hD1 hk1 hz1 hvm ht
  generalize H1 = H at hP hS ⊢
  replace hP : va_P D vwCl [((a 0), .inr (12, ((.int 0) :: (.ref (ex 0)) :: (.int 0) :: (.int 0) :: (.int 0) :: (.int 0) :: (.ref (a 1)) :: (.ref (ex 1)) :: (.ref (ex 2)) :: (.ref (ex 3)) :: (.ref (ex 4)) :: (.int 0) :: (.int 0) :: (.int 0) :: (.int 0) :: (.int 0) :: (.int 0) :: (.long 0) :: (.int 0) :: (.int 0) :: (.int 0) :: (.ref (ex 5)) :: (.ref (ex 6)) :: (.int 0) :: (.ref (ex 7)) :: (.int (-1)) :: (.int 0) :: (.int 0) :: (.int 0) :: (.int 0) :: (.int 0) :: (.int 0) :: (.ref (ex 8)) :: (.int 0) :: (.ref (ex 9)) :: (.int 0) :: (.int 0) :: (.int 0) :: (.int 0) :: (.int 0) :: (.ref (ex 10)) :: (.ref (ex 11)) :: (.ref (ex 12)) :: (.ref (ex 13)) :: []))), ((a 1), .inl (T 1, 2187, .inl (fun _ => 0)))] H := hP
  replace hD : va_D A [((a 0), .inr (12, ((.int 0) :: (.ref (ex 0)) :: (.int 0) :: (.int 0) :: (.int 0) :: (.int 0) :: (.ref (a 1)) :: (.ref (ex 1)) :: (.ref (ex 2)) :: (.ref (ex 3)) :: (.ref (ex 4)) :: (.int 0) :: (.int 0) :: (.int 0) :: (.int 0) :: (.int 0) :: (.int 0) :: (.long 0) :: (.int 0) :: (.int 0) :: (.int 0) :: (.ref (ex 5)) :: (.ref (ex 6)) :: (.int 0) :: (.ref (ex 7)) :: (.int (-1)) :: (.int 0) :: (.int 0) :: (.int 0) :: (.int 0) :: (.int 0) :: (.int 0) :: (.ref (ex 8)) :: (.int 0) :: (.ref (ex 9)) :: (.int 0) :: (.int 0) :: (.int 0) :: (.int 0) :: (.int 0) :: (.ref (ex 10)) :: (.ref (ex 11)) :: (.ref (ex 12)) :: (.ref (ex 13)) :: []))), ((a 1), .inl (T 1, 2187, .inl (fun _ => 0)))] := hD
  have hP9 := hP.sub (ws' := []) [] rfl
  have hD9 := hD.sub (ws' := []) [] (by decide) rfl
  rw [hQ]
  exact W.iret (v := 0) hx hb hr (fun t ht hW => ⟨⟨0, (), rfl, rfl, ⟨xa [], xf [], xh [], xv [], by rw [ht]; exact hP9, hD9, trivial⟩⟩, hS.F ht⟩) hS.2.2 dX12_now_100
