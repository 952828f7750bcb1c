abbrev pre_X12_sentence (T : Nat → ClassId) (a ex : Nat → Nat) (fi : Nat → Nat → Int32) (fl : Nat → Nat → Int64) (vi : Nat → Int32) : va_W := [((a 0), .inr (12, ((.int 0) :: (.ref (ex 0)) :: (.int 0) :: (.int 0) :: (.int 0) :: (.int 0) :: (.ref (ex 1)) :: (.ref (ex 2)) :: (.ref (ex 3)) :: (.ref (ex 4)) :: (.ref (ex 5)) :: (.int 0) :: (.int 0) :: (.int 0) :: (.int 0) :: (.int 0) :: (.int 0) :: (.long 0) :: (.int 0) :: (.int 0) :: (.int 0) :: (.ref (ex 6)) :: (.ref (ex 7)) :: (.int 0) :: (.ref (ex 8)) :: (.int (-1)) :: (.int 0) :: (.int 0) :: (.int 0) :: (.int 0) :: (.int 0) :: (.int 0) :: (.ref (ex 9)) :: (.int 0) :: (.ref (ex 10)) :: (.int 0) :: (.int 0) :: (.int 0) :: (.int 0) :: (.int 0) :: (.ref (ex 11)) :: (.ref (ex 12)) :: (.ref (ex 13)) :: (.ref (ex 14)) :: [])))]
set_option maxHeartbeats 4000000 in
set_option maxRecDepth 100000 in
theorem c_X12_sentence (l : Launch) (D : va_G) (T : Nat → ClassId) (a ex : Nat → Nat) (fi : Nat → Nat → Int32) (fl : Nat → Nat → Int64) (vi : Nat → Int32) (sz : Nat) : Met l yX12_sentence (xw yX12_sentence cX12_sentence 3 (some .int)) ({ frames := 3, cells := 0, slots := 0, locals := 78 }) (xP D T [.ref (a 0)] sz (pre_X12_sentence T a ex fi fl vi)) (va_Qi (fun r (_ : Unit) => r = (-1)) (xB D (va_A (pre_X12_sentence T a ex fi fl vi) sz) (fun _ => True) (fun b fj fm vj => [])) (va_A (pre_X12_sentence T a ex fi fl vi) sz)) 0 0 (va_A (pre_X12_sentence T a ex fi fl vi) sz) := by
  refine xofW (cc := cX12_sentence) (maxL := 3) (ret := (some .int)) (by decide) rfl ?_
  intro p e s m args below meth c s₁ R Q hR hQ B hml hv
  obtain ⟨rfl, hsz, hP, hK, hD0⟩ := hv
  have hx := B.exec
  have hb := B.bytes
  have hr := B.returns
  have hts := atoms_spec (ws := xw yX12_sentence cX12_sentence 3 (some .int)) B.pre
  have htg : ∀ w ∈ xg, w.before _ s = true := fun w h => hts w (List.mem_cons_of_mem _ h)
  have hown : s.vm.findClass RX12 = some m.cls := findClass_of_methodNamed B.named
  have hlocks := B.notSynchronized
  subst hsz
  have hD := hD0.self (sz := s.heap.size)
  generalize hAe : va_A (pre_X12_sentence T a ex fi fl vi) s.heap.size = A at hD hQ
  have hA : ∀ q : Nat, s.heap.size ≤ q → A q := fun q h => by rw [← hAe]; exact Or.inr h
  have hS : va_S A s.heap s.heap [] := va_S.rf
  replace hP : va_P D vwCl [((a 0), .inr (12, ((.int 0) :: (.ref (ex 0)) :: (.int 0) :: (.int 0) :: (.int 0) :: (.int 0) :: (.ref (ex 1)) :: (.ref (ex 2)) :: (.ref (ex 3)) :: (.ref (ex 4)) :: (.ref (ex 5)) :: (.int 0) :: (.int 0) :: (.int 0) :: (.int 0) :: (.int 0) :: (.int 0) :: (.long 0) :: (.int 0) :: (.int 0) :: (.int 0) :: (.ref (ex 6)) :: (.ref (ex 7)) :: (.int 0) :: (.ref (ex 8)) :: (.int (-1)) :: (.int 0) :: (.int 0) :: (.int 0) :: (.int 0) :: (.int 0) :: (.int 0) :: (.ref (ex 9)) :: (.int 0) :: (.ref (ex 10)) :: (.int 0) :: (.int 0) :: (.int 0) :: (.int 0) :: (.int 0) :: (.ref (ex 11)) :: (.ref (ex 12)) :: (.ref (ex 13)) :: (.ref (ex 14)) :: [])))] s.heap := hP
  replace hD : va_D A [((a 0), .inr (12, ((.int 0) :: (.ref (ex 0)) :: (.int 0) :: (.int 0) :: (.int 0) :: (.int 0) :: (.ref (ex 1)) :: (.ref (ex 2)) :: (.ref (ex 3)) :: (.ref (ex 4)) :: (.ref (ex 5)) :: (.int 0) :: (.int 0) :: (.int 0) :: (.int 0) :: (.int 0) :: (.int 0) :: (.long 0) :: (.int 0) :: (.int 0) :: (.int 0) :: (.ref (ex 6)) :: (.ref (ex 7)) :: (.int 0) :: (.ref (ex 8)) :: (.int (-1)) :: (.int 0) :: (.int 0) :: (.int 0) :: (.int 0) :: (.int 0) :: (.int 0) :: (.ref (ex 9)) :: (.int 0) :: (.ref (ex 10)) :: (.int 0) :: (.int 0) :: (.int 0) :: (.int 0) :: (.int 0) :: (.ref (ex 11)) :: (.ref (ex 12)) :: (.ref (ex 13)) :: (.ref (ex 14)) :: [])))] := hD
  have hl := lv_entry ([.ref (a 0)]) (n := 3) (Nat.le_of_ble_eq_true rfl)
  rw [lg_entry_eq]
  generalize (lg_sl ([.ref (a 0)]) ++ List.replicate (3 - (lg_sl ([.ref (a 0)])).length) Slot.unset).toArray = ls at hl ⊢
  replace hl : lv_has ls 3 [(0, .ref (a 0))] := hl
  refine lv_aload_n hx hb dX12_sentence_0 rfl (lv_at hl 0 rfl) ?_
  refine lv_iconst (v := 0) hx hb dX12_sentence_1 (by decide) ?_
  refine va_put (D := D) (ci := 12) (v := .int 0) (ty := .int) (C := RX12) (T := TX12) (N := 44) hx hb htg inX12 tyX12 tyX12_ok nmX12 hown hK.1 hP hD hS 0 rfl rfl 0 (by decide) (htg _ kw_1407) (fun _ h9 => h9) rfl (by decide +kernel) rfl rfl (Nat.le_of_ble_eq_true rfl) dX12_sentence_2 (fun H locs hP hD hS => ?_)
  replace hP : va_P D vwCl [((a 0), .inr (12, ((.int 0) :: (.ref (ex 0)) :: (.int 0) :: (.int 0) :: (.int 0) :: (.int 0) :: (.ref (ex 1)) :: (.ref (ex 2)) :: (.ref (ex 3)) :: (.ref (ex 4)) :: (.ref (ex 5)) :: (.int 0) :: (.int 0) :: (.int 0) :: (.int 0) :: (.int 0) :: (.int 0) :: (.long 0) :: (.int 0) :: (.int 0) :: (.int 0) :: (.ref (ex 6)) :: (.ref (ex 7)) :: (.int 0) :: (.ref (ex 8)) :: (.int (-1)) :: (.int 0) :: (.int 0) :: (.int 0) :: (.int 0) :: (.int 0) :: (.int 0) :: (.ref (ex 9)) :: (.int 0) :: (.ref (ex 10)) :: (.int 0) :: (.int 0) :: (.int 0) :: (.int 0) :: (.int 0) :: (.ref (ex 11)) :: (.ref (ex 12)) :: (.ref (ex 13)) :: (.ref (ex 14)) :: [])))] H := hP
  replace hD : va_D A [((a 0), .inr (12, ((.int 0) :: (.ref (ex 0)) :: (.int 0) :: (.int 0) :: (.int 0) :: (.int 0) :: (.ref (ex 1)) :: (.ref (ex 2)) :: (.ref (ex 3)) :: (.ref (ex 4)) :: (.ref (ex 5)) :: (.int 0) :: (.int 0) :: (.int 0) :: (.int 0) :: (.int 0) :: (.int 0) :: (.long 0) :: (.int 0) :: (.int 0) :: (.int 0) :: (.ref (ex 6)) :: (.ref (ex 7)) :: (.int 0) :: (.ref (ex 8)) :: (.int (-1)) :: (.int 0) :: (.int 0) :: (.int 0) :: (.int 0) :: (.int 0) :: (.int 0) :: (.ref (ex 9)) :: (.int 0) :: (.ref (ex 10)) :: (.int 0) :: (.int 0) :: (.int 0) :: (.int 0) :: (.int 0) :: (.ref (ex 11)) :: (.ref (ex 12)) :: (.ref (ex 13)) :: (.ref (ex 14)) :: [])))] := hD
  refine lv_aload_n hx hb dX12_sentence_5 rfl (lv_at hl 0 rfl) ?_
  refine lv_sipush (v := 200) hx hb dX12_sentence_6 (by decide) ?_
  have hPc := hP.sub (ws' := (pre_X12_taken_4 T (xa [(a 0)]) (xa [(ex 0), (ex 1), (ex 2), (ex 3), (ex 4), (ex 5), (ex 6), (ex 7), (ex 8), (ex 9), (ex 10), (ex 11), (ex 12), (ex 13), (ex 14)]) (xf []) (xh []) (xv []))) [0] rfl
  have hDc := hD.sub (ws' := (pre_X12_taken_4 T (xa [(a 0)]) (xa [(ex 0), (ex 1), (ex 2), (ex 3), (ex 4), (ex 5), (ex 6), (ex 7), (ex 8), (ex 9), (ex 10), (ex 11), (ex 12), (ex 13), (ex 14)]) (xf []) (xh []) (xv []))) [0] (by decide) rfl
  have hFc := va_free (wc := (pre_X12_taken_4 T (xa [(a 0)]) (xa [(ex 0), (ex 1), (ex 2), (ex 3), (ex 4), (ex 5), (ex 6), (ex 7), (ex 8), (ex 9), (ex 10), (ex 11), (ex 12), (ex 13), (ex 14)]) (xf []) (xh []) (xv []))) hD hS hA [0] rfl
  refine va_callv (va_runV (As := [.int 200]) (rest := []) ⟨hx, hb, hml, hown, htg⟩ (c_X12_taken_4 l D T (xa [(a 0)]) (xa [(ex 0), (ex 1), (ex 2), (ex 3), (ex 4), (ex 5), (ex 6), (ex 7), (ex 8), (ex 9), (ex 10), (ex 11), (ex 12), (ex 13), (ex 14)]) (xf []) (xh []) (xv []) H.size) ⟨callB_of 1 htg (xg_ok kw_1548) rfl rfl rfl (htg _ kw_17) (htg _ kw_1545) (by decide +kernel) ⟨by rw [hR]; exact Nat.le_of_ble_eq_true rfl, by rw [hR]; exact Nat.le_of_ble_eq_true rfl⟩, htg _ kw_1547, htg _ ks_115⟩ (xpreV hK hPc hDc (va_recv hK.1 hPc (ci := 12) (q0 := 0) rfl rfl)) rfl rfl hl.1 rfl (lv_room (Nat.le_of_ble_eq_true rfl)) dX12_sentence_9 ⟨by rw [hR]; exact Nat.le_of_ble_eq_true rfl, by rw [hR]; exact Nat.le_of_ble_eq_true rfl⟩) hS (fun q _ h => hFc q h) hFc (fun u t H1 locs ht hvm hw hB hz1 hk1 hS => ?_)
  obtain ⟨bk, fik, flk, vik, hP1, hD1, hGk⟩ := hB
  rw [ht] at hP1
  obtain ⟨hP, hD⟩ := va_join (wr := []) (w1 := [((a 0), .inr (12, ((.int 0) :: (.ref (ex 0)) :: (.int 0) :: (.int 0) :: (.int 0) :: (.int 200) :: (.ref (ex 1)) :: (.ref (ex 2)) :: (.ref (ex 3)) :: (.ref (ex 4)) :: (.ref (ex 5)) :: (.int 0) :: (.int 0) :: (.int 0) :: (.int 0) :: (.int 0) :: (.int 0) :: (.long 0) :: (.int 0) :: (.int 0) :: (.int 0) :: (.ref (ex 6)) :: (.ref (ex 7)) :: (.int 0) :: (.ref (ex 8)) :: (.int (-1)) :: (.int 0) :: (.int 0) :: (.int 0) :: (.int 0) :: (.int 0) :: (.int 0) :: (.ref (ex 9)) :: (.int 0) :: (.ref (ex 10)) :: (.int 0) :: (.int 0) :: (.int 0) :: (.int 0) :: (.int 0) :: (.ref (ex 11)) :: (.ref (ex 12)) :: (.ref (ex 13)) :: (.ref (ex 14)) :: [])))]) hP hD [0] [] rfl rfl (by decide) (by decide) hk1 hFc hP1 hD1
  clear hPc hDc hFc hP1 hD1 hk1 hz1 hvm ht hw
  generalize H1 = H at hP hS ⊢
  replace hP : va_P D vwCl [((a 0), .inr (12, ((.int 0) :: (.ref (ex 0)) :: (.int 0) :: (.int 0) :: (.int 0) :: (.int 200) :: (.ref (ex 1)) :: (.ref (ex 2)) :: (.ref (ex 3)) :: (.ref (ex 4)) :: (.ref (ex 5)) :: (.int 0) :: (.int 0) :: (.int 0) :: (.int 0) :: (.int 0) :: (.int 0) :: (.long 0) :: (.int 0) :: (.int 0) :: (.int 0) :: (.ref (ex 6)) :: (.ref (ex 7)) :: (.int 0) :: (.ref (ex 8)) :: (.int (-1)) :: (.int 0) :: (.int 0) :: (.int 0) :: (.int 0) :: (.int 0) :: (.int 0) :: (.ref (ex 9)) :: (.int 0) :: (.ref (ex 10)) :: (.int 0) :: (.int 0) :: (.int 0) :: (.int 0) :: (.int 0) :: (.ref (ex 11)) :: (.ref (ex 12)) :: (.ref (ex 13)) :: (.ref (ex 14)) :: [])))] H := hP
  replace hD : va_D A [((a 0), .inr (12, ((.int 0) :: (.ref (ex 0)) :: (.int 0) :: (.int 0) :: (.int 0) :: (.int 200) :: (.ref (ex 1)) :: (.ref (ex 2)) :: (.ref (ex 3)) :: (.ref (ex 4)) :: (.ref (ex 5)) :: (.int 0) :: (.int 0) :: (.int 0) :: (.int 0) :: (.int 0) :: (.int 0) :: (.long 0) :: (.int 0) :: (.int 0) :: (.int 0) :: (.ref (ex 6)) :: (.ref (ex 7)) :: (.int 0) :: (.ref (ex 8)) :: (.int (-1)) :: (.int 0) :: (.int 0) :: (.int 0) :: (.int 0) :: (.int 0) :: (.int 0) :: (.ref (ex 9)) :: (.int 0) :: (.ref (ex 10)) :: (.int 0) :: (.int 0) :: (.int 0) :: (.int 0) :: (.int 0) :: (.ref (ex 11)) :: (.ref (ex 12)) :: (.ref (ex 13)) :: (.ref (ex 14)) :: [])))] := hD
  refine lv_aload_n hx hb dX12_sentence_12 rfl (lv_at hl 0 rfl) ?_
  refine lv_iconst (v := 0) hx hb dX12_sentence_13 (by decide) ?_
  refine va_put (D := D) (ci := 12) (v := .int 0) (ty := .int) (C := RX12) (T := TX12) (N := 44) hx hb htg inX12 tyX12 tyX12_ok nmX12 hown hK.1 hP hD hS 0 rfl rfl 15 (by decide) (htg _ kw_1422) (fun _ h9 => h9) rfl (by decide +kernel) rfl rfl (Nat.le_of_ble_eq_true rfl) dX12_sentence_14 (fun H locs hP hD hS => ?_)
  replace hP : va_P D vwCl [((a 0), .inr (12, ((.int 0) :: (.ref (ex 0)) :: (.int 0) :: (.int 0) :: (.int 0) :: (.int 200) :: (.ref (ex 1)) :: (.ref (ex 2)) :: (.ref (ex 3)) :: (.ref (ex 4)) :: (.ref (ex 5)) :: (.int 0) :: (.int 0) :: (.int 0) :: (.int 0) :: (.int 0) :: (.int 0) :: (.long 0) :: (.int 0) :: (.int 0) :: (.int 0) :: (.ref (ex 6)) :: (.ref (ex 7)) :: (.int 0) :: (.ref (ex 8)) :: (.int (-1)) :: (.int 0) :: (.int 0) :: (.int 0) :: (.int 0) :: (.int 0) :: (.int 0) :: (.ref (ex 9)) :: (.int 0) :: (.ref (ex 10)) :: (.int 0) :: (.int 0) :: (.int 0) :: (.int 0) :: (.int 0) :: (.ref (ex 11)) :: (.ref (ex 12)) :: (.ref (ex 13)) :: (.ref (ex 14)) :: [])))] H := hP
  replace hD : va_D A [((a 0), .inr (12, ((.int 0) :: (.ref (ex 0)) :: (.int 0) :: (.int 0) :: (.int 0) :: (.int 200) :: (.ref (ex 1)) :: (.ref (ex 2)) :: (.ref (ex 3)) :: (.ref (ex 4)) :: (.ref (ex 5)) :: (.int 0) :: (.int 0) :: (.int 0) :: (.int 0) :: (.int 0) :: (.int 0) :: (.long 0) :: (.int 0) :: (.int 0) :: (.int 0) :: (.ref (ex 6)) :: (.ref (ex 7)) :: (.int 0) :: (.ref (ex 8)) :: (.int (-1)) :: (.int 0) :: (.int 0) :: (.int 0) :: (.int 0) :: (.int 0) :: (.int 0) :: (.ref (ex 9)) :: (.int 0) :: (.ref (ex 10)) :: (.int 0) :: (.int 0) :: (.int 0) :: (.int 0) :: (.int 0) :: (.ref (ex 11)) :: (.ref (ex 12)) :: (.ref (ex 13)) :: (.ref (ex 14)) :: [])))] := hD
  refine lv_aload_n hx hb dX12_sentence_17 rfl (lv_at hl 0 rfl) ?_
  refine lv_iconst (v := 0) hx hb dX12_sentence_18 (by decide) ?_
  refine va_put (D := D) (ci := 12) (v := .int 0) (ty := .int) (C := RX12) (T := TX12) (N := 44) hx hb htg inX12 tyX12 tyX12_ok nmX12 hown hK.1 hP hD hS 0 rfl rfl 35 (by decide) (htg _ kw_1442) (fun _ h9 => h9) rfl (by decide +kernel) rfl rfl (Nat.le_of_ble_eq_true rfl) dX12_sentence_19 (fun H locs hP hD hS => ?_)
  replace hP : va_P D vwCl [((a 0), .inr (12, ((.int 0) :: (.ref (ex 0)) :: (.int 0) :: (.int 0) :: (.int 0) :: (.int 200) :: (.ref (ex 1)) :: (.ref (ex 2)) :: (.ref (ex 3)) :: (.ref (ex 4)) :: (.ref (ex 5)) :: (.int 0) :: (.int 0) :: (.int 0) :: (.int 0) :: (.int 0) :: (.int 0) :: (.long 0) :: (.int 0) :: (.int 0) :: (.int 0) :: (.ref (ex 6)) :: (.ref (ex 7)) :: (.int 0) :: (.ref (ex 8)) :: (.int (-1)) :: (.int 0) :: (.int 0) :: (.int 0) :: (.int 0) :: (.int 0) :: (.int 0) :: (.ref (ex 9)) :: (.int 0) :: (.ref (ex 10)) :: (.int 0) :: (.int 0) :: (.int 0) :: (.int 0) :: (.int 0) :: (.ref (ex 11)) :: (.ref (ex 12)) :: (.ref (ex 13)) :: (.ref (ex 14)) :: [])))] H := hP
  replace hD : va_D A [((a 0), .inr (12, ((.int 0) :: (.ref (ex 0)) :: (.int 0) :: (.int 0) :: (.int 0) :: (.int 200) :: (.ref (ex 1)) :: (.ref (ex 2)) :: (.ref (ex 3)) :: (.ref (ex 4)) :: (.ref (ex 5)) :: (.int 0) :: (.int 0) :: (.int 0) :: (.int 0) :: (.int 0) :: (.int 0) :: (.long 0) :: (.int 0) :: (.int 0) :: (.int 0) :: (.ref (ex 6)) :: (.ref (ex 7)) :: (.int 0) :: (.ref (ex 8)) :: (.int (-1)) :: (.int 0) :: (.int 0) :: (.int 0) :: (.int 0) :: (.int 0) :: (.int 0) :: (.ref (ex 9)) :: (.int 0) :: (.ref (ex 10)) :: (.int 0) :: (.int 0) :: (.int 0) :: (.int 0) :: (.int 0) :: (.ref (ex 11)) :: (.ref (ex 12)) :: (.ref (ex 13)) :: (.ref (ex 14)) :: [])))] := hD
  refine lv_aload_n hx hb dX12_sentence_22 rfl (lv_at hl 0 rfl) ?_
  refine lv_iconst (v := 0) hx hb dX12_sentence_23 (by decide) ?_
  refine va_put (D := D) (ci := 12) (v := .int 0) (ty := .int) (C := RX12) (T := TX12) (N := 44) hx hb htg inX12 tyX12 tyX12_ok nmX12 hown hK.1 hP hD hS 0 rfl rfl 36 (by decide) (htg _ kw_1443) (fun _ h9 => h9) rfl (by decide +kernel) rfl rfl (Nat.le_of_ble_eq_true rfl) dX12_sentence_24 (fun H locs hP hD hS => ?_)
  replace hP : va_P D vwCl [((a 0), .inr (12, ((.int 0) :: (.ref (ex 0)) :: (.int 0) :: (.int 0) :: (.int 0) :: (.int 200) :: (.ref (ex 1)) :: (.ref (ex 2)) :: (.ref (ex 3)) :: (.ref (ex 4)) :: (.ref (ex 5)) :: (.int 0) :: (.int 0) :: (.int 0) :: (.int 0) :: (.int 0) :: (.int 0) :: (.long 0) :: (.int 0) :: (.int 0) :: (.int 0) :: (.ref (ex 6)) :: (.ref (ex 7)) :: (.int 0) :: (.ref (ex 8)) :: (.int (-1)) :: (.int 0) :: (.int 0) :: (.int 0) :: (.int 0) :: (.int 0) :: (.int 0) :: (.ref (ex 9)) :: (.int 0) :: (.ref (ex 10)) :: (.int 0) :: (.int 0) :: (.int 0) :: (.int 0) :: (.int 0) :: (.ref (ex 11)) :: (.ref (ex 12)) :: (.ref (ex 13)) :: (.ref (ex 14)) :: [])))] H := hP
  replace hD : va_D A [((a 0), .inr (12, ((.int 0) :: (.ref (ex 0)) :: (.int 0) :: (.int 0) :: (.int 0) :: (.int 200) :: (.ref (ex 1)) :: (.ref (ex 2)) :: (.ref (ex 3)) :: (.ref (ex 4)) :: (.ref (ex 5)) :: (.int 0) :: (.int 0) :: (.int 0) :: (.int 0) :: (.int 0) :: (.int 0) :: (.long 0) :: (.int 0) :: (.int 0) :: (.int 0) :: (.ref (ex 6)) :: (.ref (ex 7)) :: (.int 0) :: (.ref (ex 8)) :: (.int (-1)) :: (.int 0) :: (.int 0) :: (.int 0) :: (.int 0) :: (.int 0) :: (.int 0) :: (.ref (ex 9)) :: (.int 0) :: (.ref (ex 10)) :: (.int 0) :: (.int 0) :: (.int 0) :: (.int 0) :: (.int 0) :: (.ref (ex 11)) :: (.ref (ex 12)) :: (.ref (ex 13)) :: (.ref (ex 14)) :: [])))] := hD
  refine lv_aload_n hx hb dX12_sentence_27 rfl (lv_at hl 0 rfl) ?_
  refine lv_iconst (v := 0) hx hb dX12_sentence_28 (by decide) ?_
  refine va_put (D := D) (ci := 12) (v := .int 0) (ty := .int) (C := RX12) (T := TX12) (N := 44) hx hb htg inX12 tyX12 tyX12_ok nmX12 hown hK.1 hP hD hS 0 rfl rfl 37 (by decide) (htg _ kw_1444) (fun _ h9 => h9) rfl (by decide +kernel) rfl rfl (Nat.le_of_ble_eq_true rfl) dX12_sentence_29 (fun H locs hP hD hS => ?_)
  replace hP : va_P D vwCl [((a 0), .inr (12, ((.int 0) :: (.ref (ex 0)) :: (.int 0) :: (.int 0) :: (.int 0) :: (.int 200) :: (.ref (ex 1)) :: (.ref (ex 2)) :: (.ref (ex 3)) :: (.ref (ex 4)) :: (.ref (ex 5)) :: (.int 0) :: (.int 0) :: (.int 0) :: (.int 0) :: (.int 0) :: (.int 0) :: (.long 0) :: (.int 0) :: (.int 0) :: (.int 0) :: (.ref (ex 6)) :: (.ref (ex 7)) :: (.int 0) :: (.ref (ex 8)) :: (.int (-1)) :: (.int 0) :: (.int 0) :: (.int 0) :: (.int 0) :: (.int 0) :: (.int 0) :: (.ref (ex 9)) :: (.int 0) :: (.ref (ex 10)) :: (.int 0) :: (.int 0) :: (.int 0) :: (.int 0) :: (.int 0) :: (.ref (ex 11)) :: (.ref (ex 12)) :: (.ref (ex 13)) :: (.ref (ex 14)) :: [])))] H := hP
  replace hD : va_D A [((a 0), .inr (12, ((.int 0) :: (.ref (ex 0)) :: (.int 0) :: (.int 0) :: (.int 0) :: (.int 200) :: (.ref (ex 1)) :: (.ref (ex 2)) :: (.ref (ex 3)) :: (.ref (ex 4)) :: (.ref (ex 5)) :: (.int 0) :: (.int 0) :: (.int 0) :: (.int 0) :: (.int 0) :: (.int 0) :: (.long 0) :: (.int 0) :: (.int 0) :: (.int 0) :: (.ref (ex 6)) :: (.ref (ex 7)) :: (.int 0) :: (.ref (ex 8)) :: (.int (-1)) :: (.int 0) :: (.int 0) :: (.int 0) :: (.int 0) :: (.int 0) :: (.int 0) :: (.ref (ex 9)) :: (.int 0) :: (.ref (ex 10)) :: (.int 0) :: (.int 0) :: (.int 0) :: (.int 0) :: (.int 0) :: (.ref (ex 11)) :: (.ref (ex 12)) :: (.ref (ex 13)) :: (.ref (ex 14)) :: [])))] := hD
  refine lv_aload_n hx hb dX12_sentence_32 rfl (lv_at hl 0 rfl) ?_
  refine lv_iconst (v := 1) hx hb dX12_sentence_33 (by decide) ?_
  refine va_put (D := D) (ci := 12) (v := .int 1) (ty := .int) (C := RX12) (T := TX12) (N := 44) hx hb htg inX12 tyX12 tyX12_ok nmX12 hown hK.1 hP hD hS 0 rfl rfl 38 (by decide) (htg _ kw_1445) (fun _ h9 => h9) rfl (by decide +kernel) rfl rfl (Nat.le_of_ble_eq_true rfl) dX12_sentence_34 (fun H locs hP hD hS => ?_)
  replace hP : va_P D vwCl [((a 0), .inr (12, ((.int 0) :: (.ref (ex 0)) :: (.int 0) :: (.int 0) :: (.int 0) :: (.int 200) :: (.ref (ex 1)) :: (.ref (ex 2)) :: (.ref (ex 3)) :: (.ref (ex 4)) :: (.ref (ex 5)) :: (.int 0) :: (.int 0) :: (.int 0) :: (.int 0) :: (.int 0) :: (.int 0) :: (.long 0) :: (.int 0) :: (.int 0) :: (.int 0) :: (.ref (ex 6)) :: (.ref (ex 7)) :: (.int 0) :: (.ref (ex 8)) :: (.int (-1)) :: (.int 0) :: (.int 0) :: (.int 0) :: (.int 0) :: (.int 0) :: (.int 0) :: (.ref (ex 9)) :: (.int 0) :: (.ref (ex 10)) :: (.int 0) :: (.int 0) :: (.int 0) :: (.int 1) :: (.int 0) :: (.ref (ex 11)) :: (.ref (ex 12)) :: (.ref (ex 13)) :: (.ref (ex 14)) :: [])))] H := hP
  replace hD : va_D A [((a 0), .inr (12, ((.int 0) :: (.ref (ex 0)) :: (.int 0) :: (.int 0) :: (.int 0) :: (.int 200) :: (.ref (ex 1)) :: (.ref (ex 2)) :: (.ref (ex 3)) :: (.ref (ex 4)) :: (.ref (ex 5)) :: (.int 0) :: (.int 0) :: (.int 0) :: (.int 0) :: (.int 0) :: (.int 0) :: (.long 0) :: (.int 0) :: (.int 0) :: (.int 0) :: (.ref (ex 6)) :: (.ref (ex 7)) :: (.int 0) :: (.ref (ex 8)) :: (.int (-1)) :: (.int 0) :: (.int 0) :: (.int 0) :: (.int 0) :: (.int 0) :: (.int 0) :: (.ref (ex 9)) :: (.int 0) :: (.ref (ex 10)) :: (.int 0) :: (.int 0) :: (.int 0) :: (.int 1) :: (.int 0) :: (.ref (ex 11)) :: (.ref (ex 12)) :: (.ref (ex 13)) :: (.ref (ex 14)) :: [])))] := hD
  refine lv_aload_n hx hb dX12_sentence_37 rfl (lv_at hl 0 rfl) ?_
  refine lv_iconst (v := 0) hx hb dX12_sentence_38 (by decide) ?_
  refine va_put (D := D) (ci := 12) (v := .int 0) (ty := .boolean) (C := RX12) (T := TX12) (N := 44) hx hb htg inX12 tyX12 tyX12_ok nmX12 hown hK.1 hP hD hS 0 rfl rfl 39 (by decide) (htg _ kw_1446) (fun _ h9 => h9) rfl (by decide +kernel) rfl rfl (Nat.le_of_ble_eq_true rfl) dX12_sentence_39 (fun H locs hP hD hS => ?_)
  replace hP : va_P D vwCl [((a 0), .inr (12, ((.int 0) :: (.ref (ex 0)) :: (.int 0) :: (.int 0) :: (.int 0) :: (.int 200) :: (.ref (ex 1)) :: (.ref (ex 2)) :: (.ref (ex 3)) :: (.ref (ex 4)) :: (.ref (ex 5)) :: (.int 0) :: (.int 0) :: (.int 0) :: (.int 0) :: (.int 0) :: (.int 0) :: (.long 0) :: (.int 0) :: (.int 0) :: (.int 0) :: (.ref (ex 6)) :: (.ref (ex 7)) :: (.int 0) :: (.ref (ex 8)) :: (.int (-1)) :: (.int 0) :: (.int 0) :: (.int 0) :: (.int 0) :: (.int 0) :: (.int 0) :: (.ref (ex 9)) :: (.int 0) :: (.ref (ex 10)) :: (.int 0) :: (.int 0) :: (.int 0) :: (.int 1) :: (.int 0) :: (.ref (ex 11)) :: (.ref (ex 12)) :: (.ref (ex 13)) :: (.ref (ex 14)) :: [])))] H := hP
  replace hD : va_D A [((a 0), .inr (12, ((.int 0) :: (.ref (ex 0)) :: (.int 0) :: (.int 0) :: (.int 0) :: (.int 200) :: (.ref (ex 1)) :: (.ref (ex 2)) :: (.ref (ex 3)) :: (.ref (ex 4)) :: (.ref (ex 5)) :: (.int 0) :: (.int 0) :: (.int 0) :: (.int 0) :: (.int 0) :: (.int 0) :: (.long 0) :: (.int 0) :: (.int 0) :: (.int 0) :: (.ref (ex 6)) :: (.ref (ex 7)) :: (.int 0) :: (.ref (ex 8)) :: (.int (-1)) :: (.int 0) :: (.int 0) :: (.int 0) :: (.int 0) :: (.int 0) :: (.int 0) :: (.ref (ex 9)) :: (.int 0) :: (.ref (ex 10)) :: (.int 0) :: (.int 0) :: (.int 0) :: (.int 1) :: (.int 0) :: (.ref (ex 11)) :: (.ref (ex 12)) :: (.ref (ex 13)) :: (.ref (ex 14)) :: [])))] := hD
  refine lv_aload_n hx hb dX12_sentence_42 rfl (lv_at hl 0 rfl) ?_
  have hPc := hP.sub (ws' := (pre_X12_next_3 T (xa [(a 0)]) (xa [(ex 0), (ex 1), (ex 2), (ex 3), (ex 4), (ex 5), (ex 6), (ex 7), (ex 8), (ex 9), (ex 10), (ex 11), (ex 12), (ex 13), (ex 14)]) (xf []) (xh []) (xv []))) [0] rfl
  have hDc := hD.sub (ws' := (pre_X12_next_3 T (xa [(a 0)]) (xa [(ex 0), (ex 1), (ex 2), (ex 3), (ex 4), (ex 5), (ex 6), (ex 7), (ex 8), (ex 9), (ex 10), (ex 11), (ex 12), (ex 13), (ex 14)]) (xf []) (xh []) (xv []))) [0] (by decide) rfl
  have hFc := va_free (wc := (pre_X12_next_3 T (xa [(a 0)]) (xa [(ex 0), (ex 1), (ex 2), (ex 3), (ex 4), (ex 5), (ex 6), (ex 7), (ex 8), (ex 9), (ex 10), (ex 11), (ex 12), (ex 13), (ex 14)]) (xf []) (xh []) (xv []))) hD hS hA [0] rfl
  refine va_callv (va_runV (As := []) (rest := []) ⟨hx, hb, hml, hown, htg⟩ (c_X12_next_3 l D T (xa [(a 0)]) (xa [(ex 0), (ex 1), (ex 2), (ex 3), (ex 4), (ex 5), (ex 6), (ex 7), (ex 8), (ex 9), (ex 10), (ex 11), (ex 12), (ex 13), (ex 14)]) (xf []) (xh []) (xv []) H.size) ⟨callB_of 0 htg (xg_ok kw_1552) rfl rfl rfl (htg _ kw_17) (htg _ kw_1549) (by decide +kernel) ⟨by rw [hR]; exact Nat.le_of_ble_eq_true rfl, by rw [hR]; exact Nat.le_of_ble_eq_true rfl⟩, htg _ kw_1551, htg _ ks_116⟩ (xpreV hK hPc hDc (va_recv hK.1 hPc (ci := 12) (q0 := 0) rfl rfl)) rfl rfl hl.1 rfl (lv_room (Nat.le_of_ble_eq_true rfl)) dX12_sentence_43 ⟨by rw [hR]; exact Nat.le_of_ble_eq_true rfl, by rw [hR]; exact Nat.le_of_ble_eq_true rfl⟩) hS (fun q _ h => hFc q h) hFc (fun u t H1 locs ht hvm hw hB hz1 hk1 hS => ?_)
  obtain ⟨bk_1, fik_1, flk_1, vik_1, hP1, hD1, hGk_1⟩ := hB
  rw [ht] at hP1
  obtain ⟨hP, hD⟩ := va_join (wr := []) (w1 := [((a 0), .inr (12, ((.int 0) :: (.ref (ex 0)) :: (.int 0) :: (.int 0) :: (.int 0) :: (.int 200) :: (.ref (ex 1)) :: (.ref (ex 2)) :: (.ref (ex 3)) :: (.ref (ex 4)) :: (.ref (ex 5)) :: (.int 0) :: (.int 0) :: (.int 0) :: (.int 0) :: (.int 0) :: (.int 0) :: (.long 0) :: (.int 0) :: (.int 0) :: (.int 0) :: (.ref (ex 6)) :: (.ref (ex 7)) :: (.int 0) :: (.ref (ex 8)) :: (.int (-1)) :: (.int 0) :: (.int 0) :: (.int 0) :: (.int 0) :: (.int 0) :: (.int 0) :: (.ref (ex 9)) :: (.int 0) :: (.ref (ex 10)) :: (.int 0) :: (.int 0) :: (.int 0) :: (.int 1) :: (.int 0) :: (.ref (ex 11)) :: (.ref (ex 12)) :: (.ref (ex 13)) :: (.ref (ex 14)) :: [])))]) hP hD [0] [] rfl rfl (by decide) (by decide) hk1 hFc hP1 hD1
  clear hPc hDc hFc hP1 hD1 hk1 hz1 hvm ht hw
  generalize H1 = H at hP hS ⊢
  replace hP : va_P D vwCl [((a 0), .inr (12, ((.int 0) :: (.ref (ex 0)) :: (.int 0) :: (.int 0) :: (.int 0) :: (.int 200) :: (.ref (ex 1)) :: (.ref (ex 2)) :: (.ref (ex 3)) :: (.ref (ex 4)) :: (.ref (ex 5)) :: (.int 0) :: (.int 0) :: (.int 0) :: (.int 0) :: (.int 0) :: (.int 0) :: (.long 0) :: (.int 0) :: (.int 0) :: (.int 0) :: (.ref (ex 6)) :: (.ref (ex 7)) :: (.int 0) :: (.ref (ex 8)) :: (.int (-1)) :: (.int 0) :: (.int 0) :: (.int 0) :: (.int 0) :: (.int 0) :: (.int 0) :: (.ref (ex 9)) :: (.int 0) :: (.ref (ex 10)) :: (.int 0) :: (.int 0) :: (.int 0) :: (.int 1) :: (.int 0) :: (.ref (ex 11)) :: (.ref (ex 12)) :: (.ref (ex 13)) :: (.ref (ex 14)) :: [])))] H := hP
  replace hD : va_D A [((a 0), .inr (12, ((.int 0) :: (.ref (ex 0)) :: (.int 0) :: (.int 0) :: (.int 0) :: (.int 200) :: (.ref (ex 1)) :: (.ref (ex 2)) :: (.ref (ex 3)) :: (.ref (ex 4)) :: (.ref (ex 5)) :: (.int 0) :: (.int 0) :: (.int 0) :: (.int 0) :: (.int 0) :: (.int 0) :: (.long 0) :: (.int 0) :: (.int 0) :: (.int 0) :: (.ref (ex 6)) :: (.ref (ex 7)) :: (.int 0) :: (.ref (ex 8)) :: (.int (-1)) :: (.int 0) :: (.int 0) :: (.int 0) :: (.int 0) :: (.int 0) :: (.int 0) :: (.ref (ex 9)) :: (.int 0) :: (.ref (ex 10)) :: (.int 0) :: (.int 0) :: (.int 0) :: (.int 1) :: (.int 0) :: (.ref (ex 11)) :: (.ref (ex 12)) :: (.ref (ex 13)) :: (.ref (ex 14)) :: [])))] := hD
  refine lv_iconst (v := 1) hx hb dX12_sentence_46 (by decide) ?_
  refine lv_istore_n (lv' := [(1, .int 1), (0, .ref (a 0))]) hx hb dX12_sentence_47 rfl hl (by decide) rfl (fun ls hl => ?_)
  refine lv_iload_n hx hb dX12_sentence_48 rfl (lv_at hl 0 rfl) ?_
  refine lv_if_eq (tgt := 132) hx hb dX12_sentence_49 (by decide) (fun c => absurd c (by decide)) (fun _ => ?_)
  refine lv_aload_n hx hb dX12_sentence_52 rfl (lv_at hl 1 rfl) ?_
  refine va_get (D := D) (ci := 12) (v := .int 0) (C := RX12) (T := TX12) (N := 44) hx hb htg inX12 hown hK.1 hP 0 rfl rfl 39 (by decide) (htg _ kw_1446) (fun _ h9 => h9) rfl dX12_sentence_53 ?_
  refine lv_if_eq (tgt := 101) hx hb dX12_sentence_56 (by decide) (fun _ => ?_) (fun c => absurd (by decide) c)
  refine lv_aload_n hx hb dX12_sentence_101 rfl (lv_at hl 1 rfl) ?_
  refine va_get (D := D) (ci := 12) (v := .int 0) (C := RX12) (T := TX12) (N := 44) hx hb htg inX12 hown hK.1 hP 0 rfl rfl 39 (by decide) (htg _ kw_1446) (fun _ h9 => h9) rfl dX12_sentence_102 ?_
  refine lv_if_eq (tgt := 118) hx hb dX12_sentence_105 (by decide) (fun _ => ?_) (fun c => absurd (by decide) c)
  refine lv_aload_n hx hb dX12_sentence_118 rfl (lv_at hl 1 rfl) ?_
  have hPc := hP.sub (ws' := (pre_X12_operand T (xa [(a 0)]) (xa [(ex 0), (ex 1), (ex 2), (ex 3), (ex 4), (ex 5), (ex 6), (ex 7), (ex 8), (ex 9), (ex 10), (ex 11), (ex 12), (ex 13), (ex 14)]) (xf []) (xh []) (xv []))) [0] rfl
  have hDc := hD.sub (ws' := (pre_X12_operand T (xa [(a 0)]) (xa [(ex 0), (ex 1), (ex 2), (ex 3), (ex 4), (ex 5), (ex 6), (ex 7), (ex 8), (ex 9), (ex 10), (ex 11), (ex 12), (ex 13), (ex 14)]) (xf []) (xh []) (xv []))) [0] (by decide) rfl
  have hFc := va_free (wc := (pre_X12_operand T (xa [(a 0)]) (xa [(ex 0), (ex 1), (ex 2), (ex 3), (ex 4), (ex 5), (ex 6), (ex 7), (ex 8), (ex 9), (ex 10), (ex 11), (ex 12), (ex 13), (ex 14)]) (xf []) (xh []) (xv []))) hD hS hA [0] rfl
  refine va_calli (va_runV (As := []) (rest := []) ⟨hx, hb, hml, hown, htg⟩ (c_X12_operand l D T (xa [(a 0)]) (xa [(ex 0), (ex 1), (ex 2), (ex 3), (ex 4), (ex 5), (ex 6), (ex 7), (ex 8), (ex 9), (ex 10), (ex 11), (ex 12), (ex 13), (ex 14)]) (xf []) (xh []) (xv []) H.size) ⟨callB_of 0 htg (xg_ok kw_1988) rfl rfl rfl (htg _ kw_17) (htg _ kw_1985) (by decide +kernel) ⟨by rw [hR]; exact Nat.le_of_ble_eq_true rfl, by rw [hR]; exact Nat.le_of_ble_eq_true rfl⟩, htg _ kw_1987, htg _ ks_184⟩ (xpreV hK hPc hDc (va_recv hK.1 hPc (ci := 12) (q0 := 0) rfl rfl)) rfl rfl hl.1 rfl (lv_room (Nat.le_of_ble_eq_true rfl)) dX12_sentence_119 ⟨by rw [hR]; exact Nat.le_of_ble_eq_true rfl, by rw [hR]; exact Nat.le_of_ble_eq_true rfl⟩) hS (fun q _ h => hFc q h) hFc (fun r9 u t H1 locs ht hvm hw hB hz1 hk1 hS => ?_)
  obtain ⟨bk_2, fik_2, flk_2, vik_2, hP1, hD1, hGk_2⟩ := hB
  rw [ht] at hP1
  obtain ⟨hP, hD⟩ := va_join (wr := []) (w1 := [((a 0), .inr (12, ((.int 0) :: (.ref (ex 0)) :: (.int 0) :: (.int 0) :: (.int 0) :: (.int 200) :: (.ref (ex 1)) :: (.ref (ex 2)) :: (.ref (ex 3)) :: (.ref (ex 4)) :: (.ref (ex 5)) :: (.int 0) :: (.int 0) :: (.int 0) :: (.int 0) :: (.int 1) :: (.int 0) :: (.long 0) :: (.int 0) :: (.int 0) :: (.int 0) :: (.ref (ex 6)) :: (.ref (ex 7)) :: (.int 0) :: (.ref (ex 8)) :: (.int (-1)) :: (.int 0) :: (.int 0) :: (.int 0) :: (.int 0) :: (.int 0) :: (.int 0) :: (.ref (ex 9)) :: (.int 0) :: (.ref (ex 10)) :: (.int 0) :: (.int 0) :: (.int 0) :: (.int 1) :: (.int 0) :: (.ref (ex 11)) :: (.ref (ex 12)) :: (.ref (ex 13)) :: (.ref (ex 14)) :: [])))]) hP hD [0] [] rfl rfl (by decide) (by decide) hk1 hFc hP1 hD1
  subst hw
  clear hPc hDc hFc hP1 hD1 hk1 hz1 hvm ht
  generalize H1 = H at hP hS ⊢
  replace hP : va_P D vwCl [((a 0), .inr (12, ((.int 0) :: (.ref (ex 0)) :: (.int 0) :: (.int 0) :: (.int 0) :: (.int 200) :: (.ref (ex 1)) :: (.ref (ex 2)) :: (.ref (ex 3)) :: (.ref (ex 4)) :: (.ref (ex 5)) :: (.int 0) :: (.int 0) :: (.int 0) :: (.int 0) :: (.int 1) :: (.int 0) :: (.long 0) :: (.int 0) :: (.int 0) :: (.int 0) :: (.ref (ex 6)) :: (.ref (ex 7)) :: (.int 0) :: (.ref (ex 8)) :: (.int (-1)) :: (.int 0) :: (.int 0) :: (.int 0) :: (.int 0) :: (.int 0) :: (.int 0) :: (.ref (ex 9)) :: (.int 0) :: (.ref (ex 10)) :: (.int 0) :: (.int 0) :: (.int 0) :: (.int 1) :: (.int 0) :: (.ref (ex 11)) :: (.ref (ex 12)) :: (.ref (ex 13)) :: (.ref (ex 14)) :: [])))] H := hP
  replace hD : va_D A [((a 0), .inr (12, ((.int 0) :: (.ref (ex 0)) :: (.int 0) :: (.int 0) :: (.int 0) :: (.int 200) :: (.ref (ex 1)) :: (.ref (ex 2)) :: (.ref (ex 3)) :: (.ref (ex 4)) :: (.ref (ex 5)) :: (.int 0) :: (.int 0) :: (.int 0) :: (.int 0) :: (.int 1) :: (.int 0) :: (.long 0) :: (.int 0) :: (.int 0) :: (.int 0) :: (.ref (ex 6)) :: (.ref (ex 7)) :: (.int 0) :: (.ref (ex 8)) :: (.int (-1)) :: (.int 0) :: (.int 0) :: (.int 0) :: (.int 0) :: (.int 0) :: (.int 0) :: (.ref (ex 9)) :: (.int 0) :: (.ref (ex 10)) :: (.int 0) :: (.int 0) :: (.int 0) :: (.int 1) :: (.int 0) :: (.ref (ex 11)) :: (.ref (ex 12)) :: (.ref (ex 13)) :: (.ref (ex 14)) :: [])))] := hD
  refine lv_if_ne (tgt := 48) hx hb dX12_sentence_122 (by decide) (fun c => absurd (by decide) c) (fun _ => ?_)
  refine lv_iconst (v := (-1)) hx hb dX12_sentence_125 (by decide) ?_
  refine lv_aload_n hx hb dX12_sentence_126 rfl (lv_at hl 1 rfl) ?_
  refine va_get (D := D) (ci := 12) (v := .int 0) (C := RX12) (T := TX12) (N := 44) hx hb htg inX12 hown hK.1 hP 0 rfl rfl 16 (by decide) (htg _ kw_1423) (fun _ h9 => h9) rfl dX12_sentence_127 ?_
  refine lv_isub hx hb dX12_sentence_130 ?_
  refine xz_i (-1) (by decide) ?_
  have hP9 := hP.sub (ws' := []) [] rfl
  have hD9 := hD.sub (ws' := []) [] (by decide) rfl
  rw [hQ]
  exact W.iret (v := (-1)) hx hb hr (fun t ht hW => ⟨⟨(-1), (), rfl, rfl, ⟨xa [], xf [], xh [], xv [], by rw [ht]; exact hP9, hD9, trivial⟩⟩, hS.F ht⟩) hS.2.2 dX12_sentence_131
abbrev pre_X12_said (T : Nat → ClassId) (a ex : Nat → Nat) (fi : Nat → Nat → Int32) (fl : Nat → Nat → Int64) (vi : Nat → Int32) : va_W := [((a 0), .inr (12, ((.int 0) :: (.ref (ex 0)) :: (.int 0) :: (.int 0) :: (.int 0) :: (.int 0) :: (.ref (a 1)) :: (.ref (ex 1)) :: (.ref (ex 2)) :: (.ref (ex 3)) :: (.ref (ex 4)) :: (.int 0) :: (.int 0) :: (.int 0) :: (.int 0) :: (.int 0) :: (.int 0) :: (.long 0) :: (.int 0) :: (.int 0) :: (.int 0) :: (.ref (ex 5)) :: (.ref (ex 6)) :: (.int 0) :: (.ref (ex 7)) :: (.int (-1)) :: (.int 0) :: (.int 0) :: (.int 0) :: (.int 0) :: (.int 0) :: (.int 0) :: (.ref (ex 8)) :: (.int 0) :: (.ref (ex 9)) :: (.int 0) :: (.int 0) :: (.int 0) :: (.int 0) :: (.int 0) :: (.ref (ex 10)) :: (.ref (ex 11)) :: (.ref (ex 12)) :: (.ref (ex 13)) :: []))), ((a 1), .inl (T 1, 2187, .inl (fun _ => 0)))]
set_option maxHeartbeats 4000000 in
set_option maxRecDepth 100000 in
theorem c_X12_said (l : Launch) (D : va_G) (T : Nat → ClassId) (a ex : Nat → Nat) (fi : Nat → Nat → Int32) (fl : Nat → Nat → Int64) (vi : Nat → Int32) (sz : Nat) : Met l yX12_said (xw yX12_said cX12_said 4 (some .int)) ({ frames := 0, cells := 0, slots := 0, locals := 0 }) (xP D T [.ref (a 0), .int (vi 0)] sz (pre_X12_said T a ex fi fl vi)) (va_Qi (fun r (_ : Unit) => r = (-1)) (xB D (va_A (pre_X12_said T a ex fi fl vi) sz) (fun _ => True) (fun b fj fm vj => [])) (va_A (pre_X12_said T a ex fi fl vi) sz)) 0 0 (va_A (pre_X12_said T a ex fi fl vi) sz) := by
  refine xofW (cc := cX12_said) (maxL := 4) (ret := (some .int)) (by decide) rfl ?_
  intro p e s m args below meth c s₁ R Q hR hQ B hml hv
  obtain ⟨rfl, hsz, hP, hK, hD0⟩ := hv
  have hx := B.exec
  have hb := B.bytes
  have hr := B.returns
  have hts := atoms_spec (ws := xw yX12_said cX12_said 4 (some .int)) B.pre
  have htg : ∀ w ∈ xg, w.before _ s = true := fun w h => hts w (List.mem_cons_of_mem _ h)
  have hown : s.vm.findClass RX12 = some m.cls := findClass_of_methodNamed B.named
  have hlocks := B.notSynchronized
  subst hsz
  have hD := hD0.self (sz := s.heap.size)
  generalize hAe : va_A (pre_X12_said T a ex fi fl vi) s.heap.size = A at hD hQ
  have hA : ∀ q : Nat, s.heap.size ≤ q → A q := fun q h => by rw [← hAe]; exact Or.inr h
  have hS : va_S A s.heap s.heap [] := va_S.rf
  replace hP : va_P D vwCl [((a 0), .inr (12, ((.int 0) :: (.ref (ex 0)) :: (.int 0) :: (.int 0) :: (.int 0) :: (.int 0) :: (.ref (a 1)) :: (.ref (ex 1)) :: (.ref (ex 2)) :: (.ref (ex 3)) :: (.ref (ex 4)) :: (.int 0) :: (.int 0) :: (.int 0) :: (.int 0) :: (.int 0) :: (.int 0) :: (.long 0) :: (.int 0) :: (.int 0) :: (.int 0) :: (.ref (ex 5)) :: (.ref (ex 6)) :: (.int 0) :: (.ref (ex 7)) :: (.int (-1)) :: (.int 0) :: (.int 0) :: (.int 0) :: (.int 0) :: (.int 0) :: (.int 0) :: (.ref (ex 8)) :: (.int 0) :: (.ref (ex 9)) :: (.int 0) :: (.int 0) :: (.int 0) :: (.int 0) :: (.int 0) :: (.ref (ex 10)) :: (.ref (ex 11)) :: (.ref (ex 12)) :: (.ref (ex 13)) :: []))), ((a 1), .inl (T 1, 2187, .inl (fun _ => 0)))] s.heap := hP
  replace hD : va_D A [((a 0), .inr (12, ((.int 0) :: (.ref (ex 0)) :: (.int 0) :: (.int 0) :: (.int 0) :: (.int 0) :: (.ref (a 1)) :: (.ref (ex 1)) :: (.ref (ex 2)) :: (.ref (ex 3)) :: (.ref (ex 4)) :: (.int 0) :: (.int 0) :: (.int 0) :: (.int 0) :: (.int 0) :: (.int 0) :: (.long 0) :: (.int 0) :: (.int 0) :: (.int 0) :: (.ref (ex 5)) :: (.ref (ex 6)) :: (.int 0) :: (.ref (ex 7)) :: (.int (-1)) :: (.int 0) :: (.int 0) :: (.int 0) :: (.int 0) :: (.int 0) :: (.int 0) :: (.ref (ex 8)) :: (.int 0) :: (.ref (ex 9)) :: (.int 0) :: (.int 0) :: (.int 0) :: (.int 0) :: (.int 0) :: (.ref (ex 10)) :: (.ref (ex 11)) :: (.ref (ex 12)) :: (.ref (ex 13)) :: []))), ((a 1), .inl (T 1, 2187, .inl (fun _ => 0)))] := hD
  have hl := lv_entry ([.ref (a 0), .int (vi 0)]) (n := 4) (Nat.le_of_ble_eq_true rfl)
  rw [lg_entry_eq]
  generalize (lg_sl ([.ref (a 0), .int (vi 0)]) ++ List.replicate (4 - (lg_sl ([.ref (a 0), .int (vi 0)])).length) Slot.unset).toArray = ls at hl ⊢
  replace hl : lv_has ls 4 [(0, .ref (a 0)), (1, .int (vi 0))] := hl
  refine lv_aload_n hx hb dX12_said_0 rfl (lv_at hl 0 rfl) ?_
  refine lv_iconst (v := 0) hx hb dX12_said_1 (by decide) ?_
  refine va_put (D := D) (ci := 12) (v := .int 0) (ty := .int) (C := RX12) (T := TX12) (N := 44) hx hb htg inX12 tyX12 tyX12_ok nmX12 hown hK.1 hP hD hS 0 rfl rfl 0 (by decide) (htg _ kw_1407) (fun _ h9 => h9) rfl (by decide +kernel) rfl rfl (Nat.le_of_ble_eq_true rfl) dX12_said_2 (fun H locs hP hD hS => ?_)
  replace hP : va_P D vwCl [((a 0), .inr (12, ((.int 0) :: (.ref (ex 0)) :: (.int 0) :: (.int 0) :: (.int 0) :: (.int 0) :: (.ref (a 1)) :: (.ref (ex 1)) :: (.ref (ex 2)) :: (.ref (ex 3)) :: (.ref (ex 4)) :: (.int 0) :: (.int 0) :: (.int 0) :: (.int 0) :: (.int 0) :: (.int 0) :: (.long 0) :: (.int 0) :: (.int 0) :: (.int 0) :: (.ref (ex 5)) :: (.ref (ex 6)) :: (.int 0) :: (.ref (ex 7)) :: (.int (-1)) :: (.int 0) :: (.int 0) :: (.int 0) :: (.int 0) :: (.int 0) :: (.int 0) :: (.ref (ex 8)) :: (.int 0) :: (.ref (ex 9)) :: (.int 0) :: (.int 0) :: (.int 0) :: (.int 0) :: (.int 0) :: (.ref (ex 10)) :: (.ref (ex 11)) :: (.ref (ex 12)) :: (.ref (ex 13)) :: []))), ((a 1), .inl (T 1, 2187, .inl (fun _ => 0)))] H := hP
  replace hD : va_D A [((a 0), .inr (12, ((.int 0) :: (.ref (ex 0)) :: (.int 0) :: (.int 0) :: (.int 0) :: (.int 0) :: (.ref (a 1)) :: (.ref (ex 1)) :: (.ref (ex 2)) :: (.ref (ex 3)) :: (.ref (ex 4)) :: (.int 0) :: (.int 0) :: (.int 0) :: (.int 0) :: (.int 0) :: (.int 0) :: (.long 0) :: (.int 0) :: (.int 0) :: (.int 0) :: (.ref (ex 5)) :: (.ref (ex 6)) :: (.int 0) :: (.ref (ex 7)) :: (.int (-1)) :: (.int 0) :: (.int 0) :: (.int 0) :: (.int 0) :: (.int 0) :: (.int 0) :: (.ref (ex 8)) :: (.int 0) :: (.ref (ex 9)) :: (.int 0) :: (.int 0) :: (.int 0) :: (.int 0) :: (.int 0) :: (.ref (ex 10)) :: (.ref (ex 11)) :: (.ref (ex 12)) :: (.ref (ex 13)) :: []))), ((a 1), .inl (T 1, 2187, .inl (fun _ => 0)))] := hD
  refine lv_aload_n hx hb dX12_said_5 rfl (lv_at hl 0 rfl) ?_
  refine va_get (D := D) (ci := 12) (v := .ref (a 1)) (C := RX12) (T := TX12) (N := 44) hx hb htg inX12 hown hK.1 hP 0 rfl rfl 6 (by decide) (htg _ kw_1413) (fun _ h9 => h9) rfl dX12_said_6 ?_
  refine lv_sipush (v := 2006) hx hb dX12_said_9 (by decide) ?_
  refine va_iald hx hb hK.1 hP 1 1 rfl rfl (vp_in_nI (n := 2006) (by decide) (by decide)) dX12_said_12 ?_
  refine xz_i 0 rfl ?_
  refine lv_if_eq (tgt := 21) hx hb dX12_said_13 (by decide) (fun _ => ?_) (fun c => absurd (by decide) c)
  refine lv_iconst (v := (-1)) hx hb dX12_said_21 (by decide) ?_
  have hP9 := hP.sub (ws' := []) [] rfl
  have hD9 := hD.sub (ws' := []) [] (by decide) rfl
  rw [hQ]
  exact W.iret (v := (-1)) hx hb hr (fun t ht hW => ⟨⟨(-1), (), rfl, rfl, ⟨xa [], xf [], xh [], xv [], by rw [ht]; exact hP9, hD9, trivial⟩⟩, hS.F ht⟩) hS.2.2 dX12_said_22
abbrev pre_X12_image (T : Nat → ClassId) (a ex : Nat → Nat) (fi : Nat → Nat → Int32) (fl : Nat → Nat → Int64) (vi : Nat → Int32) : va_W := [((a 0), .inr (12, ((.int 0) :: (.ref (ex 0)) :: (.int 0) :: (.int 0) :: (.int 0) :: (.int 0) :: (.ref (a 1)) :: (.ref (ex 1)) :: (.ref (ex 2)) :: (.ref (a 3)) :: (.ref (ex 3)) :: (.int 0) :: (.int 0) :: (.int 0) :: (.int 0) :: (.int 0) :: (.int 0) :: (.long 0) :: (.int 0) :: (.int 0) :: (.int 0) :: (.ref (ex 4)) :: (.ref (ex 5)) :: (.int 0) :: (.ref (ex 6)) :: (.int (-1)) :: (.int 0) :: (.int 0) :: (.int 0) :: (.int 0) :: (.int 0) :: (.int 0) :: (.ref (ex 7)) :: (.int 0) :: (.ref (ex 8)) :: (.int 0) :: (.int 0) :: (.int 0) :: (.int 0) :: (.int 0) :: (.ref (ex 9)) :: (.ref (a 2)) :: (.ref (a 4)) :: (.ref (a 5)) :: []))), ((a 1), .inl (T 1, 2187, .inl (fun _ => 0))), ((a 2), .inl (T 1, 4374, .inl (fun _ => 0))), ((a 3), .inl (T 2, 36, .inr (.inl (fun _ => 0)))), ((a 4), .inl (T 2, 36, .inr (.inl (fun _ => 0)))), ((a 5), .inl (T 3, 2, .inl (fun _ => 0)))]
set_option maxHeartbeats 4000000 in
set_option maxRecDepth 100000 in
theorem c_X12_image (l : Launch) (D : va_G) (T : Nat → ClassId) (a ex : Nat → Nat) (fi : Nat → Nat → Int32) (fl : Nat → Nat → Int64) (vi : Nat → Int32) (sz : Nat) : Met l yX12_image (xw yX12_image cX12_image 3 (some .boolean)) ({ frames := 1, cells := 0, slots := 0, locals := 26 }) (xP D T [.ref (a 0), .int 0] sz (pre_X12_image T a ex fi fl vi)) (va_Qi (fun r (_ : Unit) => r = 1) (xB D (va_A (pre_X12_image T a ex fi fl vi) sz) (fun _ => True) (fun b fj fm vj => [])) (va_A (pre_X12_image T a ex fi fl vi) sz)) 0 0 (va_A (pre_X12_image T a ex fi fl vi) sz) := by
  refine xofW (cc := cX12_image) (maxL := 3) (ret := (some .boolean)) (by decide) rfl ?_
  intro p e s m args below meth c s₁ R Q hR hQ B hml hv
  obtain ⟨rfl, hsz, hP, hK, hD0⟩ := hv
  have hx := B.exec
  have hb := B.bytes
  have hr := B.returns
  have hts := atoms_spec (ws := xw yX12_image cX12_image 3 (some .boolean)) B.pre
  have htg : ∀ w ∈ xg, w.before _ s = true := fun w h => hts w (List.mem_cons_of_mem _ h)
  have hown : s.vm.findClass RX12 = some m.cls := findClass_of_methodNamed B.named
  have hlocks := B.notSynchronized
  subst hsz
  have hD := hD0.self (sz := s.heap.size)
  generalize hAe : va_A (pre_X12_image T a ex fi fl vi) s.heap.size = A at hD hQ
  have hA : ∀ q : Nat, s.heap.size ≤ q → A q := fun q h => by rw [← hAe]; exact Or.inr h
  have hS : va_S A s.heap s.heap [] := va_S.rf
  replace hP : va_P D vwCl [((a 0), .inr (12, ((.int 0) :: (.ref (ex 0)) :: (.int 0) :: (.int 0) :: (.int 0) :: (.int 0) :: (.ref (a 1)) :: (.ref (ex 1)) :: (.ref (ex 2)) :: (.ref (a 3)) :: (.ref (ex 3)) :: (.int 0) :: (.int 0) :: (.int 0) :: (.int 0) :: (.int 0) :: (.int 0) :: (.long 0) :: (.int 0) :: (.int 0) :: (.int 0) :: (.ref (ex 4)) :: (.ref (ex 5)) :: (.int 0) :: (.ref (ex 6)) :: (.int (-1)) :: (.int 0) :: (.int 0) :: (.int 0) :: (.int 0) :: (.int 0) :: (.int 0) :: (.ref (ex 7)) :: (.int 0) :: (.ref (ex 8)) :: (.int 0) :: (.int 0) :: (.int 0) :: (.int 0) :: (.int 0) :: (.ref (ex 9)) :: (.ref (a 2)) :: (.ref (a 4)) :: (.ref (a 5)) :: []))), ((a 1), .inl (T 1, 2187, .inl (fun _ => 0))), ((a 2), .inl (T 1, 4374, .inl (fun _ => 0))), ((a 3), .inl (T 2, 36, .inr (.inl (fun _ => 0)))), ((a 4), .inl (T 2, 36, .inr (.inl (fun _ => 0)))), ((a 5), .inl (T 3, 2, .inl (fun _ => 0)))] s.heap := hP
  replace hD : va_D A [((a 0), .inr (12, ((.int 0) :: (.ref (ex 0)) :: (.int 0) :: (.int 0) :: (.int 0) :: (.int 0) :: (.ref (a 1)) :: (.ref (ex 1)) :: (.ref (ex 2)) :: (.ref (a 3)) :: (.ref (ex 3)) :: (.int 0) :: (.int 0) :: (.int 0) :: (.int 0) :: (.int 0) :: (.int 0) :: (.long 0) :: (.int 0) :: (.int 0) :: (.int 0) :: (.ref (ex 4)) :: (.ref (ex 5)) :: (.int 0) :: (.ref (ex 6)) :: (.int (-1)) :: (.int 0) :: (.int 0) :: (.int 0) :: (.int 0) :: (.int 0) :: (.int 0) :: (.ref (ex 7)) :: (.int 0) :: (.ref (ex 8)) :: (.int 0) :: (.int 0) :: (.int 0) :: (.int 0) :: (.int 0) :: (.ref (ex 9)) :: (.ref (a 2)) :: (.ref (a 4)) :: (.ref (a 5)) :: []))), ((a 1), .inl (T 1, 2187, .inl (fun _ => 0))), ((a 2), .inl (T 1, 4374, .inl (fun _ => 0))), ((a 3), .inl (T 2, 36, .inr (.inl (fun _ => 0)))), ((a 4), .inl (T 2, 36, .inr (.inl (fun _ => 0)))), ((a 5), .inl (T 3, 2, .inl (fun _ => 0)))] := hD
  have hl := lv_entry ([.ref (a 0), .int 0]) (n := 3) (Nat.le_of_ble_eq_true rfl)
  rw [lg_entry_eq]
  generalize (lg_sl ([.ref (a 0), .int 0]) ++ List.replicate (3 - (lg_sl ([.ref (a 0), .int 0])).length) Slot.unset).toArray = ls at hl ⊢
  replace hl : lv_has ls 3 [(0, .ref (a 0)), (1, .int 0)] := hl
  refine lv_aload_n hx hb dX12_image_0 rfl (lv_at hl 0 rfl) ?_
  refine lv_iconst (v := 0) hx hb dX12_image_1 (by decide) ?_
  refine va_put (D := D) (ci := 12) (v := .int 0) (ty := .int) (C := RX12) (T := TX12) (N := 44) hx hb htg inX12 tyX12 tyX12_ok nmX12 hown hK.1 hP hD hS 0 rfl rfl 0 (by decide) (htg _ kw_1407) (fun _ h9 => h9) rfl (by decide +kernel) rfl rfl (Nat.le_of_ble_eq_true rfl) dX12_image_2 (fun H locs hP hD hS => ?_)
  replace hP : va_P D vwCl [((a 0), .inr (12, ((.int 0) :: (.ref (ex 0)) :: (.int 0) :: (.int 0) :: (.int 0) :: (.int 0) :: (.ref (a 1)) :: (.ref (ex 1)) :: (.ref (ex 2)) :: (.ref (a 3)) :: (.ref (ex 3)) :: (.int 0) :: (.int 0) :: (.int 0) :: (.int 0) :: (.int 0) :: (.int 0) :: (.long 0) :: (.int 0) :: (.int 0) :: (.int 0) :: (.ref (ex 4)) :: (.ref (ex 5)) :: (.int 0) :: (.ref (ex 6)) :: (.int (-1)) :: (.int 0) :: (.int 0) :: (.int 0) :: (.int 0) :: (.int 0) :: (.int 0) :: (.ref (ex 7)) :: (.int 0) :: (.ref (ex 8)) :: (.int 0) :: (.int 0) :: (.int 0) :: (.int 0) :: (.int 0) :: (.ref (ex 9)) :: (.ref (a 2)) :: (.ref (a 4)) :: (.ref (a 5)) :: []))), ((a 1), .inl (T 1, 2187, .inl (fun _ => 0))), ((a 2), .inl (T 1, 4374, .inl (fun _ => 0))), ((a 3), .inl (T 2, 36, .inr (.inl (fun _ => 0)))), ((a 4), .inl (T 2, 36, .inr (.inl (fun _ => 0)))), ((a 5), .inl (T 3, 2, .inl (fun _ => 0)))] H := hP
  replace hD : va_D A [((a 0), .inr (12, ((.int 0) :: (.ref (ex 0)) :: (.int 0) :: (.int 0) :: (.int 0) :: (.int 0) :: (.ref (a 1)) :: (.ref (ex 1)) :: (.ref (ex 2)) :: (.ref (a 3)) :: (.ref (ex 3)) :: (.int 0) :: (.int 0) :: (.int 0) :: (.int 0) :: (.int 0) :: (.int 0) :: (.long 0) :: (.int 0) :: (.int 0) :: (.int 0) :: (.ref (ex 4)) :: (.ref (ex 5)) :: (.int 0) :: (.ref (ex 6)) :: (.int (-1)) :: (.int 0) :: (.int 0) :: (.int 0) :: (.int 0) :: (.int 0) :: (.int 0) :: (.ref (ex 7)) :: (.int 0) :: (.ref (ex 8)) :: (.int 0) :: (.int 0) :: (.int 0) :: (.int 0) :: (.int 0) :: (.ref (ex 9)) :: (.ref (a 2)) :: (.ref (a 4)) :: (.ref (a 5)) :: []))), ((a 1), .inl (T 1, 2187, .inl (fun _ => 0))), ((a 2), .inl (T 1, 4374, .inl (fun _ => 0))), ((a 3), .inl (T 2, 36, .inr (.inl (fun _ => 0)))), ((a 4), .inl (T 2, 36, .inr (.inl (fun _ => 0)))), ((a 5), .inl (T 3, 2, .inl (fun _ => 0)))] := hD
  refine lv_iload_n hx hb dX12_image_5 rfl (lv_at hl 1 rfl) ?_
  refine lv_iconst (v := 0) hx hb dX12_image_6 (by decide) ?_
  refine lv_iconst (v := 1) hx hb dX12_image_7 (by decide) ?_
  have hPc := hP.sub (ws' := (pre_X12_isIn_8 T (xa []) (xa []) (xf []) (xh []) (xv []))) [] rfl
  have hDc := hD.sub (ws' := (pre_X12_isIn_8 T (xa []) (xa []) (xf []) (xh []) (xv []))) [] (by decide) rfl
  have hFc := va_free (wc := (pre_X12_isIn_8 T (xa []) (xa []) (xf []) (xh []) (xv []))) hD hS hA [] rfl
  refine va_calli (va_runS (As := [.int 0, .int 0, .int 1]) (rest := []) ⟨hx, hb, hml, hown, htg⟩ (c_X12_isIn_8 l D T (xa []) (xa []) (xf []) (xh []) (xv []) H.size) ⟨callB_of 3 htg (xg_ok kw_1597) rfl rfl rfl (htg _ kw_17) (htg _ kw_1595) (by decide +kernel) ⟨by rw [hR]; exact Nat.le_of_ble_eq_true rfl, by rw [hR]; exact Nat.le_of_ble_eq_true rfl⟩, htg _ kw_1596⟩ (xpreS hK hPc hDc) rfl rfl hl.1 rfl (lv_room (Nat.le_of_ble_eq_true rfl)) dX12_image_8 ⟨by rw [hR]; exact Nat.le_of_ble_eq_true rfl, by rw [hR]; exact Nat.le_of_ble_eq_true rfl⟩) hS (fun q _ h => hFc q h) hFc (fun r9 u t H1 locs ht hvm hw hB hz1 hk1 hS => ?_)
  obtain ⟨bk, fik, flk, vik, hP1, hD1, hGk⟩ := hB
  rw [ht] at hP1
  obtain ⟨hP, hD⟩ := va_join (wr := [((a 0), .inr (12, ((.int 0) :: (.ref (ex 0)) :: (.int 0) :: (.int 0) :: (.int 0) :: (.int 0) :: (.ref (a 1)) :: (.ref (ex 1)) :: (.ref (ex 2)) :: (.ref (a 3)) :: (.ref (ex 3)) :: (.int 0) :: (.int 0) :: (.int 0) :: (.int 0) :: (.int 0) :: (.int 0) :: (.long 0) :: (.int 0) :: (.int 0) :: (.int 0) :: (.ref (ex 4)) :: (.ref (ex 5)) :: (.int 0) :: (.ref (ex 6)) :: (.int (-1)) :: (.int 0) :: (.int 0) :: (.int 0) :: (.int 0) :: (.int 0) :: (.int 0) :: (.ref (ex 7)) :: (.int 0) :: (.ref (ex 8)) :: (.int 0) :: (.int 0) :: (.int 0) :: (.int 0) :: (.int 0) :: (.ref (ex 9)) :: (.ref (a 2)) :: (.ref (a 4)) :: (.ref (a 5)) :: []))), ((a 1), .inl (T 1, 2187, .inl (fun _ => 0))), ((a 2), .inl (T 1, 4374, .inl (fun _ => 0))), ((a 3), .inl (T 2, 36, .inr (.inl (fun _ => 0)))), ((a 4), .inl (T 2, 36, .inr (.inl (fun _ => 0)))), ((a 5), .inl (T 3, 2, .inl (fun _ => 0)))]) (w1 := []) hP hD [] [0, 1, 2, 3, 4, 5] rfl rfl (by decide) (by decide) hk1 hFc hP1 hD1
  subst hw
  clear hPc hDc hFc hP1 hD1 hk1 hz1 hvm ht
  generalize H1 = H at hP hS ⊢
  replace hP : va_P D vwCl [((a 0), .inr (12, ((.int 0) :: (.ref (ex 0)) :: (.int 0) :: (.int 0) :: (.int 0) :: (.int 0) :: (.ref (a 1)) :: (.ref (ex 1)) :: (.ref (ex 2)) :: (.ref (a 3)) :: (.ref (ex 3)) :: (.int 0) :: (.int 0) :: (.int 0) :: (.int 0) :: (.int 0) :: (.int 0) :: (.long 0) :: (.int 0) :: (.int 0) :: (.int 0) :: (.ref (ex 4)) :: (.ref (ex 5)) :: (.int 0) :: (.ref (ex 6)) :: (.int (-1)) :: (.int 0) :: (.int 0) :: (.int 0) :: (.int 0) :: (.int 0) :: (.int 0) :: (.ref (ex 7)) :: (.int 0) :: (.ref (ex 8)) :: (.int 0) :: (.int 0) :: (.int 0) :: (.int 0) :: (.int 0) :: (.ref (ex 9)) :: (.ref (a 2)) :: (.ref (a 4)) :: (.ref (a 5)) :: []))), ((a 1), .inl (T 1, 2187, .inl (fun _ => 0))), ((a 2), .inl (T 1, 4374, .inl (fun _ => 0))), ((a 3), .inl (T 2, 36, .inr (.inl (fun _ => 0)))), ((a 4), .inl (T 2, 36, .inr (.inl (fun _ => 0)))), ((a 5), .inl (T 3, 2, .inl (fun _ => 0)))] H := hP
  replace hD : va_D A [((a 0), .inr (12, ((.int 0) :: (.ref (ex 0)) :: (.int 0) :: (.int 0) :: (.int 0) :: (.int 0) :: (.ref (a 1)) :: (.ref (ex 1)) :: (.ref (ex 2)) :: (.ref (a 3)) :: (.ref (ex 3)) :: (.int 0) :: (.int 0) :: (.int 0) :: (.int 0) :: (.int 0) :: (.int 0) :: (.long 0) :: (.int 0) :: (.int 0) :: (.int 0) :: (.ref (ex 4)) :: (.ref (ex 5)) :: (.int 0) :: (.ref (ex 6)) :: (.int (-1)) :: (.int 0) :: (.int 0) :: (.int 0) :: (.int 0) :: (.int 0) :: (.int 0) :: (.ref (ex 7)) :: (.int 0) :: (.ref (ex 8)) :: (.int 0) :: (.int 0) :: (.int 0) :: (.int 0) :: (.int 0) :: (.ref (ex 9)) :: (.ref (a 2)) :: (.ref (a 4)) :: (.ref (a 5)) :: []))), ((a 1), .inl (T 1, 2187, .inl (fun _ => 0))), ((a 2), .inl (T 1, 4374, .inl (fun _ => 0))), ((a 3), .inl (T 2, 36, .inr (.inl (fun _ => 0)))), ((a 4), .inl (T 2, 36, .inr (.inl (fun _ => 0)))), ((a 5), .inl (T 3, 2, .inl (fun _ => 0)))] := hD
  refine lv_if_ne (tgt := 16) hx hb dX12_image_11 (by decide) (fun _ => ?_) (fun c => absurd c (by decide))
  refine lv_iconst (v := 0) hx hb dX12_image_16 (by decide) ?_
  refine lv_istore_n (lv' := [(2, .int 0), (0, .ref (a 0)), (1, .int 0)]) hx hb dX12_image_17 rfl hl (by decide) rfl (fun ls hl => ?_)
  have lp : ∀ (n i : Nat) (H : Heap) (locs : List Loc) (ls : Array Slot), i + n = 2187 → va_P D vwCl [((a 0), .inr (12, ((.int 0) :: (.ref (ex 0)) :: (.int 0) :: (.int 0) :: (.int 0) :: (.int 0) :: (.ref (a 1)) :: (.ref (ex 1)) :: (.ref (ex 2)) :: (.ref (a 3)) :: (.ref (ex 3)) :: (.int 0) :: (.int 0) :: (.int 0) :: (.int 0) :: (.int 0) :: (.int 0) :: (.long 0) :: (.int 0) :: (.int 0) :: (.int 0) :: (.ref (ex 4)) :: (.ref (ex 5)) :: (.int 0) :: (.ref (ex 6)) :: (.int (-1)) :: (.int 0) :: (.int 0) :: (.int 0) :: (.int 0) :: (.int 0) :: (.int 0) :: (.ref (ex 7)) :: (.int 0) :: (.ref (ex 8)) :: (.int 0) :: (.int 0) :: (.int 0) :: (.int 0) :: (.int 0) :: (.ref (ex 9)) :: (.ref (a 2)) :: (.ref (a 4)) :: (.ref (a 5)) :: []))), ((a 1), .inl (T 1, 2187, .inl (fun _ => 0))), ((a 2), .inl (T 1, 4374, .inl (fun _ => 0))), ((a 3), .inl (T 2, 36, .inr (.inl (fun _ => 0)))), ((a 4), .inl (T 2, 36, .inr (.inl (fun _ => 0)))), ((a 5), .inl (T 3, 2, .inl (fun _ => 0)))] H → va_D A [((a 0), .inr (12, ((.int 0) :: (.ref (ex 0)) :: (.int 0) :: (.int 0) :: (.int 0) :: (.int 0) :: (.ref (a 1)) :: (.ref (ex 1)) :: (.ref (ex 2)) :: (.ref (a 3)) :: (.ref (ex 3)) :: (.int 0) :: (.int 0) :: (.int 0) :: (.int 0) :: (.int 0) :: (.int 0) :: (.long 0) :: (.int 0) :: (.int 0) :: (.int 0) :: (.ref (ex 4)) :: (.ref (ex 5)) :: (.int 0) :: (.ref (ex 6)) :: (.int (-1)) :: (.int 0) :: (.int 0) :: (.int 0) :: (.int 0) :: (.int 0) :: (.int 0) :: (.ref (ex 7)) :: (.int 0) :: (.ref (ex 8)) :: (.int 0) :: (.int 0) :: (.int 0) :: (.int 0) :: (.int 0) :: (.ref (ex 9)) :: (.ref (a 2)) :: (.ref (a 4)) :: (.ref (a 5)) :: []))), ((a 1), .inl (T 1, 2187, .inl (fun _ => 0))), ((a 2), .inl (T 1, 4374, .inl (fun _ => 0))), ((a 3), .inl (T 2, 36, .inr (.inl (fun _ => 0)))), ((a 4), .inl (T 2, 36, .inr (.inl (fun _ => 0)))), ((a 5), .inl (T 3, 2, .inl (fun _ => 0)))] → va_S A s.heap H locs → lv_has ls 3 [(2, .int (nI i)), (0, .ref (a 0)), (1, .int 0)] → W p l e R s m ([.ref (a 0), .int 0] : List Value).toArray below meth c H locs 0 0 Q (F0 m 18 ls []) := by
    intro n
    induction n with
    | zero =>
      intro i H locs ls hin hP hD hS hl
      obtain rfl : i = 2187 := by omega
      replace hl : lv_has ls 3 [(2, .int 2187), (0, .ref (a 0)), (1, .int 0)] := hl
      refine lv_iload_n hx hb dX12_image_18 rfl (lv_at hl 0 rfl) ?_
      refine lv_sipush (v := 2187) hx hb dX12_image_19 (by decide) ?_
      refine lv_icmp_ge (tgt := 49) hx hb dX12_image_22 (by decide) (fun _ => ?_) (fun c => absurd (by decide) c)
      refine lv_iconst (v := 0) hx hb dX12_image_49 (by decide) ?_
      refine lv_istore_n (lv' := [(2, .int 0), (0, .ref (a 0)), (1, .int 0)]) hx hb dX12_image_50 rfl hl (by decide) rfl (fun ls hl => ?_)
      have lp_1 : ∀ (n i_1 : Nat) (H : Heap) (locs : List Loc) (ls : Array Slot), i_1 + n = 18 → va_P D vwCl [((a 0), .inr (12, ((.int 0) :: (.ref (ex 0)) :: (.int 0) :: (.int 0) :: (.int 0) :: (.int 0) :: (.ref (a 1)) :: (.ref (ex 1)) :: (.ref (ex 2)) :: (.ref (a 3)) :: (.ref (ex 3)) :: (.int 0) :: (.int 0) :: (.int 0) :: (.int 0) :: (.int 0) :: (.int 0) :: (.long 0) :: (.int 0) :: (.int 0) :: (.int 0) :: (.ref (ex 4)) :: (.ref (ex 5)) :: (.int 0) :: (.ref (ex 6)) :: (.int (-1)) :: (.int 0) :: (.int 0) :: (.int 0) :: (.int 0) :: (.int 0) :: (.int 0) :: (.ref (ex 7)) :: (.int 0) :: (.ref (ex 8)) :: (.int 0) :: (.int 0) :: (.int 0) :: (.int 0) :: (.int 0) :: (.ref (ex 9)) :: (.ref (a 2)) :: (.ref (a 4)) :: (.ref (a 5)) :: []))), ((a 1), .inl (T 1, 2187, .inl (fun _ => 0))), ((a 2), .inl (T 1, 4374, .inl (fun _ => 0))), ((a 3), .inl (T 2, 36, .inr (.inl (fun _ => 0)))), ((a 4), .inl (T 2, 36, .inr (.inl (fun _ => 0)))), ((a 5), .inl (T 3, 2, .inl (fun _ => 0)))] H → va_D A [((a 0), .inr (12, ((.int 0) :: (.ref (ex 0)) :: (.int 0) :: (.int 0) :: (.int 0) :: (.int 0) :: (.ref (a 1)) :: (.ref (ex 1)) :: (.ref (ex 2)) :: (.ref (a 3)) :: (.ref (ex 3)) :: (.int 0) :: (.int 0) :: (.int 0) :: (.int 0) :: (.int 0) :: (.int 0) :: (.long 0) :: (.int 0) :: (.int 0) :: (.int 0) :: (.ref (ex 4)) :: (.ref (ex 5)) :: (.int 0) :: (.ref (ex 6)) :: (.int (-1)) :: (.int 0) :: (.int 0) :: (.int 0) :: (.int 0) :: (.int 0) :: (.int 0) :: (.ref (ex 7)) :: (.int 0) :: (.ref (ex 8)) :: (.int 0) :: (.int 0) :: (.int 0) :: (.int 0) :: (.int 0) :: (.ref (ex 9)) :: (.ref (a 2)) :: (.ref (a 4)) :: (.ref (a 5)) :: []))), ((a 1), .inl (T 1, 2187, .inl (fun _ => 0))), ((a 2), .inl (T 1, 4374, .inl (fun _ => 0))), ((a 3), .inl (T 2, 36, .inr (.inl (fun _ => 0)))), ((a 4), .inl (T 2, 36, .inr (.inl (fun _ => 0)))), ((a 5), .inl (T 3, 2, .inl (fun _ => 0)))] → va_S A s.heap H locs → lv_has ls 3 [(2, .int (nI i_1)), (0, .ref (a 0)), (1, .int 0)] → W p l e R s m ([.ref (a 0), .int 0] : List Value).toArray below meth c H locs 0 0 Q (F0 m 51 ls []) := by
        intro n
        induction n with
        | zero =>
          intro i_1 H locs ls hin hP hD hS hl
          obtain rfl : i_1 = 18 := by omega
          replace hl : lv_has ls 3 [(2, .int 18), (0, .ref (a 0)), (1, .int 0)] := hl
          refine lv_iload_n hx hb dX12_image_51 rfl (lv_at hl 0 rfl) ?_
          refine lv_bipush (v := 18) hx hb dX12_image_52 (by decide) ?_
          refine lv_icmp_ge (tgt := 80) hx hb dX12_image_54 (by decide) (fun _ => ?_) (fun c => absurd (by decide) c)
          refine lv_aload_n hx hb dX12_image_80 rfl (lv_at hl 1 rfl) ?_
          refine va_get (D := D) (ci := 12) (v := .ref (a 5)) (C := RX12) (T := TX12) (N := 44) hx hb htg inX12 hown hK.1 hP 0 rfl rfl 43 (by decide) (htg _ kw_1450) (fun _ h9 => h9) rfl dX12_image_81 ?_
          refine lv_iload_n hx hb dX12_image_84 rfl (lv_at hl 2 rfl) ?_
          refine lv_iconst (v := 1) hx hb dX12_image_85 (by decide) ?_
          refine va_zast hx hb hK.1 hP hD hS 5 3 rfl rfl (vp_in_nI (n := 0) (by decide) (by decide)) dX12_image_86 (fun H locs hP hD hS => ?_)
          obtain ⟨f86, hP, hD⟩ : ∃ f86 : Nat → Int32, va_P D vwCl [((a 0), .inr (12, ((.int 0) :: (.ref (ex 0)) :: (.int 0) :: (.int 0) :: (.int 0) :: (.int 0) :: (.ref (a 1)) :: (.ref (ex 1)) :: (.ref (ex 2)) :: (.ref (a 3)) :: (.ref (ex 3)) :: (.int 0) :: (.int 0) :: (.int 0) :: (.int 0) :: (.int 0) :: (.int 0) :: (.long 0) :: (.int 0) :: (.int 0) :: (.int 0) :: (.ref (ex 4)) :: (.ref (ex 5)) :: (.int 0) :: (.ref (ex 6)) :: (.int (-1)) :: (.int 0) :: (.int 0) :: (.int 0) :: (.int 0) :: (.int 0) :: (.int 0) :: (.ref (ex 7)) :: (.int 0) :: (.ref (ex 8)) :: (.int 0) :: (.int 0) :: (.int 0) :: (.int 0) :: (.int 0) :: (.ref (ex 9)) :: (.ref (a 2)) :: (.ref (a 4)) :: (.ref (a 5)) :: []))), ((a 1), .inl (T 1, 2187, .inl (fun _ => 0))), ((a 2), .inl (T 1, 4374, .inl (fun _ => 0))), ((a 3), .inl (T 2, 36, .inr (.inl (fun _ => 0)))), ((a 4), .inl (T 2, 36, .inr (.inl (fun _ => 0)))), ((a 5), .inl (T 3, 2, .inl f86))] H ∧ va_D A [((a 0), .inr (12, ((.int 0) :: (.ref (ex 0)) :: (.int 0) :: (.int 0) :: (.int 0) :: (.int 0) :: (.ref (a 1)) :: (.ref (ex 1)) :: (.ref (ex 2)) :: (.ref (a 3)) :: (.ref (ex 3)) :: (.int 0) :: (.int 0) :: (.int 0) :: (.int 0) :: (.int 0) :: (.int 0) :: (.long 0) :: (.int 0) :: (.int 0) :: (.int 0) :: (.ref (ex 4)) :: (.ref (ex 5)) :: (.int 0) :: (.ref (ex 6)) :: (.int (-1)) :: (.int 0) :: (.int 0) :: (.int 0) :: (.int 0) :: (.int 0) :: (.int 0) :: (.ref (ex 7)) :: (.int 0) :: (.ref (ex 8)) :: (.int 0) :: (.int 0) :: (.int 0) :: (.int 0) :: (.int 0) :: (.ref (ex 9)) :: (.ref (a 2)) :: (.ref (a 4)) :: (.ref (a 5)) :: []))), ((a 1), .inl (T 1, 2187, .inl (fun _ => 0))), ((a 2), .inl (T 1, 4374, .inl (fun _ => 0))), ((a 3), .inl (T 2, 36, .inr (.inl (fun _ => 0)))), ((a 4), .inl (T 2, 36, .inr (.inl (fun _ => 0)))), ((a 5), .inl (T 3, 2, .inl f86))] := ⟨upd (fun _ => 0) (0 : Int32).toNatClampNeg (vp_nar .boolean (1 : Int32)), hP, hD⟩
          refine lv_iconst (v := 1) hx hb dX12_image_87 (by decide) ?_
          have hP9 := hP.sub (ws' := []) [] rfl
          have hD9 := hD.sub (ws' := []) [] (by decide) rfl
          rw [hQ]
          exact W.zret (v := 1) hx hb hr rfl (fun t ht hW => ⟨⟨1, (), rfl, rfl, ⟨xa [], xf [], xh [], xv [], by rw [ht]; exact hP9, hD9, trivial⟩⟩, hS.F ht⟩) hS.2.2 dX12_image_88
        | succ n ih =>
          intro i_1 H locs ls hin hP hD hS hl
          refine lv_iload_n hx hb dX12_image_51 rfl (lv_at hl 0 rfl) ?_
          refine lv_bipush (v := 18) hx hb dX12_image_52 (by decide) ?_
          refine lv_icmp_ge (tgt := 80) hx hb dX12_image_54 (by decide) (fun c => by exfalso; have h9 := xge (k := 18) (by decide) c; have h8 := nI_toInt (n := i_1) (by omega); omega) (fun _ => ?_)
          refine lv_aload_n hx hb dX12_image_57 rfl (lv_at hl 1 rfl) ?_
          refine va_get (D := D) (ci := 12) (v := .ref (a 4)) (C := RX12) (T := TX12) (N := 44) hx hb htg inX12 hown hK.1 hP 0 rfl rfl 42 (by decide) (htg _ kw_1449) (fun _ h9 => h9) rfl dX12_image_58 ?_
          refine lv_bipush (v := 18) hx hb dX12_image_61 (by decide) ?_
          refine lv_iload_n hx hb dX12_image_63 rfl (lv_at hl 2 rfl) ?_
          refine lv_imul hx hb dX12_image_64 ?_
          refine xz_i 0 (by decide) ?_
          refine lv_iload_n hx hb dX12_image_65 rfl (lv_at hl 0 rfl) ?_
          refine lv_iadd hx hb dX12_image_66 ?_
          refine xz_i (nI (0 + i_1)) (nI_add (0) (i_1)) ?_
          refine lv_aload_n hx hb dX12_image_67 rfl (lv_at hl 1 rfl) ?_
          refine va_get (D := D) (ci := 12) (v := .ref (a 3)) (C := RX12) (T := TX12) (N := 44) hx hb htg inX12 hown hK.1 hP 0 rfl rfl 9 (by decide) (htg _ kw_1416) (fun _ h9 => h9) rfl dX12_image_68 ?_
          refine lv_iload_n hx hb dX12_image_71 rfl (lv_at hl 0 rfl) ?_
          refine va_lald hx hb hK.1 hP 3 2 rfl rfl (vp_in_nI (n := i_1) (by omega) (by decide)) dX12_image_72 ?_
          refine xz_l 0 rfl ?_
          refine va_last hx hb hK.1 hP hD hS 4 2 rfl rfl (vp_in_nI (n := 0 + i_1) (by omega) (by decide)) dX12_image_73 (fun H locs hP hD hS => ?_)
          obtain ⟨f7, ⟨i7, rfl⟩, hP, hD⟩ : ∃ f7 : Nat → Int64, (∃ i7, f7 = vp_updL (fun _ => 0) i7 0) ∧ va_P D vwCl [((a 0), .inr (12, ((.int 0) :: (.ref (ex 0)) :: (.int 0) :: (.int 0) :: (.int 0) :: (.int 0) :: (.ref (a 1)) :: (.ref (ex 1)) :: (.ref (ex 2)) :: (.ref (a 3)) :: (.ref (ex 3)) :: (.int 0) :: (.int 0) :: (.int 0) :: (.int 0) :: (.int 0) :: (.int 0) :: (.long 0) :: (.int 0) :: (.int 0) :: (.int 0) :: (.ref (ex 4)) :: (.ref (ex 5)) :: (.int 0) :: (.ref (ex 6)) :: (.int (-1)) :: (.int 0) :: (.int 0) :: (.int 0) :: (.int 0) :: (.int 0) :: (.int 0) :: (.ref (ex 7)) :: (.int 0) :: (.ref (ex 8)) :: (.int 0) :: (.int 0) :: (.int 0) :: (.int 0) :: (.int 0) :: (.ref (ex 9)) :: (.ref (a 2)) :: (.ref (a 4)) :: (.ref (a 5)) :: []))), ((a 1), .inl (T 1, 2187, .inl (fun _ => 0))), ((a 2), .inl (T 1, 4374, .inl (fun _ => 0))), ((a 3), .inl (T 2, 36, .inr (.inl (fun _ => 0)))), ((a 4), .inl (T 2, 36, .inr (.inl f7))), ((a 5), .inl (T 3, 2, .inl (fun _ => 0)))] H ∧ va_D A [((a 0), .inr (12, ((.int 0) :: (.ref (ex 0)) :: (.int 0) :: (.int 0) :: (.int 0) :: (.int 0) :: (.ref (a 1)) :: (.ref (ex 1)) :: (.ref (ex 2)) :: (.ref (a 3)) :: (.ref (ex 3)) :: (.int 0) :: (.int 0) :: (.int 0) :: (.int 0) :: (.int 0) :: (.int 0) :: (.long 0) :: (.int 0) :: (.int 0) :: (.int 0) :: (.ref (ex 4)) :: (.ref (ex 5)) :: (.int 0) :: (.ref (ex 6)) :: (.int (-1)) :: (.int 0) :: (.int 0) :: (.int 0) :: (.int 0) :: (.int 0) :: (.int 0) :: (.ref (ex 7)) :: (.int 0) :: (.ref (ex 8)) :: (.int 0) :: (.int 0) :: (.int 0) :: (.int 0) :: (.int 0) :: (.ref (ex 9)) :: (.ref (a 2)) :: (.ref (a 4)) :: (.ref (a 5)) :: []))), ((a 1), .inl (T 1, 2187, .inl (fun _ => 0))), ((a 2), .inl (T 1, 4374, .inl (fun _ => 0))), ((a 3), .inl (T 2, 36, .inr (.inl (fun _ => 0)))), ((a 4), .inl (T 2, 36, .inr (.inl f7))), ((a 5), .inl (T 3, 2, .inl (fun _ => 0)))] := ⟨_, ⟨_, rfl⟩, hP, hD⟩
          rw [xuL0] at hP hD
          refine lv_iinc (v := (nI (i_1 + 1))) (lv' := [(2, .int (nI (i_1 + 1))), (0, .ref (a 0)), (1, .int 0)]) hx hb dX12_image_74 hl (k := 0) rfl (nI_add (i_1) 1) (by decide) rfl (fun ls hl => ?_)
          refine lv_goto (tgt := 51) hx hb dX12_image_77 (by decide) ?_
          exact ih (i_1 + 1) _ _ _ (by omega) (hP.sub [0, 1, 2, 3, 4, 5] rfl) (hD.sub [0, 1, 2, 3, 4, 5] (by decide) rfl) hS (lv_sub hl [0, 1, 2] rfl)
      exact lp_1 18 0 _ _ _ (by omega) hP hD hS hl
    | succ n ih =>
      intro i H locs ls hin hP hD hS hl
      refine lv_iload_n hx hb dX12_image_18 rfl (lv_at hl 0 rfl) ?_
      refine lv_sipush (v := 2187) hx hb dX12_image_19 (by decide) ?_
      refine lv_icmp_ge (tgt := 49) hx hb dX12_image_22 (by decide) (fun c => by exfalso; have h9 := xge (k := 2187) (by decide) c; have h8 := nI_toInt (n := i) (by omega); omega) (fun _ => ?_)
      refine lv_aload_n hx hb dX12_image_25 rfl (lv_at hl 1 rfl) ?_
      refine va_get (D := D) (ci := 12) (v := .ref (a 2)) (C := RX12) (T := TX12) (N := 44) hx hb htg inX12 hown hK.1 hP 0 rfl rfl 41 (by decide) (htg _ kw_1448) (fun _ h9 => h9) rfl dX12_image_26 ?_
      refine lv_sipush (v := 2187) hx hb dX12_image_29 (by decide) ?_
      refine lv_iload_n hx hb dX12_image_32 rfl (lv_at hl 2 rfl) ?_
      refine lv_imul hx hb dX12_image_33 ?_
      refine xz_i 0 (by decide) ?_
      refine lv_iload_n hx hb dX12_image_34 rfl (lv_at hl 0 rfl) ?_
      refine lv_iadd hx hb dX12_image_35 ?_
      refine xz_i (nI (0 + i)) (nI_add (0) (i)) ?_
      refine lv_aload_n hx hb dX12_image_36 rfl (lv_at hl 1 rfl) ?_
      refine va_get (D := D) (ci := 12) (v := .ref (a 1)) (C := RX12) (T := TX12) (N := 44) hx hb htg inX12 hown hK.1 hP 0 rfl rfl 6 (by decide) (htg _ kw_1413) (fun _ h9 => h9) rfl dX12_image_37 ?_
      refine lv_iload_n hx hb dX12_image_40 rfl (lv_at hl 0 rfl) ?_
      refine va_iald hx hb hK.1 hP 1 1 rfl rfl (vp_in_nI (n := i) (by omega) (by decide)) dX12_image_41 ?_
      refine xz_i 0 rfl ?_
      refine va_iast hx hb hK.1 hP hD hS 2 1 rfl rfl (vp_in_nI (n := 0 + i) (by omega) (by decide)) dX12_image_42 (fun H locs hP hD hS => ?_)
      obtain ⟨f7, ⟨i7, rfl⟩, hP, hD⟩ : ∃ f7 : Nat → Int32, (∃ i7, f7 = upd (fun _ => 0) i7 0) ∧ va_P D vwCl [((a 0), .inr (12, ((.int 0) :: (.ref (ex 0)) :: (.int 0) :: (.int 0) :: (.int 0) :: (.int 0) :: (.ref (a 1)) :: (.ref (ex 1)) :: (.ref (ex 2)) :: (.ref (a 3)) :: (.ref (ex 3)) :: (.int 0) :: (.int 0) :: (.int 0) :: (.int 0) :: (.int 0) :: (.int 0) :: (.long 0) :: (.int 0) :: (.int 0) :: (.int 0) :: (.ref (ex 4)) :: (.ref (ex 5)) :: (.int 0) :: (.ref (ex 6)) :: (.int (-1)) :: (.int 0) :: (.int 0) :: (.int 0) :: (.int 0) :: (.int 0) :: (.int 0) :: (.ref (ex 7)) :: (.int 0) :: (.ref (ex 8)) :: (.int 0) :: (.int 0) :: (.int 0) :: (.int 0) :: (.int 0) :: (.ref (ex 9)) :: (.ref (a 2)) :: (.ref (a 4)) :: (.ref (a 5)) :: []))), ((a 1), .inl (T 1, 2187, .inl (fun _ => 0))), ((a 2), .inl (T 1, 4374, .inl f7)), ((a 3), .inl (T 2, 36, .inr (.inl (fun _ => 0)))), ((a 4), .inl (T 2, 36, .inr (.inl (fun _ => 0)))), ((a 5), .inl (T 3, 2, .inl (fun _ => 0)))] H ∧ va_D A [((a 0), .inr (12, ((.int 0) :: (.ref (ex 0)) :: (.int 0) :: (.int 0) :: (.int 0) :: (.int 0) :: (.ref (a 1)) :: (.ref (ex 1)) :: (.ref (ex 2)) :: (.ref (a 3)) :: (.ref (ex 3)) :: (.int 0) :: (.int 0) :: (.int 0) :: (.int 0) :: (.int 0) :: (.int 0) :: (.long 0) :: (.int 0) :: (.int 0) :: (.int 0) :: (.ref (ex 4)) :: (.ref (ex 5)) :: (.int 0) :: (.ref (ex 6)) :: (.int (-1)) :: (.int 0) :: (.int 0) :: (.int 0) :: (.int 0) :: (.int 0) :: (.int 0) :: (.ref (ex 7)) :: (.int 0) :: (.ref (ex 8)) :: (.int 0) :: (.int 0) :: (.int 0) :: (.int 0) :: (.int 0) :: (.ref (ex 9)) :: (.ref (a 2)) :: (.ref (a 4)) :: (.ref (a 5)) :: []))), ((a 1), .inl (T 1, 2187, .inl (fun _ => 0))), ((a 2), .inl (T 1, 4374, .inl f7)), ((a 3), .inl (T 2, 36, .inr (.inl (fun _ => 0)))), ((a 4), .inl (T 2, 36, .inr (.inl (fun _ => 0)))), ((a 5), .inl (T 3, 2, .inl (fun _ => 0)))] := ⟨_, ⟨_, rfl⟩, hP, hD⟩
      rw [xu0] at hP hD
      refine lv_iinc (v := (nI (i + 1))) (lv' := [(2, .int (nI (i + 1))), (0, .ref (a 0)), (1, .int 0)]) hx hb dX12_image_43 hl (k := 0) rfl (nI_add (i) 1) (by decide) rfl (fun ls hl => ?_)
      refine lv_goto (tgt := 18) hx hb dX12_image_46 (by decide) ?_
      exact ih (i + 1) _ _ _ (by omega) (hP.sub [0, 1, 2, 3, 4, 5] rfl) (hD.sub [0, 1, 2, 3, 4, 5] (by decide) rfl) hS (lv_sub hl [0, 1, 2] rfl)
  exact lp 2187 0 _ _ _ (by omega) hP hD hS hl
abbrev pre_X12_image_2 (T : Nat → ClassId) (a ex : Nat → Nat) (fi : Nat → Nat → Int32) (fl : Nat → Nat → Int64) (vi : Nat → Int32) : va_W := [((a 0), .inr (12, ((.int 0) :: (.ref (ex 0)) :: (.int 0) :: (.int 0) :: (.int 0) :: (.int 0) :: (.ref (a 1)) :: (.ref (ex 1)) :: (.ref (ex 2)) :: (.ref (a 3)) :: (.ref (ex 3)) :: (.int 0) :: (.int 0) :: (.int 0) :: (.int 0) :: (.int 0) :: (.int 0) :: (.long 0) :: (.int 0) :: (.int 0) :: (.int 0) :: (.ref (ex 4)) :: (.ref (ex 5)) :: (.int 0) :: (.ref (ex 6)) :: (.int (-1)) :: (.int 0) :: (.int 0) :: (.int 0) :: (.int 0) :: (.int 0) :: (.int 0) :: (.ref (ex 7)) :: (.int 0) :: (.ref (ex 8)) :: (.int 0) :: (.int 0) :: (.int 0) :: (.int 0) :: (.int 0) :: (.ref (ex 9)) :: (.ref (a 2)) :: (.ref (a 4)) :: (.ref (a 5)) :: []))), ((a 1), .inl (T 1, 2187, .inl (fun _ => 0))), ((a 2), .inl (T 1, 4374, .inl (fun _ => 0))), ((a 3), .inl (T 2, 36, .inr (.inl (fun _ => 0)))), ((a 4), .inl (T 2, 36, .inr (.inl (fun _ => 0)))), ((a 5), .inl (T 3, 2, .inl (fun _ => 0)))]
set_option maxHeartbeats 4000000 in
set_option maxRecDepth 100000 in
theorem c_X12_image_2 (l : Launch) (D : va_G) (T : Nat → ClassId) (a ex : Nat → Nat) (fi : Nat → Nat → Int32) (fl : Nat → Nat → Int64) (vi : Nat → Int32) (sz : Nat) : Met l yX12_image (xw yX12_image cX12_image 3 (some .boolean)) ({ frames := 1, cells := 0, slots := 0, locals := 26 }) (xP D T [.ref (a 0), .int 1] sz (pre_X12_image_2 T a ex fi fl vi)) (va_Qi (fun r (_ : Unit) => r = 1) (xB D (va_A (pre_X12_image_2 T a ex fi fl vi) sz) (fun _ => True) (fun b fj fm vj => [])) (va_A (pre_X12_image_2 T a ex fi fl vi) sz)) 0 0 (va_A (pre_X12_image_2 T a ex fi fl vi) sz) := by
  refine xofW (cc := cX12_image) (maxL := 3) (ret := (some .boolean)) (by decide) rfl ?_
  intro p e s m args below meth c s₁ R Q hR hQ B hml hv
  obtain ⟨rfl, hsz, hP, hK, hD0⟩ := hv
  have hx := B.exec
  have hb := B.bytes
  have hr := B.returns
  have hts := atoms_spec (ws := xw yX12_image cX12_image 3 (some .boolean)) B.pre
  have htg : ∀ w ∈ xg, w.before _ s = true := fun w h => hts w (List.mem_cons_of_mem _ h)
  have hown : s.vm.findClass RX12 = some m.cls := findClass_of_methodNamed B.named
  have hlocks := B.notSynchronized
  subst hsz
  have hD := hD0.self (sz := s.heap.size)
  generalize hAe : va_A (pre_X12_image_2 T a ex fi fl vi) s.heap.size = A at hD hQ
  have hA : ∀ q : Nat, s.heap.size ≤ q → A q := fun q h => by rw [← hAe]; exact Or.inr h
  have hS : va_S A s.heap s.heap [] := va_S.rf
  replace hP : va_P D vwCl [((a 0), .inr (12, ((.int 0) :: (.ref (ex 0)) :: (.int 0) :: (.int 0) :: (.int 0) :: (.int 0) :: (.ref (a 1)) :: (.ref (ex 1)) :: (.ref (ex 2)) :: (.ref (a 3)) :: (.ref (ex 3)) :: (.int 0) :: (.int 0) :: (.int 0) :: (.int 0) :: (.int 0) :: (.int 0) :: (.long 0) :: (.int 0) :: (.int 0) :: (.int 0) :: (.ref (ex 4)) :: (.ref (ex 5)) :: (.int 0) :: (.ref (ex 6)) :: (.int (-1)) :: (.int 0) :: (.int 0) :: (.int 0) :: (.int 0) :: (.int 0) :: (.int 0) :: (.ref (ex 7)) :: (.int 0) :: (.ref (ex 8)) :: (.int 0) :: (.int 0) :: (.int 0) :: (.int 0) :: (.int 0) :: (.ref (ex 9)) :: (.ref (a 2)) :: (.ref (a 4)) :: (.ref (a 5)) :: []))), ((a 1), .inl (T 1, 2187, .inl (fun _ => 0))), ((a 2), .inl (T 1, 4374, .inl (fun _ => 0))), ((a 3), .inl (T 2, 36, .inr (.inl (fun _ => 0)))), ((a 4), .inl (T 2, 36, .inr (.inl (fun _ => 0)))), ((a 5), .inl (T 3, 2, .inl (fun _ => 0)))] s.heap := hP
  replace hD : va_D A [((a 0), .inr (12, ((.int 0) :: (.ref (ex 0)) :: (.int 0) :: (.int 0) :: (.int 0) :: (.int 0) :: (.ref (a 1)) :: (.ref (ex 1)) :: (.ref (ex 2)) :: (.ref (a 3)) :: (.ref (ex 3)) :: (.int 0) :: (.int 0) :: (.int 0) :: (.int 0) :: (.int 0) :: (.int 0) :: (.long 0) :: (.int 0) :: (.int 0) :: (.int 0) :: (.ref (ex 4)) :: (.ref (ex 5)) :: (.int 0) :: (.ref (ex 6)) :: (.int (-1)) :: (.int 0) :: (.int 0) :: (.int 0) :: (.int 0) :: (.int 0) :: (.int 0) :: (.ref (ex 7)) :: (.int 0) :: (.ref (ex 8)) :: (.int 0) :: (.int 0) :: (.int 0) :: (.int 0) :: (.int 0) :: (.ref (ex 9)) :: (.ref (a 2)) :: (.ref (a 4)) :: (.ref (a 5)) :: []))), ((a 1), .inl (T 1, 2187, .inl (fun _ => 0))), ((a 2), .inl (T 1, 4374, .inl (fun _ => 0))), ((a 3), .inl (T 2, 36, .inr (.inl (fun _ => 0)))), ((a 4), .inl (T 2, 36, .inr (.inl (fun _ => 0)))), ((a 5), .inl (T 3, 2, .inl (fun _ => 0)))] := hD
  have hl := lv_entry ([.ref (a 0), .int 1]) (n := 3) (Nat.le_of_ble_eq_true rfl)
  rw [lg_entry_eq]
  generalize (lg_sl ([.ref (a 0), .int 1]) ++ List.replicate (3 - (lg_sl ([.ref (a 0), .int 1])).length) Slot.unset).toArray = ls at hl ⊢
  replace hl : lv_has ls 3 [(0, .ref (a 0)), (1, .int 1)] := hl
  refine lv_aload_n hx hb dX12_image_0 rfl (lv_at hl 0 rfl) ?_
  refine lv_iconst (v := 0) hx hb dX12_image_1 (by decide) ?_
  refine va_put (D := D) (ci := 12) (v := .int 0) (ty := .int) (C := RX12) (T := TX12) (N := 44) hx hb htg inX12 tyX12 tyX12_ok nmX12 hown hK.1 hP hD hS 0 rfl rfl 0 (by decide) (htg _ kw_1407) (fun _ h9 => h9) rfl (by decide +kernel) rfl rfl (Nat.le_of_ble_eq_true rfl) dX12_image_2 (fun H locs hP hD hS => ?_)
  replace hP : va_P D vwCl [((a 0), .inr (12, ((.int 0) :: (.ref (ex 0)) :: (.int 0) :: (.int 0) :: (.int 0) :: (.int 0) :: (.ref (a 1)) :: (.ref (ex 1)) :: (.ref (ex 2)) :: (.ref (a 3)) :: (.ref (ex 3)) :: (.int 0) :: (.int 0) :: (.int 0) :: (.int 0) :: (.int 0) :: (.int 0) :: (.long 0) :: (.int 0) :: (.int 0) :: (.int 0) :: (.ref (ex 4)) :: (.ref (ex 5)) :: (.int 0) :: (.ref (ex 6)) :: (.int (-1)) :: (.int 0) :: (.int 0) :: (.int 0) :: (.int 0) :: (.int 0) :: (.int 0) :: (.ref (ex 7)) :: (.int 0) :: (.ref (ex 8)) :: (.int 0) :: (.int 0) :: (.int 0) :: (.int 0) :: (.int 0) :: (.ref (ex 9)) :: (.ref (a 2)) :: (.ref (a 4)) :: (.ref (a 5)) :: []))), ((a 1), .inl (T 1, 2187, .inl (fun _ => 0))), ((a 2), .inl (T 1, 4374, .inl (fun _ => 0))), ((a 3), .inl (T 2, 36, .inr (.inl (fun _ => 0)))), ((a 4), .inl (T 2, 36, .inr (.inl (fun _ => 0)))), ((a 5), .inl (T 3, 2, .inl (fun _ => 0)))] H := hP
  replace hD : va_D A [((a 0), .inr (12, ((.int 0) :: (.ref (ex 0)) :: (.int 0) :: (.int 0) :: (.int 0) :: (.int 0) :: (.ref (a 1)) :: (.ref (ex 1)) :: (.ref (ex 2)) :: (.ref (a 3)) :: (.ref (ex 3)) :: (.int 0) :: (.int 0) :: (.int 0) :: (.int 0) :: (.int 0) :: (.int 0) :: (.long 0) :: (.int 0) :: (.int 0) :: (.int 0) :: (.ref (ex 4)) :: (.ref (ex 5)) :: (.int 0) :: (.ref (ex 6)) :: (.int (-1)) :: (.int 0) :: (.int 0) :: (.int 0) :: (.int 0) :: (.int 0) :: (.int 0) :: (.ref (ex 7)) :: (.int 0) :: (.ref (ex 8)) :: (.int 0) :: (.int 0) :: (.int 0) :: (.int 0) :: (.int 0) :: (.ref (ex 9)) :: (.ref (a 2)) :: (.ref (a 4)) :: (.ref (a 5)) :: []))), ((a 1), .inl (T 1, 2187, .inl (fun _ => 0))), ((a 2), .inl (T 1, 4374, .inl (fun _ => 0))), ((a 3), .inl (T 2, 36, .inr (.inl (fun _ => 0)))), ((a 4), .inl (T 2, 36, .inr (.inl (fun _ => 0)))), ((a 5), .inl (T 3, 2, .inl (fun _ => 0)))] := hD
  refine lv_iload_n hx hb dX12_image_5 rfl (lv_at hl 1 rfl) ?_
  refine lv_iconst (v := 0) hx hb dX12_image_6 (by decide) ?_
  refine lv_iconst (v := 1) hx hb dX12_image_7 (by decide) ?_
  have hPc := hP.sub (ws' := (pre_X12_isIn_9 T (xa []) (xa []) (xf []) (xh []) (xv []))) [] rfl
  have hDc := hD.sub (ws' := (pre_X12_isIn_9 T (xa []) (xa []) (xf []) (xh []) (xv []))) [] (by decide) rfl
  have hFc := va_free (wc := (pre_X12_isIn_9 T (xa []) (xa []) (xf []) (xh []) (xv []))) hD hS hA [] rfl
  refine va_calli (va_runS (As := [.int 1, .int 0, .int 1]) (rest := []) ⟨hx, hb, hml, hown, htg⟩ (c_X12_isIn_9 l D T (xa []) (xa []) (xf []) (xh []) (xv []) H.size) ⟨callB_of 3 htg (xg_ok kw_1597) rfl rfl rfl (htg _ kw_17) (htg _ kw_1595) (by decide +kernel) ⟨by rw [hR]; exact Nat.le_of_ble_eq_true rfl, by rw [hR]; exact Nat.le_of_ble_eq_true rfl⟩, htg _ kw_1596⟩ (xpreS hK hPc hDc) rfl rfl hl.1 rfl (lv_room (Nat.le_of_ble_eq_true rfl)) dX12_image_8 ⟨by rw [hR]; exact Nat.le_of_ble_eq_true rfl, by rw [hR]; exact Nat.le_of_ble_eq_true rfl⟩) hS (fun q _ h => hFc q h) hFc (fun r9 u t H1 locs ht hvm hw hB hz1 hk1 hS => ?_)
  obtain ⟨bk, fik, flk, vik, hP1, hD1, hGk⟩ := hB
  rw [ht] at hP1
  obtain ⟨hP, hD⟩ := va_join (wr := [((a 0), .inr (12, ((.int 0) :: (.ref (ex 0)) :: (.int 0) :: (.int 0) :: (.int 0) :: (.int 0) :: (.ref (a 1)) :: (.ref (ex 1)) :: (.ref (ex 2)) :: (.ref (a 3)) :: (.ref (ex 3)) :: (.int 0) :: (.int 0) :: (.int 0) :: (.int 0) :: (.int 0) :: (.int 0) :: (.long 0) :: (.int 0) :: (.int 0) :: (.int 0) :: (.ref (ex 4)) :: (.ref (ex 5)) :: (.int 0) :: (.ref (ex 6)) :: (.int (-1)) :: (.int 0) :: (.int 0) :: (.int 0) :: (.int 0) :: (.int 0) :: (.int 0) :: (.ref (ex 7)) :: (.int 0) :: (.ref (ex 8)) :: (.int 0) :: (.int 0) :: (.int 0) :: (.int 0) :: (.int 0) :: (.ref (ex 9)) :: (.ref (a 2)) :: (.ref (a 4)) :: (.ref (a 5)) :: []))), ((a 1), .inl (T 1, 2187, .inl (fun _ => 0))), ((a 2), .inl (T 1, 4374, .inl (fun _ => 0))), ((a 3), .inl (T 2, 36, .inr (.inl (fun _ => 0)))), ((a 4), .inl (T 2, 36, .inr (.inl (fun _ => 0)))), ((a 5), .inl (T 3, 2, .inl (fun _ => 0)))]) (w1 := []) hP hD [] [0, 1, 2, 3, 4, 5] rfl rfl (by decide) (by decide) hk1 hFc hP1 hD1
  subst hw
  clear hPc hDc hFc hP1 hD1 hk1 hz1 hvm ht
  generalize H1 = H at hP hS ⊢
  replace hP : va_P D vwCl [((a 0), .inr (12, ((.int 0) :: (.ref (ex 0)) :: (.int 0) :: (.int 0) :: (.int 0) :: (.int 0) :: (.ref (a 1)) :: (.ref (ex 1)) :: (.ref (ex 2)) :: (.ref (a 3)) :: (.ref (ex 3)) :: (.int 0) :: (.int 0) :: (.int 0) :: (.int 0) :: (.int 0) :: (.int 0) :: (.long 0) :: (.int 0) :: (.int 0) :: (.int 0) :: (.ref (ex 4)) :: (.ref (ex 5)) :: (.int 0) :: (.ref (ex 6)) :: (.int (-1)) :: (.int 0) :: (.int 0) :: (.int 0) :: (.int 0) :: (.int 0) :: (.int 0) :: (.ref (ex 7)) :: (.int 0) :: (.ref (ex 8)) :: (.int 0) :: (.int 0) :: (.int 0) :: (.int 0) :: (.int 0) :: (.ref (ex 9)) :: (.ref (a 2)) :: (.ref (a 4)) :: (.ref (a 5)) :: []))), ((a 1), .inl (T 1, 2187, .inl (fun _ => 0))), ((a 2), .inl (T 1, 4374, .inl (fun _ => 0))), ((a 3), .inl (T 2, 36, .inr (.inl (fun _ => 0)))), ((a 4), .inl (T 2, 36, .inr (.inl (fun _ => 0)))), ((a 5), .inl (T 3, 2, .inl (fun _ => 0)))] H := hP
  replace hD : va_D A [((a 0), .inr (12, ((.int 0) :: (.ref (ex 0)) :: (.int 0) :: (.int 0) :: (.int 0) :: (.int 0) :: (.ref (a 1)) :: (.ref (ex 1)) :: (.ref (ex 2)) :: (.ref (a 3)) :: (.ref (ex 3)) :: (.int 0) :: (.int 0) :: (.int 0) :: (.int 0) :: (.int 0) :: (.int 0) :: (.long 0) :: (.int 0) :: (.int 0) :: (.int 0) :: (.ref (ex 4)) :: (.ref (ex 5)) :: (.int 0) :: (.ref (ex 6)) :: (.int (-1)) :: (.int 0) :: (.int 0) :: (.int 0) :: (.int 0) :: (.int 0) :: (.int 0) :: (.ref (ex 7)) :: (.int 0) :: (.ref (ex 8)) :: (.int 0) :: (.int 0) :: (.int 0) :: (.int 0) :: (.int 0) :: (.ref (ex 9)) :: (.ref (a 2)) :: (.ref (a 4)) :: (.ref (a 5)) :: []))), ((a 1), .inl (T 1, 2187, .inl (fun _ => 0))), ((a 2), .inl (T 1, 4374, .inl (fun _ => 0))), ((a 3), .inl (T 2, 36, .inr (.inl (fun _ => 0)))), ((a 4), .inl (T 2, 36, .inr (.inl (fun _ => 0)))), ((a 5), .inl (T 3, 2, .inl (fun _ => 0)))] := hD
  refine lv_if_ne (tgt := 16) hx hb dX12_image_11 (by decide) (fun _ => ?_) (fun c => absurd c (by decide))
  refine lv_iconst (v := 0) hx hb dX12_image_16 (by decide) ?_
  refine lv_istore_n (lv' := [(2, .int 0), (0, .ref (a 0)), (1, .int 1)]) hx hb dX12_image_17 rfl hl (by decide) rfl (fun ls hl => ?_)
  have lp : ∀ (n i : Nat) (H : Heap) (locs : List Loc) (ls : Array Slot), i + n = 2187 → va_P D vwCl [((a 0), .inr (12, ((.int 0) :: (.ref (ex 0)) :: (.int 0) :: (.int 0) :: (.int 0) :: (.int 0) :: (.ref (a 1)) :: (.ref (ex 1)) :: (.ref (ex 2)) :: (.ref (a 3)) :: (.ref (ex 3)) :: (.int 0) :: (.int 0) :: (.int 0) :: (.int 0) :: (.int 0) :: (.int 0) :: (.long 0) :: (.int 0) :: (.int 0) :: (.int 0) :: (.ref (ex 4)) :: (.ref (ex 5)) :: (.int 0) :: (.ref (ex 6)) :: (.int (-1)) :: (.int 0) :: (.int 0) :: (.int 0) :: (.int 0) :: (.int 0) :: (.int 0) :: (.ref (ex 7)) :: (.int 0) :: (.ref (ex 8)) :: (.int 0) :: (.int 0) :: (.int 0) :: (.int 0) :: (.int 0) :: (.ref (ex 9)) :: (.ref (a 2)) :: (.ref (a 4)) :: (.ref (a 5)) :: []))), ((a 1), .inl (T 1, 2187, .inl (fun _ => 0))), ((a 2), .inl (T 1, 4374, .inl (fun _ => 0))), ((a 3), .inl (T 2, 36, .inr (.inl (fun _ => 0)))), ((a 4), .inl (T 2, 36, .inr (.inl (fun _ => 0)))), ((a 5), .inl (T 3, 2, .inl (fun _ => 0)))] H → va_D A [((a 0), .inr (12, ((.int 0) :: (.ref (ex 0)) :: (.int 0) :: (.int 0) :: (.int 0) :: (.int 0) :: (.ref (a 1)) :: (.ref (ex 1)) :: (.ref (ex 2)) :: (.ref (a 3)) :: (.ref (ex 3)) :: (.int 0) :: (.int 0) :: (.int 0) :: (.int 0) :: (.int 0) :: (.int 0) :: (.long 0) :: (.int 0) :: (.int 0) :: (.int 0) :: (.ref (ex 4)) :: (.ref (ex 5)) :: (.int 0) :: (.ref (ex 6)) :: (.int (-1)) :: (.int 0) :: (.int 0) :: (.int 0) :: (.int 0) :: (.int 0) :: (.int 0) :: (.ref (ex 7)) :: (.int 0) :: (.ref (ex 8)) :: (.int 0) :: (.int 0) :: (.int 0) :: (.int 0) :: (.int 0) :: (.ref (ex 9)) :: (.ref (a 2)) :: (.ref (a 4)) :: (.ref (a 5)) :: []))), ((a 1), .inl (T 1, 2187, .inl (fun _ => 0))), ((a 2), .inl (T 1, 4374, .inl (fun _ => 0))), ((a 3), .inl (T 2, 36, .inr (.inl (fun _ => 0)))), ((a 4), .inl (T 2, 36, .inr (.inl (fun _ => 0)))), ((a 5), .inl (T 3, 2, .inl (fun _ => 0)))] → va_S A s.heap H locs → lv_has ls 3 [(2, .int (nI i)), (0, .ref (a 0)), (1, .int 1)] → W p l e R s m ([.ref (a 0), .int 1] : List Value).toArray below meth c H locs 0 0 Q (F0 m 18 ls []) := by
    intro n
    induction n with
    | zero =>
      intro i H locs ls hin hP hD hS hl
      obtain rfl : i = 2187 := by omega
      replace hl : lv_has ls 3 [(2, .int 2187), (0, .ref (a 0)), (1, .int 1)] := hl
      refine lv_iload_n hx hb dX12_image_18 rfl (lv_at hl 0 rfl) ?_
      refine lv_sipush (v := 2187) hx hb dX12_image_19 (by decide) ?_
      refine lv_icmp_ge (tgt := 49) hx hb dX12_image_22 (by decide) (fun _ => ?_) (fun c => absurd (by decide) c)
      refine lv_iconst (v := 0) hx hb dX12_image_49 (by decide) ?_
      refine lv_istore_n (lv' := [(2, .int 0), (0, .ref (a 0)), (1, .int 1)]) hx hb dX12_image_50 rfl hl (by decide) rfl (fun ls hl => ?_)
      have lp_1 : ∀ (n i_1 : Nat) (H : Heap) (locs : List Loc) (ls : Array Slot), i_1 + n = 18 → va_P D vwCl [((a 0), .inr (12, ((.int 0) :: (.ref (ex 0)) :: (.int 0) :: (.int 0) :: (.int 0) :: (.int 0) :: (.ref (a 1)) :: (.ref (ex 1)) :: (.ref (ex 2)) :: (.ref (a 3)) :: (.ref (ex 3)) :: (.int 0) :: (.int 0) :: (.int 0) :: (.int 0) :: (.int 0) :: (.int 0) :: (.long 0) :: (.int 0) :: (.int 0) :: (.int 0) :: (.ref (ex 4)) :: (.ref (ex 5)) :: (.int 0) :: (.ref (ex 6)) :: (.int (-1)) :: (.int 0) :: (.int 0) :: (.int 0) :: (.int 0) :: (.int 0) :: (.int 0) :: (.ref (ex 7)) :: (.int 0) :: (.ref (ex 8)) :: (.int 0) :: (.int 0) :: (.int 0) :: (.int 0) :: (.int 0) :: (.ref (ex 9)) :: (.ref (a 2)) :: (.ref (a 4)) :: (.ref (a 5)) :: []))), ((a 1), .inl (T 1, 2187, .inl (fun _ => 0))), ((a 2), .inl (T 1, 4374, .inl (fun _ => 0))), ((a 3), .inl (T 2, 36, .inr (.inl (fun _ => 0)))), ((a 4), .inl (T 2, 36, .inr (.inl (fun _ => 0)))), ((a 5), .inl (T 3, 2, .inl (fun _ => 0)))] H → va_D A [((a 0), .inr (12, ((.int 0) :: (.ref (ex 0)) :: (.int 0) :: (.int 0) :: (.int 0) :: (.int 0) :: (.ref (a 1)) :: (.ref (ex 1)) :: (.ref (ex 2)) :: (.ref (a 3)) :: (.ref (ex 3)) :: (.int 0) :: (.int 0) :: (.int 0) :: (.int 0) :: (.int 0) :: (.int 0) :: (.long 0) :: (.int 0) :: (.int 0) :: (.int 0) :: (.ref (ex 4)) :: (.ref (ex 5)) :: (.int 0) :: (.ref (ex 6)) :: (.int (-1)) :: (.int 0) :: (.int 0) :: (.int 0) :: (.int 0) :: (.int 0) :: (.int 0) :: (.ref (ex 7)) :: (.int 0) :: (.ref (ex 8)) :: (.int 0) :: (.int 0) :: (.int 0) :: (.int 0) :: (.int 0) :: (.ref (ex 9)) :: (.ref (a 2)) :: (.ref (a 4)) :: (.ref (a 5)) :: []))), ((a 1), .inl (T 1, 2187, .inl (fun _ => 0))), ((a 2), .inl (T 1, 4374, .inl (fun _ => 0))), ((a 3), .inl (T 2, 36, .inr (.inl (fun _ => 0)))), ((a 4), .inl (T 2, 36, .inr (.inl (fun _ => 0)))), ((a 5), .inl (T 3, 2, .inl (fun _ => 0)))] → va_S A s.heap H locs → lv_has ls 3 [(2, .int (nI i_1)), (0, .ref (a 0)), (1, .int 1)] → W p l e R s m ([.ref (a 0), .int 1] : List Value).toArray below meth c H locs 0 0 Q (F0 m 51 ls []) := by
        intro n
        induction n with
        | zero =>
          intro i_1 H locs ls hin hP hD hS hl
          obtain rfl : i_1 = 18 := by omega
          replace hl : lv_has ls 3 [(2, .int 18), (0, .ref (a 0)), (1, .int 1)] := hl
          refine lv_iload_n hx hb dX12_image_51 rfl (lv_at hl 0 rfl) ?_
          refine lv_bipush (v := 18) hx hb dX12_image_52 (by decide) ?_
          refine lv_icmp_ge (tgt := 80) hx hb dX12_image_54 (by decide) (fun _ => ?_) (fun c => absurd (by decide) c)
          refine lv_aload_n hx hb dX12_image_80 rfl (lv_at hl 1 rfl) ?_
          refine va_get (D := D) (ci := 12) (v := .ref (a 5)) (C := RX12) (T := TX12) (N := 44) hx hb htg inX12 hown hK.1 hP 0 rfl rfl 43 (by decide) (htg _ kw_1450) (fun _ h9 => h9) rfl dX12_image_81 ?_
          refine lv_iload_n hx hb dX12_image_84 rfl (lv_at hl 2 rfl) ?_
          refine lv_iconst (v := 1) hx hb dX12_image_85 (by decide) ?_
          refine va_zast hx hb hK.1 hP hD hS 5 3 rfl rfl (vp_in_nI (n := 1) (by decide) (by decide)) dX12_image_86 (fun H locs hP hD hS => ?_)
          obtain ⟨f86, hP, hD⟩ : ∃ f86 : Nat → Int32, va_P D vwCl [((a 0), .inr (12, ((.int 0) :: (.ref (ex 0)) :: (.int 0) :: (.int 0) :: (.int 0) :: (.int 0) :: (.ref (a 1)) :: (.ref (ex 1)) :: (.ref (ex 2)) :: (.ref (a 3)) :: (.ref (ex 3)) :: (.int 0) :: (.int 0) :: (.int 0) :: (.int 0) :: (.int 0) :: (.int 0) :: (.long 0) :: (.int 0) :: (.int 0) :: (.int 0) :: (.ref (ex 4)) :: (.ref (ex 5)) :: (.int 0) :: (.ref (ex 6)) :: (.int (-1)) :: (.int 0) :: (.int 0) :: (.int 0) :: (.int 0) :: (.int 0) :: (.int 0) :: (.ref (ex 7)) :: (.int 0) :: (.ref (ex 8)) :: (.int 0) :: (.int 0) :: (.int 0) :: (.int 0) :: (.int 0) :: (.ref (ex 9)) :: (.ref (a 2)) :: (.ref (a 4)) :: (.ref (a 5)) :: []))), ((a 1), .inl (T 1, 2187, .inl (fun _ => 0))), ((a 2), .inl (T 1, 4374, .inl (fun _ => 0))), ((a 3), .inl (T 2, 36, .inr (.inl (fun _ => 0)))), ((a 4), .inl (T 2, 36, .inr (.inl (fun _ => 0)))), ((a 5), .inl (T 3, 2, .inl f86))] H ∧ va_D A [((a 0), .inr (12, ((.int 0) :: (.ref (ex 0)) :: (.int 0) :: (.int 0) :: (.int 0) :: (.int 0) :: (.ref (a 1)) :: (.ref (ex 1)) :: (.ref (ex 2)) :: (.ref (a 3)) :: (.ref (ex 3)) :: (.int 0) :: (.int 0) :: (.int 0) :: (.int 0) :: (.int 0) :: (.int 0) :: (.long 0) :: (.int 0) :: (.int 0) :: (.int 0) :: (.ref (ex 4)) :: (.ref (ex 5)) :: (.int 0) :: (.ref (ex 6)) :: (.int (-1)) :: (.int 0) :: (.int 0) :: (.int 0) :: (.int 0) :: (.int 0) :: (.int 0) :: (.ref (ex 7)) :: (.int 0) :: (.ref (ex 8)) :: (.int 0) :: (.int 0) :: (.int 0) :: (.int 0) :: (.int 0) :: (.ref (ex 9)) :: (.ref (a 2)) :: (.ref (a 4)) :: (.ref (a 5)) :: []))), ((a 1), .inl (T 1, 2187, .inl (fun _ => 0))), ((a 2), .inl (T 1, 4374, .inl (fun _ => 0))), ((a 3), .inl (T 2, 36, .inr (.inl (fun _ => 0)))), ((a 4), .inl (T 2, 36, .inr (.inl (fun _ => 0)))), ((a 5), .inl (T 3, 2, .inl f86))] := ⟨upd (fun _ => 0) (1 : Int32).toNatClampNeg (vp_nar .boolean (1 : Int32)), hP, hD⟩
          refine lv_iconst (v := 1) hx hb dX12_image_87 (by decide) ?_
          have hP9 := hP.sub (ws' := []) [] rfl
          have hD9 := hD.sub (ws' := []) [] (by decide) rfl
          rw [hQ]
          exact W.zret (v := 1) hx hb hr rfl (fun t ht hW => ⟨⟨1, (), rfl, rfl, ⟨xa [], xf [], xh [], xv [], by rw [ht]; exact hP9, hD9, trivial⟩⟩, hS.F ht⟩) hS.2.2 dX12_image_88
        | succ n ih =>
          intro i_1 H locs ls hin hP hD hS hl
          refine lv_iload_n hx hb dX12_image_51 rfl (lv_at hl 0 rfl) ?_
          refine lv_bipush (v := 18) hx hb dX12_image_52 (by decide) ?_
          refine lv_icmp_ge (tgt := 80) hx hb dX12_image_54 (by decide) (fun c => by exfalso; have h9 := xge (k := 18) (by decide) c; have h8 := nI_toInt (n := i_1) (by omega); omega) (fun _ => ?_)
          refine lv_aload_n hx hb dX12_image_57 rfl (lv_at hl 1 rfl) ?_
          refine va_get (D := D) (ci := 12) (v := .ref (a 4)) (C := RX12) (T := TX12) (N := 44) hx hb htg inX12 hown hK.1 hP 0 rfl rfl 42 (by decide) (htg _ kw_1449) (fun _ h9 => h9) rfl dX12_image_58 ?_
          refine lv_bipush (v := 18) hx hb dX12_image_61 (by decide) ?_
          refine lv_iload_n hx hb dX12_image_63 rfl (lv_at hl 2 rfl) ?_
          refine lv_imul hx hb dX12_image_64 ?_
          refine xz_i 18 (by decide) ?_
          refine lv_iload_n hx hb dX12_image_65 rfl (lv_at hl 0 rfl) ?_
          refine lv_iadd hx hb dX12_image_66 ?_
          refine xz_i (nI (18 + i_1)) (nI_add (18) (i_1)) ?_
          refine lv_aload_n hx hb dX12_image_67 rfl (lv_at hl 1 rfl) ?_
          refine va_get (D := D) (ci := 12) (v := .ref (a 3)) (C := RX12) (T := TX12) (N := 44) hx hb htg inX12 hown hK.1 hP 0 rfl rfl 9 (by decide) (htg _ kw_1416) (fun _ h9 => h9) rfl dX12_image_68 ?_
          refine lv_iload_n hx hb dX12_image_71 rfl (lv_at hl 0 rfl) ?_
          refine va_lald hx hb hK.1 hP 3 2 rfl rfl (vp_in_nI (n := i_1) (by omega) (by decide)) dX12_image_72 ?_
          refine xz_l 0 rfl ?_
          refine va_last hx hb hK.1 hP hD hS 4 2 rfl rfl (vp_in_nI (n := 18 + i_1) (by omega) (by decide)) dX12_image_73 (fun H locs hP hD hS => ?_)
          obtain ⟨f7, ⟨i7, rfl⟩, hP, hD⟩ : ∃ f7 : Nat → Int64, (∃ i7, f7 = vp_updL (fun _ => 0) i7 0) ∧ va_P D vwCl [((a 0), .inr (12, ((.int 0) :: (.ref (ex 0)) :: (.int 0) :: (.int 0) :: (.int 0) :: (.int 0) :: (.ref (a 1)) :: (.ref (ex 1)) :: (.ref (ex 2)) :: (.ref (a 3)) :: (.ref (ex 3)) :: (.int 0) :: (.int 0) :: (.int 0) :: (.int 0) :: (.int 0) :: (.int 0) :: (.long 0) :: (.int 0) :: (.int 0) :: (.int 0) :: (.ref (ex 4)) :: (.ref (ex 5)) :: (.int 0) :: (.ref (ex 6)) :: (.int (-1)) :: (.int 0) :: (.int 0) :: (.int 0) :: (.int 0) :: (.int 0) :: (.int 0) :: (.ref (ex 7)) :: (.int 0) :: (.ref (ex 8)) :: (.int 0) :: (.int 0) :: (.int 0) :: (.int 0) :: (.int 0) :: (.ref (ex 9)) :: (.ref (a 2)) :: (.ref (a 4)) :: (.ref (a 5)) :: []))), ((a 1), .inl (T 1, 2187, .inl (fun _ => 0))), ((a 2), .inl (T 1, 4374, .inl (fun _ => 0))), ((a 3), .inl (T 2, 36, .inr (.inl (fun _ => 0)))), ((a 4), .inl (T 2, 36, .inr (.inl f7))), ((a 5), .inl (T 3, 2, .inl (fun _ => 0)))] H ∧ va_D A [((a 0), .inr (12, ((.int 0) :: (.ref (ex 0)) :: (.int 0) :: (.int 0) :: (.int 0) :: (.int 0) :: (.ref (a 1)) :: (.ref (ex 1)) :: (.ref (ex 2)) :: (.ref (a 3)) :: (.ref (ex 3)) :: (.int 0) :: (.int 0) :: (.int 0) :: (.int 0) :: (.int 0) :: (.int 0) :: (.long 0) :: (.int 0) :: (.int 0) :: (.int 0) :: (.ref (ex 4)) :: (.ref (ex 5)) :: (.int 0) :: (.ref (ex 6)) :: (.int (-1)) :: (.int 0) :: (.int 0) :: (.int 0) :: (.int 0) :: (.int 0) :: (.int 0) :: (.ref (ex 7)) :: (.int 0) :: (.ref (ex 8)) :: (.int 0) :: (.int 0) :: (.int 0) :: (.int 0) :: (.int 0) :: (.ref (ex 9)) :: (.ref (a 2)) :: (.ref (a 4)) :: (.ref (a 5)) :: []))), ((a 1), .inl (T 1, 2187, .inl (fun _ => 0))), ((a 2), .inl (T 1, 4374, .inl (fun _ => 0))), ((a 3), .inl (T 2, 36, .inr (.inl (fun _ => 0)))), ((a 4), .inl (T 2, 36, .inr (.inl f7))), ((a 5), .inl (T 3, 2, .inl (fun _ => 0)))] := ⟨_, ⟨_, rfl⟩, hP, hD⟩
          rw [xuL0] at hP hD
          refine lv_iinc (v := (nI (i_1 + 1))) (lv' := [(2, .int (nI (i_1 + 1))), (0, .ref (a 0)), (1, .int 1)]) hx hb dX12_image_74 hl (k := 0) rfl (nI_add (i_1) 1) (by decide) rfl (fun ls hl => ?_)
          refine lv_goto (tgt := 51) hx hb dX12_image_77 (by decide) ?_
          exact ih (i_1 + 1) _ _ _ (by omega) (hP.sub [0, 1, 2, 3, 4, 5] rfl) (hD.sub [0, 1, 2, 3, 4, 5] (by decide) rfl) hS (lv_sub hl [0, 1, 2] rfl)
      exact lp_1 18 0 _ _ _ (by omega) hP hD hS hl
    | succ n ih =>
      intro i H locs ls hin hP hD hS hl
      refine lv_iload_n hx hb dX12_image_18 rfl (lv_at hl 0 rfl) ?_
      refine lv_sipush (v := 2187) hx hb dX12_image_19 (by decide) ?_
      refine lv_icmp_ge (tgt := 49) hx hb dX12_image_22 (by decide) (fun c => by exfalso; have h9 := xge (k := 2187) (by decide) c; have h8 := nI_toInt (n := i) (by omega); omega) (fun _ => ?_)
      refine lv_aload_n hx hb dX12_image_25 rfl (lv_at hl 1 rfl) ?_
      refine va_get (D := D) (ci := 12) (v := .ref (a 2)) (C := RX12) (T := TX12) (N := 44) hx hb htg inX12 hown hK.1 hP 0 rfl rfl 41 (by decide) (htg _ kw_1448) (fun _ h9 => h9) rfl dX12_image_26 ?_
      refine lv_sipush (v := 2187) hx hb dX12_image_29 (by decide) ?_
      refine lv_iload_n hx hb dX12_image_32 rfl (lv_at hl 2 rfl) ?_
      refine lv_imul hx hb dX12_image_33 ?_
      refine xz_i 2187 (by decide) ?_
      refine lv_iload_n hx hb dX12_image_34 rfl (lv_at hl 0 rfl) ?_
      refine lv_iadd hx hb dX12_image_35 ?_
      refine xz_i (nI (2187 + i)) (nI_add (2187) (i)) ?_
      refine lv_aload_n hx hb dX12_image_36 rfl (lv_at hl 1 rfl) ?_
      refine va_get (D := D) (ci := 12) (v := .ref (a 1)) (C := RX12) (T := TX12) (N := 44) hx hb htg inX12 hown hK.1 hP 0 rfl rfl 6 (by decide) (htg _ kw_1413) (fun _ h9 => h9) rfl dX12_image_37 ?_
      refine lv_iload_n hx hb dX12_image_40 rfl (lv_at hl 0 rfl) ?_
      refine va_iald hx hb hK.1 hP 1 1 rfl rfl (vp_in_nI (n := i) (by omega) (by decide)) dX12_image_41 ?_
      refine xz_i 0 rfl ?_
      refine va_iast hx hb hK.1 hP hD hS 2 1 rfl rfl (vp_in_nI (n := 2187 + i) (by omega) (by decide)) dX12_image_42 (fun H locs hP hD hS => ?_)
      obtain ⟨f7, ⟨i7, rfl⟩, hP, hD⟩ : ∃ f7 : Nat → Int32, (∃ i7, f7 = upd (fun _ => 0) i7 0) ∧ va_P D vwCl [((a 0), .inr (12, ((.int 0) :: (.ref (ex 0)) :: (.int 0) :: (.int 0) :: (.int 0) :: (.int 0) :: (.ref (a 1)) :: (.ref (ex 1)) :: (.ref (ex 2)) :: (.ref (a 3)) :: (.ref (ex 3)) :: (.int 0) :: (.int 0) :: (.int 0) :: (.int 0) :: (.int 0) :: (.int 0) :: (.long 0) :: (.int 0) :: (.int 0) :: (.int 0) :: (.ref (ex 4)) :: (.ref (ex 5)) :: (.int 0) :: (.ref (ex 6)) :: (.int (-1)) :: (.int 0) :: (.int 0) :: (.int 0) :: (.int 0) :: (.int 0) :: (.int 0) :: (.ref (ex 7)) :: (.int 0) :: (.ref (ex 8)) :: (.int 0) :: (.int 0) :: (.int 0) :: (.int 0) :: (.int 0) :: (.ref (ex 9)) :: (.ref (a 2)) :: (.ref (a 4)) :: (.ref (a 5)) :: []))), ((a 1), .inl (T 1, 2187, .inl (fun _ => 0))), ((a 2), .inl (T 1, 4374, .inl f7)), ((a 3), .inl (T 2, 36, .inr (.inl (fun _ => 0)))), ((a 4), .inl (T 2, 36, .inr (.inl (fun _ => 0)))), ((a 5), .inl (T 3, 2, .inl (fun _ => 0)))] H ∧ va_D A [((a 0), .inr (12, ((.int 0) :: (.ref (ex 0)) :: (.int 0) :: (.int 0) :: (.int 0) :: (.int 0) :: (.ref (a 1)) :: (.ref (ex 1)) :: (.ref (ex 2)) :: (.ref (a 3)) :: (.ref (ex 3)) :: (.int 0) :: (.int 0) :: (.int 0) :: (.int 0) :: (.int 0) :: (.int 0) :: (.long 0) :: (.int 0) :: (.int 0) :: (.int 0) :: (.ref (ex 4)) :: (.ref (ex 5)) :: (.int 0) :: (.ref (ex 6)) :: (.int (-1)) :: (.int 0) :: (.int 0) :: (.int 0) :: (.int 0) :: (.int 0) :: (.int 0) :: (.ref (ex 7)) :: (.int 0) :: (.ref (ex 8)) :: (.int 0) :: (.int 0) :: (.int 0) :: (.int 0) :: (.int 0) :: (.ref (ex 9)) :: (.ref (a 2)) :: (.ref (a 4)) :: (.ref (a 5)) :: []))), ((a 1), .inl (T 1, 2187, .inl (fun _ => 0))), ((a 2), .inl (T 1, 4374, .inl f7)), ((a 3), .inl (T 2, 36, .inr (.inl (fun _ => 0)))), ((a 4), .inl (T 2, 36, .inr (.inl (fun _ => 0)))), ((a 5), .inl (T 3, 2, .inl (fun _ => 0)))] := ⟨_, ⟨_, rfl⟩, hP, hD⟩
      rw [xu0] at hP hD
      refine lv_iinc (v := (nI (i + 1))) (lv' := [(2, .int (nI (i + 1))), (0, .ref (a 0)), (1, .int 1)]) hx hb dX12_image_43 hl (k := 0) rfl (nI_add (i) 1) (by decide) rfl (fun ls hl => ?_)
      refine lv_goto (tgt := 18) hx hb dX12_image_46 (by decide) ?_
      exact ih (i + 1) _ _ _ (by omega) (hP.sub [0, 1, 2, 3, 4, 5] rfl) (hD.sub [0, 1, 2, 3, 4, 5] (by decide) rfl) hS (lv_sub hl [0, 1, 2] rfl)
  exact lp 2187 0 _ _ _ (by omega) hP hD hS hl
abbrev pre_X12_image_3 (T : Nat → ClassId) (a ex : Nat → Nat) (fi : Nat → Nat → Int32) (fl : Nat → Nat → Int64) (vi : Nat → Int32) : va_W := [((a 0), .inr (12, ((.int 0) :: (.ref (ex 0)) :: (.int 0) :: (.int 0) :: (.int 0) :: (.int 0) :: (.ref (ex 1)) :: (.ref (ex 2)) :: (.ref (ex 3)) :: (.ref (ex 4)) :: (.ref (ex 5)) :: (.int 0) :: (.int 0) :: (.int 0) :: (.int 0) :: (.int 0) :: (.int 0) :: (.long 0) :: (.int 0) :: (.int 0) :: (.int 0) :: (.ref (ex 6)) :: (.ref (ex 7)) :: (.int 0) :: (.ref (ex 8)) :: (.int (-1)) :: (.int 0) :: (.int 0) :: (.int 0) :: (.int 0) :: (.int 0) :: (.int 0) :: (.ref (ex 9)) :: (.int 0) :: (.ref (ex 10)) :: (.int 0) :: (.int 0) :: (.int 0) :: (.int 0) :: (.int 0) :: (.ref (ex 11)) :: (.ref (ex 12)) :: (.ref (ex 13)) :: (.ref (ex 14)) :: [])))]
set_option maxHeartbeats 4000000 in
set_option maxRecDepth 100000 in
theorem c_X12_image_3 (l : Launch) (D : va_G) (T : Nat → ClassId) (a ex : Nat → Nat) (fi : Nat → Nat → Int32) (fl : Nat → Nat → Int64) (vi : Nat → Int32) (sz : Nat) (hd0 : (vi 0).toInt ≤ -1 ∨ 2 ≤ (vi 0).toInt) : Met l yX12_image (xw yX12_image cX12_image 3 (some .boolean)) ({ frames := 1, cells := 0, slots := 0, locals := 26 }) (xP D T [.ref (a 0), .int (vi 0)] sz (pre_X12_image_3 T a ex fi fl vi)) (va_Qi (fun r (_ : Unit) => r = 0) (xB D (va_A (pre_X12_image_3 T a ex fi fl vi) sz) (fun _ => True) (fun b fj fm vj => [])) (va_A (pre_X12_image_3 T a ex fi fl vi) sz)) 0 0 (va_A (pre_X12_image_3 T a ex fi fl vi) sz) := by
  refine xofW (cc := cX12_image) (maxL := 3) (ret := (some .boolean)) (by decide) rfl ?_
  intro p e s m args below meth c s₁ R Q hR hQ B hml hv
  obtain ⟨rfl, hsz, hP, hK, hD0⟩ := hv
  have hx := B.exec
  have hb := B.bytes
  have hr := B.returns
  have hts := atoms_spec (ws := xw yX12_image cX12_image 3 (some .boolean)) B.pre
  have htg : ∀ w ∈ xg, w.before _ s = true := fun w h => hts w (List.mem_cons_of_mem _ h)
  have hown : s.vm.findClass RX12 = some m.cls := findClass_of_methodNamed B.named
  have hlocks := B.notSynchronized
  subst hsz
  have hD := hD0.self (sz := s.heap.size)
  generalize hAe : va_A (pre_X12_image_3 T a ex fi fl vi) s.heap.size = A at hD hQ
  have hA : ∀ q : Nat, s.heap.size ≤ q → A q := fun q h => by rw [← hAe]; exact Or.inr h
  have hS : va_S A s.heap s.heap [] := va_S.rf
  replace hP : va_P D vwCl [((a 0), .inr (12, ((.int 0) :: (.ref (ex 0)) :: (.int 0) :: (.int 0) :: (.int 0) :: (.int 0) :: (.ref (ex 1)) :: (.ref (ex 2)) :: (.ref (ex 3)) :: (.ref (ex 4)) :: (.ref (ex 5)) :: (.int 0) :: (.int 0) :: (.int 0) :: (.int 0) :: (.int 0) :: (.int 0) :: (.long 0) :: (.int 0) :: (.int 0) :: (.int 0) :: (.ref (ex 6)) :: (.ref (ex 7)) :: (.int 0) :: (.ref (ex 8)) :: (.int (-1)) :: (.int 0) :: (.int 0) :: (.int 0) :: (.int 0) :: (.int 0) :: (.int 0) :: (.ref (ex 9)) :: (.int 0) :: (.ref (ex 10)) :: (.int 0) :: (.int 0) :: (.int 0) :: (.int 0) :: (.int 0) :: (.ref (ex 11)) :: (.ref (ex 12)) :: (.ref (ex 13)) :: (.ref (ex 14)) :: [])))] s.heap := hP
  replace hD : va_D A [((a 0), .inr (12, ((.int 0) :: (.ref (ex 0)) :: (.int 0) :: (.int 0) :: (.int 0) :: (.int 0) :: (.ref (ex 1)) :: (.ref (ex 2)) :: (.ref (ex 3)) :: (.ref (ex 4)) :: (.ref (ex 5)) :: (.int 0) :: (.int 0) :: (.int 0) :: (.int 0) :: (.int 0) :: (.int 0) :: (.long 0) :: (.int 0) :: (.int 0) :: (.int 0) :: (.ref (ex 6)) :: (.ref (ex 7)) :: (.int 0) :: (.ref (ex 8)) :: (.int (-1)) :: (.int 0) :: (.int 0) :: (.int 0) :: (.int 0) :: (.int 0) :: (.int 0) :: (.ref (ex 9)) :: (.int 0) :: (.ref (ex 10)) :: (.int 0) :: (.int 0) :: (.int 0) :: (.int 0) :: (.int 0) :: (.ref (ex 11)) :: (.ref (ex 12)) :: (.ref (ex 13)) :: (.ref (ex 14)) :: [])))] := hD
  have hl := lv_entry ([.ref (a 0), .int (vi 0)]) (n := 3) (Nat.le_of_ble_eq_true rfl)
  rw [lg_entry_eq]
  generalize (lg_sl ([.ref (a 0), .int (vi 0)]) ++ List.replicate (3 - (lg_sl ([.ref (a 0), .int (vi 0)])).length) Slot.unset).toArray = ls at hl ⊢
  replace hl : lv_has ls 3 [(0, .ref (a 0)), (1, .int (vi 0))] := hl
  refine lv_aload_n hx hb dX12_image_0 rfl (lv_at hl 0 rfl) ?_
  refine lv_iconst (v := 0) hx hb dX12_image_1 (by decide) ?_
  refine va_put (D := D) (ci := 12) (v := .int 0) (ty := .int) (C := RX12) (T := TX12) (N := 44) hx hb htg inX12 tyX12 tyX12_ok nmX12 hown hK.1 hP hD hS 0 rfl rfl 0 (by decide) (htg _ kw_1407) (fun _ h9 => h9) rfl (by decide +kernel) rfl rfl (Nat.le_of_ble_eq_true rfl) dX12_image_2 (fun H locs hP hD hS => ?_)
  replace hP : va_P D vwCl [((a 0), .inr (12, ((.int 0) :: (.ref (ex 0)) :: (.int 0) :: (.int 0) :: (.int 0) :: (.int 0) :: (.ref (ex 1)) :: (.ref (ex 2)) :: (.ref (ex 3)) :: (.ref (ex 4)) :: (.ref (ex 5)) :: (.int 0) :: (.int 0) :: (.int 0) :: (.int 0) :: (.int 0) :: (.int 0) :: (.long 0) :: (.int 0) :: (.int 0) :: (.int 0) :: (.ref (ex 6)) :: (.ref (ex 7)) :: (.int 0) :: (.ref (ex 8)) :: (.int (-1)) :: (.int 0) :: (.int 0) :: (.int 0) :: (.int 0) :: (.int 0) :: (.int 0) :: (.ref (ex 9)) :: (.int 0) :: (.ref (ex 10)) :: (.int 0) :: (.int 0) :: (.int 0) :: (.int 0) :: (.int 0) :: (.ref (ex 11)) :: (.ref (ex 12)) :: (.ref (ex 13)) :: (.ref (ex 14)) :: [])))] H := hP
  replace hD : va_D A [((a 0), .inr (12, ((.int 0) :: (.ref (ex 0)) :: (.int 0) :: (.int 0) :: (.int 0) :: (.int 0) :: (.ref (ex 1)) :: (.ref (ex 2)) :: (.ref (ex 3)) :: (.ref (ex 4)) :: (.ref (ex 5)) :: (.int 0) :: (.int 0) :: (.int 0) :: (.int 0) :: (.int 0) :: (.int 0) :: (.long 0) :: (.int 0) :: (.int 0) :: (.int 0) :: (.ref (ex 6)) :: (.ref (ex 7)) :: (.int 0) :: (.ref (ex 8)) :: (.int (-1)) :: (.int 0) :: (.int 0) :: (.int 0) :: (.int 0) :: (.int 0) :: (.int 0) :: (.ref (ex 9)) :: (.int 0) :: (.ref (ex 10)) :: (.int 0) :: (.int 0) :: (.int 0) :: (.int 0) :: (.int 0) :: (.ref (ex 11)) :: (.ref (ex 12)) :: (.ref (ex 13)) :: (.ref (ex 14)) :: [])))] := hD
  refine lv_iload_n hx hb dX12_image_5 rfl (lv_at hl 1 rfl) ?_
  refine lv_iconst (v := 0) hx hb dX12_image_6 (by decide) ?_
  refine lv_iconst (v := 1) hx hb dX12_image_7 (by decide) ?_
  have hPc := hP.sub (ws' := (pre_X12_isIn_10 T (xa []) (xa []) (xf []) (xh []) (xv [(vi 0)]))) [] rfl
  have hDc := hD.sub (ws' := (pre_X12_isIn_10 T (xa []) (xa []) (xf []) (xh []) (xv [(vi 0)]))) [] (by decide) rfl
  have hFc := va_free (wc := (pre_X12_isIn_10 T (xa []) (xa []) (xf []) (xh []) (xv [(vi 0)]))) hD hS hA [] rfl
  refine va_calli (va_runS (As := [.int (vi 0), .int 0, .int 1]) (rest := []) ⟨hx, hb, hml, hown, htg⟩ (c_X12_isIn_10 l D T (xa []) (xa []) (xf []) (xh []) (xv [(vi 0)]) H.size (by show ((vi 0) : Int32).toInt ≤ -1 ∨ 2 ≤ ((vi 0) : Int32).toInt; omega)) ⟨callB_of 3 htg (xg_ok kw_1597) rfl rfl rfl (htg _ kw_17) (htg _ kw_1595) (by decide +kernel) ⟨by rw [hR]; exact Nat.le_of_ble_eq_true rfl, by rw [hR]; exact Nat.le_of_ble_eq_true rfl⟩, htg _ kw_1596⟩ (xpreS hK hPc hDc) rfl rfl hl.1 rfl (lv_room (Nat.le_of_ble_eq_true rfl)) dX12_image_8 ⟨by rw [hR]; exact Nat.le_of_ble_eq_true rfl, by rw [hR]; exact Nat.le_of_ble_eq_true rfl⟩) hS (fun q _ h => hFc q h) hFc (fun r9 u t H1 locs ht hvm hw hB hz1 hk1 hS => ?_)
  obtain ⟨bk, fik, flk, vik, hP1, hD1, hGk⟩ := hB
  rw [ht] at hP1
  obtain ⟨hP, hD⟩ := va_join (wr := [((a 0), .inr (12, ((.int 0) :: (.ref (ex 0)) :: (.int 0) :: (.int 0) :: (.int 0) :: (.int 0) :: (.ref (ex 1)) :: (.ref (ex 2)) :: (.ref (ex 3)) :: (.ref (ex 4)) :: (.ref (ex 5)) :: (.int 0) :: (.int 0) :: (.int 0) :: (.int 0) :: (.int 0) :: (.int 0) :: (.long 0) :: (.int 0) :: (.int 0) :: (.int 0) :: (.ref (ex 6)) :: (.ref (ex 7)) :: (.int 0) :: (.ref (ex 8)) :: (.int (-1)) :: (.int 0) :: (.int 0) :: (.int 0) :: (.int 0) :: (.int 0) :: (.int 0) :: (.ref (ex 9)) :: (.int 0) :: (.ref (ex 10)) :: (.int 0) :: (.int 0) :: (.int 0) :: (.int 0) :: (.int 0) :: (.ref (ex 11)) :: (.ref (ex 12)) :: (.ref (ex 13)) :: (.ref (ex 14)) :: [])))]) (w1 := []) hP hD [] [0] rfl rfl (by decide) (by decide) hk1 hFc hP1 hD1
  subst hw
  clear hPc hDc hFc hP1 hD1 hk1 hz1 hvm ht
  generalize H1 = H at hP hS ⊢
  replace hP : va_P D vwCl [((a 0), .inr (12, ((.int 0) :: (.ref (ex 0)) :: (.int 0) :: (.int 0) :: (.int 0) :: (.int 0) :: (.ref (ex 1)) :: (.ref (ex 2)) :: (.ref (ex 3)) :: (.ref (ex 4)) :: (.ref (ex 5)) :: (.int 0) :: (.int 0) :: (.int 0) :: (.int 0) :: (.int 0) :: (.int 0) :: (.long 0) :: (.int 0) :: (.int 0) :: (.int 0) :: (.ref (ex 6)) :: (.ref (ex 7)) :: (.int 0) :: (.ref (ex 8)) :: (.int (-1)) :: (.int 0) :: (.int 0) :: (.int 0) :: (.int 0) :: (.int 0) :: (.int 0) :: (.ref (ex 9)) :: (.int 0) :: (.ref (ex 10)) :: (.int 0) :: (.int 0) :: (.int 0) :: (.int 0) :: (.int 0) :: (.ref (ex 11)) :: (.ref (ex 12)) :: (.ref (ex 13)) :: (.ref (ex 14)) :: [])))] H := hP
  replace hD : va_D A [((a 0), .inr (12, ((.int 0) :: (.ref (ex 0)) :: (.int 0) :: (.int 0) :: (.int 0) :: (.int 0) :: (.ref (ex 1)) :: (.ref (ex 2)) :: (.ref (ex 3)) :: (.ref (ex 4)) :: (.ref (ex 5)) :: (.int 0) :: (.int 0) :: (.int 0) :: (.int 0) :: (.int 0) :: (.int 0) :: (.long 0) :: (.int 0) :: (.int 0) :: (.int 0) :: (.ref (ex 6)) :: (.ref (ex 7)) :: (.int 0) :: (.ref (ex 8)) :: (.int (-1)) :: (.int 0) :: (.int 0) :: (.int 0) :: (.int 0) :: (.int 0) :: (.int 0) :: (.ref (ex 9)) :: (.int 0) :: (.ref (ex 10)) :: (.int 0) :: (.int 0) :: (.int 0) :: (.int 0) :: (.int 0) :: (.ref (ex 11)) :: (.ref (ex 12)) :: (.ref (ex 13)) :: (.ref (ex 14)) :: [])))] := hD
  refine lv_if_ne (tgt := 16) hx hb dX12_image_11 (by decide) (fun c => absurd (by decide) c) (fun _ => ?_)
  refine lv_iconst (v := 0) hx hb dX12_image_14 (by decide) ?_
  have hP9 := hP.sub (ws' := []) [] rfl
  have hD9 := hD.sub (ws' := []) [] (by decide) rfl
  rw [hQ]
  exact W.zret (v := 0) hx hb hr rfl (fun t ht hW => ⟨⟨0, (), rfl, rfl, ⟨xa [], xf [], xh [], xv [], by rw [ht]; exact hP9, hD9, trivial⟩⟩, hS.F ht⟩) hS.2.2 dX12_image_15
abbrev pre_X12_restore (T : Nat → ClassId) (a ex : Nat → Nat) (fi : Nat → Nat → Int32) (fl : Nat → Nat → Int64) (vi : Nat → Int32) : va_W := [((a 0), .inr (12, ((.int 0) :: (.ref (ex 0)) :: (.int 0) :: (.int 0) :: (.int 0) :: (.int 0) :: (.ref (ex 1)) :: (.ref (ex 2)) :: (.ref (ex 3)) :: (.ref (ex 4)) :: (.ref (ex 5)) :: (.int 0) :: (.int 0) :: (.int 0) :: (.int 0) :: (.int 0) :: (.int 0) :: (.long 0) :: (.int 0) :: (.int 0) :: (.int 0) :: (.ref (ex 6)) :: (.ref (ex 7)) :: (.int 0) :: (.ref (ex 8)) :: (.int (-1)) :: (.int 0) :: (.int 0) :: (.int 0) :: (.int 0) :: (.int 0) :: (.int 0) :: (.ref (ex 9)) :: (.int 0) :: (.ref (ex 10)) :: (.int 0) :: (.int 0) :: (.int 0) :: (.int 0) :: (.int 0) :: (.ref (ex 11)) :: (.ref (ex 12)) :: (.ref (ex 13)) :: (.ref (a 1)) :: []))), ((a 1), .inl (T 3, 2, .inl (fun _ => 0)))]
set_option maxHeartbeats 4000000 in
set_option maxRecDepth 100000 in
theorem c_X12_restore (l : Launch) (D : va_G) (T : Nat → ClassId) (a ex : Nat → Nat) (fi : Nat → Nat → Int32) (fl : Nat → Nat → Int64) (vi : Nat → Int32) (sz : Nat) : Met l yX12_restore (xw yX12_restore cX12_restore 3 (some .boolean)) ({ frames := 1, cells := 0, slots := 0, locals := 26 }) (xP D T [.ref (a 0), .int 0] sz (pre_X12_restore T a ex fi fl vi)) (va_Qi (fun r (_ : Unit) => r = 0) (xB D (va_A (pre_X12_restore T a ex fi fl vi) sz) (fun _ => True) (fun b fj fm vj => [])) (va_A (pre_X12_restore T a ex fi fl vi) sz)) 0 0 (va_A (pre_X12_restore T a ex fi fl vi) sz) := by
  refine xofW (cc := cX12_restore) (maxL := 3) (ret := (some .boolean)) (by decide) rfl ?_
  intro p e s m args below meth c s₁ R Q hR hQ B hml hv
  obtain ⟨rfl, hsz, hP, hK, hD0⟩ := hv
  have hx := B.exec
  have hb := B.bytes
  have hr := B.returns
  have hts := atoms_spec (ws := xw yX12_restore cX12_restore 3 (some .boolean)) B.pre
  have htg : ∀ w ∈ xg, w.before _ s = true := fun w h => hts w (List.mem_cons_of_mem _ h)
  have hown : s.vm.findClass RX12 = some m.cls := findClass_of_methodNamed B.named
  have hlocks := B.notSynchronized
  subst hsz
  have hD := hD0.self (sz := s.heap.size)
  generalize hAe : va_A (pre_X12_restore T a ex fi fl vi) s.heap.size = A at hD hQ
  have hA : ∀ q : Nat, s.heap.size ≤ q → A q := fun q h => by rw [← hAe]; exact Or.inr h
  have hS : va_S A s.heap s.heap [] := va_S.rf
  replace hP : va_P D vwCl [((a 0), .inr (12, ((.int 0) :: (.ref (ex 0)) :: (.int 0) :: (.int 0) :: (.int 0) :: (.int 0) :: (.ref (ex 1)) :: (.ref (ex 2)) :: (.ref (ex 3)) :: (.ref (ex 4)) :: (.ref (ex 5)) :: (.int 0) :: (.int 0) :: (.int 0) :: (.int 0) :: (.int 0) :: (.int 0) :: (.long 0) :: (.int 0) :: (.int 0) :: (.int 0) :: (.ref (ex 6)) :: (.ref (ex 7)) :: (.int 0) :: (.ref (ex 8)) :: (.int (-1)) :: (.int 0) :: (.int 0) :: (.int 0) :: (.int 0) :: (.int 0) :: (.int 0) :: (.ref (ex 9)) :: (.int 0) :: (.ref (ex 10)) :: (.int 0) :: (.int 0) :: (.int 0) :: (.int 0) :: (.int 0) :: (.ref (ex 11)) :: (.ref (ex 12)) :: (.ref (ex 13)) :: (.ref (a 1)) :: []))), ((a 1), .inl (T 3, 2, .inl (fun _ => 0)))] s.heap := hP
  replace hD : va_D A [((a 0), .inr (12, ((.int 0) :: (.ref (ex 0)) :: (.int 0) :: (.int 0) :: (.int 0) :: (.int 0) :: (.ref (ex 1)) :: (.ref (ex 2)) :: (.ref (ex 3)) :: (.ref (ex 4)) :: (.ref (ex 5)) :: (.int 0) :: (.int 0) :: (.int 0) :: (.int 0) :: (.int 0) :: (.int 0) :: (.long 0) :: (.int 0) :: (.int 0) :: (.int 0) :: (.ref (ex 6)) :: (.ref (ex 7)) :: (.int 0) :: (.ref (ex 8)) :: (.int (-1)) :: (.int 0) :: (.int 0) :: (.int 0) :: (.int 0) :: (.int 0) :: (.int 0) :: (.ref (ex 9)) :: (.int 0) :: (.ref (ex 10)) :: (.int 0) :: (.int 0) :: (.int 0) :: (.int 0) :: (.int 0) :: (.ref (ex 11)) :: (.ref (ex 12)) :: (.ref (ex 13)) :: (.ref (a 1)) :: []))), ((a 1), .inl (T 3, 2, .inl (fun _ => 0)))] := hD
  have hl := lv_entry ([.ref (a 0), .int 0]) (n := 3) (Nat.le_of_ble_eq_true rfl)
  rw [lg_entry_eq]
  generalize (lg_sl ([.ref (a 0), .int 0]) ++ List.replicate (3 - (lg_sl ([.ref (a 0), .int 0])).length) Slot.unset).toArray = ls at hl ⊢
  replace hl : lv_has ls 3 [(0, .ref (a 0)), (1, .int 0)] := hl
  refine lv_aload_n hx hb dX12_restore_0 rfl (lv_at hl 0 rfl) ?_
  refine lv_iconst (v := 0) hx hb dX12_restore_1 (by decide) ?_
  refine va_put (D := D) (ci := 12) (v := .int 0) (ty := .int) (C := RX12) (T := TX12) (N := 44) hx hb htg inX12 tyX12 tyX12_ok nmX12 hown hK.1 hP hD hS 0 rfl rfl 0 (by decide) (htg _ kw_1407) (fun _ h9 => h9) rfl (by decide +kernel) rfl rfl (Nat.le_of_ble_eq_true rfl) dX12_restore_2 (fun H locs hP hD hS => ?_)
  replace hP : va_P D vwCl [((a 0), .inr (12, ((.int 0) :: (.ref (ex 0)) :: (.int 0) :: (.int 0) :: (.int 0) :: (.int 0) :: (.ref (ex 1)) :: (.ref (ex 2)) :: (.ref (ex 3)) :: (.ref (ex 4)) :: (.ref (ex 5)) :: (.int 0) :: (.int 0) :: (.int 0) :: (.int 0) :: (.int 0) :: (.int 0) :: (.long 0) :: (.int 0) :: (.int 0) :: (.int 0) :: (.ref (ex 6)) :: (.ref (ex 7)) :: (.int 0) :: (.ref (ex 8)) :: (.int (-1)) :: (.int 0) :: (.int 0) :: (.int 0) :: (.int 0) :: (.int 0) :: (.int 0) :: (.ref (ex 9)) :: (.int 0) :: (.ref (ex 10)) :: (.int 0) :: (.int 0) :: (.int 0) :: (.int 0) :: (.int 0) :: (.ref (ex 11)) :: (.ref (ex 12)) :: (.ref (ex 13)) :: (.ref (a 1)) :: []))), ((a 1), .inl (T 3, 2, .inl (fun _ => 0)))] H := hP
  replace hD : va_D A [((a 0), .inr (12, ((.int 0) :: (.ref (ex 0)) :: (.int 0) :: (.int 0) :: (.int 0) :: (.int 0) :: (.ref (ex 1)) :: (.ref (ex 2)) :: (.ref (ex 3)) :: (.ref (ex 4)) :: (.ref (ex 5)) :: (.int 0) :: (.int 0) :: (.int 0) :: (.int 0) :: (.int 0) :: (.int 0) :: (.long 0) :: (.int 0) :: (.int 0) :: (.int 0) :: (.ref (ex 6)) :: (.ref (ex 7)) :: (.int 0) :: (.ref (ex 8)) :: (.int (-1)) :: (.int 0) :: (.int 0) :: (.int 0) :: (.int 0) :: (.int 0) :: (.int 0) :: (.ref (ex 9)) :: (.int 0) :: (.ref (ex 10)) :: (.int 0) :: (.int 0) :: (.int 0) :: (.int 0) :: (.int 0) :: (.ref (ex 11)) :: (.ref (ex 12)) :: (.ref (ex 13)) :: (.ref (a 1)) :: []))), ((a 1), .inl (T 3, 2, .inl (fun _ => 0)))] := hD
  refine lv_iload_n hx hb dX12_restore_5 rfl (lv_at hl 1 rfl) ?_
  refine lv_iconst (v := 0) hx hb dX12_restore_6 (by decide) ?_
  refine lv_iconst (v := 1) hx hb dX12_restore_7 (by decide) ?_
  have hPc := hP.sub (ws' := (pre_X12_isIn_8 T (xa []) (xa []) (xf []) (xh []) (xv []))) [] rfl
  have hDc := hD.sub (ws' := (pre_X12_isIn_8 T (xa []) (xa []) (xf []) (xh []) (xv []))) [] (by decide) rfl
  have hFc := va_free (wc := (pre_X12_isIn_8 T (xa []) (xa []) (xf []) (xh []) (xv []))) hD hS hA [] rfl
  refine va_calli (va_runS (As := [.int 0, .int 0, .int 1]) (rest := []) ⟨hx, hb, hml, hown, htg⟩ (c_X12_isIn_8 l D T (xa []) (xa []) (xf []) (xh []) (xv []) H.size) ⟨callB_of 3 htg (xg_ok kw_1597) rfl rfl rfl (htg _ kw_17) (htg _ kw_1595) (by decide +kernel) ⟨by rw [hR]; exact Nat.le_of_ble_eq_true rfl, by rw [hR]; exact Nat.le_of_ble_eq_true rfl⟩, htg _ kw_1596⟩ (xpreS hK hPc hDc) rfl rfl hl.1 rfl (lv_room (Nat.le_of_ble_eq_true rfl)) dX12_restore_8 ⟨by rw [hR]; exact Nat.le_of_ble_eq_true rfl, by rw [hR]; exact Nat.le_of_ble_eq_true rfl⟩) hS (fun q _ h => hFc q h) hFc (fun r9 u t H1 locs ht hvm hw hB hz1 hk1 hS => ?_)
  obtain ⟨bk, fik, flk, vik, hP1, hD1, hGk⟩ := hB
  rw [ht] at hP1
  obtain ⟨hP, hD⟩ := va_join (wr := [((a 0), .inr (12, ((.int 0) :: (.ref (ex 0)) :: (.int 0) :: (.int 0) :: (.int 0) :: (.int 0) :: (.ref (ex 1)) :: (.ref (ex 2)) :: (.ref (ex 3)) :: (.ref (ex 4)) :: (.ref (ex 5)) :: (.int 0) :: (.int 0) :: (.int 0) :: (.int 0) :: (.int 0) :: (.int 0) :: (.long 0) :: (.int 0) :: (.int 0) :: (.int 0) :: (.ref (ex 6)) :: (.ref (ex 7)) :: (.int 0) :: (.ref (ex 8)) :: (.int (-1)) :: (.int 0) :: (.int 0) :: (.int 0) :: (.int 0) :: (.int 0) :: (.int 0) :: (.ref (ex 9)) :: (.int 0) :: (.ref (ex 10)) :: (.int 0) :: (.int 0) :: (.int 0) :: (.int 0) :: (.int 0) :: (.ref (ex 11)) :: (.ref (ex 12)) :: (.ref (ex 13)) :: (.ref (a 1)) :: []))), ((a 1), .inl (T 3, 2, .inl (fun _ => 0)))]) (w1 := []) hP hD [] [0, 1] rfl rfl (by decide) (by decide) hk1 hFc hP1 hD1
  subst hw
  clear hPc hDc hFc hP1 hD1 hk1 hz1 hvm ht
  generalize H1 = H at hP hS ⊢
  replace hP : va_P D vwCl [((a 0), .inr (12, ((.int 0) :: (.ref (ex 0)) :: (.int 0) :: (.int 0) :: (.int 0) :: (.int 0) :: (.ref (ex 1)) :: (.ref (ex 2)) :: (.ref (ex 3)) :: (.ref (ex 4)) :: (.ref (ex 5)) :: (.int 0) :: (.int 0) :: (.int 0) :: (.int 0) :: (.int 0) :: (.int 0) :: (.long 0) :: (.int 0) :: (.int 0) :: (.int 0) :: (.ref (ex 6)) :: (.ref (ex 7)) :: (.int 0) :: (.ref (ex 8)) :: (.int (-1)) :: (.int 0) :: (.int 0) :: (.int 0) :: (.int 0) :: (.int 0) :: (.int 0) :: (.ref (ex 9)) :: (.int 0) :: (.ref (ex 10)) :: (.int 0) :: (.int 0) :: (.int 0) :: (.int 0) :: (.int 0) :: (.ref (ex 11)) :: (.ref (ex 12)) :: (.ref (ex 13)) :: (.ref (a 1)) :: []))), ((a 1), .inl (T 3, 2, .inl (fun _ => 0)))] H := hP
  replace hD : va_D A [((a 0), .inr (12, ((.int 0) :: (.ref (ex 0)) :: (.int 0) :: (.int 0) :: (.int 0) :: (.int 0) :: (.ref (ex 1)) :: (.ref (ex 2)) :: (.ref (ex 3)) :: (.ref (ex 4)) :: (.ref (ex 5)) :: (.int 0) :: (.int 0) :: (.int 0) :: (.int 0) :: (.int 0) :: (.int 0) :: (.long 0) :: (.int 0) :: (.int 0) :: (.int 0) :: (.ref (ex 6)) :: (.ref (ex 7)) :: (.int 0) :: (.ref (ex 8)) :: (.int (-1)) :: (.int 0) :: (.int 0) :: (.int 0) :: (.int 0) :: (.int 0) :: (.int 0) :: (.ref (ex 9)) :: (.int 0) :: (.ref (ex 10)) :: (.int 0) :: (.int 0) :: (.int 0) :: (.int 0) :: (.int 0) :: (.ref (ex 11)) :: (.ref (ex 12)) :: (.ref (ex 13)) :: (.ref (a 1)) :: []))), ((a 1), .inl (T 3, 2, .inl (fun _ => 0)))] := hD
  refine lv_if_eq (tgt := 23) hx hb dX12_restore_11 (by decide) (fun c => absurd c (by decide)) (fun _ => ?_)
  refine lv_aload_n hx hb dX12_restore_14 rfl (lv_at hl 0 rfl) ?_
  refine va_get (D := D) (ci := 12) (v := .ref (a 1)) (C := RX12) (T := TX12) (N := 44) hx hb htg inX12 hown hK.1 hP 0 rfl rfl 43 (by decide) (htg _ kw_1450) (fun _ h9 => h9) rfl dX12_restore_15 ?_
  refine lv_iload_n hx hb dX12_restore_18 rfl (lv_at hl 1 rfl) ?_
  refine va_zald hx hb hK.1 hP 1 3 rfl rfl (vp_in_nI (n := 0) (by decide) (by decide)) dX12_restore_19 ?_
  refine xz_i 0 rfl ?_
  refine lv_if_ne (tgt := 25) hx hb dX12_restore_20 (by decide) (fun c => absurd (by decide) c) (fun _ => ?_)
  refine lv_iconst (v := 0) hx hb dX12_restore_23 (by decide) ?_
  have hP9 := hP.sub (ws' := []) [] rfl
  have hD9 := hD.sub (ws' := []) [] (by decide) rfl
  rw [hQ]
  exact W.zret (v := 0) hx hb hr rfl (fun t ht hW => ⟨⟨0, (), rfl, rfl, ⟨xa [], xf [], xh [], xv [], by rw [ht]; exact hP9, hD9, trivial⟩⟩, hS.F ht⟩) hS.2.2 dX12_restore_24
abbrev pre_X12_restore_2 (T : Nat → ClassId) (a ex : Nat → Nat) (fi : Nat → Nat → Int32) (fl : Nat → Nat → Int64) (vi : Nat → Int32) : va_W := [((a 0), .inr (12, ((.int 0) :: (.ref (ex 0)) :: (.int 0) :: (.int 0) :: (.int 0) :: (.int 0) :: (.ref (ex 1)) :: (.ref (ex 2)) :: (.ref (ex 3)) :: (.ref (ex 4)) :: (.ref (ex 5)) :: (.int 0) :: (.int 0) :: (.int 0) :: (.int 0) :: (.int 0) :: (.int 0) :: (.long 0) :: (.int 0) :: (.int 0) :: (.int 0) :: (.ref (ex 6)) :: (.ref (ex 7)) :: (.int 0) :: (.ref (ex 8)) :: (.int (-1)) :: (.int 0) :: (.int 0) :: (.int 0) :: (.int 0) :: (.int 0) :: (.int 0) :: (.ref (ex 9)) :: (.int 0) :: (.ref (ex 10)) :: (.int 0) :: (.int 0) :: (.int 0) :: (.int 0) :: (.int 0) :: (.ref (ex 11)) :: (.ref (ex 12)) :: (.ref (ex 13)) :: (.ref (a 1)) :: []))), ((a 1), .inl (T 3, 2, .inl (fun _ => 0)))]
set_option maxHeartbeats 4000000 in
set_option maxRecDepth 100000 in
theorem c_X12_restore_2 (l : Launch) (D : va_G) (T : Nat → ClassId) (a ex : Nat → Nat) (fi : Nat → Nat → Int32) (fl : Nat → Nat → Int64) (vi : Nat → Int32) (sz : Nat) : Met l yX12_restore (xw yX12_restore cX12_restore 3 (some .boolean)) ({ frames := 1, cells := 0, slots := 0, locals := 26 }) (xP D T [.ref (a 0), .int 1] sz (pre_X12_restore_2 T a ex fi fl vi)) (va_Qi (fun r (_ : Unit) => r = 0) (xB D (va_A (pre_X12_restore_2 T a ex fi fl vi) sz) (fun _ => True) (fun b fj fm vj => [])) (va_A (pre_X12_restore_2 T a ex fi fl vi) sz)) 0 0 (va_A (pre_X12_restore_2 T a ex fi fl vi) sz) := by
  refine xofW (cc := cX12_restore) (maxL := 3) (ret := (some .boolean)) (by decide) rfl ?_
  intro p e s m args below meth c s₁ R Q hR hQ B hml hv
  obtain ⟨rfl, hsz, hP, hK, hD0⟩ := hv
  have hx := B.exec
  have hb := B.bytes
  have hr := B.returns
  have hts := atoms_spec (ws := xw yX12_restore cX12_restore 3 (some .boolean)) B.pre
  have htg : ∀ w ∈ xg, w.before _ s = true := fun w h => hts w (List.mem_cons_of_mem _ h)
  have hown : s.vm.findClass RX12 = some m.cls := findClass_of_methodNamed B.named
  have hlocks := B.notSynchronized
  subst hsz
  have hD := hD0.self (sz := s.heap.size)
  generalize hAe : va_A (pre_X12_restore_2 T a ex fi fl vi) s.heap.size = A at hD hQ
  have hA : ∀ q : Nat, s.heap.size ≤ q → A q := fun q h => by rw [← hAe]; exact Or.inr h
  have hS : va_S A s.heap s.heap [] := va_S.rf
  replace hP : va_P D vwCl [((a 0), .inr (12, ((.int 0) :: (.ref (ex 0)) :: (.int 0) :: (.int 0) :: (.int 0) :: (.int 0) :: (.ref (ex 1)) :: (.ref (ex 2)) :: (.ref (ex 3)) :: (.ref (ex 4)) :: (.ref (ex 5)) :: (.int 0) :: (.int 0) :: (.int 0) :: (.int 0) :: (.int 0) :: (.int 0) :: (.long 0) :: (.int 0) :: (.int 0) :: (.int 0) :: (.ref (ex 6)) :: (.ref (ex 7)) :: (.int 0) :: (.ref (ex 8)) :: (.int (-1)) :: (.int 0) :: (.int 0) :: (.int 0) :: (.int 0) :: (.int 0) :: (.int 0) :: (.ref (ex 9)) :: (.int 0) :: (.ref (ex 10)) :: (.int 0) :: (.int 0) :: (.int 0) :: (.int 0) :: (.int 0) :: (.ref (ex 11)) :: (.ref (ex 12)) :: (.ref (ex 13)) :: (.ref (a 1)) :: []))), ((a 1), .inl (T 3, 2, .inl (fun _ => 0)))] s.heap := hP
  replace hD : va_D A [((a 0), .inr (12, ((.int 0) :: (.ref (ex 0)) :: (.int 0) :: (.int 0) :: (.int 0) :: (.int 0) :: (.ref (ex 1)) :: (.ref (ex 2)) :: (.ref (ex 3)) :: (.ref (ex 4)) :: (.ref (ex 5)) :: (.int 0) :: (.int 0) :: (.int 0) :: (.int 0) :: (.int 0) :: (.int 0) :: (.long 0) :: (.int 0) :: (.int 0) :: (.int 0) :: (.ref (ex 6)) :: (.ref (ex 7)) :: (.int 0) :: (.ref (ex 8)) :: (.int (-1)) :: (.int 0) :: (.int 0) :: (.int 0) :: (.int 0) :: (.int 0) :: (.int 0) :: (.ref (ex 9)) :: (.int 0) :: (.ref (ex 10)) :: (.int 0) :: (.int 0) :: (.int 0) :: (.int 0) :: (.int 0) :: (.ref (ex 11)) :: (.ref (ex 12)) :: (.ref (ex 13)) :: (.ref (a 1)) :: []))), ((a 1), .inl (T 3, 2, .inl (fun _ => 0)))] := hD
  have hl := lv_entry ([.ref (a 0), .int 1]) (n := 3) (Nat.le_of_ble_eq_true rfl)
  rw [lg_entry_eq]
  generalize (lg_sl ([.ref (a 0), .int 1]) ++ List.replicate (3 - (lg_sl ([.ref (a 0), .int 1])).length) Slot.unset).toArray = ls at hl ⊢
  replace hl : lv_has ls 3 [(0, .ref (a 0)), (1, .int 1)] := hl
  refine lv_aload_n hx hb dX12_restore_0 rfl (lv_at hl 0 rfl) ?_
  refine lv_iconst (v := 0) hx hb dX12_restore_1 (by decide) ?_
  refine va_put (D := D) (ci := 12) (v := .int 0) (ty := .int) (C := RX12) (T := TX12) (N := 44) hx hb htg inX12 tyX12 tyX12_ok nmX12 hown hK.1 hP hD hS 0 rfl rfl 0 (by decide) (htg _ kw_1407) (fun _ h9 => h9) rfl (by decide +kernel) rfl rfl (Nat.le_of_ble_eq_true rfl) dX12_restore_2 (fun H locs hP hD hS => ?_)
  replace hP : va_P D vwCl [((a 0), .inr (12, ((.int 0) :: (.ref (ex 0)) :: (.int 0) :: (.int 0) :: (.int 0) :: (.int 0) :: (.ref (ex 1)) :: (.ref (ex 2)) :: (.ref (ex 3)) :: (.ref (ex 4)) :: (.ref (ex 5)) :: (.int 0) :: (.int 0) :: (.int 0) :: (.int 0) :: (.int 0) :: (.int 0) :: (.long 0) :: (.int 0) :: (.int 0) :: (.int 0) :: (.ref (ex 6)) :: (.ref (ex 7)) :: (.int 0) :: (.ref (ex 8)) :: (.int (-1)) :: (.int 0) :: (.int 0) :: (.int 0) :: (.int 0) :: (.int 0) :: (.int 0) :: (.ref (ex 9)) :: (.int 0) :: (.ref (ex 10)) :: (.int 0) :: (.int 0) :: (.int 0) :: (.int 0) :: (.int 0) :: (.ref (ex 11)) :: (.ref (ex 12)) :: (.ref (ex 13)) :: (.ref (a 1)) :: []))), ((a 1), .inl (T 3, 2, .inl (fun _ => 0)))] H := hP
  replace hD : va_D A [((a 0), .inr (12, ((.int 0) :: (.ref (ex 0)) :: (.int 0) :: (.int 0) :: (.int 0) :: (.int 0) :: (.ref (ex 1)) :: (.ref (ex 2)) :: (.ref (ex 3)) :: (.ref (ex 4)) :: (.ref (ex 5)) :: (.int 0) :: (.int 0) :: (.int 0) :: (.int 0) :: (.int 0) :: (.int 0) :: (.long 0) :: (.int 0) :: (.int 0) :: (.int 0) :: (.ref (ex 6)) :: (.ref (ex 7)) :: (.int 0) :: (.ref (ex 8)) :: (.int (-1)) :: (.int 0) :: (.int 0) :: (.int 0) :: (.int 0) :: (.int 0) :: (.int 0) :: (.ref (ex 9)) :: (.int 0) :: (.ref (ex 10)) :: (.int 0) :: (.int 0) :: (.int 0) :: (.int 0) :: (.int 0) :: (.ref (ex 11)) :: (.ref (ex 12)) :: (.ref (ex 13)) :: (.ref (a 1)) :: []))), ((a 1), .inl (T 3, 2, .inl (fun _ => 0)))] := hD
  refine lv_iload_n hx hb dX12_restore_5 rfl (lv_at hl 1 rfl) ?_
  refine lv_iconst (v := 0) hx hb dX12_restore_6 (by decide) ?_
  refine lv_iconst (v := 1) hx hb dX12_restore_7 (by decide) ?_
  have hPc := hP.sub (ws' := (pre_X12_isIn_9 T (xa []) (xa []) (xf []) (xh []) (xv []))) [] rfl
  have hDc := hD.sub (ws' := (pre_X12_isIn_9 T (xa []) (xa []) (xf []) (xh []) (xv []))) [] (by decide) rfl
  have hFc := va_free (wc := (pre_X12_isIn_9 T (xa []) (xa []) (xf []) (xh []) (xv []))) hD hS hA [] rfl
  refine va_calli (va_runS (As := [.int 1, .int 0, .int 1]) (rest := []) ⟨hx, hb, hml, hown, htg⟩ (c_X12_isIn_9 l D T (xa []) (xa []) (xf []) (xh []) (xv []) H.size) ⟨callB_of 3 htg (xg_ok kw_1597) rfl rfl rfl (htg _ kw_17) (htg _ kw_1595) (by decide +kernel) ⟨by rw [hR]; exact Nat.le_of_ble_eq_true rfl, by rw [hR]; exact Nat.le_of_ble_eq_true rfl⟩, htg _ kw_1596⟩ (xpreS hK hPc hDc) rfl rfl hl.1 rfl (lv_room (Nat.le_of_ble_eq_true rfl)) dX12_restore_8 ⟨by rw [hR]; exact Nat.le_of_ble_eq_true rfl, by rw [hR]; exact Nat.le_of_ble_eq_true rfl⟩) hS (fun q _ h => hFc q h) hFc (fun r9 u t H1 locs ht hvm hw hB hz1 hk1 hS => ?_)
  obtain ⟨bk, fik, flk, vik, hP1, hD1, hGk⟩ := hB
  rw [ht] at hP1
  obtain ⟨hP, hD⟩ := va_join (wr := [((a 0), .inr (12, ((.int 0) :: (.ref (ex 0)) :: (.int 0) :: (.int 0) :: (.int 0) :: (.int 0) :: (.ref (ex 1)) :: (.ref (ex 2)) :: (.ref (ex 3)) :: (.ref (ex 4)) :: (.ref (ex 5)) :: (.int 0) :: (.int 0) :: (.int 0) :: (.int 0) :: (.int 0) :: (.int 0) :: (.long 0) :: (.int 0) :: (.int 0) :: (.int 0) :: (.ref (ex 6)) :: (.ref (ex 7)) :: (.int 0) :: (.ref (ex 8)) :: (.int (-1)) :: (.int 0) :: (.int 0) :: (.int 0) :: (.int 0) :: (.int 0) :: (.int 0) :: (.ref (ex 9)) :: (.int 0) :: (.ref (ex 10)) :: (.int 0) :: (.int 0) :: (.int 0) :: (.int 0) :: (.int 0) :: (.ref (ex 11)) :: (.ref (ex 12)) :: (.ref (ex 13)) :: (.ref (a 1)) :: []))), ((a 1), .inl (T 3, 2, .inl (fun _ => 0)))]) (w1 := []) hP hD [] [0, 1] rfl rfl (by decide) (by decide) hk1 hFc hP1 hD1
  subst hw
  clear hPc hDc hFc hP1 hD1 hk1 hz1 hvm ht
  generalize H1 = H at hP hS ⊢
  replace hP : va_P D vwCl [((a 0), .inr (12, ((.int 0) :: (.ref (ex 0)) :: (.int 0) :: (.int 0) :: (.int 0) :: (.int 0) :: (.ref (ex 1)) :: (.ref (ex 2)) :: (.ref (ex 3)) :: (.ref (ex 4)) :: (.ref (ex 5)) :: (.int 0) :: (.int 0) :: (.int 0) :: (.int 0) :: (.int 0) :: (.int 0) :: (.long 0) :: (.int 0) :: (.int 0) :: (.int 0) :: (.ref (ex 6)) :: (.ref (ex 7)) :: (.int 0) :: (.ref (ex 8)) :: (.int (-1)) :: (.int 0) :: (.int 0) :: (.int 0) :: (.int 0) :: (.int 0) :: (.int 0) :: (.ref (ex 9)) :: (.int 0) :: (.ref (ex 10)) :: (.int 0) :: (.int 0) :: (.int 0) :: (.int 0) :: (.int 0) :: (.ref (ex 11)) :: (.ref (ex 12)) :: (.ref (ex 13)) :: (.ref (a 1)) :: []))), ((a 1), .inl (T 3, 2, .inl (fun _ => 0)))] H := hP
  replace hD : va_D A [((a 0), .inr (12, ((.int 0) :: (.ref (ex 0)) :: (.int 0) :: (.int 0) :: (.int 0) :: (.int 0) :: (.ref (ex 1)) :: (.ref (ex 2)) :: (.ref (ex 3)) :: (.ref (ex 4)) :: (.ref (ex 5)) :: (.int 0) :: (.int 0) :: (.int 0) :: (.int 0) :: (.int 0) :: (.int 0) :: (.long 0) :: (.int 0) :: (.int 0) :: (.int 0) :: (.ref (ex 6)) :: (.ref (ex 7)) :: (.int 0) :: (.ref (ex 8)) :: (.int (-1)) :: (.int 0) :: (.int 0) :: (.int 0) :: (.int 0) :: (.int 0) :: (.int 0) :: (.ref (ex 9)) :: (.int 0) :: (.ref (ex 10)) :: (.int 0) :: (.int 0) :: (.int 0) :: (.int 0) :: (.int 0) :: (.ref (ex 11)) :: (.ref (ex 12)) :: (.ref (ex 13)) :: (.ref (a 1)) :: []))), ((a 1), .inl (T 3, 2, .inl (fun _ => 0)))] := hD
  refine lv_if_eq (tgt := 23) hx hb dX12_restore_11 (by decide) (fun c => absurd c (by decide)) (fun _ => ?_)
  refine lv_aload_n hx hb dX12_restore_14 rfl (lv_at hl 0 rfl) ?_
  refine va_get (D := D) (ci := 12) (v := .ref (a 1)) (C := RX12) (T := TX12) (N := 44) hx hb htg inX12 hown hK.1 hP 0 rfl rfl 43 (by decide) (htg _ kw_1450) (fun _ h9 => h9) rfl dX12_restore_15 ?_
  refine lv_iload_n hx hb dX12_restore_18 rfl (lv_at hl 1 rfl) ?_
  refine va_zald hx hb hK.1 hP 1 3 rfl rfl (vp_in_nI (n := 1) (by decide) (by decide)) dX12_restore_19 ?_
  refine xz_i 0 rfl ?_
  refine lv_if_ne (tgt := 25) hx hb dX12_restore_20 (by decide) (fun c => absurd (by decide) c) (fun _ => ?_)
  refine lv_iconst (v := 0) hx hb dX12_restore_23 (by decide) ?_
  have hP9 := hP.sub (ws' := []) [] rfl
  have hD9 := hD.sub (ws' := []) [] (by decide) rfl
  rw [hQ]
  exact W.zret (v := 0) hx hb hr rfl (fun t ht hW => ⟨⟨0, (), rfl, rfl, ⟨xa [], xf [], xh [], xv [], by rw [ht]; exact hP9, hD9, trivial⟩⟩, hS.F ht⟩) hS.2.2 dX12_restore_24
abbrev pre_X12_restore_3 (T : Nat → ClassId) (a ex : Nat → Nat) (fi : Nat → Nat → Int32) (fl : Nat → Nat → Int64) (vi : Nat → Int32) : va_W := [((a 0), .inr (12, ((.int 0) :: (.ref (ex 0)) :: (.int 0) :: (.int 0) :: (.int 0) :: (.int 0) :: (.ref (ex 1)) :: (.ref (ex 2)) :: (.ref (ex 3)) :: (.ref (ex 4)) :: (.ref (ex 5)) :: (.int 0) :: (.int 0) :: (.int 0) :: (.int 0) :: (.int 0) :: (.int 0) :: (.long 0) :: (.int 0) :: (.int 0) :: (.int 0) :: (.ref (ex 6)) :: (.ref (ex 7)) :: (.int 0) :: (.ref (ex 8)) :: (.int (-1)) :: (.int 0) :: (.int 0) :: (.int 0) :: (.int 0) :: (.int 0) :: (.int 0) :: (.ref (ex 9)) :: (.int 0) :: (.ref (ex 10)) :: (.int 0) :: (.int 0) :: (.int 0) :: (.int 0) :: (.int 0) :: (.ref (ex 11)) :: (.ref (ex 12)) :: (.ref (ex 13)) :: (.ref (ex 14)) :: [])))]
set_option maxHeartbeats 4000000 in
set_option maxRecDepth 100000 in
theorem c_X12_restore_3 (l : Launch) (D : va_G) (T : Nat → ClassId) (a ex : Nat → Nat) (fi : Nat → Nat → Int32) (fl : Nat → Nat → Int64) (vi : Nat → Int32) (sz : Nat) (hd0 : (vi 0).toInt ≤ -1 ∨ 2 ≤ (vi 0).toInt) : Met l yX12_restore (xw yX12_restore cX12_restore 3 (some .boolean)) ({ frames := 1, cells := 0, slots := 0, locals := 26 }) (xP D T [.ref (a 0), .int (vi 0)] sz (pre_X12_restore_3 T a ex fi fl vi)) (va_Qi (fun r (_ : Unit) => r = 0) (xB D (va_A (pre_X12_restore_3 T a ex fi fl vi) sz) (fun _ => True) (fun b fj fm vj => [])) (va_A (pre_X12_restore_3 T a ex fi fl vi) sz)) 0 0 (va_A (pre_X12_restore_3 T a ex fi fl vi) sz) := by
  refine xofW (cc := cX12_restore) (maxL := 3) (ret := (some .boolean)) (by decide) rfl ?_
  intro p e s m args below meth c s₁ R Q hR hQ B hml hv
  obtain ⟨rfl, hsz, hP, hK, hD0⟩ := hv
  have hx := B.exec
  have hb := B.bytes
  have hr := B.returns
  have hts := atoms_spec (ws := xw yX12_restore cX12_restore 3 (some .boolean)) B.pre
  have htg : ∀ w ∈ xg, w.before _ s = true := fun w h => hts w (List.mem_cons_of_mem _ h)
  have hown : s.vm.findClass RX12 = some m.cls := findClass_of_methodNamed B.named
  have hlocks := B.notSynchronized
  subst hsz
  have hD := hD0.self (sz := s.heap.size)
  generalize hAe : va_A (pre_X12_restore_3 T a ex fi fl vi) s.heap.size = A at hD hQ
  have hA : ∀ q : Nat, s.heap.size ≤ q → A q := fun q h => by rw [← hAe]; exact Or.inr h
  have hS : va_S A s.heap s.heap [] := va_S.rf
  replace hP : va_P D vwCl [((a 0), .inr (12, ((.int 0) :: (.ref (ex 0)) :: (.int 0) :: (.int 0) :: (.int 0) :: (.int 0) :: (.ref (ex 1)) :: (.ref (ex 2)) :: (.ref (ex 3)) :: (.ref (ex 4)) :: (.ref (ex 5)) :: (.int 0) :: (.int 0) :: (.int 0) :: (.int 0) :: (.int 0) :: (.int 0) :: (.long 0) :: (.int 0) :: (.int 0) :: (.int 0) :: (.ref (ex 6)) :: (.ref (ex 7)) :: (.int 0) :: (.ref (ex 8)) :: (.int (-1)) :: (.int 0) :: (.int 0) :: (.int 0) :: (.int 0) :: (.int 0) :: (.int 0) :: (.ref (ex 9)) :: (.int 0) :: (.ref (ex 10)) :: (.int 0) :: (.int 0) :: (.int 0) :: (.int 0) :: (.int 0) :: (.ref (ex 11)) :: (.ref (ex 12)) :: (.ref (ex 13)) :: (.ref (ex 14)) :: [])))] s.heap := hP
  replace hD : va_D A [((a 0), .inr (12, ((.int 0) :: (.ref (ex 0)) :: (.int 0) :: (.int 0) :: (.int 0) :: (.int 0) :: (.ref (ex 1)) :: (.ref (ex 2)) :: (.ref (ex 3)) :: (.ref (ex 4)) :: (.ref (ex 5)) :: (.int 0) :: (.int 0) :: (.int 0) :: (.int 0) :: (.int 0) :: (.int 0) :: (.long 0) :: (.int 0) :: (.int 0) :: (.int 0) :: (.ref (ex 6)) :: (.ref (ex 7)) :: (.int 0) :: (.ref (ex 8)) :: (.int (-1)) :: (.int 0) :: (.int 0) :: (.int 0) :: (.int 0) :: (.int 0) :: (.int 0) :: (.ref (ex 9)) :: (.int 0) :: (.ref (ex 10)) :: (.int 0) :: (.int 0) :: (.int 0) :: (.int 0) :: (.int 0) :: (.ref (ex 11)) :: (.ref (ex 12)) :: (.ref (ex 13)) :: (.ref (ex 14)) :: [])))] := hD
  have hl := lv_entry ([.ref (a 0), .int (vi 0)]) (n := 3) (Nat.le_of_ble_eq_true rfl)
  rw [lg_entry_eq]
  generalize (lg_sl ([.ref (a 0), .int (vi 0)]) ++ List.replicate (3 - (lg_sl ([.ref (a 0), .int (vi 0)])).length) Slot.unset).toArray = ls at hl ⊢
  replace hl : lv_has ls 3 [(0, .ref (a 0)), (1, .int (vi 0))] := hl
  refine lv_aload_n hx hb dX12_restore_0 rfl (lv_at hl 0 rfl) ?_
  refine lv_iconst (v := 0) hx hb dX12_restore_1 (by decide) ?_
  refine va_put (D := D) (ci := 12) (v := .int 0) (ty := .int) (C := RX12) (T := TX12) (N := 44) hx hb htg inX12 tyX12 tyX12_ok nmX12 hown hK.1 hP hD hS 0 rfl rfl 0 (by decide) (htg _ kw_1407) (fun _ h9 => h9) rfl (by decide +kernel) rfl rfl (Nat.le_of_ble_eq_true rfl) dX12_restore_2 (fun H locs hP hD hS => ?_)
  replace hP : va_P D vwCl [((a 0), .inr (12, ((.int 0) :: (.ref (ex 0)) :: (.int 0) :: (.int 0) :: (.int 0) :: (.int 0) :: (.ref (ex 1)) :: (.ref (ex 2)) :: (.ref (ex 3)) :: (.ref (ex 4)) :: (.ref (ex 5)) :: (.int 0) :: (.int 0) :: (.int 0) :: (.int 0) :: (.int 0) :: (.int 0) :: (.long 0) :: (.int 0) :: (.int 0) :: (.int 0) :: (.ref (ex 6)) :: (.ref (ex 7)) :: (.int 0) :: (.ref (ex 8)) :: (.int (-1)) :: (.int 0) :: (.int 0) :: (.int 0) :: (.int 0) :: (.int 0) :: (.int 0) :: (.ref (ex 9)) :: (.int 0) :: (.ref (ex 10)) :: (.int 0) :: (.int 0) :: (.int 0) :: (.int 0) :: (.int 0) :: (.ref (ex 11)) :: (.ref (ex 12)) :: (.ref (ex 13)) :: (.ref (ex 14)) :: [])))] H := hP
  replace hD : va_D A [((a 0), .inr (12, ((.int 0) :: (.ref (ex 0)) :: (.int 0) :: (.int 0) :: (.int 0) :: (.int 0) :: (.ref (ex 1)) :: (.ref (ex 2)) :: (.ref (ex 3)) :: (.ref (ex 4)) :: (.ref (ex 5)) :: (.int 0) :: (.int 0) :: (.int 0) :: (.int 0) :: (.int 0) :: (.int 0) :: (.long 0) :: (.int 0) :: (.int 0) :: (.int 0) :: (.ref (ex 6)) :: (.ref (ex 7)) :: (.int 0) :: (.ref (ex 8)) :: (.int (-1)) :: (.int 0) :: (.int 0) :: (.int 0) :: (.int 0) :: (.int 0) :: (.int 0) :: (.ref (ex 9)) :: (.int 0) :: (.ref (ex 10)) :: (.int 0) :: (.int 0) :: (.int 0) :: (.int 0) :: (.int 0) :: (.ref (ex 11)) :: (.ref (ex 12)) :: (.ref (ex 13)) :: (.ref (ex 14)) :: [])))] := hD
  refine lv_iload_n hx hb dX12_restore_5 rfl (lv_at hl 1 rfl) ?_
  refine lv_iconst (v := 0) hx hb dX12_restore_6 (by decide) ?_
  refine lv_iconst (v := 1) hx hb dX12_restore_7 (by decide) ?_
  have hPc := hP.sub (ws' := (pre_X12_isIn_10 T (xa []) (xa []) (xf []) (xh []) (xv [(vi 0)]))) [] rfl
  have hDc := hD.sub (ws' := (pre_X12_isIn_10 T (xa []) (xa []) (xf []) (xh []) (xv [(vi 0)]))) [] (by decide) rfl
  have hFc := va_free (wc := (pre_X12_isIn_10 T (xa []) (xa []) (xf []) (xh []) (xv [(vi 0)]))) hD hS hA [] rfl
  refine va_calli (va_runS (As := [.int (vi 0), .int 0, .int 1]) (rest := []) ⟨hx, hb, hml, hown, htg⟩ (c_X12_isIn_10 l D T (xa []) (xa []) (xf []) (xh []) (xv [(vi 0)]) H.size (by show ((vi 0) : Int32).toInt ≤ -1 ∨ 2 ≤ ((vi 0) : Int32).toInt; omega)) ⟨callB_of 3 htg (xg_ok kw_1597) rfl rfl rfl (htg _ kw_17) (htg _ kw_1595) (by decide +kernel) ⟨by rw [hR]; exact Nat.le_of_ble_eq_true rfl, by rw [hR]; exact Nat.le_of_ble_eq_true rfl⟩, htg _ kw_1596⟩ (xpreS hK hPc hDc) rfl rfl hl.1 rfl (lv_room (Nat.le_of_ble_eq_true rfl)) dX12_restore_8 ⟨by rw [hR]; exact Nat.le_of_ble_eq_true rfl, by rw [hR]; exact Nat.le_of_ble_eq_true rfl⟩) hS (fun q _ h => hFc q h) hFc (fun r9 u t H1 locs ht hvm hw hB hz1 hk1 hS => ?_)
  obtain ⟨bk, fik, flk, vik, hP1, hD1, hGk⟩ := hB
  rw [ht] at hP1
  obtain ⟨hP, hD⟩ := va_join (wr := [((a 0), .inr (12, ((.int 0) :: (.ref (ex 0)) :: (.int 0) :: (.int 0) :: (.int 0) :: (.int 0) :: (.ref (ex 1)) :: (.ref (ex 2)) :: (.ref (ex 3)) :: (.ref (ex 4)) :: (.ref (ex 5)) :: (.int 0) :: (.int 0) :: (.int 0) :: (.int 0) :: (.int 0) :: (.int 0) :: (.long 0) :: (.int 0) :: (.int 0) :: (.int 0) :: (.ref (ex 6)) :: (.ref (ex 7)) :: (.int 0) :: (.ref (ex 8)) :: (.int (-1)) :: (.int 0) :: (.int 0) :: (.int 0) :: (.int 0) :: (.int 0) :: (.int 0) :: (.ref (ex 9)) :: (.int 0) :: (.ref (ex 10)) :: (.int 0) :: (.int 0) :: (.int 0) :: (.int 0) :: (.int 0) :: (.ref (ex 11)) :: (.ref (ex 12)) :: (.ref (ex 13)) :: (.ref (ex 14)) :: [])))]) (w1 := []) hP hD [] [0] rfl rfl (by decide) (by decide) hk1 hFc hP1 hD1
  subst hw
  clear hPc hDc hFc hP1 hD1 hk1 hz1 hvm ht
  generalize H1 = H at hP hS ⊢
  replace hP : va_P D vwCl [((a 0), .inr (12, ((.int 0) :: (.ref (ex 0)) :: (.int 0) :: (.int 0) :: (.int 0) :: (.int 0) :: (.ref (ex 1)) :: (.ref (ex 2)) :: (.ref (ex 3)) :: (.ref (ex 4)) :: (.ref (ex 5)) :: (.int 0) :: (.int 0) :: (.int 0) :: (.int 0) :: (.int 0) :: (.int 0) :: (.long 0) :: (.int 0) :: (.int 0) :: (.int 0) :: (.ref (ex 6)) :: (.ref (ex 7)) :: (.int 0) :: (.ref (ex 8)) :: (.int (-1)) :: (.int 0) :: (.int 0) :: (.int 0) :: (.int 0) :: (.int 0) :: (.int 0) :: (.ref (ex 9)) :: (.int 0) :: (.ref (ex 10)) :: (.int 0) :: (.int 0) :: (.int 0) :: (.int 0) :: (.int 0) :: (.ref (ex 11)) :: (.ref (ex 12)) :: (.ref (ex 13)) :: (.ref (ex 14)) :: [])))] H := hP
  replace hD : va_D A [((a 0), .inr (12, ((.int 0) :: (.ref (ex 0)) :: (.int 0) :: (.int 0) :: (.int 0) :: (.int 0) :: (.ref (ex 1)) :: (.ref (ex 2)) :: (.ref (ex 3)) :: (.ref (ex 4)) :: (.ref (ex 5)) :: (.int 0) :: (.int 0) :: (.int 0) :: (.int 0) :: (.int 0) :: (.int 0) :: (.long 0) :: (.int 0) :: (.int 0) :: (.int 0) :: (.ref (ex 6)) :: (.ref (ex 7)) :: (.int 0) :: (.ref (ex 8)) :: (.int (-1)) :: (.int 0) :: (.int 0) :: (.int 0) :: (.int 0) :: (.int 0) :: (.int 0) :: (.ref (ex 9)) :: (.int 0) :: (.ref (ex 10)) :: (.int 0) :: (.int 0) :: (.int 0) :: (.int 0) :: (.int 0) :: (.ref (ex 11)) :: (.ref (ex 12)) :: (.ref (ex 13)) :: (.ref (ex 14)) :: [])))] := hD
  refine lv_if_eq (tgt := 23) hx hb dX12_restore_11 (by decide) (fun _ => ?_) (fun c => absurd (by decide) c)
  refine lv_iconst (v := 0) hx hb dX12_restore_23 (by decide) ?_
  have hP9 := hP.sub (ws' := []) [] rfl
  have hD9 := hD.sub (ws' := []) [] (by decide) rfl
  rw [hQ]
  exact W.zret (v := 0) hx hb hr rfl (fun t ht hW => ⟨⟨0, (), rfl, rfl, ⟨xa [], xf [], xh [], xv [], by rw [ht]; exact hP9, hD9, trivial⟩⟩, hS.F ht⟩) hS.2.2 dX12_restore_24
abbrev pre_X12_count (T : Nat → ClassId) (a ex : Nat → Nat) (fi : Nat → Nat → Int32) (fl : Nat → Nat → Int64) (vi : Nat → Int32) : va_W := [((a 0), .inr (12, ((.int 0) :: (.ref (ex 0)) :: (.int 0) :: (.int 0) :: (.int 0) :: (.int 0) :: (.ref (a 1)) :: (.ref (ex 1)) :: (.ref (ex 2)) :: (.ref (ex 3)) :: (.ref (ex 4)) :: (.int 0) :: (.int 0) :: (.int 0) :: (.int 0) :: (.int 0) :: (.int 0) :: (.long 0) :: (.int 0) :: (.int 0) :: (.int 0) :: (.ref (ex 5)) :: (.ref (ex 6)) :: (.int 0) :: (.ref (ex 7)) :: (.int (-1)) :: (.int 0) :: (.int 0) :: (.int 0) :: (.int 0) :: (.int 0) :: (.int 0) :: (.ref (ex 8)) :: (.int 0) :: (.ref (ex 9)) :: (.int 0) :: (.int 0) :: (.int 0) :: (.int 0) :: (.int 0) :: (.ref (ex 10)) :: (.ref (ex 11)) :: (.ref (ex 12)) :: (.ref (ex 13)) :: []))), ((a 1), .inl (T 1, 2187, .inl (fun _ => 0)))]
set_option maxHeartbeats 4000000 in
set_option maxRecDepth 100000 in
theorem c_X12_count (l : Launch) (D : va_G) (T : Nat → ClassId) (a ex : Nat → Nat) (fi : Nat → Nat → Int32) (fl : Nat → Nat → Int64) (vi : Nat → Int32) (sz : Nat) : Met l yX12_count (xw yX12_count cX12_count 2 (some .int)) ({ frames := 1, cells := 0, slots := 0, locals := 26 }) (xP D T [.ref (a 0), .int 0] sz (pre_X12_count T a ex fi fl vi)) (va_Qi (fun r (_ : Unit) => r = 0) (xB D (va_A (pre_X12_count T a ex fi fl vi) sz) (fun _ => True) (fun b fj fm vj => [])) (va_A (pre_X12_count T a ex fi fl vi) sz)) 0 0 (va_A (pre_X12_count T a ex fi fl vi) sz) := by
  refine xofW (cc := cX12_count) (maxL := 2) (ret := (some .int)) (by decide) rfl ?_
  intro p e s m args below meth c s₁ R Q hR hQ B hml hv
  obtain ⟨rfl, hsz, hP, hK, hD0⟩ := hv
  have hx := B.exec
  have hb := B.bytes
  have hr := B.returns
  have hts := atoms_spec (ws := xw yX12_count cX12_count 2 (some .int)) B.pre
  have htg : ∀ w ∈ xg, w.before _ s = true := fun w h => hts w (List.mem_cons_of_mem _ h)
  have hown : s.vm.findClass RX12 = some m.cls := findClass_of_methodNamed B.named
  have hlocks := B.notSynchronized
  subst hsz
  have hD := hD0.self (sz := s.heap.size)
  generalize hAe : va_A (pre_X12_count T a ex fi fl vi) s.heap.size = A at hD hQ
  have hA : ∀ q : Nat, s.heap.size ≤ q → A q := fun q h => by rw [← hAe]; exact Or.inr h
  have hS : va_S A s.heap s.heap [] := va_S.rf
  replace hP : va_P D vwCl [((a 0), .inr (12, ((.int 0) :: (.ref (ex 0)) :: (.int 0) :: (.int 0) :: (.int 0) :: (.int 0) :: (.ref (a 1)) :: (.ref (ex 1)) :: (.ref (ex 2)) :: (.ref (ex 3)) :: (.ref (ex 4)) :: (.int 0) :: (.int 0) :: (.int 0) :: (.int 0) :: (.int 0) :: (.int 0) :: (.long 0) :: (.int 0) :: (.int 0) :: (.int 0) :: (.ref (ex 5)) :: (.ref (ex 6)) :: (.int 0) :: (.ref (ex 7)) :: (.int (-1)) :: (.int 0) :: (.int 0) :: (.int 0) :: (.int 0) :: (.int 0) :: (.int 0) :: (.ref (ex 8)) :: (.int 0) :: (.ref (ex 9)) :: (.int 0) :: (.int 0) :: (.int 0) :: (.int 0) :: (.int 0) :: (.ref (ex 10)) :: (.ref (ex 11)) :: (.ref (ex 12)) :: (.ref (ex 13)) :: []))), ((a 1), .inl (T 1, 2187, .inl (fun _ => 0)))] s.heap := hP
  replace hD : va_D A [((a 0), .inr (12, ((.int 0) :: (.ref (ex 0)) :: (.int 0) :: (.int 0) :: (.int 0) :: (.int 0) :: (.ref (a 1)) :: (.ref (ex 1)) :: (.ref (ex 2)) :: (.ref (ex 3)) :: (.ref (ex 4)) :: (.int 0) :: (.int 0) :: (.int 0) :: (.int 0) :: (.int 0) :: (.int 0) :: (.long 0) :: (.int 0) :: (.int 0) :: (.int 0) :: (.ref (ex 5)) :: (.ref (ex 6)) :: (.int 0) :: (.ref (ex 7)) :: (.int (-1)) :: (.int 0) :: (.int 0) :: (.int 0) :: (.int 0) :: (.int 0) :: (.int 0) :: (.ref (ex 8)) :: (.int 0) :: (.ref (ex 9)) :: (.int 0) :: (.int 0) :: (.int 0) :: (.int 0) :: (.int 0) :: (.ref (ex 10)) :: (.ref (ex 11)) :: (.ref (ex 12)) :: (.ref (ex 13)) :: []))), ((a 1), .inl (T 1, 2187, .inl (fun _ => 0)))] := hD
  have hl := lv_entry ([.ref (a 0), .int 0]) (n := 2) (Nat.le_of_ble_eq_true rfl)
  rw [lg_entry_eq]
  generalize (lg_sl ([.ref (a 0), .int 0]) ++ List.replicate (2 - (lg_sl ([.ref (a 0), .int 0])).length) Slot.unset).toArray = ls at hl ⊢
  replace hl : lv_has ls 2 [(0, .ref (a 0)), (1, .int 0)] := hl
  refine lv_aload_n hx hb dX12_count_0 rfl (lv_at hl 0 rfl) ?_
  refine lv_iconst (v := 0) hx hb dX12_count_1 (by decide) ?_
  refine va_put (D := D) (ci := 12) (v := .int 0) (ty := .int) (C := RX12) (T := TX12) (N := 44) hx hb htg inX12 tyX12 tyX12_ok nmX12 hown hK.1 hP hD hS 0 rfl rfl 0 (by decide) (htg _ kw_1407) (fun _ h9 => h9) rfl (by decide +kernel) rfl rfl (Nat.le_of_ble_eq_true rfl) dX12_count_2 (fun H locs hP hD hS => ?_)
  replace hP : va_P D vwCl [((a 0), .inr (12, ((.int 0) :: (.ref (ex 0)) :: (.int 0) :: (.int 0) :: (.int 0) :: (.int 0) :: (.ref (a 1)) :: (.ref (ex 1)) :: (.ref (ex 2)) :: (.ref (ex 3)) :: (.ref (ex 4)) :: (.int 0) :: (.int 0) :: (.int 0) :: (.int 0) :: (.int 0) :: (.int 0) :: (.long 0) :: (.int 0) :: (.int 0) :: (.int 0) :: (.ref (ex 5)) :: (.ref (ex 6)) :: (.int 0) :: (.ref (ex 7)) :: (.int (-1)) :: (.int 0) :: (.int 0) :: (.int 0) :: (.int 0) :: (.int 0) :: (.int 0) :: (.ref (ex 8)) :: (.int 0) :: (.ref (ex 9)) :: (.int 0) :: (.int 0) :: (.int 0) :: (.int 0) :: (.int 0) :: (.ref (ex 10)) :: (.ref (ex 11)) :: (.ref (ex 12)) :: (.ref (ex 13)) :: []))), ((a 1), .inl (T 1, 2187, .inl (fun _ => 0)))] H := hP
  replace hD : va_D A [((a 0), .inr (12, ((.int 0) :: (.ref (ex 0)) :: (.int 0) :: (.int 0) :: (.int 0) :: (.int 0) :: (.ref (a 1)) :: (.ref (ex 1)) :: (.ref (ex 2)) :: (.ref (ex 3)) :: (.ref (ex 4)) :: (.int 0) :: (.int 0) :: (.int 0) :: (.int 0) :: (.int 0) :: (.int 0) :: (.long 0) :: (.int 0) :: (.int 0) :: (.int 0) :: (.ref (ex 5)) :: (.ref (ex 6)) :: (.int 0) :: (.ref (ex 7)) :: (.int (-1)) :: (.int 0) :: (.int 0) :: (.int 0) :: (.int 0) :: (.int 0) :: (.int 0) :: (.ref (ex 8)) :: (.int 0) :: (.ref (ex 9)) :: (.int 0) :: (.int 0) :: (.int 0) :: (.int 0) :: (.int 0) :: (.ref (ex 10)) :: (.ref (ex 11)) :: (.ref (ex 12)) :: (.ref (ex 13)) :: []))), ((a 1), .inl (T 1, 2187, .inl (fun _ => 0)))] := hD
  refine lv_iload_n hx hb dX12_count_5 rfl (lv_at hl 1 rfl) ?_
  refine lv_iconst (v := 2) hx hb dX12_count_6 (by decide) ?_
  refine lv_icmp_ne (tgt := 17) hx hb dX12_count_7 (by decide) (fun _ => ?_) (fun c => absurd c (by decide))
  refine lv_iload_n hx hb dX12_count_17 rfl (lv_at hl 1 rfl) ?_
  refine lv_iconst (v := 0) hx hb dX12_count_18 (by decide) ?_
  refine lv_iconst (v := 1) hx hb dX12_count_19 (by decide) ?_
  have hPc := hP.sub (ws' := (pre_X12_isIn_8 T (xa []) (xa []) (xf []) (xh []) (xv []))) [] rfl
  have hDc := hD.sub (ws' := (pre_X12_isIn_8 T (xa []) (xa []) (xf []) (xh []) (xv []))) [] (by decide) rfl
  have hFc := va_free (wc := (pre_X12_isIn_8 T (xa []) (xa []) (xf []) (xh []) (xv []))) hD hS hA [] rfl
  refine va_calli (va_runS (As := [.int 0, .int 0, .int 1]) (rest := []) ⟨hx, hb, hml, hown, htg⟩ (c_X12_isIn_8 l D T (xa []) (xa []) (xf []) (xh []) (xv []) H.size) ⟨callB_of 3 htg (xg_ok kw_1597) rfl rfl rfl (htg _ kw_17) (htg _ kw_1595) (by decide +kernel) ⟨by rw [hR]; exact Nat.le_of_ble_eq_true rfl, by rw [hR]; exact Nat.le_of_ble_eq_true rfl⟩, htg _ kw_1596⟩ (xpreS hK hPc hDc) rfl rfl hl.1 rfl (lv_room (Nat.le_of_ble_eq_true rfl)) dX12_count_20 ⟨by rw [hR]; exact Nat.le_of_ble_eq_true rfl, by rw [hR]; exact Nat.le_of_ble_eq_true rfl⟩) hS (fun q _ h => hFc q h) hFc (fun r9 u t H1 locs ht hvm hw hB hz1 hk1 hS => ?_)
  obtain ⟨bk, fik, flk, vik, hP1, hD1, hGk⟩ := hB
  rw [ht] at hP1
  obtain ⟨hP, hD⟩ := va_join (wr := [((a 0), .inr (12, ((.int 0) :: (.ref (ex 0)) :: (.int 0) :: (.int 0) :: (.int 0) :: (.int 0) :: (.ref (a 1)) :: (.ref (ex 1)) :: (.ref (ex 2)) :: (.ref (ex 3)) :: (.ref (ex 4)) :: (.int 0) :: (.int 0) :: (.int 0) :: (.int 0) :: (.int 0) :: (.int 0) :: (.long 0) :: (.int 0) :: (.int 0) :: (.int 0) :: (.ref (ex 5)) :: (.ref (ex 6)) :: (.int 0) :: (.ref (ex 7)) :: (.int (-1)) :: (.int 0) :: (.int 0) :: (.int 0) :: (.int 0) :: (.int 0) :: (.int 0) :: (.ref (ex 8)) :: (.int 0) :: (.ref (ex 9)) :: (.int 0) :: (.int 0) :: (.int 0) :: (.int 0) :: (.int 0) :: (.ref (ex 10)) :: (.ref (ex 11)) :: (.ref (ex 12)) :: (.ref (ex 13)) :: []))), ((a 1), .inl (T 1, 2187, .inl (fun _ => 0)))]) (w1 := []) hP hD [] [0, 1] rfl rfl (by decide) (by decide) hk1 hFc hP1 hD1
  subst hw
  clear hPc hDc hFc hP1 hD1 hk1 hz1 hvm ht
  generalize H1 = H at hP hS ⊢
  replace hP : va_P D vwCl [((a 0), .inr (12, ((.int 0) :: (.ref (ex 0)) :: (.int 0) :: (.int 0) :: (.int 0) :: (.int 0) :: (.ref (a 1)) :: (.ref (ex 1)) :: (.ref (ex 2)) :: (.ref (ex 3)) :: (.ref (ex 4)) :: (.int 0) :: (.int 0) :: (.int 0) :: (.int 0) :: (.int 0) :: (.int 0) :: (.long 0) :: (.int 0) :: (.int 0) :: (.int 0) :: (.ref (ex 5)) :: (.ref (ex 6)) :: (.int 0) :: (.ref (ex 7)) :: (.int (-1)) :: (.int 0) :: (.int 0) :: (.int 0) :: (.int 0) :: (.int 0) :: (.int 0) :: (.ref (ex 8)) :: (.int 0) :: (.ref (ex 9)) :: (.int 0) :: (.int 0) :: (.int 0) :: (.int 0) :: (.int 0) :: (.ref (ex 10)) :: (.ref (ex 11)) :: (.ref (ex 12)) :: (.ref (ex 13)) :: []))), ((a 1), .inl (T 1, 2187, .inl (fun _ => 0)))] H := hP
  replace hD : va_D A [((a 0), .inr (12, ((.int 0) :: (.ref (ex 0)) :: (.int 0) :: (.int 0) :: (.int 0) :: (.int 0) :: (.ref (a 1)) :: (.ref (ex 1)) :: (.ref (ex 2)) :: (.ref (ex 3)) :: (.ref (ex 4)) :: (.int 0) :: (.int 0) :: (.int 0) :: (.int 0) :: (.int 0) :: (.int 0) :: (.long 0) :: (.int 0) :: (.int 0) :: (.int 0) :: (.ref (ex 5)) :: (.ref (ex 6)) :: (.int 0) :: (.ref (ex 7)) :: (.int (-1)) :: (.int 0) :: (.int 0) :: (.int 0) :: (.int 0) :: (.int 0) :: (.int 0) :: (.ref (ex 8)) :: (.int 0) :: (.ref (ex 9)) :: (.int 0) :: (.int 0) :: (.int 0) :: (.int 0) :: (.int 0) :: (.ref (ex 10)) :: (.ref (ex 11)) :: (.ref (ex 12)) :: (.ref (ex 13)) :: []))), ((a 1), .inl (T 1, 2187, .inl (fun _ => 0)))] := hD
  refine lv_if_eq (tgt := 35) hx hb dX12_count_23 (by decide) (fun c => absurd c (by decide)) (fun _ => ?_)
  refine lv_aload_n hx hb dX12_count_26 rfl (lv_at hl 0 rfl) ?_
  refine va_get (D := D) (ci := 12) (v := .ref (a 1)) (C := RX12) (T := TX12) (N := 44) hx hb htg inX12 hown hK.1 hP 0 rfl rfl 6 (by decide) (htg _ kw_1413) (fun _ h9 => h9) rfl dX12_count_27 ?_
  refine lv_iload_n hx hb dX12_count_30 rfl (lv_at hl 1 rfl) ?_
  refine va_iald hx hb hK.1 hP 1 1 rfl rfl (vp_in_nI (n := 0) (by decide) (by decide)) dX12_count_31 ?_
  refine xz_i 0 rfl ?_
  refine lv_goto (tgt := 36) hx hb dX12_count_32 (by decide) ?_
  have hP9 := hP.sub (ws' := []) [] rfl
  have hD9 := hD.sub (ws' := []) [] (by decide) rfl
  rw [hQ]
  exact W.iret (v := 0) hx hb hr (fun t ht hW => ⟨⟨0, (), rfl, rfl, ⟨xa [], xf [], xh [], xv [], by rw [ht]; exact hP9, hD9, trivial⟩⟩, hS.F ht⟩) hS.2.2 dX12_count_36
abbrev pre_X12_count_2 (T : Nat → ClassId) (a ex : Nat → Nat) (fi : Nat → Nat → Int32) (fl : Nat → Nat → Int64) (vi : Nat → Int32) : va_W := [((a 0), .inr (12, ((.int 0) :: (.ref (ex 0)) :: (.int 0) :: (.int 0) :: (.int 0) :: (.int 0) :: (.ref (a 1)) :: (.ref (ex 1)) :: (.ref (ex 2)) :: (.ref (ex 3)) :: (.ref (ex 4)) :: (.int 0) :: (.int 0) :: (.int 0) :: (.int 0) :: (.int 0) :: (.int 0) :: (.long 0) :: (.int 0) :: (.int 0) :: (.int 0) :: (.ref (ex 5)) :: (.ref (ex 6)) :: (.int 0) :: (.ref (ex 7)) :: (.int (-1)) :: (.int 0) :: (.int 0) :: (.int 0) :: (.int 0) :: (.int 0) :: (.int 0) :: (.ref (ex 8)) :: (.int 0) :: (.ref (ex 9)) :: (.int 0) :: (.int 0) :: (.int 0) :: (.int 0) :: (.int 0) :: (.ref (ex 10)) :: (.ref (ex 11)) :: (.ref (ex 12)) :: (.ref (ex 13)) :: []))), ((a 1), .inl (T 1, 2187, .inl (fun _ => 0)))]
set_option maxHeartbeats 4000000 in
set_option maxRecDepth 100000 in
theorem c_X12_count_2 (l : Launch) (D : va_G) (T : Nat → ClassId) (a ex : Nat → Nat) (fi : Nat → Nat → Int32) (fl : Nat → Nat → Int64) (vi : Nat → Int32) (sz : Nat) : Met l yX12_count (xw yX12_count cX12_count 2 (some .int)) ({ frames := 1, cells := 0, slots := 0, locals := 26 }) (xP D T [.ref (a 0), .int 1] sz (pre_X12_count_2 T a ex fi fl vi)) (va_Qi (fun r (_ : Unit) => r = 0) (xB D (va_A (pre_X12_count_2 T a ex fi fl vi) sz) (fun _ => True) (fun b fj fm vj => [])) (va_A (pre_X12_count_2 T a ex fi fl vi) sz)) 0 0 (va_A (pre_X12_count_2 T a ex fi fl vi) sz) := by
  refine xofW (cc := cX12_count) (maxL := 2) (ret := (some .int)) (by decide) rfl ?_
  intro p e s m args below meth c s₁ R Q hR hQ B hml hv
  obtain ⟨rfl, hsz, hP, hK, hD0⟩ := hv
  have hx := B.exec
  have hb := B.bytes
  have hr := B.returns
  have hts := atoms_spec (ws := xw yX12_count cX12_count 2 (some .int)) B.pre
  have htg : ∀ w ∈ xg, w.before _ s = true := fun w h => hts w (List.mem_cons_of_mem _ h)
  have hown : s.vm.findClass RX12 = some m.cls := findClass_of_methodNamed B.named
  have hlocks := B.notSynchronized
  subst hsz
  have hD := hD0.self (sz := s.heap.size)
  generalize hAe : va_A (pre_X12_count_2 T a ex fi fl vi) s.heap.size = A at hD hQ
  have hA : ∀ q : Nat, s.heap.size ≤ q → A q := fun q h => by rw [← hAe]; exact Or.inr h
  have hS : va_S A s.heap s.heap [] := va_S.rf
  replace hP : va_P D vwCl [((a 0), .inr (12, ((.int 0) :: (.ref (ex 0)) :: (.int 0) :: (.int 0) :: (.int 0) :: (.int 0) :: (.ref (a 1)) :: (.ref (ex 1)) :: (.ref (ex 2)) :: (.ref (ex 3)) :: (.ref (ex 4)) :: (.int 0) :: (.int 0) :: (.int 0) :: (.int 0) :: (.int 0) :: (.int 0) :: (.long 0) :: (.int 0) :: (.int 0) :: (.int 0) :: (.ref (ex 5)) :: (.ref (ex 6)) :: (.int 0) :: (.ref (ex 7)) :: (.int (-1)) :: (.int 0) :: (.int 0) :: (.int 0) :: (.int 0) :: (.int 0) :: (.int 0) :: (.ref (ex 8)) :: (.int 0) :: (.ref (ex 9)) :: (.int 0) :: (.int 0) :: (.int 0) :: (.int 0) :: (.int 0) :: (.ref (ex 10)) :: (.ref (ex 11)) :: (.ref (ex 12)) :: (.ref (ex 13)) :: []))), ((a 1), .inl (T 1, 2187, .inl (fun _ => 0)))] s.heap := hP
  replace hD : va_D A [((a 0), .inr (12, ((.int 0) :: (.ref (ex 0)) :: (.int 0) :: (.int 0) :: (.int 0) :: (.int 0) :: (.ref (a 1)) :: (.ref (ex 1)) :: (.ref (ex 2)) :: (.ref (ex 3)) :: (.ref (ex 4)) :: (.int 0) :: (.int 0) :: (.int 0) :: (.int 0) :: (.int 0) :: (.int 0) :: (.long 0) :: (.int 0) :: (.int 0) :: (.int 0) :: (.ref (ex 5)) :: (.ref (ex 6)) :: (.int 0) :: (.ref (ex 7)) :: (.int (-1)) :: (.int 0) :: (.int 0) :: (.int 0) :: (.int 0) :: (.int 0) :: (.int 0) :: (.ref (ex 8)) :: (.int 0) :: (.ref (ex 9)) :: (.int 0) :: (.int 0) :: (.int 0) :: (.int 0) :: (.int 0) :: (.ref (ex 10)) :: (.ref (ex 11)) :: (.ref (ex 12)) :: (.ref (ex 13)) :: []))), ((a 1), .inl (T 1, 2187, .inl (fun _ => 0)))] := hD
  have hl := lv_entry ([.ref (a 0), .int 1]) (n := 2) (Nat.le_of_ble_eq_true rfl)
  rw [lg_entry_eq]
  generalize (lg_sl ([.ref (a 0), .int 1]) ++ List.replicate (2 - (lg_sl ([.ref (a 0), .int 1])).length) Slot.unset).toArray = ls at hl ⊢
  replace hl : lv_has ls 2 [(0, .ref (a 0)), (1, .int 1)] := hl
  refine lv_aload_n hx hb dX12_count_0 rfl (lv_at hl 0 rfl) ?_
  refine lv_iconst (v := 0) hx hb dX12_count_1 (by decide) ?_
  refine va_put (D := D) (ci := 12) (v := .int 0) (ty := .int) (C := RX12) (T := TX12) (N := 44) hx hb htg inX12 tyX12 tyX12_ok nmX12 hown hK.1 hP hD hS 0 rfl rfl 0 (by decide) (htg _ kw_1407) (fun _ h9 => h9) rfl (by decide +kernel) rfl rfl (Nat.le_of_ble_eq_true rfl) dX12_count_2 (fun H locs hP hD hS => ?_)
  replace hP : va_P D vwCl [((a 0), .inr (12, ((.int 0) :: (.ref (ex 0)) :: (.int 0) :: (.int 0) :: (.int 0) :: (.int 0) :: (.ref (a 1)) :: (.ref (ex 1)) :: (.ref (ex 2)) :: (.ref (ex 3)) :: (.ref (ex 4)) :: (.int 0) :: (.int 0) :: (.int 0) :: (.int 0) :: (.int 0) :: (.int 0) :: (.long 0) :: (.int 0) :: (.int 0) :: (.int 0) :: (.ref (ex 5)) :: (.ref (ex 6)) :: (.int 0) :: (.ref (ex 7)) :: (.int (-1)) :: (.int 0) :: (.int 0) :: (.int 0) :: (.int 0) :: (.int 0) :: (.int 0) :: (.ref (ex 8)) :: (.int 0) :: (.ref (ex 9)) :: (.int 0) :: (.int 0) :: (.int 0) :: (.int 0) :: (.int 0) :: (.ref (ex 10)) :: (.ref (ex 11)) :: (.ref (ex 12)) :: (.ref (ex 13)) :: []))), ((a 1), .inl (T 1, 2187, .inl (fun _ => 0)))] H := hP
  replace hD : va_D A [((a 0), .inr (12, ((.int 0) :: (.ref (ex 0)) :: (.int 0) :: (.int 0) :: (.int 0) :: (.int 0) :: (.ref (a 1)) :: (.ref (ex 1)) :: (.ref (ex 2)) :: (.ref (ex 3)) :: (.ref (ex 4)) :: (.int 0) :: (.int 0) :: (.int 0) :: (.int 0) :: (.int 0) :: (.int 0) :: (.long 0) :: (.int 0) :: (.int 0) :: (.int 0) :: (.ref (ex 5)) :: (.ref (ex 6)) :: (.int 0) :: (.ref (ex 7)) :: (.int (-1)) :: (.int 0) :: (.int 0) :: (.int 0) :: (.int 0) :: (.int 0) :: (.int 0) :: (.ref (ex 8)) :: (.int 0) :: (.ref (ex 9)) :: (.int 0) :: (.int 0) :: (.int 0) :: (.int 0) :: (.int 0) :: (.ref (ex 10)) :: (.ref (ex 11)) :: (.ref (ex 12)) :: (.ref (ex 13)) :: []))), ((a 1), .inl (T 1, 2187, .inl (fun _ => 0)))] := hD
  refine lv_iload_n hx hb dX12_count_5 rfl (lv_at hl 1 rfl) ?_
  refine lv_iconst (v := 2) hx hb dX12_count_6 (by decide) ?_
  refine lv_icmp_ne (tgt := 17) hx hb dX12_count_7 (by decide) (fun _ => ?_) (fun c => absurd c (by decide))
  refine lv_iload_n hx hb dX12_count_17 rfl (lv_at hl 1 rfl) ?_
  refine lv_iconst (v := 0) hx hb dX12_count_18 (by decide) ?_
  refine lv_iconst (v := 1) hx hb dX12_count_19 (by decide) ?_
  have hPc := hP.sub (ws' := (pre_X12_isIn_9 T (xa []) (xa []) (xf []) (xh []) (xv []))) [] rfl
  have hDc := hD.sub (ws' := (pre_X12_isIn_9 T (xa []) (xa []) (xf []) (xh []) (xv []))) [] (by decide) rfl
  have hFc := va_free (wc := (pre_X12_isIn_9 T (xa []) (xa []) (xf []) (xh []) (xv []))) hD hS hA [] rfl
  refine va_calli (va_runS (As := [.int 1, .int 0, .int 1]) (rest := []) ⟨hx, hb, hml, hown, htg⟩ (c_X12_isIn_9 l D T (xa []) (xa []) (xf []) (xh []) (xv []) H.size) ⟨callB_of 3 htg (xg_ok kw_1597) rfl rfl rfl (htg _ kw_17) (htg _ kw_1595) (by decide +kernel) ⟨by rw [hR]; exact Nat.le_of_ble_eq_true rfl, by rw [hR]; exact Nat.le_of_ble_eq_true rfl⟩, htg _ kw_1596⟩ (xpreS hK hPc hDc) rfl rfl hl.1 rfl (lv_room (Nat.le_of_ble_eq_true rfl)) dX12_count_20 ⟨by rw [hR]; exact Nat.le_of_ble_eq_true rfl, by rw [hR]; exact Nat.le_of_ble_eq_true rfl⟩) hS (fun q _ h => hFc q h) hFc (fun r9 u t H1 locs ht hvm hw hB hz1 hk1 hS => ?_)
  obtain ⟨bk, fik, flk, vik, hP1, hD1, hGk⟩ := hB
  rw [ht] at hP1
  obtain ⟨hP, hD⟩ := va_join (wr := [((a 0), .inr (12, ((.int 0) :: (.ref (ex 0)) :: (.int 0) :: (.int 0) :: (.int 0) :: (.int 0) :: (.ref (a 1)) :: (.ref (ex 1)) :: (.ref (ex 2)) :: (.ref (ex 3)) :: (.ref (ex 4)) :: (.int 0) :: (.int 0) :: (.int 0) :: (.int 0) :: (.int 0) :: (.int 0) :: (.long 0) :: (.int 0) :: (.int 0) :: (.int 0) :: (.ref (ex 5)) :: (.ref (ex 6)) :: (.int 0) :: (.ref (ex 7)) :: (.int (-1)) :: (.int 0) :: (.int 0) :: (.int 0) :: (.int 0) :: (.int 0) :: (.int 0) :: (.ref (ex 8)) :: (.int 0) :: (.ref (ex 9)) :: (.int 0) :: (.int 0) :: (.int 0) :: (.int 0) :: (.int 0) :: (.ref (ex 10)) :: (.ref (ex 11)) :: (.ref (ex 12)) :: (.ref (ex 13)) :: []))), ((a 1), .inl (T 1, 2187, .inl (fun _ => 0)))]) (w1 := []) hP hD [] [0, 1] rfl rfl (by decide) (by decide) hk1 hFc hP1 hD1
  subst hw
  clear hPc hDc hFc hP1 hD1 hk1 hz1 hvm ht
  generalize H1 = H at hP hS ⊢
  replace hP : va_P D vwCl [((a 0), .inr (12, ((.int 0) :: (.ref (ex 0)) :: (.int 0) :: (.int 0) :: (.int 0) :: (.int 0) :: (.ref (a 1)) :: (.ref (ex 1)) :: (.ref (ex 2)) :: (.ref (ex 3)) :: (.ref (ex 4)) :: (.int 0) :: (.int 0) :: (.int 0) :: (.int 0) :: (.int 0) :: (.int 0) :: (.long 0) :: (.int 0) :: (.int 0) :: (.int 0) :: (.ref (ex 5)) :: (.ref (ex 6)) :: (.int 0) :: (.ref (ex 7)) :: (.int (-1)) :: (.int 0) :: (.int 0) :: (.int 0) :: (.int 0) :: (.int 0) :: (.int 0) :: (.ref (ex 8)) :: (.int 0) :: (.ref (ex 9)) :: (.int 0) :: (.int 0) :: (.int 0) :: (.int 0) :: (.int 0) :: (.ref (ex 10)) :: (.ref (ex 11)) :: (.ref (ex 12)) :: (.ref (ex 13)) :: []))), ((a 1), .inl (T 1, 2187, .inl (fun _ => 0)))] H := hP
  replace hD : va_D A [((a 0), .inr (12, ((.int 0) :: (.ref (ex 0)) :: (.int 0) :: (.int 0) :: (.int 0) :: (.int 0) :: (.ref (a 1)) :: (.ref (ex 1)) :: (.ref (ex 2)) :: (.ref (ex 3)) :: (.ref (ex 4)) :: (.int 0) :: (.int 0) :: (.int 0) :: (.int 0) :: (.int 0) :: (.int 0) :: (.long 0) :: (.int 0) :: (.int 0) :: (.int 0) :: (.ref (ex 5)) :: (.ref (ex 6)) :: (.int 0) :: (.ref (ex 7)) :: (.int (-1)) :: (.int 0) :: (.int 0) :: (.int 0) :: (.int 0) :: (.int 0) :: (.int 0) :: (.ref (ex 8)) :: (.int 0) :: (.ref (ex 9)) :: (.int 0) :: (.int 0) :: (.int 0) :: (.int 0) :: (.int 0) :: (.ref (ex 10)) :: (.ref (ex 11)) :: (.ref (ex 12)) :: (.ref (ex 13)) :: []))), ((a 1), .inl (T 1, 2187, .inl (fun _ => 0)))] := hD
  refine lv_if_eq (tgt := 35) hx hb dX12_count_23 (by decide) (fun c => absurd c (by decide)) (fun _ => ?_)
  refine lv_aload_n hx hb dX12_count_26 rfl (lv_at hl 0 rfl) ?_
  refine va_get (D := D) (ci := 12) (v := .ref (a 1)) (C := RX12) (T := TX12) (N := 44) hx hb htg inX12 hown hK.1 hP 0 rfl rfl 6 (by decide) (htg _ kw_1413) (fun _ h9 => h9) rfl dX12_count_27 ?_
  refine lv_iload_n hx hb dX12_count_30 rfl (lv_at hl 1 rfl) ?_
  refine va_iald hx hb hK.1 hP 1 1 rfl rfl (vp_in_nI (n := 1) (by decide) (by decide)) dX12_count_31 ?_
  refine xz_i 0 rfl ?_
  refine lv_goto (tgt := 36) hx hb dX12_count_32 (by decide) ?_
  have hP9 := hP.sub (ws' := []) [] rfl
  have hD9 := hD.sub (ws' := []) [] (by decide) rfl
  rw [hQ]
  exact W.iret (v := 0) hx hb hr (fun t ht hW => ⟨⟨0, (), rfl, rfl, ⟨xa [], xf [], xh [], xv [], by rw [ht]; exact hP9, hD9, trivial⟩⟩, hS.F ht⟩) hS.2.2 dX12_count_36
abbrev pre_X12_count_3 (T : Nat → ClassId) (a ex : Nat → Nat) (fi : Nat → Nat → Int32) (fl : Nat → Nat → Int64) (vi : Nat → Int32) : va_W := [((a 0), .inr (12, ((.int 0) :: (.ref (ex 0)) :: (.int 0) :: (.int 0) :: (.int 0) :: (.int 0) :: (.ref (ex 1)) :: (.ref (ex 2)) :: (.ref (ex 3)) :: (.ref (ex 4)) :: (.ref (ex 5)) :: (.int 0) :: (.int 0) :: (.int 0) :: (.int 0) :: (.int 0) :: (.int 0) :: (.long 0) :: (.int 0) :: (.int 0) :: (.int 0) :: (.ref (ex 6)) :: (.ref (ex 7)) :: (.int 0) :: (.ref (ex 8)) :: (.int (-1)) :: (.int 0) :: (.int 0) :: (.int 0) :: (.int 0) :: (.int 0) :: (.int 0) :: (.ref (ex 9)) :: (.int 0) :: (.ref (ex 10)) :: (.int 0) :: (.int 0) :: (.int 0) :: (.int 0) :: (.int 0) :: (.ref (ex 11)) :: (.ref (ex 12)) :: (.ref (ex 13)) :: (.ref (ex 14)) :: [])))]
set_option maxHeartbeats 4000000 in
set_option maxRecDepth 100000 in
theorem c_X12_count_3 (l : Launch) (D : va_G) (T : Nat → ClassId) (a ex : Nat → Nat) (fi : Nat → Nat → Int32) (fl : Nat → Nat → Int64) (vi : Nat → Int32) (sz : Nat) : Met l yX12_count (xw yX12_count cX12_count 2 (some .int)) ({ frames := 0, cells := 0, slots := 0, locals := 0 }) (xP D T [.ref (a 0), .int 2] sz (pre_X12_count_3 T a ex fi fl vi)) (va_Qi (fun r (_ : Unit) => r = 0) (xB D (va_A (pre_X12_count_3 T a ex fi fl vi) sz) (fun _ => True) (fun b fj fm vj => [])) (va_A (pre_X12_count_3 T a ex fi fl vi) sz)) 0 0 (va_A (pre_X12_count_3 T a ex fi fl vi) sz) := by
  refine xofW (cc := cX12_count) (maxL := 2) (ret := (some .int)) (by decide) rfl ?_
  intro p e s m args below meth c s₁ R Q hR hQ B hml hv
  obtain ⟨rfl, hsz, hP, hK, hD0⟩ := hv
  have hx := B.exec
  have hb := B.bytes
  have hr := B.returns
  have hts := atoms_spec (ws := xw yX12_count cX12_count 2 (some .int)) B.pre
  have htg : ∀ w ∈ xg, w.before _ s = true := fun w h => hts w (List.mem_cons_of_mem _ h)
  have hown : s.vm.findClass RX12 = some m.cls := findClass_of_methodNamed B.named
  have hlocks := B.notSynchronized
  subst hsz
  have hD := hD0.self (sz := s.heap.size)
  generalize hAe : va_A (pre_X12_count_3 T a ex fi fl vi) s.heap.size = A at hD hQ
  have hA : ∀ q : Nat, s.heap.size ≤ q → A q := fun q h => by rw [← hAe]; exact Or.inr h
  have hS : va_S A s.heap s.heap [] := va_S.rf
  replace hP : va_P D vwCl [((a 0), .inr (12, ((.int 0) :: (.ref (ex 0)) :: (.int 0) :: (.int 0) :: (.int 0) :: (.int 0) :: (.ref (ex 1)) :: (.ref (ex 2)) :: (.ref (ex 3)) :: (.ref (ex 4)) :: (.ref (ex 5)) :: (.int 0) :: (.int 0) :: (.int 0) :: (.int 0) :: (.int 0) :: (.int 0) :: (.long 0) :: (.int 0) :: (.int 0) :: (.int 0) :: (.ref (ex 6)) :: (.ref (ex 7)) :: (.int 0) :: (.ref (ex 8)) :: (.int (-1)) :: (.int 0) :: (.int 0) :: (.int 0) :: (.int 0) :: (.int 0) :: (.int 0) :: (.ref (ex 9)) :: (.int 0) :: (.ref (ex 10)) :: (.int 0) :: (.int 0) :: (.int 0) :: (.int 0) :: (.int 0) :: (.ref (ex 11)) :: (.ref (ex 12)) :: (.ref (ex 13)) :: (.ref (ex 14)) :: [])))] s.heap := hP
  replace hD : va_D A [((a 0), .inr (12, ((.int 0) :: (.ref (ex 0)) :: (.int 0) :: (.int 0) :: (.int 0) :: (.int 0) :: (.ref (ex 1)) :: (.ref (ex 2)) :: (.ref (ex 3)) :: (.ref (ex 4)) :: (.ref (ex 5)) :: (.int 0) :: (.int 0) :: (.int 0) :: (.int 0) :: (.int 0) :: (.int 0) :: (.long 0) :: (.int 0) :: (.int 0) :: (.int 0) :: (.ref (ex 6)) :: (.ref (ex 7)) :: (.int 0) :: (.ref (ex 8)) :: (.int (-1)) :: (.int 0) :: (.int 0) :: (.int 0) :: (.int 0) :: (.int 0) :: (.int 0) :: (.ref (ex 9)) :: (.int 0) :: (.ref (ex 10)) :: (.int 0) :: (.int 0) :: (.int 0) :: (.int 0) :: (.int 0) :: (.ref (ex 11)) :: (.ref (ex 12)) :: (.ref (ex 13)) :: (.ref (ex 14)) :: [])))] := hD
  have hl := lv_entry ([.ref (a 0), .int 2]) (n := 2) (Nat.le_of_ble_eq_true rfl)
  rw [lg_entry_eq]
  generalize (lg_sl ([.ref (a 0), .int 2]) ++ List.replicate (2 - (lg_sl ([.ref (a 0), .int 2])).length) Slot.unset).toArray = ls at hl ⊢
  replace hl : lv_has ls 2 [(0, .ref (a 0)), (1, .int 2)] := hl
  refine lv_aload_n hx hb dX12_count_0 rfl (lv_at hl 0 rfl) ?_
  refine lv_iconst (v := 0) hx hb dX12_count_1 (by decide) ?_
  refine va_put (D := D) (ci := 12) (v := .int 0) (ty := .int) (C := RX12) (T := TX12) (N := 44) hx hb htg inX12 tyX12 tyX12_ok nmX12 hown hK.1 hP hD hS 0 rfl rfl 0 (by decide) (htg _ kw_1407) (fun _ h9 => h9) rfl (by decide +kernel) rfl rfl (Nat.le_of_ble_eq_true rfl) dX12_count_2 (fun H locs hP hD hS => ?_)
  replace hP : va_P D vwCl [((a 0), .inr (12, ((.int 0) :: (.ref (ex 0)) :: (.int 0) :: (.int 0) :: (.int 0) :: (.int 0) :: (.ref (ex 1)) :: (.ref (ex 2)) :: (.ref (ex 3)) :: (.ref (ex 4)) :: (.ref (ex 5)) :: (.int 0) :: (.int 0) :: (.int 0) :: (.int 0) :: (.int 0) :: (.int 0) :: (.long 0) :: (.int 0) :: (.int 0) :: (.int 0) :: (.ref (ex 6)) :: (.ref (ex 7)) :: (.int 0) :: (.ref (ex 8)) :: (.int (-1)) :: (.int 0) :: (.int 0) :: (.int 0) :: (.int 0) :: (.int 0) :: (.int 0) :: (.ref (ex 9)) :: (.int 0) :: (.ref (ex 10)) :: (.int 0) :: (.int 0) :: (.int 0) :: (.int 0) :: (.int 0) :: (.ref (ex 11)) :: (.ref (ex 12)) :: (.ref (ex 13)) :: (.ref (ex 14)) :: [])))] H := hP
  replace hD : va_D A [((a 0), .inr (12, ((.int 0) :: (.ref (ex 0)) :: (.int 0) :: (.int 0) :: (.int 0) :: (.int 0) :: (.ref (ex 1)) :: (.ref (ex 2)) :: (.ref (ex 3)) :: (.ref (ex 4)) :: (.ref (ex 5)) :: (.int 0) :: (.int 0) :: (.int 0) :: (.int 0) :: (.int 0) :: (.int 0) :: (.long 0) :: (.int 0) :: (.int 0) :: (.int 0) :: (.ref (ex 6)) :: (.ref (ex 7)) :: (.int 0) :: (.ref (ex 8)) :: (.int (-1)) :: (.int 0) :: (.int 0) :: (.int 0) :: (.int 0) :: (.int 0) :: (.int 0) :: (.ref (ex 9)) :: (.int 0) :: (.ref (ex 10)) :: (.int 0) :: (.int 0) :: (.int 0) :: (.int 0) :: (.int 0) :: (.ref (ex 11)) :: (.ref (ex 12)) :: (.ref (ex 13)) :: (.ref (ex 14)) :: [])))] := hD
  refine lv_iload_n hx hb dX12_count_5 rfl (lv_at hl 1 rfl) ?_
  refine lv_iconst (v := 2) hx hb dX12_count_6 (by decide) ?_
  refine lv_icmp_ne (tgt := 17) hx hb dX12_count_7 (by decide) (fun c => absurd (by decide) c) (fun _ => ?_)
  refine lv_aload_n hx hb dX12_count_10 rfl (lv_at hl 0 rfl) ?_
  refine va_get (D := D) (ci := 12) (v := .int 0) (C := RX12) (T := TX12) (N := 44) hx hb htg inX12 hown hK.1 hP 0 rfl rfl 2 (by decide) (htg _ kw_1409) (fun _ h9 => h9) rfl dX12_count_11 ?_
  refine lv_goto (tgt := 36) hx hb dX12_count_14 (by decide) ?_
  have hP9 := hP.sub (ws' := []) [] rfl
  have hD9 := hD.sub (ws' := []) [] (by decide) rfl
  rw [hQ]
  exact W.iret (v := 0) hx hb hr (fun t ht hW => ⟨⟨0, (), rfl, rfl, ⟨xa [], xf [], xh [], xv [], by rw [ht]; exact hP9, hD9, trivial⟩⟩, hS.F ht⟩) hS.2.2 dX12_count_36
abbrev pre_X12_isIn_11 (T : Nat → ClassId) (a ex : Nat → Nat) (fi : Nat → Nat → Int32) (fl : Nat → Nat → Int64) (vi : Nat → Int32) : va_W := []
set_option maxHeartbeats 4000000 in
set_option maxRecDepth 100000 in
theorem c_X12_isIn_11 (l : Launch) (D : va_G) (T : Nat → ClassId) (a ex : Nat → Nat) (fi : Nat → Nat → Int32) (fl : Nat → Nat → Int64) (vi : Nat → Int32) (sz : Nat) (hd0 : (vi 0).toInt ≤ -1 ∨ 3 ≤ (vi 0).toInt) : Met l yX12_isIn (xw yX12_isIn cX12_isIn 3 (some .boolean)) ({ frames := 0, cells := 0, slots := 0, locals := 0 }) (xP D T [.int (vi 0), .int 0, .int 1] sz (pre_X12_isIn_11 T a ex fi fl vi)) (va_Qi (fun r (_ : Unit) => r = 0) (xB D (va_A (pre_X12_isIn_11 T a ex fi fl vi) sz) (fun _ => True) (fun b fj fm vj => [])) (va_A (pre_X12_isIn_11 T a ex fi fl vi) sz)) 0 0 (va_A (pre_X12_isIn_11 T a ex fi fl vi) sz) := by
  refine xofW (cc := cX12_isIn) (maxL := 3) (ret := (some .boolean)) (by decide) rfl ?_
  intro p e s m args below meth c s₁ R Q hR hQ B hml hv
  obtain ⟨rfl, hsz, hP, hK, hD0⟩ := hv
  have hx := B.exec
  have hb := B.bytes
  have hr := B.returns
  have hts := atoms_spec (ws := xw yX12_isIn cX12_isIn 3 (some .boolean)) B.pre
  have htg : ∀ w ∈ xg, w.before _ s = true := fun w h => hts w (List.mem_cons_of_mem _ h)
  have hown : s.vm.findClass RX12 = some m.cls := findClass_of_methodNamed B.named
  have hlocks := B.notSynchronized
  subst hsz
  have hD := hD0.self (sz := s.heap.size)
  generalize hAe : va_A (pre_X12_isIn_11 T a ex fi fl vi) s.heap.size = A at hD hQ
  have hA : ∀ q : Nat, s.heap.size ≤ q → A q := fun q h => by rw [← hAe]; exact Or.inr h
  have hS : va_S A s.heap s.heap [] := va_S.rf
  replace hP : va_P D vwCl [] s.heap := hP
  replace hD : va_D A [] := hD
  have hl := lv_entry ([.int (vi 0), .int 0, .int 1]) (n := 3) (Nat.le_of_ble_eq_true rfl)
  rw [lg_entry_eq]
  generalize (lg_sl ([.int (vi 0), .int 0, .int 1]) ++ List.replicate (3 - (lg_sl ([.int (vi 0), .int 0, .int 1])).length) Slot.unset).toArray = ls at hl ⊢
  replace hl : lv_has ls 3 [(0, .int (vi 0)), (1, .int 0), (2, .int 1)] := hl
  refine lv_iload_n hx hb dX12_isIn_0 rfl (lv_at hl 0 rfl) ?_
  refine lv_iload_n hx hb dX12_isIn_1 rfl (lv_at hl 1 rfl) ?_
  refine lv_icmp_lt (tgt := 14) hx hb dX12_isIn_2 (by decide) (fun c2 => ?_) (fun c2 => ?_)
  · have c2 := xlt (k := 0) (by decide) c2
    refine lv_iconst (v := 0) hx hb dX12_isIn_14 (by decide) ?_
    have hP9 := hP.sub (ws' := []) [] rfl
    have hD9 := hD.sub (ws' := []) [] (by decide +kernel) rfl
    rw [hQ]
    exact W.zret (v := 0) hx hb hr rfl (fun t ht hW => ⟨⟨0, (), rfl, rfl, ⟨xa [], xf [], xh [], xv [], by rw [ht]; exact hP9, hD9, trivial⟩⟩, hS.F ht⟩) hS.2.2 dX12_isIn_15
  · have c2 := xnlt (k := 0) (by decide) c2
    refine lv_iload_n hx hb dX12_isIn_5 rfl (lv_at hl 0 rfl) ?_
    refine lv_iload_n hx hb dX12_isIn_6 rfl (lv_at hl 2 rfl) ?_
    refine lv_icmp_gt (tgt := 14) hx hb dX12_isIn_7 (by decide) (fun _ => ?_) (fun c => by exfalso; have h9 := xngt (k := 1) (by decide) c; omega)
    refine lv_iconst (v := 0) hx hb dX12_isIn_14 (by decide) ?_
    have hP9 := hP.sub (ws' := []) [] rfl
    have hD9 := hD.sub (ws' := []) [] (by decide +kernel) rfl
    rw [hQ]
    exact W.zret (v := 0) hx hb hr rfl (fun t ht hW => ⟨⟨0, (), rfl, rfl, ⟨xa [], xf [], xh [], xv [], by rw [ht]; exact hP9, hD9, trivial⟩⟩, hS.F ht⟩) hS.2.2 dX12_isIn_15
abbrev pre_X12_count_4 (T : Nat → ClassId) (a ex : Nat → Nat) (fi : Nat → Nat → Int32) (fl : Nat → Nat → Int64) (vi : Nat → Int32) : va_W := [((a 0), .inr (12, ((.int 0) :: (.ref (ex 0)) :: (.int 0) :: (.int 0) :: (.int 0) :: (.int 0) :: (.ref (ex 1)) :: (.ref (ex 2)) :: (.ref (ex 3)) :: (.ref (ex 4)) :: (.ref (ex 5)) :: (.int 0) :: (.int 0) :: (.int 0) :: (.int 0) :: (.int 0) :: (.int 0) :: (.long 0) :: (.int 0) :: (.int 0) :: (.int 0) :: (.ref (ex 6)) :: (.ref (ex 7)) :: (.int 0) :: (.ref (ex 8)) :: (.int (-1)) :: (.int 0) :: (.int 0) :: (.int 0) :: (.int 0) :: (.int 0) :: (.int 0) :: (.ref (ex 9)) :: (.int 0) :: (.ref (ex 10)) :: (.int 0) :: (.int 0) :: (.int 0) :: (.int 0) :: (.int 0) :: (.ref (ex 11)) :: (.ref (ex 12)) :: (.ref (ex 13)) :: (.ref (ex 14)) :: [])))]
set_option maxHeartbeats 4000000 in
set_option maxRecDepth 100000 in
theorem c_X12_count_4 (l : Launch) (D : va_G) (T : Nat → ClassId) (a ex : Nat → Nat) (fi : Nat → Nat → Int32) (fl : Nat → Nat → Int64) (vi : Nat → Int32) (sz : Nat) (hd0 : (vi 0).toInt ≤ -1 ∨ 3 ≤ (vi 0).toInt) : Met l yX12_count (xw yX12_count cX12_count 2 (some .int)) ({ frames := 1, cells := 0, slots := 0, locals := 26 }) (xP D T [.ref (a 0), .int (vi 0)] sz (pre_X12_count_4 T a ex fi fl vi)) (va_Qi (fun r (_ : Unit) => r = (-1)) (xB D (va_A (pre_X12_count_4 T a ex fi fl vi) sz) (fun _ => True) (fun b fj fm vj => [])) (va_A (pre_X12_count_4 T a ex fi fl vi) sz)) 0 0 (va_A (pre_X12_count_4 T a ex fi fl vi) sz) := by
  refine xofW (cc := cX12_count) (maxL := 2) (ret := (some .int)) (by decide) rfl ?_
  intro p e s m args below meth c s₁ R Q hR hQ B hml hv
  obtain ⟨rfl, hsz, hP, hK, hD0⟩ := hv
  have hx := B.exec
  have hb := B.bytes
  have hr := B.returns
  have hts := atoms_spec (ws := xw yX12_count cX12_count 2 (some .int)) B.pre
  have htg : ∀ w ∈ xg, w.before _ s = true := fun w h => hts w (List.mem_cons_of_mem _ h)
  have hown : s.vm.findClass RX12 = some m.cls := findClass_of_methodNamed B.named
  have hlocks := B.notSynchronized
  subst hsz
  have hD := hD0.self (sz := s.heap.size)
  generalize hAe : va_A (pre_X12_count_4 T a ex fi fl vi) s.heap.size = A at hD hQ
  have hA : ∀ q : Nat, s.heap.size ≤ q → A q := fun q h => by rw [← hAe]; exact Or.inr h
  have hS : va_S A s.heap s.heap [] := va_S.rf
  replace hP : va_P D vwCl [((a 0), .inr (12, ((.int 0) :: (.ref (ex 0)) :: (.int 0) :: (.int 0) :: (.int 0) :: (.int 0) :: (.ref (ex 1)) :: (.ref (ex 2)) :: (.ref (ex 3)) :: (.ref (ex 4)) :: (.ref (ex 5)) :: (.int 0) :: (.int 0) :: (.int 0) :: (.int 0) :: (.int 0) :: (.int 0) :: (.long 0) :: (.int 0) :: (.int 0) :: (.int 0) :: (.ref (ex 6)) :: (.ref (ex 7)) :: (.int 0) :: (.ref (ex 8)) :: (.int (-1)) :: (.int 0) :: (.int 0) :: (.int 0) :: (.int 0) :: (.int 0) :: (.int 0) :: (.ref (ex 9)) :: (.int 0) :: (.ref (ex 10)) :: (.int 0) :: (.int 0) :: (.int 0) :: (.int 0) :: (.int 0) :: (.ref (ex 11)) :: (.ref (ex 12)) :: (.ref (ex 13)) :: (.ref (ex 14)) :: [])))] s.heap := hP
  replace hD : va_D A [((a 0), .inr (12, ((.int 0) :: (.ref (ex 0)) :: (.int 0) :: (.int 0) :: (.int 0) :: (.int 0) :: (.ref (ex 1)) :: (.ref (ex 2)) :: (.ref (ex 3)) :: (.ref (ex 4)) :: (.ref (ex 5)) :: (.int 0) :: (.int 0) :: (.int 0) :: (.int 0) :: (.int 0) :: (.int 0) :: (.long 0) :: (.int 0) :: (.int 0) :: (.int 0) :: (.ref (ex 6)) :: (.ref (ex 7)) :: (.int 0) :: (.ref (ex 8)) :: (.int (-1)) :: (.int 0) :: (.int 0) :: (.int 0) :: (.int 0) :: (.int 0) :: (.int 0) :: (.ref (ex 9)) :: (.int 0) :: (.ref (ex 10)) :: (.int 0) :: (.int 0) :: (.int 0) :: (.int 0) :: (.int 0) :: (.ref (ex 11)) :: (.ref (ex 12)) :: (.ref (ex 13)) :: (.ref (ex 14)) :: [])))] := hD
  have hl := lv_entry ([.ref (a 0), .int (vi 0)]) (n := 2) (Nat.le_of_ble_eq_true rfl)
  rw [lg_entry_eq]
  generalize (lg_sl ([.ref (a 0), .int (vi 0)]) ++ List.replicate (2 - (lg_sl ([.ref (a 0), .int (vi 0)])).length) Slot.unset).toArray = ls at hl ⊢
  replace hl : lv_has ls 2 [(0, .ref (a 0)), (1, .int (vi 0))] := hl
  refine lv_aload_n hx hb dX12_count_0 rfl (lv_at hl 0 rfl) ?_
  refine lv_iconst (v := 0) hx hb dX12_count_1 (by decide) ?_
  refine va_put (D := D) (ci := 12) (v := .int 0) (ty := .int) (C := RX12) (T := TX12) (N := 44) hx hb htg inX12 tyX12 tyX12_ok nmX12 hown hK.1 hP hD hS 0 rfl rfl 0 (by decide) (htg _ kw_1407) (fun _ h9 => h9) rfl (by decide +kernel) rfl rfl (Nat.le_of_ble_eq_true rfl) dX12_count_2 (fun H locs hP hD hS => ?_)
  replace hP : va_P D vwCl [((a 0), .inr (12, ((.int 0) :: (.ref (ex 0)) :: (.int 0) :: (.int 0) :: (.int 0) :: (.int 0) :: (.ref (ex 1)) :: (.ref (ex 2)) :: (.ref (ex 3)) :: (.ref (ex 4)) :: (.ref (ex 5)) :: (.int 0) :: (.int 0) :: (.int 0) :: (.int 0) :: (.int 0) :: (.int 0) :: (.long 0) :: (.int 0) :: (.int 0) :: (.int 0) :: (.ref (ex 6)) :: (.ref (ex 7)) :: (.int 0) :: (.ref (ex 8)) :: (.int (-1)) :: (.int 0) :: (.int 0) :: (.int 0) :: (.int 0) :: (.int 0) :: (.int 0) :: (.ref (ex 9)) :: (.int 0) :: (.ref (ex 10)) :: (.int 0) :: (.int 0) :: (.int 0) :: (.int 0) :: (.int 0) :: (.ref (ex 11)) :: (.ref (ex 12)) :: (.ref (ex 13)) :: (.ref (ex 14)) :: [])))] H := hP
  replace hD : va_D A [((a 0), .inr (12, ((.int 0) :: (.ref (ex 0)) :: (.int 0) :: (.int 0) :: (.int 0) :: (.int 0) :: (.ref (ex 1)) :: (.ref (ex 2)) :: (.ref (ex 3)) :: (.ref (ex 4)) :: (.ref (ex 5)) :: (.int 0) :: (.int 0) :: (.int 0) :: (.int 0) :: (.int 0) :: (.int 0) :: (.long 0) :: (.int 0) :: (.int 0) :: (.int 0) :: (.ref (ex 6)) :: (.ref (ex 7)) :: (.int 0) :: (.ref (ex 8)) :: (.int (-1)) :: (.int 0) :: (.int 0) :: (.int 0) :: (.int 0) :: (.int 0) :: (.int 0) :: (.ref (ex 9)) :: (.int 0) :: (.ref (ex 10)) :: (.int 0) :: (.int 0) :: (.int 0) :: (.int 0) :: (.int 0) :: (.ref (ex 11)) :: (.ref (ex 12)) :: (.ref (ex 13)) :: (.ref (ex 14)) :: [])))] := hD
  refine lv_iload_n hx hb dX12_count_5 rfl (lv_at hl 1 rfl) ?_
  refine lv_iconst (v := 2) hx hb dX12_count_6 (by decide) ?_
  refine lv_icmp_ne (tgt := 17) hx hb dX12_count_7 (by decide) (fun _ => ?_) (fun c => by exfalso; have h9 := xeq (k := 2) (by decide) c; omega)
  refine lv_iload_n hx hb dX12_count_17 rfl (lv_at hl 1 rfl) ?_
  refine lv_iconst (v := 0) hx hb dX12_count_18 (by decide) ?_
  refine lv_iconst (v := 1) hx hb dX12_count_19 (by decide) ?_
  have hPc := hP.sub (ws' := (pre_X12_isIn_11 T (xa []) (xa []) (xf []) (xh []) (xv [(vi 0)]))) [] rfl
  have hDc := hD.sub (ws' := (pre_X12_isIn_11 T (xa []) (xa []) (xf []) (xh []) (xv [(vi 0)]))) [] (by decide) rfl
  have hFc := va_free (wc := (pre_X12_isIn_11 T (xa []) (xa []) (xf []) (xh []) (xv [(vi 0)]))) hD hS hA [] rfl
  refine va_calli (va_runS (As := [.int (vi 0), .int 0, .int 1]) (rest := []) ⟨hx, hb, hml, hown, htg⟩ (c_X12_isIn_11 l D T (xa []) (xa []) (xf []) (xh []) (xv [(vi 0)]) H.size (by show ((vi 0) : Int32).toInt ≤ -1 ∨ 3 ≤ ((vi 0) : Int32).toInt; omega)) ⟨callB_of 3 htg (xg_ok kw_1597) rfl rfl rfl (htg _ kw_17) (htg _ kw_1595) (by decide +kernel) ⟨by rw [hR]; exact Nat.le_of_ble_eq_true rfl, by rw [hR]; exact Nat.le_of_ble_eq_true rfl⟩, htg _ kw_1596⟩ (xpreS hK hPc hDc) rfl rfl hl.1 rfl (lv_room (Nat.le_of_ble_eq_true rfl)) dX12_count_20 ⟨by rw [hR]; exact Nat.le_of_ble_eq_true rfl, by rw [hR]; exact Nat.le_of_ble_eq_true rfl⟩) hS (fun q _ h => hFc q h) hFc (fun r9 u t H1 locs ht hvm hw hB hz1 hk1 hS => ?_)
  obtain ⟨bk, fik, flk, vik, hP1, hD1, hGk⟩ := hB
  rw [ht] at hP1
  obtain ⟨hP, hD⟩ := va_join (wr := [((a 0), .inr (12, ((.int 0) :: (.ref (ex 0)) :: (.int 0) :: (.int 0) :: (.int 0) :: (.int 0) :: (.ref (ex 1)) :: (.ref (ex 2)) :: (.ref (ex 3)) :: (.ref (ex 4)) :: (.ref (ex 5)) :: (.int 0) :: (.int 0) :: (.int 0) :: (.int 0) :: (.int 0) :: (.int 0) :: (.long 0) :: (.int 0) :: (.int 0) :: (.int 0) :: (.ref (ex 6)) :: (.ref (ex 7)) :: (.int 0) :: (.ref (ex 8)) :: (.int (-1)) :: (.int 0) :: (.int 0) :: (.int 0) :: (.int 0) :: (.int 0) :: (.int 0) :: (.ref (ex 9)) :: (.int 0) :: (.ref (ex 10)) :: (.int 0) :: (.int 0) :: (.int 0) :: (.int 0) :: (.int 0) :: (.ref (ex 11)) :: (.ref (ex 12)) :: (.ref (ex 13)) :: (.ref (ex 14)) :: [])))]) (w1 := []) hP hD [] [0] rfl rfl (by decide) (by decide) hk1 hFc hP1 hD1
  subst hw
  clear hPc hDc hFc hP1 hD1 hk1 hz1 hvm ht
  generalize H1 = H at hP hS ⊢
  replace hP : va_P D vwCl [((a 0), .inr (12, ((.int 0) :: (.ref (ex 0)) :: (.int 0) :: (.int 0) :: (.int 0) :: (.int 0) :: (.ref (ex 1)) :: (.ref (ex 2)) :: (.ref (ex 3)) :: (.ref (ex 4)) :: (.ref (ex 5)) :: (.int 0) :: (.int 0) :: (.int 0) :: (.int 0) :: (.int 0) :: (.int 0) :: (.long 0) :: (.int 0) :: (.int 0) :: (.int 0) :: (.ref (ex 6)) :: (.ref (ex 7)) :: (.int 0) :: (.ref (ex 8)) :: (.int (-1)) :: (.int 0) :: (.int 0) :: (.int 0) :: (.int 0) :: (.int 0) :: (.int 0) :: (.ref (ex 9)) :: (.int 0) :: (.ref (ex 10)) :: (.int 0) :: (.int 0) :: (.int 0) :: (.int 0) :: (.int 0) :: (.ref (ex 11)) :: (.ref (ex 12)) :: (.ref (ex 13)) :: (.ref (ex 14)) :: [])))] H := hP
  replace hD : va_D A [((a 0), .inr (12, ((.int 0) :: (.ref (ex 0)) :: (.int 0) :: (.int 0) :: (.int 0) :: (.int 0) :: (.ref (ex 1)) :: (.ref (ex 2)) :: (.ref (ex 3)) :: (.ref (ex 4)) :: (.ref (ex 5)) :: (.int 0) :: (.int 0) :: (.int 0) :: (.int 0) :: (.int 0) :: (.int 0) :: (.long 0) :: (.int 0) :: (.int 0) :: (.int 0) :: (.ref (ex 6)) :: (.ref (ex 7)) :: (.int 0) :: (.ref (ex 8)) :: (.int (-1)) :: (.int 0) :: (.int 0) :: (.int 0) :: (.int 0) :: (.int 0) :: (.int 0) :: (.ref (ex 9)) :: (.int 0) :: (.ref (ex 10)) :: (.int 0) :: (.int 0) :: (.int 0) :: (.int 0) :: (.int 0) :: (.ref (ex 11)) :: (.ref (ex 12)) :: (.ref (ex 13)) :: (.ref (ex 14)) :: [])))] := hD
  refine lv_if_eq (tgt := 35) hx hb dX12_count_23 (by decide) (fun _ => ?_) (fun c => absurd (by decide) c)
  refine lv_iconst (v := (-1)) hx hb dX12_count_35 (by decide) ?_
  have hP9 := hP.sub (ws' := []) [] rfl
  have hD9 := hD.sub (ws' := []) [] (by decide) rfl
  rw [hQ]
  exact W.iret (v := (-1)) hx hb hr (fun t ht hW => ⟨⟨(-1), (), rfl, rfl, ⟨xa [], xf [], xh [], xv [], by rw [ht]; exact hP9, hD9, trivial⟩⟩, hS.F ht⟩) hS.2.2 dX12_count_36
abbrev pre_J0_coder_7d493 (T : Nat → ClassId) (a ex : Nat → Nat) (fi : Nat → Nat → Int32) (fl : Nat → Nat → Int64) (vi : Nat → Int32) : va_W := []
set_option maxHeartbeats 4000000 in
set_option maxRecDepth 100000 in
theorem c_J0_coder_7d493 (l : Launch) (D : va_G) (T : Nat → ClassId) (a ex : Nat → Nat) (fi : Nat → Nat → Int32) (fl : Nat → Nat → Int64) (vi : Nat → Int32) (kK kV : Nat → Nat) (sz : Nat) : Met l yJ0_coder_7d493 (xw yJ0_coder_7d493 cJ0_coder_7d493 1 (some .byte)) ({ frames := 0, cells := 0, slots := 0, locals := 0 }) (xPs D T kK kV [.ref (kK 0)] sz (pre_J0_coder_7d493 T a ex fi fl vi)) (va_Qi (fun r (_ : Unit) => r = 0) (xB D (va_A (pre_J0_coder_7d493 T a ex fi fl vi) sz) (fun _ => True) (fun b fj fm vj => [])) (va_A (pre_J0_coder_7d493 T a ex fi fl vi) sz)) 0 0 (va_A (pre_J0_coder_7d493 T a ex fi fl vi) sz) := by
  refine xofW (cc := cJ0_coder_7d493) (maxL := 1) (ret := (some .byte)) (by decide) rfl ?_
  intro p e s m args below meth c s₁ R Q hR hQ B hml hv
  obtain ⟨rfl, hsz, hP, hK, hD0, hT⟩ := hv
  have hx := B.exec
  have hb := B.bytes
  have hr := B.returns
  have hts := atoms_spec (ws := xw yJ0_coder_7d493 cJ0_coder_7d493 1 (some .byte)) B.pre
  have htg : ∀ w ∈ xg, w.before _ s = true := fun w h => hts w (List.mem_cons_of_mem _ h)
  have hown : s.vm.findClass RJ0 = some m.cls := findClass_of_methodNamed B.named
  have hlocks := B.notSynchronized
  subst hsz
  have hD := hD0.self (sz := s.heap.size)
  generalize hAe : va_A (pre_J0_coder_7d493 T a ex fi fl vi) s.heap.size = A at hD hQ hT
  have hA : ∀ q : Nat, s.heap.size ≤ q → A q := fun q h => by rw [← hAe]; exact Or.inr h
  have hS : va_S A s.heap s.heap [] := va_S.rf
  replace hP : va_P D vwCl [] s.heap := hP
  replace hD : va_D A [] := hD
  have hl := lv_entry ([.ref (kK 0)]) (n := 1) (Nat.le_of_ble_eq_true rfl)
  rw [lg_entry_eq]
  generalize (lg_sl ([.ref (kK 0)]) ++ List.replicate (1 - (lg_sl ([.ref (kK 0)])).length) Slot.unset).toArray = ls at hl ⊢
  replace hl : lv_has ls 1 [(0, .ref (kK 0))] := hl
  refine va_gets hx hb hT.2.2.1 hS hown (htg _ kw_52) (fun _ h9 => h9) dJ0_coder_7d493_0 ?_
  refine lv_if_eq (tgt := 13) hx hb dJ0_coder_7d493_3 (by decide) (fun c => absurd c (by decide)) (fun _ => ?_)
  refine lv_aload_n hx hb dJ0_coder_7d493_6 rfl (lv_at hl 0 rfl) ?_
  refine vk_getf hx hb (hT.2.1 0 (by decide)).2.1 hS hown (htg _ kw_2035) (fun _ h9 => h9) dJ0_coder_7d493_7 ?_
  refine lv_goto (tgt := 14) hx hb dJ0_coder_7d493_10 (by decide) ?_
  have hP9 := hP.sub (ws' := []) [] rfl
  have hD9 := hD.sub (ws' := []) [] (by decide +kernel) rfl
  rw [hQ]
  exact W.zret (v := 0) hx hb hr rfl (fun t ht hW => ⟨⟨0, (), rfl, rfl, ⟨xa [], xf [], xh [], xv [], by rw [ht]; exact hP9, hD9, trivial⟩⟩, hS.F ht⟩) hS.2.2 dJ0_coder_7d493_14
abbrev pre_J0_length_8abf5 (T : Nat → ClassId) (a ex : Nat → Nat) (fi : Nat → Nat → Int32) (fl : Nat → Nat → Int64) (vi : Nat → Int32) : va_W := []
set_option maxHeartbeats 4000000 in
set_option maxRecDepth 100000 in
theorem c_J0_length_8abf5 (l : Launch) (D : va_G) (T : Nat → ClassId) (a ex : Nat → Nat) (fi : Nat → Nat → Int32) (fl : Nat → Nat → Int64) (vi : Nat → Int32) (kK kV : Nat → Nat) (sz : Nat) : Met l yJ0_length_8abf5 (xw yJ0_length_8abf5 cJ0_length_8abf5 1 (some .int)) ({ frames := 1, cells := 0, slots := 0, locals := 24 }) (xPs D T kK kV [.ref (kK 0)] sz (pre_J0_length_8abf5 T a ex fi fl vi)) (va_Qi (fun r (_ : Unit) => r = 43) (xB D (va_A (pre_J0_length_8abf5 T a ex fi fl vi) sz) (fun _ => True) (fun b fj fm vj => [])) (va_A (pre_J0_length_8abf5 T a ex fi fl vi) sz)) 0 0 (va_A (pre_J0_length_8abf5 T a ex fi fl vi) sz) := by
  refine xofW (cc := cJ0_length_8abf5) (maxL := 1) (ret := (some .int)) (by decide) rfl ?_
  intro p e s m args below meth c s₁ R Q hR hQ B hml hv
  obtain ⟨rfl, hsz, hP, hK, hD0, hT⟩ := hv
  have hx := B.exec
  have hb := B.bytes
  have hr := B.returns
  have hts := atoms_spec (ws := xw yJ0_length_8abf5 cJ0_length_8abf5 1 (some .int)) B.pre
  have htg : ∀ w ∈ xg, w.before _ s = true := fun w h => hts w (List.mem_cons_of_mem _ h)
  have hown : s.vm.findClass RJ0 = some m.cls := findClass_of_methodNamed B.named
  have hlocks := B.notSynchronized
  subst hsz
  have hD := hD0.self (sz := s.heap.size)
  generalize hAe : va_A (pre_J0_length_8abf5 T a ex fi fl vi) s.heap.size = A at hD hQ hT
  have hA : ∀ q : Nat, s.heap.size ≤ q → A q := fun q h => by rw [← hAe]; exact Or.inr h
  have hS : va_S A s.heap s.heap [] := va_S.rf
  replace hP : va_P D vwCl [] s.heap := hP
  replace hD : va_D A [] := hD
  have hl := lv_entry ([.ref (kK 0)]) (n := 1) (Nat.le_of_ble_eq_true rfl)
  rw [lg_entry_eq]
  generalize (lg_sl ([.ref (kK 0)]) ++ List.replicate (1 - (lg_sl ([.ref (kK 0)])).length) Slot.unset).toArray = ls at hl ⊢
  replace hl : lv_has ls 1 [(0, .ref (kK 0))] := hl
  refine lv_aload_n hx hb dJ0_length_8abf5_0 rfl (lv_at hl 0 rfl) ?_
  refine vk_getf hx hb (hT.2.1 0 (by decide)).2.2.1 hS hown (htg _ kw_2034) (fun _ h9 => h9) dJ0_length_8abf5_1 ?_
  refine va_tlen (v := 43) hx hb (hT.2.1 0 (by decide)).2.2.2 hS (by decide) dJ0_length_8abf5_4 ?_
  refine lv_aload_n hx hb dJ0_length_8abf5_5 rfl (lv_at hl 0 rfl) ?_
  have hPc := hP.sub (ws' := (pre_J0_coder_7d493 T (xa []) (xa []) (xf []) (xh []) (xv []))) [] rfl
  have hDc := hD.sub (ws' := (pre_J0_coder_7d493 T (xa []) (xa []) (xf []) (xh []) (xv []))) [] (by decide) rfl
  have hFc := va_free (wc := (pre_J0_coder_7d493 T (xa []) (xa []) (xf []) (xh []) (xv []))) hD hS hA [] rfl
  refine va_calli (va_runV (As := []) (rest := [.int 43]) ⟨hx, hb, hml, hown, htg⟩ (c_J0_coder_7d493 l D T (xa []) (xa []) (xf []) (xh []) (xv []) kK kV s.heap.size) ⟨callB_of 0 htg (xg_ok kw_51) rfl rfl rfl (htg _ kw_3) (htg _ kw_48) (by decide +kernel) ⟨by rw [hR]; exact Nat.le_of_ble_eq_true rfl, by rw [hR]; exact Nat.le_of_ble_eq_true rfl⟩, htg _ kw_49, htg _ kw_50⟩ (xpreVs hK hPc hDc hT hFc hS (xT.recv hT 0 (by decide) hS)) rfl rfl hl.1 rfl (lv_room (Nat.le_of_ble_eq_true rfl)) dJ0_length_8abf5_6 ⟨by rw [hR]; exact Nat.le_of_ble_eq_true rfl, by rw [hR]; exact Nat.le_of_ble_eq_true rfl⟩) hS (fun q _ h => hFc q h) hFc (fun r9 u t H1 locs ht hvm hw hB hz1 hk1 hS => ?_)
  obtain ⟨bk, fik, flk, vik, hP1, hD1, hGk⟩ := hB
  rw [ht] at hP1
  obtain ⟨hP, hD⟩ := va_join (wr := []) (w1 := []) hP hD [] [] rfl rfl (by decide) (by decide) hk1 hFc hP1 hD1
  subst hw
  clear hPc hDc hFc hP1 hD1 hk1 hz1 hvm ht
  generalize H1 = H at hP hS ⊢
  replace hP : va_P D vwCl [] H := hP
  replace hD : va_D A [] := hD
  refine lv_ishr hx hb dJ0_length_8abf5_9 ?_
  refine xz_i 43 (by decide) ?_
  have hP9 := hP.sub (ws' := []) [] rfl
  have hD9 := hD.sub (ws' := []) [] (by decide +kernel) rfl
  rw [hQ]
  exact W.iret (v := 43) hx hb hr (fun t ht hW => ⟨⟨43, (), rfl, rfl, ⟨xa [], xf [], xh [], xv [], by rw [ht]; exact hP9, hD9, trivial⟩⟩, hS.F ht⟩) hS.2.2 dJ0_length_8abf5_10
abbrev pre_J0_isLatin1_aae02 (T : Nat → ClassId) (a ex : Nat → Nat) (fi : Nat → Nat → Int32) (fl : Nat → Nat → Int64) (vi : Nat → Int32) : va_W := []
set_option maxHeartbeats 4000000 in
set_option maxRecDepth 100000 in
theorem c_J0_isLatin1_aae02 (l : Launch) (D : va_G) (T : Nat → ClassId) (a ex : Nat → Nat) (fi : Nat → Nat → Int32) (fl : Nat → Nat → Int64) (vi : Nat → Int32) (kK kV : Nat → Nat) (sz : Nat) : Met l yJ0_isLatin1_aae02 (xw yJ0_isLatin1_aae02 cJ0_isLatin1_aae02 1 (some .boolean)) ({ frames := 0, cells := 0, slots := 0, locals := 0 }) (xPs D T kK kV [.ref (kK 0)] sz (pre_J0_isLatin1_aae02 T a ex fi fl vi)) (va_Qi (fun r (_ : Unit) => r = 1) (xB D (va_A (pre_J0_isLatin1_aae02 T a ex fi fl vi) sz) (fun _ => True) (fun b fj fm vj => [])) (va_A (pre_J0_isLatin1_aae02 T a ex fi fl vi) sz)) 0 0 (va_A (pre_J0_isLatin1_aae02 T a ex fi fl vi) sz) := by
  refine xofW (cc := cJ0_isLatin1_aae02) (maxL := 1) (ret := (some .boolean)) (by decide) rfl ?_
  intro p e s m args below meth c s₁ R Q hR hQ B hml hv
  obtain ⟨rfl, hsz, hP, hK, hD0, hT⟩ := hv
  have hx := B.exec
  have hb := B.bytes
  have hr := B.returns
  have hts := atoms_spec (ws := xw yJ0_isLatin1_aae02 cJ0_isLatin1_aae02 1 (some .boolean)) B.pre
  have htg : ∀ w ∈ xg, w.before _ s = true := fun w h => hts w (List.mem_cons_of_mem _ h)
  have hown : s.vm.findClass RJ0 = some m.cls := findClass_of_methodNamed B.named
  have hlocks := B.notSynchronized
  subst hsz
  have hD := hD0.self (sz := s.heap.size)
  generalize hAe : va_A (pre_J0_isLatin1_aae02 T a ex fi fl vi) s.heap.size = A at hD hQ hT
  have hA : ∀ q : Nat, s.heap.size ≤ q → A q := fun q h => by rw [← hAe]; exact Or.inr h
  have hS : va_S A s.heap s.heap [] := va_S.rf
  replace hP : va_P D vwCl [] s.heap := hP
  replace hD : va_D A [] := hD
  have hl := lv_entry ([.ref (kK 0)]) (n := 1) (Nat.le_of_ble_eq_true rfl)
  rw [lg_entry_eq]
  generalize (lg_sl ([.ref (kK 0)]) ++ List.replicate (1 - (lg_sl ([.ref (kK 0)])).length) Slot.unset).toArray = ls at hl ⊢
  replace hl : lv_has ls 1 [(0, .ref (kK 0))] := hl
  refine va_gets hx hb hT.2.2.1 hS hown (htg _ kw_52) (fun _ h9 => h9) dJ0_isLatin1_aae02_0 ?_
  refine lv_if_eq (tgt := 17) hx hb dJ0_isLatin1_aae02_3 (by decide) (fun c => absurd c (by decide)) (fun _ => ?_)
  refine lv_aload_n hx hb dJ0_isLatin1_aae02_6 rfl (lv_at hl 0 rfl) ?_
  refine vk_getf hx hb (hT.2.1 0 (by decide)).2.1 hS hown (htg _ kw_2035) (fun _ h9 => h9) dJ0_isLatin1_aae02_7 ?_
  refine lv_if_ne (tgt := 17) hx hb dJ0_isLatin1_aae02_10 (by decide) (fun c => absurd (by decide) c) (fun _ => ?_)
  refine lv_iconst (v := 1) hx hb dJ0_isLatin1_aae02_13 (by decide) ?_
  refine lv_goto (tgt := 18) hx hb dJ0_isLatin1_aae02_14 (by decide) ?_
  have hP9 := hP.sub (ws' := []) [] rfl
  have hD9 := hD.sub (ws' := []) [] (by decide +kernel) rfl
  rw [hQ]
  exact W.zret (v := 1) hx hb hr rfl (fun t ht hW => ⟨⟨1, (), rfl, rfl, ⟨xa [], xf [], xh [], xv [], by rw [ht]; exact hP9, hD9, trivial⟩⟩, hS.F ht⟩) hS.2.2 dJ0_isLatin1_aae02_18
abbrev pre_J3_checkIndex_8e157 (T : Nat → ClassId) (a ex : Nat → Nat) (fi : Nat → Nat → Int32) (fl : Nat → Nat → Int64) (vi : Nat → Int32) : va_W := []
set_option maxHeartbeats 4000000 in
set_option maxRecDepth 100000 in
theorem c_J3_checkIndex_8e157 (l : Launch) (D : va_G) (T : Nat → ClassId) (a ex : Nat → Nat) (fi : Nat → Nat → Int32) (fl : Nat → Nat → Int64) (vi : Nat → Int32) (sz : Nat) (hd0 : (0 ≤ (vi 0).toInt ∧ (vi 0).toInt ≤ 42)) : Met l yJ3_checkIndex_8e157 (xw yJ3_checkIndex_8e157 cJ3_checkIndex_8e157 3 (some .int)) ({ frames := 0, cells := 0, slots := 0, locals := 0 }) (xP D T [.int (vi 0), .int 43, .null] sz (pre_J3_checkIndex_8e157 T a ex fi fl vi)) (va_Qi (fun r (_ : Unit) => r = (vi 0)) (xB D (va_A (pre_J3_checkIndex_8e157 T a ex fi fl vi) sz) (fun _ => True) (fun b fj fm vj => [])) (va_A (pre_J3_checkIndex_8e157 T a ex fi fl vi) sz)) 0 0 (va_A (pre_J3_checkIndex_8e157 T a ex fi fl vi) sz) := by
  refine xofW (cc := cJ3_checkIndex_8e157) (maxL := 3) (ret := (some .int)) (by decide) rfl ?_
  intro p e s m args below meth c s₁ R Q hR hQ B hml hv
  obtain ⟨rfl, hsz, hP, hK, hD0⟩ := hv
  have hx := B.exec
  have hb := B.bytes
  have hr := B.returns
  have hts := atoms_spec (ws := xw yJ3_checkIndex_8e157 cJ3_checkIndex_8e157 3 (some .int)) B.pre
  have htg : ∀ w ∈ xg, w.before _ s = true := fun w h => hts w (List.mem_cons_of_mem _ h)
  have hown : s.vm.findClass RJ3 = some m.cls := findClass_of_methodNamed B.named
  have hlocks := B.notSynchronized
  subst hsz
  have hD := hD0.self (sz := s.heap.size)
  generalize hAe : va_A (pre_J3_checkIndex_8e157 T a ex fi fl vi) s.heap.size = A at hD hQ
  have hA : ∀ q : Nat, s.heap.size ≤ q → A q := fun q h => by rw [← hAe]; exact Or.inr h
  have hS : va_S A s.heap s.heap [] := va_S.rf
  replace hP : va_P D vwCl [] s.heap := hP
  replace hD : va_D A [] := hD
  have hl := lv_entry ([.int (vi 0), .int 43, .null]) (n := 3) (Nat.le_of_ble_eq_true rfl)
  rw [lg_entry_eq]
  generalize (lg_sl ([.int (vi 0), .int 43, .null]) ++ List.replicate (3 - (lg_sl ([.int (vi 0), .int 43, .null])).length) Slot.unset).toArray = ls at hl ⊢
  replace hl : lv_has ls 3 [(0, .int (vi 0)), (1, .int 43), (2, .null)] := hl
  refine lv_iload_n hx hb dJ3_checkIndex_8e157_0 rfl (lv_at hl 0 rfl) ?_
  refine lv_if_lt (tgt := 9) hx hb dJ3_checkIndex_8e157_1 (by decide) (fun c => by exfalso; have h9 := xlt (k := 0) (by decide) c; omega) (fun _ => ?_)
  refine lv_iload_n hx hb dJ3_checkIndex_8e157_4 rfl (lv_at hl 0 rfl) ?_
  refine lv_iload_n hx hb dJ3_checkIndex_8e157_5 rfl (lv_at hl 1 rfl) ?_
  refine lv_icmp_lt (tgt := 16) hx hb dJ3_checkIndex_8e157_6 (by decide) (fun _ => ?_) (fun c => by exfalso; have h9 := xnlt (k := 43) (by decide) c; omega)
  refine lv_iload_n hx hb dJ3_checkIndex_8e157_16 rfl (lv_at hl 0 rfl) ?_
  have hP9 := hP.sub (ws' := []) [] rfl
  have hD9 := hD.sub (ws' := []) [] (by decide +kernel) rfl
  rw [hQ]
  exact W.iret (v := (vi 0)) hx hb hr (fun t ht hW => ⟨⟨(vi 0), (), rfl, rfl, ⟨xa [], xf [], xh [], xv [], by rw [ht]; exact hP9, hD9, trivial⟩⟩, hS.F ht⟩) hS.2.2 dJ3_checkIndex_8e157_17
abbrev pre_J3_checkIndex_8e157_2 (T : Nat → ClassId) (a ex : Nat → Nat) (fi : Nat → Nat → Int32) (fl : Nat → Nat → Int64) (vi : Nat → Int32) : va_W := []
set_option maxHeartbeats 4000000 in
set_option maxRecDepth 100000 in
theorem c_J3_checkIndex_8e157_2 (l : Launch) (D : va_G) (T : Nat → ClassId) (a ex : Nat → Nat) (fi : Nat → Nat → Int32) (fl : Nat → Nat → Int64) (vi : Nat → Int32) (sz : Nat) (hd0 : (0 ≤ (vi 0).toInt ∧ (vi 0).toInt ≤ 42)) : Met l yJ3_checkIndex_8e157 (xw yJ3_checkIndex_8e157 cJ3_checkIndex_8e157 3 (some .int)) ({ frames := 0, cells := 0, slots := 0, locals := 0 }) (xP D T [.int (vi 0), .int 43, .ref (ex 0)] sz (pre_J3_checkIndex_8e157_2 T a ex fi fl vi)) (va_Qi (fun r (_ : Unit) => r = (vi 0)) (xB D (va_A (pre_J3_checkIndex_8e157_2 T a ex fi fl vi) sz) (fun _ => True) (fun b fj fm vj => [])) (va_A (pre_J3_checkIndex_8e157_2 T a ex fi fl vi) sz)) 0 0 (va_A (pre_J3_checkIndex_8e157_2 T a ex fi fl vi) sz) := by
  refine xofW (cc := cJ3_checkIndex_8e157) (maxL := 3) (ret := (some .int)) (by decide) rfl ?_
  intro p e s m args below meth c s₁ R Q hR hQ B hml hv
  obtain ⟨rfl, hsz, hP, hK, hD0⟩ := hv
  have hx := B.exec
  have hb := B.bytes
  have hr := B.returns
  have hts := atoms_spec (ws := xw yJ3_checkIndex_8e157 cJ3_checkIndex_8e157 3 (some .int)) B.pre
  have htg : ∀ w ∈ xg, w.before _ s = true := fun w h => hts w (List.mem_cons_of_mem _ h)
  have hown : s.vm.findClass RJ3 = some m.cls := findClass_of_methodNamed B.named
  have hlocks := B.notSynchronized
  subst hsz
  have hD := hD0.self (sz := s.heap.size)
  generalize hAe : va_A (pre_J3_checkIndex_8e157_2 T a ex fi fl vi) s.heap.size = A at hD hQ
  have hA : ∀ q : Nat, s.heap.size ≤ q → A q := fun q h => by rw [← hAe]; exact Or.inr h
  have hS : va_S A s.heap s.heap [] := va_S.rf
  replace hP : va_P D vwCl [] s.heap := hP
  replace hD : va_D A [] := hD
  have hl := lv_entry ([.int (vi 0), .int 43, .ref (ex 0)]) (n := 3) (Nat.le_of_ble_eq_true rfl)
  rw [lg_entry_eq]
  generalize (lg_sl ([.int (vi 0), .int 43, .ref (ex 0)]) ++ List.replicate (3 - (lg_sl ([.int (vi 0), .int 43, .ref (ex 0)])).length) Slot.unset).toArray = ls at hl ⊢
  replace hl : lv_has ls 3 [(0, .int (vi 0)), (1, .int 43), (2, .ref (ex 0))] := hl
  refine lv_iload_n hx hb dJ3_checkIndex_8e157_0 rfl (lv_at hl 0 rfl) ?_
  refine lv_if_lt (tgt := 9) hx hb dJ3_checkIndex_8e157_1 (by decide) (fun c => by exfalso; have h9 := xlt (k := 0) (by decide) c; omega) (fun _ => ?_)
  refine lv_iload_n hx hb dJ3_checkIndex_8e157_4 rfl (lv_at hl 0 rfl) ?_
  refine lv_iload_n hx hb dJ3_checkIndex_8e157_5 rfl (lv_at hl 1 rfl) ?_
  refine lv_icmp_lt (tgt := 16) hx hb dJ3_checkIndex_8e157_6 (by decide) (fun _ => ?_) (fun c => by exfalso; have h9 := xnlt (k := 43) (by decide) c; omega)
  refine lv_iload_n hx hb dJ3_checkIndex_8e157_16 rfl (lv_at hl 0 rfl) ?_
  have hP9 := hP.sub (ws' := []) [] rfl
  have hD9 := hD.sub (ws' := []) [] (by decide +kernel) rfl
  rw [hQ]
  exact W.iret (v := (vi 0)) hx hb hr (fun t ht hW => ⟨⟨(vi 0), (), rfl, rfl, ⟨xa [], xf [], xh [], xv [], by rw [ht]; exact hP9, hD9, trivial⟩⟩, hS.F ht⟩) hS.2.2 dJ3_checkIndex_8e157_17
abbrev pre_J0_checkIndex_df160 (T : Nat → ClassId) (a ex : Nat → Nat) (fi : Nat → Nat → Int32) (fl : Nat → Nat → Int64) (vi : Nat → Int32) : va_W := []
set_option maxHeartbeats 4000000 in
set_option maxRecDepth 100000 in
theorem c_J0_checkIndex_df160 (l : Launch) (D : va_G) (T : Nat → ClassId) (a ex : Nat → Nat) (fi : Nat → Nat → Int32) (fl : Nat → Nat → Int64) (vi : Nat → Int32) (kK kV : Nat → Nat) (sz : Nat) (hd0 : (0 ≤ (vi 0).toInt ∧ (vi 0).toInt ≤ 42)) : Met l yJ0_checkIndex_df160 (xw yJ0_checkIndex_df160 cJ0_checkIndex_df160 2 none) ({ frames := 1, cells := 0, slots := 0, locals := 26 }) (xPs D T kK kV [.int (vi 0), .int 43] sz (pre_J0_checkIndex_df160 T a ex fi fl vi)) (va_Qv (fun _ : Unit => True) (xB D (va_A (pre_J0_checkIndex_df160 T a ex fi fl vi) sz) (fun _ => True) (fun b fj fm vj => [])) (va_A (pre_J0_checkIndex_df160 T a ex fi fl vi) sz)) 0 0 (va_A (pre_J0_checkIndex_df160 T a ex fi fl vi) sz) := by
  refine xofW (cc := cJ0_checkIndex_df160) (maxL := 2) (ret := none) (by decide) rfl ?_
  intro p e s m args below meth c s₁ R Q hR hQ B hml hv
  obtain ⟨rfl, hsz, hP, hK, hD0, hT⟩ := hv
  have hx := B.exec
  have hb := B.bytes
  have hr := B.returns
  have hts := atoms_spec (ws := xw yJ0_checkIndex_df160 cJ0_checkIndex_df160 2 none) B.pre
  have htg : ∀ w ∈ xg, w.before _ s = true := fun w h => hts w (List.mem_cons_of_mem _ h)
  have hown : s.vm.findClass RJ0 = some m.cls := findClass_of_methodNamed B.named
  have hlocks := B.notSynchronized
  subst hsz
  have hD := hD0.self (sz := s.heap.size)
  generalize hAe : va_A (pre_J0_checkIndex_df160 T a ex fi fl vi) s.heap.size = A at hD hQ hT
  have hA : ∀ q : Nat, s.heap.size ≤ q → A q := fun q h => by rw [← hAe]; exact Or.inr h
  have hS : va_S A s.heap s.heap [] := va_S.rf
  replace hP : va_P D vwCl [] s.heap := hP
  replace hD : va_D A [] := hD
  have hl := lv_entry ([.int (vi 0), .int 43]) (n := 2) (Nat.le_of_ble_eq_true rfl)
  rw [lg_entry_eq]
  generalize (lg_sl ([.int (vi 0), .int 43]) ++ List.replicate (2 - (lg_sl ([.int (vi 0), .int 43])).length) Slot.unset).toArray = ls at hl ⊢
  replace hl : lv_has ls 2 [(0, .int (vi 0)), (1, .int 43)] := hl
  refine lv_iload_n hx hb dJ0_checkIndex_df160_0 rfl (lv_at hl 0 rfl) ?_
  refine lv_iload_n hx hb dJ0_checkIndex_df160_1 rfl (lv_at hl 1 rfl) ?_
  rcases hT.2.2.2 with hz9 | ⟨z9, hz9⟩
  · refine va_gets hx hb hz9 hS hown (htg _ kw_68) (fun _ h9 => h9) dJ0_checkIndex_df160_2 ?_
    have hPc := hP.sub (ws' := (pre_J3_checkIndex_8e157 T (xa []) (xa []) (xf []) (xh []) (xv [(vi 0)]))) [] rfl
    have hDc := hD.sub (ws' := (pre_J3_checkIndex_8e157 T (xa []) (xa []) (xf []) (xh []) (xv [(vi 0)]))) [] (by decide) rfl
    have hFc := va_free (wc := (pre_J3_checkIndex_8e157 T (xa []) (xa []) (xf []) (xh []) (xv [(vi 0)]))) hD hS hA [] rfl
    refine va_calli (va_runS (As := [.int (vi 0), .int 43, .null]) (rest := []) ⟨hx, hb, hml, hown, htg⟩ (c_J3_checkIndex_8e157 l D T (xa []) (xa []) (xf []) (xh []) (xv [(vi 0)]) s.heap.size (by show (0 ≤ ((vi 0) : Int32).toInt ∧ ((vi 0) : Int32).toInt ≤ 42); omega)) ⟨callB_of 3 htg (xg_ok kw_72) rfl rfl rfl (htg _ kw_5) (htg _ kw_70) (by decide +kernel) ⟨by rw [hR]; exact Nat.le_of_ble_eq_true rfl, by rw [hR]; exact Nat.le_of_ble_eq_true rfl⟩, htg _ kw_71⟩ (xpreS hK hPc hDc) rfl rfl hl.1 rfl (lv_room (Nat.le_of_ble_eq_true rfl)) dJ0_checkIndex_df160_5 ⟨by rw [hR]; exact Nat.le_of_ble_eq_true rfl, by rw [hR]; exact Nat.le_of_ble_eq_true rfl⟩) hS (fun q _ h => hFc q h) hFc (fun r9 u t H1 locs ht hvm hw hB hz1 hk1 hS => ?_)
    obtain ⟨bk, fik, flk, vik, hP1, hD1, hGk⟩ := hB
    rw [ht] at hP1
    obtain ⟨hP, hD⟩ := va_join (wr := []) (w1 := []) hP hD [] [] rfl rfl (by decide) (by decide) hk1 hFc hP1 hD1
    subst hw
    clear hPc hDc hFc hP1 hD1 hk1 hz1 hvm ht
    generalize H1 = H at hP hS ⊢
    replace hP : va_P D vwCl [] H := hP
    replace hD : va_D A [] := hD
    refine lv_pop hx hb dJ0_checkIndex_df160_8 rfl ?_
    have hP9 := hP.sub (ws' := []) [] rfl
    have hD9 := hD.sub (ws' := []) [] (by decide +kernel) rfl
    rw [hQ]
    exact W.vret hx hb hr (fun t ht hW => ⟨⟨(), rfl, trivial, ⟨xa [], xf [], xh [], xv [], by rw [ht]; exact hP9, hD9, trivial⟩⟩, hS.F ht⟩) hS.2.2 dJ0_checkIndex_df160_9
  · refine va_gets hx hb hz9 hS hown (htg _ kw_68) (fun _ h9 => h9) dJ0_checkIndex_df160_2 ?_
    have hPc := hP.sub (ws' := (pre_J3_checkIndex_8e157_2 T (xa []) (xa [z9]) (xf []) (xh []) (xv [(vi 0)]))) [] rfl
    have hDc := hD.sub (ws' := (pre_J3_checkIndex_8e157_2 T (xa []) (xa [z9]) (xf []) (xh []) (xv [(vi 0)]))) [] (by decide) rfl
    have hFc := va_free (wc := (pre_J3_checkIndex_8e157_2 T (xa []) (xa [z9]) (xf []) (xh []) (xv [(vi 0)]))) hD hS hA [] rfl
    refine va_calli (va_runS (As := [.int (vi 0), .int 43, .ref z9]) (rest := []) ⟨hx, hb, hml, hown, htg⟩ (c_J3_checkIndex_8e157_2 l D T (xa []) (xa [z9]) (xf []) (xh []) (xv [(vi 0)]) s.heap.size (by show (0 ≤ ((vi 0) : Int32).toInt ∧ ((vi 0) : Int32).toInt ≤ 42); omega)) ⟨callB_of 3 htg (xg_ok kw_72) rfl rfl rfl (htg _ kw_5) (htg _ kw_70) (by decide +kernel) ⟨by rw [hR]; exact Nat.le_of_ble_eq_true rfl, by rw [hR]; exact Nat.le_of_ble_eq_true rfl⟩, htg _ kw_71⟩ (xpreS hK hPc hDc) rfl rfl hl.1 rfl (lv_room (Nat.le_of_ble_eq_true rfl)) dJ0_checkIndex_df160_5 ⟨by rw [hR]; exact Nat.le_of_ble_eq_true rfl, by rw [hR]; exact Nat.le_of_ble_eq_true rfl⟩) hS (fun q _ h => hFc q h) hFc (fun r9 u t H1 locs ht hvm hw hB hz1 hk1 hS => ?_)
    obtain ⟨bk_1, fik_1, flk_1, vik_1, hP1, hD1, hGk_1⟩ := hB
    rw [ht] at hP1
    obtain ⟨hP, hD⟩ := va_join (wr := []) (w1 := []) hP hD [] [] rfl rfl (by decide) (by decide) hk1 hFc hP1 hD1
    subst hw
    clear hPc hDc hFc hP1 hD1 hk1 hz1 hvm ht
    generalize H1 = H at hP hS ⊢
    replace hP : va_P D vwCl [] H := hP
    replace hD : va_D A [] := hD
    refine lv_pop hx hb dJ0_checkIndex_df160_8 rfl ?_
    have hP9 := hP.sub (ws' := []) [] rfl
    have hD9 := hD.sub (ws' := []) [] (by decide +kernel) rfl
    rw [hQ]
    exact W.vret hx hb hr (fun t ht hW => ⟨⟨(), rfl, trivial, ⟨xa [], xf [], xh [], xv [], by rw [ht]; exact hP9, hD9, trivial⟩⟩, hS.F ht⟩) hS.2.2 dJ0_checkIndex_df160_9
abbrev pre_J1_charAt_3b067 (T : Nat → ClassId) (a ex : Nat → Nat) (fi : Nat → Nat → Int32) (fl : Nat → Nat → Int64) (vi : Nat → Int32) : va_W := []
set_option maxHeartbeats 4000000 in
set_option maxRecDepth 100000 in
theorem c_J1_charAt_3b067 (l : Launch) (D : va_G) (T : Nat → ClassId) (a ex : Nat → Nat) (fi : Nat → Nat → Int32) (fl : Nat → Nat → Int64) (vi : Nat → Int32) (kK kV : Nat → Nat) (sz : Nat) (hd0 : (0 ≤ (vi 0).toInt ∧ (vi 0).toInt ≤ 42)) : Met l yJ1_charAt_3b067 (xw yJ1_charAt_3b067 cJ1_charAt_3b067 2 (some .char)) ({ frames := 2, cells := 0, slots := 0, locals := 51 }) (xPs D T kK kV [.ref (kV 0), .int (vi 0)] sz (pre_J1_charAt_3b067 T a ex fi fl vi)) (va_Qi (fun r (_ : Unit) => narrow .char (.int r) = .int r) (xB D (va_A (pre_J1_charAt_3b067 T a ex fi fl vi) sz) (fun _ => True) (fun b fj fm vj => [])) (va_A (pre_J1_charAt_3b067 T a ex fi fl vi) sz)) 0 0 (va_A (pre_J1_charAt_3b067 T a ex fi fl vi) sz) := by
  refine xofW (cc := cJ1_charAt_3b067) (maxL := 2) (ret := (some .char)) (by decide) rfl ?_
  intro p e s m args below meth c s₁ R Q hR hQ B hml hv
  obtain ⟨rfl, hsz, hP, hK, hD0, hT⟩ := hv
  have hx := B.exec
  have hb := B.bytes
  have hr := B.returns
  have hts := atoms_spec (ws := xw yJ1_charAt_3b067 cJ1_charAt_3b067 2 (some .char)) B.pre
  have htg : ∀ w ∈ xg, w.before _ s = true := fun w h => hts w (List.mem_cons_of_mem _ h)
  have hown : s.vm.findClass RJ1 = some m.cls := findClass_of_methodNamed B.named
  have hlocks := B.notSynchronized
  subst hsz
  have hD := hD0.self (sz := s.heap.size)
  generalize hAe : va_A (pre_J1_charAt_3b067 T a ex fi fl vi) s.heap.size = A at hD hQ hT
  have hA : ∀ q : Nat, s.heap.size ≤ q → A q := fun q h => by rw [← hAe]; exact Or.inr h
  have hS : va_S A s.heap s.heap [] := va_S.rf
  replace hP : va_P D vwCl [] s.heap := hP
  replace hD : va_D A [] := hD
  have hl := lv_entry ([.ref (kV 0), .int (vi 0)]) (n := 2) (Nat.le_of_ble_eq_true rfl)
  rw [lg_entry_eq]
  generalize (lg_sl ([.ref (kV 0), .int (vi 0)]) ++ List.replicate (2 - (lg_sl ([.ref (kV 0), .int (vi 0)])).length) Slot.unset).toArray = ls at hl ⊢
  replace hl : lv_has ls 2 [(0, .ref (kV 0)), (1, .int (vi 0))] := hl
  refine lv_iload_n hx hb dJ1_charAt_3b067_0 rfl (lv_at hl 1 rfl) ?_
  refine lv_aload_n hx hb dJ1_charAt_3b067_1 rfl (lv_at hl 0 rfl) ?_
  refine va_tlen (v := 43) hx hb (hT.2.1 0 (by decide)).2.2.2 hS (by decide) dJ1_charAt_3b067_2 ?_
  have hPc := hP.sub (ws' := (pre_J0_checkIndex_df160 T (xa []) (xa []) (xf []) (xh []) (xv [(vi 0)]))) [] rfl
  have hDc := hD.sub (ws' := (pre_J0_checkIndex_df160 T (xa []) (xa []) (xf []) (xh []) (xv [(vi 0)]))) [] (by decide) rfl
  have hFc := va_free (wc := (pre_J0_checkIndex_df160 T (xa []) (xa []) (xf []) (xh []) (xv [(vi 0)]))) hD hS hA [] rfl
  refine va_callv (va_runS (As := [.int (vi 0), .int 43]) (rest := []) ⟨hx, hb, hml, hown, htg⟩ (c_J0_checkIndex_df160 l D T (xa []) (xa []) (xf []) (xh []) (xv [(vi 0)]) kK kV s.heap.size (by show (0 ≤ ((vi 0) : Int32).toInt ∧ ((vi 0) : Int32).toInt ≤ 42); omega)) ⟨callB_of 2 htg (xg_ok kw_67) rfl rfl rfl (htg _ kw_3) (htg _ kw_65) (by decide +kernel) ⟨by rw [hR]; exact Nat.le_of_ble_eq_true rfl, by rw [hR]; exact Nat.le_of_ble_eq_true rfl⟩, htg _ kw_66⟩ (xpreSs hK hPc hDc hT hFc hS) rfl rfl hl.1 rfl (lv_room (Nat.le_of_ble_eq_true rfl)) dJ1_charAt_3b067_3 ⟨by rw [hR]; exact Nat.le_of_ble_eq_true rfl, by rw [hR]; exact Nat.le_of_ble_eq_true rfl⟩) hS (fun q _ h => hFc q h) hFc (fun u t H1 locs ht hvm hw hB hz1 hk1 hS => ?_)
  obtain ⟨bk, fik, flk, vik, hP1, hD1, hGk⟩ := hB
  rw [ht] at hP1
  obtain ⟨hP, hD⟩ := va_join (wr := []) (w1 := []) hP hD [] [] rfl rfl (by decide) (by decide) hk1 hFc hP1 hD1
  clear hPc hDc hFc hP1 hD1 hk1 hz1 hvm ht hw
  generalize H1 = H at hP hS ⊢
  replace hP : va_P D vwCl [] H := hP
  replace hD : va_D A [] := hD
  refine lv_aload_n hx hb dJ1_charAt_3b067_6 rfl (lv_at hl 0 rfl) ?_
  refine lv_iload_n hx hb dJ1_charAt_3b067_7 rfl (lv_at hl 1 rfl) ?_
  refine va_tb hx hb (hT.2.1 0 (by decide)).2.2.2 hS (show vp_in (vi 0) 43 from (vp_in_iff.mpr (by omega))) rfl dJ1_charAt_3b067_8 ?_
  refine lv_topi (fun z8 _ => ?_)
  refine lv_sipush (v := 255) hx hb dJ1_charAt_3b067_9 (by decide) ?_
  refine lv_iand hx hb dJ1_charAt_3b067_12 ?_
  refine lv_topi (fun z12 _ => ?_)
  refine lv_i2c hx hb dJ1_charAt_3b067_13 rfl ?_
  refine lv_topi (fun z13 ez13 => ?_)
  have nz13 : narrow .char (.int z13) = .int z13 := by rw [ez13]; exact pk_nc _
  have hP9 := hP.sub (ws' := []) [] rfl
  have hD9 := hD.sub (ws' := []) [] (by decide +kernel) rfl
  rw [hQ]
  exact W.zret (v := z13) hx hb hr nz13 (fun t ht hW => ⟨⟨z13, (), rfl, nz13, ⟨xa [], xf [], xh [], xv [], by rw [ht]; exact hP9, hD9, trivial⟩⟩, hS.F ht⟩) hS.2.2 dJ1_charAt_3b067_14
