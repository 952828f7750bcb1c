abbrev pre_X4_setSort_7 (T : Nat → ClassId) (a ex : Nat → Nat) (fi : Nat → Nat → Int32) (fl : Nat → Nat → Int64) (vi : Nat → Int32) (vl : Nat → Int64) : va_W := [((a 0), .inr (4, [.ref (ex 0), .ref (ex 1), .ref (a 1), .ref (ex 2), .ref (ex 3), .int (vi 0), .int (vi 1), .int (vi 2), .int (vi 3), .int (vi 4), .int (vi 5)])), ((a 1), .inl (T 1, 40, .inl (fi 0)))]
set_option maxHeartbeats 8000000 in
set_option maxRecDepth 100000 in
theorem c_X4_setSort_7 (l : Launch) (D : va_G) (T : Nat → ClassId) (a ex : Nat → Nat) (fi : Nat → Nat → Int32) (fl : Nat → Nat → Int64) (vi : Nat → Int32) (vl : Nat → Int64) (sz : Nat) (hp0 : 0 ≤ (vi 0).toInt ∧ (vi 0).toInt ≤ 40) (hp1 : (vi 0).toInt ≤ 39) : Met l yX4_setSort (xw yX4_setSort cX4_setSort 2 (some .boolean)) ({ frames := 0, cells := 0, slots := 0, locals := 0 }) (xP D T [.ref (a 0), .int 4] sz (pre_X4_setSort_7 T a ex fi fl vi vl)) (va_Qi (fun r u => r = u) (xC D (va_A (pre_X4_setSort_7 T a ex fi fl vi vl) sz) (fun fj fm vj vm => [((a 0), .inr (4, [.ref (ex 0), .ref (ex 1), .ref (a 1), .ref (ex 2), .ref (ex 3), .int (vi 0), .int (vi 1), .int (vi 2), .int (vi 3), .int (vi 4), .int (vi 5)])), ((a 1), .inl (T 1, 40, .inl (fj 0)))]) (fun (r : Int32) (fj : Nat → Nat → Int32) (fm : Nat → Nat → Int64) (vj : Nat → Int32) (vm : Nat → Int64) => r = 1 ∧ (∀ j : Nat, ¬ j = ((vi 0)).toNatClampNeg → (fj 0) j = (fi 0) j) ∧ (((fj 0) ((vi 0)).toNatClampNeg).toInt = (4 : Int32).toInt) ∧ True)) (va_A (pre_X4_setSort_7 T a ex fi fl vi vl) sz)) 0 0 (va_A (pre_X4_setSort_7 T a ex fi fl vi vl) sz) := by
  refine xofW (cc := cX4_setSort) (maxL := 2) (ret := (some .boolean)) (by decide) rfl ?_
  intro p e s m args below meth c s₁ R Q hR hQ B hml hv
  obtain ⟨rfl, hsz, hP, hK, hD0⟩ := hv
  have hx := B.exec
  have hb := B.bytes
  have hr := B.returns
  have hts := atoms_spec (ws := xw yX4_setSort cX4_setSort 2 (some .boolean)) B.pre
  have htg : ∀ w ∈ xg, w.before _ s = true := fun w h => hts w (List.mem_cons_of_mem _ h)
  have hown : s.vm.findClass RX4 = some m.cls := findClass_of_methodNamed B.named
  have hlocks := B.notSynchronized
  subst hsz
  have hD := hD0.self (sz := s.heap.size)
  generalize hAe : va_A (pre_X4_setSort_7 T a ex fi fl vi vl) s.heap.size = A at hD hQ
  have hA : ∀ q : Nat, s.heap.size ≤ q → A q := fun q h => by rw [← hAe]; exact Or.inr h
  have hS : va_S A s.heap s.heap [] := va_S.rf
  replace hP : va_P D vwCl [((a 0), .inr (4, [.ref (ex 0), .ref (ex 1), .ref (a 1), .ref (ex 2), .ref (ex 3), .int (vi 0), .int (vi 1), .int (vi 2), .int (vi 3), .int (vi 4), .int (vi 5)])), ((a 1), .inl (T 1, 40, .inl (fi 0)))] s.heap := hP
  replace hD : va_D A [((a 0), .inr (4, [.ref (ex 0), .ref (ex 1), .ref (a 1), .ref (ex 2), .ref (ex 3), .int (vi 0), .int (vi 1), .int (vi 2), .int (vi 3), .int (vi 4), .int (vi 5)])), ((a 1), .inl (T 1, 40, .inl (fi 0)))] := hD
  have hl := lv_entry ([.ref (a 0), .int 4]) (n := 2) (Nat.le_of_ble_eq_true rfl)
  rw [lg_entry_eq]
  generalize (lg_sl ([.ref (a 0), .int 4]) ++ List.replicate (2 - (lg_sl ([.ref (a 0), .int 4])).length) Slot.unset).toArray = ls at hl ⊢
  replace hl : lv_has ls 2 [(0, .ref (a 0)), (1, .int 4)] := hl
  refine lv_aload_n hx hb dX4_setSort_0 rfl (lv_at hl 0 rfl) ?_
  refine va_get (D := D) (ci := 4) (v := .ref (a 1)) (C := RX4) (T := TX4) (N := 11) hx hb htg inX4 hown hK.1 hP 0 rfl rfl 2 (by decide) (htg _ kw_341) (fun _ h9 => h9) rfl dX4_setSort_1 ?_
  refine lv_aload_n hx hb dX4_setSort_4 rfl (lv_at hl 0 rfl) ?_
  refine va_get (D := D) (ci := 4) (v := .int (vi 0)) (C := RX4) (T := TX4) (N := 11) hx hb htg inX4 hown hK.1 hP 0 rfl rfl 5 (by decide) (htg _ kw_344) (fun _ h9 => h9) rfl dX4_setSort_5 ?_
  refine lv_iload_n hx hb dX4_setSort_8 rfl (lv_at hl 1 rfl) ?_
  refine va_iast hx hb hK.1 hP hD hS 1 1 rfl rfl (vp_in_iff.mpr (by omega)) dX4_setSort_9 (fun H locs hP hD hS => ?_)
  obtain ⟨f9, ef9, hP, hD⟩ : ∃ f7 : Nat → Int32, f7 = upd (fi 0) (vi 0).toNatClampNeg (4 : Int32) ∧ va_P D vwCl [((a 0), .inr (4, [.ref (ex 0), .ref (ex 1), .ref (a 1), .ref (ex 2), .ref (ex 3), .int (vi 0), .int (vi 1), .int (vi 2), .int (vi 3), .int (vi 4), .int (vi 5)])), ((a 1), .inl (T 1, 40, .inl f7))] H ∧ va_D A [((a 0), .inr (4, [.ref (ex 0), .ref (ex 1), .ref (a 1), .ref (ex 2), .ref (ex 3), .int (vi 0), .int (vi 1), .int (vi 2), .int (vi 3), .int (vi 4), .int (vi 5)])), ((a 1), .inl (T 1, 40, .inl f7))] := ⟨_, rfl, hP, hD⟩
  refine lv_iconst (v := 1) hx hb dX4_setSort_10 (by decide) ?_
  have hP9 := hP.sub (ws' := [((a 0), .inr (4, [.ref (ex 0), .ref (ex 1), .ref (a 1), .ref (ex 2), .ref (ex 3), .int (vi 0), .int (vi 1), .int (vi 2), .int (vi 3), .int (vi 4), .int (vi 5)])), ((a 1), .inl (T 1, 40, .inl f9))]) [0, 1] rfl
  have hD9 := hD.sub (ws' := [((a 0), .inr (4, [.ref (ex 0), .ref (ex 1), .ref (a 1), .ref (ex 2), .ref (ex 3), .int (vi 0), .int (vi 1), .int (vi 2), .int (vi 3), .int (vi 4), .int (vi 5)])), ((a 1), .inl (T 1, 40, .inl f9))]) [0, 1] (by decide +kernel) rfl
  rw [hQ]
  exact W.zret (v := 1) hx hb hr rfl (fun t ht hW => ⟨⟨1, 1, rfl, rfl, xf [f9], xh [], xv [], xl [], by rw [ht]; exact hP9, hD9, ⟨rfl, (by show ∀ j : Nat, ¬ j = ((vi 0)).toNatClampNeg → f9 j = (fi 0) j; exact fun j hj => by rw [ef9]; exact if_neg hj), (by show (f9 ((vi 0)).toNatClampNeg).toInt = (4 : Int32).toInt; have k9_0 : (4 : Int32).toInt = 4 := (by decide); rw [ef9]; exact congrArg Int32.toInt (if_pos rfl)), trivial⟩⟩, hS.F ht⟩) hS.2.2 dX4_setSort_11
abbrev pre_J0_coder_7d493_8 (T : Nat → ClassId) (a ex : Nat → Nat) (fi : Nat → Nat → Int32) (fl : Nat → Nat → Int64) (vi : Nat → Int32) (vl : Nat → Int64) : va_W := []
set_option maxHeartbeats 8000000 in
set_option maxRecDepth 100000 in
theorem c_J0_coder_7d493_8 (l : Launch) (D : va_G) (T : Nat → ClassId) (a ex : Nat → Nat) (fi : Nat → Nat → Int32) (fl : Nat → Nat → Int64) (vi : Nat → Int32) (vl : Nat → Int64) (kK kV : Nat → Nat) (sz : Nat) : Met l yJ0_coder_7d493 (xw yJ0_coder_7d493 cJ0_coder_7d493 1 (some .byte)) ({ frames := 0, cells := 0, slots := 0, locals := 0 }) (xPs D T kK kV [.ref (kK 18)] sz (pre_J0_coder_7d493_8 T a ex fi fl vi vl)) (va_Qi (fun r u => r = u) (xC D (va_A (pre_J0_coder_7d493_8 T a ex fi fl vi vl) sz) (fun fj fm vj vm => []) (fun (r : Int32) (fj : Nat → Nat → Int32) (fm : Nat → Nat → Int64) (vj : Nat → Int32) (vm : Nat → Int64) => r = 0 ∧ True)) (va_A (pre_J0_coder_7d493_8 T a ex fi fl vi vl) sz)) 0 0 (va_A (pre_J0_coder_7d493_8 T a ex fi fl vi vl) sz) := by
  refine xofW (cc := cJ0_coder_7d493) (maxL := 1) (ret := (some .byte)) (by decide) rfl ?_
  intro p e s m args below meth c s₁ R Q hR hQ B hml hv
  obtain ⟨rfl, hsz, hP, hK, hD0, hT⟩ := hv
  have hx := B.exec
  have hb := B.bytes
  have hr := B.returns
  have hts := atoms_spec (ws := xw yJ0_coder_7d493 cJ0_coder_7d493 1 (some .byte)) B.pre
  have htg : ∀ w ∈ xg, w.before _ s = true := fun w h => hts w (List.mem_cons_of_mem _ h)
  have hown : s.vm.findClass RJ0 = some m.cls := findClass_of_methodNamed B.named
  have hlocks := B.notSynchronized
  subst hsz
  have hD := hD0.self (sz := s.heap.size)
  generalize hAe : va_A (pre_J0_coder_7d493_8 T a ex fi fl vi vl) s.heap.size = A at hD hQ hT
  have hA : ∀ q : Nat, s.heap.size ≤ q → A q := fun q h => by rw [← hAe]; exact Or.inr h
  have hS : va_S A s.heap s.heap [] := va_S.rf
  replace hP : va_P D vwCl [] s.heap := hP
  replace hD : va_D A [] := hD
  have hl := lv_entry ([.ref (kK 18)]) (n := 1) (Nat.le_of_ble_eq_true rfl)
  rw [lg_entry_eq]
  generalize (lg_sl ([.ref (kK 18)]) ++ List.replicate (1 - (lg_sl ([.ref (kK 18)])).length) Slot.unset).toArray = ls at hl ⊢
  replace hl : lv_has ls 1 [(0, .ref (kK 18))] := hl
  refine va_gets hx hb hT.2.2.1 hS hown (htg _ kw_52) (fun _ h9 => h9) dJ0_coder_7d493_0 ?_
  refine lv_if_eq (tgt := 13) hx hb dJ0_coder_7d493_3 (by decide) (fun c => absurd c (by decide)) (fun _ => ?_)
  refine lv_aload_n hx hb dJ0_coder_7d493_6 rfl (lv_at hl 0 rfl) ?_
  refine vk_getf hx hb (hT.2.1 18 (by decide)).2.1 hS hown (htg _ kw_2031) (fun _ h9 => h9) dJ0_coder_7d493_7 ?_
  refine lv_goto (tgt := 14) hx hb dJ0_coder_7d493_10 (by decide) ?_
  have hP9 := hP.sub (ws' := []) [] rfl
  have hD9 := hD.sub (ws' := []) [] (by decide +kernel) rfl
  rw [hQ]
  exact W.zret (v := 0) hx hb hr rfl (fun t ht hW => ⟨⟨0, 0, rfl, rfl, xf [], xh [], xv [], xl [], by rw [ht]; exact hP9, hD9, ⟨rfl, trivial⟩⟩, hS.F ht⟩) hS.2.2 dJ0_coder_7d493_14
abbrev pre_J0_length_8abf5_8 (T : Nat → ClassId) (a ex : Nat → Nat) (fi : Nat → Nat → Int32) (fl : Nat → Nat → Int64) (vi : Nat → Int32) (vl : Nat → Int64) : va_W := []
set_option maxHeartbeats 8000000 in
set_option maxRecDepth 100000 in
theorem c_J0_length_8abf5_8 (l : Launch) (D : va_G) (T : Nat → ClassId) (a ex : Nat → Nat) (fi : Nat → Nat → Int32) (fl : Nat → Nat → Int64) (vi : Nat → Int32) (vl : Nat → Int64) (kK kV : Nat → Nat) (sz : Nat) : Met l yJ0_length_8abf5 (xw yJ0_length_8abf5 cJ0_length_8abf5 1 (some .int)) ({ frames := 1, cells := 0, slots := 0, locals := 24 }) (xPs D T kK kV [.ref (kK 18)] sz (pre_J0_length_8abf5_8 T a ex fi fl vi vl)) (va_Qi (fun r u => r = u) (xC D (va_A (pre_J0_length_8abf5_8 T a ex fi fl vi vl) sz) (fun fj fm vj vm => []) (fun (r : Int32) (fj : Nat → Nat → Int32) (fm : Nat → Nat → Int64) (vj : Nat → Int32) (vm : Nat → Int64) => r = 4 ∧ True)) (va_A (pre_J0_length_8abf5_8 T a ex fi fl vi vl) sz)) 0 0 (va_A (pre_J0_length_8abf5_8 T a ex fi fl vi vl) sz) := by
  refine xofW (cc := cJ0_length_8abf5) (maxL := 1) (ret := (some .int)) (by decide) rfl ?_
  intro p e s m args below meth c s₁ R Q hR hQ B hml hv
  obtain ⟨rfl, hsz, hP, hK, hD0, hT⟩ := hv
  have hx := B.exec
  have hb := B.bytes
  have hr := B.returns
  have hts := atoms_spec (ws := xw yJ0_length_8abf5 cJ0_length_8abf5 1 (some .int)) B.pre
  have htg : ∀ w ∈ xg, w.before _ s = true := fun w h => hts w (List.mem_cons_of_mem _ h)
  have hown : s.vm.findClass RJ0 = some m.cls := findClass_of_methodNamed B.named
  have hlocks := B.notSynchronized
  subst hsz
  have hD := hD0.self (sz := s.heap.size)
  generalize hAe : va_A (pre_J0_length_8abf5_8 T a ex fi fl vi vl) s.heap.size = A at hD hQ hT
  have hA : ∀ q : Nat, s.heap.size ≤ q → A q := fun q h => by rw [← hAe]; exact Or.inr h
  have hS : va_S A s.heap s.heap [] := va_S.rf
  replace hP : va_P D vwCl [] s.heap := hP
  replace hD : va_D A [] := hD
  have hl := lv_entry ([.ref (kK 18)]) (n := 1) (Nat.le_of_ble_eq_true rfl)
  rw [lg_entry_eq]
  generalize (lg_sl ([.ref (kK 18)]) ++ List.replicate (1 - (lg_sl ([.ref (kK 18)])).length) Slot.unset).toArray = ls at hl ⊢
  replace hl : lv_has ls 1 [(0, .ref (kK 18))] := hl
  refine lv_aload_n hx hb dJ0_length_8abf5_0 rfl (lv_at hl 0 rfl) ?_
  refine vk_getf hx hb (hT.2.1 18 (by decide)).2.2.1 hS hown (htg _ kw_2030) (fun _ h9 => h9) dJ0_length_8abf5_1 ?_
  refine va_tlen (v := 4) hx hb (hT.2.1 18 (by decide)).2.2.2 hS (by decide) dJ0_length_8abf5_4 ?_
  refine lv_aload_n hx hb dJ0_length_8abf5_5 rfl (lv_at hl 0 rfl) ?_
  obtain ⟨hC9, hPc, hDc, hFc⟩ := xcut (wc := (pre_J0_coder_7d493_8 T (xa []) (xa []) (xf []) (xh []) (xv []) (xl []))) hP hD hS hA [] (by decide) rfl
  refine va_calli (va_runV (As := []) (rest := [.int 4]) ⟨hx, hb, hml, hown, htg⟩ (c_J0_coder_7d493_8 l D T (xa []) (xa []) (xf []) (xh []) (xv []) (xl []) kK kV s.heap.size) ⟨callB_of 0 htg (xg_ok kw_51) rfl rfl rfl (htg _ kw_3) (htg _ kw_48) (by decide +kernel) ⟨by rw [hR]; exact Nat.le_of_ble_eq_true rfl, by rw [hR]; exact Nat.le_of_ble_eq_true rfl⟩, htg _ kw_49, htg _ kw_50⟩ (xpreVs hK hPc hDc hT hFc hS (xT.recv hT 18 (by decide) hS)) rfl rfl hl.1 rfl (lv_room (Nat.le_of_ble_eq_true rfl)) dJ0_length_8abf5_6 ⟨by rw [hR]; exact Nat.le_of_ble_eq_true rfl, by rw [hR]; exact Nat.le_of_ble_eq_true rfl⟩) hS (fun q _ h => hFc q h) hFc (fun r9 u9 t H1 locs ht hvm hw hB hz1 hk1 hS => ?_)
  subst hw
  obtain ⟨fik, flk, vik, vlk, hP1, hD1, hG⟩ := hB
  rw [ht] at hP1
  obtain ⟨hP, hD⟩ := va_join (wr := []) (w1 := []) hP hD [] [] hC9 rfl (by decide) (by decide) hk1 hFc hP1 hD1
  obtain ⟨rk, er9⟩ : ∃ z, z = r9 := ⟨_, rfl⟩
  subst er9
  clear hPc hDc hFc hP1 hD1 hk1 hz1 hvm ht hC9
  generalize H1 = H at hP hS ⊢
  obtain ⟨hP, hD⟩ := (show xPD D A [] H from ⟨hP, hD⟩)
  obtain ⟨gk_0, -⟩ := hG
  replace gk_0 : rk = 0 := gk_0
  refine xz_i 0 gk_0 ?_
  refine lv_ishr hx hb dJ0_length_8abf5_9 ?_
  refine xz_i 4 (by decide) ?_
  have hP9 := hP.sub (ws' := []) [] rfl
  have hD9 := hD.sub (ws' := []) [] (by decide +kernel) rfl
  rw [hQ]
  exact W.iret (v := 4) hx hb hr (fun t ht hW => ⟨⟨4, 4, rfl, rfl, xf [], xh [], xv [], xl [], by rw [ht]; exact hP9, hD9, ⟨rfl, trivial⟩⟩, hS.F ht⟩) hS.2.2 dJ0_length_8abf5_10
abbrev pre_J0_isLatin1_aae02_8 (T : Nat → ClassId) (a ex : Nat → Nat) (fi : Nat → Nat → Int32) (fl : Nat → Nat → Int64) (vi : Nat → Int32) (vl : Nat → Int64) : va_W := []
set_option maxHeartbeats 8000000 in
set_option maxRecDepth 100000 in
theorem c_J0_isLatin1_aae02_8 (l : Launch) (D : va_G) (T : Nat → ClassId) (a ex : Nat → Nat) (fi : Nat → Nat → Int32) (fl : Nat → Nat → Int64) (vi : Nat → Int32) (vl : Nat → Int64) (kK kV : Nat → Nat) (sz : Nat) : Met l yJ0_isLatin1_aae02 (xw yJ0_isLatin1_aae02 cJ0_isLatin1_aae02 1 (some .boolean)) ({ frames := 0, cells := 0, slots := 0, locals := 0 }) (xPs D T kK kV [.ref (kK 18)] sz (pre_J0_isLatin1_aae02_8 T a ex fi fl vi vl)) (va_Qi (fun r u => r = u) (xC D (va_A (pre_J0_isLatin1_aae02_8 T a ex fi fl vi vl) sz) (fun fj fm vj vm => []) (fun (r : Int32) (fj : Nat → Nat → Int32) (fm : Nat → Nat → Int64) (vj : Nat → Int32) (vm : Nat → Int64) => r = 1 ∧ True)) (va_A (pre_J0_isLatin1_aae02_8 T a ex fi fl vi vl) sz)) 0 0 (va_A (pre_J0_isLatin1_aae02_8 T a ex fi fl vi vl) sz) := by
  refine xofW (cc := cJ0_isLatin1_aae02) (maxL := 1) (ret := (some .boolean)) (by decide) rfl ?_
  intro p e s m args below meth c s₁ R Q hR hQ B hml hv
  obtain ⟨rfl, hsz, hP, hK, hD0, hT⟩ := hv
  have hx := B.exec
  have hb := B.bytes
  have hr := B.returns
  have hts := atoms_spec (ws := xw yJ0_isLatin1_aae02 cJ0_isLatin1_aae02 1 (some .boolean)) B.pre
  have htg : ∀ w ∈ xg, w.before _ s = true := fun w h => hts w (List.mem_cons_of_mem _ h)
  have hown : s.vm.findClass RJ0 = some m.cls := findClass_of_methodNamed B.named
  have hlocks := B.notSynchronized
  subst hsz
  have hD := hD0.self (sz := s.heap.size)
  generalize hAe : va_A (pre_J0_isLatin1_aae02_8 T a ex fi fl vi vl) s.heap.size = A at hD hQ hT
  have hA : ∀ q : Nat, s.heap.size ≤ q → A q := fun q h => by rw [← hAe]; exact Or.inr h
  have hS : va_S A s.heap s.heap [] := va_S.rf
  replace hP : va_P D vwCl [] s.heap := hP
  replace hD : va_D A [] := hD
  have hl := lv_entry ([.ref (kK 18)]) (n := 1) (Nat.le_of_ble_eq_true rfl)
  rw [lg_entry_eq]
  generalize (lg_sl ([.ref (kK 18)]) ++ List.replicate (1 - (lg_sl ([.ref (kK 18)])).length) Slot.unset).toArray = ls at hl ⊢
  replace hl : lv_has ls 1 [(0, .ref (kK 18))] := hl
  refine va_gets hx hb hT.2.2.1 hS hown (htg _ kw_52) (fun _ h9 => h9) dJ0_isLatin1_aae02_0 ?_
  refine lv_if_eq (tgt := 17) hx hb dJ0_isLatin1_aae02_3 (by decide) (fun c => absurd c (by decide)) (fun _ => ?_)
  refine lv_aload_n hx hb dJ0_isLatin1_aae02_6 rfl (lv_at hl 0 rfl) ?_
  refine vk_getf hx hb (hT.2.1 18 (by decide)).2.1 hS hown (htg _ kw_2031) (fun _ h9 => h9) dJ0_isLatin1_aae02_7 ?_
  refine lv_if_ne (tgt := 17) hx hb dJ0_isLatin1_aae02_10 (by decide) (fun c => absurd (by decide) c) (fun _ => ?_)
  refine lv_iconst (v := 1) hx hb dJ0_isLatin1_aae02_13 (by decide) ?_
  refine lv_goto (tgt := 18) hx hb dJ0_isLatin1_aae02_14 (by decide) ?_
  have hP9 := hP.sub (ws' := []) [] rfl
  have hD9 := hD.sub (ws' := []) [] (by decide +kernel) rfl
  rw [hQ]
  exact W.zret (v := 1) hx hb hr rfl (fun t ht hW => ⟨⟨1, 1, rfl, rfl, xf [], xh [], xv [], xl [], by rw [ht]; exact hP9, hD9, ⟨rfl, trivial⟩⟩, hS.F ht⟩) hS.2.2 dJ0_isLatin1_aae02_18
abbrev pre_J1_charAt_3b067_8 (T : Nat → ClassId) (a ex : Nat → Nat) (fi : Nat → Nat → Int32) (fl : Nat → Nat → Int64) (vi : Nat → Int32) (vl : Nat → Int64) : va_W := []
set_option maxHeartbeats 8000000 in
set_option maxRecDepth 100000 in
theorem c_J1_charAt_3b067_8 (l : Launch) (D : va_G) (T : Nat → ClassId) (a ex : Nat → Nat) (fi : Nat → Nat → Int32) (fl : Nat → Nat → Int64) (vi : Nat → Int32) (vl : Nat → Int64) (kK kV : Nat → Nat) (sz : Nat) (hp0 : 0 ≤ (vi 0).toInt ∧ (vi 0).toInt ≤ 3) : Met l yJ1_charAt_3b067 (xw yJ1_charAt_3b067 cJ1_charAt_3b067 2 (some .char)) ({ frames := 2, cells := 0, slots := 0, locals := 51 }) (xPs D T kK kV [.ref (kV 18), .int (vi 0)] sz (pre_J1_charAt_3b067_8 T a ex fi fl vi vl)) (va_Qi (fun r u => r = u) (xC D (va_A (pre_J1_charAt_3b067_8 T a ex fi fl vi vl) sz) (fun fj fm vj vm => []) (fun (r : Int32) (fj : Nat → Nat → Int32) (fm : Nat → Nat → Int64) (vj : Nat → Int32) (vm : Nat → Int64) => narrow .char (.int r) = .int r ∧ True)) (va_A (pre_J1_charAt_3b067_8 T a ex fi fl vi vl) sz)) 0 0 (va_A (pre_J1_charAt_3b067_8 T a ex fi fl vi vl) sz) := by
  refine xofW (cc := cJ1_charAt_3b067) (maxL := 2) (ret := (some .char)) (by decide) rfl ?_
  intro p e s m args below meth c s₁ R Q hR hQ B hml hv
  obtain ⟨rfl, hsz, hP, hK, hD0, hT⟩ := hv
  have hx := B.exec
  have hb := B.bytes
  have hr := B.returns
  have hts := atoms_spec (ws := xw yJ1_charAt_3b067 cJ1_charAt_3b067 2 (some .char)) B.pre
  have htg : ∀ w ∈ xg, w.before _ s = true := fun w h => hts w (List.mem_cons_of_mem _ h)
  have hown : s.vm.findClass RJ1 = some m.cls := findClass_of_methodNamed B.named
  have hlocks := B.notSynchronized
  subst hsz
  have hD := hD0.self (sz := s.heap.size)
  generalize hAe : va_A (pre_J1_charAt_3b067_8 T a ex fi fl vi vl) s.heap.size = A at hD hQ hT
  have hA : ∀ q : Nat, s.heap.size ≤ q → A q := fun q h => by rw [← hAe]; exact Or.inr h
  have hS : va_S A s.heap s.heap [] := va_S.rf
  replace hP : va_P D vwCl [] s.heap := hP
  replace hD : va_D A [] := hD
  have hl := lv_entry ([.ref (kV 18), .int (vi 0)]) (n := 2) (Nat.le_of_ble_eq_true rfl)
  rw [lg_entry_eq]
  generalize (lg_sl ([.ref (kV 18), .int (vi 0)]) ++ List.replicate (2 - (lg_sl ([.ref (kV 18), .int (vi 0)])).length) Slot.unset).toArray = ls at hl ⊢
  replace hl : lv_has ls 2 [(0, .ref (kV 18)), (1, .int (vi 0))] := hl
  refine lv_iload_n hx hb dJ1_charAt_3b067_0 rfl (lv_at hl 1 rfl) ?_
  refine lv_aload_n hx hb dJ1_charAt_3b067_1 rfl (lv_at hl 0 rfl) ?_
  refine va_tlen (v := 4) hx hb (hT.2.1 18 (by decide)).2.2.2 hS (by decide) dJ1_charAt_3b067_2 ?_
  obtain ⟨hC9, hPc, hDc, hFc⟩ := xcut (wc := (pre_J0_checkIndex_df160_3 T (xa []) (xa []) (xf []) (xh []) (xv [(vi 0)]) (xl []))) hP hD hS hA [] (by decide) rfl
  refine va_callv (va_runS (As := [.int (vi 0), .int 4]) (rest := []) ⟨hx, hb, hml, hown, htg⟩ (c_J0_checkIndex_df160_3 l D T (xa []) (xa []) (xf []) (xh []) (xv [(vi 0)]) (xl []) kK kV s.heap.size hp0) ⟨callB_of 2 htg (xg_ok kw_67) rfl rfl rfl (htg _ kw_3) (htg _ kw_65) (by decide +kernel) ⟨by rw [hR]; exact Nat.le_of_ble_eq_true rfl, by rw [hR]; exact Nat.le_of_ble_eq_true rfl⟩, htg _ kw_66⟩ (xpreSs hK hPc hDc hT hFc hS) rfl rfl hl.1 rfl (lv_room (Nat.le_of_ble_eq_true rfl)) dJ1_charAt_3b067_3 ⟨by rw [hR]; exact Nat.le_of_ble_eq_true rfl, by rw [hR]; exact Nat.le_of_ble_eq_true rfl⟩) hS (fun q _ h => hFc q h) hFc (fun u9 t H1 locs ht hvm hw hB hz1 hk1 hS => ?_)
  obtain ⟨fik, flk, vik, vlk, hP1, hD1, hG⟩ := hB
  rw [ht] at hP1
  obtain ⟨hP, hD⟩ := va_join (wr := []) (w1 := []) hP hD [] [] hC9 rfl (by decide) (by decide) hk1 hFc hP1 hD1
  clear hPc hDc hFc hP1 hD1 hk1 hz1 hvm ht hC9
  generalize H1 = H at hP hS ⊢
  obtain ⟨hP, hD⟩ := (show xPD D A [] H from ⟨hP, hD⟩)
  clear hG
  refine lv_aload_n hx hb dJ1_charAt_3b067_6 rfl (lv_at hl 0 rfl) ?_
  refine lv_iload_n hx hb dJ1_charAt_3b067_7 rfl (lv_at hl 1 rfl) ?_
  refine va_tb hx hb (hT.2.1 18 (by decide)).2.2.2 hS (show vp_in (vi 0) 4 from (vp_in_iff.mpr (by omega))) rfl dJ1_charAt_3b067_8 ?_
  refine lv_topi (fun z8 _ => ?_)
  refine lv_sipush (v := 255) hx hb dJ1_charAt_3b067_9 (by decide) ?_
  refine lv_iand hx hb dJ1_charAt_3b067_12 ?_
  refine lv_topi (fun z12 ez12 => ?_)
  have tz12 : 0 ≤ z12.toInt ∧ z12.toInt ≤ 255 := by rw [ez12]; exact xand255 _
  refine lv_i2c hx hb dJ1_charAt_3b067_13 rfl ?_
  refine lv_topi (fun z13 ez13 => ?_)
  have nz13 : narrow .char (.int z13) = .int z13 := by rw [ez13]; exact pk_nc _
  have hP9 := hP.sub (ws' := []) [] rfl
  have hD9 := hD.sub (ws' := []) [] (by decide +kernel) rfl
  rw [hQ]
  exact W.zret (v := z13) hx hb hr nz13 (fun t ht hW => ⟨⟨z13, z13, rfl, rfl, xf [], xh [], xv [], xl [], by rw [ht]; exact hP9, hD9, ⟨nz13, trivial⟩⟩, hS.F ht⟩) hS.2.2 dJ1_charAt_3b067_14
abbrev pre_J0_charAt_5068e_8 (T : Nat → ClassId) (a ex : Nat → Nat) (fi : Nat → Nat → Int32) (fl : Nat → Nat → Int64) (vi : Nat → Int32) (vl : Nat → Int64) : va_W := []
set_option maxHeartbeats 8000000 in
set_option maxRecDepth 100000 in
theorem c_J0_charAt_5068e_8 (l : Launch) (D : va_G) (T : Nat → ClassId) (a ex : Nat → Nat) (fi : Nat → Nat → Int32) (fl : Nat → Nat → Int64) (vi : Nat → Int32) (vl : Nat → Int64) (kK kV : Nat → Nat) (sz : Nat) (hp0 : 0 ≤ (vi 0).toInt ∧ (vi 0).toInt ≤ 3) : Met l yJ0_charAt_5068e (xw yJ0_charAt_5068e cJ0_charAt_5068e 2 (some .char)) ({ frames := 3, cells := 0, slots := 0, locals := 76 }) (xPs D T kK kV [.ref (kK 18), .int (vi 0)] sz (pre_J0_charAt_5068e_8 T a ex fi fl vi vl)) (va_Qi (fun r u => r = u) (xC D (va_A (pre_J0_charAt_5068e_8 T a ex fi fl vi vl) sz) (fun fj fm vj vm => []) (fun (r : Int32) (fj : Nat → Nat → Int32) (fm : Nat → Nat → Int64) (vj : Nat → Int32) (vm : Nat → Int64) => narrow .char (.int r) = .int r ∧ True)) (va_A (pre_J0_charAt_5068e_8 T a ex fi fl vi vl) sz)) 0 0 (va_A (pre_J0_charAt_5068e_8 T a ex fi fl vi vl) sz) := by
  refine xofW (cc := cJ0_charAt_5068e) (maxL := 2) (ret := (some .char)) (by decide) rfl ?_
  intro p e s m args below meth c s₁ R Q hR hQ B hml hv
  obtain ⟨rfl, hsz, hP, hK, hD0, hT⟩ := hv
  have hx := B.exec
  have hb := B.bytes
  have hr := B.returns
  have hts := atoms_spec (ws := xw yJ0_charAt_5068e cJ0_charAt_5068e 2 (some .char)) B.pre
  have htg : ∀ w ∈ xg, w.before _ s = true := fun w h => hts w (List.mem_cons_of_mem _ h)
  have hown : s.vm.findClass RJ0 = some m.cls := findClass_of_methodNamed B.named
  have hlocks := B.notSynchronized
  subst hsz
  have hD := hD0.self (sz := s.heap.size)
  generalize hAe : va_A (pre_J0_charAt_5068e_8 T a ex fi fl vi vl) s.heap.size = A at hD hQ hT
  have hA : ∀ q : Nat, s.heap.size ≤ q → A q := fun q h => by rw [← hAe]; exact Or.inr h
  have hS : va_S A s.heap s.heap [] := va_S.rf
  replace hP : va_P D vwCl [] s.heap := hP
  replace hD : va_D A [] := hD
  have hl := lv_entry ([.ref (kK 18), .int (vi 0)]) (n := 2) (Nat.le_of_ble_eq_true rfl)
  rw [lg_entry_eq]
  generalize (lg_sl ([.ref (kK 18), .int (vi 0)]) ++ List.replicate (2 - (lg_sl ([.ref (kK 18), .int (vi 0)])).length) Slot.unset).toArray = ls at hl ⊢
  replace hl : lv_has ls 2 [(0, .ref (kK 18)), (1, .int (vi 0))] := hl
  refine lv_aload_n hx hb dJ0_charAt_5068e_0 rfl (lv_at hl 0 rfl) ?_
  obtain ⟨hC9, hPc, hDc, hFc⟩ := xcut (wc := (pre_J0_isLatin1_aae02_8 T (xa []) (xa []) (xf []) (xh []) (xv []) (xl []))) hP hD hS hA [] (by decide) rfl
  refine va_calli (va_runV (As := []) (rest := []) ⟨hx, hb, hml, hown, htg⟩ (c_J0_isLatin1_aae02_8 l D T (xa []) (xa []) (xf []) (xh []) (xv []) (xl []) kK kV s.heap.size) ⟨callB_of 0 htg (xg_ok kw_61) rfl rfl rfl (htg _ kw_3) (htg _ kw_58) (by decide +kernel) ⟨by rw [hR]; exact Nat.le_of_ble_eq_true rfl, by rw [hR]; exact Nat.le_of_ble_eq_true rfl⟩, htg _ kw_59, htg _ kw_60⟩ (xpreVs hK hPc hDc hT hFc hS (xT.recv hT 18 (by decide) hS)) rfl rfl hl.1 rfl (lv_room (Nat.le_of_ble_eq_true rfl)) dJ0_charAt_5068e_1 ⟨by rw [hR]; exact Nat.le_of_ble_eq_true rfl, by rw [hR]; exact Nat.le_of_ble_eq_true rfl⟩) hS (fun q _ h => hFc q h) hFc (fun r9 u9 t H1 locs ht hvm hw hB hz1 hk1 hS => ?_)
  subst hw
  obtain ⟨fik, flk, vik, vlk, hP1, hD1, hG⟩ := hB
  rw [ht] at hP1
  obtain ⟨hP, hD⟩ := va_join (wr := []) (w1 := []) hP hD [] [] hC9 rfl (by decide) (by decide) hk1 hFc hP1 hD1
  obtain ⟨rk, er9⟩ : ∃ z, z = r9 := ⟨_, rfl⟩
  subst er9
  clear hPc hDc hFc hP1 hD1 hk1 hz1 hvm ht hC9
  generalize H1 = H at hP hS ⊢
  obtain ⟨hP, hD⟩ := (show xPD D A [] H from ⟨hP, hD⟩)
  obtain ⟨gk_0, -⟩ := hG
  replace gk_0 : rk = 1 := gk_0
  refine xz_i 1 gk_0 ?_
  refine lv_if_eq (tgt := 16) hx hb dJ0_charAt_5068e_4 (by decide) (fun c => absurd c (by decide)) (fun _ => ?_)
  refine lv_aload_n hx hb dJ0_charAt_5068e_7 rfl (lv_at hl 0 rfl) ?_
  refine vk_getf hx hb (hT.2.1 18 (by decide)).2.2.1 hS hown (htg _ kw_2030) (fun _ h9 => h9) dJ0_charAt_5068e_8 ?_
  refine lv_iload_n hx hb dJ0_charAt_5068e_11 rfl (lv_at hl 1 rfl) ?_
  obtain ⟨hC9, hPc, hDc, hFc⟩ := xcut (wc := (pre_J1_charAt_3b067_8 T (xa []) (xa []) (xf []) (xh []) (xv [(vi 0)]) (xl []))) hP hD hS hA [] (by decide) rfl
  refine va_calli (va_runS (As := [.ref (kV 18), .int (vi 0)]) (rest := []) ⟨hx, hb, hml, hown, htg⟩ (c_J1_charAt_3b067_8 l D T (xa []) (xa []) (xf []) (xh []) (xv [(vi 0)]) (xl []) kK kV H.size hp0) ⟨callB_of 2 htg (xg_ok kw_64) rfl rfl rfl (htg _ kw_4) (htg _ kw_62) (by decide +kernel) ⟨by rw [hR]; exact Nat.le_of_ble_eq_true rfl, by rw [hR]; exact Nat.le_of_ble_eq_true rfl⟩, htg _ kw_63⟩ (xpreSs hK hPc hDc hT hFc hS) rfl rfl hl.1 rfl (lv_room (Nat.le_of_ble_eq_true rfl)) dJ0_charAt_5068e_12 ⟨by rw [hR]; exact Nat.le_of_ble_eq_true rfl, by rw [hR]; exact Nat.le_of_ble_eq_true rfl⟩) hS (fun q _ h => hFc q h) hFc (fun r9 u9 t H1 locs ht hvm hw hB hz1 hk1 hS => ?_)
  subst hw
  obtain ⟨fik_1, flk_1, vik_1, vlk_1, hP1, hD1, hG⟩ := hB
  rw [ht] at hP1
  obtain ⟨hP, hD⟩ := va_join (wr := []) (w1 := []) hP hD [] [] hC9 rfl (by decide) (by decide) hk1 hFc hP1 hD1
  obtain ⟨rk_1, er9⟩ : ∃ z, z = r9 := ⟨_, rfl⟩
  subst er9
  clear hPc hDc hFc hP1 hD1 hk1 hz1 hvm ht hC9
  generalize H1 = H at hP hS ⊢
  obtain ⟨hP, hD⟩ := (show xPD D A [] H from ⟨hP, hD⟩)
  obtain ⟨gk_1_0, -⟩ := hG
  replace gk_1_0 : narrow .char (.int rk_1) = .int rk_1 := gk_1_0
  have hP9 := hP.sub (ws' := []) [] rfl
  have hD9 := hD.sub (ws' := []) [] (by decide +kernel) rfl
  rw [hQ]
  exact W.zret (v := rk_1) hx hb hr gk_1_0 (fun t ht hW => ⟨⟨rk_1, rk_1, rfl, rfl, xf [], xh [], xv [], xl [], by rw [ht]; exact hP9, hD9, ⟨gk_1_0, trivial⟩⟩, hS.F ht⟩) hS.2.2 dJ0_charAt_5068e_15
abbrev pre_X6_isWord_8 (T : Nat → ClassId) (a ex : Nat → Nat) (fi : Nat → Nat → Int32) (fl : Nat → Nat → Int64) (vi : Nat → Int32) (vl : Nat → Int64) : va_W := [((a 0), .inr (6, [.ref (ex 0), .ref (ex 1), .int (vi 0), .int (vi 1), .int (vi 2), .int (vi 3), .int (vi 4), .int (vi 5), .long (vl 0), .int (vi 6), .int (vi 7), .int (vi 8), .int (vi 9), .int (vi 10)]))]
set_option maxHeartbeats 8000000 in
set_option maxRecDepth 100000 in
theorem c_X6_isWord_8 (l : Launch) (D : va_G) (T : Nat → ClassId) (a ex : Nat → Nat) (fi : Nat → Nat → Int32) (fl : Nat → Nat → Int64) (vi : Nat → Int32) (vl : Nat → Int64) (kK kV : Nat → Nat) (sz : Nat) (hp0 : 0 ≤ (vi 1).toInt ∧ (vi 1).toInt ≤ 940) (hp1 : 0 ≤ (vi 3).toInt ∧ (vi 3).toInt ≤ 940) : Met l yX6_isWord (xw yX6_isWord cX6_isWord 5 (some .boolean)) ({ frames := 4, cells := 0, slots := 0, locals := 101 }) (xPs D T kK kV [.ref (a 0), .ref (kK 18)] sz (pre_X6_isWord_8 T a ex fi fl vi vl)) (va_Qi (fun r u => r = u) (xC D (va_A (pre_X6_isWord_8 T a ex fi fl vi vl) sz) (fun fj fm vj vm => [((a 0), .inr (6, [.ref (ex 0), .ref (ex 1), .int (vi 0), .int (vi 1), .int (vi 2), .int (vi 3), .int (vi 4), .int (vi 5), .long (vl 0), .int (vi 6), .int (vi 7), .int (vi 8), .int (vi 9), .int (vi 10)]))]) (fun (r : Int32) (fj : Nat → Nat → Int32) (fm : Nat → Nat → Int64) (vj : Nat → Int32) (vm : Nat → Int64) => ((r = 1 ∧ (True)) ∨ (r = 0 ∧ (True))) ∧ True)) (va_A (pre_X6_isWord_8 T a ex fi fl vi vl) sz)) 0 0 (va_A (pre_X6_isWord_8 T a ex fi fl vi vl) sz) := by
  refine xofW (cc := cX6_isWord) (maxL := 5) (ret := (some .boolean)) (by decide) rfl ?_
  intro p e s m args below meth c s₁ R Q hR hQ B hml hv
  obtain ⟨rfl, hsz, hP, hK, hD0, hT⟩ := hv
  have hx := B.exec
  have hb := B.bytes
  have hr := B.returns
  have hts := atoms_spec (ws := xw yX6_isWord cX6_isWord 5 (some .boolean)) B.pre
  have htg : ∀ w ∈ xg, w.before _ s = true := fun w h => hts w (List.mem_cons_of_mem _ h)
  have hown : s.vm.findClass RX6 = some m.cls := findClass_of_methodNamed B.named
  have hlocks := B.notSynchronized
  subst hsz
  have hD := hD0.self (sz := s.heap.size)
  generalize hAe : va_A (pre_X6_isWord_8 T a ex fi fl vi vl) s.heap.size = A at hD hQ hT
  have hA : ∀ q : Nat, s.heap.size ≤ q → A q := fun q h => by rw [← hAe]; exact Or.inr h
  have hS : va_S A s.heap s.heap [] := va_S.rf
  replace hP : va_P D vwCl [((a 0), .inr (6, [.ref (ex 0), .ref (ex 1), .int (vi 0), .int (vi 1), .int (vi 2), .int (vi 3), .int (vi 4), .int (vi 5), .long (vl 0), .int (vi 6), .int (vi 7), .int (vi 8), .int (vi 9), .int (vi 10)]))] s.heap := hP
  replace hD : va_D A [((a 0), .inr (6, [.ref (ex 0), .ref (ex 1), .int (vi 0), .int (vi 1), .int (vi 2), .int (vi 3), .int (vi 4), .int (vi 5), .long (vl 0), .int (vi 6), .int (vi 7), .int (vi 8), .int (vi 9), .int (vi 10)]))] := hD
  have hl := lv_entry ([.ref (a 0), .ref (kK 18)]) (n := 5) (Nat.le_of_ble_eq_true rfl)
  rw [lg_entry_eq]
  generalize (lg_sl ([.ref (a 0), .ref (kK 18)]) ++ List.replicate (5 - (lg_sl ([.ref (a 0), .ref (kK 18)])).length) Slot.unset).toArray = ls at hl ⊢
  replace hl : lv_has ls 5 [(0, .ref (a 0)), (1, .ref (kK 18))] := hl
  refine lv_lconst (v := 0) hx hb dX6_isWord_0 (by decide) ?_
  refine lv_lstore_n (lv' := [(2, .long 0), (0, .ref (a 0)), (1, .ref (kK 18))]) hx hb dX6_isWord_1 rfl hl (by decide) rfl (fun ls hl => ?_)
  refine lv_iconst (v := 0) hx hb dX6_isWord_2 (by decide) ?_
  refine lv_istore (lv' := [(4, .int 0), (2, .long 0), (0, .ref (a 0)), (1, .ref (kK 18))]) hx hb dX6_isWord_3 hl (by decide) rfl (fun ls hl => ?_)
  have lp : ∀ (kn : Nat) (w4 : Int32) (w2 : Int64) (H : Heap) (locs : List Loc) (ls : Array Slot), (0 ≤ w4.toInt) → (2147483648 - w4.toInt).toNat = kn → va_P D vwCl [((a 0), .inr (6, [.ref (ex 0), .ref (ex 1), .int (vi 0), .int (vi 1), .int (vi 2), .int (vi 3), .int (vi 4), .int (vi 5), .long (vl 0), .int (vi 6), .int (vi 7), .int (vi 8), .int (vi 9), .int (vi 10)]))] H → va_D A [((a 0), .inr (6, [.ref (ex 0), .ref (ex 1), .int (vi 0), .int (vi 1), .int (vi 2), .int (vi 3), .int (vi 4), .int (vi 5), .long (vl 0), .int (vi 6), .int (vi 7), .int (vi 8), .int (vi 9), .int (vi 10)]))] → va_S A s.heap H locs → lv_has ls 5 [(4, .int w4), (2, .long w2), (0, .ref (a 0)), (1, .ref (kK 18))] → W p l e R s m ([.ref (a 0), .ref (kK 18)] : List Value).toArray below meth c H locs 0 0 Q (F0 m 5 ls []) := by
    intro kn
    induction kn using Nat.strongRecOn with
    | _ kn ih =>
      intro w4 w2 H locs ls hi hm hP hD hS hl
      refine lv_iload hx hb dX6_isWord_5 (lv_at hl 0 rfl) ?_
      refine lv_aload_n hx hb dX6_isWord_7 rfl (lv_at hl 3 rfl) ?_
      obtain ⟨hC9, hPc, hDc, hFc⟩ := xcut (wc := (pre_J0_length_8abf5_8 T (xa []) (xa []) (xf []) (xh []) (xv []) (xl []))) hP hD hS hA [] (by decide) rfl
      refine va_calli (va_runV (As := []) (rest := [.int w4]) ⟨hx, hb, hml, hown, htg⟩ (c_J0_length_8abf5_8 l D T (xa []) (xa []) (xf []) (xh []) (xv []) (xl []) kK kV H.size) ⟨callB_of 0 htg (xg_ok kw_47) rfl rfl rfl (htg _ kw_3) (htg _ kw_44) (by decide +kernel) ⟨by rw [hR]; exact Nat.le_of_ble_eq_true rfl, by rw [hR]; exact Nat.le_of_ble_eq_true rfl⟩, htg _ kw_45, htg _ kw_46⟩ (xpreVs hK hPc hDc hT hFc hS (xT.recv hT 18 (by decide) hS)) rfl rfl hl.1 rfl (lv_room (Nat.le_of_ble_eq_true rfl)) dX6_isWord_8 ⟨by rw [hR]; exact Nat.le_of_ble_eq_true rfl, by rw [hR]; exact Nat.le_of_ble_eq_true rfl⟩) hS (fun q _ h => hFc q h) hFc (fun r9 u9 t H1 locs ht hvm hw hB hz1 hk1 hS => ?_)
      subst hw
      obtain ⟨fik, flk, vik, vlk, hP1, hD1, hG⟩ := hB
      rw [ht] at hP1
      obtain ⟨hP, hD⟩ := va_join (wr := [((a 0), .inr (6, [.ref (ex 0), .ref (ex 1), .int (vi 0), .int (vi 1), .int (vi 2), .int (vi 3), .int (vi 4), .int (vi 5), .long (vl 0), .int (vi 6), .int (vi 7), .int (vi 8), .int (vi 9), .int (vi 10)]))]) (w1 := []) hP hD [] [0] hC9 rfl (by decide) (by decide) hk1 hFc hP1 hD1
      obtain ⟨rk, er9⟩ : ∃ z, z = r9 := ⟨_, rfl⟩
      subst er9
      clear hPc hDc hFc hP1 hD1 hk1 hz1 hvm ht hC9
      generalize H1 = H at hP hS ⊢
      obtain ⟨hP, hD⟩ := (show xPD D A [((a 0), .inr (6, [.ref (ex 0), .ref (ex 1), .int (vi 0), .int (vi 1), .int (vi 2), .int (vi 3), .int (vi 4), .int (vi 5), .long (vl 0), .int (vi 6), .int (vi 7), .int (vi 8), .int (vi 9), .int (vi 10)]))] H from ⟨hP, hD⟩)
      obtain ⟨gk_0, -⟩ := hG
      replace gk_0 : rk = 4 := gk_0
      refine xz_i 4 gk_0 ?_
      refine lv_icmp_ge (tgt := 33) hx hb dX6_isWord_11 (by decide) (fun c11 => ?_) (fun c11 => ?_)
      · have c11 := xge (k := 4) (by decide) c11
        refine lv_aload_n hx hb dX6_isWord_33 rfl (lv_at hl 2 rfl) ?_
        refine va_get (D := D) (ci := 6) (v := .int (vi 4)) (C := RX6) (T := TX6) (N := 14) hx hb htg inX6 hown hK.1 hP 0 rfl rfl 6 (by decide) (htg _ kw_104) (fun _ h9 => h9) rfl dX6_isWord_34 ?_
        refine lv_iconst (v := 1) hx hb dX6_isWord_37 (by decide) ?_
        refine lv_icmp_ne (tgt := 54) hx hb dX6_isWord_38 (by decide) (fun c38 => ?_) (fun c38 => ?_)
        · have c38 := xne (k := 1) (by decide) c38
          refine lv_iconst (v := 0) hx hb dX6_isWord_54 (by decide) ?_
          have hP9 := hP.sub (ws' := [((a 0), .inr (6, [.ref (ex 0), .ref (ex 1), .int (vi 0), .int (vi 1), .int (vi 2), .int (vi 3), .int (vi 4), .int (vi 5), .long (vl 0), .int (vi 6), .int (vi 7), .int (vi 8), .int (vi 9), .int (vi 10)]))]) [0] rfl
          have hD9 := hD.sub (ws' := [((a 0), .inr (6, [.ref (ex 0), .ref (ex 1), .int (vi 0), .int (vi 1), .int (vi 2), .int (vi 3), .int (vi 4), .int (vi 5), .long (vl 0), .int (vi 6), .int (vi 7), .int (vi 8), .int (vi 9), .int (vi 10)]))]) [0] (by decide +kernel) rfl
          rw [hQ]
          exact W.zret (v := 0) hx hb hr rfl (fun t ht hW => ⟨⟨0, 0, rfl, rfl, xf [], xh [], xv [], xl [], by rw [ht]; exact hP9, hD9, ⟨(Or.inr ⟨rfl, by show True; first | trivial | omega | assumption⟩), trivial⟩⟩, hS.F ht⟩) hS.2.2 dX6_isWord_55
        · have c38 := xeq (k := 1) (by decide) c38
          refine lv_lload_n hx hb dX6_isWord_41 rfl (lv_at hl 1 rfl) ?_
          refine lv_aload_n hx hb dX6_isWord_42 rfl (lv_at hl 2 rfl) ?_
          refine va_get (D := D) (ci := 6) (v := .long (vl 0)) (C := RX6) (T := TX6) (N := 14) hx hb htg inX6 hown hK.1 hP 0 rfl rfl 8 (by decide) (htg _ kw_108) (fun _ h9 => h9) rfl dX6_isWord_43 ?_
          refine W.lcmp hx hb dX6_isWord_46 ?_
          refine lv_topi (fun z46 ez46 => ?_)
          refine lv_if_ne (tgt := 54) hx hb dX6_isWord_47 (by decide) (fun c47 => ?_) (fun c47 => ?_)
          · have c47 := xne (k := 0) (by decide) c47
            refine lv_iconst (v := 0) hx hb dX6_isWord_54 (by decide) ?_
            have hP9 := hP.sub (ws' := [((a 0), .inr (6, [.ref (ex 0), .ref (ex 1), .int (vi 0), .int (vi 1), .int (vi 2), .int (vi 3), .int (vi 4), .int (vi 5), .long (vl 0), .int (vi 6), .int (vi 7), .int (vi 8), .int (vi 9), .int (vi 10)]))]) [0] rfl
            have hD9 := hD.sub (ws' := [((a 0), .inr (6, [.ref (ex 0), .ref (ex 1), .int (vi 0), .int (vi 1), .int (vi 2), .int (vi 3), .int (vi 4), .int (vi 5), .long (vl 0), .int (vi 6), .int (vi 7), .int (vi 8), .int (vi 9), .int (vi 10)]))]) [0] (by decide +kernel) rfl
            rw [hQ]
            exact W.zret (v := 0) hx hb hr rfl (fun t ht hW => ⟨⟨0, 0, rfl, rfl, xf [], xh [], xv [], xl [], by rw [ht]; exact hP9, hD9, ⟨(Or.inr ⟨rfl, by show True; first | trivial | omega | assumption⟩), trivial⟩⟩, hS.F ht⟩) hS.2.2 dX6_isWord_55
          · have c47 := xeq (k := 0) (by decide) c47
            refine lv_iconst (v := 1) hx hb dX6_isWord_50 (by decide) ?_
            refine lv_goto (tgt := 55) hx hb dX6_isWord_51 (by decide) ?_
            have hP9 := hP.sub (ws' := [((a 0), .inr (6, [.ref (ex 0), .ref (ex 1), .int (vi 0), .int (vi 1), .int (vi 2), .int (vi 3), .int (vi 4), .int (vi 5), .long (vl 0), .int (vi 6), .int (vi 7), .int (vi 8), .int (vi 9), .int (vi 10)]))]) [0] rfl
            have hD9 := hD.sub (ws' := [((a 0), .inr (6, [.ref (ex 0), .ref (ex 1), .int (vi 0), .int (vi 1), .int (vi 2), .int (vi 3), .int (vi 4), .int (vi 5), .long (vl 0), .int (vi 6), .int (vi 7), .int (vi 8), .int (vi 9), .int (vi 10)]))]) [0] (by decide +kernel) rfl
            rw [hQ]
            exact W.zret (v := 1) hx hb hr rfl (fun t ht hW => ⟨⟨1, 1, rfl, rfl, xf [], xh [], xv [], xl [], by rw [ht]; exact hP9, hD9, ⟨(Or.inl ⟨rfl, by show True; first | trivial | omega | assumption⟩), trivial⟩⟩, hS.F ht⟩) hS.2.2 dX6_isWord_55
      · have c11 := xnge (k := 4) (by decide) c11
        refine lv_lload_n hx hb dX6_isWord_14 rfl (lv_at hl 1 rfl) ?_
        refine lv_bipush (v := 8) hx hb dX6_isWord_15 (by decide) ?_
        refine lv_lshl hx hb dX6_isWord_17 rfl ?_
        refine lv_topl (fun z17 ez17 => ?_)
        refine lv_aload_n hx hb dX6_isWord_18 rfl (lv_at hl 3 rfl) ?_
        refine lv_iload hx hb dX6_isWord_19 (lv_at hl 0 rfl) ?_
        obtain ⟨hC9, hPc, hDc, hFc⟩ := xcut (wc := (pre_J0_charAt_5068e_8 T (xa []) (xa []) (xf []) (xh []) (xv [w4]) (xl []))) hP hD hS hA [] (by decide) rfl
        refine va_calli (va_runV (As := [.int w4]) (rest := [.long z17]) ⟨hx, hb, hml, hown, htg⟩ (c_J0_charAt_5068e_8 l D T (xa []) (xa []) (xf []) (xh []) (xv [w4]) (xl []) kK kV H.size (by show 0 ≤ w4.toInt ∧ w4.toInt ≤ 3; omega)) ⟨callB_of 1 htg (xg_ok kw_57) rfl rfl rfl (htg _ kw_3) (htg _ kw_54) (by decide +kernel) ⟨by rw [hR]; exact Nat.le_of_ble_eq_true rfl, by rw [hR]; exact Nat.le_of_ble_eq_true rfl⟩, htg _ kw_55, htg _ kw_56⟩ (xpreVs hK hPc hDc hT hFc hS (xT.recv hT 18 (by decide) hS)) rfl rfl hl.1 rfl (lv_room (Nat.le_of_ble_eq_true rfl)) dX6_isWord_21 ⟨by rw [hR]; exact Nat.le_of_ble_eq_true rfl, by rw [hR]; exact Nat.le_of_ble_eq_true rfl⟩) hS (fun q _ h => hFc q h) hFc (fun r9 u9 t H1 locs ht hvm hw hB hz1 hk1 hS => ?_)
        subst hw
        obtain ⟨fik_1, flk_1, vik_1, vlk_1, hP1, hD1, hG⟩ := hB
        rw [ht] at hP1
        obtain ⟨hP, hD⟩ := va_join (wr := [((a 0), .inr (6, [.ref (ex 0), .ref (ex 1), .int (vi 0), .int (vi 1), .int (vi 2), .int (vi 3), .int (vi 4), .int (vi 5), .long (vl 0), .int (vi 6), .int (vi 7), .int (vi 8), .int (vi 9), .int (vi 10)]))]) (w1 := []) hP hD [] [0] hC9 rfl (by decide) (by decide) hk1 hFc hP1 hD1
        obtain ⟨rk_1, er9⟩ : ∃ z, z = r9 := ⟨_, rfl⟩
        subst er9
        clear hPc hDc hFc hP1 hD1 hk1 hz1 hvm ht hC9
        generalize H1 = H at hP hS ⊢
        obtain ⟨hP, hD⟩ := (show xPD D A [((a 0), .inr (6, [.ref (ex 0), .ref (ex 1), .int (vi 0), .int (vi 1), .int (vi 2), .int (vi 3), .int (vi 4), .int (vi 5), .long (vl 0), .int (vi 6), .int (vi 7), .int (vi 8), .int (vi 9), .int (vi 10)]))] H from ⟨hP, hD⟩)
        obtain ⟨gk_1_0, -⟩ := hG
        replace gk_1_0 : narrow .char (.int rk_1) = .int rk_1 := gk_1_0
        refine lv_i2l hx hb dX6_isWord_24 rfl ?_
        refine lv_topl (fun z24 ez24 => ?_)
        refine lv_lor hx hb dX6_isWord_25 ?_
        refine lv_topl (fun z25 ez25 => ?_)
        refine lv_lstore_n (lv' := [(2, .long z25), (4, .int w4), (0, .ref (a 0)), (1, .ref (kK 18))]) hx hb dX6_isWord_26 rfl hl (by decide) rfl (fun ls hl => ?_)
        obtain ⟨i27, ei27⟩ : ∃ z : Int32, w4 + Int32.ofInt 1 = z := ⟨_, rfl⟩
        have ti27 : i27.toInt = w4.toInt + 1 := by rw [← ei27]; have h79 := xrng w4; exact xadd rfl (by decide) (by omega) (by omega)
        refine lv_iinc (v := i27) (lv' := [(4, .int i27), (2, .long z25), (0, .ref (a 0)), (1, .ref (kK 18))]) hx hb dX6_isWord_27 hl (k := 1) rfl ei27 (by decide) rfl (fun ls hl => ?_)
        refine lv_goto (tgt := 5) hx hb dX6_isWord_30 (by decide) ?_
        exact ih _ (by omega) i27 z25 _ _ _ (by show 0 ≤ i27.toInt; omega) rfl (hP.sub [0] rfl) (hD.sub [0] (by decide) rfl) hS (lv_sub hl [0, 1, 2, 3] rfl)
  exact lp _ (0 : Int32) (0 : Int64) _ _ _ (show 0 ≤ (0 : Int32).toInt by decide) rfl hP hD hS hl
abbrev pre_X4_setSort_8 (T : Nat → ClassId) (a ex : Nat → Nat) (fi : Nat → Nat → Int32) (fl : Nat → Nat → Int64) (vi : Nat → Int32) (vl : Nat → Int64) : va_W := [((a 0), .inr (4, [.ref (ex 0), .ref (ex 1), .ref (a 1), .ref (ex 2), .ref (ex 3), .int (vi 0), .int (vi 1), .int (vi 2), .int (vi 3), .int (vi 4), .int (vi 5)])), ((a 1), .inl (T 1, 40, .inl (fi 0)))]
set_option maxHeartbeats 8000000 in
set_option maxRecDepth 100000 in
theorem c_X4_setSort_8 (l : Launch) (D : va_G) (T : Nat → ClassId) (a ex : Nat → Nat) (fi : Nat → Nat → Int32) (fl : Nat → Nat → Int64) (vi : Nat → Int32) (vl : Nat → Int64) (sz : Nat) (hp0 : 0 ≤ (vi 0).toInt ∧ (vi 0).toInt ≤ 40) (hp1 : (vi 0).toInt ≤ 39) : Met l yX4_setSort (xw yX4_setSort cX4_setSort 2 (some .boolean)) ({ frames := 0, cells := 0, slots := 0, locals := 0 }) (xP D T [.ref (a 0), .int 5] sz (pre_X4_setSort_8 T a ex fi fl vi vl)) (va_Qi (fun r u => r = u) (xC D (va_A (pre_X4_setSort_8 T a ex fi fl vi vl) sz) (fun fj fm vj vm => [((a 0), .inr (4, [.ref (ex 0), .ref (ex 1), .ref (a 1), .ref (ex 2), .ref (ex 3), .int (vi 0), .int (vi 1), .int (vi 2), .int (vi 3), .int (vi 4), .int (vi 5)])), ((a 1), .inl (T 1, 40, .inl (fj 0)))]) (fun (r : Int32) (fj : Nat → Nat → Int32) (fm : Nat → Nat → Int64) (vj : Nat → Int32) (vm : Nat → Int64) => r = 1 ∧ (∀ j : Nat, ¬ j = ((vi 0)).toNatClampNeg → (fj 0) j = (fi 0) j) ∧ (((fj 0) ((vi 0)).toNatClampNeg).toInt = (5 : Int32).toInt) ∧ True)) (va_A (pre_X4_setSort_8 T a ex fi fl vi vl) sz)) 0 0 (va_A (pre_X4_setSort_8 T a ex fi fl vi vl) sz) := by
  refine xofW (cc := cX4_setSort) (maxL := 2) (ret := (some .boolean)) (by decide) rfl ?_
  intro p e s m args below meth c s₁ R Q hR hQ B hml hv
  obtain ⟨rfl, hsz, hP, hK, hD0⟩ := hv
  have hx := B.exec
  have hb := B.bytes
  have hr := B.returns
  have hts := atoms_spec (ws := xw yX4_setSort cX4_setSort 2 (some .boolean)) B.pre
  have htg : ∀ w ∈ xg, w.before _ s = true := fun w h => hts w (List.mem_cons_of_mem _ h)
  have hown : s.vm.findClass RX4 = some m.cls := findClass_of_methodNamed B.named
  have hlocks := B.notSynchronized
  subst hsz
  have hD := hD0.self (sz := s.heap.size)
  generalize hAe : va_A (pre_X4_setSort_8 T a ex fi fl vi vl) s.heap.size = A at hD hQ
  have hA : ∀ q : Nat, s.heap.size ≤ q → A q := fun q h => by rw [← hAe]; exact Or.inr h
  have hS : va_S A s.heap s.heap [] := va_S.rf
  replace hP : va_P D vwCl [((a 0), .inr (4, [.ref (ex 0), .ref (ex 1), .ref (a 1), .ref (ex 2), .ref (ex 3), .int (vi 0), .int (vi 1), .int (vi 2), .int (vi 3), .int (vi 4), .int (vi 5)])), ((a 1), .inl (T 1, 40, .inl (fi 0)))] s.heap := hP
  replace hD : va_D A [((a 0), .inr (4, [.ref (ex 0), .ref (ex 1), .ref (a 1), .ref (ex 2), .ref (ex 3), .int (vi 0), .int (vi 1), .int (vi 2), .int (vi 3), .int (vi 4), .int (vi 5)])), ((a 1), .inl (T 1, 40, .inl (fi 0)))] := hD
  have hl := lv_entry ([.ref (a 0), .int 5]) (n := 2) (Nat.le_of_ble_eq_true rfl)
  rw [lg_entry_eq]
  generalize (lg_sl ([.ref (a 0), .int 5]) ++ List.replicate (2 - (lg_sl ([.ref (a 0), .int 5])).length) Slot.unset).toArray = ls at hl ⊢
  replace hl : lv_has ls 2 [(0, .ref (a 0)), (1, .int 5)] := hl
  refine lv_aload_n hx hb dX4_setSort_0 rfl (lv_at hl 0 rfl) ?_
  refine va_get (D := D) (ci := 4) (v := .ref (a 1)) (C := RX4) (T := TX4) (N := 11) hx hb htg inX4 hown hK.1 hP 0 rfl rfl 2 (by decide) (htg _ kw_341) (fun _ h9 => h9) rfl dX4_setSort_1 ?_
  refine lv_aload_n hx hb dX4_setSort_4 rfl (lv_at hl 0 rfl) ?_
  refine va_get (D := D) (ci := 4) (v := .int (vi 0)) (C := RX4) (T := TX4) (N := 11) hx hb htg inX4 hown hK.1 hP 0 rfl rfl 5 (by decide) (htg _ kw_344) (fun _ h9 => h9) rfl dX4_setSort_5 ?_
  refine lv_iload_n hx hb dX4_setSort_8 rfl (lv_at hl 1 rfl) ?_
  refine va_iast hx hb hK.1 hP hD hS 1 1 rfl rfl (vp_in_iff.mpr (by omega)) dX4_setSort_9 (fun H locs hP hD hS => ?_)
  obtain ⟨f9, ef9, hP, hD⟩ : ∃ f7 : Nat → Int32, f7 = upd (fi 0) (vi 0).toNatClampNeg (5 : Int32) ∧ va_P D vwCl [((a 0), .inr (4, [.ref (ex 0), .ref (ex 1), .ref (a 1), .ref (ex 2), .ref (ex 3), .int (vi 0), .int (vi 1), .int (vi 2), .int (vi 3), .int (vi 4), .int (vi 5)])), ((a 1), .inl (T 1, 40, .inl f7))] H ∧ va_D A [((a 0), .inr (4, [.ref (ex 0), .ref (ex 1), .ref (a 1), .ref (ex 2), .ref (ex 3), .int (vi 0), .int (vi 1), .int (vi 2), .int (vi 3), .int (vi 4), .int (vi 5)])), ((a 1), .inl (T 1, 40, .inl f7))] := ⟨_, rfl, hP, hD⟩
  refine lv_iconst (v := 1) hx hb dX4_setSort_10 (by decide) ?_
  have hP9 := hP.sub (ws' := [((a 0), .inr (4, [.ref (ex 0), .ref (ex 1), .ref (a 1), .ref (ex 2), .ref (ex 3), .int (vi 0), .int (vi 1), .int (vi 2), .int (vi 3), .int (vi 4), .int (vi 5)])), ((a 1), .inl (T 1, 40, .inl f9))]) [0, 1] rfl
  have hD9 := hD.sub (ws' := [((a 0), .inr (4, [.ref (ex 0), .ref (ex 1), .ref (a 1), .ref (ex 2), .ref (ex 3), .int (vi 0), .int (vi 1), .int (vi 2), .int (vi 3), .int (vi 4), .int (vi 5)])), ((a 1), .inl (T 1, 40, .inl f9))]) [0, 1] (by decide +kernel) rfl
  rw [hQ]
  exact W.zret (v := 1) hx hb hr rfl (fun t ht hW => ⟨⟨1, 1, rfl, rfl, xf [f9], xh [], xv [], xl [], by rw [ht]; exact hP9, hD9, ⟨rfl, (by show ∀ j : Nat, ¬ j = ((vi 0)).toNatClampNeg → f9 j = (fi 0) j; exact fun j hj => by rw [ef9]; exact if_neg hj), (by show (f9 ((vi 0)).toNatClampNeg).toInt = (5 : Int32).toInt; have k9_0 : (5 : Int32).toInt = 5 := (by decide); rw [ef9]; exact congrArg Int32.toInt (if_pos rfl)), trivial⟩⟩, hS.F ht⟩) hS.2.2 dX4_setSort_11
abbrev pre_X4_readDeed (T : Nat → ClassId) (a ex : Nat → Nat) (fi : Nat → Nat → Int32) (fl : Nat → Nat → Int64) (vi : Nat → Int32) (vl : Nat → Int64) : va_W := [((a 0), .inr (4, [.ref (a 1), .ref (a 4), .ref (a 2), .ref (ex 0), .ref (ex 1), .int (vi 0), .int (vi 1), .int (vi 2), .int (vi 3), .int (vi 4), .int (vi 5)])), ((a 1), .inr (6, [.ref (a 3), .ref (a 6), .int (vi 6), .int (vi 7), .int (vi 8), .int (vi 9), .int (vi 10), .int (vi 11), .long (vl 0), .int (vi 12), .int (vi 13), .int (vi 14), .int (vi 15), .int (vi 16)])), ((a 2), .inl (T 1, 40, .inl (fi 0))), ((a 3), .inl (T 0, 940, .inl (fi 1))), ((a 4), .inr (7, [.int (vi 17), .int (vi 18), .ref (a 5), .ref (ex 2), .ref (ex 3), .ref (ex 4), .ref (a 7), .ref (ex 5), .ref (ex 6), .ref (ex 7), .ref (ex 8), .ref (ex 9)])), ((a 5), .inl (T 2, 9, .inr (.inl (fl 0)))), ((a 6), .inl (T 2, 27, .inr (.inl (fl 1)))), ((a 7), .inl (T 2, 9, .inr (.inl (fl 2))))]
set_option maxHeartbeats 8000000 in
set_option maxRecDepth 100000 in
theorem c_X4_readDeed (l : Launch) (D : va_G) (T : Nat → ClassId) (a ex : Nat → Nat) (fi : Nat → Nat → Int32) (fl : Nat → Nat → Int64) (vi : Nat → Int32) (vl : Nat → Int64) (kK kV : Nat → Nat) (sz : Nat) (hp0 : 0 ≤ (vi 0).toInt ∧ (vi 0).toInt ≤ 40) (hp1 : 0 ≤ (vi 7).toInt ∧ (vi 7).toInt ≤ 940) (hp2 : 0 ≤ (vi 9).toInt ∧ (vi 9).toInt ≤ 940) (hp3 : 0 ≤ (vi 17).toInt ∧ (vi 17).toInt ≤ 9) (hp4 : 0 ≤ (vi 18).toInt ∧ (vi 18).toInt ≤ 9) (hp5 : (vi 0).toInt ≤ 39) : Met l yX4_readDeed (xw yX4_readDeed cX4_readDeed 1 (some .boolean)) ({ frames := 5, cells := 0, slots := 0, locals := 129 }) (xPs D T kK kV [.ref (a 0)] sz (pre_X4_readDeed T a ex fi fl vi vl)) (va_Qi (fun r u => r = u) (xC D (va_A (pre_X4_readDeed T a ex fi fl vi vl) sz) (fun fj fm vj vm => [((a 0), .inr (4, [.ref (a 1), .ref (a 4), .ref (a 2), .ref (ex 0), .ref (ex 1), .int (vi 0), .int (vi 1), .int (vi 2), .int (vi 3), .int (vi 4), .int (vi 5)])), ((a 1), .inr (6, [.ref (a 3), .ref (a 6), .int (vi 6), .int (vi 7), .int (vi 8), .int (vj 4), .int (vj 0), .int (vj 1), .long (vm 0), .int (vj 3), .int (vj 2), .int (vj 5), .int (vj 6), .int (vj 7)])), ((a 2), .inl (T 1, 40, .inl (fj 0))), ((a 3), .inl (T 0, 940, .inl (fi 1))), ((a 4), .inr (7, [.int (vi 17), .int (vi 18), .ref (a 5), .ref (ex 2), .ref (ex 3), .ref (ex 4), .ref (a 7), .ref (ex 5), .ref (ex 6), .ref (ex 7), .ref (ex 8), .ref (ex 9)])), ((a 5), .inl (T 2, 9, .inr (.inl (fl 0)))), ((a 6), .inl (T 2, 27, .inr (.inl (fl 1)))), ((a 7), .inl (T 2, 9, .inr (.inl (fl 2))))]) (fun (r : Int32) (fj : Nat → Nat → Int32) (fm : Nat → Nat → Int64) (vj : Nat → Int32) (vm : Nat → Int64) => ((r = 1 ∧ (0 ≤ ((fj 0) ((vi 0)).toNatClampNeg).toInt ∧ ((fj 0) ((vi 0)).toNatClampNeg).toInt ≤ 7 ∧ ¬ ((fj 0) ((vi 0)).toNatClampNeg).toInt = 6 ∧ (3 ≤ ((fj 0) ((vi 0)).toNatClampNeg).toInt ∨ 0 ≤ (vj 5).toInt ∧ (vj 5).toInt ≤ 8))) ∨ (r = 0 ∧ (True))) ∧ (0 ≤ (vj 4).toInt ∧ (vj 4).toInt ≤ 940) ∧ (∀ j : Nat, ¬ j = ((vi 0)).toNatClampNeg → (fj 0) j = (fi 0) j) ∧ True)) (va_A (pre_X4_readDeed T a ex fi fl vi vl) sz)) 0 0 (va_A (pre_X4_readDeed T a ex fi fl vi vl) sz) := by
  refine xofW (cc := cX4_readDeed) (maxL := 1) (ret := (some .boolean)) (by decide) rfl ?_
  intro p e s m args below meth c s₁ R Q hR hQ B hml hv
  obtain ⟨rfl, hsz, hP, hK, hD0, hT⟩ := hv
  have hx := B.exec
  have hb := B.bytes
  have hr := B.returns
  have hts := atoms_spec (ws := xw yX4_readDeed cX4_readDeed 1 (some .boolean)) B.pre
  have htg : ∀ w ∈ xg, w.before _ s = true := fun w h => hts w (List.mem_cons_of_mem _ h)
  have hown : s.vm.findClass RX4 = some m.cls := findClass_of_methodNamed B.named
  have hlocks := B.notSynchronized
  subst hsz
  have hD := hD0.self (sz := s.heap.size)
  generalize hAe : va_A (pre_X4_readDeed T a ex fi fl vi vl) s.heap.size = A at hD hQ hT
  have hA : ∀ q : Nat, s.heap.size ≤ q → A q := fun q h => by rw [← hAe]; exact Or.inr h
  have hS : va_S A s.heap s.heap [] := va_S.rf
  replace hP : va_P D vwCl [((a 0), .inr (4, [.ref (a 1), .ref (a 4), .ref (a 2), .ref (ex 0), .ref (ex 1), .int (vi 0), .int (vi 1), .int (vi 2), .int (vi 3), .int (vi 4), .int (vi 5)])), ((a 1), .inr (6, [.ref (a 3), .ref (a 6), .int (vi 6), .int (vi 7), .int (vi 8), .int (vi 9), .int (vi 10), .int (vi 11), .long (vl 0), .int (vi 12), .int (vi 13), .int (vi 14), .int (vi 15), .int (vi 16)])), ((a 2), .inl (T 1, 40, .inl (fi 0))), ((a 3), .inl (T 0, 940, .inl (fi 1))), ((a 4), .inr (7, [.int (vi 17), .int (vi 18), .ref (a 5), .ref (ex 2), .ref (ex 3), .ref (ex 4), .ref (a 7), .ref (ex 5), .ref (ex 6), .ref (ex 7), .ref (ex 8), .ref (ex 9)])), ((a 5), .inl (T 2, 9, .inr (.inl (fl 0)))), ((a 6), .inl (T 2, 27, .inr (.inl (fl 1)))), ((a 7), .inl (T 2, 9, .inr (.inl (fl 2))))] s.heap := hP
  replace hD : va_D A [((a 0), .inr (4, [.ref (a 1), .ref (a 4), .ref (a 2), .ref (ex 0), .ref (ex 1), .int (vi 0), .int (vi 1), .int (vi 2), .int (vi 3), .int (vi 4), .int (vi 5)])), ((a 1), .inr (6, [.ref (a 3), .ref (a 6), .int (vi 6), .int (vi 7), .int (vi 8), .int (vi 9), .int (vi 10), .int (vi 11), .long (vl 0), .int (vi 12), .int (vi 13), .int (vi 14), .int (vi 15), .int (vi 16)])), ((a 2), .inl (T 1, 40, .inl (fi 0))), ((a 3), .inl (T 0, 940, .inl (fi 1))), ((a 4), .inr (7, [.int (vi 17), .int (vi 18), .ref (a 5), .ref (ex 2), .ref (ex 3), .ref (ex 4), .ref (a 7), .ref (ex 5), .ref (ex 6), .ref (ex 7), .ref (ex 8), .ref (ex 9)])), ((a 5), .inl (T 2, 9, .inr (.inl (fl 0)))), ((a 6), .inl (T 2, 27, .inr (.inl (fl 1)))), ((a 7), .inl (T 2, 9, .inr (.inl (fl 2))))] := hD
  have hl := lv_entry ([.ref (a 0)]) (n := 1) (Nat.le_of_ble_eq_true rfl)
  rw [lg_entry_eq]
  generalize (lg_sl ([.ref (a 0)]) ++ List.replicate (1 - (lg_sl ([.ref (a 0)])).length) Slot.unset).toArray = ls at hl ⊢
  replace hl : lv_has ls 1 [(0, .ref (a 0))] := hl
  refine lv_aload_n hx hb dX4_readDeed_0 rfl (lv_at hl 0 rfl) ?_
  refine va_get (D := D) (ci := 4) (v := .ref (a 1)) (C := RX4) (T := TX4) (N := 11) hx hb htg inX4 hown hK.1 hP 0 rfl rfl 0 (by decide) (htg _ kw_339) (fun _ h9 => h9) rfl dX4_readDeed_1 ?_
  refine va_ldcS hx hb hown (hT.1 12 (by decide)) dX4_readDeed_4 ?_
  obtain ⟨hC9, hPc, hDc, hFc⟩ := xcut (wc := (pre_X6_isWord_2 T (xa [(a 1)]) (xa [(a 3), (a 6)]) (xf []) (xh []) (xv [(vi 6), (vi 7), (vi 8), (vi 9), (vi 10), (vi 11), (vi 12), (vi 13), (vi 14), (vi 15), (vi 16)]) (xl [(vl 0)]))) hP hD hS hA [1] (by decide) rfl
  refine va_calli (va_runVN (As := [.ref (kK 12)]) (rest := []) ⟨hx, hb, hml, hown, htg⟩ (c_X6_isWord_2 l D T (xa [(a 1)]) (xa [(a 3), (a 6)]) (xf []) (xh []) (xv [(vi 6), (vi 7), (vi 8), (vi 9), (vi 10), (vi 11), (vi 12), (vi 13), (vi 14), (vi 15), (vi 16)]) (xl [(vl 0)]) kK kV s.heap.size hp1 hp2) ⟨va_cnB 1 htg (xg_ok kw_586) rfl rfl rfl (hK.2.1 _ kn_1147) (htg _ kw_2) (by decide +kernel) ⟨by rw [hR]; exact Nat.le_of_ble_eq_true rfl, by rw [hR]; exact Nat.le_of_ble_eq_true rfl⟩, htg _ kw_585, htg _ ks_8⟩ (xpreVs hK hPc hDc hT hFc hS (va_recv hK.1 hPc (ci := 6) (q0 := 0) rfl rfl)) rfl rfl hl.1 rfl (lv_room (Nat.le_of_ble_eq_true rfl)) dX4_readDeed_6 ⟨by rw [hR]; exact Nat.le_of_ble_eq_true rfl, by rw [hR]; exact Nat.le_of_ble_eq_true rfl⟩) hS (fun q _ h => hFc q h) hFc (fun r9 u9 t H1 locs ht hvm hw hB hz1 hk1 hS => ?_)
  subst hw
  obtain ⟨fik, flk, vik, vlk, hP1, hD1, hG⟩ := hB
  rw [ht] at hP1
  obtain ⟨hP, hD⟩ := va_join (wr := [((a 0), .inr (4, [.ref (a 1), .ref (a 4), .ref (a 2), .ref (ex 0), .ref (ex 1), .int (vi 0), .int (vi 1), .int (vi 2), .int (vi 3), .int (vi 4), .int (vi 5)])), ((a 2), .inl (T 1, 40, .inl (fi 0))), ((a 3), .inl (T 0, 940, .inl (fi 1))), ((a 4), .inr (7, [.int (vi 17), .int (vi 18), .ref (a 5), .ref (ex 2), .ref (ex 3), .ref (ex 4), .ref (a 7), .ref (ex 5), .ref (ex 6), .ref (ex 7), .ref (ex 8), .ref (ex 9)])), ((a 5), .inl (T 2, 9, .inr (.inl (fl 0)))), ((a 6), .inl (T 2, 27, .inr (.inl (fl 1)))), ((a 7), .inl (T 2, 9, .inr (.inl (fl 2))))]) (w1 := [((a 1), .inr (6, [.ref (a 3), .ref (a 6), .int (vi 6), .int (vi 7), .int (vi 8), .int (vi 9), .int (vi 10), .int (vi 11), .long (vl 0), .int (vi 12), .int (vi 13), .int (vi 14), .int (vi 15), .int (vi 16)]))]) hP hD [1] [0, 2, 3, 4, 5, 6, 7] hC9 rfl (by decide) (by decide) hk1 hFc hP1 hD1
  obtain ⟨rk, er9⟩ : ∃ z, z = r9 := ⟨_, rfl⟩
  subst er9
  clear hPc hDc hFc hP1 hD1 hk1 hz1 hvm ht hC9
  generalize H1 = H at hP hS ⊢
  obtain ⟨hP, hD⟩ := (show xPD D A [((a 0), .inr (4, [.ref (a 1), .ref (a 4), .ref (a 2), .ref (ex 0), .ref (ex 1), .int (vi 0), .int (vi 1), .int (vi 2), .int (vi 3), .int (vi 4), .int (vi 5)])), ((a 2), .inl (T 1, 40, .inl (fi 0))), ((a 3), .inl (T 0, 940, .inl (fi 1))), ((a 4), .inr (7, [.int (vi 17), .int (vi 18), .ref (a 5), .ref (ex 2), .ref (ex 3), .ref (ex 4), .ref (a 7), .ref (ex 5), .ref (ex 6), .ref (ex 7), .ref (ex 8), .ref (ex 9)])), ((a 5), .inl (T 2, 9, .inr (.inl (fl 0)))), ((a 6), .inl (T 2, 27, .inr (.inl (fl 1)))), ((a 7), .inl (T 2, 9, .inr (.inl (fl 2)))), ((a 1), .inr (6, [.ref (a 3), .ref (a 6), .int (vi 6), .int (vi 7), .int (vi 8), .int (vi 9), .int (vi 10), .int (vi 11), .long (vl 0), .int (vi 12), .int (vi 13), .int (vi 14), .int (vi 15), .int (vi 16)]))] H from ⟨hP, hD⟩)
  obtain ⟨gk_0, -⟩ := hG
  rcases (show (rk = 1 ∧ (True)) ∨ (rk = 0 ∧ (True)) from gk_0) with ⟨er9, gk_0⟩ | ⟨er9, gk_0⟩
  · refine xz_i 1 er9 ?_
    refine lv_if_eq (tgt := 60) hx hb dX4_readDeed_9 (by decide) (fun c => absurd c (by decide)) (fun _ => ?_)
    refine lv_aload_n hx hb dX4_readDeed_12 rfl (lv_at hl 0 rfl) ?_
    refine lv_iconst (v := 0) hx hb dX4_readDeed_13 (by decide) ?_
    obtain ⟨hC9, hPc, hDc, hFc⟩ := xcut (wc := (pre_X4_setSort_2 T (xa [(a 0), (a 2)]) (xa [(a 1), (a 4), (ex 0), (ex 1)]) (xf [(fi 0)]) (xh []) (xv [(vi 0), (vi 1), (vi 2), (vi 3), (vi 4), (vi 5)]) (xl []))) hP hD hS hA [0, 1] (by decide) rfl
    refine va_calli (va_runV (As := [.int 0]) (rest := []) ⟨hx, hb, hml, hown, htg⟩ (c_X4_setSort_2 l D T (xa [(a 0), (a 2)]) (xa [(a 1), (a 4), (ex 0), (ex 1)]) (xf [(fi 0)]) (xh []) (xv [(vi 0), (vi 1), (vi 2), (vi 3), (vi 4), (vi 5)]) (xl []) H.size hp0 (by show (vi 0).toInt ≤ 39; first | omega | assumption)) ⟨callB_of 1 htg (xg_ok kw_1155) rfl rfl rfl (htg _ kw_11) (htg _ kw_1152) (by decide +kernel) ⟨by rw [hR]; exact Nat.le_of_ble_eq_true rfl, by rw [hR]; exact Nat.le_of_ble_eq_true rfl⟩, htg _ kw_1154, htg _ ks_97⟩ (xpreV hK hPc hDc (va_recv hK.1 hPc (ci := 4) (q0 := 0) rfl rfl)) rfl rfl hl.1 rfl (lv_room (Nat.le_of_ble_eq_true rfl)) dX4_readDeed_14 ⟨by rw [hR]; exact Nat.le_of_ble_eq_true rfl, by rw [hR]; exact Nat.le_of_ble_eq_true rfl⟩) hS (fun q _ h => hFc q h) hFc (fun r9 u9 t H1 locs ht hvm hw hB hz1 hk1 hS => ?_)
    subst hw
    obtain ⟨fik_1, flk_1, vik_1, vlk_1, hP1, hD1, hG⟩ := hB
    rw [ht] at hP1
    obtain ⟨hP, hD⟩ := va_join (wr := [((a 3), .inl (T 0, 940, .inl (fi 1))), ((a 4), .inr (7, [.int (vi 17), .int (vi 18), .ref (a 5), .ref (ex 2), .ref (ex 3), .ref (ex 4), .ref (a 7), .ref (ex 5), .ref (ex 6), .ref (ex 7), .ref (ex 8), .ref (ex 9)])), ((a 5), .inl (T 2, 9, .inr (.inl (fl 0)))), ((a 6), .inl (T 2, 27, .inr (.inl (fl 1)))), ((a 7), .inl (T 2, 9, .inr (.inl (fl 2)))), ((a 1), .inr (6, [.ref (a 3), .ref (a 6), .int (vi 6), .int (vi 7), .int (vi 8), .int (vi 9), .int (vi 10), .int (vi 11), .long (vl 0), .int (vi 12), .int (vi 13), .int (vi 14), .int (vi 15), .int (vi 16)]))]) (w1 := [((a 0), .inr (4, [.ref (a 1), .ref (a 4), .ref (a 2), .ref (ex 0), .ref (ex 1), .int (vi 0), .int (vi 1), .int (vi 2), .int (vi 3), .int (vi 4), .int (vi 5)])), ((a 2), .inl (T 1, 40, .inl (fik_1 0)))]) hP hD [0, 1] [2, 3, 4, 5, 6, 7] hC9 rfl (by decide) (by decide) hk1 hFc hP1 hD1
    obtain ⟨rk_1, er9⟩ : ∃ z, z = r9 := ⟨_, rfl⟩
    subst er9
    clear hPc hDc hFc hP1 hD1 hk1 hz1 hvm ht hC9
    generalize H1 = H at hP hS ⊢
    obtain ⟨hP, hD⟩ := (show xPD D A [((a 3), .inl (T 0, 940, .inl (fi 1))), ((a 4), .inr (7, [.int (vi 17), .int (vi 18), .ref (a 5), .ref (ex 2), .ref (ex 3), .ref (ex 4), .ref (a 7), .ref (ex 5), .ref (ex 6), .ref (ex 7), .ref (ex 8), .ref (ex 9)])), ((a 5), .inl (T 2, 9, .inr (.inl (fl 0)))), ((a 6), .inl (T 2, 27, .inr (.inl (fl 1)))), ((a 7), .inl (T 2, 9, .inr (.inl (fl 2)))), ((a 1), .inr (6, [.ref (a 3), .ref (a 6), .int (vi 6), .int (vi 7), .int (vi 8), .int (vi 9), .int (vi 10), .int (vi 11), .long (vl 0), .int (vi 12), .int (vi 13), .int (vi 14), .int (vi 15), .int (vi 16)])), ((a 0), .inr (4, [.ref (a 1), .ref (a 4), .ref (a 2), .ref (ex 0), .ref (ex 1), .int (vi 0), .int (vi 1), .int (vi 2), .int (vi 3), .int (vi 4), .int (vi 5)])), ((a 2), .inl (T 1, 40, .inl (fik_1 0)))] H from ⟨hP, hD⟩)
    obtain ⟨gk_1_0, gk_1_1, gk_1_2, -⟩ := hG
    replace gk_1_1 : ∀ j : Nat, ¬ j = ((vi 0)).toNatClampNeg → (fik_1 0) j = (fi 0) j := gk_1_1
    replace gk_1_2 : ((fik_1 0) ((vi 0)).toNatClampNeg).toInt = (0 : Int32).toInt := gk_1_2
    replace gk_1_0 : rk_1 = 1 := gk_1_0
    refine xz_i 1 gk_1_0 ?_
    refine lv_if_eq (tgt := 58) hx hb dX4_readDeed_17 (by decide) (fun c => absurd c (by decide)) (fun _ => ?_)
    refine lv_aload_n hx hb dX4_readDeed_20 rfl (lv_at hl 0 rfl) ?_
    refine va_get (D := D) (ci := 4) (v := .ref (a 1)) (C := RX4) (T := TX4) (N := 11) hx hb htg inX4 hown hK.1 hP 6 rfl rfl 0 (by decide) (htg _ kw_339) (fun _ h9 => h9) rfl dX4_readDeed_21 ?_
    obtain ⟨hC9, hPc, hDc, hFc⟩ := xcut (wc := (pre_X6_pass T (xa [(a 1), (a 3)]) (xa [(a 6)]) (xf [(fi 1)]) (xh []) (xv [(vi 6), (vi 7), (vi 8), (vi 9), (vi 10), (vi 11), (vi 12), (vi 13), (vi 14), (vi 15), (vi 16)]) (xl [(vl 0)]))) hP hD hS hA [5, 0] (by decide) rfl
    refine va_calli (va_runVN (As := []) (rest := []) ⟨hx, hb, hml, hown, htg⟩ (c_X6_pass l D T (xa [(a 1), (a 3)]) (xa [(a 6)]) (xf [(fi 1)]) (xh []) (xv [(vi 6), (vi 7), (vi 8), (vi 9), (vi 10), (vi 11), (vi 12), (vi 13), (vi 14), (vi 15), (vi 16)]) (xl [(vl 0)]) H.size hp1 hp2) ⟨va_cnB 0 htg (xg_ok kw_618) rfl rfl rfl (hK.2.1 _ kn_1162) (htg _ kw_2) (by decide +kernel) ⟨by rw [hR]; exact Nat.le_of_ble_eq_true rfl, by rw [hR]; exact Nat.le_of_ble_eq_true rfl⟩, htg _ kw_617, htg _ ks_15⟩ (xpreV hK hPc hDc (va_recv hK.1 hPc (ci := 6) (q0 := 0) rfl rfl)) rfl rfl hl.1 rfl (lv_room (Nat.le_of_ble_eq_true rfl)) dX4_readDeed_24 ⟨by rw [hR]; exact Nat.le_of_ble_eq_true rfl, by rw [hR]; exact Nat.le_of_ble_eq_true rfl⟩) hS (fun q _ h => hFc q h) hFc (fun r9 u9 t H1 locs ht hvm hw hB hz1 hk1 hS => ?_)
    subst hw
    obtain ⟨fik_2, flk_2, vik_2, vlk_2, hP1, hD1, hG⟩ := hB
    rw [ht] at hP1
    obtain ⟨hP, hD⟩ := va_join (wr := [((a 4), .inr (7, [.int (vi 17), .int (vi 18), .ref (a 5), .ref (ex 2), .ref (ex 3), .ref (ex 4), .ref (a 7), .ref (ex 5), .ref (ex 6), .ref (ex 7), .ref (ex 8), .ref (ex 9)])), ((a 5), .inl (T 2, 9, .inr (.inl (fl 0)))), ((a 6), .inl (T 2, 27, .inr (.inl (fl 1)))), ((a 7), .inl (T 2, 9, .inr (.inl (fl 2)))), ((a 0), .inr (4, [.ref (a 1), .ref (a 4), .ref (a 2), .ref (ex 0), .ref (ex 1), .int (vi 0), .int (vi 1), .int (vi 2), .int (vi 3), .int (vi 4), .int (vi 5)])), ((a 2), .inl (T 1, 40, .inl (fik_1 0)))]) (w1 := [((a 1), .inr (6, [.ref (a 3), .ref (a 6), .int (vi 6), .int (vi 7), .int (vi 8), .int (vik_2 4), .int (vik_2 0), .int (vik_2 1), .long (vlk_2 0), .int (vik_2 3), .int (vik_2 2), .int (vi 14), .int (vi 15), .int (vi 16)])), ((a 3), .inl (T 0, 940, .inl (fi 1)))]) hP hD [5, 0] [1, 2, 3, 4, 6, 7] hC9 rfl (by decide) (by decide) hk1 hFc hP1 hD1
    obtain ⟨rk_2, er9⟩ : ∃ z, z = r9 := ⟨_, rfl⟩
    subst er9
    clear hPc hDc hFc hP1 hD1 hk1 hz1 hvm ht hC9
    generalize H1 = H at hP hS ⊢
    obtain ⟨hP, hD⟩ := (show xPD D A [((a 4), .inr (7, [.int (vi 17), .int (vi 18), .ref (a 5), .ref (ex 2), .ref (ex 3), .ref (ex 4), .ref (a 7), .ref (ex 5), .ref (ex 6), .ref (ex 7), .ref (ex 8), .ref (ex 9)])), ((a 5), .inl (T 2, 9, .inr (.inl (fl 0)))), ((a 6), .inl (T 2, 27, .inr (.inl (fl 1)))), ((a 7), .inl (T 2, 9, .inr (.inl (fl 2)))), ((a 0), .inr (4, [.ref (a 1), .ref (a 4), .ref (a 2), .ref (ex 0), .ref (ex 1), .int (vi 0), .int (vi 1), .int (vi 2), .int (vi 3), .int (vi 4), .int (vi 5)])), ((a 2), .inl (T 1, 40, .inl (fik_1 0))), ((a 1), .inr (6, [.ref (a 3), .ref (a 6), .int (vi 6), .int (vi 7), .int (vi 8), .int (vik_2 4), .int (vik_2 0), .int (vik_2 1), .long (vlk_2 0), .int (vik_2 3), .int (vik_2 2), .int (vi 14), .int (vi 15), .int (vi 16)])), ((a 3), .inl (T 0, 940, .inl (fi 1)))] H from ⟨hP, hD⟩)
    obtain ⟨gk_2_0, gk_2_1, -⟩ := hG
    replace gk_2_1 : 0 ≤ (vik_2 4).toInt ∧ (vik_2 4).toInt ≤ 940 := gk_2_1
    replace gk_2_0 : rk_2 = 1 := gk_2_0
    refine xz_i 1 gk_2_0 ?_
    refine lv_if_eq (tgt := 58) hx hb dX4_readDeed_27 (by decide) (fun c => absurd c (by decide)) (fun _ => ?_)
    refine lv_aload_n hx hb dX4_readDeed_30 rfl (lv_at hl 0 rfl) ?_
    refine va_get (D := D) (ci := 4) (v := .ref (a 1)) (C := RX4) (T := TX4) (N := 11) hx hb htg inX4 hown hK.1 hP 4 rfl rfl 0 (by decide) (htg _ kw_339) (fun _ h9 => h9) rfl dX4_readDeed_31 ?_
    refine lv_aload_n hx hb dX4_readDeed_34 rfl (lv_at hl 0 rfl) ?_
    refine va_get (D := D) (ci := 4) (v := .ref (a 4)) (C := RX4) (T := TX4) (N := 11) hx hb htg inX4 hown hK.1 hP 4 rfl rfl 1 (by decide) (htg _ kw_340) (fun _ h9 => h9) rfl dX4_readDeed_35 ?_
    refine lv_aload_n hx hb dX4_readDeed_38 rfl (lv_at hl 0 rfl) ?_
    refine va_get (D := D) (ci := 4) (v := .ref (a 1)) (C := RX4) (T := TX4) (N := 11) hx hb htg inX4 hown hK.1 hP 4 rfl rfl 0 (by decide) (htg _ kw_339) (fun _ h9 => h9) rfl dX4_readDeed_39 ?_
    refine va_getN (D := D) (ci := 6) (v := .long (vlk_2 0)) (C := RX6) (T := TX6) (N := 14) hx hb htg inX6 hown hK.1 hP 6 rfl rfl 8 (by decide) (va_Nw.use rfl (hK.2.1 _ kn_106)) (fun _ h9 => h9) rfl dX4_readDeed_42 ?_
    obtain ⟨hC9, hPc, hDc, hFc⟩ := xcut (wc := (pre_X7_findName T (xa [(a 4), (a 5)]) (xa [(ex 2), (ex 3), (ex 4), (a 7), (ex 5), (ex 6), (ex 7), (ex 8), (ex 9)]) (xf []) (xh [(fl 0)]) (xv [(vi 17), (vi 18)]) (xl [(vlk_2 0)]))) hP hD hS hA [0, 1] (by decide) rfl
    refine va_calli (va_runVN (As := [.long (vlk_2 0)]) (rest := [.ref (a 1)]) ⟨hx, hb, hml, hown, htg⟩ (c_X7_findName l D T (xa [(a 4), (a 5)]) (xa [(ex 2), (ex 3), (ex 4), (a 7), (ex 5), (ex 6), (ex 7), (ex 8), (ex 9)]) (xf []) (xh [(fl 0)]) (xv [(vi 17), (vi 18)]) (xl [(vlk_2 0)]) H.size hp3 hp4) ⟨va_cnB 1 htg (xg_ok kw_607) rfl rfl rfl (hK.2.1 _ kn_1163) (htg _ kw_7) (by decide +kernel) ⟨by rw [hR]; exact Nat.le_of_ble_eq_true rfl, by rw [hR]; exact Nat.le_of_ble_eq_true rfl⟩, htg _ kw_606, htg _ ks_13⟩ (xpreV hK hPc hDc (va_recv hK.1 hPc (ci := 7) (q0 := 0) rfl rfl)) rfl rfl hl.1 rfl (lv_room (Nat.le_of_ble_eq_true rfl)) dX4_readDeed_45 ⟨by rw [hR]; exact Nat.le_of_ble_eq_true rfl, by rw [hR]; exact Nat.le_of_ble_eq_true rfl⟩) hS (fun q _ h => hFc q h) hFc (fun r9 u9 t H1 locs ht hvm hw hB hz1 hk1 hS => ?_)
    subst hw
    obtain ⟨fik_3, flk_3, vik_3, vlk_3, hP1, hD1, hG⟩ := hB
    rw [ht] at hP1
    obtain ⟨hP, hD⟩ := va_join (wr := [((a 6), .inl (T 2, 27, .inr (.inl (fl 1)))), ((a 7), .inl (T 2, 9, .inr (.inl (fl 2)))), ((a 0), .inr (4, [.ref (a 1), .ref (a 4), .ref (a 2), .ref (ex 0), .ref (ex 1), .int (vi 0), .int (vi 1), .int (vi 2), .int (vi 3), .int (vi 4), .int (vi 5)])), ((a 2), .inl (T 1, 40, .inl (fik_1 0))), ((a 1), .inr (6, [.ref (a 3), .ref (a 6), .int (vi 6), .int (vi 7), .int (vi 8), .int (vik_2 4), .int (vik_2 0), .int (vik_2 1), .long (vlk_2 0), .int (vik_2 3), .int (vik_2 2), .int (vi 14), .int (vi 15), .int (vi 16)])), ((a 3), .inl (T 0, 940, .inl (fi 1)))]) (w1 := [((a 4), .inr (7, [.int (vi 17), .int (vi 18), .ref (a 5), .ref (ex 2), .ref (ex 3), .ref (ex 4), .ref (a 7), .ref (ex 5), .ref (ex 6), .ref (ex 7), .ref (ex 8), .ref (ex 9)])), ((a 5), .inl (T 2, 9, .inr (.inl (fl 0))))]) hP hD [0, 1] [2, 3, 4, 5, 6, 7] hC9 rfl (by decide) (by decide) hk1 hFc hP1 hD1
    obtain ⟨rk_3, er9⟩ : ∃ z, z = r9 := ⟨_, rfl⟩
    subst er9
    clear hPc hDc hFc hP1 hD1 hk1 hz1 hvm ht hC9
    generalize H1 = H at hP hS ⊢
    obtain ⟨hP, hD⟩ := (show xPD D A [((a 6), .inl (T 2, 27, .inr (.inl (fl 1)))), ((a 7), .inl (T 2, 9, .inr (.inl (fl 2)))), ((a 0), .inr (4, [.ref (a 1), .ref (a 4), .ref (a 2), .ref (ex 0), .ref (ex 1), .int (vi 0), .int (vi 1), .int (vi 2), .int (vi 3), .int (vi 4), .int (vi 5)])), ((a 2), .inl (T 1, 40, .inl (fik_1 0))), ((a 1), .inr (6, [.ref (a 3), .ref (a 6), .int (vi 6), .int (vi 7), .int (vi 8), .int (vik_2 4), .int (vik_2 0), .int (vik_2 1), .long (vlk_2 0), .int (vik_2 3), .int (vik_2 2), .int (vi 14), .int (vi 15), .int (vi 16)])), ((a 3), .inl (T 0, 940, .inl (fi 1))), ((a 4), .inr (7, [.int (vi 17), .int (vi 18), .ref (a 5), .ref (ex 2), .ref (ex 3), .ref (ex 4), .ref (a 7), .ref (ex 5), .ref (ex 6), .ref (ex 7), .ref (ex 8), .ref (ex 9)])), ((a 5), .inl (T 2, 9, .inr (.inl (fl 0))))] H from ⟨hP, hD⟩)
    obtain ⟨gk_3_0, -⟩ := hG
    replace gk_3_0 : -1 ≤ rk_3.toInt ∧ rk_3.toInt ≤ 8 := gk_3_0
    obtain ⟨hC9, hPc, hDc, hFc⟩ := xcut (wc := (pre_X6_passKnown T (xa [(a 1), (a 6), (a 3)]) (xa []) (xf [(fi 1)]) (xh [(fl 1)]) (xv [rk_3, (vi 6), (vi 7), (vi 8), (vik_2 4), (vik_2 0), (vik_2 1), (vik_2 3), (vik_2 2), (vi 14), (vi 15), (vi 16)]) (xl [(vlk_2 0)]))) hP hD hS hA [4, 0, 5] (by decide) rfl
    refine va_calli (va_runVN (As := [.int rk_3]) (rest := []) ⟨hx, hb, hml, hown, htg⟩ (c_X6_passKnown l D T (xa [(a 1), (a 6), (a 3)]) (xa []) (xf [(fi 1)]) (xh [(fl 1)]) (xv [rk_3, (vi 6), (vi 7), (vi 8), (vik_2 4), (vik_2 0), (vik_2 1), (vik_2 3), (vik_2 2), (vi 14), (vi 15), (vi 16)]) (xl [(vlk_2 0)]) H.size hp1 gk_2_1) ⟨va_cnB 1 htg (xg_ok kw_640) rfl rfl rfl (hK.2.1 _ kn_1149) (htg _ kw_2) (by decide +kernel) ⟨by rw [hR]; exact Nat.le_of_ble_eq_true rfl, by rw [hR]; exact Nat.le_of_ble_eq_true rfl⟩, htg _ kw_639, htg _ ks_20⟩ (xpreV hK hPc hDc (va_recv hK.1 hPc (ci := 6) (q0 := 0) rfl rfl)) rfl rfl hl.1 rfl (lv_room (Nat.le_of_ble_eq_true rfl)) dX4_readDeed_48 ⟨by rw [hR]; exact Nat.le_of_ble_eq_true rfl, by rw [hR]; exact Nat.le_of_ble_eq_true rfl⟩) hS (fun q _ h => hFc q h) hFc (fun r9 u9 t H1 locs ht hvm hw hB hz1 hk1 hS => ?_)
    subst hw
    obtain ⟨fik_4, flk_4, vik_4, vlk_4, hP1, hD1, hG⟩ := hB
    rw [ht] at hP1
    obtain ⟨hP, hD⟩ := va_join (wr := [((a 7), .inl (T 2, 9, .inr (.inl (fl 2)))), ((a 0), .inr (4, [.ref (a 1), .ref (a 4), .ref (a 2), .ref (ex 0), .ref (ex 1), .int (vi 0), .int (vi 1), .int (vi 2), .int (vi 3), .int (vi 4), .int (vi 5)])), ((a 2), .inl (T 1, 40, .inl (fik_1 0))), ((a 4), .inr (7, [.int (vi 17), .int (vi 18), .ref (a 5), .ref (ex 2), .ref (ex 3), .ref (ex 4), .ref (a 7), .ref (ex 5), .ref (ex 6), .ref (ex 7), .ref (ex 8), .ref (ex 9)])), ((a 5), .inl (T 2, 9, .inr (.inl (fl 0))))]) (w1 := [((a 1), .inr (6, [.ref (a 3), .ref (a 6), .int (vi 6), .int (vi 7), .int (vi 8), .int (vik_4 5), .int (vik_4 1), .int (vik_4 2), .long (vlk_4 0), .int (vik_4 4), .int (vik_4 3), .int (vik_4 0), .int (vik_4 6), .int (vik_4 7)])), ((a 6), .inl (T 2, 27, .inr (.inl (fl 1)))), ((a 3), .inl (T 0, 940, .inl (fi 1)))]) hP hD [4, 0, 5] [1, 2, 3, 6, 7] hC9 rfl (by decide) (by decide) hk1 hFc hP1 hD1
    obtain ⟨rk_4, er9⟩ : ∃ z, z = r9 := ⟨_, rfl⟩
    subst er9
    clear hPc hDc hFc hP1 hD1 hk1 hz1 hvm ht hC9
    generalize H1 = H at hP hS ⊢
    obtain ⟨hP, hD⟩ := (show xPD D A [((a 7), .inl (T 2, 9, .inr (.inl (fl 2)))), ((a 0), .inr (4, [.ref (a 1), .ref (a 4), .ref (a 2), .ref (ex 0), .ref (ex 1), .int (vi 0), .int (vi 1), .int (vi 2), .int (vi 3), .int (vi 4), .int (vi 5)])), ((a 2), .inl (T 1, 40, .inl (fik_1 0))), ((a 4), .inr (7, [.int (vi 17), .int (vi 18), .ref (a 5), .ref (ex 2), .ref (ex 3), .ref (ex 4), .ref (a 7), .ref (ex 5), .ref (ex 6), .ref (ex 7), .ref (ex 8), .ref (ex 9)])), ((a 5), .inl (T 2, 9, .inr (.inl (fl 0)))), ((a 1), .inr (6, [.ref (a 3), .ref (a 6), .int (vi 6), .int (vi 7), .int (vi 8), .int (vik_4 5), .int (vik_4 1), .int (vik_4 2), .long (vlk_4 0), .int (vik_4 4), .int (vik_4 3), .int (vik_4 0), .int (vik_4 6), .int (vik_4 7)])), ((a 6), .inl (T 2, 27, .inr (.inl (fl 1)))), ((a 3), .inl (T 0, 940, .inl (fi 1)))] H from ⟨hP, hD⟩)
    obtain ⟨gk_4_0, gk_4_1, -⟩ := hG
    replace gk_4_1 : 0 ≤ (vik_4 5).toInt ∧ (vik_4 5).toInt ≤ 940 := gk_4_1
    rcases (show (rk_4 = 1 ∧ ((vik_4 0).toInt = rk_3.toInt ∧ ¬ rk_3.toInt = -1)) ∨ (rk_4 = 0 ∧ (True)) from gk_4_0) with ⟨er9, gk_4_0⟩ | ⟨er9, gk_4_0⟩
    · refine xz_i 1 er9 ?_
      refine lv_if_eq (tgt := 58) hx hb dX4_readDeed_51 (by decide) (fun c => absurd c (by decide)) (fun _ => ?_)
      refine lv_iconst (v := 1) hx hb dX4_readDeed_54 (by decide) ?_
      refine lv_goto (tgt := 59) hx hb dX4_readDeed_55 (by decide) ?_
      have hP9 := hP.sub (ws' := [((a 0), .inr (4, [.ref (a 1), .ref (a 4), .ref (a 2), .ref (ex 0), .ref (ex 1), .int (vi 0), .int (vi 1), .int (vi 2), .int (vi 3), .int (vi 4), .int (vi 5)])), ((a 1), .inr (6, [.ref (a 3), .ref (a 6), .int (vi 6), .int (vi 7), .int (vi 8), .int (vik_4 5), .int (vik_4 1), .int (vik_4 2), .long (vlk_4 0), .int (vik_4 4), .int (vik_4 3), .int (vik_4 0), .int (vik_4 6), .int (vik_4 7)])), ((a 2), .inl (T 1, 40, .inl (fik_1 0))), ((a 3), .inl (T 0, 940, .inl (fi 1))), ((a 4), .inr (7, [.int (vi 17), .int (vi 18), .ref (a 5), .ref (ex 2), .ref (ex 3), .ref (ex 4), .ref (a 7), .ref (ex 5), .ref (ex 6), .ref (ex 7), .ref (ex 8), .ref (ex 9)])), ((a 5), .inl (T 2, 9, .inr (.inl (fl 0)))), ((a 6), .inl (T 2, 27, .inr (.inl (fl 1)))), ((a 7), .inl (T 2, 9, .inr (.inl (fl 2))))]) [1, 5, 2, 7, 3, 4, 6, 0] rfl
      have hD9 := hD.sub (ws' := [((a 0), .inr (4, [.ref (a 1), .ref (a 4), .ref (a 2), .ref (ex 0), .ref (ex 1), .int (vi 0), .int (vi 1), .int (vi 2), .int (vi 3), .int (vi 4), .int (vi 5)])), ((a 1), .inr (6, [.ref (a 3), .ref (a 6), .int (vi 6), .int (vi 7), .int (vi 8), .int (vik_4 5), .int (vik_4 1), .int (vik_4 2), .long (vlk_4 0), .int (vik_4 4), .int (vik_4 3), .int (vik_4 0), .int (vik_4 6), .int (vik_4 7)])), ((a 2), .inl (T 1, 40, .inl (fik_1 0))), ((a 3), .inl (T 0, 940, .inl (fi 1))), ((a 4), .inr (7, [.int (vi 17), .int (vi 18), .ref (a 5), .ref (ex 2), .ref (ex 3), .ref (ex 4), .ref (a 7), .ref (ex 5), .ref (ex 6), .ref (ex 7), .ref (ex 8), .ref (ex 9)])), ((a 5), .inl (T 2, 9, .inr (.inl (fl 0)))), ((a 6), .inl (T 2, 27, .inr (.inl (fl 1)))), ((a 7), .inl (T 2, 9, .inr (.inl (fl 2))))]) [1, 5, 2, 7, 3, 4, 6, 0] (by decide +kernel) rfl
      rw [hQ]
      exact W.zret (v := 1) hx hb hr rfl (fun t ht hW => ⟨⟨1, 1, rfl, rfl, xf [(fik_1 0)], xh [], xv [(vik_4 1), (vik_4 2), (vik_4 3), (vik_4 4), (vik_4 5), (vik_4 0), (vik_4 6), (vik_4 7)], xl [(vlk_4 0)], by rw [ht]; exact hP9, hD9, ⟨(Or.inl ⟨rfl, by show 0 ≤ ((fik_1 0) ((vi 0)).toNatClampNeg).toInt ∧ ((fik_1 0) ((vi 0)).toNatClampNeg).toInt ≤ 7 ∧ ¬ ((fik_1 0) ((vi 0)).toNatClampNeg).toInt = 6 ∧ (3 ≤ ((fik_1 0) ((vi 0)).toNatClampNeg).toInt ∨ 0 ≤ (vik_4 0).toInt ∧ (vik_4 0).toInt ≤ 8); have q8_0 : (0 : Int32).toInt = 0 := (by decide); have q8_1 : (1 : Int32).toInt = 1 := (by decide); have q8_2 : (2 : Int32).toInt = 2 := (by decide); have q8_3 : (3 : Int32).toInt = 3 := (by decide); have q8_4 : (4 : Int32).toInt = 4 := (by decide); have q8_5 : (5 : Int32).toInt = 5 := (by decide); have q8_6 : (6 : Int32).toInt = 6 := (by decide); have q8_7 : (7 : Int32).toInt = 7 := (by decide); omega⟩), gk_4_1, (by show ∀ j : Nat, ¬ j = ((vi 0)).toNatClampNeg → (fik_1 0) j = (fi 0) j; first | assumption | exact fun j _ => rfl), trivial⟩⟩, hS.F ht⟩) hS.2.2 dX4_readDeed_59
    · refine xz_i 0 er9 ?_
      refine lv_if_eq (tgt := 58) hx hb dX4_readDeed_51 (by decide) (fun _ => ?_) (fun c => absurd (by decide) c)
      refine lv_iconst (v := 0) hx hb dX4_readDeed_58 (by decide) ?_
      have hP9 := hP.sub (ws' := [((a 0), .inr (4, [.ref (a 1), .ref (a 4), .ref (a 2), .ref (ex 0), .ref (ex 1), .int (vi 0), .int (vi 1), .int (vi 2), .int (vi 3), .int (vi 4), .int (vi 5)])), ((a 1), .inr (6, [.ref (a 3), .ref (a 6), .int (vi 6), .int (vi 7), .int (vi 8), .int (vik_4 5), .int (vik_4 1), .int (vik_4 2), .long (vlk_4 0), .int (vik_4 4), .int (vik_4 3), .int (vik_4 0), .int (vik_4 6), .int (vik_4 7)])), ((a 2), .inl (T 1, 40, .inl (fik_1 0))), ((a 3), .inl (T 0, 940, .inl (fi 1))), ((a 4), .inr (7, [.int (vi 17), .int (vi 18), .ref (a 5), .ref (ex 2), .ref (ex 3), .ref (ex 4), .ref (a 7), .ref (ex 5), .ref (ex 6), .ref (ex 7), .ref (ex 8), .ref (ex 9)])), ((a 5), .inl (T 2, 9, .inr (.inl (fl 0)))), ((a 6), .inl (T 2, 27, .inr (.inl (fl 1)))), ((a 7), .inl (T 2, 9, .inr (.inl (fl 2))))]) [1, 5, 2, 7, 3, 4, 6, 0] rfl
      have hD9 := hD.sub (ws' := [((a 0), .inr (4, [.ref (a 1), .ref (a 4), .ref (a 2), .ref (ex 0), .ref (ex 1), .int (vi 0), .int (vi 1), .int (vi 2), .int (vi 3), .int (vi 4), .int (vi 5)])), ((a 1), .inr (6, [.ref (a 3), .ref (a 6), .int (vi 6), .int (vi 7), .int (vi 8), .int (vik_4 5), .int (vik_4 1), .int (vik_4 2), .long (vlk_4 0), .int (vik_4 4), .int (vik_4 3), .int (vik_4 0), .int (vik_4 6), .int (vik_4 7)])), ((a 2), .inl (T 1, 40, .inl (fik_1 0))), ((a 3), .inl (T 0, 940, .inl (fi 1))), ((a 4), .inr (7, [.int (vi 17), .int (vi 18), .ref (a 5), .ref (ex 2), .ref (ex 3), .ref (ex 4), .ref (a 7), .ref (ex 5), .ref (ex 6), .ref (ex 7), .ref (ex 8), .ref (ex 9)])), ((a 5), .inl (T 2, 9, .inr (.inl (fl 0)))), ((a 6), .inl (T 2, 27, .inr (.inl (fl 1)))), ((a 7), .inl (T 2, 9, .inr (.inl (fl 2))))]) [1, 5, 2, 7, 3, 4, 6, 0] (by decide +kernel) rfl
      rw [hQ]
      exact W.zret (v := 0) hx hb hr rfl (fun t ht hW => ⟨⟨0, 0, rfl, rfl, xf [(fik_1 0)], xh [], xv [(vik_4 1), (vik_4 2), (vik_4 3), (vik_4 4), (vik_4 5), (vik_4 0), (vik_4 6), (vik_4 7)], xl [(vlk_4 0)], by rw [ht]; exact hP9, hD9, ⟨(Or.inr ⟨rfl, by show True; first | trivial | omega | assumption⟩), gk_4_1, (by show ∀ j : Nat, ¬ j = ((vi 0)).toNatClampNeg → (fik_1 0) j = (fi 0) j; first | assumption | exact fun j _ => rfl), trivial⟩⟩, hS.F ht⟩) hS.2.2 dX4_readDeed_59
  · refine xz_i 0 er9 ?_
    refine lv_if_eq (tgt := 60) hx hb dX4_readDeed_9 (by decide) (fun _ => ?_) (fun c => absurd (by decide) c)
    refine lv_aload_n hx hb dX4_readDeed_60 rfl (lv_at hl 0 rfl) ?_
    refine va_get (D := D) (ci := 4) (v := .ref (a 1)) (C := RX4) (T := TX4) (N := 11) hx hb htg inX4 hown hK.1 hP 0 rfl rfl 0 (by decide) (htg _ kw_339) (fun _ h9 => h9) rfl dX4_readDeed_61 ?_
    refine va_ldcS hx hb hown (hT.1 13 (by decide)) dX4_readDeed_64 ?_
    obtain ⟨hC9, hPc, hDc, hFc⟩ := xcut (wc := (pre_X6_isWord_3 T (xa [(a 1)]) (xa [(a 3), (a 6)]) (xf []) (xh []) (xv [(vi 6), (vi 7), (vi 8), (vi 9), (vi 10), (vi 11), (vi 12), (vi 13), (vi 14), (vi 15), (vi 16)]) (xl [(vl 0)]))) hP hD hS hA [7] (by decide) rfl
    refine va_calli (va_runVN (As := [.ref (kK 13)]) (rest := []) ⟨hx, hb, hml, hown, htg⟩ (c_X6_isWord_3 l D T (xa [(a 1)]) (xa [(a 3), (a 6)]) (xf []) (xh []) (xv [(vi 6), (vi 7), (vi 8), (vi 9), (vi 10), (vi 11), (vi 12), (vi 13), (vi 14), (vi 15), (vi 16)]) (xl [(vl 0)]) kK kV H.size hp1 hp2) ⟨va_cnB 1 htg (xg_ok kw_586) rfl rfl rfl (hK.2.1 _ kn_1147) (htg _ kw_2) (by decide +kernel) ⟨by rw [hR]; exact Nat.le_of_ble_eq_true rfl, by rw [hR]; exact Nat.le_of_ble_eq_true rfl⟩, htg _ kw_585, htg _ ks_8⟩ (xpreVs hK hPc hDc hT hFc hS (va_recv hK.1 hPc (ci := 6) (q0 := 0) rfl rfl)) rfl rfl hl.1 rfl (lv_room (Nat.le_of_ble_eq_true rfl)) dX4_readDeed_66 ⟨by rw [hR]; exact Nat.le_of_ble_eq_true rfl, by rw [hR]; exact Nat.le_of_ble_eq_true rfl⟩) hS (fun q _ h => hFc q h) hFc (fun r9 u9 t H1 locs ht hvm hw hB hz1 hk1 hS => ?_)
    subst hw
    obtain ⟨fik_5, flk_5, vik_5, vlk_5, hP1, hD1, hG⟩ := hB
    rw [ht] at hP1
    obtain ⟨hP, hD⟩ := va_join (wr := [((a 0), .inr (4, [.ref (a 1), .ref (a 4), .ref (a 2), .ref (ex 0), .ref (ex 1), .int (vi 0), .int (vi 1), .int (vi 2), .int (vi 3), .int (vi 4), .int (vi 5)])), ((a 2), .inl (T 1, 40, .inl (fi 0))), ((a 3), .inl (T 0, 940, .inl (fi 1))), ((a 4), .inr (7, [.int (vi 17), .int (vi 18), .ref (a 5), .ref (ex 2), .ref (ex 3), .ref (ex 4), .ref (a 7), .ref (ex 5), .ref (ex 6), .ref (ex 7), .ref (ex 8), .ref (ex 9)])), ((a 5), .inl (T 2, 9, .inr (.inl (fl 0)))), ((a 6), .inl (T 2, 27, .inr (.inl (fl 1)))), ((a 7), .inl (T 2, 9, .inr (.inl (fl 2))))]) (w1 := [((a 1), .inr (6, [.ref (a 3), .ref (a 6), .int (vi 6), .int (vi 7), .int (vi 8), .int (vi 9), .int (vi 10), .int (vi 11), .long (vl 0), .int (vi 12), .int (vi 13), .int (vi 14), .int (vi 15), .int (vi 16)]))]) hP hD [7] [0, 1, 2, 3, 4, 5, 6] hC9 rfl (by decide) (by decide) hk1 hFc hP1 hD1
    obtain ⟨rk_5, er9⟩ : ∃ z, z = r9 := ⟨_, rfl⟩
    subst er9
    clear hPc hDc hFc hP1 hD1 hk1 hz1 hvm ht hC9
    generalize H1 = H at hP hS ⊢
    obtain ⟨hP, hD⟩ := (show xPD D A [((a 0), .inr (4, [.ref (a 1), .ref (a 4), .ref (a 2), .ref (ex 0), .ref (ex 1), .int (vi 0), .int (vi 1), .int (vi 2), .int (vi 3), .int (vi 4), .int (vi 5)])), ((a 2), .inl (T 1, 40, .inl (fi 0))), ((a 3), .inl (T 0, 940, .inl (fi 1))), ((a 4), .inr (7, [.int (vi 17), .int (vi 18), .ref (a 5), .ref (ex 2), .ref (ex 3), .ref (ex 4), .ref (a 7), .ref (ex 5), .ref (ex 6), .ref (ex 7), .ref (ex 8), .ref (ex 9)])), ((a 5), .inl (T 2, 9, .inr (.inl (fl 0)))), ((a 6), .inl (T 2, 27, .inr (.inl (fl 1)))), ((a 7), .inl (T 2, 9, .inr (.inl (fl 2)))), ((a 1), .inr (6, [.ref (a 3), .ref (a 6), .int (vi 6), .int (vi 7), .int (vi 8), .int (vi 9), .int (vi 10), .int (vi 11), .long (vl 0), .int (vi 12), .int (vi 13), .int (vi 14), .int (vi 15), .int (vi 16)]))] H from ⟨hP, hD⟩)
    obtain ⟨gk_5_0, -⟩ := hG
    rcases (show (rk_5 = 1 ∧ (True)) ∨ (rk_5 = 0 ∧ (True)) from gk_5_0) with ⟨er9, gk_5_0⟩ | ⟨er9, gk_5_0⟩
    · refine xz_i 1 er9 ?_
      refine lv_if_eq (tgt := 120) hx hb dX4_readDeed_69 (by decide) (fun c => absurd c (by decide)) (fun _ => ?_)
      refine lv_aload_n hx hb dX4_readDeed_72 rfl (lv_at hl 0 rfl) ?_
      refine lv_iconst (v := 1) hx hb dX4_readDeed_73 (by decide) ?_
      obtain ⟨hC9, hPc, hDc, hFc⟩ := xcut (wc := (pre_X4_setSort_3 T (xa [(a 0), (a 2)]) (xa [(a 1), (a 4), (ex 0), (ex 1)]) (xf [(fi 0)]) (xh []) (xv [(vi 0), (vi 1), (vi 2), (vi 3), (vi 4), (vi 5)]) (xl []))) hP hD hS hA [0, 1] (by decide) rfl
      refine va_calli (va_runV (As := [.int 1]) (rest := []) ⟨hx, hb, hml, hown, htg⟩ (c_X4_setSort_3 l D T (xa [(a 0), (a 2)]) (xa [(a 1), (a 4), (ex 0), (ex 1)]) (xf [(fi 0)]) (xh []) (xv [(vi 0), (vi 1), (vi 2), (vi 3), (vi 4), (vi 5)]) (xl []) H.size hp0 (by show (vi 0).toInt ≤ 39; first | omega | assumption)) ⟨callB_of 1 htg (xg_ok kw_1155) rfl rfl rfl (htg _ kw_11) (htg _ kw_1152) (by decide +kernel) ⟨by rw [hR]; exact Nat.le_of_ble_eq_true rfl, by rw [hR]; exact Nat.le_of_ble_eq_true rfl⟩, htg _ kw_1154, htg _ ks_97⟩ (xpreV hK hPc hDc (va_recv hK.1 hPc (ci := 4) (q0 := 0) rfl rfl)) rfl rfl hl.1 rfl (lv_room (Nat.le_of_ble_eq_true rfl)) dX4_readDeed_74 ⟨by rw [hR]; exact Nat.le_of_ble_eq_true rfl, by rw [hR]; exact Nat.le_of_ble_eq_true rfl⟩) hS (fun q _ h => hFc q h) hFc (fun r9 u9 t H1 locs ht hvm hw hB hz1 hk1 hS => ?_)
      subst hw
      obtain ⟨fik_6, flk_6, vik_6, vlk_6, hP1, hD1, hG⟩ := hB
      rw [ht] at hP1
      obtain ⟨hP, hD⟩ := va_join (wr := [((a 3), .inl (T 0, 940, .inl (fi 1))), ((a 4), .inr (7, [.int (vi 17), .int (vi 18), .ref (a 5), .ref (ex 2), .ref (ex 3), .ref (ex 4), .ref (a 7), .ref (ex 5), .ref (ex 6), .ref (ex 7), .ref (ex 8), .ref (ex 9)])), ((a 5), .inl (T 2, 9, .inr (.inl (fl 0)))), ((a 6), .inl (T 2, 27, .inr (.inl (fl 1)))), ((a 7), .inl (T 2, 9, .inr (.inl (fl 2)))), ((a 1), .inr (6, [.ref (a 3), .ref (a 6), .int (vi 6), .int (vi 7), .int (vi 8), .int (vi 9), .int (vi 10), .int (vi 11), .long (vl 0), .int (vi 12), .int (vi 13), .int (vi 14), .int (vi 15), .int (vi 16)]))]) (w1 := [((a 0), .inr (4, [.ref (a 1), .ref (a 4), .ref (a 2), .ref (ex 0), .ref (ex 1), .int (vi 0), .int (vi 1), .int (vi 2), .int (vi 3), .int (vi 4), .int (vi 5)])), ((a 2), .inl (T 1, 40, .inl (fik_6 0)))]) hP hD [0, 1] [2, 3, 4, 5, 6, 7] hC9 rfl (by decide) (by decide) hk1 hFc hP1 hD1
      obtain ⟨rk_6, er9⟩ : ∃ z, z = r9 := ⟨_, rfl⟩
      subst er9
      clear hPc hDc hFc hP1 hD1 hk1 hz1 hvm ht hC9
      generalize H1 = H at hP hS ⊢
      obtain ⟨hP, hD⟩ := (show xPD D A [((a 3), .inl (T 0, 940, .inl (fi 1))), ((a 4), .inr (7, [.int (vi 17), .int (vi 18), .ref (a 5), .ref (ex 2), .ref (ex 3), .ref (ex 4), .ref (a 7), .ref (ex 5), .ref (ex 6), .ref (ex 7), .ref (ex 8), .ref (ex 9)])), ((a 5), .inl (T 2, 9, .inr (.inl (fl 0)))), ((a 6), .inl (T 2, 27, .inr (.inl (fl 1)))), ((a 7), .inl (T 2, 9, .inr (.inl (fl 2)))), ((a 1), .inr (6, [.ref (a 3), .ref (a 6), .int (vi 6), .int (vi 7), .int (vi 8), .int (vi 9), .int (vi 10), .int (vi 11), .long (vl 0), .int (vi 12), .int (vi 13), .int (vi 14), .int (vi 15), .int (vi 16)])), ((a 0), .inr (4, [.ref (a 1), .ref (a 4), .ref (a 2), .ref (ex 0), .ref (ex 1), .int (vi 0), .int (vi 1), .int (vi 2), .int (vi 3), .int (vi 4), .int (vi 5)])), ((a 2), .inl (T 1, 40, .inl (fik_6 0)))] H from ⟨hP, hD⟩)
      obtain ⟨gk_6_0, gk_6_1, gk_6_2, -⟩ := hG
      replace gk_6_1 : ∀ j : Nat, ¬ j = ((vi 0)).toNatClampNeg → (fik_6 0) j = (fi 0) j := gk_6_1
      replace gk_6_2 : ((fik_6 0) ((vi 0)).toNatClampNeg).toInt = (1 : Int32).toInt := gk_6_2
      replace gk_6_0 : rk_6 = 1 := gk_6_0
      refine xz_i 1 gk_6_0 ?_
      refine lv_if_eq (tgt := 118) hx hb dX4_readDeed_77 (by decide) (fun c => absurd c (by decide)) (fun _ => ?_)
      refine lv_aload_n hx hb dX4_readDeed_80 rfl (lv_at hl 0 rfl) ?_
      refine va_get (D := D) (ci := 4) (v := .ref (a 1)) (C := RX4) (T := TX4) (N := 11) hx hb htg inX4 hown hK.1 hP 6 rfl rfl 0 (by decide) (htg _ kw_339) (fun _ h9 => h9) rfl dX4_readDeed_81 ?_
      obtain ⟨hC9, hPc, hDc, hFc⟩ := xcut (wc := (pre_X6_pass T (xa [(a 1), (a 3)]) (xa [(a 6)]) (xf [(fi 1)]) (xh []) (xv [(vi 6), (vi 7), (vi 8), (vi 9), (vi 10), (vi 11), (vi 12), (vi 13), (vi 14), (vi 15), (vi 16)]) (xl [(vl 0)]))) hP hD hS hA [5, 0] (by decide) rfl
      refine va_calli (va_runVN (As := []) (rest := []) ⟨hx, hb, hml, hown, htg⟩ (c_X6_pass l D T (xa [(a 1), (a 3)]) (xa [(a 6)]) (xf [(fi 1)]) (xh []) (xv [(vi 6), (vi 7), (vi 8), (vi 9), (vi 10), (vi 11), (vi 12), (vi 13), (vi 14), (vi 15), (vi 16)]) (xl [(vl 0)]) H.size hp1 hp2) ⟨va_cnB 0 htg (xg_ok kw_618) rfl rfl rfl (hK.2.1 _ kn_1162) (htg _ kw_2) (by decide +kernel) ⟨by rw [hR]; exact Nat.le_of_ble_eq_true rfl, by rw [hR]; exact Nat.le_of_ble_eq_true rfl⟩, htg _ kw_617, htg _ ks_15⟩ (xpreV hK hPc hDc (va_recv hK.1 hPc (ci := 6) (q0 := 0) rfl rfl)) rfl rfl hl.1 rfl (lv_room (Nat.le_of_ble_eq_true rfl)) dX4_readDeed_84 ⟨by rw [hR]; exact Nat.le_of_ble_eq_true rfl, by rw [hR]; exact Nat.le_of_ble_eq_true rfl⟩) hS (fun q _ h => hFc q h) hFc (fun r9 u9 t H1 locs ht hvm hw hB hz1 hk1 hS => ?_)
      subst hw
      obtain ⟨fik_7, flk_7, vik_7, vlk_7, hP1, hD1, hG⟩ := hB
      rw [ht] at hP1
      obtain ⟨hP, hD⟩ := va_join (wr := [((a 4), .inr (7, [.int (vi 17), .int (vi 18), .ref (a 5), .ref (ex 2), .ref (ex 3), .ref (ex 4), .ref (a 7), .ref (ex 5), .ref (ex 6), .ref (ex 7), .ref (ex 8), .ref (ex 9)])), ((a 5), .inl (T 2, 9, .inr (.inl (fl 0)))), ((a 6), .inl (T 2, 27, .inr (.inl (fl 1)))), ((a 7), .inl (T 2, 9, .inr (.inl (fl 2)))), ((a 0), .inr (4, [.ref (a 1), .ref (a 4), .ref (a 2), .ref (ex 0), .ref (ex 1), .int (vi 0), .int (vi 1), .int (vi 2), .int (vi 3), .int (vi 4), .int (vi 5)])), ((a 2), .inl (T 1, 40, .inl (fik_6 0)))]) (w1 := [((a 1), .inr (6, [.ref (a 3), .ref (a 6), .int (vi 6), .int (vi 7), .int (vi 8), .int (vik_7 4), .int (vik_7 0), .int (vik_7 1), .long (vlk_7 0), .int (vik_7 3), .int (vik_7 2), .int (vi 14), .int (vi 15), .int (vi 16)])), ((a 3), .inl (T 0, 940, .inl (fi 1)))]) hP hD [5, 0] [1, 2, 3, 4, 6, 7] hC9 rfl (by decide) (by decide) hk1 hFc hP1 hD1
      obtain ⟨rk_7, er9⟩ : ∃ z, z = r9 := ⟨_, rfl⟩
      subst er9
      clear hPc hDc hFc hP1 hD1 hk1 hz1 hvm ht hC9
      generalize H1 = H at hP hS ⊢
      obtain ⟨hP, hD⟩ := (show xPD D A [((a 4), .inr (7, [.int (vi 17), .int (vi 18), .ref (a 5), .ref (ex 2), .ref (ex 3), .ref (ex 4), .ref (a 7), .ref (ex 5), .ref (ex 6), .ref (ex 7), .ref (ex 8), .ref (ex 9)])), ((a 5), .inl (T 2, 9, .inr (.inl (fl 0)))), ((a 6), .inl (T 2, 27, .inr (.inl (fl 1)))), ((a 7), .inl (T 2, 9, .inr (.inl (fl 2)))), ((a 0), .inr (4, [.ref (a 1), .ref (a 4), .ref (a 2), .ref (ex 0), .ref (ex 1), .int (vi 0), .int (vi 1), .int (vi 2), .int (vi 3), .int (vi 4), .int (vi 5)])), ((a 2), .inl (T 1, 40, .inl (fik_6 0))), ((a 1), .inr (6, [.ref (a 3), .ref (a 6), .int (vi 6), .int (vi 7), .int (vi 8), .int (vik_7 4), .int (vik_7 0), .int (vik_7 1), .long (vlk_7 0), .int (vik_7 3), .int (vik_7 2), .int (vi 14), .int (vi 15), .int (vi 16)])), ((a 3), .inl (T 0, 940, .inl (fi 1)))] H from ⟨hP, hD⟩)
      obtain ⟨gk_7_0, gk_7_1, -⟩ := hG
      replace gk_7_1 : 0 ≤ (vik_7 4).toInt ∧ (vik_7 4).toInt ≤ 940 := gk_7_1
      replace gk_7_0 : rk_7 = 1 := gk_7_0
      refine xz_i 1 gk_7_0 ?_
      refine lv_if_eq (tgt := 118) hx hb dX4_readDeed_87 (by decide) (fun c => absurd c (by decide)) (fun _ => ?_)
      refine lv_aload_n hx hb dX4_readDeed_90 rfl (lv_at hl 0 rfl) ?_
      refine va_get (D := D) (ci := 4) (v := .ref (a 1)) (C := RX4) (T := TX4) (N := 11) hx hb htg inX4 hown hK.1 hP 4 rfl rfl 0 (by decide) (htg _ kw_339) (fun _ h9 => h9) rfl dX4_readDeed_91 ?_
      refine lv_aload_n hx hb dX4_readDeed_94 rfl (lv_at hl 0 rfl) ?_
      refine va_get (D := D) (ci := 4) (v := .ref (a 4)) (C := RX4) (T := TX4) (N := 11) hx hb htg inX4 hown hK.1 hP 4 rfl rfl 1 (by decide) (htg _ kw_340) (fun _ h9 => h9) rfl dX4_readDeed_95 ?_
      refine lv_aload_n hx hb dX4_readDeed_98 rfl (lv_at hl 0 rfl) ?_
      refine va_get (D := D) (ci := 4) (v := .ref (a 1)) (C := RX4) (T := TX4) (N := 11) hx hb htg inX4 hown hK.1 hP 4 rfl rfl 0 (by decide) (htg _ kw_339) (fun _ h9 => h9) rfl dX4_readDeed_99 ?_
      refine va_getN (D := D) (ci := 6) (v := .long (vlk_7 0)) (C := RX6) (T := TX6) (N := 14) hx hb htg inX6 hown hK.1 hP 6 rfl rfl 8 (by decide) (va_Nw.use rfl (hK.2.1 _ kn_106)) (fun _ h9 => h9) rfl dX4_readDeed_102 ?_
      obtain ⟨hC9, hPc, hDc, hFc⟩ := xcut (wc := (pre_X7_findSoul T (xa [(a 4), (a 7)]) (xa [(a 5), (ex 2), (ex 3), (ex 4), (ex 5), (ex 6), (ex 7), (ex 8), (ex 9)]) (xf []) (xh [(fl 2)]) (xv [(vi 17), (vi 18)]) (xl [(vlk_7 0)]))) hP hD hS hA [0, 3] (by decide) rfl
      refine va_calli (va_runVN (As := [.long (vlk_7 0)]) (rest := [.ref (a 1)]) ⟨hx, hb, hml, hown, htg⟩ (c_X7_findSoul l D T (xa [(a 4), (a 7)]) (xa [(a 5), (ex 2), (ex 3), (ex 4), (ex 5), (ex 6), (ex 7), (ex 8), (ex 9)]) (xf []) (xh [(fl 2)]) (xv [(vi 17), (vi 18)]) (xl [(vlk_7 0)]) H.size hp3 hp4) ⟨va_cnB 1 htg (xg_ok kw_614) rfl rfl rfl (hK.2.1 _ kn_1148) (htg _ kw_7) (by decide +kernel) ⟨by rw [hR]; exact Nat.le_of_ble_eq_true rfl, by rw [hR]; exact Nat.le_of_ble_eq_true rfl⟩, htg _ kw_613, htg _ ks_14⟩ (xpreV hK hPc hDc (va_recv hK.1 hPc (ci := 7) (q0 := 0) rfl rfl)) rfl rfl hl.1 rfl (lv_room (Nat.le_of_ble_eq_true rfl)) dX4_readDeed_105 ⟨by rw [hR]; exact Nat.le_of_ble_eq_true rfl, by rw [hR]; exact Nat.le_of_ble_eq_true rfl⟩) hS (fun q _ h => hFc q h) hFc (fun r9 u9 t H1 locs ht hvm hw hB hz1 hk1 hS => ?_)
      subst hw
      obtain ⟨fik_8, flk_8, vik_8, vlk_8, hP1, hD1, hG⟩ := hB
      rw [ht] at hP1
      obtain ⟨hP, hD⟩ := va_join (wr := [((a 5), .inl (T 2, 9, .inr (.inl (fl 0)))), ((a 6), .inl (T 2, 27, .inr (.inl (fl 1)))), ((a 0), .inr (4, [.ref (a 1), .ref (a 4), .ref (a 2), .ref (ex 0), .ref (ex 1), .int (vi 0), .int (vi 1), .int (vi 2), .int (vi 3), .int (vi 4), .int (vi 5)])), ((a 2), .inl (T 1, 40, .inl (fik_6 0))), ((a 1), .inr (6, [.ref (a 3), .ref (a 6), .int (vi 6), .int (vi 7), .int (vi 8), .int (vik_7 4), .int (vik_7 0), .int (vik_7 1), .long (vlk_7 0), .int (vik_7 3), .int (vik_7 2), .int (vi 14), .int (vi 15), .int (vi 16)])), ((a 3), .inl (T 0, 940, .inl (fi 1)))]) (w1 := [((a 4), .inr (7, [.int (vi 17), .int (vi 18), .ref (a 5), .ref (ex 2), .ref (ex 3), .ref (ex 4), .ref (a 7), .ref (ex 5), .ref (ex 6), .ref (ex 7), .ref (ex 8), .ref (ex 9)])), ((a 7), .inl (T 2, 9, .inr (.inl (fl 2))))]) hP hD [0, 3] [1, 2, 4, 5, 6, 7] hC9 rfl (by decide) (by decide) hk1 hFc hP1 hD1
      obtain ⟨rk_8, er9⟩ : ∃ z, z = r9 := ⟨_, rfl⟩
      subst er9
      clear hPc hDc hFc hP1 hD1 hk1 hz1 hvm ht hC9
      generalize H1 = H at hP hS ⊢
      obtain ⟨hP, hD⟩ := (show xPD D A [((a 5), .inl (T 2, 9, .inr (.inl (fl 0)))), ((a 6), .inl (T 2, 27, .inr (.inl (fl 1)))), ((a 0), .inr (4, [.ref (a 1), .ref (a 4), .ref (a 2), .ref (ex 0), .ref (ex 1), .int (vi 0), .int (vi 1), .int (vi 2), .int (vi 3), .int (vi 4), .int (vi 5)])), ((a 2), .inl (T 1, 40, .inl (fik_6 0))), ((a 1), .inr (6, [.ref (a 3), .ref (a 6), .int (vi 6), .int (vi 7), .int (vi 8), .int (vik_7 4), .int (vik_7 0), .int (vik_7 1), .long (vlk_7 0), .int (vik_7 3), .int (vik_7 2), .int (vi 14), .int (vi 15), .int (vi 16)])), ((a 3), .inl (T 0, 940, .inl (fi 1))), ((a 4), .inr (7, [.int (vi 17), .int (vi 18), .ref (a 5), .ref (ex 2), .ref (ex 3), .ref (ex 4), .ref (a 7), .ref (ex 5), .ref (ex 6), .ref (ex 7), .ref (ex 8), .ref (ex 9)])), ((a 7), .inl (T 2, 9, .inr (.inl (fl 2))))] H from ⟨hP, hD⟩)
      obtain ⟨gk_8_0, -⟩ := hG
      replace gk_8_0 : -1 ≤ rk_8.toInt ∧ rk_8.toInt ≤ 8 := gk_8_0
      obtain ⟨hC9, hPc, hDc, hFc⟩ := xcut (wc := (pre_X6_passKnown T (xa [(a 1), (a 6), (a 3)]) (xa []) (xf [(fi 1)]) (xh [(fl 1)]) (xv [rk_8, (vi 6), (vi 7), (vi 8), (vik_7 4), (vik_7 0), (vik_7 1), (vik_7 3), (vik_7 2), (vi 14), (vi 15), (vi 16)]) (xl [(vlk_7 0)]))) hP hD hS hA [4, 1, 5] (by decide) rfl
      refine va_calli (va_runVN (As := [.int rk_8]) (rest := []) ⟨hx, hb, hml, hown, htg⟩ (c_X6_passKnown l D T (xa [(a 1), (a 6), (a 3)]) (xa []) (xf [(fi 1)]) (xh [(fl 1)]) (xv [rk_8, (vi 6), (vi 7), (vi 8), (vik_7 4), (vik_7 0), (vik_7 1), (vik_7 3), (vik_7 2), (vi 14), (vi 15), (vi 16)]) (xl [(vlk_7 0)]) H.size hp1 gk_7_1) ⟨va_cnB 1 htg (xg_ok kw_640) rfl rfl rfl (hK.2.1 _ kn_1149) (htg _ kw_2) (by decide +kernel) ⟨by rw [hR]; exact Nat.le_of_ble_eq_true rfl, by rw [hR]; exact Nat.le_of_ble_eq_true rfl⟩, htg _ kw_639, htg _ ks_20⟩ (xpreV hK hPc hDc (va_recv hK.1 hPc (ci := 6) (q0 := 0) rfl rfl)) rfl rfl hl.1 rfl (lv_room (Nat.le_of_ble_eq_true rfl)) dX4_readDeed_108 ⟨by rw [hR]; exact Nat.le_of_ble_eq_true rfl, by rw [hR]; exact Nat.le_of_ble_eq_true rfl⟩) hS (fun q _ h => hFc q h) hFc (fun r9 u9 t H1 locs ht hvm hw hB hz1 hk1 hS => ?_)
      subst hw
      obtain ⟨fik_9, flk_9, vik_9, vlk_9, hP1, hD1, hG⟩ := hB
      rw [ht] at hP1
      obtain ⟨hP, hD⟩ := va_join (wr := [((a 5), .inl (T 2, 9, .inr (.inl (fl 0)))), ((a 0), .inr (4, [.ref (a 1), .ref (a 4), .ref (a 2), .ref (ex 0), .ref (ex 1), .int (vi 0), .int (vi 1), .int (vi 2), .int (vi 3), .int (vi 4), .int (vi 5)])), ((a 2), .inl (T 1, 40, .inl (fik_6 0))), ((a 4), .inr (7, [.int (vi 17), .int (vi 18), .ref (a 5), .ref (ex 2), .ref (ex 3), .ref (ex 4), .ref (a 7), .ref (ex 5), .ref (ex 6), .ref (ex 7), .ref (ex 8), .ref (ex 9)])), ((a 7), .inl (T 2, 9, .inr (.inl (fl 2))))]) (w1 := [((a 1), .inr (6, [.ref (a 3), .ref (a 6), .int (vi 6), .int (vi 7), .int (vi 8), .int (vik_9 5), .int (vik_9 1), .int (vik_9 2), .long (vlk_9 0), .int (vik_9 4), .int (vik_9 3), .int (vik_9 0), .int (vik_9 6), .int (vik_9 7)])), ((a 6), .inl (T 2, 27, .inr (.inl (fl 1)))), ((a 3), .inl (T 0, 940, .inl (fi 1)))]) hP hD [4, 1, 5] [0, 2, 3, 6, 7] hC9 rfl (by decide) (by decide) hk1 hFc hP1 hD1
      obtain ⟨rk_9, er9⟩ : ∃ z, z = r9 := ⟨_, rfl⟩
      subst er9
      clear hPc hDc hFc hP1 hD1 hk1 hz1 hvm ht hC9
      generalize H1 = H at hP hS ⊢
      obtain ⟨hP, hD⟩ := (show xPD D A [((a 5), .inl (T 2, 9, .inr (.inl (fl 0)))), ((a 0), .inr (4, [.ref (a 1), .ref (a 4), .ref (a 2), .ref (ex 0), .ref (ex 1), .int (vi 0), .int (vi 1), .int (vi 2), .int (vi 3), .int (vi 4), .int (vi 5)])), ((a 2), .inl (T 1, 40, .inl (fik_6 0))), ((a 4), .inr (7, [.int (vi 17), .int (vi 18), .ref (a 5), .ref (ex 2), .ref (ex 3), .ref (ex 4), .ref (a 7), .ref (ex 5), .ref (ex 6), .ref (ex 7), .ref (ex 8), .ref (ex 9)])), ((a 7), .inl (T 2, 9, .inr (.inl (fl 2)))), ((a 1), .inr (6, [.ref (a 3), .ref (a 6), .int (vi 6), .int (vi 7), .int (vi 8), .int (vik_9 5), .int (vik_9 1), .int (vik_9 2), .long (vlk_9 0), .int (vik_9 4), .int (vik_9 3), .int (vik_9 0), .int (vik_9 6), .int (vik_9 7)])), ((a 6), .inl (T 2, 27, .inr (.inl (fl 1)))), ((a 3), .inl (T 0, 940, .inl (fi 1)))] H from ⟨hP, hD⟩)
      obtain ⟨gk_9_0, gk_9_1, -⟩ := hG
      replace gk_9_1 : 0 ≤ (vik_9 5).toInt ∧ (vik_9 5).toInt ≤ 940 := gk_9_1
      rcases (show (rk_9 = 1 ∧ ((vik_9 0).toInt = rk_8.toInt ∧ ¬ rk_8.toInt = -1)) ∨ (rk_9 = 0 ∧ (True)) from gk_9_0) with ⟨er9, gk_9_0⟩ | ⟨er9, gk_9_0⟩
      · refine xz_i 1 er9 ?_
        refine lv_if_eq (tgt := 118) hx hb dX4_readDeed_111 (by decide) (fun c => absurd c (by decide)) (fun _ => ?_)
        refine lv_iconst (v := 1) hx hb dX4_readDeed_114 (by decide) ?_
        refine lv_goto (tgt := 119) hx hb dX4_readDeed_115 (by decide) ?_
        have hP9 := hP.sub (ws' := [((a 0), .inr (4, [.ref (a 1), .ref (a 4), .ref (a 2), .ref (ex 0), .ref (ex 1), .int (vi 0), .int (vi 1), .int (vi 2), .int (vi 3), .int (vi 4), .int (vi 5)])), ((a 1), .inr (6, [.ref (a 3), .ref (a 6), .int (vi 6), .int (vi 7), .int (vi 8), .int (vik_9 5), .int (vik_9 1), .int (vik_9 2), .long (vlk_9 0), .int (vik_9 4), .int (vik_9 3), .int (vik_9 0), .int (vik_9 6), .int (vik_9 7)])), ((a 2), .inl (T 1, 40, .inl (fik_6 0))), ((a 3), .inl (T 0, 940, .inl (fi 1))), ((a 4), .inr (7, [.int (vi 17), .int (vi 18), .ref (a 5), .ref (ex 2), .ref (ex 3), .ref (ex 4), .ref (a 7), .ref (ex 5), .ref (ex 6), .ref (ex 7), .ref (ex 8), .ref (ex 9)])), ((a 5), .inl (T 2, 9, .inr (.inl (fl 0)))), ((a 6), .inl (T 2, 27, .inr (.inl (fl 1)))), ((a 7), .inl (T 2, 9, .inr (.inl (fl 2))))]) [1, 5, 2, 7, 3, 0, 6, 4] rfl
        have hD9 := hD.sub (ws' := [((a 0), .inr (4, [.ref (a 1), .ref (a 4), .ref (a 2), .ref (ex 0), .ref (ex 1), .int (vi 0), .int (vi 1), .int (vi 2), .int (vi 3), .int (vi 4), .int (vi 5)])), ((a 1), .inr (6, [.ref (a 3), .ref (a 6), .int (vi 6), .int (vi 7), .int (vi 8), .int (vik_9 5), .int (vik_9 1), .int (vik_9 2), .long (vlk_9 0), .int (vik_9 4), .int (vik_9 3), .int (vik_9 0), .int (vik_9 6), .int (vik_9 7)])), ((a 2), .inl (T 1, 40, .inl (fik_6 0))), ((a 3), .inl (T 0, 940, .inl (fi 1))), ((a 4), .inr (7, [.int (vi 17), .int (vi 18), .ref (a 5), .ref (ex 2), .ref (ex 3), .ref (ex 4), .ref (a 7), .ref (ex 5), .ref (ex 6), .ref (ex 7), .ref (ex 8), .ref (ex 9)])), ((a 5), .inl (T 2, 9, .inr (.inl (fl 0)))), ((a 6), .inl (T 2, 27, .inr (.inl (fl 1)))), ((a 7), .inl (T 2, 9, .inr (.inl (fl 2))))]) [1, 5, 2, 7, 3, 0, 6, 4] (by decide +kernel) rfl
        rw [hQ]
        exact W.zret (v := 1) hx hb hr rfl (fun t ht hW => ⟨⟨1, 1, rfl, rfl, xf [(fik_6 0)], xh [], xv [(vik_9 1), (vik_9 2), (vik_9 3), (vik_9 4), (vik_9 5), (vik_9 0), (vik_9 6), (vik_9 7)], xl [(vlk_9 0)], by rw [ht]; exact hP9, hD9, ⟨(Or.inl ⟨rfl, by show 0 ≤ ((fik_6 0) ((vi 0)).toNatClampNeg).toInt ∧ ((fik_6 0) ((vi 0)).toNatClampNeg).toInt ≤ 7 ∧ ¬ ((fik_6 0) ((vi 0)).toNatClampNeg).toInt = 6 ∧ (3 ≤ ((fik_6 0) ((vi 0)).toNatClampNeg).toInt ∨ 0 ≤ (vik_9 0).toInt ∧ (vik_9 0).toInt ≤ 8); have q8_0 : (0 : Int32).toInt = 0 := (by decide); have q8_1 : (1 : Int32).toInt = 1 := (by decide); have q8_2 : (2 : Int32).toInt = 2 := (by decide); have q8_3 : (3 : Int32).toInt = 3 := (by decide); have q8_4 : (4 : Int32).toInt = 4 := (by decide); have q8_5 : (5 : Int32).toInt = 5 := (by decide); have q8_6 : (6 : Int32).toInt = 6 := (by decide); have q8_7 : (7 : Int32).toInt = 7 := (by decide); omega⟩), gk_9_1, (by show ∀ j : Nat, ¬ j = ((vi 0)).toNatClampNeg → (fik_6 0) j = (fi 0) j; first | assumption | exact fun j _ => rfl), trivial⟩⟩, hS.F ht⟩) hS.2.2 dX4_readDeed_119
      · refine xz_i 0 er9 ?_
        refine lv_if_eq (tgt := 118) hx hb dX4_readDeed_111 (by decide) (fun _ => ?_) (fun c => absurd (by decide) c)
        refine lv_iconst (v := 0) hx hb dX4_readDeed_118 (by decide) ?_
        have hP9 := hP.sub (ws' := [((a 0), .inr (4, [.ref (a 1), .ref (a 4), .ref (a 2), .ref (ex 0), .ref (ex 1), .int (vi 0), .int (vi 1), .int (vi 2), .int (vi 3), .int (vi 4), .int (vi 5)])), ((a 1), .inr (6, [.ref (a 3), .ref (a 6), .int (vi 6), .int (vi 7), .int (vi 8), .int (vik_9 5), .int (vik_9 1), .int (vik_9 2), .long (vlk_9 0), .int (vik_9 4), .int (vik_9 3), .int (vik_9 0), .int (vik_9 6), .int (vik_9 7)])), ((a 2), .inl (T 1, 40, .inl (fik_6 0))), ((a 3), .inl (T 0, 940, .inl (fi 1))), ((a 4), .inr (7, [.int (vi 17), .int (vi 18), .ref (a 5), .ref (ex 2), .ref (ex 3), .ref (ex 4), .ref (a 7), .ref (ex 5), .ref (ex 6), .ref (ex 7), .ref (ex 8), .ref (ex 9)])), ((a 5), .inl (T 2, 9, .inr (.inl (fl 0)))), ((a 6), .inl (T 2, 27, .inr (.inl (fl 1)))), ((a 7), .inl (T 2, 9, .inr (.inl (fl 2))))]) [1, 5, 2, 7, 3, 0, 6, 4] rfl
        have hD9 := hD.sub (ws' := [((a 0), .inr (4, [.ref (a 1), .ref (a 4), .ref (a 2), .ref (ex 0), .ref (ex 1), .int (vi 0), .int (vi 1), .int (vi 2), .int (vi 3), .int (vi 4), .int (vi 5)])), ((a 1), .inr (6, [.ref (a 3), .ref (a 6), .int (vi 6), .int (vi 7), .int (vi 8), .int (vik_9 5), .int (vik_9 1), .int (vik_9 2), .long (vlk_9 0), .int (vik_9 4), .int (vik_9 3), .int (vik_9 0), .int (vik_9 6), .int (vik_9 7)])), ((a 2), .inl (T 1, 40, .inl (fik_6 0))), ((a 3), .inl (T 0, 940, .inl (fi 1))), ((a 4), .inr (7, [.int (vi 17), .int (vi 18), .ref (a 5), .ref (ex 2), .ref (ex 3), .ref (ex 4), .ref (a 7), .ref (ex 5), .ref (ex 6), .ref (ex 7), .ref (ex 8), .ref (ex 9)])), ((a 5), .inl (T 2, 9, .inr (.inl (fl 0)))), ((a 6), .inl (T 2, 27, .inr (.inl (fl 1)))), ((a 7), .inl (T 2, 9, .inr (.inl (fl 2))))]) [1, 5, 2, 7, 3, 0, 6, 4] (by decide +kernel) rfl
        rw [hQ]
        exact W.zret (v := 0) hx hb hr rfl (fun t ht hW => ⟨⟨0, 0, rfl, rfl, xf [(fik_6 0)], xh [], xv [(vik_9 1), (vik_9 2), (vik_9 3), (vik_9 4), (vik_9 5), (vik_9 0), (vik_9 6), (vik_9 7)], xl [(vlk_9 0)], by rw [ht]; exact hP9, hD9, ⟨(Or.inr ⟨rfl, by show True; first | trivial | omega | assumption⟩), gk_9_1, (by show ∀ j : Nat, ¬ j = ((vi 0)).toNatClampNeg → (fik_6 0) j = (fi 0) j; first | assumption | exact fun j _ => rfl), trivial⟩⟩, hS.F ht⟩) hS.2.2 dX4_readDeed_119
    · refine xz_i 0 er9 ?_
      refine lv_if_eq (tgt := 120) hx hb dX4_readDeed_69 (by decide) (fun _ => ?_) (fun c => absurd (by decide) c)
      refine lv_aload_n hx hb dX4_readDeed_120 rfl (lv_at hl 0 rfl) ?_
      refine va_get (D := D) (ci := 4) (v := .ref (a 1)) (C := RX4) (T := TX4) (N := 11) hx hb htg inX4 hown hK.1 hP 0 rfl rfl 0 (by decide) (htg _ kw_339) (fun _ h9 => h9) rfl dX4_readDeed_121 ?_
      refine va_ldcS hx hb hown (hT.1 14 (by decide)) dX4_readDeed_124 ?_
      obtain ⟨hC9, hPc, hDc, hFc⟩ := xcut (wc := (pre_X6_isWord_4 T (xa [(a 1)]) (xa [(a 3), (a 6)]) (xf []) (xh []) (xv [(vi 6), (vi 7), (vi 8), (vi 9), (vi 10), (vi 11), (vi 12), (vi 13), (vi 14), (vi 15), (vi 16)]) (xl [(vl 0)]))) hP hD hS hA [7] (by decide) rfl
      refine va_calli (va_runVN (As := [.ref (kK 14)]) (rest := []) ⟨hx, hb, hml, hown, htg⟩ (c_X6_isWord_4 l D T (xa [(a 1)]) (xa [(a 3), (a 6)]) (xf []) (xh []) (xv [(vi 6), (vi 7), (vi 8), (vi 9), (vi 10), (vi 11), (vi 12), (vi 13), (vi 14), (vi 15), (vi 16)]) (xl [(vl 0)]) kK kV H.size hp1 hp2) ⟨va_cnB 1 htg (xg_ok kw_586) rfl rfl rfl (hK.2.1 _ kn_1147) (htg _ kw_2) (by decide +kernel) ⟨by rw [hR]; exact Nat.le_of_ble_eq_true rfl, by rw [hR]; exact Nat.le_of_ble_eq_true rfl⟩, htg _ kw_585, htg _ ks_8⟩ (xpreVs hK hPc hDc hT hFc hS (va_recv hK.1 hPc (ci := 6) (q0 := 0) rfl rfl)) rfl rfl hl.1 rfl (lv_room (Nat.le_of_ble_eq_true rfl)) dX4_readDeed_126 ⟨by rw [hR]; exact Nat.le_of_ble_eq_true rfl, by rw [hR]; exact Nat.le_of_ble_eq_true rfl⟩) hS (fun q _ h => hFc q h) hFc (fun r9 u9 t H1 locs ht hvm hw hB hz1 hk1 hS => ?_)
      subst hw
      obtain ⟨fik_10, flk_10, vik_10, vlk_10, hP1, hD1, hG⟩ := hB
      rw [ht] at hP1
      obtain ⟨hP, hD⟩ := va_join (wr := [((a 0), .inr (4, [.ref (a 1), .ref (a 4), .ref (a 2), .ref (ex 0), .ref (ex 1), .int (vi 0), .int (vi 1), .int (vi 2), .int (vi 3), .int (vi 4), .int (vi 5)])), ((a 2), .inl (T 1, 40, .inl (fi 0))), ((a 3), .inl (T 0, 940, .inl (fi 1))), ((a 4), .inr (7, [.int (vi 17), .int (vi 18), .ref (a 5), .ref (ex 2), .ref (ex 3), .ref (ex 4), .ref (a 7), .ref (ex 5), .ref (ex 6), .ref (ex 7), .ref (ex 8), .ref (ex 9)])), ((a 5), .inl (T 2, 9, .inr (.inl (fl 0)))), ((a 6), .inl (T 2, 27, .inr (.inl (fl 1)))), ((a 7), .inl (T 2, 9, .inr (.inl (fl 2))))]) (w1 := [((a 1), .inr (6, [.ref (a 3), .ref (a 6), .int (vi 6), .int (vi 7), .int (vi 8), .int (vi 9), .int (vi 10), .int (vi 11), .long (vl 0), .int (vi 12), .int (vi 13), .int (vi 14), .int (vi 15), .int (vi 16)]))]) hP hD [7] [0, 1, 2, 3, 4, 5, 6] hC9 rfl (by decide) (by decide) hk1 hFc hP1 hD1
      obtain ⟨rk_10, er9⟩ : ∃ z, z = r9 := ⟨_, rfl⟩
      subst er9
      clear hPc hDc hFc hP1 hD1 hk1 hz1 hvm ht hC9
      generalize H1 = H at hP hS ⊢
      obtain ⟨hP, hD⟩ := (show xPD D A [((a 0), .inr (4, [.ref (a 1), .ref (a 4), .ref (a 2), .ref (ex 0), .ref (ex 1), .int (vi 0), .int (vi 1), .int (vi 2), .int (vi 3), .int (vi 4), .int (vi 5)])), ((a 2), .inl (T 1, 40, .inl (fi 0))), ((a 3), .inl (T 0, 940, .inl (fi 1))), ((a 4), .inr (7, [.int (vi 17), .int (vi 18), .ref (a 5), .ref (ex 2), .ref (ex 3), .ref (ex 4), .ref (a 7), .ref (ex 5), .ref (ex 6), .ref (ex 7), .ref (ex 8), .ref (ex 9)])), ((a 5), .inl (T 2, 9, .inr (.inl (fl 0)))), ((a 6), .inl (T 2, 27, .inr (.inl (fl 1)))), ((a 7), .inl (T 2, 9, .inr (.inl (fl 2)))), ((a 1), .inr (6, [.ref (a 3), .ref (a 6), .int (vi 6), .int (vi 7), .int (vi 8), .int (vi 9), .int (vi 10), .int (vi 11), .long (vl 0), .int (vi 12), .int (vi 13), .int (vi 14), .int (vi 15), .int (vi 16)]))] H from ⟨hP, hD⟩)
      obtain ⟨gk_10_0, -⟩ := hG
      rcases (show (rk_10 = 1 ∧ (True)) ∨ (rk_10 = 0 ∧ (True)) from gk_10_0) with ⟨er9, gk_10_0⟩ | ⟨er9, gk_10_0⟩
      · refine xz_i 1 er9 ?_
        refine lv_if_eq (tgt := 180) hx hb dX4_readDeed_129 (by decide) (fun c => absurd c (by decide)) (fun _ => ?_)
        refine lv_aload_n hx hb dX4_readDeed_132 rfl (lv_at hl 0 rfl) ?_
        refine lv_iconst (v := 2) hx hb dX4_readDeed_133 (by decide) ?_
        obtain ⟨hC9, hPc, hDc, hFc⟩ := xcut (wc := (pre_X4_setSort_4 T (xa [(a 0), (a 2)]) (xa [(a 1), (a 4), (ex 0), (ex 1)]) (xf [(fi 0)]) (xh []) (xv [(vi 0), (vi 1), (vi 2), (vi 3), (vi 4), (vi 5)]) (xl []))) hP hD hS hA [0, 1] (by decide) rfl
        refine va_calli (va_runV (As := [.int 2]) (rest := []) ⟨hx, hb, hml, hown, htg⟩ (c_X4_setSort_4 l D T (xa [(a 0), (a 2)]) (xa [(a 1), (a 4), (ex 0), (ex 1)]) (xf [(fi 0)]) (xh []) (xv [(vi 0), (vi 1), (vi 2), (vi 3), (vi 4), (vi 5)]) (xl []) H.size hp0 (by show (vi 0).toInt ≤ 39; first | omega | assumption)) ⟨callB_of 1 htg (xg_ok kw_1155) rfl rfl rfl (htg _ kw_11) (htg _ kw_1152) (by decide +kernel) ⟨by rw [hR]; exact Nat.le_of_ble_eq_true rfl, by rw [hR]; exact Nat.le_of_ble_eq_true rfl⟩, htg _ kw_1154, htg _ ks_97⟩ (xpreV hK hPc hDc (va_recv hK.1 hPc (ci := 4) (q0 := 0) rfl rfl)) rfl rfl hl.1 rfl (lv_room (Nat.le_of_ble_eq_true rfl)) dX4_readDeed_134 ⟨by rw [hR]; exact Nat.le_of_ble_eq_true rfl, by rw [hR]; exact Nat.le_of_ble_eq_true rfl⟩) hS (fun q _ h => hFc q h) hFc (fun r9 u9 t H1 locs ht hvm hw hB hz1 hk1 hS => ?_)
        subst hw
        obtain ⟨fik_11, flk_11, vik_11, vlk_11, hP1, hD1, hG⟩ := hB
        rw [ht] at hP1
        obtain ⟨hP, hD⟩ := va_join (wr := [((a 3), .inl (T 0, 940, .inl (fi 1))), ((a 4), .inr (7, [.int (vi 17), .int (vi 18), .ref (a 5), .ref (ex 2), .ref (ex 3), .ref (ex 4), .ref (a 7), .ref (ex 5), .ref (ex 6), .ref (ex 7), .ref (ex 8), .ref (ex 9)])), ((a 5), .inl (T 2, 9, .inr (.inl (fl 0)))), ((a 6), .inl (T 2, 27, .inr (.inl (fl 1)))), ((a 7), .inl (T 2, 9, .inr (.inl (fl 2)))), ((a 1), .inr (6, [.ref (a 3), .ref (a 6), .int (vi 6), .int (vi 7), .int (vi 8), .int (vi 9), .int (vi 10), .int (vi 11), .long (vl 0), .int (vi 12), .int (vi 13), .int (vi 14), .int (vi 15), .int (vi 16)]))]) (w1 := [((a 0), .inr (4, [.ref (a 1), .ref (a 4), .ref (a 2), .ref (ex 0), .ref (ex 1), .int (vi 0), .int (vi 1), .int (vi 2), .int (vi 3), .int (vi 4), .int (vi 5)])), ((a 2), .inl (T 1, 40, .inl (fik_11 0)))]) hP hD [0, 1] [2, 3, 4, 5, 6, 7] hC9 rfl (by decide) (by decide) hk1 hFc hP1 hD1
        obtain ⟨rk_11, er9⟩ : ∃ z, z = r9 := ⟨_, rfl⟩
        subst er9
        clear hPc hDc hFc hP1 hD1 hk1 hz1 hvm ht hC9
        generalize H1 = H at hP hS ⊢
        obtain ⟨hP, hD⟩ := (show xPD D A [((a 3), .inl (T 0, 940, .inl (fi 1))), ((a 4), .inr (7, [.int (vi 17), .int (vi 18), .ref (a 5), .ref (ex 2), .ref (ex 3), .ref (ex 4), .ref (a 7), .ref (ex 5), .ref (ex 6), .ref (ex 7), .ref (ex 8), .ref (ex 9)])), ((a 5), .inl (T 2, 9, .inr (.inl (fl 0)))), ((a 6), .inl (T 2, 27, .inr (.inl (fl 1)))), ((a 7), .inl (T 2, 9, .inr (.inl (fl 2)))), ((a 1), .inr (6, [.ref (a 3), .ref (a 6), .int (vi 6), .int (vi 7), .int (vi 8), .int (vi 9), .int (vi 10), .int (vi 11), .long (vl 0), .int (vi 12), .int (vi 13), .int (vi 14), .int (vi 15), .int (vi 16)])), ((a 0), .inr (4, [.ref (a 1), .ref (a 4), .ref (a 2), .ref (ex 0), .ref (ex 1), .int (vi 0), .int (vi 1), .int (vi 2), .int (vi 3), .int (vi 4), .int (vi 5)])), ((a 2), .inl (T 1, 40, .inl (fik_11 0)))] H from ⟨hP, hD⟩)
        obtain ⟨gk_11_0, gk_11_1, gk_11_2, -⟩ := hG
        replace gk_11_1 : ∀ j : Nat, ¬ j = ((vi 0)).toNatClampNeg → (fik_11 0) j = (fi 0) j := gk_11_1
        replace gk_11_2 : ((fik_11 0) ((vi 0)).toNatClampNeg).toInt = (2 : Int32).toInt := gk_11_2
        replace gk_11_0 : rk_11 = 1 := gk_11_0
        refine xz_i 1 gk_11_0 ?_
        refine lv_if_eq (tgt := 178) hx hb dX4_readDeed_137 (by decide) (fun c => absurd c (by decide)) (fun _ => ?_)
        refine lv_aload_n hx hb dX4_readDeed_140 rfl (lv_at hl 0 rfl) ?_
        refine va_get (D := D) (ci := 4) (v := .ref (a 1)) (C := RX4) (T := TX4) (N := 11) hx hb htg inX4 hown hK.1 hP 6 rfl rfl 0 (by decide) (htg _ kw_339) (fun _ h9 => h9) rfl dX4_readDeed_141 ?_
        obtain ⟨hC9, hPc, hDc, hFc⟩ := xcut (wc := (pre_X6_pass T (xa [(a 1), (a 3)]) (xa [(a 6)]) (xf [(fi 1)]) (xh []) (xv [(vi 6), (vi 7), (vi 8), (vi 9), (vi 10), (vi 11), (vi 12), (vi 13), (vi 14), (vi 15), (vi 16)]) (xl [(vl 0)]))) hP hD hS hA [5, 0] (by decide) rfl
        refine va_calli (va_runVN (As := []) (rest := []) ⟨hx, hb, hml, hown, htg⟩ (c_X6_pass l D T (xa [(a 1), (a 3)]) (xa [(a 6)]) (xf [(fi 1)]) (xh []) (xv [(vi 6), (vi 7), (vi 8), (vi 9), (vi 10), (vi 11), (vi 12), (vi 13), (vi 14), (vi 15), (vi 16)]) (xl [(vl 0)]) H.size hp1 hp2) ⟨va_cnB 0 htg (xg_ok kw_618) rfl rfl rfl (hK.2.1 _ kn_1162) (htg _ kw_2) (by decide +kernel) ⟨by rw [hR]; exact Nat.le_of_ble_eq_true rfl, by rw [hR]; exact Nat.le_of_ble_eq_true rfl⟩, htg _ kw_617, htg _ ks_15⟩ (xpreV hK hPc hDc (va_recv hK.1 hPc (ci := 6) (q0 := 0) rfl rfl)) rfl rfl hl.1 rfl (lv_room (Nat.le_of_ble_eq_true rfl)) dX4_readDeed_144 ⟨by rw [hR]; exact Nat.le_of_ble_eq_true rfl, by rw [hR]; exact Nat.le_of_ble_eq_true rfl⟩) hS (fun q _ h => hFc q h) hFc (fun r9 u9 t H1 locs ht hvm hw hB hz1 hk1 hS => ?_)
        subst hw
        obtain ⟨fik_12, flk_12, vik_12, vlk_12, hP1, hD1, hG⟩ := hB
        rw [ht] at hP1
        obtain ⟨hP, hD⟩ := va_join (wr := [((a 4), .inr (7, [.int (vi 17), .int (vi 18), .ref (a 5), .ref (ex 2), .ref (ex 3), .ref (ex 4), .ref (a 7), .ref (ex 5), .ref (ex 6), .ref (ex 7), .ref (ex 8), .ref (ex 9)])), ((a 5), .inl (T 2, 9, .inr (.inl (fl 0)))), ((a 6), .inl (T 2, 27, .inr (.inl (fl 1)))), ((a 7), .inl (T 2, 9, .inr (.inl (fl 2)))), ((a 0), .inr (4, [.ref (a 1), .ref (a 4), .ref (a 2), .ref (ex 0), .ref (ex 1), .int (vi 0), .int (vi 1), .int (vi 2), .int (vi 3), .int (vi 4), .int (vi 5)])), ((a 2), .inl (T 1, 40, .inl (fik_11 0)))]) (w1 := [((a 1), .inr (6, [.ref (a 3), .ref (a 6), .int (vi 6), .int (vi 7), .int (vi 8), .int (vik_12 4), .int (vik_12 0), .int (vik_12 1), .long (vlk_12 0), .int (vik_12 3), .int (vik_12 2), .int (vi 14), .int (vi 15), .int (vi 16)])), ((a 3), .inl (T 0, 940, .inl (fi 1)))]) hP hD [5, 0] [1, 2, 3, 4, 6, 7] hC9 rfl (by decide) (by decide) hk1 hFc hP1 hD1
        obtain ⟨rk_12, er9⟩ : ∃ z, z = r9 := ⟨_, rfl⟩
        subst er9
        clear hPc hDc hFc hP1 hD1 hk1 hz1 hvm ht hC9
        generalize H1 = H at hP hS ⊢
        obtain ⟨hP, hD⟩ := (show xPD D A [((a 4), .inr (7, [.int (vi 17), .int (vi 18), .ref (a 5), .ref (ex 2), .ref (ex 3), .ref (ex 4), .ref (a 7), .ref (ex 5), .ref (ex 6), .ref (ex 7), .ref (ex 8), .ref (ex 9)])), ((a 5), .inl (T 2, 9, .inr (.inl (fl 0)))), ((a 6), .inl (T 2, 27, .inr (.inl (fl 1)))), ((a 7), .inl (T 2, 9, .inr (.inl (fl 2)))), ((a 0), .inr (4, [.ref (a 1), .ref (a 4), .ref (a 2), .ref (ex 0), .ref (ex 1), .int (vi 0), .int (vi 1), .int (vi 2), .int (vi 3), .int (vi 4), .int (vi 5)])), ((a 2), .inl (T 1, 40, .inl (fik_11 0))), ((a 1), .inr (6, [.ref (a 3), .ref (a 6), .int (vi 6), .int (vi 7), .int (vi 8), .int (vik_12 4), .int (vik_12 0), .int (vik_12 1), .long (vlk_12 0), .int (vik_12 3), .int (vik_12 2), .int (vi 14), .int (vi 15), .int (vi 16)])), ((a 3), .inl (T 0, 940, .inl (fi 1)))] H from ⟨hP, hD⟩)
        obtain ⟨gk_12_0, gk_12_1, -⟩ := hG
        replace gk_12_1 : 0 ≤ (vik_12 4).toInt ∧ (vik_12 4).toInt ≤ 940 := gk_12_1
        replace gk_12_0 : rk_12 = 1 := gk_12_0
        refine xz_i 1 gk_12_0 ?_
        refine lv_if_eq (tgt := 178) hx hb dX4_readDeed_147 (by decide) (fun c => absurd c (by decide)) (fun _ => ?_)
        refine lv_aload_n hx hb dX4_readDeed_150 rfl (lv_at hl 0 rfl) ?_
        refine va_get (D := D) (ci := 4) (v := .ref (a 1)) (C := RX4) (T := TX4) (N := 11) hx hb htg inX4 hown hK.1 hP 4 rfl rfl 0 (by decide) (htg _ kw_339) (fun _ h9 => h9) rfl dX4_readDeed_151 ?_
        refine lv_aload_n hx hb dX4_readDeed_154 rfl (lv_at hl 0 rfl) ?_
        refine va_get (D := D) (ci := 4) (v := .ref (a 4)) (C := RX4) (T := TX4) (N := 11) hx hb htg inX4 hown hK.1 hP 4 rfl rfl 1 (by decide) (htg _ kw_340) (fun _ h9 => h9) rfl dX4_readDeed_155 ?_
        refine lv_aload_n hx hb dX4_readDeed_158 rfl (lv_at hl 0 rfl) ?_
        refine va_get (D := D) (ci := 4) (v := .ref (a 1)) (C := RX4) (T := TX4) (N := 11) hx hb htg inX4 hown hK.1 hP 4 rfl rfl 0 (by decide) (htg _ kw_339) (fun _ h9 => h9) rfl dX4_readDeed_159 ?_
        refine va_getN (D := D) (ci := 6) (v := .long (vlk_12 0)) (C := RX6) (T := TX6) (N := 14) hx hb htg inX6 hown hK.1 hP 6 rfl rfl 8 (by decide) (va_Nw.use rfl (hK.2.1 _ kn_106)) (fun _ h9 => h9) rfl dX4_readDeed_162 ?_
        obtain ⟨hC9, hPc, hDc, hFc⟩ := xcut (wc := (pre_X7_findSoul T (xa [(a 4), (a 7)]) (xa [(a 5), (ex 2), (ex 3), (ex 4), (ex 5), (ex 6), (ex 7), (ex 8), (ex 9)]) (xf []) (xh [(fl 2)]) (xv [(vi 17), (vi 18)]) (xl [(vlk_12 0)]))) hP hD hS hA [0, 3] (by decide) rfl
        refine va_calli (va_runVN (As := [.long (vlk_12 0)]) (rest := [.ref (a 1)]) ⟨hx, hb, hml, hown, htg⟩ (c_X7_findSoul l D T (xa [(a 4), (a 7)]) (xa [(a 5), (ex 2), (ex 3), (ex 4), (ex 5), (ex 6), (ex 7), (ex 8), (ex 9)]) (xf []) (xh [(fl 2)]) (xv [(vi 17), (vi 18)]) (xl [(vlk_12 0)]) H.size hp3 hp4) ⟨va_cnB 1 htg (xg_ok kw_614) rfl rfl rfl (hK.2.1 _ kn_1148) (htg _ kw_7) (by decide +kernel) ⟨by rw [hR]; exact Nat.le_of_ble_eq_true rfl, by rw [hR]; exact Nat.le_of_ble_eq_true rfl⟩, htg _ kw_613, htg _ ks_14⟩ (xpreV hK hPc hDc (va_recv hK.1 hPc (ci := 7) (q0 := 0) rfl rfl)) rfl rfl hl.1 rfl (lv_room (Nat.le_of_ble_eq_true rfl)) dX4_readDeed_165 ⟨by rw [hR]; exact Nat.le_of_ble_eq_true rfl, by rw [hR]; exact Nat.le_of_ble_eq_true rfl⟩) hS (fun q _ h => hFc q h) hFc (fun r9 u9 t H1 locs ht hvm hw hB hz1 hk1 hS => ?_)
        subst hw
        obtain ⟨fik_13, flk_13, vik_13, vlk_13, hP1, hD1, hG⟩ := hB
        rw [ht] at hP1
        obtain ⟨hP, hD⟩ := va_join (wr := [((a 5), .inl (T 2, 9, .inr (.inl (fl 0)))), ((a 6), .inl (T 2, 27, .inr (.inl (fl 1)))), ((a 0), .inr (4, [.ref (a 1), .ref (a 4), .ref (a 2), .ref (ex 0), .ref (ex 1), .int (vi 0), .int (vi 1), .int (vi 2), .int (vi 3), .int (vi 4), .int (vi 5)])), ((a 2), .inl (T 1, 40, .inl (fik_11 0))), ((a 1), .inr (6, [.ref (a 3), .ref (a 6), .int (vi 6), .int (vi 7), .int (vi 8), .int (vik_12 4), .int (vik_12 0), .int (vik_12 1), .long (vlk_12 0), .int (vik_12 3), .int (vik_12 2), .int (vi 14), .int (vi 15), .int (vi 16)])), ((a 3), .inl (T 0, 940, .inl (fi 1)))]) (w1 := [((a 4), .inr (7, [.int (vi 17), .int (vi 18), .ref (a 5), .ref (ex 2), .ref (ex 3), .ref (ex 4), .ref (a 7), .ref (ex 5), .ref (ex 6), .ref (ex 7), .ref (ex 8), .ref (ex 9)])), ((a 7), .inl (T 2, 9, .inr (.inl (fl 2))))]) hP hD [0, 3] [1, 2, 4, 5, 6, 7] hC9 rfl (by decide) (by decide) hk1 hFc hP1 hD1
        obtain ⟨rk_13, er9⟩ : ∃ z, z = r9 := ⟨_, rfl⟩
        subst er9
        clear hPc hDc hFc hP1 hD1 hk1 hz1 hvm ht hC9
        generalize H1 = H at hP hS ⊢
        obtain ⟨hP, hD⟩ := (show xPD D A [((a 5), .inl (T 2, 9, .inr (.inl (fl 0)))), ((a 6), .inl (T 2, 27, .inr (.inl (fl 1)))), ((a 0), .inr (4, [.ref (a 1), .ref (a 4), .ref (a 2), .ref (ex 0), .ref (ex 1), .int (vi 0), .int (vi 1), .int (vi 2), .int (vi 3), .int (vi 4), .int (vi 5)])), ((a 2), .inl (T 1, 40, .inl (fik_11 0))), ((a 1), .inr (6, [.ref (a 3), .ref (a 6), .int (vi 6), .int (vi 7), .int (vi 8), .int (vik_12 4), .int (vik_12 0), .int (vik_12 1), .long (vlk_12 0), .int (vik_12 3), .int (vik_12 2), .int (vi 14), .int (vi 15), .int (vi 16)])), ((a 3), .inl (T 0, 940, .inl (fi 1))), ((a 4), .inr (7, [.int (vi 17), .int (vi 18), .ref (a 5), .ref (ex 2), .ref (ex 3), .ref (ex 4), .ref (a 7), .ref (ex 5), .ref (ex 6), .ref (ex 7), .ref (ex 8), .ref (ex 9)])), ((a 7), .inl (T 2, 9, .inr (.inl (fl 2))))] H from ⟨hP, hD⟩)
        obtain ⟨gk_13_0, -⟩ := hG
        replace gk_13_0 : -1 ≤ rk_13.toInt ∧ rk_13.toInt ≤ 8 := gk_13_0
        obtain ⟨hC9, hPc, hDc, hFc⟩ := xcut (wc := (pre_X6_passKnown T (xa [(a 1), (a 6), (a 3)]) (xa []) (xf [(fi 1)]) (xh [(fl 1)]) (xv [rk_13, (vi 6), (vi 7), (vi 8), (vik_12 4), (vik_12 0), (vik_12 1), (vik_12 3), (vik_12 2), (vi 14), (vi 15), (vi 16)]) (xl [(vlk_12 0)]))) hP hD hS hA [4, 1, 5] (by decide) rfl
        refine va_calli (va_runVN (As := [.int rk_13]) (rest := []) ⟨hx, hb, hml, hown, htg⟩ (c_X6_passKnown l D T (xa [(a 1), (a 6), (a 3)]) (xa []) (xf [(fi 1)]) (xh [(fl 1)]) (xv [rk_13, (vi 6), (vi 7), (vi 8), (vik_12 4), (vik_12 0), (vik_12 1), (vik_12 3), (vik_12 2), (vi 14), (vi 15), (vi 16)]) (xl [(vlk_12 0)]) H.size hp1 gk_12_1) ⟨va_cnB 1 htg (xg_ok kw_640) rfl rfl rfl (hK.2.1 _ kn_1149) (htg _ kw_2) (by decide +kernel) ⟨by rw [hR]; exact Nat.le_of_ble_eq_true rfl, by rw [hR]; exact Nat.le_of_ble_eq_true rfl⟩, htg _ kw_639, htg _ ks_20⟩ (xpreV hK hPc hDc (va_recv hK.1 hPc (ci := 6) (q0 := 0) rfl rfl)) rfl rfl hl.1 rfl (lv_room (Nat.le_of_ble_eq_true rfl)) dX4_readDeed_168 ⟨by rw [hR]; exact Nat.le_of_ble_eq_true rfl, by rw [hR]; exact Nat.le_of_ble_eq_true rfl⟩) hS (fun q _ h => hFc q h) hFc (fun r9 u9 t H1 locs ht hvm hw hB hz1 hk1 hS => ?_)
        subst hw
        obtain ⟨fik_14, flk_14, vik_14, vlk_14, hP1, hD1, hG⟩ := hB
        rw [ht] at hP1
        obtain ⟨hP, hD⟩ := va_join (wr := [((a 5), .inl (T 2, 9, .inr (.inl (fl 0)))), ((a 0), .inr (4, [.ref (a 1), .ref (a 4), .ref (a 2), .ref (ex 0), .ref (ex 1), .int (vi 0), .int (vi 1), .int (vi 2), .int (vi 3), .int (vi 4), .int (vi 5)])), ((a 2), .inl (T 1, 40, .inl (fik_11 0))), ((a 4), .inr (7, [.int (vi 17), .int (vi 18), .ref (a 5), .ref (ex 2), .ref (ex 3), .ref (ex 4), .ref (a 7), .ref (ex 5), .ref (ex 6), .ref (ex 7), .ref (ex 8), .ref (ex 9)])), ((a 7), .inl (T 2, 9, .inr (.inl (fl 2))))]) (w1 := [((a 1), .inr (6, [.ref (a 3), .ref (a 6), .int (vi 6), .int (vi 7), .int (vi 8), .int (vik_14 5), .int (vik_14 1), .int (vik_14 2), .long (vlk_14 0), .int (vik_14 4), .int (vik_14 3), .int (vik_14 0), .int (vik_14 6), .int (vik_14 7)])), ((a 6), .inl (T 2, 27, .inr (.inl (fl 1)))), ((a 3), .inl (T 0, 940, .inl (fi 1)))]) hP hD [4, 1, 5] [0, 2, 3, 6, 7] hC9 rfl (by decide) (by decide) hk1 hFc hP1 hD1
        obtain ⟨rk_14, er9⟩ : ∃ z, z = r9 := ⟨_, rfl⟩
        subst er9
        clear hPc hDc hFc hP1 hD1 hk1 hz1 hvm ht hC9
        generalize H1 = H at hP hS ⊢
        obtain ⟨hP, hD⟩ := (show xPD D A [((a 5), .inl (T 2, 9, .inr (.inl (fl 0)))), ((a 0), .inr (4, [.ref (a 1), .ref (a 4), .ref (a 2), .ref (ex 0), .ref (ex 1), .int (vi 0), .int (vi 1), .int (vi 2), .int (vi 3), .int (vi 4), .int (vi 5)])), ((a 2), .inl (T 1, 40, .inl (fik_11 0))), ((a 4), .inr (7, [.int (vi 17), .int (vi 18), .ref (a 5), .ref (ex 2), .ref (ex 3), .ref (ex 4), .ref (a 7), .ref (ex 5), .ref (ex 6), .ref (ex 7), .ref (ex 8), .ref (ex 9)])), ((a 7), .inl (T 2, 9, .inr (.inl (fl 2)))), ((a 1), .inr (6, [.ref (a 3), .ref (a 6), .int (vi 6), .int (vi 7), .int (vi 8), .int (vik_14 5), .int (vik_14 1), .int (vik_14 2), .long (vlk_14 0), .int (vik_14 4), .int (vik_14 3), .int (vik_14 0), .int (vik_14 6), .int (vik_14 7)])), ((a 6), .inl (T 2, 27, .inr (.inl (fl 1)))), ((a 3), .inl (T 0, 940, .inl (fi 1)))] H from ⟨hP, hD⟩)
        obtain ⟨gk_14_0, gk_14_1, -⟩ := hG
        replace gk_14_1 : 0 ≤ (vik_14 5).toInt ∧ (vik_14 5).toInt ≤ 940 := gk_14_1
        rcases (show (rk_14 = 1 ∧ ((vik_14 0).toInt = rk_13.toInt ∧ ¬ rk_13.toInt = -1)) ∨ (rk_14 = 0 ∧ (True)) from gk_14_0) with ⟨er9, gk_14_0⟩ | ⟨er9, gk_14_0⟩
        · refine xz_i 1 er9 ?_
          refine lv_if_eq (tgt := 178) hx hb dX4_readDeed_171 (by decide) (fun c => absurd c (by decide)) (fun _ => ?_)
          refine lv_iconst (v := 1) hx hb dX4_readDeed_174 (by decide) ?_
          refine lv_goto (tgt := 179) hx hb dX4_readDeed_175 (by decide) ?_
          have hP9 := hP.sub (ws' := [((a 0), .inr (4, [.ref (a 1), .ref (a 4), .ref (a 2), .ref (ex 0), .ref (ex 1), .int (vi 0), .int (vi 1), .int (vi 2), .int (vi 3), .int (vi 4), .int (vi 5)])), ((a 1), .inr (6, [.ref (a 3), .ref (a 6), .int (vi 6), .int (vi 7), .int (vi 8), .int (vik_14 5), .int (vik_14 1), .int (vik_14 2), .long (vlk_14 0), .int (vik_14 4), .int (vik_14 3), .int (vik_14 0), .int (vik_14 6), .int (vik_14 7)])), ((a 2), .inl (T 1, 40, .inl (fik_11 0))), ((a 3), .inl (T 0, 940, .inl (fi 1))), ((a 4), .inr (7, [.int (vi 17), .int (vi 18), .ref (a 5), .ref (ex 2), .ref (ex 3), .ref (ex 4), .ref (a 7), .ref (ex 5), .ref (ex 6), .ref (ex 7), .ref (ex 8), .ref (ex 9)])), ((a 5), .inl (T 2, 9, .inr (.inl (fl 0)))), ((a 6), .inl (T 2, 27, .inr (.inl (fl 1)))), ((a 7), .inl (T 2, 9, .inr (.inl (fl 2))))]) [1, 5, 2, 7, 3, 0, 6, 4] rfl
          have hD9 := hD.sub (ws' := [((a 0), .inr (4, [.ref (a 1), .ref (a 4), .ref (a 2), .ref (ex 0), .ref (ex 1), .int (vi 0), .int (vi 1), .int (vi 2), .int (vi 3), .int (vi 4), .int (vi 5)])), ((a 1), .inr (6, [.ref (a 3), .ref (a 6), .int (vi 6), .int (vi 7), .int (vi 8), .int (vik_14 5), .int (vik_14 1), .int (vik_14 2), .long (vlk_14 0), .int (vik_14 4), .int (vik_14 3), .int (vik_14 0), .int (vik_14 6), .int (vik_14 7)])), ((a 2), .inl (T 1, 40, .inl (fik_11 0))), ((a 3), .inl (T 0, 940, .inl (fi 1))), ((a 4), .inr (7, [.int (vi 17), .int (vi 18), .ref (a 5), .ref (ex 2), .ref (ex 3), .ref (ex 4), .ref (a 7), .ref (ex 5), .ref (ex 6), .ref (ex 7), .ref (ex 8), .ref (ex 9)])), ((a 5), .inl (T 2, 9, .inr (.inl (fl 0)))), ((a 6), .inl (T 2, 27, .inr (.inl (fl 1)))), ((a 7), .inl (T 2, 9, .inr (.inl (fl 2))))]) [1, 5, 2, 7, 3, 0, 6, 4] (by decide +kernel) rfl
          rw [hQ]
          exact W.zret (v := 1) hx hb hr rfl (fun t ht hW => ⟨⟨1, 1, rfl, rfl, xf [(fik_11 0)], xh [], xv [(vik_14 1), (vik_14 2), (vik_14 3), (vik_14 4), (vik_14 5), (vik_14 0), (vik_14 6), (vik_14 7)], xl [(vlk_14 0)], by rw [ht]; exact hP9, hD9, ⟨(Or.inl ⟨rfl, by show 0 ≤ ((fik_11 0) ((vi 0)).toNatClampNeg).toInt ∧ ((fik_11 0) ((vi 0)).toNatClampNeg).toInt ≤ 7 ∧ ¬ ((fik_11 0) ((vi 0)).toNatClampNeg).toInt = 6 ∧ (3 ≤ ((fik_11 0) ((vi 0)).toNatClampNeg).toInt ∨ 0 ≤ (vik_14 0).toInt ∧ (vik_14 0).toInt ≤ 8); have q8_0 : (0 : Int32).toInt = 0 := (by decide); have q8_1 : (1 : Int32).toInt = 1 := (by decide); have q8_2 : (2 : Int32).toInt = 2 := (by decide); have q8_3 : (3 : Int32).toInt = 3 := (by decide); have q8_4 : (4 : Int32).toInt = 4 := (by decide); have q8_5 : (5 : Int32).toInt = 5 := (by decide); have q8_6 : (6 : Int32).toInt = 6 := (by decide); have q8_7 : (7 : Int32).toInt = 7 := (by decide); omega⟩), gk_14_1, (by show ∀ j : Nat, ¬ j = ((vi 0)).toNatClampNeg → (fik_11 0) j = (fi 0) j; first | assumption | exact fun j _ => rfl), trivial⟩⟩, hS.F ht⟩) hS.2.2 dX4_readDeed_179
        · refine xz_i 0 er9 ?_
          refine lv_if_eq (tgt := 178) hx hb dX4_readDeed_171 (by decide) (fun _ => ?_) (fun c => absurd (by decide) c)
          refine lv_iconst (v := 0) hx hb dX4_readDeed_178 (by decide) ?_
          have hP9 := hP.sub (ws' := [((a 0), .inr (4, [.ref (a 1), .ref (a 4), .ref (a 2), .ref (ex 0), .ref (ex 1), .int (vi 0), .int (vi 1), .int (vi 2), .int (vi 3), .int (vi 4), .int (vi 5)])), ((a 1), .inr (6, [.ref (a 3), .ref (a 6), .int (vi 6), .int (vi 7), .int (vi 8), .int (vik_14 5), .int (vik_14 1), .int (vik_14 2), .long (vlk_14 0), .int (vik_14 4), .int (vik_14 3), .int (vik_14 0), .int (vik_14 6), .int (vik_14 7)])), ((a 2), .inl (T 1, 40, .inl (fik_11 0))), ((a 3), .inl (T 0, 940, .inl (fi 1))), ((a 4), .inr (7, [.int (vi 17), .int (vi 18), .ref (a 5), .ref (ex 2), .ref (ex 3), .ref (ex 4), .ref (a 7), .ref (ex 5), .ref (ex 6), .ref (ex 7), .ref (ex 8), .ref (ex 9)])), ((a 5), .inl (T 2, 9, .inr (.inl (fl 0)))), ((a 6), .inl (T 2, 27, .inr (.inl (fl 1)))), ((a 7), .inl (T 2, 9, .inr (.inl (fl 2))))]) [1, 5, 2, 7, 3, 0, 6, 4] rfl
          have hD9 := hD.sub (ws' := [((a 0), .inr (4, [.ref (a 1), .ref (a 4), .ref (a 2), .ref (ex 0), .ref (ex 1), .int (vi 0), .int (vi 1), .int (vi 2), .int (vi 3), .int (vi 4), .int (vi 5)])), ((a 1), .inr (6, [.ref (a 3), .ref (a 6), .int (vi 6), .int (vi 7), .int (vi 8), .int (vik_14 5), .int (vik_14 1), .int (vik_14 2), .long (vlk_14 0), .int (vik_14 4), .int (vik_14 3), .int (vik_14 0), .int (vik_14 6), .int (vik_14 7)])), ((a 2), .inl (T 1, 40, .inl (fik_11 0))), ((a 3), .inl (T 0, 940, .inl (fi 1))), ((a 4), .inr (7, [.int (vi 17), .int (vi 18), .ref (a 5), .ref (ex 2), .ref (ex 3), .ref (ex 4), .ref (a 7), .ref (ex 5), .ref (ex 6), .ref (ex 7), .ref (ex 8), .ref (ex 9)])), ((a 5), .inl (T 2, 9, .inr (.inl (fl 0)))), ((a 6), .inl (T 2, 27, .inr (.inl (fl 1)))), ((a 7), .inl (T 2, 9, .inr (.inl (fl 2))))]) [1, 5, 2, 7, 3, 0, 6, 4] (by decide +kernel) rfl
          rw [hQ]
          exact W.zret (v := 0) hx hb hr rfl (fun t ht hW => ⟨⟨0, 0, rfl, rfl, xf [(fik_11 0)], xh [], xv [(vik_14 1), (vik_14 2), (vik_14 3), (vik_14 4), (vik_14 5), (vik_14 0), (vik_14 6), (vik_14 7)], xl [(vlk_14 0)], by rw [ht]; exact hP9, hD9, ⟨(Or.inr ⟨rfl, by show True; first | trivial | omega | assumption⟩), gk_14_1, (by show ∀ j : Nat, ¬ j = ((vi 0)).toNatClampNeg → (fik_11 0) j = (fi 0) j; first | assumption | exact fun j _ => rfl), trivial⟩⟩, hS.F ht⟩) hS.2.2 dX4_readDeed_179
      · refine xz_i 0 er9 ?_
        refine lv_if_eq (tgt := 180) hx hb dX4_readDeed_129 (by decide) (fun _ => ?_) (fun c => absurd (by decide) c)
        refine lv_aload_n hx hb dX4_readDeed_180 rfl (lv_at hl 0 rfl) ?_
        refine va_get (D := D) (ci := 4) (v := .ref (a 1)) (C := RX4) (T := TX4) (N := 11) hx hb htg inX4 hown hK.1 hP 0 rfl rfl 0 (by decide) (htg _ kw_339) (fun _ h9 => h9) rfl dX4_readDeed_181 ?_
        refine va_ldcS hx hb hown (hT.1 15 (by decide)) dX4_readDeed_184 ?_
        obtain ⟨hC9, hPc, hDc, hFc⟩ := xcut (wc := (pre_X6_isWord_5 T (xa [(a 1)]) (xa [(a 3), (a 6)]) (xf []) (xh []) (xv [(vi 6), (vi 7), (vi 8), (vi 9), (vi 10), (vi 11), (vi 12), (vi 13), (vi 14), (vi 15), (vi 16)]) (xl [(vl 0)]))) hP hD hS hA [7] (by decide) rfl
        refine va_calli (va_runVN (As := [.ref (kK 15)]) (rest := []) ⟨hx, hb, hml, hown, htg⟩ (c_X6_isWord_5 l D T (xa [(a 1)]) (xa [(a 3), (a 6)]) (xf []) (xh []) (xv [(vi 6), (vi 7), (vi 8), (vi 9), (vi 10), (vi 11), (vi 12), (vi 13), (vi 14), (vi 15), (vi 16)]) (xl [(vl 0)]) kK kV H.size hp1 hp2) ⟨va_cnB 1 htg (xg_ok kw_586) rfl rfl rfl (hK.2.1 _ kn_1147) (htg _ kw_2) (by decide +kernel) ⟨by rw [hR]; exact Nat.le_of_ble_eq_true rfl, by rw [hR]; exact Nat.le_of_ble_eq_true rfl⟩, htg _ kw_585, htg _ ks_8⟩ (xpreVs hK hPc hDc hT hFc hS (va_recv hK.1 hPc (ci := 6) (q0 := 0) rfl rfl)) rfl rfl hl.1 rfl (lv_room (Nat.le_of_ble_eq_true rfl)) dX4_readDeed_186 ⟨by rw [hR]; exact Nat.le_of_ble_eq_true rfl, by rw [hR]; exact Nat.le_of_ble_eq_true rfl⟩) hS (fun q _ h => hFc q h) hFc (fun r9 u9 t H1 locs ht hvm hw hB hz1 hk1 hS => ?_)
        subst hw
        obtain ⟨fik_15, flk_15, vik_15, vlk_15, hP1, hD1, hG⟩ := hB
        rw [ht] at hP1
        obtain ⟨hP, hD⟩ := va_join (wr := [((a 0), .inr (4, [.ref (a 1), .ref (a 4), .ref (a 2), .ref (ex 0), .ref (ex 1), .int (vi 0), .int (vi 1), .int (vi 2), .int (vi 3), .int (vi 4), .int (vi 5)])), ((a 2), .inl (T 1, 40, .inl (fi 0))), ((a 3), .inl (T 0, 940, .inl (fi 1))), ((a 4), .inr (7, [.int (vi 17), .int (vi 18), .ref (a 5), .ref (ex 2), .ref (ex 3), .ref (ex 4), .ref (a 7), .ref (ex 5), .ref (ex 6), .ref (ex 7), .ref (ex 8), .ref (ex 9)])), ((a 5), .inl (T 2, 9, .inr (.inl (fl 0)))), ((a 6), .inl (T 2, 27, .inr (.inl (fl 1)))), ((a 7), .inl (T 2, 9, .inr (.inl (fl 2))))]) (w1 := [((a 1), .inr (6, [.ref (a 3), .ref (a 6), .int (vi 6), .int (vi 7), .int (vi 8), .int (vi 9), .int (vi 10), .int (vi 11), .long (vl 0), .int (vi 12), .int (vi 13), .int (vi 14), .int (vi 15), .int (vi 16)]))]) hP hD [7] [0, 1, 2, 3, 4, 5, 6] hC9 rfl (by decide) (by decide) hk1 hFc hP1 hD1
        obtain ⟨rk_15, er9⟩ : ∃ z, z = r9 := ⟨_, rfl⟩
        subst er9
        clear hPc hDc hFc hP1 hD1 hk1 hz1 hvm ht hC9
        generalize H1 = H at hP hS ⊢
        obtain ⟨hP, hD⟩ := (show xPD D A [((a 0), .inr (4, [.ref (a 1), .ref (a 4), .ref (a 2), .ref (ex 0), .ref (ex 1), .int (vi 0), .int (vi 1), .int (vi 2), .int (vi 3), .int (vi 4), .int (vi 5)])), ((a 2), .inl (T 1, 40, .inl (fi 0))), ((a 3), .inl (T 0, 940, .inl (fi 1))), ((a 4), .inr (7, [.int (vi 17), .int (vi 18), .ref (a 5), .ref (ex 2), .ref (ex 3), .ref (ex 4), .ref (a 7), .ref (ex 5), .ref (ex 6), .ref (ex 7), .ref (ex 8), .ref (ex 9)])), ((a 5), .inl (T 2, 9, .inr (.inl (fl 0)))), ((a 6), .inl (T 2, 27, .inr (.inl (fl 1)))), ((a 7), .inl (T 2, 9, .inr (.inl (fl 2)))), ((a 1), .inr (6, [.ref (a 3), .ref (a 6), .int (vi 6), .int (vi 7), .int (vi 8), .int (vi 9), .int (vi 10), .int (vi 11), .long (vl 0), .int (vi 12), .int (vi 13), .int (vi 14), .int (vi 15), .int (vi 16)]))] H from ⟨hP, hD⟩)
        obtain ⟨gk_15_0, -⟩ := hG
        rcases (show (rk_15 = 1 ∧ (True)) ∨ (rk_15 = 0 ∧ (True)) from gk_15_0) with ⟨er9, gk_15_0⟩ | ⟨er9, gk_15_0⟩
        · refine xz_i 1 er9 ?_
          refine lv_if_eq (tgt := 216) hx hb dX4_readDeed_189 (by decide) (fun c => absurd c (by decide)) (fun _ => ?_)
          refine lv_aload_n hx hb dX4_readDeed_192 rfl (lv_at hl 0 rfl) ?_
          refine lv_iconst (v := 3) hx hb dX4_readDeed_193 (by decide) ?_
          obtain ⟨hC9, hPc, hDc, hFc⟩ := xcut (wc := (pre_X4_setSort_5 T (xa [(a 0), (a 2)]) (xa [(a 1), (a 4), (ex 0), (ex 1)]) (xf [(fi 0)]) (xh []) (xv [(vi 0), (vi 1), (vi 2), (vi 3), (vi 4), (vi 5)]) (xl []))) hP hD hS hA [0, 1] (by decide) rfl
          refine va_calli (va_runV (As := [.int 3]) (rest := []) ⟨hx, hb, hml, hown, htg⟩ (c_X4_setSort_5 l D T (xa [(a 0), (a 2)]) (xa [(a 1), (a 4), (ex 0), (ex 1)]) (xf [(fi 0)]) (xh []) (xv [(vi 0), (vi 1), (vi 2), (vi 3), (vi 4), (vi 5)]) (xl []) H.size hp0 (by show (vi 0).toInt ≤ 39; first | omega | assumption)) ⟨callB_of 1 htg (xg_ok kw_1155) rfl rfl rfl (htg _ kw_11) (htg _ kw_1152) (by decide +kernel) ⟨by rw [hR]; exact Nat.le_of_ble_eq_true rfl, by rw [hR]; exact Nat.le_of_ble_eq_true rfl⟩, htg _ kw_1154, htg _ ks_97⟩ (xpreV hK hPc hDc (va_recv hK.1 hPc (ci := 4) (q0 := 0) rfl rfl)) rfl rfl hl.1 rfl (lv_room (Nat.le_of_ble_eq_true rfl)) dX4_readDeed_194 ⟨by rw [hR]; exact Nat.le_of_ble_eq_true rfl, by rw [hR]; exact Nat.le_of_ble_eq_true rfl⟩) hS (fun q _ h => hFc q h) hFc (fun r9 u9 t H1 locs ht hvm hw hB hz1 hk1 hS => ?_)
          subst hw
          obtain ⟨fik_16, flk_16, vik_16, vlk_16, hP1, hD1, hG⟩ := hB
          rw [ht] at hP1
          obtain ⟨hP, hD⟩ := va_join (wr := [((a 3), .inl (T 0, 940, .inl (fi 1))), ((a 4), .inr (7, [.int (vi 17), .int (vi 18), .ref (a 5), .ref (ex 2), .ref (ex 3), .ref (ex 4), .ref (a 7), .ref (ex 5), .ref (ex 6), .ref (ex 7), .ref (ex 8), .ref (ex 9)])), ((a 5), .inl (T 2, 9, .inr (.inl (fl 0)))), ((a 6), .inl (T 2, 27, .inr (.inl (fl 1)))), ((a 7), .inl (T 2, 9, .inr (.inl (fl 2)))), ((a 1), .inr (6, [.ref (a 3), .ref (a 6), .int (vi 6), .int (vi 7), .int (vi 8), .int (vi 9), .int (vi 10), .int (vi 11), .long (vl 0), .int (vi 12), .int (vi 13), .int (vi 14), .int (vi 15), .int (vi 16)]))]) (w1 := [((a 0), .inr (4, [.ref (a 1), .ref (a 4), .ref (a 2), .ref (ex 0), .ref (ex 1), .int (vi 0), .int (vi 1), .int (vi 2), .int (vi 3), .int (vi 4), .int (vi 5)])), ((a 2), .inl (T 1, 40, .inl (fik_16 0)))]) hP hD [0, 1] [2, 3, 4, 5, 6, 7] hC9 rfl (by decide) (by decide) hk1 hFc hP1 hD1
          obtain ⟨rk_16, er9⟩ : ∃ z, z = r9 := ⟨_, rfl⟩
          subst er9
          clear hPc hDc hFc hP1 hD1 hk1 hz1 hvm ht hC9
          generalize H1 = H at hP hS ⊢
          obtain ⟨hP, hD⟩ := (show xPD D A [((a 3), .inl (T 0, 940, .inl (fi 1))), ((a 4), .inr (7, [.int (vi 17), .int (vi 18), .ref (a 5), .ref (ex 2), .ref (ex 3), .ref (ex 4), .ref (a 7), .ref (ex 5), .ref (ex 6), .ref (ex 7), .ref (ex 8), .ref (ex 9)])), ((a 5), .inl (T 2, 9, .inr (.inl (fl 0)))), ((a 6), .inl (T 2, 27, .inr (.inl (fl 1)))), ((a 7), .inl (T 2, 9, .inr (.inl (fl 2)))), ((a 1), .inr (6, [.ref (a 3), .ref (a 6), .int (vi 6), .int (vi 7), .int (vi 8), .int (vi 9), .int (vi 10), .int (vi 11), .long (vl 0), .int (vi 12), .int (vi 13), .int (vi 14), .int (vi 15), .int (vi 16)])), ((a 0), .inr (4, [.ref (a 1), .ref (a 4), .ref (a 2), .ref (ex 0), .ref (ex 1), .int (vi 0), .int (vi 1), .int (vi 2), .int (vi 3), .int (vi 4), .int (vi 5)])), ((a 2), .inl (T 1, 40, .inl (fik_16 0)))] H from ⟨hP, hD⟩)
          obtain ⟨gk_16_0, gk_16_1, gk_16_2, -⟩ := hG
          replace gk_16_1 : ∀ j : Nat, ¬ j = ((vi 0)).toNatClampNeg → (fik_16 0) j = (fi 0) j := gk_16_1
          replace gk_16_2 : ((fik_16 0) ((vi 0)).toNatClampNeg).toInt = (3 : Int32).toInt := gk_16_2
          replace gk_16_0 : rk_16 = 1 := gk_16_0
          refine xz_i 1 gk_16_0 ?_
          refine lv_if_eq (tgt := 214) hx hb dX4_readDeed_197 (by decide) (fun c => absurd c (by decide)) (fun _ => ?_)
          refine lv_aload_n hx hb dX4_readDeed_200 rfl (lv_at hl 0 rfl) ?_
          refine va_get (D := D) (ci := 4) (v := .ref (a 1)) (C := RX4) (T := TX4) (N := 11) hx hb htg inX4 hown hK.1 hP 6 rfl rfl 0 (by decide) (htg _ kw_339) (fun _ h9 => h9) rfl dX4_readDeed_201 ?_
          obtain ⟨hC9, hPc, hDc, hFc⟩ := xcut (wc := (pre_X6_pass T (xa [(a 1), (a 3)]) (xa [(a 6)]) (xf [(fi 1)]) (xh []) (xv [(vi 6), (vi 7), (vi 8), (vi 9), (vi 10), (vi 11), (vi 12), (vi 13), (vi 14), (vi 15), (vi 16)]) (xl [(vl 0)]))) hP hD hS hA [5, 0] (by decide) rfl
          refine va_calli (va_runVN (As := []) (rest := []) ⟨hx, hb, hml, hown, htg⟩ (c_X6_pass l D T (xa [(a 1), (a 3)]) (xa [(a 6)]) (xf [(fi 1)]) (xh []) (xv [(vi 6), (vi 7), (vi 8), (vi 9), (vi 10), (vi 11), (vi 12), (vi 13), (vi 14), (vi 15), (vi 16)]) (xl [(vl 0)]) H.size hp1 hp2) ⟨va_cnB 0 htg (xg_ok kw_618) rfl rfl rfl (hK.2.1 _ kn_1162) (htg _ kw_2) (by decide +kernel) ⟨by rw [hR]; exact Nat.le_of_ble_eq_true rfl, by rw [hR]; exact Nat.le_of_ble_eq_true rfl⟩, htg _ kw_617, htg _ ks_15⟩ (xpreV hK hPc hDc (va_recv hK.1 hPc (ci := 6) (q0 := 0) rfl rfl)) rfl rfl hl.1 rfl (lv_room (Nat.le_of_ble_eq_true rfl)) dX4_readDeed_204 ⟨by rw [hR]; exact Nat.le_of_ble_eq_true rfl, by rw [hR]; exact Nat.le_of_ble_eq_true rfl⟩) hS (fun q _ h => hFc q h) hFc (fun r9 u9 t H1 locs ht hvm hw hB hz1 hk1 hS => ?_)
          subst hw
          obtain ⟨fik_17, flk_17, vik_17, vlk_17, hP1, hD1, hG⟩ := hB
          rw [ht] at hP1
          obtain ⟨hP, hD⟩ := va_join (wr := [((a 4), .inr (7, [.int (vi 17), .int (vi 18), .ref (a 5), .ref (ex 2), .ref (ex 3), .ref (ex 4), .ref (a 7), .ref (ex 5), .ref (ex 6), .ref (ex 7), .ref (ex 8), .ref (ex 9)])), ((a 5), .inl (T 2, 9, .inr (.inl (fl 0)))), ((a 6), .inl (T 2, 27, .inr (.inl (fl 1)))), ((a 7), .inl (T 2, 9, .inr (.inl (fl 2)))), ((a 0), .inr (4, [.ref (a 1), .ref (a 4), .ref (a 2), .ref (ex 0), .ref (ex 1), .int (vi 0), .int (vi 1), .int (vi 2), .int (vi 3), .int (vi 4), .int (vi 5)])), ((a 2), .inl (T 1, 40, .inl (fik_16 0)))]) (w1 := [((a 1), .inr (6, [.ref (a 3), .ref (a 6), .int (vi 6), .int (vi 7), .int (vi 8), .int (vik_17 4), .int (vik_17 0), .int (vik_17 1), .long (vlk_17 0), .int (vik_17 3), .int (vik_17 2), .int (vi 14), .int (vi 15), .int (vi 16)])), ((a 3), .inl (T 0, 940, .inl (fi 1)))]) hP hD [5, 0] [1, 2, 3, 4, 6, 7] hC9 rfl (by decide) (by decide) hk1 hFc hP1 hD1
          obtain ⟨rk_17, er9⟩ : ∃ z, z = r9 := ⟨_, rfl⟩
          subst er9
          clear hPc hDc hFc hP1 hD1 hk1 hz1 hvm ht hC9
          generalize H1 = H at hP hS ⊢
          obtain ⟨hP, hD⟩ := (show xPD D A [((a 4), .inr (7, [.int (vi 17), .int (vi 18), .ref (a 5), .ref (ex 2), .ref (ex 3), .ref (ex 4), .ref (a 7), .ref (ex 5), .ref (ex 6), .ref (ex 7), .ref (ex 8), .ref (ex 9)])), ((a 5), .inl (T 2, 9, .inr (.inl (fl 0)))), ((a 6), .inl (T 2, 27, .inr (.inl (fl 1)))), ((a 7), .inl (T 2, 9, .inr (.inl (fl 2)))), ((a 0), .inr (4, [.ref (a 1), .ref (a 4), .ref (a 2), .ref (ex 0), .ref (ex 1), .int (vi 0), .int (vi 1), .int (vi 2), .int (vi 3), .int (vi 4), .int (vi 5)])), ((a 2), .inl (T 1, 40, .inl (fik_16 0))), ((a 1), .inr (6, [.ref (a 3), .ref (a 6), .int (vi 6), .int (vi 7), .int (vi 8), .int (vik_17 4), .int (vik_17 0), .int (vik_17 1), .long (vlk_17 0), .int (vik_17 3), .int (vik_17 2), .int (vi 14), .int (vi 15), .int (vi 16)])), ((a 3), .inl (T 0, 940, .inl (fi 1)))] H from ⟨hP, hD⟩)
          obtain ⟨gk_17_0, gk_17_1, -⟩ := hG
          replace gk_17_1 : 0 ≤ (vik_17 4).toInt ∧ (vik_17 4).toInt ≤ 940 := gk_17_1
          replace gk_17_0 : rk_17 = 1 := gk_17_0
          refine xz_i 1 gk_17_0 ?_
          refine lv_if_eq (tgt := 214) hx hb dX4_readDeed_207 (by decide) (fun c => absurd c (by decide)) (fun _ => ?_)
          refine lv_iconst (v := 1) hx hb dX4_readDeed_210 (by decide) ?_
          refine lv_goto (tgt := 215) hx hb dX4_readDeed_211 (by decide) ?_
          have hP9 := hP.sub (ws' := [((a 0), .inr (4, [.ref (a 1), .ref (a 4), .ref (a 2), .ref (ex 0), .ref (ex 1), .int (vi 0), .int (vi 1), .int (vi 2), .int (vi 3), .int (vi 4), .int (vi 5)])), ((a 1), .inr (6, [.ref (a 3), .ref (a 6), .int (vi 6), .int (vi 7), .int (vi 8), .int (vik_17 4), .int (vik_17 0), .int (vik_17 1), .long (vlk_17 0), .int (vik_17 3), .int (vik_17 2), .int (vi 14), .int (vi 15), .int (vi 16)])), ((a 2), .inl (T 1, 40, .inl (fik_16 0))), ((a 3), .inl (T 0, 940, .inl (fi 1))), ((a 4), .inr (7, [.int (vi 17), .int (vi 18), .ref (a 5), .ref (ex 2), .ref (ex 3), .ref (ex 4), .ref (a 7), .ref (ex 5), .ref (ex 6), .ref (ex 7), .ref (ex 8), .ref (ex 9)])), ((a 5), .inl (T 2, 9, .inr (.inl (fl 0)))), ((a 6), .inl (T 2, 27, .inr (.inl (fl 1)))), ((a 7), .inl (T 2, 9, .inr (.inl (fl 2))))]) [4, 6, 5, 7, 0, 1, 2, 3] rfl
          have hD9 := hD.sub (ws' := [((a 0), .inr (4, [.ref (a 1), .ref (a 4), .ref (a 2), .ref (ex 0), .ref (ex 1), .int (vi 0), .int (vi 1), .int (vi 2), .int (vi 3), .int (vi 4), .int (vi 5)])), ((a 1), .inr (6, [.ref (a 3), .ref (a 6), .int (vi 6), .int (vi 7), .int (vi 8), .int (vik_17 4), .int (vik_17 0), .int (vik_17 1), .long (vlk_17 0), .int (vik_17 3), .int (vik_17 2), .int (vi 14), .int (vi 15), .int (vi 16)])), ((a 2), .inl (T 1, 40, .inl (fik_16 0))), ((a 3), .inl (T 0, 940, .inl (fi 1))), ((a 4), .inr (7, [.int (vi 17), .int (vi 18), .ref (a 5), .ref (ex 2), .ref (ex 3), .ref (ex 4), .ref (a 7), .ref (ex 5), .ref (ex 6), .ref (ex 7), .ref (ex 8), .ref (ex 9)])), ((a 5), .inl (T 2, 9, .inr (.inl (fl 0)))), ((a 6), .inl (T 2, 27, .inr (.inl (fl 1)))), ((a 7), .inl (T 2, 9, .inr (.inl (fl 2))))]) [4, 6, 5, 7, 0, 1, 2, 3] (by decide +kernel) rfl
          rw [hQ]
          exact W.zret (v := 1) hx hb hr rfl (fun t ht hW => ⟨⟨1, 1, rfl, rfl, xf [(fik_16 0)], xh [], xv [(vik_17 0), (vik_17 1), (vik_17 2), (vik_17 3), (vik_17 4), (vi 14), (vi 15), (vi 16)], xl [(vlk_17 0)], by rw [ht]; exact hP9, hD9, ⟨(Or.inl ⟨rfl, by show 0 ≤ ((fik_16 0) ((vi 0)).toNatClampNeg).toInt ∧ ((fik_16 0) ((vi 0)).toNatClampNeg).toInt ≤ 7 ∧ ¬ ((fik_16 0) ((vi 0)).toNatClampNeg).toInt = 6 ∧ (3 ≤ ((fik_16 0) ((vi 0)).toNatClampNeg).toInt ∨ 0 ≤ (vi 14).toInt ∧ (vi 14).toInt ≤ 8); have q8_0 : (0 : Int32).toInt = 0 := (by decide); have q8_1 : (1 : Int32).toInt = 1 := (by decide); have q8_2 : (2 : Int32).toInt = 2 := (by decide); have q8_3 : (3 : Int32).toInt = 3 := (by decide); have q8_4 : (4 : Int32).toInt = 4 := (by decide); have q8_5 : (5 : Int32).toInt = 5 := (by decide); have q8_6 : (6 : Int32).toInt = 6 := (by decide); have q8_7 : (7 : Int32).toInt = 7 := (by decide); omega⟩), gk_17_1, (by show ∀ j : Nat, ¬ j = ((vi 0)).toNatClampNeg → (fik_16 0) j = (fi 0) j; first | assumption | exact fun j _ => rfl), trivial⟩⟩, hS.F ht⟩) hS.2.2 dX4_readDeed_215
        · refine xz_i 0 er9 ?_
          refine lv_if_eq (tgt := 216) hx hb dX4_readDeed_189 (by decide) (fun _ => ?_) (fun c => absurd (by decide) c)
          refine lv_aload_n hx hb dX4_readDeed_216 rfl (lv_at hl 0 rfl) ?_
          refine va_get (D := D) (ci := 4) (v := .ref (a 1)) (C := RX4) (T := TX4) (N := 11) hx hb htg inX4 hown hK.1 hP 0 rfl rfl 0 (by decide) (htg _ kw_339) (fun _ h9 => h9) rfl dX4_readDeed_217 ?_
          refine va_ldcS hx hb hown (hT.1 16 (by decide)) dX4_readDeed_220 ?_
          obtain ⟨hC9, hPc, hDc, hFc⟩ := xcut (wc := (pre_X6_isWord_6 T (xa [(a 1)]) (xa [(a 3), (a 6)]) (xf []) (xh []) (xv [(vi 6), (vi 7), (vi 8), (vi 9), (vi 10), (vi 11), (vi 12), (vi 13), (vi 14), (vi 15), (vi 16)]) (xl [(vl 0)]))) hP hD hS hA [7] (by decide) rfl
          refine va_calli (va_runVN (As := [.ref (kK 16)]) (rest := []) ⟨hx, hb, hml, hown, htg⟩ (c_X6_isWord_6 l D T (xa [(a 1)]) (xa [(a 3), (a 6)]) (xf []) (xh []) (xv [(vi 6), (vi 7), (vi 8), (vi 9), (vi 10), (vi 11), (vi 12), (vi 13), (vi 14), (vi 15), (vi 16)]) (xl [(vl 0)]) kK kV H.size hp1 hp2) ⟨va_cnB 1 htg (xg_ok kw_586) rfl rfl rfl (hK.2.1 _ kn_1147) (htg _ kw_2) (by decide +kernel) ⟨by rw [hR]; exact Nat.le_of_ble_eq_true rfl, by rw [hR]; exact Nat.le_of_ble_eq_true rfl⟩, htg _ kw_585, htg _ ks_8⟩ (xpreVs hK hPc hDc hT hFc hS (va_recv hK.1 hPc (ci := 6) (q0 := 0) rfl rfl)) rfl rfl hl.1 rfl (lv_room (Nat.le_of_ble_eq_true rfl)) dX4_readDeed_222 ⟨by rw [hR]; exact Nat.le_of_ble_eq_true rfl, by rw [hR]; exact Nat.le_of_ble_eq_true rfl⟩) hS (fun q _ h => hFc q h) hFc (fun r9 u9 t H1 locs ht hvm hw hB hz1 hk1 hS => ?_)
          subst hw
          obtain ⟨fik_18, flk_18, vik_18, vlk_18, hP1, hD1, hG⟩ := hB
          rw [ht] at hP1
          obtain ⟨hP, hD⟩ := va_join (wr := [((a 0), .inr (4, [.ref (a 1), .ref (a 4), .ref (a 2), .ref (ex 0), .ref (ex 1), .int (vi 0), .int (vi 1), .int (vi 2), .int (vi 3), .int (vi 4), .int (vi 5)])), ((a 2), .inl (T 1, 40, .inl (fi 0))), ((a 3), .inl (T 0, 940, .inl (fi 1))), ((a 4), .inr (7, [.int (vi 17), .int (vi 18), .ref (a 5), .ref (ex 2), .ref (ex 3), .ref (ex 4), .ref (a 7), .ref (ex 5), .ref (ex 6), .ref (ex 7), .ref (ex 8), .ref (ex 9)])), ((a 5), .inl (T 2, 9, .inr (.inl (fl 0)))), ((a 6), .inl (T 2, 27, .inr (.inl (fl 1)))), ((a 7), .inl (T 2, 9, .inr (.inl (fl 2))))]) (w1 := [((a 1), .inr (6, [.ref (a 3), .ref (a 6), .int (vi 6), .int (vi 7), .int (vi 8), .int (vi 9), .int (vi 10), .int (vi 11), .long (vl 0), .int (vi 12), .int (vi 13), .int (vi 14), .int (vi 15), .int (vi 16)]))]) hP hD [7] [0, 1, 2, 3, 4, 5, 6] hC9 rfl (by decide) (by decide) hk1 hFc hP1 hD1
          obtain ⟨rk_18, er9⟩ : ∃ z, z = r9 := ⟨_, rfl⟩
          subst er9
          clear hPc hDc hFc hP1 hD1 hk1 hz1 hvm ht hC9
          generalize H1 = H at hP hS ⊢
          obtain ⟨hP, hD⟩ := (show xPD D A [((a 0), .inr (4, [.ref (a 1), .ref (a 4), .ref (a 2), .ref (ex 0), .ref (ex 1), .int (vi 0), .int (vi 1), .int (vi 2), .int (vi 3), .int (vi 4), .int (vi 5)])), ((a 2), .inl (T 1, 40, .inl (fi 0))), ((a 3), .inl (T 0, 940, .inl (fi 1))), ((a 4), .inr (7, [.int (vi 17), .int (vi 18), .ref (a 5), .ref (ex 2), .ref (ex 3), .ref (ex 4), .ref (a 7), .ref (ex 5), .ref (ex 6), .ref (ex 7), .ref (ex 8), .ref (ex 9)])), ((a 5), .inl (T 2, 9, .inr (.inl (fl 0)))), ((a 6), .inl (T 2, 27, .inr (.inl (fl 1)))), ((a 7), .inl (T 2, 9, .inr (.inl (fl 2)))), ((a 1), .inr (6, [.ref (a 3), .ref (a 6), .int (vi 6), .int (vi 7), .int (vi 8), .int (vi 9), .int (vi 10), .int (vi 11), .long (vl 0), .int (vi 12), .int (vi 13), .int (vi 14), .int (vi 15), .int (vi 16)]))] H from ⟨hP, hD⟩)
          obtain ⟨gk_18_0, -⟩ := hG
          rcases (show (rk_18 = 1 ∧ (True)) ∨ (rk_18 = 0 ∧ (True)) from gk_18_0) with ⟨er9, gk_18_0⟩ | ⟨er9, gk_18_0⟩
          · refine xz_i 1 er9 ?_
            refine lv_if_eq (tgt := 253) hx hb dX4_readDeed_225 (by decide) (fun c => absurd c (by decide)) (fun _ => ?_)
            refine lv_aload_n hx hb dX4_readDeed_228 rfl (lv_at hl 0 rfl) ?_
            refine lv_bipush (v := 7) hx hb dX4_readDeed_229 (by decide) ?_
            obtain ⟨hC9, hPc, hDc, hFc⟩ := xcut (wc := (pre_X4_setSort_6 T (xa [(a 0), (a 2)]) (xa [(a 1), (a 4), (ex 0), (ex 1)]) (xf [(fi 0)]) (xh []) (xv [(vi 0), (vi 1), (vi 2), (vi 3), (vi 4), (vi 5)]) (xl []))) hP hD hS hA [0, 1] (by decide) rfl
            refine va_calli (va_runV (As := [.int 7]) (rest := []) ⟨hx, hb, hml, hown, htg⟩ (c_X4_setSort_6 l D T (xa [(a 0), (a 2)]) (xa [(a 1), (a 4), (ex 0), (ex 1)]) (xf [(fi 0)]) (xh []) (xv [(vi 0), (vi 1), (vi 2), (vi 3), (vi 4), (vi 5)]) (xl []) H.size hp0 (by show (vi 0).toInt ≤ 39; first | omega | assumption)) ⟨callB_of 1 htg (xg_ok kw_1155) rfl rfl rfl (htg _ kw_11) (htg _ kw_1152) (by decide +kernel) ⟨by rw [hR]; exact Nat.le_of_ble_eq_true rfl, by rw [hR]; exact Nat.le_of_ble_eq_true rfl⟩, htg _ kw_1154, htg _ ks_97⟩ (xpreV hK hPc hDc (va_recv hK.1 hPc (ci := 4) (q0 := 0) rfl rfl)) rfl rfl hl.1 rfl (lv_room (Nat.le_of_ble_eq_true rfl)) dX4_readDeed_231 ⟨by rw [hR]; exact Nat.le_of_ble_eq_true rfl, by rw [hR]; exact Nat.le_of_ble_eq_true rfl⟩) hS (fun q _ h => hFc q h) hFc (fun r9 u9 t H1 locs ht hvm hw hB hz1 hk1 hS => ?_)
            subst hw
            obtain ⟨fik_19, flk_19, vik_19, vlk_19, hP1, hD1, hG⟩ := hB
            rw [ht] at hP1
            obtain ⟨hP, hD⟩ := va_join (wr := [((a 3), .inl (T 0, 940, .inl (fi 1))), ((a 4), .inr (7, [.int (vi 17), .int (vi 18), .ref (a 5), .ref (ex 2), .ref (ex 3), .ref (ex 4), .ref (a 7), .ref (ex 5), .ref (ex 6), .ref (ex 7), .ref (ex 8), .ref (ex 9)])), ((a 5), .inl (T 2, 9, .inr (.inl (fl 0)))), ((a 6), .inl (T 2, 27, .inr (.inl (fl 1)))), ((a 7), .inl (T 2, 9, .inr (.inl (fl 2)))), ((a 1), .inr (6, [.ref (a 3), .ref (a 6), .int (vi 6), .int (vi 7), .int (vi 8), .int (vi 9), .int (vi 10), .int (vi 11), .long (vl 0), .int (vi 12), .int (vi 13), .int (vi 14), .int (vi 15), .int (vi 16)]))]) (w1 := [((a 0), .inr (4, [.ref (a 1), .ref (a 4), .ref (a 2), .ref (ex 0), .ref (ex 1), .int (vi 0), .int (vi 1), .int (vi 2), .int (vi 3), .int (vi 4), .int (vi 5)])), ((a 2), .inl (T 1, 40, .inl (fik_19 0)))]) hP hD [0, 1] [2, 3, 4, 5, 6, 7] hC9 rfl (by decide) (by decide) hk1 hFc hP1 hD1
            obtain ⟨rk_19, er9⟩ : ∃ z, z = r9 := ⟨_, rfl⟩
            subst er9
            clear hPc hDc hFc hP1 hD1 hk1 hz1 hvm ht hC9
            generalize H1 = H at hP hS ⊢
            obtain ⟨hP, hD⟩ := (show xPD D A [((a 3), .inl (T 0, 940, .inl (fi 1))), ((a 4), .inr (7, [.int (vi 17), .int (vi 18), .ref (a 5), .ref (ex 2), .ref (ex 3), .ref (ex 4), .ref (a 7), .ref (ex 5), .ref (ex 6), .ref (ex 7), .ref (ex 8), .ref (ex 9)])), ((a 5), .inl (T 2, 9, .inr (.inl (fl 0)))), ((a 6), .inl (T 2, 27, .inr (.inl (fl 1)))), ((a 7), .inl (T 2, 9, .inr (.inl (fl 2)))), ((a 1), .inr (6, [.ref (a 3), .ref (a 6), .int (vi 6), .int (vi 7), .int (vi 8), .int (vi 9), .int (vi 10), .int (vi 11), .long (vl 0), .int (vi 12), .int (vi 13), .int (vi 14), .int (vi 15), .int (vi 16)])), ((a 0), .inr (4, [.ref (a 1), .ref (a 4), .ref (a 2), .ref (ex 0), .ref (ex 1), .int (vi 0), .int (vi 1), .int (vi 2), .int (vi 3), .int (vi 4), .int (vi 5)])), ((a 2), .inl (T 1, 40, .inl (fik_19 0)))] H from ⟨hP, hD⟩)
            obtain ⟨gk_19_0, gk_19_1, gk_19_2, -⟩ := hG
            replace gk_19_1 : ∀ j : Nat, ¬ j = ((vi 0)).toNatClampNeg → (fik_19 0) j = (fi 0) j := gk_19_1
            replace gk_19_2 : ((fik_19 0) ((vi 0)).toNatClampNeg).toInt = (7 : Int32).toInt := gk_19_2
            replace gk_19_0 : rk_19 = 1 := gk_19_0
            refine xz_i 1 gk_19_0 ?_
            refine lv_if_eq (tgt := 251) hx hb dX4_readDeed_234 (by decide) (fun c => absurd c (by decide)) (fun _ => ?_)
            refine lv_aload_n hx hb dX4_readDeed_237 rfl (lv_at hl 0 rfl) ?_
            refine va_get (D := D) (ci := 4) (v := .ref (a 1)) (C := RX4) (T := TX4) (N := 11) hx hb htg inX4 hown hK.1 hP 6 rfl rfl 0 (by decide) (htg _ kw_339) (fun _ h9 => h9) rfl dX4_readDeed_238 ?_
            obtain ⟨hC9, hPc, hDc, hFc⟩ := xcut (wc := (pre_X6_pass T (xa [(a 1), (a 3)]) (xa [(a 6)]) (xf [(fi 1)]) (xh []) (xv [(vi 6), (vi 7), (vi 8), (vi 9), (vi 10), (vi 11), (vi 12), (vi 13), (vi 14), (vi 15), (vi 16)]) (xl [(vl 0)]))) hP hD hS hA [5, 0] (by decide) rfl
            refine va_calli (va_runVN (As := []) (rest := []) ⟨hx, hb, hml, hown, htg⟩ (c_X6_pass l D T (xa [(a 1), (a 3)]) (xa [(a 6)]) (xf [(fi 1)]) (xh []) (xv [(vi 6), (vi 7), (vi 8), (vi 9), (vi 10), (vi 11), (vi 12), (vi 13), (vi 14), (vi 15), (vi 16)]) (xl [(vl 0)]) H.size hp1 hp2) ⟨va_cnB 0 htg (xg_ok kw_618) rfl rfl rfl (hK.2.1 _ kn_1162) (htg _ kw_2) (by decide +kernel) ⟨by rw [hR]; exact Nat.le_of_ble_eq_true rfl, by rw [hR]; exact Nat.le_of_ble_eq_true rfl⟩, htg _ kw_617, htg _ ks_15⟩ (xpreV hK hPc hDc (va_recv hK.1 hPc (ci := 6) (q0 := 0) rfl rfl)) rfl rfl hl.1 rfl (lv_room (Nat.le_of_ble_eq_true rfl)) dX4_readDeed_241 ⟨by rw [hR]; exact Nat.le_of_ble_eq_true rfl, by rw [hR]; exact Nat.le_of_ble_eq_true rfl⟩) hS (fun q _ h => hFc q h) hFc (fun r9 u9 t H1 locs ht hvm hw hB hz1 hk1 hS => ?_)
            subst hw
            obtain ⟨fik_20, flk_20, vik_20, vlk_20, hP1, hD1, hG⟩ := hB
            rw [ht] at hP1
            obtain ⟨hP, hD⟩ := va_join (wr := [((a 4), .inr (7, [.int (vi 17), .int (vi 18), .ref (a 5), .ref (ex 2), .ref (ex 3), .ref (ex 4), .ref (a 7), .ref (ex 5), .ref (ex 6), .ref (ex 7), .ref (ex 8), .ref (ex 9)])), ((a 5), .inl (T 2, 9, .inr (.inl (fl 0)))), ((a 6), .inl (T 2, 27, .inr (.inl (fl 1)))), ((a 7), .inl (T 2, 9, .inr (.inl (fl 2)))), ((a 0), .inr (4, [.ref (a 1), .ref (a 4), .ref (a 2), .ref (ex 0), .ref (ex 1), .int (vi 0), .int (vi 1), .int (vi 2), .int (vi 3), .int (vi 4), .int (vi 5)])), ((a 2), .inl (T 1, 40, .inl (fik_19 0)))]) (w1 := [((a 1), .inr (6, [.ref (a 3), .ref (a 6), .int (vi 6), .int (vi 7), .int (vi 8), .int (vik_20 4), .int (vik_20 0), .int (vik_20 1), .long (vlk_20 0), .int (vik_20 3), .int (vik_20 2), .int (vi 14), .int (vi 15), .int (vi 16)])), ((a 3), .inl (T 0, 940, .inl (fi 1)))]) hP hD [5, 0] [1, 2, 3, 4, 6, 7] hC9 rfl (by decide) (by decide) hk1 hFc hP1 hD1
            obtain ⟨rk_20, er9⟩ : ∃ z, z = r9 := ⟨_, rfl⟩
            subst er9
            clear hPc hDc hFc hP1 hD1 hk1 hz1 hvm ht hC9
            generalize H1 = H at hP hS ⊢
            obtain ⟨hP, hD⟩ := (show xPD D A [((a 4), .inr (7, [.int (vi 17), .int (vi 18), .ref (a 5), .ref (ex 2), .ref (ex 3), .ref (ex 4), .ref (a 7), .ref (ex 5), .ref (ex 6), .ref (ex 7), .ref (ex 8), .ref (ex 9)])), ((a 5), .inl (T 2, 9, .inr (.inl (fl 0)))), ((a 6), .inl (T 2, 27, .inr (.inl (fl 1)))), ((a 7), .inl (T 2, 9, .inr (.inl (fl 2)))), ((a 0), .inr (4, [.ref (a 1), .ref (a 4), .ref (a 2), .ref (ex 0), .ref (ex 1), .int (vi 0), .int (vi 1), .int (vi 2), .int (vi 3), .int (vi 4), .int (vi 5)])), ((a 2), .inl (T 1, 40, .inl (fik_19 0))), ((a 1), .inr (6, [.ref (a 3), .ref (a 6), .int (vi 6), .int (vi 7), .int (vi 8), .int (vik_20 4), .int (vik_20 0), .int (vik_20 1), .long (vlk_20 0), .int (vik_20 3), .int (vik_20 2), .int (vi 14), .int (vi 15), .int (vi 16)])), ((a 3), .inl (T 0, 940, .inl (fi 1)))] H from ⟨hP, hD⟩)
            obtain ⟨gk_20_0, gk_20_1, -⟩ := hG
            replace gk_20_1 : 0 ≤ (vik_20 4).toInt ∧ (vik_20 4).toInt ≤ 940 := gk_20_1
            replace gk_20_0 : rk_20 = 1 := gk_20_0
            refine xz_i 1 gk_20_0 ?_
            refine lv_if_eq (tgt := 251) hx hb dX4_readDeed_244 (by decide) (fun c => absurd c (by decide)) (fun _ => ?_)
            refine lv_iconst (v := 1) hx hb dX4_readDeed_247 (by decide) ?_
            refine lv_goto (tgt := 252) hx hb dX4_readDeed_248 (by decide) ?_
            have hP9 := hP.sub (ws' := [((a 0), .inr (4, [.ref (a 1), .ref (a 4), .ref (a 2), .ref (ex 0), .ref (ex 1), .int (vi 0), .int (vi 1), .int (vi 2), .int (vi 3), .int (vi 4), .int (vi 5)])), ((a 1), .inr (6, [.ref (a 3), .ref (a 6), .int (vi 6), .int (vi 7), .int (vi 8), .int (vik_20 4), .int (vik_20 0), .int (vik_20 1), .long (vlk_20 0), .int (vik_20 3), .int (vik_20 2), .int (vi 14), .int (vi 15), .int (vi 16)])), ((a 2), .inl (T 1, 40, .inl (fik_19 0))), ((a 3), .inl (T 0, 940, .inl (fi 1))), ((a 4), .inr (7, [.int (vi 17), .int (vi 18), .ref (a 5), .ref (ex 2), .ref (ex 3), .ref (ex 4), .ref (a 7), .ref (ex 5), .ref (ex 6), .ref (ex 7), .ref (ex 8), .ref (ex 9)])), ((a 5), .inl (T 2, 9, .inr (.inl (fl 0)))), ((a 6), .inl (T 2, 27, .inr (.inl (fl 1)))), ((a 7), .inl (T 2, 9, .inr (.inl (fl 2))))]) [4, 6, 5, 7, 0, 1, 2, 3] rfl
            have hD9 := hD.sub (ws' := [((a 0), .inr (4, [.ref (a 1), .ref (a 4), .ref (a 2), .ref (ex 0), .ref (ex 1), .int (vi 0), .int (vi 1), .int (vi 2), .int (vi 3), .int (vi 4), .int (vi 5)])), ((a 1), .inr (6, [.ref (a 3), .ref (a 6), .int (vi 6), .int (vi 7), .int (vi 8), .int (vik_20 4), .int (vik_20 0), .int (vik_20 1), .long (vlk_20 0), .int (vik_20 3), .int (vik_20 2), .int (vi 14), .int (vi 15), .int (vi 16)])), ((a 2), .inl (T 1, 40, .inl (fik_19 0))), ((a 3), .inl (T 0, 940, .inl (fi 1))), ((a 4), .inr (7, [.int (vi 17), .int (vi 18), .ref (a 5), .ref (ex 2), .ref (ex 3), .ref (ex 4), .ref (a 7), .ref (ex 5), .ref (ex 6), .ref (ex 7), .ref (ex 8), .ref (ex 9)])), ((a 5), .inl (T 2, 9, .inr (.inl (fl 0)))), ((a 6), .inl (T 2, 27, .inr (.inl (fl 1)))), ((a 7), .inl (T 2, 9, .inr (.inl (fl 2))))]) [4, 6, 5, 7, 0, 1, 2, 3] (by decide +kernel) rfl
            rw [hQ]
            exact W.zret (v := 1) hx hb hr rfl (fun t ht hW => ⟨⟨1, 1, rfl, rfl, xf [(fik_19 0)], xh [], xv [(vik_20 0), (vik_20 1), (vik_20 2), (vik_20 3), (vik_20 4), (vi 14), (vi 15), (vi 16)], xl [(vlk_20 0)], by rw [ht]; exact hP9, hD9, ⟨(Or.inl ⟨rfl, by show 0 ≤ ((fik_19 0) ((vi 0)).toNatClampNeg).toInt ∧ ((fik_19 0) ((vi 0)).toNatClampNeg).toInt ≤ 7 ∧ ¬ ((fik_19 0) ((vi 0)).toNatClampNeg).toInt = 6 ∧ (3 ≤ ((fik_19 0) ((vi 0)).toNatClampNeg).toInt ∨ 0 ≤ (vi 14).toInt ∧ (vi 14).toInt ≤ 8); have q8_0 : (0 : Int32).toInt = 0 := (by decide); have q8_1 : (1 : Int32).toInt = 1 := (by decide); have q8_2 : (2 : Int32).toInt = 2 := (by decide); have q8_3 : (3 : Int32).toInt = 3 := (by decide); have q8_4 : (4 : Int32).toInt = 4 := (by decide); have q8_5 : (5 : Int32).toInt = 5 := (by decide); have q8_6 : (6 : Int32).toInt = 6 := (by decide); have q8_7 : (7 : Int32).toInt = 7 := (by decide); omega⟩), gk_20_1, (by show ∀ j : Nat, ¬ j = ((vi 0)).toNatClampNeg → (fik_19 0) j = (fi 0) j; first | assumption | exact fun j _ => rfl), trivial⟩⟩, hS.F ht⟩) hS.2.2 dX4_readDeed_252
          · refine xz_i 0 er9 ?_
            refine lv_if_eq (tgt := 253) hx hb dX4_readDeed_225 (by decide) (fun _ => ?_) (fun c => absurd (by decide) c)
            refine lv_aload_n hx hb dX4_readDeed_253 rfl (lv_at hl 0 rfl) ?_
            refine va_get (D := D) (ci := 4) (v := .ref (a 1)) (C := RX4) (T := TX4) (N := 11) hx hb htg inX4 hown hK.1 hP 0 rfl rfl 0 (by decide) (htg _ kw_339) (fun _ h9 => h9) rfl dX4_readDeed_254 ?_
            refine va_ldcS hx hb hown (hT.1 17 (by decide)) dX4_readDeed_257 ?_
            obtain ⟨hC9, hPc, hDc, hFc⟩ := xcut (wc := (pre_X6_isWord_7 T (xa [(a 1)]) (xa [(a 3), (a 6)]) (xf []) (xh []) (xv [(vi 6), (vi 7), (vi 8), (vi 9), (vi 10), (vi 11), (vi 12), (vi 13), (vi 14), (vi 15), (vi 16)]) (xl [(vl 0)]))) hP hD hS hA [7] (by decide) rfl
            refine va_calli (va_runVN (As := [.ref (kK 17)]) (rest := []) ⟨hx, hb, hml, hown, htg⟩ (c_X6_isWord_7 l D T (xa [(a 1)]) (xa [(a 3), (a 6)]) (xf []) (xh []) (xv [(vi 6), (vi 7), (vi 8), (vi 9), (vi 10), (vi 11), (vi 12), (vi 13), (vi 14), (vi 15), (vi 16)]) (xl [(vl 0)]) kK kV H.size hp1 hp2) ⟨va_cnB 1 htg (xg_ok kw_586) rfl rfl rfl (hK.2.1 _ kn_1147) (htg _ kw_2) (by decide +kernel) ⟨by rw [hR]; exact Nat.le_of_ble_eq_true rfl, by rw [hR]; exact Nat.le_of_ble_eq_true rfl⟩, htg _ kw_585, htg _ ks_8⟩ (xpreVs hK hPc hDc hT hFc hS (va_recv hK.1 hPc (ci := 6) (q0 := 0) rfl rfl)) rfl rfl hl.1 rfl (lv_room (Nat.le_of_ble_eq_true rfl)) dX4_readDeed_259 ⟨by rw [hR]; exact Nat.le_of_ble_eq_true rfl, by rw [hR]; exact Nat.le_of_ble_eq_true rfl⟩) hS (fun q _ h => hFc q h) hFc (fun r9 u9 t H1 locs ht hvm hw hB hz1 hk1 hS => ?_)
            subst hw
            obtain ⟨fik_21, flk_21, vik_21, vlk_21, hP1, hD1, hG⟩ := hB
            rw [ht] at hP1
            obtain ⟨hP, hD⟩ := va_join (wr := [((a 0), .inr (4, [.ref (a 1), .ref (a 4), .ref (a 2), .ref (ex 0), .ref (ex 1), .int (vi 0), .int (vi 1), .int (vi 2), .int (vi 3), .int (vi 4), .int (vi 5)])), ((a 2), .inl (T 1, 40, .inl (fi 0))), ((a 3), .inl (T 0, 940, .inl (fi 1))), ((a 4), .inr (7, [.int (vi 17), .int (vi 18), .ref (a 5), .ref (ex 2), .ref (ex 3), .ref (ex 4), .ref (a 7), .ref (ex 5), .ref (ex 6), .ref (ex 7), .ref (ex 8), .ref (ex 9)])), ((a 5), .inl (T 2, 9, .inr (.inl (fl 0)))), ((a 6), .inl (T 2, 27, .inr (.inl (fl 1)))), ((a 7), .inl (T 2, 9, .inr (.inl (fl 2))))]) (w1 := [((a 1), .inr (6, [.ref (a 3), .ref (a 6), .int (vi 6), .int (vi 7), .int (vi 8), .int (vi 9), .int (vi 10), .int (vi 11), .long (vl 0), .int (vi 12), .int (vi 13), .int (vi 14), .int (vi 15), .int (vi 16)]))]) hP hD [7] [0, 1, 2, 3, 4, 5, 6] hC9 rfl (by decide) (by decide) hk1 hFc hP1 hD1
            obtain ⟨rk_21, er9⟩ : ∃ z, z = r9 := ⟨_, rfl⟩
            subst er9
            clear hPc hDc hFc hP1 hD1 hk1 hz1 hvm ht hC9
            generalize H1 = H at hP hS ⊢
            obtain ⟨hP, hD⟩ := (show xPD D A [((a 0), .inr (4, [.ref (a 1), .ref (a 4), .ref (a 2), .ref (ex 0), .ref (ex 1), .int (vi 0), .int (vi 1), .int (vi 2), .int (vi 3), .int (vi 4), .int (vi 5)])), ((a 2), .inl (T 1, 40, .inl (fi 0))), ((a 3), .inl (T 0, 940, .inl (fi 1))), ((a 4), .inr (7, [.int (vi 17), .int (vi 18), .ref (a 5), .ref (ex 2), .ref (ex 3), .ref (ex 4), .ref (a 7), .ref (ex 5), .ref (ex 6), .ref (ex 7), .ref (ex 8), .ref (ex 9)])), ((a 5), .inl (T 2, 9, .inr (.inl (fl 0)))), ((a 6), .inl (T 2, 27, .inr (.inl (fl 1)))), ((a 7), .inl (T 2, 9, .inr (.inl (fl 2)))), ((a 1), .inr (6, [.ref (a 3), .ref (a 6), .int (vi 6), .int (vi 7), .int (vi 8), .int (vi 9), .int (vi 10), .int (vi 11), .long (vl 0), .int (vi 12), .int (vi 13), .int (vi 14), .int (vi 15), .int (vi 16)]))] H from ⟨hP, hD⟩)
            obtain ⟨gk_21_0, -⟩ := hG
            rcases (show (rk_21 = 1 ∧ (True)) ∨ (rk_21 = 0 ∧ (True)) from gk_21_0) with ⟨er9, gk_21_0⟩ | ⟨er9, gk_21_0⟩
            · refine xz_i 1 er9 ?_
              refine lv_if_eq (tgt := 289) hx hb dX4_readDeed_262 (by decide) (fun c => absurd c (by decide)) (fun _ => ?_)
              refine lv_aload_n hx hb dX4_readDeed_265 rfl (lv_at hl 0 rfl) ?_
              refine lv_iconst (v := 4) hx hb dX4_readDeed_266 (by decide) ?_
              obtain ⟨hC9, hPc, hDc, hFc⟩ := xcut (wc := (pre_X4_setSort_7 T (xa [(a 0), (a 2)]) (xa [(a 1), (a 4), (ex 0), (ex 1)]) (xf [(fi 0)]) (xh []) (xv [(vi 0), (vi 1), (vi 2), (vi 3), (vi 4), (vi 5)]) (xl []))) hP hD hS hA [0, 1] (by decide) rfl
              refine va_calli (va_runV (As := [.int 4]) (rest := []) ⟨hx, hb, hml, hown, htg⟩ (c_X4_setSort_7 l D T (xa [(a 0), (a 2)]) (xa [(a 1), (a 4), (ex 0), (ex 1)]) (xf [(fi 0)]) (xh []) (xv [(vi 0), (vi 1), (vi 2), (vi 3), (vi 4), (vi 5)]) (xl []) H.size hp0 (by show (vi 0).toInt ≤ 39; first | omega | assumption)) ⟨callB_of 1 htg (xg_ok kw_1155) rfl rfl rfl (htg _ kw_11) (htg _ kw_1152) (by decide +kernel) ⟨by rw [hR]; exact Nat.le_of_ble_eq_true rfl, by rw [hR]; exact Nat.le_of_ble_eq_true rfl⟩, htg _ kw_1154, htg _ ks_97⟩ (xpreV hK hPc hDc (va_recv hK.1 hPc (ci := 4) (q0 := 0) rfl rfl)) rfl rfl hl.1 rfl (lv_room (Nat.le_of_ble_eq_true rfl)) dX4_readDeed_267 ⟨by rw [hR]; exact Nat.le_of_ble_eq_true rfl, by rw [hR]; exact Nat.le_of_ble_eq_true rfl⟩) hS (fun q _ h => hFc q h) hFc (fun r9 u9 t H1 locs ht hvm hw hB hz1 hk1 hS => ?_)
              subst hw
              obtain ⟨fik_22, flk_22, vik_22, vlk_22, hP1, hD1, hG⟩ := hB
              rw [ht] at hP1
              obtain ⟨hP, hD⟩ := va_join (wr := [((a 3), .inl (T 0, 940, .inl (fi 1))), ((a 4), .inr (7, [.int (vi 17), .int (vi 18), .ref (a 5), .ref (ex 2), .ref (ex 3), .ref (ex 4), .ref (a 7), .ref (ex 5), .ref (ex 6), .ref (ex 7), .ref (ex 8), .ref (ex 9)])), ((a 5), .inl (T 2, 9, .inr (.inl (fl 0)))), ((a 6), .inl (T 2, 27, .inr (.inl (fl 1)))), ((a 7), .inl (T 2, 9, .inr (.inl (fl 2)))), ((a 1), .inr (6, [.ref (a 3), .ref (a 6), .int (vi 6), .int (vi 7), .int (vi 8), .int (vi 9), .int (vi 10), .int (vi 11), .long (vl 0), .int (vi 12), .int (vi 13), .int (vi 14), .int (vi 15), .int (vi 16)]))]) (w1 := [((a 0), .inr (4, [.ref (a 1), .ref (a 4), .ref (a 2), .ref (ex 0), .ref (ex 1), .int (vi 0), .int (vi 1), .int (vi 2), .int (vi 3), .int (vi 4), .int (vi 5)])), ((a 2), .inl (T 1, 40, .inl (fik_22 0)))]) hP hD [0, 1] [2, 3, 4, 5, 6, 7] hC9 rfl (by decide) (by decide) hk1 hFc hP1 hD1
              obtain ⟨rk_22, er9⟩ : ∃ z, z = r9 := ⟨_, rfl⟩
              subst er9
              clear hPc hDc hFc hP1 hD1 hk1 hz1 hvm ht hC9
              generalize H1 = H at hP hS ⊢
              obtain ⟨hP, hD⟩ := (show xPD D A [((a 3), .inl (T 0, 940, .inl (fi 1))), ((a 4), .inr (7, [.int (vi 17), .int (vi 18), .ref (a 5), .ref (ex 2), .ref (ex 3), .ref (ex 4), .ref (a 7), .ref (ex 5), .ref (ex 6), .ref (ex 7), .ref (ex 8), .ref (ex 9)])), ((a 5), .inl (T 2, 9, .inr (.inl (fl 0)))), ((a 6), .inl (T 2, 27, .inr (.inl (fl 1)))), ((a 7), .inl (T 2, 9, .inr (.inl (fl 2)))), ((a 1), .inr (6, [.ref (a 3), .ref (a 6), .int (vi 6), .int (vi 7), .int (vi 8), .int (vi 9), .int (vi 10), .int (vi 11), .long (vl 0), .int (vi 12), .int (vi 13), .int (vi 14), .int (vi 15), .int (vi 16)])), ((a 0), .inr (4, [.ref (a 1), .ref (a 4), .ref (a 2), .ref (ex 0), .ref (ex 1), .int (vi 0), .int (vi 1), .int (vi 2), .int (vi 3), .int (vi 4), .int (vi 5)])), ((a 2), .inl (T 1, 40, .inl (fik_22 0)))] H from ⟨hP, hD⟩)
              obtain ⟨gk_22_0, gk_22_1, gk_22_2, -⟩ := hG
              replace gk_22_1 : ∀ j : Nat, ¬ j = ((vi 0)).toNatClampNeg → (fik_22 0) j = (fi 0) j := gk_22_1
              replace gk_22_2 : ((fik_22 0) ((vi 0)).toNatClampNeg).toInt = (4 : Int32).toInt := gk_22_2
              replace gk_22_0 : rk_22 = 1 := gk_22_0
              refine xz_i 1 gk_22_0 ?_
              refine lv_if_eq (tgt := 287) hx hb dX4_readDeed_270 (by decide) (fun c => absurd c (by decide)) (fun _ => ?_)
              refine lv_aload_n hx hb dX4_readDeed_273 rfl (lv_at hl 0 rfl) ?_
              refine va_get (D := D) (ci := 4) (v := .ref (a 1)) (C := RX4) (T := TX4) (N := 11) hx hb htg inX4 hown hK.1 hP 6 rfl rfl 0 (by decide) (htg _ kw_339) (fun _ h9 => h9) rfl dX4_readDeed_274 ?_
              obtain ⟨hC9, hPc, hDc, hFc⟩ := xcut (wc := (pre_X6_pass T (xa [(a 1), (a 3)]) (xa [(a 6)]) (xf [(fi 1)]) (xh []) (xv [(vi 6), (vi 7), (vi 8), (vi 9), (vi 10), (vi 11), (vi 12), (vi 13), (vi 14), (vi 15), (vi 16)]) (xl [(vl 0)]))) hP hD hS hA [5, 0] (by decide) rfl
              refine va_calli (va_runVN (As := []) (rest := []) ⟨hx, hb, hml, hown, htg⟩ (c_X6_pass l D T (xa [(a 1), (a 3)]) (xa [(a 6)]) (xf [(fi 1)]) (xh []) (xv [(vi 6), (vi 7), (vi 8), (vi 9), (vi 10), (vi 11), (vi 12), (vi 13), (vi 14), (vi 15), (vi 16)]) (xl [(vl 0)]) H.size hp1 hp2) ⟨va_cnB 0 htg (xg_ok kw_618) rfl rfl rfl (hK.2.1 _ kn_1162) (htg _ kw_2) (by decide +kernel) ⟨by rw [hR]; exact Nat.le_of_ble_eq_true rfl, by rw [hR]; exact Nat.le_of_ble_eq_true rfl⟩, htg _ kw_617, htg _ ks_15⟩ (xpreV hK hPc hDc (va_recv hK.1 hPc (ci := 6) (q0 := 0) rfl rfl)) rfl rfl hl.1 rfl (lv_room (Nat.le_of_ble_eq_true rfl)) dX4_readDeed_277 ⟨by rw [hR]; exact Nat.le_of_ble_eq_true rfl, by rw [hR]; exact Nat.le_of_ble_eq_true rfl⟩) hS (fun q _ h => hFc q h) hFc (fun r9 u9 t H1 locs ht hvm hw hB hz1 hk1 hS => ?_)
              subst hw
              obtain ⟨fik_23, flk_23, vik_23, vlk_23, hP1, hD1, hG⟩ := hB
              rw [ht] at hP1
              obtain ⟨hP, hD⟩ := va_join (wr := [((a 4), .inr (7, [.int (vi 17), .int (vi 18), .ref (a 5), .ref (ex 2), .ref (ex 3), .ref (ex 4), .ref (a 7), .ref (ex 5), .ref (ex 6), .ref (ex 7), .ref (ex 8), .ref (ex 9)])), ((a 5), .inl (T 2, 9, .inr (.inl (fl 0)))), ((a 6), .inl (T 2, 27, .inr (.inl (fl 1)))), ((a 7), .inl (T 2, 9, .inr (.inl (fl 2)))), ((a 0), .inr (4, [.ref (a 1), .ref (a 4), .ref (a 2), .ref (ex 0), .ref (ex 1), .int (vi 0), .int (vi 1), .int (vi 2), .int (vi 3), .int (vi 4), .int (vi 5)])), ((a 2), .inl (T 1, 40, .inl (fik_22 0)))]) (w1 := [((a 1), .inr (6, [.ref (a 3), .ref (a 6), .int (vi 6), .int (vi 7), .int (vi 8), .int (vik_23 4), .int (vik_23 0), .int (vik_23 1), .long (vlk_23 0), .int (vik_23 3), .int (vik_23 2), .int (vi 14), .int (vi 15), .int (vi 16)])), ((a 3), .inl (T 0, 940, .inl (fi 1)))]) hP hD [5, 0] [1, 2, 3, 4, 6, 7] hC9 rfl (by decide) (by decide) hk1 hFc hP1 hD1
              obtain ⟨rk_23, er9⟩ : ∃ z, z = r9 := ⟨_, rfl⟩
              subst er9
              clear hPc hDc hFc hP1 hD1 hk1 hz1 hvm ht hC9
              generalize H1 = H at hP hS ⊢
              obtain ⟨hP, hD⟩ := (show xPD D A [((a 4), .inr (7, [.int (vi 17), .int (vi 18), .ref (a 5), .ref (ex 2), .ref (ex 3), .ref (ex 4), .ref (a 7), .ref (ex 5), .ref (ex 6), .ref (ex 7), .ref (ex 8), .ref (ex 9)])), ((a 5), .inl (T 2, 9, .inr (.inl (fl 0)))), ((a 6), .inl (T 2, 27, .inr (.inl (fl 1)))), ((a 7), .inl (T 2, 9, .inr (.inl (fl 2)))), ((a 0), .inr (4, [.ref (a 1), .ref (a 4), .ref (a 2), .ref (ex 0), .ref (ex 1), .int (vi 0), .int (vi 1), .int (vi 2), .int (vi 3), .int (vi 4), .int (vi 5)])), ((a 2), .inl (T 1, 40, .inl (fik_22 0))), ((a 1), .inr (6, [.ref (a 3), .ref (a 6), .int (vi 6), .int (vi 7), .int (vi 8), .int (vik_23 4), .int (vik_23 0), .int (vik_23 1), .long (vlk_23 0), .int (vik_23 3), .int (vik_23 2), .int (vi 14), .int (vi 15), .int (vi 16)])), ((a 3), .inl (T 0, 940, .inl (fi 1)))] H from ⟨hP, hD⟩)
              obtain ⟨gk_23_0, gk_23_1, -⟩ := hG
              replace gk_23_1 : 0 ≤ (vik_23 4).toInt ∧ (vik_23 4).toInt ≤ 940 := gk_23_1
              replace gk_23_0 : rk_23 = 1 := gk_23_0
              refine xz_i 1 gk_23_0 ?_
              refine lv_if_eq (tgt := 287) hx hb dX4_readDeed_280 (by decide) (fun c => absurd c (by decide)) (fun _ => ?_)
              refine lv_iconst (v := 1) hx hb dX4_readDeed_283 (by decide) ?_
              refine lv_goto (tgt := 288) hx hb dX4_readDeed_284 (by decide) ?_
              have hP9 := hP.sub (ws' := [((a 0), .inr (4, [.ref (a 1), .ref (a 4), .ref (a 2), .ref (ex 0), .ref (ex 1), .int (vi 0), .int (vi 1), .int (vi 2), .int (vi 3), .int (vi 4), .int (vi 5)])), ((a 1), .inr (6, [.ref (a 3), .ref (a 6), .int (vi 6), .int (vi 7), .int (vi 8), .int (vik_23 4), .int (vik_23 0), .int (vik_23 1), .long (vlk_23 0), .int (vik_23 3), .int (vik_23 2), .int (vi 14), .int (vi 15), .int (vi 16)])), ((a 2), .inl (T 1, 40, .inl (fik_22 0))), ((a 3), .inl (T 0, 940, .inl (fi 1))), ((a 4), .inr (7, [.int (vi 17), .int (vi 18), .ref (a 5), .ref (ex 2), .ref (ex 3), .ref (ex 4), .ref (a 7), .ref (ex 5), .ref (ex 6), .ref (ex 7), .ref (ex 8), .ref (ex 9)])), ((a 5), .inl (T 2, 9, .inr (.inl (fl 0)))), ((a 6), .inl (T 2, 27, .inr (.inl (fl 1)))), ((a 7), .inl (T 2, 9, .inr (.inl (fl 2))))]) [4, 6, 5, 7, 0, 1, 2, 3] rfl
              have hD9 := hD.sub (ws' := [((a 0), .inr (4, [.ref (a 1), .ref (a 4), .ref (a 2), .ref (ex 0), .ref (ex 1), .int (vi 0), .int (vi 1), .int (vi 2), .int (vi 3), .int (vi 4), .int (vi 5)])), ((a 1), .inr (6, [.ref (a 3), .ref (a 6), .int (vi 6), .int (vi 7), .int (vi 8), .int (vik_23 4), .int (vik_23 0), .int (vik_23 1), .long (vlk_23 0), .int (vik_23 3), .int (vik_23 2), .int (vi 14), .int (vi 15), .int (vi 16)])), ((a 2), .inl (T 1, 40, .inl (fik_22 0))), ((a 3), .inl (T 0, 940, .inl (fi 1))), ((a 4), .inr (7, [.int (vi 17), .int (vi 18), .ref (a 5), .ref (ex 2), .ref (ex 3), .ref (ex 4), .ref (a 7), .ref (ex 5), .ref (ex 6), .ref (ex 7), .ref (ex 8), .ref (ex 9)])), ((a 5), .inl (T 2, 9, .inr (.inl (fl 0)))), ((a 6), .inl (T 2, 27, .inr (.inl (fl 1)))), ((a 7), .inl (T 2, 9, .inr (.inl (fl 2))))]) [4, 6, 5, 7, 0, 1, 2, 3] (by decide +kernel) rfl
              rw [hQ]
              exact W.zret (v := 1) hx hb hr rfl (fun t ht hW => ⟨⟨1, 1, rfl, rfl, xf [(fik_22 0)], xh [], xv [(vik_23 0), (vik_23 1), (vik_23 2), (vik_23 3), (vik_23 4), (vi 14), (vi 15), (vi 16)], xl [(vlk_23 0)], by rw [ht]; exact hP9, hD9, ⟨(Or.inl ⟨rfl, by show 0 ≤ ((fik_22 0) ((vi 0)).toNatClampNeg).toInt ∧ ((fik_22 0) ((vi 0)).toNatClampNeg).toInt ≤ 7 ∧ ¬ ((fik_22 0) ((vi 0)).toNatClampNeg).toInt = 6 ∧ (3 ≤ ((fik_22 0) ((vi 0)).toNatClampNeg).toInt ∨ 0 ≤ (vi 14).toInt ∧ (vi 14).toInt ≤ 8); have q8_0 : (0 : Int32).toInt = 0 := (by decide); have q8_1 : (1 : Int32).toInt = 1 := (by decide); have q8_2 : (2 : Int32).toInt = 2 := (by decide); have q8_3 : (3 : Int32).toInt = 3 := (by decide); have q8_4 : (4 : Int32).toInt = 4 := (by decide); have q8_5 : (5 : Int32).toInt = 5 := (by decide); have q8_6 : (6 : Int32).toInt = 6 := (by decide); have q8_7 : (7 : Int32).toInt = 7 := (by decide); omega⟩), gk_23_1, (by show ∀ j : Nat, ¬ j = ((vi 0)).toNatClampNeg → (fik_22 0) j = (fi 0) j; first | assumption | exact fun j _ => rfl), trivial⟩⟩, hS.F ht⟩) hS.2.2 dX4_readDeed_288
            · refine xz_i 0 er9 ?_
              refine lv_if_eq (tgt := 289) hx hb dX4_readDeed_262 (by decide) (fun _ => ?_) (fun c => absurd (by decide) c)
              refine lv_aload_n hx hb dX4_readDeed_289 rfl (lv_at hl 0 rfl) ?_
              refine va_get (D := D) (ci := 4) (v := .ref (a 1)) (C := RX4) (T := TX4) (N := 11) hx hb htg inX4 hown hK.1 hP 0 rfl rfl 0 (by decide) (htg _ kw_339) (fun _ h9 => h9) rfl dX4_readDeed_290 ?_
              refine va_ldcS hx hb hown (hT.1 18 (by decide)) dX4_readDeed_293 ?_
              obtain ⟨hC9, hPc, hDc, hFc⟩ := xcut (wc := (pre_X6_isWord_8 T (xa [(a 1)]) (xa [(a 3), (a 6)]) (xf []) (xh []) (xv [(vi 6), (vi 7), (vi 8), (vi 9), (vi 10), (vi 11), (vi 12), (vi 13), (vi 14), (vi 15), (vi 16)]) (xl [(vl 0)]))) hP hD hS hA [7] (by decide) rfl
              refine va_calli (va_runVN (As := [.ref (kK 18)]) (rest := []) ⟨hx, hb, hml, hown, htg⟩ (c_X6_isWord_8 l D T (xa [(a 1)]) (xa [(a 3), (a 6)]) (xf []) (xh []) (xv [(vi 6), (vi 7), (vi 8), (vi 9), (vi 10), (vi 11), (vi 12), (vi 13), (vi 14), (vi 15), (vi 16)]) (xl [(vl 0)]) kK kV H.size hp1 hp2) ⟨va_cnB 1 htg (xg_ok kw_586) rfl rfl rfl (hK.2.1 _ kn_1147) (htg _ kw_2) (by decide +kernel) ⟨by rw [hR]; exact Nat.le_of_ble_eq_true rfl, by rw [hR]; exact Nat.le_of_ble_eq_true rfl⟩, htg _ kw_585, htg _ ks_8⟩ (xpreVs hK hPc hDc hT hFc hS (va_recv hK.1 hPc (ci := 6) (q0 := 0) rfl rfl)) rfl rfl hl.1 rfl (lv_room (Nat.le_of_ble_eq_true rfl)) dX4_readDeed_295 ⟨by rw [hR]; exact Nat.le_of_ble_eq_true rfl, by rw [hR]; exact Nat.le_of_ble_eq_true rfl⟩) hS (fun q _ h => hFc q h) hFc (fun r9 u9 t H1 locs ht hvm hw hB hz1 hk1 hS => ?_)
              subst hw
              obtain ⟨fik_24, flk_24, vik_24, vlk_24, hP1, hD1, hG⟩ := hB
              rw [ht] at hP1
              obtain ⟨hP, hD⟩ := va_join (wr := [((a 0), .inr (4, [.ref (a 1), .ref (a 4), .ref (a 2), .ref (ex 0), .ref (ex 1), .int (vi 0), .int (vi 1), .int (vi 2), .int (vi 3), .int (vi 4), .int (vi 5)])), ((a 2), .inl (T 1, 40, .inl (fi 0))), ((a 3), .inl (T 0, 940, .inl (fi 1))), ((a 4), .inr (7, [.int (vi 17), .int (vi 18), .ref (a 5), .ref (ex 2), .ref (ex 3), .ref (ex 4), .ref (a 7), .ref (ex 5), .ref (ex 6), .ref (ex 7), .ref (ex 8), .ref (ex 9)])), ((a 5), .inl (T 2, 9, .inr (.inl (fl 0)))), ((a 6), .inl (T 2, 27, .inr (.inl (fl 1)))), ((a 7), .inl (T 2, 9, .inr (.inl (fl 2))))]) (w1 := [((a 1), .inr (6, [.ref (a 3), .ref (a 6), .int (vi 6), .int (vi 7), .int (vi 8), .int (vi 9), .int (vi 10), .int (vi 11), .long (vl 0), .int (vi 12), .int (vi 13), .int (vi 14), .int (vi 15), .int (vi 16)]))]) hP hD [7] [0, 1, 2, 3, 4, 5, 6] hC9 rfl (by decide) (by decide) hk1 hFc hP1 hD1
              obtain ⟨rk_24, er9⟩ : ∃ z, z = r9 := ⟨_, rfl⟩
              subst er9
              clear hPc hDc hFc hP1 hD1 hk1 hz1 hvm ht hC9
              generalize H1 = H at hP hS ⊢
              obtain ⟨hP, hD⟩ := (show xPD D A [((a 0), .inr (4, [.ref (a 1), .ref (a 4), .ref (a 2), .ref (ex 0), .ref (ex 1), .int (vi 0), .int (vi 1), .int (vi 2), .int (vi 3), .int (vi 4), .int (vi 5)])), ((a 2), .inl (T 1, 40, .inl (fi 0))), ((a 3), .inl (T 0, 940, .inl (fi 1))), ((a 4), .inr (7, [.int (vi 17), .int (vi 18), .ref (a 5), .ref (ex 2), .ref (ex 3), .ref (ex 4), .ref (a 7), .ref (ex 5), .ref (ex 6), .ref (ex 7), .ref (ex 8), .ref (ex 9)])), ((a 5), .inl (T 2, 9, .inr (.inl (fl 0)))), ((a 6), .inl (T 2, 27, .inr (.inl (fl 1)))), ((a 7), .inl (T 2, 9, .inr (.inl (fl 2)))), ((a 1), .inr (6, [.ref (a 3), .ref (a 6), .int (vi 6), .int (vi 7), .int (vi 8), .int (vi 9), .int (vi 10), .int (vi 11), .long (vl 0), .int (vi 12), .int (vi 13), .int (vi 14), .int (vi 15), .int (vi 16)]))] H from ⟨hP, hD⟩)
              obtain ⟨gk_24_0, -⟩ := hG
              rcases (show (rk_24 = 1 ∧ (True)) ∨ (rk_24 = 0 ∧ (True)) from gk_24_0) with ⟨er9, gk_24_0⟩ | ⟨er9, gk_24_0⟩
              · refine xz_i 1 er9 ?_
                refine lv_if_eq (tgt := 338) hx hb dX4_readDeed_298 (by decide) (fun c => absurd c (by decide)) (fun _ => ?_)
                refine lv_aload_n hx hb dX4_readDeed_301 rfl (lv_at hl 0 rfl) ?_
                refine lv_iconst (v := 5) hx hb dX4_readDeed_302 (by decide) ?_
                obtain ⟨hC9, hPc, hDc, hFc⟩ := xcut (wc := (pre_X4_setSort_8 T (xa [(a 0), (a 2)]) (xa [(a 1), (a 4), (ex 0), (ex 1)]) (xf [(fi 0)]) (xh []) (xv [(vi 0), (vi 1), (vi 2), (vi 3), (vi 4), (vi 5)]) (xl []))) hP hD hS hA [0, 1] (by decide) rfl
                refine va_calli (va_runV (As := [.int 5]) (rest := []) ⟨hx, hb, hml, hown, htg⟩ (c_X4_setSort_8 l D T (xa [(a 0), (a 2)]) (xa [(a 1), (a 4), (ex 0), (ex 1)]) (xf [(fi 0)]) (xh []) (xv [(vi 0), (vi 1), (vi 2), (vi 3), (vi 4), (vi 5)]) (xl []) H.size hp0 (by show (vi 0).toInt ≤ 39; first | omega | assumption)) ⟨callB_of 1 htg (xg_ok kw_1155) rfl rfl rfl (htg _ kw_11) (htg _ kw_1152) (by decide +kernel) ⟨by rw [hR]; exact Nat.le_of_ble_eq_true rfl, by rw [hR]; exact Nat.le_of_ble_eq_true rfl⟩, htg _ kw_1154, htg _ ks_97⟩ (xpreV hK hPc hDc (va_recv hK.1 hPc (ci := 4) (q0 := 0) rfl rfl)) rfl rfl hl.1 rfl (lv_room (Nat.le_of_ble_eq_true rfl)) dX4_readDeed_303 ⟨by rw [hR]; exact Nat.le_of_ble_eq_true rfl, by rw [hR]; exact Nat.le_of_ble_eq_true rfl⟩) hS (fun q _ h => hFc q h) hFc (fun r9 u9 t H1 locs ht hvm hw hB hz1 hk1 hS => ?_)
                subst hw
                obtain ⟨fik_25, flk_25, vik_25, vlk_25, hP1, hD1, hG⟩ := hB
                rw [ht] at hP1
                obtain ⟨hP, hD⟩ := va_join (wr := [((a 3), .inl (T 0, 940, .inl (fi 1))), ((a 4), .inr (7, [.int (vi 17), .int (vi 18), .ref (a 5), .ref (ex 2), .ref (ex 3), .ref (ex 4), .ref (a 7), .ref (ex 5), .ref (ex 6), .ref (ex 7), .ref (ex 8), .ref (ex 9)])), ((a 5), .inl (T 2, 9, .inr (.inl (fl 0)))), ((a 6), .inl (T 2, 27, .inr (.inl (fl 1)))), ((a 7), .inl (T 2, 9, .inr (.inl (fl 2)))), ((a 1), .inr (6, [.ref (a 3), .ref (a 6), .int (vi 6), .int (vi 7), .int (vi 8), .int (vi 9), .int (vi 10), .int (vi 11), .long (vl 0), .int (vi 12), .int (vi 13), .int (vi 14), .int (vi 15), .int (vi 16)]))]) (w1 := [((a 0), .inr (4, [.ref (a 1), .ref (a 4), .ref (a 2), .ref (ex 0), .ref (ex 1), .int (vi 0), .int (vi 1), .int (vi 2), .int (vi 3), .int (vi 4), .int (vi 5)])), ((a 2), .inl (T 1, 40, .inl (fik_25 0)))]) hP hD [0, 1] [2, 3, 4, 5, 6, 7] hC9 rfl (by decide) (by decide) hk1 hFc hP1 hD1
                obtain ⟨rk_25, er9⟩ : ∃ z, z = r9 := ⟨_, rfl⟩
                subst er9
                clear hPc hDc hFc hP1 hD1 hk1 hz1 hvm ht hC9
                generalize H1 = H at hP hS ⊢
                obtain ⟨hP, hD⟩ := (show xPD D A [((a 3), .inl (T 0, 940, .inl (fi 1))), ((a 4), .inr (7, [.int (vi 17), .int (vi 18), .ref (a 5), .ref (ex 2), .ref (ex 3), .ref (ex 4), .ref (a 7), .ref (ex 5), .ref (ex 6), .ref (ex 7), .ref (ex 8), .ref (ex 9)])), ((a 5), .inl (T 2, 9, .inr (.inl (fl 0)))), ((a 6), .inl (T 2, 27, .inr (.inl (fl 1)))), ((a 7), .inl (T 2, 9, .inr (.inl (fl 2)))), ((a 1), .inr (6, [.ref (a 3), .ref (a 6), .int (vi 6), .int (vi 7), .int (vi 8), .int (vi 9), .int (vi 10), .int (vi 11), .long (vl 0), .int (vi 12), .int (vi 13), .int (vi 14), .int (vi 15), .int (vi 16)])), ((a 0), .inr (4, [.ref (a 1), .ref (a 4), .ref (a 2), .ref (ex 0), .ref (ex 1), .int (vi 0), .int (vi 1), .int (vi 2), .int (vi 3), .int (vi 4), .int (vi 5)])), ((a 2), .inl (T 1, 40, .inl (fik_25 0)))] H from ⟨hP, hD⟩)
                obtain ⟨gk_25_0, gk_25_1, gk_25_2, -⟩ := hG
                replace gk_25_1 : ∀ j : Nat, ¬ j = ((vi 0)).toNatClampNeg → (fik_25 0) j = (fi 0) j := gk_25_1
                replace gk_25_2 : ((fik_25 0) ((vi 0)).toNatClampNeg).toInt = (5 : Int32).toInt := gk_25_2
                replace gk_25_0 : rk_25 = 1 := gk_25_0
                refine xz_i 1 gk_25_0 ?_
                refine lv_if_eq (tgt := 336) hx hb dX4_readDeed_306 (by decide) (fun c => absurd c (by decide)) (fun _ => ?_)
                refine lv_aload_n hx hb dX4_readDeed_309 rfl (lv_at hl 0 rfl) ?_
                refine va_get (D := D) (ci := 4) (v := .ref (a 1)) (C := RX4) (T := TX4) (N := 11) hx hb htg inX4 hown hK.1 hP 6 rfl rfl 0 (by decide) (htg _ kw_339) (fun _ h9 => h9) rfl dX4_readDeed_310 ?_
                obtain ⟨hC9, hPc, hDc, hFc⟩ := xcut (wc := (pre_X6_pass T (xa [(a 1), (a 3)]) (xa [(a 6)]) (xf [(fi 1)]) (xh []) (xv [(vi 6), (vi 7), (vi 8), (vi 9), (vi 10), (vi 11), (vi 12), (vi 13), (vi 14), (vi 15), (vi 16)]) (xl [(vl 0)]))) hP hD hS hA [5, 0] (by decide) rfl
                refine va_calli (va_runVN (As := []) (rest := []) ⟨hx, hb, hml, hown, htg⟩ (c_X6_pass l D T (xa [(a 1), (a 3)]) (xa [(a 6)]) (xf [(fi 1)]) (xh []) (xv [(vi 6), (vi 7), (vi 8), (vi 9), (vi 10), (vi 11), (vi 12), (vi 13), (vi 14), (vi 15), (vi 16)]) (xl [(vl 0)]) H.size hp1 hp2) ⟨va_cnB 0 htg (xg_ok kw_618) rfl rfl rfl (hK.2.1 _ kn_1162) (htg _ kw_2) (by decide +kernel) ⟨by rw [hR]; exact Nat.le_of_ble_eq_true rfl, by rw [hR]; exact Nat.le_of_ble_eq_true rfl⟩, htg _ kw_617, htg _ ks_15⟩ (xpreV hK hPc hDc (va_recv hK.1 hPc (ci := 6) (q0 := 0) rfl rfl)) rfl rfl hl.1 rfl (lv_room (Nat.le_of_ble_eq_true rfl)) dX4_readDeed_313 ⟨by rw [hR]; exact Nat.le_of_ble_eq_true rfl, by rw [hR]; exact Nat.le_of_ble_eq_true rfl⟩) hS (fun q _ h => hFc q h) hFc (fun r9 u9 t H1 locs ht hvm hw hB hz1 hk1 hS => ?_)
                subst hw
                obtain ⟨fik_26, flk_26, vik_26, vlk_26, hP1, hD1, hG⟩ := hB
                rw [ht] at hP1
                obtain ⟨hP, hD⟩ := va_join (wr := [((a 4), .inr (7, [.int (vi 17), .int (vi 18), .ref (a 5), .ref (ex 2), .ref (ex 3), .ref (ex 4), .ref (a 7), .ref (ex 5), .ref (ex 6), .ref (ex 7), .ref (ex 8), .ref (ex 9)])), ((a 5), .inl (T 2, 9, .inr (.inl (fl 0)))), ((a 6), .inl (T 2, 27, .inr (.inl (fl 1)))), ((a 7), .inl (T 2, 9, .inr (.inl (fl 2)))), ((a 0), .inr (4, [.ref (a 1), .ref (a 4), .ref (a 2), .ref (ex 0), .ref (ex 1), .int (vi 0), .int (vi 1), .int (vi 2), .int (vi 3), .int (vi 4), .int (vi 5)])), ((a 2), .inl (T 1, 40, .inl (fik_25 0)))]) (w1 := [((a 1), .inr (6, [.ref (a 3), .ref (a 6), .int (vi 6), .int (vi 7), .int (vi 8), .int (vik_26 4), .int (vik_26 0), .int (vik_26 1), .long (vlk_26 0), .int (vik_26 3), .int (vik_26 2), .int (vi 14), .int (vi 15), .int (vi 16)])), ((a 3), .inl (T 0, 940, .inl (fi 1)))]) hP hD [5, 0] [1, 2, 3, 4, 6, 7] hC9 rfl (by decide) (by decide) hk1 hFc hP1 hD1
                obtain ⟨rk_26, er9⟩ : ∃ z, z = r9 := ⟨_, rfl⟩
                subst er9
                clear hPc hDc hFc hP1 hD1 hk1 hz1 hvm ht hC9
                generalize H1 = H at hP hS ⊢
                obtain ⟨hP, hD⟩ := (show xPD D A [((a 4), .inr (7, [.int (vi 17), .int (vi 18), .ref (a 5), .ref (ex 2), .ref (ex 3), .ref (ex 4), .ref (a 7), .ref (ex 5), .ref (ex 6), .ref (ex 7), .ref (ex 8), .ref (ex 9)])), ((a 5), .inl (T 2, 9, .inr (.inl (fl 0)))), ((a 6), .inl (T 2, 27, .inr (.inl (fl 1)))), ((a 7), .inl (T 2, 9, .inr (.inl (fl 2)))), ((a 0), .inr (4, [.ref (a 1), .ref (a 4), .ref (a 2), .ref (ex 0), .ref (ex 1), .int (vi 0), .int (vi 1), .int (vi 2), .int (vi 3), .int (vi 4), .int (vi 5)])), ((a 2), .inl (T 1, 40, .inl (fik_25 0))), ((a 1), .inr (6, [.ref (a 3), .ref (a 6), .int (vi 6), .int (vi 7), .int (vi 8), .int (vik_26 4), .int (vik_26 0), .int (vik_26 1), .long (vlk_26 0), .int (vik_26 3), .int (vik_26 2), .int (vi 14), .int (vi 15), .int (vi 16)])), ((a 3), .inl (T 0, 940, .inl (fi 1)))] H from ⟨hP, hD⟩)
                obtain ⟨gk_26_0, gk_26_1, -⟩ := hG
                replace gk_26_1 : 0 ≤ (vik_26 4).toInt ∧ (vik_26 4).toInt ≤ 940 := gk_26_1
                replace gk_26_0 : rk_26 = 1 := gk_26_0
                refine xz_i 1 gk_26_0 ?_
                refine lv_if_eq (tgt := 336) hx hb dX4_readDeed_316 (by decide) (fun c => absurd c (by decide)) (fun _ => ?_)
                refine lv_aload_n hx hb dX4_readDeed_319 rfl (lv_at hl 0 rfl) ?_
                refine va_get (D := D) (ci := 4) (v := .ref (a 1)) (C := RX4) (T := TX4) (N := 11) hx hb htg inX4 hown hK.1 hP 4 rfl rfl 0 (by decide) (htg _ kw_339) (fun _ h9 => h9) rfl dX4_readDeed_320 ?_
                refine lv_iconst (v := 1) hx hb dX4_readDeed_323 (by decide) ?_
                refine lv_bipush (v := 99) hx hb dX4_readDeed_324 (by decide) ?_
                obtain ⟨hC9, hPc, hDc, hFc⟩ := xcut (wc := (pre_X6_passNumber T (xa [(a 1), (a 3)]) (xa [(a 6)]) (xf [(fi 1)]) (xh []) (xv [1, 99, (vi 6), (vi 7), (vi 8), (vik_26 4), (vik_26 0), (vik_26 1), (vik_26 3), (vik_26 2), (vi 14), (vi 15), (vi 16)]) (xl [(vlk_26 0)]))) hP hD hS hA [6, 7] (by decide) rfl
                refine va_calli (va_runVN (As := [.int 1, .int 99]) (rest := []) ⟨hx, hb, hml, hown, htg⟩ (c_X6_passNumber l D T (xa [(a 1), (a 3)]) (xa [(a 6)]) (xf [(fi 1)]) (xh []) (xv [1, 99, (vi 6), (vi 7), (vi 8), (vik_26 4), (vik_26 0), (vik_26 1), (vik_26 3), (vik_26 2), (vi 14), (vi 15), (vi 16)]) (xl [(vlk_26 0)]) H.size hp1 gk_26_1) ⟨va_cnB 2 htg (xg_ok kw_622) rfl rfl rfl (hK.2.1 _ kn_1156) (htg _ kw_2) (by decide +kernel) ⟨by rw [hR]; exact Nat.le_of_ble_eq_true rfl, by rw [hR]; exact Nat.le_of_ble_eq_true rfl⟩, htg _ kw_621, htg _ ks_16⟩ (xpreV hK hPc hDc (va_recv hK.1 hPc (ci := 6) (q0 := 0) rfl rfl)) rfl rfl hl.1 rfl (lv_room (Nat.le_of_ble_eq_true rfl)) dX4_readDeed_326 ⟨by rw [hR]; exact Nat.le_of_ble_eq_true rfl, by rw [hR]; exact Nat.le_of_ble_eq_true rfl⟩) hS (fun q _ h => hFc q h) hFc (fun r9 u9 t H1 locs ht hvm hw hB hz1 hk1 hS => ?_)
                subst hw
                obtain ⟨fik_27, flk_27, vik_27, vlk_27, hP1, hD1, hG⟩ := hB
                rw [ht] at hP1
                obtain ⟨hP, hD⟩ := va_join (wr := [((a 4), .inr (7, [.int (vi 17), .int (vi 18), .ref (a 5), .ref (ex 2), .ref (ex 3), .ref (ex 4), .ref (a 7), .ref (ex 5), .ref (ex 6), .ref (ex 7), .ref (ex 8), .ref (ex 9)])), ((a 5), .inl (T 2, 9, .inr (.inl (fl 0)))), ((a 6), .inl (T 2, 27, .inr (.inl (fl 1)))), ((a 7), .inl (T 2, 9, .inr (.inl (fl 2)))), ((a 0), .inr (4, [.ref (a 1), .ref (a 4), .ref (a 2), .ref (ex 0), .ref (ex 1), .int (vi 0), .int (vi 1), .int (vi 2), .int (vi 3), .int (vi 4), .int (vi 5)])), ((a 2), .inl (T 1, 40, .inl (fik_25 0)))]) (w1 := [((a 1), .inr (6, [.ref (a 3), .ref (a 6), .int (vi 6), .int (vi 7), .int (vi 8), .int (vik_27 7), .int (vik_27 3), .int (vik_27 4), .long (vlk_27 0), .int (vik_27 6), .int (vik_27 5), .int (vik_27 2), .int (vik_27 0), .int (vik_27 1)])), ((a 3), .inl (T 0, 940, .inl (fi 1)))]) hP hD [6, 7] [0, 1, 2, 3, 4, 5] hC9 rfl (by decide) (by decide) hk1 hFc hP1 hD1
                obtain ⟨rk_27, er9⟩ : ∃ z, z = r9 := ⟨_, rfl⟩
                subst er9
                clear hPc hDc hFc hP1 hD1 hk1 hz1 hvm ht hC9
                generalize H1 = H at hP hS ⊢
                obtain ⟨hP, hD⟩ := (show xPD D A [((a 4), .inr (7, [.int (vi 17), .int (vi 18), .ref (a 5), .ref (ex 2), .ref (ex 3), .ref (ex 4), .ref (a 7), .ref (ex 5), .ref (ex 6), .ref (ex 7), .ref (ex 8), .ref (ex 9)])), ((a 5), .inl (T 2, 9, .inr (.inl (fl 0)))), ((a 6), .inl (T 2, 27, .inr (.inl (fl 1)))), ((a 7), .inl (T 2, 9, .inr (.inl (fl 2)))), ((a 0), .inr (4, [.ref (a 1), .ref (a 4), .ref (a 2), .ref (ex 0), .ref (ex 1), .int (vi 0), .int (vi 1), .int (vi 2), .int (vi 3), .int (vi 4), .int (vi 5)])), ((a 2), .inl (T 1, 40, .inl (fik_25 0))), ((a 1), .inr (6, [.ref (a 3), .ref (a 6), .int (vi 6), .int (vi 7), .int (vi 8), .int (vik_27 7), .int (vik_27 3), .int (vik_27 4), .long (vlk_27 0), .int (vik_27 6), .int (vik_27 5), .int (vik_27 2), .int (vik_27 0), .int (vik_27 1)])), ((a 3), .inl (T 0, 940, .inl (fi 1)))] H from ⟨hP, hD⟩)
                obtain ⟨gk_27_0, gk_27_1, -⟩ := hG
                replace gk_27_1 : 0 ≤ (vik_27 7).toInt ∧ (vik_27 7).toInt ≤ 940 := gk_27_1
                rcases (show (rk_27 = 1 ∧ (True)) ∨ (rk_27 = 0 ∧ (True)) from gk_27_0) with ⟨er9, gk_27_0⟩ | ⟨er9, gk_27_0⟩
                · refine xz_i 1 er9 ?_
                  refine lv_if_eq (tgt := 336) hx hb dX4_readDeed_329 (by decide) (fun c => absurd c (by decide)) (fun _ => ?_)
                  refine lv_iconst (v := 1) hx hb dX4_readDeed_332 (by decide) ?_
                  refine lv_goto (tgt := 337) hx hb dX4_readDeed_333 (by decide) ?_
                  have hP9 := hP.sub (ws' := [((a 0), .inr (4, [.ref (a 1), .ref (a 4), .ref (a 2), .ref (ex 0), .ref (ex 1), .int (vi 0), .int (vi 1), .int (vi 2), .int (vi 3), .int (vi 4), .int (vi 5)])), ((a 1), .inr (6, [.ref (a 3), .ref (a 6), .int (vi 6), .int (vi 7), .int (vi 8), .int (vik_27 7), .int (vik_27 3), .int (vik_27 4), .long (vlk_27 0), .int (vik_27 6), .int (vik_27 5), .int (vik_27 2), .int (vik_27 0), .int (vik_27 1)])), ((a 2), .inl (T 1, 40, .inl (fik_25 0))), ((a 3), .inl (T 0, 940, .inl (fi 1))), ((a 4), .inr (7, [.int (vi 17), .int (vi 18), .ref (a 5), .ref (ex 2), .ref (ex 3), .ref (ex 4), .ref (a 7), .ref (ex 5), .ref (ex 6), .ref (ex 7), .ref (ex 8), .ref (ex 9)])), ((a 5), .inl (T 2, 9, .inr (.inl (fl 0)))), ((a 6), .inl (T 2, 27, .inr (.inl (fl 1)))), ((a 7), .inl (T 2, 9, .inr (.inl (fl 2))))]) [4, 6, 5, 7, 0, 1, 2, 3] rfl
                  have hD9 := hD.sub (ws' := [((a 0), .inr (4, [.ref (a 1), .ref (a 4), .ref (a 2), .ref (ex 0), .ref (ex 1), .int (vi 0), .int (vi 1), .int (vi 2), .int (vi 3), .int (vi 4), .int (vi 5)])), ((a 1), .inr (6, [.ref (a 3), .ref (a 6), .int (vi 6), .int (vi 7), .int (vi 8), .int (vik_27 7), .int (vik_27 3), .int (vik_27 4), .long (vlk_27 0), .int (vik_27 6), .int (vik_27 5), .int (vik_27 2), .int (vik_27 0), .int (vik_27 1)])), ((a 2), .inl (T 1, 40, .inl (fik_25 0))), ((a 3), .inl (T 0, 940, .inl (fi 1))), ((a 4), .inr (7, [.int (vi 17), .int (vi 18), .ref (a 5), .ref (ex 2), .ref (ex 3), .ref (ex 4), .ref (a 7), .ref (ex 5), .ref (ex 6), .ref (ex 7), .ref (ex 8), .ref (ex 9)])), ((a 5), .inl (T 2, 9, .inr (.inl (fl 0)))), ((a 6), .inl (T 2, 27, .inr (.inl (fl 1)))), ((a 7), .inl (T 2, 9, .inr (.inl (fl 2))))]) [4, 6, 5, 7, 0, 1, 2, 3] (by decide +kernel) rfl
                  rw [hQ]
                  exact W.zret (v := 1) hx hb hr rfl (fun t ht hW => ⟨⟨1, 1, rfl, rfl, xf [(fik_25 0)], xh [], xv [(vik_27 3), (vik_27 4), (vik_27 5), (vik_27 6), (vik_27 7), (vik_27 2), (vik_27 0), (vik_27 1)], xl [(vlk_27 0)], by rw [ht]; exact hP9, hD9, ⟨(Or.inl ⟨rfl, by show 0 ≤ ((fik_25 0) ((vi 0)).toNatClampNeg).toInt ∧ ((fik_25 0) ((vi 0)).toNatClampNeg).toInt ≤ 7 ∧ ¬ ((fik_25 0) ((vi 0)).toNatClampNeg).toInt = 6 ∧ (3 ≤ ((fik_25 0) ((vi 0)).toNatClampNeg).toInt ∨ 0 ≤ (vik_27 2).toInt ∧ (vik_27 2).toInt ≤ 8); have q8_0 : (0 : Int32).toInt = 0 := (by decide); have q8_1 : (1 : Int32).toInt = 1 := (by decide); have q8_2 : (2 : Int32).toInt = 2 := (by decide); have q8_3 : (3 : Int32).toInt = 3 := (by decide); have q8_4 : (4 : Int32).toInt = 4 := (by decide); have q8_5 : (5 : Int32).toInt = 5 := (by decide); have q8_6 : (6 : Int32).toInt = 6 := (by decide); have q8_7 : (7 : Int32).toInt = 7 := (by decide); omega⟩), gk_27_1, (by show ∀ j : Nat, ¬ j = ((vi 0)).toNatClampNeg → (fik_25 0) j = (fi 0) j; first | assumption | exact fun j _ => rfl), trivial⟩⟩, hS.F ht⟩) hS.2.2 dX4_readDeed_337
                · refine xz_i 0 er9 ?_
                  refine lv_if_eq (tgt := 336) hx hb dX4_readDeed_329 (by decide) (fun _ => ?_) (fun c => absurd (by decide) c)
                  refine lv_iconst (v := 0) hx hb dX4_readDeed_336 (by decide) ?_
                  have hP9 := hP.sub (ws' := [((a 0), .inr (4, [.ref (a 1), .ref (a 4), .ref (a 2), .ref (ex 0), .ref (ex 1), .int (vi 0), .int (vi 1), .int (vi 2), .int (vi 3), .int (vi 4), .int (vi 5)])), ((a 1), .inr (6, [.ref (a 3), .ref (a 6), .int (vi 6), .int (vi 7), .int (vi 8), .int (vik_27 7), .int (vik_27 3), .int (vik_27 4), .long (vlk_27 0), .int (vik_27 6), .int (vik_27 5), .int (vik_27 2), .int (vik_27 0), .int (vik_27 1)])), ((a 2), .inl (T 1, 40, .inl (fik_25 0))), ((a 3), .inl (T 0, 940, .inl (fi 1))), ((a 4), .inr (7, [.int (vi 17), .int (vi 18), .ref (a 5), .ref (ex 2), .ref (ex 3), .ref (ex 4), .ref (a 7), .ref (ex 5), .ref (ex 6), .ref (ex 7), .ref (ex 8), .ref (ex 9)])), ((a 5), .inl (T 2, 9, .inr (.inl (fl 0)))), ((a 6), .inl (T 2, 27, .inr (.inl (fl 1)))), ((a 7), .inl (T 2, 9, .inr (.inl (fl 2))))]) [4, 6, 5, 7, 0, 1, 2, 3] rfl
                  have hD9 := hD.sub (ws' := [((a 0), .inr (4, [.ref (a 1), .ref (a 4), .ref (a 2), .ref (ex 0), .ref (ex 1), .int (vi 0), .int (vi 1), .int (vi 2), .int (vi 3), .int (vi 4), .int (vi 5)])), ((a 1), .inr (6, [.ref (a 3), .ref (a 6), .int (vi 6), .int (vi 7), .int (vi 8), .int (vik_27 7), .int (vik_27 3), .int (vik_27 4), .long (vlk_27 0), .int (vik_27 6), .int (vik_27 5), .int (vik_27 2), .int (vik_27 0), .int (vik_27 1)])), ((a 2), .inl (T 1, 40, .inl (fik_25 0))), ((a 3), .inl (T 0, 940, .inl (fi 1))), ((a 4), .inr (7, [.int (vi 17), .int (vi 18), .ref (a 5), .ref (ex 2), .ref (ex 3), .ref (ex 4), .ref (a 7), .ref (ex 5), .ref (ex 6), .ref (ex 7), .ref (ex 8), .ref (ex 9)])), ((a 5), .inl (T 2, 9, .inr (.inl (fl 0)))), ((a 6), .inl (T 2, 27, .inr (.inl (fl 1)))), ((a 7), .inl (T 2, 9, .inr (.inl (fl 2))))]) [4, 6, 5, 7, 0, 1, 2, 3] (by decide +kernel) rfl
                  rw [hQ]
                  exact W.zret (v := 0) hx hb hr rfl (fun t ht hW => ⟨⟨0, 0, rfl, rfl, xf [(fik_25 0)], xh [], xv [(vik_27 3), (vik_27 4), (vik_27 5), (vik_27 6), (vik_27 7), (vik_27 2), (vik_27 0), (vik_27 1)], xl [(vlk_27 0)], by rw [ht]; exact hP9, hD9, ⟨(Or.inr ⟨rfl, by show True; first | trivial | omega | assumption⟩), gk_27_1, (by show ∀ j : Nat, ¬ j = ((vi 0)).toNatClampNeg → (fik_25 0) j = (fi 0) j; first | assumption | exact fun j _ => rfl), trivial⟩⟩, hS.F ht⟩) hS.2.2 dX4_readDeed_337
              · refine xz_i 0 er9 ?_
                refine lv_if_eq (tgt := 338) hx hb dX4_readDeed_298 (by decide) (fun _ => ?_) (fun c => absurd (by decide) c)
                refine lv_aload_n hx hb dX4_readDeed_338 rfl (lv_at hl 0 rfl) ?_
                refine va_get (D := D) (ci := 4) (v := .ref (a 1)) (C := RX4) (T := TX4) (N := 11) hx hb htg inX4 hown hK.1 hP 0 rfl rfl 0 (by decide) (htg _ kw_339) (fun _ h9 => h9) rfl dX4_readDeed_339 ?_
                refine lv_iconst (v := 1) hx hb dX4_readDeed_342 (by decide) ?_
                obtain ⟨hC9, hPc, hDc, hFc⟩ := xcut (wc := (pre_X6_refuse T (xa [(a 1)]) (xa [(a 3), (a 6)]) (xf []) (xh []) (xv [1, (vi 6), (vi 7), (vi 8), (vi 9), (vi 10), (vi 11), (vi 12), (vi 13), (vi 14), (vi 15), (vi 16)]) (xl [(vl 0)]))) hP hD hS hA [7] (by decide) rfl
                refine va_calli (va_runVN (As := [.int 1]) (rest := []) ⟨hx, hb, hml, hown, htg⟩ (c_X6_refuse l D T (xa [(a 1)]) (xa [(a 3), (a 6)]) (xf []) (xh []) (xv [1, (vi 6), (vi 7), (vi 8), (vi 9), (vi 10), (vi 11), (vi 12), (vi 13), (vi 14), (vi 15), (vi 16)]) (xl [(vl 0)]) H.size hp1 hp2) ⟨va_cnB 1 htg (xg_ok kw_594) rfl rfl rfl (hK.2.1 _ kn_1150) (htg _ kw_2) (by decide +kernel) ⟨by rw [hR]; exact Nat.le_of_ble_eq_true rfl, by rw [hR]; exact Nat.le_of_ble_eq_true rfl⟩, htg _ kw_593, htg _ ks_10⟩ (xpreV hK hPc hDc (va_recv hK.1 hPc (ci := 6) (q0 := 0) rfl rfl)) rfl rfl hl.1 rfl (lv_room (Nat.le_of_ble_eq_true rfl)) dX4_readDeed_343 ⟨by rw [hR]; exact Nat.le_of_ble_eq_true rfl, by rw [hR]; exact Nat.le_of_ble_eq_true rfl⟩) hS (fun q _ h => hFc q h) hFc (fun r9 u9 t H1 locs ht hvm hw hB hz1 hk1 hS => ?_)
                subst hw
                obtain ⟨fik_28, flk_28, vik_28, vlk_28, hP1, hD1, hG⟩ := hB
                rw [ht] at hP1
                obtain ⟨hP, hD⟩ := va_join (wr := [((a 0), .inr (4, [.ref (a 1), .ref (a 4), .ref (a 2), .ref (ex 0), .ref (ex 1), .int (vi 0), .int (vi 1), .int (vi 2), .int (vi 3), .int (vi 4), .int (vi 5)])), ((a 2), .inl (T 1, 40, .inl (fi 0))), ((a 3), .inl (T 0, 940, .inl (fi 1))), ((a 4), .inr (7, [.int (vi 17), .int (vi 18), .ref (a 5), .ref (ex 2), .ref (ex 3), .ref (ex 4), .ref (a 7), .ref (ex 5), .ref (ex 6), .ref (ex 7), .ref (ex 8), .ref (ex 9)])), ((a 5), .inl (T 2, 9, .inr (.inl (fl 0)))), ((a 6), .inl (T 2, 27, .inr (.inl (fl 1)))), ((a 7), .inl (T 2, 9, .inr (.inl (fl 2))))]) (w1 := [((a 1), .inr (6, [.ref (a 3), .ref (a 6), .int (vi 6), .int (vi 7), .int (vi 8), .int (vi 9), .int (vi 10), .int (vi 11), .long (vl 0), .int (vi 12), .int (vi 13), .int (vi 14), .int (vik_28 0), .int (vik_28 1)]))]) hP hD [7] [0, 1, 2, 3, 4, 5, 6] hC9 rfl (by decide) (by decide) hk1 hFc hP1 hD1
                obtain ⟨rk_28, er9⟩ : ∃ z, z = r9 := ⟨_, rfl⟩
                subst er9
                clear hPc hDc hFc hP1 hD1 hk1 hz1 hvm ht hC9
                generalize H1 = H at hP hS ⊢
                obtain ⟨hP, hD⟩ := (show xPD D A [((a 0), .inr (4, [.ref (a 1), .ref (a 4), .ref (a 2), .ref (ex 0), .ref (ex 1), .int (vi 0), .int (vi 1), .int (vi 2), .int (vi 3), .int (vi 4), .int (vi 5)])), ((a 2), .inl (T 1, 40, .inl (fi 0))), ((a 3), .inl (T 0, 940, .inl (fi 1))), ((a 4), .inr (7, [.int (vi 17), .int (vi 18), .ref (a 5), .ref (ex 2), .ref (ex 3), .ref (ex 4), .ref (a 7), .ref (ex 5), .ref (ex 6), .ref (ex 7), .ref (ex 8), .ref (ex 9)])), ((a 5), .inl (T 2, 9, .inr (.inl (fl 0)))), ((a 6), .inl (T 2, 27, .inr (.inl (fl 1)))), ((a 7), .inl (T 2, 9, .inr (.inl (fl 2)))), ((a 1), .inr (6, [.ref (a 3), .ref (a 6), .int (vi 6), .int (vi 7), .int (vi 8), .int (vi 9), .int (vi 10), .int (vi 11), .long (vl 0), .int (vi 12), .int (vi 13), .int (vi 14), .int (vik_28 0), .int (vik_28 1)]))] H from ⟨hP, hD⟩)
                obtain ⟨gk_28_0, -⟩ := hG
                replace gk_28_0 : rk_28 = 0 := gk_28_0
                refine xz_i 0 gk_28_0 ?_
                have hP9 := hP.sub (ws' := [((a 0), .inr (4, [.ref (a 1), .ref (a 4), .ref (a 2), .ref (ex 0), .ref (ex 1), .int (vi 0), .int (vi 1), .int (vi 2), .int (vi 3), .int (vi 4), .int (vi 5)])), ((a 1), .inr (6, [.ref (a 3), .ref (a 6), .int (vi 6), .int (vi 7), .int (vi 8), .int (vi 9), .int (vi 10), .int (vi 11), .long (vl 0), .int (vi 12), .int (vi 13), .int (vi 14), .int (vik_28 0), .int (vik_28 1)])), ((a 2), .inl (T 1, 40, .inl (fi 0))), ((a 3), .inl (T 0, 940, .inl (fi 1))), ((a 4), .inr (7, [.int (vi 17), .int (vi 18), .ref (a 5), .ref (ex 2), .ref (ex 3), .ref (ex 4), .ref (a 7), .ref (ex 5), .ref (ex 6), .ref (ex 7), .ref (ex 8), .ref (ex 9)])), ((a 5), .inl (T 2, 9, .inr (.inl (fl 0)))), ((a 6), .inl (T 2, 27, .inr (.inl (fl 1)))), ((a 7), .inl (T 2, 9, .inr (.inl (fl 2))))]) [0, 7, 1, 2, 3, 4, 5, 6] rfl
                have hD9 := hD.sub (ws' := [((a 0), .inr (4, [.ref (a 1), .ref (a 4), .ref (a 2), .ref (ex 0), .ref (ex 1), .int (vi 0), .int (vi 1), .int (vi 2), .int (vi 3), .int (vi 4), .int (vi 5)])), ((a 1), .inr (6, [.ref (a 3), .ref (a 6), .int (vi 6), .int (vi 7), .int (vi 8), .int (vi 9), .int (vi 10), .int (vi 11), .long (vl 0), .int (vi 12), .int (vi 13), .int (vi 14), .int (vik_28 0), .int (vik_28 1)])), ((a 2), .inl (T 1, 40, .inl (fi 0))), ((a 3), .inl (T 0, 940, .inl (fi 1))), ((a 4), .inr (7, [.int (vi 17), .int (vi 18), .ref (a 5), .ref (ex 2), .ref (ex 3), .ref (ex 4), .ref (a 7), .ref (ex 5), .ref (ex 6), .ref (ex 7), .ref (ex 8), .ref (ex 9)])), ((a 5), .inl (T 2, 9, .inr (.inl (fl 0)))), ((a 6), .inl (T 2, 27, .inr (.inl (fl 1)))), ((a 7), .inl (T 2, 9, .inr (.inl (fl 2))))]) [0, 7, 1, 2, 3, 4, 5, 6] (by decide +kernel) rfl
                rw [hQ]
                exact W.zret (v := 0) hx hb hr rfl (fun t ht hW => ⟨⟨0, 0, rfl, rfl, xf [(fi 0)], xh [], xv [(vi 10), (vi 11), (vi 13), (vi 12), (vi 9), (vi 14), (vik_28 0), (vik_28 1)], xl [(vl 0)], by rw [ht]; exact hP9, hD9, ⟨(Or.inr ⟨rfl, by show True; first | trivial | omega | assumption⟩), hp2, (by show ∀ j : Nat, ¬ j = ((vi 0)).toNatClampNeg → (fi 0) j = (fi 0) j; first | assumption | exact fun j _ => rfl), trivial⟩⟩, hS.F ht⟩) hS.2.2 dX4_readDeed_346
