abbrev pre_J1_charAt_3b067_28 (T : Nat → ClassId) (a ex : Nat → Nat) (fi : Nat → Nat → Int32) (fl : Nat → Nat → Int64) (vi : Nat → Int32) (vl : Nat → Int64) : va_W := []
set_option maxHeartbeats 8000000 in
set_option maxRecDepth 100000 in
theorem c_J1_charAt_3b067_28 (l : Launch) (D : va_G) (T : Nat → ClassId) (a ex : Nat → Nat) (fi : Nat → Nat → Int32) (fl : Nat → Nat → Int64) (vi : Nat → Int32) (vl : Nat → Int64) (kK kV : Nat → Nat) (sz : Nat) (hp0 : 0 ≤ (vi 0).toInt ∧ (vi 0).toInt ≤ 2) : Met l yJ1_charAt_3b067 (xw yJ1_charAt_3b067 cJ1_charAt_3b067 2 (some .char)) ({ frames := 2, cells := 0, slots := 0, locals := 51 }) (xPs D T kK kV [.ref (kV 10), .int (vi 0)] sz (pre_J1_charAt_3b067_28 T a ex fi fl vi vl)) (va_Qi (fun r u => r = u) (xC D (va_A (pre_J1_charAt_3b067_28 T a ex fi fl vi vl) sz) (fun fj fm vj vm => []) (fun (r : Int32) (fj : Nat → Nat → Int32) (fm : Nat → Nat → Int64) (vj : Nat → Int32) (vm : Nat → Int64) => narrow .char (.int r) = .int r ∧ R_J1_charAt_3b067_28 fi fl vi vl r fj fm vj vm ∧ True)) (va_A (pre_J1_charAt_3b067_28 T a ex fi fl vi vl) sz)) 0 0 (va_A (pre_J1_charAt_3b067_28 T a ex fi fl vi vl) sz) := by
  refine xofW (cc := cJ1_charAt_3b067) (maxL := 2) (ret := (some .char)) (by decide) rfl ?_
  intro p e s m args below meth c s₁ R Q hR hQ B hml hv
  obtain ⟨rfl, hsz, hP, hK, hD0, hT⟩ := hv
  have hx := B.exec
  have hb := B.bytes
  have hr := B.returns
  have hts := atoms_spec (ws := xw yJ1_charAt_3b067 cJ1_charAt_3b067 2 (some .char)) B.pre
  have htg : ∀ w ∈ xg, w.before _ s = true := fun w h => hts w (List.mem_cons_of_mem _ h)
  have hown : s.vm.findClass RJ1 = some m.cls := findClass_of_methodNamed B.named
  have hlocks := B.notSynchronized
  subst hsz
  have hD := hD0.self (sz := s.heap.size)
  generalize hAe : va_A (pre_J1_charAt_3b067_28 T a ex fi fl vi vl) s.heap.size = A at hD hQ hT
  have hA : ∀ q : Nat, s.heap.size ≤ q → A q := fun q h => by rw [← hAe]; exact Or.inr h
  have hS : va_S A s.heap s.heap [] := va_S.rf
  replace hP : va_P D vwCl [] s.heap := hP
  replace hD : va_D A [] := hD
  have hl := lv_entry ([.ref (kV 10), .int (vi 0)]) (n := 2) (Nat.le_of_ble_eq_true rfl)
  rw [lg_entry_eq]
  generalize (lg_sl ([.ref (kV 10), .int (vi 0)]) ++ List.replicate (2 - (lg_sl ([.ref (kV 10), .int (vi 0)])).length) Slot.unset).toArray = ls at hl ⊢
  replace hl : lv_has ls 2 [(0, .ref (kV 10)), (1, .int (vi 0))] := hl
  refine lv_iload_n hx hb dJ1_charAt_3b067_0 rfl (lv_at hl 1 rfl) ?_
  refine lv_aload_n hx hb dJ1_charAt_3b067_1 rfl (lv_at hl 0 rfl) ?_
  refine va_tlen (v := 3) hx hb (hT.2.1 10 (by decide)).2.2.2 hS (by decide) dJ1_charAt_3b067_2 ?_
  obtain ⟨hC9, hPc, hDc, hFc⟩ := xcut (wc := (pre_J0_checkIndex_df160_4 T (xa []) (xa []) (xf []) (xh []) (xv [(vi 0)]) (xl []))) hP hD hS hA [] (by decide) rfl
  refine va_callv (va_runS (As := [.int (vi 0), .int 3]) (rest := []) ⟨hx, hb, hml, hown, htg⟩ (c_J0_checkIndex_df160_4 l D T (xa []) (xa []) (xf []) (xh []) (xv [(vi 0)]) (xl []) kK kV s.heap.size hp0) ⟨callB_of 2 htg (xg_ok kw_67) rfl rfl rfl (htg _ kw_3) (htg _ kw_65) (by decide +kernel) ⟨by rw [hR]; exact Nat.le_of_ble_eq_true rfl, by rw [hR]; exact Nat.le_of_ble_eq_true rfl⟩, htg _ kw_66⟩ (xpreSs hK hPc hDc hT hFc hS) rfl rfl hl.1 rfl (lv_room (Nat.le_of_ble_eq_true rfl)) dJ1_charAt_3b067_3 ⟨by rw [hR]; exact Nat.le_of_ble_eq_true rfl, by rw [hR]; exact Nat.le_of_ble_eq_true rfl⟩) hS (fun q _ h => hFc q h) hFc (fun u9 t H1 locs ht hvm hw hB hz1 hk1 hS => ?_)
  obtain ⟨fik, flk, vik, vlk, hP1, hD1, hG⟩ := hB
  rw [ht] at hP1
  obtain ⟨hP, hD⟩ := va_join (wr := []) (w1 := []) hP hD [] [] hC9 rfl (by decide) (by decide) hk1 hFc hP1 hD1
  clear hPc hDc hFc hP1 hD1 hk1 hz1 hvm ht hC9
  generalize H1 = H at hP hS ⊢
  obtain ⟨hP, hD⟩ := (show xPD D A [] H from ⟨hP, hD⟩)
  obtain ⟨uk, eu9⟩ : ∃ z, z = u9 := ⟨_, rfl⟩
  subst eu9
  clear hG
  refine lv_aload_n hx hb dJ1_charAt_3b067_6 rfl (lv_at hl 0 rfl) ?_
  refine lv_iload_n hx hb dJ1_charAt_3b067_7 rfl (lv_at hl 1 rfl) ?_
  refine va_tb hx hb (hT.2.1 10 (by decide)).2.2.2 hS (show vp_in (vi 0) 3 from (vp_in_iff.mpr (by omega))) rfl dJ1_charAt_3b067_8 ?_
  refine lv_topi (fun z8 ez8 => ?_)
  refine lv_sipush (v := 255) hx hb dJ1_charAt_3b067_9 (by decide) ?_
  refine lv_iand hx hb dJ1_charAt_3b067_12 ?_
  refine lv_topi (fun z12 ez12 => ?_)
  have tz12 : 0 ≤ z12.toInt ∧ z12.toInt ≤ 255 := by rw [ez12]; exact xand255 _
  refine lv_i2c hx hb dJ1_charAt_3b067_13 rfl ?_
  refine lv_topi (fun z13 ez13 => ?_)
  have nz13 : narrow .char (.int z13) = .int z13 := by rw [ez13]; exact pk_nc _
  have hP9 := hP.sub (ws' := []) [] rfl
  have hD9 := hD.sub (ws' := []) [] (by decide +kernel) rfl
  rw [hQ]
  exact W.zret (v := z13) hx hb hr nz13 (fun t ht hW => ⟨⟨z13, z13, rfl, rfl, xf [], xh [], xv [], xl [], by rw [ht]; exact hP9, hD9, ⟨nz13, (by unfold R_J1_charAt_3b067_28; exact (fun Q9 k9_0 => k9_0 hp0 fik flk vik vlk uk z8 ez8 z12 ez12 z13 ez13 rfl)), trivial⟩⟩, hS.F ht⟩) hS.2.2 dJ1_charAt_3b067_14
abbrev pre_J0_charAt_5068e_28 (T : Nat → ClassId) (a ex : Nat → Nat) (fi : Nat → Nat → Int32) (fl : Nat → Nat → Int64) (vi : Nat → Int32) (vl : Nat → Int64) : va_W := []
set_option maxHeartbeats 8000000 in
set_option maxRecDepth 100000 in
theorem c_J0_charAt_5068e_28 (l : Launch) (D : va_G) (T : Nat → ClassId) (a ex : Nat → Nat) (fi : Nat → Nat → Int32) (fl : Nat → Nat → Int64) (vi : Nat → Int32) (vl : Nat → Int64) (kK kV : Nat → Nat) (sz : Nat) (hp0 : 0 ≤ (vi 0).toInt ∧ (vi 0).toInt ≤ 2) : Met l yJ0_charAt_5068e (xw yJ0_charAt_5068e cJ0_charAt_5068e 2 (some .char)) ({ frames := 3, cells := 0, slots := 0, locals := 76 }) (xPs D T kK kV [.ref (kK 10), .int (vi 0)] sz (pre_J0_charAt_5068e_28 T a ex fi fl vi vl)) (va_Qi (fun r u => r = u) (xC D (va_A (pre_J0_charAt_5068e_28 T a ex fi fl vi vl) sz) (fun fj fm vj vm => []) (fun (r : Int32) (fj : Nat → Nat → Int32) (fm : Nat → Nat → Int64) (vj : Nat → Int32) (vm : Nat → Int64) => narrow .char (.int r) = .int r ∧ R_J0_charAt_5068e_28 fi fl vi vl r fj fm vj vm ∧ True)) (va_A (pre_J0_charAt_5068e_28 T a ex fi fl vi vl) sz)) 0 0 (va_A (pre_J0_charAt_5068e_28 T a ex fi fl vi vl) sz) := by
  refine xofW (cc := cJ0_charAt_5068e) (maxL := 2) (ret := (some .char)) (by decide) rfl ?_
  intro p e s m args below meth c s₁ R Q hR hQ B hml hv
  obtain ⟨rfl, hsz, hP, hK, hD0, hT⟩ := hv
  have hx := B.exec
  have hb := B.bytes
  have hr := B.returns
  have hts := atoms_spec (ws := xw yJ0_charAt_5068e cJ0_charAt_5068e 2 (some .char)) B.pre
  have htg : ∀ w ∈ xg, w.before _ s = true := fun w h => hts w (List.mem_cons_of_mem _ h)
  have hown : s.vm.findClass RJ0 = some m.cls := findClass_of_methodNamed B.named
  have hlocks := B.notSynchronized
  subst hsz
  have hD := hD0.self (sz := s.heap.size)
  generalize hAe : va_A (pre_J0_charAt_5068e_28 T a ex fi fl vi vl) s.heap.size = A at hD hQ hT
  have hA : ∀ q : Nat, s.heap.size ≤ q → A q := fun q h => by rw [← hAe]; exact Or.inr h
  have hS : va_S A s.heap s.heap [] := va_S.rf
  replace hP : va_P D vwCl [] s.heap := hP
  replace hD : va_D A [] := hD
  have hl := lv_entry ([.ref (kK 10), .int (vi 0)]) (n := 2) (Nat.le_of_ble_eq_true rfl)
  rw [lg_entry_eq]
  generalize (lg_sl ([.ref (kK 10), .int (vi 0)]) ++ List.replicate (2 - (lg_sl ([.ref (kK 10), .int (vi 0)])).length) Slot.unset).toArray = ls at hl ⊢
  replace hl : lv_has ls 2 [(0, .ref (kK 10)), (1, .int (vi 0))] := hl
  refine lv_aload_n hx hb dJ0_charAt_5068e_0 rfl (lv_at hl 0 rfl) ?_
  obtain ⟨hC9, hPc, hDc, hFc⟩ := xcut (wc := (pre_J0_isLatin1_aae02_28 T (xa []) (xa []) (xf []) (xh []) (xv []) (xl []))) hP hD hS hA [] (by decide) rfl
  refine va_calli (va_runV (As := []) (rest := []) ⟨hx, hb, hml, hown, htg⟩ (c_J0_isLatin1_aae02_28 l D T (xa []) (xa []) (xf []) (xh []) (xv []) (xl []) kK kV s.heap.size) ⟨callB_of 0 htg (xg_ok kw_61) rfl rfl rfl (htg _ kw_3) (htg _ kw_58) (by decide +kernel) ⟨by rw [hR]; exact Nat.le_of_ble_eq_true rfl, by rw [hR]; exact Nat.le_of_ble_eq_true rfl⟩, htg _ kw_59, htg _ kw_60⟩ (xpreVs hK hPc hDc hT hFc hS (xT.recv hT 10 (by decide) hS)) rfl rfl hl.1 rfl (lv_room (Nat.le_of_ble_eq_true rfl)) dJ0_charAt_5068e_1 ⟨by rw [hR]; exact Nat.le_of_ble_eq_true rfl, by rw [hR]; exact Nat.le_of_ble_eq_true rfl⟩) hS (fun q _ h => hFc q h) hFc (fun r9 u9 t H1 locs ht hvm hw hB hz1 hk1 hS => ?_)
  subst hw
  obtain ⟨fik, flk, vik, vlk, hP1, hD1, hG⟩ := hB
  rw [ht] at hP1
  obtain ⟨hP, hD⟩ := va_join (wr := []) (w1 := []) hP hD [] [] hC9 rfl (by decide) (by decide) hk1 hFc hP1 hD1
  obtain ⟨rk, er9⟩ : ∃ z, z = r9 := ⟨_, rfl⟩
  subst er9
  clear hPc hDc hFc hP1 hD1 hk1 hz1 hvm ht hC9
  generalize H1 = H at hP hS ⊢
  obtain ⟨hP, hD⟩ := (show xPD D A [] H from ⟨hP, hD⟩)
  obtain ⟨gk_0, -⟩ := hG
  replace gk_0 : rk = 1 := gk_0
  refine xz_i 1 gk_0 ?_
  refine lv_if_eq (tgt := 16) hx hb dJ0_charAt_5068e_4 (by decide) (fun c => absurd c (by decide)) (fun _ => ?_)
  refine lv_aload_n hx hb dJ0_charAt_5068e_7 rfl (lv_at hl 0 rfl) ?_
  refine vk_getf hx hb (hT.2.1 10 (by decide)).2.2.1 hS hown (htg _ kw_2030) (fun _ h9 => h9) dJ0_charAt_5068e_8 ?_
  refine lv_iload_n hx hb dJ0_charAt_5068e_11 rfl (lv_at hl 1 rfl) ?_
  obtain ⟨hC9, hPc, hDc, hFc⟩ := xcut (wc := (pre_J1_charAt_3b067_28 T (xa []) (xa []) (xf []) (xh []) (xv [(vi 0)]) (xl []))) hP hD hS hA [] (by decide) rfl
  refine va_calli (va_runS (As := [.ref (kV 10), .int (vi 0)]) (rest := []) ⟨hx, hb, hml, hown, htg⟩ (c_J1_charAt_3b067_28 l D T (xa []) (xa []) (xf []) (xh []) (xv [(vi 0)]) (xl []) kK kV H.size hp0) ⟨callB_of 2 htg (xg_ok kw_64) rfl rfl rfl (htg _ kw_4) (htg _ kw_62) (by decide +kernel) ⟨by rw [hR]; exact Nat.le_of_ble_eq_true rfl, by rw [hR]; exact Nat.le_of_ble_eq_true rfl⟩, htg _ kw_63⟩ (xpreSs hK hPc hDc hT hFc hS) rfl rfl hl.1 rfl (lv_room (Nat.le_of_ble_eq_true rfl)) dJ0_charAt_5068e_12 ⟨by rw [hR]; exact Nat.le_of_ble_eq_true rfl, by rw [hR]; exact Nat.le_of_ble_eq_true rfl⟩) hS (fun q _ h => hFc q h) hFc (fun r9 u9 t H1 locs ht hvm hw hB hz1 hk1 hS => ?_)
  subst hw
  obtain ⟨fik_1, flk_1, vik_1, vlk_1, hP1, hD1, hG⟩ := hB
  rw [ht] at hP1
  obtain ⟨hP, hD⟩ := va_join (wr := []) (w1 := []) hP hD [] [] hC9 rfl (by decide) (by decide) hk1 hFc hP1 hD1
  obtain ⟨rk_1, er9⟩ : ∃ z, z = r9 := ⟨_, rfl⟩
  subst er9
  clear hPc hDc hFc hP1 hD1 hk1 hz1 hvm ht hC9
  generalize H1 = H at hP hS ⊢
  obtain ⟨hP, hD⟩ := (show xPD D A [] H from ⟨hP, hD⟩)
  obtain ⟨gk_1_0, gk_1_1, -⟩ := hG
  replace gk_1_1 : rk_1 = (sBy.getD 10 []).getD ((vi 0).toInt).toNat 0 := (P_J1_charAt_3b067_28 gk_1_1 : _)
  replace gk_1_0 : narrow .char (.int rk_1) = .int rk_1 := gk_1_0
  have hP9 := hP.sub (ws' := []) [] rfl
  have hD9 := hD.sub (ws' := []) [] (by decide +kernel) rfl
  rw [hQ]
  exact W.zret (v := rk_1) hx hb hr gk_1_0 (fun t ht hW => ⟨⟨rk_1, rk_1, rfl, rfl, xf [], xh [], xv [], xl [], by rw [ht]; exact hP9, hD9, ⟨gk_1_0, (by unfold R_J0_charAt_5068e_28; exact (fun Q9 k9_0 => k9_0 hp0 fik flk vik vlk rk gk_0 fik_1 flk_1 vik_1 vlk_1 rk_1 gk_1_1 rfl)), trivial⟩⟩, hS.F ht⟩) hS.2.2 dJ0_charAt_5068e_15
abbrev pre_X6_isWord_28 (T : Nat → ClassId) (a ex : Nat → Nat) (fi : Nat → Nat → Int32) (fl : Nat → Nat → Int64) (vi : Nat → Int32) (vl : Nat → Int64) : va_W := [((a 0), .inr (6, [.ref (ex 0), .ref (ex 1), .int (vi 0), .int (vi 1), .int (vi 2), .int (vi 3), .int (vi 4), .int (vi 5), .long (vl 0), .int (vi 6), .int (vi 7), .int (vi 8), .int (vi 9), .int (vi 10)]))]
set_option maxHeartbeats 8000000 in
set_option maxRecDepth 100000 in
theorem c_X6_isWord_28 (l : Launch) (D : va_G) (T : Nat → ClassId) (a ex : Nat → Nat) (fi : Nat → Nat → Int32) (fl : Nat → Nat → Int64) (vi : Nat → Int32) (vl : Nat → Int64) (kK kV : Nat → Nat) (sz : Nat) (hp0 : 0 ≤ (vi 1).toInt ∧ (vi 1).toInt ≤ 940) (hp1 : 0 ≤ (vi 2).toInt ∧ (vi 2).toInt ≤ 940) (hp2 : 0 ≤ (vi 3).toInt ∧ (vi 3).toInt ≤ 940) (hp3 : 0 ≤ (vi 5).toInt ∧ (vi 5).toInt ≤ 940) (hp4 : 0 ≤ (vi 10).toInt ∧ (vi 10).toInt ≤ 940) : Met l yX6_isWord (xw yX6_isWord cX6_isWord 5 (some .boolean)) ({ frames := 4, cells := 0, slots := 0, locals := 101 }) (xPs D T kK kV [.ref (a 0), .ref (kK 10)] sz (pre_X6_isWord_28 T a ex fi fl vi vl)) (va_Qi (fun r u => r = u) (xC D (va_A (pre_X6_isWord_28 T a ex fi fl vi vl) sz) (fun fj fm vj vm => [((a 0), .inr (6, [.ref (ex 0), .ref (ex 1), .int (vi 0), .int (vi 1), .int (vi 2), .int (vi 3), .int (vi 4), .int (vi 5), .long (vl 0), .int (vi 6), .int (vi 7), .int (vi 8), .int (vi 9), .int (vi 10)]))]) (fun (r : Int32) (fj : Nat → Nat → Int32) (fm : Nat → Nat → Int64) (vj : Nat → Int32) (vm : Nat → Int64) => ((r = 1 ∧ (True)) ∨ (r = 0 ∧ (True))) ∧ R_X6_isWord_28 fi fl vi vl r fj fm vj vm ∧ True)) (va_A (pre_X6_isWord_28 T a ex fi fl vi vl) sz)) 0 0 (va_A (pre_X6_isWord_28 T a ex fi fl vi vl) sz) := by
  refine xofW (cc := cX6_isWord) (maxL := 5) (ret := (some .boolean)) (by decide) rfl ?_
  intro p e s m args below meth c s₁ R Q hR hQ B hml hv
  obtain ⟨rfl, hsz, hP, hK, hD0, hT⟩ := hv
  have hx := B.exec
  have hb := B.bytes
  have hr := B.returns
  have hts := atoms_spec (ws := xw yX6_isWord cX6_isWord 5 (some .boolean)) B.pre
  have htg : ∀ w ∈ xg, w.before _ s = true := fun w h => hts w (List.mem_cons_of_mem _ h)
  have hown : s.vm.findClass RX6 = some m.cls := findClass_of_methodNamed B.named
  have hlocks := B.notSynchronized
  subst hsz
  have hD := hD0.self (sz := s.heap.size)
  generalize hAe : va_A (pre_X6_isWord_28 T a ex fi fl vi vl) s.heap.size = A at hD hQ hT
  have hA : ∀ q : Nat, s.heap.size ≤ q → A q := fun q h => by rw [← hAe]; exact Or.inr h
  have hS : va_S A s.heap s.heap [] := va_S.rf
  replace hP : va_P D vwCl [((a 0), .inr (6, [.ref (ex 0), .ref (ex 1), .int (vi 0), .int (vi 1), .int (vi 2), .int (vi 3), .int (vi 4), .int (vi 5), .long (vl 0), .int (vi 6), .int (vi 7), .int (vi 8), .int (vi 9), .int (vi 10)]))] s.heap := hP
  replace hD : va_D A [((a 0), .inr (6, [.ref (ex 0), .ref (ex 1), .int (vi 0), .int (vi 1), .int (vi 2), .int (vi 3), .int (vi 4), .int (vi 5), .long (vl 0), .int (vi 6), .int (vi 7), .int (vi 8), .int (vi 9), .int (vi 10)]))] := hD
  have hl := lv_entry ([.ref (a 0), .ref (kK 10)]) (n := 5) (Nat.le_of_ble_eq_true rfl)
  rw [lg_entry_eq]
  generalize (lg_sl ([.ref (a 0), .ref (kK 10)]) ++ List.replicate (5 - (lg_sl ([.ref (a 0), .ref (kK 10)])).length) Slot.unset).toArray = ls at hl ⊢
  replace hl : lv_has ls 5 [(0, .ref (a 0)), (1, .ref (kK 10))] := hl
  refine lv_lconst (v := 0) hx hb dX6_isWord_0 (by decide) ?_
  refine lv_lstore_n (lv' := [(2, .long 0), (0, .ref (a 0)), (1, .ref (kK 10))]) hx hb dX6_isWord_1 rfl hl (by decide) rfl (fun ls hl => ?_)
  refine lv_iconst (v := 0) hx hb dX6_isWord_2 (by decide) ?_
  refine lv_istore (lv' := [(4, .int 0), (2, .long 0), (0, .ref (a 0)), (1, .ref (kK 10))]) hx hb dX6_isWord_3 hl (by decide) rfl (fun ls hl => ?_)
  have lp : ∀ (kn : Nat) (w4 : Int32) (w2 : Int64) (H : Heap) (locs : List Loc) (ls : Array Slot), (0 ≤ w4.toInt ∧ w4.toInt ≤ 3) → (w2 = pkw (sBy.getD 10 []) (w4.toInt).toNat) → (2147483648 - w4.toInt).toNat = kn → va_P D vwCl [((a 0), .inr (6, [.ref (ex 0), .ref (ex 1), .int (vi 0), .int (vi 1), .int (vi 2), .int (vi 3), .int (vi 4), .int (vi 5), .long (vl 0), .int (vi 6), .int (vi 7), .int (vi 8), .int (vi 9), .int (vi 10)]))] H → va_D A [((a 0), .inr (6, [.ref (ex 0), .ref (ex 1), .int (vi 0), .int (vi 1), .int (vi 2), .int (vi 3), .int (vi 4), .int (vi 5), .long (vl 0), .int (vi 6), .int (vi 7), .int (vi 8), .int (vi 9), .int (vi 10)]))] → va_S A s.heap H locs → lv_has ls 5 [(4, .int w4), (2, .long w2), (0, .ref (a 0)), (1, .ref (kK 10))] → W p l e R s m ([.ref (a 0), .ref (kK 10)] : List Value).toArray below meth c H locs 0 0 Q (F0 m 5 ls []) := by
    intro kn
    induction kn using Nat.strongRecOn with
    | _ kn ih =>
      intro w4 w2 H locs ls hi hpk9 hm hP hD hS hl
      refine lv_iload hx hb dX6_isWord_5 (lv_at hl 0 rfl) ?_
      refine lv_aload_n hx hb dX6_isWord_7 rfl (lv_at hl 3 rfl) ?_
      obtain ⟨hC9, hPc, hDc, hFc⟩ := xcut (wc := (pre_J0_length_8abf5_28 T (xa []) (xa []) (xf []) (xh []) (xv []) (xl []))) hP hD hS hA [] (by decide) rfl
      refine va_calli (va_runV (As := []) (rest := [.int w4]) ⟨hx, hb, hml, hown, htg⟩ (c_J0_length_8abf5_28 l D T (xa []) (xa []) (xf []) (xh []) (xv []) (xl []) kK kV H.size) ⟨callB_of 0 htg (xg_ok kw_47) rfl rfl rfl (htg _ kw_3) (htg _ kw_44) (by decide +kernel) ⟨by rw [hR]; exact Nat.le_of_ble_eq_true rfl, by rw [hR]; exact Nat.le_of_ble_eq_true rfl⟩, htg _ kw_45, htg _ kw_46⟩ (xpreVs hK hPc hDc hT hFc hS (xT.recv hT 10 (by decide) hS)) rfl rfl hl.1 rfl (lv_room (Nat.le_of_ble_eq_true rfl)) dX6_isWord_8 ⟨by rw [hR]; exact Nat.le_of_ble_eq_true rfl, by rw [hR]; exact Nat.le_of_ble_eq_true rfl⟩) hS (fun q _ h => hFc q h) hFc (fun r9 u9 t H1 locs ht hvm hw hB hz1 hk1 hS => ?_)
      subst hw
      obtain ⟨fik, flk, vik, vlk, hP1, hD1, hG⟩ := hB
      rw [ht] at hP1
      obtain ⟨hP, hD⟩ := va_join (wr := [((a 0), .inr (6, [.ref (ex 0), .ref (ex 1), .int (vi 0), .int (vi 1), .int (vi 2), .int (vi 3), .int (vi 4), .int (vi 5), .long (vl 0), .int (vi 6), .int (vi 7), .int (vi 8), .int (vi 9), .int (vi 10)]))]) (w1 := []) hP hD [] [0] hC9 rfl (by decide) (by decide) hk1 hFc hP1 hD1
      obtain ⟨rk, er9⟩ : ∃ z, z = r9 := ⟨_, rfl⟩
      subst er9
      clear hPc hDc hFc hP1 hD1 hk1 hz1 hvm ht hC9
      generalize H1 = H at hP hS ⊢
      obtain ⟨hP, hD⟩ := (show xPD D A [((a 0), .inr (6, [.ref (ex 0), .ref (ex 1), .int (vi 0), .int (vi 1), .int (vi 2), .int (vi 3), .int (vi 4), .int (vi 5), .long (vl 0), .int (vi 6), .int (vi 7), .int (vi 8), .int (vi 9), .int (vi 10)]))] H from ⟨hP, hD⟩)
      obtain ⟨gk_0, -⟩ := hG
      replace gk_0 : rk = 3 := gk_0
      refine xz_i 3 gk_0 ?_
      refine lv_icmp_ge (tgt := 33) hx hb dX6_isWord_11 (by decide) (fun c11 => ?_) (fun c11 => ?_)
      · have c11 := xge (k := 3) (by decide) c11
        refine lv_aload_n hx hb dX6_isWord_33 rfl (lv_at hl 2 rfl) ?_
        refine va_get (D := D) (ci := 6) (v := .int (vi 4)) (C := RX6) (T := TX6) (N := 14) hx hb htg inX6 hown hK.1 hP 0 rfl rfl 6 (by decide) (htg _ kw_104) (fun _ h9 => h9) rfl dX6_isWord_34 ?_
        refine lv_iconst (v := 1) hx hb dX6_isWord_37 (by decide) ?_
        refine lv_icmp_ne (tgt := 54) hx hb dX6_isWord_38 (by decide) (fun c38 => ?_) (fun c38 => ?_)
        · have c38 := xne (k := 1) (by decide) c38
          refine lv_iconst (v := 0) hx hb dX6_isWord_54 (by decide) ?_
          have hP9 := hP.sub (ws' := [((a 0), .inr (6, [.ref (ex 0), .ref (ex 1), .int (vi 0), .int (vi 1), .int (vi 2), .int (vi 3), .int (vi 4), .int (vi 5), .long (vl 0), .int (vi 6), .int (vi 7), .int (vi 8), .int (vi 9), .int (vi 10)]))]) [0] rfl
          have hD9 := hD.sub (ws' := [((a 0), .inr (6, [.ref (ex 0), .ref (ex 1), .int (vi 0), .int (vi 1), .int (vi 2), .int (vi 3), .int (vi 4), .int (vi 5), .long (vl 0), .int (vi 6), .int (vi 7), .int (vi 8), .int (vi 9), .int (vi 10)]))]) [0] (by decide +kernel) rfl
          rw [hQ]
          exact W.zret (v := 0) hx hb hr rfl (fun t ht hW => ⟨⟨0, 0, rfl, rfl, xf [], xh [], xv [], xl [], by rw [ht]; exact hP9, hD9, ⟨(Or.inr ⟨rfl, by show True; first | trivial | omega | assumption⟩), (by unfold R_X6_isWord_28; exact (fun Q9 k9_0 k9_1 k9_2 => k9_0 hp0 hp1 hp2 hp3 hp4 w4 w2 hi hpk9 fik flk vik vlk rk gk_0 c11 c38 rfl)), trivial⟩⟩, hS.F ht⟩) hS.2.2 dX6_isWord_55
        · have c38 := xeq (k := 1) (by decide) c38
          refine lv_lload_n hx hb dX6_isWord_41 rfl (lv_at hl 1 rfl) ?_
          refine lv_aload_n hx hb dX6_isWord_42 rfl (lv_at hl 2 rfl) ?_
          refine va_get (D := D) (ci := 6) (v := .long (vl 0)) (C := RX6) (T := TX6) (N := 14) hx hb htg inX6 hown hK.1 hP 0 rfl rfl 8 (by decide) (htg _ kw_108) (fun _ h9 => h9) rfl dX6_isWord_43 ?_
          refine W.lcmp hx hb dX6_isWord_46 ?_
          refine lv_topi (fun z46 ez46 => ?_)
          refine lv_if_ne (tgt := 54) hx hb dX6_isWord_47 (by decide) (fun c47 => ?_) (fun c47 => ?_)
          · have c47 := xne (k := 0) (by decide) c47
            refine lv_iconst (v := 0) hx hb dX6_isWord_54 (by decide) ?_
            have hP9 := hP.sub (ws' := [((a 0), .inr (6, [.ref (ex 0), .ref (ex 1), .int (vi 0), .int (vi 1), .int (vi 2), .int (vi 3), .int (vi 4), .int (vi 5), .long (vl 0), .int (vi 6), .int (vi 7), .int (vi 8), .int (vi 9), .int (vi 10)]))]) [0] rfl
            have hD9 := hD.sub (ws' := [((a 0), .inr (6, [.ref (ex 0), .ref (ex 1), .int (vi 0), .int (vi 1), .int (vi 2), .int (vi 3), .int (vi 4), .int (vi 5), .long (vl 0), .int (vi 6), .int (vi 7), .int (vi 8), .int (vi 9), .int (vi 10)]))]) [0] (by decide +kernel) rfl
            rw [hQ]
            exact W.zret (v := 0) hx hb hr rfl (fun t ht hW => ⟨⟨0, 0, rfl, rfl, xf [], xh [], xv [], xl [], by rw [ht]; exact hP9, hD9, ⟨(Or.inr ⟨rfl, by show True; first | trivial | omega | assumption⟩), (by unfold R_X6_isWord_28; exact (fun Q9 k9_0 k9_1 k9_2 => k9_1 hp0 hp1 hp2 hp3 hp4 w4 w2 hi hpk9 fik flk vik vlk rk gk_0 c11 c38 z46 ez46 c47 rfl)), trivial⟩⟩, hS.F ht⟩) hS.2.2 dX6_isWord_55
          · have c47 := xeq (k := 0) (by decide) c47
            refine lv_iconst (v := 1) hx hb dX6_isWord_50 (by decide) ?_
            refine lv_goto (tgt := 55) hx hb dX6_isWord_51 (by decide) ?_
            have hP9 := hP.sub (ws' := [((a 0), .inr (6, [.ref (ex 0), .ref (ex 1), .int (vi 0), .int (vi 1), .int (vi 2), .int (vi 3), .int (vi 4), .int (vi 5), .long (vl 0), .int (vi 6), .int (vi 7), .int (vi 8), .int (vi 9), .int (vi 10)]))]) [0] rfl
            have hD9 := hD.sub (ws' := [((a 0), .inr (6, [.ref (ex 0), .ref (ex 1), .int (vi 0), .int (vi 1), .int (vi 2), .int (vi 3), .int (vi 4), .int (vi 5), .long (vl 0), .int (vi 6), .int (vi 7), .int (vi 8), .int (vi 9), .int (vi 10)]))]) [0] (by decide +kernel) rfl
            rw [hQ]
            exact W.zret (v := 1) hx hb hr rfl (fun t ht hW => ⟨⟨1, 1, rfl, rfl, xf [], xh [], xv [], xl [], by rw [ht]; exact hP9, hD9, ⟨(Or.inl ⟨rfl, by show True; first | trivial | omega | assumption⟩), (by unfold R_X6_isWord_28; exact (fun Q9 k9_0 k9_1 k9_2 => k9_2 hp0 hp1 hp2 hp3 hp4 w4 w2 hi hpk9 fik flk vik vlk rk gk_0 c11 c38 z46 ez46 c47 rfl)), trivial⟩⟩, hS.F ht⟩) hS.2.2 dX6_isWord_55
      · have c11 := xnge (k := 3) (by decide) c11
        refine lv_lload_n hx hb dX6_isWord_14 rfl (lv_at hl 1 rfl) ?_
        refine lv_bipush (v := 8) hx hb dX6_isWord_15 (by decide) ?_
        refine lv_lshl hx hb dX6_isWord_17 rfl ?_
        refine lv_topl (fun z17 ez17 => ?_)
        refine lv_aload_n hx hb dX6_isWord_18 rfl (lv_at hl 3 rfl) ?_
        refine lv_iload hx hb dX6_isWord_19 (lv_at hl 0 rfl) ?_
        obtain ⟨hC9, hPc, hDc, hFc⟩ := xcut (wc := (pre_J0_charAt_5068e_28 T (xa []) (xa []) (xf []) (xh []) (xv [w4]) (xl []))) hP hD hS hA [] (by decide) rfl
        refine va_calli (va_runV (As := [.int w4]) (rest := [.long z17]) ⟨hx, hb, hml, hown, htg⟩ (c_J0_charAt_5068e_28 l D T (xa []) (xa []) (xf []) (xh []) (xv [w4]) (xl []) kK kV H.size (by show 0 ≤ w4.toInt ∧ w4.toInt ≤ 2; omega)) ⟨callB_of 1 htg (xg_ok kw_57) rfl rfl rfl (htg _ kw_3) (htg _ kw_54) (by decide +kernel) ⟨by rw [hR]; exact Nat.le_of_ble_eq_true rfl, by rw [hR]; exact Nat.le_of_ble_eq_true rfl⟩, htg _ kw_55, htg _ kw_56⟩ (xpreVs hK hPc hDc hT hFc hS (xT.recv hT 10 (by decide) hS)) rfl rfl hl.1 rfl (lv_room (Nat.le_of_ble_eq_true rfl)) dX6_isWord_21 ⟨by rw [hR]; exact Nat.le_of_ble_eq_true rfl, by rw [hR]; exact Nat.le_of_ble_eq_true rfl⟩) hS (fun q _ h => hFc q h) hFc (fun r9 u9 t H1 locs ht hvm hw hB hz1 hk1 hS => ?_)
        subst hw
        obtain ⟨fik_1, flk_1, vik_1, vlk_1, hP1, hD1, hG⟩ := hB
        rw [ht] at hP1
        obtain ⟨hP, hD⟩ := va_join (wr := [((a 0), .inr (6, [.ref (ex 0), .ref (ex 1), .int (vi 0), .int (vi 1), .int (vi 2), .int (vi 3), .int (vi 4), .int (vi 5), .long (vl 0), .int (vi 6), .int (vi 7), .int (vi 8), .int (vi 9), .int (vi 10)]))]) (w1 := []) hP hD [] [0] hC9 rfl (by decide) (by decide) hk1 hFc hP1 hD1
        obtain ⟨rk_1, er9⟩ : ∃ z, z = r9 := ⟨_, rfl⟩
        subst er9
        clear hPc hDc hFc hP1 hD1 hk1 hz1 hvm ht hC9
        generalize H1 = H at hP hS ⊢
        obtain ⟨hP, hD⟩ := (show xPD D A [((a 0), .inr (6, [.ref (ex 0), .ref (ex 1), .int (vi 0), .int (vi 1), .int (vi 2), .int (vi 3), .int (vi 4), .int (vi 5), .long (vl 0), .int (vi 6), .int (vi 7), .int (vi 8), .int (vi 9), .int (vi 10)]))] H from ⟨hP, hD⟩)
        obtain ⟨gk_1_0, gk_1_1, -⟩ := hG
        replace gk_1_1 : rk_1 = (sBy.getD 10 []).getD (w4.toInt).toNat 0 := (P_J0_charAt_5068e_28 gk_1_1 : _)
        replace gk_1_0 : narrow .char (.int rk_1) = .int rk_1 := gk_1_0
        refine lv_i2l hx hb dX6_isWord_24 rfl ?_
        refine lv_topl (fun z24 ez24 => ?_)
        refine lv_lor hx hb dX6_isWord_25 ?_
        refine lv_topl (fun z25 ez25 => ?_)
        refine lv_lstore_n (lv' := [(2, .long z25), (4, .int w4), (0, .ref (a 0)), (1, .ref (kK 10))]) hx hb dX6_isWord_26 rfl hl (by decide) rfl (fun ls hl => ?_)
        obtain ⟨i27, ei27⟩ : ∃ z : Int32, w4 + Int32.ofInt 1 = z := ⟨_, rfl⟩
        have ti27 : i27.toInt = w4.toInt + 1 := by rw [← ei27]; have h79 := xrng w4; exact xadd rfl (by decide) (by omega) (by omega)
        refine lv_iinc (v := i27) (lv' := [(4, .int i27), (2, .long z25), (0, .ref (a 0)), (1, .ref (kK 10))]) hx hb dX6_isWord_27 hl (k := 1) rfl ei27 (by decide) rfl (fun ls hl => ?_)
        refine lv_goto (tgt := 5) hx hb dX6_isWord_30 (by decide) ?_
        exact ih _ (by omega) i27 z25 _ _ _ (by show 0 ≤ i27.toInt ∧ i27.toInt ≤ 3; omega) (by show z25 = pkw (sBy.getD 10 []) (i27.toInt).toNat; rw [ez25, ez17, ez24]; exact pkw_s hpk9 (by omega) (by omega) (by assumption)) rfl (hP.sub [0] rfl) (hD.sub [0] (by decide) rfl) hS (lv_sub hl [0, 1, 2, 3] rfl)
  exact lp _ (0 : Int32) (0 : Int64) _ _ _ (show 0 ≤ (0 : Int32).toInt ∧ (0 : Int32).toInt ≤ 3 by decide) (by show (0 : Int64) = pkw (sBy.getD 10 []) ((0 : Int32).toInt).toNat; have k9_0 : (0 : Int32).toInt = 0 := (by decide); rw [show (0 : Int32).toInt.toNat = 0 by decide]; rfl) rfl hP hD hS hl
abbrev pre_X8_readOld (T : Nat → ClassId) (a ex : Nat → Nat) (fi : Nat → Nat → Int32) (fl : Nat → Nat → Int64) (vi : Nat → Int32) (vl : Nat → Int64) : va_W := [((a 0), .inr (8, [.ref (a 1), .ref (a 2), .int (vi 0)])), ((a 1), .inr (6, [.ref (a 5), .ref (a 4), .int (vi 1), .int (vi 2), .int (vi 3), .int (vi 4), .int (vi 5), .int (vi 6), .long (vl 0), .int (vi 7), .int (vi 8), .int (vi 9), .int (vi 10), .int (vi 11)])), ((a 2), .inr (7, [.int (vi 12), .int (vi 13), .ref (ex 0), .ref (ex 1), .ref (ex 2), .ref (ex 3), .ref (a 3), .ref (ex 4), .ref (ex 5), .ref (ex 6), .ref (a 6), .ref (ex 7)])), ((a 3), .inl (T 2, 9, .inr (.inl (fl 0)))), ((a 4), .inl (T 2, 27, .inr (.inl (fl 1)))), ((a 5), .inl (T 0, 940, .inl (fi 0))), ((a 6), .inl (T 1, 9, .inl (fi 1)))]
set_option maxHeartbeats 8000000 in
set_option maxRecDepth 100000 in
theorem c_X8_readOld (l : Launch) (D : va_G) (T : Nat → ClassId) (a ex : Nat → Nat) (fi : Nat → Nat → Int32) (fl : Nat → Nat → Int64) (vi : Nat → Int32) (vl : Nat → Int64) (sz : Nat) (hp0 : 0 ≤ (vi 2).toInt ∧ (vi 2).toInt ≤ 940) (hp1 : 0 ≤ (vi 3).toInt ∧ (vi 3).toInt ≤ 940) (hp2 : 0 ≤ (vi 4).toInt ∧ (vi 4).toInt ≤ 940) (hp3 : 0 ≤ (vi 6).toInt ∧ (vi 6).toInt ≤ 940) (hp4 : 0 ≤ (vi 11).toInt ∧ (vi 11).toInt ≤ 940) (hp5 : 0 ≤ (vi 12).toInt ∧ (vi 12).toInt ≤ 9) (hp6 : 0 ≤ (vi 13).toInt ∧ (vi 13).toInt ≤ 9) : Met l yX8_readOld (xw yX8_readOld cX8_readOld 2 (some .boolean)) ({ frames := 3, cells := 0, slots := 0, locals := 79 }) (xP D T [.ref (a 0)] sz (pre_X8_readOld T a ex fi fl vi vl)) (va_Qi (fun r u => r = u) (xC D (va_A (pre_X8_readOld T a ex fi fl vi vl) sz) (fun fj fm vj vm => [((a 0), .inr (8, [.ref (a 1), .ref (a 2), .int (vi 0)])), ((a 1), .inr (6, [.ref (a 5), .ref (a 4), .int (vi 1), .int (vi 2), .int (vi 3), .int (vj 5), .int (vj 1), .int (vj 2), .long (vm 0), .int (vj 4), .int (vj 3), .int (vj 0), .int (vj 6), .int (vj 7)])), ((a 2), .inr (7, [.int (vi 12), .int (vi 13), .ref (ex 0), .ref (ex 1), .ref (ex 2), .ref (ex 3), .ref (a 3), .ref (ex 4), .ref (ex 5), .ref (ex 6), .ref (a 6), .ref (ex 7)])), ((a 3), .inl (T 2, 9, .inr (.inl (fl 0)))), ((a 4), .inl (T 2, 27, .inr (.inl (fl 1)))), ((a 5), .inl (T 0, 940, .inl (fi 0))), ((a 6), .inl (T 1, 9, .inl (fj 0)))]) (fun (r : Int32) (fj : Nat → Nat → Int32) (fm : Nat → Nat → Int64) (vj : Nat → Int32) (vm : Nat → Int64) => ((r = 1 ∧ (True)) ∨ (r = 0 ∧ (True))) ∧ (0 ≤ (vj 5).toInt ∧ (vj 5).toInt ≤ 940) ∧ (0 ≤ (vj 2).toInt ∧ (vj 2).toInt ≤ 940) ∧ (0 ≤ (vj 7).toInt ∧ (vj 7).toInt ≤ 940) ∧ (r.toInt = 1 → (vj 6).toInt = (vi 10).toInt) ∧ R_X8_readOld fi fl vi vl r fj fm vj vm ∧ True)) (va_A (pre_X8_readOld T a ex fi fl vi vl) sz)) 0 0 (va_A (pre_X8_readOld T a ex fi fl vi vl) sz) := by
  refine xofW (cc := cX8_readOld) (maxL := 2) (ret := (some .boolean)) (by decide) rfl ?_
  intro p e s m args below meth c s₁ R Q hR hQ B hml hv
  obtain ⟨rfl, hsz, hP, hK, hD0⟩ := hv
  have hx := B.exec
  have hb := B.bytes
  have hr := B.returns
  have hts := atoms_spec (ws := xw yX8_readOld cX8_readOld 2 (some .boolean)) B.pre
  have htg : ∀ w ∈ xg, w.before _ s = true := fun w h => hts w (List.mem_cons_of_mem _ h)
  have hown : s.vm.findClass RX8 = some m.cls := findClass_of_methodNamed B.named
  have hlocks := B.notSynchronized
  subst hsz
  have hD := hD0.self (sz := s.heap.size)
  generalize hAe : va_A (pre_X8_readOld T a ex fi fl vi vl) s.heap.size = A at hD hQ
  have hA : ∀ q : Nat, s.heap.size ≤ q → A q := fun q h => by rw [← hAe]; exact Or.inr h
  have hS : va_S A s.heap s.heap [] := va_S.rf
  replace hP : va_P D vwCl [((a 0), .inr (8, [.ref (a 1), .ref (a 2), .int (vi 0)])), ((a 1), .inr (6, [.ref (a 5), .ref (a 4), .int (vi 1), .int (vi 2), .int (vi 3), .int (vi 4), .int (vi 5), .int (vi 6), .long (vl 0), .int (vi 7), .int (vi 8), .int (vi 9), .int (vi 10), .int (vi 11)])), ((a 2), .inr (7, [.int (vi 12), .int (vi 13), .ref (ex 0), .ref (ex 1), .ref (ex 2), .ref (ex 3), .ref (a 3), .ref (ex 4), .ref (ex 5), .ref (ex 6), .ref (a 6), .ref (ex 7)])), ((a 3), .inl (T 2, 9, .inr (.inl (fl 0)))), ((a 4), .inl (T 2, 27, .inr (.inl (fl 1)))), ((a 5), .inl (T 0, 940, .inl (fi 0))), ((a 6), .inl (T 1, 9, .inl (fi 1)))] s.heap := hP
  replace hD : va_D A [((a 0), .inr (8, [.ref (a 1), .ref (a 2), .int (vi 0)])), ((a 1), .inr (6, [.ref (a 5), .ref (a 4), .int (vi 1), .int (vi 2), .int (vi 3), .int (vi 4), .int (vi 5), .int (vi 6), .long (vl 0), .int (vi 7), .int (vi 8), .int (vi 9), .int (vi 10), .int (vi 11)])), ((a 2), .inr (7, [.int (vi 12), .int (vi 13), .ref (ex 0), .ref (ex 1), .ref (ex 2), .ref (ex 3), .ref (a 3), .ref (ex 4), .ref (ex 5), .ref (ex 6), .ref (a 6), .ref (ex 7)])), ((a 3), .inl (T 2, 9, .inr (.inl (fl 0)))), ((a 4), .inl (T 2, 27, .inr (.inl (fl 1)))), ((a 5), .inl (T 0, 940, .inl (fi 0))), ((a 6), .inl (T 1, 9, .inl (fi 1)))] := hD
  have hl := lv_entry ([.ref (a 0)]) (n := 2) (Nat.le_of_ble_eq_true rfl)
  rw [lg_entry_eq]
  generalize (lg_sl ([.ref (a 0)]) ++ List.replicate (2 - (lg_sl ([.ref (a 0)])).length) Slot.unset).toArray = ls at hl ⊢
  replace hl : lv_has ls 2 [(0, .ref (a 0))] := hl
  refine lv_aload_n hx hb dX8_readOld_0 rfl (lv_at hl 0 rfl) ?_
  refine lv_aload_n hx hb dX8_readOld_1 rfl (lv_at hl 0 rfl) ?_
  refine va_get (D := D) (ci := 8) (v := .ref (a 2)) (C := RX8) (T := TX8) (N := 3) hx hb htg inX8 hown hK.1 hP 0 rfl rfl 1 (by decide) (htg _ kw_229) (fun _ h9 => h9) rfl dX8_readOld_2 ?_
  refine lv_aload_n hx hb dX8_readOld_5 rfl (lv_at hl 0 rfl) ?_
  refine va_get (D := D) (ci := 8) (v := .ref (a 1)) (C := RX8) (T := TX8) (N := 3) hx hb htg inX8 hown hK.1 hP 0 rfl rfl 0 (by decide) (htg _ kw_228) (fun _ h9 => h9) rfl dX8_readOld_6 ?_
  refine va_getN (D := D) (ci := 6) (v := .long (vl 0)) (C := RX6) (T := TX6) (N := 14) hx hb htg inX6 hown hK.1 hP 1 rfl rfl 8 (by decide) (va_Nw.use rfl (hK.2.1 _ kn_107)) (fun _ h9 => h9) rfl dX8_readOld_9 ?_
  obtain ⟨hC9, hPc, hDc, hFc⟩ := xcut (wc := (pre_X7_findSoul T (xa [(a 2), (a 3)]) (xa [(ex 0), (ex 1), (ex 2), (ex 3), (ex 4), (ex 5), (ex 6), (a 6), (ex 7)]) (xf []) (xh [(fl 0)]) (xv [(vi 12), (vi 13)]) (xl [(vl 0)]))) hP hD hS hA [2, 3] (by decide) rfl
  refine va_calli (va_runVN (As := [.long (vl 0)]) (rest := [.ref (a 0)]) ⟨hx, hb, hml, hown, htg⟩ (c_X7_findSoul l D T (xa [(a 2), (a 3)]) (xa [(ex 0), (ex 1), (ex 2), (ex 3), (ex 4), (ex 5), (ex 6), (a 6), (ex 7)]) (xf []) (xh [(fl 0)]) (xv [(vi 12), (vi 13)]) (xl [(vl 0)]) s.heap.size hp5 hp6) ⟨va_cnB 1 htg (xg_ok kw_614) rfl rfl rfl (hK.2.1 _ kn_611) (htg _ kw_7) (by decide +kernel) ⟨by rw [hR]; exact Nat.le_of_ble_eq_true rfl, by rw [hR]; exact Nat.le_of_ble_eq_true rfl⟩, htg _ kw_613, htg _ ks_14⟩ (xpreV hK hPc hDc (va_recv hK.1 hPc (ci := 7) (q0 := 0) rfl rfl)) rfl rfl hl.1 rfl (lv_room (Nat.le_of_ble_eq_true rfl)) dX8_readOld_12 ⟨by rw [hR]; exact Nat.le_of_ble_eq_true rfl, by rw [hR]; exact Nat.le_of_ble_eq_true rfl⟩) hS (fun q _ h => hFc q h) hFc (fun r9 u9 t H1 locs ht hvm hw hB hz1 hk1 hS => ?_)
  subst hw
  obtain ⟨fik, flk, vik, vlk, hP1, hD1, hG⟩ := hB
  rw [ht] at hP1
  obtain ⟨hP, hD⟩ := va_join (wr := [((a 0), .inr (8, [.ref (a 1), .ref (a 2), .int (vi 0)])), ((a 1), .inr (6, [.ref (a 5), .ref (a 4), .int (vi 1), .int (vi 2), .int (vi 3), .int (vi 4), .int (vi 5), .int (vi 6), .long (vl 0), .int (vi 7), .int (vi 8), .int (vi 9), .int (vi 10), .int (vi 11)])), ((a 4), .inl (T 2, 27, .inr (.inl (fl 1)))), ((a 5), .inl (T 0, 940, .inl (fi 0))), ((a 6), .inl (T 1, 9, .inl (fi 1)))]) (w1 := [((a 2), .inr (7, [.int (vi 12), .int (vi 13), .ref (ex 0), .ref (ex 1), .ref (ex 2), .ref (ex 3), .ref (a 3), .ref (ex 4), .ref (ex 5), .ref (ex 6), .ref (a 6), .ref (ex 7)])), ((a 3), .inl (T 2, 9, .inr (.inl (fl 0))))]) hP hD [2, 3] [0, 1, 4, 5, 6] hC9 rfl (by decide) (by decide) hk1 hFc hP1 hD1
  obtain ⟨rk, er9⟩ : ∃ z, z = r9 := ⟨_, rfl⟩
  subst er9
  clear hPc hDc hFc hP1 hD1 hk1 hz1 hvm ht hC9
  generalize H1 = H at hP hS ⊢
  obtain ⟨hP, hD⟩ := (show xPD D A [((a 0), .inr (8, [.ref (a 1), .ref (a 2), .int (vi 0)])), ((a 1), .inr (6, [.ref (a 5), .ref (a 4), .int (vi 1), .int (vi 2), .int (vi 3), .int (vi 4), .int (vi 5), .int (vi 6), .long (vl 0), .int (vi 7), .int (vi 8), .int (vi 9), .int (vi 10), .int (vi 11)])), ((a 4), .inl (T 2, 27, .inr (.inl (fl 1)))), ((a 5), .inl (T 0, 940, .inl (fi 0))), ((a 6), .inl (T 1, 9, .inl (fi 1))), ((a 2), .inr (7, [.int (vi 12), .int (vi 13), .ref (ex 0), .ref (ex 1), .ref (ex 2), .ref (ex 3), .ref (a 3), .ref (ex 4), .ref (ex 5), .ref (ex 6), .ref (a 6), .ref (ex 7)])), ((a 3), .inl (T 2, 9, .inr (.inl (fl 0))))] H from ⟨hP, hD⟩)
  obtain ⟨gk_0, gk_1, -⟩ := hG
  replace gk_1 : rk.toInt = fdx (fl 0) 0 (vl 0) ((vi 13).toInt).toNat := (P_X7_findSoul gk_1 : _)
  replace gk_0 : -1 ≤ rk.toInt ∧ rk.toInt ≤ 8 := gk_0
  refine lv_aload_n hx hb dX8_readOld_15 rfl (lv_at hl 0 rfl) ?_
  refine va_get (D := D) (ci := 8) (v := .ref (a 2)) (C := RX8) (T := TX8) (N := 3) hx hb htg inX8 hown hK.1 hP 0 rfl rfl 1 (by decide) (htg _ kw_229) (fun _ h9 => h9) rfl dX8_readOld_16 ?_
  refine va_getN (D := D) (ci := 7) (v := .ref (a 6)) (C := RX7) (T := TX7) (N := 12) hx hb htg inX7 hown hK.1 hP 5 rfl rfl 10 (by decide) (va_Nw.use rfl (hK.2.1 _ kn_192)) (fun _ h9 => h9) rfl dX8_readOld_19 ?_
  obtain ⟨hC9, hPc, hDc, hFc⟩ := xcut (wc := (pre_X8_passOnce T (xa [(a 0), (a 1), (a 4), (a 5), (a 6)]) (xa [(a 2)]) (xf [(fi 0), (fi 1)]) (xh [(fl 1)]) (xv [rk, (vi 0), (vi 1), (vi 2), (vi 3), (vi 4), (vi 5), (vi 6), (vi 7), (vi 8), (vi 9), (vi 10), (vi 11)]) (xl [(vl 0)]))) hP hD hS hA [0, 1, 2, 3, 4] (by decide) rfl
  refine va_calli (va_runV (As := [.int rk, .ref (a 6)]) (rest := []) ⟨hx, hb, hml, hown, htg⟩ (c_X8_passOnce l D T (xa [(a 0), (a 1), (a 4), (a 5), (a 6)]) (xa [(a 2)]) (xf [(fi 0), (fi 1)]) (xh [(fl 1)]) (xv [rk, (vi 0), (vi 1), (vi 2), (vi 3), (vi 4), (vi 5), (vi 6), (vi 7), (vi 8), (vi 9), (vi 10), (vi 11)]) (xl [(vl 0)]) H.size hp0 hp1 hp2 hp3 hp4) ⟨callB_of 2 htg (xg_ok kw_636) rfl rfl rfl (htg _ kw_8) (htg _ kw_633) (by decide +kernel) ⟨by rw [hR]; exact Nat.le_of_ble_eq_true rfl, by rw [hR]; exact Nat.le_of_ble_eq_true rfl⟩, htg _ kw_635, htg _ ks_19⟩ (xpreV hK hPc hDc (va_recv hK.1 hPc (ci := 8) (q0 := 0) rfl rfl)) rfl rfl hl.1 rfl (lv_room (Nat.le_of_ble_eq_true rfl)) dX8_readOld_22 ⟨by rw [hR]; exact Nat.le_of_ble_eq_true rfl, by rw [hR]; exact Nat.le_of_ble_eq_true rfl⟩) hS (fun q _ h => hFc q h) hFc (fun r9 u9 t H1 locs ht hvm hw hB hz1 hk1 hS => ?_)
  subst hw
  obtain ⟨fik_1, flk_1, vik_1, vlk_1, hP1, hD1, hG⟩ := hB
  rw [ht] at hP1
  obtain ⟨hP, hD⟩ := va_join (wr := [((a 2), .inr (7, [.int (vi 12), .int (vi 13), .ref (ex 0), .ref (ex 1), .ref (ex 2), .ref (ex 3), .ref (a 3), .ref (ex 4), .ref (ex 5), .ref (ex 6), .ref (a 6), .ref (ex 7)])), ((a 3), .inl (T 2, 9, .inr (.inl (fl 0))))]) (w1 := [((a 0), .inr (8, [.ref (a 1), .ref (a 2), .int (vi 0)])), ((a 1), .inr (6, [.ref (a 5), .ref (a 4), .int (vi 1), .int (vi 2), .int (vi 3), .int (vik_1 5), .int (vik_1 1), .int (vik_1 2), .long (vlk_1 0), .int (vik_1 4), .int (vik_1 3), .int (vik_1 0), .int (vik_1 6), .int (vik_1 7)])), ((a 4), .inl (T 2, 27, .inr (.inl (fl 1)))), ((a 5), .inl (T 0, 940, .inl (fi 0))), ((a 6), .inl (T 1, 9, .inl (fi 1)))]) hP hD [0, 1, 2, 3, 4] [5, 6] hC9 rfl (by decide) (by decide) hk1 hFc hP1 hD1
  obtain ⟨rk_1, er9⟩ : ∃ z, z = r9 := ⟨_, rfl⟩
  subst er9
  clear hPc hDc hFc hP1 hD1 hk1 hz1 hvm ht hC9
  generalize H1 = H at hP hS ⊢
  obtain ⟨hP, hD⟩ := (show xPD D A [((a 2), .inr (7, [.int (vi 12), .int (vi 13), .ref (ex 0), .ref (ex 1), .ref (ex 2), .ref (ex 3), .ref (a 3), .ref (ex 4), .ref (ex 5), .ref (ex 6), .ref (a 6), .ref (ex 7)])), ((a 3), .inl (T 2, 9, .inr (.inl (fl 0)))), ((a 0), .inr (8, [.ref (a 1), .ref (a 2), .int (vi 0)])), ((a 1), .inr (6, [.ref (a 5), .ref (a 4), .int (vi 1), .int (vi 2), .int (vi 3), .int (vik_1 5), .int (vik_1 1), .int (vik_1 2), .long (vlk_1 0), .int (vik_1 4), .int (vik_1 3), .int (vik_1 0), .int (vik_1 6), .int (vik_1 7)])), ((a 4), .inl (T 2, 27, .inr (.inl (fl 1)))), ((a 5), .inl (T 0, 940, .inl (fi 0))), ((a 6), .inl (T 1, 9, .inl (fi 1)))] H from ⟨hP, hD⟩)
  obtain ⟨gk_1_0, gk_1_1, gk_1_2, gk_1_3, gk_1_4, gk_1_5, -⟩ := hG
  replace gk_1_5 : ∀ n m t : Nat, CC (trn (fi 0) n) n m t (vi 2) (vi 3) (vi 5) (vi 6) (vi 4) (vl 0) (vi 7) (vi 8) → (rk_1.toInt = 1 ∧ (wMay (trn (fi 0) n) n m (ownB (fl 1)) t) ∧ ¬ rk.toInt = -1 ∧ (vik_1 0).toInt = rk.toInt ∧ (0 ≤ rk.toInt → rk.toInt < 9 → ((fi 1) (rk).toNatClampNeg).toInt = -1) ∧ CC (trn (fi 0) n) n m (sX (trn (fi 0) n) n m t) (vi 2) (vi 3) (vik_1 1) (vik_1 2) (vik_1 5) (vlk_1 0) (vik_1 4) (vik_1 3)) ∨ (rk_1.toInt = 0 ∧ ¬ (wMay (trn (fi 0) n) n m (ownB (fl 1)) t) ∧ (vik_1 6).toInt = 1 ∧ (vik_1 7).toInt = ((sPn (trn (fi 0) n) n m t) : Int)) ∨ (rk_1.toInt = 0 ∧ (wMay (trn (fi 0) n) n m (ownB (fl 1)) t) ∧ rk.toInt = -1 ∧ (vik_1 6).toInt = 3 ∧ (vik_1 7).toInt = ((sPn (trn (fi 0) n) n m t) : Int)) ∨ (rk_1.toInt = 0 ∧ (sK (trn (fi 0) n) n m t) = 1 ∧ 0 ≤ rk.toInt ∧ rk.toInt < 9 ∧ ¬ ((fi 1) (rk).toNatClampNeg).toInt = -1 ∧ (vik_1 6).toInt = 3 ∧ (vik_1 7).toInt = ((sPn (trn (fi 0) n) n m t) : Int)) := (P_X8_passOnce gk_1_5 : _)
  replace gk_1_1 : 0 ≤ (vik_1 5).toInt ∧ (vik_1 5).toInt ≤ 940 := gk_1_1
  replace gk_1_2 : 0 ≤ (vik_1 2).toInt ∧ (vik_1 2).toInt ≤ 940 := gk_1_2
  replace gk_1_3 : 0 ≤ (vik_1 7).toInt ∧ (vik_1 7).toInt ≤ 940 := gk_1_3
  replace gk_1_4 : rk_1.toInt = 1 → (vik_1 6).toInt = (vi 10).toInt := gk_1_4
  rcases (show (rk_1 = 1 ∧ ((vik_1 0).toInt = rk.toInt ∧ ¬ rk.toInt = -1)) ∨ (rk_1 = 0 ∧ (True)) from gk_1_0) with ⟨er9, gk_1_0⟩ | ⟨er9, gk_1_0⟩
  · refine xz_i 1 er9 ?_
    have tb : rk_1.toInt = 1 := by rw [er9]; decide
    refine lv_if_ne (tgt := 30) hx hb dX8_readOld_25 (by decide) (fun _ => ?_) (fun c => absurd c (by decide))
    refine lv_aload_n hx hb dX8_readOld_30 rfl (lv_at hl 0 rfl) ?_
    refine va_get (D := D) (ci := 8) (v := .ref (a 1)) (C := RX8) (T := TX8) (N := 3) hx hb htg inX8 hown hK.1 hP 2 rfl rfl 0 (by decide) (htg _ kw_228) (fun _ h9 => h9) rfl dX8_readOld_31 ?_
    refine va_getN (D := D) (ci := 6) (v := .int (vik_1 0)) (C := RX6) (T := TX6) (N := 14) hx hb htg inX6 hown hK.1 hP 3 rfl rfl 11 (by decide) (va_Nw.use rfl (hK.2.1 _ kn_114)) (fun _ h9 => h9) rfl dX8_readOld_34 ?_
    refine lv_istore_n (lv' := [(1, .int (vik_1 0)), (0, .ref (a 0))]) hx hb dX8_readOld_37 rfl hl (by decide) rfl (fun ls hl => ?_)
    refine lv_aload_n hx hb dX8_readOld_38 rfl (lv_at hl 1 rfl) ?_
    refine va_get (D := D) (ci := 8) (v := .ref (a 1)) (C := RX8) (T := TX8) (N := 3) hx hb htg inX8 hown hK.1 hP 2 rfl rfl 0 (by decide) (htg _ kw_228) (fun _ h9 => h9) rfl dX8_readOld_39 ?_
    refine lv_iconst (v := 0) hx hb dX8_readOld_42 (by decide) ?_
    refine lv_sipush (v := 199) hx hb dX8_readOld_43 (by decide) ?_
    obtain ⟨hC9, hPc, hDc, hFc⟩ := xcut (wc := (pre_X6_passNumber T (xa [(a 1), (a 5)]) (xa [(a 4)]) (xf [(fi 0)]) (xh []) (xv [0, 199, (vi 1), (vi 2), (vi 3), (vik_1 5), (vik_1 1), (vik_1 2), (vik_1 4), (vik_1 3), (vik_1 0), (vik_1 6), (vik_1 7)]) (xl [(vlk_1 0)]))) hP hD hS hA [3, 5] (by decide) rfl
    refine va_calli (va_runVN (As := [.int 0, .int 199]) (rest := []) ⟨hx, hb, hml, hown, htg⟩ (c_X6_passNumber l D T (xa [(a 1), (a 5)]) (xa [(a 4)]) (xf [(fi 0)]) (xh []) (xv [0, 199, (vi 1), (vi 2), (vi 3), (vik_1 5), (vik_1 1), (vik_1 2), (vik_1 4), (vik_1 3), (vik_1 0), (vik_1 6), (vik_1 7)]) (xl [(vlk_1 0)]) H.size hp0 hp1 gk_1_1 gk_1_2 gk_1_3) ⟨va_cnB 2 htg (xg_ok kw_622) rfl rfl rfl (hK.2.1 _ kn_619) (htg _ kw_2) (by decide +kernel) ⟨by rw [hR]; exact Nat.le_of_ble_eq_true rfl, by rw [hR]; exact Nat.le_of_ble_eq_true rfl⟩, htg _ kw_621, htg _ ks_16⟩ (xpreV hK hPc hDc (va_recv hK.1 hPc (ci := 6) (q0 := 0) rfl rfl)) rfl rfl hl.1 rfl (lv_room (Nat.le_of_ble_eq_true rfl)) dX8_readOld_46 ⟨by rw [hR]; exact Nat.le_of_ble_eq_true rfl, by rw [hR]; exact Nat.le_of_ble_eq_true rfl⟩) hS (fun q _ h => hFc q h) hFc (fun r9 u9 t H1 locs ht hvm hw hB hz1 hk1 hS => ?_)
    subst hw
    obtain ⟨fik_2, flk_2, vik_2, vlk_2, hP1, hD1, hG⟩ := hB
    rw [ht] at hP1
    obtain ⟨hP, hD⟩ := va_join (wr := [((a 2), .inr (7, [.int (vi 12), .int (vi 13), .ref (ex 0), .ref (ex 1), .ref (ex 2), .ref (ex 3), .ref (a 3), .ref (ex 4), .ref (ex 5), .ref (ex 6), .ref (a 6), .ref (ex 7)])), ((a 3), .inl (T 2, 9, .inr (.inl (fl 0)))), ((a 0), .inr (8, [.ref (a 1), .ref (a 2), .int (vi 0)])), ((a 4), .inl (T 2, 27, .inr (.inl (fl 1)))), ((a 6), .inl (T 1, 9, .inl (fi 1)))]) (w1 := [((a 1), .inr (6, [.ref (a 5), .ref (a 4), .int (vi 1), .int (vi 2), .int (vi 3), .int (vik_2 7), .int (vik_2 3), .int (vik_2 4), .long (vlk_2 0), .int (vik_2 6), .int (vik_2 5), .int (vik_2 2), .int (vik_2 0), .int (vik_2 1)])), ((a 5), .inl (T 0, 940, .inl (fi 0)))]) hP hD [3, 5] [0, 1, 2, 4, 6] hC9 rfl (by decide) (by decide) hk1 hFc hP1 hD1
    obtain ⟨rk_2, er9⟩ : ∃ z, z = r9 := ⟨_, rfl⟩
    subst er9
    clear hPc hDc hFc hP1 hD1 hk1 hz1 hvm ht hC9
    generalize H1 = H at hP hS ⊢
    obtain ⟨hP, hD⟩ := (show xPD D A [((a 2), .inr (7, [.int (vi 12), .int (vi 13), .ref (ex 0), .ref (ex 1), .ref (ex 2), .ref (ex 3), .ref (a 3), .ref (ex 4), .ref (ex 5), .ref (ex 6), .ref (a 6), .ref (ex 7)])), ((a 3), .inl (T 2, 9, .inr (.inl (fl 0)))), ((a 0), .inr (8, [.ref (a 1), .ref (a 2), .int (vi 0)])), ((a 4), .inl (T 2, 27, .inr (.inl (fl 1)))), ((a 6), .inl (T 1, 9, .inl (fi 1))), ((a 1), .inr (6, [.ref (a 5), .ref (a 4), .int (vi 1), .int (vi 2), .int (vi 3), .int (vik_2 7), .int (vik_2 3), .int (vik_2 4), .long (vlk_2 0), .int (vik_2 6), .int (vik_2 5), .int (vik_2 2), .int (vik_2 0), .int (vik_2 1)])), ((a 5), .inl (T 0, 940, .inl (fi 0)))] H from ⟨hP, hD⟩)
    obtain ⟨gk_2_0, gk_2_1, gk_2_2, gk_2_3, gk_2_4, gk_2_5, -⟩ := hG
    replace gk_2_5 : ∀ n m t : Nat, CC (trn (fi 0) n) n m t (vi 2) (vi 3) (vik_1 1) (vik_1 2) (vik_1 5) (vlk_1 0) (vik_1 4) (vik_1 3) → (rk_2.toInt = 1 ∧ (fNum (trn (fi 0) n) n m (0 : Int32).toInt (199 : Int32).toInt t) = 0 ∧ (vik_2 2).toInt = (sU (trn (fi 0) n) n m t) ∧ (sK (trn (fi 0) n) n m t) = 2 ∧ (0 : Int32).toInt ≤ (sU (trn (fi 0) n) n m t) ∧ (sU (trn (fi 0) n) n m t) ≤ (199 : Int32).toInt ∧ CC (trn (fi 0) n) n m (sX (trn (fi 0) n) n m t) (vi 2) (vi 3) (vik_2 3) (vik_2 4) (vik_2 7) (vlk_2 0) (vik_2 6) (vik_2 5)) ∨ (rk_2.toInt = 0 ∧ ¬ (fNum (trn (fi 0) n) n m (0 : Int32).toInt (199 : Int32).toInt t) = 0 ∧ (vik_2 0).toInt = (fNum (trn (fi 0) n) n m (0 : Int32).toInt (199 : Int32).toInt t) ∧ (vik_2 1).toInt = ((sPn (trn (fi 0) n) n m t) : Int)) := (P_X6_passNumber gk_2_5 : _)
    rw [show (0 : Int32).toInt = (0 : Int) by decide] at gk_2_5
    rw [show (199 : Int32).toInt = (199 : Int) by decide] at gk_2_5
    replace gk_2_1 : 0 ≤ (vik_2 7).toInt ∧ (vik_2 7).toInt ≤ 940 := gk_2_1
    replace gk_2_2 : 0 ≤ (vik_2 4).toInt ∧ (vik_2 4).toInt ≤ 940 := gk_2_2
    replace gk_2_3 : 0 ≤ (vik_2 1).toInt ∧ (vik_2 1).toInt ≤ 940 := gk_2_3
    replace gk_2_4 : rk_2.toInt = 1 → (vik_2 0).toInt = (vik_1 6).toInt := gk_2_4
    rcases (show (rk_2 = 1 ∧ (True)) ∨ (rk_2 = 0 ∧ (True)) from gk_2_0) with ⟨er9, gk_2_0⟩ | ⟨er9, gk_2_0⟩
    · refine xz_i 1 er9 ?_
      have tb_1 : rk_2.toInt = 1 := by rw [er9]; decide
      refine lv_if_eq (tgt := 63) hx hb dX8_readOld_49 (by decide) (fun c => absurd c (by decide)) (fun _ => ?_)
      refine lv_aload_n hx hb dX8_readOld_52 rfl (lv_at hl 1 rfl) ?_
      refine va_get (D := D) (ci := 8) (v := .ref (a 2)) (C := RX8) (T := TX8) (N := 3) hx hb htg inX8 hown hK.1 hP 2 rfl rfl 1 (by decide) (htg _ kw_229) (fun _ h9 => h9) rfl dX8_readOld_53 ?_
      refine lv_iload_n hx hb dX8_readOld_56 rfl (lv_at hl 0 rfl) ?_
      obtain ⟨hC9, hPc, hDc, hFc⟩ := xcut (wc := (pre_X7_isSoul T (xa [(a 2)]) (xa [(ex 0), (ex 1), (ex 2), (ex 3), (a 3), (ex 4), (ex 5), (ex 6), (a 6), (ex 7)]) (xf []) (xh []) (xv [(vik_1 0), (vi 12), (vi 13)]) (xl []))) hP hD hS hA [0] (by decide) rfl
      refine va_calli (va_runVN (As := [.int (vik_1 0)]) (rest := []) ⟨hx, hb, hml, hown, htg⟩ (c_X7_isSoul l D T (xa [(a 2)]) (xa [(ex 0), (ex 1), (ex 2), (ex 3), (a 3), (ex 4), (ex 5), (ex 6), (a 6), (ex 7)]) (xf []) (xh []) (xv [(vik_1 0), (vi 12), (vi 13)]) (xl []) H.size hp5 hp6) ⟨va_cnB 1 htg (xg_ok kw_664) rfl rfl rfl (hK.2.1 _ kn_661) (htg _ kw_7) (by decide +kernel) ⟨by rw [hR]; exact Nat.le_of_ble_eq_true rfl, by rw [hR]; exact Nat.le_of_ble_eq_true rfl⟩, htg _ kw_663, htg _ ks_25⟩ (xpreV hK hPc hDc (va_recv hK.1 hPc (ci := 7) (q0 := 0) rfl rfl)) rfl rfl hl.1 rfl (lv_room (Nat.le_of_ble_eq_true rfl)) dX8_readOld_57 ⟨by rw [hR]; exact Nat.le_of_ble_eq_true rfl, by rw [hR]; exact Nat.le_of_ble_eq_true rfl⟩) hS (fun q _ h => hFc q h) hFc (fun r9 u9 t H1 locs ht hvm hw hB hz1 hk1 hS => ?_)
      subst hw
      obtain ⟨fik_3, flk_3, vik_3, vlk_3, hP1, hD1, hG⟩ := hB
      rw [ht] at hP1
      obtain ⟨hP, hD⟩ := va_join (wr := [((a 3), .inl (T 2, 9, .inr (.inl (fl 0)))), ((a 0), .inr (8, [.ref (a 1), .ref (a 2), .int (vi 0)])), ((a 4), .inl (T 2, 27, .inr (.inl (fl 1)))), ((a 6), .inl (T 1, 9, .inl (fi 1))), ((a 1), .inr (6, [.ref (a 5), .ref (a 4), .int (vi 1), .int (vi 2), .int (vi 3), .int (vik_2 7), .int (vik_2 3), .int (vik_2 4), .long (vlk_2 0), .int (vik_2 6), .int (vik_2 5), .int (vik_2 2), .int (vik_2 0), .int (vik_2 1)])), ((a 5), .inl (T 0, 940, .inl (fi 0)))]) (w1 := [((a 2), .inr (7, [.int (vi 12), .int (vi 13), .ref (ex 0), .ref (ex 1), .ref (ex 2), .ref (ex 3), .ref (a 3), .ref (ex 4), .ref (ex 5), .ref (ex 6), .ref (a 6), .ref (ex 7)]))]) hP hD [0] [1, 2, 3, 4, 5, 6] hC9 rfl (by decide) (by decide) hk1 hFc hP1 hD1
      obtain ⟨rk_3, er9⟩ : ∃ z, z = r9 := ⟨_, rfl⟩
      subst er9
      clear hPc hDc hFc hP1 hD1 hk1 hz1 hvm ht hC9
      generalize H1 = H at hP hS ⊢
      obtain ⟨hP, hD⟩ := (show xPD D A [((a 3), .inl (T 2, 9, .inr (.inl (fl 0)))), ((a 0), .inr (8, [.ref (a 1), .ref (a 2), .int (vi 0)])), ((a 4), .inl (T 2, 27, .inr (.inl (fl 1)))), ((a 6), .inl (T 1, 9, .inl (fi 1))), ((a 1), .inr (6, [.ref (a 5), .ref (a 4), .int (vi 1), .int (vi 2), .int (vi 3), .int (vik_2 7), .int (vik_2 3), .int (vik_2 4), .long (vlk_2 0), .int (vik_2 6), .int (vik_2 5), .int (vik_2 2), .int (vik_2 0), .int (vik_2 1)])), ((a 5), .inl (T 0, 940, .inl (fi 0))), ((a 2), .inr (7, [.int (vi 12), .int (vi 13), .ref (ex 0), .ref (ex 1), .ref (ex 2), .ref (ex 3), .ref (a 3), .ref (ex 4), .ref (ex 5), .ref (ex 6), .ref (a 6), .ref (ex 7)]))] H from ⟨hP, hD⟩)
      obtain ⟨gk_3_0, -⟩ := hG
      rcases (show (rk_3 = 1 ∧ (0 ≤ (vik_1 0).toInt ∧ (vik_1 0).toInt < (vi 13).toInt)) ∨ (rk_3 = 0 ∧ (¬ (0 ≤ (vik_1 0).toInt ∧ (vik_1 0).toInt < (vi 13).toInt))) from gk_3_0) with ⟨er9, gk_3_0⟩ | ⟨er9, gk_3_0⟩
      · refine xz_i 1 er9 ?_
        have tb_2 : rk_3.toInt = 1 := by rw [er9]; decide
        refine lv_if_ne (tgt := 65) hx hb dX8_readOld_60 (by decide) (fun _ => ?_) (fun c => absurd c (by decide))
        refine lv_aload_n hx hb dX8_readOld_65 rfl (lv_at hl 1 rfl) ?_
        refine va_get (D := D) (ci := 8) (v := .ref (a 2)) (C := RX8) (T := TX8) (N := 3) hx hb htg inX8 hown hK.1 hP 1 rfl rfl 1 (by decide) (htg _ kw_229) (fun _ h9 => h9) rfl dX8_readOld_66 ?_
        refine va_getN (D := D) (ci := 7) (v := .ref (a 6)) (C := RX7) (T := TX7) (N := 12) hx hb htg inX7 hown hK.1 hP 6 rfl rfl 10 (by decide) (va_Nw.use rfl (hK.2.1 _ kn_192)) (fun _ h9 => h9) rfl dX8_readOld_69 ?_
        refine lv_iload_n hx hb dX8_readOld_72 rfl (lv_at hl 0 rfl) ?_
        refine lv_aload_n hx hb dX8_readOld_73 rfl (lv_at hl 1 rfl) ?_
        refine va_get (D := D) (ci := 8) (v := .ref (a 1)) (C := RX8) (T := TX8) (N := 3) hx hb htg inX8 hown hK.1 hP 1 rfl rfl 0 (by decide) (htg _ kw_228) (fun _ h9 => h9) rfl dX8_readOld_74 ?_
        refine va_getN (D := D) (ci := 6) (v := .int (vik_2 2)) (C := RX6) (T := TX6) (N := 14) hx hb htg inX6 hown hK.1 hP 4 rfl rfl 11 (by decide) (va_Nw.use rfl (hK.2.1 _ kn_114)) (fun _ h9 => h9) rfl dX8_readOld_77 ?_
        refine va_iast hx hb hK.1 hP hD hS 3 1 rfl rfl (vp_in_iff.mpr (by omega)) dX8_readOld_80 (fun H locs hP hD hS => ?_)
        obtain ⟨f80, ef80, hP, hD⟩ : ∃ f7 : Nat → Int32, f7 = upd (fi 1) (vik_1 0).toNatClampNeg ((vik_2 2) : Int32) ∧ va_P D vwCl [((a 3), .inl (T 2, 9, .inr (.inl (fl 0)))), ((a 0), .inr (8, [.ref (a 1), .ref (a 2), .int (vi 0)])), ((a 4), .inl (T 2, 27, .inr (.inl (fl 1)))), ((a 6), .inl (T 1, 9, .inl f7)), ((a 1), .inr (6, [.ref (a 5), .ref (a 4), .int (vi 1), .int (vi 2), .int (vi 3), .int (vik_2 7), .int (vik_2 3), .int (vik_2 4), .long (vlk_2 0), .int (vik_2 6), .int (vik_2 5), .int (vik_2 2), .int (vik_2 0), .int (vik_2 1)])), ((a 5), .inl (T 0, 940, .inl (fi 0))), ((a 2), .inr (7, [.int (vi 12), .int (vi 13), .ref (ex 0), .ref (ex 1), .ref (ex 2), .ref (ex 3), .ref (a 3), .ref (ex 4), .ref (ex 5), .ref (ex 6), .ref (a 6), .ref (ex 7)]))] H ∧ va_D A [((a 3), .inl (T 2, 9, .inr (.inl (fl 0)))), ((a 0), .inr (8, [.ref (a 1), .ref (a 2), .int (vi 0)])), ((a 4), .inl (T 2, 27, .inr (.inl (fl 1)))), ((a 6), .inl (T 1, 9, .inl f7)), ((a 1), .inr (6, [.ref (a 5), .ref (a 4), .int (vi 1), .int (vi 2), .int (vi 3), .int (vik_2 7), .int (vik_2 3), .int (vik_2 4), .long (vlk_2 0), .int (vik_2 6), .int (vik_2 5), .int (vik_2 2), .int (vik_2 0), .int (vik_2 1)])), ((a 5), .inl (T 0, 940, .inl (fi 0))), ((a 2), .inr (7, [.int (vi 12), .int (vi 13), .ref (ex 0), .ref (ex 1), .ref (ex 2), .ref (ex 3), .ref (a 3), .ref (ex 4), .ref (ex 5), .ref (ex 6), .ref (a 6), .ref (ex 7)]))] := ⟨_, rfl, hP, hD⟩
        refine lv_iconst (v := 1) hx hb dX8_readOld_81 (by decide) ?_
        have hP9 := hP.sub (ws' := [((a 0), .inr (8, [.ref (a 1), .ref (a 2), .int (vi 0)])), ((a 1), .inr (6, [.ref (a 5), .ref (a 4), .int (vi 1), .int (vi 2), .int (vi 3), .int (vik_2 7), .int (vik_2 3), .int (vik_2 4), .long (vlk_2 0), .int (vik_2 6), .int (vik_2 5), .int (vik_2 2), .int (vik_2 0), .int (vik_2 1)])), ((a 2), .inr (7, [.int (vi 12), .int (vi 13), .ref (ex 0), .ref (ex 1), .ref (ex 2), .ref (ex 3), .ref (a 3), .ref (ex 4), .ref (ex 5), .ref (ex 6), .ref (a 6), .ref (ex 7)])), ((a 3), .inl (T 2, 9, .inr (.inl (fl 0)))), ((a 4), .inl (T 2, 27, .inr (.inl (fl 1)))), ((a 5), .inl (T 0, 940, .inl (fi 0))), ((a 6), .inl (T 1, 9, .inl f80))]) [1, 4, 6, 0, 2, 5, 3] rfl
        have hD9 := hD.sub (ws' := [((a 0), .inr (8, [.ref (a 1), .ref (a 2), .int (vi 0)])), ((a 1), .inr (6, [.ref (a 5), .ref (a 4), .int (vi 1), .int (vi 2), .int (vi 3), .int (vik_2 7), .int (vik_2 3), .int (vik_2 4), .long (vlk_2 0), .int (vik_2 6), .int (vik_2 5), .int (vik_2 2), .int (vik_2 0), .int (vik_2 1)])), ((a 2), .inr (7, [.int (vi 12), .int (vi 13), .ref (ex 0), .ref (ex 1), .ref (ex 2), .ref (ex 3), .ref (a 3), .ref (ex 4), .ref (ex 5), .ref (ex 6), .ref (a 6), .ref (ex 7)])), ((a 3), .inl (T 2, 9, .inr (.inl (fl 0)))), ((a 4), .inl (T 2, 27, .inr (.inl (fl 1)))), ((a 5), .inl (T 0, 940, .inl (fi 0))), ((a 6), .inl (T 1, 9, .inl f80))]) [1, 4, 6, 0, 2, 5, 3] (by decide +kernel) rfl
        rw [hQ]
        exact W.zret (v := 1) hx hb hr rfl (fun t ht hW => ⟨⟨1, 1, rfl, rfl, xf [f80], xh [], xv [(vik_2 2), (vik_2 3), (vik_2 4), (vik_2 5), (vik_2 6), (vik_2 7), (vik_2 0), (vik_2 1)], xl [(vlk_2 0)], by rw [ht]; exact hP9, hD9, ⟨(Or.inl ⟨rfl, by show True; first | trivial | omega | assumption⟩), gk_2_1, gk_2_2, gk_2_3, (by show (1 : Int32).toInt = 1 → (vik_2 0).toInt = (vi 10).toInt; have k9_0 : (1 : Int32).toInt = 1 := (by decide); exact fun _ => ((gk_2_4 tb_1).trans (gk_1_4 tb))), (by unfold R_X8_readOld; exact (fun Q9 k9_0 k9_1 k9_2 k9_3 => k9_0 hp5 hp6 fik flk vik vlk rk gk_0 gk_1 fik_1 flk_1 vik_1 vlk_1 rk_1 gk_1_5 tb gk_1_0 fik_2 flk_2 vik_2 vlk_2 rk_2 gk_2_5 tb_1 gk_2_0 fik_3 flk_3 vik_3 vlk_3 rk_3 tb_2 gk_3_0 f80 ef80 rfl rfl rfl rfl rfl rfl rfl rfl rfl rfl rfl)), trivial⟩⟩, hS.F ht⟩) hS.2.2 dX8_readOld_82
      · refine xz_i 0 er9 ?_
        have tb_2 : rk_3.toInt = 0 := by rw [er9]; decide
        refine lv_if_ne (tgt := 65) hx hb dX8_readOld_60 (by decide) (fun c => absurd (by decide) c) (fun _ => ?_)
        refine lv_iconst (v := 0) hx hb dX8_readOld_63 (by decide) ?_
        have hP9 := hP.sub (ws' := [((a 0), .inr (8, [.ref (a 1), .ref (a 2), .int (vi 0)])), ((a 1), .inr (6, [.ref (a 5), .ref (a 4), .int (vi 1), .int (vi 2), .int (vi 3), .int (vik_2 7), .int (vik_2 3), .int (vik_2 4), .long (vlk_2 0), .int (vik_2 6), .int (vik_2 5), .int (vik_2 2), .int (vik_2 0), .int (vik_2 1)])), ((a 2), .inr (7, [.int (vi 12), .int (vi 13), .ref (ex 0), .ref (ex 1), .ref (ex 2), .ref (ex 3), .ref (a 3), .ref (ex 4), .ref (ex 5), .ref (ex 6), .ref (a 6), .ref (ex 7)])), ((a 3), .inl (T 2, 9, .inr (.inl (fl 0)))), ((a 4), .inl (T 2, 27, .inr (.inl (fl 1)))), ((a 5), .inl (T 0, 940, .inl (fi 0))), ((a 6), .inl (T 1, 9, .inl (fi 1)))]) [1, 4, 6, 0, 2, 5, 3] rfl
        have hD9 := hD.sub (ws' := [((a 0), .inr (8, [.ref (a 1), .ref (a 2), .int (vi 0)])), ((a 1), .inr (6, [.ref (a 5), .ref (a 4), .int (vi 1), .int (vi 2), .int (vi 3), .int (vik_2 7), .int (vik_2 3), .int (vik_2 4), .long (vlk_2 0), .int (vik_2 6), .int (vik_2 5), .int (vik_2 2), .int (vik_2 0), .int (vik_2 1)])), ((a 2), .inr (7, [.int (vi 12), .int (vi 13), .ref (ex 0), .ref (ex 1), .ref (ex 2), .ref (ex 3), .ref (a 3), .ref (ex 4), .ref (ex 5), .ref (ex 6), .ref (a 6), .ref (ex 7)])), ((a 3), .inl (T 2, 9, .inr (.inl (fl 0)))), ((a 4), .inl (T 2, 27, .inr (.inl (fl 1)))), ((a 5), .inl (T 0, 940, .inl (fi 0))), ((a 6), .inl (T 1, 9, .inl (fi 1)))]) [1, 4, 6, 0, 2, 5, 3] (by decide +kernel) rfl
        rw [hQ]
        exact W.zret (v := 0) hx hb hr rfl (fun t ht hW => ⟨⟨0, 0, rfl, rfl, xf [(fi 1)], xh [], xv [(vik_2 2), (vik_2 3), (vik_2 4), (vik_2 5), (vik_2 6), (vik_2 7), (vik_2 0), (vik_2 1)], xl [(vlk_2 0)], by rw [ht]; exact hP9, hD9, ⟨(Or.inr ⟨rfl, by show True; first | trivial | omega | assumption⟩), gk_2_1, gk_2_2, gk_2_3, (by show (0 : Int32).toInt = 1 → (vik_2 0).toInt = (vi 10).toInt; have k9_0 : (0 : Int32).toInt = 0 := (by decide); exact fun h9 => absurd h9 (by decide)), (by unfold R_X8_readOld; exact (fun Q9 k9_0 k9_1 k9_2 k9_3 => k9_1 hp5 hp6 fik flk vik vlk rk gk_0 gk_1 fik_1 flk_1 vik_1 vlk_1 rk_1 gk_1_5 tb gk_1_0 fik_2 flk_2 vik_2 vlk_2 rk_2 gk_2_5 tb_1 gk_2_0 fik_3 flk_3 vik_3 vlk_3 rk_3 tb_2 gk_3_0 rfl rfl rfl rfl rfl rfl rfl rfl rfl rfl rfl)), trivial⟩⟩, hS.F ht⟩) hS.2.2 dX8_readOld_64
    · refine xz_i 0 er9 ?_
      have tb_1 : rk_2.toInt = 0 := by rw [er9]; decide
      refine lv_if_eq (tgt := 63) hx hb dX8_readOld_49 (by decide) (fun _ => ?_) (fun c => absurd (by decide) c)
      refine lv_iconst (v := 0) hx hb dX8_readOld_63 (by decide) ?_
      have hP9 := hP.sub (ws' := [((a 0), .inr (8, [.ref (a 1), .ref (a 2), .int (vi 0)])), ((a 1), .inr (6, [.ref (a 5), .ref (a 4), .int (vi 1), .int (vi 2), .int (vi 3), .int (vik_2 7), .int (vik_2 3), .int (vik_2 4), .long (vlk_2 0), .int (vik_2 6), .int (vik_2 5), .int (vik_2 2), .int (vik_2 0), .int (vik_2 1)])), ((a 2), .inr (7, [.int (vi 12), .int (vi 13), .ref (ex 0), .ref (ex 1), .ref (ex 2), .ref (ex 3), .ref (a 3), .ref (ex 4), .ref (ex 5), .ref (ex 6), .ref (a 6), .ref (ex 7)])), ((a 3), .inl (T 2, 9, .inr (.inl (fl 0)))), ((a 4), .inl (T 2, 27, .inr (.inl (fl 1)))), ((a 5), .inl (T 0, 940, .inl (fi 0))), ((a 6), .inl (T 1, 9, .inl (fi 1)))]) [2, 5, 0, 1, 3, 6, 4] rfl
      have hD9 := hD.sub (ws' := [((a 0), .inr (8, [.ref (a 1), .ref (a 2), .int (vi 0)])), ((a 1), .inr (6, [.ref (a 5), .ref (a 4), .int (vi 1), .int (vi 2), .int (vi 3), .int (vik_2 7), .int (vik_2 3), .int (vik_2 4), .long (vlk_2 0), .int (vik_2 6), .int (vik_2 5), .int (vik_2 2), .int (vik_2 0), .int (vik_2 1)])), ((a 2), .inr (7, [.int (vi 12), .int (vi 13), .ref (ex 0), .ref (ex 1), .ref (ex 2), .ref (ex 3), .ref (a 3), .ref (ex 4), .ref (ex 5), .ref (ex 6), .ref (a 6), .ref (ex 7)])), ((a 3), .inl (T 2, 9, .inr (.inl (fl 0)))), ((a 4), .inl (T 2, 27, .inr (.inl (fl 1)))), ((a 5), .inl (T 0, 940, .inl (fi 0))), ((a 6), .inl (T 1, 9, .inl (fi 1)))]) [2, 5, 0, 1, 3, 6, 4] (by decide +kernel) rfl
      rw [hQ]
      exact W.zret (v := 0) hx hb hr rfl (fun t ht hW => ⟨⟨0, 0, rfl, rfl, xf [(fi 1)], xh [], xv [(vik_2 2), (vik_2 3), (vik_2 4), (vik_2 5), (vik_2 6), (vik_2 7), (vik_2 0), (vik_2 1)], xl [(vlk_2 0)], by rw [ht]; exact hP9, hD9, ⟨(Or.inr ⟨rfl, by show True; first | trivial | omega | assumption⟩), gk_2_1, gk_2_2, gk_2_3, (by show (0 : Int32).toInt = 1 → (vik_2 0).toInt = (vi 10).toInt; have k9_0 : (0 : Int32).toInt = 0 := (by decide); exact fun h9 => absurd h9 (by decide)), (by unfold R_X8_readOld; exact (fun Q9 k9_0 k9_1 k9_2 k9_3 => k9_2 hp5 hp6 fik flk vik vlk rk gk_0 gk_1 fik_1 flk_1 vik_1 vlk_1 rk_1 gk_1_5 tb gk_1_0 fik_2 flk_2 vik_2 vlk_2 rk_2 gk_2_5 tb_1 gk_2_0 rfl rfl rfl rfl rfl rfl rfl rfl rfl rfl rfl)), trivial⟩⟩, hS.F ht⟩) hS.2.2 dX8_readOld_64
  · refine xz_i 0 er9 ?_
    have tb : rk_1.toInt = 0 := by rw [er9]; decide
    refine lv_if_ne (tgt := 30) hx hb dX8_readOld_25 (by decide) (fun c => absurd (by decide) c) (fun _ => ?_)
    refine lv_iconst (v := 0) hx hb dX8_readOld_28 (by decide) ?_
    have hP9 := hP.sub (ws' := [((a 0), .inr (8, [.ref (a 1), .ref (a 2), .int (vi 0)])), ((a 1), .inr (6, [.ref (a 5), .ref (a 4), .int (vi 1), .int (vi 2), .int (vi 3), .int (vik_1 5), .int (vik_1 1), .int (vik_1 2), .long (vlk_1 0), .int (vik_1 4), .int (vik_1 3), .int (vik_1 0), .int (vik_1 6), .int (vik_1 7)])), ((a 2), .inr (7, [.int (vi 12), .int (vi 13), .ref (ex 0), .ref (ex 1), .ref (ex 2), .ref (ex 3), .ref (a 3), .ref (ex 4), .ref (ex 5), .ref (ex 6), .ref (a 6), .ref (ex 7)])), ((a 3), .inl (T 2, 9, .inr (.inl (fl 0)))), ((a 4), .inl (T 2, 27, .inr (.inl (fl 1)))), ((a 5), .inl (T 0, 940, .inl (fi 0))), ((a 6), .inl (T 1, 9, .inl (fi 1)))]) [2, 3, 0, 1, 4, 5, 6] rfl
    have hD9 := hD.sub (ws' := [((a 0), .inr (8, [.ref (a 1), .ref (a 2), .int (vi 0)])), ((a 1), .inr (6, [.ref (a 5), .ref (a 4), .int (vi 1), .int (vi 2), .int (vi 3), .int (vik_1 5), .int (vik_1 1), .int (vik_1 2), .long (vlk_1 0), .int (vik_1 4), .int (vik_1 3), .int (vik_1 0), .int (vik_1 6), .int (vik_1 7)])), ((a 2), .inr (7, [.int (vi 12), .int (vi 13), .ref (ex 0), .ref (ex 1), .ref (ex 2), .ref (ex 3), .ref (a 3), .ref (ex 4), .ref (ex 5), .ref (ex 6), .ref (a 6), .ref (ex 7)])), ((a 3), .inl (T 2, 9, .inr (.inl (fl 0)))), ((a 4), .inl (T 2, 27, .inr (.inl (fl 1)))), ((a 5), .inl (T 0, 940, .inl (fi 0))), ((a 6), .inl (T 1, 9, .inl (fi 1)))]) [2, 3, 0, 1, 4, 5, 6] (by decide +kernel) rfl
    rw [hQ]
    exact W.zret (v := 0) hx hb hr rfl (fun t ht hW => ⟨⟨0, 0, rfl, rfl, xf [(fi 1)], xh [], xv [(vik_1 0), (vik_1 1), (vik_1 2), (vik_1 3), (vik_1 4), (vik_1 5), (vik_1 6), (vik_1 7)], xl [(vlk_1 0)], by rw [ht]; exact hP9, hD9, ⟨(Or.inr ⟨rfl, by show True; first | trivial | omega | assumption⟩), gk_1_1, gk_1_2, gk_1_3, (by show (0 : Int32).toInt = 1 → (vik_1 6).toInt = (vi 10).toInt; have k9_0 : (0 : Int32).toInt = 0 := (by decide); exact fun h9 => absurd h9 (by decide)), (by unfold R_X8_readOld; exact (fun Q9 k9_0 k9_1 k9_2 k9_3 => k9_3 hp5 hp6 fik flk vik vlk rk gk_0 gk_1 fik_1 flk_1 vik_1 vlk_1 rk_1 gk_1_5 tb gk_1_0 rfl rfl rfl rfl rfl rfl rfl rfl rfl rfl rfl)), trivial⟩⟩, hS.F ht⟩) hS.2.2 dX8_readOld_29
