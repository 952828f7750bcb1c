abbrev pre_J1_charAt_3b067_18 (T : Nat → ClassId) (a ex : Nat → Nat) (fi : Nat → Nat → Int32) (fl : Nat → Nat → Int64) (vi : Nat → Int32) (vl : Nat → Int64) : va_W := []
set_option maxHeartbeats 8000000 in
set_option maxRecDepth 100000 in
theorem c_J1_charAt_3b067_18 (l : Launch) (D : va_G) (T : Nat → ClassId) (a ex : Nat → Nat) (fi : Nat → Nat → Int32) (fl : Nat → Nat → Int64) (vi : Nat → Int32) (vl : Nat → Int64) (kK kV : Nat → Nat) (sz : Nat) (hp0 : 0 ≤ (vi 0).toInt ∧ (vi 0).toInt ≤ 2) : Met l yJ1_charAt_3b067 (xw yJ1_charAt_3b067 cJ1_charAt_3b067 2 (some .char)) ({ frames := 2, cells := 0, slots := 0, locals := 51 }) (xPs D T kK kV [.ref (kV 28), .int (vi 0)] sz (pre_J1_charAt_3b067_18 T a ex fi fl vi vl)) (va_Qi (fun r u => r = u) (xC D (va_A (pre_J1_charAt_3b067_18 T a ex fi fl vi vl) sz) (fun fj fm vj vm => []) (fun (r : Int32) (fj : Nat → Nat → Int32) (fm : Nat → Nat → Int64) (vj : Nat → Int32) (vm : Nat → Int64) => narrow .char (.int r) = .int r ∧ R_J1_charAt_3b067_18 fi fl vi vl r fj fm vj vm ∧ True)) (va_A (pre_J1_charAt_3b067_18 T a ex fi fl vi vl) sz)) 0 0 (va_A (pre_J1_charAt_3b067_18 T a ex fi fl vi vl) sz) := by
  refine xofW (cc := cJ1_charAt_3b067) (maxL := 2) (ret := (some .char)) (by decide) rfl ?_
  intro p e s m args below meth c s₁ R Q hR hQ B hml hv
  obtain ⟨rfl, hsz, hP, hK, hD0, hT⟩ := hv
  have hx := B.exec
  have hb := B.bytes
  have hr := B.returns
  have hts := atoms_spec (ws := xw yJ1_charAt_3b067 cJ1_charAt_3b067 2 (some .char)) B.pre
  have htg : ∀ w ∈ xg, w.before _ s = true := fun w h => hts w (List.mem_cons_of_mem _ h)
  have hown : s.vm.findClass RJ1 = some m.cls := findClass_of_methodNamed B.named
  have hlocks := B.notSynchronized
  subst hsz
  have hD := hD0.self (sz := s.heap.size)
  generalize hAe : va_A (pre_J1_charAt_3b067_18 T a ex fi fl vi vl) s.heap.size = A at hD hQ hT
  have hA : ∀ q : Nat, s.heap.size ≤ q → A q := fun q h => by rw [← hAe]; exact Or.inr h
  have hS : va_S A s.heap s.heap [] := va_S.rf
  replace hP : va_P D vwCl [] s.heap := hP
  replace hD : va_D A [] := hD
  have hl := lv_entry ([.ref (kV 28), .int (vi 0)]) (n := 2) (Nat.le_of_ble_eq_true rfl)
  rw [lg_entry_eq]
  generalize (lg_sl ([.ref (kV 28), .int (vi 0)]) ++ List.replicate (2 - (lg_sl ([.ref (kV 28), .int (vi 0)])).length) Slot.unset).toArray = ls at hl ⊢
  replace hl : lv_has ls 2 [(0, .ref (kV 28)), (1, .int (vi 0))] := hl
  refine lv_iload_n hx hb dJ1_charAt_3b067_0 rfl (lv_at hl 1 rfl) ?_
  refine lv_aload_n hx hb dJ1_charAt_3b067_1 rfl (lv_at hl 0 rfl) ?_
  refine va_tlen (v := 3) hx hb (hT.2.1 28 (by decide)).2.2.2 hS (by decide) dJ1_charAt_3b067_2 ?_
  obtain ⟨hC9, hPc, hDc, hFc⟩ := xcut (wc := (pre_J0_checkIndex_df160_4 T (xa []) (xa []) (xf []) (xh []) (xv [(vi 0)]) (xl []))) hP hD hS hA [] (by decide) rfl
  refine va_callv (va_runS (As := [.int (vi 0), .int 3]) (rest := []) ⟨hx, hb, hml, hown, htg⟩ (c_J0_checkIndex_df160_4 l D T (xa []) (xa []) (xf []) (xh []) (xv [(vi 0)]) (xl []) kK kV s.heap.size hp0) ⟨callB_of 2 htg (xg_ok kw_67) rfl rfl rfl (htg _ kw_3) (htg _ kw_65) (by decide +kernel) ⟨by rw [hR]; exact Nat.le_of_ble_eq_true rfl, by rw [hR]; exact Nat.le_of_ble_eq_true rfl⟩, htg _ kw_66⟩ (xpreSs hK hPc hDc hT hFc hS) rfl rfl hl.1 rfl (lv_room (Nat.le_of_ble_eq_true rfl)) dJ1_charAt_3b067_3 ⟨by rw [hR]; exact Nat.le_of_ble_eq_true rfl, by rw [hR]; exact Nat.le_of_ble_eq_true rfl⟩) hS (fun q _ h => hFc q h) hFc (fun u9 t H1 locs ht hvm hw hB hz1 hk1 hS => ?_)
  obtain ⟨fik, flk, vik, vlk, hP1, hD1, hG⟩ := hB
  rw [ht] at hP1
  obtain ⟨hP, hD⟩ := va_join (wr := []) (w1 := []) hP hD [] [] hC9 rfl (by decide) (by decide) hk1 hFc hP1 hD1
  clear hPc hDc hFc hP1 hD1 hk1 hz1 hvm ht hC9
  generalize H1 = H at hP hS ⊢
  obtain ⟨hP, hD⟩ := (show xPD D A [] H from ⟨hP, hD⟩)
  obtain ⟨uk, eu9⟩ : ∃ z, z = u9 := ⟨_, rfl⟩
  subst eu9
  clear hG
  refine lv_aload_n hx hb dJ1_charAt_3b067_6 rfl (lv_at hl 0 rfl) ?_
  refine lv_iload_n hx hb dJ1_charAt_3b067_7 rfl (lv_at hl 1 rfl) ?_
  refine va_tb hx hb (hT.2.1 28 (by decide)).2.2.2 hS (show vp_in (vi 0) 3 from (vp_in_iff.mpr (by omega))) rfl dJ1_charAt_3b067_8 ?_
  refine lv_topi (fun z8 ez8 => ?_)
  refine lv_sipush (v := 255) hx hb dJ1_charAt_3b067_9 (by decide) ?_
  refine lv_iand hx hb dJ1_charAt_3b067_12 ?_
  refine lv_topi (fun z12 ez12 => ?_)
  have tz12 : 0 ≤ z12.toInt ∧ z12.toInt ≤ 255 := by rw [ez12]; exact xand255 _
  refine lv_i2c hx hb dJ1_charAt_3b067_13 rfl ?_
  refine lv_topi (fun z13 ez13 => ?_)
  have nz13 : narrow .char (.int z13) = .int z13 := by rw [ez13]; exact pk_nc _
  have hP9 := hP.sub (ws' := []) [] rfl
  have hD9 := hD.sub (ws' := []) [] (by decide +kernel) rfl
  rw [hQ]
  exact W.zret (v := z13) hx hb hr nz13 (fun t ht hW => ⟨⟨z13, z13, rfl, rfl, xf [], xh [], xv [], xl [], by rw [ht]; exact hP9, hD9, ⟨nz13, (by unfold R_J1_charAt_3b067_18; exact (fun Q9 k9_0 => k9_0 hp0 fik flk vik vlk uk z8 ez8 z12 ez12 z13 ez13 rfl)), trivial⟩⟩, hS.F ht⟩) hS.2.2 dJ1_charAt_3b067_14
abbrev pre_J0_charAt_5068e_18 (T : Nat → ClassId) (a ex : Nat → Nat) (fi : Nat → Nat → Int32) (fl : Nat → Nat → Int64) (vi : Nat → Int32) (vl : Nat → Int64) : va_W := []
set_option maxHeartbeats 8000000 in
set_option maxRecDepth 100000 in
theorem c_J0_charAt_5068e_18 (l : Launch) (D : va_G) (T : Nat → ClassId) (a ex : Nat → Nat) (fi : Nat → Nat → Int32) (fl : Nat → Nat → Int64) (vi : Nat → Int32) (vl : Nat → Int64) (kK kV : Nat → Nat) (sz : Nat) (hp0 : 0 ≤ (vi 0).toInt ∧ (vi 0).toInt ≤ 2) : Met l yJ0_charAt_5068e (xw yJ0_charAt_5068e cJ0_charAt_5068e 2 (some .char)) ({ frames := 3, cells := 0, slots := 0, locals := 76 }) (xPs D T kK kV [.ref (kK 28), .int (vi 0)] sz (pre_J0_charAt_5068e_18 T a ex fi fl vi vl)) (va_Qi (fun r u => r = u) (xC D (va_A (pre_J0_charAt_5068e_18 T a ex fi fl vi vl) sz) (fun fj fm vj vm => []) (fun (r : Int32) (fj : Nat → Nat → Int32) (fm : Nat → Nat → Int64) (vj : Nat → Int32) (vm : Nat → Int64) => narrow .char (.int r) = .int r ∧ R_J0_charAt_5068e_18 fi fl vi vl r fj fm vj vm ∧ True)) (va_A (pre_J0_charAt_5068e_18 T a ex fi fl vi vl) sz)) 0 0 (va_A (pre_J0_charAt_5068e_18 T a ex fi fl vi vl) sz) := by
  refine xofW (cc := cJ0_charAt_5068e) (maxL := 2) (ret := (some .char)) (by decide) rfl ?_
  intro p e s m args below meth c s₁ R Q hR hQ B hml hv
  obtain ⟨rfl, hsz, hP, hK, hD0, hT⟩ := hv
  have hx := B.exec
  have hb := B.bytes
  have hr := B.returns
  have hts := atoms_spec (ws := xw yJ0_charAt_5068e cJ0_charAt_5068e 2 (some .char)) B.pre
  have htg : ∀ w ∈ xg, w.before _ s = true := fun w h => hts w (List.mem_cons_of_mem _ h)
  have hown : s.vm.findClass RJ0 = some m.cls := findClass_of_methodNamed B.named
  have hlocks := B.notSynchronized
  subst hsz
  have hD := hD0.self (sz := s.heap.size)
  generalize hAe : va_A (pre_J0_charAt_5068e_18 T a ex fi fl vi vl) s.heap.size = A at hD hQ hT
  have hA : ∀ q : Nat, s.heap.size ≤ q → A q := fun q h => by rw [← hAe]; exact Or.inr h
  have hS : va_S A s.heap s.heap [] := va_S.rf
  replace hP : va_P D vwCl [] s.heap := hP
  replace hD : va_D A [] := hD
  have hl := lv_entry ([.ref (kK 28), .int (vi 0)]) (n := 2) (Nat.le_of_ble_eq_true rfl)
  rw [lg_entry_eq]
  generalize (lg_sl ([.ref (kK 28), .int (vi 0)]) ++ List.replicate (2 - (lg_sl ([.ref (kK 28), .int (vi 0)])).length) Slot.unset).toArray = ls at hl ⊢
  replace hl : lv_has ls 2 [(0, .ref (kK 28)), (1, .int (vi 0))] := hl
  refine lv_aload_n hx hb dJ0_charAt_5068e_0 rfl (lv_at hl 0 rfl) ?_
  obtain ⟨hC9, hPc, hDc, hFc⟩ := xcut (wc := (pre_J0_isLatin1_aae02_18 T (xa []) (xa []) (xf []) (xh []) (xv []) (xl []))) hP hD hS hA [] (by decide) rfl
  refine va_calli (va_runV (As := []) (rest := []) ⟨hx, hb, hml, hown, htg⟩ (c_J0_isLatin1_aae02_18 l D T (xa []) (xa []) (xf []) (xh []) (xv []) (xl []) kK kV s.heap.size) ⟨callB_of 0 htg (xg_ok kw_61) rfl rfl rfl (htg _ kw_3) (htg _ kw_58) (by decide +kernel) ⟨by rw [hR]; exact Nat.le_of_ble_eq_true rfl, by rw [hR]; exact Nat.le_of_ble_eq_true rfl⟩, htg _ kw_59, htg _ kw_60⟩ (xpreVs hK hPc hDc hT hFc hS (xT.recv hT 28 (by decide) hS)) rfl rfl hl.1 rfl (lv_room (Nat.le_of_ble_eq_true rfl)) dJ0_charAt_5068e_1 ⟨by rw [hR]; exact Nat.le_of_ble_eq_true rfl, by rw [hR]; exact Nat.le_of_ble_eq_true rfl⟩) hS (fun q _ h => hFc q h) hFc (fun r9 u9 t H1 locs ht hvm hw hB hz1 hk1 hS => ?_)
  subst hw
  obtain ⟨fik, flk, vik, vlk, hP1, hD1, hG⟩ := hB
  rw [ht] at hP1
  obtain ⟨hP, hD⟩ := va_join (wr := []) (w1 := []) hP hD [] [] hC9 rfl (by decide) (by decide) hk1 hFc hP1 hD1
  obtain ⟨rk, er9⟩ : ∃ z, z = r9 := ⟨_, rfl⟩
  subst er9
  clear hPc hDc hFc hP1 hD1 hk1 hz1 hvm ht hC9
  generalize H1 = H at hP hS ⊢
  obtain ⟨hP, hD⟩ := (show xPD D A [] H from ⟨hP, hD⟩)
  obtain ⟨gk_0, -⟩ := hG
  replace gk_0 : rk = 1 := gk_0
  refine xz_i 1 gk_0 ?_
  refine lv_if_eq (tgt := 16) hx hb dJ0_charAt_5068e_4 (by decide) (fun c => absurd c (by decide)) (fun _ => ?_)
  refine lv_aload_n hx hb dJ0_charAt_5068e_7 rfl (lv_at hl 0 rfl) ?_
  refine vk_getf hx hb (hT.2.1 28 (by decide)).2.2.1 hS hown (htg _ kw_2030) (fun _ h9 => h9) dJ0_charAt_5068e_8 ?_
  refine lv_iload_n hx hb dJ0_charAt_5068e_11 rfl (lv_at hl 1 rfl) ?_
  obtain ⟨hC9, hPc, hDc, hFc⟩ := xcut (wc := (pre_J1_charAt_3b067_18 T (xa []) (xa []) (xf []) (xh []) (xv [(vi 0)]) (xl []))) hP hD hS hA [] (by decide) rfl
  refine va_calli (va_runS (As := [.ref (kV 28), .int (vi 0)]) (rest := []) ⟨hx, hb, hml, hown, htg⟩ (c_J1_charAt_3b067_18 l D T (xa []) (xa []) (xf []) (xh []) (xv [(vi 0)]) (xl []) kK kV H.size hp0) ⟨callB_of 2 htg (xg_ok kw_64) rfl rfl rfl (htg _ kw_4) (htg _ kw_62) (by decide +kernel) ⟨by rw [hR]; exact Nat.le_of_ble_eq_true rfl, by rw [hR]; exact Nat.le_of_ble_eq_true rfl⟩, htg _ kw_63⟩ (xpreSs hK hPc hDc hT hFc hS) rfl rfl hl.1 rfl (lv_room (Nat.le_of_ble_eq_true rfl)) dJ0_charAt_5068e_12 ⟨by rw [hR]; exact Nat.le_of_ble_eq_true rfl, by rw [hR]; exact Nat.le_of_ble_eq_true rfl⟩) hS (fun q _ h => hFc q h) hFc (fun r9 u9 t H1 locs ht hvm hw hB hz1 hk1 hS => ?_)
  subst hw
  obtain ⟨fik_1, flk_1, vik_1, vlk_1, hP1, hD1, hG⟩ := hB
  rw [ht] at hP1
  obtain ⟨hP, hD⟩ := va_join (wr := []) (w1 := []) hP hD [] [] hC9 rfl (by decide) (by decide) hk1 hFc hP1 hD1
  obtain ⟨rk_1, er9⟩ : ∃ z, z = r9 := ⟨_, rfl⟩
  subst er9
  clear hPc hDc hFc hP1 hD1 hk1 hz1 hvm ht hC9
  generalize H1 = H at hP hS ⊢
  obtain ⟨hP, hD⟩ := (show xPD D A [] H from ⟨hP, hD⟩)
  obtain ⟨gk_1_0, gk_1_1, -⟩ := hG
  replace gk_1_1 : rk_1 = (sBy.getD 28 []).getD ((vi 0).toInt).toNat 0 := (P_J1_charAt_3b067_18 gk_1_1 : _)
  replace gk_1_0 : narrow .char (.int rk_1) = .int rk_1 := gk_1_0
  have hP9 := hP.sub (ws' := []) [] rfl
  have hD9 := hD.sub (ws' := []) [] (by decide +kernel) rfl
  rw [hQ]
  exact W.zret (v := rk_1) hx hb hr gk_1_0 (fun t ht hW => ⟨⟨rk_1, rk_1, rfl, rfl, xf [], xh [], xv [], xl [], by rw [ht]; exact hP9, hD9, ⟨gk_1_0, (by unfold R_J0_charAt_5068e_18; exact (fun Q9 k9_0 => k9_0 hp0 fik flk vik vlk rk gk_0 fik_1 flk_1 vik_1 vlk_1 rk_1 gk_1_1 rfl)), trivial⟩⟩, hS.F ht⟩) hS.2.2 dJ0_charAt_5068e_15
abbrev pre_X6_isWord_18 (T : Nat → ClassId) (a ex : Nat → Nat) (fi : Nat → Nat → Int32) (fl : Nat → Nat → Int64) (vi : Nat → Int32) (vl : Nat → Int64) : va_W := [((a 0), .inr (6, [.ref (ex 0), .ref (ex 1), .int (vi 0), .int (vi 1), .int (vi 2), .int (vi 3), .int (vi 4), .int (vi 5), .long (vl 0), .int (vi 6), .int (vi 7), .int (vi 8), .int (vi 9), .int (vi 10)]))]
set_option maxHeartbeats 8000000 in
set_option maxRecDepth 100000 in
theorem c_X6_isWord_18 (l : Launch) (D : va_G) (T : Nat → ClassId) (a ex : Nat → Nat) (fi : Nat → Nat → Int32) (fl : Nat → Nat → Int64) (vi : Nat → Int32) (vl : Nat → Int64) (kK kV : Nat → Nat) (sz : Nat) (hp0 : 0 ≤ (vi 1).toInt ∧ (vi 1).toInt ≤ 940) (hp1 : 0 ≤ (vi 2).toInt ∧ (vi 2).toInt ≤ 940) (hp2 : 0 ≤ (vi 3).toInt ∧ (vi 3).toInt ≤ 940) (hp3 : 0 ≤ (vi 5).toInt ∧ (vi 5).toInt ≤ 940) (hp4 : 0 ≤ (vi 10).toInt ∧ (vi 10).toInt ≤ 940) : Met l yX6_isWord (xw yX6_isWord cX6_isWord 5 (some .boolean)) ({ frames := 4, cells := 0, slots := 0, locals := 101 }) (xPs D T kK kV [.ref (a 0), .ref (kK 28)] sz (pre_X6_isWord_18 T a ex fi fl vi vl)) (va_Qi (fun r u => r = u) (xC D (va_A (pre_X6_isWord_18 T a ex fi fl vi vl) sz) (fun fj fm vj vm => [((a 0), .inr (6, [.ref (ex 0), .ref (ex 1), .int (vi 0), .int (vi 1), .int (vi 2), .int (vi 3), .int (vi 4), .int (vi 5), .long (vl 0), .int (vi 6), .int (vi 7), .int (vi 8), .int (vi 9), .int (vi 10)]))]) (fun (r : Int32) (fj : Nat → Nat → Int32) (fm : Nat → Nat → Int64) (vj : Nat → Int32) (vm : Nat → Int64) => ((r = 1 ∧ (True)) ∨ (r = 0 ∧ (True))) ∧ R_X6_isWord_18 fi fl vi vl r fj fm vj vm ∧ True)) (va_A (pre_X6_isWord_18 T a ex fi fl vi vl) sz)) 0 0 (va_A (pre_X6_isWord_18 T a ex fi fl vi vl) sz) := by
  refine xofW (cc := cX6_isWord) (maxL := 5) (ret := (some .boolean)) (by decide) rfl ?_
  intro p e s m args below meth c s₁ R Q hR hQ B hml hv
  obtain ⟨rfl, hsz, hP, hK, hD0, hT⟩ := hv
  have hx := B.exec
  have hb := B.bytes
  have hr := B.returns
  have hts := atoms_spec (ws := xw yX6_isWord cX6_isWord 5 (some .boolean)) B.pre
  have htg : ∀ w ∈ xg, w.before _ s = true := fun w h => hts w (List.mem_cons_of_mem _ h)
  have hown : s.vm.findClass RX6 = some m.cls := findClass_of_methodNamed B.named
  have hlocks := B.notSynchronized
  subst hsz
  have hD := hD0.self (sz := s.heap.size)
  generalize hAe : va_A (pre_X6_isWord_18 T a ex fi fl vi vl) s.heap.size = A at hD hQ hT
  have hA : ∀ q : Nat, s.heap.size ≤ q → A q := fun q h => by rw [← hAe]; exact Or.inr h
  have hS : va_S A s.heap s.heap [] := va_S.rf
  replace hP : va_P D vwCl [((a 0), .inr (6, [.ref (ex 0), .ref (ex 1), .int (vi 0), .int (vi 1), .int (vi 2), .int (vi 3), .int (vi 4), .int (vi 5), .long (vl 0), .int (vi 6), .int (vi 7), .int (vi 8), .int (vi 9), .int (vi 10)]))] s.heap := hP
  replace hD : va_D A [((a 0), .inr (6, [.ref (ex 0), .ref (ex 1), .int (vi 0), .int (vi 1), .int (vi 2), .int (vi 3), .int (vi 4), .int (vi 5), .long (vl 0), .int (vi 6), .int (vi 7), .int (vi 8), .int (vi 9), .int (vi 10)]))] := hD
  have hl := lv_entry ([.ref (a 0), .ref (kK 28)]) (n := 5) (Nat.le_of_ble_eq_true rfl)
  rw [lg_entry_eq]
  generalize (lg_sl ([.ref (a 0), .ref (kK 28)]) ++ List.replicate (5 - (lg_sl ([.ref (a 0), .ref (kK 28)])).length) Slot.unset).toArray = ls at hl ⊢
  replace hl : lv_has ls 5 [(0, .ref (a 0)), (1, .ref (kK 28))] := hl
  refine lv_lconst (v := 0) hx hb dX6_isWord_0 (by decide) ?_
  refine lv_lstore_n (lv' := [(2, .long 0), (0, .ref (a 0)), (1, .ref (kK 28))]) hx hb dX6_isWord_1 rfl hl (by decide) rfl (fun ls hl => ?_)
  refine lv_iconst (v := 0) hx hb dX6_isWord_2 (by decide) ?_
  refine lv_istore (lv' := [(4, .int 0), (2, .long 0), (0, .ref (a 0)), (1, .ref (kK 28))]) hx hb dX6_isWord_3 hl (by decide) rfl (fun ls hl => ?_)
  have lp : ∀ (kn : Nat) (w4 : Int32) (w2 : Int64) (H : Heap) (locs : List Loc) (ls : Array Slot), (0 ≤ w4.toInt ∧ w4.toInt ≤ 3) → (w2 = pkw (sBy.getD 28 []) (w4.toInt).toNat) → (2147483648 - w4.toInt).toNat = kn → va_P D vwCl [((a 0), .inr (6, [.ref (ex 0), .ref (ex 1), .int (vi 0), .int (vi 1), .int (vi 2), .int (vi 3), .int (vi 4), .int (vi 5), .long (vl 0), .int (vi 6), .int (vi 7), .int (vi 8), .int (vi 9), .int (vi 10)]))] H → va_D A [((a 0), .inr (6, [.ref (ex 0), .ref (ex 1), .int (vi 0), .int (vi 1), .int (vi 2), .int (vi 3), .int (vi 4), .int (vi 5), .long (vl 0), .int (vi 6), .int (vi 7), .int (vi 8), .int (vi 9), .int (vi 10)]))] → va_S A s.heap H locs → lv_has ls 5 [(4, .int w4), (2, .long w2), (0, .ref (a 0)), (1, .ref (kK 28))] → W p l e R s m ([.ref (a 0), .ref (kK 28)] : List Value).toArray below meth c H locs 0 0 Q (F0 m 5 ls []) := by
    intro kn
    induction kn using Nat.strongRecOn with
    | _ kn ih =>
      intro w4 w2 H locs ls hi hpk9 hm hP hD hS hl
      refine lv_iload hx hb dX6_isWord_5 (lv_at hl 0 rfl) ?_
      refine lv_aload_n hx hb dX6_isWord_7 rfl (lv_at hl 3 rfl) ?_
      obtain ⟨hC9, hPc, hDc, hFc⟩ := xcut (wc := (pre_J0_length_8abf5_18 T (xa []) (xa []) (xf []) (xh []) (xv []) (xl []))) hP hD hS hA [] (by decide) rfl
      refine va_calli (va_runV (As := []) (rest := [.int w4]) ⟨hx, hb, hml, hown, htg⟩ (c_J0_length_8abf5_18 l D T (xa []) (xa []) (xf []) (xh []) (xv []) (xl []) kK kV H.size) ⟨callB_of 0 htg (xg_ok kw_47) rfl rfl rfl (htg _ kw_3) (htg _ kw_44) (by decide +kernel) ⟨by rw [hR]; exact Nat.le_of_ble_eq_true rfl, by rw [hR]; exact Nat.le_of_ble_eq_true rfl⟩, htg _ kw_45, htg _ kw_46⟩ (xpreVs hK hPc hDc hT hFc hS (xT.recv hT 28 (by decide) hS)) rfl rfl hl.1 rfl (lv_room (Nat.le_of_ble_eq_true rfl)) dX6_isWord_8 ⟨by rw [hR]; exact Nat.le_of_ble_eq_true rfl, by rw [hR]; exact Nat.le_of_ble_eq_true rfl⟩) hS (fun q _ h => hFc q h) hFc (fun r9 u9 t H1 locs ht hvm hw hB hz1 hk1 hS => ?_)
      subst hw
      obtain ⟨fik, flk, vik, vlk, hP1, hD1, hG⟩ := hB
      rw [ht] at hP1
      obtain ⟨hP, hD⟩ := va_join (wr := [((a 0), .inr (6, [.ref (ex 0), .ref (ex 1), .int (vi 0), .int (vi 1), .int (vi 2), .int (vi 3), .int (vi 4), .int (vi 5), .long (vl 0), .int (vi 6), .int (vi 7), .int (vi 8), .int (vi 9), .int (vi 10)]))]) (w1 := []) hP hD [] [0] hC9 rfl (by decide) (by decide) hk1 hFc hP1 hD1
      obtain ⟨rk, er9⟩ : ∃ z, z = r9 := ⟨_, rfl⟩
      subst er9
      clear hPc hDc hFc hP1 hD1 hk1 hz1 hvm ht hC9
      generalize H1 = H at hP hS ⊢
      obtain ⟨hP, hD⟩ := (show xPD D A [((a 0), .inr (6, [.ref (ex 0), .ref (ex 1), .int (vi 0), .int (vi 1), .int (vi 2), .int (vi 3), .int (vi 4), .int (vi 5), .long (vl 0), .int (vi 6), .int (vi 7), .int (vi 8), .int (vi 9), .int (vi 10)]))] H from ⟨hP, hD⟩)
      obtain ⟨gk_0, -⟩ := hG
      replace gk_0 : rk = 3 := gk_0
      refine xz_i 3 gk_0 ?_
      refine lv_icmp_ge (tgt := 33) hx hb dX6_isWord_11 (by decide) (fun c11 => ?_) (fun c11 => ?_)
      · have c11 := xge (k := 3) (by decide) c11
        refine lv_aload_n hx hb dX6_isWord_33 rfl (lv_at hl 2 rfl) ?_
        refine va_get (D := D) (ci := 6) (v := .int (vi 4)) (C := RX6) (T := TX6) (N := 14) hx hb htg inX6 hown hK.1 hP 0 rfl rfl 6 (by decide) (htg _ kw_104) (fun _ h9 => h9) rfl dX6_isWord_34 ?_
        refine lv_iconst (v := 1) hx hb dX6_isWord_37 (by decide) ?_
        refine lv_icmp_ne (tgt := 54) hx hb dX6_isWord_38 (by decide) (fun c38 => ?_) (fun c38 => ?_)
        · have c38 := xne (k := 1) (by decide) c38
          refine lv_iconst (v := 0) hx hb dX6_isWord_54 (by decide) ?_
          have hP9 := hP.sub (ws' := [((a 0), .inr (6, [.ref (ex 0), .ref (ex 1), .int (vi 0), .int (vi 1), .int (vi 2), .int (vi 3), .int (vi 4), .int (vi 5), .long (vl 0), .int (vi 6), .int (vi 7), .int (vi 8), .int (vi 9), .int (vi 10)]))]) [0] rfl
          have hD9 := hD.sub (ws' := [((a 0), .inr (6, [.ref (ex 0), .ref (ex 1), .int (vi 0), .int (vi 1), .int (vi 2), .int (vi 3), .int (vi 4), .int (vi 5), .long (vl 0), .int (vi 6), .int (vi 7), .int (vi 8), .int (vi 9), .int (vi 10)]))]) [0] (by decide +kernel) rfl
          rw [hQ]
          exact W.zret (v := 0) hx hb hr rfl (fun t ht hW => ⟨⟨0, 0, rfl, rfl, xf [], xh [], xv [], xl [], by rw [ht]; exact hP9, hD9, ⟨(Or.inr ⟨rfl, by show True; first | trivial | omega | assumption⟩), (by unfold R_X6_isWord_18; exact (fun Q9 k9_0 k9_1 k9_2 => k9_0 hp0 hp1 hp2 hp3 hp4 w4 w2 hi hpk9 fik flk vik vlk rk gk_0 c11 c38 rfl)), trivial⟩⟩, hS.F ht⟩) hS.2.2 dX6_isWord_55
        · have c38 := xeq (k := 1) (by decide) c38
          refine lv_lload_n hx hb dX6_isWord_41 rfl (lv_at hl 1 rfl) ?_
          refine lv_aload_n hx hb dX6_isWord_42 rfl (lv_at hl 2 rfl) ?_
          refine va_get (D := D) (ci := 6) (v := .long (vl 0)) (C := RX6) (T := TX6) (N := 14) hx hb htg inX6 hown hK.1 hP 0 rfl rfl 8 (by decide) (htg _ kw_108) (fun _ h9 => h9) rfl dX6_isWord_43 ?_
          refine W.lcmp hx hb dX6_isWord_46 ?_
          refine lv_topi (fun z46 ez46 => ?_)
          refine lv_if_ne (tgt := 54) hx hb dX6_isWord_47 (by decide) (fun c47 => ?_) (fun c47 => ?_)
          · have c47 := xne (k := 0) (by decide) c47
            refine lv_iconst (v := 0) hx hb dX6_isWord_54 (by decide) ?_
            have hP9 := hP.sub (ws' := [((a 0), .inr (6, [.ref (ex 0), .ref (ex 1), .int (vi 0), .int (vi 1), .int (vi 2), .int (vi 3), .int (vi 4), .int (vi 5), .long (vl 0), .int (vi 6), .int (vi 7), .int (vi 8), .int (vi 9), .int (vi 10)]))]) [0] rfl
            have hD9 := hD.sub (ws' := [((a 0), .inr (6, [.ref (ex 0), .ref (ex 1), .int (vi 0), .int (vi 1), .int (vi 2), .int (vi 3), .int (vi 4), .int (vi 5), .long (vl 0), .int (vi 6), .int (vi 7), .int (vi 8), .int (vi 9), .int (vi 10)]))]) [0] (by decide +kernel) rfl
            rw [hQ]
            exact W.zret (v := 0) hx hb hr rfl (fun t ht hW => ⟨⟨0, 0, rfl, rfl, xf [], xh [], xv [], xl [], by rw [ht]; exact hP9, hD9, ⟨(Or.inr ⟨rfl, by show True; first | trivial | omega | assumption⟩), (by unfold R_X6_isWord_18; exact (fun Q9 k9_0 k9_1 k9_2 => k9_1 hp0 hp1 hp2 hp3 hp4 w4 w2 hi hpk9 fik flk vik vlk rk gk_0 c11 c38 z46 ez46 c47 rfl)), trivial⟩⟩, hS.F ht⟩) hS.2.2 dX6_isWord_55
          · have c47 := xeq (k := 0) (by decide) c47
            refine lv_iconst (v := 1) hx hb dX6_isWord_50 (by decide) ?_
            refine lv_goto (tgt := 55) hx hb dX6_isWord_51 (by decide) ?_
            have hP9 := hP.sub (ws' := [((a 0), .inr (6, [.ref (ex 0), .ref (ex 1), .int (vi 0), .int (vi 1), .int (vi 2), .int (vi 3), .int (vi 4), .int (vi 5), .long (vl 0), .int (vi 6), .int (vi 7), .int (vi 8), .int (vi 9), .int (vi 10)]))]) [0] rfl
            have hD9 := hD.sub (ws' := [((a 0), .inr (6, [.ref (ex 0), .ref (ex 1), .int (vi 0), .int (vi 1), .int (vi 2), .int (vi 3), .int (vi 4), .int (vi 5), .long (vl 0), .int (vi 6), .int (vi 7), .int (vi 8), .int (vi 9), .int (vi 10)]))]) [0] (by decide +kernel) rfl
            rw [hQ]
            exact W.zret (v := 1) hx hb hr rfl (fun t ht hW => ⟨⟨1, 1, rfl, rfl, xf [], xh [], xv [], xl [], by rw [ht]; exact hP9, hD9, ⟨(Or.inl ⟨rfl, by show True; first | trivial | omega | assumption⟩), (by unfold R_X6_isWord_18; exact (fun Q9 k9_0 k9_1 k9_2 => k9_2 hp0 hp1 hp2 hp3 hp4 w4 w2 hi hpk9 fik flk vik vlk rk gk_0 c11 c38 z46 ez46 c47 rfl)), trivial⟩⟩, hS.F ht⟩) hS.2.2 dX6_isWord_55
      · have c11 := xnge (k := 3) (by decide) c11
        refine lv_lload_n hx hb dX6_isWord_14 rfl (lv_at hl 1 rfl) ?_
        refine lv_bipush (v := 8) hx hb dX6_isWord_15 (by decide) ?_
        refine lv_lshl hx hb dX6_isWord_17 rfl ?_
        refine lv_topl (fun z17 ez17 => ?_)
        refine lv_aload_n hx hb dX6_isWord_18 rfl (lv_at hl 3 rfl) ?_
        refine lv_iload hx hb dX6_isWord_19 (lv_at hl 0 rfl) ?_
        obtain ⟨hC9, hPc, hDc, hFc⟩ := xcut (wc := (pre_J0_charAt_5068e_18 T (xa []) (xa []) (xf []) (xh []) (xv [w4]) (xl []))) hP hD hS hA [] (by decide) rfl
        refine va_calli (va_runV (As := [.int w4]) (rest := [.long z17]) ⟨hx, hb, hml, hown, htg⟩ (c_J0_charAt_5068e_18 l D T (xa []) (xa []) (xf []) (xh []) (xv [w4]) (xl []) kK kV H.size (by show 0 ≤ w4.toInt ∧ w4.toInt ≤ 2; omega)) ⟨callB_of 1 htg (xg_ok kw_57) rfl rfl rfl (htg _ kw_3) (htg _ kw_54) (by decide +kernel) ⟨by rw [hR]; exact Nat.le_of_ble_eq_true rfl, by rw [hR]; exact Nat.le_of_ble_eq_true rfl⟩, htg _ kw_55, htg _ kw_56⟩ (xpreVs hK hPc hDc hT hFc hS (xT.recv hT 28 (by decide) hS)) rfl rfl hl.1 rfl (lv_room (Nat.le_of_ble_eq_true rfl)) dX6_isWord_21 ⟨by rw [hR]; exact Nat.le_of_ble_eq_true rfl, by rw [hR]; exact Nat.le_of_ble_eq_true rfl⟩) hS (fun q _ h => hFc q h) hFc (fun r9 u9 t H1 locs ht hvm hw hB hz1 hk1 hS => ?_)
        subst hw
        obtain ⟨fik_1, flk_1, vik_1, vlk_1, hP1, hD1, hG⟩ := hB
        rw [ht] at hP1
        obtain ⟨hP, hD⟩ := va_join (wr := [((a 0), .inr (6, [.ref (ex 0), .ref (ex 1), .int (vi 0), .int (vi 1), .int (vi 2), .int (vi 3), .int (vi 4), .int (vi 5), .long (vl 0), .int (vi 6), .int (vi 7), .int (vi 8), .int (vi 9), .int (vi 10)]))]) (w1 := []) hP hD [] [0] hC9 rfl (by decide) (by decide) hk1 hFc hP1 hD1
        obtain ⟨rk_1, er9⟩ : ∃ z, z = r9 := ⟨_, rfl⟩
        subst er9
        clear hPc hDc hFc hP1 hD1 hk1 hz1 hvm ht hC9
        generalize H1 = H at hP hS ⊢
        obtain ⟨hP, hD⟩ := (show xPD D A [((a 0), .inr (6, [.ref (ex 0), .ref (ex 1), .int (vi 0), .int (vi 1), .int (vi 2), .int (vi 3), .int (vi 4), .int (vi 5), .long (vl 0), .int (vi 6), .int (vi 7), .int (vi 8), .int (vi 9), .int (vi 10)]))] H from ⟨hP, hD⟩)
        obtain ⟨gk_1_0, gk_1_1, -⟩ := hG
        replace gk_1_1 : rk_1 = (sBy.getD 28 []).getD (w4.toInt).toNat 0 := (P_J0_charAt_5068e_18 gk_1_1 : _)
        replace gk_1_0 : narrow .char (.int rk_1) = .int rk_1 := gk_1_0
        refine lv_i2l hx hb dX6_isWord_24 rfl ?_
        refine lv_topl (fun z24 ez24 => ?_)
        refine lv_lor hx hb dX6_isWord_25 ?_
        refine lv_topl (fun z25 ez25 => ?_)
        refine lv_lstore_n (lv' := [(2, .long z25), (4, .int w4), (0, .ref (a 0)), (1, .ref (kK 28))]) hx hb dX6_isWord_26 rfl hl (by decide) rfl (fun ls hl => ?_)
        obtain ⟨i27, ei27⟩ : ∃ z : Int32, w4 + Int32.ofInt 1 = z := ⟨_, rfl⟩
        have ti27 : i27.toInt = w4.toInt + 1 := by rw [← ei27]; have h79 := xrng w4; exact xadd rfl (by decide) (by omega) (by omega)
        refine lv_iinc (v := i27) (lv' := [(4, .int i27), (2, .long z25), (0, .ref (a 0)), (1, .ref (kK 28))]) hx hb dX6_isWord_27 hl (k := 1) rfl ei27 (by decide) rfl (fun ls hl => ?_)
        refine lv_goto (tgt := 5) hx hb dX6_isWord_30 (by decide) ?_
        exact ih _ (by omega) i27 z25 _ _ _ (by show 0 ≤ i27.toInt ∧ i27.toInt ≤ 3; omega) (by show z25 = pkw (sBy.getD 28 []) (i27.toInt).toNat; rw [ez25, ez17, ez24]; exact pkw_s hpk9 (by omega) (by omega) (by assumption)) rfl (hP.sub [0] rfl) (hD.sub [0] (by decide) rfl) hS (lv_sub hl [0, 1, 2, 3] rfl)
  exact lp _ (0 : Int32) (0 : Int64) _ _ _ (show 0 ≤ (0 : Int32).toInt ∧ (0 : Int32).toInt ≤ 3 by decide) (by show (0 : Int64) = pkw (sBy.getD 28 []) ((0 : Int32).toInt).toNat; have k9_0 : (0 : Int32).toInt = 0 := (by decide); rw [show (0 : Int32).toInt.toNat = 0 by decide]; rfl) rfl hP hD hS hl
abbrev pre_X5_readOne_9 (T : Nat → ClassId) (a ex : Nat → Nat) (fi : Nat → Nat → Int32) (fl : Nat → Nat → Int64) (vi : Nat → Int32) (vl : Nat → Int64) : va_W := [((a 0), .inr (5, [.ref (a 1), .ref (a 4), .ref (ex 0), .ref (ex 1), .ref (ex 2), .ref (ex 3), .int (vi 0), .int (vi 1)])), ((a 1), .inr (6, [.ref (a 2), .ref (a 3), .int (vi 2), .int (vi 3), .int (vi 4), .int (vi 5), .int (vi 6), .int (vi 7), .long (vl 0), .int (vi 8), .int (vi 9), .int (vi 10), .int (vi 11), .int (vi 12)])), ((a 2), .inl (T 0, 940, .inl (fi 0))), ((a 3), .inl (T 2, 27, .inr (.inl (fl 0)))), ((a 4), .inr (7, [.int (vi 13), .int (vi 14), .ref (a 5), .ref (ex 4), .ref (ex 5), .ref (ex 6), .ref (ex 7), .ref (ex 8), .ref (ex 9), .ref (ex 10), .ref (ex 11), .ref (ex 12)])), ((a 5), .inl (T 2, 9, .inr (.inl (fl 1))))]
set_option maxHeartbeats 8000000 in
set_option maxRecDepth 100000 in
theorem c_X5_readOne_9 (l : Launch) (D : va_G) (T : Nat → ClassId) (a ex : Nat → Nat) (fi : Nat → Nat → Int32) (fl : Nat → Nat → Int64) (vi : Nat → Int32) (vl : Nat → Int64) (kK kV : Nat → Nat) (sz : Nat) (hp0 : 0 ≤ (vi 0).toInt ∧ (vi 0).toInt ≤ 40) (hp1 : 0 ≤ (vi 1).toInt ∧ (vi 1).toInt ≤ 20) (hp2 : 0 ≤ (vi 3).toInt ∧ (vi 3).toInt ≤ 940) (hp3 : 0 ≤ (vi 4).toInt ∧ (vi 4).toInt ≤ 940) (hp4 : 0 ≤ (vi 5).toInt ∧ (vi 5).toInt ≤ 940) (hp5 : 0 ≤ (vi 7).toInt ∧ (vi 7).toInt ≤ 940) (hp6 : 0 ≤ (vi 12).toInt ∧ (vi 12).toInt ≤ 940) (hp7 : 0 ≤ (vi 13).toInt ∧ (vi 13).toInt ≤ 9) (hp8 : 0 ≤ (vi 14).toInt ∧ (vi 14).toInt ≤ 9) (hp9 : (vi 0).toInt ≤ 2 * (vi 1).toInt) : Met l yX5_readOne (xw yX5_readOne cX5_readOne 5 (some .boolean)) ({ frames := 6, cells := 0, slots := 0, locals := 153 }) (xPs D T kK kV [.ref (a 0), .int 9] sz (pre_X5_readOne_9 T a ex fi fl vi vl)) (va_Qi (fun r u => r = u) (xC D (va_A (pre_X5_readOne_9 T a ex fi fl vi vl) sz) (fun fj fm vj vm => [((a 0), .inr (5, [.ref (a 1), .ref (a 4), .ref (ex 0), .ref (ex 1), .ref (ex 2), .ref (ex 3), .int (vi 0), .int (vi 1)])), ((a 1), .inr (6, [.ref (a 2), .ref (a 3), .int (vi 2), .int (vi 3), .int (vi 4), .int (vi 5), .int (vi 6), .int (vi 7), .long (vl 0), .int (vi 8), .int (vi 9), .int (vi 10), .int (vj 0), .int (vj 1)])), ((a 2), .inl (T 0, 940, .inl (fi 0))), ((a 3), .inl (T 2, 27, .inr (.inl (fl 0)))), ((a 4), .inr (7, [.int (vi 13), .int (vi 14), .ref (a 5), .ref (ex 4), .ref (ex 5), .ref (ex 6), .ref (ex 7), .ref (ex 8), .ref (ex 9), .ref (ex 10), .ref (ex 11), .ref (ex 12)])), ((a 5), .inl (T 2, 9, .inr (.inl (fl 1))))]) (fun (r : Int32) (fj : Nat → Nat → Int32) (fm : Nat → Nat → Int64) (vj : Nat → Int32) (vm : Nat → Int64) => ((r = 1 ∧ (True)) ∨ (r = 0 ∧ (True))) ∧ (0 ≤ (vj 1).toInt ∧ (vj 1).toInt ≤ 940) ∧ (r.toInt = 1 → (vi 1).toInt + 1 ≤ (vi 1).toInt ∧ (vi 0).toInt ≤ (vi 0).toInt + 2 * ((vi 1).toInt - (vi 1).toInt) - 1) ∧ (r.toInt = 1 → (vj 0).toInt = (vi 11).toInt) ∧ R_X5_readOne_9 fi fl vi vl r fj fm vj vm ∧ True)) (va_A (pre_X5_readOne_9 T a ex fi fl vi vl) sz)) 0 0 (va_A (pre_X5_readOne_9 T a ex fi fl vi vl) sz) := by
  refine xofW (cc := cX5_readOne) (maxL := 5) (ret := (some .boolean)) (by decide) rfl ?_
  intro p e s m args below meth c s₁ R Q hR hQ B hml hv
  obtain ⟨rfl, hsz, hP, hK, hD0, hT⟩ := hv
  have hx := B.exec
  have hb := B.bytes
  have hr := B.returns
  have hts := atoms_spec (ws := xw yX5_readOne cX5_readOne 5 (some .boolean)) B.pre
  have htg : ∀ w ∈ xg, w.before _ s = true := fun w h => hts w (List.mem_cons_of_mem _ h)
  have hown : s.vm.findClass RX5 = some m.cls := findClass_of_methodNamed B.named
  have hlocks := B.notSynchronized
  subst hsz
  have hD := hD0.self (sz := s.heap.size)
  generalize hAe : va_A (pre_X5_readOne_9 T a ex fi fl vi vl) s.heap.size = A at hD hQ hT
  have hA : ∀ q : Nat, s.heap.size ≤ q → A q := fun q h => by rw [← hAe]; exact Or.inr h
  have hS : va_S A s.heap s.heap [] := va_S.rf
  replace hP : va_P D vwCl [((a 0), .inr (5, [.ref (a 1), .ref (a 4), .ref (ex 0), .ref (ex 1), .ref (ex 2), .ref (ex 3), .int (vi 0), .int (vi 1)])), ((a 1), .inr (6, [.ref (a 2), .ref (a 3), .int (vi 2), .int (vi 3), .int (vi 4), .int (vi 5), .int (vi 6), .int (vi 7), .long (vl 0), .int (vi 8), .int (vi 9), .int (vi 10), .int (vi 11), .int (vi 12)])), ((a 2), .inl (T 0, 940, .inl (fi 0))), ((a 3), .inl (T 2, 27, .inr (.inl (fl 0)))), ((a 4), .inr (7, [.int (vi 13), .int (vi 14), .ref (a 5), .ref (ex 4), .ref (ex 5), .ref (ex 6), .ref (ex 7), .ref (ex 8), .ref (ex 9), .ref (ex 10), .ref (ex 11), .ref (ex 12)])), ((a 5), .inl (T 2, 9, .inr (.inl (fl 1))))] s.heap := hP
  replace hD : va_D A [((a 0), .inr (5, [.ref (a 1), .ref (a 4), .ref (ex 0), .ref (ex 1), .ref (ex 2), .ref (ex 3), .int (vi 0), .int (vi 1)])), ((a 1), .inr (6, [.ref (a 2), .ref (a 3), .int (vi 2), .int (vi 3), .int (vi 4), .int (vi 5), .int (vi 6), .int (vi 7), .long (vl 0), .int (vi 8), .int (vi 9), .int (vi 10), .int (vi 11), .int (vi 12)])), ((a 2), .inl (T 0, 940, .inl (fi 0))), ((a 3), .inl (T 2, 27, .inr (.inl (fl 0)))), ((a 4), .inr (7, [.int (vi 13), .int (vi 14), .ref (a 5), .ref (ex 4), .ref (ex 5), .ref (ex 6), .ref (ex 7), .ref (ex 8), .ref (ex 9), .ref (ex 10), .ref (ex 11), .ref (ex 12)])), ((a 5), .inl (T 2, 9, .inr (.inl (fl 1))))] := hD
  have hl := lv_entry ([.ref (a 0), .int 9]) (n := 5) (Nat.le_of_ble_eq_true rfl)
  rw [lg_entry_eq]
  generalize (lg_sl ([.ref (a 0), .int 9]) ++ List.replicate (5 - (lg_sl ([.ref (a 0), .int 9])).length) Slot.unset).toArray = ls at hl ⊢
  replace hl : lv_has ls 5 [(0, .ref (a 0)), (1, .int 9)] := hl
  refine lv_aload_n hx hb dX5_readOne_0 rfl (lv_at hl 0 rfl) ?_
  obtain ⟨hC9, hPc, hDc, hFc⟩ := xcut (wc := (pre_X5_leafAhead T (xa [(a 0), (a 1), (a 2)]) (xa [(a 4), (ex 0), (ex 1), (ex 2), (ex 3), (a 3)]) (xf [(fi 0)]) (xh []) (xv [(vi 0), (vi 1), (vi 2), (vi 3), (vi 4), (vi 5), (vi 6), (vi 7), (vi 8), (vi 9), (vi 10), (vi 11), (vi 12)]) (xl [(vl 0)]))) hP hD hS hA [0, 1, 2] (by decide) rfl
  refine va_calli (va_runV (As := []) (rest := []) ⟨hx, hb, hml, hown, htg⟩ (c_X5_leafAhead l D T (xa [(a 0), (a 1), (a 2)]) (xa [(a 4), (ex 0), (ex 1), (ex 2), (ex 3), (a 3)]) (xf [(fi 0)]) (xh []) (xv [(vi 0), (vi 1), (vi 2), (vi 3), (vi 4), (vi 5), (vi 6), (vi 7), (vi 8), (vi 9), (vi 10), (vi 11), (vi 12)]) (xl [(vl 0)]) kK kV s.heap.size hp0 hp1 hp2 hp3 hp4 hp5 hp6) ⟨callB_of 0 htg (xg_ok kw_1205) rfl rfl rfl (htg _ kw_12) (htg _ kw_1202) (by decide +kernel) ⟨by rw [hR]; exact Nat.le_of_ble_eq_true rfl, by rw [hR]; exact Nat.le_of_ble_eq_true rfl⟩, htg _ kw_1204, htg _ ks_104⟩ (xpreVs hK hPc hDc hT hFc hS (va_recv hK.1 hPc (ci := 5) (q0 := 0) rfl rfl)) rfl rfl hl.1 rfl (lv_room (Nat.le_of_ble_eq_true rfl)) dX5_readOne_1 ⟨by rw [hR]; exact Nat.le_of_ble_eq_true rfl, by rw [hR]; exact Nat.le_of_ble_eq_true rfl⟩) hS (fun q _ h => hFc q h) hFc (fun r9 u9 t H1 locs ht hvm hw hB hz1 hk1 hS => ?_)
  subst hw
  obtain ⟨fik, flk, vik, vlk, hP1, hD1, hG⟩ := hB
  rw [ht] at hP1
  obtain ⟨hP, hD⟩ := va_join (wr := [((a 3), .inl (T 2, 27, .inr (.inl (fl 0)))), ((a 4), .inr (7, [.int (vi 13), .int (vi 14), .ref (a 5), .ref (ex 4), .ref (ex 5), .ref (ex 6), .ref (ex 7), .ref (ex 8), .ref (ex 9), .ref (ex 10), .ref (ex 11), .ref (ex 12)])), ((a 5), .inl (T 2, 9, .inr (.inl (fl 1))))]) (w1 := [((a 0), .inr (5, [.ref (a 1), .ref (a 4), .ref (ex 0), .ref (ex 1), .ref (ex 2), .ref (ex 3), .int (vi 0), .int (vi 1)])), ((a 1), .inr (6, [.ref (a 2), .ref (a 3), .int (vi 2), .int (vi 3), .int (vi 4), .int (vi 5), .int (vi 6), .int (vi 7), .long (vl 0), .int (vi 8), .int (vi 9), .int (vi 10), .int (vi 11), .int (vi 12)])), ((a 2), .inl (T 0, 940, .inl (fi 0)))]) hP hD [0, 1, 2] [3, 4, 5] hC9 rfl (by decide) (by decide) hk1 hFc hP1 hD1
  obtain ⟨rk, er9⟩ : ∃ z, z = r9 := ⟨_, rfl⟩
  subst er9
  clear hPc hDc hFc hP1 hD1 hk1 hz1 hvm ht hC9
  generalize H1 = H at hP hS ⊢
  obtain ⟨hP, hD⟩ := (show xPD D A [((a 3), .inl (T 2, 27, .inr (.inl (fl 0)))), ((a 4), .inr (7, [.int (vi 13), .int (vi 14), .ref (a 5), .ref (ex 4), .ref (ex 5), .ref (ex 6), .ref (ex 7), .ref (ex 8), .ref (ex 9), .ref (ex 10), .ref (ex 11), .ref (ex 12)])), ((a 5), .inl (T 2, 9, .inr (.inl (fl 1)))), ((a 0), .inr (5, [.ref (a 1), .ref (a 4), .ref (ex 0), .ref (ex 1), .ref (ex 2), .ref (ex 3), .int (vi 0), .int (vi 1)])), ((a 1), .inr (6, [.ref (a 2), .ref (a 3), .int (vi 2), .int (vi 3), .int (vi 4), .int (vi 5), .int (vi 6), .int (vi 7), .long (vl 0), .int (vi 8), .int (vi 9), .int (vi 10), .int (vi 11), .int (vi 12)])), ((a 2), .inl (T 0, 940, .inl (fi 0)))] H from ⟨hP, hD⟩)
  obtain ⟨gk_0, -⟩ := hG
  replace gk_0 : ∀ n m t : Nat, CC (trn (fi 0) n) n m t (vi 3) (vi 4) (vi 6) (vi 7) (vi 5) (vl 0) (vi 8) (vi 9) → LFR rk.toInt (lfi (trn (fi 0) n) n m t) := (P_X5_leafAhead gk_0 : _)
  refine lv_istore_n (lv' := [(2, .int rk), (0, .ref (a 0)), (1, .int 9)]) hx hb dX5_readOne_4 rfl hl (by decide) rfl (fun ls hl => ?_)
  refine lv_aload_n hx hb dX5_readOne_5 rfl (lv_at hl 1 rfl) ?_
  refine va_get (D := D) (ci := 5) (v := .ref (a 1)) (C := RX5) (T := TX5) (N := 8) hx hb htg inX5 hown hK.1 hP 3 rfl rfl 0 (by decide) (htg _ kw_384) (fun _ h9 => h9) rfl dX5_readOne_6 ?_
  refine va_ldcS hx hb hown (hT.1 28 (by decide)) dX5_readOne_9 ?_
  obtain ⟨hC9, hPc, hDc, hFc⟩ := xcut (wc := (pre_X6_isWord_18 T (xa [(a 1)]) (xa [(a 2), (a 3)]) (xf []) (xh []) (xv [(vi 2), (vi 3), (vi 4), (vi 5), (vi 6), (vi 7), (vi 8), (vi 9), (vi 10), (vi 11), (vi 12)]) (xl [(vl 0)]))) hP hD hS hA [4] (by decide) rfl
  refine va_calli (va_runVN (As := [.ref (kK 28)]) (rest := []) ⟨hx, hb, hml, hown, htg⟩ (c_X6_isWord_18 l D T (xa [(a 1)]) (xa [(a 2), (a 3)]) (xf []) (xh []) (xv [(vi 2), (vi 3), (vi 4), (vi 5), (vi 6), (vi 7), (vi 8), (vi 9), (vi 10), (vi 11), (vi 12)]) (xl [(vl 0)]) kK kV H.size hp2 hp3 hp4 hp5 hp6) ⟨va_cnB 1 htg (xg_ok kw_586) rfl rfl rfl (hK.2.1 _ kn_1207) (htg _ kw_2) (by decide +kernel) ⟨by rw [hR]; exact Nat.le_of_ble_eq_true rfl, by rw [hR]; exact Nat.le_of_ble_eq_true rfl⟩, htg _ kw_585, htg _ ks_8⟩ (xpreVs hK hPc hDc hT hFc hS (va_recv hK.1 hPc (ci := 6) (q0 := 0) rfl rfl)) rfl rfl hl.1 rfl (lv_room (Nat.le_of_ble_eq_true rfl)) dX5_readOne_11 ⟨by rw [hR]; exact Nat.le_of_ble_eq_true rfl, by rw [hR]; exact Nat.le_of_ble_eq_true rfl⟩) hS (fun q _ h => hFc q h) hFc (fun r9 u9 t H1 locs ht hvm hw hB hz1 hk1 hS => ?_)
  subst hw
  obtain ⟨fik_1, flk_1, vik_1, vlk_1, hP1, hD1, hG⟩ := hB
  rw [ht] at hP1
  obtain ⟨hP, hD⟩ := va_join (wr := [((a 3), .inl (T 2, 27, .inr (.inl (fl 0)))), ((a 4), .inr (7, [.int (vi 13), .int (vi 14), .ref (a 5), .ref (ex 4), .ref (ex 5), .ref (ex 6), .ref (ex 7), .ref (ex 8), .ref (ex 9), .ref (ex 10), .ref (ex 11), .ref (ex 12)])), ((a 5), .inl (T 2, 9, .inr (.inl (fl 1)))), ((a 0), .inr (5, [.ref (a 1), .ref (a 4), .ref (ex 0), .ref (ex 1), .ref (ex 2), .ref (ex 3), .int (vi 0), .int (vi 1)])), ((a 2), .inl (T 0, 940, .inl (fi 0)))]) (w1 := [((a 1), .inr (6, [.ref (a 2), .ref (a 3), .int (vi 2), .int (vi 3), .int (vi 4), .int (vi 5), .int (vi 6), .int (vi 7), .long (vl 0), .int (vi 8), .int (vi 9), .int (vi 10), .int (vi 11), .int (vi 12)]))]) hP hD [4] [0, 1, 2, 3, 5] hC9 rfl (by decide) (by decide) hk1 hFc hP1 hD1
  obtain ⟨rk_1, er9⟩ : ∃ z, z = r9 := ⟨_, rfl⟩
  subst er9
  clear hPc hDc hFc hP1 hD1 hk1 hz1 hvm ht hC9
  generalize H1 = H at hP hS ⊢
  obtain ⟨hP, hD⟩ := (show xPD D A [((a 3), .inl (T 2, 27, .inr (.inl (fl 0)))), ((a 4), .inr (7, [.int (vi 13), .int (vi 14), .ref (a 5), .ref (ex 4), .ref (ex 5), .ref (ex 6), .ref (ex 7), .ref (ex 8), .ref (ex 9), .ref (ex 10), .ref (ex 11), .ref (ex 12)])), ((a 5), .inl (T 2, 9, .inr (.inl (fl 1)))), ((a 0), .inr (5, [.ref (a 1), .ref (a 4), .ref (ex 0), .ref (ex 1), .ref (ex 2), .ref (ex 3), .int (vi 0), .int (vi 1)])), ((a 2), .inl (T 0, 940, .inl (fi 0))), ((a 1), .inr (6, [.ref (a 2), .ref (a 3), .int (vi 2), .int (vi 3), .int (vi 4), .int (vi 5), .int (vi 6), .int (vi 7), .long (vl 0), .int (vi 8), .int (vi 9), .int (vi 10), .int (vi 11), .int (vi 12)]))] H from ⟨hP, hD⟩)
  obtain ⟨gk_1_0, gk_1_1, -⟩ := hG
  replace gk_1_1 : DJ (rk_1.toInt = 1 ∧ (vi 6).toInt = 1 ∧ (vl 0) = (7237492 : Int64)) (rk_1.toInt = 0 ∧ ¬ ((vi 6).toInt = 1 ∧ (vl 0) = (7237492 : Int64))) := (P_X6_isWord_18 gk_1_1 : _)
  rcases (show (rk_1 = 1 ∧ (True)) ∨ (rk_1 = 0 ∧ (True)) from gk_1_0) with ⟨er9, gk_1_0⟩ | ⟨er9, gk_1_0⟩
  · refine xz_i 1 er9 ?_
    have tb : rk_1.toInt = 1 := by rw [er9]; decide
    refine lv_istore_n (lv' := [(3, .int 1), (2, .int rk), (0, .ref (a 0)), (1, .int 9)]) hx hb dX5_readOne_14 rfl hl (by decide) rfl (fun ls hl => ?_)
    refine lv_aload_n hx hb dX5_readOne_15 rfl (lv_at hl 2 rfl) ?_
    refine va_get (D := D) (ci := 5) (v := .ref (a 1)) (C := RX5) (T := TX5) (N := 8) hx hb htg inX5 hown hK.1 hP 3 rfl rfl 0 (by decide) (htg _ kw_384) (fun _ h9 => h9) rfl dX5_readOne_16 ?_
    refine lv_bipush (v := 40) hx hb dX5_readOne_19 (by decide) ?_
    obtain ⟨hC9, hPc, hDc, hFc⟩ := xcut (wc := (pre_X6_isSign T (xa [(a 1)]) (xa [(a 2), (a 3)]) (xf []) (xh []) (xv [40, (vi 2), (vi 3), (vi 4), (vi 5), (vi 6), (vi 7), (vi 8), (vi 9), (vi 10), (vi 11), (vi 12)]) (xl [(vl 0)]))) hP hD hS hA [5] (by decide) rfl
    refine va_calli (va_runVN (As := [.int 40]) (rest := []) ⟨hx, hb, hml, hown, htg⟩ (c_X6_isSign l D T (xa [(a 1)]) (xa [(a 2), (a 3)]) (xf []) (xh []) (xv [40, (vi 2), (vi 3), (vi 4), (vi 5), (vi 6), (vi 7), (vi 8), (vi 9), (vi 10), (vi 11), (vi 12)]) (xl [(vl 0)]) H.size hp2 hp3 hp4 hp5 hp6) ⟨va_cnB 1 htg (xg_ok kw_697) rfl rfl rfl (hK.2.1 _ kn_1217) (htg _ kw_2) (by decide +kernel) ⟨by rw [hR]; exact Nat.le_of_ble_eq_true rfl, by rw [hR]; exact Nat.le_of_ble_eq_true rfl⟩, htg _ kw_696, htg _ ks_32⟩ (xpreV hK hPc hDc (va_recv hK.1 hPc (ci := 6) (q0 := 0) rfl rfl)) rfl rfl hl.1 rfl (lv_room (Nat.le_of_ble_eq_true rfl)) dX5_readOne_21 ⟨by rw [hR]; exact Nat.le_of_ble_eq_true rfl, by rw [hR]; exact Nat.le_of_ble_eq_true rfl⟩) hS (fun q _ h => hFc q h) hFc (fun r9 u9 t H1 locs ht hvm hw hB hz1 hk1 hS => ?_)
    subst hw
    obtain ⟨fik_2, flk_2, vik_2, vlk_2, hP1, hD1, hG⟩ := hB
    rw [ht] at hP1
    obtain ⟨hP, hD⟩ := va_join (wr := [((a 3), .inl (T 2, 27, .inr (.inl (fl 0)))), ((a 4), .inr (7, [.int (vi 13), .int (vi 14), .ref (a 5), .ref (ex 4), .ref (ex 5), .ref (ex 6), .ref (ex 7), .ref (ex 8), .ref (ex 9), .ref (ex 10), .ref (ex 11), .ref (ex 12)])), ((a 5), .inl (T 2, 9, .inr (.inl (fl 1)))), ((a 0), .inr (5, [.ref (a 1), .ref (a 4), .ref (ex 0), .ref (ex 1), .ref (ex 2), .ref (ex 3), .int (vi 0), .int (vi 1)])), ((a 2), .inl (T 0, 940, .inl (fi 0)))]) (w1 := [((a 1), .inr (6, [.ref (a 2), .ref (a 3), .int (vi 2), .int (vi 3), .int (vi 4), .int (vi 5), .int (vi 6), .int (vi 7), .long (vl 0), .int (vi 8), .int (vi 9), .int (vi 10), .int (vi 11), .int (vi 12)]))]) hP hD [5] [0, 1, 2, 3, 4] hC9 rfl (by decide) (by decide) hk1 hFc hP1 hD1
    obtain ⟨rk_2, er9⟩ : ∃ z, z = r9 := ⟨_, rfl⟩
    subst er9
    clear hPc hDc hFc hP1 hD1 hk1 hz1 hvm ht hC9
    generalize H1 = H at hP hS ⊢
    obtain ⟨hP, hD⟩ := (show xPD D A [((a 3), .inl (T 2, 27, .inr (.inl (fl 0)))), ((a 4), .inr (7, [.int (vi 13), .int (vi 14), .ref (a 5), .ref (ex 4), .ref (ex 5), .ref (ex 6), .ref (ex 7), .ref (ex 8), .ref (ex 9), .ref (ex 10), .ref (ex 11), .ref (ex 12)])), ((a 5), .inl (T 2, 9, .inr (.inl (fl 1)))), ((a 0), .inr (5, [.ref (a 1), .ref (a 4), .ref (ex 0), .ref (ex 1), .ref (ex 2), .ref (ex 3), .int (vi 0), .int (vi 1)])), ((a 2), .inl (T 0, 940, .inl (fi 0))), ((a 1), .inr (6, [.ref (a 2), .ref (a 3), .int (vi 2), .int (vi 3), .int (vi 4), .int (vi 5), .int (vi 6), .int (vi 7), .long (vl 0), .int (vi 8), .int (vi 9), .int (vi 10), .int (vi 11), .int (vi 12)]))] H from ⟨hP, hD⟩)
    obtain ⟨gk_2_0, -⟩ := hG
    rcases (show (rk_2 = 1 ∧ ((vi 6).toInt = 3 ∧ (vi 9).toInt = (40 : Int32).toInt)) ∨ (rk_2 = 0 ∧ (¬ ((vi 6).toInt = 3 ∧ (vi 9).toInt = (40 : Int32).toInt))) from gk_2_0) with ⟨er9, gk_2_0⟩ | ⟨er9, gk_2_0⟩
    · refine xz_i 1 er9 ?_
      have tb_1 : rk_2.toInt = 1 := by rw [er9]; decide
      refine lv_istore (lv' := [(4, .int 1), (3, .int 1), (2, .int rk), (0, .ref (a 0)), (1, .int 9)]) hx hb dX5_readOne_24 hl (by decide) rfl (fun ls hl => ?_)
      refine lv_iload_n hx hb dX5_readOne_26 rfl (lv_at hl 2 rfl) ?_
      refine lv_iconst (v := (-1)) hx hb dX5_readOne_27 (by decide) ?_
      refine lv_icmp_ne (tgt := 49) hx hb dX5_readOne_28 (by decide) (fun c28 => ?_) (fun c28 => ?_)
      · have c28 := xne (k := (-1)) (by decide) c28
        refine lv_aload_n hx hb dX5_readOne_49 rfl (lv_at hl 3 rfl) ?_
        refine va_get (D := D) (ci := 5) (v := .int (vi 1)) (C := RX5) (T := TX5) (N := 8) hx hb htg inX5 hown hK.1 hP 3 rfl rfl 7 (by decide) (htg _ kw_391) (fun _ h9 => h9) rfl dX5_readOne_50 ?_
        refine lv_bipush (v := 20) hx hb dX5_readOne_53 (by decide) ?_
        refine lv_icmp_ge (tgt := 64) hx hb dX5_readOne_55 (by decide) (fun c55 => ?_) (fun c55 => ?_)
        · have c55 := xge (k := 20) (by decide) c55
          refine lv_aload_n hx hb dX5_readOne_64 rfl (lv_at hl 3 rfl) ?_
          refine va_get (D := D) (ci := 5) (v := .ref (a 1)) (C := RX5) (T := TX5) (N := 8) hx hb htg inX5 hown hK.1 hP 3 rfl rfl 0 (by decide) (htg _ kw_384) (fun _ h9 => h9) rfl dX5_readOne_65 ?_
          refine lv_iconst (v := 4) hx hb dX5_readOne_68 (by decide) ?_
          obtain ⟨hC9, hPc, hDc, hFc⟩ := xcut (wc := (pre_X6_refuse T (xa [(a 1)]) (xa [(a 2), (a 3)]) (xf []) (xh []) (xv [4, (vi 2), (vi 3), (vi 4), (vi 5), (vi 6), (vi 7), (vi 8), (vi 9), (vi 10), (vi 11), (vi 12)]) (xl [(vl 0)]))) hP hD hS hA [5] (by decide) rfl
          refine va_calli (va_runVN (As := [.int 4]) (rest := []) ⟨hx, hb, hml, hown, htg⟩ (c_X6_refuse l D T (xa [(a 1)]) (xa [(a 2), (a 3)]) (xf []) (xh []) (xv [4, (vi 2), (vi 3), (vi 4), (vi 5), (vi 6), (vi 7), (vi 8), (vi 9), (vi 10), (vi 11), (vi 12)]) (xl [(vl 0)]) H.size hp2 hp3 hp4 hp5 hp6) ⟨va_cnB 1 htg (xg_ok kw_594) rfl rfl rfl (hK.2.1 _ kn_1218) (htg _ kw_2) (by decide +kernel) ⟨by rw [hR]; exact Nat.le_of_ble_eq_true rfl, by rw [hR]; exact Nat.le_of_ble_eq_true rfl⟩, htg _ kw_593, htg _ ks_10⟩ (xpreV hK hPc hDc (va_recv hK.1 hPc (ci := 6) (q0 := 0) rfl rfl)) rfl rfl hl.1 rfl (lv_room (Nat.le_of_ble_eq_true rfl)) dX5_readOne_69 ⟨by rw [hR]; exact Nat.le_of_ble_eq_true rfl, by rw [hR]; exact Nat.le_of_ble_eq_true rfl⟩) hS (fun q _ h => hFc q h) hFc (fun r9 u9 t H1 locs ht hvm hw hB hz1 hk1 hS => ?_)
          subst hw
          obtain ⟨fik_3, flk_3, vik_3, vlk_3, hP1, hD1, hG⟩ := hB
          rw [ht] at hP1
          obtain ⟨hP, hD⟩ := va_join (wr := [((a 3), .inl (T 2, 27, .inr (.inl (fl 0)))), ((a 4), .inr (7, [.int (vi 13), .int (vi 14), .ref (a 5), .ref (ex 4), .ref (ex 5), .ref (ex 6), .ref (ex 7), .ref (ex 8), .ref (ex 9), .ref (ex 10), .ref (ex 11), .ref (ex 12)])), ((a 5), .inl (T 2, 9, .inr (.inl (fl 1)))), ((a 0), .inr (5, [.ref (a 1), .ref (a 4), .ref (ex 0), .ref (ex 1), .ref (ex 2), .ref (ex 3), .int (vi 0), .int (vi 1)])), ((a 2), .inl (T 0, 940, .inl (fi 0)))]) (w1 := [((a 1), .inr (6, [.ref (a 2), .ref (a 3), .int (vi 2), .int (vi 3), .int (vi 4), .int (vi 5), .int (vi 6), .int (vi 7), .long (vl 0), .int (vi 8), .int (vi 9), .int (vi 10), .int (vik_3 0), .int (vik_3 1)]))]) hP hD [5] [0, 1, 2, 3, 4] hC9 rfl (by decide) (by decide) hk1 hFc hP1 hD1
          obtain ⟨rk_3, er9⟩ : ∃ z, z = r9 := ⟨_, rfl⟩
          subst er9
          clear hPc hDc hFc hP1 hD1 hk1 hz1 hvm ht hC9
          generalize H1 = H at hP hS ⊢
          obtain ⟨hP, hD⟩ := (show xPD D A [((a 3), .inl (T 2, 27, .inr (.inl (fl 0)))), ((a 4), .inr (7, [.int (vi 13), .int (vi 14), .ref (a 5), .ref (ex 4), .ref (ex 5), .ref (ex 6), .ref (ex 7), .ref (ex 8), .ref (ex 9), .ref (ex 10), .ref (ex 11), .ref (ex 12)])), ((a 5), .inl (T 2, 9, .inr (.inl (fl 1)))), ((a 0), .inr (5, [.ref (a 1), .ref (a 4), .ref (ex 0), .ref (ex 1), .ref (ex 2), .ref (ex 3), .int (vi 0), .int (vi 1)])), ((a 2), .inl (T 0, 940, .inl (fi 0))), ((a 1), .inr (6, [.ref (a 2), .ref (a 3), .int (vi 2), .int (vi 3), .int (vi 4), .int (vi 5), .int (vi 6), .int (vi 7), .long (vl 0), .int (vi 8), .int (vi 9), .int (vi 10), .int (vik_3 0), .int (vik_3 1)]))] H from ⟨hP, hD⟩)
          obtain ⟨gk_3_0, gk_3_1, gk_3_2, -⟩ := hG
          replace gk_3_1 : 0 ≤ (vik_3 1).toInt ∧ (vik_3 1).toInt ≤ 940 := gk_3_1
          replace gk_3_2 : (vik_3 0).toInt = (4 : Int32).toInt ∧ (vik_3 1).toInt = (vi 7).toInt := gk_3_2
          replace gk_3_0 : rk_3 = 0 := gk_3_0
          refine xz_i 0 gk_3_0 ?_
          have hP9 := hP.sub (ws' := [((a 0), .inr (5, [.ref (a 1), .ref (a 4), .ref (ex 0), .ref (ex 1), .ref (ex 2), .ref (ex 3), .int (vi 0), .int (vi 1)])), ((a 1), .inr (6, [.ref (a 2), .ref (a 3), .int (vi 2), .int (vi 3), .int (vi 4), .int (vi 5), .int (vi 6), .int (vi 7), .long (vl 0), .int (vi 8), .int (vi 9), .int (vi 10), .int (vik_3 0), .int (vik_3 1)])), ((a 2), .inl (T 0, 940, .inl (fi 0))), ((a 3), .inl (T 2, 27, .inr (.inl (fl 0)))), ((a 4), .inr (7, [.int (vi 13), .int (vi 14), .ref (a 5), .ref (ex 4), .ref (ex 5), .ref (ex 6), .ref (ex 7), .ref (ex 8), .ref (ex 9), .ref (ex 10), .ref (ex 11), .ref (ex 12)])), ((a 5), .inl (T 2, 9, .inr (.inl (fl 1))))]) [3, 5, 4, 0, 1, 2] rfl
          have hD9 := hD.sub (ws' := [((a 0), .inr (5, [.ref (a 1), .ref (a 4), .ref (ex 0), .ref (ex 1), .ref (ex 2), .ref (ex 3), .int (vi 0), .int (vi 1)])), ((a 1), .inr (6, [.ref (a 2), .ref (a 3), .int (vi 2), .int (vi 3), .int (vi 4), .int (vi 5), .int (vi 6), .int (vi 7), .long (vl 0), .int (vi 8), .int (vi 9), .int (vi 10), .int (vik_3 0), .int (vik_3 1)])), ((a 2), .inl (T 0, 940, .inl (fi 0))), ((a 3), .inl (T 2, 27, .inr (.inl (fl 0)))), ((a 4), .inr (7, [.int (vi 13), .int (vi 14), .ref (a 5), .ref (ex 4), .ref (ex 5), .ref (ex 6), .ref (ex 7), .ref (ex 8), .ref (ex 9), .ref (ex 10), .ref (ex 11), .ref (ex 12)])), ((a 5), .inl (T 2, 9, .inr (.inl (fl 1))))]) [3, 5, 4, 0, 1, 2] (by decide +kernel) rfl
          rw [hQ]
          exact W.zret (v := 0) hx hb hr rfl (fun t ht hW => ⟨⟨0, 0, rfl, rfl, xf [], xh [], xv [(vik_3 0), (vik_3 1)], xl [], by rw [ht]; exact hP9, hD9, ⟨(Or.inr ⟨rfl, by show True; first | trivial | omega | assumption⟩), gk_3_1, (by show (0 : Int32).toInt = 1 → (vi 1).toInt + 1 ≤ (vi 1).toInt ∧ (vi 0).toInt ≤ (vi 0).toInt + 2 * ((vi 1).toInt - (vi 1).toInt) - 1; have k9_0 : (0 : Int32).toInt = 0 := (by decide); have k8 : (0 : Int32).toInt = 0 := (by decide); have k7 : (1 : Int32).toInt = 1 := (by decide); intro h9; exfalso; omega), (by show (0 : Int32).toInt = 1 → (vik_3 0).toInt = (vi 11).toInt; have k9_0 : (0 : Int32).toInt = 0 := (by decide); exact fun h9 => absurd h9 (by decide)), (by unfold R_X5_readOne_9; exact (fun Q9 k9_0 k9_1 k9_2 k9_3 k9_4 k9_5 k9_6 k9_7 k9_8 k9_9 k9_10 k9_11 k9_12 k9_13 k9_14 => k9_0 hp0 hp1 hp2 hp3 hp4 hp5 hp6 hp7 hp8 hp9 fik flk vik vlk rk gk_0 fik_1 flk_1 vik_1 vlk_1 rk_1 gk_1_1 tb gk_1_0 fik_2 flk_2 vik_2 vlk_2 rk_2 tb_1 gk_2_0 c28 c55 fik_3 flk_3 vik_3 vlk_3 rk_3 gk_3_0 gk_3_1 gk_3_2 rfl rfl rfl)), trivial⟩⟩, hS.F ht⟩) hS.2.2 dX5_readOne_72
        · have c55 := xnge (k := 20) (by decide) c55
          refine lv_iload_n hx hb dX5_readOne_58 rfl (lv_at hl 4 rfl) ?_
          refine lv_bipush (v := 8) hx hb dX5_readOne_59 (by decide) ?_
          refine lv_icmp_le (tgt := 73) hx hb dX5_readOne_61 (by decide) (fun c => absurd c (by decide)) (fun _ => ?_)
          refine lv_aload_n hx hb dX5_readOne_64 rfl (lv_at hl 3 rfl) ?_
          refine va_get (D := D) (ci := 5) (v := .ref (a 1)) (C := RX5) (T := TX5) (N := 8) hx hb htg inX5 hown hK.1 hP 3 rfl rfl 0 (by decide) (htg _ kw_384) (fun _ h9 => h9) rfl dX5_readOne_65 ?_
          refine lv_iconst (v := 4) hx hb dX5_readOne_68 (by decide) ?_
          obtain ⟨hC9, hPc, hDc, hFc⟩ := xcut (wc := (pre_X6_refuse T (xa [(a 1)]) (xa [(a 2), (a 3)]) (xf []) (xh []) (xv [4, (vi 2), (vi 3), (vi 4), (vi 5), (vi 6), (vi 7), (vi 8), (vi 9), (vi 10), (vi 11), (vi 12)]) (xl [(vl 0)]))) hP hD hS hA [5] (by decide) rfl
          refine va_calli (va_runVN (As := [.int 4]) (rest := []) ⟨hx, hb, hml, hown, htg⟩ (c_X6_refuse l D T (xa [(a 1)]) (xa [(a 2), (a 3)]) (xf []) (xh []) (xv [4, (vi 2), (vi 3), (vi 4), (vi 5), (vi 6), (vi 7), (vi 8), (vi 9), (vi 10), (vi 11), (vi 12)]) (xl [(vl 0)]) H.size hp2 hp3 hp4 hp5 hp6) ⟨va_cnB 1 htg (xg_ok kw_594) rfl rfl rfl (hK.2.1 _ kn_1218) (htg _ kw_2) (by decide +kernel) ⟨by rw [hR]; exact Nat.le_of_ble_eq_true rfl, by rw [hR]; exact Nat.le_of_ble_eq_true rfl⟩, htg _ kw_593, htg _ ks_10⟩ (xpreV hK hPc hDc (va_recv hK.1 hPc (ci := 6) (q0 := 0) rfl rfl)) rfl rfl hl.1 rfl (lv_room (Nat.le_of_ble_eq_true rfl)) dX5_readOne_69 ⟨by rw [hR]; exact Nat.le_of_ble_eq_true rfl, by rw [hR]; exact Nat.le_of_ble_eq_true rfl⟩) hS (fun q _ h => hFc q h) hFc (fun r9 u9 t H1 locs ht hvm hw hB hz1 hk1 hS => ?_)
          subst hw
          obtain ⟨fik_4, flk_4, vik_4, vlk_4, hP1, hD1, hG⟩ := hB
          rw [ht] at hP1
          obtain ⟨hP, hD⟩ := va_join (wr := [((a 3), .inl (T 2, 27, .inr (.inl (fl 0)))), ((a 4), .inr (7, [.int (vi 13), .int (vi 14), .ref (a 5), .ref (ex 4), .ref (ex 5), .ref (ex 6), .ref (ex 7), .ref (ex 8), .ref (ex 9), .ref (ex 10), .ref (ex 11), .ref (ex 12)])), ((a 5), .inl (T 2, 9, .inr (.inl (fl 1)))), ((a 0), .inr (5, [.ref (a 1), .ref (a 4), .ref (ex 0), .ref (ex 1), .ref (ex 2), .ref (ex 3), .int (vi 0), .int (vi 1)])), ((a 2), .inl (T 0, 940, .inl (fi 0)))]) (w1 := [((a 1), .inr (6, [.ref (a 2), .ref (a 3), .int (vi 2), .int (vi 3), .int (vi 4), .int (vi 5), .int (vi 6), .int (vi 7), .long (vl 0), .int (vi 8), .int (vi 9), .int (vi 10), .int (vik_4 0), .int (vik_4 1)]))]) hP hD [5] [0, 1, 2, 3, 4] hC9 rfl (by decide) (by decide) hk1 hFc hP1 hD1
          obtain ⟨rk_4, er9⟩ : ∃ z, z = r9 := ⟨_, rfl⟩
          subst er9
          clear hPc hDc hFc hP1 hD1 hk1 hz1 hvm ht hC9
          generalize H1 = H at hP hS ⊢
          obtain ⟨hP, hD⟩ := (show xPD D A [((a 3), .inl (T 2, 27, .inr (.inl (fl 0)))), ((a 4), .inr (7, [.int (vi 13), .int (vi 14), .ref (a 5), .ref (ex 4), .ref (ex 5), .ref (ex 6), .ref (ex 7), .ref (ex 8), .ref (ex 9), .ref (ex 10), .ref (ex 11), .ref (ex 12)])), ((a 5), .inl (T 2, 9, .inr (.inl (fl 1)))), ((a 0), .inr (5, [.ref (a 1), .ref (a 4), .ref (ex 0), .ref (ex 1), .ref (ex 2), .ref (ex 3), .int (vi 0), .int (vi 1)])), ((a 2), .inl (T 0, 940, .inl (fi 0))), ((a 1), .inr (6, [.ref (a 2), .ref (a 3), .int (vi 2), .int (vi 3), .int (vi 4), .int (vi 5), .int (vi 6), .int (vi 7), .long (vl 0), .int (vi 8), .int (vi 9), .int (vi 10), .int (vik_4 0), .int (vik_4 1)]))] H from ⟨hP, hD⟩)
          obtain ⟨gk_4_0, gk_4_1, gk_4_2, -⟩ := hG
          replace gk_4_1 : 0 ≤ (vik_4 1).toInt ∧ (vik_4 1).toInt ≤ 940 := gk_4_1
          replace gk_4_2 : (vik_4 0).toInt = (4 : Int32).toInt ∧ (vik_4 1).toInt = (vi 7).toInt := gk_4_2
          replace gk_4_0 : rk_4 = 0 := gk_4_0
          refine xz_i 0 gk_4_0 ?_
          have hP9 := hP.sub (ws' := [((a 0), .inr (5, [.ref (a 1), .ref (a 4), .ref (ex 0), .ref (ex 1), .ref (ex 2), .ref (ex 3), .int (vi 0), .int (vi 1)])), ((a 1), .inr (6, [.ref (a 2), .ref (a 3), .int (vi 2), .int (vi 3), .int (vi 4), .int (vi 5), .int (vi 6), .int (vi 7), .long (vl 0), .int (vi 8), .int (vi 9), .int (vi 10), .int (vik_4 0), .int (vik_4 1)])), ((a 2), .inl (T 0, 940, .inl (fi 0))), ((a 3), .inl (T 2, 27, .inr (.inl (fl 0)))), ((a 4), .inr (7, [.int (vi 13), .int (vi 14), .ref (a 5), .ref (ex 4), .ref (ex 5), .ref (ex 6), .ref (ex 7), .ref (ex 8), .ref (ex 9), .ref (ex 10), .ref (ex 11), .ref (ex 12)])), ((a 5), .inl (T 2, 9, .inr (.inl (fl 1))))]) [3, 5, 4, 0, 1, 2] rfl
          have hD9 := hD.sub (ws' := [((a 0), .inr (5, [.ref (a 1), .ref (a 4), .ref (ex 0), .ref (ex 1), .ref (ex 2), .ref (ex 3), .int (vi 0), .int (vi 1)])), ((a 1), .inr (6, [.ref (a 2), .ref (a 3), .int (vi 2), .int (vi 3), .int (vi 4), .int (vi 5), .int (vi 6), .int (vi 7), .long (vl 0), .int (vi 8), .int (vi 9), .int (vi 10), .int (vik_4 0), .int (vik_4 1)])), ((a 2), .inl (T 0, 940, .inl (fi 0))), ((a 3), .inl (T 2, 27, .inr (.inl (fl 0)))), ((a 4), .inr (7, [.int (vi 13), .int (vi 14), .ref (a 5), .ref (ex 4), .ref (ex 5), .ref (ex 6), .ref (ex 7), .ref (ex 8), .ref (ex 9), .ref (ex 10), .ref (ex 11), .ref (ex 12)])), ((a 5), .inl (T 2, 9, .inr (.inl (fl 1))))]) [3, 5, 4, 0, 1, 2] (by decide +kernel) rfl
          rw [hQ]
          exact W.zret (v := 0) hx hb hr rfl (fun t ht hW => ⟨⟨0, 0, rfl, rfl, xf [], xh [], xv [(vik_4 0), (vik_4 1)], xl [], by rw [ht]; exact hP9, hD9, ⟨(Or.inr ⟨rfl, by show True; first | trivial | omega | assumption⟩), gk_4_1, (by show (0 : Int32).toInt = 1 → (vi 1).toInt + 1 ≤ (vi 1).toInt ∧ (vi 0).toInt ≤ (vi 0).toInt + 2 * ((vi 1).toInt - (vi 1).toInt) - 1; have k9_0 : (0 : Int32).toInt = 0 := (by decide); have k8 : (0 : Int32).toInt = 0 := (by decide); have k7 : (1 : Int32).toInt = 1 := (by decide); intro h9; exfalso; omega), (by show (0 : Int32).toInt = 1 → (vik_4 0).toInt = (vi 11).toInt; have k9_0 : (0 : Int32).toInt = 0 := (by decide); exact fun h9 => absurd h9 (by decide)), (by unfold R_X5_readOne_9; exact (fun Q9 k9_0 k9_1 k9_2 k9_3 k9_4 k9_5 k9_6 k9_7 k9_8 k9_9 k9_10 k9_11 k9_12 k9_13 k9_14 => k9_1 hp0 hp1 hp2 hp3 hp4 hp5 hp6 hp7 hp8 hp9 fik flk vik vlk rk gk_0 fik_1 flk_1 vik_1 vlk_1 rk_1 gk_1_1 tb gk_1_0 fik_2 flk_2 vik_2 vlk_2 rk_2 tb_1 gk_2_0 c28 c55 fik_4 flk_4 vik_4 vlk_4 rk_4 gk_4_0 gk_4_1 gk_4_2 rfl rfl rfl)), trivial⟩⟩, hS.F ht⟩) hS.2.2 dX5_readOne_72
      · have c28 := xeq (k := (-1)) (by decide) c28
        refine lv_iload_n hx hb dX5_readOne_31 rfl (lv_at hl 1 rfl) ?_
        refine lv_if_ne (tgt := 49) hx hb dX5_readOne_32 (by decide) (fun _ => ?_) (fun c => absurd c (by decide))
        refine lv_aload_n hx hb dX5_readOne_49 rfl (lv_at hl 3 rfl) ?_
        refine va_get (D := D) (ci := 5) (v := .int (vi 1)) (C := RX5) (T := TX5) (N := 8) hx hb htg inX5 hown hK.1 hP 3 rfl rfl 7 (by decide) (htg _ kw_391) (fun _ h9 => h9) rfl dX5_readOne_50 ?_
        refine lv_bipush (v := 20) hx hb dX5_readOne_53 (by decide) ?_
        refine lv_icmp_ge (tgt := 64) hx hb dX5_readOne_55 (by decide) (fun c55_1 => ?_) (fun c55_1 => ?_)
        · have c55_1 := xge (k := 20) (by decide) c55_1
          refine lv_aload_n hx hb dX5_readOne_64 rfl (lv_at hl 3 rfl) ?_
          refine va_get (D := D) (ci := 5) (v := .ref (a 1)) (C := RX5) (T := TX5) (N := 8) hx hb htg inX5 hown hK.1 hP 3 rfl rfl 0 (by decide) (htg _ kw_384) (fun _ h9 => h9) rfl dX5_readOne_65 ?_
          refine lv_iconst (v := 4) hx hb dX5_readOne_68 (by decide) ?_
          obtain ⟨hC9, hPc, hDc, hFc⟩ := xcut (wc := (pre_X6_refuse T (xa [(a 1)]) (xa [(a 2), (a 3)]) (xf []) (xh []) (xv [4, (vi 2), (vi 3), (vi 4), (vi 5), (vi 6), (vi 7), (vi 8), (vi 9), (vi 10), (vi 11), (vi 12)]) (xl [(vl 0)]))) hP hD hS hA [5] (by decide) rfl
          refine va_calli (va_runVN (As := [.int 4]) (rest := []) ⟨hx, hb, hml, hown, htg⟩ (c_X6_refuse l D T (xa [(a 1)]) (xa [(a 2), (a 3)]) (xf []) (xh []) (xv [4, (vi 2), (vi 3), (vi 4), (vi 5), (vi 6), (vi 7), (vi 8), (vi 9), (vi 10), (vi 11), (vi 12)]) (xl [(vl 0)]) H.size hp2 hp3 hp4 hp5 hp6) ⟨va_cnB 1 htg (xg_ok kw_594) rfl rfl rfl (hK.2.1 _ kn_1218) (htg _ kw_2) (by decide +kernel) ⟨by rw [hR]; exact Nat.le_of_ble_eq_true rfl, by rw [hR]; exact Nat.le_of_ble_eq_true rfl⟩, htg _ kw_593, htg _ ks_10⟩ (xpreV hK hPc hDc (va_recv hK.1 hPc (ci := 6) (q0 := 0) rfl rfl)) rfl rfl hl.1 rfl (lv_room (Nat.le_of_ble_eq_true rfl)) dX5_readOne_69 ⟨by rw [hR]; exact Nat.le_of_ble_eq_true rfl, by rw [hR]; exact Nat.le_of_ble_eq_true rfl⟩) hS (fun q _ h => hFc q h) hFc (fun r9 u9 t H1 locs ht hvm hw hB hz1 hk1 hS => ?_)
          subst hw
          obtain ⟨fik_5, flk_5, vik_5, vlk_5, hP1, hD1, hG⟩ := hB
          rw [ht] at hP1
          obtain ⟨hP, hD⟩ := va_join (wr := [((a 3), .inl (T 2, 27, .inr (.inl (fl 0)))), ((a 4), .inr (7, [.int (vi 13), .int (vi 14), .ref (a 5), .ref (ex 4), .ref (ex 5), .ref (ex 6), .ref (ex 7), .ref (ex 8), .ref (ex 9), .ref (ex 10), .ref (ex 11), .ref (ex 12)])), ((a 5), .inl (T 2, 9, .inr (.inl (fl 1)))), ((a 0), .inr (5, [.ref (a 1), .ref (a 4), .ref (ex 0), .ref (ex 1), .ref (ex 2), .ref (ex 3), .int (vi 0), .int (vi 1)])), ((a 2), .inl (T 0, 940, .inl (fi 0)))]) (w1 := [((a 1), .inr (6, [.ref (a 2), .ref (a 3), .int (vi 2), .int (vi 3), .int (vi 4), .int (vi 5), .int (vi 6), .int (vi 7), .long (vl 0), .int (vi 8), .int (vi 9), .int (vi 10), .int (vik_5 0), .int (vik_5 1)]))]) hP hD [5] [0, 1, 2, 3, 4] hC9 rfl (by decide) (by decide) hk1 hFc hP1 hD1
          obtain ⟨rk_5, er9⟩ : ∃ z, z = r9 := ⟨_, rfl⟩
          subst er9
          clear hPc hDc hFc hP1 hD1 hk1 hz1 hvm ht hC9
          generalize H1 = H at hP hS ⊢
          obtain ⟨hP, hD⟩ := (show xPD D A [((a 3), .inl (T 2, 27, .inr (.inl (fl 0)))), ((a 4), .inr (7, [.int (vi 13), .int (vi 14), .ref (a 5), .ref (ex 4), .ref (ex 5), .ref (ex 6), .ref (ex 7), .ref (ex 8), .ref (ex 9), .ref (ex 10), .ref (ex 11), .ref (ex 12)])), ((a 5), .inl (T 2, 9, .inr (.inl (fl 1)))), ((a 0), .inr (5, [.ref (a 1), .ref (a 4), .ref (ex 0), .ref (ex 1), .ref (ex 2), .ref (ex 3), .int (vi 0), .int (vi 1)])), ((a 2), .inl (T 0, 940, .inl (fi 0))), ((a 1), .inr (6, [.ref (a 2), .ref (a 3), .int (vi 2), .int (vi 3), .int (vi 4), .int (vi 5), .int (vi 6), .int (vi 7), .long (vl 0), .int (vi 8), .int (vi 9), .int (vi 10), .int (vik_5 0), .int (vik_5 1)]))] H from ⟨hP, hD⟩)
          obtain ⟨gk_5_0, gk_5_1, gk_5_2, -⟩ := hG
          replace gk_5_1 : 0 ≤ (vik_5 1).toInt ∧ (vik_5 1).toInt ≤ 940 := gk_5_1
          replace gk_5_2 : (vik_5 0).toInt = (4 : Int32).toInt ∧ (vik_5 1).toInt = (vi 7).toInt := gk_5_2
          replace gk_5_0 : rk_5 = 0 := gk_5_0
          refine xz_i 0 gk_5_0 ?_
          have hP9 := hP.sub (ws' := [((a 0), .inr (5, [.ref (a 1), .ref (a 4), .ref (ex 0), .ref (ex 1), .ref (ex 2), .ref (ex 3), .int (vi 0), .int (vi 1)])), ((a 1), .inr (6, [.ref (a 2), .ref (a 3), .int (vi 2), .int (vi 3), .int (vi 4), .int (vi 5), .int (vi 6), .int (vi 7), .long (vl 0), .int (vi 8), .int (vi 9), .int (vi 10), .int (vik_5 0), .int (vik_5 1)])), ((a 2), .inl (T 0, 940, .inl (fi 0))), ((a 3), .inl (T 2, 27, .inr (.inl (fl 0)))), ((a 4), .inr (7, [.int (vi 13), .int (vi 14), .ref (a 5), .ref (ex 4), .ref (ex 5), .ref (ex 6), .ref (ex 7), .ref (ex 8), .ref (ex 9), .ref (ex 10), .ref (ex 11), .ref (ex 12)])), ((a 5), .inl (T 2, 9, .inr (.inl (fl 1))))]) [3, 5, 4, 0, 1, 2] rfl
          have hD9 := hD.sub (ws' := [((a 0), .inr (5, [.ref (a 1), .ref (a 4), .ref (ex 0), .ref (ex 1), .ref (ex 2), .ref (ex 3), .int (vi 0), .int (vi 1)])), ((a 1), .inr (6, [.ref (a 2), .ref (a 3), .int (vi 2), .int (vi 3), .int (vi 4), .int (vi 5), .int (vi 6), .int (vi 7), .long (vl 0), .int (vi 8), .int (vi 9), .int (vi 10), .int (vik_5 0), .int (vik_5 1)])), ((a 2), .inl (T 0, 940, .inl (fi 0))), ((a 3), .inl (T 2, 27, .inr (.inl (fl 0)))), ((a 4), .inr (7, [.int (vi 13), .int (vi 14), .ref (a 5), .ref (ex 4), .ref (ex 5), .ref (ex 6), .ref (ex 7), .ref (ex 8), .ref (ex 9), .ref (ex 10), .ref (ex 11), .ref (ex 12)])), ((a 5), .inl (T 2, 9, .inr (.inl (fl 1))))]) [3, 5, 4, 0, 1, 2] (by decide +kernel) rfl
          rw [hQ]
          exact W.zret (v := 0) hx hb hr rfl (fun t ht hW => ⟨⟨0, 0, rfl, rfl, xf [], xh [], xv [(vik_5 0), (vik_5 1)], xl [], by rw [ht]; exact hP9, hD9, ⟨(Or.inr ⟨rfl, by show True; first | trivial | omega | assumption⟩), gk_5_1, (by show (0 : Int32).toInt = 1 → (vi 1).toInt + 1 ≤ (vi 1).toInt ∧ (vi 0).toInt ≤ (vi 0).toInt + 2 * ((vi 1).toInt - (vi 1).toInt) - 1; have k9_0 : (0 : Int32).toInt = 0 := (by decide); have k8 : (0 : Int32).toInt = 0 := (by decide); have k7 : (1 : Int32).toInt = 1 := (by decide); intro h9; exfalso; omega), (by show (0 : Int32).toInt = 1 → (vik_5 0).toInt = (vi 11).toInt; have k9_0 : (0 : Int32).toInt = 0 := (by decide); exact fun h9 => absurd h9 (by decide)), (by unfold R_X5_readOne_9; exact (fun Q9 k9_0 k9_1 k9_2 k9_3 k9_4 k9_5 k9_6 k9_7 k9_8 k9_9 k9_10 k9_11 k9_12 k9_13 k9_14 => k9_2 hp0 hp1 hp2 hp3 hp4 hp5 hp6 hp7 hp8 hp9 fik flk vik vlk rk gk_0 fik_1 flk_1 vik_1 vlk_1 rk_1 gk_1_1 tb gk_1_0 fik_2 flk_2 vik_2 vlk_2 rk_2 tb_1 gk_2_0 c28 c55_1 fik_5 flk_5 vik_5 vlk_5 rk_5 gk_5_0 gk_5_1 gk_5_2 rfl rfl rfl)), trivial⟩⟩, hS.F ht⟩) hS.2.2 dX5_readOne_72
        · have c55_1 := xnge (k := 20) (by decide) c55_1
          refine lv_iload_n hx hb dX5_readOne_58 rfl (lv_at hl 4 rfl) ?_
          refine lv_bipush (v := 8) hx hb dX5_readOne_59 (by decide) ?_
          refine lv_icmp_le (tgt := 73) hx hb dX5_readOne_61 (by decide) (fun c => absurd c (by decide)) (fun _ => ?_)
          refine lv_aload_n hx hb dX5_readOne_64 rfl (lv_at hl 3 rfl) ?_
          refine va_get (D := D) (ci := 5) (v := .ref (a 1)) (C := RX5) (T := TX5) (N := 8) hx hb htg inX5 hown hK.1 hP 3 rfl rfl 0 (by decide) (htg _ kw_384) (fun _ h9 => h9) rfl dX5_readOne_65 ?_
          refine lv_iconst (v := 4) hx hb dX5_readOne_68 (by decide) ?_
          obtain ⟨hC9, hPc, hDc, hFc⟩ := xcut (wc := (pre_X6_refuse T (xa [(a 1)]) (xa [(a 2), (a 3)]) (xf []) (xh []) (xv [4, (vi 2), (vi 3), (vi 4), (vi 5), (vi 6), (vi 7), (vi 8), (vi 9), (vi 10), (vi 11), (vi 12)]) (xl [(vl 0)]))) hP hD hS hA [5] (by decide) rfl
          refine va_calli (va_runVN (As := [.int 4]) (rest := []) ⟨hx, hb, hml, hown, htg⟩ (c_X6_refuse l D T (xa [(a 1)]) (xa [(a 2), (a 3)]) (xf []) (xh []) (xv [4, (vi 2), (vi 3), (vi 4), (vi 5), (vi 6), (vi 7), (vi 8), (vi 9), (vi 10), (vi 11), (vi 12)]) (xl [(vl 0)]) H.size hp2 hp3 hp4 hp5 hp6) ⟨va_cnB 1 htg (xg_ok kw_594) rfl rfl rfl (hK.2.1 _ kn_1218) (htg _ kw_2) (by decide +kernel) ⟨by rw [hR]; exact Nat.le_of_ble_eq_true rfl, by rw [hR]; exact Nat.le_of_ble_eq_true rfl⟩, htg _ kw_593, htg _ ks_10⟩ (xpreV hK hPc hDc (va_recv hK.1 hPc (ci := 6) (q0 := 0) rfl rfl)) rfl rfl hl.1 rfl (lv_room (Nat.le_of_ble_eq_true rfl)) dX5_readOne_69 ⟨by rw [hR]; exact Nat.le_of_ble_eq_true rfl, by rw [hR]; exact Nat.le_of_ble_eq_true rfl⟩) hS (fun q _ h => hFc q h) hFc (fun r9 u9 t H1 locs ht hvm hw hB hz1 hk1 hS => ?_)
          subst hw
          obtain ⟨fik_6, flk_6, vik_6, vlk_6, hP1, hD1, hG⟩ := hB
          rw [ht] at hP1
          obtain ⟨hP, hD⟩ := va_join (wr := [((a 3), .inl (T 2, 27, .inr (.inl (fl 0)))), ((a 4), .inr (7, [.int (vi 13), .int (vi 14), .ref (a 5), .ref (ex 4), .ref (ex 5), .ref (ex 6), .ref (ex 7), .ref (ex 8), .ref (ex 9), .ref (ex 10), .ref (ex 11), .ref (ex 12)])), ((a 5), .inl (T 2, 9, .inr (.inl (fl 1)))), ((a 0), .inr (5, [.ref (a 1), .ref (a 4), .ref (ex 0), .ref (ex 1), .ref (ex 2), .ref (ex 3), .int (vi 0), .int (vi 1)])), ((a 2), .inl (T 0, 940, .inl (fi 0)))]) (w1 := [((a 1), .inr (6, [.ref (a 2), .ref (a 3), .int (vi 2), .int (vi 3), .int (vi 4), .int (vi 5), .int (vi 6), .int (vi 7), .long (vl 0), .int (vi 8), .int (vi 9), .int (vi 10), .int (vik_6 0), .int (vik_6 1)]))]) hP hD [5] [0, 1, 2, 3, 4] hC9 rfl (by decide) (by decide) hk1 hFc hP1 hD1
          obtain ⟨rk_6, er9⟩ : ∃ z, z = r9 := ⟨_, rfl⟩
          subst er9
          clear hPc hDc hFc hP1 hD1 hk1 hz1 hvm ht hC9
          generalize H1 = H at hP hS ⊢
          obtain ⟨hP, hD⟩ := (show xPD D A [((a 3), .inl (T 2, 27, .inr (.inl (fl 0)))), ((a 4), .inr (7, [.int (vi 13), .int (vi 14), .ref (a 5), .ref (ex 4), .ref (ex 5), .ref (ex 6), .ref (ex 7), .ref (ex 8), .ref (ex 9), .ref (ex 10), .ref (ex 11), .ref (ex 12)])), ((a 5), .inl (T 2, 9, .inr (.inl (fl 1)))), ((a 0), .inr (5, [.ref (a 1), .ref (a 4), .ref (ex 0), .ref (ex 1), .ref (ex 2), .ref (ex 3), .int (vi 0), .int (vi 1)])), ((a 2), .inl (T 0, 940, .inl (fi 0))), ((a 1), .inr (6, [.ref (a 2), .ref (a 3), .int (vi 2), .int (vi 3), .int (vi 4), .int (vi 5), .int (vi 6), .int (vi 7), .long (vl 0), .int (vi 8), .int (vi 9), .int (vi 10), .int (vik_6 0), .int (vik_6 1)]))] H from ⟨hP, hD⟩)
          obtain ⟨gk_6_0, gk_6_1, gk_6_2, -⟩ := hG
          replace gk_6_1 : 0 ≤ (vik_6 1).toInt ∧ (vik_6 1).toInt ≤ 940 := gk_6_1
          replace gk_6_2 : (vik_6 0).toInt = (4 : Int32).toInt ∧ (vik_6 1).toInt = (vi 7).toInt := gk_6_2
          replace gk_6_0 : rk_6 = 0 := gk_6_0
          refine xz_i 0 gk_6_0 ?_
          have hP9 := hP.sub (ws' := [((a 0), .inr (5, [.ref (a 1), .ref (a 4), .ref (ex 0), .ref (ex 1), .ref (ex 2), .ref (ex 3), .int (vi 0), .int (vi 1)])), ((a 1), .inr (6, [.ref (a 2), .ref (a 3), .int (vi 2), .int (vi 3), .int (vi 4), .int (vi 5), .int (vi 6), .int (vi 7), .long (vl 0), .int (vi 8), .int (vi 9), .int (vi 10), .int (vik_6 0), .int (vik_6 1)])), ((a 2), .inl (T 0, 940, .inl (fi 0))), ((a 3), .inl (T 2, 27, .inr (.inl (fl 0)))), ((a 4), .inr (7, [.int (vi 13), .int (vi 14), .ref (a 5), .ref (ex 4), .ref (ex 5), .ref (ex 6), .ref (ex 7), .ref (ex 8), .ref (ex 9), .ref (ex 10), .ref (ex 11), .ref (ex 12)])), ((a 5), .inl (T 2, 9, .inr (.inl (fl 1))))]) [3, 5, 4, 0, 1, 2] rfl
          have hD9 := hD.sub (ws' := [((a 0), .inr (5, [.ref (a 1), .ref (a 4), .ref (ex 0), .ref (ex 1), .ref (ex 2), .ref (ex 3), .int (vi 0), .int (vi 1)])), ((a 1), .inr (6, [.ref (a 2), .ref (a 3), .int (vi 2), .int (vi 3), .int (vi 4), .int (vi 5), .int (vi 6), .int (vi 7), .long (vl 0), .int (vi 8), .int (vi 9), .int (vi 10), .int (vik_6 0), .int (vik_6 1)])), ((a 2), .inl (T 0, 940, .inl (fi 0))), ((a 3), .inl (T 2, 27, .inr (.inl (fl 0)))), ((a 4), .inr (7, [.int (vi 13), .int (vi 14), .ref (a 5), .ref (ex 4), .ref (ex 5), .ref (ex 6), .ref (ex 7), .ref (ex 8), .ref (ex 9), .ref (ex 10), .ref (ex 11), .ref (ex 12)])), ((a 5), .inl (T 2, 9, .inr (.inl (fl 1))))]) [3, 5, 4, 0, 1, 2] (by decide +kernel) rfl
          rw [hQ]
          exact W.zret (v := 0) hx hb hr rfl (fun t ht hW => ⟨⟨0, 0, rfl, rfl, xf [], xh [], xv [(vik_6 0), (vik_6 1)], xl [], by rw [ht]; exact hP9, hD9, ⟨(Or.inr ⟨rfl, by show True; first | trivial | omega | assumption⟩), gk_6_1, (by show (0 : Int32).toInt = 1 → (vi 1).toInt + 1 ≤ (vi 1).toInt ∧ (vi 0).toInt ≤ (vi 0).toInt + 2 * ((vi 1).toInt - (vi 1).toInt) - 1; have k9_0 : (0 : Int32).toInt = 0 := (by decide); have k8 : (0 : Int32).toInt = 0 := (by decide); have k7 : (1 : Int32).toInt = 1 := (by decide); intro h9; exfalso; omega), (by show (0 : Int32).toInt = 1 → (vik_6 0).toInt = (vi 11).toInt; have k9_0 : (0 : Int32).toInt = 0 := (by decide); exact fun h9 => absurd h9 (by decide)), (by unfold R_X5_readOne_9; exact (fun Q9 k9_0 k9_1 k9_2 k9_3 k9_4 k9_5 k9_6 k9_7 k9_8 k9_9 k9_10 k9_11 k9_12 k9_13 k9_14 => k9_3 hp0 hp1 hp2 hp3 hp4 hp5 hp6 hp7 hp8 hp9 fik flk vik vlk rk gk_0 fik_1 flk_1 vik_1 vlk_1 rk_1 gk_1_1 tb gk_1_0 fik_2 flk_2 vik_2 vlk_2 rk_2 tb_1 gk_2_0 c28 c55_1 fik_6 flk_6 vik_6 vlk_6 rk_6 gk_6_0 gk_6_1 gk_6_2 rfl rfl rfl)), trivial⟩⟩, hS.F ht⟩) hS.2.2 dX5_readOne_72
    · refine xz_i 0 er9 ?_
      have tb_1 : rk_2.toInt = 0 := by rw [er9]; decide
      refine lv_istore (lv' := [(4, .int 0), (3, .int 1), (2, .int rk), (0, .ref (a 0)), (1, .int 9)]) hx hb dX5_readOne_24 hl (by decide) rfl (fun ls hl => ?_)
      refine lv_iload_n hx hb dX5_readOne_26 rfl (lv_at hl 2 rfl) ?_
      refine lv_iconst (v := (-1)) hx hb dX5_readOne_27 (by decide) ?_
      refine lv_icmp_ne (tgt := 49) hx hb dX5_readOne_28 (by decide) (fun c28_1 => ?_) (fun c28_1 => ?_)
      · have c28_1 := xne (k := (-1)) (by decide) c28_1
        refine lv_aload_n hx hb dX5_readOne_49 rfl (lv_at hl 3 rfl) ?_
        refine va_get (D := D) (ci := 5) (v := .int (vi 1)) (C := RX5) (T := TX5) (N := 8) hx hb htg inX5 hown hK.1 hP 3 rfl rfl 7 (by decide) (htg _ kw_391) (fun _ h9 => h9) rfl dX5_readOne_50 ?_
        refine lv_bipush (v := 20) hx hb dX5_readOne_53 (by decide) ?_
        refine lv_icmp_ge (tgt := 64) hx hb dX5_readOne_55 (by decide) (fun c55_2 => ?_) (fun c55_2 => ?_)
        · have c55_2 := xge (k := 20) (by decide) c55_2
          refine lv_aload_n hx hb dX5_readOne_64 rfl (lv_at hl 3 rfl) ?_
          refine va_get (D := D) (ci := 5) (v := .ref (a 1)) (C := RX5) (T := TX5) (N := 8) hx hb htg inX5 hown hK.1 hP 3 rfl rfl 0 (by decide) (htg _ kw_384) (fun _ h9 => h9) rfl dX5_readOne_65 ?_
          refine lv_iconst (v := 4) hx hb dX5_readOne_68 (by decide) ?_
          obtain ⟨hC9, hPc, hDc, hFc⟩ := xcut (wc := (pre_X6_refuse T (xa [(a 1)]) (xa [(a 2), (a 3)]) (xf []) (xh []) (xv [4, (vi 2), (vi 3), (vi 4), (vi 5), (vi 6), (vi 7), (vi 8), (vi 9), (vi 10), (vi 11), (vi 12)]) (xl [(vl 0)]))) hP hD hS hA [5] (by decide) rfl
          refine va_calli (va_runVN (As := [.int 4]) (rest := []) ⟨hx, hb, hml, hown, htg⟩ (c_X6_refuse l D T (xa [(a 1)]) (xa [(a 2), (a 3)]) (xf []) (xh []) (xv [4, (vi 2), (vi 3), (vi 4), (vi 5), (vi 6), (vi 7), (vi 8), (vi 9), (vi 10), (vi 11), (vi 12)]) (xl [(vl 0)]) H.size hp2 hp3 hp4 hp5 hp6) ⟨va_cnB 1 htg (xg_ok kw_594) rfl rfl rfl (hK.2.1 _ kn_1218) (htg _ kw_2) (by decide +kernel) ⟨by rw [hR]; exact Nat.le_of_ble_eq_true rfl, by rw [hR]; exact Nat.le_of_ble_eq_true rfl⟩, htg _ kw_593, htg _ ks_10⟩ (xpreV hK hPc hDc (va_recv hK.1 hPc (ci := 6) (q0 := 0) rfl rfl)) rfl rfl hl.1 rfl (lv_room (Nat.le_of_ble_eq_true rfl)) dX5_readOne_69 ⟨by rw [hR]; exact Nat.le_of_ble_eq_true rfl, by rw [hR]; exact Nat.le_of_ble_eq_true rfl⟩) hS (fun q _ h => hFc q h) hFc (fun r9 u9 t H1 locs ht hvm hw hB hz1 hk1 hS => ?_)
          subst hw
          obtain ⟨fik_7, flk_7, vik_7, vlk_7, hP1, hD1, hG⟩ := hB
          rw [ht] at hP1
          obtain ⟨hP, hD⟩ := va_join (wr := [((a 3), .inl (T 2, 27, .inr (.inl (fl 0)))), ((a 4), .inr (7, [.int (vi 13), .int (vi 14), .ref (a 5), .ref (ex 4), .ref (ex 5), .ref (ex 6), .ref (ex 7), .ref (ex 8), .ref (ex 9), .ref (ex 10), .ref (ex 11), .ref (ex 12)])), ((a 5), .inl (T 2, 9, .inr (.inl (fl 1)))), ((a 0), .inr (5, [.ref (a 1), .ref (a 4), .ref (ex 0), .ref (ex 1), .ref (ex 2), .ref (ex 3), .int (vi 0), .int (vi 1)])), ((a 2), .inl (T 0, 940, .inl (fi 0)))]) (w1 := [((a 1), .inr (6, [.ref (a 2), .ref (a 3), .int (vi 2), .int (vi 3), .int (vi 4), .int (vi 5), .int (vi 6), .int (vi 7), .long (vl 0), .int (vi 8), .int (vi 9), .int (vi 10), .int (vik_7 0), .int (vik_7 1)]))]) hP hD [5] [0, 1, 2, 3, 4] hC9 rfl (by decide) (by decide) hk1 hFc hP1 hD1
          obtain ⟨rk_7, er9⟩ : ∃ z, z = r9 := ⟨_, rfl⟩
          subst er9
          clear hPc hDc hFc hP1 hD1 hk1 hz1 hvm ht hC9
          generalize H1 = H at hP hS ⊢
          obtain ⟨hP, hD⟩ := (show xPD D A [((a 3), .inl (T 2, 27, .inr (.inl (fl 0)))), ((a 4), .inr (7, [.int (vi 13), .int (vi 14), .ref (a 5), .ref (ex 4), .ref (ex 5), .ref (ex 6), .ref (ex 7), .ref (ex 8), .ref (ex 9), .ref (ex 10), .ref (ex 11), .ref (ex 12)])), ((a 5), .inl (T 2, 9, .inr (.inl (fl 1)))), ((a 0), .inr (5, [.ref (a 1), .ref (a 4), .ref (ex 0), .ref (ex 1), .ref (ex 2), .ref (ex 3), .int (vi 0), .int (vi 1)])), ((a 2), .inl (T 0, 940, .inl (fi 0))), ((a 1), .inr (6, [.ref (a 2), .ref (a 3), .int (vi 2), .int (vi 3), .int (vi 4), .int (vi 5), .int (vi 6), .int (vi 7), .long (vl 0), .int (vi 8), .int (vi 9), .int (vi 10), .int (vik_7 0), .int (vik_7 1)]))] H from ⟨hP, hD⟩)
          obtain ⟨gk_7_0, gk_7_1, gk_7_2, -⟩ := hG
          replace gk_7_1 : 0 ≤ (vik_7 1).toInt ∧ (vik_7 1).toInt ≤ 940 := gk_7_1
          replace gk_7_2 : (vik_7 0).toInt = (4 : Int32).toInt ∧ (vik_7 1).toInt = (vi 7).toInt := gk_7_2
          replace gk_7_0 : rk_7 = 0 := gk_7_0
          refine xz_i 0 gk_7_0 ?_
          have hP9 := hP.sub (ws' := [((a 0), .inr (5, [.ref (a 1), .ref (a 4), .ref (ex 0), .ref (ex 1), .ref (ex 2), .ref (ex 3), .int (vi 0), .int (vi 1)])), ((a 1), .inr (6, [.ref (a 2), .ref (a 3), .int (vi 2), .int (vi 3), .int (vi 4), .int (vi 5), .int (vi 6), .int (vi 7), .long (vl 0), .int (vi 8), .int (vi 9), .int (vi 10), .int (vik_7 0), .int (vik_7 1)])), ((a 2), .inl (T 0, 940, .inl (fi 0))), ((a 3), .inl (T 2, 27, .inr (.inl (fl 0)))), ((a 4), .inr (7, [.int (vi 13), .int (vi 14), .ref (a 5), .ref (ex 4), .ref (ex 5), .ref (ex 6), .ref (ex 7), .ref (ex 8), .ref (ex 9), .ref (ex 10), .ref (ex 11), .ref (ex 12)])), ((a 5), .inl (T 2, 9, .inr (.inl (fl 1))))]) [3, 5, 4, 0, 1, 2] rfl
          have hD9 := hD.sub (ws' := [((a 0), .inr (5, [.ref (a 1), .ref (a 4), .ref (ex 0), .ref (ex 1), .ref (ex 2), .ref (ex 3), .int (vi 0), .int (vi 1)])), ((a 1), .inr (6, [.ref (a 2), .ref (a 3), .int (vi 2), .int (vi 3), .int (vi 4), .int (vi 5), .int (vi 6), .int (vi 7), .long (vl 0), .int (vi 8), .int (vi 9), .int (vi 10), .int (vik_7 0), .int (vik_7 1)])), ((a 2), .inl (T 0, 940, .inl (fi 0))), ((a 3), .inl (T 2, 27, .inr (.inl (fl 0)))), ((a 4), .inr (7, [.int (vi 13), .int (vi 14), .ref (a 5), .ref (ex 4), .ref (ex 5), .ref (ex 6), .ref (ex 7), .ref (ex 8), .ref (ex 9), .ref (ex 10), .ref (ex 11), .ref (ex 12)])), ((a 5), .inl (T 2, 9, .inr (.inl (fl 1))))]) [3, 5, 4, 0, 1, 2] (by decide +kernel) rfl
          rw [hQ]
          exact W.zret (v := 0) hx hb hr rfl (fun t ht hW => ⟨⟨0, 0, rfl, rfl, xf [], xh [], xv [(vik_7 0), (vik_7 1)], xl [], by rw [ht]; exact hP9, hD9, ⟨(Or.inr ⟨rfl, by show True; first | trivial | omega | assumption⟩), gk_7_1, (by show (0 : Int32).toInt = 1 → (vi 1).toInt + 1 ≤ (vi 1).toInt ∧ (vi 0).toInt ≤ (vi 0).toInt + 2 * ((vi 1).toInt - (vi 1).toInt) - 1; have k9_0 : (0 : Int32).toInt = 0 := (by decide); have k8 : (0 : Int32).toInt = 0 := (by decide); have k7 : (1 : Int32).toInt = 1 := (by decide); intro h9; exfalso; omega), (by show (0 : Int32).toInt = 1 → (vik_7 0).toInt = (vi 11).toInt; have k9_0 : (0 : Int32).toInt = 0 := (by decide); exact fun h9 => absurd h9 (by decide)), (by unfold R_X5_readOne_9; exact (fun Q9 k9_0 k9_1 k9_2 k9_3 k9_4 k9_5 k9_6 k9_7 k9_8 k9_9 k9_10 k9_11 k9_12 k9_13 k9_14 => k9_4 hp0 hp1 hp2 hp3 hp4 hp5 hp6 hp7 hp8 hp9 fik flk vik vlk rk gk_0 fik_1 flk_1 vik_1 vlk_1 rk_1 gk_1_1 tb gk_1_0 fik_2 flk_2 vik_2 vlk_2 rk_2 tb_1 gk_2_0 c28_1 c55_2 fik_7 flk_7 vik_7 vlk_7 rk_7 gk_7_0 gk_7_1 gk_7_2 rfl rfl rfl)), trivial⟩⟩, hS.F ht⟩) hS.2.2 dX5_readOne_72
        · have c55_2 := xnge (k := 20) (by decide) c55_2
          refine lv_iload_n hx hb dX5_readOne_58 rfl (lv_at hl 4 rfl) ?_
          refine lv_bipush (v := 8) hx hb dX5_readOne_59 (by decide) ?_
          refine lv_icmp_le (tgt := 73) hx hb dX5_readOne_61 (by decide) (fun c => absurd c (by decide)) (fun _ => ?_)
          refine lv_aload_n hx hb dX5_readOne_64 rfl (lv_at hl 3 rfl) ?_
          refine va_get (D := D) (ci := 5) (v := .ref (a 1)) (C := RX5) (T := TX5) (N := 8) hx hb htg inX5 hown hK.1 hP 3 rfl rfl 0 (by decide) (htg _ kw_384) (fun _ h9 => h9) rfl dX5_readOne_65 ?_
          refine lv_iconst (v := 4) hx hb dX5_readOne_68 (by decide) ?_
          obtain ⟨hC9, hPc, hDc, hFc⟩ := xcut (wc := (pre_X6_refuse T (xa [(a 1)]) (xa [(a 2), (a 3)]) (xf []) (xh []) (xv [4, (vi 2), (vi 3), (vi 4), (vi 5), (vi 6), (vi 7), (vi 8), (vi 9), (vi 10), (vi 11), (vi 12)]) (xl [(vl 0)]))) hP hD hS hA [5] (by decide) rfl
          refine va_calli (va_runVN (As := [.int 4]) (rest := []) ⟨hx, hb, hml, hown, htg⟩ (c_X6_refuse l D T (xa [(a 1)]) (xa [(a 2), (a 3)]) (xf []) (xh []) (xv [4, (vi 2), (vi 3), (vi 4), (vi 5), (vi 6), (vi 7), (vi 8), (vi 9), (vi 10), (vi 11), (vi 12)]) (xl [(vl 0)]) H.size hp2 hp3 hp4 hp5 hp6) ⟨va_cnB 1 htg (xg_ok kw_594) rfl rfl rfl (hK.2.1 _ kn_1218) (htg _ kw_2) (by decide +kernel) ⟨by rw [hR]; exact Nat.le_of_ble_eq_true rfl, by rw [hR]; exact Nat.le_of_ble_eq_true rfl⟩, htg _ kw_593, htg _ ks_10⟩ (xpreV hK hPc hDc (va_recv hK.1 hPc (ci := 6) (q0 := 0) rfl rfl)) rfl rfl hl.1 rfl (lv_room (Nat.le_of_ble_eq_true rfl)) dX5_readOne_69 ⟨by rw [hR]; exact Nat.le_of_ble_eq_true rfl, by rw [hR]; exact Nat.le_of_ble_eq_true rfl⟩) hS (fun q _ h => hFc q h) hFc (fun r9 u9 t H1 locs ht hvm hw hB hz1 hk1 hS => ?_)
          subst hw
          obtain ⟨fik_8, flk_8, vik_8, vlk_8, hP1, hD1, hG⟩ := hB
          rw [ht] at hP1
          obtain ⟨hP, hD⟩ := va_join (wr := [((a 3), .inl (T 2, 27, .inr (.inl (fl 0)))), ((a 4), .inr (7, [.int (vi 13), .int (vi 14), .ref (a 5), .ref (ex 4), .ref (ex 5), .ref (ex 6), .ref (ex 7), .ref (ex 8), .ref (ex 9), .ref (ex 10), .ref (ex 11), .ref (ex 12)])), ((a 5), .inl (T 2, 9, .inr (.inl (fl 1)))), ((a 0), .inr (5, [.ref (a 1), .ref (a 4), .ref (ex 0), .ref (ex 1), .ref (ex 2), .ref (ex 3), .int (vi 0), .int (vi 1)])), ((a 2), .inl (T 0, 940, .inl (fi 0)))]) (w1 := [((a 1), .inr (6, [.ref (a 2), .ref (a 3), .int (vi 2), .int (vi 3), .int (vi 4), .int (vi 5), .int (vi 6), .int (vi 7), .long (vl 0), .int (vi 8), .int (vi 9), .int (vi 10), .int (vik_8 0), .int (vik_8 1)]))]) hP hD [5] [0, 1, 2, 3, 4] hC9 rfl (by decide) (by decide) hk1 hFc hP1 hD1
          obtain ⟨rk_8, er9⟩ : ∃ z, z = r9 := ⟨_, rfl⟩
          subst er9
          clear hPc hDc hFc hP1 hD1 hk1 hz1 hvm ht hC9
          generalize H1 = H at hP hS ⊢
          obtain ⟨hP, hD⟩ := (show xPD D A [((a 3), .inl (T 2, 27, .inr (.inl (fl 0)))), ((a 4), .inr (7, [.int (vi 13), .int (vi 14), .ref (a 5), .ref (ex 4), .ref (ex 5), .ref (ex 6), .ref (ex 7), .ref (ex 8), .ref (ex 9), .ref (ex 10), .ref (ex 11), .ref (ex 12)])), ((a 5), .inl (T 2, 9, .inr (.inl (fl 1)))), ((a 0), .inr (5, [.ref (a 1), .ref (a 4), .ref (ex 0), .ref (ex 1), .ref (ex 2), .ref (ex 3), .int (vi 0), .int (vi 1)])), ((a 2), .inl (T 0, 940, .inl (fi 0))), ((a 1), .inr (6, [.ref (a 2), .ref (a 3), .int (vi 2), .int (vi 3), .int (vi 4), .int (vi 5), .int (vi 6), .int (vi 7), .long (vl 0), .int (vi 8), .int (vi 9), .int (vi 10), .int (vik_8 0), .int (vik_8 1)]))] H from ⟨hP, hD⟩)
          obtain ⟨gk_8_0, gk_8_1, gk_8_2, -⟩ := hG
          replace gk_8_1 : 0 ≤ (vik_8 1).toInt ∧ (vik_8 1).toInt ≤ 940 := gk_8_1
          replace gk_8_2 : (vik_8 0).toInt = (4 : Int32).toInt ∧ (vik_8 1).toInt = (vi 7).toInt := gk_8_2
          replace gk_8_0 : rk_8 = 0 := gk_8_0
          refine xz_i 0 gk_8_0 ?_
          have hP9 := hP.sub (ws' := [((a 0), .inr (5, [.ref (a 1), .ref (a 4), .ref (ex 0), .ref (ex 1), .ref (ex 2), .ref (ex 3), .int (vi 0), .int (vi 1)])), ((a 1), .inr (6, [.ref (a 2), .ref (a 3), .int (vi 2), .int (vi 3), .int (vi 4), .int (vi 5), .int (vi 6), .int (vi 7), .long (vl 0), .int (vi 8), .int (vi 9), .int (vi 10), .int (vik_8 0), .int (vik_8 1)])), ((a 2), .inl (T 0, 940, .inl (fi 0))), ((a 3), .inl (T 2, 27, .inr (.inl (fl 0)))), ((a 4), .inr (7, [.int (vi 13), .int (vi 14), .ref (a 5), .ref (ex 4), .ref (ex 5), .ref (ex 6), .ref (ex 7), .ref (ex 8), .ref (ex 9), .ref (ex 10), .ref (ex 11), .ref (ex 12)])), ((a 5), .inl (T 2, 9, .inr (.inl (fl 1))))]) [3, 5, 4, 0, 1, 2] rfl
          have hD9 := hD.sub (ws' := [((a 0), .inr (5, [.ref (a 1), .ref (a 4), .ref (ex 0), .ref (ex 1), .ref (ex 2), .ref (ex 3), .int (vi 0), .int (vi 1)])), ((a 1), .inr (6, [.ref (a 2), .ref (a 3), .int (vi 2), .int (vi 3), .int (vi 4), .int (vi 5), .int (vi 6), .int (vi 7), .long (vl 0), .int (vi 8), .int (vi 9), .int (vi 10), .int (vik_8 0), .int (vik_8 1)])), ((a 2), .inl (T 0, 940, .inl (fi 0))), ((a 3), .inl (T 2, 27, .inr (.inl (fl 0)))), ((a 4), .inr (7, [.int (vi 13), .int (vi 14), .ref (a 5), .ref (ex 4), .ref (ex 5), .ref (ex 6), .ref (ex 7), .ref (ex 8), .ref (ex 9), .ref (ex 10), .ref (ex 11), .ref (ex 12)])), ((a 5), .inl (T 2, 9, .inr (.inl (fl 1))))]) [3, 5, 4, 0, 1, 2] (by decide +kernel) rfl
          rw [hQ]
          exact W.zret (v := 0) hx hb hr rfl (fun t ht hW => ⟨⟨0, 0, rfl, rfl, xf [], xh [], xv [(vik_8 0), (vik_8 1)], xl [], by rw [ht]; exact hP9, hD9, ⟨(Or.inr ⟨rfl, by show True; first | trivial | omega | assumption⟩), gk_8_1, (by show (0 : Int32).toInt = 1 → (vi 1).toInt + 1 ≤ (vi 1).toInt ∧ (vi 0).toInt ≤ (vi 0).toInt + 2 * ((vi 1).toInt - (vi 1).toInt) - 1; have k9_0 : (0 : Int32).toInt = 0 := (by decide); have k8 : (0 : Int32).toInt = 0 := (by decide); have k7 : (1 : Int32).toInt = 1 := (by decide); intro h9; exfalso; omega), (by show (0 : Int32).toInt = 1 → (vik_8 0).toInt = (vi 11).toInt; have k9_0 : (0 : Int32).toInt = 0 := (by decide); exact fun h9 => absurd h9 (by decide)), (by unfold R_X5_readOne_9; exact (fun Q9 k9_0 k9_1 k9_2 k9_3 k9_4 k9_5 k9_6 k9_7 k9_8 k9_9 k9_10 k9_11 k9_12 k9_13 k9_14 => k9_5 hp0 hp1 hp2 hp3 hp4 hp5 hp6 hp7 hp8 hp9 fik flk vik vlk rk gk_0 fik_1 flk_1 vik_1 vlk_1 rk_1 gk_1_1 tb gk_1_0 fik_2 flk_2 vik_2 vlk_2 rk_2 tb_1 gk_2_0 c28_1 c55_2 fik_8 flk_8 vik_8 vlk_8 rk_8 gk_8_0 gk_8_1 gk_8_2 rfl rfl rfl)), trivial⟩⟩, hS.F ht⟩) hS.2.2 dX5_readOne_72
      · have c28_1 := xeq (k := (-1)) (by decide) c28_1
        refine lv_iload_n hx hb dX5_readOne_31 rfl (lv_at hl 1 rfl) ?_
        refine lv_if_ne (tgt := 49) hx hb dX5_readOne_32 (by decide) (fun _ => ?_) (fun c => absurd c (by decide))
        refine lv_aload_n hx hb dX5_readOne_49 rfl (lv_at hl 3 rfl) ?_
        refine va_get (D := D) (ci := 5) (v := .int (vi 1)) (C := RX5) (T := TX5) (N := 8) hx hb htg inX5 hown hK.1 hP 3 rfl rfl 7 (by decide) (htg _ kw_391) (fun _ h9 => h9) rfl dX5_readOne_50 ?_
        refine lv_bipush (v := 20) hx hb dX5_readOne_53 (by decide) ?_
        refine lv_icmp_ge (tgt := 64) hx hb dX5_readOne_55 (by decide) (fun c55_3 => ?_) (fun c55_3 => ?_)
        · have c55_3 := xge (k := 20) (by decide) c55_3
          refine lv_aload_n hx hb dX5_readOne_64 rfl (lv_at hl 3 rfl) ?_
          refine va_get (D := D) (ci := 5) (v := .ref (a 1)) (C := RX5) (T := TX5) (N := 8) hx hb htg inX5 hown hK.1 hP 3 rfl rfl 0 (by decide) (htg _ kw_384) (fun _ h9 => h9) rfl dX5_readOne_65 ?_
          refine lv_iconst (v := 4) hx hb dX5_readOne_68 (by decide) ?_
          obtain ⟨hC9, hPc, hDc, hFc⟩ := xcut (wc := (pre_X6_refuse T (xa [(a 1)]) (xa [(a 2), (a 3)]) (xf []) (xh []) (xv [4, (vi 2), (vi 3), (vi 4), (vi 5), (vi 6), (vi 7), (vi 8), (vi 9), (vi 10), (vi 11), (vi 12)]) (xl [(vl 0)]))) hP hD hS hA [5] (by decide) rfl
          refine va_calli (va_runVN (As := [.int 4]) (rest := []) ⟨hx, hb, hml, hown, htg⟩ (c_X6_refuse l D T (xa [(a 1)]) (xa [(a 2), (a 3)]) (xf []) (xh []) (xv [4, (vi 2), (vi 3), (vi 4), (vi 5), (vi 6), (vi 7), (vi 8), (vi 9), (vi 10), (vi 11), (vi 12)]) (xl [(vl 0)]) H.size hp2 hp3 hp4 hp5 hp6) ⟨va_cnB 1 htg (xg_ok kw_594) rfl rfl rfl (hK.2.1 _ kn_1218) (htg _ kw_2) (by decide +kernel) ⟨by rw [hR]; exact Nat.le_of_ble_eq_true rfl, by rw [hR]; exact Nat.le_of_ble_eq_true rfl⟩, htg _ kw_593, htg _ ks_10⟩ (xpreV hK hPc hDc (va_recv hK.1 hPc (ci := 6) (q0 := 0) rfl rfl)) rfl rfl hl.1 rfl (lv_room (Nat.le_of_ble_eq_true rfl)) dX5_readOne_69 ⟨by rw [hR]; exact Nat.le_of_ble_eq_true rfl, by rw [hR]; exact Nat.le_of_ble_eq_true rfl⟩) hS (fun q _ h => hFc q h) hFc (fun r9 u9 t H1 locs ht hvm hw hB hz1 hk1 hS => ?_)
          subst hw
          obtain ⟨fik_9, flk_9, vik_9, vlk_9, hP1, hD1, hG⟩ := hB
          rw [ht] at hP1
          obtain ⟨hP, hD⟩ := va_join (wr := [((a 3), .inl (T 2, 27, .inr (.inl (fl 0)))), ((a 4), .inr (7, [.int (vi 13), .int (vi 14), .ref (a 5), .ref (ex 4), .ref (ex 5), .ref (ex 6), .ref (ex 7), .ref (ex 8), .ref (ex 9), .ref (ex 10), .ref (ex 11), .ref (ex 12)])), ((a 5), .inl (T 2, 9, .inr (.inl (fl 1)))), ((a 0), .inr (5, [.ref (a 1), .ref (a 4), .ref (ex 0), .ref (ex 1), .ref (ex 2), .ref (ex 3), .int (vi 0), .int (vi 1)])), ((a 2), .inl (T 0, 940, .inl (fi 0)))]) (w1 := [((a 1), .inr (6, [.ref (a 2), .ref (a 3), .int (vi 2), .int (vi 3), .int (vi 4), .int (vi 5), .int (vi 6), .int (vi 7), .long (vl 0), .int (vi 8), .int (vi 9), .int (vi 10), .int (vik_9 0), .int (vik_9 1)]))]) hP hD [5] [0, 1, 2, 3, 4] hC9 rfl (by decide) (by decide) hk1 hFc hP1 hD1
          obtain ⟨rk_9, er9⟩ : ∃ z, z = r9 := ⟨_, rfl⟩
          subst er9
          clear hPc hDc hFc hP1 hD1 hk1 hz1 hvm ht hC9
          generalize H1 = H at hP hS ⊢
          obtain ⟨hP, hD⟩ := (show xPD D A [((a 3), .inl (T 2, 27, .inr (.inl (fl 0)))), ((a 4), .inr (7, [.int (vi 13), .int (vi 14), .ref (a 5), .ref (ex 4), .ref (ex 5), .ref (ex 6), .ref (ex 7), .ref (ex 8), .ref (ex 9), .ref (ex 10), .ref (ex 11), .ref (ex 12)])), ((a 5), .inl (T 2, 9, .inr (.inl (fl 1)))), ((a 0), .inr (5, [.ref (a 1), .ref (a 4), .ref (ex 0), .ref (ex 1), .ref (ex 2), .ref (ex 3), .int (vi 0), .int (vi 1)])), ((a 2), .inl (T 0, 940, .inl (fi 0))), ((a 1), .inr (6, [.ref (a 2), .ref (a 3), .int (vi 2), .int (vi 3), .int (vi 4), .int (vi 5), .int (vi 6), .int (vi 7), .long (vl 0), .int (vi 8), .int (vi 9), .int (vi 10), .int (vik_9 0), .int (vik_9 1)]))] H from ⟨hP, hD⟩)
          obtain ⟨gk_9_0, gk_9_1, gk_9_2, -⟩ := hG
          replace gk_9_1 : 0 ≤ (vik_9 1).toInt ∧ (vik_9 1).toInt ≤ 940 := gk_9_1
          replace gk_9_2 : (vik_9 0).toInt = (4 : Int32).toInt ∧ (vik_9 1).toInt = (vi 7).toInt := gk_9_2
          replace gk_9_0 : rk_9 = 0 := gk_9_0
          refine xz_i 0 gk_9_0 ?_
          have hP9 := hP.sub (ws' := [((a 0), .inr (5, [.ref (a 1), .ref (a 4), .ref (ex 0), .ref (ex 1), .ref (ex 2), .ref (ex 3), .int (vi 0), .int (vi 1)])), ((a 1), .inr (6, [.ref (a 2), .ref (a 3), .int (vi 2), .int (vi 3), .int (vi 4), .int (vi 5), .int (vi 6), .int (vi 7), .long (vl 0), .int (vi 8), .int (vi 9), .int (vi 10), .int (vik_9 0), .int (vik_9 1)])), ((a 2), .inl (T 0, 940, .inl (fi 0))), ((a 3), .inl (T 2, 27, .inr (.inl (fl 0)))), ((a 4), .inr (7, [.int (vi 13), .int (vi 14), .ref (a 5), .ref (ex 4), .ref (ex 5), .ref (ex 6), .ref (ex 7), .ref (ex 8), .ref (ex 9), .ref (ex 10), .ref (ex 11), .ref (ex 12)])), ((a 5), .inl (T 2, 9, .inr (.inl (fl 1))))]) [3, 5, 4, 0, 1, 2] rfl
          have hD9 := hD.sub (ws' := [((a 0), .inr (5, [.ref (a 1), .ref (a 4), .ref (ex 0), .ref (ex 1), .ref (ex 2), .ref (ex 3), .int (vi 0), .int (vi 1)])), ((a 1), .inr (6, [.ref (a 2), .ref (a 3), .int (vi 2), .int (vi 3), .int (vi 4), .int (vi 5), .int (vi 6), .int (vi 7), .long (vl 0), .int (vi 8), .int (vi 9), .int (vi 10), .int (vik_9 0), .int (vik_9 1)])), ((a 2), .inl (T 0, 940, .inl (fi 0))), ((a 3), .inl (T 2, 27, .inr (.inl (fl 0)))), ((a 4), .inr (7, [.int (vi 13), .int (vi 14), .ref (a 5), .ref (ex 4), .ref (ex 5), .ref (ex 6), .ref (ex 7), .ref (ex 8), .ref (ex 9), .ref (ex 10), .ref (ex 11), .ref (ex 12)])), ((a 5), .inl (T 2, 9, .inr (.inl (fl 1))))]) [3, 5, 4, 0, 1, 2] (by decide +kernel) rfl
          rw [hQ]
          exact W.zret (v := 0) hx hb hr rfl (fun t ht hW => ⟨⟨0, 0, rfl, rfl, xf [], xh [], xv [(vik_9 0), (vik_9 1)], xl [], by rw [ht]; exact hP9, hD9, ⟨(Or.inr ⟨rfl, by show True; first | trivial | omega | assumption⟩), gk_9_1, (by show (0 : Int32).toInt = 1 → (vi 1).toInt + 1 ≤ (vi 1).toInt ∧ (vi 0).toInt ≤ (vi 0).toInt + 2 * ((vi 1).toInt - (vi 1).toInt) - 1; have k9_0 : (0 : Int32).toInt = 0 := (by decide); have k8 : (0 : Int32).toInt = 0 := (by decide); have k7 : (1 : Int32).toInt = 1 := (by decide); intro h9; exfalso; omega), (by show (0 : Int32).toInt = 1 → (vik_9 0).toInt = (vi 11).toInt; have k9_0 : (0 : Int32).toInt = 0 := (by decide); exact fun h9 => absurd h9 (by decide)), (by unfold R_X5_readOne_9; exact (fun Q9 k9_0 k9_1 k9_2 k9_3 k9_4 k9_5 k9_6 k9_7 k9_8 k9_9 k9_10 k9_11 k9_12 k9_13 k9_14 => k9_6 hp0 hp1 hp2 hp3 hp4 hp5 hp6 hp7 hp8 hp9 fik flk vik vlk rk gk_0 fik_1 flk_1 vik_1 vlk_1 rk_1 gk_1_1 tb gk_1_0 fik_2 flk_2 vik_2 vlk_2 rk_2 tb_1 gk_2_0 c28_1 c55_3 fik_9 flk_9 vik_9 vlk_9 rk_9 gk_9_0 gk_9_1 gk_9_2 rfl rfl rfl)), trivial⟩⟩, hS.F ht⟩) hS.2.2 dX5_readOne_72
        · have c55_3 := xnge (k := 20) (by decide) c55_3
          refine lv_iload_n hx hb dX5_readOne_58 rfl (lv_at hl 4 rfl) ?_
          refine lv_bipush (v := 8) hx hb dX5_readOne_59 (by decide) ?_
          refine lv_icmp_le (tgt := 73) hx hb dX5_readOne_61 (by decide) (fun c => absurd c (by decide)) (fun _ => ?_)
          refine lv_aload_n hx hb dX5_readOne_64 rfl (lv_at hl 3 rfl) ?_
          refine va_get (D := D) (ci := 5) (v := .ref (a 1)) (C := RX5) (T := TX5) (N := 8) hx hb htg inX5 hown hK.1 hP 3 rfl rfl 0 (by decide) (htg _ kw_384) (fun _ h9 => h9) rfl dX5_readOne_65 ?_
          refine lv_iconst (v := 4) hx hb dX5_readOne_68 (by decide) ?_
          obtain ⟨hC9, hPc, hDc, hFc⟩ := xcut (wc := (pre_X6_refuse T (xa [(a 1)]) (xa [(a 2), (a 3)]) (xf []) (xh []) (xv [4, (vi 2), (vi 3), (vi 4), (vi 5), (vi 6), (vi 7), (vi 8), (vi 9), (vi 10), (vi 11), (vi 12)]) (xl [(vl 0)]))) hP hD hS hA [5] (by decide) rfl
          refine va_calli (va_runVN (As := [.int 4]) (rest := []) ⟨hx, hb, hml, hown, htg⟩ (c_X6_refuse l D T (xa [(a 1)]) (xa [(a 2), (a 3)]) (xf []) (xh []) (xv [4, (vi 2), (vi 3), (vi 4), (vi 5), (vi 6), (vi 7), (vi 8), (vi 9), (vi 10), (vi 11), (vi 12)]) (xl [(vl 0)]) H.size hp2 hp3 hp4 hp5 hp6) ⟨va_cnB 1 htg (xg_ok kw_594) rfl rfl rfl (hK.2.1 _ kn_1218) (htg _ kw_2) (by decide +kernel) ⟨by rw [hR]; exact Nat.le_of_ble_eq_true rfl, by rw [hR]; exact Nat.le_of_ble_eq_true rfl⟩, htg _ kw_593, htg _ ks_10⟩ (xpreV hK hPc hDc (va_recv hK.1 hPc (ci := 6) (q0 := 0) rfl rfl)) rfl rfl hl.1 rfl (lv_room (Nat.le_of_ble_eq_true rfl)) dX5_readOne_69 ⟨by rw [hR]; exact Nat.le_of_ble_eq_true rfl, by rw [hR]; exact Nat.le_of_ble_eq_true rfl⟩) hS (fun q _ h => hFc q h) hFc (fun r9 u9 t H1 locs ht hvm hw hB hz1 hk1 hS => ?_)
          subst hw
          obtain ⟨fik_10, flk_10, vik_10, vlk_10, hP1, hD1, hG⟩ := hB
          rw [ht] at hP1
          obtain ⟨hP, hD⟩ := va_join (wr := [((a 3), .inl (T 2, 27, .inr (.inl (fl 0)))), ((a 4), .inr (7, [.int (vi 13), .int (vi 14), .ref (a 5), .ref (ex 4), .ref (ex 5), .ref (ex 6), .ref (ex 7), .ref (ex 8), .ref (ex 9), .ref (ex 10), .ref (ex 11), .ref (ex 12)])), ((a 5), .inl (T 2, 9, .inr (.inl (fl 1)))), ((a 0), .inr (5, [.ref (a 1), .ref (a 4), .ref (ex 0), .ref (ex 1), .ref (ex 2), .ref (ex 3), .int (vi 0), .int (vi 1)])), ((a 2), .inl (T 0, 940, .inl (fi 0)))]) (w1 := [((a 1), .inr (6, [.ref (a 2), .ref (a 3), .int (vi 2), .int (vi 3), .int (vi 4), .int (vi 5), .int (vi 6), .int (vi 7), .long (vl 0), .int (vi 8), .int (vi 9), .int (vi 10), .int (vik_10 0), .int (vik_10 1)]))]) hP hD [5] [0, 1, 2, 3, 4] hC9 rfl (by decide) (by decide) hk1 hFc hP1 hD1
          obtain ⟨rk_10, er9⟩ : ∃ z, z = r9 := ⟨_, rfl⟩
          subst er9
          clear hPc hDc hFc hP1 hD1 hk1 hz1 hvm ht hC9
          generalize H1 = H at hP hS ⊢
          obtain ⟨hP, hD⟩ := (show xPD D A [((a 3), .inl (T 2, 27, .inr (.inl (fl 0)))), ((a 4), .inr (7, [.int (vi 13), .int (vi 14), .ref (a 5), .ref (ex 4), .ref (ex 5), .ref (ex 6), .ref (ex 7), .ref (ex 8), .ref (ex 9), .ref (ex 10), .ref (ex 11), .ref (ex 12)])), ((a 5), .inl (T 2, 9, .inr (.inl (fl 1)))), ((a 0), .inr (5, [.ref (a 1), .ref (a 4), .ref (ex 0), .ref (ex 1), .ref (ex 2), .ref (ex 3), .int (vi 0), .int (vi 1)])), ((a 2), .inl (T 0, 940, .inl (fi 0))), ((a 1), .inr (6, [.ref (a 2), .ref (a 3), .int (vi 2), .int (vi 3), .int (vi 4), .int (vi 5), .int (vi 6), .int (vi 7), .long (vl 0), .int (vi 8), .int (vi 9), .int (vi 10), .int (vik_10 0), .int (vik_10 1)]))] H from ⟨hP, hD⟩)
          obtain ⟨gk_10_0, gk_10_1, gk_10_2, -⟩ := hG
          replace gk_10_1 : 0 ≤ (vik_10 1).toInt ∧ (vik_10 1).toInt ≤ 940 := gk_10_1
          replace gk_10_2 : (vik_10 0).toInt = (4 : Int32).toInt ∧ (vik_10 1).toInt = (vi 7).toInt := gk_10_2
          replace gk_10_0 : rk_10 = 0 := gk_10_0
          refine xz_i 0 gk_10_0 ?_
          have hP9 := hP.sub (ws' := [((a 0), .inr (5, [.ref (a 1), .ref (a 4), .ref (ex 0), .ref (ex 1), .ref (ex 2), .ref (ex 3), .int (vi 0), .int (vi 1)])), ((a 1), .inr (6, [.ref (a 2), .ref (a 3), .int (vi 2), .int (vi 3), .int (vi 4), .int (vi 5), .int (vi 6), .int (vi 7), .long (vl 0), .int (vi 8), .int (vi 9), .int (vi 10), .int (vik_10 0), .int (vik_10 1)])), ((a 2), .inl (T 0, 940, .inl (fi 0))), ((a 3), .inl (T 2, 27, .inr (.inl (fl 0)))), ((a 4), .inr (7, [.int (vi 13), .int (vi 14), .ref (a 5), .ref (ex 4), .ref (ex 5), .ref (ex 6), .ref (ex 7), .ref (ex 8), .ref (ex 9), .ref (ex 10), .ref (ex 11), .ref (ex 12)])), ((a 5), .inl (T 2, 9, .inr (.inl (fl 1))))]) [3, 5, 4, 0, 1, 2] rfl
          have hD9 := hD.sub (ws' := [((a 0), .inr (5, [.ref (a 1), .ref (a 4), .ref (ex 0), .ref (ex 1), .ref (ex 2), .ref (ex 3), .int (vi 0), .int (vi 1)])), ((a 1), .inr (6, [.ref (a 2), .ref (a 3), .int (vi 2), .int (vi 3), .int (vi 4), .int (vi 5), .int (vi 6), .int (vi 7), .long (vl 0), .int (vi 8), .int (vi 9), .int (vi 10), .int (vik_10 0), .int (vik_10 1)])), ((a 2), .inl (T 0, 940, .inl (fi 0))), ((a 3), .inl (T 2, 27, .inr (.inl (fl 0)))), ((a 4), .inr (7, [.int (vi 13), .int (vi 14), .ref (a 5), .ref (ex 4), .ref (ex 5), .ref (ex 6), .ref (ex 7), .ref (ex 8), .ref (ex 9), .ref (ex 10), .ref (ex 11), .ref (ex 12)])), ((a 5), .inl (T 2, 9, .inr (.inl (fl 1))))]) [3, 5, 4, 0, 1, 2] (by decide +kernel) rfl
          rw [hQ]
          exact W.zret (v := 0) hx hb hr rfl (fun t ht hW => ⟨⟨0, 0, rfl, rfl, xf [], xh [], xv [(vik_10 0), (vik_10 1)], xl [], by rw [ht]; exact hP9, hD9, ⟨(Or.inr ⟨rfl, by show True; first | trivial | omega | assumption⟩), gk_10_1, (by show (0 : Int32).toInt = 1 → (vi 1).toInt + 1 ≤ (vi 1).toInt ∧ (vi 0).toInt ≤ (vi 0).toInt + 2 * ((vi 1).toInt - (vi 1).toInt) - 1; have k9_0 : (0 : Int32).toInt = 0 := (by decide); have k8 : (0 : Int32).toInt = 0 := (by decide); have k7 : (1 : Int32).toInt = 1 := (by decide); intro h9; exfalso; omega), (by show (0 : Int32).toInt = 1 → (vik_10 0).toInt = (vi 11).toInt; have k9_0 : (0 : Int32).toInt = 0 := (by decide); exact fun h9 => absurd h9 (by decide)), (by unfold R_X5_readOne_9; exact (fun Q9 k9_0 k9_1 k9_2 k9_3 k9_4 k9_5 k9_6 k9_7 k9_8 k9_9 k9_10 k9_11 k9_12 k9_13 k9_14 => k9_7 hp0 hp1 hp2 hp3 hp4 hp5 hp6 hp7 hp8 hp9 fik flk vik vlk rk gk_0 fik_1 flk_1 vik_1 vlk_1 rk_1 gk_1_1 tb gk_1_0 fik_2 flk_2 vik_2 vlk_2 rk_2 tb_1 gk_2_0 c28_1 c55_3 fik_10 flk_10 vik_10 vlk_10 rk_10 gk_10_0 gk_10_1 gk_10_2 rfl rfl rfl)), trivial⟩⟩, hS.F ht⟩) hS.2.2 dX5_readOne_72
  · refine xz_i 0 er9 ?_
    have tb : rk_1.toInt = 0 := by rw [er9]; decide
    refine lv_istore_n (lv' := [(3, .int 0), (2, .int rk), (0, .ref (a 0)), (1, .int 9)]) hx hb dX5_readOne_14 rfl hl (by decide) rfl (fun ls hl => ?_)
    refine lv_aload_n hx hb dX5_readOne_15 rfl (lv_at hl 2 rfl) ?_
    refine va_get (D := D) (ci := 5) (v := .ref (a 1)) (C := RX5) (T := TX5) (N := 8) hx hb htg inX5 hown hK.1 hP 3 rfl rfl 0 (by decide) (htg _ kw_384) (fun _ h9 => h9) rfl dX5_readOne_16 ?_
    refine lv_bipush (v := 40) hx hb dX5_readOne_19 (by decide) ?_
    obtain ⟨hC9, hPc, hDc, hFc⟩ := xcut (wc := (pre_X6_isSign T (xa [(a 1)]) (xa [(a 2), (a 3)]) (xf []) (xh []) (xv [40, (vi 2), (vi 3), (vi 4), (vi 5), (vi 6), (vi 7), (vi 8), (vi 9), (vi 10), (vi 11), (vi 12)]) (xl [(vl 0)]))) hP hD hS hA [5] (by decide) rfl
    refine va_calli (va_runVN (As := [.int 40]) (rest := []) ⟨hx, hb, hml, hown, htg⟩ (c_X6_isSign l D T (xa [(a 1)]) (xa [(a 2), (a 3)]) (xf []) (xh []) (xv [40, (vi 2), (vi 3), (vi 4), (vi 5), (vi 6), (vi 7), (vi 8), (vi 9), (vi 10), (vi 11), (vi 12)]) (xl [(vl 0)]) H.size hp2 hp3 hp4 hp5 hp6) ⟨va_cnB 1 htg (xg_ok kw_697) rfl rfl rfl (hK.2.1 _ kn_1217) (htg _ kw_2) (by decide +kernel) ⟨by rw [hR]; exact Nat.le_of_ble_eq_true rfl, by rw [hR]; exact Nat.le_of_ble_eq_true rfl⟩, htg _ kw_696, htg _ ks_32⟩ (xpreV hK hPc hDc (va_recv hK.1 hPc (ci := 6) (q0 := 0) rfl rfl)) rfl rfl hl.1 rfl (lv_room (Nat.le_of_ble_eq_true rfl)) dX5_readOne_21 ⟨by rw [hR]; exact Nat.le_of_ble_eq_true rfl, by rw [hR]; exact Nat.le_of_ble_eq_true rfl⟩) hS (fun q _ h => hFc q h) hFc (fun r9 u9 t H1 locs ht hvm hw hB hz1 hk1 hS => ?_)
    subst hw
    obtain ⟨fik_11, flk_11, vik_11, vlk_11, hP1, hD1, hG⟩ := hB
    rw [ht] at hP1
    obtain ⟨hP, hD⟩ := va_join (wr := [((a 3), .inl (T 2, 27, .inr (.inl (fl 0)))), ((a 4), .inr (7, [.int (vi 13), .int (vi 14), .ref (a 5), .ref (ex 4), .ref (ex 5), .ref (ex 6), .ref (ex 7), .ref (ex 8), .ref (ex 9), .ref (ex 10), .ref (ex 11), .ref (ex 12)])), ((a 5), .inl (T 2, 9, .inr (.inl (fl 1)))), ((a 0), .inr (5, [.ref (a 1), .ref (a 4), .ref (ex 0), .ref (ex 1), .ref (ex 2), .ref (ex 3), .int (vi 0), .int (vi 1)])), ((a 2), .inl (T 0, 940, .inl (fi 0)))]) (w1 := [((a 1), .inr (6, [.ref (a 2), .ref (a 3), .int (vi 2), .int (vi 3), .int (vi 4), .int (vi 5), .int (vi 6), .int (vi 7), .long (vl 0), .int (vi 8), .int (vi 9), .int (vi 10), .int (vi 11), .int (vi 12)]))]) hP hD [5] [0, 1, 2, 3, 4] hC9 rfl (by decide) (by decide) hk1 hFc hP1 hD1
    obtain ⟨rk_11, er9⟩ : ∃ z, z = r9 := ⟨_, rfl⟩
    subst er9
    clear hPc hDc hFc hP1 hD1 hk1 hz1 hvm ht hC9
    generalize H1 = H at hP hS ⊢
    obtain ⟨hP, hD⟩ := (show xPD D A [((a 3), .inl (T 2, 27, .inr (.inl (fl 0)))), ((a 4), .inr (7, [.int (vi 13), .int (vi 14), .ref (a 5), .ref (ex 4), .ref (ex 5), .ref (ex 6), .ref (ex 7), .ref (ex 8), .ref (ex 9), .ref (ex 10), .ref (ex 11), .ref (ex 12)])), ((a 5), .inl (T 2, 9, .inr (.inl (fl 1)))), ((a 0), .inr (5, [.ref (a 1), .ref (a 4), .ref (ex 0), .ref (ex 1), .ref (ex 2), .ref (ex 3), .int (vi 0), .int (vi 1)])), ((a 2), .inl (T 0, 940, .inl (fi 0))), ((a 1), .inr (6, [.ref (a 2), .ref (a 3), .int (vi 2), .int (vi 3), .int (vi 4), .int (vi 5), .int (vi 6), .int (vi 7), .long (vl 0), .int (vi 8), .int (vi 9), .int (vi 10), .int (vi 11), .int (vi 12)]))] H from ⟨hP, hD⟩)
    obtain ⟨gk_11_0, -⟩ := hG
    rcases (show (rk_11 = 1 ∧ ((vi 6).toInt = 3 ∧ (vi 9).toInt = (40 : Int32).toInt)) ∨ (rk_11 = 0 ∧ (¬ ((vi 6).toInt = 3 ∧ (vi 9).toInt = (40 : Int32).toInt))) from gk_11_0) with ⟨er9, gk_11_0⟩ | ⟨er9, gk_11_0⟩
    · refine xz_i 1 er9 ?_
      have tb_2 : rk_11.toInt = 1 := by rw [er9]; decide
      refine lv_istore (lv' := [(4, .int 1), (3, .int 0), (2, .int rk), (0, .ref (a 0)), (1, .int 9)]) hx hb dX5_readOne_24 hl (by decide) rfl (fun ls hl => ?_)
      refine lv_iload_n hx hb dX5_readOne_26 rfl (lv_at hl 2 rfl) ?_
      refine lv_iconst (v := (-1)) hx hb dX5_readOne_27 (by decide) ?_
      refine lv_icmp_ne (tgt := 49) hx hb dX5_readOne_28 (by decide) (fun c28_2 => ?_) (fun c28_2 => ?_)
      · have c28_2 := xne (k := (-1)) (by decide) c28_2
        refine lv_aload_n hx hb dX5_readOne_49 rfl (lv_at hl 3 rfl) ?_
        refine va_get (D := D) (ci := 5) (v := .int (vi 1)) (C := RX5) (T := TX5) (N := 8) hx hb htg inX5 hown hK.1 hP 3 rfl rfl 7 (by decide) (htg _ kw_391) (fun _ h9 => h9) rfl dX5_readOne_50 ?_
        refine lv_bipush (v := 20) hx hb dX5_readOne_53 (by decide) ?_
        refine lv_icmp_ge (tgt := 64) hx hb dX5_readOne_55 (by decide) (fun c55_4 => ?_) (fun c55_4 => ?_)
        · have c55_4 := xge (k := 20) (by decide) c55_4
          refine lv_aload_n hx hb dX5_readOne_64 rfl (lv_at hl 3 rfl) ?_
          refine va_get (D := D) (ci := 5) (v := .ref (a 1)) (C := RX5) (T := TX5) (N := 8) hx hb htg inX5 hown hK.1 hP 3 rfl rfl 0 (by decide) (htg _ kw_384) (fun _ h9 => h9) rfl dX5_readOne_65 ?_
          refine lv_iconst (v := 4) hx hb dX5_readOne_68 (by decide) ?_
          obtain ⟨hC9, hPc, hDc, hFc⟩ := xcut (wc := (pre_X6_refuse T (xa [(a 1)]) (xa [(a 2), (a 3)]) (xf []) (xh []) (xv [4, (vi 2), (vi 3), (vi 4), (vi 5), (vi 6), (vi 7), (vi 8), (vi 9), (vi 10), (vi 11), (vi 12)]) (xl [(vl 0)]))) hP hD hS hA [5] (by decide) rfl
          refine va_calli (va_runVN (As := [.int 4]) (rest := []) ⟨hx, hb, hml, hown, htg⟩ (c_X6_refuse l D T (xa [(a 1)]) (xa [(a 2), (a 3)]) (xf []) (xh []) (xv [4, (vi 2), (vi 3), (vi 4), (vi 5), (vi 6), (vi 7), (vi 8), (vi 9), (vi 10), (vi 11), (vi 12)]) (xl [(vl 0)]) H.size hp2 hp3 hp4 hp5 hp6) ⟨va_cnB 1 htg (xg_ok kw_594) rfl rfl rfl (hK.2.1 _ kn_1218) (htg _ kw_2) (by decide +kernel) ⟨by rw [hR]; exact Nat.le_of_ble_eq_true rfl, by rw [hR]; exact Nat.le_of_ble_eq_true rfl⟩, htg _ kw_593, htg _ ks_10⟩ (xpreV hK hPc hDc (va_recv hK.1 hPc (ci := 6) (q0 := 0) rfl rfl)) rfl rfl hl.1 rfl (lv_room (Nat.le_of_ble_eq_true rfl)) dX5_readOne_69 ⟨by rw [hR]; exact Nat.le_of_ble_eq_true rfl, by rw [hR]; exact Nat.le_of_ble_eq_true rfl⟩) hS (fun q _ h => hFc q h) hFc (fun r9 u9 t H1 locs ht hvm hw hB hz1 hk1 hS => ?_)
          subst hw
          obtain ⟨fik_12, flk_12, vik_12, vlk_12, hP1, hD1, hG⟩ := hB
          rw [ht] at hP1
          obtain ⟨hP, hD⟩ := va_join (wr := [((a 3), .inl (T 2, 27, .inr (.inl (fl 0)))), ((a 4), .inr (7, [.int (vi 13), .int (vi 14), .ref (a 5), .ref (ex 4), .ref (ex 5), .ref (ex 6), .ref (ex 7), .ref (ex 8), .ref (ex 9), .ref (ex 10), .ref (ex 11), .ref (ex 12)])), ((a 5), .inl (T 2, 9, .inr (.inl (fl 1)))), ((a 0), .inr (5, [.ref (a 1), .ref (a 4), .ref (ex 0), .ref (ex 1), .ref (ex 2), .ref (ex 3), .int (vi 0), .int (vi 1)])), ((a 2), .inl (T 0, 940, .inl (fi 0)))]) (w1 := [((a 1), .inr (6, [.ref (a 2), .ref (a 3), .int (vi 2), .int (vi 3), .int (vi 4), .int (vi 5), .int (vi 6), .int (vi 7), .long (vl 0), .int (vi 8), .int (vi 9), .int (vi 10), .int (vik_12 0), .int (vik_12 1)]))]) hP hD [5] [0, 1, 2, 3, 4] hC9 rfl (by decide) (by decide) hk1 hFc hP1 hD1
          obtain ⟨rk_12, er9⟩ : ∃ z, z = r9 := ⟨_, rfl⟩
          subst er9
          clear hPc hDc hFc hP1 hD1 hk1 hz1 hvm ht hC9
          generalize H1 = H at hP hS ⊢
          obtain ⟨hP, hD⟩ := (show xPD D A [((a 3), .inl (T 2, 27, .inr (.inl (fl 0)))), ((a 4), .inr (7, [.int (vi 13), .int (vi 14), .ref (a 5), .ref (ex 4), .ref (ex 5), .ref (ex 6), .ref (ex 7), .ref (ex 8), .ref (ex 9), .ref (ex 10), .ref (ex 11), .ref (ex 12)])), ((a 5), .inl (T 2, 9, .inr (.inl (fl 1)))), ((a 0), .inr (5, [.ref (a 1), .ref (a 4), .ref (ex 0), .ref (ex 1), .ref (ex 2), .ref (ex 3), .int (vi 0), .int (vi 1)])), ((a 2), .inl (T 0, 940, .inl (fi 0))), ((a 1), .inr (6, [.ref (a 2), .ref (a 3), .int (vi 2), .int (vi 3), .int (vi 4), .int (vi 5), .int (vi 6), .int (vi 7), .long (vl 0), .int (vi 8), .int (vi 9), .int (vi 10), .int (vik_12 0), .int (vik_12 1)]))] H from ⟨hP, hD⟩)
          obtain ⟨gk_12_0, gk_12_1, gk_12_2, -⟩ := hG
          replace gk_12_1 : 0 ≤ (vik_12 1).toInt ∧ (vik_12 1).toInt ≤ 940 := gk_12_1
          replace gk_12_2 : (vik_12 0).toInt = (4 : Int32).toInt ∧ (vik_12 1).toInt = (vi 7).toInt := gk_12_2
          replace gk_12_0 : rk_12 = 0 := gk_12_0
          refine xz_i 0 gk_12_0 ?_
          have hP9 := hP.sub (ws' := [((a 0), .inr (5, [.ref (a 1), .ref (a 4), .ref (ex 0), .ref (ex 1), .ref (ex 2), .ref (ex 3), .int (vi 0), .int (vi 1)])), ((a 1), .inr (6, [.ref (a 2), .ref (a 3), .int (vi 2), .int (vi 3), .int (vi 4), .int (vi 5), .int (vi 6), .int (vi 7), .long (vl 0), .int (vi 8), .int (vi 9), .int (vi 10), .int (vik_12 0), .int (vik_12 1)])), ((a 2), .inl (T 0, 940, .inl (fi 0))), ((a 3), .inl (T 2, 27, .inr (.inl (fl 0)))), ((a 4), .inr (7, [.int (vi 13), .int (vi 14), .ref (a 5), .ref (ex 4), .ref (ex 5), .ref (ex 6), .ref (ex 7), .ref (ex 8), .ref (ex 9), .ref (ex 10), .ref (ex 11), .ref (ex 12)])), ((a 5), .inl (T 2, 9, .inr (.inl (fl 1))))]) [3, 5, 4, 0, 1, 2] rfl
          have hD9 := hD.sub (ws' := [((a 0), .inr (5, [.ref (a 1), .ref (a 4), .ref (ex 0), .ref (ex 1), .ref (ex 2), .ref (ex 3), .int (vi 0), .int (vi 1)])), ((a 1), .inr (6, [.ref (a 2), .ref (a 3), .int (vi 2), .int (vi 3), .int (vi 4), .int (vi 5), .int (vi 6), .int (vi 7), .long (vl 0), .int (vi 8), .int (vi 9), .int (vi 10), .int (vik_12 0), .int (vik_12 1)])), ((a 2), .inl (T 0, 940, .inl (fi 0))), ((a 3), .inl (T 2, 27, .inr (.inl (fl 0)))), ((a 4), .inr (7, [.int (vi 13), .int (vi 14), .ref (a 5), .ref (ex 4), .ref (ex 5), .ref (ex 6), .ref (ex 7), .ref (ex 8), .ref (ex 9), .ref (ex 10), .ref (ex 11), .ref (ex 12)])), ((a 5), .inl (T 2, 9, .inr (.inl (fl 1))))]) [3, 5, 4, 0, 1, 2] (by decide +kernel) rfl
          rw [hQ]
          exact W.zret (v := 0) hx hb hr rfl (fun t ht hW => ⟨⟨0, 0, rfl, rfl, xf [], xh [], xv [(vik_12 0), (vik_12 1)], xl [], by rw [ht]; exact hP9, hD9, ⟨(Or.inr ⟨rfl, by show True; first | trivial | omega | assumption⟩), gk_12_1, (by show (0 : Int32).toInt = 1 → (vi 1).toInt + 1 ≤ (vi 1).toInt ∧ (vi 0).toInt ≤ (vi 0).toInt + 2 * ((vi 1).toInt - (vi 1).toInt) - 1; have k9_0 : (0 : Int32).toInt = 0 := (by decide); have k8 : (0 : Int32).toInt = 0 := (by decide); have k7 : (1 : Int32).toInt = 1 := (by decide); intro h9; exfalso; omega), (by show (0 : Int32).toInt = 1 → (vik_12 0).toInt = (vi 11).toInt; have k9_0 : (0 : Int32).toInt = 0 := (by decide); exact fun h9 => absurd h9 (by decide)), (by unfold R_X5_readOne_9; exact (fun Q9 k9_0 k9_1 k9_2 k9_3 k9_4 k9_5 k9_6 k9_7 k9_8 k9_9 k9_10 k9_11 k9_12 k9_13 k9_14 => k9_8 hp0 hp1 hp2 hp3 hp4 hp5 hp6 hp7 hp8 hp9 fik flk vik vlk rk gk_0 fik_1 flk_1 vik_1 vlk_1 rk_1 gk_1_1 tb gk_1_0 fik_11 flk_11 vik_11 vlk_11 rk_11 tb_2 gk_11_0 c28_2 c55_4 fik_12 flk_12 vik_12 vlk_12 rk_12 gk_12_0 gk_12_1 gk_12_2 rfl rfl rfl)), trivial⟩⟩, hS.F ht⟩) hS.2.2 dX5_readOne_72
        · have c55_4 := xnge (k := 20) (by decide) c55_4
          refine lv_iload_n hx hb dX5_readOne_58 rfl (lv_at hl 4 rfl) ?_
          refine lv_bipush (v := 8) hx hb dX5_readOne_59 (by decide) ?_
          refine lv_icmp_le (tgt := 73) hx hb dX5_readOne_61 (by decide) (fun c => absurd c (by decide)) (fun _ => ?_)
          refine lv_aload_n hx hb dX5_readOne_64 rfl (lv_at hl 3 rfl) ?_
          refine va_get (D := D) (ci := 5) (v := .ref (a 1)) (C := RX5) (T := TX5) (N := 8) hx hb htg inX5 hown hK.1 hP 3 rfl rfl 0 (by decide) (htg _ kw_384) (fun _ h9 => h9) rfl dX5_readOne_65 ?_
          refine lv_iconst (v := 4) hx hb dX5_readOne_68 (by decide) ?_
          obtain ⟨hC9, hPc, hDc, hFc⟩ := xcut (wc := (pre_X6_refuse T (xa [(a 1)]) (xa [(a 2), (a 3)]) (xf []) (xh []) (xv [4, (vi 2), (vi 3), (vi 4), (vi 5), (vi 6), (vi 7), (vi 8), (vi 9), (vi 10), (vi 11), (vi 12)]) (xl [(vl 0)]))) hP hD hS hA [5] (by decide) rfl
          refine va_calli (va_runVN (As := [.int 4]) (rest := []) ⟨hx, hb, hml, hown, htg⟩ (c_X6_refuse l D T (xa [(a 1)]) (xa [(a 2), (a 3)]) (xf []) (xh []) (xv [4, (vi 2), (vi 3), (vi 4), (vi 5), (vi 6), (vi 7), (vi 8), (vi 9), (vi 10), (vi 11), (vi 12)]) (xl [(vl 0)]) H.size hp2 hp3 hp4 hp5 hp6) ⟨va_cnB 1 htg (xg_ok kw_594) rfl rfl rfl (hK.2.1 _ kn_1218) (htg _ kw_2) (by decide +kernel) ⟨by rw [hR]; exact Nat.le_of_ble_eq_true rfl, by rw [hR]; exact Nat.le_of_ble_eq_true rfl⟩, htg _ kw_593, htg _ ks_10⟩ (xpreV hK hPc hDc (va_recv hK.1 hPc (ci := 6) (q0 := 0) rfl rfl)) rfl rfl hl.1 rfl (lv_room (Nat.le_of_ble_eq_true rfl)) dX5_readOne_69 ⟨by rw [hR]; exact Nat.le_of_ble_eq_true rfl, by rw [hR]; exact Nat.le_of_ble_eq_true rfl⟩) hS (fun q _ h => hFc q h) hFc (fun r9 u9 t H1 locs ht hvm hw hB hz1 hk1 hS => ?_)
          subst hw
          obtain ⟨fik_13, flk_13, vik_13, vlk_13, hP1, hD1, hG⟩ := hB
          rw [ht] at hP1
          obtain ⟨hP, hD⟩ := va_join (wr := [((a 3), .inl (T 2, 27, .inr (.inl (fl 0)))), ((a 4), .inr (7, [.int (vi 13), .int (vi 14), .ref (a 5), .ref (ex 4), .ref (ex 5), .ref (ex 6), .ref (ex 7), .ref (ex 8), .ref (ex 9), .ref (ex 10), .ref (ex 11), .ref (ex 12)])), ((a 5), .inl (T 2, 9, .inr (.inl (fl 1)))), ((a 0), .inr (5, [.ref (a 1), .ref (a 4), .ref (ex 0), .ref (ex 1), .ref (ex 2), .ref (ex 3), .int (vi 0), .int (vi 1)])), ((a 2), .inl (T 0, 940, .inl (fi 0)))]) (w1 := [((a 1), .inr (6, [.ref (a 2), .ref (a 3), .int (vi 2), .int (vi 3), .int (vi 4), .int (vi 5), .int (vi 6), .int (vi 7), .long (vl 0), .int (vi 8), .int (vi 9), .int (vi 10), .int (vik_13 0), .int (vik_13 1)]))]) hP hD [5] [0, 1, 2, 3, 4] hC9 rfl (by decide) (by decide) hk1 hFc hP1 hD1
          obtain ⟨rk_13, er9⟩ : ∃ z, z = r9 := ⟨_, rfl⟩
          subst er9
          clear hPc hDc hFc hP1 hD1 hk1 hz1 hvm ht hC9
          generalize H1 = H at hP hS ⊢
          obtain ⟨hP, hD⟩ := (show xPD D A [((a 3), .inl (T 2, 27, .inr (.inl (fl 0)))), ((a 4), .inr (7, [.int (vi 13), .int (vi 14), .ref (a 5), .ref (ex 4), .ref (ex 5), .ref (ex 6), .ref (ex 7), .ref (ex 8), .ref (ex 9), .ref (ex 10), .ref (ex 11), .ref (ex 12)])), ((a 5), .inl (T 2, 9, .inr (.inl (fl 1)))), ((a 0), .inr (5, [.ref (a 1), .ref (a 4), .ref (ex 0), .ref (ex 1), .ref (ex 2), .ref (ex 3), .int (vi 0), .int (vi 1)])), ((a 2), .inl (T 0, 940, .inl (fi 0))), ((a 1), .inr (6, [.ref (a 2), .ref (a 3), .int (vi 2), .int (vi 3), .int (vi 4), .int (vi 5), .int (vi 6), .int (vi 7), .long (vl 0), .int (vi 8), .int (vi 9), .int (vi 10), .int (vik_13 0), .int (vik_13 1)]))] H from ⟨hP, hD⟩)
          obtain ⟨gk_13_0, gk_13_1, gk_13_2, -⟩ := hG
          replace gk_13_1 : 0 ≤ (vik_13 1).toInt ∧ (vik_13 1).toInt ≤ 940 := gk_13_1
          replace gk_13_2 : (vik_13 0).toInt = (4 : Int32).toInt ∧ (vik_13 1).toInt = (vi 7).toInt := gk_13_2
          replace gk_13_0 : rk_13 = 0 := gk_13_0
          refine xz_i 0 gk_13_0 ?_
          have hP9 := hP.sub (ws' := [((a 0), .inr (5, [.ref (a 1), .ref (a 4), .ref (ex 0), .ref (ex 1), .ref (ex 2), .ref (ex 3), .int (vi 0), .int (vi 1)])), ((a 1), .inr (6, [.ref (a 2), .ref (a 3), .int (vi 2), .int (vi 3), .int (vi 4), .int (vi 5), .int (vi 6), .int (vi 7), .long (vl 0), .int (vi 8), .int (vi 9), .int (vi 10), .int (vik_13 0), .int (vik_13 1)])), ((a 2), .inl (T 0, 940, .inl (fi 0))), ((a 3), .inl (T 2, 27, .inr (.inl (fl 0)))), ((a 4), .inr (7, [.int (vi 13), .int (vi 14), .ref (a 5), .ref (ex 4), .ref (ex 5), .ref (ex 6), .ref (ex 7), .ref (ex 8), .ref (ex 9), .ref (ex 10), .ref (ex 11), .ref (ex 12)])), ((a 5), .inl (T 2, 9, .inr (.inl (fl 1))))]) [3, 5, 4, 0, 1, 2] rfl
          have hD9 := hD.sub (ws' := [((a 0), .inr (5, [.ref (a 1), .ref (a 4), .ref (ex 0), .ref (ex 1), .ref (ex 2), .ref (ex 3), .int (vi 0), .int (vi 1)])), ((a 1), .inr (6, [.ref (a 2), .ref (a 3), .int (vi 2), .int (vi 3), .int (vi 4), .int (vi 5), .int (vi 6), .int (vi 7), .long (vl 0), .int (vi 8), .int (vi 9), .int (vi 10), .int (vik_13 0), .int (vik_13 1)])), ((a 2), .inl (T 0, 940, .inl (fi 0))), ((a 3), .inl (T 2, 27, .inr (.inl (fl 0)))), ((a 4), .inr (7, [.int (vi 13), .int (vi 14), .ref (a 5), .ref (ex 4), .ref (ex 5), .ref (ex 6), .ref (ex 7), .ref (ex 8), .ref (ex 9), .ref (ex 10), .ref (ex 11), .ref (ex 12)])), ((a 5), .inl (T 2, 9, .inr (.inl (fl 1))))]) [3, 5, 4, 0, 1, 2] (by decide +kernel) rfl
          rw [hQ]
          exact W.zret (v := 0) hx hb hr rfl (fun t ht hW => ⟨⟨0, 0, rfl, rfl, xf [], xh [], xv [(vik_13 0), (vik_13 1)], xl [], by rw [ht]; exact hP9, hD9, ⟨(Or.inr ⟨rfl, by show True; first | trivial | omega | assumption⟩), gk_13_1, (by show (0 : Int32).toInt = 1 → (vi 1).toInt + 1 ≤ (vi 1).toInt ∧ (vi 0).toInt ≤ (vi 0).toInt + 2 * ((vi 1).toInt - (vi 1).toInt) - 1; have k9_0 : (0 : Int32).toInt = 0 := (by decide); have k8 : (0 : Int32).toInt = 0 := (by decide); have k7 : (1 : Int32).toInt = 1 := (by decide); intro h9; exfalso; omega), (by show (0 : Int32).toInt = 1 → (vik_13 0).toInt = (vi 11).toInt; have k9_0 : (0 : Int32).toInt = 0 := (by decide); exact fun h9 => absurd h9 (by decide)), (by unfold R_X5_readOne_9; exact (fun Q9 k9_0 k9_1 k9_2 k9_3 k9_4 k9_5 k9_6 k9_7 k9_8 k9_9 k9_10 k9_11 k9_12 k9_13 k9_14 => k9_9 hp0 hp1 hp2 hp3 hp4 hp5 hp6 hp7 hp8 hp9 fik flk vik vlk rk gk_0 fik_1 flk_1 vik_1 vlk_1 rk_1 gk_1_1 tb gk_1_0 fik_11 flk_11 vik_11 vlk_11 rk_11 tb_2 gk_11_0 c28_2 c55_4 fik_13 flk_13 vik_13 vlk_13 rk_13 gk_13_0 gk_13_1 gk_13_2 rfl rfl rfl)), trivial⟩⟩, hS.F ht⟩) hS.2.2 dX5_readOne_72
      · have c28_2 := xeq (k := (-1)) (by decide) c28_2
        refine lv_iload_n hx hb dX5_readOne_31 rfl (lv_at hl 1 rfl) ?_
        refine lv_if_ne (tgt := 49) hx hb dX5_readOne_32 (by decide) (fun c => absurd (by decide) c) (fun _ => ?_)
        refine lv_iload hx hb dX5_readOne_35 (lv_at hl 0 rfl) ?_
        refine lv_if_ne (tgt := 49) hx hb dX5_readOne_37 (by decide) (fun _ => ?_) (fun c => absurd c (by decide))
        refine lv_aload_n hx hb dX5_readOne_49 rfl (lv_at hl 3 rfl) ?_
        refine va_get (D := D) (ci := 5) (v := .int (vi 1)) (C := RX5) (T := TX5) (N := 8) hx hb htg inX5 hown hK.1 hP 3 rfl rfl 7 (by decide) (htg _ kw_391) (fun _ h9 => h9) rfl dX5_readOne_50 ?_
        refine lv_bipush (v := 20) hx hb dX5_readOne_53 (by decide) ?_
        refine lv_icmp_ge (tgt := 64) hx hb dX5_readOne_55 (by decide) (fun c55_5 => ?_) (fun c55_5 => ?_)
        · have c55_5 := xge (k := 20) (by decide) c55_5
          refine lv_aload_n hx hb dX5_readOne_64 rfl (lv_at hl 3 rfl) ?_
          refine va_get (D := D) (ci := 5) (v := .ref (a 1)) (C := RX5) (T := TX5) (N := 8) hx hb htg inX5 hown hK.1 hP 3 rfl rfl 0 (by decide) (htg _ kw_384) (fun _ h9 => h9) rfl dX5_readOne_65 ?_
          refine lv_iconst (v := 4) hx hb dX5_readOne_68 (by decide) ?_
          obtain ⟨hC9, hPc, hDc, hFc⟩ := xcut (wc := (pre_X6_refuse T (xa [(a 1)]) (xa [(a 2), (a 3)]) (xf []) (xh []) (xv [4, (vi 2), (vi 3), (vi 4), (vi 5), (vi 6), (vi 7), (vi 8), (vi 9), (vi 10), (vi 11), (vi 12)]) (xl [(vl 0)]))) hP hD hS hA [5] (by decide) rfl
          refine va_calli (va_runVN (As := [.int 4]) (rest := []) ⟨hx, hb, hml, hown, htg⟩ (c_X6_refuse l D T (xa [(a 1)]) (xa [(a 2), (a 3)]) (xf []) (xh []) (xv [4, (vi 2), (vi 3), (vi 4), (vi 5), (vi 6), (vi 7), (vi 8), (vi 9), (vi 10), (vi 11), (vi 12)]) (xl [(vl 0)]) H.size hp2 hp3 hp4 hp5 hp6) ⟨va_cnB 1 htg (xg_ok kw_594) rfl rfl rfl (hK.2.1 _ kn_1218) (htg _ kw_2) (by decide +kernel) ⟨by rw [hR]; exact Nat.le_of_ble_eq_true rfl, by rw [hR]; exact Nat.le_of_ble_eq_true rfl⟩, htg _ kw_593, htg _ ks_10⟩ (xpreV hK hPc hDc (va_recv hK.1 hPc (ci := 6) (q0 := 0) rfl rfl)) rfl rfl hl.1 rfl (lv_room (Nat.le_of_ble_eq_true rfl)) dX5_readOne_69 ⟨by rw [hR]; exact Nat.le_of_ble_eq_true rfl, by rw [hR]; exact Nat.le_of_ble_eq_true rfl⟩) hS (fun q _ h => hFc q h) hFc (fun r9 u9 t H1 locs ht hvm hw hB hz1 hk1 hS => ?_)
          subst hw
          obtain ⟨fik_14, flk_14, vik_14, vlk_14, hP1, hD1, hG⟩ := hB
          rw [ht] at hP1
          obtain ⟨hP, hD⟩ := va_join (wr := [((a 3), .inl (T 2, 27, .inr (.inl (fl 0)))), ((a 4), .inr (7, [.int (vi 13), .int (vi 14), .ref (a 5), .ref (ex 4), .ref (ex 5), .ref (ex 6), .ref (ex 7), .ref (ex 8), .ref (ex 9), .ref (ex 10), .ref (ex 11), .ref (ex 12)])), ((a 5), .inl (T 2, 9, .inr (.inl (fl 1)))), ((a 0), .inr (5, [.ref (a 1), .ref (a 4), .ref (ex 0), .ref (ex 1), .ref (ex 2), .ref (ex 3), .int (vi 0), .int (vi 1)])), ((a 2), .inl (T 0, 940, .inl (fi 0)))]) (w1 := [((a 1), .inr (6, [.ref (a 2), .ref (a 3), .int (vi 2), .int (vi 3), .int (vi 4), .int (vi 5), .int (vi 6), .int (vi 7), .long (vl 0), .int (vi 8), .int (vi 9), .int (vi 10), .int (vik_14 0), .int (vik_14 1)]))]) hP hD [5] [0, 1, 2, 3, 4] hC9 rfl (by decide) (by decide) hk1 hFc hP1 hD1
          obtain ⟨rk_14, er9⟩ : ∃ z, z = r9 := ⟨_, rfl⟩
          subst er9
          clear hPc hDc hFc hP1 hD1 hk1 hz1 hvm ht hC9
          generalize H1 = H at hP hS ⊢
          obtain ⟨hP, hD⟩ := (show xPD D A [((a 3), .inl (T 2, 27, .inr (.inl (fl 0)))), ((a 4), .inr (7, [.int (vi 13), .int (vi 14), .ref (a 5), .ref (ex 4), .ref (ex 5), .ref (ex 6), .ref (ex 7), .ref (ex 8), .ref (ex 9), .ref (ex 10), .ref (ex 11), .ref (ex 12)])), ((a 5), .inl (T 2, 9, .inr (.inl (fl 1)))), ((a 0), .inr (5, [.ref (a 1), .ref (a 4), .ref (ex 0), .ref (ex 1), .ref (ex 2), .ref (ex 3), .int (vi 0), .int (vi 1)])), ((a 2), .inl (T 0, 940, .inl (fi 0))), ((a 1), .inr (6, [.ref (a 2), .ref (a 3), .int (vi 2), .int (vi 3), .int (vi 4), .int (vi 5), .int (vi 6), .int (vi 7), .long (vl 0), .int (vi 8), .int (vi 9), .int (vi 10), .int (vik_14 0), .int (vik_14 1)]))] H from ⟨hP, hD⟩)
          obtain ⟨gk_14_0, gk_14_1, gk_14_2, -⟩ := hG
          replace gk_14_1 : 0 ≤ (vik_14 1).toInt ∧ (vik_14 1).toInt ≤ 940 := gk_14_1
          replace gk_14_2 : (vik_14 0).toInt = (4 : Int32).toInt ∧ (vik_14 1).toInt = (vi 7).toInt := gk_14_2
          replace gk_14_0 : rk_14 = 0 := gk_14_0
          refine xz_i 0 gk_14_0 ?_
          have hP9 := hP.sub (ws' := [((a 0), .inr (5, [.ref (a 1), .ref (a 4), .ref (ex 0), .ref (ex 1), .ref (ex 2), .ref (ex 3), .int (vi 0), .int (vi 1)])), ((a 1), .inr (6, [.ref (a 2), .ref (a 3), .int (vi 2), .int (vi 3), .int (vi 4), .int (vi 5), .int (vi 6), .int (vi 7), .long (vl 0), .int (vi 8), .int (vi 9), .int (vi 10), .int (vik_14 0), .int (vik_14 1)])), ((a 2), .inl (T 0, 940, .inl (fi 0))), ((a 3), .inl (T 2, 27, .inr (.inl (fl 0)))), ((a 4), .inr (7, [.int (vi 13), .int (vi 14), .ref (a 5), .ref (ex 4), .ref (ex 5), .ref (ex 6), .ref (ex 7), .ref (ex 8), .ref (ex 9), .ref (ex 10), .ref (ex 11), .ref (ex 12)])), ((a 5), .inl (T 2, 9, .inr (.inl (fl 1))))]) [3, 5, 4, 0, 1, 2] rfl
          have hD9 := hD.sub (ws' := [((a 0), .inr (5, [.ref (a 1), .ref (a 4), .ref (ex 0), .ref (ex 1), .ref (ex 2), .ref (ex 3), .int (vi 0), .int (vi 1)])), ((a 1), .inr (6, [.ref (a 2), .ref (a 3), .int (vi 2), .int (vi 3), .int (vi 4), .int (vi 5), .int (vi 6), .int (vi 7), .long (vl 0), .int (vi 8), .int (vi 9), .int (vi 10), .int (vik_14 0), .int (vik_14 1)])), ((a 2), .inl (T 0, 940, .inl (fi 0))), ((a 3), .inl (T 2, 27, .inr (.inl (fl 0)))), ((a 4), .inr (7, [.int (vi 13), .int (vi 14), .ref (a 5), .ref (ex 4), .ref (ex 5), .ref (ex 6), .ref (ex 7), .ref (ex 8), .ref (ex 9), .ref (ex 10), .ref (ex 11), .ref (ex 12)])), ((a 5), .inl (T 2, 9, .inr (.inl (fl 1))))]) [3, 5, 4, 0, 1, 2] (by decide +kernel) rfl
          rw [hQ]
          exact W.zret (v := 0) hx hb hr rfl (fun t ht hW => ⟨⟨0, 0, rfl, rfl, xf [], xh [], xv [(vik_14 0), (vik_14 1)], xl [], by rw [ht]; exact hP9, hD9, ⟨(Or.inr ⟨rfl, by show True; first | trivial | omega | assumption⟩), gk_14_1, (by show (0 : Int32).toInt = 1 → (vi 1).toInt + 1 ≤ (vi 1).toInt ∧ (vi 0).toInt ≤ (vi 0).toInt + 2 * ((vi 1).toInt - (vi 1).toInt) - 1; have k9_0 : (0 : Int32).toInt = 0 := (by decide); have k8 : (0 : Int32).toInt = 0 := (by decide); have k7 : (1 : Int32).toInt = 1 := (by decide); intro h9; exfalso; omega), (by show (0 : Int32).toInt = 1 → (vik_14 0).toInt = (vi 11).toInt; have k9_0 : (0 : Int32).toInt = 0 := (by decide); exact fun h9 => absurd h9 (by decide)), (by unfold R_X5_readOne_9; exact (fun Q9 k9_0 k9_1 k9_2 k9_3 k9_4 k9_5 k9_6 k9_7 k9_8 k9_9 k9_10 k9_11 k9_12 k9_13 k9_14 => k9_10 hp0 hp1 hp2 hp3 hp4 hp5 hp6 hp7 hp8 hp9 fik flk vik vlk rk gk_0 fik_1 flk_1 vik_1 vlk_1 rk_1 gk_1_1 tb gk_1_0 fik_11 flk_11 vik_11 vlk_11 rk_11 tb_2 gk_11_0 c28_2 c55_5 fik_14 flk_14 vik_14 vlk_14 rk_14 gk_14_0 gk_14_1 gk_14_2 rfl rfl rfl)), trivial⟩⟩, hS.F ht⟩) hS.2.2 dX5_readOne_72
        · have c55_5 := xnge (k := 20) (by decide) c55_5
          refine lv_iload_n hx hb dX5_readOne_58 rfl (lv_at hl 4 rfl) ?_
          refine lv_bipush (v := 8) hx hb dX5_readOne_59 (by decide) ?_
          refine lv_icmp_le (tgt := 73) hx hb dX5_readOne_61 (by decide) (fun c => absurd c (by decide)) (fun _ => ?_)
          refine lv_aload_n hx hb dX5_readOne_64 rfl (lv_at hl 3 rfl) ?_
          refine va_get (D := D) (ci := 5) (v := .ref (a 1)) (C := RX5) (T := TX5) (N := 8) hx hb htg inX5 hown hK.1 hP 3 rfl rfl 0 (by decide) (htg _ kw_384) (fun _ h9 => h9) rfl dX5_readOne_65 ?_
          refine lv_iconst (v := 4) hx hb dX5_readOne_68 (by decide) ?_
          obtain ⟨hC9, hPc, hDc, hFc⟩ := xcut (wc := (pre_X6_refuse T (xa [(a 1)]) (xa [(a 2), (a 3)]) (xf []) (xh []) (xv [4, (vi 2), (vi 3), (vi 4), (vi 5), (vi 6), (vi 7), (vi 8), (vi 9), (vi 10), (vi 11), (vi 12)]) (xl [(vl 0)]))) hP hD hS hA [5] (by decide) rfl
          refine va_calli (va_runVN (As := [.int 4]) (rest := []) ⟨hx, hb, hml, hown, htg⟩ (c_X6_refuse l D T (xa [(a 1)]) (xa [(a 2), (a 3)]) (xf []) (xh []) (xv [4, (vi 2), (vi 3), (vi 4), (vi 5), (vi 6), (vi 7), (vi 8), (vi 9), (vi 10), (vi 11), (vi 12)]) (xl [(vl 0)]) H.size hp2 hp3 hp4 hp5 hp6) ⟨va_cnB 1 htg (xg_ok kw_594) rfl rfl rfl (hK.2.1 _ kn_1218) (htg _ kw_2) (by decide +kernel) ⟨by rw [hR]; exact Nat.le_of_ble_eq_true rfl, by rw [hR]; exact Nat.le_of_ble_eq_true rfl⟩, htg _ kw_593, htg _ ks_10⟩ (xpreV hK hPc hDc (va_recv hK.1 hPc (ci := 6) (q0 := 0) rfl rfl)) rfl rfl hl.1 rfl (lv_room (Nat.le_of_ble_eq_true rfl)) dX5_readOne_69 ⟨by rw [hR]; exact Nat.le_of_ble_eq_true rfl, by rw [hR]; exact Nat.le_of_ble_eq_true rfl⟩) hS (fun q _ h => hFc q h) hFc (fun r9 u9 t H1 locs ht hvm hw hB hz1 hk1 hS => ?_)
          subst hw
          obtain ⟨fik_15, flk_15, vik_15, vlk_15, hP1, hD1, hG⟩ := hB
          rw [ht] at hP1
          obtain ⟨hP, hD⟩ := va_join (wr := [((a 3), .inl (T 2, 27, .inr (.inl (fl 0)))), ((a 4), .inr (7, [.int (vi 13), .int (vi 14), .ref (a 5), .ref (ex 4), .ref (ex 5), .ref (ex 6), .ref (ex 7), .ref (ex 8), .ref (ex 9), .ref (ex 10), .ref (ex 11), .ref (ex 12)])), ((a 5), .inl (T 2, 9, .inr (.inl (fl 1)))), ((a 0), .inr (5, [.ref (a 1), .ref (a 4), .ref (ex 0), .ref (ex 1), .ref (ex 2), .ref (ex 3), .int (vi 0), .int (vi 1)])), ((a 2), .inl (T 0, 940, .inl (fi 0)))]) (w1 := [((a 1), .inr (6, [.ref (a 2), .ref (a 3), .int (vi 2), .int (vi 3), .int (vi 4), .int (vi 5), .int (vi 6), .int (vi 7), .long (vl 0), .int (vi 8), .int (vi 9), .int (vi 10), .int (vik_15 0), .int (vik_15 1)]))]) hP hD [5] [0, 1, 2, 3, 4] hC9 rfl (by decide) (by decide) hk1 hFc hP1 hD1
          obtain ⟨rk_15, er9⟩ : ∃ z, z = r9 := ⟨_, rfl⟩
          subst er9
          clear hPc hDc hFc hP1 hD1 hk1 hz1 hvm ht hC9
          generalize H1 = H at hP hS ⊢
          obtain ⟨hP, hD⟩ := (show xPD D A [((a 3), .inl (T 2, 27, .inr (.inl (fl 0)))), ((a 4), .inr (7, [.int (vi 13), .int (vi 14), .ref (a 5), .ref (ex 4), .ref (ex 5), .ref (ex 6), .ref (ex 7), .ref (ex 8), .ref (ex 9), .ref (ex 10), .ref (ex 11), .ref (ex 12)])), ((a 5), .inl (T 2, 9, .inr (.inl (fl 1)))), ((a 0), .inr (5, [.ref (a 1), .ref (a 4), .ref (ex 0), .ref (ex 1), .ref (ex 2), .ref (ex 3), .int (vi 0), .int (vi 1)])), ((a 2), .inl (T 0, 940, .inl (fi 0))), ((a 1), .inr (6, [.ref (a 2), .ref (a 3), .int (vi 2), .int (vi 3), .int (vi 4), .int (vi 5), .int (vi 6), .int (vi 7), .long (vl 0), .int (vi 8), .int (vi 9), .int (vi 10), .int (vik_15 0), .int (vik_15 1)]))] H from ⟨hP, hD⟩)
          obtain ⟨gk_15_0, gk_15_1, gk_15_2, -⟩ := hG
          replace gk_15_1 : 0 ≤ (vik_15 1).toInt ∧ (vik_15 1).toInt ≤ 940 := gk_15_1
          replace gk_15_2 : (vik_15 0).toInt = (4 : Int32).toInt ∧ (vik_15 1).toInt = (vi 7).toInt := gk_15_2
          replace gk_15_0 : rk_15 = 0 := gk_15_0
          refine xz_i 0 gk_15_0 ?_
          have hP9 := hP.sub (ws' := [((a 0), .inr (5, [.ref (a 1), .ref (a 4), .ref (ex 0), .ref (ex 1), .ref (ex 2), .ref (ex 3), .int (vi 0), .int (vi 1)])), ((a 1), .inr (6, [.ref (a 2), .ref (a 3), .int (vi 2), .int (vi 3), .int (vi 4), .int (vi 5), .int (vi 6), .int (vi 7), .long (vl 0), .int (vi 8), .int (vi 9), .int (vi 10), .int (vik_15 0), .int (vik_15 1)])), ((a 2), .inl (T 0, 940, .inl (fi 0))), ((a 3), .inl (T 2, 27, .inr (.inl (fl 0)))), ((a 4), .inr (7, [.int (vi 13), .int (vi 14), .ref (a 5), .ref (ex 4), .ref (ex 5), .ref (ex 6), .ref (ex 7), .ref (ex 8), .ref (ex 9), .ref (ex 10), .ref (ex 11), .ref (ex 12)])), ((a 5), .inl (T 2, 9, .inr (.inl (fl 1))))]) [3, 5, 4, 0, 1, 2] rfl
          have hD9 := hD.sub (ws' := [((a 0), .inr (5, [.ref (a 1), .ref (a 4), .ref (ex 0), .ref (ex 1), .ref (ex 2), .ref (ex 3), .int (vi 0), .int (vi 1)])), ((a 1), .inr (6, [.ref (a 2), .ref (a 3), .int (vi 2), .int (vi 3), .int (vi 4), .int (vi 5), .int (vi 6), .int (vi 7), .long (vl 0), .int (vi 8), .int (vi 9), .int (vi 10), .int (vik_15 0), .int (vik_15 1)])), ((a 2), .inl (T 0, 940, .inl (fi 0))), ((a 3), .inl (T 2, 27, .inr (.inl (fl 0)))), ((a 4), .inr (7, [.int (vi 13), .int (vi 14), .ref (a 5), .ref (ex 4), .ref (ex 5), .ref (ex 6), .ref (ex 7), .ref (ex 8), .ref (ex 9), .ref (ex 10), .ref (ex 11), .ref (ex 12)])), ((a 5), .inl (T 2, 9, .inr (.inl (fl 1))))]) [3, 5, 4, 0, 1, 2] (by decide +kernel) rfl
          rw [hQ]
          exact W.zret (v := 0) hx hb hr rfl (fun t ht hW => ⟨⟨0, 0, rfl, rfl, xf [], xh [], xv [(vik_15 0), (vik_15 1)], xl [], by rw [ht]; exact hP9, hD9, ⟨(Or.inr ⟨rfl, by show True; first | trivial | omega | assumption⟩), gk_15_1, (by show (0 : Int32).toInt = 1 → (vi 1).toInt + 1 ≤ (vi 1).toInt ∧ (vi 0).toInt ≤ (vi 0).toInt + 2 * ((vi 1).toInt - (vi 1).toInt) - 1; have k9_0 : (0 : Int32).toInt = 0 := (by decide); have k8 : (0 : Int32).toInt = 0 := (by decide); have k7 : (1 : Int32).toInt = 1 := (by decide); intro h9; exfalso; omega), (by show (0 : Int32).toInt = 1 → (vik_15 0).toInt = (vi 11).toInt; have k9_0 : (0 : Int32).toInt = 0 := (by decide); exact fun h9 => absurd h9 (by decide)), (by unfold R_X5_readOne_9; exact (fun Q9 k9_0 k9_1 k9_2 k9_3 k9_4 k9_5 k9_6 k9_7 k9_8 k9_9 k9_10 k9_11 k9_12 k9_13 k9_14 => k9_11 hp0 hp1 hp2 hp3 hp4 hp5 hp6 hp7 hp8 hp9 fik flk vik vlk rk gk_0 fik_1 flk_1 vik_1 vlk_1 rk_1 gk_1_1 tb gk_1_0 fik_11 flk_11 vik_11 vlk_11 rk_11 tb_2 gk_11_0 c28_2 c55_5 fik_15 flk_15 vik_15 vlk_15 rk_15 gk_15_0 gk_15_1 gk_15_2 rfl rfl rfl)), trivial⟩⟩, hS.F ht⟩) hS.2.2 dX5_readOne_72
    · refine xz_i 0 er9 ?_
      have tb_2 : rk_11.toInt = 0 := by rw [er9]; decide
      refine lv_istore (lv' := [(4, .int 0), (3, .int 0), (2, .int rk), (0, .ref (a 0)), (1, .int 9)]) hx hb dX5_readOne_24 hl (by decide) rfl (fun ls hl => ?_)
      refine lv_iload_n hx hb dX5_readOne_26 rfl (lv_at hl 2 rfl) ?_
      refine lv_iconst (v := (-1)) hx hb dX5_readOne_27 (by decide) ?_
      refine lv_icmp_ne (tgt := 49) hx hb dX5_readOne_28 (by decide) (fun c28_3 => ?_) (fun c28_3 => ?_)
      · have c28_3 := xne (k := (-1)) (by decide) c28_3
        refine lv_aload_n hx hb dX5_readOne_49 rfl (lv_at hl 3 rfl) ?_
        refine va_get (D := D) (ci := 5) (v := .int (vi 1)) (C := RX5) (T := TX5) (N := 8) hx hb htg inX5 hown hK.1 hP 3 rfl rfl 7 (by decide) (htg _ kw_391) (fun _ h9 => h9) rfl dX5_readOne_50 ?_
        refine lv_bipush (v := 20) hx hb dX5_readOne_53 (by decide) ?_
        refine lv_icmp_ge (tgt := 64) hx hb dX5_readOne_55 (by decide) (fun c55_6 => ?_) (fun c55_6 => ?_)
        · have c55_6 := xge (k := 20) (by decide) c55_6
          refine lv_aload_n hx hb dX5_readOne_64 rfl (lv_at hl 3 rfl) ?_
          refine va_get (D := D) (ci := 5) (v := .ref (a 1)) (C := RX5) (T := TX5) (N := 8) hx hb htg inX5 hown hK.1 hP 3 rfl rfl 0 (by decide) (htg _ kw_384) (fun _ h9 => h9) rfl dX5_readOne_65 ?_
          refine lv_iconst (v := 4) hx hb dX5_readOne_68 (by decide) ?_
          obtain ⟨hC9, hPc, hDc, hFc⟩ := xcut (wc := (pre_X6_refuse T (xa [(a 1)]) (xa [(a 2), (a 3)]) (xf []) (xh []) (xv [4, (vi 2), (vi 3), (vi 4), (vi 5), (vi 6), (vi 7), (vi 8), (vi 9), (vi 10), (vi 11), (vi 12)]) (xl [(vl 0)]))) hP hD hS hA [5] (by decide) rfl
          refine va_calli (va_runVN (As := [.int 4]) (rest := []) ⟨hx, hb, hml, hown, htg⟩ (c_X6_refuse l D T (xa [(a 1)]) (xa [(a 2), (a 3)]) (xf []) (xh []) (xv [4, (vi 2), (vi 3), (vi 4), (vi 5), (vi 6), (vi 7), (vi 8), (vi 9), (vi 10), (vi 11), (vi 12)]) (xl [(vl 0)]) H.size hp2 hp3 hp4 hp5 hp6) ⟨va_cnB 1 htg (xg_ok kw_594) rfl rfl rfl (hK.2.1 _ kn_1218) (htg _ kw_2) (by decide +kernel) ⟨by rw [hR]; exact Nat.le_of_ble_eq_true rfl, by rw [hR]; exact Nat.le_of_ble_eq_true rfl⟩, htg _ kw_593, htg _ ks_10⟩ (xpreV hK hPc hDc (va_recv hK.1 hPc (ci := 6) (q0 := 0) rfl rfl)) rfl rfl hl.1 rfl (lv_room (Nat.le_of_ble_eq_true rfl)) dX5_readOne_69 ⟨by rw [hR]; exact Nat.le_of_ble_eq_true rfl, by rw [hR]; exact Nat.le_of_ble_eq_true rfl⟩) hS (fun q _ h => hFc q h) hFc (fun r9 u9 t H1 locs ht hvm hw hB hz1 hk1 hS => ?_)
          subst hw
          obtain ⟨fik_16, flk_16, vik_16, vlk_16, hP1, hD1, hG⟩ := hB
          rw [ht] at hP1
          obtain ⟨hP, hD⟩ := va_join (wr := [((a 3), .inl (T 2, 27, .inr (.inl (fl 0)))), ((a 4), .inr (7, [.int (vi 13), .int (vi 14), .ref (a 5), .ref (ex 4), .ref (ex 5), .ref (ex 6), .ref (ex 7), .ref (ex 8), .ref (ex 9), .ref (ex 10), .ref (ex 11), .ref (ex 12)])), ((a 5), .inl (T 2, 9, .inr (.inl (fl 1)))), ((a 0), .inr (5, [.ref (a 1), .ref (a 4), .ref (ex 0), .ref (ex 1), .ref (ex 2), .ref (ex 3), .int (vi 0), .int (vi 1)])), ((a 2), .inl (T 0, 940, .inl (fi 0)))]) (w1 := [((a 1), .inr (6, [.ref (a 2), .ref (a 3), .int (vi 2), .int (vi 3), .int (vi 4), .int (vi 5), .int (vi 6), .int (vi 7), .long (vl 0), .int (vi 8), .int (vi 9), .int (vi 10), .int (vik_16 0), .int (vik_16 1)]))]) hP hD [5] [0, 1, 2, 3, 4] hC9 rfl (by decide) (by decide) hk1 hFc hP1 hD1
          obtain ⟨rk_16, er9⟩ : ∃ z, z = r9 := ⟨_, rfl⟩
          subst er9
          clear hPc hDc hFc hP1 hD1 hk1 hz1 hvm ht hC9
          generalize H1 = H at hP hS ⊢
          obtain ⟨hP, hD⟩ := (show xPD D A [((a 3), .inl (T 2, 27, .inr (.inl (fl 0)))), ((a 4), .inr (7, [.int (vi 13), .int (vi 14), .ref (a 5), .ref (ex 4), .ref (ex 5), .ref (ex 6), .ref (ex 7), .ref (ex 8), .ref (ex 9), .ref (ex 10), .ref (ex 11), .ref (ex 12)])), ((a 5), .inl (T 2, 9, .inr (.inl (fl 1)))), ((a 0), .inr (5, [.ref (a 1), .ref (a 4), .ref (ex 0), .ref (ex 1), .ref (ex 2), .ref (ex 3), .int (vi 0), .int (vi 1)])), ((a 2), .inl (T 0, 940, .inl (fi 0))), ((a 1), .inr (6, [.ref (a 2), .ref (a 3), .int (vi 2), .int (vi 3), .int (vi 4), .int (vi 5), .int (vi 6), .int (vi 7), .long (vl 0), .int (vi 8), .int (vi 9), .int (vi 10), .int (vik_16 0), .int (vik_16 1)]))] H from ⟨hP, hD⟩)
          obtain ⟨gk_16_0, gk_16_1, gk_16_2, -⟩ := hG
          replace gk_16_1 : 0 ≤ (vik_16 1).toInt ∧ (vik_16 1).toInt ≤ 940 := gk_16_1
          replace gk_16_2 : (vik_16 0).toInt = (4 : Int32).toInt ∧ (vik_16 1).toInt = (vi 7).toInt := gk_16_2
          replace gk_16_0 : rk_16 = 0 := gk_16_0
          refine xz_i 0 gk_16_0 ?_
          have hP9 := hP.sub (ws' := [((a 0), .inr (5, [.ref (a 1), .ref (a 4), .ref (ex 0), .ref (ex 1), .ref (ex 2), .ref (ex 3), .int (vi 0), .int (vi 1)])), ((a 1), .inr (6, [.ref (a 2), .ref (a 3), .int (vi 2), .int (vi 3), .int (vi 4), .int (vi 5), .int (vi 6), .int (vi 7), .long (vl 0), .int (vi 8), .int (vi 9), .int (vi 10), .int (vik_16 0), .int (vik_16 1)])), ((a 2), .inl (T 0, 940, .inl (fi 0))), ((a 3), .inl (T 2, 27, .inr (.inl (fl 0)))), ((a 4), .inr (7, [.int (vi 13), .int (vi 14), .ref (a 5), .ref (ex 4), .ref (ex 5), .ref (ex 6), .ref (ex 7), .ref (ex 8), .ref (ex 9), .ref (ex 10), .ref (ex 11), .ref (ex 12)])), ((a 5), .inl (T 2, 9, .inr (.inl (fl 1))))]) [3, 5, 4, 0, 1, 2] rfl
          have hD9 := hD.sub (ws' := [((a 0), .inr (5, [.ref (a 1), .ref (a 4), .ref (ex 0), .ref (ex 1), .ref (ex 2), .ref (ex 3), .int (vi 0), .int (vi 1)])), ((a 1), .inr (6, [.ref (a 2), .ref (a 3), .int (vi 2), .int (vi 3), .int (vi 4), .int (vi 5), .int (vi 6), .int (vi 7), .long (vl 0), .int (vi 8), .int (vi 9), .int (vi 10), .int (vik_16 0), .int (vik_16 1)])), ((a 2), .inl (T 0, 940, .inl (fi 0))), ((a 3), .inl (T 2, 27, .inr (.inl (fl 0)))), ((a 4), .inr (7, [.int (vi 13), .int (vi 14), .ref (a 5), .ref (ex 4), .ref (ex 5), .ref (ex 6), .ref (ex 7), .ref (ex 8), .ref (ex 9), .ref (ex 10), .ref (ex 11), .ref (ex 12)])), ((a 5), .inl (T 2, 9, .inr (.inl (fl 1))))]) [3, 5, 4, 0, 1, 2] (by decide +kernel) rfl
          rw [hQ]
          exact W.zret (v := 0) hx hb hr rfl (fun t ht hW => ⟨⟨0, 0, rfl, rfl, xf [], xh [], xv [(vik_16 0), (vik_16 1)], xl [], by rw [ht]; exact hP9, hD9, ⟨(Or.inr ⟨rfl, by show True; first | trivial | omega | assumption⟩), gk_16_1, (by show (0 : Int32).toInt = 1 → (vi 1).toInt + 1 ≤ (vi 1).toInt ∧ (vi 0).toInt ≤ (vi 0).toInt + 2 * ((vi 1).toInt - (vi 1).toInt) - 1; have k9_0 : (0 : Int32).toInt = 0 := (by decide); have k8 : (0 : Int32).toInt = 0 := (by decide); have k7 : (1 : Int32).toInt = 1 := (by decide); intro h9; exfalso; omega), (by show (0 : Int32).toInt = 1 → (vik_16 0).toInt = (vi 11).toInt; have k9_0 : (0 : Int32).toInt = 0 := (by decide); exact fun h9 => absurd h9 (by decide)), (by unfold R_X5_readOne_9; exact (fun Q9 k9_0 k9_1 k9_2 k9_3 k9_4 k9_5 k9_6 k9_7 k9_8 k9_9 k9_10 k9_11 k9_12 k9_13 k9_14 => k9_12 hp0 hp1 hp2 hp3 hp4 hp5 hp6 hp7 hp8 hp9 fik flk vik vlk rk gk_0 fik_1 flk_1 vik_1 vlk_1 rk_1 gk_1_1 tb gk_1_0 fik_11 flk_11 vik_11 vlk_11 rk_11 tb_2 gk_11_0 c28_3 c55_6 fik_16 flk_16 vik_16 vlk_16 rk_16 gk_16_0 gk_16_1 gk_16_2 rfl rfl rfl)), trivial⟩⟩, hS.F ht⟩) hS.2.2 dX5_readOne_72
        · have c55_6 := xnge (k := 20) (by decide) c55_6
          refine lv_iload_n hx hb dX5_readOne_58 rfl (lv_at hl 4 rfl) ?_
          refine lv_bipush (v := 8) hx hb dX5_readOne_59 (by decide) ?_
          refine lv_icmp_le (tgt := 73) hx hb dX5_readOne_61 (by decide) (fun c => absurd c (by decide)) (fun _ => ?_)
          refine lv_aload_n hx hb dX5_readOne_64 rfl (lv_at hl 3 rfl) ?_
          refine va_get (D := D) (ci := 5) (v := .ref (a 1)) (C := RX5) (T := TX5) (N := 8) hx hb htg inX5 hown hK.1 hP 3 rfl rfl 0 (by decide) (htg _ kw_384) (fun _ h9 => h9) rfl dX5_readOne_65 ?_
          refine lv_iconst (v := 4) hx hb dX5_readOne_68 (by decide) ?_
          obtain ⟨hC9, hPc, hDc, hFc⟩ := xcut (wc := (pre_X6_refuse T (xa [(a 1)]) (xa [(a 2), (a 3)]) (xf []) (xh []) (xv [4, (vi 2), (vi 3), (vi 4), (vi 5), (vi 6), (vi 7), (vi 8), (vi 9), (vi 10), (vi 11), (vi 12)]) (xl [(vl 0)]))) hP hD hS hA [5] (by decide) rfl
          refine va_calli (va_runVN (As := [.int 4]) (rest := []) ⟨hx, hb, hml, hown, htg⟩ (c_X6_refuse l D T (xa [(a 1)]) (xa [(a 2), (a 3)]) (xf []) (xh []) (xv [4, (vi 2), (vi 3), (vi 4), (vi 5), (vi 6), (vi 7), (vi 8), (vi 9), (vi 10), (vi 11), (vi 12)]) (xl [(vl 0)]) H.size hp2 hp3 hp4 hp5 hp6) ⟨va_cnB 1 htg (xg_ok kw_594) rfl rfl rfl (hK.2.1 _ kn_1218) (htg _ kw_2) (by decide +kernel) ⟨by rw [hR]; exact Nat.le_of_ble_eq_true rfl, by rw [hR]; exact Nat.le_of_ble_eq_true rfl⟩, htg _ kw_593, htg _ ks_10⟩ (xpreV hK hPc hDc (va_recv hK.1 hPc (ci := 6) (q0 := 0) rfl rfl)) rfl rfl hl.1 rfl (lv_room (Nat.le_of_ble_eq_true rfl)) dX5_readOne_69 ⟨by rw [hR]; exact Nat.le_of_ble_eq_true rfl, by rw [hR]; exact Nat.le_of_ble_eq_true rfl⟩) hS (fun q _ h => hFc q h) hFc (fun r9 u9 t H1 locs ht hvm hw hB hz1 hk1 hS => ?_)
          subst hw
          obtain ⟨fik_17, flk_17, vik_17, vlk_17, hP1, hD1, hG⟩ := hB
          rw [ht] at hP1
          obtain ⟨hP, hD⟩ := va_join (wr := [((a 3), .inl (T 2, 27, .inr (.inl (fl 0)))), ((a 4), .inr (7, [.int (vi 13), .int (vi 14), .ref (a 5), .ref (ex 4), .ref (ex 5), .ref (ex 6), .ref (ex 7), .ref (ex 8), .ref (ex 9), .ref (ex 10), .ref (ex 11), .ref (ex 12)])), ((a 5), .inl (T 2, 9, .inr (.inl (fl 1)))), ((a 0), .inr (5, [.ref (a 1), .ref (a 4), .ref (ex 0), .ref (ex 1), .ref (ex 2), .ref (ex 3), .int (vi 0), .int (vi 1)])), ((a 2), .inl (T 0, 940, .inl (fi 0)))]) (w1 := [((a 1), .inr (6, [.ref (a 2), .ref (a 3), .int (vi 2), .int (vi 3), .int (vi 4), .int (vi 5), .int (vi 6), .int (vi 7), .long (vl 0), .int (vi 8), .int (vi 9), .int (vi 10), .int (vik_17 0), .int (vik_17 1)]))]) hP hD [5] [0, 1, 2, 3, 4] hC9 rfl (by decide) (by decide) hk1 hFc hP1 hD1
          obtain ⟨rk_17, er9⟩ : ∃ z, z = r9 := ⟨_, rfl⟩
          subst er9
          clear hPc hDc hFc hP1 hD1 hk1 hz1 hvm ht hC9
          generalize H1 = H at hP hS ⊢
          obtain ⟨hP, hD⟩ := (show xPD D A [((a 3), .inl (T 2, 27, .inr (.inl (fl 0)))), ((a 4), .inr (7, [.int (vi 13), .int (vi 14), .ref (a 5), .ref (ex 4), .ref (ex 5), .ref (ex 6), .ref (ex 7), .ref (ex 8), .ref (ex 9), .ref (ex 10), .ref (ex 11), .ref (ex 12)])), ((a 5), .inl (T 2, 9, .inr (.inl (fl 1)))), ((a 0), .inr (5, [.ref (a 1), .ref (a 4), .ref (ex 0), .ref (ex 1), .ref (ex 2), .ref (ex 3), .int (vi 0), .int (vi 1)])), ((a 2), .inl (T 0, 940, .inl (fi 0))), ((a 1), .inr (6, [.ref (a 2), .ref (a 3), .int (vi 2), .int (vi 3), .int (vi 4), .int (vi 5), .int (vi 6), .int (vi 7), .long (vl 0), .int (vi 8), .int (vi 9), .int (vi 10), .int (vik_17 0), .int (vik_17 1)]))] H from ⟨hP, hD⟩)
          obtain ⟨gk_17_0, gk_17_1, gk_17_2, -⟩ := hG
          replace gk_17_1 : 0 ≤ (vik_17 1).toInt ∧ (vik_17 1).toInt ≤ 940 := gk_17_1
          replace gk_17_2 : (vik_17 0).toInt = (4 : Int32).toInt ∧ (vik_17 1).toInt = (vi 7).toInt := gk_17_2
          replace gk_17_0 : rk_17 = 0 := gk_17_0
          refine xz_i 0 gk_17_0 ?_
          have hP9 := hP.sub (ws' := [((a 0), .inr (5, [.ref (a 1), .ref (a 4), .ref (ex 0), .ref (ex 1), .ref (ex 2), .ref (ex 3), .int (vi 0), .int (vi 1)])), ((a 1), .inr (6, [.ref (a 2), .ref (a 3), .int (vi 2), .int (vi 3), .int (vi 4), .int (vi 5), .int (vi 6), .int (vi 7), .long (vl 0), .int (vi 8), .int (vi 9), .int (vi 10), .int (vik_17 0), .int (vik_17 1)])), ((a 2), .inl (T 0, 940, .inl (fi 0))), ((a 3), .inl (T 2, 27, .inr (.inl (fl 0)))), ((a 4), .inr (7, [.int (vi 13), .int (vi 14), .ref (a 5), .ref (ex 4), .ref (ex 5), .ref (ex 6), .ref (ex 7), .ref (ex 8), .ref (ex 9), .ref (ex 10), .ref (ex 11), .ref (ex 12)])), ((a 5), .inl (T 2, 9, .inr (.inl (fl 1))))]) [3, 5, 4, 0, 1, 2] rfl
          have hD9 := hD.sub (ws' := [((a 0), .inr (5, [.ref (a 1), .ref (a 4), .ref (ex 0), .ref (ex 1), .ref (ex 2), .ref (ex 3), .int (vi 0), .int (vi 1)])), ((a 1), .inr (6, [.ref (a 2), .ref (a 3), .int (vi 2), .int (vi 3), .int (vi 4), .int (vi 5), .int (vi 6), .int (vi 7), .long (vl 0), .int (vi 8), .int (vi 9), .int (vi 10), .int (vik_17 0), .int (vik_17 1)])), ((a 2), .inl (T 0, 940, .inl (fi 0))), ((a 3), .inl (T 2, 27, .inr (.inl (fl 0)))), ((a 4), .inr (7, [.int (vi 13), .int (vi 14), .ref (a 5), .ref (ex 4), .ref (ex 5), .ref (ex 6), .ref (ex 7), .ref (ex 8), .ref (ex 9), .ref (ex 10), .ref (ex 11), .ref (ex 12)])), ((a 5), .inl (T 2, 9, .inr (.inl (fl 1))))]) [3, 5, 4, 0, 1, 2] (by decide +kernel) rfl
          rw [hQ]
          exact W.zret (v := 0) hx hb hr rfl (fun t ht hW => ⟨⟨0, 0, rfl, rfl, xf [], xh [], xv [(vik_17 0), (vik_17 1)], xl [], by rw [ht]; exact hP9, hD9, ⟨(Or.inr ⟨rfl, by show True; first | trivial | omega | assumption⟩), gk_17_1, (by show (0 : Int32).toInt = 1 → (vi 1).toInt + 1 ≤ (vi 1).toInt ∧ (vi 0).toInt ≤ (vi 0).toInt + 2 * ((vi 1).toInt - (vi 1).toInt) - 1; have k9_0 : (0 : Int32).toInt = 0 := (by decide); have k8 : (0 : Int32).toInt = 0 := (by decide); have k7 : (1 : Int32).toInt = 1 := (by decide); intro h9; exfalso; omega), (by show (0 : Int32).toInt = 1 → (vik_17 0).toInt = (vi 11).toInt; have k9_0 : (0 : Int32).toInt = 0 := (by decide); exact fun h9 => absurd h9 (by decide)), (by unfold R_X5_readOne_9; exact (fun Q9 k9_0 k9_1 k9_2 k9_3 k9_4 k9_5 k9_6 k9_7 k9_8 k9_9 k9_10 k9_11 k9_12 k9_13 k9_14 => k9_13 hp0 hp1 hp2 hp3 hp4 hp5 hp6 hp7 hp8 hp9 fik flk vik vlk rk gk_0 fik_1 flk_1 vik_1 vlk_1 rk_1 gk_1_1 tb gk_1_0 fik_11 flk_11 vik_11 vlk_11 rk_11 tb_2 gk_11_0 c28_3 c55_6 fik_17 flk_17 vik_17 vlk_17 rk_17 gk_17_0 gk_17_1 gk_17_2 rfl rfl rfl)), trivial⟩⟩, hS.F ht⟩) hS.2.2 dX5_readOne_72
      · have c28_3 := xeq (k := (-1)) (by decide) c28_3
        refine lv_iload_n hx hb dX5_readOne_31 rfl (lv_at hl 1 rfl) ?_
        refine lv_if_ne (tgt := 49) hx hb dX5_readOne_32 (by decide) (fun c => absurd (by decide) c) (fun _ => ?_)
        refine lv_iload hx hb dX5_readOne_35 (lv_at hl 0 rfl) ?_
        refine lv_if_ne (tgt := 49) hx hb dX5_readOne_37 (by decide) (fun c => absurd (by decide) c) (fun _ => ?_)
        refine lv_aload_n hx hb dX5_readOne_40 rfl (lv_at hl 3 rfl) ?_
        refine va_get (D := D) (ci := 5) (v := .ref (a 1)) (C := RX5) (T := TX5) (N := 8) hx hb htg inX5 hown hK.1 hP 3 rfl rfl 0 (by decide) (htg _ kw_384) (fun _ h9 => h9) rfl dX5_readOne_41 ?_
        refine lv_iconst (v := 1) hx hb dX5_readOne_44 (by decide) ?_
        obtain ⟨hC9, hPc, hDc, hFc⟩ := xcut (wc := (pre_X6_refuse T (xa [(a 1)]) (xa [(a 2), (a 3)]) (xf []) (xh []) (xv [1, (vi 2), (vi 3), (vi 4), (vi 5), (vi 6), (vi 7), (vi 8), (vi 9), (vi 10), (vi 11), (vi 12)]) (xl [(vl 0)]))) hP hD hS hA [5] (by decide) rfl
        refine va_calli (va_runVN (As := [.int 1]) (rest := []) ⟨hx, hb, hml, hown, htg⟩ (c_X6_refuse l D T (xa [(a 1)]) (xa [(a 2), (a 3)]) (xf []) (xh []) (xv [1, (vi 2), (vi 3), (vi 4), (vi 5), (vi 6), (vi 7), (vi 8), (vi 9), (vi 10), (vi 11), (vi 12)]) (xl [(vl 0)]) H.size hp2 hp3 hp4 hp5 hp6) ⟨va_cnB 1 htg (xg_ok kw_594) rfl rfl rfl (hK.2.1 _ kn_1218) (htg _ kw_2) (by decide +kernel) ⟨by rw [hR]; exact Nat.le_of_ble_eq_true rfl, by rw [hR]; exact Nat.le_of_ble_eq_true rfl⟩, htg _ kw_593, htg _ ks_10⟩ (xpreV hK hPc hDc (va_recv hK.1 hPc (ci := 6) (q0 := 0) rfl rfl)) rfl rfl hl.1 rfl (lv_room (Nat.le_of_ble_eq_true rfl)) dX5_readOne_45 ⟨by rw [hR]; exact Nat.le_of_ble_eq_true rfl, by rw [hR]; exact Nat.le_of_ble_eq_true rfl⟩) hS (fun q _ h => hFc q h) hFc (fun r9 u9 t H1 locs ht hvm hw hB hz1 hk1 hS => ?_)
        subst hw
        obtain ⟨fik_18, flk_18, vik_18, vlk_18, hP1, hD1, hG⟩ := hB
        rw [ht] at hP1
        obtain ⟨hP, hD⟩ := va_join (wr := [((a 3), .inl (T 2, 27, .inr (.inl (fl 0)))), ((a 4), .inr (7, [.int (vi 13), .int (vi 14), .ref (a 5), .ref (ex 4), .ref (ex 5), .ref (ex 6), .ref (ex 7), .ref (ex 8), .ref (ex 9), .ref (ex 10), .ref (ex 11), .ref (ex 12)])), ((a 5), .inl (T 2, 9, .inr (.inl (fl 1)))), ((a 0), .inr (5, [.ref (a 1), .ref (a 4), .ref (ex 0), .ref (ex 1), .ref (ex 2), .ref (ex 3), .int (vi 0), .int (vi 1)])), ((a 2), .inl (T 0, 940, .inl (fi 0)))]) (w1 := [((a 1), .inr (6, [.ref (a 2), .ref (a 3), .int (vi 2), .int (vi 3), .int (vi 4), .int (vi 5), .int (vi 6), .int (vi 7), .long (vl 0), .int (vi 8), .int (vi 9), .int (vi 10), .int (vik_18 0), .int (vik_18 1)]))]) hP hD [5] [0, 1, 2, 3, 4] hC9 rfl (by decide) (by decide) hk1 hFc hP1 hD1
        obtain ⟨rk_18, er9⟩ : ∃ z, z = r9 := ⟨_, rfl⟩
        subst er9
        clear hPc hDc hFc hP1 hD1 hk1 hz1 hvm ht hC9
        generalize H1 = H at hP hS ⊢
        obtain ⟨hP, hD⟩ := (show xPD D A [((a 3), .inl (T 2, 27, .inr (.inl (fl 0)))), ((a 4), .inr (7, [.int (vi 13), .int (vi 14), .ref (a 5), .ref (ex 4), .ref (ex 5), .ref (ex 6), .ref (ex 7), .ref (ex 8), .ref (ex 9), .ref (ex 10), .ref (ex 11), .ref (ex 12)])), ((a 5), .inl (T 2, 9, .inr (.inl (fl 1)))), ((a 0), .inr (5, [.ref (a 1), .ref (a 4), .ref (ex 0), .ref (ex 1), .ref (ex 2), .ref (ex 3), .int (vi 0), .int (vi 1)])), ((a 2), .inl (T 0, 940, .inl (fi 0))), ((a 1), .inr (6, [.ref (a 2), .ref (a 3), .int (vi 2), .int (vi 3), .int (vi 4), .int (vi 5), .int (vi 6), .int (vi 7), .long (vl 0), .int (vi 8), .int (vi 9), .int (vi 10), .int (vik_18 0), .int (vik_18 1)]))] H from ⟨hP, hD⟩)
        obtain ⟨gk_18_0, gk_18_1, gk_18_2, -⟩ := hG
        replace gk_18_1 : 0 ≤ (vik_18 1).toInt ∧ (vik_18 1).toInt ≤ 940 := gk_18_1
        replace gk_18_2 : (vik_18 0).toInt = (1 : Int32).toInt ∧ (vik_18 1).toInt = (vi 7).toInt := gk_18_2
        replace gk_18_0 : rk_18 = 0 := gk_18_0
        refine xz_i 0 gk_18_0 ?_
        have hP9 := hP.sub (ws' := [((a 0), .inr (5, [.ref (a 1), .ref (a 4), .ref (ex 0), .ref (ex 1), .ref (ex 2), .ref (ex 3), .int (vi 0), .int (vi 1)])), ((a 1), .inr (6, [.ref (a 2), .ref (a 3), .int (vi 2), .int (vi 3), .int (vi 4), .int (vi 5), .int (vi 6), .int (vi 7), .long (vl 0), .int (vi 8), .int (vi 9), .int (vi 10), .int (vik_18 0), .int (vik_18 1)])), ((a 2), .inl (T 0, 940, .inl (fi 0))), ((a 3), .inl (T 2, 27, .inr (.inl (fl 0)))), ((a 4), .inr (7, [.int (vi 13), .int (vi 14), .ref (a 5), .ref (ex 4), .ref (ex 5), .ref (ex 6), .ref (ex 7), .ref (ex 8), .ref (ex 9), .ref (ex 10), .ref (ex 11), .ref (ex 12)])), ((a 5), .inl (T 2, 9, .inr (.inl (fl 1))))]) [3, 5, 4, 0, 1, 2] rfl
        have hD9 := hD.sub (ws' := [((a 0), .inr (5, [.ref (a 1), .ref (a 4), .ref (ex 0), .ref (ex 1), .ref (ex 2), .ref (ex 3), .int (vi 0), .int (vi 1)])), ((a 1), .inr (6, [.ref (a 2), .ref (a 3), .int (vi 2), .int (vi 3), .int (vi 4), .int (vi 5), .int (vi 6), .int (vi 7), .long (vl 0), .int (vi 8), .int (vi 9), .int (vi 10), .int (vik_18 0), .int (vik_18 1)])), ((a 2), .inl (T 0, 940, .inl (fi 0))), ((a 3), .inl (T 2, 27, .inr (.inl (fl 0)))), ((a 4), .inr (7, [.int (vi 13), .int (vi 14), .ref (a 5), .ref (ex 4), .ref (ex 5), .ref (ex 6), .ref (ex 7), .ref (ex 8), .ref (ex 9), .ref (ex 10), .ref (ex 11), .ref (ex 12)])), ((a 5), .inl (T 2, 9, .inr (.inl (fl 1))))]) [3, 5, 4, 0, 1, 2] (by decide +kernel) rfl
        rw [hQ]
        exact W.zret (v := 0) hx hb hr rfl (fun t ht hW => ⟨⟨0, 0, rfl, rfl, xf [], xh [], xv [(vik_18 0), (vik_18 1)], xl [], by rw [ht]; exact hP9, hD9, ⟨(Or.inr ⟨rfl, by show True; first | trivial | omega | assumption⟩), gk_18_1, (by show (0 : Int32).toInt = 1 → (vi 1).toInt + 1 ≤ (vi 1).toInt ∧ (vi 0).toInt ≤ (vi 0).toInt + 2 * ((vi 1).toInt - (vi 1).toInt) - 1; have k9_0 : (0 : Int32).toInt = 0 := (by decide); have k8 : (0 : Int32).toInt = 0 := (by decide); have k7 : (1 : Int32).toInt = 1 := (by decide); intro h9; exfalso; omega), (by show (0 : Int32).toInt = 1 → (vik_18 0).toInt = (vi 11).toInt; have k9_0 : (0 : Int32).toInt = 0 := (by decide); exact fun h9 => absurd h9 (by decide)), (by unfold R_X5_readOne_9; exact (fun Q9 k9_0 k9_1 k9_2 k9_3 k9_4 k9_5 k9_6 k9_7 k9_8 k9_9 k9_10 k9_11 k9_12 k9_13 k9_14 => k9_14 hp0 hp1 hp2 hp3 hp4 hp5 hp6 hp7 hp8 hp9 fik flk vik vlk rk gk_0 fik_1 flk_1 vik_1 vlk_1 rk_1 gk_1_1 tb gk_1_0 fik_11 flk_11 vik_11 vlk_11 rk_11 tb_2 gk_11_0 c28_3 fik_18 flk_18 vik_18 vlk_18 rk_18 gk_18_0 gk_18_1 gk_18_2 rfl rfl rfl)), trivial⟩⟩, hS.F ht⟩) hS.2.2 dX5_readOne_48
abbrev pre_X5_addStep (T : Nat → ClassId) (a ex : Nat → Nat) (fi : Nat → Nat → Int32) (fl : Nat → Nat → Int64) (vi : Nat → Int32) (vl : Nat → Int64) : va_W := [((a 0), .inr (5, [.ref (a 4), .ref (ex 0), .ref (a 1), .ref (a 2), .ref (a 3), .ref (ex 1), .int (vi 2), .int (vi 3)])), ((a 1), .inl (T 1, 40, .inl (fi 0))), ((a 2), .inl (T 1, 40, .inl (fi 1))), ((a 3), .inl (T 1, 40, .inl (fi 2))), ((a 4), .inr (6, [.ref (ex 2), .ref (ex 3), .int (vi 4), .int (vi 5), .int (vi 6), .int (vi 7), .int (vi 8), .int (vi 9), .long (vl 0), .int (vi 10), .int (vi 11), .int (vi 12), .int (vi 13), .int (vi 14)]))]
set_option maxHeartbeats 8000000 in
set_option maxRecDepth 100000 in
theorem c_X5_addStep (l : Launch) (D : va_G) (T : Nat → ClassId) (a ex : Nat → Nat) (fi : Nat → Nat → Int32) (fl : Nat → Nat → Int64) (vi : Nat → Int32) (vl : Nat → Int64) (sz : Nat) (hp0 : 0 ≤ (vi 2).toInt ∧ (vi 2).toInt ≤ 40) (hp1 : 0 ≤ (vi 3).toInt ∧ (vi 3).toInt ≤ 20) (hp2 : 0 ≤ (vi 5).toInt ∧ (vi 5).toInt ≤ 940) (hp3 : 0 ≤ (vi 6).toInt ∧ (vi 6).toInt ≤ 940) (hp4 : 0 ≤ (vi 7).toInt ∧ (vi 7).toInt ≤ 940) (hp5 : 0 ≤ (vi 9).toInt ∧ (vi 9).toInt ≤ 940) (hp6 : 0 ≤ (vi 14).toInt ∧ (vi 14).toInt ≤ 940) : Met l yX5_addStep (xw yX5_addStep cX5_addStep 4 (some .boolean)) ({ frames := 1, cells := 0, slots := 0, locals := 25 }) (xP D T [.ref (a 0), .int 0, .int (vi 0), .int (vi 1)] sz (pre_X5_addStep T a ex fi fl vi vl)) (va_Qi (fun r u => r = u) (xC D (va_A (pre_X5_addStep T a ex fi fl vi vl) sz) (fun fj fm vj vm => [((a 0), .inr (5, [.ref (a 4), .ref (ex 0), .ref (a 1), .ref (a 2), .ref (a 3), .ref (ex 1), .int (vj 0), .int (vi 3)])), ((a 1), .inl (T 1, 40, .inl (fj 0))), ((a 2), .inl (T 1, 40, .inl (fj 1))), ((a 3), .inl (T 1, 40, .inl (fj 2))), ((a 4), .inr (6, [.ref (ex 2), .ref (ex 3), .int (vi 4), .int (vi 5), .int (vi 6), .int (vi 7), .int (vi 8), .int (vi 9), .long (vl 0), .int (vi 10), .int (vi 11), .int (vi 12), .int (vj 1), .int (vj 2)]))]) (fun (r : Int32) (fj : Nat → Nat → Int32) (fm : Nat → Nat → Int64) (vj : Nat → Int32) (vm : Nat → Int64) => ((r = 1 ∧ ((vi 2).toInt < 40 ∧ (vj 0).toInt = (vi 2).toInt + 1)) ∨ (r = 0 ∧ (40 ≤ (vi 2).toInt))) ∧ (0 ≤ (vj 0).toInt ∧ (vj 0).toInt ≤ 40) ∧ (0 ≤ (vj 2).toInt ∧ (vj 2).toInt ≤ 940) ∧ (r.toInt = 1 → (vj 1).toInt = (vi 13).toInt) ∧ True)) (va_A (pre_X5_addStep T a ex fi fl vi vl) sz)) 0 0 (va_A (pre_X5_addStep T a ex fi fl vi vl) sz) := by
  refine xofW (cc := cX5_addStep) (maxL := 4) (ret := (some .boolean)) (by decide) rfl ?_
  intro p e s m args below meth c s₁ R Q hR hQ B hml hv
  obtain ⟨rfl, hsz, hP, hK, hD0⟩ := hv
  have hx := B.exec
  have hb := B.bytes
  have hr := B.returns
  have hts := atoms_spec (ws := xw yX5_addStep cX5_addStep 4 (some .boolean)) B.pre
  have htg : ∀ w ∈ xg, w.before _ s = true := fun w h => hts w (List.mem_cons_of_mem _ h)
  have hown : s.vm.findClass RX5 = some m.cls := findClass_of_methodNamed B.named
  have hlocks := B.notSynchronized
  subst hsz
  have hD := hD0.self (sz := s.heap.size)
  generalize hAe : va_A (pre_X5_addStep T a ex fi fl vi vl) s.heap.size = A at hD hQ
  have hA : ∀ q : Nat, s.heap.size ≤ q → A q := fun q h => by rw [← hAe]; exact Or.inr h
  have hS : va_S A s.heap s.heap [] := va_S.rf
  replace hP : va_P D vwCl [((a 0), .inr (5, [.ref (a 4), .ref (ex 0), .ref (a 1), .ref (a 2), .ref (a 3), .ref (ex 1), .int (vi 2), .int (vi 3)])), ((a 1), .inl (T 1, 40, .inl (fi 0))), ((a 2), .inl (T 1, 40, .inl (fi 1))), ((a 3), .inl (T 1, 40, .inl (fi 2))), ((a 4), .inr (6, [.ref (ex 2), .ref (ex 3), .int (vi 4), .int (vi 5), .int (vi 6), .int (vi 7), .int (vi 8), .int (vi 9), .long (vl 0), .int (vi 10), .int (vi 11), .int (vi 12), .int (vi 13), .int (vi 14)]))] s.heap := hP
  replace hD : va_D A [((a 0), .inr (5, [.ref (a 4), .ref (ex 0), .ref (a 1), .ref (a 2), .ref (a 3), .ref (ex 1), .int (vi 2), .int (vi 3)])), ((a 1), .inl (T 1, 40, .inl (fi 0))), ((a 2), .inl (T 1, 40, .inl (fi 1))), ((a 3), .inl (T 1, 40, .inl (fi 2))), ((a 4), .inr (6, [.ref (ex 2), .ref (ex 3), .int (vi 4), .int (vi 5), .int (vi 6), .int (vi 7), .int (vi 8), .int (vi 9), .long (vl 0), .int (vi 10), .int (vi 11), .int (vi 12), .int (vi 13), .int (vi 14)]))] := hD
  have hl := lv_entry ([.ref (a 0), .int 0, .int (vi 0), .int (vi 1)]) (n := 4) (Nat.le_of_ble_eq_true rfl)
  rw [lg_entry_eq]
  generalize (lg_sl ([.ref (a 0), .int 0, .int (vi 0), .int (vi 1)]) ++ List.replicate (4 - (lg_sl ([.ref (a 0), .int 0, .int (vi 0), .int (vi 1)])).length) Slot.unset).toArray = ls at hl ⊢
  replace hl : lv_has ls 4 [(0, .ref (a 0)), (1, .int 0), (2, .int (vi 0)), (3, .int (vi 1))] := hl
  refine lv_aload_n hx hb dX5_addStep_0 rfl (lv_at hl 0 rfl) ?_
  refine va_get (D := D) (ci := 5) (v := .int (vi 2)) (C := RX5) (T := TX5) (N := 8) hx hb htg inX5 hown hK.1 hP 0 rfl rfl 6 (by decide) (htg _ kw_390) (fun _ h9 => h9) rfl dX5_addStep_1 ?_
  refine lv_bipush (v := 40) hx hb dX5_addStep_4 (by decide) ?_
  refine lv_icmp_lt (tgt := 18) hx hb dX5_addStep_6 (by decide) (fun c6 => ?_) (fun c6 => ?_)
  · have c6 := xlt (k := 40) (by decide) c6
    refine lv_aload_n hx hb dX5_addStep_18 rfl (lv_at hl 0 rfl) ?_
    refine va_get (D := D) (ci := 5) (v := .ref (a 1)) (C := RX5) (T := TX5) (N := 8) hx hb htg inX5 hown hK.1 hP 0 rfl rfl 2 (by decide) (htg _ kw_386) (fun _ h9 => h9) rfl dX5_addStep_19 ?_
    refine lv_aload_n hx hb dX5_addStep_22 rfl (lv_at hl 0 rfl) ?_
    refine va_get (D := D) (ci := 5) (v := .int (vi 2)) (C := RX5) (T := TX5) (N := 8) hx hb htg inX5 hown hK.1 hP 0 rfl rfl 6 (by decide) (htg _ kw_390) (fun _ h9 => h9) rfl dX5_addStep_23 ?_
    refine lv_iload_n hx hb dX5_addStep_26 rfl (lv_at hl 1 rfl) ?_
    refine va_iast hx hb hK.1 hP hD hS 1 1 rfl rfl (vp_in_iff.mpr (by omega)) dX5_addStep_27 (fun H locs hP hD hS => ?_)
    obtain ⟨f27, ef27, hP, hD⟩ : ∃ f7 : Nat → Int32, f7 = upd (fi 0) (vi 2).toNatClampNeg (0 : Int32) ∧ va_P D vwCl [((a 0), .inr (5, [.ref (a 4), .ref (ex 0), .ref (a 1), .ref (a 2), .ref (a 3), .ref (ex 1), .int (vi 2), .int (vi 3)])), ((a 1), .inl (T 1, 40, .inl f7)), ((a 2), .inl (T 1, 40, .inl (fi 1))), ((a 3), .inl (T 1, 40, .inl (fi 2))), ((a 4), .inr (6, [.ref (ex 2), .ref (ex 3), .int (vi 4), .int (vi 5), .int (vi 6), .int (vi 7), .int (vi 8), .int (vi 9), .long (vl 0), .int (vi 10), .int (vi 11), .int (vi 12), .int (vi 13), .int (vi 14)]))] H ∧ va_D A [((a 0), .inr (5, [.ref (a 4), .ref (ex 0), .ref (a 1), .ref (a 2), .ref (a 3), .ref (ex 1), .int (vi 2), .int (vi 3)])), ((a 1), .inl (T 1, 40, .inl f7)), ((a 2), .inl (T 1, 40, .inl (fi 1))), ((a 3), .inl (T 1, 40, .inl (fi 2))), ((a 4), .inr (6, [.ref (ex 2), .ref (ex 3), .int (vi 4), .int (vi 5), .int (vi 6), .int (vi 7), .int (vi 8), .int (vi 9), .long (vl 0), .int (vi 10), .int (vi 11), .int (vi 12), .int (vi 13), .int (vi 14)]))] := ⟨_, rfl, hP, hD⟩
    refine lv_aload_n hx hb dX5_addStep_28 rfl (lv_at hl 0 rfl) ?_
    refine va_get (D := D) (ci := 5) (v := .ref (a 2)) (C := RX5) (T := TX5) (N := 8) hx hb htg inX5 hown hK.1 hP 0 rfl rfl 3 (by decide) (htg _ kw_387) (fun _ h9 => h9) rfl dX5_addStep_29 ?_
    refine lv_aload_n hx hb dX5_addStep_32 rfl (lv_at hl 0 rfl) ?_
    refine va_get (D := D) (ci := 5) (v := .int (vi 2)) (C := RX5) (T := TX5) (N := 8) hx hb htg inX5 hown hK.1 hP 0 rfl rfl 6 (by decide) (htg _ kw_390) (fun _ h9 => h9) rfl dX5_addStep_33 ?_
    refine lv_iload_n hx hb dX5_addStep_36 rfl (lv_at hl 2 rfl) ?_
    refine va_iast hx hb hK.1 hP hD hS 2 1 rfl rfl (vp_in_iff.mpr (by omega)) dX5_addStep_37 (fun H locs hP hD hS => ?_)
    obtain ⟨f37, ef37, hP, hD⟩ : ∃ f7 : Nat → Int32, f7 = upd (fi 1) (vi 2).toNatClampNeg ((vi 0) : Int32) ∧ va_P D vwCl [((a 0), .inr (5, [.ref (a 4), .ref (ex 0), .ref (a 1), .ref (a 2), .ref (a 3), .ref (ex 1), .int (vi 2), .int (vi 3)])), ((a 1), .inl (T 1, 40, .inl f27)), ((a 2), .inl (T 1, 40, .inl f7)), ((a 3), .inl (T 1, 40, .inl (fi 2))), ((a 4), .inr (6, [.ref (ex 2), .ref (ex 3), .int (vi 4), .int (vi 5), .int (vi 6), .int (vi 7), .int (vi 8), .int (vi 9), .long (vl 0), .int (vi 10), .int (vi 11), .int (vi 12), .int (vi 13), .int (vi 14)]))] H ∧ va_D A [((a 0), .inr (5, [.ref (a 4), .ref (ex 0), .ref (a 1), .ref (a 2), .ref (a 3), .ref (ex 1), .int (vi 2), .int (vi 3)])), ((a 1), .inl (T 1, 40, .inl f27)), ((a 2), .inl (T 1, 40, .inl f7)), ((a 3), .inl (T 1, 40, .inl (fi 2))), ((a 4), .inr (6, [.ref (ex 2), .ref (ex 3), .int (vi 4), .int (vi 5), .int (vi 6), .int (vi 7), .int (vi 8), .int (vi 9), .long (vl 0), .int (vi 10), .int (vi 11), .int (vi 12), .int (vi 13), .int (vi 14)]))] := ⟨_, rfl, hP, hD⟩
    refine lv_aload_n hx hb dX5_addStep_38 rfl (lv_at hl 0 rfl) ?_
    refine va_get (D := D) (ci := 5) (v := .ref (a 3)) (C := RX5) (T := TX5) (N := 8) hx hb htg inX5 hown hK.1 hP 0 rfl rfl 4 (by decide) (htg _ kw_388) (fun _ h9 => h9) rfl dX5_addStep_39 ?_
    refine lv_aload_n hx hb dX5_addStep_42 rfl (lv_at hl 0 rfl) ?_
    refine va_get (D := D) (ci := 5) (v := .int (vi 2)) (C := RX5) (T := TX5) (N := 8) hx hb htg inX5 hown hK.1 hP 0 rfl rfl 6 (by decide) (htg _ kw_390) (fun _ h9 => h9) rfl dX5_addStep_43 ?_
    refine lv_iload_n hx hb dX5_addStep_46 rfl (lv_at hl 3 rfl) ?_
    refine va_iast hx hb hK.1 hP hD hS 3 1 rfl rfl (vp_in_iff.mpr (by omega)) dX5_addStep_47 (fun H locs hP hD hS => ?_)
    obtain ⟨f47, ef47, hP, hD⟩ : ∃ f7 : Nat → Int32, f7 = upd (fi 2) (vi 2).toNatClampNeg ((vi 1) : Int32) ∧ va_P D vwCl [((a 0), .inr (5, [.ref (a 4), .ref (ex 0), .ref (a 1), .ref (a 2), .ref (a 3), .ref (ex 1), .int (vi 2), .int (vi 3)])), ((a 1), .inl (T 1, 40, .inl f27)), ((a 2), .inl (T 1, 40, .inl f37)), ((a 3), .inl (T 1, 40, .inl f7)), ((a 4), .inr (6, [.ref (ex 2), .ref (ex 3), .int (vi 4), .int (vi 5), .int (vi 6), .int (vi 7), .int (vi 8), .int (vi 9), .long (vl 0), .int (vi 10), .int (vi 11), .int (vi 12), .int (vi 13), .int (vi 14)]))] H ∧ va_D A [((a 0), .inr (5, [.ref (a 4), .ref (ex 0), .ref (a 1), .ref (a 2), .ref (a 3), .ref (ex 1), .int (vi 2), .int (vi 3)])), ((a 1), .inl (T 1, 40, .inl f27)), ((a 2), .inl (T 1, 40, .inl f37)), ((a 3), .inl (T 1, 40, .inl f7)), ((a 4), .inr (6, [.ref (ex 2), .ref (ex 3), .int (vi 4), .int (vi 5), .int (vi 6), .int (vi 7), .int (vi 8), .int (vi 9), .long (vl 0), .int (vi 10), .int (vi 11), .int (vi 12), .int (vi 13), .int (vi 14)]))] := ⟨_, rfl, hP, hD⟩
    refine lv_aload_n hx hb dX5_addStep_48 rfl (lv_at hl 0 rfl) ?_
    refine lv_dup hx hb dX5_addStep_49 rfl ?_
    refine va_get (D := D) (ci := 5) (v := .int (vi 2)) (C := RX5) (T := TX5) (N := 8) hx hb htg inX5 hown hK.1 hP 0 rfl rfl 6 (by decide) (htg _ kw_390) (fun _ h9 => h9) rfl dX5_addStep_50 ?_
    refine lv_iconst (v := 1) hx hb dX5_addStep_53 (by decide) ?_
    refine lv_iadd hx hb dX5_addStep_54 ?_
    refine lv_topi (fun z54 ez54 => ?_)
    have tz54 : z54.toInt = (vi 2).toInt + 1 := by rw [ez54]; exact xadd rfl (by decide) (by omega) (by omega)
    refine va_put (D := D) (ci := 5) (v := .int z54) (ty := .int) (C := RX5) (T := TX5) (N := 8) hx hb htg inX5 tyX5 tyX5_ok nmX5 hown hK.1 hP hD hS 0 rfl rfl 6 (by decide) (htg _ kw_390) (fun _ h9 => h9) rfl (by decide +kernel) rfl rfl (Nat.le_of_ble_eq_true rfl) dX5_addStep_55 (fun H locs hP hD hS => ?_)
    obtain ⟨hP, hD⟩ := (show xPD D A [((a 0), .inr (5, [.ref (a 4), .ref (ex 0), .ref (a 1), .ref (a 2), .ref (a 3), .ref (ex 1), .int z54, .int (vi 3)])), ((a 1), .inl (T 1, 40, .inl f27)), ((a 2), .inl (T 1, 40, .inl f37)), ((a 3), .inl (T 1, 40, .inl f47)), ((a 4), .inr (6, [.ref (ex 2), .ref (ex 3), .int (vi 4), .int (vi 5), .int (vi 6), .int (vi 7), .int (vi 8), .int (vi 9), .long (vl 0), .int (vi 10), .int (vi 11), .int (vi 12), .int (vi 13), .int (vi 14)]))] H from ⟨hP, hD⟩)
    refine lv_iconst (v := 1) hx hb dX5_addStep_58 (by decide) ?_
    have hP9 := hP.sub (ws' := [((a 0), .inr (5, [.ref (a 4), .ref (ex 0), .ref (a 1), .ref (a 2), .ref (a 3), .ref (ex 1), .int z54, .int (vi 3)])), ((a 1), .inl (T 1, 40, .inl f27)), ((a 2), .inl (T 1, 40, .inl f37)), ((a 3), .inl (T 1, 40, .inl f47)), ((a 4), .inr (6, [.ref (ex 2), .ref (ex 3), .int (vi 4), .int (vi 5), .int (vi 6), .int (vi 7), .int (vi 8), .int (vi 9), .long (vl 0), .int (vi 10), .int (vi 11), .int (vi 12), .int (vi 13), .int (vi 14)]))]) [0, 1, 2, 3, 4] rfl
    have hD9 := hD.sub (ws' := [((a 0), .inr (5, [.ref (a 4), .ref (ex 0), .ref (a 1), .ref (a 2), .ref (a 3), .ref (ex 1), .int z54, .int (vi 3)])), ((a 1), .inl (T 1, 40, .inl f27)), ((a 2), .inl (T 1, 40, .inl f37)), ((a 3), .inl (T 1, 40, .inl f47)), ((a 4), .inr (6, [.ref (ex 2), .ref (ex 3), .int (vi 4), .int (vi 5), .int (vi 6), .int (vi 7), .int (vi 8), .int (vi 9), .long (vl 0), .int (vi 10), .int (vi 11), .int (vi 12), .int (vi 13), .int (vi 14)]))]) [0, 1, 2, 3, 4] (by decide +kernel) rfl
    rw [hQ]
    exact W.zret (v := 1) hx hb hr rfl (fun t ht hW => ⟨⟨1, 1, rfl, rfl, xf [f27, f37, f47], xh [], xv [z54, (vi 13), (vi 14)], xl [], by rw [ht]; exact hP9, hD9, ⟨(Or.inl ⟨rfl, by show (vi 2).toInt < 40 ∧ (z54).toInt = (vi 2).toInt + 1; first | trivial | omega | assumption⟩), (by show 0 ≤ z54.toInt ∧ z54.toInt ≤ 40; omega), hp6, (by show (1 : Int32).toInt = 1 → (vi 13).toInt = (vi 13).toInt; have k9_0 : (1 : Int32).toInt = 1 := (by decide); exact fun _ => rfl), trivial⟩⟩, hS.F ht⟩) hS.2.2 dX5_addStep_59
  · have c6 := xnlt (k := 40) (by decide) c6
    refine lv_aload_n hx hb dX5_addStep_9 rfl (lv_at hl 0 rfl) ?_
    refine va_get (D := D) (ci := 5) (v := .ref (a 4)) (C := RX5) (T := TX5) (N := 8) hx hb htg inX5 hown hK.1 hP 0 rfl rfl 0 (by decide) (htg _ kw_384) (fun _ h9 => h9) rfl dX5_addStep_10 ?_
    refine lv_iconst (v := 4) hx hb dX5_addStep_13 (by decide) ?_
    obtain ⟨hC9, hPc, hDc, hFc⟩ := xcut (wc := (pre_X6_refuse T (xa [(a 4)]) (xa [(ex 2), (ex 3)]) (xf []) (xh []) (xv [4, (vi 4), (vi 5), (vi 6), (vi 7), (vi 8), (vi 9), (vi 10), (vi 11), (vi 12), (vi 13), (vi 14)]) (xl [(vl 0)]))) hP hD hS hA [4] (by decide) rfl
    refine va_calli (va_runVN (As := [.int 4]) (rest := []) ⟨hx, hb, hml, hown, htg⟩ (c_X6_refuse l D T (xa [(a 4)]) (xa [(ex 2), (ex 3)]) (xf []) (xh []) (xv [4, (vi 4), (vi 5), (vi 6), (vi 7), (vi 8), (vi 9), (vi 10), (vi 11), (vi 12), (vi 13), (vi 14)]) (xl [(vl 0)]) s.heap.size hp2 hp3 hp4 hp5 hp6) ⟨va_cnB 1 htg (xg_ok kw_594) rfl rfl rfl (hK.2.1 _ kn_1218) (htg _ kw_2) (by decide +kernel) ⟨by rw [hR]; exact Nat.le_of_ble_eq_true rfl, by rw [hR]; exact Nat.le_of_ble_eq_true rfl⟩, htg _ kw_593, htg _ ks_10⟩ (xpreV hK hPc hDc (va_recv hK.1 hPc (ci := 6) (q0 := 0) rfl rfl)) rfl rfl hl.1 rfl (lv_room (Nat.le_of_ble_eq_true rfl)) dX5_addStep_14 ⟨by rw [hR]; exact Nat.le_of_ble_eq_true rfl, by rw [hR]; exact Nat.le_of_ble_eq_true rfl⟩) hS (fun q _ h => hFc q h) hFc (fun r9 u9 t H1 locs ht hvm hw hB hz1 hk1 hS => ?_)
    subst hw
    obtain ⟨fik, flk, vik, vlk, hP1, hD1, hG⟩ := hB
    rw [ht] at hP1
    obtain ⟨hP, hD⟩ := va_join (wr := [((a 0), .inr (5, [.ref (a 4), .ref (ex 0), .ref (a 1), .ref (a 2), .ref (a 3), .ref (ex 1), .int (vi 2), .int (vi 3)])), ((a 1), .inl (T 1, 40, .inl (fi 0))), ((a 2), .inl (T 1, 40, .inl (fi 1))), ((a 3), .inl (T 1, 40, .inl (fi 2)))]) (w1 := [((a 4), .inr (6, [.ref (ex 2), .ref (ex 3), .int (vi 4), .int (vi 5), .int (vi 6), .int (vi 7), .int (vi 8), .int (vi 9), .long (vl 0), .int (vi 10), .int (vi 11), .int (vi 12), .int (vik 0), .int (vik 1)]))]) hP hD [4] [0, 1, 2, 3] hC9 rfl (by decide) (by decide) hk1 hFc hP1 hD1
    obtain ⟨rk, er9⟩ : ∃ z, z = r9 := ⟨_, rfl⟩
    subst er9
    clear hPc hDc hFc hP1 hD1 hk1 hz1 hvm ht hC9
    generalize H1 = H at hP hS ⊢
    obtain ⟨hP, hD⟩ := (show xPD D A [((a 0), .inr (5, [.ref (a 4), .ref (ex 0), .ref (a 1), .ref (a 2), .ref (a 3), .ref (ex 1), .int (vi 2), .int (vi 3)])), ((a 1), .inl (T 1, 40, .inl (fi 0))), ((a 2), .inl (T 1, 40, .inl (fi 1))), ((a 3), .inl (T 1, 40, .inl (fi 2))), ((a 4), .inr (6, [.ref (ex 2), .ref (ex 3), .int (vi 4), .int (vi 5), .int (vi 6), .int (vi 7), .int (vi 8), .int (vi 9), .long (vl 0), .int (vi 10), .int (vi 11), .int (vi 12), .int (vik 0), .int (vik 1)]))] H from ⟨hP, hD⟩)
    obtain ⟨gk_0, gk_1, gk_2, -⟩ := hG
    replace gk_1 : 0 ≤ (vik 1).toInt ∧ (vik 1).toInt ≤ 940 := gk_1
    replace gk_2 : (vik 0).toInt = (4 : Int32).toInt ∧ (vik 1).toInt = (vi 9).toInt := gk_2
    replace gk_0 : rk = 0 := gk_0
    refine xz_i 0 gk_0 ?_
    have hP9 := hP.sub (ws' := [((a 0), .inr (5, [.ref (a 4), .ref (ex 0), .ref (a 1), .ref (a 2), .ref (a 3), .ref (ex 1), .int (vi 2), .int (vi 3)])), ((a 1), .inl (T 1, 40, .inl (fi 0))), ((a 2), .inl (T 1, 40, .inl (fi 1))), ((a 3), .inl (T 1, 40, .inl (fi 2))), ((a 4), .inr (6, [.ref (ex 2), .ref (ex 3), .int (vi 4), .int (vi 5), .int (vi 6), .int (vi 7), .int (vi 8), .int (vi 9), .long (vl 0), .int (vi 10), .int (vi 11), .int (vi 12), .int (vik 0), .int (vik 1)]))]) [0, 1, 2, 3, 4] rfl
    have hD9 := hD.sub (ws' := [((a 0), .inr (5, [.ref (a 4), .ref (ex 0), .ref (a 1), .ref (a 2), .ref (a 3), .ref (ex 1), .int (vi 2), .int (vi 3)])), ((a 1), .inl (T 1, 40, .inl (fi 0))), ((a 2), .inl (T 1, 40, .inl (fi 1))), ((a 3), .inl (T 1, 40, .inl (fi 2))), ((a 4), .inr (6, [.ref (ex 2), .ref (ex 3), .int (vi 4), .int (vi 5), .int (vi 6), .int (vi 7), .int (vi 8), .int (vi 9), .long (vl 0), .int (vi 10), .int (vi 11), .int (vi 12), .int (vik 0), .int (vik 1)]))]) [0, 1, 2, 3, 4] (by decide +kernel) rfl
    rw [hQ]
    exact W.zret (v := 0) hx hb hr rfl (fun t ht hW => ⟨⟨0, 0, rfl, rfl, xf [(fi 0), (fi 1), (fi 2)], xh [], xv [(vi 2), (vik 0), (vik 1)], xl [], by rw [ht]; exact hP9, hD9, ⟨(Or.inr ⟨rfl, by show 40 ≤ (vi 2).toInt; first | trivial | omega | assumption⟩), hp0, gk_1, (by show (0 : Int32).toInt = 1 → (vik 0).toInt = (vi 13).toInt; have k9_0 : (0 : Int32).toInt = 0 := (by decide); exact fun h9 => absurd h9 (by decide)), trivial⟩⟩, hS.F ht⟩) hS.2.2 dX5_addStep_17
abbrev pre_J0_coder_7d493_19 (T : Nat → ClassId) (a ex : Nat → Nat) (fi : Nat → Nat → Int32) (fl : Nat → Nat → Int64) (vi : Nat → Int32) (vl : Nat → Int64) : va_W := []
set_option maxHeartbeats 8000000 in
set_option maxRecDepth 100000 in
theorem c_J0_coder_7d493_19 (l : Launch) (D : va_G) (T : Nat → ClassId) (a ex : Nat → Nat) (fi : Nat → Nat → Int32) (fl : Nat → Nat → Int64) (vi : Nat → Int32) (vl : Nat → Int64) (kK kV : Nat → Nat) (sz : Nat) : Met l yJ0_coder_7d493 (xw yJ0_coder_7d493 cJ0_coder_7d493 1 (some .byte)) ({ frames := 0, cells := 0, slots := 0, locals := 0 }) (xPs D T kK kV [.ref (kK 29)] sz (pre_J0_coder_7d493_19 T a ex fi fl vi vl)) (va_Qi (fun r u => r = u) (xC D (va_A (pre_J0_coder_7d493_19 T a ex fi fl vi vl) sz) (fun fj fm vj vm => []) (fun (r : Int32) (fj : Nat → Nat → Int32) (fm : Nat → Nat → Int64) (vj : Nat → Int32) (vm : Nat → Int64) => r = 0 ∧ True)) (va_A (pre_J0_coder_7d493_19 T a ex fi fl vi vl) sz)) 0 0 (va_A (pre_J0_coder_7d493_19 T a ex fi fl vi vl) sz) := by
  refine xofW (cc := cJ0_coder_7d493) (maxL := 1) (ret := (some .byte)) (by decide) rfl ?_
  intro p e s m args below meth c s₁ R Q hR hQ B hml hv
  obtain ⟨rfl, hsz, hP, hK, hD0, hT⟩ := hv
  have hx := B.exec
  have hb := B.bytes
  have hr := B.returns
  have hts := atoms_spec (ws := xw yJ0_coder_7d493 cJ0_coder_7d493 1 (some .byte)) B.pre
  have htg : ∀ w ∈ xg, w.before _ s = true := fun w h => hts w (List.mem_cons_of_mem _ h)
  have hown : s.vm.findClass RJ0 = some m.cls := findClass_of_methodNamed B.named
  have hlocks := B.notSynchronized
  subst hsz
  have hD := hD0.self (sz := s.heap.size)
  generalize hAe : va_A (pre_J0_coder_7d493_19 T a ex fi fl vi vl) s.heap.size = A at hD hQ hT
  have hA : ∀ q : Nat, s.heap.size ≤ q → A q := fun q h => by rw [← hAe]; exact Or.inr h
  have hS : va_S A s.heap s.heap [] := va_S.rf
  replace hP : va_P D vwCl [] s.heap := hP
  replace hD : va_D A [] := hD
  have hl := lv_entry ([.ref (kK 29)]) (n := 1) (Nat.le_of_ble_eq_true rfl)
  rw [lg_entry_eq]
  generalize (lg_sl ([.ref (kK 29)]) ++ List.replicate (1 - (lg_sl ([.ref (kK 29)])).length) Slot.unset).toArray = ls at hl ⊢
  replace hl : lv_has ls 1 [(0, .ref (kK 29))] := hl
  refine va_gets hx hb hT.2.2.1 hS hown (htg _ kw_52) (fun _ h9 => h9) dJ0_coder_7d493_0 ?_
  refine lv_if_eq (tgt := 13) hx hb dJ0_coder_7d493_3 (by decide) (fun c => absurd c (by decide)) (fun _ => ?_)
  refine lv_aload_n hx hb dJ0_coder_7d493_6 rfl (lv_at hl 0 rfl) ?_
  refine vk_getf hx hb (hT.2.1 29 (by decide)).2.1 hS hown (htg _ kw_2031) (fun _ h9 => h9) dJ0_coder_7d493_7 ?_
  refine lv_goto (tgt := 14) hx hb dJ0_coder_7d493_10 (by decide) ?_
  have hP9 := hP.sub (ws' := []) [] rfl
  have hD9 := hD.sub (ws' := []) [] (by decide +kernel) rfl
  rw [hQ]
  exact W.zret (v := 0) hx hb hr rfl (fun t ht hW => ⟨⟨0, 0, rfl, rfl, xf [], xh [], xv [], xl [], by rw [ht]; exact hP9, hD9, ⟨rfl, trivial⟩⟩, hS.F ht⟩) hS.2.2 dJ0_coder_7d493_14
abbrev pre_J0_length_8abf5_19 (T : Nat → ClassId) (a ex : Nat → Nat) (fi : Nat → Nat → Int32) (fl : Nat → Nat → Int64) (vi : Nat → Int32) (vl : Nat → Int64) : va_W := []
set_option maxHeartbeats 8000000 in
set_option maxRecDepth 100000 in
theorem c_J0_length_8abf5_19 (l : Launch) (D : va_G) (T : Nat → ClassId) (a ex : Nat → Nat) (fi : Nat → Nat → Int32) (fl : Nat → Nat → Int64) (vi : Nat → Int32) (vl : Nat → Int64) (kK kV : Nat → Nat) (sz : Nat) : Met l yJ0_length_8abf5 (xw yJ0_length_8abf5 cJ0_length_8abf5 1 (some .int)) ({ frames := 1, cells := 0, slots := 0, locals := 24 }) (xPs D T kK kV [.ref (kK 29)] sz (pre_J0_length_8abf5_19 T a ex fi fl vi vl)) (va_Qi (fun r u => r = u) (xC D (va_A (pre_J0_length_8abf5_19 T a ex fi fl vi vl) sz) (fun fj fm vj vm => []) (fun (r : Int32) (fj : Nat → Nat → Int32) (fm : Nat → Nat → Int64) (vj : Nat → Int32) (vm : Nat → Int64) => r = 3 ∧ True)) (va_A (pre_J0_length_8abf5_19 T a ex fi fl vi vl) sz)) 0 0 (va_A (pre_J0_length_8abf5_19 T a ex fi fl vi vl) sz) := by
  refine xofW (cc := cJ0_length_8abf5) (maxL := 1) (ret := (some .int)) (by decide) rfl ?_
  intro p e s m args below meth c s₁ R Q hR hQ B hml hv
  obtain ⟨rfl, hsz, hP, hK, hD0, hT⟩ := hv
  have hx := B.exec
  have hb := B.bytes
  have hr := B.returns
  have hts := atoms_spec (ws := xw yJ0_length_8abf5 cJ0_length_8abf5 1 (some .int)) B.pre
  have htg : ∀ w ∈ xg, w.before _ s = true := fun w h => hts w (List.mem_cons_of_mem _ h)
  have hown : s.vm.findClass RJ0 = some m.cls := findClass_of_methodNamed B.named
  have hlocks := B.notSynchronized
  subst hsz
  have hD := hD0.self (sz := s.heap.size)
  generalize hAe : va_A (pre_J0_length_8abf5_19 T a ex fi fl vi vl) s.heap.size = A at hD hQ hT
  have hA : ∀ q : Nat, s.heap.size ≤ q → A q := fun q h => by rw [← hAe]; exact Or.inr h
  have hS : va_S A s.heap s.heap [] := va_S.rf
  replace hP : va_P D vwCl [] s.heap := hP
  replace hD : va_D A [] := hD
  have hl := lv_entry ([.ref (kK 29)]) (n := 1) (Nat.le_of_ble_eq_true rfl)
  rw [lg_entry_eq]
  generalize (lg_sl ([.ref (kK 29)]) ++ List.replicate (1 - (lg_sl ([.ref (kK 29)])).length) Slot.unset).toArray = ls at hl ⊢
  replace hl : lv_has ls 1 [(0, .ref (kK 29))] := hl
  refine lv_aload_n hx hb dJ0_length_8abf5_0 rfl (lv_at hl 0 rfl) ?_
  refine vk_getf hx hb (hT.2.1 29 (by decide)).2.2.1 hS hown (htg _ kw_2030) (fun _ h9 => h9) dJ0_length_8abf5_1 ?_
  refine va_tlen (v := 3) hx hb (hT.2.1 29 (by decide)).2.2.2 hS (by decide) dJ0_length_8abf5_4 ?_
  refine lv_aload_n hx hb dJ0_length_8abf5_5 rfl (lv_at hl 0 rfl) ?_
  obtain ⟨hC9, hPc, hDc, hFc⟩ := xcut (wc := (pre_J0_coder_7d493_19 T (xa []) (xa []) (xf []) (xh []) (xv []) (xl []))) hP hD hS hA [] (by decide) rfl
  refine va_calli (va_runV (As := []) (rest := [.int 3]) ⟨hx, hb, hml, hown, htg⟩ (c_J0_coder_7d493_19 l D T (xa []) (xa []) (xf []) (xh []) (xv []) (xl []) kK kV s.heap.size) ⟨callB_of 0 htg (xg_ok kw_51) rfl rfl rfl (htg _ kw_3) (htg _ kw_48) (by decide +kernel) ⟨by rw [hR]; exact Nat.le_of_ble_eq_true rfl, by rw [hR]; exact Nat.le_of_ble_eq_true rfl⟩, htg _ kw_49, htg _ kw_50⟩ (xpreVs hK hPc hDc hT hFc hS (xT.recv hT 29 (by decide) hS)) rfl rfl hl.1 rfl (lv_room (Nat.le_of_ble_eq_true rfl)) dJ0_length_8abf5_6 ⟨by rw [hR]; exact Nat.le_of_ble_eq_true rfl, by rw [hR]; exact Nat.le_of_ble_eq_true rfl⟩) hS (fun q _ h => hFc q h) hFc (fun r9 u9 t H1 locs ht hvm hw hB hz1 hk1 hS => ?_)
  subst hw
  obtain ⟨fik, flk, vik, vlk, hP1, hD1, hG⟩ := hB
  rw [ht] at hP1
  obtain ⟨hP, hD⟩ := va_join (wr := []) (w1 := []) hP hD [] [] hC9 rfl (by decide) (by decide) hk1 hFc hP1 hD1
  obtain ⟨rk, er9⟩ : ∃ z, z = r9 := ⟨_, rfl⟩
  subst er9
  clear hPc hDc hFc hP1 hD1 hk1 hz1 hvm ht hC9
  generalize H1 = H at hP hS ⊢
  obtain ⟨hP, hD⟩ := (show xPD D A [] H from ⟨hP, hD⟩)
  obtain ⟨gk_0, -⟩ := hG
  replace gk_0 : rk = 0 := gk_0
  refine xz_i 0 gk_0 ?_
  refine lv_ishr hx hb dJ0_length_8abf5_9 ?_
  refine xz_i 3 (by decide) ?_
  have hP9 := hP.sub (ws' := []) [] rfl
  have hD9 := hD.sub (ws' := []) [] (by decide +kernel) rfl
  rw [hQ]
  exact W.iret (v := 3) hx hb hr (fun t ht hW => ⟨⟨3, 3, rfl, rfl, xf [], xh [], xv [], xl [], by rw [ht]; exact hP9, hD9, ⟨rfl, trivial⟩⟩, hS.F ht⟩) hS.2.2 dJ0_length_8abf5_10
abbrev pre_J0_isLatin1_aae02_19 (T : Nat → ClassId) (a ex : Nat → Nat) (fi : Nat → Nat → Int32) (fl : Nat → Nat → Int64) (vi : Nat → Int32) (vl : Nat → Int64) : va_W := []
set_option maxHeartbeats 8000000 in
set_option maxRecDepth 100000 in
theorem c_J0_isLatin1_aae02_19 (l : Launch) (D : va_G) (T : Nat → ClassId) (a ex : Nat → Nat) (fi : Nat → Nat → Int32) (fl : Nat → Nat → Int64) (vi : Nat → Int32) (vl : Nat → Int64) (kK kV : Nat → Nat) (sz : Nat) : Met l yJ0_isLatin1_aae02 (xw yJ0_isLatin1_aae02 cJ0_isLatin1_aae02 1 (some .boolean)) ({ frames := 0, cells := 0, slots := 0, locals := 0 }) (xPs D T kK kV [.ref (kK 29)] sz (pre_J0_isLatin1_aae02_19 T a ex fi fl vi vl)) (va_Qi (fun r u => r = u) (xC D (va_A (pre_J0_isLatin1_aae02_19 T a ex fi fl vi vl) sz) (fun fj fm vj vm => []) (fun (r : Int32) (fj : Nat → Nat → Int32) (fm : Nat → Nat → Int64) (vj : Nat → Int32) (vm : Nat → Int64) => r = 1 ∧ True)) (va_A (pre_J0_isLatin1_aae02_19 T a ex fi fl vi vl) sz)) 0 0 (va_A (pre_J0_isLatin1_aae02_19 T a ex fi fl vi vl) sz) := by
  refine xofW (cc := cJ0_isLatin1_aae02) (maxL := 1) (ret := (some .boolean)) (by decide) rfl ?_
  intro p e s m args below meth c s₁ R Q hR hQ B hml hv
  obtain ⟨rfl, hsz, hP, hK, hD0, hT⟩ := hv
  have hx := B.exec
  have hb := B.bytes
  have hr := B.returns
  have hts := atoms_spec (ws := xw yJ0_isLatin1_aae02 cJ0_isLatin1_aae02 1 (some .boolean)) B.pre
  have htg : ∀ w ∈ xg, w.before _ s = true := fun w h => hts w (List.mem_cons_of_mem _ h)
  have hown : s.vm.findClass RJ0 = some m.cls := findClass_of_methodNamed B.named
  have hlocks := B.notSynchronized
  subst hsz
  have hD := hD0.self (sz := s.heap.size)
  generalize hAe : va_A (pre_J0_isLatin1_aae02_19 T a ex fi fl vi vl) s.heap.size = A at hD hQ hT
  have hA : ∀ q : Nat, s.heap.size ≤ q → A q := fun q h => by rw [← hAe]; exact Or.inr h
  have hS : va_S A s.heap s.heap [] := va_S.rf
  replace hP : va_P D vwCl [] s.heap := hP
  replace hD : va_D A [] := hD
  have hl := lv_entry ([.ref (kK 29)]) (n := 1) (Nat.le_of_ble_eq_true rfl)
  rw [lg_entry_eq]
  generalize (lg_sl ([.ref (kK 29)]) ++ List.replicate (1 - (lg_sl ([.ref (kK 29)])).length) Slot.unset).toArray = ls at hl ⊢
  replace hl : lv_has ls 1 [(0, .ref (kK 29))] := hl
  refine va_gets hx hb hT.2.2.1 hS hown (htg _ kw_52) (fun _ h9 => h9) dJ0_isLatin1_aae02_0 ?_
  refine lv_if_eq (tgt := 17) hx hb dJ0_isLatin1_aae02_3 (by decide) (fun c => absurd c (by decide)) (fun _ => ?_)
  refine lv_aload_n hx hb dJ0_isLatin1_aae02_6 rfl (lv_at hl 0 rfl) ?_
  refine vk_getf hx hb (hT.2.1 29 (by decide)).2.1 hS hown (htg _ kw_2031) (fun _ h9 => h9) dJ0_isLatin1_aae02_7 ?_
  refine lv_if_ne (tgt := 17) hx hb dJ0_isLatin1_aae02_10 (by decide) (fun c => absurd (by decide) c) (fun _ => ?_)
  refine lv_iconst (v := 1) hx hb dJ0_isLatin1_aae02_13 (by decide) ?_
  refine lv_goto (tgt := 18) hx hb dJ0_isLatin1_aae02_14 (by decide) ?_
  have hP9 := hP.sub (ws' := []) [] rfl
  have hD9 := hD.sub (ws' := []) [] (by decide +kernel) rfl
  rw [hQ]
  exact W.zret (v := 1) hx hb hr rfl (fun t ht hW => ⟨⟨1, 1, rfl, rfl, xf [], xh [], xv [], xl [], by rw [ht]; exact hP9, hD9, ⟨rfl, trivial⟩⟩, hS.F ht⟩) hS.2.2 dJ0_isLatin1_aae02_18
abbrev pre_J1_charAt_3b067_19 (T : Nat → ClassId) (a ex : Nat → Nat) (fi : Nat → Nat → Int32) (fl : Nat → Nat → Int64) (vi : Nat → Int32) (vl : Nat → Int64) : va_W := []
set_option maxHeartbeats 8000000 in
set_option maxRecDepth 100000 in
theorem c_J1_charAt_3b067_19 (l : Launch) (D : va_G) (T : Nat → ClassId) (a ex : Nat → Nat) (fi : Nat → Nat → Int32) (fl : Nat → Nat → Int64) (vi : Nat → Int32) (vl : Nat → Int64) (kK kV : Nat → Nat) (sz : Nat) (hp0 : 0 ≤ (vi 0).toInt ∧ (vi 0).toInt ≤ 2) : Met l yJ1_charAt_3b067 (xw yJ1_charAt_3b067 cJ1_charAt_3b067 2 (some .char)) ({ frames := 2, cells := 0, slots := 0, locals := 51 }) (xPs D T kK kV [.ref (kV 29), .int (vi 0)] sz (pre_J1_charAt_3b067_19 T a ex fi fl vi vl)) (va_Qi (fun r u => r = u) (xC D (va_A (pre_J1_charAt_3b067_19 T a ex fi fl vi vl) sz) (fun fj fm vj vm => []) (fun (r : Int32) (fj : Nat → Nat → Int32) (fm : Nat → Nat → Int64) (vj : Nat → Int32) (vm : Nat → Int64) => narrow .char (.int r) = .int r ∧ R_J1_charAt_3b067_19 fi fl vi vl r fj fm vj vm ∧ True)) (va_A (pre_J1_charAt_3b067_19 T a ex fi fl vi vl) sz)) 0 0 (va_A (pre_J1_charAt_3b067_19 T a ex fi fl vi vl) sz) := by
  refine xofW (cc := cJ1_charAt_3b067) (maxL := 2) (ret := (some .char)) (by decide) rfl ?_
  intro p e s m args below meth c s₁ R Q hR hQ B hml hv
  obtain ⟨rfl, hsz, hP, hK, hD0, hT⟩ := hv
  have hx := B.exec
  have hb := B.bytes
  have hr := B.returns
  have hts := atoms_spec (ws := xw yJ1_charAt_3b067 cJ1_charAt_3b067 2 (some .char)) B.pre
  have htg : ∀ w ∈ xg, w.before _ s = true := fun w h => hts w (List.mem_cons_of_mem _ h)
  have hown : s.vm.findClass RJ1 = some m.cls := findClass_of_methodNamed B.named
  have hlocks := B.notSynchronized
  subst hsz
  have hD := hD0.self (sz := s.heap.size)
  generalize hAe : va_A (pre_J1_charAt_3b067_19 T a ex fi fl vi vl) s.heap.size = A at hD hQ hT
  have hA : ∀ q : Nat, s.heap.size ≤ q → A q := fun q h => by rw [← hAe]; exact Or.inr h
  have hS : va_S A s.heap s.heap [] := va_S.rf
  replace hP : va_P D vwCl [] s.heap := hP
  replace hD : va_D A [] := hD
  have hl := lv_entry ([.ref (kV 29), .int (vi 0)]) (n := 2) (Nat.le_of_ble_eq_true rfl)
  rw [lg_entry_eq]
  generalize (lg_sl ([.ref (kV 29), .int (vi 0)]) ++ List.replicate (2 - (lg_sl ([.ref (kV 29), .int (vi 0)])).length) Slot.unset).toArray = ls at hl ⊢
  replace hl : lv_has ls 2 [(0, .ref (kV 29)), (1, .int (vi 0))] := hl
  refine lv_iload_n hx hb dJ1_charAt_3b067_0 rfl (lv_at hl 1 rfl) ?_
  refine lv_aload_n hx hb dJ1_charAt_3b067_1 rfl (lv_at hl 0 rfl) ?_
  refine va_tlen (v := 3) hx hb (hT.2.1 29 (by decide)).2.2.2 hS (by decide) dJ1_charAt_3b067_2 ?_
  obtain ⟨hC9, hPc, hDc, hFc⟩ := xcut (wc := (pre_J0_checkIndex_df160_4 T (xa []) (xa []) (xf []) (xh []) (xv [(vi 0)]) (xl []))) hP hD hS hA [] (by decide) rfl
  refine va_callv (va_runS (As := [.int (vi 0), .int 3]) (rest := []) ⟨hx, hb, hml, hown, htg⟩ (c_J0_checkIndex_df160_4 l D T (xa []) (xa []) (xf []) (xh []) (xv [(vi 0)]) (xl []) kK kV s.heap.size hp0) ⟨callB_of 2 htg (xg_ok kw_67) rfl rfl rfl (htg _ kw_3) (htg _ kw_65) (by decide +kernel) ⟨by rw [hR]; exact Nat.le_of_ble_eq_true rfl, by rw [hR]; exact Nat.le_of_ble_eq_true rfl⟩, htg _ kw_66⟩ (xpreSs hK hPc hDc hT hFc hS) rfl rfl hl.1 rfl (lv_room (Nat.le_of_ble_eq_true rfl)) dJ1_charAt_3b067_3 ⟨by rw [hR]; exact Nat.le_of_ble_eq_true rfl, by rw [hR]; exact Nat.le_of_ble_eq_true rfl⟩) hS (fun q _ h => hFc q h) hFc (fun u9 t H1 locs ht hvm hw hB hz1 hk1 hS => ?_)
  obtain ⟨fik, flk, vik, vlk, hP1, hD1, hG⟩ := hB
  rw [ht] at hP1
  obtain ⟨hP, hD⟩ := va_join (wr := []) (w1 := []) hP hD [] [] hC9 rfl (by decide) (by decide) hk1 hFc hP1 hD1
  clear hPc hDc hFc hP1 hD1 hk1 hz1 hvm ht hC9
  generalize H1 = H at hP hS ⊢
  obtain ⟨hP, hD⟩ := (show xPD D A [] H from ⟨hP, hD⟩)
  obtain ⟨uk, eu9⟩ : ∃ z, z = u9 := ⟨_, rfl⟩
  subst eu9
  clear hG
  refine lv_aload_n hx hb dJ1_charAt_3b067_6 rfl (lv_at hl 0 rfl) ?_
  refine lv_iload_n hx hb dJ1_charAt_3b067_7 rfl (lv_at hl 1 rfl) ?_
  refine va_tb hx hb (hT.2.1 29 (by decide)).2.2.2 hS (show vp_in (vi 0) 3 from (vp_in_iff.mpr (by omega))) rfl dJ1_charAt_3b067_8 ?_
  refine lv_topi (fun z8 ez8 => ?_)
  refine lv_sipush (v := 255) hx hb dJ1_charAt_3b067_9 (by decide) ?_
  refine lv_iand hx hb dJ1_charAt_3b067_12 ?_
  refine lv_topi (fun z12 ez12 => ?_)
  have tz12 : 0 ≤ z12.toInt ∧ z12.toInt ≤ 255 := by rw [ez12]; exact xand255 _
  refine lv_i2c hx hb dJ1_charAt_3b067_13 rfl ?_
  refine lv_topi (fun z13 ez13 => ?_)
  have nz13 : narrow .char (.int z13) = .int z13 := by rw [ez13]; exact pk_nc _
  have hP9 := hP.sub (ws' := []) [] rfl
  have hD9 := hD.sub (ws' := []) [] (by decide +kernel) rfl
  rw [hQ]
  exact W.zret (v := z13) hx hb hr nz13 (fun t ht hW => ⟨⟨z13, z13, rfl, rfl, xf [], xh [], xv [], xl [], by rw [ht]; exact hP9, hD9, ⟨nz13, (by unfold R_J1_charAt_3b067_19; exact (fun Q9 k9_0 => k9_0 hp0 fik flk vik vlk uk z8 ez8 z12 ez12 z13 ez13 rfl)), trivial⟩⟩, hS.F ht⟩) hS.2.2 dJ1_charAt_3b067_14
abbrev pre_J0_charAt_5068e_19 (T : Nat → ClassId) (a ex : Nat → Nat) (fi : Nat → Nat → Int32) (fl : Nat → Nat → Int64) (vi : Nat → Int32) (vl : Nat → Int64) : va_W := []
set_option maxHeartbeats 8000000 in
set_option maxRecDepth 100000 in
theorem c_J0_charAt_5068e_19 (l : Launch) (D : va_G) (T : Nat → ClassId) (a ex : Nat → Nat) (fi : Nat → Nat → Int32) (fl : Nat → Nat → Int64) (vi : Nat → Int32) (vl : Nat → Int64) (kK kV : Nat → Nat) (sz : Nat) (hp0 : 0 ≤ (vi 0).toInt ∧ (vi 0).toInt ≤ 2) : Met l yJ0_charAt_5068e (xw yJ0_charAt_5068e cJ0_charAt_5068e 2 (some .char)) ({ frames := 3, cells := 0, slots := 0, locals := 76 }) (xPs D T kK kV [.ref (kK 29), .int (vi 0)] sz (pre_J0_charAt_5068e_19 T a ex fi fl vi vl)) (va_Qi (fun r u => r = u) (xC D (va_A (pre_J0_charAt_5068e_19 T a ex fi fl vi vl) sz) (fun fj fm vj vm => []) (fun (r : Int32) (fj : Nat → Nat → Int32) (fm : Nat → Nat → Int64) (vj : Nat → Int32) (vm : Nat → Int64) => narrow .char (.int r) = .int r ∧ R_J0_charAt_5068e_19 fi fl vi vl r fj fm vj vm ∧ True)) (va_A (pre_J0_charAt_5068e_19 T a ex fi fl vi vl) sz)) 0 0 (va_A (pre_J0_charAt_5068e_19 T a ex fi fl vi vl) sz) := by
  refine xofW (cc := cJ0_charAt_5068e) (maxL := 2) (ret := (some .char)) (by decide) rfl ?_
  intro p e s m args below meth c s₁ R Q hR hQ B hml hv
  obtain ⟨rfl, hsz, hP, hK, hD0, hT⟩ := hv
  have hx := B.exec
  have hb := B.bytes
  have hr := B.returns
  have hts := atoms_spec (ws := xw yJ0_charAt_5068e cJ0_charAt_5068e 2 (some .char)) B.pre
  have htg : ∀ w ∈ xg, w.before _ s = true := fun w h => hts w (List.mem_cons_of_mem _ h)
  have hown : s.vm.findClass RJ0 = some m.cls := findClass_of_methodNamed B.named
  have hlocks := B.notSynchronized
  subst hsz
  have hD := hD0.self (sz := s.heap.size)
  generalize hAe : va_A (pre_J0_charAt_5068e_19 T a ex fi fl vi vl) s.heap.size = A at hD hQ hT
  have hA : ∀ q : Nat, s.heap.size ≤ q → A q := fun q h => by rw [← hAe]; exact Or.inr h
  have hS : va_S A s.heap s.heap [] := va_S.rf
  replace hP : va_P D vwCl [] s.heap := hP
  replace hD : va_D A [] := hD
  have hl := lv_entry ([.ref (kK 29), .int (vi 0)]) (n := 2) (Nat.le_of_ble_eq_true rfl)
  rw [lg_entry_eq]
  generalize (lg_sl ([.ref (kK 29), .int (vi 0)]) ++ List.replicate (2 - (lg_sl ([.ref (kK 29), .int (vi 0)])).length) Slot.unset).toArray = ls at hl ⊢
  replace hl : lv_has ls 2 [(0, .ref (kK 29)), (1, .int (vi 0))] := hl
  refine lv_aload_n hx hb dJ0_charAt_5068e_0 rfl (lv_at hl 0 rfl) ?_
  obtain ⟨hC9, hPc, hDc, hFc⟩ := xcut (wc := (pre_J0_isLatin1_aae02_19 T (xa []) (xa []) (xf []) (xh []) (xv []) (xl []))) hP hD hS hA [] (by decide) rfl
  refine va_calli (va_runV (As := []) (rest := []) ⟨hx, hb, hml, hown, htg⟩ (c_J0_isLatin1_aae02_19 l D T (xa []) (xa []) (xf []) (xh []) (xv []) (xl []) kK kV s.heap.size) ⟨callB_of 0 htg (xg_ok kw_61) rfl rfl rfl (htg _ kw_3) (htg _ kw_58) (by decide +kernel) ⟨by rw [hR]; exact Nat.le_of_ble_eq_true rfl, by rw [hR]; exact Nat.le_of_ble_eq_true rfl⟩, htg _ kw_59, htg _ kw_60⟩ (xpreVs hK hPc hDc hT hFc hS (xT.recv hT 29 (by decide) hS)) rfl rfl hl.1 rfl (lv_room (Nat.le_of_ble_eq_true rfl)) dJ0_charAt_5068e_1 ⟨by rw [hR]; exact Nat.le_of_ble_eq_true rfl, by rw [hR]; exact Nat.le_of_ble_eq_true rfl⟩) hS (fun q _ h => hFc q h) hFc (fun r9 u9 t H1 locs ht hvm hw hB hz1 hk1 hS => ?_)
  subst hw
  obtain ⟨fik, flk, vik, vlk, hP1, hD1, hG⟩ := hB
  rw [ht] at hP1
  obtain ⟨hP, hD⟩ := va_join (wr := []) (w1 := []) hP hD [] [] hC9 rfl (by decide) (by decide) hk1 hFc hP1 hD1
  obtain ⟨rk, er9⟩ : ∃ z, z = r9 := ⟨_, rfl⟩
  subst er9
  clear hPc hDc hFc hP1 hD1 hk1 hz1 hvm ht hC9
  generalize H1 = H at hP hS ⊢
  obtain ⟨hP, hD⟩ := (show xPD D A [] H from ⟨hP, hD⟩)
  obtain ⟨gk_0, -⟩ := hG
  replace gk_0 : rk = 1 := gk_0
  refine xz_i 1 gk_0 ?_
  refine lv_if_eq (tgt := 16) hx hb dJ0_charAt_5068e_4 (by decide) (fun c => absurd c (by decide)) (fun _ => ?_)
  refine lv_aload_n hx hb dJ0_charAt_5068e_7 rfl (lv_at hl 0 rfl) ?_
  refine vk_getf hx hb (hT.2.1 29 (by decide)).2.2.1 hS hown (htg _ kw_2030) (fun _ h9 => h9) dJ0_charAt_5068e_8 ?_
  refine lv_iload_n hx hb dJ0_charAt_5068e_11 rfl (lv_at hl 1 rfl) ?_
  obtain ⟨hC9, hPc, hDc, hFc⟩ := xcut (wc := (pre_J1_charAt_3b067_19 T (xa []) (xa []) (xf []) (xh []) (xv [(vi 0)]) (xl []))) hP hD hS hA [] (by decide) rfl
  refine va_calli (va_runS (As := [.ref (kV 29), .int (vi 0)]) (rest := []) ⟨hx, hb, hml, hown, htg⟩ (c_J1_charAt_3b067_19 l D T (xa []) (xa []) (xf []) (xh []) (xv [(vi 0)]) (xl []) kK kV H.size hp0) ⟨callB_of 2 htg (xg_ok kw_64) rfl rfl rfl (htg _ kw_4) (htg _ kw_62) (by decide +kernel) ⟨by rw [hR]; exact Nat.le_of_ble_eq_true rfl, by rw [hR]; exact Nat.le_of_ble_eq_true rfl⟩, htg _ kw_63⟩ (xpreSs hK hPc hDc hT hFc hS) rfl rfl hl.1 rfl (lv_room (Nat.le_of_ble_eq_true rfl)) dJ0_charAt_5068e_12 ⟨by rw [hR]; exact Nat.le_of_ble_eq_true rfl, by rw [hR]; exact Nat.le_of_ble_eq_true rfl⟩) hS (fun q _ h => hFc q h) hFc (fun r9 u9 t H1 locs ht hvm hw hB hz1 hk1 hS => ?_)
  subst hw
  obtain ⟨fik_1, flk_1, vik_1, vlk_1, hP1, hD1, hG⟩ := hB
  rw [ht] at hP1
  obtain ⟨hP, hD⟩ := va_join (wr := []) (w1 := []) hP hD [] [] hC9 rfl (by decide) (by decide) hk1 hFc hP1 hD1
  obtain ⟨rk_1, er9⟩ : ∃ z, z = r9 := ⟨_, rfl⟩
  subst er9
  clear hPc hDc hFc hP1 hD1 hk1 hz1 hvm ht hC9
  generalize H1 = H at hP hS ⊢
  obtain ⟨hP, hD⟩ := (show xPD D A [] H from ⟨hP, hD⟩)
  obtain ⟨gk_1_0, gk_1_1, -⟩ := hG
  replace gk_1_1 : rk_1 = (sBy.getD 29 []).getD ((vi 0).toInt).toNat 0 := (P_J1_charAt_3b067_19 gk_1_1 : _)
  replace gk_1_0 : narrow .char (.int rk_1) = .int rk_1 := gk_1_0
  have hP9 := hP.sub (ws' := []) [] rfl
  have hD9 := hD.sub (ws' := []) [] (by decide +kernel) rfl
  rw [hQ]
  exact W.zret (v := rk_1) hx hb hr gk_1_0 (fun t ht hW => ⟨⟨rk_1, rk_1, rfl, rfl, xf [], xh [], xv [], xl [], by rw [ht]; exact hP9, hD9, ⟨gk_1_0, (by unfold R_J0_charAt_5068e_19; exact (fun Q9 k9_0 => k9_0 hp0 fik flk vik vlk rk gk_0 fik_1 flk_1 vik_1 vlk_1 rk_1 gk_1_1 rfl)), trivial⟩⟩, hS.F ht⟩) hS.2.2 dJ0_charAt_5068e_15
abbrev pre_X6_isWord_19 (T : Nat → ClassId) (a ex : Nat → Nat) (fi : Nat → Nat → Int32) (fl : Nat → Nat → Int64) (vi : Nat → Int32) (vl : Nat → Int64) : va_W := [((a 0), .inr (6, [.ref (ex 0), .ref (ex 1), .int (vi 0), .int (vi 1), .int (vi 2), .int (vi 3), .int (vi 4), .int (vi 5), .long (vl 0), .int (vi 6), .int (vi 7), .int (vi 8), .int (vi 9), .int (vi 10)]))]
set_option maxHeartbeats 8000000 in
set_option maxRecDepth 100000 in
theorem c_X6_isWord_19 (l : Launch) (D : va_G) (T : Nat → ClassId) (a ex : Nat → Nat) (fi : Nat → Nat → Int32) (fl : Nat → Nat → Int64) (vi : Nat → Int32) (vl : Nat → Int64) (kK kV : Nat → Nat) (sz : Nat) (hp0 : 0 ≤ (vi 1).toInt ∧ (vi 1).toInt ≤ 940) (hp1 : 0 ≤ (vi 2).toInt ∧ (vi 2).toInt ≤ 940) (hp2 : 0 ≤ (vi 3).toInt ∧ (vi 3).toInt ≤ 940) (hp3 : 0 ≤ (vi 5).toInt ∧ (vi 5).toInt ≤ 940) (hp4 : 0 ≤ (vi 10).toInt ∧ (vi 10).toInt ≤ 940) : Met l yX6_isWord (xw yX6_isWord cX6_isWord 5 (some .boolean)) ({ frames := 4, cells := 0, slots := 0, locals := 101 }) (xPs D T kK kV [.ref (a 0), .ref (kK 29)] sz (pre_X6_isWord_19 T a ex fi fl vi vl)) (va_Qi (fun r u => r = u) (xC D (va_A (pre_X6_isWord_19 T a ex fi fl vi vl) sz) (fun fj fm vj vm => [((a 0), .inr (6, [.ref (ex 0), .ref (ex 1), .int (vi 0), .int (vi 1), .int (vi 2), .int (vi 3), .int (vi 4), .int (vi 5), .long (vl 0), .int (vi 6), .int (vi 7), .int (vi 8), .int (vi 9), .int (vi 10)]))]) (fun (r : Int32) (fj : Nat → Nat → Int32) (fm : Nat → Nat → Int64) (vj : Nat → Int32) (vm : Nat → Int64) => ((r = 1 ∧ (True)) ∨ (r = 0 ∧ (True))) ∧ R_X6_isWord_19 fi fl vi vl r fj fm vj vm ∧ True)) (va_A (pre_X6_isWord_19 T a ex fi fl vi vl) sz)) 0 0 (va_A (pre_X6_isWord_19 T a ex fi fl vi vl) sz) := by
  refine xofW (cc := cX6_isWord) (maxL := 5) (ret := (some .boolean)) (by decide) rfl ?_
  intro p e s m args below meth c s₁ R Q hR hQ B hml hv
  obtain ⟨rfl, hsz, hP, hK, hD0, hT⟩ := hv
  have hx := B.exec
  have hb := B.bytes
  have hr := B.returns
  have hts := atoms_spec (ws := xw yX6_isWord cX6_isWord 5 (some .boolean)) B.pre
  have htg : ∀ w ∈ xg, w.before _ s = true := fun w h => hts w (List.mem_cons_of_mem _ h)
  have hown : s.vm.findClass RX6 = some m.cls := findClass_of_methodNamed B.named
  have hlocks := B.notSynchronized
  subst hsz
  have hD := hD0.self (sz := s.heap.size)
  generalize hAe : va_A (pre_X6_isWord_19 T a ex fi fl vi vl) s.heap.size = A at hD hQ hT
  have hA : ∀ q : Nat, s.heap.size ≤ q → A q := fun q h => by rw [← hAe]; exact Or.inr h
  have hS : va_S A s.heap s.heap [] := va_S.rf
  replace hP : va_P D vwCl [((a 0), .inr (6, [.ref (ex 0), .ref (ex 1), .int (vi 0), .int (vi 1), .int (vi 2), .int (vi 3), .int (vi 4), .int (vi 5), .long (vl 0), .int (vi 6), .int (vi 7), .int (vi 8), .int (vi 9), .int (vi 10)]))] s.heap := hP
  replace hD : va_D A [((a 0), .inr (6, [.ref (ex 0), .ref (ex 1), .int (vi 0), .int (vi 1), .int (vi 2), .int (vi 3), .int (vi 4), .int (vi 5), .long (vl 0), .int (vi 6), .int (vi 7), .int (vi 8), .int (vi 9), .int (vi 10)]))] := hD
  have hl := lv_entry ([.ref (a 0), .ref (kK 29)]) (n := 5) (Nat.le_of_ble_eq_true rfl)
  rw [lg_entry_eq]
  generalize (lg_sl ([.ref (a 0), .ref (kK 29)]) ++ List.replicate (5 - (lg_sl ([.ref (a 0), .ref (kK 29)])).length) Slot.unset).toArray = ls at hl ⊢
  replace hl : lv_has ls 5 [(0, .ref (a 0)), (1, .ref (kK 29))] := hl
  refine lv_lconst (v := 0) hx hb dX6_isWord_0 (by decide) ?_
  refine lv_lstore_n (lv' := [(2, .long 0), (0, .ref (a 0)), (1, .ref (kK 29))]) hx hb dX6_isWord_1 rfl hl (by decide) rfl (fun ls hl => ?_)
  refine lv_iconst (v := 0) hx hb dX6_isWord_2 (by decide) ?_
  refine lv_istore (lv' := [(4, .int 0), (2, .long 0), (0, .ref (a 0)), (1, .ref (kK 29))]) hx hb dX6_isWord_3 hl (by decide) rfl (fun ls hl => ?_)
  have lp : ∀ (kn : Nat) (w4 : Int32) (w2 : Int64) (H : Heap) (locs : List Loc) (ls : Array Slot), (0 ≤ w4.toInt ∧ w4.toInt ≤ 3) → (w2 = pkw (sBy.getD 29 []) (w4.toInt).toNat) → (2147483648 - w4.toInt).toNat = kn → va_P D vwCl [((a 0), .inr (6, [.ref (ex 0), .ref (ex 1), .int (vi 0), .int (vi 1), .int (vi 2), .int (vi 3), .int (vi 4), .int (vi 5), .long (vl 0), .int (vi 6), .int (vi 7), .int (vi 8), .int (vi 9), .int (vi 10)]))] H → va_D A [((a 0), .inr (6, [.ref (ex 0), .ref (ex 1), .int (vi 0), .int (vi 1), .int (vi 2), .int (vi 3), .int (vi 4), .int (vi 5), .long (vl 0), .int (vi 6), .int (vi 7), .int (vi 8), .int (vi 9), .int (vi 10)]))] → va_S A s.heap H locs → lv_has ls 5 [(4, .int w4), (2, .long w2), (0, .ref (a 0)), (1, .ref (kK 29))] → W p l e R s m ([.ref (a 0), .ref (kK 29)] : List Value).toArray below meth c H locs 0 0 Q (F0 m 5 ls []) := by
    intro kn
    induction kn using Nat.strongRecOn with
    | _ kn ih =>
      intro w4 w2 H locs ls hi hpk9 hm hP hD hS hl
      refine lv_iload hx hb dX6_isWord_5 (lv_at hl 0 rfl) ?_
      refine lv_aload_n hx hb dX6_isWord_7 rfl (lv_at hl 3 rfl) ?_
      obtain ⟨hC9, hPc, hDc, hFc⟩ := xcut (wc := (pre_J0_length_8abf5_19 T (xa []) (xa []) (xf []) (xh []) (xv []) (xl []))) hP hD hS hA [] (by decide) rfl
      refine va_calli (va_runV (As := []) (rest := [.int w4]) ⟨hx, hb, hml, hown, htg⟩ (c_J0_length_8abf5_19 l D T (xa []) (xa []) (xf []) (xh []) (xv []) (xl []) kK kV H.size) ⟨callB_of 0 htg (xg_ok kw_47) rfl rfl rfl (htg _ kw_3) (htg _ kw_44) (by decide +kernel) ⟨by rw [hR]; exact Nat.le_of_ble_eq_true rfl, by rw [hR]; exact Nat.le_of_ble_eq_true rfl⟩, htg _ kw_45, htg _ kw_46⟩ (xpreVs hK hPc hDc hT hFc hS (xT.recv hT 29 (by decide) hS)) rfl rfl hl.1 rfl (lv_room (Nat.le_of_ble_eq_true rfl)) dX6_isWord_8 ⟨by rw [hR]; exact Nat.le_of_ble_eq_true rfl, by rw [hR]; exact Nat.le_of_ble_eq_true rfl⟩) hS (fun q _ h => hFc q h) hFc (fun r9 u9 t H1 locs ht hvm hw hB hz1 hk1 hS => ?_)
      subst hw
      obtain ⟨fik, flk, vik, vlk, hP1, hD1, hG⟩ := hB
      rw [ht] at hP1
      obtain ⟨hP, hD⟩ := va_join (wr := [((a 0), .inr (6, [.ref (ex 0), .ref (ex 1), .int (vi 0), .int (vi 1), .int (vi 2), .int (vi 3), .int (vi 4), .int (vi 5), .long (vl 0), .int (vi 6), .int (vi 7), .int (vi 8), .int (vi 9), .int (vi 10)]))]) (w1 := []) hP hD [] [0] hC9 rfl (by decide) (by decide) hk1 hFc hP1 hD1
      obtain ⟨rk, er9⟩ : ∃ z, z = r9 := ⟨_, rfl⟩
      subst er9
      clear hPc hDc hFc hP1 hD1 hk1 hz1 hvm ht hC9
      generalize H1 = H at hP hS ⊢
      obtain ⟨hP, hD⟩ := (show xPD D A [((a 0), .inr (6, [.ref (ex 0), .ref (ex 1), .int (vi 0), .int (vi 1), .int (vi 2), .int (vi 3), .int (vi 4), .int (vi 5), .long (vl 0), .int (vi 6), .int (vi 7), .int (vi 8), .int (vi 9), .int (vi 10)]))] H from ⟨hP, hD⟩)
      obtain ⟨gk_0, -⟩ := hG
      replace gk_0 : rk = 3 := gk_0
      refine xz_i 3 gk_0 ?_
      refine lv_icmp_ge (tgt := 33) hx hb dX6_isWord_11 (by decide) (fun c11 => ?_) (fun c11 => ?_)
      · have c11 := xge (k := 3) (by decide) c11
        refine lv_aload_n hx hb dX6_isWord_33 rfl (lv_at hl 2 rfl) ?_
        refine va_get (D := D) (ci := 6) (v := .int (vi 4)) (C := RX6) (T := TX6) (N := 14) hx hb htg inX6 hown hK.1 hP 0 rfl rfl 6 (by decide) (htg _ kw_104) (fun _ h9 => h9) rfl dX6_isWord_34 ?_
        refine lv_iconst (v := 1) hx hb dX6_isWord_37 (by decide) ?_
        refine lv_icmp_ne (tgt := 54) hx hb dX6_isWord_38 (by decide) (fun c38 => ?_) (fun c38 => ?_)
        · have c38 := xne (k := 1) (by decide) c38
          refine lv_iconst (v := 0) hx hb dX6_isWord_54 (by decide) ?_
          have hP9 := hP.sub (ws' := [((a 0), .inr (6, [.ref (ex 0), .ref (ex 1), .int (vi 0), .int (vi 1), .int (vi 2), .int (vi 3), .int (vi 4), .int (vi 5), .long (vl 0), .int (vi 6), .int (vi 7), .int (vi 8), .int (vi 9), .int (vi 10)]))]) [0] rfl
          have hD9 := hD.sub (ws' := [((a 0), .inr (6, [.ref (ex 0), .ref (ex 1), .int (vi 0), .int (vi 1), .int (vi 2), .int (vi 3), .int (vi 4), .int (vi 5), .long (vl 0), .int (vi 6), .int (vi 7), .int (vi 8), .int (vi 9), .int (vi 10)]))]) [0] (by decide +kernel) rfl
          rw [hQ]
          exact W.zret (v := 0) hx hb hr rfl (fun t ht hW => ⟨⟨0, 0, rfl, rfl, xf [], xh [], xv [], xl [], by rw [ht]; exact hP9, hD9, ⟨(Or.inr ⟨rfl, by show True; first | trivial | omega | assumption⟩), (by unfold R_X6_isWord_19; exact (fun Q9 k9_0 k9_1 k9_2 => k9_0 hp0 hp1 hp2 hp3 hp4 w4 w2 hi hpk9 fik flk vik vlk rk gk_0 c11 c38 rfl)), trivial⟩⟩, hS.F ht⟩) hS.2.2 dX6_isWord_55
        · have c38 := xeq (k := 1) (by decide) c38
          refine lv_lload_n hx hb dX6_isWord_41 rfl (lv_at hl 1 rfl) ?_
          refine lv_aload_n hx hb dX6_isWord_42 rfl (lv_at hl 2 rfl) ?_
          refine va_get (D := D) (ci := 6) (v := .long (vl 0)) (C := RX6) (T := TX6) (N := 14) hx hb htg inX6 hown hK.1 hP 0 rfl rfl 8 (by decide) (htg _ kw_108) (fun _ h9 => h9) rfl dX6_isWord_43 ?_
          refine W.lcmp hx hb dX6_isWord_46 ?_
          refine lv_topi (fun z46 ez46 => ?_)
          refine lv_if_ne (tgt := 54) hx hb dX6_isWord_47 (by decide) (fun c47 => ?_) (fun c47 => ?_)
          · have c47 := xne (k := 0) (by decide) c47
            refine lv_iconst (v := 0) hx hb dX6_isWord_54 (by decide) ?_
            have hP9 := hP.sub (ws' := [((a 0), .inr (6, [.ref (ex 0), .ref (ex 1), .int (vi 0), .int (vi 1), .int (vi 2), .int (vi 3), .int (vi 4), .int (vi 5), .long (vl 0), .int (vi 6), .int (vi 7), .int (vi 8), .int (vi 9), .int (vi 10)]))]) [0] rfl
            have hD9 := hD.sub (ws' := [((a 0), .inr (6, [.ref (ex 0), .ref (ex 1), .int (vi 0), .int (vi 1), .int (vi 2), .int (vi 3), .int (vi 4), .int (vi 5), .long (vl 0), .int (vi 6), .int (vi 7), .int (vi 8), .int (vi 9), .int (vi 10)]))]) [0] (by decide +kernel) rfl
            rw [hQ]
            exact W.zret (v := 0) hx hb hr rfl (fun t ht hW => ⟨⟨0, 0, rfl, rfl, xf [], xh [], xv [], xl [], by rw [ht]; exact hP9, hD9, ⟨(Or.inr ⟨rfl, by show True; first | trivial | omega | assumption⟩), (by unfold R_X6_isWord_19; exact (fun Q9 k9_0 k9_1 k9_2 => k9_1 hp0 hp1 hp2 hp3 hp4 w4 w2 hi hpk9 fik flk vik vlk rk gk_0 c11 c38 z46 ez46 c47 rfl)), trivial⟩⟩, hS.F ht⟩) hS.2.2 dX6_isWord_55
          · have c47 := xeq (k := 0) (by decide) c47
            refine lv_iconst (v := 1) hx hb dX6_isWord_50 (by decide) ?_
            refine lv_goto (tgt := 55) hx hb dX6_isWord_51 (by decide) ?_
            have hP9 := hP.sub (ws' := [((a 0), .inr (6, [.ref (ex 0), .ref (ex 1), .int (vi 0), .int (vi 1), .int (vi 2), .int (vi 3), .int (vi 4), .int (vi 5), .long (vl 0), .int (vi 6), .int (vi 7), .int (vi 8), .int (vi 9), .int (vi 10)]))]) [0] rfl
            have hD9 := hD.sub (ws' := [((a 0), .inr (6, [.ref (ex 0), .ref (ex 1), .int (vi 0), .int (vi 1), .int (vi 2), .int (vi 3), .int (vi 4), .int (vi 5), .long (vl 0), .int (vi 6), .int (vi 7), .int (vi 8), .int (vi 9), .int (vi 10)]))]) [0] (by decide +kernel) rfl
            rw [hQ]
            exact W.zret (v := 1) hx hb hr rfl (fun t ht hW => ⟨⟨1, 1, rfl, rfl, xf [], xh [], xv [], xl [], by rw [ht]; exact hP9, hD9, ⟨(Or.inl ⟨rfl, by show True; first | trivial | omega | assumption⟩), (by unfold R_X6_isWord_19; exact (fun Q9 k9_0 k9_1 k9_2 => k9_2 hp0 hp1 hp2 hp3 hp4 w4 w2 hi hpk9 fik flk vik vlk rk gk_0 c11 c38 z46 ez46 c47 rfl)), trivial⟩⟩, hS.F ht⟩) hS.2.2 dX6_isWord_55
      · have c11 := xnge (k := 3) (by decide) c11
        refine lv_lload_n hx hb dX6_isWord_14 rfl (lv_at hl 1 rfl) ?_
        refine lv_bipush (v := 8) hx hb dX6_isWord_15 (by decide) ?_
        refine lv_lshl hx hb dX6_isWord_17 rfl ?_
        refine lv_topl (fun z17 ez17 => ?_)
        refine lv_aload_n hx hb dX6_isWord_18 rfl (lv_at hl 3 rfl) ?_
        refine lv_iload hx hb dX6_isWord_19 (lv_at hl 0 rfl) ?_
        obtain ⟨hC9, hPc, hDc, hFc⟩ := xcut (wc := (pre_J0_charAt_5068e_19 T (xa []) (xa []) (xf []) (xh []) (xv [w4]) (xl []))) hP hD hS hA [] (by decide) rfl
        refine va_calli (va_runV (As := [.int w4]) (rest := [.long z17]) ⟨hx, hb, hml, hown, htg⟩ (c_J0_charAt_5068e_19 l D T (xa []) (xa []) (xf []) (xh []) (xv [w4]) (xl []) kK kV H.size (by show 0 ≤ w4.toInt ∧ w4.toInt ≤ 2; omega)) ⟨callB_of 1 htg (xg_ok kw_57) rfl rfl rfl (htg _ kw_3) (htg _ kw_54) (by decide +kernel) ⟨by rw [hR]; exact Nat.le_of_ble_eq_true rfl, by rw [hR]; exact Nat.le_of_ble_eq_true rfl⟩, htg _ kw_55, htg _ kw_56⟩ (xpreVs hK hPc hDc hT hFc hS (xT.recv hT 29 (by decide) hS)) rfl rfl hl.1 rfl (lv_room (Nat.le_of_ble_eq_true rfl)) dX6_isWord_21 ⟨by rw [hR]; exact Nat.le_of_ble_eq_true rfl, by rw [hR]; exact Nat.le_of_ble_eq_true rfl⟩) hS (fun q _ h => hFc q h) hFc (fun r9 u9 t H1 locs ht hvm hw hB hz1 hk1 hS => ?_)
        subst hw
        obtain ⟨fik_1, flk_1, vik_1, vlk_1, hP1, hD1, hG⟩ := hB
        rw [ht] at hP1
        obtain ⟨hP, hD⟩ := va_join (wr := [((a 0), .inr (6, [.ref (ex 0), .ref (ex 1), .int (vi 0), .int (vi 1), .int (vi 2), .int (vi 3), .int (vi 4), .int (vi 5), .long (vl 0), .int (vi 6), .int (vi 7), .int (vi 8), .int (vi 9), .int (vi 10)]))]) (w1 := []) hP hD [] [0] hC9 rfl (by decide) (by decide) hk1 hFc hP1 hD1
        obtain ⟨rk_1, er9⟩ : ∃ z, z = r9 := ⟨_, rfl⟩
        subst er9
        clear hPc hDc hFc hP1 hD1 hk1 hz1 hvm ht hC9
        generalize H1 = H at hP hS ⊢
        obtain ⟨hP, hD⟩ := (show xPD D A [((a 0), .inr (6, [.ref (ex 0), .ref (ex 1), .int (vi 0), .int (vi 1), .int (vi 2), .int (vi 3), .int (vi 4), .int (vi 5), .long (vl 0), .int (vi 6), .int (vi 7), .int (vi 8), .int (vi 9), .int (vi 10)]))] H from ⟨hP, hD⟩)
        obtain ⟨gk_1_0, gk_1_1, -⟩ := hG
        replace gk_1_1 : rk_1 = (sBy.getD 29 []).getD (w4.toInt).toNat 0 := (P_J0_charAt_5068e_19 gk_1_1 : _)
        replace gk_1_0 : narrow .char (.int rk_1) = .int rk_1 := gk_1_0
        refine lv_i2l hx hb dX6_isWord_24 rfl ?_
        refine lv_topl (fun z24 ez24 => ?_)
        refine lv_lor hx hb dX6_isWord_25 ?_
        refine lv_topl (fun z25 ez25 => ?_)
        refine lv_lstore_n (lv' := [(2, .long z25), (4, .int w4), (0, .ref (a 0)), (1, .ref (kK 29))]) hx hb dX6_isWord_26 rfl hl (by decide) rfl (fun ls hl => ?_)
        obtain ⟨i27, ei27⟩ : ∃ z : Int32, w4 + Int32.ofInt 1 = z := ⟨_, rfl⟩
        have ti27 : i27.toInt = w4.toInt + 1 := by rw [← ei27]; have h79 := xrng w4; exact xadd rfl (by decide) (by omega) (by omega)
        refine lv_iinc (v := i27) (lv' := [(4, .int i27), (2, .long z25), (0, .ref (a 0)), (1, .ref (kK 29))]) hx hb dX6_isWord_27 hl (k := 1) rfl ei27 (by decide) rfl (fun ls hl => ?_)
        refine lv_goto (tgt := 5) hx hb dX6_isWord_30 (by decide) ?_
        exact ih _ (by omega) i27 z25 _ _ _ (by show 0 ≤ i27.toInt ∧ i27.toInt ≤ 3; omega) (by show z25 = pkw (sBy.getD 29 []) (i27.toInt).toNat; rw [ez25, ez17, ez24]; exact pkw_s hpk9 (by omega) (by omega) (by assumption)) rfl (hP.sub [0] rfl) (hD.sub [0] (by decide) rfl) hS (lv_sub hl [0, 1, 2, 3] rfl)
  exact lp _ (0 : Int32) (0 : Int64) _ _ _ (show 0 ≤ (0 : Int32).toInt ∧ (0 : Int32).toInt ≤ 3 by decide) (by show (0 : Int64) = pkw (sBy.getD 29 []) ((0 : Int32).toInt).toNat; have k9_0 : (0 : Int32).toInt = 0 := (by decide); rw [show (0 : Int32).toInt.toNat = 0 by decide]; rfl) rfl hP hD hS hl
