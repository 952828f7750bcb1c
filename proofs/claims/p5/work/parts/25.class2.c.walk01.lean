abbrev pre_J0_coder_7d493_29 (T : Nat → ClassId) (a ex : Nat → Nat) (fi : Nat → Nat → Int32) (fl : Nat → Nat → Int64) (vi : Nat → Int32) (vl : Nat → Int64) : va_W := []
set_option maxHeartbeats 8000000 in
set_option maxRecDepth 100000 in
theorem c_J0_coder_7d493_29 (l : Launch) (D : va_G) (T : Nat → ClassId) (a ex : Nat → Nat) (fi : Nat → Nat → Int32) (fl : Nat → Nat → Int64) (vi : Nat → Int32) (vl : Nat → Int64) (kK kV : Nat → Nat) (sz : Nat) : Met l yJ0_coder_7d493 (xw yJ0_coder_7d493 cJ0_coder_7d493 1 (some .byte)) ({ frames := 0, cells := 0, slots := 0, locals := 0 }) (xPs D T kK kV [.ref (kK 0)] sz (pre_J0_coder_7d493_29 T a ex fi fl vi vl)) (va_Qi (fun r u => r = u) (xC D (va_A (pre_J0_coder_7d493_29 T a ex fi fl vi vl) sz) (fun fj fm vj vm => []) (fun (r : Int32) (fj : Nat → Nat → Int32) (fm : Nat → Nat → Int64) (vj : Nat → Int32) (vm : Nat → Int64) => r = 0 ∧ True)) (va_A (pre_J0_coder_7d493_29 T a ex fi fl vi vl) sz)) 0 0 (va_A (pre_J0_coder_7d493_29 T a ex fi fl vi vl) sz) := by
  refine xofW (cc := cJ0_coder_7d493) (maxL := 1) (ret := (some .byte)) (by decide) rfl ?_
  intro p e s m args below meth c s₁ R Q hR hQ B hml hv
  obtain ⟨rfl, hsz, hP, hK, hD0, hT⟩ := hv
  have hx := B.exec
  have hb := B.bytes
  have hr := B.returns
  have hts := atoms_spec (ws := xw yJ0_coder_7d493 cJ0_coder_7d493 1 (some .byte)) B.pre
  have htg : ∀ w ∈ xg, w.before _ s = true := fun w h => hts w (List.mem_cons_of_mem _ h)
  have hown : s.vm.findClass RJ0 = some m.cls := findClass_of_methodNamed B.named
  have hlocks := B.notSynchronized
  subst hsz
  have hD := hD0.self (sz := s.heap.size)
  generalize hAe : va_A (pre_J0_coder_7d493_29 T a ex fi fl vi vl) s.heap.size = A at hD hQ hT
  have hA : ∀ q : Nat, s.heap.size ≤ q → A q := fun q h => by rw [← hAe]; exact Or.inr h
  have hS : va_S A s.heap s.heap [] := va_S.rf
  replace hP : va_P D vwCl [] s.heap := hP
  replace hD : va_D A [] := hD
  have hl := lv_entry ([.ref (kK 0)]) (n := 1) (Nat.le_of_ble_eq_true rfl)
  rw [lg_entry_eq]
  generalize (lg_sl ([.ref (kK 0)]) ++ List.replicate (1 - (lg_sl ([.ref (kK 0)])).length) Slot.unset).toArray = ls at hl ⊢
  replace hl : lv_has ls 1 [(0, .ref (kK 0))] := hl
  refine va_gets hx hb hT.2.2.1 hS hown (htg _ kw_52) (fun _ h9 => h9) dJ0_coder_7d493_0 ?_
  refine lv_if_eq (tgt := 13) hx hb dJ0_coder_7d493_3 (by decide) (fun c => absurd c (by decide)) (fun _ => ?_)
  refine lv_aload_n hx hb dJ0_coder_7d493_6 rfl (lv_at hl 0 rfl) ?_
  refine vk_getf hx hb (hT.2.1 0 (by decide)).2.1 hS hown (htg _ kw_2031) (fun _ h9 => h9) dJ0_coder_7d493_7 ?_
  refine lv_goto (tgt := 14) hx hb dJ0_coder_7d493_10 (by decide) ?_
  have hP9 := hP.sub (ws' := []) [] rfl
  have hD9 := hD.sub (ws' := []) [] (by decide +kernel) rfl
  rw [hQ]
  exact W.zret (v := 0) hx hb hr rfl (fun t ht hW => ⟨⟨0, 0, rfl, rfl, xf [], xh [], xv [], xl [], by rw [ht]; exact hP9, hD9, ⟨rfl, trivial⟩⟩, hS.F ht⟩) hS.2.2 dJ0_coder_7d493_14
abbrev pre_J0_length_8abf5_29 (T : Nat → ClassId) (a ex : Nat → Nat) (fi : Nat → Nat → Int32) (fl : Nat → Nat → Int64) (vi : Nat → Int32) (vl : Nat → Int64) : va_W := []
set_option maxHeartbeats 8000000 in
set_option maxRecDepth 100000 in
theorem c_J0_length_8abf5_29 (l : Launch) (D : va_G) (T : Nat → ClassId) (a ex : Nat → Nat) (fi : Nat → Nat → Int32) (fl : Nat → Nat → Int64) (vi : Nat → Int32) (vl : Nat → Int64) (kK kV : Nat → Nat) (sz : Nat) : Met l yJ0_length_8abf5 (xw yJ0_length_8abf5 cJ0_length_8abf5 1 (some .int)) ({ frames := 1, cells := 0, slots := 0, locals := 24 }) (xPs D T kK kV [.ref (kK 0)] sz (pre_J0_length_8abf5_29 T a ex fi fl vi vl)) (va_Qi (fun r u => r = u) (xC D (va_A (pre_J0_length_8abf5_29 T a ex fi fl vi vl) sz) (fun fj fm vj vm => []) (fun (r : Int32) (fj : Nat → Nat → Int32) (fm : Nat → Nat → Int64) (vj : Nat → Int32) (vm : Nat → Int64) => r = 43 ∧ True)) (va_A (pre_J0_length_8abf5_29 T a ex fi fl vi vl) sz)) 0 0 (va_A (pre_J0_length_8abf5_29 T a ex fi fl vi vl) sz) := by
  refine xofW (cc := cJ0_length_8abf5) (maxL := 1) (ret := (some .int)) (by decide) rfl ?_
  intro p e s m args below meth c s₁ R Q hR hQ B hml hv
  obtain ⟨rfl, hsz, hP, hK, hD0, hT⟩ := hv
  have hx := B.exec
  have hb := B.bytes
  have hr := B.returns
  have hts := atoms_spec (ws := xw yJ0_length_8abf5 cJ0_length_8abf5 1 (some .int)) B.pre
  have htg : ∀ w ∈ xg, w.before _ s = true := fun w h => hts w (List.mem_cons_of_mem _ h)
  have hown : s.vm.findClass RJ0 = some m.cls := findClass_of_methodNamed B.named
  have hlocks := B.notSynchronized
  subst hsz
  have hD := hD0.self (sz := s.heap.size)
  generalize hAe : va_A (pre_J0_length_8abf5_29 T a ex fi fl vi vl) s.heap.size = A at hD hQ hT
  have hA : ∀ q : Nat, s.heap.size ≤ q → A q := fun q h => by rw [← hAe]; exact Or.inr h
  have hS : va_S A s.heap s.heap [] := va_S.rf
  replace hP : va_P D vwCl [] s.heap := hP
  replace hD : va_D A [] := hD
  have hl := lv_entry ([.ref (kK 0)]) (n := 1) (Nat.le_of_ble_eq_true rfl)
  rw [lg_entry_eq]
  generalize (lg_sl ([.ref (kK 0)]) ++ List.replicate (1 - (lg_sl ([.ref (kK 0)])).length) Slot.unset).toArray = ls at hl ⊢
  replace hl : lv_has ls 1 [(0, .ref (kK 0))] := hl
  refine lv_aload_n hx hb dJ0_length_8abf5_0 rfl (lv_at hl 0 rfl) ?_
  refine vk_getf hx hb (hT.2.1 0 (by decide)).2.2.1 hS hown (htg _ kw_2030) (fun _ h9 => h9) dJ0_length_8abf5_1 ?_
  refine va_tlen (v := 43) hx hb (hT.2.1 0 (by decide)).2.2.2 hS (by decide) dJ0_length_8abf5_4 ?_
  refine lv_aload_n hx hb dJ0_length_8abf5_5 rfl (lv_at hl 0 rfl) ?_
  obtain ⟨hC9, hPc, hDc, hFc⟩ := xcut (wc := (pre_J0_coder_7d493_29 T (xa []) (xa []) (xf []) (xh []) (xv []) (xl []))) hP hD hS hA [] (by decide) rfl
  refine va_calli (va_runV (As := []) (rest := [.int 43]) ⟨hx, hb, hml, hown, htg⟩ (c_J0_coder_7d493_29 l D T (xa []) (xa []) (xf []) (xh []) (xv []) (xl []) kK kV s.heap.size) ⟨callB_of 0 htg (xg_ok kw_51) rfl rfl rfl (htg _ kw_3) (htg _ kw_48) (by decide +kernel) ⟨by rw [hR]; exact Nat.le_of_ble_eq_true rfl, by rw [hR]; exact Nat.le_of_ble_eq_true rfl⟩, htg _ kw_49, htg _ kw_50⟩ (xpreVs hK hPc hDc hT hFc hS (xT.recv hT 0 (by decide) hS)) rfl rfl hl.1 rfl (lv_room (Nat.le_of_ble_eq_true rfl)) dJ0_length_8abf5_6 ⟨by rw [hR]; exact Nat.le_of_ble_eq_true rfl, by rw [hR]; exact Nat.le_of_ble_eq_true rfl⟩) hS (fun q _ h => hFc q h) hFc (fun r9 u9 t H1 locs ht hvm hw hB hz1 hk1 hS => ?_)
  subst hw
  obtain ⟨fik, flk, vik, vlk, hP1, hD1, hG⟩ := hB
  rw [ht] at hP1
  obtain ⟨hP, hD⟩ := va_join (wr := []) (w1 := []) hP hD [] [] hC9 rfl (by decide) (by decide) hk1 hFc hP1 hD1
  obtain ⟨rk, er9⟩ : ∃ z, z = r9 := ⟨_, rfl⟩
  subst er9
  clear hPc hDc hFc hP1 hD1 hk1 hz1 hvm ht hC9
  generalize H1 = H at hP hS ⊢
  obtain ⟨hP, hD⟩ := (show xPD D A [] H from ⟨hP, hD⟩)
  obtain ⟨gk_0, -⟩ := hG
  replace gk_0 : rk = 0 := gk_0
  refine xz_i 0 gk_0 ?_
  refine lv_ishr hx hb dJ0_length_8abf5_9 ?_
  refine xz_i 43 (by decide) ?_
  have hP9 := hP.sub (ws' := []) [] rfl
  have hD9 := hD.sub (ws' := []) [] (by decide +kernel) rfl
  rw [hQ]
  exact W.iret (v := 43) hx hb hr (fun t ht hW => ⟨⟨43, 43, rfl, rfl, xf [], xh [], xv [], xl [], by rw [ht]; exact hP9, hD9, ⟨rfl, trivial⟩⟩, hS.F ht⟩) hS.2.2 dJ0_length_8abf5_10
abbrev pre_J0_isLatin1_aae02_29 (T : Nat → ClassId) (a ex : Nat → Nat) (fi : Nat → Nat → Int32) (fl : Nat → Nat → Int64) (vi : Nat → Int32) (vl : Nat → Int64) : va_W := []
set_option maxHeartbeats 8000000 in
set_option maxRecDepth 100000 in
theorem c_J0_isLatin1_aae02_29 (l : Launch) (D : va_G) (T : Nat → ClassId) (a ex : Nat → Nat) (fi : Nat → Nat → Int32) (fl : Nat → Nat → Int64) (vi : Nat → Int32) (vl : Nat → Int64) (kK kV : Nat → Nat) (sz : Nat) : Met l yJ0_isLatin1_aae02 (xw yJ0_isLatin1_aae02 cJ0_isLatin1_aae02 1 (some .boolean)) ({ frames := 0, cells := 0, slots := 0, locals := 0 }) (xPs D T kK kV [.ref (kK 0)] sz (pre_J0_isLatin1_aae02_29 T a ex fi fl vi vl)) (va_Qi (fun r u => r = u) (xC D (va_A (pre_J0_isLatin1_aae02_29 T a ex fi fl vi vl) sz) (fun fj fm vj vm => []) (fun (r : Int32) (fj : Nat → Nat → Int32) (fm : Nat → Nat → Int64) (vj : Nat → Int32) (vm : Nat → Int64) => r = 1 ∧ True)) (va_A (pre_J0_isLatin1_aae02_29 T a ex fi fl vi vl) sz)) 0 0 (va_A (pre_J0_isLatin1_aae02_29 T a ex fi fl vi vl) sz) := by
  refine xofW (cc := cJ0_isLatin1_aae02) (maxL := 1) (ret := (some .boolean)) (by decide) rfl ?_
  intro p e s m args below meth c s₁ R Q hR hQ B hml hv
  obtain ⟨rfl, hsz, hP, hK, hD0, hT⟩ := hv
  have hx := B.exec
  have hb := B.bytes
  have hr := B.returns
  have hts := atoms_spec (ws := xw yJ0_isLatin1_aae02 cJ0_isLatin1_aae02 1 (some .boolean)) B.pre
  have htg : ∀ w ∈ xg, w.before _ s = true := fun w h => hts w (List.mem_cons_of_mem _ h)
  have hown : s.vm.findClass RJ0 = some m.cls := findClass_of_methodNamed B.named
  have hlocks := B.notSynchronized
  subst hsz
  have hD := hD0.self (sz := s.heap.size)
  generalize hAe : va_A (pre_J0_isLatin1_aae02_29 T a ex fi fl vi vl) s.heap.size = A at hD hQ hT
  have hA : ∀ q : Nat, s.heap.size ≤ q → A q := fun q h => by rw [← hAe]; exact Or.inr h
  have hS : va_S A s.heap s.heap [] := va_S.rf
  replace hP : va_P D vwCl [] s.heap := hP
  replace hD : va_D A [] := hD
  have hl := lv_entry ([.ref (kK 0)]) (n := 1) (Nat.le_of_ble_eq_true rfl)
  rw [lg_entry_eq]
  generalize (lg_sl ([.ref (kK 0)]) ++ List.replicate (1 - (lg_sl ([.ref (kK 0)])).length) Slot.unset).toArray = ls at hl ⊢
  replace hl : lv_has ls 1 [(0, .ref (kK 0))] := hl
  refine va_gets hx hb hT.2.2.1 hS hown (htg _ kw_52) (fun _ h9 => h9) dJ0_isLatin1_aae02_0 ?_
  refine lv_if_eq (tgt := 17) hx hb dJ0_isLatin1_aae02_3 (by decide) (fun c => absurd c (by decide)) (fun _ => ?_)
  refine lv_aload_n hx hb dJ0_isLatin1_aae02_6 rfl (lv_at hl 0 rfl) ?_
  refine vk_getf hx hb (hT.2.1 0 (by decide)).2.1 hS hown (htg _ kw_2031) (fun _ h9 => h9) dJ0_isLatin1_aae02_7 ?_
  refine lv_if_ne (tgt := 17) hx hb dJ0_isLatin1_aae02_10 (by decide) (fun c => absurd (by decide) c) (fun _ => ?_)
  refine lv_iconst (v := 1) hx hb dJ0_isLatin1_aae02_13 (by decide) ?_
  refine lv_goto (tgt := 18) hx hb dJ0_isLatin1_aae02_14 (by decide) ?_
  have hP9 := hP.sub (ws' := []) [] rfl
  have hD9 := hD.sub (ws' := []) [] (by decide +kernel) rfl
  rw [hQ]
  exact W.zret (v := 1) hx hb hr rfl (fun t ht hW => ⟨⟨1, 1, rfl, rfl, xf [], xh [], xv [], xl [], by rw [ht]; exact hP9, hD9, ⟨rfl, trivial⟩⟩, hS.F ht⟩) hS.2.2 dJ0_isLatin1_aae02_18
abbrev pre_J3_checkIndex_8e157_11 (T : Nat → ClassId) (a ex : Nat → Nat) (fi : Nat → Nat → Int32) (fl : Nat → Nat → Int64) (vi : Nat → Int32) (vl : Nat → Int64) : va_W := []
set_option maxHeartbeats 8000000 in
set_option maxRecDepth 100000 in
theorem c_J3_checkIndex_8e157_11 (l : Launch) (D : va_G) (T : Nat → ClassId) (a ex : Nat → Nat) (fi : Nat → Nat → Int32) (fl : Nat → Nat → Int64) (vi : Nat → Int32) (vl : Nat → Int64) (sz : Nat) (hp0 : 0 ≤ (vi 0).toInt ∧ (vi 0).toInt ≤ 42) : Met l yJ3_checkIndex_8e157 (xw yJ3_checkIndex_8e157 cJ3_checkIndex_8e157 3 (some .int)) ({ frames := 0, cells := 0, slots := 0, locals := 0 }) (xP D T [.int (vi 0), .int 43, .null] sz (pre_J3_checkIndex_8e157_11 T a ex fi fl vi vl)) (va_Qi (fun r u => r = u) (xC D (va_A (pre_J3_checkIndex_8e157_11 T a ex fi fl vi vl) sz) (fun fj fm vj vm => []) (fun (r : Int32) (fj : Nat → Nat → Int32) (fm : Nat → Nat → Int64) (vj : Nat → Int32) (vm : Nat → Int64) => True)) (va_A (pre_J3_checkIndex_8e157_11 T a ex fi fl vi vl) sz)) 0 0 (va_A (pre_J3_checkIndex_8e157_11 T a ex fi fl vi vl) sz) := by
  refine xofW (cc := cJ3_checkIndex_8e157) (maxL := 3) (ret := (some .int)) (by decide) rfl ?_
  intro p e s m args below meth c s₁ R Q hR hQ B hml hv
  obtain ⟨rfl, hsz, hP, hK, hD0⟩ := hv
  have hx := B.exec
  have hb := B.bytes
  have hr := B.returns
  have hts := atoms_spec (ws := xw yJ3_checkIndex_8e157 cJ3_checkIndex_8e157 3 (some .int)) B.pre
  have htg : ∀ w ∈ xg, w.before _ s = true := fun w h => hts w (List.mem_cons_of_mem _ h)
  have hown : s.vm.findClass RJ3 = some m.cls := findClass_of_methodNamed B.named
  have hlocks := B.notSynchronized
  subst hsz
  have hD := hD0.self (sz := s.heap.size)
  generalize hAe : va_A (pre_J3_checkIndex_8e157_11 T a ex fi fl vi vl) s.heap.size = A at hD hQ
  have hA : ∀ q : Nat, s.heap.size ≤ q → A q := fun q h => by rw [← hAe]; exact Or.inr h
  have hS : va_S A s.heap s.heap [] := va_S.rf
  replace hP : va_P D vwCl [] s.heap := hP
  replace hD : va_D A [] := hD
  have hl := lv_entry ([.int (vi 0), .int 43, .null]) (n := 3) (Nat.le_of_ble_eq_true rfl)
  rw [lg_entry_eq]
  generalize (lg_sl ([.int (vi 0), .int 43, .null]) ++ List.replicate (3 - (lg_sl ([.int (vi 0), .int 43, .null])).length) Slot.unset).toArray = ls at hl ⊢
  replace hl : lv_has ls 3 [(0, .int (vi 0)), (1, .int 43), (2, .null)] := hl
  refine lv_iload_n hx hb dJ3_checkIndex_8e157_0 rfl (lv_at hl 0 rfl) ?_
  refine lv_if_lt (tgt := 9) hx hb dJ3_checkIndex_8e157_1 (by decide) (fun c => by exfalso; have h9 := xlt (k := 0) (by decide) c; have h7 := xrng (vi 0); omega) (fun _ => ?_)
  refine lv_iload_n hx hb dJ3_checkIndex_8e157_4 rfl (lv_at hl 0 rfl) ?_
  refine lv_iload_n hx hb dJ3_checkIndex_8e157_5 rfl (lv_at hl 1 rfl) ?_
  refine lv_icmp_lt (tgt := 16) hx hb dJ3_checkIndex_8e157_6 (by decide) (fun _ => ?_) (fun c => by exfalso; have h9 := xnlt (k := 43) (by decide) c; have h7 := xrng (vi 0); omega)
  refine lv_iload_n hx hb dJ3_checkIndex_8e157_16 rfl (lv_at hl 0 rfl) ?_
  have hP9 := hP.sub (ws' := []) [] rfl
  have hD9 := hD.sub (ws' := []) [] (by decide +kernel) rfl
  rw [hQ]
  exact W.iret (v := (vi 0)) hx hb hr (fun t ht hW => ⟨⟨(vi 0), (vi 0), rfl, rfl, xf [], xh [], xv [], xl [], by rw [ht]; exact hP9, hD9, trivial⟩, hS.F ht⟩) hS.2.2 dJ3_checkIndex_8e157_17
abbrev pre_J3_checkIndex_8e157_12 (T : Nat → ClassId) (a ex : Nat → Nat) (fi : Nat → Nat → Int32) (fl : Nat → Nat → Int64) (vi : Nat → Int32) (vl : Nat → Int64) : va_W := []
set_option maxHeartbeats 8000000 in
set_option maxRecDepth 100000 in
theorem c_J3_checkIndex_8e157_12 (l : Launch) (D : va_G) (T : Nat → ClassId) (a ex : Nat → Nat) (fi : Nat → Nat → Int32) (fl : Nat → Nat → Int64) (vi : Nat → Int32) (vl : Nat → Int64) (sz : Nat) (hp0 : 0 ≤ (vi 0).toInt ∧ (vi 0).toInt ≤ 42) : Met l yJ3_checkIndex_8e157 (xw yJ3_checkIndex_8e157 cJ3_checkIndex_8e157 3 (some .int)) ({ frames := 0, cells := 0, slots := 0, locals := 0 }) (xP D T [.int (vi 0), .int 43, .ref (ex 0)] sz (pre_J3_checkIndex_8e157_12 T a ex fi fl vi vl)) (va_Qi (fun r u => r = u) (xC D (va_A (pre_J3_checkIndex_8e157_12 T a ex fi fl vi vl) sz) (fun fj fm vj vm => []) (fun (r : Int32) (fj : Nat → Nat → Int32) (fm : Nat → Nat → Int64) (vj : Nat → Int32) (vm : Nat → Int64) => True)) (va_A (pre_J3_checkIndex_8e157_12 T a ex fi fl vi vl) sz)) 0 0 (va_A (pre_J3_checkIndex_8e157_12 T a ex fi fl vi vl) sz) := by
  refine xofW (cc := cJ3_checkIndex_8e157) (maxL := 3) (ret := (some .int)) (by decide) rfl ?_
  intro p e s m args below meth c s₁ R Q hR hQ B hml hv
  obtain ⟨rfl, hsz, hP, hK, hD0⟩ := hv
  have hx := B.exec
  have hb := B.bytes
  have hr := B.returns
  have hts := atoms_spec (ws := xw yJ3_checkIndex_8e157 cJ3_checkIndex_8e157 3 (some .int)) B.pre
  have htg : ∀ w ∈ xg, w.before _ s = true := fun w h => hts w (List.mem_cons_of_mem _ h)
  have hown : s.vm.findClass RJ3 = some m.cls := findClass_of_methodNamed B.named
  have hlocks := B.notSynchronized
  subst hsz
  have hD := hD0.self (sz := s.heap.size)
  generalize hAe : va_A (pre_J3_checkIndex_8e157_12 T a ex fi fl vi vl) s.heap.size = A at hD hQ
  have hA : ∀ q : Nat, s.heap.size ≤ q → A q := fun q h => by rw [← hAe]; exact Or.inr h
  have hS : va_S A s.heap s.heap [] := va_S.rf
  replace hP : va_P D vwCl [] s.heap := hP
  replace hD : va_D A [] := hD
  have hl := lv_entry ([.int (vi 0), .int 43, .ref (ex 0)]) (n := 3) (Nat.le_of_ble_eq_true rfl)
  rw [lg_entry_eq]
  generalize (lg_sl ([.int (vi 0), .int 43, .ref (ex 0)]) ++ List.replicate (3 - (lg_sl ([.int (vi 0), .int 43, .ref (ex 0)])).length) Slot.unset).toArray = ls at hl ⊢
  replace hl : lv_has ls 3 [(0, .int (vi 0)), (1, .int 43), (2, .ref (ex 0))] := hl
  refine lv_iload_n hx hb dJ3_checkIndex_8e157_0 rfl (lv_at hl 0 rfl) ?_
  refine lv_if_lt (tgt := 9) hx hb dJ3_checkIndex_8e157_1 (by decide) (fun c => by exfalso; have h9 := xlt (k := 0) (by decide) c; have h7 := xrng (vi 0); omega) (fun _ => ?_)
  refine lv_iload_n hx hb dJ3_checkIndex_8e157_4 rfl (lv_at hl 0 rfl) ?_
  refine lv_iload_n hx hb dJ3_checkIndex_8e157_5 rfl (lv_at hl 1 rfl) ?_
  refine lv_icmp_lt (tgt := 16) hx hb dJ3_checkIndex_8e157_6 (by decide) (fun _ => ?_) (fun c => by exfalso; have h9 := xnlt (k := 43) (by decide) c; have h7 := xrng (vi 0); omega)
  refine lv_iload_n hx hb dJ3_checkIndex_8e157_16 rfl (lv_at hl 0 rfl) ?_
  have hP9 := hP.sub (ws' := []) [] rfl
  have hD9 := hD.sub (ws' := []) [] (by decide +kernel) rfl
  rw [hQ]
  exact W.iret (v := (vi 0)) hx hb hr (fun t ht hW => ⟨⟨(vi 0), (vi 0), rfl, rfl, xf [], xh [], xv [], xl [], by rw [ht]; exact hP9, hD9, trivial⟩, hS.F ht⟩) hS.2.2 dJ3_checkIndex_8e157_17
abbrev pre_J0_checkIndex_df160_6 (T : Nat → ClassId) (a ex : Nat → Nat) (fi : Nat → Nat → Int32) (fl : Nat → Nat → Int64) (vi : Nat → Int32) (vl : Nat → Int64) : va_W := []
set_option maxHeartbeats 8000000 in
set_option maxRecDepth 100000 in
theorem c_J0_checkIndex_df160_6 (l : Launch) (D : va_G) (T : Nat → ClassId) (a ex : Nat → Nat) (fi : Nat → Nat → Int32) (fl : Nat → Nat → Int64) (vi : Nat → Int32) (vl : Nat → Int64) (kK kV : Nat → Nat) (sz : Nat) (hp0 : 0 ≤ (vi 0).toInt ∧ (vi 0).toInt ≤ 42) : Met l yJ0_checkIndex_df160 (xw yJ0_checkIndex_df160 cJ0_checkIndex_df160 2 none) ({ frames := 1, cells := 0, slots := 0, locals := 26 }) (xPs D T kK kV [.int (vi 0), .int 43] sz (pre_J0_checkIndex_df160_6 T a ex fi fl vi vl)) (va_Qv (fun _ : Int32 => True) (xC D (va_A (pre_J0_checkIndex_df160_6 T a ex fi fl vi vl) sz) (fun fj fm vj vm => []) (fun (r : Int32) (fj : Nat → Nat → Int32) (fm : Nat → Nat → Int64) (vj : Nat → Int32) (vm : Nat → Int64) => True)) (va_A (pre_J0_checkIndex_df160_6 T a ex fi fl vi vl) sz)) 0 0 (va_A (pre_J0_checkIndex_df160_6 T a ex fi fl vi vl) sz) := by
  refine xofW (cc := cJ0_checkIndex_df160) (maxL := 2) (ret := none) (by decide) rfl ?_
  intro p e s m args below meth c s₁ R Q hR hQ B hml hv
  obtain ⟨rfl, hsz, hP, hK, hD0, hT⟩ := hv
  have hx := B.exec
  have hb := B.bytes
  have hr := B.returns
  have hts := atoms_spec (ws := xw yJ0_checkIndex_df160 cJ0_checkIndex_df160 2 none) B.pre
  have htg : ∀ w ∈ xg, w.before _ s = true := fun w h => hts w (List.mem_cons_of_mem _ h)
  have hown : s.vm.findClass RJ0 = some m.cls := findClass_of_methodNamed B.named
  have hlocks := B.notSynchronized
  subst hsz
  have hD := hD0.self (sz := s.heap.size)
  generalize hAe : va_A (pre_J0_checkIndex_df160_6 T a ex fi fl vi vl) s.heap.size = A at hD hQ hT
  have hA : ∀ q : Nat, s.heap.size ≤ q → A q := fun q h => by rw [← hAe]; exact Or.inr h
  have hS : va_S A s.heap s.heap [] := va_S.rf
  replace hP : va_P D vwCl [] s.heap := hP
  replace hD : va_D A [] := hD
  have hl := lv_entry ([.int (vi 0), .int 43]) (n := 2) (Nat.le_of_ble_eq_true rfl)
  rw [lg_entry_eq]
  generalize (lg_sl ([.int (vi 0), .int 43]) ++ List.replicate (2 - (lg_sl ([.int (vi 0), .int 43])).length) Slot.unset).toArray = ls at hl ⊢
  replace hl : lv_has ls 2 [(0, .int (vi 0)), (1, .int 43)] := hl
  refine lv_iload_n hx hb dJ0_checkIndex_df160_0 rfl (lv_at hl 0 rfl) ?_
  refine lv_iload_n hx hb dJ0_checkIndex_df160_1 rfl (lv_at hl 1 rfl) ?_
  rcases hT.2.2.2 with hz9 | ⟨z9, hz9⟩
  · refine va_gets hx hb hz9 hS hown (htg _ kw_68) (fun _ h9 => h9) dJ0_checkIndex_df160_2 ?_
    obtain ⟨hC9, hPc, hDc, hFc⟩ := xcut (wc := (pre_J3_checkIndex_8e157_11 T (xa []) (xa []) (xf []) (xh []) (xv [(vi 0)]) (xl []))) hP hD hS hA [] (by decide) rfl
    refine va_calli (va_runS (As := [.int (vi 0), .int 43, .null]) (rest := []) ⟨hx, hb, hml, hown, htg⟩ (c_J3_checkIndex_8e157_11 l D T (xa []) (xa []) (xf []) (xh []) (xv [(vi 0)]) (xl []) s.heap.size hp0) ⟨callB_of 3 htg (xg_ok kw_72) rfl rfl rfl (htg _ kw_5) (htg _ kw_70) (by decide +kernel) ⟨by rw [hR]; exact Nat.le_of_ble_eq_true rfl, by rw [hR]; exact Nat.le_of_ble_eq_true rfl⟩, htg _ kw_71⟩ (xpreS hK hPc hDc) rfl rfl hl.1 rfl (lv_room (Nat.le_of_ble_eq_true rfl)) dJ0_checkIndex_df160_5 ⟨by rw [hR]; exact Nat.le_of_ble_eq_true rfl, by rw [hR]; exact Nat.le_of_ble_eq_true rfl⟩) hS (fun q _ h => hFc q h) hFc (fun r9 u9 t H1 locs ht hvm hw hB hz1 hk1 hS => ?_)
    subst hw
    obtain ⟨fik, flk, vik, vlk, hP1, hD1, hG⟩ := hB
    rw [ht] at hP1
    obtain ⟨hP, hD⟩ := va_join (wr := []) (w1 := []) hP hD [] [] hC9 rfl (by decide) (by decide) hk1 hFc hP1 hD1
    obtain ⟨rk, er9⟩ : ∃ z, z = r9 := ⟨_, rfl⟩
    subst er9
    clear hPc hDc hFc hP1 hD1 hk1 hz1 hvm ht hC9
    generalize H1 = H at hP hS ⊢
    obtain ⟨hP, hD⟩ := (show xPD D A [] H from ⟨hP, hD⟩)
    clear hG
    refine lv_pop hx hb dJ0_checkIndex_df160_8 rfl ?_
    have hP9 := hP.sub (ws' := []) [] rfl
    have hD9 := hD.sub (ws' := []) [] (by decide +kernel) rfl
    rw [hQ]
    exact W.vret hx hb hr (fun t ht hW => ⟨⟨(0 : Int32), rfl, trivial, xf [], xh [], xv [], xl [], by rw [ht]; exact hP9, hD9, trivial⟩, hS.F ht⟩) hS.2.2 dJ0_checkIndex_df160_9
  · refine va_gets hx hb hz9 hS hown (htg _ kw_68) (fun _ h9 => h9) dJ0_checkIndex_df160_2 ?_
    obtain ⟨hC9, hPc, hDc, hFc⟩ := xcut (wc := (pre_J3_checkIndex_8e157_12 T (xa []) (xa [z9]) (xf []) (xh []) (xv [(vi 0)]) (xl []))) hP hD hS hA [] (by decide) rfl
    refine va_calli (va_runS (As := [.int (vi 0), .int 43, .ref z9]) (rest := []) ⟨hx, hb, hml, hown, htg⟩ (c_J3_checkIndex_8e157_12 l D T (xa []) (xa [z9]) (xf []) (xh []) (xv [(vi 0)]) (xl []) s.heap.size hp0) ⟨callB_of 3 htg (xg_ok kw_72) rfl rfl rfl (htg _ kw_5) (htg _ kw_70) (by decide +kernel) ⟨by rw [hR]; exact Nat.le_of_ble_eq_true rfl, by rw [hR]; exact Nat.le_of_ble_eq_true rfl⟩, htg _ kw_71⟩ (xpreS hK hPc hDc) rfl rfl hl.1 rfl (lv_room (Nat.le_of_ble_eq_true rfl)) dJ0_checkIndex_df160_5 ⟨by rw [hR]; exact Nat.le_of_ble_eq_true rfl, by rw [hR]; exact Nat.le_of_ble_eq_true rfl⟩) hS (fun q _ h => hFc q h) hFc (fun r9 u9 t H1 locs ht hvm hw hB hz1 hk1 hS => ?_)
    subst hw
    obtain ⟨fik_1, flk_1, vik_1, vlk_1, hP1, hD1, hG⟩ := hB
    rw [ht] at hP1
    obtain ⟨hP, hD⟩ := va_join (wr := []) (w1 := []) hP hD [] [] hC9 rfl (by decide) (by decide) hk1 hFc hP1 hD1
    obtain ⟨rk_1, er9⟩ : ∃ z, z = r9 := ⟨_, rfl⟩
    subst er9
    clear hPc hDc hFc hP1 hD1 hk1 hz1 hvm ht hC9
    generalize H1 = H at hP hS ⊢
    obtain ⟨hP, hD⟩ := (show xPD D A [] H from ⟨hP, hD⟩)
    clear hG
    refine lv_pop hx hb dJ0_checkIndex_df160_8 rfl ?_
    have hP9 := hP.sub (ws' := []) [] rfl
    have hD9 := hD.sub (ws' := []) [] (by decide +kernel) rfl
    rw [hQ]
    exact W.vret hx hb hr (fun t ht hW => ⟨⟨(0 : Int32), rfl, trivial, xf [], xh [], xv [], xl [], by rw [ht]; exact hP9, hD9, trivial⟩, hS.F ht⟩) hS.2.2 dJ0_checkIndex_df160_9
abbrev pre_J1_charAt_3b067_29 (T : Nat → ClassId) (a ex : Nat → Nat) (fi : Nat → Nat → Int32) (fl : Nat → Nat → Int64) (vi : Nat → Int32) (vl : Nat → Int64) : va_W := []
set_option maxHeartbeats 8000000 in
set_option maxRecDepth 100000 in
theorem c_J1_charAt_3b067_29 (l : Launch) (D : va_G) (T : Nat → ClassId) (a ex : Nat → Nat) (fi : Nat → Nat → Int32) (fl : Nat → Nat → Int64) (vi : Nat → Int32) (vl : Nat → Int64) (kK kV : Nat → Nat) (sz : Nat) (hp0 : 0 ≤ (vi 0).toInt ∧ (vi 0).toInt ≤ 42) : Met l yJ1_charAt_3b067 (xw yJ1_charAt_3b067 cJ1_charAt_3b067 2 (some .char)) ({ frames := 2, cells := 0, slots := 0, locals := 51 }) (xPs D T kK kV [.ref (kV 0), .int (vi 0)] sz (pre_J1_charAt_3b067_29 T a ex fi fl vi vl)) (va_Qi (fun r u => r = u) (xC D (va_A (pre_J1_charAt_3b067_29 T a ex fi fl vi vl) sz) (fun fj fm vj vm => []) (fun (r : Int32) (fj : Nat → Nat → Int32) (fm : Nat → Nat → Int64) (vj : Nat → Int32) (vm : Nat → Int64) => narrow .char (.int r) = .int r ∧ R_J1_charAt_3b067_29 fi fl vi vl r fj fm vj vm ∧ True)) (va_A (pre_J1_charAt_3b067_29 T a ex fi fl vi vl) sz)) 0 0 (va_A (pre_J1_charAt_3b067_29 T a ex fi fl vi vl) sz) := by
  refine xofW (cc := cJ1_charAt_3b067) (maxL := 2) (ret := (some .char)) (by decide) rfl ?_
  intro p e s m args below meth c s₁ R Q hR hQ B hml hv
  obtain ⟨rfl, hsz, hP, hK, hD0, hT⟩ := hv
  have hx := B.exec
  have hb := B.bytes
  have hr := B.returns
  have hts := atoms_spec (ws := xw yJ1_charAt_3b067 cJ1_charAt_3b067 2 (some .char)) B.pre
  have htg : ∀ w ∈ xg, w.before _ s = true := fun w h => hts w (List.mem_cons_of_mem _ h)
  have hown : s.vm.findClass RJ1 = some m.cls := findClass_of_methodNamed B.named
  have hlocks := B.notSynchronized
  subst hsz
  have hD := hD0.self (sz := s.heap.size)
  generalize hAe : va_A (pre_J1_charAt_3b067_29 T a ex fi fl vi vl) s.heap.size = A at hD hQ hT
  have hA : ∀ q : Nat, s.heap.size ≤ q → A q := fun q h => by rw [← hAe]; exact Or.inr h
  have hS : va_S A s.heap s.heap [] := va_S.rf
  replace hP : va_P D vwCl [] s.heap := hP
  replace hD : va_D A [] := hD
  have hl := lv_entry ([.ref (kV 0), .int (vi 0)]) (n := 2) (Nat.le_of_ble_eq_true rfl)
  rw [lg_entry_eq]
  generalize (lg_sl ([.ref (kV 0), .int (vi 0)]) ++ List.replicate (2 - (lg_sl ([.ref (kV 0), .int (vi 0)])).length) Slot.unset).toArray = ls at hl ⊢
  replace hl : lv_has ls 2 [(0, .ref (kV 0)), (1, .int (vi 0))] := hl
  refine lv_iload_n hx hb dJ1_charAt_3b067_0 rfl (lv_at hl 1 rfl) ?_
  refine lv_aload_n hx hb dJ1_charAt_3b067_1 rfl (lv_at hl 0 rfl) ?_
  refine va_tlen (v := 43) hx hb (hT.2.1 0 (by decide)).2.2.2 hS (by decide) dJ1_charAt_3b067_2 ?_
  obtain ⟨hC9, hPc, hDc, hFc⟩ := xcut (wc := (pre_J0_checkIndex_df160_6 T (xa []) (xa []) (xf []) (xh []) (xv [(vi 0)]) (xl []))) hP hD hS hA [] (by decide) rfl
  refine va_callv (va_runS (As := [.int (vi 0), .int 43]) (rest := []) ⟨hx, hb, hml, hown, htg⟩ (c_J0_checkIndex_df160_6 l D T (xa []) (xa []) (xf []) (xh []) (xv [(vi 0)]) (xl []) kK kV s.heap.size hp0) ⟨callB_of 2 htg (xg_ok kw_67) rfl rfl rfl (htg _ kw_3) (htg _ kw_65) (by decide +kernel) ⟨by rw [hR]; exact Nat.le_of_ble_eq_true rfl, by rw [hR]; exact Nat.le_of_ble_eq_true rfl⟩, htg _ kw_66⟩ (xpreSs hK hPc hDc hT hFc hS) rfl rfl hl.1 rfl (lv_room (Nat.le_of_ble_eq_true rfl)) dJ1_charAt_3b067_3 ⟨by rw [hR]; exact Nat.le_of_ble_eq_true rfl, by rw [hR]; exact Nat.le_of_ble_eq_true rfl⟩) hS (fun q _ h => hFc q h) hFc (fun u9 t H1 locs ht hvm hw hB hz1 hk1 hS => ?_)
  obtain ⟨fik, flk, vik, vlk, hP1, hD1, hG⟩ := hB
  rw [ht] at hP1
  obtain ⟨hP, hD⟩ := va_join (wr := []) (w1 := []) hP hD [] [] hC9 rfl (by decide) (by decide) hk1 hFc hP1 hD1
  clear hPc hDc hFc hP1 hD1 hk1 hz1 hvm ht hC9
  generalize H1 = H at hP hS ⊢
  obtain ⟨hP, hD⟩ := (show xPD D A [] H from ⟨hP, hD⟩)
  obtain ⟨uk, eu9⟩ : ∃ z, z = u9 := ⟨_, rfl⟩
  subst eu9
  clear hG
  refine lv_aload_n hx hb dJ1_charAt_3b067_6 rfl (lv_at hl 0 rfl) ?_
  refine lv_iload_n hx hb dJ1_charAt_3b067_7 rfl (lv_at hl 1 rfl) ?_
  refine va_tb hx hb (hT.2.1 0 (by decide)).2.2.2 hS (show vp_in (vi 0) 43 from (vp_in_iff.mpr (by omega))) rfl dJ1_charAt_3b067_8 ?_
  refine lv_topi (fun z8 ez8 => ?_)
  refine lv_sipush (v := 255) hx hb dJ1_charAt_3b067_9 (by decide) ?_
  refine lv_iand hx hb dJ1_charAt_3b067_12 ?_
  refine lv_topi (fun z12 ez12 => ?_)
  have tz12 : 0 ≤ z12.toInt ∧ z12.toInt ≤ 255 := by rw [ez12]; exact xand255 _
  refine lv_i2c hx hb dJ1_charAt_3b067_13 rfl ?_
  refine lv_topi (fun z13 ez13 => ?_)
  have nz13 : narrow .char (.int z13) = .int z13 := by rw [ez13]; exact pk_nc _
  have hP9 := hP.sub (ws' := []) [] rfl
  have hD9 := hD.sub (ws' := []) [] (by decide +kernel) rfl
  rw [hQ]
  exact W.zret (v := z13) hx hb hr nz13 (fun t ht hW => ⟨⟨z13, z13, rfl, rfl, xf [], xh [], xv [], xl [], by rw [ht]; exact hP9, hD9, ⟨nz13, (by unfold R_J1_charAt_3b067_29; exact (fun Q9 k9_0 => k9_0 hp0 fik flk vik vlk uk z8 ez8 z12 ez12 z13 ez13 rfl)), trivial⟩⟩, hS.F ht⟩) hS.2.2 dJ1_charAt_3b067_14
abbrev pre_J0_charAt_5068e_29 (T : Nat → ClassId) (a ex : Nat → Nat) (fi : Nat → Nat → Int32) (fl : Nat → Nat → Int64) (vi : Nat → Int32) (vl : Nat → Int64) : va_W := []
set_option maxHeartbeats 8000000 in
set_option maxRecDepth 100000 in
theorem c_J0_charAt_5068e_29 (l : Launch) (D : va_G) (T : Nat → ClassId) (a ex : Nat → Nat) (fi : Nat → Nat → Int32) (fl : Nat → Nat → Int64) (vi : Nat → Int32) (vl : Nat → Int64) (kK kV : Nat → Nat) (sz : Nat) (hp0 : 0 ≤ (vi 0).toInt ∧ (vi 0).toInt ≤ 42) : Met l yJ0_charAt_5068e (xw yJ0_charAt_5068e cJ0_charAt_5068e 2 (some .char)) ({ frames := 3, cells := 0, slots := 0, locals := 76 }) (xPs D T kK kV [.ref (kK 0), .int (vi 0)] sz (pre_J0_charAt_5068e_29 T a ex fi fl vi vl)) (va_Qi (fun r u => r = u) (xC D (va_A (pre_J0_charAt_5068e_29 T a ex fi fl vi vl) sz) (fun fj fm vj vm => []) (fun (r : Int32) (fj : Nat → Nat → Int32) (fm : Nat → Nat → Int64) (vj : Nat → Int32) (vm : Nat → Int64) => narrow .char (.int r) = .int r ∧ R_J0_charAt_5068e_29 fi fl vi vl r fj fm vj vm ∧ True)) (va_A (pre_J0_charAt_5068e_29 T a ex fi fl vi vl) sz)) 0 0 (va_A (pre_J0_charAt_5068e_29 T a ex fi fl vi vl) sz) := by
  refine xofW (cc := cJ0_charAt_5068e) (maxL := 2) (ret := (some .char)) (by decide) rfl ?_
  intro p e s m args below meth c s₁ R Q hR hQ B hml hv
  obtain ⟨rfl, hsz, hP, hK, hD0, hT⟩ := hv
  have hx := B.exec
  have hb := B.bytes
  have hr := B.returns
  have hts := atoms_spec (ws := xw yJ0_charAt_5068e cJ0_charAt_5068e 2 (some .char)) B.pre
  have htg : ∀ w ∈ xg, w.before _ s = true := fun w h => hts w (List.mem_cons_of_mem _ h)
  have hown : s.vm.findClass RJ0 = some m.cls := findClass_of_methodNamed B.named
  have hlocks := B.notSynchronized
  subst hsz
  have hD := hD0.self (sz := s.heap.size)
  generalize hAe : va_A (pre_J0_charAt_5068e_29 T a ex fi fl vi vl) s.heap.size = A at hD hQ hT
  have hA : ∀ q : Nat, s.heap.size ≤ q → A q := fun q h => by rw [← hAe]; exact Or.inr h
  have hS : va_S A s.heap s.heap [] := va_S.rf
  replace hP : va_P D vwCl [] s.heap := hP
  replace hD : va_D A [] := hD
  have hl := lv_entry ([.ref (kK 0), .int (vi 0)]) (n := 2) (Nat.le_of_ble_eq_true rfl)
  rw [lg_entry_eq]
  generalize (lg_sl ([.ref (kK 0), .int (vi 0)]) ++ List.replicate (2 - (lg_sl ([.ref (kK 0), .int (vi 0)])).length) Slot.unset).toArray = ls at hl ⊢
  replace hl : lv_has ls 2 [(0, .ref (kK 0)), (1, .int (vi 0))] := hl
  refine lv_aload_n hx hb dJ0_charAt_5068e_0 rfl (lv_at hl 0 rfl) ?_
  obtain ⟨hC9, hPc, hDc, hFc⟩ := xcut (wc := (pre_J0_isLatin1_aae02_29 T (xa []) (xa []) (xf []) (xh []) (xv []) (xl []))) hP hD hS hA [] (by decide) rfl
  refine va_calli (va_runV (As := []) (rest := []) ⟨hx, hb, hml, hown, htg⟩ (c_J0_isLatin1_aae02_29 l D T (xa []) (xa []) (xf []) (xh []) (xv []) (xl []) kK kV s.heap.size) ⟨callB_of 0 htg (xg_ok kw_61) rfl rfl rfl (htg _ kw_3) (htg _ kw_58) (by decide +kernel) ⟨by rw [hR]; exact Nat.le_of_ble_eq_true rfl, by rw [hR]; exact Nat.le_of_ble_eq_true rfl⟩, htg _ kw_59, htg _ kw_60⟩ (xpreVs hK hPc hDc hT hFc hS (xT.recv hT 0 (by decide) hS)) rfl rfl hl.1 rfl (lv_room (Nat.le_of_ble_eq_true rfl)) dJ0_charAt_5068e_1 ⟨by rw [hR]; exact Nat.le_of_ble_eq_true rfl, by rw [hR]; exact Nat.le_of_ble_eq_true rfl⟩) hS (fun q _ h => hFc q h) hFc (fun r9 u9 t H1 locs ht hvm hw hB hz1 hk1 hS => ?_)
  subst hw
  obtain ⟨fik, flk, vik, vlk, hP1, hD1, hG⟩ := hB
  rw [ht] at hP1
  obtain ⟨hP, hD⟩ := va_join (wr := []) (w1 := []) hP hD [] [] hC9 rfl (by decide) (by decide) hk1 hFc hP1 hD1
  obtain ⟨rk, er9⟩ : ∃ z, z = r9 := ⟨_, rfl⟩
  subst er9
  clear hPc hDc hFc hP1 hD1 hk1 hz1 hvm ht hC9
  generalize H1 = H at hP hS ⊢
  obtain ⟨hP, hD⟩ := (show xPD D A [] H from ⟨hP, hD⟩)
  obtain ⟨gk_0, -⟩ := hG
  replace gk_0 : rk = 1 := gk_0
  refine xz_i 1 gk_0 ?_
  refine lv_if_eq (tgt := 16) hx hb dJ0_charAt_5068e_4 (by decide) (fun c => absurd c (by decide)) (fun _ => ?_)
  refine lv_aload_n hx hb dJ0_charAt_5068e_7 rfl (lv_at hl 0 rfl) ?_
  refine vk_getf hx hb (hT.2.1 0 (by decide)).2.2.1 hS hown (htg _ kw_2030) (fun _ h9 => h9) dJ0_charAt_5068e_8 ?_
  refine lv_iload_n hx hb dJ0_charAt_5068e_11 rfl (lv_at hl 1 rfl) ?_
  obtain ⟨hC9, hPc, hDc, hFc⟩ := xcut (wc := (pre_J1_charAt_3b067_29 T (xa []) (xa []) (xf []) (xh []) (xv [(vi 0)]) (xl []))) hP hD hS hA [] (by decide) rfl
  refine va_calli (va_runS (As := [.ref (kV 0), .int (vi 0)]) (rest := []) ⟨hx, hb, hml, hown, htg⟩ (c_J1_charAt_3b067_29 l D T (xa []) (xa []) (xf []) (xh []) (xv [(vi 0)]) (xl []) kK kV H.size hp0) ⟨callB_of 2 htg (xg_ok kw_64) rfl rfl rfl (htg _ kw_4) (htg _ kw_62) (by decide +kernel) ⟨by rw [hR]; exact Nat.le_of_ble_eq_true rfl, by rw [hR]; exact Nat.le_of_ble_eq_true rfl⟩, htg _ kw_63⟩ (xpreSs hK hPc hDc hT hFc hS) rfl rfl hl.1 rfl (lv_room (Nat.le_of_ble_eq_true rfl)) dJ0_charAt_5068e_12 ⟨by rw [hR]; exact Nat.le_of_ble_eq_true rfl, by rw [hR]; exact Nat.le_of_ble_eq_true rfl⟩) hS (fun q _ h => hFc q h) hFc (fun r9 u9 t H1 locs ht hvm hw hB hz1 hk1 hS => ?_)
  subst hw
  obtain ⟨fik_1, flk_1, vik_1, vlk_1, hP1, hD1, hG⟩ := hB
  rw [ht] at hP1
  obtain ⟨hP, hD⟩ := va_join (wr := []) (w1 := []) hP hD [] [] hC9 rfl (by decide) (by decide) hk1 hFc hP1 hD1
  obtain ⟨rk_1, er9⟩ : ∃ z, z = r9 := ⟨_, rfl⟩
  subst er9
  clear hPc hDc hFc hP1 hD1 hk1 hz1 hvm ht hC9
  generalize H1 = H at hP hS ⊢
  obtain ⟨hP, hD⟩ := (show xPD D A [] H from ⟨hP, hD⟩)
  obtain ⟨gk_1_0, gk_1_1, -⟩ := hG
  replace gk_1_1 : rk_1 = (sBy.getD 0 []).getD ((vi 0).toInt).toNat 0 := (P_J1_charAt_3b067_29 gk_1_1 : _)
  replace gk_1_0 : narrow .char (.int rk_1) = .int rk_1 := gk_1_0
  have hP9 := hP.sub (ws' := []) [] rfl
  have hD9 := hD.sub (ws' := []) [] (by decide +kernel) rfl
  rw [hQ]
  exact W.zret (v := rk_1) hx hb hr gk_1_0 (fun t ht hW => ⟨⟨rk_1, rk_1, rfl, rfl, xf [], xh [], xv [], xl [], by rw [ht]; exact hP9, hD9, ⟨gk_1_0, (by unfold R_J0_charAt_5068e_29; exact (fun Q9 k9_0 => k9_0 hp0 fik flk vik vlk rk gk_0 fik_1 flk_1 vik_1 vlk_1 rk_1 gk_1_1 rfl)), trivial⟩⟩, hS.F ht⟩) hS.2.2 dJ0_charAt_5068e_15
abbrev pre_X6_keepOwn (T : Nat → ClassId) (a ex : Nat → Nat) (fi : Nat → Nat → Int32) (fl : Nat → Nat → Int64) (vi : Nat → Int32) (vl : Nat → Int64) : va_W := [((a 0), .inr (6, [.ref (ex 0), .ref (a 1), .int (vi 0), .int (vi 1), .int (vi 2), .int (vi 3), .int (vi 4), .int (vi 5), .long (vl 0), .int (vi 6), .int (vi 7), .int (vi 8), .int (vi 9), .int (vi 10)])), ((a 1), .inl (T 2, 27, .inr (.inl (fl 0))))]
set_option maxHeartbeats 8000000 in
set_option maxRecDepth 100000 in
theorem c_X6_keepOwn (l : Launch) (D : va_G) (T : Nat → ClassId) (a ex : Nat → Nat) (fi : Nat → Nat → Int32) (fl : Nat → Nat → Int64) (vi : Nat → Int32) (vl : Nat → Int64) (kK kV : Nat → Nat) (sz : Nat) (hp0 : 0 ≤ (vi 1).toInt ∧ (vi 1).toInt ≤ 940) (hp1 : 0 ≤ (vi 2).toInt ∧ (vi 2).toInt ≤ 940) (hp2 : 0 ≤ (vi 3).toInt ∧ (vi 3).toInt ≤ 940) (hp3 : 0 ≤ (vi 5).toInt ∧ (vi 5).toInt ≤ 940) (hp4 : 0 ≤ (vi 10).toInt ∧ (vi 10).toInt ≤ 940) (hp5 : (vi 0).toInt = 0) : Met l yX6_keepOwn (xw yX6_keepOwn cX6_keepOwn 5 none) ({ frames := 4, cells := 0, slots := 0, locals := 101 }) (xPs D T kK kV [.ref (a 0), .ref (kK 0)] sz (pre_X6_keepOwn T a ex fi fl vi vl)) (va_Qv (fun _ : Int32 => True) (xC D (va_A (pre_X6_keepOwn T a ex fi fl vi vl) sz) (fun fj fm vj vm => [((a 0), .inr (6, [.ref (ex 0), .ref (a 1), .int (vj 0), .int (vi 1), .int (vi 2), .int (vi 3), .int (vi 4), .int (vi 5), .long (vl 0), .int (vi 6), .int (vi 7), .int (vi 8), .int (vi 9), .int (vi 10)])), ((a 1), .inl (T 2, 27, .inr (.inl (fm 0))))]) (fun (r : Int32) (fj : Nat → Nat → Int32) (fm : Nat → Nat → Int64) (vj : Nat → Int32) (vm : Nat → Int64) => ((fm 0) = kF (sBy.getD 0 []) 0 (fl 0) 43) ∧ ((vj 0).toInt = 8) ∧ True)) (va_A (pre_X6_keepOwn T a ex fi fl vi vl) sz)) 0 0 (va_A (pre_X6_keepOwn T a ex fi fl vi vl) sz) := by
  refine xofW (cc := cX6_keepOwn) (maxL := 5) (ret := none) (by decide) rfl ?_
  intro p e s m args below meth c s₁ R Q hR hQ B hml hv
  obtain ⟨rfl, hsz, hP, hK, hD0, hT⟩ := hv
  have hx := B.exec
  have hb := B.bytes
  have hr := B.returns
  have hts := atoms_spec (ws := xw yX6_keepOwn cX6_keepOwn 5 none) B.pre
  have htg : ∀ w ∈ xg, w.before _ s = true := fun w h => hts w (List.mem_cons_of_mem _ h)
  have hown : s.vm.findClass RX6 = some m.cls := findClass_of_methodNamed B.named
  have hlocks := B.notSynchronized
  subst hsz
  have hD := hD0.self (sz := s.heap.size)
  generalize hAe : va_A (pre_X6_keepOwn T a ex fi fl vi vl) s.heap.size = A at hD hQ hT
  have hA : ∀ q : Nat, s.heap.size ≤ q → A q := fun q h => by rw [← hAe]; exact Or.inr h
  have hS : va_S A s.heap s.heap [] := va_S.rf
  replace hP : va_P D vwCl [((a 0), .inr (6, [.ref (ex 0), .ref (a 1), .int (vi 0), .int (vi 1), .int (vi 2), .int (vi 3), .int (vi 4), .int (vi 5), .long (vl 0), .int (vi 6), .int (vi 7), .int (vi 8), .int (vi 9), .int (vi 10)])), ((a 1), .inl (T 2, 27, .inr (.inl (fl 0))))] s.heap := hP
  replace hD : va_D A [((a 0), .inr (6, [.ref (ex 0), .ref (a 1), .int (vi 0), .int (vi 1), .int (vi 2), .int (vi 3), .int (vi 4), .int (vi 5), .long (vl 0), .int (vi 6), .int (vi 7), .int (vi 8), .int (vi 9), .int (vi 10)])), ((a 1), .inl (T 2, 27, .inr (.inl (fl 0))))] := hD
  have hl := lv_entry ([.ref (a 0), .ref (kK 0)]) (n := 5) (Nat.le_of_ble_eq_true rfl)
  rw [lg_entry_eq]
  generalize (lg_sl ([.ref (a 0), .ref (kK 0)]) ++ List.replicate (5 - (lg_sl ([.ref (a 0), .ref (kK 0)])).length) Slot.unset).toArray = ls at hl ⊢
  replace hl : lv_has ls 5 [(0, .ref (a 0)), (1, .ref (kK 0))] := hl
  refine lv_lconst (v := 0) hx hb dX6_keepOwn_0 (by decide) ?_
  refine lv_lstore_n (lv' := [(2, .long 0), (0, .ref (a 0)), (1, .ref (kK 0))]) hx hb dX6_keepOwn_1 rfl hl (by decide) rfl (fun ls hl => ?_)
  refine lv_iconst (v := 0) hx hb dX6_keepOwn_2 (by decide) ?_
  refine lv_istore (lv' := [(4, .int 0), (2, .long 0), (0, .ref (a 0)), (1, .ref (kK 0))]) hx hb dX6_keepOwn_3 hl (by decide) rfl (fun ls hl => ?_)
  have lp : ∀ (kn : Nat) (w4 : Int32) (w2 : Int64) (wf : Nat → Int64) (wv : Int32) (H : Heap) (locs : List Loc) (ls : Array Slot), (0 ≤ w4.toInt ∧ w4.toInt ≤ 43) → (0 ≤ wv.toInt ∧ wv.toInt ≤ 27) → (w2 = kP (sBy.getD 0 []) (w4.toInt).toNat) → ((wv).toInt = ((kC (sBy.getD 0 []) 0 (w4.toInt).toNat : Nat) : Int)) → (wf = kF (sBy.getD 0 []) 0 (fl 0) (w4.toInt).toNat) → (2147483648 - w4.toInt).toNat = kn → va_P D vwCl [((a 0), .inr (6, [.ref (ex 0), .ref (a 1), .int wv, .int (vi 1), .int (vi 2), .int (vi 3), .int (vi 4), .int (vi 5), .long (vl 0), .int (vi 6), .int (vi 7), .int (vi 8), .int (vi 9), .int (vi 10)])), ((a 1), .inl (T 2, 27, .inr (.inl wf)))] H → va_D A [((a 0), .inr (6, [.ref (ex 0), .ref (a 1), .int wv, .int (vi 1), .int (vi 2), .int (vi 3), .int (vi 4), .int (vi 5), .long (vl 0), .int (vi 6), .int (vi 7), .int (vi 8), .int (vi 9), .int (vi 10)])), ((a 1), .inl (T 2, 27, .inr (.inl wf)))] → va_S A s.heap H locs → lv_has ls 5 [(4, .int w4), (2, .long w2), (0, .ref (a 0)), (1, .ref (kK 0))] → W p l e R s m ([.ref (a 0), .ref (kK 0)] : List Value).toArray below meth c H locs 0 0 Q (F0 m 5 ls []) := by
    intro kn
    induction kn using Nat.strongRecOn with
    | _ kn ih =>
      intro w4 w2 wf wv H locs ls hi hi_1 hkp9 hkc9 hkf9 hm hP hD hS hl
      refine lv_iload hx hb dX6_keepOwn_5 (lv_at hl 0 rfl) ?_
      refine lv_aload_n hx hb dX6_keepOwn_7 rfl (lv_at hl 3 rfl) ?_
      obtain ⟨hC9, hPc, hDc, hFc⟩ := xcut (wc := (pre_J0_length_8abf5_29 T (xa []) (xa []) (xf []) (xh []) (xv []) (xl []))) hP hD hS hA [] (by decide) rfl
      refine va_calli (va_runV (As := []) (rest := [.int w4]) ⟨hx, hb, hml, hown, htg⟩ (c_J0_length_8abf5_29 l D T (xa []) (xa []) (xf []) (xh []) (xv []) (xl []) kK kV H.size) ⟨callB_of 0 htg (xg_ok kw_47) rfl rfl rfl (htg _ kw_3) (htg _ kw_44) (by decide +kernel) ⟨by rw [hR]; exact Nat.le_of_ble_eq_true rfl, by rw [hR]; exact Nat.le_of_ble_eq_true rfl⟩, htg _ kw_45, htg _ kw_46⟩ (xpreVs hK hPc hDc hT hFc hS (xT.recv hT 0 (by decide) hS)) rfl rfl hl.1 rfl (lv_room (Nat.le_of_ble_eq_true rfl)) dX6_keepOwn_8 ⟨by rw [hR]; exact Nat.le_of_ble_eq_true rfl, by rw [hR]; exact Nat.le_of_ble_eq_true rfl⟩) hS (fun q _ h => hFc q h) hFc (fun r9 u9 t H1 locs ht hvm hw hB hz1 hk1 hS => ?_)
      subst hw
      obtain ⟨fik, flk, vik, vlk, hP1, hD1, hG⟩ := hB
      rw [ht] at hP1
      obtain ⟨hP, hD⟩ := va_join (wr := [((a 0), .inr (6, [.ref (ex 0), .ref (a 1), .int wv, .int (vi 1), .int (vi 2), .int (vi 3), .int (vi 4), .int (vi 5), .long (vl 0), .int (vi 6), .int (vi 7), .int (vi 8), .int (vi 9), .int (vi 10)])), ((a 1), .inl (T 2, 27, .inr (.inl wf)))]) (w1 := []) hP hD [] [0, 1] hC9 rfl (by decide) (by decide) hk1 hFc hP1 hD1
      obtain ⟨rk, er9⟩ : ∃ z, z = r9 := ⟨_, rfl⟩
      subst er9
      clear hPc hDc hFc hP1 hD1 hk1 hz1 hvm ht hC9
      generalize H1 = H at hP hS ⊢
      obtain ⟨hP, hD⟩ := (show xPD D A [((a 0), .inr (6, [.ref (ex 0), .ref (a 1), .int wv, .int (vi 1), .int (vi 2), .int (vi 3), .int (vi 4), .int (vi 5), .long (vl 0), .int (vi 6), .int (vi 7), .int (vi 8), .int (vi 9), .int (vi 10)])), ((a 1), .inl (T 2, 27, .inr (.inl wf)))] H from ⟨hP, hD⟩)
      obtain ⟨gk_0, -⟩ := hG
      replace gk_0 : rk = 43 := gk_0
      refine xz_i 43 gk_0 ?_
      refine lv_icmp_ge (tgt := 78) hx hb dX6_keepOwn_11 (by decide) (fun c11 => ?_) (fun c11 => ?_)
      · have c11 := xge (k := 43) (by decide) c11
        have hP9 := hP.sub (ws' := [((a 0), .inr (6, [.ref (ex 0), .ref (a 1), .int wv, .int (vi 1), .int (vi 2), .int (vi 3), .int (vi 4), .int (vi 5), .long (vl 0), .int (vi 6), .int (vi 7), .int (vi 8), .int (vi 9), .int (vi 10)])), ((a 1), .inl (T 2, 27, .inr (.inl wf)))]) [0, 1] rfl
        have hD9 := hD.sub (ws' := [((a 0), .inr (6, [.ref (ex 0), .ref (a 1), .int wv, .int (vi 1), .int (vi 2), .int (vi 3), .int (vi 4), .int (vi 5), .long (vl 0), .int (vi 6), .int (vi 7), .int (vi 8), .int (vi 9), .int (vi 10)])), ((a 1), .inl (T 2, 27, .inr (.inl wf)))]) [0, 1] (by decide +kernel) rfl
        rw [hQ]
        exact W.vret hx hb hr (fun t ht hW => ⟨⟨(0 : Int32), rfl, trivial, xf [], xh [wf], xv [wv], xl [], by rw [ht]; exact hP9, hD9, ⟨(by show wf = kF (sBy.getD 0 []) 0 (fl 0) 43; first | (exfalso; have h8 := kx_0 (w4.toInt).toNat (by omega); omega) | (have h7 : (w4.toInt).toNat = 43 := (by omega); rw [hkf9, h7])), (by show (wv).toInt = 8; first | (exfalso; have h8 := kx_0 (w4.toInt).toNat (by omega); omega) | (have h7 : (w4.toInt).toNat = 43 := (by omega); rw [h7, ky_0] at hkc9; omega)), trivial⟩⟩, hS.F ht⟩) hS.2.2 dX6_keepOwn_78
      · have c11 := xnge (k := 43) (by decide) c11
        refine lv_aload_n hx hb dX6_keepOwn_14 rfl (lv_at hl 2 rfl) ?_
        refine va_get (D := D) (ci := 6) (v := .int wv) (C := RX6) (T := TX6) (N := 14) hx hb htg inX6 hown hK.1 hP 0 rfl rfl 2 (by decide) (htg _ kw_96) (fun _ h9 => h9) rfl dX6_keepOwn_15 ?_
        refine lv_bipush (v := 27) hx hb dX6_keepOwn_18 (by decide) ?_
        refine lv_icmp_ge (tgt := 78) hx hb dX6_keepOwn_20 (by decide) (fun c20 => ?_) (fun c20 => ?_)
        · have c20 := xge (k := 27) (by decide) c20
          have hP9 := hP.sub (ws' := [((a 0), .inr (6, [.ref (ex 0), .ref (a 1), .int wv, .int (vi 1), .int (vi 2), .int (vi 3), .int (vi 4), .int (vi 5), .long (vl 0), .int (vi 6), .int (vi 7), .int (vi 8), .int (vi 9), .int (vi 10)])), ((a 1), .inl (T 2, 27, .inr (.inl wf)))]) [0, 1] rfl
          have hD9 := hD.sub (ws' := [((a 0), .inr (6, [.ref (ex 0), .ref (a 1), .int wv, .int (vi 1), .int (vi 2), .int (vi 3), .int (vi 4), .int (vi 5), .long (vl 0), .int (vi 6), .int (vi 7), .int (vi 8), .int (vi 9), .int (vi 10)])), ((a 1), .inl (T 2, 27, .inr (.inl wf)))]) [0, 1] (by decide +kernel) rfl
          rw [hQ]
          exact W.vret hx hb hr (fun t ht hW => ⟨⟨(0 : Int32), rfl, trivial, xf [], xh [wf], xv [wv], xl [], by rw [ht]; exact hP9, hD9, ⟨(by show wf = kF (sBy.getD 0 []) 0 (fl 0) 43; first | (exfalso; have h8 := kx_0 (w4.toInt).toNat (by omega); omega) | (have h7 : (w4.toInt).toNat = 43 := (by omega); rw [hkf9, h7])), (by show (wv).toInt = 8; first | (exfalso; have h8 := kx_0 (w4.toInt).toNat (by omega); omega) | (have h7 : (w4.toInt).toNat = 43 := (by omega); rw [h7, ky_0] at hkc9; omega)), trivial⟩⟩, hS.F ht⟩) hS.2.2 dX6_keepOwn_78
        · have c20 := xnge (k := 27) (by decide) c20
          refine lv_aload_n hx hb dX6_keepOwn_23 rfl (lv_at hl 3 rfl) ?_
          refine lv_iload hx hb dX6_keepOwn_24 (lv_at hl 0 rfl) ?_
          obtain ⟨hC9, hPc, hDc, hFc⟩ := xcut (wc := (pre_J0_charAt_5068e_29 T (xa []) (xa []) (xf []) (xh []) (xv [w4]) (xl []))) hP hD hS hA [] (by decide) rfl
          refine va_calli (va_runV (As := [.int w4]) (rest := []) ⟨hx, hb, hml, hown, htg⟩ (c_J0_charAt_5068e_29 l D T (xa []) (xa []) (xf []) (xh []) (xv [w4]) (xl []) kK kV H.size (by show 0 ≤ w4.toInt ∧ w4.toInt ≤ 42; omega)) ⟨callB_of 1 htg (xg_ok kw_57) rfl rfl rfl (htg _ kw_3) (htg _ kw_54) (by decide +kernel) ⟨by rw [hR]; exact Nat.le_of_ble_eq_true rfl, by rw [hR]; exact Nat.le_of_ble_eq_true rfl⟩, htg _ kw_55, htg _ kw_56⟩ (xpreVs hK hPc hDc hT hFc hS (xT.recv hT 0 (by decide) hS)) rfl rfl hl.1 rfl (lv_room (Nat.le_of_ble_eq_true rfl)) dX6_keepOwn_26 ⟨by rw [hR]; exact Nat.le_of_ble_eq_true rfl, by rw [hR]; exact Nat.le_of_ble_eq_true rfl⟩) hS (fun q _ h => hFc q h) hFc (fun r9 u9 t H1 locs ht hvm hw hB hz1 hk1 hS => ?_)
          subst hw
          obtain ⟨fik_1, flk_1, vik_1, vlk_1, hP1, hD1, hG⟩ := hB
          rw [ht] at hP1
          obtain ⟨hP, hD⟩ := va_join (wr := [((a 0), .inr (6, [.ref (ex 0), .ref (a 1), .int wv, .int (vi 1), .int (vi 2), .int (vi 3), .int (vi 4), .int (vi 5), .long (vl 0), .int (vi 6), .int (vi 7), .int (vi 8), .int (vi 9), .int (vi 10)])), ((a 1), .inl (T 2, 27, .inr (.inl wf)))]) (w1 := []) hP hD [] [0, 1] hC9 rfl (by decide) (by decide) hk1 hFc hP1 hD1
          obtain ⟨rk_1, er9⟩ : ∃ z, z = r9 := ⟨_, rfl⟩
          subst er9
          clear hPc hDc hFc hP1 hD1 hk1 hz1 hvm ht hC9
          generalize H1 = H at hP hS ⊢
          obtain ⟨hP, hD⟩ := (show xPD D A [((a 0), .inr (6, [.ref (ex 0), .ref (a 1), .int wv, .int (vi 1), .int (vi 2), .int (vi 3), .int (vi 4), .int (vi 5), .long (vl 0), .int (vi 6), .int (vi 7), .int (vi 8), .int (vi 9), .int (vi 10)])), ((a 1), .inl (T 2, 27, .inr (.inl wf)))] H from ⟨hP, hD⟩)
          obtain ⟨gk_1_0, gk_1_1, -⟩ := hG
          replace gk_1_1 : rk_1 = (sBy.getD 0 []).getD (w4.toInt).toNat 0 := (P_J0_charAt_5068e_29 gk_1_1 : _)
          replace gk_1_0 : narrow .char (.int rk_1) = .int rk_1 := gk_1_0
          refine lv_bipush (v := 32) hx hb dX6_keepOwn_29 (by decide) ?_
          refine lv_icmp_ne (tgt := 59) hx hb dX6_keepOwn_31 (by decide) (fun c31 => ?_) (fun c31 => ?_)
          · have c31 := xne (k := 32) (by decide) c31
            refine lv_lload_n hx hb dX6_keepOwn_59 rfl (lv_at hl 1 rfl) ?_
            refine lv_bipush (v := 8) hx hb dX6_keepOwn_60 (by decide) ?_
            refine lv_lshl hx hb dX6_keepOwn_62 rfl ?_
            refine lv_topl (fun z62 ez62 => ?_)
            refine lv_aload_n hx hb dX6_keepOwn_63 rfl (lv_at hl 3 rfl) ?_
            refine lv_iload hx hb dX6_keepOwn_64 (lv_at hl 0 rfl) ?_
            obtain ⟨hC9, hPc, hDc, hFc⟩ := xcut (wc := (pre_J0_charAt_5068e_29 T (xa []) (xa []) (xf []) (xh []) (xv [w4]) (xl []))) hP hD hS hA [] (by decide) rfl
            refine va_calli (va_runV (As := [.int w4]) (rest := [.long z62]) ⟨hx, hb, hml, hown, htg⟩ (c_J0_charAt_5068e_29 l D T (xa []) (xa []) (xf []) (xh []) (xv [w4]) (xl []) kK kV H.size (by show 0 ≤ w4.toInt ∧ w4.toInt ≤ 42; omega)) ⟨callB_of 1 htg (xg_ok kw_57) rfl rfl rfl (htg _ kw_3) (htg _ kw_54) (by decide +kernel) ⟨by rw [hR]; exact Nat.le_of_ble_eq_true rfl, by rw [hR]; exact Nat.le_of_ble_eq_true rfl⟩, htg _ kw_55, htg _ kw_56⟩ (xpreVs hK hPc hDc hT hFc hS (xT.recv hT 0 (by decide) hS)) rfl rfl hl.1 rfl (lv_room (Nat.le_of_ble_eq_true rfl)) dX6_keepOwn_66 ⟨by rw [hR]; exact Nat.le_of_ble_eq_true rfl, by rw [hR]; exact Nat.le_of_ble_eq_true rfl⟩) hS (fun q _ h => hFc q h) hFc (fun r9 u9 t H1 locs ht hvm hw hB hz1 hk1 hS => ?_)
            subst hw
            obtain ⟨fik_2, flk_2, vik_2, vlk_2, hP1, hD1, hG⟩ := hB
            rw [ht] at hP1
            obtain ⟨hP, hD⟩ := va_join (wr := [((a 0), .inr (6, [.ref (ex 0), .ref (a 1), .int wv, .int (vi 1), .int (vi 2), .int (vi 3), .int (vi 4), .int (vi 5), .long (vl 0), .int (vi 6), .int (vi 7), .int (vi 8), .int (vi 9), .int (vi 10)])), ((a 1), .inl (T 2, 27, .inr (.inl wf)))]) (w1 := []) hP hD [] [0, 1] hC9 rfl (by decide) (by decide) hk1 hFc hP1 hD1
            obtain ⟨rk_2, er9⟩ : ∃ z, z = r9 := ⟨_, rfl⟩
            subst er9
            clear hPc hDc hFc hP1 hD1 hk1 hz1 hvm ht hC9
            generalize H1 = H at hP hS ⊢
            obtain ⟨hP, hD⟩ := (show xPD D A [((a 0), .inr (6, [.ref (ex 0), .ref (a 1), .int wv, .int (vi 1), .int (vi 2), .int (vi 3), .int (vi 4), .int (vi 5), .long (vl 0), .int (vi 6), .int (vi 7), .int (vi 8), .int (vi 9), .int (vi 10)])), ((a 1), .inl (T 2, 27, .inr (.inl wf)))] H from ⟨hP, hD⟩)
            obtain ⟨gk_2_0, gk_2_1, -⟩ := hG
            replace gk_2_1 : rk_2 = (sBy.getD 0 []).getD (w4.toInt).toNat 0 := (P_J0_charAt_5068e_29 gk_2_1 : _)
            replace gk_2_0 : narrow .char (.int rk_2) = .int rk_2 := gk_2_0
            refine lv_i2l hx hb dX6_keepOwn_69 rfl ?_
            refine lv_topl (fun z69 ez69 => ?_)
            refine lv_lor hx hb dX6_keepOwn_70 ?_
            refine lv_topl (fun z70 ez70 => ?_)
            refine lv_lstore_n (lv' := [(2, .long z70), (4, .int w4), (0, .ref (a 0)), (1, .ref (kK 0))]) hx hb dX6_keepOwn_71 rfl hl (by decide) rfl (fun ls hl => ?_)
            obtain ⟨i72, ei72⟩ : ∃ z : Int32, w4 + Int32.ofInt 1 = z := ⟨_, rfl⟩
            have ti72 : i72.toInt = w4.toInt + 1 := by rw [← ei72]; have h79 := xrng w4; exact xadd rfl (by decide) (by omega) (by omega)
            refine lv_iinc (v := i72) (lv' := [(4, .int i72), (2, .long z70), (0, .ref (a 0)), (1, .ref (kK 0))]) hx hb dX6_keepOwn_72 hl (k := 1) rfl ei72 (by decide) rfl (fun ls hl => ?_)
            refine lv_goto (tgt := 5) hx hb dX6_keepOwn_75 (by decide) ?_
            exact ih _ (by omega) i72 z70 wf wv _ _ _ (by show 0 ≤ i72.toInt ∧ i72.toInt ≤ 43; omega) hi_1 (by show z70 = kP (sBy.getD 0 []) (i72.toInt).toNat; rw [ez70, ez62, ez69]; exact kP_l c31 (by assumption) (by omega) (by omega) hkp9 (by assumption)) (by show (wv).toInt = ((kC (sBy.getD 0 []) 0 (i72.toInt).toNat : Nat) : Int); exact kC_l c31 (by assumption) (by omega) (by omega) hkc9) (by show wf = kF (sBy.getD 0 []) 0 (fl 0) (i72.toInt).toNat; exact kF_l c31 (by assumption) (by omega) (by omega) hkf9) rfl (hP.sub [0, 1] rfl) (hD.sub [0, 1] (by decide) rfl) hS (lv_sub hl [0, 1, 2, 3] rfl)
          · have c31 := xeq (k := 32) (by decide) c31
            refine lv_aload_n hx hb dX6_keepOwn_34 rfl (lv_at hl 2 rfl) ?_
            refine va_get (D := D) (ci := 6) (v := .ref (a 1)) (C := RX6) (T := TX6) (N := 14) hx hb htg inX6 hown hK.1 hP 0 rfl rfl 1 (by decide) (htg _ kw_95) (fun _ h9 => h9) rfl dX6_keepOwn_35 ?_
            refine lv_aload_n hx hb dX6_keepOwn_38 rfl (lv_at hl 2 rfl) ?_
            refine va_get (D := D) (ci := 6) (v := .int wv) (C := RX6) (T := TX6) (N := 14) hx hb htg inX6 hown hK.1 hP 0 rfl rfl 2 (by decide) (htg _ kw_96) (fun _ h9 => h9) rfl dX6_keepOwn_39 ?_
            refine lv_lload_n hx hb dX6_keepOwn_42 rfl (lv_at hl 1 rfl) ?_
            refine va_last hx hb hK.1 hP hD hS 1 2 rfl rfl (vp_in_iff.mpr (by omega)) dX6_keepOwn_43 (fun H locs hP hD hS => ?_)
            obtain ⟨f43, ef43, hP, hD⟩ : ∃ f7 : Nat → Int64, f7 = vp_updL wf wv.toNatClampNeg (w2 : Int64) ∧ va_P D vwCl [((a 0), .inr (6, [.ref (ex 0), .ref (a 1), .int wv, .int (vi 1), .int (vi 2), .int (vi 3), .int (vi 4), .int (vi 5), .long (vl 0), .int (vi 6), .int (vi 7), .int (vi 8), .int (vi 9), .int (vi 10)])), ((a 1), .inl (T 2, 27, .inr (.inl f7)))] H ∧ va_D A [((a 0), .inr (6, [.ref (ex 0), .ref (a 1), .int wv, .int (vi 1), .int (vi 2), .int (vi 3), .int (vi 4), .int (vi 5), .long (vl 0), .int (vi 6), .int (vi 7), .int (vi 8), .int (vi 9), .int (vi 10)])), ((a 1), .inl (T 2, 27, .inr (.inl f7)))] := ⟨_, rfl, hP, hD⟩
            refine lv_aload_n hx hb dX6_keepOwn_44 rfl (lv_at hl 2 rfl) ?_
            refine lv_dup hx hb dX6_keepOwn_45 rfl ?_
            refine va_get (D := D) (ci := 6) (v := .int wv) (C := RX6) (T := TX6) (N := 14) hx hb htg inX6 hown hK.1 hP 0 rfl rfl 2 (by decide) (htg _ kw_96) (fun _ h9 => h9) rfl dX6_keepOwn_46 ?_
            refine lv_iconst (v := 1) hx hb dX6_keepOwn_49 (by decide) ?_
            refine lv_iadd hx hb dX6_keepOwn_50 ?_
            refine lv_topi (fun z50 ez50 => ?_)
            have tz50 : z50.toInt = wv.toInt + 1 := by rw [ez50]; exact xadd rfl (by decide) (by omega) (by omega)
            refine va_put (D := D) (ci := 6) (v := .int z50) (ty := .int) (C := RX6) (T := TX6) (N := 14) hx hb htg inX6 tyX6 tyX6_ok nmX6 hown hK.1 hP hD hS 0 rfl rfl 2 (by decide) (htg _ kw_96) (fun _ h9 => h9) rfl (by decide +kernel) rfl rfl (Nat.le_of_ble_eq_true rfl) dX6_keepOwn_51 (fun H locs hP hD hS => ?_)
            obtain ⟨hP, hD⟩ := (show xPD D A [((a 0), .inr (6, [.ref (ex 0), .ref (a 1), .int z50, .int (vi 1), .int (vi 2), .int (vi 3), .int (vi 4), .int (vi 5), .long (vl 0), .int (vi 6), .int (vi 7), .int (vi 8), .int (vi 9), .int (vi 10)])), ((a 1), .inl (T 2, 27, .inr (.inl f43)))] H from ⟨hP, hD⟩)
            refine lv_lconst (v := 0) hx hb dX6_keepOwn_54 (by decide) ?_
            refine lv_lstore_n (lv' := [(2, .long 0), (4, .int w4), (0, .ref (a 0)), (1, .ref (kK 0))]) hx hb dX6_keepOwn_55 rfl hl (by decide) rfl (fun ls hl => ?_)
            refine lv_goto (tgt := 72) hx hb dX6_keepOwn_56 (by decide) ?_
            obtain ⟨i72_1, ei72_1⟩ : ∃ z : Int32, w4 + Int32.ofInt 1 = z := ⟨_, rfl⟩
            have ti72_1 : i72_1.toInt = w4.toInt + 1 := by rw [← ei72_1]; have h79 := xrng w4; exact xadd rfl (by decide) (by omega) (by omega)
            refine lv_iinc (v := i72_1) (lv' := [(4, .int i72_1), (2, .long 0), (0, .ref (a 0)), (1, .ref (kK 0))]) hx hb dX6_keepOwn_72 hl (k := 1) rfl ei72_1 (by decide) rfl (fun ls hl => ?_)
            refine lv_goto (tgt := 5) hx hb dX6_keepOwn_75 (by decide) ?_
            exact ih _ (by omega) i72_1 (0 : Int64) f43 z50 _ _ _ (by show 0 ≤ i72_1.toInt ∧ i72_1.toInt ≤ 43; omega) (by show 0 ≤ z50.toInt ∧ z50.toInt ≤ 27; omega) (by show (0 : Int64) = kP (sBy.getD 0 []) (i72_1.toInt).toNat; exact kP_b c31 (by assumption) (by omega) (by omega)) (by show (z50).toInt = ((kC (sBy.getD 0 []) 0 (i72_1.toInt).toNat : Nat) : Int); exact kC_b c31 (by assumption) (by omega) (by omega) hkc9 (by omega)) (by show f43 = kF (sBy.getD 0 []) 0 (fl 0) (i72_1.toInt).toNat; rw [ef43]; exact kF_b c31 (by assumption) (by omega) (by omega) hkc9 hkp9 hkf9) rfl (hP.sub [0, 1] rfl) (hD.sub [0, 1] (by decide) rfl) hS (lv_sub hl [0, 1, 2, 3] rfl)
  exact lp _ (0 : Int32) (0 : Int64) (fl 0) (vi 0) _ _ _ (show 0 ≤ (0 : Int32).toInt ∧ (0 : Int32).toInt ≤ 43 by decide) (by show 0 ≤ (vi 0).toInt ∧ (vi 0).toInt ≤ 27; omega) (by show (0 : Int64) = kP (sBy.getD 0 []) ((0 : Int32).toInt).toNat; have k9_0 : (0 : Int32).toInt = 0 := (by decide); rw [show (0 : Int32).toInt.toNat = 0 by decide]; rfl) (by show (vi 0).toInt = ((kC (sBy.getD 0 []) 0 ((0 : Int32).toInt).toNat : Nat) : Int); have k9_0 : (0 : Int32).toInt = 0 := (by decide); rw [show (0 : Int32).toInt.toNat = 0 by decide]; show _ = ((0 : Nat) : Int); omega) (by show (fl 0) = kF (sBy.getD 0 []) 0 (fl 0) ((0 : Int32).toInt).toNat; have k9_0 : (0 : Int32).toInt = 0 := (by decide); rw [show (0 : Int32).toInt.toNat = 0 by decide]; rfl) rfl hP hD hS hl
abbrev pre_J0_coder_7d493_30 (T : Nat → ClassId) (a ex : Nat → Nat) (fi : Nat → Nat → Int32) (fl : Nat → Nat → Int64) (vi : Nat → Int32) (vl : Nat → Int64) : va_W := []
set_option maxHeartbeats 8000000 in
set_option maxRecDepth 100000 in
theorem c_J0_coder_7d493_30 (l : Launch) (D : va_G) (T : Nat → ClassId) (a ex : Nat → Nat) (fi : Nat → Nat → Int32) (fl : Nat → Nat → Int64) (vi : Nat → Int32) (vl : Nat → Int64) (kK kV : Nat → Nat) (sz : Nat) : Met l yJ0_coder_7d493 (xw yJ0_coder_7d493 cJ0_coder_7d493 1 (some .byte)) ({ frames := 0, cells := 0, slots := 0, locals := 0 }) (xPs D T kK kV [.ref (kK 1)] sz (pre_J0_coder_7d493_30 T a ex fi fl vi vl)) (va_Qi (fun r u => r = u) (xC D (va_A (pre_J0_coder_7d493_30 T a ex fi fl vi vl) sz) (fun fj fm vj vm => []) (fun (r : Int32) (fj : Nat → Nat → Int32) (fm : Nat → Nat → Int64) (vj : Nat → Int32) (vm : Nat → Int64) => r = 0 ∧ True)) (va_A (pre_J0_coder_7d493_30 T a ex fi fl vi vl) sz)) 0 0 (va_A (pre_J0_coder_7d493_30 T a ex fi fl vi vl) sz) := by
  refine xofW (cc := cJ0_coder_7d493) (maxL := 1) (ret := (some .byte)) (by decide) rfl ?_
  intro p e s m args below meth c s₁ R Q hR hQ B hml hv
  obtain ⟨rfl, hsz, hP, hK, hD0, hT⟩ := hv
  have hx := B.exec
  have hb := B.bytes
  have hr := B.returns
  have hts := atoms_spec (ws := xw yJ0_coder_7d493 cJ0_coder_7d493 1 (some .byte)) B.pre
  have htg : ∀ w ∈ xg, w.before _ s = true := fun w h => hts w (List.mem_cons_of_mem _ h)
  have hown : s.vm.findClass RJ0 = some m.cls := findClass_of_methodNamed B.named
  have hlocks := B.notSynchronized
  subst hsz
  have hD := hD0.self (sz := s.heap.size)
  generalize hAe : va_A (pre_J0_coder_7d493_30 T a ex fi fl vi vl) s.heap.size = A at hD hQ hT
  have hA : ∀ q : Nat, s.heap.size ≤ q → A q := fun q h => by rw [← hAe]; exact Or.inr h
  have hS : va_S A s.heap s.heap [] := va_S.rf
  replace hP : va_P D vwCl [] s.heap := hP
  replace hD : va_D A [] := hD
  have hl := lv_entry ([.ref (kK 1)]) (n := 1) (Nat.le_of_ble_eq_true rfl)
  rw [lg_entry_eq]
  generalize (lg_sl ([.ref (kK 1)]) ++ List.replicate (1 - (lg_sl ([.ref (kK 1)])).length) Slot.unset).toArray = ls at hl ⊢
  replace hl : lv_has ls 1 [(0, .ref (kK 1))] := hl
  refine va_gets hx hb hT.2.2.1 hS hown (htg _ kw_52) (fun _ h9 => h9) dJ0_coder_7d493_0 ?_
  refine lv_if_eq (tgt := 13) hx hb dJ0_coder_7d493_3 (by decide) (fun c => absurd c (by decide)) (fun _ => ?_)
  refine lv_aload_n hx hb dJ0_coder_7d493_6 rfl (lv_at hl 0 rfl) ?_
  refine vk_getf hx hb (hT.2.1 1 (by decide)).2.1 hS hown (htg _ kw_2031) (fun _ h9 => h9) dJ0_coder_7d493_7 ?_
  refine lv_goto (tgt := 14) hx hb dJ0_coder_7d493_10 (by decide) ?_
  have hP9 := hP.sub (ws' := []) [] rfl
  have hD9 := hD.sub (ws' := []) [] (by decide +kernel) rfl
  rw [hQ]
  exact W.zret (v := 0) hx hb hr rfl (fun t ht hW => ⟨⟨0, 0, rfl, rfl, xf [], xh [], xv [], xl [], by rw [ht]; exact hP9, hD9, ⟨rfl, trivial⟩⟩, hS.F ht⟩) hS.2.2 dJ0_coder_7d493_14
abbrev pre_J0_length_8abf5_30 (T : Nat → ClassId) (a ex : Nat → Nat) (fi : Nat → Nat → Int32) (fl : Nat → Nat → Int64) (vi : Nat → Int32) (vl : Nat → Int64) : va_W := []
set_option maxHeartbeats 8000000 in
set_option maxRecDepth 100000 in
theorem c_J0_length_8abf5_30 (l : Launch) (D : va_G) (T : Nat → ClassId) (a ex : Nat → Nat) (fi : Nat → Nat → Int32) (fl : Nat → Nat → Int64) (vi : Nat → Int32) (vl : Nat → Int64) (kK kV : Nat → Nat) (sz : Nat) : Met l yJ0_length_8abf5 (xw yJ0_length_8abf5 cJ0_length_8abf5 1 (some .int)) ({ frames := 1, cells := 0, slots := 0, locals := 24 }) (xPs D T kK kV [.ref (kK 1)] sz (pre_J0_length_8abf5_30 T a ex fi fl vi vl)) (va_Qi (fun r u => r = u) (xC D (va_A (pre_J0_length_8abf5_30 T a ex fi fl vi vl) sz) (fun fj fm vj vm => []) (fun (r : Int32) (fj : Nat → Nat → Int32) (fm : Nat → Nat → Int64) (vj : Nat → Int32) (vm : Nat → Int64) => r = 47 ∧ True)) (va_A (pre_J0_length_8abf5_30 T a ex fi fl vi vl) sz)) 0 0 (va_A (pre_J0_length_8abf5_30 T a ex fi fl vi vl) sz) := by
  refine xofW (cc := cJ0_length_8abf5) (maxL := 1) (ret := (some .int)) (by decide) rfl ?_
  intro p e s m args below meth c s₁ R Q hR hQ B hml hv
  obtain ⟨rfl, hsz, hP, hK, hD0, hT⟩ := hv
  have hx := B.exec
  have hb := B.bytes
  have hr := B.returns
  have hts := atoms_spec (ws := xw yJ0_length_8abf5 cJ0_length_8abf5 1 (some .int)) B.pre
  have htg : ∀ w ∈ xg, w.before _ s = true := fun w h => hts w (List.mem_cons_of_mem _ h)
  have hown : s.vm.findClass RJ0 = some m.cls := findClass_of_methodNamed B.named
  have hlocks := B.notSynchronized
  subst hsz
  have hD := hD0.self (sz := s.heap.size)
  generalize hAe : va_A (pre_J0_length_8abf5_30 T a ex fi fl vi vl) s.heap.size = A at hD hQ hT
  have hA : ∀ q : Nat, s.heap.size ≤ q → A q := fun q h => by rw [← hAe]; exact Or.inr h
  have hS : va_S A s.heap s.heap [] := va_S.rf
  replace hP : va_P D vwCl [] s.heap := hP
  replace hD : va_D A [] := hD
  have hl := lv_entry ([.ref (kK 1)]) (n := 1) (Nat.le_of_ble_eq_true rfl)
  rw [lg_entry_eq]
  generalize (lg_sl ([.ref (kK 1)]) ++ List.replicate (1 - (lg_sl ([.ref (kK 1)])).length) Slot.unset).toArray = ls at hl ⊢
  replace hl : lv_has ls 1 [(0, .ref (kK 1))] := hl
  refine lv_aload_n hx hb dJ0_length_8abf5_0 rfl (lv_at hl 0 rfl) ?_
  refine vk_getf hx hb (hT.2.1 1 (by decide)).2.2.1 hS hown (htg _ kw_2030) (fun _ h9 => h9) dJ0_length_8abf5_1 ?_
  refine va_tlen (v := 47) hx hb (hT.2.1 1 (by decide)).2.2.2 hS (by decide) dJ0_length_8abf5_4 ?_
  refine lv_aload_n hx hb dJ0_length_8abf5_5 rfl (lv_at hl 0 rfl) ?_
  obtain ⟨hC9, hPc, hDc, hFc⟩ := xcut (wc := (pre_J0_coder_7d493_30 T (xa []) (xa []) (xf []) (xh []) (xv []) (xl []))) hP hD hS hA [] (by decide) rfl
  refine va_calli (va_runV (As := []) (rest := [.int 47]) ⟨hx, hb, hml, hown, htg⟩ (c_J0_coder_7d493_30 l D T (xa []) (xa []) (xf []) (xh []) (xv []) (xl []) kK kV s.heap.size) ⟨callB_of 0 htg (xg_ok kw_51) rfl rfl rfl (htg _ kw_3) (htg _ kw_48) (by decide +kernel) ⟨by rw [hR]; exact Nat.le_of_ble_eq_true rfl, by rw [hR]; exact Nat.le_of_ble_eq_true rfl⟩, htg _ kw_49, htg _ kw_50⟩ (xpreVs hK hPc hDc hT hFc hS (xT.recv hT 1 (by decide) hS)) rfl rfl hl.1 rfl (lv_room (Nat.le_of_ble_eq_true rfl)) dJ0_length_8abf5_6 ⟨by rw [hR]; exact Nat.le_of_ble_eq_true rfl, by rw [hR]; exact Nat.le_of_ble_eq_true rfl⟩) hS (fun q _ h => hFc q h) hFc (fun r9 u9 t H1 locs ht hvm hw hB hz1 hk1 hS => ?_)
  subst hw
  obtain ⟨fik, flk, vik, vlk, hP1, hD1, hG⟩ := hB
  rw [ht] at hP1
  obtain ⟨hP, hD⟩ := va_join (wr := []) (w1 := []) hP hD [] [] hC9 rfl (by decide) (by decide) hk1 hFc hP1 hD1
  obtain ⟨rk, er9⟩ : ∃ z, z = r9 := ⟨_, rfl⟩
  subst er9
  clear hPc hDc hFc hP1 hD1 hk1 hz1 hvm ht hC9
  generalize H1 = H at hP hS ⊢
  obtain ⟨hP, hD⟩ := (show xPD D A [] H from ⟨hP, hD⟩)
  obtain ⟨gk_0, -⟩ := hG
  replace gk_0 : rk = 0 := gk_0
  refine xz_i 0 gk_0 ?_
  refine lv_ishr hx hb dJ0_length_8abf5_9 ?_
  refine xz_i 47 (by decide) ?_
  have hP9 := hP.sub (ws' := []) [] rfl
  have hD9 := hD.sub (ws' := []) [] (by decide +kernel) rfl
  rw [hQ]
  exact W.iret (v := 47) hx hb hr (fun t ht hW => ⟨⟨47, 47, rfl, rfl, xf [], xh [], xv [], xl [], by rw [ht]; exact hP9, hD9, ⟨rfl, trivial⟩⟩, hS.F ht⟩) hS.2.2 dJ0_length_8abf5_10
abbrev pre_J0_isLatin1_aae02_30 (T : Nat → ClassId) (a ex : Nat → Nat) (fi : Nat → Nat → Int32) (fl : Nat → Nat → Int64) (vi : Nat → Int32) (vl : Nat → Int64) : va_W := []
set_option maxHeartbeats 8000000 in
set_option maxRecDepth 100000 in
theorem c_J0_isLatin1_aae02_30 (l : Launch) (D : va_G) (T : Nat → ClassId) (a ex : Nat → Nat) (fi : Nat → Nat → Int32) (fl : Nat → Nat → Int64) (vi : Nat → Int32) (vl : Nat → Int64) (kK kV : Nat → Nat) (sz : Nat) : Met l yJ0_isLatin1_aae02 (xw yJ0_isLatin1_aae02 cJ0_isLatin1_aae02 1 (some .boolean)) ({ frames := 0, cells := 0, slots := 0, locals := 0 }) (xPs D T kK kV [.ref (kK 1)] sz (pre_J0_isLatin1_aae02_30 T a ex fi fl vi vl)) (va_Qi (fun r u => r = u) (xC D (va_A (pre_J0_isLatin1_aae02_30 T a ex fi fl vi vl) sz) (fun fj fm vj vm => []) (fun (r : Int32) (fj : Nat → Nat → Int32) (fm : Nat → Nat → Int64) (vj : Nat → Int32) (vm : Nat → Int64) => r = 1 ∧ True)) (va_A (pre_J0_isLatin1_aae02_30 T a ex fi fl vi vl) sz)) 0 0 (va_A (pre_J0_isLatin1_aae02_30 T a ex fi fl vi vl) sz) := by
  refine xofW (cc := cJ0_isLatin1_aae02) (maxL := 1) (ret := (some .boolean)) (by decide) rfl ?_
  intro p e s m args below meth c s₁ R Q hR hQ B hml hv
  obtain ⟨rfl, hsz, hP, hK, hD0, hT⟩ := hv
  have hx := B.exec
  have hb := B.bytes
  have hr := B.returns
  have hts := atoms_spec (ws := xw yJ0_isLatin1_aae02 cJ0_isLatin1_aae02 1 (some .boolean)) B.pre
  have htg : ∀ w ∈ xg, w.before _ s = true := fun w h => hts w (List.mem_cons_of_mem _ h)
  have hown : s.vm.findClass RJ0 = some m.cls := findClass_of_methodNamed B.named
  have hlocks := B.notSynchronized
  subst hsz
  have hD := hD0.self (sz := s.heap.size)
  generalize hAe : va_A (pre_J0_isLatin1_aae02_30 T a ex fi fl vi vl) s.heap.size = A at hD hQ hT
  have hA : ∀ q : Nat, s.heap.size ≤ q → A q := fun q h => by rw [← hAe]; exact Or.inr h
  have hS : va_S A s.heap s.heap [] := va_S.rf
  replace hP : va_P D vwCl [] s.heap := hP
  replace hD : va_D A [] := hD
  have hl := lv_entry ([.ref (kK 1)]) (n := 1) (Nat.le_of_ble_eq_true rfl)
  rw [lg_entry_eq]
  generalize (lg_sl ([.ref (kK 1)]) ++ List.replicate (1 - (lg_sl ([.ref (kK 1)])).length) Slot.unset).toArray = ls at hl ⊢
  replace hl : lv_has ls 1 [(0, .ref (kK 1))] := hl
  refine va_gets hx hb hT.2.2.1 hS hown (htg _ kw_52) (fun _ h9 => h9) dJ0_isLatin1_aae02_0 ?_
  refine lv_if_eq (tgt := 17) hx hb dJ0_isLatin1_aae02_3 (by decide) (fun c => absurd c (by decide)) (fun _ => ?_)
  refine lv_aload_n hx hb dJ0_isLatin1_aae02_6 rfl (lv_at hl 0 rfl) ?_
  refine vk_getf hx hb (hT.2.1 1 (by decide)).2.1 hS hown (htg _ kw_2031) (fun _ h9 => h9) dJ0_isLatin1_aae02_7 ?_
  refine lv_if_ne (tgt := 17) hx hb dJ0_isLatin1_aae02_10 (by decide) (fun c => absurd (by decide) c) (fun _ => ?_)
  refine lv_iconst (v := 1) hx hb dJ0_isLatin1_aae02_13 (by decide) ?_
  refine lv_goto (tgt := 18) hx hb dJ0_isLatin1_aae02_14 (by decide) ?_
  have hP9 := hP.sub (ws' := []) [] rfl
  have hD9 := hD.sub (ws' := []) [] (by decide +kernel) rfl
  rw [hQ]
  exact W.zret (v := 1) hx hb hr rfl (fun t ht hW => ⟨⟨1, 1, rfl, rfl, xf [], xh [], xv [], xl [], by rw [ht]; exact hP9, hD9, ⟨rfl, trivial⟩⟩, hS.F ht⟩) hS.2.2 dJ0_isLatin1_aae02_18
abbrev pre_J3_checkIndex_8e157_13 (T : Nat → ClassId) (a ex : Nat → Nat) (fi : Nat → Nat → Int32) (fl : Nat → Nat → Int64) (vi : Nat → Int32) (vl : Nat → Int64) : va_W := []
set_option maxHeartbeats 8000000 in
set_option maxRecDepth 100000 in
theorem c_J3_checkIndex_8e157_13 (l : Launch) (D : va_G) (T : Nat → ClassId) (a ex : Nat → Nat) (fi : Nat → Nat → Int32) (fl : Nat → Nat → Int64) (vi : Nat → Int32) (vl : Nat → Int64) (sz : Nat) (hp0 : 0 ≤ (vi 0).toInt ∧ (vi 0).toInt ≤ 46) : Met l yJ3_checkIndex_8e157 (xw yJ3_checkIndex_8e157 cJ3_checkIndex_8e157 3 (some .int)) ({ frames := 0, cells := 0, slots := 0, locals := 0 }) (xP D T [.int (vi 0), .int 47, .null] sz (pre_J3_checkIndex_8e157_13 T a ex fi fl vi vl)) (va_Qi (fun r u => r = u) (xC D (va_A (pre_J3_checkIndex_8e157_13 T a ex fi fl vi vl) sz) (fun fj fm vj vm => []) (fun (r : Int32) (fj : Nat → Nat → Int32) (fm : Nat → Nat → Int64) (vj : Nat → Int32) (vm : Nat → Int64) => True)) (va_A (pre_J3_checkIndex_8e157_13 T a ex fi fl vi vl) sz)) 0 0 (va_A (pre_J3_checkIndex_8e157_13 T a ex fi fl vi vl) sz) := by
  refine xofW (cc := cJ3_checkIndex_8e157) (maxL := 3) (ret := (some .int)) (by decide) rfl ?_
  intro p e s m args below meth c s₁ R Q hR hQ B hml hv
  obtain ⟨rfl, hsz, hP, hK, hD0⟩ := hv
  have hx := B.exec
  have hb := B.bytes
  have hr := B.returns
  have hts := atoms_spec (ws := xw yJ3_checkIndex_8e157 cJ3_checkIndex_8e157 3 (some .int)) B.pre
  have htg : ∀ w ∈ xg, w.before _ s = true := fun w h => hts w (List.mem_cons_of_mem _ h)
  have hown : s.vm.findClass RJ3 = some m.cls := findClass_of_methodNamed B.named
  have hlocks := B.notSynchronized
  subst hsz
  have hD := hD0.self (sz := s.heap.size)
  generalize hAe : va_A (pre_J3_checkIndex_8e157_13 T a ex fi fl vi vl) s.heap.size = A at hD hQ
  have hA : ∀ q : Nat, s.heap.size ≤ q → A q := fun q h => by rw [← hAe]; exact Or.inr h
  have hS : va_S A s.heap s.heap [] := va_S.rf
  replace hP : va_P D vwCl [] s.heap := hP
  replace hD : va_D A [] := hD
  have hl := lv_entry ([.int (vi 0), .int 47, .null]) (n := 3) (Nat.le_of_ble_eq_true rfl)
  rw [lg_entry_eq]
  generalize (lg_sl ([.int (vi 0), .int 47, .null]) ++ List.replicate (3 - (lg_sl ([.int (vi 0), .int 47, .null])).length) Slot.unset).toArray = ls at hl ⊢
  replace hl : lv_has ls 3 [(0, .int (vi 0)), (1, .int 47), (2, .null)] := hl
  refine lv_iload_n hx hb dJ3_checkIndex_8e157_0 rfl (lv_at hl 0 rfl) ?_
  refine lv_if_lt (tgt := 9) hx hb dJ3_checkIndex_8e157_1 (by decide) (fun c => by exfalso; have h9 := xlt (k := 0) (by decide) c; have h7 := xrng (vi 0); omega) (fun _ => ?_)
  refine lv_iload_n hx hb dJ3_checkIndex_8e157_4 rfl (lv_at hl 0 rfl) ?_
  refine lv_iload_n hx hb dJ3_checkIndex_8e157_5 rfl (lv_at hl 1 rfl) ?_
  refine lv_icmp_lt (tgt := 16) hx hb dJ3_checkIndex_8e157_6 (by decide) (fun _ => ?_) (fun c => by exfalso; have h9 := xnlt (k := 47) (by decide) c; have h7 := xrng (vi 0); omega)
  refine lv_iload_n hx hb dJ3_checkIndex_8e157_16 rfl (lv_at hl 0 rfl) ?_
  have hP9 := hP.sub (ws' := []) [] rfl
  have hD9 := hD.sub (ws' := []) [] (by decide +kernel) rfl
  rw [hQ]
  exact W.iret (v := (vi 0)) hx hb hr (fun t ht hW => ⟨⟨(vi 0), (vi 0), rfl, rfl, xf [], xh [], xv [], xl [], by rw [ht]; exact hP9, hD9, trivial⟩, hS.F ht⟩) hS.2.2 dJ3_checkIndex_8e157_17
abbrev pre_J3_checkIndex_8e157_14 (T : Nat → ClassId) (a ex : Nat → Nat) (fi : Nat → Nat → Int32) (fl : Nat → Nat → Int64) (vi : Nat → Int32) (vl : Nat → Int64) : va_W := []
set_option maxHeartbeats 8000000 in
set_option maxRecDepth 100000 in
theorem c_J3_checkIndex_8e157_14 (l : Launch) (D : va_G) (T : Nat → ClassId) (a ex : Nat → Nat) (fi : Nat → Nat → Int32) (fl : Nat → Nat → Int64) (vi : Nat → Int32) (vl : Nat → Int64) (sz : Nat) (hp0 : 0 ≤ (vi 0).toInt ∧ (vi 0).toInt ≤ 46) : Met l yJ3_checkIndex_8e157 (xw yJ3_checkIndex_8e157 cJ3_checkIndex_8e157 3 (some .int)) ({ frames := 0, cells := 0, slots := 0, locals := 0 }) (xP D T [.int (vi 0), .int 47, .ref (ex 0)] sz (pre_J3_checkIndex_8e157_14 T a ex fi fl vi vl)) (va_Qi (fun r u => r = u) (xC D (va_A (pre_J3_checkIndex_8e157_14 T a ex fi fl vi vl) sz) (fun fj fm vj vm => []) (fun (r : Int32) (fj : Nat → Nat → Int32) (fm : Nat → Nat → Int64) (vj : Nat → Int32) (vm : Nat → Int64) => True)) (va_A (pre_J3_checkIndex_8e157_14 T a ex fi fl vi vl) sz)) 0 0 (va_A (pre_J3_checkIndex_8e157_14 T a ex fi fl vi vl) sz) := by
  refine xofW (cc := cJ3_checkIndex_8e157) (maxL := 3) (ret := (some .int)) (by decide) rfl ?_
  intro p e s m args below meth c s₁ R Q hR hQ B hml hv
  obtain ⟨rfl, hsz, hP, hK, hD0⟩ := hv
  have hx := B.exec
  have hb := B.bytes
  have hr := B.returns
  have hts := atoms_spec (ws := xw yJ3_checkIndex_8e157 cJ3_checkIndex_8e157 3 (some .int)) B.pre
  have htg : ∀ w ∈ xg, w.before _ s = true := fun w h => hts w (List.mem_cons_of_mem _ h)
  have hown : s.vm.findClass RJ3 = some m.cls := findClass_of_methodNamed B.named
  have hlocks := B.notSynchronized
  subst hsz
  have hD := hD0.self (sz := s.heap.size)
  generalize hAe : va_A (pre_J3_checkIndex_8e157_14 T a ex fi fl vi vl) s.heap.size = A at hD hQ
  have hA : ∀ q : Nat, s.heap.size ≤ q → A q := fun q h => by rw [← hAe]; exact Or.inr h
  have hS : va_S A s.heap s.heap [] := va_S.rf
  replace hP : va_P D vwCl [] s.heap := hP
  replace hD : va_D A [] := hD
  have hl := lv_entry ([.int (vi 0), .int 47, .ref (ex 0)]) (n := 3) (Nat.le_of_ble_eq_true rfl)
  rw [lg_entry_eq]
  generalize (lg_sl ([.int (vi 0), .int 47, .ref (ex 0)]) ++ List.replicate (3 - (lg_sl ([.int (vi 0), .int 47, .ref (ex 0)])).length) Slot.unset).toArray = ls at hl ⊢
  replace hl : lv_has ls 3 [(0, .int (vi 0)), (1, .int 47), (2, .ref (ex 0))] := hl
  refine lv_iload_n hx hb dJ3_checkIndex_8e157_0 rfl (lv_at hl 0 rfl) ?_
  refine lv_if_lt (tgt := 9) hx hb dJ3_checkIndex_8e157_1 (by decide) (fun c => by exfalso; have h9 := xlt (k := 0) (by decide) c; have h7 := xrng (vi 0); omega) (fun _ => ?_)
  refine lv_iload_n hx hb dJ3_checkIndex_8e157_4 rfl (lv_at hl 0 rfl) ?_
  refine lv_iload_n hx hb dJ3_checkIndex_8e157_5 rfl (lv_at hl 1 rfl) ?_
  refine lv_icmp_lt (tgt := 16) hx hb dJ3_checkIndex_8e157_6 (by decide) (fun _ => ?_) (fun c => by exfalso; have h9 := xnlt (k := 47) (by decide) c; have h7 := xrng (vi 0); omega)
  refine lv_iload_n hx hb dJ3_checkIndex_8e157_16 rfl (lv_at hl 0 rfl) ?_
  have hP9 := hP.sub (ws' := []) [] rfl
  have hD9 := hD.sub (ws' := []) [] (by decide +kernel) rfl
  rw [hQ]
  exact W.iret (v := (vi 0)) hx hb hr (fun t ht hW => ⟨⟨(vi 0), (vi 0), rfl, rfl, xf [], xh [], xv [], xl [], by rw [ht]; exact hP9, hD9, trivial⟩, hS.F ht⟩) hS.2.2 dJ3_checkIndex_8e157_17
abbrev pre_J0_checkIndex_df160_7 (T : Nat → ClassId) (a ex : Nat → Nat) (fi : Nat → Nat → Int32) (fl : Nat → Nat → Int64) (vi : Nat → Int32) (vl : Nat → Int64) : va_W := []
set_option maxHeartbeats 8000000 in
set_option maxRecDepth 100000 in
theorem c_J0_checkIndex_df160_7 (l : Launch) (D : va_G) (T : Nat → ClassId) (a ex : Nat → Nat) (fi : Nat → Nat → Int32) (fl : Nat → Nat → Int64) (vi : Nat → Int32) (vl : Nat → Int64) (kK kV : Nat → Nat) (sz : Nat) (hp0 : 0 ≤ (vi 0).toInt ∧ (vi 0).toInt ≤ 46) : Met l yJ0_checkIndex_df160 (xw yJ0_checkIndex_df160 cJ0_checkIndex_df160 2 none) ({ frames := 1, cells := 0, slots := 0, locals := 26 }) (xPs D T kK kV [.int (vi 0), .int 47] sz (pre_J0_checkIndex_df160_7 T a ex fi fl vi vl)) (va_Qv (fun _ : Int32 => True) (xC D (va_A (pre_J0_checkIndex_df160_7 T a ex fi fl vi vl) sz) (fun fj fm vj vm => []) (fun (r : Int32) (fj : Nat → Nat → Int32) (fm : Nat → Nat → Int64) (vj : Nat → Int32) (vm : Nat → Int64) => True)) (va_A (pre_J0_checkIndex_df160_7 T a ex fi fl vi vl) sz)) 0 0 (va_A (pre_J0_checkIndex_df160_7 T a ex fi fl vi vl) sz) := by
  refine xofW (cc := cJ0_checkIndex_df160) (maxL := 2) (ret := none) (by decide) rfl ?_
  intro p e s m args below meth c s₁ R Q hR hQ B hml hv
  obtain ⟨rfl, hsz, hP, hK, hD0, hT⟩ := hv
  have hx := B.exec
  have hb := B.bytes
  have hr := B.returns
  have hts := atoms_spec (ws := xw yJ0_checkIndex_df160 cJ0_checkIndex_df160 2 none) B.pre
  have htg : ∀ w ∈ xg, w.before _ s = true := fun w h => hts w (List.mem_cons_of_mem _ h)
  have hown : s.vm.findClass RJ0 = some m.cls := findClass_of_methodNamed B.named
  have hlocks := B.notSynchronized
  subst hsz
  have hD := hD0.self (sz := s.heap.size)
  generalize hAe : va_A (pre_J0_checkIndex_df160_7 T a ex fi fl vi vl) s.heap.size = A at hD hQ hT
  have hA : ∀ q : Nat, s.heap.size ≤ q → A q := fun q h => by rw [← hAe]; exact Or.inr h
  have hS : va_S A s.heap s.heap [] := va_S.rf
  replace hP : va_P D vwCl [] s.heap := hP
  replace hD : va_D A [] := hD
  have hl := lv_entry ([.int (vi 0), .int 47]) (n := 2) (Nat.le_of_ble_eq_true rfl)
  rw [lg_entry_eq]
  generalize (lg_sl ([.int (vi 0), .int 47]) ++ List.replicate (2 - (lg_sl ([.int (vi 0), .int 47])).length) Slot.unset).toArray = ls at hl ⊢
  replace hl : lv_has ls 2 [(0, .int (vi 0)), (1, .int 47)] := hl
  refine lv_iload_n hx hb dJ0_checkIndex_df160_0 rfl (lv_at hl 0 rfl) ?_
  refine lv_iload_n hx hb dJ0_checkIndex_df160_1 rfl (lv_at hl 1 rfl) ?_
  rcases hT.2.2.2 with hz9 | ⟨z9, hz9⟩
  · refine va_gets hx hb hz9 hS hown (htg _ kw_68) (fun _ h9 => h9) dJ0_checkIndex_df160_2 ?_
    obtain ⟨hC9, hPc, hDc, hFc⟩ := xcut (wc := (pre_J3_checkIndex_8e157_13 T (xa []) (xa []) (xf []) (xh []) (xv [(vi 0)]) (xl []))) hP hD hS hA [] (by decide) rfl
    refine va_calli (va_runS (As := [.int (vi 0), .int 47, .null]) (rest := []) ⟨hx, hb, hml, hown, htg⟩ (c_J3_checkIndex_8e157_13 l D T (xa []) (xa []) (xf []) (xh []) (xv [(vi 0)]) (xl []) s.heap.size hp0) ⟨callB_of 3 htg (xg_ok kw_72) rfl rfl rfl (htg _ kw_5) (htg _ kw_70) (by decide +kernel) ⟨by rw [hR]; exact Nat.le_of_ble_eq_true rfl, by rw [hR]; exact Nat.le_of_ble_eq_true rfl⟩, htg _ kw_71⟩ (xpreS hK hPc hDc) rfl rfl hl.1 rfl (lv_room (Nat.le_of_ble_eq_true rfl)) dJ0_checkIndex_df160_5 ⟨by rw [hR]; exact Nat.le_of_ble_eq_true rfl, by rw [hR]; exact Nat.le_of_ble_eq_true rfl⟩) hS (fun q _ h => hFc q h) hFc (fun r9 u9 t H1 locs ht hvm hw hB hz1 hk1 hS => ?_)
    subst hw
    obtain ⟨fik, flk, vik, vlk, hP1, hD1, hG⟩ := hB
    rw [ht] at hP1
    obtain ⟨hP, hD⟩ := va_join (wr := []) (w1 := []) hP hD [] [] hC9 rfl (by decide) (by decide) hk1 hFc hP1 hD1
    obtain ⟨rk, er9⟩ : ∃ z, z = r9 := ⟨_, rfl⟩
    subst er9
    clear hPc hDc hFc hP1 hD1 hk1 hz1 hvm ht hC9
    generalize H1 = H at hP hS ⊢
    obtain ⟨hP, hD⟩ := (show xPD D A [] H from ⟨hP, hD⟩)
    clear hG
    refine lv_pop hx hb dJ0_checkIndex_df160_8 rfl ?_
    have hP9 := hP.sub (ws' := []) [] rfl
    have hD9 := hD.sub (ws' := []) [] (by decide +kernel) rfl
    rw [hQ]
    exact W.vret hx hb hr (fun t ht hW => ⟨⟨(0 : Int32), rfl, trivial, xf [], xh [], xv [], xl [], by rw [ht]; exact hP9, hD9, trivial⟩, hS.F ht⟩) hS.2.2 dJ0_checkIndex_df160_9
  · refine va_gets hx hb hz9 hS hown (htg _ kw_68) (fun _ h9 => h9) dJ0_checkIndex_df160_2 ?_
    obtain ⟨hC9, hPc, hDc, hFc⟩ := xcut (wc := (pre_J3_checkIndex_8e157_14 T (xa []) (xa [z9]) (xf []) (xh []) (xv [(vi 0)]) (xl []))) hP hD hS hA [] (by decide) rfl
    refine va_calli (va_runS (As := [.int (vi 0), .int 47, .ref z9]) (rest := []) ⟨hx, hb, hml, hown, htg⟩ (c_J3_checkIndex_8e157_14 l D T (xa []) (xa [z9]) (xf []) (xh []) (xv [(vi 0)]) (xl []) s.heap.size hp0) ⟨callB_of 3 htg (xg_ok kw_72) rfl rfl rfl (htg _ kw_5) (htg _ kw_70) (by decide +kernel) ⟨by rw [hR]; exact Nat.le_of_ble_eq_true rfl, by rw [hR]; exact Nat.le_of_ble_eq_true rfl⟩, htg _ kw_71⟩ (xpreS hK hPc hDc) rfl rfl hl.1 rfl (lv_room (Nat.le_of_ble_eq_true rfl)) dJ0_checkIndex_df160_5 ⟨by rw [hR]; exact Nat.le_of_ble_eq_true rfl, by rw [hR]; exact Nat.le_of_ble_eq_true rfl⟩) hS (fun q _ h => hFc q h) hFc (fun r9 u9 t H1 locs ht hvm hw hB hz1 hk1 hS => ?_)
    subst hw
    obtain ⟨fik_1, flk_1, vik_1, vlk_1, hP1, hD1, hG⟩ := hB
    rw [ht] at hP1
    obtain ⟨hP, hD⟩ := va_join (wr := []) (w1 := []) hP hD [] [] hC9 rfl (by decide) (by decide) hk1 hFc hP1 hD1
    obtain ⟨rk_1, er9⟩ : ∃ z, z = r9 := ⟨_, rfl⟩
    subst er9
    clear hPc hDc hFc hP1 hD1 hk1 hz1 hvm ht hC9
    generalize H1 = H at hP hS ⊢
    obtain ⟨hP, hD⟩ := (show xPD D A [] H from ⟨hP, hD⟩)
    clear hG
    refine lv_pop hx hb dJ0_checkIndex_df160_8 rfl ?_
    have hP9 := hP.sub (ws' := []) [] rfl
    have hD9 := hD.sub (ws' := []) [] (by decide +kernel) rfl
    rw [hQ]
    exact W.vret hx hb hr (fun t ht hW => ⟨⟨(0 : Int32), rfl, trivial, xf [], xh [], xv [], xl [], by rw [ht]; exact hP9, hD9, trivial⟩, hS.F ht⟩) hS.2.2 dJ0_checkIndex_df160_9
abbrev pre_J1_charAt_3b067_30 (T : Nat → ClassId) (a ex : Nat → Nat) (fi : Nat → Nat → Int32) (fl : Nat → Nat → Int64) (vi : Nat → Int32) (vl : Nat → Int64) : va_W := []
set_option maxHeartbeats 8000000 in
set_option maxRecDepth 100000 in
theorem c_J1_charAt_3b067_30 (l : Launch) (D : va_G) (T : Nat → ClassId) (a ex : Nat → Nat) (fi : Nat → Nat → Int32) (fl : Nat → Nat → Int64) (vi : Nat → Int32) (vl : Nat → Int64) (kK kV : Nat → Nat) (sz : Nat) (hp0 : 0 ≤ (vi 0).toInt ∧ (vi 0).toInt ≤ 46) : Met l yJ1_charAt_3b067 (xw yJ1_charAt_3b067 cJ1_charAt_3b067 2 (some .char)) ({ frames := 2, cells := 0, slots := 0, locals := 51 }) (xPs D T kK kV [.ref (kV 1), .int (vi 0)] sz (pre_J1_charAt_3b067_30 T a ex fi fl vi vl)) (va_Qi (fun r u => r = u) (xC D (va_A (pre_J1_charAt_3b067_30 T a ex fi fl vi vl) sz) (fun fj fm vj vm => []) (fun (r : Int32) (fj : Nat → Nat → Int32) (fm : Nat → Nat → Int64) (vj : Nat → Int32) (vm : Nat → Int64) => narrow .char (.int r) = .int r ∧ R_J1_charAt_3b067_30 fi fl vi vl r fj fm vj vm ∧ True)) (va_A (pre_J1_charAt_3b067_30 T a ex fi fl vi vl) sz)) 0 0 (va_A (pre_J1_charAt_3b067_30 T a ex fi fl vi vl) sz) := by
  refine xofW (cc := cJ1_charAt_3b067) (maxL := 2) (ret := (some .char)) (by decide) rfl ?_
  intro p e s m args below meth c s₁ R Q hR hQ B hml hv
  obtain ⟨rfl, hsz, hP, hK, hD0, hT⟩ := hv
  have hx := B.exec
  have hb := B.bytes
  have hr := B.returns
  have hts := atoms_spec (ws := xw yJ1_charAt_3b067 cJ1_charAt_3b067 2 (some .char)) B.pre
  have htg : ∀ w ∈ xg, w.before _ s = true := fun w h => hts w (List.mem_cons_of_mem _ h)
  have hown : s.vm.findClass RJ1 = some m.cls := findClass_of_methodNamed B.named
  have hlocks := B.notSynchronized
  subst hsz
  have hD := hD0.self (sz := s.heap.size)
  generalize hAe : va_A (pre_J1_charAt_3b067_30 T a ex fi fl vi vl) s.heap.size = A at hD hQ hT
  have hA : ∀ q : Nat, s.heap.size ≤ q → A q := fun q h => by rw [← hAe]; exact Or.inr h
  have hS : va_S A s.heap s.heap [] := va_S.rf
  replace hP : va_P D vwCl [] s.heap := hP
  replace hD : va_D A [] := hD
  have hl := lv_entry ([.ref (kV 1), .int (vi 0)]) (n := 2) (Nat.le_of_ble_eq_true rfl)
  rw [lg_entry_eq]
  generalize (lg_sl ([.ref (kV 1), .int (vi 0)]) ++ List.replicate (2 - (lg_sl ([.ref (kV 1), .int (vi 0)])).length) Slot.unset).toArray = ls at hl ⊢
  replace hl : lv_has ls 2 [(0, .ref (kV 1)), (1, .int (vi 0))] := hl
  refine lv_iload_n hx hb dJ1_charAt_3b067_0 rfl (lv_at hl 1 rfl) ?_
  refine lv_aload_n hx hb dJ1_charAt_3b067_1 rfl (lv_at hl 0 rfl) ?_
  refine va_tlen (v := 47) hx hb (hT.2.1 1 (by decide)).2.2.2 hS (by decide) dJ1_charAt_3b067_2 ?_
  obtain ⟨hC9, hPc, hDc, hFc⟩ := xcut (wc := (pre_J0_checkIndex_df160_7 T (xa []) (xa []) (xf []) (xh []) (xv [(vi 0)]) (xl []))) hP hD hS hA [] (by decide) rfl
  refine va_callv (va_runS (As := [.int (vi 0), .int 47]) (rest := []) ⟨hx, hb, hml, hown, htg⟩ (c_J0_checkIndex_df160_7 l D T (xa []) (xa []) (xf []) (xh []) (xv [(vi 0)]) (xl []) kK kV s.heap.size hp0) ⟨callB_of 2 htg (xg_ok kw_67) rfl rfl rfl (htg _ kw_3) (htg _ kw_65) (by decide +kernel) ⟨by rw [hR]; exact Nat.le_of_ble_eq_true rfl, by rw [hR]; exact Nat.le_of_ble_eq_true rfl⟩, htg _ kw_66⟩ (xpreSs hK hPc hDc hT hFc hS) rfl rfl hl.1 rfl (lv_room (Nat.le_of_ble_eq_true rfl)) dJ1_charAt_3b067_3 ⟨by rw [hR]; exact Nat.le_of_ble_eq_true rfl, by rw [hR]; exact Nat.le_of_ble_eq_true rfl⟩) hS (fun q _ h => hFc q h) hFc (fun u9 t H1 locs ht hvm hw hB hz1 hk1 hS => ?_)
  obtain ⟨fik, flk, vik, vlk, hP1, hD1, hG⟩ := hB
  rw [ht] at hP1
  obtain ⟨hP, hD⟩ := va_join (wr := []) (w1 := []) hP hD [] [] hC9 rfl (by decide) (by decide) hk1 hFc hP1 hD1
  clear hPc hDc hFc hP1 hD1 hk1 hz1 hvm ht hC9
  generalize H1 = H at hP hS ⊢
  obtain ⟨hP, hD⟩ := (show xPD D A [] H from ⟨hP, hD⟩)
  obtain ⟨uk, eu9⟩ : ∃ z, z = u9 := ⟨_, rfl⟩
  subst eu9
  clear hG
  refine lv_aload_n hx hb dJ1_charAt_3b067_6 rfl (lv_at hl 0 rfl) ?_
  refine lv_iload_n hx hb dJ1_charAt_3b067_7 rfl (lv_at hl 1 rfl) ?_
  refine va_tb hx hb (hT.2.1 1 (by decide)).2.2.2 hS (show vp_in (vi 0) 47 from (vp_in_iff.mpr (by omega))) rfl dJ1_charAt_3b067_8 ?_
  refine lv_topi (fun z8 ez8 => ?_)
  refine lv_sipush (v := 255) hx hb dJ1_charAt_3b067_9 (by decide) ?_
  refine lv_iand hx hb dJ1_charAt_3b067_12 ?_
  refine lv_topi (fun z12 ez12 => ?_)
  have tz12 : 0 ≤ z12.toInt ∧ z12.toInt ≤ 255 := by rw [ez12]; exact xand255 _
  refine lv_i2c hx hb dJ1_charAt_3b067_13 rfl ?_
  refine lv_topi (fun z13 ez13 => ?_)
  have nz13 : narrow .char (.int z13) = .int z13 := by rw [ez13]; exact pk_nc _
  have hP9 := hP.sub (ws' := []) [] rfl
  have hD9 := hD.sub (ws' := []) [] (by decide +kernel) rfl
  rw [hQ]
  exact W.zret (v := z13) hx hb hr nz13 (fun t ht hW => ⟨⟨z13, z13, rfl, rfl, xf [], xh [], xv [], xl [], by rw [ht]; exact hP9, hD9, ⟨nz13, (by unfold R_J1_charAt_3b067_30; exact (fun Q9 k9_0 => k9_0 hp0 fik flk vik vlk uk z8 ez8 z12 ez12 z13 ez13 rfl)), trivial⟩⟩, hS.F ht⟩) hS.2.2 dJ1_charAt_3b067_14
abbrev pre_J0_charAt_5068e_30 (T : Nat → ClassId) (a ex : Nat → Nat) (fi : Nat → Nat → Int32) (fl : Nat → Nat → Int64) (vi : Nat → Int32) (vl : Nat → Int64) : va_W := []
set_option maxHeartbeats 8000000 in
set_option maxRecDepth 100000 in
theorem c_J0_charAt_5068e_30 (l : Launch) (D : va_G) (T : Nat → ClassId) (a ex : Nat → Nat) (fi : Nat → Nat → Int32) (fl : Nat → Nat → Int64) (vi : Nat → Int32) (vl : Nat → Int64) (kK kV : Nat → Nat) (sz : Nat) (hp0 : 0 ≤ (vi 0).toInt ∧ (vi 0).toInt ≤ 46) : Met l yJ0_charAt_5068e (xw yJ0_charAt_5068e cJ0_charAt_5068e 2 (some .char)) ({ frames := 3, cells := 0, slots := 0, locals := 76 }) (xPs D T kK kV [.ref (kK 1), .int (vi 0)] sz (pre_J0_charAt_5068e_30 T a ex fi fl vi vl)) (va_Qi (fun r u => r = u) (xC D (va_A (pre_J0_charAt_5068e_30 T a ex fi fl vi vl) sz) (fun fj fm vj vm => []) (fun (r : Int32) (fj : Nat → Nat → Int32) (fm : Nat → Nat → Int64) (vj : Nat → Int32) (vm : Nat → Int64) => narrow .char (.int r) = .int r ∧ R_J0_charAt_5068e_30 fi fl vi vl r fj fm vj vm ∧ True)) (va_A (pre_J0_charAt_5068e_30 T a ex fi fl vi vl) sz)) 0 0 (va_A (pre_J0_charAt_5068e_30 T a ex fi fl vi vl) sz) := by
  refine xofW (cc := cJ0_charAt_5068e) (maxL := 2) (ret := (some .char)) (by decide) rfl ?_
  intro p e s m args below meth c s₁ R Q hR hQ B hml hv
  obtain ⟨rfl, hsz, hP, hK, hD0, hT⟩ := hv
  have hx := B.exec
  have hb := B.bytes
  have hr := B.returns
  have hts := atoms_spec (ws := xw yJ0_charAt_5068e cJ0_charAt_5068e 2 (some .char)) B.pre
  have htg : ∀ w ∈ xg, w.before _ s = true := fun w h => hts w (List.mem_cons_of_mem _ h)
  have hown : s.vm.findClass RJ0 = some m.cls := findClass_of_methodNamed B.named
  have hlocks := B.notSynchronized
  subst hsz
  have hD := hD0.self (sz := s.heap.size)
  generalize hAe : va_A (pre_J0_charAt_5068e_30 T a ex fi fl vi vl) s.heap.size = A at hD hQ hT
  have hA : ∀ q : Nat, s.heap.size ≤ q → A q := fun q h => by rw [← hAe]; exact Or.inr h
  have hS : va_S A s.heap s.heap [] := va_S.rf
  replace hP : va_P D vwCl [] s.heap := hP
  replace hD : va_D A [] := hD
  have hl := lv_entry ([.ref (kK 1), .int (vi 0)]) (n := 2) (Nat.le_of_ble_eq_true rfl)
  rw [lg_entry_eq]
  generalize (lg_sl ([.ref (kK 1), .int (vi 0)]) ++ List.replicate (2 - (lg_sl ([.ref (kK 1), .int (vi 0)])).length) Slot.unset).toArray = ls at hl ⊢
  replace hl : lv_has ls 2 [(0, .ref (kK 1)), (1, .int (vi 0))] := hl
  refine lv_aload_n hx hb dJ0_charAt_5068e_0 rfl (lv_at hl 0 rfl) ?_
  obtain ⟨hC9, hPc, hDc, hFc⟩ := xcut (wc := (pre_J0_isLatin1_aae02_30 T (xa []) (xa []) (xf []) (xh []) (xv []) (xl []))) hP hD hS hA [] (by decide) rfl
  refine va_calli (va_runV (As := []) (rest := []) ⟨hx, hb, hml, hown, htg⟩ (c_J0_isLatin1_aae02_30 l D T (xa []) (xa []) (xf []) (xh []) (xv []) (xl []) kK kV s.heap.size) ⟨callB_of 0 htg (xg_ok kw_61) rfl rfl rfl (htg _ kw_3) (htg _ kw_58) (by decide +kernel) ⟨by rw [hR]; exact Nat.le_of_ble_eq_true rfl, by rw [hR]; exact Nat.le_of_ble_eq_true rfl⟩, htg _ kw_59, htg _ kw_60⟩ (xpreVs hK hPc hDc hT hFc hS (xT.recv hT 1 (by decide) hS)) rfl rfl hl.1 rfl (lv_room (Nat.le_of_ble_eq_true rfl)) dJ0_charAt_5068e_1 ⟨by rw [hR]; exact Nat.le_of_ble_eq_true rfl, by rw [hR]; exact Nat.le_of_ble_eq_true rfl⟩) hS (fun q _ h => hFc q h) hFc (fun r9 u9 t H1 locs ht hvm hw hB hz1 hk1 hS => ?_)
  subst hw
  obtain ⟨fik, flk, vik, vlk, hP1, hD1, hG⟩ := hB
  rw [ht] at hP1
  obtain ⟨hP, hD⟩ := va_join (wr := []) (w1 := []) hP hD [] [] hC9 rfl (by decide) (by decide) hk1 hFc hP1 hD1
  obtain ⟨rk, er9⟩ : ∃ z, z = r9 := ⟨_, rfl⟩
  subst er9
  clear hPc hDc hFc hP1 hD1 hk1 hz1 hvm ht hC9
  generalize H1 = H at hP hS ⊢
  obtain ⟨hP, hD⟩ := (show xPD D A [] H from ⟨hP, hD⟩)
  obtain ⟨gk_0, -⟩ := hG
  replace gk_0 : rk = 1 := gk_0
  refine xz_i 1 gk_0 ?_
  refine lv_if_eq (tgt := 16) hx hb dJ0_charAt_5068e_4 (by decide) (fun c => absurd c (by decide)) (fun _ => ?_)
  refine lv_aload_n hx hb dJ0_charAt_5068e_7 rfl (lv_at hl 0 rfl) ?_
  refine vk_getf hx hb (hT.2.1 1 (by decide)).2.2.1 hS hown (htg _ kw_2030) (fun _ h9 => h9) dJ0_charAt_5068e_8 ?_
  refine lv_iload_n hx hb dJ0_charAt_5068e_11 rfl (lv_at hl 1 rfl) ?_
  obtain ⟨hC9, hPc, hDc, hFc⟩ := xcut (wc := (pre_J1_charAt_3b067_30 T (xa []) (xa []) (xf []) (xh []) (xv [(vi 0)]) (xl []))) hP hD hS hA [] (by decide) rfl
  refine va_calli (va_runS (As := [.ref (kV 1), .int (vi 0)]) (rest := []) ⟨hx, hb, hml, hown, htg⟩ (c_J1_charAt_3b067_30 l D T (xa []) (xa []) (xf []) (xh []) (xv [(vi 0)]) (xl []) kK kV H.size hp0) ⟨callB_of 2 htg (xg_ok kw_64) rfl rfl rfl (htg _ kw_4) (htg _ kw_62) (by decide +kernel) ⟨by rw [hR]; exact Nat.le_of_ble_eq_true rfl, by rw [hR]; exact Nat.le_of_ble_eq_true rfl⟩, htg _ kw_63⟩ (xpreSs hK hPc hDc hT hFc hS) rfl rfl hl.1 rfl (lv_room (Nat.le_of_ble_eq_true rfl)) dJ0_charAt_5068e_12 ⟨by rw [hR]; exact Nat.le_of_ble_eq_true rfl, by rw [hR]; exact Nat.le_of_ble_eq_true rfl⟩) hS (fun q _ h => hFc q h) hFc (fun r9 u9 t H1 locs ht hvm hw hB hz1 hk1 hS => ?_)
  subst hw
  obtain ⟨fik_1, flk_1, vik_1, vlk_1, hP1, hD1, hG⟩ := hB
  rw [ht] at hP1
  obtain ⟨hP, hD⟩ := va_join (wr := []) (w1 := []) hP hD [] [] hC9 rfl (by decide) (by decide) hk1 hFc hP1 hD1
  obtain ⟨rk_1, er9⟩ : ∃ z, z = r9 := ⟨_, rfl⟩
  subst er9
  clear hPc hDc hFc hP1 hD1 hk1 hz1 hvm ht hC9
  generalize H1 = H at hP hS ⊢
  obtain ⟨hP, hD⟩ := (show xPD D A [] H from ⟨hP, hD⟩)
  obtain ⟨gk_1_0, gk_1_1, -⟩ := hG
  replace gk_1_1 : rk_1 = (sBy.getD 1 []).getD ((vi 0).toInt).toNat 0 := (P_J1_charAt_3b067_30 gk_1_1 : _)
  replace gk_1_0 : narrow .char (.int rk_1) = .int rk_1 := gk_1_0
  have hP9 := hP.sub (ws' := []) [] rfl
  have hD9 := hD.sub (ws' := []) [] (by decide +kernel) rfl
  rw [hQ]
  exact W.zret (v := rk_1) hx hb hr gk_1_0 (fun t ht hW => ⟨⟨rk_1, rk_1, rfl, rfl, xf [], xh [], xv [], xl [], by rw [ht]; exact hP9, hD9, ⟨gk_1_0, (by unfold R_J0_charAt_5068e_30; exact (fun Q9 k9_0 => k9_0 hp0 fik flk vik vlk rk gk_0 fik_1 flk_1 vik_1 vlk_1 rk_1 gk_1_1 rfl)), trivial⟩⟩, hS.F ht⟩) hS.2.2 dJ0_charAt_5068e_15
abbrev pre_X6_keepOwn_2 (T : Nat → ClassId) (a ex : Nat → Nat) (fi : Nat → Nat → Int32) (fl : Nat → Nat → Int64) (vi : Nat → Int32) (vl : Nat → Int64) : va_W := [((a 0), .inr (6, [.ref (ex 0), .ref (a 1), .int (vi 0), .int (vi 1), .int (vi 2), .int (vi 3), .int (vi 4), .int (vi 5), .long (vl 0), .int (vi 6), .int (vi 7), .int (vi 8), .int (vi 9), .int (vi 10)])), ((a 1), .inl (T 2, 27, .inr (.inl (fl 0))))]
set_option maxHeartbeats 8000000 in
set_option maxRecDepth 100000 in
theorem c_X6_keepOwn_2 (l : Launch) (D : va_G) (T : Nat → ClassId) (a ex : Nat → Nat) (fi : Nat → Nat → Int32) (fl : Nat → Nat → Int64) (vi : Nat → Int32) (vl : Nat → Int64) (kK kV : Nat → Nat) (sz : Nat) (hp0 : 0 ≤ (vi 1).toInt ∧ (vi 1).toInt ≤ 940) (hp1 : 0 ≤ (vi 2).toInt ∧ (vi 2).toInt ≤ 940) (hp2 : 0 ≤ (vi 3).toInt ∧ (vi 3).toInt ≤ 940) (hp3 : 0 ≤ (vi 5).toInt ∧ (vi 5).toInt ≤ 940) (hp4 : 0 ≤ (vi 10).toInt ∧ (vi 10).toInt ≤ 940) (hp5 : (vi 0).toInt = 8) : Met l yX6_keepOwn (xw yX6_keepOwn cX6_keepOwn 5 none) ({ frames := 4, cells := 0, slots := 0, locals := 101 }) (xPs D T kK kV [.ref (a 0), .ref (kK 1)] sz (pre_X6_keepOwn_2 T a ex fi fl vi vl)) (va_Qv (fun _ : Int32 => True) (xC D (va_A (pre_X6_keepOwn_2 T a ex fi fl vi vl) sz) (fun fj fm vj vm => [((a 0), .inr (6, [.ref (ex 0), .ref (a 1), .int (vj 0), .int (vi 1), .int (vi 2), .int (vi 3), .int (vi 4), .int (vi 5), .long (vl 0), .int (vi 6), .int (vi 7), .int (vi 8), .int (vi 9), .int (vi 10)])), ((a 1), .inl (T 2, 27, .inr (.inl (fm 0))))]) (fun (r : Int32) (fj : Nat → Nat → Int32) (fm : Nat → Nat → Int64) (vj : Nat → Int32) (vm : Nat → Int64) => ((fm 0) = kF (sBy.getD 1 []) 8 (fl 0) 47) ∧ ((vj 0).toInt = 16) ∧ True)) (va_A (pre_X6_keepOwn_2 T a ex fi fl vi vl) sz)) 0 0 (va_A (pre_X6_keepOwn_2 T a ex fi fl vi vl) sz) := by
  refine xofW (cc := cX6_keepOwn) (maxL := 5) (ret := none) (by decide) rfl ?_
  intro p e s m args below meth c s₁ R Q hR hQ B hml hv
  obtain ⟨rfl, hsz, hP, hK, hD0, hT⟩ := hv
  have hx := B.exec
  have hb := B.bytes
  have hr := B.returns
  have hts := atoms_spec (ws := xw yX6_keepOwn cX6_keepOwn 5 none) B.pre
  have htg : ∀ w ∈ xg, w.before _ s = true := fun w h => hts w (List.mem_cons_of_mem _ h)
  have hown : s.vm.findClass RX6 = some m.cls := findClass_of_methodNamed B.named
  have hlocks := B.notSynchronized
  subst hsz
  have hD := hD0.self (sz := s.heap.size)
  generalize hAe : va_A (pre_X6_keepOwn_2 T a ex fi fl vi vl) s.heap.size = A at hD hQ hT
  have hA : ∀ q : Nat, s.heap.size ≤ q → A q := fun q h => by rw [← hAe]; exact Or.inr h
  have hS : va_S A s.heap s.heap [] := va_S.rf
  replace hP : va_P D vwCl [((a 0), .inr (6, [.ref (ex 0), .ref (a 1), .int (vi 0), .int (vi 1), .int (vi 2), .int (vi 3), .int (vi 4), .int (vi 5), .long (vl 0), .int (vi 6), .int (vi 7), .int (vi 8), .int (vi 9), .int (vi 10)])), ((a 1), .inl (T 2, 27, .inr (.inl (fl 0))))] s.heap := hP
  replace hD : va_D A [((a 0), .inr (6, [.ref (ex 0), .ref (a 1), .int (vi 0), .int (vi 1), .int (vi 2), .int (vi 3), .int (vi 4), .int (vi 5), .long (vl 0), .int (vi 6), .int (vi 7), .int (vi 8), .int (vi 9), .int (vi 10)])), ((a 1), .inl (T 2, 27, .inr (.inl (fl 0))))] := hD
  have hl := lv_entry ([.ref (a 0), .ref (kK 1)]) (n := 5) (Nat.le_of_ble_eq_true rfl)
  rw [lg_entry_eq]
  generalize (lg_sl ([.ref (a 0), .ref (kK 1)]) ++ List.replicate (5 - (lg_sl ([.ref (a 0), .ref (kK 1)])).length) Slot.unset).toArray = ls at hl ⊢
  replace hl : lv_has ls 5 [(0, .ref (a 0)), (1, .ref (kK 1))] := hl
  refine lv_lconst (v := 0) hx hb dX6_keepOwn_0 (by decide) ?_
  refine lv_lstore_n (lv' := [(2, .long 0), (0, .ref (a 0)), (1, .ref (kK 1))]) hx hb dX6_keepOwn_1 rfl hl (by decide) rfl (fun ls hl => ?_)
  refine lv_iconst (v := 0) hx hb dX6_keepOwn_2 (by decide) ?_
  refine lv_istore (lv' := [(4, .int 0), (2, .long 0), (0, .ref (a 0)), (1, .ref (kK 1))]) hx hb dX6_keepOwn_3 hl (by decide) rfl (fun ls hl => ?_)
  have lp : ∀ (kn : Nat) (w4 : Int32) (w2 : Int64) (wf : Nat → Int64) (wv : Int32) (H : Heap) (locs : List Loc) (ls : Array Slot), (0 ≤ w4.toInt ∧ w4.toInt ≤ 47) → (0 ≤ wv.toInt ∧ wv.toInt ≤ 27) → (w2 = kP (sBy.getD 1 []) (w4.toInt).toNat) → ((wv).toInt = ((kC (sBy.getD 1 []) 8 (w4.toInt).toNat : Nat) : Int)) → (wf = kF (sBy.getD 1 []) 8 (fl 0) (w4.toInt).toNat) → (2147483648 - w4.toInt).toNat = kn → va_P D vwCl [((a 0), .inr (6, [.ref (ex 0), .ref (a 1), .int wv, .int (vi 1), .int (vi 2), .int (vi 3), .int (vi 4), .int (vi 5), .long (vl 0), .int (vi 6), .int (vi 7), .int (vi 8), .int (vi 9), .int (vi 10)])), ((a 1), .inl (T 2, 27, .inr (.inl wf)))] H → va_D A [((a 0), .inr (6, [.ref (ex 0), .ref (a 1), .int wv, .int (vi 1), .int (vi 2), .int (vi 3), .int (vi 4), .int (vi 5), .long (vl 0), .int (vi 6), .int (vi 7), .int (vi 8), .int (vi 9), .int (vi 10)])), ((a 1), .inl (T 2, 27, .inr (.inl wf)))] → va_S A s.heap H locs → lv_has ls 5 [(4, .int w4), (2, .long w2), (0, .ref (a 0)), (1, .ref (kK 1))] → W p l e R s m ([.ref (a 0), .ref (kK 1)] : List Value).toArray below meth c H locs 0 0 Q (F0 m 5 ls []) := by
    intro kn
    induction kn using Nat.strongRecOn with
    | _ kn ih =>
      intro w4 w2 wf wv H locs ls hi hi_1 hkp9 hkc9 hkf9 hm hP hD hS hl
      refine lv_iload hx hb dX6_keepOwn_5 (lv_at hl 0 rfl) ?_
      refine lv_aload_n hx hb dX6_keepOwn_7 rfl (lv_at hl 3 rfl) ?_
      obtain ⟨hC9, hPc, hDc, hFc⟩ := xcut (wc := (pre_J0_length_8abf5_30 T (xa []) (xa []) (xf []) (xh []) (xv []) (xl []))) hP hD hS hA [] (by decide) rfl
      refine va_calli (va_runV (As := []) (rest := [.int w4]) ⟨hx, hb, hml, hown, htg⟩ (c_J0_length_8abf5_30 l D T (xa []) (xa []) (xf []) (xh []) (xv []) (xl []) kK kV H.size) ⟨callB_of 0 htg (xg_ok kw_47) rfl rfl rfl (htg _ kw_3) (htg _ kw_44) (by decide +kernel) ⟨by rw [hR]; exact Nat.le_of_ble_eq_true rfl, by rw [hR]; exact Nat.le_of_ble_eq_true rfl⟩, htg _ kw_45, htg _ kw_46⟩ (xpreVs hK hPc hDc hT hFc hS (xT.recv hT 1 (by decide) hS)) rfl rfl hl.1 rfl (lv_room (Nat.le_of_ble_eq_true rfl)) dX6_keepOwn_8 ⟨by rw [hR]; exact Nat.le_of_ble_eq_true rfl, by rw [hR]; exact Nat.le_of_ble_eq_true rfl⟩) hS (fun q _ h => hFc q h) hFc (fun r9 u9 t H1 locs ht hvm hw hB hz1 hk1 hS => ?_)
      subst hw
      obtain ⟨fik, flk, vik, vlk, hP1, hD1, hG⟩ := hB
      rw [ht] at hP1
      obtain ⟨hP, hD⟩ := va_join (wr := [((a 0), .inr (6, [.ref (ex 0), .ref (a 1), .int wv, .int (vi 1), .int (vi 2), .int (vi 3), .int (vi 4), .int (vi 5), .long (vl 0), .int (vi 6), .int (vi 7), .int (vi 8), .int (vi 9), .int (vi 10)])), ((a 1), .inl (T 2, 27, .inr (.inl wf)))]) (w1 := []) hP hD [] [0, 1] hC9 rfl (by decide) (by decide) hk1 hFc hP1 hD1
      obtain ⟨rk, er9⟩ : ∃ z, z = r9 := ⟨_, rfl⟩
      subst er9
      clear hPc hDc hFc hP1 hD1 hk1 hz1 hvm ht hC9
      generalize H1 = H at hP hS ⊢
      obtain ⟨hP, hD⟩ := (show xPD D A [((a 0), .inr (6, [.ref (ex 0), .ref (a 1), .int wv, .int (vi 1), .int (vi 2), .int (vi 3), .int (vi 4), .int (vi 5), .long (vl 0), .int (vi 6), .int (vi 7), .int (vi 8), .int (vi 9), .int (vi 10)])), ((a 1), .inl (T 2, 27, .inr (.inl wf)))] H from ⟨hP, hD⟩)
      obtain ⟨gk_0, -⟩ := hG
      replace gk_0 : rk = 47 := gk_0
      refine xz_i 47 gk_0 ?_
      refine lv_icmp_ge (tgt := 78) hx hb dX6_keepOwn_11 (by decide) (fun c11 => ?_) (fun c11 => ?_)
      · have c11 := xge (k := 47) (by decide) c11
        have hP9 := hP.sub (ws' := [((a 0), .inr (6, [.ref (ex 0), .ref (a 1), .int wv, .int (vi 1), .int (vi 2), .int (vi 3), .int (vi 4), .int (vi 5), .long (vl 0), .int (vi 6), .int (vi 7), .int (vi 8), .int (vi 9), .int (vi 10)])), ((a 1), .inl (T 2, 27, .inr (.inl wf)))]) [0, 1] rfl
        have hD9 := hD.sub (ws' := [((a 0), .inr (6, [.ref (ex 0), .ref (a 1), .int wv, .int (vi 1), .int (vi 2), .int (vi 3), .int (vi 4), .int (vi 5), .long (vl 0), .int (vi 6), .int (vi 7), .int (vi 8), .int (vi 9), .int (vi 10)])), ((a 1), .inl (T 2, 27, .inr (.inl wf)))]) [0, 1] (by decide +kernel) rfl
        rw [hQ]
        exact W.vret hx hb hr (fun t ht hW => ⟨⟨(0 : Int32), rfl, trivial, xf [], xh [wf], xv [wv], xl [], by rw [ht]; exact hP9, hD9, ⟨(by show wf = kF (sBy.getD 1 []) 8 (fl 0) 47; first | (exfalso; have h8 := kx_1 (w4.toInt).toNat (by omega); omega) | (have h7 : (w4.toInt).toNat = 47 := (by omega); rw [hkf9, h7])), (by show (wv).toInt = 16; first | (exfalso; have h8 := kx_1 (w4.toInt).toNat (by omega); omega) | (have h7 : (w4.toInt).toNat = 47 := (by omega); rw [h7, ky_1] at hkc9; omega)), trivial⟩⟩, hS.F ht⟩) hS.2.2 dX6_keepOwn_78
      · have c11 := xnge (k := 47) (by decide) c11
        refine lv_aload_n hx hb dX6_keepOwn_14 rfl (lv_at hl 2 rfl) ?_
        refine va_get (D := D) (ci := 6) (v := .int wv) (C := RX6) (T := TX6) (N := 14) hx hb htg inX6 hown hK.1 hP 0 rfl rfl 2 (by decide) (htg _ kw_96) (fun _ h9 => h9) rfl dX6_keepOwn_15 ?_
        refine lv_bipush (v := 27) hx hb dX6_keepOwn_18 (by decide) ?_
        refine lv_icmp_ge (tgt := 78) hx hb dX6_keepOwn_20 (by decide) (fun c20 => ?_) (fun c20 => ?_)
        · have c20 := xge (k := 27) (by decide) c20
          have hP9 := hP.sub (ws' := [((a 0), .inr (6, [.ref (ex 0), .ref (a 1), .int wv, .int (vi 1), .int (vi 2), .int (vi 3), .int (vi 4), .int (vi 5), .long (vl 0), .int (vi 6), .int (vi 7), .int (vi 8), .int (vi 9), .int (vi 10)])), ((a 1), .inl (T 2, 27, .inr (.inl wf)))]) [0, 1] rfl
          have hD9 := hD.sub (ws' := [((a 0), .inr (6, [.ref (ex 0), .ref (a 1), .int wv, .int (vi 1), .int (vi 2), .int (vi 3), .int (vi 4), .int (vi 5), .long (vl 0), .int (vi 6), .int (vi 7), .int (vi 8), .int (vi 9), .int (vi 10)])), ((a 1), .inl (T 2, 27, .inr (.inl wf)))]) [0, 1] (by decide +kernel) rfl
          rw [hQ]
          exact W.vret hx hb hr (fun t ht hW => ⟨⟨(0 : Int32), rfl, trivial, xf [], xh [wf], xv [wv], xl [], by rw [ht]; exact hP9, hD9, ⟨(by show wf = kF (sBy.getD 1 []) 8 (fl 0) 47; first | (exfalso; have h8 := kx_1 (w4.toInt).toNat (by omega); omega) | (have h7 : (w4.toInt).toNat = 47 := (by omega); rw [hkf9, h7])), (by show (wv).toInt = 16; first | (exfalso; have h8 := kx_1 (w4.toInt).toNat (by omega); omega) | (have h7 : (w4.toInt).toNat = 47 := (by omega); rw [h7, ky_1] at hkc9; omega)), trivial⟩⟩, hS.F ht⟩) hS.2.2 dX6_keepOwn_78
        · have c20 := xnge (k := 27) (by decide) c20
          refine lv_aload_n hx hb dX6_keepOwn_23 rfl (lv_at hl 3 rfl) ?_
          refine lv_iload hx hb dX6_keepOwn_24 (lv_at hl 0 rfl) ?_
          obtain ⟨hC9, hPc, hDc, hFc⟩ := xcut (wc := (pre_J0_charAt_5068e_30 T (xa []) (xa []) (xf []) (xh []) (xv [w4]) (xl []))) hP hD hS hA [] (by decide) rfl
          refine va_calli (va_runV (As := [.int w4]) (rest := []) ⟨hx, hb, hml, hown, htg⟩ (c_J0_charAt_5068e_30 l D T (xa []) (xa []) (xf []) (xh []) (xv [w4]) (xl []) kK kV H.size (by show 0 ≤ w4.toInt ∧ w4.toInt ≤ 46; omega)) ⟨callB_of 1 htg (xg_ok kw_57) rfl rfl rfl (htg _ kw_3) (htg _ kw_54) (by decide +kernel) ⟨by rw [hR]; exact Nat.le_of_ble_eq_true rfl, by rw [hR]; exact Nat.le_of_ble_eq_true rfl⟩, htg _ kw_55, htg _ kw_56⟩ (xpreVs hK hPc hDc hT hFc hS (xT.recv hT 1 (by decide) hS)) rfl rfl hl.1 rfl (lv_room (Nat.le_of_ble_eq_true rfl)) dX6_keepOwn_26 ⟨by rw [hR]; exact Nat.le_of_ble_eq_true rfl, by rw [hR]; exact Nat.le_of_ble_eq_true rfl⟩) hS (fun q _ h => hFc q h) hFc (fun r9 u9 t H1 locs ht hvm hw hB hz1 hk1 hS => ?_)
          subst hw
          obtain ⟨fik_1, flk_1, vik_1, vlk_1, hP1, hD1, hG⟩ := hB
          rw [ht] at hP1
          obtain ⟨hP, hD⟩ := va_join (wr := [((a 0), .inr (6, [.ref (ex 0), .ref (a 1), .int wv, .int (vi 1), .int (vi 2), .int (vi 3), .int (vi 4), .int (vi 5), .long (vl 0), .int (vi 6), .int (vi 7), .int (vi 8), .int (vi 9), .int (vi 10)])), ((a 1), .inl (T 2, 27, .inr (.inl wf)))]) (w1 := []) hP hD [] [0, 1] hC9 rfl (by decide) (by decide) hk1 hFc hP1 hD1
          obtain ⟨rk_1, er9⟩ : ∃ z, z = r9 := ⟨_, rfl⟩
          subst er9
          clear hPc hDc hFc hP1 hD1 hk1 hz1 hvm ht hC9
          generalize H1 = H at hP hS ⊢
          obtain ⟨hP, hD⟩ := (show xPD D A [((a 0), .inr (6, [.ref (ex 0), .ref (a 1), .int wv, .int (vi 1), .int (vi 2), .int (vi 3), .int (vi 4), .int (vi 5), .long (vl 0), .int (vi 6), .int (vi 7), .int (vi 8), .int (vi 9), .int (vi 10)])), ((a 1), .inl (T 2, 27, .inr (.inl wf)))] H from ⟨hP, hD⟩)
          obtain ⟨gk_1_0, gk_1_1, -⟩ := hG
          replace gk_1_1 : rk_1 = (sBy.getD 1 []).getD (w4.toInt).toNat 0 := (P_J0_charAt_5068e_30 gk_1_1 : _)
          replace gk_1_0 : narrow .char (.int rk_1) = .int rk_1 := gk_1_0
          refine lv_bipush (v := 32) hx hb dX6_keepOwn_29 (by decide) ?_
          refine lv_icmp_ne (tgt := 59) hx hb dX6_keepOwn_31 (by decide) (fun c31 => ?_) (fun c31 => ?_)
          · have c31 := xne (k := 32) (by decide) c31
            refine lv_lload_n hx hb dX6_keepOwn_59 rfl (lv_at hl 1 rfl) ?_
            refine lv_bipush (v := 8) hx hb dX6_keepOwn_60 (by decide) ?_
            refine lv_lshl hx hb dX6_keepOwn_62 rfl ?_
            refine lv_topl (fun z62 ez62 => ?_)
            refine lv_aload_n hx hb dX6_keepOwn_63 rfl (lv_at hl 3 rfl) ?_
            refine lv_iload hx hb dX6_keepOwn_64 (lv_at hl 0 rfl) ?_
            obtain ⟨hC9, hPc, hDc, hFc⟩ := xcut (wc := (pre_J0_charAt_5068e_30 T (xa []) (xa []) (xf []) (xh []) (xv [w4]) (xl []))) hP hD hS hA [] (by decide) rfl
            refine va_calli (va_runV (As := [.int w4]) (rest := [.long z62]) ⟨hx, hb, hml, hown, htg⟩ (c_J0_charAt_5068e_30 l D T (xa []) (xa []) (xf []) (xh []) (xv [w4]) (xl []) kK kV H.size (by show 0 ≤ w4.toInt ∧ w4.toInt ≤ 46; omega)) ⟨callB_of 1 htg (xg_ok kw_57) rfl rfl rfl (htg _ kw_3) (htg _ kw_54) (by decide +kernel) ⟨by rw [hR]; exact Nat.le_of_ble_eq_true rfl, by rw [hR]; exact Nat.le_of_ble_eq_true rfl⟩, htg _ kw_55, htg _ kw_56⟩ (xpreVs hK hPc hDc hT hFc hS (xT.recv hT 1 (by decide) hS)) rfl rfl hl.1 rfl (lv_room (Nat.le_of_ble_eq_true rfl)) dX6_keepOwn_66 ⟨by rw [hR]; exact Nat.le_of_ble_eq_true rfl, by rw [hR]; exact Nat.le_of_ble_eq_true rfl⟩) hS (fun q _ h => hFc q h) hFc (fun r9 u9 t H1 locs ht hvm hw hB hz1 hk1 hS => ?_)
            subst hw
            obtain ⟨fik_2, flk_2, vik_2, vlk_2, hP1, hD1, hG⟩ := hB
            rw [ht] at hP1
            obtain ⟨hP, hD⟩ := va_join (wr := [((a 0), .inr (6, [.ref (ex 0), .ref (a 1), .int wv, .int (vi 1), .int (vi 2), .int (vi 3), .int (vi 4), .int (vi 5), .long (vl 0), .int (vi 6), .int (vi 7), .int (vi 8), .int (vi 9), .int (vi 10)])), ((a 1), .inl (T 2, 27, .inr (.inl wf)))]) (w1 := []) hP hD [] [0, 1] hC9 rfl (by decide) (by decide) hk1 hFc hP1 hD1
            obtain ⟨rk_2, er9⟩ : ∃ z, z = r9 := ⟨_, rfl⟩
            subst er9
            clear hPc hDc hFc hP1 hD1 hk1 hz1 hvm ht hC9
            generalize H1 = H at hP hS ⊢
            obtain ⟨hP, hD⟩ := (show xPD D A [((a 0), .inr (6, [.ref (ex 0), .ref (a 1), .int wv, .int (vi 1), .int (vi 2), .int (vi 3), .int (vi 4), .int (vi 5), .long (vl 0), .int (vi 6), .int (vi 7), .int (vi 8), .int (vi 9), .int (vi 10)])), ((a 1), .inl (T 2, 27, .inr (.inl wf)))] H from ⟨hP, hD⟩)
            obtain ⟨gk_2_0, gk_2_1, -⟩ := hG
            replace gk_2_1 : rk_2 = (sBy.getD 1 []).getD (w4.toInt).toNat 0 := (P_J0_charAt_5068e_30 gk_2_1 : _)
            replace gk_2_0 : narrow .char (.int rk_2) = .int rk_2 := gk_2_0
            refine lv_i2l hx hb dX6_keepOwn_69 rfl ?_
            refine lv_topl (fun z69 ez69 => ?_)
            refine lv_lor hx hb dX6_keepOwn_70 ?_
            refine lv_topl (fun z70 ez70 => ?_)
            refine lv_lstore_n (lv' := [(2, .long z70), (4, .int w4), (0, .ref (a 0)), (1, .ref (kK 1))]) hx hb dX6_keepOwn_71 rfl hl (by decide) rfl (fun ls hl => ?_)
            obtain ⟨i72, ei72⟩ : ∃ z : Int32, w4 + Int32.ofInt 1 = z := ⟨_, rfl⟩
            have ti72 : i72.toInt = w4.toInt + 1 := by rw [← ei72]; have h79 := xrng w4; exact xadd rfl (by decide) (by omega) (by omega)
            refine lv_iinc (v := i72) (lv' := [(4, .int i72), (2, .long z70), (0, .ref (a 0)), (1, .ref (kK 1))]) hx hb dX6_keepOwn_72 hl (k := 1) rfl ei72 (by decide) rfl (fun ls hl => ?_)
            refine lv_goto (tgt := 5) hx hb dX6_keepOwn_75 (by decide) ?_
            exact ih _ (by omega) i72 z70 wf wv _ _ _ (by show 0 ≤ i72.toInt ∧ i72.toInt ≤ 47; omega) hi_1 (by show z70 = kP (sBy.getD 1 []) (i72.toInt).toNat; rw [ez70, ez62, ez69]; exact kP_l c31 (by assumption) (by omega) (by omega) hkp9 (by assumption)) (by show (wv).toInt = ((kC (sBy.getD 1 []) 8 (i72.toInt).toNat : Nat) : Int); exact kC_l c31 (by assumption) (by omega) (by omega) hkc9) (by show wf = kF (sBy.getD 1 []) 8 (fl 0) (i72.toInt).toNat; exact kF_l c31 (by assumption) (by omega) (by omega) hkf9) rfl (hP.sub [0, 1] rfl) (hD.sub [0, 1] (by decide) rfl) hS (lv_sub hl [0, 1, 2, 3] rfl)
          · have c31 := xeq (k := 32) (by decide) c31
            refine lv_aload_n hx hb dX6_keepOwn_34 rfl (lv_at hl 2 rfl) ?_
            refine va_get (D := D) (ci := 6) (v := .ref (a 1)) (C := RX6) (T := TX6) (N := 14) hx hb htg inX6 hown hK.1 hP 0 rfl rfl 1 (by decide) (htg _ kw_95) (fun _ h9 => h9) rfl dX6_keepOwn_35 ?_
            refine lv_aload_n hx hb dX6_keepOwn_38 rfl (lv_at hl 2 rfl) ?_
            refine va_get (D := D) (ci := 6) (v := .int wv) (C := RX6) (T := TX6) (N := 14) hx hb htg inX6 hown hK.1 hP 0 rfl rfl 2 (by decide) (htg _ kw_96) (fun _ h9 => h9) rfl dX6_keepOwn_39 ?_
            refine lv_lload_n hx hb dX6_keepOwn_42 rfl (lv_at hl 1 rfl) ?_
            refine va_last hx hb hK.1 hP hD hS 1 2 rfl rfl (vp_in_iff.mpr (by omega)) dX6_keepOwn_43 (fun H locs hP hD hS => ?_)
            obtain ⟨f43, ef43, hP, hD⟩ : ∃ f7 : Nat → Int64, f7 = vp_updL wf wv.toNatClampNeg (w2 : Int64) ∧ va_P D vwCl [((a 0), .inr (6, [.ref (ex 0), .ref (a 1), .int wv, .int (vi 1), .int (vi 2), .int (vi 3), .int (vi 4), .int (vi 5), .long (vl 0), .int (vi 6), .int (vi 7), .int (vi 8), .int (vi 9), .int (vi 10)])), ((a 1), .inl (T 2, 27, .inr (.inl f7)))] H ∧ va_D A [((a 0), .inr (6, [.ref (ex 0), .ref (a 1), .int wv, .int (vi 1), .int (vi 2), .int (vi 3), .int (vi 4), .int (vi 5), .long (vl 0), .int (vi 6), .int (vi 7), .int (vi 8), .int (vi 9), .int (vi 10)])), ((a 1), .inl (T 2, 27, .inr (.inl f7)))] := ⟨_, rfl, hP, hD⟩
            refine lv_aload_n hx hb dX6_keepOwn_44 rfl (lv_at hl 2 rfl) ?_
            refine lv_dup hx hb dX6_keepOwn_45 rfl ?_
            refine va_get (D := D) (ci := 6) (v := .int wv) (C := RX6) (T := TX6) (N := 14) hx hb htg inX6 hown hK.1 hP 0 rfl rfl 2 (by decide) (htg _ kw_96) (fun _ h9 => h9) rfl dX6_keepOwn_46 ?_
            refine lv_iconst (v := 1) hx hb dX6_keepOwn_49 (by decide) ?_
            refine lv_iadd hx hb dX6_keepOwn_50 ?_
            refine lv_topi (fun z50 ez50 => ?_)
            have tz50 : z50.toInt = wv.toInt + 1 := by rw [ez50]; exact xadd rfl (by decide) (by omega) (by omega)
            refine va_put (D := D) (ci := 6) (v := .int z50) (ty := .int) (C := RX6) (T := TX6) (N := 14) hx hb htg inX6 tyX6 tyX6_ok nmX6 hown hK.1 hP hD hS 0 rfl rfl 2 (by decide) (htg _ kw_96) (fun _ h9 => h9) rfl (by decide +kernel) rfl rfl (Nat.le_of_ble_eq_true rfl) dX6_keepOwn_51 (fun H locs hP hD hS => ?_)
            obtain ⟨hP, hD⟩ := (show xPD D A [((a 0), .inr (6, [.ref (ex 0), .ref (a 1), .int z50, .int (vi 1), .int (vi 2), .int (vi 3), .int (vi 4), .int (vi 5), .long (vl 0), .int (vi 6), .int (vi 7), .int (vi 8), .int (vi 9), .int (vi 10)])), ((a 1), .inl (T 2, 27, .inr (.inl f43)))] H from ⟨hP, hD⟩)
            refine lv_lconst (v := 0) hx hb dX6_keepOwn_54 (by decide) ?_
            refine lv_lstore_n (lv' := [(2, .long 0), (4, .int w4), (0, .ref (a 0)), (1, .ref (kK 1))]) hx hb dX6_keepOwn_55 rfl hl (by decide) rfl (fun ls hl => ?_)
            refine lv_goto (tgt := 72) hx hb dX6_keepOwn_56 (by decide) ?_
            obtain ⟨i72_1, ei72_1⟩ : ∃ z : Int32, w4 + Int32.ofInt 1 = z := ⟨_, rfl⟩
            have ti72_1 : i72_1.toInt = w4.toInt + 1 := by rw [← ei72_1]; have h79 := xrng w4; exact xadd rfl (by decide) (by omega) (by omega)
            refine lv_iinc (v := i72_1) (lv' := [(4, .int i72_1), (2, .long 0), (0, .ref (a 0)), (1, .ref (kK 1))]) hx hb dX6_keepOwn_72 hl (k := 1) rfl ei72_1 (by decide) rfl (fun ls hl => ?_)
            refine lv_goto (tgt := 5) hx hb dX6_keepOwn_75 (by decide) ?_
            exact ih _ (by omega) i72_1 (0 : Int64) f43 z50 _ _ _ (by show 0 ≤ i72_1.toInt ∧ i72_1.toInt ≤ 47; omega) (by show 0 ≤ z50.toInt ∧ z50.toInt ≤ 27; omega) (by show (0 : Int64) = kP (sBy.getD 1 []) (i72_1.toInt).toNat; exact kP_b c31 (by assumption) (by omega) (by omega)) (by show (z50).toInt = ((kC (sBy.getD 1 []) 8 (i72_1.toInt).toNat : Nat) : Int); exact kC_b c31 (by assumption) (by omega) (by omega) hkc9 (by omega)) (by show f43 = kF (sBy.getD 1 []) 8 (fl 0) (i72_1.toInt).toNat; rw [ef43]; exact kF_b c31 (by assumption) (by omega) (by omega) hkc9 hkp9 hkf9) rfl (hP.sub [0, 1] rfl) (hD.sub [0, 1] (by decide) rfl) hS (lv_sub hl [0, 1, 2, 3] rfl)
  exact lp _ (0 : Int32) (0 : Int64) (fl 0) (vi 0) _ _ _ (show 0 ≤ (0 : Int32).toInt ∧ (0 : Int32).toInt ≤ 47 by decide) (by show 0 ≤ (vi 0).toInt ∧ (vi 0).toInt ≤ 27; omega) (by show (0 : Int64) = kP (sBy.getD 1 []) ((0 : Int32).toInt).toNat; have k9_0 : (0 : Int32).toInt = 0 := (by decide); rw [show (0 : Int32).toInt.toNat = 0 by decide]; rfl) (by show (vi 0).toInt = ((kC (sBy.getD 1 []) 8 ((0 : Int32).toInt).toNat : Nat) : Int); have k9_0 : (0 : Int32).toInt = 0 := (by decide); rw [show (0 : Int32).toInt.toNat = 0 by decide]; show _ = ((8 : Nat) : Int); omega) (by show (fl 0) = kF (sBy.getD 1 []) 8 (fl 0) ((0 : Int32).toInt).toNat; have k9_0 : (0 : Int32).toInt = 0 := (by decide); rw [show (0 : Int32).toInt.toNat = 0 by decide]; rfl) rfl hP hD hS hl
abbrev pre_J0_coder_7d493_31 (T : Nat → ClassId) (a ex : Nat → Nat) (fi : Nat → Nat → Int32) (fl : Nat → Nat → Int64) (vi : Nat → Int32) (vl : Nat → Int64) : va_W := []
set_option maxHeartbeats 8000000 in
set_option maxRecDepth 100000 in
theorem c_J0_coder_7d493_31 (l : Launch) (D : va_G) (T : Nat → ClassId) (a ex : Nat → Nat) (fi : Nat → Nat → Int32) (fl : Nat → Nat → Int64) (vi : Nat → Int32) (vl : Nat → Int64) (kK kV : Nat → Nat) (sz : Nat) : Met l yJ0_coder_7d493 (xw yJ0_coder_7d493 cJ0_coder_7d493 1 (some .byte)) ({ frames := 0, cells := 0, slots := 0, locals := 0 }) (xPs D T kK kV [.ref (kK 2)] sz (pre_J0_coder_7d493_31 T a ex fi fl vi vl)) (va_Qi (fun r u => r = u) (xC D (va_A (pre_J0_coder_7d493_31 T a ex fi fl vi vl) sz) (fun fj fm vj vm => []) (fun (r : Int32) (fj : Nat → Nat → Int32) (fm : Nat → Nat → Int64) (vj : Nat → Int32) (vm : Nat → Int64) => r = 0 ∧ True)) (va_A (pre_J0_coder_7d493_31 T a ex fi fl vi vl) sz)) 0 0 (va_A (pre_J0_coder_7d493_31 T a ex fi fl vi vl) sz) := by
  refine xofW (cc := cJ0_coder_7d493) (maxL := 1) (ret := (some .byte)) (by decide) rfl ?_
  intro p e s m args below meth c s₁ R Q hR hQ B hml hv
  obtain ⟨rfl, hsz, hP, hK, hD0, hT⟩ := hv
  have hx := B.exec
  have hb := B.bytes
  have hr := B.returns
  have hts := atoms_spec (ws := xw yJ0_coder_7d493 cJ0_coder_7d493 1 (some .byte)) B.pre
  have htg : ∀ w ∈ xg, w.before _ s = true := fun w h => hts w (List.mem_cons_of_mem _ h)
  have hown : s.vm.findClass RJ0 = some m.cls := findClass_of_methodNamed B.named
  have hlocks := B.notSynchronized
  subst hsz
  have hD := hD0.self (sz := s.heap.size)
  generalize hAe : va_A (pre_J0_coder_7d493_31 T a ex fi fl vi vl) s.heap.size = A at hD hQ hT
  have hA : ∀ q : Nat, s.heap.size ≤ q → A q := fun q h => by rw [← hAe]; exact Or.inr h
  have hS : va_S A s.heap s.heap [] := va_S.rf
  replace hP : va_P D vwCl [] s.heap := hP
  replace hD : va_D A [] := hD
  have hl := lv_entry ([.ref (kK 2)]) (n := 1) (Nat.le_of_ble_eq_true rfl)
  rw [lg_entry_eq]
  generalize (lg_sl ([.ref (kK 2)]) ++ List.replicate (1 - (lg_sl ([.ref (kK 2)])).length) Slot.unset).toArray = ls at hl ⊢
  replace hl : lv_has ls 1 [(0, .ref (kK 2))] := hl
  refine va_gets hx hb hT.2.2.1 hS hown (htg _ kw_52) (fun _ h9 => h9) dJ0_coder_7d493_0 ?_
  refine lv_if_eq (tgt := 13) hx hb dJ0_coder_7d493_3 (by decide) (fun c => absurd c (by decide)) (fun _ => ?_)
  refine lv_aload_n hx hb dJ0_coder_7d493_6 rfl (lv_at hl 0 rfl) ?_
  refine vk_getf hx hb (hT.2.1 2 (by decide)).2.1 hS hown (htg _ kw_2031) (fun _ h9 => h9) dJ0_coder_7d493_7 ?_
  refine lv_goto (tgt := 14) hx hb dJ0_coder_7d493_10 (by decide) ?_
  have hP9 := hP.sub (ws' := []) [] rfl
  have hD9 := hD.sub (ws' := []) [] (by decide +kernel) rfl
  rw [hQ]
  exact W.zret (v := 0) hx hb hr rfl (fun t ht hW => ⟨⟨0, 0, rfl, rfl, xf [], xh [], xv [], xl [], by rw [ht]; exact hP9, hD9, ⟨rfl, trivial⟩⟩, hS.F ht⟩) hS.2.2 dJ0_coder_7d493_14
abbrev pre_J0_length_8abf5_31 (T : Nat → ClassId) (a ex : Nat → Nat) (fi : Nat → Nat → Int32) (fl : Nat → Nat → Int64) (vi : Nat → Int32) (vl : Nat → Int64) : va_W := []
set_option maxHeartbeats 8000000 in
set_option maxRecDepth 100000 in
theorem c_J0_length_8abf5_31 (l : Launch) (D : va_G) (T : Nat → ClassId) (a ex : Nat → Nat) (fi : Nat → Nat → Int32) (fl : Nat → Nat → Int64) (vi : Nat → Int32) (vl : Nat → Int64) (kK kV : Nat → Nat) (sz : Nat) : Met l yJ0_length_8abf5 (xw yJ0_length_8abf5 cJ0_length_8abf5 1 (some .int)) ({ frames := 1, cells := 0, slots := 0, locals := 24 }) (xPs D T kK kV [.ref (kK 2)] sz (pre_J0_length_8abf5_31 T a ex fi fl vi vl)) (va_Qi (fun r u => r = u) (xC D (va_A (pre_J0_length_8abf5_31 T a ex fi fl vi vl) sz) (fun fj fm vj vm => []) (fun (r : Int32) (fj : Nat → Nat → Int32) (fm : Nat → Nat → Int64) (vj : Nat → Int32) (vm : Nat → Int64) => r = 58 ∧ True)) (va_A (pre_J0_length_8abf5_31 T a ex fi fl vi vl) sz)) 0 0 (va_A (pre_J0_length_8abf5_31 T a ex fi fl vi vl) sz) := by
  refine xofW (cc := cJ0_length_8abf5) (maxL := 1) (ret := (some .int)) (by decide) rfl ?_
  intro p e s m args below meth c s₁ R Q hR hQ B hml hv
  obtain ⟨rfl, hsz, hP, hK, hD0, hT⟩ := hv
  have hx := B.exec
  have hb := B.bytes
  have hr := B.returns
  have hts := atoms_spec (ws := xw yJ0_length_8abf5 cJ0_length_8abf5 1 (some .int)) B.pre
  have htg : ∀ w ∈ xg, w.before _ s = true := fun w h => hts w (List.mem_cons_of_mem _ h)
  have hown : s.vm.findClass RJ0 = some m.cls := findClass_of_methodNamed B.named
  have hlocks := B.notSynchronized
  subst hsz
  have hD := hD0.self (sz := s.heap.size)
  generalize hAe : va_A (pre_J0_length_8abf5_31 T a ex fi fl vi vl) s.heap.size = A at hD hQ hT
  have hA : ∀ q : Nat, s.heap.size ≤ q → A q := fun q h => by rw [← hAe]; exact Or.inr h
  have hS : va_S A s.heap s.heap [] := va_S.rf
  replace hP : va_P D vwCl [] s.heap := hP
  replace hD : va_D A [] := hD
  have hl := lv_entry ([.ref (kK 2)]) (n := 1) (Nat.le_of_ble_eq_true rfl)
  rw [lg_entry_eq]
  generalize (lg_sl ([.ref (kK 2)]) ++ List.replicate (1 - (lg_sl ([.ref (kK 2)])).length) Slot.unset).toArray = ls at hl ⊢
  replace hl : lv_has ls 1 [(0, .ref (kK 2))] := hl
  refine lv_aload_n hx hb dJ0_length_8abf5_0 rfl (lv_at hl 0 rfl) ?_
  refine vk_getf hx hb (hT.2.1 2 (by decide)).2.2.1 hS hown (htg _ kw_2030) (fun _ h9 => h9) dJ0_length_8abf5_1 ?_
  refine va_tlen (v := 58) hx hb (hT.2.1 2 (by decide)).2.2.2 hS (by decide) dJ0_length_8abf5_4 ?_
  refine lv_aload_n hx hb dJ0_length_8abf5_5 rfl (lv_at hl 0 rfl) ?_
  obtain ⟨hC9, hPc, hDc, hFc⟩ := xcut (wc := (pre_J0_coder_7d493_31 T (xa []) (xa []) (xf []) (xh []) (xv []) (xl []))) hP hD hS hA [] (by decide) rfl
  refine va_calli (va_runV (As := []) (rest := [.int 58]) ⟨hx, hb, hml, hown, htg⟩ (c_J0_coder_7d493_31 l D T (xa []) (xa []) (xf []) (xh []) (xv []) (xl []) kK kV s.heap.size) ⟨callB_of 0 htg (xg_ok kw_51) rfl rfl rfl (htg _ kw_3) (htg _ kw_48) (by decide +kernel) ⟨by rw [hR]; exact Nat.le_of_ble_eq_true rfl, by rw [hR]; exact Nat.le_of_ble_eq_true rfl⟩, htg _ kw_49, htg _ kw_50⟩ (xpreVs hK hPc hDc hT hFc hS (xT.recv hT 2 (by decide) hS)) rfl rfl hl.1 rfl (lv_room (Nat.le_of_ble_eq_true rfl)) dJ0_length_8abf5_6 ⟨by rw [hR]; exact Nat.le_of_ble_eq_true rfl, by rw [hR]; exact Nat.le_of_ble_eq_true rfl⟩) hS (fun q _ h => hFc q h) hFc (fun r9 u9 t H1 locs ht hvm hw hB hz1 hk1 hS => ?_)
  subst hw
  obtain ⟨fik, flk, vik, vlk, hP1, hD1, hG⟩ := hB
  rw [ht] at hP1
  obtain ⟨hP, hD⟩ := va_join (wr := []) (w1 := []) hP hD [] [] hC9 rfl (by decide) (by decide) hk1 hFc hP1 hD1
  obtain ⟨rk, er9⟩ : ∃ z, z = r9 := ⟨_, rfl⟩
  subst er9
  clear hPc hDc hFc hP1 hD1 hk1 hz1 hvm ht hC9
  generalize H1 = H at hP hS ⊢
  obtain ⟨hP, hD⟩ := (show xPD D A [] H from ⟨hP, hD⟩)
  obtain ⟨gk_0, -⟩ := hG
  replace gk_0 : rk = 0 := gk_0
  refine xz_i 0 gk_0 ?_
  refine lv_ishr hx hb dJ0_length_8abf5_9 ?_
  refine xz_i 58 (by decide) ?_
  have hP9 := hP.sub (ws' := []) [] rfl
  have hD9 := hD.sub (ws' := []) [] (by decide +kernel) rfl
  rw [hQ]
  exact W.iret (v := 58) hx hb hr (fun t ht hW => ⟨⟨58, 58, rfl, rfl, xf [], xh [], xv [], xl [], by rw [ht]; exact hP9, hD9, ⟨rfl, trivial⟩⟩, hS.F ht⟩) hS.2.2 dJ0_length_8abf5_10
abbrev pre_J0_isLatin1_aae02_31 (T : Nat → ClassId) (a ex : Nat → Nat) (fi : Nat → Nat → Int32) (fl : Nat → Nat → Int64) (vi : Nat → Int32) (vl : Nat → Int64) : va_W := []
set_option maxHeartbeats 8000000 in
set_option maxRecDepth 100000 in
theorem c_J0_isLatin1_aae02_31 (l : Launch) (D : va_G) (T : Nat → ClassId) (a ex : Nat → Nat) (fi : Nat → Nat → Int32) (fl : Nat → Nat → Int64) (vi : Nat → Int32) (vl : Nat → Int64) (kK kV : Nat → Nat) (sz : Nat) : Met l yJ0_isLatin1_aae02 (xw yJ0_isLatin1_aae02 cJ0_isLatin1_aae02 1 (some .boolean)) ({ frames := 0, cells := 0, slots := 0, locals := 0 }) (xPs D T kK kV [.ref (kK 2)] sz (pre_J0_isLatin1_aae02_31 T a ex fi fl vi vl)) (va_Qi (fun r u => r = u) (xC D (va_A (pre_J0_isLatin1_aae02_31 T a ex fi fl vi vl) sz) (fun fj fm vj vm => []) (fun (r : Int32) (fj : Nat → Nat → Int32) (fm : Nat → Nat → Int64) (vj : Nat → Int32) (vm : Nat → Int64) => r = 1 ∧ True)) (va_A (pre_J0_isLatin1_aae02_31 T a ex fi fl vi vl) sz)) 0 0 (va_A (pre_J0_isLatin1_aae02_31 T a ex fi fl vi vl) sz) := by
  refine xofW (cc := cJ0_isLatin1_aae02) (maxL := 1) (ret := (some .boolean)) (by decide) rfl ?_
  intro p e s m args below meth c s₁ R Q hR hQ B hml hv
  obtain ⟨rfl, hsz, hP, hK, hD0, hT⟩ := hv
  have hx := B.exec
  have hb := B.bytes
  have hr := B.returns
  have hts := atoms_spec (ws := xw yJ0_isLatin1_aae02 cJ0_isLatin1_aae02 1 (some .boolean)) B.pre
  have htg : ∀ w ∈ xg, w.before _ s = true := fun w h => hts w (List.mem_cons_of_mem _ h)
  have hown : s.vm.findClass RJ0 = some m.cls := findClass_of_methodNamed B.named
  have hlocks := B.notSynchronized
  subst hsz
  have hD := hD0.self (sz := s.heap.size)
  generalize hAe : va_A (pre_J0_isLatin1_aae02_31 T a ex fi fl vi vl) s.heap.size = A at hD hQ hT
  have hA : ∀ q : Nat, s.heap.size ≤ q → A q := fun q h => by rw [← hAe]; exact Or.inr h
  have hS : va_S A s.heap s.heap [] := va_S.rf
  replace hP : va_P D vwCl [] s.heap := hP
  replace hD : va_D A [] := hD
  have hl := lv_entry ([.ref (kK 2)]) (n := 1) (Nat.le_of_ble_eq_true rfl)
  rw [lg_entry_eq]
  generalize (lg_sl ([.ref (kK 2)]) ++ List.replicate (1 - (lg_sl ([.ref (kK 2)])).length) Slot.unset).toArray = ls at hl ⊢
  replace hl : lv_has ls 1 [(0, .ref (kK 2))] := hl
  refine va_gets hx hb hT.2.2.1 hS hown (htg _ kw_52) (fun _ h9 => h9) dJ0_isLatin1_aae02_0 ?_
  refine lv_if_eq (tgt := 17) hx hb dJ0_isLatin1_aae02_3 (by decide) (fun c => absurd c (by decide)) (fun _ => ?_)
  refine lv_aload_n hx hb dJ0_isLatin1_aae02_6 rfl (lv_at hl 0 rfl) ?_
  refine vk_getf hx hb (hT.2.1 2 (by decide)).2.1 hS hown (htg _ kw_2031) (fun _ h9 => h9) dJ0_isLatin1_aae02_7 ?_
  refine lv_if_ne (tgt := 17) hx hb dJ0_isLatin1_aae02_10 (by decide) (fun c => absurd (by decide) c) (fun _ => ?_)
  refine lv_iconst (v := 1) hx hb dJ0_isLatin1_aae02_13 (by decide) ?_
  refine lv_goto (tgt := 18) hx hb dJ0_isLatin1_aae02_14 (by decide) ?_
  have hP9 := hP.sub (ws' := []) [] rfl
  have hD9 := hD.sub (ws' := []) [] (by decide +kernel) rfl
  rw [hQ]
  exact W.zret (v := 1) hx hb hr rfl (fun t ht hW => ⟨⟨1, 1, rfl, rfl, xf [], xh [], xv [], xl [], by rw [ht]; exact hP9, hD9, ⟨rfl, trivial⟩⟩, hS.F ht⟩) hS.2.2 dJ0_isLatin1_aae02_18
abbrev pre_J3_checkIndex_8e157_15 (T : Nat → ClassId) (a ex : Nat → Nat) (fi : Nat → Nat → Int32) (fl : Nat → Nat → Int64) (vi : Nat → Int32) (vl : Nat → Int64) : va_W := []
set_option maxHeartbeats 8000000 in
set_option maxRecDepth 100000 in
theorem c_J3_checkIndex_8e157_15 (l : Launch) (D : va_G) (T : Nat → ClassId) (a ex : Nat → Nat) (fi : Nat → Nat → Int32) (fl : Nat → Nat → Int64) (vi : Nat → Int32) (vl : Nat → Int64) (sz : Nat) (hp0 : 0 ≤ (vi 0).toInt ∧ (vi 0).toInt ≤ 57) : Met l yJ3_checkIndex_8e157 (xw yJ3_checkIndex_8e157 cJ3_checkIndex_8e157 3 (some .int)) ({ frames := 0, cells := 0, slots := 0, locals := 0 }) (xP D T [.int (vi 0), .int 58, .null] sz (pre_J3_checkIndex_8e157_15 T a ex fi fl vi vl)) (va_Qi (fun r u => r = u) (xC D (va_A (pre_J3_checkIndex_8e157_15 T a ex fi fl vi vl) sz) (fun fj fm vj vm => []) (fun (r : Int32) (fj : Nat → Nat → Int32) (fm : Nat → Nat → Int64) (vj : Nat → Int32) (vm : Nat → Int64) => True)) (va_A (pre_J3_checkIndex_8e157_15 T a ex fi fl vi vl) sz)) 0 0 (va_A (pre_J3_checkIndex_8e157_15 T a ex fi fl vi vl) sz) := by
  refine xofW (cc := cJ3_checkIndex_8e157) (maxL := 3) (ret := (some .int)) (by decide) rfl ?_
  intro p e s m args below meth c s₁ R Q hR hQ B hml hv
  obtain ⟨rfl, hsz, hP, hK, hD0⟩ := hv
  have hx := B.exec
  have hb := B.bytes
  have hr := B.returns
  have hts := atoms_spec (ws := xw yJ3_checkIndex_8e157 cJ3_checkIndex_8e157 3 (some .int)) B.pre
  have htg : ∀ w ∈ xg, w.before _ s = true := fun w h => hts w (List.mem_cons_of_mem _ h)
  have hown : s.vm.findClass RJ3 = some m.cls := findClass_of_methodNamed B.named
  have hlocks := B.notSynchronized
  subst hsz
  have hD := hD0.self (sz := s.heap.size)
  generalize hAe : va_A (pre_J3_checkIndex_8e157_15 T a ex fi fl vi vl) s.heap.size = A at hD hQ
  have hA : ∀ q : Nat, s.heap.size ≤ q → A q := fun q h => by rw [← hAe]; exact Or.inr h
  have hS : va_S A s.heap s.heap [] := va_S.rf
  replace hP : va_P D vwCl [] s.heap := hP
  replace hD : va_D A [] := hD
  have hl := lv_entry ([.int (vi 0), .int 58, .null]) (n := 3) (Nat.le_of_ble_eq_true rfl)
  rw [lg_entry_eq]
  generalize (lg_sl ([.int (vi 0), .int 58, .null]) ++ List.replicate (3 - (lg_sl ([.int (vi 0), .int 58, .null])).length) Slot.unset).toArray = ls at hl ⊢
  replace hl : lv_has ls 3 [(0, .int (vi 0)), (1, .int 58), (2, .null)] := hl
  refine lv_iload_n hx hb dJ3_checkIndex_8e157_0 rfl (lv_at hl 0 rfl) ?_
  refine lv_if_lt (tgt := 9) hx hb dJ3_checkIndex_8e157_1 (by decide) (fun c => by exfalso; have h9 := xlt (k := 0) (by decide) c; have h7 := xrng (vi 0); omega) (fun _ => ?_)
  refine lv_iload_n hx hb dJ3_checkIndex_8e157_4 rfl (lv_at hl 0 rfl) ?_
  refine lv_iload_n hx hb dJ3_checkIndex_8e157_5 rfl (lv_at hl 1 rfl) ?_
  refine lv_icmp_lt (tgt := 16) hx hb dJ3_checkIndex_8e157_6 (by decide) (fun _ => ?_) (fun c => by exfalso; have h9 := xnlt (k := 58) (by decide) c; have h7 := xrng (vi 0); omega)
  refine lv_iload_n hx hb dJ3_checkIndex_8e157_16 rfl (lv_at hl 0 rfl) ?_
  have hP9 := hP.sub (ws' := []) [] rfl
  have hD9 := hD.sub (ws' := []) [] (by decide +kernel) rfl
  rw [hQ]
  exact W.iret (v := (vi 0)) hx hb hr (fun t ht hW => ⟨⟨(vi 0), (vi 0), rfl, rfl, xf [], xh [], xv [], xl [], by rw [ht]; exact hP9, hD9, trivial⟩, hS.F ht⟩) hS.2.2 dJ3_checkIndex_8e157_17
abbrev pre_J3_checkIndex_8e157_16 (T : Nat → ClassId) (a ex : Nat → Nat) (fi : Nat → Nat → Int32) (fl : Nat → Nat → Int64) (vi : Nat → Int32) (vl : Nat → Int64) : va_W := []
set_option maxHeartbeats 8000000 in
set_option maxRecDepth 100000 in
theorem c_J3_checkIndex_8e157_16 (l : Launch) (D : va_G) (T : Nat → ClassId) (a ex : Nat → Nat) (fi : Nat → Nat → Int32) (fl : Nat → Nat → Int64) (vi : Nat → Int32) (vl : Nat → Int64) (sz : Nat) (hp0 : 0 ≤ (vi 0).toInt ∧ (vi 0).toInt ≤ 57) : Met l yJ3_checkIndex_8e157 (xw yJ3_checkIndex_8e157 cJ3_checkIndex_8e157 3 (some .int)) ({ frames := 0, cells := 0, slots := 0, locals := 0 }) (xP D T [.int (vi 0), .int 58, .ref (ex 0)] sz (pre_J3_checkIndex_8e157_16 T a ex fi fl vi vl)) (va_Qi (fun r u => r = u) (xC D (va_A (pre_J3_checkIndex_8e157_16 T a ex fi fl vi vl) sz) (fun fj fm vj vm => []) (fun (r : Int32) (fj : Nat → Nat → Int32) (fm : Nat → Nat → Int64) (vj : Nat → Int32) (vm : Nat → Int64) => True)) (va_A (pre_J3_checkIndex_8e157_16 T a ex fi fl vi vl) sz)) 0 0 (va_A (pre_J3_checkIndex_8e157_16 T a ex fi fl vi vl) sz) := by
  refine xofW (cc := cJ3_checkIndex_8e157) (maxL := 3) (ret := (some .int)) (by decide) rfl ?_
  intro p e s m args below meth c s₁ R Q hR hQ B hml hv
  obtain ⟨rfl, hsz, hP, hK, hD0⟩ := hv
  have hx := B.exec
  have hb := B.bytes
  have hr := B.returns
  have hts := atoms_spec (ws := xw yJ3_checkIndex_8e157 cJ3_checkIndex_8e157 3 (some .int)) B.pre
  have htg : ∀ w ∈ xg, w.before _ s = true := fun w h => hts w (List.mem_cons_of_mem _ h)
  have hown : s.vm.findClass RJ3 = some m.cls := findClass_of_methodNamed B.named
  have hlocks := B.notSynchronized
  subst hsz
  have hD := hD0.self (sz := s.heap.size)
  generalize hAe : va_A (pre_J3_checkIndex_8e157_16 T a ex fi fl vi vl) s.heap.size = A at hD hQ
  have hA : ∀ q : Nat, s.heap.size ≤ q → A q := fun q h => by rw [← hAe]; exact Or.inr h
  have hS : va_S A s.heap s.heap [] := va_S.rf
  replace hP : va_P D vwCl [] s.heap := hP
  replace hD : va_D A [] := hD
  have hl := lv_entry ([.int (vi 0), .int 58, .ref (ex 0)]) (n := 3) (Nat.le_of_ble_eq_true rfl)
  rw [lg_entry_eq]
  generalize (lg_sl ([.int (vi 0), .int 58, .ref (ex 0)]) ++ List.replicate (3 - (lg_sl ([.int (vi 0), .int 58, .ref (ex 0)])).length) Slot.unset).toArray = ls at hl ⊢
  replace hl : lv_has ls 3 [(0, .int (vi 0)), (1, .int 58), (2, .ref (ex 0))] := hl
  refine lv_iload_n hx hb dJ3_checkIndex_8e157_0 rfl (lv_at hl 0 rfl) ?_
  refine lv_if_lt (tgt := 9) hx hb dJ3_checkIndex_8e157_1 (by decide) (fun c => by exfalso; have h9 := xlt (k := 0) (by decide) c; have h7 := xrng (vi 0); omega) (fun _ => ?_)
  refine lv_iload_n hx hb dJ3_checkIndex_8e157_4 rfl (lv_at hl 0 rfl) ?_
  refine lv_iload_n hx hb dJ3_checkIndex_8e157_5 rfl (lv_at hl 1 rfl) ?_
  refine lv_icmp_lt (tgt := 16) hx hb dJ3_checkIndex_8e157_6 (by decide) (fun _ => ?_) (fun c => by exfalso; have h9 := xnlt (k := 58) (by decide) c; have h7 := xrng (vi 0); omega)
  refine lv_iload_n hx hb dJ3_checkIndex_8e157_16 rfl (lv_at hl 0 rfl) ?_
  have hP9 := hP.sub (ws' := []) [] rfl
  have hD9 := hD.sub (ws' := []) [] (by decide +kernel) rfl
  rw [hQ]
  exact W.iret (v := (vi 0)) hx hb hr (fun t ht hW => ⟨⟨(vi 0), (vi 0), rfl, rfl, xf [], xh [], xv [], xl [], by rw [ht]; exact hP9, hD9, trivial⟩, hS.F ht⟩) hS.2.2 dJ3_checkIndex_8e157_17
abbrev pre_J0_checkIndex_df160_8 (T : Nat → ClassId) (a ex : Nat → Nat) (fi : Nat → Nat → Int32) (fl : Nat → Nat → Int64) (vi : Nat → Int32) (vl : Nat → Int64) : va_W := []
set_option maxHeartbeats 8000000 in
set_option maxRecDepth 100000 in
theorem c_J0_checkIndex_df160_8 (l : Launch) (D : va_G) (T : Nat → ClassId) (a ex : Nat → Nat) (fi : Nat → Nat → Int32) (fl : Nat → Nat → Int64) (vi : Nat → Int32) (vl : Nat → Int64) (kK kV : Nat → Nat) (sz : Nat) (hp0 : 0 ≤ (vi 0).toInt ∧ (vi 0).toInt ≤ 57) : Met l yJ0_checkIndex_df160 (xw yJ0_checkIndex_df160 cJ0_checkIndex_df160 2 none) ({ frames := 1, cells := 0, slots := 0, locals := 26 }) (xPs D T kK kV [.int (vi 0), .int 58] sz (pre_J0_checkIndex_df160_8 T a ex fi fl vi vl)) (va_Qv (fun _ : Int32 => True) (xC D (va_A (pre_J0_checkIndex_df160_8 T a ex fi fl vi vl) sz) (fun fj fm vj vm => []) (fun (r : Int32) (fj : Nat → Nat → Int32) (fm : Nat → Nat → Int64) (vj : Nat → Int32) (vm : Nat → Int64) => True)) (va_A (pre_J0_checkIndex_df160_8 T a ex fi fl vi vl) sz)) 0 0 (va_A (pre_J0_checkIndex_df160_8 T a ex fi fl vi vl) sz) := by
  refine xofW (cc := cJ0_checkIndex_df160) (maxL := 2) (ret := none) (by decide) rfl ?_
  intro p e s m args below meth c s₁ R Q hR hQ B hml hv
  obtain ⟨rfl, hsz, hP, hK, hD0, hT⟩ := hv
  have hx := B.exec
  have hb := B.bytes
  have hr := B.returns
  have hts := atoms_spec (ws := xw yJ0_checkIndex_df160 cJ0_checkIndex_df160 2 none) B.pre
  have htg : ∀ w ∈ xg, w.before _ s = true := fun w h => hts w (List.mem_cons_of_mem _ h)
  have hown : s.vm.findClass RJ0 = some m.cls := findClass_of_methodNamed B.named
  have hlocks := B.notSynchronized
  subst hsz
  have hD := hD0.self (sz := s.heap.size)
  generalize hAe : va_A (pre_J0_checkIndex_df160_8 T a ex fi fl vi vl) s.heap.size = A at hD hQ hT
  have hA : ∀ q : Nat, s.heap.size ≤ q → A q := fun q h => by rw [← hAe]; exact Or.inr h
  have hS : va_S A s.heap s.heap [] := va_S.rf
  replace hP : va_P D vwCl [] s.heap := hP
  replace hD : va_D A [] := hD
  have hl := lv_entry ([.int (vi 0), .int 58]) (n := 2) (Nat.le_of_ble_eq_true rfl)
  rw [lg_entry_eq]
  generalize (lg_sl ([.int (vi 0), .int 58]) ++ List.replicate (2 - (lg_sl ([.int (vi 0), .int 58])).length) Slot.unset).toArray = ls at hl ⊢
  replace hl : lv_has ls 2 [(0, .int (vi 0)), (1, .int 58)] := hl
  refine lv_iload_n hx hb dJ0_checkIndex_df160_0 rfl (lv_at hl 0 rfl) ?_
  refine lv_iload_n hx hb dJ0_checkIndex_df160_1 rfl (lv_at hl 1 rfl) ?_
  rcases hT.2.2.2 with hz9 | ⟨z9, hz9⟩
  · refine va_gets hx hb hz9 hS hown (htg _ kw_68) (fun _ h9 => h9) dJ0_checkIndex_df160_2 ?_
    obtain ⟨hC9, hPc, hDc, hFc⟩ := xcut (wc := (pre_J3_checkIndex_8e157_15 T (xa []) (xa []) (xf []) (xh []) (xv [(vi 0)]) (xl []))) hP hD hS hA [] (by decide) rfl
    refine va_calli (va_runS (As := [.int (vi 0), .int 58, .null]) (rest := []) ⟨hx, hb, hml, hown, htg⟩ (c_J3_checkIndex_8e157_15 l D T (xa []) (xa []) (xf []) (xh []) (xv [(vi 0)]) (xl []) s.heap.size hp0) ⟨callB_of 3 htg (xg_ok kw_72) rfl rfl rfl (htg _ kw_5) (htg _ kw_70) (by decide +kernel) ⟨by rw [hR]; exact Nat.le_of_ble_eq_true rfl, by rw [hR]; exact Nat.le_of_ble_eq_true rfl⟩, htg _ kw_71⟩ (xpreS hK hPc hDc) rfl rfl hl.1 rfl (lv_room (Nat.le_of_ble_eq_true rfl)) dJ0_checkIndex_df160_5 ⟨by rw [hR]; exact Nat.le_of_ble_eq_true rfl, by rw [hR]; exact Nat.le_of_ble_eq_true rfl⟩) hS (fun q _ h => hFc q h) hFc (fun r9 u9 t H1 locs ht hvm hw hB hz1 hk1 hS => ?_)
    subst hw
    obtain ⟨fik, flk, vik, vlk, hP1, hD1, hG⟩ := hB
    rw [ht] at hP1
    obtain ⟨hP, hD⟩ := va_join (wr := []) (w1 := []) hP hD [] [] hC9 rfl (by decide) (by decide) hk1 hFc hP1 hD1
    obtain ⟨rk, er9⟩ : ∃ z, z = r9 := ⟨_, rfl⟩
    subst er9
    clear hPc hDc hFc hP1 hD1 hk1 hz1 hvm ht hC9
    generalize H1 = H at hP hS ⊢
    obtain ⟨hP, hD⟩ := (show xPD D A [] H from ⟨hP, hD⟩)
    clear hG
    refine lv_pop hx hb dJ0_checkIndex_df160_8 rfl ?_
    have hP9 := hP.sub (ws' := []) [] rfl
    have hD9 := hD.sub (ws' := []) [] (by decide +kernel) rfl
    rw [hQ]
    exact W.vret hx hb hr (fun t ht hW => ⟨⟨(0 : Int32), rfl, trivial, xf [], xh [], xv [], xl [], by rw [ht]; exact hP9, hD9, trivial⟩, hS.F ht⟩) hS.2.2 dJ0_checkIndex_df160_9
  · refine va_gets hx hb hz9 hS hown (htg _ kw_68) (fun _ h9 => h9) dJ0_checkIndex_df160_2 ?_
    obtain ⟨hC9, hPc, hDc, hFc⟩ := xcut (wc := (pre_J3_checkIndex_8e157_16 T (xa []) (xa [z9]) (xf []) (xh []) (xv [(vi 0)]) (xl []))) hP hD hS hA [] (by decide) rfl
    refine va_calli (va_runS (As := [.int (vi 0), .int 58, .ref z9]) (rest := []) ⟨hx, hb, hml, hown, htg⟩ (c_J3_checkIndex_8e157_16 l D T (xa []) (xa [z9]) (xf []) (xh []) (xv [(vi 0)]) (xl []) s.heap.size hp0) ⟨callB_of 3 htg (xg_ok kw_72) rfl rfl rfl (htg _ kw_5) (htg _ kw_70) (by decide +kernel) ⟨by rw [hR]; exact Nat.le_of_ble_eq_true rfl, by rw [hR]; exact Nat.le_of_ble_eq_true rfl⟩, htg _ kw_71⟩ (xpreS hK hPc hDc) rfl rfl hl.1 rfl (lv_room (Nat.le_of_ble_eq_true rfl)) dJ0_checkIndex_df160_5 ⟨by rw [hR]; exact Nat.le_of_ble_eq_true rfl, by rw [hR]; exact Nat.le_of_ble_eq_true rfl⟩) hS (fun q _ h => hFc q h) hFc (fun r9 u9 t H1 locs ht hvm hw hB hz1 hk1 hS => ?_)
    subst hw
    obtain ⟨fik_1, flk_1, vik_1, vlk_1, hP1, hD1, hG⟩ := hB
    rw [ht] at hP1
    obtain ⟨hP, hD⟩ := va_join (wr := []) (w1 := []) hP hD [] [] hC9 rfl (by decide) (by decide) hk1 hFc hP1 hD1
    obtain ⟨rk_1, er9⟩ : ∃ z, z = r9 := ⟨_, rfl⟩
    subst er9
    clear hPc hDc hFc hP1 hD1 hk1 hz1 hvm ht hC9
    generalize H1 = H at hP hS ⊢
    obtain ⟨hP, hD⟩ := (show xPD D A [] H from ⟨hP, hD⟩)
    clear hG
    refine lv_pop hx hb dJ0_checkIndex_df160_8 rfl ?_
    have hP9 := hP.sub (ws' := []) [] rfl
    have hD9 := hD.sub (ws' := []) [] (by decide +kernel) rfl
    rw [hQ]
    exact W.vret hx hb hr (fun t ht hW => ⟨⟨(0 : Int32), rfl, trivial, xf [], xh [], xv [], xl [], by rw [ht]; exact hP9, hD9, trivial⟩, hS.F ht⟩) hS.2.2 dJ0_checkIndex_df160_9
abbrev pre_J1_charAt_3b067_31 (T : Nat → ClassId) (a ex : Nat → Nat) (fi : Nat → Nat → Int32) (fl : Nat → Nat → Int64) (vi : Nat → Int32) (vl : Nat → Int64) : va_W := []
set_option maxHeartbeats 8000000 in
set_option maxRecDepth 100000 in
theorem c_J1_charAt_3b067_31 (l : Launch) (D : va_G) (T : Nat → ClassId) (a ex : Nat → Nat) (fi : Nat → Nat → Int32) (fl : Nat → Nat → Int64) (vi : Nat → Int32) (vl : Nat → Int64) (kK kV : Nat → Nat) (sz : Nat) (hp0 : 0 ≤ (vi 0).toInt ∧ (vi 0).toInt ≤ 57) : Met l yJ1_charAt_3b067 (xw yJ1_charAt_3b067 cJ1_charAt_3b067 2 (some .char)) ({ frames := 2, cells := 0, slots := 0, locals := 51 }) (xPs D T kK kV [.ref (kV 2), .int (vi 0)] sz (pre_J1_charAt_3b067_31 T a ex fi fl vi vl)) (va_Qi (fun r u => r = u) (xC D (va_A (pre_J1_charAt_3b067_31 T a ex fi fl vi vl) sz) (fun fj fm vj vm => []) (fun (r : Int32) (fj : Nat → Nat → Int32) (fm : Nat → Nat → Int64) (vj : Nat → Int32) (vm : Nat → Int64) => narrow .char (.int r) = .int r ∧ R_J1_charAt_3b067_31 fi fl vi vl r fj fm vj vm ∧ True)) (va_A (pre_J1_charAt_3b067_31 T a ex fi fl vi vl) sz)) 0 0 (va_A (pre_J1_charAt_3b067_31 T a ex fi fl vi vl) sz) := by
  refine xofW (cc := cJ1_charAt_3b067) (maxL := 2) (ret := (some .char)) (by decide) rfl ?_
  intro p e s m args below meth c s₁ R Q hR hQ B hml hv
  obtain ⟨rfl, hsz, hP, hK, hD0, hT⟩ := hv
  have hx := B.exec
  have hb := B.bytes
  have hr := B.returns
  have hts := atoms_spec (ws := xw yJ1_charAt_3b067 cJ1_charAt_3b067 2 (some .char)) B.pre
  have htg : ∀ w ∈ xg, w.before _ s = true := fun w h => hts w (List.mem_cons_of_mem _ h)
  have hown : s.vm.findClass RJ1 = some m.cls := findClass_of_methodNamed B.named
  have hlocks := B.notSynchronized
  subst hsz
  have hD := hD0.self (sz := s.heap.size)
  generalize hAe : va_A (pre_J1_charAt_3b067_31 T a ex fi fl vi vl) s.heap.size = A at hD hQ hT
  have hA : ∀ q : Nat, s.heap.size ≤ q → A q := fun q h => by rw [← hAe]; exact Or.inr h
  have hS : va_S A s.heap s.heap [] := va_S.rf
  replace hP : va_P D vwCl [] s.heap := hP
  replace hD : va_D A [] := hD
  have hl := lv_entry ([.ref (kV 2), .int (vi 0)]) (n := 2) (Nat.le_of_ble_eq_true rfl)
  rw [lg_entry_eq]
  generalize (lg_sl ([.ref (kV 2), .int (vi 0)]) ++ List.replicate (2 - (lg_sl ([.ref (kV 2), .int (vi 0)])).length) Slot.unset).toArray = ls at hl ⊢
  replace hl : lv_has ls 2 [(0, .ref (kV 2)), (1, .int (vi 0))] := hl
  refine lv_iload_n hx hb dJ1_charAt_3b067_0 rfl (lv_at hl 1 rfl) ?_
  refine lv_aload_n hx hb dJ1_charAt_3b067_1 rfl (lv_at hl 0 rfl) ?_
  refine va_tlen (v := 58) hx hb (hT.2.1 2 (by decide)).2.2.2 hS (by decide) dJ1_charAt_3b067_2 ?_
  obtain ⟨hC9, hPc, hDc, hFc⟩ := xcut (wc := (pre_J0_checkIndex_df160_8 T (xa []) (xa []) (xf []) (xh []) (xv [(vi 0)]) (xl []))) hP hD hS hA [] (by decide) rfl
  refine va_callv (va_runS (As := [.int (vi 0), .int 58]) (rest := []) ⟨hx, hb, hml, hown, htg⟩ (c_J0_checkIndex_df160_8 l D T (xa []) (xa []) (xf []) (xh []) (xv [(vi 0)]) (xl []) kK kV s.heap.size hp0) ⟨callB_of 2 htg (xg_ok kw_67) rfl rfl rfl (htg _ kw_3) (htg _ kw_65) (by decide +kernel) ⟨by rw [hR]; exact Nat.le_of_ble_eq_true rfl, by rw [hR]; exact Nat.le_of_ble_eq_true rfl⟩, htg _ kw_66⟩ (xpreSs hK hPc hDc hT hFc hS) rfl rfl hl.1 rfl (lv_room (Nat.le_of_ble_eq_true rfl)) dJ1_charAt_3b067_3 ⟨by rw [hR]; exact Nat.le_of_ble_eq_true rfl, by rw [hR]; exact Nat.le_of_ble_eq_true rfl⟩) hS (fun q _ h => hFc q h) hFc (fun u9 t H1 locs ht hvm hw hB hz1 hk1 hS => ?_)
  obtain ⟨fik, flk, vik, vlk, hP1, hD1, hG⟩ := hB
  rw [ht] at hP1
  obtain ⟨hP, hD⟩ := va_join (wr := []) (w1 := []) hP hD [] [] hC9 rfl (by decide) (by decide) hk1 hFc hP1 hD1
  clear hPc hDc hFc hP1 hD1 hk1 hz1 hvm ht hC9
  generalize H1 = H at hP hS ⊢
  obtain ⟨hP, hD⟩ := (show xPD D A [] H from ⟨hP, hD⟩)
  obtain ⟨uk, eu9⟩ : ∃ z, z = u9 := ⟨_, rfl⟩
  subst eu9
  clear hG
  refine lv_aload_n hx hb dJ1_charAt_3b067_6 rfl (lv_at hl 0 rfl) ?_
  refine lv_iload_n hx hb dJ1_charAt_3b067_7 rfl (lv_at hl 1 rfl) ?_
  refine va_tb hx hb (hT.2.1 2 (by decide)).2.2.2 hS (show vp_in (vi 0) 58 from (vp_in_iff.mpr (by omega))) rfl dJ1_charAt_3b067_8 ?_
  refine lv_topi (fun z8 ez8 => ?_)
  refine lv_sipush (v := 255) hx hb dJ1_charAt_3b067_9 (by decide) ?_
  refine lv_iand hx hb dJ1_charAt_3b067_12 ?_
  refine lv_topi (fun z12 ez12 => ?_)
  have tz12 : 0 ≤ z12.toInt ∧ z12.toInt ≤ 255 := by rw [ez12]; exact xand255 _
  refine lv_i2c hx hb dJ1_charAt_3b067_13 rfl ?_
  refine lv_topi (fun z13 ez13 => ?_)
  have nz13 : narrow .char (.int z13) = .int z13 := by rw [ez13]; exact pk_nc _
  have hP9 := hP.sub (ws' := []) [] rfl
  have hD9 := hD.sub (ws' := []) [] (by decide +kernel) rfl
  rw [hQ]
  exact W.zret (v := z13) hx hb hr nz13 (fun t ht hW => ⟨⟨z13, z13, rfl, rfl, xf [], xh [], xv [], xl [], by rw [ht]; exact hP9, hD9, ⟨nz13, (by unfold R_J1_charAt_3b067_31; exact (fun Q9 k9_0 => k9_0 hp0 fik flk vik vlk uk z8 ez8 z12 ez12 z13 ez13 rfl)), trivial⟩⟩, hS.F ht⟩) hS.2.2 dJ1_charAt_3b067_14
abbrev pre_J0_charAt_5068e_31 (T : Nat → ClassId) (a ex : Nat → Nat) (fi : Nat → Nat → Int32) (fl : Nat → Nat → Int64) (vi : Nat → Int32) (vl : Nat → Int64) : va_W := []
set_option maxHeartbeats 8000000 in
set_option maxRecDepth 100000 in
theorem c_J0_charAt_5068e_31 (l : Launch) (D : va_G) (T : Nat → ClassId) (a ex : Nat → Nat) (fi : Nat → Nat → Int32) (fl : Nat → Nat → Int64) (vi : Nat → Int32) (vl : Nat → Int64) (kK kV : Nat → Nat) (sz : Nat) (hp0 : 0 ≤ (vi 0).toInt ∧ (vi 0).toInt ≤ 57) : Met l yJ0_charAt_5068e (xw yJ0_charAt_5068e cJ0_charAt_5068e 2 (some .char)) ({ frames := 3, cells := 0, slots := 0, locals := 76 }) (xPs D T kK kV [.ref (kK 2), .int (vi 0)] sz (pre_J0_charAt_5068e_31 T a ex fi fl vi vl)) (va_Qi (fun r u => r = u) (xC D (va_A (pre_J0_charAt_5068e_31 T a ex fi fl vi vl) sz) (fun fj fm vj vm => []) (fun (r : Int32) (fj : Nat → Nat → Int32) (fm : Nat → Nat → Int64) (vj : Nat → Int32) (vm : Nat → Int64) => narrow .char (.int r) = .int r ∧ R_J0_charAt_5068e_31 fi fl vi vl r fj fm vj vm ∧ True)) (va_A (pre_J0_charAt_5068e_31 T a ex fi fl vi vl) sz)) 0 0 (va_A (pre_J0_charAt_5068e_31 T a ex fi fl vi vl) sz) := by
  refine xofW (cc := cJ0_charAt_5068e) (maxL := 2) (ret := (some .char)) (by decide) rfl ?_
  intro p e s m args below meth c s₁ R Q hR hQ B hml hv
  obtain ⟨rfl, hsz, hP, hK, hD0, hT⟩ := hv
  have hx := B.exec
  have hb := B.bytes
  have hr := B.returns
  have hts := atoms_spec (ws := xw yJ0_charAt_5068e cJ0_charAt_5068e 2 (some .char)) B.pre
  have htg : ∀ w ∈ xg, w.before _ s = true := fun w h => hts w (List.mem_cons_of_mem _ h)
  have hown : s.vm.findClass RJ0 = some m.cls := findClass_of_methodNamed B.named
  have hlocks := B.notSynchronized
  subst hsz
  have hD := hD0.self (sz := s.heap.size)
  generalize hAe : va_A (pre_J0_charAt_5068e_31 T a ex fi fl vi vl) s.heap.size = A at hD hQ hT
  have hA : ∀ q : Nat, s.heap.size ≤ q → A q := fun q h => by rw [← hAe]; exact Or.inr h
  have hS : va_S A s.heap s.heap [] := va_S.rf
  replace hP : va_P D vwCl [] s.heap := hP
  replace hD : va_D A [] := hD
  have hl := lv_entry ([.ref (kK 2), .int (vi 0)]) (n := 2) (Nat.le_of_ble_eq_true rfl)
  rw [lg_entry_eq]
  generalize (lg_sl ([.ref (kK 2), .int (vi 0)]) ++ List.replicate (2 - (lg_sl ([.ref (kK 2), .int (vi 0)])).length) Slot.unset).toArray = ls at hl ⊢
  replace hl : lv_has ls 2 [(0, .ref (kK 2)), (1, .int (vi 0))] := hl
  refine lv_aload_n hx hb dJ0_charAt_5068e_0 rfl (lv_at hl 0 rfl) ?_
  obtain ⟨hC9, hPc, hDc, hFc⟩ := xcut (wc := (pre_J0_isLatin1_aae02_31 T (xa []) (xa []) (xf []) (xh []) (xv []) (xl []))) hP hD hS hA [] (by decide) rfl
  refine va_calli (va_runV (As := []) (rest := []) ⟨hx, hb, hml, hown, htg⟩ (c_J0_isLatin1_aae02_31 l D T (xa []) (xa []) (xf []) (xh []) (xv []) (xl []) kK kV s.heap.size) ⟨callB_of 0 htg (xg_ok kw_61) rfl rfl rfl (htg _ kw_3) (htg _ kw_58) (by decide +kernel) ⟨by rw [hR]; exact Nat.le_of_ble_eq_true rfl, by rw [hR]; exact Nat.le_of_ble_eq_true rfl⟩, htg _ kw_59, htg _ kw_60⟩ (xpreVs hK hPc hDc hT hFc hS (xT.recv hT 2 (by decide) hS)) rfl rfl hl.1 rfl (lv_room (Nat.le_of_ble_eq_true rfl)) dJ0_charAt_5068e_1 ⟨by rw [hR]; exact Nat.le_of_ble_eq_true rfl, by rw [hR]; exact Nat.le_of_ble_eq_true rfl⟩) hS (fun q _ h => hFc q h) hFc (fun r9 u9 t H1 locs ht hvm hw hB hz1 hk1 hS => ?_)
  subst hw
  obtain ⟨fik, flk, vik, vlk, hP1, hD1, hG⟩ := hB
  rw [ht] at hP1
  obtain ⟨hP, hD⟩ := va_join (wr := []) (w1 := []) hP hD [] [] hC9 rfl (by decide) (by decide) hk1 hFc hP1 hD1
  obtain ⟨rk, er9⟩ : ∃ z, z = r9 := ⟨_, rfl⟩
  subst er9
  clear hPc hDc hFc hP1 hD1 hk1 hz1 hvm ht hC9
  generalize H1 = H at hP hS ⊢
  obtain ⟨hP, hD⟩ := (show xPD D A [] H from ⟨hP, hD⟩)
  obtain ⟨gk_0, -⟩ := hG
  replace gk_0 : rk = 1 := gk_0
  refine xz_i 1 gk_0 ?_
  refine lv_if_eq (tgt := 16) hx hb dJ0_charAt_5068e_4 (by decide) (fun c => absurd c (by decide)) (fun _ => ?_)
  refine lv_aload_n hx hb dJ0_charAt_5068e_7 rfl (lv_at hl 0 rfl) ?_
  refine vk_getf hx hb (hT.2.1 2 (by decide)).2.2.1 hS hown (htg _ kw_2030) (fun _ h9 => h9) dJ0_charAt_5068e_8 ?_
  refine lv_iload_n hx hb dJ0_charAt_5068e_11 rfl (lv_at hl 1 rfl) ?_
  obtain ⟨hC9, hPc, hDc, hFc⟩ := xcut (wc := (pre_J1_charAt_3b067_31 T (xa []) (xa []) (xf []) (xh []) (xv [(vi 0)]) (xl []))) hP hD hS hA [] (by decide) rfl
  refine va_calli (va_runS (As := [.ref (kV 2), .int (vi 0)]) (rest := []) ⟨hx, hb, hml, hown, htg⟩ (c_J1_charAt_3b067_31 l D T (xa []) (xa []) (xf []) (xh []) (xv [(vi 0)]) (xl []) kK kV H.size hp0) ⟨callB_of 2 htg (xg_ok kw_64) rfl rfl rfl (htg _ kw_4) (htg _ kw_62) (by decide +kernel) ⟨by rw [hR]; exact Nat.le_of_ble_eq_true rfl, by rw [hR]; exact Nat.le_of_ble_eq_true rfl⟩, htg _ kw_63⟩ (xpreSs hK hPc hDc hT hFc hS) rfl rfl hl.1 rfl (lv_room (Nat.le_of_ble_eq_true rfl)) dJ0_charAt_5068e_12 ⟨by rw [hR]; exact Nat.le_of_ble_eq_true rfl, by rw [hR]; exact Nat.le_of_ble_eq_true rfl⟩) hS (fun q _ h => hFc q h) hFc (fun r9 u9 t H1 locs ht hvm hw hB hz1 hk1 hS => ?_)
  subst hw
  obtain ⟨fik_1, flk_1, vik_1, vlk_1, hP1, hD1, hG⟩ := hB
  rw [ht] at hP1
  obtain ⟨hP, hD⟩ := va_join (wr := []) (w1 := []) hP hD [] [] hC9 rfl (by decide) (by decide) hk1 hFc hP1 hD1
  obtain ⟨rk_1, er9⟩ : ∃ z, z = r9 := ⟨_, rfl⟩
  subst er9
  clear hPc hDc hFc hP1 hD1 hk1 hz1 hvm ht hC9
  generalize H1 = H at hP hS ⊢
  obtain ⟨hP, hD⟩ := (show xPD D A [] H from ⟨hP, hD⟩)
  obtain ⟨gk_1_0, gk_1_1, -⟩ := hG
  replace gk_1_1 : rk_1 = (sBy.getD 2 []).getD ((vi 0).toInt).toNat 0 := (P_J1_charAt_3b067_31 gk_1_1 : _)
  replace gk_1_0 : narrow .char (.int rk_1) = .int rk_1 := gk_1_0
  have hP9 := hP.sub (ws' := []) [] rfl
  have hD9 := hD.sub (ws' := []) [] (by decide +kernel) rfl
  rw [hQ]
  exact W.zret (v := rk_1) hx hb hr gk_1_0 (fun t ht hW => ⟨⟨rk_1, rk_1, rfl, rfl, xf [], xh [], xv [], xl [], by rw [ht]; exact hP9, hD9, ⟨gk_1_0, (by unfold R_J0_charAt_5068e_31; exact (fun Q9 k9_0 => k9_0 hp0 fik flk vik vlk rk gk_0 fik_1 flk_1 vik_1 vlk_1 rk_1 gk_1_1 rfl)), trivial⟩⟩, hS.F ht⟩) hS.2.2 dJ0_charAt_5068e_15
abbrev pre_X6_keepOwn_3 (T : Nat → ClassId) (a ex : Nat → Nat) (fi : Nat → Nat → Int32) (fl : Nat → Nat → Int64) (vi : Nat → Int32) (vl : Nat → Int64) : va_W := [((a 0), .inr (6, [.ref (ex 0), .ref (a 1), .int (vi 0), .int (vi 1), .int (vi 2), .int (vi 3), .int (vi 4), .int (vi 5), .long (vl 0), .int (vi 6), .int (vi 7), .int (vi 8), .int (vi 9), .int (vi 10)])), ((a 1), .inl (T 2, 27, .inr (.inl (fl 0))))]
set_option maxHeartbeats 8000000 in
set_option maxRecDepth 100000 in
theorem c_X6_keepOwn_3 (l : Launch) (D : va_G) (T : Nat → ClassId) (a ex : Nat → Nat) (fi : Nat → Nat → Int32) (fl : Nat → Nat → Int64) (vi : Nat → Int32) (vl : Nat → Int64) (kK kV : Nat → Nat) (sz : Nat) (hp0 : 0 ≤ (vi 1).toInt ∧ (vi 1).toInt ≤ 940) (hp1 : 0 ≤ (vi 2).toInt ∧ (vi 2).toInt ≤ 940) (hp2 : 0 ≤ (vi 3).toInt ∧ (vi 3).toInt ≤ 940) (hp3 : 0 ≤ (vi 5).toInt ∧ (vi 5).toInt ≤ 940) (hp4 : 0 ≤ (vi 10).toInt ∧ (vi 10).toInt ≤ 940) (hp5 : (vi 0).toInt = 16) : Met l yX6_keepOwn (xw yX6_keepOwn cX6_keepOwn 5 none) ({ frames := 4, cells := 0, slots := 0, locals := 101 }) (xPs D T kK kV [.ref (a 0), .ref (kK 2)] sz (pre_X6_keepOwn_3 T a ex fi fl vi vl)) (va_Qv (fun _ : Int32 => True) (xC D (va_A (pre_X6_keepOwn_3 T a ex fi fl vi vl) sz) (fun fj fm vj vm => [((a 0), .inr (6, [.ref (ex 0), .ref (a 1), .int (vj 0), .int (vi 1), .int (vi 2), .int (vi 3), .int (vi 4), .int (vi 5), .long (vl 0), .int (vi 6), .int (vi 7), .int (vi 8), .int (vi 9), .int (vi 10)])), ((a 1), .inl (T 2, 27, .inr (.inl (fm 0))))]) (fun (r : Int32) (fj : Nat → Nat → Int32) (fm : Nat → Nat → Int64) (vj : Nat → Int32) (vm : Nat → Int64) => ((fm 0) = kF (sBy.getD 2 []) 16 (fl 0) 58) ∧ ((vj 0).toInt = 27) ∧ True)) (va_A (pre_X6_keepOwn_3 T a ex fi fl vi vl) sz)) 0 0 (va_A (pre_X6_keepOwn_3 T a ex fi fl vi vl) sz) := by
  refine xofW (cc := cX6_keepOwn) (maxL := 5) (ret := none) (by decide) rfl ?_
  intro p e s m args below meth c s₁ R Q hR hQ B hml hv
  obtain ⟨rfl, hsz, hP, hK, hD0, hT⟩ := hv
  have hx := B.exec
  have hb := B.bytes
  have hr := B.returns
  have hts := atoms_spec (ws := xw yX6_keepOwn cX6_keepOwn 5 none) B.pre
  have htg : ∀ w ∈ xg, w.before _ s = true := fun w h => hts w (List.mem_cons_of_mem _ h)
  have hown : s.vm.findClass RX6 = some m.cls := findClass_of_methodNamed B.named
  have hlocks := B.notSynchronized
  subst hsz
  have hD := hD0.self (sz := s.heap.size)
  generalize hAe : va_A (pre_X6_keepOwn_3 T a ex fi fl vi vl) s.heap.size = A at hD hQ hT
  have hA : ∀ q : Nat, s.heap.size ≤ q → A q := fun q h => by rw [← hAe]; exact Or.inr h
  have hS : va_S A s.heap s.heap [] := va_S.rf
  replace hP : va_P D vwCl [((a 0), .inr (6, [.ref (ex 0), .ref (a 1), .int (vi 0), .int (vi 1), .int (vi 2), .int (vi 3), .int (vi 4), .int (vi 5), .long (vl 0), .int (vi 6), .int (vi 7), .int (vi 8), .int (vi 9), .int (vi 10)])), ((a 1), .inl (T 2, 27, .inr (.inl (fl 0))))] s.heap := hP
  replace hD : va_D A [((a 0), .inr (6, [.ref (ex 0), .ref (a 1), .int (vi 0), .int (vi 1), .int (vi 2), .int (vi 3), .int (vi 4), .int (vi 5), .long (vl 0), .int (vi 6), .int (vi 7), .int (vi 8), .int (vi 9), .int (vi 10)])), ((a 1), .inl (T 2, 27, .inr (.inl (fl 0))))] := hD
  have hl := lv_entry ([.ref (a 0), .ref (kK 2)]) (n := 5) (Nat.le_of_ble_eq_true rfl)
  rw [lg_entry_eq]
  generalize (lg_sl ([.ref (a 0), .ref (kK 2)]) ++ List.replicate (5 - (lg_sl ([.ref (a 0), .ref (kK 2)])).length) Slot.unset).toArray = ls at hl ⊢
  replace hl : lv_has ls 5 [(0, .ref (a 0)), (1, .ref (kK 2))] := hl
  refine lv_lconst (v := 0) hx hb dX6_keepOwn_0 (by decide) ?_
  refine lv_lstore_n (lv' := [(2, .long 0), (0, .ref (a 0)), (1, .ref (kK 2))]) hx hb dX6_keepOwn_1 rfl hl (by decide) rfl (fun ls hl => ?_)
  refine lv_iconst (v := 0) hx hb dX6_keepOwn_2 (by decide) ?_
  refine lv_istore (lv' := [(4, .int 0), (2, .long 0), (0, .ref (a 0)), (1, .ref (kK 2))]) hx hb dX6_keepOwn_3 hl (by decide) rfl (fun ls hl => ?_)
  have lp : ∀ (kn : Nat) (w4 : Int32) (w2 : Int64) (wf : Nat → Int64) (wv : Int32) (H : Heap) (locs : List Loc) (ls : Array Slot), (0 ≤ w4.toInt ∧ w4.toInt ≤ 58) → (0 ≤ wv.toInt ∧ wv.toInt ≤ 27) → (w2 = kP (sBy.getD 2 []) (w4.toInt).toNat) → ((wv).toInt = ((kC (sBy.getD 2 []) 16 (w4.toInt).toNat : Nat) : Int)) → (wf = kF (sBy.getD 2 []) 16 (fl 0) (w4.toInt).toNat) → (2147483648 - w4.toInt).toNat = kn → va_P D vwCl [((a 0), .inr (6, [.ref (ex 0), .ref (a 1), .int wv, .int (vi 1), .int (vi 2), .int (vi 3), .int (vi 4), .int (vi 5), .long (vl 0), .int (vi 6), .int (vi 7), .int (vi 8), .int (vi 9), .int (vi 10)])), ((a 1), .inl (T 2, 27, .inr (.inl wf)))] H → va_D A [((a 0), .inr (6, [.ref (ex 0), .ref (a 1), .int wv, .int (vi 1), .int (vi 2), .int (vi 3), .int (vi 4), .int (vi 5), .long (vl 0), .int (vi 6), .int (vi 7), .int (vi 8), .int (vi 9), .int (vi 10)])), ((a 1), .inl (T 2, 27, .inr (.inl wf)))] → va_S A s.heap H locs → lv_has ls 5 [(4, .int w4), (2, .long w2), (0, .ref (a 0)), (1, .ref (kK 2))] → W p l e R s m ([.ref (a 0), .ref (kK 2)] : List Value).toArray below meth c H locs 0 0 Q (F0 m 5 ls []) := by
    intro kn
    induction kn using Nat.strongRecOn with
    | _ kn ih =>
      intro w4 w2 wf wv H locs ls hi hi_1 hkp9 hkc9 hkf9 hm hP hD hS hl
      refine lv_iload hx hb dX6_keepOwn_5 (lv_at hl 0 rfl) ?_
      refine lv_aload_n hx hb dX6_keepOwn_7 rfl (lv_at hl 3 rfl) ?_
      obtain ⟨hC9, hPc, hDc, hFc⟩ := xcut (wc := (pre_J0_length_8abf5_31 T (xa []) (xa []) (xf []) (xh []) (xv []) (xl []))) hP hD hS hA [] (by decide) rfl
      refine va_calli (va_runV (As := []) (rest := [.int w4]) ⟨hx, hb, hml, hown, htg⟩ (c_J0_length_8abf5_31 l D T (xa []) (xa []) (xf []) (xh []) (xv []) (xl []) kK kV H.size) ⟨callB_of 0 htg (xg_ok kw_47) rfl rfl rfl (htg _ kw_3) (htg _ kw_44) (by decide +kernel) ⟨by rw [hR]; exact Nat.le_of_ble_eq_true rfl, by rw [hR]; exact Nat.le_of_ble_eq_true rfl⟩, htg _ kw_45, htg _ kw_46⟩ (xpreVs hK hPc hDc hT hFc hS (xT.recv hT 2 (by decide) hS)) rfl rfl hl.1 rfl (lv_room (Nat.le_of_ble_eq_true rfl)) dX6_keepOwn_8 ⟨by rw [hR]; exact Nat.le_of_ble_eq_true rfl, by rw [hR]; exact Nat.le_of_ble_eq_true rfl⟩) hS (fun q _ h => hFc q h) hFc (fun r9 u9 t H1 locs ht hvm hw hB hz1 hk1 hS => ?_)
      subst hw
      obtain ⟨fik, flk, vik, vlk, hP1, hD1, hG⟩ := hB
      rw [ht] at hP1
      obtain ⟨hP, hD⟩ := va_join (wr := [((a 0), .inr (6, [.ref (ex 0), .ref (a 1), .int wv, .int (vi 1), .int (vi 2), .int (vi 3), .int (vi 4), .int (vi 5), .long (vl 0), .int (vi 6), .int (vi 7), .int (vi 8), .int (vi 9), .int (vi 10)])), ((a 1), .inl (T 2, 27, .inr (.inl wf)))]) (w1 := []) hP hD [] [0, 1] hC9 rfl (by decide) (by decide) hk1 hFc hP1 hD1
      obtain ⟨rk, er9⟩ : ∃ z, z = r9 := ⟨_, rfl⟩
      subst er9
      clear hPc hDc hFc hP1 hD1 hk1 hz1 hvm ht hC9
      generalize H1 = H at hP hS ⊢
      obtain ⟨hP, hD⟩ := (show xPD D A [((a 0), .inr (6, [.ref (ex 0), .ref (a 1), .int wv, .int (vi 1), .int (vi 2), .int (vi 3), .int (vi 4), .int (vi 5), .long (vl 0), .int (vi 6), .int (vi 7), .int (vi 8), .int (vi 9), .int (vi 10)])), ((a 1), .inl (T 2, 27, .inr (.inl wf)))] H from ⟨hP, hD⟩)
      obtain ⟨gk_0, -⟩ := hG
      replace gk_0 : rk = 58 := gk_0
      refine xz_i 58 gk_0 ?_
      refine lv_icmp_ge (tgt := 78) hx hb dX6_keepOwn_11 (by decide) (fun c11 => ?_) (fun c11 => ?_)
      · have c11 := xge (k := 58) (by decide) c11
        have hP9 := hP.sub (ws' := [((a 0), .inr (6, [.ref (ex 0), .ref (a 1), .int wv, .int (vi 1), .int (vi 2), .int (vi 3), .int (vi 4), .int (vi 5), .long (vl 0), .int (vi 6), .int (vi 7), .int (vi 8), .int (vi 9), .int (vi 10)])), ((a 1), .inl (T 2, 27, .inr (.inl wf)))]) [0, 1] rfl
        have hD9 := hD.sub (ws' := [((a 0), .inr (6, [.ref (ex 0), .ref (a 1), .int wv, .int (vi 1), .int (vi 2), .int (vi 3), .int (vi 4), .int (vi 5), .long (vl 0), .int (vi 6), .int (vi 7), .int (vi 8), .int (vi 9), .int (vi 10)])), ((a 1), .inl (T 2, 27, .inr (.inl wf)))]) [0, 1] (by decide +kernel) rfl
        rw [hQ]
        exact W.vret hx hb hr (fun t ht hW => ⟨⟨(0 : Int32), rfl, trivial, xf [], xh [wf], xv [wv], xl [], by rw [ht]; exact hP9, hD9, ⟨(by show wf = kF (sBy.getD 2 []) 16 (fl 0) 58; first | (exfalso; have h8 := kx_2 (w4.toInt).toNat (by omega); omega) | (have h7 : (w4.toInt).toNat = 58 := (by omega); rw [hkf9, h7])), (by show (wv).toInt = 27; first | (exfalso; have h8 := kx_2 (w4.toInt).toNat (by omega); omega) | (have h7 : (w4.toInt).toNat = 58 := (by omega); rw [h7, ky_2] at hkc9; omega)), trivial⟩⟩, hS.F ht⟩) hS.2.2 dX6_keepOwn_78
      · have c11 := xnge (k := 58) (by decide) c11
        refine lv_aload_n hx hb dX6_keepOwn_14 rfl (lv_at hl 2 rfl) ?_
        refine va_get (D := D) (ci := 6) (v := .int wv) (C := RX6) (T := TX6) (N := 14) hx hb htg inX6 hown hK.1 hP 0 rfl rfl 2 (by decide) (htg _ kw_96) (fun _ h9 => h9) rfl dX6_keepOwn_15 ?_
        refine lv_bipush (v := 27) hx hb dX6_keepOwn_18 (by decide) ?_
        refine lv_icmp_ge (tgt := 78) hx hb dX6_keepOwn_20 (by decide) (fun c20 => ?_) (fun c20 => ?_)
        · have c20 := xge (k := 27) (by decide) c20
          have hP9 := hP.sub (ws' := [((a 0), .inr (6, [.ref (ex 0), .ref (a 1), .int wv, .int (vi 1), .int (vi 2), .int (vi 3), .int (vi 4), .int (vi 5), .long (vl 0), .int (vi 6), .int (vi 7), .int (vi 8), .int (vi 9), .int (vi 10)])), ((a 1), .inl (T 2, 27, .inr (.inl wf)))]) [0, 1] rfl
          have hD9 := hD.sub (ws' := [((a 0), .inr (6, [.ref (ex 0), .ref (a 1), .int wv, .int (vi 1), .int (vi 2), .int (vi 3), .int (vi 4), .int (vi 5), .long (vl 0), .int (vi 6), .int (vi 7), .int (vi 8), .int (vi 9), .int (vi 10)])), ((a 1), .inl (T 2, 27, .inr (.inl wf)))]) [0, 1] (by decide +kernel) rfl
          rw [hQ]
          exact W.vret hx hb hr (fun t ht hW => ⟨⟨(0 : Int32), rfl, trivial, xf [], xh [wf], xv [wv], xl [], by rw [ht]; exact hP9, hD9, ⟨(by show wf = kF (sBy.getD 2 []) 16 (fl 0) 58; first | (exfalso; have h8 := kx_2 (w4.toInt).toNat (by omega); omega) | (have h7 : (w4.toInt).toNat = 58 := (by omega); rw [hkf9, h7])), (by show (wv).toInt = 27; first | (exfalso; have h8 := kx_2 (w4.toInt).toNat (by omega); omega) | (have h7 : (w4.toInt).toNat = 58 := (by omega); rw [h7, ky_2] at hkc9; omega)), trivial⟩⟩, hS.F ht⟩) hS.2.2 dX6_keepOwn_78
        · have c20 := xnge (k := 27) (by decide) c20
          refine lv_aload_n hx hb dX6_keepOwn_23 rfl (lv_at hl 3 rfl) ?_
          refine lv_iload hx hb dX6_keepOwn_24 (lv_at hl 0 rfl) ?_
          obtain ⟨hC9, hPc, hDc, hFc⟩ := xcut (wc := (pre_J0_charAt_5068e_31 T (xa []) (xa []) (xf []) (xh []) (xv [w4]) (xl []))) hP hD hS hA [] (by decide) rfl
          refine va_calli (va_runV (As := [.int w4]) (rest := []) ⟨hx, hb, hml, hown, htg⟩ (c_J0_charAt_5068e_31 l D T (xa []) (xa []) (xf []) (xh []) (xv [w4]) (xl []) kK kV H.size (by show 0 ≤ w4.toInt ∧ w4.toInt ≤ 57; omega)) ⟨callB_of 1 htg (xg_ok kw_57) rfl rfl rfl (htg _ kw_3) (htg _ kw_54) (by decide +kernel) ⟨by rw [hR]; exact Nat.le_of_ble_eq_true rfl, by rw [hR]; exact Nat.le_of_ble_eq_true rfl⟩, htg _ kw_55, htg _ kw_56⟩ (xpreVs hK hPc hDc hT hFc hS (xT.recv hT 2 (by decide) hS)) rfl rfl hl.1 rfl (lv_room (Nat.le_of_ble_eq_true rfl)) dX6_keepOwn_26 ⟨by rw [hR]; exact Nat.le_of_ble_eq_true rfl, by rw [hR]; exact Nat.le_of_ble_eq_true rfl⟩) hS (fun q _ h => hFc q h) hFc (fun r9 u9 t H1 locs ht hvm hw hB hz1 hk1 hS => ?_)
          subst hw
          obtain ⟨fik_1, flk_1, vik_1, vlk_1, hP1, hD1, hG⟩ := hB
          rw [ht] at hP1
          obtain ⟨hP, hD⟩ := va_join (wr := [((a 0), .inr (6, [.ref (ex 0), .ref (a 1), .int wv, .int (vi 1), .int (vi 2), .int (vi 3), .int (vi 4), .int (vi 5), .long (vl 0), .int (vi 6), .int (vi 7), .int (vi 8), .int (vi 9), .int (vi 10)])), ((a 1), .inl (T 2, 27, .inr (.inl wf)))]) (w1 := []) hP hD [] [0, 1] hC9 rfl (by decide) (by decide) hk1 hFc hP1 hD1
          obtain ⟨rk_1, er9⟩ : ∃ z, z = r9 := ⟨_, rfl⟩
          subst er9
          clear hPc hDc hFc hP1 hD1 hk1 hz1 hvm ht hC9
          generalize H1 = H at hP hS ⊢
          obtain ⟨hP, hD⟩ := (show xPD D A [((a 0), .inr (6, [.ref (ex 0), .ref (a 1), .int wv, .int (vi 1), .int (vi 2), .int (vi 3), .int (vi 4), .int (vi 5), .long (vl 0), .int (vi 6), .int (vi 7), .int (vi 8), .int (vi 9), .int (vi 10)])), ((a 1), .inl (T 2, 27, .inr (.inl wf)))] H from ⟨hP, hD⟩)
          obtain ⟨gk_1_0, gk_1_1, -⟩ := hG
          replace gk_1_1 : rk_1 = (sBy.getD 2 []).getD (w4.toInt).toNat 0 := (P_J0_charAt_5068e_31 gk_1_1 : _)
          replace gk_1_0 : narrow .char (.int rk_1) = .int rk_1 := gk_1_0
          refine lv_bipush (v := 32) hx hb dX6_keepOwn_29 (by decide) ?_
          refine lv_icmp_ne (tgt := 59) hx hb dX6_keepOwn_31 (by decide) (fun c31 => ?_) (fun c31 => ?_)
          · have c31 := xne (k := 32) (by decide) c31
            refine lv_lload_n hx hb dX6_keepOwn_59 rfl (lv_at hl 1 rfl) ?_
            refine lv_bipush (v := 8) hx hb dX6_keepOwn_60 (by decide) ?_
            refine lv_lshl hx hb dX6_keepOwn_62 rfl ?_
            refine lv_topl (fun z62 ez62 => ?_)
            refine lv_aload_n hx hb dX6_keepOwn_63 rfl (lv_at hl 3 rfl) ?_
            refine lv_iload hx hb dX6_keepOwn_64 (lv_at hl 0 rfl) ?_
            obtain ⟨hC9, hPc, hDc, hFc⟩ := xcut (wc := (pre_J0_charAt_5068e_31 T (xa []) (xa []) (xf []) (xh []) (xv [w4]) (xl []))) hP hD hS hA [] (by decide) rfl
            refine va_calli (va_runV (As := [.int w4]) (rest := [.long z62]) ⟨hx, hb, hml, hown, htg⟩ (c_J0_charAt_5068e_31 l D T (xa []) (xa []) (xf []) (xh []) (xv [w4]) (xl []) kK kV H.size (by show 0 ≤ w4.toInt ∧ w4.toInt ≤ 57; omega)) ⟨callB_of 1 htg (xg_ok kw_57) rfl rfl rfl (htg _ kw_3) (htg _ kw_54) (by decide +kernel) ⟨by rw [hR]; exact Nat.le_of_ble_eq_true rfl, by rw [hR]; exact Nat.le_of_ble_eq_true rfl⟩, htg _ kw_55, htg _ kw_56⟩ (xpreVs hK hPc hDc hT hFc hS (xT.recv hT 2 (by decide) hS)) rfl rfl hl.1 rfl (lv_room (Nat.le_of_ble_eq_true rfl)) dX6_keepOwn_66 ⟨by rw [hR]; exact Nat.le_of_ble_eq_true rfl, by rw [hR]; exact Nat.le_of_ble_eq_true rfl⟩) hS (fun q _ h => hFc q h) hFc (fun r9 u9 t H1 locs ht hvm hw hB hz1 hk1 hS => ?_)
            subst hw
            obtain ⟨fik_2, flk_2, vik_2, vlk_2, hP1, hD1, hG⟩ := hB
            rw [ht] at hP1
            obtain ⟨hP, hD⟩ := va_join (wr := [((a 0), .inr (6, [.ref (ex 0), .ref (a 1), .int wv, .int (vi 1), .int (vi 2), .int (vi 3), .int (vi 4), .int (vi 5), .long (vl 0), .int (vi 6), .int (vi 7), .int (vi 8), .int (vi 9), .int (vi 10)])), ((a 1), .inl (T 2, 27, .inr (.inl wf)))]) (w1 := []) hP hD [] [0, 1] hC9 rfl (by decide) (by decide) hk1 hFc hP1 hD1
            obtain ⟨rk_2, er9⟩ : ∃ z, z = r9 := ⟨_, rfl⟩
            subst er9
            clear hPc hDc hFc hP1 hD1 hk1 hz1 hvm ht hC9
            generalize H1 = H at hP hS ⊢
            obtain ⟨hP, hD⟩ := (show xPD D A [((a 0), .inr (6, [.ref (ex 0), .ref (a 1), .int wv, .int (vi 1), .int (vi 2), .int (vi 3), .int (vi 4), .int (vi 5), .long (vl 0), .int (vi 6), .int (vi 7), .int (vi 8), .int (vi 9), .int (vi 10)])), ((a 1), .inl (T 2, 27, .inr (.inl wf)))] H from ⟨hP, hD⟩)
            obtain ⟨gk_2_0, gk_2_1, -⟩ := hG
            replace gk_2_1 : rk_2 = (sBy.getD 2 []).getD (w4.toInt).toNat 0 := (P_J0_charAt_5068e_31 gk_2_1 : _)
            replace gk_2_0 : narrow .char (.int rk_2) = .int rk_2 := gk_2_0
            refine lv_i2l hx hb dX6_keepOwn_69 rfl ?_
            refine lv_topl (fun z69 ez69 => ?_)
            refine lv_lor hx hb dX6_keepOwn_70 ?_
            refine lv_topl (fun z70 ez70 => ?_)
            refine lv_lstore_n (lv' := [(2, .long z70), (4, .int w4), (0, .ref (a 0)), (1, .ref (kK 2))]) hx hb dX6_keepOwn_71 rfl hl (by decide) rfl (fun ls hl => ?_)
            obtain ⟨i72, ei72⟩ : ∃ z : Int32, w4 + Int32.ofInt 1 = z := ⟨_, rfl⟩
            have ti72 : i72.toInt = w4.toInt + 1 := by rw [← ei72]; have h79 := xrng w4; exact xadd rfl (by decide) (by omega) (by omega)
            refine lv_iinc (v := i72) (lv' := [(4, .int i72), (2, .long z70), (0, .ref (a 0)), (1, .ref (kK 2))]) hx hb dX6_keepOwn_72 hl (k := 1) rfl ei72 (by decide) rfl (fun ls hl => ?_)
            refine lv_goto (tgt := 5) hx hb dX6_keepOwn_75 (by decide) ?_
            exact ih _ (by omega) i72 z70 wf wv _ _ _ (by show 0 ≤ i72.toInt ∧ i72.toInt ≤ 58; omega) hi_1 (by show z70 = kP (sBy.getD 2 []) (i72.toInt).toNat; rw [ez70, ez62, ez69]; exact kP_l c31 (by assumption) (by omega) (by omega) hkp9 (by assumption)) (by show (wv).toInt = ((kC (sBy.getD 2 []) 16 (i72.toInt).toNat : Nat) : Int); exact kC_l c31 (by assumption) (by omega) (by omega) hkc9) (by show wf = kF (sBy.getD 2 []) 16 (fl 0) (i72.toInt).toNat; exact kF_l c31 (by assumption) (by omega) (by omega) hkf9) rfl (hP.sub [0, 1] rfl) (hD.sub [0, 1] (by decide) rfl) hS (lv_sub hl [0, 1, 2, 3] rfl)
          · have c31 := xeq (k := 32) (by decide) c31
            refine lv_aload_n hx hb dX6_keepOwn_34 rfl (lv_at hl 2 rfl) ?_
            refine va_get (D := D) (ci := 6) (v := .ref (a 1)) (C := RX6) (T := TX6) (N := 14) hx hb htg inX6 hown hK.1 hP 0 rfl rfl 1 (by decide) (htg _ kw_95) (fun _ h9 => h9) rfl dX6_keepOwn_35 ?_
            refine lv_aload_n hx hb dX6_keepOwn_38 rfl (lv_at hl 2 rfl) ?_
            refine va_get (D := D) (ci := 6) (v := .int wv) (C := RX6) (T := TX6) (N := 14) hx hb htg inX6 hown hK.1 hP 0 rfl rfl 2 (by decide) (htg _ kw_96) (fun _ h9 => h9) rfl dX6_keepOwn_39 ?_
            refine lv_lload_n hx hb dX6_keepOwn_42 rfl (lv_at hl 1 rfl) ?_
            refine va_last hx hb hK.1 hP hD hS 1 2 rfl rfl (vp_in_iff.mpr (by omega)) dX6_keepOwn_43 (fun H locs hP hD hS => ?_)
            obtain ⟨f43, ef43, hP, hD⟩ : ∃ f7 : Nat → Int64, f7 = vp_updL wf wv.toNatClampNeg (w2 : Int64) ∧ va_P D vwCl [((a 0), .inr (6, [.ref (ex 0), .ref (a 1), .int wv, .int (vi 1), .int (vi 2), .int (vi 3), .int (vi 4), .int (vi 5), .long (vl 0), .int (vi 6), .int (vi 7), .int (vi 8), .int (vi 9), .int (vi 10)])), ((a 1), .inl (T 2, 27, .inr (.inl f7)))] H ∧ va_D A [((a 0), .inr (6, [.ref (ex 0), .ref (a 1), .int wv, .int (vi 1), .int (vi 2), .int (vi 3), .int (vi 4), .int (vi 5), .long (vl 0), .int (vi 6), .int (vi 7), .int (vi 8), .int (vi 9), .int (vi 10)])), ((a 1), .inl (T 2, 27, .inr (.inl f7)))] := ⟨_, rfl, hP, hD⟩
            refine lv_aload_n hx hb dX6_keepOwn_44 rfl (lv_at hl 2 rfl) ?_
            refine lv_dup hx hb dX6_keepOwn_45 rfl ?_
            refine va_get (D := D) (ci := 6) (v := .int wv) (C := RX6) (T := TX6) (N := 14) hx hb htg inX6 hown hK.1 hP 0 rfl rfl 2 (by decide) (htg _ kw_96) (fun _ h9 => h9) rfl dX6_keepOwn_46 ?_
            refine lv_iconst (v := 1) hx hb dX6_keepOwn_49 (by decide) ?_
            refine lv_iadd hx hb dX6_keepOwn_50 ?_
            refine lv_topi (fun z50 ez50 => ?_)
            have tz50 : z50.toInt = wv.toInt + 1 := by rw [ez50]; exact xadd rfl (by decide) (by omega) (by omega)
            refine va_put (D := D) (ci := 6) (v := .int z50) (ty := .int) (C := RX6) (T := TX6) (N := 14) hx hb htg inX6 tyX6 tyX6_ok nmX6 hown hK.1 hP hD hS 0 rfl rfl 2 (by decide) (htg _ kw_96) (fun _ h9 => h9) rfl (by decide +kernel) rfl rfl (Nat.le_of_ble_eq_true rfl) dX6_keepOwn_51 (fun H locs hP hD hS => ?_)
            obtain ⟨hP, hD⟩ := (show xPD D A [((a 0), .inr (6, [.ref (ex 0), .ref (a 1), .int z50, .int (vi 1), .int (vi 2), .int (vi 3), .int (vi 4), .int (vi 5), .long (vl 0), .int (vi 6), .int (vi 7), .int (vi 8), .int (vi 9), .int (vi 10)])), ((a 1), .inl (T 2, 27, .inr (.inl f43)))] H from ⟨hP, hD⟩)
            refine lv_lconst (v := 0) hx hb dX6_keepOwn_54 (by decide) ?_
            refine lv_lstore_n (lv' := [(2, .long 0), (4, .int w4), (0, .ref (a 0)), (1, .ref (kK 2))]) hx hb dX6_keepOwn_55 rfl hl (by decide) rfl (fun ls hl => ?_)
            refine lv_goto (tgt := 72) hx hb dX6_keepOwn_56 (by decide) ?_
            obtain ⟨i72_1, ei72_1⟩ : ∃ z : Int32, w4 + Int32.ofInt 1 = z := ⟨_, rfl⟩
            have ti72_1 : i72_1.toInt = w4.toInt + 1 := by rw [← ei72_1]; have h79 := xrng w4; exact xadd rfl (by decide) (by omega) (by omega)
            refine lv_iinc (v := i72_1) (lv' := [(4, .int i72_1), (2, .long 0), (0, .ref (a 0)), (1, .ref (kK 2))]) hx hb dX6_keepOwn_72 hl (k := 1) rfl ei72_1 (by decide) rfl (fun ls hl => ?_)
            refine lv_goto (tgt := 5) hx hb dX6_keepOwn_75 (by decide) ?_
            exact ih _ (by omega) i72_1 (0 : Int64) f43 z50 _ _ _ (by show 0 ≤ i72_1.toInt ∧ i72_1.toInt ≤ 58; omega) (by show 0 ≤ z50.toInt ∧ z50.toInt ≤ 27; omega) (by show (0 : Int64) = kP (sBy.getD 2 []) (i72_1.toInt).toNat; exact kP_b c31 (by assumption) (by omega) (by omega)) (by show (z50).toInt = ((kC (sBy.getD 2 []) 16 (i72_1.toInt).toNat : Nat) : Int); exact kC_b c31 (by assumption) (by omega) (by omega) hkc9 (by omega)) (by show f43 = kF (sBy.getD 2 []) 16 (fl 0) (i72_1.toInt).toNat; rw [ef43]; exact kF_b c31 (by assumption) (by omega) (by omega) hkc9 hkp9 hkf9) rfl (hP.sub [0, 1] rfl) (hD.sub [0, 1] (by decide) rfl) hS (lv_sub hl [0, 1, 2, 3] rfl)
  exact lp _ (0 : Int32) (0 : Int64) (fl 0) (vi 0) _ _ _ (show 0 ≤ (0 : Int32).toInt ∧ (0 : Int32).toInt ≤ 58 by decide) (by show 0 ≤ (vi 0).toInt ∧ (vi 0).toInt ≤ 27; omega) (by show (0 : Int64) = kP (sBy.getD 2 []) ((0 : Int32).toInt).toNat; have k9_0 : (0 : Int32).toInt = 0 := (by decide); rw [show (0 : Int32).toInt.toNat = 0 by decide]; rfl) (by show (vi 0).toInt = ((kC (sBy.getD 2 []) 16 ((0 : Int32).toInt).toNat : Nat) : Int); have k9_0 : (0 : Int32).toInt = 0 := (by decide); rw [show (0 : Int32).toInt.toNat = 0 by decide]; show _ = ((16 : Nat) : Int); omega) (by show (fl 0) = kF (sBy.getD 2 []) 16 (fl 0) ((0 : Int32).toInt).toNat; have k9_0 : (0 : Int32).toInt = 0 := (by decide); rw [show (0 : Int32).toInt.toNat = 0 by decide]; rfl) rfl hP hD hS hl
