abbrev pre_X2_perish (T : Nat → ClassId) (a ex : Nat → Nat) (fi : Nat → Nat → Int32) (fl : Nat → Nat → Int64) (vi : Nat → Int32) (vl : Nat → Int64) : va_W := [((a 0), .inr (2, [.ref (ex 0), .int (vi 2), .int (vi 3), .int (vi 4), .int (vi 5), .int (vi 6), .int (vi 7), .ref (a 3), .ref (ex 1), .ref (a 4), .ref (a 1), .ref (ex 2), .ref (ex 3), .ref (a 2), .ref (ex 4)])), ((a 1), .inl (T 1, 9, .inl (fi 0))), ((a 2), .inl (T 1, 9, .inl (fi 1))), ((a 3), .inl (T 1, 9, .inl (fi 2))), ((a 4), .inl (T 1, 9, .inl (fi 3)))]
set_option maxHeartbeats 8000000 in
set_option maxRecDepth 100000 in
theorem c_X2_perish (l : Launch) (D : va_G) (T : Nat → ClassId) (a ex : Nat → Nat) (fi : Nat → Nat → Int32) (fl : Nat → Nat → Int64) (vi : Nat → Int32) (vl : Nat → Int64) (sz : Nat) (hp0 : 0 ≤ (vi 0).toInt ∧ (vi 0).toInt ≤ 8) (hp1 : 0 ≤ (vi 2).toInt ∧ (vi 2).toInt ≤ 200) (hp2 : 0 ≤ (vi 7).toInt ∧ (vi 7).toInt ≤ 9) (hp3 : rg (fi 0) 0 9 (-1) 8) (hp4 : rg (fi 1) 0 9 0 8) (hp5 : rg (fi 2) 0 9 (-1) 8) : Met l yX2_perish (xw yX2_perish cX2_perish 4 none) ({ frames := 2, cells := 0, slots := 0, locals := 146 }) (xP D T [.ref (a 0), .int (vi 0), .int (vi 1)] sz (pre_X2_perish T a ex fi fl vi vl)) (va_Qv (fun _ : Int32 => True) (xC D (va_A (pre_X2_perish T a ex fi fl vi vl) sz) (fun fj fm vj vm => [((a 0), .inr (2, [.ref (ex 0), .int (vi 2), .int (vj 0), .int (vi 4), .int (vi 5), .int (vi 6), .int (vj 1), .ref (a 3), .ref (ex 1), .ref (a 4), .ref (a 1), .ref (ex 2), .ref (ex 3), .ref (a 2), .ref (ex 4)])), ((a 1), .inl (T 1, 9, .inl (fj 2))), ((a 2), .inl (T 1, 9, .inl (fj 0))), ((a 3), .inl (T 1, 9, .inl (fj 1))), ((a 4), .inl (T 1, 9, .inl (fj 3)))]) (fun (r : Int32) (fj : Nat → Nat → Int32) (fm : Nat → Nat → Int64) (vj : Nat → Int32) (vm : Nat → Int64) => (0 ≤ (vj 1).toInt ∧ (vj 1).toInt ≤ 9) ∧ rg (fj 2) 0 9 (-1) 8 ∧ rg (fj 0) 0 9 0 8 ∧ rg (fj 1) 0 9 (-1) 8 ∧ True)) (va_A (pre_X2_perish T a ex fi fl vi vl) sz)) 0 0 (va_A (pre_X2_perish T a ex fi fl vi vl) sz) := by
  refine xofW (cc := cX2_perish) (maxL := 4) (ret := none) (by decide) rfl ?_
  intro p e s m args below meth c s₁ R Q hR hQ B hml hv
  obtain ⟨rfl, hsz, hP, hK, hD0⟩ := hv
  have hx := B.exec
  have hb := B.bytes
  have hr := B.returns
  have hts := atoms_spec (ws := xw yX2_perish cX2_perish 4 none) B.pre
  have htg : ∀ w ∈ xg, w.before _ s = true := fun w h => hts w (List.mem_cons_of_mem _ h)
  have hown : s.vm.findClass RX2 = some m.cls := findClass_of_methodNamed B.named
  have hlocks := B.notSynchronized
  subst hsz
  have hD := hD0.self (sz := s.heap.size)
  generalize hAe : va_A (pre_X2_perish T a ex fi fl vi vl) s.heap.size = A at hD hQ
  have hA : ∀ q : Nat, s.heap.size ≤ q → A q := fun q h => by rw [← hAe]; exact Or.inr h
  have hS : va_S A s.heap s.heap [] := va_S.rf
  replace hP : va_P D vwCl [((a 0), .inr (2, [.ref (ex 0), .int (vi 2), .int (vi 3), .int (vi 4), .int (vi 5), .int (vi 6), .int (vi 7), .ref (a 3), .ref (ex 1), .ref (a 4), .ref (a 1), .ref (ex 2), .ref (ex 3), .ref (a 2), .ref (ex 4)])), ((a 1), .inl (T 1, 9, .inl (fi 0))), ((a 2), .inl (T 1, 9, .inl (fi 1))), ((a 3), .inl (T 1, 9, .inl (fi 2))), ((a 4), .inl (T 1, 9, .inl (fi 3)))] s.heap := hP
  replace hD : va_D A [((a 0), .inr (2, [.ref (ex 0), .int (vi 2), .int (vi 3), .int (vi 4), .int (vi 5), .int (vi 6), .int (vi 7), .ref (a 3), .ref (ex 1), .ref (a 4), .ref (a 1), .ref (ex 2), .ref (ex 3), .ref (a 2), .ref (ex 4)])), ((a 1), .inl (T 1, 9, .inl (fi 0))), ((a 2), .inl (T 1, 9, .inl (fi 1))), ((a 3), .inl (T 1, 9, .inl (fi 2))), ((a 4), .inl (T 1, 9, .inl (fi 3)))] := hD
  have hl := lv_entry ([.ref (a 0), .int (vi 0), .int (vi 1)]) (n := 4) (Nat.le_of_ble_eq_true rfl)
  rw [lg_entry_eq]
  generalize (lg_sl ([.ref (a 0), .int (vi 0), .int (vi 1)]) ++ List.replicate (4 - (lg_sl ([.ref (a 0), .int (vi 0), .int (vi 1)])).length) Slot.unset).toArray = ls at hl ⊢
  replace hl : lv_has ls 4 [(0, .ref (a 0)), (1, .int (vi 0)), (2, .int (vi 1))] := hl
  refine lv_aload_n hx hb dX2_perish_0 rfl (lv_at hl 0 rfl) ?_
  refine va_get (D := D) (ci := 2) (v := .ref (a 1)) (C := RX2) (T := TX2) (N := 15) hx hb htg inX2 hown hK.1 hP 0 rfl rfl 10 (by decide) (htg _ kw_267) (fun _ h9 => h9) rfl dX2_perish_1 ?_
  refine lv_iload_n hx hb dX2_perish_4 rfl (lv_at hl 1 rfl) ?_
  refine va_iald hx hb hK.1 hP 1 1 rfl rfl (vp_in_iff.mpr (by omega)) dX2_perish_5 ?_
  have hv := rg_at hp3 (i := (vi 0)) (by omega) (by omega)
  refine lv_istore_n (lv' := [(3, .int ((fi 0) (vi 0).toNatClampNeg)), (0, .ref (a 0)), (1, .int (vi 0)), (2, .int (vi 1))]) hx hb dX2_perish_6 rfl hl (by decide) rfl (fun ls hl => ?_)
  refine lv_aload_n hx hb dX2_perish_7 rfl (lv_at hl 1 rfl) ?_
  refine lv_dup hx hb dX2_perish_8 rfl ?_
  refine va_get (D := D) (ci := 2) (v := .int (vi 3)) (C := RX2) (T := TX2) (N := 15) hx hb htg inX2 hown hK.1 hP 0 rfl rfl 2 (by decide) (htg _ kw_250) (fun _ h9 => h9) rfl dX2_perish_9 ?_
  refine lv_iconst (v := 1) hx hb dX2_perish_12 (by decide) ?_
  refine lv_iload_n hx hb dX2_perish_13 rfl (lv_at hl 2 rfl) ?_
  refine lv_ishl hx hb dX2_perish_14 ?_
  refine lv_topi (fun z14 ez14 => ?_)
  refine lv_iconst (v := (-1)) hx hb dX2_perish_15 (by decide) ?_
  refine lv_ixor hx hb dX2_perish_16 ?_
  refine lv_topi (fun z16 ez16 => ?_)
  refine lv_iand hx hb dX2_perish_17 ?_
  refine lv_topi (fun z17 ez17 => ?_)
  refine va_put (D := D) (ci := 2) (v := .int z17) (ty := .int) (C := RX2) (T := TX2) (N := 15) hx hb htg inX2 tyX2 tyX2_ok nmX2 hown hK.1 hP hD hS 0 rfl rfl 2 (by decide) (htg _ kw_250) (fun _ h9 => h9) rfl (by decide +kernel) rfl rfl (Nat.le_of_ble_eq_true rfl) dX2_perish_18 (fun H locs hP hD hS => ?_)
  replace hP : va_P D vwCl [((a 0), .inr (2, [.ref (ex 0), .int (vi 2), .int z17, .int (vi 4), .int (vi 5), .int (vi 6), .int (vi 7), .ref (a 3), .ref (ex 1), .ref (a 4), .ref (a 1), .ref (ex 2), .ref (ex 3), .ref (a 2), .ref (ex 4)])), ((a 1), .inl (T 1, 9, .inl (fi 0))), ((a 2), .inl (T 1, 9, .inl (fi 1))), ((a 3), .inl (T 1, 9, .inl (fi 2))), ((a 4), .inl (T 1, 9, .inl (fi 3)))] H := hP
  replace hD : va_D A [((a 0), .inr (2, [.ref (ex 0), .int (vi 2), .int z17, .int (vi 4), .int (vi 5), .int (vi 6), .int (vi 7), .ref (a 3), .ref (ex 1), .ref (a 4), .ref (a 1), .ref (ex 2), .ref (ex 3), .ref (a 2), .ref (ex 4)])), ((a 1), .inl (T 1, 9, .inl (fi 0))), ((a 2), .inl (T 1, 9, .inl (fi 1))), ((a 3), .inl (T 1, 9, .inl (fi 2))), ((a 4), .inl (T 1, 9, .inl (fi 3)))] := hD
  refine lv_aload_n hx hb dX2_perish_21 rfl (lv_at hl 1 rfl) ?_
  refine lv_iload_n hx hb dX2_perish_22 rfl (lv_at hl 2 rfl) ?_
  have hPc := hP.sub (ws' := (pre_X2_leaveQueue T (xa [(a 0), (a 2)]) (xa [(ex 0), (a 3), (ex 1), (a 4), (a 1), (ex 2), (ex 3), (ex 4)]) (xf [(fi 1)]) (xh []) (xv [(vi 0), (vi 2), z17, (vi 4), (vi 5), (vi 6), (vi 7)]) (xl []))) [0, 2] rfl
  have hDc := hD.sub (ws' := (pre_X2_leaveQueue T (xa [(a 0), (a 2)]) (xa [(ex 0), (a 3), (ex 1), (a 4), (a 1), (ex 2), (ex 3), (ex 4)]) (xf [(fi 1)]) (xh []) (xv [(vi 0), (vi 2), z17, (vi 4), (vi 5), (vi 6), (vi 7)]) (xl []))) [0, 2] (by decide) rfl
  have hFc := va_free (wc := (pre_X2_leaveQueue T (xa [(a 0), (a 2)]) (xa [(ex 0), (a 3), (ex 1), (a 4), (a 1), (ex 2), (ex 3), (ex 4)]) (xf [(fi 1)]) (xh []) (xv [(vi 0), (vi 2), z17, (vi 4), (vi 5), (vi 6), (vi 7)]) (xl []))) hD hS hA [0, 2] rfl
  refine va_callv (va_runV (As := [.int (vi 0)]) (rest := []) ⟨hx, hb, hml, hown, htg⟩ (c_X2_leaveQueue l D T (xa [(a 0), (a 2)]) (xa [(ex 0), (a 3), (ex 1), (a 4), (a 1), (ex 2), (ex 3), (ex 4)]) (xf [(fi 1)]) (xh []) (xv [(vi 0), (vi 2), z17, (vi 4), (vi 5), (vi 6), (vi 7)]) (xl []) H.size (by show 0 ≤ (vi 2).toInt ∧ (vi 2).toInt ≤ 200; omega) (by show 0 ≤ (vi 7).toInt ∧ (vi 7).toInt ≤ 9; omega) (show rg (fi 1) 0 9 0 8 from hp4)) ⟨callB_of 1 htg (xg_ok kw_849) rfl rfl rfl (htg _ kw_9) (htg _ kw_846) (by decide +kernel) ⟨by rw [hR]; exact Nat.le_of_ble_eq_true rfl, by rw [hR]; exact Nat.le_of_ble_eq_true rfl⟩, htg _ kw_848, htg _ ks_57⟩ (xpreV hK hPc hDc (va_recv hK.1 hPc (ci := 2) (q0 := 0) rfl rfl)) rfl rfl hl.1 rfl (lv_room (Nat.le_of_ble_eq_true rfl)) dX2_perish_23 ⟨by rw [hR]; exact Nat.le_of_ble_eq_true rfl, by rw [hR]; exact Nat.le_of_ble_eq_true rfl⟩) hS (fun q _ h => hFc q h) hFc (fun u9 t H1 locs ht hvm hw hB hz1 hk1 hS => ?_)
  obtain ⟨fik, flk, vik, vlk, hP1, hD1, hG⟩ := hB
  rw [ht] at hP1
  obtain ⟨hP, hD⟩ := va_join (wr := [((a 1), .inl (T 1, 9, .inl (fi 0))), ((a 3), .inl (T 1, 9, .inl (fi 2))), ((a 4), .inl (T 1, 9, .inl (fi 3)))]) (w1 := [((a 0), .inr (2, [.ref (ex 0), .int (vi 2), .int z17, .int (vi 4), .int (vi 5), .int (vi 6), .int (vik 0), .ref (a 3), .ref (ex 1), .ref (a 4), .ref (a 1), .ref (ex 2), .ref (ex 3), .ref (a 2), .ref (ex 4)])), ((a 2), .inl (T 1, 9, .inl (fik 0)))]) hP hD [0, 2] [1, 3, 4] rfl rfl (by decide) (by decide) hk1 hFc hP1 hD1
  clear hPc hDc hFc hP1 hD1 hk1 hz1 hvm ht
  generalize H1 = H at hP hS ⊢
  replace hP : va_P D vwCl [((a 1), .inl (T 1, 9, .inl (fi 0))), ((a 3), .inl (T 1, 9, .inl (fi 2))), ((a 4), .inl (T 1, 9, .inl (fi 3))), ((a 0), .inr (2, [.ref (ex 0), .int (vi 2), .int z17, .int (vi 4), .int (vi 5), .int (vi 6), .int (vik 0), .ref (a 3), .ref (ex 1), .ref (a 4), .ref (a 1), .ref (ex 2), .ref (ex 3), .ref (a 2), .ref (ex 4)])), ((a 2), .inl (T 1, 9, .inl (fik 0)))] H := hP
  replace hD : va_D A [((a 1), .inl (T 1, 9, .inl (fi 0))), ((a 3), .inl (T 1, 9, .inl (fi 2))), ((a 4), .inl (T 1, 9, .inl (fi 3))), ((a 0), .inr (2, [.ref (ex 0), .int (vi 2), .int z17, .int (vi 4), .int (vi 5), .int (vi 6), .int (vik 0), .ref (a 3), .ref (ex 1), .ref (a 4), .ref (a 1), .ref (ex 2), .ref (ex 3), .ref (a 2), .ref (ex 4)])), ((a 2), .inl (T 1, 9, .inl (fik 0)))] := hD
  obtain ⟨gk_0, gk_1, -⟩ := hG
  replace gk_0 : 0 ≤ (vik 0).toInt ∧ (vik 0).toInt ≤ 9 := gk_0
  replace gk_1 : rg (fik 0) 0 9 0 8 := gk_1
  refine lv_iload_n hx hb dX2_perish_26 rfl (lv_at hl 0 rfl) ?_
  refine lv_iconst (v := (-1)) hx hb dX2_perish_27 (by decide) ?_
  refine lv_icmp_eq (tgt := 53) hx hb dX2_perish_28 (by decide) (fun c28 => ?_) (fun c28 => ?_)
  · have c28 := xeq (k := (-1)) (by decide) c28
    have hP9 := hP.sub (ws' := [((a 0), .inr (2, [.ref (ex 0), .int (vi 2), .int z17, .int (vi 4), .int (vi 5), .int (vi 6), .int (vik 0), .ref (a 3), .ref (ex 1), .ref (a 4), .ref (a 1), .ref (ex 2), .ref (ex 3), .ref (a 2), .ref (ex 4)])), ((a 1), .inl (T 1, 9, .inl (fi 0))), ((a 2), .inl (T 1, 9, .inl (fik 0))), ((a 3), .inl (T 1, 9, .inl (fi 2))), ((a 4), .inl (T 1, 9, .inl (fi 3)))]) [3, 0, 4, 1, 2] rfl
    have hD9 := hD.sub (ws' := [((a 0), .inr (2, [.ref (ex 0), .int (vi 2), .int z17, .int (vi 4), .int (vi 5), .int (vi 6), .int (vik 0), .ref (a 3), .ref (ex 1), .ref (a 4), .ref (a 1), .ref (ex 2), .ref (ex 3), .ref (a 2), .ref (ex 4)])), ((a 1), .inl (T 1, 9, .inl (fi 0))), ((a 2), .inl (T 1, 9, .inl (fik 0))), ((a 3), .inl (T 1, 9, .inl (fi 2))), ((a 4), .inl (T 1, 9, .inl (fi 3)))]) [3, 0, 4, 1, 2] (by decide +kernel) rfl
    rw [hQ]
    exact W.vret hx hb hr (fun t ht hW => ⟨⟨(0 : Int32), rfl, trivial, xf [(fik 0), (fi 2), (fi 0), (fi 3)], xh [], xv [z17, (vik 0)], xl [], by rw [ht]; exact hP9, hD9, ⟨(by show 0 ≤ (vik 0).toInt ∧ (vik 0).toInt ≤ 9; omega), (show rg (fi 0) 0 9 (-1) 8 from hp3), (show rg (fik 0) 0 9 0 8 from gk_1), (show rg (fi 2) 0 9 (-1) 8 from hp5), trivial⟩⟩, hS.F ht⟩) hS.2.2 dX2_perish_53
  · have c28 := xne (k := (-1)) (by decide) c28
    refine lv_aload_n hx hb dX2_perish_31 rfl (lv_at hl 1 rfl) ?_
    refine lv_iload_n hx hb dX2_perish_32 rfl (lv_at hl 2 rfl) ?_
    have hPc := hP.sub (ws' := (pre_X2_loseName T (xa [(a 0), (a 1), (a 3)]) (xa [(ex 0), (ex 1), (a 4), (ex 2), (ex 3), (a 2), (ex 4)]) (xf [(fi 0), (fi 2)]) (xh []) (xv [(vi 0), (vi 2), z17, (vi 4), (vi 5), (vi 6), (vik 0)]) (xl []))) [3, 0, 1] rfl
    have hDc := hD.sub (ws' := (pre_X2_loseName T (xa [(a 0), (a 1), (a 3)]) (xa [(ex 0), (ex 1), (a 4), (ex 2), (ex 3), (a 2), (ex 4)]) (xf [(fi 0), (fi 2)]) (xh []) (xv [(vi 0), (vi 2), z17, (vi 4), (vi 5), (vi 6), (vik 0)]) (xl []))) [3, 0, 1] (by decide) rfl
    have hFc := va_free (wc := (pre_X2_loseName T (xa [(a 0), (a 1), (a 3)]) (xa [(ex 0), (ex 1), (a 4), (ex 2), (ex 3), (a 2), (ex 4)]) (xf [(fi 0), (fi 2)]) (xh []) (xv [(vi 0), (vi 2), z17, (vi 4), (vi 5), (vi 6), (vik 0)]) (xl []))) hD hS hA [3, 0, 1] rfl
    refine va_callv (va_runV (As := [.int (vi 0)]) (rest := []) ⟨hx, hb, hml, hown, htg⟩ (c_X2_loseName l D T (xa [(a 0), (a 1), (a 3)]) (xa [(ex 0), (ex 1), (a 4), (ex 2), (ex 3), (a 2), (ex 4)]) (xf [(fi 0), (fi 2)]) (xh []) (xv [(vi 0), (vi 2), z17, (vi 4), (vi 5), (vi 6), (vik 0)]) (xl []) H.size (by show 0 ≤ (vi 0).toInt ∧ (vi 0).toInt ≤ 8; omega) (by show 0 ≤ (vi 2).toInt ∧ (vi 2).toInt ≤ 200; omega) (by show 0 ≤ (vik 0).toInt ∧ (vik 0).toInt ≤ 9; omega) (show rg (fi 0) 0 9 (-1) 8 from hp3) (show rg (fi 2) 0 9 (-1) 8 from hp5) (by show 0 ≤ ((fi 0) (vi 0).toNatClampNeg).toInt; omega)) ⟨callB_of 1 htg (xg_ok kw_866) rfl rfl rfl (htg _ kw_9) (htg _ kw_863) (by decide +kernel) ⟨by rw [hR]; exact Nat.le_of_ble_eq_true rfl, by rw [hR]; exact Nat.le_of_ble_eq_true rfl⟩, htg _ kw_865, htg _ ks_61⟩ (xpreV hK hPc hDc (va_recv hK.1 hPc (ci := 2) (q0 := 0) rfl rfl)) rfl rfl hl.1 rfl (lv_room (Nat.le_of_ble_eq_true rfl)) dX2_perish_33 ⟨by rw [hR]; exact Nat.le_of_ble_eq_true rfl, by rw [hR]; exact Nat.le_of_ble_eq_true rfl⟩) hS (fun q _ h => hFc q h) hFc (fun u9 t H1 locs ht hvm hw hB hz1 hk1 hS => ?_)
    obtain ⟨fik_1, flk_1, vik_1, vlk_1, hP1, hD1, hG⟩ := hB
    rw [ht] at hP1
    obtain ⟨hP, hD⟩ := va_join (wr := [((a 4), .inl (T 1, 9, .inl (fi 3))), ((a 2), .inl (T 1, 9, .inl (fik 0)))]) (w1 := [((a 0), .inr (2, [.ref (ex 0), .int (vi 2), .int z17, .int (vi 4), .int (vi 5), .int (vi 6), .int (vik 0), .ref (a 3), .ref (ex 1), .ref (a 4), .ref (a 1), .ref (ex 2), .ref (ex 3), .ref (a 2), .ref (ex 4)])), ((a 1), .inl (T 1, 9, .inl (fik_1 1))), ((a 3), .inl (T 1, 9, .inl (fik_1 0)))]) hP hD [3, 0, 1] [2, 4] rfl rfl (by decide) (by decide) hk1 hFc hP1 hD1
    clear hPc hDc hFc hP1 hD1 hk1 hz1 hvm ht
    generalize H1 = H at hP hS ⊢
    replace hP : va_P D vwCl [((a 4), .inl (T 1, 9, .inl (fi 3))), ((a 2), .inl (T 1, 9, .inl (fik 0))), ((a 0), .inr (2, [.ref (ex 0), .int (vi 2), .int z17, .int (vi 4), .int (vi 5), .int (vi 6), .int (vik 0), .ref (a 3), .ref (ex 1), .ref (a 4), .ref (a 1), .ref (ex 2), .ref (ex 3), .ref (a 2), .ref (ex 4)])), ((a 1), .inl (T 1, 9, .inl (fik_1 1))), ((a 3), .inl (T 1, 9, .inl (fik_1 0)))] H := hP
    replace hD : va_D A [((a 4), .inl (T 1, 9, .inl (fi 3))), ((a 2), .inl (T 1, 9, .inl (fik 0))), ((a 0), .inr (2, [.ref (ex 0), .int (vi 2), .int z17, .int (vi 4), .int (vi 5), .int (vi 6), .int (vik 0), .ref (a 3), .ref (ex 1), .ref (a 4), .ref (a 1), .ref (ex 2), .ref (ex 3), .ref (a 2), .ref (ex 4)])), ((a 1), .inl (T 1, 9, .inl (fik_1 1))), ((a 3), .inl (T 1, 9, .inl (fik_1 0)))] := hD
    obtain ⟨gk_1_0, gk_1_1, -⟩ := hG
    replace gk_1_0 : rg (fik_1 1) 0 9 (-1) 8 := gk_1_0
    replace gk_1_1 : rg (fik_1 0) 0 9 (-1) 8 := gk_1_1
    refine lv_iload_n hx hb dX2_perish_36 rfl (lv_at hl 3 rfl) ?_
    refine lv_if_eq (tgt := 53) hx hb dX2_perish_37 (by decide) (fun c37 => ?_) (fun c37 => ?_)
    · have c37 := xeq (k := 0) (by decide) c37
      have hP9 := hP.sub (ws' := [((a 0), .inr (2, [.ref (ex 0), .int (vi 2), .int z17, .int (vi 4), .int (vi 5), .int (vi 6), .int (vik 0), .ref (a 3), .ref (ex 1), .ref (a 4), .ref (a 1), .ref (ex 2), .ref (ex 3), .ref (a 2), .ref (ex 4)])), ((a 1), .inl (T 1, 9, .inl (fik_1 1))), ((a 2), .inl (T 1, 9, .inl (fik 0))), ((a 3), .inl (T 1, 9, .inl (fik_1 0))), ((a 4), .inl (T 1, 9, .inl (fi 3)))]) [2, 3, 1, 4, 0] rfl
      have hD9 := hD.sub (ws' := [((a 0), .inr (2, [.ref (ex 0), .int (vi 2), .int z17, .int (vi 4), .int (vi 5), .int (vi 6), .int (vik 0), .ref (a 3), .ref (ex 1), .ref (a 4), .ref (a 1), .ref (ex 2), .ref (ex 3), .ref (a 2), .ref (ex 4)])), ((a 1), .inl (T 1, 9, .inl (fik_1 1))), ((a 2), .inl (T 1, 9, .inl (fik 0))), ((a 3), .inl (T 1, 9, .inl (fik_1 0))), ((a 4), .inl (T 1, 9, .inl (fi 3)))]) [2, 3, 1, 4, 0] (by decide +kernel) rfl
      rw [hQ]
      exact W.vret hx hb hr (fun t ht hW => ⟨⟨(0 : Int32), rfl, trivial, xf [(fik 0), (fik_1 0), (fik_1 1), (fi 3)], xh [], xv [z17, (vik 0)], xl [], by rw [ht]; exact hP9, hD9, ⟨(by show 0 ≤ (vik 0).toInt ∧ (vik 0).toInt ≤ 9; omega), (show rg (fik_1 1) 0 9 (-1) 8 from gk_1_0), (show rg (fik 0) 0 9 0 8 from gk_1), (show rg (fik_1 0) 0 9 (-1) 8 from gk_1_1), trivial⟩⟩, hS.F ht⟩) hS.2.2 dX2_perish_53
    · have c37 := xne (k := 0) (by decide) c37
      refine lv_aload_n hx hb dX2_perish_40 rfl (lv_at hl 1 rfl) ?_
      refine va_get (D := D) (ci := 2) (v := .ref (a 4)) (C := RX2) (T := TX2) (N := 15) hx hb htg inX2 hown hK.1 hP 2 rfl rfl 9 (by decide) (htg _ kw_266) (fun _ h9 => h9) rfl dX2_perish_41 ?_
      refine lv_iload_n hx hb dX2_perish_44 rfl (lv_at hl 0 rfl) ?_
      refine lv_aload_n hx hb dX2_perish_45 rfl (lv_at hl 1 rfl) ?_
      refine va_get (D := D) (ci := 2) (v := .int (vi 2)) (C := RX2) (T := TX2) (N := 15) hx hb htg inX2 hown hK.1 hP 2 rfl rfl 1 (by decide) (htg _ kw_247) (fun _ h9 => h9) rfl dX2_perish_46 ?_
      refine lv_bipush (v := 12) hx hb dX2_perish_49 (by decide) ?_
      refine lv_iadd hx hb dX2_perish_51 ?_
      refine lv_topi (fun z51 ez51 => ?_)
      have tz51 : z51.toInt = (vi 2).toInt + 12 := by rw [ez51]; exact xadd rfl (by decide) (by omega) (by omega)
      refine va_iast hx hb hK.1 hP hD hS 0 1 rfl rfl (vp_in_iff.mpr (by omega)) dX2_perish_52 (fun H locs hP hD hS => ?_)
      obtain ⟨f52, ef52, hP, hD⟩ : ∃ f7 : Nat → Int32, f7 = upd (fi 3) ((fi 0) (vi 0).toNatClampNeg).toNatClampNeg (z51 : Int32) ∧ va_P D vwCl [((a 4), .inl (T 1, 9, .inl f7)), ((a 2), .inl (T 1, 9, .inl (fik 0))), ((a 0), .inr (2, [.ref (ex 0), .int (vi 2), .int z17, .int (vi 4), .int (vi 5), .int (vi 6), .int (vik 0), .ref (a 3), .ref (ex 1), .ref (a 4), .ref (a 1), .ref (ex 2), .ref (ex 3), .ref (a 2), .ref (ex 4)])), ((a 1), .inl (T 1, 9, .inl (fik_1 1))), ((a 3), .inl (T 1, 9, .inl (fik_1 0)))] H ∧ va_D A [((a 4), .inl (T 1, 9, .inl f7)), ((a 2), .inl (T 1, 9, .inl (fik 0))), ((a 0), .inr (2, [.ref (ex 0), .int (vi 2), .int z17, .int (vi 4), .int (vi 5), .int (vi 6), .int (vik 0), .ref (a 3), .ref (ex 1), .ref (a 4), .ref (a 1), .ref (ex 2), .ref (ex 3), .ref (a 2), .ref (ex 4)])), ((a 1), .inl (T 1, 9, .inl (fik_1 1))), ((a 3), .inl (T 1, 9, .inl (fik_1 0)))] := ⟨_, rfl, hP, hD⟩
      have hP9 := hP.sub (ws' := [((a 0), .inr (2, [.ref (ex 0), .int (vi 2), .int z17, .int (vi 4), .int (vi 5), .int (vi 6), .int (vik 0), .ref (a 3), .ref (ex 1), .ref (a 4), .ref (a 1), .ref (ex 2), .ref (ex 3), .ref (a 2), .ref (ex 4)])), ((a 1), .inl (T 1, 9, .inl (fik_1 1))), ((a 2), .inl (T 1, 9, .inl (fik 0))), ((a 3), .inl (T 1, 9, .inl (fik_1 0))), ((a 4), .inl (T 1, 9, .inl f52))]) [2, 3, 1, 4, 0] rfl
      have hD9 := hD.sub (ws' := [((a 0), .inr (2, [.ref (ex 0), .int (vi 2), .int z17, .int (vi 4), .int (vi 5), .int (vi 6), .int (vik 0), .ref (a 3), .ref (ex 1), .ref (a 4), .ref (a 1), .ref (ex 2), .ref (ex 3), .ref (a 2), .ref (ex 4)])), ((a 1), .inl (T 1, 9, .inl (fik_1 1))), ((a 2), .inl (T 1, 9, .inl (fik 0))), ((a 3), .inl (T 1, 9, .inl (fik_1 0))), ((a 4), .inl (T 1, 9, .inl f52))]) [2, 3, 1, 4, 0] (by decide +kernel) rfl
      rw [hQ]
      exact W.vret hx hb hr (fun t ht hW => ⟨⟨(0 : Int32), rfl, trivial, xf [(fik 0), (fik_1 0), (fik_1 1), f52], xh [], xv [z17, (vik 0)], xl [], by rw [ht]; exact hP9, hD9, ⟨(by show 0 ≤ (vik 0).toInt ∧ (vik 0).toInt ≤ 9; omega), (show rg (fik_1 1) 0 9 (-1) 8 from gk_1_0), (show rg (fik 0) 0 9 0 8 from gk_1), (show rg (fik_1 0) 0 9 (-1) 8 from gk_1_1), trivial⟩⟩, hS.F ht⟩) hS.2.2 dX2_perish_53
