abbrev pre_X8_readFirstName (T : Nat → ClassId) (a ex : Nat → Nat) (fi : Nat → Nat → Int32) (fl : Nat → Nat → Int64) (vi : Nat → Int32) (vl : Nat → Int64) : va_W := [((a 0), .inr (8, [.ref (a 1), .ref (a 2), .int (vi 1)])), ((a 1), .inr (6, [.ref (a 5), .ref (a 4), .int (vi 2), .int (vi 3), .int (vi 4), .int (vi 5), .int (vi 6), .int (vi 7), .long (vl 0), .int (vi 8), .int (vi 9), .int (vi 10), .int (vi 11), .int (vi 12)])), ((a 2), .inr (7, [.int (vi 13), .int (vi 14), .ref (a 3), .ref (ex 0), .ref (ex 1), .ref (ex 2), .ref (ex 3), .ref (ex 4), .ref (a 6), .ref (ex 5), .ref (ex 6), .ref (ex 7)])), ((a 3), .inl (T 2, 9, .inr (.inl (fl 0)))), ((a 4), .inl (T 2, 27, .inr (.inl (fl 1)))), ((a 5), .inl (T 0, 940, .inl (fi 0))), ((a 6), .inl (T 1, 9, .inl (fi 1)))]
set_option maxHeartbeats 8000000 in
set_option maxRecDepth 100000 in
theorem c_X8_readFirstName (l : Launch) (D : va_G) (T : Nat → ClassId) (a ex : Nat → Nat) (fi : Nat → Nat → Int32) (fl : Nat → Nat → Int64) (vi : Nat → Int32) (vl : Nat → Int64) (sz : Nat) (hp0 : 0 ≤ (vi 3).toInt ∧ (vi 3).toInt ≤ 940) (hp1 : 0 ≤ (vi 4).toInt ∧ (vi 4).toInt ≤ 940) (hp2 : 0 ≤ (vi 5).toInt ∧ (vi 5).toInt ≤ 940) (hp3 : 0 ≤ (vi 7).toInt ∧ (vi 7).toInt ≤ 940) (hp4 : 0 ≤ (vi 12).toInt ∧ (vi 12).toInt ≤ 940) (hp5 : 0 ≤ (vi 13).toInt ∧ (vi 13).toInt ≤ 9) (hp6 : 0 ≤ (vi 14).toInt ∧ (vi 14).toInt ≤ 9) : Met l yX8_readFirstName (xw yX8_readFirstName cX8_readFirstName 3 (some .boolean)) ({ frames := 2, cells := 0, slots := 0, locals := 54 }) (xP D T [.ref (a 0), .int (vi 0)] sz (pre_X8_readFirstName T a ex fi fl vi vl)) (va_Qi (fun r u => r = u) (xC D (va_A (pre_X8_readFirstName T a ex fi fl vi vl) sz) (fun fj fm vj vm => [((a 0), .inr (8, [.ref (a 1), .ref (a 2), .int (vi 1)])), ((a 1), .inr (6, [.ref (a 5), .ref (a 4), .int (vi 2), .int (vi 3), .int (vi 4), .int (vj 5), .int (vj 1), .int (vj 2), .long (vm 0), .int (vj 4), .int (vj 3), .int (vj 0), .int (vj 6), .int (vj 7)])), ((a 2), .inr (7, [.int (vi 13), .int (vi 14), .ref (a 3), .ref (ex 0), .ref (ex 1), .ref (ex 2), .ref (ex 3), .ref (ex 4), .ref (a 6), .ref (ex 5), .ref (ex 6), .ref (ex 7)])), ((a 3), .inl (T 2, 9, .inr (.inl (fl 0)))), ((a 4), .inl (T 2, 27, .inr (.inl (fl 1)))), ((a 5), .inl (T 0, 940, .inl (fi 0))), ((a 6), .inl (T 1, 9, .inl (fj 0)))]) (fun (r : Int32) (fj : Nat → Nat → Int32) (fm : Nat → Nat → Int64) (vj : Nat → Int32) (vm : Nat → Int64) => ((r = 1 ∧ (True)) ∨ (r = 0 ∧ (True))) ∧ (0 ≤ (vj 5).toInt ∧ (vj 5).toInt ≤ 940) ∧ (0 ≤ (vj 2).toInt ∧ (vj 2).toInt ≤ 940) ∧ (0 ≤ (vj 7).toInt ∧ (vj 7).toInt ≤ 940) ∧ (r.toInt = 1 → (vj 6).toInt = (vi 11).toInt) ∧ R_X8_readFirstName fi fl vi vl r fj fm vj vm ∧ True)) (va_A (pre_X8_readFirstName T a ex fi fl vi vl) sz)) 0 0 (va_A (pre_X8_readFirstName T a ex fi fl vi vl) sz) := by
  refine xofW (cc := cX8_readFirstName) (maxL := 3) (ret := (some .boolean)) (by decide) rfl ?_
  intro p e s m args below meth c s₁ R Q hR hQ B hml hv
  obtain ⟨rfl, hsz, hP, hK, hD0⟩ := hv
  have hx := B.exec
  have hb := B.bytes
  have hr := B.returns
  have hts := atoms_spec (ws := xw yX8_readFirstName cX8_readFirstName 3 (some .boolean)) B.pre
  have htg : ∀ w ∈ xg, w.before _ s = true := fun w h => hts w (List.mem_cons_of_mem _ h)
  have hown : s.vm.findClass RX8 = some m.cls := findClass_of_methodNamed B.named
  have hlocks := B.notSynchronized
  subst hsz
  have hD := hD0.self (sz := s.heap.size)
  generalize hAe : va_A (pre_X8_readFirstName T a ex fi fl vi vl) s.heap.size = A at hD hQ
  have hA : ∀ q : Nat, s.heap.size ≤ q → A q := fun q h => by rw [← hAe]; exact Or.inr h
  have hS : va_S A s.heap s.heap [] := va_S.rf
  replace hP : va_P D vwCl [((a 0), .inr (8, [.ref (a 1), .ref (a 2), .int (vi 1)])), ((a 1), .inr (6, [.ref (a 5), .ref (a 4), .int (vi 2), .int (vi 3), .int (vi 4), .int (vi 5), .int (vi 6), .int (vi 7), .long (vl 0), .int (vi 8), .int (vi 9), .int (vi 10), .int (vi 11), .int (vi 12)])), ((a 2), .inr (7, [.int (vi 13), .int (vi 14), .ref (a 3), .ref (ex 0), .ref (ex 1), .ref (ex 2), .ref (ex 3), .ref (ex 4), .ref (a 6), .ref (ex 5), .ref (ex 6), .ref (ex 7)])), ((a 3), .inl (T 2, 9, .inr (.inl (fl 0)))), ((a 4), .inl (T 2, 27, .inr (.inl (fl 1)))), ((a 5), .inl (T 0, 940, .inl (fi 0))), ((a 6), .inl (T 1, 9, .inl (fi 1)))] s.heap := hP
  replace hD : va_D A [((a 0), .inr (8, [.ref (a 1), .ref (a 2), .int (vi 1)])), ((a 1), .inr (6, [.ref (a 5), .ref (a 4), .int (vi 2), .int (vi 3), .int (vi 4), .int (vi 5), .int (vi 6), .int (vi 7), .long (vl 0), .int (vi 8), .int (vi 9), .int (vi 10), .int (vi 11), .int (vi 12)])), ((a 2), .inr (7, [.int (vi 13), .int (vi 14), .ref (a 3), .ref (ex 0), .ref (ex 1), .ref (ex 2), .ref (ex 3), .ref (ex 4), .ref (a 6), .ref (ex 5), .ref (ex 6), .ref (ex 7)])), ((a 3), .inl (T 2, 9, .inr (.inl (fl 0)))), ((a 4), .inl (T 2, 27, .inr (.inl (fl 1)))), ((a 5), .inl (T 0, 940, .inl (fi 0))), ((a 6), .inl (T 1, 9, .inl (fi 1)))] := hD
  have hl := lv_entry ([.ref (a 0), .int (vi 0)]) (n := 3) (Nat.le_of_ble_eq_true rfl)
  rw [lg_entry_eq]
  generalize (lg_sl ([.ref (a 0), .int (vi 0)]) ++ List.replicate (3 - (lg_sl ([.ref (a 0), .int (vi 0)])).length) Slot.unset).toArray = ls at hl ⊢
  replace hl : lv_has ls 3 [(0, .ref (a 0)), (1, .int (vi 0))] := hl
  refine lv_aload_n hx hb dX8_readFirstName_0 rfl (lv_at hl 0 rfl) ?_
  refine va_get (D := D) (ci := 8) (v := .ref (a 2)) (C := RX8) (T := TX8) (N := 3) hx hb htg inX8 hown hK.1 hP 0 rfl rfl 1 (by decide) (htg _ kw_229) (fun _ h9 => h9) rfl dX8_readFirstName_1 ?_
  refine lv_aload_n hx hb dX8_readFirstName_4 rfl (lv_at hl 0 rfl) ?_
  refine va_get (D := D) (ci := 8) (v := .ref (a 1)) (C := RX8) (T := TX8) (N := 3) hx hb htg inX8 hown hK.1 hP 0 rfl rfl 0 (by decide) (htg _ kw_228) (fun _ h9 => h9) rfl dX8_readFirstName_5 ?_
  refine va_getN (D := D) (ci := 6) (v := .long (vl 0)) (C := RX6) (T := TX6) (N := 14) hx hb htg inX6 hown hK.1 hP 1 rfl rfl 8 (by decide) (va_Nw.use rfl (hK.2.1 _ kn_107)) (fun _ h9 => h9) rfl dX8_readFirstName_8 ?_
  obtain ⟨hC9, hPc, hDc, hFc⟩ := xcut (wc := (pre_X7_findName T (xa [(a 2), (a 3)]) (xa [(ex 0), (ex 1), (ex 2), (ex 3), (ex 4), (a 6), (ex 5), (ex 6), (ex 7)]) (xf []) (xh [(fl 0)]) (xv [(vi 13), (vi 14)]) (xl [(vl 0)]))) hP hD hS hA [2, 3] (by decide) rfl
  refine va_calli (va_runVN (As := [.long (vl 0)]) (rest := []) ⟨hx, hb, hml, hown, htg⟩ (c_X7_findName l D T (xa [(a 2), (a 3)]) (xa [(ex 0), (ex 1), (ex 2), (ex 3), (ex 4), (a 6), (ex 5), (ex 6), (ex 7)]) (xf []) (xh [(fl 0)]) (xv [(vi 13), (vi 14)]) (xl [(vl 0)]) s.heap.size hp5 hp6) ⟨va_cnB 1 htg (xg_ok kw_607) rfl rfl rfl (hK.2.1 _ kn_604) (htg _ kw_7) (by decide +kernel) ⟨by rw [hR]; exact Nat.le_of_ble_eq_true rfl, by rw [hR]; exact Nat.le_of_ble_eq_true rfl⟩, htg _ kw_606, htg _ ks_13⟩ (xpreV hK hPc hDc (va_recv hK.1 hPc (ci := 7) (q0 := 0) rfl rfl)) rfl rfl hl.1 rfl (lv_room (Nat.le_of_ble_eq_true rfl)) dX8_readFirstName_11 ⟨by rw [hR]; exact Nat.le_of_ble_eq_true rfl, by rw [hR]; exact Nat.le_of_ble_eq_true rfl⟩) hS (fun q _ h => hFc q h) hFc (fun r9 u9 t H1 locs ht hvm hw hB hz1 hk1 hS => ?_)
  subst hw
  obtain ⟨fik, flk, vik, vlk, hP1, hD1, hG⟩ := hB
  rw [ht] at hP1
  obtain ⟨hP, hD⟩ := va_join (wr := [((a 0), .inr (8, [.ref (a 1), .ref (a 2), .int (vi 1)])), ((a 1), .inr (6, [.ref (a 5), .ref (a 4), .int (vi 2), .int (vi 3), .int (vi 4), .int (vi 5), .int (vi 6), .int (vi 7), .long (vl 0), .int (vi 8), .int (vi 9), .int (vi 10), .int (vi 11), .int (vi 12)])), ((a 4), .inl (T 2, 27, .inr (.inl (fl 1)))), ((a 5), .inl (T 0, 940, .inl (fi 0))), ((a 6), .inl (T 1, 9, .inl (fi 1)))]) (w1 := [((a 2), .inr (7, [.int (vi 13), .int (vi 14), .ref (a 3), .ref (ex 0), .ref (ex 1), .ref (ex 2), .ref (ex 3), .ref (ex 4), .ref (a 6), .ref (ex 5), .ref (ex 6), .ref (ex 7)])), ((a 3), .inl (T 2, 9, .inr (.inl (fl 0))))]) hP hD [2, 3] [0, 1, 4, 5, 6] hC9 rfl (by decide) (by decide) hk1 hFc hP1 hD1
  obtain ⟨rk, er9⟩ : ∃ z, z = r9 := ⟨_, rfl⟩
  subst er9
  clear hPc hDc hFc hP1 hD1 hk1 hz1 hvm ht hC9
  generalize H1 = H at hP hS ⊢
  obtain ⟨hP, hD⟩ := (show xPD D A [((a 0), .inr (8, [.ref (a 1), .ref (a 2), .int (vi 1)])), ((a 1), .inr (6, [.ref (a 5), .ref (a 4), .int (vi 2), .int (vi 3), .int (vi 4), .int (vi 5), .int (vi 6), .int (vi 7), .long (vl 0), .int (vi 8), .int (vi 9), .int (vi 10), .int (vi 11), .int (vi 12)])), ((a 4), .inl (T 2, 27, .inr (.inl (fl 1)))), ((a 5), .inl (T 0, 940, .inl (fi 0))), ((a 6), .inl (T 1, 9, .inl (fi 1))), ((a 2), .inr (7, [.int (vi 13), .int (vi 14), .ref (a 3), .ref (ex 0), .ref (ex 1), .ref (ex 2), .ref (ex 3), .ref (ex 4), .ref (a 6), .ref (ex 5), .ref (ex 6), .ref (ex 7)])), ((a 3), .inl (T 2, 9, .inr (.inl (fl 0))))] H from ⟨hP, hD⟩)
  obtain ⟨gk_0, gk_1, -⟩ := hG
  replace gk_1 : rk.toInt = fdx (fl 0) 0 (vl 0) ((vi 13).toInt).toNat := (P_X7_findName gk_1 : _)
  replace gk_0 : -1 ≤ rk.toInt ∧ rk.toInt ≤ 8 := gk_0
  refine lv_istore_n (lv' := [(2, .int rk), (0, .ref (a 0)), (1, .int (vi 0))]) hx hb dX8_readFirstName_14 rfl hl (by decide) rfl (fun ls hl => ?_)
  refine lv_aload_n hx hb dX8_readFirstName_15 rfl (lv_at hl 1 rfl) ?_
  refine va_get (D := D) (ci := 8) (v := .ref (a 1)) (C := RX8) (T := TX8) (N := 3) hx hb htg inX8 hown hK.1 hP 0 rfl rfl 0 (by decide) (htg _ kw_228) (fun _ h9 => h9) rfl dX8_readFirstName_16 ?_
  refine va_getN (D := D) (ci := 6) (v := .int (vi 6)) (C := RX6) (T := TX6) (N := 14) hx hb htg inX6 hown hK.1 hP 1 rfl rfl 6 (by decide) (va_Nw.use rfl (hK.2.1 _ kn_102)) (fun _ h9 => h9) rfl dX8_readFirstName_19 ?_
  refine lv_iconst (v := 1) hx hb dX8_readFirstName_22 (by decide) ?_
  refine lv_icmp_ne (tgt := 51) hx hb dX8_readFirstName_23 (by decide) (fun c23 => ?_) (fun c23 => ?_)
  · have c23 := xne (k := 1) (by decide) c23
    refine lv_aload_n hx hb dX8_readFirstName_51 rfl (lv_at hl 1 rfl) ?_
    refine va_get (D := D) (ci := 8) (v := .ref (a 1)) (C := RX8) (T := TX8) (N := 3) hx hb htg inX8 hown hK.1 hP 0 rfl rfl 0 (by decide) (htg _ kw_228) (fun _ h9 => h9) rfl dX8_readFirstName_52 ?_
    refine lv_iload_n hx hb dX8_readFirstName_55 rfl (lv_at hl 0 rfl) ?_
    obtain ⟨hC9, hPc, hDc, hFc⟩ := xcut (wc := (pre_X6_passKnown T (xa [(a 1), (a 4), (a 5)]) (xa []) (xf [(fi 0)]) (xh [(fl 1)]) (xv [rk, (vi 2), (vi 3), (vi 4), (vi 5), (vi 6), (vi 7), (vi 8), (vi 9), (vi 10), (vi 11), (vi 12)]) (xl [(vl 0)]))) hP hD hS hA [1, 2, 3] (by decide) rfl
    refine va_calli (va_runVN (As := [.int rk]) (rest := []) ⟨hx, hb, hml, hown, htg⟩ (c_X6_passKnown l D T (xa [(a 1), (a 4), (a 5)]) (xa []) (xf [(fi 0)]) (xh [(fl 1)]) (xv [rk, (vi 2), (vi 3), (vi 4), (vi 5), (vi 6), (vi 7), (vi 8), (vi 9), (vi 10), (vi 11), (vi 12)]) (xl [(vl 0)]) H.size hp0 hp1 hp2 hp3 hp4) ⟨va_cnB 1 htg (xg_ok kw_640) rfl rfl rfl (hK.2.1 _ kn_637) (htg _ kw_2) (by decide +kernel) ⟨by rw [hR]; exact Nat.le_of_ble_eq_true rfl, by rw [hR]; exact Nat.le_of_ble_eq_true rfl⟩, htg _ kw_639, htg _ ks_20⟩ (xpreV hK hPc hDc (va_recv hK.1 hPc (ci := 6) (q0 := 0) rfl rfl)) rfl rfl hl.1 rfl (lv_room (Nat.le_of_ble_eq_true rfl)) dX8_readFirstName_56 ⟨by rw [hR]; exact Nat.le_of_ble_eq_true rfl, by rw [hR]; exact Nat.le_of_ble_eq_true rfl⟩) hS (fun q _ h => hFc q h) hFc (fun r9 u9 t H1 locs ht hvm hw hB hz1 hk1 hS => ?_)
    subst hw
    obtain ⟨fik_1, flk_1, vik_1, vlk_1, hP1, hD1, hG⟩ := hB
    rw [ht] at hP1
    obtain ⟨hP, hD⟩ := va_join (wr := [((a 0), .inr (8, [.ref (a 1), .ref (a 2), .int (vi 1)])), ((a 6), .inl (T 1, 9, .inl (fi 1))), ((a 2), .inr (7, [.int (vi 13), .int (vi 14), .ref (a 3), .ref (ex 0), .ref (ex 1), .ref (ex 2), .ref (ex 3), .ref (ex 4), .ref (a 6), .ref (ex 5), .ref (ex 6), .ref (ex 7)])), ((a 3), .inl (T 2, 9, .inr (.inl (fl 0))))]) (w1 := [((a 1), .inr (6, [.ref (a 5), .ref (a 4), .int (vi 2), .int (vi 3), .int (vi 4), .int (vik_1 5), .int (vik_1 1), .int (vik_1 2), .long (vlk_1 0), .int (vik_1 4), .int (vik_1 3), .int (vik_1 0), .int (vik_1 6), .int (vik_1 7)])), ((a 4), .inl (T 2, 27, .inr (.inl (fl 1)))), ((a 5), .inl (T 0, 940, .inl (fi 0)))]) hP hD [1, 2, 3] [0, 4, 5, 6] hC9 rfl (by decide) (by decide) hk1 hFc hP1 hD1
    obtain ⟨rk_1, er9⟩ : ∃ z, z = r9 := ⟨_, rfl⟩
    subst er9
    clear hPc hDc hFc hP1 hD1 hk1 hz1 hvm ht hC9
    generalize H1 = H at hP hS ⊢
    obtain ⟨hP, hD⟩ := (show xPD D A [((a 0), .inr (8, [.ref (a 1), .ref (a 2), .int (vi 1)])), ((a 6), .inl (T 1, 9, .inl (fi 1))), ((a 2), .inr (7, [.int (vi 13), .int (vi 14), .ref (a 3), .ref (ex 0), .ref (ex 1), .ref (ex 2), .ref (ex 3), .ref (ex 4), .ref (a 6), .ref (ex 5), .ref (ex 6), .ref (ex 7)])), ((a 3), .inl (T 2, 9, .inr (.inl (fl 0)))), ((a 1), .inr (6, [.ref (a 5), .ref (a 4), .int (vi 2), .int (vi 3), .int (vi 4), .int (vik_1 5), .int (vik_1 1), .int (vik_1 2), .long (vlk_1 0), .int (vik_1 4), .int (vik_1 3), .int (vik_1 0), .int (vik_1 6), .int (vik_1 7)])), ((a 4), .inl (T 2, 27, .inr (.inl (fl 1)))), ((a 5), .inl (T 0, 940, .inl (fi 0)))] H from ⟨hP, hD⟩)
    obtain ⟨gk_1_0, gk_1_1, gk_1_2, gk_1_3, gk_1_4, gk_1_5, -⟩ := hG
    replace gk_1_5 : ∀ n m t : Nat, CC (trn (fi 0) n) n m t (vi 3) (vi 4) (vi 6) (vi 7) (vi 5) (vl 0) (vi 8) (vi 9) → (rk_1.toInt = 1 ∧ (wMay (trn (fi 0) n) n m (ownB (fl 1)) t) ∧ ¬ rk.toInt = -1 ∧ (vik_1 0).toInt = rk.toInt ∧ CC (trn (fi 0) n) n m (sX (trn (fi 0) n) n m t) (vi 3) (vi 4) (vik_1 1) (vik_1 2) (vik_1 5) (vlk_1 0) (vik_1 4) (vik_1 3)) ∨ (rk_1.toInt = 0 ∧ ¬ (wMay (trn (fi 0) n) n m (ownB (fl 1)) t) ∧ (vik_1 6).toInt = 1 ∧ (vik_1 7).toInt = ((sPn (trn (fi 0) n) n m t) : Int)) ∨ (rk_1.toInt = 0 ∧ (wMay (trn (fi 0) n) n m (ownB (fl 1)) t) ∧ rk.toInt = -1 ∧ (vik_1 6).toInt = 3 ∧ (vik_1 7).toInt = ((sPn (trn (fi 0) n) n m t) : Int)) := (P_X6_passKnown gk_1_5 : _)
    replace gk_1_1 : 0 ≤ (vik_1 5).toInt ∧ (vik_1 5).toInt ≤ 940 := gk_1_1
    replace gk_1_2 : 0 ≤ (vik_1 2).toInt ∧ (vik_1 2).toInt ≤ 940 := gk_1_2
    replace gk_1_3 : 0 ≤ (vik_1 7).toInt ∧ (vik_1 7).toInt ≤ 940 := gk_1_3
    replace gk_1_4 : rk_1.toInt = 1 → (vik_1 6).toInt = (vi 11).toInt := gk_1_4
    rcases (show (rk_1 = 1 ∧ ((vik_1 0).toInt = rk.toInt ∧ ¬ rk.toInt = -1 ∧ (vi 6).toInt = 1)) ∨ (rk_1 = 0 ∧ (True)) from gk_1_0) with ⟨er9, gk_1_0⟩ | ⟨er9, gk_1_0⟩
    · refine xz_i 1 er9 ?_
      have tb : rk_1.toInt = 1 := by rw [er9]; decide
      refine lv_if_eq (tgt := 73) hx hb dX8_readFirstName_59 (by decide) (fun c => absurd c (by decide)) (fun _ => ?_)
      refine lv_aload_n hx hb dX8_readFirstName_62 rfl (lv_at hl 1 rfl) ?_
      refine va_get (D := D) (ci := 8) (v := .ref (a 2)) (C := RX8) (T := TX8) (N := 3) hx hb htg inX8 hown hK.1 hP 0 rfl rfl 1 (by decide) (htg _ kw_229) (fun _ h9 => h9) rfl dX8_readFirstName_63 ?_
      refine lv_iload_n hx hb dX8_readFirstName_66 rfl (lv_at hl 2 rfl) ?_
      obtain ⟨hC9, hPc, hDc, hFc⟩ := xcut (wc := (pre_X7_isSoul T (xa [(a 2)]) (xa [(a 3), (ex 0), (ex 1), (ex 2), (ex 3), (ex 4), (a 6), (ex 5), (ex 6), (ex 7)]) (xf []) (xh []) (xv [(vi 0), (vi 13), (vi 14)]) (xl []))) hP hD hS hA [2] (by decide) rfl
      refine va_calli (va_runVN (As := [.int (vi 0)]) (rest := []) ⟨hx, hb, hml, hown, htg⟩ (c_X7_isSoul l D T (xa [(a 2)]) (xa [(a 3), (ex 0), (ex 1), (ex 2), (ex 3), (ex 4), (a 6), (ex 5), (ex 6), (ex 7)]) (xf []) (xh []) (xv [(vi 0), (vi 13), (vi 14)]) (xl []) H.size hp5 hp6) ⟨va_cnB 1 htg (xg_ok kw_664) rfl rfl rfl (hK.2.1 _ kn_661) (htg _ kw_7) (by decide +kernel) ⟨by rw [hR]; exact Nat.le_of_ble_eq_true rfl, by rw [hR]; exact Nat.le_of_ble_eq_true rfl⟩, htg _ kw_663, htg _ ks_25⟩ (xpreV hK hPc hDc (va_recv hK.1 hPc (ci := 7) (q0 := 0) rfl rfl)) rfl rfl hl.1 rfl (lv_room (Nat.le_of_ble_eq_true rfl)) dX8_readFirstName_67 ⟨by rw [hR]; exact Nat.le_of_ble_eq_true rfl, by rw [hR]; exact Nat.le_of_ble_eq_true rfl⟩) hS (fun q _ h => hFc q h) hFc (fun r9 u9 t H1 locs ht hvm hw hB hz1 hk1 hS => ?_)
      subst hw
      obtain ⟨fik_2, flk_2, vik_2, vlk_2, hP1, hD1, hG⟩ := hB
      rw [ht] at hP1
      obtain ⟨hP, hD⟩ := va_join (wr := [((a 0), .inr (8, [.ref (a 1), .ref (a 2), .int (vi 1)])), ((a 6), .inl (T 1, 9, .inl (fi 1))), ((a 3), .inl (T 2, 9, .inr (.inl (fl 0)))), ((a 1), .inr (6, [.ref (a 5), .ref (a 4), .int (vi 2), .int (vi 3), .int (vi 4), .int (vik_1 5), .int (vik_1 1), .int (vik_1 2), .long (vlk_1 0), .int (vik_1 4), .int (vik_1 3), .int (vik_1 0), .int (vik_1 6), .int (vik_1 7)])), ((a 4), .inl (T 2, 27, .inr (.inl (fl 1)))), ((a 5), .inl (T 0, 940, .inl (fi 0)))]) (w1 := [((a 2), .inr (7, [.int (vi 13), .int (vi 14), .ref (a 3), .ref (ex 0), .ref (ex 1), .ref (ex 2), .ref (ex 3), .ref (ex 4), .ref (a 6), .ref (ex 5), .ref (ex 6), .ref (ex 7)]))]) hP hD [2] [0, 1, 3, 4, 5, 6] hC9 rfl (by decide) (by decide) hk1 hFc hP1 hD1
      obtain ⟨rk_2, er9⟩ : ∃ z, z = r9 := ⟨_, rfl⟩
      subst er9
      clear hPc hDc hFc hP1 hD1 hk1 hz1 hvm ht hC9
      generalize H1 = H at hP hS ⊢
      obtain ⟨hP, hD⟩ := (show xPD D A [((a 0), .inr (8, [.ref (a 1), .ref (a 2), .int (vi 1)])), ((a 6), .inl (T 1, 9, .inl (fi 1))), ((a 3), .inl (T 2, 9, .inr (.inl (fl 0)))), ((a 1), .inr (6, [.ref (a 5), .ref (a 4), .int (vi 2), .int (vi 3), .int (vi 4), .int (vik_1 5), .int (vik_1 1), .int (vik_1 2), .long (vlk_1 0), .int (vik_1 4), .int (vik_1 3), .int (vik_1 0), .int (vik_1 6), .int (vik_1 7)])), ((a 4), .inl (T 2, 27, .inr (.inl (fl 1)))), ((a 5), .inl (T 0, 940, .inl (fi 0))), ((a 2), .inr (7, [.int (vi 13), .int (vi 14), .ref (a 3), .ref (ex 0), .ref (ex 1), .ref (ex 2), .ref (ex 3), .ref (ex 4), .ref (a 6), .ref (ex 5), .ref (ex 6), .ref (ex 7)]))] H from ⟨hP, hD⟩)
      obtain ⟨gk_2_0, -⟩ := hG
      rcases (show (rk_2 = 1 ∧ (0 ≤ (vi 0).toInt ∧ (vi 0).toInt < (vi 14).toInt)) ∨ (rk_2 = 0 ∧ (¬ (0 ≤ (vi 0).toInt ∧ (vi 0).toInt < (vi 14).toInt))) from gk_2_0) with ⟨er9, gk_2_0⟩ | ⟨er9, gk_2_0⟩
      · refine xz_i 1 er9 ?_
        have tb_1 : rk_2.toInt = 1 := by rw [er9]; decide
        refine lv_if_ne (tgt := 75) hx hb dX8_readFirstName_70 (by decide) (fun _ => ?_) (fun c => absurd c (by decide))
        refine lv_aload_n hx hb dX8_readFirstName_75 rfl (lv_at hl 1 rfl) ?_
        refine va_get (D := D) (ci := 8) (v := .ref (a 2)) (C := RX8) (T := TX8) (N := 3) hx hb htg inX8 hown hK.1 hP 0 rfl rfl 1 (by decide) (htg _ kw_229) (fun _ h9 => h9) rfl dX8_readFirstName_76 ?_
        refine va_getN (D := D) (ci := 7) (v := .ref (a 6)) (C := RX7) (T := TX7) (N := 12) hx hb htg inX7 hown hK.1 hP 6 rfl rfl 8 (by decide) (va_Nw.use rfl (hK.2.1 _ kn_185)) (fun _ h9 => h9) rfl dX8_readFirstName_79 ?_
        refine lv_iload_n hx hb dX8_readFirstName_82 rfl (lv_at hl 2 rfl) ?_
        refine lv_aload_n hx hb dX8_readFirstName_83 rfl (lv_at hl 1 rfl) ?_
        refine va_get (D := D) (ci := 8) (v := .ref (a 1)) (C := RX8) (T := TX8) (N := 3) hx hb htg inX8 hown hK.1 hP 0 rfl rfl 0 (by decide) (htg _ kw_228) (fun _ h9 => h9) rfl dX8_readFirstName_84 ?_
        refine va_getN (D := D) (ci := 6) (v := .int (vik_1 0)) (C := RX6) (T := TX6) (N := 14) hx hb htg inX6 hown hK.1 hP 3 rfl rfl 11 (by decide) (va_Nw.use rfl (hK.2.1 _ kn_114)) (fun _ h9 => h9) rfl dX8_readFirstName_87 ?_
        refine va_iast hx hb hK.1 hP hD hS 1 1 rfl rfl (vp_in_iff.mpr (by omega)) dX8_readFirstName_90 (fun H locs hP hD hS => ?_)
        obtain ⟨f90, ef90, hP, hD⟩ : ∃ f7 : Nat → Int32, f7 = upd (fi 1) (vi 0).toNatClampNeg ((vik_1 0) : Int32) ∧ va_P D vwCl [((a 0), .inr (8, [.ref (a 1), .ref (a 2), .int (vi 1)])), ((a 6), .inl (T 1, 9, .inl f7)), ((a 3), .inl (T 2, 9, .inr (.inl (fl 0)))), ((a 1), .inr (6, [.ref (a 5), .ref (a 4), .int (vi 2), .int (vi 3), .int (vi 4), .int (vik_1 5), .int (vik_1 1), .int (vik_1 2), .long (vlk_1 0), .int (vik_1 4), .int (vik_1 3), .int (vik_1 0), .int (vik_1 6), .int (vik_1 7)])), ((a 4), .inl (T 2, 27, .inr (.inl (fl 1)))), ((a 5), .inl (T 0, 940, .inl (fi 0))), ((a 2), .inr (7, [.int (vi 13), .int (vi 14), .ref (a 3), .ref (ex 0), .ref (ex 1), .ref (ex 2), .ref (ex 3), .ref (ex 4), .ref (a 6), .ref (ex 5), .ref (ex 6), .ref (ex 7)]))] H ∧ va_D A [((a 0), .inr (8, [.ref (a 1), .ref (a 2), .int (vi 1)])), ((a 6), .inl (T 1, 9, .inl f7)), ((a 3), .inl (T 2, 9, .inr (.inl (fl 0)))), ((a 1), .inr (6, [.ref (a 5), .ref (a 4), .int (vi 2), .int (vi 3), .int (vi 4), .int (vik_1 5), .int (vik_1 1), .int (vik_1 2), .long (vlk_1 0), .int (vik_1 4), .int (vik_1 3), .int (vik_1 0), .int (vik_1 6), .int (vik_1 7)])), ((a 4), .inl (T 2, 27, .inr (.inl (fl 1)))), ((a 5), .inl (T 0, 940, .inl (fi 0))), ((a 2), .inr (7, [.int (vi 13), .int (vi 14), .ref (a 3), .ref (ex 0), .ref (ex 1), .ref (ex 2), .ref (ex 3), .ref (ex 4), .ref (a 6), .ref (ex 5), .ref (ex 6), .ref (ex 7)]))] := ⟨_, rfl, hP, hD⟩
        refine lv_iconst (v := 1) hx hb dX8_readFirstName_91 (by decide) ?_
        have hP9 := hP.sub (ws' := [((a 0), .inr (8, [.ref (a 1), .ref (a 2), .int (vi 1)])), ((a 1), .inr (6, [.ref (a 5), .ref (a 4), .int (vi 2), .int (vi 3), .int (vi 4), .int (vik_1 5), .int (vik_1 1), .int (vik_1 2), .long (vlk_1 0), .int (vik_1 4), .int (vik_1 3), .int (vik_1 0), .int (vik_1 6), .int (vik_1 7)])), ((a 2), .inr (7, [.int (vi 13), .int (vi 14), .ref (a 3), .ref (ex 0), .ref (ex 1), .ref (ex 2), .ref (ex 3), .ref (ex 4), .ref (a 6), .ref (ex 5), .ref (ex 6), .ref (ex 7)])), ((a 3), .inl (T 2, 9, .inr (.inl (fl 0)))), ((a 4), .inl (T 2, 27, .inr (.inl (fl 1)))), ((a 5), .inl (T 0, 940, .inl (fi 0))), ((a 6), .inl (T 1, 9, .inl f90))]) [0, 3, 6, 2, 4, 5, 1] rfl
        have hD9 := hD.sub (ws' := [((a 0), .inr (8, [.ref (a 1), .ref (a 2), .int (vi 1)])), ((a 1), .inr (6, [.ref (a 5), .ref (a 4), .int (vi 2), .int (vi 3), .int (vi 4), .int (vik_1 5), .int (vik_1 1), .int (vik_1 2), .long (vlk_1 0), .int (vik_1 4), .int (vik_1 3), .int (vik_1 0), .int (vik_1 6), .int (vik_1 7)])), ((a 2), .inr (7, [.int (vi 13), .int (vi 14), .ref (a 3), .ref (ex 0), .ref (ex 1), .ref (ex 2), .ref (ex 3), .ref (ex 4), .ref (a 6), .ref (ex 5), .ref (ex 6), .ref (ex 7)])), ((a 3), .inl (T 2, 9, .inr (.inl (fl 0)))), ((a 4), .inl (T 2, 27, .inr (.inl (fl 1)))), ((a 5), .inl (T 0, 940, .inl (fi 0))), ((a 6), .inl (T 1, 9, .inl f90))]) [0, 3, 6, 2, 4, 5, 1] (by decide +kernel) rfl
        rw [hQ]
        exact W.zret (v := 1) hx hb hr rfl (fun t ht hW => ⟨⟨1, 1, rfl, rfl, xf [f90], xh [], xv [(vik_1 0), (vik_1 1), (vik_1 2), (vik_1 3), (vik_1 4), (vik_1 5), (vik_1 6), (vik_1 7)], xl [(vlk_1 0)], by rw [ht]; exact hP9, hD9, ⟨(Or.inl ⟨rfl, by show True; first | trivial | omega | assumption⟩), gk_1_1, gk_1_2, gk_1_3, (by show (1 : Int32).toInt = 1 → (vik_1 6).toInt = (vi 11).toInt; have k9_0 : (1 : Int32).toInt = 1 := (by decide); exact fun _ => (gk_1_4 tb)), (by unfold R_X8_readFirstName; exact (fun Q9 k9_0 k9_1 k9_2 k9_3 k9_4 k9_5 k9_6 k9_7 k9_8 k9_9 => k9_0 hp5 hp6 fik flk vik vlk rk gk_0 gk_1 c23 fik_1 flk_1 vik_1 vlk_1 rk_1 gk_1_5 tb gk_1_0 fik_2 flk_2 vik_2 vlk_2 rk_2 tb_1 gk_2_0 f90 ef90 rfl rfl rfl rfl rfl rfl rfl rfl rfl rfl rfl)), trivial⟩⟩, hS.F ht⟩) hS.2.2 dX8_readFirstName_92
      · refine xz_i 0 er9 ?_
        have tb_1 : rk_2.toInt = 0 := by rw [er9]; decide
        refine lv_if_ne (tgt := 75) hx hb dX8_readFirstName_70 (by decide) (fun c => absurd (by decide) c) (fun _ => ?_)
        refine lv_iconst (v := 0) hx hb dX8_readFirstName_73 (by decide) ?_
        have hP9 := hP.sub (ws' := [((a 0), .inr (8, [.ref (a 1), .ref (a 2), .int (vi 1)])), ((a 1), .inr (6, [.ref (a 5), .ref (a 4), .int (vi 2), .int (vi 3), .int (vi 4), .int (vik_1 5), .int (vik_1 1), .int (vik_1 2), .long (vlk_1 0), .int (vik_1 4), .int (vik_1 3), .int (vik_1 0), .int (vik_1 6), .int (vik_1 7)])), ((a 2), .inr (7, [.int (vi 13), .int (vi 14), .ref (a 3), .ref (ex 0), .ref (ex 1), .ref (ex 2), .ref (ex 3), .ref (ex 4), .ref (a 6), .ref (ex 5), .ref (ex 6), .ref (ex 7)])), ((a 3), .inl (T 2, 9, .inr (.inl (fl 0)))), ((a 4), .inl (T 2, 27, .inr (.inl (fl 1)))), ((a 5), .inl (T 0, 940, .inl (fi 0))), ((a 6), .inl (T 1, 9, .inl (fi 1)))]) [0, 3, 6, 2, 4, 5, 1] rfl
        have hD9 := hD.sub (ws' := [((a 0), .inr (8, [.ref (a 1), .ref (a 2), .int (vi 1)])), ((a 1), .inr (6, [.ref (a 5), .ref (a 4), .int (vi 2), .int (vi 3), .int (vi 4), .int (vik_1 5), .int (vik_1 1), .int (vik_1 2), .long (vlk_1 0), .int (vik_1 4), .int (vik_1 3), .int (vik_1 0), .int (vik_1 6), .int (vik_1 7)])), ((a 2), .inr (7, [.int (vi 13), .int (vi 14), .ref (a 3), .ref (ex 0), .ref (ex 1), .ref (ex 2), .ref (ex 3), .ref (ex 4), .ref (a 6), .ref (ex 5), .ref (ex 6), .ref (ex 7)])), ((a 3), .inl (T 2, 9, .inr (.inl (fl 0)))), ((a 4), .inl (T 2, 27, .inr (.inl (fl 1)))), ((a 5), .inl (T 0, 940, .inl (fi 0))), ((a 6), .inl (T 1, 9, .inl (fi 1)))]) [0, 3, 6, 2, 4, 5, 1] (by decide +kernel) rfl
        rw [hQ]
        exact W.zret (v := 0) hx hb hr rfl (fun t ht hW => ⟨⟨0, 0, rfl, rfl, xf [(fi 1)], xh [], xv [(vik_1 0), (vik_1 1), (vik_1 2), (vik_1 3), (vik_1 4), (vik_1 5), (vik_1 6), (vik_1 7)], xl [(vlk_1 0)], by rw [ht]; exact hP9, hD9, ⟨(Or.inr ⟨rfl, by show True; first | trivial | omega | assumption⟩), gk_1_1, gk_1_2, gk_1_3, (by show (0 : Int32).toInt = 1 → (vik_1 6).toInt = (vi 11).toInt; have k9_0 : (0 : Int32).toInt = 0 := (by decide); exact fun h9 => absurd h9 (by decide)), (by unfold R_X8_readFirstName; exact (fun Q9 k9_0 k9_1 k9_2 k9_3 k9_4 k9_5 k9_6 k9_7 k9_8 k9_9 => k9_1 hp5 hp6 fik flk vik vlk rk gk_0 gk_1 c23 fik_1 flk_1 vik_1 vlk_1 rk_1 gk_1_5 tb gk_1_0 fik_2 flk_2 vik_2 vlk_2 rk_2 tb_1 gk_2_0 rfl rfl rfl rfl rfl rfl rfl rfl rfl rfl rfl)), trivial⟩⟩, hS.F ht⟩) hS.2.2 dX8_readFirstName_74
    · refine xz_i 0 er9 ?_
      have tb : rk_1.toInt = 0 := by rw [er9]; decide
      refine lv_if_eq (tgt := 73) hx hb dX8_readFirstName_59 (by decide) (fun _ => ?_) (fun c => absurd (by decide) c)
      refine lv_iconst (v := 0) hx hb dX8_readFirstName_73 (by decide) ?_
      have hP9 := hP.sub (ws' := [((a 0), .inr (8, [.ref (a 1), .ref (a 2), .int (vi 1)])), ((a 1), .inr (6, [.ref (a 5), .ref (a 4), .int (vi 2), .int (vi 3), .int (vi 4), .int (vik_1 5), .int (vik_1 1), .int (vik_1 2), .long (vlk_1 0), .int (vik_1 4), .int (vik_1 3), .int (vik_1 0), .int (vik_1 6), .int (vik_1 7)])), ((a 2), .inr (7, [.int (vi 13), .int (vi 14), .ref (a 3), .ref (ex 0), .ref (ex 1), .ref (ex 2), .ref (ex 3), .ref (ex 4), .ref (a 6), .ref (ex 5), .ref (ex 6), .ref (ex 7)])), ((a 3), .inl (T 2, 9, .inr (.inl (fl 0)))), ((a 4), .inl (T 2, 27, .inr (.inl (fl 1)))), ((a 5), .inl (T 0, 940, .inl (fi 0))), ((a 6), .inl (T 1, 9, .inl (fi 1)))]) [0, 4, 2, 3, 5, 6, 1] rfl
      have hD9 := hD.sub (ws' := [((a 0), .inr (8, [.ref (a 1), .ref (a 2), .int (vi 1)])), ((a 1), .inr (6, [.ref (a 5), .ref (a 4), .int (vi 2), .int (vi 3), .int (vi 4), .int (vik_1 5), .int (vik_1 1), .int (vik_1 2), .long (vlk_1 0), .int (vik_1 4), .int (vik_1 3), .int (vik_1 0), .int (vik_1 6), .int (vik_1 7)])), ((a 2), .inr (7, [.int (vi 13), .int (vi 14), .ref (a 3), .ref (ex 0), .ref (ex 1), .ref (ex 2), .ref (ex 3), .ref (ex 4), .ref (a 6), .ref (ex 5), .ref (ex 6), .ref (ex 7)])), ((a 3), .inl (T 2, 9, .inr (.inl (fl 0)))), ((a 4), .inl (T 2, 27, .inr (.inl (fl 1)))), ((a 5), .inl (T 0, 940, .inl (fi 0))), ((a 6), .inl (T 1, 9, .inl (fi 1)))]) [0, 4, 2, 3, 5, 6, 1] (by decide +kernel) rfl
      rw [hQ]
      exact W.zret (v := 0) hx hb hr rfl (fun t ht hW => ⟨⟨0, 0, rfl, rfl, xf [(fi 1)], xh [], xv [(vik_1 0), (vik_1 1), (vik_1 2), (vik_1 3), (vik_1 4), (vik_1 5), (vik_1 6), (vik_1 7)], xl [(vlk_1 0)], by rw [ht]; exact hP9, hD9, ⟨(Or.inr ⟨rfl, by show True; first | trivial | omega | assumption⟩), gk_1_1, gk_1_2, gk_1_3, (by show (0 : Int32).toInt = 1 → (vik_1 6).toInt = (vi 11).toInt; have k9_0 : (0 : Int32).toInt = 0 := (by decide); exact fun h9 => absurd h9 (by decide)), (by unfold R_X8_readFirstName; exact (fun Q9 k9_0 k9_1 k9_2 k9_3 k9_4 k9_5 k9_6 k9_7 k9_8 k9_9 => k9_2 hp5 hp6 fik flk vik vlk rk gk_0 gk_1 c23 fik_1 flk_1 vik_1 vlk_1 rk_1 gk_1_5 tb gk_1_0 rfl rfl rfl rfl rfl rfl rfl rfl rfl rfl rfl)), trivial⟩⟩, hS.F ht⟩) hS.2.2 dX8_readFirstName_74
  · have c23 := xeq (k := 1) (by decide) c23
    refine lv_iload_n hx hb dX8_readFirstName_26 rfl (lv_at hl 0 rfl) ?_
    refine lv_iconst (v := (-1)) hx hb dX8_readFirstName_27 (by decide) ?_
    refine lv_icmp_eq (tgt := 51) hx hb dX8_readFirstName_28 (by decide) (fun c28 => ?_) (fun c28 => ?_)
    · have c28 := xeq (k := (-1)) (by decide) c28
      refine lv_aload_n hx hb dX8_readFirstName_51 rfl (lv_at hl 1 rfl) ?_
      refine va_get (D := D) (ci := 8) (v := .ref (a 1)) (C := RX8) (T := TX8) (N := 3) hx hb htg inX8 hown hK.1 hP 0 rfl rfl 0 (by decide) (htg _ kw_228) (fun _ h9 => h9) rfl dX8_readFirstName_52 ?_
      refine lv_iload_n hx hb dX8_readFirstName_55 rfl (lv_at hl 0 rfl) ?_
      obtain ⟨hC9, hPc, hDc, hFc⟩ := xcut (wc := (pre_X6_passKnown T (xa [(a 1), (a 4), (a 5)]) (xa []) (xf [(fi 0)]) (xh [(fl 1)]) (xv [rk, (vi 2), (vi 3), (vi 4), (vi 5), (vi 6), (vi 7), (vi 8), (vi 9), (vi 10), (vi 11), (vi 12)]) (xl [(vl 0)]))) hP hD hS hA [1, 2, 3] (by decide) rfl
      refine va_calli (va_runVN (As := [.int rk]) (rest := []) ⟨hx, hb, hml, hown, htg⟩ (c_X6_passKnown l D T (xa [(a 1), (a 4), (a 5)]) (xa []) (xf [(fi 0)]) (xh [(fl 1)]) (xv [rk, (vi 2), (vi 3), (vi 4), (vi 5), (vi 6), (vi 7), (vi 8), (vi 9), (vi 10), (vi 11), (vi 12)]) (xl [(vl 0)]) H.size hp0 hp1 hp2 hp3 hp4) ⟨va_cnB 1 htg (xg_ok kw_640) rfl rfl rfl (hK.2.1 _ kn_637) (htg _ kw_2) (by decide +kernel) ⟨by rw [hR]; exact Nat.le_of_ble_eq_true rfl, by rw [hR]; exact Nat.le_of_ble_eq_true rfl⟩, htg _ kw_639, htg _ ks_20⟩ (xpreV hK hPc hDc (va_recv hK.1 hPc (ci := 6) (q0 := 0) rfl rfl)) rfl rfl hl.1 rfl (lv_room (Nat.le_of_ble_eq_true rfl)) dX8_readFirstName_56 ⟨by rw [hR]; exact Nat.le_of_ble_eq_true rfl, by rw [hR]; exact Nat.le_of_ble_eq_true rfl⟩) hS (fun q _ h => hFc q h) hFc (fun r9 u9 t H1 locs ht hvm hw hB hz1 hk1 hS => ?_)
      subst hw
      obtain ⟨fik_3, flk_3, vik_3, vlk_3, hP1, hD1, hG⟩ := hB
      rw [ht] at hP1
      obtain ⟨hP, hD⟩ := va_join (wr := [((a 0), .inr (8, [.ref (a 1), .ref (a 2), .int (vi 1)])), ((a 6), .inl (T 1, 9, .inl (fi 1))), ((a 2), .inr (7, [.int (vi 13), .int (vi 14), .ref (a 3), .ref (ex 0), .ref (ex 1), .ref (ex 2), .ref (ex 3), .ref (ex 4), .ref (a 6), .ref (ex 5), .ref (ex 6), .ref (ex 7)])), ((a 3), .inl (T 2, 9, .inr (.inl (fl 0))))]) (w1 := [((a 1), .inr (6, [.ref (a 5), .ref (a 4), .int (vi 2), .int (vi 3), .int (vi 4), .int (vik_3 5), .int (vik_3 1), .int (vik_3 2), .long (vlk_3 0), .int (vik_3 4), .int (vik_3 3), .int (vik_3 0), .int (vik_3 6), .int (vik_3 7)])), ((a 4), .inl (T 2, 27, .inr (.inl (fl 1)))), ((a 5), .inl (T 0, 940, .inl (fi 0)))]) hP hD [1, 2, 3] [0, 4, 5, 6] hC9 rfl (by decide) (by decide) hk1 hFc hP1 hD1
      obtain ⟨rk_3, er9⟩ : ∃ z, z = r9 := ⟨_, rfl⟩
      subst er9
      clear hPc hDc hFc hP1 hD1 hk1 hz1 hvm ht hC9
      generalize H1 = H at hP hS ⊢
      obtain ⟨hP, hD⟩ := (show xPD D A [((a 0), .inr (8, [.ref (a 1), .ref (a 2), .int (vi 1)])), ((a 6), .inl (T 1, 9, .inl (fi 1))), ((a 2), .inr (7, [.int (vi 13), .int (vi 14), .ref (a 3), .ref (ex 0), .ref (ex 1), .ref (ex 2), .ref (ex 3), .ref (ex 4), .ref (a 6), .ref (ex 5), .ref (ex 6), .ref (ex 7)])), ((a 3), .inl (T 2, 9, .inr (.inl (fl 0)))), ((a 1), .inr (6, [.ref (a 5), .ref (a 4), .int (vi 2), .int (vi 3), .int (vi 4), .int (vik_3 5), .int (vik_3 1), .int (vik_3 2), .long (vlk_3 0), .int (vik_3 4), .int (vik_3 3), .int (vik_3 0), .int (vik_3 6), .int (vik_3 7)])), ((a 4), .inl (T 2, 27, .inr (.inl (fl 1)))), ((a 5), .inl (T 0, 940, .inl (fi 0)))] H from ⟨hP, hD⟩)
      obtain ⟨gk_3_0, gk_3_1, gk_3_2, gk_3_3, gk_3_4, gk_3_5, -⟩ := hG
      replace gk_3_5 : ∀ n m t : Nat, CC (trn (fi 0) n) n m t (vi 3) (vi 4) (vi 6) (vi 7) (vi 5) (vl 0) (vi 8) (vi 9) → (rk_3.toInt = 1 ∧ (wMay (trn (fi 0) n) n m (ownB (fl 1)) t) ∧ ¬ rk.toInt = -1 ∧ (vik_3 0).toInt = rk.toInt ∧ CC (trn (fi 0) n) n m (sX (trn (fi 0) n) n m t) (vi 3) (vi 4) (vik_3 1) (vik_3 2) (vik_3 5) (vlk_3 0) (vik_3 4) (vik_3 3)) ∨ (rk_3.toInt = 0 ∧ ¬ (wMay (trn (fi 0) n) n m (ownB (fl 1)) t) ∧ (vik_3 6).toInt = 1 ∧ (vik_3 7).toInt = ((sPn (trn (fi 0) n) n m t) : Int)) ∨ (rk_3.toInt = 0 ∧ (wMay (trn (fi 0) n) n m (ownB (fl 1)) t) ∧ rk.toInt = -1 ∧ (vik_3 6).toInt = 3 ∧ (vik_3 7).toInt = ((sPn (trn (fi 0) n) n m t) : Int)) := (P_X6_passKnown gk_3_5 : _)
      replace gk_3_1 : 0 ≤ (vik_3 5).toInt ∧ (vik_3 5).toInt ≤ 940 := gk_3_1
      replace gk_3_2 : 0 ≤ (vik_3 2).toInt ∧ (vik_3 2).toInt ≤ 940 := gk_3_2
      replace gk_3_3 : 0 ≤ (vik_3 7).toInt ∧ (vik_3 7).toInt ≤ 940 := gk_3_3
      replace gk_3_4 : rk_3.toInt = 1 → (vik_3 6).toInt = (vi 11).toInt := gk_3_4
      rcases (show (rk_3 = 1 ∧ ((vik_3 0).toInt = rk.toInt ∧ ¬ rk.toInt = -1 ∧ (vi 6).toInt = 1)) ∨ (rk_3 = 0 ∧ (True)) from gk_3_0) with ⟨er9, gk_3_0⟩ | ⟨er9, gk_3_0⟩
      · refine xz_i 1 er9 ?_
        have tb_2 : rk_3.toInt = 1 := by rw [er9]; decide
        refine lv_if_eq (tgt := 73) hx hb dX8_readFirstName_59 (by decide) (fun c => absurd c (by decide)) (fun _ => ?_)
        refine lv_aload_n hx hb dX8_readFirstName_62 rfl (lv_at hl 1 rfl) ?_
        refine va_get (D := D) (ci := 8) (v := .ref (a 2)) (C := RX8) (T := TX8) (N := 3) hx hb htg inX8 hown hK.1 hP 0 rfl rfl 1 (by decide) (htg _ kw_229) (fun _ h9 => h9) rfl dX8_readFirstName_63 ?_
        refine lv_iload_n hx hb dX8_readFirstName_66 rfl (lv_at hl 2 rfl) ?_
        obtain ⟨hC9, hPc, hDc, hFc⟩ := xcut (wc := (pre_X7_isSoul T (xa [(a 2)]) (xa [(a 3), (ex 0), (ex 1), (ex 2), (ex 3), (ex 4), (a 6), (ex 5), (ex 6), (ex 7)]) (xf []) (xh []) (xv [(vi 0), (vi 13), (vi 14)]) (xl []))) hP hD hS hA [2] (by decide) rfl
        refine va_calli (va_runVN (As := [.int (vi 0)]) (rest := []) ⟨hx, hb, hml, hown, htg⟩ (c_X7_isSoul l D T (xa [(a 2)]) (xa [(a 3), (ex 0), (ex 1), (ex 2), (ex 3), (ex 4), (a 6), (ex 5), (ex 6), (ex 7)]) (xf []) (xh []) (xv [(vi 0), (vi 13), (vi 14)]) (xl []) H.size hp5 hp6) ⟨va_cnB 1 htg (xg_ok kw_664) rfl rfl rfl (hK.2.1 _ kn_661) (htg _ kw_7) (by decide +kernel) ⟨by rw [hR]; exact Nat.le_of_ble_eq_true rfl, by rw [hR]; exact Nat.le_of_ble_eq_true rfl⟩, htg _ kw_663, htg _ ks_25⟩ (xpreV hK hPc hDc (va_recv hK.1 hPc (ci := 7) (q0 := 0) rfl rfl)) rfl rfl hl.1 rfl (lv_room (Nat.le_of_ble_eq_true rfl)) dX8_readFirstName_67 ⟨by rw [hR]; exact Nat.le_of_ble_eq_true rfl, by rw [hR]; exact Nat.le_of_ble_eq_true rfl⟩) hS (fun q _ h => hFc q h) hFc (fun r9 u9 t H1 locs ht hvm hw hB hz1 hk1 hS => ?_)
        subst hw
        obtain ⟨fik_4, flk_4, vik_4, vlk_4, hP1, hD1, hG⟩ := hB
        rw [ht] at hP1
        obtain ⟨hP, hD⟩ := va_join (wr := [((a 0), .inr (8, [.ref (a 1), .ref (a 2), .int (vi 1)])), ((a 6), .inl (T 1, 9, .inl (fi 1))), ((a 3), .inl (T 2, 9, .inr (.inl (fl 0)))), ((a 1), .inr (6, [.ref (a 5), .ref (a 4), .int (vi 2), .int (vi 3), .int (vi 4), .int (vik_3 5), .int (vik_3 1), .int (vik_3 2), .long (vlk_3 0), .int (vik_3 4), .int (vik_3 3), .int (vik_3 0), .int (vik_3 6), .int (vik_3 7)])), ((a 4), .inl (T 2, 27, .inr (.inl (fl 1)))), ((a 5), .inl (T 0, 940, .inl (fi 0)))]) (w1 := [((a 2), .inr (7, [.int (vi 13), .int (vi 14), .ref (a 3), .ref (ex 0), .ref (ex 1), .ref (ex 2), .ref (ex 3), .ref (ex 4), .ref (a 6), .ref (ex 5), .ref (ex 6), .ref (ex 7)]))]) hP hD [2] [0, 1, 3, 4, 5, 6] hC9 rfl (by decide) (by decide) hk1 hFc hP1 hD1
        obtain ⟨rk_4, er9⟩ : ∃ z, z = r9 := ⟨_, rfl⟩
        subst er9
        clear hPc hDc hFc hP1 hD1 hk1 hz1 hvm ht hC9
        generalize H1 = H at hP hS ⊢
        obtain ⟨hP, hD⟩ := (show xPD D A [((a 0), .inr (8, [.ref (a 1), .ref (a 2), .int (vi 1)])), ((a 6), .inl (T 1, 9, .inl (fi 1))), ((a 3), .inl (T 2, 9, .inr (.inl (fl 0)))), ((a 1), .inr (6, [.ref (a 5), .ref (a 4), .int (vi 2), .int (vi 3), .int (vi 4), .int (vik_3 5), .int (vik_3 1), .int (vik_3 2), .long (vlk_3 0), .int (vik_3 4), .int (vik_3 3), .int (vik_3 0), .int (vik_3 6), .int (vik_3 7)])), ((a 4), .inl (T 2, 27, .inr (.inl (fl 1)))), ((a 5), .inl (T 0, 940, .inl (fi 0))), ((a 2), .inr (7, [.int (vi 13), .int (vi 14), .ref (a 3), .ref (ex 0), .ref (ex 1), .ref (ex 2), .ref (ex 3), .ref (ex 4), .ref (a 6), .ref (ex 5), .ref (ex 6), .ref (ex 7)]))] H from ⟨hP, hD⟩)
        obtain ⟨gk_4_0, -⟩ := hG
        rcases (show (rk_4 = 1 ∧ (0 ≤ (vi 0).toInt ∧ (vi 0).toInt < (vi 14).toInt)) ∨ (rk_4 = 0 ∧ (¬ (0 ≤ (vi 0).toInt ∧ (vi 0).toInt < (vi 14).toInt))) from gk_4_0) with ⟨er9, gk_4_0⟩ | ⟨er9, gk_4_0⟩
        · refine xz_i 1 er9 ?_
          have tb_3 : rk_4.toInt = 1 := by rw [er9]; decide
          refine lv_if_ne (tgt := 75) hx hb dX8_readFirstName_70 (by decide) (fun _ => ?_) (fun c => absurd c (by decide))
          refine lv_aload_n hx hb dX8_readFirstName_75 rfl (lv_at hl 1 rfl) ?_
          refine va_get (D := D) (ci := 8) (v := .ref (a 2)) (C := RX8) (T := TX8) (N := 3) hx hb htg inX8 hown hK.1 hP 0 rfl rfl 1 (by decide) (htg _ kw_229) (fun _ h9 => h9) rfl dX8_readFirstName_76 ?_
          refine va_getN (D := D) (ci := 7) (v := .ref (a 6)) (C := RX7) (T := TX7) (N := 12) hx hb htg inX7 hown hK.1 hP 6 rfl rfl 8 (by decide) (va_Nw.use rfl (hK.2.1 _ kn_185)) (fun _ h9 => h9) rfl dX8_readFirstName_79 ?_
          refine lv_iload_n hx hb dX8_readFirstName_82 rfl (lv_at hl 2 rfl) ?_
          refine lv_aload_n hx hb dX8_readFirstName_83 rfl (lv_at hl 1 rfl) ?_
          refine va_get (D := D) (ci := 8) (v := .ref (a 1)) (C := RX8) (T := TX8) (N := 3) hx hb htg inX8 hown hK.1 hP 0 rfl rfl 0 (by decide) (htg _ kw_228) (fun _ h9 => h9) rfl dX8_readFirstName_84 ?_
          refine va_getN (D := D) (ci := 6) (v := .int (vik_3 0)) (C := RX6) (T := TX6) (N := 14) hx hb htg inX6 hown hK.1 hP 3 rfl rfl 11 (by decide) (va_Nw.use rfl (hK.2.1 _ kn_114)) (fun _ h9 => h9) rfl dX8_readFirstName_87 ?_
          refine va_iast hx hb hK.1 hP hD hS 1 1 rfl rfl (vp_in_iff.mpr (by omega)) dX8_readFirstName_90 (fun H locs hP hD hS => ?_)
          obtain ⟨f90_1, ef90_1, hP, hD⟩ : ∃ f7 : Nat → Int32, f7 = upd (fi 1) (vi 0).toNatClampNeg ((vik_3 0) : Int32) ∧ va_P D vwCl [((a 0), .inr (8, [.ref (a 1), .ref (a 2), .int (vi 1)])), ((a 6), .inl (T 1, 9, .inl f7)), ((a 3), .inl (T 2, 9, .inr (.inl (fl 0)))), ((a 1), .inr (6, [.ref (a 5), .ref (a 4), .int (vi 2), .int (vi 3), .int (vi 4), .int (vik_3 5), .int (vik_3 1), .int (vik_3 2), .long (vlk_3 0), .int (vik_3 4), .int (vik_3 3), .int (vik_3 0), .int (vik_3 6), .int (vik_3 7)])), ((a 4), .inl (T 2, 27, .inr (.inl (fl 1)))), ((a 5), .inl (T 0, 940, .inl (fi 0))), ((a 2), .inr (7, [.int (vi 13), .int (vi 14), .ref (a 3), .ref (ex 0), .ref (ex 1), .ref (ex 2), .ref (ex 3), .ref (ex 4), .ref (a 6), .ref (ex 5), .ref (ex 6), .ref (ex 7)]))] H ∧ va_D A [((a 0), .inr (8, [.ref (a 1), .ref (a 2), .int (vi 1)])), ((a 6), .inl (T 1, 9, .inl f7)), ((a 3), .inl (T 2, 9, .inr (.inl (fl 0)))), ((a 1), .inr (6, [.ref (a 5), .ref (a 4), .int (vi 2), .int (vi 3), .int (vi 4), .int (vik_3 5), .int (vik_3 1), .int (vik_3 2), .long (vlk_3 0), .int (vik_3 4), .int (vik_3 3), .int (vik_3 0), .int (vik_3 6), .int (vik_3 7)])), ((a 4), .inl (T 2, 27, .inr (.inl (fl 1)))), ((a 5), .inl (T 0, 940, .inl (fi 0))), ((a 2), .inr (7, [.int (vi 13), .int (vi 14), .ref (a 3), .ref (ex 0), .ref (ex 1), .ref (ex 2), .ref (ex 3), .ref (ex 4), .ref (a 6), .ref (ex 5), .ref (ex 6), .ref (ex 7)]))] := ⟨_, rfl, hP, hD⟩
          refine lv_iconst (v := 1) hx hb dX8_readFirstName_91 (by decide) ?_
          have hP9 := hP.sub (ws' := [((a 0), .inr (8, [.ref (a 1), .ref (a 2), .int (vi 1)])), ((a 1), .inr (6, [.ref (a 5), .ref (a 4), .int (vi 2), .int (vi 3), .int (vi 4), .int (vik_3 5), .int (vik_3 1), .int (vik_3 2), .long (vlk_3 0), .int (vik_3 4), .int (vik_3 3), .int (vik_3 0), .int (vik_3 6), .int (vik_3 7)])), ((a 2), .inr (7, [.int (vi 13), .int (vi 14), .ref (a 3), .ref (ex 0), .ref (ex 1), .ref (ex 2), .ref (ex 3), .ref (ex 4), .ref (a 6), .ref (ex 5), .ref (ex 6), .ref (ex 7)])), ((a 3), .inl (T 2, 9, .inr (.inl (fl 0)))), ((a 4), .inl (T 2, 27, .inr (.inl (fl 1)))), ((a 5), .inl (T 0, 940, .inl (fi 0))), ((a 6), .inl (T 1, 9, .inl f90_1))]) [0, 3, 6, 2, 4, 5, 1] rfl
          have hD9 := hD.sub (ws' := [((a 0), .inr (8, [.ref (a 1), .ref (a 2), .int (vi 1)])), ((a 1), .inr (6, [.ref (a 5), .ref (a 4), .int (vi 2), .int (vi 3), .int (vi 4), .int (vik_3 5), .int (vik_3 1), .int (vik_3 2), .long (vlk_3 0), .int (vik_3 4), .int (vik_3 3), .int (vik_3 0), .int (vik_3 6), .int (vik_3 7)])), ((a 2), .inr (7, [.int (vi 13), .int (vi 14), .ref (a 3), .ref (ex 0), .ref (ex 1), .ref (ex 2), .ref (ex 3), .ref (ex 4), .ref (a 6), .ref (ex 5), .ref (ex 6), .ref (ex 7)])), ((a 3), .inl (T 2, 9, .inr (.inl (fl 0)))), ((a 4), .inl (T 2, 27, .inr (.inl (fl 1)))), ((a 5), .inl (T 0, 940, .inl (fi 0))), ((a 6), .inl (T 1, 9, .inl f90_1))]) [0, 3, 6, 2, 4, 5, 1] (by decide +kernel) rfl
          rw [hQ]
          exact W.zret (v := 1) hx hb hr rfl (fun t ht hW => ⟨⟨1, 1, rfl, rfl, xf [f90_1], xh [], xv [(vik_3 0), (vik_3 1), (vik_3 2), (vik_3 3), (vik_3 4), (vik_3 5), (vik_3 6), (vik_3 7)], xl [(vlk_3 0)], by rw [ht]; exact hP9, hD9, ⟨(Or.inl ⟨rfl, by show True; first | trivial | omega | assumption⟩), gk_3_1, gk_3_2, gk_3_3, (by show (1 : Int32).toInt = 1 → (vik_3 6).toInt = (vi 11).toInt; have k9_0 : (1 : Int32).toInt = 1 := (by decide); exact fun _ => (gk_3_4 tb_2)), (by unfold R_X8_readFirstName; exact (fun Q9 k9_0 k9_1 k9_2 k9_3 k9_4 k9_5 k9_6 k9_7 k9_8 k9_9 => k9_3 hp5 hp6 fik flk vik vlk rk gk_0 gk_1 c23 c28 fik_3 flk_3 vik_3 vlk_3 rk_3 gk_3_5 tb_2 gk_3_0 fik_4 flk_4 vik_4 vlk_4 rk_4 tb_3 gk_4_0 f90_1 ef90_1 rfl rfl rfl rfl rfl rfl rfl rfl rfl rfl rfl)), trivial⟩⟩, hS.F ht⟩) hS.2.2 dX8_readFirstName_92
        · refine xz_i 0 er9 ?_
          have tb_3 : rk_4.toInt = 0 := by rw [er9]; decide
          refine lv_if_ne (tgt := 75) hx hb dX8_readFirstName_70 (by decide) (fun c => absurd (by decide) c) (fun _ => ?_)
          refine lv_iconst (v := 0) hx hb dX8_readFirstName_73 (by decide) ?_
          have hP9 := hP.sub (ws' := [((a 0), .inr (8, [.ref (a 1), .ref (a 2), .int (vi 1)])), ((a 1), .inr (6, [.ref (a 5), .ref (a 4), .int (vi 2), .int (vi 3), .int (vi 4), .int (vik_3 5), .int (vik_3 1), .int (vik_3 2), .long (vlk_3 0), .int (vik_3 4), .int (vik_3 3), .int (vik_3 0), .int (vik_3 6), .int (vik_3 7)])), ((a 2), .inr (7, [.int (vi 13), .int (vi 14), .ref (a 3), .ref (ex 0), .ref (ex 1), .ref (ex 2), .ref (ex 3), .ref (ex 4), .ref (a 6), .ref (ex 5), .ref (ex 6), .ref (ex 7)])), ((a 3), .inl (T 2, 9, .inr (.inl (fl 0)))), ((a 4), .inl (T 2, 27, .inr (.inl (fl 1)))), ((a 5), .inl (T 0, 940, .inl (fi 0))), ((a 6), .inl (T 1, 9, .inl (fi 1)))]) [0, 3, 6, 2, 4, 5, 1] rfl
          have hD9 := hD.sub (ws' := [((a 0), .inr (8, [.ref (a 1), .ref (a 2), .int (vi 1)])), ((a 1), .inr (6, [.ref (a 5), .ref (a 4), .int (vi 2), .int (vi 3), .int (vi 4), .int (vik_3 5), .int (vik_3 1), .int (vik_3 2), .long (vlk_3 0), .int (vik_3 4), .int (vik_3 3), .int (vik_3 0), .int (vik_3 6), .int (vik_3 7)])), ((a 2), .inr (7, [.int (vi 13), .int (vi 14), .ref (a 3), .ref (ex 0), .ref (ex 1), .ref (ex 2), .ref (ex 3), .ref (ex 4), .ref (a 6), .ref (ex 5), .ref (ex 6), .ref (ex 7)])), ((a 3), .inl (T 2, 9, .inr (.inl (fl 0)))), ((a 4), .inl (T 2, 27, .inr (.inl (fl 1)))), ((a 5), .inl (T 0, 940, .inl (fi 0))), ((a 6), .inl (T 1, 9, .inl (fi 1)))]) [0, 3, 6, 2, 4, 5, 1] (by decide +kernel) rfl
          rw [hQ]
          exact W.zret (v := 0) hx hb hr rfl (fun t ht hW => ⟨⟨0, 0, rfl, rfl, xf [(fi 1)], xh [], xv [(vik_3 0), (vik_3 1), (vik_3 2), (vik_3 3), (vik_3 4), (vik_3 5), (vik_3 6), (vik_3 7)], xl [(vlk_3 0)], by rw [ht]; exact hP9, hD9, ⟨(Or.inr ⟨rfl, by show True; first | trivial | omega | assumption⟩), gk_3_1, gk_3_2, gk_3_3, (by show (0 : Int32).toInt = 1 → (vik_3 6).toInt = (vi 11).toInt; have k9_0 : (0 : Int32).toInt = 0 := (by decide); exact fun h9 => absurd h9 (by decide)), (by unfold R_X8_readFirstName; exact (fun Q9 k9_0 k9_1 k9_2 k9_3 k9_4 k9_5 k9_6 k9_7 k9_8 k9_9 => k9_4 hp5 hp6 fik flk vik vlk rk gk_0 gk_1 c23 c28 fik_3 flk_3 vik_3 vlk_3 rk_3 gk_3_5 tb_2 gk_3_0 fik_4 flk_4 vik_4 vlk_4 rk_4 tb_3 gk_4_0 rfl rfl rfl rfl rfl rfl rfl rfl rfl rfl rfl)), trivial⟩⟩, hS.F ht⟩) hS.2.2 dX8_readFirstName_74
      · refine xz_i 0 er9 ?_
        have tb_2 : rk_3.toInt = 0 := by rw [er9]; decide
        refine lv_if_eq (tgt := 73) hx hb dX8_readFirstName_59 (by decide) (fun _ => ?_) (fun c => absurd (by decide) c)
        refine lv_iconst (v := 0) hx hb dX8_readFirstName_73 (by decide) ?_
        have hP9 := hP.sub (ws' := [((a 0), .inr (8, [.ref (a 1), .ref (a 2), .int (vi 1)])), ((a 1), .inr (6, [.ref (a 5), .ref (a 4), .int (vi 2), .int (vi 3), .int (vi 4), .int (vik_3 5), .int (vik_3 1), .int (vik_3 2), .long (vlk_3 0), .int (vik_3 4), .int (vik_3 3), .int (vik_3 0), .int (vik_3 6), .int (vik_3 7)])), ((a 2), .inr (7, [.int (vi 13), .int (vi 14), .ref (a 3), .ref (ex 0), .ref (ex 1), .ref (ex 2), .ref (ex 3), .ref (ex 4), .ref (a 6), .ref (ex 5), .ref (ex 6), .ref (ex 7)])), ((a 3), .inl (T 2, 9, .inr (.inl (fl 0)))), ((a 4), .inl (T 2, 27, .inr (.inl (fl 1)))), ((a 5), .inl (T 0, 940, .inl (fi 0))), ((a 6), .inl (T 1, 9, .inl (fi 1)))]) [0, 4, 2, 3, 5, 6, 1] rfl
        have hD9 := hD.sub (ws' := [((a 0), .inr (8, [.ref (a 1), .ref (a 2), .int (vi 1)])), ((a 1), .inr (6, [.ref (a 5), .ref (a 4), .int (vi 2), .int (vi 3), .int (vi 4), .int (vik_3 5), .int (vik_3 1), .int (vik_3 2), .long (vlk_3 0), .int (vik_3 4), .int (vik_3 3), .int (vik_3 0), .int (vik_3 6), .int (vik_3 7)])), ((a 2), .inr (7, [.int (vi 13), .int (vi 14), .ref (a 3), .ref (ex 0), .ref (ex 1), .ref (ex 2), .ref (ex 3), .ref (ex 4), .ref (a 6), .ref (ex 5), .ref (ex 6), .ref (ex 7)])), ((a 3), .inl (T 2, 9, .inr (.inl (fl 0)))), ((a 4), .inl (T 2, 27, .inr (.inl (fl 1)))), ((a 5), .inl (T 0, 940, .inl (fi 0))), ((a 6), .inl (T 1, 9, .inl (fi 1)))]) [0, 4, 2, 3, 5, 6, 1] (by decide +kernel) rfl
        rw [hQ]
        exact W.zret (v := 0) hx hb hr rfl (fun t ht hW => ⟨⟨0, 0, rfl, rfl, xf [(fi 1)], xh [], xv [(vik_3 0), (vik_3 1), (vik_3 2), (vik_3 3), (vik_3 4), (vik_3 5), (vik_3 6), (vik_3 7)], xl [(vlk_3 0)], by rw [ht]; exact hP9, hD9, ⟨(Or.inr ⟨rfl, by show True; first | trivial | omega | assumption⟩), gk_3_1, gk_3_2, gk_3_3, (by show (0 : Int32).toInt = 1 → (vik_3 6).toInt = (vi 11).toInt; have k9_0 : (0 : Int32).toInt = 0 := (by decide); exact fun h9 => absurd h9 (by decide)), (by unfold R_X8_readFirstName; exact (fun Q9 k9_0 k9_1 k9_2 k9_3 k9_4 k9_5 k9_6 k9_7 k9_8 k9_9 => k9_5 hp5 hp6 fik flk vik vlk rk gk_0 gk_1 c23 c28 fik_3 flk_3 vik_3 vlk_3 rk_3 gk_3_5 tb_2 gk_3_0 rfl rfl rfl rfl rfl rfl rfl rfl rfl rfl rfl)), trivial⟩⟩, hS.F ht⟩) hS.2.2 dX8_readFirstName_74
    · have c28 := xne (k := (-1)) (by decide) c28
      refine lv_aload_n hx hb dX8_readFirstName_31 rfl (lv_at hl 1 rfl) ?_
      refine va_get (D := D) (ci := 8) (v := .ref (a 2)) (C := RX8) (T := TX8) (N := 3) hx hb htg inX8 hown hK.1 hP 0 rfl rfl 1 (by decide) (htg _ kw_229) (fun _ h9 => h9) rfl dX8_readFirstName_32 ?_
      refine lv_iload_n hx hb dX8_readFirstName_35 rfl (lv_at hl 0 rfl) ?_
      obtain ⟨hC9, hPc, hDc, hFc⟩ := xcut (wc := (pre_X7_isBorneAtFirst T (xa [(a 2), (a 6)]) (xa [(a 3), (ex 0), (ex 1), (ex 2), (ex 3), (ex 4), (ex 5), (ex 6), (ex 7)]) (xf [(fi 1)]) (xh []) (xv [rk, (vi 13), (vi 14)]) (xl []))) hP hD hS hA [5, 4] (by decide) rfl
      refine va_calli (va_runVN (As := [.int rk]) (rest := []) ⟨hx, hb, hml, hown, htg⟩ (c_X7_isBorneAtFirst l D T (xa [(a 2), (a 6)]) (xa [(a 3), (ex 0), (ex 1), (ex 2), (ex 3), (ex 4), (ex 5), (ex 6), (ex 7)]) (xf [(fi 1)]) (xh []) (xv [rk, (vi 13), (vi 14)]) (xl []) H.size hp5 hp6) ⟨va_cnB 1 htg (xg_ok kw_660) rfl rfl rfl (hK.2.1 _ kn_657) (htg _ kw_7) (by decide +kernel) ⟨by rw [hR]; exact Nat.le_of_ble_eq_true rfl, by rw [hR]; exact Nat.le_of_ble_eq_true rfl⟩, htg _ kw_659, htg _ ks_24⟩ (xpreV hK hPc hDc (va_recv hK.1 hPc (ci := 7) (q0 := 0) rfl rfl)) rfl rfl hl.1 rfl (lv_room (Nat.le_of_ble_eq_true rfl)) dX8_readFirstName_36 ⟨by rw [hR]; exact Nat.le_of_ble_eq_true rfl, by rw [hR]; exact Nat.le_of_ble_eq_true rfl⟩) hS (fun q _ h => hFc q h) hFc (fun r9 u9 t H1 locs ht hvm hw hB hz1 hk1 hS => ?_)
      subst hw
      obtain ⟨fik_5, flk_5, vik_5, vlk_5, hP1, hD1, hG⟩ := hB
      rw [ht] at hP1
      obtain ⟨hP, hD⟩ := va_join (wr := [((a 0), .inr (8, [.ref (a 1), .ref (a 2), .int (vi 1)])), ((a 1), .inr (6, [.ref (a 5), .ref (a 4), .int (vi 2), .int (vi 3), .int (vi 4), .int (vi 5), .int (vi 6), .int (vi 7), .long (vl 0), .int (vi 8), .int (vi 9), .int (vi 10), .int (vi 11), .int (vi 12)])), ((a 4), .inl (T 2, 27, .inr (.inl (fl 1)))), ((a 5), .inl (T 0, 940, .inl (fi 0))), ((a 3), .inl (T 2, 9, .inr (.inl (fl 0))))]) (w1 := [((a 2), .inr (7, [.int (vi 13), .int (vi 14), .ref (a 3), .ref (ex 0), .ref (ex 1), .ref (ex 2), .ref (ex 3), .ref (ex 4), .ref (a 6), .ref (ex 5), .ref (ex 6), .ref (ex 7)])), ((a 6), .inl (T 1, 9, .inl (fi 1)))]) hP hD [5, 4] [0, 1, 2, 3, 6] hC9 rfl (by decide) (by decide) hk1 hFc hP1 hD1
      obtain ⟨rk_5, er9⟩ : ∃ z, z = r9 := ⟨_, rfl⟩
      subst er9
      clear hPc hDc hFc hP1 hD1 hk1 hz1 hvm ht hC9
      generalize H1 = H at hP hS ⊢
      obtain ⟨hP, hD⟩ := (show xPD D A [((a 0), .inr (8, [.ref (a 1), .ref (a 2), .int (vi 1)])), ((a 1), .inr (6, [.ref (a 5), .ref (a 4), .int (vi 2), .int (vi 3), .int (vi 4), .int (vi 5), .int (vi 6), .int (vi 7), .long (vl 0), .int (vi 8), .int (vi 9), .int (vi 10), .int (vi 11), .int (vi 12)])), ((a 4), .inl (T 2, 27, .inr (.inl (fl 1)))), ((a 5), .inl (T 0, 940, .inl (fi 0))), ((a 3), .inl (T 2, 9, .inr (.inl (fl 0)))), ((a 2), .inr (7, [.int (vi 13), .int (vi 14), .ref (a 3), .ref (ex 0), .ref (ex 1), .ref (ex 2), .ref (ex 3), .ref (ex 4), .ref (a 6), .ref (ex 5), .ref (ex 6), .ref (ex 7)])), ((a 6), .inl (T 1, 9, .inl (fi 1)))] H from ⟨hP, hD⟩)
      obtain ⟨gk_5_0, gk_5_1, -⟩ := hG
      replace gk_5_1 : DJ (rk_5.toInt = 1 ∧ bo1 (fi 1) (vi 14).toInt rk.toInt) (rk_5.toInt = 0 ∧ bo0 (fi 1) (vi 14).toInt rk.toInt) := (P_X7_isBorneAtFirst gk_5_1 : _)
      rcases (show (rk_5 = 1 ∧ (True)) ∨ (rk_5 = 0 ∧ (True)) from gk_5_0) with ⟨er9, gk_5_0⟩ | ⟨er9, gk_5_0⟩
      · refine xz_i 1 er9 ?_
        have tb_4 : rk_5.toInt = 1 := by rw [er9]; decide
        refine lv_if_eq (tgt := 51) hx hb dX8_readFirstName_39 (by decide) (fun c => absurd c (by decide)) (fun _ => ?_)
        refine lv_aload_n hx hb dX8_readFirstName_42 rfl (lv_at hl 1 rfl) ?_
        refine va_get (D := D) (ci := 8) (v := .ref (a 1)) (C := RX8) (T := TX8) (N := 3) hx hb htg inX8 hown hK.1 hP 0 rfl rfl 0 (by decide) (htg _ kw_228) (fun _ h9 => h9) rfl dX8_readFirstName_43 ?_
        refine lv_iconst (v := 3) hx hb dX8_readFirstName_46 (by decide) ?_
        obtain ⟨hC9, hPc, hDc, hFc⟩ := xcut (wc := (pre_X6_refuse T (xa [(a 1)]) (xa [(a 5), (a 4)]) (xf []) (xh []) (xv [3, (vi 2), (vi 3), (vi 4), (vi 5), (vi 6), (vi 7), (vi 8), (vi 9), (vi 10), (vi 11), (vi 12)]) (xl [(vl 0)]))) hP hD hS hA [1] (by decide) rfl
        refine va_calli (va_runVN (As := [.int 3]) (rest := []) ⟨hx, hb, hml, hown, htg⟩ (c_X6_refuse l D T (xa [(a 1)]) (xa [(a 5), (a 4)]) (xf []) (xh []) (xv [3, (vi 2), (vi 3), (vi 4), (vi 5), (vi 6), (vi 7), (vi 8), (vi 9), (vi 10), (vi 11), (vi 12)]) (xl [(vl 0)]) H.size hp0 hp1 hp2 hp3 hp4) ⟨va_cnB 1 htg (xg_ok kw_594) rfl rfl rfl (hK.2.1 _ kn_591) (htg _ kw_2) (by decide +kernel) ⟨by rw [hR]; exact Nat.le_of_ble_eq_true rfl, by rw [hR]; exact Nat.le_of_ble_eq_true rfl⟩, htg _ kw_593, htg _ ks_10⟩ (xpreV hK hPc hDc (va_recv hK.1 hPc (ci := 6) (q0 := 0) rfl rfl)) rfl rfl hl.1 rfl (lv_room (Nat.le_of_ble_eq_true rfl)) dX8_readFirstName_47 ⟨by rw [hR]; exact Nat.le_of_ble_eq_true rfl, by rw [hR]; exact Nat.le_of_ble_eq_true rfl⟩) hS (fun q _ h => hFc q h) hFc (fun r9 u9 t H1 locs ht hvm hw hB hz1 hk1 hS => ?_)
        subst hw
        obtain ⟨fik_6, flk_6, vik_6, vlk_6, hP1, hD1, hG⟩ := hB
        rw [ht] at hP1
        obtain ⟨hP, hD⟩ := va_join (wr := [((a 0), .inr (8, [.ref (a 1), .ref (a 2), .int (vi 1)])), ((a 4), .inl (T 2, 27, .inr (.inl (fl 1)))), ((a 5), .inl (T 0, 940, .inl (fi 0))), ((a 3), .inl (T 2, 9, .inr (.inl (fl 0)))), ((a 2), .inr (7, [.int (vi 13), .int (vi 14), .ref (a 3), .ref (ex 0), .ref (ex 1), .ref (ex 2), .ref (ex 3), .ref (ex 4), .ref (a 6), .ref (ex 5), .ref (ex 6), .ref (ex 7)])), ((a 6), .inl (T 1, 9, .inl (fi 1)))]) (w1 := [((a 1), .inr (6, [.ref (a 5), .ref (a 4), .int (vi 2), .int (vi 3), .int (vi 4), .int (vi 5), .int (vi 6), .int (vi 7), .long (vl 0), .int (vi 8), .int (vi 9), .int (vi 10), .int (vik_6 0), .int (vik_6 1)]))]) hP hD [1] [0, 2, 3, 4, 5, 6] hC9 rfl (by decide) (by decide) hk1 hFc hP1 hD1
        obtain ⟨rk_6, er9⟩ : ∃ z, z = r9 := ⟨_, rfl⟩
        subst er9
        clear hPc hDc hFc hP1 hD1 hk1 hz1 hvm ht hC9
        generalize H1 = H at hP hS ⊢
        obtain ⟨hP, hD⟩ := (show xPD D A [((a 0), .inr (8, [.ref (a 1), .ref (a 2), .int (vi 1)])), ((a 4), .inl (T 2, 27, .inr (.inl (fl 1)))), ((a 5), .inl (T 0, 940, .inl (fi 0))), ((a 3), .inl (T 2, 9, .inr (.inl (fl 0)))), ((a 2), .inr (7, [.int (vi 13), .int (vi 14), .ref (a 3), .ref (ex 0), .ref (ex 1), .ref (ex 2), .ref (ex 3), .ref (ex 4), .ref (a 6), .ref (ex 5), .ref (ex 6), .ref (ex 7)])), ((a 6), .inl (T 1, 9, .inl (fi 1))), ((a 1), .inr (6, [.ref (a 5), .ref (a 4), .int (vi 2), .int (vi 3), .int (vi 4), .int (vi 5), .int (vi 6), .int (vi 7), .long (vl 0), .int (vi 8), .int (vi 9), .int (vi 10), .int (vik_6 0), .int (vik_6 1)]))] H from ⟨hP, hD⟩)
        obtain ⟨gk_6_0, gk_6_1, gk_6_2, -⟩ := hG
        replace gk_6_1 : 0 ≤ (vik_6 1).toInt ∧ (vik_6 1).toInt ≤ 940 := gk_6_1
        replace gk_6_2 : (vik_6 0).toInt = (3 : Int32).toInt ∧ (vik_6 1).toInt = (vi 7).toInt := gk_6_2
        replace gk_6_0 : rk_6 = 0 := gk_6_0
        refine xz_i 0 gk_6_0 ?_
        have hP9 := hP.sub (ws' := [((a 0), .inr (8, [.ref (a 1), .ref (a 2), .int (vi 1)])), ((a 1), .inr (6, [.ref (a 5), .ref (a 4), .int (vi 2), .int (vi 3), .int (vi 4), .int (vi 5), .int (vi 6), .int (vi 7), .long (vl 0), .int (vi 8), .int (vi 9), .int (vi 10), .int (vik_6 0), .int (vik_6 1)])), ((a 2), .inr (7, [.int (vi 13), .int (vi 14), .ref (a 3), .ref (ex 0), .ref (ex 1), .ref (ex 2), .ref (ex 3), .ref (ex 4), .ref (a 6), .ref (ex 5), .ref (ex 6), .ref (ex 7)])), ((a 3), .inl (T 2, 9, .inr (.inl (fl 0)))), ((a 4), .inl (T 2, 27, .inr (.inl (fl 1)))), ((a 5), .inl (T 0, 940, .inl (fi 0))), ((a 6), .inl (T 1, 9, .inl (fi 1)))]) [0, 6, 4, 3, 1, 2, 5] rfl
        have hD9 := hD.sub (ws' := [((a 0), .inr (8, [.ref (a 1), .ref (a 2), .int (vi 1)])), ((a 1), .inr (6, [.ref (a 5), .ref (a 4), .int (vi 2), .int (vi 3), .int (vi 4), .int (vi 5), .int (vi 6), .int (vi 7), .long (vl 0), .int (vi 8), .int (vi 9), .int (vi 10), .int (vik_6 0), .int (vik_6 1)])), ((a 2), .inr (7, [.int (vi 13), .int (vi 14), .ref (a 3), .ref (ex 0), .ref (ex 1), .ref (ex 2), .ref (ex 3), .ref (ex 4), .ref (a 6), .ref (ex 5), .ref (ex 6), .ref (ex 7)])), ((a 3), .inl (T 2, 9, .inr (.inl (fl 0)))), ((a 4), .inl (T 2, 27, .inr (.inl (fl 1)))), ((a 5), .inl (T 0, 940, .inl (fi 0))), ((a 6), .inl (T 1, 9, .inl (fi 1)))]) [0, 6, 4, 3, 1, 2, 5] (by decide +kernel) rfl
        rw [hQ]
        exact W.zret (v := 0) hx hb hr rfl (fun t ht hW => ⟨⟨0, 0, rfl, rfl, xf [(fi 1)], xh [], xv [(vi 10), (vi 6), (vi 7), (vi 9), (vi 8), (vi 5), (vik_6 0), (vik_6 1)], xl [(vl 0)], by rw [ht]; exact hP9, hD9, ⟨(Or.inr ⟨rfl, by show True; first | trivial | omega | assumption⟩), hp2, hp3, gk_6_1, (by show (0 : Int32).toInt = 1 → (vik_6 0).toInt = (vi 11).toInt; have k9_0 : (0 : Int32).toInt = 0 := (by decide); exact fun h9 => absurd h9 (by decide)), (by unfold R_X8_readFirstName; exact (fun Q9 k9_0 k9_1 k9_2 k9_3 k9_4 k9_5 k9_6 k9_7 k9_8 k9_9 => k9_6 hp5 hp6 fik flk vik vlk rk gk_0 gk_1 c23 c28 fik_5 flk_5 vik_5 vlk_5 rk_5 gk_5_1 tb_4 gk_5_0 fik_6 flk_6 vik_6 vlk_6 rk_6 gk_6_0 gk_6_2 rfl rfl rfl rfl rfl rfl rfl rfl rfl rfl rfl)), trivial⟩⟩, hS.F ht⟩) hS.2.2 dX8_readFirstName_50
      · refine xz_i 0 er9 ?_
        have tb_4 : rk_5.toInt = 0 := by rw [er9]; decide
        refine lv_if_eq (tgt := 51) hx hb dX8_readFirstName_39 (by decide) (fun _ => ?_) (fun c => absurd (by decide) c)
        refine lv_aload_n hx hb dX8_readFirstName_51 rfl (lv_at hl 1 rfl) ?_
        refine va_get (D := D) (ci := 8) (v := .ref (a 1)) (C := RX8) (T := TX8) (N := 3) hx hb htg inX8 hown hK.1 hP 0 rfl rfl 0 (by decide) (htg _ kw_228) (fun _ h9 => h9) rfl dX8_readFirstName_52 ?_
        refine lv_iload_n hx hb dX8_readFirstName_55 rfl (lv_at hl 0 rfl) ?_
        obtain ⟨hC9, hPc, hDc, hFc⟩ := xcut (wc := (pre_X6_passKnown T (xa [(a 1), (a 4), (a 5)]) (xa []) (xf [(fi 0)]) (xh [(fl 1)]) (xv [rk, (vi 2), (vi 3), (vi 4), (vi 5), (vi 6), (vi 7), (vi 8), (vi 9), (vi 10), (vi 11), (vi 12)]) (xl [(vl 0)]))) hP hD hS hA [1, 2, 3] (by decide) rfl
        refine va_calli (va_runVN (As := [.int rk]) (rest := []) ⟨hx, hb, hml, hown, htg⟩ (c_X6_passKnown l D T (xa [(a 1), (a 4), (a 5)]) (xa []) (xf [(fi 0)]) (xh [(fl 1)]) (xv [rk, (vi 2), (vi 3), (vi 4), (vi 5), (vi 6), (vi 7), (vi 8), (vi 9), (vi 10), (vi 11), (vi 12)]) (xl [(vl 0)]) H.size hp0 hp1 hp2 hp3 hp4) ⟨va_cnB 1 htg (xg_ok kw_640) rfl rfl rfl (hK.2.1 _ kn_637) (htg _ kw_2) (by decide +kernel) ⟨by rw [hR]; exact Nat.le_of_ble_eq_true rfl, by rw [hR]; exact Nat.le_of_ble_eq_true rfl⟩, htg _ kw_639, htg _ ks_20⟩ (xpreV hK hPc hDc (va_recv hK.1 hPc (ci := 6) (q0 := 0) rfl rfl)) rfl rfl hl.1 rfl (lv_room (Nat.le_of_ble_eq_true rfl)) dX8_readFirstName_56 ⟨by rw [hR]; exact Nat.le_of_ble_eq_true rfl, by rw [hR]; exact Nat.le_of_ble_eq_true rfl⟩) hS (fun q _ h => hFc q h) hFc (fun r9 u9 t H1 locs ht hvm hw hB hz1 hk1 hS => ?_)
        subst hw
        obtain ⟨fik_7, flk_7, vik_7, vlk_7, hP1, hD1, hG⟩ := hB
        rw [ht] at hP1
        obtain ⟨hP, hD⟩ := va_join (wr := [((a 0), .inr (8, [.ref (a 1), .ref (a 2), .int (vi 1)])), ((a 3), .inl (T 2, 9, .inr (.inl (fl 0)))), ((a 2), .inr (7, [.int (vi 13), .int (vi 14), .ref (a 3), .ref (ex 0), .ref (ex 1), .ref (ex 2), .ref (ex 3), .ref (ex 4), .ref (a 6), .ref (ex 5), .ref (ex 6), .ref (ex 7)])), ((a 6), .inl (T 1, 9, .inl (fi 1)))]) (w1 := [((a 1), .inr (6, [.ref (a 5), .ref (a 4), .int (vi 2), .int (vi 3), .int (vi 4), .int (vik_7 5), .int (vik_7 1), .int (vik_7 2), .long (vlk_7 0), .int (vik_7 4), .int (vik_7 3), .int (vik_7 0), .int (vik_7 6), .int (vik_7 7)])), ((a 4), .inl (T 2, 27, .inr (.inl (fl 1)))), ((a 5), .inl (T 0, 940, .inl (fi 0)))]) hP hD [1, 2, 3] [0, 4, 5, 6] hC9 rfl (by decide) (by decide) hk1 hFc hP1 hD1
        obtain ⟨rk_7, er9⟩ : ∃ z, z = r9 := ⟨_, rfl⟩
        subst er9
        clear hPc hDc hFc hP1 hD1 hk1 hz1 hvm ht hC9
        generalize H1 = H at hP hS ⊢
        obtain ⟨hP, hD⟩ := (show xPD D A [((a 0), .inr (8, [.ref (a 1), .ref (a 2), .int (vi 1)])), ((a 3), .inl (T 2, 9, .inr (.inl (fl 0)))), ((a 2), .inr (7, [.int (vi 13), .int (vi 14), .ref (a 3), .ref (ex 0), .ref (ex 1), .ref (ex 2), .ref (ex 3), .ref (ex 4), .ref (a 6), .ref (ex 5), .ref (ex 6), .ref (ex 7)])), ((a 6), .inl (T 1, 9, .inl (fi 1))), ((a 1), .inr (6, [.ref (a 5), .ref (a 4), .int (vi 2), .int (vi 3), .int (vi 4), .int (vik_7 5), .int (vik_7 1), .int (vik_7 2), .long (vlk_7 0), .int (vik_7 4), .int (vik_7 3), .int (vik_7 0), .int (vik_7 6), .int (vik_7 7)])), ((a 4), .inl (T 2, 27, .inr (.inl (fl 1)))), ((a 5), .inl (T 0, 940, .inl (fi 0)))] H from ⟨hP, hD⟩)
        obtain ⟨gk_7_0, gk_7_1, gk_7_2, gk_7_3, gk_7_4, gk_7_5, -⟩ := hG
        replace gk_7_5 : ∀ n m t : Nat, CC (trn (fi 0) n) n m t (vi 3) (vi 4) (vi 6) (vi 7) (vi 5) (vl 0) (vi 8) (vi 9) → (rk_7.toInt = 1 ∧ (wMay (trn (fi 0) n) n m (ownB (fl 1)) t) ∧ ¬ rk.toInt = -1 ∧ (vik_7 0).toInt = rk.toInt ∧ CC (trn (fi 0) n) n m (sX (trn (fi 0) n) n m t) (vi 3) (vi 4) (vik_7 1) (vik_7 2) (vik_7 5) (vlk_7 0) (vik_7 4) (vik_7 3)) ∨ (rk_7.toInt = 0 ∧ ¬ (wMay (trn (fi 0) n) n m (ownB (fl 1)) t) ∧ (vik_7 6).toInt = 1 ∧ (vik_7 7).toInt = ((sPn (trn (fi 0) n) n m t) : Int)) ∨ (rk_7.toInt = 0 ∧ (wMay (trn (fi 0) n) n m (ownB (fl 1)) t) ∧ rk.toInt = -1 ∧ (vik_7 6).toInt = 3 ∧ (vik_7 7).toInt = ((sPn (trn (fi 0) n) n m t) : Int)) := (P_X6_passKnown gk_7_5 : _)
        replace gk_7_1 : 0 ≤ (vik_7 5).toInt ∧ (vik_7 5).toInt ≤ 940 := gk_7_1
        replace gk_7_2 : 0 ≤ (vik_7 2).toInt ∧ (vik_7 2).toInt ≤ 940 := gk_7_2
        replace gk_7_3 : 0 ≤ (vik_7 7).toInt ∧ (vik_7 7).toInt ≤ 940 := gk_7_3
        replace gk_7_4 : rk_7.toInt = 1 → (vik_7 6).toInt = (vi 11).toInt := gk_7_4
        rcases (show (rk_7 = 1 ∧ ((vik_7 0).toInt = rk.toInt ∧ ¬ rk.toInt = -1 ∧ (vi 6).toInt = 1)) ∨ (rk_7 = 0 ∧ (True)) from gk_7_0) with ⟨er9, gk_7_0⟩ | ⟨er9, gk_7_0⟩
        · refine xz_i 1 er9 ?_
          have tb_5 : rk_7.toInt = 1 := by rw [er9]; decide
          refine lv_if_eq (tgt := 73) hx hb dX8_readFirstName_59 (by decide) (fun c => absurd c (by decide)) (fun _ => ?_)
          refine lv_aload_n hx hb dX8_readFirstName_62 rfl (lv_at hl 1 rfl) ?_
          refine va_get (D := D) (ci := 8) (v := .ref (a 2)) (C := RX8) (T := TX8) (N := 3) hx hb htg inX8 hown hK.1 hP 0 rfl rfl 1 (by decide) (htg _ kw_229) (fun _ h9 => h9) rfl dX8_readFirstName_63 ?_
          refine lv_iload_n hx hb dX8_readFirstName_66 rfl (lv_at hl 2 rfl) ?_
          obtain ⟨hC9, hPc, hDc, hFc⟩ := xcut (wc := (pre_X7_isSoul T (xa [(a 2)]) (xa [(a 3), (ex 0), (ex 1), (ex 2), (ex 3), (ex 4), (a 6), (ex 5), (ex 6), (ex 7)]) (xf []) (xh []) (xv [(vi 0), (vi 13), (vi 14)]) (xl []))) hP hD hS hA [2] (by decide) rfl
          refine va_calli (va_runVN (As := [.int (vi 0)]) (rest := []) ⟨hx, hb, hml, hown, htg⟩ (c_X7_isSoul l D T (xa [(a 2)]) (xa [(a 3), (ex 0), (ex 1), (ex 2), (ex 3), (ex 4), (a 6), (ex 5), (ex 6), (ex 7)]) (xf []) (xh []) (xv [(vi 0), (vi 13), (vi 14)]) (xl []) H.size hp5 hp6) ⟨va_cnB 1 htg (xg_ok kw_664) rfl rfl rfl (hK.2.1 _ kn_661) (htg _ kw_7) (by decide +kernel) ⟨by rw [hR]; exact Nat.le_of_ble_eq_true rfl, by rw [hR]; exact Nat.le_of_ble_eq_true rfl⟩, htg _ kw_663, htg _ ks_25⟩ (xpreV hK hPc hDc (va_recv hK.1 hPc (ci := 7) (q0 := 0) rfl rfl)) rfl rfl hl.1 rfl (lv_room (Nat.le_of_ble_eq_true rfl)) dX8_readFirstName_67 ⟨by rw [hR]; exact Nat.le_of_ble_eq_true rfl, by rw [hR]; exact Nat.le_of_ble_eq_true rfl⟩) hS (fun q _ h => hFc q h) hFc (fun r9 u9 t H1 locs ht hvm hw hB hz1 hk1 hS => ?_)
          subst hw
          obtain ⟨fik_8, flk_8, vik_8, vlk_8, hP1, hD1, hG⟩ := hB
          rw [ht] at hP1
          obtain ⟨hP, hD⟩ := va_join (wr := [((a 0), .inr (8, [.ref (a 1), .ref (a 2), .int (vi 1)])), ((a 3), .inl (T 2, 9, .inr (.inl (fl 0)))), ((a 6), .inl (T 1, 9, .inl (fi 1))), ((a 1), .inr (6, [.ref (a 5), .ref (a 4), .int (vi 2), .int (vi 3), .int (vi 4), .int (vik_7 5), .int (vik_7 1), .int (vik_7 2), .long (vlk_7 0), .int (vik_7 4), .int (vik_7 3), .int (vik_7 0), .int (vik_7 6), .int (vik_7 7)])), ((a 4), .inl (T 2, 27, .inr (.inl (fl 1)))), ((a 5), .inl (T 0, 940, .inl (fi 0)))]) (w1 := [((a 2), .inr (7, [.int (vi 13), .int (vi 14), .ref (a 3), .ref (ex 0), .ref (ex 1), .ref (ex 2), .ref (ex 3), .ref (ex 4), .ref (a 6), .ref (ex 5), .ref (ex 6), .ref (ex 7)]))]) hP hD [2] [0, 1, 3, 4, 5, 6] hC9 rfl (by decide) (by decide) hk1 hFc hP1 hD1
          obtain ⟨rk_8, er9⟩ : ∃ z, z = r9 := ⟨_, rfl⟩
          subst er9
          clear hPc hDc hFc hP1 hD1 hk1 hz1 hvm ht hC9
          generalize H1 = H at hP hS ⊢
          obtain ⟨hP, hD⟩ := (show xPD D A [((a 0), .inr (8, [.ref (a 1), .ref (a 2), .int (vi 1)])), ((a 3), .inl (T 2, 9, .inr (.inl (fl 0)))), ((a 6), .inl (T 1, 9, .inl (fi 1))), ((a 1), .inr (6, [.ref (a 5), .ref (a 4), .int (vi 2), .int (vi 3), .int (vi 4), .int (vik_7 5), .int (vik_7 1), .int (vik_7 2), .long (vlk_7 0), .int (vik_7 4), .int (vik_7 3), .int (vik_7 0), .int (vik_7 6), .int (vik_7 7)])), ((a 4), .inl (T 2, 27, .inr (.inl (fl 1)))), ((a 5), .inl (T 0, 940, .inl (fi 0))), ((a 2), .inr (7, [.int (vi 13), .int (vi 14), .ref (a 3), .ref (ex 0), .ref (ex 1), .ref (ex 2), .ref (ex 3), .ref (ex 4), .ref (a 6), .ref (ex 5), .ref (ex 6), .ref (ex 7)]))] H from ⟨hP, hD⟩)
          obtain ⟨gk_8_0, -⟩ := hG
          rcases (show (rk_8 = 1 ∧ (0 ≤ (vi 0).toInt ∧ (vi 0).toInt < (vi 14).toInt)) ∨ (rk_8 = 0 ∧ (¬ (0 ≤ (vi 0).toInt ∧ (vi 0).toInt < (vi 14).toInt))) from gk_8_0) with ⟨er9, gk_8_0⟩ | ⟨er9, gk_8_0⟩
          · refine xz_i 1 er9 ?_
            have tb_6 : rk_8.toInt = 1 := by rw [er9]; decide
            refine lv_if_ne (tgt := 75) hx hb dX8_readFirstName_70 (by decide) (fun _ => ?_) (fun c => absurd c (by decide))
            refine lv_aload_n hx hb dX8_readFirstName_75 rfl (lv_at hl 1 rfl) ?_
            refine va_get (D := D) (ci := 8) (v := .ref (a 2)) (C := RX8) (T := TX8) (N := 3) hx hb htg inX8 hown hK.1 hP 0 rfl rfl 1 (by decide) (htg _ kw_229) (fun _ h9 => h9) rfl dX8_readFirstName_76 ?_
            refine va_getN (D := D) (ci := 7) (v := .ref (a 6)) (C := RX7) (T := TX7) (N := 12) hx hb htg inX7 hown hK.1 hP 6 rfl rfl 8 (by decide) (va_Nw.use rfl (hK.2.1 _ kn_185)) (fun _ h9 => h9) rfl dX8_readFirstName_79 ?_
            refine lv_iload_n hx hb dX8_readFirstName_82 rfl (lv_at hl 2 rfl) ?_
            refine lv_aload_n hx hb dX8_readFirstName_83 rfl (lv_at hl 1 rfl) ?_
            refine va_get (D := D) (ci := 8) (v := .ref (a 1)) (C := RX8) (T := TX8) (N := 3) hx hb htg inX8 hown hK.1 hP 0 rfl rfl 0 (by decide) (htg _ kw_228) (fun _ h9 => h9) rfl dX8_readFirstName_84 ?_
            refine va_getN (D := D) (ci := 6) (v := .int (vik_7 0)) (C := RX6) (T := TX6) (N := 14) hx hb htg inX6 hown hK.1 hP 3 rfl rfl 11 (by decide) (va_Nw.use rfl (hK.2.1 _ kn_114)) (fun _ h9 => h9) rfl dX8_readFirstName_87 ?_
            refine va_iast hx hb hK.1 hP hD hS 2 1 rfl rfl (vp_in_iff.mpr (by omega)) dX8_readFirstName_90 (fun H locs hP hD hS => ?_)
            obtain ⟨f90_2, ef90_2, hP, hD⟩ : ∃ f7 : Nat → Int32, f7 = upd (fi 1) (vi 0).toNatClampNeg ((vik_7 0) : Int32) ∧ va_P D vwCl [((a 0), .inr (8, [.ref (a 1), .ref (a 2), .int (vi 1)])), ((a 3), .inl (T 2, 9, .inr (.inl (fl 0)))), ((a 6), .inl (T 1, 9, .inl f7)), ((a 1), .inr (6, [.ref (a 5), .ref (a 4), .int (vi 2), .int (vi 3), .int (vi 4), .int (vik_7 5), .int (vik_7 1), .int (vik_7 2), .long (vlk_7 0), .int (vik_7 4), .int (vik_7 3), .int (vik_7 0), .int (vik_7 6), .int (vik_7 7)])), ((a 4), .inl (T 2, 27, .inr (.inl (fl 1)))), ((a 5), .inl (T 0, 940, .inl (fi 0))), ((a 2), .inr (7, [.int (vi 13), .int (vi 14), .ref (a 3), .ref (ex 0), .ref (ex 1), .ref (ex 2), .ref (ex 3), .ref (ex 4), .ref (a 6), .ref (ex 5), .ref (ex 6), .ref (ex 7)]))] H ∧ va_D A [((a 0), .inr (8, [.ref (a 1), .ref (a 2), .int (vi 1)])), ((a 3), .inl (T 2, 9, .inr (.inl (fl 0)))), ((a 6), .inl (T 1, 9, .inl f7)), ((a 1), .inr (6, [.ref (a 5), .ref (a 4), .int (vi 2), .int (vi 3), .int (vi 4), .int (vik_7 5), .int (vik_7 1), .int (vik_7 2), .long (vlk_7 0), .int (vik_7 4), .int (vik_7 3), .int (vik_7 0), .int (vik_7 6), .int (vik_7 7)])), ((a 4), .inl (T 2, 27, .inr (.inl (fl 1)))), ((a 5), .inl (T 0, 940, .inl (fi 0))), ((a 2), .inr (7, [.int (vi 13), .int (vi 14), .ref (a 3), .ref (ex 0), .ref (ex 1), .ref (ex 2), .ref (ex 3), .ref (ex 4), .ref (a 6), .ref (ex 5), .ref (ex 6), .ref (ex 7)]))] := ⟨_, rfl, hP, hD⟩
            refine lv_iconst (v := 1) hx hb dX8_readFirstName_91 (by decide) ?_
            have hP9 := hP.sub (ws' := [((a 0), .inr (8, [.ref (a 1), .ref (a 2), .int (vi 1)])), ((a 1), .inr (6, [.ref (a 5), .ref (a 4), .int (vi 2), .int (vi 3), .int (vi 4), .int (vik_7 5), .int (vik_7 1), .int (vik_7 2), .long (vlk_7 0), .int (vik_7 4), .int (vik_7 3), .int (vik_7 0), .int (vik_7 6), .int (vik_7 7)])), ((a 2), .inr (7, [.int (vi 13), .int (vi 14), .ref (a 3), .ref (ex 0), .ref (ex 1), .ref (ex 2), .ref (ex 3), .ref (ex 4), .ref (a 6), .ref (ex 5), .ref (ex 6), .ref (ex 7)])), ((a 3), .inl (T 2, 9, .inr (.inl (fl 0)))), ((a 4), .inl (T 2, 27, .inr (.inl (fl 1)))), ((a 5), .inl (T 0, 940, .inl (fi 0))), ((a 6), .inl (T 1, 9, .inl f90_2))]) [0, 3, 6, 1, 4, 5, 2] rfl
            have hD9 := hD.sub (ws' := [((a 0), .inr (8, [.ref (a 1), .ref (a 2), .int (vi 1)])), ((a 1), .inr (6, [.ref (a 5), .ref (a 4), .int (vi 2), .int (vi 3), .int (vi 4), .int (vik_7 5), .int (vik_7 1), .int (vik_7 2), .long (vlk_7 0), .int (vik_7 4), .int (vik_7 3), .int (vik_7 0), .int (vik_7 6), .int (vik_7 7)])), ((a 2), .inr (7, [.int (vi 13), .int (vi 14), .ref (a 3), .ref (ex 0), .ref (ex 1), .ref (ex 2), .ref (ex 3), .ref (ex 4), .ref (a 6), .ref (ex 5), .ref (ex 6), .ref (ex 7)])), ((a 3), .inl (T 2, 9, .inr (.inl (fl 0)))), ((a 4), .inl (T 2, 27, .inr (.inl (fl 1)))), ((a 5), .inl (T 0, 940, .inl (fi 0))), ((a 6), .inl (T 1, 9, .inl f90_2))]) [0, 3, 6, 1, 4, 5, 2] (by decide +kernel) rfl
            rw [hQ]
            exact W.zret (v := 1) hx hb hr rfl (fun t ht hW => ⟨⟨1, 1, rfl, rfl, xf [f90_2], xh [], xv [(vik_7 0), (vik_7 1), (vik_7 2), (vik_7 3), (vik_7 4), (vik_7 5), (vik_7 6), (vik_7 7)], xl [(vlk_7 0)], by rw [ht]; exact hP9, hD9, ⟨(Or.inl ⟨rfl, by show True; first | trivial | omega | assumption⟩), gk_7_1, gk_7_2, gk_7_3, (by show (1 : Int32).toInt = 1 → (vik_7 6).toInt = (vi 11).toInt; have k9_0 : (1 : Int32).toInt = 1 := (by decide); exact fun _ => (gk_7_4 tb_5)), (by unfold R_X8_readFirstName; exact (fun Q9 k9_0 k9_1 k9_2 k9_3 k9_4 k9_5 k9_6 k9_7 k9_8 k9_9 => k9_7 hp5 hp6 fik flk vik vlk rk gk_0 gk_1 c23 c28 fik_5 flk_5 vik_5 vlk_5 rk_5 gk_5_1 tb_4 gk_5_0 fik_7 flk_7 vik_7 vlk_7 rk_7 gk_7_5 tb_5 gk_7_0 fik_8 flk_8 vik_8 vlk_8 rk_8 tb_6 gk_8_0 f90_2 ef90_2 rfl rfl rfl rfl rfl rfl rfl rfl rfl rfl rfl)), trivial⟩⟩, hS.F ht⟩) hS.2.2 dX8_readFirstName_92
          · refine xz_i 0 er9 ?_
            have tb_6 : rk_8.toInt = 0 := by rw [er9]; decide
            refine lv_if_ne (tgt := 75) hx hb dX8_readFirstName_70 (by decide) (fun c => absurd (by decide) c) (fun _ => ?_)
            refine lv_iconst (v := 0) hx hb dX8_readFirstName_73 (by decide) ?_
            have hP9 := hP.sub (ws' := [((a 0), .inr (8, [.ref (a 1), .ref (a 2), .int (vi 1)])), ((a 1), .inr (6, [.ref (a 5), .ref (a 4), .int (vi 2), .int (vi 3), .int (vi 4), .int (vik_7 5), .int (vik_7 1), .int (vik_7 2), .long (vlk_7 0), .int (vik_7 4), .int (vik_7 3), .int (vik_7 0), .int (vik_7 6), .int (vik_7 7)])), ((a 2), .inr (7, [.int (vi 13), .int (vi 14), .ref (a 3), .ref (ex 0), .ref (ex 1), .ref (ex 2), .ref (ex 3), .ref (ex 4), .ref (a 6), .ref (ex 5), .ref (ex 6), .ref (ex 7)])), ((a 3), .inl (T 2, 9, .inr (.inl (fl 0)))), ((a 4), .inl (T 2, 27, .inr (.inl (fl 1)))), ((a 5), .inl (T 0, 940, .inl (fi 0))), ((a 6), .inl (T 1, 9, .inl (fi 1)))]) [0, 3, 6, 1, 4, 5, 2] rfl
            have hD9 := hD.sub (ws' := [((a 0), .inr (8, [.ref (a 1), .ref (a 2), .int (vi 1)])), ((a 1), .inr (6, [.ref (a 5), .ref (a 4), .int (vi 2), .int (vi 3), .int (vi 4), .int (vik_7 5), .int (vik_7 1), .int (vik_7 2), .long (vlk_7 0), .int (vik_7 4), .int (vik_7 3), .int (vik_7 0), .int (vik_7 6), .int (vik_7 7)])), ((a 2), .inr (7, [.int (vi 13), .int (vi 14), .ref (a 3), .ref (ex 0), .ref (ex 1), .ref (ex 2), .ref (ex 3), .ref (ex 4), .ref (a 6), .ref (ex 5), .ref (ex 6), .ref (ex 7)])), ((a 3), .inl (T 2, 9, .inr (.inl (fl 0)))), ((a 4), .inl (T 2, 27, .inr (.inl (fl 1)))), ((a 5), .inl (T 0, 940, .inl (fi 0))), ((a 6), .inl (T 1, 9, .inl (fi 1)))]) [0, 3, 6, 1, 4, 5, 2] (by decide +kernel) rfl
            rw [hQ]
            exact W.zret (v := 0) hx hb hr rfl (fun t ht hW => ⟨⟨0, 0, rfl, rfl, xf [(fi 1)], xh [], xv [(vik_7 0), (vik_7 1), (vik_7 2), (vik_7 3), (vik_7 4), (vik_7 5), (vik_7 6), (vik_7 7)], xl [(vlk_7 0)], by rw [ht]; exact hP9, hD9, ⟨(Or.inr ⟨rfl, by show True; first | trivial | omega | assumption⟩), gk_7_1, gk_7_2, gk_7_3, (by show (0 : Int32).toInt = 1 → (vik_7 6).toInt = (vi 11).toInt; have k9_0 : (0 : Int32).toInt = 0 := (by decide); exact fun h9 => absurd h9 (by decide)), (by unfold R_X8_readFirstName; exact (fun Q9 k9_0 k9_1 k9_2 k9_3 k9_4 k9_5 k9_6 k9_7 k9_8 k9_9 => k9_8 hp5 hp6 fik flk vik vlk rk gk_0 gk_1 c23 c28 fik_5 flk_5 vik_5 vlk_5 rk_5 gk_5_1 tb_4 gk_5_0 fik_7 flk_7 vik_7 vlk_7 rk_7 gk_7_5 tb_5 gk_7_0 fik_8 flk_8 vik_8 vlk_8 rk_8 tb_6 gk_8_0 rfl rfl rfl rfl rfl rfl rfl rfl rfl rfl rfl)), trivial⟩⟩, hS.F ht⟩) hS.2.2 dX8_readFirstName_74
        · refine xz_i 0 er9 ?_
          have tb_5 : rk_7.toInt = 0 := by rw [er9]; decide
          refine lv_if_eq (tgt := 73) hx hb dX8_readFirstName_59 (by decide) (fun _ => ?_) (fun c => absurd (by decide) c)
          refine lv_iconst (v := 0) hx hb dX8_readFirstName_73 (by decide) ?_
          have hP9 := hP.sub (ws' := [((a 0), .inr (8, [.ref (a 1), .ref (a 2), .int (vi 1)])), ((a 1), .inr (6, [.ref (a 5), .ref (a 4), .int (vi 2), .int (vi 3), .int (vi 4), .int (vik_7 5), .int (vik_7 1), .int (vik_7 2), .long (vlk_7 0), .int (vik_7 4), .int (vik_7 3), .int (vik_7 0), .int (vik_7 6), .int (vik_7 7)])), ((a 2), .inr (7, [.int (vi 13), .int (vi 14), .ref (a 3), .ref (ex 0), .ref (ex 1), .ref (ex 2), .ref (ex 3), .ref (ex 4), .ref (a 6), .ref (ex 5), .ref (ex 6), .ref (ex 7)])), ((a 3), .inl (T 2, 9, .inr (.inl (fl 0)))), ((a 4), .inl (T 2, 27, .inr (.inl (fl 1)))), ((a 5), .inl (T 0, 940, .inl (fi 0))), ((a 6), .inl (T 1, 9, .inl (fi 1)))]) [0, 4, 2, 1, 5, 6, 3] rfl
          have hD9 := hD.sub (ws' := [((a 0), .inr (8, [.ref (a 1), .ref (a 2), .int (vi 1)])), ((a 1), .inr (6, [.ref (a 5), .ref (a 4), .int (vi 2), .int (vi 3), .int (vi 4), .int (vik_7 5), .int (vik_7 1), .int (vik_7 2), .long (vlk_7 0), .int (vik_7 4), .int (vik_7 3), .int (vik_7 0), .int (vik_7 6), .int (vik_7 7)])), ((a 2), .inr (7, [.int (vi 13), .int (vi 14), .ref (a 3), .ref (ex 0), .ref (ex 1), .ref (ex 2), .ref (ex 3), .ref (ex 4), .ref (a 6), .ref (ex 5), .ref (ex 6), .ref (ex 7)])), ((a 3), .inl (T 2, 9, .inr (.inl (fl 0)))), ((a 4), .inl (T 2, 27, .inr (.inl (fl 1)))), ((a 5), .inl (T 0, 940, .inl (fi 0))), ((a 6), .inl (T 1, 9, .inl (fi 1)))]) [0, 4, 2, 1, 5, 6, 3] (by decide +kernel) rfl
          rw [hQ]
          exact W.zret (v := 0) hx hb hr rfl (fun t ht hW => ⟨⟨0, 0, rfl, rfl, xf [(fi 1)], xh [], xv [(vik_7 0), (vik_7 1), (vik_7 2), (vik_7 3), (vik_7 4), (vik_7 5), (vik_7 6), (vik_7 7)], xl [(vlk_7 0)], by rw [ht]; exact hP9, hD9, ⟨(Or.inr ⟨rfl, by show True; first | trivial | omega | assumption⟩), gk_7_1, gk_7_2, gk_7_3, (by show (0 : Int32).toInt = 1 → (vik_7 6).toInt = (vi 11).toInt; have k9_0 : (0 : Int32).toInt = 0 := (by decide); exact fun h9 => absurd h9 (by decide)), (by unfold R_X8_readFirstName; exact (fun Q9 k9_0 k9_1 k9_2 k9_3 k9_4 k9_5 k9_6 k9_7 k9_8 k9_9 => k9_9 hp5 hp6 fik flk vik vlk rk gk_0 gk_1 c23 c28 fik_5 flk_5 vik_5 vlk_5 rk_5 gk_5_1 tb_4 gk_5_0 fik_7 flk_7 vik_7 vlk_7 rk_7 gk_7_5 tb_5 gk_7_0 rfl rfl rfl rfl rfl rfl rfl rfl rfl rfl rfl)), trivial⟩⟩, hS.F ht⟩) hS.2.2 dX8_readFirstName_74
abbrev pre_X8_readSoulLine (T : Nat → ClassId) (a ex : Nat → Nat) (fi : Nat → Nat → Int32) (fl : Nat → Nat → Int64) (vi : Nat → Int32) (vl : Nat → Int64) : va_W := [((a 0), .inr (8, [.ref (a 2), .ref (a 1), .int (vi 0)])), ((a 1), .inr (7, [.int (vi 1), .int (vi 2), .ref (a 5), .ref (ex 0), .ref (ex 1), .ref (ex 2), .ref (a 6), .ref (a 7), .ref (a 8), .ref (a 9), .ref (a 10), .ref (a 11)])), ((a 2), .inr (6, [.ref (a 3), .ref (a 4), .int (vi 3), .int (vi 4), .int (vi 5), .int (vi 6), .int (vi 7), .int (vi 8), .long (vl 0), .int (vi 9), .int (vi 10), .int (vi 11), .int (vi 12), .int (vi 13)])), ((a 3), .inl (T 0, 940, .inl (fi 0))), ((a 4), .inl (T 2, 27, .inr (.inl (fl 0)))), ((a 5), .inl (T 2, 9, .inr (.inl (fl 1)))), ((a 6), .inl (T 2, 9, .inr (.inl (fl 2)))), ((a 7), .inl (T 1, 9, .inl (fi 1))), ((a 8), .inl (T 1, 9, .inl (fi 2))), ((a 9), .inl (T 1, 9, .inl (fi 3))), ((a 10), .inl (T 1, 9, .inl (fi 4))), ((a 11), .inl (T 1, 81, .inl (fi 5)))]
set_option maxHeartbeats 8000000 in
set_option maxRecDepth 100000 in
theorem c_X8_readSoulLine (l : Launch) (D : va_G) (T : Nat → ClassId) (a ex : Nat → Nat) (fi : Nat → Nat → Int32) (fl : Nat → Nat → Int64) (vi : Nat → Int32) (vl : Nat → Int64) (kK kV : Nat → Nat) (sz : Nat) (hp0 : 0 ≤ (vi 1).toInt ∧ (vi 1).toInt ≤ 9) (hp1 : 0 ≤ (vi 2).toInt ∧ (vi 2).toInt ≤ 9) (hp2 : 0 ≤ (vi 4).toInt ∧ (vi 4).toInt ≤ 940) (hp3 : 0 ≤ (vi 5).toInt ∧ (vi 5).toInt ≤ 940) (hp4 : 0 ≤ (vi 6).toInt ∧ (vi 6).toInt ≤ 940) (hp5 : 0 ≤ (vi 8).toInt ∧ (vi 8).toInt ≤ 940) (hp6 : 0 ≤ (vi 13).toInt ∧ (vi 13).toInt ≤ 940) : Met l yX8_readSoulLine (xw yX8_readSoulLine cX8_readSoulLine 3 (some .boolean)) ({ frames := 5, cells := 0, slots := 0, locals := 129 }) (xPs D T kK kV [.ref (a 0)] sz (pre_X8_readSoulLine T a ex fi fl vi vl)) (va_Qi (fun r u => r = u) (xC D (va_A (pre_X8_readSoulLine T a ex fi fl vi vl) sz) (fun fj fm vj vm => [((a 0), .inr (8, [.ref (a 2), .ref (a 1), .int (vi 0)])), ((a 1), .inr (7, [.int (vi 1), .int (vj 8), .ref (a 5), .ref (ex 0), .ref (ex 1), .ref (ex 2), .ref (a 6), .ref (a 7), .ref (a 8), .ref (a 9), .ref (a 10), .ref (a 11)])), ((a 2), .inr (6, [.ref (a 3), .ref (a 4), .int (vi 3), .int (vi 4), .int (vi 5), .int (vj 4), .int (vj 0), .int (vj 1), .long (vm 0), .int (vj 3), .int (vj 2), .int (vj 7), .int (vj 5), .int (vj 6)])), ((a 3), .inl (T 0, 940, .inl (fi 0))), ((a 4), .inl (T 2, 27, .inr (.inl (fl 0)))), ((a 5), .inl (T 2, 9, .inr (.inl (fl 1)))), ((a 6), .inl (T 2, 9, .inr (.inl (fm 0)))), ((a 7), .inl (T 1, 9, .inl (fj 0))), ((a 8), .inl (T 1, 9, .inl (fj 1))), ((a 9), .inl (T 1, 9, .inl (fj 2))), ((a 10), .inl (T 1, 9, .inl (fj 3))), ((a 11), .inl (T 1, 81, .inl (fj 4)))]) (fun (r : Int32) (fj : Nat → Nat → Int32) (fm : Nat → Nat → Int64) (vj : Nat → Int32) (vm : Nat → Int64) => ((r = 1 ∧ (True)) ∨ (r = 0 ∧ (True))) ∧ (0 ≤ (vj 8).toInt ∧ (vj 8).toInt ≤ 9) ∧ (0 ≤ (vj 4).toInt ∧ (vj 4).toInt ≤ 940) ∧ (0 ≤ (vj 1).toInt ∧ (vj 1).toInt ≤ 940) ∧ (0 ≤ (vj 6).toInt ∧ (vj 6).toInt ≤ 940) ∧ (r.toInt = 1 → (vj 5).toInt = (vi 12).toInt) ∧ R_X8_readSoulLine fi fl vi vl r fj fm vj vm ∧ True)) (va_A (pre_X8_readSoulLine T a ex fi fl vi vl) sz)) 0 0 (va_A (pre_X8_readSoulLine T a ex fi fl vi vl) sz) := by
  refine xofW (cc := cX8_readSoulLine) (maxL := 3) (ret := (some .boolean)) (by decide) rfl ?_
  intro p e s m args below meth c s₁ R Q hR hQ B hml hv
  obtain ⟨rfl, hsz, hP, hK, hD0, hT⟩ := hv
  have hx := B.exec
  have hb := B.bytes
  have hr := B.returns
  have hts := atoms_spec (ws := xw yX8_readSoulLine cX8_readSoulLine 3 (some .boolean)) B.pre
  have htg : ∀ w ∈ xg, w.before _ s = true := fun w h => hts w (List.mem_cons_of_mem _ h)
  have hown : s.vm.findClass RX8 = some m.cls := findClass_of_methodNamed B.named
  have hlocks := B.notSynchronized
  subst hsz
  have hD := hD0.self (sz := s.heap.size)
  generalize hAe : va_A (pre_X8_readSoulLine T a ex fi fl vi vl) s.heap.size = A at hD hQ hT
  have hA : ∀ q : Nat, s.heap.size ≤ q → A q := fun q h => by rw [← hAe]; exact Or.inr h
  have hS : va_S A s.heap s.heap [] := va_S.rf
  replace hP : va_P D vwCl [((a 0), .inr (8, [.ref (a 2), .ref (a 1), .int (vi 0)])), ((a 1), .inr (7, [.int (vi 1), .int (vi 2), .ref (a 5), .ref (ex 0), .ref (ex 1), .ref (ex 2), .ref (a 6), .ref (a 7), .ref (a 8), .ref (a 9), .ref (a 10), .ref (a 11)])), ((a 2), .inr (6, [.ref (a 3), .ref (a 4), .int (vi 3), .int (vi 4), .int (vi 5), .int (vi 6), .int (vi 7), .int (vi 8), .long (vl 0), .int (vi 9), .int (vi 10), .int (vi 11), .int (vi 12), .int (vi 13)])), ((a 3), .inl (T 0, 940, .inl (fi 0))), ((a 4), .inl (T 2, 27, .inr (.inl (fl 0)))), ((a 5), .inl (T 2, 9, .inr (.inl (fl 1)))), ((a 6), .inl (T 2, 9, .inr (.inl (fl 2)))), ((a 7), .inl (T 1, 9, .inl (fi 1))), ((a 8), .inl (T 1, 9, .inl (fi 2))), ((a 9), .inl (T 1, 9, .inl (fi 3))), ((a 10), .inl (T 1, 9, .inl (fi 4))), ((a 11), .inl (T 1, 81, .inl (fi 5)))] s.heap := hP
  replace hD : va_D A [((a 0), .inr (8, [.ref (a 2), .ref (a 1), .int (vi 0)])), ((a 1), .inr (7, [.int (vi 1), .int (vi 2), .ref (a 5), .ref (ex 0), .ref (ex 1), .ref (ex 2), .ref (a 6), .ref (a 7), .ref (a 8), .ref (a 9), .ref (a 10), .ref (a 11)])), ((a 2), .inr (6, [.ref (a 3), .ref (a 4), .int (vi 3), .int (vi 4), .int (vi 5), .int (vi 6), .int (vi 7), .int (vi 8), .long (vl 0), .int (vi 9), .int (vi 10), .int (vi 11), .int (vi 12), .int (vi 13)])), ((a 3), .inl (T 0, 940, .inl (fi 0))), ((a 4), .inl (T 2, 27, .inr (.inl (fl 0)))), ((a 5), .inl (T 2, 9, .inr (.inl (fl 1)))), ((a 6), .inl (T 2, 9, .inr (.inl (fl 2)))), ((a 7), .inl (T 1, 9, .inl (fi 1))), ((a 8), .inl (T 1, 9, .inl (fi 2))), ((a 9), .inl (T 1, 9, .inl (fi 3))), ((a 10), .inl (T 1, 9, .inl (fi 4))), ((a 11), .inl (T 1, 81, .inl (fi 5)))] := hD
  have hl := lv_entry ([.ref (a 0)]) (n := 3) (Nat.le_of_ble_eq_true rfl)
  rw [lg_entry_eq]
  generalize (lg_sl ([.ref (a 0)]) ++ List.replicate (3 - (lg_sl ([.ref (a 0)])).length) Slot.unset).toArray = ls at hl ⊢
  replace hl : lv_has ls 3 [(0, .ref (a 0))] := hl
  refine lv_aload_n hx hb dX8_readSoulLine_0 rfl (lv_at hl 0 rfl) ?_
  refine va_get (D := D) (ci := 8) (v := .ref (a 1)) (C := RX8) (T := TX8) (N := 3) hx hb htg inX8 hown hK.1 hP 0 rfl rfl 1 (by decide) (htg _ kw_229) (fun _ h9 => h9) rfl dX8_readSoulLine_1 ?_
  refine va_getN (D := D) (ci := 7) (v := .int (vi 2)) (C := RX7) (T := TX7) (N := 12) hx hb htg inX7 hown hK.1 hP 1 rfl rfl 1 (by decide) (va_Nw.use rfl (hK.2.1 _ kn_166)) (fun _ h9 => h9) rfl dX8_readSoulLine_4 ?_
  refine lv_bipush (v := 9) hx hb dX8_readSoulLine_7 (by decide) ?_
  refine lv_icmp_lt (tgt := 21) hx hb dX8_readSoulLine_9 (by decide) (fun c9 => ?_) (fun c9 => ?_)
  · have c9 := xlt (k := 9) (by decide) c9
    refine lv_aload_n hx hb dX8_readSoulLine_21 rfl (lv_at hl 0 rfl) ?_
    refine va_get (D := D) (ci := 8) (v := .ref (a 2)) (C := RX8) (T := TX8) (N := 3) hx hb htg inX8 hown hK.1 hP 0 rfl rfl 0 (by decide) (htg _ kw_228) (fun _ h9 => h9) rfl dX8_readSoulLine_22 ?_
    obtain ⟨hC9, hPc, hDc, hFc⟩ := xcut (wc := (pre_X6_advance T (xa [(a 2), (a 3)]) (xa [(a 4)]) (xf [(fi 0)]) (xh []) (xv [(vi 3), (vi 4), (vi 5), (vi 6), (vi 7), (vi 8), (vi 9), (vi 10), (vi 11), (vi 12), (vi 13)]) (xl [(vl 0)]))) hP hD hS hA [2, 3] (by decide) rfl
    refine va_callv (va_runVN (As := []) (rest := []) ⟨hx, hb, hml, hown, htg⟩ (c_X6_advance l D T (xa [(a 2), (a 3)]) (xa [(a 4)]) (xf [(fi 0)]) (xh []) (xv [(vi 3), (vi 4), (vi 5), (vi 6), (vi 7), (vi 8), (vi 9), (vi 10), (vi 11), (vi 12), (vi 13)]) (xl [(vl 0)]) s.heap.size hp2 hp3 hp4 hp5 hp6) ⟨va_cnB 0 htg (xg_ok kw_577) rfl rfl rfl (hK.2.1 _ kn_595) (htg _ kw_2) (by decide +kernel) ⟨by rw [hR]; exact Nat.le_of_ble_eq_true rfl, by rw [hR]; exact Nat.le_of_ble_eq_true rfl⟩, htg _ kw_576, htg _ ks_6⟩ (xpreV hK hPc hDc (va_recv hK.1 hPc (ci := 6) (q0 := 0) rfl rfl)) rfl rfl hl.1 rfl (lv_room (Nat.le_of_ble_eq_true rfl)) dX8_readSoulLine_25 ⟨by rw [hR]; exact Nat.le_of_ble_eq_true rfl, by rw [hR]; exact Nat.le_of_ble_eq_true rfl⟩) hS (fun q _ h => hFc q h) hFc (fun u9 t H1 locs ht hvm hw hB hz1 hk1 hS => ?_)
    obtain ⟨fik, flk, vik, vlk, hP1, hD1, hG⟩ := hB
    rw [ht] at hP1
    obtain ⟨hP, hD⟩ := va_join (wr := [((a 0), .inr (8, [.ref (a 2), .ref (a 1), .int (vi 0)])), ((a 1), .inr (7, [.int (vi 1), .int (vi 2), .ref (a 5), .ref (ex 0), .ref (ex 1), .ref (ex 2), .ref (a 6), .ref (a 7), .ref (a 8), .ref (a 9), .ref (a 10), .ref (a 11)])), ((a 4), .inl (T 2, 27, .inr (.inl (fl 0)))), ((a 5), .inl (T 2, 9, .inr (.inl (fl 1)))), ((a 6), .inl (T 2, 9, .inr (.inl (fl 2)))), ((a 7), .inl (T 1, 9, .inl (fi 1))), ((a 8), .inl (T 1, 9, .inl (fi 2))), ((a 9), .inl (T 1, 9, .inl (fi 3))), ((a 10), .inl (T 1, 9, .inl (fi 4))), ((a 11), .inl (T 1, 81, .inl (fi 5)))]) (w1 := [((a 2), .inr (6, [.ref (a 3), .ref (a 4), .int (vi 3), .int (vi 4), .int (vi 5), .int (vik 4), .int (vik 0), .int (vik 1), .long (vlk 0), .int (vik 3), .int (vik 2), .int (vi 11), .int (vi 12), .int (vi 13)])), ((a 3), .inl (T 0, 940, .inl (fi 0)))]) hP hD [2, 3] [0, 1, 4, 5, 6, 7, 8, 9, 10, 11] hC9 rfl (by decide) (by decide) hk1 hFc hP1 hD1
    clear hPc hDc hFc hP1 hD1 hk1 hz1 hvm ht hC9
    generalize H1 = H at hP hS ⊢
    obtain ⟨hP, hD⟩ := (show xPD D A [((a 0), .inr (8, [.ref (a 2), .ref (a 1), .int (vi 0)])), ((a 1), .inr (7, [.int (vi 1), .int (vi 2), .ref (a 5), .ref (ex 0), .ref (ex 1), .ref (ex 2), .ref (a 6), .ref (a 7), .ref (a 8), .ref (a 9), .ref (a 10), .ref (a 11)])), ((a 4), .inl (T 2, 27, .inr (.inl (fl 0)))), ((a 5), .inl (T 2, 9, .inr (.inl (fl 1)))), ((a 6), .inl (T 2, 9, .inr (.inl (fl 2)))), ((a 7), .inl (T 1, 9, .inl (fi 1))), ((a 8), .inl (T 1, 9, .inl (fi 2))), ((a 9), .inl (T 1, 9, .inl (fi 3))), ((a 10), .inl (T 1, 9, .inl (fi 4))), ((a 11), .inl (T 1, 81, .inl (fi 5))), ((a 2), .inr (6, [.ref (a 3), .ref (a 4), .int (vi 3), .int (vi 4), .int (vi 5), .int (vik 4), .int (vik 0), .int (vik 1), .long (vlk 0), .int (vik 3), .int (vik 2), .int (vi 11), .int (vi 12), .int (vi 13)])), ((a 3), .inl (T 0, 940, .inl (fi 0)))] H from ⟨hP, hD⟩)
    obtain ⟨uk, eu9⟩ : ∃ z, z = u9 := ⟨_, rfl⟩
    subst eu9
    obtain ⟨gk_0, gk_1, gk_2, -⟩ := hG
    replace gk_2 : ∀ n m : Nat, (vi 4).toInt = (n : Int) → (vi 5).toInt = (m : Int) → (vi 6).toInt ≤ (vi 4).toInt → CC (trn (fi 0) n) n m ((vi 6).toInt).toNat (vi 4) (vi 5) (vik 0) (vik 1) (vik 4) (vlk 0) (vik 3) (vik 2) := (P_X6_advance gk_2 : _)
    replace gk_0 : 0 ≤ (vik 4).toInt ∧ (vik 4).toInt ≤ 940 := gk_0
    replace gk_1 : 0 ≤ (vik 1).toInt ∧ (vik 1).toInt ≤ 940 := gk_1
    refine lv_aload_n hx hb dX8_readSoulLine_28 rfl (lv_at hl 0 rfl) ?_
    refine va_get (D := D) (ci := 8) (v := .ref (a 2)) (C := RX8) (T := TX8) (N := 3) hx hb htg inX8 hown hK.1 hP 0 rfl rfl 0 (by decide) (htg _ kw_228) (fun _ h9 => h9) rfl dX8_readSoulLine_29 ?_
    refine va_getN (D := D) (ci := 6) (v := .long (vlk 0)) (C := RX6) (T := TX6) (N := 14) hx hb htg inX6 hown hK.1 hP 10 rfl rfl 8 (by decide) (va_Nw.use rfl (hK.2.1 _ kn_107)) (fun _ h9 => h9) rfl dX8_readSoulLine_32 ?_
    refine lv_lstore_n (lv' := [(1, .long (vlk 0)), (0, .ref (a 0))]) hx hb dX8_readSoulLine_35 rfl hl (by decide) rfl (fun ls hl => ?_)
    refine lv_aload_n hx hb dX8_readSoulLine_36 rfl (lv_at hl 1 rfl) ?_
    obtain ⟨hC9, hPc, hDc, hFc⟩ := xcut (wc := (pre_X8_passNewWord T (xa [(a 0), (a 2), (a 4), (a 1), (a 5), (a 6), (a 3)]) (xa [(ex 0), (ex 1), (ex 2), (a 7), (a 8), (a 9), (a 10), (a 11)]) (xf [(fi 0)]) (xh [(fl 0), (fl 1), (fl 2)]) (xv [(vi 0), (vi 3), (vi 4), (vi 5), (vik 4), (vik 0), (vik 1), (vik 3), (vik 2), (vi 11), (vi 12), (vi 13), (vi 1), (vi 2)]) (xl [(vlk 0)]))) hP hD hS hA [0, 10, 2, 1, 3, 4, 11] (by decide) rfl
    refine va_calli (va_runV (As := []) (rest := []) ⟨hx, hb, hml, hown, htg⟩ (c_X8_passNewWord l D T (xa [(a 0), (a 2), (a 4), (a 1), (a 5), (a 6), (a 3)]) (xa [(ex 0), (ex 1), (ex 2), (a 7), (a 8), (a 9), (a 10), (a 11)]) (xf [(fi 0)]) (xh [(fl 0), (fl 1), (fl 2)]) (xv [(vi 0), (vi 3), (vi 4), (vi 5), (vik 4), (vik 0), (vik 1), (vik 3), (vik 2), (vi 11), (vi 12), (vi 13), (vi 1), (vi 2)]) (xl [(vlk 0)]) H.size hp2 hp3 gk_0 gk_1 hp6 hp0 hp1) ⟨callB_of 0 htg (xg_ok kw_599) rfl rfl rfl (htg _ kw_8) (htg _ kw_596) (by decide +kernel) ⟨by rw [hR]; exact Nat.le_of_ble_eq_true rfl, by rw [hR]; exact Nat.le_of_ble_eq_true rfl⟩, htg _ kw_598, htg _ ks_11⟩ (xpreV hK hPc hDc (va_recv hK.1 hPc (ci := 8) (q0 := 0) rfl rfl)) rfl rfl hl.1 rfl (lv_room (Nat.le_of_ble_eq_true rfl)) dX8_readSoulLine_37 ⟨by rw [hR]; exact Nat.le_of_ble_eq_true rfl, by rw [hR]; exact Nat.le_of_ble_eq_true rfl⟩) hS (fun q _ h => hFc q h) hFc (fun r9 u9 t H1 locs ht hvm hw hB hz1 hk1 hS => ?_)
    subst hw
    obtain ⟨fik_1, flk_1, vik_1, vlk_1, hP1, hD1, hG⟩ := hB
    rw [ht] at hP1
    obtain ⟨hP, hD⟩ := va_join (wr := [((a 7), .inl (T 1, 9, .inl (fi 1))), ((a 8), .inl (T 1, 9, .inl (fi 2))), ((a 9), .inl (T 1, 9, .inl (fi 3))), ((a 10), .inl (T 1, 9, .inl (fi 4))), ((a 11), .inl (T 1, 81, .inl (fi 5)))]) (w1 := [((a 0), .inr (8, [.ref (a 2), .ref (a 1), .int (vi 0)])), ((a 2), .inr (6, [.ref (a 3), .ref (a 4), .int (vi 3), .int (vi 4), .int (vi 5), .int (vik_1 6), .int (vik_1 2), .int (vik_1 3), .long (vlk_1 0), .int (vik_1 5), .int (vik_1 4), .int (vi 11), .int (vik_1 0), .int (vik_1 1)])), ((a 4), .inl (T 2, 27, .inr (.inl (fl 0)))), ((a 1), .inr (7, [.int (vi 1), .int (vi 2), .ref (a 5), .ref (ex 0), .ref (ex 1), .ref (ex 2), .ref (a 6), .ref (a 7), .ref (a 8), .ref (a 9), .ref (a 10), .ref (a 11)])), ((a 5), .inl (T 2, 9, .inr (.inl (fl 1)))), ((a 6), .inl (T 2, 9, .inr (.inl (fl 2)))), ((a 3), .inl (T 0, 940, .inl (fi 0)))]) hP hD [0, 10, 2, 1, 3, 4, 11] [5, 6, 7, 8, 9] hC9 rfl (by decide) (by decide) hk1 hFc hP1 hD1
    obtain ⟨rk_1, er9⟩ : ∃ z, z = r9 := ⟨_, rfl⟩
    subst er9
    clear hPc hDc hFc hP1 hD1 hk1 hz1 hvm ht hC9
    generalize H1 = H at hP hS ⊢
    obtain ⟨hP, hD⟩ := (show xPD D A [((a 7), .inl (T 1, 9, .inl (fi 1))), ((a 8), .inl (T 1, 9, .inl (fi 2))), ((a 9), .inl (T 1, 9, .inl (fi 3))), ((a 10), .inl (T 1, 9, .inl (fi 4))), ((a 11), .inl (T 1, 81, .inl (fi 5))), ((a 0), .inr (8, [.ref (a 2), .ref (a 1), .int (vi 0)])), ((a 2), .inr (6, [.ref (a 3), .ref (a 4), .int (vi 3), .int (vi 4), .int (vi 5), .int (vik_1 6), .int (vik_1 2), .int (vik_1 3), .long (vlk_1 0), .int (vik_1 5), .int (vik_1 4), .int (vi 11), .int (vik_1 0), .int (vik_1 1)])), ((a 4), .inl (T 2, 27, .inr (.inl (fl 0)))), ((a 1), .inr (7, [.int (vi 1), .int (vi 2), .ref (a 5), .ref (ex 0), .ref (ex 1), .ref (ex 2), .ref (a 6), .ref (a 7), .ref (a 8), .ref (a 9), .ref (a 10), .ref (a 11)])), ((a 5), .inl (T 2, 9, .inr (.inl (fl 1)))), ((a 6), .inl (T 2, 9, .inr (.inl (fl 2)))), ((a 3), .inl (T 0, 940, .inl (fi 0)))] H from ⟨hP, hD⟩)
    obtain ⟨gk_1_0, gk_1_1, gk_1_2, gk_1_3, gk_1_4, gk_1_5, -⟩ := hG
    replace gk_1_5 : ∀ n m t : Nat, CC (trn (fi 0) n) n m t (vi 4) (vi 5) (vik 0) (vik 1) (vik 4) (vlk 0) (vik 3) (vik 2) → ∀ (H : Nat → Int) (N : Nat → Int64), (RWn (ownB (fl 0)) (vi 1) (fl 1) H N) → (RWs (ownB (fl 0)) (vi 2) (fl 2) H N) → (rk_1.toInt = 1 ∧ (fNew (trn (fi 0) n) n m (ownB (fl 0)) H N t) = 0 ∧ (wMay (trn (fi 0) n) n m (ownB (fl 0)) t) ∧ CC (trn (fi 0) n) n m (sX (trn (fi 0) n) n m t) (vi 4) (vi 5) (vik_1 2) (vik_1 3) (vik_1 6) (vlk_1 0) (vik_1 5) (vik_1 4)) ∨ (rk_1.toInt = 0 ∧ ¬ (fNew (trn (fi 0) n) n m (ownB (fl 0)) H N t) = 0 ∧ (vik_1 0).toInt = (fNew (trn (fi 0) n) n m (ownB (fl 0)) H N t) ∧ (vik_1 1).toInt = ((sPn (trn (fi 0) n) n m t) : Int)) := (P_X8_passNewWord gk_1_5 : _)
    replace gk_1_1 : 0 ≤ (vik_1 6).toInt ∧ (vik_1 6).toInt ≤ 940 := gk_1_1
    replace gk_1_2 : 0 ≤ (vik_1 3).toInt ∧ (vik_1 3).toInt ≤ 940 := gk_1_2
    replace gk_1_3 : 0 ≤ (vik_1 1).toInt ∧ (vik_1 1).toInt ≤ 940 := gk_1_3
    replace gk_1_4 : rk_1.toInt = 1 → (vik_1 0).toInt = (vi 12).toInt := gk_1_4
    rcases (show (rk_1 = 1 ∧ (True)) ∨ (rk_1 = 0 ∧ (True)) from gk_1_0) with ⟨er9, gk_1_0⟩ | ⟨er9, gk_1_0⟩
    · refine xz_i 1 er9 ?_
      have tb : rk_1.toInt = 1 := by rw [er9]; decide
      refine lv_if_eq (tgt := 57) hx hb dX8_readSoulLine_40 (by decide) (fun c => absurd c (by decide)) (fun _ => ?_)
      refine lv_aload_n hx hb dX8_readSoulLine_43 rfl (lv_at hl 1 rfl) ?_
      refine va_get (D := D) (ci := 8) (v := .ref (a 2)) (C := RX8) (T := TX8) (N := 3) hx hb htg inX8 hown hK.1 hP 5 rfl rfl 0 (by decide) (htg _ kw_228) (fun _ h9 => h9) rfl dX8_readSoulLine_44 ?_
      refine lv_iconst (v := 0) hx hb dX8_readSoulLine_47 (by decide) ?_
      refine lv_sipush (v := 999) hx hb dX8_readSoulLine_48 (by decide) ?_
      obtain ⟨hC9, hPc, hDc, hFc⟩ := xcut (wc := (pre_X6_passNumber T (xa [(a 2), (a 3)]) (xa [(a 4)]) (xf [(fi 0)]) (xh []) (xv [0, 999, (vi 3), (vi 4), (vi 5), (vik_1 6), (vik_1 2), (vik_1 3), (vik_1 5), (vik_1 4), (vi 11), (vik_1 0), (vik_1 1)]) (xl [(vlk_1 0)]))) hP hD hS hA [6, 11] (by decide) rfl
      refine va_calli (va_runVN (As := [.int 0, .int 999]) (rest := []) ⟨hx, hb, hml, hown, htg⟩ (c_X6_passNumber l D T (xa [(a 2), (a 3)]) (xa [(a 4)]) (xf [(fi 0)]) (xh []) (xv [0, 999, (vi 3), (vi 4), (vi 5), (vik_1 6), (vik_1 2), (vik_1 3), (vik_1 5), (vik_1 4), (vi 11), (vik_1 0), (vik_1 1)]) (xl [(vlk_1 0)]) H.size hp2 hp3 gk_1_1 gk_1_2 gk_1_3) ⟨va_cnB 2 htg (xg_ok kw_622) rfl rfl rfl (hK.2.1 _ kn_619) (htg _ kw_2) (by decide +kernel) ⟨by rw [hR]; exact Nat.le_of_ble_eq_true rfl, by rw [hR]; exact Nat.le_of_ble_eq_true rfl⟩, htg _ kw_621, htg _ ks_16⟩ (xpreV hK hPc hDc (va_recv hK.1 hPc (ci := 6) (q0 := 0) rfl rfl)) rfl rfl hl.1 rfl (lv_room (Nat.le_of_ble_eq_true rfl)) dX8_readSoulLine_51 ⟨by rw [hR]; exact Nat.le_of_ble_eq_true rfl, by rw [hR]; exact Nat.le_of_ble_eq_true rfl⟩) hS (fun q _ h => hFc q h) hFc (fun r9 u9 t H1 locs ht hvm hw hB hz1 hk1 hS => ?_)
      subst hw
      obtain ⟨fik_2, flk_2, vik_2, vlk_2, hP1, hD1, hG⟩ := hB
      rw [ht] at hP1
      obtain ⟨hP, hD⟩ := va_join (wr := [((a 7), .inl (T 1, 9, .inl (fi 1))), ((a 8), .inl (T 1, 9, .inl (fi 2))), ((a 9), .inl (T 1, 9, .inl (fi 3))), ((a 10), .inl (T 1, 9, .inl (fi 4))), ((a 11), .inl (T 1, 81, .inl (fi 5))), ((a 0), .inr (8, [.ref (a 2), .ref (a 1), .int (vi 0)])), ((a 4), .inl (T 2, 27, .inr (.inl (fl 0)))), ((a 1), .inr (7, [.int (vi 1), .int (vi 2), .ref (a 5), .ref (ex 0), .ref (ex 1), .ref (ex 2), .ref (a 6), .ref (a 7), .ref (a 8), .ref (a 9), .ref (a 10), .ref (a 11)])), ((a 5), .inl (T 2, 9, .inr (.inl (fl 1)))), ((a 6), .inl (T 2, 9, .inr (.inl (fl 2))))]) (w1 := [((a 2), .inr (6, [.ref (a 3), .ref (a 4), .int (vi 3), .int (vi 4), .int (vi 5), .int (vik_2 7), .int (vik_2 3), .int (vik_2 4), .long (vlk_2 0), .int (vik_2 6), .int (vik_2 5), .int (vik_2 2), .int (vik_2 0), .int (vik_2 1)])), ((a 3), .inl (T 0, 940, .inl (fi 0)))]) hP hD [6, 11] [0, 1, 2, 3, 4, 5, 7, 8, 9, 10] hC9 rfl (by decide) (by decide) hk1 hFc hP1 hD1
      obtain ⟨rk_2, er9⟩ : ∃ z, z = r9 := ⟨_, rfl⟩
      subst er9
      clear hPc hDc hFc hP1 hD1 hk1 hz1 hvm ht hC9
      generalize H1 = H at hP hS ⊢
      obtain ⟨hP, hD⟩ := (show xPD D A [((a 7), .inl (T 1, 9, .inl (fi 1))), ((a 8), .inl (T 1, 9, .inl (fi 2))), ((a 9), .inl (T 1, 9, .inl (fi 3))), ((a 10), .inl (T 1, 9, .inl (fi 4))), ((a 11), .inl (T 1, 81, .inl (fi 5))), ((a 0), .inr (8, [.ref (a 2), .ref (a 1), .int (vi 0)])), ((a 4), .inl (T 2, 27, .inr (.inl (fl 0)))), ((a 1), .inr (7, [.int (vi 1), .int (vi 2), .ref (a 5), .ref (ex 0), .ref (ex 1), .ref (ex 2), .ref (a 6), .ref (a 7), .ref (a 8), .ref (a 9), .ref (a 10), .ref (a 11)])), ((a 5), .inl (T 2, 9, .inr (.inl (fl 1)))), ((a 6), .inl (T 2, 9, .inr (.inl (fl 2)))), ((a 2), .inr (6, [.ref (a 3), .ref (a 4), .int (vi 3), .int (vi 4), .int (vi 5), .int (vik_2 7), .int (vik_2 3), .int (vik_2 4), .long (vlk_2 0), .int (vik_2 6), .int (vik_2 5), .int (vik_2 2), .int (vik_2 0), .int (vik_2 1)])), ((a 3), .inl (T 0, 940, .inl (fi 0)))] H from ⟨hP, hD⟩)
      obtain ⟨gk_2_0, gk_2_1, gk_2_2, gk_2_3, gk_2_4, gk_2_5, -⟩ := hG
      replace gk_2_5 : ∀ n m t : Nat, CC (trn (fi 0) n) n m t (vi 4) (vi 5) (vik_1 2) (vik_1 3) (vik_1 6) (vlk_1 0) (vik_1 5) (vik_1 4) → (rk_2.toInt = 1 ∧ (fNum (trn (fi 0) n) n m (0 : Int32).toInt (999 : Int32).toInt t) = 0 ∧ (vik_2 2).toInt = (sU (trn (fi 0) n) n m t) ∧ (sK (trn (fi 0) n) n m t) = 2 ∧ (0 : Int32).toInt ≤ (sU (trn (fi 0) n) n m t) ∧ (sU (trn (fi 0) n) n m t) ≤ (999 : Int32).toInt ∧ CC (trn (fi 0) n) n m (sX (trn (fi 0) n) n m t) (vi 4) (vi 5) (vik_2 3) (vik_2 4) (vik_2 7) (vlk_2 0) (vik_2 6) (vik_2 5)) ∨ (rk_2.toInt = 0 ∧ ¬ (fNum (trn (fi 0) n) n m (0 : Int32).toInt (999 : Int32).toInt t) = 0 ∧ (vik_2 0).toInt = (fNum (trn (fi 0) n) n m (0 : Int32).toInt (999 : Int32).toInt t) ∧ (vik_2 1).toInt = ((sPn (trn (fi 0) n) n m t) : Int)) := (P_X6_passNumber gk_2_5 : _)
      rw [show (0 : Int32).toInt = (0 : Int) by decide] at gk_2_5
      rw [show (999 : Int32).toInt = (999 : Int) by decide] at gk_2_5
      replace gk_2_1 : 0 ≤ (vik_2 7).toInt ∧ (vik_2 7).toInt ≤ 940 := gk_2_1
      replace gk_2_2 : 0 ≤ (vik_2 4).toInt ∧ (vik_2 4).toInt ≤ 940 := gk_2_2
      replace gk_2_3 : 0 ≤ (vik_2 1).toInt ∧ (vik_2 1).toInt ≤ 940 := gk_2_3
      replace gk_2_4 : rk_2.toInt = 1 → (vik_2 0).toInt = (vik_1 0).toInt := gk_2_4
      rcases (show (rk_2 = 1 ∧ (True)) ∨ (rk_2 = 0 ∧ (True)) from gk_2_0) with ⟨er9, gk_2_0⟩ | ⟨er9, gk_2_0⟩
      · refine xz_i 1 er9 ?_
        have tb_1 : rk_2.toInt = 1 := by rw [er9]; decide
        refine lv_if_ne (tgt := 59) hx hb dX8_readSoulLine_54 (by decide) (fun _ => ?_) (fun c => absurd c (by decide))
        refine lv_aload_n hx hb dX8_readSoulLine_59 rfl (lv_at hl 1 rfl) ?_
        refine va_get (D := D) (ci := 8) (v := .ref (a 1)) (C := RX8) (T := TX8) (N := 3) hx hb htg inX8 hown hK.1 hP 5 rfl rfl 1 (by decide) (htg _ kw_229) (fun _ h9 => h9) rfl dX8_readSoulLine_60 ?_
        refine lv_lload_n hx hb dX8_readSoulLine_63 rfl (lv_at hl 0 rfl) ?_
        refine lv_aload_n hx hb dX8_readSoulLine_64 rfl (lv_at hl 1 rfl) ?_
        refine va_get (D := D) (ci := 8) (v := .ref (a 2)) (C := RX8) (T := TX8) (N := 3) hx hb htg inX8 hown hK.1 hP 5 rfl rfl 0 (by decide) (htg _ kw_228) (fun _ h9 => h9) rfl dX8_readSoulLine_65 ?_
        refine va_getN (D := D) (ci := 6) (v := .int (vik_2 2)) (C := RX6) (T := TX6) (N := 14) hx hb htg inX6 hown hK.1 hP 10 rfl rfl 11 (by decide) (va_Nw.use rfl (hK.2.1 _ kn_114)) (fun _ h9 => h9) rfl dX8_readSoulLine_68 ?_
        obtain ⟨hC9, hPc, hDc, hFc⟩ := xcut (wc := (pre_X7_addSoul T (xa [(a 1), (a 6), (a 7), (a 8), (a 9), (a 10), (a 11)]) (xa [(a 5), (ex 0), (ex 1), (ex 2)]) (xf [(fi 1), (fi 2), (fi 3), (fi 4), (fi 5)]) (xh [(fl 2)]) (xv [(vik_2 2), (vi 1), (vi 2)]) (xl [(vlk 0)]))) hP hD hS hA [7, 9, 0, 1, 2, 3, 4] (by decide) rfl
        refine va_callv (va_runVN (As := [.long (vlk 0), .int (vik_2 2)]) (rest := []) ⟨hx, hb, hml, hown, htg⟩ (c_X7_addSoul l D T (xa [(a 1), (a 6), (a 7), (a 8), (a 9), (a 10), (a 11)]) (xa [(a 5), (ex 0), (ex 1), (ex 2)]) (xf [(fi 1), (fi 2), (fi 3), (fi 4), (fi 5)]) (xh [(fl 2)]) (xv [(vik_2 2), (vi 1), (vi 2)]) (xl [(vlk 0)]) H.size hp0 hp1) ⟨va_cnB 2 htg (xg_ok kw_651) rfl rfl rfl (hK.2.1 _ kn_648) (htg _ kw_7) (by decide +kernel) ⟨by rw [hR]; exact Nat.le_of_ble_eq_true rfl, by rw [hR]; exact Nat.le_of_ble_eq_true rfl⟩, htg _ kw_650, htg _ ks_22⟩ (xpreV hK hPc hDc (va_recv hK.1 hPc (ci := 7) (q0 := 0) rfl rfl)) rfl rfl hl.1 rfl (lv_room (Nat.le_of_ble_eq_true rfl)) dX8_readSoulLine_71 ⟨by rw [hR]; exact Nat.le_of_ble_eq_true rfl, by rw [hR]; exact Nat.le_of_ble_eq_true rfl⟩) hS (fun q _ h => hFc q h) hFc (fun u9 t H1 locs ht hvm hw hB hz1 hk1 hS => ?_)
        obtain ⟨fik_3, flk_3, vik_3, vlk_3, hP1, hD1, hG⟩ := hB
        rw [ht] at hP1
        obtain ⟨hP, hD⟩ := va_join (wr := [((a 0), .inr (8, [.ref (a 2), .ref (a 1), .int (vi 0)])), ((a 4), .inl (T 2, 27, .inr (.inl (fl 0)))), ((a 5), .inl (T 2, 9, .inr (.inl (fl 1)))), ((a 2), .inr (6, [.ref (a 3), .ref (a 4), .int (vi 3), .int (vi 4), .int (vi 5), .int (vik_2 7), .int (vik_2 3), .int (vik_2 4), .long (vlk_2 0), .int (vik_2 6), .int (vik_2 5), .int (vik_2 2), .int (vik_2 0), .int (vik_2 1)])), ((a 3), .inl (T 0, 940, .inl (fi 0)))]) (w1 := [((a 1), .inr (7, [.int (vi 1), .int (vik_3 0), .ref (a 5), .ref (ex 0), .ref (ex 1), .ref (ex 2), .ref (a 6), .ref (a 7), .ref (a 8), .ref (a 9), .ref (a 10), .ref (a 11)])), ((a 6), .inl (T 2, 9, .inr (.inl (flk_3 0)))), ((a 7), .inl (T 1, 9, .inl (fik_3 0))), ((a 8), .inl (T 1, 9, .inl (fik_3 1))), ((a 9), .inl (T 1, 9, .inl (fik_3 2))), ((a 10), .inl (T 1, 9, .inl (fik_3 3))), ((a 11), .inl (T 1, 81, .inl (fik_3 4)))]) hP hD [7, 9, 0, 1, 2, 3, 4] [5, 6, 8, 10, 11] hC9 rfl (by decide) (by decide) hk1 hFc hP1 hD1
        clear hPc hDc hFc hP1 hD1 hk1 hz1 hvm ht hC9
        generalize H1 = H at hP hS ⊢
        obtain ⟨hP, hD⟩ := (show xPD D A [((a 0), .inr (8, [.ref (a 2), .ref (a 1), .int (vi 0)])), ((a 4), .inl (T 2, 27, .inr (.inl (fl 0)))), ((a 5), .inl (T 2, 9, .inr (.inl (fl 1)))), ((a 2), .inr (6, [.ref (a 3), .ref (a 4), .int (vi 3), .int (vi 4), .int (vi 5), .int (vik_2 7), .int (vik_2 3), .int (vik_2 4), .long (vlk_2 0), .int (vik_2 6), .int (vik_2 5), .int (vik_2 2), .int (vik_2 0), .int (vik_2 1)])), ((a 3), .inl (T 0, 940, .inl (fi 0))), ((a 1), .inr (7, [.int (vi 1), .int (vik_3 0), .ref (a 5), .ref (ex 0), .ref (ex 1), .ref (ex 2), .ref (a 6), .ref (a 7), .ref (a 8), .ref (a 9), .ref (a 10), .ref (a 11)])), ((a 6), .inl (T 2, 9, .inr (.inl (flk_3 0)))), ((a 7), .inl (T 1, 9, .inl (fik_3 0))), ((a 8), .inl (T 1, 9, .inl (fik_3 1))), ((a 9), .inl (T 1, 9, .inl (fik_3 2))), ((a 10), .inl (T 1, 9, .inl (fik_3 3))), ((a 11), .inl (T 1, 81, .inl (fik_3 4)))] H from ⟨hP, hD⟩)
        obtain ⟨uk_3, eu9⟩ : ∃ z, z = u9 := ⟨_, rfl⟩
        subst eu9
        obtain ⟨gk_3_0, gk_3_1, -⟩ := hG
        replace gk_3_1 : (vi 2).toInt < 9 → (flk_3 0) = vp_updL (fl 2) ((vi 2)).toNatClampNeg (vlk 0) ∧ (fik_3 1) = upd (fi 2) ((vi 2)).toNatClampNeg (-1) ∧ (fik_3 2) = upd (fi 3) ((vi 2)).toNatClampNeg (-1) ∧ (fik_3 3) = upd (fi 4) ((vi 2)).toNatClampNeg (-1) ∧ (vik_3 0).toInt = (vi 2).toInt + 1 ∧ ∀ j : Nat, (fik_3 4) j = if 9 * (vi 2).toInt ≤ (j : Int) ∧ (j : Int) < 9 * (vi 2).toInt + 9 then 0 else (fi 5) j := (P_X7_addSoul gk_3_1 : _)
        replace gk_3_0 : 0 ≤ (vik_3 0).toInt ∧ (vik_3 0).toInt ≤ 9 := gk_3_0
        refine lv_aload_n hx hb dX8_readSoulLine_74 rfl (lv_at hl 1 rfl) ?_
        refine va_get (D := D) (ci := 8) (v := .ref (a 2)) (C := RX8) (T := TX8) (N := 3) hx hb htg inX8 hown hK.1 hP 0 rfl rfl 0 (by decide) (htg _ kw_228) (fun _ h9 => h9) rfl dX8_readSoulLine_75 ?_
        refine va_ldcS hx hb hown (hT.1 7 (by decide)) dX8_readSoulLine_78 ?_
        obtain ⟨hC9, hPc, hDc, hFc⟩ := xcut (wc := (pre_X6_isWord_25 T (xa [(a 2)]) (xa [(a 3), (a 4)]) (xf []) (xh []) (xv [(vi 3), (vi 4), (vi 5), (vik_2 7), (vik_2 3), (vik_2 4), (vik_2 6), (vik_2 5), (vik_2 2), (vik_2 0), (vik_2 1)]) (xl [(vlk_2 0)]))) hP hD hS hA [3] (by decide) rfl
        refine va_calli (va_runVN (As := [.ref (kK 7)]) (rest := []) ⟨hx, hb, hml, hown, htg⟩ (c_X6_isWord_25 l D T (xa [(a 2)]) (xa [(a 3), (a 4)]) (xf []) (xh []) (xv [(vi 3), (vi 4), (vi 5), (vik_2 7), (vik_2 3), (vik_2 4), (vik_2 6), (vik_2 5), (vik_2 2), (vik_2 0), (vik_2 1)]) (xl [(vlk_2 0)]) kK kV H.size hp2 hp3 gk_2_1 gk_2_2 gk_2_3) ⟨va_cnB 1 htg (xg_ok kw_586) rfl rfl rfl (hK.2.1 _ kn_583) (htg _ kw_2) (by decide +kernel) ⟨by rw [hR]; exact Nat.le_of_ble_eq_true rfl, by rw [hR]; exact Nat.le_of_ble_eq_true rfl⟩, htg _ kw_585, htg _ ks_8⟩ (xpreVs hK hPc hDc hT hFc hS (va_recv hK.1 hPc (ci := 6) (q0 := 0) rfl rfl)) rfl rfl hl.1 rfl (lv_room (Nat.le_of_ble_eq_true rfl)) dX8_readSoulLine_80 ⟨by rw [hR]; exact Nat.le_of_ble_eq_true rfl, by rw [hR]; exact Nat.le_of_ble_eq_true rfl⟩) hS (fun q _ h => hFc q h) hFc (fun r9 u9 t H1 locs ht hvm hw hB hz1 hk1 hS => ?_)
        subst hw
        obtain ⟨fik_4, flk_4, vik_4, vlk_4, hP1, hD1, hG⟩ := hB
        rw [ht] at hP1
        obtain ⟨hP, hD⟩ := va_join (wr := [((a 0), .inr (8, [.ref (a 2), .ref (a 1), .int (vi 0)])), ((a 4), .inl (T 2, 27, .inr (.inl (fl 0)))), ((a 5), .inl (T 2, 9, .inr (.inl (fl 1)))), ((a 3), .inl (T 0, 940, .inl (fi 0))), ((a 1), .inr (7, [.int (vi 1), .int (vik_3 0), .ref (a 5), .ref (ex 0), .ref (ex 1), .ref (ex 2), .ref (a 6), .ref (a 7), .ref (a 8), .ref (a 9), .ref (a 10), .ref (a 11)])), ((a 6), .inl (T 2, 9, .inr (.inl (flk_3 0)))), ((a 7), .inl (T 1, 9, .inl (fik_3 0))), ((a 8), .inl (T 1, 9, .inl (fik_3 1))), ((a 9), .inl (T 1, 9, .inl (fik_3 2))), ((a 10), .inl (T 1, 9, .inl (fik_3 3))), ((a 11), .inl (T 1, 81, .inl (fik_3 4)))]) (w1 := [((a 2), .inr (6, [.ref (a 3), .ref (a 4), .int (vi 3), .int (vi 4), .int (vi 5), .int (vik_2 7), .int (vik_2 3), .int (vik_2 4), .long (vlk_2 0), .int (vik_2 6), .int (vik_2 5), .int (vik_2 2), .int (vik_2 0), .int (vik_2 1)]))]) hP hD [3] [0, 1, 2, 4, 5, 6, 7, 8, 9, 10, 11] hC9 rfl (by decide) (by decide) hk1 hFc hP1 hD1
        obtain ⟨rk_4, er9⟩ : ∃ z, z = r9 := ⟨_, rfl⟩
        subst er9
        clear hPc hDc hFc hP1 hD1 hk1 hz1 hvm ht hC9
        generalize H1 = H at hP hS ⊢
        obtain ⟨hP, hD⟩ := (show xPD D A [((a 0), .inr (8, [.ref (a 2), .ref (a 1), .int (vi 0)])), ((a 4), .inl (T 2, 27, .inr (.inl (fl 0)))), ((a 5), .inl (T 2, 9, .inr (.inl (fl 1)))), ((a 3), .inl (T 0, 940, .inl (fi 0))), ((a 1), .inr (7, [.int (vi 1), .int (vik_3 0), .ref (a 5), .ref (ex 0), .ref (ex 1), .ref (ex 2), .ref (a 6), .ref (a 7), .ref (a 8), .ref (a 9), .ref (a 10), .ref (a 11)])), ((a 6), .inl (T 2, 9, .inr (.inl (flk_3 0)))), ((a 7), .inl (T 1, 9, .inl (fik_3 0))), ((a 8), .inl (T 1, 9, .inl (fik_3 1))), ((a 9), .inl (T 1, 9, .inl (fik_3 2))), ((a 10), .inl (T 1, 9, .inl (fik_3 3))), ((a 11), .inl (T 1, 81, .inl (fik_3 4))), ((a 2), .inr (6, [.ref (a 3), .ref (a 4), .int (vi 3), .int (vi 4), .int (vi 5), .int (vik_2 7), .int (vik_2 3), .int (vik_2 4), .long (vlk_2 0), .int (vik_2 6), .int (vik_2 5), .int (vik_2 2), .int (vik_2 0), .int (vik_2 1)]))] H from ⟨hP, hD⟩)
        obtain ⟨gk_4_0, gk_4_1, -⟩ := hG
        replace gk_4_1 : DJ (rk_4.toInt = 1 ∧ (vik_2 3).toInt = 1 ∧ (vlk_2 0) = (109270082020708 : Int64)) (rk_4.toInt = 0 ∧ ¬ ((vik_2 3).toInt = 1 ∧ (vlk_2 0) = (109270082020708 : Int64))) := (P_X6_isWord_25 gk_4_1 : _)
        rcases (show (rk_4 = 1 ∧ (True)) ∨ (rk_4 = 0 ∧ (True)) from gk_4_0) with ⟨er9, gk_4_0⟩ | ⟨er9, gk_4_0⟩
        · refine xz_i 1 er9 ?_
          have tb_2 : rk_4.toInt = 1 := by rw [er9]; decide
          refine lv_if_ne (tgt := 88) hx hb dX8_readSoulLine_83 (by decide) (fun _ => ?_) (fun c => absurd c (by decide))
          refine lv_aload_n hx hb dX8_readSoulLine_88 rfl (lv_at hl 1 rfl) ?_
          refine va_get (D := D) (ci := 8) (v := .ref (a 2)) (C := RX8) (T := TX8) (N := 3) hx hb htg inX8 hown hK.1 hP 0 rfl rfl 0 (by decide) (htg _ kw_228) (fun _ h9 => h9) rfl dX8_readSoulLine_89 ?_
          obtain ⟨hC9, hPc, hDc, hFc⟩ := xcut (wc := (pre_X6_advance T (xa [(a 2), (a 3)]) (xa [(a 4)]) (xf [(fi 0)]) (xh []) (xv [(vi 3), (vi 4), (vi 5), (vik_2 7), (vik_2 3), (vik_2 4), (vik_2 6), (vik_2 5), (vik_2 2), (vik_2 0), (vik_2 1)]) (xl [(vlk_2 0)]))) hP hD hS hA [11, 3] (by decide) rfl
          refine va_callv (va_runVN (As := []) (rest := []) ⟨hx, hb, hml, hown, htg⟩ (c_X6_advance l D T (xa [(a 2), (a 3)]) (xa [(a 4)]) (xf [(fi 0)]) (xh []) (xv [(vi 3), (vi 4), (vi 5), (vik_2 7), (vik_2 3), (vik_2 4), (vik_2 6), (vik_2 5), (vik_2 2), (vik_2 0), (vik_2 1)]) (xl [(vlk_2 0)]) H.size hp2 hp3 gk_2_1 gk_2_2 gk_2_3) ⟨va_cnB 0 htg (xg_ok kw_577) rfl rfl rfl (hK.2.1 _ kn_595) (htg _ kw_2) (by decide +kernel) ⟨by rw [hR]; exact Nat.le_of_ble_eq_true rfl, by rw [hR]; exact Nat.le_of_ble_eq_true rfl⟩, htg _ kw_576, htg _ ks_6⟩ (xpreV hK hPc hDc (va_recv hK.1 hPc (ci := 6) (q0 := 0) rfl rfl)) rfl rfl hl.1 rfl (lv_room (Nat.le_of_ble_eq_true rfl)) dX8_readSoulLine_92 ⟨by rw [hR]; exact Nat.le_of_ble_eq_true rfl, by rw [hR]; exact Nat.le_of_ble_eq_true rfl⟩) hS (fun q _ h => hFc q h) hFc (fun u9 t H1 locs ht hvm hw hB hz1 hk1 hS => ?_)
          obtain ⟨fik_5, flk_5, vik_5, vlk_5, hP1, hD1, hG⟩ := hB
          rw [ht] at hP1
          obtain ⟨hP, hD⟩ := va_join (wr := [((a 0), .inr (8, [.ref (a 2), .ref (a 1), .int (vi 0)])), ((a 4), .inl (T 2, 27, .inr (.inl (fl 0)))), ((a 5), .inl (T 2, 9, .inr (.inl (fl 1)))), ((a 1), .inr (7, [.int (vi 1), .int (vik_3 0), .ref (a 5), .ref (ex 0), .ref (ex 1), .ref (ex 2), .ref (a 6), .ref (a 7), .ref (a 8), .ref (a 9), .ref (a 10), .ref (a 11)])), ((a 6), .inl (T 2, 9, .inr (.inl (flk_3 0)))), ((a 7), .inl (T 1, 9, .inl (fik_3 0))), ((a 8), .inl (T 1, 9, .inl (fik_3 1))), ((a 9), .inl (T 1, 9, .inl (fik_3 2))), ((a 10), .inl (T 1, 9, .inl (fik_3 3))), ((a 11), .inl (T 1, 81, .inl (fik_3 4)))]) (w1 := [((a 2), .inr (6, [.ref (a 3), .ref (a 4), .int (vi 3), .int (vi 4), .int (vi 5), .int (vik_5 4), .int (vik_5 0), .int (vik_5 1), .long (vlk_5 0), .int (vik_5 3), .int (vik_5 2), .int (vik_2 2), .int (vik_2 0), .int (vik_2 1)])), ((a 3), .inl (T 0, 940, .inl (fi 0)))]) hP hD [11, 3] [0, 1, 2, 4, 5, 6, 7, 8, 9, 10] hC9 rfl (by decide) (by decide) hk1 hFc hP1 hD1
          clear hPc hDc hFc hP1 hD1 hk1 hz1 hvm ht hC9
          generalize H1 = H at hP hS ⊢
          obtain ⟨hP, hD⟩ := (show xPD D A [((a 0), .inr (8, [.ref (a 2), .ref (a 1), .int (vi 0)])), ((a 4), .inl (T 2, 27, .inr (.inl (fl 0)))), ((a 5), .inl (T 2, 9, .inr (.inl (fl 1)))), ((a 1), .inr (7, [.int (vi 1), .int (vik_3 0), .ref (a 5), .ref (ex 0), .ref (ex 1), .ref (ex 2), .ref (a 6), .ref (a 7), .ref (a 8), .ref (a 9), .ref (a 10), .ref (a 11)])), ((a 6), .inl (T 2, 9, .inr (.inl (flk_3 0)))), ((a 7), .inl (T 1, 9, .inl (fik_3 0))), ((a 8), .inl (T 1, 9, .inl (fik_3 1))), ((a 9), .inl (T 1, 9, .inl (fik_3 2))), ((a 10), .inl (T 1, 9, .inl (fik_3 3))), ((a 11), .inl (T 1, 81, .inl (fik_3 4))), ((a 2), .inr (6, [.ref (a 3), .ref (a 4), .int (vi 3), .int (vi 4), .int (vi 5), .int (vik_5 4), .int (vik_5 0), .int (vik_5 1), .long (vlk_5 0), .int (vik_5 3), .int (vik_5 2), .int (vik_2 2), .int (vik_2 0), .int (vik_2 1)])), ((a 3), .inl (T 0, 940, .inl (fi 0)))] H from ⟨hP, hD⟩)
          obtain ⟨uk_5, eu9⟩ : ∃ z, z = u9 := ⟨_, rfl⟩
          subst eu9
          obtain ⟨gk_5_0, gk_5_1, gk_5_2, -⟩ := hG
          replace gk_5_2 : ∀ n m : Nat, (vi 4).toInt = (n : Int) → (vi 5).toInt = (m : Int) → (vik_2 7).toInt ≤ (vi 4).toInt → CC (trn (fi 0) n) n m ((vik_2 7).toInt).toNat (vi 4) (vi 5) (vik_5 0) (vik_5 1) (vik_5 4) (vlk_5 0) (vik_5 3) (vik_5 2) := (P_X6_advance gk_5_2 : _)
          replace gk_5_0 : 0 ≤ (vik_5 4).toInt ∧ (vik_5 4).toInt ≤ 940 := gk_5_0
          replace gk_5_1 : 0 ≤ (vik_5 1).toInt ∧ (vik_5 1).toInt ≤ 940 := gk_5_1
          refine lv_aload_n hx hb dX8_readSoulLine_95 rfl (lv_at hl 1 rfl) ?_
          refine lv_aload_n hx hb dX8_readSoulLine_96 rfl (lv_at hl 1 rfl) ?_
          refine va_get (D := D) (ci := 8) (v := .ref (a 1)) (C := RX8) (T := TX8) (N := 3) hx hb htg inX8 hown hK.1 hP 0 rfl rfl 1 (by decide) (htg _ kw_229) (fun _ h9 => h9) rfl dX8_readSoulLine_97 ?_
          refine va_getN (D := D) (ci := 7) (v := .int (vik_3 0)) (C := RX7) (T := TX7) (N := 12) hx hb htg inX7 hown hK.1 hP 3 rfl rfl 1 (by decide) (va_Nw.use rfl (hK.2.1 _ kn_166)) (fun _ h9 => h9) rfl dX8_readSoulLine_100 ?_
          refine lv_iconst (v := 1) hx hb dX8_readSoulLine_103 (by decide) ?_
          refine lv_isub hx hb dX8_readSoulLine_104 ?_
          refine lv_topi (fun z104 ez104 => ?_)
          have tz104 : z104.toInt = (vik_3 0).toInt - 1 := by rw [ez104]; exact xsub rfl (by decide) (by omega) (by omega)
          obtain ⟨hC9, hPc, hDc, hFc⟩ := xcut (wc := (pre_X8_readFirstName T (xa [(a 0), (a 2), (a 1), (a 5), (a 4), (a 3), (a 8)]) (xa [(ex 0), (ex 1), (ex 2), (a 6), (a 7), (a 9), (a 10), (a 11)]) (xf [(fi 0), (fik_3 1)]) (xh [(fl 1), (fl 0)]) (xv [z104, (vi 0), (vi 3), (vi 4), (vi 5), (vik_5 4), (vik_5 0), (vik_5 1), (vik_5 3), (vik_5 2), (vik_2 2), (vik_2 0), (vik_2 1), (vi 1), (vik_3 0)]) (xl [(vlk_5 0)]))) hP hD hS hA [0, 10, 3, 2, 1, 11, 6] (by decide) rfl
          refine va_calli (va_runV (As := [.int z104]) (rest := []) ⟨hx, hb, hml, hown, htg⟩ (c_X8_readFirstName l D T (xa [(a 0), (a 2), (a 1), (a 5), (a 4), (a 3), (a 8)]) (xa [(ex 0), (ex 1), (ex 2), (a 6), (a 7), (a 9), (a 10), (a 11)]) (xf [(fi 0), (fik_3 1)]) (xh [(fl 1), (fl 0)]) (xv [z104, (vi 0), (vi 3), (vi 4), (vi 5), (vik_5 4), (vik_5 0), (vik_5 1), (vik_5 3), (vik_5 2), (vik_2 2), (vik_2 0), (vik_2 1), (vi 1), (vik_3 0)]) (xl [(vlk_5 0)]) H.size hp2 hp3 gk_5_0 gk_5_1 gk_2_3 hp0 gk_3_0) ⟨callB_of 1 htg (xg_ok kw_656) rfl rfl rfl (htg _ kw_8) (htg _ kw_653) (by decide +kernel) ⟨by rw [hR]; exact Nat.le_of_ble_eq_true rfl, by rw [hR]; exact Nat.le_of_ble_eq_true rfl⟩, htg _ kw_655, htg _ ks_23⟩ (xpreV hK hPc hDc (va_recv hK.1 hPc (ci := 8) (q0 := 0) rfl rfl)) rfl rfl hl.1 rfl (lv_room (Nat.le_of_ble_eq_true rfl)) dX8_readSoulLine_105 ⟨by rw [hR]; exact Nat.le_of_ble_eq_true rfl, by rw [hR]; exact Nat.le_of_ble_eq_true rfl⟩) hS (fun q _ h => hFc q h) hFc (fun r9 u9 t H1 locs ht hvm hw hB hz1 hk1 hS => ?_)
          subst hw
          obtain ⟨fik_6, flk_6, vik_6, vlk_6, hP1, hD1, hG⟩ := hB
          rw [ht] at hP1
          obtain ⟨hP, hD⟩ := va_join (wr := [((a 6), .inl (T 2, 9, .inr (.inl (flk_3 0)))), ((a 7), .inl (T 1, 9, .inl (fik_3 0))), ((a 9), .inl (T 1, 9, .inl (fik_3 2))), ((a 10), .inl (T 1, 9, .inl (fik_3 3))), ((a 11), .inl (T 1, 81, .inl (fik_3 4)))]) (w1 := [((a 0), .inr (8, [.ref (a 2), .ref (a 1), .int (vi 0)])), ((a 2), .inr (6, [.ref (a 3), .ref (a 4), .int (vi 3), .int (vi 4), .int (vi 5), .int (vik_6 5), .int (vik_6 1), .int (vik_6 2), .long (vlk_6 0), .int (vik_6 4), .int (vik_6 3), .int (vik_6 0), .int (vik_6 6), .int (vik_6 7)])), ((a 1), .inr (7, [.int (vi 1), .int (vik_3 0), .ref (a 5), .ref (ex 0), .ref (ex 1), .ref (ex 2), .ref (a 6), .ref (a 7), .ref (a 8), .ref (a 9), .ref (a 10), .ref (a 11)])), ((a 5), .inl (T 2, 9, .inr (.inl (fl 1)))), ((a 4), .inl (T 2, 27, .inr (.inl (fl 0)))), ((a 3), .inl (T 0, 940, .inl (fi 0))), ((a 8), .inl (T 1, 9, .inl (fik_6 0)))]) hP hD [0, 10, 3, 2, 1, 11, 6] [4, 5, 7, 8, 9] hC9 rfl (by decide) (by decide) hk1 hFc hP1 hD1
          obtain ⟨rk_6, er9⟩ : ∃ z, z = r9 := ⟨_, rfl⟩
          subst er9
          clear hPc hDc hFc hP1 hD1 hk1 hz1 hvm ht hC9
          generalize H1 = H at hP hS ⊢
          obtain ⟨hP, hD⟩ := (show xPD D A [((a 6), .inl (T 2, 9, .inr (.inl (flk_3 0)))), ((a 7), .inl (T 1, 9, .inl (fik_3 0))), ((a 9), .inl (T 1, 9, .inl (fik_3 2))), ((a 10), .inl (T 1, 9, .inl (fik_3 3))), ((a 11), .inl (T 1, 81, .inl (fik_3 4))), ((a 0), .inr (8, [.ref (a 2), .ref (a 1), .int (vi 0)])), ((a 2), .inr (6, [.ref (a 3), .ref (a 4), .int (vi 3), .int (vi 4), .int (vi 5), .int (vik_6 5), .int (vik_6 1), .int (vik_6 2), .long (vlk_6 0), .int (vik_6 4), .int (vik_6 3), .int (vik_6 0), .int (vik_6 6), .int (vik_6 7)])), ((a 1), .inr (7, [.int (vi 1), .int (vik_3 0), .ref (a 5), .ref (ex 0), .ref (ex 1), .ref (ex 2), .ref (a 6), .ref (a 7), .ref (a 8), .ref (a 9), .ref (a 10), .ref (a 11)])), ((a 5), .inl (T 2, 9, .inr (.inl (fl 1)))), ((a 4), .inl (T 2, 27, .inr (.inl (fl 0)))), ((a 3), .inl (T 0, 940, .inl (fi 0))), ((a 8), .inl (T 1, 9, .inl (fik_6 0)))] H from ⟨hP, hD⟩)
          obtain ⟨gk_6_0, gk_6_1, gk_6_2, gk_6_3, gk_6_4, gk_6_5, -⟩ := hG
          replace gk_6_5 : ∀ n m t : Nat, CC (trn (fi 0) n) n m t (vi 4) (vi 5) (vik_5 0) (vik_5 1) (vik_5 4) (vlk_5 0) (vik_5 3) (vik_5 2) → ∀ (H : Nat → Int) (N : Nat → Int64) (O : Nat → Bool) (K : Nat), (RWn (ownB (fl 0)) (vi 1) (fl 1) H N) → z104.toInt = (K : Int) → (vik_3 0).toInt = (K : Int) + 1 → (∀ q : Nat, q < K → ((fik_3 1) q).toInt + 1 = H (38 + q)) → ((fik_3 1) K).toInt = -1 → LO (lnCalled (trn (fi 0) n) n m (ownB (fl 0)) H N O K t) rk_6 (vik_6 6) (vik_6 7) (fun t' H' N' O' => CC (trn (fi 0) n) n m t' (vi 4) (vi 5) (vik_6 1) (vik_6 2) (vik_6 5) (vlk_6 0) (vik_6 4) (vik_6 3) ∧ ∃ i : Int, H' = setI (setI H (38 + K) (i + 1)) 1 ((K : Int) + 1) ∧ N' = N ∧ O' = O ∧ (∀ j : Nat, ¬ j = K → (fik_6 0) j = (fik_3 1) j) ∧ ((fik_6 0) K).toInt = i) := (P_X8_readFirstName gk_6_5 : _)
          replace gk_6_1 : 0 ≤ (vik_6 5).toInt ∧ (vik_6 5).toInt ≤ 940 := gk_6_1
          replace gk_6_2 : 0 ≤ (vik_6 2).toInt ∧ (vik_6 2).toInt ≤ 940 := gk_6_2
          replace gk_6_3 : 0 ≤ (vik_6 7).toInt ∧ (vik_6 7).toInt ≤ 940 := gk_6_3
          replace gk_6_4 : rk_6.toInt = 1 → (vik_6 6).toInt = (vik_2 0).toInt := gk_6_4
          rcases (show (rk_6 = 1 ∧ (True)) ∨ (rk_6 = 0 ∧ (True)) from gk_6_0) with ⟨er9, gk_6_0⟩ | ⟨er9, gk_6_0⟩
          · refine xz_i 1 er9 ?_
            have tb_3 : rk_6.toInt = 1 := by rw [er9]; decide
            have hP9 := hP.sub (ws' := [((a 0), .inr (8, [.ref (a 2), .ref (a 1), .int (vi 0)])), ((a 1), .inr (7, [.int (vi 1), .int (vik_3 0), .ref (a 5), .ref (ex 0), .ref (ex 1), .ref (ex 2), .ref (a 6), .ref (a 7), .ref (a 8), .ref (a 9), .ref (a 10), .ref (a 11)])), ((a 2), .inr (6, [.ref (a 3), .ref (a 4), .int (vi 3), .int (vi 4), .int (vi 5), .int (vik_6 5), .int (vik_6 1), .int (vik_6 2), .long (vlk_6 0), .int (vik_6 4), .int (vik_6 3), .int (vik_6 0), .int (vik_6 6), .int (vik_6 7)])), ((a 3), .inl (T 0, 940, .inl (fi 0))), ((a 4), .inl (T 2, 27, .inr (.inl (fl 0)))), ((a 5), .inl (T 2, 9, .inr (.inl (fl 1)))), ((a 6), .inl (T 2, 9, .inr (.inl (flk_3 0)))), ((a 7), .inl (T 1, 9, .inl (fik_3 0))), ((a 8), .inl (T 1, 9, .inl (fik_6 0))), ((a 9), .inl (T 1, 9, .inl (fik_3 2))), ((a 10), .inl (T 1, 9, .inl (fik_3 3))), ((a 11), .inl (T 1, 81, .inl (fik_3 4)))]) [5, 7, 6, 10, 9, 8, 0, 1, 11, 2, 3, 4] rfl
            have hD9 := hD.sub (ws' := [((a 0), .inr (8, [.ref (a 2), .ref (a 1), .int (vi 0)])), ((a 1), .inr (7, [.int (vi 1), .int (vik_3 0), .ref (a 5), .ref (ex 0), .ref (ex 1), .ref (ex 2), .ref (a 6), .ref (a 7), .ref (a 8), .ref (a 9), .ref (a 10), .ref (a 11)])), ((a 2), .inr (6, [.ref (a 3), .ref (a 4), .int (vi 3), .int (vi 4), .int (vi 5), .int (vik_6 5), .int (vik_6 1), .int (vik_6 2), .long (vlk_6 0), .int (vik_6 4), .int (vik_6 3), .int (vik_6 0), .int (vik_6 6), .int (vik_6 7)])), ((a 3), .inl (T 0, 940, .inl (fi 0))), ((a 4), .inl (T 2, 27, .inr (.inl (fl 0)))), ((a 5), .inl (T 2, 9, .inr (.inl (fl 1)))), ((a 6), .inl (T 2, 9, .inr (.inl (flk_3 0)))), ((a 7), .inl (T 1, 9, .inl (fik_3 0))), ((a 8), .inl (T 1, 9, .inl (fik_6 0))), ((a 9), .inl (T 1, 9, .inl (fik_3 2))), ((a 10), .inl (T 1, 9, .inl (fik_3 3))), ((a 11), .inl (T 1, 81, .inl (fik_3 4)))]) [5, 7, 6, 10, 9, 8, 0, 1, 11, 2, 3, 4] (by decide +kernel) rfl
            rw [hQ]
            exact W.zret (v := 1) hx hb hr rfl (fun t ht hW => ⟨⟨1, 1, rfl, rfl, xf [(fik_3 0), (fik_6 0), (fik_3 2), (fik_3 3), (fik_3 4)], xh [(flk_3 0)], xv [(vik_6 1), (vik_6 2), (vik_6 3), (vik_6 4), (vik_6 5), (vik_6 6), (vik_6 7), (vik_6 0), (vik_3 0)], xl [(vlk_6 0)], by rw [ht]; exact hP9, hD9, ⟨(Or.inl ⟨rfl, by show True; first | trivial | omega | assumption⟩), gk_3_0, gk_6_1, gk_6_2, gk_6_3, (by show (1 : Int32).toInt = 1 → (vik_6 6).toInt = (vi 12).toInt; have k9_0 : (1 : Int32).toInt = 1 := (by decide); exact fun _ => ((gk_6_4 tb_3).trans (gk_2_4 tb_1) |>.trans (gk_1_4 tb))), (by unfold R_X8_readSoulLine; exact (fun Q9 k9_0 k9_1 k9_2 k9_3 k9_4 k9_5 => k9_0 hp0 hp1 c9 fik flk vik vlk uk gk_2 fik_1 flk_1 vik_1 vlk_1 rk_1 gk_1_5 tb gk_1_0 fik_2 flk_2 vik_2 vlk_2 rk_2 gk_2_5 tb_1 gk_2_0 fik_3 flk_3 vik_3 vlk_3 uk_3 gk_3_1 fik_4 flk_4 vik_4 vlk_4 rk_4 gk_4_1 tb_2 gk_4_0 fik_5 flk_5 vik_5 vlk_5 uk_5 gk_5_2 z104 ez104 tz104 fik_6 flk_6 vik_6 vlk_6 rk_6 gk_6_5 tb_3 gk_6_0 rfl rfl rfl rfl rfl rfl rfl rfl rfl rfl rfl rfl rfl rfl rfl rfl rfl)), trivial⟩⟩, hS.F ht⟩) hS.2.2 dX8_readSoulLine_108
          · refine xz_i 0 er9 ?_
            have tb_3 : rk_6.toInt = 0 := by rw [er9]; decide
            have hP9 := hP.sub (ws' := [((a 0), .inr (8, [.ref (a 2), .ref (a 1), .int (vi 0)])), ((a 1), .inr (7, [.int (vi 1), .int (vik_3 0), .ref (a 5), .ref (ex 0), .ref (ex 1), .ref (ex 2), .ref (a 6), .ref (a 7), .ref (a 8), .ref (a 9), .ref (a 10), .ref (a 11)])), ((a 2), .inr (6, [.ref (a 3), .ref (a 4), .int (vi 3), .int (vi 4), .int (vi 5), .int (vik_6 5), .int (vik_6 1), .int (vik_6 2), .long (vlk_6 0), .int (vik_6 4), .int (vik_6 3), .int (vik_6 0), .int (vik_6 6), .int (vik_6 7)])), ((a 3), .inl (T 0, 940, .inl (fi 0))), ((a 4), .inl (T 2, 27, .inr (.inl (fl 0)))), ((a 5), .inl (T 2, 9, .inr (.inl (fl 1)))), ((a 6), .inl (T 2, 9, .inr (.inl (flk_3 0)))), ((a 7), .inl (T 1, 9, .inl (fik_3 0))), ((a 8), .inl (T 1, 9, .inl (fik_6 0))), ((a 9), .inl (T 1, 9, .inl (fik_3 2))), ((a 10), .inl (T 1, 9, .inl (fik_3 3))), ((a 11), .inl (T 1, 81, .inl (fik_3 4)))]) [5, 7, 6, 10, 9, 8, 0, 1, 11, 2, 3, 4] rfl
            have hD9 := hD.sub (ws' := [((a 0), .inr (8, [.ref (a 2), .ref (a 1), .int (vi 0)])), ((a 1), .inr (7, [.int (vi 1), .int (vik_3 0), .ref (a 5), .ref (ex 0), .ref (ex 1), .ref (ex 2), .ref (a 6), .ref (a 7), .ref (a 8), .ref (a 9), .ref (a 10), .ref (a 11)])), ((a 2), .inr (6, [.ref (a 3), .ref (a 4), .int (vi 3), .int (vi 4), .int (vi 5), .int (vik_6 5), .int (vik_6 1), .int (vik_6 2), .long (vlk_6 0), .int (vik_6 4), .int (vik_6 3), .int (vik_6 0), .int (vik_6 6), .int (vik_6 7)])), ((a 3), .inl (T 0, 940, .inl (fi 0))), ((a 4), .inl (T 2, 27, .inr (.inl (fl 0)))), ((a 5), .inl (T 2, 9, .inr (.inl (fl 1)))), ((a 6), .inl (T 2, 9, .inr (.inl (flk_3 0)))), ((a 7), .inl (T 1, 9, .inl (fik_3 0))), ((a 8), .inl (T 1, 9, .inl (fik_6 0))), ((a 9), .inl (T 1, 9, .inl (fik_3 2))), ((a 10), .inl (T 1, 9, .inl (fik_3 3))), ((a 11), .inl (T 1, 81, .inl (fik_3 4)))]) [5, 7, 6, 10, 9, 8, 0, 1, 11, 2, 3, 4] (by decide +kernel) rfl
            rw [hQ]
            exact W.zret (v := 0) hx hb hr rfl (fun t ht hW => ⟨⟨0, 0, rfl, rfl, xf [(fik_3 0), (fik_6 0), (fik_3 2), (fik_3 3), (fik_3 4)], xh [(flk_3 0)], xv [(vik_6 1), (vik_6 2), (vik_6 3), (vik_6 4), (vik_6 5), (vik_6 6), (vik_6 7), (vik_6 0), (vik_3 0)], xl [(vlk_6 0)], by rw [ht]; exact hP9, hD9, ⟨(Or.inr ⟨rfl, by show True; first | trivial | omega | assumption⟩), gk_3_0, gk_6_1, gk_6_2, gk_6_3, (by show (0 : Int32).toInt = 1 → (vik_6 6).toInt = (vi 12).toInt; have k9_0 : (0 : Int32).toInt = 0 := (by decide); exact fun h9 => absurd h9 (by decide)), (by unfold R_X8_readSoulLine; exact (fun Q9 k9_0 k9_1 k9_2 k9_3 k9_4 k9_5 => k9_1 hp0 hp1 c9 fik flk vik vlk uk gk_2 fik_1 flk_1 vik_1 vlk_1 rk_1 gk_1_5 tb gk_1_0 fik_2 flk_2 vik_2 vlk_2 rk_2 gk_2_5 tb_1 gk_2_0 fik_3 flk_3 vik_3 vlk_3 uk_3 gk_3_1 fik_4 flk_4 vik_4 vlk_4 rk_4 gk_4_1 tb_2 gk_4_0 fik_5 flk_5 vik_5 vlk_5 uk_5 gk_5_2 z104 ez104 tz104 fik_6 flk_6 vik_6 vlk_6 rk_6 gk_6_5 tb_3 gk_6_0 rfl rfl rfl rfl rfl rfl rfl rfl rfl rfl rfl rfl rfl rfl rfl rfl rfl)), trivial⟩⟩, hS.F ht⟩) hS.2.2 dX8_readSoulLine_108
        · refine xz_i 0 er9 ?_
          have tb_2 : rk_4.toInt = 0 := by rw [er9]; decide
          refine lv_if_ne (tgt := 88) hx hb dX8_readSoulLine_83 (by decide) (fun c => absurd (by decide) c) (fun _ => ?_)
          refine lv_iconst (v := 1) hx hb dX8_readSoulLine_86 (by decide) ?_
          have hP9 := hP.sub (ws' := [((a 0), .inr (8, [.ref (a 2), .ref (a 1), .int (vi 0)])), ((a 1), .inr (7, [.int (vi 1), .int (vik_3 0), .ref (a 5), .ref (ex 0), .ref (ex 1), .ref (ex 2), .ref (a 6), .ref (a 7), .ref (a 8), .ref (a 9), .ref (a 10), .ref (a 11)])), ((a 2), .inr (6, [.ref (a 3), .ref (a 4), .int (vi 3), .int (vi 4), .int (vi 5), .int (vik_2 7), .int (vik_2 3), .int (vik_2 4), .long (vlk_2 0), .int (vik_2 6), .int (vik_2 5), .int (vik_2 2), .int (vik_2 0), .int (vik_2 1)])), ((a 3), .inl (T 0, 940, .inl (fi 0))), ((a 4), .inl (T 2, 27, .inr (.inl (fl 0)))), ((a 5), .inl (T 2, 9, .inr (.inl (fl 1)))), ((a 6), .inl (T 2, 9, .inr (.inl (flk_3 0)))), ((a 7), .inl (T 1, 9, .inl (fik_3 0))), ((a 8), .inl (T 1, 9, .inl (fik_3 1))), ((a 9), .inl (T 1, 9, .inl (fik_3 2))), ((a 10), .inl (T 1, 9, .inl (fik_3 3))), ((a 11), .inl (T 1, 81, .inl (fik_3 4)))]) [0, 4, 11, 3, 1, 2, 5, 6, 7, 8, 9, 10] rfl
          have hD9 := hD.sub (ws' := [((a 0), .inr (8, [.ref (a 2), .ref (a 1), .int (vi 0)])), ((a 1), .inr (7, [.int (vi 1), .int (vik_3 0), .ref (a 5), .ref (ex 0), .ref (ex 1), .ref (ex 2), .ref (a 6), .ref (a 7), .ref (a 8), .ref (a 9), .ref (a 10), .ref (a 11)])), ((a 2), .inr (6, [.ref (a 3), .ref (a 4), .int (vi 3), .int (vi 4), .int (vi 5), .int (vik_2 7), .int (vik_2 3), .int (vik_2 4), .long (vlk_2 0), .int (vik_2 6), .int (vik_2 5), .int (vik_2 2), .int (vik_2 0), .int (vik_2 1)])), ((a 3), .inl (T 0, 940, .inl (fi 0))), ((a 4), .inl (T 2, 27, .inr (.inl (fl 0)))), ((a 5), .inl (T 2, 9, .inr (.inl (fl 1)))), ((a 6), .inl (T 2, 9, .inr (.inl (flk_3 0)))), ((a 7), .inl (T 1, 9, .inl (fik_3 0))), ((a 8), .inl (T 1, 9, .inl (fik_3 1))), ((a 9), .inl (T 1, 9, .inl (fik_3 2))), ((a 10), .inl (T 1, 9, .inl (fik_3 3))), ((a 11), .inl (T 1, 81, .inl (fik_3 4)))]) [0, 4, 11, 3, 1, 2, 5, 6, 7, 8, 9, 10] (by decide +kernel) rfl
          rw [hQ]
          exact W.zret (v := 1) hx hb hr rfl (fun t ht hW => ⟨⟨1, 1, rfl, rfl, xf [(fik_3 0), (fik_3 1), (fik_3 2), (fik_3 3), (fik_3 4)], xh [(flk_3 0)], xv [(vik_2 3), (vik_2 4), (vik_2 5), (vik_2 6), (vik_2 7), (vik_2 0), (vik_2 1), (vik_2 2), (vik_3 0)], xl [(vlk_2 0)], by rw [ht]; exact hP9, hD9, ⟨(Or.inl ⟨rfl, by show True; first | trivial | omega | assumption⟩), gk_3_0, gk_2_1, gk_2_2, gk_2_3, (by show (1 : Int32).toInt = 1 → (vik_2 0).toInt = (vi 12).toInt; have k9_0 : (1 : Int32).toInt = 1 := (by decide); exact fun _ => ((gk_2_4 tb_1).trans (gk_1_4 tb))), (by unfold R_X8_readSoulLine; exact (fun Q9 k9_0 k9_1 k9_2 k9_3 k9_4 k9_5 => k9_2 hp0 hp1 c9 fik flk vik vlk uk gk_2 fik_1 flk_1 vik_1 vlk_1 rk_1 gk_1_5 tb gk_1_0 fik_2 flk_2 vik_2 vlk_2 rk_2 gk_2_5 tb_1 gk_2_0 fik_3 flk_3 vik_3 vlk_3 uk_3 gk_3_1 fik_4 flk_4 vik_4 vlk_4 rk_4 gk_4_1 tb_2 gk_4_0 rfl rfl rfl rfl rfl rfl rfl rfl rfl rfl rfl rfl rfl rfl rfl rfl rfl)), trivial⟩⟩, hS.F ht⟩) hS.2.2 dX8_readSoulLine_87
      · refine xz_i 0 er9 ?_
        have tb_1 : rk_2.toInt = 0 := by rw [er9]; decide
        refine lv_if_ne (tgt := 59) hx hb dX8_readSoulLine_54 (by decide) (fun c => absurd (by decide) c) (fun _ => ?_)
        refine lv_iconst (v := 0) hx hb dX8_readSoulLine_57 (by decide) ?_
        have hP9 := hP.sub (ws' := [((a 0), .inr (8, [.ref (a 2), .ref (a 1), .int (vi 0)])), ((a 1), .inr (7, [.int (vi 1), .int (vi 2), .ref (a 5), .ref (ex 0), .ref (ex 1), .ref (ex 2), .ref (a 6), .ref (a 7), .ref (a 8), .ref (a 9), .ref (a 10), .ref (a 11)])), ((a 2), .inr (6, [.ref (a 3), .ref (a 4), .int (vi 3), .int (vi 4), .int (vi 5), .int (vik_2 7), .int (vik_2 3), .int (vik_2 4), .long (vlk_2 0), .int (vik_2 6), .int (vik_2 5), .int (vik_2 2), .int (vik_2 0), .int (vik_2 1)])), ((a 3), .inl (T 0, 940, .inl (fi 0))), ((a 4), .inl (T 2, 27, .inr (.inl (fl 0)))), ((a 5), .inl (T 2, 9, .inr (.inl (fl 1)))), ((a 6), .inl (T 2, 9, .inr (.inl (fl 2)))), ((a 7), .inl (T 1, 9, .inl (fi 1))), ((a 8), .inl (T 1, 9, .inl (fi 2))), ((a 9), .inl (T 1, 9, .inl (fi 3))), ((a 10), .inl (T 1, 9, .inl (fi 4))), ((a 11), .inl (T 1, 81, .inl (fi 5)))]) [5, 7, 10, 11, 6, 8, 9, 0, 1, 2, 3, 4] rfl
        have hD9 := hD.sub (ws' := [((a 0), .inr (8, [.ref (a 2), .ref (a 1), .int (vi 0)])), ((a 1), .inr (7, [.int (vi 1), .int (vi 2), .ref (a 5), .ref (ex 0), .ref (ex 1), .ref (ex 2), .ref (a 6), .ref (a 7), .ref (a 8), .ref (a 9), .ref (a 10), .ref (a 11)])), ((a 2), .inr (6, [.ref (a 3), .ref (a 4), .int (vi 3), .int (vi 4), .int (vi 5), .int (vik_2 7), .int (vik_2 3), .int (vik_2 4), .long (vlk_2 0), .int (vik_2 6), .int (vik_2 5), .int (vik_2 2), .int (vik_2 0), .int (vik_2 1)])), ((a 3), .inl (T 0, 940, .inl (fi 0))), ((a 4), .inl (T 2, 27, .inr (.inl (fl 0)))), ((a 5), .inl (T 2, 9, .inr (.inl (fl 1)))), ((a 6), .inl (T 2, 9, .inr (.inl (fl 2)))), ((a 7), .inl (T 1, 9, .inl (fi 1))), ((a 8), .inl (T 1, 9, .inl (fi 2))), ((a 9), .inl (T 1, 9, .inl (fi 3))), ((a 10), .inl (T 1, 9, .inl (fi 4))), ((a 11), .inl (T 1, 81, .inl (fi 5)))]) [5, 7, 10, 11, 6, 8, 9, 0, 1, 2, 3, 4] (by decide +kernel) rfl
        rw [hQ]
        exact W.zret (v := 0) hx hb hr rfl (fun t ht hW => ⟨⟨0, 0, rfl, rfl, xf [(fi 1), (fi 2), (fi 3), (fi 4), (fi 5)], xh [(fl 2)], xv [(vik_2 3), (vik_2 4), (vik_2 5), (vik_2 6), (vik_2 7), (vik_2 0), (vik_2 1), (vik_2 2), (vi 2)], xl [(vlk_2 0)], by rw [ht]; exact hP9, hD9, ⟨(Or.inr ⟨rfl, by show True; first | trivial | omega | assumption⟩), hp1, gk_2_1, gk_2_2, gk_2_3, (by show (0 : Int32).toInt = 1 → (vik_2 0).toInt = (vi 12).toInt; have k9_0 : (0 : Int32).toInt = 0 := (by decide); exact fun h9 => absurd h9 (by decide)), (by unfold R_X8_readSoulLine; exact (fun Q9 k9_0 k9_1 k9_2 k9_3 k9_4 k9_5 => k9_3 hp0 hp1 c9 fik flk vik vlk uk gk_2 fik_1 flk_1 vik_1 vlk_1 rk_1 gk_1_5 tb gk_1_0 fik_2 flk_2 vik_2 vlk_2 rk_2 gk_2_5 tb_1 gk_2_0 rfl rfl rfl rfl rfl rfl rfl rfl rfl rfl rfl rfl rfl rfl rfl rfl rfl)), trivial⟩⟩, hS.F ht⟩) hS.2.2 dX8_readSoulLine_58
    · refine xz_i 0 er9 ?_
      have tb : rk_1.toInt = 0 := by rw [er9]; decide
      refine lv_if_eq (tgt := 57) hx hb dX8_readSoulLine_40 (by decide) (fun _ => ?_) (fun c => absurd (by decide) c)
      refine lv_iconst (v := 0) hx hb dX8_readSoulLine_57 (by decide) ?_
      have hP9 := hP.sub (ws' := [((a 0), .inr (8, [.ref (a 2), .ref (a 1), .int (vi 0)])), ((a 1), .inr (7, [.int (vi 1), .int (vi 2), .ref (a 5), .ref (ex 0), .ref (ex 1), .ref (ex 2), .ref (a 6), .ref (a 7), .ref (a 8), .ref (a 9), .ref (a 10), .ref (a 11)])), ((a 2), .inr (6, [.ref (a 3), .ref (a 4), .int (vi 3), .int (vi 4), .int (vi 5), .int (vik_1 6), .int (vik_1 2), .int (vik_1 3), .long (vlk_1 0), .int (vik_1 5), .int (vik_1 4), .int (vi 11), .int (vik_1 0), .int (vik_1 1)])), ((a 3), .inl (T 0, 940, .inl (fi 0))), ((a 4), .inl (T 2, 27, .inr (.inl (fl 0)))), ((a 5), .inl (T 2, 9, .inr (.inl (fl 1)))), ((a 6), .inl (T 2, 9, .inr (.inl (fl 2)))), ((a 7), .inl (T 1, 9, .inl (fi 1))), ((a 8), .inl (T 1, 9, .inl (fi 2))), ((a 9), .inl (T 1, 9, .inl (fi 3))), ((a 10), .inl (T 1, 9, .inl (fi 4))), ((a 11), .inl (T 1, 81, .inl (fi 5)))]) [5, 8, 6, 11, 7, 9, 10, 0, 1, 2, 3, 4] rfl
      have hD9 := hD.sub (ws' := [((a 0), .inr (8, [.ref (a 2), .ref (a 1), .int (vi 0)])), ((a 1), .inr (7, [.int (vi 1), .int (vi 2), .ref (a 5), .ref (ex 0), .ref (ex 1), .ref (ex 2), .ref (a 6), .ref (a 7), .ref (a 8), .ref (a 9), .ref (a 10), .ref (a 11)])), ((a 2), .inr (6, [.ref (a 3), .ref (a 4), .int (vi 3), .int (vi 4), .int (vi 5), .int (vik_1 6), .int (vik_1 2), .int (vik_1 3), .long (vlk_1 0), .int (vik_1 5), .int (vik_1 4), .int (vi 11), .int (vik_1 0), .int (vik_1 1)])), ((a 3), .inl (T 0, 940, .inl (fi 0))), ((a 4), .inl (T 2, 27, .inr (.inl (fl 0)))), ((a 5), .inl (T 2, 9, .inr (.inl (fl 1)))), ((a 6), .inl (T 2, 9, .inr (.inl (fl 2)))), ((a 7), .inl (T 1, 9, .inl (fi 1))), ((a 8), .inl (T 1, 9, .inl (fi 2))), ((a 9), .inl (T 1, 9, .inl (fi 3))), ((a 10), .inl (T 1, 9, .inl (fi 4))), ((a 11), .inl (T 1, 81, .inl (fi 5)))]) [5, 8, 6, 11, 7, 9, 10, 0, 1, 2, 3, 4] (by decide +kernel) rfl
      rw [hQ]
      exact W.zret (v := 0) hx hb hr rfl (fun t ht hW => ⟨⟨0, 0, rfl, rfl, xf [(fi 1), (fi 2), (fi 3), (fi 4), (fi 5)], xh [(fl 2)], xv [(vik_1 2), (vik_1 3), (vik_1 4), (vik_1 5), (vik_1 6), (vik_1 0), (vik_1 1), (vi 11), (vi 2)], xl [(vlk_1 0)], by rw [ht]; exact hP9, hD9, ⟨(Or.inr ⟨rfl, by show True; first | trivial | omega | assumption⟩), hp1, gk_1_1, gk_1_2, gk_1_3, (by show (0 : Int32).toInt = 1 → (vik_1 0).toInt = (vi 12).toInt; have k9_0 : (0 : Int32).toInt = 0 := (by decide); exact fun h9 => absurd h9 (by decide)), (by unfold R_X8_readSoulLine; exact (fun Q9 k9_0 k9_1 k9_2 k9_3 k9_4 k9_5 => k9_4 hp0 hp1 c9 fik flk vik vlk uk gk_2 fik_1 flk_1 vik_1 vlk_1 rk_1 gk_1_5 tb gk_1_0 rfl rfl rfl rfl rfl rfl rfl rfl rfl rfl rfl rfl rfl rfl rfl rfl rfl)), trivial⟩⟩, hS.F ht⟩) hS.2.2 dX8_readSoulLine_58
  · have c9 := xnlt (k := 9) (by decide) c9
    refine lv_aload_n hx hb dX8_readSoulLine_12 rfl (lv_at hl 0 rfl) ?_
    refine va_get (D := D) (ci := 8) (v := .ref (a 2)) (C := RX8) (T := TX8) (N := 3) hx hb htg inX8 hown hK.1 hP 0 rfl rfl 0 (by decide) (htg _ kw_228) (fun _ h9 => h9) rfl dX8_readSoulLine_13 ?_
    refine lv_iconst (v := 4) hx hb dX8_readSoulLine_16 (by decide) ?_
    obtain ⟨hC9, hPc, hDc, hFc⟩ := xcut (wc := (pre_X6_refuse T (xa [(a 2)]) (xa [(a 3), (a 4)]) (xf []) (xh []) (xv [4, (vi 3), (vi 4), (vi 5), (vi 6), (vi 7), (vi 8), (vi 9), (vi 10), (vi 11), (vi 12), (vi 13)]) (xl [(vl 0)]))) hP hD hS hA [2] (by decide) rfl
    refine va_calli (va_runVN (As := [.int 4]) (rest := []) ⟨hx, hb, hml, hown, htg⟩ (c_X6_refuse l D T (xa [(a 2)]) (xa [(a 3), (a 4)]) (xf []) (xh []) (xv [4, (vi 3), (vi 4), (vi 5), (vi 6), (vi 7), (vi 8), (vi 9), (vi 10), (vi 11), (vi 12), (vi 13)]) (xl [(vl 0)]) s.heap.size hp2 hp3 hp4 hp5 hp6) ⟨va_cnB 1 htg (xg_ok kw_594) rfl rfl rfl (hK.2.1 _ kn_591) (htg _ kw_2) (by decide +kernel) ⟨by rw [hR]; exact Nat.le_of_ble_eq_true rfl, by rw [hR]; exact Nat.le_of_ble_eq_true rfl⟩, htg _ kw_593, htg _ ks_10⟩ (xpreV hK hPc hDc (va_recv hK.1 hPc (ci := 6) (q0 := 0) rfl rfl)) rfl rfl hl.1 rfl (lv_room (Nat.le_of_ble_eq_true rfl)) dX8_readSoulLine_17 ⟨by rw [hR]; exact Nat.le_of_ble_eq_true rfl, by rw [hR]; exact Nat.le_of_ble_eq_true rfl⟩) hS (fun q _ h => hFc q h) hFc (fun r9 u9 t H1 locs ht hvm hw hB hz1 hk1 hS => ?_)
    subst hw
    obtain ⟨fik_7, flk_7, vik_7, vlk_7, hP1, hD1, hG⟩ := hB
    rw [ht] at hP1
    obtain ⟨hP, hD⟩ := va_join (wr := [((a 0), .inr (8, [.ref (a 2), .ref (a 1), .int (vi 0)])), ((a 1), .inr (7, [.int (vi 1), .int (vi 2), .ref (a 5), .ref (ex 0), .ref (ex 1), .ref (ex 2), .ref (a 6), .ref (a 7), .ref (a 8), .ref (a 9), .ref (a 10), .ref (a 11)])), ((a 3), .inl (T 0, 940, .inl (fi 0))), ((a 4), .inl (T 2, 27, .inr (.inl (fl 0)))), ((a 5), .inl (T 2, 9, .inr (.inl (fl 1)))), ((a 6), .inl (T 2, 9, .inr (.inl (fl 2)))), ((a 7), .inl (T 1, 9, .inl (fi 1))), ((a 8), .inl (T 1, 9, .inl (fi 2))), ((a 9), .inl (T 1, 9, .inl (fi 3))), ((a 10), .inl (T 1, 9, .inl (fi 4))), ((a 11), .inl (T 1, 81, .inl (fi 5)))]) (w1 := [((a 2), .inr (6, [.ref (a 3), .ref (a 4), .int (vi 3), .int (vi 4), .int (vi 5), .int (vi 6), .int (vi 7), .int (vi 8), .long (vl 0), .int (vi 9), .int (vi 10), .int (vi 11), .int (vik_7 0), .int (vik_7 1)]))]) hP hD [2] [0, 1, 3, 4, 5, 6, 7, 8, 9, 10, 11] hC9 rfl (by decide) (by decide) hk1 hFc hP1 hD1
    obtain ⟨rk_7, er9⟩ : ∃ z, z = r9 := ⟨_, rfl⟩
    subst er9
    clear hPc hDc hFc hP1 hD1 hk1 hz1 hvm ht hC9
    generalize H1 = H at hP hS ⊢
    obtain ⟨hP, hD⟩ := (show xPD D A [((a 0), .inr (8, [.ref (a 2), .ref (a 1), .int (vi 0)])), ((a 1), .inr (7, [.int (vi 1), .int (vi 2), .ref (a 5), .ref (ex 0), .ref (ex 1), .ref (ex 2), .ref (a 6), .ref (a 7), .ref (a 8), .ref (a 9), .ref (a 10), .ref (a 11)])), ((a 3), .inl (T 0, 940, .inl (fi 0))), ((a 4), .inl (T 2, 27, .inr (.inl (fl 0)))), ((a 5), .inl (T 2, 9, .inr (.inl (fl 1)))), ((a 6), .inl (T 2, 9, .inr (.inl (fl 2)))), ((a 7), .inl (T 1, 9, .inl (fi 1))), ((a 8), .inl (T 1, 9, .inl (fi 2))), ((a 9), .inl (T 1, 9, .inl (fi 3))), ((a 10), .inl (T 1, 9, .inl (fi 4))), ((a 11), .inl (T 1, 81, .inl (fi 5))), ((a 2), .inr (6, [.ref (a 3), .ref (a 4), .int (vi 3), .int (vi 4), .int (vi 5), .int (vi 6), .int (vi 7), .int (vi 8), .long (vl 0), .int (vi 9), .int (vi 10), .int (vi 11), .int (vik_7 0), .int (vik_7 1)]))] H from ⟨hP, hD⟩)
    obtain ⟨gk_7_0, gk_7_1, gk_7_2, -⟩ := hG
    replace gk_7_1 : 0 ≤ (vik_7 1).toInt ∧ (vik_7 1).toInt ≤ 940 := gk_7_1
    replace gk_7_2 : (vik_7 0).toInt = (4 : Int32).toInt ∧ (vik_7 1).toInt = (vi 8).toInt := gk_7_2
    replace gk_7_0 : rk_7 = 0 := gk_7_0
    refine xz_i 0 gk_7_0 ?_
    have hP9 := hP.sub (ws' := [((a 0), .inr (8, [.ref (a 2), .ref (a 1), .int (vi 0)])), ((a 1), .inr (7, [.int (vi 1), .int (vi 2), .ref (a 5), .ref (ex 0), .ref (ex 1), .ref (ex 2), .ref (a 6), .ref (a 7), .ref (a 8), .ref (a 9), .ref (a 10), .ref (a 11)])), ((a 2), .inr (6, [.ref (a 3), .ref (a 4), .int (vi 3), .int (vi 4), .int (vi 5), .int (vi 6), .int (vi 7), .int (vi 8), .long (vl 0), .int (vi 9), .int (vi 10), .int (vi 11), .int (vik_7 0), .int (vik_7 1)])), ((a 3), .inl (T 0, 940, .inl (fi 0))), ((a 4), .inl (T 2, 27, .inr (.inl (fl 0)))), ((a 5), .inl (T 2, 9, .inr (.inl (fl 1)))), ((a 6), .inl (T 2, 9, .inr (.inl (fl 2)))), ((a 7), .inl (T 1, 9, .inl (fi 1))), ((a 8), .inl (T 1, 9, .inl (fi 2))), ((a 9), .inl (T 1, 9, .inl (fi 3))), ((a 10), .inl (T 1, 9, .inl (fi 4))), ((a 11), .inl (T 1, 81, .inl (fi 5)))]) [0, 1, 11, 2, 3, 4, 5, 6, 7, 8, 9, 10] rfl
    have hD9 := hD.sub (ws' := [((a 0), .inr (8, [.ref (a 2), .ref (a 1), .int (vi 0)])), ((a 1), .inr (7, [.int (vi 1), .int (vi 2), .ref (a 5), .ref (ex 0), .ref (ex 1), .ref (ex 2), .ref (a 6), .ref (a 7), .ref (a 8), .ref (a 9), .ref (a 10), .ref (a 11)])), ((a 2), .inr (6, [.ref (a 3), .ref (a 4), .int (vi 3), .int (vi 4), .int (vi 5), .int (vi 6), .int (vi 7), .int (vi 8), .long (vl 0), .int (vi 9), .int (vi 10), .int (vi 11), .int (vik_7 0), .int (vik_7 1)])), ((a 3), .inl (T 0, 940, .inl (fi 0))), ((a 4), .inl (T 2, 27, .inr (.inl (fl 0)))), ((a 5), .inl (T 2, 9, .inr (.inl (fl 1)))), ((a 6), .inl (T 2, 9, .inr (.inl (fl 2)))), ((a 7), .inl (T 1, 9, .inl (fi 1))), ((a 8), .inl (T 1, 9, .inl (fi 2))), ((a 9), .inl (T 1, 9, .inl (fi 3))), ((a 10), .inl (T 1, 9, .inl (fi 4))), ((a 11), .inl (T 1, 81, .inl (fi 5)))]) [0, 1, 11, 2, 3, 4, 5, 6, 7, 8, 9, 10] (by decide +kernel) rfl
    rw [hQ]
    exact W.zret (v := 0) hx hb hr rfl (fun t ht hW => ⟨⟨0, 0, rfl, rfl, xf [(fi 1), (fi 2), (fi 3), (fi 4), (fi 5)], xh [(fl 2)], xv [(vi 7), (vi 8), (vi 10), (vi 9), (vi 6), (vik_7 0), (vik_7 1), (vi 11), (vi 2)], xl [(vl 0)], by rw [ht]; exact hP9, hD9, ⟨(Or.inr ⟨rfl, by show True; first | trivial | omega | assumption⟩), hp1, hp4, hp5, gk_7_1, (by show (0 : Int32).toInt = 1 → (vik_7 0).toInt = (vi 12).toInt; have k9_0 : (0 : Int32).toInt = 0 := (by decide); exact fun h9 => absurd h9 (by decide)), (by unfold R_X8_readSoulLine; exact (fun Q9 k9_0 k9_1 k9_2 k9_3 k9_4 k9_5 => k9_5 hp0 hp1 c9 fik_7 flk_7 vik_7 vlk_7 rk_7 gk_7_0 gk_7_2 rfl rfl rfl rfl rfl rfl rfl rfl rfl rfl rfl rfl rfl rfl rfl rfl rfl)), trivial⟩⟩, hS.F ht⟩) hS.2.2 dX8_readSoulLine_20
abbrev pre_J0_coder_7d493_26 (T : Nat → ClassId) (a ex : Nat → Nat) (fi : Nat → Nat → Int32) (fl : Nat → Nat → Int64) (vi : Nat → Int32) (vl : Nat → Int64) : va_W := []
set_option maxHeartbeats 8000000 in
set_option maxRecDepth 100000 in
theorem c_J0_coder_7d493_26 (l : Launch) (D : va_G) (T : Nat → ClassId) (a ex : Nat → Nat) (fi : Nat → Nat → Int32) (fl : Nat → Nat → Int64) (vi : Nat → Int32) (vl : Nat → Int64) (kK kV : Nat → Nat) (sz : Nat) : Met l yJ0_coder_7d493 (xw yJ0_coder_7d493 cJ0_coder_7d493 1 (some .byte)) ({ frames := 0, cells := 0, slots := 0, locals := 0 }) (xPs D T kK kV [.ref (kK 8)] sz (pre_J0_coder_7d493_26 T a ex fi fl vi vl)) (va_Qi (fun r u => r = u) (xC D (va_A (pre_J0_coder_7d493_26 T a ex fi fl vi vl) sz) (fun fj fm vj vm => []) (fun (r : Int32) (fj : Nat → Nat → Int32) (fm : Nat → Nat → Int64) (vj : Nat → Int32) (vm : Nat → Int64) => r = 0 ∧ True)) (va_A (pre_J0_coder_7d493_26 T a ex fi fl vi vl) sz)) 0 0 (va_A (pre_J0_coder_7d493_26 T a ex fi fl vi vl) sz) := by
  refine xofW (cc := cJ0_coder_7d493) (maxL := 1) (ret := (some .byte)) (by decide) rfl ?_
  intro p e s m args below meth c s₁ R Q hR hQ B hml hv
  obtain ⟨rfl, hsz, hP, hK, hD0, hT⟩ := hv
  have hx := B.exec
  have hb := B.bytes
  have hr := B.returns
  have hts := atoms_spec (ws := xw yJ0_coder_7d493 cJ0_coder_7d493 1 (some .byte)) B.pre
  have htg : ∀ w ∈ xg, w.before _ s = true := fun w h => hts w (List.mem_cons_of_mem _ h)
  have hown : s.vm.findClass RJ0 = some m.cls := findClass_of_methodNamed B.named
  have hlocks := B.notSynchronized
  subst hsz
  have hD := hD0.self (sz := s.heap.size)
  generalize hAe : va_A (pre_J0_coder_7d493_26 T a ex fi fl vi vl) s.heap.size = A at hD hQ hT
  have hA : ∀ q : Nat, s.heap.size ≤ q → A q := fun q h => by rw [← hAe]; exact Or.inr h
  have hS : va_S A s.heap s.heap [] := va_S.rf
  replace hP : va_P D vwCl [] s.heap := hP
  replace hD : va_D A [] := hD
  have hl := lv_entry ([.ref (kK 8)]) (n := 1) (Nat.le_of_ble_eq_true rfl)
  rw [lg_entry_eq]
  generalize (lg_sl ([.ref (kK 8)]) ++ List.replicate (1 - (lg_sl ([.ref (kK 8)])).length) Slot.unset).toArray = ls at hl ⊢
  replace hl : lv_has ls 1 [(0, .ref (kK 8))] := hl
  refine va_gets hx hb hT.2.2.1 hS hown (htg _ kw_52) (fun _ h9 => h9) dJ0_coder_7d493_0 ?_
  refine lv_if_eq (tgt := 13) hx hb dJ0_coder_7d493_3 (by decide) (fun c => absurd c (by decide)) (fun _ => ?_)
  refine lv_aload_n hx hb dJ0_coder_7d493_6 rfl (lv_at hl 0 rfl) ?_
  refine vk_getf hx hb (hT.2.1 8 (by decide)).2.1 hS hown (htg _ kw_2031) (fun _ h9 => h9) dJ0_coder_7d493_7 ?_
  refine lv_goto (tgt := 14) hx hb dJ0_coder_7d493_10 (by decide) ?_
  have hP9 := hP.sub (ws' := []) [] rfl
  have hD9 := hD.sub (ws' := []) [] (by decide +kernel) rfl
  rw [hQ]
  exact W.zret (v := 0) hx hb hr rfl (fun t ht hW => ⟨⟨0, 0, rfl, rfl, xf [], xh [], xv [], xl [], by rw [ht]; exact hP9, hD9, ⟨rfl, trivial⟩⟩, hS.F ht⟩) hS.2.2 dJ0_coder_7d493_14
abbrev pre_J0_length_8abf5_26 (T : Nat → ClassId) (a ex : Nat → Nat) (fi : Nat → Nat → Int32) (fl : Nat → Nat → Int64) (vi : Nat → Int32) (vl : Nat → Int64) : va_W := []
set_option maxHeartbeats 8000000 in
set_option maxRecDepth 100000 in
theorem c_J0_length_8abf5_26 (l : Launch) (D : va_G) (T : Nat → ClassId) (a ex : Nat → Nat) (fi : Nat → Nat → Int32) (fl : Nat → Nat → Int64) (vi : Nat → Int32) (vl : Nat → Int64) (kK kV : Nat → Nat) (sz : Nat) : Met l yJ0_length_8abf5 (xw yJ0_length_8abf5 cJ0_length_8abf5 1 (some .int)) ({ frames := 1, cells := 0, slots := 0, locals := 24 }) (xPs D T kK kV [.ref (kK 8)] sz (pre_J0_length_8abf5_26 T a ex fi fl vi vl)) (va_Qi (fun r u => r = u) (xC D (va_A (pre_J0_length_8abf5_26 T a ex fi fl vi vl) sz) (fun fj fm vj vm => []) (fun (r : Int32) (fj : Nat → Nat → Int32) (fm : Nat → Nat → Int64) (vj : Nat → Int32) (vm : Nat → Int64) => r = 4 ∧ True)) (va_A (pre_J0_length_8abf5_26 T a ex fi fl vi vl) sz)) 0 0 (va_A (pre_J0_length_8abf5_26 T a ex fi fl vi vl) sz) := by
  refine xofW (cc := cJ0_length_8abf5) (maxL := 1) (ret := (some .int)) (by decide) rfl ?_
  intro p e s m args below meth c s₁ R Q hR hQ B hml hv
  obtain ⟨rfl, hsz, hP, hK, hD0, hT⟩ := hv
  have hx := B.exec
  have hb := B.bytes
  have hr := B.returns
  have hts := atoms_spec (ws := xw yJ0_length_8abf5 cJ0_length_8abf5 1 (some .int)) B.pre
  have htg : ∀ w ∈ xg, w.before _ s = true := fun w h => hts w (List.mem_cons_of_mem _ h)
  have hown : s.vm.findClass RJ0 = some m.cls := findClass_of_methodNamed B.named
  have hlocks := B.notSynchronized
  subst hsz
  have hD := hD0.self (sz := s.heap.size)
  generalize hAe : va_A (pre_J0_length_8abf5_26 T a ex fi fl vi vl) s.heap.size = A at hD hQ hT
  have hA : ∀ q : Nat, s.heap.size ≤ q → A q := fun q h => by rw [← hAe]; exact Or.inr h
  have hS : va_S A s.heap s.heap [] := va_S.rf
  replace hP : va_P D vwCl [] s.heap := hP
  replace hD : va_D A [] := hD
  have hl := lv_entry ([.ref (kK 8)]) (n := 1) (Nat.le_of_ble_eq_true rfl)
  rw [lg_entry_eq]
  generalize (lg_sl ([.ref (kK 8)]) ++ List.replicate (1 - (lg_sl ([.ref (kK 8)])).length) Slot.unset).toArray = ls at hl ⊢
  replace hl : lv_has ls 1 [(0, .ref (kK 8))] := hl
  refine lv_aload_n hx hb dJ0_length_8abf5_0 rfl (lv_at hl 0 rfl) ?_
  refine vk_getf hx hb (hT.2.1 8 (by decide)).2.2.1 hS hown (htg _ kw_2030) (fun _ h9 => h9) dJ0_length_8abf5_1 ?_
  refine va_tlen (v := 4) hx hb (hT.2.1 8 (by decide)).2.2.2 hS (by decide) dJ0_length_8abf5_4 ?_
  refine lv_aload_n hx hb dJ0_length_8abf5_5 rfl (lv_at hl 0 rfl) ?_
  obtain ⟨hC9, hPc, hDc, hFc⟩ := xcut (wc := (pre_J0_coder_7d493_26 T (xa []) (xa []) (xf []) (xh []) (xv []) (xl []))) hP hD hS hA [] (by decide) rfl
  refine va_calli (va_runV (As := []) (rest := [.int 4]) ⟨hx, hb, hml, hown, htg⟩ (c_J0_coder_7d493_26 l D T (xa []) (xa []) (xf []) (xh []) (xv []) (xl []) kK kV s.heap.size) ⟨callB_of 0 htg (xg_ok kw_51) rfl rfl rfl (htg _ kw_3) (htg _ kw_48) (by decide +kernel) ⟨by rw [hR]; exact Nat.le_of_ble_eq_true rfl, by rw [hR]; exact Nat.le_of_ble_eq_true rfl⟩, htg _ kw_49, htg _ kw_50⟩ (xpreVs hK hPc hDc hT hFc hS (xT.recv hT 8 (by decide) hS)) rfl rfl hl.1 rfl (lv_room (Nat.le_of_ble_eq_true rfl)) dJ0_length_8abf5_6 ⟨by rw [hR]; exact Nat.le_of_ble_eq_true rfl, by rw [hR]; exact Nat.le_of_ble_eq_true rfl⟩) hS (fun q _ h => hFc q h) hFc (fun r9 u9 t H1 locs ht hvm hw hB hz1 hk1 hS => ?_)
  subst hw
  obtain ⟨fik, flk, vik, vlk, hP1, hD1, hG⟩ := hB
  rw [ht] at hP1
  obtain ⟨hP, hD⟩ := va_join (wr := []) (w1 := []) hP hD [] [] hC9 rfl (by decide) (by decide) hk1 hFc hP1 hD1
  obtain ⟨rk, er9⟩ : ∃ z, z = r9 := ⟨_, rfl⟩
  subst er9
  clear hPc hDc hFc hP1 hD1 hk1 hz1 hvm ht hC9
  generalize H1 = H at hP hS ⊢
  obtain ⟨hP, hD⟩ := (show xPD D A [] H from ⟨hP, hD⟩)
  obtain ⟨gk_0, -⟩ := hG
  replace gk_0 : rk = 0 := gk_0
  refine xz_i 0 gk_0 ?_
  refine lv_ishr hx hb dJ0_length_8abf5_9 ?_
  refine xz_i 4 (by decide) ?_
  have hP9 := hP.sub (ws' := []) [] rfl
  have hD9 := hD.sub (ws' := []) [] (by decide +kernel) rfl
  rw [hQ]
  exact W.iret (v := 4) hx hb hr (fun t ht hW => ⟨⟨4, 4, rfl, rfl, xf [], xh [], xv [], xl [], by rw [ht]; exact hP9, hD9, ⟨rfl, trivial⟩⟩, hS.F ht⟩) hS.2.2 dJ0_length_8abf5_10
abbrev pre_J0_isLatin1_aae02_26 (T : Nat → ClassId) (a ex : Nat → Nat) (fi : Nat → Nat → Int32) (fl : Nat → Nat → Int64) (vi : Nat → Int32) (vl : Nat → Int64) : va_W := []
set_option maxHeartbeats 8000000 in
set_option maxRecDepth 100000 in
theorem c_J0_isLatin1_aae02_26 (l : Launch) (D : va_G) (T : Nat → ClassId) (a ex : Nat → Nat) (fi : Nat → Nat → Int32) (fl : Nat → Nat → Int64) (vi : Nat → Int32) (vl : Nat → Int64) (kK kV : Nat → Nat) (sz : Nat) : Met l yJ0_isLatin1_aae02 (xw yJ0_isLatin1_aae02 cJ0_isLatin1_aae02 1 (some .boolean)) ({ frames := 0, cells := 0, slots := 0, locals := 0 }) (xPs D T kK kV [.ref (kK 8)] sz (pre_J0_isLatin1_aae02_26 T a ex fi fl vi vl)) (va_Qi (fun r u => r = u) (xC D (va_A (pre_J0_isLatin1_aae02_26 T a ex fi fl vi vl) sz) (fun fj fm vj vm => []) (fun (r : Int32) (fj : Nat → Nat → Int32) (fm : Nat → Nat → Int64) (vj : Nat → Int32) (vm : Nat → Int64) => r = 1 ∧ True)) (va_A (pre_J0_isLatin1_aae02_26 T a ex fi fl vi vl) sz)) 0 0 (va_A (pre_J0_isLatin1_aae02_26 T a ex fi fl vi vl) sz) := by
  refine xofW (cc := cJ0_isLatin1_aae02) (maxL := 1) (ret := (some .boolean)) (by decide) rfl ?_
  intro p e s m args below meth c s₁ R Q hR hQ B hml hv
  obtain ⟨rfl, hsz, hP, hK, hD0, hT⟩ := hv
  have hx := B.exec
  have hb := B.bytes
  have hr := B.returns
  have hts := atoms_spec (ws := xw yJ0_isLatin1_aae02 cJ0_isLatin1_aae02 1 (some .boolean)) B.pre
  have htg : ∀ w ∈ xg, w.before _ s = true := fun w h => hts w (List.mem_cons_of_mem _ h)
  have hown : s.vm.findClass RJ0 = some m.cls := findClass_of_methodNamed B.named
  have hlocks := B.notSynchronized
  subst hsz
  have hD := hD0.self (sz := s.heap.size)
  generalize hAe : va_A (pre_J0_isLatin1_aae02_26 T a ex fi fl vi vl) s.heap.size = A at hD hQ hT
  have hA : ∀ q : Nat, s.heap.size ≤ q → A q := fun q h => by rw [← hAe]; exact Or.inr h
  have hS : va_S A s.heap s.heap [] := va_S.rf
  replace hP : va_P D vwCl [] s.heap := hP
  replace hD : va_D A [] := hD
  have hl := lv_entry ([.ref (kK 8)]) (n := 1) (Nat.le_of_ble_eq_true rfl)
  rw [lg_entry_eq]
  generalize (lg_sl ([.ref (kK 8)]) ++ List.replicate (1 - (lg_sl ([.ref (kK 8)])).length) Slot.unset).toArray = ls at hl ⊢
  replace hl : lv_has ls 1 [(0, .ref (kK 8))] := hl
  refine va_gets hx hb hT.2.2.1 hS hown (htg _ kw_52) (fun _ h9 => h9) dJ0_isLatin1_aae02_0 ?_
  refine lv_if_eq (tgt := 17) hx hb dJ0_isLatin1_aae02_3 (by decide) (fun c => absurd c (by decide)) (fun _ => ?_)
  refine lv_aload_n hx hb dJ0_isLatin1_aae02_6 rfl (lv_at hl 0 rfl) ?_
  refine vk_getf hx hb (hT.2.1 8 (by decide)).2.1 hS hown (htg _ kw_2031) (fun _ h9 => h9) dJ0_isLatin1_aae02_7 ?_
  refine lv_if_ne (tgt := 17) hx hb dJ0_isLatin1_aae02_10 (by decide) (fun c => absurd (by decide) c) (fun _ => ?_)
  refine lv_iconst (v := 1) hx hb dJ0_isLatin1_aae02_13 (by decide) ?_
  refine lv_goto (tgt := 18) hx hb dJ0_isLatin1_aae02_14 (by decide) ?_
  have hP9 := hP.sub (ws' := []) [] rfl
  have hD9 := hD.sub (ws' := []) [] (by decide +kernel) rfl
  rw [hQ]
  exact W.zret (v := 1) hx hb hr rfl (fun t ht hW => ⟨⟨1, 1, rfl, rfl, xf [], xh [], xv [], xl [], by rw [ht]; exact hP9, hD9, ⟨rfl, trivial⟩⟩, hS.F ht⟩) hS.2.2 dJ0_isLatin1_aae02_18
abbrev pre_J1_charAt_3b067_26 (T : Nat → ClassId) (a ex : Nat → Nat) (fi : Nat → Nat → Int32) (fl : Nat → Nat → Int64) (vi : Nat → Int32) (vl : Nat → Int64) : va_W := []
set_option maxHeartbeats 8000000 in
set_option maxRecDepth 100000 in
theorem c_J1_charAt_3b067_26 (l : Launch) (D : va_G) (T : Nat → ClassId) (a ex : Nat → Nat) (fi : Nat → Nat → Int32) (fl : Nat → Nat → Int64) (vi : Nat → Int32) (vl : Nat → Int64) (kK kV : Nat → Nat) (sz : Nat) (hp0 : 0 ≤ (vi 0).toInt ∧ (vi 0).toInt ≤ 3) : Met l yJ1_charAt_3b067 (xw yJ1_charAt_3b067 cJ1_charAt_3b067 2 (some .char)) ({ frames := 2, cells := 0, slots := 0, locals := 51 }) (xPs D T kK kV [.ref (kV 8), .int (vi 0)] sz (pre_J1_charAt_3b067_26 T a ex fi fl vi vl)) (va_Qi (fun r u => r = u) (xC D (va_A (pre_J1_charAt_3b067_26 T a ex fi fl vi vl) sz) (fun fj fm vj vm => []) (fun (r : Int32) (fj : Nat → Nat → Int32) (fm : Nat → Nat → Int64) (vj : Nat → Int32) (vm : Nat → Int64) => narrow .char (.int r) = .int r ∧ R_J1_charAt_3b067_26 fi fl vi vl r fj fm vj vm ∧ True)) (va_A (pre_J1_charAt_3b067_26 T a ex fi fl vi vl) sz)) 0 0 (va_A (pre_J1_charAt_3b067_26 T a ex fi fl vi vl) sz) := by
  refine xofW (cc := cJ1_charAt_3b067) (maxL := 2) (ret := (some .char)) (by decide) rfl ?_
  intro p e s m args below meth c s₁ R Q hR hQ B hml hv
  obtain ⟨rfl, hsz, hP, hK, hD0, hT⟩ := hv
  have hx := B.exec
  have hb := B.bytes
  have hr := B.returns
  have hts := atoms_spec (ws := xw yJ1_charAt_3b067 cJ1_charAt_3b067 2 (some .char)) B.pre
  have htg : ∀ w ∈ xg, w.before _ s = true := fun w h => hts w (List.mem_cons_of_mem _ h)
  have hown : s.vm.findClass RJ1 = some m.cls := findClass_of_methodNamed B.named
  have hlocks := B.notSynchronized
  subst hsz
  have hD := hD0.self (sz := s.heap.size)
  generalize hAe : va_A (pre_J1_charAt_3b067_26 T a ex fi fl vi vl) s.heap.size = A at hD hQ hT
  have hA : ∀ q : Nat, s.heap.size ≤ q → A q := fun q h => by rw [← hAe]; exact Or.inr h
  have hS : va_S A s.heap s.heap [] := va_S.rf
  replace hP : va_P D vwCl [] s.heap := hP
  replace hD : va_D A [] := hD
  have hl := lv_entry ([.ref (kV 8), .int (vi 0)]) (n := 2) (Nat.le_of_ble_eq_true rfl)
  rw [lg_entry_eq]
  generalize (lg_sl ([.ref (kV 8), .int (vi 0)]) ++ List.replicate (2 - (lg_sl ([.ref (kV 8), .int (vi 0)])).length) Slot.unset).toArray = ls at hl ⊢
  replace hl : lv_has ls 2 [(0, .ref (kV 8)), (1, .int (vi 0))] := hl
  refine lv_iload_n hx hb dJ1_charAt_3b067_0 rfl (lv_at hl 1 rfl) ?_
  refine lv_aload_n hx hb dJ1_charAt_3b067_1 rfl (lv_at hl 0 rfl) ?_
  refine va_tlen (v := 4) hx hb (hT.2.1 8 (by decide)).2.2.2 hS (by decide) dJ1_charAt_3b067_2 ?_
  obtain ⟨hC9, hPc, hDc, hFc⟩ := xcut (wc := (pre_J0_checkIndex_df160_3 T (xa []) (xa []) (xf []) (xh []) (xv [(vi 0)]) (xl []))) hP hD hS hA [] (by decide) rfl
  refine va_callv (va_runS (As := [.int (vi 0), .int 4]) (rest := []) ⟨hx, hb, hml, hown, htg⟩ (c_J0_checkIndex_df160_3 l D T (xa []) (xa []) (xf []) (xh []) (xv [(vi 0)]) (xl []) kK kV s.heap.size hp0) ⟨callB_of 2 htg (xg_ok kw_67) rfl rfl rfl (htg _ kw_3) (htg _ kw_65) (by decide +kernel) ⟨by rw [hR]; exact Nat.le_of_ble_eq_true rfl, by rw [hR]; exact Nat.le_of_ble_eq_true rfl⟩, htg _ kw_66⟩ (xpreSs hK hPc hDc hT hFc hS) rfl rfl hl.1 rfl (lv_room (Nat.le_of_ble_eq_true rfl)) dJ1_charAt_3b067_3 ⟨by rw [hR]; exact Nat.le_of_ble_eq_true rfl, by rw [hR]; exact Nat.le_of_ble_eq_true rfl⟩) hS (fun q _ h => hFc q h) hFc (fun u9 t H1 locs ht hvm hw hB hz1 hk1 hS => ?_)
  obtain ⟨fik, flk, vik, vlk, hP1, hD1, hG⟩ := hB
  rw [ht] at hP1
  obtain ⟨hP, hD⟩ := va_join (wr := []) (w1 := []) hP hD [] [] hC9 rfl (by decide) (by decide) hk1 hFc hP1 hD1
  clear hPc hDc hFc hP1 hD1 hk1 hz1 hvm ht hC9
  generalize H1 = H at hP hS ⊢
  obtain ⟨hP, hD⟩ := (show xPD D A [] H from ⟨hP, hD⟩)
  obtain ⟨uk, eu9⟩ : ∃ z, z = u9 := ⟨_, rfl⟩
  subst eu9
  clear hG
  refine lv_aload_n hx hb dJ1_charAt_3b067_6 rfl (lv_at hl 0 rfl) ?_
  refine lv_iload_n hx hb dJ1_charAt_3b067_7 rfl (lv_at hl 1 rfl) ?_
  refine va_tb hx hb (hT.2.1 8 (by decide)).2.2.2 hS (show vp_in (vi 0) 4 from (vp_in_iff.mpr (by omega))) rfl dJ1_charAt_3b067_8 ?_
  refine lv_topi (fun z8 ez8 => ?_)
  refine lv_sipush (v := 255) hx hb dJ1_charAt_3b067_9 (by decide) ?_
  refine lv_iand hx hb dJ1_charAt_3b067_12 ?_
  refine lv_topi (fun z12 ez12 => ?_)
  have tz12 : 0 ≤ z12.toInt ∧ z12.toInt ≤ 255 := by rw [ez12]; exact xand255 _
  refine lv_i2c hx hb dJ1_charAt_3b067_13 rfl ?_
  refine lv_topi (fun z13 ez13 => ?_)
  have nz13 : narrow .char (.int z13) = .int z13 := by rw [ez13]; exact pk_nc _
  have hP9 := hP.sub (ws' := []) [] rfl
  have hD9 := hD.sub (ws' := []) [] (by decide +kernel) rfl
  rw [hQ]
  exact W.zret (v := z13) hx hb hr nz13 (fun t ht hW => ⟨⟨z13, z13, rfl, rfl, xf [], xh [], xv [], xl [], by rw [ht]; exact hP9, hD9, ⟨nz13, (by unfold R_J1_charAt_3b067_26; exact (fun Q9 k9_0 => k9_0 hp0 fik flk vik vlk uk z8 ez8 z12 ez12 z13 ez13 rfl)), trivial⟩⟩, hS.F ht⟩) hS.2.2 dJ1_charAt_3b067_14
abbrev pre_J0_charAt_5068e_26 (T : Nat → ClassId) (a ex : Nat → Nat) (fi : Nat → Nat → Int32) (fl : Nat → Nat → Int64) (vi : Nat → Int32) (vl : Nat → Int64) : va_W := []
set_option maxHeartbeats 8000000 in
set_option maxRecDepth 100000 in
theorem c_J0_charAt_5068e_26 (l : Launch) (D : va_G) (T : Nat → ClassId) (a ex : Nat → Nat) (fi : Nat → Nat → Int32) (fl : Nat → Nat → Int64) (vi : Nat → Int32) (vl : Nat → Int64) (kK kV : Nat → Nat) (sz : Nat) (hp0 : 0 ≤ (vi 0).toInt ∧ (vi 0).toInt ≤ 3) : Met l yJ0_charAt_5068e (xw yJ0_charAt_5068e cJ0_charAt_5068e 2 (some .char)) ({ frames := 3, cells := 0, slots := 0, locals := 76 }) (xPs D T kK kV [.ref (kK 8), .int (vi 0)] sz (pre_J0_charAt_5068e_26 T a ex fi fl vi vl)) (va_Qi (fun r u => r = u) (xC D (va_A (pre_J0_charAt_5068e_26 T a ex fi fl vi vl) sz) (fun fj fm vj vm => []) (fun (r : Int32) (fj : Nat → Nat → Int32) (fm : Nat → Nat → Int64) (vj : Nat → Int32) (vm : Nat → Int64) => narrow .char (.int r) = .int r ∧ R_J0_charAt_5068e_26 fi fl vi vl r fj fm vj vm ∧ True)) (va_A (pre_J0_charAt_5068e_26 T a ex fi fl vi vl) sz)) 0 0 (va_A (pre_J0_charAt_5068e_26 T a ex fi fl vi vl) sz) := by
  refine xofW (cc := cJ0_charAt_5068e) (maxL := 2) (ret := (some .char)) (by decide) rfl ?_
  intro p e s m args below meth c s₁ R Q hR hQ B hml hv
  obtain ⟨rfl, hsz, hP, hK, hD0, hT⟩ := hv
  have hx := B.exec
  have hb := B.bytes
  have hr := B.returns
  have hts := atoms_spec (ws := xw yJ0_charAt_5068e cJ0_charAt_5068e 2 (some .char)) B.pre
  have htg : ∀ w ∈ xg, w.before _ s = true := fun w h => hts w (List.mem_cons_of_mem _ h)
  have hown : s.vm.findClass RJ0 = some m.cls := findClass_of_methodNamed B.named
  have hlocks := B.notSynchronized
  subst hsz
  have hD := hD0.self (sz := s.heap.size)
  generalize hAe : va_A (pre_J0_charAt_5068e_26 T a ex fi fl vi vl) s.heap.size = A at hD hQ hT
  have hA : ∀ q : Nat, s.heap.size ≤ q → A q := fun q h => by rw [← hAe]; exact Or.inr h
  have hS : va_S A s.heap s.heap [] := va_S.rf
  replace hP : va_P D vwCl [] s.heap := hP
  replace hD : va_D A [] := hD
  have hl := lv_entry ([.ref (kK 8), .int (vi 0)]) (n := 2) (Nat.le_of_ble_eq_true rfl)
  rw [lg_entry_eq]
  generalize (lg_sl ([.ref (kK 8), .int (vi 0)]) ++ List.replicate (2 - (lg_sl ([.ref (kK 8), .int (vi 0)])).length) Slot.unset).toArray = ls at hl ⊢
  replace hl : lv_has ls 2 [(0, .ref (kK 8)), (1, .int (vi 0))] := hl
  refine lv_aload_n hx hb dJ0_charAt_5068e_0 rfl (lv_at hl 0 rfl) ?_
  obtain ⟨hC9, hPc, hDc, hFc⟩ := xcut (wc := (pre_J0_isLatin1_aae02_26 T (xa []) (xa []) (xf []) (xh []) (xv []) (xl []))) hP hD hS hA [] (by decide) rfl
  refine va_calli (va_runV (As := []) (rest := []) ⟨hx, hb, hml, hown, htg⟩ (c_J0_isLatin1_aae02_26 l D T (xa []) (xa []) (xf []) (xh []) (xv []) (xl []) kK kV s.heap.size) ⟨callB_of 0 htg (xg_ok kw_61) rfl rfl rfl (htg _ kw_3) (htg _ kw_58) (by decide +kernel) ⟨by rw [hR]; exact Nat.le_of_ble_eq_true rfl, by rw [hR]; exact Nat.le_of_ble_eq_true rfl⟩, htg _ kw_59, htg _ kw_60⟩ (xpreVs hK hPc hDc hT hFc hS (xT.recv hT 8 (by decide) hS)) rfl rfl hl.1 rfl (lv_room (Nat.le_of_ble_eq_true rfl)) dJ0_charAt_5068e_1 ⟨by rw [hR]; exact Nat.le_of_ble_eq_true rfl, by rw [hR]; exact Nat.le_of_ble_eq_true rfl⟩) hS (fun q _ h => hFc q h) hFc (fun r9 u9 t H1 locs ht hvm hw hB hz1 hk1 hS => ?_)
  subst hw
  obtain ⟨fik, flk, vik, vlk, hP1, hD1, hG⟩ := hB
  rw [ht] at hP1
  obtain ⟨hP, hD⟩ := va_join (wr := []) (w1 := []) hP hD [] [] hC9 rfl (by decide) (by decide) hk1 hFc hP1 hD1
  obtain ⟨rk, er9⟩ : ∃ z, z = r9 := ⟨_, rfl⟩
  subst er9
  clear hPc hDc hFc hP1 hD1 hk1 hz1 hvm ht hC9
  generalize H1 = H at hP hS ⊢
  obtain ⟨hP, hD⟩ := (show xPD D A [] H from ⟨hP, hD⟩)
  obtain ⟨gk_0, -⟩ := hG
  replace gk_0 : rk = 1 := gk_0
  refine xz_i 1 gk_0 ?_
  refine lv_if_eq (tgt := 16) hx hb dJ0_charAt_5068e_4 (by decide) (fun c => absurd c (by decide)) (fun _ => ?_)
  refine lv_aload_n hx hb dJ0_charAt_5068e_7 rfl (lv_at hl 0 rfl) ?_
  refine vk_getf hx hb (hT.2.1 8 (by decide)).2.2.1 hS hown (htg _ kw_2030) (fun _ h9 => h9) dJ0_charAt_5068e_8 ?_
  refine lv_iload_n hx hb dJ0_charAt_5068e_11 rfl (lv_at hl 1 rfl) ?_
  obtain ⟨hC9, hPc, hDc, hFc⟩ := xcut (wc := (pre_J1_charAt_3b067_26 T (xa []) (xa []) (xf []) (xh []) (xv [(vi 0)]) (xl []))) hP hD hS hA [] (by decide) rfl
  refine va_calli (va_runS (As := [.ref (kV 8), .int (vi 0)]) (rest := []) ⟨hx, hb, hml, hown, htg⟩ (c_J1_charAt_3b067_26 l D T (xa []) (xa []) (xf []) (xh []) (xv [(vi 0)]) (xl []) kK kV H.size hp0) ⟨callB_of 2 htg (xg_ok kw_64) rfl rfl rfl (htg _ kw_4) (htg _ kw_62) (by decide +kernel) ⟨by rw [hR]; exact Nat.le_of_ble_eq_true rfl, by rw [hR]; exact Nat.le_of_ble_eq_true rfl⟩, htg _ kw_63⟩ (xpreSs hK hPc hDc hT hFc hS) rfl rfl hl.1 rfl (lv_room (Nat.le_of_ble_eq_true rfl)) dJ0_charAt_5068e_12 ⟨by rw [hR]; exact Nat.le_of_ble_eq_true rfl, by rw [hR]; exact Nat.le_of_ble_eq_true rfl⟩) hS (fun q _ h => hFc q h) hFc (fun r9 u9 t H1 locs ht hvm hw hB hz1 hk1 hS => ?_)
  subst hw
  obtain ⟨fik_1, flk_1, vik_1, vlk_1, hP1, hD1, hG⟩ := hB
  rw [ht] at hP1
  obtain ⟨hP, hD⟩ := va_join (wr := []) (w1 := []) hP hD [] [] hC9 rfl (by decide) (by decide) hk1 hFc hP1 hD1
  obtain ⟨rk_1, er9⟩ : ∃ z, z = r9 := ⟨_, rfl⟩
  subst er9
  clear hPc hDc hFc hP1 hD1 hk1 hz1 hvm ht hC9
  generalize H1 = H at hP hS ⊢
  obtain ⟨hP, hD⟩ := (show xPD D A [] H from ⟨hP, hD⟩)
  obtain ⟨gk_1_0, gk_1_1, -⟩ := hG
  replace gk_1_1 : rk_1 = (sBy.getD 8 []).getD ((vi 0).toInt).toNat 0 := (P_J1_charAt_3b067_26 gk_1_1 : _)
  replace gk_1_0 : narrow .char (.int rk_1) = .int rk_1 := gk_1_0
  have hP9 := hP.sub (ws' := []) [] rfl
  have hD9 := hD.sub (ws' := []) [] (by decide +kernel) rfl
  rw [hQ]
  exact W.zret (v := rk_1) hx hb hr gk_1_0 (fun t ht hW => ⟨⟨rk_1, rk_1, rfl, rfl, xf [], xh [], xv [], xl [], by rw [ht]; exact hP9, hD9, ⟨gk_1_0, (by unfold R_J0_charAt_5068e_26; exact (fun Q9 k9_0 => k9_0 hp0 fik flk vik vlk rk gk_0 fik_1 flk_1 vik_1 vlk_1 rk_1 gk_1_1 rfl)), trivial⟩⟩, hS.F ht⟩) hS.2.2 dJ0_charAt_5068e_15
abbrev pre_X6_isWord_26 (T : Nat → ClassId) (a ex : Nat → Nat) (fi : Nat → Nat → Int32) (fl : Nat → Nat → Int64) (vi : Nat → Int32) (vl : Nat → Int64) : va_W := [((a 0), .inr (6, [.ref (ex 0), .ref (ex 1), .int (vi 0), .int (vi 1), .int (vi 2), .int (vi 3), .int (vi 4), .int (vi 5), .long (vl 0), .int (vi 6), .int (vi 7), .int (vi 8), .int (vi 9), .int (vi 10)]))]
set_option maxHeartbeats 8000000 in
set_option maxRecDepth 100000 in
theorem c_X6_isWord_26 (l : Launch) (D : va_G) (T : Nat → ClassId) (a ex : Nat → Nat) (fi : Nat → Nat → Int32) (fl : Nat → Nat → Int64) (vi : Nat → Int32) (vl : Nat → Int64) (kK kV : Nat → Nat) (sz : Nat) (hp0 : 0 ≤ (vi 1).toInt ∧ (vi 1).toInt ≤ 940) (hp1 : 0 ≤ (vi 2).toInt ∧ (vi 2).toInt ≤ 940) (hp2 : 0 ≤ (vi 3).toInt ∧ (vi 3).toInt ≤ 940) (hp3 : 0 ≤ (vi 5).toInt ∧ (vi 5).toInt ≤ 940) (hp4 : 0 ≤ (vi 10).toInt ∧ (vi 10).toInt ≤ 940) : Met l yX6_isWord (xw yX6_isWord cX6_isWord 5 (some .boolean)) ({ frames := 4, cells := 0, slots := 0, locals := 101 }) (xPs D T kK kV [.ref (a 0), .ref (kK 8)] sz (pre_X6_isWord_26 T a ex fi fl vi vl)) (va_Qi (fun r u => r = u) (xC D (va_A (pre_X6_isWord_26 T a ex fi fl vi vl) sz) (fun fj fm vj vm => [((a 0), .inr (6, [.ref (ex 0), .ref (ex 1), .int (vi 0), .int (vi 1), .int (vi 2), .int (vi 3), .int (vi 4), .int (vi 5), .long (vl 0), .int (vi 6), .int (vi 7), .int (vi 8), .int (vi 9), .int (vi 10)]))]) (fun (r : Int32) (fj : Nat → Nat → Int32) (fm : Nat → Nat → Int64) (vj : Nat → Int32) (vm : Nat → Int64) => ((r = 1 ∧ (True)) ∨ (r = 0 ∧ (True))) ∧ R_X6_isWord_26 fi fl vi vl r fj fm vj vm ∧ True)) (va_A (pre_X6_isWord_26 T a ex fi fl vi vl) sz)) 0 0 (va_A (pre_X6_isWord_26 T a ex fi fl vi vl) sz) := by
  refine xofW (cc := cX6_isWord) (maxL := 5) (ret := (some .boolean)) (by decide) rfl ?_
  intro p e s m args below meth c s₁ R Q hR hQ B hml hv
  obtain ⟨rfl, hsz, hP, hK, hD0, hT⟩ := hv
  have hx := B.exec
  have hb := B.bytes
  have hr := B.returns
  have hts := atoms_spec (ws := xw yX6_isWord cX6_isWord 5 (some .boolean)) B.pre
  have htg : ∀ w ∈ xg, w.before _ s = true := fun w h => hts w (List.mem_cons_of_mem _ h)
  have hown : s.vm.findClass RX6 = some m.cls := findClass_of_methodNamed B.named
  have hlocks := B.notSynchronized
  subst hsz
  have hD := hD0.self (sz := s.heap.size)
  generalize hAe : va_A (pre_X6_isWord_26 T a ex fi fl vi vl) s.heap.size = A at hD hQ hT
  have hA : ∀ q : Nat, s.heap.size ≤ q → A q := fun q h => by rw [← hAe]; exact Or.inr h
  have hS : va_S A s.heap s.heap [] := va_S.rf
  replace hP : va_P D vwCl [((a 0), .inr (6, [.ref (ex 0), .ref (ex 1), .int (vi 0), .int (vi 1), .int (vi 2), .int (vi 3), .int (vi 4), .int (vi 5), .long (vl 0), .int (vi 6), .int (vi 7), .int (vi 8), .int (vi 9), .int (vi 10)]))] s.heap := hP
  replace hD : va_D A [((a 0), .inr (6, [.ref (ex 0), .ref (ex 1), .int (vi 0), .int (vi 1), .int (vi 2), .int (vi 3), .int (vi 4), .int (vi 5), .long (vl 0), .int (vi 6), .int (vi 7), .int (vi 8), .int (vi 9), .int (vi 10)]))] := hD
  have hl := lv_entry ([.ref (a 0), .ref (kK 8)]) (n := 5) (Nat.le_of_ble_eq_true rfl)
  rw [lg_entry_eq]
  generalize (lg_sl ([.ref (a 0), .ref (kK 8)]) ++ List.replicate (5 - (lg_sl ([.ref (a 0), .ref (kK 8)])).length) Slot.unset).toArray = ls at hl ⊢
  replace hl : lv_has ls 5 [(0, .ref (a 0)), (1, .ref (kK 8))] := hl
  refine lv_lconst (v := 0) hx hb dX6_isWord_0 (by decide) ?_
  refine lv_lstore_n (lv' := [(2, .long 0), (0, .ref (a 0)), (1, .ref (kK 8))]) hx hb dX6_isWord_1 rfl hl (by decide) rfl (fun ls hl => ?_)
  refine lv_iconst (v := 0) hx hb dX6_isWord_2 (by decide) ?_
  refine lv_istore (lv' := [(4, .int 0), (2, .long 0), (0, .ref (a 0)), (1, .ref (kK 8))]) hx hb dX6_isWord_3 hl (by decide) rfl (fun ls hl => ?_)
  have lp : ∀ (kn : Nat) (w4 : Int32) (w2 : Int64) (H : Heap) (locs : List Loc) (ls : Array Slot), (0 ≤ w4.toInt ∧ w4.toInt ≤ 4) → (w2 = pkw (sBy.getD 8 []) (w4.toInt).toNat) → (2147483648 - w4.toInt).toNat = kn → va_P D vwCl [((a 0), .inr (6, [.ref (ex 0), .ref (ex 1), .int (vi 0), .int (vi 1), .int (vi 2), .int (vi 3), .int (vi 4), .int (vi 5), .long (vl 0), .int (vi 6), .int (vi 7), .int (vi 8), .int (vi 9), .int (vi 10)]))] H → va_D A [((a 0), .inr (6, [.ref (ex 0), .ref (ex 1), .int (vi 0), .int (vi 1), .int (vi 2), .int (vi 3), .int (vi 4), .int (vi 5), .long (vl 0), .int (vi 6), .int (vi 7), .int (vi 8), .int (vi 9), .int (vi 10)]))] → va_S A s.heap H locs → lv_has ls 5 [(4, .int w4), (2, .long w2), (0, .ref (a 0)), (1, .ref (kK 8))] → W p l e R s m ([.ref (a 0), .ref (kK 8)] : List Value).toArray below meth c H locs 0 0 Q (F0 m 5 ls []) := by
    intro kn
    induction kn using Nat.strongRecOn with
    | _ kn ih =>
      intro w4 w2 H locs ls hi hpk9 hm hP hD hS hl
      refine lv_iload hx hb dX6_isWord_5 (lv_at hl 0 rfl) ?_
      refine lv_aload_n hx hb dX6_isWord_7 rfl (lv_at hl 3 rfl) ?_
      obtain ⟨hC9, hPc, hDc, hFc⟩ := xcut (wc := (pre_J0_length_8abf5_26 T (xa []) (xa []) (xf []) (xh []) (xv []) (xl []))) hP hD hS hA [] (by decide) rfl
      refine va_calli (va_runV (As := []) (rest := [.int w4]) ⟨hx, hb, hml, hown, htg⟩ (c_J0_length_8abf5_26 l D T (xa []) (xa []) (xf []) (xh []) (xv []) (xl []) kK kV H.size) ⟨callB_of 0 htg (xg_ok kw_47) rfl rfl rfl (htg _ kw_3) (htg _ kw_44) (by decide +kernel) ⟨by rw [hR]; exact Nat.le_of_ble_eq_true rfl, by rw [hR]; exact Nat.le_of_ble_eq_true rfl⟩, htg _ kw_45, htg _ kw_46⟩ (xpreVs hK hPc hDc hT hFc hS (xT.recv hT 8 (by decide) hS)) rfl rfl hl.1 rfl (lv_room (Nat.le_of_ble_eq_true rfl)) dX6_isWord_8 ⟨by rw [hR]; exact Nat.le_of_ble_eq_true rfl, by rw [hR]; exact Nat.le_of_ble_eq_true rfl⟩) hS (fun q _ h => hFc q h) hFc (fun r9 u9 t H1 locs ht hvm hw hB hz1 hk1 hS => ?_)
      subst hw
      obtain ⟨fik, flk, vik, vlk, hP1, hD1, hG⟩ := hB
      rw [ht] at hP1
      obtain ⟨hP, hD⟩ := va_join (wr := [((a 0), .inr (6, [.ref (ex 0), .ref (ex 1), .int (vi 0), .int (vi 1), .int (vi 2), .int (vi 3), .int (vi 4), .int (vi 5), .long (vl 0), .int (vi 6), .int (vi 7), .int (vi 8), .int (vi 9), .int (vi 10)]))]) (w1 := []) hP hD [] [0] hC9 rfl (by decide) (by decide) hk1 hFc hP1 hD1
      obtain ⟨rk, er9⟩ : ∃ z, z = r9 := ⟨_, rfl⟩
      subst er9
      clear hPc hDc hFc hP1 hD1 hk1 hz1 hvm ht hC9
      generalize H1 = H at hP hS ⊢
      obtain ⟨hP, hD⟩ := (show xPD D A [((a 0), .inr (6, [.ref (ex 0), .ref (ex 1), .int (vi 0), .int (vi 1), .int (vi 2), .int (vi 3), .int (vi 4), .int (vi 5), .long (vl 0), .int (vi 6), .int (vi 7), .int (vi 8), .int (vi 9), .int (vi 10)]))] H from ⟨hP, hD⟩)
      obtain ⟨gk_0, -⟩ := hG
      replace gk_0 : rk = 4 := gk_0
      refine xz_i 4 gk_0 ?_
      refine lv_icmp_ge (tgt := 33) hx hb dX6_isWord_11 (by decide) (fun c11 => ?_) (fun c11 => ?_)
      · have c11 := xge (k := 4) (by decide) c11
        refine lv_aload_n hx hb dX6_isWord_33 rfl (lv_at hl 2 rfl) ?_
        refine va_get (D := D) (ci := 6) (v := .int (vi 4)) (C := RX6) (T := TX6) (N := 14) hx hb htg inX6 hown hK.1 hP 0 rfl rfl 6 (by decide) (htg _ kw_104) (fun _ h9 => h9) rfl dX6_isWord_34 ?_
        refine lv_iconst (v := 1) hx hb dX6_isWord_37 (by decide) ?_
        refine lv_icmp_ne (tgt := 54) hx hb dX6_isWord_38 (by decide) (fun c38 => ?_) (fun c38 => ?_)
        · have c38 := xne (k := 1) (by decide) c38
          refine lv_iconst (v := 0) hx hb dX6_isWord_54 (by decide) ?_
          have hP9 := hP.sub (ws' := [((a 0), .inr (6, [.ref (ex 0), .ref (ex 1), .int (vi 0), .int (vi 1), .int (vi 2), .int (vi 3), .int (vi 4), .int (vi 5), .long (vl 0), .int (vi 6), .int (vi 7), .int (vi 8), .int (vi 9), .int (vi 10)]))]) [0] rfl
          have hD9 := hD.sub (ws' := [((a 0), .inr (6, [.ref (ex 0), .ref (ex 1), .int (vi 0), .int (vi 1), .int (vi 2), .int (vi 3), .int (vi 4), .int (vi 5), .long (vl 0), .int (vi 6), .int (vi 7), .int (vi 8), .int (vi 9), .int (vi 10)]))]) [0] (by decide +kernel) rfl
          rw [hQ]
          exact W.zret (v := 0) hx hb hr rfl (fun t ht hW => ⟨⟨0, 0, rfl, rfl, xf [], xh [], xv [], xl [], by rw [ht]; exact hP9, hD9, ⟨(Or.inr ⟨rfl, by show True; first | trivial | omega | assumption⟩), (by unfold R_X6_isWord_26; exact (fun Q9 k9_0 k9_1 k9_2 => k9_0 hp0 hp1 hp2 hp3 hp4 w4 w2 hi hpk9 fik flk vik vlk rk gk_0 c11 c38 rfl)), trivial⟩⟩, hS.F ht⟩) hS.2.2 dX6_isWord_55
        · have c38 := xeq (k := 1) (by decide) c38
          refine lv_lload_n hx hb dX6_isWord_41 rfl (lv_at hl 1 rfl) ?_
          refine lv_aload_n hx hb dX6_isWord_42 rfl (lv_at hl 2 rfl) ?_
          refine va_get (D := D) (ci := 6) (v := .long (vl 0)) (C := RX6) (T := TX6) (N := 14) hx hb htg inX6 hown hK.1 hP 0 rfl rfl 8 (by decide) (htg _ kw_108) (fun _ h9 => h9) rfl dX6_isWord_43 ?_
          refine W.lcmp hx hb dX6_isWord_46 ?_
          refine lv_topi (fun z46 ez46 => ?_)
          refine lv_if_ne (tgt := 54) hx hb dX6_isWord_47 (by decide) (fun c47 => ?_) (fun c47 => ?_)
          · have c47 := xne (k := 0) (by decide) c47
            refine lv_iconst (v := 0) hx hb dX6_isWord_54 (by decide) ?_
            have hP9 := hP.sub (ws' := [((a 0), .inr (6, [.ref (ex 0), .ref (ex 1), .int (vi 0), .int (vi 1), .int (vi 2), .int (vi 3), .int (vi 4), .int (vi 5), .long (vl 0), .int (vi 6), .int (vi 7), .int (vi 8), .int (vi 9), .int (vi 10)]))]) [0] rfl
            have hD9 := hD.sub (ws' := [((a 0), .inr (6, [.ref (ex 0), .ref (ex 1), .int (vi 0), .int (vi 1), .int (vi 2), .int (vi 3), .int (vi 4), .int (vi 5), .long (vl 0), .int (vi 6), .int (vi 7), .int (vi 8), .int (vi 9), .int (vi 10)]))]) [0] (by decide +kernel) rfl
            rw [hQ]
            exact W.zret (v := 0) hx hb hr rfl (fun t ht hW => ⟨⟨0, 0, rfl, rfl, xf [], xh [], xv [], xl [], by rw [ht]; exact hP9, hD9, ⟨(Or.inr ⟨rfl, by show True; first | trivial | omega | assumption⟩), (by unfold R_X6_isWord_26; exact (fun Q9 k9_0 k9_1 k9_2 => k9_1 hp0 hp1 hp2 hp3 hp4 w4 w2 hi hpk9 fik flk vik vlk rk gk_0 c11 c38 z46 ez46 c47 rfl)), trivial⟩⟩, hS.F ht⟩) hS.2.2 dX6_isWord_55
          · have c47 := xeq (k := 0) (by decide) c47
            refine lv_iconst (v := 1) hx hb dX6_isWord_50 (by decide) ?_
            refine lv_goto (tgt := 55) hx hb dX6_isWord_51 (by decide) ?_
            have hP9 := hP.sub (ws' := [((a 0), .inr (6, [.ref (ex 0), .ref (ex 1), .int (vi 0), .int (vi 1), .int (vi 2), .int (vi 3), .int (vi 4), .int (vi 5), .long (vl 0), .int (vi 6), .int (vi 7), .int (vi 8), .int (vi 9), .int (vi 10)]))]) [0] rfl
            have hD9 := hD.sub (ws' := [((a 0), .inr (6, [.ref (ex 0), .ref (ex 1), .int (vi 0), .int (vi 1), .int (vi 2), .int (vi 3), .int (vi 4), .int (vi 5), .long (vl 0), .int (vi 6), .int (vi 7), .int (vi 8), .int (vi 9), .int (vi 10)]))]) [0] (by decide +kernel) rfl
            rw [hQ]
            exact W.zret (v := 1) hx hb hr rfl (fun t ht hW => ⟨⟨1, 1, rfl, rfl, xf [], xh [], xv [], xl [], by rw [ht]; exact hP9, hD9, ⟨(Or.inl ⟨rfl, by show True; first | trivial | omega | assumption⟩), (by unfold R_X6_isWord_26; exact (fun Q9 k9_0 k9_1 k9_2 => k9_2 hp0 hp1 hp2 hp3 hp4 w4 w2 hi hpk9 fik flk vik vlk rk gk_0 c11 c38 z46 ez46 c47 rfl)), trivial⟩⟩, hS.F ht⟩) hS.2.2 dX6_isWord_55
      · have c11 := xnge (k := 4) (by decide) c11
        refine lv_lload_n hx hb dX6_isWord_14 rfl (lv_at hl 1 rfl) ?_
        refine lv_bipush (v := 8) hx hb dX6_isWord_15 (by decide) ?_
        refine lv_lshl hx hb dX6_isWord_17 rfl ?_
        refine lv_topl (fun z17 ez17 => ?_)
        refine lv_aload_n hx hb dX6_isWord_18 rfl (lv_at hl 3 rfl) ?_
        refine lv_iload hx hb dX6_isWord_19 (lv_at hl 0 rfl) ?_
        obtain ⟨hC9, hPc, hDc, hFc⟩ := xcut (wc := (pre_J0_charAt_5068e_26 T (xa []) (xa []) (xf []) (xh []) (xv [w4]) (xl []))) hP hD hS hA [] (by decide) rfl
        refine va_calli (va_runV (As := [.int w4]) (rest := [.long z17]) ⟨hx, hb, hml, hown, htg⟩ (c_J0_charAt_5068e_26 l D T (xa []) (xa []) (xf []) (xh []) (xv [w4]) (xl []) kK kV H.size (by show 0 ≤ w4.toInt ∧ w4.toInt ≤ 3; omega)) ⟨callB_of 1 htg (xg_ok kw_57) rfl rfl rfl (htg _ kw_3) (htg _ kw_54) (by decide +kernel) ⟨by rw [hR]; exact Nat.le_of_ble_eq_true rfl, by rw [hR]; exact Nat.le_of_ble_eq_true rfl⟩, htg _ kw_55, htg _ kw_56⟩ (xpreVs hK hPc hDc hT hFc hS (xT.recv hT 8 (by decide) hS)) rfl rfl hl.1 rfl (lv_room (Nat.le_of_ble_eq_true rfl)) dX6_isWord_21 ⟨by rw [hR]; exact Nat.le_of_ble_eq_true rfl, by rw [hR]; exact Nat.le_of_ble_eq_true rfl⟩) hS (fun q _ h => hFc q h) hFc (fun r9 u9 t H1 locs ht hvm hw hB hz1 hk1 hS => ?_)
        subst hw
        obtain ⟨fik_1, flk_1, vik_1, vlk_1, hP1, hD1, hG⟩ := hB
        rw [ht] at hP1
        obtain ⟨hP, hD⟩ := va_join (wr := [((a 0), .inr (6, [.ref (ex 0), .ref (ex 1), .int (vi 0), .int (vi 1), .int (vi 2), .int (vi 3), .int (vi 4), .int (vi 5), .long (vl 0), .int (vi 6), .int (vi 7), .int (vi 8), .int (vi 9), .int (vi 10)]))]) (w1 := []) hP hD [] [0] hC9 rfl (by decide) (by decide) hk1 hFc hP1 hD1
        obtain ⟨rk_1, er9⟩ : ∃ z, z = r9 := ⟨_, rfl⟩
        subst er9
        clear hPc hDc hFc hP1 hD1 hk1 hz1 hvm ht hC9
        generalize H1 = H at hP hS ⊢
        obtain ⟨hP, hD⟩ := (show xPD D A [((a 0), .inr (6, [.ref (ex 0), .ref (ex 1), .int (vi 0), .int (vi 1), .int (vi 2), .int (vi 3), .int (vi 4), .int (vi 5), .long (vl 0), .int (vi 6), .int (vi 7), .int (vi 8), .int (vi 9), .int (vi 10)]))] H from ⟨hP, hD⟩)
        obtain ⟨gk_1_0, gk_1_1, -⟩ := hG
        replace gk_1_1 : rk_1 = (sBy.getD 8 []).getD (w4.toInt).toNat 0 := (P_J0_charAt_5068e_26 gk_1_1 : _)
        replace gk_1_0 : narrow .char (.int rk_1) = .int rk_1 := gk_1_0
        refine lv_i2l hx hb dX6_isWord_24 rfl ?_
        refine lv_topl (fun z24 ez24 => ?_)
        refine lv_lor hx hb dX6_isWord_25 ?_
        refine lv_topl (fun z25 ez25 => ?_)
        refine lv_lstore_n (lv' := [(2, .long z25), (4, .int w4), (0, .ref (a 0)), (1, .ref (kK 8))]) hx hb dX6_isWord_26 rfl hl (by decide) rfl (fun ls hl => ?_)
        obtain ⟨i27, ei27⟩ : ∃ z : Int32, w4 + Int32.ofInt 1 = z := ⟨_, rfl⟩
        have ti27 : i27.toInt = w4.toInt + 1 := by rw [← ei27]; have h79 := xrng w4; exact xadd rfl (by decide) (by omega) (by omega)
        refine lv_iinc (v := i27) (lv' := [(4, .int i27), (2, .long z25), (0, .ref (a 0)), (1, .ref (kK 8))]) hx hb dX6_isWord_27 hl (k := 1) rfl ei27 (by decide) rfl (fun ls hl => ?_)
        refine lv_goto (tgt := 5) hx hb dX6_isWord_30 (by decide) ?_
        exact ih _ (by omega) i27 z25 _ _ _ (by show 0 ≤ i27.toInt ∧ i27.toInt ≤ 4; omega) (by show z25 = pkw (sBy.getD 8 []) (i27.toInt).toNat; rw [ez25, ez17, ez24]; exact pkw_s hpk9 (by omega) (by omega) (by assumption)) rfl (hP.sub [0] rfl) (hD.sub [0] (by decide) rfl) hS (lv_sub hl [0, 1, 2, 3] rfl)
  exact lp _ (0 : Int32) (0 : Int64) _ _ _ (show 0 ≤ (0 : Int32).toInt ∧ (0 : Int32).toInt ≤ 4 by decide) (by show (0 : Int64) = pkw (sBy.getD 8 []) ((0 : Int32).toInt).toNat; have k9_0 : (0 : Int32).toInt = 0 := (by decide); rw [show (0 : Int32).toInt.toNat = 0 by decide]; rfl) rfl hP hD hS hl
