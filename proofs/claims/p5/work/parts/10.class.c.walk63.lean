abbrev pre_X8_readWish (T : Nat → ClassId) (a ex : Nat → Nat) (fi : Nat → Nat → Int32) (fl : Nat → Nat → Int64) (vi : Nat → Int32) (vl : Nat → Int64) : va_W := [((a 0), .inr (8, [.ref (a 1), .ref (a 2), .int (vi 0)])), ((a 1), .inr (6, [.ref (a 5), .ref (a 4), .int (vi 1), .int (vi 2), .int (vi 3), .int (vi 4), .int (vi 5), .int (vi 6), .long (vl 0), .int (vi 7), .int (vi 8), .int (vi 9), .int (vi 10), .int (vi 11)])), ((a 2), .inr (7, [.int (vi 12), .int (vi 13), .ref (a 7), .ref (ex 0), .ref (ex 1), .ref (ex 2), .ref (a 3), .ref (ex 3), .ref (ex 4), .ref (a 6), .ref (ex 5), .ref (ex 6)])), ((a 3), .inl (T 2, 9, .inr (.inl (fl 0)))), ((a 4), .inl (T 2, 27, .inr (.inl (fl 1)))), ((a 5), .inl (T 0, 940, .inl (fi 0))), ((a 6), .inl (T 1, 9, .inl (fi 1))), ((a 7), .inl (T 2, 9, .inr (.inl (fl 2))))]
set_option maxHeartbeats 8000000 in
set_option maxRecDepth 100000 in
theorem c_X8_readWish (l : Launch) (D : va_G) (T : Nat → ClassId) (a ex : Nat → Nat) (fi : Nat → Nat → Int32) (fl : Nat → Nat → Int64) (vi : Nat → Int32) (vl : Nat → Int64) (sz : Nat) (hp0 : 0 ≤ (vi 2).toInt ∧ (vi 2).toInt ≤ 940) (hp1 : 0 ≤ (vi 3).toInt ∧ (vi 3).toInt ≤ 940) (hp2 : 0 ≤ (vi 4).toInt ∧ (vi 4).toInt ≤ 940) (hp3 : 0 ≤ (vi 6).toInt ∧ (vi 6).toInt ≤ 940) (hp4 : 0 ≤ (vi 11).toInt ∧ (vi 11).toInt ≤ 940) (hp5 : 0 ≤ (vi 12).toInt ∧ (vi 12).toInt ≤ 9) (hp6 : 0 ≤ (vi 13).toInt ∧ (vi 13).toInt ≤ 9) : Met l yX8_readWish (xw yX8_readWish cX8_readWish 2 (some .boolean)) ({ frames := 3, cells := 0, slots := 0, locals := 79 }) (xP D T [.ref (a 0)] sz (pre_X8_readWish T a ex fi fl vi vl)) (va_Qi (fun r u => r = u) (xC D (va_A (pre_X8_readWish T a ex fi fl vi vl) sz) (fun fj fm vj vm => [((a 0), .inr (8, [.ref (a 1), .ref (a 2), .int (vi 0)])), ((a 1), .inr (6, [.ref (a 5), .ref (a 4), .int (vi 1), .int (vi 2), .int (vi 3), .int (vj 5), .int (vj 1), .int (vj 2), .long (vm 0), .int (vj 4), .int (vj 3), .int (vj 0), .int (vj 6), .int (vj 7)])), ((a 2), .inr (7, [.int (vi 12), .int (vi 13), .ref (a 7), .ref (ex 0), .ref (ex 1), .ref (ex 2), .ref (a 3), .ref (ex 3), .ref (ex 4), .ref (a 6), .ref (ex 5), .ref (ex 6)])), ((a 3), .inl (T 2, 9, .inr (.inl (fl 0)))), ((a 4), .inl (T 2, 27, .inr (.inl (fl 1)))), ((a 5), .inl (T 0, 940, .inl (fi 0))), ((a 6), .inl (T 1, 9, .inl (fj 0))), ((a 7), .inl (T 2, 9, .inr (.inl (fl 2))))]) (fun (r : Int32) (fj : Nat → Nat → Int32) (fm : Nat → Nat → Int64) (vj : Nat → Int32) (vm : Nat → Int64) => ((r = 1 ∧ (True)) ∨ (r = 0 ∧ (True))) ∧ (0 ≤ (vj 5).toInt ∧ (vj 5).toInt ≤ 940) ∧ (0 ≤ (vj 2).toInt ∧ (vj 2).toInt ≤ 940) ∧ (0 ≤ (vj 7).toInt ∧ (vj 7).toInt ≤ 940) ∧ (r.toInt = 1 → (vj 6).toInt = (vi 10).toInt) ∧ R_X8_readWish fi fl vi vl r fj fm vj vm ∧ True)) (va_A (pre_X8_readWish T a ex fi fl vi vl) sz)) 0 0 (va_A (pre_X8_readWish T a ex fi fl vi vl) sz) := by
  refine xofW (cc := cX8_readWish) (maxL := 2) (ret := (some .boolean)) (by decide) rfl ?_
  intro p e s m args below meth c s₁ R Q hR hQ B hml hv
  obtain ⟨rfl, hsz, hP, hK, hD0⟩ := hv
  have hx := B.exec
  have hb := B.bytes
  have hr := B.returns
  have hts := atoms_spec (ws := xw yX8_readWish cX8_readWish 2 (some .boolean)) B.pre
  have htg : ∀ w ∈ xg, w.before _ s = true := fun w h => hts w (List.mem_cons_of_mem _ h)
  have hown : s.vm.findClass RX8 = some m.cls := findClass_of_methodNamed B.named
  have hlocks := B.notSynchronized
  subst hsz
  have hD := hD0.self (sz := s.heap.size)
  generalize hAe : va_A (pre_X8_readWish T a ex fi fl vi vl) s.heap.size = A at hD hQ
  have hA : ∀ q : Nat, s.heap.size ≤ q → A q := fun q h => by rw [← hAe]; exact Or.inr h
  have hS : va_S A s.heap s.heap [] := va_S.rf
  replace hP : va_P D vwCl [((a 0), .inr (8, [.ref (a 1), .ref (a 2), .int (vi 0)])), ((a 1), .inr (6, [.ref (a 5), .ref (a 4), .int (vi 1), .int (vi 2), .int (vi 3), .int (vi 4), .int (vi 5), .int (vi 6), .long (vl 0), .int (vi 7), .int (vi 8), .int (vi 9), .int (vi 10), .int (vi 11)])), ((a 2), .inr (7, [.int (vi 12), .int (vi 13), .ref (a 7), .ref (ex 0), .ref (ex 1), .ref (ex 2), .ref (a 3), .ref (ex 3), .ref (ex 4), .ref (a 6), .ref (ex 5), .ref (ex 6)])), ((a 3), .inl (T 2, 9, .inr (.inl (fl 0)))), ((a 4), .inl (T 2, 27, .inr (.inl (fl 1)))), ((a 5), .inl (T 0, 940, .inl (fi 0))), ((a 6), .inl (T 1, 9, .inl (fi 1))), ((a 7), .inl (T 2, 9, .inr (.inl (fl 2))))] s.heap := hP
  replace hD : va_D A [((a 0), .inr (8, [.ref (a 1), .ref (a 2), .int (vi 0)])), ((a 1), .inr (6, [.ref (a 5), .ref (a 4), .int (vi 1), .int (vi 2), .int (vi 3), .int (vi 4), .int (vi 5), .int (vi 6), .long (vl 0), .int (vi 7), .int (vi 8), .int (vi 9), .int (vi 10), .int (vi 11)])), ((a 2), .inr (7, [.int (vi 12), .int (vi 13), .ref (a 7), .ref (ex 0), .ref (ex 1), .ref (ex 2), .ref (a 3), .ref (ex 3), .ref (ex 4), .ref (a 6), .ref (ex 5), .ref (ex 6)])), ((a 3), .inl (T 2, 9, .inr (.inl (fl 0)))), ((a 4), .inl (T 2, 27, .inr (.inl (fl 1)))), ((a 5), .inl (T 0, 940, .inl (fi 0))), ((a 6), .inl (T 1, 9, .inl (fi 1))), ((a 7), .inl (T 2, 9, .inr (.inl (fl 2))))] := hD
  have hl := lv_entry ([.ref (a 0)]) (n := 2) (Nat.le_of_ble_eq_true rfl)
  rw [lg_entry_eq]
  generalize (lg_sl ([.ref (a 0)]) ++ List.replicate (2 - (lg_sl ([.ref (a 0)])).length) Slot.unset).toArray = ls at hl ⊢
  replace hl : lv_has ls 2 [(0, .ref (a 0))] := hl
  refine lv_aload_n hx hb dX8_readWish_0 rfl (lv_at hl 0 rfl) ?_
  refine lv_aload_n hx hb dX8_readWish_1 rfl (lv_at hl 0 rfl) ?_
  refine va_get (D := D) (ci := 8) (v := .ref (a 2)) (C := RX8) (T := TX8) (N := 3) hx hb htg inX8 hown hK.1 hP 0 rfl rfl 1 (by decide) (htg _ kw_229) (fun _ h9 => h9) rfl dX8_readWish_2 ?_
  refine lv_aload_n hx hb dX8_readWish_5 rfl (lv_at hl 0 rfl) ?_
  refine va_get (D := D) (ci := 8) (v := .ref (a 1)) (C := RX8) (T := TX8) (N := 3) hx hb htg inX8 hown hK.1 hP 0 rfl rfl 0 (by decide) (htg _ kw_228) (fun _ h9 => h9) rfl dX8_readWish_6 ?_
  refine va_getN (D := D) (ci := 6) (v := .long (vl 0)) (C := RX6) (T := TX6) (N := 14) hx hb htg inX6 hown hK.1 hP 1 rfl rfl 8 (by decide) (va_Nw.use rfl (hK.2.1 _ kn_107)) (fun _ h9 => h9) rfl dX8_readWish_9 ?_
  obtain ⟨hC9, hPc, hDc, hFc⟩ := xcut (wc := (pre_X7_findSoul T (xa [(a 2), (a 3)]) (xa [(a 7), (ex 0), (ex 1), (ex 2), (ex 3), (ex 4), (a 6), (ex 5), (ex 6)]) (xf []) (xh [(fl 0)]) (xv [(vi 12), (vi 13)]) (xl [(vl 0)]))) hP hD hS hA [2, 3] (by decide) rfl
  refine va_calli (va_runVN (As := [.long (vl 0)]) (rest := [.ref (a 0)]) ⟨hx, hb, hml, hown, htg⟩ (c_X7_findSoul l D T (xa [(a 2), (a 3)]) (xa [(a 7), (ex 0), (ex 1), (ex 2), (ex 3), (ex 4), (a 6), (ex 5), (ex 6)]) (xf []) (xh [(fl 0)]) (xv [(vi 12), (vi 13)]) (xl [(vl 0)]) s.heap.size hp5 hp6) ⟨va_cnB 1 htg (xg_ok kw_614) rfl rfl rfl (hK.2.1 _ kn_611) (htg _ kw_7) (by decide +kernel) ⟨by rw [hR]; exact Nat.le_of_ble_eq_true rfl, by rw [hR]; exact Nat.le_of_ble_eq_true rfl⟩, htg _ kw_613, htg _ ks_14⟩ (xpreV hK hPc hDc (va_recv hK.1 hPc (ci := 7) (q0 := 0) rfl rfl)) rfl rfl hl.1 rfl (lv_room (Nat.le_of_ble_eq_true rfl)) dX8_readWish_12 ⟨by rw [hR]; exact Nat.le_of_ble_eq_true rfl, by rw [hR]; exact Nat.le_of_ble_eq_true rfl⟩) hS (fun q _ h => hFc q h) hFc (fun r9 u9 t H1 locs ht hvm hw hB hz1 hk1 hS => ?_)
  subst hw
  obtain ⟨fik, flk, vik, vlk, hP1, hD1, hG⟩ := hB
  rw [ht] at hP1
  obtain ⟨hP, hD⟩ := va_join (wr := [((a 0), .inr (8, [.ref (a 1), .ref (a 2), .int (vi 0)])), ((a 1), .inr (6, [.ref (a 5), .ref (a 4), .int (vi 1), .int (vi 2), .int (vi 3), .int (vi 4), .int (vi 5), .int (vi 6), .long (vl 0), .int (vi 7), .int (vi 8), .int (vi 9), .int (vi 10), .int (vi 11)])), ((a 4), .inl (T 2, 27, .inr (.inl (fl 1)))), ((a 5), .inl (T 0, 940, .inl (fi 0))), ((a 6), .inl (T 1, 9, .inl (fi 1))), ((a 7), .inl (T 2, 9, .inr (.inl (fl 2))))]) (w1 := [((a 2), .inr (7, [.int (vi 12), .int (vi 13), .ref (a 7), .ref (ex 0), .ref (ex 1), .ref (ex 2), .ref (a 3), .ref (ex 3), .ref (ex 4), .ref (a 6), .ref (ex 5), .ref (ex 6)])), ((a 3), .inl (T 2, 9, .inr (.inl (fl 0))))]) hP hD [2, 3] [0, 1, 4, 5, 6, 7] hC9 rfl (by decide) (by decide) hk1 hFc hP1 hD1
  obtain ⟨rk, er9⟩ : ∃ z, z = r9 := ⟨_, rfl⟩
  subst er9
  clear hPc hDc hFc hP1 hD1 hk1 hz1 hvm ht hC9
  generalize H1 = H at hP hS ⊢
  obtain ⟨hP, hD⟩ := (show xPD D A [((a 0), .inr (8, [.ref (a 1), .ref (a 2), .int (vi 0)])), ((a 1), .inr (6, [.ref (a 5), .ref (a 4), .int (vi 1), .int (vi 2), .int (vi 3), .int (vi 4), .int (vi 5), .int (vi 6), .long (vl 0), .int (vi 7), .int (vi 8), .int (vi 9), .int (vi 10), .int (vi 11)])), ((a 4), .inl (T 2, 27, .inr (.inl (fl 1)))), ((a 5), .inl (T 0, 940, .inl (fi 0))), ((a 6), .inl (T 1, 9, .inl (fi 1))), ((a 7), .inl (T 2, 9, .inr (.inl (fl 2)))), ((a 2), .inr (7, [.int (vi 12), .int (vi 13), .ref (a 7), .ref (ex 0), .ref (ex 1), .ref (ex 2), .ref (a 3), .ref (ex 3), .ref (ex 4), .ref (a 6), .ref (ex 5), .ref (ex 6)])), ((a 3), .inl (T 2, 9, .inr (.inl (fl 0))))] H from ⟨hP, hD⟩)
  obtain ⟨gk_0, gk_1, -⟩ := hG
  replace gk_1 : rk.toInt = fdx (fl 0) 0 (vl 0) ((vi 13).toInt).toNat := (P_X7_findSoul gk_1 : _)
  replace gk_0 : -1 ≤ rk.toInt ∧ rk.toInt ≤ 8 := gk_0
  refine lv_aload_n hx hb dX8_readWish_15 rfl (lv_at hl 0 rfl) ?_
  refine va_get (D := D) (ci := 8) (v := .ref (a 2)) (C := RX8) (T := TX8) (N := 3) hx hb htg inX8 hown hK.1 hP 0 rfl rfl 1 (by decide) (htg _ kw_229) (fun _ h9 => h9) rfl dX8_readWish_16 ?_
  refine va_getN (D := D) (ci := 7) (v := .ref (a 6)) (C := RX7) (T := TX7) (N := 12) hx hb htg inX7 hown hK.1 hP 6 rfl rfl 9 (by decide) (va_Nw.use rfl (hK.2.1 _ kn_189)) (fun _ h9 => h9) rfl dX8_readWish_19 ?_
  obtain ⟨hC9, hPc, hDc, hFc⟩ := xcut (wc := (pre_X8_passOnce T (xa [(a 0), (a 1), (a 4), (a 5), (a 6)]) (xa [(a 2)]) (xf [(fi 0), (fi 1)]) (xh [(fl 1)]) (xv [rk, (vi 0), (vi 1), (vi 2), (vi 3), (vi 4), (vi 5), (vi 6), (vi 7), (vi 8), (vi 9), (vi 10), (vi 11)]) (xl [(vl 0)]))) hP hD hS hA [0, 1, 2, 3, 4] (by decide) rfl
  refine va_calli (va_runV (As := [.int rk, .ref (a 6)]) (rest := []) ⟨hx, hb, hml, hown, htg⟩ (c_X8_passOnce l D T (xa [(a 0), (a 1), (a 4), (a 5), (a 6)]) (xa [(a 2)]) (xf [(fi 0), (fi 1)]) (xh [(fl 1)]) (xv [rk, (vi 0), (vi 1), (vi 2), (vi 3), (vi 4), (vi 5), (vi 6), (vi 7), (vi 8), (vi 9), (vi 10), (vi 11)]) (xl [(vl 0)]) H.size hp0 hp1 hp2 hp3 hp4) ⟨callB_of 2 htg (xg_ok kw_636) rfl rfl rfl (htg _ kw_8) (htg _ kw_633) (by decide +kernel) ⟨by rw [hR]; exact Nat.le_of_ble_eq_true rfl, by rw [hR]; exact Nat.le_of_ble_eq_true rfl⟩, htg _ kw_635, htg _ ks_19⟩ (xpreV hK hPc hDc (va_recv hK.1 hPc (ci := 8) (q0 := 0) rfl rfl)) rfl rfl hl.1 rfl (lv_room (Nat.le_of_ble_eq_true rfl)) dX8_readWish_22 ⟨by rw [hR]; exact Nat.le_of_ble_eq_true rfl, by rw [hR]; exact Nat.le_of_ble_eq_true rfl⟩) hS (fun q _ h => hFc q h) hFc (fun r9 u9 t H1 locs ht hvm hw hB hz1 hk1 hS => ?_)
  subst hw
  obtain ⟨fik_1, flk_1, vik_1, vlk_1, hP1, hD1, hG⟩ := hB
  rw [ht] at hP1
  obtain ⟨hP, hD⟩ := va_join (wr := [((a 7), .inl (T 2, 9, .inr (.inl (fl 2)))), ((a 2), .inr (7, [.int (vi 12), .int (vi 13), .ref (a 7), .ref (ex 0), .ref (ex 1), .ref (ex 2), .ref (a 3), .ref (ex 3), .ref (ex 4), .ref (a 6), .ref (ex 5), .ref (ex 6)])), ((a 3), .inl (T 2, 9, .inr (.inl (fl 0))))]) (w1 := [((a 0), .inr (8, [.ref (a 1), .ref (a 2), .int (vi 0)])), ((a 1), .inr (6, [.ref (a 5), .ref (a 4), .int (vi 1), .int (vi 2), .int (vi 3), .int (vik_1 5), .int (vik_1 1), .int (vik_1 2), .long (vlk_1 0), .int (vik_1 4), .int (vik_1 3), .int (vik_1 0), .int (vik_1 6), .int (vik_1 7)])), ((a 4), .inl (T 2, 27, .inr (.inl (fl 1)))), ((a 5), .inl (T 0, 940, .inl (fi 0))), ((a 6), .inl (T 1, 9, .inl (fi 1)))]) hP hD [0, 1, 2, 3, 4] [5, 6, 7] hC9 rfl (by decide) (by decide) hk1 hFc hP1 hD1
  obtain ⟨rk_1, er9⟩ : ∃ z, z = r9 := ⟨_, rfl⟩
  subst er9
  clear hPc hDc hFc hP1 hD1 hk1 hz1 hvm ht hC9
  generalize H1 = H at hP hS ⊢
  obtain ⟨hP, hD⟩ := (show xPD D A [((a 7), .inl (T 2, 9, .inr (.inl (fl 2)))), ((a 2), .inr (7, [.int (vi 12), .int (vi 13), .ref (a 7), .ref (ex 0), .ref (ex 1), .ref (ex 2), .ref (a 3), .ref (ex 3), .ref (ex 4), .ref (a 6), .ref (ex 5), .ref (ex 6)])), ((a 3), .inl (T 2, 9, .inr (.inl (fl 0)))), ((a 0), .inr (8, [.ref (a 1), .ref (a 2), .int (vi 0)])), ((a 1), .inr (6, [.ref (a 5), .ref (a 4), .int (vi 1), .int (vi 2), .int (vi 3), .int (vik_1 5), .int (vik_1 1), .int (vik_1 2), .long (vlk_1 0), .int (vik_1 4), .int (vik_1 3), .int (vik_1 0), .int (vik_1 6), .int (vik_1 7)])), ((a 4), .inl (T 2, 27, .inr (.inl (fl 1)))), ((a 5), .inl (T 0, 940, .inl (fi 0))), ((a 6), .inl (T 1, 9, .inl (fi 1)))] H from ⟨hP, hD⟩)
  obtain ⟨gk_1_0, gk_1_1, gk_1_2, gk_1_3, gk_1_4, gk_1_5, -⟩ := hG
  replace gk_1_5 : ∀ n m t : Nat, CC (trn (fi 0) n) n m t (vi 2) (vi 3) (vi 5) (vi 6) (vi 4) (vl 0) (vi 7) (vi 8) → (rk_1.toInt = 1 ∧ (wMay (trn (fi 0) n) n m (ownB (fl 1)) t) ∧ ¬ rk.toInt = -1 ∧ (vik_1 0).toInt = rk.toInt ∧ (0 ≤ rk.toInt → rk.toInt < 9 → ((fi 1) (rk).toNatClampNeg).toInt = -1) ∧ CC (trn (fi 0) n) n m (sX (trn (fi 0) n) n m t) (vi 2) (vi 3) (vik_1 1) (vik_1 2) (vik_1 5) (vlk_1 0) (vik_1 4) (vik_1 3)) ∨ (rk_1.toInt = 0 ∧ ¬ (wMay (trn (fi 0) n) n m (ownB (fl 1)) t) ∧ (vik_1 6).toInt = 1 ∧ (vik_1 7).toInt = ((sPn (trn (fi 0) n) n m t) : Int)) ∨ (rk_1.toInt = 0 ∧ (wMay (trn (fi 0) n) n m (ownB (fl 1)) t) ∧ rk.toInt = -1 ∧ (vik_1 6).toInt = 3 ∧ (vik_1 7).toInt = ((sPn (trn (fi 0) n) n m t) : Int)) ∨ (rk_1.toInt = 0 ∧ (sK (trn (fi 0) n) n m t) = 1 ∧ 0 ≤ rk.toInt ∧ rk.toInt < 9 ∧ ¬ ((fi 1) (rk).toNatClampNeg).toInt = -1 ∧ (vik_1 6).toInt = 3 ∧ (vik_1 7).toInt = ((sPn (trn (fi 0) n) n m t) : Int)) := (P_X8_passOnce gk_1_5 : _)
  replace gk_1_1 : 0 ≤ (vik_1 5).toInt ∧ (vik_1 5).toInt ≤ 940 := gk_1_1
  replace gk_1_2 : 0 ≤ (vik_1 2).toInt ∧ (vik_1 2).toInt ≤ 940 := gk_1_2
  replace gk_1_3 : 0 ≤ (vik_1 7).toInt ∧ (vik_1 7).toInt ≤ 940 := gk_1_3
  replace gk_1_4 : rk_1.toInt = 1 → (vik_1 6).toInt = (vi 10).toInt := gk_1_4
  rcases (show (rk_1 = 1 ∧ ((vik_1 0).toInt = rk.toInt ∧ ¬ rk.toInt = -1)) ∨ (rk_1 = 0 ∧ (True)) from gk_1_0) with ⟨er9, gk_1_0⟩ | ⟨er9, gk_1_0⟩
  · refine xz_i 1 er9 ?_
    have tb : rk_1.toInt = 1 := by rw [er9]; decide
    refine lv_if_ne (tgt := 30) hx hb dX8_readWish_25 (by decide) (fun _ => ?_) (fun c => absurd c (by decide))
    refine lv_aload_n hx hb dX8_readWish_30 rfl (lv_at hl 0 rfl) ?_
    refine va_get (D := D) (ci := 8) (v := .ref (a 1)) (C := RX8) (T := TX8) (N := 3) hx hb htg inX8 hown hK.1 hP 3 rfl rfl 0 (by decide) (htg _ kw_228) (fun _ h9 => h9) rfl dX8_readWish_31 ?_
    refine va_getN (D := D) (ci := 6) (v := .int (vik_1 0)) (C := RX6) (T := TX6) (N := 14) hx hb htg inX6 hown hK.1 hP 4 rfl rfl 11 (by decide) (va_Nw.use rfl (hK.2.1 _ kn_114)) (fun _ h9 => h9) rfl dX8_readWish_34 ?_
    refine lv_istore_n (lv' := [(1, .int (vik_1 0)), (0, .ref (a 0))]) hx hb dX8_readWish_37 rfl hl (by decide) rfl (fun ls hl => ?_)
    refine lv_aload_n hx hb dX8_readWish_38 rfl (lv_at hl 1 rfl) ?_
    refine va_get (D := D) (ci := 8) (v := .ref (a 1)) (C := RX8) (T := TX8) (N := 3) hx hb htg inX8 hown hK.1 hP 3 rfl rfl 0 (by decide) (htg _ kw_228) (fun _ h9 => h9) rfl dX8_readWish_39 ?_
    refine lv_aload_n hx hb dX8_readWish_42 rfl (lv_at hl 1 rfl) ?_
    refine va_get (D := D) (ci := 8) (v := .ref (a 2)) (C := RX8) (T := TX8) (N := 3) hx hb htg inX8 hown hK.1 hP 3 rfl rfl 1 (by decide) (htg _ kw_229) (fun _ h9 => h9) rfl dX8_readWish_43 ?_
    refine lv_aload_n hx hb dX8_readWish_46 rfl (lv_at hl 1 rfl) ?_
    refine va_get (D := D) (ci := 8) (v := .ref (a 1)) (C := RX8) (T := TX8) (N := 3) hx hb htg inX8 hown hK.1 hP 3 rfl rfl 0 (by decide) (htg _ kw_228) (fun _ h9 => h9) rfl dX8_readWish_47 ?_
    refine va_getN (D := D) (ci := 6) (v := .long (vlk_1 0)) (C := RX6) (T := TX6) (N := 14) hx hb htg inX6 hown hK.1 hP 4 rfl rfl 8 (by decide) (va_Nw.use rfl (hK.2.1 _ kn_107)) (fun _ h9 => h9) rfl dX8_readWish_50 ?_
    obtain ⟨hC9, hPc, hDc, hFc⟩ := xcut (wc := (pre_X7_findName T (xa [(a 2), (a 7)]) (xa [(ex 0), (ex 1), (ex 2), (a 3), (ex 3), (ex 4), (a 6), (ex 5), (ex 6)]) (xf []) (xh [(fl 2)]) (xv [(vi 12), (vi 13)]) (xl [(vlk_1 0)]))) hP hD hS hA [1, 0] (by decide) rfl
    refine va_calli (va_runVN (As := [.long (vlk_1 0)]) (rest := [.ref (a 1)]) ⟨hx, hb, hml, hown, htg⟩ (c_X7_findName l D T (xa [(a 2), (a 7)]) (xa [(ex 0), (ex 1), (ex 2), (a 3), (ex 3), (ex 4), (a 6), (ex 5), (ex 6)]) (xf []) (xh [(fl 2)]) (xv [(vi 12), (vi 13)]) (xl [(vlk_1 0)]) H.size hp5 hp6) ⟨va_cnB 1 htg (xg_ok kw_607) rfl rfl rfl (hK.2.1 _ kn_604) (htg _ kw_7) (by decide +kernel) ⟨by rw [hR]; exact Nat.le_of_ble_eq_true rfl, by rw [hR]; exact Nat.le_of_ble_eq_true rfl⟩, htg _ kw_606, htg _ ks_13⟩ (xpreV hK hPc hDc (va_recv hK.1 hPc (ci := 7) (q0 := 0) rfl rfl)) rfl rfl hl.1 rfl (lv_room (Nat.le_of_ble_eq_true rfl)) dX8_readWish_53 ⟨by rw [hR]; exact Nat.le_of_ble_eq_true rfl, by rw [hR]; exact Nat.le_of_ble_eq_true rfl⟩) hS (fun q _ h => hFc q h) hFc (fun r9 u9 t H1 locs ht hvm hw hB hz1 hk1 hS => ?_)
    subst hw
    obtain ⟨fik_2, flk_2, vik_2, vlk_2, hP1, hD1, hG⟩ := hB
    rw [ht] at hP1
    obtain ⟨hP, hD⟩ := va_join (wr := [((a 3), .inl (T 2, 9, .inr (.inl (fl 0)))), ((a 0), .inr (8, [.ref (a 1), .ref (a 2), .int (vi 0)])), ((a 1), .inr (6, [.ref (a 5), .ref (a 4), .int (vi 1), .int (vi 2), .int (vi 3), .int (vik_1 5), .int (vik_1 1), .int (vik_1 2), .long (vlk_1 0), .int (vik_1 4), .int (vik_1 3), .int (vik_1 0), .int (vik_1 6), .int (vik_1 7)])), ((a 4), .inl (T 2, 27, .inr (.inl (fl 1)))), ((a 5), .inl (T 0, 940, .inl (fi 0))), ((a 6), .inl (T 1, 9, .inl (fi 1)))]) (w1 := [((a 2), .inr (7, [.int (vi 12), .int (vi 13), .ref (a 7), .ref (ex 0), .ref (ex 1), .ref (ex 2), .ref (a 3), .ref (ex 3), .ref (ex 4), .ref (a 6), .ref (ex 5), .ref (ex 6)])), ((a 7), .inl (T 2, 9, .inr (.inl (fl 2))))]) hP hD [1, 0] [2, 3, 4, 5, 6, 7] hC9 rfl (by decide) (by decide) hk1 hFc hP1 hD1
    obtain ⟨rk_2, er9⟩ : ∃ z, z = r9 := ⟨_, rfl⟩
    subst er9
    clear hPc hDc hFc hP1 hD1 hk1 hz1 hvm ht hC9
    generalize H1 = H at hP hS ⊢
    obtain ⟨hP, hD⟩ := (show xPD D A [((a 3), .inl (T 2, 9, .inr (.inl (fl 0)))), ((a 0), .inr (8, [.ref (a 1), .ref (a 2), .int (vi 0)])), ((a 1), .inr (6, [.ref (a 5), .ref (a 4), .int (vi 1), .int (vi 2), .int (vi 3), .int (vik_1 5), .int (vik_1 1), .int (vik_1 2), .long (vlk_1 0), .int (vik_1 4), .int (vik_1 3), .int (vik_1 0), .int (vik_1 6), .int (vik_1 7)])), ((a 4), .inl (T 2, 27, .inr (.inl (fl 1)))), ((a 5), .inl (T 0, 940, .inl (fi 0))), ((a 6), .inl (T 1, 9, .inl (fi 1))), ((a 2), .inr (7, [.int (vi 12), .int (vi 13), .ref (a 7), .ref (ex 0), .ref (ex 1), .ref (ex 2), .ref (a 3), .ref (ex 3), .ref (ex 4), .ref (a 6), .ref (ex 5), .ref (ex 6)])), ((a 7), .inl (T 2, 9, .inr (.inl (fl 2))))] H from ⟨hP, hD⟩)
    obtain ⟨gk_2_0, gk_2_1, -⟩ := hG
    replace gk_2_1 : rk_2.toInt = fdx (fl 2) 0 (vlk_1 0) ((vi 12).toInt).toNat := (P_X7_findName gk_2_1 : _)
    replace gk_2_0 : -1 ≤ rk_2.toInt ∧ rk_2.toInt ≤ 8 := gk_2_0
    obtain ⟨hC9, hPc, hDc, hFc⟩ := xcut (wc := (pre_X6_passKnown T (xa [(a 1), (a 4), (a 5)]) (xa []) (xf [(fi 0)]) (xh [(fl 1)]) (xv [rk_2, (vi 1), (vi 2), (vi 3), (vik_1 5), (vik_1 1), (vik_1 2), (vik_1 4), (vik_1 3), (vik_1 0), (vik_1 6), (vik_1 7)]) (xl [(vlk_1 0)]))) hP hD hS hA [2, 3, 4] (by decide) rfl
    refine va_calli (va_runVN (As := [.int rk_2]) (rest := []) ⟨hx, hb, hml, hown, htg⟩ (c_X6_passKnown l D T (xa [(a 1), (a 4), (a 5)]) (xa []) (xf [(fi 0)]) (xh [(fl 1)]) (xv [rk_2, (vi 1), (vi 2), (vi 3), (vik_1 5), (vik_1 1), (vik_1 2), (vik_1 4), (vik_1 3), (vik_1 0), (vik_1 6), (vik_1 7)]) (xl [(vlk_1 0)]) H.size hp0 hp1 gk_1_1 gk_1_2 gk_1_3) ⟨va_cnB 1 htg (xg_ok kw_640) rfl rfl rfl (hK.2.1 _ kn_637) (htg _ kw_2) (by decide +kernel) ⟨by rw [hR]; exact Nat.le_of_ble_eq_true rfl, by rw [hR]; exact Nat.le_of_ble_eq_true rfl⟩, htg _ kw_639, htg _ ks_20⟩ (xpreV hK hPc hDc (va_recv hK.1 hPc (ci := 6) (q0 := 0) rfl rfl)) rfl rfl hl.1 rfl (lv_room (Nat.le_of_ble_eq_true rfl)) dX8_readWish_56 ⟨by rw [hR]; exact Nat.le_of_ble_eq_true rfl, by rw [hR]; exact Nat.le_of_ble_eq_true rfl⟩) hS (fun q _ h => hFc q h) hFc (fun r9 u9 t H1 locs ht hvm hw hB hz1 hk1 hS => ?_)
    subst hw
    obtain ⟨fik_3, flk_3, vik_3, vlk_3, hP1, hD1, hG⟩ := hB
    rw [ht] at hP1
    obtain ⟨hP, hD⟩ := va_join (wr := [((a 3), .inl (T 2, 9, .inr (.inl (fl 0)))), ((a 0), .inr (8, [.ref (a 1), .ref (a 2), .int (vi 0)])), ((a 6), .inl (T 1, 9, .inl (fi 1))), ((a 2), .inr (7, [.int (vi 12), .int (vi 13), .ref (a 7), .ref (ex 0), .ref (ex 1), .ref (ex 2), .ref (a 3), .ref (ex 3), .ref (ex 4), .ref (a 6), .ref (ex 5), .ref (ex 6)])), ((a 7), .inl (T 2, 9, .inr (.inl (fl 2))))]) (w1 := [((a 1), .inr (6, [.ref (a 5), .ref (a 4), .int (vi 1), .int (vi 2), .int (vi 3), .int (vik_3 5), .int (vik_3 1), .int (vik_3 2), .long (vlk_3 0), .int (vik_3 4), .int (vik_3 3), .int (vik_3 0), .int (vik_3 6), .int (vik_3 7)])), ((a 4), .inl (T 2, 27, .inr (.inl (fl 1)))), ((a 5), .inl (T 0, 940, .inl (fi 0)))]) hP hD [2, 3, 4] [0, 1, 5, 6, 7] hC9 rfl (by decide) (by decide) hk1 hFc hP1 hD1
    obtain ⟨rk_3, er9⟩ : ∃ z, z = r9 := ⟨_, rfl⟩
    subst er9
    clear hPc hDc hFc hP1 hD1 hk1 hz1 hvm ht hC9
    generalize H1 = H at hP hS ⊢
    obtain ⟨hP, hD⟩ := (show xPD D A [((a 3), .inl (T 2, 9, .inr (.inl (fl 0)))), ((a 0), .inr (8, [.ref (a 1), .ref (a 2), .int (vi 0)])), ((a 6), .inl (T 1, 9, .inl (fi 1))), ((a 2), .inr (7, [.int (vi 12), .int (vi 13), .ref (a 7), .ref (ex 0), .ref (ex 1), .ref (ex 2), .ref (a 3), .ref (ex 3), .ref (ex 4), .ref (a 6), .ref (ex 5), .ref (ex 6)])), ((a 7), .inl (T 2, 9, .inr (.inl (fl 2)))), ((a 1), .inr (6, [.ref (a 5), .ref (a 4), .int (vi 1), .int (vi 2), .int (vi 3), .int (vik_3 5), .int (vik_3 1), .int (vik_3 2), .long (vlk_3 0), .int (vik_3 4), .int (vik_3 3), .int (vik_3 0), .int (vik_3 6), .int (vik_3 7)])), ((a 4), .inl (T 2, 27, .inr (.inl (fl 1)))), ((a 5), .inl (T 0, 940, .inl (fi 0)))] H from ⟨hP, hD⟩)
    obtain ⟨gk_3_0, gk_3_1, gk_3_2, gk_3_3, gk_3_4, gk_3_5, -⟩ := hG
    replace gk_3_5 : ∀ n m t : Nat, CC (trn (fi 0) n) n m t (vi 2) (vi 3) (vik_1 1) (vik_1 2) (vik_1 5) (vlk_1 0) (vik_1 4) (vik_1 3) → (rk_3.toInt = 1 ∧ (wMay (trn (fi 0) n) n m (ownB (fl 1)) t) ∧ ¬ rk_2.toInt = -1 ∧ (vik_3 0).toInt = rk_2.toInt ∧ CC (trn (fi 0) n) n m (sX (trn (fi 0) n) n m t) (vi 2) (vi 3) (vik_3 1) (vik_3 2) (vik_3 5) (vlk_3 0) (vik_3 4) (vik_3 3)) ∨ (rk_3.toInt = 0 ∧ ¬ (wMay (trn (fi 0) n) n m (ownB (fl 1)) t) ∧ (vik_3 6).toInt = 1 ∧ (vik_3 7).toInt = ((sPn (trn (fi 0) n) n m t) : Int)) ∨ (rk_3.toInt = 0 ∧ (wMay (trn (fi 0) n) n m (ownB (fl 1)) t) ∧ rk_2.toInt = -1 ∧ (vik_3 6).toInt = 3 ∧ (vik_3 7).toInt = ((sPn (trn (fi 0) n) n m t) : Int)) := (P_X6_passKnown gk_3_5 : _)
    replace gk_3_1 : 0 ≤ (vik_3 5).toInt ∧ (vik_3 5).toInt ≤ 940 := gk_3_1
    replace gk_3_2 : 0 ≤ (vik_3 2).toInt ∧ (vik_3 2).toInt ≤ 940 := gk_3_2
    replace gk_3_3 : 0 ≤ (vik_3 7).toInt ∧ (vik_3 7).toInt ≤ 940 := gk_3_3
    replace gk_3_4 : rk_3.toInt = 1 → (vik_3 6).toInt = (vik_1 6).toInt := gk_3_4
    rcases (show (rk_3 = 1 ∧ ((vik_3 0).toInt = rk_2.toInt ∧ ¬ rk_2.toInt = -1 ∧ (vik_1 1).toInt = 1)) ∨ (rk_3 = 0 ∧ (True)) from gk_3_0) with ⟨er9, gk_3_0⟩ | ⟨er9, gk_3_0⟩
    · refine xz_i 1 er9 ?_
      have tb_1 : rk_3.toInt = 1 := by rw [er9]; decide
      refine lv_if_eq (tgt := 73) hx hb dX8_readWish_59 (by decide) (fun c => absurd c (by decide)) (fun _ => ?_)
      refine lv_aload_n hx hb dX8_readWish_62 rfl (lv_at hl 1 rfl) ?_
      refine va_get (D := D) (ci := 8) (v := .ref (a 2)) (C := RX8) (T := TX8) (N := 3) hx hb htg inX8 hown hK.1 hP 1 rfl rfl 1 (by decide) (htg _ kw_229) (fun _ h9 => h9) rfl dX8_readWish_63 ?_
      refine lv_iload_n hx hb dX8_readWish_66 rfl (lv_at hl 0 rfl) ?_
      obtain ⟨hC9, hPc, hDc, hFc⟩ := xcut (wc := (pre_X7_isSoul T (xa [(a 2)]) (xa [(a 7), (ex 0), (ex 1), (ex 2), (a 3), (ex 3), (ex 4), (a 6), (ex 5), (ex 6)]) (xf []) (xh []) (xv [(vik_1 0), (vi 12), (vi 13)]) (xl []))) hP hD hS hA [3] (by decide) rfl
      refine va_calli (va_runVN (As := [.int (vik_1 0)]) (rest := []) ⟨hx, hb, hml, hown, htg⟩ (c_X7_isSoul l D T (xa [(a 2)]) (xa [(a 7), (ex 0), (ex 1), (ex 2), (a 3), (ex 3), (ex 4), (a 6), (ex 5), (ex 6)]) (xf []) (xh []) (xv [(vik_1 0), (vi 12), (vi 13)]) (xl []) H.size hp5 hp6) ⟨va_cnB 1 htg (xg_ok kw_664) rfl rfl rfl (hK.2.1 _ kn_661) (htg _ kw_7) (by decide +kernel) ⟨by rw [hR]; exact Nat.le_of_ble_eq_true rfl, by rw [hR]; exact Nat.le_of_ble_eq_true rfl⟩, htg _ kw_663, htg _ ks_25⟩ (xpreV hK hPc hDc (va_recv hK.1 hPc (ci := 7) (q0 := 0) rfl rfl)) rfl rfl hl.1 rfl (lv_room (Nat.le_of_ble_eq_true rfl)) dX8_readWish_67 ⟨by rw [hR]; exact Nat.le_of_ble_eq_true rfl, by rw [hR]; exact Nat.le_of_ble_eq_true rfl⟩) hS (fun q _ h => hFc q h) hFc (fun r9 u9 t H1 locs ht hvm hw hB hz1 hk1 hS => ?_)
      subst hw
      obtain ⟨fik_4, flk_4, vik_4, vlk_4, hP1, hD1, hG⟩ := hB
      rw [ht] at hP1
      obtain ⟨hP, hD⟩ := va_join (wr := [((a 3), .inl (T 2, 9, .inr (.inl (fl 0)))), ((a 0), .inr (8, [.ref (a 1), .ref (a 2), .int (vi 0)])), ((a 6), .inl (T 1, 9, .inl (fi 1))), ((a 7), .inl (T 2, 9, .inr (.inl (fl 2)))), ((a 1), .inr (6, [.ref (a 5), .ref (a 4), .int (vi 1), .int (vi 2), .int (vi 3), .int (vik_3 5), .int (vik_3 1), .int (vik_3 2), .long (vlk_3 0), .int (vik_3 4), .int (vik_3 3), .int (vik_3 0), .int (vik_3 6), .int (vik_3 7)])), ((a 4), .inl (T 2, 27, .inr (.inl (fl 1)))), ((a 5), .inl (T 0, 940, .inl (fi 0)))]) (w1 := [((a 2), .inr (7, [.int (vi 12), .int (vi 13), .ref (a 7), .ref (ex 0), .ref (ex 1), .ref (ex 2), .ref (a 3), .ref (ex 3), .ref (ex 4), .ref (a 6), .ref (ex 5), .ref (ex 6)]))]) hP hD [3] [0, 1, 2, 4, 5, 6, 7] hC9 rfl (by decide) (by decide) hk1 hFc hP1 hD1
      obtain ⟨rk_4, er9⟩ : ∃ z, z = r9 := ⟨_, rfl⟩
      subst er9
      clear hPc hDc hFc hP1 hD1 hk1 hz1 hvm ht hC9
      generalize H1 = H at hP hS ⊢
      obtain ⟨hP, hD⟩ := (show xPD D A [((a 3), .inl (T 2, 9, .inr (.inl (fl 0)))), ((a 0), .inr (8, [.ref (a 1), .ref (a 2), .int (vi 0)])), ((a 6), .inl (T 1, 9, .inl (fi 1))), ((a 7), .inl (T 2, 9, .inr (.inl (fl 2)))), ((a 1), .inr (6, [.ref (a 5), .ref (a 4), .int (vi 1), .int (vi 2), .int (vi 3), .int (vik_3 5), .int (vik_3 1), .int (vik_3 2), .long (vlk_3 0), .int (vik_3 4), .int (vik_3 3), .int (vik_3 0), .int (vik_3 6), .int (vik_3 7)])), ((a 4), .inl (T 2, 27, .inr (.inl (fl 1)))), ((a 5), .inl (T 0, 940, .inl (fi 0))), ((a 2), .inr (7, [.int (vi 12), .int (vi 13), .ref (a 7), .ref (ex 0), .ref (ex 1), .ref (ex 2), .ref (a 3), .ref (ex 3), .ref (ex 4), .ref (a 6), .ref (ex 5), .ref (ex 6)]))] H from ⟨hP, hD⟩)
      obtain ⟨gk_4_0, -⟩ := hG
      rcases (show (rk_4 = 1 ∧ (0 ≤ (vik_1 0).toInt ∧ (vik_1 0).toInt < (vi 13).toInt)) ∨ (rk_4 = 0 ∧ (¬ (0 ≤ (vik_1 0).toInt ∧ (vik_1 0).toInt < (vi 13).toInt))) from gk_4_0) with ⟨er9, gk_4_0⟩ | ⟨er9, gk_4_0⟩
      · refine xz_i 1 er9 ?_
        have tb_2 : rk_4.toInt = 1 := by rw [er9]; decide
        refine lv_if_ne (tgt := 75) hx hb dX8_readWish_70 (by decide) (fun _ => ?_) (fun c => absurd c (by decide))
        refine lv_aload_n hx hb dX8_readWish_75 rfl (lv_at hl 1 rfl) ?_
        refine va_get (D := D) (ci := 8) (v := .ref (a 2)) (C := RX8) (T := TX8) (N := 3) hx hb htg inX8 hown hK.1 hP 1 rfl rfl 1 (by decide) (htg _ kw_229) (fun _ h9 => h9) rfl dX8_readWish_76 ?_
        refine va_getN (D := D) (ci := 7) (v := .ref (a 6)) (C := RX7) (T := TX7) (N := 12) hx hb htg inX7 hown hK.1 hP 7 rfl rfl 9 (by decide) (va_Nw.use rfl (hK.2.1 _ kn_189)) (fun _ h9 => h9) rfl dX8_readWish_79 ?_
        refine lv_iload_n hx hb dX8_readWish_82 rfl (lv_at hl 0 rfl) ?_
        refine lv_aload_n hx hb dX8_readWish_83 rfl (lv_at hl 1 rfl) ?_
        refine va_get (D := D) (ci := 8) (v := .ref (a 1)) (C := RX8) (T := TX8) (N := 3) hx hb htg inX8 hown hK.1 hP 1 rfl rfl 0 (by decide) (htg _ kw_228) (fun _ h9 => h9) rfl dX8_readWish_84 ?_
        refine va_getN (D := D) (ci := 6) (v := .int (vik_3 0)) (C := RX6) (T := TX6) (N := 14) hx hb htg inX6 hown hK.1 hP 4 rfl rfl 11 (by decide) (va_Nw.use rfl (hK.2.1 _ kn_114)) (fun _ h9 => h9) rfl dX8_readWish_87 ?_
        refine va_iast hx hb hK.1 hP hD hS 2 1 rfl rfl (vp_in_iff.mpr (by omega)) dX8_readWish_90 (fun H locs hP hD hS => ?_)
        obtain ⟨f90, ef90, hP, hD⟩ : ∃ f7 : Nat → Int32, f7 = upd (fi 1) (vik_1 0).toNatClampNeg ((vik_3 0) : Int32) ∧ va_P D vwCl [((a 3), .inl (T 2, 9, .inr (.inl (fl 0)))), ((a 0), .inr (8, [.ref (a 1), .ref (a 2), .int (vi 0)])), ((a 6), .inl (T 1, 9, .inl f7)), ((a 7), .inl (T 2, 9, .inr (.inl (fl 2)))), ((a 1), .inr (6, [.ref (a 5), .ref (a 4), .int (vi 1), .int (vi 2), .int (vi 3), .int (vik_3 5), .int (vik_3 1), .int (vik_3 2), .long (vlk_3 0), .int (vik_3 4), .int (vik_3 3), .int (vik_3 0), .int (vik_3 6), .int (vik_3 7)])), ((a 4), .inl (T 2, 27, .inr (.inl (fl 1)))), ((a 5), .inl (T 0, 940, .inl (fi 0))), ((a 2), .inr (7, [.int (vi 12), .int (vi 13), .ref (a 7), .ref (ex 0), .ref (ex 1), .ref (ex 2), .ref (a 3), .ref (ex 3), .ref (ex 4), .ref (a 6), .ref (ex 5), .ref (ex 6)]))] H ∧ va_D A [((a 3), .inl (T 2, 9, .inr (.inl (fl 0)))), ((a 0), .inr (8, [.ref (a 1), .ref (a 2), .int (vi 0)])), ((a 6), .inl (T 1, 9, .inl f7)), ((a 7), .inl (T 2, 9, .inr (.inl (fl 2)))), ((a 1), .inr (6, [.ref (a 5), .ref (a 4), .int (vi 1), .int (vi 2), .int (vi 3), .int (vik_3 5), .int (vik_3 1), .int (vik_3 2), .long (vlk_3 0), .int (vik_3 4), .int (vik_3 3), .int (vik_3 0), .int (vik_3 6), .int (vik_3 7)])), ((a 4), .inl (T 2, 27, .inr (.inl (fl 1)))), ((a 5), .inl (T 0, 940, .inl (fi 0))), ((a 2), .inr (7, [.int (vi 12), .int (vi 13), .ref (a 7), .ref (ex 0), .ref (ex 1), .ref (ex 2), .ref (a 3), .ref (ex 3), .ref (ex 4), .ref (a 6), .ref (ex 5), .ref (ex 6)]))] := ⟨_, rfl, hP, hD⟩
        refine lv_iconst (v := 1) hx hb dX8_readWish_91 (by decide) ?_
        have hP9 := hP.sub (ws' := [((a 0), .inr (8, [.ref (a 1), .ref (a 2), .int (vi 0)])), ((a 1), .inr (6, [.ref (a 5), .ref (a 4), .int (vi 1), .int (vi 2), .int (vi 3), .int (vik_3 5), .int (vik_3 1), .int (vik_3 2), .long (vlk_3 0), .int (vik_3 4), .int (vik_3 3), .int (vik_3 0), .int (vik_3 6), .int (vik_3 7)])), ((a 2), .inr (7, [.int (vi 12), .int (vi 13), .ref (a 7), .ref (ex 0), .ref (ex 1), .ref (ex 2), .ref (a 3), .ref (ex 3), .ref (ex 4), .ref (a 6), .ref (ex 5), .ref (ex 6)])), ((a 3), .inl (T 2, 9, .inr (.inl (fl 0)))), ((a 4), .inl (T 2, 27, .inr (.inl (fl 1)))), ((a 5), .inl (T 0, 940, .inl (fi 0))), ((a 6), .inl (T 1, 9, .inl f90)), ((a 7), .inl (T 2, 9, .inr (.inl (fl 2))))]) [1, 4, 7, 0, 5, 6, 2, 3] rfl
        have hD9 := hD.sub (ws' := [((a 0), .inr (8, [.ref (a 1), .ref (a 2), .int (vi 0)])), ((a 1), .inr (6, [.ref (a 5), .ref (a 4), .int (vi 1), .int (vi 2), .int (vi 3), .int (vik_3 5), .int (vik_3 1), .int (vik_3 2), .long (vlk_3 0), .int (vik_3 4), .int (vik_3 3), .int (vik_3 0), .int (vik_3 6), .int (vik_3 7)])), ((a 2), .inr (7, [.int (vi 12), .int (vi 13), .ref (a 7), .ref (ex 0), .ref (ex 1), .ref (ex 2), .ref (a 3), .ref (ex 3), .ref (ex 4), .ref (a 6), .ref (ex 5), .ref (ex 6)])), ((a 3), .inl (T 2, 9, .inr (.inl (fl 0)))), ((a 4), .inl (T 2, 27, .inr (.inl (fl 1)))), ((a 5), .inl (T 0, 940, .inl (fi 0))), ((a 6), .inl (T 1, 9, .inl f90)), ((a 7), .inl (T 2, 9, .inr (.inl (fl 2))))]) [1, 4, 7, 0, 5, 6, 2, 3] (by decide +kernel) rfl
        rw [hQ]
        exact W.zret (v := 1) hx hb hr rfl (fun t ht hW => ⟨⟨1, 1, rfl, rfl, xf [f90], xh [], xv [(vik_3 0), (vik_3 1), (vik_3 2), (vik_3 3), (vik_3 4), (vik_3 5), (vik_3 6), (vik_3 7)], xl [(vlk_3 0)], by rw [ht]; exact hP9, hD9, ⟨(Or.inl ⟨rfl, by show True; first | trivial | omega | assumption⟩), gk_3_1, gk_3_2, gk_3_3, (by show (1 : Int32).toInt = 1 → (vik_3 6).toInt = (vi 10).toInt; have k9_0 : (1 : Int32).toInt = 1 := (by decide); exact fun _ => ((gk_3_4 tb_1).trans (gk_1_4 tb))), (by unfold R_X8_readWish; exact (fun Q9 k9_0 k9_1 k9_2 k9_3 => k9_0 hp5 hp6 fik flk vik vlk rk gk_0 gk_1 fik_1 flk_1 vik_1 vlk_1 rk_1 gk_1_5 tb gk_1_0 fik_2 flk_2 vik_2 vlk_2 rk_2 gk_2_0 gk_2_1 fik_3 flk_3 vik_3 vlk_3 rk_3 gk_3_5 tb_1 gk_3_0 fik_4 flk_4 vik_4 vlk_4 rk_4 tb_2 gk_4_0 f90 ef90 rfl rfl rfl rfl rfl rfl rfl rfl rfl rfl rfl)), trivial⟩⟩, hS.F ht⟩) hS.2.2 dX8_readWish_92
      · refine xz_i 0 er9 ?_
        have tb_2 : rk_4.toInt = 0 := by rw [er9]; decide
        refine lv_if_ne (tgt := 75) hx hb dX8_readWish_70 (by decide) (fun c => absurd (by decide) c) (fun _ => ?_)
        refine lv_iconst (v := 0) hx hb dX8_readWish_73 (by decide) ?_
        have hP9 := hP.sub (ws' := [((a 0), .inr (8, [.ref (a 1), .ref (a 2), .int (vi 0)])), ((a 1), .inr (6, [.ref (a 5), .ref (a 4), .int (vi 1), .int (vi 2), .int (vi 3), .int (vik_3 5), .int (vik_3 1), .int (vik_3 2), .long (vlk_3 0), .int (vik_3 4), .int (vik_3 3), .int (vik_3 0), .int (vik_3 6), .int (vik_3 7)])), ((a 2), .inr (7, [.int (vi 12), .int (vi 13), .ref (a 7), .ref (ex 0), .ref (ex 1), .ref (ex 2), .ref (a 3), .ref (ex 3), .ref (ex 4), .ref (a 6), .ref (ex 5), .ref (ex 6)])), ((a 3), .inl (T 2, 9, .inr (.inl (fl 0)))), ((a 4), .inl (T 2, 27, .inr (.inl (fl 1)))), ((a 5), .inl (T 0, 940, .inl (fi 0))), ((a 6), .inl (T 1, 9, .inl (fi 1))), ((a 7), .inl (T 2, 9, .inr (.inl (fl 2))))]) [1, 4, 7, 0, 5, 6, 2, 3] rfl
        have hD9 := hD.sub (ws' := [((a 0), .inr (8, [.ref (a 1), .ref (a 2), .int (vi 0)])), ((a 1), .inr (6, [.ref (a 5), .ref (a 4), .int (vi 1), .int (vi 2), .int (vi 3), .int (vik_3 5), .int (vik_3 1), .int (vik_3 2), .long (vlk_3 0), .int (vik_3 4), .int (vik_3 3), .int (vik_3 0), .int (vik_3 6), .int (vik_3 7)])), ((a 2), .inr (7, [.int (vi 12), .int (vi 13), .ref (a 7), .ref (ex 0), .ref (ex 1), .ref (ex 2), .ref (a 3), .ref (ex 3), .ref (ex 4), .ref (a 6), .ref (ex 5), .ref (ex 6)])), ((a 3), .inl (T 2, 9, .inr (.inl (fl 0)))), ((a 4), .inl (T 2, 27, .inr (.inl (fl 1)))), ((a 5), .inl (T 0, 940, .inl (fi 0))), ((a 6), .inl (T 1, 9, .inl (fi 1))), ((a 7), .inl (T 2, 9, .inr (.inl (fl 2))))]) [1, 4, 7, 0, 5, 6, 2, 3] (by decide +kernel) rfl
        rw [hQ]
        exact W.zret (v := 0) hx hb hr rfl (fun t ht hW => ⟨⟨0, 0, rfl, rfl, xf [(fi 1)], xh [], xv [(vik_3 0), (vik_3 1), (vik_3 2), (vik_3 3), (vik_3 4), (vik_3 5), (vik_3 6), (vik_3 7)], xl [(vlk_3 0)], by rw [ht]; exact hP9, hD9, ⟨(Or.inr ⟨rfl, by show True; first | trivial | omega | assumption⟩), gk_3_1, gk_3_2, gk_3_3, (by show (0 : Int32).toInt = 1 → (vik_3 6).toInt = (vi 10).toInt; have k9_0 : (0 : Int32).toInt = 0 := (by decide); exact fun h9 => absurd h9 (by decide)), (by unfold R_X8_readWish; exact (fun Q9 k9_0 k9_1 k9_2 k9_3 => k9_1 hp5 hp6 fik flk vik vlk rk gk_0 gk_1 fik_1 flk_1 vik_1 vlk_1 rk_1 gk_1_5 tb gk_1_0 fik_2 flk_2 vik_2 vlk_2 rk_2 gk_2_0 gk_2_1 fik_3 flk_3 vik_3 vlk_3 rk_3 gk_3_5 tb_1 gk_3_0 fik_4 flk_4 vik_4 vlk_4 rk_4 tb_2 gk_4_0 rfl rfl rfl rfl rfl rfl rfl rfl rfl rfl rfl)), trivial⟩⟩, hS.F ht⟩) hS.2.2 dX8_readWish_74
    · refine xz_i 0 er9 ?_
      have tb_1 : rk_3.toInt = 0 := by rw [er9]; decide
      refine lv_if_eq (tgt := 73) hx hb dX8_readWish_59 (by decide) (fun _ => ?_) (fun c => absurd (by decide) c)
      refine lv_iconst (v := 0) hx hb dX8_readWish_73 (by decide) ?_
      have hP9 := hP.sub (ws' := [((a 0), .inr (8, [.ref (a 1), .ref (a 2), .int (vi 0)])), ((a 1), .inr (6, [.ref (a 5), .ref (a 4), .int (vi 1), .int (vi 2), .int (vi 3), .int (vik_3 5), .int (vik_3 1), .int (vik_3 2), .long (vlk_3 0), .int (vik_3 4), .int (vik_3 3), .int (vik_3 0), .int (vik_3 6), .int (vik_3 7)])), ((a 2), .inr (7, [.int (vi 12), .int (vi 13), .ref (a 7), .ref (ex 0), .ref (ex 1), .ref (ex 2), .ref (a 3), .ref (ex 3), .ref (ex 4), .ref (a 6), .ref (ex 5), .ref (ex 6)])), ((a 3), .inl (T 2, 9, .inr (.inl (fl 0)))), ((a 4), .inl (T 2, 27, .inr (.inl (fl 1)))), ((a 5), .inl (T 0, 940, .inl (fi 0))), ((a 6), .inl (T 1, 9, .inl (fi 1))), ((a 7), .inl (T 2, 9, .inr (.inl (fl 2))))]) [1, 5, 3, 0, 6, 7, 2, 4] rfl
      have hD9 := hD.sub (ws' := [((a 0), .inr (8, [.ref (a 1), .ref (a 2), .int (vi 0)])), ((a 1), .inr (6, [.ref (a 5), .ref (a 4), .int (vi 1), .int (vi 2), .int (vi 3), .int (vik_3 5), .int (vik_3 1), .int (vik_3 2), .long (vlk_3 0), .int (vik_3 4), .int (vik_3 3), .int (vik_3 0), .int (vik_3 6), .int (vik_3 7)])), ((a 2), .inr (7, [.int (vi 12), .int (vi 13), .ref (a 7), .ref (ex 0), .ref (ex 1), .ref (ex 2), .ref (a 3), .ref (ex 3), .ref (ex 4), .ref (a 6), .ref (ex 5), .ref (ex 6)])), ((a 3), .inl (T 2, 9, .inr (.inl (fl 0)))), ((a 4), .inl (T 2, 27, .inr (.inl (fl 1)))), ((a 5), .inl (T 0, 940, .inl (fi 0))), ((a 6), .inl (T 1, 9, .inl (fi 1))), ((a 7), .inl (T 2, 9, .inr (.inl (fl 2))))]) [1, 5, 3, 0, 6, 7, 2, 4] (by decide +kernel) rfl
      rw [hQ]
      exact W.zret (v := 0) hx hb hr rfl (fun t ht hW => ⟨⟨0, 0, rfl, rfl, xf [(fi 1)], xh [], xv [(vik_3 0), (vik_3 1), (vik_3 2), (vik_3 3), (vik_3 4), (vik_3 5), (vik_3 6), (vik_3 7)], xl [(vlk_3 0)], by rw [ht]; exact hP9, hD9, ⟨(Or.inr ⟨rfl, by show True; first | trivial | omega | assumption⟩), gk_3_1, gk_3_2, gk_3_3, (by show (0 : Int32).toInt = 1 → (vik_3 6).toInt = (vi 10).toInt; have k9_0 : (0 : Int32).toInt = 0 := (by decide); exact fun h9 => absurd h9 (by decide)), (by unfold R_X8_readWish; exact (fun Q9 k9_0 k9_1 k9_2 k9_3 => k9_2 hp5 hp6 fik flk vik vlk rk gk_0 gk_1 fik_1 flk_1 vik_1 vlk_1 rk_1 gk_1_5 tb gk_1_0 fik_2 flk_2 vik_2 vlk_2 rk_2 gk_2_0 gk_2_1 fik_3 flk_3 vik_3 vlk_3 rk_3 gk_3_5 tb_1 gk_3_0 rfl rfl rfl rfl rfl rfl rfl rfl rfl rfl rfl)), trivial⟩⟩, hS.F ht⟩) hS.2.2 dX8_readWish_74
  · refine xz_i 0 er9 ?_
    have tb : rk_1.toInt = 0 := by rw [er9]; decide
    refine lv_if_ne (tgt := 30) hx hb dX8_readWish_25 (by decide) (fun c => absurd (by decide) c) (fun _ => ?_)
    refine lv_iconst (v := 0) hx hb dX8_readWish_28 (by decide) ?_
    have hP9 := hP.sub (ws' := [((a 0), .inr (8, [.ref (a 1), .ref (a 2), .int (vi 0)])), ((a 1), .inr (6, [.ref (a 5), .ref (a 4), .int (vi 1), .int (vi 2), .int (vi 3), .int (vik_1 5), .int (vik_1 1), .int (vik_1 2), .long (vlk_1 0), .int (vik_1 4), .int (vik_1 3), .int (vik_1 0), .int (vik_1 6), .int (vik_1 7)])), ((a 2), .inr (7, [.int (vi 12), .int (vi 13), .ref (a 7), .ref (ex 0), .ref (ex 1), .ref (ex 2), .ref (a 3), .ref (ex 3), .ref (ex 4), .ref (a 6), .ref (ex 5), .ref (ex 6)])), ((a 3), .inl (T 2, 9, .inr (.inl (fl 0)))), ((a 4), .inl (T 2, 27, .inr (.inl (fl 1)))), ((a 5), .inl (T 0, 940, .inl (fi 0))), ((a 6), .inl (T 1, 9, .inl (fi 1))), ((a 7), .inl (T 2, 9, .inr (.inl (fl 2))))]) [3, 4, 1, 2, 5, 6, 7, 0] rfl
    have hD9 := hD.sub (ws' := [((a 0), .inr (8, [.ref (a 1), .ref (a 2), .int (vi 0)])), ((a 1), .inr (6, [.ref (a 5), .ref (a 4), .int (vi 1), .int (vi 2), .int (vi 3), .int (vik_1 5), .int (vik_1 1), .int (vik_1 2), .long (vlk_1 0), .int (vik_1 4), .int (vik_1 3), .int (vik_1 0), .int (vik_1 6), .int (vik_1 7)])), ((a 2), .inr (7, [.int (vi 12), .int (vi 13), .ref (a 7), .ref (ex 0), .ref (ex 1), .ref (ex 2), .ref (a 3), .ref (ex 3), .ref (ex 4), .ref (a 6), .ref (ex 5), .ref (ex 6)])), ((a 3), .inl (T 2, 9, .inr (.inl (fl 0)))), ((a 4), .inl (T 2, 27, .inr (.inl (fl 1)))), ((a 5), .inl (T 0, 940, .inl (fi 0))), ((a 6), .inl (T 1, 9, .inl (fi 1))), ((a 7), .inl (T 2, 9, .inr (.inl (fl 2))))]) [3, 4, 1, 2, 5, 6, 7, 0] (by decide +kernel) rfl
    rw [hQ]
    exact W.zret (v := 0) hx hb hr rfl (fun t ht hW => ⟨⟨0, 0, rfl, rfl, xf [(fi 1)], xh [], xv [(vik_1 0), (vik_1 1), (vik_1 2), (vik_1 3), (vik_1 4), (vik_1 5), (vik_1 6), (vik_1 7)], xl [(vlk_1 0)], by rw [ht]; exact hP9, hD9, ⟨(Or.inr ⟨rfl, by show True; first | trivial | omega | assumption⟩), gk_1_1, gk_1_2, gk_1_3, (by show (0 : Int32).toInt = 1 → (vik_1 6).toInt = (vi 10).toInt; have k9_0 : (0 : Int32).toInt = 0 := (by decide); exact fun h9 => absurd h9 (by decide)), (by unfold R_X8_readWish; exact (fun Q9 k9_0 k9_1 k9_2 k9_3 => k9_3 hp5 hp6 fik flk vik vlk rk gk_0 gk_1 fik_1 flk_1 vik_1 vlk_1 rk_1 gk_1_5 tb gk_1_0 rfl rfl rfl rfl rfl rfl rfl rfl rfl rfl rfl)), trivial⟩⟩, hS.F ht⟩) hS.2.2 dX8_readWish_29
abbrev pre_J0_coder_7d493_27 (T : Nat → ClassId) (a ex : Nat → Nat) (fi : Nat → Nat → Int32) (fl : Nat → Nat → Int64) (vi : Nat → Int32) (vl : Nat → Int64) : va_W := []
set_option maxHeartbeats 8000000 in
set_option maxRecDepth 100000 in
theorem c_J0_coder_7d493_27 (l : Launch) (D : va_G) (T : Nat → ClassId) (a ex : Nat → Nat) (fi : Nat → Nat → Int32) (fl : Nat → Nat → Int64) (vi : Nat → Int32) (vl : Nat → Int64) (kK kV : Nat → Nat) (sz : Nat) : Met l yJ0_coder_7d493 (xw yJ0_coder_7d493 cJ0_coder_7d493 1 (some .byte)) ({ frames := 0, cells := 0, slots := 0, locals := 0 }) (xPs D T kK kV [.ref (kK 9)] sz (pre_J0_coder_7d493_27 T a ex fi fl vi vl)) (va_Qi (fun r u => r = u) (xC D (va_A (pre_J0_coder_7d493_27 T a ex fi fl vi vl) sz) (fun fj fm vj vm => []) (fun (r : Int32) (fj : Nat → Nat → Int32) (fm : Nat → Nat → Int64) (vj : Nat → Int32) (vm : Nat → Int64) => r = 0 ∧ True)) (va_A (pre_J0_coder_7d493_27 T a ex fi fl vi vl) sz)) 0 0 (va_A (pre_J0_coder_7d493_27 T a ex fi fl vi vl) sz) := by
  refine xofW (cc := cJ0_coder_7d493) (maxL := 1) (ret := (some .byte)) (by decide) rfl ?_
  intro p e s m args below meth c s₁ R Q hR hQ B hml hv
  obtain ⟨rfl, hsz, hP, hK, hD0, hT⟩ := hv
  have hx := B.exec
  have hb := B.bytes
  have hr := B.returns
  have hts := atoms_spec (ws := xw yJ0_coder_7d493 cJ0_coder_7d493 1 (some .byte)) B.pre
  have htg : ∀ w ∈ xg, w.before _ s = true := fun w h => hts w (List.mem_cons_of_mem _ h)
  have hown : s.vm.findClass RJ0 = some m.cls := findClass_of_methodNamed B.named
  have hlocks := B.notSynchronized
  subst hsz
  have hD := hD0.self (sz := s.heap.size)
  generalize hAe : va_A (pre_J0_coder_7d493_27 T a ex fi fl vi vl) s.heap.size = A at hD hQ hT
  have hA : ∀ q : Nat, s.heap.size ≤ q → A q := fun q h => by rw [← hAe]; exact Or.inr h
  have hS : va_S A s.heap s.heap [] := va_S.rf
  replace hP : va_P D vwCl [] s.heap := hP
  replace hD : va_D A [] := hD
  have hl := lv_entry ([.ref (kK 9)]) (n := 1) (Nat.le_of_ble_eq_true rfl)
  rw [lg_entry_eq]
  generalize (lg_sl ([.ref (kK 9)]) ++ List.replicate (1 - (lg_sl ([.ref (kK 9)])).length) Slot.unset).toArray = ls at hl ⊢
  replace hl : lv_has ls 1 [(0, .ref (kK 9))] := hl
  refine va_gets hx hb hT.2.2.1 hS hown (htg _ kw_52) (fun _ h9 => h9) dJ0_coder_7d493_0 ?_
  refine lv_if_eq (tgt := 13) hx hb dJ0_coder_7d493_3 (by decide) (fun c => absurd c (by decide)) (fun _ => ?_)
  refine lv_aload_n hx hb dJ0_coder_7d493_6 rfl (lv_at hl 0 rfl) ?_
  refine vk_getf hx hb (hT.2.1 9 (by decide)).2.1 hS hown (htg _ kw_2031) (fun _ h9 => h9) dJ0_coder_7d493_7 ?_
  refine lv_goto (tgt := 14) hx hb dJ0_coder_7d493_10 (by decide) ?_
  have hP9 := hP.sub (ws' := []) [] rfl
  have hD9 := hD.sub (ws' := []) [] (by decide +kernel) rfl
  rw [hQ]
  exact W.zret (v := 0) hx hb hr rfl (fun t ht hW => ⟨⟨0, 0, rfl, rfl, xf [], xh [], xv [], xl [], by rw [ht]; exact hP9, hD9, ⟨rfl, trivial⟩⟩, hS.F ht⟩) hS.2.2 dJ0_coder_7d493_14
abbrev pre_J0_length_8abf5_27 (T : Nat → ClassId) (a ex : Nat → Nat) (fi : Nat → Nat → Int32) (fl : Nat → Nat → Int64) (vi : Nat → Int32) (vl : Nat → Int64) : va_W := []
set_option maxHeartbeats 8000000 in
set_option maxRecDepth 100000 in
theorem c_J0_length_8abf5_27 (l : Launch) (D : va_G) (T : Nat → ClassId) (a ex : Nat → Nat) (fi : Nat → Nat → Int32) (fl : Nat → Nat → Int64) (vi : Nat → Int32) (vl : Nat → Int64) (kK kV : Nat → Nat) (sz : Nat) : Met l yJ0_length_8abf5 (xw yJ0_length_8abf5 cJ0_length_8abf5 1 (some .int)) ({ frames := 1, cells := 0, slots := 0, locals := 24 }) (xPs D T kK kV [.ref (kK 9)] sz (pre_J0_length_8abf5_27 T a ex fi fl vi vl)) (va_Qi (fun r u => r = u) (xC D (va_A (pre_J0_length_8abf5_27 T a ex fi fl vi vl) sz) (fun fj fm vj vm => []) (fun (r : Int32) (fj : Nat → Nat → Int32) (fm : Nat → Nat → Int64) (vj : Nat → Int32) (vm : Nat → Int64) => r = 5 ∧ True)) (va_A (pre_J0_length_8abf5_27 T a ex fi fl vi vl) sz)) 0 0 (va_A (pre_J0_length_8abf5_27 T a ex fi fl vi vl) sz) := by
  refine xofW (cc := cJ0_length_8abf5) (maxL := 1) (ret := (some .int)) (by decide) rfl ?_
  intro p e s m args below meth c s₁ R Q hR hQ B hml hv
  obtain ⟨rfl, hsz, hP, hK, hD0, hT⟩ := hv
  have hx := B.exec
  have hb := B.bytes
  have hr := B.returns
  have hts := atoms_spec (ws := xw yJ0_length_8abf5 cJ0_length_8abf5 1 (some .int)) B.pre
  have htg : ∀ w ∈ xg, w.before _ s = true := fun w h => hts w (List.mem_cons_of_mem _ h)
  have hown : s.vm.findClass RJ0 = some m.cls := findClass_of_methodNamed B.named
  have hlocks := B.notSynchronized
  subst hsz
  have hD := hD0.self (sz := s.heap.size)
  generalize hAe : va_A (pre_J0_length_8abf5_27 T a ex fi fl vi vl) s.heap.size = A at hD hQ hT
  have hA : ∀ q : Nat, s.heap.size ≤ q → A q := fun q h => by rw [← hAe]; exact Or.inr h
  have hS : va_S A s.heap s.heap [] := va_S.rf
  replace hP : va_P D vwCl [] s.heap := hP
  replace hD : va_D A [] := hD
  have hl := lv_entry ([.ref (kK 9)]) (n := 1) (Nat.le_of_ble_eq_true rfl)
  rw [lg_entry_eq]
  generalize (lg_sl ([.ref (kK 9)]) ++ List.replicate (1 - (lg_sl ([.ref (kK 9)])).length) Slot.unset).toArray = ls at hl ⊢
  replace hl : lv_has ls 1 [(0, .ref (kK 9))] := hl
  refine lv_aload_n hx hb dJ0_length_8abf5_0 rfl (lv_at hl 0 rfl) ?_
  refine vk_getf hx hb (hT.2.1 9 (by decide)).2.2.1 hS hown (htg _ kw_2030) (fun _ h9 => h9) dJ0_length_8abf5_1 ?_
  refine va_tlen (v := 5) hx hb (hT.2.1 9 (by decide)).2.2.2 hS (by decide) dJ0_length_8abf5_4 ?_
  refine lv_aload_n hx hb dJ0_length_8abf5_5 rfl (lv_at hl 0 rfl) ?_
  obtain ⟨hC9, hPc, hDc, hFc⟩ := xcut (wc := (pre_J0_coder_7d493_27 T (xa []) (xa []) (xf []) (xh []) (xv []) (xl []))) hP hD hS hA [] (by decide) rfl
  refine va_calli (va_runV (As := []) (rest := [.int 5]) ⟨hx, hb, hml, hown, htg⟩ (c_J0_coder_7d493_27 l D T (xa []) (xa []) (xf []) (xh []) (xv []) (xl []) kK kV s.heap.size) ⟨callB_of 0 htg (xg_ok kw_51) rfl rfl rfl (htg _ kw_3) (htg _ kw_48) (by decide +kernel) ⟨by rw [hR]; exact Nat.le_of_ble_eq_true rfl, by rw [hR]; exact Nat.le_of_ble_eq_true rfl⟩, htg _ kw_49, htg _ kw_50⟩ (xpreVs hK hPc hDc hT hFc hS (xT.recv hT 9 (by decide) hS)) rfl rfl hl.1 rfl (lv_room (Nat.le_of_ble_eq_true rfl)) dJ0_length_8abf5_6 ⟨by rw [hR]; exact Nat.le_of_ble_eq_true rfl, by rw [hR]; exact Nat.le_of_ble_eq_true rfl⟩) hS (fun q _ h => hFc q h) hFc (fun r9 u9 t H1 locs ht hvm hw hB hz1 hk1 hS => ?_)
  subst hw
  obtain ⟨fik, flk, vik, vlk, hP1, hD1, hG⟩ := hB
  rw [ht] at hP1
  obtain ⟨hP, hD⟩ := va_join (wr := []) (w1 := []) hP hD [] [] hC9 rfl (by decide) (by decide) hk1 hFc hP1 hD1
  obtain ⟨rk, er9⟩ : ∃ z, z = r9 := ⟨_, rfl⟩
  subst er9
  clear hPc hDc hFc hP1 hD1 hk1 hz1 hvm ht hC9
  generalize H1 = H at hP hS ⊢
  obtain ⟨hP, hD⟩ := (show xPD D A [] H from ⟨hP, hD⟩)
  obtain ⟨gk_0, -⟩ := hG
  replace gk_0 : rk = 0 := gk_0
  refine xz_i 0 gk_0 ?_
  refine lv_ishr hx hb dJ0_length_8abf5_9 ?_
  refine xz_i 5 (by decide) ?_
  have hP9 := hP.sub (ws' := []) [] rfl
  have hD9 := hD.sub (ws' := []) [] (by decide +kernel) rfl
  rw [hQ]
  exact W.iret (v := 5) hx hb hr (fun t ht hW => ⟨⟨5, 5, rfl, rfl, xf [], xh [], xv [], xl [], by rw [ht]; exact hP9, hD9, ⟨rfl, trivial⟩⟩, hS.F ht⟩) hS.2.2 dJ0_length_8abf5_10
abbrev pre_J0_isLatin1_aae02_27 (T : Nat → ClassId) (a ex : Nat → Nat) (fi : Nat → Nat → Int32) (fl : Nat → Nat → Int64) (vi : Nat → Int32) (vl : Nat → Int64) : va_W := []
set_option maxHeartbeats 8000000 in
set_option maxRecDepth 100000 in
theorem c_J0_isLatin1_aae02_27 (l : Launch) (D : va_G) (T : Nat → ClassId) (a ex : Nat → Nat) (fi : Nat → Nat → Int32) (fl : Nat → Nat → Int64) (vi : Nat → Int32) (vl : Nat → Int64) (kK kV : Nat → Nat) (sz : Nat) : Met l yJ0_isLatin1_aae02 (xw yJ0_isLatin1_aae02 cJ0_isLatin1_aae02 1 (some .boolean)) ({ frames := 0, cells := 0, slots := 0, locals := 0 }) (xPs D T kK kV [.ref (kK 9)] sz (pre_J0_isLatin1_aae02_27 T a ex fi fl vi vl)) (va_Qi (fun r u => r = u) (xC D (va_A (pre_J0_isLatin1_aae02_27 T a ex fi fl vi vl) sz) (fun fj fm vj vm => []) (fun (r : Int32) (fj : Nat → Nat → Int32) (fm : Nat → Nat → Int64) (vj : Nat → Int32) (vm : Nat → Int64) => r = 1 ∧ True)) (va_A (pre_J0_isLatin1_aae02_27 T a ex fi fl vi vl) sz)) 0 0 (va_A (pre_J0_isLatin1_aae02_27 T a ex fi fl vi vl) sz) := by
  refine xofW (cc := cJ0_isLatin1_aae02) (maxL := 1) (ret := (some .boolean)) (by decide) rfl ?_
  intro p e s m args below meth c s₁ R Q hR hQ B hml hv
  obtain ⟨rfl, hsz, hP, hK, hD0, hT⟩ := hv
  have hx := B.exec
  have hb := B.bytes
  have hr := B.returns
  have hts := atoms_spec (ws := xw yJ0_isLatin1_aae02 cJ0_isLatin1_aae02 1 (some .boolean)) B.pre
  have htg : ∀ w ∈ xg, w.before _ s = true := fun w h => hts w (List.mem_cons_of_mem _ h)
  have hown : s.vm.findClass RJ0 = some m.cls := findClass_of_methodNamed B.named
  have hlocks := B.notSynchronized
  subst hsz
  have hD := hD0.self (sz := s.heap.size)
  generalize hAe : va_A (pre_J0_isLatin1_aae02_27 T a ex fi fl vi vl) s.heap.size = A at hD hQ hT
  have hA : ∀ q : Nat, s.heap.size ≤ q → A q := fun q h => by rw [← hAe]; exact Or.inr h
  have hS : va_S A s.heap s.heap [] := va_S.rf
  replace hP : va_P D vwCl [] s.heap := hP
  replace hD : va_D A [] := hD
  have hl := lv_entry ([.ref (kK 9)]) (n := 1) (Nat.le_of_ble_eq_true rfl)
  rw [lg_entry_eq]
  generalize (lg_sl ([.ref (kK 9)]) ++ List.replicate (1 - (lg_sl ([.ref (kK 9)])).length) Slot.unset).toArray = ls at hl ⊢
  replace hl : lv_has ls 1 [(0, .ref (kK 9))] := hl
  refine va_gets hx hb hT.2.2.1 hS hown (htg _ kw_52) (fun _ h9 => h9) dJ0_isLatin1_aae02_0 ?_
  refine lv_if_eq (tgt := 17) hx hb dJ0_isLatin1_aae02_3 (by decide) (fun c => absurd c (by decide)) (fun _ => ?_)
  refine lv_aload_n hx hb dJ0_isLatin1_aae02_6 rfl (lv_at hl 0 rfl) ?_
  refine vk_getf hx hb (hT.2.1 9 (by decide)).2.1 hS hown (htg _ kw_2031) (fun _ h9 => h9) dJ0_isLatin1_aae02_7 ?_
  refine lv_if_ne (tgt := 17) hx hb dJ0_isLatin1_aae02_10 (by decide) (fun c => absurd (by decide) c) (fun _ => ?_)
  refine lv_iconst (v := 1) hx hb dJ0_isLatin1_aae02_13 (by decide) ?_
  refine lv_goto (tgt := 18) hx hb dJ0_isLatin1_aae02_14 (by decide) ?_
  have hP9 := hP.sub (ws' := []) [] rfl
  have hD9 := hD.sub (ws' := []) [] (by decide +kernel) rfl
  rw [hQ]
  exact W.zret (v := 1) hx hb hr rfl (fun t ht hW => ⟨⟨1, 1, rfl, rfl, xf [], xh [], xv [], xl [], by rw [ht]; exact hP9, hD9, ⟨rfl, trivial⟩⟩, hS.F ht⟩) hS.2.2 dJ0_isLatin1_aae02_18
abbrev pre_J1_charAt_3b067_27 (T : Nat → ClassId) (a ex : Nat → Nat) (fi : Nat → Nat → Int32) (fl : Nat → Nat → Int64) (vi : Nat → Int32) (vl : Nat → Int64) : va_W := []
set_option maxHeartbeats 8000000 in
set_option maxRecDepth 100000 in
theorem c_J1_charAt_3b067_27 (l : Launch) (D : va_G) (T : Nat → ClassId) (a ex : Nat → Nat) (fi : Nat → Nat → Int32) (fl : Nat → Nat → Int64) (vi : Nat → Int32) (vl : Nat → Int64) (kK kV : Nat → Nat) (sz : Nat) (hp0 : 0 ≤ (vi 0).toInt ∧ (vi 0).toInt ≤ 4) : Met l yJ1_charAt_3b067 (xw yJ1_charAt_3b067 cJ1_charAt_3b067 2 (some .char)) ({ frames := 2, cells := 0, slots := 0, locals := 51 }) (xPs D T kK kV [.ref (kV 9), .int (vi 0)] sz (pre_J1_charAt_3b067_27 T a ex fi fl vi vl)) (va_Qi (fun r u => r = u) (xC D (va_A (pre_J1_charAt_3b067_27 T a ex fi fl vi vl) sz) (fun fj fm vj vm => []) (fun (r : Int32) (fj : Nat → Nat → Int32) (fm : Nat → Nat → Int64) (vj : Nat → Int32) (vm : Nat → Int64) => narrow .char (.int r) = .int r ∧ R_J1_charAt_3b067_27 fi fl vi vl r fj fm vj vm ∧ True)) (va_A (pre_J1_charAt_3b067_27 T a ex fi fl vi vl) sz)) 0 0 (va_A (pre_J1_charAt_3b067_27 T a ex fi fl vi vl) sz) := by
  refine xofW (cc := cJ1_charAt_3b067) (maxL := 2) (ret := (some .char)) (by decide) rfl ?_
  intro p e s m args below meth c s₁ R Q hR hQ B hml hv
  obtain ⟨rfl, hsz, hP, hK, hD0, hT⟩ := hv
  have hx := B.exec
  have hb := B.bytes
  have hr := B.returns
  have hts := atoms_spec (ws := xw yJ1_charAt_3b067 cJ1_charAt_3b067 2 (some .char)) B.pre
  have htg : ∀ w ∈ xg, w.before _ s = true := fun w h => hts w (List.mem_cons_of_mem _ h)
  have hown : s.vm.findClass RJ1 = some m.cls := findClass_of_methodNamed B.named
  have hlocks := B.notSynchronized
  subst hsz
  have hD := hD0.self (sz := s.heap.size)
  generalize hAe : va_A (pre_J1_charAt_3b067_27 T a ex fi fl vi vl) s.heap.size = A at hD hQ hT
  have hA : ∀ q : Nat, s.heap.size ≤ q → A q := fun q h => by rw [← hAe]; exact Or.inr h
  have hS : va_S A s.heap s.heap [] := va_S.rf
  replace hP : va_P D vwCl [] s.heap := hP
  replace hD : va_D A [] := hD
  have hl := lv_entry ([.ref (kV 9), .int (vi 0)]) (n := 2) (Nat.le_of_ble_eq_true rfl)
  rw [lg_entry_eq]
  generalize (lg_sl ([.ref (kV 9), .int (vi 0)]) ++ List.replicate (2 - (lg_sl ([.ref (kV 9), .int (vi 0)])).length) Slot.unset).toArray = ls at hl ⊢
  replace hl : lv_has ls 2 [(0, .ref (kV 9)), (1, .int (vi 0))] := hl
  refine lv_iload_n hx hb dJ1_charAt_3b067_0 rfl (lv_at hl 1 rfl) ?_
  refine lv_aload_n hx hb dJ1_charAt_3b067_1 rfl (lv_at hl 0 rfl) ?_
  refine va_tlen (v := 5) hx hb (hT.2.1 9 (by decide)).2.2.2 hS (by decide) dJ1_charAt_3b067_2 ?_
  obtain ⟨hC9, hPc, hDc, hFc⟩ := xcut (wc := (pre_J0_checkIndex_df160_2 T (xa []) (xa []) (xf []) (xh []) (xv [(vi 0)]) (xl []))) hP hD hS hA [] (by decide) rfl
  refine va_callv (va_runS (As := [.int (vi 0), .int 5]) (rest := []) ⟨hx, hb, hml, hown, htg⟩ (c_J0_checkIndex_df160_2 l D T (xa []) (xa []) (xf []) (xh []) (xv [(vi 0)]) (xl []) kK kV s.heap.size hp0) ⟨callB_of 2 htg (xg_ok kw_67) rfl rfl rfl (htg _ kw_3) (htg _ kw_65) (by decide +kernel) ⟨by rw [hR]; exact Nat.le_of_ble_eq_true rfl, by rw [hR]; exact Nat.le_of_ble_eq_true rfl⟩, htg _ kw_66⟩ (xpreSs hK hPc hDc hT hFc hS) rfl rfl hl.1 rfl (lv_room (Nat.le_of_ble_eq_true rfl)) dJ1_charAt_3b067_3 ⟨by rw [hR]; exact Nat.le_of_ble_eq_true rfl, by rw [hR]; exact Nat.le_of_ble_eq_true rfl⟩) hS (fun q _ h => hFc q h) hFc (fun u9 t H1 locs ht hvm hw hB hz1 hk1 hS => ?_)
  obtain ⟨fik, flk, vik, vlk, hP1, hD1, hG⟩ := hB
  rw [ht] at hP1
  obtain ⟨hP, hD⟩ := va_join (wr := []) (w1 := []) hP hD [] [] hC9 rfl (by decide) (by decide) hk1 hFc hP1 hD1
  clear hPc hDc hFc hP1 hD1 hk1 hz1 hvm ht hC9
  generalize H1 = H at hP hS ⊢
  obtain ⟨hP, hD⟩ := (show xPD D A [] H from ⟨hP, hD⟩)
  obtain ⟨uk, eu9⟩ : ∃ z, z = u9 := ⟨_, rfl⟩
  subst eu9
  clear hG
  refine lv_aload_n hx hb dJ1_charAt_3b067_6 rfl (lv_at hl 0 rfl) ?_
  refine lv_iload_n hx hb dJ1_charAt_3b067_7 rfl (lv_at hl 1 rfl) ?_
  refine va_tb hx hb (hT.2.1 9 (by decide)).2.2.2 hS (show vp_in (vi 0) 5 from (vp_in_iff.mpr (by omega))) rfl dJ1_charAt_3b067_8 ?_
  refine lv_topi (fun z8 ez8 => ?_)
  refine lv_sipush (v := 255) hx hb dJ1_charAt_3b067_9 (by decide) ?_
  refine lv_iand hx hb dJ1_charAt_3b067_12 ?_
  refine lv_topi (fun z12 ez12 => ?_)
  have tz12 : 0 ≤ z12.toInt ∧ z12.toInt ≤ 255 := by rw [ez12]; exact xand255 _
  refine lv_i2c hx hb dJ1_charAt_3b067_13 rfl ?_
  refine lv_topi (fun z13 ez13 => ?_)
  have nz13 : narrow .char (.int z13) = .int z13 := by rw [ez13]; exact pk_nc _
  have hP9 := hP.sub (ws' := []) [] rfl
  have hD9 := hD.sub (ws' := []) [] (by decide +kernel) rfl
  rw [hQ]
  exact W.zret (v := z13) hx hb hr nz13 (fun t ht hW => ⟨⟨z13, z13, rfl, rfl, xf [], xh [], xv [], xl [], by rw [ht]; exact hP9, hD9, ⟨nz13, (by unfold R_J1_charAt_3b067_27; exact (fun Q9 k9_0 => k9_0 hp0 fik flk vik vlk uk z8 ez8 z12 ez12 z13 ez13 rfl)), trivial⟩⟩, hS.F ht⟩) hS.2.2 dJ1_charAt_3b067_14
abbrev pre_J0_charAt_5068e_27 (T : Nat → ClassId) (a ex : Nat → Nat) (fi : Nat → Nat → Int32) (fl : Nat → Nat → Int64) (vi : Nat → Int32) (vl : Nat → Int64) : va_W := []
set_option maxHeartbeats 8000000 in
set_option maxRecDepth 100000 in
theorem c_J0_charAt_5068e_27 (l : Launch) (D : va_G) (T : Nat → ClassId) (a ex : Nat → Nat) (fi : Nat → Nat → Int32) (fl : Nat → Nat → Int64) (vi : Nat → Int32) (vl : Nat → Int64) (kK kV : Nat → Nat) (sz : Nat) (hp0 : 0 ≤ (vi 0).toInt ∧ (vi 0).toInt ≤ 4) : Met l yJ0_charAt_5068e (xw yJ0_charAt_5068e cJ0_charAt_5068e 2 (some .char)) ({ frames := 3, cells := 0, slots := 0, locals := 76 }) (xPs D T kK kV [.ref (kK 9), .int (vi 0)] sz (pre_J0_charAt_5068e_27 T a ex fi fl vi vl)) (va_Qi (fun r u => r = u) (xC D (va_A (pre_J0_charAt_5068e_27 T a ex fi fl vi vl) sz) (fun fj fm vj vm => []) (fun (r : Int32) (fj : Nat → Nat → Int32) (fm : Nat → Nat → Int64) (vj : Nat → Int32) (vm : Nat → Int64) => narrow .char (.int r) = .int r ∧ R_J0_charAt_5068e_27 fi fl vi vl r fj fm vj vm ∧ True)) (va_A (pre_J0_charAt_5068e_27 T a ex fi fl vi vl) sz)) 0 0 (va_A (pre_J0_charAt_5068e_27 T a ex fi fl vi vl) sz) := by
  refine xofW (cc := cJ0_charAt_5068e) (maxL := 2) (ret := (some .char)) (by decide) rfl ?_
  intro p e s m args below meth c s₁ R Q hR hQ B hml hv
  obtain ⟨rfl, hsz, hP, hK, hD0, hT⟩ := hv
  have hx := B.exec
  have hb := B.bytes
  have hr := B.returns
  have hts := atoms_spec (ws := xw yJ0_charAt_5068e cJ0_charAt_5068e 2 (some .char)) B.pre
  have htg : ∀ w ∈ xg, w.before _ s = true := fun w h => hts w (List.mem_cons_of_mem _ h)
  have hown : s.vm.findClass RJ0 = some m.cls := findClass_of_methodNamed B.named
  have hlocks := B.notSynchronized
  subst hsz
  have hD := hD0.self (sz := s.heap.size)
  generalize hAe : va_A (pre_J0_charAt_5068e_27 T a ex fi fl vi vl) s.heap.size = A at hD hQ hT
  have hA : ∀ q : Nat, s.heap.size ≤ q → A q := fun q h => by rw [← hAe]; exact Or.inr h
  have hS : va_S A s.heap s.heap [] := va_S.rf
  replace hP : va_P D vwCl [] s.heap := hP
  replace hD : va_D A [] := hD
  have hl := lv_entry ([.ref (kK 9), .int (vi 0)]) (n := 2) (Nat.le_of_ble_eq_true rfl)
  rw [lg_entry_eq]
  generalize (lg_sl ([.ref (kK 9), .int (vi 0)]) ++ List.replicate (2 - (lg_sl ([.ref (kK 9), .int (vi 0)])).length) Slot.unset).toArray = ls at hl ⊢
  replace hl : lv_has ls 2 [(0, .ref (kK 9)), (1, .int (vi 0))] := hl
  refine lv_aload_n hx hb dJ0_charAt_5068e_0 rfl (lv_at hl 0 rfl) ?_
  obtain ⟨hC9, hPc, hDc, hFc⟩ := xcut (wc := (pre_J0_isLatin1_aae02_27 T (xa []) (xa []) (xf []) (xh []) (xv []) (xl []))) hP hD hS hA [] (by decide) rfl
  refine va_calli (va_runV (As := []) (rest := []) ⟨hx, hb, hml, hown, htg⟩ (c_J0_isLatin1_aae02_27 l D T (xa []) (xa []) (xf []) (xh []) (xv []) (xl []) kK kV s.heap.size) ⟨callB_of 0 htg (xg_ok kw_61) rfl rfl rfl (htg _ kw_3) (htg _ kw_58) (by decide +kernel) ⟨by rw [hR]; exact Nat.le_of_ble_eq_true rfl, by rw [hR]; exact Nat.le_of_ble_eq_true rfl⟩, htg _ kw_59, htg _ kw_60⟩ (xpreVs hK hPc hDc hT hFc hS (xT.recv hT 9 (by decide) hS)) rfl rfl hl.1 rfl (lv_room (Nat.le_of_ble_eq_true rfl)) dJ0_charAt_5068e_1 ⟨by rw [hR]; exact Nat.le_of_ble_eq_true rfl, by rw [hR]; exact Nat.le_of_ble_eq_true rfl⟩) hS (fun q _ h => hFc q h) hFc (fun r9 u9 t H1 locs ht hvm hw hB hz1 hk1 hS => ?_)
  subst hw
  obtain ⟨fik, flk, vik, vlk, hP1, hD1, hG⟩ := hB
  rw [ht] at hP1
  obtain ⟨hP, hD⟩ := va_join (wr := []) (w1 := []) hP hD [] [] hC9 rfl (by decide) (by decide) hk1 hFc hP1 hD1
  obtain ⟨rk, er9⟩ : ∃ z, z = r9 := ⟨_, rfl⟩
  subst er9
  clear hPc hDc hFc hP1 hD1 hk1 hz1 hvm ht hC9
  generalize H1 = H at hP hS ⊢
  obtain ⟨hP, hD⟩ := (show xPD D A [] H from ⟨hP, hD⟩)
  obtain ⟨gk_0, -⟩ := hG
  replace gk_0 : rk = 1 := gk_0
  refine xz_i 1 gk_0 ?_
  refine lv_if_eq (tgt := 16) hx hb dJ0_charAt_5068e_4 (by decide) (fun c => absurd c (by decide)) (fun _ => ?_)
  refine lv_aload_n hx hb dJ0_charAt_5068e_7 rfl (lv_at hl 0 rfl) ?_
  refine vk_getf hx hb (hT.2.1 9 (by decide)).2.2.1 hS hown (htg _ kw_2030) (fun _ h9 => h9) dJ0_charAt_5068e_8 ?_
  refine lv_iload_n hx hb dJ0_charAt_5068e_11 rfl (lv_at hl 1 rfl) ?_
  obtain ⟨hC9, hPc, hDc, hFc⟩ := xcut (wc := (pre_J1_charAt_3b067_27 T (xa []) (xa []) (xf []) (xh []) (xv [(vi 0)]) (xl []))) hP hD hS hA [] (by decide) rfl
  refine va_calli (va_runS (As := [.ref (kV 9), .int (vi 0)]) (rest := []) ⟨hx, hb, hml, hown, htg⟩ (c_J1_charAt_3b067_27 l D T (xa []) (xa []) (xf []) (xh []) (xv [(vi 0)]) (xl []) kK kV H.size hp0) ⟨callB_of 2 htg (xg_ok kw_64) rfl rfl rfl (htg _ kw_4) (htg _ kw_62) (by decide +kernel) ⟨by rw [hR]; exact Nat.le_of_ble_eq_true rfl, by rw [hR]; exact Nat.le_of_ble_eq_true rfl⟩, htg _ kw_63⟩ (xpreSs hK hPc hDc hT hFc hS) rfl rfl hl.1 rfl (lv_room (Nat.le_of_ble_eq_true rfl)) dJ0_charAt_5068e_12 ⟨by rw [hR]; exact Nat.le_of_ble_eq_true rfl, by rw [hR]; exact Nat.le_of_ble_eq_true rfl⟩) hS (fun q _ h => hFc q h) hFc (fun r9 u9 t H1 locs ht hvm hw hB hz1 hk1 hS => ?_)
  subst hw
  obtain ⟨fik_1, flk_1, vik_1, vlk_1, hP1, hD1, hG⟩ := hB
  rw [ht] at hP1
  obtain ⟨hP, hD⟩ := va_join (wr := []) (w1 := []) hP hD [] [] hC9 rfl (by decide) (by decide) hk1 hFc hP1 hD1
  obtain ⟨rk_1, er9⟩ : ∃ z, z = r9 := ⟨_, rfl⟩
  subst er9
  clear hPc hDc hFc hP1 hD1 hk1 hz1 hvm ht hC9
  generalize H1 = H at hP hS ⊢
  obtain ⟨hP, hD⟩ := (show xPD D A [] H from ⟨hP, hD⟩)
  obtain ⟨gk_1_0, gk_1_1, -⟩ := hG
  replace gk_1_1 : rk_1 = (sBy.getD 9 []).getD ((vi 0).toInt).toNat 0 := (P_J1_charAt_3b067_27 gk_1_1 : _)
  replace gk_1_0 : narrow .char (.int rk_1) = .int rk_1 := gk_1_0
  have hP9 := hP.sub (ws' := []) [] rfl
  have hD9 := hD.sub (ws' := []) [] (by decide +kernel) rfl
  rw [hQ]
  exact W.zret (v := rk_1) hx hb hr gk_1_0 (fun t ht hW => ⟨⟨rk_1, rk_1, rfl, rfl, xf [], xh [], xv [], xl [], by rw [ht]; exact hP9, hD9, ⟨gk_1_0, (by unfold R_J0_charAt_5068e_27; exact (fun Q9 k9_0 => k9_0 hp0 fik flk vik vlk rk gk_0 fik_1 flk_1 vik_1 vlk_1 rk_1 gk_1_1 rfl)), trivial⟩⟩, hS.F ht⟩) hS.2.2 dJ0_charAt_5068e_15
abbrev pre_X6_isWord_27 (T : Nat → ClassId) (a ex : Nat → Nat) (fi : Nat → Nat → Int32) (fl : Nat → Nat → Int64) (vi : Nat → Int32) (vl : Nat → Int64) : va_W := [((a 0), .inr (6, [.ref (ex 0), .ref (ex 1), .int (vi 0), .int (vi 1), .int (vi 2), .int (vi 3), .int (vi 4), .int (vi 5), .long (vl 0), .int (vi 6), .int (vi 7), .int (vi 8), .int (vi 9), .int (vi 10)]))]
set_option maxHeartbeats 8000000 in
set_option maxRecDepth 100000 in
theorem c_X6_isWord_27 (l : Launch) (D : va_G) (T : Nat → ClassId) (a ex : Nat → Nat) (fi : Nat → Nat → Int32) (fl : Nat → Nat → Int64) (vi : Nat → Int32) (vl : Nat → Int64) (kK kV : Nat → Nat) (sz : Nat) (hp0 : 0 ≤ (vi 1).toInt ∧ (vi 1).toInt ≤ 940) (hp1 : 0 ≤ (vi 2).toInt ∧ (vi 2).toInt ≤ 940) (hp2 : 0 ≤ (vi 3).toInt ∧ (vi 3).toInt ≤ 940) (hp3 : 0 ≤ (vi 5).toInt ∧ (vi 5).toInt ≤ 940) (hp4 : 0 ≤ (vi 10).toInt ∧ (vi 10).toInt ≤ 940) : Met l yX6_isWord (xw yX6_isWord cX6_isWord 5 (some .boolean)) ({ frames := 4, cells := 0, slots := 0, locals := 101 }) (xPs D T kK kV [.ref (a 0), .ref (kK 9)] sz (pre_X6_isWord_27 T a ex fi fl vi vl)) (va_Qi (fun r u => r = u) (xC D (va_A (pre_X6_isWord_27 T a ex fi fl vi vl) sz) (fun fj fm vj vm => [((a 0), .inr (6, [.ref (ex 0), .ref (ex 1), .int (vi 0), .int (vi 1), .int (vi 2), .int (vi 3), .int (vi 4), .int (vi 5), .long (vl 0), .int (vi 6), .int (vi 7), .int (vi 8), .int (vi 9), .int (vi 10)]))]) (fun (r : Int32) (fj : Nat → Nat → Int32) (fm : Nat → Nat → Int64) (vj : Nat → Int32) (vm : Nat → Int64) => ((r = 1 ∧ (True)) ∨ (r = 0 ∧ (True))) ∧ R_X6_isWord_27 fi fl vi vl r fj fm vj vm ∧ True)) (va_A (pre_X6_isWord_27 T a ex fi fl vi vl) sz)) 0 0 (va_A (pre_X6_isWord_27 T a ex fi fl vi vl) sz) := by
  refine xofW (cc := cX6_isWord) (maxL := 5) (ret := (some .boolean)) (by decide) rfl ?_
  intro p e s m args below meth c s₁ R Q hR hQ B hml hv
  obtain ⟨rfl, hsz, hP, hK, hD0, hT⟩ := hv
  have hx := B.exec
  have hb := B.bytes
  have hr := B.returns
  have hts := atoms_spec (ws := xw yX6_isWord cX6_isWord 5 (some .boolean)) B.pre
  have htg : ∀ w ∈ xg, w.before _ s = true := fun w h => hts w (List.mem_cons_of_mem _ h)
  have hown : s.vm.findClass RX6 = some m.cls := findClass_of_methodNamed B.named
  have hlocks := B.notSynchronized
  subst hsz
  have hD := hD0.self (sz := s.heap.size)
  generalize hAe : va_A (pre_X6_isWord_27 T a ex fi fl vi vl) s.heap.size = A at hD hQ hT
  have hA : ∀ q : Nat, s.heap.size ≤ q → A q := fun q h => by rw [← hAe]; exact Or.inr h
  have hS : va_S A s.heap s.heap [] := va_S.rf
  replace hP : va_P D vwCl [((a 0), .inr (6, [.ref (ex 0), .ref (ex 1), .int (vi 0), .int (vi 1), .int (vi 2), .int (vi 3), .int (vi 4), .int (vi 5), .long (vl 0), .int (vi 6), .int (vi 7), .int (vi 8), .int (vi 9), .int (vi 10)]))] s.heap := hP
  replace hD : va_D A [((a 0), .inr (6, [.ref (ex 0), .ref (ex 1), .int (vi 0), .int (vi 1), .int (vi 2), .int (vi 3), .int (vi 4), .int (vi 5), .long (vl 0), .int (vi 6), .int (vi 7), .int (vi 8), .int (vi 9), .int (vi 10)]))] := hD
  have hl := lv_entry ([.ref (a 0), .ref (kK 9)]) (n := 5) (Nat.le_of_ble_eq_true rfl)
  rw [lg_entry_eq]
  generalize (lg_sl ([.ref (a 0), .ref (kK 9)]) ++ List.replicate (5 - (lg_sl ([.ref (a 0), .ref (kK 9)])).length) Slot.unset).toArray = ls at hl ⊢
  replace hl : lv_has ls 5 [(0, .ref (a 0)), (1, .ref (kK 9))] := hl
  refine lv_lconst (v := 0) hx hb dX6_isWord_0 (by decide) ?_
  refine lv_lstore_n (lv' := [(2, .long 0), (0, .ref (a 0)), (1, .ref (kK 9))]) hx hb dX6_isWord_1 rfl hl (by decide) rfl (fun ls hl => ?_)
  refine lv_iconst (v := 0) hx hb dX6_isWord_2 (by decide) ?_
  refine lv_istore (lv' := [(4, .int 0), (2, .long 0), (0, .ref (a 0)), (1, .ref (kK 9))]) hx hb dX6_isWord_3 hl (by decide) rfl (fun ls hl => ?_)
  have lp : ∀ (kn : Nat) (w4 : Int32) (w2 : Int64) (H : Heap) (locs : List Loc) (ls : Array Slot), (0 ≤ w4.toInt ∧ w4.toInt ≤ 5) → (w2 = pkw (sBy.getD 9 []) (w4.toInt).toNat) → (2147483648 - w4.toInt).toNat = kn → va_P D vwCl [((a 0), .inr (6, [.ref (ex 0), .ref (ex 1), .int (vi 0), .int (vi 1), .int (vi 2), .int (vi 3), .int (vi 4), .int (vi 5), .long (vl 0), .int (vi 6), .int (vi 7), .int (vi 8), .int (vi 9), .int (vi 10)]))] H → va_D A [((a 0), .inr (6, [.ref (ex 0), .ref (ex 1), .int (vi 0), .int (vi 1), .int (vi 2), .int (vi 3), .int (vi 4), .int (vi 5), .long (vl 0), .int (vi 6), .int (vi 7), .int (vi 8), .int (vi 9), .int (vi 10)]))] → va_S A s.heap H locs → lv_has ls 5 [(4, .int w4), (2, .long w2), (0, .ref (a 0)), (1, .ref (kK 9))] → W p l e R s m ([.ref (a 0), .ref (kK 9)] : List Value).toArray below meth c H locs 0 0 Q (F0 m 5 ls []) := by
    intro kn
    induction kn using Nat.strongRecOn with
    | _ kn ih =>
      intro w4 w2 H locs ls hi hpk9 hm hP hD hS hl
      refine lv_iload hx hb dX6_isWord_5 (lv_at hl 0 rfl) ?_
      refine lv_aload_n hx hb dX6_isWord_7 rfl (lv_at hl 3 rfl) ?_
      obtain ⟨hC9, hPc, hDc, hFc⟩ := xcut (wc := (pre_J0_length_8abf5_27 T (xa []) (xa []) (xf []) (xh []) (xv []) (xl []))) hP hD hS hA [] (by decide) rfl
      refine va_calli (va_runV (As := []) (rest := [.int w4]) ⟨hx, hb, hml, hown, htg⟩ (c_J0_length_8abf5_27 l D T (xa []) (xa []) (xf []) (xh []) (xv []) (xl []) kK kV H.size) ⟨callB_of 0 htg (xg_ok kw_47) rfl rfl rfl (htg _ kw_3) (htg _ kw_44) (by decide +kernel) ⟨by rw [hR]; exact Nat.le_of_ble_eq_true rfl, by rw [hR]; exact Nat.le_of_ble_eq_true rfl⟩, htg _ kw_45, htg _ kw_46⟩ (xpreVs hK hPc hDc hT hFc hS (xT.recv hT 9 (by decide) hS)) rfl rfl hl.1 rfl (lv_room (Nat.le_of_ble_eq_true rfl)) dX6_isWord_8 ⟨by rw [hR]; exact Nat.le_of_ble_eq_true rfl, by rw [hR]; exact Nat.le_of_ble_eq_true rfl⟩) hS (fun q _ h => hFc q h) hFc (fun r9 u9 t H1 locs ht hvm hw hB hz1 hk1 hS => ?_)
      subst hw
      obtain ⟨fik, flk, vik, vlk, hP1, hD1, hG⟩ := hB
      rw [ht] at hP1
      obtain ⟨hP, hD⟩ := va_join (wr := [((a 0), .inr (6, [.ref (ex 0), .ref (ex 1), .int (vi 0), .int (vi 1), .int (vi 2), .int (vi 3), .int (vi 4), .int (vi 5), .long (vl 0), .int (vi 6), .int (vi 7), .int (vi 8), .int (vi 9), .int (vi 10)]))]) (w1 := []) hP hD [] [0] hC9 rfl (by decide) (by decide) hk1 hFc hP1 hD1
      obtain ⟨rk, er9⟩ : ∃ z, z = r9 := ⟨_, rfl⟩
      subst er9
      clear hPc hDc hFc hP1 hD1 hk1 hz1 hvm ht hC9
      generalize H1 = H at hP hS ⊢
      obtain ⟨hP, hD⟩ := (show xPD D A [((a 0), .inr (6, [.ref (ex 0), .ref (ex 1), .int (vi 0), .int (vi 1), .int (vi 2), .int (vi 3), .int (vi 4), .int (vi 5), .long (vl 0), .int (vi 6), .int (vi 7), .int (vi 8), .int (vi 9), .int (vi 10)]))] H from ⟨hP, hD⟩)
      obtain ⟨gk_0, -⟩ := hG
      replace gk_0 : rk = 5 := gk_0
      refine xz_i 5 gk_0 ?_
      refine lv_icmp_ge (tgt := 33) hx hb dX6_isWord_11 (by decide) (fun c11 => ?_) (fun c11 => ?_)
      · have c11 := xge (k := 5) (by decide) c11
        refine lv_aload_n hx hb dX6_isWord_33 rfl (lv_at hl 2 rfl) ?_
        refine va_get (D := D) (ci := 6) (v := .int (vi 4)) (C := RX6) (T := TX6) (N := 14) hx hb htg inX6 hown hK.1 hP 0 rfl rfl 6 (by decide) (htg _ kw_104) (fun _ h9 => h9) rfl dX6_isWord_34 ?_
        refine lv_iconst (v := 1) hx hb dX6_isWord_37 (by decide) ?_
        refine lv_icmp_ne (tgt := 54) hx hb dX6_isWord_38 (by decide) (fun c38 => ?_) (fun c38 => ?_)
        · have c38 := xne (k := 1) (by decide) c38
          refine lv_iconst (v := 0) hx hb dX6_isWord_54 (by decide) ?_
          have hP9 := hP.sub (ws' := [((a 0), .inr (6, [.ref (ex 0), .ref (ex 1), .int (vi 0), .int (vi 1), .int (vi 2), .int (vi 3), .int (vi 4), .int (vi 5), .long (vl 0), .int (vi 6), .int (vi 7), .int (vi 8), .int (vi 9), .int (vi 10)]))]) [0] rfl
          have hD9 := hD.sub (ws' := [((a 0), .inr (6, [.ref (ex 0), .ref (ex 1), .int (vi 0), .int (vi 1), .int (vi 2), .int (vi 3), .int (vi 4), .int (vi 5), .long (vl 0), .int (vi 6), .int (vi 7), .int (vi 8), .int (vi 9), .int (vi 10)]))]) [0] (by decide +kernel) rfl
          rw [hQ]
          exact W.zret (v := 0) hx hb hr rfl (fun t ht hW => ⟨⟨0, 0, rfl, rfl, xf [], xh [], xv [], xl [], by rw [ht]; exact hP9, hD9, ⟨(Or.inr ⟨rfl, by show True; first | trivial | omega | assumption⟩), (by unfold R_X6_isWord_27; exact (fun Q9 k9_0 k9_1 k9_2 => k9_0 hp0 hp1 hp2 hp3 hp4 w4 w2 hi hpk9 fik flk vik vlk rk gk_0 c11 c38 rfl)), trivial⟩⟩, hS.F ht⟩) hS.2.2 dX6_isWord_55
        · have c38 := xeq (k := 1) (by decide) c38
          refine lv_lload_n hx hb dX6_isWord_41 rfl (lv_at hl 1 rfl) ?_
          refine lv_aload_n hx hb dX6_isWord_42 rfl (lv_at hl 2 rfl) ?_
          refine va_get (D := D) (ci := 6) (v := .long (vl 0)) (C := RX6) (T := TX6) (N := 14) hx hb htg inX6 hown hK.1 hP 0 rfl rfl 8 (by decide) (htg _ kw_108) (fun _ h9 => h9) rfl dX6_isWord_43 ?_
          refine W.lcmp hx hb dX6_isWord_46 ?_
          refine lv_topi (fun z46 ez46 => ?_)
          refine lv_if_ne (tgt := 54) hx hb dX6_isWord_47 (by decide) (fun c47 => ?_) (fun c47 => ?_)
          · have c47 := xne (k := 0) (by decide) c47
            refine lv_iconst (v := 0) hx hb dX6_isWord_54 (by decide) ?_
            have hP9 := hP.sub (ws' := [((a 0), .inr (6, [.ref (ex 0), .ref (ex 1), .int (vi 0), .int (vi 1), .int (vi 2), .int (vi 3), .int (vi 4), .int (vi 5), .long (vl 0), .int (vi 6), .int (vi 7), .int (vi 8), .int (vi 9), .int (vi 10)]))]) [0] rfl
            have hD9 := hD.sub (ws' := [((a 0), .inr (6, [.ref (ex 0), .ref (ex 1), .int (vi 0), .int (vi 1), .int (vi 2), .int (vi 3), .int (vi 4), .int (vi 5), .long (vl 0), .int (vi 6), .int (vi 7), .int (vi 8), .int (vi 9), .int (vi 10)]))]) [0] (by decide +kernel) rfl
            rw [hQ]
            exact W.zret (v := 0) hx hb hr rfl (fun t ht hW => ⟨⟨0, 0, rfl, rfl, xf [], xh [], xv [], xl [], by rw [ht]; exact hP9, hD9, ⟨(Or.inr ⟨rfl, by show True; first | trivial | omega | assumption⟩), (by unfold R_X6_isWord_27; exact (fun Q9 k9_0 k9_1 k9_2 => k9_1 hp0 hp1 hp2 hp3 hp4 w4 w2 hi hpk9 fik flk vik vlk rk gk_0 c11 c38 z46 ez46 c47 rfl)), trivial⟩⟩, hS.F ht⟩) hS.2.2 dX6_isWord_55
          · have c47 := xeq (k := 0) (by decide) c47
            refine lv_iconst (v := 1) hx hb dX6_isWord_50 (by decide) ?_
            refine lv_goto (tgt := 55) hx hb dX6_isWord_51 (by decide) ?_
            have hP9 := hP.sub (ws' := [((a 0), .inr (6, [.ref (ex 0), .ref (ex 1), .int (vi 0), .int (vi 1), .int (vi 2), .int (vi 3), .int (vi 4), .int (vi 5), .long (vl 0), .int (vi 6), .int (vi 7), .int (vi 8), .int (vi 9), .int (vi 10)]))]) [0] rfl
            have hD9 := hD.sub (ws' := [((a 0), .inr (6, [.ref (ex 0), .ref (ex 1), .int (vi 0), .int (vi 1), .int (vi 2), .int (vi 3), .int (vi 4), .int (vi 5), .long (vl 0), .int (vi 6), .int (vi 7), .int (vi 8), .int (vi 9), .int (vi 10)]))]) [0] (by decide +kernel) rfl
            rw [hQ]
            exact W.zret (v := 1) hx hb hr rfl (fun t ht hW => ⟨⟨1, 1, rfl, rfl, xf [], xh [], xv [], xl [], by rw [ht]; exact hP9, hD9, ⟨(Or.inl ⟨rfl, by show True; first | trivial | omega | assumption⟩), (by unfold R_X6_isWord_27; exact (fun Q9 k9_0 k9_1 k9_2 => k9_2 hp0 hp1 hp2 hp3 hp4 w4 w2 hi hpk9 fik flk vik vlk rk gk_0 c11 c38 z46 ez46 c47 rfl)), trivial⟩⟩, hS.F ht⟩) hS.2.2 dX6_isWord_55
      · have c11 := xnge (k := 5) (by decide) c11
        refine lv_lload_n hx hb dX6_isWord_14 rfl (lv_at hl 1 rfl) ?_
        refine lv_bipush (v := 8) hx hb dX6_isWord_15 (by decide) ?_
        refine lv_lshl hx hb dX6_isWord_17 rfl ?_
        refine lv_topl (fun z17 ez17 => ?_)
        refine lv_aload_n hx hb dX6_isWord_18 rfl (lv_at hl 3 rfl) ?_
        refine lv_iload hx hb dX6_isWord_19 (lv_at hl 0 rfl) ?_
        obtain ⟨hC9, hPc, hDc, hFc⟩ := xcut (wc := (pre_J0_charAt_5068e_27 T (xa []) (xa []) (xf []) (xh []) (xv [w4]) (xl []))) hP hD hS hA [] (by decide) rfl
        refine va_calli (va_runV (As := [.int w4]) (rest := [.long z17]) ⟨hx, hb, hml, hown, htg⟩ (c_J0_charAt_5068e_27 l D T (xa []) (xa []) (xf []) (xh []) (xv [w4]) (xl []) kK kV H.size (by show 0 ≤ w4.toInt ∧ w4.toInt ≤ 4; omega)) ⟨callB_of 1 htg (xg_ok kw_57) rfl rfl rfl (htg _ kw_3) (htg _ kw_54) (by decide +kernel) ⟨by rw [hR]; exact Nat.le_of_ble_eq_true rfl, by rw [hR]; exact Nat.le_of_ble_eq_true rfl⟩, htg _ kw_55, htg _ kw_56⟩ (xpreVs hK hPc hDc hT hFc hS (xT.recv hT 9 (by decide) hS)) rfl rfl hl.1 rfl (lv_room (Nat.le_of_ble_eq_true rfl)) dX6_isWord_21 ⟨by rw [hR]; exact Nat.le_of_ble_eq_true rfl, by rw [hR]; exact Nat.le_of_ble_eq_true rfl⟩) hS (fun q _ h => hFc q h) hFc (fun r9 u9 t H1 locs ht hvm hw hB hz1 hk1 hS => ?_)
        subst hw
        obtain ⟨fik_1, flk_1, vik_1, vlk_1, hP1, hD1, hG⟩ := hB
        rw [ht] at hP1
        obtain ⟨hP, hD⟩ := va_join (wr := [((a 0), .inr (6, [.ref (ex 0), .ref (ex 1), .int (vi 0), .int (vi 1), .int (vi 2), .int (vi 3), .int (vi 4), .int (vi 5), .long (vl 0), .int (vi 6), .int (vi 7), .int (vi 8), .int (vi 9), .int (vi 10)]))]) (w1 := []) hP hD [] [0] hC9 rfl (by decide) (by decide) hk1 hFc hP1 hD1
        obtain ⟨rk_1, er9⟩ : ∃ z, z = r9 := ⟨_, rfl⟩
        subst er9
        clear hPc hDc hFc hP1 hD1 hk1 hz1 hvm ht hC9
        generalize H1 = H at hP hS ⊢
        obtain ⟨hP, hD⟩ := (show xPD D A [((a 0), .inr (6, [.ref (ex 0), .ref (ex 1), .int (vi 0), .int (vi 1), .int (vi 2), .int (vi 3), .int (vi 4), .int (vi 5), .long (vl 0), .int (vi 6), .int (vi 7), .int (vi 8), .int (vi 9), .int (vi 10)]))] H from ⟨hP, hD⟩)
        obtain ⟨gk_1_0, gk_1_1, -⟩ := hG
        replace gk_1_1 : rk_1 = (sBy.getD 9 []).getD (w4.toInt).toNat 0 := (P_J0_charAt_5068e_27 gk_1_1 : _)
        replace gk_1_0 : narrow .char (.int rk_1) = .int rk_1 := gk_1_0
        refine lv_i2l hx hb dX6_isWord_24 rfl ?_
        refine lv_topl (fun z24 ez24 => ?_)
        refine lv_lor hx hb dX6_isWord_25 ?_
        refine lv_topl (fun z25 ez25 => ?_)
        refine lv_lstore_n (lv' := [(2, .long z25), (4, .int w4), (0, .ref (a 0)), (1, .ref (kK 9))]) hx hb dX6_isWord_26 rfl hl (by decide) rfl (fun ls hl => ?_)
        obtain ⟨i27, ei27⟩ : ∃ z : Int32, w4 + Int32.ofInt 1 = z := ⟨_, rfl⟩
        have ti27 : i27.toInt = w4.toInt + 1 := by rw [← ei27]; have h79 := xrng w4; exact xadd rfl (by decide) (by omega) (by omega)
        refine lv_iinc (v := i27) (lv' := [(4, .int i27), (2, .long z25), (0, .ref (a 0)), (1, .ref (kK 9))]) hx hb dX6_isWord_27 hl (k := 1) rfl ei27 (by decide) rfl (fun ls hl => ?_)
        refine lv_goto (tgt := 5) hx hb dX6_isWord_30 (by decide) ?_
        exact ih _ (by omega) i27 z25 _ _ _ (by show 0 ≤ i27.toInt ∧ i27.toInt ≤ 5; omega) (by show z25 = pkw (sBy.getD 9 []) (i27.toInt).toNat; rw [ez25, ez17, ez24]; exact pkw_s hpk9 (by omega) (by omega) (by assumption)) rfl (hP.sub [0] rfl) (hD.sub [0] (by decide) rfl) hS (lv_sub hl [0, 1, 2, 3] rfl)
  exact lp _ (0 : Int32) (0 : Int64) _ _ _ (show 0 ≤ (0 : Int32).toInt ∧ (0 : Int32).toInt ≤ 5 by decide) (by show (0 : Int64) = pkw (sBy.getD 9 []) ((0 : Int32).toInt).toNat; have k9_0 : (0 : Int32).toInt = 0 := (by decide); rw [show (0 : Int32).toInt.toNat = 0 by decide]; rfl) rfl hP hD hS hl
abbrev pre_X8_readWorth (T : Nat → ClassId) (a ex : Nat → Nat) (fi : Nat → Nat → Int32) (fl : Nat → Nat → Int64) (vi : Nat → Int32) (vl : Nat → Int64) : va_W := [((a 0), .inr (8, [.ref (a 1), .ref (a 2), .int (vi 0)])), ((a 1), .inr (6, [.ref (a 5), .ref (a 4), .int (vi 1), .int (vi 2), .int (vi 3), .int (vi 4), .int (vi 5), .int (vi 6), .long (vl 0), .int (vi 7), .int (vi 8), .int (vi 9), .int (vi 10), .int (vi 11)])), ((a 2), .inr (7, [.int (vi 12), .int (vi 13), .ref (a 6), .ref (ex 0), .ref (ex 1), .ref (ex 2), .ref (a 3), .ref (ex 3), .ref (ex 4), .ref (ex 5), .ref (ex 6), .ref (a 7)])), ((a 3), .inl (T 2, 9, .inr (.inl (fl 0)))), ((a 4), .inl (T 2, 27, .inr (.inl (fl 1)))), ((a 5), .inl (T 0, 940, .inl (fi 0))), ((a 6), .inl (T 2, 9, .inr (.inl (fl 2)))), ((a 7), .inl (T 1, 81, .inl (fi 1)))]
set_option maxHeartbeats 8000000 in
set_option maxRecDepth 100000 in
theorem c_X8_readWorth (l : Launch) (D : va_G) (T : Nat → ClassId) (a ex : Nat → Nat) (fi : Nat → Nat → Int32) (fl : Nat → Nat → Int64) (vi : Nat → Int32) (vl : Nat → Int64) (sz : Nat) (hp0 : 0 ≤ (vi 2).toInt ∧ (vi 2).toInt ≤ 940) (hp1 : 0 ≤ (vi 3).toInt ∧ (vi 3).toInt ≤ 940) (hp2 : 0 ≤ (vi 4).toInt ∧ (vi 4).toInt ≤ 940) (hp3 : 0 ≤ (vi 6).toInt ∧ (vi 6).toInt ≤ 940) (hp4 : 0 ≤ (vi 11).toInt ∧ (vi 11).toInt ≤ 940) (hp5 : 0 ≤ (vi 12).toInt ∧ (vi 12).toInt ≤ 9) (hp6 : 0 ≤ (vi 13).toInt ∧ (vi 13).toInt ≤ 9) : Met l yX8_readWorth (xw yX8_readWorth cX8_readWorth 3 (some .boolean)) ({ frames := 2, cells := 0, slots := 0, locals := 54 }) (xP D T [.ref (a 0)] sz (pre_X8_readWorth T a ex fi fl vi vl)) (va_Qi (fun r u => r = u) (xC D (va_A (pre_X8_readWorth T a ex fi fl vi vl) sz) (fun fj fm vj vm => [((a 0), .inr (8, [.ref (a 1), .ref (a 2), .int (vi 0)])), ((a 1), .inr (6, [.ref (a 5), .ref (a 4), .int (vi 1), .int (vi 2), .int (vi 3), .int (vj 5), .int (vj 1), .int (vj 2), .long (vm 0), .int (vj 4), .int (vj 3), .int (vj 0), .int (vj 6), .int (vj 7)])), ((a 2), .inr (7, [.int (vi 12), .int (vi 13), .ref (a 6), .ref (ex 0), .ref (ex 1), .ref (ex 2), .ref (a 3), .ref (ex 3), .ref (ex 4), .ref (ex 5), .ref (ex 6), .ref (a 7)])), ((a 3), .inl (T 2, 9, .inr (.inl (fl 0)))), ((a 4), .inl (T 2, 27, .inr (.inl (fl 1)))), ((a 5), .inl (T 0, 940, .inl (fi 0))), ((a 6), .inl (T 2, 9, .inr (.inl (fl 2)))), ((a 7), .inl (T 1, 81, .inl (fj 0)))]) (fun (r : Int32) (fj : Nat → Nat → Int32) (fm : Nat → Nat → Int64) (vj : Nat → Int32) (vm : Nat → Int64) => ((r = 1 ∧ (True)) ∨ (r = 0 ∧ (True))) ∧ (0 ≤ (vj 5).toInt ∧ (vj 5).toInt ≤ 940) ∧ (0 ≤ (vj 2).toInt ∧ (vj 2).toInt ≤ 940) ∧ (0 ≤ (vj 7).toInt ∧ (vj 7).toInt ≤ 940) ∧ (r.toInt = 1 → (vj 6).toInt = (vi 10).toInt) ∧ R_X8_readWorth fi fl vi vl r fj fm vj vm ∧ True)) (va_A (pre_X8_readWorth T a ex fi fl vi vl) sz)) 0 0 (va_A (pre_X8_readWorth T a ex fi fl vi vl) sz) := by
  refine xofW (cc := cX8_readWorth) (maxL := 3) (ret := (some .boolean)) (by decide) rfl ?_
  intro p e s m args below meth c s₁ R Q hR hQ B hml hv
  obtain ⟨rfl, hsz, hP, hK, hD0⟩ := hv
  have hx := B.exec
  have hb := B.bytes
  have hr := B.returns
  have hts := atoms_spec (ws := xw yX8_readWorth cX8_readWorth 3 (some .boolean)) B.pre
  have htg : ∀ w ∈ xg, w.before _ s = true := fun w h => hts w (List.mem_cons_of_mem _ h)
  have hown : s.vm.findClass RX8 = some m.cls := findClass_of_methodNamed B.named
  have hlocks := B.notSynchronized
  subst hsz
  have hD := hD0.self (sz := s.heap.size)
  generalize hAe : va_A (pre_X8_readWorth T a ex fi fl vi vl) s.heap.size = A at hD hQ
  have hA : ∀ q : Nat, s.heap.size ≤ q → A q := fun q h => by rw [← hAe]; exact Or.inr h
  have hS : va_S A s.heap s.heap [] := va_S.rf
  replace hP : va_P D vwCl [((a 0), .inr (8, [.ref (a 1), .ref (a 2), .int (vi 0)])), ((a 1), .inr (6, [.ref (a 5), .ref (a 4), .int (vi 1), .int (vi 2), .int (vi 3), .int (vi 4), .int (vi 5), .int (vi 6), .long (vl 0), .int (vi 7), .int (vi 8), .int (vi 9), .int (vi 10), .int (vi 11)])), ((a 2), .inr (7, [.int (vi 12), .int (vi 13), .ref (a 6), .ref (ex 0), .ref (ex 1), .ref (ex 2), .ref (a 3), .ref (ex 3), .ref (ex 4), .ref (ex 5), .ref (ex 6), .ref (a 7)])), ((a 3), .inl (T 2, 9, .inr (.inl (fl 0)))), ((a 4), .inl (T 2, 27, .inr (.inl (fl 1)))), ((a 5), .inl (T 0, 940, .inl (fi 0))), ((a 6), .inl (T 2, 9, .inr (.inl (fl 2)))), ((a 7), .inl (T 1, 81, .inl (fi 1)))] s.heap := hP
  replace hD : va_D A [((a 0), .inr (8, [.ref (a 1), .ref (a 2), .int (vi 0)])), ((a 1), .inr (6, [.ref (a 5), .ref (a 4), .int (vi 1), .int (vi 2), .int (vi 3), .int (vi 4), .int (vi 5), .int (vi 6), .long (vl 0), .int (vi 7), .int (vi 8), .int (vi 9), .int (vi 10), .int (vi 11)])), ((a 2), .inr (7, [.int (vi 12), .int (vi 13), .ref (a 6), .ref (ex 0), .ref (ex 1), .ref (ex 2), .ref (a 3), .ref (ex 3), .ref (ex 4), .ref (ex 5), .ref (ex 6), .ref (a 7)])), ((a 3), .inl (T 2, 9, .inr (.inl (fl 0)))), ((a 4), .inl (T 2, 27, .inr (.inl (fl 1)))), ((a 5), .inl (T 0, 940, .inl (fi 0))), ((a 6), .inl (T 2, 9, .inr (.inl (fl 2)))), ((a 7), .inl (T 1, 81, .inl (fi 1)))] := hD
  have hl := lv_entry ([.ref (a 0)]) (n := 3) (Nat.le_of_ble_eq_true rfl)
  rw [lg_entry_eq]
  generalize (lg_sl ([.ref (a 0)]) ++ List.replicate (3 - (lg_sl ([.ref (a 0)])).length) Slot.unset).toArray = ls at hl ⊢
  replace hl : lv_has ls 3 [(0, .ref (a 0))] := hl
  refine lv_aload_n hx hb dX8_readWorth_0 rfl (lv_at hl 0 rfl) ?_
  refine va_get (D := D) (ci := 8) (v := .ref (a 1)) (C := RX8) (T := TX8) (N := 3) hx hb htg inX8 hown hK.1 hP 0 rfl rfl 0 (by decide) (htg _ kw_228) (fun _ h9 => h9) rfl dX8_readWorth_1 ?_
  refine lv_aload_n hx hb dX8_readWorth_4 rfl (lv_at hl 0 rfl) ?_
  refine va_get (D := D) (ci := 8) (v := .ref (a 2)) (C := RX8) (T := TX8) (N := 3) hx hb htg inX8 hown hK.1 hP 0 rfl rfl 1 (by decide) (htg _ kw_229) (fun _ h9 => h9) rfl dX8_readWorth_5 ?_
  refine lv_aload_n hx hb dX8_readWorth_8 rfl (lv_at hl 0 rfl) ?_
  refine va_get (D := D) (ci := 8) (v := .ref (a 1)) (C := RX8) (T := TX8) (N := 3) hx hb htg inX8 hown hK.1 hP 0 rfl rfl 0 (by decide) (htg _ kw_228) (fun _ h9 => h9) rfl dX8_readWorth_9 ?_
  refine va_getN (D := D) (ci := 6) (v := .long (vl 0)) (C := RX6) (T := TX6) (N := 14) hx hb htg inX6 hown hK.1 hP 1 rfl rfl 8 (by decide) (va_Nw.use rfl (hK.2.1 _ kn_107)) (fun _ h9 => h9) rfl dX8_readWorth_12 ?_
  obtain ⟨hC9, hPc, hDc, hFc⟩ := xcut (wc := (pre_X7_findSoul T (xa [(a 2), (a 3)]) (xa [(a 6), (ex 0), (ex 1), (ex 2), (ex 3), (ex 4), (ex 5), (ex 6), (a 7)]) (xf []) (xh [(fl 0)]) (xv [(vi 12), (vi 13)]) (xl [(vl 0)]))) hP hD hS hA [2, 3] (by decide) rfl
  refine va_calli (va_runVN (As := [.long (vl 0)]) (rest := [.ref (a 1)]) ⟨hx, hb, hml, hown, htg⟩ (c_X7_findSoul l D T (xa [(a 2), (a 3)]) (xa [(a 6), (ex 0), (ex 1), (ex 2), (ex 3), (ex 4), (ex 5), (ex 6), (a 7)]) (xf []) (xh [(fl 0)]) (xv [(vi 12), (vi 13)]) (xl [(vl 0)]) s.heap.size hp5 hp6) ⟨va_cnB 1 htg (xg_ok kw_614) rfl rfl rfl (hK.2.1 _ kn_611) (htg _ kw_7) (by decide +kernel) ⟨by rw [hR]; exact Nat.le_of_ble_eq_true rfl, by rw [hR]; exact Nat.le_of_ble_eq_true rfl⟩, htg _ kw_613, htg _ ks_14⟩ (xpreV hK hPc hDc (va_recv hK.1 hPc (ci := 7) (q0 := 0) rfl rfl)) rfl rfl hl.1 rfl (lv_room (Nat.le_of_ble_eq_true rfl)) dX8_readWorth_15 ⟨by rw [hR]; exact Nat.le_of_ble_eq_true rfl, by rw [hR]; exact Nat.le_of_ble_eq_true rfl⟩) hS (fun q _ h => hFc q h) hFc (fun r9 u9 t H1 locs ht hvm hw hB hz1 hk1 hS => ?_)
  subst hw
  obtain ⟨fik, flk, vik, vlk, hP1, hD1, hG⟩ := hB
  rw [ht] at hP1
  obtain ⟨hP, hD⟩ := va_join (wr := [((a 0), .inr (8, [.ref (a 1), .ref (a 2), .int (vi 0)])), ((a 1), .inr (6, [.ref (a 5), .ref (a 4), .int (vi 1), .int (vi 2), .int (vi 3), .int (vi 4), .int (vi 5), .int (vi 6), .long (vl 0), .int (vi 7), .int (vi 8), .int (vi 9), .int (vi 10), .int (vi 11)])), ((a 4), .inl (T 2, 27, .inr (.inl (fl 1)))), ((a 5), .inl (T 0, 940, .inl (fi 0))), ((a 6), .inl (T 2, 9, .inr (.inl (fl 2)))), ((a 7), .inl (T 1, 81, .inl (fi 1)))]) (w1 := [((a 2), .inr (7, [.int (vi 12), .int (vi 13), .ref (a 6), .ref (ex 0), .ref (ex 1), .ref (ex 2), .ref (a 3), .ref (ex 3), .ref (ex 4), .ref (ex 5), .ref (ex 6), .ref (a 7)])), ((a 3), .inl (T 2, 9, .inr (.inl (fl 0))))]) hP hD [2, 3] [0, 1, 4, 5, 6, 7] hC9 rfl (by decide) (by decide) hk1 hFc hP1 hD1
  obtain ⟨rk, er9⟩ : ∃ z, z = r9 := ⟨_, rfl⟩
  subst er9
  clear hPc hDc hFc hP1 hD1 hk1 hz1 hvm ht hC9
  generalize H1 = H at hP hS ⊢
  obtain ⟨hP, hD⟩ := (show xPD D A [((a 0), .inr (8, [.ref (a 1), .ref (a 2), .int (vi 0)])), ((a 1), .inr (6, [.ref (a 5), .ref (a 4), .int (vi 1), .int (vi 2), .int (vi 3), .int (vi 4), .int (vi 5), .int (vi 6), .long (vl 0), .int (vi 7), .int (vi 8), .int (vi 9), .int (vi 10), .int (vi 11)])), ((a 4), .inl (T 2, 27, .inr (.inl (fl 1)))), ((a 5), .inl (T 0, 940, .inl (fi 0))), ((a 6), .inl (T 2, 9, .inr (.inl (fl 2)))), ((a 7), .inl (T 1, 81, .inl (fi 1))), ((a 2), .inr (7, [.int (vi 12), .int (vi 13), .ref (a 6), .ref (ex 0), .ref (ex 1), .ref (ex 2), .ref (a 3), .ref (ex 3), .ref (ex 4), .ref (ex 5), .ref (ex 6), .ref (a 7)])), ((a 3), .inl (T 2, 9, .inr (.inl (fl 0))))] H from ⟨hP, hD⟩)
  obtain ⟨gk_0, gk_1, -⟩ := hG
  replace gk_1 : rk.toInt = fdx (fl 0) 0 (vl 0) ((vi 13).toInt).toNat := (P_X7_findSoul gk_1 : _)
  replace gk_0 : -1 ≤ rk.toInt ∧ rk.toInt ≤ 8 := gk_0
  obtain ⟨hC9, hPc, hDc, hFc⟩ := xcut (wc := (pre_X6_passKnown T (xa [(a 1), (a 4), (a 5)]) (xa []) (xf [(fi 0)]) (xh [(fl 1)]) (xv [rk, (vi 1), (vi 2), (vi 3), (vi 4), (vi 5), (vi 6), (vi 7), (vi 8), (vi 9), (vi 10), (vi 11)]) (xl [(vl 0)]))) hP hD hS hA [1, 2, 3] (by decide) rfl
  refine va_calli (va_runVN (As := [.int rk]) (rest := []) ⟨hx, hb, hml, hown, htg⟩ (c_X6_passKnown l D T (xa [(a 1), (a 4), (a 5)]) (xa []) (xf [(fi 0)]) (xh [(fl 1)]) (xv [rk, (vi 1), (vi 2), (vi 3), (vi 4), (vi 5), (vi 6), (vi 7), (vi 8), (vi 9), (vi 10), (vi 11)]) (xl [(vl 0)]) H.size hp0 hp1 hp2 hp3 hp4) ⟨va_cnB 1 htg (xg_ok kw_640) rfl rfl rfl (hK.2.1 _ kn_637) (htg _ kw_2) (by decide +kernel) ⟨by rw [hR]; exact Nat.le_of_ble_eq_true rfl, by rw [hR]; exact Nat.le_of_ble_eq_true rfl⟩, htg _ kw_639, htg _ ks_20⟩ (xpreV hK hPc hDc (va_recv hK.1 hPc (ci := 6) (q0 := 0) rfl rfl)) rfl rfl hl.1 rfl (lv_room (Nat.le_of_ble_eq_true rfl)) dX8_readWorth_18 ⟨by rw [hR]; exact Nat.le_of_ble_eq_true rfl, by rw [hR]; exact Nat.le_of_ble_eq_true rfl⟩) hS (fun q _ h => hFc q h) hFc (fun r9 u9 t H1 locs ht hvm hw hB hz1 hk1 hS => ?_)
  subst hw
  obtain ⟨fik_1, flk_1, vik_1, vlk_1, hP1, hD1, hG⟩ := hB
  rw [ht] at hP1
  obtain ⟨hP, hD⟩ := va_join (wr := [((a 0), .inr (8, [.ref (a 1), .ref (a 2), .int (vi 0)])), ((a 6), .inl (T 2, 9, .inr (.inl (fl 2)))), ((a 7), .inl (T 1, 81, .inl (fi 1))), ((a 2), .inr (7, [.int (vi 12), .int (vi 13), .ref (a 6), .ref (ex 0), .ref (ex 1), .ref (ex 2), .ref (a 3), .ref (ex 3), .ref (ex 4), .ref (ex 5), .ref (ex 6), .ref (a 7)])), ((a 3), .inl (T 2, 9, .inr (.inl (fl 0))))]) (w1 := [((a 1), .inr (6, [.ref (a 5), .ref (a 4), .int (vi 1), .int (vi 2), .int (vi 3), .int (vik_1 5), .int (vik_1 1), .int (vik_1 2), .long (vlk_1 0), .int (vik_1 4), .int (vik_1 3), .int (vik_1 0), .int (vik_1 6), .int (vik_1 7)])), ((a 4), .inl (T 2, 27, .inr (.inl (fl 1)))), ((a 5), .inl (T 0, 940, .inl (fi 0)))]) hP hD [1, 2, 3] [0, 4, 5, 6, 7] hC9 rfl (by decide) (by decide) hk1 hFc hP1 hD1
  obtain ⟨rk_1, er9⟩ : ∃ z, z = r9 := ⟨_, rfl⟩
  subst er9
  clear hPc hDc hFc hP1 hD1 hk1 hz1 hvm ht hC9
  generalize H1 = H at hP hS ⊢
  obtain ⟨hP, hD⟩ := (show xPD D A [((a 0), .inr (8, [.ref (a 1), .ref (a 2), .int (vi 0)])), ((a 6), .inl (T 2, 9, .inr (.inl (fl 2)))), ((a 7), .inl (T 1, 81, .inl (fi 1))), ((a 2), .inr (7, [.int (vi 12), .int (vi 13), .ref (a 6), .ref (ex 0), .ref (ex 1), .ref (ex 2), .ref (a 3), .ref (ex 3), .ref (ex 4), .ref (ex 5), .ref (ex 6), .ref (a 7)])), ((a 3), .inl (T 2, 9, .inr (.inl (fl 0)))), ((a 1), .inr (6, [.ref (a 5), .ref (a 4), .int (vi 1), .int (vi 2), .int (vi 3), .int (vik_1 5), .int (vik_1 1), .int (vik_1 2), .long (vlk_1 0), .int (vik_1 4), .int (vik_1 3), .int (vik_1 0), .int (vik_1 6), .int (vik_1 7)])), ((a 4), .inl (T 2, 27, .inr (.inl (fl 1)))), ((a 5), .inl (T 0, 940, .inl (fi 0)))] H from ⟨hP, hD⟩)
  obtain ⟨gk_1_0, gk_1_1, gk_1_2, gk_1_3, gk_1_4, gk_1_5, -⟩ := hG
  replace gk_1_5 : ∀ n m t : Nat, CC (trn (fi 0) n) n m t (vi 2) (vi 3) (vi 5) (vi 6) (vi 4) (vl 0) (vi 7) (vi 8) → (rk_1.toInt = 1 ∧ (wMay (trn (fi 0) n) n m (ownB (fl 1)) t) ∧ ¬ rk.toInt = -1 ∧ (vik_1 0).toInt = rk.toInt ∧ CC (trn (fi 0) n) n m (sX (trn (fi 0) n) n m t) (vi 2) (vi 3) (vik_1 1) (vik_1 2) (vik_1 5) (vlk_1 0) (vik_1 4) (vik_1 3)) ∨ (rk_1.toInt = 0 ∧ ¬ (wMay (trn (fi 0) n) n m (ownB (fl 1)) t) ∧ (vik_1 6).toInt = 1 ∧ (vik_1 7).toInt = ((sPn (trn (fi 0) n) n m t) : Int)) ∨ (rk_1.toInt = 0 ∧ (wMay (trn (fi 0) n) n m (ownB (fl 1)) t) ∧ rk.toInt = -1 ∧ (vik_1 6).toInt = 3 ∧ (vik_1 7).toInt = ((sPn (trn (fi 0) n) n m t) : Int)) := (P_X6_passKnown gk_1_5 : _)
  replace gk_1_1 : 0 ≤ (vik_1 5).toInt ∧ (vik_1 5).toInt ≤ 940 := gk_1_1
  replace gk_1_2 : 0 ≤ (vik_1 2).toInt ∧ (vik_1 2).toInt ≤ 940 := gk_1_2
  replace gk_1_3 : 0 ≤ (vik_1 7).toInt ∧ (vik_1 7).toInt ≤ 940 := gk_1_3
  replace gk_1_4 : rk_1.toInt = 1 → (vik_1 6).toInt = (vi 10).toInt := gk_1_4
  rcases (show (rk_1 = 1 ∧ ((vik_1 0).toInt = rk.toInt ∧ ¬ rk.toInt = -1 ∧ (vi 5).toInt = 1)) ∨ (rk_1 = 0 ∧ (True)) from gk_1_0) with ⟨er9, gk_1_0⟩ | ⟨er9, gk_1_0⟩
  · refine xz_i 1 er9 ?_
    have tb : rk_1.toInt = 1 := by rw [er9]; decide
    refine lv_if_ne (tgt := 26) hx hb dX8_readWorth_21 (by decide) (fun _ => ?_) (fun c => absurd c (by decide))
    refine lv_aload_n hx hb dX8_readWorth_26 rfl (lv_at hl 0 rfl) ?_
    refine va_get (D := D) (ci := 8) (v := .ref (a 1)) (C := RX8) (T := TX8) (N := 3) hx hb htg inX8 hown hK.1 hP 0 rfl rfl 0 (by decide) (htg _ kw_228) (fun _ h9 => h9) rfl dX8_readWorth_27 ?_
    refine va_getN (D := D) (ci := 6) (v := .int (vik_1 0)) (C := RX6) (T := TX6) (N := 14) hx hb htg inX6 hown hK.1 hP 5 rfl rfl 11 (by decide) (va_Nw.use rfl (hK.2.1 _ kn_114)) (fun _ h9 => h9) rfl dX8_readWorth_30 ?_
    refine lv_istore_n (lv' := [(1, .int (vik_1 0)), (0, .ref (a 0))]) hx hb dX8_readWorth_33 rfl hl (by decide) rfl (fun ls hl => ?_)
    refine lv_aload_n hx hb dX8_readWorth_34 rfl (lv_at hl 1 rfl) ?_
    refine va_get (D := D) (ci := 8) (v := .ref (a 1)) (C := RX8) (T := TX8) (N := 3) hx hb htg inX8 hown hK.1 hP 0 rfl rfl 0 (by decide) (htg _ kw_228) (fun _ h9 => h9) rfl dX8_readWorth_35 ?_
    refine va_getN (D := D) (ci := 6) (v := .int (vik_1 1)) (C := RX6) (T := TX6) (N := 14) hx hb htg inX6 hown hK.1 hP 5 rfl rfl 6 (by decide) (va_Nw.use rfl (hK.2.1 _ kn_102)) (fun _ h9 => h9) rfl dX8_readWorth_38 ?_
    refine lv_iconst (v := 1) hx hb dX8_readWorth_41 (by decide) ?_
    refine lv_icmp_ne (tgt := 79) hx hb dX8_readWorth_42 (by decide) (fun c42 => ?_) (fun c42 => ?_)
    · have c42 := xne (k := 1) (by decide) c42
      refine lv_aload_n hx hb dX8_readWorth_79 rfl (lv_at hl 1 rfl) ?_
      refine va_get (D := D) (ci := 8) (v := .ref (a 1)) (C := RX8) (T := TX8) (N := 3) hx hb htg inX8 hown hK.1 hP 0 rfl rfl 0 (by decide) (htg _ kw_228) (fun _ h9 => h9) rfl dX8_readWorth_80 ?_
      refine lv_aload_n hx hb dX8_readWorth_83 rfl (lv_at hl 1 rfl) ?_
      refine va_get (D := D) (ci := 8) (v := .ref (a 2)) (C := RX8) (T := TX8) (N := 3) hx hb htg inX8 hown hK.1 hP 0 rfl rfl 1 (by decide) (htg _ kw_229) (fun _ h9 => h9) rfl dX8_readWorth_84 ?_
      refine lv_aload_n hx hb dX8_readWorth_87 rfl (lv_at hl 1 rfl) ?_
      refine va_get (D := D) (ci := 8) (v := .ref (a 1)) (C := RX8) (T := TX8) (N := 3) hx hb htg inX8 hown hK.1 hP 0 rfl rfl 0 (by decide) (htg _ kw_228) (fun _ h9 => h9) rfl dX8_readWorth_88 ?_
      refine va_getN (D := D) (ci := 6) (v := .long (vlk_1 0)) (C := RX6) (T := TX6) (N := 14) hx hb htg inX6 hown hK.1 hP 5 rfl rfl 8 (by decide) (va_Nw.use rfl (hK.2.1 _ kn_107)) (fun _ h9 => h9) rfl dX8_readWorth_91 ?_
      obtain ⟨hC9, hPc, hDc, hFc⟩ := xcut (wc := (pre_X7_findName T (xa [(a 2), (a 6)]) (xa [(ex 0), (ex 1), (ex 2), (a 3), (ex 3), (ex 4), (ex 5), (ex 6), (a 7)]) (xf []) (xh [(fl 2)]) (xv [(vi 12), (vi 13)]) (xl [(vlk_1 0)]))) hP hD hS hA [3, 1] (by decide) rfl
      refine va_calli (va_runVN (As := [.long (vlk_1 0)]) (rest := [.ref (a 1)]) ⟨hx, hb, hml, hown, htg⟩ (c_X7_findName l D T (xa [(a 2), (a 6)]) (xa [(ex 0), (ex 1), (ex 2), (a 3), (ex 3), (ex 4), (ex 5), (ex 6), (a 7)]) (xf []) (xh [(fl 2)]) (xv [(vi 12), (vi 13)]) (xl [(vlk_1 0)]) H.size hp5 hp6) ⟨va_cnB 1 htg (xg_ok kw_607) rfl rfl rfl (hK.2.1 _ kn_604) (htg _ kw_7) (by decide +kernel) ⟨by rw [hR]; exact Nat.le_of_ble_eq_true rfl, by rw [hR]; exact Nat.le_of_ble_eq_true rfl⟩, htg _ kw_606, htg _ ks_13⟩ (xpreV hK hPc hDc (va_recv hK.1 hPc (ci := 7) (q0 := 0) rfl rfl)) rfl rfl hl.1 rfl (lv_room (Nat.le_of_ble_eq_true rfl)) dX8_readWorth_94 ⟨by rw [hR]; exact Nat.le_of_ble_eq_true rfl, by rw [hR]; exact Nat.le_of_ble_eq_true rfl⟩) hS (fun q _ h => hFc q h) hFc (fun r9 u9 t H1 locs ht hvm hw hB hz1 hk1 hS => ?_)
      subst hw
      obtain ⟨fik_2, flk_2, vik_2, vlk_2, hP1, hD1, hG⟩ := hB
      rw [ht] at hP1
      obtain ⟨hP, hD⟩ := va_join (wr := [((a 0), .inr (8, [.ref (a 1), .ref (a 2), .int (vi 0)])), ((a 7), .inl (T 1, 81, .inl (fi 1))), ((a 3), .inl (T 2, 9, .inr (.inl (fl 0)))), ((a 1), .inr (6, [.ref (a 5), .ref (a 4), .int (vi 1), .int (vi 2), .int (vi 3), .int (vik_1 5), .int (vik_1 1), .int (vik_1 2), .long (vlk_1 0), .int (vik_1 4), .int (vik_1 3), .int (vik_1 0), .int (vik_1 6), .int (vik_1 7)])), ((a 4), .inl (T 2, 27, .inr (.inl (fl 1)))), ((a 5), .inl (T 0, 940, .inl (fi 0)))]) (w1 := [((a 2), .inr (7, [.int (vi 12), .int (vi 13), .ref (a 6), .ref (ex 0), .ref (ex 1), .ref (ex 2), .ref (a 3), .ref (ex 3), .ref (ex 4), .ref (ex 5), .ref (ex 6), .ref (a 7)])), ((a 6), .inl (T 2, 9, .inr (.inl (fl 2))))]) hP hD [3, 1] [0, 2, 4, 5, 6, 7] hC9 rfl (by decide) (by decide) hk1 hFc hP1 hD1
      obtain ⟨rk_2, er9⟩ : ∃ z, z = r9 := ⟨_, rfl⟩
      subst er9
      clear hPc hDc hFc hP1 hD1 hk1 hz1 hvm ht hC9
      generalize H1 = H at hP hS ⊢
      obtain ⟨hP, hD⟩ := (show xPD D A [((a 0), .inr (8, [.ref (a 1), .ref (a 2), .int (vi 0)])), ((a 7), .inl (T 1, 81, .inl (fi 1))), ((a 3), .inl (T 2, 9, .inr (.inl (fl 0)))), ((a 1), .inr (6, [.ref (a 5), .ref (a 4), .int (vi 1), .int (vi 2), .int (vi 3), .int (vik_1 5), .int (vik_1 1), .int (vik_1 2), .long (vlk_1 0), .int (vik_1 4), .int (vik_1 3), .int (vik_1 0), .int (vik_1 6), .int (vik_1 7)])), ((a 4), .inl (T 2, 27, .inr (.inl (fl 1)))), ((a 5), .inl (T 0, 940, .inl (fi 0))), ((a 2), .inr (7, [.int (vi 12), .int (vi 13), .ref (a 6), .ref (ex 0), .ref (ex 1), .ref (ex 2), .ref (a 3), .ref (ex 3), .ref (ex 4), .ref (ex 5), .ref (ex 6), .ref (a 7)])), ((a 6), .inl (T 2, 9, .inr (.inl (fl 2))))] H from ⟨hP, hD⟩)
      obtain ⟨gk_2_0, gk_2_1, -⟩ := hG
      replace gk_2_1 : rk_2.toInt = fdx (fl 2) 0 (vlk_1 0) ((vi 12).toInt).toNat := (P_X7_findName gk_2_1 : _)
      replace gk_2_0 : -1 ≤ rk_2.toInt ∧ rk_2.toInt ≤ 8 := gk_2_0
      obtain ⟨hC9, hPc, hDc, hFc⟩ := xcut (wc := (pre_X6_passKnown T (xa [(a 1), (a 4), (a 5)]) (xa []) (xf [(fi 0)]) (xh [(fl 1)]) (xv [rk_2, (vi 1), (vi 2), (vi 3), (vik_1 5), (vik_1 1), (vik_1 2), (vik_1 4), (vik_1 3), (vik_1 0), (vik_1 6), (vik_1 7)]) (xl [(vlk_1 0)]))) hP hD hS hA [3, 4, 5] (by decide) rfl
      refine va_calli (va_runVN (As := [.int rk_2]) (rest := []) ⟨hx, hb, hml, hown, htg⟩ (c_X6_passKnown l D T (xa [(a 1), (a 4), (a 5)]) (xa []) (xf [(fi 0)]) (xh [(fl 1)]) (xv [rk_2, (vi 1), (vi 2), (vi 3), (vik_1 5), (vik_1 1), (vik_1 2), (vik_1 4), (vik_1 3), (vik_1 0), (vik_1 6), (vik_1 7)]) (xl [(vlk_1 0)]) H.size hp0 hp1 gk_1_1 gk_1_2 gk_1_3) ⟨va_cnB 1 htg (xg_ok kw_640) rfl rfl rfl (hK.2.1 _ kn_637) (htg _ kw_2) (by decide +kernel) ⟨by rw [hR]; exact Nat.le_of_ble_eq_true rfl, by rw [hR]; exact Nat.le_of_ble_eq_true rfl⟩, htg _ kw_639, htg _ ks_20⟩ (xpreV hK hPc hDc (va_recv hK.1 hPc (ci := 6) (q0 := 0) rfl rfl)) rfl rfl hl.1 rfl (lv_room (Nat.le_of_ble_eq_true rfl)) dX8_readWorth_97 ⟨by rw [hR]; exact Nat.le_of_ble_eq_true rfl, by rw [hR]; exact Nat.le_of_ble_eq_true rfl⟩) hS (fun q _ h => hFc q h) hFc (fun r9 u9 t H1 locs ht hvm hw hB hz1 hk1 hS => ?_)
      subst hw
      obtain ⟨fik_3, flk_3, vik_3, vlk_3, hP1, hD1, hG⟩ := hB
      rw [ht] at hP1
      obtain ⟨hP, hD⟩ := va_join (wr := [((a 0), .inr (8, [.ref (a 1), .ref (a 2), .int (vi 0)])), ((a 7), .inl (T 1, 81, .inl (fi 1))), ((a 3), .inl (T 2, 9, .inr (.inl (fl 0)))), ((a 2), .inr (7, [.int (vi 12), .int (vi 13), .ref (a 6), .ref (ex 0), .ref (ex 1), .ref (ex 2), .ref (a 3), .ref (ex 3), .ref (ex 4), .ref (ex 5), .ref (ex 6), .ref (a 7)])), ((a 6), .inl (T 2, 9, .inr (.inl (fl 2))))]) (w1 := [((a 1), .inr (6, [.ref (a 5), .ref (a 4), .int (vi 1), .int (vi 2), .int (vi 3), .int (vik_3 5), .int (vik_3 1), .int (vik_3 2), .long (vlk_3 0), .int (vik_3 4), .int (vik_3 3), .int (vik_3 0), .int (vik_3 6), .int (vik_3 7)])), ((a 4), .inl (T 2, 27, .inr (.inl (fl 1)))), ((a 5), .inl (T 0, 940, .inl (fi 0)))]) hP hD [3, 4, 5] [0, 1, 2, 6, 7] hC9 rfl (by decide) (by decide) hk1 hFc hP1 hD1
      obtain ⟨rk_3, er9⟩ : ∃ z, z = r9 := ⟨_, rfl⟩
      subst er9
      clear hPc hDc hFc hP1 hD1 hk1 hz1 hvm ht hC9
      generalize H1 = H at hP hS ⊢
      obtain ⟨hP, hD⟩ := (show xPD D A [((a 0), .inr (8, [.ref (a 1), .ref (a 2), .int (vi 0)])), ((a 7), .inl (T 1, 81, .inl (fi 1))), ((a 3), .inl (T 2, 9, .inr (.inl (fl 0)))), ((a 2), .inr (7, [.int (vi 12), .int (vi 13), .ref (a 6), .ref (ex 0), .ref (ex 1), .ref (ex 2), .ref (a 3), .ref (ex 3), .ref (ex 4), .ref (ex 5), .ref (ex 6), .ref (a 7)])), ((a 6), .inl (T 2, 9, .inr (.inl (fl 2)))), ((a 1), .inr (6, [.ref (a 5), .ref (a 4), .int (vi 1), .int (vi 2), .int (vi 3), .int (vik_3 5), .int (vik_3 1), .int (vik_3 2), .long (vlk_3 0), .int (vik_3 4), .int (vik_3 3), .int (vik_3 0), .int (vik_3 6), .int (vik_3 7)])), ((a 4), .inl (T 2, 27, .inr (.inl (fl 1)))), ((a 5), .inl (T 0, 940, .inl (fi 0)))] H from ⟨hP, hD⟩)
      obtain ⟨gk_3_0, gk_3_1, gk_3_2, gk_3_3, gk_3_4, gk_3_5, -⟩ := hG
      replace gk_3_5 : ∀ n m t : Nat, CC (trn (fi 0) n) n m t (vi 2) (vi 3) (vik_1 1) (vik_1 2) (vik_1 5) (vlk_1 0) (vik_1 4) (vik_1 3) → (rk_3.toInt = 1 ∧ (wMay (trn (fi 0) n) n m (ownB (fl 1)) t) ∧ ¬ rk_2.toInt = -1 ∧ (vik_3 0).toInt = rk_2.toInt ∧ CC (trn (fi 0) n) n m (sX (trn (fi 0) n) n m t) (vi 2) (vi 3) (vik_3 1) (vik_3 2) (vik_3 5) (vlk_3 0) (vik_3 4) (vik_3 3)) ∨ (rk_3.toInt = 0 ∧ ¬ (wMay (trn (fi 0) n) n m (ownB (fl 1)) t) ∧ (vik_3 6).toInt = 1 ∧ (vik_3 7).toInt = ((sPn (trn (fi 0) n) n m t) : Int)) ∨ (rk_3.toInt = 0 ∧ (wMay (trn (fi 0) n) n m (ownB (fl 1)) t) ∧ rk_2.toInt = -1 ∧ (vik_3 6).toInt = 3 ∧ (vik_3 7).toInt = ((sPn (trn (fi 0) n) n m t) : Int)) := (P_X6_passKnown gk_3_5 : _)
      replace gk_3_1 : 0 ≤ (vik_3 5).toInt ∧ (vik_3 5).toInt ≤ 940 := gk_3_1
      replace gk_3_2 : 0 ≤ (vik_3 2).toInt ∧ (vik_3 2).toInt ≤ 940 := gk_3_2
      replace gk_3_3 : 0 ≤ (vik_3 7).toInt ∧ (vik_3 7).toInt ≤ 940 := gk_3_3
      replace gk_3_4 : rk_3.toInt = 1 → (vik_3 6).toInt = (vik_1 6).toInt := gk_3_4
      rcases (show (rk_3 = 1 ∧ ((vik_3 0).toInt = rk_2.toInt ∧ ¬ rk_2.toInt = -1 ∧ (vik_1 1).toInt = 1)) ∨ (rk_3 = 0 ∧ (True)) from gk_3_0) with ⟨er9, gk_3_0⟩ | ⟨er9, gk_3_0⟩
      · refine xz_i 1 er9 ?_
        have tb_1 : rk_3.toInt = 1 := by rw [er9]; decide
        refine lv_if_ne (tgt := 105) hx hb dX8_readWorth_100 (by decide) (fun _ => ?_) (fun c => absurd c (by decide))
        refine lv_aload_n hx hb dX8_readWorth_105 rfl (lv_at hl 1 rfl) ?_
        refine va_get (D := D) (ci := 8) (v := .ref (a 1)) (C := RX8) (T := TX8) (N := 3) hx hb htg inX8 hown hK.1 hP 0 rfl rfl 0 (by decide) (htg _ kw_228) (fun _ h9 => h9) rfl dX8_readWorth_106 ?_
        refine va_getN (D := D) (ci := 6) (v := .int (vik_3 0)) (C := RX6) (T := TX6) (N := 14) hx hb htg inX6 hown hK.1 hP 5 rfl rfl 11 (by decide) (va_Nw.use rfl (hK.2.1 _ kn_114)) (fun _ h9 => h9) rfl dX8_readWorth_109 ?_
        refine lv_istore_n (lv' := [(2, .int (vik_3 0)), (1, .int (vik_1 0)), (0, .ref (a 0))]) hx hb dX8_readWorth_112 rfl hl (by decide) rfl (fun ls hl => ?_)
        refine lv_aload_n hx hb dX8_readWorth_113 rfl (lv_at hl 2 rfl) ?_
        refine va_get (D := D) (ci := 8) (v := .ref (a 1)) (C := RX8) (T := TX8) (N := 3) hx hb htg inX8 hown hK.1 hP 0 rfl rfl 0 (by decide) (htg _ kw_228) (fun _ h9 => h9) rfl dX8_readWorth_114 ?_
        refine lv_iconst (v := 1) hx hb dX8_readWorth_117 (by decide) ?_
        refine lv_bipush (v := 99) hx hb dX8_readWorth_118 (by decide) ?_
        obtain ⟨hC9, hPc, hDc, hFc⟩ := xcut (wc := (pre_X6_passNumber T (xa [(a 1), (a 5)]) (xa [(a 4)]) (xf [(fi 0)]) (xh []) (xv [1, 99, (vi 1), (vi 2), (vi 3), (vik_3 5), (vik_3 1), (vik_3 2), (vik_3 4), (vik_3 3), (vik_3 0), (vik_3 6), (vik_3 7)]) (xl [(vlk_3 0)]))) hP hD hS hA [5, 7] (by decide) rfl
        refine va_calli (va_runVN (As := [.int 1, .int 99]) (rest := []) ⟨hx, hb, hml, hown, htg⟩ (c_X6_passNumber l D T (xa [(a 1), (a 5)]) (xa [(a 4)]) (xf [(fi 0)]) (xh []) (xv [1, 99, (vi 1), (vi 2), (vi 3), (vik_3 5), (vik_3 1), (vik_3 2), (vik_3 4), (vik_3 3), (vik_3 0), (vik_3 6), (vik_3 7)]) (xl [(vlk_3 0)]) H.size hp0 hp1 gk_3_1 gk_3_2 gk_3_3) ⟨va_cnB 2 htg (xg_ok kw_622) rfl rfl rfl (hK.2.1 _ kn_619) (htg _ kw_2) (by decide +kernel) ⟨by rw [hR]; exact Nat.le_of_ble_eq_true rfl, by rw [hR]; exact Nat.le_of_ble_eq_true rfl⟩, htg _ kw_621, htg _ ks_16⟩ (xpreV hK hPc hDc (va_recv hK.1 hPc (ci := 6) (q0 := 0) rfl rfl)) rfl rfl hl.1 rfl (lv_room (Nat.le_of_ble_eq_true rfl)) dX8_readWorth_120 ⟨by rw [hR]; exact Nat.le_of_ble_eq_true rfl, by rw [hR]; exact Nat.le_of_ble_eq_true rfl⟩) hS (fun q _ h => hFc q h) hFc (fun r9 u9 t H1 locs ht hvm hw hB hz1 hk1 hS => ?_)
        subst hw
        obtain ⟨fik_4, flk_4, vik_4, vlk_4, hP1, hD1, hG⟩ := hB
        rw [ht] at hP1
        obtain ⟨hP, hD⟩ := va_join (wr := [((a 0), .inr (8, [.ref (a 1), .ref (a 2), .int (vi 0)])), ((a 7), .inl (T 1, 81, .inl (fi 1))), ((a 3), .inl (T 2, 9, .inr (.inl (fl 0)))), ((a 2), .inr (7, [.int (vi 12), .int (vi 13), .ref (a 6), .ref (ex 0), .ref (ex 1), .ref (ex 2), .ref (a 3), .ref (ex 3), .ref (ex 4), .ref (ex 5), .ref (ex 6), .ref (a 7)])), ((a 6), .inl (T 2, 9, .inr (.inl (fl 2)))), ((a 4), .inl (T 2, 27, .inr (.inl (fl 1))))]) (w1 := [((a 1), .inr (6, [.ref (a 5), .ref (a 4), .int (vi 1), .int (vi 2), .int (vi 3), .int (vik_4 7), .int (vik_4 3), .int (vik_4 4), .long (vlk_4 0), .int (vik_4 6), .int (vik_4 5), .int (vik_4 2), .int (vik_4 0), .int (vik_4 1)])), ((a 5), .inl (T 0, 940, .inl (fi 0)))]) hP hD [5, 7] [0, 1, 2, 3, 4, 6] hC9 rfl (by decide) (by decide) hk1 hFc hP1 hD1
        obtain ⟨rk_4, er9⟩ : ∃ z, z = r9 := ⟨_, rfl⟩
        subst er9
        clear hPc hDc hFc hP1 hD1 hk1 hz1 hvm ht hC9
        generalize H1 = H at hP hS ⊢
        obtain ⟨hP, hD⟩ := (show xPD D A [((a 0), .inr (8, [.ref (a 1), .ref (a 2), .int (vi 0)])), ((a 7), .inl (T 1, 81, .inl (fi 1))), ((a 3), .inl (T 2, 9, .inr (.inl (fl 0)))), ((a 2), .inr (7, [.int (vi 12), .int (vi 13), .ref (a 6), .ref (ex 0), .ref (ex 1), .ref (ex 2), .ref (a 3), .ref (ex 3), .ref (ex 4), .ref (ex 5), .ref (ex 6), .ref (a 7)])), ((a 6), .inl (T 2, 9, .inr (.inl (fl 2)))), ((a 4), .inl (T 2, 27, .inr (.inl (fl 1)))), ((a 1), .inr (6, [.ref (a 5), .ref (a 4), .int (vi 1), .int (vi 2), .int (vi 3), .int (vik_4 7), .int (vik_4 3), .int (vik_4 4), .long (vlk_4 0), .int (vik_4 6), .int (vik_4 5), .int (vik_4 2), .int (vik_4 0), .int (vik_4 1)])), ((a 5), .inl (T 0, 940, .inl (fi 0)))] H from ⟨hP, hD⟩)
        obtain ⟨gk_4_0, gk_4_1, gk_4_2, gk_4_3, gk_4_4, gk_4_5, -⟩ := hG
        replace gk_4_5 : ∀ n m t : Nat, CC (trn (fi 0) n) n m t (vi 2) (vi 3) (vik_3 1) (vik_3 2) (vik_3 5) (vlk_3 0) (vik_3 4) (vik_3 3) → (rk_4.toInt = 1 ∧ (fNum (trn (fi 0) n) n m (1 : Int32).toInt (99 : Int32).toInt t) = 0 ∧ (vik_4 2).toInt = (sU (trn (fi 0) n) n m t) ∧ (sK (trn (fi 0) n) n m t) = 2 ∧ (1 : Int32).toInt ≤ (sU (trn (fi 0) n) n m t) ∧ (sU (trn (fi 0) n) n m t) ≤ (99 : Int32).toInt ∧ CC (trn (fi 0) n) n m (sX (trn (fi 0) n) n m t) (vi 2) (vi 3) (vik_4 3) (vik_4 4) (vik_4 7) (vlk_4 0) (vik_4 6) (vik_4 5)) ∨ (rk_4.toInt = 0 ∧ ¬ (fNum (trn (fi 0) n) n m (1 : Int32).toInt (99 : Int32).toInt t) = 0 ∧ (vik_4 0).toInt = (fNum (trn (fi 0) n) n m (1 : Int32).toInt (99 : Int32).toInt t) ∧ (vik_4 1).toInt = ((sPn (trn (fi 0) n) n m t) : Int)) := (P_X6_passNumber gk_4_5 : _)
        rw [show (1 : Int32).toInt = (1 : Int) by decide] at gk_4_5
        rw [show (99 : Int32).toInt = (99 : Int) by decide] at gk_4_5
        replace gk_4_1 : 0 ≤ (vik_4 7).toInt ∧ (vik_4 7).toInt ≤ 940 := gk_4_1
        replace gk_4_2 : 0 ≤ (vik_4 4).toInt ∧ (vik_4 4).toInt ≤ 940 := gk_4_2
        replace gk_4_3 : 0 ≤ (vik_4 1).toInt ∧ (vik_4 1).toInt ≤ 940 := gk_4_3
        replace gk_4_4 : rk_4.toInt = 1 → (vik_4 0).toInt = (vik_3 6).toInt := gk_4_4
        rcases (show (rk_4 = 1 ∧ (True)) ∨ (rk_4 = 0 ∧ (True)) from gk_4_0) with ⟨er9, gk_4_0⟩ | ⟨er9, gk_4_0⟩
        · refine xz_i 1 er9 ?_
          have tb_2 : rk_4.toInt = 1 := by rw [er9]; decide
          refine lv_if_eq (tgt := 148) hx hb dX8_readWorth_123 (by decide) (fun c => absurd c (by decide)) (fun _ => ?_)
          refine lv_aload_n hx hb dX8_readWorth_126 rfl (lv_at hl 2 rfl) ?_
          refine va_get (D := D) (ci := 8) (v := .ref (a 2)) (C := RX8) (T := TX8) (N := 3) hx hb htg inX8 hown hK.1 hP 0 rfl rfl 1 (by decide) (htg _ kw_229) (fun _ h9 => h9) rfl dX8_readWorth_127 ?_
          refine lv_iload_n hx hb dX8_readWorth_130 rfl (lv_at hl 1 rfl) ?_
          obtain ⟨hC9, hPc, hDc, hFc⟩ := xcut (wc := (pre_X7_isSoul T (xa [(a 2)]) (xa [(a 6), (ex 0), (ex 1), (ex 2), (a 3), (ex 3), (ex 4), (ex 5), (ex 6), (a 7)]) (xf []) (xh []) (xv [(vik_1 0), (vi 12), (vi 13)]) (xl []))) hP hD hS hA [3] (by decide) rfl
          refine va_calli (va_runVN (As := [.int (vik_1 0)]) (rest := []) ⟨hx, hb, hml, hown, htg⟩ (c_X7_isSoul l D T (xa [(a 2)]) (xa [(a 6), (ex 0), (ex 1), (ex 2), (a 3), (ex 3), (ex 4), (ex 5), (ex 6), (a 7)]) (xf []) (xh []) (xv [(vik_1 0), (vi 12), (vi 13)]) (xl []) H.size hp5 hp6) ⟨va_cnB 1 htg (xg_ok kw_664) rfl rfl rfl (hK.2.1 _ kn_661) (htg _ kw_7) (by decide +kernel) ⟨by rw [hR]; exact Nat.le_of_ble_eq_true rfl, by rw [hR]; exact Nat.le_of_ble_eq_true rfl⟩, htg _ kw_663, htg _ ks_25⟩ (xpreV hK hPc hDc (va_recv hK.1 hPc (ci := 7) (q0 := 0) rfl rfl)) rfl rfl hl.1 rfl (lv_room (Nat.le_of_ble_eq_true rfl)) dX8_readWorth_131 ⟨by rw [hR]; exact Nat.le_of_ble_eq_true rfl, by rw [hR]; exact Nat.le_of_ble_eq_true rfl⟩) hS (fun q _ h => hFc q h) hFc (fun r9 u9 t H1 locs ht hvm hw hB hz1 hk1 hS => ?_)
          subst hw
          obtain ⟨fik_5, flk_5, vik_5, vlk_5, hP1, hD1, hG⟩ := hB
          rw [ht] at hP1
          obtain ⟨hP, hD⟩ := va_join (wr := [((a 0), .inr (8, [.ref (a 1), .ref (a 2), .int (vi 0)])), ((a 7), .inl (T 1, 81, .inl (fi 1))), ((a 3), .inl (T 2, 9, .inr (.inl (fl 0)))), ((a 6), .inl (T 2, 9, .inr (.inl (fl 2)))), ((a 4), .inl (T 2, 27, .inr (.inl (fl 1)))), ((a 1), .inr (6, [.ref (a 5), .ref (a 4), .int (vi 1), .int (vi 2), .int (vi 3), .int (vik_4 7), .int (vik_4 3), .int (vik_4 4), .long (vlk_4 0), .int (vik_4 6), .int (vik_4 5), .int (vik_4 2), .int (vik_4 0), .int (vik_4 1)])), ((a 5), .inl (T 0, 940, .inl (fi 0)))]) (w1 := [((a 2), .inr (7, [.int (vi 12), .int (vi 13), .ref (a 6), .ref (ex 0), .ref (ex 1), .ref (ex 2), .ref (a 3), .ref (ex 3), .ref (ex 4), .ref (ex 5), .ref (ex 6), .ref (a 7)]))]) hP hD [3] [0, 1, 2, 4, 5, 6, 7] hC9 rfl (by decide) (by decide) hk1 hFc hP1 hD1
          obtain ⟨rk_5, er9⟩ : ∃ z, z = r9 := ⟨_, rfl⟩
          subst er9
          clear hPc hDc hFc hP1 hD1 hk1 hz1 hvm ht hC9
          generalize H1 = H at hP hS ⊢
          obtain ⟨hP, hD⟩ := (show xPD D A [((a 0), .inr (8, [.ref (a 1), .ref (a 2), .int (vi 0)])), ((a 7), .inl (T 1, 81, .inl (fi 1))), ((a 3), .inl (T 2, 9, .inr (.inl (fl 0)))), ((a 6), .inl (T 2, 9, .inr (.inl (fl 2)))), ((a 4), .inl (T 2, 27, .inr (.inl (fl 1)))), ((a 1), .inr (6, [.ref (a 5), .ref (a 4), .int (vi 1), .int (vi 2), .int (vi 3), .int (vik_4 7), .int (vik_4 3), .int (vik_4 4), .long (vlk_4 0), .int (vik_4 6), .int (vik_4 5), .int (vik_4 2), .int (vik_4 0), .int (vik_4 1)])), ((a 5), .inl (T 0, 940, .inl (fi 0))), ((a 2), .inr (7, [.int (vi 12), .int (vi 13), .ref (a 6), .ref (ex 0), .ref (ex 1), .ref (ex 2), .ref (a 3), .ref (ex 3), .ref (ex 4), .ref (ex 5), .ref (ex 6), .ref (a 7)]))] H from ⟨hP, hD⟩)
          obtain ⟨gk_5_0, -⟩ := hG
          rcases (show (rk_5 = 1 ∧ (0 ≤ (vik_1 0).toInt ∧ (vik_1 0).toInt < (vi 13).toInt)) ∨ (rk_5 = 0 ∧ (¬ (0 ≤ (vik_1 0).toInt ∧ (vik_1 0).toInt < (vi 13).toInt))) from gk_5_0) with ⟨er9, gk_5_0⟩ | ⟨er9, gk_5_0⟩
          · refine xz_i 1 er9 ?_
            have tb_3 : rk_5.toInt = 1 := by rw [er9]; decide
            refine lv_if_eq (tgt := 148) hx hb dX8_readWorth_134 (by decide) (fun c => absurd c (by decide)) (fun _ => ?_)
            refine lv_aload_n hx hb dX8_readWorth_137 rfl (lv_at hl 2 rfl) ?_
            refine va_get (D := D) (ci := 8) (v := .ref (a 2)) (C := RX8) (T := TX8) (N := 3) hx hb htg inX8 hown hK.1 hP 0 rfl rfl 1 (by decide) (htg _ kw_229) (fun _ h9 => h9) rfl dX8_readWorth_138 ?_
            refine lv_iload_n hx hb dX8_readWorth_141 rfl (lv_at hl 0 rfl) ?_
            obtain ⟨hC9, hPc, hDc, hFc⟩ := xcut (wc := (pre_X7_isName T (xa [(a 2)]) (xa [(a 6), (ex 0), (ex 1), (ex 2), (a 3), (ex 3), (ex 4), (ex 5), (ex 6), (a 7)]) (xf []) (xh []) (xv [(vik_3 0), (vi 12), (vi 13)]) (xl []))) hP hD hS hA [7] (by decide) rfl
            refine va_calli (va_runVN (As := [.int (vik_3 0)]) (rest := []) ⟨hx, hb, hml, hown, htg⟩ (c_X7_isName l D T (xa [(a 2)]) (xa [(a 6), (ex 0), (ex 1), (ex 2), (a 3), (ex 3), (ex 4), (ex 5), (ex 6), (a 7)]) (xf []) (xh []) (xv [(vik_3 0), (vi 12), (vi 13)]) (xl []) H.size hp5 hp6) ⟨va_cnB 1 htg (xg_ok kw_683) rfl rfl rfl (hK.2.1 _ kn_684) (htg _ kw_7) (by decide +kernel) ⟨by rw [hR]; exact Nat.le_of_ble_eq_true rfl, by rw [hR]; exact Nat.le_of_ble_eq_true rfl⟩, htg _ kw_682, htg _ ks_29⟩ (xpreV hK hPc hDc (va_recv hK.1 hPc (ci := 7) (q0 := 0) rfl rfl)) rfl rfl hl.1 rfl (lv_room (Nat.le_of_ble_eq_true rfl)) dX8_readWorth_142 ⟨by rw [hR]; exact Nat.le_of_ble_eq_true rfl, by rw [hR]; exact Nat.le_of_ble_eq_true rfl⟩) hS (fun q _ h => hFc q h) hFc (fun r9 u9 t H1 locs ht hvm hw hB hz1 hk1 hS => ?_)
            subst hw
            obtain ⟨fik_6, flk_6, vik_6, vlk_6, hP1, hD1, hG⟩ := hB
            rw [ht] at hP1
            obtain ⟨hP, hD⟩ := va_join (wr := [((a 0), .inr (8, [.ref (a 1), .ref (a 2), .int (vi 0)])), ((a 7), .inl (T 1, 81, .inl (fi 1))), ((a 3), .inl (T 2, 9, .inr (.inl (fl 0)))), ((a 6), .inl (T 2, 9, .inr (.inl (fl 2)))), ((a 4), .inl (T 2, 27, .inr (.inl (fl 1)))), ((a 1), .inr (6, [.ref (a 5), .ref (a 4), .int (vi 1), .int (vi 2), .int (vi 3), .int (vik_4 7), .int (vik_4 3), .int (vik_4 4), .long (vlk_4 0), .int (vik_4 6), .int (vik_4 5), .int (vik_4 2), .int (vik_4 0), .int (vik_4 1)])), ((a 5), .inl (T 0, 940, .inl (fi 0)))]) (w1 := [((a 2), .inr (7, [.int (vi 12), .int (vi 13), .ref (a 6), .ref (ex 0), .ref (ex 1), .ref (ex 2), .ref (a 3), .ref (ex 3), .ref (ex 4), .ref (ex 5), .ref (ex 6), .ref (a 7)]))]) hP hD [7] [0, 1, 2, 3, 4, 5, 6] hC9 rfl (by decide) (by decide) hk1 hFc hP1 hD1
            obtain ⟨rk_6, er9⟩ : ∃ z, z = r9 := ⟨_, rfl⟩
            subst er9
            clear hPc hDc hFc hP1 hD1 hk1 hz1 hvm ht hC9
            generalize H1 = H at hP hS ⊢
            obtain ⟨hP, hD⟩ := (show xPD D A [((a 0), .inr (8, [.ref (a 1), .ref (a 2), .int (vi 0)])), ((a 7), .inl (T 1, 81, .inl (fi 1))), ((a 3), .inl (T 2, 9, .inr (.inl (fl 0)))), ((a 6), .inl (T 2, 9, .inr (.inl (fl 2)))), ((a 4), .inl (T 2, 27, .inr (.inl (fl 1)))), ((a 1), .inr (6, [.ref (a 5), .ref (a 4), .int (vi 1), .int (vi 2), .int (vi 3), .int (vik_4 7), .int (vik_4 3), .int (vik_4 4), .long (vlk_4 0), .int (vik_4 6), .int (vik_4 5), .int (vik_4 2), .int (vik_4 0), .int (vik_4 1)])), ((a 5), .inl (T 0, 940, .inl (fi 0))), ((a 2), .inr (7, [.int (vi 12), .int (vi 13), .ref (a 6), .ref (ex 0), .ref (ex 1), .ref (ex 2), .ref (a 3), .ref (ex 3), .ref (ex 4), .ref (ex 5), .ref (ex 6), .ref (a 7)]))] H from ⟨hP, hD⟩)
            obtain ⟨gk_6_0, -⟩ := hG
            rcases (show (rk_6 = 1 ∧ (0 ≤ (vik_3 0).toInt ∧ (vik_3 0).toInt < (vi 12).toInt)) ∨ (rk_6 = 0 ∧ (¬ (0 ≤ (vik_3 0).toInt ∧ (vik_3 0).toInt < (vi 12).toInt))) from gk_6_0) with ⟨er9, gk_6_0⟩ | ⟨er9, gk_6_0⟩
            · refine xz_i 1 er9 ?_
              have tb_4 : rk_6.toInt = 1 := by rw [er9]; decide
              refine lv_if_ne (tgt := 150) hx hb dX8_readWorth_145 (by decide) (fun _ => ?_) (fun c => absurd c (by decide))
              refine lv_aload_n hx hb dX8_readWorth_150 rfl (lv_at hl 2 rfl) ?_
              refine va_get (D := D) (ci := 8) (v := .ref (a 2)) (C := RX8) (T := TX8) (N := 3) hx hb htg inX8 hown hK.1 hP 0 rfl rfl 1 (by decide) (htg _ kw_229) (fun _ h9 => h9) rfl dX8_readWorth_151 ?_
              refine va_getN (D := D) (ci := 7) (v := .ref (a 7)) (C := RX7) (T := TX7) (N := 12) hx hb htg inX7 hown hK.1 hP 7 rfl rfl 11 (by decide) (va_Nw.use rfl (hK.2.1 _ kn_195)) (fun _ h9 => h9) rfl dX8_readWorth_154 ?_
              refine lv_iload_n hx hb dX8_readWorth_157 rfl (lv_at hl 1 rfl) ?_
              refine lv_bipush (v := 9) hx hb dX8_readWorth_158 (by decide) ?_
              refine lv_imul hx hb dX8_readWorth_160 ?_
              refine lv_topi (fun z160 ez160 => ?_)
              have tz160 : z160.toInt = (vik_1 0).toInt * 9 := by rw [ez160]; exact xmul rfl (by decide) (by omega) (by omega)
              refine lv_iload_n hx hb dX8_readWorth_161 rfl (lv_at hl 0 rfl) ?_
              refine lv_iadd hx hb dX8_readWorth_162 ?_
              refine lv_topi (fun z162 ez162 => ?_)
              have tz162 : z162.toInt = z160.toInt + (vik_3 0).toInt := by rw [ez162]; exact xadd rfl rfl (by omega) (by omega)
              refine lv_aload_n hx hb dX8_readWorth_163 rfl (lv_at hl 2 rfl) ?_
              refine va_get (D := D) (ci := 8) (v := .ref (a 1)) (C := RX8) (T := TX8) (N := 3) hx hb htg inX8 hown hK.1 hP 0 rfl rfl 0 (by decide) (htg _ kw_228) (fun _ h9 => h9) rfl dX8_readWorth_164 ?_
              refine va_getN (D := D) (ci := 6) (v := .int (vik_4 2)) (C := RX6) (T := TX6) (N := 14) hx hb htg inX6 hown hK.1 hP 5 rfl rfl 11 (by decide) (va_Nw.use rfl (hK.2.1 _ kn_114)) (fun _ h9 => h9) rfl dX8_readWorth_167 ?_
              refine va_iast hx hb hK.1 hP hD hS 1 1 rfl rfl (vp_in_iff.mpr (by omega)) dX8_readWorth_170 (fun H locs hP hD hS => ?_)
              obtain ⟨f170, ef170, hP, hD⟩ : ∃ f7 : Nat → Int32, f7 = upd (fi 1) z162.toNatClampNeg ((vik_4 2) : Int32) ∧ va_P D vwCl [((a 0), .inr (8, [.ref (a 1), .ref (a 2), .int (vi 0)])), ((a 7), .inl (T 1, 81, .inl f7)), ((a 3), .inl (T 2, 9, .inr (.inl (fl 0)))), ((a 6), .inl (T 2, 9, .inr (.inl (fl 2)))), ((a 4), .inl (T 2, 27, .inr (.inl (fl 1)))), ((a 1), .inr (6, [.ref (a 5), .ref (a 4), .int (vi 1), .int (vi 2), .int (vi 3), .int (vik_4 7), .int (vik_4 3), .int (vik_4 4), .long (vlk_4 0), .int (vik_4 6), .int (vik_4 5), .int (vik_4 2), .int (vik_4 0), .int (vik_4 1)])), ((a 5), .inl (T 0, 940, .inl (fi 0))), ((a 2), .inr (7, [.int (vi 12), .int (vi 13), .ref (a 6), .ref (ex 0), .ref (ex 1), .ref (ex 2), .ref (a 3), .ref (ex 3), .ref (ex 4), .ref (ex 5), .ref (ex 6), .ref (a 7)]))] H ∧ va_D A [((a 0), .inr (8, [.ref (a 1), .ref (a 2), .int (vi 0)])), ((a 7), .inl (T 1, 81, .inl f7)), ((a 3), .inl (T 2, 9, .inr (.inl (fl 0)))), ((a 6), .inl (T 2, 9, .inr (.inl (fl 2)))), ((a 4), .inl (T 2, 27, .inr (.inl (fl 1)))), ((a 1), .inr (6, [.ref (a 5), .ref (a 4), .int (vi 1), .int (vi 2), .int (vi 3), .int (vik_4 7), .int (vik_4 3), .int (vik_4 4), .long (vlk_4 0), .int (vik_4 6), .int (vik_4 5), .int (vik_4 2), .int (vik_4 0), .int (vik_4 1)])), ((a 5), .inl (T 0, 940, .inl (fi 0))), ((a 2), .inr (7, [.int (vi 12), .int (vi 13), .ref (a 6), .ref (ex 0), .ref (ex 1), .ref (ex 2), .ref (a 3), .ref (ex 3), .ref (ex 4), .ref (ex 5), .ref (ex 6), .ref (a 7)]))] := ⟨_, rfl, hP, hD⟩
              refine lv_iconst (v := 1) hx hb dX8_readWorth_171 (by decide) ?_
              have hP9 := hP.sub (ws' := [((a 0), .inr (8, [.ref (a 1), .ref (a 2), .int (vi 0)])), ((a 1), .inr (6, [.ref (a 5), .ref (a 4), .int (vi 1), .int (vi 2), .int (vi 3), .int (vik_4 7), .int (vik_4 3), .int (vik_4 4), .long (vlk_4 0), .int (vik_4 6), .int (vik_4 5), .int (vik_4 2), .int (vik_4 0), .int (vik_4 1)])), ((a 2), .inr (7, [.int (vi 12), .int (vi 13), .ref (a 6), .ref (ex 0), .ref (ex 1), .ref (ex 2), .ref (a 3), .ref (ex 3), .ref (ex 4), .ref (ex 5), .ref (ex 6), .ref (a 7)])), ((a 3), .inl (T 2, 9, .inr (.inl (fl 0)))), ((a 4), .inl (T 2, 27, .inr (.inl (fl 1)))), ((a 5), .inl (T 0, 940, .inl (fi 0))), ((a 6), .inl (T 2, 9, .inr (.inl (fl 2)))), ((a 7), .inl (T 1, 81, .inl f170))]) [0, 5, 7, 2, 4, 6, 3, 1] rfl
              have hD9 := hD.sub (ws' := [((a 0), .inr (8, [.ref (a 1), .ref (a 2), .int (vi 0)])), ((a 1), .inr (6, [.ref (a 5), .ref (a 4), .int (vi 1), .int (vi 2), .int (vi 3), .int (vik_4 7), .int (vik_4 3), .int (vik_4 4), .long (vlk_4 0), .int (vik_4 6), .int (vik_4 5), .int (vik_4 2), .int (vik_4 0), .int (vik_4 1)])), ((a 2), .inr (7, [.int (vi 12), .int (vi 13), .ref (a 6), .ref (ex 0), .ref (ex 1), .ref (ex 2), .ref (a 3), .ref (ex 3), .ref (ex 4), .ref (ex 5), .ref (ex 6), .ref (a 7)])), ((a 3), .inl (T 2, 9, .inr (.inl (fl 0)))), ((a 4), .inl (T 2, 27, .inr (.inl (fl 1)))), ((a 5), .inl (T 0, 940, .inl (fi 0))), ((a 6), .inl (T 2, 9, .inr (.inl (fl 2)))), ((a 7), .inl (T 1, 81, .inl f170))]) [0, 5, 7, 2, 4, 6, 3, 1] (by decide +kernel) rfl
              rw [hQ]
              exact W.zret (v := 1) hx hb hr rfl (fun t ht hW => ⟨⟨1, 1, rfl, rfl, xf [f170], xh [], xv [(vik_4 2), (vik_4 3), (vik_4 4), (vik_4 5), (vik_4 6), (vik_4 7), (vik_4 0), (vik_4 1)], xl [(vlk_4 0)], by rw [ht]; exact hP9, hD9, ⟨(Or.inl ⟨rfl, by show True; first | trivial | omega | assumption⟩), gk_4_1, gk_4_2, gk_4_3, (by show (1 : Int32).toInt = 1 → (vik_4 0).toInt = (vi 10).toInt; have k9_0 : (1 : Int32).toInt = 1 := (by decide); exact fun _ => ((gk_4_4 tb_2).trans (gk_3_4 tb_1) |>.trans (gk_1_4 tb))), (by unfold R_X8_readWorth; exact (fun Q9 k9_0 k9_1 k9_2 k9_3 k9_4 k9_5 k9_6 k9_7 k9_8 k9_9 k9_10 k9_11 => k9_0 hp5 hp6 fik flk vik vlk rk gk_0 gk_1 fik_1 flk_1 vik_1 vlk_1 rk_1 gk_1_5 tb gk_1_0 c42 fik_2 flk_2 vik_2 vlk_2 rk_2 gk_2_0 gk_2_1 fik_3 flk_3 vik_3 vlk_3 rk_3 gk_3_5 tb_1 gk_3_0 fik_4 flk_4 vik_4 vlk_4 rk_4 gk_4_5 tb_2 gk_4_0 fik_5 flk_5 vik_5 vlk_5 rk_5 tb_3 gk_5_0 fik_6 flk_6 vik_6 vlk_6 rk_6 tb_4 gk_6_0 z160 ez160 tz160 z162 ez162 tz162 f170 ef170 rfl rfl rfl rfl rfl rfl rfl rfl rfl rfl rfl)), trivial⟩⟩, hS.F ht⟩) hS.2.2 dX8_readWorth_172
            · refine xz_i 0 er9 ?_
              have tb_4 : rk_6.toInt = 0 := by rw [er9]; decide
              refine lv_if_ne (tgt := 150) hx hb dX8_readWorth_145 (by decide) (fun c => absurd (by decide) c) (fun _ => ?_)
              refine lv_iconst (v := 0) hx hb dX8_readWorth_148 (by decide) ?_
              have hP9 := hP.sub (ws' := [((a 0), .inr (8, [.ref (a 1), .ref (a 2), .int (vi 0)])), ((a 1), .inr (6, [.ref (a 5), .ref (a 4), .int (vi 1), .int (vi 2), .int (vi 3), .int (vik_4 7), .int (vik_4 3), .int (vik_4 4), .long (vlk_4 0), .int (vik_4 6), .int (vik_4 5), .int (vik_4 2), .int (vik_4 0), .int (vik_4 1)])), ((a 2), .inr (7, [.int (vi 12), .int (vi 13), .ref (a 6), .ref (ex 0), .ref (ex 1), .ref (ex 2), .ref (a 3), .ref (ex 3), .ref (ex 4), .ref (ex 5), .ref (ex 6), .ref (a 7)])), ((a 3), .inl (T 2, 9, .inr (.inl (fl 0)))), ((a 4), .inl (T 2, 27, .inr (.inl (fl 1)))), ((a 5), .inl (T 0, 940, .inl (fi 0))), ((a 6), .inl (T 2, 9, .inr (.inl (fl 2)))), ((a 7), .inl (T 1, 81, .inl (fi 1)))]) [0, 5, 7, 2, 4, 6, 3, 1] rfl
              have hD9 := hD.sub (ws' := [((a 0), .inr (8, [.ref (a 1), .ref (a 2), .int (vi 0)])), ((a 1), .inr (6, [.ref (a 5), .ref (a 4), .int (vi 1), .int (vi 2), .int (vi 3), .int (vik_4 7), .int (vik_4 3), .int (vik_4 4), .long (vlk_4 0), .int (vik_4 6), .int (vik_4 5), .int (vik_4 2), .int (vik_4 0), .int (vik_4 1)])), ((a 2), .inr (7, [.int (vi 12), .int (vi 13), .ref (a 6), .ref (ex 0), .ref (ex 1), .ref (ex 2), .ref (a 3), .ref (ex 3), .ref (ex 4), .ref (ex 5), .ref (ex 6), .ref (a 7)])), ((a 3), .inl (T 2, 9, .inr (.inl (fl 0)))), ((a 4), .inl (T 2, 27, .inr (.inl (fl 1)))), ((a 5), .inl (T 0, 940, .inl (fi 0))), ((a 6), .inl (T 2, 9, .inr (.inl (fl 2)))), ((a 7), .inl (T 1, 81, .inl (fi 1)))]) [0, 5, 7, 2, 4, 6, 3, 1] (by decide +kernel) rfl
              rw [hQ]
              exact W.zret (v := 0) hx hb hr rfl (fun t ht hW => ⟨⟨0, 0, rfl, rfl, xf [(fi 1)], xh [], xv [(vik_4 2), (vik_4 3), (vik_4 4), (vik_4 5), (vik_4 6), (vik_4 7), (vik_4 0), (vik_4 1)], xl [(vlk_4 0)], by rw [ht]; exact hP9, hD9, ⟨(Or.inr ⟨rfl, by show True; first | trivial | omega | assumption⟩), gk_4_1, gk_4_2, gk_4_3, (by show (0 : Int32).toInt = 1 → (vik_4 0).toInt = (vi 10).toInt; have k9_0 : (0 : Int32).toInt = 0 := (by decide); exact fun h9 => absurd h9 (by decide)), (by unfold R_X8_readWorth; exact (fun Q9 k9_0 k9_1 k9_2 k9_3 k9_4 k9_5 k9_6 k9_7 k9_8 k9_9 k9_10 k9_11 => k9_1 hp5 hp6 fik flk vik vlk rk gk_0 gk_1 fik_1 flk_1 vik_1 vlk_1 rk_1 gk_1_5 tb gk_1_0 c42 fik_2 flk_2 vik_2 vlk_2 rk_2 gk_2_0 gk_2_1 fik_3 flk_3 vik_3 vlk_3 rk_3 gk_3_5 tb_1 gk_3_0 fik_4 flk_4 vik_4 vlk_4 rk_4 gk_4_5 tb_2 gk_4_0 fik_5 flk_5 vik_5 vlk_5 rk_5 tb_3 gk_5_0 fik_6 flk_6 vik_6 vlk_6 rk_6 tb_4 gk_6_0 rfl rfl rfl rfl rfl rfl rfl rfl rfl rfl rfl)), trivial⟩⟩, hS.F ht⟩) hS.2.2 dX8_readWorth_149
          · refine xz_i 0 er9 ?_
            have tb_3 : rk_5.toInt = 0 := by rw [er9]; decide
            refine lv_if_eq (tgt := 148) hx hb dX8_readWorth_134 (by decide) (fun _ => ?_) (fun c => absurd (by decide) c)
            refine lv_iconst (v := 0) hx hb dX8_readWorth_148 (by decide) ?_
            have hP9 := hP.sub (ws' := [((a 0), .inr (8, [.ref (a 1), .ref (a 2), .int (vi 0)])), ((a 1), .inr (6, [.ref (a 5), .ref (a 4), .int (vi 1), .int (vi 2), .int (vi 3), .int (vik_4 7), .int (vik_4 3), .int (vik_4 4), .long (vlk_4 0), .int (vik_4 6), .int (vik_4 5), .int (vik_4 2), .int (vik_4 0), .int (vik_4 1)])), ((a 2), .inr (7, [.int (vi 12), .int (vi 13), .ref (a 6), .ref (ex 0), .ref (ex 1), .ref (ex 2), .ref (a 3), .ref (ex 3), .ref (ex 4), .ref (ex 5), .ref (ex 6), .ref (a 7)])), ((a 3), .inl (T 2, 9, .inr (.inl (fl 0)))), ((a 4), .inl (T 2, 27, .inr (.inl (fl 1)))), ((a 5), .inl (T 0, 940, .inl (fi 0))), ((a 6), .inl (T 2, 9, .inr (.inl (fl 2)))), ((a 7), .inl (T 1, 81, .inl (fi 1)))]) [0, 5, 7, 2, 4, 6, 3, 1] rfl
            have hD9 := hD.sub (ws' := [((a 0), .inr (8, [.ref (a 1), .ref (a 2), .int (vi 0)])), ((a 1), .inr (6, [.ref (a 5), .ref (a 4), .int (vi 1), .int (vi 2), .int (vi 3), .int (vik_4 7), .int (vik_4 3), .int (vik_4 4), .long (vlk_4 0), .int (vik_4 6), .int (vik_4 5), .int (vik_4 2), .int (vik_4 0), .int (vik_4 1)])), ((a 2), .inr (7, [.int (vi 12), .int (vi 13), .ref (a 6), .ref (ex 0), .ref (ex 1), .ref (ex 2), .ref (a 3), .ref (ex 3), .ref (ex 4), .ref (ex 5), .ref (ex 6), .ref (a 7)])), ((a 3), .inl (T 2, 9, .inr (.inl (fl 0)))), ((a 4), .inl (T 2, 27, .inr (.inl (fl 1)))), ((a 5), .inl (T 0, 940, .inl (fi 0))), ((a 6), .inl (T 2, 9, .inr (.inl (fl 2)))), ((a 7), .inl (T 1, 81, .inl (fi 1)))]) [0, 5, 7, 2, 4, 6, 3, 1] (by decide +kernel) rfl
            rw [hQ]
            exact W.zret (v := 0) hx hb hr rfl (fun t ht hW => ⟨⟨0, 0, rfl, rfl, xf [(fi 1)], xh [], xv [(vik_4 2), (vik_4 3), (vik_4 4), (vik_4 5), (vik_4 6), (vik_4 7), (vik_4 0), (vik_4 1)], xl [(vlk_4 0)], by rw [ht]; exact hP9, hD9, ⟨(Or.inr ⟨rfl, by show True; first | trivial | omega | assumption⟩), gk_4_1, gk_4_2, gk_4_3, (by show (0 : Int32).toInt = 1 → (vik_4 0).toInt = (vi 10).toInt; have k9_0 : (0 : Int32).toInt = 0 := (by decide); exact fun h9 => absurd h9 (by decide)), (by unfold R_X8_readWorth; exact (fun Q9 k9_0 k9_1 k9_2 k9_3 k9_4 k9_5 k9_6 k9_7 k9_8 k9_9 k9_10 k9_11 => k9_2 hp5 hp6 fik flk vik vlk rk gk_0 gk_1 fik_1 flk_1 vik_1 vlk_1 rk_1 gk_1_5 tb gk_1_0 c42 fik_2 flk_2 vik_2 vlk_2 rk_2 gk_2_0 gk_2_1 fik_3 flk_3 vik_3 vlk_3 rk_3 gk_3_5 tb_1 gk_3_0 fik_4 flk_4 vik_4 vlk_4 rk_4 gk_4_5 tb_2 gk_4_0 fik_5 flk_5 vik_5 vlk_5 rk_5 tb_3 gk_5_0 rfl rfl rfl rfl rfl rfl rfl rfl rfl rfl rfl)), trivial⟩⟩, hS.F ht⟩) hS.2.2 dX8_readWorth_149
        · refine xz_i 0 er9 ?_
          have tb_2 : rk_4.toInt = 0 := by rw [er9]; decide
          refine lv_if_eq (tgt := 148) hx hb dX8_readWorth_123 (by decide) (fun _ => ?_) (fun c => absurd (by decide) c)
          refine lv_iconst (v := 0) hx hb dX8_readWorth_148 (by decide) ?_
          have hP9 := hP.sub (ws' := [((a 0), .inr (8, [.ref (a 1), .ref (a 2), .int (vi 0)])), ((a 1), .inr (6, [.ref (a 5), .ref (a 4), .int (vi 1), .int (vi 2), .int (vi 3), .int (vik_4 7), .int (vik_4 3), .int (vik_4 4), .long (vlk_4 0), .int (vik_4 6), .int (vik_4 5), .int (vik_4 2), .int (vik_4 0), .int (vik_4 1)])), ((a 2), .inr (7, [.int (vi 12), .int (vi 13), .ref (a 6), .ref (ex 0), .ref (ex 1), .ref (ex 2), .ref (a 3), .ref (ex 3), .ref (ex 4), .ref (ex 5), .ref (ex 6), .ref (a 7)])), ((a 3), .inl (T 2, 9, .inr (.inl (fl 0)))), ((a 4), .inl (T 2, 27, .inr (.inl (fl 1)))), ((a 5), .inl (T 0, 940, .inl (fi 0))), ((a 6), .inl (T 2, 9, .inr (.inl (fl 2)))), ((a 7), .inl (T 1, 81, .inl (fi 1)))]) [0, 6, 3, 2, 5, 7, 4, 1] rfl
          have hD9 := hD.sub (ws' := [((a 0), .inr (8, [.ref (a 1), .ref (a 2), .int (vi 0)])), ((a 1), .inr (6, [.ref (a 5), .ref (a 4), .int (vi 1), .int (vi 2), .int (vi 3), .int (vik_4 7), .int (vik_4 3), .int (vik_4 4), .long (vlk_4 0), .int (vik_4 6), .int (vik_4 5), .int (vik_4 2), .int (vik_4 0), .int (vik_4 1)])), ((a 2), .inr (7, [.int (vi 12), .int (vi 13), .ref (a 6), .ref (ex 0), .ref (ex 1), .ref (ex 2), .ref (a 3), .ref (ex 3), .ref (ex 4), .ref (ex 5), .ref (ex 6), .ref (a 7)])), ((a 3), .inl (T 2, 9, .inr (.inl (fl 0)))), ((a 4), .inl (T 2, 27, .inr (.inl (fl 1)))), ((a 5), .inl (T 0, 940, .inl (fi 0))), ((a 6), .inl (T 2, 9, .inr (.inl (fl 2)))), ((a 7), .inl (T 1, 81, .inl (fi 1)))]) [0, 6, 3, 2, 5, 7, 4, 1] (by decide +kernel) rfl
          rw [hQ]
          exact W.zret (v := 0) hx hb hr rfl (fun t ht hW => ⟨⟨0, 0, rfl, rfl, xf [(fi 1)], xh [], xv [(vik_4 2), (vik_4 3), (vik_4 4), (vik_4 5), (vik_4 6), (vik_4 7), (vik_4 0), (vik_4 1)], xl [(vlk_4 0)], by rw [ht]; exact hP9, hD9, ⟨(Or.inr ⟨rfl, by show True; first | trivial | omega | assumption⟩), gk_4_1, gk_4_2, gk_4_3, (by show (0 : Int32).toInt = 1 → (vik_4 0).toInt = (vi 10).toInt; have k9_0 : (0 : Int32).toInt = 0 := (by decide); exact fun h9 => absurd h9 (by decide)), (by unfold R_X8_readWorth; exact (fun Q9 k9_0 k9_1 k9_2 k9_3 k9_4 k9_5 k9_6 k9_7 k9_8 k9_9 k9_10 k9_11 => k9_3 hp5 hp6 fik flk vik vlk rk gk_0 gk_1 fik_1 flk_1 vik_1 vlk_1 rk_1 gk_1_5 tb gk_1_0 c42 fik_2 flk_2 vik_2 vlk_2 rk_2 gk_2_0 gk_2_1 fik_3 flk_3 vik_3 vlk_3 rk_3 gk_3_5 tb_1 gk_3_0 fik_4 flk_4 vik_4 vlk_4 rk_4 gk_4_5 tb_2 gk_4_0 rfl rfl rfl rfl rfl rfl rfl rfl rfl rfl rfl)), trivial⟩⟩, hS.F ht⟩) hS.2.2 dX8_readWorth_149
      · refine xz_i 0 er9 ?_
        have tb_1 : rk_3.toInt = 0 := by rw [er9]; decide
        refine lv_if_ne (tgt := 105) hx hb dX8_readWorth_100 (by decide) (fun c => absurd (by decide) c) (fun _ => ?_)
        refine lv_iconst (v := 0) hx hb dX8_readWorth_103 (by decide) ?_
        have hP9 := hP.sub (ws' := [((a 0), .inr (8, [.ref (a 1), .ref (a 2), .int (vi 0)])), ((a 1), .inr (6, [.ref (a 5), .ref (a 4), .int (vi 1), .int (vi 2), .int (vi 3), .int (vik_3 5), .int (vik_3 1), .int (vik_3 2), .long (vlk_3 0), .int (vik_3 4), .int (vik_3 3), .int (vik_3 0), .int (vik_3 6), .int (vik_3 7)])), ((a 2), .inr (7, [.int (vi 12), .int (vi 13), .ref (a 6), .ref (ex 0), .ref (ex 1), .ref (ex 2), .ref (a 3), .ref (ex 3), .ref (ex 4), .ref (ex 5), .ref (ex 6), .ref (a 7)])), ((a 3), .inl (T 2, 9, .inr (.inl (fl 0)))), ((a 4), .inl (T 2, 27, .inr (.inl (fl 1)))), ((a 5), .inl (T 0, 940, .inl (fi 0))), ((a 6), .inl (T 2, 9, .inr (.inl (fl 2)))), ((a 7), .inl (T 1, 81, .inl (fi 1)))]) [0, 5, 3, 2, 6, 7, 4, 1] rfl
        have hD9 := hD.sub (ws' := [((a 0), .inr (8, [.ref (a 1), .ref (a 2), .int (vi 0)])), ((a 1), .inr (6, [.ref (a 5), .ref (a 4), .int (vi 1), .int (vi 2), .int (vi 3), .int (vik_3 5), .int (vik_3 1), .int (vik_3 2), .long (vlk_3 0), .int (vik_3 4), .int (vik_3 3), .int (vik_3 0), .int (vik_3 6), .int (vik_3 7)])), ((a 2), .inr (7, [.int (vi 12), .int (vi 13), .ref (a 6), .ref (ex 0), .ref (ex 1), .ref (ex 2), .ref (a 3), .ref (ex 3), .ref (ex 4), .ref (ex 5), .ref (ex 6), .ref (a 7)])), ((a 3), .inl (T 2, 9, .inr (.inl (fl 0)))), ((a 4), .inl (T 2, 27, .inr (.inl (fl 1)))), ((a 5), .inl (T 0, 940, .inl (fi 0))), ((a 6), .inl (T 2, 9, .inr (.inl (fl 2)))), ((a 7), .inl (T 1, 81, .inl (fi 1)))]) [0, 5, 3, 2, 6, 7, 4, 1] (by decide +kernel) rfl
        rw [hQ]
        exact W.zret (v := 0) hx hb hr rfl (fun t ht hW => ⟨⟨0, 0, rfl, rfl, xf [(fi 1)], xh [], xv [(vik_3 0), (vik_3 1), (vik_3 2), (vik_3 3), (vik_3 4), (vik_3 5), (vik_3 6), (vik_3 7)], xl [(vlk_3 0)], by rw [ht]; exact hP9, hD9, ⟨(Or.inr ⟨rfl, by show True; first | trivial | omega | assumption⟩), gk_3_1, gk_3_2, gk_3_3, (by show (0 : Int32).toInt = 1 → (vik_3 6).toInt = (vi 10).toInt; have k9_0 : (0 : Int32).toInt = 0 := (by decide); exact fun h9 => absurd h9 (by decide)), (by unfold R_X8_readWorth; exact (fun Q9 k9_0 k9_1 k9_2 k9_3 k9_4 k9_5 k9_6 k9_7 k9_8 k9_9 k9_10 k9_11 => k9_4 hp5 hp6 fik flk vik vlk rk gk_0 gk_1 fik_1 flk_1 vik_1 vlk_1 rk_1 gk_1_5 tb gk_1_0 c42 fik_2 flk_2 vik_2 vlk_2 rk_2 gk_2_0 gk_2_1 fik_3 flk_3 vik_3 vlk_3 rk_3 gk_3_5 tb_1 gk_3_0 rfl rfl rfl rfl rfl rfl rfl rfl rfl rfl rfl)), trivial⟩⟩, hS.F ht⟩) hS.2.2 dX8_readWorth_104
    · have c42 := xeq (k := 1) (by decide) c42
      refine lv_aload_n hx hb dX8_readWorth_45 rfl (lv_at hl 1 rfl) ?_
      refine va_get (D := D) (ci := 8) (v := .ref (a 2)) (C := RX8) (T := TX8) (N := 3) hx hb htg inX8 hown hK.1 hP 0 rfl rfl 1 (by decide) (htg _ kw_229) (fun _ h9 => h9) rfl dX8_readWorth_46 ?_
      refine lv_iload_n hx hb dX8_readWorth_49 rfl (lv_at hl 0 rfl) ?_
      refine lv_aload_n hx hb dX8_readWorth_50 rfl (lv_at hl 1 rfl) ?_
      refine va_get (D := D) (ci := 8) (v := .ref (a 2)) (C := RX8) (T := TX8) (N := 3) hx hb htg inX8 hown hK.1 hP 0 rfl rfl 1 (by decide) (htg _ kw_229) (fun _ h9 => h9) rfl dX8_readWorth_51 ?_
      refine lv_aload_n hx hb dX8_readWorth_54 rfl (lv_at hl 1 rfl) ?_
      refine va_get (D := D) (ci := 8) (v := .ref (a 1)) (C := RX8) (T := TX8) (N := 3) hx hb htg inX8 hown hK.1 hP 0 rfl rfl 0 (by decide) (htg _ kw_228) (fun _ h9 => h9) rfl dX8_readWorth_55 ?_
      refine va_getN (D := D) (ci := 6) (v := .long (vlk_1 0)) (C := RX6) (T := TX6) (N := 14) hx hb htg inX6 hown hK.1 hP 5 rfl rfl 8 (by decide) (va_Nw.use rfl (hK.2.1 _ kn_107)) (fun _ h9 => h9) rfl dX8_readWorth_58 ?_
      obtain ⟨hC9, hPc, hDc, hFc⟩ := xcut (wc := (pre_X7_findName T (xa [(a 2), (a 6)]) (xa [(ex 0), (ex 1), (ex 2), (a 3), (ex 3), (ex 4), (ex 5), (ex 6), (a 7)]) (xf []) (xh [(fl 2)]) (xv [(vi 12), (vi 13)]) (xl [(vlk_1 0)]))) hP hD hS hA [3, 1] (by decide) rfl
      refine va_calli (va_runVN (As := [.long (vlk_1 0)]) (rest := [.int (vik_1 0), .ref (a 2)]) ⟨hx, hb, hml, hown, htg⟩ (c_X7_findName l D T (xa [(a 2), (a 6)]) (xa [(ex 0), (ex 1), (ex 2), (a 3), (ex 3), (ex 4), (ex 5), (ex 6), (a 7)]) (xf []) (xh [(fl 2)]) (xv [(vi 12), (vi 13)]) (xl [(vlk_1 0)]) H.size hp5 hp6) ⟨va_cnB 1 htg (xg_ok kw_607) rfl rfl rfl (hK.2.1 _ kn_604) (htg _ kw_7) (by decide +kernel) ⟨by rw [hR]; exact Nat.le_of_ble_eq_true rfl, by rw [hR]; exact Nat.le_of_ble_eq_true rfl⟩, htg _ kw_606, htg _ ks_13⟩ (xpreV hK hPc hDc (va_recv hK.1 hPc (ci := 7) (q0 := 0) rfl rfl)) rfl rfl hl.1 rfl (lv_room (Nat.le_of_ble_eq_true rfl)) dX8_readWorth_61 ⟨by rw [hR]; exact Nat.le_of_ble_eq_true rfl, by rw [hR]; exact Nat.le_of_ble_eq_true rfl⟩) hS (fun q _ h => hFc q h) hFc (fun r9 u9 t H1 locs ht hvm hw hB hz1 hk1 hS => ?_)
      subst hw
      obtain ⟨fik_7, flk_7, vik_7, vlk_7, hP1, hD1, hG⟩ := hB
      rw [ht] at hP1
      obtain ⟨hP, hD⟩ := va_join (wr := [((a 0), .inr (8, [.ref (a 1), .ref (a 2), .int (vi 0)])), ((a 7), .inl (T 1, 81, .inl (fi 1))), ((a 3), .inl (T 2, 9, .inr (.inl (fl 0)))), ((a 1), .inr (6, [.ref (a 5), .ref (a 4), .int (vi 1), .int (vi 2), .int (vi 3), .int (vik_1 5), .int (vik_1 1), .int (vik_1 2), .long (vlk_1 0), .int (vik_1 4), .int (vik_1 3), .int (vik_1 0), .int (vik_1 6), .int (vik_1 7)])), ((a 4), .inl (T 2, 27, .inr (.inl (fl 1)))), ((a 5), .inl (T 0, 940, .inl (fi 0)))]) (w1 := [((a 2), .inr (7, [.int (vi 12), .int (vi 13), .ref (a 6), .ref (ex 0), .ref (ex 1), .ref (ex 2), .ref (a 3), .ref (ex 3), .ref (ex 4), .ref (ex 5), .ref (ex 6), .ref (a 7)])), ((a 6), .inl (T 2, 9, .inr (.inl (fl 2))))]) hP hD [3, 1] [0, 2, 4, 5, 6, 7] hC9 rfl (by decide) (by decide) hk1 hFc hP1 hD1
      obtain ⟨rk_7, er9⟩ : ∃ z, z = r9 := ⟨_, rfl⟩
      subst er9
      clear hPc hDc hFc hP1 hD1 hk1 hz1 hvm ht hC9
      generalize H1 = H at hP hS ⊢
      obtain ⟨hP, hD⟩ := (show xPD D A [((a 0), .inr (8, [.ref (a 1), .ref (a 2), .int (vi 0)])), ((a 7), .inl (T 1, 81, .inl (fi 1))), ((a 3), .inl (T 2, 9, .inr (.inl (fl 0)))), ((a 1), .inr (6, [.ref (a 5), .ref (a 4), .int (vi 1), .int (vi 2), .int (vi 3), .int (vik_1 5), .int (vik_1 1), .int (vik_1 2), .long (vlk_1 0), .int (vik_1 4), .int (vik_1 3), .int (vik_1 0), .int (vik_1 6), .int (vik_1 7)])), ((a 4), .inl (T 2, 27, .inr (.inl (fl 1)))), ((a 5), .inl (T 0, 940, .inl (fi 0))), ((a 2), .inr (7, [.int (vi 12), .int (vi 13), .ref (a 6), .ref (ex 0), .ref (ex 1), .ref (ex 2), .ref (a 3), .ref (ex 3), .ref (ex 4), .ref (ex 5), .ref (ex 6), .ref (a 7)])), ((a 6), .inl (T 2, 9, .inr (.inl (fl 2))))] H from ⟨hP, hD⟩)
      obtain ⟨gk_7_0, gk_7_1, -⟩ := hG
      replace gk_7_1 : rk_7.toInt = fdx (fl 2) 0 (vlk_1 0) ((vi 12).toInt).toNat := (P_X7_findName gk_7_1 : _)
      replace gk_7_0 : -1 ≤ rk_7.toInt ∧ rk_7.toInt ≤ 8 := gk_7_0
      obtain ⟨hC9, hPc, hDc, hFc⟩ := xcut (wc := (pre_X7_worthOf T (xa [(a 2), (a 7)]) (xa [(a 6), (ex 0), (ex 1), (ex 2), (a 3), (ex 3), (ex 4), (ex 5), (ex 6)]) (xf [(fi 1)]) (xh []) (xv [(vik_1 0), rk_7, (vi 12), (vi 13)]) (xl []))) hP hD hS hA [6, 1] (by decide) rfl
      refine va_calli (va_runVN (As := [.int (vik_1 0), .int rk_7]) (rest := []) ⟨hx, hb, hml, hown, htg⟩ (c_X7_worthOf l D T (xa [(a 2), (a 7)]) (xa [(a 6), (ex 0), (ex 1), (ex 2), (a 3), (ex 3), (ex 4), (ex 5), (ex 6)]) (xf [(fi 1)]) (xh []) (xv [(vik_1 0), rk_7, (vi 12), (vi 13)]) (xl []) H.size hp5 hp6) ⟨va_cnB 2 htg (xg_ok kw_678) rfl rfl rfl (hK.2.1 _ kn_675) (htg _ kw_7) (by decide +kernel) ⟨by rw [hR]; exact Nat.le_of_ble_eq_true rfl, by rw [hR]; exact Nat.le_of_ble_eq_true rfl⟩, htg _ kw_677, htg _ ks_28⟩ (xpreV hK hPc hDc (va_recv hK.1 hPc (ci := 7) (q0 := 0) rfl rfl)) rfl rfl hl.1 rfl (lv_room (Nat.le_of_ble_eq_true rfl)) dX8_readWorth_64 ⟨by rw [hR]; exact Nat.le_of_ble_eq_true rfl, by rw [hR]; exact Nat.le_of_ble_eq_true rfl⟩) hS (fun q _ h => hFc q h) hFc (fun r9 u9 t H1 locs ht hvm hw hB hz1 hk1 hS => ?_)
      subst hw
      obtain ⟨fik_8, flk_8, vik_8, vlk_8, hP1, hD1, hG⟩ := hB
      rw [ht] at hP1
      obtain ⟨hP, hD⟩ := va_join (wr := [((a 0), .inr (8, [.ref (a 1), .ref (a 2), .int (vi 0)])), ((a 3), .inl (T 2, 9, .inr (.inl (fl 0)))), ((a 1), .inr (6, [.ref (a 5), .ref (a 4), .int (vi 1), .int (vi 2), .int (vi 3), .int (vik_1 5), .int (vik_1 1), .int (vik_1 2), .long (vlk_1 0), .int (vik_1 4), .int (vik_1 3), .int (vik_1 0), .int (vik_1 6), .int (vik_1 7)])), ((a 4), .inl (T 2, 27, .inr (.inl (fl 1)))), ((a 5), .inl (T 0, 940, .inl (fi 0))), ((a 6), .inl (T 2, 9, .inr (.inl (fl 2))))]) (w1 := [((a 2), .inr (7, [.int (vi 12), .int (vi 13), .ref (a 6), .ref (ex 0), .ref (ex 1), .ref (ex 2), .ref (a 3), .ref (ex 3), .ref (ex 4), .ref (ex 5), .ref (ex 6), .ref (a 7)])), ((a 7), .inl (T 1, 81, .inl (fi 1)))]) hP hD [6, 1] [0, 2, 3, 4, 5, 7] hC9 rfl (by decide) (by decide) hk1 hFc hP1 hD1
      obtain ⟨rk_8, er9⟩ : ∃ z, z = r9 := ⟨_, rfl⟩
      subst er9
      clear hPc hDc hFc hP1 hD1 hk1 hz1 hvm ht hC9
      generalize H1 = H at hP hS ⊢
      obtain ⟨hP, hD⟩ := (show xPD D A [((a 0), .inr (8, [.ref (a 1), .ref (a 2), .int (vi 0)])), ((a 3), .inl (T 2, 9, .inr (.inl (fl 0)))), ((a 1), .inr (6, [.ref (a 5), .ref (a 4), .int (vi 1), .int (vi 2), .int (vi 3), .int (vik_1 5), .int (vik_1 1), .int (vik_1 2), .long (vlk_1 0), .int (vik_1 4), .int (vik_1 3), .int (vik_1 0), .int (vik_1 6), .int (vik_1 7)])), ((a 4), .inl (T 2, 27, .inr (.inl (fl 1)))), ((a 5), .inl (T 0, 940, .inl (fi 0))), ((a 6), .inl (T 2, 9, .inr (.inl (fl 2)))), ((a 2), .inr (7, [.int (vi 12), .int (vi 13), .ref (a 6), .ref (ex 0), .ref (ex 1), .ref (ex 2), .ref (a 3), .ref (ex 3), .ref (ex 4), .ref (ex 5), .ref (ex 6), .ref (a 7)])), ((a 7), .inl (T 1, 81, .inl (fi 1)))] H from ⟨hP, hD⟩)
      obtain ⟨gk_8_0, -⟩ := hG
      replace gk_8_0 : DJ (0 ≤ (vik_1 0).toInt ∧ (vik_1 0).toInt < (vi 13).toInt ∧ 0 ≤ rk_7.toInt ∧ rk_7.toInt < (vi 12).toInt ∧ rk_8 = (fi 1) (9 * ((vik_1 0).toInt).toNat + (rk_7.toInt).toNat)) (¬ (0 ≤ (vik_1 0).toInt ∧ (vik_1 0).toInt < (vi 13).toInt ∧ 0 ≤ rk_7.toInt ∧ rk_7.toInt < (vi 12).toInt) ∧ rk_8.toInt = 0) := (P_X7_worthOf gk_8_0 : _)
      refine lv_if_eq (tgt := 79) hx hb dX8_readWorth_67 (by decide) (fun c67 => ?_) (fun c67 => ?_)
      · have c67 := xeq (k := 0) (by decide) c67
        refine lv_aload_n hx hb dX8_readWorth_79 rfl (lv_at hl 1 rfl) ?_
        refine va_get (D := D) (ci := 8) (v := .ref (a 1)) (C := RX8) (T := TX8) (N := 3) hx hb htg inX8 hown hK.1 hP 0 rfl rfl 0 (by decide) (htg _ kw_228) (fun _ h9 => h9) rfl dX8_readWorth_80 ?_
        refine lv_aload_n hx hb dX8_readWorth_83 rfl (lv_at hl 1 rfl) ?_
        refine va_get (D := D) (ci := 8) (v := .ref (a 2)) (C := RX8) (T := TX8) (N := 3) hx hb htg inX8 hown hK.1 hP 0 rfl rfl 1 (by decide) (htg _ kw_229) (fun _ h9 => h9) rfl dX8_readWorth_84 ?_
        refine lv_aload_n hx hb dX8_readWorth_87 rfl (lv_at hl 1 rfl) ?_
        refine va_get (D := D) (ci := 8) (v := .ref (a 1)) (C := RX8) (T := TX8) (N := 3) hx hb htg inX8 hown hK.1 hP 0 rfl rfl 0 (by decide) (htg _ kw_228) (fun _ h9 => h9) rfl dX8_readWorth_88 ?_
        refine va_getN (D := D) (ci := 6) (v := .long (vlk_1 0)) (C := RX6) (T := TX6) (N := 14) hx hb htg inX6 hown hK.1 hP 2 rfl rfl 8 (by decide) (va_Nw.use rfl (hK.2.1 _ kn_107)) (fun _ h9 => h9) rfl dX8_readWorth_91 ?_
        obtain ⟨hC9, hPc, hDc, hFc⟩ := xcut (wc := (pre_X7_findName T (xa [(a 2), (a 6)]) (xa [(ex 0), (ex 1), (ex 2), (a 3), (ex 3), (ex 4), (ex 5), (ex 6), (a 7)]) (xf []) (xh [(fl 2)]) (xv [(vi 12), (vi 13)]) (xl [(vlk_1 0)]))) hP hD hS hA [6, 5] (by decide) rfl
        refine va_calli (va_runVN (As := [.long (vlk_1 0)]) (rest := [.ref (a 1)]) ⟨hx, hb, hml, hown, htg⟩ (c_X7_findName l D T (xa [(a 2), (a 6)]) (xa [(ex 0), (ex 1), (ex 2), (a 3), (ex 3), (ex 4), (ex 5), (ex 6), (a 7)]) (xf []) (xh [(fl 2)]) (xv [(vi 12), (vi 13)]) (xl [(vlk_1 0)]) H.size hp5 hp6) ⟨va_cnB 1 htg (xg_ok kw_607) rfl rfl rfl (hK.2.1 _ kn_604) (htg _ kw_7) (by decide +kernel) ⟨by rw [hR]; exact Nat.le_of_ble_eq_true rfl, by rw [hR]; exact Nat.le_of_ble_eq_true rfl⟩, htg _ kw_606, htg _ ks_13⟩ (xpreV hK hPc hDc (va_recv hK.1 hPc (ci := 7) (q0 := 0) rfl rfl)) rfl rfl hl.1 rfl (lv_room (Nat.le_of_ble_eq_true rfl)) dX8_readWorth_94 ⟨by rw [hR]; exact Nat.le_of_ble_eq_true rfl, by rw [hR]; exact Nat.le_of_ble_eq_true rfl⟩) hS (fun q _ h => hFc q h) hFc (fun r9 u9 t H1 locs ht hvm hw hB hz1 hk1 hS => ?_)
        subst hw
        obtain ⟨fik_9, flk_9, vik_9, vlk_9, hP1, hD1, hG⟩ := hB
        rw [ht] at hP1
        obtain ⟨hP, hD⟩ := va_join (wr := [((a 0), .inr (8, [.ref (a 1), .ref (a 2), .int (vi 0)])), ((a 3), .inl (T 2, 9, .inr (.inl (fl 0)))), ((a 1), .inr (6, [.ref (a 5), .ref (a 4), .int (vi 1), .int (vi 2), .int (vi 3), .int (vik_1 5), .int (vik_1 1), .int (vik_1 2), .long (vlk_1 0), .int (vik_1 4), .int (vik_1 3), .int (vik_1 0), .int (vik_1 6), .int (vik_1 7)])), ((a 4), .inl (T 2, 27, .inr (.inl (fl 1)))), ((a 5), .inl (T 0, 940, .inl (fi 0))), ((a 7), .inl (T 1, 81, .inl (fi 1)))]) (w1 := [((a 2), .inr (7, [.int (vi 12), .int (vi 13), .ref (a 6), .ref (ex 0), .ref (ex 1), .ref (ex 2), .ref (a 3), .ref (ex 3), .ref (ex 4), .ref (ex 5), .ref (ex 6), .ref (a 7)])), ((a 6), .inl (T 2, 9, .inr (.inl (fl 2))))]) hP hD [6, 5] [0, 1, 2, 3, 4, 7] hC9 rfl (by decide) (by decide) hk1 hFc hP1 hD1
        obtain ⟨rk_9, er9⟩ : ∃ z, z = r9 := ⟨_, rfl⟩
        subst er9
        clear hPc hDc hFc hP1 hD1 hk1 hz1 hvm ht hC9
        generalize H1 = H at hP hS ⊢
        obtain ⟨hP, hD⟩ := (show xPD D A [((a 0), .inr (8, [.ref (a 1), .ref (a 2), .int (vi 0)])), ((a 3), .inl (T 2, 9, .inr (.inl (fl 0)))), ((a 1), .inr (6, [.ref (a 5), .ref (a 4), .int (vi 1), .int (vi 2), .int (vi 3), .int (vik_1 5), .int (vik_1 1), .int (vik_1 2), .long (vlk_1 0), .int (vik_1 4), .int (vik_1 3), .int (vik_1 0), .int (vik_1 6), .int (vik_1 7)])), ((a 4), .inl (T 2, 27, .inr (.inl (fl 1)))), ((a 5), .inl (T 0, 940, .inl (fi 0))), ((a 7), .inl (T 1, 81, .inl (fi 1))), ((a 2), .inr (7, [.int (vi 12), .int (vi 13), .ref (a 6), .ref (ex 0), .ref (ex 1), .ref (ex 2), .ref (a 3), .ref (ex 3), .ref (ex 4), .ref (ex 5), .ref (ex 6), .ref (a 7)])), ((a 6), .inl (T 2, 9, .inr (.inl (fl 2))))] H from ⟨hP, hD⟩)
        obtain ⟨gk_9_0, gk_9_1, -⟩ := hG
        replace gk_9_1 : rk_9.toInt = fdx (fl 2) 0 (vlk_1 0) ((vi 12).toInt).toNat := (P_X7_findName gk_9_1 : _)
        replace gk_9_0 : -1 ≤ rk_9.toInt ∧ rk_9.toInt ≤ 8 := gk_9_0
        obtain ⟨hC9, hPc, hDc, hFc⟩ := xcut (wc := (pre_X6_passKnown T (xa [(a 1), (a 4), (a 5)]) (xa []) (xf [(fi 0)]) (xh [(fl 1)]) (xv [rk_9, (vi 1), (vi 2), (vi 3), (vik_1 5), (vik_1 1), (vik_1 2), (vik_1 4), (vik_1 3), (vik_1 0), (vik_1 6), (vik_1 7)]) (xl [(vlk_1 0)]))) hP hD hS hA [2, 3, 4] (by decide) rfl
        refine va_calli (va_runVN (As := [.int rk_9]) (rest := []) ⟨hx, hb, hml, hown, htg⟩ (c_X6_passKnown l D T (xa [(a 1), (a 4), (a 5)]) (xa []) (xf [(fi 0)]) (xh [(fl 1)]) (xv [rk_9, (vi 1), (vi 2), (vi 3), (vik_1 5), (vik_1 1), (vik_1 2), (vik_1 4), (vik_1 3), (vik_1 0), (vik_1 6), (vik_1 7)]) (xl [(vlk_1 0)]) H.size hp0 hp1 gk_1_1 gk_1_2 gk_1_3) ⟨va_cnB 1 htg (xg_ok kw_640) rfl rfl rfl (hK.2.1 _ kn_637) (htg _ kw_2) (by decide +kernel) ⟨by rw [hR]; exact Nat.le_of_ble_eq_true rfl, by rw [hR]; exact Nat.le_of_ble_eq_true rfl⟩, htg _ kw_639, htg _ ks_20⟩ (xpreV hK hPc hDc (va_recv hK.1 hPc (ci := 6) (q0 := 0) rfl rfl)) rfl rfl hl.1 rfl (lv_room (Nat.le_of_ble_eq_true rfl)) dX8_readWorth_97 ⟨by rw [hR]; exact Nat.le_of_ble_eq_true rfl, by rw [hR]; exact Nat.le_of_ble_eq_true rfl⟩) hS (fun q _ h => hFc q h) hFc (fun r9 u9 t H1 locs ht hvm hw hB hz1 hk1 hS => ?_)
        subst hw
        obtain ⟨fik_10, flk_10, vik_10, vlk_10, hP1, hD1, hG⟩ := hB
        rw [ht] at hP1
        obtain ⟨hP, hD⟩ := va_join (wr := [((a 0), .inr (8, [.ref (a 1), .ref (a 2), .int (vi 0)])), ((a 3), .inl (T 2, 9, .inr (.inl (fl 0)))), ((a 7), .inl (T 1, 81, .inl (fi 1))), ((a 2), .inr (7, [.int (vi 12), .int (vi 13), .ref (a 6), .ref (ex 0), .ref (ex 1), .ref (ex 2), .ref (a 3), .ref (ex 3), .ref (ex 4), .ref (ex 5), .ref (ex 6), .ref (a 7)])), ((a 6), .inl (T 2, 9, .inr (.inl (fl 2))))]) (w1 := [((a 1), .inr (6, [.ref (a 5), .ref (a 4), .int (vi 1), .int (vi 2), .int (vi 3), .int (vik_10 5), .int (vik_10 1), .int (vik_10 2), .long (vlk_10 0), .int (vik_10 4), .int (vik_10 3), .int (vik_10 0), .int (vik_10 6), .int (vik_10 7)])), ((a 4), .inl (T 2, 27, .inr (.inl (fl 1)))), ((a 5), .inl (T 0, 940, .inl (fi 0)))]) hP hD [2, 3, 4] [0, 1, 5, 6, 7] hC9 rfl (by decide) (by decide) hk1 hFc hP1 hD1
        obtain ⟨rk_10, er9⟩ : ∃ z, z = r9 := ⟨_, rfl⟩
        subst er9
        clear hPc hDc hFc hP1 hD1 hk1 hz1 hvm ht hC9
        generalize H1 = H at hP hS ⊢
        obtain ⟨hP, hD⟩ := (show xPD D A [((a 0), .inr (8, [.ref (a 1), .ref (a 2), .int (vi 0)])), ((a 3), .inl (T 2, 9, .inr (.inl (fl 0)))), ((a 7), .inl (T 1, 81, .inl (fi 1))), ((a 2), .inr (7, [.int (vi 12), .int (vi 13), .ref (a 6), .ref (ex 0), .ref (ex 1), .ref (ex 2), .ref (a 3), .ref (ex 3), .ref (ex 4), .ref (ex 5), .ref (ex 6), .ref (a 7)])), ((a 6), .inl (T 2, 9, .inr (.inl (fl 2)))), ((a 1), .inr (6, [.ref (a 5), .ref (a 4), .int (vi 1), .int (vi 2), .int (vi 3), .int (vik_10 5), .int (vik_10 1), .int (vik_10 2), .long (vlk_10 0), .int (vik_10 4), .int (vik_10 3), .int (vik_10 0), .int (vik_10 6), .int (vik_10 7)])), ((a 4), .inl (T 2, 27, .inr (.inl (fl 1)))), ((a 5), .inl (T 0, 940, .inl (fi 0)))] H from ⟨hP, hD⟩)
        obtain ⟨gk_10_0, gk_10_1, gk_10_2, gk_10_3, gk_10_4, gk_10_5, -⟩ := hG
        replace gk_10_5 : ∀ n m t : Nat, CC (trn (fi 0) n) n m t (vi 2) (vi 3) (vik_1 1) (vik_1 2) (vik_1 5) (vlk_1 0) (vik_1 4) (vik_1 3) → (rk_10.toInt = 1 ∧ (wMay (trn (fi 0) n) n m (ownB (fl 1)) t) ∧ ¬ rk_9.toInt = -1 ∧ (vik_10 0).toInt = rk_9.toInt ∧ CC (trn (fi 0) n) n m (sX (trn (fi 0) n) n m t) (vi 2) (vi 3) (vik_10 1) (vik_10 2) (vik_10 5) (vlk_10 0) (vik_10 4) (vik_10 3)) ∨ (rk_10.toInt = 0 ∧ ¬ (wMay (trn (fi 0) n) n m (ownB (fl 1)) t) ∧ (vik_10 6).toInt = 1 ∧ (vik_10 7).toInt = ((sPn (trn (fi 0) n) n m t) : Int)) ∨ (rk_10.toInt = 0 ∧ (wMay (trn (fi 0) n) n m (ownB (fl 1)) t) ∧ rk_9.toInt = -1 ∧ (vik_10 6).toInt = 3 ∧ (vik_10 7).toInt = ((sPn (trn (fi 0) n) n m t) : Int)) := (P_X6_passKnown gk_10_5 : _)
        replace gk_10_1 : 0 ≤ (vik_10 5).toInt ∧ (vik_10 5).toInt ≤ 940 := gk_10_1
        replace gk_10_2 : 0 ≤ (vik_10 2).toInt ∧ (vik_10 2).toInt ≤ 940 := gk_10_2
        replace gk_10_3 : 0 ≤ (vik_10 7).toInt ∧ (vik_10 7).toInt ≤ 940 := gk_10_3
        replace gk_10_4 : rk_10.toInt = 1 → (vik_10 6).toInt = (vik_1 6).toInt := gk_10_4
        rcases (show (rk_10 = 1 ∧ ((vik_10 0).toInt = rk_9.toInt ∧ ¬ rk_9.toInt = -1 ∧ (vik_1 1).toInt = 1)) ∨ (rk_10 = 0 ∧ (True)) from gk_10_0) with ⟨er9, gk_10_0⟩ | ⟨er9, gk_10_0⟩
        · refine xz_i 1 er9 ?_
          have tb_5 : rk_10.toInt = 1 := by rw [er9]; decide
          refine lv_if_ne (tgt := 105) hx hb dX8_readWorth_100 (by decide) (fun _ => ?_) (fun c => absurd c (by decide))
          refine lv_aload_n hx hb dX8_readWorth_105 rfl (lv_at hl 1 rfl) ?_
          refine va_get (D := D) (ci := 8) (v := .ref (a 1)) (C := RX8) (T := TX8) (N := 3) hx hb htg inX8 hown hK.1 hP 0 rfl rfl 0 (by decide) (htg _ kw_228) (fun _ h9 => h9) rfl dX8_readWorth_106 ?_
          refine va_getN (D := D) (ci := 6) (v := .int (vik_10 0)) (C := RX6) (T := TX6) (N := 14) hx hb htg inX6 hown hK.1 hP 5 rfl rfl 11 (by decide) (va_Nw.use rfl (hK.2.1 _ kn_114)) (fun _ h9 => h9) rfl dX8_readWorth_109 ?_
          refine lv_istore_n (lv' := [(2, .int (vik_10 0)), (1, .int (vik_1 0)), (0, .ref (a 0))]) hx hb dX8_readWorth_112 rfl hl (by decide) rfl (fun ls hl => ?_)
          refine lv_aload_n hx hb dX8_readWorth_113 rfl (lv_at hl 2 rfl) ?_
          refine va_get (D := D) (ci := 8) (v := .ref (a 1)) (C := RX8) (T := TX8) (N := 3) hx hb htg inX8 hown hK.1 hP 0 rfl rfl 0 (by decide) (htg _ kw_228) (fun _ h9 => h9) rfl dX8_readWorth_114 ?_
          refine lv_iconst (v := 1) hx hb dX8_readWorth_117 (by decide) ?_
          refine lv_bipush (v := 99) hx hb dX8_readWorth_118 (by decide) ?_
          obtain ⟨hC9, hPc, hDc, hFc⟩ := xcut (wc := (pre_X6_passNumber T (xa [(a 1), (a 5)]) (xa [(a 4)]) (xf [(fi 0)]) (xh []) (xv [1, 99, (vi 1), (vi 2), (vi 3), (vik_10 5), (vik_10 1), (vik_10 2), (vik_10 4), (vik_10 3), (vik_10 0), (vik_10 6), (vik_10 7)]) (xl [(vlk_10 0)]))) hP hD hS hA [5, 7] (by decide) rfl
          refine va_calli (va_runVN (As := [.int 1, .int 99]) (rest := []) ⟨hx, hb, hml, hown, htg⟩ (c_X6_passNumber l D T (xa [(a 1), (a 5)]) (xa [(a 4)]) (xf [(fi 0)]) (xh []) (xv [1, 99, (vi 1), (vi 2), (vi 3), (vik_10 5), (vik_10 1), (vik_10 2), (vik_10 4), (vik_10 3), (vik_10 0), (vik_10 6), (vik_10 7)]) (xl [(vlk_10 0)]) H.size hp0 hp1 gk_10_1 gk_10_2 gk_10_3) ⟨va_cnB 2 htg (xg_ok kw_622) rfl rfl rfl (hK.2.1 _ kn_619) (htg _ kw_2) (by decide +kernel) ⟨by rw [hR]; exact Nat.le_of_ble_eq_true rfl, by rw [hR]; exact Nat.le_of_ble_eq_true rfl⟩, htg _ kw_621, htg _ ks_16⟩ (xpreV hK hPc hDc (va_recv hK.1 hPc (ci := 6) (q0 := 0) rfl rfl)) rfl rfl hl.1 rfl (lv_room (Nat.le_of_ble_eq_true rfl)) dX8_readWorth_120 ⟨by rw [hR]; exact Nat.le_of_ble_eq_true rfl, by rw [hR]; exact Nat.le_of_ble_eq_true rfl⟩) hS (fun q _ h => hFc q h) hFc (fun r9 u9 t H1 locs ht hvm hw hB hz1 hk1 hS => ?_)
          subst hw
          obtain ⟨fik_11, flk_11, vik_11, vlk_11, hP1, hD1, hG⟩ := hB
          rw [ht] at hP1
          obtain ⟨hP, hD⟩ := va_join (wr := [((a 0), .inr (8, [.ref (a 1), .ref (a 2), .int (vi 0)])), ((a 3), .inl (T 2, 9, .inr (.inl (fl 0)))), ((a 7), .inl (T 1, 81, .inl (fi 1))), ((a 2), .inr (7, [.int (vi 12), .int (vi 13), .ref (a 6), .ref (ex 0), .ref (ex 1), .ref (ex 2), .ref (a 3), .ref (ex 3), .ref (ex 4), .ref (ex 5), .ref (ex 6), .ref (a 7)])), ((a 6), .inl (T 2, 9, .inr (.inl (fl 2)))), ((a 4), .inl (T 2, 27, .inr (.inl (fl 1))))]) (w1 := [((a 1), .inr (6, [.ref (a 5), .ref (a 4), .int (vi 1), .int (vi 2), .int (vi 3), .int (vik_11 7), .int (vik_11 3), .int (vik_11 4), .long (vlk_11 0), .int (vik_11 6), .int (vik_11 5), .int (vik_11 2), .int (vik_11 0), .int (vik_11 1)])), ((a 5), .inl (T 0, 940, .inl (fi 0)))]) hP hD [5, 7] [0, 1, 2, 3, 4, 6] hC9 rfl (by decide) (by decide) hk1 hFc hP1 hD1
          obtain ⟨rk_11, er9⟩ : ∃ z, z = r9 := ⟨_, rfl⟩
          subst er9
          clear hPc hDc hFc hP1 hD1 hk1 hz1 hvm ht hC9
          generalize H1 = H at hP hS ⊢
          obtain ⟨hP, hD⟩ := (show xPD D A [((a 0), .inr (8, [.ref (a 1), .ref (a 2), .int (vi 0)])), ((a 3), .inl (T 2, 9, .inr (.inl (fl 0)))), ((a 7), .inl (T 1, 81, .inl (fi 1))), ((a 2), .inr (7, [.int (vi 12), .int (vi 13), .ref (a 6), .ref (ex 0), .ref (ex 1), .ref (ex 2), .ref (a 3), .ref (ex 3), .ref (ex 4), .ref (ex 5), .ref (ex 6), .ref (a 7)])), ((a 6), .inl (T 2, 9, .inr (.inl (fl 2)))), ((a 4), .inl (T 2, 27, .inr (.inl (fl 1)))), ((a 1), .inr (6, [.ref (a 5), .ref (a 4), .int (vi 1), .int (vi 2), .int (vi 3), .int (vik_11 7), .int (vik_11 3), .int (vik_11 4), .long (vlk_11 0), .int (vik_11 6), .int (vik_11 5), .int (vik_11 2), .int (vik_11 0), .int (vik_11 1)])), ((a 5), .inl (T 0, 940, .inl (fi 0)))] H from ⟨hP, hD⟩)
          obtain ⟨gk_11_0, gk_11_1, gk_11_2, gk_11_3, gk_11_4, gk_11_5, -⟩ := hG
          replace gk_11_5 : ∀ n m t : Nat, CC (trn (fi 0) n) n m t (vi 2) (vi 3) (vik_10 1) (vik_10 2) (vik_10 5) (vlk_10 0) (vik_10 4) (vik_10 3) → (rk_11.toInt = 1 ∧ (fNum (trn (fi 0) n) n m (1 : Int32).toInt (99 : Int32).toInt t) = 0 ∧ (vik_11 2).toInt = (sU (trn (fi 0) n) n m t) ∧ (sK (trn (fi 0) n) n m t) = 2 ∧ (1 : Int32).toInt ≤ (sU (trn (fi 0) n) n m t) ∧ (sU (trn (fi 0) n) n m t) ≤ (99 : Int32).toInt ∧ CC (trn (fi 0) n) n m (sX (trn (fi 0) n) n m t) (vi 2) (vi 3) (vik_11 3) (vik_11 4) (vik_11 7) (vlk_11 0) (vik_11 6) (vik_11 5)) ∨ (rk_11.toInt = 0 ∧ ¬ (fNum (trn (fi 0) n) n m (1 : Int32).toInt (99 : Int32).toInt t) = 0 ∧ (vik_11 0).toInt = (fNum (trn (fi 0) n) n m (1 : Int32).toInt (99 : Int32).toInt t) ∧ (vik_11 1).toInt = ((sPn (trn (fi 0) n) n m t) : Int)) := (P_X6_passNumber gk_11_5 : _)
          rw [show (1 : Int32).toInt = (1 : Int) by decide] at gk_11_5
          rw [show (99 : Int32).toInt = (99 : Int) by decide] at gk_11_5
          replace gk_11_1 : 0 ≤ (vik_11 7).toInt ∧ (vik_11 7).toInt ≤ 940 := gk_11_1
          replace gk_11_2 : 0 ≤ (vik_11 4).toInt ∧ (vik_11 4).toInt ≤ 940 := gk_11_2
          replace gk_11_3 : 0 ≤ (vik_11 1).toInt ∧ (vik_11 1).toInt ≤ 940 := gk_11_3
          replace gk_11_4 : rk_11.toInt = 1 → (vik_11 0).toInt = (vik_10 6).toInt := gk_11_4
          rcases (show (rk_11 = 1 ∧ (True)) ∨ (rk_11 = 0 ∧ (True)) from gk_11_0) with ⟨er9, gk_11_0⟩ | ⟨er9, gk_11_0⟩
          · refine xz_i 1 er9 ?_
            have tb_6 : rk_11.toInt = 1 := by rw [er9]; decide
            refine lv_if_eq (tgt := 148) hx hb dX8_readWorth_123 (by decide) (fun c => absurd c (by decide)) (fun _ => ?_)
            refine lv_aload_n hx hb dX8_readWorth_126 rfl (lv_at hl 2 rfl) ?_
            refine va_get (D := D) (ci := 8) (v := .ref (a 2)) (C := RX8) (T := TX8) (N := 3) hx hb htg inX8 hown hK.1 hP 0 rfl rfl 1 (by decide) (htg _ kw_229) (fun _ h9 => h9) rfl dX8_readWorth_127 ?_
            refine lv_iload_n hx hb dX8_readWorth_130 rfl (lv_at hl 1 rfl) ?_
            obtain ⟨hC9, hPc, hDc, hFc⟩ := xcut (wc := (pre_X7_isSoul T (xa [(a 2)]) (xa [(a 6), (ex 0), (ex 1), (ex 2), (a 3), (ex 3), (ex 4), (ex 5), (ex 6), (a 7)]) (xf []) (xh []) (xv [(vik_1 0), (vi 12), (vi 13)]) (xl []))) hP hD hS hA [3] (by decide) rfl
            refine va_calli (va_runVN (As := [.int (vik_1 0)]) (rest := []) ⟨hx, hb, hml, hown, htg⟩ (c_X7_isSoul l D T (xa [(a 2)]) (xa [(a 6), (ex 0), (ex 1), (ex 2), (a 3), (ex 3), (ex 4), (ex 5), (ex 6), (a 7)]) (xf []) (xh []) (xv [(vik_1 0), (vi 12), (vi 13)]) (xl []) H.size hp5 hp6) ⟨va_cnB 1 htg (xg_ok kw_664) rfl rfl rfl (hK.2.1 _ kn_661) (htg _ kw_7) (by decide +kernel) ⟨by rw [hR]; exact Nat.le_of_ble_eq_true rfl, by rw [hR]; exact Nat.le_of_ble_eq_true rfl⟩, htg _ kw_663, htg _ ks_25⟩ (xpreV hK hPc hDc (va_recv hK.1 hPc (ci := 7) (q0 := 0) rfl rfl)) rfl rfl hl.1 rfl (lv_room (Nat.le_of_ble_eq_true rfl)) dX8_readWorth_131 ⟨by rw [hR]; exact Nat.le_of_ble_eq_true rfl, by rw [hR]; exact Nat.le_of_ble_eq_true rfl⟩) hS (fun q _ h => hFc q h) hFc (fun r9 u9 t H1 locs ht hvm hw hB hz1 hk1 hS => ?_)
            subst hw
            obtain ⟨fik_12, flk_12, vik_12, vlk_12, hP1, hD1, hG⟩ := hB
            rw [ht] at hP1
            obtain ⟨hP, hD⟩ := va_join (wr := [((a 0), .inr (8, [.ref (a 1), .ref (a 2), .int (vi 0)])), ((a 3), .inl (T 2, 9, .inr (.inl (fl 0)))), ((a 7), .inl (T 1, 81, .inl (fi 1))), ((a 6), .inl (T 2, 9, .inr (.inl (fl 2)))), ((a 4), .inl (T 2, 27, .inr (.inl (fl 1)))), ((a 1), .inr (6, [.ref (a 5), .ref (a 4), .int (vi 1), .int (vi 2), .int (vi 3), .int (vik_11 7), .int (vik_11 3), .int (vik_11 4), .long (vlk_11 0), .int (vik_11 6), .int (vik_11 5), .int (vik_11 2), .int (vik_11 0), .int (vik_11 1)])), ((a 5), .inl (T 0, 940, .inl (fi 0)))]) (w1 := [((a 2), .inr (7, [.int (vi 12), .int (vi 13), .ref (a 6), .ref (ex 0), .ref (ex 1), .ref (ex 2), .ref (a 3), .ref (ex 3), .ref (ex 4), .ref (ex 5), .ref (ex 6), .ref (a 7)]))]) hP hD [3] [0, 1, 2, 4, 5, 6, 7] hC9 rfl (by decide) (by decide) hk1 hFc hP1 hD1
            obtain ⟨rk_12, er9⟩ : ∃ z, z = r9 := ⟨_, rfl⟩
            subst er9
            clear hPc hDc hFc hP1 hD1 hk1 hz1 hvm ht hC9
            generalize H1 = H at hP hS ⊢
            obtain ⟨hP, hD⟩ := (show xPD D A [((a 0), .inr (8, [.ref (a 1), .ref (a 2), .int (vi 0)])), ((a 3), .inl (T 2, 9, .inr (.inl (fl 0)))), ((a 7), .inl (T 1, 81, .inl (fi 1))), ((a 6), .inl (T 2, 9, .inr (.inl (fl 2)))), ((a 4), .inl (T 2, 27, .inr (.inl (fl 1)))), ((a 1), .inr (6, [.ref (a 5), .ref (a 4), .int (vi 1), .int (vi 2), .int (vi 3), .int (vik_11 7), .int (vik_11 3), .int (vik_11 4), .long (vlk_11 0), .int (vik_11 6), .int (vik_11 5), .int (vik_11 2), .int (vik_11 0), .int (vik_11 1)])), ((a 5), .inl (T 0, 940, .inl (fi 0))), ((a 2), .inr (7, [.int (vi 12), .int (vi 13), .ref (a 6), .ref (ex 0), .ref (ex 1), .ref (ex 2), .ref (a 3), .ref (ex 3), .ref (ex 4), .ref (ex 5), .ref (ex 6), .ref (a 7)]))] H from ⟨hP, hD⟩)
            obtain ⟨gk_12_0, -⟩ := hG
            rcases (show (rk_12 = 1 ∧ (0 ≤ (vik_1 0).toInt ∧ (vik_1 0).toInt < (vi 13).toInt)) ∨ (rk_12 = 0 ∧ (¬ (0 ≤ (vik_1 0).toInt ∧ (vik_1 0).toInt < (vi 13).toInt))) from gk_12_0) with ⟨er9, gk_12_0⟩ | ⟨er9, gk_12_0⟩
            · refine xz_i 1 er9 ?_
              have tb_7 : rk_12.toInt = 1 := by rw [er9]; decide
              refine lv_if_eq (tgt := 148) hx hb dX8_readWorth_134 (by decide) (fun c => absurd c (by decide)) (fun _ => ?_)
              refine lv_aload_n hx hb dX8_readWorth_137 rfl (lv_at hl 2 rfl) ?_
              refine va_get (D := D) (ci := 8) (v := .ref (a 2)) (C := RX8) (T := TX8) (N := 3) hx hb htg inX8 hown hK.1 hP 0 rfl rfl 1 (by decide) (htg _ kw_229) (fun _ h9 => h9) rfl dX8_readWorth_138 ?_
              refine lv_iload_n hx hb dX8_readWorth_141 rfl (lv_at hl 0 rfl) ?_
              obtain ⟨hC9, hPc, hDc, hFc⟩ := xcut (wc := (pre_X7_isName T (xa [(a 2)]) (xa [(a 6), (ex 0), (ex 1), (ex 2), (a 3), (ex 3), (ex 4), (ex 5), (ex 6), (a 7)]) (xf []) (xh []) (xv [(vik_10 0), (vi 12), (vi 13)]) (xl []))) hP hD hS hA [7] (by decide) rfl
              refine va_calli (va_runVN (As := [.int (vik_10 0)]) (rest := []) ⟨hx, hb, hml, hown, htg⟩ (c_X7_isName l D T (xa [(a 2)]) (xa [(a 6), (ex 0), (ex 1), (ex 2), (a 3), (ex 3), (ex 4), (ex 5), (ex 6), (a 7)]) (xf []) (xh []) (xv [(vik_10 0), (vi 12), (vi 13)]) (xl []) H.size hp5 hp6) ⟨va_cnB 1 htg (xg_ok kw_683) rfl rfl rfl (hK.2.1 _ kn_684) (htg _ kw_7) (by decide +kernel) ⟨by rw [hR]; exact Nat.le_of_ble_eq_true rfl, by rw [hR]; exact Nat.le_of_ble_eq_true rfl⟩, htg _ kw_682, htg _ ks_29⟩ (xpreV hK hPc hDc (va_recv hK.1 hPc (ci := 7) (q0 := 0) rfl rfl)) rfl rfl hl.1 rfl (lv_room (Nat.le_of_ble_eq_true rfl)) dX8_readWorth_142 ⟨by rw [hR]; exact Nat.le_of_ble_eq_true rfl, by rw [hR]; exact Nat.le_of_ble_eq_true rfl⟩) hS (fun q _ h => hFc q h) hFc (fun r9 u9 t H1 locs ht hvm hw hB hz1 hk1 hS => ?_)
              subst hw
              obtain ⟨fik_13, flk_13, vik_13, vlk_13, hP1, hD1, hG⟩ := hB
              rw [ht] at hP1
              obtain ⟨hP, hD⟩ := va_join (wr := [((a 0), .inr (8, [.ref (a 1), .ref (a 2), .int (vi 0)])), ((a 3), .inl (T 2, 9, .inr (.inl (fl 0)))), ((a 7), .inl (T 1, 81, .inl (fi 1))), ((a 6), .inl (T 2, 9, .inr (.inl (fl 2)))), ((a 4), .inl (T 2, 27, .inr (.inl (fl 1)))), ((a 1), .inr (6, [.ref (a 5), .ref (a 4), .int (vi 1), .int (vi 2), .int (vi 3), .int (vik_11 7), .int (vik_11 3), .int (vik_11 4), .long (vlk_11 0), .int (vik_11 6), .int (vik_11 5), .int (vik_11 2), .int (vik_11 0), .int (vik_11 1)])), ((a 5), .inl (T 0, 940, .inl (fi 0)))]) (w1 := [((a 2), .inr (7, [.int (vi 12), .int (vi 13), .ref (a 6), .ref (ex 0), .ref (ex 1), .ref (ex 2), .ref (a 3), .ref (ex 3), .ref (ex 4), .ref (ex 5), .ref (ex 6), .ref (a 7)]))]) hP hD [7] [0, 1, 2, 3, 4, 5, 6] hC9 rfl (by decide) (by decide) hk1 hFc hP1 hD1
              obtain ⟨rk_13, er9⟩ : ∃ z, z = r9 := ⟨_, rfl⟩
              subst er9
              clear hPc hDc hFc hP1 hD1 hk1 hz1 hvm ht hC9
              generalize H1 = H at hP hS ⊢
              obtain ⟨hP, hD⟩ := (show xPD D A [((a 0), .inr (8, [.ref (a 1), .ref (a 2), .int (vi 0)])), ((a 3), .inl (T 2, 9, .inr (.inl (fl 0)))), ((a 7), .inl (T 1, 81, .inl (fi 1))), ((a 6), .inl (T 2, 9, .inr (.inl (fl 2)))), ((a 4), .inl (T 2, 27, .inr (.inl (fl 1)))), ((a 1), .inr (6, [.ref (a 5), .ref (a 4), .int (vi 1), .int (vi 2), .int (vi 3), .int (vik_11 7), .int (vik_11 3), .int (vik_11 4), .long (vlk_11 0), .int (vik_11 6), .int (vik_11 5), .int (vik_11 2), .int (vik_11 0), .int (vik_11 1)])), ((a 5), .inl (T 0, 940, .inl (fi 0))), ((a 2), .inr (7, [.int (vi 12), .int (vi 13), .ref (a 6), .ref (ex 0), .ref (ex 1), .ref (ex 2), .ref (a 3), .ref (ex 3), .ref (ex 4), .ref (ex 5), .ref (ex 6), .ref (a 7)]))] H from ⟨hP, hD⟩)
              obtain ⟨gk_13_0, -⟩ := hG
              rcases (show (rk_13 = 1 ∧ (0 ≤ (vik_10 0).toInt ∧ (vik_10 0).toInt < (vi 12).toInt)) ∨ (rk_13 = 0 ∧ (¬ (0 ≤ (vik_10 0).toInt ∧ (vik_10 0).toInt < (vi 12).toInt))) from gk_13_0) with ⟨er9, gk_13_0⟩ | ⟨er9, gk_13_0⟩
              · refine xz_i 1 er9 ?_
                have tb_8 : rk_13.toInt = 1 := by rw [er9]; decide
                refine lv_if_ne (tgt := 150) hx hb dX8_readWorth_145 (by decide) (fun _ => ?_) (fun c => absurd c (by decide))
                refine lv_aload_n hx hb dX8_readWorth_150 rfl (lv_at hl 2 rfl) ?_
                refine va_get (D := D) (ci := 8) (v := .ref (a 2)) (C := RX8) (T := TX8) (N := 3) hx hb htg inX8 hown hK.1 hP 0 rfl rfl 1 (by decide) (htg _ kw_229) (fun _ h9 => h9) rfl dX8_readWorth_151 ?_
                refine va_getN (D := D) (ci := 7) (v := .ref (a 7)) (C := RX7) (T := TX7) (N := 12) hx hb htg inX7 hown hK.1 hP 7 rfl rfl 11 (by decide) (va_Nw.use rfl (hK.2.1 _ kn_195)) (fun _ h9 => h9) rfl dX8_readWorth_154 ?_
                refine lv_iload_n hx hb dX8_readWorth_157 rfl (lv_at hl 1 rfl) ?_
                refine lv_bipush (v := 9) hx hb dX8_readWorth_158 (by decide) ?_
                refine lv_imul hx hb dX8_readWorth_160 ?_
                refine lv_topi (fun z160_1 ez160_1 => ?_)
                have tz160_1 : z160_1.toInt = (vik_1 0).toInt * 9 := by rw [ez160_1]; exact xmul rfl (by decide) (by omega) (by omega)
                refine lv_iload_n hx hb dX8_readWorth_161 rfl (lv_at hl 0 rfl) ?_
                refine lv_iadd hx hb dX8_readWorth_162 ?_
                refine lv_topi (fun z162_1 ez162_1 => ?_)
                have tz162_1 : z162_1.toInt = z160_1.toInt + (vik_10 0).toInt := by rw [ez162_1]; exact xadd rfl rfl (by omega) (by omega)
                refine lv_aload_n hx hb dX8_readWorth_163 rfl (lv_at hl 2 rfl) ?_
                refine va_get (D := D) (ci := 8) (v := .ref (a 1)) (C := RX8) (T := TX8) (N := 3) hx hb htg inX8 hown hK.1 hP 0 rfl rfl 0 (by decide) (htg _ kw_228) (fun _ h9 => h9) rfl dX8_readWorth_164 ?_
                refine va_getN (D := D) (ci := 6) (v := .int (vik_11 2)) (C := RX6) (T := TX6) (N := 14) hx hb htg inX6 hown hK.1 hP 5 rfl rfl 11 (by decide) (va_Nw.use rfl (hK.2.1 _ kn_114)) (fun _ h9 => h9) rfl dX8_readWorth_167 ?_
                refine va_iast hx hb hK.1 hP hD hS 2 1 rfl rfl (vp_in_iff.mpr (by omega)) dX8_readWorth_170 (fun H locs hP hD hS => ?_)
                obtain ⟨f170_1, ef170_1, hP, hD⟩ : ∃ f7 : Nat → Int32, f7 = upd (fi 1) z162_1.toNatClampNeg ((vik_11 2) : Int32) ∧ va_P D vwCl [((a 0), .inr (8, [.ref (a 1), .ref (a 2), .int (vi 0)])), ((a 3), .inl (T 2, 9, .inr (.inl (fl 0)))), ((a 7), .inl (T 1, 81, .inl f7)), ((a 6), .inl (T 2, 9, .inr (.inl (fl 2)))), ((a 4), .inl (T 2, 27, .inr (.inl (fl 1)))), ((a 1), .inr (6, [.ref (a 5), .ref (a 4), .int (vi 1), .int (vi 2), .int (vi 3), .int (vik_11 7), .int (vik_11 3), .int (vik_11 4), .long (vlk_11 0), .int (vik_11 6), .int (vik_11 5), .int (vik_11 2), .int (vik_11 0), .int (vik_11 1)])), ((a 5), .inl (T 0, 940, .inl (fi 0))), ((a 2), .inr (7, [.int (vi 12), .int (vi 13), .ref (a 6), .ref (ex 0), .ref (ex 1), .ref (ex 2), .ref (a 3), .ref (ex 3), .ref (ex 4), .ref (ex 5), .ref (ex 6), .ref (a 7)]))] H ∧ va_D A [((a 0), .inr (8, [.ref (a 1), .ref (a 2), .int (vi 0)])), ((a 3), .inl (T 2, 9, .inr (.inl (fl 0)))), ((a 7), .inl (T 1, 81, .inl f7)), ((a 6), .inl (T 2, 9, .inr (.inl (fl 2)))), ((a 4), .inl (T 2, 27, .inr (.inl (fl 1)))), ((a 1), .inr (6, [.ref (a 5), .ref (a 4), .int (vi 1), .int (vi 2), .int (vi 3), .int (vik_11 7), .int (vik_11 3), .int (vik_11 4), .long (vlk_11 0), .int (vik_11 6), .int (vik_11 5), .int (vik_11 2), .int (vik_11 0), .int (vik_11 1)])), ((a 5), .inl (T 0, 940, .inl (fi 0))), ((a 2), .inr (7, [.int (vi 12), .int (vi 13), .ref (a 6), .ref (ex 0), .ref (ex 1), .ref (ex 2), .ref (a 3), .ref (ex 3), .ref (ex 4), .ref (ex 5), .ref (ex 6), .ref (a 7)]))] := ⟨_, rfl, hP, hD⟩
                refine lv_iconst (v := 1) hx hb dX8_readWorth_171 (by decide) ?_
                have hP9 := hP.sub (ws' := [((a 0), .inr (8, [.ref (a 1), .ref (a 2), .int (vi 0)])), ((a 1), .inr (6, [.ref (a 5), .ref (a 4), .int (vi 1), .int (vi 2), .int (vi 3), .int (vik_11 7), .int (vik_11 3), .int (vik_11 4), .long (vlk_11 0), .int (vik_11 6), .int (vik_11 5), .int (vik_11 2), .int (vik_11 0), .int (vik_11 1)])), ((a 2), .inr (7, [.int (vi 12), .int (vi 13), .ref (a 6), .ref (ex 0), .ref (ex 1), .ref (ex 2), .ref (a 3), .ref (ex 3), .ref (ex 4), .ref (ex 5), .ref (ex 6), .ref (a 7)])), ((a 3), .inl (T 2, 9, .inr (.inl (fl 0)))), ((a 4), .inl (T 2, 27, .inr (.inl (fl 1)))), ((a 5), .inl (T 0, 940, .inl (fi 0))), ((a 6), .inl (T 2, 9, .inr (.inl (fl 2)))), ((a 7), .inl (T 1, 81, .inl f170_1))]) [0, 5, 7, 1, 4, 6, 3, 2] rfl
                have hD9 := hD.sub (ws' := [((a 0), .inr (8, [.ref (a 1), .ref (a 2), .int (vi 0)])), ((a 1), .inr (6, [.ref (a 5), .ref (a 4), .int (vi 1), .int (vi 2), .int (vi 3), .int (vik_11 7), .int (vik_11 3), .int (vik_11 4), .long (vlk_11 0), .int (vik_11 6), .int (vik_11 5), .int (vik_11 2), .int (vik_11 0), .int (vik_11 1)])), ((a 2), .inr (7, [.int (vi 12), .int (vi 13), .ref (a 6), .ref (ex 0), .ref (ex 1), .ref (ex 2), .ref (a 3), .ref (ex 3), .ref (ex 4), .ref (ex 5), .ref (ex 6), .ref (a 7)])), ((a 3), .inl (T 2, 9, .inr (.inl (fl 0)))), ((a 4), .inl (T 2, 27, .inr (.inl (fl 1)))), ((a 5), .inl (T 0, 940, .inl (fi 0))), ((a 6), .inl (T 2, 9, .inr (.inl (fl 2)))), ((a 7), .inl (T 1, 81, .inl f170_1))]) [0, 5, 7, 1, 4, 6, 3, 2] (by decide +kernel) rfl
                rw [hQ]
                exact W.zret (v := 1) hx hb hr rfl (fun t ht hW => ⟨⟨1, 1, rfl, rfl, xf [f170_1], xh [], xv [(vik_11 2), (vik_11 3), (vik_11 4), (vik_11 5), (vik_11 6), (vik_11 7), (vik_11 0), (vik_11 1)], xl [(vlk_11 0)], by rw [ht]; exact hP9, hD9, ⟨(Or.inl ⟨rfl, by show True; first | trivial | omega | assumption⟩), gk_11_1, gk_11_2, gk_11_3, (by show (1 : Int32).toInt = 1 → (vik_11 0).toInt = (vi 10).toInt; have k9_0 : (1 : Int32).toInt = 1 := (by decide); exact fun _ => ((gk_11_4 tb_6).trans (gk_10_4 tb_5) |>.trans (gk_1_4 tb))), (by unfold R_X8_readWorth; exact (fun Q9 k9_0 k9_1 k9_2 k9_3 k9_4 k9_5 k9_6 k9_7 k9_8 k9_9 k9_10 k9_11 => k9_5 hp5 hp6 fik flk vik vlk rk gk_0 gk_1 fik_1 flk_1 vik_1 vlk_1 rk_1 gk_1_5 tb gk_1_0 c42 fik_7 flk_7 vik_7 vlk_7 rk_7 gk_7_0 gk_7_1 fik_8 flk_8 vik_8 vlk_8 rk_8 gk_8_0 c67 fik_9 flk_9 vik_9 vlk_9 rk_9 gk_9_0 gk_9_1 fik_10 flk_10 vik_10 vlk_10 rk_10 gk_10_5 tb_5 gk_10_0 fik_11 flk_11 vik_11 vlk_11 rk_11 gk_11_5 tb_6 gk_11_0 fik_12 flk_12 vik_12 vlk_12 rk_12 tb_7 gk_12_0 fik_13 flk_13 vik_13 vlk_13 rk_13 tb_8 gk_13_0 z160_1 ez160_1 tz160_1 z162_1 ez162_1 tz162_1 f170_1 ef170_1 rfl rfl rfl rfl rfl rfl rfl rfl rfl rfl rfl)), trivial⟩⟩, hS.F ht⟩) hS.2.2 dX8_readWorth_172
              · refine xz_i 0 er9 ?_
                have tb_8 : rk_13.toInt = 0 := by rw [er9]; decide
                refine lv_if_ne (tgt := 150) hx hb dX8_readWorth_145 (by decide) (fun c => absurd (by decide) c) (fun _ => ?_)
                refine lv_iconst (v := 0) hx hb dX8_readWorth_148 (by decide) ?_
                have hP9 := hP.sub (ws' := [((a 0), .inr (8, [.ref (a 1), .ref (a 2), .int (vi 0)])), ((a 1), .inr (6, [.ref (a 5), .ref (a 4), .int (vi 1), .int (vi 2), .int (vi 3), .int (vik_11 7), .int (vik_11 3), .int (vik_11 4), .long (vlk_11 0), .int (vik_11 6), .int (vik_11 5), .int (vik_11 2), .int (vik_11 0), .int (vik_11 1)])), ((a 2), .inr (7, [.int (vi 12), .int (vi 13), .ref (a 6), .ref (ex 0), .ref (ex 1), .ref (ex 2), .ref (a 3), .ref (ex 3), .ref (ex 4), .ref (ex 5), .ref (ex 6), .ref (a 7)])), ((a 3), .inl (T 2, 9, .inr (.inl (fl 0)))), ((a 4), .inl (T 2, 27, .inr (.inl (fl 1)))), ((a 5), .inl (T 0, 940, .inl (fi 0))), ((a 6), .inl (T 2, 9, .inr (.inl (fl 2)))), ((a 7), .inl (T 1, 81, .inl (fi 1)))]) [0, 5, 7, 1, 4, 6, 3, 2] rfl
                have hD9 := hD.sub (ws' := [((a 0), .inr (8, [.ref (a 1), .ref (a 2), .int (vi 0)])), ((a 1), .inr (6, [.ref (a 5), .ref (a 4), .int (vi 1), .int (vi 2), .int (vi 3), .int (vik_11 7), .int (vik_11 3), .int (vik_11 4), .long (vlk_11 0), .int (vik_11 6), .int (vik_11 5), .int (vik_11 2), .int (vik_11 0), .int (vik_11 1)])), ((a 2), .inr (7, [.int (vi 12), .int (vi 13), .ref (a 6), .ref (ex 0), .ref (ex 1), .ref (ex 2), .ref (a 3), .ref (ex 3), .ref (ex 4), .ref (ex 5), .ref (ex 6), .ref (a 7)])), ((a 3), .inl (T 2, 9, .inr (.inl (fl 0)))), ((a 4), .inl (T 2, 27, .inr (.inl (fl 1)))), ((a 5), .inl (T 0, 940, .inl (fi 0))), ((a 6), .inl (T 2, 9, .inr (.inl (fl 2)))), ((a 7), .inl (T 1, 81, .inl (fi 1)))]) [0, 5, 7, 1, 4, 6, 3, 2] (by decide +kernel) rfl
                rw [hQ]
                exact W.zret (v := 0) hx hb hr rfl (fun t ht hW => ⟨⟨0, 0, rfl, rfl, xf [(fi 1)], xh [], xv [(vik_11 2), (vik_11 3), (vik_11 4), (vik_11 5), (vik_11 6), (vik_11 7), (vik_11 0), (vik_11 1)], xl [(vlk_11 0)], by rw [ht]; exact hP9, hD9, ⟨(Or.inr ⟨rfl, by show True; first | trivial | omega | assumption⟩), gk_11_1, gk_11_2, gk_11_3, (by show (0 : Int32).toInt = 1 → (vik_11 0).toInt = (vi 10).toInt; have k9_0 : (0 : Int32).toInt = 0 := (by decide); exact fun h9 => absurd h9 (by decide)), (by unfold R_X8_readWorth; exact (fun Q9 k9_0 k9_1 k9_2 k9_3 k9_4 k9_5 k9_6 k9_7 k9_8 k9_9 k9_10 k9_11 => k9_6 hp5 hp6 fik flk vik vlk rk gk_0 gk_1 fik_1 flk_1 vik_1 vlk_1 rk_1 gk_1_5 tb gk_1_0 c42 fik_7 flk_7 vik_7 vlk_7 rk_7 gk_7_0 gk_7_1 fik_8 flk_8 vik_8 vlk_8 rk_8 gk_8_0 c67 fik_9 flk_9 vik_9 vlk_9 rk_9 gk_9_0 gk_9_1 fik_10 flk_10 vik_10 vlk_10 rk_10 gk_10_5 tb_5 gk_10_0 fik_11 flk_11 vik_11 vlk_11 rk_11 gk_11_5 tb_6 gk_11_0 fik_12 flk_12 vik_12 vlk_12 rk_12 tb_7 gk_12_0 fik_13 flk_13 vik_13 vlk_13 rk_13 tb_8 gk_13_0 rfl rfl rfl rfl rfl rfl rfl rfl rfl rfl rfl)), trivial⟩⟩, hS.F ht⟩) hS.2.2 dX8_readWorth_149
            · refine xz_i 0 er9 ?_
              have tb_7 : rk_12.toInt = 0 := by rw [er9]; decide
              refine lv_if_eq (tgt := 148) hx hb dX8_readWorth_134 (by decide) (fun _ => ?_) (fun c => absurd (by decide) c)
              refine lv_iconst (v := 0) hx hb dX8_readWorth_148 (by decide) ?_
              have hP9 := hP.sub (ws' := [((a 0), .inr (8, [.ref (a 1), .ref (a 2), .int (vi 0)])), ((a 1), .inr (6, [.ref (a 5), .ref (a 4), .int (vi 1), .int (vi 2), .int (vi 3), .int (vik_11 7), .int (vik_11 3), .int (vik_11 4), .long (vlk_11 0), .int (vik_11 6), .int (vik_11 5), .int (vik_11 2), .int (vik_11 0), .int (vik_11 1)])), ((a 2), .inr (7, [.int (vi 12), .int (vi 13), .ref (a 6), .ref (ex 0), .ref (ex 1), .ref (ex 2), .ref (a 3), .ref (ex 3), .ref (ex 4), .ref (ex 5), .ref (ex 6), .ref (a 7)])), ((a 3), .inl (T 2, 9, .inr (.inl (fl 0)))), ((a 4), .inl (T 2, 27, .inr (.inl (fl 1)))), ((a 5), .inl (T 0, 940, .inl (fi 0))), ((a 6), .inl (T 2, 9, .inr (.inl (fl 2)))), ((a 7), .inl (T 1, 81, .inl (fi 1)))]) [0, 5, 7, 1, 4, 6, 3, 2] rfl
              have hD9 := hD.sub (ws' := [((a 0), .inr (8, [.ref (a 1), .ref (a 2), .int (vi 0)])), ((a 1), .inr (6, [.ref (a 5), .ref (a 4), .int (vi 1), .int (vi 2), .int (vi 3), .int (vik_11 7), .int (vik_11 3), .int (vik_11 4), .long (vlk_11 0), .int (vik_11 6), .int (vik_11 5), .int (vik_11 2), .int (vik_11 0), .int (vik_11 1)])), ((a 2), .inr (7, [.int (vi 12), .int (vi 13), .ref (a 6), .ref (ex 0), .ref (ex 1), .ref (ex 2), .ref (a 3), .ref (ex 3), .ref (ex 4), .ref (ex 5), .ref (ex 6), .ref (a 7)])), ((a 3), .inl (T 2, 9, .inr (.inl (fl 0)))), ((a 4), .inl (T 2, 27, .inr (.inl (fl 1)))), ((a 5), .inl (T 0, 940, .inl (fi 0))), ((a 6), .inl (T 2, 9, .inr (.inl (fl 2)))), ((a 7), .inl (T 1, 81, .inl (fi 1)))]) [0, 5, 7, 1, 4, 6, 3, 2] (by decide +kernel) rfl
              rw [hQ]
              exact W.zret (v := 0) hx hb hr rfl (fun t ht hW => ⟨⟨0, 0, rfl, rfl, xf [(fi 1)], xh [], xv [(vik_11 2), (vik_11 3), (vik_11 4), (vik_11 5), (vik_11 6), (vik_11 7), (vik_11 0), (vik_11 1)], xl [(vlk_11 0)], by rw [ht]; exact hP9, hD9, ⟨(Or.inr ⟨rfl, by show True; first | trivial | omega | assumption⟩), gk_11_1, gk_11_2, gk_11_3, (by show (0 : Int32).toInt = 1 → (vik_11 0).toInt = (vi 10).toInt; have k9_0 : (0 : Int32).toInt = 0 := (by decide); exact fun h9 => absurd h9 (by decide)), (by unfold R_X8_readWorth; exact (fun Q9 k9_0 k9_1 k9_2 k9_3 k9_4 k9_5 k9_6 k9_7 k9_8 k9_9 k9_10 k9_11 => k9_7 hp5 hp6 fik flk vik vlk rk gk_0 gk_1 fik_1 flk_1 vik_1 vlk_1 rk_1 gk_1_5 tb gk_1_0 c42 fik_7 flk_7 vik_7 vlk_7 rk_7 gk_7_0 gk_7_1 fik_8 flk_8 vik_8 vlk_8 rk_8 gk_8_0 c67 fik_9 flk_9 vik_9 vlk_9 rk_9 gk_9_0 gk_9_1 fik_10 flk_10 vik_10 vlk_10 rk_10 gk_10_5 tb_5 gk_10_0 fik_11 flk_11 vik_11 vlk_11 rk_11 gk_11_5 tb_6 gk_11_0 fik_12 flk_12 vik_12 vlk_12 rk_12 tb_7 gk_12_0 rfl rfl rfl rfl rfl rfl rfl rfl rfl rfl rfl)), trivial⟩⟩, hS.F ht⟩) hS.2.2 dX8_readWorth_149
          · refine xz_i 0 er9 ?_
            have tb_6 : rk_11.toInt = 0 := by rw [er9]; decide
            refine lv_if_eq (tgt := 148) hx hb dX8_readWorth_123 (by decide) (fun _ => ?_) (fun c => absurd (by decide) c)
            refine lv_iconst (v := 0) hx hb dX8_readWorth_148 (by decide) ?_
            have hP9 := hP.sub (ws' := [((a 0), .inr (8, [.ref (a 1), .ref (a 2), .int (vi 0)])), ((a 1), .inr (6, [.ref (a 5), .ref (a 4), .int (vi 1), .int (vi 2), .int (vi 3), .int (vik_11 7), .int (vik_11 3), .int (vik_11 4), .long (vlk_11 0), .int (vik_11 6), .int (vik_11 5), .int (vik_11 2), .int (vik_11 0), .int (vik_11 1)])), ((a 2), .inr (7, [.int (vi 12), .int (vi 13), .ref (a 6), .ref (ex 0), .ref (ex 1), .ref (ex 2), .ref (a 3), .ref (ex 3), .ref (ex 4), .ref (ex 5), .ref (ex 6), .ref (a 7)])), ((a 3), .inl (T 2, 9, .inr (.inl (fl 0)))), ((a 4), .inl (T 2, 27, .inr (.inl (fl 1)))), ((a 5), .inl (T 0, 940, .inl (fi 0))), ((a 6), .inl (T 2, 9, .inr (.inl (fl 2)))), ((a 7), .inl (T 1, 81, .inl (fi 1)))]) [0, 6, 3, 1, 5, 7, 4, 2] rfl
            have hD9 := hD.sub (ws' := [((a 0), .inr (8, [.ref (a 1), .ref (a 2), .int (vi 0)])), ((a 1), .inr (6, [.ref (a 5), .ref (a 4), .int (vi 1), .int (vi 2), .int (vi 3), .int (vik_11 7), .int (vik_11 3), .int (vik_11 4), .long (vlk_11 0), .int (vik_11 6), .int (vik_11 5), .int (vik_11 2), .int (vik_11 0), .int (vik_11 1)])), ((a 2), .inr (7, [.int (vi 12), .int (vi 13), .ref (a 6), .ref (ex 0), .ref (ex 1), .ref (ex 2), .ref (a 3), .ref (ex 3), .ref (ex 4), .ref (ex 5), .ref (ex 6), .ref (a 7)])), ((a 3), .inl (T 2, 9, .inr (.inl (fl 0)))), ((a 4), .inl (T 2, 27, .inr (.inl (fl 1)))), ((a 5), .inl (T 0, 940, .inl (fi 0))), ((a 6), .inl (T 2, 9, .inr (.inl (fl 2)))), ((a 7), .inl (T 1, 81, .inl (fi 1)))]) [0, 6, 3, 1, 5, 7, 4, 2] (by decide +kernel) rfl
            rw [hQ]
            exact W.zret (v := 0) hx hb hr rfl (fun t ht hW => ⟨⟨0, 0, rfl, rfl, xf [(fi 1)], xh [], xv [(vik_11 2), (vik_11 3), (vik_11 4), (vik_11 5), (vik_11 6), (vik_11 7), (vik_11 0), (vik_11 1)], xl [(vlk_11 0)], by rw [ht]; exact hP9, hD9, ⟨(Or.inr ⟨rfl, by show True; first | trivial | omega | assumption⟩), gk_11_1, gk_11_2, gk_11_3, (by show (0 : Int32).toInt = 1 → (vik_11 0).toInt = (vi 10).toInt; have k9_0 : (0 : Int32).toInt = 0 := (by decide); exact fun h9 => absurd h9 (by decide)), (by unfold R_X8_readWorth; exact (fun Q9 k9_0 k9_1 k9_2 k9_3 k9_4 k9_5 k9_6 k9_7 k9_8 k9_9 k9_10 k9_11 => k9_8 hp5 hp6 fik flk vik vlk rk gk_0 gk_1 fik_1 flk_1 vik_1 vlk_1 rk_1 gk_1_5 tb gk_1_0 c42 fik_7 flk_7 vik_7 vlk_7 rk_7 gk_7_0 gk_7_1 fik_8 flk_8 vik_8 vlk_8 rk_8 gk_8_0 c67 fik_9 flk_9 vik_9 vlk_9 rk_9 gk_9_0 gk_9_1 fik_10 flk_10 vik_10 vlk_10 rk_10 gk_10_5 tb_5 gk_10_0 fik_11 flk_11 vik_11 vlk_11 rk_11 gk_11_5 tb_6 gk_11_0 rfl rfl rfl rfl rfl rfl rfl rfl rfl rfl rfl)), trivial⟩⟩, hS.F ht⟩) hS.2.2 dX8_readWorth_149
        · refine xz_i 0 er9 ?_
          have tb_5 : rk_10.toInt = 0 := by rw [er9]; decide
          refine lv_if_ne (tgt := 105) hx hb dX8_readWorth_100 (by decide) (fun c => absurd (by decide) c) (fun _ => ?_)
          refine lv_iconst (v := 0) hx hb dX8_readWorth_103 (by decide) ?_
          have hP9 := hP.sub (ws' := [((a 0), .inr (8, [.ref (a 1), .ref (a 2), .int (vi 0)])), ((a 1), .inr (6, [.ref (a 5), .ref (a 4), .int (vi 1), .int (vi 2), .int (vi 3), .int (vik_10 5), .int (vik_10 1), .int (vik_10 2), .long (vlk_10 0), .int (vik_10 4), .int (vik_10 3), .int (vik_10 0), .int (vik_10 6), .int (vik_10 7)])), ((a 2), .inr (7, [.int (vi 12), .int (vi 13), .ref (a 6), .ref (ex 0), .ref (ex 1), .ref (ex 2), .ref (a 3), .ref (ex 3), .ref (ex 4), .ref (ex 5), .ref (ex 6), .ref (a 7)])), ((a 3), .inl (T 2, 9, .inr (.inl (fl 0)))), ((a 4), .inl (T 2, 27, .inr (.inl (fl 1)))), ((a 5), .inl (T 0, 940, .inl (fi 0))), ((a 6), .inl (T 2, 9, .inr (.inl (fl 2)))), ((a 7), .inl (T 1, 81, .inl (fi 1)))]) [0, 5, 3, 1, 6, 7, 4, 2] rfl
          have hD9 := hD.sub (ws' := [((a 0), .inr (8, [.ref (a 1), .ref (a 2), .int (vi 0)])), ((a 1), .inr (6, [.ref (a 5), .ref (a 4), .int (vi 1), .int (vi 2), .int (vi 3), .int (vik_10 5), .int (vik_10 1), .int (vik_10 2), .long (vlk_10 0), .int (vik_10 4), .int (vik_10 3), .int (vik_10 0), .int (vik_10 6), .int (vik_10 7)])), ((a 2), .inr (7, [.int (vi 12), .int (vi 13), .ref (a 6), .ref (ex 0), .ref (ex 1), .ref (ex 2), .ref (a 3), .ref (ex 3), .ref (ex 4), .ref (ex 5), .ref (ex 6), .ref (a 7)])), ((a 3), .inl (T 2, 9, .inr (.inl (fl 0)))), ((a 4), .inl (T 2, 27, .inr (.inl (fl 1)))), ((a 5), .inl (T 0, 940, .inl (fi 0))), ((a 6), .inl (T 2, 9, .inr (.inl (fl 2)))), ((a 7), .inl (T 1, 81, .inl (fi 1)))]) [0, 5, 3, 1, 6, 7, 4, 2] (by decide +kernel) rfl
          rw [hQ]
          exact W.zret (v := 0) hx hb hr rfl (fun t ht hW => ⟨⟨0, 0, rfl, rfl, xf [(fi 1)], xh [], xv [(vik_10 0), (vik_10 1), (vik_10 2), (vik_10 3), (vik_10 4), (vik_10 5), (vik_10 6), (vik_10 7)], xl [(vlk_10 0)], by rw [ht]; exact hP9, hD9, ⟨(Or.inr ⟨rfl, by show True; first | trivial | omega | assumption⟩), gk_10_1, gk_10_2, gk_10_3, (by show (0 : Int32).toInt = 1 → (vik_10 6).toInt = (vi 10).toInt; have k9_0 : (0 : Int32).toInt = 0 := (by decide); exact fun h9 => absurd h9 (by decide)), (by unfold R_X8_readWorth; exact (fun Q9 k9_0 k9_1 k9_2 k9_3 k9_4 k9_5 k9_6 k9_7 k9_8 k9_9 k9_10 k9_11 => k9_9 hp5 hp6 fik flk vik vlk rk gk_0 gk_1 fik_1 flk_1 vik_1 vlk_1 rk_1 gk_1_5 tb gk_1_0 c42 fik_7 flk_7 vik_7 vlk_7 rk_7 gk_7_0 gk_7_1 fik_8 flk_8 vik_8 vlk_8 rk_8 gk_8_0 c67 fik_9 flk_9 vik_9 vlk_9 rk_9 gk_9_0 gk_9_1 fik_10 flk_10 vik_10 vlk_10 rk_10 gk_10_5 tb_5 gk_10_0 rfl rfl rfl rfl rfl rfl rfl rfl rfl rfl rfl)), trivial⟩⟩, hS.F ht⟩) hS.2.2 dX8_readWorth_104
      · have c67 := xne (k := 0) (by decide) c67
        refine lv_aload_n hx hb dX8_readWorth_70 rfl (lv_at hl 1 rfl) ?_
        refine va_get (D := D) (ci := 8) (v := .ref (a 1)) (C := RX8) (T := TX8) (N := 3) hx hb htg inX8 hown hK.1 hP 0 rfl rfl 0 (by decide) (htg _ kw_228) (fun _ h9 => h9) rfl dX8_readWorth_71 ?_
        refine lv_iconst (v := 3) hx hb dX8_readWorth_74 (by decide) ?_
        obtain ⟨hC9, hPc, hDc, hFc⟩ := xcut (wc := (pre_X6_refuse T (xa [(a 1)]) (xa [(a 5), (a 4)]) (xf []) (xh []) (xv [3, (vi 1), (vi 2), (vi 3), (vik_1 5), (vik_1 1), (vik_1 2), (vik_1 4), (vik_1 3), (vik_1 0), (vik_1 6), (vik_1 7)]) (xl [(vlk_1 0)]))) hP hD hS hA [2] (by decide) rfl
        refine va_calli (va_runVN (As := [.int 3]) (rest := []) ⟨hx, hb, hml, hown, htg⟩ (c_X6_refuse l D T (xa [(a 1)]) (xa [(a 5), (a 4)]) (xf []) (xh []) (xv [3, (vi 1), (vi 2), (vi 3), (vik_1 5), (vik_1 1), (vik_1 2), (vik_1 4), (vik_1 3), (vik_1 0), (vik_1 6), (vik_1 7)]) (xl [(vlk_1 0)]) H.size hp0 hp1 gk_1_1 gk_1_2 gk_1_3) ⟨va_cnB 1 htg (xg_ok kw_594) rfl rfl rfl (hK.2.1 _ kn_591) (htg _ kw_2) (by decide +kernel) ⟨by rw [hR]; exact Nat.le_of_ble_eq_true rfl, by rw [hR]; exact Nat.le_of_ble_eq_true rfl⟩, htg _ kw_593, htg _ ks_10⟩ (xpreV hK hPc hDc (va_recv hK.1 hPc (ci := 6) (q0 := 0) rfl rfl)) rfl rfl hl.1 rfl (lv_room (Nat.le_of_ble_eq_true rfl)) dX8_readWorth_75 ⟨by rw [hR]; exact Nat.le_of_ble_eq_true rfl, by rw [hR]; exact Nat.le_of_ble_eq_true rfl⟩) hS (fun q _ h => hFc q h) hFc (fun r9 u9 t H1 locs ht hvm hw hB hz1 hk1 hS => ?_)
        subst hw
        obtain ⟨fik_14, flk_14, vik_14, vlk_14, hP1, hD1, hG⟩ := hB
        rw [ht] at hP1
        obtain ⟨hP, hD⟩ := va_join (wr := [((a 0), .inr (8, [.ref (a 1), .ref (a 2), .int (vi 0)])), ((a 3), .inl (T 2, 9, .inr (.inl (fl 0)))), ((a 4), .inl (T 2, 27, .inr (.inl (fl 1)))), ((a 5), .inl (T 0, 940, .inl (fi 0))), ((a 6), .inl (T 2, 9, .inr (.inl (fl 2)))), ((a 2), .inr (7, [.int (vi 12), .int (vi 13), .ref (a 6), .ref (ex 0), .ref (ex 1), .ref (ex 2), .ref (a 3), .ref (ex 3), .ref (ex 4), .ref (ex 5), .ref (ex 6), .ref (a 7)])), ((a 7), .inl (T 1, 81, .inl (fi 1)))]) (w1 := [((a 1), .inr (6, [.ref (a 5), .ref (a 4), .int (vi 1), .int (vi 2), .int (vi 3), .int (vik_1 5), .int (vik_1 1), .int (vik_1 2), .long (vlk_1 0), .int (vik_1 4), .int (vik_1 3), .int (vik_1 0), .int (vik_14 0), .int (vik_14 1)]))]) hP hD [2] [0, 1, 3, 4, 5, 6, 7] hC9 rfl (by decide) (by decide) hk1 hFc hP1 hD1
        obtain ⟨rk_14, er9⟩ : ∃ z, z = r9 := ⟨_, rfl⟩
        subst er9
        clear hPc hDc hFc hP1 hD1 hk1 hz1 hvm ht hC9
        generalize H1 = H at hP hS ⊢
        obtain ⟨hP, hD⟩ := (show xPD D A [((a 0), .inr (8, [.ref (a 1), .ref (a 2), .int (vi 0)])), ((a 3), .inl (T 2, 9, .inr (.inl (fl 0)))), ((a 4), .inl (T 2, 27, .inr (.inl (fl 1)))), ((a 5), .inl (T 0, 940, .inl (fi 0))), ((a 6), .inl (T 2, 9, .inr (.inl (fl 2)))), ((a 2), .inr (7, [.int (vi 12), .int (vi 13), .ref (a 6), .ref (ex 0), .ref (ex 1), .ref (ex 2), .ref (a 3), .ref (ex 3), .ref (ex 4), .ref (ex 5), .ref (ex 6), .ref (a 7)])), ((a 7), .inl (T 1, 81, .inl (fi 1))), ((a 1), .inr (6, [.ref (a 5), .ref (a 4), .int (vi 1), .int (vi 2), .int (vi 3), .int (vik_1 5), .int (vik_1 1), .int (vik_1 2), .long (vlk_1 0), .int (vik_1 4), .int (vik_1 3), .int (vik_1 0), .int (vik_14 0), .int (vik_14 1)]))] H from ⟨hP, hD⟩)
        obtain ⟨gk_14_0, gk_14_1, gk_14_2, -⟩ := hG
        replace gk_14_1 : 0 ≤ (vik_14 1).toInt ∧ (vik_14 1).toInt ≤ 940 := gk_14_1
        replace gk_14_2 : (vik_14 0).toInt = (3 : Int32).toInt ∧ (vik_14 1).toInt = (vik_1 2).toInt := gk_14_2
        replace gk_14_0 : rk_14 = 0 := gk_14_0
        refine xz_i 0 gk_14_0 ?_
        have hP9 := hP.sub (ws' := [((a 0), .inr (8, [.ref (a 1), .ref (a 2), .int (vi 0)])), ((a 1), .inr (6, [.ref (a 5), .ref (a 4), .int (vi 1), .int (vi 2), .int (vi 3), .int (vik_1 5), .int (vik_1 1), .int (vik_1 2), .long (vlk_1 0), .int (vik_1 4), .int (vik_1 3), .int (vik_1 0), .int (vik_14 0), .int (vik_14 1)])), ((a 2), .inr (7, [.int (vi 12), .int (vi 13), .ref (a 6), .ref (ex 0), .ref (ex 1), .ref (ex 2), .ref (a 3), .ref (ex 3), .ref (ex 4), .ref (ex 5), .ref (ex 6), .ref (a 7)])), ((a 3), .inl (T 2, 9, .inr (.inl (fl 0)))), ((a 4), .inl (T 2, 27, .inr (.inl (fl 1)))), ((a 5), .inl (T 0, 940, .inl (fi 0))), ((a 6), .inl (T 2, 9, .inr (.inl (fl 2)))), ((a 7), .inl (T 1, 81, .inl (fi 1)))]) [0, 7, 5, 1, 2, 3, 4, 6] rfl
        have hD9 := hD.sub (ws' := [((a 0), .inr (8, [.ref (a 1), .ref (a 2), .int (vi 0)])), ((a 1), .inr (6, [.ref (a 5), .ref (a 4), .int (vi 1), .int (vi 2), .int (vi 3), .int (vik_1 5), .int (vik_1 1), .int (vik_1 2), .long (vlk_1 0), .int (vik_1 4), .int (vik_1 3), .int (vik_1 0), .int (vik_14 0), .int (vik_14 1)])), ((a 2), .inr (7, [.int (vi 12), .int (vi 13), .ref (a 6), .ref (ex 0), .ref (ex 1), .ref (ex 2), .ref (a 3), .ref (ex 3), .ref (ex 4), .ref (ex 5), .ref (ex 6), .ref (a 7)])), ((a 3), .inl (T 2, 9, .inr (.inl (fl 0)))), ((a 4), .inl (T 2, 27, .inr (.inl (fl 1)))), ((a 5), .inl (T 0, 940, .inl (fi 0))), ((a 6), .inl (T 2, 9, .inr (.inl (fl 2)))), ((a 7), .inl (T 1, 81, .inl (fi 1)))]) [0, 7, 5, 1, 2, 3, 4, 6] (by decide +kernel) rfl
        rw [hQ]
        exact W.zret (v := 0) hx hb hr rfl (fun t ht hW => ⟨⟨0, 0, rfl, rfl, xf [(fi 1)], xh [], xv [(vik_1 0), (vik_1 1), (vik_1 2), (vik_1 3), (vik_1 4), (vik_1 5), (vik_14 0), (vik_14 1)], xl [(vlk_1 0)], by rw [ht]; exact hP9, hD9, ⟨(Or.inr ⟨rfl, by show True; first | trivial | omega | assumption⟩), gk_1_1, gk_1_2, gk_14_1, (by show (0 : Int32).toInt = 1 → (vik_14 0).toInt = (vi 10).toInt; have k9_0 : (0 : Int32).toInt = 0 := (by decide); exact fun h9 => absurd h9 (by decide)), (by unfold R_X8_readWorth; exact (fun Q9 k9_0 k9_1 k9_2 k9_3 k9_4 k9_5 k9_6 k9_7 k9_8 k9_9 k9_10 k9_11 => k9_10 hp5 hp6 fik flk vik vlk rk gk_0 gk_1 fik_1 flk_1 vik_1 vlk_1 rk_1 gk_1_5 tb gk_1_0 c42 fik_7 flk_7 vik_7 vlk_7 rk_7 gk_7_0 gk_7_1 fik_8 flk_8 vik_8 vlk_8 rk_8 gk_8_0 c67 fik_14 flk_14 vik_14 vlk_14 rk_14 gk_14_0 gk_14_2 rfl rfl rfl rfl rfl rfl rfl rfl rfl rfl rfl)), trivial⟩⟩, hS.F ht⟩) hS.2.2 dX8_readWorth_78
  · refine xz_i 0 er9 ?_
    have tb : rk_1.toInt = 0 := by rw [er9]; decide
    refine lv_if_ne (tgt := 26) hx hb dX8_readWorth_21 (by decide) (fun c => absurd (by decide) c) (fun _ => ?_)
    refine lv_iconst (v := 0) hx hb dX8_readWorth_24 (by decide) ?_
    have hP9 := hP.sub (ws' := [((a 0), .inr (8, [.ref (a 1), .ref (a 2), .int (vi 0)])), ((a 1), .inr (6, [.ref (a 5), .ref (a 4), .int (vi 1), .int (vi 2), .int (vi 3), .int (vik_1 5), .int (vik_1 1), .int (vik_1 2), .long (vlk_1 0), .int (vik_1 4), .int (vik_1 3), .int (vik_1 0), .int (vik_1 6), .int (vik_1 7)])), ((a 2), .inr (7, [.int (vi 12), .int (vi 13), .ref (a 6), .ref (ex 0), .ref (ex 1), .ref (ex 2), .ref (a 3), .ref (ex 3), .ref (ex 4), .ref (ex 5), .ref (ex 6), .ref (a 7)])), ((a 3), .inl (T 2, 9, .inr (.inl (fl 0)))), ((a 4), .inl (T 2, 27, .inr (.inl (fl 1)))), ((a 5), .inl (T 0, 940, .inl (fi 0))), ((a 6), .inl (T 2, 9, .inr (.inl (fl 2)))), ((a 7), .inl (T 1, 81, .inl (fi 1)))]) [0, 5, 3, 4, 6, 7, 1, 2] rfl
    have hD9 := hD.sub (ws' := [((a 0), .inr (8, [.ref (a 1), .ref (a 2), .int (vi 0)])), ((a 1), .inr (6, [.ref (a 5), .ref (a 4), .int (vi 1), .int (vi 2), .int (vi 3), .int (vik_1 5), .int (vik_1 1), .int (vik_1 2), .long (vlk_1 0), .int (vik_1 4), .int (vik_1 3), .int (vik_1 0), .int (vik_1 6), .int (vik_1 7)])), ((a 2), .inr (7, [.int (vi 12), .int (vi 13), .ref (a 6), .ref (ex 0), .ref (ex 1), .ref (ex 2), .ref (a 3), .ref (ex 3), .ref (ex 4), .ref (ex 5), .ref (ex 6), .ref (a 7)])), ((a 3), .inl (T 2, 9, .inr (.inl (fl 0)))), ((a 4), .inl (T 2, 27, .inr (.inl (fl 1)))), ((a 5), .inl (T 0, 940, .inl (fi 0))), ((a 6), .inl (T 2, 9, .inr (.inl (fl 2)))), ((a 7), .inl (T 1, 81, .inl (fi 1)))]) [0, 5, 3, 4, 6, 7, 1, 2] (by decide +kernel) rfl
    rw [hQ]
    exact W.zret (v := 0) hx hb hr rfl (fun t ht hW => ⟨⟨0, 0, rfl, rfl, xf [(fi 1)], xh [], xv [(vik_1 0), (vik_1 1), (vik_1 2), (vik_1 3), (vik_1 4), (vik_1 5), (vik_1 6), (vik_1 7)], xl [(vlk_1 0)], by rw [ht]; exact hP9, hD9, ⟨(Or.inr ⟨rfl, by show True; first | trivial | omega | assumption⟩), gk_1_1, gk_1_2, gk_1_3, (by show (0 : Int32).toInt = 1 → (vik_1 6).toInt = (vi 10).toInt; have k9_0 : (0 : Int32).toInt = 0 := (by decide); exact fun h9 => absurd h9 (by decide)), (by unfold R_X8_readWorth; exact (fun Q9 k9_0 k9_1 k9_2 k9_3 k9_4 k9_5 k9_6 k9_7 k9_8 k9_9 k9_10 k9_11 => k9_11 hp5 hp6 fik flk vik vlk rk gk_0 gk_1 fik_1 flk_1 vik_1 vlk_1 rk_1 gk_1_5 tb gk_1_0 rfl rfl rfl rfl rfl rfl rfl rfl rfl rfl rfl)), trivial⟩⟩, hS.F ht⟩) hS.2.2 dX8_readWorth_25
abbrev pre_J0_coder_7d493_28 (T : Nat → ClassId) (a ex : Nat → Nat) (fi : Nat → Nat → Int32) (fl : Nat → Nat → Int64) (vi : Nat → Int32) (vl : Nat → Int64) : va_W := []
set_option maxHeartbeats 8000000 in
set_option maxRecDepth 100000 in
theorem c_J0_coder_7d493_28 (l : Launch) (D : va_G) (T : Nat → ClassId) (a ex : Nat → Nat) (fi : Nat → Nat → Int32) (fl : Nat → Nat → Int64) (vi : Nat → Int32) (vl : Nat → Int64) (kK kV : Nat → Nat) (sz : Nat) : Met l yJ0_coder_7d493 (xw yJ0_coder_7d493 cJ0_coder_7d493 1 (some .byte)) ({ frames := 0, cells := 0, slots := 0, locals := 0 }) (xPs D T kK kV [.ref (kK 10)] sz (pre_J0_coder_7d493_28 T a ex fi fl vi vl)) (va_Qi (fun r u => r = u) (xC D (va_A (pre_J0_coder_7d493_28 T a ex fi fl vi vl) sz) (fun fj fm vj vm => []) (fun (r : Int32) (fj : Nat → Nat → Int32) (fm : Nat → Nat → Int64) (vj : Nat → Int32) (vm : Nat → Int64) => r = 0 ∧ True)) (va_A (pre_J0_coder_7d493_28 T a ex fi fl vi vl) sz)) 0 0 (va_A (pre_J0_coder_7d493_28 T a ex fi fl vi vl) sz) := by
  refine xofW (cc := cJ0_coder_7d493) (maxL := 1) (ret := (some .byte)) (by decide) rfl ?_
  intro p e s m args below meth c s₁ R Q hR hQ B hml hv
  obtain ⟨rfl, hsz, hP, hK, hD0, hT⟩ := hv
  have hx := B.exec
  have hb := B.bytes
  have hr := B.returns
  have hts := atoms_spec (ws := xw yJ0_coder_7d493 cJ0_coder_7d493 1 (some .byte)) B.pre
  have htg : ∀ w ∈ xg, w.before _ s = true := fun w h => hts w (List.mem_cons_of_mem _ h)
  have hown : s.vm.findClass RJ0 = some m.cls := findClass_of_methodNamed B.named
  have hlocks := B.notSynchronized
  subst hsz
  have hD := hD0.self (sz := s.heap.size)
  generalize hAe : va_A (pre_J0_coder_7d493_28 T a ex fi fl vi vl) s.heap.size = A at hD hQ hT
  have hA : ∀ q : Nat, s.heap.size ≤ q → A q := fun q h => by rw [← hAe]; exact Or.inr h
  have hS : va_S A s.heap s.heap [] := va_S.rf
  replace hP : va_P D vwCl [] s.heap := hP
  replace hD : va_D A [] := hD
  have hl := lv_entry ([.ref (kK 10)]) (n := 1) (Nat.le_of_ble_eq_true rfl)
  rw [lg_entry_eq]
  generalize (lg_sl ([.ref (kK 10)]) ++ List.replicate (1 - (lg_sl ([.ref (kK 10)])).length) Slot.unset).toArray = ls at hl ⊢
  replace hl : lv_has ls 1 [(0, .ref (kK 10))] := hl
  refine va_gets hx hb hT.2.2.1 hS hown (htg _ kw_52) (fun _ h9 => h9) dJ0_coder_7d493_0 ?_
  refine lv_if_eq (tgt := 13) hx hb dJ0_coder_7d493_3 (by decide) (fun c => absurd c (by decide)) (fun _ => ?_)
  refine lv_aload_n hx hb dJ0_coder_7d493_6 rfl (lv_at hl 0 rfl) ?_
  refine vk_getf hx hb (hT.2.1 10 (by decide)).2.1 hS hown (htg _ kw_2031) (fun _ h9 => h9) dJ0_coder_7d493_7 ?_
  refine lv_goto (tgt := 14) hx hb dJ0_coder_7d493_10 (by decide) ?_
  have hP9 := hP.sub (ws' := []) [] rfl
  have hD9 := hD.sub (ws' := []) [] (by decide +kernel) rfl
  rw [hQ]
  exact W.zret (v := 0) hx hb hr rfl (fun t ht hW => ⟨⟨0, 0, rfl, rfl, xf [], xh [], xv [], xl [], by rw [ht]; exact hP9, hD9, ⟨rfl, trivial⟩⟩, hS.F ht⟩) hS.2.2 dJ0_coder_7d493_14
abbrev pre_J0_length_8abf5_28 (T : Nat → ClassId) (a ex : Nat → Nat) (fi : Nat → Nat → Int32) (fl : Nat → Nat → Int64) (vi : Nat → Int32) (vl : Nat → Int64) : va_W := []
set_option maxHeartbeats 8000000 in
set_option maxRecDepth 100000 in
theorem c_J0_length_8abf5_28 (l : Launch) (D : va_G) (T : Nat → ClassId) (a ex : Nat → Nat) (fi : Nat → Nat → Int32) (fl : Nat → Nat → Int64) (vi : Nat → Int32) (vl : Nat → Int64) (kK kV : Nat → Nat) (sz : Nat) : Met l yJ0_length_8abf5 (xw yJ0_length_8abf5 cJ0_length_8abf5 1 (some .int)) ({ frames := 1, cells := 0, slots := 0, locals := 24 }) (xPs D T kK kV [.ref (kK 10)] sz (pre_J0_length_8abf5_28 T a ex fi fl vi vl)) (va_Qi (fun r u => r = u) (xC D (va_A (pre_J0_length_8abf5_28 T a ex fi fl vi vl) sz) (fun fj fm vj vm => []) (fun (r : Int32) (fj : Nat → Nat → Int32) (fm : Nat → Nat → Int64) (vj : Nat → Int32) (vm : Nat → Int64) => r = 3 ∧ True)) (va_A (pre_J0_length_8abf5_28 T a ex fi fl vi vl) sz)) 0 0 (va_A (pre_J0_length_8abf5_28 T a ex fi fl vi vl) sz) := by
  refine xofW (cc := cJ0_length_8abf5) (maxL := 1) (ret := (some .int)) (by decide) rfl ?_
  intro p e s m args below meth c s₁ R Q hR hQ B hml hv
  obtain ⟨rfl, hsz, hP, hK, hD0, hT⟩ := hv
  have hx := B.exec
  have hb := B.bytes
  have hr := B.returns
  have hts := atoms_spec (ws := xw yJ0_length_8abf5 cJ0_length_8abf5 1 (some .int)) B.pre
  have htg : ∀ w ∈ xg, w.before _ s = true := fun w h => hts w (List.mem_cons_of_mem _ h)
  have hown : s.vm.findClass RJ0 = some m.cls := findClass_of_methodNamed B.named
  have hlocks := B.notSynchronized
  subst hsz
  have hD := hD0.self (sz := s.heap.size)
  generalize hAe : va_A (pre_J0_length_8abf5_28 T a ex fi fl vi vl) s.heap.size = A at hD hQ hT
  have hA : ∀ q : Nat, s.heap.size ≤ q → A q := fun q h => by rw [← hAe]; exact Or.inr h
  have hS : va_S A s.heap s.heap [] := va_S.rf
  replace hP : va_P D vwCl [] s.heap := hP
  replace hD : va_D A [] := hD
  have hl := lv_entry ([.ref (kK 10)]) (n := 1) (Nat.le_of_ble_eq_true rfl)
  rw [lg_entry_eq]
  generalize (lg_sl ([.ref (kK 10)]) ++ List.replicate (1 - (lg_sl ([.ref (kK 10)])).length) Slot.unset).toArray = ls at hl ⊢
  replace hl : lv_has ls 1 [(0, .ref (kK 10))] := hl
  refine lv_aload_n hx hb dJ0_length_8abf5_0 rfl (lv_at hl 0 rfl) ?_
  refine vk_getf hx hb (hT.2.1 10 (by decide)).2.2.1 hS hown (htg _ kw_2030) (fun _ h9 => h9) dJ0_length_8abf5_1 ?_
  refine va_tlen (v := 3) hx hb (hT.2.1 10 (by decide)).2.2.2 hS (by decide) dJ0_length_8abf5_4 ?_
  refine lv_aload_n hx hb dJ0_length_8abf5_5 rfl (lv_at hl 0 rfl) ?_
  obtain ⟨hC9, hPc, hDc, hFc⟩ := xcut (wc := (pre_J0_coder_7d493_28 T (xa []) (xa []) (xf []) (xh []) (xv []) (xl []))) hP hD hS hA [] (by decide) rfl
  refine va_calli (va_runV (As := []) (rest := [.int 3]) ⟨hx, hb, hml, hown, htg⟩ (c_J0_coder_7d493_28 l D T (xa []) (xa []) (xf []) (xh []) (xv []) (xl []) kK kV s.heap.size) ⟨callB_of 0 htg (xg_ok kw_51) rfl rfl rfl (htg _ kw_3) (htg _ kw_48) (by decide +kernel) ⟨by rw [hR]; exact Nat.le_of_ble_eq_true rfl, by rw [hR]; exact Nat.le_of_ble_eq_true rfl⟩, htg _ kw_49, htg _ kw_50⟩ (xpreVs hK hPc hDc hT hFc hS (xT.recv hT 10 (by decide) hS)) rfl rfl hl.1 rfl (lv_room (Nat.le_of_ble_eq_true rfl)) dJ0_length_8abf5_6 ⟨by rw [hR]; exact Nat.le_of_ble_eq_true rfl, by rw [hR]; exact Nat.le_of_ble_eq_true rfl⟩) hS (fun q _ h => hFc q h) hFc (fun r9 u9 t H1 locs ht hvm hw hB hz1 hk1 hS => ?_)
  subst hw
  obtain ⟨fik, flk, vik, vlk, hP1, hD1, hG⟩ := hB
  rw [ht] at hP1
  obtain ⟨hP, hD⟩ := va_join (wr := []) (w1 := []) hP hD [] [] hC9 rfl (by decide) (by decide) hk1 hFc hP1 hD1
  obtain ⟨rk, er9⟩ : ∃ z, z = r9 := ⟨_, rfl⟩
  subst er9
  clear hPc hDc hFc hP1 hD1 hk1 hz1 hvm ht hC9
  generalize H1 = H at hP hS ⊢
  obtain ⟨hP, hD⟩ := (show xPD D A [] H from ⟨hP, hD⟩)
  obtain ⟨gk_0, -⟩ := hG
  replace gk_0 : rk = 0 := gk_0
  refine xz_i 0 gk_0 ?_
  refine lv_ishr hx hb dJ0_length_8abf5_9 ?_
  refine xz_i 3 (by decide) ?_
  have hP9 := hP.sub (ws' := []) [] rfl
  have hD9 := hD.sub (ws' := []) [] (by decide +kernel) rfl
  rw [hQ]
  exact W.iret (v := 3) hx hb hr (fun t ht hW => ⟨⟨3, 3, rfl, rfl, xf [], xh [], xv [], xl [], by rw [ht]; exact hP9, hD9, ⟨rfl, trivial⟩⟩, hS.F ht⟩) hS.2.2 dJ0_length_8abf5_10
abbrev pre_J0_isLatin1_aae02_28 (T : Nat → ClassId) (a ex : Nat → Nat) (fi : Nat → Nat → Int32) (fl : Nat → Nat → Int64) (vi : Nat → Int32) (vl : Nat → Int64) : va_W := []
set_option maxHeartbeats 8000000 in
set_option maxRecDepth 100000 in
theorem c_J0_isLatin1_aae02_28 (l : Launch) (D : va_G) (T : Nat → ClassId) (a ex : Nat → Nat) (fi : Nat → Nat → Int32) (fl : Nat → Nat → Int64) (vi : Nat → Int32) (vl : Nat → Int64) (kK kV : Nat → Nat) (sz : Nat) : Met l yJ0_isLatin1_aae02 (xw yJ0_isLatin1_aae02 cJ0_isLatin1_aae02 1 (some .boolean)) ({ frames := 0, cells := 0, slots := 0, locals := 0 }) (xPs D T kK kV [.ref (kK 10)] sz (pre_J0_isLatin1_aae02_28 T a ex fi fl vi vl)) (va_Qi (fun r u => r = u) (xC D (va_A (pre_J0_isLatin1_aae02_28 T a ex fi fl vi vl) sz) (fun fj fm vj vm => []) (fun (r : Int32) (fj : Nat → Nat → Int32) (fm : Nat → Nat → Int64) (vj : Nat → Int32) (vm : Nat → Int64) => r = 1 ∧ True)) (va_A (pre_J0_isLatin1_aae02_28 T a ex fi fl vi vl) sz)) 0 0 (va_A (pre_J0_isLatin1_aae02_28 T a ex fi fl vi vl) sz) := by
  refine xofW (cc := cJ0_isLatin1_aae02) (maxL := 1) (ret := (some .boolean)) (by decide) rfl ?_
  intro p e s m args below meth c s₁ R Q hR hQ B hml hv
  obtain ⟨rfl, hsz, hP, hK, hD0, hT⟩ := hv
  have hx := B.exec
  have hb := B.bytes
  have hr := B.returns
  have hts := atoms_spec (ws := xw yJ0_isLatin1_aae02 cJ0_isLatin1_aae02 1 (some .boolean)) B.pre
  have htg : ∀ w ∈ xg, w.before _ s = true := fun w h => hts w (List.mem_cons_of_mem _ h)
  have hown : s.vm.findClass RJ0 = some m.cls := findClass_of_methodNamed B.named
  have hlocks := B.notSynchronized
  subst hsz
  have hD := hD0.self (sz := s.heap.size)
  generalize hAe : va_A (pre_J0_isLatin1_aae02_28 T a ex fi fl vi vl) s.heap.size = A at hD hQ hT
  have hA : ∀ q : Nat, s.heap.size ≤ q → A q := fun q h => by rw [← hAe]; exact Or.inr h
  have hS : va_S A s.heap s.heap [] := va_S.rf
  replace hP : va_P D vwCl [] s.heap := hP
  replace hD : va_D A [] := hD
  have hl := lv_entry ([.ref (kK 10)]) (n := 1) (Nat.le_of_ble_eq_true rfl)
  rw [lg_entry_eq]
  generalize (lg_sl ([.ref (kK 10)]) ++ List.replicate (1 - (lg_sl ([.ref (kK 10)])).length) Slot.unset).toArray = ls at hl ⊢
  replace hl : lv_has ls 1 [(0, .ref (kK 10))] := hl
  refine va_gets hx hb hT.2.2.1 hS hown (htg _ kw_52) (fun _ h9 => h9) dJ0_isLatin1_aae02_0 ?_
  refine lv_if_eq (tgt := 17) hx hb dJ0_isLatin1_aae02_3 (by decide) (fun c => absurd c (by decide)) (fun _ => ?_)
  refine lv_aload_n hx hb dJ0_isLatin1_aae02_6 rfl (lv_at hl 0 rfl) ?_
  refine vk_getf hx hb (hT.2.1 10 (by decide)).2.1 hS hown (htg _ kw_2031) (fun _ h9 => h9) dJ0_isLatin1_aae02_7 ?_
  refine lv_if_ne (tgt := 17) hx hb dJ0_isLatin1_aae02_10 (by decide) (fun c => absurd (by decide) c) (fun _ => ?_)
  refine lv_iconst (v := 1) hx hb dJ0_isLatin1_aae02_13 (by decide) ?_
  refine lv_goto (tgt := 18) hx hb dJ0_isLatin1_aae02_14 (by decide) ?_
  have hP9 := hP.sub (ws' := []) [] rfl
  have hD9 := hD.sub (ws' := []) [] (by decide +kernel) rfl
  rw [hQ]
  exact W.zret (v := 1) hx hb hr rfl (fun t ht hW => ⟨⟨1, 1, rfl, rfl, xf [], xh [], xv [], xl [], by rw [ht]; exact hP9, hD9, ⟨rfl, trivial⟩⟩, hS.F ht⟩) hS.2.2 dJ0_isLatin1_aae02_18
