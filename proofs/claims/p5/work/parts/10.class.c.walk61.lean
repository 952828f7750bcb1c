abbrev pre_X8_readOfName (T : Nat → ClassId) (a ex : Nat → Nat) (fi : Nat → Nat → Int32) (fl : Nat → Nat → Int64) (vi : Nat → Int32) (vl : Nat → Int64) : va_W := [((a 0), .inr (8, [.ref (a 1), .ref (a 2), .int (vi 2)])), ((a 1), .inr (6, [.ref (a 5), .ref (a 4), .int (vi 3), .int (vi 4), .int (vi 5), .int (vi 6), .int (vi 7), .int (vi 8), .long (vl 0), .int (vi 9), .int (vi 10), .int (vi 11), .int (vi 12), .int (vi 13)])), ((a 2), .inr (7, [.int (vi 14), .int (vi 15), .ref (a 3), .ref (ex 0), .ref (ex 1), .ref (ex 2), .ref (ex 3), .ref (ex 4), .ref (ex 5), .ref (ex 6), .ref (ex 7), .ref (ex 8)])), ((a 3), .inl (T 2, 9, .inr (.inl (fl 0)))), ((a 4), .inl (T 2, 27, .inr (.inl (fl 1)))), ((a 5), .inl (T 0, 940, .inl (fi 0))), ((a 6), .inl (T 1, 9, .inl (fi 1)))]
set_option maxHeartbeats 8000000 in
set_option maxRecDepth 100000 in
theorem c_X8_readOfName (l : Launch) (D : va_G) (T : Nat → ClassId) (a ex : Nat → Nat) (fi : Nat → Nat → Int32) (fl : Nat → Nat → Int64) (vi : Nat → Int32) (vl : Nat → Int64) (sz : Nat) (hp0 : 0 ≤ (vi 4).toInt ∧ (vi 4).toInt ≤ 940) (hp1 : 0 ≤ (vi 5).toInt ∧ (vi 5).toInt ≤ 940) (hp2 : 0 ≤ (vi 6).toInt ∧ (vi 6).toInt ≤ 940) (hp3 : 0 ≤ (vi 8).toInt ∧ (vi 8).toInt ≤ 940) (hp4 : 0 ≤ (vi 13).toInt ∧ (vi 13).toInt ≤ 940) (hp5 : 0 ≤ (vi 14).toInt ∧ (vi 14).toInt ≤ 9) (hp6 : 0 ≤ (vi 15).toInt ∧ (vi 15).toInt ≤ 9) : Met l yX8_readOfName (xw yX8_readOfName cX8_readOfName 5 (some .boolean)) ({ frames := 3, cells := 0, slots := 0, locals := 79 }) (xP D T [.ref (a 0), .ref (a 6), .int (vi 0), .int (vi 1)] sz (pre_X8_readOfName T a ex fi fl vi vl)) (va_Qi (fun r u => r = u) (xC D (va_A (pre_X8_readOfName T a ex fi fl vi vl) sz) (fun fj fm vj vm => [((a 0), .inr (8, [.ref (a 1), .ref (a 2), .int (vi 2)])), ((a 1), .inr (6, [.ref (a 5), .ref (a 4), .int (vi 3), .int (vi 4), .int (vi 5), .int (vj 5), .int (vj 1), .int (vj 2), .long (vm 0), .int (vj 4), .int (vj 3), .int (vj 0), .int (vj 6), .int (vj 7)])), ((a 2), .inr (7, [.int (vi 14), .int (vi 15), .ref (a 3), .ref (ex 0), .ref (ex 1), .ref (ex 2), .ref (ex 3), .ref (ex 4), .ref (ex 5), .ref (ex 6), .ref (ex 7), .ref (ex 8)])), ((a 3), .inl (T 2, 9, .inr (.inl (fl 0)))), ((a 4), .inl (T 2, 27, .inr (.inl (fl 1)))), ((a 5), .inl (T 0, 940, .inl (fi 0))), ((a 6), .inl (T 1, 9, .inl (fj 0)))]) (fun (r : Int32) (fj : Nat → Nat → Int32) (fm : Nat → Nat → Int64) (vj : Nat → Int32) (vm : Nat → Int64) => ((r = 1 ∧ (True)) ∨ (r = 0 ∧ (True))) ∧ (0 ≤ (vj 5).toInt ∧ (vj 5).toInt ≤ 940) ∧ (0 ≤ (vj 2).toInt ∧ (vj 2).toInt ≤ 940) ∧ (0 ≤ (vj 7).toInt ∧ (vj 7).toInt ≤ 940) ∧ (r.toInt = 1 → (vj 6).toInt = (vi 12).toInt) ∧ R_X8_readOfName fi fl vi vl r fj fm vj vm ∧ True)) (va_A (pre_X8_readOfName T a ex fi fl vi vl) sz)) 0 0 (va_A (pre_X8_readOfName T a ex fi fl vi vl) sz) := by
  refine xofW (cc := cX8_readOfName) (maxL := 5) (ret := (some .boolean)) (by decide) rfl ?_
  intro p e s m args below meth c s₁ R Q hR hQ B hml hv
  obtain ⟨rfl, hsz, hP, hK, hD0⟩ := hv
  have hx := B.exec
  have hb := B.bytes
  have hr := B.returns
  have hts := atoms_spec (ws := xw yX8_readOfName cX8_readOfName 5 (some .boolean)) B.pre
  have htg : ∀ w ∈ xg, w.before _ s = true := fun w h => hts w (List.mem_cons_of_mem _ h)
  have hown : s.vm.findClass RX8 = some m.cls := findClass_of_methodNamed B.named
  have hlocks := B.notSynchronized
  subst hsz
  have hD := hD0.self (sz := s.heap.size)
  generalize hAe : va_A (pre_X8_readOfName T a ex fi fl vi vl) s.heap.size = A at hD hQ
  have hA : ∀ q : Nat, s.heap.size ≤ q → A q := fun q h => by rw [← hAe]; exact Or.inr h
  have hS : va_S A s.heap s.heap [] := va_S.rf
  replace hP : va_P D vwCl [((a 0), .inr (8, [.ref (a 1), .ref (a 2), .int (vi 2)])), ((a 1), .inr (6, [.ref (a 5), .ref (a 4), .int (vi 3), .int (vi 4), .int (vi 5), .int (vi 6), .int (vi 7), .int (vi 8), .long (vl 0), .int (vi 9), .int (vi 10), .int (vi 11), .int (vi 12), .int (vi 13)])), ((a 2), .inr (7, [.int (vi 14), .int (vi 15), .ref (a 3), .ref (ex 0), .ref (ex 1), .ref (ex 2), .ref (ex 3), .ref (ex 4), .ref (ex 5), .ref (ex 6), .ref (ex 7), .ref (ex 8)])), ((a 3), .inl (T 2, 9, .inr (.inl (fl 0)))), ((a 4), .inl (T 2, 27, .inr (.inl (fl 1)))), ((a 5), .inl (T 0, 940, .inl (fi 0))), ((a 6), .inl (T 1, 9, .inl (fi 1)))] s.heap := hP
  replace hD : va_D A [((a 0), .inr (8, [.ref (a 1), .ref (a 2), .int (vi 2)])), ((a 1), .inr (6, [.ref (a 5), .ref (a 4), .int (vi 3), .int (vi 4), .int (vi 5), .int (vi 6), .int (vi 7), .int (vi 8), .long (vl 0), .int (vi 9), .int (vi 10), .int (vi 11), .int (vi 12), .int (vi 13)])), ((a 2), .inr (7, [.int (vi 14), .int (vi 15), .ref (a 3), .ref (ex 0), .ref (ex 1), .ref (ex 2), .ref (ex 3), .ref (ex 4), .ref (ex 5), .ref (ex 6), .ref (ex 7), .ref (ex 8)])), ((a 3), .inl (T 2, 9, .inr (.inl (fl 0)))), ((a 4), .inl (T 2, 27, .inr (.inl (fl 1)))), ((a 5), .inl (T 0, 940, .inl (fi 0))), ((a 6), .inl (T 1, 9, .inl (fi 1)))] := hD
  have hl := lv_entry ([.ref (a 0), .ref (a 6), .int (vi 0), .int (vi 1)]) (n := 5) (Nat.le_of_ble_eq_true rfl)
  rw [lg_entry_eq]
  generalize (lg_sl ([.ref (a 0), .ref (a 6), .int (vi 0), .int (vi 1)]) ++ List.replicate (5 - (lg_sl ([.ref (a 0), .ref (a 6), .int (vi 0), .int (vi 1)])).length) Slot.unset).toArray = ls at hl ⊢
  replace hl : lv_has ls 5 [(0, .ref (a 0)), (1, .ref (a 6)), (2, .int (vi 0)), (3, .int (vi 1))] := hl
  refine lv_aload_n hx hb dX8_readOfName_0 rfl (lv_at hl 0 rfl) ?_
  refine lv_aload_n hx hb dX8_readOfName_1 rfl (lv_at hl 0 rfl) ?_
  refine va_get (D := D) (ci := 8) (v := .ref (a 2)) (C := RX8) (T := TX8) (N := 3) hx hb htg inX8 hown hK.1 hP 0 rfl rfl 1 (by decide) (htg _ kw_229) (fun _ h9 => h9) rfl dX8_readOfName_2 ?_
  refine lv_aload_n hx hb dX8_readOfName_5 rfl (lv_at hl 0 rfl) ?_
  refine va_get (D := D) (ci := 8) (v := .ref (a 1)) (C := RX8) (T := TX8) (N := 3) hx hb htg inX8 hown hK.1 hP 0 rfl rfl 0 (by decide) (htg _ kw_228) (fun _ h9 => h9) rfl dX8_readOfName_6 ?_
  refine va_getN (D := D) (ci := 6) (v := .long (vl 0)) (C := RX6) (T := TX6) (N := 14) hx hb htg inX6 hown hK.1 hP 1 rfl rfl 8 (by decide) (va_Nw.use rfl (hK.2.1 _ kn_107)) (fun _ h9 => h9) rfl dX8_readOfName_9 ?_
  obtain ⟨hC9, hPc, hDc, hFc⟩ := xcut (wc := (pre_X7_findName T (xa [(a 2), (a 3)]) (xa [(ex 0), (ex 1), (ex 2), (ex 3), (ex 4), (ex 5), (ex 6), (ex 7), (ex 8)]) (xf []) (xh [(fl 0)]) (xv [(vi 14), (vi 15)]) (xl [(vl 0)]))) hP hD hS hA [2, 3] (by decide) rfl
  refine va_calli (va_runVN (As := [.long (vl 0)]) (rest := [.ref (a 0)]) ⟨hx, hb, hml, hown, htg⟩ (c_X7_findName l D T (xa [(a 2), (a 3)]) (xa [(ex 0), (ex 1), (ex 2), (ex 3), (ex 4), (ex 5), (ex 6), (ex 7), (ex 8)]) (xf []) (xh [(fl 0)]) (xv [(vi 14), (vi 15)]) (xl [(vl 0)]) s.heap.size hp5 hp6) ⟨va_cnB 1 htg (xg_ok kw_607) rfl rfl rfl (hK.2.1 _ kn_604) (htg _ kw_7) (by decide +kernel) ⟨by rw [hR]; exact Nat.le_of_ble_eq_true rfl, by rw [hR]; exact Nat.le_of_ble_eq_true rfl⟩, htg _ kw_606, htg _ ks_13⟩ (xpreV hK hPc hDc (va_recv hK.1 hPc (ci := 7) (q0 := 0) rfl rfl)) rfl rfl hl.1 rfl (lv_room (Nat.le_of_ble_eq_true rfl)) dX8_readOfName_12 ⟨by rw [hR]; exact Nat.le_of_ble_eq_true rfl, by rw [hR]; exact Nat.le_of_ble_eq_true rfl⟩) hS (fun q _ h => hFc q h) hFc (fun r9 u9 t H1 locs ht hvm hw hB hz1 hk1 hS => ?_)
  subst hw
  obtain ⟨fik, flk, vik, vlk, hP1, hD1, hG⟩ := hB
  rw [ht] at hP1
  obtain ⟨hP, hD⟩ := va_join (wr := [((a 0), .inr (8, [.ref (a 1), .ref (a 2), .int (vi 2)])), ((a 1), .inr (6, [.ref (a 5), .ref (a 4), .int (vi 3), .int (vi 4), .int (vi 5), .int (vi 6), .int (vi 7), .int (vi 8), .long (vl 0), .int (vi 9), .int (vi 10), .int (vi 11), .int (vi 12), .int (vi 13)])), ((a 4), .inl (T 2, 27, .inr (.inl (fl 1)))), ((a 5), .inl (T 0, 940, .inl (fi 0))), ((a 6), .inl (T 1, 9, .inl (fi 1)))]) (w1 := [((a 2), .inr (7, [.int (vi 14), .int (vi 15), .ref (a 3), .ref (ex 0), .ref (ex 1), .ref (ex 2), .ref (ex 3), .ref (ex 4), .ref (ex 5), .ref (ex 6), .ref (ex 7), .ref (ex 8)])), ((a 3), .inl (T 2, 9, .inr (.inl (fl 0))))]) hP hD [2, 3] [0, 1, 4, 5, 6] hC9 rfl (by decide) (by decide) hk1 hFc hP1 hD1
  obtain ⟨rk, er9⟩ : ∃ z, z = r9 := ⟨_, rfl⟩
  subst er9
  clear hPc hDc hFc hP1 hD1 hk1 hz1 hvm ht hC9
  generalize H1 = H at hP hS ⊢
  obtain ⟨hP, hD⟩ := (show xPD D A [((a 0), .inr (8, [.ref (a 1), .ref (a 2), .int (vi 2)])), ((a 1), .inr (6, [.ref (a 5), .ref (a 4), .int (vi 3), .int (vi 4), .int (vi 5), .int (vi 6), .int (vi 7), .int (vi 8), .long (vl 0), .int (vi 9), .int (vi 10), .int (vi 11), .int (vi 12), .int (vi 13)])), ((a 4), .inl (T 2, 27, .inr (.inl (fl 1)))), ((a 5), .inl (T 0, 940, .inl (fi 0))), ((a 6), .inl (T 1, 9, .inl (fi 1))), ((a 2), .inr (7, [.int (vi 14), .int (vi 15), .ref (a 3), .ref (ex 0), .ref (ex 1), .ref (ex 2), .ref (ex 3), .ref (ex 4), .ref (ex 5), .ref (ex 6), .ref (ex 7), .ref (ex 8)])), ((a 3), .inl (T 2, 9, .inr (.inl (fl 0))))] H from ⟨hP, hD⟩)
  obtain ⟨gk_0, gk_1, -⟩ := hG
  replace gk_1 : rk.toInt = fdx (fl 0) 0 (vl 0) ((vi 14).toInt).toNat := (P_X7_findName gk_1 : _)
  replace gk_0 : -1 ≤ rk.toInt ∧ rk.toInt ≤ 8 := gk_0
  refine lv_aload_n hx hb dX8_readOfName_15 rfl (lv_at hl 1 rfl) ?_
  obtain ⟨hC9, hPc, hDc, hFc⟩ := xcut (wc := (pre_X8_passOnce T (xa [(a 0), (a 1), (a 4), (a 5), (a 6)]) (xa [(a 2)]) (xf [(fi 0), (fi 1)]) (xh [(fl 1)]) (xv [rk, (vi 2), (vi 3), (vi 4), (vi 5), (vi 6), (vi 7), (vi 8), (vi 9), (vi 10), (vi 11), (vi 12), (vi 13)]) (xl [(vl 0)]))) hP hD hS hA [0, 1, 2, 3, 4] (by decide) rfl
  refine va_calli (va_runV (As := [.int rk, .ref (a 6)]) (rest := []) ⟨hx, hb, hml, hown, htg⟩ (c_X8_passOnce l D T (xa [(a 0), (a 1), (a 4), (a 5), (a 6)]) (xa [(a 2)]) (xf [(fi 0), (fi 1)]) (xh [(fl 1)]) (xv [rk, (vi 2), (vi 3), (vi 4), (vi 5), (vi 6), (vi 7), (vi 8), (vi 9), (vi 10), (vi 11), (vi 12), (vi 13)]) (xl [(vl 0)]) H.size hp0 hp1 hp2 hp3 hp4) ⟨callB_of 2 htg (xg_ok kw_636) rfl rfl rfl (htg _ kw_8) (htg _ kw_633) (by decide +kernel) ⟨by rw [hR]; exact Nat.le_of_ble_eq_true rfl, by rw [hR]; exact Nat.le_of_ble_eq_true rfl⟩, htg _ kw_635, htg _ ks_19⟩ (xpreV hK hPc hDc (va_recv hK.1 hPc (ci := 8) (q0 := 0) rfl rfl)) rfl rfl hl.1 rfl (lv_room (Nat.le_of_ble_eq_true rfl)) dX8_readOfName_16 ⟨by rw [hR]; exact Nat.le_of_ble_eq_true rfl, by rw [hR]; exact Nat.le_of_ble_eq_true rfl⟩) hS (fun q _ h => hFc q h) hFc (fun r9 u9 t H1 locs ht hvm hw hB hz1 hk1 hS => ?_)
  subst hw
  obtain ⟨fik_1, flk_1, vik_1, vlk_1, hP1, hD1, hG⟩ := hB
  rw [ht] at hP1
  obtain ⟨hP, hD⟩ := va_join (wr := [((a 2), .inr (7, [.int (vi 14), .int (vi 15), .ref (a 3), .ref (ex 0), .ref (ex 1), .ref (ex 2), .ref (ex 3), .ref (ex 4), .ref (ex 5), .ref (ex 6), .ref (ex 7), .ref (ex 8)])), ((a 3), .inl (T 2, 9, .inr (.inl (fl 0))))]) (w1 := [((a 0), .inr (8, [.ref (a 1), .ref (a 2), .int (vi 2)])), ((a 1), .inr (6, [.ref (a 5), .ref (a 4), .int (vi 3), .int (vi 4), .int (vi 5), .int (vik_1 5), .int (vik_1 1), .int (vik_1 2), .long (vlk_1 0), .int (vik_1 4), .int (vik_1 3), .int (vik_1 0), .int (vik_1 6), .int (vik_1 7)])), ((a 4), .inl (T 2, 27, .inr (.inl (fl 1)))), ((a 5), .inl (T 0, 940, .inl (fi 0))), ((a 6), .inl (T 1, 9, .inl (fi 1)))]) hP hD [0, 1, 2, 3, 4] [5, 6] hC9 rfl (by decide) (by decide) hk1 hFc hP1 hD1
  obtain ⟨rk_1, er9⟩ : ∃ z, z = r9 := ⟨_, rfl⟩
  subst er9
  clear hPc hDc hFc hP1 hD1 hk1 hz1 hvm ht hC9
  generalize H1 = H at hP hS ⊢
  obtain ⟨hP, hD⟩ := (show xPD D A [((a 2), .inr (7, [.int (vi 14), .int (vi 15), .ref (a 3), .ref (ex 0), .ref (ex 1), .ref (ex 2), .ref (ex 3), .ref (ex 4), .ref (ex 5), .ref (ex 6), .ref (ex 7), .ref (ex 8)])), ((a 3), .inl (T 2, 9, .inr (.inl (fl 0)))), ((a 0), .inr (8, [.ref (a 1), .ref (a 2), .int (vi 2)])), ((a 1), .inr (6, [.ref (a 5), .ref (a 4), .int (vi 3), .int (vi 4), .int (vi 5), .int (vik_1 5), .int (vik_1 1), .int (vik_1 2), .long (vlk_1 0), .int (vik_1 4), .int (vik_1 3), .int (vik_1 0), .int (vik_1 6), .int (vik_1 7)])), ((a 4), .inl (T 2, 27, .inr (.inl (fl 1)))), ((a 5), .inl (T 0, 940, .inl (fi 0))), ((a 6), .inl (T 1, 9, .inl (fi 1)))] H from ⟨hP, hD⟩)
  obtain ⟨gk_1_0, gk_1_1, gk_1_2, gk_1_3, gk_1_4, gk_1_5, -⟩ := hG
  replace gk_1_5 : ∀ n m t : Nat, CC (trn (fi 0) n) n m t (vi 4) (vi 5) (vi 7) (vi 8) (vi 6) (vl 0) (vi 9) (vi 10) → (rk_1.toInt = 1 ∧ (wMay (trn (fi 0) n) n m (ownB (fl 1)) t) ∧ ¬ rk.toInt = -1 ∧ (vik_1 0).toInt = rk.toInt ∧ (0 ≤ rk.toInt → rk.toInt < 9 → ((fi 1) (rk).toNatClampNeg).toInt = -1) ∧ CC (trn (fi 0) n) n m (sX (trn (fi 0) n) n m t) (vi 4) (vi 5) (vik_1 1) (vik_1 2) (vik_1 5) (vlk_1 0) (vik_1 4) (vik_1 3)) ∨ (rk_1.toInt = 0 ∧ ¬ (wMay (trn (fi 0) n) n m (ownB (fl 1)) t) ∧ (vik_1 6).toInt = 1 ∧ (vik_1 7).toInt = ((sPn (trn (fi 0) n) n m t) : Int)) ∨ (rk_1.toInt = 0 ∧ (wMay (trn (fi 0) n) n m (ownB (fl 1)) t) ∧ rk.toInt = -1 ∧ (vik_1 6).toInt = 3 ∧ (vik_1 7).toInt = ((sPn (trn (fi 0) n) n m t) : Int)) ∨ (rk_1.toInt = 0 ∧ (sK (trn (fi 0) n) n m t) = 1 ∧ 0 ≤ rk.toInt ∧ rk.toInt < 9 ∧ ¬ ((fi 1) (rk).toNatClampNeg).toInt = -1 ∧ (vik_1 6).toInt = 3 ∧ (vik_1 7).toInt = ((sPn (trn (fi 0) n) n m t) : Int)) := (P_X8_passOnce gk_1_5 : _)
  replace gk_1_1 : 0 ≤ (vik_1 5).toInt ∧ (vik_1 5).toInt ≤ 940 := gk_1_1
  replace gk_1_2 : 0 ≤ (vik_1 2).toInt ∧ (vik_1 2).toInt ≤ 940 := gk_1_2
  replace gk_1_3 : 0 ≤ (vik_1 7).toInt ∧ (vik_1 7).toInt ≤ 940 := gk_1_3
  replace gk_1_4 : rk_1.toInt = 1 → (vik_1 6).toInt = (vi 12).toInt := gk_1_4
  rcases (show (rk_1 = 1 ∧ ((vik_1 0).toInt = rk.toInt ∧ ¬ rk.toInt = -1)) ∨ (rk_1 = 0 ∧ (True)) from gk_1_0) with ⟨er9, gk_1_0⟩ | ⟨er9, gk_1_0⟩
  · refine xz_i 1 er9 ?_
    have tb : rk_1.toInt = 1 := by rw [er9]; decide
    refine lv_if_ne (tgt := 24) hx hb dX8_readOfName_19 (by decide) (fun _ => ?_) (fun c => absurd c (by decide))
    refine lv_aload_n hx hb dX8_readOfName_24 rfl (lv_at hl 0 rfl) ?_
    refine va_get (D := D) (ci := 8) (v := .ref (a 1)) (C := RX8) (T := TX8) (N := 3) hx hb htg inX8 hown hK.1 hP 2 rfl rfl 0 (by decide) (htg _ kw_228) (fun _ h9 => h9) rfl dX8_readOfName_25 ?_
    refine va_getN (D := D) (ci := 6) (v := .int (vik_1 0)) (C := RX6) (T := TX6) (N := 14) hx hb htg inX6 hown hK.1 hP 3 rfl rfl 11 (by decide) (va_Nw.use rfl (hK.2.1 _ kn_114)) (fun _ h9 => h9) rfl dX8_readOfName_28 ?_
    refine lv_istore (lv' := [(4, .int (vik_1 0)), (0, .ref (a 0)), (1, .ref (a 6)), (2, .int (vi 0)), (3, .int (vi 1))]) hx hb dX8_readOfName_31 hl (by decide) rfl (fun ls hl => ?_)
    refine lv_aload_n hx hb dX8_readOfName_33 rfl (lv_at hl 1 rfl) ?_
    refine va_get (D := D) (ci := 8) (v := .ref (a 1)) (C := RX8) (T := TX8) (N := 3) hx hb htg inX8 hown hK.1 hP 2 rfl rfl 0 (by decide) (htg _ kw_228) (fun _ h9 => h9) rfl dX8_readOfName_34 ?_
    refine lv_iload_n hx hb dX8_readOfName_37 rfl (lv_at hl 3 rfl) ?_
    refine lv_iload_n hx hb dX8_readOfName_38 rfl (lv_at hl 4 rfl) ?_
    obtain ⟨hC9, hPc, hDc, hFc⟩ := xcut (wc := (pre_X6_passNumber T (xa [(a 1), (a 5)]) (xa [(a 4)]) (xf [(fi 0)]) (xh []) (xv [(vi 0), (vi 1), (vi 3), (vi 4), (vi 5), (vik_1 5), (vik_1 1), (vik_1 2), (vik_1 4), (vik_1 3), (vik_1 0), (vik_1 6), (vik_1 7)]) (xl [(vlk_1 0)]))) hP hD hS hA [3, 5] (by decide) rfl
    refine va_calli (va_runVN (As := [.int (vi 0), .int (vi 1)]) (rest := []) ⟨hx, hb, hml, hown, htg⟩ (c_X6_passNumber l D T (xa [(a 1), (a 5)]) (xa [(a 4)]) (xf [(fi 0)]) (xh []) (xv [(vi 0), (vi 1), (vi 3), (vi 4), (vi 5), (vik_1 5), (vik_1 1), (vik_1 2), (vik_1 4), (vik_1 3), (vik_1 0), (vik_1 6), (vik_1 7)]) (xl [(vlk_1 0)]) H.size hp0 hp1 gk_1_1 gk_1_2 gk_1_3) ⟨va_cnB 2 htg (xg_ok kw_622) rfl rfl rfl (hK.2.1 _ kn_619) (htg _ kw_2) (by decide +kernel) ⟨by rw [hR]; exact Nat.le_of_ble_eq_true rfl, by rw [hR]; exact Nat.le_of_ble_eq_true rfl⟩, htg _ kw_621, htg _ ks_16⟩ (xpreV hK hPc hDc (va_recv hK.1 hPc (ci := 6) (q0 := 0) rfl rfl)) rfl rfl hl.1 rfl (lv_room (Nat.le_of_ble_eq_true rfl)) dX8_readOfName_39 ⟨by rw [hR]; exact Nat.le_of_ble_eq_true rfl, by rw [hR]; exact Nat.le_of_ble_eq_true rfl⟩) hS (fun q _ h => hFc q h) hFc (fun r9 u9 t H1 locs ht hvm hw hB hz1 hk1 hS => ?_)
    subst hw
    obtain ⟨fik_2, flk_2, vik_2, vlk_2, hP1, hD1, hG⟩ := hB
    rw [ht] at hP1
    obtain ⟨hP, hD⟩ := va_join (wr := [((a 2), .inr (7, [.int (vi 14), .int (vi 15), .ref (a 3), .ref (ex 0), .ref (ex 1), .ref (ex 2), .ref (ex 3), .ref (ex 4), .ref (ex 5), .ref (ex 6), .ref (ex 7), .ref (ex 8)])), ((a 3), .inl (T 2, 9, .inr (.inl (fl 0)))), ((a 0), .inr (8, [.ref (a 1), .ref (a 2), .int (vi 2)])), ((a 4), .inl (T 2, 27, .inr (.inl (fl 1)))), ((a 6), .inl (T 1, 9, .inl (fi 1)))]) (w1 := [((a 1), .inr (6, [.ref (a 5), .ref (a 4), .int (vi 3), .int (vi 4), .int (vi 5), .int (vik_2 7), .int (vik_2 3), .int (vik_2 4), .long (vlk_2 0), .int (vik_2 6), .int (vik_2 5), .int (vik_2 2), .int (vik_2 0), .int (vik_2 1)])), ((a 5), .inl (T 0, 940, .inl (fi 0)))]) hP hD [3, 5] [0, 1, 2, 4, 6] hC9 rfl (by decide) (by decide) hk1 hFc hP1 hD1
    obtain ⟨rk_2, er9⟩ : ∃ z, z = r9 := ⟨_, rfl⟩
    subst er9
    clear hPc hDc hFc hP1 hD1 hk1 hz1 hvm ht hC9
    generalize H1 = H at hP hS ⊢
    obtain ⟨hP, hD⟩ := (show xPD D A [((a 2), .inr (7, [.int (vi 14), .int (vi 15), .ref (a 3), .ref (ex 0), .ref (ex 1), .ref (ex 2), .ref (ex 3), .ref (ex 4), .ref (ex 5), .ref (ex 6), .ref (ex 7), .ref (ex 8)])), ((a 3), .inl (T 2, 9, .inr (.inl (fl 0)))), ((a 0), .inr (8, [.ref (a 1), .ref (a 2), .int (vi 2)])), ((a 4), .inl (T 2, 27, .inr (.inl (fl 1)))), ((a 6), .inl (T 1, 9, .inl (fi 1))), ((a 1), .inr (6, [.ref (a 5), .ref (a 4), .int (vi 3), .int (vi 4), .int (vi 5), .int (vik_2 7), .int (vik_2 3), .int (vik_2 4), .long (vlk_2 0), .int (vik_2 6), .int (vik_2 5), .int (vik_2 2), .int (vik_2 0), .int (vik_2 1)])), ((a 5), .inl (T 0, 940, .inl (fi 0)))] H from ⟨hP, hD⟩)
    obtain ⟨gk_2_0, gk_2_1, gk_2_2, gk_2_3, gk_2_4, gk_2_5, -⟩ := hG
    replace gk_2_5 : ∀ n m t : Nat, CC (trn (fi 0) n) n m t (vi 4) (vi 5) (vik_1 1) (vik_1 2) (vik_1 5) (vlk_1 0) (vik_1 4) (vik_1 3) → (rk_2.toInt = 1 ∧ (fNum (trn (fi 0) n) n m (vi 0).toInt (vi 1).toInt t) = 0 ∧ (vik_2 2).toInt = (sU (trn (fi 0) n) n m t) ∧ (sK (trn (fi 0) n) n m t) = 2 ∧ (vi 0).toInt ≤ (sU (trn (fi 0) n) n m t) ∧ (sU (trn (fi 0) n) n m t) ≤ (vi 1).toInt ∧ CC (trn (fi 0) n) n m (sX (trn (fi 0) n) n m t) (vi 4) (vi 5) (vik_2 3) (vik_2 4) (vik_2 7) (vlk_2 0) (vik_2 6) (vik_2 5)) ∨ (rk_2.toInt = 0 ∧ ¬ (fNum (trn (fi 0) n) n m (vi 0).toInt (vi 1).toInt t) = 0 ∧ (vik_2 0).toInt = (fNum (trn (fi 0) n) n m (vi 0).toInt (vi 1).toInt t) ∧ (vik_2 1).toInt = ((sPn (trn (fi 0) n) n m t) : Int)) := (P_X6_passNumber gk_2_5 : _)
    replace gk_2_1 : 0 ≤ (vik_2 7).toInt ∧ (vik_2 7).toInt ≤ 940 := gk_2_1
    replace gk_2_2 : 0 ≤ (vik_2 4).toInt ∧ (vik_2 4).toInt ≤ 940 := gk_2_2
    replace gk_2_3 : 0 ≤ (vik_2 1).toInt ∧ (vik_2 1).toInt ≤ 940 := gk_2_3
    replace gk_2_4 : rk_2.toInt = 1 → (vik_2 0).toInt = (vik_1 6).toInt := gk_2_4
    rcases (show (rk_2 = 1 ∧ (True)) ∨ (rk_2 = 0 ∧ (True)) from gk_2_0) with ⟨er9, gk_2_0⟩ | ⟨er9, gk_2_0⟩
    · refine xz_i 1 er9 ?_
      have tb_1 : rk_2.toInt = 1 := by rw [er9]; decide
      refine lv_if_eq (tgt := 57) hx hb dX8_readOfName_42 (by decide) (fun c => absurd c (by decide)) (fun _ => ?_)
      refine lv_iload hx hb dX8_readOfName_45 (lv_at hl 0 rfl) ?_
      refine lv_if_lt (tgt := 57) hx hb dX8_readOfName_47 (by decide) (fun c47 => ?_) (fun c47 => ?_)
      · have c47 := xlt (k := 0) (by decide) c47
        refine lv_iconst (v := 0) hx hb dX8_readOfName_57 (by decide) ?_
        have hP9 := hP.sub (ws' := [((a 0), .inr (8, [.ref (a 1), .ref (a 2), .int (vi 2)])), ((a 1), .inr (6, [.ref (a 5), .ref (a 4), .int (vi 3), .int (vi 4), .int (vi 5), .int (vik_2 7), .int (vik_2 3), .int (vik_2 4), .long (vlk_2 0), .int (vik_2 6), .int (vik_2 5), .int (vik_2 2), .int (vik_2 0), .int (vik_2 1)])), ((a 2), .inr (7, [.int (vi 14), .int (vi 15), .ref (a 3), .ref (ex 0), .ref (ex 1), .ref (ex 2), .ref (ex 3), .ref (ex 4), .ref (ex 5), .ref (ex 6), .ref (ex 7), .ref (ex 8)])), ((a 3), .inl (T 2, 9, .inr (.inl (fl 0)))), ((a 4), .inl (T 2, 27, .inr (.inl (fl 1)))), ((a 5), .inl (T 0, 940, .inl (fi 0))), ((a 6), .inl (T 1, 9, .inl (fi 1)))]) [2, 5, 0, 1, 3, 6, 4] rfl
        have hD9 := hD.sub (ws' := [((a 0), .inr (8, [.ref (a 1), .ref (a 2), .int (vi 2)])), ((a 1), .inr (6, [.ref (a 5), .ref (a 4), .int (vi 3), .int (vi 4), .int (vi 5), .int (vik_2 7), .int (vik_2 3), .int (vik_2 4), .long (vlk_2 0), .int (vik_2 6), .int (vik_2 5), .int (vik_2 2), .int (vik_2 0), .int (vik_2 1)])), ((a 2), .inr (7, [.int (vi 14), .int (vi 15), .ref (a 3), .ref (ex 0), .ref (ex 1), .ref (ex 2), .ref (ex 3), .ref (ex 4), .ref (ex 5), .ref (ex 6), .ref (ex 7), .ref (ex 8)])), ((a 3), .inl (T 2, 9, .inr (.inl (fl 0)))), ((a 4), .inl (T 2, 27, .inr (.inl (fl 1)))), ((a 5), .inl (T 0, 940, .inl (fi 0))), ((a 6), .inl (T 1, 9, .inl (fi 1)))]) [2, 5, 0, 1, 3, 6, 4] (by decide +kernel) rfl
        rw [hQ]
        exact W.zret (v := 0) hx hb hr rfl (fun t ht hW => ⟨⟨0, 0, rfl, rfl, xf [(fi 1)], xh [], xv [(vik_2 2), (vik_2 3), (vik_2 4), (vik_2 5), (vik_2 6), (vik_2 7), (vik_2 0), (vik_2 1)], xl [(vlk_2 0)], by rw [ht]; exact hP9, hD9, ⟨(Or.inr ⟨rfl, by show True; first | trivial | omega | assumption⟩), gk_2_1, gk_2_2, gk_2_3, (by show (0 : Int32).toInt = 1 → (vik_2 0).toInt = (vi 12).toInt; have k9_0 : (0 : Int32).toInt = 0 := (by decide); exact fun h9 => absurd h9 (by decide)), (by unfold R_X8_readOfName; exact (fun Q9 k9_0 k9_1 k9_2 k9_3 k9_4 => k9_0 hp5 hp6 fik flk vik vlk rk gk_0 gk_1 fik_1 flk_1 vik_1 vlk_1 rk_1 gk_1_5 tb gk_1_0 fik_2 flk_2 vik_2 vlk_2 rk_2 gk_2_5 tb_1 gk_2_0 c47 rfl rfl rfl rfl rfl rfl rfl rfl rfl rfl rfl)), trivial⟩⟩, hS.F ht⟩) hS.2.2 dX8_readOfName_58
      · have c47 := xnlt (k := 0) (by decide) c47
        refine lv_iload hx hb dX8_readOfName_50 (lv_at hl 0 rfl) ?_
        refine lv_aload_n hx hb dX8_readOfName_52 rfl (lv_at hl 2 rfl) ?_
        refine va_alen (v := 9) hx hb hK.1 hP 4 1 rfl rfl (show Int32.ofNat 9 = 9 by decide) dX8_readOfName_53 ?_
        refine lv_icmp_lt (tgt := 59) hx hb dX8_readOfName_54 (by decide) (fun c54 => ?_) (fun c54 => ?_)
        · have c54 := xlt (k := 9) (by decide) c54
          refine lv_aload_n hx hb dX8_readOfName_59 rfl (lv_at hl 2 rfl) ?_
          refine lv_iload hx hb dX8_readOfName_60 (lv_at hl 0 rfl) ?_
          refine lv_aload_n hx hb dX8_readOfName_62 rfl (lv_at hl 1 rfl) ?_
          refine va_get (D := D) (ci := 8) (v := .ref (a 1)) (C := RX8) (T := TX8) (N := 3) hx hb htg inX8 hown hK.1 hP 2 rfl rfl 0 (by decide) (htg _ kw_228) (fun _ h9 => h9) rfl dX8_readOfName_63 ?_
          refine va_getN (D := D) (ci := 6) (v := .int (vik_2 2)) (C := RX6) (T := TX6) (N := 14) hx hb htg inX6 hown hK.1 hP 5 rfl rfl 11 (by decide) (va_Nw.use rfl (hK.2.1 _ kn_114)) (fun _ h9 => h9) rfl dX8_readOfName_66 ?_
          refine va_iast hx hb hK.1 hP hD hS 4 1 rfl rfl (vp_in_iff.mpr (by omega)) dX8_readOfName_69 (fun H locs hP hD hS => ?_)
          obtain ⟨f69, ef69, hP, hD⟩ : ∃ f7 : Nat → Int32, f7 = upd (fi 1) (vik_1 0).toNatClampNeg ((vik_2 2) : Int32) ∧ va_P D vwCl [((a 2), .inr (7, [.int (vi 14), .int (vi 15), .ref (a 3), .ref (ex 0), .ref (ex 1), .ref (ex 2), .ref (ex 3), .ref (ex 4), .ref (ex 5), .ref (ex 6), .ref (ex 7), .ref (ex 8)])), ((a 3), .inl (T 2, 9, .inr (.inl (fl 0)))), ((a 0), .inr (8, [.ref (a 1), .ref (a 2), .int (vi 2)])), ((a 4), .inl (T 2, 27, .inr (.inl (fl 1)))), ((a 6), .inl (T 1, 9, .inl f7)), ((a 1), .inr (6, [.ref (a 5), .ref (a 4), .int (vi 3), .int (vi 4), .int (vi 5), .int (vik_2 7), .int (vik_2 3), .int (vik_2 4), .long (vlk_2 0), .int (vik_2 6), .int (vik_2 5), .int (vik_2 2), .int (vik_2 0), .int (vik_2 1)])), ((a 5), .inl (T 0, 940, .inl (fi 0)))] H ∧ va_D A [((a 2), .inr (7, [.int (vi 14), .int (vi 15), .ref (a 3), .ref (ex 0), .ref (ex 1), .ref (ex 2), .ref (ex 3), .ref (ex 4), .ref (ex 5), .ref (ex 6), .ref (ex 7), .ref (ex 8)])), ((a 3), .inl (T 2, 9, .inr (.inl (fl 0)))), ((a 0), .inr (8, [.ref (a 1), .ref (a 2), .int (vi 2)])), ((a 4), .inl (T 2, 27, .inr (.inl (fl 1)))), ((a 6), .inl (T 1, 9, .inl f7)), ((a 1), .inr (6, [.ref (a 5), .ref (a 4), .int (vi 3), .int (vi 4), .int (vi 5), .int (vik_2 7), .int (vik_2 3), .int (vik_2 4), .long (vlk_2 0), .int (vik_2 6), .int (vik_2 5), .int (vik_2 2), .int (vik_2 0), .int (vik_2 1)])), ((a 5), .inl (T 0, 940, .inl (fi 0)))] := ⟨_, rfl, hP, hD⟩
          refine lv_iconst (v := 1) hx hb dX8_readOfName_70 (by decide) ?_
          have hP9 := hP.sub (ws' := [((a 0), .inr (8, [.ref (a 1), .ref (a 2), .int (vi 2)])), ((a 1), .inr (6, [.ref (a 5), .ref (a 4), .int (vi 3), .int (vi 4), .int (vi 5), .int (vik_2 7), .int (vik_2 3), .int (vik_2 4), .long (vlk_2 0), .int (vik_2 6), .int (vik_2 5), .int (vik_2 2), .int (vik_2 0), .int (vik_2 1)])), ((a 2), .inr (7, [.int (vi 14), .int (vi 15), .ref (a 3), .ref (ex 0), .ref (ex 1), .ref (ex 2), .ref (ex 3), .ref (ex 4), .ref (ex 5), .ref (ex 6), .ref (ex 7), .ref (ex 8)])), ((a 3), .inl (T 2, 9, .inr (.inl (fl 0)))), ((a 4), .inl (T 2, 27, .inr (.inl (fl 1)))), ((a 5), .inl (T 0, 940, .inl (fi 0))), ((a 6), .inl (T 1, 9, .inl f69))]) [2, 5, 0, 1, 3, 6, 4] rfl
          have hD9 := hD.sub (ws' := [((a 0), .inr (8, [.ref (a 1), .ref (a 2), .int (vi 2)])), ((a 1), .inr (6, [.ref (a 5), .ref (a 4), .int (vi 3), .int (vi 4), .int (vi 5), .int (vik_2 7), .int (vik_2 3), .int (vik_2 4), .long (vlk_2 0), .int (vik_2 6), .int (vik_2 5), .int (vik_2 2), .int (vik_2 0), .int (vik_2 1)])), ((a 2), .inr (7, [.int (vi 14), .int (vi 15), .ref (a 3), .ref (ex 0), .ref (ex 1), .ref (ex 2), .ref (ex 3), .ref (ex 4), .ref (ex 5), .ref (ex 6), .ref (ex 7), .ref (ex 8)])), ((a 3), .inl (T 2, 9, .inr (.inl (fl 0)))), ((a 4), .inl (T 2, 27, .inr (.inl (fl 1)))), ((a 5), .inl (T 0, 940, .inl (fi 0))), ((a 6), .inl (T 1, 9, .inl f69))]) [2, 5, 0, 1, 3, 6, 4] (by decide +kernel) rfl
          rw [hQ]
          exact W.zret (v := 1) hx hb hr rfl (fun t ht hW => ⟨⟨1, 1, rfl, rfl, xf [f69], xh [], xv [(vik_2 2), (vik_2 3), (vik_2 4), (vik_2 5), (vik_2 6), (vik_2 7), (vik_2 0), (vik_2 1)], xl [(vlk_2 0)], by rw [ht]; exact hP9, hD9, ⟨(Or.inl ⟨rfl, by show True; first | trivial | omega | assumption⟩), gk_2_1, gk_2_2, gk_2_3, (by show (1 : Int32).toInt = 1 → (vik_2 0).toInt = (vi 12).toInt; have k9_0 : (1 : Int32).toInt = 1 := (by decide); exact fun _ => ((gk_2_4 tb_1).trans (gk_1_4 tb))), (by unfold R_X8_readOfName; exact (fun Q9 k9_0 k9_1 k9_2 k9_3 k9_4 => k9_1 hp5 hp6 fik flk vik vlk rk gk_0 gk_1 fik_1 flk_1 vik_1 vlk_1 rk_1 gk_1_5 tb gk_1_0 fik_2 flk_2 vik_2 vlk_2 rk_2 gk_2_5 tb_1 gk_2_0 c47 c54 f69 ef69 rfl rfl rfl rfl rfl rfl rfl rfl rfl rfl rfl)), trivial⟩⟩, hS.F ht⟩) hS.2.2 dX8_readOfName_71
        · have c54 := xnlt (k := 9) (by decide) c54
          refine lv_iconst (v := 0) hx hb dX8_readOfName_57 (by decide) ?_
          have hP9 := hP.sub (ws' := [((a 0), .inr (8, [.ref (a 1), .ref (a 2), .int (vi 2)])), ((a 1), .inr (6, [.ref (a 5), .ref (a 4), .int (vi 3), .int (vi 4), .int (vi 5), .int (vik_2 7), .int (vik_2 3), .int (vik_2 4), .long (vlk_2 0), .int (vik_2 6), .int (vik_2 5), .int (vik_2 2), .int (vik_2 0), .int (vik_2 1)])), ((a 2), .inr (7, [.int (vi 14), .int (vi 15), .ref (a 3), .ref (ex 0), .ref (ex 1), .ref (ex 2), .ref (ex 3), .ref (ex 4), .ref (ex 5), .ref (ex 6), .ref (ex 7), .ref (ex 8)])), ((a 3), .inl (T 2, 9, .inr (.inl (fl 0)))), ((a 4), .inl (T 2, 27, .inr (.inl (fl 1)))), ((a 5), .inl (T 0, 940, .inl (fi 0))), ((a 6), .inl (T 1, 9, .inl (fi 1)))]) [2, 5, 0, 1, 3, 6, 4] rfl
          have hD9 := hD.sub (ws' := [((a 0), .inr (8, [.ref (a 1), .ref (a 2), .int (vi 2)])), ((a 1), .inr (6, [.ref (a 5), .ref (a 4), .int (vi 3), .int (vi 4), .int (vi 5), .int (vik_2 7), .int (vik_2 3), .int (vik_2 4), .long (vlk_2 0), .int (vik_2 6), .int (vik_2 5), .int (vik_2 2), .int (vik_2 0), .int (vik_2 1)])), ((a 2), .inr (7, [.int (vi 14), .int (vi 15), .ref (a 3), .ref (ex 0), .ref (ex 1), .ref (ex 2), .ref (ex 3), .ref (ex 4), .ref (ex 5), .ref (ex 6), .ref (ex 7), .ref (ex 8)])), ((a 3), .inl (T 2, 9, .inr (.inl (fl 0)))), ((a 4), .inl (T 2, 27, .inr (.inl (fl 1)))), ((a 5), .inl (T 0, 940, .inl (fi 0))), ((a 6), .inl (T 1, 9, .inl (fi 1)))]) [2, 5, 0, 1, 3, 6, 4] (by decide +kernel) rfl
          rw [hQ]
          exact W.zret (v := 0) hx hb hr rfl (fun t ht hW => ⟨⟨0, 0, rfl, rfl, xf [(fi 1)], xh [], xv [(vik_2 2), (vik_2 3), (vik_2 4), (vik_2 5), (vik_2 6), (vik_2 7), (vik_2 0), (vik_2 1)], xl [(vlk_2 0)], by rw [ht]; exact hP9, hD9, ⟨(Or.inr ⟨rfl, by show True; first | trivial | omega | assumption⟩), gk_2_1, gk_2_2, gk_2_3, (by show (0 : Int32).toInt = 1 → (vik_2 0).toInt = (vi 12).toInt; have k9_0 : (0 : Int32).toInt = 0 := (by decide); exact fun h9 => absurd h9 (by decide)), (by unfold R_X8_readOfName; exact (fun Q9 k9_0 k9_1 k9_2 k9_3 k9_4 => k9_2 hp5 hp6 fik flk vik vlk rk gk_0 gk_1 fik_1 flk_1 vik_1 vlk_1 rk_1 gk_1_5 tb gk_1_0 fik_2 flk_2 vik_2 vlk_2 rk_2 gk_2_5 tb_1 gk_2_0 c47 c54 rfl rfl rfl rfl rfl rfl rfl rfl rfl rfl rfl)), trivial⟩⟩, hS.F ht⟩) hS.2.2 dX8_readOfName_58
    · refine xz_i 0 er9 ?_
      have tb_1 : rk_2.toInt = 0 := by rw [er9]; decide
      refine lv_if_eq (tgt := 57) hx hb dX8_readOfName_42 (by decide) (fun _ => ?_) (fun c => absurd (by decide) c)
      refine lv_iconst (v := 0) hx hb dX8_readOfName_57 (by decide) ?_
      have hP9 := hP.sub (ws' := [((a 0), .inr (8, [.ref (a 1), .ref (a 2), .int (vi 2)])), ((a 1), .inr (6, [.ref (a 5), .ref (a 4), .int (vi 3), .int (vi 4), .int (vi 5), .int (vik_2 7), .int (vik_2 3), .int (vik_2 4), .long (vlk_2 0), .int (vik_2 6), .int (vik_2 5), .int (vik_2 2), .int (vik_2 0), .int (vik_2 1)])), ((a 2), .inr (7, [.int (vi 14), .int (vi 15), .ref (a 3), .ref (ex 0), .ref (ex 1), .ref (ex 2), .ref (ex 3), .ref (ex 4), .ref (ex 5), .ref (ex 6), .ref (ex 7), .ref (ex 8)])), ((a 3), .inl (T 2, 9, .inr (.inl (fl 0)))), ((a 4), .inl (T 2, 27, .inr (.inl (fl 1)))), ((a 5), .inl (T 0, 940, .inl (fi 0))), ((a 6), .inl (T 1, 9, .inl (fi 1)))]) [2, 5, 0, 1, 3, 6, 4] rfl
      have hD9 := hD.sub (ws' := [((a 0), .inr (8, [.ref (a 1), .ref (a 2), .int (vi 2)])), ((a 1), .inr (6, [.ref (a 5), .ref (a 4), .int (vi 3), .int (vi 4), .int (vi 5), .int (vik_2 7), .int (vik_2 3), .int (vik_2 4), .long (vlk_2 0), .int (vik_2 6), .int (vik_2 5), .int (vik_2 2), .int (vik_2 0), .int (vik_2 1)])), ((a 2), .inr (7, [.int (vi 14), .int (vi 15), .ref (a 3), .ref (ex 0), .ref (ex 1), .ref (ex 2), .ref (ex 3), .ref (ex 4), .ref (ex 5), .ref (ex 6), .ref (ex 7), .ref (ex 8)])), ((a 3), .inl (T 2, 9, .inr (.inl (fl 0)))), ((a 4), .inl (T 2, 27, .inr (.inl (fl 1)))), ((a 5), .inl (T 0, 940, .inl (fi 0))), ((a 6), .inl (T 1, 9, .inl (fi 1)))]) [2, 5, 0, 1, 3, 6, 4] (by decide +kernel) rfl
      rw [hQ]
      exact W.zret (v := 0) hx hb hr rfl (fun t ht hW => ⟨⟨0, 0, rfl, rfl, xf [(fi 1)], xh [], xv [(vik_2 2), (vik_2 3), (vik_2 4), (vik_2 5), (vik_2 6), (vik_2 7), (vik_2 0), (vik_2 1)], xl [(vlk_2 0)], by rw [ht]; exact hP9, hD9, ⟨(Or.inr ⟨rfl, by show True; first | trivial | omega | assumption⟩), gk_2_1, gk_2_2, gk_2_3, (by show (0 : Int32).toInt = 1 → (vik_2 0).toInt = (vi 12).toInt; have k9_0 : (0 : Int32).toInt = 0 := (by decide); exact fun h9 => absurd h9 (by decide)), (by unfold R_X8_readOfName; exact (fun Q9 k9_0 k9_1 k9_2 k9_3 k9_4 => k9_3 hp5 hp6 fik flk vik vlk rk gk_0 gk_1 fik_1 flk_1 vik_1 vlk_1 rk_1 gk_1_5 tb gk_1_0 fik_2 flk_2 vik_2 vlk_2 rk_2 gk_2_5 tb_1 gk_2_0 rfl rfl rfl rfl rfl rfl rfl rfl rfl rfl rfl)), trivial⟩⟩, hS.F ht⟩) hS.2.2 dX8_readOfName_58
  · refine xz_i 0 er9 ?_
    have tb : rk_1.toInt = 0 := by rw [er9]; decide
    refine lv_if_ne (tgt := 24) hx hb dX8_readOfName_19 (by decide) (fun c => absurd (by decide) c) (fun _ => ?_)
    refine lv_iconst (v := 0) hx hb dX8_readOfName_22 (by decide) ?_
    have hP9 := hP.sub (ws' := [((a 0), .inr (8, [.ref (a 1), .ref (a 2), .int (vi 2)])), ((a 1), .inr (6, [.ref (a 5), .ref (a 4), .int (vi 3), .int (vi 4), .int (vi 5), .int (vik_1 5), .int (vik_1 1), .int (vik_1 2), .long (vlk_1 0), .int (vik_1 4), .int (vik_1 3), .int (vik_1 0), .int (vik_1 6), .int (vik_1 7)])), ((a 2), .inr (7, [.int (vi 14), .int (vi 15), .ref (a 3), .ref (ex 0), .ref (ex 1), .ref (ex 2), .ref (ex 3), .ref (ex 4), .ref (ex 5), .ref (ex 6), .ref (ex 7), .ref (ex 8)])), ((a 3), .inl (T 2, 9, .inr (.inl (fl 0)))), ((a 4), .inl (T 2, 27, .inr (.inl (fl 1)))), ((a 5), .inl (T 0, 940, .inl (fi 0))), ((a 6), .inl (T 1, 9, .inl (fi 1)))]) [2, 3, 0, 1, 4, 5, 6] rfl
    have hD9 := hD.sub (ws' := [((a 0), .inr (8, [.ref (a 1), .ref (a 2), .int (vi 2)])), ((a 1), .inr (6, [.ref (a 5), .ref (a 4), .int (vi 3), .int (vi 4), .int (vi 5), .int (vik_1 5), .int (vik_1 1), .int (vik_1 2), .long (vlk_1 0), .int (vik_1 4), .int (vik_1 3), .int (vik_1 0), .int (vik_1 6), .int (vik_1 7)])), ((a 2), .inr (7, [.int (vi 14), .int (vi 15), .ref (a 3), .ref (ex 0), .ref (ex 1), .ref (ex 2), .ref (ex 3), .ref (ex 4), .ref (ex 5), .ref (ex 6), .ref (ex 7), .ref (ex 8)])), ((a 3), .inl (T 2, 9, .inr (.inl (fl 0)))), ((a 4), .inl (T 2, 27, .inr (.inl (fl 1)))), ((a 5), .inl (T 0, 940, .inl (fi 0))), ((a 6), .inl (T 1, 9, .inl (fi 1)))]) [2, 3, 0, 1, 4, 5, 6] (by decide +kernel) rfl
    rw [hQ]
    exact W.zret (v := 0) hx hb hr rfl (fun t ht hW => ⟨⟨0, 0, rfl, rfl, xf [(fi 1)], xh [], xv [(vik_1 0), (vik_1 1), (vik_1 2), (vik_1 3), (vik_1 4), (vik_1 5), (vik_1 6), (vik_1 7)], xl [(vlk_1 0)], by rw [ht]; exact hP9, hD9, ⟨(Or.inr ⟨rfl, by show True; first | trivial | omega | assumption⟩), gk_1_1, gk_1_2, gk_1_3, (by show (0 : Int32).toInt = 1 → (vik_1 6).toInt = (vi 12).toInt; have k9_0 : (0 : Int32).toInt = 0 := (by decide); exact fun h9 => absurd h9 (by decide)), (by unfold R_X8_readOfName; exact (fun Q9 k9_0 k9_1 k9_2 k9_3 k9_4 => k9_4 hp5 hp6 fik flk vik vlk rk gk_0 gk_1 fik_1 flk_1 vik_1 vlk_1 rk_1 gk_1_5 tb gk_1_0 rfl rfl rfl rfl rfl rfl rfl rfl rfl rfl rfl)), trivial⟩⟩, hS.F ht⟩) hS.2.2 dX8_readOfName_23
abbrev pre_J0_coder_7d493_23 (T : Nat → ClassId) (a ex : Nat → Nat) (fi : Nat → Nat → Int32) (fl : Nat → Nat → Int64) (vi : Nat → Int32) (vl : Nat → Int64) : va_W := []
set_option maxHeartbeats 8000000 in
set_option maxRecDepth 100000 in
theorem c_J0_coder_7d493_23 (l : Launch) (D : va_G) (T : Nat → ClassId) (a ex : Nat → Nat) (fi : Nat → Nat → Int32) (fl : Nat → Nat → Int64) (vi : Nat → Int32) (vl : Nat → Int64) (kK kV : Nat → Nat) (sz : Nat) : Met l yJ0_coder_7d493 (xw yJ0_coder_7d493 cJ0_coder_7d493 1 (some .byte)) ({ frames := 0, cells := 0, slots := 0, locals := 0 }) (xPs D T kK kV [.ref (kK 5)] sz (pre_J0_coder_7d493_23 T a ex fi fl vi vl)) (va_Qi (fun r u => r = u) (xC D (va_A (pre_J0_coder_7d493_23 T a ex fi fl vi vl) sz) (fun fj fm vj vm => []) (fun (r : Int32) (fj : Nat → Nat → Int32) (fm : Nat → Nat → Int64) (vj : Nat → Int32) (vm : Nat → Int64) => r = 0 ∧ True)) (va_A (pre_J0_coder_7d493_23 T a ex fi fl vi vl) sz)) 0 0 (va_A (pre_J0_coder_7d493_23 T a ex fi fl vi vl) sz) := by
  refine xofW (cc := cJ0_coder_7d493) (maxL := 1) (ret := (some .byte)) (by decide) rfl ?_
  intro p e s m args below meth c s₁ R Q hR hQ B hml hv
  obtain ⟨rfl, hsz, hP, hK, hD0, hT⟩ := hv
  have hx := B.exec
  have hb := B.bytes
  have hr := B.returns
  have hts := atoms_spec (ws := xw yJ0_coder_7d493 cJ0_coder_7d493 1 (some .byte)) B.pre
  have htg : ∀ w ∈ xg, w.before _ s = true := fun w h => hts w (List.mem_cons_of_mem _ h)
  have hown : s.vm.findClass RJ0 = some m.cls := findClass_of_methodNamed B.named
  have hlocks := B.notSynchronized
  subst hsz
  have hD := hD0.self (sz := s.heap.size)
  generalize hAe : va_A (pre_J0_coder_7d493_23 T a ex fi fl vi vl) s.heap.size = A at hD hQ hT
  have hA : ∀ q : Nat, s.heap.size ≤ q → A q := fun q h => by rw [← hAe]; exact Or.inr h
  have hS : va_S A s.heap s.heap [] := va_S.rf
  replace hP : va_P D vwCl [] s.heap := hP
  replace hD : va_D A [] := hD
  have hl := lv_entry ([.ref (kK 5)]) (n := 1) (Nat.le_of_ble_eq_true rfl)
  rw [lg_entry_eq]
  generalize (lg_sl ([.ref (kK 5)]) ++ List.replicate (1 - (lg_sl ([.ref (kK 5)])).length) Slot.unset).toArray = ls at hl ⊢
  replace hl : lv_has ls 1 [(0, .ref (kK 5))] := hl
  refine va_gets hx hb hT.2.2.1 hS hown (htg _ kw_52) (fun _ h9 => h9) dJ0_coder_7d493_0 ?_
  refine lv_if_eq (tgt := 13) hx hb dJ0_coder_7d493_3 (by decide) (fun c => absurd c (by decide)) (fun _ => ?_)
  refine lv_aload_n hx hb dJ0_coder_7d493_6 rfl (lv_at hl 0 rfl) ?_
  refine vk_getf hx hb (hT.2.1 5 (by decide)).2.1 hS hown (htg _ kw_2031) (fun _ h9 => h9) dJ0_coder_7d493_7 ?_
  refine lv_goto (tgt := 14) hx hb dJ0_coder_7d493_10 (by decide) ?_
  have hP9 := hP.sub (ws' := []) [] rfl
  have hD9 := hD.sub (ws' := []) [] (by decide +kernel) rfl
  rw [hQ]
  exact W.zret (v := 0) hx hb hr rfl (fun t ht hW => ⟨⟨0, 0, rfl, rfl, xf [], xh [], xv [], xl [], by rw [ht]; exact hP9, hD9, ⟨rfl, trivial⟩⟩, hS.F ht⟩) hS.2.2 dJ0_coder_7d493_14
abbrev pre_J0_length_8abf5_23 (T : Nat → ClassId) (a ex : Nat → Nat) (fi : Nat → Nat → Int32) (fl : Nat → Nat → Int64) (vi : Nat → Int32) (vl : Nat → Int64) : va_W := []
set_option maxHeartbeats 8000000 in
set_option maxRecDepth 100000 in
theorem c_J0_length_8abf5_23 (l : Launch) (D : va_G) (T : Nat → ClassId) (a ex : Nat → Nat) (fi : Nat → Nat → Int32) (fl : Nat → Nat → Int64) (vi : Nat → Int32) (vl : Nat → Int64) (kK kV : Nat → Nat) (sz : Nat) : Met l yJ0_length_8abf5 (xw yJ0_length_8abf5 cJ0_length_8abf5 1 (some .int)) ({ frames := 1, cells := 0, slots := 0, locals := 24 }) (xPs D T kK kV [.ref (kK 5)] sz (pre_J0_length_8abf5_23 T a ex fi fl vi vl)) (va_Qi (fun r u => r = u) (xC D (va_A (pre_J0_length_8abf5_23 T a ex fi fl vi vl) sz) (fun fj fm vj vm => []) (fun (r : Int32) (fj : Nat → Nat → Int32) (fm : Nat → Nat → Int64) (vj : Nat → Int32) (vm : Nat → Int64) => r = 5 ∧ True)) (va_A (pre_J0_length_8abf5_23 T a ex fi fl vi vl) sz)) 0 0 (va_A (pre_J0_length_8abf5_23 T a ex fi fl vi vl) sz) := by
  refine xofW (cc := cJ0_length_8abf5) (maxL := 1) (ret := (some .int)) (by decide) rfl ?_
  intro p e s m args below meth c s₁ R Q hR hQ B hml hv
  obtain ⟨rfl, hsz, hP, hK, hD0, hT⟩ := hv
  have hx := B.exec
  have hb := B.bytes
  have hr := B.returns
  have hts := atoms_spec (ws := xw yJ0_length_8abf5 cJ0_length_8abf5 1 (some .int)) B.pre
  have htg : ∀ w ∈ xg, w.before _ s = true := fun w h => hts w (List.mem_cons_of_mem _ h)
  have hown : s.vm.findClass RJ0 = some m.cls := findClass_of_methodNamed B.named
  have hlocks := B.notSynchronized
  subst hsz
  have hD := hD0.self (sz := s.heap.size)
  generalize hAe : va_A (pre_J0_length_8abf5_23 T a ex fi fl vi vl) s.heap.size = A at hD hQ hT
  have hA : ∀ q : Nat, s.heap.size ≤ q → A q := fun q h => by rw [← hAe]; exact Or.inr h
  have hS : va_S A s.heap s.heap [] := va_S.rf
  replace hP : va_P D vwCl [] s.heap := hP
  replace hD : va_D A [] := hD
  have hl := lv_entry ([.ref (kK 5)]) (n := 1) (Nat.le_of_ble_eq_true rfl)
  rw [lg_entry_eq]
  generalize (lg_sl ([.ref (kK 5)]) ++ List.replicate (1 - (lg_sl ([.ref (kK 5)])).length) Slot.unset).toArray = ls at hl ⊢
  replace hl : lv_has ls 1 [(0, .ref (kK 5))] := hl
  refine lv_aload_n hx hb dJ0_length_8abf5_0 rfl (lv_at hl 0 rfl) ?_
  refine vk_getf hx hb (hT.2.1 5 (by decide)).2.2.1 hS hown (htg _ kw_2030) (fun _ h9 => h9) dJ0_length_8abf5_1 ?_
  refine va_tlen (v := 5) hx hb (hT.2.1 5 (by decide)).2.2.2 hS (by decide) dJ0_length_8abf5_4 ?_
  refine lv_aload_n hx hb dJ0_length_8abf5_5 rfl (lv_at hl 0 rfl) ?_
  obtain ⟨hC9, hPc, hDc, hFc⟩ := xcut (wc := (pre_J0_coder_7d493_23 T (xa []) (xa []) (xf []) (xh []) (xv []) (xl []))) hP hD hS hA [] (by decide) rfl
  refine va_calli (va_runV (As := []) (rest := [.int 5]) ⟨hx, hb, hml, hown, htg⟩ (c_J0_coder_7d493_23 l D T (xa []) (xa []) (xf []) (xh []) (xv []) (xl []) kK kV s.heap.size) ⟨callB_of 0 htg (xg_ok kw_51) rfl rfl rfl (htg _ kw_3) (htg _ kw_48) (by decide +kernel) ⟨by rw [hR]; exact Nat.le_of_ble_eq_true rfl, by rw [hR]; exact Nat.le_of_ble_eq_true rfl⟩, htg _ kw_49, htg _ kw_50⟩ (xpreVs hK hPc hDc hT hFc hS (xT.recv hT 5 (by decide) hS)) rfl rfl hl.1 rfl (lv_room (Nat.le_of_ble_eq_true rfl)) dJ0_length_8abf5_6 ⟨by rw [hR]; exact Nat.le_of_ble_eq_true rfl, by rw [hR]; exact Nat.le_of_ble_eq_true rfl⟩) hS (fun q _ h => hFc q h) hFc (fun r9 u9 t H1 locs ht hvm hw hB hz1 hk1 hS => ?_)
  subst hw
  obtain ⟨fik, flk, vik, vlk, hP1, hD1, hG⟩ := hB
  rw [ht] at hP1
  obtain ⟨hP, hD⟩ := va_join (wr := []) (w1 := []) hP hD [] [] hC9 rfl (by decide) (by decide) hk1 hFc hP1 hD1
  obtain ⟨rk, er9⟩ : ∃ z, z = r9 := ⟨_, rfl⟩
  subst er9
  clear hPc hDc hFc hP1 hD1 hk1 hz1 hvm ht hC9
  generalize H1 = H at hP hS ⊢
  obtain ⟨hP, hD⟩ := (show xPD D A [] H from ⟨hP, hD⟩)
  obtain ⟨gk_0, -⟩ := hG
  replace gk_0 : rk = 0 := gk_0
  refine xz_i 0 gk_0 ?_
  refine lv_ishr hx hb dJ0_length_8abf5_9 ?_
  refine xz_i 5 (by decide) ?_
  have hP9 := hP.sub (ws' := []) [] rfl
  have hD9 := hD.sub (ws' := []) [] (by decide +kernel) rfl
  rw [hQ]
  exact W.iret (v := 5) hx hb hr (fun t ht hW => ⟨⟨5, 5, rfl, rfl, xf [], xh [], xv [], xl [], by rw [ht]; exact hP9, hD9, ⟨rfl, trivial⟩⟩, hS.F ht⟩) hS.2.2 dJ0_length_8abf5_10
abbrev pre_J0_isLatin1_aae02_23 (T : Nat → ClassId) (a ex : Nat → Nat) (fi : Nat → Nat → Int32) (fl : Nat → Nat → Int64) (vi : Nat → Int32) (vl : Nat → Int64) : va_W := []
set_option maxHeartbeats 8000000 in
set_option maxRecDepth 100000 in
theorem c_J0_isLatin1_aae02_23 (l : Launch) (D : va_G) (T : Nat → ClassId) (a ex : Nat → Nat) (fi : Nat → Nat → Int32) (fl : Nat → Nat → Int64) (vi : Nat → Int32) (vl : Nat → Int64) (kK kV : Nat → Nat) (sz : Nat) : Met l yJ0_isLatin1_aae02 (xw yJ0_isLatin1_aae02 cJ0_isLatin1_aae02 1 (some .boolean)) ({ frames := 0, cells := 0, slots := 0, locals := 0 }) (xPs D T kK kV [.ref (kK 5)] sz (pre_J0_isLatin1_aae02_23 T a ex fi fl vi vl)) (va_Qi (fun r u => r = u) (xC D (va_A (pre_J0_isLatin1_aae02_23 T a ex fi fl vi vl) sz) (fun fj fm vj vm => []) (fun (r : Int32) (fj : Nat → Nat → Int32) (fm : Nat → Nat → Int64) (vj : Nat → Int32) (vm : Nat → Int64) => r = 1 ∧ True)) (va_A (pre_J0_isLatin1_aae02_23 T a ex fi fl vi vl) sz)) 0 0 (va_A (pre_J0_isLatin1_aae02_23 T a ex fi fl vi vl) sz) := by
  refine xofW (cc := cJ0_isLatin1_aae02) (maxL := 1) (ret := (some .boolean)) (by decide) rfl ?_
  intro p e s m args below meth c s₁ R Q hR hQ B hml hv
  obtain ⟨rfl, hsz, hP, hK, hD0, hT⟩ := hv
  have hx := B.exec
  have hb := B.bytes
  have hr := B.returns
  have hts := atoms_spec (ws := xw yJ0_isLatin1_aae02 cJ0_isLatin1_aae02 1 (some .boolean)) B.pre
  have htg : ∀ w ∈ xg, w.before _ s = true := fun w h => hts w (List.mem_cons_of_mem _ h)
  have hown : s.vm.findClass RJ0 = some m.cls := findClass_of_methodNamed B.named
  have hlocks := B.notSynchronized
  subst hsz
  have hD := hD0.self (sz := s.heap.size)
  generalize hAe : va_A (pre_J0_isLatin1_aae02_23 T a ex fi fl vi vl) s.heap.size = A at hD hQ hT
  have hA : ∀ q : Nat, s.heap.size ≤ q → A q := fun q h => by rw [← hAe]; exact Or.inr h
  have hS : va_S A s.heap s.heap [] := va_S.rf
  replace hP : va_P D vwCl [] s.heap := hP
  replace hD : va_D A [] := hD
  have hl := lv_entry ([.ref (kK 5)]) (n := 1) (Nat.le_of_ble_eq_true rfl)
  rw [lg_entry_eq]
  generalize (lg_sl ([.ref (kK 5)]) ++ List.replicate (1 - (lg_sl ([.ref (kK 5)])).length) Slot.unset).toArray = ls at hl ⊢
  replace hl : lv_has ls 1 [(0, .ref (kK 5))] := hl
  refine va_gets hx hb hT.2.2.1 hS hown (htg _ kw_52) (fun _ h9 => h9) dJ0_isLatin1_aae02_0 ?_
  refine lv_if_eq (tgt := 17) hx hb dJ0_isLatin1_aae02_3 (by decide) (fun c => absurd c (by decide)) (fun _ => ?_)
  refine lv_aload_n hx hb dJ0_isLatin1_aae02_6 rfl (lv_at hl 0 rfl) ?_
  refine vk_getf hx hb (hT.2.1 5 (by decide)).2.1 hS hown (htg _ kw_2031) (fun _ h9 => h9) dJ0_isLatin1_aae02_7 ?_
  refine lv_if_ne (tgt := 17) hx hb dJ0_isLatin1_aae02_10 (by decide) (fun c => absurd (by decide) c) (fun _ => ?_)
  refine lv_iconst (v := 1) hx hb dJ0_isLatin1_aae02_13 (by decide) ?_
  refine lv_goto (tgt := 18) hx hb dJ0_isLatin1_aae02_14 (by decide) ?_
  have hP9 := hP.sub (ws' := []) [] rfl
  have hD9 := hD.sub (ws' := []) [] (by decide +kernel) rfl
  rw [hQ]
  exact W.zret (v := 1) hx hb hr rfl (fun t ht hW => ⟨⟨1, 1, rfl, rfl, xf [], xh [], xv [], xl [], by rw [ht]; exact hP9, hD9, ⟨rfl, trivial⟩⟩, hS.F ht⟩) hS.2.2 dJ0_isLatin1_aae02_18
abbrev pre_J1_charAt_3b067_23 (T : Nat → ClassId) (a ex : Nat → Nat) (fi : Nat → Nat → Int32) (fl : Nat → Nat → Int64) (vi : Nat → Int32) (vl : Nat → Int64) : va_W := []
set_option maxHeartbeats 8000000 in
set_option maxRecDepth 100000 in
theorem c_J1_charAt_3b067_23 (l : Launch) (D : va_G) (T : Nat → ClassId) (a ex : Nat → Nat) (fi : Nat → Nat → Int32) (fl : Nat → Nat → Int64) (vi : Nat → Int32) (vl : Nat → Int64) (kK kV : Nat → Nat) (sz : Nat) (hp0 : 0 ≤ (vi 0).toInt ∧ (vi 0).toInt ≤ 4) : Met l yJ1_charAt_3b067 (xw yJ1_charAt_3b067 cJ1_charAt_3b067 2 (some .char)) ({ frames := 2, cells := 0, slots := 0, locals := 51 }) (xPs D T kK kV [.ref (kV 5), .int (vi 0)] sz (pre_J1_charAt_3b067_23 T a ex fi fl vi vl)) (va_Qi (fun r u => r = u) (xC D (va_A (pre_J1_charAt_3b067_23 T a ex fi fl vi vl) sz) (fun fj fm vj vm => []) (fun (r : Int32) (fj : Nat → Nat → Int32) (fm : Nat → Nat → Int64) (vj : Nat → Int32) (vm : Nat → Int64) => narrow .char (.int r) = .int r ∧ R_J1_charAt_3b067_23 fi fl vi vl r fj fm vj vm ∧ True)) (va_A (pre_J1_charAt_3b067_23 T a ex fi fl vi vl) sz)) 0 0 (va_A (pre_J1_charAt_3b067_23 T a ex fi fl vi vl) sz) := by
  refine xofW (cc := cJ1_charAt_3b067) (maxL := 2) (ret := (some .char)) (by decide) rfl ?_
  intro p e s m args below meth c s₁ R Q hR hQ B hml hv
  obtain ⟨rfl, hsz, hP, hK, hD0, hT⟩ := hv
  have hx := B.exec
  have hb := B.bytes
  have hr := B.returns
  have hts := atoms_spec (ws := xw yJ1_charAt_3b067 cJ1_charAt_3b067 2 (some .char)) B.pre
  have htg : ∀ w ∈ xg, w.before _ s = true := fun w h => hts w (List.mem_cons_of_mem _ h)
  have hown : s.vm.findClass RJ1 = some m.cls := findClass_of_methodNamed B.named
  have hlocks := B.notSynchronized
  subst hsz
  have hD := hD0.self (sz := s.heap.size)
  generalize hAe : va_A (pre_J1_charAt_3b067_23 T a ex fi fl vi vl) s.heap.size = A at hD hQ hT
  have hA : ∀ q : Nat, s.heap.size ≤ q → A q := fun q h => by rw [← hAe]; exact Or.inr h
  have hS : va_S A s.heap s.heap [] := va_S.rf
  replace hP : va_P D vwCl [] s.heap := hP
  replace hD : va_D A [] := hD
  have hl := lv_entry ([.ref (kV 5), .int (vi 0)]) (n := 2) (Nat.le_of_ble_eq_true rfl)
  rw [lg_entry_eq]
  generalize (lg_sl ([.ref (kV 5), .int (vi 0)]) ++ List.replicate (2 - (lg_sl ([.ref (kV 5), .int (vi 0)])).length) Slot.unset).toArray = ls at hl ⊢
  replace hl : lv_has ls 2 [(0, .ref (kV 5)), (1, .int (vi 0))] := hl
  refine lv_iload_n hx hb dJ1_charAt_3b067_0 rfl (lv_at hl 1 rfl) ?_
  refine lv_aload_n hx hb dJ1_charAt_3b067_1 rfl (lv_at hl 0 rfl) ?_
  refine va_tlen (v := 5) hx hb (hT.2.1 5 (by decide)).2.2.2 hS (by decide) dJ1_charAt_3b067_2 ?_
  obtain ⟨hC9, hPc, hDc, hFc⟩ := xcut (wc := (pre_J0_checkIndex_df160_2 T (xa []) (xa []) (xf []) (xh []) (xv [(vi 0)]) (xl []))) hP hD hS hA [] (by decide) rfl
  refine va_callv (va_runS (As := [.int (vi 0), .int 5]) (rest := []) ⟨hx, hb, hml, hown, htg⟩ (c_J0_checkIndex_df160_2 l D T (xa []) (xa []) (xf []) (xh []) (xv [(vi 0)]) (xl []) kK kV s.heap.size hp0) ⟨callB_of 2 htg (xg_ok kw_67) rfl rfl rfl (htg _ kw_3) (htg _ kw_65) (by decide +kernel) ⟨by rw [hR]; exact Nat.le_of_ble_eq_true rfl, by rw [hR]; exact Nat.le_of_ble_eq_true rfl⟩, htg _ kw_66⟩ (xpreSs hK hPc hDc hT hFc hS) rfl rfl hl.1 rfl (lv_room (Nat.le_of_ble_eq_true rfl)) dJ1_charAt_3b067_3 ⟨by rw [hR]; exact Nat.le_of_ble_eq_true rfl, by rw [hR]; exact Nat.le_of_ble_eq_true rfl⟩) hS (fun q _ h => hFc q h) hFc (fun u9 t H1 locs ht hvm hw hB hz1 hk1 hS => ?_)
  obtain ⟨fik, flk, vik, vlk, hP1, hD1, hG⟩ := hB
  rw [ht] at hP1
  obtain ⟨hP, hD⟩ := va_join (wr := []) (w1 := []) hP hD [] [] hC9 rfl (by decide) (by decide) hk1 hFc hP1 hD1
  clear hPc hDc hFc hP1 hD1 hk1 hz1 hvm ht hC9
  generalize H1 = H at hP hS ⊢
  obtain ⟨hP, hD⟩ := (show xPD D A [] H from ⟨hP, hD⟩)
  obtain ⟨uk, eu9⟩ : ∃ z, z = u9 := ⟨_, rfl⟩
  subst eu9
  clear hG
  refine lv_aload_n hx hb dJ1_charAt_3b067_6 rfl (lv_at hl 0 rfl) ?_
  refine lv_iload_n hx hb dJ1_charAt_3b067_7 rfl (lv_at hl 1 rfl) ?_
  refine va_tb hx hb (hT.2.1 5 (by decide)).2.2.2 hS (show vp_in (vi 0) 5 from (vp_in_iff.mpr (by omega))) rfl dJ1_charAt_3b067_8 ?_
  refine lv_topi (fun z8 ez8 => ?_)
  refine lv_sipush (v := 255) hx hb dJ1_charAt_3b067_9 (by decide) ?_
  refine lv_iand hx hb dJ1_charAt_3b067_12 ?_
  refine lv_topi (fun z12 ez12 => ?_)
  have tz12 : 0 ≤ z12.toInt ∧ z12.toInt ≤ 255 := by rw [ez12]; exact xand255 _
  refine lv_i2c hx hb dJ1_charAt_3b067_13 rfl ?_
  refine lv_topi (fun z13 ez13 => ?_)
  have nz13 : narrow .char (.int z13) = .int z13 := by rw [ez13]; exact pk_nc _
  have hP9 := hP.sub (ws' := []) [] rfl
  have hD9 := hD.sub (ws' := []) [] (by decide +kernel) rfl
  rw [hQ]
  exact W.zret (v := z13) hx hb hr nz13 (fun t ht hW => ⟨⟨z13, z13, rfl, rfl, xf [], xh [], xv [], xl [], by rw [ht]; exact hP9, hD9, ⟨nz13, (by unfold R_J1_charAt_3b067_23; exact (fun Q9 k9_0 => k9_0 hp0 fik flk vik vlk uk z8 ez8 z12 ez12 z13 ez13 rfl)), trivial⟩⟩, hS.F ht⟩) hS.2.2 dJ1_charAt_3b067_14
abbrev pre_J0_charAt_5068e_23 (T : Nat → ClassId) (a ex : Nat → Nat) (fi : Nat → Nat → Int32) (fl : Nat → Nat → Int64) (vi : Nat → Int32) (vl : Nat → Int64) : va_W := []
set_option maxHeartbeats 8000000 in
set_option maxRecDepth 100000 in
theorem c_J0_charAt_5068e_23 (l : Launch) (D : va_G) (T : Nat → ClassId) (a ex : Nat → Nat) (fi : Nat → Nat → Int32) (fl : Nat → Nat → Int64) (vi : Nat → Int32) (vl : Nat → Int64) (kK kV : Nat → Nat) (sz : Nat) (hp0 : 0 ≤ (vi 0).toInt ∧ (vi 0).toInt ≤ 4) : Met l yJ0_charAt_5068e (xw yJ0_charAt_5068e cJ0_charAt_5068e 2 (some .char)) ({ frames := 3, cells := 0, slots := 0, locals := 76 }) (xPs D T kK kV [.ref (kK 5), .int (vi 0)] sz (pre_J0_charAt_5068e_23 T a ex fi fl vi vl)) (va_Qi (fun r u => r = u) (xC D (va_A (pre_J0_charAt_5068e_23 T a ex fi fl vi vl) sz) (fun fj fm vj vm => []) (fun (r : Int32) (fj : Nat → Nat → Int32) (fm : Nat → Nat → Int64) (vj : Nat → Int32) (vm : Nat → Int64) => narrow .char (.int r) = .int r ∧ R_J0_charAt_5068e_23 fi fl vi vl r fj fm vj vm ∧ True)) (va_A (pre_J0_charAt_5068e_23 T a ex fi fl vi vl) sz)) 0 0 (va_A (pre_J0_charAt_5068e_23 T a ex fi fl vi vl) sz) := by
  refine xofW (cc := cJ0_charAt_5068e) (maxL := 2) (ret := (some .char)) (by decide) rfl ?_
  intro p e s m args below meth c s₁ R Q hR hQ B hml hv
  obtain ⟨rfl, hsz, hP, hK, hD0, hT⟩ := hv
  have hx := B.exec
  have hb := B.bytes
  have hr := B.returns
  have hts := atoms_spec (ws := xw yJ0_charAt_5068e cJ0_charAt_5068e 2 (some .char)) B.pre
  have htg : ∀ w ∈ xg, w.before _ s = true := fun w h => hts w (List.mem_cons_of_mem _ h)
  have hown : s.vm.findClass RJ0 = some m.cls := findClass_of_methodNamed B.named
  have hlocks := B.notSynchronized
  subst hsz
  have hD := hD0.self (sz := s.heap.size)
  generalize hAe : va_A (pre_J0_charAt_5068e_23 T a ex fi fl vi vl) s.heap.size = A at hD hQ hT
  have hA : ∀ q : Nat, s.heap.size ≤ q → A q := fun q h => by rw [← hAe]; exact Or.inr h
  have hS : va_S A s.heap s.heap [] := va_S.rf
  replace hP : va_P D vwCl [] s.heap := hP
  replace hD : va_D A [] := hD
  have hl := lv_entry ([.ref (kK 5), .int (vi 0)]) (n := 2) (Nat.le_of_ble_eq_true rfl)
  rw [lg_entry_eq]
  generalize (lg_sl ([.ref (kK 5), .int (vi 0)]) ++ List.replicate (2 - (lg_sl ([.ref (kK 5), .int (vi 0)])).length) Slot.unset).toArray = ls at hl ⊢
  replace hl : lv_has ls 2 [(0, .ref (kK 5)), (1, .int (vi 0))] := hl
  refine lv_aload_n hx hb dJ0_charAt_5068e_0 rfl (lv_at hl 0 rfl) ?_
  obtain ⟨hC9, hPc, hDc, hFc⟩ := xcut (wc := (pre_J0_isLatin1_aae02_23 T (xa []) (xa []) (xf []) (xh []) (xv []) (xl []))) hP hD hS hA [] (by decide) rfl
  refine va_calli (va_runV (As := []) (rest := []) ⟨hx, hb, hml, hown, htg⟩ (c_J0_isLatin1_aae02_23 l D T (xa []) (xa []) (xf []) (xh []) (xv []) (xl []) kK kV s.heap.size) ⟨callB_of 0 htg (xg_ok kw_61) rfl rfl rfl (htg _ kw_3) (htg _ kw_58) (by decide +kernel) ⟨by rw [hR]; exact Nat.le_of_ble_eq_true rfl, by rw [hR]; exact Nat.le_of_ble_eq_true rfl⟩, htg _ kw_59, htg _ kw_60⟩ (xpreVs hK hPc hDc hT hFc hS (xT.recv hT 5 (by decide) hS)) rfl rfl hl.1 rfl (lv_room (Nat.le_of_ble_eq_true rfl)) dJ0_charAt_5068e_1 ⟨by rw [hR]; exact Nat.le_of_ble_eq_true rfl, by rw [hR]; exact Nat.le_of_ble_eq_true rfl⟩) hS (fun q _ h => hFc q h) hFc (fun r9 u9 t H1 locs ht hvm hw hB hz1 hk1 hS => ?_)
  subst hw
  obtain ⟨fik, flk, vik, vlk, hP1, hD1, hG⟩ := hB
  rw [ht] at hP1
  obtain ⟨hP, hD⟩ := va_join (wr := []) (w1 := []) hP hD [] [] hC9 rfl (by decide) (by decide) hk1 hFc hP1 hD1
  obtain ⟨rk, er9⟩ : ∃ z, z = r9 := ⟨_, rfl⟩
  subst er9
  clear hPc hDc hFc hP1 hD1 hk1 hz1 hvm ht hC9
  generalize H1 = H at hP hS ⊢
  obtain ⟨hP, hD⟩ := (show xPD D A [] H from ⟨hP, hD⟩)
  obtain ⟨gk_0, -⟩ := hG
  replace gk_0 : rk = 1 := gk_0
  refine xz_i 1 gk_0 ?_
  refine lv_if_eq (tgt := 16) hx hb dJ0_charAt_5068e_4 (by decide) (fun c => absurd c (by decide)) (fun _ => ?_)
  refine lv_aload_n hx hb dJ0_charAt_5068e_7 rfl (lv_at hl 0 rfl) ?_
  refine vk_getf hx hb (hT.2.1 5 (by decide)).2.2.1 hS hown (htg _ kw_2030) (fun _ h9 => h9) dJ0_charAt_5068e_8 ?_
  refine lv_iload_n hx hb dJ0_charAt_5068e_11 rfl (lv_at hl 1 rfl) ?_
  obtain ⟨hC9, hPc, hDc, hFc⟩ := xcut (wc := (pre_J1_charAt_3b067_23 T (xa []) (xa []) (xf []) (xh []) (xv [(vi 0)]) (xl []))) hP hD hS hA [] (by decide) rfl
  refine va_calli (va_runS (As := [.ref (kV 5), .int (vi 0)]) (rest := []) ⟨hx, hb, hml, hown, htg⟩ (c_J1_charAt_3b067_23 l D T (xa []) (xa []) (xf []) (xh []) (xv [(vi 0)]) (xl []) kK kV H.size hp0) ⟨callB_of 2 htg (xg_ok kw_64) rfl rfl rfl (htg _ kw_4) (htg _ kw_62) (by decide +kernel) ⟨by rw [hR]; exact Nat.le_of_ble_eq_true rfl, by rw [hR]; exact Nat.le_of_ble_eq_true rfl⟩, htg _ kw_63⟩ (xpreSs hK hPc hDc hT hFc hS) rfl rfl hl.1 rfl (lv_room (Nat.le_of_ble_eq_true rfl)) dJ0_charAt_5068e_12 ⟨by rw [hR]; exact Nat.le_of_ble_eq_true rfl, by rw [hR]; exact Nat.le_of_ble_eq_true rfl⟩) hS (fun q _ h => hFc q h) hFc (fun r9 u9 t H1 locs ht hvm hw hB hz1 hk1 hS => ?_)
  subst hw
  obtain ⟨fik_1, flk_1, vik_1, vlk_1, hP1, hD1, hG⟩ := hB
  rw [ht] at hP1
  obtain ⟨hP, hD⟩ := va_join (wr := []) (w1 := []) hP hD [] [] hC9 rfl (by decide) (by decide) hk1 hFc hP1 hD1
  obtain ⟨rk_1, er9⟩ : ∃ z, z = r9 := ⟨_, rfl⟩
  subst er9
  clear hPc hDc hFc hP1 hD1 hk1 hz1 hvm ht hC9
  generalize H1 = H at hP hS ⊢
  obtain ⟨hP, hD⟩ := (show xPD D A [] H from ⟨hP, hD⟩)
  obtain ⟨gk_1_0, gk_1_1, -⟩ := hG
  replace gk_1_1 : rk_1 = (sBy.getD 5 []).getD ((vi 0).toInt).toNat 0 := (P_J1_charAt_3b067_23 gk_1_1 : _)
  replace gk_1_0 : narrow .char (.int rk_1) = .int rk_1 := gk_1_0
  have hP9 := hP.sub (ws' := []) [] rfl
  have hD9 := hD.sub (ws' := []) [] (by decide +kernel) rfl
  rw [hQ]
  exact W.zret (v := rk_1) hx hb hr gk_1_0 (fun t ht hW => ⟨⟨rk_1, rk_1, rfl, rfl, xf [], xh [], xv [], xl [], by rw [ht]; exact hP9, hD9, ⟨gk_1_0, (by unfold R_J0_charAt_5068e_23; exact (fun Q9 k9_0 => k9_0 hp0 fik flk vik vlk rk gk_0 fik_1 flk_1 vik_1 vlk_1 rk_1 gk_1_1 rfl)), trivial⟩⟩, hS.F ht⟩) hS.2.2 dJ0_charAt_5068e_15
abbrev pre_X6_isWord_23 (T : Nat → ClassId) (a ex : Nat → Nat) (fi : Nat → Nat → Int32) (fl : Nat → Nat → Int64) (vi : Nat → Int32) (vl : Nat → Int64) : va_W := [((a 0), .inr (6, [.ref (ex 0), .ref (ex 1), .int (vi 0), .int (vi 1), .int (vi 2), .int (vi 3), .int (vi 4), .int (vi 5), .long (vl 0), .int (vi 6), .int (vi 7), .int (vi 8), .int (vi 9), .int (vi 10)]))]
set_option maxHeartbeats 8000000 in
set_option maxRecDepth 100000 in
theorem c_X6_isWord_23 (l : Launch) (D : va_G) (T : Nat → ClassId) (a ex : Nat → Nat) (fi : Nat → Nat → Int32) (fl : Nat → Nat → Int64) (vi : Nat → Int32) (vl : Nat → Int64) (kK kV : Nat → Nat) (sz : Nat) (hp0 : 0 ≤ (vi 1).toInt ∧ (vi 1).toInt ≤ 940) (hp1 : 0 ≤ (vi 2).toInt ∧ (vi 2).toInt ≤ 940) (hp2 : 0 ≤ (vi 3).toInt ∧ (vi 3).toInt ≤ 940) (hp3 : 0 ≤ (vi 5).toInt ∧ (vi 5).toInt ≤ 940) (hp4 : 0 ≤ (vi 10).toInt ∧ (vi 10).toInt ≤ 940) : Met l yX6_isWord (xw yX6_isWord cX6_isWord 5 (some .boolean)) ({ frames := 4, cells := 0, slots := 0, locals := 101 }) (xPs D T kK kV [.ref (a 0), .ref (kK 5)] sz (pre_X6_isWord_23 T a ex fi fl vi vl)) (va_Qi (fun r u => r = u) (xC D (va_A (pre_X6_isWord_23 T a ex fi fl vi vl) sz) (fun fj fm vj vm => [((a 0), .inr (6, [.ref (ex 0), .ref (ex 1), .int (vi 0), .int (vi 1), .int (vi 2), .int (vi 3), .int (vi 4), .int (vi 5), .long (vl 0), .int (vi 6), .int (vi 7), .int (vi 8), .int (vi 9), .int (vi 10)]))]) (fun (r : Int32) (fj : Nat → Nat → Int32) (fm : Nat → Nat → Int64) (vj : Nat → Int32) (vm : Nat → Int64) => ((r = 1 ∧ (True)) ∨ (r = 0 ∧ (True))) ∧ R_X6_isWord_23 fi fl vi vl r fj fm vj vm ∧ True)) (va_A (pre_X6_isWord_23 T a ex fi fl vi vl) sz)) 0 0 (va_A (pre_X6_isWord_23 T a ex fi fl vi vl) sz) := by
  refine xofW (cc := cX6_isWord) (maxL := 5) (ret := (some .boolean)) (by decide) rfl ?_
  intro p e s m args below meth c s₁ R Q hR hQ B hml hv
  obtain ⟨rfl, hsz, hP, hK, hD0, hT⟩ := hv
  have hx := B.exec
  have hb := B.bytes
  have hr := B.returns
  have hts := atoms_spec (ws := xw yX6_isWord cX6_isWord 5 (some .boolean)) B.pre
  have htg : ∀ w ∈ xg, w.before _ s = true := fun w h => hts w (List.mem_cons_of_mem _ h)
  have hown : s.vm.findClass RX6 = some m.cls := findClass_of_methodNamed B.named
  have hlocks := B.notSynchronized
  subst hsz
  have hD := hD0.self (sz := s.heap.size)
  generalize hAe : va_A (pre_X6_isWord_23 T a ex fi fl vi vl) s.heap.size = A at hD hQ hT
  have hA : ∀ q : Nat, s.heap.size ≤ q → A q := fun q h => by rw [← hAe]; exact Or.inr h
  have hS : va_S A s.heap s.heap [] := va_S.rf
  replace hP : va_P D vwCl [((a 0), .inr (6, [.ref (ex 0), .ref (ex 1), .int (vi 0), .int (vi 1), .int (vi 2), .int (vi 3), .int (vi 4), .int (vi 5), .long (vl 0), .int (vi 6), .int (vi 7), .int (vi 8), .int (vi 9), .int (vi 10)]))] s.heap := hP
  replace hD : va_D A [((a 0), .inr (6, [.ref (ex 0), .ref (ex 1), .int (vi 0), .int (vi 1), .int (vi 2), .int (vi 3), .int (vi 4), .int (vi 5), .long (vl 0), .int (vi 6), .int (vi 7), .int (vi 8), .int (vi 9), .int (vi 10)]))] := hD
  have hl := lv_entry ([.ref (a 0), .ref (kK 5)]) (n := 5) (Nat.le_of_ble_eq_true rfl)
  rw [lg_entry_eq]
  generalize (lg_sl ([.ref (a 0), .ref (kK 5)]) ++ List.replicate (5 - (lg_sl ([.ref (a 0), .ref (kK 5)])).length) Slot.unset).toArray = ls at hl ⊢
  replace hl : lv_has ls 5 [(0, .ref (a 0)), (1, .ref (kK 5))] := hl
  refine lv_lconst (v := 0) hx hb dX6_isWord_0 (by decide) ?_
  refine lv_lstore_n (lv' := [(2, .long 0), (0, .ref (a 0)), (1, .ref (kK 5))]) hx hb dX6_isWord_1 rfl hl (by decide) rfl (fun ls hl => ?_)
  refine lv_iconst (v := 0) hx hb dX6_isWord_2 (by decide) ?_
  refine lv_istore (lv' := [(4, .int 0), (2, .long 0), (0, .ref (a 0)), (1, .ref (kK 5))]) hx hb dX6_isWord_3 hl (by decide) rfl (fun ls hl => ?_)
  have lp : ∀ (kn : Nat) (w4 : Int32) (w2 : Int64) (H : Heap) (locs : List Loc) (ls : Array Slot), (0 ≤ w4.toInt ∧ w4.toInt ≤ 5) → (w2 = pkw (sBy.getD 5 []) (w4.toInt).toNat) → (2147483648 - w4.toInt).toNat = kn → va_P D vwCl [((a 0), .inr (6, [.ref (ex 0), .ref (ex 1), .int (vi 0), .int (vi 1), .int (vi 2), .int (vi 3), .int (vi 4), .int (vi 5), .long (vl 0), .int (vi 6), .int (vi 7), .int (vi 8), .int (vi 9), .int (vi 10)]))] H → va_D A [((a 0), .inr (6, [.ref (ex 0), .ref (ex 1), .int (vi 0), .int (vi 1), .int (vi 2), .int (vi 3), .int (vi 4), .int (vi 5), .long (vl 0), .int (vi 6), .int (vi 7), .int (vi 8), .int (vi 9), .int (vi 10)]))] → va_S A s.heap H locs → lv_has ls 5 [(4, .int w4), (2, .long w2), (0, .ref (a 0)), (1, .ref (kK 5))] → W p l e R s m ([.ref (a 0), .ref (kK 5)] : List Value).toArray below meth c H locs 0 0 Q (F0 m 5 ls []) := by
    intro kn
    induction kn using Nat.strongRecOn with
    | _ kn ih =>
      intro w4 w2 H locs ls hi hpk9 hm hP hD hS hl
      refine lv_iload hx hb dX6_isWord_5 (lv_at hl 0 rfl) ?_
      refine lv_aload_n hx hb dX6_isWord_7 rfl (lv_at hl 3 rfl) ?_
      obtain ⟨hC9, hPc, hDc, hFc⟩ := xcut (wc := (pre_J0_length_8abf5_23 T (xa []) (xa []) (xf []) (xh []) (xv []) (xl []))) hP hD hS hA [] (by decide) rfl
      refine va_calli (va_runV (As := []) (rest := [.int w4]) ⟨hx, hb, hml, hown, htg⟩ (c_J0_length_8abf5_23 l D T (xa []) (xa []) (xf []) (xh []) (xv []) (xl []) kK kV H.size) ⟨callB_of 0 htg (xg_ok kw_47) rfl rfl rfl (htg _ kw_3) (htg _ kw_44) (by decide +kernel) ⟨by rw [hR]; exact Nat.le_of_ble_eq_true rfl, by rw [hR]; exact Nat.le_of_ble_eq_true rfl⟩, htg _ kw_45, htg _ kw_46⟩ (xpreVs hK hPc hDc hT hFc hS (xT.recv hT 5 (by decide) hS)) rfl rfl hl.1 rfl (lv_room (Nat.le_of_ble_eq_true rfl)) dX6_isWord_8 ⟨by rw [hR]; exact Nat.le_of_ble_eq_true rfl, by rw [hR]; exact Nat.le_of_ble_eq_true rfl⟩) hS (fun q _ h => hFc q h) hFc (fun r9 u9 t H1 locs ht hvm hw hB hz1 hk1 hS => ?_)
      subst hw
      obtain ⟨fik, flk, vik, vlk, hP1, hD1, hG⟩ := hB
      rw [ht] at hP1
      obtain ⟨hP, hD⟩ := va_join (wr := [((a 0), .inr (6, [.ref (ex 0), .ref (ex 1), .int (vi 0), .int (vi 1), .int (vi 2), .int (vi 3), .int (vi 4), .int (vi 5), .long (vl 0), .int (vi 6), .int (vi 7), .int (vi 8), .int (vi 9), .int (vi 10)]))]) (w1 := []) hP hD [] [0] hC9 rfl (by decide) (by decide) hk1 hFc hP1 hD1
      obtain ⟨rk, er9⟩ : ∃ z, z = r9 := ⟨_, rfl⟩
      subst er9
      clear hPc hDc hFc hP1 hD1 hk1 hz1 hvm ht hC9
      generalize H1 = H at hP hS ⊢
      obtain ⟨hP, hD⟩ := (show xPD D A [((a 0), .inr (6, [.ref (ex 0), .ref (ex 1), .int (vi 0), .int (vi 1), .int (vi 2), .int (vi 3), .int (vi 4), .int (vi 5), .long (vl 0), .int (vi 6), .int (vi 7), .int (vi 8), .int (vi 9), .int (vi 10)]))] H from ⟨hP, hD⟩)
      obtain ⟨gk_0, -⟩ := hG
      replace gk_0 : rk = 5 := gk_0
      refine xz_i 5 gk_0 ?_
      refine lv_icmp_ge (tgt := 33) hx hb dX6_isWord_11 (by decide) (fun c11 => ?_) (fun c11 => ?_)
      · have c11 := xge (k := 5) (by decide) c11
        refine lv_aload_n hx hb dX6_isWord_33 rfl (lv_at hl 2 rfl) ?_
        refine va_get (D := D) (ci := 6) (v := .int (vi 4)) (C := RX6) (T := TX6) (N := 14) hx hb htg inX6 hown hK.1 hP 0 rfl rfl 6 (by decide) (htg _ kw_104) (fun _ h9 => h9) rfl dX6_isWord_34 ?_
        refine lv_iconst (v := 1) hx hb dX6_isWord_37 (by decide) ?_
        refine lv_icmp_ne (tgt := 54) hx hb dX6_isWord_38 (by decide) (fun c38 => ?_) (fun c38 => ?_)
        · have c38 := xne (k := 1) (by decide) c38
          refine lv_iconst (v := 0) hx hb dX6_isWord_54 (by decide) ?_
          have hP9 := hP.sub (ws' := [((a 0), .inr (6, [.ref (ex 0), .ref (ex 1), .int (vi 0), .int (vi 1), .int (vi 2), .int (vi 3), .int (vi 4), .int (vi 5), .long (vl 0), .int (vi 6), .int (vi 7), .int (vi 8), .int (vi 9), .int (vi 10)]))]) [0] rfl
          have hD9 := hD.sub (ws' := [((a 0), .inr (6, [.ref (ex 0), .ref (ex 1), .int (vi 0), .int (vi 1), .int (vi 2), .int (vi 3), .int (vi 4), .int (vi 5), .long (vl 0), .int (vi 6), .int (vi 7), .int (vi 8), .int (vi 9), .int (vi 10)]))]) [0] (by decide +kernel) rfl
          rw [hQ]
          exact W.zret (v := 0) hx hb hr rfl (fun t ht hW => ⟨⟨0, 0, rfl, rfl, xf [], xh [], xv [], xl [], by rw [ht]; exact hP9, hD9, ⟨(Or.inr ⟨rfl, by show True; first | trivial | omega | assumption⟩), (by unfold R_X6_isWord_23; exact (fun Q9 k9_0 k9_1 k9_2 => k9_0 hp0 hp1 hp2 hp3 hp4 w4 w2 hi hpk9 fik flk vik vlk rk gk_0 c11 c38 rfl)), trivial⟩⟩, hS.F ht⟩) hS.2.2 dX6_isWord_55
        · have c38 := xeq (k := 1) (by decide) c38
          refine lv_lload_n hx hb dX6_isWord_41 rfl (lv_at hl 1 rfl) ?_
          refine lv_aload_n hx hb dX6_isWord_42 rfl (lv_at hl 2 rfl) ?_
          refine va_get (D := D) (ci := 6) (v := .long (vl 0)) (C := RX6) (T := TX6) (N := 14) hx hb htg inX6 hown hK.1 hP 0 rfl rfl 8 (by decide) (htg _ kw_108) (fun _ h9 => h9) rfl dX6_isWord_43 ?_
          refine W.lcmp hx hb dX6_isWord_46 ?_
          refine lv_topi (fun z46 ez46 => ?_)
          refine lv_if_ne (tgt := 54) hx hb dX6_isWord_47 (by decide) (fun c47 => ?_) (fun c47 => ?_)
          · have c47 := xne (k := 0) (by decide) c47
            refine lv_iconst (v := 0) hx hb dX6_isWord_54 (by decide) ?_
            have hP9 := hP.sub (ws' := [((a 0), .inr (6, [.ref (ex 0), .ref (ex 1), .int (vi 0), .int (vi 1), .int (vi 2), .int (vi 3), .int (vi 4), .int (vi 5), .long (vl 0), .int (vi 6), .int (vi 7), .int (vi 8), .int (vi 9), .int (vi 10)]))]) [0] rfl
            have hD9 := hD.sub (ws' := [((a 0), .inr (6, [.ref (ex 0), .ref (ex 1), .int (vi 0), .int (vi 1), .int (vi 2), .int (vi 3), .int (vi 4), .int (vi 5), .long (vl 0), .int (vi 6), .int (vi 7), .int (vi 8), .int (vi 9), .int (vi 10)]))]) [0] (by decide +kernel) rfl
            rw [hQ]
            exact W.zret (v := 0) hx hb hr rfl (fun t ht hW => ⟨⟨0, 0, rfl, rfl, xf [], xh [], xv [], xl [], by rw [ht]; exact hP9, hD9, ⟨(Or.inr ⟨rfl, by show True; first | trivial | omega | assumption⟩), (by unfold R_X6_isWord_23; exact (fun Q9 k9_0 k9_1 k9_2 => k9_1 hp0 hp1 hp2 hp3 hp4 w4 w2 hi hpk9 fik flk vik vlk rk gk_0 c11 c38 z46 ez46 c47 rfl)), trivial⟩⟩, hS.F ht⟩) hS.2.2 dX6_isWord_55
          · have c47 := xeq (k := 0) (by decide) c47
            refine lv_iconst (v := 1) hx hb dX6_isWord_50 (by decide) ?_
            refine lv_goto (tgt := 55) hx hb dX6_isWord_51 (by decide) ?_
            have hP9 := hP.sub (ws' := [((a 0), .inr (6, [.ref (ex 0), .ref (ex 1), .int (vi 0), .int (vi 1), .int (vi 2), .int (vi 3), .int (vi 4), .int (vi 5), .long (vl 0), .int (vi 6), .int (vi 7), .int (vi 8), .int (vi 9), .int (vi 10)]))]) [0] rfl
            have hD9 := hD.sub (ws' := [((a 0), .inr (6, [.ref (ex 0), .ref (ex 1), .int (vi 0), .int (vi 1), .int (vi 2), .int (vi 3), .int (vi 4), .int (vi 5), .long (vl 0), .int (vi 6), .int (vi 7), .int (vi 8), .int (vi 9), .int (vi 10)]))]) [0] (by decide +kernel) rfl
            rw [hQ]
            exact W.zret (v := 1) hx hb hr rfl (fun t ht hW => ⟨⟨1, 1, rfl, rfl, xf [], xh [], xv [], xl [], by rw [ht]; exact hP9, hD9, ⟨(Or.inl ⟨rfl, by show True; first | trivial | omega | assumption⟩), (by unfold R_X6_isWord_23; exact (fun Q9 k9_0 k9_1 k9_2 => k9_2 hp0 hp1 hp2 hp3 hp4 w4 w2 hi hpk9 fik flk vik vlk rk gk_0 c11 c38 z46 ez46 c47 rfl)), trivial⟩⟩, hS.F ht⟩) hS.2.2 dX6_isWord_55
      · have c11 := xnge (k := 5) (by decide) c11
        refine lv_lload_n hx hb dX6_isWord_14 rfl (lv_at hl 1 rfl) ?_
        refine lv_bipush (v := 8) hx hb dX6_isWord_15 (by decide) ?_
        refine lv_lshl hx hb dX6_isWord_17 rfl ?_
        refine lv_topl (fun z17 ez17 => ?_)
        refine lv_aload_n hx hb dX6_isWord_18 rfl (lv_at hl 3 rfl) ?_
        refine lv_iload hx hb dX6_isWord_19 (lv_at hl 0 rfl) ?_
        obtain ⟨hC9, hPc, hDc, hFc⟩ := xcut (wc := (pre_J0_charAt_5068e_23 T (xa []) (xa []) (xf []) (xh []) (xv [w4]) (xl []))) hP hD hS hA [] (by decide) rfl
        refine va_calli (va_runV (As := [.int w4]) (rest := [.long z17]) ⟨hx, hb, hml, hown, htg⟩ (c_J0_charAt_5068e_23 l D T (xa []) (xa []) (xf []) (xh []) (xv [w4]) (xl []) kK kV H.size (by show 0 ≤ w4.toInt ∧ w4.toInt ≤ 4; omega)) ⟨callB_of 1 htg (xg_ok kw_57) rfl rfl rfl (htg _ kw_3) (htg _ kw_54) (by decide +kernel) ⟨by rw [hR]; exact Nat.le_of_ble_eq_true rfl, by rw [hR]; exact Nat.le_of_ble_eq_true rfl⟩, htg _ kw_55, htg _ kw_56⟩ (xpreVs hK hPc hDc hT hFc hS (xT.recv hT 5 (by decide) hS)) rfl rfl hl.1 rfl (lv_room (Nat.le_of_ble_eq_true rfl)) dX6_isWord_21 ⟨by rw [hR]; exact Nat.le_of_ble_eq_true rfl, by rw [hR]; exact Nat.le_of_ble_eq_true rfl⟩) hS (fun q _ h => hFc q h) hFc (fun r9 u9 t H1 locs ht hvm hw hB hz1 hk1 hS => ?_)
        subst hw
        obtain ⟨fik_1, flk_1, vik_1, vlk_1, hP1, hD1, hG⟩ := hB
        rw [ht] at hP1
        obtain ⟨hP, hD⟩ := va_join (wr := [((a 0), .inr (6, [.ref (ex 0), .ref (ex 1), .int (vi 0), .int (vi 1), .int (vi 2), .int (vi 3), .int (vi 4), .int (vi 5), .long (vl 0), .int (vi 6), .int (vi 7), .int (vi 8), .int (vi 9), .int (vi 10)]))]) (w1 := []) hP hD [] [0] hC9 rfl (by decide) (by decide) hk1 hFc hP1 hD1
        obtain ⟨rk_1, er9⟩ : ∃ z, z = r9 := ⟨_, rfl⟩
        subst er9
        clear hPc hDc hFc hP1 hD1 hk1 hz1 hvm ht hC9
        generalize H1 = H at hP hS ⊢
        obtain ⟨hP, hD⟩ := (show xPD D A [((a 0), .inr (6, [.ref (ex 0), .ref (ex 1), .int (vi 0), .int (vi 1), .int (vi 2), .int (vi 3), .int (vi 4), .int (vi 5), .long (vl 0), .int (vi 6), .int (vi 7), .int (vi 8), .int (vi 9), .int (vi 10)]))] H from ⟨hP, hD⟩)
        obtain ⟨gk_1_0, gk_1_1, -⟩ := hG
        replace gk_1_1 : rk_1 = (sBy.getD 5 []).getD (w4.toInt).toNat 0 := (P_J0_charAt_5068e_23 gk_1_1 : _)
        replace gk_1_0 : narrow .char (.int rk_1) = .int rk_1 := gk_1_0
        refine lv_i2l hx hb dX6_isWord_24 rfl ?_
        refine lv_topl (fun z24 ez24 => ?_)
        refine lv_lor hx hb dX6_isWord_25 ?_
        refine lv_topl (fun z25 ez25 => ?_)
        refine lv_lstore_n (lv' := [(2, .long z25), (4, .int w4), (0, .ref (a 0)), (1, .ref (kK 5))]) hx hb dX6_isWord_26 rfl hl (by decide) rfl (fun ls hl => ?_)
        obtain ⟨i27, ei27⟩ : ∃ z : Int32, w4 + Int32.ofInt 1 = z := ⟨_, rfl⟩
        have ti27 : i27.toInt = w4.toInt + 1 := by rw [← ei27]; have h79 := xrng w4; exact xadd rfl (by decide) (by omega) (by omega)
        refine lv_iinc (v := i27) (lv' := [(4, .int i27), (2, .long z25), (0, .ref (a 0)), (1, .ref (kK 5))]) hx hb dX6_isWord_27 hl (k := 1) rfl ei27 (by decide) rfl (fun ls hl => ?_)
        refine lv_goto (tgt := 5) hx hb dX6_isWord_30 (by decide) ?_
        exact ih _ (by omega) i27 z25 _ _ _ (by show 0 ≤ i27.toInt ∧ i27.toInt ≤ 5; omega) (by show z25 = pkw (sBy.getD 5 []) (i27.toInt).toNat; rw [ez25, ez17, ez24]; exact pkw_s hpk9 (by omega) (by omega) (by assumption)) rfl (hP.sub [0] rfl) (hD.sub [0] (by decide) rfl) hS (lv_sub hl [0, 1, 2, 3] rfl)
  exact lp _ (0 : Int32) (0 : Int64) _ _ _ (show 0 ≤ (0 : Int32).toInt ∧ (0 : Int32).toInt ≤ 5 by decide) (by show (0 : Int64) = pkw (sBy.getD 5 []) ((0 : Int32).toInt).toNat; have k9_0 : (0 : Int32).toInt = 0 := (by decide); rw [show (0 : Int32).toInt.toNat = 0 by decide]; rfl) rfl hP hD hS hl
abbrev pre_J0_coder_7d493_24 (T : Nat → ClassId) (a ex : Nat → Nat) (fi : Nat → Nat → Int32) (fl : Nat → Nat → Int64) (vi : Nat → Int32) (vl : Nat → Int64) : va_W := []
set_option maxHeartbeats 8000000 in
set_option maxRecDepth 100000 in
theorem c_J0_coder_7d493_24 (l : Launch) (D : va_G) (T : Nat → ClassId) (a ex : Nat → Nat) (fi : Nat → Nat → Int32) (fl : Nat → Nat → Int64) (vi : Nat → Int32) (vl : Nat → Int64) (kK kV : Nat → Nat) (sz : Nat) : Met l yJ0_coder_7d493 (xw yJ0_coder_7d493 cJ0_coder_7d493 1 (some .byte)) ({ frames := 0, cells := 0, slots := 0, locals := 0 }) (xPs D T kK kV [.ref (kK 6)] sz (pre_J0_coder_7d493_24 T a ex fi fl vi vl)) (va_Qi (fun r u => r = u) (xC D (va_A (pre_J0_coder_7d493_24 T a ex fi fl vi vl) sz) (fun fj fm vj vm => []) (fun (r : Int32) (fj : Nat → Nat → Int32) (fm : Nat → Nat → Int64) (vj : Nat → Int32) (vm : Nat → Int64) => r = 0 ∧ True)) (va_A (pre_J0_coder_7d493_24 T a ex fi fl vi vl) sz)) 0 0 (va_A (pre_J0_coder_7d493_24 T a ex fi fl vi vl) sz) := by
  refine xofW (cc := cJ0_coder_7d493) (maxL := 1) (ret := (some .byte)) (by decide) rfl ?_
  intro p e s m args below meth c s₁ R Q hR hQ B hml hv
  obtain ⟨rfl, hsz, hP, hK, hD0, hT⟩ := hv
  have hx := B.exec
  have hb := B.bytes
  have hr := B.returns
  have hts := atoms_spec (ws := xw yJ0_coder_7d493 cJ0_coder_7d493 1 (some .byte)) B.pre
  have htg : ∀ w ∈ xg, w.before _ s = true := fun w h => hts w (List.mem_cons_of_mem _ h)
  have hown : s.vm.findClass RJ0 = some m.cls := findClass_of_methodNamed B.named
  have hlocks := B.notSynchronized
  subst hsz
  have hD := hD0.self (sz := s.heap.size)
  generalize hAe : va_A (pre_J0_coder_7d493_24 T a ex fi fl vi vl) s.heap.size = A at hD hQ hT
  have hA : ∀ q : Nat, s.heap.size ≤ q → A q := fun q h => by rw [← hAe]; exact Or.inr h
  have hS : va_S A s.heap s.heap [] := va_S.rf
  replace hP : va_P D vwCl [] s.heap := hP
  replace hD : va_D A [] := hD
  have hl := lv_entry ([.ref (kK 6)]) (n := 1) (Nat.le_of_ble_eq_true rfl)
  rw [lg_entry_eq]
  generalize (lg_sl ([.ref (kK 6)]) ++ List.replicate (1 - (lg_sl ([.ref (kK 6)])).length) Slot.unset).toArray = ls at hl ⊢
  replace hl : lv_has ls 1 [(0, .ref (kK 6))] := hl
  refine va_gets hx hb hT.2.2.1 hS hown (htg _ kw_52) (fun _ h9 => h9) dJ0_coder_7d493_0 ?_
  refine lv_if_eq (tgt := 13) hx hb dJ0_coder_7d493_3 (by decide) (fun c => absurd c (by decide)) (fun _ => ?_)
  refine lv_aload_n hx hb dJ0_coder_7d493_6 rfl (lv_at hl 0 rfl) ?_
  refine vk_getf hx hb (hT.2.1 6 (by decide)).2.1 hS hown (htg _ kw_2031) (fun _ h9 => h9) dJ0_coder_7d493_7 ?_
  refine lv_goto (tgt := 14) hx hb dJ0_coder_7d493_10 (by decide) ?_
  have hP9 := hP.sub (ws' := []) [] rfl
  have hD9 := hD.sub (ws' := []) [] (by decide +kernel) rfl
  rw [hQ]
  exact W.zret (v := 0) hx hb hr rfl (fun t ht hW => ⟨⟨0, 0, rfl, rfl, xf [], xh [], xv [], xl [], by rw [ht]; exact hP9, hD9, ⟨rfl, trivial⟩⟩, hS.F ht⟩) hS.2.2 dJ0_coder_7d493_14
abbrev pre_J0_length_8abf5_24 (T : Nat → ClassId) (a ex : Nat → Nat) (fi : Nat → Nat → Int32) (fl : Nat → Nat → Int64) (vi : Nat → Int32) (vl : Nat → Int64) : va_W := []
set_option maxHeartbeats 8000000 in
set_option maxRecDepth 100000 in
theorem c_J0_length_8abf5_24 (l : Launch) (D : va_G) (T : Nat → ClassId) (a ex : Nat → Nat) (fi : Nat → Nat → Int32) (fl : Nat → Nat → Int64) (vi : Nat → Int32) (vl : Nat → Int64) (kK kV : Nat → Nat) (sz : Nat) : Met l yJ0_length_8abf5 (xw yJ0_length_8abf5 cJ0_length_8abf5 1 (some .int)) ({ frames := 1, cells := 0, slots := 0, locals := 24 }) (xPs D T kK kV [.ref (kK 6)] sz (pre_J0_length_8abf5_24 T a ex fi fl vi vl)) (va_Qi (fun r u => r = u) (xC D (va_A (pre_J0_length_8abf5_24 T a ex fi fl vi vl) sz) (fun fj fm vj vm => []) (fun (r : Int32) (fj : Nat → Nat → Int32) (fm : Nat → Nat → Int64) (vj : Nat → Int32) (vm : Nat → Int64) => r = 4 ∧ True)) (va_A (pre_J0_length_8abf5_24 T a ex fi fl vi vl) sz)) 0 0 (va_A (pre_J0_length_8abf5_24 T a ex fi fl vi vl) sz) := by
  refine xofW (cc := cJ0_length_8abf5) (maxL := 1) (ret := (some .int)) (by decide) rfl ?_
  intro p e s m args below meth c s₁ R Q hR hQ B hml hv
  obtain ⟨rfl, hsz, hP, hK, hD0, hT⟩ := hv
  have hx := B.exec
  have hb := B.bytes
  have hr := B.returns
  have hts := atoms_spec (ws := xw yJ0_length_8abf5 cJ0_length_8abf5 1 (some .int)) B.pre
  have htg : ∀ w ∈ xg, w.before _ s = true := fun w h => hts w (List.mem_cons_of_mem _ h)
  have hown : s.vm.findClass RJ0 = some m.cls := findClass_of_methodNamed B.named
  have hlocks := B.notSynchronized
  subst hsz
  have hD := hD0.self (sz := s.heap.size)
  generalize hAe : va_A (pre_J0_length_8abf5_24 T a ex fi fl vi vl) s.heap.size = A at hD hQ hT
  have hA : ∀ q : Nat, s.heap.size ≤ q → A q := fun q h => by rw [← hAe]; exact Or.inr h
  have hS : va_S A s.heap s.heap [] := va_S.rf
  replace hP : va_P D vwCl [] s.heap := hP
  replace hD : va_D A [] := hD
  have hl := lv_entry ([.ref (kK 6)]) (n := 1) (Nat.le_of_ble_eq_true rfl)
  rw [lg_entry_eq]
  generalize (lg_sl ([.ref (kK 6)]) ++ List.replicate (1 - (lg_sl ([.ref (kK 6)])).length) Slot.unset).toArray = ls at hl ⊢
  replace hl : lv_has ls 1 [(0, .ref (kK 6))] := hl
  refine lv_aload_n hx hb dJ0_length_8abf5_0 rfl (lv_at hl 0 rfl) ?_
  refine vk_getf hx hb (hT.2.1 6 (by decide)).2.2.1 hS hown (htg _ kw_2030) (fun _ h9 => h9) dJ0_length_8abf5_1 ?_
  refine va_tlen (v := 4) hx hb (hT.2.1 6 (by decide)).2.2.2 hS (by decide) dJ0_length_8abf5_4 ?_
  refine lv_aload_n hx hb dJ0_length_8abf5_5 rfl (lv_at hl 0 rfl) ?_
  obtain ⟨hC9, hPc, hDc, hFc⟩ := xcut (wc := (pre_J0_coder_7d493_24 T (xa []) (xa []) (xf []) (xh []) (xv []) (xl []))) hP hD hS hA [] (by decide) rfl
  refine va_calli (va_runV (As := []) (rest := [.int 4]) ⟨hx, hb, hml, hown, htg⟩ (c_J0_coder_7d493_24 l D T (xa []) (xa []) (xf []) (xh []) (xv []) (xl []) kK kV s.heap.size) ⟨callB_of 0 htg (xg_ok kw_51) rfl rfl rfl (htg _ kw_3) (htg _ kw_48) (by decide +kernel) ⟨by rw [hR]; exact Nat.le_of_ble_eq_true rfl, by rw [hR]; exact Nat.le_of_ble_eq_true rfl⟩, htg _ kw_49, htg _ kw_50⟩ (xpreVs hK hPc hDc hT hFc hS (xT.recv hT 6 (by decide) hS)) rfl rfl hl.1 rfl (lv_room (Nat.le_of_ble_eq_true rfl)) dJ0_length_8abf5_6 ⟨by rw [hR]; exact Nat.le_of_ble_eq_true rfl, by rw [hR]; exact Nat.le_of_ble_eq_true rfl⟩) hS (fun q _ h => hFc q h) hFc (fun r9 u9 t H1 locs ht hvm hw hB hz1 hk1 hS => ?_)
  subst hw
  obtain ⟨fik, flk, vik, vlk, hP1, hD1, hG⟩ := hB
  rw [ht] at hP1
  obtain ⟨hP, hD⟩ := va_join (wr := []) (w1 := []) hP hD [] [] hC9 rfl (by decide) (by decide) hk1 hFc hP1 hD1
  obtain ⟨rk, er9⟩ : ∃ z, z = r9 := ⟨_, rfl⟩
  subst er9
  clear hPc hDc hFc hP1 hD1 hk1 hz1 hvm ht hC9
  generalize H1 = H at hP hS ⊢
  obtain ⟨hP, hD⟩ := (show xPD D A [] H from ⟨hP, hD⟩)
  obtain ⟨gk_0, -⟩ := hG
  replace gk_0 : rk = 0 := gk_0
  refine xz_i 0 gk_0 ?_
  refine lv_ishr hx hb dJ0_length_8abf5_9 ?_
  refine xz_i 4 (by decide) ?_
  have hP9 := hP.sub (ws' := []) [] rfl
  have hD9 := hD.sub (ws' := []) [] (by decide +kernel) rfl
  rw [hQ]
  exact W.iret (v := 4) hx hb hr (fun t ht hW => ⟨⟨4, 4, rfl, rfl, xf [], xh [], xv [], xl [], by rw [ht]; exact hP9, hD9, ⟨rfl, trivial⟩⟩, hS.F ht⟩) hS.2.2 dJ0_length_8abf5_10
abbrev pre_J0_isLatin1_aae02_24 (T : Nat → ClassId) (a ex : Nat → Nat) (fi : Nat → Nat → Int32) (fl : Nat → Nat → Int64) (vi : Nat → Int32) (vl : Nat → Int64) : va_W := []
set_option maxHeartbeats 8000000 in
set_option maxRecDepth 100000 in
theorem c_J0_isLatin1_aae02_24 (l : Launch) (D : va_G) (T : Nat → ClassId) (a ex : Nat → Nat) (fi : Nat → Nat → Int32) (fl : Nat → Nat → Int64) (vi : Nat → Int32) (vl : Nat → Int64) (kK kV : Nat → Nat) (sz : Nat) : Met l yJ0_isLatin1_aae02 (xw yJ0_isLatin1_aae02 cJ0_isLatin1_aae02 1 (some .boolean)) ({ frames := 0, cells := 0, slots := 0, locals := 0 }) (xPs D T kK kV [.ref (kK 6)] sz (pre_J0_isLatin1_aae02_24 T a ex fi fl vi vl)) (va_Qi (fun r u => r = u) (xC D (va_A (pre_J0_isLatin1_aae02_24 T a ex fi fl vi vl) sz) (fun fj fm vj vm => []) (fun (r : Int32) (fj : Nat → Nat → Int32) (fm : Nat → Nat → Int64) (vj : Nat → Int32) (vm : Nat → Int64) => r = 1 ∧ True)) (va_A (pre_J0_isLatin1_aae02_24 T a ex fi fl vi vl) sz)) 0 0 (va_A (pre_J0_isLatin1_aae02_24 T a ex fi fl vi vl) sz) := by
  refine xofW (cc := cJ0_isLatin1_aae02) (maxL := 1) (ret := (some .boolean)) (by decide) rfl ?_
  intro p e s m args below meth c s₁ R Q hR hQ B hml hv
  obtain ⟨rfl, hsz, hP, hK, hD0, hT⟩ := hv
  have hx := B.exec
  have hb := B.bytes
  have hr := B.returns
  have hts := atoms_spec (ws := xw yJ0_isLatin1_aae02 cJ0_isLatin1_aae02 1 (some .boolean)) B.pre
  have htg : ∀ w ∈ xg, w.before _ s = true := fun w h => hts w (List.mem_cons_of_mem _ h)
  have hown : s.vm.findClass RJ0 = some m.cls := findClass_of_methodNamed B.named
  have hlocks := B.notSynchronized
  subst hsz
  have hD := hD0.self (sz := s.heap.size)
  generalize hAe : va_A (pre_J0_isLatin1_aae02_24 T a ex fi fl vi vl) s.heap.size = A at hD hQ hT
  have hA : ∀ q : Nat, s.heap.size ≤ q → A q := fun q h => by rw [← hAe]; exact Or.inr h
  have hS : va_S A s.heap s.heap [] := va_S.rf
  replace hP : va_P D vwCl [] s.heap := hP
  replace hD : va_D A [] := hD
  have hl := lv_entry ([.ref (kK 6)]) (n := 1) (Nat.le_of_ble_eq_true rfl)
  rw [lg_entry_eq]
  generalize (lg_sl ([.ref (kK 6)]) ++ List.replicate (1 - (lg_sl ([.ref (kK 6)])).length) Slot.unset).toArray = ls at hl ⊢
  replace hl : lv_has ls 1 [(0, .ref (kK 6))] := hl
  refine va_gets hx hb hT.2.2.1 hS hown (htg _ kw_52) (fun _ h9 => h9) dJ0_isLatin1_aae02_0 ?_
  refine lv_if_eq (tgt := 17) hx hb dJ0_isLatin1_aae02_3 (by decide) (fun c => absurd c (by decide)) (fun _ => ?_)
  refine lv_aload_n hx hb dJ0_isLatin1_aae02_6 rfl (lv_at hl 0 rfl) ?_
  refine vk_getf hx hb (hT.2.1 6 (by decide)).2.1 hS hown (htg _ kw_2031) (fun _ h9 => h9) dJ0_isLatin1_aae02_7 ?_
  refine lv_if_ne (tgt := 17) hx hb dJ0_isLatin1_aae02_10 (by decide) (fun c => absurd (by decide) c) (fun _ => ?_)
  refine lv_iconst (v := 1) hx hb dJ0_isLatin1_aae02_13 (by decide) ?_
  refine lv_goto (tgt := 18) hx hb dJ0_isLatin1_aae02_14 (by decide) ?_
  have hP9 := hP.sub (ws' := []) [] rfl
  have hD9 := hD.sub (ws' := []) [] (by decide +kernel) rfl
  rw [hQ]
  exact W.zret (v := 1) hx hb hr rfl (fun t ht hW => ⟨⟨1, 1, rfl, rfl, xf [], xh [], xv [], xl [], by rw [ht]; exact hP9, hD9, ⟨rfl, trivial⟩⟩, hS.F ht⟩) hS.2.2 dJ0_isLatin1_aae02_18
abbrev pre_J1_charAt_3b067_24 (T : Nat → ClassId) (a ex : Nat → Nat) (fi : Nat → Nat → Int32) (fl : Nat → Nat → Int64) (vi : Nat → Int32) (vl : Nat → Int64) : va_W := []
set_option maxHeartbeats 8000000 in
set_option maxRecDepth 100000 in
theorem c_J1_charAt_3b067_24 (l : Launch) (D : va_G) (T : Nat → ClassId) (a ex : Nat → Nat) (fi : Nat → Nat → Int32) (fl : Nat → Nat → Int64) (vi : Nat → Int32) (vl : Nat → Int64) (kK kV : Nat → Nat) (sz : Nat) (hp0 : 0 ≤ (vi 0).toInt ∧ (vi 0).toInt ≤ 3) : Met l yJ1_charAt_3b067 (xw yJ1_charAt_3b067 cJ1_charAt_3b067 2 (some .char)) ({ frames := 2, cells := 0, slots := 0, locals := 51 }) (xPs D T kK kV [.ref (kV 6), .int (vi 0)] sz (pre_J1_charAt_3b067_24 T a ex fi fl vi vl)) (va_Qi (fun r u => r = u) (xC D (va_A (pre_J1_charAt_3b067_24 T a ex fi fl vi vl) sz) (fun fj fm vj vm => []) (fun (r : Int32) (fj : Nat → Nat → Int32) (fm : Nat → Nat → Int64) (vj : Nat → Int32) (vm : Nat → Int64) => narrow .char (.int r) = .int r ∧ R_J1_charAt_3b067_24 fi fl vi vl r fj fm vj vm ∧ True)) (va_A (pre_J1_charAt_3b067_24 T a ex fi fl vi vl) sz)) 0 0 (va_A (pre_J1_charAt_3b067_24 T a ex fi fl vi vl) sz) := by
  refine xofW (cc := cJ1_charAt_3b067) (maxL := 2) (ret := (some .char)) (by decide) rfl ?_
  intro p e s m args below meth c s₁ R Q hR hQ B hml hv
  obtain ⟨rfl, hsz, hP, hK, hD0, hT⟩ := hv
  have hx := B.exec
  have hb := B.bytes
  have hr := B.returns
  have hts := atoms_spec (ws := xw yJ1_charAt_3b067 cJ1_charAt_3b067 2 (some .char)) B.pre
  have htg : ∀ w ∈ xg, w.before _ s = true := fun w h => hts w (List.mem_cons_of_mem _ h)
  have hown : s.vm.findClass RJ1 = some m.cls := findClass_of_methodNamed B.named
  have hlocks := B.notSynchronized
  subst hsz
  have hD := hD0.self (sz := s.heap.size)
  generalize hAe : va_A (pre_J1_charAt_3b067_24 T a ex fi fl vi vl) s.heap.size = A at hD hQ hT
  have hA : ∀ q : Nat, s.heap.size ≤ q → A q := fun q h => by rw [← hAe]; exact Or.inr h
  have hS : va_S A s.heap s.heap [] := va_S.rf
  replace hP : va_P D vwCl [] s.heap := hP
  replace hD : va_D A [] := hD
  have hl := lv_entry ([.ref (kV 6), .int (vi 0)]) (n := 2) (Nat.le_of_ble_eq_true rfl)
  rw [lg_entry_eq]
  generalize (lg_sl ([.ref (kV 6), .int (vi 0)]) ++ List.replicate (2 - (lg_sl ([.ref (kV 6), .int (vi 0)])).length) Slot.unset).toArray = ls at hl ⊢
  replace hl : lv_has ls 2 [(0, .ref (kV 6)), (1, .int (vi 0))] := hl
  refine lv_iload_n hx hb dJ1_charAt_3b067_0 rfl (lv_at hl 1 rfl) ?_
  refine lv_aload_n hx hb dJ1_charAt_3b067_1 rfl (lv_at hl 0 rfl) ?_
  refine va_tlen (v := 4) hx hb (hT.2.1 6 (by decide)).2.2.2 hS (by decide) dJ1_charAt_3b067_2 ?_
  obtain ⟨hC9, hPc, hDc, hFc⟩ := xcut (wc := (pre_J0_checkIndex_df160_3 T (xa []) (xa []) (xf []) (xh []) (xv [(vi 0)]) (xl []))) hP hD hS hA [] (by decide) rfl
  refine va_callv (va_runS (As := [.int (vi 0), .int 4]) (rest := []) ⟨hx, hb, hml, hown, htg⟩ (c_J0_checkIndex_df160_3 l D T (xa []) (xa []) (xf []) (xh []) (xv [(vi 0)]) (xl []) kK kV s.heap.size hp0) ⟨callB_of 2 htg (xg_ok kw_67) rfl rfl rfl (htg _ kw_3) (htg _ kw_65) (by decide +kernel) ⟨by rw [hR]; exact Nat.le_of_ble_eq_true rfl, by rw [hR]; exact Nat.le_of_ble_eq_true rfl⟩, htg _ kw_66⟩ (xpreSs hK hPc hDc hT hFc hS) rfl rfl hl.1 rfl (lv_room (Nat.le_of_ble_eq_true rfl)) dJ1_charAt_3b067_3 ⟨by rw [hR]; exact Nat.le_of_ble_eq_true rfl, by rw [hR]; exact Nat.le_of_ble_eq_true rfl⟩) hS (fun q _ h => hFc q h) hFc (fun u9 t H1 locs ht hvm hw hB hz1 hk1 hS => ?_)
  obtain ⟨fik, flk, vik, vlk, hP1, hD1, hG⟩ := hB
  rw [ht] at hP1
  obtain ⟨hP, hD⟩ := va_join (wr := []) (w1 := []) hP hD [] [] hC9 rfl (by decide) (by decide) hk1 hFc hP1 hD1
  clear hPc hDc hFc hP1 hD1 hk1 hz1 hvm ht hC9
  generalize H1 = H at hP hS ⊢
  obtain ⟨hP, hD⟩ := (show xPD D A [] H from ⟨hP, hD⟩)
  obtain ⟨uk, eu9⟩ : ∃ z, z = u9 := ⟨_, rfl⟩
  subst eu9
  clear hG
  refine lv_aload_n hx hb dJ1_charAt_3b067_6 rfl (lv_at hl 0 rfl) ?_
  refine lv_iload_n hx hb dJ1_charAt_3b067_7 rfl (lv_at hl 1 rfl) ?_
  refine va_tb hx hb (hT.2.1 6 (by decide)).2.2.2 hS (show vp_in (vi 0) 4 from (vp_in_iff.mpr (by omega))) rfl dJ1_charAt_3b067_8 ?_
  refine lv_topi (fun z8 ez8 => ?_)
  refine lv_sipush (v := 255) hx hb dJ1_charAt_3b067_9 (by decide) ?_
  refine lv_iand hx hb dJ1_charAt_3b067_12 ?_
  refine lv_topi (fun z12 ez12 => ?_)
  have tz12 : 0 ≤ z12.toInt ∧ z12.toInt ≤ 255 := by rw [ez12]; exact xand255 _
  refine lv_i2c hx hb dJ1_charAt_3b067_13 rfl ?_
  refine lv_topi (fun z13 ez13 => ?_)
  have nz13 : narrow .char (.int z13) = .int z13 := by rw [ez13]; exact pk_nc _
  have hP9 := hP.sub (ws' := []) [] rfl
  have hD9 := hD.sub (ws' := []) [] (by decide +kernel) rfl
  rw [hQ]
  exact W.zret (v := z13) hx hb hr nz13 (fun t ht hW => ⟨⟨z13, z13, rfl, rfl, xf [], xh [], xv [], xl [], by rw [ht]; exact hP9, hD9, ⟨nz13, (by unfold R_J1_charAt_3b067_24; exact (fun Q9 k9_0 => k9_0 hp0 fik flk vik vlk uk z8 ez8 z12 ez12 z13 ez13 rfl)), trivial⟩⟩, hS.F ht⟩) hS.2.2 dJ1_charAt_3b067_14
abbrev pre_J0_charAt_5068e_24 (T : Nat → ClassId) (a ex : Nat → Nat) (fi : Nat → Nat → Int32) (fl : Nat → Nat → Int64) (vi : Nat → Int32) (vl : Nat → Int64) : va_W := []
set_option maxHeartbeats 8000000 in
set_option maxRecDepth 100000 in
theorem c_J0_charAt_5068e_24 (l : Launch) (D : va_G) (T : Nat → ClassId) (a ex : Nat → Nat) (fi : Nat → Nat → Int32) (fl : Nat → Nat → Int64) (vi : Nat → Int32) (vl : Nat → Int64) (kK kV : Nat → Nat) (sz : Nat) (hp0 : 0 ≤ (vi 0).toInt ∧ (vi 0).toInt ≤ 3) : Met l yJ0_charAt_5068e (xw yJ0_charAt_5068e cJ0_charAt_5068e 2 (some .char)) ({ frames := 3, cells := 0, slots := 0, locals := 76 }) (xPs D T kK kV [.ref (kK 6), .int (vi 0)] sz (pre_J0_charAt_5068e_24 T a ex fi fl vi vl)) (va_Qi (fun r u => r = u) (xC D (va_A (pre_J0_charAt_5068e_24 T a ex fi fl vi vl) sz) (fun fj fm vj vm => []) (fun (r : Int32) (fj : Nat → Nat → Int32) (fm : Nat → Nat → Int64) (vj : Nat → Int32) (vm : Nat → Int64) => narrow .char (.int r) = .int r ∧ R_J0_charAt_5068e_24 fi fl vi vl r fj fm vj vm ∧ True)) (va_A (pre_J0_charAt_5068e_24 T a ex fi fl vi vl) sz)) 0 0 (va_A (pre_J0_charAt_5068e_24 T a ex fi fl vi vl) sz) := by
  refine xofW (cc := cJ0_charAt_5068e) (maxL := 2) (ret := (some .char)) (by decide) rfl ?_
  intro p e s m args below meth c s₁ R Q hR hQ B hml hv
  obtain ⟨rfl, hsz, hP, hK, hD0, hT⟩ := hv
  have hx := B.exec
  have hb := B.bytes
  have hr := B.returns
  have hts := atoms_spec (ws := xw yJ0_charAt_5068e cJ0_charAt_5068e 2 (some .char)) B.pre
  have htg : ∀ w ∈ xg, w.before _ s = true := fun w h => hts w (List.mem_cons_of_mem _ h)
  have hown : s.vm.findClass RJ0 = some m.cls := findClass_of_methodNamed B.named
  have hlocks := B.notSynchronized
  subst hsz
  have hD := hD0.self (sz := s.heap.size)
  generalize hAe : va_A (pre_J0_charAt_5068e_24 T a ex fi fl vi vl) s.heap.size = A at hD hQ hT
  have hA : ∀ q : Nat, s.heap.size ≤ q → A q := fun q h => by rw [← hAe]; exact Or.inr h
  have hS : va_S A s.heap s.heap [] := va_S.rf
  replace hP : va_P D vwCl [] s.heap := hP
  replace hD : va_D A [] := hD
  have hl := lv_entry ([.ref (kK 6), .int (vi 0)]) (n := 2) (Nat.le_of_ble_eq_true rfl)
  rw [lg_entry_eq]
  generalize (lg_sl ([.ref (kK 6), .int (vi 0)]) ++ List.replicate (2 - (lg_sl ([.ref (kK 6), .int (vi 0)])).length) Slot.unset).toArray = ls at hl ⊢
  replace hl : lv_has ls 2 [(0, .ref (kK 6)), (1, .int (vi 0))] := hl
  refine lv_aload_n hx hb dJ0_charAt_5068e_0 rfl (lv_at hl 0 rfl) ?_
  obtain ⟨hC9, hPc, hDc, hFc⟩ := xcut (wc := (pre_J0_isLatin1_aae02_24 T (xa []) (xa []) (xf []) (xh []) (xv []) (xl []))) hP hD hS hA [] (by decide) rfl
  refine va_calli (va_runV (As := []) (rest := []) ⟨hx, hb, hml, hown, htg⟩ (c_J0_isLatin1_aae02_24 l D T (xa []) (xa []) (xf []) (xh []) (xv []) (xl []) kK kV s.heap.size) ⟨callB_of 0 htg (xg_ok kw_61) rfl rfl rfl (htg _ kw_3) (htg _ kw_58) (by decide +kernel) ⟨by rw [hR]; exact Nat.le_of_ble_eq_true rfl, by rw [hR]; exact Nat.le_of_ble_eq_true rfl⟩, htg _ kw_59, htg _ kw_60⟩ (xpreVs hK hPc hDc hT hFc hS (xT.recv hT 6 (by decide) hS)) rfl rfl hl.1 rfl (lv_room (Nat.le_of_ble_eq_true rfl)) dJ0_charAt_5068e_1 ⟨by rw [hR]; exact Nat.le_of_ble_eq_true rfl, by rw [hR]; exact Nat.le_of_ble_eq_true rfl⟩) hS (fun q _ h => hFc q h) hFc (fun r9 u9 t H1 locs ht hvm hw hB hz1 hk1 hS => ?_)
  subst hw
  obtain ⟨fik, flk, vik, vlk, hP1, hD1, hG⟩ := hB
  rw [ht] at hP1
  obtain ⟨hP, hD⟩ := va_join (wr := []) (w1 := []) hP hD [] [] hC9 rfl (by decide) (by decide) hk1 hFc hP1 hD1
  obtain ⟨rk, er9⟩ : ∃ z, z = r9 := ⟨_, rfl⟩
  subst er9
  clear hPc hDc hFc hP1 hD1 hk1 hz1 hvm ht hC9
  generalize H1 = H at hP hS ⊢
  obtain ⟨hP, hD⟩ := (show xPD D A [] H from ⟨hP, hD⟩)
  obtain ⟨gk_0, -⟩ := hG
  replace gk_0 : rk = 1 := gk_0
  refine xz_i 1 gk_0 ?_
  refine lv_if_eq (tgt := 16) hx hb dJ0_charAt_5068e_4 (by decide) (fun c => absurd c (by decide)) (fun _ => ?_)
  refine lv_aload_n hx hb dJ0_charAt_5068e_7 rfl (lv_at hl 0 rfl) ?_
  refine vk_getf hx hb (hT.2.1 6 (by decide)).2.2.1 hS hown (htg _ kw_2030) (fun _ h9 => h9) dJ0_charAt_5068e_8 ?_
  refine lv_iload_n hx hb dJ0_charAt_5068e_11 rfl (lv_at hl 1 rfl) ?_
  obtain ⟨hC9, hPc, hDc, hFc⟩ := xcut (wc := (pre_J1_charAt_3b067_24 T (xa []) (xa []) (xf []) (xh []) (xv [(vi 0)]) (xl []))) hP hD hS hA [] (by decide) rfl
  refine va_calli (va_runS (As := [.ref (kV 6), .int (vi 0)]) (rest := []) ⟨hx, hb, hml, hown, htg⟩ (c_J1_charAt_3b067_24 l D T (xa []) (xa []) (xf []) (xh []) (xv [(vi 0)]) (xl []) kK kV H.size hp0) ⟨callB_of 2 htg (xg_ok kw_64) rfl rfl rfl (htg _ kw_4) (htg _ kw_62) (by decide +kernel) ⟨by rw [hR]; exact Nat.le_of_ble_eq_true rfl, by rw [hR]; exact Nat.le_of_ble_eq_true rfl⟩, htg _ kw_63⟩ (xpreSs hK hPc hDc hT hFc hS) rfl rfl hl.1 rfl (lv_room (Nat.le_of_ble_eq_true rfl)) dJ0_charAt_5068e_12 ⟨by rw [hR]; exact Nat.le_of_ble_eq_true rfl, by rw [hR]; exact Nat.le_of_ble_eq_true rfl⟩) hS (fun q _ h => hFc q h) hFc (fun r9 u9 t H1 locs ht hvm hw hB hz1 hk1 hS => ?_)
  subst hw
  obtain ⟨fik_1, flk_1, vik_1, vlk_1, hP1, hD1, hG⟩ := hB
  rw [ht] at hP1
  obtain ⟨hP, hD⟩ := va_join (wr := []) (w1 := []) hP hD [] [] hC9 rfl (by decide) (by decide) hk1 hFc hP1 hD1
  obtain ⟨rk_1, er9⟩ : ∃ z, z = r9 := ⟨_, rfl⟩
  subst er9
  clear hPc hDc hFc hP1 hD1 hk1 hz1 hvm ht hC9
  generalize H1 = H at hP hS ⊢
  obtain ⟨hP, hD⟩ := (show xPD D A [] H from ⟨hP, hD⟩)
  obtain ⟨gk_1_0, gk_1_1, -⟩ := hG
  replace gk_1_1 : rk_1 = (sBy.getD 6 []).getD ((vi 0).toInt).toNat 0 := (P_J1_charAt_3b067_24 gk_1_1 : _)
  replace gk_1_0 : narrow .char (.int rk_1) = .int rk_1 := gk_1_0
  have hP9 := hP.sub (ws' := []) [] rfl
  have hD9 := hD.sub (ws' := []) [] (by decide +kernel) rfl
  rw [hQ]
  exact W.zret (v := rk_1) hx hb hr gk_1_0 (fun t ht hW => ⟨⟨rk_1, rk_1, rfl, rfl, xf [], xh [], xv [], xl [], by rw [ht]; exact hP9, hD9, ⟨gk_1_0, (by unfold R_J0_charAt_5068e_24; exact (fun Q9 k9_0 => k9_0 hp0 fik flk vik vlk rk gk_0 fik_1 flk_1 vik_1 vlk_1 rk_1 gk_1_1 rfl)), trivial⟩⟩, hS.F ht⟩) hS.2.2 dJ0_charAt_5068e_15
abbrev pre_X6_isWord_24 (T : Nat → ClassId) (a ex : Nat → Nat) (fi : Nat → Nat → Int32) (fl : Nat → Nat → Int64) (vi : Nat → Int32) (vl : Nat → Int64) : va_W := [((a 0), .inr (6, [.ref (ex 0), .ref (ex 1), .int (vi 0), .int (vi 1), .int (vi 2), .int (vi 3), .int (vi 4), .int (vi 5), .long (vl 0), .int (vi 6), .int (vi 7), .int (vi 8), .int (vi 9), .int (vi 10)]))]
set_option maxHeartbeats 8000000 in
set_option maxRecDepth 100000 in
theorem c_X6_isWord_24 (l : Launch) (D : va_G) (T : Nat → ClassId) (a ex : Nat → Nat) (fi : Nat → Nat → Int32) (fl : Nat → Nat → Int64) (vi : Nat → Int32) (vl : Nat → Int64) (kK kV : Nat → Nat) (sz : Nat) (hp0 : 0 ≤ (vi 1).toInt ∧ (vi 1).toInt ≤ 940) (hp1 : 0 ≤ (vi 2).toInt ∧ (vi 2).toInt ≤ 940) (hp2 : 0 ≤ (vi 3).toInt ∧ (vi 3).toInt ≤ 940) (hp3 : 0 ≤ (vi 5).toInt ∧ (vi 5).toInt ≤ 940) (hp4 : 0 ≤ (vi 10).toInt ∧ (vi 10).toInt ≤ 940) : Met l yX6_isWord (xw yX6_isWord cX6_isWord 5 (some .boolean)) ({ frames := 4, cells := 0, slots := 0, locals := 101 }) (xPs D T kK kV [.ref (a 0), .ref (kK 6)] sz (pre_X6_isWord_24 T a ex fi fl vi vl)) (va_Qi (fun r u => r = u) (xC D (va_A (pre_X6_isWord_24 T a ex fi fl vi vl) sz) (fun fj fm vj vm => [((a 0), .inr (6, [.ref (ex 0), .ref (ex 1), .int (vi 0), .int (vi 1), .int (vi 2), .int (vi 3), .int (vi 4), .int (vi 5), .long (vl 0), .int (vi 6), .int (vi 7), .int (vi 8), .int (vi 9), .int (vi 10)]))]) (fun (r : Int32) (fj : Nat → Nat → Int32) (fm : Nat → Nat → Int64) (vj : Nat → Int32) (vm : Nat → Int64) => ((r = 1 ∧ (True)) ∨ (r = 0 ∧ (True))) ∧ R_X6_isWord_24 fi fl vi vl r fj fm vj vm ∧ True)) (va_A (pre_X6_isWord_24 T a ex fi fl vi vl) sz)) 0 0 (va_A (pre_X6_isWord_24 T a ex fi fl vi vl) sz) := by
  refine xofW (cc := cX6_isWord) (maxL := 5) (ret := (some .boolean)) (by decide) rfl ?_
  intro p e s m args below meth c s₁ R Q hR hQ B hml hv
  obtain ⟨rfl, hsz, hP, hK, hD0, hT⟩ := hv
  have hx := B.exec
  have hb := B.bytes
  have hr := B.returns
  have hts := atoms_spec (ws := xw yX6_isWord cX6_isWord 5 (some .boolean)) B.pre
  have htg : ∀ w ∈ xg, w.before _ s = true := fun w h => hts w (List.mem_cons_of_mem _ h)
  have hown : s.vm.findClass RX6 = some m.cls := findClass_of_methodNamed B.named
  have hlocks := B.notSynchronized
  subst hsz
  have hD := hD0.self (sz := s.heap.size)
  generalize hAe : va_A (pre_X6_isWord_24 T a ex fi fl vi vl) s.heap.size = A at hD hQ hT
  have hA : ∀ q : Nat, s.heap.size ≤ q → A q := fun q h => by rw [← hAe]; exact Or.inr h
  have hS : va_S A s.heap s.heap [] := va_S.rf
  replace hP : va_P D vwCl [((a 0), .inr (6, [.ref (ex 0), .ref (ex 1), .int (vi 0), .int (vi 1), .int (vi 2), .int (vi 3), .int (vi 4), .int (vi 5), .long (vl 0), .int (vi 6), .int (vi 7), .int (vi 8), .int (vi 9), .int (vi 10)]))] s.heap := hP
  replace hD : va_D A [((a 0), .inr (6, [.ref (ex 0), .ref (ex 1), .int (vi 0), .int (vi 1), .int (vi 2), .int (vi 3), .int (vi 4), .int (vi 5), .long (vl 0), .int (vi 6), .int (vi 7), .int (vi 8), .int (vi 9), .int (vi 10)]))] := hD
  have hl := lv_entry ([.ref (a 0), .ref (kK 6)]) (n := 5) (Nat.le_of_ble_eq_true rfl)
  rw [lg_entry_eq]
  generalize (lg_sl ([.ref (a 0), .ref (kK 6)]) ++ List.replicate (5 - (lg_sl ([.ref (a 0), .ref (kK 6)])).length) Slot.unset).toArray = ls at hl ⊢
  replace hl : lv_has ls 5 [(0, .ref (a 0)), (1, .ref (kK 6))] := hl
  refine lv_lconst (v := 0) hx hb dX6_isWord_0 (by decide) ?_
  refine lv_lstore_n (lv' := [(2, .long 0), (0, .ref (a 0)), (1, .ref (kK 6))]) hx hb dX6_isWord_1 rfl hl (by decide) rfl (fun ls hl => ?_)
  refine lv_iconst (v := 0) hx hb dX6_isWord_2 (by decide) ?_
  refine lv_istore (lv' := [(4, .int 0), (2, .long 0), (0, .ref (a 0)), (1, .ref (kK 6))]) hx hb dX6_isWord_3 hl (by decide) rfl (fun ls hl => ?_)
  have lp : ∀ (kn : Nat) (w4 : Int32) (w2 : Int64) (H : Heap) (locs : List Loc) (ls : Array Slot), (0 ≤ w4.toInt ∧ w4.toInt ≤ 4) → (w2 = pkw (sBy.getD 6 []) (w4.toInt).toNat) → (2147483648 - w4.toInt).toNat = kn → va_P D vwCl [((a 0), .inr (6, [.ref (ex 0), .ref (ex 1), .int (vi 0), .int (vi 1), .int (vi 2), .int (vi 3), .int (vi 4), .int (vi 5), .long (vl 0), .int (vi 6), .int (vi 7), .int (vi 8), .int (vi 9), .int (vi 10)]))] H → va_D A [((a 0), .inr (6, [.ref (ex 0), .ref (ex 1), .int (vi 0), .int (vi 1), .int (vi 2), .int (vi 3), .int (vi 4), .int (vi 5), .long (vl 0), .int (vi 6), .int (vi 7), .int (vi 8), .int (vi 9), .int (vi 10)]))] → va_S A s.heap H locs → lv_has ls 5 [(4, .int w4), (2, .long w2), (0, .ref (a 0)), (1, .ref (kK 6))] → W p l e R s m ([.ref (a 0), .ref (kK 6)] : List Value).toArray below meth c H locs 0 0 Q (F0 m 5 ls []) := by
    intro kn
    induction kn using Nat.strongRecOn with
    | _ kn ih =>
      intro w4 w2 H locs ls hi hpk9 hm hP hD hS hl
      refine lv_iload hx hb dX6_isWord_5 (lv_at hl 0 rfl) ?_
      refine lv_aload_n hx hb dX6_isWord_7 rfl (lv_at hl 3 rfl) ?_
      obtain ⟨hC9, hPc, hDc, hFc⟩ := xcut (wc := (pre_J0_length_8abf5_24 T (xa []) (xa []) (xf []) (xh []) (xv []) (xl []))) hP hD hS hA [] (by decide) rfl
      refine va_calli (va_runV (As := []) (rest := [.int w4]) ⟨hx, hb, hml, hown, htg⟩ (c_J0_length_8abf5_24 l D T (xa []) (xa []) (xf []) (xh []) (xv []) (xl []) kK kV H.size) ⟨callB_of 0 htg (xg_ok kw_47) rfl rfl rfl (htg _ kw_3) (htg _ kw_44) (by decide +kernel) ⟨by rw [hR]; exact Nat.le_of_ble_eq_true rfl, by rw [hR]; exact Nat.le_of_ble_eq_true rfl⟩, htg _ kw_45, htg _ kw_46⟩ (xpreVs hK hPc hDc hT hFc hS (xT.recv hT 6 (by decide) hS)) rfl rfl hl.1 rfl (lv_room (Nat.le_of_ble_eq_true rfl)) dX6_isWord_8 ⟨by rw [hR]; exact Nat.le_of_ble_eq_true rfl, by rw [hR]; exact Nat.le_of_ble_eq_true rfl⟩) hS (fun q _ h => hFc q h) hFc (fun r9 u9 t H1 locs ht hvm hw hB hz1 hk1 hS => ?_)
      subst hw
      obtain ⟨fik, flk, vik, vlk, hP1, hD1, hG⟩ := hB
      rw [ht] at hP1
      obtain ⟨hP, hD⟩ := va_join (wr := [((a 0), .inr (6, [.ref (ex 0), .ref (ex 1), .int (vi 0), .int (vi 1), .int (vi 2), .int (vi 3), .int (vi 4), .int (vi 5), .long (vl 0), .int (vi 6), .int (vi 7), .int (vi 8), .int (vi 9), .int (vi 10)]))]) (w1 := []) hP hD [] [0] hC9 rfl (by decide) (by decide) hk1 hFc hP1 hD1
      obtain ⟨rk, er9⟩ : ∃ z, z = r9 := ⟨_, rfl⟩
      subst er9
      clear hPc hDc hFc hP1 hD1 hk1 hz1 hvm ht hC9
      generalize H1 = H at hP hS ⊢
      obtain ⟨hP, hD⟩ := (show xPD D A [((a 0), .inr (6, [.ref (ex 0), .ref (ex 1), .int (vi 0), .int (vi 1), .int (vi 2), .int (vi 3), .int (vi 4), .int (vi 5), .long (vl 0), .int (vi 6), .int (vi 7), .int (vi 8), .int (vi 9), .int (vi 10)]))] H from ⟨hP, hD⟩)
      obtain ⟨gk_0, -⟩ := hG
      replace gk_0 : rk = 4 := gk_0
      refine xz_i 4 gk_0 ?_
      refine lv_icmp_ge (tgt := 33) hx hb dX6_isWord_11 (by decide) (fun c11 => ?_) (fun c11 => ?_)
      · have c11 := xge (k := 4) (by decide) c11
        refine lv_aload_n hx hb dX6_isWord_33 rfl (lv_at hl 2 rfl) ?_
        refine va_get (D := D) (ci := 6) (v := .int (vi 4)) (C := RX6) (T := TX6) (N := 14) hx hb htg inX6 hown hK.1 hP 0 rfl rfl 6 (by decide) (htg _ kw_104) (fun _ h9 => h9) rfl dX6_isWord_34 ?_
        refine lv_iconst (v := 1) hx hb dX6_isWord_37 (by decide) ?_
        refine lv_icmp_ne (tgt := 54) hx hb dX6_isWord_38 (by decide) (fun c38 => ?_) (fun c38 => ?_)
        · have c38 := xne (k := 1) (by decide) c38
          refine lv_iconst (v := 0) hx hb dX6_isWord_54 (by decide) ?_
          have hP9 := hP.sub (ws' := [((a 0), .inr (6, [.ref (ex 0), .ref (ex 1), .int (vi 0), .int (vi 1), .int (vi 2), .int (vi 3), .int (vi 4), .int (vi 5), .long (vl 0), .int (vi 6), .int (vi 7), .int (vi 8), .int (vi 9), .int (vi 10)]))]) [0] rfl
          have hD9 := hD.sub (ws' := [((a 0), .inr (6, [.ref (ex 0), .ref (ex 1), .int (vi 0), .int (vi 1), .int (vi 2), .int (vi 3), .int (vi 4), .int (vi 5), .long (vl 0), .int (vi 6), .int (vi 7), .int (vi 8), .int (vi 9), .int (vi 10)]))]) [0] (by decide +kernel) rfl
          rw [hQ]
          exact W.zret (v := 0) hx hb hr rfl (fun t ht hW => ⟨⟨0, 0, rfl, rfl, xf [], xh [], xv [], xl [], by rw [ht]; exact hP9, hD9, ⟨(Or.inr ⟨rfl, by show True; first | trivial | omega | assumption⟩), (by unfold R_X6_isWord_24; exact (fun Q9 k9_0 k9_1 k9_2 => k9_0 hp0 hp1 hp2 hp3 hp4 w4 w2 hi hpk9 fik flk vik vlk rk gk_0 c11 c38 rfl)), trivial⟩⟩, hS.F ht⟩) hS.2.2 dX6_isWord_55
        · have c38 := xeq (k := 1) (by decide) c38
          refine lv_lload_n hx hb dX6_isWord_41 rfl (lv_at hl 1 rfl) ?_
          refine lv_aload_n hx hb dX6_isWord_42 rfl (lv_at hl 2 rfl) ?_
          refine va_get (D := D) (ci := 6) (v := .long (vl 0)) (C := RX6) (T := TX6) (N := 14) hx hb htg inX6 hown hK.1 hP 0 rfl rfl 8 (by decide) (htg _ kw_108) (fun _ h9 => h9) rfl dX6_isWord_43 ?_
          refine W.lcmp hx hb dX6_isWord_46 ?_
          refine lv_topi (fun z46 ez46 => ?_)
          refine lv_if_ne (tgt := 54) hx hb dX6_isWord_47 (by decide) (fun c47 => ?_) (fun c47 => ?_)
          · have c47 := xne (k := 0) (by decide) c47
            refine lv_iconst (v := 0) hx hb dX6_isWord_54 (by decide) ?_
            have hP9 := hP.sub (ws' := [((a 0), .inr (6, [.ref (ex 0), .ref (ex 1), .int (vi 0), .int (vi 1), .int (vi 2), .int (vi 3), .int (vi 4), .int (vi 5), .long (vl 0), .int (vi 6), .int (vi 7), .int (vi 8), .int (vi 9), .int (vi 10)]))]) [0] rfl
            have hD9 := hD.sub (ws' := [((a 0), .inr (6, [.ref (ex 0), .ref (ex 1), .int (vi 0), .int (vi 1), .int (vi 2), .int (vi 3), .int (vi 4), .int (vi 5), .long (vl 0), .int (vi 6), .int (vi 7), .int (vi 8), .int (vi 9), .int (vi 10)]))]) [0] (by decide +kernel) rfl
            rw [hQ]
            exact W.zret (v := 0) hx hb hr rfl (fun t ht hW => ⟨⟨0, 0, rfl, rfl, xf [], xh [], xv [], xl [], by rw [ht]; exact hP9, hD9, ⟨(Or.inr ⟨rfl, by show True; first | trivial | omega | assumption⟩), (by unfold R_X6_isWord_24; exact (fun Q9 k9_0 k9_1 k9_2 => k9_1 hp0 hp1 hp2 hp3 hp4 w4 w2 hi hpk9 fik flk vik vlk rk gk_0 c11 c38 z46 ez46 c47 rfl)), trivial⟩⟩, hS.F ht⟩) hS.2.2 dX6_isWord_55
          · have c47 := xeq (k := 0) (by decide) c47
            refine lv_iconst (v := 1) hx hb dX6_isWord_50 (by decide) ?_
            refine lv_goto (tgt := 55) hx hb dX6_isWord_51 (by decide) ?_
            have hP9 := hP.sub (ws' := [((a 0), .inr (6, [.ref (ex 0), .ref (ex 1), .int (vi 0), .int (vi 1), .int (vi 2), .int (vi 3), .int (vi 4), .int (vi 5), .long (vl 0), .int (vi 6), .int (vi 7), .int (vi 8), .int (vi 9), .int (vi 10)]))]) [0] rfl
            have hD9 := hD.sub (ws' := [((a 0), .inr (6, [.ref (ex 0), .ref (ex 1), .int (vi 0), .int (vi 1), .int (vi 2), .int (vi 3), .int (vi 4), .int (vi 5), .long (vl 0), .int (vi 6), .int (vi 7), .int (vi 8), .int (vi 9), .int (vi 10)]))]) [0] (by decide +kernel) rfl
            rw [hQ]
            exact W.zret (v := 1) hx hb hr rfl (fun t ht hW => ⟨⟨1, 1, rfl, rfl, xf [], xh [], xv [], xl [], by rw [ht]; exact hP9, hD9, ⟨(Or.inl ⟨rfl, by show True; first | trivial | omega | assumption⟩), (by unfold R_X6_isWord_24; exact (fun Q9 k9_0 k9_1 k9_2 => k9_2 hp0 hp1 hp2 hp3 hp4 w4 w2 hi hpk9 fik flk vik vlk rk gk_0 c11 c38 z46 ez46 c47 rfl)), trivial⟩⟩, hS.F ht⟩) hS.2.2 dX6_isWord_55
      · have c11 := xnge (k := 4) (by decide) c11
        refine lv_lload_n hx hb dX6_isWord_14 rfl (lv_at hl 1 rfl) ?_
        refine lv_bipush (v := 8) hx hb dX6_isWord_15 (by decide) ?_
        refine lv_lshl hx hb dX6_isWord_17 rfl ?_
        refine lv_topl (fun z17 ez17 => ?_)
        refine lv_aload_n hx hb dX6_isWord_18 rfl (lv_at hl 3 rfl) ?_
        refine lv_iload hx hb dX6_isWord_19 (lv_at hl 0 rfl) ?_
        obtain ⟨hC9, hPc, hDc, hFc⟩ := xcut (wc := (pre_J0_charAt_5068e_24 T (xa []) (xa []) (xf []) (xh []) (xv [w4]) (xl []))) hP hD hS hA [] (by decide) rfl
        refine va_calli (va_runV (As := [.int w4]) (rest := [.long z17]) ⟨hx, hb, hml, hown, htg⟩ (c_J0_charAt_5068e_24 l D T (xa []) (xa []) (xf []) (xh []) (xv [w4]) (xl []) kK kV H.size (by show 0 ≤ w4.toInt ∧ w4.toInt ≤ 3; omega)) ⟨callB_of 1 htg (xg_ok kw_57) rfl rfl rfl (htg _ kw_3) (htg _ kw_54) (by decide +kernel) ⟨by rw [hR]; exact Nat.le_of_ble_eq_true rfl, by rw [hR]; exact Nat.le_of_ble_eq_true rfl⟩, htg _ kw_55, htg _ kw_56⟩ (xpreVs hK hPc hDc hT hFc hS (xT.recv hT 6 (by decide) hS)) rfl rfl hl.1 rfl (lv_room (Nat.le_of_ble_eq_true rfl)) dX6_isWord_21 ⟨by rw [hR]; exact Nat.le_of_ble_eq_true rfl, by rw [hR]; exact Nat.le_of_ble_eq_true rfl⟩) hS (fun q _ h => hFc q h) hFc (fun r9 u9 t H1 locs ht hvm hw hB hz1 hk1 hS => ?_)
        subst hw
        obtain ⟨fik_1, flk_1, vik_1, vlk_1, hP1, hD1, hG⟩ := hB
        rw [ht] at hP1
        obtain ⟨hP, hD⟩ := va_join (wr := [((a 0), .inr (6, [.ref (ex 0), .ref (ex 1), .int (vi 0), .int (vi 1), .int (vi 2), .int (vi 3), .int (vi 4), .int (vi 5), .long (vl 0), .int (vi 6), .int (vi 7), .int (vi 8), .int (vi 9), .int (vi 10)]))]) (w1 := []) hP hD [] [0] hC9 rfl (by decide) (by decide) hk1 hFc hP1 hD1
        obtain ⟨rk_1, er9⟩ : ∃ z, z = r9 := ⟨_, rfl⟩
        subst er9
        clear hPc hDc hFc hP1 hD1 hk1 hz1 hvm ht hC9
        generalize H1 = H at hP hS ⊢
        obtain ⟨hP, hD⟩ := (show xPD D A [((a 0), .inr (6, [.ref (ex 0), .ref (ex 1), .int (vi 0), .int (vi 1), .int (vi 2), .int (vi 3), .int (vi 4), .int (vi 5), .long (vl 0), .int (vi 6), .int (vi 7), .int (vi 8), .int (vi 9), .int (vi 10)]))] H from ⟨hP, hD⟩)
        obtain ⟨gk_1_0, gk_1_1, -⟩ := hG
        replace gk_1_1 : rk_1 = (sBy.getD 6 []).getD (w4.toInt).toNat 0 := (P_J0_charAt_5068e_24 gk_1_1 : _)
        replace gk_1_0 : narrow .char (.int rk_1) = .int rk_1 := gk_1_0
        refine lv_i2l hx hb dX6_isWord_24 rfl ?_
        refine lv_topl (fun z24 ez24 => ?_)
        refine lv_lor hx hb dX6_isWord_25 ?_
        refine lv_topl (fun z25 ez25 => ?_)
        refine lv_lstore_n (lv' := [(2, .long z25), (4, .int w4), (0, .ref (a 0)), (1, .ref (kK 6))]) hx hb dX6_isWord_26 rfl hl (by decide) rfl (fun ls hl => ?_)
        obtain ⟨i27, ei27⟩ : ∃ z : Int32, w4 + Int32.ofInt 1 = z := ⟨_, rfl⟩
        have ti27 : i27.toInt = w4.toInt + 1 := by rw [← ei27]; have h79 := xrng w4; exact xadd rfl (by decide) (by omega) (by omega)
        refine lv_iinc (v := i27) (lv' := [(4, .int i27), (2, .long z25), (0, .ref (a 0)), (1, .ref (kK 6))]) hx hb dX6_isWord_27 hl (k := 1) rfl ei27 (by decide) rfl (fun ls hl => ?_)
        refine lv_goto (tgt := 5) hx hb dX6_isWord_30 (by decide) ?_
        exact ih _ (by omega) i27 z25 _ _ _ (by show 0 ≤ i27.toInt ∧ i27.toInt ≤ 4; omega) (by show z25 = pkw (sBy.getD 6 []) (i27.toInt).toNat; rw [ez25, ez17, ez24]; exact pkw_s hpk9 (by omega) (by omega) (by assumption)) rfl (hP.sub [0] rfl) (hD.sub [0] (by decide) rfl) hS (lv_sub hl [0, 1, 2, 3] rfl)
  exact lp _ (0 : Int32) (0 : Int64) _ _ _ (show 0 ≤ (0 : Int32).toInt ∧ (0 : Int32).toInt ≤ 4 by decide) (by show (0 : Int64) = pkw (sBy.getD 6 []) ((0 : Int32).toInt).toNat; have k9_0 : (0 : Int32).toInt = 0 := (by decide); rw [show (0 : Int32).toInt.toNat = 0 by decide]; rfl) rfl hP hD hS hl
abbrev pre_X7_addSoul (T : Nat → ClassId) (a ex : Nat → Nat) (fi : Nat → Nat → Int32) (fl : Nat → Nat → Int64) (vi : Nat → Int32) (vl : Nat → Int64) : va_W := [((a 0), .inr (7, [.int (vi 1), .int (vi 2), .ref (ex 0), .ref (ex 1), .ref (ex 2), .ref (ex 3), .ref (a 1), .ref (a 2), .ref (a 3), .ref (a 4), .ref (a 5), .ref (a 6)])), ((a 1), .inl (T 2, 9, .inr (.inl (fl 0)))), ((a 2), .inl (T 1, 9, .inl (fi 0))), ((a 3), .inl (T 1, 9, .inl (fi 1))), ((a 4), .inl (T 1, 9, .inl (fi 2))), ((a 5), .inl (T 1, 9, .inl (fi 3))), ((a 6), .inl (T 1, 81, .inl (fi 4)))]
set_option maxHeartbeats 8000000 in
set_option maxRecDepth 100000 in
theorem c_X7_addSoul (l : Launch) (D : va_G) (T : Nat → ClassId) (a ex : Nat → Nat) (fi : Nat → Nat → Int32) (fl : Nat → Nat → Int64) (vi : Nat → Int32) (vl : Nat → Int64) (sz : Nat) (hp0 : 0 ≤ (vi 1).toInt ∧ (vi 1).toInt ≤ 9) (hp1 : 0 ≤ (vi 2).toInt ∧ (vi 2).toInt ≤ 9) : Met l yX7_addSoul (xw yX7_addSoul cX7_addSoul 5 none) ({ frames := 0, cells := 0, slots := 0, locals := 0 }) (xP D T [.ref (a 0), .long (vl 0), .int (vi 0)] sz (pre_X7_addSoul T a ex fi fl vi vl)) (va_Qv (fun _ : Int32 => True) (xC D (va_A (pre_X7_addSoul T a ex fi fl vi vl) sz) (fun fj fm vj vm => [((a 0), .inr (7, [.int (vi 1), .int (vj 0), .ref (ex 0), .ref (ex 1), .ref (ex 2), .ref (ex 3), .ref (a 1), .ref (a 2), .ref (a 3), .ref (a 4), .ref (a 5), .ref (a 6)])), ((a 1), .inl (T 2, 9, .inr (.inl (fm 0)))), ((a 2), .inl (T 1, 9, .inl (fj 0))), ((a 3), .inl (T 1, 9, .inl (fj 1))), ((a 4), .inl (T 1, 9, .inl (fj 2))), ((a 5), .inl (T 1, 9, .inl (fj 3))), ((a 6), .inl (T 1, 81, .inl (fj 4)))]) (fun (r : Int32) (fj : Nat → Nat → Int32) (fm : Nat → Nat → Int64) (vj : Nat → Int32) (vm : Nat → Int64) => (0 ≤ (vj 0).toInt ∧ (vj 0).toInt ≤ 9) ∧ R_X7_addSoul fi fl vi vl r fj fm vj vm ∧ True)) (va_A (pre_X7_addSoul T a ex fi fl vi vl) sz)) 0 0 (va_A (pre_X7_addSoul T a ex fi fl vi vl) sz) := by
  refine xofW (cc := cX7_addSoul) (maxL := 5) (ret := none) (by decide) rfl ?_
  intro p e s m args below meth c s₁ R Q hR hQ B hml hv
  obtain ⟨rfl, hsz, hP, hK, hD0⟩ := hv
  have hx := B.exec
  have hb := B.bytes
  have hr := B.returns
  have hts := atoms_spec (ws := xw yX7_addSoul cX7_addSoul 5 none) B.pre
  have htg : ∀ w ∈ xg, w.before _ s = true := fun w h => hts w (List.mem_cons_of_mem _ h)
  have hown : s.vm.findClass RX7 = some m.cls := findClass_of_methodNamed B.named
  have hlocks := B.notSynchronized
  subst hsz
  have hD := hD0.self (sz := s.heap.size)
  generalize hAe : va_A (pre_X7_addSoul T a ex fi fl vi vl) s.heap.size = A at hD hQ
  have hA : ∀ q : Nat, s.heap.size ≤ q → A q := fun q h => by rw [← hAe]; exact Or.inr h
  have hS : va_S A s.heap s.heap [] := va_S.rf
  replace hP : va_P D vwCl [((a 0), .inr (7, [.int (vi 1), .int (vi 2), .ref (ex 0), .ref (ex 1), .ref (ex 2), .ref (ex 3), .ref (a 1), .ref (a 2), .ref (a 3), .ref (a 4), .ref (a 5), .ref (a 6)])), ((a 1), .inl (T 2, 9, .inr (.inl (fl 0)))), ((a 2), .inl (T 1, 9, .inl (fi 0))), ((a 3), .inl (T 1, 9, .inl (fi 1))), ((a 4), .inl (T 1, 9, .inl (fi 2))), ((a 5), .inl (T 1, 9, .inl (fi 3))), ((a 6), .inl (T 1, 81, .inl (fi 4)))] s.heap := hP
  replace hD : va_D A [((a 0), .inr (7, [.int (vi 1), .int (vi 2), .ref (ex 0), .ref (ex 1), .ref (ex 2), .ref (ex 3), .ref (a 1), .ref (a 2), .ref (a 3), .ref (a 4), .ref (a 5), .ref (a 6)])), ((a 1), .inl (T 2, 9, .inr (.inl (fl 0)))), ((a 2), .inl (T 1, 9, .inl (fi 0))), ((a 3), .inl (T 1, 9, .inl (fi 1))), ((a 4), .inl (T 1, 9, .inl (fi 2))), ((a 5), .inl (T 1, 9, .inl (fi 3))), ((a 6), .inl (T 1, 81, .inl (fi 4)))] := hD
  have hl := lv_entry ([.ref (a 0), .long (vl 0), .int (vi 0)]) (n := 5) (Nat.le_of_ble_eq_true rfl)
  rw [lg_entry_eq]
  generalize (lg_sl ([.ref (a 0), .long (vl 0), .int (vi 0)]) ++ List.replicate (5 - (lg_sl ([.ref (a 0), .long (vl 0), .int (vi 0)])).length) Slot.unset).toArray = ls at hl ⊢
  replace hl : lv_has ls 5 [(0, .ref (a 0)), (1, .long (vl 0)), (3, .int (vi 0))] := hl
  refine lv_aload_n hx hb dX7_addSoul_0 rfl (lv_at hl 0 rfl) ?_
  refine va_get (D := D) (ci := 7) (v := .int (vi 2)) (C := RX7) (T := TX7) (N := 12) hx hb htg inX7 hown hK.1 hP 0 rfl rfl 1 (by decide) (htg _ kw_163) (fun _ h9 => h9) rfl dX7_addSoul_1 ?_
  refine lv_bipush (v := 9) hx hb dX7_addSoul_4 (by decide) ?_
  refine lv_icmp_ge (tgt := 101) hx hb dX7_addSoul_6 (by decide) (fun c6 => ?_) (fun c6 => ?_)
  · have c6 := xge (k := 9) (by decide) c6
    have hP9 := hP.sub (ws' := [((a 0), .inr (7, [.int (vi 1), .int (vi 2), .ref (ex 0), .ref (ex 1), .ref (ex 2), .ref (ex 3), .ref (a 1), .ref (a 2), .ref (a 3), .ref (a 4), .ref (a 5), .ref (a 6)])), ((a 1), .inl (T 2, 9, .inr (.inl (fl 0)))), ((a 2), .inl (T 1, 9, .inl (fi 0))), ((a 3), .inl (T 1, 9, .inl (fi 1))), ((a 4), .inl (T 1, 9, .inl (fi 2))), ((a 5), .inl (T 1, 9, .inl (fi 3))), ((a 6), .inl (T 1, 81, .inl (fi 4)))]) [0, 1, 2, 3, 4, 5, 6] rfl
    have hD9 := hD.sub (ws' := [((a 0), .inr (7, [.int (vi 1), .int (vi 2), .ref (ex 0), .ref (ex 1), .ref (ex 2), .ref (ex 3), .ref (a 1), .ref (a 2), .ref (a 3), .ref (a 4), .ref (a 5), .ref (a 6)])), ((a 1), .inl (T 2, 9, .inr (.inl (fl 0)))), ((a 2), .inl (T 1, 9, .inl (fi 0))), ((a 3), .inl (T 1, 9, .inl (fi 1))), ((a 4), .inl (T 1, 9, .inl (fi 2))), ((a 5), .inl (T 1, 9, .inl (fi 3))), ((a 6), .inl (T 1, 81, .inl (fi 4)))]) [0, 1, 2, 3, 4, 5, 6] (by decide +kernel) rfl
    rw [hQ]
    exact W.vret hx hb hr (fun t ht hW => ⟨⟨(0 : Int32), rfl, trivial, xf [(fi 0), (fi 1), (fi 2), (fi 3), (fi 4)], xh [(fl 0)], xv [(vi 2)], xl [], by rw [ht]; exact hP9, hD9, ⟨hp1, (by unfold R_X7_addSoul; exact (fun Q9 k9_0 k9_1 => k9_0 hp0 hp1 c6 rfl rfl rfl rfl rfl rfl rfl)), trivial⟩⟩, hS.F ht⟩) hS.2.2 dX7_addSoul_101
  · have c6 := xnge (k := 9) (by decide) c6
    refine lv_aload_n hx hb dX7_addSoul_9 rfl (lv_at hl 0 rfl) ?_
    refine va_get (D := D) (ci := 7) (v := .ref (a 1)) (C := RX7) (T := TX7) (N := 12) hx hb htg inX7 hown hK.1 hP 0 rfl rfl 6 (by decide) (htg _ kw_180) (fun _ h9 => h9) rfl dX7_addSoul_10 ?_
    refine lv_aload_n hx hb dX7_addSoul_13 rfl (lv_at hl 0 rfl) ?_
    refine va_get (D := D) (ci := 7) (v := .int (vi 2)) (C := RX7) (T := TX7) (N := 12) hx hb htg inX7 hown hK.1 hP 0 rfl rfl 1 (by decide) (htg _ kw_163) (fun _ h9 => h9) rfl dX7_addSoul_14 ?_
    refine lv_lload_n hx hb dX7_addSoul_17 rfl (lv_at hl 1 rfl) ?_
    refine va_last hx hb hK.1 hP hD hS 1 2 rfl rfl (vp_in_iff.mpr (by omega)) dX7_addSoul_18 (fun H locs hP hD hS => ?_)
    obtain ⟨f18, ef18, hP, hD⟩ : ∃ f7 : Nat → Int64, f7 = vp_updL (fl 0) (vi 2).toNatClampNeg ((vl 0) : Int64) ∧ va_P D vwCl [((a 0), .inr (7, [.int (vi 1), .int (vi 2), .ref (ex 0), .ref (ex 1), .ref (ex 2), .ref (ex 3), .ref (a 1), .ref (a 2), .ref (a 3), .ref (a 4), .ref (a 5), .ref (a 6)])), ((a 1), .inl (T 2, 9, .inr (.inl f7))), ((a 2), .inl (T 1, 9, .inl (fi 0))), ((a 3), .inl (T 1, 9, .inl (fi 1))), ((a 4), .inl (T 1, 9, .inl (fi 2))), ((a 5), .inl (T 1, 9, .inl (fi 3))), ((a 6), .inl (T 1, 81, .inl (fi 4)))] H ∧ va_D A [((a 0), .inr (7, [.int (vi 1), .int (vi 2), .ref (ex 0), .ref (ex 1), .ref (ex 2), .ref (ex 3), .ref (a 1), .ref (a 2), .ref (a 3), .ref (a 4), .ref (a 5), .ref (a 6)])), ((a 1), .inl (T 2, 9, .inr (.inl f7))), ((a 2), .inl (T 1, 9, .inl (fi 0))), ((a 3), .inl (T 1, 9, .inl (fi 1))), ((a 4), .inl (T 1, 9, .inl (fi 2))), ((a 5), .inl (T 1, 9, .inl (fi 3))), ((a 6), .inl (T 1, 81, .inl (fi 4)))] := ⟨_, rfl, hP, hD⟩
    refine lv_aload_n hx hb dX7_addSoul_19 rfl (lv_at hl 0 rfl) ?_
    refine va_get (D := D) (ci := 7) (v := .ref (a 2)) (C := RX7) (T := TX7) (N := 12) hx hb htg inX7 hown hK.1 hP 0 rfl rfl 7 (by decide) (htg _ kw_181) (fun _ h9 => h9) rfl dX7_addSoul_20 ?_
    refine lv_aload_n hx hb dX7_addSoul_23 rfl (lv_at hl 0 rfl) ?_
    refine va_get (D := D) (ci := 7) (v := .int (vi 2)) (C := RX7) (T := TX7) (N := 12) hx hb htg inX7 hown hK.1 hP 0 rfl rfl 1 (by decide) (htg _ kw_163) (fun _ h9 => h9) rfl dX7_addSoul_24 ?_
    refine lv_iload_n hx hb dX7_addSoul_27 rfl (lv_at hl 2 rfl) ?_
    refine va_iast hx hb hK.1 hP hD hS 2 1 rfl rfl (vp_in_iff.mpr (by omega)) dX7_addSoul_28 (fun H locs hP hD hS => ?_)
    obtain ⟨f28, ef28, hP, hD⟩ : ∃ f7 : Nat → Int32, f7 = upd (fi 0) (vi 2).toNatClampNeg ((vi 0) : Int32) ∧ va_P D vwCl [((a 0), .inr (7, [.int (vi 1), .int (vi 2), .ref (ex 0), .ref (ex 1), .ref (ex 2), .ref (ex 3), .ref (a 1), .ref (a 2), .ref (a 3), .ref (a 4), .ref (a 5), .ref (a 6)])), ((a 1), .inl (T 2, 9, .inr (.inl f18))), ((a 2), .inl (T 1, 9, .inl f7)), ((a 3), .inl (T 1, 9, .inl (fi 1))), ((a 4), .inl (T 1, 9, .inl (fi 2))), ((a 5), .inl (T 1, 9, .inl (fi 3))), ((a 6), .inl (T 1, 81, .inl (fi 4)))] H ∧ va_D A [((a 0), .inr (7, [.int (vi 1), .int (vi 2), .ref (ex 0), .ref (ex 1), .ref (ex 2), .ref (ex 3), .ref (a 1), .ref (a 2), .ref (a 3), .ref (a 4), .ref (a 5), .ref (a 6)])), ((a 1), .inl (T 2, 9, .inr (.inl f18))), ((a 2), .inl (T 1, 9, .inl f7)), ((a 3), .inl (T 1, 9, .inl (fi 1))), ((a 4), .inl (T 1, 9, .inl (fi 2))), ((a 5), .inl (T 1, 9, .inl (fi 3))), ((a 6), .inl (T 1, 81, .inl (fi 4)))] := ⟨_, rfl, hP, hD⟩
    refine lv_aload_n hx hb dX7_addSoul_29 rfl (lv_at hl 0 rfl) ?_
    refine va_get (D := D) (ci := 7) (v := .ref (a 3)) (C := RX7) (T := TX7) (N := 12) hx hb htg inX7 hown hK.1 hP 0 rfl rfl 8 (by decide) (htg _ kw_183) (fun _ h9 => h9) rfl dX7_addSoul_30 ?_
    refine lv_aload_n hx hb dX7_addSoul_33 rfl (lv_at hl 0 rfl) ?_
    refine va_get (D := D) (ci := 7) (v := .int (vi 2)) (C := RX7) (T := TX7) (N := 12) hx hb htg inX7 hown hK.1 hP 0 rfl rfl 1 (by decide) (htg _ kw_163) (fun _ h9 => h9) rfl dX7_addSoul_34 ?_
    refine lv_iconst (v := (-1)) hx hb dX7_addSoul_37 (by decide) ?_
    refine va_iast hx hb hK.1 hP hD hS 3 1 rfl rfl (vp_in_iff.mpr (by omega)) dX7_addSoul_38 (fun H locs hP hD hS => ?_)
    obtain ⟨f38, ef38, hP, hD⟩ : ∃ f7 : Nat → Int32, f7 = upd (fi 1) (vi 2).toNatClampNeg ((-1) : Int32) ∧ va_P D vwCl [((a 0), .inr (7, [.int (vi 1), .int (vi 2), .ref (ex 0), .ref (ex 1), .ref (ex 2), .ref (ex 3), .ref (a 1), .ref (a 2), .ref (a 3), .ref (a 4), .ref (a 5), .ref (a 6)])), ((a 1), .inl (T 2, 9, .inr (.inl f18))), ((a 2), .inl (T 1, 9, .inl f28)), ((a 3), .inl (T 1, 9, .inl f7)), ((a 4), .inl (T 1, 9, .inl (fi 2))), ((a 5), .inl (T 1, 9, .inl (fi 3))), ((a 6), .inl (T 1, 81, .inl (fi 4)))] H ∧ va_D A [((a 0), .inr (7, [.int (vi 1), .int (vi 2), .ref (ex 0), .ref (ex 1), .ref (ex 2), .ref (ex 3), .ref (a 1), .ref (a 2), .ref (a 3), .ref (a 4), .ref (a 5), .ref (a 6)])), ((a 1), .inl (T 2, 9, .inr (.inl f18))), ((a 2), .inl (T 1, 9, .inl f28)), ((a 3), .inl (T 1, 9, .inl f7)), ((a 4), .inl (T 1, 9, .inl (fi 2))), ((a 5), .inl (T 1, 9, .inl (fi 3))), ((a 6), .inl (T 1, 81, .inl (fi 4)))] := ⟨_, rfl, hP, hD⟩
    refine lv_aload_n hx hb dX7_addSoul_39 rfl (lv_at hl 0 rfl) ?_
    refine va_get (D := D) (ci := 7) (v := .ref (a 4)) (C := RX7) (T := TX7) (N := 12) hx hb htg inX7 hown hK.1 hP 0 rfl rfl 9 (by decide) (htg _ kw_186) (fun _ h9 => h9) rfl dX7_addSoul_40 ?_
    refine lv_aload_n hx hb dX7_addSoul_43 rfl (lv_at hl 0 rfl) ?_
    refine va_get (D := D) (ci := 7) (v := .int (vi 2)) (C := RX7) (T := TX7) (N := 12) hx hb htg inX7 hown hK.1 hP 0 rfl rfl 1 (by decide) (htg _ kw_163) (fun _ h9 => h9) rfl dX7_addSoul_44 ?_
    refine lv_iconst (v := (-1)) hx hb dX7_addSoul_47 (by decide) ?_
    refine va_iast hx hb hK.1 hP hD hS 4 1 rfl rfl (vp_in_iff.mpr (by omega)) dX7_addSoul_48 (fun H locs hP hD hS => ?_)
    obtain ⟨f48, ef48, hP, hD⟩ : ∃ f7 : Nat → Int32, f7 = upd (fi 2) (vi 2).toNatClampNeg ((-1) : Int32) ∧ va_P D vwCl [((a 0), .inr (7, [.int (vi 1), .int (vi 2), .ref (ex 0), .ref (ex 1), .ref (ex 2), .ref (ex 3), .ref (a 1), .ref (a 2), .ref (a 3), .ref (a 4), .ref (a 5), .ref (a 6)])), ((a 1), .inl (T 2, 9, .inr (.inl f18))), ((a 2), .inl (T 1, 9, .inl f28)), ((a 3), .inl (T 1, 9, .inl f38)), ((a 4), .inl (T 1, 9, .inl f7)), ((a 5), .inl (T 1, 9, .inl (fi 3))), ((a 6), .inl (T 1, 81, .inl (fi 4)))] H ∧ va_D A [((a 0), .inr (7, [.int (vi 1), .int (vi 2), .ref (ex 0), .ref (ex 1), .ref (ex 2), .ref (ex 3), .ref (a 1), .ref (a 2), .ref (a 3), .ref (a 4), .ref (a 5), .ref (a 6)])), ((a 1), .inl (T 2, 9, .inr (.inl f18))), ((a 2), .inl (T 1, 9, .inl f28)), ((a 3), .inl (T 1, 9, .inl f38)), ((a 4), .inl (T 1, 9, .inl f7)), ((a 5), .inl (T 1, 9, .inl (fi 3))), ((a 6), .inl (T 1, 81, .inl (fi 4)))] := ⟨_, rfl, hP, hD⟩
    refine lv_aload_n hx hb dX7_addSoul_49 rfl (lv_at hl 0 rfl) ?_
    refine va_get (D := D) (ci := 7) (v := .ref (a 5)) (C := RX7) (T := TX7) (N := 12) hx hb htg inX7 hown hK.1 hP 0 rfl rfl 10 (by decide) (htg _ kw_191) (fun _ h9 => h9) rfl dX7_addSoul_50 ?_
    refine lv_aload_n hx hb dX7_addSoul_53 rfl (lv_at hl 0 rfl) ?_
    refine va_get (D := D) (ci := 7) (v := .int (vi 2)) (C := RX7) (T := TX7) (N := 12) hx hb htg inX7 hown hK.1 hP 0 rfl rfl 1 (by decide) (htg _ kw_163) (fun _ h9 => h9) rfl dX7_addSoul_54 ?_
    refine lv_iconst (v := (-1)) hx hb dX7_addSoul_57 (by decide) ?_
    refine va_iast hx hb hK.1 hP hD hS 5 1 rfl rfl (vp_in_iff.mpr (by omega)) dX7_addSoul_58 (fun H locs hP hD hS => ?_)
    obtain ⟨f58, ef58, hP, hD⟩ : ∃ f7 : Nat → Int32, f7 = upd (fi 3) (vi 2).toNatClampNeg ((-1) : Int32) ∧ va_P D vwCl [((a 0), .inr (7, [.int (vi 1), .int (vi 2), .ref (ex 0), .ref (ex 1), .ref (ex 2), .ref (ex 3), .ref (a 1), .ref (a 2), .ref (a 3), .ref (a 4), .ref (a 5), .ref (a 6)])), ((a 1), .inl (T 2, 9, .inr (.inl f18))), ((a 2), .inl (T 1, 9, .inl f28)), ((a 3), .inl (T 1, 9, .inl f38)), ((a 4), .inl (T 1, 9, .inl f48)), ((a 5), .inl (T 1, 9, .inl f7)), ((a 6), .inl (T 1, 81, .inl (fi 4)))] H ∧ va_D A [((a 0), .inr (7, [.int (vi 1), .int (vi 2), .ref (ex 0), .ref (ex 1), .ref (ex 2), .ref (ex 3), .ref (a 1), .ref (a 2), .ref (a 3), .ref (a 4), .ref (a 5), .ref (a 6)])), ((a 1), .inl (T 2, 9, .inr (.inl f18))), ((a 2), .inl (T 1, 9, .inl f28)), ((a 3), .inl (T 1, 9, .inl f38)), ((a 4), .inl (T 1, 9, .inl f48)), ((a 5), .inl (T 1, 9, .inl f7)), ((a 6), .inl (T 1, 81, .inl (fi 4)))] := ⟨_, rfl, hP, hD⟩
    refine lv_iconst (v := 0) hx hb dX7_addSoul_59 (by decide) ?_
    refine lv_istore (lv' := [(4, .int 0), (0, .ref (a 0)), (1, .long (vl 0)), (3, .int (vi 0))]) hx hb dX7_addSoul_60 hl (by decide) rfl (fun ls hl => ?_)
    have lp : ∀ (kn : Nat) (w4 : Int32) (wf : Nat → Int32) (H : Heap) (locs : List Loc) (ls : Array Slot), (0 ≤ w4.toInt ∧ w4.toInt ≤ 9) → (∀ j : Nat, wf j = if 9 * (vi 2).toInt ≤ (j : Int) ∧ (j : Int) < 9 * (vi 2).toInt + w4.toInt then 0 else (fi 4) j) → (2147483648 - w4.toInt).toNat = kn → va_P D vwCl [((a 0), .inr (7, [.int (vi 1), .int (vi 2), .ref (ex 0), .ref (ex 1), .ref (ex 2), .ref (ex 3), .ref (a 1), .ref (a 2), .ref (a 3), .ref (a 4), .ref (a 5), .ref (a 6)])), ((a 1), .inl (T 2, 9, .inr (.inl f18))), ((a 2), .inl (T 1, 9, .inl f28)), ((a 3), .inl (T 1, 9, .inl f38)), ((a 4), .inl (T 1, 9, .inl f48)), ((a 5), .inl (T 1, 9, .inl f58)), ((a 6), .inl (T 1, 81, .inl wf))] H → va_D A [((a 0), .inr (7, [.int (vi 1), .int (vi 2), .ref (ex 0), .ref (ex 1), .ref (ex 2), .ref (ex 3), .ref (a 1), .ref (a 2), .ref (a 3), .ref (a 4), .ref (a 5), .ref (a 6)])), ((a 1), .inl (T 2, 9, .inr (.inl f18))), ((a 2), .inl (T 1, 9, .inl f28)), ((a 3), .inl (T 1, 9, .inl f38)), ((a 4), .inl (T 1, 9, .inl f48)), ((a 5), .inl (T 1, 9, .inl f58)), ((a 6), .inl (T 1, 81, .inl wf))] → va_S A s.heap H locs → lv_has ls 5 [(4, .int w4), (0, .ref (a 0)), (1, .long (vl 0)), (3, .int (vi 0))] → W p l e R s m ([.ref (a 0), .long (vl 0), .int (vi 0)] : List Value).toArray below meth c H locs 0 0 Q (F0 m 62 ls []) := by
      intro kn
      induction kn using Nat.strongRecOn with
      | _ kn ih =>
        intro w4 wf H locs ls hi hwz9 hm hP hD hS hl
        refine lv_iload hx hb dX7_addSoul_62 (lv_at hl 0 rfl) ?_
        refine lv_bipush (v := 9) hx hb dX7_addSoul_64 (by decide) ?_
        refine lv_icmp_ge (tgt := 91) hx hb dX7_addSoul_66 (by decide) (fun c66 => ?_) (fun c66 => ?_)
        · have c66 := xge (k := 9) (by decide) c66
          refine lv_aload_n hx hb dX7_addSoul_91 rfl (lv_at hl 1 rfl) ?_
          refine lv_dup hx hb dX7_addSoul_92 rfl ?_
          refine va_get (D := D) (ci := 7) (v := .int (vi 2)) (C := RX7) (T := TX7) (N := 12) hx hb htg inX7 hown hK.1 hP 0 rfl rfl 1 (by decide) (htg _ kw_163) (fun _ h9 => h9) rfl dX7_addSoul_93 ?_
          refine lv_iconst (v := 1) hx hb dX7_addSoul_96 (by decide) ?_
          refine lv_iadd hx hb dX7_addSoul_97 ?_
          refine lv_topi (fun z97 ez97 => ?_)
          have tz97 : z97.toInt = (vi 2).toInt + 1 := by rw [ez97]; exact xadd rfl (by decide) (by omega) (by omega)
          refine va_put (D := D) (ci := 7) (v := .int z97) (ty := .int) (C := RX7) (T := TX7) (N := 12) hx hb htg inX7 tyX7 tyX7_ok nmX7 hown hK.1 hP hD hS 0 rfl rfl 1 (by decide) (htg _ kw_163) (fun _ h9 => h9) rfl (by decide +kernel) rfl rfl (Nat.le_of_ble_eq_true rfl) dX7_addSoul_98 (fun H locs hP hD hS => ?_)
          obtain ⟨hP, hD⟩ := (show xPD D A [((a 0), .inr (7, [.int (vi 1), .int z97, .ref (ex 0), .ref (ex 1), .ref (ex 2), .ref (ex 3), .ref (a 1), .ref (a 2), .ref (a 3), .ref (a 4), .ref (a 5), .ref (a 6)])), ((a 1), .inl (T 2, 9, .inr (.inl f18))), ((a 2), .inl (T 1, 9, .inl f28)), ((a 3), .inl (T 1, 9, .inl f38)), ((a 4), .inl (T 1, 9, .inl f48)), ((a 5), .inl (T 1, 9, .inl f58)), ((a 6), .inl (T 1, 81, .inl wf))] H from ⟨hP, hD⟩)
          have hP9 := hP.sub (ws' := [((a 0), .inr (7, [.int (vi 1), .int z97, .ref (ex 0), .ref (ex 1), .ref (ex 2), .ref (ex 3), .ref (a 1), .ref (a 2), .ref (a 3), .ref (a 4), .ref (a 5), .ref (a 6)])), ((a 1), .inl (T 2, 9, .inr (.inl f18))), ((a 2), .inl (T 1, 9, .inl f28)), ((a 3), .inl (T 1, 9, .inl f38)), ((a 4), .inl (T 1, 9, .inl f48)), ((a 5), .inl (T 1, 9, .inl f58)), ((a 6), .inl (T 1, 81, .inl wf))]) [0, 1, 2, 3, 4, 5, 6] rfl
          have hD9 := hD.sub (ws' := [((a 0), .inr (7, [.int (vi 1), .int z97, .ref (ex 0), .ref (ex 1), .ref (ex 2), .ref (ex 3), .ref (a 1), .ref (a 2), .ref (a 3), .ref (a 4), .ref (a 5), .ref (a 6)])), ((a 1), .inl (T 2, 9, .inr (.inl f18))), ((a 2), .inl (T 1, 9, .inl f28)), ((a 3), .inl (T 1, 9, .inl f38)), ((a 4), .inl (T 1, 9, .inl f48)), ((a 5), .inl (T 1, 9, .inl f58)), ((a 6), .inl (T 1, 81, .inl wf))]) [0, 1, 2, 3, 4, 5, 6] (by decide +kernel) rfl
          rw [hQ]
          exact W.vret hx hb hr (fun t ht hW => ⟨⟨(0 : Int32), rfl, trivial, xf [f28, f38, f48, f58, wf], xh [f18], xv [z97], xl [], by rw [ht]; exact hP9, hD9, ⟨(by show 0 ≤ z97.toInt ∧ z97.toInt ≤ 9; omega), (by unfold R_X7_addSoul; exact (fun Q9 k9_0 k9_1 => k9_1 hp0 hp1 c6 f18 ef18 f28 ef28 f38 ef38 f48 ef48 f58 ef58 w4 wf hi hwz9 c66 z97 ez97 tz97 rfl rfl rfl rfl rfl rfl rfl)), trivial⟩⟩, hS.F ht⟩) hS.2.2 dX7_addSoul_101
        · have c66 := xnge (k := 9) (by decide) c66
          refine lv_aload_n hx hb dX7_addSoul_69 rfl (lv_at hl 1 rfl) ?_
          refine va_get (D := D) (ci := 7) (v := .ref (a 6)) (C := RX7) (T := TX7) (N := 12) hx hb htg inX7 hown hK.1 hP 0 rfl rfl 11 (by decide) (htg _ kw_194) (fun _ h9 => h9) rfl dX7_addSoul_70 ?_
          refine lv_aload_n hx hb dX7_addSoul_73 rfl (lv_at hl 1 rfl) ?_
          refine va_get (D := D) (ci := 7) (v := .int (vi 2)) (C := RX7) (T := TX7) (N := 12) hx hb htg inX7 hown hK.1 hP 0 rfl rfl 1 (by decide) (htg _ kw_163) (fun _ h9 => h9) rfl dX7_addSoul_74 ?_
          refine lv_bipush (v := 9) hx hb dX7_addSoul_77 (by decide) ?_
          refine lv_imul hx hb dX7_addSoul_79 ?_
          refine lv_topi (fun z79 ez79 => ?_)
          have tz79 : z79.toInt = (vi 2).toInt * 9 := by rw [ez79]; exact xmul rfl (by decide) (by omega) (by omega)
          refine lv_iload hx hb dX7_addSoul_80 (lv_at hl 0 rfl) ?_
          refine lv_iadd hx hb dX7_addSoul_82 ?_
          refine lv_topi (fun z82 ez82 => ?_)
          have tz82 : z82.toInt = z79.toInt + w4.toInt := by rw [ez82]; exact xadd rfl rfl (by omega) (by omega)
          refine lv_iconst (v := 0) hx hb dX7_addSoul_83 (by decide) ?_
          refine va_iast hx hb hK.1 hP hD hS 6 1 rfl rfl (vp_in_iff.mpr (by omega)) dX7_addSoul_84 (fun H locs hP hD hS => ?_)
          obtain ⟨f84, ef84, hP, hD⟩ : ∃ f7 : Nat → Int32, f7 = upd wf z82.toNatClampNeg (0 : Int32) ∧ va_P D vwCl [((a 0), .inr (7, [.int (vi 1), .int (vi 2), .ref (ex 0), .ref (ex 1), .ref (ex 2), .ref (ex 3), .ref (a 1), .ref (a 2), .ref (a 3), .ref (a 4), .ref (a 5), .ref (a 6)])), ((a 1), .inl (T 2, 9, .inr (.inl f18))), ((a 2), .inl (T 1, 9, .inl f28)), ((a 3), .inl (T 1, 9, .inl f38)), ((a 4), .inl (T 1, 9, .inl f48)), ((a 5), .inl (T 1, 9, .inl f58)), ((a 6), .inl (T 1, 81, .inl f7))] H ∧ va_D A [((a 0), .inr (7, [.int (vi 1), .int (vi 2), .ref (ex 0), .ref (ex 1), .ref (ex 2), .ref (ex 3), .ref (a 1), .ref (a 2), .ref (a 3), .ref (a 4), .ref (a 5), .ref (a 6)])), ((a 1), .inl (T 2, 9, .inr (.inl f18))), ((a 2), .inl (T 1, 9, .inl f28)), ((a 3), .inl (T 1, 9, .inl f38)), ((a 4), .inl (T 1, 9, .inl f48)), ((a 5), .inl (T 1, 9, .inl f58)), ((a 6), .inl (T 1, 81, .inl f7))] := ⟨_, rfl, hP, hD⟩
          obtain ⟨i85, ei85⟩ : ∃ z : Int32, w4 + Int32.ofInt 1 = z := ⟨_, rfl⟩
          have ti85 : i85.toInt = w4.toInt + 1 := by rw [← ei85]; have h79 := xrng w4; exact xadd rfl (by decide) (by omega) (by omega)
          refine lv_iinc (v := i85) (lv' := [(4, .int i85), (0, .ref (a 0)), (1, .long (vl 0)), (3, .int (vi 0))]) hx hb dX7_addSoul_85 hl (k := 0) rfl ei85 (by decide) rfl (fun ls hl => ?_)
          refine lv_goto (tgt := 62) hx hb dX7_addSoul_88 (by decide) ?_
          exact ih _ (by omega) i85 f84 _ _ _ (by show 0 ≤ i85.toInt ∧ i85.toInt ≤ 9; omega) (by show ∀ j : Nat, f84 j = if 9 * (vi 2).toInt ≤ (j : Int) ∧ (j : Int) < 9 * (vi 2).toInt + i85.toInt then 0 else (fi 4) j; rw [ef84]; exact wz_s hwz9 (by omega) (by omega) (by omega)) rfl (hP.sub [0, 1, 2, 3, 4, 5, 6] rfl) (hD.sub [0, 1, 2, 3, 4, 5, 6] (by decide) rfl) hS (lv_sub hl [0, 1, 2, 3] rfl)
    exact lp _ (0 : Int32) (fi 4) _ _ _ (show 0 ≤ (0 : Int32).toInt ∧ (0 : Int32).toInt ≤ 9 by decide) (by show ∀ j : Nat, (fi 4) j = if 9 * (vi 2).toInt ≤ (j : Int) ∧ (j : Int) < 9 * (vi 2).toInt + (0 : Int32).toInt then 0 else (fi 4) j; have k9_0 : (0 : Int32).toInt = 0 := (by decide); intro j; rw [if_neg (by omega)]) rfl hP hD hS hl
abbrev pre_J0_coder_7d493_25 (T : Nat → ClassId) (a ex : Nat → Nat) (fi : Nat → Nat → Int32) (fl : Nat → Nat → Int64) (vi : Nat → Int32) (vl : Nat → Int64) : va_W := []
set_option maxHeartbeats 8000000 in
set_option maxRecDepth 100000 in
theorem c_J0_coder_7d493_25 (l : Launch) (D : va_G) (T : Nat → ClassId) (a ex : Nat → Nat) (fi : Nat → Nat → Int32) (fl : Nat → Nat → Int64) (vi : Nat → Int32) (vl : Nat → Int64) (kK kV : Nat → Nat) (sz : Nat) : Met l yJ0_coder_7d493 (xw yJ0_coder_7d493 cJ0_coder_7d493 1 (some .byte)) ({ frames := 0, cells := 0, slots := 0, locals := 0 }) (xPs D T kK kV [.ref (kK 7)] sz (pre_J0_coder_7d493_25 T a ex fi fl vi vl)) (va_Qi (fun r u => r = u) (xC D (va_A (pre_J0_coder_7d493_25 T a ex fi fl vi vl) sz) (fun fj fm vj vm => []) (fun (r : Int32) (fj : Nat → Nat → Int32) (fm : Nat → Nat → Int64) (vj : Nat → Int32) (vm : Nat → Int64) => r = 0 ∧ True)) (va_A (pre_J0_coder_7d493_25 T a ex fi fl vi vl) sz)) 0 0 (va_A (pre_J0_coder_7d493_25 T a ex fi fl vi vl) sz) := by
  refine xofW (cc := cJ0_coder_7d493) (maxL := 1) (ret := (some .byte)) (by decide) rfl ?_
  intro p e s m args below meth c s₁ R Q hR hQ B hml hv
  obtain ⟨rfl, hsz, hP, hK, hD0, hT⟩ := hv
  have hx := B.exec
  have hb := B.bytes
  have hr := B.returns
  have hts := atoms_spec (ws := xw yJ0_coder_7d493 cJ0_coder_7d493 1 (some .byte)) B.pre
  have htg : ∀ w ∈ xg, w.before _ s = true := fun w h => hts w (List.mem_cons_of_mem _ h)
  have hown : s.vm.findClass RJ0 = some m.cls := findClass_of_methodNamed B.named
  have hlocks := B.notSynchronized
  subst hsz
  have hD := hD0.self (sz := s.heap.size)
  generalize hAe : va_A (pre_J0_coder_7d493_25 T a ex fi fl vi vl) s.heap.size = A at hD hQ hT
  have hA : ∀ q : Nat, s.heap.size ≤ q → A q := fun q h => by rw [← hAe]; exact Or.inr h
  have hS : va_S A s.heap s.heap [] := va_S.rf
  replace hP : va_P D vwCl [] s.heap := hP
  replace hD : va_D A [] := hD
  have hl := lv_entry ([.ref (kK 7)]) (n := 1) (Nat.le_of_ble_eq_true rfl)
  rw [lg_entry_eq]
  generalize (lg_sl ([.ref (kK 7)]) ++ List.replicate (1 - (lg_sl ([.ref (kK 7)])).length) Slot.unset).toArray = ls at hl ⊢
  replace hl : lv_has ls 1 [(0, .ref (kK 7))] := hl
  refine va_gets hx hb hT.2.2.1 hS hown (htg _ kw_52) (fun _ h9 => h9) dJ0_coder_7d493_0 ?_
  refine lv_if_eq (tgt := 13) hx hb dJ0_coder_7d493_3 (by decide) (fun c => absurd c (by decide)) (fun _ => ?_)
  refine lv_aload_n hx hb dJ0_coder_7d493_6 rfl (lv_at hl 0 rfl) ?_
  refine vk_getf hx hb (hT.2.1 7 (by decide)).2.1 hS hown (htg _ kw_2031) (fun _ h9 => h9) dJ0_coder_7d493_7 ?_
  refine lv_goto (tgt := 14) hx hb dJ0_coder_7d493_10 (by decide) ?_
  have hP9 := hP.sub (ws' := []) [] rfl
  have hD9 := hD.sub (ws' := []) [] (by decide +kernel) rfl
  rw [hQ]
  exact W.zret (v := 0) hx hb hr rfl (fun t ht hW => ⟨⟨0, 0, rfl, rfl, xf [], xh [], xv [], xl [], by rw [ht]; exact hP9, hD9, ⟨rfl, trivial⟩⟩, hS.F ht⟩) hS.2.2 dJ0_coder_7d493_14
abbrev pre_J0_length_8abf5_25 (T : Nat → ClassId) (a ex : Nat → Nat) (fi : Nat → Nat → Int32) (fl : Nat → Nat → Int64) (vi : Nat → Int32) (vl : Nat → Int64) : va_W := []
set_option maxHeartbeats 8000000 in
set_option maxRecDepth 100000 in
theorem c_J0_length_8abf5_25 (l : Launch) (D : va_G) (T : Nat → ClassId) (a ex : Nat → Nat) (fi : Nat → Nat → Int32) (fl : Nat → Nat → Int64) (vi : Nat → Int32) (vl : Nat → Int64) (kK kV : Nat → Nat) (sz : Nat) : Met l yJ0_length_8abf5 (xw yJ0_length_8abf5 cJ0_length_8abf5 1 (some .int)) ({ frames := 1, cells := 0, slots := 0, locals := 24 }) (xPs D T kK kV [.ref (kK 7)] sz (pre_J0_length_8abf5_25 T a ex fi fl vi vl)) (va_Qi (fun r u => r = u) (xC D (va_A (pre_J0_length_8abf5_25 T a ex fi fl vi vl) sz) (fun fj fm vj vm => []) (fun (r : Int32) (fj : Nat → Nat → Int32) (fm : Nat → Nat → Int64) (vj : Nat → Int32) (vm : Nat → Int64) => r = 6 ∧ True)) (va_A (pre_J0_length_8abf5_25 T a ex fi fl vi vl) sz)) 0 0 (va_A (pre_J0_length_8abf5_25 T a ex fi fl vi vl) sz) := by
  refine xofW (cc := cJ0_length_8abf5) (maxL := 1) (ret := (some .int)) (by decide) rfl ?_
  intro p e s m args below meth c s₁ R Q hR hQ B hml hv
  obtain ⟨rfl, hsz, hP, hK, hD0, hT⟩ := hv
  have hx := B.exec
  have hb := B.bytes
  have hr := B.returns
  have hts := atoms_spec (ws := xw yJ0_length_8abf5 cJ0_length_8abf5 1 (some .int)) B.pre
  have htg : ∀ w ∈ xg, w.before _ s = true := fun w h => hts w (List.mem_cons_of_mem _ h)
  have hown : s.vm.findClass RJ0 = some m.cls := findClass_of_methodNamed B.named
  have hlocks := B.notSynchronized
  subst hsz
  have hD := hD0.self (sz := s.heap.size)
  generalize hAe : va_A (pre_J0_length_8abf5_25 T a ex fi fl vi vl) s.heap.size = A at hD hQ hT
  have hA : ∀ q : Nat, s.heap.size ≤ q → A q := fun q h => by rw [← hAe]; exact Or.inr h
  have hS : va_S A s.heap s.heap [] := va_S.rf
  replace hP : va_P D vwCl [] s.heap := hP
  replace hD : va_D A [] := hD
  have hl := lv_entry ([.ref (kK 7)]) (n := 1) (Nat.le_of_ble_eq_true rfl)
  rw [lg_entry_eq]
  generalize (lg_sl ([.ref (kK 7)]) ++ List.replicate (1 - (lg_sl ([.ref (kK 7)])).length) Slot.unset).toArray = ls at hl ⊢
  replace hl : lv_has ls 1 [(0, .ref (kK 7))] := hl
  refine lv_aload_n hx hb dJ0_length_8abf5_0 rfl (lv_at hl 0 rfl) ?_
  refine vk_getf hx hb (hT.2.1 7 (by decide)).2.2.1 hS hown (htg _ kw_2030) (fun _ h9 => h9) dJ0_length_8abf5_1 ?_
  refine va_tlen (v := 6) hx hb (hT.2.1 7 (by decide)).2.2.2 hS (by decide) dJ0_length_8abf5_4 ?_
  refine lv_aload_n hx hb dJ0_length_8abf5_5 rfl (lv_at hl 0 rfl) ?_
  obtain ⟨hC9, hPc, hDc, hFc⟩ := xcut (wc := (pre_J0_coder_7d493_25 T (xa []) (xa []) (xf []) (xh []) (xv []) (xl []))) hP hD hS hA [] (by decide) rfl
  refine va_calli (va_runV (As := []) (rest := [.int 6]) ⟨hx, hb, hml, hown, htg⟩ (c_J0_coder_7d493_25 l D T (xa []) (xa []) (xf []) (xh []) (xv []) (xl []) kK kV s.heap.size) ⟨callB_of 0 htg (xg_ok kw_51) rfl rfl rfl (htg _ kw_3) (htg _ kw_48) (by decide +kernel) ⟨by rw [hR]; exact Nat.le_of_ble_eq_true rfl, by rw [hR]; exact Nat.le_of_ble_eq_true rfl⟩, htg _ kw_49, htg _ kw_50⟩ (xpreVs hK hPc hDc hT hFc hS (xT.recv hT 7 (by decide) hS)) rfl rfl hl.1 rfl (lv_room (Nat.le_of_ble_eq_true rfl)) dJ0_length_8abf5_6 ⟨by rw [hR]; exact Nat.le_of_ble_eq_true rfl, by rw [hR]; exact Nat.le_of_ble_eq_true rfl⟩) hS (fun q _ h => hFc q h) hFc (fun r9 u9 t H1 locs ht hvm hw hB hz1 hk1 hS => ?_)
  subst hw
  obtain ⟨fik, flk, vik, vlk, hP1, hD1, hG⟩ := hB
  rw [ht] at hP1
  obtain ⟨hP, hD⟩ := va_join (wr := []) (w1 := []) hP hD [] [] hC9 rfl (by decide) (by decide) hk1 hFc hP1 hD1
  obtain ⟨rk, er9⟩ : ∃ z, z = r9 := ⟨_, rfl⟩
  subst er9
  clear hPc hDc hFc hP1 hD1 hk1 hz1 hvm ht hC9
  generalize H1 = H at hP hS ⊢
  obtain ⟨hP, hD⟩ := (show xPD D A [] H from ⟨hP, hD⟩)
  obtain ⟨gk_0, -⟩ := hG
  replace gk_0 : rk = 0 := gk_0
  refine xz_i 0 gk_0 ?_
  refine lv_ishr hx hb dJ0_length_8abf5_9 ?_
  refine xz_i 6 (by decide) ?_
  have hP9 := hP.sub (ws' := []) [] rfl
  have hD9 := hD.sub (ws' := []) [] (by decide +kernel) rfl
  rw [hQ]
  exact W.iret (v := 6) hx hb hr (fun t ht hW => ⟨⟨6, 6, rfl, rfl, xf [], xh [], xv [], xl [], by rw [ht]; exact hP9, hD9, ⟨rfl, trivial⟩⟩, hS.F ht⟩) hS.2.2 dJ0_length_8abf5_10
abbrev pre_J0_isLatin1_aae02_25 (T : Nat → ClassId) (a ex : Nat → Nat) (fi : Nat → Nat → Int32) (fl : Nat → Nat → Int64) (vi : Nat → Int32) (vl : Nat → Int64) : va_W := []
set_option maxHeartbeats 8000000 in
set_option maxRecDepth 100000 in
theorem c_J0_isLatin1_aae02_25 (l : Launch) (D : va_G) (T : Nat → ClassId) (a ex : Nat → Nat) (fi : Nat → Nat → Int32) (fl : Nat → Nat → Int64) (vi : Nat → Int32) (vl : Nat → Int64) (kK kV : Nat → Nat) (sz : Nat) : Met l yJ0_isLatin1_aae02 (xw yJ0_isLatin1_aae02 cJ0_isLatin1_aae02 1 (some .boolean)) ({ frames := 0, cells := 0, slots := 0, locals := 0 }) (xPs D T kK kV [.ref (kK 7)] sz (pre_J0_isLatin1_aae02_25 T a ex fi fl vi vl)) (va_Qi (fun r u => r = u) (xC D (va_A (pre_J0_isLatin1_aae02_25 T a ex fi fl vi vl) sz) (fun fj fm vj vm => []) (fun (r : Int32) (fj : Nat → Nat → Int32) (fm : Nat → Nat → Int64) (vj : Nat → Int32) (vm : Nat → Int64) => r = 1 ∧ True)) (va_A (pre_J0_isLatin1_aae02_25 T a ex fi fl vi vl) sz)) 0 0 (va_A (pre_J0_isLatin1_aae02_25 T a ex fi fl vi vl) sz) := by
  refine xofW (cc := cJ0_isLatin1_aae02) (maxL := 1) (ret := (some .boolean)) (by decide) rfl ?_
  intro p e s m args below meth c s₁ R Q hR hQ B hml hv
  obtain ⟨rfl, hsz, hP, hK, hD0, hT⟩ := hv
  have hx := B.exec
  have hb := B.bytes
  have hr := B.returns
  have hts := atoms_spec (ws := xw yJ0_isLatin1_aae02 cJ0_isLatin1_aae02 1 (some .boolean)) B.pre
  have htg : ∀ w ∈ xg, w.before _ s = true := fun w h => hts w (List.mem_cons_of_mem _ h)
  have hown : s.vm.findClass RJ0 = some m.cls := findClass_of_methodNamed B.named
  have hlocks := B.notSynchronized
  subst hsz
  have hD := hD0.self (sz := s.heap.size)
  generalize hAe : va_A (pre_J0_isLatin1_aae02_25 T a ex fi fl vi vl) s.heap.size = A at hD hQ hT
  have hA : ∀ q : Nat, s.heap.size ≤ q → A q := fun q h => by rw [← hAe]; exact Or.inr h
  have hS : va_S A s.heap s.heap [] := va_S.rf
  replace hP : va_P D vwCl [] s.heap := hP
  replace hD : va_D A [] := hD
  have hl := lv_entry ([.ref (kK 7)]) (n := 1) (Nat.le_of_ble_eq_true rfl)
  rw [lg_entry_eq]
  generalize (lg_sl ([.ref (kK 7)]) ++ List.replicate (1 - (lg_sl ([.ref (kK 7)])).length) Slot.unset).toArray = ls at hl ⊢
  replace hl : lv_has ls 1 [(0, .ref (kK 7))] := hl
  refine va_gets hx hb hT.2.2.1 hS hown (htg _ kw_52) (fun _ h9 => h9) dJ0_isLatin1_aae02_0 ?_
  refine lv_if_eq (tgt := 17) hx hb dJ0_isLatin1_aae02_3 (by decide) (fun c => absurd c (by decide)) (fun _ => ?_)
  refine lv_aload_n hx hb dJ0_isLatin1_aae02_6 rfl (lv_at hl 0 rfl) ?_
  refine vk_getf hx hb (hT.2.1 7 (by decide)).2.1 hS hown (htg _ kw_2031) (fun _ h9 => h9) dJ0_isLatin1_aae02_7 ?_
  refine lv_if_ne (tgt := 17) hx hb dJ0_isLatin1_aae02_10 (by decide) (fun c => absurd (by decide) c) (fun _ => ?_)
  refine lv_iconst (v := 1) hx hb dJ0_isLatin1_aae02_13 (by decide) ?_
  refine lv_goto (tgt := 18) hx hb dJ0_isLatin1_aae02_14 (by decide) ?_
  have hP9 := hP.sub (ws' := []) [] rfl
  have hD9 := hD.sub (ws' := []) [] (by decide +kernel) rfl
  rw [hQ]
  exact W.zret (v := 1) hx hb hr rfl (fun t ht hW => ⟨⟨1, 1, rfl, rfl, xf [], xh [], xv [], xl [], by rw [ht]; exact hP9, hD9, ⟨rfl, trivial⟩⟩, hS.F ht⟩) hS.2.2 dJ0_isLatin1_aae02_18
abbrev pre_J1_charAt_3b067_25 (T : Nat → ClassId) (a ex : Nat → Nat) (fi : Nat → Nat → Int32) (fl : Nat → Nat → Int64) (vi : Nat → Int32) (vl : Nat → Int64) : va_W := []
set_option maxHeartbeats 8000000 in
set_option maxRecDepth 100000 in
theorem c_J1_charAt_3b067_25 (l : Launch) (D : va_G) (T : Nat → ClassId) (a ex : Nat → Nat) (fi : Nat → Nat → Int32) (fl : Nat → Nat → Int64) (vi : Nat → Int32) (vl : Nat → Int64) (kK kV : Nat → Nat) (sz : Nat) (hp0 : 0 ≤ (vi 0).toInt ∧ (vi 0).toInt ≤ 5) : Met l yJ1_charAt_3b067 (xw yJ1_charAt_3b067 cJ1_charAt_3b067 2 (some .char)) ({ frames := 2, cells := 0, slots := 0, locals := 51 }) (xPs D T kK kV [.ref (kV 7), .int (vi 0)] sz (pre_J1_charAt_3b067_25 T a ex fi fl vi vl)) (va_Qi (fun r u => r = u) (xC D (va_A (pre_J1_charAt_3b067_25 T a ex fi fl vi vl) sz) (fun fj fm vj vm => []) (fun (r : Int32) (fj : Nat → Nat → Int32) (fm : Nat → Nat → Int64) (vj : Nat → Int32) (vm : Nat → Int64) => narrow .char (.int r) = .int r ∧ R_J1_charAt_3b067_25 fi fl vi vl r fj fm vj vm ∧ True)) (va_A (pre_J1_charAt_3b067_25 T a ex fi fl vi vl) sz)) 0 0 (va_A (pre_J1_charAt_3b067_25 T a ex fi fl vi vl) sz) := by
  refine xofW (cc := cJ1_charAt_3b067) (maxL := 2) (ret := (some .char)) (by decide) rfl ?_
  intro p e s m args below meth c s₁ R Q hR hQ B hml hv
  obtain ⟨rfl, hsz, hP, hK, hD0, hT⟩ := hv
  have hx := B.exec
  have hb := B.bytes
  have hr := B.returns
  have hts := atoms_spec (ws := xw yJ1_charAt_3b067 cJ1_charAt_3b067 2 (some .char)) B.pre
  have htg : ∀ w ∈ xg, w.before _ s = true := fun w h => hts w (List.mem_cons_of_mem _ h)
  have hown : s.vm.findClass RJ1 = some m.cls := findClass_of_methodNamed B.named
  have hlocks := B.notSynchronized
  subst hsz
  have hD := hD0.self (sz := s.heap.size)
  generalize hAe : va_A (pre_J1_charAt_3b067_25 T a ex fi fl vi vl) s.heap.size = A at hD hQ hT
  have hA : ∀ q : Nat, s.heap.size ≤ q → A q := fun q h => by rw [← hAe]; exact Or.inr h
  have hS : va_S A s.heap s.heap [] := va_S.rf
  replace hP : va_P D vwCl [] s.heap := hP
  replace hD : va_D A [] := hD
  have hl := lv_entry ([.ref (kV 7), .int (vi 0)]) (n := 2) (Nat.le_of_ble_eq_true rfl)
  rw [lg_entry_eq]
  generalize (lg_sl ([.ref (kV 7), .int (vi 0)]) ++ List.replicate (2 - (lg_sl ([.ref (kV 7), .int (vi 0)])).length) Slot.unset).toArray = ls at hl ⊢
  replace hl : lv_has ls 2 [(0, .ref (kV 7)), (1, .int (vi 0))] := hl
  refine lv_iload_n hx hb dJ1_charAt_3b067_0 rfl (lv_at hl 1 rfl) ?_
  refine lv_aload_n hx hb dJ1_charAt_3b067_1 rfl (lv_at hl 0 rfl) ?_
  refine va_tlen (v := 6) hx hb (hT.2.1 7 (by decide)).2.2.2 hS (by decide) dJ1_charAt_3b067_2 ?_
  obtain ⟨hC9, hPc, hDc, hFc⟩ := xcut (wc := (pre_J0_checkIndex_df160 T (xa []) (xa []) (xf []) (xh []) (xv [(vi 0)]) (xl []))) hP hD hS hA [] (by decide) rfl
  refine va_callv (va_runS (As := [.int (vi 0), .int 6]) (rest := []) ⟨hx, hb, hml, hown, htg⟩ (c_J0_checkIndex_df160 l D T (xa []) (xa []) (xf []) (xh []) (xv [(vi 0)]) (xl []) kK kV s.heap.size hp0) ⟨callB_of 2 htg (xg_ok kw_67) rfl rfl rfl (htg _ kw_3) (htg _ kw_65) (by decide +kernel) ⟨by rw [hR]; exact Nat.le_of_ble_eq_true rfl, by rw [hR]; exact Nat.le_of_ble_eq_true rfl⟩, htg _ kw_66⟩ (xpreSs hK hPc hDc hT hFc hS) rfl rfl hl.1 rfl (lv_room (Nat.le_of_ble_eq_true rfl)) dJ1_charAt_3b067_3 ⟨by rw [hR]; exact Nat.le_of_ble_eq_true rfl, by rw [hR]; exact Nat.le_of_ble_eq_true rfl⟩) hS (fun q _ h => hFc q h) hFc (fun u9 t H1 locs ht hvm hw hB hz1 hk1 hS => ?_)
  obtain ⟨fik, flk, vik, vlk, hP1, hD1, hG⟩ := hB
  rw [ht] at hP1
  obtain ⟨hP, hD⟩ := va_join (wr := []) (w1 := []) hP hD [] [] hC9 rfl (by decide) (by decide) hk1 hFc hP1 hD1
  clear hPc hDc hFc hP1 hD1 hk1 hz1 hvm ht hC9
  generalize H1 = H at hP hS ⊢
  obtain ⟨hP, hD⟩ := (show xPD D A [] H from ⟨hP, hD⟩)
  obtain ⟨uk, eu9⟩ : ∃ z, z = u9 := ⟨_, rfl⟩
  subst eu9
  clear hG
  refine lv_aload_n hx hb dJ1_charAt_3b067_6 rfl (lv_at hl 0 rfl) ?_
  refine lv_iload_n hx hb dJ1_charAt_3b067_7 rfl (lv_at hl 1 rfl) ?_
  refine va_tb hx hb (hT.2.1 7 (by decide)).2.2.2 hS (show vp_in (vi 0) 6 from (vp_in_iff.mpr (by omega))) rfl dJ1_charAt_3b067_8 ?_
  refine lv_topi (fun z8 ez8 => ?_)
  refine lv_sipush (v := 255) hx hb dJ1_charAt_3b067_9 (by decide) ?_
  refine lv_iand hx hb dJ1_charAt_3b067_12 ?_
  refine lv_topi (fun z12 ez12 => ?_)
  have tz12 : 0 ≤ z12.toInt ∧ z12.toInt ≤ 255 := by rw [ez12]; exact xand255 _
  refine lv_i2c hx hb dJ1_charAt_3b067_13 rfl ?_
  refine lv_topi (fun z13 ez13 => ?_)
  have nz13 : narrow .char (.int z13) = .int z13 := by rw [ez13]; exact pk_nc _
  have hP9 := hP.sub (ws' := []) [] rfl
  have hD9 := hD.sub (ws' := []) [] (by decide +kernel) rfl
  rw [hQ]
  exact W.zret (v := z13) hx hb hr nz13 (fun t ht hW => ⟨⟨z13, z13, rfl, rfl, xf [], xh [], xv [], xl [], by rw [ht]; exact hP9, hD9, ⟨nz13, (by unfold R_J1_charAt_3b067_25; exact (fun Q9 k9_0 => k9_0 hp0 fik flk vik vlk uk z8 ez8 z12 ez12 z13 ez13 rfl)), trivial⟩⟩, hS.F ht⟩) hS.2.2 dJ1_charAt_3b067_14
abbrev pre_J0_charAt_5068e_25 (T : Nat → ClassId) (a ex : Nat → Nat) (fi : Nat → Nat → Int32) (fl : Nat → Nat → Int64) (vi : Nat → Int32) (vl : Nat → Int64) : va_W := []
set_option maxHeartbeats 8000000 in
set_option maxRecDepth 100000 in
theorem c_J0_charAt_5068e_25 (l : Launch) (D : va_G) (T : Nat → ClassId) (a ex : Nat → Nat) (fi : Nat → Nat → Int32) (fl : Nat → Nat → Int64) (vi : Nat → Int32) (vl : Nat → Int64) (kK kV : Nat → Nat) (sz : Nat) (hp0 : 0 ≤ (vi 0).toInt ∧ (vi 0).toInt ≤ 5) : Met l yJ0_charAt_5068e (xw yJ0_charAt_5068e cJ0_charAt_5068e 2 (some .char)) ({ frames := 3, cells := 0, slots := 0, locals := 76 }) (xPs D T kK kV [.ref (kK 7), .int (vi 0)] sz (pre_J0_charAt_5068e_25 T a ex fi fl vi vl)) (va_Qi (fun r u => r = u) (xC D (va_A (pre_J0_charAt_5068e_25 T a ex fi fl vi vl) sz) (fun fj fm vj vm => []) (fun (r : Int32) (fj : Nat → Nat → Int32) (fm : Nat → Nat → Int64) (vj : Nat → Int32) (vm : Nat → Int64) => narrow .char (.int r) = .int r ∧ R_J0_charAt_5068e_25 fi fl vi vl r fj fm vj vm ∧ True)) (va_A (pre_J0_charAt_5068e_25 T a ex fi fl vi vl) sz)) 0 0 (va_A (pre_J0_charAt_5068e_25 T a ex fi fl vi vl) sz) := by
  refine xofW (cc := cJ0_charAt_5068e) (maxL := 2) (ret := (some .char)) (by decide) rfl ?_
  intro p e s m args below meth c s₁ R Q hR hQ B hml hv
  obtain ⟨rfl, hsz, hP, hK, hD0, hT⟩ := hv
  have hx := B.exec
  have hb := B.bytes
  have hr := B.returns
  have hts := atoms_spec (ws := xw yJ0_charAt_5068e cJ0_charAt_5068e 2 (some .char)) B.pre
  have htg : ∀ w ∈ xg, w.before _ s = true := fun w h => hts w (List.mem_cons_of_mem _ h)
  have hown : s.vm.findClass RJ0 = some m.cls := findClass_of_methodNamed B.named
  have hlocks := B.notSynchronized
  subst hsz
  have hD := hD0.self (sz := s.heap.size)
  generalize hAe : va_A (pre_J0_charAt_5068e_25 T a ex fi fl vi vl) s.heap.size = A at hD hQ hT
  have hA : ∀ q : Nat, s.heap.size ≤ q → A q := fun q h => by rw [← hAe]; exact Or.inr h
  have hS : va_S A s.heap s.heap [] := va_S.rf
  replace hP : va_P D vwCl [] s.heap := hP
  replace hD : va_D A [] := hD
  have hl := lv_entry ([.ref (kK 7), .int (vi 0)]) (n := 2) (Nat.le_of_ble_eq_true rfl)
  rw [lg_entry_eq]
  generalize (lg_sl ([.ref (kK 7), .int (vi 0)]) ++ List.replicate (2 - (lg_sl ([.ref (kK 7), .int (vi 0)])).length) Slot.unset).toArray = ls at hl ⊢
  replace hl : lv_has ls 2 [(0, .ref (kK 7)), (1, .int (vi 0))] := hl
  refine lv_aload_n hx hb dJ0_charAt_5068e_0 rfl (lv_at hl 0 rfl) ?_
  obtain ⟨hC9, hPc, hDc, hFc⟩ := xcut (wc := (pre_J0_isLatin1_aae02_25 T (xa []) (xa []) (xf []) (xh []) (xv []) (xl []))) hP hD hS hA [] (by decide) rfl
  refine va_calli (va_runV (As := []) (rest := []) ⟨hx, hb, hml, hown, htg⟩ (c_J0_isLatin1_aae02_25 l D T (xa []) (xa []) (xf []) (xh []) (xv []) (xl []) kK kV s.heap.size) ⟨callB_of 0 htg (xg_ok kw_61) rfl rfl rfl (htg _ kw_3) (htg _ kw_58) (by decide +kernel) ⟨by rw [hR]; exact Nat.le_of_ble_eq_true rfl, by rw [hR]; exact Nat.le_of_ble_eq_true rfl⟩, htg _ kw_59, htg _ kw_60⟩ (xpreVs hK hPc hDc hT hFc hS (xT.recv hT 7 (by decide) hS)) rfl rfl hl.1 rfl (lv_room (Nat.le_of_ble_eq_true rfl)) dJ0_charAt_5068e_1 ⟨by rw [hR]; exact Nat.le_of_ble_eq_true rfl, by rw [hR]; exact Nat.le_of_ble_eq_true rfl⟩) hS (fun q _ h => hFc q h) hFc (fun r9 u9 t H1 locs ht hvm hw hB hz1 hk1 hS => ?_)
  subst hw
  obtain ⟨fik, flk, vik, vlk, hP1, hD1, hG⟩ := hB
  rw [ht] at hP1
  obtain ⟨hP, hD⟩ := va_join (wr := []) (w1 := []) hP hD [] [] hC9 rfl (by decide) (by decide) hk1 hFc hP1 hD1
  obtain ⟨rk, er9⟩ : ∃ z, z = r9 := ⟨_, rfl⟩
  subst er9
  clear hPc hDc hFc hP1 hD1 hk1 hz1 hvm ht hC9
  generalize H1 = H at hP hS ⊢
  obtain ⟨hP, hD⟩ := (show xPD D A [] H from ⟨hP, hD⟩)
  obtain ⟨gk_0, -⟩ := hG
  replace gk_0 : rk = 1 := gk_0
  refine xz_i 1 gk_0 ?_
  refine lv_if_eq (tgt := 16) hx hb dJ0_charAt_5068e_4 (by decide) (fun c => absurd c (by decide)) (fun _ => ?_)
  refine lv_aload_n hx hb dJ0_charAt_5068e_7 rfl (lv_at hl 0 rfl) ?_
  refine vk_getf hx hb (hT.2.1 7 (by decide)).2.2.1 hS hown (htg _ kw_2030) (fun _ h9 => h9) dJ0_charAt_5068e_8 ?_
  refine lv_iload_n hx hb dJ0_charAt_5068e_11 rfl (lv_at hl 1 rfl) ?_
  obtain ⟨hC9, hPc, hDc, hFc⟩ := xcut (wc := (pre_J1_charAt_3b067_25 T (xa []) (xa []) (xf []) (xh []) (xv [(vi 0)]) (xl []))) hP hD hS hA [] (by decide) rfl
  refine va_calli (va_runS (As := [.ref (kV 7), .int (vi 0)]) (rest := []) ⟨hx, hb, hml, hown, htg⟩ (c_J1_charAt_3b067_25 l D T (xa []) (xa []) (xf []) (xh []) (xv [(vi 0)]) (xl []) kK kV H.size hp0) ⟨callB_of 2 htg (xg_ok kw_64) rfl rfl rfl (htg _ kw_4) (htg _ kw_62) (by decide +kernel) ⟨by rw [hR]; exact Nat.le_of_ble_eq_true rfl, by rw [hR]; exact Nat.le_of_ble_eq_true rfl⟩, htg _ kw_63⟩ (xpreSs hK hPc hDc hT hFc hS) rfl rfl hl.1 rfl (lv_room (Nat.le_of_ble_eq_true rfl)) dJ0_charAt_5068e_12 ⟨by rw [hR]; exact Nat.le_of_ble_eq_true rfl, by rw [hR]; exact Nat.le_of_ble_eq_true rfl⟩) hS (fun q _ h => hFc q h) hFc (fun r9 u9 t H1 locs ht hvm hw hB hz1 hk1 hS => ?_)
  subst hw
  obtain ⟨fik_1, flk_1, vik_1, vlk_1, hP1, hD1, hG⟩ := hB
  rw [ht] at hP1
  obtain ⟨hP, hD⟩ := va_join (wr := []) (w1 := []) hP hD [] [] hC9 rfl (by decide) (by decide) hk1 hFc hP1 hD1
  obtain ⟨rk_1, er9⟩ : ∃ z, z = r9 := ⟨_, rfl⟩
  subst er9
  clear hPc hDc hFc hP1 hD1 hk1 hz1 hvm ht hC9
  generalize H1 = H at hP hS ⊢
  obtain ⟨hP, hD⟩ := (show xPD D A [] H from ⟨hP, hD⟩)
  obtain ⟨gk_1_0, gk_1_1, -⟩ := hG
  replace gk_1_1 : rk_1 = (sBy.getD 7 []).getD ((vi 0).toInt).toNat 0 := (P_J1_charAt_3b067_25 gk_1_1 : _)
  replace gk_1_0 : narrow .char (.int rk_1) = .int rk_1 := gk_1_0
  have hP9 := hP.sub (ws' := []) [] rfl
  have hD9 := hD.sub (ws' := []) [] (by decide +kernel) rfl
  rw [hQ]
  exact W.zret (v := rk_1) hx hb hr gk_1_0 (fun t ht hW => ⟨⟨rk_1, rk_1, rfl, rfl, xf [], xh [], xv [], xl [], by rw [ht]; exact hP9, hD9, ⟨gk_1_0, (by unfold R_J0_charAt_5068e_25; exact (fun Q9 k9_0 => k9_0 hp0 fik flk vik vlk rk gk_0 fik_1 flk_1 vik_1 vlk_1 rk_1 gk_1_1 rfl)), trivial⟩⟩, hS.F ht⟩) hS.2.2 dJ0_charAt_5068e_15
abbrev pre_X6_isWord_25 (T : Nat → ClassId) (a ex : Nat → Nat) (fi : Nat → Nat → Int32) (fl : Nat → Nat → Int64) (vi : Nat → Int32) (vl : Nat → Int64) : va_W := [((a 0), .inr (6, [.ref (ex 0), .ref (ex 1), .int (vi 0), .int (vi 1), .int (vi 2), .int (vi 3), .int (vi 4), .int (vi 5), .long (vl 0), .int (vi 6), .int (vi 7), .int (vi 8), .int (vi 9), .int (vi 10)]))]
set_option maxHeartbeats 8000000 in
set_option maxRecDepth 100000 in
theorem c_X6_isWord_25 (l : Launch) (D : va_G) (T : Nat → ClassId) (a ex : Nat → Nat) (fi : Nat → Nat → Int32) (fl : Nat → Nat → Int64) (vi : Nat → Int32) (vl : Nat → Int64) (kK kV : Nat → Nat) (sz : Nat) (hp0 : 0 ≤ (vi 1).toInt ∧ (vi 1).toInt ≤ 940) (hp1 : 0 ≤ (vi 2).toInt ∧ (vi 2).toInt ≤ 940) (hp2 : 0 ≤ (vi 3).toInt ∧ (vi 3).toInt ≤ 940) (hp3 : 0 ≤ (vi 5).toInt ∧ (vi 5).toInt ≤ 940) (hp4 : 0 ≤ (vi 10).toInt ∧ (vi 10).toInt ≤ 940) : Met l yX6_isWord (xw yX6_isWord cX6_isWord 5 (some .boolean)) ({ frames := 4, cells := 0, slots := 0, locals := 101 }) (xPs D T kK kV [.ref (a 0), .ref (kK 7)] sz (pre_X6_isWord_25 T a ex fi fl vi vl)) (va_Qi (fun r u => r = u) (xC D (va_A (pre_X6_isWord_25 T a ex fi fl vi vl) sz) (fun fj fm vj vm => [((a 0), .inr (6, [.ref (ex 0), .ref (ex 1), .int (vi 0), .int (vi 1), .int (vi 2), .int (vi 3), .int (vi 4), .int (vi 5), .long (vl 0), .int (vi 6), .int (vi 7), .int (vi 8), .int (vi 9), .int (vi 10)]))]) (fun (r : Int32) (fj : Nat → Nat → Int32) (fm : Nat → Nat → Int64) (vj : Nat → Int32) (vm : Nat → Int64) => ((r = 1 ∧ (True)) ∨ (r = 0 ∧ (True))) ∧ R_X6_isWord_25 fi fl vi vl r fj fm vj vm ∧ True)) (va_A (pre_X6_isWord_25 T a ex fi fl vi vl) sz)) 0 0 (va_A (pre_X6_isWord_25 T a ex fi fl vi vl) sz) := by
  refine xofW (cc := cX6_isWord) (maxL := 5) (ret := (some .boolean)) (by decide) rfl ?_
  intro p e s m args below meth c s₁ R Q hR hQ B hml hv
  obtain ⟨rfl, hsz, hP, hK, hD0, hT⟩ := hv
  have hx := B.exec
  have hb := B.bytes
  have hr := B.returns
  have hts := atoms_spec (ws := xw yX6_isWord cX6_isWord 5 (some .boolean)) B.pre
  have htg : ∀ w ∈ xg, w.before _ s = true := fun w h => hts w (List.mem_cons_of_mem _ h)
  have hown : s.vm.findClass RX6 = some m.cls := findClass_of_methodNamed B.named
  have hlocks := B.notSynchronized
  subst hsz
  have hD := hD0.self (sz := s.heap.size)
  generalize hAe : va_A (pre_X6_isWord_25 T a ex fi fl vi vl) s.heap.size = A at hD hQ hT
  have hA : ∀ q : Nat, s.heap.size ≤ q → A q := fun q h => by rw [← hAe]; exact Or.inr h
  have hS : va_S A s.heap s.heap [] := va_S.rf
  replace hP : va_P D vwCl [((a 0), .inr (6, [.ref (ex 0), .ref (ex 1), .int (vi 0), .int (vi 1), .int (vi 2), .int (vi 3), .int (vi 4), .int (vi 5), .long (vl 0), .int (vi 6), .int (vi 7), .int (vi 8), .int (vi 9), .int (vi 10)]))] s.heap := hP
  replace hD : va_D A [((a 0), .inr (6, [.ref (ex 0), .ref (ex 1), .int (vi 0), .int (vi 1), .int (vi 2), .int (vi 3), .int (vi 4), .int (vi 5), .long (vl 0), .int (vi 6), .int (vi 7), .int (vi 8), .int (vi 9), .int (vi 10)]))] := hD
  have hl := lv_entry ([.ref (a 0), .ref (kK 7)]) (n := 5) (Nat.le_of_ble_eq_true rfl)
  rw [lg_entry_eq]
  generalize (lg_sl ([.ref (a 0), .ref (kK 7)]) ++ List.replicate (5 - (lg_sl ([.ref (a 0), .ref (kK 7)])).length) Slot.unset).toArray = ls at hl ⊢
  replace hl : lv_has ls 5 [(0, .ref (a 0)), (1, .ref (kK 7))] := hl
  refine lv_lconst (v := 0) hx hb dX6_isWord_0 (by decide) ?_
  refine lv_lstore_n (lv' := [(2, .long 0), (0, .ref (a 0)), (1, .ref (kK 7))]) hx hb dX6_isWord_1 rfl hl (by decide) rfl (fun ls hl => ?_)
  refine lv_iconst (v := 0) hx hb dX6_isWord_2 (by decide) ?_
  refine lv_istore (lv' := [(4, .int 0), (2, .long 0), (0, .ref (a 0)), (1, .ref (kK 7))]) hx hb dX6_isWord_3 hl (by decide) rfl (fun ls hl => ?_)
  have lp : ∀ (kn : Nat) (w4 : Int32) (w2 : Int64) (H : Heap) (locs : List Loc) (ls : Array Slot), (0 ≤ w4.toInt ∧ w4.toInt ≤ 6) → (w2 = pkw (sBy.getD 7 []) (w4.toInt).toNat) → (2147483648 - w4.toInt).toNat = kn → va_P D vwCl [((a 0), .inr (6, [.ref (ex 0), .ref (ex 1), .int (vi 0), .int (vi 1), .int (vi 2), .int (vi 3), .int (vi 4), .int (vi 5), .long (vl 0), .int (vi 6), .int (vi 7), .int (vi 8), .int (vi 9), .int (vi 10)]))] H → va_D A [((a 0), .inr (6, [.ref (ex 0), .ref (ex 1), .int (vi 0), .int (vi 1), .int (vi 2), .int (vi 3), .int (vi 4), .int (vi 5), .long (vl 0), .int (vi 6), .int (vi 7), .int (vi 8), .int (vi 9), .int (vi 10)]))] → va_S A s.heap H locs → lv_has ls 5 [(4, .int w4), (2, .long w2), (0, .ref (a 0)), (1, .ref (kK 7))] → W p l e R s m ([.ref (a 0), .ref (kK 7)] : List Value).toArray below meth c H locs 0 0 Q (F0 m 5 ls []) := by
    intro kn
    induction kn using Nat.strongRecOn with
    | _ kn ih =>
      intro w4 w2 H locs ls hi hpk9 hm hP hD hS hl
      refine lv_iload hx hb dX6_isWord_5 (lv_at hl 0 rfl) ?_
      refine lv_aload_n hx hb dX6_isWord_7 rfl (lv_at hl 3 rfl) ?_
      obtain ⟨hC9, hPc, hDc, hFc⟩ := xcut (wc := (pre_J0_length_8abf5_25 T (xa []) (xa []) (xf []) (xh []) (xv []) (xl []))) hP hD hS hA [] (by decide) rfl
      refine va_calli (va_runV (As := []) (rest := [.int w4]) ⟨hx, hb, hml, hown, htg⟩ (c_J0_length_8abf5_25 l D T (xa []) (xa []) (xf []) (xh []) (xv []) (xl []) kK kV H.size) ⟨callB_of 0 htg (xg_ok kw_47) rfl rfl rfl (htg _ kw_3) (htg _ kw_44) (by decide +kernel) ⟨by rw [hR]; exact Nat.le_of_ble_eq_true rfl, by rw [hR]; exact Nat.le_of_ble_eq_true rfl⟩, htg _ kw_45, htg _ kw_46⟩ (xpreVs hK hPc hDc hT hFc hS (xT.recv hT 7 (by decide) hS)) rfl rfl hl.1 rfl (lv_room (Nat.le_of_ble_eq_true rfl)) dX6_isWord_8 ⟨by rw [hR]; exact Nat.le_of_ble_eq_true rfl, by rw [hR]; exact Nat.le_of_ble_eq_true rfl⟩) hS (fun q _ h => hFc q h) hFc (fun r9 u9 t H1 locs ht hvm hw hB hz1 hk1 hS => ?_)
      subst hw
      obtain ⟨fik, flk, vik, vlk, hP1, hD1, hG⟩ := hB
      rw [ht] at hP1
      obtain ⟨hP, hD⟩ := va_join (wr := [((a 0), .inr (6, [.ref (ex 0), .ref (ex 1), .int (vi 0), .int (vi 1), .int (vi 2), .int (vi 3), .int (vi 4), .int (vi 5), .long (vl 0), .int (vi 6), .int (vi 7), .int (vi 8), .int (vi 9), .int (vi 10)]))]) (w1 := []) hP hD [] [0] hC9 rfl (by decide) (by decide) hk1 hFc hP1 hD1
      obtain ⟨rk, er9⟩ : ∃ z, z = r9 := ⟨_, rfl⟩
      subst er9
      clear hPc hDc hFc hP1 hD1 hk1 hz1 hvm ht hC9
      generalize H1 = H at hP hS ⊢
      obtain ⟨hP, hD⟩ := (show xPD D A [((a 0), .inr (6, [.ref (ex 0), .ref (ex 1), .int (vi 0), .int (vi 1), .int (vi 2), .int (vi 3), .int (vi 4), .int (vi 5), .long (vl 0), .int (vi 6), .int (vi 7), .int (vi 8), .int (vi 9), .int (vi 10)]))] H from ⟨hP, hD⟩)
      obtain ⟨gk_0, -⟩ := hG
      replace gk_0 : rk = 6 := gk_0
      refine xz_i 6 gk_0 ?_
      refine lv_icmp_ge (tgt := 33) hx hb dX6_isWord_11 (by decide) (fun c11 => ?_) (fun c11 => ?_)
      · have c11 := xge (k := 6) (by decide) c11
        refine lv_aload_n hx hb dX6_isWord_33 rfl (lv_at hl 2 rfl) ?_
        refine va_get (D := D) (ci := 6) (v := .int (vi 4)) (C := RX6) (T := TX6) (N := 14) hx hb htg inX6 hown hK.1 hP 0 rfl rfl 6 (by decide) (htg _ kw_104) (fun _ h9 => h9) rfl dX6_isWord_34 ?_
        refine lv_iconst (v := 1) hx hb dX6_isWord_37 (by decide) ?_
        refine lv_icmp_ne (tgt := 54) hx hb dX6_isWord_38 (by decide) (fun c38 => ?_) (fun c38 => ?_)
        · have c38 := xne (k := 1) (by decide) c38
          refine lv_iconst (v := 0) hx hb dX6_isWord_54 (by decide) ?_
          have hP9 := hP.sub (ws' := [((a 0), .inr (6, [.ref (ex 0), .ref (ex 1), .int (vi 0), .int (vi 1), .int (vi 2), .int (vi 3), .int (vi 4), .int (vi 5), .long (vl 0), .int (vi 6), .int (vi 7), .int (vi 8), .int (vi 9), .int (vi 10)]))]) [0] rfl
          have hD9 := hD.sub (ws' := [((a 0), .inr (6, [.ref (ex 0), .ref (ex 1), .int (vi 0), .int (vi 1), .int (vi 2), .int (vi 3), .int (vi 4), .int (vi 5), .long (vl 0), .int (vi 6), .int (vi 7), .int (vi 8), .int (vi 9), .int (vi 10)]))]) [0] (by decide +kernel) rfl
          rw [hQ]
          exact W.zret (v := 0) hx hb hr rfl (fun t ht hW => ⟨⟨0, 0, rfl, rfl, xf [], xh [], xv [], xl [], by rw [ht]; exact hP9, hD9, ⟨(Or.inr ⟨rfl, by show True; first | trivial | omega | assumption⟩), (by unfold R_X6_isWord_25; exact (fun Q9 k9_0 k9_1 k9_2 => k9_0 hp0 hp1 hp2 hp3 hp4 w4 w2 hi hpk9 fik flk vik vlk rk gk_0 c11 c38 rfl)), trivial⟩⟩, hS.F ht⟩) hS.2.2 dX6_isWord_55
        · have c38 := xeq (k := 1) (by decide) c38
          refine lv_lload_n hx hb dX6_isWord_41 rfl (lv_at hl 1 rfl) ?_
          refine lv_aload_n hx hb dX6_isWord_42 rfl (lv_at hl 2 rfl) ?_
          refine va_get (D := D) (ci := 6) (v := .long (vl 0)) (C := RX6) (T := TX6) (N := 14) hx hb htg inX6 hown hK.1 hP 0 rfl rfl 8 (by decide) (htg _ kw_108) (fun _ h9 => h9) rfl dX6_isWord_43 ?_
          refine W.lcmp hx hb dX6_isWord_46 ?_
          refine lv_topi (fun z46 ez46 => ?_)
          refine lv_if_ne (tgt := 54) hx hb dX6_isWord_47 (by decide) (fun c47 => ?_) (fun c47 => ?_)
          · have c47 := xne (k := 0) (by decide) c47
            refine lv_iconst (v := 0) hx hb dX6_isWord_54 (by decide) ?_
            have hP9 := hP.sub (ws' := [((a 0), .inr (6, [.ref (ex 0), .ref (ex 1), .int (vi 0), .int (vi 1), .int (vi 2), .int (vi 3), .int (vi 4), .int (vi 5), .long (vl 0), .int (vi 6), .int (vi 7), .int (vi 8), .int (vi 9), .int (vi 10)]))]) [0] rfl
            have hD9 := hD.sub (ws' := [((a 0), .inr (6, [.ref (ex 0), .ref (ex 1), .int (vi 0), .int (vi 1), .int (vi 2), .int (vi 3), .int (vi 4), .int (vi 5), .long (vl 0), .int (vi 6), .int (vi 7), .int (vi 8), .int (vi 9), .int (vi 10)]))]) [0] (by decide +kernel) rfl
            rw [hQ]
            exact W.zret (v := 0) hx hb hr rfl (fun t ht hW => ⟨⟨0, 0, rfl, rfl, xf [], xh [], xv [], xl [], by rw [ht]; exact hP9, hD9, ⟨(Or.inr ⟨rfl, by show True; first | trivial | omega | assumption⟩), (by unfold R_X6_isWord_25; exact (fun Q9 k9_0 k9_1 k9_2 => k9_1 hp0 hp1 hp2 hp3 hp4 w4 w2 hi hpk9 fik flk vik vlk rk gk_0 c11 c38 z46 ez46 c47 rfl)), trivial⟩⟩, hS.F ht⟩) hS.2.2 dX6_isWord_55
          · have c47 := xeq (k := 0) (by decide) c47
            refine lv_iconst (v := 1) hx hb dX6_isWord_50 (by decide) ?_
            refine lv_goto (tgt := 55) hx hb dX6_isWord_51 (by decide) ?_
            have hP9 := hP.sub (ws' := [((a 0), .inr (6, [.ref (ex 0), .ref (ex 1), .int (vi 0), .int (vi 1), .int (vi 2), .int (vi 3), .int (vi 4), .int (vi 5), .long (vl 0), .int (vi 6), .int (vi 7), .int (vi 8), .int (vi 9), .int (vi 10)]))]) [0] rfl
            have hD9 := hD.sub (ws' := [((a 0), .inr (6, [.ref (ex 0), .ref (ex 1), .int (vi 0), .int (vi 1), .int (vi 2), .int (vi 3), .int (vi 4), .int (vi 5), .long (vl 0), .int (vi 6), .int (vi 7), .int (vi 8), .int (vi 9), .int (vi 10)]))]) [0] (by decide +kernel) rfl
            rw [hQ]
            exact W.zret (v := 1) hx hb hr rfl (fun t ht hW => ⟨⟨1, 1, rfl, rfl, xf [], xh [], xv [], xl [], by rw [ht]; exact hP9, hD9, ⟨(Or.inl ⟨rfl, by show True; first | trivial | omega | assumption⟩), (by unfold R_X6_isWord_25; exact (fun Q9 k9_0 k9_1 k9_2 => k9_2 hp0 hp1 hp2 hp3 hp4 w4 w2 hi hpk9 fik flk vik vlk rk gk_0 c11 c38 z46 ez46 c47 rfl)), trivial⟩⟩, hS.F ht⟩) hS.2.2 dX6_isWord_55
      · have c11 := xnge (k := 6) (by decide) c11
        refine lv_lload_n hx hb dX6_isWord_14 rfl (lv_at hl 1 rfl) ?_
        refine lv_bipush (v := 8) hx hb dX6_isWord_15 (by decide) ?_
        refine lv_lshl hx hb dX6_isWord_17 rfl ?_
        refine lv_topl (fun z17 ez17 => ?_)
        refine lv_aload_n hx hb dX6_isWord_18 rfl (lv_at hl 3 rfl) ?_
        refine lv_iload hx hb dX6_isWord_19 (lv_at hl 0 rfl) ?_
        obtain ⟨hC9, hPc, hDc, hFc⟩ := xcut (wc := (pre_J0_charAt_5068e_25 T (xa []) (xa []) (xf []) (xh []) (xv [w4]) (xl []))) hP hD hS hA [] (by decide) rfl
        refine va_calli (va_runV (As := [.int w4]) (rest := [.long z17]) ⟨hx, hb, hml, hown, htg⟩ (c_J0_charAt_5068e_25 l D T (xa []) (xa []) (xf []) (xh []) (xv [w4]) (xl []) kK kV H.size (by show 0 ≤ w4.toInt ∧ w4.toInt ≤ 5; omega)) ⟨callB_of 1 htg (xg_ok kw_57) rfl rfl rfl (htg _ kw_3) (htg _ kw_54) (by decide +kernel) ⟨by rw [hR]; exact Nat.le_of_ble_eq_true rfl, by rw [hR]; exact Nat.le_of_ble_eq_true rfl⟩, htg _ kw_55, htg _ kw_56⟩ (xpreVs hK hPc hDc hT hFc hS (xT.recv hT 7 (by decide) hS)) rfl rfl hl.1 rfl (lv_room (Nat.le_of_ble_eq_true rfl)) dX6_isWord_21 ⟨by rw [hR]; exact Nat.le_of_ble_eq_true rfl, by rw [hR]; exact Nat.le_of_ble_eq_true rfl⟩) hS (fun q _ h => hFc q h) hFc (fun r9 u9 t H1 locs ht hvm hw hB hz1 hk1 hS => ?_)
        subst hw
        obtain ⟨fik_1, flk_1, vik_1, vlk_1, hP1, hD1, hG⟩ := hB
        rw [ht] at hP1
        obtain ⟨hP, hD⟩ := va_join (wr := [((a 0), .inr (6, [.ref (ex 0), .ref (ex 1), .int (vi 0), .int (vi 1), .int (vi 2), .int (vi 3), .int (vi 4), .int (vi 5), .long (vl 0), .int (vi 6), .int (vi 7), .int (vi 8), .int (vi 9), .int (vi 10)]))]) (w1 := []) hP hD [] [0] hC9 rfl (by decide) (by decide) hk1 hFc hP1 hD1
        obtain ⟨rk_1, er9⟩ : ∃ z, z = r9 := ⟨_, rfl⟩
        subst er9
        clear hPc hDc hFc hP1 hD1 hk1 hz1 hvm ht hC9
        generalize H1 = H at hP hS ⊢
        obtain ⟨hP, hD⟩ := (show xPD D A [((a 0), .inr (6, [.ref (ex 0), .ref (ex 1), .int (vi 0), .int (vi 1), .int (vi 2), .int (vi 3), .int (vi 4), .int (vi 5), .long (vl 0), .int (vi 6), .int (vi 7), .int (vi 8), .int (vi 9), .int (vi 10)]))] H from ⟨hP, hD⟩)
        obtain ⟨gk_1_0, gk_1_1, -⟩ := hG
        replace gk_1_1 : rk_1 = (sBy.getD 7 []).getD (w4.toInt).toNat 0 := (P_J0_charAt_5068e_25 gk_1_1 : _)
        replace gk_1_0 : narrow .char (.int rk_1) = .int rk_1 := gk_1_0
        refine lv_i2l hx hb dX6_isWord_24 rfl ?_
        refine lv_topl (fun z24 ez24 => ?_)
        refine lv_lor hx hb dX6_isWord_25 ?_
        refine lv_topl (fun z25 ez25 => ?_)
        refine lv_lstore_n (lv' := [(2, .long z25), (4, .int w4), (0, .ref (a 0)), (1, .ref (kK 7))]) hx hb dX6_isWord_26 rfl hl (by decide) rfl (fun ls hl => ?_)
        obtain ⟨i27, ei27⟩ : ∃ z : Int32, w4 + Int32.ofInt 1 = z := ⟨_, rfl⟩
        have ti27 : i27.toInt = w4.toInt + 1 := by rw [← ei27]; have h79 := xrng w4; exact xadd rfl (by decide) (by omega) (by omega)
        refine lv_iinc (v := i27) (lv' := [(4, .int i27), (2, .long z25), (0, .ref (a 0)), (1, .ref (kK 7))]) hx hb dX6_isWord_27 hl (k := 1) rfl ei27 (by decide) rfl (fun ls hl => ?_)
        refine lv_goto (tgt := 5) hx hb dX6_isWord_30 (by decide) ?_
        exact ih _ (by omega) i27 z25 _ _ _ (by show 0 ≤ i27.toInt ∧ i27.toInt ≤ 6; omega) (by show z25 = pkw (sBy.getD 7 []) (i27.toInt).toNat; rw [ez25, ez17, ez24]; exact pkw_s hpk9 (by omega) (by omega) (by assumption)) rfl (hP.sub [0] rfl) (hD.sub [0] (by decide) rfl) hS (lv_sub hl [0, 1, 2, 3] rfl)
  exact lp _ (0 : Int32) (0 : Int64) _ _ _ (show 0 ≤ (0 : Int32).toInt ∧ (0 : Int32).toInt ≤ 6 by decide) (by show (0 : Int64) = pkw (sBy.getD 7 []) ((0 : Int32).toInt).toNat; have k9_0 : (0 : Int32).toInt = 0 := (by decide); rw [show (0 : Int32).toInt.toNat = 0 by decide]; rfl) rfl hP hD hS hl
abbrev pre_X7_isBorneAtFirst (T : Nat → ClassId) (a ex : Nat → Nat) (fi : Nat → Nat → Int32) (fl : Nat → Nat → Int64) (vi : Nat → Int32) (vl : Nat → Int64) : va_W := [((a 0), .inr (7, [.int (vi 1), .int (vi 2), .ref (ex 0), .ref (ex 1), .ref (ex 2), .ref (ex 3), .ref (ex 4), .ref (ex 5), .ref (a 1), .ref (ex 6), .ref (ex 7), .ref (ex 8)])), ((a 1), .inl (T 1, 9, .inl (fi 0)))]
set_option maxHeartbeats 8000000 in
set_option maxRecDepth 100000 in
theorem c_X7_isBorneAtFirst (l : Launch) (D : va_G) (T : Nat → ClassId) (a ex : Nat → Nat) (fi : Nat → Nat → Int32) (fl : Nat → Nat → Int64) (vi : Nat → Int32) (vl : Nat → Int64) (sz : Nat) (hp0 : 0 ≤ (vi 1).toInt ∧ (vi 1).toInt ≤ 9) (hp1 : 0 ≤ (vi 2).toInt ∧ (vi 2).toInt ≤ 9) : Met l yX7_isBorneAtFirst (xw yX7_isBorneAtFirst cX7_isBorneAtFirst 3 (some .boolean)) ({ frames := 0, cells := 0, slots := 0, locals := 0 }) (xP D T [.ref (a 0), .int (vi 0)] sz (pre_X7_isBorneAtFirst T a ex fi fl vi vl)) (va_Qi (fun r u => r = u) (xC D (va_A (pre_X7_isBorneAtFirst T a ex fi fl vi vl) sz) (fun fj fm vj vm => [((a 0), .inr (7, [.int (vi 1), .int (vi 2), .ref (ex 0), .ref (ex 1), .ref (ex 2), .ref (ex 3), .ref (ex 4), .ref (ex 5), .ref (a 1), .ref (ex 6), .ref (ex 7), .ref (ex 8)])), ((a 1), .inl (T 1, 9, .inl (fi 0)))]) (fun (r : Int32) (fj : Nat → Nat → Int32) (fm : Nat → Nat → Int64) (vj : Nat → Int32) (vm : Nat → Int64) => ((r = 1 ∧ (True)) ∨ (r = 0 ∧ (True))) ∧ R_X7_isBorneAtFirst fi fl vi vl r fj fm vj vm ∧ True)) (va_A (pre_X7_isBorneAtFirst T a ex fi fl vi vl) sz)) 0 0 (va_A (pre_X7_isBorneAtFirst T a ex fi fl vi vl) sz) := by
  refine xofW (cc := cX7_isBorneAtFirst) (maxL := 3) (ret := (some .boolean)) (by decide) rfl ?_
  intro p e s m args below meth c s₁ R Q hR hQ B hml hv
  obtain ⟨rfl, hsz, hP, hK, hD0⟩ := hv
  have hx := B.exec
  have hb := B.bytes
  have hr := B.returns
  have hts := atoms_spec (ws := xw yX7_isBorneAtFirst cX7_isBorneAtFirst 3 (some .boolean)) B.pre
  have htg : ∀ w ∈ xg, w.before _ s = true := fun w h => hts w (List.mem_cons_of_mem _ h)
  have hown : s.vm.findClass RX7 = some m.cls := findClass_of_methodNamed B.named
  have hlocks := B.notSynchronized
  subst hsz
  have hD := hD0.self (sz := s.heap.size)
  generalize hAe : va_A (pre_X7_isBorneAtFirst T a ex fi fl vi vl) s.heap.size = A at hD hQ
  have hA : ∀ q : Nat, s.heap.size ≤ q → A q := fun q h => by rw [← hAe]; exact Or.inr h
  have hS : va_S A s.heap s.heap [] := va_S.rf
  replace hP : va_P D vwCl [((a 0), .inr (7, [.int (vi 1), .int (vi 2), .ref (ex 0), .ref (ex 1), .ref (ex 2), .ref (ex 3), .ref (ex 4), .ref (ex 5), .ref (a 1), .ref (ex 6), .ref (ex 7), .ref (ex 8)])), ((a 1), .inl (T 1, 9, .inl (fi 0)))] s.heap := hP
  replace hD : va_D A [((a 0), .inr (7, [.int (vi 1), .int (vi 2), .ref (ex 0), .ref (ex 1), .ref (ex 2), .ref (ex 3), .ref (ex 4), .ref (ex 5), .ref (a 1), .ref (ex 6), .ref (ex 7), .ref (ex 8)])), ((a 1), .inl (T 1, 9, .inl (fi 0)))] := hD
  have hl := lv_entry ([.ref (a 0), .int (vi 0)]) (n := 3) (Nat.le_of_ble_eq_true rfl)
  rw [lg_entry_eq]
  generalize (lg_sl ([.ref (a 0), .int (vi 0)]) ++ List.replicate (3 - (lg_sl ([.ref (a 0), .int (vi 0)])).length) Slot.unset).toArray = ls at hl ⊢
  replace hl : lv_has ls 3 [(0, .ref (a 0)), (1, .int (vi 0))] := hl
  refine lv_iconst (v := 0) hx hb dX7_isBorneAtFirst_0 (by decide) ?_
  refine lv_istore_n (lv' := [(2, .int 0), (0, .ref (a 0)), (1, .int (vi 0))]) hx hb dX7_isBorneAtFirst_1 rfl hl (by decide) rfl (fun ls hl => ?_)
  have lp : ∀ (kn : Nat) (w2 : Int32) (H : Heap) (locs : List Loc) (ls : Array Slot), (0 ≤ w2.toInt ∧ w2.toInt ≤ 9) → (∀ j : Nat, (j : Int) < w2.toInt → ¬ ((fi 0) j).toInt = (vi 0).toInt) → (2147483648 - w2.toInt).toNat = kn → va_P D vwCl [((a 0), .inr (7, [.int (vi 1), .int (vi 2), .ref (ex 0), .ref (ex 1), .ref (ex 2), .ref (ex 3), .ref (ex 4), .ref (ex 5), .ref (a 1), .ref (ex 6), .ref (ex 7), .ref (ex 8)])), ((a 1), .inl (T 1, 9, .inl (fi 0)))] H → va_D A [((a 0), .inr (7, [.int (vi 1), .int (vi 2), .ref (ex 0), .ref (ex 1), .ref (ex 2), .ref (ex 3), .ref (ex 4), .ref (ex 5), .ref (a 1), .ref (ex 6), .ref (ex 7), .ref (ex 8)])), ((a 1), .inl (T 1, 9, .inl (fi 0)))] → va_S A s.heap H locs → lv_has ls 3 [(2, .int w2), (0, .ref (a 0)), (1, .int (vi 0))] → W p l e R s m ([.ref (a 0), .int (vi 0)] : List Value).toArray below meth c H locs 0 0 Q (F0 m 2 ls []) := by
    intro kn
    induction kn using Nat.strongRecOn with
    | _ kn ih =>
      intro w2 H locs ls hi hbo9 hm hP hD hS hl
      refine lv_iload_n hx hb dX7_isBorneAtFirst_2 rfl (lv_at hl 0 rfl) ?_
      refine lv_aload_n hx hb dX7_isBorneAtFirst_3 rfl (lv_at hl 1 rfl) ?_
      refine va_get (D := D) (ci := 7) (v := .int (vi 2)) (C := RX7) (T := TX7) (N := 12) hx hb htg inX7 hown hK.1 hP 0 rfl rfl 1 (by decide) (htg _ kw_163) (fun _ h9 => h9) rfl dX7_isBorneAtFirst_4 ?_
      refine lv_icmp_ge (tgt := 28) hx hb dX7_isBorneAtFirst_7 (by decide) (fun c7 => ?_) (fun c7 => ?_)
      · have c7 := Int32.le_iff_toInt_le.mp c7
        have rc7 := xrng w2; have qc7 := xrng (vi 2)
        refine lv_iconst (v := 0) hx hb dX7_isBorneAtFirst_28 (by decide) ?_
        have hP9 := hP.sub (ws' := [((a 0), .inr (7, [.int (vi 1), .int (vi 2), .ref (ex 0), .ref (ex 1), .ref (ex 2), .ref (ex 3), .ref (ex 4), .ref (ex 5), .ref (a 1), .ref (ex 6), .ref (ex 7), .ref (ex 8)])), ((a 1), .inl (T 1, 9, .inl (fi 0)))]) [0, 1] rfl
        have hD9 := hD.sub (ws' := [((a 0), .inr (7, [.int (vi 1), .int (vi 2), .ref (ex 0), .ref (ex 1), .ref (ex 2), .ref (ex 3), .ref (ex 4), .ref (ex 5), .ref (a 1), .ref (ex 6), .ref (ex 7), .ref (ex 8)])), ((a 1), .inl (T 1, 9, .inl (fi 0)))]) [0, 1] (by decide +kernel) rfl
        rw [hQ]
        exact W.zret (v := 0) hx hb hr rfl (fun t ht hW => ⟨⟨0, 0, rfl, rfl, xf [], xh [], xv [], xl [], by rw [ht]; exact hP9, hD9, ⟨(Or.inr ⟨rfl, by show True; first | trivial | omega | assumption⟩), (by unfold R_X7_isBorneAtFirst; exact (fun Q9 k9_0 k9_1 => k9_0 hp0 hp1 w2 hi hbo9 c7 rfl)), trivial⟩⟩, hS.F ht⟩) hS.2.2 dX7_isBorneAtFirst_29
      · have c7 := (mt Int32.le_iff_toInt_le.mpr c7)
        have rc7 := xrng w2; have qc7 := xrng (vi 2)
        refine lv_aload_n hx hb dX7_isBorneAtFirst_10 rfl (lv_at hl 1 rfl) ?_
        refine va_get (D := D) (ci := 7) (v := .ref (a 1)) (C := RX7) (T := TX7) (N := 12) hx hb htg inX7 hown hK.1 hP 0 rfl rfl 8 (by decide) (htg _ kw_183) (fun _ h9 => h9) rfl dX7_isBorneAtFirst_11 ?_
        refine lv_iload_n hx hb dX7_isBorneAtFirst_14 rfl (lv_at hl 0 rfl) ?_
        refine va_iald hx hb hK.1 hP 1 1 rfl rfl (vp_in_iff.mpr (by omega)) dX7_isBorneAtFirst_15 ?_
        refine lv_iload_n hx hb dX7_isBorneAtFirst_16 rfl (lv_at hl 2 rfl) ?_
        refine lv_icmp_ne (tgt := 22) hx hb dX7_isBorneAtFirst_17 (by decide) (fun c17 => ?_) (fun c17 => ?_)
        · have c17 := xne2 c17
          have rc17 := xrng ((fi 0) w2.toNatClampNeg); have qc17 := xrng (vi 0)
          obtain ⟨i22, ei22⟩ : ∃ z : Int32, w2 + Int32.ofInt 1 = z := ⟨_, rfl⟩
          have ti22 : i22.toInt = w2.toInt + 1 := by rw [← ei22]; have h79 := xrng w2; exact xadd rfl (by decide) (by omega) (by omega)
          refine lv_iinc (v := i22) (lv' := [(2, .int i22), (0, .ref (a 0)), (1, .int (vi 0))]) hx hb dX7_isBorneAtFirst_22 hl (k := 0) rfl ei22 (by decide) rfl (fun ls hl => ?_)
          refine lv_goto (tgt := 2) hx hb dX7_isBorneAtFirst_25 (by decide) ?_
          exact ih _ (by omega) i22 _ _ _ (by show 0 ≤ i22.toInt ∧ i22.toInt ≤ 9; omega) (by show ∀ j : Nat, (j : Int) < i22.toInt → ¬ ((fi 0) j).toInt = (vi 0).toInt; exact ne_all hbo9 (by omega) (by omega) (by assumption)) rfl (hP.sub [0, 1] rfl) (hD.sub [0, 1] (by decide) rfl) hS (lv_sub hl [0, 1, 2] rfl)
        · have c17 := congrArg Int32.toInt c17
          have rc17 := xrng ((fi 0) w2.toNatClampNeg); have qc17 := xrng (vi 0)
          refine lv_iconst (v := 1) hx hb dX7_isBorneAtFirst_20 (by decide) ?_
          have hP9 := hP.sub (ws' := [((a 0), .inr (7, [.int (vi 1), .int (vi 2), .ref (ex 0), .ref (ex 1), .ref (ex 2), .ref (ex 3), .ref (ex 4), .ref (ex 5), .ref (a 1), .ref (ex 6), .ref (ex 7), .ref (ex 8)])), ((a 1), .inl (T 1, 9, .inl (fi 0)))]) [0, 1] rfl
          have hD9 := hD.sub (ws' := [((a 0), .inr (7, [.int (vi 1), .int (vi 2), .ref (ex 0), .ref (ex 1), .ref (ex 2), .ref (ex 3), .ref (ex 4), .ref (ex 5), .ref (a 1), .ref (ex 6), .ref (ex 7), .ref (ex 8)])), ((a 1), .inl (T 1, 9, .inl (fi 0)))]) [0, 1] (by decide +kernel) rfl
          rw [hQ]
          exact W.zret (v := 1) hx hb hr rfl (fun t ht hW => ⟨⟨1, 1, rfl, rfl, xf [], xh [], xv [], xl [], by rw [ht]; exact hP9, hD9, ⟨(Or.inl ⟨rfl, by show True; first | trivial | omega | assumption⟩), (by unfold R_X7_isBorneAtFirst; exact (fun Q9 k9_0 k9_1 => k9_1 hp0 hp1 w2 hi hbo9 c7 c17 rfl)), trivial⟩⟩, hS.F ht⟩) hS.2.2 dX7_isBorneAtFirst_21
  exact lp _ (0 : Int32) _ _ _ (show 0 ≤ (0 : Int32).toInt ∧ (0 : Int32).toInt ≤ 9 by decide) (by show ∀ j : Nat, (j : Int) < (0 : Int32).toInt → ¬ ((fi 0) j).toInt = (vi 0).toInt; have k9_0 : (0 : Int32).toInt = 0 := (by decide); intro j hj; exfalso; omega) rfl hP hD hS hl
