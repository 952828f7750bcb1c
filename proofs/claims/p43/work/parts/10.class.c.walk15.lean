abbrev pre_X11_bidder (T : Nat → ClassId) (a ex : Nat → Nat) (fi : Nat → Nat → Int32) (fl : Nat → Nat → Int64) (vi : Nat → Int32) (vl : Nat → Int64) : va_W := [((a 0), .inr (11, [.ref (ex 0), .ref (a 1), .ref (ex 1), .ref (ex 2), .ref (a 3), .ref (ex 3), .ref (ex 4), .ref (ex 5), .ref (ex 6), .ref (ex 7), .ref (ex 8), .ref (a 2), .ref (ex 9), .ref (ex 10), .int (vi 1)])), ((a 1), .inr (7, [.int (vi 2), .int (vi 3), .ref (ex 11), .ref (ex 12), .ref (ex 13), .ref (ex 14), .ref (ex 15), .ref (ex 16), .ref (ex 17), .ref (ex 18), .ref (ex 19), .ref (a 5)])), ((a 2), .inr (3, [.ref (a 1), .ref (a 3), .int (vi 4), .int (vi 5), .int (vi 6)])), ((a 3), .inr (2, [.ref (a 1), .int (vi 7), .int (vi 8), .int (vi 9), .int (vi 10), .int (vi 11), .int (vi 12), .ref (ex 20), .ref (ex 21), .ref (ex 22), .ref (ex 23), .ref (a 6), .ref (ex 24), .ref (a 4), .ref (ex 25)])), ((a 4), .inl (T 1, 9, .inl (fi 0))), ((a 5), .inl (T 1, 81, .inl (fi 1))), ((a 6), .inl (T 1, 9, .inl (fi 2)))]
set_option maxHeartbeats 8000000 in
set_option maxRecDepth 100000 in
theorem c_X11_bidder (l : Launch) (D : va_G) (T : Nat → ClassId) (a ex : Nat → Nat) (fi : Nat → Nat → Int32) (fl : Nat → Nat → Int64) (vi : Nat → Int32) (vl : Nat → Int64) (sz : Nat) (hp0 : 0 ≤ (vi 2).toInt ∧ (vi 2).toInt ≤ 9) (hp1 : 0 ≤ (vi 3).toInt ∧ (vi 3).toInt ≤ 9) (hp2 : 0 ≤ (vi 7).toInt ∧ (vi 7).toInt ≤ 200) (hp3 : 0 ≤ (vi 12).toInt ∧ (vi 12).toInt ≤ 9) (hp4 : rg (fi 0) 0 9 0 8) : Met l yX11_bidder (xw yX11_bidder cX11_bidder 2 (some .int)) ({ frames := 3, cells := 0, slots := 0, locals := 91 }) (xP D T [.ref (a 0), .int (vi 0)] sz (pre_X11_bidder T a ex fi fl vi vl)) (va_Qi (fun r u => r = u) (xC D (va_A (pre_X11_bidder T a ex fi fl vi vl) sz) (fun fj fm vj vm => [((a 0), .inr (11, [.ref (ex 0), .ref (a 1), .ref (ex 1), .ref (ex 2), .ref (a 3), .ref (ex 3), .ref (ex 4), .ref (ex 5), .ref (ex 6), .ref (ex 7), .ref (ex 8), .ref (a 2), .ref (ex 9), .ref (ex 10), .int (vi 1)])), ((a 1), .inr (7, [.int (vi 2), .int (vi 3), .ref (ex 11), .ref (ex 12), .ref (ex 13), .ref (ex 14), .ref (ex 15), .ref (ex 16), .ref (ex 17), .ref (ex 18), .ref (ex 19), .ref (a 5)])), ((a 2), .inr (3, [.ref (a 1), .ref (a 3), .int (vj 0), .int (vi 5), .int (vi 6)])), ((a 3), .inr (2, [.ref (a 1), .int (vi 7), .int (vi 8), .int (vi 9), .int (vi 10), .int (vi 11), .int (vi 12), .ref (ex 20), .ref (ex 21), .ref (ex 22), .ref (ex 23), .ref (a 6), .ref (ex 24), .ref (a 4), .ref (ex 25)])), ((a 4), .inl (T 1, 9, .inl (fi 0))), ((a 5), .inl (T 1, 81, .inl (fi 1))), ((a 6), .inl (T 1, 9, .inl (fi 2)))]) (fun (r : Int32) (fj : Nat → Nat → Int32) (fm : Nat → Nat → Int64) (vj : Nat → Int32) (vm : Nat → Int64) => True)) (va_A (pre_X11_bidder T a ex fi fl vi vl) sz)) 0 0 (va_A (pre_X11_bidder T a ex fi fl vi vl) sz) := by
  refine xofW (cc := cX11_bidder) (maxL := 2) (ret := (some .int)) (by decide) rfl ?_
  intro p e s m args below meth c s₁ R Q hR hQ B hml hv
  obtain ⟨rfl, hsz, hP, hK, hD0⟩ := hv
  have hx := B.exec
  have hb := B.bytes
  have hr := B.returns
  have hts := atoms_spec (ws := xw yX11_bidder cX11_bidder 2 (some .int)) B.pre
  have htg : ∀ w ∈ xg, w.before _ s = true := fun w h => hts w (List.mem_cons_of_mem _ h)
  have hown : s.vm.findClass RX11 = some m.cls := findClass_of_methodNamed B.named
  have hlocks := B.notSynchronized
  subst hsz
  have hD := hD0.self (sz := s.heap.size)
  generalize hAe : va_A (pre_X11_bidder T a ex fi fl vi vl) s.heap.size = A at hD hQ
  have hA : ∀ q : Nat, s.heap.size ≤ q → A q := fun q h => by rw [← hAe]; exact Or.inr h
  have hS : va_S A s.heap s.heap [] := va_S.rf
  replace hP : va_P D vwCl [((a 0), .inr (11, [.ref (ex 0), .ref (a 1), .ref (ex 1), .ref (ex 2), .ref (a 3), .ref (ex 3), .ref (ex 4), .ref (ex 5), .ref (ex 6), .ref (ex 7), .ref (ex 8), .ref (a 2), .ref (ex 9), .ref (ex 10), .int (vi 1)])), ((a 1), .inr (7, [.int (vi 2), .int (vi 3), .ref (ex 11), .ref (ex 12), .ref (ex 13), .ref (ex 14), .ref (ex 15), .ref (ex 16), .ref (ex 17), .ref (ex 18), .ref (ex 19), .ref (a 5)])), ((a 2), .inr (3, [.ref (a 1), .ref (a 3), .int (vi 4), .int (vi 5), .int (vi 6)])), ((a 3), .inr (2, [.ref (a 1), .int (vi 7), .int (vi 8), .int (vi 9), .int (vi 10), .int (vi 11), .int (vi 12), .ref (ex 20), .ref (ex 21), .ref (ex 22), .ref (ex 23), .ref (a 6), .ref (ex 24), .ref (a 4), .ref (ex 25)])), ((a 4), .inl (T 1, 9, .inl (fi 0))), ((a 5), .inl (T 1, 81, .inl (fi 1))), ((a 6), .inl (T 1, 9, .inl (fi 2)))] s.heap := hP
  replace hD : va_D A [((a 0), .inr (11, [.ref (ex 0), .ref (a 1), .ref (ex 1), .ref (ex 2), .ref (a 3), .ref (ex 3), .ref (ex 4), .ref (ex 5), .ref (ex 6), .ref (ex 7), .ref (ex 8), .ref (a 2), .ref (ex 9), .ref (ex 10), .int (vi 1)])), ((a 1), .inr (7, [.int (vi 2), .int (vi 3), .ref (ex 11), .ref (ex 12), .ref (ex 13), .ref (ex 14), .ref (ex 15), .ref (ex 16), .ref (ex 17), .ref (ex 18), .ref (ex 19), .ref (a 5)])), ((a 2), .inr (3, [.ref (a 1), .ref (a 3), .int (vi 4), .int (vi 5), .int (vi 6)])), ((a 3), .inr (2, [.ref (a 1), .int (vi 7), .int (vi 8), .int (vi 9), .int (vi 10), .int (vi 11), .int (vi 12), .ref (ex 20), .ref (ex 21), .ref (ex 22), .ref (ex 23), .ref (a 6), .ref (ex 24), .ref (a 4), .ref (ex 25)])), ((a 4), .inl (T 1, 9, .inl (fi 0))), ((a 5), .inl (T 1, 81, .inl (fi 1))), ((a 6), .inl (T 1, 9, .inl (fi 2)))] := hD
  have hl := lv_entry ([.ref (a 0), .int (vi 0)]) (n := 2) (Nat.le_of_ble_eq_true rfl)
  rw [lg_entry_eq]
  generalize (lg_sl ([.ref (a 0), .int (vi 0)]) ++ List.replicate (2 - (lg_sl ([.ref (a 0), .int (vi 0)])).length) Slot.unset).toArray = ls at hl ⊢
  replace hl : lv_has ls 2 [(0, .ref (a 0)), (1, .int (vi 0))] := hl
  refine lv_aload_n hx hb dX11_bidder_0 rfl (lv_at hl 0 rfl) ?_
  refine va_get (D := D) (ci := 11) (v := .ref (a 1)) (C := RX11) (T := TX11) (N := 15) hx hb htg inX11 hown hK.1 hP 0 rfl rfl 1 (by decide) (htg _ kw_497) (fun _ h9 => h9) rfl dX11_bidder_1 ?_
  refine lv_iload_n hx hb dX11_bidder_4 rfl (lv_at hl 1 rfl) ?_
  obtain ⟨hC9, hPc, hDc, hFc⟩ := xcut (wc := (pre_X7_isName T (xa [(a 1)]) (xa [(ex 11), (ex 12), (ex 13), (ex 14), (ex 15), (ex 16), (ex 17), (ex 18), (ex 19), (a 5)]) (xf []) (xh []) (xv [(vi 0), (vi 2), (vi 3)]) (xl []))) hP hD hS hA [1] (by decide) rfl
  refine va_calli (va_runVN (As := [.int (vi 0)]) (rest := []) ⟨hx, hb, hml, hown, htg⟩ (c_X7_isName l D T (xa [(a 1)]) (xa [(ex 11), (ex 12), (ex 13), (ex 14), (ex 15), (ex 16), (ex 17), (ex 18), (ex 19), (a 5)]) (xf []) (xh []) (xv [(vi 0), (vi 2), (vi 3)]) (xl []) s.heap.size hp0 hp1) ⟨va_cnB 1 htg (xg_ok kw_683) rfl rfl rfl (hK.2.1 _ kn_743) (htg _ kw_7) (by decide +kernel) ⟨by rw [hR]; exact Nat.le_of_ble_eq_true rfl, by rw [hR]; exact Nat.le_of_ble_eq_true rfl⟩, htg _ kw_682, htg _ ks_29⟩ (xpreV hK hPc hDc (va_recv hK.1 hPc (ci := 7) (q0 := 0) rfl rfl)) rfl rfl hl.1 rfl (lv_room (Nat.le_of_ble_eq_true rfl)) dX11_bidder_5 ⟨by rw [hR]; exact Nat.le_of_ble_eq_true rfl, by rw [hR]; exact Nat.le_of_ble_eq_true rfl⟩) hS (fun q _ h => hFc q h) hFc (fun r9 u9 t H1 locs ht hvm hw hB hz1 hk1 hS => ?_)
  subst hw
  obtain ⟨fik, flk, vik, vlk, hP1, hD1, hG⟩ := hB
  rw [ht] at hP1
  obtain ⟨hP, hD⟩ := va_join (wr := [((a 0), .inr (11, [.ref (ex 0), .ref (a 1), .ref (ex 1), .ref (ex 2), .ref (a 3), .ref (ex 3), .ref (ex 4), .ref (ex 5), .ref (ex 6), .ref (ex 7), .ref (ex 8), .ref (a 2), .ref (ex 9), .ref (ex 10), .int (vi 1)])), ((a 2), .inr (3, [.ref (a 1), .ref (a 3), .int (vi 4), .int (vi 5), .int (vi 6)])), ((a 3), .inr (2, [.ref (a 1), .int (vi 7), .int (vi 8), .int (vi 9), .int (vi 10), .int (vi 11), .int (vi 12), .ref (ex 20), .ref (ex 21), .ref (ex 22), .ref (ex 23), .ref (a 6), .ref (ex 24), .ref (a 4), .ref (ex 25)])), ((a 4), .inl (T 1, 9, .inl (fi 0))), ((a 5), .inl (T 1, 81, .inl (fi 1))), ((a 6), .inl (T 1, 9, .inl (fi 2)))]) (w1 := [((a 1), .inr (7, [.int (vi 2), .int (vi 3), .ref (ex 11), .ref (ex 12), .ref (ex 13), .ref (ex 14), .ref (ex 15), .ref (ex 16), .ref (ex 17), .ref (ex 18), .ref (ex 19), .ref (a 5)]))]) hP hD [1] [0, 2, 3, 4, 5, 6] hC9 rfl (by decide) (by decide) hk1 hFc hP1 hD1
  obtain ⟨rk, er9⟩ : ∃ z, z = r9 := ⟨_, rfl⟩
  subst er9
  clear hPc hDc hFc hP1 hD1 hk1 hz1 hvm ht hC9
  generalize H1 = H at hP hS ⊢
  obtain ⟨hP, hD⟩ := (show xPD D A [((a 0), .inr (11, [.ref (ex 0), .ref (a 1), .ref (ex 1), .ref (ex 2), .ref (a 3), .ref (ex 3), .ref (ex 4), .ref (ex 5), .ref (ex 6), .ref (ex 7), .ref (ex 8), .ref (a 2), .ref (ex 9), .ref (ex 10), .int (vi 1)])), ((a 2), .inr (3, [.ref (a 1), .ref (a 3), .int (vi 4), .int (vi 5), .int (vi 6)])), ((a 3), .inr (2, [.ref (a 1), .int (vi 7), .int (vi 8), .int (vi 9), .int (vi 10), .int (vi 11), .int (vi 12), .ref (ex 20), .ref (ex 21), .ref (ex 22), .ref (ex 23), .ref (a 6), .ref (ex 24), .ref (a 4), .ref (ex 25)])), ((a 4), .inl (T 1, 9, .inl (fi 0))), ((a 5), .inl (T 1, 81, .inl (fi 1))), ((a 6), .inl (T 1, 9, .inl (fi 2))), ((a 1), .inr (7, [.int (vi 2), .int (vi 3), .ref (ex 11), .ref (ex 12), .ref (ex 13), .ref (ex 14), .ref (ex 15), .ref (ex 16), .ref (ex 17), .ref (ex 18), .ref (ex 19), .ref (a 5)]))] H from ⟨hP, hD⟩)
  obtain ⟨gk_0, -⟩ := hG
  rcases (show (rk = 1 ∧ (0 ≤ (vi 0).toInt ∧ (vi 0).toInt < (vi 2).toInt)) ∨ (rk = 0 ∧ (¬ (0 ≤ (vi 0).toInt ∧ (vi 0).toInt < (vi 2).toInt))) from gk_0) with ⟨er9, gk_0⟩ | ⟨er9, gk_0⟩
  · refine xz_i 1 er9 ?_
    refine lv_if_eq (tgt := 22) hx hb dX11_bidder_8 (by decide) (fun c => absurd c (by decide)) (fun _ => ?_)
    refine lv_aload_n hx hb dX11_bidder_11 rfl (lv_at hl 0 rfl) ?_
    refine va_get (D := D) (ci := 11) (v := .ref (a 2)) (C := RX11) (T := TX11) (N := 15) hx hb htg inX11 hown hK.1 hP 0 rfl rfl 11 (by decide) (htg _ kw_507) (fun _ h9 => h9) rfl dX11_bidder_12 ?_
    refine lv_iload_n hx hb dX11_bidder_15 rfl (lv_at hl 1 rfl) ?_
    obtain ⟨hC9, hPc, hDc, hFc⟩ := xcut (wc := (pre_X3_findBidder T (xa [(a 2), (a 3), (a 4), (a 1), (a 5), (a 6)]) (xa [(ex 20), (ex 21), (ex 22), (ex 23), (ex 24), (ex 25), (ex 11), (ex 12), (ex 13), (ex 14), (ex 15), (ex 16), (ex 17), (ex 18), (ex 19)]) (xf [(fi 0), (fi 1), (fi 2)]) (xh []) (xv [(vi 0), (vi 4), (vi 5), (vi 6), (vi 7), (vi 8), (vi 9), (vi 10), (vi 11), (vi 12), (vi 2), (vi 3)]) (xl []))) hP hD hS hA [1, 2, 3, 6, 4, 5] (by decide) rfl
    refine va_calli (va_runVN (As := [.int (vi 0)]) (rest := []) ⟨hx, hb, hml, hown, htg⟩ (c_X3_findBidder l D T (xa [(a 2), (a 3), (a 4), (a 1), (a 5), (a 6)]) (xa [(ex 20), (ex 21), (ex 22), (ex 23), (ex 24), (ex 25), (ex 11), (ex 12), (ex 13), (ex 14), (ex 15), (ex 16), (ex 17), (ex 18), (ex 19)]) (xf [(fi 0), (fi 1), (fi 2)]) (xh []) (xv [(vi 0), (vi 4), (vi 5), (vi 6), (vi 7), (vi 8), (vi 9), (vi 10), (vi 11), (vi 12), (vi 2), (vi 3)]) (xl []) H.size (by show 0 ≤ (vi 0).toInt ∧ (vi 0).toInt ≤ 8; omega) hp2 hp3 (show rg (fi 0) 0 9 0 8 from hp4) hp0 hp1) ⟨va_cnB 1 htg (xg_ok kw_1027) rfl rfl rfl (hK.2.1 _ kn_1024) (htg _ kw_14) (by decide +kernel) ⟨by rw [hR]; exact Nat.le_of_ble_eq_true rfl, by rw [hR]; exact Nat.le_of_ble_eq_true rfl⟩, htg _ kw_1026, htg _ ks_83⟩ (xpreV hK hPc hDc (va_recv hK.1 hPc (ci := 3) (q0 := 0) rfl rfl)) rfl rfl hl.1 rfl (lv_room (Nat.le_of_ble_eq_true rfl)) dX11_bidder_16 ⟨by rw [hR]; exact Nat.le_of_ble_eq_true rfl, by rw [hR]; exact Nat.le_of_ble_eq_true rfl⟩) hS (fun q _ h => hFc q h) hFc (fun r9 u9 t H1 locs ht hvm hw hB hz1 hk1 hS => ?_)
    subst hw
    obtain ⟨fik_1, flk_1, vik_1, vlk_1, hP1, hD1, hG⟩ := hB
    rw [ht] at hP1
    obtain ⟨hP, hD⟩ := va_join (wr := [((a 0), .inr (11, [.ref (ex 0), .ref (a 1), .ref (ex 1), .ref (ex 2), .ref (a 3), .ref (ex 3), .ref (ex 4), .ref (ex 5), .ref (ex 6), .ref (ex 7), .ref (ex 8), .ref (a 2), .ref (ex 9), .ref (ex 10), .int (vi 1)]))]) (w1 := [((a 2), .inr (3, [.ref (a 1), .ref (a 3), .int (vik_1 0), .int (vi 5), .int (vi 6)])), ((a 3), .inr (2, [.ref (a 1), .int (vi 7), .int (vi 8), .int (vi 9), .int (vi 10), .int (vi 11), .int (vi 12), .ref (ex 20), .ref (ex 21), .ref (ex 22), .ref (ex 23), .ref (a 6), .ref (ex 24), .ref (a 4), .ref (ex 25)])), ((a 4), .inl (T 1, 9, .inl (fi 0))), ((a 1), .inr (7, [.int (vi 2), .int (vi 3), .ref (ex 11), .ref (ex 12), .ref (ex 13), .ref (ex 14), .ref (ex 15), .ref (ex 16), .ref (ex 17), .ref (ex 18), .ref (ex 19), .ref (a 5)])), ((a 5), .inl (T 1, 81, .inl (fi 1))), ((a 6), .inl (T 1, 9, .inl (fi 2)))]) hP hD [1, 2, 3, 6, 4, 5] [0] hC9 rfl (by decide) (by decide) hk1 hFc hP1 hD1
    obtain ⟨rk_1, er9⟩ : ∃ z, z = r9 := ⟨_, rfl⟩
    subst er9
    clear hPc hDc hFc hP1 hD1 hk1 hz1 hvm ht hC9
    generalize H1 = H at hP hS ⊢
    obtain ⟨hP, hD⟩ := (show xPD D A [((a 0), .inr (11, [.ref (ex 0), .ref (a 1), .ref (ex 1), .ref (ex 2), .ref (a 3), .ref (ex 3), .ref (ex 4), .ref (ex 5), .ref (ex 6), .ref (ex 7), .ref (ex 8), .ref (a 2), .ref (ex 9), .ref (ex 10), .int (vi 1)])), ((a 2), .inr (3, [.ref (a 1), .ref (a 3), .int (vik_1 0), .int (vi 5), .int (vi 6)])), ((a 3), .inr (2, [.ref (a 1), .int (vi 7), .int (vi 8), .int (vi 9), .int (vi 10), .int (vi 11), .int (vi 12), .ref (ex 20), .ref (ex 21), .ref (ex 22), .ref (ex 23), .ref (a 6), .ref (ex 24), .ref (a 4), .ref (ex 25)])), ((a 4), .inl (T 1, 9, .inl (fi 0))), ((a 1), .inr (7, [.int (vi 2), .int (vi 3), .ref (ex 11), .ref (ex 12), .ref (ex 13), .ref (ex 14), .ref (ex 15), .ref (ex 16), .ref (ex 17), .ref (ex 18), .ref (ex 19), .ref (a 5)])), ((a 5), .inl (T 1, 81, .inl (fi 1))), ((a 6), .inl (T 1, 9, .inl (fi 2)))] H from ⟨hP, hD⟩)
    clear hG
    refine lv_goto (tgt := 23) hx hb dX11_bidder_19 (by decide) ?_
    have hP9 := hP.sub (ws' := [((a 0), .inr (11, [.ref (ex 0), .ref (a 1), .ref (ex 1), .ref (ex 2), .ref (a 3), .ref (ex 3), .ref (ex 4), .ref (ex 5), .ref (ex 6), .ref (ex 7), .ref (ex 8), .ref (a 2), .ref (ex 9), .ref (ex 10), .int (vi 1)])), ((a 1), .inr (7, [.int (vi 2), .int (vi 3), .ref (ex 11), .ref (ex 12), .ref (ex 13), .ref (ex 14), .ref (ex 15), .ref (ex 16), .ref (ex 17), .ref (ex 18), .ref (ex 19), .ref (a 5)])), ((a 2), .inr (3, [.ref (a 1), .ref (a 3), .int (vik_1 0), .int (vi 5), .int (vi 6)])), ((a 3), .inr (2, [.ref (a 1), .int (vi 7), .int (vi 8), .int (vi 9), .int (vi 10), .int (vi 11), .int (vi 12), .ref (ex 20), .ref (ex 21), .ref (ex 22), .ref (ex 23), .ref (a 6), .ref (ex 24), .ref (a 4), .ref (ex 25)])), ((a 4), .inl (T 1, 9, .inl (fi 0))), ((a 5), .inl (T 1, 81, .inl (fi 1))), ((a 6), .inl (T 1, 9, .inl (fi 2)))]) [0, 4, 1, 2, 3, 5, 6] rfl
    have hD9 := hD.sub (ws' := [((a 0), .inr (11, [.ref (ex 0), .ref (a 1), .ref (ex 1), .ref (ex 2), .ref (a 3), .ref (ex 3), .ref (ex 4), .ref (ex 5), .ref (ex 6), .ref (ex 7), .ref (ex 8), .ref (a 2), .ref (ex 9), .ref (ex 10), .int (vi 1)])), ((a 1), .inr (7, [.int (vi 2), .int (vi 3), .ref (ex 11), .ref (ex 12), .ref (ex 13), .ref (ex 14), .ref (ex 15), .ref (ex 16), .ref (ex 17), .ref (ex 18), .ref (ex 19), .ref (a 5)])), ((a 2), .inr (3, [.ref (a 1), .ref (a 3), .int (vik_1 0), .int (vi 5), .int (vi 6)])), ((a 3), .inr (2, [.ref (a 1), .int (vi 7), .int (vi 8), .int (vi 9), .int (vi 10), .int (vi 11), .int (vi 12), .ref (ex 20), .ref (ex 21), .ref (ex 22), .ref (ex 23), .ref (a 6), .ref (ex 24), .ref (a 4), .ref (ex 25)])), ((a 4), .inl (T 1, 9, .inl (fi 0))), ((a 5), .inl (T 1, 81, .inl (fi 1))), ((a 6), .inl (T 1, 9, .inl (fi 2)))]) [0, 4, 1, 2, 3, 5, 6] (by decide +kernel) rfl
    rw [hQ]
    exact W.iret (v := rk_1) hx hb hr (fun t ht hW => ⟨⟨rk_1, rk_1, rfl, rfl, xf [], xh [], xv [(vik_1 0)], xl [], by rw [ht]; exact hP9, hD9, trivial⟩, hS.F ht⟩) hS.2.2 dX11_bidder_23
  · refine xz_i 0 er9 ?_
    refine lv_if_eq (tgt := 22) hx hb dX11_bidder_8 (by decide) (fun _ => ?_) (fun c => absurd (by decide) c)
    refine lv_iconst (v := (-1)) hx hb dX11_bidder_22 (by decide) ?_
    have hP9 := hP.sub (ws' := [((a 0), .inr (11, [.ref (ex 0), .ref (a 1), .ref (ex 1), .ref (ex 2), .ref (a 3), .ref (ex 3), .ref (ex 4), .ref (ex 5), .ref (ex 6), .ref (ex 7), .ref (ex 8), .ref (a 2), .ref (ex 9), .ref (ex 10), .int (vi 1)])), ((a 1), .inr (7, [.int (vi 2), .int (vi 3), .ref (ex 11), .ref (ex 12), .ref (ex 13), .ref (ex 14), .ref (ex 15), .ref (ex 16), .ref (ex 17), .ref (ex 18), .ref (ex 19), .ref (a 5)])), ((a 2), .inr (3, [.ref (a 1), .ref (a 3), .int (vi 4), .int (vi 5), .int (vi 6)])), ((a 3), .inr (2, [.ref (a 1), .int (vi 7), .int (vi 8), .int (vi 9), .int (vi 10), .int (vi 11), .int (vi 12), .ref (ex 20), .ref (ex 21), .ref (ex 22), .ref (ex 23), .ref (a 6), .ref (ex 24), .ref (a 4), .ref (ex 25)])), ((a 4), .inl (T 1, 9, .inl (fi 0))), ((a 5), .inl (T 1, 81, .inl (fi 1))), ((a 6), .inl (T 1, 9, .inl (fi 2)))]) [0, 6, 1, 2, 3, 4, 5] rfl
    have hD9 := hD.sub (ws' := [((a 0), .inr (11, [.ref (ex 0), .ref (a 1), .ref (ex 1), .ref (ex 2), .ref (a 3), .ref (ex 3), .ref (ex 4), .ref (ex 5), .ref (ex 6), .ref (ex 7), .ref (ex 8), .ref (a 2), .ref (ex 9), .ref (ex 10), .int (vi 1)])), ((a 1), .inr (7, [.int (vi 2), .int (vi 3), .ref (ex 11), .ref (ex 12), .ref (ex 13), .ref (ex 14), .ref (ex 15), .ref (ex 16), .ref (ex 17), .ref (ex 18), .ref (ex 19), .ref (a 5)])), ((a 2), .inr (3, [.ref (a 1), .ref (a 3), .int (vi 4), .int (vi 5), .int (vi 6)])), ((a 3), .inr (2, [.ref (a 1), .int (vi 7), .int (vi 8), .int (vi 9), .int (vi 10), .int (vi 11), .int (vi 12), .ref (ex 20), .ref (ex 21), .ref (ex 22), .ref (ex 23), .ref (a 6), .ref (ex 24), .ref (a 4), .ref (ex 25)])), ((a 4), .inl (T 1, 9, .inl (fi 0))), ((a 5), .inl (T 1, 81, .inl (fi 1))), ((a 6), .inl (T 1, 9, .inl (fi 2)))]) [0, 6, 1, 2, 3, 4, 5] (by decide +kernel) rfl
    rw [hQ]
    exact W.iret (v := (-1)) hx hb hr (fun t ht hW => ⟨⟨(-1), (-1), rfl, rfl, xf [], xh [], xv [(vi 4)], xl [], by rw [ht]; exact hP9, hD9, trivial⟩, hS.F ht⟩) hS.2.2 dX11_bidder_23
abbrev pre_X11_bid (T : Nat → ClassId) (a ex : Nat → Nat) (fi : Nat → Nat → Int32) (fl : Nat → Nat → Int64) (vi : Nat → Int32) (vl : Nat → Int64) : va_W := [((a 0), .inr (11, [.ref (ex 0), .ref (a 1), .ref (ex 1), .ref (ex 2), .ref (a 3), .ref (ex 3), .ref (ex 4), .ref (ex 5), .ref (ex 6), .ref (ex 7), .ref (ex 8), .ref (a 2), .ref (ex 9), .ref (ex 10), .int (vi 1)])), ((a 1), .inr (7, [.int (vi 2), .int (vi 3), .ref (ex 11), .ref (ex 12), .ref (ex 13), .ref (ex 14), .ref (ex 15), .ref (ex 16), .ref (ex 17), .ref (ex 18), .ref (ex 19), .ref (a 5)])), ((a 2), .inr (3, [.ref (a 1), .ref (a 3), .int (vi 4), .int (vi 5), .int (vi 6)])), ((a 3), .inr (2, [.ref (a 1), .int (vi 7), .int (vi 8), .int (vi 9), .int (vi 10), .int (vi 11), .int (vi 12), .ref (ex 20), .ref (ex 21), .ref (ex 22), .ref (ex 23), .ref (a 6), .ref (ex 24), .ref (a 4), .ref (ex 25)])), ((a 4), .inl (T 1, 9, .inl (fi 0))), ((a 5), .inl (T 1, 81, .inl (fi 1))), ((a 6), .inl (T 1, 9, .inl (fi 2)))]
set_option maxHeartbeats 8000000 in
set_option maxRecDepth 100000 in
theorem c_X11_bid (l : Launch) (D : va_G) (T : Nat → ClassId) (a ex : Nat → Nat) (fi : Nat → Nat → Int32) (fl : Nat → Nat → Int64) (vi : Nat → Int32) (vl : Nat → Int64) (sz : Nat) (hp0 : 0 ≤ (vi 2).toInt ∧ (vi 2).toInt ≤ 9) (hp1 : 0 ≤ (vi 3).toInt ∧ (vi 3).toInt ≤ 9) (hp2 : 0 ≤ (vi 7).toInt ∧ (vi 7).toInt ≤ 200) (hp3 : 0 ≤ (vi 12).toInt ∧ (vi 12).toInt ≤ 9) (hp4 : rg (fi 0) 0 9 0 8) : Met l yX11_bid (xw yX11_bid cX11_bid 2 (some .int)) ({ frames := 3, cells := 0, slots := 0, locals := 91 }) (xP D T [.ref (a 0), .int (vi 0)] sz (pre_X11_bid T a ex fi fl vi vl)) (va_Qi (fun r u => r = u) (xC D (va_A (pre_X11_bid T a ex fi fl vi vl) sz) (fun fj fm vj vm => [((a 0), .inr (11, [.ref (ex 0), .ref (a 1), .ref (ex 1), .ref (ex 2), .ref (a 3), .ref (ex 3), .ref (ex 4), .ref (ex 5), .ref (ex 6), .ref (ex 7), .ref (ex 8), .ref (a 2), .ref (ex 9), .ref (ex 10), .int (vi 1)])), ((a 1), .inr (7, [.int (vi 2), .int (vi 3), .ref (ex 11), .ref (ex 12), .ref (ex 13), .ref (ex 14), .ref (ex 15), .ref (ex 16), .ref (ex 17), .ref (ex 18), .ref (ex 19), .ref (a 5)])), ((a 2), .inr (3, [.ref (a 1), .ref (a 3), .int (vj 0), .int (vi 5), .int (vi 6)])), ((a 3), .inr (2, [.ref (a 1), .int (vi 7), .int (vi 8), .int (vi 9), .int (vi 10), .int (vi 11), .int (vi 12), .ref (ex 20), .ref (ex 21), .ref (ex 22), .ref (ex 23), .ref (a 6), .ref (ex 24), .ref (a 4), .ref (ex 25)])), ((a 4), .inl (T 1, 9, .inl (fi 0))), ((a 5), .inl (T 1, 81, .inl (fi 1))), ((a 6), .inl (T 1, 9, .inl (fi 2)))]) (fun (r : Int32) (fj : Nat → Nat → Int32) (fm : Nat → Nat → Int64) (vj : Nat → Int32) (vm : Nat → Int64) => True)) (va_A (pre_X11_bid T a ex fi fl vi vl) sz)) 0 0 (va_A (pre_X11_bid T a ex fi fl vi vl) sz) := by
  refine xofW (cc := cX11_bid) (maxL := 2) (ret := (some .int)) (by decide) rfl ?_
  intro p e s m args below meth c s₁ R Q hR hQ B hml hv
  obtain ⟨rfl, hsz, hP, hK, hD0⟩ := hv
  have hx := B.exec
  have hb := B.bytes
  have hr := B.returns
  have hts := atoms_spec (ws := xw yX11_bid cX11_bid 2 (some .int)) B.pre
  have htg : ∀ w ∈ xg, w.before _ s = true := fun w h => hts w (List.mem_cons_of_mem _ h)
  have hown : s.vm.findClass RX11 = some m.cls := findClass_of_methodNamed B.named
  have hlocks := B.notSynchronized
  subst hsz
  have hD := hD0.self (sz := s.heap.size)
  generalize hAe : va_A (pre_X11_bid T a ex fi fl vi vl) s.heap.size = A at hD hQ
  have hA : ∀ q : Nat, s.heap.size ≤ q → A q := fun q h => by rw [← hAe]; exact Or.inr h
  have hS : va_S A s.heap s.heap [] := va_S.rf
  replace hP : va_P D vwCl [((a 0), .inr (11, [.ref (ex 0), .ref (a 1), .ref (ex 1), .ref (ex 2), .ref (a 3), .ref (ex 3), .ref (ex 4), .ref (ex 5), .ref (ex 6), .ref (ex 7), .ref (ex 8), .ref (a 2), .ref (ex 9), .ref (ex 10), .int (vi 1)])), ((a 1), .inr (7, [.int (vi 2), .int (vi 3), .ref (ex 11), .ref (ex 12), .ref (ex 13), .ref (ex 14), .ref (ex 15), .ref (ex 16), .ref (ex 17), .ref (ex 18), .ref (ex 19), .ref (a 5)])), ((a 2), .inr (3, [.ref (a 1), .ref (a 3), .int (vi 4), .int (vi 5), .int (vi 6)])), ((a 3), .inr (2, [.ref (a 1), .int (vi 7), .int (vi 8), .int (vi 9), .int (vi 10), .int (vi 11), .int (vi 12), .ref (ex 20), .ref (ex 21), .ref (ex 22), .ref (ex 23), .ref (a 6), .ref (ex 24), .ref (a 4), .ref (ex 25)])), ((a 4), .inl (T 1, 9, .inl (fi 0))), ((a 5), .inl (T 1, 81, .inl (fi 1))), ((a 6), .inl (T 1, 9, .inl (fi 2)))] s.heap := hP
  replace hD : va_D A [((a 0), .inr (11, [.ref (ex 0), .ref (a 1), .ref (ex 1), .ref (ex 2), .ref (a 3), .ref (ex 3), .ref (ex 4), .ref (ex 5), .ref (ex 6), .ref (ex 7), .ref (ex 8), .ref (a 2), .ref (ex 9), .ref (ex 10), .int (vi 1)])), ((a 1), .inr (7, [.int (vi 2), .int (vi 3), .ref (ex 11), .ref (ex 12), .ref (ex 13), .ref (ex 14), .ref (ex 15), .ref (ex 16), .ref (ex 17), .ref (ex 18), .ref (ex 19), .ref (a 5)])), ((a 2), .inr (3, [.ref (a 1), .ref (a 3), .int (vi 4), .int (vi 5), .int (vi 6)])), ((a 3), .inr (2, [.ref (a 1), .int (vi 7), .int (vi 8), .int (vi 9), .int (vi 10), .int (vi 11), .int (vi 12), .ref (ex 20), .ref (ex 21), .ref (ex 22), .ref (ex 23), .ref (a 6), .ref (ex 24), .ref (a 4), .ref (ex 25)])), ((a 4), .inl (T 1, 9, .inl (fi 0))), ((a 5), .inl (T 1, 81, .inl (fi 1))), ((a 6), .inl (T 1, 9, .inl (fi 2)))] := hD
  have hl := lv_entry ([.ref (a 0), .int (vi 0)]) (n := 2) (Nat.le_of_ble_eq_true rfl)
  rw [lg_entry_eq]
  generalize (lg_sl ([.ref (a 0), .int (vi 0)]) ++ List.replicate (2 - (lg_sl ([.ref (a 0), .int (vi 0)])).length) Slot.unset).toArray = ls at hl ⊢
  replace hl : lv_has ls 2 [(0, .ref (a 0)), (1, .int (vi 0))] := hl
  refine lv_aload_n hx hb dX11_bid_0 rfl (lv_at hl 0 rfl) ?_
  refine va_get (D := D) (ci := 11) (v := .ref (a 1)) (C := RX11) (T := TX11) (N := 15) hx hb htg inX11 hown hK.1 hP 0 rfl rfl 1 (by decide) (htg _ kw_497) (fun _ h9 => h9) rfl dX11_bid_1 ?_
  refine lv_iload_n hx hb dX11_bid_4 rfl (lv_at hl 1 rfl) ?_
  obtain ⟨hC9, hPc, hDc, hFc⟩ := xcut (wc := (pre_X7_isName T (xa [(a 1)]) (xa [(ex 11), (ex 12), (ex 13), (ex 14), (ex 15), (ex 16), (ex 17), (ex 18), (ex 19), (a 5)]) (xf []) (xh []) (xv [(vi 0), (vi 2), (vi 3)]) (xl []))) hP hD hS hA [1] (by decide) rfl
  refine va_calli (va_runVN (As := [.int (vi 0)]) (rest := []) ⟨hx, hb, hml, hown, htg⟩ (c_X7_isName l D T (xa [(a 1)]) (xa [(ex 11), (ex 12), (ex 13), (ex 14), (ex 15), (ex 16), (ex 17), (ex 18), (ex 19), (a 5)]) (xf []) (xh []) (xv [(vi 0), (vi 2), (vi 3)]) (xl []) s.heap.size hp0 hp1) ⟨va_cnB 1 htg (xg_ok kw_683) rfl rfl rfl (hK.2.1 _ kn_743) (htg _ kw_7) (by decide +kernel) ⟨by rw [hR]; exact Nat.le_of_ble_eq_true rfl, by rw [hR]; exact Nat.le_of_ble_eq_true rfl⟩, htg _ kw_682, htg _ ks_29⟩ (xpreV hK hPc hDc (va_recv hK.1 hPc (ci := 7) (q0 := 0) rfl rfl)) rfl rfl hl.1 rfl (lv_room (Nat.le_of_ble_eq_true rfl)) dX11_bid_5 ⟨by rw [hR]; exact Nat.le_of_ble_eq_true rfl, by rw [hR]; exact Nat.le_of_ble_eq_true rfl⟩) hS (fun q _ h => hFc q h) hFc (fun r9 u9 t H1 locs ht hvm hw hB hz1 hk1 hS => ?_)
  subst hw
  obtain ⟨fik, flk, vik, vlk, hP1, hD1, hG⟩ := hB
  rw [ht] at hP1
  obtain ⟨hP, hD⟩ := va_join (wr := [((a 0), .inr (11, [.ref (ex 0), .ref (a 1), .ref (ex 1), .ref (ex 2), .ref (a 3), .ref (ex 3), .ref (ex 4), .ref (ex 5), .ref (ex 6), .ref (ex 7), .ref (ex 8), .ref (a 2), .ref (ex 9), .ref (ex 10), .int (vi 1)])), ((a 2), .inr (3, [.ref (a 1), .ref (a 3), .int (vi 4), .int (vi 5), .int (vi 6)])), ((a 3), .inr (2, [.ref (a 1), .int (vi 7), .int (vi 8), .int (vi 9), .int (vi 10), .int (vi 11), .int (vi 12), .ref (ex 20), .ref (ex 21), .ref (ex 22), .ref (ex 23), .ref (a 6), .ref (ex 24), .ref (a 4), .ref (ex 25)])), ((a 4), .inl (T 1, 9, .inl (fi 0))), ((a 5), .inl (T 1, 81, .inl (fi 1))), ((a 6), .inl (T 1, 9, .inl (fi 2)))]) (w1 := [((a 1), .inr (7, [.int (vi 2), .int (vi 3), .ref (ex 11), .ref (ex 12), .ref (ex 13), .ref (ex 14), .ref (ex 15), .ref (ex 16), .ref (ex 17), .ref (ex 18), .ref (ex 19), .ref (a 5)]))]) hP hD [1] [0, 2, 3, 4, 5, 6] hC9 rfl (by decide) (by decide) hk1 hFc hP1 hD1
  obtain ⟨rk, er9⟩ : ∃ z, z = r9 := ⟨_, rfl⟩
  subst er9
  clear hPc hDc hFc hP1 hD1 hk1 hz1 hvm ht hC9
  generalize H1 = H at hP hS ⊢
  obtain ⟨hP, hD⟩ := (show xPD D A [((a 0), .inr (11, [.ref (ex 0), .ref (a 1), .ref (ex 1), .ref (ex 2), .ref (a 3), .ref (ex 3), .ref (ex 4), .ref (ex 5), .ref (ex 6), .ref (ex 7), .ref (ex 8), .ref (a 2), .ref (ex 9), .ref (ex 10), .int (vi 1)])), ((a 2), .inr (3, [.ref (a 1), .ref (a 3), .int (vi 4), .int (vi 5), .int (vi 6)])), ((a 3), .inr (2, [.ref (a 1), .int (vi 7), .int (vi 8), .int (vi 9), .int (vi 10), .int (vi 11), .int (vi 12), .ref (ex 20), .ref (ex 21), .ref (ex 22), .ref (ex 23), .ref (a 6), .ref (ex 24), .ref (a 4), .ref (ex 25)])), ((a 4), .inl (T 1, 9, .inl (fi 0))), ((a 5), .inl (T 1, 81, .inl (fi 1))), ((a 6), .inl (T 1, 9, .inl (fi 2))), ((a 1), .inr (7, [.int (vi 2), .int (vi 3), .ref (ex 11), .ref (ex 12), .ref (ex 13), .ref (ex 14), .ref (ex 15), .ref (ex 16), .ref (ex 17), .ref (ex 18), .ref (ex 19), .ref (a 5)]))] H from ⟨hP, hD⟩)
  obtain ⟨gk_0, -⟩ := hG
  rcases (show (rk = 1 ∧ (0 ≤ (vi 0).toInt ∧ (vi 0).toInt < (vi 2).toInt)) ∨ (rk = 0 ∧ (¬ (0 ≤ (vi 0).toInt ∧ (vi 0).toInt < (vi 2).toInt))) from gk_0) with ⟨er9, gk_0⟩ | ⟨er9, gk_0⟩
  · refine xz_i 1 er9 ?_
    refine lv_if_eq (tgt := 33) hx hb dX11_bid_8 (by decide) (fun c => absurd c (by decide)) (fun _ => ?_)
    refine lv_aload_n hx hb dX11_bid_11 rfl (lv_at hl 0 rfl) ?_
    refine va_get (D := D) (ci := 11) (v := .ref (a 2)) (C := RX11) (T := TX11) (N := 15) hx hb htg inX11 hown hK.1 hP 0 rfl rfl 11 (by decide) (htg _ kw_507) (fun _ h9 => h9) rfl dX11_bid_12 ?_
    refine lv_iload_n hx hb dX11_bid_15 rfl (lv_at hl 1 rfl) ?_
    obtain ⟨hC9, hPc, hDc, hFc⟩ := xcut (wc := (pre_X3_findBidder T (xa [(a 2), (a 3), (a 4), (a 1), (a 5), (a 6)]) (xa [(ex 20), (ex 21), (ex 22), (ex 23), (ex 24), (ex 25), (ex 11), (ex 12), (ex 13), (ex 14), (ex 15), (ex 16), (ex 17), (ex 18), (ex 19)]) (xf [(fi 0), (fi 1), (fi 2)]) (xh []) (xv [(vi 0), (vi 4), (vi 5), (vi 6), (vi 7), (vi 8), (vi 9), (vi 10), (vi 11), (vi 12), (vi 2), (vi 3)]) (xl []))) hP hD hS hA [1, 2, 3, 6, 4, 5] (by decide) rfl
    refine va_calli (va_runVN (As := [.int (vi 0)]) (rest := []) ⟨hx, hb, hml, hown, htg⟩ (c_X3_findBidder l D T (xa [(a 2), (a 3), (a 4), (a 1), (a 5), (a 6)]) (xa [(ex 20), (ex 21), (ex 22), (ex 23), (ex 24), (ex 25), (ex 11), (ex 12), (ex 13), (ex 14), (ex 15), (ex 16), (ex 17), (ex 18), (ex 19)]) (xf [(fi 0), (fi 1), (fi 2)]) (xh []) (xv [(vi 0), (vi 4), (vi 5), (vi 6), (vi 7), (vi 8), (vi 9), (vi 10), (vi 11), (vi 12), (vi 2), (vi 3)]) (xl []) H.size (by show 0 ≤ (vi 0).toInt ∧ (vi 0).toInt ≤ 8; omega) hp2 hp3 (show rg (fi 0) 0 9 0 8 from hp4) hp0 hp1) ⟨va_cnB 1 htg (xg_ok kw_1027) rfl rfl rfl (hK.2.1 _ kn_1024) (htg _ kw_14) (by decide +kernel) ⟨by rw [hR]; exact Nat.le_of_ble_eq_true rfl, by rw [hR]; exact Nat.le_of_ble_eq_true rfl⟩, htg _ kw_1026, htg _ ks_83⟩ (xpreV hK hPc hDc (va_recv hK.1 hPc (ci := 3) (q0 := 0) rfl rfl)) rfl rfl hl.1 rfl (lv_room (Nat.le_of_ble_eq_true rfl)) dX11_bid_16 ⟨by rw [hR]; exact Nat.le_of_ble_eq_true rfl, by rw [hR]; exact Nat.le_of_ble_eq_true rfl⟩) hS (fun q _ h => hFc q h) hFc (fun r9 u9 t H1 locs ht hvm hw hB hz1 hk1 hS => ?_)
    subst hw
    obtain ⟨fik_1, flk_1, vik_1, vlk_1, hP1, hD1, hG⟩ := hB
    rw [ht] at hP1
    obtain ⟨hP, hD⟩ := va_join (wr := [((a 0), .inr (11, [.ref (ex 0), .ref (a 1), .ref (ex 1), .ref (ex 2), .ref (a 3), .ref (ex 3), .ref (ex 4), .ref (ex 5), .ref (ex 6), .ref (ex 7), .ref (ex 8), .ref (a 2), .ref (ex 9), .ref (ex 10), .int (vi 1)]))]) (w1 := [((a 2), .inr (3, [.ref (a 1), .ref (a 3), .int (vik_1 0), .int (vi 5), .int (vi 6)])), ((a 3), .inr (2, [.ref (a 1), .int (vi 7), .int (vi 8), .int (vi 9), .int (vi 10), .int (vi 11), .int (vi 12), .ref (ex 20), .ref (ex 21), .ref (ex 22), .ref (ex 23), .ref (a 6), .ref (ex 24), .ref (a 4), .ref (ex 25)])), ((a 4), .inl (T 1, 9, .inl (fi 0))), ((a 1), .inr (7, [.int (vi 2), .int (vi 3), .ref (ex 11), .ref (ex 12), .ref (ex 13), .ref (ex 14), .ref (ex 15), .ref (ex 16), .ref (ex 17), .ref (ex 18), .ref (ex 19), .ref (a 5)])), ((a 5), .inl (T 1, 81, .inl (fi 1))), ((a 6), .inl (T 1, 9, .inl (fi 2)))]) hP hD [1, 2, 3, 6, 4, 5] [0] hC9 rfl (by decide) (by decide) hk1 hFc hP1 hD1
    obtain ⟨rk_1, er9⟩ : ∃ z, z = r9 := ⟨_, rfl⟩
    subst er9
    clear hPc hDc hFc hP1 hD1 hk1 hz1 hvm ht hC9
    generalize H1 = H at hP hS ⊢
    obtain ⟨hP, hD⟩ := (show xPD D A [((a 0), .inr (11, [.ref (ex 0), .ref (a 1), .ref (ex 1), .ref (ex 2), .ref (a 3), .ref (ex 3), .ref (ex 4), .ref (ex 5), .ref (ex 6), .ref (ex 7), .ref (ex 8), .ref (a 2), .ref (ex 9), .ref (ex 10), .int (vi 1)])), ((a 2), .inr (3, [.ref (a 1), .ref (a 3), .int (vik_1 0), .int (vi 5), .int (vi 6)])), ((a 3), .inr (2, [.ref (a 1), .int (vi 7), .int (vi 8), .int (vi 9), .int (vi 10), .int (vi 11), .int (vi 12), .ref (ex 20), .ref (ex 21), .ref (ex 22), .ref (ex 23), .ref (a 6), .ref (ex 24), .ref (a 4), .ref (ex 25)])), ((a 4), .inl (T 1, 9, .inl (fi 0))), ((a 1), .inr (7, [.int (vi 2), .int (vi 3), .ref (ex 11), .ref (ex 12), .ref (ex 13), .ref (ex 14), .ref (ex 15), .ref (ex 16), .ref (ex 17), .ref (ex 18), .ref (ex 19), .ref (a 5)])), ((a 5), .inl (T 1, 81, .inl (fi 1))), ((a 6), .inl (T 1, 9, .inl (fi 2)))] H from ⟨hP, hD⟩)
    clear hG
    refine lv_iconst (v := (-1)) hx hb dX11_bid_19 (by decide) ?_
    refine lv_icmp_eq (tgt := 33) hx hb dX11_bid_20 (by decide) (fun c20 => ?_) (fun c20 => ?_)
    · have c20 := xeq (k := (-1)) (by decide) c20
      refine lv_iconst (v := (-1)) hx hb dX11_bid_33 (by decide) ?_
      have hP9 := hP.sub (ws' := [((a 0), .inr (11, [.ref (ex 0), .ref (a 1), .ref (ex 1), .ref (ex 2), .ref (a 3), .ref (ex 3), .ref (ex 4), .ref (ex 5), .ref (ex 6), .ref (ex 7), .ref (ex 8), .ref (a 2), .ref (ex 9), .ref (ex 10), .int (vi 1)])), ((a 1), .inr (7, [.int (vi 2), .int (vi 3), .ref (ex 11), .ref (ex 12), .ref (ex 13), .ref (ex 14), .ref (ex 15), .ref (ex 16), .ref (ex 17), .ref (ex 18), .ref (ex 19), .ref (a 5)])), ((a 2), .inr (3, [.ref (a 1), .ref (a 3), .int (vik_1 0), .int (vi 5), .int (vi 6)])), ((a 3), .inr (2, [.ref (a 1), .int (vi 7), .int (vi 8), .int (vi 9), .int (vi 10), .int (vi 11), .int (vi 12), .ref (ex 20), .ref (ex 21), .ref (ex 22), .ref (ex 23), .ref (a 6), .ref (ex 24), .ref (a 4), .ref (ex 25)])), ((a 4), .inl (T 1, 9, .inl (fi 0))), ((a 5), .inl (T 1, 81, .inl (fi 1))), ((a 6), .inl (T 1, 9, .inl (fi 2)))]) [0, 4, 1, 2, 3, 5, 6] rfl
      have hD9 := hD.sub (ws' := [((a 0), .inr (11, [.ref (ex 0), .ref (a 1), .ref (ex 1), .ref (ex 2), .ref (a 3), .ref (ex 3), .ref (ex 4), .ref (ex 5), .ref (ex 6), .ref (ex 7), .ref (ex 8), .ref (a 2), .ref (ex 9), .ref (ex 10), .int (vi 1)])), ((a 1), .inr (7, [.int (vi 2), .int (vi 3), .ref (ex 11), .ref (ex 12), .ref (ex 13), .ref (ex 14), .ref (ex 15), .ref (ex 16), .ref (ex 17), .ref (ex 18), .ref (ex 19), .ref (a 5)])), ((a 2), .inr (3, [.ref (a 1), .ref (a 3), .int (vik_1 0), .int (vi 5), .int (vi 6)])), ((a 3), .inr (2, [.ref (a 1), .int (vi 7), .int (vi 8), .int (vi 9), .int (vi 10), .int (vi 11), .int (vi 12), .ref (ex 20), .ref (ex 21), .ref (ex 22), .ref (ex 23), .ref (a 6), .ref (ex 24), .ref (a 4), .ref (ex 25)])), ((a 4), .inl (T 1, 9, .inl (fi 0))), ((a 5), .inl (T 1, 81, .inl (fi 1))), ((a 6), .inl (T 1, 9, .inl (fi 2)))]) [0, 4, 1, 2, 3, 5, 6] (by decide +kernel) rfl
      rw [hQ]
      exact W.iret (v := (-1)) hx hb hr (fun t ht hW => ⟨⟨(-1), (-1), rfl, rfl, xf [], xh [], xv [(vik_1 0)], xl [], by rw [ht]; exact hP9, hD9, trivial⟩, hS.F ht⟩) hS.2.2 dX11_bid_34
    · have c20 := xne (k := (-1)) (by decide) c20
      refine lv_aload_n hx hb dX11_bid_23 rfl (lv_at hl 0 rfl) ?_
      refine va_get (D := D) (ci := 11) (v := .ref (a 2)) (C := RX11) (T := TX11) (N := 15) hx hb htg inX11 hown hK.1 hP 0 rfl rfl 11 (by decide) (htg _ kw_507) (fun _ h9 => h9) rfl dX11_bid_24 ?_
      refine va_getN (D := D) (ci := 3) (v := .int (vik_1 0)) (C := RX3) (T := TX3) (N := 5) hx hb htg inX3 hown hK.1 hP 1 rfl rfl 2 (by decide) (va_Nw.use rfl (hK.2.1 _ kn_441)) (fun _ h9 => h9) rfl dX11_bid_27 ?_
      refine lv_goto (tgt := 34) hx hb dX11_bid_30 (by decide) ?_
      have hP9 := hP.sub (ws' := [((a 0), .inr (11, [.ref (ex 0), .ref (a 1), .ref (ex 1), .ref (ex 2), .ref (a 3), .ref (ex 3), .ref (ex 4), .ref (ex 5), .ref (ex 6), .ref (ex 7), .ref (ex 8), .ref (a 2), .ref (ex 9), .ref (ex 10), .int (vi 1)])), ((a 1), .inr (7, [.int (vi 2), .int (vi 3), .ref (ex 11), .ref (ex 12), .ref (ex 13), .ref (ex 14), .ref (ex 15), .ref (ex 16), .ref (ex 17), .ref (ex 18), .ref (ex 19), .ref (a 5)])), ((a 2), .inr (3, [.ref (a 1), .ref (a 3), .int (vik_1 0), .int (vi 5), .int (vi 6)])), ((a 3), .inr (2, [.ref (a 1), .int (vi 7), .int (vi 8), .int (vi 9), .int (vi 10), .int (vi 11), .int (vi 12), .ref (ex 20), .ref (ex 21), .ref (ex 22), .ref (ex 23), .ref (a 6), .ref (ex 24), .ref (a 4), .ref (ex 25)])), ((a 4), .inl (T 1, 9, .inl (fi 0))), ((a 5), .inl (T 1, 81, .inl (fi 1))), ((a 6), .inl (T 1, 9, .inl (fi 2)))]) [0, 4, 1, 2, 3, 5, 6] rfl
      have hD9 := hD.sub (ws' := [((a 0), .inr (11, [.ref (ex 0), .ref (a 1), .ref (ex 1), .ref (ex 2), .ref (a 3), .ref (ex 3), .ref (ex 4), .ref (ex 5), .ref (ex 6), .ref (ex 7), .ref (ex 8), .ref (a 2), .ref (ex 9), .ref (ex 10), .int (vi 1)])), ((a 1), .inr (7, [.int (vi 2), .int (vi 3), .ref (ex 11), .ref (ex 12), .ref (ex 13), .ref (ex 14), .ref (ex 15), .ref (ex 16), .ref (ex 17), .ref (ex 18), .ref (ex 19), .ref (a 5)])), ((a 2), .inr (3, [.ref (a 1), .ref (a 3), .int (vik_1 0), .int (vi 5), .int (vi 6)])), ((a 3), .inr (2, [.ref (a 1), .int (vi 7), .int (vi 8), .int (vi 9), .int (vi 10), .int (vi 11), .int (vi 12), .ref (ex 20), .ref (ex 21), .ref (ex 22), .ref (ex 23), .ref (a 6), .ref (ex 24), .ref (a 4), .ref (ex 25)])), ((a 4), .inl (T 1, 9, .inl (fi 0))), ((a 5), .inl (T 1, 81, .inl (fi 1))), ((a 6), .inl (T 1, 9, .inl (fi 2)))]) [0, 4, 1, 2, 3, 5, 6] (by decide +kernel) rfl
      rw [hQ]
      exact W.iret (v := (vik_1 0)) hx hb hr (fun t ht hW => ⟨⟨(vik_1 0), (vik_1 0), rfl, rfl, xf [], xh [], xv [(vik_1 0)], xl [], by rw [ht]; exact hP9, hD9, trivial⟩, hS.F ht⟩) hS.2.2 dX11_bid_34
  · refine xz_i 0 er9 ?_
    refine lv_if_eq (tgt := 33) hx hb dX11_bid_8 (by decide) (fun _ => ?_) (fun c => absurd (by decide) c)
    refine lv_iconst (v := (-1)) hx hb dX11_bid_33 (by decide) ?_
    have hP9 := hP.sub (ws' := [((a 0), .inr (11, [.ref (ex 0), .ref (a 1), .ref (ex 1), .ref (ex 2), .ref (a 3), .ref (ex 3), .ref (ex 4), .ref (ex 5), .ref (ex 6), .ref (ex 7), .ref (ex 8), .ref (a 2), .ref (ex 9), .ref (ex 10), .int (vi 1)])), ((a 1), .inr (7, [.int (vi 2), .int (vi 3), .ref (ex 11), .ref (ex 12), .ref (ex 13), .ref (ex 14), .ref (ex 15), .ref (ex 16), .ref (ex 17), .ref (ex 18), .ref (ex 19), .ref (a 5)])), ((a 2), .inr (3, [.ref (a 1), .ref (a 3), .int (vi 4), .int (vi 5), .int (vi 6)])), ((a 3), .inr (2, [.ref (a 1), .int (vi 7), .int (vi 8), .int (vi 9), .int (vi 10), .int (vi 11), .int (vi 12), .ref (ex 20), .ref (ex 21), .ref (ex 22), .ref (ex 23), .ref (a 6), .ref (ex 24), .ref (a 4), .ref (ex 25)])), ((a 4), .inl (T 1, 9, .inl (fi 0))), ((a 5), .inl (T 1, 81, .inl (fi 1))), ((a 6), .inl (T 1, 9, .inl (fi 2)))]) [0, 6, 1, 2, 3, 4, 5] rfl
    have hD9 := hD.sub (ws' := [((a 0), .inr (11, [.ref (ex 0), .ref (a 1), .ref (ex 1), .ref (ex 2), .ref (a 3), .ref (ex 3), .ref (ex 4), .ref (ex 5), .ref (ex 6), .ref (ex 7), .ref (ex 8), .ref (a 2), .ref (ex 9), .ref (ex 10), .int (vi 1)])), ((a 1), .inr (7, [.int (vi 2), .int (vi 3), .ref (ex 11), .ref (ex 12), .ref (ex 13), .ref (ex 14), .ref (ex 15), .ref (ex 16), .ref (ex 17), .ref (ex 18), .ref (ex 19), .ref (a 5)])), ((a 2), .inr (3, [.ref (a 1), .ref (a 3), .int (vi 4), .int (vi 5), .int (vi 6)])), ((a 3), .inr (2, [.ref (a 1), .int (vi 7), .int (vi 8), .int (vi 9), .int (vi 10), .int (vi 11), .int (vi 12), .ref (ex 20), .ref (ex 21), .ref (ex 22), .ref (ex 23), .ref (a 6), .ref (ex 24), .ref (a 4), .ref (ex 25)])), ((a 4), .inl (T 1, 9, .inl (fi 0))), ((a 5), .inl (T 1, 81, .inl (fi 1))), ((a 6), .inl (T 1, 9, .inl (fi 2)))]) [0, 6, 1, 2, 3, 4, 5] (by decide +kernel) rfl
    rw [hQ]
    exact W.iret (v := (-1)) hx hb hr (fun t ht hW => ⟨⟨(-1), (-1), rfl, rfl, xf [], xh [], xv [(vi 4)], xl [], by rw [ht]; exact hP9, hD9, trivial⟩, hS.F ht⟩) hS.2.2 dX11_bid_34
abbrev pre_X11_must (T : Nat → ClassId) (a ex : Nat → Nat) (fi : Nat → Nat → Int32) (fl : Nat → Nat → Int64) (vi : Nat → Int32) (vl : Nat → Int64) : va_W := [((a 0), .inr (11, [.ref (ex 0), .ref (a 2), .ref (ex 1), .ref (ex 2), .ref (a 1), .ref (ex 3), .ref (ex 4), .ref (ex 5), .ref (ex 6), .ref (ex 7), .ref (ex 8), .ref (ex 9), .ref (ex 10), .ref (ex 11), .int (vi 1)])), ((a 1), .inr (2, [.ref (a 2), .int (vi 2), .int (vi 3), .int (vi 4), .int (vi 5), .int (vi 6), .int (vi 7), .ref (a 3), .ref (ex 12), .ref (ex 13), .ref (a 4), .ref (ex 14), .ref (ex 15), .ref (ex 16), .ref (ex 17)])), ((a 2), .inr (7, [.int (vi 8), .int (vi 9), .ref (ex 18), .ref (ex 19), .ref (ex 20), .ref (ex 21), .ref (ex 22), .ref (ex 23), .ref (ex 24), .ref (ex 25), .ref (a 5), .ref (ex 26)])), ((a 3), .inl (T 1, 9, .inl (fi 0))), ((a 4), .inl (T 1, 9, .inl (fi 1))), ((a 5), .inl (T 1, 9, .inl (fi 2)))]
set_option maxHeartbeats 8000000 in
set_option maxRecDepth 100000 in
theorem c_X11_must (l : Launch) (D : va_G) (T : Nat → ClassId) (a ex : Nat → Nat) (fi : Nat → Nat → Int32) (fl : Nat → Nat → Int64) (vi : Nat → Int32) (vl : Nat → Int64) (sz : Nat) (hp0 : 0 ≤ (vi 2).toInt ∧ (vi 2).toInt ≤ 200) (hp1 : 0 ≤ (vi 7).toInt ∧ (vi 7).toInt ≤ 9) (hp2 : 0 ≤ (vi 8).toInt ∧ (vi 8).toInt ≤ 9) (hp3 : 0 ≤ (vi 9).toInt ∧ (vi 9).toInt ≤ 9) (hp4 : rg (fi 0) 0 9 (-1) 8) (hp5 : rg (fi 1) 0 9 (-1) 8) : Met l yX11_must (xw yX11_must cX11_must 4 (some .int)) ({ frames := 1, cells := 0, slots := 0, locals := 26 }) (xP D T [.ref (a 0), .int (vi 0)] sz (pre_X11_must T a ex fi fl vi vl)) (va_Qi (fun r u => r = u) (xC D (va_A (pre_X11_must T a ex fi fl vi vl) sz) (fun fj fm vj vm => [((a 0), .inr (11, [.ref (ex 0), .ref (a 2), .ref (ex 1), .ref (ex 2), .ref (a 1), .ref (ex 3), .ref (ex 4), .ref (ex 5), .ref (ex 6), .ref (ex 7), .ref (ex 8), .ref (ex 9), .ref (ex 10), .ref (ex 11), .int (vi 1)])), ((a 1), .inr (2, [.ref (a 2), .int (vi 2), .int (vi 3), .int (vi 4), .int (vi 5), .int (vi 6), .int (vi 7), .ref (a 3), .ref (ex 12), .ref (ex 13), .ref (a 4), .ref (ex 14), .ref (ex 15), .ref (ex 16), .ref (ex 17)])), ((a 2), .inr (7, [.int (vi 8), .int (vi 9), .ref (ex 18), .ref (ex 19), .ref (ex 20), .ref (ex 21), .ref (ex 22), .ref (ex 23), .ref (ex 24), .ref (ex 25), .ref (a 5), .ref (ex 26)])), ((a 3), .inl (T 1, 9, .inl (fi 0))), ((a 4), .inl (T 1, 9, .inl (fi 1))), ((a 5), .inl (T 1, 9, .inl (fi 2)))]) (fun (r : Int32) (fj : Nat → Nat → Int32) (fm : Nat → Nat → Int64) (vj : Nat → Int32) (vm : Nat → Int64) => True)) (va_A (pre_X11_must T a ex fi fl vi vl) sz)) 0 0 (va_A (pre_X11_must T a ex fi fl vi vl) sz) := by
  refine xofW (cc := cX11_must) (maxL := 4) (ret := (some .int)) (by decide) rfl ?_
  intro p e s m args below meth c s₁ R Q hR hQ B hml hv
  obtain ⟨rfl, hsz, hP, hK, hD0⟩ := hv
  have hx := B.exec
  have hb := B.bytes
  have hr := B.returns
  have hts := atoms_spec (ws := xw yX11_must cX11_must 4 (some .int)) B.pre
  have htg : ∀ w ∈ xg, w.before _ s = true := fun w h => hts w (List.mem_cons_of_mem _ h)
  have hown : s.vm.findClass RX11 = some m.cls := findClass_of_methodNamed B.named
  have hlocks := B.notSynchronized
  subst hsz
  have hD := hD0.self (sz := s.heap.size)
  generalize hAe : va_A (pre_X11_must T a ex fi fl vi vl) s.heap.size = A at hD hQ
  have hA : ∀ q : Nat, s.heap.size ≤ q → A q := fun q h => by rw [← hAe]; exact Or.inr h
  have hS : va_S A s.heap s.heap [] := va_S.rf
  replace hP : va_P D vwCl [((a 0), .inr (11, [.ref (ex 0), .ref (a 2), .ref (ex 1), .ref (ex 2), .ref (a 1), .ref (ex 3), .ref (ex 4), .ref (ex 5), .ref (ex 6), .ref (ex 7), .ref (ex 8), .ref (ex 9), .ref (ex 10), .ref (ex 11), .int (vi 1)])), ((a 1), .inr (2, [.ref (a 2), .int (vi 2), .int (vi 3), .int (vi 4), .int (vi 5), .int (vi 6), .int (vi 7), .ref (a 3), .ref (ex 12), .ref (ex 13), .ref (a 4), .ref (ex 14), .ref (ex 15), .ref (ex 16), .ref (ex 17)])), ((a 2), .inr (7, [.int (vi 8), .int (vi 9), .ref (ex 18), .ref (ex 19), .ref (ex 20), .ref (ex 21), .ref (ex 22), .ref (ex 23), .ref (ex 24), .ref (ex 25), .ref (a 5), .ref (ex 26)])), ((a 3), .inl (T 1, 9, .inl (fi 0))), ((a 4), .inl (T 1, 9, .inl (fi 1))), ((a 5), .inl (T 1, 9, .inl (fi 2)))] s.heap := hP
  replace hD : va_D A [((a 0), .inr (11, [.ref (ex 0), .ref (a 2), .ref (ex 1), .ref (ex 2), .ref (a 1), .ref (ex 3), .ref (ex 4), .ref (ex 5), .ref (ex 6), .ref (ex 7), .ref (ex 8), .ref (ex 9), .ref (ex 10), .ref (ex 11), .int (vi 1)])), ((a 1), .inr (2, [.ref (a 2), .int (vi 2), .int (vi 3), .int (vi 4), .int (vi 5), .int (vi 6), .int (vi 7), .ref (a 3), .ref (ex 12), .ref (ex 13), .ref (a 4), .ref (ex 14), .ref (ex 15), .ref (ex 16), .ref (ex 17)])), ((a 2), .inr (7, [.int (vi 8), .int (vi 9), .ref (ex 18), .ref (ex 19), .ref (ex 20), .ref (ex 21), .ref (ex 22), .ref (ex 23), .ref (ex 24), .ref (ex 25), .ref (a 5), .ref (ex 26)])), ((a 3), .inl (T 1, 9, .inl (fi 0))), ((a 4), .inl (T 1, 9, .inl (fi 1))), ((a 5), .inl (T 1, 9, .inl (fi 2)))] := hD
  have hl := lv_entry ([.ref (a 0), .int (vi 0)]) (n := 4) (Nat.le_of_ble_eq_true rfl)
  rw [lg_entry_eq]
  generalize (lg_sl ([.ref (a 0), .int (vi 0)]) ++ List.replicate (4 - (lg_sl ([.ref (a 0), .int (vi 0)])).length) Slot.unset).toArray = ls at hl ⊢
  replace hl : lv_has ls 4 [(0, .ref (a 0)), (1, .int (vi 0))] := hl
  refine lv_iload_n hx hb dX11_must_0 rfl (lv_at hl 1 rfl) ?_
  refine lv_if_lt (tgt := 11) hx hb dX11_must_1 (by decide) (fun c1 => ?_) (fun c1 => ?_)
  · have c1 := xlt (k := 0) (by decide) c1
    refine lv_iconst (v := (-1)) hx hb dX11_must_11 (by decide) ?_
    have hP9 := hP.sub (ws' := [((a 0), .inr (11, [.ref (ex 0), .ref (a 2), .ref (ex 1), .ref (ex 2), .ref (a 1), .ref (ex 3), .ref (ex 4), .ref (ex 5), .ref (ex 6), .ref (ex 7), .ref (ex 8), .ref (ex 9), .ref (ex 10), .ref (ex 11), .int (vi 1)])), ((a 1), .inr (2, [.ref (a 2), .int (vi 2), .int (vi 3), .int (vi 4), .int (vi 5), .int (vi 6), .int (vi 7), .ref (a 3), .ref (ex 12), .ref (ex 13), .ref (a 4), .ref (ex 14), .ref (ex 15), .ref (ex 16), .ref (ex 17)])), ((a 2), .inr (7, [.int (vi 8), .int (vi 9), .ref (ex 18), .ref (ex 19), .ref (ex 20), .ref (ex 21), .ref (ex 22), .ref (ex 23), .ref (ex 24), .ref (ex 25), .ref (a 5), .ref (ex 26)])), ((a 3), .inl (T 1, 9, .inl (fi 0))), ((a 4), .inl (T 1, 9, .inl (fi 1))), ((a 5), .inl (T 1, 9, .inl (fi 2)))]) [0, 1, 2, 3, 4, 5] rfl
    have hD9 := hD.sub (ws' := [((a 0), .inr (11, [.ref (ex 0), .ref (a 2), .ref (ex 1), .ref (ex 2), .ref (a 1), .ref (ex 3), .ref (ex 4), .ref (ex 5), .ref (ex 6), .ref (ex 7), .ref (ex 8), .ref (ex 9), .ref (ex 10), .ref (ex 11), .int (vi 1)])), ((a 1), .inr (2, [.ref (a 2), .int (vi 2), .int (vi 3), .int (vi 4), .int (vi 5), .int (vi 6), .int (vi 7), .ref (a 3), .ref (ex 12), .ref (ex 13), .ref (a 4), .ref (ex 14), .ref (ex 15), .ref (ex 16), .ref (ex 17)])), ((a 2), .inr (7, [.int (vi 8), .int (vi 9), .ref (ex 18), .ref (ex 19), .ref (ex 20), .ref (ex 21), .ref (ex 22), .ref (ex 23), .ref (ex 24), .ref (ex 25), .ref (a 5), .ref (ex 26)])), ((a 3), .inl (T 1, 9, .inl (fi 0))), ((a 4), .inl (T 1, 9, .inl (fi 1))), ((a 5), .inl (T 1, 9, .inl (fi 2)))]) [0, 1, 2, 3, 4, 5] (by decide +kernel) rfl
    rw [hQ]
    exact W.iret (v := (-1)) hx hb hr (fun t ht hW => ⟨⟨(-1), (-1), rfl, rfl, xf [], xh [], xv [], xl [], by rw [ht]; exact hP9, hD9, trivial⟩, hS.F ht⟩) hS.2.2 dX11_must_12
  · have c1 := xnlt (k := 0) (by decide) c1
    refine lv_iload_n hx hb dX11_must_4 rfl (lv_at hl 1 rfl) ?_
    refine lv_sipush (v := 200) hx hb dX11_must_5 (by decide) ?_
    refine lv_icmp_lt (tgt := 13) hx hb dX11_must_8 (by decide) (fun c8 => ?_) (fun c8 => ?_)
    · have c8 := xlt (k := 200) (by decide) c8
      refine lv_aload_n hx hb dX11_must_13 rfl (lv_at hl 0 rfl) ?_
      refine va_get (D := D) (ci := 11) (v := .ref (a 1)) (C := RX11) (T := TX11) (N := 15) hx hb htg inX11 hown hK.1 hP 0 rfl rfl 4 (by decide) (htg _ kw_500) (fun _ h9 => h9) rfl dX11_must_14 ?_
      obtain ⟨hC9, hPc, hDc, hFc⟩ := xcut (wc := (pre_X2_freeNames T (xa [(a 1), (a 2), (a 3)]) (xa [(ex 12), (ex 13), (a 4), (ex 14), (ex 15), (ex 16), (ex 17), (ex 18), (ex 19), (ex 20), (ex 21), (ex 22), (ex 23), (ex 24), (ex 25), (a 5), (ex 26)]) (xf [(fi 0)]) (xh []) (xv [(vi 2), (vi 3), (vi 4), (vi 5), (vi 6), (vi 7), (vi 8), (vi 9)]) (xl []))) hP hD hS hA [1, 2, 3] (by decide) rfl
      refine va_calli (va_runVN (As := []) (rest := []) ⟨hx, hb, hml, hown, htg⟩ (c_X2_freeNames l D T (xa [(a 1), (a 2), (a 3)]) (xa [(ex 12), (ex 13), (a 4), (ex 14), (ex 15), (ex 16), (ex 17), (ex 18), (ex 19), (ex 20), (ex 21), (ex 22), (ex 23), (ex 24), (ex 25), (a 5), (ex 26)]) (xf [(fi 0)]) (xh []) (xv [(vi 2), (vi 3), (vi 4), (vi 5), (vi 6), (vi 7), (vi 8), (vi 9)]) (xl []) s.heap.size hp0 hp1 hp2 hp3 (show rg (fi 0) 0 9 (-1) 8 from hp4)) ⟨va_cnB 0 htg (xg_ok kw_773) rfl rfl rfl (hK.2.1 _ kn_770) (htg _ kw_9) (by decide +kernel) ⟨by rw [hR]; exact Nat.le_of_ble_eq_true rfl, by rw [hR]; exact Nat.le_of_ble_eq_true rfl⟩, htg _ kw_772, htg _ ks_41⟩ (xpreV hK hPc hDc (va_recv hK.1 hPc (ci := 2) (q0 := 0) rfl rfl)) rfl rfl hl.1 rfl (lv_room (Nat.le_of_ble_eq_true rfl)) dX11_must_17 ⟨by rw [hR]; exact Nat.le_of_ble_eq_true rfl, by rw [hR]; exact Nat.le_of_ble_eq_true rfl⟩) hS (fun q _ h => hFc q h) hFc (fun r9 u9 t H1 locs ht hvm hw hB hz1 hk1 hS => ?_)
      subst hw
      obtain ⟨fik, flk, vik, vlk, hP1, hD1, hG⟩ := hB
      rw [ht] at hP1
      obtain ⟨hP, hD⟩ := va_join (wr := [((a 0), .inr (11, [.ref (ex 0), .ref (a 2), .ref (ex 1), .ref (ex 2), .ref (a 1), .ref (ex 3), .ref (ex 4), .ref (ex 5), .ref (ex 6), .ref (ex 7), .ref (ex 8), .ref (ex 9), .ref (ex 10), .ref (ex 11), .int (vi 1)])), ((a 4), .inl (T 1, 9, .inl (fi 1))), ((a 5), .inl (T 1, 9, .inl (fi 2)))]) (w1 := [((a 1), .inr (2, [.ref (a 2), .int (vi 2), .int (vi 3), .int (vi 4), .int (vi 5), .int (vi 6), .int (vi 7), .ref (a 3), .ref (ex 12), .ref (ex 13), .ref (a 4), .ref (ex 14), .ref (ex 15), .ref (ex 16), .ref (ex 17)])), ((a 2), .inr (7, [.int (vi 8), .int (vi 9), .ref (ex 18), .ref (ex 19), .ref (ex 20), .ref (ex 21), .ref (ex 22), .ref (ex 23), .ref (ex 24), .ref (ex 25), .ref (a 5), .ref (ex 26)])), ((a 3), .inl (T 1, 9, .inl (fi 0)))]) hP hD [1, 2, 3] [0, 4, 5] hC9 rfl (by decide) (by decide) hk1 hFc hP1 hD1
      obtain ⟨rk, er9⟩ : ∃ z, z = r9 := ⟨_, rfl⟩
      subst er9
      clear hPc hDc hFc hP1 hD1 hk1 hz1 hvm ht hC9
      generalize H1 = H at hP hS ⊢
      obtain ⟨hP, hD⟩ := (show xPD D A [((a 0), .inr (11, [.ref (ex 0), .ref (a 2), .ref (ex 1), .ref (ex 2), .ref (a 1), .ref (ex 3), .ref (ex 4), .ref (ex 5), .ref (ex 6), .ref (ex 7), .ref (ex 8), .ref (ex 9), .ref (ex 10), .ref (ex 11), .int (vi 1)])), ((a 4), .inl (T 1, 9, .inl (fi 1))), ((a 5), .inl (T 1, 9, .inl (fi 2))), ((a 1), .inr (2, [.ref (a 2), .int (vi 2), .int (vi 3), .int (vi 4), .int (vi 5), .int (vi 6), .int (vi 7), .ref (a 3), .ref (ex 12), .ref (ex 13), .ref (a 4), .ref (ex 14), .ref (ex 15), .ref (ex 16), .ref (ex 17)])), ((a 2), .inr (7, [.int (vi 8), .int (vi 9), .ref (ex 18), .ref (ex 19), .ref (ex 20), .ref (ex 21), .ref (ex 22), .ref (ex 23), .ref (ex 24), .ref (ex 25), .ref (a 5), .ref (ex 26)])), ((a 3), .inl (T 1, 9, .inl (fi 0)))] H from ⟨hP, hD⟩)
      clear hG
      refine lv_istore_n (lv' := [(2, .int rk), (0, .ref (a 0)), (1, .int (vi 0))]) hx hb dX11_must_20 rfl hl (by decide) rfl (fun ls hl => ?_)
      refine lv_iconst (v := 0) hx hb dX11_must_21 (by decide) ?_
      refine lv_istore_n (lv' := [(3, .int 0), (2, .int rk), (0, .ref (a 0)), (1, .int (vi 0))]) hx hb dX11_must_22 rfl hl (by decide) rfl (fun ls hl => ?_)
      have lp : ∀ (kn : Nat) (w3 : Int32) (w2 : Int32) (H : Heap) (locs : List Loc) (ls : Array Slot), (0 ≤ w3.toInt) → (2147483648 - w3.toInt).toNat = kn → va_P D vwCl [((a 0), .inr (11, [.ref (ex 0), .ref (a 2), .ref (ex 1), .ref (ex 2), .ref (a 1), .ref (ex 3), .ref (ex 4), .ref (ex 5), .ref (ex 6), .ref (ex 7), .ref (ex 8), .ref (ex 9), .ref (ex 10), .ref (ex 11), .int (vi 1)])), ((a 4), .inl (T 1, 9, .inl (fi 1))), ((a 5), .inl (T 1, 9, .inl (fi 2))), ((a 1), .inr (2, [.ref (a 2), .int (vi 2), .int (vi 3), .int (vi 4), .int (vi 5), .int (vi 6), .int (vi 7), .ref (a 3), .ref (ex 12), .ref (ex 13), .ref (a 4), .ref (ex 14), .ref (ex 15), .ref (ex 16), .ref (ex 17)])), ((a 2), .inr (7, [.int (vi 8), .int (vi 9), .ref (ex 18), .ref (ex 19), .ref (ex 20), .ref (ex 21), .ref (ex 22), .ref (ex 23), .ref (ex 24), .ref (ex 25), .ref (a 5), .ref (ex 26)])), ((a 3), .inl (T 1, 9, .inl (fi 0)))] H → va_D A [((a 0), .inr (11, [.ref (ex 0), .ref (a 2), .ref (ex 1), .ref (ex 2), .ref (a 1), .ref (ex 3), .ref (ex 4), .ref (ex 5), .ref (ex 6), .ref (ex 7), .ref (ex 8), .ref (ex 9), .ref (ex 10), .ref (ex 11), .int (vi 1)])), ((a 4), .inl (T 1, 9, .inl (fi 1))), ((a 5), .inl (T 1, 9, .inl (fi 2))), ((a 1), .inr (2, [.ref (a 2), .int (vi 2), .int (vi 3), .int (vi 4), .int (vi 5), .int (vi 6), .int (vi 7), .ref (a 3), .ref (ex 12), .ref (ex 13), .ref (a 4), .ref (ex 14), .ref (ex 15), .ref (ex 16), .ref (ex 17)])), ((a 2), .inr (7, [.int (vi 8), .int (vi 9), .ref (ex 18), .ref (ex 19), .ref (ex 20), .ref (ex 21), .ref (ex 22), .ref (ex 23), .ref (ex 24), .ref (ex 25), .ref (a 5), .ref (ex 26)])), ((a 3), .inl (T 1, 9, .inl (fi 0)))] → va_S A s.heap H locs → lv_has ls 4 [(3, .int w3), (2, .int w2), (0, .ref (a 0)), (1, .int (vi 0))] → W p l e R s m ([.ref (a 0), .int (vi 0)] : List Value).toArray below meth c H locs 0 0 Q (F0 m 23 ls []) := by
        intro kn
        induction kn using Nat.strongRecOn with
        | _ kn ih =>
          intro w3 w2 H locs ls hi hm hP hD hS hl
          refine lv_iload_n hx hb dX11_must_23 rfl (lv_at hl 0 rfl) ?_
          refine lv_aload_n hx hb dX11_must_24 rfl (lv_at hl 2 rfl) ?_
          refine va_get (D := D) (ci := 11) (v := .ref (a 2)) (C := RX11) (T := TX11) (N := 15) hx hb htg inX11 hown hK.1 hP 0 rfl rfl 1 (by decide) (htg _ kw_497) (fun _ h9 => h9) rfl dX11_must_25 ?_
          refine va_getN (D := D) (ci := 7) (v := .int (vi 9)) (C := RX7) (T := TX7) (N := 12) hx hb htg inX7 hown hK.1 hP 4 rfl rfl 1 (by decide) (va_Nw.use rfl (hK.2.1 _ kn_167)) (fun _ h9 => h9) rfl dX11_must_28 ?_
          refine lv_icmp_ge (tgt := 93) hx hb dX11_must_31 (by decide) (fun c31 => ?_) (fun c31 => ?_)
          · have c31 := Int32.le_iff_toInt_le.mp c31
            have rc31 := xrng w3; have qc31 := xrng (vi 9)
            refine lv_iload_n hx hb dX11_must_93 rfl (lv_at hl 1 rfl) ?_
            have hP9 := hP.sub (ws' := [((a 0), .inr (11, [.ref (ex 0), .ref (a 2), .ref (ex 1), .ref (ex 2), .ref (a 1), .ref (ex 3), .ref (ex 4), .ref (ex 5), .ref (ex 6), .ref (ex 7), .ref (ex 8), .ref (ex 9), .ref (ex 10), .ref (ex 11), .int (vi 1)])), ((a 1), .inr (2, [.ref (a 2), .int (vi 2), .int (vi 3), .int (vi 4), .int (vi 5), .int (vi 6), .int (vi 7), .ref (a 3), .ref (ex 12), .ref (ex 13), .ref (a 4), .ref (ex 14), .ref (ex 15), .ref (ex 16), .ref (ex 17)])), ((a 2), .inr (7, [.int (vi 8), .int (vi 9), .ref (ex 18), .ref (ex 19), .ref (ex 20), .ref (ex 21), .ref (ex 22), .ref (ex 23), .ref (ex 24), .ref (ex 25), .ref (a 5), .ref (ex 26)])), ((a 3), .inl (T 1, 9, .inl (fi 0))), ((a 4), .inl (T 1, 9, .inl (fi 1))), ((a 5), .inl (T 1, 9, .inl (fi 2)))]) [0, 3, 4, 5, 1, 2] rfl
            have hD9 := hD.sub (ws' := [((a 0), .inr (11, [.ref (ex 0), .ref (a 2), .ref (ex 1), .ref (ex 2), .ref (a 1), .ref (ex 3), .ref (ex 4), .ref (ex 5), .ref (ex 6), .ref (ex 7), .ref (ex 8), .ref (ex 9), .ref (ex 10), .ref (ex 11), .int (vi 1)])), ((a 1), .inr (2, [.ref (a 2), .int (vi 2), .int (vi 3), .int (vi 4), .int (vi 5), .int (vi 6), .int (vi 7), .ref (a 3), .ref (ex 12), .ref (ex 13), .ref (a 4), .ref (ex 14), .ref (ex 15), .ref (ex 16), .ref (ex 17)])), ((a 2), .inr (7, [.int (vi 8), .int (vi 9), .ref (ex 18), .ref (ex 19), .ref (ex 20), .ref (ex 21), .ref (ex 22), .ref (ex 23), .ref (ex 24), .ref (ex 25), .ref (a 5), .ref (ex 26)])), ((a 3), .inl (T 1, 9, .inl (fi 0))), ((a 4), .inl (T 1, 9, .inl (fi 1))), ((a 5), .inl (T 1, 9, .inl (fi 2)))]) [0, 3, 4, 5, 1, 2] (by decide +kernel) rfl
            rw [hQ]
            exact W.iret (v := w2) hx hb hr (fun t ht hW => ⟨⟨w2, w2, rfl, rfl, xf [], xh [], xv [], xl [], by rw [ht]; exact hP9, hD9, trivial⟩, hS.F ht⟩) hS.2.2 dX11_must_94
          · have c31 := (mt Int32.le_iff_toInt_le.mpr c31)
            have rc31 := xrng w3; have qc31 := xrng (vi 9)
            refine lv_aload_n hx hb dX11_must_34 rfl (lv_at hl 2 rfl) ?_
            refine va_get (D := D) (ci := 11) (v := .ref (a 1)) (C := RX11) (T := TX11) (N := 15) hx hb htg inX11 hown hK.1 hP 0 rfl rfl 4 (by decide) (htg _ kw_500) (fun _ h9 => h9) rfl dX11_must_35 ?_
            refine va_getN (D := D) (ci := 2) (v := .ref (a 4)) (C := RX2) (T := TX2) (N := 15) hx hb htg inX2 hown hK.1 hP 3 rfl rfl 10 (by decide) (va_Nw.use rfl (hK.2.1 _ kn_269)) (fun _ h9 => h9) rfl dX11_must_38 ?_
            refine lv_iload_n hx hb dX11_must_41 rfl (lv_at hl 0 rfl) ?_
            refine va_iald hx hb hK.1 hP 1 1 rfl rfl (vp_in_iff.mpr (by omega)) dX11_must_42 ?_
            have hv := rg_at hp5 (i := w3) (by omega) (by omega)
            refine lv_iconst (v := (-1)) hx hb dX11_must_43 (by decide) ?_
            refine lv_icmp_eq (tgt := 87) hx hb dX11_must_44 (by decide) (fun c44 => ?_) (fun c44 => ?_)
            · have c44 := xeq (k := (-1)) (by decide) c44
              obtain ⟨i87, ei87⟩ : ∃ z : Int32, w3 + Int32.ofInt 1 = z := ⟨_, rfl⟩
              have ti87 : i87.toInt = w3.toInt + 1 := by rw [← ei87]; have h79 := xrng w3; exact xadd rfl (by decide) (by omega) (by omega)
              refine lv_iinc (v := i87) (lv' := [(3, .int i87), (2, .int w2), (0, .ref (a 0)), (1, .int (vi 0))]) hx hb dX11_must_87 hl (k := 0) rfl ei87 (by decide) rfl (fun ls hl => ?_)
              refine lv_goto (tgt := 23) hx hb dX11_must_90 (by decide) ?_
              exact ih _ (by omega) i87 w2 _ _ _ (by show 0 ≤ i87.toInt; omega) rfl (hP.sub [0, 1, 2, 3, 4, 5] rfl) (hD.sub [0, 1, 2, 3, 4, 5] (by decide) rfl) hS (lv_sub hl [0, 1, 2, 3] rfl)
            · have c44 := xne (k := (-1)) (by decide) c44
              refine lv_aload_n hx hb dX11_must_47 rfl (lv_at hl 2 rfl) ?_
              refine va_get (D := D) (ci := 11) (v := .ref (a 2)) (C := RX11) (T := TX11) (N := 15) hx hb htg inX11 hown hK.1 hP 0 rfl rfl 1 (by decide) (htg _ kw_497) (fun _ h9 => h9) rfl dX11_must_48 ?_
              refine va_getN (D := D) (ci := 7) (v := .ref (a 5)) (C := RX7) (T := TX7) (N := 12) hx hb htg inX7 hown hK.1 hP 4 rfl rfl 10 (by decide) (va_Nw.use rfl (hK.2.1 _ kn_193)) (fun _ h9 => h9) rfl dX11_must_51 ?_
              refine lv_iload_n hx hb dX11_must_54 rfl (lv_at hl 0 rfl) ?_
              refine va_iald hx hb hK.1 hP 2 1 rfl rfl (vp_in_iff.mpr (by omega)) dX11_must_55 ?_
              refine lv_iconst (v := (-1)) hx hb dX11_must_56 (by decide) ?_
              refine lv_icmp_eq (tgt := 87) hx hb dX11_must_57 (by decide) (fun c57 => ?_) (fun c57 => ?_)
              · have c57 := xeq (k := (-1)) (by decide) c57
                obtain ⟨i87_1, ei87_1⟩ : ∃ z : Int32, w3 + Int32.ofInt 1 = z := ⟨_, rfl⟩
                have ti87_1 : i87_1.toInt = w3.toInt + 1 := by rw [← ei87_1]; have h79 := xrng w3; exact xadd rfl (by decide) (by omega) (by omega)
                refine lv_iinc (v := i87_1) (lv' := [(3, .int i87_1), (2, .int w2), (0, .ref (a 0)), (1, .int (vi 0))]) hx hb dX11_must_87 hl (k := 0) rfl ei87_1 (by decide) rfl (fun ls hl => ?_)
                refine lv_goto (tgt := 23) hx hb dX11_must_90 (by decide) ?_
                exact ih _ (by omega) i87_1 w2 _ _ _ (by show 0 ≤ i87_1.toInt; omega) rfl (hP.sub [0, 1, 2, 3, 4, 5] rfl) (hD.sub [0, 1, 2, 3, 4, 5] (by decide) rfl) hS (lv_sub hl [0, 1, 2, 3] rfl)
              · have c57 := xne (k := (-1)) (by decide) c57
                refine lv_aload_n hx hb dX11_must_60 rfl (lv_at hl 2 rfl) ?_
                refine va_get (D := D) (ci := 11) (v := .ref (a 2)) (C := RX11) (T := TX11) (N := 15) hx hb htg inX11 hown hK.1 hP 0 rfl rfl 1 (by decide) (htg _ kw_497) (fun _ h9 => h9) rfl dX11_must_61 ?_
                refine va_getN (D := D) (ci := 7) (v := .ref (a 5)) (C := RX7) (T := TX7) (N := 12) hx hb htg inX7 hown hK.1 hP 4 rfl rfl 10 (by decide) (va_Nw.use rfl (hK.2.1 _ kn_193)) (fun _ h9 => h9) rfl dX11_must_64 ?_
                refine lv_iload_n hx hb dX11_must_67 rfl (lv_at hl 0 rfl) ?_
                refine va_iald hx hb hK.1 hP 2 1 rfl rfl (vp_in_iff.mpr (by omega)) dX11_must_68 ?_
                refine lv_iload_n hx hb dX11_must_69 rfl (lv_at hl 3 rfl) ?_
                refine lv_icmp_gt (tgt := 87) hx hb dX11_must_70 (by decide) (fun c70 => ?_) (fun c70 => ?_)
                · have c70 := Int32.lt_iff_toInt_lt.mp c70
                  have rc70 := xrng ((fi 2) w3.toNatClampNeg); have qc70 := xrng (vi 0)
                  obtain ⟨i87_2, ei87_2⟩ : ∃ z : Int32, w3 + Int32.ofInt 1 = z := ⟨_, rfl⟩
                  have ti87_2 : i87_2.toInt = w3.toInt + 1 := by rw [← ei87_2]; have h79 := xrng w3; exact xadd rfl (by decide) (by omega) (by omega)
                  refine lv_iinc (v := i87_2) (lv' := [(3, .int i87_2), (2, .int w2), (0, .ref (a 0)), (1, .int (vi 0))]) hx hb dX11_must_87 hl (k := 0) rfl ei87_2 (by decide) rfl (fun ls hl => ?_)
                  refine lv_goto (tgt := 23) hx hb dX11_must_90 (by decide) ?_
                  exact ih _ (by omega) i87_2 w2 _ _ _ (by show 0 ≤ i87_2.toInt; omega) rfl (hP.sub [0, 1, 2, 3, 4, 5] rfl) (hD.sub [0, 1, 2, 3, 4, 5] (by decide) rfl) hS (lv_sub hl [0, 1, 2, 3] rfl)
                · have c70 := (mt Int32.lt_iff_toInt_lt.mpr c70)
                  have rc70 := xrng ((fi 2) w3.toNatClampNeg); have qc70 := xrng (vi 0)
                  refine lv_iload_n hx hb dX11_must_73 rfl (lv_at hl 1 rfl) ?_
                  refine lv_iconst (v := 1) hx hb dX11_must_74 (by decide) ?_
                  refine lv_aload_n hx hb dX11_must_75 rfl (lv_at hl 2 rfl) ?_
                  refine va_get (D := D) (ci := 11) (v := .ref (a 1)) (C := RX11) (T := TX11) (N := 15) hx hb htg inX11 hown hK.1 hP 0 rfl rfl 4 (by decide) (htg _ kw_500) (fun _ h9 => h9) rfl dX11_must_76 ?_
                  refine va_getN (D := D) (ci := 2) (v := .ref (a 4)) (C := RX2) (T := TX2) (N := 15) hx hb htg inX2 hown hK.1 hP 3 rfl rfl 10 (by decide) (va_Nw.use rfl (hK.2.1 _ kn_269)) (fun _ h9 => h9) rfl dX11_must_79 ?_
                  refine lv_iload_n hx hb dX11_must_82 rfl (lv_at hl 0 rfl) ?_
                  refine va_iald hx hb hK.1 hP 1 1 rfl rfl (vp_in_iff.mpr (by omega)) dX11_must_83 ?_
                  refine lv_ishl hx hb dX11_must_84 ?_
                  refine lv_topi (fun z84 ez84 => ?_)
                  refine lv_ior hx hb dX11_must_85 ?_
                  refine lv_topi (fun z85 ez85 => ?_)
                  refine lv_istore_n (lv' := [(2, .int z85), (3, .int w3), (0, .ref (a 0)), (1, .int (vi 0))]) hx hb dX11_must_86 rfl hl (by decide) rfl (fun ls hl => ?_)
                  obtain ⟨i87_3, ei87_3⟩ : ∃ z : Int32, w3 + Int32.ofInt 1 = z := ⟨_, rfl⟩
                  have ti87_3 : i87_3.toInt = w3.toInt + 1 := by rw [← ei87_3]; have h79 := xrng w3; exact xadd rfl (by decide) (by omega) (by omega)
                  refine lv_iinc (v := i87_3) (lv' := [(3, .int i87_3), (2, .int z85), (0, .ref (a 0)), (1, .int (vi 0))]) hx hb dX11_must_87 hl (k := 1) rfl ei87_3 (by decide) rfl (fun ls hl => ?_)
                  refine lv_goto (tgt := 23) hx hb dX11_must_90 (by decide) ?_
                  exact ih _ (by omega) i87_3 z85 _ _ _ (by show 0 ≤ i87_3.toInt; omega) rfl (hP.sub [0, 1, 2, 3, 4, 5] rfl) (hD.sub [0, 1, 2, 3, 4, 5] (by decide) rfl) hS (lv_sub hl [0, 1, 2, 3] rfl)
      exact lp _ (0 : Int32) rk _ _ _ (show 0 ≤ (0 : Int32).toInt by decide) rfl hP hD hS hl
    · have c8 := xnlt (k := 200) (by decide) c8
      refine lv_iconst (v := (-1)) hx hb dX11_must_11 (by decide) ?_
      have hP9 := hP.sub (ws' := [((a 0), .inr (11, [.ref (ex 0), .ref (a 2), .ref (ex 1), .ref (ex 2), .ref (a 1), .ref (ex 3), .ref (ex 4), .ref (ex 5), .ref (ex 6), .ref (ex 7), .ref (ex 8), .ref (ex 9), .ref (ex 10), .ref (ex 11), .int (vi 1)])), ((a 1), .inr (2, [.ref (a 2), .int (vi 2), .int (vi 3), .int (vi 4), .int (vi 5), .int (vi 6), .int (vi 7), .ref (a 3), .ref (ex 12), .ref (ex 13), .ref (a 4), .ref (ex 14), .ref (ex 15), .ref (ex 16), .ref (ex 17)])), ((a 2), .inr (7, [.int (vi 8), .int (vi 9), .ref (ex 18), .ref (ex 19), .ref (ex 20), .ref (ex 21), .ref (ex 22), .ref (ex 23), .ref (ex 24), .ref (ex 25), .ref (a 5), .ref (ex 26)])), ((a 3), .inl (T 1, 9, .inl (fi 0))), ((a 4), .inl (T 1, 9, .inl (fi 1))), ((a 5), .inl (T 1, 9, .inl (fi 2)))]) [0, 1, 2, 3, 4, 5] rfl
      have hD9 := hD.sub (ws' := [((a 0), .inr (11, [.ref (ex 0), .ref (a 2), .ref (ex 1), .ref (ex 2), .ref (a 1), .ref (ex 3), .ref (ex 4), .ref (ex 5), .ref (ex 6), .ref (ex 7), .ref (ex 8), .ref (ex 9), .ref (ex 10), .ref (ex 11), .int (vi 1)])), ((a 1), .inr (2, [.ref (a 2), .int (vi 2), .int (vi 3), .int (vi 4), .int (vi 5), .int (vi 6), .int (vi 7), .ref (a 3), .ref (ex 12), .ref (ex 13), .ref (a 4), .ref (ex 14), .ref (ex 15), .ref (ex 16), .ref (ex 17)])), ((a 2), .inr (7, [.int (vi 8), .int (vi 9), .ref (ex 18), .ref (ex 19), .ref (ex 20), .ref (ex 21), .ref (ex 22), .ref (ex 23), .ref (ex 24), .ref (ex 25), .ref (a 5), .ref (ex 26)])), ((a 3), .inl (T 1, 9, .inl (fi 0))), ((a 4), .inl (T 1, 9, .inl (fi 1))), ((a 5), .inl (T 1, 9, .inl (fi 2)))]) [0, 1, 2, 3, 4, 5] (by decide +kernel) rfl
      rw [hQ]
      exact W.iret (v := (-1)) hx hb hr (fun t ht hW => ⟨⟨(-1), (-1), rfl, rfl, xf [], xh [], xv [], xl [], by rw [ht]; exact hP9, hD9, trivial⟩, hS.F ht⟩) hS.2.2 dX11_must_12
abbrev pre_X6_byteAt (T : Nat → ClassId) (a ex : Nat → Nat) (fi : Nat → Nat → Int32) (fl : Nat → Nat → Int64) (vi : Nat → Int32) (vl : Nat → Int64) : va_W := [((a 0), .inr (6, [.ref (a 1), .ref (ex 0), .int (vi 1), .int (vi 2), .int (vi 3), .int (vi 4), .int (vi 5), .int (vi 6), .long (vl 0), .int (vi 7), .int (vi 8), .int (vi 9), .int (vi 10), .int (vi 11)])), ((a 1), .inl (T 0, 940, .inl (fi 0)))]
set_option maxHeartbeats 8000000 in
set_option maxRecDepth 100000 in
theorem c_X6_byteAt (l : Launch) (D : va_G) (T : Nat → ClassId) (a ex : Nat → Nat) (fi : Nat → Nat → Int32) (fl : Nat → Nat → Int64) (vi : Nat → Int32) (vl : Nat → Int64) (sz : Nat) (hp0 : 0 ≤ (vi 2).toInt ∧ (vi 2).toInt ≤ 940) (hp1 : 0 ≤ (vi 4).toInt ∧ (vi 4).toInt ≤ 940) : Met l yX6_byteAt (xw yX6_byteAt cX6_byteAt 2 (some .int)) ({ frames := 0, cells := 0, slots := 0, locals := 0 }) (xP D T [.ref (a 0), .int (vi 0)] sz (pre_X6_byteAt T a ex fi fl vi vl)) (va_Qi (fun r u => r = u) (xC D (va_A (pre_X6_byteAt T a ex fi fl vi vl) sz) (fun fj fm vj vm => [((a 0), .inr (6, [.ref (a 1), .ref (ex 0), .int (vi 1), .int (vi 2), .int (vi 3), .int (vi 4), .int (vi 5), .int (vi 6), .long (vl 0), .int (vi 7), .int (vi 8), .int (vi 9), .int (vi 10), .int (vi 11)])), ((a 1), .inl (T 0, 940, .inl (fi 0)))]) (fun (r : Int32) (fj : Nat → Nat → Int32) (fm : Nat → Nat → Int64) (vj : Nat → Int32) (vm : Nat → Int64) => True)) (va_A (pre_X6_byteAt T a ex fi fl vi vl) sz)) 0 0 (va_A (pre_X6_byteAt T a ex fi fl vi vl) sz) := by
  refine xofW (cc := cX6_byteAt) (maxL := 2) (ret := (some .int)) (by decide) rfl ?_
  intro p e s m args below meth c s₁ R Q hR hQ B hml hv
  obtain ⟨rfl, hsz, hP, hK, hD0⟩ := hv
  have hx := B.exec
  have hb := B.bytes
  have hr := B.returns
  have hts := atoms_spec (ws := xw yX6_byteAt cX6_byteAt 2 (some .int)) B.pre
  have htg : ∀ w ∈ xg, w.before _ s = true := fun w h => hts w (List.mem_cons_of_mem _ h)
  have hown : s.vm.findClass RX6 = some m.cls := findClass_of_methodNamed B.named
  have hlocks := B.notSynchronized
  subst hsz
  have hD := hD0.self (sz := s.heap.size)
  generalize hAe : va_A (pre_X6_byteAt T a ex fi fl vi vl) s.heap.size = A at hD hQ
  have hA : ∀ q : Nat, s.heap.size ≤ q → A q := fun q h => by rw [← hAe]; exact Or.inr h
  have hS : va_S A s.heap s.heap [] := va_S.rf
  replace hP : va_P D vwCl [((a 0), .inr (6, [.ref (a 1), .ref (ex 0), .int (vi 1), .int (vi 2), .int (vi 3), .int (vi 4), .int (vi 5), .int (vi 6), .long (vl 0), .int (vi 7), .int (vi 8), .int (vi 9), .int (vi 10), .int (vi 11)])), ((a 1), .inl (T 0, 940, .inl (fi 0)))] s.heap := hP
  replace hD : va_D A [((a 0), .inr (6, [.ref (a 1), .ref (ex 0), .int (vi 1), .int (vi 2), .int (vi 3), .int (vi 4), .int (vi 5), .int (vi 6), .long (vl 0), .int (vi 7), .int (vi 8), .int (vi 9), .int (vi 10), .int (vi 11)])), ((a 1), .inl (T 0, 940, .inl (fi 0)))] := hD
  have hl := lv_entry ([.ref (a 0), .int (vi 0)]) (n := 2) (Nat.le_of_ble_eq_true rfl)
  rw [lg_entry_eq]
  generalize (lg_sl ([.ref (a 0), .int (vi 0)]) ++ List.replicate (2 - (lg_sl ([.ref (a 0), .int (vi 0)])).length) Slot.unset).toArray = ls at hl ⊢
  replace hl : lv_has ls 2 [(0, .ref (a 0)), (1, .int (vi 0))] := hl
  refine lv_iload_n hx hb dX6_byteAt_0 rfl (lv_at hl 1 rfl) ?_
  refine lv_if_lt (tgt := 24) hx hb dX6_byteAt_1 (by decide) (fun c1 => ?_) (fun c1 => ?_)
  · have c1 := xlt (k := 0) (by decide) c1
    refine lv_iconst (v := 0) hx hb dX6_byteAt_24 (by decide) ?_
    have hP9 := hP.sub (ws' := [((a 0), .inr (6, [.ref (a 1), .ref (ex 0), .int (vi 1), .int (vi 2), .int (vi 3), .int (vi 4), .int (vi 5), .int (vi 6), .long (vl 0), .int (vi 7), .int (vi 8), .int (vi 9), .int (vi 10), .int (vi 11)])), ((a 1), .inl (T 0, 940, .inl (fi 0)))]) [0, 1] rfl
    have hD9 := hD.sub (ws' := [((a 0), .inr (6, [.ref (a 1), .ref (ex 0), .int (vi 1), .int (vi 2), .int (vi 3), .int (vi 4), .int (vi 5), .int (vi 6), .long (vl 0), .int (vi 7), .int (vi 8), .int (vi 9), .int (vi 10), .int (vi 11)])), ((a 1), .inl (T 0, 940, .inl (fi 0)))]) [0, 1] (by decide +kernel) rfl
    rw [hQ]
    exact W.iret (v := 0) hx hb hr (fun t ht hW => ⟨⟨0, 0, rfl, rfl, xf [], xh [], xv [], xl [], by rw [ht]; exact hP9, hD9, trivial⟩, hS.F ht⟩) hS.2.2 dX6_byteAt_25
  · have c1 := xnlt (k := 0) (by decide) c1
    refine lv_iload_n hx hb dX6_byteAt_4 rfl (lv_at hl 1 rfl) ?_
    refine lv_sipush (v := 940) hx hb dX6_byteAt_5 (by decide) ?_
    refine lv_icmp_ge (tgt := 24) hx hb dX6_byteAt_8 (by decide) (fun c8 => ?_) (fun c8 => ?_)
    · have c8 := xge (k := 940) (by decide) c8
      refine lv_iconst (v := 0) hx hb dX6_byteAt_24 (by decide) ?_
      have hP9 := hP.sub (ws' := [((a 0), .inr (6, [.ref (a 1), .ref (ex 0), .int (vi 1), .int (vi 2), .int (vi 3), .int (vi 4), .int (vi 5), .int (vi 6), .long (vl 0), .int (vi 7), .int (vi 8), .int (vi 9), .int (vi 10), .int (vi 11)])), ((a 1), .inl (T 0, 940, .inl (fi 0)))]) [0, 1] rfl
      have hD9 := hD.sub (ws' := [((a 0), .inr (6, [.ref (a 1), .ref (ex 0), .int (vi 1), .int (vi 2), .int (vi 3), .int (vi 4), .int (vi 5), .int (vi 6), .long (vl 0), .int (vi 7), .int (vi 8), .int (vi 9), .int (vi 10), .int (vi 11)])), ((a 1), .inl (T 0, 940, .inl (fi 0)))]) [0, 1] (by decide +kernel) rfl
      rw [hQ]
      exact W.iret (v := 0) hx hb hr (fun t ht hW => ⟨⟨0, 0, rfl, rfl, xf [], xh [], xv [], xl [], by rw [ht]; exact hP9, hD9, trivial⟩, hS.F ht⟩) hS.2.2 dX6_byteAt_25
    · have c8 := xnge (k := 940) (by decide) c8
      refine lv_aload_n hx hb dX6_byteAt_11 rfl (lv_at hl 0 rfl) ?_
      refine va_get (D := D) (ci := 6) (v := .ref (a 1)) (C := RX6) (T := TX6) (N := 14) hx hb htg inX6 hown hK.1 hP 0 rfl rfl 0 (by decide) (htg _ kw_94) (fun _ h9 => h9) rfl dX6_byteAt_12 ?_
      refine lv_iload_n hx hb dX6_byteAt_15 rfl (lv_at hl 1 rfl) ?_
      refine va_bald hx hb hK.1 hP 1 0 rfl rfl (vp_in_iff.mpr (by omega)) dX6_byteAt_16 ?_
      refine lv_sipush (v := 255) hx hb dX6_byteAt_17 (by decide) ?_
      refine lv_iand hx hb dX6_byteAt_20 ?_
      refine lv_topi (fun z20 ez20 => ?_)
      have tz20 : 0 ≤ z20.toInt ∧ z20.toInt ≤ 255 := by rw [ez20]; exact xand255 _
      refine lv_goto (tgt := 25) hx hb dX6_byteAt_21 (by decide) ?_
      have hP9 := hP.sub (ws' := [((a 0), .inr (6, [.ref (a 1), .ref (ex 0), .int (vi 1), .int (vi 2), .int (vi 3), .int (vi 4), .int (vi 5), .int (vi 6), .long (vl 0), .int (vi 7), .int (vi 8), .int (vi 9), .int (vi 10), .int (vi 11)])), ((a 1), .inl (T 0, 940, .inl (fi 0)))]) [0, 1] rfl
      have hD9 := hD.sub (ws' := [((a 0), .inr (6, [.ref (a 1), .ref (ex 0), .int (vi 1), .int (vi 2), .int (vi 3), .int (vi 4), .int (vi 5), .int (vi 6), .long (vl 0), .int (vi 7), .int (vi 8), .int (vi 9), .int (vi 10), .int (vi 11)])), ((a 1), .inl (T 0, 940, .inl (fi 0)))]) [0, 1] (by decide +kernel) rfl
      rw [hQ]
      exact W.iret (v := z20) hx hb hr (fun t ht hW => ⟨⟨z20, z20, rfl, rfl, xf [], xh [], xv [], xl [], by rw [ht]; exact hP9, hD9, trivial⟩, hS.F ht⟩) hS.2.2 dX6_byteAt_25
abbrev pre_X11_isLedger (T : Nat → ClassId) (a ex : Nat → Nat) (fi : Nat → Nat → Int32) (fl : Nat → Nat → Int64) (vi : Nat → Int32) (vl : Nat → Int64) : va_W := [((a 0), .inr (11, [.ref (a 2), .ref (a 4), .ref (ex 0), .ref (ex 1), .ref (a 1), .ref (ex 2), .ref (ex 3), .ref (ex 4), .ref (ex 5), .ref (ex 6), .ref (ex 7), .ref (ex 8), .ref (ex 9), .ref (ex 10), .int (vi 1)])), ((a 1), .inr (2, [.ref (a 4), .int (vi 2), .int (vi 3), .int (vi 4), .int (vi 5), .int (vi 6), .int (vi 7), .ref (ex 11), .ref (ex 12), .ref (ex 13), .ref (ex 14), .ref (ex 15), .ref (ex 16), .ref (ex 17), .ref (ex 18)])), ((a 2), .inr (6, [.ref (a 3), .ref (ex 19), .int (vi 8), .int (vi 9), .int (vi 10), .int (vi 11), .int (vi 12), .int (vi 13), .long (vl 0), .int (vi 14), .int (vi 15), .int (vi 16), .int (vi 17), .int (vi 18)])), ((a 3), .inl (T 0, 940, .inl (fi 0))), ((a 4), .inr (7, [.int (vi 19), .int (vi 20), .ref (ex 20), .ref (ex 21), .ref (ex 22), .ref (ex 23), .ref (ex 24), .ref (ex 25), .ref (ex 26), .ref (ex 27), .ref (ex 28), .ref (ex 29)]))]
set_option maxHeartbeats 8000000 in
set_option maxRecDepth 100000 in
theorem c_X11_isLedger (l : Launch) (D : va_G) (T : Nat → ClassId) (a ex : Nat → Nat) (fi : Nat → Nat → Int32) (fl : Nat → Nat → Int64) (vi : Nat → Int32) (vl : Nat → Int64) (sz : Nat) (hp0 : 0 ≤ (vi 2).toInt ∧ (vi 2).toInt ≤ 200) (hp1 : 0 ≤ (vi 7).toInt ∧ (vi 7).toInt ≤ 9) (hp2 : 0 ≤ (vi 9).toInt ∧ (vi 9).toInt ≤ 940) (hp3 : 0 ≤ (vi 11).toInt ∧ (vi 11).toInt ≤ 940) (hp4 : 0 ≤ (vi 19).toInt ∧ (vi 19).toInt ≤ 9) (hp5 : 0 ≤ (vi 20).toInt ∧ (vi 20).toInt ≤ 9) : Met l yX11_isLedger (xw yX11_isLedger cX11_isLedger 4 (some .boolean)) ({ frames := 1, cells := 0, slots := 0, locals := 25 }) (xP D T [.ref (a 0), .int (vi 0)] sz (pre_X11_isLedger T a ex fi fl vi vl)) (va_Qi (fun r u => r = u) (xC D (va_A (pre_X11_isLedger T a ex fi fl vi vl) sz) (fun fj fm vj vm => [((a 0), .inr (11, [.ref (a 2), .ref (a 4), .ref (ex 0), .ref (ex 1), .ref (a 1), .ref (ex 2), .ref (ex 3), .ref (ex 4), .ref (ex 5), .ref (ex 6), .ref (ex 7), .ref (ex 8), .ref (ex 9), .ref (ex 10), .int (vi 1)])), ((a 1), .inr (2, [.ref (a 4), .int (vi 2), .int (vi 3), .int (vi 4), .int (vi 5), .int (vi 6), .int (vi 7), .ref (ex 11), .ref (ex 12), .ref (ex 13), .ref (ex 14), .ref (ex 15), .ref (ex 16), .ref (ex 17), .ref (ex 18)])), ((a 2), .inr (6, [.ref (a 3), .ref (ex 19), .int (vi 8), .int (vi 9), .int (vi 10), .int (vi 11), .int (vi 12), .int (vi 13), .long (vl 0), .int (vi 14), .int (vi 15), .int (vi 16), .int (vi 17), .int (vi 18)])), ((a 3), .inl (T 0, 940, .inl (fi 0))), ((a 4), .inr (7, [.int (vi 19), .int (vi 20), .ref (ex 20), .ref (ex 21), .ref (ex 22), .ref (ex 23), .ref (ex 24), .ref (ex 25), .ref (ex 26), .ref (ex 27), .ref (ex 28), .ref (ex 29)]))]) (fun (r : Int32) (fj : Nat → Nat → Int32) (fm : Nat → Nat → Int64) (vj : Nat → Int32) (vm : Nat → Int64) => ((r = 1 ∧ (1 ≤ (vi 0).toInt ∧ (vi 0).toInt ≤ (vi 2).toInt)) ∨ (r = 0 ∧ (True))) ∧ True)) (va_A (pre_X11_isLedger T a ex fi fl vi vl) sz)) 0 0 (va_A (pre_X11_isLedger T a ex fi fl vi vl) sz) := by
  refine xofW (cc := cX11_isLedger) (maxL := 4) (ret := (some .boolean)) (by decide) rfl ?_
  intro p e s m args below meth c s₁ R Q hR hQ B hml hv
  obtain ⟨rfl, hsz, hP, hK, hD0⟩ := hv
  have hx := B.exec
  have hb := B.bytes
  have hr := B.returns
  have hts := atoms_spec (ws := xw yX11_isLedger cX11_isLedger 4 (some .boolean)) B.pre
  have htg : ∀ w ∈ xg, w.before _ s = true := fun w h => hts w (List.mem_cons_of_mem _ h)
  have hown : s.vm.findClass RX11 = some m.cls := findClass_of_methodNamed B.named
  have hlocks := B.notSynchronized
  subst hsz
  have hD := hD0.self (sz := s.heap.size)
  generalize hAe : va_A (pre_X11_isLedger T a ex fi fl vi vl) s.heap.size = A at hD hQ
  have hA : ∀ q : Nat, s.heap.size ≤ q → A q := fun q h => by rw [← hAe]; exact Or.inr h
  have hS : va_S A s.heap s.heap [] := va_S.rf
  replace hP : va_P D vwCl [((a 0), .inr (11, [.ref (a 2), .ref (a 4), .ref (ex 0), .ref (ex 1), .ref (a 1), .ref (ex 2), .ref (ex 3), .ref (ex 4), .ref (ex 5), .ref (ex 6), .ref (ex 7), .ref (ex 8), .ref (ex 9), .ref (ex 10), .int (vi 1)])), ((a 1), .inr (2, [.ref (a 4), .int (vi 2), .int (vi 3), .int (vi 4), .int (vi 5), .int (vi 6), .int (vi 7), .ref (ex 11), .ref (ex 12), .ref (ex 13), .ref (ex 14), .ref (ex 15), .ref (ex 16), .ref (ex 17), .ref (ex 18)])), ((a 2), .inr (6, [.ref (a 3), .ref (ex 19), .int (vi 8), .int (vi 9), .int (vi 10), .int (vi 11), .int (vi 12), .int (vi 13), .long (vl 0), .int (vi 14), .int (vi 15), .int (vi 16), .int (vi 17), .int (vi 18)])), ((a 3), .inl (T 0, 940, .inl (fi 0))), ((a 4), .inr (7, [.int (vi 19), .int (vi 20), .ref (ex 20), .ref (ex 21), .ref (ex 22), .ref (ex 23), .ref (ex 24), .ref (ex 25), .ref (ex 26), .ref (ex 27), .ref (ex 28), .ref (ex 29)]))] s.heap := hP
  replace hD : va_D A [((a 0), .inr (11, [.ref (a 2), .ref (a 4), .ref (ex 0), .ref (ex 1), .ref (a 1), .ref (ex 2), .ref (ex 3), .ref (ex 4), .ref (ex 5), .ref (ex 6), .ref (ex 7), .ref (ex 8), .ref (ex 9), .ref (ex 10), .int (vi 1)])), ((a 1), .inr (2, [.ref (a 4), .int (vi 2), .int (vi 3), .int (vi 4), .int (vi 5), .int (vi 6), .int (vi 7), .ref (ex 11), .ref (ex 12), .ref (ex 13), .ref (ex 14), .ref (ex 15), .ref (ex 16), .ref (ex 17), .ref (ex 18)])), ((a 2), .inr (6, [.ref (a 3), .ref (ex 19), .int (vi 8), .int (vi 9), .int (vi 10), .int (vi 11), .int (vi 12), .int (vi 13), .long (vl 0), .int (vi 14), .int (vi 15), .int (vi 16), .int (vi 17), .int (vi 18)])), ((a 3), .inl (T 0, 940, .inl (fi 0))), ((a 4), .inr (7, [.int (vi 19), .int (vi 20), .ref (ex 20), .ref (ex 21), .ref (ex 22), .ref (ex 23), .ref (ex 24), .ref (ex 25), .ref (ex 26), .ref (ex 27), .ref (ex 28), .ref (ex 29)]))] := hD
  have hl := lv_entry ([.ref (a 0), .int (vi 0)]) (n := 4) (Nat.le_of_ble_eq_true rfl)
  rw [lg_entry_eq]
  generalize (lg_sl ([.ref (a 0), .int (vi 0)]) ++ List.replicate (4 - (lg_sl ([.ref (a 0), .int (vi 0)])).length) Slot.unset).toArray = ls at hl ⊢
  replace hl : lv_has ls 4 [(0, .ref (a 0)), (1, .int (vi 0))] := hl
  refine lv_iload_n hx hb dX11_isLedger_0 rfl (lv_at hl 1 rfl) ?_
  refine lv_iconst (v := 1) hx hb dX11_isLedger_1 (by decide) ?_
  refine lv_icmp_lt (tgt := 16) hx hb dX11_isLedger_2 (by decide) (fun c2 => ?_) (fun c2 => ?_)
  · have c2 := xlt (k := 1) (by decide) c2
    refine lv_iconst (v := 0) hx hb dX11_isLedger_16 (by decide) ?_
    have hP9 := hP.sub (ws' := [((a 0), .inr (11, [.ref (a 2), .ref (a 4), .ref (ex 0), .ref (ex 1), .ref (a 1), .ref (ex 2), .ref (ex 3), .ref (ex 4), .ref (ex 5), .ref (ex 6), .ref (ex 7), .ref (ex 8), .ref (ex 9), .ref (ex 10), .int (vi 1)])), ((a 1), .inr (2, [.ref (a 4), .int (vi 2), .int (vi 3), .int (vi 4), .int (vi 5), .int (vi 6), .int (vi 7), .ref (ex 11), .ref (ex 12), .ref (ex 13), .ref (ex 14), .ref (ex 15), .ref (ex 16), .ref (ex 17), .ref (ex 18)])), ((a 2), .inr (6, [.ref (a 3), .ref (ex 19), .int (vi 8), .int (vi 9), .int (vi 10), .int (vi 11), .int (vi 12), .int (vi 13), .long (vl 0), .int (vi 14), .int (vi 15), .int (vi 16), .int (vi 17), .int (vi 18)])), ((a 3), .inl (T 0, 940, .inl (fi 0))), ((a 4), .inr (7, [.int (vi 19), .int (vi 20), .ref (ex 20), .ref (ex 21), .ref (ex 22), .ref (ex 23), .ref (ex 24), .ref (ex 25), .ref (ex 26), .ref (ex 27), .ref (ex 28), .ref (ex 29)]))]) [0, 1, 2, 3, 4] rfl
    have hD9 := hD.sub (ws' := [((a 0), .inr (11, [.ref (a 2), .ref (a 4), .ref (ex 0), .ref (ex 1), .ref (a 1), .ref (ex 2), .ref (ex 3), .ref (ex 4), .ref (ex 5), .ref (ex 6), .ref (ex 7), .ref (ex 8), .ref (ex 9), .ref (ex 10), .int (vi 1)])), ((a 1), .inr (2, [.ref (a 4), .int (vi 2), .int (vi 3), .int (vi 4), .int (vi 5), .int (vi 6), .int (vi 7), .ref (ex 11), .ref (ex 12), .ref (ex 13), .ref (ex 14), .ref (ex 15), .ref (ex 16), .ref (ex 17), .ref (ex 18)])), ((a 2), .inr (6, [.ref (a 3), .ref (ex 19), .int (vi 8), .int (vi 9), .int (vi 10), .int (vi 11), .int (vi 12), .int (vi 13), .long (vl 0), .int (vi 14), .int (vi 15), .int (vi 16), .int (vi 17), .int (vi 18)])), ((a 3), .inl (T 0, 940, .inl (fi 0))), ((a 4), .inr (7, [.int (vi 19), .int (vi 20), .ref (ex 20), .ref (ex 21), .ref (ex 22), .ref (ex 23), .ref (ex 24), .ref (ex 25), .ref (ex 26), .ref (ex 27), .ref (ex 28), .ref (ex 29)]))]) [0, 1, 2, 3, 4] (by decide +kernel) rfl
    rw [hQ]
    exact W.zret (v := 0) hx hb hr rfl (fun t ht hW => ⟨⟨0, 0, rfl, rfl, xf [], xh [], xv [], xl [], by rw [ht]; exact hP9, hD9, ⟨(Or.inr ⟨rfl, by show True; first | trivial | omega | assumption⟩), trivial⟩⟩, hS.F ht⟩) hS.2.2 dX11_isLedger_17
  · have c2 := xnlt (k := 1) (by decide) c2
    refine lv_iload_n hx hb dX11_isLedger_5 rfl (lv_at hl 1 rfl) ?_
    refine lv_aload_n hx hb dX11_isLedger_6 rfl (lv_at hl 0 rfl) ?_
    refine va_get (D := D) (ci := 11) (v := .ref (a 1)) (C := RX11) (T := TX11) (N := 15) hx hb htg inX11 hown hK.1 hP 0 rfl rfl 4 (by decide) (htg _ kw_500) (fun _ h9 => h9) rfl dX11_isLedger_7 ?_
    refine va_getN (D := D) (ci := 2) (v := .int (vi 2)) (C := RX2) (T := TX2) (N := 15) hx hb htg inX2 hown hK.1 hP 1 rfl rfl 1 (by decide) (va_Nw.use rfl (hK.2.1 _ kn_249)) (fun _ h9 => h9) rfl dX11_isLedger_10 ?_
    refine lv_icmp_le (tgt := 18) hx hb dX11_isLedger_13 (by decide) (fun c13 => ?_) (fun c13 => ?_)
    · have c13 := Int32.le_iff_toInt_le.mp c13
      have rc13 := xrng (vi 0); have qc13 := xrng (vi 2)
      refine lv_iconst (v := 0) hx hb dX11_isLedger_18 (by decide) ?_
      refine lv_istore_n (lv' := [(2, .int 0), (0, .ref (a 0)), (1, .int (vi 0))]) hx hb dX11_isLedger_19 rfl hl (by decide) rfl (fun ls hl => ?_)
      have lp : ∀ (kn : Nat) (w2 : Int32) (H : Heap) (locs : List Loc) (ls : Array Slot), (0 ≤ w2.toInt) → (2147483648 - w2.toInt).toNat = kn → va_P D vwCl [((a 0), .inr (11, [.ref (a 2), .ref (a 4), .ref (ex 0), .ref (ex 1), .ref (a 1), .ref (ex 2), .ref (ex 3), .ref (ex 4), .ref (ex 5), .ref (ex 6), .ref (ex 7), .ref (ex 8), .ref (ex 9), .ref (ex 10), .int (vi 1)])), ((a 1), .inr (2, [.ref (a 4), .int (vi 2), .int (vi 3), .int (vi 4), .int (vi 5), .int (vi 6), .int (vi 7), .ref (ex 11), .ref (ex 12), .ref (ex 13), .ref (ex 14), .ref (ex 15), .ref (ex 16), .ref (ex 17), .ref (ex 18)])), ((a 2), .inr (6, [.ref (a 3), .ref (ex 19), .int (vi 8), .int (vi 9), .int (vi 10), .int (vi 11), .int (vi 12), .int (vi 13), .long (vl 0), .int (vi 14), .int (vi 15), .int (vi 16), .int (vi 17), .int (vi 18)])), ((a 3), .inl (T 0, 940, .inl (fi 0))), ((a 4), .inr (7, [.int (vi 19), .int (vi 20), .ref (ex 20), .ref (ex 21), .ref (ex 22), .ref (ex 23), .ref (ex 24), .ref (ex 25), .ref (ex 26), .ref (ex 27), .ref (ex 28), .ref (ex 29)]))] H → va_D A [((a 0), .inr (11, [.ref (a 2), .ref (a 4), .ref (ex 0), .ref (ex 1), .ref (a 1), .ref (ex 2), .ref (ex 3), .ref (ex 4), .ref (ex 5), .ref (ex 6), .ref (ex 7), .ref (ex 8), .ref (ex 9), .ref (ex 10), .int (vi 1)])), ((a 1), .inr (2, [.ref (a 4), .int (vi 2), .int (vi 3), .int (vi 4), .int (vi 5), .int (vi 6), .int (vi 7), .ref (ex 11), .ref (ex 12), .ref (ex 13), .ref (ex 14), .ref (ex 15), .ref (ex 16), .ref (ex 17), .ref (ex 18)])), ((a 2), .inr (6, [.ref (a 3), .ref (ex 19), .int (vi 8), .int (vi 9), .int (vi 10), .int (vi 11), .int (vi 12), .int (vi 13), .long (vl 0), .int (vi 14), .int (vi 15), .int (vi 16), .int (vi 17), .int (vi 18)])), ((a 3), .inl (T 0, 940, .inl (fi 0))), ((a 4), .inr (7, [.int (vi 19), .int (vi 20), .ref (ex 20), .ref (ex 21), .ref (ex 22), .ref (ex 23), .ref (ex 24), .ref (ex 25), .ref (ex 26), .ref (ex 27), .ref (ex 28), .ref (ex 29)]))] → va_S A s.heap H locs → lv_has ls 4 [(2, .int w2), (0, .ref (a 0)), (1, .int (vi 0))] → W p l e R s m ([.ref (a 0), .int (vi 0)] : List Value).toArray below meth c H locs 0 0 Q (F0 m 20 ls []) := by
        intro kn
        induction kn using Nat.strongRecOn with
        | _ kn ih =>
          intro w2 H locs ls hi hm hP hD hS hl
          refine lv_iload_n hx hb dX11_isLedger_20 rfl (lv_at hl 0 rfl) ?_
          refine lv_iload_n hx hb dX11_isLedger_21 rfl (lv_at hl 2 rfl) ?_
          refine lv_icmp_ge (tgt := 60) hx hb dX11_isLedger_22 (by decide) (fun c22 => ?_) (fun c22 => ?_)
          · have c22 := Int32.le_iff_toInt_le.mp c22
            have rc22 := xrng w2; have qc22 := xrng (vi 0)
            refine lv_iconst (v := 1) hx hb dX11_isLedger_60 (by decide) ?_
            have hP9 := hP.sub (ws' := [((a 0), .inr (11, [.ref (a 2), .ref (a 4), .ref (ex 0), .ref (ex 1), .ref (a 1), .ref (ex 2), .ref (ex 3), .ref (ex 4), .ref (ex 5), .ref (ex 6), .ref (ex 7), .ref (ex 8), .ref (ex 9), .ref (ex 10), .int (vi 1)])), ((a 1), .inr (2, [.ref (a 4), .int (vi 2), .int (vi 3), .int (vi 4), .int (vi 5), .int (vi 6), .int (vi 7), .ref (ex 11), .ref (ex 12), .ref (ex 13), .ref (ex 14), .ref (ex 15), .ref (ex 16), .ref (ex 17), .ref (ex 18)])), ((a 2), .inr (6, [.ref (a 3), .ref (ex 19), .int (vi 8), .int (vi 9), .int (vi 10), .int (vi 11), .int (vi 12), .int (vi 13), .long (vl 0), .int (vi 14), .int (vi 15), .int (vi 16), .int (vi 17), .int (vi 18)])), ((a 3), .inl (T 0, 940, .inl (fi 0))), ((a 4), .inr (7, [.int (vi 19), .int (vi 20), .ref (ex 20), .ref (ex 21), .ref (ex 22), .ref (ex 23), .ref (ex 24), .ref (ex 25), .ref (ex 26), .ref (ex 27), .ref (ex 28), .ref (ex 29)]))]) [0, 1, 2, 3, 4] rfl
            have hD9 := hD.sub (ws' := [((a 0), .inr (11, [.ref (a 2), .ref (a 4), .ref (ex 0), .ref (ex 1), .ref (a 1), .ref (ex 2), .ref (ex 3), .ref (ex 4), .ref (ex 5), .ref (ex 6), .ref (ex 7), .ref (ex 8), .ref (ex 9), .ref (ex 10), .int (vi 1)])), ((a 1), .inr (2, [.ref (a 4), .int (vi 2), .int (vi 3), .int (vi 4), .int (vi 5), .int (vi 6), .int (vi 7), .ref (ex 11), .ref (ex 12), .ref (ex 13), .ref (ex 14), .ref (ex 15), .ref (ex 16), .ref (ex 17), .ref (ex 18)])), ((a 2), .inr (6, [.ref (a 3), .ref (ex 19), .int (vi 8), .int (vi 9), .int (vi 10), .int (vi 11), .int (vi 12), .int (vi 13), .long (vl 0), .int (vi 14), .int (vi 15), .int (vi 16), .int (vi 17), .int (vi 18)])), ((a 3), .inl (T 0, 940, .inl (fi 0))), ((a 4), .inr (7, [.int (vi 19), .int (vi 20), .ref (ex 20), .ref (ex 21), .ref (ex 22), .ref (ex 23), .ref (ex 24), .ref (ex 25), .ref (ex 26), .ref (ex 27), .ref (ex 28), .ref (ex 29)]))]) [0, 1, 2, 3, 4] (by decide +kernel) rfl
            rw [hQ]
            exact W.zret (v := 1) hx hb hr rfl (fun t ht hW => ⟨⟨1, 1, rfl, rfl, xf [], xh [], xv [], xl [], by rw [ht]; exact hP9, hD9, ⟨(Or.inl ⟨rfl, by show 1 ≤ (vi 0).toInt ∧ (vi 0).toInt ≤ (vi 2).toInt; first | trivial | omega | assumption⟩), trivial⟩⟩, hS.F ht⟩) hS.2.2 dX11_isLedger_61
          · have c22 := (mt Int32.le_iff_toInt_le.mpr c22)
            have rc22 := xrng w2; have qc22 := xrng (vi 0)
            refine lv_aload_n hx hb dX11_isLedger_25 rfl (lv_at hl 1 rfl) ?_
            refine va_get (D := D) (ci := 11) (v := .ref (a 2)) (C := RX11) (T := TX11) (N := 15) hx hb htg inX11 hown hK.1 hP 0 rfl rfl 0 (by decide) (htg _ kw_496) (fun _ h9 => h9) rfl dX11_isLedger_26 ?_
            refine lv_iload_n hx hb dX11_isLedger_29 rfl (lv_at hl 0 rfl) ?_
            obtain ⟨hC9, hPc, hDc, hFc⟩ := xcut (wc := (pre_X6_byteAt T (xa [(a 2), (a 3)]) (xa [(ex 19)]) (xf [(fi 0)]) (xh []) (xv [w2, (vi 8), (vi 9), (vi 10), (vi 11), (vi 12), (vi 13), (vi 14), (vi 15), (vi 16), (vi 17), (vi 18)]) (xl [(vl 0)]))) hP hD hS hA [2, 3] (by decide) rfl
            refine va_calli (va_runVN (As := [.int w2]) (rest := []) ⟨hx, hb, hml, hown, htg⟩ (c_X6_byteAt l D T (xa [(a 2), (a 3)]) (xa [(ex 19)]) (xf [(fi 0)]) (xh []) (xv [w2, (vi 8), (vi 9), (vi 10), (vi 11), (vi 12), (vi 13), (vi 14), (vi 15), (vi 16), (vi 17), (vi 18)]) (xl [(vl 0)]) H.size hp2 hp3) ⟨va_cnB 1 htg (xg_ok kw_1050) rfl rfl rfl (hK.2.1 _ kn_1047) (htg _ kw_2) (by decide +kernel) ⟨by rw [hR]; exact Nat.le_of_ble_eq_true rfl, by rw [hR]; exact Nat.le_of_ble_eq_true rfl⟩, htg _ kw_1049, htg _ ks_85⟩ (xpreV hK hPc hDc (va_recv hK.1 hPc (ci := 6) (q0 := 0) rfl rfl)) rfl rfl hl.1 rfl (lv_room (Nat.le_of_ble_eq_true rfl)) dX11_isLedger_30 ⟨by rw [hR]; exact Nat.le_of_ble_eq_true rfl, by rw [hR]; exact Nat.le_of_ble_eq_true rfl⟩) hS (fun q _ h => hFc q h) hFc (fun r9 u9 t H1 locs ht hvm hw hB hz1 hk1 hS => ?_)
            subst hw
            obtain ⟨fik, flk, vik, vlk, hP1, hD1, hG⟩ := hB
            rw [ht] at hP1
            obtain ⟨hP, hD⟩ := va_join (wr := [((a 0), .inr (11, [.ref (a 2), .ref (a 4), .ref (ex 0), .ref (ex 1), .ref (a 1), .ref (ex 2), .ref (ex 3), .ref (ex 4), .ref (ex 5), .ref (ex 6), .ref (ex 7), .ref (ex 8), .ref (ex 9), .ref (ex 10), .int (vi 1)])), ((a 1), .inr (2, [.ref (a 4), .int (vi 2), .int (vi 3), .int (vi 4), .int (vi 5), .int (vi 6), .int (vi 7), .ref (ex 11), .ref (ex 12), .ref (ex 13), .ref (ex 14), .ref (ex 15), .ref (ex 16), .ref (ex 17), .ref (ex 18)])), ((a 4), .inr (7, [.int (vi 19), .int (vi 20), .ref (ex 20), .ref (ex 21), .ref (ex 22), .ref (ex 23), .ref (ex 24), .ref (ex 25), .ref (ex 26), .ref (ex 27), .ref (ex 28), .ref (ex 29)]))]) (w1 := [((a 2), .inr (6, [.ref (a 3), .ref (ex 19), .int (vi 8), .int (vi 9), .int (vi 10), .int (vi 11), .int (vi 12), .int (vi 13), .long (vl 0), .int (vi 14), .int (vi 15), .int (vi 16), .int (vi 17), .int (vi 18)])), ((a 3), .inl (T 0, 940, .inl (fi 0)))]) hP hD [2, 3] [0, 1, 4] hC9 rfl (by decide) (by decide) hk1 hFc hP1 hD1
            obtain ⟨rk, er9⟩ : ∃ z, z = r9 := ⟨_, rfl⟩
            subst er9
            clear hPc hDc hFc hP1 hD1 hk1 hz1 hvm ht hC9
            generalize H1 = H at hP hS ⊢
            obtain ⟨hP, hD⟩ := (show xPD D A [((a 0), .inr (11, [.ref (a 2), .ref (a 4), .ref (ex 0), .ref (ex 1), .ref (a 1), .ref (ex 2), .ref (ex 3), .ref (ex 4), .ref (ex 5), .ref (ex 6), .ref (ex 7), .ref (ex 8), .ref (ex 9), .ref (ex 10), .int (vi 1)])), ((a 1), .inr (2, [.ref (a 4), .int (vi 2), .int (vi 3), .int (vi 4), .int (vi 5), .int (vi 6), .int (vi 7), .ref (ex 11), .ref (ex 12), .ref (ex 13), .ref (ex 14), .ref (ex 15), .ref (ex 16), .ref (ex 17), .ref (ex 18)])), ((a 4), .inr (7, [.int (vi 19), .int (vi 20), .ref (ex 20), .ref (ex 21), .ref (ex 22), .ref (ex 23), .ref (ex 24), .ref (ex 25), .ref (ex 26), .ref (ex 27), .ref (ex 28), .ref (ex 29)])), ((a 2), .inr (6, [.ref (a 3), .ref (ex 19), .int (vi 8), .int (vi 9), .int (vi 10), .int (vi 11), .int (vi 12), .int (vi 13), .long (vl 0), .int (vi 14), .int (vi 15), .int (vi 16), .int (vi 17), .int (vi 18)])), ((a 3), .inl (T 0, 940, .inl (fi 0)))] H from ⟨hP, hD⟩)
            clear hG
            refine lv_istore_n (lv' := [(3, .int rk), (2, .int w2), (0, .ref (a 0)), (1, .int (vi 0))]) hx hb dX11_isLedger_33 rfl hl (by decide) rfl (fun ls hl => ?_)
            refine lv_iload_n hx hb dX11_isLedger_34 rfl (lv_at hl 0 rfl) ?_
            refine lv_sipush (v := 255) hx hb dX11_isLedger_35 (by decide) ?_
            refine lv_icmp_eq (tgt := 54) hx hb dX11_isLedger_38 (by decide) (fun c38 => ?_) (fun c38 => ?_)
            · have c38 := xeq (k := 255) (by decide) c38
              obtain ⟨i54, ei54⟩ : ∃ z : Int32, w2 + Int32.ofInt 1 = z := ⟨_, rfl⟩
              have ti54 : i54.toInt = w2.toInt + 1 := by rw [← ei54]; have h79 := xrng w2; exact xadd rfl (by decide) (by omega) (by omega)
              refine lv_iinc (v := i54) (lv' := [(2, .int i54), (3, .int rk), (0, .ref (a 0)), (1, .int (vi 0))]) hx hb dX11_isLedger_54 hl (k := 1) rfl ei54 (by decide) rfl (fun ls hl => ?_)
              refine lv_goto (tgt := 20) hx hb dX11_isLedger_57 (by decide) ?_
              exact ih _ (by omega) i54 _ _ _ (by show 0 ≤ i54.toInt; omega) rfl (hP.sub [0, 1, 3, 4, 2] rfl) (hD.sub [0, 1, 3, 4, 2] (by decide) rfl) hS (lv_sub hl [0, 2, 3] rfl)
            · have c38 := xne (k := 255) (by decide) c38
              refine lv_aload_n hx hb dX11_isLedger_41 rfl (lv_at hl 2 rfl) ?_
              refine va_get (D := D) (ci := 11) (v := .ref (a 4)) (C := RX11) (T := TX11) (N := 15) hx hb htg inX11 hown hK.1 hP 0 rfl rfl 1 (by decide) (htg _ kw_497) (fun _ h9 => h9) rfl dX11_isLedger_42 ?_
              refine lv_iload_n hx hb dX11_isLedger_45 rfl (lv_at hl 0 rfl) ?_
              obtain ⟨hC9, hPc, hDc, hFc⟩ := xcut (wc := (pre_X7_isName T (xa [(a 4)]) (xa [(ex 20), (ex 21), (ex 22), (ex 23), (ex 24), (ex 25), (ex 26), (ex 27), (ex 28), (ex 29)]) (xf []) (xh []) (xv [rk, (vi 19), (vi 20)]) (xl []))) hP hD hS hA [2] (by decide) rfl
              refine va_calli (va_runVN (As := [.int rk]) (rest := []) ⟨hx, hb, hml, hown, htg⟩ (c_X7_isName l D T (xa [(a 4)]) (xa [(ex 20), (ex 21), (ex 22), (ex 23), (ex 24), (ex 25), (ex 26), (ex 27), (ex 28), (ex 29)]) (xf []) (xh []) (xv [rk, (vi 19), (vi 20)]) (xl []) H.size hp4 hp5) ⟨va_cnB 1 htg (xg_ok kw_683) rfl rfl rfl (hK.2.1 _ kn_743) (htg _ kw_7) (by decide +kernel) ⟨by rw [hR]; exact Nat.le_of_ble_eq_true rfl, by rw [hR]; exact Nat.le_of_ble_eq_true rfl⟩, htg _ kw_682, htg _ ks_29⟩ (xpreV hK hPc hDc (va_recv hK.1 hPc (ci := 7) (q0 := 0) rfl rfl)) rfl rfl hl.1 rfl (lv_room (Nat.le_of_ble_eq_true rfl)) dX11_isLedger_46 ⟨by rw [hR]; exact Nat.le_of_ble_eq_true rfl, by rw [hR]; exact Nat.le_of_ble_eq_true rfl⟩) hS (fun q _ h => hFc q h) hFc (fun r9 u9 t H1 locs ht hvm hw hB hz1 hk1 hS => ?_)
              subst hw
              obtain ⟨fik_1, flk_1, vik_1, vlk_1, hP1, hD1, hG⟩ := hB
              rw [ht] at hP1
              obtain ⟨hP, hD⟩ := va_join (wr := [((a 0), .inr (11, [.ref (a 2), .ref (a 4), .ref (ex 0), .ref (ex 1), .ref (a 1), .ref (ex 2), .ref (ex 3), .ref (ex 4), .ref (ex 5), .ref (ex 6), .ref (ex 7), .ref (ex 8), .ref (ex 9), .ref (ex 10), .int (vi 1)])), ((a 1), .inr (2, [.ref (a 4), .int (vi 2), .int (vi 3), .int (vi 4), .int (vi 5), .int (vi 6), .int (vi 7), .ref (ex 11), .ref (ex 12), .ref (ex 13), .ref (ex 14), .ref (ex 15), .ref (ex 16), .ref (ex 17), .ref (ex 18)])), ((a 2), .inr (6, [.ref (a 3), .ref (ex 19), .int (vi 8), .int (vi 9), .int (vi 10), .int (vi 11), .int (vi 12), .int (vi 13), .long (vl 0), .int (vi 14), .int (vi 15), .int (vi 16), .int (vi 17), .int (vi 18)])), ((a 3), .inl (T 0, 940, .inl (fi 0)))]) (w1 := [((a 4), .inr (7, [.int (vi 19), .int (vi 20), .ref (ex 20), .ref (ex 21), .ref (ex 22), .ref (ex 23), .ref (ex 24), .ref (ex 25), .ref (ex 26), .ref (ex 27), .ref (ex 28), .ref (ex 29)]))]) hP hD [2] [0, 1, 3, 4] hC9 rfl (by decide) (by decide) hk1 hFc hP1 hD1
              obtain ⟨rk_1, er9⟩ : ∃ z, z = r9 := ⟨_, rfl⟩
              subst er9
              clear hPc hDc hFc hP1 hD1 hk1 hz1 hvm ht hC9
              generalize H1 = H at hP hS ⊢
              obtain ⟨hP, hD⟩ := (show xPD D A [((a 0), .inr (11, [.ref (a 2), .ref (a 4), .ref (ex 0), .ref (ex 1), .ref (a 1), .ref (ex 2), .ref (ex 3), .ref (ex 4), .ref (ex 5), .ref (ex 6), .ref (ex 7), .ref (ex 8), .ref (ex 9), .ref (ex 10), .int (vi 1)])), ((a 1), .inr (2, [.ref (a 4), .int (vi 2), .int (vi 3), .int (vi 4), .int (vi 5), .int (vi 6), .int (vi 7), .ref (ex 11), .ref (ex 12), .ref (ex 13), .ref (ex 14), .ref (ex 15), .ref (ex 16), .ref (ex 17), .ref (ex 18)])), ((a 2), .inr (6, [.ref (a 3), .ref (ex 19), .int (vi 8), .int (vi 9), .int (vi 10), .int (vi 11), .int (vi 12), .int (vi 13), .long (vl 0), .int (vi 14), .int (vi 15), .int (vi 16), .int (vi 17), .int (vi 18)])), ((a 3), .inl (T 0, 940, .inl (fi 0))), ((a 4), .inr (7, [.int (vi 19), .int (vi 20), .ref (ex 20), .ref (ex 21), .ref (ex 22), .ref (ex 23), .ref (ex 24), .ref (ex 25), .ref (ex 26), .ref (ex 27), .ref (ex 28), .ref (ex 29)]))] H from ⟨hP, hD⟩)
              obtain ⟨gk_1_0, -⟩ := hG
              rcases (show (rk_1 = 1 ∧ (0 ≤ rk.toInt ∧ rk.toInt < (vi 19).toInt)) ∨ (rk_1 = 0 ∧ (¬ (0 ≤ rk.toInt ∧ rk.toInt < (vi 19).toInt))) from gk_1_0) with ⟨er9, gk_1_0⟩ | ⟨er9, gk_1_0⟩
              · refine xz_i 1 er9 ?_
                refine lv_if_ne (tgt := 54) hx hb dX11_isLedger_49 (by decide) (fun _ => ?_) (fun c => absurd c (by decide))
                obtain ⟨i54_1, ei54_1⟩ : ∃ z : Int32, w2 + Int32.ofInt 1 = z := ⟨_, rfl⟩
                have ti54_1 : i54_1.toInt = w2.toInt + 1 := by rw [← ei54_1]; have h79 := xrng w2; exact xadd rfl (by decide) (by omega) (by omega)
                refine lv_iinc (v := i54_1) (lv' := [(2, .int i54_1), (3, .int rk), (0, .ref (a 0)), (1, .int (vi 0))]) hx hb dX11_isLedger_54 hl (k := 1) rfl ei54_1 (by decide) rfl (fun ls hl => ?_)
                refine lv_goto (tgt := 20) hx hb dX11_isLedger_57 (by decide) ?_
                exact ih _ (by omega) i54_1 _ _ _ (by show 0 ≤ i54_1.toInt; omega) rfl (hP.sub [0, 1, 2, 3, 4] rfl) (hD.sub [0, 1, 2, 3, 4] (by decide) rfl) hS (lv_sub hl [0, 2, 3] rfl)
              · refine xz_i 0 er9 ?_
                refine lv_if_ne (tgt := 54) hx hb dX11_isLedger_49 (by decide) (fun c => absurd (by decide) c) (fun _ => ?_)
                refine lv_iconst (v := 0) hx hb dX11_isLedger_52 (by decide) ?_
                have hP9 := hP.sub (ws' := [((a 0), .inr (11, [.ref (a 2), .ref (a 4), .ref (ex 0), .ref (ex 1), .ref (a 1), .ref (ex 2), .ref (ex 3), .ref (ex 4), .ref (ex 5), .ref (ex 6), .ref (ex 7), .ref (ex 8), .ref (ex 9), .ref (ex 10), .int (vi 1)])), ((a 1), .inr (2, [.ref (a 4), .int (vi 2), .int (vi 3), .int (vi 4), .int (vi 5), .int (vi 6), .int (vi 7), .ref (ex 11), .ref (ex 12), .ref (ex 13), .ref (ex 14), .ref (ex 15), .ref (ex 16), .ref (ex 17), .ref (ex 18)])), ((a 2), .inr (6, [.ref (a 3), .ref (ex 19), .int (vi 8), .int (vi 9), .int (vi 10), .int (vi 11), .int (vi 12), .int (vi 13), .long (vl 0), .int (vi 14), .int (vi 15), .int (vi 16), .int (vi 17), .int (vi 18)])), ((a 3), .inl (T 0, 940, .inl (fi 0))), ((a 4), .inr (7, [.int (vi 19), .int (vi 20), .ref (ex 20), .ref (ex 21), .ref (ex 22), .ref (ex 23), .ref (ex 24), .ref (ex 25), .ref (ex 26), .ref (ex 27), .ref (ex 28), .ref (ex 29)]))]) [0, 1, 2, 3, 4] rfl
                have hD9 := hD.sub (ws' := [((a 0), .inr (11, [.ref (a 2), .ref (a 4), .ref (ex 0), .ref (ex 1), .ref (a 1), .ref (ex 2), .ref (ex 3), .ref (ex 4), .ref (ex 5), .ref (ex 6), .ref (ex 7), .ref (ex 8), .ref (ex 9), .ref (ex 10), .int (vi 1)])), ((a 1), .inr (2, [.ref (a 4), .int (vi 2), .int (vi 3), .int (vi 4), .int (vi 5), .int (vi 6), .int (vi 7), .ref (ex 11), .ref (ex 12), .ref (ex 13), .ref (ex 14), .ref (ex 15), .ref (ex 16), .ref (ex 17), .ref (ex 18)])), ((a 2), .inr (6, [.ref (a 3), .ref (ex 19), .int (vi 8), .int (vi 9), .int (vi 10), .int (vi 11), .int (vi 12), .int (vi 13), .long (vl 0), .int (vi 14), .int (vi 15), .int (vi 16), .int (vi 17), .int (vi 18)])), ((a 3), .inl (T 0, 940, .inl (fi 0))), ((a 4), .inr (7, [.int (vi 19), .int (vi 20), .ref (ex 20), .ref (ex 21), .ref (ex 22), .ref (ex 23), .ref (ex 24), .ref (ex 25), .ref (ex 26), .ref (ex 27), .ref (ex 28), .ref (ex 29)]))]) [0, 1, 2, 3, 4] (by decide +kernel) rfl
                rw [hQ]
                exact W.zret (v := 0) hx hb hr rfl (fun t ht hW => ⟨⟨0, 0, rfl, rfl, xf [], xh [], xv [], xl [], by rw [ht]; exact hP9, hD9, ⟨(Or.inr ⟨rfl, by show True; first | trivial | omega | assumption⟩), trivial⟩⟩, hS.F ht⟩) hS.2.2 dX11_isLedger_53
      exact lp _ (0 : Int32) _ _ _ (show 0 ≤ (0 : Int32).toInt by decide) rfl hP hD hS hl
    · have c13 := (mt Int32.le_iff_toInt_le.mpr c13)
      have rc13 := xrng (vi 0); have qc13 := xrng (vi 2)
      refine lv_iconst (v := 0) hx hb dX11_isLedger_16 (by decide) ?_
      have hP9 := hP.sub (ws' := [((a 0), .inr (11, [.ref (a 2), .ref (a 4), .ref (ex 0), .ref (ex 1), .ref (a 1), .ref (ex 2), .ref (ex 3), .ref (ex 4), .ref (ex 5), .ref (ex 6), .ref (ex 7), .ref (ex 8), .ref (ex 9), .ref (ex 10), .int (vi 1)])), ((a 1), .inr (2, [.ref (a 4), .int (vi 2), .int (vi 3), .int (vi 4), .int (vi 5), .int (vi 6), .int (vi 7), .ref (ex 11), .ref (ex 12), .ref (ex 13), .ref (ex 14), .ref (ex 15), .ref (ex 16), .ref (ex 17), .ref (ex 18)])), ((a 2), .inr (6, [.ref (a 3), .ref (ex 19), .int (vi 8), .int (vi 9), .int (vi 10), .int (vi 11), .int (vi 12), .int (vi 13), .long (vl 0), .int (vi 14), .int (vi 15), .int (vi 16), .int (vi 17), .int (vi 18)])), ((a 3), .inl (T 0, 940, .inl (fi 0))), ((a 4), .inr (7, [.int (vi 19), .int (vi 20), .ref (ex 20), .ref (ex 21), .ref (ex 22), .ref (ex 23), .ref (ex 24), .ref (ex 25), .ref (ex 26), .ref (ex 27), .ref (ex 28), .ref (ex 29)]))]) [0, 1, 2, 3, 4] rfl
      have hD9 := hD.sub (ws' := [((a 0), .inr (11, [.ref (a 2), .ref (a 4), .ref (ex 0), .ref (ex 1), .ref (a 1), .ref (ex 2), .ref (ex 3), .ref (ex 4), .ref (ex 5), .ref (ex 6), .ref (ex 7), .ref (ex 8), .ref (ex 9), .ref (ex 10), .int (vi 1)])), ((a 1), .inr (2, [.ref (a 4), .int (vi 2), .int (vi 3), .int (vi 4), .int (vi 5), .int (vi 6), .int (vi 7), .ref (ex 11), .ref (ex 12), .ref (ex 13), .ref (ex 14), .ref (ex 15), .ref (ex 16), .ref (ex 17), .ref (ex 18)])), ((a 2), .inr (6, [.ref (a 3), .ref (ex 19), .int (vi 8), .int (vi 9), .int (vi 10), .int (vi 11), .int (vi 12), .int (vi 13), .long (vl 0), .int (vi 14), .int (vi 15), .int (vi 16), .int (vi 17), .int (vi 18)])), ((a 3), .inl (T 0, 940, .inl (fi 0))), ((a 4), .inr (7, [.int (vi 19), .int (vi 20), .ref (ex 20), .ref (ex 21), .ref (ex 22), .ref (ex 23), .ref (ex 24), .ref (ex 25), .ref (ex 26), .ref (ex 27), .ref (ex 28), .ref (ex 29)]))]) [0, 1, 2, 3, 4] (by decide +kernel) rfl
      rw [hQ]
      exact W.zret (v := 0) hx hb hr rfl (fun t ht hW => ⟨⟨0, 0, rfl, rfl, xf [], xh [], xv [], xl [], by rw [ht]; exact hP9, hD9, ⟨(Or.inr ⟨rfl, by show True; first | trivial | omega | assumption⟩), trivial⟩⟩, hS.F ht⟩) hS.2.2 dX11_isLedger_17
abbrev pre_X11_soulsInLedger (T : Nat → ClassId) (a ex : Nat → Nat) (fi : Nat → Nat → Int32) (fl : Nat → Nat → Int64) (vi : Nat → Int32) (vl : Nat → Int64) : va_W := [((a 0), .inr (11, [.ref (a 2), .ref (a 1), .ref (ex 0), .ref (ex 1), .ref (a 4), .ref (ex 2), .ref (ex 3), .ref (ex 4), .ref (ex 5), .ref (ex 6), .ref (ex 7), .ref (ex 8), .ref (ex 9), .ref (ex 10), .int (vi 1)])), ((a 1), .inr (7, [.int (vi 2), .int (vi 3), .ref (ex 11), .ref (ex 12), .ref (ex 13), .ref (ex 14), .ref (ex 15), .ref (ex 16), .ref (ex 17), .ref (ex 18), .ref (ex 19), .ref (ex 20)])), ((a 2), .inr (6, [.ref (a 3), .ref (ex 21), .int (vi 4), .int (vi 5), .int (vi 6), .int (vi 7), .int (vi 8), .int (vi 9), .long (vl 0), .int (vi 10), .int (vi 11), .int (vi 12), .int (vi 13), .int (vi 14)])), ((a 3), .inl (T 0, 940, .inl (fi 0))), ((a 4), .inr (2, [.ref (a 1), .int (vi 15), .int (vi 16), .int (vi 17), .int (vi 18), .int (vi 19), .int (vi 20), .ref (ex 22), .ref (ex 23), .ref (ex 24), .ref (ex 25), .ref (ex 26), .ref (ex 27), .ref (ex 28), .ref (a 5)])), ((a 5), .inl (T 2, 200, .inr (.inl (fl 0))))]
set_option maxHeartbeats 8000000 in
set_option maxRecDepth 100000 in
theorem c_X11_soulsInLedger (l : Launch) (D : va_G) (T : Nat → ClassId) (a ex : Nat → Nat) (fi : Nat → Nat → Int32) (fl : Nat → Nat → Int64) (vi : Nat → Int32) (vl : Nat → Int64) (sz : Nat) (hp0 : 1 ≤ (vi 0).toInt ∧ (vi 0).toInt ≤ 200) (hp1 : 0 ≤ (vi 2).toInt ∧ (vi 2).toInt ≤ 9) (hp2 : 0 ≤ (vi 3).toInt ∧ (vi 3).toInt ≤ 9) (hp3 : 0 ≤ (vi 5).toInt ∧ (vi 5).toInt ≤ 940) (hp4 : 0 ≤ (vi 7).toInt ∧ (vi 7).toInt ≤ 940) (hp5 : 0 ≤ (vi 15).toInt ∧ (vi 15).toInt ≤ 200) (hp6 : 0 ≤ (vi 20).toInt ∧ (vi 20).toInt ≤ 9) : Met l yX11_soulsInLedger (xw yX11_soulsInLedger cX11_soulsInLedger 7 (some .int)) ({ frames := 2, cells := 0, slots := 0, locals := 51 }) (xP D T [.ref (a 0), .int (vi 0)] sz (pre_X11_soulsInLedger T a ex fi fl vi vl)) (va_Qi (fun r u => r = u) (xC D (va_A (pre_X11_soulsInLedger T a ex fi fl vi vl) sz) (fun fj fm vj vm => [((a 0), .inr (11, [.ref (a 2), .ref (a 1), .ref (ex 0), .ref (ex 1), .ref (a 4), .ref (ex 2), .ref (ex 3), .ref (ex 4), .ref (ex 5), .ref (ex 6), .ref (ex 7), .ref (ex 8), .ref (ex 9), .ref (ex 10), .int (vi 1)])), ((a 1), .inr (7, [.int (vi 2), .int (vi 3), .ref (ex 11), .ref (ex 12), .ref (ex 13), .ref (ex 14), .ref (ex 15), .ref (ex 16), .ref (ex 17), .ref (ex 18), .ref (ex 19), .ref (ex 20)])), ((a 2), .inr (6, [.ref (a 3), .ref (ex 21), .int (vi 4), .int (vi 5), .int (vi 6), .int (vi 7), .int (vi 8), .int (vi 9), .long (vl 0), .int (vi 10), .int (vi 11), .int (vi 12), .int (vi 13), .int (vi 14)])), ((a 3), .inl (T 0, 940, .inl (fi 0))), ((a 4), .inr (2, [.ref (a 1), .int (vi 15), .int (vi 16), .int (vi 17), .int (vi 18), .int (vi 19), .int (vi 20), .ref (ex 22), .ref (ex 23), .ref (ex 24), .ref (ex 25), .ref (ex 26), .ref (ex 27), .ref (ex 28), .ref (a 5)])), ((a 5), .inl (T 2, 200, .inr (.inl (fl 0))))]) (fun (r : Int32) (fj : Nat → Nat → Int32) (fm : Nat → Nat → Int64) (vj : Nat → Int32) (vm : Nat → Int64) => True)) (va_A (pre_X11_soulsInLedger T a ex fi fl vi vl) sz)) 0 0 (va_A (pre_X11_soulsInLedger T a ex fi fl vi vl) sz) := by
  refine xofW (cc := cX11_soulsInLedger) (maxL := 7) (ret := (some .int)) (by decide) rfl ?_
  intro p e s m args below meth c s₁ R Q hR hQ B hml hv
  obtain ⟨rfl, hsz, hP, hK, hD0⟩ := hv
  have hx := B.exec
  have hb := B.bytes
  have hr := B.returns
  have hts := atoms_spec (ws := xw yX11_soulsInLedger cX11_soulsInLedger 7 (some .int)) B.pre
  have htg : ∀ w ∈ xg, w.before _ s = true := fun w h => hts w (List.mem_cons_of_mem _ h)
  have hown : s.vm.findClass RX11 = some m.cls := findClass_of_methodNamed B.named
  have hlocks := B.notSynchronized
  subst hsz
  have hD := hD0.self (sz := s.heap.size)
  generalize hAe : va_A (pre_X11_soulsInLedger T a ex fi fl vi vl) s.heap.size = A at hD hQ
  have hA : ∀ q : Nat, s.heap.size ≤ q → A q := fun q h => by rw [← hAe]; exact Or.inr h
  have hS : va_S A s.heap s.heap [] := va_S.rf
  replace hP : va_P D vwCl [((a 0), .inr (11, [.ref (a 2), .ref (a 1), .ref (ex 0), .ref (ex 1), .ref (a 4), .ref (ex 2), .ref (ex 3), .ref (ex 4), .ref (ex 5), .ref (ex 6), .ref (ex 7), .ref (ex 8), .ref (ex 9), .ref (ex 10), .int (vi 1)])), ((a 1), .inr (7, [.int (vi 2), .int (vi 3), .ref (ex 11), .ref (ex 12), .ref (ex 13), .ref (ex 14), .ref (ex 15), .ref (ex 16), .ref (ex 17), .ref (ex 18), .ref (ex 19), .ref (ex 20)])), ((a 2), .inr (6, [.ref (a 3), .ref (ex 21), .int (vi 4), .int (vi 5), .int (vi 6), .int (vi 7), .int (vi 8), .int (vi 9), .long (vl 0), .int (vi 10), .int (vi 11), .int (vi 12), .int (vi 13), .int (vi 14)])), ((a 3), .inl (T 0, 940, .inl (fi 0))), ((a 4), .inr (2, [.ref (a 1), .int (vi 15), .int (vi 16), .int (vi 17), .int (vi 18), .int (vi 19), .int (vi 20), .ref (ex 22), .ref (ex 23), .ref (ex 24), .ref (ex 25), .ref (ex 26), .ref (ex 27), .ref (ex 28), .ref (a 5)])), ((a 5), .inl (T 2, 200, .inr (.inl (fl 0))))] s.heap := hP
  replace hD : va_D A [((a 0), .inr (11, [.ref (a 2), .ref (a 1), .ref (ex 0), .ref (ex 1), .ref (a 4), .ref (ex 2), .ref (ex 3), .ref (ex 4), .ref (ex 5), .ref (ex 6), .ref (ex 7), .ref (ex 8), .ref (ex 9), .ref (ex 10), .int (vi 1)])), ((a 1), .inr (7, [.int (vi 2), .int (vi 3), .ref (ex 11), .ref (ex 12), .ref (ex 13), .ref (ex 14), .ref (ex 15), .ref (ex 16), .ref (ex 17), .ref (ex 18), .ref (ex 19), .ref (ex 20)])), ((a 2), .inr (6, [.ref (a 3), .ref (ex 21), .int (vi 4), .int (vi 5), .int (vi 6), .int (vi 7), .int (vi 8), .int (vi 9), .long (vl 0), .int (vi 10), .int (vi 11), .int (vi 12), .int (vi 13), .int (vi 14)])), ((a 3), .inl (T 0, 940, .inl (fi 0))), ((a 4), .inr (2, [.ref (a 1), .int (vi 15), .int (vi 16), .int (vi 17), .int (vi 18), .int (vi 19), .int (vi 20), .ref (ex 22), .ref (ex 23), .ref (ex 24), .ref (ex 25), .ref (ex 26), .ref (ex 27), .ref (ex 28), .ref (a 5)])), ((a 5), .inl (T 2, 200, .inr (.inl (fl 0))))] := hD
  have hl := lv_entry ([.ref (a 0), .int (vi 0)]) (n := 7) (Nat.le_of_ble_eq_true rfl)
  rw [lg_entry_eq]
  generalize (lg_sl ([.ref (a 0), .int (vi 0)]) ++ List.replicate (7 - (lg_sl ([.ref (a 0), .int (vi 0)])).length) Slot.unset).toArray = ls at hl ⊢
  replace hl : lv_has ls 7 [(0, .ref (a 0)), (1, .int (vi 0))] := hl
  refine lv_iconst (v := 0) hx hb dX11_soulsInLedger_0 (by decide) ?_
  refine lv_istore_n (lv' := [(2, .int 0), (0, .ref (a 0)), (1, .int (vi 0))]) hx hb dX11_soulsInLedger_1 rfl hl (by decide) rfl (fun ls hl => ?_)
  refine lv_iconst (v := 0) hx hb dX11_soulsInLedger_2 (by decide) ?_
  refine lv_istore_n (lv' := [(3, .int 0), (2, .int 0), (0, .ref (a 0)), (1, .int (vi 0))]) hx hb dX11_soulsInLedger_3 rfl hl (by decide) rfl (fun ls hl => ?_)
  have lp : ∀ (kn : Nat) (w3 : Int32) (w2 : Int32) (H : Heap) (locs : List Loc) (ls : Array Slot), (0 ≤ w3.toInt) → (2147483648 - w3.toInt).toNat = kn → va_P D vwCl [((a 0), .inr (11, [.ref (a 2), .ref (a 1), .ref (ex 0), .ref (ex 1), .ref (a 4), .ref (ex 2), .ref (ex 3), .ref (ex 4), .ref (ex 5), .ref (ex 6), .ref (ex 7), .ref (ex 8), .ref (ex 9), .ref (ex 10), .int (vi 1)])), ((a 1), .inr (7, [.int (vi 2), .int (vi 3), .ref (ex 11), .ref (ex 12), .ref (ex 13), .ref (ex 14), .ref (ex 15), .ref (ex 16), .ref (ex 17), .ref (ex 18), .ref (ex 19), .ref (ex 20)])), ((a 2), .inr (6, [.ref (a 3), .ref (ex 21), .int (vi 4), .int (vi 5), .int (vi 6), .int (vi 7), .int (vi 8), .int (vi 9), .long (vl 0), .int (vi 10), .int (vi 11), .int (vi 12), .int (vi 13), .int (vi 14)])), ((a 3), .inl (T 0, 940, .inl (fi 0))), ((a 4), .inr (2, [.ref (a 1), .int (vi 15), .int (vi 16), .int (vi 17), .int (vi 18), .int (vi 19), .int (vi 20), .ref (ex 22), .ref (ex 23), .ref (ex 24), .ref (ex 25), .ref (ex 26), .ref (ex 27), .ref (ex 28), .ref (a 5)])), ((a 5), .inl (T 2, 200, .inr (.inl (fl 0))))] H → va_D A [((a 0), .inr (11, [.ref (a 2), .ref (a 1), .ref (ex 0), .ref (ex 1), .ref (a 4), .ref (ex 2), .ref (ex 3), .ref (ex 4), .ref (ex 5), .ref (ex 6), .ref (ex 7), .ref (ex 8), .ref (ex 9), .ref (ex 10), .int (vi 1)])), ((a 1), .inr (7, [.int (vi 2), .int (vi 3), .ref (ex 11), .ref (ex 12), .ref (ex 13), .ref (ex 14), .ref (ex 15), .ref (ex 16), .ref (ex 17), .ref (ex 18), .ref (ex 19), .ref (ex 20)])), ((a 2), .inr (6, [.ref (a 3), .ref (ex 21), .int (vi 4), .int (vi 5), .int (vi 6), .int (vi 7), .int (vi 8), .int (vi 9), .long (vl 0), .int (vi 10), .int (vi 11), .int (vi 12), .int (vi 13), .int (vi 14)])), ((a 3), .inl (T 0, 940, .inl (fi 0))), ((a 4), .inr (2, [.ref (a 1), .int (vi 15), .int (vi 16), .int (vi 17), .int (vi 18), .int (vi 19), .int (vi 20), .ref (ex 22), .ref (ex 23), .ref (ex 24), .ref (ex 25), .ref (ex 26), .ref (ex 27), .ref (ex 28), .ref (a 5)])), ((a 5), .inl (T 2, 200, .inr (.inl (fl 0))))] → va_S A s.heap H locs → lv_has ls 7 [(3, .int w3), (2, .int w2), (0, .ref (a 0)), (1, .int (vi 0))] → W p l e R s m ([.ref (a 0), .int (vi 0)] : List Value).toArray below meth c H locs 0 0 Q (F0 m 4 ls []) := by
    intro kn
    induction kn using Nat.strongRecOn with
    | _ kn ih =>
      intro w3 w2 H locs ls hi hm hP hD hS hl
      refine lv_iload_n hx hb dX11_soulsInLedger_4 rfl (lv_at hl 0 rfl) ?_
      refine lv_aload_n hx hb dX11_soulsInLedger_5 rfl (lv_at hl 2 rfl) ?_
      refine va_get (D := D) (ci := 11) (v := .ref (a 1)) (C := RX11) (T := TX11) (N := 15) hx hb htg inX11 hown hK.1 hP 0 rfl rfl 1 (by decide) (htg _ kw_497) (fun _ h9 => h9) rfl dX11_soulsInLedger_6 ?_
      refine va_getN (D := D) (ci := 7) (v := .int (vi 3)) (C := RX7) (T := TX7) (N := 12) hx hb htg inX7 hown hK.1 hP 1 rfl rfl 1 (by decide) (va_Nw.use rfl (hK.2.1 _ kn_167)) (fun _ h9 => h9) rfl dX11_soulsInLedger_9 ?_
      refine lv_icmp_ge (tgt := 100) hx hb dX11_soulsInLedger_12 (by decide) (fun c12 => ?_) (fun c12 => ?_)
      · have c12 := Int32.le_iff_toInt_le.mp c12
        have rc12 := xrng w3; have qc12 := xrng (vi 3)
        refine lv_iload_n hx hb dX11_soulsInLedger_100 rfl (lv_at hl 1 rfl) ?_
        have hP9 := hP.sub (ws' := [((a 0), .inr (11, [.ref (a 2), .ref (a 1), .ref (ex 0), .ref (ex 1), .ref (a 4), .ref (ex 2), .ref (ex 3), .ref (ex 4), .ref (ex 5), .ref (ex 6), .ref (ex 7), .ref (ex 8), .ref (ex 9), .ref (ex 10), .int (vi 1)])), ((a 1), .inr (7, [.int (vi 2), .int (vi 3), .ref (ex 11), .ref (ex 12), .ref (ex 13), .ref (ex 14), .ref (ex 15), .ref (ex 16), .ref (ex 17), .ref (ex 18), .ref (ex 19), .ref (ex 20)])), ((a 2), .inr (6, [.ref (a 3), .ref (ex 21), .int (vi 4), .int (vi 5), .int (vi 6), .int (vi 7), .int (vi 8), .int (vi 9), .long (vl 0), .int (vi 10), .int (vi 11), .int (vi 12), .int (vi 13), .int (vi 14)])), ((a 3), .inl (T 0, 940, .inl (fi 0))), ((a 4), .inr (2, [.ref (a 1), .int (vi 15), .int (vi 16), .int (vi 17), .int (vi 18), .int (vi 19), .int (vi 20), .ref (ex 22), .ref (ex 23), .ref (ex 24), .ref (ex 25), .ref (ex 26), .ref (ex 27), .ref (ex 28), .ref (a 5)])), ((a 5), .inl (T 2, 200, .inr (.inl (fl 0))))]) [0, 1, 2, 3, 4, 5] rfl
        have hD9 := hD.sub (ws' := [((a 0), .inr (11, [.ref (a 2), .ref (a 1), .ref (ex 0), .ref (ex 1), .ref (a 4), .ref (ex 2), .ref (ex 3), .ref (ex 4), .ref (ex 5), .ref (ex 6), .ref (ex 7), .ref (ex 8), .ref (ex 9), .ref (ex 10), .int (vi 1)])), ((a 1), .inr (7, [.int (vi 2), .int (vi 3), .ref (ex 11), .ref (ex 12), .ref (ex 13), .ref (ex 14), .ref (ex 15), .ref (ex 16), .ref (ex 17), .ref (ex 18), .ref (ex 19), .ref (ex 20)])), ((a 2), .inr (6, [.ref (a 3), .ref (ex 21), .int (vi 4), .int (vi 5), .int (vi 6), .int (vi 7), .int (vi 8), .int (vi 9), .long (vl 0), .int (vi 10), .int (vi 11), .int (vi 12), .int (vi 13), .int (vi 14)])), ((a 3), .inl (T 0, 940, .inl (fi 0))), ((a 4), .inr (2, [.ref (a 1), .int (vi 15), .int (vi 16), .int (vi 17), .int (vi 18), .int (vi 19), .int (vi 20), .ref (ex 22), .ref (ex 23), .ref (ex 24), .ref (ex 25), .ref (ex 26), .ref (ex 27), .ref (ex 28), .ref (a 5)])), ((a 5), .inl (T 2, 200, .inr (.inl (fl 0))))]) [0, 1, 2, 3, 4, 5] (by decide +kernel) rfl
        rw [hQ]
        exact W.iret (v := w2) hx hb hr (fun t ht hW => ⟨⟨w2, w2, rfl, rfl, xf [], xh [], xv [], xl [], by rw [ht]; exact hP9, hD9, trivial⟩, hS.F ht⟩) hS.2.2 dX11_soulsInLedger_101
      · have c12 := (mt Int32.le_iff_toInt_le.mpr c12)
        have rc12 := xrng w3; have qc12 := xrng (vi 3)
        refine lv_iconst (v := 1) hx hb dX11_soulsInLedger_15 (by decide) ?_
        refine lv_istore (lv' := [(4, .int 1), (3, .int w3), (2, .int w2), (0, .ref (a 0)), (1, .int (vi 0))]) hx hb dX11_soulsInLedger_16 hl (by decide) rfl (fun ls hl => ?_)
        refine lv_iconst (v := 0) hx hb dX11_soulsInLedger_18 (by decide) ?_
        refine lv_istore (lv' := [(5, .int 0), (4, .int 1), (3, .int w3), (2, .int w2), (0, .ref (a 0)), (1, .int (vi 0))]) hx hb dX11_soulsInLedger_19 hl (by decide) rfl (fun ls hl => ?_)
        have lp_1 : ∀ (kn_1 : Nat) (w5 : Int32) (w4 : Int32) (H : Heap) (locs : List Loc) (ls : Array Slot), (0 ≤ w5.toInt) → (0 ≤ w4.toInt ∧ w4.toInt ≤ 1) → (2147483648 - w5.toInt).toNat = kn_1 → va_P D vwCl [((a 0), .inr (11, [.ref (a 2), .ref (a 1), .ref (ex 0), .ref (ex 1), .ref (a 4), .ref (ex 2), .ref (ex 3), .ref (ex 4), .ref (ex 5), .ref (ex 6), .ref (ex 7), .ref (ex 8), .ref (ex 9), .ref (ex 10), .int (vi 1)])), ((a 1), .inr (7, [.int (vi 2), .int (vi 3), .ref (ex 11), .ref (ex 12), .ref (ex 13), .ref (ex 14), .ref (ex 15), .ref (ex 16), .ref (ex 17), .ref (ex 18), .ref (ex 19), .ref (ex 20)])), ((a 2), .inr (6, [.ref (a 3), .ref (ex 21), .int (vi 4), .int (vi 5), .int (vi 6), .int (vi 7), .int (vi 8), .int (vi 9), .long (vl 0), .int (vi 10), .int (vi 11), .int (vi 12), .int (vi 13), .int (vi 14)])), ((a 3), .inl (T 0, 940, .inl (fi 0))), ((a 4), .inr (2, [.ref (a 1), .int (vi 15), .int (vi 16), .int (vi 17), .int (vi 18), .int (vi 19), .int (vi 20), .ref (ex 22), .ref (ex 23), .ref (ex 24), .ref (ex 25), .ref (ex 26), .ref (ex 27), .ref (ex 28), .ref (a 5)])), ((a 5), .inl (T 2, 200, .inr (.inl (fl 0))))] H → va_D A [((a 0), .inr (11, [.ref (a 2), .ref (a 1), .ref (ex 0), .ref (ex 1), .ref (a 4), .ref (ex 2), .ref (ex 3), .ref (ex 4), .ref (ex 5), .ref (ex 6), .ref (ex 7), .ref (ex 8), .ref (ex 9), .ref (ex 10), .int (vi 1)])), ((a 1), .inr (7, [.int (vi 2), .int (vi 3), .ref (ex 11), .ref (ex 12), .ref (ex 13), .ref (ex 14), .ref (ex 15), .ref (ex 16), .ref (ex 17), .ref (ex 18), .ref (ex 19), .ref (ex 20)])), ((a 2), .inr (6, [.ref (a 3), .ref (ex 21), .int (vi 4), .int (vi 5), .int (vi 6), .int (vi 7), .int (vi 8), .int (vi 9), .long (vl 0), .int (vi 10), .int (vi 11), .int (vi 12), .int (vi 13), .int (vi 14)])), ((a 3), .inl (T 0, 940, .inl (fi 0))), ((a 4), .inr (2, [.ref (a 1), .int (vi 15), .int (vi 16), .int (vi 17), .int (vi 18), .int (vi 19), .int (vi 20), .ref (ex 22), .ref (ex 23), .ref (ex 24), .ref (ex 25), .ref (ex 26), .ref (ex 27), .ref (ex 28), .ref (a 5)])), ((a 5), .inl (T 2, 200, .inr (.inl (fl 0))))] → va_S A s.heap H locs → lv_has ls 7 [(5, .int w5), (4, .int w4), (3, .int w3), (2, .int w2), (0, .ref (a 0)), (1, .int (vi 0))] → W p l e R s m ([.ref (a 0), .int (vi 0)] : List Value).toArray below meth c H locs 0 0 Q (F0 m 21 ls []) := by
          intro kn_1
          induction kn_1 using Nat.strongRecOn with
          | _ kn_1 ih_1 =>
            intro w5 w4 H locs ls hi_1 hi_2 hm_1 hP hD hS hl
            refine lv_iload hx hb dX11_soulsInLedger_21 (lv_at hl 0 rfl) ?_
            refine lv_iload_n hx hb dX11_soulsInLedger_23 rfl (lv_at hl 5 rfl) ?_
            refine lv_icmp_ge (tgt := 83) hx hb dX11_soulsInLedger_24 (by decide) (fun c24 => ?_) (fun c24 => ?_)
            · have c24 := Int32.le_iff_toInt_le.mp c24
              have rc24 := xrng w5; have qc24 := xrng (vi 0)
              refine lv_iload hx hb dX11_soulsInLedger_83 (lv_at hl 1 rfl) ?_
              refine lv_if_eq (tgt := 94) hx hb dX11_soulsInLedger_85 (by decide) (fun c85 => ?_) (fun c85 => ?_)
              · have c85 := xeq (k := 0) (by decide) c85
                obtain ⟨i94, ei94⟩ : ∃ z : Int32, w3 + Int32.ofInt 1 = z := ⟨_, rfl⟩
                have ti94 : i94.toInt = w3.toInt + 1 := by rw [← ei94]; have h79 := xrng w3; exact xadd rfl (by decide) (by omega) (by omega)
                refine lv_iinc (v := i94) (lv' := [(3, .int i94), (5, .int w5), (4, .int w4), (2, .int w2), (0, .ref (a 0)), (1, .int (vi 0))]) hx hb dX11_soulsInLedger_94 hl (k := 2) rfl ei94 (by decide) rfl (fun ls hl => ?_)
                refine lv_goto (tgt := 4) hx hb dX11_soulsInLedger_97 (by decide) ?_
                exact ih _ (by omega) i94 w2 _ _ _ (by show 0 ≤ i94.toInt; omega) rfl (hP.sub [0, 1, 2, 3, 4, 5] rfl) (hD.sub [0, 1, 2, 3, 4, 5] (by decide) rfl) hS (lv_sub hl [0, 3, 4, 5] rfl)
              · have c85 := xne (k := 0) (by decide) c85
                refine lv_iload_n hx hb dX11_soulsInLedger_88 rfl (lv_at hl 3 rfl) ?_
                refine lv_iconst (v := 1) hx hb dX11_soulsInLedger_89 (by decide) ?_
                refine lv_iload_n hx hb dX11_soulsInLedger_90 rfl (lv_at hl 2 rfl) ?_
                refine lv_ishl hx hb dX11_soulsInLedger_91 ?_
                refine lv_topi (fun z91 ez91 => ?_)
                refine lv_ior hx hb dX11_soulsInLedger_92 ?_
                refine lv_topi (fun z92 ez92 => ?_)
                refine lv_istore_n (lv' := [(2, .int z92), (5, .int w5), (4, .int w4), (3, .int w3), (0, .ref (a 0)), (1, .int (vi 0))]) hx hb dX11_soulsInLedger_93 rfl hl (by decide) rfl (fun ls hl => ?_)
                obtain ⟨i94_1, ei94_1⟩ : ∃ z : Int32, w3 + Int32.ofInt 1 = z := ⟨_, rfl⟩
                have ti94_1 : i94_1.toInt = w3.toInt + 1 := by rw [← ei94_1]; have h79 := xrng w3; exact xadd rfl (by decide) (by omega) (by omega)
                refine lv_iinc (v := i94_1) (lv' := [(3, .int i94_1), (2, .int z92), (5, .int w5), (4, .int w4), (0, .ref (a 0)), (1, .int (vi 0))]) hx hb dX11_soulsInLedger_94 hl (k := 3) rfl ei94_1 (by decide) rfl (fun ls hl => ?_)
                refine lv_goto (tgt := 4) hx hb dX11_soulsInLedger_97 (by decide) ?_
                exact ih _ (by omega) i94_1 z92 _ _ _ (by show 0 ≤ i94_1.toInt; omega) rfl (hP.sub [0, 1, 2, 3, 4, 5] rfl) (hD.sub [0, 1, 2, 3, 4, 5] (by decide) rfl) hS (lv_sub hl [0, 1, 4, 5] rfl)
            · have c24 := (mt Int32.le_iff_toInt_le.mpr c24)
              have rc24 := xrng w5; have qc24 := xrng (vi 0)
              refine lv_iload hx hb dX11_soulsInLedger_27 (lv_at hl 1 rfl) ?_
              refine lv_if_eq (tgt := 83) hx hb dX11_soulsInLedger_29 (by decide) (fun c29 => ?_) (fun c29 => ?_)
              · have c29 := xeq (k := 0) (by decide) c29
                refine lv_iload hx hb dX11_soulsInLedger_83 (lv_at hl 1 rfl) ?_
                refine lv_if_eq (tgt := 94) hx hb dX11_soulsInLedger_85 (by decide) (fun _ => ?_) (fun c => by exfalso; have h9 := xne (k := 0) (by decide) c; have h7 := xrng w4; omega)
                obtain ⟨i94_2, ei94_2⟩ : ∃ z : Int32, w3 + Int32.ofInt 1 = z := ⟨_, rfl⟩
                have ti94_2 : i94_2.toInt = w3.toInt + 1 := by rw [← ei94_2]; have h79 := xrng w3; exact xadd rfl (by decide) (by omega) (by omega)
                refine lv_iinc (v := i94_2) (lv' := [(3, .int i94_2), (5, .int w5), (4, .int w4), (2, .int w2), (0, .ref (a 0)), (1, .int (vi 0))]) hx hb dX11_soulsInLedger_94 hl (k := 2) rfl ei94_2 (by decide) rfl (fun ls hl => ?_)
                refine lv_goto (tgt := 4) hx hb dX11_soulsInLedger_97 (by decide) ?_
                exact ih _ (by omega) i94_2 w2 _ _ _ (by show 0 ≤ i94_2.toInt; omega) rfl (hP.sub [0, 1, 2, 3, 4, 5] rfl) (hD.sub [0, 1, 2, 3, 4, 5] (by decide) rfl) hS (lv_sub hl [0, 3, 4, 5] rfl)
              · have c29 := xne (k := 0) (by decide) c29
                refine lv_aload_n hx hb dX11_soulsInLedger_32 rfl (lv_at hl 4 rfl) ?_
                refine va_get (D := D) (ci := 11) (v := .ref (a 2)) (C := RX11) (T := TX11) (N := 15) hx hb htg inX11 hown hK.1 hP 0 rfl rfl 0 (by decide) (htg _ kw_496) (fun _ h9 => h9) rfl dX11_soulsInLedger_33 ?_
                refine lv_iload hx hb dX11_soulsInLedger_36 (lv_at hl 0 rfl) ?_
                obtain ⟨hC9, hPc, hDc, hFc⟩ := xcut (wc := (pre_X6_byteAt T (xa [(a 2), (a 3)]) (xa [(ex 21)]) (xf [(fi 0)]) (xh []) (xv [w5, (vi 4), (vi 5), (vi 6), (vi 7), (vi 8), (vi 9), (vi 10), (vi 11), (vi 12), (vi 13), (vi 14)]) (xl [(vl 0)]))) hP hD hS hA [2, 3] (by decide) rfl
                refine va_calli (va_runVN (As := [.int w5]) (rest := []) ⟨hx, hb, hml, hown, htg⟩ (c_X6_byteAt l D T (xa [(a 2), (a 3)]) (xa [(ex 21)]) (xf [(fi 0)]) (xh []) (xv [w5, (vi 4), (vi 5), (vi 6), (vi 7), (vi 8), (vi 9), (vi 10), (vi 11), (vi 12), (vi 13), (vi 14)]) (xl [(vl 0)]) H.size hp3 hp4) ⟨va_cnB 1 htg (xg_ok kw_1050) rfl rfl rfl (hK.2.1 _ kn_1047) (htg _ kw_2) (by decide +kernel) ⟨by rw [hR]; exact Nat.le_of_ble_eq_true rfl, by rw [hR]; exact Nat.le_of_ble_eq_true rfl⟩, htg _ kw_1049, htg _ ks_85⟩ (xpreV hK hPc hDc (va_recv hK.1 hPc (ci := 6) (q0 := 0) rfl rfl)) rfl rfl hl.1 rfl (lv_room (Nat.le_of_ble_eq_true rfl)) dX11_soulsInLedger_38 ⟨by rw [hR]; exact Nat.le_of_ble_eq_true rfl, by rw [hR]; exact Nat.le_of_ble_eq_true rfl⟩) hS (fun q _ h => hFc q h) hFc (fun r9 u9 t H1 locs ht hvm hw hB hz1 hk1 hS => ?_)
                subst hw
                obtain ⟨fik, flk, vik, vlk, hP1, hD1, hG⟩ := hB
                rw [ht] at hP1
                obtain ⟨hP, hD⟩ := va_join (wr := [((a 0), .inr (11, [.ref (a 2), .ref (a 1), .ref (ex 0), .ref (ex 1), .ref (a 4), .ref (ex 2), .ref (ex 3), .ref (ex 4), .ref (ex 5), .ref (ex 6), .ref (ex 7), .ref (ex 8), .ref (ex 9), .ref (ex 10), .int (vi 1)])), ((a 1), .inr (7, [.int (vi 2), .int (vi 3), .ref (ex 11), .ref (ex 12), .ref (ex 13), .ref (ex 14), .ref (ex 15), .ref (ex 16), .ref (ex 17), .ref (ex 18), .ref (ex 19), .ref (ex 20)])), ((a 4), .inr (2, [.ref (a 1), .int (vi 15), .int (vi 16), .int (vi 17), .int (vi 18), .int (vi 19), .int (vi 20), .ref (ex 22), .ref (ex 23), .ref (ex 24), .ref (ex 25), .ref (ex 26), .ref (ex 27), .ref (ex 28), .ref (a 5)])), ((a 5), .inl (T 2, 200, .inr (.inl (fl 0))))]) (w1 := [((a 2), .inr (6, [.ref (a 3), .ref (ex 21), .int (vi 4), .int (vi 5), .int (vi 6), .int (vi 7), .int (vi 8), .int (vi 9), .long (vl 0), .int (vi 10), .int (vi 11), .int (vi 12), .int (vi 13), .int (vi 14)])), ((a 3), .inl (T 0, 940, .inl (fi 0)))]) hP hD [2, 3] [0, 1, 4, 5] hC9 rfl (by decide) (by decide) hk1 hFc hP1 hD1
                obtain ⟨rk, er9⟩ : ∃ z, z = r9 := ⟨_, rfl⟩
                subst er9
                clear hPc hDc hFc hP1 hD1 hk1 hz1 hvm ht hC9
                generalize H1 = H at hP hS ⊢
                obtain ⟨hP, hD⟩ := (show xPD D A [((a 0), .inr (11, [.ref (a 2), .ref (a 1), .ref (ex 0), .ref (ex 1), .ref (a 4), .ref (ex 2), .ref (ex 3), .ref (ex 4), .ref (ex 5), .ref (ex 6), .ref (ex 7), .ref (ex 8), .ref (ex 9), .ref (ex 10), .int (vi 1)])), ((a 1), .inr (7, [.int (vi 2), .int (vi 3), .ref (ex 11), .ref (ex 12), .ref (ex 13), .ref (ex 14), .ref (ex 15), .ref (ex 16), .ref (ex 17), .ref (ex 18), .ref (ex 19), .ref (ex 20)])), ((a 4), .inr (2, [.ref (a 1), .int (vi 15), .int (vi 16), .int (vi 17), .int (vi 18), .int (vi 19), .int (vi 20), .ref (ex 22), .ref (ex 23), .ref (ex 24), .ref (ex 25), .ref (ex 26), .ref (ex 27), .ref (ex 28), .ref (a 5)])), ((a 5), .inl (T 2, 200, .inr (.inl (fl 0)))), ((a 2), .inr (6, [.ref (a 3), .ref (ex 21), .int (vi 4), .int (vi 5), .int (vi 6), .int (vi 7), .int (vi 8), .int (vi 9), .long (vl 0), .int (vi 10), .int (vi 11), .int (vi 12), .int (vi 13), .int (vi 14)])), ((a 3), .inl (T 0, 940, .inl (fi 0)))] H from ⟨hP, hD⟩)
                clear hG
                refine lv_istore (lv' := [(6, .int rk), (5, .int w5), (4, .int w4), (3, .int w3), (2, .int w2), (0, .ref (a 0)), (1, .int (vi 0))]) hx hb dX11_soulsInLedger_41 hl (by decide) rfl (fun ls hl => ?_)
                refine lv_aload_n hx hb dX11_soulsInLedger_43 rfl (lv_at hl 5 rfl) ?_
                refine va_get (D := D) (ci := 11) (v := .ref (a 4)) (C := RX11) (T := TX11) (N := 15) hx hb htg inX11 hown hK.1 hP 0 rfl rfl 4 (by decide) (htg _ kw_500) (fun _ h9 => h9) rfl dX11_soulsInLedger_44 ?_
                refine lv_iload_n hx hb dX11_soulsInLedger_47 rfl (lv_at hl 3 rfl) ?_
                refine lv_iload hx hb dX11_soulsInLedger_48 (lv_at hl 1 rfl) ?_
                obtain ⟨hC9, hPc, hDc, hFc⟩ := xcut (wc := (pre_X2_calledThen T (xa [(a 4), (a 5)]) (xa [(a 1), (ex 22), (ex 23), (ex 24), (ex 25), (ex 26), (ex 27), (ex 28)]) (xf []) (xh [(fl 0)]) (xv [w3, w5, (vi 15), (vi 16), (vi 17), (vi 18), (vi 19), (vi 20)]) (xl []))) hP hD hS hA [2, 3] (by decide) rfl
                refine va_calli (va_runVN (As := [.int w3, .int w5]) (rest := []) ⟨hx, hb, hml, hown, htg⟩ (c_X2_calledThen l D T (xa [(a 4), (a 5)]) (xa [(a 1), (ex 22), (ex 23), (ex 24), (ex 25), (ex 26), (ex 27), (ex 28)]) (xf []) (xh [(fl 0)]) (xv [w3, w5, (vi 15), (vi 16), (vi 17), (vi 18), (vi 19), (vi 20)]) (xl []) H.size hp5 hp6) ⟨va_cnB 2 htg (xg_ok kw_952) rfl rfl rfl (hK.2.1 _ kn_949) (htg _ kw_9) (by decide +kernel) ⟨by rw [hR]; exact Nat.le_of_ble_eq_true rfl, by rw [hR]; exact Nat.le_of_ble_eq_true rfl⟩, htg _ kw_951, htg _ ks_73⟩ (xpreV hK hPc hDc (va_recv hK.1 hPc (ci := 2) (q0 := 0) rfl rfl)) rfl rfl hl.1 rfl (lv_room (Nat.le_of_ble_eq_true rfl)) dX11_soulsInLedger_50 ⟨by rw [hR]; exact Nat.le_of_ble_eq_true rfl, by rw [hR]; exact Nat.le_of_ble_eq_true rfl⟩) hS (fun q _ h => hFc q h) hFc (fun r9 u9 t H1 locs ht hvm hw hB hz1 hk1 hS => ?_)
                subst hw
                obtain ⟨fik_1, flk_1, vik_1, vlk_1, hP1, hD1, hG⟩ := hB
                rw [ht] at hP1
                obtain ⟨hP, hD⟩ := va_join (wr := [((a 0), .inr (11, [.ref (a 2), .ref (a 1), .ref (ex 0), .ref (ex 1), .ref (a 4), .ref (ex 2), .ref (ex 3), .ref (ex 4), .ref (ex 5), .ref (ex 6), .ref (ex 7), .ref (ex 8), .ref (ex 9), .ref (ex 10), .int (vi 1)])), ((a 1), .inr (7, [.int (vi 2), .int (vi 3), .ref (ex 11), .ref (ex 12), .ref (ex 13), .ref (ex 14), .ref (ex 15), .ref (ex 16), .ref (ex 17), .ref (ex 18), .ref (ex 19), .ref (ex 20)])), ((a 2), .inr (6, [.ref (a 3), .ref (ex 21), .int (vi 4), .int (vi 5), .int (vi 6), .int (vi 7), .int (vi 8), .int (vi 9), .long (vl 0), .int (vi 10), .int (vi 11), .int (vi 12), .int (vi 13), .int (vi 14)])), ((a 3), .inl (T 0, 940, .inl (fi 0)))]) (w1 := [((a 4), .inr (2, [.ref (a 1), .int (vi 15), .int (vi 16), .int (vi 17), .int (vi 18), .int (vi 19), .int (vi 20), .ref (ex 22), .ref (ex 23), .ref (ex 24), .ref (ex 25), .ref (ex 26), .ref (ex 27), .ref (ex 28), .ref (a 5)])), ((a 5), .inl (T 2, 200, .inr (.inl (fl 0))))]) hP hD [2, 3] [0, 1, 4, 5] hC9 rfl (by decide) (by decide) hk1 hFc hP1 hD1
                obtain ⟨rk_1, er9⟩ : ∃ z, z = r9 := ⟨_, rfl⟩
                subst er9
                clear hPc hDc hFc hP1 hD1 hk1 hz1 hvm ht hC9
                generalize H1 = H at hP hS ⊢
                obtain ⟨hP, hD⟩ := (show xPD D A [((a 0), .inr (11, [.ref (a 2), .ref (a 1), .ref (ex 0), .ref (ex 1), .ref (a 4), .ref (ex 2), .ref (ex 3), .ref (ex 4), .ref (ex 5), .ref (ex 6), .ref (ex 7), .ref (ex 8), .ref (ex 9), .ref (ex 10), .int (vi 1)])), ((a 1), .inr (7, [.int (vi 2), .int (vi 3), .ref (ex 11), .ref (ex 12), .ref (ex 13), .ref (ex 14), .ref (ex 15), .ref (ex 16), .ref (ex 17), .ref (ex 18), .ref (ex 19), .ref (ex 20)])), ((a 2), .inr (6, [.ref (a 3), .ref (ex 21), .int (vi 4), .int (vi 5), .int (vi 6), .int (vi 7), .int (vi 8), .int (vi 9), .long (vl 0), .int (vi 10), .int (vi 11), .int (vi 12), .int (vi 13), .int (vi 14)])), ((a 3), .inl (T 0, 940, .inl (fi 0))), ((a 4), .inr (2, [.ref (a 1), .int (vi 15), .int (vi 16), .int (vi 17), .int (vi 18), .int (vi 19), .int (vi 20), .ref (ex 22), .ref (ex 23), .ref (ex 24), .ref (ex 25), .ref (ex 26), .ref (ex 27), .ref (ex 28), .ref (a 5)])), ((a 5), .inl (T 2, 200, .inr (.inl (fl 0))))] H from ⟨hP, hD⟩)
                clear hG
                refine lv_iload hx hb dX11_soulsInLedger_53 (lv_at hl 0 rfl) ?_
                refine lv_sipush (v := 255) hx hb dX11_soulsInLedger_55 (by decide) ?_
                refine lv_icmp_ne (tgt := 65) hx hb dX11_soulsInLedger_58 (by decide) (fun c58 => ?_) (fun c58 => ?_)
                · have c58 := xne (k := 255) (by decide) c58
                  refine lv_iload hx hb dX11_soulsInLedger_65 (lv_at hl 0 rfl) ?_
                  refine lv_icmp_ne (tgt := 74) hx hb dX11_soulsInLedger_67 (by decide) (fun c67 => ?_) (fun c67 => ?_)
                  · have c67 := xne2 c67
                    have rc67 := xrng rk_1; have qc67 := xrng rk
                    refine lv_iconst (v := 0) hx hb dX11_soulsInLedger_74 (by decide) ?_
                    refine lv_istore (lv' := [(4, .int 0), (6, .int rk), (5, .int w5), (3, .int w3), (2, .int w2), (0, .ref (a 0)), (1, .int (vi 0))]) hx hb dX11_soulsInLedger_75 hl (by decide) rfl (fun ls hl => ?_)
                    obtain ⟨i77, ei77⟩ : ∃ z : Int32, w5 + Int32.ofInt 1 = z := ⟨_, rfl⟩
                    have ti77 : i77.toInt = w5.toInt + 1 := by rw [← ei77]; have h79 := xrng w5; exact xadd rfl (by decide) (by omega) (by omega)
                    refine lv_iinc (v := i77) (lv' := [(5, .int i77), (4, .int 0), (6, .int rk), (3, .int w3), (2, .int w2), (0, .ref (a 0)), (1, .int (vi 0))]) hx hb dX11_soulsInLedger_77 hl (k := 2) rfl ei77 (by decide) rfl (fun ls hl => ?_)
                    refine lv_goto (tgt := 21) hx hb dX11_soulsInLedger_80 (by decide) ?_
                    exact ih_1 _ (by omega) i77 (0 : Int32) _ _ _ (by show 0 ≤ i77.toInt; omega) (show 0 ≤ (0 : Int32).toInt ∧ (0 : Int32).toInt ≤ 1 by decide) rfl (hP.sub [0, 1, 2, 3, 4, 5] rfl) (hD.sub [0, 1, 2, 3, 4, 5] (by decide) rfl) hS (lv_sub hl [0, 1, 3, 4, 5, 6] rfl)
                  · have c67 := congrArg Int32.toInt c67
                    have rc67 := xrng rk_1; have qc67 := xrng rk
                    refine lv_iconst (v := 1) hx hb dX11_soulsInLedger_70 (by decide) ?_
                    refine lv_goto (tgt := 75) hx hb dX11_soulsInLedger_71 (by decide) ?_
                    refine lv_istore (lv' := [(4, .int 1), (6, .int rk), (5, .int w5), (3, .int w3), (2, .int w2), (0, .ref (a 0)), (1, .int (vi 0))]) hx hb dX11_soulsInLedger_75 hl (by decide) rfl (fun ls hl => ?_)
                    obtain ⟨i77_1, ei77_1⟩ : ∃ z : Int32, w5 + Int32.ofInt 1 = z := ⟨_, rfl⟩
                    have ti77_1 : i77_1.toInt = w5.toInt + 1 := by rw [← ei77_1]; have h79 := xrng w5; exact xadd rfl (by decide) (by omega) (by omega)
                    refine lv_iinc (v := i77_1) (lv' := [(5, .int i77_1), (4, .int 1), (6, .int rk), (3, .int w3), (2, .int w2), (0, .ref (a 0)), (1, .int (vi 0))]) hx hb dX11_soulsInLedger_77 hl (k := 2) rfl ei77_1 (by decide) rfl (fun ls hl => ?_)
                    refine lv_goto (tgt := 21) hx hb dX11_soulsInLedger_80 (by decide) ?_
                    exact ih_1 _ (by omega) i77_1 (1 : Int32) _ _ _ (by show 0 ≤ i77_1.toInt; omega) (show 0 ≤ (1 : Int32).toInt ∧ (1 : Int32).toInt ≤ 1 by decide) rfl (hP.sub [0, 1, 2, 3, 4, 5] rfl) (hD.sub [0, 1, 2, 3, 4, 5] (by decide) rfl) hS (lv_sub hl [0, 1, 3, 4, 5, 6] rfl)
                · have c58 := xeq (k := 255) (by decide) c58
                  refine lv_iconst (v := (-1)) hx hb dX11_soulsInLedger_61 (by decide) ?_
                  refine lv_goto (tgt := 67) hx hb dX11_soulsInLedger_62 (by decide) ?_
                  refine lv_icmp_ne (tgt := 74) hx hb dX11_soulsInLedger_67 (by decide) (fun c67_1 => ?_) (fun c67_1 => ?_)
                  · have c67_1 := xne (k := (-1)) (by decide) c67_1
                    refine lv_iconst (v := 0) hx hb dX11_soulsInLedger_74 (by decide) ?_
                    refine lv_istore (lv' := [(4, .int 0), (6, .int rk), (5, .int w5), (3, .int w3), (2, .int w2), (0, .ref (a 0)), (1, .int (vi 0))]) hx hb dX11_soulsInLedger_75 hl (by decide) rfl (fun ls hl => ?_)
                    obtain ⟨i77_2, ei77_2⟩ : ∃ z : Int32, w5 + Int32.ofInt 1 = z := ⟨_, rfl⟩
                    have ti77_2 : i77_2.toInt = w5.toInt + 1 := by rw [← ei77_2]; have h79 := xrng w5; exact xadd rfl (by decide) (by omega) (by omega)
                    refine lv_iinc (v := i77_2) (lv' := [(5, .int i77_2), (4, .int 0), (6, .int rk), (3, .int w3), (2, .int w2), (0, .ref (a 0)), (1, .int (vi 0))]) hx hb dX11_soulsInLedger_77 hl (k := 2) rfl ei77_2 (by decide) rfl (fun ls hl => ?_)
                    refine lv_goto (tgt := 21) hx hb dX11_soulsInLedger_80 (by decide) ?_
                    exact ih_1 _ (by omega) i77_2 (0 : Int32) _ _ _ (by show 0 ≤ i77_2.toInt; omega) (show 0 ≤ (0 : Int32).toInt ∧ (0 : Int32).toInt ≤ 1 by decide) rfl (hP.sub [0, 1, 2, 3, 4, 5] rfl) (hD.sub [0, 1, 2, 3, 4, 5] (by decide) rfl) hS (lv_sub hl [0, 1, 3, 4, 5, 6] rfl)
                  · have c67_1 := xeq (k := (-1)) (by decide) c67_1
                    refine lv_iconst (v := 1) hx hb dX11_soulsInLedger_70 (by decide) ?_
                    refine lv_goto (tgt := 75) hx hb dX11_soulsInLedger_71 (by decide) ?_
                    refine lv_istore (lv' := [(4, .int 1), (6, .int rk), (5, .int w5), (3, .int w3), (2, .int w2), (0, .ref (a 0)), (1, .int (vi 0))]) hx hb dX11_soulsInLedger_75 hl (by decide) rfl (fun ls hl => ?_)
                    obtain ⟨i77_3, ei77_3⟩ : ∃ z : Int32, w5 + Int32.ofInt 1 = z := ⟨_, rfl⟩
                    have ti77_3 : i77_3.toInt = w5.toInt + 1 := by rw [← ei77_3]; have h79 := xrng w5; exact xadd rfl (by decide) (by omega) (by omega)
                    refine lv_iinc (v := i77_3) (lv' := [(5, .int i77_3), (4, .int 1), (6, .int rk), (3, .int w3), (2, .int w2), (0, .ref (a 0)), (1, .int (vi 0))]) hx hb dX11_soulsInLedger_77 hl (k := 2) rfl ei77_3 (by decide) rfl (fun ls hl => ?_)
                    refine lv_goto (tgt := 21) hx hb dX11_soulsInLedger_80 (by decide) ?_
                    exact ih_1 _ (by omega) i77_3 (1 : Int32) _ _ _ (by show 0 ≤ i77_3.toInt; omega) (show 0 ≤ (1 : Int32).toInt ∧ (1 : Int32).toInt ≤ 1 by decide) rfl (hP.sub [0, 1, 2, 3, 4, 5] rfl) (hD.sub [0, 1, 2, 3, 4, 5] (by decide) rfl) hS (lv_sub hl [0, 1, 3, 4, 5, 6] rfl)
        exact lp_1 _ (0 : Int32) (1 : Int32) _ _ _ (show 0 ≤ (0 : Int32).toInt by decide) (show 0 ≤ (1 : Int32).toInt ∧ (1 : Int32).toInt ≤ 1 by decide) rfl hP hD hS hl
  exact lp _ (0 : Int32) (0 : Int32) _ _ _ (show 0 ≤ (0 : Int32).toInt by decide) rfl hP hD hS hl
abbrev pre_X11_ledger (T : Nat → ClassId) (a ex : Nat → Nat) (fi : Nat → Nat → Int32) (fl : Nat → Nat → Int64) (vi : Nat → Int32) (vl : Nat → Int64) : va_W := [((a 0), .inr (11, [.ref (a 1), .ref (a 4), .ref (ex 0), .ref (ex 1), .ref (a 2), .ref (ex 2), .ref (ex 3), .ref (ex 4), .ref (ex 5), .ref (ex 6), .ref (ex 7), .ref (ex 8), .ref (ex 9), .ref (ex 10), .int (vi 0)])), ((a 1), .inr (6, [.ref (a 3), .ref (ex 11), .int (vi 1), .int (vi 2), .int (vi 3), .int (vi 4), .int (vi 5), .int (vi 6), .long (vl 0), .int (vi 7), .int (vi 8), .int (vi 9), .int (vi 10), .int (vi 11)])), ((a 2), .inr (2, [.ref (a 4), .int (vi 12), .int (vi 13), .int (vi 14), .int (vi 15), .int (vi 16), .int (vi 17), .ref (ex 12), .ref (ex 13), .ref (ex 14), .ref (ex 15), .ref (ex 16), .ref (ex 17), .ref (ex 18), .ref (a 5)])), ((a 3), .inl (T 0, 940, .inl (fi 0))), ((a 4), .inr (7, [.int (vi 18), .int (vi 19), .ref (ex 19), .ref (ex 20), .ref (ex 21), .ref (ex 22), .ref (ex 23), .ref (ex 24), .ref (ex 25), .ref (ex 26), .ref (ex 27), .ref (ex 28)])), ((a 5), .inl (T 2, 200, .inr (.inl (fl 0))))]
set_option maxHeartbeats 8000000 in
set_option maxRecDepth 100000 in
theorem c_X11_ledger (l : Launch) (D : va_G) (T : Nat → ClassId) (a ex : Nat → Nat) (fi : Nat → Nat → Int32) (fl : Nat → Nat → Int64) (vi : Nat → Int32) (vl : Nat → Int64) (sz : Nat) (hp0 : 0 ≤ (vi 2).toInt ∧ (vi 2).toInt ≤ 940) (hp1 : 0 ≤ (vi 4).toInt ∧ (vi 4).toInt ≤ 940) (hp2 : 0 ≤ (vi 12).toInt ∧ (vi 12).toInt ≤ 200) (hp3 : 0 ≤ (vi 17).toInt ∧ (vi 17).toInt ≤ 9) (hp4 : 0 ≤ (vi 18).toInt ∧ (vi 18).toInt ≤ 9) (hp5 : 0 ≤ (vi 19).toInt ∧ (vi 19).toInt ≤ 9) : Met l yX11_ledger (xw yX11_ledger cX11_ledger 2 (some .int)) ({ frames := 3, cells := 0, slots := 0, locals := 81 }) (xP D T [.ref (a 0)] sz (pre_X11_ledger T a ex fi fl vi vl)) (va_Qi (fun r u => r = u) (xC D (va_A (pre_X11_ledger T a ex fi fl vi vl) sz) (fun fj fm vj vm => [((a 0), .inr (11, [.ref (a 1), .ref (a 4), .ref (ex 0), .ref (ex 1), .ref (a 2), .ref (ex 2), .ref (ex 3), .ref (ex 4), .ref (ex 5), .ref (ex 6), .ref (ex 7), .ref (ex 8), .ref (ex 9), .ref (ex 10), .int (vi 0)])), ((a 1), .inr (6, [.ref (a 3), .ref (ex 11), .int (vi 1), .int (vj 0), .int (vi 3), .int (vi 4), .int (vi 5), .int (vi 6), .long (vl 0), .int (vi 7), .int (vi 8), .int (vi 9), .int (vi 10), .int (vi 11)])), ((a 2), .inr (2, [.ref (a 4), .int (vi 12), .int (vi 13), .int (vi 14), .int (vi 15), .int (vi 16), .int (vi 17), .ref (ex 12), .ref (ex 13), .ref (ex 14), .ref (ex 15), .ref (ex 16), .ref (ex 17), .ref (ex 18), .ref (a 5)])), ((a 3), .inl (T 0, 940, .inl (fi 0))), ((a 4), .inr (7, [.int (vi 18), .int (vi 19), .ref (ex 19), .ref (ex 20), .ref (ex 21), .ref (ex 22), .ref (ex 23), .ref (ex 24), .ref (ex 25), .ref (ex 26), .ref (ex 27), .ref (ex 28)])), ((a 5), .inl (T 2, 200, .inr (.inl (fl 0))))]) (fun (r : Int32) (fj : Nat → Nat → Int32) (fm : Nat → Nat → Int64) (vj : Nat → Int32) (vm : Nat → Int64) => (0 ≤ (vj 0).toInt ∧ (vj 0).toInt ≤ 940) ∧ True)) (va_A (pre_X11_ledger T a ex fi fl vi vl) sz)) 0 0 (va_A (pre_X11_ledger T a ex fi fl vi vl) sz) := by
  refine xofW (cc := cX11_ledger) (maxL := 2) (ret := (some .int)) (by decide) rfl ?_
  intro p e s m args below meth c s₁ R Q hR hQ B hml hv
  obtain ⟨rfl, hsz, hP, hK, hD0⟩ := hv
  have hx := B.exec
  have hb := B.bytes
  have hr := B.returns
  have hts := atoms_spec (ws := xw yX11_ledger cX11_ledger 2 (some .int)) B.pre
  have htg : ∀ w ∈ xg, w.before _ s = true := fun w h => hts w (List.mem_cons_of_mem _ h)
  have hown : s.vm.findClass RX11 = some m.cls := findClass_of_methodNamed B.named
  have hlocks := B.notSynchronized
  subst hsz
  have hD := hD0.self (sz := s.heap.size)
  generalize hAe : va_A (pre_X11_ledger T a ex fi fl vi vl) s.heap.size = A at hD hQ
  have hA : ∀ q : Nat, s.heap.size ≤ q → A q := fun q h => by rw [← hAe]; exact Or.inr h
  have hS : va_S A s.heap s.heap [] := va_S.rf
  replace hP : va_P D vwCl [((a 0), .inr (11, [.ref (a 1), .ref (a 4), .ref (ex 0), .ref (ex 1), .ref (a 2), .ref (ex 2), .ref (ex 3), .ref (ex 4), .ref (ex 5), .ref (ex 6), .ref (ex 7), .ref (ex 8), .ref (ex 9), .ref (ex 10), .int (vi 0)])), ((a 1), .inr (6, [.ref (a 3), .ref (ex 11), .int (vi 1), .int (vi 2), .int (vi 3), .int (vi 4), .int (vi 5), .int (vi 6), .long (vl 0), .int (vi 7), .int (vi 8), .int (vi 9), .int (vi 10), .int (vi 11)])), ((a 2), .inr (2, [.ref (a 4), .int (vi 12), .int (vi 13), .int (vi 14), .int (vi 15), .int (vi 16), .int (vi 17), .ref (ex 12), .ref (ex 13), .ref (ex 14), .ref (ex 15), .ref (ex 16), .ref (ex 17), .ref (ex 18), .ref (a 5)])), ((a 3), .inl (T 0, 940, .inl (fi 0))), ((a 4), .inr (7, [.int (vi 18), .int (vi 19), .ref (ex 19), .ref (ex 20), .ref (ex 21), .ref (ex 22), .ref (ex 23), .ref (ex 24), .ref (ex 25), .ref (ex 26), .ref (ex 27), .ref (ex 28)])), ((a 5), .inl (T 2, 200, .inr (.inl (fl 0))))] s.heap := hP
  replace hD : va_D A [((a 0), .inr (11, [.ref (a 1), .ref (a 4), .ref (ex 0), .ref (ex 1), .ref (a 2), .ref (ex 2), .ref (ex 3), .ref (ex 4), .ref (ex 5), .ref (ex 6), .ref (ex 7), .ref (ex 8), .ref (ex 9), .ref (ex 10), .int (vi 0)])), ((a 1), .inr (6, [.ref (a 3), .ref (ex 11), .int (vi 1), .int (vi 2), .int (vi 3), .int (vi 4), .int (vi 5), .int (vi 6), .long (vl 0), .int (vi 7), .int (vi 8), .int (vi 9), .int (vi 10), .int (vi 11)])), ((a 2), .inr (2, [.ref (a 4), .int (vi 12), .int (vi 13), .int (vi 14), .int (vi 15), .int (vi 16), .int (vi 17), .ref (ex 12), .ref (ex 13), .ref (ex 14), .ref (ex 15), .ref (ex 16), .ref (ex 17), .ref (ex 18), .ref (a 5)])), ((a 3), .inl (T 0, 940, .inl (fi 0))), ((a 4), .inr (7, [.int (vi 18), .int (vi 19), .ref (ex 19), .ref (ex 20), .ref (ex 21), .ref (ex 22), .ref (ex 23), .ref (ex 24), .ref (ex 25), .ref (ex 26), .ref (ex 27), .ref (ex 28)])), ((a 5), .inl (T 2, 200, .inr (.inl (fl 0))))] := hD
  have hl := lv_entry ([.ref (a 0)]) (n := 2) (Nat.le_of_ble_eq_true rfl)
  rw [lg_entry_eq]
  generalize (lg_sl ([.ref (a 0)]) ++ List.replicate (2 - (lg_sl ([.ref (a 0)])).length) Slot.unset).toArray = ls at hl ⊢
  replace hl : lv_has ls 2 [(0, .ref (a 0))] := hl
  refine lv_aload_n hx hb dX11_ledger_0 rfl (lv_at hl 0 rfl) ?_
  refine va_get (D := D) (ci := 11) (v := .ref (a 1)) (C := RX11) (T := TX11) (N := 15) hx hb htg inX11 hown hK.1 hP 0 rfl rfl 0 (by decide) (htg _ kw_496) (fun _ h9 => h9) rfl dX11_ledger_1 ?_
  refine va_getN (D := D) (ci := 6) (v := .int (vi 2)) (C := RX6) (T := TX6) (N := 14) hx hb htg inX6 hown hK.1 hP 1 rfl rfl 3 (by decide) (va_Nw.use rfl (hK.2.1 _ kn_97)) (fun _ h9 => h9) rfl dX11_ledger_4 ?_
  refine lv_istore_n (lv' := [(1, .int (vi 2)), (0, .ref (a 0))]) hx hb dX11_ledger_7 rfl hl (by decide) rfl (fun ls hl => ?_)
  refine lv_aload_n hx hb dX11_ledger_8 rfl (lv_at hl 1 rfl) ?_
  refine va_get (D := D) (ci := 11) (v := .ref (a 1)) (C := RX11) (T := TX11) (N := 15) hx hb htg inX11 hown hK.1 hP 0 rfl rfl 0 (by decide) (htg _ kw_496) (fun _ h9 => h9) rfl dX11_ledger_9 ?_
  refine lv_iconst (v := 0) hx hb dX11_ledger_12 (by decide) ?_
  refine va_putN (D := D) (ci := 6) (v := .int 0) (ty := .int) (C := RX6) (T := TX6) (N := 14) hx hb htg inX6 tyX6 tyX6_ok nmX6 hown hK.1 hP hD hS 1 rfl rfl 3 (by decide) (va_Nw.use rfl (hK.2.1 _ kn_97)) (fun _ h9 => h9) rfl (by decide +kernel) rfl rfl (Nat.le_of_ble_eq_true rfl) dX11_ledger_13 (fun H locs hP hD hS => ?_)
  obtain ⟨hP, hD⟩ := (show xPD D A [((a 0), .inr (11, [.ref (a 1), .ref (a 4), .ref (ex 0), .ref (ex 1), .ref (a 2), .ref (ex 2), .ref (ex 3), .ref (ex 4), .ref (ex 5), .ref (ex 6), .ref (ex 7), .ref (ex 8), .ref (ex 9), .ref (ex 10), .int (vi 0)])), ((a 1), .inr (6, [.ref (a 3), .ref (ex 11), .int (vi 1), .int 0, .int (vi 3), .int (vi 4), .int (vi 5), .int (vi 6), .long (vl 0), .int (vi 7), .int (vi 8), .int (vi 9), .int (vi 10), .int (vi 11)])), ((a 2), .inr (2, [.ref (a 4), .int (vi 12), .int (vi 13), .int (vi 14), .int (vi 15), .int (vi 16), .int (vi 17), .ref (ex 12), .ref (ex 13), .ref (ex 14), .ref (ex 15), .ref (ex 16), .ref (ex 17), .ref (ex 18), .ref (a 5)])), ((a 3), .inl (T 0, 940, .inl (fi 0))), ((a 4), .inr (7, [.int (vi 18), .int (vi 19), .ref (ex 19), .ref (ex 20), .ref (ex 21), .ref (ex 22), .ref (ex 23), .ref (ex 24), .ref (ex 25), .ref (ex 26), .ref (ex 27), .ref (ex 28)])), ((a 5), .inl (T 2, 200, .inr (.inl (fl 0))))] H from ⟨hP, hD⟩)
  refine lv_aload_n hx hb dX11_ledger_16 rfl (lv_at hl 1 rfl) ?_
  refine lv_iload_n hx hb dX11_ledger_17 rfl (lv_at hl 0 rfl) ?_
  obtain ⟨hC9, hPc, hDc, hFc⟩ := xcut (wc := (pre_X11_isLedger T (xa [(a 0), (a 2), (a 1), (a 3), (a 4)]) (xa [(ex 0), (ex 1), (ex 2), (ex 3), (ex 4), (ex 5), (ex 6), (ex 7), (ex 8), (ex 9), (ex 10), (ex 12), (ex 13), (ex 14), (ex 15), (ex 16), (ex 17), (ex 18), (a 5), (ex 11), (ex 19), (ex 20), (ex 21), (ex 22), (ex 23), (ex 24), (ex 25), (ex 26), (ex 27), (ex 28)]) (xf [(fi 0)]) (xh []) (xv [(vi 2), (vi 0), (vi 12), (vi 13), (vi 14), (vi 15), (vi 16), (vi 17), (vi 1), 0, (vi 3), (vi 4), (vi 5), (vi 6), (vi 7), (vi 8), (vi 9), (vi 10), (vi 11), (vi 18), (vi 19)]) (xl [(vl 0)]))) hP hD hS hA [0, 2, 1, 3, 4] (by decide) rfl
  refine va_calli (va_runV (As := [.int (vi 2)]) (rest := []) ⟨hx, hb, hml, hown, htg⟩ (c_X11_isLedger l D T (xa [(a 0), (a 2), (a 1), (a 3), (a 4)]) (xa [(ex 0), (ex 1), (ex 2), (ex 3), (ex 4), (ex 5), (ex 6), (ex 7), (ex 8), (ex 9), (ex 10), (ex 12), (ex 13), (ex 14), (ex 15), (ex 16), (ex 17), (ex 18), (a 5), (ex 11), (ex 19), (ex 20), (ex 21), (ex 22), (ex 23), (ex 24), (ex 25), (ex 26), (ex 27), (ex 28)]) (xf [(fi 0)]) (xh []) (xv [(vi 2), (vi 0), (vi 12), (vi 13), (vi 14), (vi 15), (vi 16), (vi 17), (vi 1), 0, (vi 3), (vi 4), (vi 5), (vi 6), (vi 7), (vi 8), (vi 9), (vi 10), (vi 11), (vi 18), (vi 19)]) (xl [(vl 0)]) H.size hp2 hp3 (show 0 ≤ (0 : Int32).toInt ∧ (0 : Int32).toInt ≤ 940 by decide) hp1 hp4 hp5) ⟨callB_of 1 htg (xg_ok kw_1046) rfl rfl rfl (htg _ kw_1) (htg _ kw_1043) (by decide +kernel) ⟨by rw [hR]; exact Nat.le_of_ble_eq_true rfl, by rw [hR]; exact Nat.le_of_ble_eq_true rfl⟩, htg _ kw_1045, htg _ ks_84⟩ (xpreV hK hPc hDc (va_recv hK.1 hPc (ci := 11) (q0 := 0) rfl rfl)) rfl rfl hl.1 rfl (lv_room (Nat.le_of_ble_eq_true rfl)) dX11_ledger_18 ⟨by rw [hR]; exact Nat.le_of_ble_eq_true rfl, by rw [hR]; exact Nat.le_of_ble_eq_true rfl⟩) hS (fun q _ h => hFc q h) hFc (fun r9 u9 t H1 locs ht hvm hw hB hz1 hk1 hS => ?_)
  subst hw
  obtain ⟨fik, flk, vik, vlk, hP1, hD1, hG⟩ := hB
  rw [ht] at hP1
  obtain ⟨hP, hD⟩ := va_join (wr := [((a 5), .inl (T 2, 200, .inr (.inl (fl 0))))]) (w1 := [((a 0), .inr (11, [.ref (a 1), .ref (a 4), .ref (ex 0), .ref (ex 1), .ref (a 2), .ref (ex 2), .ref (ex 3), .ref (ex 4), .ref (ex 5), .ref (ex 6), .ref (ex 7), .ref (ex 8), .ref (ex 9), .ref (ex 10), .int (vi 0)])), ((a 2), .inr (2, [.ref (a 4), .int (vi 12), .int (vi 13), .int (vi 14), .int (vi 15), .int (vi 16), .int (vi 17), .ref (ex 12), .ref (ex 13), .ref (ex 14), .ref (ex 15), .ref (ex 16), .ref (ex 17), .ref (ex 18), .ref (a 5)])), ((a 1), .inr (6, [.ref (a 3), .ref (ex 11), .int (vi 1), .int 0, .int (vi 3), .int (vi 4), .int (vi 5), .int (vi 6), .long (vl 0), .int (vi 7), .int (vi 8), .int (vi 9), .int (vi 10), .int (vi 11)])), ((a 3), .inl (T 0, 940, .inl (fi 0))), ((a 4), .inr (7, [.int (vi 18), .int (vi 19), .ref (ex 19), .ref (ex 20), .ref (ex 21), .ref (ex 22), .ref (ex 23), .ref (ex 24), .ref (ex 25), .ref (ex 26), .ref (ex 27), .ref (ex 28)]))]) hP hD [0, 2, 1, 3, 4] [5] hC9 rfl (by decide) (by decide) hk1 hFc hP1 hD1
  obtain ⟨rk, er9⟩ : ∃ z, z = r9 := ⟨_, rfl⟩
  subst er9
  clear hPc hDc hFc hP1 hD1 hk1 hz1 hvm ht hC9
  generalize H1 = H at hP hS ⊢
  obtain ⟨hP, hD⟩ := (show xPD D A [((a 5), .inl (T 2, 200, .inr (.inl (fl 0)))), ((a 0), .inr (11, [.ref (a 1), .ref (a 4), .ref (ex 0), .ref (ex 1), .ref (a 2), .ref (ex 2), .ref (ex 3), .ref (ex 4), .ref (ex 5), .ref (ex 6), .ref (ex 7), .ref (ex 8), .ref (ex 9), .ref (ex 10), .int (vi 0)])), ((a 2), .inr (2, [.ref (a 4), .int (vi 12), .int (vi 13), .int (vi 14), .int (vi 15), .int (vi 16), .int (vi 17), .ref (ex 12), .ref (ex 13), .ref (ex 14), .ref (ex 15), .ref (ex 16), .ref (ex 17), .ref (ex 18), .ref (a 5)])), ((a 1), .inr (6, [.ref (a 3), .ref (ex 11), .int (vi 1), .int 0, .int (vi 3), .int (vi 4), .int (vi 5), .int (vi 6), .long (vl 0), .int (vi 7), .int (vi 8), .int (vi 9), .int (vi 10), .int (vi 11)])), ((a 3), .inl (T 0, 940, .inl (fi 0))), ((a 4), .inr (7, [.int (vi 18), .int (vi 19), .ref (ex 19), .ref (ex 20), .ref (ex 21), .ref (ex 22), .ref (ex 23), .ref (ex 24), .ref (ex 25), .ref (ex 26), .ref (ex 27), .ref (ex 28)]))] H from ⟨hP, hD⟩)
  obtain ⟨gk_0, -⟩ := hG
  rcases (show (rk = 1 ∧ (1 ≤ (vi 2).toInt ∧ (vi 2).toInt ≤ (vi 12).toInt)) ∨ (rk = 0 ∧ (True)) from gk_0) with ⟨er9, gk_0⟩ | ⟨er9, gk_0⟩
  · refine xz_i 1 er9 ?_
    refine lv_if_eq (tgt := 32) hx hb dX11_ledger_21 (by decide) (fun c => absurd c (by decide)) (fun _ => ?_)
    refine lv_aload_n hx hb dX11_ledger_24 rfl (lv_at hl 1 rfl) ?_
    refine lv_iload_n hx hb dX11_ledger_25 rfl (lv_at hl 0 rfl) ?_
    obtain ⟨hC9, hPc, hDc, hFc⟩ := xcut (wc := (pre_X11_soulsInLedger T (xa [(a 0), (a 4), (a 1), (a 3), (a 2), (a 5)]) (xa [(ex 0), (ex 1), (ex 2), (ex 3), (ex 4), (ex 5), (ex 6), (ex 7), (ex 8), (ex 9), (ex 10), (ex 19), (ex 20), (ex 21), (ex 22), (ex 23), (ex 24), (ex 25), (ex 26), (ex 27), (ex 28), (ex 11), (ex 12), (ex 13), (ex 14), (ex 15), (ex 16), (ex 17), (ex 18)]) (xf [(fi 0)]) (xh [(fl 0)]) (xv [(vi 2), (vi 0), (vi 18), (vi 19), (vi 1), 0, (vi 3), (vi 4), (vi 5), (vi 6), (vi 7), (vi 8), (vi 9), (vi 10), (vi 11), (vi 12), (vi 13), (vi 14), (vi 15), (vi 16), (vi 17)]) (xl [(vl 0)]))) hP hD hS hA [1, 5, 3, 4, 2, 0] (by decide) rfl
    refine va_calli (va_runV (As := [.int (vi 2)]) (rest := []) ⟨hx, hb, hml, hown, htg⟩ (c_X11_soulsInLedger l D T (xa [(a 0), (a 4), (a 1), (a 3), (a 2), (a 5)]) (xa [(ex 0), (ex 1), (ex 2), (ex 3), (ex 4), (ex 5), (ex 6), (ex 7), (ex 8), (ex 9), (ex 10), (ex 19), (ex 20), (ex 21), (ex 22), (ex 23), (ex 24), (ex 25), (ex 26), (ex 27), (ex 28), (ex 11), (ex 12), (ex 13), (ex 14), (ex 15), (ex 16), (ex 17), (ex 18)]) (xf [(fi 0)]) (xh [(fl 0)]) (xv [(vi 2), (vi 0), (vi 18), (vi 19), (vi 1), 0, (vi 3), (vi 4), (vi 5), (vi 6), (vi 7), (vi 8), (vi 9), (vi 10), (vi 11), (vi 12), (vi 13), (vi 14), (vi 15), (vi 16), (vi 17)]) (xl [(vl 0)]) H.size (by show 1 ≤ (vi 2).toInt ∧ (vi 2).toInt ≤ 200; omega) hp4 hp5 (show 0 ≤ (0 : Int32).toInt ∧ (0 : Int32).toInt ≤ 940 by decide) hp1 hp2 hp3) ⟨callB_of 1 htg (xg_ok kw_1054) rfl rfl rfl (htg _ kw_1) (htg _ kw_1051) (by decide +kernel) ⟨by rw [hR]; exact Nat.le_of_ble_eq_true rfl, by rw [hR]; exact Nat.le_of_ble_eq_true rfl⟩, htg _ kw_1053, htg _ ks_86⟩ (xpreV hK hPc hDc (va_recv hK.1 hPc (ci := 11) (q0 := 0) rfl rfl)) rfl rfl hl.1 rfl (lv_room (Nat.le_of_ble_eq_true rfl)) dX11_ledger_26 ⟨by rw [hR]; exact Nat.le_of_ble_eq_true rfl, by rw [hR]; exact Nat.le_of_ble_eq_true rfl⟩) hS (fun q _ h => hFc q h) hFc (fun r9 u9 t H1 locs ht hvm hw hB hz1 hk1 hS => ?_)
    subst hw
    obtain ⟨fik_1, flk_1, vik_1, vlk_1, hP1, hD1, hG⟩ := hB
    rw [ht] at hP1
    obtain ⟨hP, hD⟩ := va_join (wr := []) (w1 := [((a 0), .inr (11, [.ref (a 1), .ref (a 4), .ref (ex 0), .ref (ex 1), .ref (a 2), .ref (ex 2), .ref (ex 3), .ref (ex 4), .ref (ex 5), .ref (ex 6), .ref (ex 7), .ref (ex 8), .ref (ex 9), .ref (ex 10), .int (vi 0)])), ((a 4), .inr (7, [.int (vi 18), .int (vi 19), .ref (ex 19), .ref (ex 20), .ref (ex 21), .ref (ex 22), .ref (ex 23), .ref (ex 24), .ref (ex 25), .ref (ex 26), .ref (ex 27), .ref (ex 28)])), ((a 1), .inr (6, [.ref (a 3), .ref (ex 11), .int (vi 1), .int 0, .int (vi 3), .int (vi 4), .int (vi 5), .int (vi 6), .long (vl 0), .int (vi 7), .int (vi 8), .int (vi 9), .int (vi 10), .int (vi 11)])), ((a 3), .inl (T 0, 940, .inl (fi 0))), ((a 2), .inr (2, [.ref (a 4), .int (vi 12), .int (vi 13), .int (vi 14), .int (vi 15), .int (vi 16), .int (vi 17), .ref (ex 12), .ref (ex 13), .ref (ex 14), .ref (ex 15), .ref (ex 16), .ref (ex 17), .ref (ex 18), .ref (a 5)])), ((a 5), .inl (T 2, 200, .inr (.inl (fl 0))))]) hP hD [1, 5, 3, 4, 2, 0] [] hC9 rfl (by decide) (by decide) hk1 hFc hP1 hD1
    obtain ⟨rk_1, er9⟩ : ∃ z, z = r9 := ⟨_, rfl⟩
    subst er9
    clear hPc hDc hFc hP1 hD1 hk1 hz1 hvm ht hC9
    generalize H1 = H at hP hS ⊢
    obtain ⟨hP, hD⟩ := (show xPD D A [((a 0), .inr (11, [.ref (a 1), .ref (a 4), .ref (ex 0), .ref (ex 1), .ref (a 2), .ref (ex 2), .ref (ex 3), .ref (ex 4), .ref (ex 5), .ref (ex 6), .ref (ex 7), .ref (ex 8), .ref (ex 9), .ref (ex 10), .int (vi 0)])), ((a 4), .inr (7, [.int (vi 18), .int (vi 19), .ref (ex 19), .ref (ex 20), .ref (ex 21), .ref (ex 22), .ref (ex 23), .ref (ex 24), .ref (ex 25), .ref (ex 26), .ref (ex 27), .ref (ex 28)])), ((a 1), .inr (6, [.ref (a 3), .ref (ex 11), .int (vi 1), .int 0, .int (vi 3), .int (vi 4), .int (vi 5), .int (vi 6), .long (vl 0), .int (vi 7), .int (vi 8), .int (vi 9), .int (vi 10), .int (vi 11)])), ((a 3), .inl (T 0, 940, .inl (fi 0))), ((a 2), .inr (2, [.ref (a 4), .int (vi 12), .int (vi 13), .int (vi 14), .int (vi 15), .int (vi 16), .int (vi 17), .ref (ex 12), .ref (ex 13), .ref (ex 14), .ref (ex 15), .ref (ex 16), .ref (ex 17), .ref (ex 18), .ref (a 5)])), ((a 5), .inl (T 2, 200, .inr (.inl (fl 0))))] H from ⟨hP, hD⟩)
    clear hG
    refine lv_goto (tgt := 33) hx hb dX11_ledger_29 (by decide) ?_
    have hP9 := hP.sub (ws' := [((a 0), .inr (11, [.ref (a 1), .ref (a 4), .ref (ex 0), .ref (ex 1), .ref (a 2), .ref (ex 2), .ref (ex 3), .ref (ex 4), .ref (ex 5), .ref (ex 6), .ref (ex 7), .ref (ex 8), .ref (ex 9), .ref (ex 10), .int (vi 0)])), ((a 1), .inr (6, [.ref (a 3), .ref (ex 11), .int (vi 1), .int 0, .int (vi 3), .int (vi 4), .int (vi 5), .int (vi 6), .long (vl 0), .int (vi 7), .int (vi 8), .int (vi 9), .int (vi 10), .int (vi 11)])), ((a 2), .inr (2, [.ref (a 4), .int (vi 12), .int (vi 13), .int (vi 14), .int (vi 15), .int (vi 16), .int (vi 17), .ref (ex 12), .ref (ex 13), .ref (ex 14), .ref (ex 15), .ref (ex 16), .ref (ex 17), .ref (ex 18), .ref (a 5)])), ((a 3), .inl (T 0, 940, .inl (fi 0))), ((a 4), .inr (7, [.int (vi 18), .int (vi 19), .ref (ex 19), .ref (ex 20), .ref (ex 21), .ref (ex 22), .ref (ex 23), .ref (ex 24), .ref (ex 25), .ref (ex 26), .ref (ex 27), .ref (ex 28)])), ((a 5), .inl (T 2, 200, .inr (.inl (fl 0))))]) [0, 2, 4, 3, 1, 5] rfl
    have hD9 := hD.sub (ws' := [((a 0), .inr (11, [.ref (a 1), .ref (a 4), .ref (ex 0), .ref (ex 1), .ref (a 2), .ref (ex 2), .ref (ex 3), .ref (ex 4), .ref (ex 5), .ref (ex 6), .ref (ex 7), .ref (ex 8), .ref (ex 9), .ref (ex 10), .int (vi 0)])), ((a 1), .inr (6, [.ref (a 3), .ref (ex 11), .int (vi 1), .int 0, .int (vi 3), .int (vi 4), .int (vi 5), .int (vi 6), .long (vl 0), .int (vi 7), .int (vi 8), .int (vi 9), .int (vi 10), .int (vi 11)])), ((a 2), .inr (2, [.ref (a 4), .int (vi 12), .int (vi 13), .int (vi 14), .int (vi 15), .int (vi 16), .int (vi 17), .ref (ex 12), .ref (ex 13), .ref (ex 14), .ref (ex 15), .ref (ex 16), .ref (ex 17), .ref (ex 18), .ref (a 5)])), ((a 3), .inl (T 0, 940, .inl (fi 0))), ((a 4), .inr (7, [.int (vi 18), .int (vi 19), .ref (ex 19), .ref (ex 20), .ref (ex 21), .ref (ex 22), .ref (ex 23), .ref (ex 24), .ref (ex 25), .ref (ex 26), .ref (ex 27), .ref (ex 28)])), ((a 5), .inl (T 2, 200, .inr (.inl (fl 0))))]) [0, 2, 4, 3, 1, 5] (by decide +kernel) rfl
    rw [hQ]
    exact W.iret (v := rk_1) hx hb hr (fun t ht hW => ⟨⟨rk_1, rk_1, rfl, rfl, xf [], xh [], xv [0], xl [], by rw [ht]; exact hP9, hD9, ⟨(show 0 ≤ (0 : Int32).toInt ∧ (0 : Int32).toInt ≤ 940 by decide), trivial⟩⟩, hS.F ht⟩) hS.2.2 dX11_ledger_33
  · refine xz_i 0 er9 ?_
    refine lv_if_eq (tgt := 32) hx hb dX11_ledger_21 (by decide) (fun _ => ?_) (fun c => absurd (by decide) c)
    refine lv_iconst (v := (-1)) hx hb dX11_ledger_32 (by decide) ?_
    have hP9 := hP.sub (ws' := [((a 0), .inr (11, [.ref (a 1), .ref (a 4), .ref (ex 0), .ref (ex 1), .ref (a 2), .ref (ex 2), .ref (ex 3), .ref (ex 4), .ref (ex 5), .ref (ex 6), .ref (ex 7), .ref (ex 8), .ref (ex 9), .ref (ex 10), .int (vi 0)])), ((a 1), .inr (6, [.ref (a 3), .ref (ex 11), .int (vi 1), .int 0, .int (vi 3), .int (vi 4), .int (vi 5), .int (vi 6), .long (vl 0), .int (vi 7), .int (vi 8), .int (vi 9), .int (vi 10), .int (vi 11)])), ((a 2), .inr (2, [.ref (a 4), .int (vi 12), .int (vi 13), .int (vi 14), .int (vi 15), .int (vi 16), .int (vi 17), .ref (ex 12), .ref (ex 13), .ref (ex 14), .ref (ex 15), .ref (ex 16), .ref (ex 17), .ref (ex 18), .ref (a 5)])), ((a 3), .inl (T 0, 940, .inl (fi 0))), ((a 4), .inr (7, [.int (vi 18), .int (vi 19), .ref (ex 19), .ref (ex 20), .ref (ex 21), .ref (ex 22), .ref (ex 23), .ref (ex 24), .ref (ex 25), .ref (ex 26), .ref (ex 27), .ref (ex 28)])), ((a 5), .inl (T 2, 200, .inr (.inl (fl 0))))]) [1, 3, 2, 4, 5, 0] rfl
    have hD9 := hD.sub (ws' := [((a 0), .inr (11, [.ref (a 1), .ref (a 4), .ref (ex 0), .ref (ex 1), .ref (a 2), .ref (ex 2), .ref (ex 3), .ref (ex 4), .ref (ex 5), .ref (ex 6), .ref (ex 7), .ref (ex 8), .ref (ex 9), .ref (ex 10), .int (vi 0)])), ((a 1), .inr (6, [.ref (a 3), .ref (ex 11), .int (vi 1), .int 0, .int (vi 3), .int (vi 4), .int (vi 5), .int (vi 6), .long (vl 0), .int (vi 7), .int (vi 8), .int (vi 9), .int (vi 10), .int (vi 11)])), ((a 2), .inr (2, [.ref (a 4), .int (vi 12), .int (vi 13), .int (vi 14), .int (vi 15), .int (vi 16), .int (vi 17), .ref (ex 12), .ref (ex 13), .ref (ex 14), .ref (ex 15), .ref (ex 16), .ref (ex 17), .ref (ex 18), .ref (a 5)])), ((a 3), .inl (T 0, 940, .inl (fi 0))), ((a 4), .inr (7, [.int (vi 18), .int (vi 19), .ref (ex 19), .ref (ex 20), .ref (ex 21), .ref (ex 22), .ref (ex 23), .ref (ex 24), .ref (ex 25), .ref (ex 26), .ref (ex 27), .ref (ex 28)])), ((a 5), .inl (T 2, 200, .inr (.inl (fl 0))))]) [1, 3, 2, 4, 5, 0] (by decide +kernel) rfl
    rw [hQ]
    exact W.iret (v := (-1)) hx hb hr (fun t ht hW => ⟨⟨(-1), (-1), rfl, rfl, xf [], xh [], xv [0], xl [], by rw [ht]; exact hP9, hD9, ⟨(show 0 ≤ (0 : Int32).toInt ∧ (0 : Int32).toInt ≤ 940 by decide), trivial⟩⟩, hS.F ht⟩) hS.2.2 dX11_ledger_33
abbrev pre_X2_doesWait (T : Nat → ClassId) (a ex : Nat → Nat) (fi : Nat → Nat → Int32) (fl : Nat → Nat → Int64) (vi : Nat → Int32) (vl : Nat → Int64) : va_W := [((a 0), .inr (2, [.ref (ex 0), .int (vi 1), .int (vi 2), .int (vi 3), .int (vi 4), .int (vi 5), .int (vi 6), .ref (ex 1), .ref (ex 2), .ref (ex 3), .ref (a 1), .ref (ex 4), .ref (ex 5), .ref (ex 6), .ref (ex 7)])), ((a 1), .inl (T 1, 9, .inl (fi 0)))]
set_option maxHeartbeats 8000000 in
set_option maxRecDepth 100000 in
theorem c_X2_doesWait (l : Launch) (D : va_G) (T : Nat → ClassId) (a ex : Nat → Nat) (fi : Nat → Nat → Int32) (fl : Nat → Nat → Int64) (vi : Nat → Int32) (vl : Nat → Int64) (sz : Nat) (hp0 : 0 ≤ (vi 0).toInt ∧ (vi 0).toInt ≤ 8) (hp1 : 0 ≤ (vi 1).toInt ∧ (vi 1).toInt ≤ 200) (hp2 : 0 ≤ (vi 6).toInt ∧ (vi 6).toInt ≤ 9) (hp3 : rg (fi 0) 0 9 (-1) 8) : Met l yX2_doesWait (xw yX2_doesWait cX2_doesWait 2 (some .boolean)) ({ frames := 2, cells := 0, slots := 0, locals := 50 }) (xP D T [.ref (a 0), .int (vi 0)] sz (pre_X2_doesWait T a ex fi fl vi vl)) (va_Qi (fun r u => r = u) (xC D (va_A (pre_X2_doesWait T a ex fi fl vi vl) sz) (fun fj fm vj vm => [((a 0), .inr (2, [.ref (ex 0), .int (vi 1), .int (vi 2), .int (vi 3), .int (vi 4), .int (vi 5), .int (vi 6), .ref (ex 1), .ref (ex 2), .ref (ex 3), .ref (a 1), .ref (ex 4), .ref (ex 5), .ref (ex 6), .ref (ex 7)])), ((a 1), .inl (T 1, 9, .inl (fi 0)))]) (fun (r : Int32) (fj : Nat → Nat → Int32) (fm : Nat → Nat → Int64) (vj : Nat → Int32) (vm : Nat → Int64) => ((r = 1 ∧ (True)) ∨ (r = 0 ∧ (True))) ∧ True)) (va_A (pre_X2_doesWait T a ex fi fl vi vl) sz)) 0 0 (va_A (pre_X2_doesWait T a ex fi fl vi vl) sz) := by
  refine xofW (cc := cX2_doesWait) (maxL := 2) (ret := (some .boolean)) (by decide) rfl ?_
  intro p e s m args below meth c s₁ R Q hR hQ B hml hv
  obtain ⟨rfl, hsz, hP, hK, hD0⟩ := hv
  have hx := B.exec
  have hb := B.bytes
  have hr := B.returns
  have hts := atoms_spec (ws := xw yX2_doesWait cX2_doesWait 2 (some .boolean)) B.pre
  have htg : ∀ w ∈ xg, w.before _ s = true := fun w h => hts w (List.mem_cons_of_mem _ h)
  have hown : s.vm.findClass RX2 = some m.cls := findClass_of_methodNamed B.named
  have hlocks := B.notSynchronized
  subst hsz
  have hD := hD0.self (sz := s.heap.size)
  generalize hAe : va_A (pre_X2_doesWait T a ex fi fl vi vl) s.heap.size = A at hD hQ
  have hA : ∀ q : Nat, s.heap.size ≤ q → A q := fun q h => by rw [← hAe]; exact Or.inr h
  have hS : va_S A s.heap s.heap [] := va_S.rf
  replace hP : va_P D vwCl [((a 0), .inr (2, [.ref (ex 0), .int (vi 1), .int (vi 2), .int (vi 3), .int (vi 4), .int (vi 5), .int (vi 6), .ref (ex 1), .ref (ex 2), .ref (ex 3), .ref (a 1), .ref (ex 4), .ref (ex 5), .ref (ex 6), .ref (ex 7)])), ((a 1), .inl (T 1, 9, .inl (fi 0)))] s.heap := hP
  replace hD : va_D A [((a 0), .inr (2, [.ref (ex 0), .int (vi 1), .int (vi 2), .int (vi 3), .int (vi 4), .int (vi 5), .int (vi 6), .ref (ex 1), .ref (ex 2), .ref (ex 3), .ref (a 1), .ref (ex 4), .ref (ex 5), .ref (ex 6), .ref (ex 7)])), ((a 1), .inl (T 1, 9, .inl (fi 0)))] := hD
  have hl := lv_entry ([.ref (a 0), .int (vi 0)]) (n := 2) (Nat.le_of_ble_eq_true rfl)
  rw [lg_entry_eq]
  generalize (lg_sl ([.ref (a 0), .int (vi 0)]) ++ List.replicate (2 - (lg_sl ([.ref (a 0), .int (vi 0)])).length) Slot.unset).toArray = ls at hl ⊢
  replace hl : lv_has ls 2 [(0, .ref (a 0)), (1, .int (vi 0))] := hl
  refine lv_aload_n hx hb dX2_doesWait_0 rfl (lv_at hl 0 rfl) ?_
  refine lv_iload_n hx hb dX2_doesWait_1 rfl (lv_at hl 1 rfl) ?_
  obtain ⟨hC9, hPc, hDc, hFc⟩ := xcut (wc := (pre_X2_isAlive T (xa [(a 0)]) (xa [(ex 0), (ex 1), (ex 2), (ex 3), (a 1), (ex 4), (ex 5), (ex 6), (ex 7)]) (xf []) (xh []) (xv [(vi 0), (vi 1), (vi 2), (vi 3), (vi 4), (vi 5), (vi 6)]) (xl []))) hP hD hS hA [0] (by decide) rfl
  refine va_calli (va_runV (As := [.int (vi 0)]) (rest := []) ⟨hx, hb, hml, hown, htg⟩ (c_X2_isAlive l D T (xa [(a 0)]) (xa [(ex 0), (ex 1), (ex 2), (ex 3), (a 1), (ex 4), (ex 5), (ex 6), (ex 7)]) (xf []) (xh []) (xv [(vi 0), (vi 1), (vi 2), (vi 3), (vi 4), (vi 5), (vi 6)]) (xl []) s.heap.size hp1 hp2) ⟨callB_of 1 htg (xg_ok kw_796) rfl rfl rfl (htg _ kw_9) (htg _ kw_793) (by decide +kernel) ⟨by rw [hR]; exact Nat.le_of_ble_eq_true rfl, by rw [hR]; exact Nat.le_of_ble_eq_true rfl⟩, htg _ kw_795, htg _ ks_45⟩ (xpreV hK hPc hDc (va_recv hK.1 hPc (ci := 2) (q0 := 0) rfl rfl)) rfl rfl hl.1 rfl (lv_room (Nat.le_of_ble_eq_true rfl)) dX2_doesWait_2 ⟨by rw [hR]; exact Nat.le_of_ble_eq_true rfl, by rw [hR]; exact Nat.le_of_ble_eq_true rfl⟩) hS (fun q _ h => hFc q h) hFc (fun r9 u9 t H1 locs ht hvm hw hB hz1 hk1 hS => ?_)
  subst hw
  obtain ⟨fik, flk, vik, vlk, hP1, hD1, hG⟩ := hB
  rw [ht] at hP1
  obtain ⟨hP, hD⟩ := va_join (wr := [((a 1), .inl (T 1, 9, .inl (fi 0)))]) (w1 := [((a 0), .inr (2, [.ref (ex 0), .int (vi 1), .int (vi 2), .int (vi 3), .int (vi 4), .int (vi 5), .int (vi 6), .ref (ex 1), .ref (ex 2), .ref (ex 3), .ref (a 1), .ref (ex 4), .ref (ex 5), .ref (ex 6), .ref (ex 7)]))]) hP hD [0] [1] hC9 rfl (by decide) (by decide) hk1 hFc hP1 hD1
  obtain ⟨rk, er9⟩ : ∃ z, z = r9 := ⟨_, rfl⟩
  subst er9
  clear hPc hDc hFc hP1 hD1 hk1 hz1 hvm ht hC9
  generalize H1 = H at hP hS ⊢
  obtain ⟨hP, hD⟩ := (show xPD D A [((a 1), .inl (T 1, 9, .inl (fi 0))), ((a 0), .inr (2, [.ref (ex 0), .int (vi 1), .int (vi 2), .int (vi 3), .int (vi 4), .int (vi 5), .int (vi 6), .ref (ex 1), .ref (ex 2), .ref (ex 3), .ref (a 1), .ref (ex 4), .ref (ex 5), .ref (ex 6), .ref (ex 7)]))] H from ⟨hP, hD⟩)
  obtain ⟨gk_0, -⟩ := hG
  rcases (show (rk = 1 ∧ (True)) ∨ (rk = 0 ∧ (True)) from gk_0) with ⟨er9, gk_0⟩ | ⟨er9, gk_0⟩
  · refine xz_i 1 er9 ?_
    refine lv_if_eq (tgt := 22) hx hb dX2_doesWait_5 (by decide) (fun c => absurd c (by decide)) (fun _ => ?_)
    refine lv_aload_n hx hb dX2_doesWait_8 rfl (lv_at hl 0 rfl) ?_
    refine va_get (D := D) (ci := 2) (v := .ref (a 1)) (C := RX2) (T := TX2) (N := 15) hx hb htg inX2 hown hK.1 hP 1 rfl rfl 10 (by decide) (htg _ kw_267) (fun _ h9 => h9) rfl dX2_doesWait_9 ?_
    refine lv_iload_n hx hb dX2_doesWait_12 rfl (lv_at hl 1 rfl) ?_
    refine va_iald hx hb hK.1 hP 0 1 rfl rfl (vp_in_iff.mpr (by omega)) dX2_doesWait_13 ?_
    have hv := rg_at hp3 (i := (vi 0)) (by omega) (by omega)
    refine lv_iconst (v := (-1)) hx hb dX2_doesWait_14 (by decide) ?_
    refine lv_icmp_ne (tgt := 22) hx hb dX2_doesWait_15 (by decide) (fun c15 => ?_) (fun c15 => ?_)
    · have c15 := xne (k := (-1)) (by decide) c15
      refine lv_iconst (v := 0) hx hb dX2_doesWait_22 (by decide) ?_
      have hP9 := hP.sub (ws' := [((a 0), .inr (2, [.ref (ex 0), .int (vi 1), .int (vi 2), .int (vi 3), .int (vi 4), .int (vi 5), .int (vi 6), .ref (ex 1), .ref (ex 2), .ref (ex 3), .ref (a 1), .ref (ex 4), .ref (ex 5), .ref (ex 6), .ref (ex 7)])), ((a 1), .inl (T 1, 9, .inl (fi 0)))]) [1, 0] rfl
      have hD9 := hD.sub (ws' := [((a 0), .inr (2, [.ref (ex 0), .int (vi 1), .int (vi 2), .int (vi 3), .int (vi 4), .int (vi 5), .int (vi 6), .ref (ex 1), .ref (ex 2), .ref (ex 3), .ref (a 1), .ref (ex 4), .ref (ex 5), .ref (ex 6), .ref (ex 7)])), ((a 1), .inl (T 1, 9, .inl (fi 0)))]) [1, 0] (by decide +kernel) rfl
      rw [hQ]
      exact W.zret (v := 0) hx hb hr rfl (fun t ht hW => ⟨⟨0, 0, rfl, rfl, xf [], xh [], xv [], xl [], by rw [ht]; exact hP9, hD9, ⟨(Or.inr ⟨rfl, by show True; first | trivial | omega | assumption⟩), trivial⟩⟩, hS.F ht⟩) hS.2.2 dX2_doesWait_23
    · have c15 := xeq (k := (-1)) (by decide) c15
      refine lv_iconst (v := 1) hx hb dX2_doesWait_18 (by decide) ?_
      refine lv_goto (tgt := 23) hx hb dX2_doesWait_19 (by decide) ?_
      have hP9 := hP.sub (ws' := [((a 0), .inr (2, [.ref (ex 0), .int (vi 1), .int (vi 2), .int (vi 3), .int (vi 4), .int (vi 5), .int (vi 6), .ref (ex 1), .ref (ex 2), .ref (ex 3), .ref (a 1), .ref (ex 4), .ref (ex 5), .ref (ex 6), .ref (ex 7)])), ((a 1), .inl (T 1, 9, .inl (fi 0)))]) [1, 0] rfl
      have hD9 := hD.sub (ws' := [((a 0), .inr (2, [.ref (ex 0), .int (vi 1), .int (vi 2), .int (vi 3), .int (vi 4), .int (vi 5), .int (vi 6), .ref (ex 1), .ref (ex 2), .ref (ex 3), .ref (a 1), .ref (ex 4), .ref (ex 5), .ref (ex 6), .ref (ex 7)])), ((a 1), .inl (T 1, 9, .inl (fi 0)))]) [1, 0] (by decide +kernel) rfl
      rw [hQ]
      exact W.zret (v := 1) hx hb hr rfl (fun t ht hW => ⟨⟨1, 1, rfl, rfl, xf [], xh [], xv [], xl [], by rw [ht]; exact hP9, hD9, ⟨(Or.inl ⟨rfl, by show True; first | trivial | omega | assumption⟩), trivial⟩⟩, hS.F ht⟩) hS.2.2 dX2_doesWait_23
  · refine xz_i 0 er9 ?_
    refine lv_if_eq (tgt := 22) hx hb dX2_doesWait_5 (by decide) (fun _ => ?_) (fun c => absurd (by decide) c)
    refine lv_iconst (v := 0) hx hb dX2_doesWait_22 (by decide) ?_
    have hP9 := hP.sub (ws' := [((a 0), .inr (2, [.ref (ex 0), .int (vi 1), .int (vi 2), .int (vi 3), .int (vi 4), .int (vi 5), .int (vi 6), .ref (ex 1), .ref (ex 2), .ref (ex 3), .ref (a 1), .ref (ex 4), .ref (ex 5), .ref (ex 6), .ref (ex 7)])), ((a 1), .inl (T 1, 9, .inl (fi 0)))]) [1, 0] rfl
    have hD9 := hD.sub (ws' := [((a 0), .inr (2, [.ref (ex 0), .int (vi 1), .int (vi 2), .int (vi 3), .int (vi 4), .int (vi 5), .int (vi 6), .ref (ex 1), .ref (ex 2), .ref (ex 3), .ref (a 1), .ref (ex 4), .ref (ex 5), .ref (ex 6), .ref (ex 7)])), ((a 1), .inl (T 1, 9, .inl (fi 0)))]) [1, 0] (by decide +kernel) rfl
    rw [hQ]
    exact W.zret (v := 0) hx hb hr rfl (fun t ht hW => ⟨⟨0, 0, rfl, rfl, xf [], xh [], xv [], xl [], by rw [ht]; exact hP9, hD9, ⟨(Or.inr ⟨rfl, by show True; first | trivial | omega | assumption⟩), trivial⟩⟩, hS.F ht⟩) hS.2.2 dX2_doesWait_23
abbrev pre_X2_hasVotes (T : Nat → ClassId) (a ex : Nat → Nat) (fi : Nat → Nat → Int32) (fl : Nat → Nat → Int64) (vi : Nat → Int32) (vl : Nat → Int64) : va_W := [((a 0), .inr (2, [.ref (a 1), .int (vi 1), .int (vi 2), .int (vi 3), .int (vi 4), .int (vi 5), .int (vi 6), .ref (ex 0), .ref (ex 1), .ref (ex 2), .ref (a 2), .ref (ex 3), .ref (ex 4), .ref (ex 5), .ref (ex 6)])), ((a 1), .inr (7, [.int (vi 7), .int (vi 8), .ref (ex 7), .ref (ex 8), .ref (ex 9), .ref (ex 10), .ref (ex 11), .ref (ex 12), .ref (ex 13), .ref (ex 14), .ref (ex 15), .ref (ex 16)])), ((a 2), .inl (T 1, 9, .inl (fi 0)))]
set_option maxHeartbeats 8000000 in
set_option maxRecDepth 100000 in
theorem c_X2_hasVotes (l : Launch) (D : va_G) (T : Nat → ClassId) (a ex : Nat → Nat) (fi : Nat → Nat → Int32) (fl : Nat → Nat → Int64) (vi : Nat → Int32) (vl : Nat → Int64) (sz : Nat) (hp0 : 0 ≤ (vi 1).toInt ∧ (vi 1).toInt ≤ 200) (hp1 : 0 ≤ (vi 6).toInt ∧ (vi 6).toInt ≤ 9) (hp2 : 0 ≤ (vi 7).toInt ∧ (vi 7).toInt ≤ 9) (hp3 : 0 ≤ (vi 8).toInt ∧ (vi 8).toInt ≤ 9) (hp4 : rg (fi 0) 0 9 (-1) 8) : Met l yX2_hasVotes (xw yX2_hasVotes cX2_hasVotes 6 (some .boolean)) ({ frames := 3, cells := 0, slots := 0, locals := 75 }) (xP D T [.ref (a 0), .int (vi 0)] sz (pre_X2_hasVotes T a ex fi fl vi vl)) (va_Qi (fun r u => r = u) (xC D (va_A (pre_X2_hasVotes T a ex fi fl vi vl) sz) (fun fj fm vj vm => [((a 0), .inr (2, [.ref (a 1), .int (vi 1), .int (vi 2), .int (vi 3), .int (vi 4), .int (vi 5), .int (vi 6), .ref (ex 0), .ref (ex 1), .ref (ex 2), .ref (a 2), .ref (ex 3), .ref (ex 4), .ref (ex 5), .ref (ex 6)])), ((a 1), .inr (7, [.int (vi 7), .int (vi 8), .ref (ex 7), .ref (ex 8), .ref (ex 9), .ref (ex 10), .ref (ex 11), .ref (ex 12), .ref (ex 13), .ref (ex 14), .ref (ex 15), .ref (ex 16)])), ((a 2), .inl (T 1, 9, .inl (fi 0)))]) (fun (r : Int32) (fj : Nat → Nat → Int32) (fm : Nat → Nat → Int64) (vj : Nat → Int32) (vm : Nat → Int64) => ((r = 1 ∧ (True)) ∨ (r = 0 ∧ (True))) ∧ True)) (va_A (pre_X2_hasVotes T a ex fi fl vi vl) sz)) 0 0 (va_A (pre_X2_hasVotes T a ex fi fl vi vl) sz) := by
  refine xofW (cc := cX2_hasVotes) (maxL := 6) (ret := (some .boolean)) (by decide) rfl ?_
  intro p e s m args below meth c s₁ R Q hR hQ B hml hv
  obtain ⟨rfl, hsz, hP, hK, hD0⟩ := hv
  have hx := B.exec
  have hb := B.bytes
  have hr := B.returns
  have hts := atoms_spec (ws := xw yX2_hasVotes cX2_hasVotes 6 (some .boolean)) B.pre
  have htg : ∀ w ∈ xg, w.before _ s = true := fun w h => hts w (List.mem_cons_of_mem _ h)
  have hown : s.vm.findClass RX2 = some m.cls := findClass_of_methodNamed B.named
  have hlocks := B.notSynchronized
  subst hsz
  have hD := hD0.self (sz := s.heap.size)
  generalize hAe : va_A (pre_X2_hasVotes T a ex fi fl vi vl) s.heap.size = A at hD hQ
  have hA : ∀ q : Nat, s.heap.size ≤ q → A q := fun q h => by rw [← hAe]; exact Or.inr h
  have hS : va_S A s.heap s.heap [] := va_S.rf
  replace hP : va_P D vwCl [((a 0), .inr (2, [.ref (a 1), .int (vi 1), .int (vi 2), .int (vi 3), .int (vi 4), .int (vi 5), .int (vi 6), .ref (ex 0), .ref (ex 1), .ref (ex 2), .ref (a 2), .ref (ex 3), .ref (ex 4), .ref (ex 5), .ref (ex 6)])), ((a 1), .inr (7, [.int (vi 7), .int (vi 8), .ref (ex 7), .ref (ex 8), .ref (ex 9), .ref (ex 10), .ref (ex 11), .ref (ex 12), .ref (ex 13), .ref (ex 14), .ref (ex 15), .ref (ex 16)])), ((a 2), .inl (T 1, 9, .inl (fi 0)))] s.heap := hP
  replace hD : va_D A [((a 0), .inr (2, [.ref (a 1), .int (vi 1), .int (vi 2), .int (vi 3), .int (vi 4), .int (vi 5), .int (vi 6), .ref (ex 0), .ref (ex 1), .ref (ex 2), .ref (a 2), .ref (ex 3), .ref (ex 4), .ref (ex 5), .ref (ex 6)])), ((a 1), .inr (7, [.int (vi 7), .int (vi 8), .ref (ex 7), .ref (ex 8), .ref (ex 9), .ref (ex 10), .ref (ex 11), .ref (ex 12), .ref (ex 13), .ref (ex 14), .ref (ex 15), .ref (ex 16)])), ((a 2), .inl (T 1, 9, .inl (fi 0)))] := hD
  have hl := lv_entry ([.ref (a 0), .int (vi 0)]) (n := 6) (Nat.le_of_ble_eq_true rfl)
  rw [lg_entry_eq]
  generalize (lg_sl ([.ref (a 0), .int (vi 0)]) ++ List.replicate (6 - (lg_sl ([.ref (a 0), .int (vi 0)])).length) Slot.unset).toArray = ls at hl ⊢
  replace hl : lv_has ls 6 [(0, .ref (a 0)), (1, .int (vi 0))] := hl
  refine lv_iconst (v := 0) hx hb dX2_hasVotes_0 (by decide) ?_
  refine lv_istore_n (lv' := [(2, .int 0), (0, .ref (a 0)), (1, .int (vi 0))]) hx hb dX2_hasVotes_1 rfl hl (by decide) rfl (fun ls hl => ?_)
  refine lv_iconst (v := 0) hx hb dX2_hasVotes_2 (by decide) ?_
  refine lv_istore_n (lv' := [(3, .int 0), (2, .int 0), (0, .ref (a 0)), (1, .int (vi 0))]) hx hb dX2_hasVotes_3 rfl hl (by decide) rfl (fun ls hl => ?_)
  refine lv_iconst (v := 1) hx hb dX2_hasVotes_4 (by decide) ?_
  refine lv_istore (lv' := [(4, .int 1), (3, .int 0), (2, .int 0), (0, .ref (a 0)), (1, .int (vi 0))]) hx hb dX2_hasVotes_5 hl (by decide) rfl (fun ls hl => ?_)
  refine lv_iconst (v := 0) hx hb dX2_hasVotes_7 (by decide) ?_
  refine lv_istore (lv' := [(5, .int 0), (4, .int 1), (3, .int 0), (2, .int 0), (0, .ref (a 0)), (1, .int (vi 0))]) hx hb dX2_hasVotes_8 hl (by decide) rfl (fun ls hl => ?_)
  have lp : ∀ (kn : Nat) (w5 : Int32) (w4 : Int32) (w3 : Int32) (w2 : Int32) (H : Heap) (locs : List Loc) (ls : Array Slot), (0 ≤ w5.toInt) → (2147483648 - w5.toInt).toNat = kn → va_P D vwCl [((a 0), .inr (2, [.ref (a 1), .int (vi 1), .int (vi 2), .int (vi 3), .int (vi 4), .int (vi 5), .int (vi 6), .ref (ex 0), .ref (ex 1), .ref (ex 2), .ref (a 2), .ref (ex 3), .ref (ex 4), .ref (ex 5), .ref (ex 6)])), ((a 1), .inr (7, [.int (vi 7), .int (vi 8), .ref (ex 7), .ref (ex 8), .ref (ex 9), .ref (ex 10), .ref (ex 11), .ref (ex 12), .ref (ex 13), .ref (ex 14), .ref (ex 15), .ref (ex 16)])), ((a 2), .inl (T 1, 9, .inl (fi 0)))] H → va_D A [((a 0), .inr (2, [.ref (a 1), .int (vi 1), .int (vi 2), .int (vi 3), .int (vi 4), .int (vi 5), .int (vi 6), .ref (ex 0), .ref (ex 1), .ref (ex 2), .ref (a 2), .ref (ex 3), .ref (ex 4), .ref (ex 5), .ref (ex 6)])), ((a 1), .inr (7, [.int (vi 7), .int (vi 8), .ref (ex 7), .ref (ex 8), .ref (ex 9), .ref (ex 10), .ref (ex 11), .ref (ex 12), .ref (ex 13), .ref (ex 14), .ref (ex 15), .ref (ex 16)])), ((a 2), .inl (T 1, 9, .inl (fi 0)))] → va_S A s.heap H locs → lv_has ls 6 [(5, .int w5), (4, .int w4), (3, .int w3), (2, .int w2), (0, .ref (a 0)), (1, .int (vi 0))] → W p l e R s m ([.ref (a 0), .int (vi 0)] : List Value).toArray below meth c H locs 0 0 Q (F0 m 10 ls []) := by
    intro kn
    induction kn using Nat.strongRecOn with
    | _ kn ih =>
      intro w5 w4 w3 w2 H locs ls hi hm hP hD hS hl
      refine lv_iload hx hb dX2_hasVotes_10 (lv_at hl 0 rfl) ?_
      refine lv_aload_n hx hb dX2_hasVotes_12 rfl (lv_at hl 4 rfl) ?_
      refine va_get (D := D) (ci := 2) (v := .ref (a 1)) (C := RX2) (T := TX2) (N := 15) hx hb htg inX2 hown hK.1 hP 0 rfl rfl 0 (by decide) (htg _ kw_245) (fun _ h9 => h9) rfl dX2_hasVotes_13 ?_
      refine va_getN (D := D) (ci := 7) (v := .int (vi 8)) (C := RX7) (T := TX7) (N := 12) hx hb htg inX7 hown hK.1 hP 1 rfl rfl 1 (by decide) (va_Nw.use rfl (hK.2.1 _ kn_164)) (fun _ h9 => h9) rfl dX2_hasVotes_16 ?_
      refine lv_icmp_ge (tgt := 82) hx hb dX2_hasVotes_19 (by decide) (fun c19 => ?_) (fun c19 => ?_)
      · have c19 := Int32.le_iff_toInt_le.mp c19
        have rc19 := xrng w5; have qc19 := xrng (vi 8)
        refine lv_aload_n hx hb dX2_hasVotes_82 rfl (lv_at hl 4 rfl) ?_
        refine va_get (D := D) (ci := 2) (v := .int (vi 6)) (C := RX2) (T := TX2) (N := 15) hx hb htg inX2 hown hK.1 hP 0 rfl rfl 6 (by decide) (htg _ kw_257) (fun _ h9 => h9) rfl dX2_hasVotes_83 ?_
        refine lv_if_le (tgt := 105) hx hb dX2_hasVotes_86 (by decide) (fun c86 => ?_) (fun c86 => ?_)
        · have c86 := xle (k := 0) (by decide) c86
          refine lv_iconst (v := 2) hx hb dX2_hasVotes_105 (by decide) ?_
          refine lv_iload_n hx hb dX2_hasVotes_106 rfl (lv_at hl 2 rfl) ?_
          refine lv_imul hx hb dX2_hasVotes_107 ?_
          refine lv_topi (fun z107 ez107 => ?_)
          refine lv_iload_n hx hb dX2_hasVotes_108 rfl (lv_at hl 3 rfl) ?_
          refine lv_icmp_le (tgt := 116) hx hb dX2_hasVotes_109 (by decide) (fun c109 => ?_) (fun c109 => ?_)
          · have c109 := Int32.le_iff_toInt_le.mp c109
            have rc109 := xrng z107; have qc109 := xrng w2
            refine lv_iconst (v := 0) hx hb dX2_hasVotes_116 (by decide) ?_
            have hP9 := hP.sub (ws' := [((a 0), .inr (2, [.ref (a 1), .int (vi 1), .int (vi 2), .int (vi 3), .int (vi 4), .int (vi 5), .int (vi 6), .ref (ex 0), .ref (ex 1), .ref (ex 2), .ref (a 2), .ref (ex 3), .ref (ex 4), .ref (ex 5), .ref (ex 6)])), ((a 1), .inr (7, [.int (vi 7), .int (vi 8), .ref (ex 7), .ref (ex 8), .ref (ex 9), .ref (ex 10), .ref (ex 11), .ref (ex 12), .ref (ex 13), .ref (ex 14), .ref (ex 15), .ref (ex 16)])), ((a 2), .inl (T 1, 9, .inl (fi 0)))]) [0, 1, 2] rfl
            have hD9 := hD.sub (ws' := [((a 0), .inr (2, [.ref (a 1), .int (vi 1), .int (vi 2), .int (vi 3), .int (vi 4), .int (vi 5), .int (vi 6), .ref (ex 0), .ref (ex 1), .ref (ex 2), .ref (a 2), .ref (ex 3), .ref (ex 4), .ref (ex 5), .ref (ex 6)])), ((a 1), .inr (7, [.int (vi 7), .int (vi 8), .ref (ex 7), .ref (ex 8), .ref (ex 9), .ref (ex 10), .ref (ex 11), .ref (ex 12), .ref (ex 13), .ref (ex 14), .ref (ex 15), .ref (ex 16)])), ((a 2), .inl (T 1, 9, .inl (fi 0)))]) [0, 1, 2] (by decide +kernel) rfl
            rw [hQ]
            exact W.zret (v := 0) hx hb hr rfl (fun t ht hW => ⟨⟨0, 0, rfl, rfl, xf [], xh [], xv [], xl [], by rw [ht]; exact hP9, hD9, ⟨(Or.inr ⟨rfl, by show True; first | trivial | omega | assumption⟩), trivial⟩⟩, hS.F ht⟩) hS.2.2 dX2_hasVotes_117
          · have c109 := (mt Int32.le_iff_toInt_le.mpr c109)
            have rc109 := xrng z107; have qc109 := xrng w2
            refine lv_iconst (v := 1) hx hb dX2_hasVotes_112 (by decide) ?_
            refine lv_goto (tgt := 117) hx hb dX2_hasVotes_113 (by decide) ?_
            have hP9 := hP.sub (ws' := [((a 0), .inr (2, [.ref (a 1), .int (vi 1), .int (vi 2), .int (vi 3), .int (vi 4), .int (vi 5), .int (vi 6), .ref (ex 0), .ref (ex 1), .ref (ex 2), .ref (a 2), .ref (ex 3), .ref (ex 4), .ref (ex 5), .ref (ex 6)])), ((a 1), .inr (7, [.int (vi 7), .int (vi 8), .ref (ex 7), .ref (ex 8), .ref (ex 9), .ref (ex 10), .ref (ex 11), .ref (ex 12), .ref (ex 13), .ref (ex 14), .ref (ex 15), .ref (ex 16)])), ((a 2), .inl (T 1, 9, .inl (fi 0)))]) [0, 1, 2] rfl
            have hD9 := hD.sub (ws' := [((a 0), .inr (2, [.ref (a 1), .int (vi 1), .int (vi 2), .int (vi 3), .int (vi 4), .int (vi 5), .int (vi 6), .ref (ex 0), .ref (ex 1), .ref (ex 2), .ref (a 2), .ref (ex 3), .ref (ex 4), .ref (ex 5), .ref (ex 6)])), ((a 1), .inr (7, [.int (vi 7), .int (vi 8), .ref (ex 7), .ref (ex 8), .ref (ex 9), .ref (ex 10), .ref (ex 11), .ref (ex 12), .ref (ex 13), .ref (ex 14), .ref (ex 15), .ref (ex 16)])), ((a 2), .inl (T 1, 9, .inl (fi 0)))]) [0, 1, 2] (by decide +kernel) rfl
            rw [hQ]
            exact W.zret (v := 1) hx hb hr rfl (fun t ht hW => ⟨⟨1, 1, rfl, rfl, xf [], xh [], xv [], xl [], by rw [ht]; exact hP9, hD9, ⟨(Or.inl ⟨rfl, by show True; first | trivial | omega | assumption⟩), trivial⟩⟩, hS.F ht⟩) hS.2.2 dX2_hasVotes_117
        · have c86 := xnle (k := 0) (by decide) c86
          obtain ⟨i89, ei89⟩ : ∃ z : Int32, w2 + Int32.ofInt 1 = z := ⟨_, rfl⟩
          refine lv_iinc (v := i89) (lv' := [(2, .int i89), (5, .int w5), (4, .int w4), (3, .int w3), (0, .ref (a 0)), (1, .int (vi 0))]) hx hb dX2_hasVotes_89 hl (k := 3) rfl ei89 (by decide) rfl (fun ls hl => ?_)
          refine lv_iload_n hx hb dX2_hasVotes_92 rfl (lv_at hl 3 rfl) ?_
          refine lv_iload hx hb dX2_hasVotes_93 (lv_at hl 2 rfl) ?_
          refine lv_if_eq (tgt := 102) hx hb dX2_hasVotes_95 (by decide) (fun c95 => ?_) (fun c95 => ?_)
          · have c95 := xeq (k := 0) (by decide) c95
            refine lv_iconst (v := 0) hx hb dX2_hasVotes_102 (by decide) ?_
            refine lv_iadd hx hb dX2_hasVotes_103 ?_
            refine lv_topi (fun z103 ez103 => ?_)
            have tz103 : z103.toInt = w3.toInt + 0 := by rw [ez103]; have h79 := xrng w3; exact xadd rfl (by decide) (by omega) (by omega)
            refine lv_istore_n (lv' := [(3, .int z103), (2, .int i89), (5, .int w5), (4, .int w4), (0, .ref (a 0)), (1, .int (vi 0))]) hx hb dX2_hasVotes_104 rfl hl (by decide) rfl (fun ls hl => ?_)
            refine lv_iconst (v := 2) hx hb dX2_hasVotes_105 (by decide) ?_
            refine lv_iload_n hx hb dX2_hasVotes_106 rfl (lv_at hl 0 rfl) ?_
            refine lv_imul hx hb dX2_hasVotes_107 ?_
            refine lv_topi (fun z107_1 ez107_1 => ?_)
            refine lv_iload_n hx hb dX2_hasVotes_108 rfl (lv_at hl 1 rfl) ?_
            refine lv_icmp_le (tgt := 116) hx hb dX2_hasVotes_109 (by decide) (fun c109_1 => ?_) (fun c109_1 => ?_)
            · have c109_1 := Int32.le_iff_toInt_le.mp c109_1
              have rc109_1 := xrng z107_1; have qc109_1 := xrng i89
              refine lv_iconst (v := 0) hx hb dX2_hasVotes_116 (by decide) ?_
              have hP9 := hP.sub (ws' := [((a 0), .inr (2, [.ref (a 1), .int (vi 1), .int (vi 2), .int (vi 3), .int (vi 4), .int (vi 5), .int (vi 6), .ref (ex 0), .ref (ex 1), .ref (ex 2), .ref (a 2), .ref (ex 3), .ref (ex 4), .ref (ex 5), .ref (ex 6)])), ((a 1), .inr (7, [.int (vi 7), .int (vi 8), .ref (ex 7), .ref (ex 8), .ref (ex 9), .ref (ex 10), .ref (ex 11), .ref (ex 12), .ref (ex 13), .ref (ex 14), .ref (ex 15), .ref (ex 16)])), ((a 2), .inl (T 1, 9, .inl (fi 0)))]) [0, 1, 2] rfl
              have hD9 := hD.sub (ws' := [((a 0), .inr (2, [.ref (a 1), .int (vi 1), .int (vi 2), .int (vi 3), .int (vi 4), .int (vi 5), .int (vi 6), .ref (ex 0), .ref (ex 1), .ref (ex 2), .ref (a 2), .ref (ex 3), .ref (ex 4), .ref (ex 5), .ref (ex 6)])), ((a 1), .inr (7, [.int (vi 7), .int (vi 8), .ref (ex 7), .ref (ex 8), .ref (ex 9), .ref (ex 10), .ref (ex 11), .ref (ex 12), .ref (ex 13), .ref (ex 14), .ref (ex 15), .ref (ex 16)])), ((a 2), .inl (T 1, 9, .inl (fi 0)))]) [0, 1, 2] (by decide +kernel) rfl
              rw [hQ]
              exact W.zret (v := 0) hx hb hr rfl (fun t ht hW => ⟨⟨0, 0, rfl, rfl, xf [], xh [], xv [], xl [], by rw [ht]; exact hP9, hD9, ⟨(Or.inr ⟨rfl, by show True; first | trivial | omega | assumption⟩), trivial⟩⟩, hS.F ht⟩) hS.2.2 dX2_hasVotes_117
            · have c109_1 := (mt Int32.le_iff_toInt_le.mpr c109_1)
              have rc109_1 := xrng z107_1; have qc109_1 := xrng i89
              refine lv_iconst (v := 1) hx hb dX2_hasVotes_112 (by decide) ?_
              refine lv_goto (tgt := 117) hx hb dX2_hasVotes_113 (by decide) ?_
              have hP9 := hP.sub (ws' := [((a 0), .inr (2, [.ref (a 1), .int (vi 1), .int (vi 2), .int (vi 3), .int (vi 4), .int (vi 5), .int (vi 6), .ref (ex 0), .ref (ex 1), .ref (ex 2), .ref (a 2), .ref (ex 3), .ref (ex 4), .ref (ex 5), .ref (ex 6)])), ((a 1), .inr (7, [.int (vi 7), .int (vi 8), .ref (ex 7), .ref (ex 8), .ref (ex 9), .ref (ex 10), .ref (ex 11), .ref (ex 12), .ref (ex 13), .ref (ex 14), .ref (ex 15), .ref (ex 16)])), ((a 2), .inl (T 1, 9, .inl (fi 0)))]) [0, 1, 2] rfl
              have hD9 := hD.sub (ws' := [((a 0), .inr (2, [.ref (a 1), .int (vi 1), .int (vi 2), .int (vi 3), .int (vi 4), .int (vi 5), .int (vi 6), .ref (ex 0), .ref (ex 1), .ref (ex 2), .ref (a 2), .ref (ex 3), .ref (ex 4), .ref (ex 5), .ref (ex 6)])), ((a 1), .inr (7, [.int (vi 7), .int (vi 8), .ref (ex 7), .ref (ex 8), .ref (ex 9), .ref (ex 10), .ref (ex 11), .ref (ex 12), .ref (ex 13), .ref (ex 14), .ref (ex 15), .ref (ex 16)])), ((a 2), .inl (T 1, 9, .inl (fi 0)))]) [0, 1, 2] (by decide +kernel) rfl
              rw [hQ]
              exact W.zret (v := 1) hx hb hr rfl (fun t ht hW => ⟨⟨1, 1, rfl, rfl, xf [], xh [], xv [], xl [], by rw [ht]; exact hP9, hD9, ⟨(Or.inl ⟨rfl, by show True; first | trivial | omega | assumption⟩), trivial⟩⟩, hS.F ht⟩) hS.2.2 dX2_hasVotes_117
          · have c95 := xne (k := 0) (by decide) c95
            refine lv_iconst (v := 1) hx hb dX2_hasVotes_98 (by decide) ?_
            refine lv_goto (tgt := 103) hx hb dX2_hasVotes_99 (by decide) ?_
            refine lv_iadd hx hb dX2_hasVotes_103 ?_
            refine lv_topi (fun z103_1 ez103_1 => ?_)
            refine lv_istore_n (lv' := [(3, .int z103_1), (2, .int i89), (5, .int w5), (4, .int w4), (0, .ref (a 0)), (1, .int (vi 0))]) hx hb dX2_hasVotes_104 rfl hl (by decide) rfl (fun ls hl => ?_)
            refine lv_iconst (v := 2) hx hb dX2_hasVotes_105 (by decide) ?_
            refine lv_iload_n hx hb dX2_hasVotes_106 rfl (lv_at hl 0 rfl) ?_
            refine lv_imul hx hb dX2_hasVotes_107 ?_
            refine lv_topi (fun z107_2 ez107_2 => ?_)
            refine lv_iload_n hx hb dX2_hasVotes_108 rfl (lv_at hl 1 rfl) ?_
            refine lv_icmp_le (tgt := 116) hx hb dX2_hasVotes_109 (by decide) (fun c109_2 => ?_) (fun c109_2 => ?_)
            · have c109_2 := Int32.le_iff_toInt_le.mp c109_2
              have rc109_2 := xrng z107_2; have qc109_2 := xrng i89
              refine lv_iconst (v := 0) hx hb dX2_hasVotes_116 (by decide) ?_
              have hP9 := hP.sub (ws' := [((a 0), .inr (2, [.ref (a 1), .int (vi 1), .int (vi 2), .int (vi 3), .int (vi 4), .int (vi 5), .int (vi 6), .ref (ex 0), .ref (ex 1), .ref (ex 2), .ref (a 2), .ref (ex 3), .ref (ex 4), .ref (ex 5), .ref (ex 6)])), ((a 1), .inr (7, [.int (vi 7), .int (vi 8), .ref (ex 7), .ref (ex 8), .ref (ex 9), .ref (ex 10), .ref (ex 11), .ref (ex 12), .ref (ex 13), .ref (ex 14), .ref (ex 15), .ref (ex 16)])), ((a 2), .inl (T 1, 9, .inl (fi 0)))]) [0, 1, 2] rfl
              have hD9 := hD.sub (ws' := [((a 0), .inr (2, [.ref (a 1), .int (vi 1), .int (vi 2), .int (vi 3), .int (vi 4), .int (vi 5), .int (vi 6), .ref (ex 0), .ref (ex 1), .ref (ex 2), .ref (a 2), .ref (ex 3), .ref (ex 4), .ref (ex 5), .ref (ex 6)])), ((a 1), .inr (7, [.int (vi 7), .int (vi 8), .ref (ex 7), .ref (ex 8), .ref (ex 9), .ref (ex 10), .ref (ex 11), .ref (ex 12), .ref (ex 13), .ref (ex 14), .ref (ex 15), .ref (ex 16)])), ((a 2), .inl (T 1, 9, .inl (fi 0)))]) [0, 1, 2] (by decide +kernel) rfl
              rw [hQ]
              exact W.zret (v := 0) hx hb hr rfl (fun t ht hW => ⟨⟨0, 0, rfl, rfl, xf [], xh [], xv [], xl [], by rw [ht]; exact hP9, hD9, ⟨(Or.inr ⟨rfl, by show True; first | trivial | omega | assumption⟩), trivial⟩⟩, hS.F ht⟩) hS.2.2 dX2_hasVotes_117
            · have c109_2 := (mt Int32.le_iff_toInt_le.mpr c109_2)
              have rc109_2 := xrng z107_2; have qc109_2 := xrng i89
              refine lv_iconst (v := 1) hx hb dX2_hasVotes_112 (by decide) ?_
              refine lv_goto (tgt := 117) hx hb dX2_hasVotes_113 (by decide) ?_
              have hP9 := hP.sub (ws' := [((a 0), .inr (2, [.ref (a 1), .int (vi 1), .int (vi 2), .int (vi 3), .int (vi 4), .int (vi 5), .int (vi 6), .ref (ex 0), .ref (ex 1), .ref (ex 2), .ref (a 2), .ref (ex 3), .ref (ex 4), .ref (ex 5), .ref (ex 6)])), ((a 1), .inr (7, [.int (vi 7), .int (vi 8), .ref (ex 7), .ref (ex 8), .ref (ex 9), .ref (ex 10), .ref (ex 11), .ref (ex 12), .ref (ex 13), .ref (ex 14), .ref (ex 15), .ref (ex 16)])), ((a 2), .inl (T 1, 9, .inl (fi 0)))]) [0, 1, 2] rfl
              have hD9 := hD.sub (ws' := [((a 0), .inr (2, [.ref (a 1), .int (vi 1), .int (vi 2), .int (vi 3), .int (vi 4), .int (vi 5), .int (vi 6), .ref (ex 0), .ref (ex 1), .ref (ex 2), .ref (a 2), .ref (ex 3), .ref (ex 4), .ref (ex 5), .ref (ex 6)])), ((a 1), .inr (7, [.int (vi 7), .int (vi 8), .ref (ex 7), .ref (ex 8), .ref (ex 9), .ref (ex 10), .ref (ex 11), .ref (ex 12), .ref (ex 13), .ref (ex 14), .ref (ex 15), .ref (ex 16)])), ((a 2), .inl (T 1, 9, .inl (fi 0)))]) [0, 1, 2] (by decide +kernel) rfl
              rw [hQ]
              exact W.zret (v := 1) hx hb hr rfl (fun t ht hW => ⟨⟨1, 1, rfl, rfl, xf [], xh [], xv [], xl [], by rw [ht]; exact hP9, hD9, ⟨(Or.inl ⟨rfl, by show True; first | trivial | omega | assumption⟩), trivial⟩⟩, hS.F ht⟩) hS.2.2 dX2_hasVotes_117
      · have c19 := (mt Int32.le_iff_toInt_le.mpr c19)
        have rc19 := xrng w5; have qc19 := xrng (vi 8)
        refine lv_aload_n hx hb dX2_hasVotes_22 rfl (lv_at hl 4 rfl) ?_
        refine lv_iload hx hb dX2_hasVotes_23 (lv_at hl 0 rfl) ?_
        obtain ⟨hC9, hPc, hDc, hFc⟩ := xcut (wc := (pre_X2_doesWait T (xa [(a 0), (a 2)]) (xa [(a 1), (ex 0), (ex 1), (ex 2), (ex 3), (ex 4), (ex 5), (ex 6)]) (xf [(fi 0)]) (xh []) (xv [w5, (vi 1), (vi 2), (vi 3), (vi 4), (vi 5), (vi 6)]) (xl []))) hP hD hS hA [0, 2] (by decide) rfl
        refine va_calli (va_runV (As := [.int w5]) (rest := []) ⟨hx, hb, hml, hown, htg⟩ (c_X2_doesWait l D T (xa [(a 0), (a 2)]) (xa [(a 1), (ex 0), (ex 1), (ex 2), (ex 3), (ex 4), (ex 5), (ex 6)]) (xf [(fi 0)]) (xh []) (xv [w5, (vi 1), (vi 2), (vi 3), (vi 4), (vi 5), (vi 6)]) (xl []) H.size (by show 0 ≤ w5.toInt ∧ w5.toInt ≤ 8; omega) hp0 hp1 (show rg (fi 0) 0 9 (-1) 8 from hp4)) ⟨callB_of 1 htg (xg_ok kw_1066) rfl rfl rfl (htg _ kw_9) (htg _ kw_1063) (by decide +kernel) ⟨by rw [hR]; exact Nat.le_of_ble_eq_true rfl, by rw [hR]; exact Nat.le_of_ble_eq_true rfl⟩, htg _ kw_1065, htg _ ks_88⟩ (xpreV hK hPc hDc (va_recv hK.1 hPc (ci := 2) (q0 := 0) rfl rfl)) rfl rfl hl.1 rfl (lv_room (Nat.le_of_ble_eq_true rfl)) dX2_hasVotes_25 ⟨by rw [hR]; exact Nat.le_of_ble_eq_true rfl, by rw [hR]; exact Nat.le_of_ble_eq_true rfl⟩) hS (fun q _ h => hFc q h) hFc (fun r9 u9 t H1 locs ht hvm hw hB hz1 hk1 hS => ?_)
        subst hw
        obtain ⟨fik, flk, vik, vlk, hP1, hD1, hG⟩ := hB
        rw [ht] at hP1
        obtain ⟨hP, hD⟩ := va_join (wr := [((a 1), .inr (7, [.int (vi 7), .int (vi 8), .ref (ex 7), .ref (ex 8), .ref (ex 9), .ref (ex 10), .ref (ex 11), .ref (ex 12), .ref (ex 13), .ref (ex 14), .ref (ex 15), .ref (ex 16)]))]) (w1 := [((a 0), .inr (2, [.ref (a 1), .int (vi 1), .int (vi 2), .int (vi 3), .int (vi 4), .int (vi 5), .int (vi 6), .ref (ex 0), .ref (ex 1), .ref (ex 2), .ref (a 2), .ref (ex 3), .ref (ex 4), .ref (ex 5), .ref (ex 6)])), ((a 2), .inl (T 1, 9, .inl (fi 0)))]) hP hD [0, 2] [1] hC9 rfl (by decide) (by decide) hk1 hFc hP1 hD1
        obtain ⟨rk, er9⟩ : ∃ z, z = r9 := ⟨_, rfl⟩
        subst er9
        clear hPc hDc hFc hP1 hD1 hk1 hz1 hvm ht hC9
        generalize H1 = H at hP hS ⊢
        obtain ⟨hP, hD⟩ := (show xPD D A [((a 1), .inr (7, [.int (vi 7), .int (vi 8), .ref (ex 7), .ref (ex 8), .ref (ex 9), .ref (ex 10), .ref (ex 11), .ref (ex 12), .ref (ex 13), .ref (ex 14), .ref (ex 15), .ref (ex 16)])), ((a 0), .inr (2, [.ref (a 1), .int (vi 1), .int (vi 2), .int (vi 3), .int (vi 4), .int (vi 5), .int (vi 6), .ref (ex 0), .ref (ex 1), .ref (ex 2), .ref (a 2), .ref (ex 3), .ref (ex 4), .ref (ex 5), .ref (ex 6)])), ((a 2), .inl (T 1, 9, .inl (fi 0)))] H from ⟨hP, hD⟩)
        obtain ⟨gk_0, -⟩ := hG
        rcases (show (rk = 1 ∧ (True)) ∨ (rk = 0 ∧ (True)) from gk_0) with ⟨er9, gk_0⟩ | ⟨er9, gk_0⟩
        · refine xz_i 1 er9 ?_
          refine lv_if_eq (tgt := 55) hx hb dX2_hasVotes_28 (by decide) (fun c => absurd c (by decide)) (fun _ => ?_)
          refine lv_iload hx hb dX2_hasVotes_31 (lv_at hl 1 rfl) ?_
          refine lv_if_eq (tgt := 49) hx hb dX2_hasVotes_33 (by decide) (fun c33 => ?_) (fun c33 => ?_)
          · have c33 := xeq (k := 0) (by decide) c33
            refine lv_iconst (v := 0) hx hb dX2_hasVotes_49 (by decide) ?_
            refine lv_istore (lv' := [(4, .int 0), (5, .int w5), (3, .int w3), (2, .int w2), (0, .ref (a 0)), (1, .int (vi 0))]) hx hb dX2_hasVotes_50 hl (by decide) rfl (fun ls hl => ?_)
            refine lv_goto (tgt := 76) hx hb dX2_hasVotes_52 (by decide) ?_
            obtain ⟨i76, ei76⟩ : ∃ z : Int32, w5 + Int32.ofInt 1 = z := ⟨_, rfl⟩
            have ti76 : i76.toInt = w5.toInt + 1 := by rw [← ei76]; have h79 := xrng w5; exact xadd rfl (by decide) (by omega) (by omega)
            refine lv_iinc (v := i76) (lv' := [(5, .int i76), (4, .int 0), (3, .int w3), (2, .int w2), (0, .ref (a 0)), (1, .int (vi 0))]) hx hb dX2_hasVotes_76 hl (k := 1) rfl ei76 (by decide) rfl (fun ls hl => ?_)
            refine lv_goto (tgt := 10) hx hb dX2_hasVotes_79 (by decide) ?_
            exact ih _ (by omega) i76 (0 : Int32) w3 w2 _ _ _ (by show 0 ≤ i76.toInt; omega) rfl (hP.sub [1, 0, 2] rfl) (hD.sub [1, 0, 2] (by decide) rfl) hS (lv_sub hl [0, 1, 2, 3, 4, 5] rfl)
          · have c33 := xne (k := 0) (by decide) c33
            refine lv_iload_n hx hb dX2_hasVotes_36 rfl (lv_at hl 5 rfl) ?_
            refine lv_iload hx hb dX2_hasVotes_37 (lv_at hl 0 rfl) ?_
            obtain ⟨hC9, hPc, hDc, hFc⟩ := xcut (wc := (pre_X11_hasBit T (xa []) (xa []) (xf []) (xh []) (xv [(vi 0), w5]) (xl []))) hP hD hS hA [] (by decide) rfl
            refine va_calli (va_runSN (As := [.int (vi 0), .int w5]) (rest := []) ⟨hx, hb, hml, hown, htg⟩ (c_X11_hasBit l D T (xa []) (xa []) (xf []) (xh []) (xv [(vi 0), w5]) (xl []) H.size) ⟨va_cnB 2 htg (xg_ok kw_758) rfl rfl rfl (hK.2.1 _ kn_756) (htg _ kw_1) (by decide +kernel) ⟨by rw [hR]; exact Nat.le_of_ble_eq_true rfl, by rw [hR]; exact Nat.le_of_ble_eq_true rfl⟩, htg _ kw_757, trivial⟩ (xpreS hK hPc hDc) rfl rfl hl.1 rfl (lv_room (Nat.le_of_ble_eq_true rfl)) dX2_hasVotes_39 ⟨by rw [hR]; exact Nat.le_of_ble_eq_true rfl, by rw [hR]; exact Nat.le_of_ble_eq_true rfl⟩) hS (fun q _ h => hFc q h) hFc (fun r9 u9 t H1 locs ht hvm hw hB hz1 hk1 hS => ?_)
            subst hw
            obtain ⟨fik_1, flk_1, vik_1, vlk_1, hP1, hD1, hG⟩ := hB
            rw [ht] at hP1
            obtain ⟨hP, hD⟩ := va_join (wr := [((a 1), .inr (7, [.int (vi 7), .int (vi 8), .ref (ex 7), .ref (ex 8), .ref (ex 9), .ref (ex 10), .ref (ex 11), .ref (ex 12), .ref (ex 13), .ref (ex 14), .ref (ex 15), .ref (ex 16)])), ((a 0), .inr (2, [.ref (a 1), .int (vi 1), .int (vi 2), .int (vi 3), .int (vi 4), .int (vi 5), .int (vi 6), .ref (ex 0), .ref (ex 1), .ref (ex 2), .ref (a 2), .ref (ex 3), .ref (ex 4), .ref (ex 5), .ref (ex 6)])), ((a 2), .inl (T 1, 9, .inl (fi 0)))]) (w1 := []) hP hD [] [0, 1, 2] hC9 rfl (by decide) (by decide) hk1 hFc hP1 hD1
            obtain ⟨rk_1, er9⟩ : ∃ z, z = r9 := ⟨_, rfl⟩
            subst er9
            clear hPc hDc hFc hP1 hD1 hk1 hz1 hvm ht hC9
            generalize H1 = H at hP hS ⊢
            obtain ⟨hP, hD⟩ := (show xPD D A [((a 1), .inr (7, [.int (vi 7), .int (vi 8), .ref (ex 7), .ref (ex 8), .ref (ex 9), .ref (ex 10), .ref (ex 11), .ref (ex 12), .ref (ex 13), .ref (ex 14), .ref (ex 15), .ref (ex 16)])), ((a 0), .inr (2, [.ref (a 1), .int (vi 1), .int (vi 2), .int (vi 3), .int (vi 4), .int (vi 5), .int (vi 6), .ref (ex 0), .ref (ex 1), .ref (ex 2), .ref (a 2), .ref (ex 3), .ref (ex 4), .ref (ex 5), .ref (ex 6)])), ((a 2), .inl (T 1, 9, .inl (fi 0)))] H from ⟨hP, hD⟩)
            obtain ⟨gk_1_0, -⟩ := hG
            rcases (show (rk_1 = 1 ∧ (True)) ∨ (rk_1 = 0 ∧ (True)) from gk_1_0) with ⟨er9, gk_1_0⟩ | ⟨er9, gk_1_0⟩
            · refine xz_i 1 er9 ?_
              refine lv_if_eq (tgt := 49) hx hb dX2_hasVotes_42 (by decide) (fun c => absurd c (by decide)) (fun _ => ?_)
              refine lv_iconst (v := 1) hx hb dX2_hasVotes_45 (by decide) ?_
              refine lv_goto (tgt := 50) hx hb dX2_hasVotes_46 (by decide) ?_
              refine lv_istore (lv' := [(4, .int 1), (5, .int w5), (3, .int w3), (2, .int w2), (0, .ref (a 0)), (1, .int (vi 0))]) hx hb dX2_hasVotes_50 hl (by decide) rfl (fun ls hl => ?_)
              refine lv_goto (tgt := 76) hx hb dX2_hasVotes_52 (by decide) ?_
              obtain ⟨i76_1, ei76_1⟩ : ∃ z : Int32, w5 + Int32.ofInt 1 = z := ⟨_, rfl⟩
              have ti76_1 : i76_1.toInt = w5.toInt + 1 := by rw [← ei76_1]; have h79 := xrng w5; exact xadd rfl (by decide) (by omega) (by omega)
              refine lv_iinc (v := i76_1) (lv' := [(5, .int i76_1), (4, .int 1), (3, .int w3), (2, .int w2), (0, .ref (a 0)), (1, .int (vi 0))]) hx hb dX2_hasVotes_76 hl (k := 1) rfl ei76_1 (by decide) rfl (fun ls hl => ?_)
              refine lv_goto (tgt := 10) hx hb dX2_hasVotes_79 (by decide) ?_
              exact ih _ (by omega) i76_1 (1 : Int32) w3 w2 _ _ _ (by show 0 ≤ i76_1.toInt; omega) rfl (hP.sub [1, 0, 2] rfl) (hD.sub [1, 0, 2] (by decide) rfl) hS (lv_sub hl [0, 1, 2, 3, 4, 5] rfl)
            · refine xz_i 0 er9 ?_
              refine lv_if_eq (tgt := 49) hx hb dX2_hasVotes_42 (by decide) (fun _ => ?_) (fun c => absurd (by decide) c)
              refine lv_iconst (v := 0) hx hb dX2_hasVotes_49 (by decide) ?_
              refine lv_istore (lv' := [(4, .int 0), (5, .int w5), (3, .int w3), (2, .int w2), (0, .ref (a 0)), (1, .int (vi 0))]) hx hb dX2_hasVotes_50 hl (by decide) rfl (fun ls hl => ?_)
              refine lv_goto (tgt := 76) hx hb dX2_hasVotes_52 (by decide) ?_
              obtain ⟨i76_2, ei76_2⟩ : ∃ z : Int32, w5 + Int32.ofInt 1 = z := ⟨_, rfl⟩
              have ti76_2 : i76_2.toInt = w5.toInt + 1 := by rw [← ei76_2]; have h79 := xrng w5; exact xadd rfl (by decide) (by omega) (by omega)
              refine lv_iinc (v := i76_2) (lv' := [(5, .int i76_2), (4, .int 0), (3, .int w3), (2, .int w2), (0, .ref (a 0)), (1, .int (vi 0))]) hx hb dX2_hasVotes_76 hl (k := 1) rfl ei76_2 (by decide) rfl (fun ls hl => ?_)
              refine lv_goto (tgt := 10) hx hb dX2_hasVotes_79 (by decide) ?_
              exact ih _ (by omega) i76_2 (0 : Int32) w3 w2 _ _ _ (by show 0 ≤ i76_2.toInt; omega) rfl (hP.sub [1, 0, 2] rfl) (hD.sub [1, 0, 2] (by decide) rfl) hS (lv_sub hl [0, 1, 2, 3, 4, 5] rfl)
        · refine xz_i 0 er9 ?_
          refine lv_if_eq (tgt := 55) hx hb dX2_hasVotes_28 (by decide) (fun _ => ?_) (fun c => absurd (by decide) c)
          refine lv_aload_n hx hb dX2_hasVotes_55 rfl (lv_at hl 4 rfl) ?_
          refine lv_iload hx hb dX2_hasVotes_56 (lv_at hl 0 rfl) ?_
          obtain ⟨hC9, hPc, hDc, hFc⟩ := xcut (wc := (pre_X2_isAlive T (xa [(a 0)]) (xa [(a 1), (ex 0), (ex 1), (ex 2), (a 2), (ex 3), (ex 4), (ex 5), (ex 6)]) (xf []) (xh []) (xv [w5, (vi 1), (vi 2), (vi 3), (vi 4), (vi 5), (vi 6)]) (xl []))) hP hD hS hA [1] (by decide) rfl
          refine va_calli (va_runV (As := [.int w5]) (rest := []) ⟨hx, hb, hml, hown, htg⟩ (c_X2_isAlive l D T (xa [(a 0)]) (xa [(a 1), (ex 0), (ex 1), (ex 2), (a 2), (ex 3), (ex 4), (ex 5), (ex 6)]) (xf []) (xh []) (xv [w5, (vi 1), (vi 2), (vi 3), (vi 4), (vi 5), (vi 6)]) (xl []) H.size hp0 hp1) ⟨callB_of 1 htg (xg_ok kw_796) rfl rfl rfl (htg _ kw_9) (htg _ kw_793) (by decide +kernel) ⟨by rw [hR]; exact Nat.le_of_ble_eq_true rfl, by rw [hR]; exact Nat.le_of_ble_eq_true rfl⟩, htg _ kw_795, htg _ ks_45⟩ (xpreV hK hPc hDc (va_recv hK.1 hPc (ci := 2) (q0 := 0) rfl rfl)) rfl rfl hl.1 rfl (lv_room (Nat.le_of_ble_eq_true rfl)) dX2_hasVotes_58 ⟨by rw [hR]; exact Nat.le_of_ble_eq_true rfl, by rw [hR]; exact Nat.le_of_ble_eq_true rfl⟩) hS (fun q _ h => hFc q h) hFc (fun r9 u9 t H1 locs ht hvm hw hB hz1 hk1 hS => ?_)
          subst hw
          obtain ⟨fik_2, flk_2, vik_2, vlk_2, hP1, hD1, hG⟩ := hB
          rw [ht] at hP1
          obtain ⟨hP, hD⟩ := va_join (wr := [((a 1), .inr (7, [.int (vi 7), .int (vi 8), .ref (ex 7), .ref (ex 8), .ref (ex 9), .ref (ex 10), .ref (ex 11), .ref (ex 12), .ref (ex 13), .ref (ex 14), .ref (ex 15), .ref (ex 16)])), ((a 2), .inl (T 1, 9, .inl (fi 0)))]) (w1 := [((a 0), .inr (2, [.ref (a 1), .int (vi 1), .int (vi 2), .int (vi 3), .int (vi 4), .int (vi 5), .int (vi 6), .ref (ex 0), .ref (ex 1), .ref (ex 2), .ref (a 2), .ref (ex 3), .ref (ex 4), .ref (ex 5), .ref (ex 6)]))]) hP hD [1] [0, 2] hC9 rfl (by decide) (by decide) hk1 hFc hP1 hD1
          obtain ⟨rk_2, er9⟩ : ∃ z, z = r9 := ⟨_, rfl⟩
          subst er9
          clear hPc hDc hFc hP1 hD1 hk1 hz1 hvm ht hC9
          generalize H1 = H at hP hS ⊢
          obtain ⟨hP, hD⟩ := (show xPD D A [((a 1), .inr (7, [.int (vi 7), .int (vi 8), .ref (ex 7), .ref (ex 8), .ref (ex 9), .ref (ex 10), .ref (ex 11), .ref (ex 12), .ref (ex 13), .ref (ex 14), .ref (ex 15), .ref (ex 16)])), ((a 2), .inl (T 1, 9, .inl (fi 0))), ((a 0), .inr (2, [.ref (a 1), .int (vi 1), .int (vi 2), .int (vi 3), .int (vi 4), .int (vi 5), .int (vi 6), .ref (ex 0), .ref (ex 1), .ref (ex 2), .ref (a 2), .ref (ex 3), .ref (ex 4), .ref (ex 5), .ref (ex 6)]))] H from ⟨hP, hD⟩)
          obtain ⟨gk_2_0, -⟩ := hG
          rcases (show (rk_2 = 1 ∧ (True)) ∨ (rk_2 = 0 ∧ (True)) from gk_2_0) with ⟨er9, gk_2_0⟩ | ⟨er9, gk_2_0⟩
          · refine xz_i 1 er9 ?_
            refine lv_if_eq (tgt := 76) hx hb dX2_hasVotes_61 (by decide) (fun c => absurd c (by decide)) (fun _ => ?_)
            obtain ⟨i64, ei64⟩ : ∃ z : Int32, w2 + Int32.ofInt 1 = z := ⟨_, rfl⟩
            refine lv_iinc (v := i64) (lv' := [(2, .int i64), (5, .int w5), (4, .int w4), (3, .int w3), (0, .ref (a 0)), (1, .int (vi 0))]) hx hb dX2_hasVotes_64 hl (k := 3) rfl ei64 (by decide) rfl (fun ls hl => ?_)
            refine lv_iload_n hx hb dX2_hasVotes_67 rfl (lv_at hl 3 rfl) ?_
            refine lv_iload_n hx hb dX2_hasVotes_68 rfl (lv_at hl 5 rfl) ?_
            refine lv_iload hx hb dX2_hasVotes_69 (lv_at hl 1 rfl) ?_
            refine lv_ishr hx hb dX2_hasVotes_71 ?_
            refine lv_topi (fun z71 ez71 => ?_)
            refine lv_iconst (v := 1) hx hb dX2_hasVotes_72 (by decide) ?_
            refine lv_iand hx hb dX2_hasVotes_73 ?_
            refine lv_topi (fun z73 ez73 => ?_)
            have tz73 : 0 ≤ z73.toInt ∧ z73.toInt ≤ 1 := by rw [ez73]; exact xand1 _
            refine lv_iadd hx hb dX2_hasVotes_74 ?_
            refine lv_topi (fun z74 ez74 => ?_)
            refine lv_istore_n (lv' := [(3, .int z74), (2, .int i64), (5, .int w5), (4, .int w4), (0, .ref (a 0)), (1, .int (vi 0))]) hx hb dX2_hasVotes_75 rfl hl (by decide) rfl (fun ls hl => ?_)
            obtain ⟨i76_3, ei76_3⟩ : ∃ z : Int32, w5 + Int32.ofInt 1 = z := ⟨_, rfl⟩
            have ti76_3 : i76_3.toInt = w5.toInt + 1 := by rw [← ei76_3]; have h79 := xrng w5; exact xadd rfl (by decide) (by omega) (by omega)
            refine lv_iinc (v := i76_3) (lv' := [(5, .int i76_3), (3, .int z74), (2, .int i64), (4, .int w4), (0, .ref (a 0)), (1, .int (vi 0))]) hx hb dX2_hasVotes_76 hl (k := 2) rfl ei76_3 (by decide) rfl (fun ls hl => ?_)
            refine lv_goto (tgt := 10) hx hb dX2_hasVotes_79 (by decide) ?_
            exact ih _ (by omega) i76_3 w4 z74 i64 _ _ _ (by show 0 ≤ i76_3.toInt; omega) rfl (hP.sub [2, 0, 1] rfl) (hD.sub [2, 0, 1] (by decide) rfl) hS (lv_sub hl [0, 3, 1, 2, 4, 5] rfl)
          · refine xz_i 0 er9 ?_
            refine lv_if_eq (tgt := 76) hx hb dX2_hasVotes_61 (by decide) (fun _ => ?_) (fun c => absurd (by decide) c)
            obtain ⟨i76_4, ei76_4⟩ : ∃ z : Int32, w5 + Int32.ofInt 1 = z := ⟨_, rfl⟩
            have ti76_4 : i76_4.toInt = w5.toInt + 1 := by rw [← ei76_4]; have h79 := xrng w5; exact xadd rfl (by decide) (by omega) (by omega)
            refine lv_iinc (v := i76_4) (lv' := [(5, .int i76_4), (4, .int w4), (3, .int w3), (2, .int w2), (0, .ref (a 0)), (1, .int (vi 0))]) hx hb dX2_hasVotes_76 hl (k := 0) rfl ei76_4 (by decide) rfl (fun ls hl => ?_)
            refine lv_goto (tgt := 10) hx hb dX2_hasVotes_79 (by decide) ?_
            exact ih _ (by omega) i76_4 w4 w3 w2 _ _ _ (by show 0 ≤ i76_4.toInt; omega) rfl (hP.sub [2, 0, 1] rfl) (hD.sub [2, 0, 1] (by decide) rfl) hS (lv_sub hl [0, 1, 2, 3, 4, 5] rfl)
  exact lp _ (0 : Int32) (1 : Int32) (0 : Int32) (0 : Int32) _ _ _ (show 0 ≤ (0 : Int32).toInt by decide) rfl hP hD hS hl
