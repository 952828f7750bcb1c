abbrev pre_X11_called (T : Nat → ClassId) (a ex : Nat → Nat) (fi : Nat → Nat → Int32) (fl : Nat → Nat → Int64) (vi : Nat → Int32) (vl : Nat → Int64) : va_W := [((a 0), .inr (11, [.ref (ex 0), .ref (a 1), .ref (ex 1), .ref (ex 2), .ref (a 2), .ref (ex 3), .ref (ex 4), .ref (ex 5), .ref (ex 6), .ref (ex 7), .ref (ex 8), .ref (ex 9), .ref (ex 10), .ref (ex 11), .int (vi 2)])), ((a 1), .inr (7, [.int (vi 3), .int (vi 4), .ref (ex 12), .ref (ex 13), .ref (ex 14), .ref (ex 15), .ref (ex 16), .ref (ex 17), .ref (ex 18), .ref (ex 19), .ref (ex 20), .ref (ex 21)])), ((a 2), .inr (2, [.ref (a 1), .int (vi 5), .int (vi 6), .int (vi 7), .int (vi 8), .int (vi 9), .int (vi 10), .ref (ex 22), .ref (ex 23), .ref (ex 24), .ref (ex 25), .ref (ex 26), .ref (ex 27), .ref (ex 28), .ref (a 3)])), ((a 3), .inl (T 2, 200, .inr (.inl (fl 0))))]
set_option maxHeartbeats 8000000 in
set_option maxRecDepth 100000 in
theorem c_X11_called (l : Launch) (D : va_G) (T : Nat → ClassId) (a ex : Nat → Nat) (fi : Nat → Nat → Int32) (fl : Nat → Nat → Int64) (vi : Nat → Int32) (vl : Nat → Int64) (sz : Nat) (hp0 : 0 ≤ (vi 3).toInt ∧ (vi 3).toInt ≤ 9) (hp1 : 0 ≤ (vi 4).toInt ∧ (vi 4).toInt ≤ 9) (hp2 : 0 ≤ (vi 5).toInt ∧ (vi 5).toInt ≤ 200) (hp3 : 0 ≤ (vi 10).toInt ∧ (vi 10).toInt ≤ 9) : Met l yX11_called (xw yX11_called cX11_called 3 (some .int)) ({ frames := 2, cells := 0, slots := 0, locals := 51 }) (xP D T [.ref (a 0), .int (vi 0), .int (vi 1)] sz (pre_X11_called T a ex fi fl vi vl)) (va_Qi (fun r u => r = u) (xC D (va_A (pre_X11_called T a ex fi fl vi vl) sz) (fun fj fm vj vm => [((a 0), .inr (11, [.ref (ex 0), .ref (a 1), .ref (ex 1), .ref (ex 2), .ref (a 2), .ref (ex 3), .ref (ex 4), .ref (ex 5), .ref (ex 6), .ref (ex 7), .ref (ex 8), .ref (ex 9), .ref (ex 10), .ref (ex 11), .int (vi 2)])), ((a 1), .inr (7, [.int (vi 3), .int (vi 4), .ref (ex 12), .ref (ex 13), .ref (ex 14), .ref (ex 15), .ref (ex 16), .ref (ex 17), .ref (ex 18), .ref (ex 19), .ref (ex 20), .ref (ex 21)])), ((a 2), .inr (2, [.ref (a 1), .int (vi 5), .int (vi 6), .int (vi 7), .int (vi 8), .int (vi 9), .int (vi 10), .ref (ex 22), .ref (ex 23), .ref (ex 24), .ref (ex 25), .ref (ex 26), .ref (ex 27), .ref (ex 28), .ref (a 3)])), ((a 3), .inl (T 2, 200, .inr (.inl (fl 0))))]) (fun (r : Int32) (fj : Nat → Nat → Int32) (fm : Nat → Nat → Int64) (vj : Nat → Int32) (vm : Nat → Int64) => True)) (va_A (pre_X11_called T a ex fi fl vi vl) sz)) 0 0 (va_A (pre_X11_called T a ex fi fl vi vl) sz) := by
  refine xofW (cc := cX11_called) (maxL := 3) (ret := (some .int)) (by decide) rfl ?_
  intro p e s m args below meth c s₁ R Q hR hQ B hml hv
  obtain ⟨rfl, hsz, hP, hK, hD0⟩ := hv
  have hx := B.exec
  have hb := B.bytes
  have hr := B.returns
  have hts := atoms_spec (ws := xw yX11_called cX11_called 3 (some .int)) B.pre
  have htg : ∀ w ∈ xg, w.before _ s = true := fun w h => hts w (List.mem_cons_of_mem _ h)
  have hown : s.vm.findClass RX11 = some m.cls := findClass_of_methodNamed B.named
  have hlocks := B.notSynchronized
  subst hsz
  have hD := hD0.self (sz := s.heap.size)
  generalize hAe : va_A (pre_X11_called T a ex fi fl vi vl) s.heap.size = A at hD hQ
  have hA : ∀ q : Nat, s.heap.size ≤ q → A q := fun q h => by rw [← hAe]; exact Or.inr h
  have hS : va_S A s.heap s.heap [] := va_S.rf
  replace hP : va_P D vwCl [((a 0), .inr (11, [.ref (ex 0), .ref (a 1), .ref (ex 1), .ref (ex 2), .ref (a 2), .ref (ex 3), .ref (ex 4), .ref (ex 5), .ref (ex 6), .ref (ex 7), .ref (ex 8), .ref (ex 9), .ref (ex 10), .ref (ex 11), .int (vi 2)])), ((a 1), .inr (7, [.int (vi 3), .int (vi 4), .ref (ex 12), .ref (ex 13), .ref (ex 14), .ref (ex 15), .ref (ex 16), .ref (ex 17), .ref (ex 18), .ref (ex 19), .ref (ex 20), .ref (ex 21)])), ((a 2), .inr (2, [.ref (a 1), .int (vi 5), .int (vi 6), .int (vi 7), .int (vi 8), .int (vi 9), .int (vi 10), .ref (ex 22), .ref (ex 23), .ref (ex 24), .ref (ex 25), .ref (ex 26), .ref (ex 27), .ref (ex 28), .ref (a 3)])), ((a 3), .inl (T 2, 200, .inr (.inl (fl 0))))] s.heap := hP
  replace hD : va_D A [((a 0), .inr (11, [.ref (ex 0), .ref (a 1), .ref (ex 1), .ref (ex 2), .ref (a 2), .ref (ex 3), .ref (ex 4), .ref (ex 5), .ref (ex 6), .ref (ex 7), .ref (ex 8), .ref (ex 9), .ref (ex 10), .ref (ex 11), .int (vi 2)])), ((a 1), .inr (7, [.int (vi 3), .int (vi 4), .ref (ex 12), .ref (ex 13), .ref (ex 14), .ref (ex 15), .ref (ex 16), .ref (ex 17), .ref (ex 18), .ref (ex 19), .ref (ex 20), .ref (ex 21)])), ((a 2), .inr (2, [.ref (a 1), .int (vi 5), .int (vi 6), .int (vi 7), .int (vi 8), .int (vi 9), .int (vi 10), .ref (ex 22), .ref (ex 23), .ref (ex 24), .ref (ex 25), .ref (ex 26), .ref (ex 27), .ref (ex 28), .ref (a 3)])), ((a 3), .inl (T 2, 200, .inr (.inl (fl 0))))] := hD
  have hl := lv_entry ([.ref (a 0), .int (vi 0), .int (vi 1)]) (n := 3) (Nat.le_of_ble_eq_true rfl)
  rw [lg_entry_eq]
  generalize (lg_sl ([.ref (a 0), .int (vi 0), .int (vi 1)]) ++ List.replicate (3 - (lg_sl ([.ref (a 0), .int (vi 0), .int (vi 1)])).length) Slot.unset).toArray = ls at hl ⊢
  replace hl : lv_has ls 3 [(0, .ref (a 0)), (1, .int (vi 0)), (2, .int (vi 1))] := hl
  refine lv_aload_n hx hb dX11_called_0 rfl (lv_at hl 0 rfl) ?_
  refine va_get (D := D) (ci := 11) (v := .ref (a 1)) (C := RX11) (T := TX11) (N := 15) hx hb htg inX11 hown hK.1 hP 0 rfl rfl 1 (by decide) (htg _ kw_497) (fun _ h9 => h9) rfl dX11_called_1 ?_
  refine lv_iload_n hx hb dX11_called_4 rfl (lv_at hl 1 rfl) ?_
  have hPc := hP.sub (ws' := (pre_X7_isSoul T (xa [(a 1)]) (xa [(ex 12), (ex 13), (ex 14), (ex 15), (ex 16), (ex 17), (ex 18), (ex 19), (ex 20), (ex 21)]) (xf []) (xh []) (xv [(vi 0), (vi 3), (vi 4)]) (xl []))) [1] rfl
  have hDc := hD.sub (ws' := (pre_X7_isSoul T (xa [(a 1)]) (xa [(ex 12), (ex 13), (ex 14), (ex 15), (ex 16), (ex 17), (ex 18), (ex 19), (ex 20), (ex 21)]) (xf []) (xh []) (xv [(vi 0), (vi 3), (vi 4)]) (xl []))) [1] (by decide) rfl
  have hFc := va_free (wc := (pre_X7_isSoul T (xa [(a 1)]) (xa [(ex 12), (ex 13), (ex 14), (ex 15), (ex 16), (ex 17), (ex 18), (ex 19), (ex 20), (ex 21)]) (xf []) (xh []) (xv [(vi 0), (vi 3), (vi 4)]) (xl []))) hD hS hA [1] rfl
  refine va_calli (va_runVN (As := [.int (vi 0)]) (rest := []) ⟨hx, hb, hml, hown, htg⟩ (c_X7_isSoul l D T (xa [(a 1)]) (xa [(ex 12), (ex 13), (ex 14), (ex 15), (ex 16), (ex 17), (ex 18), (ex 19), (ex 20), (ex 21)]) (xf []) (xh []) (xv [(vi 0), (vi 3), (vi 4)]) (xl []) s.heap.size (by show 0 ≤ (vi 3).toInt ∧ (vi 3).toInt ≤ 9; omega) (by show 0 ≤ (vi 4).toInt ∧ (vi 4).toInt ≤ 9; omega)) ⟨va_cnB 1 htg (xg_ok kw_664) rfl rfl rfl (hK.2.1 _ kn_764) (htg _ kw_7) (by decide +kernel) ⟨by rw [hR]; exact Nat.le_of_ble_eq_true rfl, by rw [hR]; exact Nat.le_of_ble_eq_true rfl⟩, htg _ kw_663, htg _ ks_25⟩ (xpreV hK hPc hDc (va_recv hK.1 hPc (ci := 7) (q0 := 0) rfl rfl)) rfl rfl hl.1 rfl (lv_room (Nat.le_of_ble_eq_true rfl)) dX11_called_5 ⟨by rw [hR]; exact Nat.le_of_ble_eq_true rfl, by rw [hR]; exact Nat.le_of_ble_eq_true rfl⟩) hS (fun q _ h => hFc q h) hFc (fun r9 u9 t H1 locs ht hvm hw hB hz1 hk1 hS => ?_)
  subst hw
  obtain ⟨fik, flk, vik, vlk, hP1, hD1, hG⟩ := hB
  rw [ht] at hP1
  obtain ⟨hP, hD⟩ := va_join (wr := [((a 0), .inr (11, [.ref (ex 0), .ref (a 1), .ref (ex 1), .ref (ex 2), .ref (a 2), .ref (ex 3), .ref (ex 4), .ref (ex 5), .ref (ex 6), .ref (ex 7), .ref (ex 8), .ref (ex 9), .ref (ex 10), .ref (ex 11), .int (vi 2)])), ((a 2), .inr (2, [.ref (a 1), .int (vi 5), .int (vi 6), .int (vi 7), .int (vi 8), .int (vi 9), .int (vi 10), .ref (ex 22), .ref (ex 23), .ref (ex 24), .ref (ex 25), .ref (ex 26), .ref (ex 27), .ref (ex 28), .ref (a 3)])), ((a 3), .inl (T 2, 200, .inr (.inl (fl 0))))]) (w1 := [((a 1), .inr (7, [.int (vi 3), .int (vi 4), .ref (ex 12), .ref (ex 13), .ref (ex 14), .ref (ex 15), .ref (ex 16), .ref (ex 17), .ref (ex 18), .ref (ex 19), .ref (ex 20), .ref (ex 21)]))]) hP hD [1] [0, 2, 3] rfl rfl (by decide) (by decide) hk1 hFc hP1 hD1
  obtain ⟨rk, er9⟩ : ∃ z, z = r9 := ⟨_, rfl⟩
  subst er9
  clear hPc hDc hFc hP1 hD1 hk1 hz1 hvm ht
  generalize H1 = H at hP hS ⊢
  replace hP : va_P D vwCl [((a 0), .inr (11, [.ref (ex 0), .ref (a 1), .ref (ex 1), .ref (ex 2), .ref (a 2), .ref (ex 3), .ref (ex 4), .ref (ex 5), .ref (ex 6), .ref (ex 7), .ref (ex 8), .ref (ex 9), .ref (ex 10), .ref (ex 11), .int (vi 2)])), ((a 2), .inr (2, [.ref (a 1), .int (vi 5), .int (vi 6), .int (vi 7), .int (vi 8), .int (vi 9), .int (vi 10), .ref (ex 22), .ref (ex 23), .ref (ex 24), .ref (ex 25), .ref (ex 26), .ref (ex 27), .ref (ex 28), .ref (a 3)])), ((a 3), .inl (T 2, 200, .inr (.inl (fl 0)))), ((a 1), .inr (7, [.int (vi 3), .int (vi 4), .ref (ex 12), .ref (ex 13), .ref (ex 14), .ref (ex 15), .ref (ex 16), .ref (ex 17), .ref (ex 18), .ref (ex 19), .ref (ex 20), .ref (ex 21)]))] H := hP
  replace hD : va_D A [((a 0), .inr (11, [.ref (ex 0), .ref (a 1), .ref (ex 1), .ref (ex 2), .ref (a 2), .ref (ex 3), .ref (ex 4), .ref (ex 5), .ref (ex 6), .ref (ex 7), .ref (ex 8), .ref (ex 9), .ref (ex 10), .ref (ex 11), .int (vi 2)])), ((a 2), .inr (2, [.ref (a 1), .int (vi 5), .int (vi 6), .int (vi 7), .int (vi 8), .int (vi 9), .int (vi 10), .ref (ex 22), .ref (ex 23), .ref (ex 24), .ref (ex 25), .ref (ex 26), .ref (ex 27), .ref (ex 28), .ref (a 3)])), ((a 3), .inl (T 2, 200, .inr (.inl (fl 0)))), ((a 1), .inr (7, [.int (vi 3), .int (vi 4), .ref (ex 12), .ref (ex 13), .ref (ex 14), .ref (ex 15), .ref (ex 16), .ref (ex 17), .ref (ex 18), .ref (ex 19), .ref (ex 20), .ref (ex 21)]))] := hD
  obtain ⟨gk_0, -⟩ := hG
  rcases (show (rk = 1 ∧ (0 ≤ (vi 0).toInt ∧ (vi 0).toInt < (vi 4).toInt)) ∨ (rk = 0 ∧ (¬ (0 ≤ (vi 0).toInt ∧ (vi 0).toInt < (vi 4).toInt))) from gk_0) with ⟨er9, gk_0⟩ | ⟨er9, gk_0⟩
  · refine xz_i 1 er9 ?_
    refine lv_if_eq (tgt := 34) hx hb dX11_called_8 (by decide) (fun c => absurd c (by decide)) (fun _ => ?_)
    refine lv_aload_n hx hb dX11_called_11 rfl (lv_at hl 0 rfl) ?_
    refine va_get (D := D) (ci := 11) (v := .ref (a 2)) (C := RX11) (T := TX11) (N := 15) hx hb htg inX11 hown hK.1 hP 0 rfl rfl 4 (by decide) (htg _ kw_500) (fun _ h9 => h9) rfl dX11_called_12 ?_
    refine lv_iload_n hx hb dX11_called_15 rfl (lv_at hl 2 rfl) ?_
    have hPc := hP.sub (ws' := (pre_X2_hasGone T (xa [(a 2)]) (xa [(a 1), (ex 22), (ex 23), (ex 24), (ex 25), (ex 26), (ex 27), (ex 28), (a 3)]) (xf []) (xh []) (xv [(vi 1), (vi 5), (vi 6), (vi 7), (vi 8), (vi 9), (vi 10)]) (xl []))) [1] rfl
    have hDc := hD.sub (ws' := (pre_X2_hasGone T (xa [(a 2)]) (xa [(a 1), (ex 22), (ex 23), (ex 24), (ex 25), (ex 26), (ex 27), (ex 28), (a 3)]) (xf []) (xh []) (xv [(vi 1), (vi 5), (vi 6), (vi 7), (vi 8), (vi 9), (vi 10)]) (xl []))) [1] (by decide) rfl
    have hFc := va_free (wc := (pre_X2_hasGone T (xa [(a 2)]) (xa [(a 1), (ex 22), (ex 23), (ex 24), (ex 25), (ex 26), (ex 27), (ex 28), (a 3)]) (xf []) (xh []) (xv [(vi 1), (vi 5), (vi 6), (vi 7), (vi 8), (vi 9), (vi 10)]) (xl []))) hD hS hA [1] rfl
    refine va_calli (va_runVN (As := [.int (vi 1)]) (rest := []) ⟨hx, hb, hml, hown, htg⟩ (c_X2_hasGone l D T (xa [(a 2)]) (xa [(a 1), (ex 22), (ex 23), (ex 24), (ex 25), (ex 26), (ex 27), (ex 28), (a 3)]) (xf []) (xh []) (xv [(vi 1), (vi 5), (vi 6), (vi 7), (vi 8), (vi 9), (vi 10)]) (xl []) H.size (by show 0 ≤ (vi 5).toInt ∧ (vi 5).toInt ≤ 200; omega) (by show 0 ≤ (vi 10).toInt ∧ (vi 10).toInt ≤ 9; omega)) ⟨va_cnB 1 htg (xg_ok kw_948) rfl rfl rfl (hK.2.1 _ kn_945) (htg _ kw_9) (by decide +kernel) ⟨by rw [hR]; exact Nat.le_of_ble_eq_true rfl, by rw [hR]; exact Nat.le_of_ble_eq_true rfl⟩, htg _ kw_947, htg _ ks_72⟩ (xpreV hK hPc hDc (va_recv hK.1 hPc (ci := 2) (q0 := 0) rfl rfl)) rfl rfl hl.1 rfl (lv_room (Nat.le_of_ble_eq_true rfl)) dX11_called_16 ⟨by rw [hR]; exact Nat.le_of_ble_eq_true rfl, by rw [hR]; exact Nat.le_of_ble_eq_true rfl⟩) hS (fun q _ h => hFc q h) hFc (fun r9 u9 t H1 locs ht hvm hw hB hz1 hk1 hS => ?_)
    subst hw
    obtain ⟨fik_1, flk_1, vik_1, vlk_1, hP1, hD1, hG⟩ := hB
    rw [ht] at hP1
    obtain ⟨hP, hD⟩ := va_join (wr := [((a 0), .inr (11, [.ref (ex 0), .ref (a 1), .ref (ex 1), .ref (ex 2), .ref (a 2), .ref (ex 3), .ref (ex 4), .ref (ex 5), .ref (ex 6), .ref (ex 7), .ref (ex 8), .ref (ex 9), .ref (ex 10), .ref (ex 11), .int (vi 2)])), ((a 3), .inl (T 2, 200, .inr (.inl (fl 0)))), ((a 1), .inr (7, [.int (vi 3), .int (vi 4), .ref (ex 12), .ref (ex 13), .ref (ex 14), .ref (ex 15), .ref (ex 16), .ref (ex 17), .ref (ex 18), .ref (ex 19), .ref (ex 20), .ref (ex 21)]))]) (w1 := [((a 2), .inr (2, [.ref (a 1), .int (vi 5), .int (vi 6), .int (vi 7), .int (vi 8), .int (vi 9), .int (vi 10), .ref (ex 22), .ref (ex 23), .ref (ex 24), .ref (ex 25), .ref (ex 26), .ref (ex 27), .ref (ex 28), .ref (a 3)]))]) hP hD [1] [0, 2, 3] rfl rfl (by decide) (by decide) hk1 hFc hP1 hD1
    obtain ⟨rk_1, er9⟩ : ∃ z, z = r9 := ⟨_, rfl⟩
    subst er9
    clear hPc hDc hFc hP1 hD1 hk1 hz1 hvm ht
    generalize H1 = H at hP hS ⊢
    replace hP : va_P D vwCl [((a 0), .inr (11, [.ref (ex 0), .ref (a 1), .ref (ex 1), .ref (ex 2), .ref (a 2), .ref (ex 3), .ref (ex 4), .ref (ex 5), .ref (ex 6), .ref (ex 7), .ref (ex 8), .ref (ex 9), .ref (ex 10), .ref (ex 11), .int (vi 2)])), ((a 3), .inl (T 2, 200, .inr (.inl (fl 0)))), ((a 1), .inr (7, [.int (vi 3), .int (vi 4), .ref (ex 12), .ref (ex 13), .ref (ex 14), .ref (ex 15), .ref (ex 16), .ref (ex 17), .ref (ex 18), .ref (ex 19), .ref (ex 20), .ref (ex 21)])), ((a 2), .inr (2, [.ref (a 1), .int (vi 5), .int (vi 6), .int (vi 7), .int (vi 8), .int (vi 9), .int (vi 10), .ref (ex 22), .ref (ex 23), .ref (ex 24), .ref (ex 25), .ref (ex 26), .ref (ex 27), .ref (ex 28), .ref (a 3)]))] H := hP
    replace hD : va_D A [((a 0), .inr (11, [.ref (ex 0), .ref (a 1), .ref (ex 1), .ref (ex 2), .ref (a 2), .ref (ex 3), .ref (ex 4), .ref (ex 5), .ref (ex 6), .ref (ex 7), .ref (ex 8), .ref (ex 9), .ref (ex 10), .ref (ex 11), .int (vi 2)])), ((a 3), .inl (T 2, 200, .inr (.inl (fl 0)))), ((a 1), .inr (7, [.int (vi 3), .int (vi 4), .ref (ex 12), .ref (ex 13), .ref (ex 14), .ref (ex 15), .ref (ex 16), .ref (ex 17), .ref (ex 18), .ref (ex 19), .ref (ex 20), .ref (ex 21)])), ((a 2), .inr (2, [.ref (a 1), .int (vi 5), .int (vi 6), .int (vi 7), .int (vi 8), .int (vi 9), .int (vi 10), .ref (ex 22), .ref (ex 23), .ref (ex 24), .ref (ex 25), .ref (ex 26), .ref (ex 27), .ref (ex 28), .ref (a 3)]))] := hD
    obtain ⟨gk_1_0, -⟩ := hG
    rcases (show (rk_1 = 1 ∧ (0 ≤ (vi 1).toInt ∧ (vi 1).toInt < (vi 5).toInt)) ∨ (rk_1 = 0 ∧ (True)) from gk_1_0) with ⟨er9, gk_1_0⟩ | ⟨er9, gk_1_0⟩
    · refine xz_i 1 er9 ?_
      refine lv_if_eq (tgt := 34) hx hb dX11_called_19 (by decide) (fun c => absurd c (by decide)) (fun _ => ?_)
      refine lv_aload_n hx hb dX11_called_22 rfl (lv_at hl 0 rfl) ?_
      refine va_get (D := D) (ci := 11) (v := .ref (a 2)) (C := RX11) (T := TX11) (N := 15) hx hb htg inX11 hown hK.1 hP 0 rfl rfl 4 (by decide) (htg _ kw_500) (fun _ h9 => h9) rfl dX11_called_23 ?_
      refine lv_iload_n hx hb dX11_called_26 rfl (lv_at hl 1 rfl) ?_
      refine lv_iload_n hx hb dX11_called_27 rfl (lv_at hl 2 rfl) ?_
      have hPc := hP.sub (ws' := (pre_X2_calledThen T (xa [(a 2), (a 3)]) (xa [(a 1), (ex 22), (ex 23), (ex 24), (ex 25), (ex 26), (ex 27), (ex 28)]) (xf []) (xh [(fl 0)]) (xv [(vi 0), (vi 1), (vi 5), (vi 6), (vi 7), (vi 8), (vi 9), (vi 10)]) (xl []))) [3, 1] rfl
      have hDc := hD.sub (ws' := (pre_X2_calledThen T (xa [(a 2), (a 3)]) (xa [(a 1), (ex 22), (ex 23), (ex 24), (ex 25), (ex 26), (ex 27), (ex 28)]) (xf []) (xh [(fl 0)]) (xv [(vi 0), (vi 1), (vi 5), (vi 6), (vi 7), (vi 8), (vi 9), (vi 10)]) (xl []))) [3, 1] (by decide) rfl
      have hFc := va_free (wc := (pre_X2_calledThen T (xa [(a 2), (a 3)]) (xa [(a 1), (ex 22), (ex 23), (ex 24), (ex 25), (ex 26), (ex 27), (ex 28)]) (xf []) (xh [(fl 0)]) (xv [(vi 0), (vi 1), (vi 5), (vi 6), (vi 7), (vi 8), (vi 9), (vi 10)]) (xl []))) hD hS hA [3, 1] rfl
      refine va_calli (va_runVN (As := [.int (vi 0), .int (vi 1)]) (rest := []) ⟨hx, hb, hml, hown, htg⟩ (c_X2_calledThen l D T (xa [(a 2), (a 3)]) (xa [(a 1), (ex 22), (ex 23), (ex 24), (ex 25), (ex 26), (ex 27), (ex 28)]) (xf []) (xh [(fl 0)]) (xv [(vi 0), (vi 1), (vi 5), (vi 6), (vi 7), (vi 8), (vi 9), (vi 10)]) (xl []) H.size (by show 0 ≤ (vi 5).toInt ∧ (vi 5).toInt ≤ 200; omega) (by show 0 ≤ (vi 10).toInt ∧ (vi 10).toInt ≤ 9; omega)) ⟨va_cnB 2 htg (xg_ok kw_952) rfl rfl rfl (hK.2.1 _ kn_949) (htg _ kw_9) (by decide +kernel) ⟨by rw [hR]; exact Nat.le_of_ble_eq_true rfl, by rw [hR]; exact Nat.le_of_ble_eq_true rfl⟩, htg _ kw_951, htg _ ks_73⟩ (xpreV hK hPc hDc (va_recv hK.1 hPc (ci := 2) (q0 := 0) rfl rfl)) rfl rfl hl.1 rfl (lv_room (Nat.le_of_ble_eq_true rfl)) dX11_called_28 ⟨by rw [hR]; exact Nat.le_of_ble_eq_true rfl, by rw [hR]; exact Nat.le_of_ble_eq_true rfl⟩) hS (fun q _ h => hFc q h) hFc (fun r9 u9 t H1 locs ht hvm hw hB hz1 hk1 hS => ?_)
      subst hw
      obtain ⟨fik_2, flk_2, vik_2, vlk_2, hP1, hD1, hG⟩ := hB
      rw [ht] at hP1
      obtain ⟨hP, hD⟩ := va_join (wr := [((a 0), .inr (11, [.ref (ex 0), .ref (a 1), .ref (ex 1), .ref (ex 2), .ref (a 2), .ref (ex 3), .ref (ex 4), .ref (ex 5), .ref (ex 6), .ref (ex 7), .ref (ex 8), .ref (ex 9), .ref (ex 10), .ref (ex 11), .int (vi 2)])), ((a 1), .inr (7, [.int (vi 3), .int (vi 4), .ref (ex 12), .ref (ex 13), .ref (ex 14), .ref (ex 15), .ref (ex 16), .ref (ex 17), .ref (ex 18), .ref (ex 19), .ref (ex 20), .ref (ex 21)]))]) (w1 := [((a 2), .inr (2, [.ref (a 1), .int (vi 5), .int (vi 6), .int (vi 7), .int (vi 8), .int (vi 9), .int (vi 10), .ref (ex 22), .ref (ex 23), .ref (ex 24), .ref (ex 25), .ref (ex 26), .ref (ex 27), .ref (ex 28), .ref (a 3)])), ((a 3), .inl (T 2, 200, .inr (.inl (fl 0))))]) hP hD [3, 1] [0, 2] rfl rfl (by decide) (by decide) hk1 hFc hP1 hD1
      obtain ⟨rk_2, er9⟩ : ∃ z, z = r9 := ⟨_, rfl⟩
      subst er9
      clear hPc hDc hFc hP1 hD1 hk1 hz1 hvm ht
      generalize H1 = H at hP hS ⊢
      replace hP : va_P D vwCl [((a 0), .inr (11, [.ref (ex 0), .ref (a 1), .ref (ex 1), .ref (ex 2), .ref (a 2), .ref (ex 3), .ref (ex 4), .ref (ex 5), .ref (ex 6), .ref (ex 7), .ref (ex 8), .ref (ex 9), .ref (ex 10), .ref (ex 11), .int (vi 2)])), ((a 1), .inr (7, [.int (vi 3), .int (vi 4), .ref (ex 12), .ref (ex 13), .ref (ex 14), .ref (ex 15), .ref (ex 16), .ref (ex 17), .ref (ex 18), .ref (ex 19), .ref (ex 20), .ref (ex 21)])), ((a 2), .inr (2, [.ref (a 1), .int (vi 5), .int (vi 6), .int (vi 7), .int (vi 8), .int (vi 9), .int (vi 10), .ref (ex 22), .ref (ex 23), .ref (ex 24), .ref (ex 25), .ref (ex 26), .ref (ex 27), .ref (ex 28), .ref (a 3)])), ((a 3), .inl (T 2, 200, .inr (.inl (fl 0))))] H := hP
      replace hD : va_D A [((a 0), .inr (11, [.ref (ex 0), .ref (a 1), .ref (ex 1), .ref (ex 2), .ref (a 2), .ref (ex 3), .ref (ex 4), .ref (ex 5), .ref (ex 6), .ref (ex 7), .ref (ex 8), .ref (ex 9), .ref (ex 10), .ref (ex 11), .int (vi 2)])), ((a 1), .inr (7, [.int (vi 3), .int (vi 4), .ref (ex 12), .ref (ex 13), .ref (ex 14), .ref (ex 15), .ref (ex 16), .ref (ex 17), .ref (ex 18), .ref (ex 19), .ref (ex 20), .ref (ex 21)])), ((a 2), .inr (2, [.ref (a 1), .int (vi 5), .int (vi 6), .int (vi 7), .int (vi 8), .int (vi 9), .int (vi 10), .ref (ex 22), .ref (ex 23), .ref (ex 24), .ref (ex 25), .ref (ex 26), .ref (ex 27), .ref (ex 28), .ref (a 3)])), ((a 3), .inl (T 2, 200, .inr (.inl (fl 0))))] := hD
      clear hG
      refine lv_goto (tgt := 36) hx hb dX11_called_31 (by decide) ?_
      have hP9 := hP.sub (ws' := [((a 0), .inr (11, [.ref (ex 0), .ref (a 1), .ref (ex 1), .ref (ex 2), .ref (a 2), .ref (ex 3), .ref (ex 4), .ref (ex 5), .ref (ex 6), .ref (ex 7), .ref (ex 8), .ref (ex 9), .ref (ex 10), .ref (ex 11), .int (vi 2)])), ((a 1), .inr (7, [.int (vi 3), .int (vi 4), .ref (ex 12), .ref (ex 13), .ref (ex 14), .ref (ex 15), .ref (ex 16), .ref (ex 17), .ref (ex 18), .ref (ex 19), .ref (ex 20), .ref (ex 21)])), ((a 2), .inr (2, [.ref (a 1), .int (vi 5), .int (vi 6), .int (vi 7), .int (vi 8), .int (vi 9), .int (vi 10), .ref (ex 22), .ref (ex 23), .ref (ex 24), .ref (ex 25), .ref (ex 26), .ref (ex 27), .ref (ex 28), .ref (a 3)])), ((a 3), .inl (T 2, 200, .inr (.inl (fl 0))))]) [0, 1, 2, 3] rfl
      have hD9 := hD.sub (ws' := [((a 0), .inr (11, [.ref (ex 0), .ref (a 1), .ref (ex 1), .ref (ex 2), .ref (a 2), .ref (ex 3), .ref (ex 4), .ref (ex 5), .ref (ex 6), .ref (ex 7), .ref (ex 8), .ref (ex 9), .ref (ex 10), .ref (ex 11), .int (vi 2)])), ((a 1), .inr (7, [.int (vi 3), .int (vi 4), .ref (ex 12), .ref (ex 13), .ref (ex 14), .ref (ex 15), .ref (ex 16), .ref (ex 17), .ref (ex 18), .ref (ex 19), .ref (ex 20), .ref (ex 21)])), ((a 2), .inr (2, [.ref (a 1), .int (vi 5), .int (vi 6), .int (vi 7), .int (vi 8), .int (vi 9), .int (vi 10), .ref (ex 22), .ref (ex 23), .ref (ex 24), .ref (ex 25), .ref (ex 26), .ref (ex 27), .ref (ex 28), .ref (a 3)])), ((a 3), .inl (T 2, 200, .inr (.inl (fl 0))))]) [0, 1, 2, 3] (by decide +kernel) rfl
      rw [hQ]
      exact W.iret (v := rk_2) hx hb hr (fun t ht hW => ⟨⟨rk_2, rk_2, rfl, rfl, xf [], xh [], xv [], xl [], by rw [ht]; exact hP9, hD9, trivial⟩, hS.F ht⟩) hS.2.2 dX11_called_36
    · refine xz_i 0 er9 ?_
      refine lv_if_eq (tgt := 34) hx hb dX11_called_19 (by decide) (fun _ => ?_) (fun c => absurd (by decide) c)
      refine lv_bipush (v := (-2)) hx hb dX11_called_34 (by decide) ?_
      have hP9 := hP.sub (ws' := [((a 0), .inr (11, [.ref (ex 0), .ref (a 1), .ref (ex 1), .ref (ex 2), .ref (a 2), .ref (ex 3), .ref (ex 4), .ref (ex 5), .ref (ex 6), .ref (ex 7), .ref (ex 8), .ref (ex 9), .ref (ex 10), .ref (ex 11), .int (vi 2)])), ((a 1), .inr (7, [.int (vi 3), .int (vi 4), .ref (ex 12), .ref (ex 13), .ref (ex 14), .ref (ex 15), .ref (ex 16), .ref (ex 17), .ref (ex 18), .ref (ex 19), .ref (ex 20), .ref (ex 21)])), ((a 2), .inr (2, [.ref (a 1), .int (vi 5), .int (vi 6), .int (vi 7), .int (vi 8), .int (vi 9), .int (vi 10), .ref (ex 22), .ref (ex 23), .ref (ex 24), .ref (ex 25), .ref (ex 26), .ref (ex 27), .ref (ex 28), .ref (a 3)])), ((a 3), .inl (T 2, 200, .inr (.inl (fl 0))))]) [0, 2, 3, 1] rfl
      have hD9 := hD.sub (ws' := [((a 0), .inr (11, [.ref (ex 0), .ref (a 1), .ref (ex 1), .ref (ex 2), .ref (a 2), .ref (ex 3), .ref (ex 4), .ref (ex 5), .ref (ex 6), .ref (ex 7), .ref (ex 8), .ref (ex 9), .ref (ex 10), .ref (ex 11), .int (vi 2)])), ((a 1), .inr (7, [.int (vi 3), .int (vi 4), .ref (ex 12), .ref (ex 13), .ref (ex 14), .ref (ex 15), .ref (ex 16), .ref (ex 17), .ref (ex 18), .ref (ex 19), .ref (ex 20), .ref (ex 21)])), ((a 2), .inr (2, [.ref (a 1), .int (vi 5), .int (vi 6), .int (vi 7), .int (vi 8), .int (vi 9), .int (vi 10), .ref (ex 22), .ref (ex 23), .ref (ex 24), .ref (ex 25), .ref (ex 26), .ref (ex 27), .ref (ex 28), .ref (a 3)])), ((a 3), .inl (T 2, 200, .inr (.inl (fl 0))))]) [0, 2, 3, 1] (by decide +kernel) rfl
      rw [hQ]
      exact W.iret (v := (-2)) hx hb hr (fun t ht hW => ⟨⟨(-2), (-2), rfl, rfl, xf [], xh [], xv [], xl [], by rw [ht]; exact hP9, hD9, trivial⟩, hS.F ht⟩) hS.2.2 dX11_called_36
  · refine xz_i 0 er9 ?_
    refine lv_if_eq (tgt := 34) hx hb dX11_called_8 (by decide) (fun _ => ?_) (fun c => absurd (by decide) c)
    refine lv_bipush (v := (-2)) hx hb dX11_called_34 (by decide) ?_
    have hP9 := hP.sub (ws' := [((a 0), .inr (11, [.ref (ex 0), .ref (a 1), .ref (ex 1), .ref (ex 2), .ref (a 2), .ref (ex 3), .ref (ex 4), .ref (ex 5), .ref (ex 6), .ref (ex 7), .ref (ex 8), .ref (ex 9), .ref (ex 10), .ref (ex 11), .int (vi 2)])), ((a 1), .inr (7, [.int (vi 3), .int (vi 4), .ref (ex 12), .ref (ex 13), .ref (ex 14), .ref (ex 15), .ref (ex 16), .ref (ex 17), .ref (ex 18), .ref (ex 19), .ref (ex 20), .ref (ex 21)])), ((a 2), .inr (2, [.ref (a 1), .int (vi 5), .int (vi 6), .int (vi 7), .int (vi 8), .int (vi 9), .int (vi 10), .ref (ex 22), .ref (ex 23), .ref (ex 24), .ref (ex 25), .ref (ex 26), .ref (ex 27), .ref (ex 28), .ref (a 3)])), ((a 3), .inl (T 2, 200, .inr (.inl (fl 0))))]) [0, 3, 1, 2] rfl
    have hD9 := hD.sub (ws' := [((a 0), .inr (11, [.ref (ex 0), .ref (a 1), .ref (ex 1), .ref (ex 2), .ref (a 2), .ref (ex 3), .ref (ex 4), .ref (ex 5), .ref (ex 6), .ref (ex 7), .ref (ex 8), .ref (ex 9), .ref (ex 10), .ref (ex 11), .int (vi 2)])), ((a 1), .inr (7, [.int (vi 3), .int (vi 4), .ref (ex 12), .ref (ex 13), .ref (ex 14), .ref (ex 15), .ref (ex 16), .ref (ex 17), .ref (ex 18), .ref (ex 19), .ref (ex 20), .ref (ex 21)])), ((a 2), .inr (2, [.ref (a 1), .int (vi 5), .int (vi 6), .int (vi 7), .int (vi 8), .int (vi 9), .int (vi 10), .ref (ex 22), .ref (ex 23), .ref (ex 24), .ref (ex 25), .ref (ex 26), .ref (ex 27), .ref (ex 28), .ref (a 3)])), ((a 3), .inl (T 2, 200, .inr (.inl (fl 0))))]) [0, 3, 1, 2] (by decide +kernel) rfl
    rw [hQ]
    exact W.iret (v := (-2)) hx hb hr (fun t ht hW => ⟨⟨(-2), (-2), rfl, rfl, xf [], xh [], xv [], xl [], by rw [ht]; exact hP9, hD9, trivial⟩, hS.F ht⟩) hS.2.2 dX11_called_36
abbrev pre_X2_holderThen (T : Nat → ClassId) (a ex : Nat → Nat) (fi : Nat → Nat → Int32) (fl : Nat → Nat → Int64) (vi : Nat → Int32) (vl : Nat → Int64) : va_W := [((a 0), .inr (2, [.ref (a 1), .int (vi 2), .int (vi 3), .int (vi 4), .int (vi 5), .int (vi 6), .int (vi 7), .ref (ex 0), .ref (ex 1), .ref (ex 2), .ref (ex 3), .ref (ex 4), .ref (ex 5), .ref (ex 6), .ref (a 2)])), ((a 1), .inr (7, [.int (vi 8), .int (vi 9), .ref (ex 7), .ref (ex 8), .ref (ex 9), .ref (ex 10), .ref (ex 11), .ref (ex 12), .ref (ex 13), .ref (ex 14), .ref (ex 15), .ref (ex 16)])), ((a 2), .inl (T 2, 200, .inr (.inl (fl 0))))]
set_option maxHeartbeats 8000000 in
set_option maxRecDepth 100000 in
theorem c_X2_holderThen (l : Launch) (D : va_G) (T : Nat → ClassId) (a ex : Nat → Nat) (fi : Nat → Nat → Int32) (fl : Nat → Nat → Int64) (vi : Nat → Int32) (vl : Nat → Int64) (sz : Nat) (hp0 : 0 ≤ (vi 2).toInt ∧ (vi 2).toInt ≤ 200) (hp1 : 0 ≤ (vi 7).toInt ∧ (vi 7).toInt ≤ 9) (hp2 : 0 ≤ (vi 8).toInt ∧ (vi 8).toInt ≤ 9) (hp3 : 0 ≤ (vi 9).toInt ∧ (vi 9).toInt ≤ 9) : Met l yX2_holderThen (xw yX2_holderThen cX2_holderThen 4 (some .int)) ({ frames := 2, cells := 0, slots := 0, locals := 51 }) (xP D T [.ref (a 0), .int (vi 0), .int (vi 1)] sz (pre_X2_holderThen T a ex fi fl vi vl)) (va_Qi (fun r u => r = u) (xC D (va_A (pre_X2_holderThen T a ex fi fl vi vl) sz) (fun fj fm vj vm => [((a 0), .inr (2, [.ref (a 1), .int (vi 2), .int (vi 3), .int (vi 4), .int (vi 5), .int (vi 6), .int (vi 7), .ref (ex 0), .ref (ex 1), .ref (ex 2), .ref (ex 3), .ref (ex 4), .ref (ex 5), .ref (ex 6), .ref (a 2)])), ((a 1), .inr (7, [.int (vi 8), .int (vi 9), .ref (ex 7), .ref (ex 8), .ref (ex 9), .ref (ex 10), .ref (ex 11), .ref (ex 12), .ref (ex 13), .ref (ex 14), .ref (ex 15), .ref (ex 16)])), ((a 2), .inl (T 2, 200, .inr (.inl (fl 0))))]) (fun (r : Int32) (fj : Nat → Nat → Int32) (fm : Nat → Nat → Int64) (vj : Nat → Int32) (vm : Nat → Int64) => True)) (va_A (pre_X2_holderThen T a ex fi fl vi vl) sz)) 0 0 (va_A (pre_X2_holderThen T a ex fi fl vi vl) sz) := by
  refine xofW (cc := cX2_holderThen) (maxL := 4) (ret := (some .int)) (by decide) rfl ?_
  intro p e s m args below meth c s₁ R Q hR hQ B hml hv
  obtain ⟨rfl, hsz, hP, hK, hD0⟩ := hv
  have hx := B.exec
  have hb := B.bytes
  have hr := B.returns
  have hts := atoms_spec (ws := xw yX2_holderThen cX2_holderThen 4 (some .int)) B.pre
  have htg : ∀ w ∈ xg, w.before _ s = true := fun w h => hts w (List.mem_cons_of_mem _ h)
  have hown : s.vm.findClass RX2 = some m.cls := findClass_of_methodNamed B.named
  have hlocks := B.notSynchronized
  subst hsz
  have hD := hD0.self (sz := s.heap.size)
  generalize hAe : va_A (pre_X2_holderThen T a ex fi fl vi vl) s.heap.size = A at hD hQ
  have hA : ∀ q : Nat, s.heap.size ≤ q → A q := fun q h => by rw [← hAe]; exact Or.inr h
  have hS : va_S A s.heap s.heap [] := va_S.rf
  replace hP : va_P D vwCl [((a 0), .inr (2, [.ref (a 1), .int (vi 2), .int (vi 3), .int (vi 4), .int (vi 5), .int (vi 6), .int (vi 7), .ref (ex 0), .ref (ex 1), .ref (ex 2), .ref (ex 3), .ref (ex 4), .ref (ex 5), .ref (ex 6), .ref (a 2)])), ((a 1), .inr (7, [.int (vi 8), .int (vi 9), .ref (ex 7), .ref (ex 8), .ref (ex 9), .ref (ex 10), .ref (ex 11), .ref (ex 12), .ref (ex 13), .ref (ex 14), .ref (ex 15), .ref (ex 16)])), ((a 2), .inl (T 2, 200, .inr (.inl (fl 0))))] s.heap := hP
  replace hD : va_D A [((a 0), .inr (2, [.ref (a 1), .int (vi 2), .int (vi 3), .int (vi 4), .int (vi 5), .int (vi 6), .int (vi 7), .ref (ex 0), .ref (ex 1), .ref (ex 2), .ref (ex 3), .ref (ex 4), .ref (ex 5), .ref (ex 6), .ref (a 2)])), ((a 1), .inr (7, [.int (vi 8), .int (vi 9), .ref (ex 7), .ref (ex 8), .ref (ex 9), .ref (ex 10), .ref (ex 11), .ref (ex 12), .ref (ex 13), .ref (ex 14), .ref (ex 15), .ref (ex 16)])), ((a 2), .inl (T 2, 200, .inr (.inl (fl 0))))] := hD
  have hl := lv_entry ([.ref (a 0), .int (vi 0), .int (vi 1)]) (n := 4) (Nat.le_of_ble_eq_true rfl)
  rw [lg_entry_eq]
  generalize (lg_sl ([.ref (a 0), .int (vi 0), .int (vi 1)]) ++ List.replicate (4 - (lg_sl ([.ref (a 0), .int (vi 0), .int (vi 1)])).length) Slot.unset).toArray = ls at hl ⊢
  replace hl : lv_has ls 4 [(0, .ref (a 0)), (1, .int (vi 0)), (2, .int (vi 1))] := hl
  refine lv_iconst (v := 0) hx hb dX2_holderThen_0 (by decide) ?_
  refine lv_istore_n (lv' := [(3, .int 0), (0, .ref (a 0)), (1, .int (vi 0)), (2, .int (vi 1))]) hx hb dX2_holderThen_1 rfl hl (by decide) rfl (fun ls hl => ?_)
  have lp : ∀ (kn : Nat) (w3 : Int32) (H : Heap) (locs : List Loc) (ls : Array Slot), (0 ≤ w3.toInt) → (2147483648 - w3.toInt).toNat = kn → va_P D vwCl [((a 0), .inr (2, [.ref (a 1), .int (vi 2), .int (vi 3), .int (vi 4), .int (vi 5), .int (vi 6), .int (vi 7), .ref (ex 0), .ref (ex 1), .ref (ex 2), .ref (ex 3), .ref (ex 4), .ref (ex 5), .ref (ex 6), .ref (a 2)])), ((a 1), .inr (7, [.int (vi 8), .int (vi 9), .ref (ex 7), .ref (ex 8), .ref (ex 9), .ref (ex 10), .ref (ex 11), .ref (ex 12), .ref (ex 13), .ref (ex 14), .ref (ex 15), .ref (ex 16)])), ((a 2), .inl (T 2, 200, .inr (.inl (fl 0))))] H → va_D A [((a 0), .inr (2, [.ref (a 1), .int (vi 2), .int (vi 3), .int (vi 4), .int (vi 5), .int (vi 6), .int (vi 7), .ref (ex 0), .ref (ex 1), .ref (ex 2), .ref (ex 3), .ref (ex 4), .ref (ex 5), .ref (ex 6), .ref (a 2)])), ((a 1), .inr (7, [.int (vi 8), .int (vi 9), .ref (ex 7), .ref (ex 8), .ref (ex 9), .ref (ex 10), .ref (ex 11), .ref (ex 12), .ref (ex 13), .ref (ex 14), .ref (ex 15), .ref (ex 16)])), ((a 2), .inl (T 2, 200, .inr (.inl (fl 0))))] → va_S A s.heap H locs → lv_has ls 4 [(3, .int w3), (0, .ref (a 0)), (1, .int (vi 0)), (2, .int (vi 1))] → W p l e R s m ([.ref (a 0), .int (vi 0), .int (vi 1)] : List Value).toArray below meth c H locs 0 0 Q (F0 m 2 ls []) := by
    intro kn
    induction kn using Nat.strongRecOn with
    | _ kn ih =>
      intro w3 H locs ls hi hm hP hD hS hl
      refine lv_iload_n hx hb dX2_holderThen_2 rfl (lv_at hl 0 rfl) ?_
      refine lv_aload_n hx hb dX2_holderThen_3 rfl (lv_at hl 1 rfl) ?_
      refine va_get (D := D) (ci := 2) (v := .ref (a 1)) (C := RX2) (T := TX2) (N := 15) hx hb htg inX2 hown hK.1 hP 0 rfl rfl 0 (by decide) (htg _ kw_245) (fun _ h9 => h9) rfl dX2_holderThen_4 ?_
      refine va_getN (D := D) (ci := 7) (v := .int (vi 9)) (C := RX7) (T := TX7) (N := 12) hx hb htg inX7 hown hK.1 hP 1 rfl rfl 1 (by decide) (va_Nw.use rfl (hK.2.1 _ kn_164)) (fun _ h9 => h9) rfl dX2_holderThen_7 ?_
      refine lv_icmp_ge (tgt := 31) hx hb dX2_holderThen_10 (by decide) (fun c10 => ?_) (fun c10 => ?_)
      · have c10 := Int32.le_iff_toInt_le.mp c10
        have rc10 := xrng w3; have qc10 := xrng (vi 9)
        refine lv_iconst (v := (-1)) hx hb dX2_holderThen_31 (by decide) ?_
        have hP9 := hP.sub (ws' := [((a 0), .inr (2, [.ref (a 1), .int (vi 2), .int (vi 3), .int (vi 4), .int (vi 5), .int (vi 6), .int (vi 7), .ref (ex 0), .ref (ex 1), .ref (ex 2), .ref (ex 3), .ref (ex 4), .ref (ex 5), .ref (ex 6), .ref (a 2)])), ((a 1), .inr (7, [.int (vi 8), .int (vi 9), .ref (ex 7), .ref (ex 8), .ref (ex 9), .ref (ex 10), .ref (ex 11), .ref (ex 12), .ref (ex 13), .ref (ex 14), .ref (ex 15), .ref (ex 16)])), ((a 2), .inl (T 2, 200, .inr (.inl (fl 0))))]) [0, 1, 2] rfl
        have hD9 := hD.sub (ws' := [((a 0), .inr (2, [.ref (a 1), .int (vi 2), .int (vi 3), .int (vi 4), .int (vi 5), .int (vi 6), .int (vi 7), .ref (ex 0), .ref (ex 1), .ref (ex 2), .ref (ex 3), .ref (ex 4), .ref (ex 5), .ref (ex 6), .ref (a 2)])), ((a 1), .inr (7, [.int (vi 8), .int (vi 9), .ref (ex 7), .ref (ex 8), .ref (ex 9), .ref (ex 10), .ref (ex 11), .ref (ex 12), .ref (ex 13), .ref (ex 14), .ref (ex 15), .ref (ex 16)])), ((a 2), .inl (T 2, 200, .inr (.inl (fl 0))))]) [0, 1, 2] (by decide +kernel) rfl
        rw [hQ]
        exact W.iret (v := (-1)) hx hb hr (fun t ht hW => ⟨⟨(-1), (-1), rfl, rfl, xf [], xh [], xv [], xl [], by rw [ht]; exact hP9, hD9, trivial⟩, hS.F ht⟩) hS.2.2 dX2_holderThen_32
      · have c10 := (mt Int32.le_iff_toInt_le.mpr c10)
        have rc10 := xrng w3; have qc10 := xrng (vi 9)
        refine lv_aload_n hx hb dX2_holderThen_13 rfl (lv_at hl 1 rfl) ?_
        refine lv_iload_n hx hb dX2_holderThen_14 rfl (lv_at hl 0 rfl) ?_
        refine lv_iload_n hx hb dX2_holderThen_15 rfl (lv_at hl 3 rfl) ?_
        have hPc := hP.sub (ws' := (pre_X2_calledThen T (xa [(a 0), (a 2)]) (xa [(a 1), (ex 0), (ex 1), (ex 2), (ex 3), (ex 4), (ex 5), (ex 6)]) (xf []) (xh [(fl 0)]) (xv [w3, (vi 1), (vi 2), (vi 3), (vi 4), (vi 5), (vi 6), (vi 7)]) (xl []))) [0, 2] rfl
        have hDc := hD.sub (ws' := (pre_X2_calledThen T (xa [(a 0), (a 2)]) (xa [(a 1), (ex 0), (ex 1), (ex 2), (ex 3), (ex 4), (ex 5), (ex 6)]) (xf []) (xh [(fl 0)]) (xv [w3, (vi 1), (vi 2), (vi 3), (vi 4), (vi 5), (vi 6), (vi 7)]) (xl []))) [0, 2] (by decide) rfl
        have hFc := va_free (wc := (pre_X2_calledThen T (xa [(a 0), (a 2)]) (xa [(a 1), (ex 0), (ex 1), (ex 2), (ex 3), (ex 4), (ex 5), (ex 6)]) (xf []) (xh [(fl 0)]) (xv [w3, (vi 1), (vi 2), (vi 3), (vi 4), (vi 5), (vi 6), (vi 7)]) (xl []))) hD hS hA [0, 2] rfl
        refine va_calli (va_runV (As := [.int w3, .int (vi 1)]) (rest := []) ⟨hx, hb, hml, hown, htg⟩ (c_X2_calledThen l D T (xa [(a 0), (a 2)]) (xa [(a 1), (ex 0), (ex 1), (ex 2), (ex 3), (ex 4), (ex 5), (ex 6)]) (xf []) (xh [(fl 0)]) (xv [w3, (vi 1), (vi 2), (vi 3), (vi 4), (vi 5), (vi 6), (vi 7)]) (xl []) H.size (by show 0 ≤ (vi 2).toInt ∧ (vi 2).toInt ≤ 200; omega) (by show 0 ≤ (vi 7).toInt ∧ (vi 7).toInt ≤ 9; omega)) ⟨callB_of 2 htg (xg_ok kw_952) rfl rfl rfl (htg _ kw_9) (htg _ kw_963) (by decide +kernel) ⟨by rw [hR]; exact Nat.le_of_ble_eq_true rfl, by rw [hR]; exact Nat.le_of_ble_eq_true rfl⟩, htg _ kw_951, htg _ ks_73⟩ (xpreV hK hPc hDc (va_recv hK.1 hPc (ci := 2) (q0 := 0) rfl rfl)) rfl rfl hl.1 rfl (lv_room (Nat.le_of_ble_eq_true rfl)) dX2_holderThen_16 ⟨by rw [hR]; exact Nat.le_of_ble_eq_true rfl, by rw [hR]; exact Nat.le_of_ble_eq_true rfl⟩) hS (fun q _ h => hFc q h) hFc (fun r9 u9 t H1 locs ht hvm hw hB hz1 hk1 hS => ?_)
        subst hw
        obtain ⟨fik, flk, vik, vlk, hP1, hD1, hG⟩ := hB
        rw [ht] at hP1
        obtain ⟨hP, hD⟩ := va_join (wr := [((a 1), .inr (7, [.int (vi 8), .int (vi 9), .ref (ex 7), .ref (ex 8), .ref (ex 9), .ref (ex 10), .ref (ex 11), .ref (ex 12), .ref (ex 13), .ref (ex 14), .ref (ex 15), .ref (ex 16)]))]) (w1 := [((a 0), .inr (2, [.ref (a 1), .int (vi 2), .int (vi 3), .int (vi 4), .int (vi 5), .int (vi 6), .int (vi 7), .ref (ex 0), .ref (ex 1), .ref (ex 2), .ref (ex 3), .ref (ex 4), .ref (ex 5), .ref (ex 6), .ref (a 2)])), ((a 2), .inl (T 2, 200, .inr (.inl (fl 0))))]) hP hD [0, 2] [1] rfl rfl (by decide) (by decide) hk1 hFc hP1 hD1
        obtain ⟨rk, er9⟩ : ∃ z, z = r9 := ⟨_, rfl⟩
        subst er9
        clear hPc hDc hFc hP1 hD1 hk1 hz1 hvm ht
        generalize H1 = H at hP hS ⊢
        replace hP : va_P D vwCl [((a 1), .inr (7, [.int (vi 8), .int (vi 9), .ref (ex 7), .ref (ex 8), .ref (ex 9), .ref (ex 10), .ref (ex 11), .ref (ex 12), .ref (ex 13), .ref (ex 14), .ref (ex 15), .ref (ex 16)])), ((a 0), .inr (2, [.ref (a 1), .int (vi 2), .int (vi 3), .int (vi 4), .int (vi 5), .int (vi 6), .int (vi 7), .ref (ex 0), .ref (ex 1), .ref (ex 2), .ref (ex 3), .ref (ex 4), .ref (ex 5), .ref (ex 6), .ref (a 2)])), ((a 2), .inl (T 2, 200, .inr (.inl (fl 0))))] H := hP
        replace hD : va_D A [((a 1), .inr (7, [.int (vi 8), .int (vi 9), .ref (ex 7), .ref (ex 8), .ref (ex 9), .ref (ex 10), .ref (ex 11), .ref (ex 12), .ref (ex 13), .ref (ex 14), .ref (ex 15), .ref (ex 16)])), ((a 0), .inr (2, [.ref (a 1), .int (vi 2), .int (vi 3), .int (vi 4), .int (vi 5), .int (vi 6), .int (vi 7), .ref (ex 0), .ref (ex 1), .ref (ex 2), .ref (ex 3), .ref (ex 4), .ref (ex 5), .ref (ex 6), .ref (a 2)])), ((a 2), .inl (T 2, 200, .inr (.inl (fl 0))))] := hD
        clear hG
        refine lv_iload_n hx hb dX2_holderThen_19 rfl (lv_at hl 2 rfl) ?_
        refine lv_icmp_ne (tgt := 25) hx hb dX2_holderThen_20 (by decide) (fun c20 => ?_) (fun c20 => ?_)
        · have c20 := xne2 c20
          have rc20 := xrng rk; have qc20 := xrng (vi 0)
          obtain ⟨i25, ei25⟩ : ∃ z : Int32, w3 + Int32.ofInt 1 = z := ⟨_, rfl⟩
          have ti25 : i25.toInt = w3.toInt + 1 := by rw [← ei25]; have h79 := xrng w3; exact xadd rfl (by decide) (by omega) (by omega)
          refine lv_iinc (v := i25) (lv' := [(3, .int i25), (0, .ref (a 0)), (1, .int (vi 0)), (2, .int (vi 1))]) hx hb dX2_holderThen_25 hl (k := 0) rfl ei25 (by decide) rfl (fun ls hl => ?_)
          refine lv_goto (tgt := 2) hx hb dX2_holderThen_28 (by decide) ?_
          exact ih _ (by omega) i25 _ _ _ (by show 0 ≤ i25.toInt; omega) rfl (hP.sub [1, 0, 2] rfl) (hD.sub [1, 0, 2] (by decide) rfl) hS (lv_sub hl [0, 1, 2, 3] rfl)
        · have c20 := congrArg Int32.toInt c20
          have rc20 := xrng rk; have qc20 := xrng (vi 0)
          refine lv_iload_n hx hb dX2_holderThen_23 rfl (lv_at hl 0 rfl) ?_
          have hP9 := hP.sub (ws' := [((a 0), .inr (2, [.ref (a 1), .int (vi 2), .int (vi 3), .int (vi 4), .int (vi 5), .int (vi 6), .int (vi 7), .ref (ex 0), .ref (ex 1), .ref (ex 2), .ref (ex 3), .ref (ex 4), .ref (ex 5), .ref (ex 6), .ref (a 2)])), ((a 1), .inr (7, [.int (vi 8), .int (vi 9), .ref (ex 7), .ref (ex 8), .ref (ex 9), .ref (ex 10), .ref (ex 11), .ref (ex 12), .ref (ex 13), .ref (ex 14), .ref (ex 15), .ref (ex 16)])), ((a 2), .inl (T 2, 200, .inr (.inl (fl 0))))]) [1, 0, 2] rfl
          have hD9 := hD.sub (ws' := [((a 0), .inr (2, [.ref (a 1), .int (vi 2), .int (vi 3), .int (vi 4), .int (vi 5), .int (vi 6), .int (vi 7), .ref (ex 0), .ref (ex 1), .ref (ex 2), .ref (ex 3), .ref (ex 4), .ref (ex 5), .ref (ex 6), .ref (a 2)])), ((a 1), .inr (7, [.int (vi 8), .int (vi 9), .ref (ex 7), .ref (ex 8), .ref (ex 9), .ref (ex 10), .ref (ex 11), .ref (ex 12), .ref (ex 13), .ref (ex 14), .ref (ex 15), .ref (ex 16)])), ((a 2), .inl (T 2, 200, .inr (.inl (fl 0))))]) [1, 0, 2] (by decide +kernel) rfl
          rw [hQ]
          exact W.iret (v := w3) hx hb hr (fun t ht hW => ⟨⟨w3, w3, rfl, rfl, xf [], xh [], xv [], xl [], by rw [ht]; exact hP9, hD9, trivial⟩, hS.F ht⟩) hS.2.2 dX2_holderThen_24
  exact lp _ (0 : Int32) _ _ _ (by show 0 ≤ (0 : Int32).toInt; have k9_0 : (0 : Int32).toInt = 0 := (by decide); omega) rfl hP hD hS hl
abbrev pre_X11_holder (T : Nat → ClassId) (a ex : Nat → Nat) (fi : Nat → Nat → Int32) (fl : Nat → Nat → Int64) (vi : Nat → Int32) (vl : Nat → Int64) : va_W := [((a 0), .inr (11, [.ref (ex 0), .ref (a 1), .ref (ex 1), .ref (ex 2), .ref (a 2), .ref (ex 3), .ref (ex 4), .ref (ex 5), .ref (ex 6), .ref (ex 7), .ref (ex 8), .ref (ex 9), .ref (ex 10), .ref (ex 11), .int (vi 2)])), ((a 1), .inr (7, [.int (vi 3), .int (vi 4), .ref (ex 12), .ref (ex 13), .ref (ex 14), .ref (ex 15), .ref (ex 16), .ref (ex 17), .ref (ex 18), .ref (ex 19), .ref (ex 20), .ref (ex 21)])), ((a 2), .inr (2, [.ref (a 1), .int (vi 5), .int (vi 6), .int (vi 7), .int (vi 8), .int (vi 9), .int (vi 10), .ref (ex 22), .ref (ex 23), .ref (ex 24), .ref (ex 25), .ref (ex 26), .ref (ex 27), .ref (ex 28), .ref (a 3)])), ((a 3), .inl (T 2, 200, .inr (.inl (fl 0))))]
set_option maxHeartbeats 8000000 in
set_option maxRecDepth 100000 in
theorem c_X11_holder (l : Launch) (D : va_G) (T : Nat → ClassId) (a ex : Nat → Nat) (fi : Nat → Nat → Int32) (fl : Nat → Nat → Int64) (vi : Nat → Int32) (vl : Nat → Int64) (sz : Nat) (hp0 : 0 ≤ (vi 3).toInt ∧ (vi 3).toInt ≤ 9) (hp1 : 0 ≤ (vi 4).toInt ∧ (vi 4).toInt ≤ 9) (hp2 : 0 ≤ (vi 5).toInt ∧ (vi 5).toInt ≤ 200) (hp3 : 0 ≤ (vi 10).toInt ∧ (vi 10).toInt ≤ 9) : Met l yX11_holder (xw yX11_holder cX11_holder 3 (some .int)) ({ frames := 3, cells := 0, slots := 0, locals := 78 }) (xP D T [.ref (a 0), .int (vi 0), .int (vi 1)] sz (pre_X11_holder T a ex fi fl vi vl)) (va_Qi (fun r u => r = u) (xC D (va_A (pre_X11_holder T a ex fi fl vi vl) sz) (fun fj fm vj vm => [((a 0), .inr (11, [.ref (ex 0), .ref (a 1), .ref (ex 1), .ref (ex 2), .ref (a 2), .ref (ex 3), .ref (ex 4), .ref (ex 5), .ref (ex 6), .ref (ex 7), .ref (ex 8), .ref (ex 9), .ref (ex 10), .ref (ex 11), .int (vi 2)])), ((a 1), .inr (7, [.int (vi 3), .int (vi 4), .ref (ex 12), .ref (ex 13), .ref (ex 14), .ref (ex 15), .ref (ex 16), .ref (ex 17), .ref (ex 18), .ref (ex 19), .ref (ex 20), .ref (ex 21)])), ((a 2), .inr (2, [.ref (a 1), .int (vi 5), .int (vi 6), .int (vi 7), .int (vi 8), .int (vi 9), .int (vi 10), .ref (ex 22), .ref (ex 23), .ref (ex 24), .ref (ex 25), .ref (ex 26), .ref (ex 27), .ref (ex 28), .ref (a 3)])), ((a 3), .inl (T 2, 200, .inr (.inl (fl 0))))]) (fun (r : Int32) (fj : Nat → Nat → Int32) (fm : Nat → Nat → Int64) (vj : Nat → Int32) (vm : Nat → Int64) => True)) (va_A (pre_X11_holder T a ex fi fl vi vl) sz)) 0 0 (va_A (pre_X11_holder T a ex fi fl vi vl) sz) := by
  refine xofW (cc := cX11_holder) (maxL := 3) (ret := (some .int)) (by decide) rfl ?_
  intro p e s m args below meth c s₁ R Q hR hQ B hml hv
  obtain ⟨rfl, hsz, hP, hK, hD0⟩ := hv
  have hx := B.exec
  have hb := B.bytes
  have hr := B.returns
  have hts := atoms_spec (ws := xw yX11_holder cX11_holder 3 (some .int)) B.pre
  have htg : ∀ w ∈ xg, w.before _ s = true := fun w h => hts w (List.mem_cons_of_mem _ h)
  have hown : s.vm.findClass RX11 = some m.cls := findClass_of_methodNamed B.named
  have hlocks := B.notSynchronized
  subst hsz
  have hD := hD0.self (sz := s.heap.size)
  generalize hAe : va_A (pre_X11_holder T a ex fi fl vi vl) s.heap.size = A at hD hQ
  have hA : ∀ q : Nat, s.heap.size ≤ q → A q := fun q h => by rw [← hAe]; exact Or.inr h
  have hS : va_S A s.heap s.heap [] := va_S.rf
  replace hP : va_P D vwCl [((a 0), .inr (11, [.ref (ex 0), .ref (a 1), .ref (ex 1), .ref (ex 2), .ref (a 2), .ref (ex 3), .ref (ex 4), .ref (ex 5), .ref (ex 6), .ref (ex 7), .ref (ex 8), .ref (ex 9), .ref (ex 10), .ref (ex 11), .int (vi 2)])), ((a 1), .inr (7, [.int (vi 3), .int (vi 4), .ref (ex 12), .ref (ex 13), .ref (ex 14), .ref (ex 15), .ref (ex 16), .ref (ex 17), .ref (ex 18), .ref (ex 19), .ref (ex 20), .ref (ex 21)])), ((a 2), .inr (2, [.ref (a 1), .int (vi 5), .int (vi 6), .int (vi 7), .int (vi 8), .int (vi 9), .int (vi 10), .ref (ex 22), .ref (ex 23), .ref (ex 24), .ref (ex 25), .ref (ex 26), .ref (ex 27), .ref (ex 28), .ref (a 3)])), ((a 3), .inl (T 2, 200, .inr (.inl (fl 0))))] s.heap := hP
  replace hD : va_D A [((a 0), .inr (11, [.ref (ex 0), .ref (a 1), .ref (ex 1), .ref (ex 2), .ref (a 2), .ref (ex 3), .ref (ex 4), .ref (ex 5), .ref (ex 6), .ref (ex 7), .ref (ex 8), .ref (ex 9), .ref (ex 10), .ref (ex 11), .int (vi 2)])), ((a 1), .inr (7, [.int (vi 3), .int (vi 4), .ref (ex 12), .ref (ex 13), .ref (ex 14), .ref (ex 15), .ref (ex 16), .ref (ex 17), .ref (ex 18), .ref (ex 19), .ref (ex 20), .ref (ex 21)])), ((a 2), .inr (2, [.ref (a 1), .int (vi 5), .int (vi 6), .int (vi 7), .int (vi 8), .int (vi 9), .int (vi 10), .ref (ex 22), .ref (ex 23), .ref (ex 24), .ref (ex 25), .ref (ex 26), .ref (ex 27), .ref (ex 28), .ref (a 3)])), ((a 3), .inl (T 2, 200, .inr (.inl (fl 0))))] := hD
  have hl := lv_entry ([.ref (a 0), .int (vi 0), .int (vi 1)]) (n := 3) (Nat.le_of_ble_eq_true rfl)
  rw [lg_entry_eq]
  generalize (lg_sl ([.ref (a 0), .int (vi 0), .int (vi 1)]) ++ List.replicate (3 - (lg_sl ([.ref (a 0), .int (vi 0), .int (vi 1)])).length) Slot.unset).toArray = ls at hl ⊢
  replace hl : lv_has ls 3 [(0, .ref (a 0)), (1, .int (vi 0)), (2, .int (vi 1))] := hl
  refine lv_aload_n hx hb dX11_holder_0 rfl (lv_at hl 0 rfl) ?_
  refine va_get (D := D) (ci := 11) (v := .ref (a 1)) (C := RX11) (T := TX11) (N := 15) hx hb htg inX11 hown hK.1 hP 0 rfl rfl 1 (by decide) (htg _ kw_497) (fun _ h9 => h9) rfl dX11_holder_1 ?_
  refine lv_iload_n hx hb dX11_holder_4 rfl (lv_at hl 1 rfl) ?_
  have hPc := hP.sub (ws' := (pre_X7_isName T (xa [(a 1)]) (xa [(ex 12), (ex 13), (ex 14), (ex 15), (ex 16), (ex 17), (ex 18), (ex 19), (ex 20), (ex 21)]) (xf []) (xh []) (xv [(vi 0), (vi 3), (vi 4)]) (xl []))) [1] rfl
  have hDc := hD.sub (ws' := (pre_X7_isName T (xa [(a 1)]) (xa [(ex 12), (ex 13), (ex 14), (ex 15), (ex 16), (ex 17), (ex 18), (ex 19), (ex 20), (ex 21)]) (xf []) (xh []) (xv [(vi 0), (vi 3), (vi 4)]) (xl []))) [1] (by decide) rfl
  have hFc := va_free (wc := (pre_X7_isName T (xa [(a 1)]) (xa [(ex 12), (ex 13), (ex 14), (ex 15), (ex 16), (ex 17), (ex 18), (ex 19), (ex 20), (ex 21)]) (xf []) (xh []) (xv [(vi 0), (vi 3), (vi 4)]) (xl []))) hD hS hA [1] rfl
  refine va_calli (va_runVN (As := [.int (vi 0)]) (rest := []) ⟨hx, hb, hml, hown, htg⟩ (c_X7_isName l D T (xa [(a 1)]) (xa [(ex 12), (ex 13), (ex 14), (ex 15), (ex 16), (ex 17), (ex 18), (ex 19), (ex 20), (ex 21)]) (xf []) (xh []) (xv [(vi 0), (vi 3), (vi 4)]) (xl []) s.heap.size (by show 0 ≤ (vi 3).toInt ∧ (vi 3).toInt ≤ 9; omega) (by show 0 ≤ (vi 4).toInt ∧ (vi 4).toInt ≤ 9; omega)) ⟨va_cnB 1 htg (xg_ok kw_683) rfl rfl rfl (hK.2.1 _ kn_743) (htg _ kw_7) (by decide +kernel) ⟨by rw [hR]; exact Nat.le_of_ble_eq_true rfl, by rw [hR]; exact Nat.le_of_ble_eq_true rfl⟩, htg _ kw_682, htg _ ks_29⟩ (xpreV hK hPc hDc (va_recv hK.1 hPc (ci := 7) (q0 := 0) rfl rfl)) rfl rfl hl.1 rfl (lv_room (Nat.le_of_ble_eq_true rfl)) dX11_holder_5 ⟨by rw [hR]; exact Nat.le_of_ble_eq_true rfl, by rw [hR]; exact Nat.le_of_ble_eq_true rfl⟩) hS (fun q _ h => hFc q h) hFc (fun r9 u9 t H1 locs ht hvm hw hB hz1 hk1 hS => ?_)
  subst hw
  obtain ⟨fik, flk, vik, vlk, hP1, hD1, hG⟩ := hB
  rw [ht] at hP1
  obtain ⟨hP, hD⟩ := va_join (wr := [((a 0), .inr (11, [.ref (ex 0), .ref (a 1), .ref (ex 1), .ref (ex 2), .ref (a 2), .ref (ex 3), .ref (ex 4), .ref (ex 5), .ref (ex 6), .ref (ex 7), .ref (ex 8), .ref (ex 9), .ref (ex 10), .ref (ex 11), .int (vi 2)])), ((a 2), .inr (2, [.ref (a 1), .int (vi 5), .int (vi 6), .int (vi 7), .int (vi 8), .int (vi 9), .int (vi 10), .ref (ex 22), .ref (ex 23), .ref (ex 24), .ref (ex 25), .ref (ex 26), .ref (ex 27), .ref (ex 28), .ref (a 3)])), ((a 3), .inl (T 2, 200, .inr (.inl (fl 0))))]) (w1 := [((a 1), .inr (7, [.int (vi 3), .int (vi 4), .ref (ex 12), .ref (ex 13), .ref (ex 14), .ref (ex 15), .ref (ex 16), .ref (ex 17), .ref (ex 18), .ref (ex 19), .ref (ex 20), .ref (ex 21)]))]) hP hD [1] [0, 2, 3] rfl rfl (by decide) (by decide) hk1 hFc hP1 hD1
  obtain ⟨rk, er9⟩ : ∃ z, z = r9 := ⟨_, rfl⟩
  subst er9
  clear hPc hDc hFc hP1 hD1 hk1 hz1 hvm ht
  generalize H1 = H at hP hS ⊢
  replace hP : va_P D vwCl [((a 0), .inr (11, [.ref (ex 0), .ref (a 1), .ref (ex 1), .ref (ex 2), .ref (a 2), .ref (ex 3), .ref (ex 4), .ref (ex 5), .ref (ex 6), .ref (ex 7), .ref (ex 8), .ref (ex 9), .ref (ex 10), .ref (ex 11), .int (vi 2)])), ((a 2), .inr (2, [.ref (a 1), .int (vi 5), .int (vi 6), .int (vi 7), .int (vi 8), .int (vi 9), .int (vi 10), .ref (ex 22), .ref (ex 23), .ref (ex 24), .ref (ex 25), .ref (ex 26), .ref (ex 27), .ref (ex 28), .ref (a 3)])), ((a 3), .inl (T 2, 200, .inr (.inl (fl 0)))), ((a 1), .inr (7, [.int (vi 3), .int (vi 4), .ref (ex 12), .ref (ex 13), .ref (ex 14), .ref (ex 15), .ref (ex 16), .ref (ex 17), .ref (ex 18), .ref (ex 19), .ref (ex 20), .ref (ex 21)]))] H := hP
  replace hD : va_D A [((a 0), .inr (11, [.ref (ex 0), .ref (a 1), .ref (ex 1), .ref (ex 2), .ref (a 2), .ref (ex 3), .ref (ex 4), .ref (ex 5), .ref (ex 6), .ref (ex 7), .ref (ex 8), .ref (ex 9), .ref (ex 10), .ref (ex 11), .int (vi 2)])), ((a 2), .inr (2, [.ref (a 1), .int (vi 5), .int (vi 6), .int (vi 7), .int (vi 8), .int (vi 9), .int (vi 10), .ref (ex 22), .ref (ex 23), .ref (ex 24), .ref (ex 25), .ref (ex 26), .ref (ex 27), .ref (ex 28), .ref (a 3)])), ((a 3), .inl (T 2, 200, .inr (.inl (fl 0)))), ((a 1), .inr (7, [.int (vi 3), .int (vi 4), .ref (ex 12), .ref (ex 13), .ref (ex 14), .ref (ex 15), .ref (ex 16), .ref (ex 17), .ref (ex 18), .ref (ex 19), .ref (ex 20), .ref (ex 21)]))] := hD
  obtain ⟨gk_0, -⟩ := hG
  rcases (show (rk = 1 ∧ (0 ≤ (vi 0).toInt ∧ (vi 0).toInt < (vi 3).toInt)) ∨ (rk = 0 ∧ (¬ (0 ≤ (vi 0).toInt ∧ (vi 0).toInt < (vi 3).toInt))) from gk_0) with ⟨er9, gk_0⟩ | ⟨er9, gk_0⟩
  · refine xz_i 1 er9 ?_
    refine lv_if_eq (tgt := 34) hx hb dX11_holder_8 (by decide) (fun c => absurd c (by decide)) (fun _ => ?_)
    refine lv_aload_n hx hb dX11_holder_11 rfl (lv_at hl 0 rfl) ?_
    refine va_get (D := D) (ci := 11) (v := .ref (a 2)) (C := RX11) (T := TX11) (N := 15) hx hb htg inX11 hown hK.1 hP 0 rfl rfl 4 (by decide) (htg _ kw_500) (fun _ h9 => h9) rfl dX11_holder_12 ?_
    refine lv_iload_n hx hb dX11_holder_15 rfl (lv_at hl 2 rfl) ?_
    have hPc := hP.sub (ws' := (pre_X2_hasGone T (xa [(a 2)]) (xa [(a 1), (ex 22), (ex 23), (ex 24), (ex 25), (ex 26), (ex 27), (ex 28), (a 3)]) (xf []) (xh []) (xv [(vi 1), (vi 5), (vi 6), (vi 7), (vi 8), (vi 9), (vi 10)]) (xl []))) [1] rfl
    have hDc := hD.sub (ws' := (pre_X2_hasGone T (xa [(a 2)]) (xa [(a 1), (ex 22), (ex 23), (ex 24), (ex 25), (ex 26), (ex 27), (ex 28), (a 3)]) (xf []) (xh []) (xv [(vi 1), (vi 5), (vi 6), (vi 7), (vi 8), (vi 9), (vi 10)]) (xl []))) [1] (by decide) rfl
    have hFc := va_free (wc := (pre_X2_hasGone T (xa [(a 2)]) (xa [(a 1), (ex 22), (ex 23), (ex 24), (ex 25), (ex 26), (ex 27), (ex 28), (a 3)]) (xf []) (xh []) (xv [(vi 1), (vi 5), (vi 6), (vi 7), (vi 8), (vi 9), (vi 10)]) (xl []))) hD hS hA [1] rfl
    refine va_calli (va_runVN (As := [.int (vi 1)]) (rest := []) ⟨hx, hb, hml, hown, htg⟩ (c_X2_hasGone l D T (xa [(a 2)]) (xa [(a 1), (ex 22), (ex 23), (ex 24), (ex 25), (ex 26), (ex 27), (ex 28), (a 3)]) (xf []) (xh []) (xv [(vi 1), (vi 5), (vi 6), (vi 7), (vi 8), (vi 9), (vi 10)]) (xl []) H.size (by show 0 ≤ (vi 5).toInt ∧ (vi 5).toInt ≤ 200; omega) (by show 0 ≤ (vi 10).toInt ∧ (vi 10).toInt ≤ 9; omega)) ⟨va_cnB 1 htg (xg_ok kw_948) rfl rfl rfl (hK.2.1 _ kn_945) (htg _ kw_9) (by decide +kernel) ⟨by rw [hR]; exact Nat.le_of_ble_eq_true rfl, by rw [hR]; exact Nat.le_of_ble_eq_true rfl⟩, htg _ kw_947, htg _ ks_72⟩ (xpreV hK hPc hDc (va_recv hK.1 hPc (ci := 2) (q0 := 0) rfl rfl)) rfl rfl hl.1 rfl (lv_room (Nat.le_of_ble_eq_true rfl)) dX11_holder_16 ⟨by rw [hR]; exact Nat.le_of_ble_eq_true rfl, by rw [hR]; exact Nat.le_of_ble_eq_true rfl⟩) hS (fun q _ h => hFc q h) hFc (fun r9 u9 t H1 locs ht hvm hw hB hz1 hk1 hS => ?_)
    subst hw
    obtain ⟨fik_1, flk_1, vik_1, vlk_1, hP1, hD1, hG⟩ := hB
    rw [ht] at hP1
    obtain ⟨hP, hD⟩ := va_join (wr := [((a 0), .inr (11, [.ref (ex 0), .ref (a 1), .ref (ex 1), .ref (ex 2), .ref (a 2), .ref (ex 3), .ref (ex 4), .ref (ex 5), .ref (ex 6), .ref (ex 7), .ref (ex 8), .ref (ex 9), .ref (ex 10), .ref (ex 11), .int (vi 2)])), ((a 3), .inl (T 2, 200, .inr (.inl (fl 0)))), ((a 1), .inr (7, [.int (vi 3), .int (vi 4), .ref (ex 12), .ref (ex 13), .ref (ex 14), .ref (ex 15), .ref (ex 16), .ref (ex 17), .ref (ex 18), .ref (ex 19), .ref (ex 20), .ref (ex 21)]))]) (w1 := [((a 2), .inr (2, [.ref (a 1), .int (vi 5), .int (vi 6), .int (vi 7), .int (vi 8), .int (vi 9), .int (vi 10), .ref (ex 22), .ref (ex 23), .ref (ex 24), .ref (ex 25), .ref (ex 26), .ref (ex 27), .ref (ex 28), .ref (a 3)]))]) hP hD [1] [0, 2, 3] rfl rfl (by decide) (by decide) hk1 hFc hP1 hD1
    obtain ⟨rk_1, er9⟩ : ∃ z, z = r9 := ⟨_, rfl⟩
    subst er9
    clear hPc hDc hFc hP1 hD1 hk1 hz1 hvm ht
    generalize H1 = H at hP hS ⊢
    replace hP : va_P D vwCl [((a 0), .inr (11, [.ref (ex 0), .ref (a 1), .ref (ex 1), .ref (ex 2), .ref (a 2), .ref (ex 3), .ref (ex 4), .ref (ex 5), .ref (ex 6), .ref (ex 7), .ref (ex 8), .ref (ex 9), .ref (ex 10), .ref (ex 11), .int (vi 2)])), ((a 3), .inl (T 2, 200, .inr (.inl (fl 0)))), ((a 1), .inr (7, [.int (vi 3), .int (vi 4), .ref (ex 12), .ref (ex 13), .ref (ex 14), .ref (ex 15), .ref (ex 16), .ref (ex 17), .ref (ex 18), .ref (ex 19), .ref (ex 20), .ref (ex 21)])), ((a 2), .inr (2, [.ref (a 1), .int (vi 5), .int (vi 6), .int (vi 7), .int (vi 8), .int (vi 9), .int (vi 10), .ref (ex 22), .ref (ex 23), .ref (ex 24), .ref (ex 25), .ref (ex 26), .ref (ex 27), .ref (ex 28), .ref (a 3)]))] H := hP
    replace hD : va_D A [((a 0), .inr (11, [.ref (ex 0), .ref (a 1), .ref (ex 1), .ref (ex 2), .ref (a 2), .ref (ex 3), .ref (ex 4), .ref (ex 5), .ref (ex 6), .ref (ex 7), .ref (ex 8), .ref (ex 9), .ref (ex 10), .ref (ex 11), .int (vi 2)])), ((a 3), .inl (T 2, 200, .inr (.inl (fl 0)))), ((a 1), .inr (7, [.int (vi 3), .int (vi 4), .ref (ex 12), .ref (ex 13), .ref (ex 14), .ref (ex 15), .ref (ex 16), .ref (ex 17), .ref (ex 18), .ref (ex 19), .ref (ex 20), .ref (ex 21)])), ((a 2), .inr (2, [.ref (a 1), .int (vi 5), .int (vi 6), .int (vi 7), .int (vi 8), .int (vi 9), .int (vi 10), .ref (ex 22), .ref (ex 23), .ref (ex 24), .ref (ex 25), .ref (ex 26), .ref (ex 27), .ref (ex 28), .ref (a 3)]))] := hD
    obtain ⟨gk_1_0, -⟩ := hG
    rcases (show (rk_1 = 1 ∧ (0 ≤ (vi 1).toInt ∧ (vi 1).toInt < (vi 5).toInt)) ∨ (rk_1 = 0 ∧ (True)) from gk_1_0) with ⟨er9, gk_1_0⟩ | ⟨er9, gk_1_0⟩
    · refine xz_i 1 er9 ?_
      refine lv_if_eq (tgt := 34) hx hb dX11_holder_19 (by decide) (fun c => absurd c (by decide)) (fun _ => ?_)
      refine lv_aload_n hx hb dX11_holder_22 rfl (lv_at hl 0 rfl) ?_
      refine va_get (D := D) (ci := 11) (v := .ref (a 2)) (C := RX11) (T := TX11) (N := 15) hx hb htg inX11 hown hK.1 hP 0 rfl rfl 4 (by decide) (htg _ kw_500) (fun _ h9 => h9) rfl dX11_holder_23 ?_
      refine lv_iload_n hx hb dX11_holder_26 rfl (lv_at hl 1 rfl) ?_
      refine lv_iload_n hx hb dX11_holder_27 rfl (lv_at hl 2 rfl) ?_
      have hPc := hP.sub (ws' := (pre_X2_holderThen T (xa [(a 2), (a 1), (a 3)]) (xa [(ex 22), (ex 23), (ex 24), (ex 25), (ex 26), (ex 27), (ex 28), (ex 12), (ex 13), (ex 14), (ex 15), (ex 16), (ex 17), (ex 18), (ex 19), (ex 20), (ex 21)]) (xf []) (xh [(fl 0)]) (xv [(vi 0), (vi 1), (vi 5), (vi 6), (vi 7), (vi 8), (vi 9), (vi 10), (vi 3), (vi 4)]) (xl []))) [3, 2, 1] rfl
      have hDc := hD.sub (ws' := (pre_X2_holderThen T (xa [(a 2), (a 1), (a 3)]) (xa [(ex 22), (ex 23), (ex 24), (ex 25), (ex 26), (ex 27), (ex 28), (ex 12), (ex 13), (ex 14), (ex 15), (ex 16), (ex 17), (ex 18), (ex 19), (ex 20), (ex 21)]) (xf []) (xh [(fl 0)]) (xv [(vi 0), (vi 1), (vi 5), (vi 6), (vi 7), (vi 8), (vi 9), (vi 10), (vi 3), (vi 4)]) (xl []))) [3, 2, 1] (by decide) rfl
      have hFc := va_free (wc := (pre_X2_holderThen T (xa [(a 2), (a 1), (a 3)]) (xa [(ex 22), (ex 23), (ex 24), (ex 25), (ex 26), (ex 27), (ex 28), (ex 12), (ex 13), (ex 14), (ex 15), (ex 16), (ex 17), (ex 18), (ex 19), (ex 20), (ex 21)]) (xf []) (xh [(fl 0)]) (xv [(vi 0), (vi 1), (vi 5), (vi 6), (vi 7), (vi 8), (vi 9), (vi 10), (vi 3), (vi 4)]) (xl []))) hD hS hA [3, 2, 1] rfl
      refine va_calli (va_runVN (As := [.int (vi 0), .int (vi 1)]) (rest := []) ⟨hx, hb, hml, hown, htg⟩ (c_X2_holderThen l D T (xa [(a 2), (a 1), (a 3)]) (xa [(ex 22), (ex 23), (ex 24), (ex 25), (ex 26), (ex 27), (ex 28), (ex 12), (ex 13), (ex 14), (ex 15), (ex 16), (ex 17), (ex 18), (ex 19), (ex 20), (ex 21)]) (xf []) (xh [(fl 0)]) (xv [(vi 0), (vi 1), (vi 5), (vi 6), (vi 7), (vi 8), (vi 9), (vi 10), (vi 3), (vi 4)]) (xl []) H.size (by show 0 ≤ (vi 5).toInt ∧ (vi 5).toInt ≤ 200; omega) (by show 0 ≤ (vi 10).toInt ∧ (vi 10).toInt ≤ 9; omega) (by show 0 ≤ (vi 3).toInt ∧ (vi 3).toInt ≤ 9; omega) (by show 0 ≤ (vi 4).toInt ∧ (vi 4).toInt ≤ 9; omega)) ⟨va_cnB 2 htg (xg_ok kw_962) rfl rfl rfl (hK.2.1 _ kn_959) (htg _ kw_9) (by decide +kernel) ⟨by rw [hR]; exact Nat.le_of_ble_eq_true rfl, by rw [hR]; exact Nat.le_of_ble_eq_true rfl⟩, htg _ kw_961, htg _ ks_74⟩ (xpreV hK hPc hDc (va_recv hK.1 hPc (ci := 2) (q0 := 0) rfl rfl)) rfl rfl hl.1 rfl (lv_room (Nat.le_of_ble_eq_true rfl)) dX11_holder_28 ⟨by rw [hR]; exact Nat.le_of_ble_eq_true rfl, by rw [hR]; exact Nat.le_of_ble_eq_true rfl⟩) hS (fun q _ h => hFc q h) hFc (fun r9 u9 t H1 locs ht hvm hw hB hz1 hk1 hS => ?_)
      subst hw
      obtain ⟨fik_2, flk_2, vik_2, vlk_2, hP1, hD1, hG⟩ := hB
      rw [ht] at hP1
      obtain ⟨hP, hD⟩ := va_join (wr := [((a 0), .inr (11, [.ref (ex 0), .ref (a 1), .ref (ex 1), .ref (ex 2), .ref (a 2), .ref (ex 3), .ref (ex 4), .ref (ex 5), .ref (ex 6), .ref (ex 7), .ref (ex 8), .ref (ex 9), .ref (ex 10), .ref (ex 11), .int (vi 2)]))]) (w1 := [((a 2), .inr (2, [.ref (a 1), .int (vi 5), .int (vi 6), .int (vi 7), .int (vi 8), .int (vi 9), .int (vi 10), .ref (ex 22), .ref (ex 23), .ref (ex 24), .ref (ex 25), .ref (ex 26), .ref (ex 27), .ref (ex 28), .ref (a 3)])), ((a 1), .inr (7, [.int (vi 3), .int (vi 4), .ref (ex 12), .ref (ex 13), .ref (ex 14), .ref (ex 15), .ref (ex 16), .ref (ex 17), .ref (ex 18), .ref (ex 19), .ref (ex 20), .ref (ex 21)])), ((a 3), .inl (T 2, 200, .inr (.inl (fl 0))))]) hP hD [3, 2, 1] [0] rfl rfl (by decide) (by decide) hk1 hFc hP1 hD1
      obtain ⟨rk_2, er9⟩ : ∃ z, z = r9 := ⟨_, rfl⟩
      subst er9
      clear hPc hDc hFc hP1 hD1 hk1 hz1 hvm ht
      generalize H1 = H at hP hS ⊢
      replace hP : va_P D vwCl [((a 0), .inr (11, [.ref (ex 0), .ref (a 1), .ref (ex 1), .ref (ex 2), .ref (a 2), .ref (ex 3), .ref (ex 4), .ref (ex 5), .ref (ex 6), .ref (ex 7), .ref (ex 8), .ref (ex 9), .ref (ex 10), .ref (ex 11), .int (vi 2)])), ((a 2), .inr (2, [.ref (a 1), .int (vi 5), .int (vi 6), .int (vi 7), .int (vi 8), .int (vi 9), .int (vi 10), .ref (ex 22), .ref (ex 23), .ref (ex 24), .ref (ex 25), .ref (ex 26), .ref (ex 27), .ref (ex 28), .ref (a 3)])), ((a 1), .inr (7, [.int (vi 3), .int (vi 4), .ref (ex 12), .ref (ex 13), .ref (ex 14), .ref (ex 15), .ref (ex 16), .ref (ex 17), .ref (ex 18), .ref (ex 19), .ref (ex 20), .ref (ex 21)])), ((a 3), .inl (T 2, 200, .inr (.inl (fl 0))))] H := hP
      replace hD : va_D A [((a 0), .inr (11, [.ref (ex 0), .ref (a 1), .ref (ex 1), .ref (ex 2), .ref (a 2), .ref (ex 3), .ref (ex 4), .ref (ex 5), .ref (ex 6), .ref (ex 7), .ref (ex 8), .ref (ex 9), .ref (ex 10), .ref (ex 11), .int (vi 2)])), ((a 2), .inr (2, [.ref (a 1), .int (vi 5), .int (vi 6), .int (vi 7), .int (vi 8), .int (vi 9), .int (vi 10), .ref (ex 22), .ref (ex 23), .ref (ex 24), .ref (ex 25), .ref (ex 26), .ref (ex 27), .ref (ex 28), .ref (a 3)])), ((a 1), .inr (7, [.int (vi 3), .int (vi 4), .ref (ex 12), .ref (ex 13), .ref (ex 14), .ref (ex 15), .ref (ex 16), .ref (ex 17), .ref (ex 18), .ref (ex 19), .ref (ex 20), .ref (ex 21)])), ((a 3), .inl (T 2, 200, .inr (.inl (fl 0))))] := hD
      clear hG
      refine lv_goto (tgt := 36) hx hb dX11_holder_31 (by decide) ?_
      have hP9 := hP.sub (ws' := [((a 0), .inr (11, [.ref (ex 0), .ref (a 1), .ref (ex 1), .ref (ex 2), .ref (a 2), .ref (ex 3), .ref (ex 4), .ref (ex 5), .ref (ex 6), .ref (ex 7), .ref (ex 8), .ref (ex 9), .ref (ex 10), .ref (ex 11), .int (vi 2)])), ((a 1), .inr (7, [.int (vi 3), .int (vi 4), .ref (ex 12), .ref (ex 13), .ref (ex 14), .ref (ex 15), .ref (ex 16), .ref (ex 17), .ref (ex 18), .ref (ex 19), .ref (ex 20), .ref (ex 21)])), ((a 2), .inr (2, [.ref (a 1), .int (vi 5), .int (vi 6), .int (vi 7), .int (vi 8), .int (vi 9), .int (vi 10), .ref (ex 22), .ref (ex 23), .ref (ex 24), .ref (ex 25), .ref (ex 26), .ref (ex 27), .ref (ex 28), .ref (a 3)])), ((a 3), .inl (T 2, 200, .inr (.inl (fl 0))))]) [0, 2, 1, 3] rfl
      have hD9 := hD.sub (ws' := [((a 0), .inr (11, [.ref (ex 0), .ref (a 1), .ref (ex 1), .ref (ex 2), .ref (a 2), .ref (ex 3), .ref (ex 4), .ref (ex 5), .ref (ex 6), .ref (ex 7), .ref (ex 8), .ref (ex 9), .ref (ex 10), .ref (ex 11), .int (vi 2)])), ((a 1), .inr (7, [.int (vi 3), .int (vi 4), .ref (ex 12), .ref (ex 13), .ref (ex 14), .ref (ex 15), .ref (ex 16), .ref (ex 17), .ref (ex 18), .ref (ex 19), .ref (ex 20), .ref (ex 21)])), ((a 2), .inr (2, [.ref (a 1), .int (vi 5), .int (vi 6), .int (vi 7), .int (vi 8), .int (vi 9), .int (vi 10), .ref (ex 22), .ref (ex 23), .ref (ex 24), .ref (ex 25), .ref (ex 26), .ref (ex 27), .ref (ex 28), .ref (a 3)])), ((a 3), .inl (T 2, 200, .inr (.inl (fl 0))))]) [0, 2, 1, 3] (by decide +kernel) rfl
      rw [hQ]
      exact W.iret (v := rk_2) hx hb hr (fun t ht hW => ⟨⟨rk_2, rk_2, rfl, rfl, xf [], xh [], xv [], xl [], by rw [ht]; exact hP9, hD9, trivial⟩, hS.F ht⟩) hS.2.2 dX11_holder_36
    · refine xz_i 0 er9 ?_
      refine lv_if_eq (tgt := 34) hx hb dX11_holder_19 (by decide) (fun _ => ?_) (fun c => absurd (by decide) c)
      refine lv_bipush (v := (-2)) hx hb dX11_holder_34 (by decide) ?_
      have hP9 := hP.sub (ws' := [((a 0), .inr (11, [.ref (ex 0), .ref (a 1), .ref (ex 1), .ref (ex 2), .ref (a 2), .ref (ex 3), .ref (ex 4), .ref (ex 5), .ref (ex 6), .ref (ex 7), .ref (ex 8), .ref (ex 9), .ref (ex 10), .ref (ex 11), .int (vi 2)])), ((a 1), .inr (7, [.int (vi 3), .int (vi 4), .ref (ex 12), .ref (ex 13), .ref (ex 14), .ref (ex 15), .ref (ex 16), .ref (ex 17), .ref (ex 18), .ref (ex 19), .ref (ex 20), .ref (ex 21)])), ((a 2), .inr (2, [.ref (a 1), .int (vi 5), .int (vi 6), .int (vi 7), .int (vi 8), .int (vi 9), .int (vi 10), .ref (ex 22), .ref (ex 23), .ref (ex 24), .ref (ex 25), .ref (ex 26), .ref (ex 27), .ref (ex 28), .ref (a 3)])), ((a 3), .inl (T 2, 200, .inr (.inl (fl 0))))]) [0, 2, 3, 1] rfl
      have hD9 := hD.sub (ws' := [((a 0), .inr (11, [.ref (ex 0), .ref (a 1), .ref (ex 1), .ref (ex 2), .ref (a 2), .ref (ex 3), .ref (ex 4), .ref (ex 5), .ref (ex 6), .ref (ex 7), .ref (ex 8), .ref (ex 9), .ref (ex 10), .ref (ex 11), .int (vi 2)])), ((a 1), .inr (7, [.int (vi 3), .int (vi 4), .ref (ex 12), .ref (ex 13), .ref (ex 14), .ref (ex 15), .ref (ex 16), .ref (ex 17), .ref (ex 18), .ref (ex 19), .ref (ex 20), .ref (ex 21)])), ((a 2), .inr (2, [.ref (a 1), .int (vi 5), .int (vi 6), .int (vi 7), .int (vi 8), .int (vi 9), .int (vi 10), .ref (ex 22), .ref (ex 23), .ref (ex 24), .ref (ex 25), .ref (ex 26), .ref (ex 27), .ref (ex 28), .ref (a 3)])), ((a 3), .inl (T 2, 200, .inr (.inl (fl 0))))]) [0, 2, 3, 1] (by decide +kernel) rfl
      rw [hQ]
      exact W.iret (v := (-2)) hx hb hr (fun t ht hW => ⟨⟨(-2), (-2), rfl, rfl, xf [], xh [], xv [], xl [], by rw [ht]; exact hP9, hD9, trivial⟩, hS.F ht⟩) hS.2.2 dX11_holder_36
  · refine xz_i 0 er9 ?_
    refine lv_if_eq (tgt := 34) hx hb dX11_holder_8 (by decide) (fun _ => ?_) (fun c => absurd (by decide) c)
    refine lv_bipush (v := (-2)) hx hb dX11_holder_34 (by decide) ?_
    have hP9 := hP.sub (ws' := [((a 0), .inr (11, [.ref (ex 0), .ref (a 1), .ref (ex 1), .ref (ex 2), .ref (a 2), .ref (ex 3), .ref (ex 4), .ref (ex 5), .ref (ex 6), .ref (ex 7), .ref (ex 8), .ref (ex 9), .ref (ex 10), .ref (ex 11), .int (vi 2)])), ((a 1), .inr (7, [.int (vi 3), .int (vi 4), .ref (ex 12), .ref (ex 13), .ref (ex 14), .ref (ex 15), .ref (ex 16), .ref (ex 17), .ref (ex 18), .ref (ex 19), .ref (ex 20), .ref (ex 21)])), ((a 2), .inr (2, [.ref (a 1), .int (vi 5), .int (vi 6), .int (vi 7), .int (vi 8), .int (vi 9), .int (vi 10), .ref (ex 22), .ref (ex 23), .ref (ex 24), .ref (ex 25), .ref (ex 26), .ref (ex 27), .ref (ex 28), .ref (a 3)])), ((a 3), .inl (T 2, 200, .inr (.inl (fl 0))))]) [0, 3, 1, 2] rfl
    have hD9 := hD.sub (ws' := [((a 0), .inr (11, [.ref (ex 0), .ref (a 1), .ref (ex 1), .ref (ex 2), .ref (a 2), .ref (ex 3), .ref (ex 4), .ref (ex 5), .ref (ex 6), .ref (ex 7), .ref (ex 8), .ref (ex 9), .ref (ex 10), .ref (ex 11), .int (vi 2)])), ((a 1), .inr (7, [.int (vi 3), .int (vi 4), .ref (ex 12), .ref (ex 13), .ref (ex 14), .ref (ex 15), .ref (ex 16), .ref (ex 17), .ref (ex 18), .ref (ex 19), .ref (ex 20), .ref (ex 21)])), ((a 2), .inr (2, [.ref (a 1), .int (vi 5), .int (vi 6), .int (vi 7), .int (vi 8), .int (vi 9), .int (vi 10), .ref (ex 22), .ref (ex 23), .ref (ex 24), .ref (ex 25), .ref (ex 26), .ref (ex 27), .ref (ex 28), .ref (a 3)])), ((a 3), .inl (T 2, 200, .inr (.inl (fl 0))))]) [0, 3, 1, 2] (by decide +kernel) rfl
    rw [hQ]
    exact W.iret (v := (-2)) hx hb hr (fun t ht hW => ⟨⟨(-2), (-2), rfl, rfl, xf [], xh [], xv [], xl [], by rw [ht]; exact hP9, hD9, trivial⟩, hS.F ht⟩) hS.2.2 dX11_holder_36
abbrev pre_X2_timesCalled (T : Nat → ClassId) (a ex : Nat → Nat) (fi : Nat → Nat → Int32) (fl : Nat → Nat → Int64) (vi : Nat → Int32) (vl : Nat → Int64) : va_W := [((a 0), .inr (2, [.ref (ex 0), .int (vi 2), .int (vi 3), .int (vi 4), .int (vi 5), .int (vi 6), .int (vi 7), .ref (ex 1), .ref (ex 2), .ref (ex 3), .ref (ex 4), .ref (ex 5), .ref (ex 6), .ref (ex 7), .ref (a 1)])), ((a 1), .inl (T 2, 200, .inr (.inl (fl 0))))]
set_option maxHeartbeats 8000000 in
set_option maxRecDepth 100000 in
theorem c_X2_timesCalled (l : Launch) (D : va_G) (T : Nat → ClassId) (a ex : Nat → Nat) (fi : Nat → Nat → Int32) (fl : Nat → Nat → Int64) (vi : Nat → Int32) (vl : Nat → Int64) (sz : Nat) (hp0 : 0 ≤ (vi 2).toInt ∧ (vi 2).toInt ≤ 200) (hp1 : 0 ≤ (vi 7).toInt ∧ (vi 7).toInt ≤ 9) : Met l yX2_timesCalled (xw yX2_timesCalled cX2_timesCalled 5 (some .int)) ({ frames := 2, cells := 0, slots := 0, locals := 51 }) (xP D T [.ref (a 0), .int (vi 0), .int (vi 1)] sz (pre_X2_timesCalled T a ex fi fl vi vl)) (va_Qi (fun r u => r = u) (xC D (va_A (pre_X2_timesCalled T a ex fi fl vi vl) sz) (fun fj fm vj vm => [((a 0), .inr (2, [.ref (ex 0), .int (vi 2), .int (vi 3), .int (vi 4), .int (vi 5), .int (vi 6), .int (vi 7), .ref (ex 1), .ref (ex 2), .ref (ex 3), .ref (ex 4), .ref (ex 5), .ref (ex 6), .ref (ex 7), .ref (a 1)])), ((a 1), .inl (T 2, 200, .inr (.inl (fl 0))))]) (fun (r : Int32) (fj : Nat → Nat → Int32) (fm : Nat → Nat → Int64) (vj : Nat → Int32) (vm : Nat → Int64) => True)) (va_A (pre_X2_timesCalled T a ex fi fl vi vl) sz)) 0 0 (va_A (pre_X2_timesCalled T a ex fi fl vi vl) sz) := by
  refine xofW (cc := cX2_timesCalled) (maxL := 5) (ret := (some .int)) (by decide) rfl ?_
  intro p e s m args below meth c s₁ R Q hR hQ B hml hv
  obtain ⟨rfl, hsz, hP, hK, hD0⟩ := hv
  have hx := B.exec
  have hb := B.bytes
  have hr := B.returns
  have hts := atoms_spec (ws := xw yX2_timesCalled cX2_timesCalled 5 (some .int)) B.pre
  have htg : ∀ w ∈ xg, w.before _ s = true := fun w h => hts w (List.mem_cons_of_mem _ h)
  have hown : s.vm.findClass RX2 = some m.cls := findClass_of_methodNamed B.named
  have hlocks := B.notSynchronized
  subst hsz
  have hD := hD0.self (sz := s.heap.size)
  generalize hAe : va_A (pre_X2_timesCalled T a ex fi fl vi vl) s.heap.size = A at hD hQ
  have hA : ∀ q : Nat, s.heap.size ≤ q → A q := fun q h => by rw [← hAe]; exact Or.inr h
  have hS : va_S A s.heap s.heap [] := va_S.rf
  replace hP : va_P D vwCl [((a 0), .inr (2, [.ref (ex 0), .int (vi 2), .int (vi 3), .int (vi 4), .int (vi 5), .int (vi 6), .int (vi 7), .ref (ex 1), .ref (ex 2), .ref (ex 3), .ref (ex 4), .ref (ex 5), .ref (ex 6), .ref (ex 7), .ref (a 1)])), ((a 1), .inl (T 2, 200, .inr (.inl (fl 0))))] s.heap := hP
  replace hD : va_D A [((a 0), .inr (2, [.ref (ex 0), .int (vi 2), .int (vi 3), .int (vi 4), .int (vi 5), .int (vi 6), .int (vi 7), .ref (ex 1), .ref (ex 2), .ref (ex 3), .ref (ex 4), .ref (ex 5), .ref (ex 6), .ref (ex 7), .ref (a 1)])), ((a 1), .inl (T 2, 200, .inr (.inl (fl 0))))] := hD
  have hl := lv_entry ([.ref (a 0), .int (vi 0), .int (vi 1)]) (n := 5) (Nat.le_of_ble_eq_true rfl)
  rw [lg_entry_eq]
  generalize (lg_sl ([.ref (a 0), .int (vi 0), .int (vi 1)]) ++ List.replicate (5 - (lg_sl ([.ref (a 0), .int (vi 0), .int (vi 1)])).length) Slot.unset).toArray = ls at hl ⊢
  replace hl : lv_has ls 5 [(0, .ref (a 0)), (1, .int (vi 0)), (2, .int (vi 1))] := hl
  refine lv_iconst (v := 0) hx hb dX2_timesCalled_0 (by decide) ?_
  refine lv_istore_n (lv' := [(3, .int 0), (0, .ref (a 0)), (1, .int (vi 0)), (2, .int (vi 1))]) hx hb dX2_timesCalled_1 rfl hl (by decide) rfl (fun ls hl => ?_)
  refine lv_iconst (v := 0) hx hb dX2_timesCalled_2 (by decide) ?_
  refine lv_istore (lv' := [(4, .int 0), (3, .int 0), (0, .ref (a 0)), (1, .int (vi 0)), (2, .int (vi 1))]) hx hb dX2_timesCalled_3 hl (by decide) rfl (fun ls hl => ?_)
  have lp : ∀ (kn : Nat) (w4 : Int32) (w3 : Int32) (H : Heap) (locs : List Loc) (ls : Array Slot), (0 ≤ w4.toInt) → (2147483648 - w4.toInt).toNat = kn → va_P D vwCl [((a 0), .inr (2, [.ref (ex 0), .int (vi 2), .int (vi 3), .int (vi 4), .int (vi 5), .int (vi 6), .int (vi 7), .ref (ex 1), .ref (ex 2), .ref (ex 3), .ref (ex 4), .ref (ex 5), .ref (ex 6), .ref (ex 7), .ref (a 1)])), ((a 1), .inl (T 2, 200, .inr (.inl (fl 0))))] H → va_D A [((a 0), .inr (2, [.ref (ex 0), .int (vi 2), .int (vi 3), .int (vi 4), .int (vi 5), .int (vi 6), .int (vi 7), .ref (ex 1), .ref (ex 2), .ref (ex 3), .ref (ex 4), .ref (ex 5), .ref (ex 6), .ref (ex 7), .ref (a 1)])), ((a 1), .inl (T 2, 200, .inr (.inl (fl 0))))] → va_S A s.heap H locs → lv_has ls 5 [(4, .int w4), (3, .int w3), (0, .ref (a 0)), (1, .int (vi 0)), (2, .int (vi 1))] → W p l e R s m ([.ref (a 0), .int (vi 0), .int (vi 1)] : List Value).toArray below meth c H locs 0 0 Q (F0 m 5 ls []) := by
    intro kn
    induction kn using Nat.strongRecOn with
    | _ kn ih =>
      intro w4 w3 H locs ls hi hm hP hD hS hl
      refine lv_iload hx hb dX2_timesCalled_5 (lv_at hl 0 rfl) ?_
      refine lv_aload_n hx hb dX2_timesCalled_7 rfl (lv_at hl 2 rfl) ?_
      refine va_get (D := D) (ci := 2) (v := .int (vi 2)) (C := RX2) (T := TX2) (N := 15) hx hb htg inX2 hown hK.1 hP 0 rfl rfl 1 (by decide) (htg _ kw_247) (fun _ h9 => h9) rfl dX2_timesCalled_8 ?_
      refine lv_icmp_ge (tgt := 34) hx hb dX2_timesCalled_11 (by decide) (fun c11 => ?_) (fun c11 => ?_)
      · have c11 := Int32.le_iff_toInt_le.mp c11
        have rc11 := xrng w4; have qc11 := xrng (vi 2)
        refine lv_iload_n hx hb dX2_timesCalled_34 rfl (lv_at hl 1 rfl) ?_
        have hP9 := hP.sub (ws' := [((a 0), .inr (2, [.ref (ex 0), .int (vi 2), .int (vi 3), .int (vi 4), .int (vi 5), .int (vi 6), .int (vi 7), .ref (ex 1), .ref (ex 2), .ref (ex 3), .ref (ex 4), .ref (ex 5), .ref (ex 6), .ref (ex 7), .ref (a 1)])), ((a 1), .inl (T 2, 200, .inr (.inl (fl 0))))]) [0, 1] rfl
        have hD9 := hD.sub (ws' := [((a 0), .inr (2, [.ref (ex 0), .int (vi 2), .int (vi 3), .int (vi 4), .int (vi 5), .int (vi 6), .int (vi 7), .ref (ex 1), .ref (ex 2), .ref (ex 3), .ref (ex 4), .ref (ex 5), .ref (ex 6), .ref (ex 7), .ref (a 1)])), ((a 1), .inl (T 2, 200, .inr (.inl (fl 0))))]) [0, 1] (by decide +kernel) rfl
        rw [hQ]
        exact W.iret (v := w3) hx hb hr (fun t ht hW => ⟨⟨w3, w3, rfl, rfl, xf [], xh [], xv [], xl [], by rw [ht]; exact hP9, hD9, trivial⟩, hS.F ht⟩) hS.2.2 dX2_timesCalled_35
      · have c11 := (mt Int32.le_iff_toInt_le.mpr c11)
        have rc11 := xrng w4; have qc11 := xrng (vi 2)
        refine lv_aload_n hx hb dX2_timesCalled_14 rfl (lv_at hl 2 rfl) ?_
        refine lv_iload_n hx hb dX2_timesCalled_15 rfl (lv_at hl 3 rfl) ?_
        refine lv_iload hx hb dX2_timesCalled_16 (lv_at hl 0 rfl) ?_
        have hPc := hP.sub (ws' := (pre_X2_calledThen T (xa [(a 0), (a 1)]) (xa [(ex 0), (ex 1), (ex 2), (ex 3), (ex 4), (ex 5), (ex 6), (ex 7)]) (xf []) (xh [(fl 0)]) (xv [(vi 0), w4, (vi 2), (vi 3), (vi 4), (vi 5), (vi 6), (vi 7)]) (xl []))) [0, 1] rfl
        have hDc := hD.sub (ws' := (pre_X2_calledThen T (xa [(a 0), (a 1)]) (xa [(ex 0), (ex 1), (ex 2), (ex 3), (ex 4), (ex 5), (ex 6), (ex 7)]) (xf []) (xh [(fl 0)]) (xv [(vi 0), w4, (vi 2), (vi 3), (vi 4), (vi 5), (vi 6), (vi 7)]) (xl []))) [0, 1] (by decide) rfl
        have hFc := va_free (wc := (pre_X2_calledThen T (xa [(a 0), (a 1)]) (xa [(ex 0), (ex 1), (ex 2), (ex 3), (ex 4), (ex 5), (ex 6), (ex 7)]) (xf []) (xh [(fl 0)]) (xv [(vi 0), w4, (vi 2), (vi 3), (vi 4), (vi 5), (vi 6), (vi 7)]) (xl []))) hD hS hA [0, 1] rfl
        refine va_calli (va_runV (As := [.int (vi 0), .int w4]) (rest := []) ⟨hx, hb, hml, hown, htg⟩ (c_X2_calledThen l D T (xa [(a 0), (a 1)]) (xa [(ex 0), (ex 1), (ex 2), (ex 3), (ex 4), (ex 5), (ex 6), (ex 7)]) (xf []) (xh [(fl 0)]) (xv [(vi 0), w4, (vi 2), (vi 3), (vi 4), (vi 5), (vi 6), (vi 7)]) (xl []) H.size (by show 0 ≤ (vi 2).toInt ∧ (vi 2).toInt ≤ 200; omega) (by show 0 ≤ (vi 7).toInt ∧ (vi 7).toInt ≤ 9; omega)) ⟨callB_of 2 htg (xg_ok kw_952) rfl rfl rfl (htg _ kw_9) (htg _ kw_963) (by decide +kernel) ⟨by rw [hR]; exact Nat.le_of_ble_eq_true rfl, by rw [hR]; exact Nat.le_of_ble_eq_true rfl⟩, htg _ kw_951, htg _ ks_73⟩ (xpreV hK hPc hDc (va_recv hK.1 hPc (ci := 2) (q0 := 0) rfl rfl)) rfl rfl hl.1 rfl (lv_room (Nat.le_of_ble_eq_true rfl)) dX2_timesCalled_18 ⟨by rw [hR]; exact Nat.le_of_ble_eq_true rfl, by rw [hR]; exact Nat.le_of_ble_eq_true rfl⟩) hS (fun q _ h => hFc q h) hFc (fun r9 u9 t H1 locs ht hvm hw hB hz1 hk1 hS => ?_)
        subst hw
        obtain ⟨fik, flk, vik, vlk, hP1, hD1, hG⟩ := hB
        rw [ht] at hP1
        obtain ⟨hP, hD⟩ := va_join (wr := []) (w1 := [((a 0), .inr (2, [.ref (ex 0), .int (vi 2), .int (vi 3), .int (vi 4), .int (vi 5), .int (vi 6), .int (vi 7), .ref (ex 1), .ref (ex 2), .ref (ex 3), .ref (ex 4), .ref (ex 5), .ref (ex 6), .ref (ex 7), .ref (a 1)])), ((a 1), .inl (T 2, 200, .inr (.inl (fl 0))))]) hP hD [0, 1] [] rfl rfl (by decide) (by decide) hk1 hFc hP1 hD1
        obtain ⟨rk, er9⟩ : ∃ z, z = r9 := ⟨_, rfl⟩
        subst er9
        clear hPc hDc hFc hP1 hD1 hk1 hz1 hvm ht
        generalize H1 = H at hP hS ⊢
        replace hP : va_P D vwCl [((a 0), .inr (2, [.ref (ex 0), .int (vi 2), .int (vi 3), .int (vi 4), .int (vi 5), .int (vi 6), .int (vi 7), .ref (ex 1), .ref (ex 2), .ref (ex 3), .ref (ex 4), .ref (ex 5), .ref (ex 6), .ref (ex 7), .ref (a 1)])), ((a 1), .inl (T 2, 200, .inr (.inl (fl 0))))] H := hP
        replace hD : va_D A [((a 0), .inr (2, [.ref (ex 0), .int (vi 2), .int (vi 3), .int (vi 4), .int (vi 5), .int (vi 6), .int (vi 7), .ref (ex 1), .ref (ex 2), .ref (ex 3), .ref (ex 4), .ref (ex 5), .ref (ex 6), .ref (ex 7), .ref (a 1)])), ((a 1), .inl (T 2, 200, .inr (.inl (fl 0))))] := hD
        clear hG
        refine lv_iload_n hx hb dX2_timesCalled_21 rfl (lv_at hl 4 rfl) ?_
        refine lv_icmp_ne (tgt := 28) hx hb dX2_timesCalled_22 (by decide) (fun c22 => ?_) (fun c22 => ?_)
        · have c22 := xne2 c22
          have rc22 := xrng rk; have qc22 := xrng (vi 1)
          obtain ⟨i28, ei28⟩ : ∃ z : Int32, w4 + Int32.ofInt 1 = z := ⟨_, rfl⟩
          have ti28 : i28.toInt = w4.toInt + 1 := by rw [← ei28]; have h79 := xrng w4; exact xadd rfl (by decide) (by omega) (by omega)
          refine lv_iinc (v := i28) (lv' := [(4, .int i28), (3, .int w3), (0, .ref (a 0)), (1, .int (vi 0)), (2, .int (vi 1))]) hx hb dX2_timesCalled_28 hl (k := 0) rfl ei28 (by decide) rfl (fun ls hl => ?_)
          refine lv_goto (tgt := 5) hx hb dX2_timesCalled_31 (by decide) ?_
          exact ih _ (by omega) i28 w3 _ _ _ (by show 0 ≤ i28.toInt; omega) rfl (hP.sub [0, 1] rfl) (hD.sub [0, 1] (by decide) rfl) hS (lv_sub hl [0, 1, 2, 3, 4] rfl)
        · have c22 := congrArg Int32.toInt c22
          have rc22 := xrng rk; have qc22 := xrng (vi 1)
          obtain ⟨i25, ei25⟩ : ∃ z : Int32, w3 + Int32.ofInt 1 = z := ⟨_, rfl⟩
          refine lv_iinc (v := i25) (lv' := [(3, .int i25), (4, .int w4), (0, .ref (a 0)), (1, .int (vi 0)), (2, .int (vi 1))]) hx hb dX2_timesCalled_25 hl (k := 1) rfl ei25 (by decide) rfl (fun ls hl => ?_)
          obtain ⟨i28_1, ei28_1⟩ : ∃ z : Int32, w4 + Int32.ofInt 1 = z := ⟨_, rfl⟩
          have ti28_1 : i28_1.toInt = w4.toInt + 1 := by rw [← ei28_1]; have h79 := xrng w4; exact xadd rfl (by decide) (by omega) (by omega)
          refine lv_iinc (v := i28_1) (lv' := [(4, .int i28_1), (3, .int i25), (0, .ref (a 0)), (1, .int (vi 0)), (2, .int (vi 1))]) hx hb dX2_timesCalled_28 hl (k := 1) rfl ei28_1 (by decide) rfl (fun ls hl => ?_)
          refine lv_goto (tgt := 5) hx hb dX2_timesCalled_31 (by decide) ?_
          exact ih _ (by omega) i28_1 i25 _ _ _ (by show 0 ≤ i28_1.toInt; omega) rfl (hP.sub [0, 1] rfl) (hD.sub [0, 1] (by decide) rfl) hS (lv_sub hl [0, 1, 2, 3, 4] rfl)
  exact lp _ (0 : Int32) (0 : Int32) _ _ _ (by show 0 ≤ (0 : Int32).toInt; have k9_0 : (0 : Int32).toInt = 0 := (by decide); omega) rfl hP hD hS hl
abbrev pre_X11_bearers (T : Nat → ClassId) (a ex : Nat → Nat) (fi : Nat → Nat → Int32) (fl : Nat → Nat → Int64) (vi : Nat → Int32) (vl : Nat → Int64) : va_W := [((a 0), .inr (11, [.ref (ex 0), .ref (a 1), .ref (ex 1), .ref (ex 2), .ref (a 2), .ref (ex 3), .ref (ex 4), .ref (ex 5), .ref (ex 6), .ref (ex 7), .ref (ex 8), .ref (ex 9), .ref (ex 10), .ref (ex 11), .int (vi 1)])), ((a 1), .inr (7, [.int (vi 2), .int (vi 3), .ref (ex 12), .ref (ex 13), .ref (ex 14), .ref (ex 15), .ref (ex 16), .ref (ex 17), .ref (ex 18), .ref (ex 19), .ref (ex 20), .ref (ex 21)])), ((a 2), .inr (2, [.ref (a 1), .int (vi 4), .int (vi 5), .int (vi 6), .int (vi 7), .int (vi 8), .int (vi 9), .ref (ex 22), .ref (ex 23), .ref (ex 24), .ref (ex 25), .ref (ex 26), .ref (ex 27), .ref (ex 28), .ref (a 3)])), ((a 3), .inl (T 2, 200, .inr (.inl (fl 0))))]
set_option maxHeartbeats 8000000 in
set_option maxRecDepth 100000 in
theorem c_X11_bearers (l : Launch) (D : va_G) (T : Nat → ClassId) (a ex : Nat → Nat) (fi : Nat → Nat → Int32) (fl : Nat → Nat → Int64) (vi : Nat → Int32) (vl : Nat → Int64) (sz : Nat) (hp0 : 0 ≤ (vi 2).toInt ∧ (vi 2).toInt ≤ 9) (hp1 : 0 ≤ (vi 3).toInt ∧ (vi 3).toInt ≤ 9) (hp2 : 0 ≤ (vi 4).toInt ∧ (vi 4).toInt ≤ 200) (hp3 : 0 ≤ (vi 9).toInt ∧ (vi 9).toInt ≤ 9) : Met l yX11_bearers (xw yX11_bearers cX11_bearers 4 (some .int)) ({ frames := 3, cells := 0, slots := 0, locals := 79 }) (xP D T [.ref (a 0), .int (vi 0)] sz (pre_X11_bearers T a ex fi fl vi vl)) (va_Qi (fun r u => r = u) (xC D (va_A (pre_X11_bearers T a ex fi fl vi vl) sz) (fun fj fm vj vm => [((a 0), .inr (11, [.ref (ex 0), .ref (a 1), .ref (ex 1), .ref (ex 2), .ref (a 2), .ref (ex 3), .ref (ex 4), .ref (ex 5), .ref (ex 6), .ref (ex 7), .ref (ex 8), .ref (ex 9), .ref (ex 10), .ref (ex 11), .int (vi 1)])), ((a 1), .inr (7, [.int (vi 2), .int (vi 3), .ref (ex 12), .ref (ex 13), .ref (ex 14), .ref (ex 15), .ref (ex 16), .ref (ex 17), .ref (ex 18), .ref (ex 19), .ref (ex 20), .ref (ex 21)])), ((a 2), .inr (2, [.ref (a 1), .int (vi 4), .int (vi 5), .int (vi 6), .int (vi 7), .int (vi 8), .int (vi 9), .ref (ex 22), .ref (ex 23), .ref (ex 24), .ref (ex 25), .ref (ex 26), .ref (ex 27), .ref (ex 28), .ref (a 3)])), ((a 3), .inl (T 2, 200, .inr (.inl (fl 0))))]) (fun (r : Int32) (fj : Nat → Nat → Int32) (fm : Nat → Nat → Int64) (vj : Nat → Int32) (vm : Nat → Int64) => True)) (va_A (pre_X11_bearers T a ex fi fl vi vl) sz)) 0 0 (va_A (pre_X11_bearers T a ex fi fl vi vl) sz) := by
  refine xofW (cc := cX11_bearers) (maxL := 4) (ret := (some .int)) (by decide) rfl ?_
  intro p e s m args below meth c s₁ R Q hR hQ B hml hv
  obtain ⟨rfl, hsz, hP, hK, hD0⟩ := hv
  have hx := B.exec
  have hb := B.bytes
  have hr := B.returns
  have hts := atoms_spec (ws := xw yX11_bearers cX11_bearers 4 (some .int)) B.pre
  have htg : ∀ w ∈ xg, w.before _ s = true := fun w h => hts w (List.mem_cons_of_mem _ h)
  have hown : s.vm.findClass RX11 = some m.cls := findClass_of_methodNamed B.named
  have hlocks := B.notSynchronized
  subst hsz
  have hD := hD0.self (sz := s.heap.size)
  generalize hAe : va_A (pre_X11_bearers T a ex fi fl vi vl) s.heap.size = A at hD hQ
  have hA : ∀ q : Nat, s.heap.size ≤ q → A q := fun q h => by rw [← hAe]; exact Or.inr h
  have hS : va_S A s.heap s.heap [] := va_S.rf
  replace hP : va_P D vwCl [((a 0), .inr (11, [.ref (ex 0), .ref (a 1), .ref (ex 1), .ref (ex 2), .ref (a 2), .ref (ex 3), .ref (ex 4), .ref (ex 5), .ref (ex 6), .ref (ex 7), .ref (ex 8), .ref (ex 9), .ref (ex 10), .ref (ex 11), .int (vi 1)])), ((a 1), .inr (7, [.int (vi 2), .int (vi 3), .ref (ex 12), .ref (ex 13), .ref (ex 14), .ref (ex 15), .ref (ex 16), .ref (ex 17), .ref (ex 18), .ref (ex 19), .ref (ex 20), .ref (ex 21)])), ((a 2), .inr (2, [.ref (a 1), .int (vi 4), .int (vi 5), .int (vi 6), .int (vi 7), .int (vi 8), .int (vi 9), .ref (ex 22), .ref (ex 23), .ref (ex 24), .ref (ex 25), .ref (ex 26), .ref (ex 27), .ref (ex 28), .ref (a 3)])), ((a 3), .inl (T 2, 200, .inr (.inl (fl 0))))] s.heap := hP
  replace hD : va_D A [((a 0), .inr (11, [.ref (ex 0), .ref (a 1), .ref (ex 1), .ref (ex 2), .ref (a 2), .ref (ex 3), .ref (ex 4), .ref (ex 5), .ref (ex 6), .ref (ex 7), .ref (ex 8), .ref (ex 9), .ref (ex 10), .ref (ex 11), .int (vi 1)])), ((a 1), .inr (7, [.int (vi 2), .int (vi 3), .ref (ex 12), .ref (ex 13), .ref (ex 14), .ref (ex 15), .ref (ex 16), .ref (ex 17), .ref (ex 18), .ref (ex 19), .ref (ex 20), .ref (ex 21)])), ((a 2), .inr (2, [.ref (a 1), .int (vi 4), .int (vi 5), .int (vi 6), .int (vi 7), .int (vi 8), .int (vi 9), .ref (ex 22), .ref (ex 23), .ref (ex 24), .ref (ex 25), .ref (ex 26), .ref (ex 27), .ref (ex 28), .ref (a 3)])), ((a 3), .inl (T 2, 200, .inr (.inl (fl 0))))] := hD
  have hl := lv_entry ([.ref (a 0), .int (vi 0)]) (n := 4) (Nat.le_of_ble_eq_true rfl)
  rw [lg_entry_eq]
  generalize (lg_sl ([.ref (a 0), .int (vi 0)]) ++ List.replicate (4 - (lg_sl ([.ref (a 0), .int (vi 0)])).length) Slot.unset).toArray = ls at hl ⊢
  replace hl : lv_has ls 4 [(0, .ref (a 0)), (1, .int (vi 0))] := hl
  refine lv_aload_n hx hb dX11_bearers_0 rfl (lv_at hl 0 rfl) ?_
  refine va_get (D := D) (ci := 11) (v := .ref (a 1)) (C := RX11) (T := TX11) (N := 15) hx hb htg inX11 hown hK.1 hP 0 rfl rfl 1 (by decide) (htg _ kw_497) (fun _ h9 => h9) rfl dX11_bearers_1 ?_
  refine lv_iload_n hx hb dX11_bearers_4 rfl (lv_at hl 1 rfl) ?_
  have hPc := hP.sub (ws' := (pre_X7_isName T (xa [(a 1)]) (xa [(ex 12), (ex 13), (ex 14), (ex 15), (ex 16), (ex 17), (ex 18), (ex 19), (ex 20), (ex 21)]) (xf []) (xh []) (xv [(vi 0), (vi 2), (vi 3)]) (xl []))) [1] rfl
  have hDc := hD.sub (ws' := (pre_X7_isName T (xa [(a 1)]) (xa [(ex 12), (ex 13), (ex 14), (ex 15), (ex 16), (ex 17), (ex 18), (ex 19), (ex 20), (ex 21)]) (xf []) (xh []) (xv [(vi 0), (vi 2), (vi 3)]) (xl []))) [1] (by decide) rfl
  have hFc := va_free (wc := (pre_X7_isName T (xa [(a 1)]) (xa [(ex 12), (ex 13), (ex 14), (ex 15), (ex 16), (ex 17), (ex 18), (ex 19), (ex 20), (ex 21)]) (xf []) (xh []) (xv [(vi 0), (vi 2), (vi 3)]) (xl []))) hD hS hA [1] rfl
  refine va_calli (va_runVN (As := [.int (vi 0)]) (rest := []) ⟨hx, hb, hml, hown, htg⟩ (c_X7_isName l D T (xa [(a 1)]) (xa [(ex 12), (ex 13), (ex 14), (ex 15), (ex 16), (ex 17), (ex 18), (ex 19), (ex 20), (ex 21)]) (xf []) (xh []) (xv [(vi 0), (vi 2), (vi 3)]) (xl []) s.heap.size (by show 0 ≤ (vi 2).toInt ∧ (vi 2).toInt ≤ 9; omega) (by show 0 ≤ (vi 3).toInt ∧ (vi 3).toInt ≤ 9; omega)) ⟨va_cnB 1 htg (xg_ok kw_683) rfl rfl rfl (hK.2.1 _ kn_743) (htg _ kw_7) (by decide +kernel) ⟨by rw [hR]; exact Nat.le_of_ble_eq_true rfl, by rw [hR]; exact Nat.le_of_ble_eq_true rfl⟩, htg _ kw_682, htg _ ks_29⟩ (xpreV hK hPc hDc (va_recv hK.1 hPc (ci := 7) (q0 := 0) rfl rfl)) rfl rfl hl.1 rfl (lv_room (Nat.le_of_ble_eq_true rfl)) dX11_bearers_5 ⟨by rw [hR]; exact Nat.le_of_ble_eq_true rfl, by rw [hR]; exact Nat.le_of_ble_eq_true rfl⟩) hS (fun q _ h => hFc q h) hFc (fun r9 u9 t H1 locs ht hvm hw hB hz1 hk1 hS => ?_)
  subst hw
  obtain ⟨fik, flk, vik, vlk, hP1, hD1, hG⟩ := hB
  rw [ht] at hP1
  obtain ⟨hP, hD⟩ := va_join (wr := [((a 0), .inr (11, [.ref (ex 0), .ref (a 1), .ref (ex 1), .ref (ex 2), .ref (a 2), .ref (ex 3), .ref (ex 4), .ref (ex 5), .ref (ex 6), .ref (ex 7), .ref (ex 8), .ref (ex 9), .ref (ex 10), .ref (ex 11), .int (vi 1)])), ((a 2), .inr (2, [.ref (a 1), .int (vi 4), .int (vi 5), .int (vi 6), .int (vi 7), .int (vi 8), .int (vi 9), .ref (ex 22), .ref (ex 23), .ref (ex 24), .ref (ex 25), .ref (ex 26), .ref (ex 27), .ref (ex 28), .ref (a 3)])), ((a 3), .inl (T 2, 200, .inr (.inl (fl 0))))]) (w1 := [((a 1), .inr (7, [.int (vi 2), .int (vi 3), .ref (ex 12), .ref (ex 13), .ref (ex 14), .ref (ex 15), .ref (ex 16), .ref (ex 17), .ref (ex 18), .ref (ex 19), .ref (ex 20), .ref (ex 21)]))]) hP hD [1] [0, 2, 3] rfl rfl (by decide) (by decide) hk1 hFc hP1 hD1
  obtain ⟨rk, er9⟩ : ∃ z, z = r9 := ⟨_, rfl⟩
  subst er9
  clear hPc hDc hFc hP1 hD1 hk1 hz1 hvm ht
  generalize H1 = H at hP hS ⊢
  replace hP : va_P D vwCl [((a 0), .inr (11, [.ref (ex 0), .ref (a 1), .ref (ex 1), .ref (ex 2), .ref (a 2), .ref (ex 3), .ref (ex 4), .ref (ex 5), .ref (ex 6), .ref (ex 7), .ref (ex 8), .ref (ex 9), .ref (ex 10), .ref (ex 11), .int (vi 1)])), ((a 2), .inr (2, [.ref (a 1), .int (vi 4), .int (vi 5), .int (vi 6), .int (vi 7), .int (vi 8), .int (vi 9), .ref (ex 22), .ref (ex 23), .ref (ex 24), .ref (ex 25), .ref (ex 26), .ref (ex 27), .ref (ex 28), .ref (a 3)])), ((a 3), .inl (T 2, 200, .inr (.inl (fl 0)))), ((a 1), .inr (7, [.int (vi 2), .int (vi 3), .ref (ex 12), .ref (ex 13), .ref (ex 14), .ref (ex 15), .ref (ex 16), .ref (ex 17), .ref (ex 18), .ref (ex 19), .ref (ex 20), .ref (ex 21)]))] H := hP
  replace hD : va_D A [((a 0), .inr (11, [.ref (ex 0), .ref (a 1), .ref (ex 1), .ref (ex 2), .ref (a 2), .ref (ex 3), .ref (ex 4), .ref (ex 5), .ref (ex 6), .ref (ex 7), .ref (ex 8), .ref (ex 9), .ref (ex 10), .ref (ex 11), .int (vi 1)])), ((a 2), .inr (2, [.ref (a 1), .int (vi 4), .int (vi 5), .int (vi 6), .int (vi 7), .int (vi 8), .int (vi 9), .ref (ex 22), .ref (ex 23), .ref (ex 24), .ref (ex 25), .ref (ex 26), .ref (ex 27), .ref (ex 28), .ref (a 3)])), ((a 3), .inl (T 2, 200, .inr (.inl (fl 0)))), ((a 1), .inr (7, [.int (vi 2), .int (vi 3), .ref (ex 12), .ref (ex 13), .ref (ex 14), .ref (ex 15), .ref (ex 16), .ref (ex 17), .ref (ex 18), .ref (ex 19), .ref (ex 20), .ref (ex 21)]))] := hD
  obtain ⟨gk_0, -⟩ := hG
  rcases (show (rk = 1 ∧ (0 ≤ (vi 0).toInt ∧ (vi 0).toInt < (vi 2).toInt)) ∨ (rk = 0 ∧ (¬ (0 ≤ (vi 0).toInt ∧ (vi 0).toInt < (vi 2).toInt))) from gk_0) with ⟨er9, gk_0⟩ | ⟨er9, gk_0⟩
  · refine xz_i 1 er9 ?_
    refine lv_if_ne (tgt := 13) hx hb dX11_bearers_8 (by decide) (fun _ => ?_) (fun c => absurd c (by decide))
    refine lv_iconst (v := 0) hx hb dX11_bearers_13 (by decide) ?_
    refine lv_istore_n (lv' := [(2, .int 0), (0, .ref (a 0)), (1, .int (vi 0))]) hx hb dX11_bearers_14 rfl hl (by decide) rfl (fun ls hl => ?_)
    refine lv_iconst (v := 0) hx hb dX11_bearers_15 (by decide) ?_
    refine lv_istore_n (lv' := [(3, .int 0), (2, .int 0), (0, .ref (a 0)), (1, .int (vi 0))]) hx hb dX11_bearers_16 rfl hl (by decide) rfl (fun ls hl => ?_)
    have lp : ∀ (kn : Nat) (w3 : Int32) (w2 : Int32) (H : Heap) (locs : List Loc) (ls : Array Slot), (0 ≤ w3.toInt) → (2147483648 - w3.toInt).toNat = kn → va_P D vwCl [((a 0), .inr (11, [.ref (ex 0), .ref (a 1), .ref (ex 1), .ref (ex 2), .ref (a 2), .ref (ex 3), .ref (ex 4), .ref (ex 5), .ref (ex 6), .ref (ex 7), .ref (ex 8), .ref (ex 9), .ref (ex 10), .ref (ex 11), .int (vi 1)])), ((a 2), .inr (2, [.ref (a 1), .int (vi 4), .int (vi 5), .int (vi 6), .int (vi 7), .int (vi 8), .int (vi 9), .ref (ex 22), .ref (ex 23), .ref (ex 24), .ref (ex 25), .ref (ex 26), .ref (ex 27), .ref (ex 28), .ref (a 3)])), ((a 3), .inl (T 2, 200, .inr (.inl (fl 0)))), ((a 1), .inr (7, [.int (vi 2), .int (vi 3), .ref (ex 12), .ref (ex 13), .ref (ex 14), .ref (ex 15), .ref (ex 16), .ref (ex 17), .ref (ex 18), .ref (ex 19), .ref (ex 20), .ref (ex 21)]))] H → va_D A [((a 0), .inr (11, [.ref (ex 0), .ref (a 1), .ref (ex 1), .ref (ex 2), .ref (a 2), .ref (ex 3), .ref (ex 4), .ref (ex 5), .ref (ex 6), .ref (ex 7), .ref (ex 8), .ref (ex 9), .ref (ex 10), .ref (ex 11), .int (vi 1)])), ((a 2), .inr (2, [.ref (a 1), .int (vi 4), .int (vi 5), .int (vi 6), .int (vi 7), .int (vi 8), .int (vi 9), .ref (ex 22), .ref (ex 23), .ref (ex 24), .ref (ex 25), .ref (ex 26), .ref (ex 27), .ref (ex 28), .ref (a 3)])), ((a 3), .inl (T 2, 200, .inr (.inl (fl 0)))), ((a 1), .inr (7, [.int (vi 2), .int (vi 3), .ref (ex 12), .ref (ex 13), .ref (ex 14), .ref (ex 15), .ref (ex 16), .ref (ex 17), .ref (ex 18), .ref (ex 19), .ref (ex 20), .ref (ex 21)]))] → va_S A s.heap H locs → lv_has ls 4 [(3, .int w3), (2, .int w2), (0, .ref (a 0)), (1, .int (vi 0))] → W p l e R s m ([.ref (a 0), .int (vi 0)] : List Value).toArray below meth c H locs 0 0 Q (F0 m 17 ls []) := by
      intro kn
      induction kn using Nat.strongRecOn with
      | _ kn ih =>
        intro w3 w2 H locs ls hi hm hP hD hS hl
        refine lv_iload_n hx hb dX11_bearers_17 rfl (lv_at hl 0 rfl) ?_
        refine lv_aload_n hx hb dX11_bearers_18 rfl (lv_at hl 2 rfl) ?_
        refine va_get (D := D) (ci := 11) (v := .ref (a 1)) (C := RX11) (T := TX11) (N := 15) hx hb htg inX11 hown hK.1 hP 0 rfl rfl 1 (by decide) (htg _ kw_497) (fun _ h9 => h9) rfl dX11_bearers_19 ?_
        refine va_getN (D := D) (ci := 7) (v := .int (vi 3)) (C := RX7) (T := TX7) (N := 12) hx hb htg inX7 hown hK.1 hP 3 rfl rfl 1 (by decide) (va_Nw.use rfl (hK.2.1 _ kn_167)) (fun _ h9 => h9) rfl dX11_bearers_22 ?_
        refine lv_icmp_ge (tgt := 49) hx hb dX11_bearers_25 (by decide) (fun c25 => ?_) (fun c25 => ?_)
        · have c25 := Int32.le_iff_toInt_le.mp c25
          have rc25 := xrng w3; have qc25 := xrng (vi 3)
          refine lv_iload_n hx hb dX11_bearers_49 rfl (lv_at hl 1 rfl) ?_
          have hP9 := hP.sub (ws' := [((a 0), .inr (11, [.ref (ex 0), .ref (a 1), .ref (ex 1), .ref (ex 2), .ref (a 2), .ref (ex 3), .ref (ex 4), .ref (ex 5), .ref (ex 6), .ref (ex 7), .ref (ex 8), .ref (ex 9), .ref (ex 10), .ref (ex 11), .int (vi 1)])), ((a 1), .inr (7, [.int (vi 2), .int (vi 3), .ref (ex 12), .ref (ex 13), .ref (ex 14), .ref (ex 15), .ref (ex 16), .ref (ex 17), .ref (ex 18), .ref (ex 19), .ref (ex 20), .ref (ex 21)])), ((a 2), .inr (2, [.ref (a 1), .int (vi 4), .int (vi 5), .int (vi 6), .int (vi 7), .int (vi 8), .int (vi 9), .ref (ex 22), .ref (ex 23), .ref (ex 24), .ref (ex 25), .ref (ex 26), .ref (ex 27), .ref (ex 28), .ref (a 3)])), ((a 3), .inl (T 2, 200, .inr (.inl (fl 0))))]) [0, 3, 1, 2] rfl
          have hD9 := hD.sub (ws' := [((a 0), .inr (11, [.ref (ex 0), .ref (a 1), .ref (ex 1), .ref (ex 2), .ref (a 2), .ref (ex 3), .ref (ex 4), .ref (ex 5), .ref (ex 6), .ref (ex 7), .ref (ex 8), .ref (ex 9), .ref (ex 10), .ref (ex 11), .int (vi 1)])), ((a 1), .inr (7, [.int (vi 2), .int (vi 3), .ref (ex 12), .ref (ex 13), .ref (ex 14), .ref (ex 15), .ref (ex 16), .ref (ex 17), .ref (ex 18), .ref (ex 19), .ref (ex 20), .ref (ex 21)])), ((a 2), .inr (2, [.ref (a 1), .int (vi 4), .int (vi 5), .int (vi 6), .int (vi 7), .int (vi 8), .int (vi 9), .ref (ex 22), .ref (ex 23), .ref (ex 24), .ref (ex 25), .ref (ex 26), .ref (ex 27), .ref (ex 28), .ref (a 3)])), ((a 3), .inl (T 2, 200, .inr (.inl (fl 0))))]) [0, 3, 1, 2] (by decide +kernel) rfl
          rw [hQ]
          exact W.iret (v := w2) hx hb hr (fun t ht hW => ⟨⟨w2, w2, rfl, rfl, xf [], xh [], xv [], xl [], by rw [ht]; exact hP9, hD9, trivial⟩, hS.F ht⟩) hS.2.2 dX11_bearers_50
        · have c25 := (mt Int32.le_iff_toInt_le.mpr c25)
          have rc25 := xrng w3; have qc25 := xrng (vi 3)
          refine lv_aload_n hx hb dX11_bearers_28 rfl (lv_at hl 2 rfl) ?_
          refine va_get (D := D) (ci := 11) (v := .ref (a 2)) (C := RX11) (T := TX11) (N := 15) hx hb htg inX11 hown hK.1 hP 0 rfl rfl 4 (by decide) (htg _ kw_500) (fun _ h9 => h9) rfl dX11_bearers_29 ?_
          refine lv_iload_n hx hb dX11_bearers_32 rfl (lv_at hl 0 rfl) ?_
          refine lv_iload_n hx hb dX11_bearers_33 rfl (lv_at hl 3 rfl) ?_
          have hPc := hP.sub (ws' := (pre_X2_timesCalled T (xa [(a 2), (a 3)]) (xa [(a 1), (ex 22), (ex 23), (ex 24), (ex 25), (ex 26), (ex 27), (ex 28)]) (xf []) (xh [(fl 0)]) (xv [w3, (vi 0), (vi 4), (vi 5), (vi 6), (vi 7), (vi 8), (vi 9)]) (xl []))) [1, 2] rfl
          have hDc := hD.sub (ws' := (pre_X2_timesCalled T (xa [(a 2), (a 3)]) (xa [(a 1), (ex 22), (ex 23), (ex 24), (ex 25), (ex 26), (ex 27), (ex 28)]) (xf []) (xh [(fl 0)]) (xv [w3, (vi 0), (vi 4), (vi 5), (vi 6), (vi 7), (vi 8), (vi 9)]) (xl []))) [1, 2] (by decide) rfl
          have hFc := va_free (wc := (pre_X2_timesCalled T (xa [(a 2), (a 3)]) (xa [(a 1), (ex 22), (ex 23), (ex 24), (ex 25), (ex 26), (ex 27), (ex 28)]) (xf []) (xh [(fl 0)]) (xv [w3, (vi 0), (vi 4), (vi 5), (vi 6), (vi 7), (vi 8), (vi 9)]) (xl []))) hD hS hA [1, 2] rfl
          refine va_calli (va_runVN (As := [.int w3, .int (vi 0)]) (rest := []) ⟨hx, hb, hml, hown, htg⟩ (c_X2_timesCalled l D T (xa [(a 2), (a 3)]) (xa [(a 1), (ex 22), (ex 23), (ex 24), (ex 25), (ex 26), (ex 27), (ex 28)]) (xf []) (xh [(fl 0)]) (xv [w3, (vi 0), (vi 4), (vi 5), (vi 6), (vi 7), (vi 8), (vi 9)]) (xl []) H.size (by show 0 ≤ (vi 4).toInt ∧ (vi 4).toInt ≤ 200; omega) (by show 0 ≤ (vi 9).toInt ∧ (vi 9).toInt ≤ 9; omega)) ⟨va_cnB 2 htg (xg_ok kw_971) rfl rfl rfl (hK.2.1 _ kn_968) (htg _ kw_9) (by decide +kernel) ⟨by rw [hR]; exact Nat.le_of_ble_eq_true rfl, by rw [hR]; exact Nat.le_of_ble_eq_true rfl⟩, htg _ kw_970, htg _ ks_75⟩ (xpreV hK hPc hDc (va_recv hK.1 hPc (ci := 2) (q0 := 0) rfl rfl)) rfl rfl hl.1 rfl (lv_room (Nat.le_of_ble_eq_true rfl)) dX11_bearers_34 ⟨by rw [hR]; exact Nat.le_of_ble_eq_true rfl, by rw [hR]; exact Nat.le_of_ble_eq_true rfl⟩) hS (fun q _ h => hFc q h) hFc (fun r9 u9 t H1 locs ht hvm hw hB hz1 hk1 hS => ?_)
          subst hw
          obtain ⟨fik_1, flk_1, vik_1, vlk_1, hP1, hD1, hG⟩ := hB
          rw [ht] at hP1
          obtain ⟨hP, hD⟩ := va_join (wr := [((a 0), .inr (11, [.ref (ex 0), .ref (a 1), .ref (ex 1), .ref (ex 2), .ref (a 2), .ref (ex 3), .ref (ex 4), .ref (ex 5), .ref (ex 6), .ref (ex 7), .ref (ex 8), .ref (ex 9), .ref (ex 10), .ref (ex 11), .int (vi 1)])), ((a 1), .inr (7, [.int (vi 2), .int (vi 3), .ref (ex 12), .ref (ex 13), .ref (ex 14), .ref (ex 15), .ref (ex 16), .ref (ex 17), .ref (ex 18), .ref (ex 19), .ref (ex 20), .ref (ex 21)]))]) (w1 := [((a 2), .inr (2, [.ref (a 1), .int (vi 4), .int (vi 5), .int (vi 6), .int (vi 7), .int (vi 8), .int (vi 9), .ref (ex 22), .ref (ex 23), .ref (ex 24), .ref (ex 25), .ref (ex 26), .ref (ex 27), .ref (ex 28), .ref (a 3)])), ((a 3), .inl (T 2, 200, .inr (.inl (fl 0))))]) hP hD [1, 2] [0, 3] rfl rfl (by decide) (by decide) hk1 hFc hP1 hD1
          obtain ⟨rk_1, er9⟩ : ∃ z, z = r9 := ⟨_, rfl⟩
          subst er9
          clear hPc hDc hFc hP1 hD1 hk1 hz1 hvm ht
          generalize H1 = H at hP hS ⊢
          replace hP : va_P D vwCl [((a 0), .inr (11, [.ref (ex 0), .ref (a 1), .ref (ex 1), .ref (ex 2), .ref (a 2), .ref (ex 3), .ref (ex 4), .ref (ex 5), .ref (ex 6), .ref (ex 7), .ref (ex 8), .ref (ex 9), .ref (ex 10), .ref (ex 11), .int (vi 1)])), ((a 1), .inr (7, [.int (vi 2), .int (vi 3), .ref (ex 12), .ref (ex 13), .ref (ex 14), .ref (ex 15), .ref (ex 16), .ref (ex 17), .ref (ex 18), .ref (ex 19), .ref (ex 20), .ref (ex 21)])), ((a 2), .inr (2, [.ref (a 1), .int (vi 4), .int (vi 5), .int (vi 6), .int (vi 7), .int (vi 8), .int (vi 9), .ref (ex 22), .ref (ex 23), .ref (ex 24), .ref (ex 25), .ref (ex 26), .ref (ex 27), .ref (ex 28), .ref (a 3)])), ((a 3), .inl (T 2, 200, .inr (.inl (fl 0))))] H := hP
          replace hD : va_D A [((a 0), .inr (11, [.ref (ex 0), .ref (a 1), .ref (ex 1), .ref (ex 2), .ref (a 2), .ref (ex 3), .ref (ex 4), .ref (ex 5), .ref (ex 6), .ref (ex 7), .ref (ex 8), .ref (ex 9), .ref (ex 10), .ref (ex 11), .int (vi 1)])), ((a 1), .inr (7, [.int (vi 2), .int (vi 3), .ref (ex 12), .ref (ex 13), .ref (ex 14), .ref (ex 15), .ref (ex 16), .ref (ex 17), .ref (ex 18), .ref (ex 19), .ref (ex 20), .ref (ex 21)])), ((a 2), .inr (2, [.ref (a 1), .int (vi 4), .int (vi 5), .int (vi 6), .int (vi 7), .int (vi 8), .int (vi 9), .ref (ex 22), .ref (ex 23), .ref (ex 24), .ref (ex 25), .ref (ex 26), .ref (ex 27), .ref (ex 28), .ref (a 3)])), ((a 3), .inl (T 2, 200, .inr (.inl (fl 0))))] := hD
          clear hG
          refine lv_if_le (tgt := 43) hx hb dX11_bearers_37 (by decide) (fun c37 => ?_) (fun c37 => ?_)
          · have c37 := xle (k := 0) (by decide) c37
            obtain ⟨i43, ei43⟩ : ∃ z : Int32, w3 + Int32.ofInt 1 = z := ⟨_, rfl⟩
            have ti43 : i43.toInt = w3.toInt + 1 := by rw [← ei43]; have h79 := xrng w3; exact xadd rfl (by decide) (by omega) (by omega)
            refine lv_iinc (v := i43) (lv' := [(3, .int i43), (2, .int w2), (0, .ref (a 0)), (1, .int (vi 0))]) hx hb dX11_bearers_43 hl (k := 0) rfl ei43 (by decide) rfl (fun ls hl => ?_)
            refine lv_goto (tgt := 17) hx hb dX11_bearers_46 (by decide) ?_
            exact ih _ (by omega) i43 w2 _ _ _ (by show 0 ≤ i43.toInt; omega) rfl (hP.sub [0, 2, 3, 1] rfl) (hD.sub [0, 2, 3, 1] (by decide) rfl) hS (lv_sub hl [0, 1, 2, 3] rfl)
          · have c37 := xnle (k := 0) (by decide) c37
            obtain ⟨i40, ei40⟩ : ∃ z : Int32, w2 + Int32.ofInt 1 = z := ⟨_, rfl⟩
            refine lv_iinc (v := i40) (lv' := [(2, .int i40), (3, .int w3), (0, .ref (a 0)), (1, .int (vi 0))]) hx hb dX11_bearers_40 hl (k := 1) rfl ei40 (by decide) rfl (fun ls hl => ?_)
            obtain ⟨i43_1, ei43_1⟩ : ∃ z : Int32, w3 + Int32.ofInt 1 = z := ⟨_, rfl⟩
            have ti43_1 : i43_1.toInt = w3.toInt + 1 := by rw [← ei43_1]; have h79 := xrng w3; exact xadd rfl (by decide) (by omega) (by omega)
            refine lv_iinc (v := i43_1) (lv' := [(3, .int i43_1), (2, .int i40), (0, .ref (a 0)), (1, .int (vi 0))]) hx hb dX11_bearers_43 hl (k := 1) rfl ei43_1 (by decide) rfl (fun ls hl => ?_)
            refine lv_goto (tgt := 17) hx hb dX11_bearers_46 (by decide) ?_
            exact ih _ (by omega) i43_1 i40 _ _ _ (by show 0 ≤ i43_1.toInt; omega) rfl (hP.sub [0, 2, 3, 1] rfl) (hD.sub [0, 2, 3, 1] (by decide) rfl) hS (lv_sub hl [0, 1, 2, 3] rfl)
    exact lp _ (0 : Int32) (0 : Int32) _ _ _ (by show 0 ≤ (0 : Int32).toInt; have k9_0 : (0 : Int32).toInt = 0 := (by decide); omega) rfl hP hD hS hl
  · refine xz_i 0 er9 ?_
    refine lv_if_ne (tgt := 13) hx hb dX11_bearers_8 (by decide) (fun c => absurd (by decide) c) (fun _ => ?_)
    refine lv_iconst (v := (-1)) hx hb dX11_bearers_11 (by decide) ?_
    have hP9 := hP.sub (ws' := [((a 0), .inr (11, [.ref (ex 0), .ref (a 1), .ref (ex 1), .ref (ex 2), .ref (a 2), .ref (ex 3), .ref (ex 4), .ref (ex 5), .ref (ex 6), .ref (ex 7), .ref (ex 8), .ref (ex 9), .ref (ex 10), .ref (ex 11), .int (vi 1)])), ((a 1), .inr (7, [.int (vi 2), .int (vi 3), .ref (ex 12), .ref (ex 13), .ref (ex 14), .ref (ex 15), .ref (ex 16), .ref (ex 17), .ref (ex 18), .ref (ex 19), .ref (ex 20), .ref (ex 21)])), ((a 2), .inr (2, [.ref (a 1), .int (vi 4), .int (vi 5), .int (vi 6), .int (vi 7), .int (vi 8), .int (vi 9), .ref (ex 22), .ref (ex 23), .ref (ex 24), .ref (ex 25), .ref (ex 26), .ref (ex 27), .ref (ex 28), .ref (a 3)])), ((a 3), .inl (T 2, 200, .inr (.inl (fl 0))))]) [0, 3, 1, 2] rfl
    have hD9 := hD.sub (ws' := [((a 0), .inr (11, [.ref (ex 0), .ref (a 1), .ref (ex 1), .ref (ex 2), .ref (a 2), .ref (ex 3), .ref (ex 4), .ref (ex 5), .ref (ex 6), .ref (ex 7), .ref (ex 8), .ref (ex 9), .ref (ex 10), .ref (ex 11), .int (vi 1)])), ((a 1), .inr (7, [.int (vi 2), .int (vi 3), .ref (ex 12), .ref (ex 13), .ref (ex 14), .ref (ex 15), .ref (ex 16), .ref (ex 17), .ref (ex 18), .ref (ex 19), .ref (ex 20), .ref (ex 21)])), ((a 2), .inr (2, [.ref (a 1), .int (vi 4), .int (vi 5), .int (vi 6), .int (vi 7), .int (vi 8), .int (vi 9), .ref (ex 22), .ref (ex 23), .ref (ex 24), .ref (ex 25), .ref (ex 26), .ref (ex 27), .ref (ex 28), .ref (a 3)])), ((a 3), .inl (T 2, 200, .inr (.inl (fl 0))))]) [0, 3, 1, 2] (by decide +kernel) rfl
    rw [hQ]
    exact W.iret (v := (-1)) hx hb hr (fun t ht hW => ⟨⟨(-1), (-1), rfl, rfl, xf [], xh [], xv [], xl [], by rw [ht]; exact hP9, hD9, trivial⟩, hS.F ht⟩) hS.2.2 dX11_bearers_12
abbrev pre_X11_howLong (T : Nat → ClassId) (a ex : Nat → Nat) (fi : Nat → Nat → Int32) (fl : Nat → Nat → Int64) (vi : Nat → Int32) (vl : Nat → Int64) : va_W := [((a 0), .inr (11, [.ref (ex 0), .ref (a 1), .ref (ex 1), .ref (ex 2), .ref (a 2), .ref (ex 3), .ref (ex 4), .ref (ex 5), .ref (ex 6), .ref (ex 7), .ref (ex 8), .ref (ex 9), .ref (ex 10), .ref (ex 11), .int (vi 2)])), ((a 1), .inr (7, [.int (vi 3), .int (vi 4), .ref (ex 12), .ref (ex 13), .ref (ex 14), .ref (ex 15), .ref (ex 16), .ref (ex 17), .ref (ex 18), .ref (ex 19), .ref (ex 20), .ref (ex 21)])), ((a 2), .inr (2, [.ref (a 1), .int (vi 5), .int (vi 6), .int (vi 7), .int (vi 8), .int (vi 9), .int (vi 10), .ref (ex 22), .ref (ex 23), .ref (ex 24), .ref (ex 25), .ref (ex 26), .ref (ex 27), .ref (ex 28), .ref (a 3)])), ((a 3), .inl (T 2, 200, .inr (.inl (fl 0))))]
set_option maxHeartbeats 8000000 in
set_option maxRecDepth 100000 in
theorem c_X11_howLong (l : Launch) (D : va_G) (T : Nat → ClassId) (a ex : Nat → Nat) (fi : Nat → Nat → Int32) (fl : Nat → Nat → Int64) (vi : Nat → Int32) (vl : Nat → Int64) (sz : Nat) (hp0 : 0 ≤ (vi 3).toInt ∧ (vi 3).toInt ≤ 9) (hp1 : 0 ≤ (vi 4).toInt ∧ (vi 4).toInt ≤ 9) (hp2 : 0 ≤ (vi 5).toInt ∧ (vi 5).toInt ≤ 200) (hp3 : 0 ≤ (vi 10).toInt ∧ (vi 10).toInt ≤ 9) : Met l yX11_howLong (xw yX11_howLong cX11_howLong 3 (some .int)) ({ frames := 3, cells := 0, slots := 0, locals := 79 }) (xP D T [.ref (a 0), .int (vi 0), .int (vi 1)] sz (pre_X11_howLong T a ex fi fl vi vl)) (va_Qi (fun r u => r = u) (xC D (va_A (pre_X11_howLong T a ex fi fl vi vl) sz) (fun fj fm vj vm => [((a 0), .inr (11, [.ref (ex 0), .ref (a 1), .ref (ex 1), .ref (ex 2), .ref (a 2), .ref (ex 3), .ref (ex 4), .ref (ex 5), .ref (ex 6), .ref (ex 7), .ref (ex 8), .ref (ex 9), .ref (ex 10), .ref (ex 11), .int (vi 2)])), ((a 1), .inr (7, [.int (vi 3), .int (vi 4), .ref (ex 12), .ref (ex 13), .ref (ex 14), .ref (ex 15), .ref (ex 16), .ref (ex 17), .ref (ex 18), .ref (ex 19), .ref (ex 20), .ref (ex 21)])), ((a 2), .inr (2, [.ref (a 1), .int (vi 5), .int (vi 6), .int (vi 7), .int (vi 8), .int (vi 9), .int (vi 10), .ref (ex 22), .ref (ex 23), .ref (ex 24), .ref (ex 25), .ref (ex 26), .ref (ex 27), .ref (ex 28), .ref (a 3)])), ((a 3), .inl (T 2, 200, .inr (.inl (fl 0))))]) (fun (r : Int32) (fj : Nat → Nat → Int32) (fm : Nat → Nat → Int64) (vj : Nat → Int32) (vm : Nat → Int64) => True)) (va_A (pre_X11_howLong T a ex fi fl vi vl) sz)) 0 0 (va_A (pre_X11_howLong T a ex fi fl vi vl) sz) := by
  refine xofW (cc := cX11_howLong) (maxL := 3) (ret := (some .int)) (by decide) rfl ?_
  intro p e s m args below meth c s₁ R Q hR hQ B hml hv
  obtain ⟨rfl, hsz, hP, hK, hD0⟩ := hv
  have hx := B.exec
  have hb := B.bytes
  have hr := B.returns
  have hts := atoms_spec (ws := xw yX11_howLong cX11_howLong 3 (some .int)) B.pre
  have htg : ∀ w ∈ xg, w.before _ s = true := fun w h => hts w (List.mem_cons_of_mem _ h)
  have hown : s.vm.findClass RX11 = some m.cls := findClass_of_methodNamed B.named
  have hlocks := B.notSynchronized
  subst hsz
  have hD := hD0.self (sz := s.heap.size)
  generalize hAe : va_A (pre_X11_howLong T a ex fi fl vi vl) s.heap.size = A at hD hQ
  have hA : ∀ q : Nat, s.heap.size ≤ q → A q := fun q h => by rw [← hAe]; exact Or.inr h
  have hS : va_S A s.heap s.heap [] := va_S.rf
  replace hP : va_P D vwCl [((a 0), .inr (11, [.ref (ex 0), .ref (a 1), .ref (ex 1), .ref (ex 2), .ref (a 2), .ref (ex 3), .ref (ex 4), .ref (ex 5), .ref (ex 6), .ref (ex 7), .ref (ex 8), .ref (ex 9), .ref (ex 10), .ref (ex 11), .int (vi 2)])), ((a 1), .inr (7, [.int (vi 3), .int (vi 4), .ref (ex 12), .ref (ex 13), .ref (ex 14), .ref (ex 15), .ref (ex 16), .ref (ex 17), .ref (ex 18), .ref (ex 19), .ref (ex 20), .ref (ex 21)])), ((a 2), .inr (2, [.ref (a 1), .int (vi 5), .int (vi 6), .int (vi 7), .int (vi 8), .int (vi 9), .int (vi 10), .ref (ex 22), .ref (ex 23), .ref (ex 24), .ref (ex 25), .ref (ex 26), .ref (ex 27), .ref (ex 28), .ref (a 3)])), ((a 3), .inl (T 2, 200, .inr (.inl (fl 0))))] s.heap := hP
  replace hD : va_D A [((a 0), .inr (11, [.ref (ex 0), .ref (a 1), .ref (ex 1), .ref (ex 2), .ref (a 2), .ref (ex 3), .ref (ex 4), .ref (ex 5), .ref (ex 6), .ref (ex 7), .ref (ex 8), .ref (ex 9), .ref (ex 10), .ref (ex 11), .int (vi 2)])), ((a 1), .inr (7, [.int (vi 3), .int (vi 4), .ref (ex 12), .ref (ex 13), .ref (ex 14), .ref (ex 15), .ref (ex 16), .ref (ex 17), .ref (ex 18), .ref (ex 19), .ref (ex 20), .ref (ex 21)])), ((a 2), .inr (2, [.ref (a 1), .int (vi 5), .int (vi 6), .int (vi 7), .int (vi 8), .int (vi 9), .int (vi 10), .ref (ex 22), .ref (ex 23), .ref (ex 24), .ref (ex 25), .ref (ex 26), .ref (ex 27), .ref (ex 28), .ref (a 3)])), ((a 3), .inl (T 2, 200, .inr (.inl (fl 0))))] := hD
  have hl := lv_entry ([.ref (a 0), .int (vi 0), .int (vi 1)]) (n := 3) (Nat.le_of_ble_eq_true rfl)
  rw [lg_entry_eq]
  generalize (lg_sl ([.ref (a 0), .int (vi 0), .int (vi 1)]) ++ List.replicate (3 - (lg_sl ([.ref (a 0), .int (vi 0), .int (vi 1)])).length) Slot.unset).toArray = ls at hl ⊢
  replace hl : lv_has ls 3 [(0, .ref (a 0)), (1, .int (vi 0)), (2, .int (vi 1))] := hl
  refine lv_aload_n hx hb dX11_howLong_0 rfl (lv_at hl 0 rfl) ?_
  refine va_get (D := D) (ci := 11) (v := .ref (a 1)) (C := RX11) (T := TX11) (N := 15) hx hb htg inX11 hown hK.1 hP 0 rfl rfl 1 (by decide) (htg _ kw_497) (fun _ h9 => h9) rfl dX11_howLong_1 ?_
  refine lv_iload_n hx hb dX11_howLong_4 rfl (lv_at hl 1 rfl) ?_
  have hPc := hP.sub (ws' := (pre_X7_isSoul T (xa [(a 1)]) (xa [(ex 12), (ex 13), (ex 14), (ex 15), (ex 16), (ex 17), (ex 18), (ex 19), (ex 20), (ex 21)]) (xf []) (xh []) (xv [(vi 0), (vi 3), (vi 4)]) (xl []))) [1] rfl
  have hDc := hD.sub (ws' := (pre_X7_isSoul T (xa [(a 1)]) (xa [(ex 12), (ex 13), (ex 14), (ex 15), (ex 16), (ex 17), (ex 18), (ex 19), (ex 20), (ex 21)]) (xf []) (xh []) (xv [(vi 0), (vi 3), (vi 4)]) (xl []))) [1] (by decide) rfl
  have hFc := va_free (wc := (pre_X7_isSoul T (xa [(a 1)]) (xa [(ex 12), (ex 13), (ex 14), (ex 15), (ex 16), (ex 17), (ex 18), (ex 19), (ex 20), (ex 21)]) (xf []) (xh []) (xv [(vi 0), (vi 3), (vi 4)]) (xl []))) hD hS hA [1] rfl
  refine va_calli (va_runVN (As := [.int (vi 0)]) (rest := []) ⟨hx, hb, hml, hown, htg⟩ (c_X7_isSoul l D T (xa [(a 1)]) (xa [(ex 12), (ex 13), (ex 14), (ex 15), (ex 16), (ex 17), (ex 18), (ex 19), (ex 20), (ex 21)]) (xf []) (xh []) (xv [(vi 0), (vi 3), (vi 4)]) (xl []) s.heap.size (by show 0 ≤ (vi 3).toInt ∧ (vi 3).toInt ≤ 9; omega) (by show 0 ≤ (vi 4).toInt ∧ (vi 4).toInt ≤ 9; omega)) ⟨va_cnB 1 htg (xg_ok kw_664) rfl rfl rfl (hK.2.1 _ kn_764) (htg _ kw_7) (by decide +kernel) ⟨by rw [hR]; exact Nat.le_of_ble_eq_true rfl, by rw [hR]; exact Nat.le_of_ble_eq_true rfl⟩, htg _ kw_663, htg _ ks_25⟩ (xpreV hK hPc hDc (va_recv hK.1 hPc (ci := 7) (q0 := 0) rfl rfl)) rfl rfl hl.1 rfl (lv_room (Nat.le_of_ble_eq_true rfl)) dX11_howLong_5 ⟨by rw [hR]; exact Nat.le_of_ble_eq_true rfl, by rw [hR]; exact Nat.le_of_ble_eq_true rfl⟩) hS (fun q _ h => hFc q h) hFc (fun r9 u9 t H1 locs ht hvm hw hB hz1 hk1 hS => ?_)
  subst hw
  obtain ⟨fik, flk, vik, vlk, hP1, hD1, hG⟩ := hB
  rw [ht] at hP1
  obtain ⟨hP, hD⟩ := va_join (wr := [((a 0), .inr (11, [.ref (ex 0), .ref (a 1), .ref (ex 1), .ref (ex 2), .ref (a 2), .ref (ex 3), .ref (ex 4), .ref (ex 5), .ref (ex 6), .ref (ex 7), .ref (ex 8), .ref (ex 9), .ref (ex 10), .ref (ex 11), .int (vi 2)])), ((a 2), .inr (2, [.ref (a 1), .int (vi 5), .int (vi 6), .int (vi 7), .int (vi 8), .int (vi 9), .int (vi 10), .ref (ex 22), .ref (ex 23), .ref (ex 24), .ref (ex 25), .ref (ex 26), .ref (ex 27), .ref (ex 28), .ref (a 3)])), ((a 3), .inl (T 2, 200, .inr (.inl (fl 0))))]) (w1 := [((a 1), .inr (7, [.int (vi 3), .int (vi 4), .ref (ex 12), .ref (ex 13), .ref (ex 14), .ref (ex 15), .ref (ex 16), .ref (ex 17), .ref (ex 18), .ref (ex 19), .ref (ex 20), .ref (ex 21)]))]) hP hD [1] [0, 2, 3] rfl rfl (by decide) (by decide) hk1 hFc hP1 hD1
  obtain ⟨rk, er9⟩ : ∃ z, z = r9 := ⟨_, rfl⟩
  subst er9
  clear hPc hDc hFc hP1 hD1 hk1 hz1 hvm ht
  generalize H1 = H at hP hS ⊢
  replace hP : va_P D vwCl [((a 0), .inr (11, [.ref (ex 0), .ref (a 1), .ref (ex 1), .ref (ex 2), .ref (a 2), .ref (ex 3), .ref (ex 4), .ref (ex 5), .ref (ex 6), .ref (ex 7), .ref (ex 8), .ref (ex 9), .ref (ex 10), .ref (ex 11), .int (vi 2)])), ((a 2), .inr (2, [.ref (a 1), .int (vi 5), .int (vi 6), .int (vi 7), .int (vi 8), .int (vi 9), .int (vi 10), .ref (ex 22), .ref (ex 23), .ref (ex 24), .ref (ex 25), .ref (ex 26), .ref (ex 27), .ref (ex 28), .ref (a 3)])), ((a 3), .inl (T 2, 200, .inr (.inl (fl 0)))), ((a 1), .inr (7, [.int (vi 3), .int (vi 4), .ref (ex 12), .ref (ex 13), .ref (ex 14), .ref (ex 15), .ref (ex 16), .ref (ex 17), .ref (ex 18), .ref (ex 19), .ref (ex 20), .ref (ex 21)]))] H := hP
  replace hD : va_D A [((a 0), .inr (11, [.ref (ex 0), .ref (a 1), .ref (ex 1), .ref (ex 2), .ref (a 2), .ref (ex 3), .ref (ex 4), .ref (ex 5), .ref (ex 6), .ref (ex 7), .ref (ex 8), .ref (ex 9), .ref (ex 10), .ref (ex 11), .int (vi 2)])), ((a 2), .inr (2, [.ref (a 1), .int (vi 5), .int (vi 6), .int (vi 7), .int (vi 8), .int (vi 9), .int (vi 10), .ref (ex 22), .ref (ex 23), .ref (ex 24), .ref (ex 25), .ref (ex 26), .ref (ex 27), .ref (ex 28), .ref (a 3)])), ((a 3), .inl (T 2, 200, .inr (.inl (fl 0)))), ((a 1), .inr (7, [.int (vi 3), .int (vi 4), .ref (ex 12), .ref (ex 13), .ref (ex 14), .ref (ex 15), .ref (ex 16), .ref (ex 17), .ref (ex 18), .ref (ex 19), .ref (ex 20), .ref (ex 21)]))] := hD
  obtain ⟨gk_0, -⟩ := hG
  rcases (show (rk = 1 ∧ (0 ≤ (vi 0).toInt ∧ (vi 0).toInt < (vi 4).toInt)) ∨ (rk = 0 ∧ (¬ (0 ≤ (vi 0).toInt ∧ (vi 0).toInt < (vi 4).toInt))) from gk_0) with ⟨er9, gk_0⟩ | ⟨er9, gk_0⟩
  · refine xz_i 1 er9 ?_
    refine lv_if_eq (tgt := 34) hx hb dX11_howLong_8 (by decide) (fun c => absurd c (by decide)) (fun _ => ?_)
    refine lv_aload_n hx hb dX11_howLong_11 rfl (lv_at hl 0 rfl) ?_
    refine va_get (D := D) (ci := 11) (v := .ref (a 1)) (C := RX11) (T := TX11) (N := 15) hx hb htg inX11 hown hK.1 hP 0 rfl rfl 1 (by decide) (htg _ kw_497) (fun _ h9 => h9) rfl dX11_howLong_12 ?_
    refine lv_iload_n hx hb dX11_howLong_15 rfl (lv_at hl 2 rfl) ?_
    have hPc := hP.sub (ws' := (pre_X7_isName T (xa [(a 1)]) (xa [(ex 12), (ex 13), (ex 14), (ex 15), (ex 16), (ex 17), (ex 18), (ex 19), (ex 20), (ex 21)]) (xf []) (xh []) (xv [(vi 1), (vi 3), (vi 4)]) (xl []))) [3] rfl
    have hDc := hD.sub (ws' := (pre_X7_isName T (xa [(a 1)]) (xa [(ex 12), (ex 13), (ex 14), (ex 15), (ex 16), (ex 17), (ex 18), (ex 19), (ex 20), (ex 21)]) (xf []) (xh []) (xv [(vi 1), (vi 3), (vi 4)]) (xl []))) [3] (by decide) rfl
    have hFc := va_free (wc := (pre_X7_isName T (xa [(a 1)]) (xa [(ex 12), (ex 13), (ex 14), (ex 15), (ex 16), (ex 17), (ex 18), (ex 19), (ex 20), (ex 21)]) (xf []) (xh []) (xv [(vi 1), (vi 3), (vi 4)]) (xl []))) hD hS hA [3] rfl
    refine va_calli (va_runVN (As := [.int (vi 1)]) (rest := []) ⟨hx, hb, hml, hown, htg⟩ (c_X7_isName l D T (xa [(a 1)]) (xa [(ex 12), (ex 13), (ex 14), (ex 15), (ex 16), (ex 17), (ex 18), (ex 19), (ex 20), (ex 21)]) (xf []) (xh []) (xv [(vi 1), (vi 3), (vi 4)]) (xl []) H.size (by show 0 ≤ (vi 3).toInt ∧ (vi 3).toInt ≤ 9; omega) (by show 0 ≤ (vi 4).toInt ∧ (vi 4).toInt ≤ 9; omega)) ⟨va_cnB 1 htg (xg_ok kw_683) rfl rfl rfl (hK.2.1 _ kn_743) (htg _ kw_7) (by decide +kernel) ⟨by rw [hR]; exact Nat.le_of_ble_eq_true rfl, by rw [hR]; exact Nat.le_of_ble_eq_true rfl⟩, htg _ kw_682, htg _ ks_29⟩ (xpreV hK hPc hDc (va_recv hK.1 hPc (ci := 7) (q0 := 0) rfl rfl)) rfl rfl hl.1 rfl (lv_room (Nat.le_of_ble_eq_true rfl)) dX11_howLong_16 ⟨by rw [hR]; exact Nat.le_of_ble_eq_true rfl, by rw [hR]; exact Nat.le_of_ble_eq_true rfl⟩) hS (fun q _ h => hFc q h) hFc (fun r9 u9 t H1 locs ht hvm hw hB hz1 hk1 hS => ?_)
    subst hw
    obtain ⟨fik_1, flk_1, vik_1, vlk_1, hP1, hD1, hG⟩ := hB
    rw [ht] at hP1
    obtain ⟨hP, hD⟩ := va_join (wr := [((a 0), .inr (11, [.ref (ex 0), .ref (a 1), .ref (ex 1), .ref (ex 2), .ref (a 2), .ref (ex 3), .ref (ex 4), .ref (ex 5), .ref (ex 6), .ref (ex 7), .ref (ex 8), .ref (ex 9), .ref (ex 10), .ref (ex 11), .int (vi 2)])), ((a 2), .inr (2, [.ref (a 1), .int (vi 5), .int (vi 6), .int (vi 7), .int (vi 8), .int (vi 9), .int (vi 10), .ref (ex 22), .ref (ex 23), .ref (ex 24), .ref (ex 25), .ref (ex 26), .ref (ex 27), .ref (ex 28), .ref (a 3)])), ((a 3), .inl (T 2, 200, .inr (.inl (fl 0))))]) (w1 := [((a 1), .inr (7, [.int (vi 3), .int (vi 4), .ref (ex 12), .ref (ex 13), .ref (ex 14), .ref (ex 15), .ref (ex 16), .ref (ex 17), .ref (ex 18), .ref (ex 19), .ref (ex 20), .ref (ex 21)]))]) hP hD [3] [0, 1, 2] rfl rfl (by decide) (by decide) hk1 hFc hP1 hD1
    obtain ⟨rk_1, er9⟩ : ∃ z, z = r9 := ⟨_, rfl⟩
    subst er9
    clear hPc hDc hFc hP1 hD1 hk1 hz1 hvm ht
    generalize H1 = H at hP hS ⊢
    replace hP : va_P D vwCl [((a 0), .inr (11, [.ref (ex 0), .ref (a 1), .ref (ex 1), .ref (ex 2), .ref (a 2), .ref (ex 3), .ref (ex 4), .ref (ex 5), .ref (ex 6), .ref (ex 7), .ref (ex 8), .ref (ex 9), .ref (ex 10), .ref (ex 11), .int (vi 2)])), ((a 2), .inr (2, [.ref (a 1), .int (vi 5), .int (vi 6), .int (vi 7), .int (vi 8), .int (vi 9), .int (vi 10), .ref (ex 22), .ref (ex 23), .ref (ex 24), .ref (ex 25), .ref (ex 26), .ref (ex 27), .ref (ex 28), .ref (a 3)])), ((a 3), .inl (T 2, 200, .inr (.inl (fl 0)))), ((a 1), .inr (7, [.int (vi 3), .int (vi 4), .ref (ex 12), .ref (ex 13), .ref (ex 14), .ref (ex 15), .ref (ex 16), .ref (ex 17), .ref (ex 18), .ref (ex 19), .ref (ex 20), .ref (ex 21)]))] H := hP
    replace hD : va_D A [((a 0), .inr (11, [.ref (ex 0), .ref (a 1), .ref (ex 1), .ref (ex 2), .ref (a 2), .ref (ex 3), .ref (ex 4), .ref (ex 5), .ref (ex 6), .ref (ex 7), .ref (ex 8), .ref (ex 9), .ref (ex 10), .ref (ex 11), .int (vi 2)])), ((a 2), .inr (2, [.ref (a 1), .int (vi 5), .int (vi 6), .int (vi 7), .int (vi 8), .int (vi 9), .int (vi 10), .ref (ex 22), .ref (ex 23), .ref (ex 24), .ref (ex 25), .ref (ex 26), .ref (ex 27), .ref (ex 28), .ref (a 3)])), ((a 3), .inl (T 2, 200, .inr (.inl (fl 0)))), ((a 1), .inr (7, [.int (vi 3), .int (vi 4), .ref (ex 12), .ref (ex 13), .ref (ex 14), .ref (ex 15), .ref (ex 16), .ref (ex 17), .ref (ex 18), .ref (ex 19), .ref (ex 20), .ref (ex 21)]))] := hD
    obtain ⟨gk_1_0, -⟩ := hG
    rcases (show (rk_1 = 1 ∧ (0 ≤ (vi 1).toInt ∧ (vi 1).toInt < (vi 3).toInt)) ∨ (rk_1 = 0 ∧ (¬ (0 ≤ (vi 1).toInt ∧ (vi 1).toInt < (vi 3).toInt))) from gk_1_0) with ⟨er9, gk_1_0⟩ | ⟨er9, gk_1_0⟩
    · refine xz_i 1 er9 ?_
      refine lv_if_eq (tgt := 34) hx hb dX11_howLong_19 (by decide) (fun c => absurd c (by decide)) (fun _ => ?_)
      refine lv_aload_n hx hb dX11_howLong_22 rfl (lv_at hl 0 rfl) ?_
      refine va_get (D := D) (ci := 11) (v := .ref (a 2)) (C := RX11) (T := TX11) (N := 15) hx hb htg inX11 hown hK.1 hP 0 rfl rfl 4 (by decide) (htg _ kw_500) (fun _ h9 => h9) rfl dX11_howLong_23 ?_
      refine lv_iload_n hx hb dX11_howLong_26 rfl (lv_at hl 1 rfl) ?_
      refine lv_iload_n hx hb dX11_howLong_27 rfl (lv_at hl 2 rfl) ?_
      have hPc := hP.sub (ws' := (pre_X2_timesCalled T (xa [(a 2), (a 3)]) (xa [(a 1), (ex 22), (ex 23), (ex 24), (ex 25), (ex 26), (ex 27), (ex 28)]) (xf []) (xh [(fl 0)]) (xv [(vi 0), (vi 1), (vi 5), (vi 6), (vi 7), (vi 8), (vi 9), (vi 10)]) (xl []))) [1, 2] rfl
      have hDc := hD.sub (ws' := (pre_X2_timesCalled T (xa [(a 2), (a 3)]) (xa [(a 1), (ex 22), (ex 23), (ex 24), (ex 25), (ex 26), (ex 27), (ex 28)]) (xf []) (xh [(fl 0)]) (xv [(vi 0), (vi 1), (vi 5), (vi 6), (vi 7), (vi 8), (vi 9), (vi 10)]) (xl []))) [1, 2] (by decide) rfl
      have hFc := va_free (wc := (pre_X2_timesCalled T (xa [(a 2), (a 3)]) (xa [(a 1), (ex 22), (ex 23), (ex 24), (ex 25), (ex 26), (ex 27), (ex 28)]) (xf []) (xh [(fl 0)]) (xv [(vi 0), (vi 1), (vi 5), (vi 6), (vi 7), (vi 8), (vi 9), (vi 10)]) (xl []))) hD hS hA [1, 2] rfl
      refine va_calli (va_runVN (As := [.int (vi 0), .int (vi 1)]) (rest := []) ⟨hx, hb, hml, hown, htg⟩ (c_X2_timesCalled l D T (xa [(a 2), (a 3)]) (xa [(a 1), (ex 22), (ex 23), (ex 24), (ex 25), (ex 26), (ex 27), (ex 28)]) (xf []) (xh [(fl 0)]) (xv [(vi 0), (vi 1), (vi 5), (vi 6), (vi 7), (vi 8), (vi 9), (vi 10)]) (xl []) H.size (by show 0 ≤ (vi 5).toInt ∧ (vi 5).toInt ≤ 200; omega) (by show 0 ≤ (vi 10).toInt ∧ (vi 10).toInt ≤ 9; omega)) ⟨va_cnB 2 htg (xg_ok kw_971) rfl rfl rfl (hK.2.1 _ kn_968) (htg _ kw_9) (by decide +kernel) ⟨by rw [hR]; exact Nat.le_of_ble_eq_true rfl, by rw [hR]; exact Nat.le_of_ble_eq_true rfl⟩, htg _ kw_970, htg _ ks_75⟩ (xpreV hK hPc hDc (va_recv hK.1 hPc (ci := 2) (q0 := 0) rfl rfl)) rfl rfl hl.1 rfl (lv_room (Nat.le_of_ble_eq_true rfl)) dX11_howLong_28 ⟨by rw [hR]; exact Nat.le_of_ble_eq_true rfl, by rw [hR]; exact Nat.le_of_ble_eq_true rfl⟩) hS (fun q _ h => hFc q h) hFc (fun r9 u9 t H1 locs ht hvm hw hB hz1 hk1 hS => ?_)
      subst hw
      obtain ⟨fik_2, flk_2, vik_2, vlk_2, hP1, hD1, hG⟩ := hB
      rw [ht] at hP1
      obtain ⟨hP, hD⟩ := va_join (wr := [((a 0), .inr (11, [.ref (ex 0), .ref (a 1), .ref (ex 1), .ref (ex 2), .ref (a 2), .ref (ex 3), .ref (ex 4), .ref (ex 5), .ref (ex 6), .ref (ex 7), .ref (ex 8), .ref (ex 9), .ref (ex 10), .ref (ex 11), .int (vi 2)])), ((a 1), .inr (7, [.int (vi 3), .int (vi 4), .ref (ex 12), .ref (ex 13), .ref (ex 14), .ref (ex 15), .ref (ex 16), .ref (ex 17), .ref (ex 18), .ref (ex 19), .ref (ex 20), .ref (ex 21)]))]) (w1 := [((a 2), .inr (2, [.ref (a 1), .int (vi 5), .int (vi 6), .int (vi 7), .int (vi 8), .int (vi 9), .int (vi 10), .ref (ex 22), .ref (ex 23), .ref (ex 24), .ref (ex 25), .ref (ex 26), .ref (ex 27), .ref (ex 28), .ref (a 3)])), ((a 3), .inl (T 2, 200, .inr (.inl (fl 0))))]) hP hD [1, 2] [0, 3] rfl rfl (by decide) (by decide) hk1 hFc hP1 hD1
      obtain ⟨rk_2, er9⟩ : ∃ z, z = r9 := ⟨_, rfl⟩
      subst er9
      clear hPc hDc hFc hP1 hD1 hk1 hz1 hvm ht
      generalize H1 = H at hP hS ⊢
      replace hP : va_P D vwCl [((a 0), .inr (11, [.ref (ex 0), .ref (a 1), .ref (ex 1), .ref (ex 2), .ref (a 2), .ref (ex 3), .ref (ex 4), .ref (ex 5), .ref (ex 6), .ref (ex 7), .ref (ex 8), .ref (ex 9), .ref (ex 10), .ref (ex 11), .int (vi 2)])), ((a 1), .inr (7, [.int (vi 3), .int (vi 4), .ref (ex 12), .ref (ex 13), .ref (ex 14), .ref (ex 15), .ref (ex 16), .ref (ex 17), .ref (ex 18), .ref (ex 19), .ref (ex 20), .ref (ex 21)])), ((a 2), .inr (2, [.ref (a 1), .int (vi 5), .int (vi 6), .int (vi 7), .int (vi 8), .int (vi 9), .int (vi 10), .ref (ex 22), .ref (ex 23), .ref (ex 24), .ref (ex 25), .ref (ex 26), .ref (ex 27), .ref (ex 28), .ref (a 3)])), ((a 3), .inl (T 2, 200, .inr (.inl (fl 0))))] H := hP
      replace hD : va_D A [((a 0), .inr (11, [.ref (ex 0), .ref (a 1), .ref (ex 1), .ref (ex 2), .ref (a 2), .ref (ex 3), .ref (ex 4), .ref (ex 5), .ref (ex 6), .ref (ex 7), .ref (ex 8), .ref (ex 9), .ref (ex 10), .ref (ex 11), .int (vi 2)])), ((a 1), .inr (7, [.int (vi 3), .int (vi 4), .ref (ex 12), .ref (ex 13), .ref (ex 14), .ref (ex 15), .ref (ex 16), .ref (ex 17), .ref (ex 18), .ref (ex 19), .ref (ex 20), .ref (ex 21)])), ((a 2), .inr (2, [.ref (a 1), .int (vi 5), .int (vi 6), .int (vi 7), .int (vi 8), .int (vi 9), .int (vi 10), .ref (ex 22), .ref (ex 23), .ref (ex 24), .ref (ex 25), .ref (ex 26), .ref (ex 27), .ref (ex 28), .ref (a 3)])), ((a 3), .inl (T 2, 200, .inr (.inl (fl 0))))] := hD
      clear hG
      refine lv_goto (tgt := 35) hx hb dX11_howLong_31 (by decide) ?_
      have hP9 := hP.sub (ws' := [((a 0), .inr (11, [.ref (ex 0), .ref (a 1), .ref (ex 1), .ref (ex 2), .ref (a 2), .ref (ex 3), .ref (ex 4), .ref (ex 5), .ref (ex 6), .ref (ex 7), .ref (ex 8), .ref (ex 9), .ref (ex 10), .ref (ex 11), .int (vi 2)])), ((a 1), .inr (7, [.int (vi 3), .int (vi 4), .ref (ex 12), .ref (ex 13), .ref (ex 14), .ref (ex 15), .ref (ex 16), .ref (ex 17), .ref (ex 18), .ref (ex 19), .ref (ex 20), .ref (ex 21)])), ((a 2), .inr (2, [.ref (a 1), .int (vi 5), .int (vi 6), .int (vi 7), .int (vi 8), .int (vi 9), .int (vi 10), .ref (ex 22), .ref (ex 23), .ref (ex 24), .ref (ex 25), .ref (ex 26), .ref (ex 27), .ref (ex 28), .ref (a 3)])), ((a 3), .inl (T 2, 200, .inr (.inl (fl 0))))]) [0, 1, 2, 3] rfl
      have hD9 := hD.sub (ws' := [((a 0), .inr (11, [.ref (ex 0), .ref (a 1), .ref (ex 1), .ref (ex 2), .ref (a 2), .ref (ex 3), .ref (ex 4), .ref (ex 5), .ref (ex 6), .ref (ex 7), .ref (ex 8), .ref (ex 9), .ref (ex 10), .ref (ex 11), .int (vi 2)])), ((a 1), .inr (7, [.int (vi 3), .int (vi 4), .ref (ex 12), .ref (ex 13), .ref (ex 14), .ref (ex 15), .ref (ex 16), .ref (ex 17), .ref (ex 18), .ref (ex 19), .ref (ex 20), .ref (ex 21)])), ((a 2), .inr (2, [.ref (a 1), .int (vi 5), .int (vi 6), .int (vi 7), .int (vi 8), .int (vi 9), .int (vi 10), .ref (ex 22), .ref (ex 23), .ref (ex 24), .ref (ex 25), .ref (ex 26), .ref (ex 27), .ref (ex 28), .ref (a 3)])), ((a 3), .inl (T 2, 200, .inr (.inl (fl 0))))]) [0, 1, 2, 3] (by decide +kernel) rfl
      rw [hQ]
      exact W.iret (v := rk_2) hx hb hr (fun t ht hW => ⟨⟨rk_2, rk_2, rfl, rfl, xf [], xh [], xv [], xl [], by rw [ht]; exact hP9, hD9, trivial⟩, hS.F ht⟩) hS.2.2 dX11_howLong_35
    · refine xz_i 0 er9 ?_
      refine lv_if_eq (tgt := 34) hx hb dX11_howLong_19 (by decide) (fun _ => ?_) (fun c => absurd (by decide) c)
      refine lv_iconst (v := (-1)) hx hb dX11_howLong_34 (by decide) ?_
      have hP9 := hP.sub (ws' := [((a 0), .inr (11, [.ref (ex 0), .ref (a 1), .ref (ex 1), .ref (ex 2), .ref (a 2), .ref (ex 3), .ref (ex 4), .ref (ex 5), .ref (ex 6), .ref (ex 7), .ref (ex 8), .ref (ex 9), .ref (ex 10), .ref (ex 11), .int (vi 2)])), ((a 1), .inr (7, [.int (vi 3), .int (vi 4), .ref (ex 12), .ref (ex 13), .ref (ex 14), .ref (ex 15), .ref (ex 16), .ref (ex 17), .ref (ex 18), .ref (ex 19), .ref (ex 20), .ref (ex 21)])), ((a 2), .inr (2, [.ref (a 1), .int (vi 5), .int (vi 6), .int (vi 7), .int (vi 8), .int (vi 9), .int (vi 10), .ref (ex 22), .ref (ex 23), .ref (ex 24), .ref (ex 25), .ref (ex 26), .ref (ex 27), .ref (ex 28), .ref (a 3)])), ((a 3), .inl (T 2, 200, .inr (.inl (fl 0))))]) [0, 3, 1, 2] rfl
      have hD9 := hD.sub (ws' := [((a 0), .inr (11, [.ref (ex 0), .ref (a 1), .ref (ex 1), .ref (ex 2), .ref (a 2), .ref (ex 3), .ref (ex 4), .ref (ex 5), .ref (ex 6), .ref (ex 7), .ref (ex 8), .ref (ex 9), .ref (ex 10), .ref (ex 11), .int (vi 2)])), ((a 1), .inr (7, [.int (vi 3), .int (vi 4), .ref (ex 12), .ref (ex 13), .ref (ex 14), .ref (ex 15), .ref (ex 16), .ref (ex 17), .ref (ex 18), .ref (ex 19), .ref (ex 20), .ref (ex 21)])), ((a 2), .inr (2, [.ref (a 1), .int (vi 5), .int (vi 6), .int (vi 7), .int (vi 8), .int (vi 9), .int (vi 10), .ref (ex 22), .ref (ex 23), .ref (ex 24), .ref (ex 25), .ref (ex 26), .ref (ex 27), .ref (ex 28), .ref (a 3)])), ((a 3), .inl (T 2, 200, .inr (.inl (fl 0))))]) [0, 3, 1, 2] (by decide +kernel) rfl
      rw [hQ]
      exact W.iret (v := (-1)) hx hb hr (fun t ht hW => ⟨⟨(-1), (-1), rfl, rfl, xf [], xh [], xv [], xl [], by rw [ht]; exact hP9, hD9, trivial⟩, hS.F ht⟩) hS.2.2 dX11_howLong_35
  · refine xz_i 0 er9 ?_
    refine lv_if_eq (tgt := 34) hx hb dX11_howLong_8 (by decide) (fun _ => ?_) (fun c => absurd (by decide) c)
    refine lv_iconst (v := (-1)) hx hb dX11_howLong_34 (by decide) ?_
    have hP9 := hP.sub (ws' := [((a 0), .inr (11, [.ref (ex 0), .ref (a 1), .ref (ex 1), .ref (ex 2), .ref (a 2), .ref (ex 3), .ref (ex 4), .ref (ex 5), .ref (ex 6), .ref (ex 7), .ref (ex 8), .ref (ex 9), .ref (ex 10), .ref (ex 11), .int (vi 2)])), ((a 1), .inr (7, [.int (vi 3), .int (vi 4), .ref (ex 12), .ref (ex 13), .ref (ex 14), .ref (ex 15), .ref (ex 16), .ref (ex 17), .ref (ex 18), .ref (ex 19), .ref (ex 20), .ref (ex 21)])), ((a 2), .inr (2, [.ref (a 1), .int (vi 5), .int (vi 6), .int (vi 7), .int (vi 8), .int (vi 9), .int (vi 10), .ref (ex 22), .ref (ex 23), .ref (ex 24), .ref (ex 25), .ref (ex 26), .ref (ex 27), .ref (ex 28), .ref (a 3)])), ((a 3), .inl (T 2, 200, .inr (.inl (fl 0))))]) [0, 3, 1, 2] rfl
    have hD9 := hD.sub (ws' := [((a 0), .inr (11, [.ref (ex 0), .ref (a 1), .ref (ex 1), .ref (ex 2), .ref (a 2), .ref (ex 3), .ref (ex 4), .ref (ex 5), .ref (ex 6), .ref (ex 7), .ref (ex 8), .ref (ex 9), .ref (ex 10), .ref (ex 11), .int (vi 2)])), ((a 1), .inr (7, [.int (vi 3), .int (vi 4), .ref (ex 12), .ref (ex 13), .ref (ex 14), .ref (ex 15), .ref (ex 16), .ref (ex 17), .ref (ex 18), .ref (ex 19), .ref (ex 20), .ref (ex 21)])), ((a 2), .inr (2, [.ref (a 1), .int (vi 5), .int (vi 6), .int (vi 7), .int (vi 8), .int (vi 9), .int (vi 10), .ref (ex 22), .ref (ex 23), .ref (ex 24), .ref (ex 25), .ref (ex 26), .ref (ex 27), .ref (ex 28), .ref (a 3)])), ((a 3), .inl (T 2, 200, .inr (.inl (fl 0))))]) [0, 3, 1, 2] (by decide +kernel) rfl
    rw [hQ]
    exact W.iret (v := (-1)) hx hb hr (fun t ht hW => ⟨⟨(-1), (-1), rfl, rfl, xf [], xh [], xv [], xl [], by rw [ht]; exact hP9, hD9, trivial⟩, hS.F ht⟩) hS.2.2 dX11_howLong_35
abbrev pre_X10_point (T : Nat → ClassId) (a ex : Nat → Nat) (fi : Nat → Nat → Int32) (fl : Nat → Nat → Int64) (vi : Nat → Int32) (vl : Nat → Int64) : va_W := [((a 0), .inr (10, [.ref (a 1), .ref (a 4), .ref (a 2), .ref (ex 0), .int (vi 0)])), ((a 1), .inr (7, [.int (vi 1), .int (vi 2), .ref (ex 1), .ref (ex 2), .ref (ex 3), .ref (ex 4), .ref (ex 5), .ref (ex 6), .ref (ex 7), .ref (a 3), .ref (ex 8), .ref (ex 9)])), ((a 2), .inl (T 1, 9, .inl (fi 0))), ((a 3), .inl (T 1, 9, .inl (fi 1))), ((a 4), .inr (2, [.ref (a 1), .int (vi 3), .int (vi 4), .int (vi 5), .int (vi 6), .int (vi 7), .int (vi 8), .ref (a 6), .ref (ex 10), .ref (ex 11), .ref (a 5), .ref (ex 12), .ref (ex 13), .ref (ex 14), .ref (ex 15)])), ((a 5), .inl (T 1, 9, .inl (fi 2))), ((a 6), .inl (T 1, 9, .inl (fi 3)))]
set_option maxHeartbeats 8000000 in
set_option maxRecDepth 100000 in
theorem c_X10_point (l : Launch) (D : va_G) (T : Nat → ClassId) (a ex : Nat → Nat) (fi : Nat → Nat → Int32) (fl : Nat → Nat → Int64) (vi : Nat → Int32) (vl : Nat → Int64) (sz : Nat) (hp0 : 0 ≤ (vi 1).toInt ∧ (vi 1).toInt ≤ 9) (hp1 : 0 ≤ (vi 2).toInt ∧ (vi 2).toInt ≤ 9) (hp2 : rg (fi 0) 0 9 (-1) 8) (hp3 : 0 ≤ (vi 3).toInt ∧ (vi 3).toInt ≤ 200) (hp4 : 0 ≤ (vi 8).toInt ∧ (vi 8).toInt ≤ 9) (hp5 : rg (fi 2) 0 9 (-1) 8) (hp6 : rg (fi 3) 0 9 (-1) 8) : Met l yX10_point (xw yX10_point cX10_point 4 (some .boolean)) ({ frames := 2, cells := 0, slots := 0, locals := 50 }) (xP D T [.ref (a 0)] sz (pre_X10_point T a ex fi fl vi vl)) (va_Qi (fun r u => r = u) (xC D (va_A (pre_X10_point T a ex fi fl vi vl) sz) (fun fj fm vj vm => [((a 0), .inr (10, [.ref (a 1), .ref (a 4), .ref (a 2), .ref (ex 0), .int (vi 0)])), ((a 1), .inr (7, [.int (vi 1), .int (vi 2), .ref (ex 1), .ref (ex 2), .ref (ex 3), .ref (ex 4), .ref (ex 5), .ref (ex 6), .ref (ex 7), .ref (a 3), .ref (ex 8), .ref (ex 9)])), ((a 2), .inl (T 1, 9, .inl (fj 0))), ((a 3), .inl (T 1, 9, .inl (fi 1))), ((a 4), .inr (2, [.ref (a 1), .int (vi 3), .int (vi 4), .int (vi 5), .int (vi 6), .int (vi 7), .int (vi 8), .ref (a 6), .ref (ex 10), .ref (ex 11), .ref (a 5), .ref (ex 12), .ref (ex 13), .ref (ex 14), .ref (ex 15)])), ((a 5), .inl (T 1, 9, .inl (fi 2))), ((a 6), .inl (T 1, 9, .inl (fi 3)))]) (fun (r : Int32) (fj : Nat → Nat → Int32) (fm : Nat → Nat → Int64) (vj : Nat → Int32) (vm : Nat → Int64) => ((r = 1 ∧ (True)) ∨ (r = 0 ∧ (True))) ∧ rg (fj 0) 0 9 (-1) 8 ∧ True)) (va_A (pre_X10_point T a ex fi fl vi vl) sz)) 0 0 (va_A (pre_X10_point T a ex fi fl vi vl) sz) := by
  refine xofW (cc := cX10_point) (maxL := 4) (ret := (some .boolean)) (by decide) rfl ?_
  intro p e s m args below meth c s₁ R Q hR hQ B hml hv
  obtain ⟨rfl, hsz, hP, hK, hD0⟩ := hv
  have hx := B.exec
  have hb := B.bytes
  have hr := B.returns
  have hts := atoms_spec (ws := xw yX10_point cX10_point 4 (some .boolean)) B.pre
  have htg : ∀ w ∈ xg, w.before _ s = true := fun w h => hts w (List.mem_cons_of_mem _ h)
  have hown : s.vm.findClass RX10 = some m.cls := findClass_of_methodNamed B.named
  have hlocks := B.notSynchronized
  subst hsz
  have hD := hD0.self (sz := s.heap.size)
  generalize hAe : va_A (pre_X10_point T a ex fi fl vi vl) s.heap.size = A at hD hQ
  have hA : ∀ q : Nat, s.heap.size ≤ q → A q := fun q h => by rw [← hAe]; exact Or.inr h
  have hS : va_S A s.heap s.heap [] := va_S.rf
  replace hP : va_P D vwCl [((a 0), .inr (10, [.ref (a 1), .ref (a 4), .ref (a 2), .ref (ex 0), .int (vi 0)])), ((a 1), .inr (7, [.int (vi 1), .int (vi 2), .ref (ex 1), .ref (ex 2), .ref (ex 3), .ref (ex 4), .ref (ex 5), .ref (ex 6), .ref (ex 7), .ref (a 3), .ref (ex 8), .ref (ex 9)])), ((a 2), .inl (T 1, 9, .inl (fi 0))), ((a 3), .inl (T 1, 9, .inl (fi 1))), ((a 4), .inr (2, [.ref (a 1), .int (vi 3), .int (vi 4), .int (vi 5), .int (vi 6), .int (vi 7), .int (vi 8), .ref (a 6), .ref (ex 10), .ref (ex 11), .ref (a 5), .ref (ex 12), .ref (ex 13), .ref (ex 14), .ref (ex 15)])), ((a 5), .inl (T 1, 9, .inl (fi 2))), ((a 6), .inl (T 1, 9, .inl (fi 3)))] s.heap := hP
  replace hD : va_D A [((a 0), .inr (10, [.ref (a 1), .ref (a 4), .ref (a 2), .ref (ex 0), .int (vi 0)])), ((a 1), .inr (7, [.int (vi 1), .int (vi 2), .ref (ex 1), .ref (ex 2), .ref (ex 3), .ref (ex 4), .ref (ex 5), .ref (ex 6), .ref (ex 7), .ref (a 3), .ref (ex 8), .ref (ex 9)])), ((a 2), .inl (T 1, 9, .inl (fi 0))), ((a 3), .inl (T 1, 9, .inl (fi 1))), ((a 4), .inr (2, [.ref (a 1), .int (vi 3), .int (vi 4), .int (vi 5), .int (vi 6), .int (vi 7), .int (vi 8), .ref (a 6), .ref (ex 10), .ref (ex 11), .ref (a 5), .ref (ex 12), .ref (ex 13), .ref (ex 14), .ref (ex 15)])), ((a 5), .inl (T 1, 9, .inl (fi 2))), ((a 6), .inl (T 1, 9, .inl (fi 3)))] := hD
  have hl := lv_entry ([.ref (a 0)]) (n := 4) (Nat.le_of_ble_eq_true rfl)
  rw [lg_entry_eq]
  generalize (lg_sl ([.ref (a 0)]) ++ List.replicate (4 - (lg_sl ([.ref (a 0)])).length) Slot.unset).toArray = ls at hl ⊢
  replace hl : lv_has ls 4 [(0, .ref (a 0))] := hl
  refine lv_iconst (v := 0) hx hb dX10_point_0 (by decide) ?_
  refine lv_istore_n (lv' := [(1, .int 0), (0, .ref (a 0))]) hx hb dX10_point_1 rfl hl (by decide) rfl (fun ls hl => ?_)
  refine lv_iconst (v := 0) hx hb dX10_point_2 (by decide) ?_
  refine lv_istore_n (lv' := [(2, .int 0), (1, .int 0), (0, .ref (a 0))]) hx hb dX10_point_3 rfl hl (by decide) rfl (fun ls hl => ?_)
  have lp : ∀ (kn : Nat) (w2 : Int32) (w1 : Int32) (wf : Nat → Int32) (H : Heap) (locs : List Loc) (ls : Array Slot), (0 ≤ w2.toInt) → (rg wf 0 9 (-1) 8) → (2147483648 - w2.toInt).toNat = kn → va_P D vwCl [((a 0), .inr (10, [.ref (a 1), .ref (a 4), .ref (a 2), .ref (ex 0), .int (vi 0)])), ((a 1), .inr (7, [.int (vi 1), .int (vi 2), .ref (ex 1), .ref (ex 2), .ref (ex 3), .ref (ex 4), .ref (ex 5), .ref (ex 6), .ref (ex 7), .ref (a 3), .ref (ex 8), .ref (ex 9)])), ((a 2), .inl (T 1, 9, .inl wf)), ((a 3), .inl (T 1, 9, .inl (fi 1))), ((a 4), .inr (2, [.ref (a 1), .int (vi 3), .int (vi 4), .int (vi 5), .int (vi 6), .int (vi 7), .int (vi 8), .ref (a 6), .ref (ex 10), .ref (ex 11), .ref (a 5), .ref (ex 12), .ref (ex 13), .ref (ex 14), .ref (ex 15)])), ((a 5), .inl (T 1, 9, .inl (fi 2))), ((a 6), .inl (T 1, 9, .inl (fi 3)))] H → va_D A [((a 0), .inr (10, [.ref (a 1), .ref (a 4), .ref (a 2), .ref (ex 0), .int (vi 0)])), ((a 1), .inr (7, [.int (vi 1), .int (vi 2), .ref (ex 1), .ref (ex 2), .ref (ex 3), .ref (ex 4), .ref (ex 5), .ref (ex 6), .ref (ex 7), .ref (a 3), .ref (ex 8), .ref (ex 9)])), ((a 2), .inl (T 1, 9, .inl wf)), ((a 3), .inl (T 1, 9, .inl (fi 1))), ((a 4), .inr (2, [.ref (a 1), .int (vi 3), .int (vi 4), .int (vi 5), .int (vi 6), .int (vi 7), .int (vi 8), .ref (a 6), .ref (ex 10), .ref (ex 11), .ref (a 5), .ref (ex 12), .ref (ex 13), .ref (ex 14), .ref (ex 15)])), ((a 5), .inl (T 1, 9, .inl (fi 2))), ((a 6), .inl (T 1, 9, .inl (fi 3)))] → va_S A s.heap H locs → lv_has ls 4 [(2, .int w2), (1, .int w1), (0, .ref (a 0))] → W p l e R s m ([.ref (a 0)] : List Value).toArray below meth c H locs 0 0 Q (F0 m 4 ls []) := by
    intro kn
    induction kn using Nat.strongRecOn with
    | _ kn ih =>
      intro w2 w1 wf H locs ls hi hi_1 hm hP hD hS hl
      refine lv_iload_n hx hb dX10_point_4 rfl (lv_at hl 0 rfl) ?_
      refine lv_aload_n hx hb dX10_point_5 rfl (lv_at hl 2 rfl) ?_
      refine va_get (D := D) (ci := 10) (v := .ref (a 1)) (C := RX10) (T := TX10) (N := 5) hx hb htg inX10 hown hK.1 hP 0 rfl rfl 0 (by decide) (htg _ kw_416) (fun _ h9 => h9) rfl dX10_point_6 ?_
      refine va_getN (D := D) (ci := 7) (v := .int (vi 2)) (C := RX7) (T := TX7) (N := 12) hx hb htg inX7 hown hK.1 hP 1 rfl rfl 1 (by decide) (va_Nw.use rfl (hK.2.1 _ kn_165)) (fun _ h9 => h9) rfl dX10_point_9 ?_
      refine lv_icmp_ge (tgt := 117) hx hb dX10_point_12 (by decide) (fun c12 => ?_) (fun c12 => ?_)
      · have c12 := Int32.le_iff_toInt_le.mp c12
        have rc12 := xrng w2; have qc12 := xrng (vi 2)
        refine lv_iconst (v := 1) hx hb dX10_point_117 (by decide) ?_
        have hP9 := hP.sub (ws' := [((a 0), .inr (10, [.ref (a 1), .ref (a 4), .ref (a 2), .ref (ex 0), .int (vi 0)])), ((a 1), .inr (7, [.int (vi 1), .int (vi 2), .ref (ex 1), .ref (ex 2), .ref (ex 3), .ref (ex 4), .ref (ex 5), .ref (ex 6), .ref (ex 7), .ref (a 3), .ref (ex 8), .ref (ex 9)])), ((a 2), .inl (T 1, 9, .inl wf)), ((a 3), .inl (T 1, 9, .inl (fi 1))), ((a 4), .inr (2, [.ref (a 1), .int (vi 3), .int (vi 4), .int (vi 5), .int (vi 6), .int (vi 7), .int (vi 8), .ref (a 6), .ref (ex 10), .ref (ex 11), .ref (a 5), .ref (ex 12), .ref (ex 13), .ref (ex 14), .ref (ex 15)])), ((a 5), .inl (T 1, 9, .inl (fi 2))), ((a 6), .inl (T 1, 9, .inl (fi 3)))]) [0, 1, 2, 3, 4, 5, 6] rfl
        have hD9 := hD.sub (ws' := [((a 0), .inr (10, [.ref (a 1), .ref (a 4), .ref (a 2), .ref (ex 0), .int (vi 0)])), ((a 1), .inr (7, [.int (vi 1), .int (vi 2), .ref (ex 1), .ref (ex 2), .ref (ex 3), .ref (ex 4), .ref (ex 5), .ref (ex 6), .ref (ex 7), .ref (a 3), .ref (ex 8), .ref (ex 9)])), ((a 2), .inl (T 1, 9, .inl wf)), ((a 3), .inl (T 1, 9, .inl (fi 1))), ((a 4), .inr (2, [.ref (a 1), .int (vi 3), .int (vi 4), .int (vi 5), .int (vi 6), .int (vi 7), .int (vi 8), .ref (a 6), .ref (ex 10), .ref (ex 11), .ref (a 5), .ref (ex 12), .ref (ex 13), .ref (ex 14), .ref (ex 15)])), ((a 5), .inl (T 1, 9, .inl (fi 2))), ((a 6), .inl (T 1, 9, .inl (fi 3)))]) [0, 1, 2, 3, 4, 5, 6] (by decide +kernel) rfl
        rw [hQ]
        exact W.zret (v := 1) hx hb hr rfl (fun t ht hW => ⟨⟨1, 1, rfl, rfl, xf [wf], xh [], xv [], xl [], by rw [ht]; exact hP9, hD9, ⟨(Or.inl ⟨rfl, by show True; first | trivial | omega | assumption⟩), (show rg wf 0 9 (-1) 8 from hi_1), trivial⟩⟩, hS.F ht⟩) hS.2.2 dX10_point_118
      · have c12 := (mt Int32.le_iff_toInt_le.mpr c12)
        have rc12 := xrng w2; have qc12 := xrng (vi 2)
        refine lv_aload_n hx hb dX10_point_15 rfl (lv_at hl 2 rfl) ?_
        refine va_get (D := D) (ci := 10) (v := .ref (a 2)) (C := RX10) (T := TX10) (N := 5) hx hb htg inX10 hown hK.1 hP 0 rfl rfl 2 (by decide) (htg _ kw_418) (fun _ h9 => h9) rfl dX10_point_16 ?_
        refine lv_iload_n hx hb dX10_point_19 rfl (lv_at hl 0 rfl) ?_
        refine lv_iconst (v := (-1)) hx hb dX10_point_20 (by decide) ?_
        refine va_iast hx hb hK.1 hP hD hS 2 1 rfl rfl (vp_in_iff.mpr (by omega)) dX10_point_21 (fun H locs hP hD hS => ?_)
        obtain ⟨f21, ef21, hP, hD⟩ : ∃ f7 : Nat → Int32, f7 = upd wf w2.toNatClampNeg ((-1) : Int32) ∧ va_P D vwCl [((a 0), .inr (10, [.ref (a 1), .ref (a 4), .ref (a 2), .ref (ex 0), .int (vi 0)])), ((a 1), .inr (7, [.int (vi 1), .int (vi 2), .ref (ex 1), .ref (ex 2), .ref (ex 3), .ref (ex 4), .ref (ex 5), .ref (ex 6), .ref (ex 7), .ref (a 3), .ref (ex 8), .ref (ex 9)])), ((a 2), .inl (T 1, 9, .inl f7)), ((a 3), .inl (T 1, 9, .inl (fi 1))), ((a 4), .inr (2, [.ref (a 1), .int (vi 3), .int (vi 4), .int (vi 5), .int (vi 6), .int (vi 7), .int (vi 8), .ref (a 6), .ref (ex 10), .ref (ex 11), .ref (a 5), .ref (ex 12), .ref (ex 13), .ref (ex 14), .ref (ex 15)])), ((a 5), .inl (T 1, 9, .inl (fi 2))), ((a 6), .inl (T 1, 9, .inl (fi 3)))] H ∧ va_D A [((a 0), .inr (10, [.ref (a 1), .ref (a 4), .ref (a 2), .ref (ex 0), .int (vi 0)])), ((a 1), .inr (7, [.int (vi 1), .int (vi 2), .ref (ex 1), .ref (ex 2), .ref (ex 3), .ref (ex 4), .ref (ex 5), .ref (ex 6), .ref (ex 7), .ref (a 3), .ref (ex 8), .ref (ex 9)])), ((a 2), .inl (T 1, 9, .inl f7)), ((a 3), .inl (T 1, 9, .inl (fi 1))), ((a 4), .inr (2, [.ref (a 1), .int (vi 3), .int (vi 4), .int (vi 5), .int (vi 6), .int (vi 7), .int (vi 8), .ref (a 6), .ref (ex 10), .ref (ex 11), .ref (a 5), .ref (ex 12), .ref (ex 13), .ref (ex 14), .ref (ex 15)])), ((a 5), .inl (T 1, 9, .inl (fi 2))), ((a 6), .inl (T 1, 9, .inl (fi 3)))] := ⟨_, rfl, hP, hD⟩
        have hr21 : rg f21 0 9 (-1) 8 := by rw [ef21]; exact rg_upd hi_1 (by decide)
        refine lv_aload_n hx hb dX10_point_22 rfl (lv_at hl 2 rfl) ?_
        refine va_get (D := D) (ci := 10) (v := .ref (a 1)) (C := RX10) (T := TX10) (N := 5) hx hb htg inX10 hown hK.1 hP 0 rfl rfl 0 (by decide) (htg _ kw_416) (fun _ h9 => h9) rfl dX10_point_23 ?_
        refine va_getN (D := D) (ci := 7) (v := .ref (a 3)) (C := RX7) (T := TX7) (N := 12) hx hb htg inX7 hown hK.1 hP 1 rfl rfl 9 (by decide) (va_Nw.use rfl (hK.2.1 _ kn_187)) (fun _ h9 => h9) rfl dX10_point_26 ?_
        refine lv_iload_n hx hb dX10_point_29 rfl (lv_at hl 0 rfl) ?_
        refine va_iald hx hb hK.1 hP 3 1 rfl rfl (vp_in_iff.mpr (by omega)) dX10_point_30 ?_
        refine lv_istore_n (lv' := [(3, .int ((fi 1) w2.toNatClampNeg)), (2, .int w2), (1, .int w1), (0, .ref (a 0))]) hx hb dX10_point_31 rfl hl (by decide) rfl (fun ls hl => ?_)
        refine lv_aload_n hx hb dX10_point_32 rfl (lv_at hl 3 rfl) ?_
        refine va_get (D := D) (ci := 10) (v := .ref (a 4)) (C := RX10) (T := TX10) (N := 5) hx hb htg inX10 hown hK.1 hP 0 rfl rfl 1 (by decide) (htg _ kw_417) (fun _ h9 => h9) rfl dX10_point_33 ?_
        refine lv_iload_n hx hb dX10_point_36 rfl (lv_at hl 1 rfl) ?_
        have hPc := hP.sub (ws' := (pre_X2_isAlive T (xa [(a 4)]) (xa [(a 1), (a 6), (ex 10), (ex 11), (a 5), (ex 12), (ex 13), (ex 14), (ex 15)]) (xf []) (xh []) (xv [w2, (vi 3), (vi 4), (vi 5), (vi 6), (vi 7), (vi 8)]) (xl []))) [4] rfl
        have hDc := hD.sub (ws' := (pre_X2_isAlive T (xa [(a 4)]) (xa [(a 1), (a 6), (ex 10), (ex 11), (a 5), (ex 12), (ex 13), (ex 14), (ex 15)]) (xf []) (xh []) (xv [w2, (vi 3), (vi 4), (vi 5), (vi 6), (vi 7), (vi 8)]) (xl []))) [4] (by decide) rfl
        have hFc := va_free (wc := (pre_X2_isAlive T (xa [(a 4)]) (xa [(a 1), (a 6), (ex 10), (ex 11), (a 5), (ex 12), (ex 13), (ex 14), (ex 15)]) (xf []) (xh []) (xv [w2, (vi 3), (vi 4), (vi 5), (vi 6), (vi 7), (vi 8)]) (xl []))) hD hS hA [4] rfl
        refine va_calli (va_runVN (As := [.int w2]) (rest := []) ⟨hx, hb, hml, hown, htg⟩ (c_X2_isAlive l D T (xa [(a 4)]) (xa [(a 1), (a 6), (ex 10), (ex 11), (a 5), (ex 12), (ex 13), (ex 14), (ex 15)]) (xf []) (xh []) (xv [w2, (vi 3), (vi 4), (vi 5), (vi 6), (vi 7), (vi 8)]) (xl []) H.size (by show 0 ≤ (vi 3).toInt ∧ (vi 3).toInt ≤ 200; omega) (by show 0 ≤ (vi 8).toInt ∧ (vi 8).toInt ≤ 9; omega)) ⟨va_cnB 1 htg (xg_ok kw_796) rfl rfl rfl (hK.2.1 _ kn_988) (htg _ kw_9) (by decide +kernel) ⟨by rw [hR]; exact Nat.le_of_ble_eq_true rfl, by rw [hR]; exact Nat.le_of_ble_eq_true rfl⟩, htg _ kw_795, htg _ ks_45⟩ (xpreV hK hPc hDc (va_recv hK.1 hPc (ci := 2) (q0 := 0) rfl rfl)) rfl rfl hl.1 rfl (lv_room (Nat.le_of_ble_eq_true rfl)) dX10_point_37 ⟨by rw [hR]; exact Nat.le_of_ble_eq_true rfl, by rw [hR]; exact Nat.le_of_ble_eq_true rfl⟩) hS (fun q _ h => hFc q h) hFc (fun r9 u9 t H1 locs ht hvm hw hB hz1 hk1 hS => ?_)
        subst hw
        obtain ⟨fik, flk, vik, vlk, hP1, hD1, hG⟩ := hB
        rw [ht] at hP1
        obtain ⟨hP, hD⟩ := va_join (wr := [((a 0), .inr (10, [.ref (a 1), .ref (a 4), .ref (a 2), .ref (ex 0), .int (vi 0)])), ((a 1), .inr (7, [.int (vi 1), .int (vi 2), .ref (ex 1), .ref (ex 2), .ref (ex 3), .ref (ex 4), .ref (ex 5), .ref (ex 6), .ref (ex 7), .ref (a 3), .ref (ex 8), .ref (ex 9)])), ((a 2), .inl (T 1, 9, .inl f21)), ((a 3), .inl (T 1, 9, .inl (fi 1))), ((a 5), .inl (T 1, 9, .inl (fi 2))), ((a 6), .inl (T 1, 9, .inl (fi 3)))]) (w1 := [((a 4), .inr (2, [.ref (a 1), .int (vi 3), .int (vi 4), .int (vi 5), .int (vi 6), .int (vi 7), .int (vi 8), .ref (a 6), .ref (ex 10), .ref (ex 11), .ref (a 5), .ref (ex 12), .ref (ex 13), .ref (ex 14), .ref (ex 15)]))]) hP hD [4] [0, 1, 2, 3, 5, 6] rfl rfl (by decide) (by decide) hk1 hFc hP1 hD1
        obtain ⟨rk, er9⟩ : ∃ z, z = r9 := ⟨_, rfl⟩
        subst er9
        clear hPc hDc hFc hP1 hD1 hk1 hz1 hvm ht
        generalize H1 = H at hP hS ⊢
        replace hP : va_P D vwCl [((a 0), .inr (10, [.ref (a 1), .ref (a 4), .ref (a 2), .ref (ex 0), .int (vi 0)])), ((a 1), .inr (7, [.int (vi 1), .int (vi 2), .ref (ex 1), .ref (ex 2), .ref (ex 3), .ref (ex 4), .ref (ex 5), .ref (ex 6), .ref (ex 7), .ref (a 3), .ref (ex 8), .ref (ex 9)])), ((a 2), .inl (T 1, 9, .inl f21)), ((a 3), .inl (T 1, 9, .inl (fi 1))), ((a 5), .inl (T 1, 9, .inl (fi 2))), ((a 6), .inl (T 1, 9, .inl (fi 3))), ((a 4), .inr (2, [.ref (a 1), .int (vi 3), .int (vi 4), .int (vi 5), .int (vi 6), .int (vi 7), .int (vi 8), .ref (a 6), .ref (ex 10), .ref (ex 11), .ref (a 5), .ref (ex 12), .ref (ex 13), .ref (ex 14), .ref (ex 15)]))] H := hP
        replace hD : va_D A [((a 0), .inr (10, [.ref (a 1), .ref (a 4), .ref (a 2), .ref (ex 0), .int (vi 0)])), ((a 1), .inr (7, [.int (vi 1), .int (vi 2), .ref (ex 1), .ref (ex 2), .ref (ex 3), .ref (ex 4), .ref (ex 5), .ref (ex 6), .ref (ex 7), .ref (a 3), .ref (ex 8), .ref (ex 9)])), ((a 2), .inl (T 1, 9, .inl f21)), ((a 3), .inl (T 1, 9, .inl (fi 1))), ((a 5), .inl (T 1, 9, .inl (fi 2))), ((a 6), .inl (T 1, 9, .inl (fi 3))), ((a 4), .inr (2, [.ref (a 1), .int (vi 3), .int (vi 4), .int (vi 5), .int (vi 6), .int (vi 7), .int (vi 8), .ref (a 6), .ref (ex 10), .ref (ex 11), .ref (a 5), .ref (ex 12), .ref (ex 13), .ref (ex 14), .ref (ex 15)]))] := hD
        obtain ⟨gk_0, -⟩ := hG
        rcases (show (rk = 1 ∧ (True)) ∨ (rk = 0 ∧ (True)) from gk_0) with ⟨er9, gk_0⟩ | ⟨er9, gk_0⟩
        · refine xz_i 1 er9 ?_
          refine lv_if_eq (tgt := 111) hx hb dX10_point_40 (by decide) (fun c => absurd c (by decide)) (fun _ => ?_)
          refine lv_aload_n hx hb dX10_point_43 rfl (lv_at hl 3 rfl) ?_
          refine va_get (D := D) (ci := 10) (v := .ref (a 1)) (C := RX10) (T := TX10) (N := 5) hx hb htg inX10 hown hK.1 hP 0 rfl rfl 0 (by decide) (htg _ kw_416) (fun _ h9 => h9) rfl dX10_point_44 ?_
          refine lv_iload_n hx hb dX10_point_47 rfl (lv_at hl 0 rfl) ?_
          have hPc := hP.sub (ws' := (pre_X7_isName T (xa [(a 1)]) (xa [(ex 1), (ex 2), (ex 3), (ex 4), (ex 5), (ex 6), (ex 7), (a 3), (ex 8), (ex 9)]) (xf []) (xh []) (xv [((fi 1) w2.toNatClampNeg), (vi 1), (vi 2)]) (xl []))) [1] rfl
          have hDc := hD.sub (ws' := (pre_X7_isName T (xa [(a 1)]) (xa [(ex 1), (ex 2), (ex 3), (ex 4), (ex 5), (ex 6), (ex 7), (a 3), (ex 8), (ex 9)]) (xf []) (xh []) (xv [((fi 1) w2.toNatClampNeg), (vi 1), (vi 2)]) (xl []))) [1] (by decide) rfl
          have hFc := va_free (wc := (pre_X7_isName T (xa [(a 1)]) (xa [(ex 1), (ex 2), (ex 3), (ex 4), (ex 5), (ex 6), (ex 7), (a 3), (ex 8), (ex 9)]) (xf []) (xh []) (xv [((fi 1) w2.toNatClampNeg), (vi 1), (vi 2)]) (xl []))) hD hS hA [1] rfl
          refine va_calli (va_runVN (As := [.int ((fi 1) w2.toNatClampNeg)]) (rest := []) ⟨hx, hb, hml, hown, htg⟩ (c_X7_isName l D T (xa [(a 1)]) (xa [(ex 1), (ex 2), (ex 3), (ex 4), (ex 5), (ex 6), (ex 7), (a 3), (ex 8), (ex 9)]) (xf []) (xh []) (xv [((fi 1) w2.toNatClampNeg), (vi 1), (vi 2)]) (xl []) H.size (by show 0 ≤ (vi 1).toInt ∧ (vi 1).toInt ≤ 9; omega) (by show 0 ≤ (vi 2).toInt ∧ (vi 2).toInt ≤ 9; omega)) ⟨va_cnB 1 htg (xg_ok kw_683) rfl rfl rfl (hK.2.1 _ kn_989) (htg _ kw_7) (by decide +kernel) ⟨by rw [hR]; exact Nat.le_of_ble_eq_true rfl, by rw [hR]; exact Nat.le_of_ble_eq_true rfl⟩, htg _ kw_682, htg _ ks_29⟩ (xpreV hK hPc hDc (va_recv hK.1 hPc (ci := 7) (q0 := 0) rfl rfl)) rfl rfl hl.1 rfl (lv_room (Nat.le_of_ble_eq_true rfl)) dX10_point_48 ⟨by rw [hR]; exact Nat.le_of_ble_eq_true rfl, by rw [hR]; exact Nat.le_of_ble_eq_true rfl⟩) hS (fun q _ h => hFc q h) hFc (fun r9 u9 t H1 locs ht hvm hw hB hz1 hk1 hS => ?_)
          subst hw
          obtain ⟨fik_1, flk_1, vik_1, vlk_1, hP1, hD1, hG⟩ := hB
          rw [ht] at hP1
          obtain ⟨hP, hD⟩ := va_join (wr := [((a 0), .inr (10, [.ref (a 1), .ref (a 4), .ref (a 2), .ref (ex 0), .int (vi 0)])), ((a 2), .inl (T 1, 9, .inl f21)), ((a 3), .inl (T 1, 9, .inl (fi 1))), ((a 5), .inl (T 1, 9, .inl (fi 2))), ((a 6), .inl (T 1, 9, .inl (fi 3))), ((a 4), .inr (2, [.ref (a 1), .int (vi 3), .int (vi 4), .int (vi 5), .int (vi 6), .int (vi 7), .int (vi 8), .ref (a 6), .ref (ex 10), .ref (ex 11), .ref (a 5), .ref (ex 12), .ref (ex 13), .ref (ex 14), .ref (ex 15)]))]) (w1 := [((a 1), .inr (7, [.int (vi 1), .int (vi 2), .ref (ex 1), .ref (ex 2), .ref (ex 3), .ref (ex 4), .ref (ex 5), .ref (ex 6), .ref (ex 7), .ref (a 3), .ref (ex 8), .ref (ex 9)]))]) hP hD [1] [0, 2, 3, 4, 5, 6] rfl rfl (by decide) (by decide) hk1 hFc hP1 hD1
          obtain ⟨rk_1, er9⟩ : ∃ z, z = r9 := ⟨_, rfl⟩
          subst er9
          clear hPc hDc hFc hP1 hD1 hk1 hz1 hvm ht
          generalize H1 = H at hP hS ⊢
          replace hP : va_P D vwCl [((a 0), .inr (10, [.ref (a 1), .ref (a 4), .ref (a 2), .ref (ex 0), .int (vi 0)])), ((a 2), .inl (T 1, 9, .inl f21)), ((a 3), .inl (T 1, 9, .inl (fi 1))), ((a 5), .inl (T 1, 9, .inl (fi 2))), ((a 6), .inl (T 1, 9, .inl (fi 3))), ((a 4), .inr (2, [.ref (a 1), .int (vi 3), .int (vi 4), .int (vi 5), .int (vi 6), .int (vi 7), .int (vi 8), .ref (a 6), .ref (ex 10), .ref (ex 11), .ref (a 5), .ref (ex 12), .ref (ex 13), .ref (ex 14), .ref (ex 15)])), ((a 1), .inr (7, [.int (vi 1), .int (vi 2), .ref (ex 1), .ref (ex 2), .ref (ex 3), .ref (ex 4), .ref (ex 5), .ref (ex 6), .ref (ex 7), .ref (a 3), .ref (ex 8), .ref (ex 9)]))] H := hP
          replace hD : va_D A [((a 0), .inr (10, [.ref (a 1), .ref (a 4), .ref (a 2), .ref (ex 0), .int (vi 0)])), ((a 2), .inl (T 1, 9, .inl f21)), ((a 3), .inl (T 1, 9, .inl (fi 1))), ((a 5), .inl (T 1, 9, .inl (fi 2))), ((a 6), .inl (T 1, 9, .inl (fi 3))), ((a 4), .inr (2, [.ref (a 1), .int (vi 3), .int (vi 4), .int (vi 5), .int (vi 6), .int (vi 7), .int (vi 8), .ref (a 6), .ref (ex 10), .ref (ex 11), .ref (a 5), .ref (ex 12), .ref (ex 13), .ref (ex 14), .ref (ex 15)])), ((a 1), .inr (7, [.int (vi 1), .int (vi 2), .ref (ex 1), .ref (ex 2), .ref (ex 3), .ref (ex 4), .ref (ex 5), .ref (ex 6), .ref (ex 7), .ref (a 3), .ref (ex 8), .ref (ex 9)]))] := hD
          obtain ⟨gk_1_0, -⟩ := hG
          rcases (show (rk_1 = 1 ∧ (0 ≤ ((fi 1) w2.toNatClampNeg).toInt ∧ ((fi 1) w2.toNatClampNeg).toInt < (vi 1).toInt)) ∨ (rk_1 = 0 ∧ (¬ (0 ≤ ((fi 1) w2.toNatClampNeg).toInt ∧ ((fi 1) w2.toNatClampNeg).toInt < (vi 1).toInt))) from gk_1_0) with ⟨er9, gk_1_0⟩ | ⟨er9, gk_1_0⟩
          · refine xz_i 1 er9 ?_
            refine lv_if_eq (tgt := 111) hx hb dX10_point_51 (by decide) (fun c => absurd c (by decide)) (fun _ => ?_)
            refine lv_aload_n hx hb dX10_point_54 rfl (lv_at hl 3 rfl) ?_
            refine va_get (D := D) (ci := 10) (v := .ref (a 4)) (C := RX10) (T := TX10) (N := 5) hx hb htg inX10 hown hK.1 hP 0 rfl rfl 1 (by decide) (htg _ kw_417) (fun _ h9 => h9) rfl dX10_point_55 ?_
            refine va_getN (D := D) (ci := 2) (v := .ref (a 5)) (C := RX2) (T := TX2) (N := 15) hx hb htg inX2 hown hK.1 hP 5 rfl rfl 10 (by decide) (va_Nw.use rfl (hK.2.1 _ kn_268)) (fun _ h9 => h9) rfl dX10_point_58 ?_
            refine lv_iload_n hx hb dX10_point_61 rfl (lv_at hl 1 rfl) ?_
            refine va_iald hx hb hK.1 hP 3 1 rfl rfl (vp_in_iff.mpr (by omega)) dX10_point_62 ?_
            have hv := rg_at hp5 (i := w2) (by omega) (by omega)
            refine lv_iconst (v := (-1)) hx hb dX10_point_63 (by decide) ?_
            refine lv_icmp_eq (tgt := 88) hx hb dX10_point_64 (by decide) (fun c64 => ?_) (fun c64 => ?_)
            · have c64 := xeq (k := (-1)) (by decide) c64
              refine lv_iconst (v := 0) hx hb dX10_point_88 (by decide) ?_
              have hP9 := hP.sub (ws' := [((a 0), .inr (10, [.ref (a 1), .ref (a 4), .ref (a 2), .ref (ex 0), .int (vi 0)])), ((a 1), .inr (7, [.int (vi 1), .int (vi 2), .ref (ex 1), .ref (ex 2), .ref (ex 3), .ref (ex 4), .ref (ex 5), .ref (ex 6), .ref (ex 7), .ref (a 3), .ref (ex 8), .ref (ex 9)])), ((a 2), .inl (T 1, 9, .inl f21)), ((a 3), .inl (T 1, 9, .inl (fi 1))), ((a 4), .inr (2, [.ref (a 1), .int (vi 3), .int (vi 4), .int (vi 5), .int (vi 6), .int (vi 7), .int (vi 8), .ref (a 6), .ref (ex 10), .ref (ex 11), .ref (a 5), .ref (ex 12), .ref (ex 13), .ref (ex 14), .ref (ex 15)])), ((a 5), .inl (T 1, 9, .inl (fi 2))), ((a 6), .inl (T 1, 9, .inl (fi 3)))]) [0, 6, 1, 2, 5, 3, 4] rfl
              have hD9 := hD.sub (ws' := [((a 0), .inr (10, [.ref (a 1), .ref (a 4), .ref (a 2), .ref (ex 0), .int (vi 0)])), ((a 1), .inr (7, [.int (vi 1), .int (vi 2), .ref (ex 1), .ref (ex 2), .ref (ex 3), .ref (ex 4), .ref (ex 5), .ref (ex 6), .ref (ex 7), .ref (a 3), .ref (ex 8), .ref (ex 9)])), ((a 2), .inl (T 1, 9, .inl f21)), ((a 3), .inl (T 1, 9, .inl (fi 1))), ((a 4), .inr (2, [.ref (a 1), .int (vi 3), .int (vi 4), .int (vi 5), .int (vi 6), .int (vi 7), .int (vi 8), .ref (a 6), .ref (ex 10), .ref (ex 11), .ref (a 5), .ref (ex 12), .ref (ex 13), .ref (ex 14), .ref (ex 15)])), ((a 5), .inl (T 1, 9, .inl (fi 2))), ((a 6), .inl (T 1, 9, .inl (fi 3)))]) [0, 6, 1, 2, 5, 3, 4] (by decide +kernel) rfl
              rw [hQ]
              exact W.zret (v := 0) hx hb hr rfl (fun t ht hW => ⟨⟨0, 0, rfl, rfl, xf [f21], xh [], xv [], xl [], by rw [ht]; exact hP9, hD9, ⟨(Or.inr ⟨rfl, by show True; first | trivial | omega | assumption⟩), (show rg f21 0 9 (-1) 8 from hr21), trivial⟩⟩, hS.F ht⟩) hS.2.2 dX10_point_89
            · have c64 := xne (k := (-1)) (by decide) c64
              refine lv_aload_n hx hb dX10_point_67 rfl (lv_at hl 3 rfl) ?_
              refine va_get (D := D) (ci := 10) (v := .ref (a 4)) (C := RX10) (T := TX10) (N := 5) hx hb htg inX10 hown hK.1 hP 0 rfl rfl 1 (by decide) (htg _ kw_417) (fun _ h9 => h9) rfl dX10_point_68 ?_
              refine va_getN (D := D) (ci := 2) (v := .ref (a 6)) (C := RX2) (T := TX2) (N := 15) hx hb htg inX2 hown hK.1 hP 5 rfl rfl 7 (by decide) (va_Nw.use rfl (hK.2.1 _ kn_262)) (fun _ h9 => h9) rfl dX10_point_71 ?_
              refine lv_iload_n hx hb dX10_point_74 rfl (lv_at hl 0 rfl) ?_
              refine va_iald hx hb hK.1 hP 4 1 rfl rfl (vp_in_iff.mpr (by omega)) dX10_point_75 ?_
              have hv_1 := rg_at hp6 (i := ((fi 1) w2.toNatClampNeg)) (by omega) (by omega)
              refine lv_iconst (v := (-1)) hx hb dX10_point_76 (by decide) ?_
              refine lv_icmp_eq (tgt := 88) hx hb dX10_point_77 (by decide) (fun c77 => ?_) (fun c77 => ?_)
              · have c77 := xeq (k := (-1)) (by decide) c77
                refine lv_iconst (v := 0) hx hb dX10_point_88 (by decide) ?_
                have hP9 := hP.sub (ws' := [((a 0), .inr (10, [.ref (a 1), .ref (a 4), .ref (a 2), .ref (ex 0), .int (vi 0)])), ((a 1), .inr (7, [.int (vi 1), .int (vi 2), .ref (ex 1), .ref (ex 2), .ref (ex 3), .ref (ex 4), .ref (ex 5), .ref (ex 6), .ref (ex 7), .ref (a 3), .ref (ex 8), .ref (ex 9)])), ((a 2), .inl (T 1, 9, .inl f21)), ((a 3), .inl (T 1, 9, .inl (fi 1))), ((a 4), .inr (2, [.ref (a 1), .int (vi 3), .int (vi 4), .int (vi 5), .int (vi 6), .int (vi 7), .int (vi 8), .ref (a 6), .ref (ex 10), .ref (ex 11), .ref (a 5), .ref (ex 12), .ref (ex 13), .ref (ex 14), .ref (ex 15)])), ((a 5), .inl (T 1, 9, .inl (fi 2))), ((a 6), .inl (T 1, 9, .inl (fi 3)))]) [0, 6, 1, 2, 5, 3, 4] rfl
                have hD9 := hD.sub (ws' := [((a 0), .inr (10, [.ref (a 1), .ref (a 4), .ref (a 2), .ref (ex 0), .int (vi 0)])), ((a 1), .inr (7, [.int (vi 1), .int (vi 2), .ref (ex 1), .ref (ex 2), .ref (ex 3), .ref (ex 4), .ref (ex 5), .ref (ex 6), .ref (ex 7), .ref (a 3), .ref (ex 8), .ref (ex 9)])), ((a 2), .inl (T 1, 9, .inl f21)), ((a 3), .inl (T 1, 9, .inl (fi 1))), ((a 4), .inr (2, [.ref (a 1), .int (vi 3), .int (vi 4), .int (vi 5), .int (vi 6), .int (vi 7), .int (vi 8), .ref (a 6), .ref (ex 10), .ref (ex 11), .ref (a 5), .ref (ex 12), .ref (ex 13), .ref (ex 14), .ref (ex 15)])), ((a 5), .inl (T 1, 9, .inl (fi 2))), ((a 6), .inl (T 1, 9, .inl (fi 3)))]) [0, 6, 1, 2, 5, 3, 4] (by decide +kernel) rfl
                rw [hQ]
                exact W.zret (v := 0) hx hb hr rfl (fun t ht hW => ⟨⟨0, 0, rfl, rfl, xf [f21], xh [], xv [], xl [], by rw [ht]; exact hP9, hD9, ⟨(Or.inr ⟨rfl, by show True; first | trivial | omega | assumption⟩), (show rg f21 0 9 (-1) 8 from hr21), trivial⟩⟩, hS.F ht⟩) hS.2.2 dX10_point_89
              · have c77 := xne (k := (-1)) (by decide) c77
                refine lv_iload_n hx hb dX10_point_80 rfl (lv_at hl 2 rfl) ?_
                refine lv_iload_n hx hb dX10_point_81 rfl (lv_at hl 0 rfl) ?_
                have hPc := hP.sub (ws' := (pre_X11_hasBit T (xa []) (xa []) (xf []) (xh []) (xv [w1, ((fi 1) w2.toNatClampNeg)]) (xl []))) [] rfl
                have hDc := hD.sub (ws' := (pre_X11_hasBit T (xa []) (xa []) (xf []) (xh []) (xv [w1, ((fi 1) w2.toNatClampNeg)]) (xl []))) [] (by decide) rfl
                have hFc := va_free (wc := (pre_X11_hasBit T (xa []) (xa []) (xf []) (xh []) (xv [w1, ((fi 1) w2.toNatClampNeg)]) (xl []))) hD hS hA [] rfl
                refine va_calli (va_runSN (As := [.int w1, .int ((fi 1) w2.toNatClampNeg)]) (rest := []) ⟨hx, hb, hml, hown, htg⟩ (c_X11_hasBit l D T (xa []) (xa []) (xf []) (xh []) (xv [w1, ((fi 1) w2.toNatClampNeg)]) (xl []) H.size) ⟨va_cnB 2 htg (xg_ok kw_758) rfl rfl rfl (hK.2.1 _ kn_990) (htg _ kw_1) (by decide +kernel) ⟨by rw [hR]; exact Nat.le_of_ble_eq_true rfl, by rw [hR]; exact Nat.le_of_ble_eq_true rfl⟩, htg _ kw_757, trivial⟩ (xpreS hK hPc hDc) rfl rfl hl.1 rfl (lv_room (Nat.le_of_ble_eq_true rfl)) dX10_point_82 ⟨by rw [hR]; exact Nat.le_of_ble_eq_true rfl, by rw [hR]; exact Nat.le_of_ble_eq_true rfl⟩) hS (fun q _ h => hFc q h) hFc (fun r9 u9 t H1 locs ht hvm hw hB hz1 hk1 hS => ?_)
                subst hw
                obtain ⟨fik_2, flk_2, vik_2, vlk_2, hP1, hD1, hG⟩ := hB
                rw [ht] at hP1
                obtain ⟨hP, hD⟩ := va_join (wr := [((a 0), .inr (10, [.ref (a 1), .ref (a 4), .ref (a 2), .ref (ex 0), .int (vi 0)])), ((a 2), .inl (T 1, 9, .inl f21)), ((a 3), .inl (T 1, 9, .inl (fi 1))), ((a 5), .inl (T 1, 9, .inl (fi 2))), ((a 6), .inl (T 1, 9, .inl (fi 3))), ((a 4), .inr (2, [.ref (a 1), .int (vi 3), .int (vi 4), .int (vi 5), .int (vi 6), .int (vi 7), .int (vi 8), .ref (a 6), .ref (ex 10), .ref (ex 11), .ref (a 5), .ref (ex 12), .ref (ex 13), .ref (ex 14), .ref (ex 15)])), ((a 1), .inr (7, [.int (vi 1), .int (vi 2), .ref (ex 1), .ref (ex 2), .ref (ex 3), .ref (ex 4), .ref (ex 5), .ref (ex 6), .ref (ex 7), .ref (a 3), .ref (ex 8), .ref (ex 9)]))]) (w1 := []) hP hD [] [0, 1, 2, 3, 4, 5, 6] rfl rfl (by decide) (by decide) hk1 hFc hP1 hD1
                obtain ⟨rk_2, er9⟩ : ∃ z, z = r9 := ⟨_, rfl⟩
                subst er9
                clear hPc hDc hFc hP1 hD1 hk1 hz1 hvm ht
                generalize H1 = H at hP hS ⊢
                replace hP : va_P D vwCl [((a 0), .inr (10, [.ref (a 1), .ref (a 4), .ref (a 2), .ref (ex 0), .int (vi 0)])), ((a 2), .inl (T 1, 9, .inl f21)), ((a 3), .inl (T 1, 9, .inl (fi 1))), ((a 5), .inl (T 1, 9, .inl (fi 2))), ((a 6), .inl (T 1, 9, .inl (fi 3))), ((a 4), .inr (2, [.ref (a 1), .int (vi 3), .int (vi 4), .int (vi 5), .int (vi 6), .int (vi 7), .int (vi 8), .ref (a 6), .ref (ex 10), .ref (ex 11), .ref (a 5), .ref (ex 12), .ref (ex 13), .ref (ex 14), .ref (ex 15)])), ((a 1), .inr (7, [.int (vi 1), .int (vi 2), .ref (ex 1), .ref (ex 2), .ref (ex 3), .ref (ex 4), .ref (ex 5), .ref (ex 6), .ref (ex 7), .ref (a 3), .ref (ex 8), .ref (ex 9)]))] H := hP
                replace hD : va_D A [((a 0), .inr (10, [.ref (a 1), .ref (a 4), .ref (a 2), .ref (ex 0), .int (vi 0)])), ((a 2), .inl (T 1, 9, .inl f21)), ((a 3), .inl (T 1, 9, .inl (fi 1))), ((a 5), .inl (T 1, 9, .inl (fi 2))), ((a 6), .inl (T 1, 9, .inl (fi 3))), ((a 4), .inr (2, [.ref (a 1), .int (vi 3), .int (vi 4), .int (vi 5), .int (vi 6), .int (vi 7), .int (vi 8), .ref (a 6), .ref (ex 10), .ref (ex 11), .ref (a 5), .ref (ex 12), .ref (ex 13), .ref (ex 14), .ref (ex 15)])), ((a 1), .inr (7, [.int (vi 1), .int (vi 2), .ref (ex 1), .ref (ex 2), .ref (ex 3), .ref (ex 4), .ref (ex 5), .ref (ex 6), .ref (ex 7), .ref (a 3), .ref (ex 8), .ref (ex 9)]))] := hD
                obtain ⟨gk_2_0, -⟩ := hG
                rcases (show (rk_2 = 1 ∧ (True)) ∨ (rk_2 = 0 ∧ (True)) from gk_2_0) with ⟨er9, gk_2_0⟩ | ⟨er9, gk_2_0⟩
                · refine xz_i 1 er9 ?_
                  refine lv_if_eq (tgt := 90) hx hb dX10_point_85 (by decide) (fun c => absurd c (by decide)) (fun _ => ?_)
                  refine lv_iconst (v := 0) hx hb dX10_point_88 (by decide) ?_
                  have hP9 := hP.sub (ws' := [((a 0), .inr (10, [.ref (a 1), .ref (a 4), .ref (a 2), .ref (ex 0), .int (vi 0)])), ((a 1), .inr (7, [.int (vi 1), .int (vi 2), .ref (ex 1), .ref (ex 2), .ref (ex 3), .ref (ex 4), .ref (ex 5), .ref (ex 6), .ref (ex 7), .ref (a 3), .ref (ex 8), .ref (ex 9)])), ((a 2), .inl (T 1, 9, .inl f21)), ((a 3), .inl (T 1, 9, .inl (fi 1))), ((a 4), .inr (2, [.ref (a 1), .int (vi 3), .int (vi 4), .int (vi 5), .int (vi 6), .int (vi 7), .int (vi 8), .ref (a 6), .ref (ex 10), .ref (ex 11), .ref (a 5), .ref (ex 12), .ref (ex 13), .ref (ex 14), .ref (ex 15)])), ((a 5), .inl (T 1, 9, .inl (fi 2))), ((a 6), .inl (T 1, 9, .inl (fi 3)))]) [0, 6, 1, 2, 5, 3, 4] rfl
                  have hD9 := hD.sub (ws' := [((a 0), .inr (10, [.ref (a 1), .ref (a 4), .ref (a 2), .ref (ex 0), .int (vi 0)])), ((a 1), .inr (7, [.int (vi 1), .int (vi 2), .ref (ex 1), .ref (ex 2), .ref (ex 3), .ref (ex 4), .ref (ex 5), .ref (ex 6), .ref (ex 7), .ref (a 3), .ref (ex 8), .ref (ex 9)])), ((a 2), .inl (T 1, 9, .inl f21)), ((a 3), .inl (T 1, 9, .inl (fi 1))), ((a 4), .inr (2, [.ref (a 1), .int (vi 3), .int (vi 4), .int (vi 5), .int (vi 6), .int (vi 7), .int (vi 8), .ref (a 6), .ref (ex 10), .ref (ex 11), .ref (a 5), .ref (ex 12), .ref (ex 13), .ref (ex 14), .ref (ex 15)])), ((a 5), .inl (T 1, 9, .inl (fi 2))), ((a 6), .inl (T 1, 9, .inl (fi 3)))]) [0, 6, 1, 2, 5, 3, 4] (by decide +kernel) rfl
                  rw [hQ]
                  exact W.zret (v := 0) hx hb hr rfl (fun t ht hW => ⟨⟨0, 0, rfl, rfl, xf [f21], xh [], xv [], xl [], by rw [ht]; exact hP9, hD9, ⟨(Or.inr ⟨rfl, by show True; first | trivial | omega | assumption⟩), (show rg f21 0 9 (-1) 8 from hr21), trivial⟩⟩, hS.F ht⟩) hS.2.2 dX10_point_89
                · refine xz_i 0 er9 ?_
                  refine lv_if_eq (tgt := 90) hx hb dX10_point_85 (by decide) (fun _ => ?_) (fun c => absurd (by decide) c)
                  refine lv_iload_n hx hb dX10_point_90 rfl (lv_at hl 2 rfl) ?_
                  refine lv_iconst (v := 1) hx hb dX10_point_91 (by decide) ?_
                  refine lv_iload_n hx hb dX10_point_92 rfl (lv_at hl 0 rfl) ?_
                  refine lv_ishl hx hb dX10_point_93 ?_
                  refine lv_topi (fun z93 ez93 => ?_)
                  refine lv_ior hx hb dX10_point_94 ?_
                  refine lv_topi (fun z94 ez94 => ?_)
                  refine lv_istore_n (lv' := [(1, .int z94), (3, .int ((fi 1) w2.toNatClampNeg)), (2, .int w2), (0, .ref (a 0))]) hx hb dX10_point_95 rfl hl (by decide) rfl (fun ls hl => ?_)
                  refine lv_aload_n hx hb dX10_point_96 rfl (lv_at hl 3 rfl) ?_
                  refine va_get (D := D) (ci := 10) (v := .ref (a 2)) (C := RX10) (T := TX10) (N := 5) hx hb htg inX10 hown hK.1 hP 0 rfl rfl 2 (by decide) (htg _ kw_418) (fun _ h9 => h9) rfl dX10_point_97 ?_
                  refine lv_iload_n hx hb dX10_point_100 rfl (lv_at hl 2 rfl) ?_
                  refine lv_aload_n hx hb dX10_point_101 rfl (lv_at hl 3 rfl) ?_
                  refine va_get (D := D) (ci := 10) (v := .ref (a 4)) (C := RX10) (T := TX10) (N := 5) hx hb htg inX10 hown hK.1 hP 0 rfl rfl 1 (by decide) (htg _ kw_417) (fun _ h9 => h9) rfl dX10_point_102 ?_
                  refine va_getN (D := D) (ci := 2) (v := .ref (a 6)) (C := RX2) (T := TX2) (N := 15) hx hb htg inX2 hown hK.1 hP 5 rfl rfl 7 (by decide) (va_Nw.use rfl (hK.2.1 _ kn_262)) (fun _ h9 => h9) rfl dX10_point_105 ?_
                  refine lv_iload_n hx hb dX10_point_108 rfl (lv_at hl 1 rfl) ?_
                  refine va_iald hx hb hK.1 hP 4 1 rfl rfl (vp_in_iff.mpr (by omega)) dX10_point_109 ?_
                  refine va_iast hx hb hK.1 hP hD hS 1 1 rfl rfl (vp_in_iff.mpr (by omega)) dX10_point_110 (fun H locs hP hD hS => ?_)
                  obtain ⟨f110, ef110, hP, hD⟩ : ∃ f7 : Nat → Int32, f7 = upd f21 w2.toNatClampNeg (((fi 3) ((fi 1) w2.toNatClampNeg).toNatClampNeg) : Int32) ∧ va_P D vwCl [((a 0), .inr (10, [.ref (a 1), .ref (a 4), .ref (a 2), .ref (ex 0), .int (vi 0)])), ((a 2), .inl (T 1, 9, .inl f7)), ((a 3), .inl (T 1, 9, .inl (fi 1))), ((a 5), .inl (T 1, 9, .inl (fi 2))), ((a 6), .inl (T 1, 9, .inl (fi 3))), ((a 4), .inr (2, [.ref (a 1), .int (vi 3), .int (vi 4), .int (vi 5), .int (vi 6), .int (vi 7), .int (vi 8), .ref (a 6), .ref (ex 10), .ref (ex 11), .ref (a 5), .ref (ex 12), .ref (ex 13), .ref (ex 14), .ref (ex 15)])), ((a 1), .inr (7, [.int (vi 1), .int (vi 2), .ref (ex 1), .ref (ex 2), .ref (ex 3), .ref (ex 4), .ref (ex 5), .ref (ex 6), .ref (ex 7), .ref (a 3), .ref (ex 8), .ref (ex 9)]))] H ∧ va_D A [((a 0), .inr (10, [.ref (a 1), .ref (a 4), .ref (a 2), .ref (ex 0), .int (vi 0)])), ((a 2), .inl (T 1, 9, .inl f7)), ((a 3), .inl (T 1, 9, .inl (fi 1))), ((a 5), .inl (T 1, 9, .inl (fi 2))), ((a 6), .inl (T 1, 9, .inl (fi 3))), ((a 4), .inr (2, [.ref (a 1), .int (vi 3), .int (vi 4), .int (vi 5), .int (vi 6), .int (vi 7), .int (vi 8), .ref (a 6), .ref (ex 10), .ref (ex 11), .ref (a 5), .ref (ex 12), .ref (ex 13), .ref (ex 14), .ref (ex 15)])), ((a 1), .inr (7, [.int (vi 1), .int (vi 2), .ref (ex 1), .ref (ex 2), .ref (ex 3), .ref (ex 4), .ref (ex 5), .ref (ex 6), .ref (ex 7), .ref (a 3), .ref (ex 8), .ref (ex 9)]))] := ⟨_, rfl, hP, hD⟩
                  have hr110 : rg f110 0 9 (-1) 8 := by rw [ef110]; exact rg_upd hr21 (by omega)
                  obtain ⟨i111, ei111⟩ : ∃ z : Int32, w2 + Int32.ofInt 1 = z := ⟨_, rfl⟩
                  have ti111 : i111.toInt = w2.toInt + 1 := by rw [← ei111]; have h79 := xrng w2; exact xadd rfl (by decide) (by omega) (by omega)
                  refine lv_iinc (v := i111) (lv' := [(2, .int i111), (1, .int z94), (3, .int ((fi 1) w2.toNatClampNeg)), (0, .ref (a 0))]) hx hb dX10_point_111 hl (k := 2) rfl ei111 (by decide) rfl (fun ls hl => ?_)
                  refine lv_goto (tgt := 4) hx hb dX10_point_114 (by decide) ?_
                  exact ih _ (by omega) i111 z94 f110 _ _ _ (by show 0 ≤ i111.toInt; omega) (show rg f110 0 9 (-1) 8 from hr110) rfl (hP.sub [0, 6, 1, 2, 5, 3, 4] rfl) (hD.sub [0, 6, 1, 2, 5, 3, 4] (by decide) rfl) hS (lv_sub hl [0, 1, 3] rfl)
          · refine xz_i 0 er9 ?_
            refine lv_if_eq (tgt := 111) hx hb dX10_point_51 (by decide) (fun _ => ?_) (fun c => absurd (by decide) c)
            obtain ⟨i111_1, ei111_1⟩ : ∃ z : Int32, w2 + Int32.ofInt 1 = z := ⟨_, rfl⟩
            have ti111_1 : i111_1.toInt = w2.toInt + 1 := by rw [← ei111_1]; have h79 := xrng w2; exact xadd rfl (by decide) (by omega) (by omega)
            refine lv_iinc (v := i111_1) (lv' := [(2, .int i111_1), (3, .int ((fi 1) w2.toNatClampNeg)), (1, .int w1), (0, .ref (a 0))]) hx hb dX10_point_111 hl (k := 1) rfl ei111_1 (by decide) rfl (fun ls hl => ?_)
            refine lv_goto (tgt := 4) hx hb dX10_point_114 (by decide) ?_
            exact ih _ (by omega) i111_1 w1 f21 _ _ _ (by show 0 ≤ i111_1.toInt; omega) (show rg f21 0 9 (-1) 8 from hr21) rfl (hP.sub [0, 6, 1, 2, 5, 3, 4] rfl) (hD.sub [0, 6, 1, 2, 5, 3, 4] (by decide) rfl) hS (lv_sub hl [0, 2, 3] rfl)
        · refine xz_i 0 er9 ?_
          refine lv_if_eq (tgt := 111) hx hb dX10_point_40 (by decide) (fun _ => ?_) (fun c => absurd (by decide) c)
          obtain ⟨i111_2, ei111_2⟩ : ∃ z : Int32, w2 + Int32.ofInt 1 = z := ⟨_, rfl⟩
          have ti111_2 : i111_2.toInt = w2.toInt + 1 := by rw [← ei111_2]; have h79 := xrng w2; exact xadd rfl (by decide) (by omega) (by omega)
          refine lv_iinc (v := i111_2) (lv' := [(2, .int i111_2), (3, .int ((fi 1) w2.toNatClampNeg)), (1, .int w1), (0, .ref (a 0))]) hx hb dX10_point_111 hl (k := 1) rfl ei111_2 (by decide) rfl (fun ls hl => ?_)
          refine lv_goto (tgt := 4) hx hb dX10_point_114 (by decide) ?_
          exact ih _ (by omega) i111_2 w1 f21 _ _ _ (by show 0 ≤ i111_2.toInt; omega) (show rg f21 0 9 (-1) 8 from hr21) rfl (hP.sub [0, 1, 2, 3, 6, 4, 5] rfl) (hD.sub [0, 1, 2, 3, 6, 4, 5] (by decide) rfl) hS (lv_sub hl [0, 2, 3] rfl)
  exact lp _ (0 : Int32) (0 : Int32) (fi 0) _ _ _ (by show 0 ≤ (0 : Int32).toInt; have k9_0 : (0 : Int32).toInt = 0 := (by decide); omega) (show rg (fi 0) 0 9 (-1) 8 from hp2) rfl hP hD hS hl
abbrev pre_X10_pair (T : Nat → ClassId) (a ex : Nat → Nat) (fi : Nat → Nat → Int32) (fl : Nat → Nat → Int64) (vi : Nat → Int32) (vl : Nat → Int64) : va_W := [((a 0), .inr (10, [.ref (a 1), .ref (ex 0), .ref (a 2), .ref (a 3), .int (vi 0)])), ((a 1), .inr (7, [.int (vi 1), .int (vi 2), .ref (ex 1), .ref (ex 2), .ref (ex 3), .ref (ex 4), .ref (ex 5), .ref (ex 6), .ref (ex 7), .ref (ex 8), .ref (ex 9), .ref (ex 10)])), ((a 2), .inl (T 1, 9, .inl (fi 0))), ((a 3), .inl (T 1, 9, .inl (fi 1)))]
set_option maxHeartbeats 8000000 in
set_option maxRecDepth 100000 in
theorem c_X10_pair (l : Launch) (D : va_G) (T : Nat → ClassId) (a ex : Nat → Nat) (fi : Nat → Nat → Int32) (fl : Nat → Nat → Int64) (vi : Nat → Int32) (vl : Nat → Int64) (sz : Nat) (hp0 : 0 ≤ (vi 1).toInt ∧ (vi 1).toInt ≤ 9) (hp1 : 0 ≤ (vi 2).toInt ∧ (vi 2).toInt ≤ 9) (hp2 : rg (fi 0) 0 9 (-1) 8) : Met l yX10_pair (xw yX10_pair cX10_pair 3 none) ({ frames := 0, cells := 0, slots := 0, locals := 0 }) (xP D T [.ref (a 0)] sz (pre_X10_pair T a ex fi fl vi vl)) (va_Qv (fun _ : Int32 => True) (xC D (va_A (pre_X10_pair T a ex fi fl vi vl) sz) (fun fj fm vj vm => [((a 0), .inr (10, [.ref (a 1), .ref (ex 0), .ref (a 2), .ref (a 3), .int (vj 0)])), ((a 1), .inr (7, [.int (vi 1), .int (vi 2), .ref (ex 1), .ref (ex 2), .ref (ex 3), .ref (ex 4), .ref (ex 5), .ref (ex 6), .ref (ex 7), .ref (ex 8), .ref (ex 9), .ref (ex 10)])), ((a 2), .inl (T 1, 9, .inl (fi 0))), ((a 3), .inl (T 1, 9, .inl (fj 0)))]) (fun (r : Int32) (fj : Nat → Nat → Int32) (fm : Nat → Nat → Int64) (vj : Nat → Int32) (vm : Nat → Int64) => True)) (va_A (pre_X10_pair T a ex fi fl vi vl) sz)) 0 0 (va_A (pre_X10_pair T a ex fi fl vi vl) sz) := by
  refine xofW (cc := cX10_pair) (maxL := 3) (ret := none) (by decide) rfl ?_
  intro p e s m args below meth c s₁ R Q hR hQ B hml hv
  obtain ⟨rfl, hsz, hP, hK, hD0⟩ := hv
  have hx := B.exec
  have hb := B.bytes
  have hr := B.returns
  have hts := atoms_spec (ws := xw yX10_pair cX10_pair 3 none) B.pre
  have htg : ∀ w ∈ xg, w.before _ s = true := fun w h => hts w (List.mem_cons_of_mem _ h)
  have hown : s.vm.findClass RX10 = some m.cls := findClass_of_methodNamed B.named
  have hlocks := B.notSynchronized
  subst hsz
  have hD := hD0.self (sz := s.heap.size)
  generalize hAe : va_A (pre_X10_pair T a ex fi fl vi vl) s.heap.size = A at hD hQ
  have hA : ∀ q : Nat, s.heap.size ≤ q → A q := fun q h => by rw [← hAe]; exact Or.inr h
  have hS : va_S A s.heap s.heap [] := va_S.rf
  replace hP : va_P D vwCl [((a 0), .inr (10, [.ref (a 1), .ref (ex 0), .ref (a 2), .ref (a 3), .int (vi 0)])), ((a 1), .inr (7, [.int (vi 1), .int (vi 2), .ref (ex 1), .ref (ex 2), .ref (ex 3), .ref (ex 4), .ref (ex 5), .ref (ex 6), .ref (ex 7), .ref (ex 8), .ref (ex 9), .ref (ex 10)])), ((a 2), .inl (T 1, 9, .inl (fi 0))), ((a 3), .inl (T 1, 9, .inl (fi 1)))] s.heap := hP
  replace hD : va_D A [((a 0), .inr (10, [.ref (a 1), .ref (ex 0), .ref (a 2), .ref (a 3), .int (vi 0)])), ((a 1), .inr (7, [.int (vi 1), .int (vi 2), .ref (ex 1), .ref (ex 2), .ref (ex 3), .ref (ex 4), .ref (ex 5), .ref (ex 6), .ref (ex 7), .ref (ex 8), .ref (ex 9), .ref (ex 10)])), ((a 2), .inl (T 1, 9, .inl (fi 0))), ((a 3), .inl (T 1, 9, .inl (fi 1)))] := hD
  have hl := lv_entry ([.ref (a 0)]) (n := 3) (Nat.le_of_ble_eq_true rfl)
  rw [lg_entry_eq]
  generalize (lg_sl ([.ref (a 0)]) ++ List.replicate (3 - (lg_sl ([.ref (a 0)])).length) Slot.unset).toArray = ls at hl ⊢
  replace hl : lv_has ls 3 [(0, .ref (a 0))] := hl
  refine lv_aload_n hx hb dX10_pair_0 rfl (lv_at hl 0 rfl) ?_
  refine lv_iconst (v := 1) hx hb dX10_pair_1 (by decide) ?_
  refine va_put (D := D) (ci := 10) (v := .int 1) (ty := .boolean) (C := RX10) (T := TX10) (N := 5) hx hb htg inX10 tyX10 tyX10_ok nmX10 hown hK.1 hP hD hS 0 rfl rfl 4 (by decide) (htg _ kw_420) (fun _ h9 => h9) rfl (by decide +kernel) rfl rfl (Nat.le_of_ble_eq_true rfl) dX10_pair_2 (fun H locs hP hD hS => ?_)
  replace hP : va_P D vwCl [((a 0), .inr (10, [.ref (a 1), .ref (ex 0), .ref (a 2), .ref (a 3), .int 1])), ((a 1), .inr (7, [.int (vi 1), .int (vi 2), .ref (ex 1), .ref (ex 2), .ref (ex 3), .ref (ex 4), .ref (ex 5), .ref (ex 6), .ref (ex 7), .ref (ex 8), .ref (ex 9), .ref (ex 10)])), ((a 2), .inl (T 1, 9, .inl (fi 0))), ((a 3), .inl (T 1, 9, .inl (fi 1)))] H := hP
  replace hD : va_D A [((a 0), .inr (10, [.ref (a 1), .ref (ex 0), .ref (a 2), .ref (a 3), .int 1])), ((a 1), .inr (7, [.int (vi 1), .int (vi 2), .ref (ex 1), .ref (ex 2), .ref (ex 3), .ref (ex 4), .ref (ex 5), .ref (ex 6), .ref (ex 7), .ref (ex 8), .ref (ex 9), .ref (ex 10)])), ((a 2), .inl (T 1, 9, .inl (fi 0))), ((a 3), .inl (T 1, 9, .inl (fi 1)))] := hD
  refine lv_iconst (v := 0) hx hb dX10_pair_5 (by decide) ?_
  refine lv_istore_n (lv' := [(1, .int 0), (0, .ref (a 0))]) hx hb dX10_pair_6 rfl hl (by decide) rfl (fun ls hl => ?_)
  have lp : ∀ (kn : Nat) (w1 : Int32) (wf : Nat → Int32) (H : Heap) (locs : List Loc) (ls : Array Slot), (0 ≤ w1.toInt) → (2147483648 - w1.toInt).toNat = kn → va_P D vwCl [((a 0), .inr (10, [.ref (a 1), .ref (ex 0), .ref (a 2), .ref (a 3), .int 1])), ((a 1), .inr (7, [.int (vi 1), .int (vi 2), .ref (ex 1), .ref (ex 2), .ref (ex 3), .ref (ex 4), .ref (ex 5), .ref (ex 6), .ref (ex 7), .ref (ex 8), .ref (ex 9), .ref (ex 10)])), ((a 2), .inl (T 1, 9, .inl (fi 0))), ((a 3), .inl (T 1, 9, .inl wf))] H → va_D A [((a 0), .inr (10, [.ref (a 1), .ref (ex 0), .ref (a 2), .ref (a 3), .int 1])), ((a 1), .inr (7, [.int (vi 1), .int (vi 2), .ref (ex 1), .ref (ex 2), .ref (ex 3), .ref (ex 4), .ref (ex 5), .ref (ex 6), .ref (ex 7), .ref (ex 8), .ref (ex 9), .ref (ex 10)])), ((a 2), .inl (T 1, 9, .inl (fi 0))), ((a 3), .inl (T 1, 9, .inl wf))] → va_S A s.heap H locs → lv_has ls 3 [(1, .int w1), (0, .ref (a 0))] → W p l e R s m ([.ref (a 0)] : List Value).toArray below meth c H locs 0 0 Q (F0 m 7 ls []) := by
    intro kn
    induction kn using Nat.strongRecOn with
    | _ kn ih =>
      intro w1 wf H locs ls hi hm hP hD hS hl
      refine lv_iload_n hx hb dX10_pair_7 rfl (lv_at hl 0 rfl) ?_
      refine lv_bipush (v := 9) hx hb dX10_pair_8 (by decide) ?_
      refine lv_icmp_ge (tgt := 26) hx hb dX10_pair_10 (by decide) (fun c10 => ?_) (fun c10 => ?_)
      · have c10 := xge (k := 9) (by decide) c10
        refine lv_iconst (v := 0) hx hb dX10_pair_26 (by decide) ?_
        refine lv_istore_n (lv' := [(1, .int 0), (0, .ref (a 0))]) hx hb dX10_pair_27 rfl hl (by decide) rfl (fun ls hl => ?_)
        have lp_1 : ∀ (kn_1 : Nat) (w1_1 : Int32) (wf_1 : Nat → Int32) (H : Heap) (locs : List Loc) (ls : Array Slot), (0 ≤ w1_1.toInt) → (2147483648 - w1_1.toInt).toNat = kn_1 → va_P D vwCl [((a 0), .inr (10, [.ref (a 1), .ref (ex 0), .ref (a 2), .ref (a 3), .int 1])), ((a 1), .inr (7, [.int (vi 1), .int (vi 2), .ref (ex 1), .ref (ex 2), .ref (ex 3), .ref (ex 4), .ref (ex 5), .ref (ex 6), .ref (ex 7), .ref (ex 8), .ref (ex 9), .ref (ex 10)])), ((a 2), .inl (T 1, 9, .inl (fi 0))), ((a 3), .inl (T 1, 9, .inl wf_1))] H → va_D A [((a 0), .inr (10, [.ref (a 1), .ref (ex 0), .ref (a 2), .ref (a 3), .int 1])), ((a 1), .inr (7, [.int (vi 1), .int (vi 2), .ref (ex 1), .ref (ex 2), .ref (ex 3), .ref (ex 4), .ref (ex 5), .ref (ex 6), .ref (ex 7), .ref (ex 8), .ref (ex 9), .ref (ex 10)])), ((a 2), .inl (T 1, 9, .inl (fi 0))), ((a 3), .inl (T 1, 9, .inl wf_1))] → va_S A s.heap H locs → lv_has ls 3 [(1, .int w1_1), (0, .ref (a 0))] → W p l e R s m ([.ref (a 0)] : List Value).toArray below meth c H locs 0 0 Q (F0 m 28 ls []) := by
          intro kn_1
          induction kn_1 using Nat.strongRecOn with
          | _ kn_1 ih_1 =>
            intro w1_1 wf_1 H locs ls hi_1 hm_1 hP hD hS hl
            refine lv_iload_n hx hb dX10_pair_28 rfl (lv_at hl 0 rfl) ?_
            refine lv_aload_n hx hb dX10_pair_29 rfl (lv_at hl 1 rfl) ?_
            refine va_get (D := D) (ci := 10) (v := .ref (a 1)) (C := RX10) (T := TX10) (N := 5) hx hb htg inX10 hown hK.1 hP 0 rfl rfl 0 (by decide) (htg _ kw_416) (fun _ h9 => h9) rfl dX10_pair_30 ?_
            refine va_getN (D := D) (ci := 7) (v := .int (vi 2)) (C := RX7) (T := TX7) (N := 12) hx hb htg inX7 hown hK.1 hP 1 rfl rfl 1 (by decide) (va_Nw.use rfl (hK.2.1 _ kn_165)) (fun _ h9 => h9) rfl dX10_pair_33 ?_
            refine lv_icmp_ge (tgt := 76) hx hb dX10_pair_36 (by decide) (fun c36 => ?_) (fun c36 => ?_)
            · have c36 := Int32.le_iff_toInt_le.mp c36
              have rc36 := xrng w1_1; have qc36 := xrng (vi 2)
              have hP9 := hP.sub (ws' := [((a 0), .inr (10, [.ref (a 1), .ref (ex 0), .ref (a 2), .ref (a 3), .int 1])), ((a 1), .inr (7, [.int (vi 1), .int (vi 2), .ref (ex 1), .ref (ex 2), .ref (ex 3), .ref (ex 4), .ref (ex 5), .ref (ex 6), .ref (ex 7), .ref (ex 8), .ref (ex 9), .ref (ex 10)])), ((a 2), .inl (T 1, 9, .inl (fi 0))), ((a 3), .inl (T 1, 9, .inl wf_1))]) [0, 1, 2, 3] rfl
              have hD9 := hD.sub (ws' := [((a 0), .inr (10, [.ref (a 1), .ref (ex 0), .ref (a 2), .ref (a 3), .int 1])), ((a 1), .inr (7, [.int (vi 1), .int (vi 2), .ref (ex 1), .ref (ex 2), .ref (ex 3), .ref (ex 4), .ref (ex 5), .ref (ex 6), .ref (ex 7), .ref (ex 8), .ref (ex 9), .ref (ex 10)])), ((a 2), .inl (T 1, 9, .inl (fi 0))), ((a 3), .inl (T 1, 9, .inl wf_1))]) [0, 1, 2, 3] (by decide +kernel) rfl
              rw [hQ]
              exact W.vret hx hb hr (fun t ht hW => ⟨⟨(0 : Int32), rfl, trivial, xf [wf_1], xh [], xv [1], xl [], by rw [ht]; exact hP9, hD9, trivial⟩, hS.F ht⟩) hS.2.2 dX10_pair_76
            · have c36 := (mt Int32.le_iff_toInt_le.mpr c36)
              have rc36 := xrng w1_1; have qc36 := xrng (vi 2)
              refine lv_aload_n hx hb dX10_pair_39 rfl (lv_at hl 1 rfl) ?_
              refine va_get (D := D) (ci := 10) (v := .ref (a 2)) (C := RX10) (T := TX10) (N := 5) hx hb htg inX10 hown hK.1 hP 0 rfl rfl 2 (by decide) (htg _ kw_418) (fun _ h9 => h9) rfl dX10_pair_40 ?_
              refine lv_iload_n hx hb dX10_pair_43 rfl (lv_at hl 0 rfl) ?_
              refine va_iald hx hb hK.1 hP 2 1 rfl rfl (vp_in_iff.mpr (by omega)) dX10_pair_44 ?_
              have hv := rg_at hp2 (i := w1_1) (by omega) (by omega)
              refine lv_istore_n (lv' := [(2, .int ((fi 0) w1_1.toNatClampNeg)), (1, .int w1_1), (0, .ref (a 0))]) hx hb dX10_pair_45 rfl hl (by decide) rfl (fun ls hl => ?_)
              refine lv_iload_n hx hb dX10_pair_46 rfl (lv_at hl 0 rfl) ?_
              refine lv_iconst (v := (-1)) hx hb dX10_pair_47 (by decide) ?_
              refine lv_icmp_eq (tgt := 70) hx hb dX10_pair_48 (by decide) (fun c48 => ?_) (fun c48 => ?_)
              · have c48 := xeq (k := (-1)) (by decide) c48
                obtain ⟨i70, ei70⟩ : ∃ z : Int32, w1_1 + Int32.ofInt 1 = z := ⟨_, rfl⟩
                have ti70 : i70.toInt = w1_1.toInt + 1 := by rw [← ei70]; have h79 := xrng w1_1; exact xadd rfl (by decide) (by omega) (by omega)
                refine lv_iinc (v := i70) (lv' := [(1, .int i70), (2, .int ((fi 0) w1_1.toNatClampNeg)), (0, .ref (a 0))]) hx hb dX10_pair_70 hl (k := 1) rfl ei70 (by decide) rfl (fun ls hl => ?_)
                refine lv_goto (tgt := 28) hx hb dX10_pair_73 (by decide) ?_
                exact ih_1 _ (by omega) i70 wf_1 _ _ _ (by show 0 ≤ i70.toInt; omega) rfl (hP.sub [0, 1, 2, 3] rfl) (hD.sub [0, 1, 2, 3] (by decide) rfl) hS (lv_sub hl [0, 2] rfl)
              · have c48 := xne (k := (-1)) (by decide) c48
                refine lv_iload_n hx hb dX10_pair_51 rfl (lv_at hl 0 rfl) ?_
                refine lv_iload_n hx hb dX10_pair_52 rfl (lv_at hl 1 rfl) ?_
                refine lv_icmp_eq (tgt := 70) hx hb dX10_pair_53 (by decide) (fun c53 => ?_) (fun c53 => ?_)
                · have c53 := congrArg Int32.toInt c53
                  have rc53 := xrng ((fi 0) w1_1.toNatClampNeg); have qc53 := xrng w1_1
                  obtain ⟨i70_1, ei70_1⟩ : ∃ z : Int32, w1_1 + Int32.ofInt 1 = z := ⟨_, rfl⟩
                  have ti70_1 : i70_1.toInt = w1_1.toInt + 1 := by rw [← ei70_1]; have h79 := xrng w1_1; exact xadd rfl (by decide) (by omega) (by omega)
                  refine lv_iinc (v := i70_1) (lv' := [(1, .int i70_1), (2, .int ((fi 0) w1_1.toNatClampNeg)), (0, .ref (a 0))]) hx hb dX10_pair_70 hl (k := 1) rfl ei70_1 (by decide) rfl (fun ls hl => ?_)
                  refine lv_goto (tgt := 28) hx hb dX10_pair_73 (by decide) ?_
                  exact ih_1 _ (by omega) i70_1 wf_1 _ _ _ (by show 0 ≤ i70_1.toInt; omega) rfl (hP.sub [0, 1, 2, 3] rfl) (hD.sub [0, 1, 2, 3] (by decide) rfl) hS (lv_sub hl [0, 2] rfl)
                · have c53 := xne2 c53
                  have rc53 := xrng ((fi 0) w1_1.toNatClampNeg); have qc53 := xrng w1_1
                  refine lv_aload_n hx hb dX10_pair_56 rfl (lv_at hl 2 rfl) ?_
                  refine va_get (D := D) (ci := 10) (v := .ref (a 3)) (C := RX10) (T := TX10) (N := 5) hx hb htg inX10 hown hK.1 hP 0 rfl rfl 3 (by decide) (htg _ kw_419) (fun _ h9 => h9) rfl dX10_pair_57 ?_
                  refine lv_iload_n hx hb dX10_pair_60 rfl (lv_at hl 1 rfl) ?_
                  refine lv_iload_n hx hb dX10_pair_61 rfl (lv_at hl 0 rfl) ?_
                  refine va_iast hx hb hK.1 hP hD hS 3 1 rfl rfl (vp_in_iff.mpr (by omega)) dX10_pair_62 (fun H locs hP hD hS => ?_)
                  obtain ⟨f62, ef62, hP, hD⟩ : ∃ f7 : Nat → Int32, f7 = upd wf_1 w1_1.toNatClampNeg (((fi 0) w1_1.toNatClampNeg) : Int32) ∧ va_P D vwCl [((a 0), .inr (10, [.ref (a 1), .ref (ex 0), .ref (a 2), .ref (a 3), .int 1])), ((a 1), .inr (7, [.int (vi 1), .int (vi 2), .ref (ex 1), .ref (ex 2), .ref (ex 3), .ref (ex 4), .ref (ex 5), .ref (ex 6), .ref (ex 7), .ref (ex 8), .ref (ex 9), .ref (ex 10)])), ((a 2), .inl (T 1, 9, .inl (fi 0))), ((a 3), .inl (T 1, 9, .inl f7))] H ∧ va_D A [((a 0), .inr (10, [.ref (a 1), .ref (ex 0), .ref (a 2), .ref (a 3), .int 1])), ((a 1), .inr (7, [.int (vi 1), .int (vi 2), .ref (ex 1), .ref (ex 2), .ref (ex 3), .ref (ex 4), .ref (ex 5), .ref (ex 6), .ref (ex 7), .ref (ex 8), .ref (ex 9), .ref (ex 10)])), ((a 2), .inl (T 1, 9, .inl (fi 0))), ((a 3), .inl (T 1, 9, .inl f7))] := ⟨_, rfl, hP, hD⟩
                  refine lv_aload_n hx hb dX10_pair_63 rfl (lv_at hl 2 rfl) ?_
                  refine va_get (D := D) (ci := 10) (v := .ref (a 3)) (C := RX10) (T := TX10) (N := 5) hx hb htg inX10 hown hK.1 hP 0 rfl rfl 3 (by decide) (htg _ kw_419) (fun _ h9 => h9) rfl dX10_pair_64 ?_
                  refine lv_iload_n hx hb dX10_pair_67 rfl (lv_at hl 0 rfl) ?_
                  refine lv_iload_n hx hb dX10_pair_68 rfl (lv_at hl 1 rfl) ?_
                  refine va_iast hx hb hK.1 hP hD hS 3 1 rfl rfl (vp_in_iff.mpr (by omega)) dX10_pair_69 (fun H locs hP hD hS => ?_)
                  obtain ⟨f69, ef69, hP, hD⟩ : ∃ f7 : Nat → Int32, f7 = upd f62 ((fi 0) w1_1.toNatClampNeg).toNatClampNeg (w1_1 : Int32) ∧ va_P D vwCl [((a 0), .inr (10, [.ref (a 1), .ref (ex 0), .ref (a 2), .ref (a 3), .int 1])), ((a 1), .inr (7, [.int (vi 1), .int (vi 2), .ref (ex 1), .ref (ex 2), .ref (ex 3), .ref (ex 4), .ref (ex 5), .ref (ex 6), .ref (ex 7), .ref (ex 8), .ref (ex 9), .ref (ex 10)])), ((a 2), .inl (T 1, 9, .inl (fi 0))), ((a 3), .inl (T 1, 9, .inl f7))] H ∧ va_D A [((a 0), .inr (10, [.ref (a 1), .ref (ex 0), .ref (a 2), .ref (a 3), .int 1])), ((a 1), .inr (7, [.int (vi 1), .int (vi 2), .ref (ex 1), .ref (ex 2), .ref (ex 3), .ref (ex 4), .ref (ex 5), .ref (ex 6), .ref (ex 7), .ref (ex 8), .ref (ex 9), .ref (ex 10)])), ((a 2), .inl (T 1, 9, .inl (fi 0))), ((a 3), .inl (T 1, 9, .inl f7))] := ⟨_, rfl, hP, hD⟩
                  obtain ⟨i70_2, ei70_2⟩ : ∃ z : Int32, w1_1 + Int32.ofInt 1 = z := ⟨_, rfl⟩
                  have ti70_2 : i70_2.toInt = w1_1.toInt + 1 := by rw [← ei70_2]; have h79 := xrng w1_1; exact xadd rfl (by decide) (by omega) (by omega)
                  refine lv_iinc (v := i70_2) (lv' := [(1, .int i70_2), (2, .int ((fi 0) w1_1.toNatClampNeg)), (0, .ref (a 0))]) hx hb dX10_pair_70 hl (k := 1) rfl ei70_2 (by decide) rfl (fun ls hl => ?_)
                  refine lv_goto (tgt := 28) hx hb dX10_pair_73 (by decide) ?_
                  exact ih_1 _ (by omega) i70_2 f69 _ _ _ (by show 0 ≤ i70_2.toInt; omega) rfl (hP.sub [0, 1, 2, 3] rfl) (hD.sub [0, 1, 2, 3] (by decide) rfl) hS (lv_sub hl [0, 2] rfl)
        exact lp_1 _ (0 : Int32) wf _ _ _ (by show 0 ≤ (0 : Int32).toInt; have k9_0 : (0 : Int32).toInt = 0 := (by decide); omega) rfl hP hD hS hl
      · have c10 := xnge (k := 9) (by decide) c10
        refine lv_aload_n hx hb dX10_pair_13 rfl (lv_at hl 1 rfl) ?_
        refine va_get (D := D) (ci := 10) (v := .ref (a 3)) (C := RX10) (T := TX10) (N := 5) hx hb htg inX10 hown hK.1 hP 0 rfl rfl 3 (by decide) (htg _ kw_419) (fun _ h9 => h9) rfl dX10_pair_14 ?_
        refine lv_iload_n hx hb dX10_pair_17 rfl (lv_at hl 0 rfl) ?_
        refine lv_iconst (v := (-1)) hx hb dX10_pair_18 (by decide) ?_
        refine va_iast hx hb hK.1 hP hD hS 3 1 rfl rfl (vp_in_iff.mpr (by omega)) dX10_pair_19 (fun H locs hP hD hS => ?_)
        obtain ⟨f19, ef19, hP, hD⟩ : ∃ f7 : Nat → Int32, f7 = upd wf w1.toNatClampNeg ((-1) : Int32) ∧ va_P D vwCl [((a 0), .inr (10, [.ref (a 1), .ref (ex 0), .ref (a 2), .ref (a 3), .int 1])), ((a 1), .inr (7, [.int (vi 1), .int (vi 2), .ref (ex 1), .ref (ex 2), .ref (ex 3), .ref (ex 4), .ref (ex 5), .ref (ex 6), .ref (ex 7), .ref (ex 8), .ref (ex 9), .ref (ex 10)])), ((a 2), .inl (T 1, 9, .inl (fi 0))), ((a 3), .inl (T 1, 9, .inl f7))] H ∧ va_D A [((a 0), .inr (10, [.ref (a 1), .ref (ex 0), .ref (a 2), .ref (a 3), .int 1])), ((a 1), .inr (7, [.int (vi 1), .int (vi 2), .ref (ex 1), .ref (ex 2), .ref (ex 3), .ref (ex 4), .ref (ex 5), .ref (ex 6), .ref (ex 7), .ref (ex 8), .ref (ex 9), .ref (ex 10)])), ((a 2), .inl (T 1, 9, .inl (fi 0))), ((a 3), .inl (T 1, 9, .inl f7))] := ⟨_, rfl, hP, hD⟩
        obtain ⟨i20, ei20⟩ : ∃ z : Int32, w1 + Int32.ofInt 1 = z := ⟨_, rfl⟩
        have ti20 : i20.toInt = w1.toInt + 1 := by rw [← ei20]; have h79 := xrng w1; exact xadd rfl (by decide) (by omega) (by omega)
        refine lv_iinc (v := i20) (lv' := [(1, .int i20), (0, .ref (a 0))]) hx hb dX10_pair_20 hl (k := 0) rfl ei20 (by decide) rfl (fun ls hl => ?_)
        refine lv_goto (tgt := 7) hx hb dX10_pair_23 (by decide) ?_
        exact ih _ (by omega) i20 f19 _ _ _ (by show 0 ≤ i20.toInt; omega) rfl (hP.sub [0, 1, 2, 3] rfl) (hD.sub [0, 1, 2, 3] (by decide) rfl) hS (lv_sub hl [0, 1] rfl)
  exact lp _ (0 : Int32) (fi 1) _ _ _ (by show 0 ≤ (0 : Int32).toInt; have k9_0 : (0 : Int32).toInt = 0 := (by decide); omega) rfl hP hD hS hl
abbrev pre_X10_mondaysFor (T : Nat → ClassId) (a ex : Nat → Nat) (fi : Nat → Nat → Int32) (fl : Nat → Nat → Int64) (vi : Nat → Int32) (vl : Nat → Int64) : va_W := [((a 0), .inr (10, [.ref (ex 0), .ref (ex 1), .ref (a 1), .ref (ex 2), .int (vi 1)])), ((a 1), .inl (T 1, 9, .inl (fi 0)))]
set_option maxHeartbeats 8000000 in
set_option maxRecDepth 100000 in
theorem c_X10_mondaysFor (l : Launch) (D : va_G) (T : Nat → ClassId) (a ex : Nat → Nat) (fi : Nat → Nat → Int32) (fl : Nat → Nat → Int64) (vi : Nat → Int32) (vl : Nat → Int64) (sz : Nat) (hp0 : 0 ≤ (vi 0).toInt ∧ (vi 0).toInt ≤ 8) (hp1 : rg (fi 0) 0 9 (-1) 8) : Met l yX10_mondaysFor (xw yX10_mondaysFor cX10_mondaysFor 3 (some .int)) ({ frames := 0, cells := 0, slots := 0, locals := 0 }) (xP D T [.ref (a 0), .int (vi 0)] sz (pre_X10_mondaysFor T a ex fi fl vi vl)) (va_Qi (fun r u => r = u) (xC D (va_A (pre_X10_mondaysFor T a ex fi fl vi vl) sz) (fun fj fm vj vm => [((a 0), .inr (10, [.ref (ex 0), .ref (ex 1), .ref (a 1), .ref (ex 2), .int (vi 1)])), ((a 1), .inl (T 1, 9, .inl (fi 0)))]) (fun (r : Int32) (fj : Nat → Nat → Int32) (fm : Nat → Nat → Int64) (vj : Nat → Int32) (vm : Nat → Int64) => True)) (va_A (pre_X10_mondaysFor T a ex fi fl vi vl) sz)) 0 0 (va_A (pre_X10_mondaysFor T a ex fi fl vi vl) sz) := by
  refine xofW (cc := cX10_mondaysFor) (maxL := 3) (ret := (some .int)) (by decide) rfl ?_
  intro p e s m args below meth c s₁ R Q hR hQ B hml hv
  obtain ⟨rfl, hsz, hP, hK, hD0⟩ := hv
  have hx := B.exec
  have hb := B.bytes
  have hr := B.returns
  have hts := atoms_spec (ws := xw yX10_mondaysFor cX10_mondaysFor 3 (some .int)) B.pre
  have htg : ∀ w ∈ xg, w.before _ s = true := fun w h => hts w (List.mem_cons_of_mem _ h)
  have hown : s.vm.findClass RX10 = some m.cls := findClass_of_methodNamed B.named
  have hlocks := B.notSynchronized
  subst hsz
  have hD := hD0.self (sz := s.heap.size)
  generalize hAe : va_A (pre_X10_mondaysFor T a ex fi fl vi vl) s.heap.size = A at hD hQ
  have hA : ∀ q : Nat, s.heap.size ≤ q → A q := fun q h => by rw [← hAe]; exact Or.inr h
  have hS : va_S A s.heap s.heap [] := va_S.rf
  replace hP : va_P D vwCl [((a 0), .inr (10, [.ref (ex 0), .ref (ex 1), .ref (a 1), .ref (ex 2), .int (vi 1)])), ((a 1), .inl (T 1, 9, .inl (fi 0)))] s.heap := hP
  replace hD : va_D A [((a 0), .inr (10, [.ref (ex 0), .ref (ex 1), .ref (a 1), .ref (ex 2), .int (vi 1)])), ((a 1), .inl (T 1, 9, .inl (fi 0)))] := hD
  have hl := lv_entry ([.ref (a 0), .int (vi 0)]) (n := 3) (Nat.le_of_ble_eq_true rfl)
  rw [lg_entry_eq]
  generalize (lg_sl ([.ref (a 0), .int (vi 0)]) ++ List.replicate (3 - (lg_sl ([.ref (a 0), .int (vi 0)])).length) Slot.unset).toArray = ls at hl ⊢
  replace hl : lv_has ls 3 [(0, .ref (a 0)), (1, .int (vi 0))] := hl
  refine lv_aload_n hx hb dX10_mondaysFor_0 rfl (lv_at hl 0 rfl) ?_
  refine va_get (D := D) (ci := 10) (v := .ref (a 1)) (C := RX10) (T := TX10) (N := 5) hx hb htg inX10 hown hK.1 hP 0 rfl rfl 2 (by decide) (htg _ kw_418) (fun _ h9 => h9) rfl dX10_mondaysFor_1 ?_
  refine lv_iload_n hx hb dX10_mondaysFor_4 rfl (lv_at hl 1 rfl) ?_
  refine va_iald hx hb hK.1 hP 1 1 rfl rfl (vp_in_iff.mpr (by omega)) dX10_mondaysFor_5 ?_
  have hv := rg_at hp1 (i := (vi 0)) (by omega) (by omega)
  refine lv_istore_n (lv' := [(2, .int ((fi 0) (vi 0).toNatClampNeg)), (0, .ref (a 0)), (1, .int (vi 0))]) hx hb dX10_mondaysFor_6 rfl hl (by decide) rfl (fun ls hl => ?_)
  refine lv_iload_n hx hb dX10_mondaysFor_7 rfl (lv_at hl 0 rfl) ?_
  refine lv_iconst (v := (-1)) hx hb dX10_mondaysFor_8 (by decide) ?_
  refine lv_icmp_eq (tgt := 17) hx hb dX10_mondaysFor_9 (by decide) (fun c9 => ?_) (fun c9 => ?_)
  · have c9 := xeq (k := (-1)) (by decide) c9
    refine lv_iconst (v := 0) hx hb dX10_mondaysFor_17 (by decide) ?_
    have hP9 := hP.sub (ws' := [((a 0), .inr (10, [.ref (ex 0), .ref (ex 1), .ref (a 1), .ref (ex 2), .int (vi 1)])), ((a 1), .inl (T 1, 9, .inl (fi 0)))]) [0, 1] rfl
    have hD9 := hD.sub (ws' := [((a 0), .inr (10, [.ref (ex 0), .ref (ex 1), .ref (a 1), .ref (ex 2), .int (vi 1)])), ((a 1), .inl (T 1, 9, .inl (fi 0)))]) [0, 1] (by decide +kernel) rfl
    rw [hQ]
    exact W.iret (v := 0) hx hb hr (fun t ht hW => ⟨⟨0, 0, rfl, rfl, xf [], xh [], xv [], xl [], by rw [ht]; exact hP9, hD9, trivial⟩, hS.F ht⟩) hS.2.2 dX10_mondaysFor_18
  · have c9 := xne (k := (-1)) (by decide) c9
    refine lv_iload_n hx hb dX10_mondaysFor_12 rfl (lv_at hl 0 rfl) ?_
    refine lv_iload_n hx hb dX10_mondaysFor_13 rfl (lv_at hl 2 rfl) ?_
    refine lv_icmp_ne (tgt := 19) hx hb dX10_mondaysFor_14 (by decide) (fun c14 => ?_) (fun c14 => ?_)
    · have c14 := xne2 c14
      have rc14 := xrng ((fi 0) (vi 0).toNatClampNeg); have qc14 := xrng (vi 0)
      refine lv_aload_n hx hb dX10_mondaysFor_19 rfl (lv_at hl 1 rfl) ?_
      refine va_get (D := D) (ci := 10) (v := .ref (a 1)) (C := RX10) (T := TX10) (N := 5) hx hb htg inX10 hown hK.1 hP 0 rfl rfl 2 (by decide) (htg _ kw_418) (fun _ h9 => h9) rfl dX10_mondaysFor_20 ?_
      refine lv_iload_n hx hb dX10_mondaysFor_23 rfl (lv_at hl 0 rfl) ?_
      refine va_iald hx hb hK.1 hP 1 1 rfl rfl (vp_in_iff.mpr (by omega)) dX10_mondaysFor_24 ?_
      have hv_1 := rg_at hp1 (i := ((fi 0) (vi 0).toNatClampNeg)) (by omega) (by omega)
      refine lv_iconst (v := (-1)) hx hb dX10_mondaysFor_25 (by decide) ?_
      refine lv_icmp_eq (tgt := 39) hx hb dX10_mondaysFor_26 (by decide) (fun c26 => ?_) (fun c26 => ?_)
      · have c26 := xeq (k := (-1)) (by decide) c26
        refine lv_iconst (v := 1) hx hb dX10_mondaysFor_39 (by decide) ?_
        refine lv_goto (tgt := 44) hx hb dX10_mondaysFor_40 (by decide) ?_
        have hP9 := hP.sub (ws' := [((a 0), .inr (10, [.ref (ex 0), .ref (ex 1), .ref (a 1), .ref (ex 2), .int (vi 1)])), ((a 1), .inl (T 1, 9, .inl (fi 0)))]) [0, 1] rfl
        have hD9 := hD.sub (ws' := [((a 0), .inr (10, [.ref (ex 0), .ref (ex 1), .ref (a 1), .ref (ex 2), .int (vi 1)])), ((a 1), .inl (T 1, 9, .inl (fi 0)))]) [0, 1] (by decide +kernel) rfl
        rw [hQ]
        exact W.iret (v := 1) hx hb hr (fun t ht hW => ⟨⟨1, 1, rfl, rfl, xf [], xh [], xv [], xl [], by rw [ht]; exact hP9, hD9, trivial⟩, hS.F ht⟩) hS.2.2 dX10_mondaysFor_44
      · have c26 := xne (k := (-1)) (by decide) c26
        refine lv_aload_n hx hb dX10_mondaysFor_29 rfl (lv_at hl 1 rfl) ?_
        refine va_get (D := D) (ci := 10) (v := .ref (a 1)) (C := RX10) (T := TX10) (N := 5) hx hb htg inX10 hown hK.1 hP 0 rfl rfl 2 (by decide) (htg _ kw_418) (fun _ h9 => h9) rfl dX10_mondaysFor_30 ?_
        refine lv_iload_n hx hb dX10_mondaysFor_33 rfl (lv_at hl 0 rfl) ?_
        refine va_iald hx hb hK.1 hP 1 1 rfl rfl (vp_in_iff.mpr (by omega)) dX10_mondaysFor_34 ?_
        refine lv_iload_n hx hb dX10_mondaysFor_35 rfl (lv_at hl 2 rfl) ?_
        refine lv_icmp_ne (tgt := 43) hx hb dX10_mondaysFor_36 (by decide) (fun c36 => ?_) (fun c36 => ?_)
        · have c36 := xne2 c36
          have rc36 := xrng ((fi 0) ((fi 0) (vi 0).toNatClampNeg).toNatClampNeg); have qc36 := xrng (vi 0)
          refine lv_iconst (v := 2) hx hb dX10_mondaysFor_43 (by decide) ?_
          have hP9 := hP.sub (ws' := [((a 0), .inr (10, [.ref (ex 0), .ref (ex 1), .ref (a 1), .ref (ex 2), .int (vi 1)])), ((a 1), .inl (T 1, 9, .inl (fi 0)))]) [0, 1] rfl
          have hD9 := hD.sub (ws' := [((a 0), .inr (10, [.ref (ex 0), .ref (ex 1), .ref (a 1), .ref (ex 2), .int (vi 1)])), ((a 1), .inl (T 1, 9, .inl (fi 0)))]) [0, 1] (by decide +kernel) rfl
          rw [hQ]
          exact W.iret (v := 2) hx hb hr (fun t ht hW => ⟨⟨2, 2, rfl, rfl, xf [], xh [], xv [], xl [], by rw [ht]; exact hP9, hD9, trivial⟩, hS.F ht⟩) hS.2.2 dX10_mondaysFor_44
        · have c36 := congrArg Int32.toInt c36
          have rc36 := xrng ((fi 0) ((fi 0) (vi 0).toNatClampNeg).toNatClampNeg); have qc36 := xrng (vi 0)
          refine lv_iconst (v := 1) hx hb dX10_mondaysFor_39 (by decide) ?_
          refine lv_goto (tgt := 44) hx hb dX10_mondaysFor_40 (by decide) ?_
          have hP9 := hP.sub (ws' := [((a 0), .inr (10, [.ref (ex 0), .ref (ex 1), .ref (a 1), .ref (ex 2), .int (vi 1)])), ((a 1), .inl (T 1, 9, .inl (fi 0)))]) [0, 1] rfl
          have hD9 := hD.sub (ws' := [((a 0), .inr (10, [.ref (ex 0), .ref (ex 1), .ref (a 1), .ref (ex 2), .int (vi 1)])), ((a 1), .inl (T 1, 9, .inl (fi 0)))]) [0, 1] (by decide +kernel) rfl
          rw [hQ]
          exact W.iret (v := 1) hx hb hr (fun t ht hW => ⟨⟨1, 1, rfl, rfl, xf [], xh [], xv [], xl [], by rw [ht]; exact hP9, hD9, trivial⟩, hS.F ht⟩) hS.2.2 dX10_mondaysFor_44
    · have c14 := congrArg Int32.toInt c14
      have rc14 := xrng ((fi 0) (vi 0).toNatClampNeg); have qc14 := xrng (vi 0)
      refine lv_iconst (v := 0) hx hb dX10_mondaysFor_17 (by decide) ?_
      have hP9 := hP.sub (ws' := [((a 0), .inr (10, [.ref (ex 0), .ref (ex 1), .ref (a 1), .ref (ex 2), .int (vi 1)])), ((a 1), .inl (T 1, 9, .inl (fi 0)))]) [0, 1] rfl
      have hD9 := hD.sub (ws' := [((a 0), .inr (10, [.ref (ex 0), .ref (ex 1), .ref (a 1), .ref (ex 2), .int (vi 1)])), ((a 1), .inl (T 1, 9, .inl (fi 0)))]) [0, 1] (by decide +kernel) rfl
      rw [hQ]
      exact W.iret (v := 0) hx hb hr (fun t ht hW => ⟨⟨0, 0, rfl, rfl, xf [], xh [], xv [], xl [], by rw [ht]; exact hP9, hD9, trivial⟩, hS.F ht⟩) hS.2.2 dX10_mondaysFor_18
