abbrev pre_X5_isSo (T : Nat → ClassId) (a ex : Nat → Nat) (fi : Nat → Nat → Int32) (fl : Nat → Nat → Int64) (vi : Nat → Int32) (vl : Nat → Int64) : va_W := [((a 0), .inr (5, [.ref (ex 0), .ref (ex 1), .ref (a 1), .ref (ex 2), .ref (a 4), .ref (ex 3), .int (vi 2), .int (vi 3)])), ((a 1), .inl (T 1, 40, .inl (fi 0))), ((a 2), .inr (2, [.ref (a 5), .int (vi 4), .int (vi 5), .int (vi 6), .int (vi 7), .int (vi 8), .int (vi 9), .ref (ex 4), .ref (ex 5), .ref (ex 6), .ref (a 3), .ref (ex 7), .ref (ex 8), .ref (ex 9), .ref (ex 10)])), ((a 3), .inl (T 1, 9, .inl (fi 1))), ((a 4), .inl (T 1, 40, .inl (fi 2))), ((a 5), .inr (7, [.int (vi 10), .int (vi 11), .ref (ex 11), .ref (ex 12), .ref (ex 13), .ref (ex 14), .ref (ex 15), .ref (ex 16), .ref (ex 17), .ref (a 6), .ref (ex 18), .ref (ex 19)])), ((a 6), .inl (T 1, 9, .inl (fi 3)))]
set_option maxHeartbeats 8000000 in
set_option maxRecDepth 100000 in
theorem c_X5_isSo (l : Launch) (D : va_G) (T : Nat → ClassId) (a ex : Nat → Nat) (fi : Nat → Nat → Int32) (fl : Nat → Nat → Int64) (vi : Nat → Int32) (vl : Nat → Int64) (sz : Nat) (hp0 : 0 ≤ (vi 0).toInt ∧ (vi 0).toInt ≤ 39) (hp1 : 0 ≤ (vi 1).toInt ∧ (vi 1).toInt ≤ 8) (hp2 : 0 ≤ (vi 2).toInt ∧ (vi 2).toInt ≤ 40) (hp3 : 0 ≤ (vi 3).toInt ∧ (vi 3).toInt ≤ 20) (hp4 : 0 ≤ (vi 4).toInt ∧ (vi 4).toInt ≤ 200) (hp5 : 0 ≤ (vi 9).toInt ∧ (vi 9).toInt ≤ 9) (hp6 : rg (fi 1) 0 9 (-1) 8) (hp7 : 0 ≤ (vi 10).toInt ∧ (vi 10).toInt ≤ 9) (hp8 : 0 ≤ (vi 11).toInt ∧ (vi 11).toInt ≤ 9) : Met l yX5_isSo (xw yX5_isSo cX5_isSo 4 (some .boolean)) ({ frames := 3, cells := 0, slots := 0, locals := 75 }) (xP D T [.ref (a 0), .int (vi 0), .ref (a 2), .int (vi 1)] sz (pre_X5_isSo T a ex fi fl vi vl)) (va_Qi (fun r u => r = u) (xC D (va_A (pre_X5_isSo T a ex fi fl vi vl) sz) (fun fj fm vj vm => [((a 0), .inr (5, [.ref (ex 0), .ref (ex 1), .ref (a 1), .ref (ex 2), .ref (a 4), .ref (ex 3), .int (vi 2), .int (vi 3)])), ((a 1), .inl (T 1, 40, .inl (fi 0))), ((a 2), .inr (2, [.ref (a 5), .int (vi 4), .int (vi 5), .int (vi 6), .int (vi 7), .int (vi 8), .int (vi 9), .ref (ex 4), .ref (ex 5), .ref (ex 6), .ref (a 3), .ref (ex 7), .ref (ex 8), .ref (ex 9), .ref (ex 10)])), ((a 3), .inl (T 1, 9, .inl (fi 1))), ((a 4), .inl (T 1, 40, .inl (fi 2))), ((a 5), .inr (7, [.int (vi 10), .int (vi 11), .ref (ex 11), .ref (ex 12), .ref (ex 13), .ref (ex 14), .ref (ex 15), .ref (ex 16), .ref (ex 17), .ref (a 6), .ref (ex 18), .ref (ex 19)])), ((a 6), .inl (T 1, 9, .inl (fi 3)))]) (fun (r : Int32) (fj : Nat → Nat → Int32) (fm : Nat → Nat → Int64) (vj : Nat → Int32) (vm : Nat → Int64) => ((r = 1 ∧ (True)) ∨ (r = 0 ∧ (True))) ∧ True)) (va_A (pre_X5_isSo T a ex fi fl vi vl) sz)) 0 0 (va_A (pre_X5_isSo T a ex fi fl vi vl) sz) := by
  refine xofW (cc := cX5_isSo) (maxL := 4) (ret := (some .boolean)) (by decide) rfl ?_
  intro p e s m args below meth c s₁ R Q hR hQ B hml hv
  obtain ⟨rfl, hsz, hP, hK, hD0⟩ := hv
  have hx := B.exec
  have hb := B.bytes
  have hr := B.returns
  have hts := atoms_spec (ws := xw yX5_isSo cX5_isSo 4 (some .boolean)) B.pre
  have htg : ∀ w ∈ xg, w.before _ s = true := fun w h => hts w (List.mem_cons_of_mem _ h)
  have hown : s.vm.findClass RX5 = some m.cls := findClass_of_methodNamed B.named
  have hlocks := B.notSynchronized
  subst hsz
  have hD := hD0.self (sz := s.heap.size)
  generalize hAe : va_A (pre_X5_isSo T a ex fi fl vi vl) s.heap.size = A at hD hQ
  have hA : ∀ q : Nat, s.heap.size ≤ q → A q := fun q h => by rw [← hAe]; exact Or.inr h
  have hS : va_S A s.heap s.heap [] := va_S.rf
  replace hP : va_P D vwCl [((a 0), .inr (5, [.ref (ex 0), .ref (ex 1), .ref (a 1), .ref (ex 2), .ref (a 4), .ref (ex 3), .int (vi 2), .int (vi 3)])), ((a 1), .inl (T 1, 40, .inl (fi 0))), ((a 2), .inr (2, [.ref (a 5), .int (vi 4), .int (vi 5), .int (vi 6), .int (vi 7), .int (vi 8), .int (vi 9), .ref (ex 4), .ref (ex 5), .ref (ex 6), .ref (a 3), .ref (ex 7), .ref (ex 8), .ref (ex 9), .ref (ex 10)])), ((a 3), .inl (T 1, 9, .inl (fi 1))), ((a 4), .inl (T 1, 40, .inl (fi 2))), ((a 5), .inr (7, [.int (vi 10), .int (vi 11), .ref (ex 11), .ref (ex 12), .ref (ex 13), .ref (ex 14), .ref (ex 15), .ref (ex 16), .ref (ex 17), .ref (a 6), .ref (ex 18), .ref (ex 19)])), ((a 6), .inl (T 1, 9, .inl (fi 3)))] s.heap := hP
  replace hD : va_D A [((a 0), .inr (5, [.ref (ex 0), .ref (ex 1), .ref (a 1), .ref (ex 2), .ref (a 4), .ref (ex 3), .int (vi 2), .int (vi 3)])), ((a 1), .inl (T 1, 40, .inl (fi 0))), ((a 2), .inr (2, [.ref (a 5), .int (vi 4), .int (vi 5), .int (vi 6), .int (vi 7), .int (vi 8), .int (vi 9), .ref (ex 4), .ref (ex 5), .ref (ex 6), .ref (a 3), .ref (ex 7), .ref (ex 8), .ref (ex 9), .ref (ex 10)])), ((a 3), .inl (T 1, 9, .inl (fi 1))), ((a 4), .inl (T 1, 40, .inl (fi 2))), ((a 5), .inr (7, [.int (vi 10), .int (vi 11), .ref (ex 11), .ref (ex 12), .ref (ex 13), .ref (ex 14), .ref (ex 15), .ref (ex 16), .ref (ex 17), .ref (a 6), .ref (ex 18), .ref (ex 19)])), ((a 6), .inl (T 1, 9, .inl (fi 3)))] := hD
  have hl := lv_entry ([.ref (a 0), .int (vi 0), .ref (a 2), .int (vi 1)]) (n := 4) (Nat.le_of_ble_eq_true rfl)
  rw [lg_entry_eq]
  generalize (lg_sl ([.ref (a 0), .int (vi 0), .ref (a 2), .int (vi 1)]) ++ List.replicate (4 - (lg_sl ([.ref (a 0), .int (vi 0), .ref (a 2), .int (vi 1)])).length) Slot.unset).toArray = ls at hl ⊢
  replace hl : lv_has ls 4 [(0, .ref (a 0)), (1, .int (vi 0)), (2, .ref (a 2)), (3, .int (vi 1))] := hl
  refine lv_aload_n hx hb dX5_isSo_0 rfl (lv_at hl 0 rfl) ?_
  refine va_get (D := D) (ci := 5) (v := .ref (a 1)) (C := RX5) (T := TX5) (N := 8) hx hb htg inX5 hown hK.1 hP 0 rfl rfl 2 (by decide) (htg _ kw_386) (fun _ h9 => h9) rfl dX5_isSo_1 ?_
  refine lv_iload_n hx hb dX5_isSo_4 rfl (lv_at hl 1 rfl) ?_
  refine va_iald hx hb hK.1 hP 1 1 rfl rfl (vp_in_iff.mpr (by omega)) dX5_isSo_5 ?_
  rcases (show ((fi 0) (vi 0).toNatClampNeg).toInt = 3 ∨ ((fi 0) (vi 0).toNatClampNeg).toInt = 4 ∨ ((fi 0) (vi 0).toNatClampNeg).toInt = 5 ∨ ((fi 0) (vi 0).toNatClampNeg).toInt = 6 ∨ (((fi 0) (vi 0).toNatClampNeg).toInt < 3 ∨ 6 < ((fi 0) (vi 0).toNatClampNeg).toInt) by omega) with sw | sw | sw | sw | sw
  · refine lv_tableIn (off := 30) (tgt := 36) hx hb dX5_isSo_6 (by omega) (by omega) (by rw [sw]; decide) (by decide) ?_
    refine lv_aload_n hx hb dX5_isSo_36 rfl (lv_at hl 2 rfl) ?_
    refine lv_iload_n hx hb dX5_isSo_37 rfl (lv_at hl 3 rfl) ?_
    obtain ⟨hC9, hPc, hDc, hFc⟩ := xcut (wc := (pre_X2_isAlive T (xa [(a 2)]) (xa [(a 5), (ex 4), (ex 5), (ex 6), (a 3), (ex 7), (ex 8), (ex 9), (ex 10)]) (xf []) (xh []) (xv [(vi 1), (vi 4), (vi 5), (vi 6), (vi 7), (vi 8), (vi 9)]) (xl []))) hP hD hS hA [2] (by decide) rfl
    refine va_calli (va_runVN (As := [.int (vi 1)]) (rest := []) ⟨hx, hb, hml, hown, htg⟩ (c_X2_isAlive l D T (xa [(a 2)]) (xa [(a 5), (ex 4), (ex 5), (ex 6), (a 3), (ex 7), (ex 8), (ex 9), (ex 10)]) (xf []) (xh []) (xv [(vi 1), (vi 4), (vi 5), (vi 6), (vi 7), (vi 8), (vi 9)]) (xl []) s.heap.size hp4 hp5) ⟨va_cnB 1 htg (xg_ok kw_796) rfl rfl rfl (hK.2.1 _ kn_1263) (htg _ kw_9) (by decide +kernel) ⟨by rw [hR]; exact Nat.le_of_ble_eq_true rfl, by rw [hR]; exact Nat.le_of_ble_eq_true rfl⟩, htg _ kw_795, htg _ ks_45⟩ (xpreV hK hPc hDc (va_recv hK.1 hPc (ci := 2) (q0 := 0) rfl rfl)) rfl rfl hl.1 rfl (lv_room (Nat.le_of_ble_eq_true rfl)) dX5_isSo_38 ⟨by rw [hR]; exact Nat.le_of_ble_eq_true rfl, by rw [hR]; exact Nat.le_of_ble_eq_true rfl⟩) hS (fun q _ h => hFc q h) hFc (fun r9 u9 t H1 locs ht hvm hw hB hz1 hk1 hS => ?_)
    subst hw
    obtain ⟨fik, flk, vik, vlk, hP1, hD1, hG⟩ := hB
    rw [ht] at hP1
    obtain ⟨hP, hD⟩ := va_join (wr := [((a 0), .inr (5, [.ref (ex 0), .ref (ex 1), .ref (a 1), .ref (ex 2), .ref (a 4), .ref (ex 3), .int (vi 2), .int (vi 3)])), ((a 1), .inl (T 1, 40, .inl (fi 0))), ((a 3), .inl (T 1, 9, .inl (fi 1))), ((a 4), .inl (T 1, 40, .inl (fi 2))), ((a 5), .inr (7, [.int (vi 10), .int (vi 11), .ref (ex 11), .ref (ex 12), .ref (ex 13), .ref (ex 14), .ref (ex 15), .ref (ex 16), .ref (ex 17), .ref (a 6), .ref (ex 18), .ref (ex 19)])), ((a 6), .inl (T 1, 9, .inl (fi 3)))]) (w1 := [((a 2), .inr (2, [.ref (a 5), .int (vi 4), .int (vi 5), .int (vi 6), .int (vi 7), .int (vi 8), .int (vi 9), .ref (ex 4), .ref (ex 5), .ref (ex 6), .ref (a 3), .ref (ex 7), .ref (ex 8), .ref (ex 9), .ref (ex 10)]))]) hP hD [2] [0, 1, 3, 4, 5, 6] hC9 rfl (by decide) (by decide) hk1 hFc hP1 hD1
    obtain ⟨rk, er9⟩ : ∃ z, z = r9 := ⟨_, rfl⟩
    subst er9
    clear hPc hDc hFc hP1 hD1 hk1 hz1 hvm ht hC9
    generalize H1 = H at hP hS ⊢
    obtain ⟨hP, hD⟩ := (show xPD D A [((a 0), .inr (5, [.ref (ex 0), .ref (ex 1), .ref (a 1), .ref (ex 2), .ref (a 4), .ref (ex 3), .int (vi 2), .int (vi 3)])), ((a 1), .inl (T 1, 40, .inl (fi 0))), ((a 3), .inl (T 1, 9, .inl (fi 1))), ((a 4), .inl (T 1, 40, .inl (fi 2))), ((a 5), .inr (7, [.int (vi 10), .int (vi 11), .ref (ex 11), .ref (ex 12), .ref (ex 13), .ref (ex 14), .ref (ex 15), .ref (ex 16), .ref (ex 17), .ref (a 6), .ref (ex 18), .ref (ex 19)])), ((a 6), .inl (T 1, 9, .inl (fi 3))), ((a 2), .inr (2, [.ref (a 5), .int (vi 4), .int (vi 5), .int (vi 6), .int (vi 7), .int (vi 8), .int (vi 9), .ref (ex 4), .ref (ex 5), .ref (ex 6), .ref (a 3), .ref (ex 7), .ref (ex 8), .ref (ex 9), .ref (ex 10)]))] H from ⟨hP, hD⟩)
    obtain ⟨gk_0, -⟩ := hG
    rcases (show (rk = 1 ∧ (True)) ∨ (rk = 0 ∧ (True)) from gk_0) with ⟨er9, gk_0⟩ | ⟨er9, gk_0⟩
    · refine xz_i 1 er9 ?_
      have hP9 := hP.sub (ws' := [((a 0), .inr (5, [.ref (ex 0), .ref (ex 1), .ref (a 1), .ref (ex 2), .ref (a 4), .ref (ex 3), .int (vi 2), .int (vi 3)])), ((a 1), .inl (T 1, 40, .inl (fi 0))), ((a 2), .inr (2, [.ref (a 5), .int (vi 4), .int (vi 5), .int (vi 6), .int (vi 7), .int (vi 8), .int (vi 9), .ref (ex 4), .ref (ex 5), .ref (ex 6), .ref (a 3), .ref (ex 7), .ref (ex 8), .ref (ex 9), .ref (ex 10)])), ((a 3), .inl (T 1, 9, .inl (fi 1))), ((a 4), .inl (T 1, 40, .inl (fi 2))), ((a 5), .inr (7, [.int (vi 10), .int (vi 11), .ref (ex 11), .ref (ex 12), .ref (ex 13), .ref (ex 14), .ref (ex 15), .ref (ex 16), .ref (ex 17), .ref (a 6), .ref (ex 18), .ref (ex 19)])), ((a 6), .inl (T 1, 9, .inl (fi 3)))]) [0, 1, 6, 2, 3, 4, 5] rfl
      have hD9 := hD.sub (ws' := [((a 0), .inr (5, [.ref (ex 0), .ref (ex 1), .ref (a 1), .ref (ex 2), .ref (a 4), .ref (ex 3), .int (vi 2), .int (vi 3)])), ((a 1), .inl (T 1, 40, .inl (fi 0))), ((a 2), .inr (2, [.ref (a 5), .int (vi 4), .int (vi 5), .int (vi 6), .int (vi 7), .int (vi 8), .int (vi 9), .ref (ex 4), .ref (ex 5), .ref (ex 6), .ref (a 3), .ref (ex 7), .ref (ex 8), .ref (ex 9), .ref (ex 10)])), ((a 3), .inl (T 1, 9, .inl (fi 1))), ((a 4), .inl (T 1, 40, .inl (fi 2))), ((a 5), .inr (7, [.int (vi 10), .int (vi 11), .ref (ex 11), .ref (ex 12), .ref (ex 13), .ref (ex 14), .ref (ex 15), .ref (ex 16), .ref (ex 17), .ref (a 6), .ref (ex 18), .ref (ex 19)])), ((a 6), .inl (T 1, 9, .inl (fi 3)))]) [0, 1, 6, 2, 3, 4, 5] (by decide +kernel) rfl
      rw [hQ]
      exact W.zret (v := 1) hx hb hr rfl (fun t ht hW => ⟨⟨1, 1, rfl, rfl, xf [], xh [], xv [], xl [], by rw [ht]; exact hP9, hD9, ⟨(Or.inl ⟨rfl, by show True; first | trivial | omega | assumption⟩), trivial⟩⟩, hS.F ht⟩) hS.2.2 dX5_isSo_41
    · refine xz_i 0 er9 ?_
      have hP9 := hP.sub (ws' := [((a 0), .inr (5, [.ref (ex 0), .ref (ex 1), .ref (a 1), .ref (ex 2), .ref (a 4), .ref (ex 3), .int (vi 2), .int (vi 3)])), ((a 1), .inl (T 1, 40, .inl (fi 0))), ((a 2), .inr (2, [.ref (a 5), .int (vi 4), .int (vi 5), .int (vi 6), .int (vi 7), .int (vi 8), .int (vi 9), .ref (ex 4), .ref (ex 5), .ref (ex 6), .ref (a 3), .ref (ex 7), .ref (ex 8), .ref (ex 9), .ref (ex 10)])), ((a 3), .inl (T 1, 9, .inl (fi 1))), ((a 4), .inl (T 1, 40, .inl (fi 2))), ((a 5), .inr (7, [.int (vi 10), .int (vi 11), .ref (ex 11), .ref (ex 12), .ref (ex 13), .ref (ex 14), .ref (ex 15), .ref (ex 16), .ref (ex 17), .ref (a 6), .ref (ex 18), .ref (ex 19)])), ((a 6), .inl (T 1, 9, .inl (fi 3)))]) [0, 1, 6, 2, 3, 4, 5] rfl
      have hD9 := hD.sub (ws' := [((a 0), .inr (5, [.ref (ex 0), .ref (ex 1), .ref (a 1), .ref (ex 2), .ref (a 4), .ref (ex 3), .int (vi 2), .int (vi 3)])), ((a 1), .inl (T 1, 40, .inl (fi 0))), ((a 2), .inr (2, [.ref (a 5), .int (vi 4), .int (vi 5), .int (vi 6), .int (vi 7), .int (vi 8), .int (vi 9), .ref (ex 4), .ref (ex 5), .ref (ex 6), .ref (a 3), .ref (ex 7), .ref (ex 8), .ref (ex 9), .ref (ex 10)])), ((a 3), .inl (T 1, 9, .inl (fi 1))), ((a 4), .inl (T 1, 40, .inl (fi 2))), ((a 5), .inr (7, [.int (vi 10), .int (vi 11), .ref (ex 11), .ref (ex 12), .ref (ex 13), .ref (ex 14), .ref (ex 15), .ref (ex 16), .ref (ex 17), .ref (a 6), .ref (ex 18), .ref (ex 19)])), ((a 6), .inl (T 1, 9, .inl (fi 3)))]) [0, 1, 6, 2, 3, 4, 5] (by decide +kernel) rfl
      rw [hQ]
      exact W.zret (v := 0) hx hb hr rfl (fun t ht hW => ⟨⟨0, 0, rfl, rfl, xf [], xh [], xv [], xl [], by rw [ht]; exact hP9, hD9, ⟨(Or.inr ⟨rfl, by show True; first | trivial | omega | assumption⟩), trivial⟩⟩, hS.F ht⟩) hS.2.2 dX5_isSo_41
  · refine lv_tableIn (off := 36) (tgt := 42) hx hb dX5_isSo_6 (by omega) (by omega) (by rw [sw]; decide) (by decide) ?_
    refine lv_aload_n hx hb dX5_isSo_42 rfl (lv_at hl 2 rfl) ?_
    refine lv_iload_n hx hb dX5_isSo_43 rfl (lv_at hl 3 rfl) ?_
    obtain ⟨hC9, hPc, hDc, hFc⟩ := xcut (wc := (pre_X2_doesWait T (xa [(a 2), (a 3)]) (xa [(a 5), (ex 4), (ex 5), (ex 6), (ex 7), (ex 8), (ex 9), (ex 10)]) (xf [(fi 1)]) (xh []) (xv [(vi 1), (vi 4), (vi 5), (vi 6), (vi 7), (vi 8), (vi 9)]) (xl []))) hP hD hS hA [2, 3] (by decide) rfl
    refine va_calli (va_runVN (As := [.int (vi 1)]) (rest := []) ⟨hx, hb, hml, hown, htg⟩ (c_X2_doesWait l D T (xa [(a 2), (a 3)]) (xa [(a 5), (ex 4), (ex 5), (ex 6), (ex 7), (ex 8), (ex 9), (ex 10)]) (xf [(fi 1)]) (xh []) (xv [(vi 1), (vi 4), (vi 5), (vi 6), (vi 7), (vi 8), (vi 9)]) (xl []) s.heap.size hp1 hp4 hp5 (show rg (fi 1) 0 9 (-1) 8 from hp6)) ⟨va_cnB 1 htg (xg_ok kw_1066) rfl rfl rfl (hK.2.1 _ kn_1264) (htg _ kw_9) (by decide +kernel) ⟨by rw [hR]; exact Nat.le_of_ble_eq_true rfl, by rw [hR]; exact Nat.le_of_ble_eq_true rfl⟩, htg _ kw_1065, htg _ ks_88⟩ (xpreV hK hPc hDc (va_recv hK.1 hPc (ci := 2) (q0 := 0) rfl rfl)) rfl rfl hl.1 rfl (lv_room (Nat.le_of_ble_eq_true rfl)) dX5_isSo_44 ⟨by rw [hR]; exact Nat.le_of_ble_eq_true rfl, by rw [hR]; exact Nat.le_of_ble_eq_true rfl⟩) hS (fun q _ h => hFc q h) hFc (fun r9 u9 t H1 locs ht hvm hw hB hz1 hk1 hS => ?_)
    subst hw
    obtain ⟨fik_1, flk_1, vik_1, vlk_1, hP1, hD1, hG⟩ := hB
    rw [ht] at hP1
    obtain ⟨hP, hD⟩ := va_join (wr := [((a 0), .inr (5, [.ref (ex 0), .ref (ex 1), .ref (a 1), .ref (ex 2), .ref (a 4), .ref (ex 3), .int (vi 2), .int (vi 3)])), ((a 1), .inl (T 1, 40, .inl (fi 0))), ((a 4), .inl (T 1, 40, .inl (fi 2))), ((a 5), .inr (7, [.int (vi 10), .int (vi 11), .ref (ex 11), .ref (ex 12), .ref (ex 13), .ref (ex 14), .ref (ex 15), .ref (ex 16), .ref (ex 17), .ref (a 6), .ref (ex 18), .ref (ex 19)])), ((a 6), .inl (T 1, 9, .inl (fi 3)))]) (w1 := [((a 2), .inr (2, [.ref (a 5), .int (vi 4), .int (vi 5), .int (vi 6), .int (vi 7), .int (vi 8), .int (vi 9), .ref (ex 4), .ref (ex 5), .ref (ex 6), .ref (a 3), .ref (ex 7), .ref (ex 8), .ref (ex 9), .ref (ex 10)])), ((a 3), .inl (T 1, 9, .inl (fi 1)))]) hP hD [2, 3] [0, 1, 4, 5, 6] hC9 rfl (by decide) (by decide) hk1 hFc hP1 hD1
    obtain ⟨rk_1, er9⟩ : ∃ z, z = r9 := ⟨_, rfl⟩
    subst er9
    clear hPc hDc hFc hP1 hD1 hk1 hz1 hvm ht hC9
    generalize H1 = H at hP hS ⊢
    obtain ⟨hP, hD⟩ := (show xPD D A [((a 0), .inr (5, [.ref (ex 0), .ref (ex 1), .ref (a 1), .ref (ex 2), .ref (a 4), .ref (ex 3), .int (vi 2), .int (vi 3)])), ((a 1), .inl (T 1, 40, .inl (fi 0))), ((a 4), .inl (T 1, 40, .inl (fi 2))), ((a 5), .inr (7, [.int (vi 10), .int (vi 11), .ref (ex 11), .ref (ex 12), .ref (ex 13), .ref (ex 14), .ref (ex 15), .ref (ex 16), .ref (ex 17), .ref (a 6), .ref (ex 18), .ref (ex 19)])), ((a 6), .inl (T 1, 9, .inl (fi 3))), ((a 2), .inr (2, [.ref (a 5), .int (vi 4), .int (vi 5), .int (vi 6), .int (vi 7), .int (vi 8), .int (vi 9), .ref (ex 4), .ref (ex 5), .ref (ex 6), .ref (a 3), .ref (ex 7), .ref (ex 8), .ref (ex 9), .ref (ex 10)])), ((a 3), .inl (T 1, 9, .inl (fi 1)))] H from ⟨hP, hD⟩)
    obtain ⟨gk_1_0, -⟩ := hG
    rcases (show (rk_1 = 1 ∧ (True)) ∨ (rk_1 = 0 ∧ (True)) from gk_1_0) with ⟨er9, gk_1_0⟩ | ⟨er9, gk_1_0⟩
    · refine xz_i 1 er9 ?_
      have hP9 := hP.sub (ws' := [((a 0), .inr (5, [.ref (ex 0), .ref (ex 1), .ref (a 1), .ref (ex 2), .ref (a 4), .ref (ex 3), .int (vi 2), .int (vi 3)])), ((a 1), .inl (T 1, 40, .inl (fi 0))), ((a 2), .inr (2, [.ref (a 5), .int (vi 4), .int (vi 5), .int (vi 6), .int (vi 7), .int (vi 8), .int (vi 9), .ref (ex 4), .ref (ex 5), .ref (ex 6), .ref (a 3), .ref (ex 7), .ref (ex 8), .ref (ex 9), .ref (ex 10)])), ((a 3), .inl (T 1, 9, .inl (fi 1))), ((a 4), .inl (T 1, 40, .inl (fi 2))), ((a 5), .inr (7, [.int (vi 10), .int (vi 11), .ref (ex 11), .ref (ex 12), .ref (ex 13), .ref (ex 14), .ref (ex 15), .ref (ex 16), .ref (ex 17), .ref (a 6), .ref (ex 18), .ref (ex 19)])), ((a 6), .inl (T 1, 9, .inl (fi 3)))]) [0, 1, 5, 6, 2, 3, 4] rfl
      have hD9 := hD.sub (ws' := [((a 0), .inr (5, [.ref (ex 0), .ref (ex 1), .ref (a 1), .ref (ex 2), .ref (a 4), .ref (ex 3), .int (vi 2), .int (vi 3)])), ((a 1), .inl (T 1, 40, .inl (fi 0))), ((a 2), .inr (2, [.ref (a 5), .int (vi 4), .int (vi 5), .int (vi 6), .int (vi 7), .int (vi 8), .int (vi 9), .ref (ex 4), .ref (ex 5), .ref (ex 6), .ref (a 3), .ref (ex 7), .ref (ex 8), .ref (ex 9), .ref (ex 10)])), ((a 3), .inl (T 1, 9, .inl (fi 1))), ((a 4), .inl (T 1, 40, .inl (fi 2))), ((a 5), .inr (7, [.int (vi 10), .int (vi 11), .ref (ex 11), .ref (ex 12), .ref (ex 13), .ref (ex 14), .ref (ex 15), .ref (ex 16), .ref (ex 17), .ref (a 6), .ref (ex 18), .ref (ex 19)])), ((a 6), .inl (T 1, 9, .inl (fi 3)))]) [0, 1, 5, 6, 2, 3, 4] (by decide +kernel) rfl
      rw [hQ]
      exact W.zret (v := 1) hx hb hr rfl (fun t ht hW => ⟨⟨1, 1, rfl, rfl, xf [], xh [], xv [], xl [], by rw [ht]; exact hP9, hD9, ⟨(Or.inl ⟨rfl, by show True; first | trivial | omega | assumption⟩), trivial⟩⟩, hS.F ht⟩) hS.2.2 dX5_isSo_47
    · refine xz_i 0 er9 ?_
      have hP9 := hP.sub (ws' := [((a 0), .inr (5, [.ref (ex 0), .ref (ex 1), .ref (a 1), .ref (ex 2), .ref (a 4), .ref (ex 3), .int (vi 2), .int (vi 3)])), ((a 1), .inl (T 1, 40, .inl (fi 0))), ((a 2), .inr (2, [.ref (a 5), .int (vi 4), .int (vi 5), .int (vi 6), .int (vi 7), .int (vi 8), .int (vi 9), .ref (ex 4), .ref (ex 5), .ref (ex 6), .ref (a 3), .ref (ex 7), .ref (ex 8), .ref (ex 9), .ref (ex 10)])), ((a 3), .inl (T 1, 9, .inl (fi 1))), ((a 4), .inl (T 1, 40, .inl (fi 2))), ((a 5), .inr (7, [.int (vi 10), .int (vi 11), .ref (ex 11), .ref (ex 12), .ref (ex 13), .ref (ex 14), .ref (ex 15), .ref (ex 16), .ref (ex 17), .ref (a 6), .ref (ex 18), .ref (ex 19)])), ((a 6), .inl (T 1, 9, .inl (fi 3)))]) [0, 1, 5, 6, 2, 3, 4] rfl
      have hD9 := hD.sub (ws' := [((a 0), .inr (5, [.ref (ex 0), .ref (ex 1), .ref (a 1), .ref (ex 2), .ref (a 4), .ref (ex 3), .int (vi 2), .int (vi 3)])), ((a 1), .inl (T 1, 40, .inl (fi 0))), ((a 2), .inr (2, [.ref (a 5), .int (vi 4), .int (vi 5), .int (vi 6), .int (vi 7), .int (vi 8), .int (vi 9), .ref (ex 4), .ref (ex 5), .ref (ex 6), .ref (a 3), .ref (ex 7), .ref (ex 8), .ref (ex 9), .ref (ex 10)])), ((a 3), .inl (T 1, 9, .inl (fi 1))), ((a 4), .inl (T 1, 40, .inl (fi 2))), ((a 5), .inr (7, [.int (vi 10), .int (vi 11), .ref (ex 11), .ref (ex 12), .ref (ex 13), .ref (ex 14), .ref (ex 15), .ref (ex 16), .ref (ex 17), .ref (a 6), .ref (ex 18), .ref (ex 19)])), ((a 6), .inl (T 1, 9, .inl (fi 3)))]) [0, 1, 5, 6, 2, 3, 4] (by decide +kernel) rfl
      rw [hQ]
      exact W.zret (v := 0) hx hb hr rfl (fun t ht hW => ⟨⟨0, 0, rfl, rfl, xf [], xh [], xv [], xl [], by rw [ht]; exact hP9, hD9, ⟨(Or.inr ⟨rfl, by show True; first | trivial | omega | assumption⟩), trivial⟩⟩, hS.F ht⟩) hS.2.2 dX5_isSo_47
  · refine lv_tableIn (off := 42) (tgt := 48) hx hb dX5_isSo_6 (by omega) (by omega) (by rw [sw]; decide) (by decide) ?_
    refine lv_aload_n hx hb dX5_isSo_48 rfl (lv_at hl 2 rfl) ?_
    refine va_getN (D := D) (ci := 2) (v := .ref (a 3)) (C := RX2) (T := TX2) (N := 15) hx hb htg inX2 hown hK.1 hP 2 rfl rfl 10 (by decide) (va_Nw.use rfl (hK.2.1 _ kn_270)) (fun _ h9 => h9) rfl dX5_isSo_49 ?_
    refine lv_iload_n hx hb dX5_isSo_52 rfl (lv_at hl 3 rfl) ?_
    refine va_iald hx hb hK.1 hP 3 1 rfl rfl (vp_in_iff.mpr (by omega)) dX5_isSo_53 ?_
    have hv := rg_at hp6 (i := (vi 1)) (by omega) (by omega)
    refine lv_aload_n hx hb dX5_isSo_54 rfl (lv_at hl 0 rfl) ?_
    refine va_get (D := D) (ci := 5) (v := .ref (a 4)) (C := RX5) (T := TX5) (N := 8) hx hb htg inX5 hown hK.1 hP 0 rfl rfl 4 (by decide) (htg _ kw_388) (fun _ h9 => h9) rfl dX5_isSo_55 ?_
    refine lv_iload_n hx hb dX5_isSo_58 rfl (lv_at hl 1 rfl) ?_
    refine va_iald hx hb hK.1 hP 4 1 rfl rfl (vp_in_iff.mpr (by omega)) dX5_isSo_59 ?_
    refine lv_icmp_ne (tgt := 67) hx hb dX5_isSo_60 (by decide) (fun c60 => ?_) (fun c60 => ?_)
    · have c60 := xne2 c60
      have rc60 := xrng ((fi 1) (vi 1).toNatClampNeg); have qc60 := xrng ((fi 2) (vi 0).toNatClampNeg)
      refine lv_iconst (v := 0) hx hb dX5_isSo_67 (by decide) ?_
      have hP9 := hP.sub (ws' := [((a 0), .inr (5, [.ref (ex 0), .ref (ex 1), .ref (a 1), .ref (ex 2), .ref (a 4), .ref (ex 3), .int (vi 2), .int (vi 3)])), ((a 1), .inl (T 1, 40, .inl (fi 0))), ((a 2), .inr (2, [.ref (a 5), .int (vi 4), .int (vi 5), .int (vi 6), .int (vi 7), .int (vi 8), .int (vi 9), .ref (ex 4), .ref (ex 5), .ref (ex 6), .ref (a 3), .ref (ex 7), .ref (ex 8), .ref (ex 9), .ref (ex 10)])), ((a 3), .inl (T 1, 9, .inl (fi 1))), ((a 4), .inl (T 1, 40, .inl (fi 2))), ((a 5), .inr (7, [.int (vi 10), .int (vi 11), .ref (ex 11), .ref (ex 12), .ref (ex 13), .ref (ex 14), .ref (ex 15), .ref (ex 16), .ref (ex 17), .ref (a 6), .ref (ex 18), .ref (ex 19)])), ((a 6), .inl (T 1, 9, .inl (fi 3)))]) [0, 1, 2, 3, 4, 5, 6] rfl
      have hD9 := hD.sub (ws' := [((a 0), .inr (5, [.ref (ex 0), .ref (ex 1), .ref (a 1), .ref (ex 2), .ref (a 4), .ref (ex 3), .int (vi 2), .int (vi 3)])), ((a 1), .inl (T 1, 40, .inl (fi 0))), ((a 2), .inr (2, [.ref (a 5), .int (vi 4), .int (vi 5), .int (vi 6), .int (vi 7), .int (vi 8), .int (vi 9), .ref (ex 4), .ref (ex 5), .ref (ex 6), .ref (a 3), .ref (ex 7), .ref (ex 8), .ref (ex 9), .ref (ex 10)])), ((a 3), .inl (T 1, 9, .inl (fi 1))), ((a 4), .inl (T 1, 40, .inl (fi 2))), ((a 5), .inr (7, [.int (vi 10), .int (vi 11), .ref (ex 11), .ref (ex 12), .ref (ex 13), .ref (ex 14), .ref (ex 15), .ref (ex 16), .ref (ex 17), .ref (a 6), .ref (ex 18), .ref (ex 19)])), ((a 6), .inl (T 1, 9, .inl (fi 3)))]) [0, 1, 2, 3, 4, 5, 6] (by decide +kernel) rfl
      rw [hQ]
      exact W.zret (v := 0) hx hb hr rfl (fun t ht hW => ⟨⟨0, 0, rfl, rfl, xf [], xh [], xv [], xl [], by rw [ht]; exact hP9, hD9, ⟨(Or.inr ⟨rfl, by show True; first | trivial | omega | assumption⟩), trivial⟩⟩, hS.F ht⟩) hS.2.2 dX5_isSo_68
    · have c60 := congrArg Int32.toInt c60
      have rc60 := xrng ((fi 1) (vi 1).toNatClampNeg); have qc60 := xrng ((fi 2) (vi 0).toNatClampNeg)
      refine lv_iconst (v := 1) hx hb dX5_isSo_63 (by decide) ?_
      refine lv_goto (tgt := 68) hx hb dX5_isSo_64 (by decide) ?_
      have hP9 := hP.sub (ws' := [((a 0), .inr (5, [.ref (ex 0), .ref (ex 1), .ref (a 1), .ref (ex 2), .ref (a 4), .ref (ex 3), .int (vi 2), .int (vi 3)])), ((a 1), .inl (T 1, 40, .inl (fi 0))), ((a 2), .inr (2, [.ref (a 5), .int (vi 4), .int (vi 5), .int (vi 6), .int (vi 7), .int (vi 8), .int (vi 9), .ref (ex 4), .ref (ex 5), .ref (ex 6), .ref (a 3), .ref (ex 7), .ref (ex 8), .ref (ex 9), .ref (ex 10)])), ((a 3), .inl (T 1, 9, .inl (fi 1))), ((a 4), .inl (T 1, 40, .inl (fi 2))), ((a 5), .inr (7, [.int (vi 10), .int (vi 11), .ref (ex 11), .ref (ex 12), .ref (ex 13), .ref (ex 14), .ref (ex 15), .ref (ex 16), .ref (ex 17), .ref (a 6), .ref (ex 18), .ref (ex 19)])), ((a 6), .inl (T 1, 9, .inl (fi 3)))]) [0, 1, 2, 3, 4, 5, 6] rfl
      have hD9 := hD.sub (ws' := [((a 0), .inr (5, [.ref (ex 0), .ref (ex 1), .ref (a 1), .ref (ex 2), .ref (a 4), .ref (ex 3), .int (vi 2), .int (vi 3)])), ((a 1), .inl (T 1, 40, .inl (fi 0))), ((a 2), .inr (2, [.ref (a 5), .int (vi 4), .int (vi 5), .int (vi 6), .int (vi 7), .int (vi 8), .int (vi 9), .ref (ex 4), .ref (ex 5), .ref (ex 6), .ref (a 3), .ref (ex 7), .ref (ex 8), .ref (ex 9), .ref (ex 10)])), ((a 3), .inl (T 1, 9, .inl (fi 1))), ((a 4), .inl (T 1, 40, .inl (fi 2))), ((a 5), .inr (7, [.int (vi 10), .int (vi 11), .ref (ex 11), .ref (ex 12), .ref (ex 13), .ref (ex 14), .ref (ex 15), .ref (ex 16), .ref (ex 17), .ref (a 6), .ref (ex 18), .ref (ex 19)])), ((a 6), .inl (T 1, 9, .inl (fi 3)))]) [0, 1, 2, 3, 4, 5, 6] (by decide +kernel) rfl
      rw [hQ]
      exact W.zret (v := 1) hx hb hr rfl (fun t ht hW => ⟨⟨1, 1, rfl, rfl, xf [], xh [], xv [], xl [], by rw [ht]; exact hP9, hD9, ⟨(Or.inl ⟨rfl, by show True; first | trivial | omega | assumption⟩), trivial⟩⟩, hS.F ht⟩) hS.2.2 dX5_isSo_68
  · refine lv_tableIn (off := 63) (tgt := 69) hx hb dX5_isSo_6 (by omega) (by omega) (by rw [sw]; decide) (by decide) ?_
    refine lv_aload_n hx hb dX5_isSo_69 rfl (lv_at hl 2 rfl) ?_
    refine lv_iload_n hx hb dX5_isSo_70 rfl (lv_at hl 3 rfl) ?_
    obtain ⟨hC9, hPc, hDc, hFc⟩ := xcut (wc := (pre_X2_hasFled T (xa [(a 2)]) (xa [(a 5), (ex 4), (ex 5), (ex 6), (a 3), (ex 7), (ex 8), (ex 9), (ex 10)]) (xf []) (xh []) (xv [(vi 1), (vi 4), (vi 5), (vi 6), (vi 7), (vi 8), (vi 9)]) (xl []))) hP hD hS hA [2] (by decide) rfl
    refine va_calli (va_runVN (As := [.int (vi 1)]) (rest := []) ⟨hx, hb, hml, hown, htg⟩ (c_X2_hasFled l D T (xa [(a 2)]) (xa [(a 5), (ex 4), (ex 5), (ex 6), (a 3), (ex 7), (ex 8), (ex 9), (ex 10)]) (xf []) (xh []) (xv [(vi 1), (vi 4), (vi 5), (vi 6), (vi 7), (vi 8), (vi 9)]) (xl []) s.heap.size hp4 hp5) ⟨va_cnB 1 htg (xg_ok kw_1268) rfl rfl rfl (hK.2.1 _ kn_1265) (htg _ kw_9) (by decide +kernel) ⟨by rw [hR]; exact Nat.le_of_ble_eq_true rfl, by rw [hR]; exact Nat.le_of_ble_eq_true rfl⟩, htg _ kw_1267, htg _ ks_112⟩ (xpreV hK hPc hDc (va_recv hK.1 hPc (ci := 2) (q0 := 0) rfl rfl)) rfl rfl hl.1 rfl (lv_room (Nat.le_of_ble_eq_true rfl)) dX5_isSo_71 ⟨by rw [hR]; exact Nat.le_of_ble_eq_true rfl, by rw [hR]; exact Nat.le_of_ble_eq_true rfl⟩) hS (fun q _ h => hFc q h) hFc (fun r9 u9 t H1 locs ht hvm hw hB hz1 hk1 hS => ?_)
    subst hw
    obtain ⟨fik_2, flk_2, vik_2, vlk_2, hP1, hD1, hG⟩ := hB
    rw [ht] at hP1
    obtain ⟨hP, hD⟩ := va_join (wr := [((a 0), .inr (5, [.ref (ex 0), .ref (ex 1), .ref (a 1), .ref (ex 2), .ref (a 4), .ref (ex 3), .int (vi 2), .int (vi 3)])), ((a 1), .inl (T 1, 40, .inl (fi 0))), ((a 3), .inl (T 1, 9, .inl (fi 1))), ((a 4), .inl (T 1, 40, .inl (fi 2))), ((a 5), .inr (7, [.int (vi 10), .int (vi 11), .ref (ex 11), .ref (ex 12), .ref (ex 13), .ref (ex 14), .ref (ex 15), .ref (ex 16), .ref (ex 17), .ref (a 6), .ref (ex 18), .ref (ex 19)])), ((a 6), .inl (T 1, 9, .inl (fi 3)))]) (w1 := [((a 2), .inr (2, [.ref (a 5), .int (vi 4), .int (vi 5), .int (vi 6), .int (vi 7), .int (vi 8), .int (vi 9), .ref (ex 4), .ref (ex 5), .ref (ex 6), .ref (a 3), .ref (ex 7), .ref (ex 8), .ref (ex 9), .ref (ex 10)]))]) hP hD [2] [0, 1, 3, 4, 5, 6] hC9 rfl (by decide) (by decide) hk1 hFc hP1 hD1
    obtain ⟨rk_2, er9⟩ : ∃ z, z = r9 := ⟨_, rfl⟩
    subst er9
    clear hPc hDc hFc hP1 hD1 hk1 hz1 hvm ht hC9
    generalize H1 = H at hP hS ⊢
    obtain ⟨hP, hD⟩ := (show xPD D A [((a 0), .inr (5, [.ref (ex 0), .ref (ex 1), .ref (a 1), .ref (ex 2), .ref (a 4), .ref (ex 3), .int (vi 2), .int (vi 3)])), ((a 1), .inl (T 1, 40, .inl (fi 0))), ((a 3), .inl (T 1, 9, .inl (fi 1))), ((a 4), .inl (T 1, 40, .inl (fi 2))), ((a 5), .inr (7, [.int (vi 10), .int (vi 11), .ref (ex 11), .ref (ex 12), .ref (ex 13), .ref (ex 14), .ref (ex 15), .ref (ex 16), .ref (ex 17), .ref (a 6), .ref (ex 18), .ref (ex 19)])), ((a 6), .inl (T 1, 9, .inl (fi 3))), ((a 2), .inr (2, [.ref (a 5), .int (vi 4), .int (vi 5), .int (vi 6), .int (vi 7), .int (vi 8), .int (vi 9), .ref (ex 4), .ref (ex 5), .ref (ex 6), .ref (a 3), .ref (ex 7), .ref (ex 8), .ref (ex 9), .ref (ex 10)]))] H from ⟨hP, hD⟩)
    obtain ⟨gk_2_0, -⟩ := hG
    rcases (show (rk_2 = 1 ∧ (True)) ∨ (rk_2 = 0 ∧ (True)) from gk_2_0) with ⟨er9, gk_2_0⟩ | ⟨er9, gk_2_0⟩
    · refine xz_i 1 er9 ?_
      have hP9 := hP.sub (ws' := [((a 0), .inr (5, [.ref (ex 0), .ref (ex 1), .ref (a 1), .ref (ex 2), .ref (a 4), .ref (ex 3), .int (vi 2), .int (vi 3)])), ((a 1), .inl (T 1, 40, .inl (fi 0))), ((a 2), .inr (2, [.ref (a 5), .int (vi 4), .int (vi 5), .int (vi 6), .int (vi 7), .int (vi 8), .int (vi 9), .ref (ex 4), .ref (ex 5), .ref (ex 6), .ref (a 3), .ref (ex 7), .ref (ex 8), .ref (ex 9), .ref (ex 10)])), ((a 3), .inl (T 1, 9, .inl (fi 1))), ((a 4), .inl (T 1, 40, .inl (fi 2))), ((a 5), .inr (7, [.int (vi 10), .int (vi 11), .ref (ex 11), .ref (ex 12), .ref (ex 13), .ref (ex 14), .ref (ex 15), .ref (ex 16), .ref (ex 17), .ref (a 6), .ref (ex 18), .ref (ex 19)])), ((a 6), .inl (T 1, 9, .inl (fi 3)))]) [0, 1, 6, 2, 3, 4, 5] rfl
      have hD9 := hD.sub (ws' := [((a 0), .inr (5, [.ref (ex 0), .ref (ex 1), .ref (a 1), .ref (ex 2), .ref (a 4), .ref (ex 3), .int (vi 2), .int (vi 3)])), ((a 1), .inl (T 1, 40, .inl (fi 0))), ((a 2), .inr (2, [.ref (a 5), .int (vi 4), .int (vi 5), .int (vi 6), .int (vi 7), .int (vi 8), .int (vi 9), .ref (ex 4), .ref (ex 5), .ref (ex 6), .ref (a 3), .ref (ex 7), .ref (ex 8), .ref (ex 9), .ref (ex 10)])), ((a 3), .inl (T 1, 9, .inl (fi 1))), ((a 4), .inl (T 1, 40, .inl (fi 2))), ((a 5), .inr (7, [.int (vi 10), .int (vi 11), .ref (ex 11), .ref (ex 12), .ref (ex 13), .ref (ex 14), .ref (ex 15), .ref (ex 16), .ref (ex 17), .ref (a 6), .ref (ex 18), .ref (ex 19)])), ((a 6), .inl (T 1, 9, .inl (fi 3)))]) [0, 1, 6, 2, 3, 4, 5] (by decide +kernel) rfl
      rw [hQ]
      exact W.zret (v := 1) hx hb hr rfl (fun t ht hW => ⟨⟨1, 1, rfl, rfl, xf [], xh [], xv [], xl [], by rw [ht]; exact hP9, hD9, ⟨(Or.inl ⟨rfl, by show True; first | trivial | omega | assumption⟩), trivial⟩⟩, hS.F ht⟩) hS.2.2 dX5_isSo_74
    · refine xz_i 0 er9 ?_
      have hP9 := hP.sub (ws' := [((a 0), .inr (5, [.ref (ex 0), .ref (ex 1), .ref (a 1), .ref (ex 2), .ref (a 4), .ref (ex 3), .int (vi 2), .int (vi 3)])), ((a 1), .inl (T 1, 40, .inl (fi 0))), ((a 2), .inr (2, [.ref (a 5), .int (vi 4), .int (vi 5), .int (vi 6), .int (vi 7), .int (vi 8), .int (vi 9), .ref (ex 4), .ref (ex 5), .ref (ex 6), .ref (a 3), .ref (ex 7), .ref (ex 8), .ref (ex 9), .ref (ex 10)])), ((a 3), .inl (T 1, 9, .inl (fi 1))), ((a 4), .inl (T 1, 40, .inl (fi 2))), ((a 5), .inr (7, [.int (vi 10), .int (vi 11), .ref (ex 11), .ref (ex 12), .ref (ex 13), .ref (ex 14), .ref (ex 15), .ref (ex 16), .ref (ex 17), .ref (a 6), .ref (ex 18), .ref (ex 19)])), ((a 6), .inl (T 1, 9, .inl (fi 3)))]) [0, 1, 6, 2, 3, 4, 5] rfl
      have hD9 := hD.sub (ws' := [((a 0), .inr (5, [.ref (ex 0), .ref (ex 1), .ref (a 1), .ref (ex 2), .ref (a 4), .ref (ex 3), .int (vi 2), .int (vi 3)])), ((a 1), .inl (T 1, 40, .inl (fi 0))), ((a 2), .inr (2, [.ref (a 5), .int (vi 4), .int (vi 5), .int (vi 6), .int (vi 7), .int (vi 8), .int (vi 9), .ref (ex 4), .ref (ex 5), .ref (ex 6), .ref (a 3), .ref (ex 7), .ref (ex 8), .ref (ex 9), .ref (ex 10)])), ((a 3), .inl (T 1, 9, .inl (fi 1))), ((a 4), .inl (T 1, 40, .inl (fi 2))), ((a 5), .inr (7, [.int (vi 10), .int (vi 11), .ref (ex 11), .ref (ex 12), .ref (ex 13), .ref (ex 14), .ref (ex 15), .ref (ex 16), .ref (ex 17), .ref (a 6), .ref (ex 18), .ref (ex 19)])), ((a 6), .inl (T 1, 9, .inl (fi 3)))]) [0, 1, 6, 2, 3, 4, 5] (by decide +kernel) rfl
      rw [hQ]
      exact W.zret (v := 0) hx hb hr rfl (fun t ht hW => ⟨⟨0, 0, rfl, rfl, xf [], xh [], xv [], xl [], by rw [ht]; exact hP9, hD9, ⟨(Or.inr ⟨rfl, by show True; first | trivial | omega | assumption⟩), trivial⟩⟩, hS.F ht⟩) hS.2.2 dX5_isSo_74
  · refine lv_tableOut (tgt := 75) hx hb dX5_isSo_6 (by omega) (by decide) ?_
    refine lv_aload_n hx hb dX5_isSo_75 rfl (lv_at hl 2 rfl) ?_
    refine va_getN (D := D) (ci := 2) (v := .ref (a 3)) (C := RX2) (T := TX2) (N := 15) hx hb htg inX2 hown hK.1 hP 2 rfl rfl 10 (by decide) (va_Nw.use rfl (hK.2.1 _ kn_270)) (fun _ h9 => h9) rfl dX5_isSo_76 ?_
    refine lv_iload_n hx hb dX5_isSo_79 rfl (lv_at hl 3 rfl) ?_
    refine va_iald hx hb hK.1 hP 3 1 rfl rfl (vp_in_iff.mpr (by omega)) dX5_isSo_80 ?_
    have hv_1 := rg_at hp6 (i := (vi 1)) (by omega) (by omega)
    refine lv_iconst (v := (-1)) hx hb dX5_isSo_81 (by decide) ?_
    refine lv_icmp_eq (tgt := 107) hx hb dX5_isSo_82 (by decide) (fun c82 => ?_) (fun c82 => ?_)
    · have c82 := xeq (k := (-1)) (by decide) c82
      refine lv_iconst (v := 0) hx hb dX5_isSo_107 (by decide) ?_
      have hP9 := hP.sub (ws' := [((a 0), .inr (5, [.ref (ex 0), .ref (ex 1), .ref (a 1), .ref (ex 2), .ref (a 4), .ref (ex 3), .int (vi 2), .int (vi 3)])), ((a 1), .inl (T 1, 40, .inl (fi 0))), ((a 2), .inr (2, [.ref (a 5), .int (vi 4), .int (vi 5), .int (vi 6), .int (vi 7), .int (vi 8), .int (vi 9), .ref (ex 4), .ref (ex 5), .ref (ex 6), .ref (a 3), .ref (ex 7), .ref (ex 8), .ref (ex 9), .ref (ex 10)])), ((a 3), .inl (T 1, 9, .inl (fi 1))), ((a 4), .inl (T 1, 40, .inl (fi 2))), ((a 5), .inr (7, [.int (vi 10), .int (vi 11), .ref (ex 11), .ref (ex 12), .ref (ex 13), .ref (ex 14), .ref (ex 15), .ref (ex 16), .ref (ex 17), .ref (a 6), .ref (ex 18), .ref (ex 19)])), ((a 6), .inl (T 1, 9, .inl (fi 3)))]) [0, 1, 2, 3, 4, 5, 6] rfl
      have hD9 := hD.sub (ws' := [((a 0), .inr (5, [.ref (ex 0), .ref (ex 1), .ref (a 1), .ref (ex 2), .ref (a 4), .ref (ex 3), .int (vi 2), .int (vi 3)])), ((a 1), .inl (T 1, 40, .inl (fi 0))), ((a 2), .inr (2, [.ref (a 5), .int (vi 4), .int (vi 5), .int (vi 6), .int (vi 7), .int (vi 8), .int (vi 9), .ref (ex 4), .ref (ex 5), .ref (ex 6), .ref (a 3), .ref (ex 7), .ref (ex 8), .ref (ex 9), .ref (ex 10)])), ((a 3), .inl (T 1, 9, .inl (fi 1))), ((a 4), .inl (T 1, 40, .inl (fi 2))), ((a 5), .inr (7, [.int (vi 10), .int (vi 11), .ref (ex 11), .ref (ex 12), .ref (ex 13), .ref (ex 14), .ref (ex 15), .ref (ex 16), .ref (ex 17), .ref (a 6), .ref (ex 18), .ref (ex 19)])), ((a 6), .inl (T 1, 9, .inl (fi 3)))]) [0, 1, 2, 3, 4, 5, 6] (by decide +kernel) rfl
      rw [hQ]
      exact W.zret (v := 0) hx hb hr rfl (fun t ht hW => ⟨⟨0, 0, rfl, rfl, xf [], xh [], xv [], xl [], by rw [ht]; exact hP9, hD9, ⟨(Or.inr ⟨rfl, by show True; first | trivial | omega | assumption⟩), trivial⟩⟩, hS.F ht⟩) hS.2.2 dX5_isSo_108
    · have c82 := xne (k := (-1)) (by decide) c82
      refine lv_aload_n hx hb dX5_isSo_85 rfl (lv_at hl 2 rfl) ?_
      refine va_getN (D := D) (ci := 2) (v := .ref (a 3)) (C := RX2) (T := TX2) (N := 15) hx hb htg inX2 hown hK.1 hP 2 rfl rfl 10 (by decide) (va_Nw.use rfl (hK.2.1 _ kn_270)) (fun _ h9 => h9) rfl dX5_isSo_86 ?_
      refine lv_iload_n hx hb dX5_isSo_89 rfl (lv_at hl 3 rfl) ?_
      refine va_iald hx hb hK.1 hP 3 1 rfl rfl (vp_in_iff.mpr (by omega)) dX5_isSo_90 ?_
      refine lv_aload_n hx hb dX5_isSo_91 rfl (lv_at hl 2 rfl) ?_
      refine va_getN (D := D) (ci := 2) (v := .ref (a 5)) (C := RX2) (T := TX2) (N := 15) hx hb htg inX2 hown hK.1 hP 2 rfl rfl 0 (by decide) (va_Nw.use rfl (hK.2.1 _ kn_246)) (fun _ h9 => h9) rfl dX5_isSo_92 ?_
      refine va_getN (D := D) (ci := 7) (v := .ref (a 6)) (C := RX7) (T := TX7) (N := 12) hx hb htg inX7 hown hK.1 hP 5 rfl rfl 9 (by decide) (va_Nw.use rfl (hK.2.1 _ kn_190)) (fun _ h9 => h9) rfl dX5_isSo_95 ?_
      refine lv_iload_n hx hb dX5_isSo_98 rfl (lv_at hl 3 rfl) ?_
      refine va_iald hx hb hK.1 hP 6 1 rfl rfl (vp_in_iff.mpr (by omega)) dX5_isSo_99 ?_
      refine lv_icmp_ne (tgt := 107) hx hb dX5_isSo_100 (by decide) (fun c100 => ?_) (fun c100 => ?_)
      · have c100 := xne2 c100
        have rc100 := xrng ((fi 1) (vi 1).toNatClampNeg); have qc100 := xrng ((fi 3) (vi 1).toNatClampNeg)
        refine lv_iconst (v := 0) hx hb dX5_isSo_107 (by decide) ?_
        have hP9 := hP.sub (ws' := [((a 0), .inr (5, [.ref (ex 0), .ref (ex 1), .ref (a 1), .ref (ex 2), .ref (a 4), .ref (ex 3), .int (vi 2), .int (vi 3)])), ((a 1), .inl (T 1, 40, .inl (fi 0))), ((a 2), .inr (2, [.ref (a 5), .int (vi 4), .int (vi 5), .int (vi 6), .int (vi 7), .int (vi 8), .int (vi 9), .ref (ex 4), .ref (ex 5), .ref (ex 6), .ref (a 3), .ref (ex 7), .ref (ex 8), .ref (ex 9), .ref (ex 10)])), ((a 3), .inl (T 1, 9, .inl (fi 1))), ((a 4), .inl (T 1, 40, .inl (fi 2))), ((a 5), .inr (7, [.int (vi 10), .int (vi 11), .ref (ex 11), .ref (ex 12), .ref (ex 13), .ref (ex 14), .ref (ex 15), .ref (ex 16), .ref (ex 17), .ref (a 6), .ref (ex 18), .ref (ex 19)])), ((a 6), .inl (T 1, 9, .inl (fi 3)))]) [0, 1, 2, 3, 4, 5, 6] rfl
        have hD9 := hD.sub (ws' := [((a 0), .inr (5, [.ref (ex 0), .ref (ex 1), .ref (a 1), .ref (ex 2), .ref (a 4), .ref (ex 3), .int (vi 2), .int (vi 3)])), ((a 1), .inl (T 1, 40, .inl (fi 0))), ((a 2), .inr (2, [.ref (a 5), .int (vi 4), .int (vi 5), .int (vi 6), .int (vi 7), .int (vi 8), .int (vi 9), .ref (ex 4), .ref (ex 5), .ref (ex 6), .ref (a 3), .ref (ex 7), .ref (ex 8), .ref (ex 9), .ref (ex 10)])), ((a 3), .inl (T 1, 9, .inl (fi 1))), ((a 4), .inl (T 1, 40, .inl (fi 2))), ((a 5), .inr (7, [.int (vi 10), .int (vi 11), .ref (ex 11), .ref (ex 12), .ref (ex 13), .ref (ex 14), .ref (ex 15), .ref (ex 16), .ref (ex 17), .ref (a 6), .ref (ex 18), .ref (ex 19)])), ((a 6), .inl (T 1, 9, .inl (fi 3)))]) [0, 1, 2, 3, 4, 5, 6] (by decide +kernel) rfl
        rw [hQ]
        exact W.zret (v := 0) hx hb hr rfl (fun t ht hW => ⟨⟨0, 0, rfl, rfl, xf [], xh [], xv [], xl [], by rw [ht]; exact hP9, hD9, ⟨(Or.inr ⟨rfl, by show True; first | trivial | omega | assumption⟩), trivial⟩⟩, hS.F ht⟩) hS.2.2 dX5_isSo_108
      · have c100 := congrArg Int32.toInt c100
        have rc100 := xrng ((fi 1) (vi 1).toNatClampNeg); have qc100 := xrng ((fi 3) (vi 1).toNatClampNeg)
        refine lv_iconst (v := 1) hx hb dX5_isSo_103 (by decide) ?_
        refine lv_goto (tgt := 108) hx hb dX5_isSo_104 (by decide) ?_
        have hP9 := hP.sub (ws' := [((a 0), .inr (5, [.ref (ex 0), .ref (ex 1), .ref (a 1), .ref (ex 2), .ref (a 4), .ref (ex 3), .int (vi 2), .int (vi 3)])), ((a 1), .inl (T 1, 40, .inl (fi 0))), ((a 2), .inr (2, [.ref (a 5), .int (vi 4), .int (vi 5), .int (vi 6), .int (vi 7), .int (vi 8), .int (vi 9), .ref (ex 4), .ref (ex 5), .ref (ex 6), .ref (a 3), .ref (ex 7), .ref (ex 8), .ref (ex 9), .ref (ex 10)])), ((a 3), .inl (T 1, 9, .inl (fi 1))), ((a 4), .inl (T 1, 40, .inl (fi 2))), ((a 5), .inr (7, [.int (vi 10), .int (vi 11), .ref (ex 11), .ref (ex 12), .ref (ex 13), .ref (ex 14), .ref (ex 15), .ref (ex 16), .ref (ex 17), .ref (a 6), .ref (ex 18), .ref (ex 19)])), ((a 6), .inl (T 1, 9, .inl (fi 3)))]) [0, 1, 2, 3, 4, 5, 6] rfl
        have hD9 := hD.sub (ws' := [((a 0), .inr (5, [.ref (ex 0), .ref (ex 1), .ref (a 1), .ref (ex 2), .ref (a 4), .ref (ex 3), .int (vi 2), .int (vi 3)])), ((a 1), .inl (T 1, 40, .inl (fi 0))), ((a 2), .inr (2, [.ref (a 5), .int (vi 4), .int (vi 5), .int (vi 6), .int (vi 7), .int (vi 8), .int (vi 9), .ref (ex 4), .ref (ex 5), .ref (ex 6), .ref (a 3), .ref (ex 7), .ref (ex 8), .ref (ex 9), .ref (ex 10)])), ((a 3), .inl (T 1, 9, .inl (fi 1))), ((a 4), .inl (T 1, 40, .inl (fi 2))), ((a 5), .inr (7, [.int (vi 10), .int (vi 11), .ref (ex 11), .ref (ex 12), .ref (ex 13), .ref (ex 14), .ref (ex 15), .ref (ex 16), .ref (ex 17), .ref (a 6), .ref (ex 18), .ref (ex 19)])), ((a 6), .inl (T 1, 9, .inl (fi 3)))]) [0, 1, 2, 3, 4, 5, 6] (by decide +kernel) rfl
        rw [hQ]
        exact W.zret (v := 1) hx hb hr rfl (fun t ht hW => ⟨⟨1, 1, rfl, rfl, xf [], xh [], xv [], xl [], by rw [ht]; exact hP9, hD9, ⟨(Or.inl ⟨rfl, by show True; first | trivial | omega | assumption⟩), trivial⟩⟩, hS.F ht⟩) hS.2.2 dX5_isSo_108
abbrev pre_X5_measureOf (T : Nat → ClassId) (a ex : Nat → Nat) (fi : Nat → Nat → Int32) (fl : Nat → Nat → Int64) (vi : Nat → Int32) (vl : Nat → Int64) : va_W := [((a 0), .inr (2, [.ref (a 3), .int (vi 2), .int (vi 3), .int (vi 4), .int (vi 5), .int (vi 6), .int (vi 7), .ref (ex 0), .ref (a 4), .ref (ex 1), .ref (a 2), .ref (a 1), .ref (a 5), .ref (ex 2), .ref (ex 3)])), ((a 1), .inl (T 1, 9, .inl (fi 0))), ((a 2), .inl (T 1, 9, .inl (fi 1))), ((a 3), .inr (7, [.int (vi 8), .int (vi 9), .ref (ex 4), .ref (ex 5), .ref (ex 6), .ref (ex 7), .ref (ex 8), .ref (ex 9), .ref (ex 10), .ref (ex 11), .ref (ex 12), .ref (ex 13)])), ((a 4), .inl (T 1, 9, .inl (fi 2))), ((a 5), .inl (T 1, 9, .inl (fi 3)))]
set_option maxHeartbeats 8000000 in
set_option maxRecDepth 100000 in
theorem c_X5_measureOf (l : Launch) (D : va_G) (T : Nat → ClassId) (a ex : Nat → Nat) (fi : Nat → Nat → Int32) (fl : Nat → Nat → Int64) (vi : Nat → Int32) (vl : Nat → Int64) (sz : Nat) (hp0 : 0 ≤ (vi 1).toInt ∧ (vi 1).toInt ≤ 8) (hp1 : 0 ≤ (vi 2).toInt ∧ (vi 2).toInt ≤ 200) (hp2 : 0 ≤ (vi 7).toInt ∧ (vi 7).toInt ≤ 9) (hp3 : rg (fi 1) 0 9 (-1) 8) (hp4 : 0 ≤ (vi 8).toInt ∧ (vi 8).toInt ≤ 9) (hp5 : 0 ≤ (vi 9).toInt ∧ (vi 9).toInt ≤ 9) : Met l yX5_measureOf (xw yX5_measureOf cX5_measureOf 3 (some .int)) ({ frames := 2, cells := 0, slots := 0, locals := 51 }) (xP D T [.int (vi 0), .ref (a 0), .int (vi 1)] sz (pre_X5_measureOf T a ex fi fl vi vl)) (va_Qi (fun r u => r = u) (xC D (va_A (pre_X5_measureOf T a ex fi fl vi vl) sz) (fun fj fm vj vm => [((a 0), .inr (2, [.ref (a 3), .int (vi 2), .int (vi 3), .int (vi 4), .int (vi 5), .int (vi 6), .int (vi 7), .ref (ex 0), .ref (a 4), .ref (ex 1), .ref (a 2), .ref (a 1), .ref (a 5), .ref (ex 2), .ref (ex 3)])), ((a 1), .inl (T 1, 9, .inl (fi 0))), ((a 2), .inl (T 1, 9, .inl (fi 1))), ((a 3), .inr (7, [.int (vi 8), .int (vi 9), .ref (ex 4), .ref (ex 5), .ref (ex 6), .ref (ex 7), .ref (ex 8), .ref (ex 9), .ref (ex 10), .ref (ex 11), .ref (ex 12), .ref (ex 13)])), ((a 4), .inl (T 1, 9, .inl (fi 2))), ((a 5), .inl (T 1, 9, .inl (fi 3)))]) (fun (r : Int32) (fj : Nat → Nat → Int32) (fm : Nat → Nat → Int64) (vj : Nat → Int32) (vm : Nat → Int64) => True)) (va_A (pre_X5_measureOf T a ex fi fl vi vl) sz)) 0 0 (va_A (pre_X5_measureOf T a ex fi fl vi vl) sz) := by
  refine xofW (cc := cX5_measureOf) (maxL := 3) (ret := (some .int)) (by decide) rfl ?_
  intro p e s m args below meth c s₁ R Q hR hQ B hml hv
  obtain ⟨rfl, hsz, hP, hK, hD0⟩ := hv
  have hx := B.exec
  have hb := B.bytes
  have hr := B.returns
  have hts := atoms_spec (ws := xw yX5_measureOf cX5_measureOf 3 (some .int)) B.pre
  have htg : ∀ w ∈ xg, w.before _ s = true := fun w h => hts w (List.mem_cons_of_mem _ h)
  have hown : s.vm.findClass RX5 = some m.cls := findClass_of_methodNamed B.named
  have hlocks := B.notSynchronized
  subst hsz
  have hD := hD0.self (sz := s.heap.size)
  generalize hAe : va_A (pre_X5_measureOf T a ex fi fl vi vl) s.heap.size = A at hD hQ
  have hA : ∀ q : Nat, s.heap.size ≤ q → A q := fun q h => by rw [← hAe]; exact Or.inr h
  have hS : va_S A s.heap s.heap [] := va_S.rf
  replace hP : va_P D vwCl [((a 0), .inr (2, [.ref (a 3), .int (vi 2), .int (vi 3), .int (vi 4), .int (vi 5), .int (vi 6), .int (vi 7), .ref (ex 0), .ref (a 4), .ref (ex 1), .ref (a 2), .ref (a 1), .ref (a 5), .ref (ex 2), .ref (ex 3)])), ((a 1), .inl (T 1, 9, .inl (fi 0))), ((a 2), .inl (T 1, 9, .inl (fi 1))), ((a 3), .inr (7, [.int (vi 8), .int (vi 9), .ref (ex 4), .ref (ex 5), .ref (ex 6), .ref (ex 7), .ref (ex 8), .ref (ex 9), .ref (ex 10), .ref (ex 11), .ref (ex 12), .ref (ex 13)])), ((a 4), .inl (T 1, 9, .inl (fi 2))), ((a 5), .inl (T 1, 9, .inl (fi 3)))] s.heap := hP
  replace hD : va_D A [((a 0), .inr (2, [.ref (a 3), .int (vi 2), .int (vi 3), .int (vi 4), .int (vi 5), .int (vi 6), .int (vi 7), .ref (ex 0), .ref (a 4), .ref (ex 1), .ref (a 2), .ref (a 1), .ref (a 5), .ref (ex 2), .ref (ex 3)])), ((a 1), .inl (T 1, 9, .inl (fi 0))), ((a 2), .inl (T 1, 9, .inl (fi 1))), ((a 3), .inr (7, [.int (vi 8), .int (vi 9), .ref (ex 4), .ref (ex 5), .ref (ex 6), .ref (ex 7), .ref (ex 8), .ref (ex 9), .ref (ex 10), .ref (ex 11), .ref (ex 12), .ref (ex 13)])), ((a 4), .inl (T 1, 9, .inl (fi 2))), ((a 5), .inl (T 1, 9, .inl (fi 3)))] := hD
  have hl := lv_entry ([.int (vi 0), .ref (a 0), .int (vi 1)]) (n := 3) (Nat.le_of_ble_eq_true rfl)
  rw [lg_entry_eq]
  generalize (lg_sl ([.int (vi 0), .ref (a 0), .int (vi 1)]) ++ List.replicate (3 - (lg_sl ([.int (vi 0), .ref (a 0), .int (vi 1)])).length) Slot.unset).toArray = ls at hl ⊢
  replace hl : lv_has ls 3 [(0, .int (vi 0)), (1, .ref (a 0)), (2, .int (vi 1))] := hl
  refine lv_iload_n hx hb dX5_measureOf_0 rfl (lv_at hl 0 rfl) ?_
  rcases (show (vi 0).toInt = 8 ∨ (vi 0).toInt = 9 ∨ (vi 0).toInt = 10 ∨ ((vi 0).toInt < 8 ∨ 10 < (vi 0).toInt) by omega) with sw | sw | sw | sw
  · refine lv_tableIn (off := 27) (tgt := 28) hx hb dX5_measureOf_1 (by omega) (by omega) (by rw [sw]; decide) (by decide) ?_
    refine lv_aload_n hx hb dX5_measureOf_28 rfl (lv_at hl 1 rfl) ?_
    refine va_getN (D := D) (ci := 2) (v := .ref (a 1)) (C := RX2) (T := TX2) (N := 15) hx hb htg inX2 hown hK.1 hP 0 rfl rfl 11 (by decide) (va_Nw.use rfl (hK.2.1 _ kn_274)) (fun _ h9 => h9) rfl dX5_measureOf_29 ?_
    refine lv_iload_n hx hb dX5_measureOf_32 rfl (lv_at hl 2 rfl) ?_
    refine va_iald hx hb hK.1 hP 1 1 rfl rfl (vp_in_iff.mpr (by omega)) dX5_measureOf_33 ?_
    have hP9 := hP.sub (ws' := [((a 0), .inr (2, [.ref (a 3), .int (vi 2), .int (vi 3), .int (vi 4), .int (vi 5), .int (vi 6), .int (vi 7), .ref (ex 0), .ref (a 4), .ref (ex 1), .ref (a 2), .ref (a 1), .ref (a 5), .ref (ex 2), .ref (ex 3)])), ((a 1), .inl (T 1, 9, .inl (fi 0))), ((a 2), .inl (T 1, 9, .inl (fi 1))), ((a 3), .inr (7, [.int (vi 8), .int (vi 9), .ref (ex 4), .ref (ex 5), .ref (ex 6), .ref (ex 7), .ref (ex 8), .ref (ex 9), .ref (ex 10), .ref (ex 11), .ref (ex 12), .ref (ex 13)])), ((a 4), .inl (T 1, 9, .inl (fi 2))), ((a 5), .inl (T 1, 9, .inl (fi 3)))]) [0, 1, 2, 3, 4, 5] rfl
    have hD9 := hD.sub (ws' := [((a 0), .inr (2, [.ref (a 3), .int (vi 2), .int (vi 3), .int (vi 4), .int (vi 5), .int (vi 6), .int (vi 7), .ref (ex 0), .ref (a 4), .ref (ex 1), .ref (a 2), .ref (a 1), .ref (a 5), .ref (ex 2), .ref (ex 3)])), ((a 1), .inl (T 1, 9, .inl (fi 0))), ((a 2), .inl (T 1, 9, .inl (fi 1))), ((a 3), .inr (7, [.int (vi 8), .int (vi 9), .ref (ex 4), .ref (ex 5), .ref (ex 6), .ref (ex 7), .ref (ex 8), .ref (ex 9), .ref (ex 10), .ref (ex 11), .ref (ex 12), .ref (ex 13)])), ((a 4), .inl (T 1, 9, .inl (fi 2))), ((a 5), .inl (T 1, 9, .inl (fi 3)))]) [0, 1, 2, 3, 4, 5] (by decide +kernel) rfl
    rw [hQ]
    exact W.iret (v := ((fi 0) (vi 1).toNatClampNeg)) hx hb hr (fun t ht hW => ⟨⟨((fi 0) (vi 1).toNatClampNeg), ((fi 0) (vi 1).toNatClampNeg), rfl, rfl, xf [], xh [], xv [], xl [], by rw [ht]; exact hP9, hD9, trivial⟩, hS.F ht⟩) hS.2.2 dX5_measureOf_34
  · refine lv_tableIn (off := 34) (tgt := 35) hx hb dX5_measureOf_1 (by omega) (by omega) (by rw [sw]; decide) (by decide) ?_
    refine lv_aload_n hx hb dX5_measureOf_35 rfl (lv_at hl 1 rfl) ?_
    refine lv_iload_n hx hb dX5_measureOf_36 rfl (lv_at hl 2 rfl) ?_
    obtain ⟨hC9, hPc, hDc, hFc⟩ := xcut (wc := (pre_X2_owed T (xa [(a 0), (a 2), (a 3), (a 4)]) (xa [(ex 0), (ex 1), (a 1), (a 5), (ex 2), (ex 3), (ex 4), (ex 5), (ex 6), (ex 7), (ex 8), (ex 9), (ex 10), (ex 11), (ex 12), (ex 13)]) (xf [(fi 1), (fi 2)]) (xh []) (xv [(vi 1), (vi 2), (vi 3), (vi 4), (vi 5), (vi 6), (vi 7), (vi 8), (vi 9)]) (xl []))) hP hD hS hA [0, 2, 3, 4] (by decide) rfl
    refine va_calli (va_runVN (As := [.int (vi 1)]) (rest := []) ⟨hx, hb, hml, hown, htg⟩ (c_X2_owed l D T (xa [(a 0), (a 2), (a 3), (a 4)]) (xa [(ex 0), (ex 1), (a 1), (a 5), (ex 2), (ex 3), (ex 4), (ex 5), (ex 6), (ex 7), (ex 8), (ex 9), (ex 10), (ex 11), (ex 12), (ex 13)]) (xf [(fi 1), (fi 2)]) (xh []) (xv [(vi 1), (vi 2), (vi 3), (vi 4), (vi 5), (vi 6), (vi 7), (vi 8), (vi 9)]) (xl []) s.heap.size hp0 hp1 hp2 (show rg (fi 1) 0 9 (-1) 8 from hp3) hp4 hp5) ⟨va_cnB 1 htg (xg_ok kw_826) rfl rfl rfl (hK.2.1 _ kn_1258) (htg _ kw_9) (by decide +kernel) ⟨by rw [hR]; exact Nat.le_of_ble_eq_true rfl, by rw [hR]; exact Nat.le_of_ble_eq_true rfl⟩, htg _ kw_825, htg _ ks_52⟩ (xpreV hK hPc hDc (va_recv hK.1 hPc (ci := 2) (q0 := 0) rfl rfl)) rfl rfl hl.1 rfl (lv_room (Nat.le_of_ble_eq_true rfl)) dX5_measureOf_37 ⟨by rw [hR]; exact Nat.le_of_ble_eq_true rfl, by rw [hR]; exact Nat.le_of_ble_eq_true rfl⟩) hS (fun q _ h => hFc q h) hFc (fun r9 u9 t H1 locs ht hvm hw hB hz1 hk1 hS => ?_)
    subst hw
    obtain ⟨fik, flk, vik, vlk, hP1, hD1, hG⟩ := hB
    rw [ht] at hP1
    obtain ⟨hP, hD⟩ := va_join (wr := [((a 1), .inl (T 1, 9, .inl (fi 0))), ((a 5), .inl (T 1, 9, .inl (fi 3)))]) (w1 := [((a 0), .inr (2, [.ref (a 3), .int (vi 2), .int (vi 3), .int (vi 4), .int (vi 5), .int (vi 6), .int (vi 7), .ref (ex 0), .ref (a 4), .ref (ex 1), .ref (a 2), .ref (a 1), .ref (a 5), .ref (ex 2), .ref (ex 3)])), ((a 2), .inl (T 1, 9, .inl (fi 1))), ((a 3), .inr (7, [.int (vi 8), .int (vi 9), .ref (ex 4), .ref (ex 5), .ref (ex 6), .ref (ex 7), .ref (ex 8), .ref (ex 9), .ref (ex 10), .ref (ex 11), .ref (ex 12), .ref (ex 13)])), ((a 4), .inl (T 1, 9, .inl (fi 2)))]) hP hD [0, 2, 3, 4] [1, 5] hC9 rfl (by decide) (by decide) hk1 hFc hP1 hD1
    obtain ⟨rk, er9⟩ : ∃ z, z = r9 := ⟨_, rfl⟩
    subst er9
    clear hPc hDc hFc hP1 hD1 hk1 hz1 hvm ht hC9
    generalize H1 = H at hP hS ⊢
    obtain ⟨hP, hD⟩ := (show xPD D A [((a 1), .inl (T 1, 9, .inl (fi 0))), ((a 5), .inl (T 1, 9, .inl (fi 3))), ((a 0), .inr (2, [.ref (a 3), .int (vi 2), .int (vi 3), .int (vi 4), .int (vi 5), .int (vi 6), .int (vi 7), .ref (ex 0), .ref (a 4), .ref (ex 1), .ref (a 2), .ref (a 1), .ref (a 5), .ref (ex 2), .ref (ex 3)])), ((a 2), .inl (T 1, 9, .inl (fi 1))), ((a 3), .inr (7, [.int (vi 8), .int (vi 9), .ref (ex 4), .ref (ex 5), .ref (ex 6), .ref (ex 7), .ref (ex 8), .ref (ex 9), .ref (ex 10), .ref (ex 11), .ref (ex 12), .ref (ex 13)])), ((a 4), .inl (T 1, 9, .inl (fi 2)))] H from ⟨hP, hD⟩)
    clear hG
    have hP9 := hP.sub (ws' := [((a 0), .inr (2, [.ref (a 3), .int (vi 2), .int (vi 3), .int (vi 4), .int (vi 5), .int (vi 6), .int (vi 7), .ref (ex 0), .ref (a 4), .ref (ex 1), .ref (a 2), .ref (a 1), .ref (a 5), .ref (ex 2), .ref (ex 3)])), ((a 1), .inl (T 1, 9, .inl (fi 0))), ((a 2), .inl (T 1, 9, .inl (fi 1))), ((a 3), .inr (7, [.int (vi 8), .int (vi 9), .ref (ex 4), .ref (ex 5), .ref (ex 6), .ref (ex 7), .ref (ex 8), .ref (ex 9), .ref (ex 10), .ref (ex 11), .ref (ex 12), .ref (ex 13)])), ((a 4), .inl (T 1, 9, .inl (fi 2))), ((a 5), .inl (T 1, 9, .inl (fi 3)))]) [2, 0, 3, 4, 5, 1] rfl
    have hD9 := hD.sub (ws' := [((a 0), .inr (2, [.ref (a 3), .int (vi 2), .int (vi 3), .int (vi 4), .int (vi 5), .int (vi 6), .int (vi 7), .ref (ex 0), .ref (a 4), .ref (ex 1), .ref (a 2), .ref (a 1), .ref (a 5), .ref (ex 2), .ref (ex 3)])), ((a 1), .inl (T 1, 9, .inl (fi 0))), ((a 2), .inl (T 1, 9, .inl (fi 1))), ((a 3), .inr (7, [.int (vi 8), .int (vi 9), .ref (ex 4), .ref (ex 5), .ref (ex 6), .ref (ex 7), .ref (ex 8), .ref (ex 9), .ref (ex 10), .ref (ex 11), .ref (ex 12), .ref (ex 13)])), ((a 4), .inl (T 1, 9, .inl (fi 2))), ((a 5), .inl (T 1, 9, .inl (fi 3)))]) [2, 0, 3, 4, 5, 1] (by decide +kernel) rfl
    rw [hQ]
    exact W.iret (v := rk) hx hb hr (fun t ht hW => ⟨⟨rk, rk, rfl, rfl, xf [], xh [], xv [], xl [], by rw [ht]; exact hP9, hD9, trivial⟩, hS.F ht⟩) hS.2.2 dX5_measureOf_40
  · refine lv_tableIn (off := 40) (tgt := 41) hx hb dX5_measureOf_1 (by omega) (by omega) (by rw [sw]; decide) (by decide) ?_
    refine lv_aload_n hx hb dX5_measureOf_41 rfl (lv_at hl 1 rfl) ?_
    refine va_getN (D := D) (ci := 2) (v := .ref (a 5)) (C := RX2) (T := TX2) (N := 15) hx hb htg inX2 hown hK.1 hP 0 rfl rfl 12 (by decide) (va_Nw.use rfl (hK.2.1 _ kn_277)) (fun _ h9 => h9) rfl dX5_measureOf_42 ?_
    refine lv_iload_n hx hb dX5_measureOf_45 rfl (lv_at hl 2 rfl) ?_
    refine va_iald hx hb hK.1 hP 5 1 rfl rfl (vp_in_iff.mpr (by omega)) dX5_measureOf_46 ?_
    have hP9 := hP.sub (ws' := [((a 0), .inr (2, [.ref (a 3), .int (vi 2), .int (vi 3), .int (vi 4), .int (vi 5), .int (vi 6), .int (vi 7), .ref (ex 0), .ref (a 4), .ref (ex 1), .ref (a 2), .ref (a 1), .ref (a 5), .ref (ex 2), .ref (ex 3)])), ((a 1), .inl (T 1, 9, .inl (fi 0))), ((a 2), .inl (T 1, 9, .inl (fi 1))), ((a 3), .inr (7, [.int (vi 8), .int (vi 9), .ref (ex 4), .ref (ex 5), .ref (ex 6), .ref (ex 7), .ref (ex 8), .ref (ex 9), .ref (ex 10), .ref (ex 11), .ref (ex 12), .ref (ex 13)])), ((a 4), .inl (T 1, 9, .inl (fi 2))), ((a 5), .inl (T 1, 9, .inl (fi 3)))]) [0, 1, 2, 3, 4, 5] rfl
    have hD9 := hD.sub (ws' := [((a 0), .inr (2, [.ref (a 3), .int (vi 2), .int (vi 3), .int (vi 4), .int (vi 5), .int (vi 6), .int (vi 7), .ref (ex 0), .ref (a 4), .ref (ex 1), .ref (a 2), .ref (a 1), .ref (a 5), .ref (ex 2), .ref (ex 3)])), ((a 1), .inl (T 1, 9, .inl (fi 0))), ((a 2), .inl (T 1, 9, .inl (fi 1))), ((a 3), .inr (7, [.int (vi 8), .int (vi 9), .ref (ex 4), .ref (ex 5), .ref (ex 6), .ref (ex 7), .ref (ex 8), .ref (ex 9), .ref (ex 10), .ref (ex 11), .ref (ex 12), .ref (ex 13)])), ((a 4), .inl (T 1, 9, .inl (fi 2))), ((a 5), .inl (T 1, 9, .inl (fi 3)))]) [0, 1, 2, 3, 4, 5] (by decide +kernel) rfl
    rw [hQ]
    exact W.iret (v := ((fi 3) (vi 1).toNatClampNeg)) hx hb hr (fun t ht hW => ⟨⟨((fi 3) (vi 1).toNatClampNeg), ((fi 3) (vi 1).toNatClampNeg), rfl, rfl, xf [], xh [], xv [], xl [], by rw [ht]; exact hP9, hD9, trivial⟩, hS.F ht⟩) hS.2.2 dX5_measureOf_47
  · refine lv_tableOut (tgt := 48) hx hb dX5_measureOf_1 (by omega) (by decide) ?_
    refine lv_iload_n hx hb dX5_measureOf_48 rfl (lv_at hl 2 rfl) ?_
    have hP9 := hP.sub (ws' := [((a 0), .inr (2, [.ref (a 3), .int (vi 2), .int (vi 3), .int (vi 4), .int (vi 5), .int (vi 6), .int (vi 7), .ref (ex 0), .ref (a 4), .ref (ex 1), .ref (a 2), .ref (a 1), .ref (a 5), .ref (ex 2), .ref (ex 3)])), ((a 1), .inl (T 1, 9, .inl (fi 0))), ((a 2), .inl (T 1, 9, .inl (fi 1))), ((a 3), .inr (7, [.int (vi 8), .int (vi 9), .ref (ex 4), .ref (ex 5), .ref (ex 6), .ref (ex 7), .ref (ex 8), .ref (ex 9), .ref (ex 10), .ref (ex 11), .ref (ex 12), .ref (ex 13)])), ((a 4), .inl (T 1, 9, .inl (fi 2))), ((a 5), .inl (T 1, 9, .inl (fi 3)))]) [0, 1, 2, 3, 4, 5] rfl
    have hD9 := hD.sub (ws' := [((a 0), .inr (2, [.ref (a 3), .int (vi 2), .int (vi 3), .int (vi 4), .int (vi 5), .int (vi 6), .int (vi 7), .ref (ex 0), .ref (a 4), .ref (ex 1), .ref (a 2), .ref (a 1), .ref (a 5), .ref (ex 2), .ref (ex 3)])), ((a 1), .inl (T 1, 9, .inl (fi 0))), ((a 2), .inl (T 1, 9, .inl (fi 1))), ((a 3), .inr (7, [.int (vi 8), .int (vi 9), .ref (ex 4), .ref (ex 5), .ref (ex 6), .ref (ex 7), .ref (ex 8), .ref (ex 9), .ref (ex 10), .ref (ex 11), .ref (ex 12), .ref (ex 13)])), ((a 4), .inl (T 1, 9, .inl (fi 2))), ((a 5), .inl (T 1, 9, .inl (fi 3)))]) [0, 1, 2, 3, 4, 5] (by decide +kernel) rfl
    rw [hQ]
    exact W.iret (v := (vi 1)) hx hb hr (fun t ht hW => ⟨⟨(vi 1), (vi 1), rfl, rfl, xf [], xh [], xv [], xl [], by rw [ht]; exact hP9, hD9, trivial⟩, hS.F ht⟩) hS.2.2 dX5_measureOf_49
abbrev pre_X5_isMeasured (T : Nat → ClassId) (a ex : Nat → Nat) (fi : Nat → Nat → Int32) (fl : Nat → Nat → Int64) (vi : Nat → Int32) (vl : Nat → Int64) : va_W := [((a 0), .inr (5, [.ref (ex 0), .ref (ex 1), .ref (a 1), .ref (a 8), .ref (a 9), .ref (ex 2), .int (vi 2), .int (vi 3)])), ((a 1), .inl (T 1, 40, .inl (fi 0))), ((a 2), .inr (2, [.ref (a 5), .int (vi 4), .int (vi 5), .int (vi 6), .int (vi 7), .int (vi 8), .int (vi 9), .ref (ex 3), .ref (a 6), .ref (ex 4), .ref (a 4), .ref (a 3), .ref (a 7), .ref (ex 5), .ref (ex 6)])), ((a 3), .inl (T 1, 9, .inl (fi 1))), ((a 4), .inl (T 1, 9, .inl (fi 2))), ((a 5), .inr (7, [.int (vi 10), .int (vi 11), .ref (ex 7), .ref (ex 8), .ref (ex 9), .ref (ex 10), .ref (ex 11), .ref (ex 12), .ref (ex 13), .ref (ex 14), .ref (ex 15), .ref (ex 16)])), ((a 6), .inl (T 1, 9, .inl (fi 3))), ((a 7), .inl (T 1, 9, .inl (fi 4))), ((a 8), .inl (T 1, 40, .inl (fi 5))), ((a 9), .inl (T 1, 40, .inl (fi 6)))]
set_option maxHeartbeats 8000000 in
set_option maxRecDepth 100000 in
theorem c_X5_isMeasured (l : Launch) (D : va_G) (T : Nat → ClassId) (a ex : Nat → Nat) (fi : Nat → Nat → Int32) (fl : Nat → Nat → Int64) (vi : Nat → Int32) (vl : Nat → Int64) (sz : Nat) (hp0 : 0 ≤ (vi 0).toInt ∧ (vi 0).toInt ≤ 39) (hp1 : 0 ≤ (vi 1).toInt ∧ (vi 1).toInt ≤ 8) (hp2 : 0 ≤ (vi 2).toInt ∧ (vi 2).toInt ≤ 40) (hp3 : 0 ≤ (vi 3).toInt ∧ (vi 3).toInt ≤ 20) (hp4 : 0 ≤ (vi 4).toInt ∧ (vi 4).toInt ≤ 200) (hp5 : 0 ≤ (vi 9).toInt ∧ (vi 9).toInt ≤ 9) (hp6 : rg (fi 2) 0 9 (-1) 8) (hp7 : 0 ≤ (vi 10).toInt ∧ (vi 10).toInt ≤ 9) (hp8 : 0 ≤ (vi 11).toInt ∧ (vi 11).toInt ≤ 9) : Met l yX5_isMeasured (xw yX5_isMeasured cX5_isMeasured 5 (some .boolean)) ({ frames := 3, cells := 0, slots := 0, locals := 77 }) (xP D T [.ref (a 0), .int (vi 0), .ref (a 2), .int (vi 1)] sz (pre_X5_isMeasured T a ex fi fl vi vl)) (va_Qi (fun r u => r = u) (xC D (va_A (pre_X5_isMeasured T a ex fi fl vi vl) sz) (fun fj fm vj vm => [((a 0), .inr (5, [.ref (ex 0), .ref (ex 1), .ref (a 1), .ref (a 8), .ref (a 9), .ref (ex 2), .int (vi 2), .int (vi 3)])), ((a 1), .inl (T 1, 40, .inl (fi 0))), ((a 2), .inr (2, [.ref (a 5), .int (vi 4), .int (vi 5), .int (vi 6), .int (vi 7), .int (vi 8), .int (vi 9), .ref (ex 3), .ref (a 6), .ref (ex 4), .ref (a 4), .ref (a 3), .ref (a 7), .ref (ex 5), .ref (ex 6)])), ((a 3), .inl (T 1, 9, .inl (fi 1))), ((a 4), .inl (T 1, 9, .inl (fi 2))), ((a 5), .inr (7, [.int (vi 10), .int (vi 11), .ref (ex 7), .ref (ex 8), .ref (ex 9), .ref (ex 10), .ref (ex 11), .ref (ex 12), .ref (ex 13), .ref (ex 14), .ref (ex 15), .ref (ex 16)])), ((a 6), .inl (T 1, 9, .inl (fi 3))), ((a 7), .inl (T 1, 9, .inl (fi 4))), ((a 8), .inl (T 1, 40, .inl (fi 5))), ((a 9), .inl (T 1, 40, .inl (fi 6)))]) (fun (r : Int32) (fj : Nat → Nat → Int32) (fm : Nat → Nat → Int64) (vj : Nat → Int32) (vm : Nat → Int64) => ((r = 1 ∧ (True)) ∨ (r = 0 ∧ (True))) ∧ True)) (va_A (pre_X5_isMeasured T a ex fi fl vi vl) sz)) 0 0 (va_A (pre_X5_isMeasured T a ex fi fl vi vl) sz) := by
  refine xofW (cc := cX5_isMeasured) (maxL := 5) (ret := (some .boolean)) (by decide) rfl ?_
  intro p e s m args below meth c s₁ R Q hR hQ B hml hv
  obtain ⟨rfl, hsz, hP, hK, hD0⟩ := hv
  have hx := B.exec
  have hb := B.bytes
  have hr := B.returns
  have hts := atoms_spec (ws := xw yX5_isMeasured cX5_isMeasured 5 (some .boolean)) B.pre
  have htg : ∀ w ∈ xg, w.before _ s = true := fun w h => hts w (List.mem_cons_of_mem _ h)
  have hown : s.vm.findClass RX5 = some m.cls := findClass_of_methodNamed B.named
  have hlocks := B.notSynchronized
  subst hsz
  have hD := hD0.self (sz := s.heap.size)
  generalize hAe : va_A (pre_X5_isMeasured T a ex fi fl vi vl) s.heap.size = A at hD hQ
  have hA : ∀ q : Nat, s.heap.size ≤ q → A q := fun q h => by rw [← hAe]; exact Or.inr h
  have hS : va_S A s.heap s.heap [] := va_S.rf
  replace hP : va_P D vwCl [((a 0), .inr (5, [.ref (ex 0), .ref (ex 1), .ref (a 1), .ref (a 8), .ref (a 9), .ref (ex 2), .int (vi 2), .int (vi 3)])), ((a 1), .inl (T 1, 40, .inl (fi 0))), ((a 2), .inr (2, [.ref (a 5), .int (vi 4), .int (vi 5), .int (vi 6), .int (vi 7), .int (vi 8), .int (vi 9), .ref (ex 3), .ref (a 6), .ref (ex 4), .ref (a 4), .ref (a 3), .ref (a 7), .ref (ex 5), .ref (ex 6)])), ((a 3), .inl (T 1, 9, .inl (fi 1))), ((a 4), .inl (T 1, 9, .inl (fi 2))), ((a 5), .inr (7, [.int (vi 10), .int (vi 11), .ref (ex 7), .ref (ex 8), .ref (ex 9), .ref (ex 10), .ref (ex 11), .ref (ex 12), .ref (ex 13), .ref (ex 14), .ref (ex 15), .ref (ex 16)])), ((a 6), .inl (T 1, 9, .inl (fi 3))), ((a 7), .inl (T 1, 9, .inl (fi 4))), ((a 8), .inl (T 1, 40, .inl (fi 5))), ((a 9), .inl (T 1, 40, .inl (fi 6)))] s.heap := hP
  replace hD : va_D A [((a 0), .inr (5, [.ref (ex 0), .ref (ex 1), .ref (a 1), .ref (a 8), .ref (a 9), .ref (ex 2), .int (vi 2), .int (vi 3)])), ((a 1), .inl (T 1, 40, .inl (fi 0))), ((a 2), .inr (2, [.ref (a 5), .int (vi 4), .int (vi 5), .int (vi 6), .int (vi 7), .int (vi 8), .int (vi 9), .ref (ex 3), .ref (a 6), .ref (ex 4), .ref (a 4), .ref (a 3), .ref (a 7), .ref (ex 5), .ref (ex 6)])), ((a 3), .inl (T 1, 9, .inl (fi 1))), ((a 4), .inl (T 1, 9, .inl (fi 2))), ((a 5), .inr (7, [.int (vi 10), .int (vi 11), .ref (ex 7), .ref (ex 8), .ref (ex 9), .ref (ex 10), .ref (ex 11), .ref (ex 12), .ref (ex 13), .ref (ex 14), .ref (ex 15), .ref (ex 16)])), ((a 6), .inl (T 1, 9, .inl (fi 3))), ((a 7), .inl (T 1, 9, .inl (fi 4))), ((a 8), .inl (T 1, 40, .inl (fi 5))), ((a 9), .inl (T 1, 40, .inl (fi 6)))] := hD
  have hl := lv_entry ([.ref (a 0), .int (vi 0), .ref (a 2), .int (vi 1)]) (n := 5) (Nat.le_of_ble_eq_true rfl)
  rw [lg_entry_eq]
  generalize (lg_sl ([.ref (a 0), .int (vi 0), .ref (a 2), .int (vi 1)]) ++ List.replicate (5 - (lg_sl ([.ref (a 0), .int (vi 0), .ref (a 2), .int (vi 1)])).length) Slot.unset).toArray = ls at hl ⊢
  replace hl : lv_has ls 5 [(0, .ref (a 0)), (1, .int (vi 0)), (2, .ref (a 2)), (3, .int (vi 1))] := hl
  refine lv_aload_n hx hb dX5_isMeasured_0 rfl (lv_at hl 0 rfl) ?_
  refine va_get (D := D) (ci := 5) (v := .ref (a 1)) (C := RX5) (T := TX5) (N := 8) hx hb htg inX5 hown hK.1 hP 0 rfl rfl 2 (by decide) (htg _ kw_386) (fun _ h9 => h9) rfl dX5_isMeasured_1 ?_
  refine lv_iload_n hx hb dX5_isMeasured_4 rfl (lv_at hl 1 rfl) ?_
  refine va_iald hx hb hK.1 hP 1 1 rfl rfl (vp_in_iff.mpr (by omega)) dX5_isMeasured_5 ?_
  refine lv_aload_n hx hb dX5_isMeasured_6 rfl (lv_at hl 2 rfl) ?_
  refine lv_iload_n hx hb dX5_isMeasured_7 rfl (lv_at hl 3 rfl) ?_
  obtain ⟨hC9, hPc, hDc, hFc⟩ := xcut (wc := (pre_X5_measureOf T (xa [(a 2), (a 3), (a 4), (a 5), (a 6), (a 7)]) (xa [(ex 3), (ex 4), (ex 5), (ex 6), (ex 7), (ex 8), (ex 9), (ex 10), (ex 11), (ex 12), (ex 13), (ex 14), (ex 15), (ex 16)]) (xf [(fi 1), (fi 2), (fi 3), (fi 4)]) (xh []) (xv [((fi 0) (vi 0).toNatClampNeg), (vi 1), (vi 4), (vi 5), (vi 6), (vi 7), (vi 8), (vi 9), (vi 10), (vi 11)]) (xl []))) hP hD hS hA [2, 3, 4, 5, 6, 7] (by decide) rfl
  refine va_calli (va_runS (As := [.int ((fi 0) (vi 0).toNatClampNeg), .ref (a 2), .int (vi 1)]) (rest := []) ⟨hx, hb, hml, hown, htg⟩ (c_X5_measureOf l D T (xa [(a 2), (a 3), (a 4), (a 5), (a 6), (a 7)]) (xa [(ex 3), (ex 4), (ex 5), (ex 6), (ex 7), (ex 8), (ex 9), (ex 10), (ex 11), (ex 12), (ex 13), (ex 14), (ex 15), (ex 16)]) (xf [(fi 1), (fi 2), (fi 3), (fi 4)]) (xh []) (xv [((fi 0) (vi 0).toNatClampNeg), (vi 1), (vi 4), (vi 5), (vi 6), (vi 7), (vi 8), (vi 9), (vi 10), (vi 11)]) (xl []) s.heap.size hp1 hp4 hp5 (show rg (fi 2) 0 9 (-1) 8 from hp6) hp7 hp8) ⟨callB_of 3 htg (xg_ok kw_1257) rfl rfl rfl (htg _ kw_12) (htg _ kw_1255) (by decide +kernel) ⟨by rw [hR]; exact Nat.le_of_ble_eq_true rfl, by rw [hR]; exact Nat.le_of_ble_eq_true rfl⟩, htg _ kw_1256⟩ (xpreS hK hPc hDc) rfl rfl hl.1 rfl (lv_room (Nat.le_of_ble_eq_true rfl)) dX5_isMeasured_8 ⟨by rw [hR]; exact Nat.le_of_ble_eq_true rfl, by rw [hR]; exact Nat.le_of_ble_eq_true rfl⟩) hS (fun q _ h => hFc q h) hFc (fun r9 u9 t H1 locs ht hvm hw hB hz1 hk1 hS => ?_)
  subst hw
  obtain ⟨fik, flk, vik, vlk, hP1, hD1, hG⟩ := hB
  rw [ht] at hP1
  obtain ⟨hP, hD⟩ := va_join (wr := [((a 0), .inr (5, [.ref (ex 0), .ref (ex 1), .ref (a 1), .ref (a 8), .ref (a 9), .ref (ex 2), .int (vi 2), .int (vi 3)])), ((a 1), .inl (T 1, 40, .inl (fi 0))), ((a 8), .inl (T 1, 40, .inl (fi 5))), ((a 9), .inl (T 1, 40, .inl (fi 6)))]) (w1 := [((a 2), .inr (2, [.ref (a 5), .int (vi 4), .int (vi 5), .int (vi 6), .int (vi 7), .int (vi 8), .int (vi 9), .ref (ex 3), .ref (a 6), .ref (ex 4), .ref (a 4), .ref (a 3), .ref (a 7), .ref (ex 5), .ref (ex 6)])), ((a 3), .inl (T 1, 9, .inl (fi 1))), ((a 4), .inl (T 1, 9, .inl (fi 2))), ((a 5), .inr (7, [.int (vi 10), .int (vi 11), .ref (ex 7), .ref (ex 8), .ref (ex 9), .ref (ex 10), .ref (ex 11), .ref (ex 12), .ref (ex 13), .ref (ex 14), .ref (ex 15), .ref (ex 16)])), ((a 6), .inl (T 1, 9, .inl (fi 3))), ((a 7), .inl (T 1, 9, .inl (fi 4)))]) hP hD [2, 3, 4, 5, 6, 7] [0, 1, 8, 9] hC9 rfl (by decide) (by decide) hk1 hFc hP1 hD1
  obtain ⟨rk, er9⟩ : ∃ z, z = r9 := ⟨_, rfl⟩
  subst er9
  clear hPc hDc hFc hP1 hD1 hk1 hz1 hvm ht hC9
  generalize H1 = H at hP hS ⊢
  obtain ⟨hP, hD⟩ := (show xPD D A [((a 0), .inr (5, [.ref (ex 0), .ref (ex 1), .ref (a 1), .ref (a 8), .ref (a 9), .ref (ex 2), .int (vi 2), .int (vi 3)])), ((a 1), .inl (T 1, 40, .inl (fi 0))), ((a 8), .inl (T 1, 40, .inl (fi 5))), ((a 9), .inl (T 1, 40, .inl (fi 6))), ((a 2), .inr (2, [.ref (a 5), .int (vi 4), .int (vi 5), .int (vi 6), .int (vi 7), .int (vi 8), .int (vi 9), .ref (ex 3), .ref (a 6), .ref (ex 4), .ref (a 4), .ref (a 3), .ref (a 7), .ref (ex 5), .ref (ex 6)])), ((a 3), .inl (T 1, 9, .inl (fi 1))), ((a 4), .inl (T 1, 9, .inl (fi 2))), ((a 5), .inr (7, [.int (vi 10), .int (vi 11), .ref (ex 7), .ref (ex 8), .ref (ex 9), .ref (ex 10), .ref (ex 11), .ref (ex 12), .ref (ex 13), .ref (ex 14), .ref (ex 15), .ref (ex 16)])), ((a 6), .inl (T 1, 9, .inl (fi 3))), ((a 7), .inl (T 1, 9, .inl (fi 4)))] H from ⟨hP, hD⟩)
  clear hG
  refine lv_istore (lv' := [(4, .int rk), (0, .ref (a 0)), (1, .int (vi 0)), (2, .ref (a 2)), (3, .int (vi 1))]) hx hb dX5_isMeasured_11 hl (by decide) rfl (fun ls hl => ?_)
  refine lv_aload_n hx hb dX5_isMeasured_13 rfl (lv_at hl 1 rfl) ?_
  refine va_get (D := D) (ci := 5) (v := .ref (a 8)) (C := RX5) (T := TX5) (N := 8) hx hb htg inX5 hown hK.1 hP 0 rfl rfl 3 (by decide) (htg _ kw_387) (fun _ h9 => h9) rfl dX5_isMeasured_14 ?_
  refine lv_iload_n hx hb dX5_isMeasured_17 rfl (lv_at hl 2 rfl) ?_
  refine va_iald hx hb hK.1 hP 2 1 rfl rfl (vp_in_iff.mpr (by omega)) dX5_isMeasured_18 ?_
  refine lv_bipush (v := 60) hx hb dX5_isMeasured_19 (by decide) ?_
  refine lv_icmp_ne (tgt := 41) hx hb dX5_isMeasured_21 (by decide) (fun c21 => ?_) (fun c21 => ?_)
  · have c21 := xne (k := 60) (by decide) c21
    refine lv_aload_n hx hb dX5_isMeasured_41 rfl (lv_at hl 1 rfl) ?_
    refine va_get (D := D) (ci := 5) (v := .ref (a 8)) (C := RX5) (T := TX5) (N := 8) hx hb htg inX5 hown hK.1 hP 0 rfl rfl 3 (by decide) (htg _ kw_387) (fun _ h9 => h9) rfl dX5_isMeasured_42 ?_
    refine lv_iload_n hx hb dX5_isMeasured_45 rfl (lv_at hl 2 rfl) ?_
    refine va_iald hx hb hK.1 hP 2 1 rfl rfl (vp_in_iff.mpr (by omega)) dX5_isMeasured_46 ?_
    refine lv_bipush (v := 61) hx hb dX5_isMeasured_47 (by decide) ?_
    refine lv_icmp_ne (tgt := 71) hx hb dX5_isMeasured_49 (by decide) (fun c49 => ?_) (fun c49 => ?_)
    · have c49 := xne (k := 61) (by decide) c49
      refine lv_iload hx hb dX5_isMeasured_71 (lv_at hl 0 rfl) ?_
      refine lv_aload_n hx hb dX5_isMeasured_73 rfl (lv_at hl 1 rfl) ?_
      refine va_get (D := D) (ci := 5) (v := .ref (a 9)) (C := RX5) (T := TX5) (N := 8) hx hb htg inX5 hown hK.1 hP 0 rfl rfl 4 (by decide) (htg _ kw_388) (fun _ h9 => h9) rfl dX5_isMeasured_74 ?_
      refine lv_iload_n hx hb dX5_isMeasured_77 rfl (lv_at hl 2 rfl) ?_
      refine va_iald hx hb hK.1 hP 3 1 rfl rfl (vp_in_iff.mpr (by omega)) dX5_isMeasured_78 ?_
      refine lv_icmp_le (tgt := 86) hx hb dX5_isMeasured_79 (by decide) (fun c79 => ?_) (fun c79 => ?_)
      · have c79 := Int32.le_iff_toInt_le.mp c79
        have rc79 := xrng rk; have qc79 := xrng ((fi 6) (vi 0).toNatClampNeg)
        refine lv_iconst (v := 0) hx hb dX5_isMeasured_86 (by decide) ?_
        have hP9 := hP.sub (ws' := [((a 0), .inr (5, [.ref (ex 0), .ref (ex 1), .ref (a 1), .ref (a 8), .ref (a 9), .ref (ex 2), .int (vi 2), .int (vi 3)])), ((a 1), .inl (T 1, 40, .inl (fi 0))), ((a 2), .inr (2, [.ref (a 5), .int (vi 4), .int (vi 5), .int (vi 6), .int (vi 7), .int (vi 8), .int (vi 9), .ref (ex 3), .ref (a 6), .ref (ex 4), .ref (a 4), .ref (a 3), .ref (a 7), .ref (ex 5), .ref (ex 6)])), ((a 3), .inl (T 1, 9, .inl (fi 1))), ((a 4), .inl (T 1, 9, .inl (fi 2))), ((a 5), .inr (7, [.int (vi 10), .int (vi 11), .ref (ex 7), .ref (ex 8), .ref (ex 9), .ref (ex 10), .ref (ex 11), .ref (ex 12), .ref (ex 13), .ref (ex 14), .ref (ex 15), .ref (ex 16)])), ((a 6), .inl (T 1, 9, .inl (fi 3))), ((a 7), .inl (T 1, 9, .inl (fi 4))), ((a 8), .inl (T 1, 40, .inl (fi 5))), ((a 9), .inl (T 1, 40, .inl (fi 6)))]) [0, 1, 4, 5, 6, 7, 8, 9, 2, 3] rfl
        have hD9 := hD.sub (ws' := [((a 0), .inr (5, [.ref (ex 0), .ref (ex 1), .ref (a 1), .ref (a 8), .ref (a 9), .ref (ex 2), .int (vi 2), .int (vi 3)])), ((a 1), .inl (T 1, 40, .inl (fi 0))), ((a 2), .inr (2, [.ref (a 5), .int (vi 4), .int (vi 5), .int (vi 6), .int (vi 7), .int (vi 8), .int (vi 9), .ref (ex 3), .ref (a 6), .ref (ex 4), .ref (a 4), .ref (a 3), .ref (a 7), .ref (ex 5), .ref (ex 6)])), ((a 3), .inl (T 1, 9, .inl (fi 1))), ((a 4), .inl (T 1, 9, .inl (fi 2))), ((a 5), .inr (7, [.int (vi 10), .int (vi 11), .ref (ex 7), .ref (ex 8), .ref (ex 9), .ref (ex 10), .ref (ex 11), .ref (ex 12), .ref (ex 13), .ref (ex 14), .ref (ex 15), .ref (ex 16)])), ((a 6), .inl (T 1, 9, .inl (fi 3))), ((a 7), .inl (T 1, 9, .inl (fi 4))), ((a 8), .inl (T 1, 40, .inl (fi 5))), ((a 9), .inl (T 1, 40, .inl (fi 6)))]) [0, 1, 4, 5, 6, 7, 8, 9, 2, 3] (by decide +kernel) rfl
        rw [hQ]
        exact W.zret (v := 0) hx hb hr rfl (fun t ht hW => ⟨⟨0, 0, rfl, rfl, xf [], xh [], xv [], xl [], by rw [ht]; exact hP9, hD9, ⟨(Or.inr ⟨rfl, by show True; first | trivial | omega | assumption⟩), trivial⟩⟩, hS.F ht⟩) hS.2.2 dX5_isMeasured_87
      · have c79 := (mt Int32.le_iff_toInt_le.mpr c79)
        have rc79 := xrng rk; have qc79 := xrng ((fi 6) (vi 0).toNatClampNeg)
        refine lv_iconst (v := 1) hx hb dX5_isMeasured_82 (by decide) ?_
        refine lv_goto (tgt := 87) hx hb dX5_isMeasured_83 (by decide) ?_
        have hP9 := hP.sub (ws' := [((a 0), .inr (5, [.ref (ex 0), .ref (ex 1), .ref (a 1), .ref (a 8), .ref (a 9), .ref (ex 2), .int (vi 2), .int (vi 3)])), ((a 1), .inl (T 1, 40, .inl (fi 0))), ((a 2), .inr (2, [.ref (a 5), .int (vi 4), .int (vi 5), .int (vi 6), .int (vi 7), .int (vi 8), .int (vi 9), .ref (ex 3), .ref (a 6), .ref (ex 4), .ref (a 4), .ref (a 3), .ref (a 7), .ref (ex 5), .ref (ex 6)])), ((a 3), .inl (T 1, 9, .inl (fi 1))), ((a 4), .inl (T 1, 9, .inl (fi 2))), ((a 5), .inr (7, [.int (vi 10), .int (vi 11), .ref (ex 7), .ref (ex 8), .ref (ex 9), .ref (ex 10), .ref (ex 11), .ref (ex 12), .ref (ex 13), .ref (ex 14), .ref (ex 15), .ref (ex 16)])), ((a 6), .inl (T 1, 9, .inl (fi 3))), ((a 7), .inl (T 1, 9, .inl (fi 4))), ((a 8), .inl (T 1, 40, .inl (fi 5))), ((a 9), .inl (T 1, 40, .inl (fi 6)))]) [0, 1, 4, 5, 6, 7, 8, 9, 2, 3] rfl
        have hD9 := hD.sub (ws' := [((a 0), .inr (5, [.ref (ex 0), .ref (ex 1), .ref (a 1), .ref (a 8), .ref (a 9), .ref (ex 2), .int (vi 2), .int (vi 3)])), ((a 1), .inl (T 1, 40, .inl (fi 0))), ((a 2), .inr (2, [.ref (a 5), .int (vi 4), .int (vi 5), .int (vi 6), .int (vi 7), .int (vi 8), .int (vi 9), .ref (ex 3), .ref (a 6), .ref (ex 4), .ref (a 4), .ref (a 3), .ref (a 7), .ref (ex 5), .ref (ex 6)])), ((a 3), .inl (T 1, 9, .inl (fi 1))), ((a 4), .inl (T 1, 9, .inl (fi 2))), ((a 5), .inr (7, [.int (vi 10), .int (vi 11), .ref (ex 7), .ref (ex 8), .ref (ex 9), .ref (ex 10), .ref (ex 11), .ref (ex 12), .ref (ex 13), .ref (ex 14), .ref (ex 15), .ref (ex 16)])), ((a 6), .inl (T 1, 9, .inl (fi 3))), ((a 7), .inl (T 1, 9, .inl (fi 4))), ((a 8), .inl (T 1, 40, .inl (fi 5))), ((a 9), .inl (T 1, 40, .inl (fi 6)))]) [0, 1, 4, 5, 6, 7, 8, 9, 2, 3] (by decide +kernel) rfl
        rw [hQ]
        exact W.zret (v := 1) hx hb hr rfl (fun t ht hW => ⟨⟨1, 1, rfl, rfl, xf [], xh [], xv [], xl [], by rw [ht]; exact hP9, hD9, ⟨(Or.inl ⟨rfl, by show True; first | trivial | omega | assumption⟩), trivial⟩⟩, hS.F ht⟩) hS.2.2 dX5_isMeasured_87
    · have c49 := xeq (k := 61) (by decide) c49
      refine lv_iload hx hb dX5_isMeasured_52 (lv_at hl 0 rfl) ?_
      refine lv_aload_n hx hb dX5_isMeasured_54 rfl (lv_at hl 1 rfl) ?_
      refine va_get (D := D) (ci := 5) (v := .ref (a 9)) (C := RX5) (T := TX5) (N := 8) hx hb htg inX5 hown hK.1 hP 0 rfl rfl 4 (by decide) (htg _ kw_388) (fun _ h9 => h9) rfl dX5_isMeasured_55 ?_
      refine lv_iload_n hx hb dX5_isMeasured_58 rfl (lv_at hl 2 rfl) ?_
      refine va_iald hx hb hK.1 hP 3 1 rfl rfl (vp_in_iff.mpr (by omega)) dX5_isMeasured_59 ?_
      refine lv_icmp_ne (tgt := 67) hx hb dX5_isMeasured_60 (by decide) (fun c60 => ?_) (fun c60 => ?_)
      · have c60 := xne2 c60
        have rc60 := xrng rk; have qc60 := xrng ((fi 6) (vi 0).toNatClampNeg)
        refine lv_iconst (v := 0) hx hb dX5_isMeasured_67 (by decide) ?_
        refine lv_goto (tgt := 87) hx hb dX5_isMeasured_68 (by decide) ?_
        have hP9 := hP.sub (ws' := [((a 0), .inr (5, [.ref (ex 0), .ref (ex 1), .ref (a 1), .ref (a 8), .ref (a 9), .ref (ex 2), .int (vi 2), .int (vi 3)])), ((a 1), .inl (T 1, 40, .inl (fi 0))), ((a 2), .inr (2, [.ref (a 5), .int (vi 4), .int (vi 5), .int (vi 6), .int (vi 7), .int (vi 8), .int (vi 9), .ref (ex 3), .ref (a 6), .ref (ex 4), .ref (a 4), .ref (a 3), .ref (a 7), .ref (ex 5), .ref (ex 6)])), ((a 3), .inl (T 1, 9, .inl (fi 1))), ((a 4), .inl (T 1, 9, .inl (fi 2))), ((a 5), .inr (7, [.int (vi 10), .int (vi 11), .ref (ex 7), .ref (ex 8), .ref (ex 9), .ref (ex 10), .ref (ex 11), .ref (ex 12), .ref (ex 13), .ref (ex 14), .ref (ex 15), .ref (ex 16)])), ((a 6), .inl (T 1, 9, .inl (fi 3))), ((a 7), .inl (T 1, 9, .inl (fi 4))), ((a 8), .inl (T 1, 40, .inl (fi 5))), ((a 9), .inl (T 1, 40, .inl (fi 6)))]) [0, 1, 4, 5, 6, 7, 8, 9, 2, 3] rfl
        have hD9 := hD.sub (ws' := [((a 0), .inr (5, [.ref (ex 0), .ref (ex 1), .ref (a 1), .ref (a 8), .ref (a 9), .ref (ex 2), .int (vi 2), .int (vi 3)])), ((a 1), .inl (T 1, 40, .inl (fi 0))), ((a 2), .inr (2, [.ref (a 5), .int (vi 4), .int (vi 5), .int (vi 6), .int (vi 7), .int (vi 8), .int (vi 9), .ref (ex 3), .ref (a 6), .ref (ex 4), .ref (a 4), .ref (a 3), .ref (a 7), .ref (ex 5), .ref (ex 6)])), ((a 3), .inl (T 1, 9, .inl (fi 1))), ((a 4), .inl (T 1, 9, .inl (fi 2))), ((a 5), .inr (7, [.int (vi 10), .int (vi 11), .ref (ex 7), .ref (ex 8), .ref (ex 9), .ref (ex 10), .ref (ex 11), .ref (ex 12), .ref (ex 13), .ref (ex 14), .ref (ex 15), .ref (ex 16)])), ((a 6), .inl (T 1, 9, .inl (fi 3))), ((a 7), .inl (T 1, 9, .inl (fi 4))), ((a 8), .inl (T 1, 40, .inl (fi 5))), ((a 9), .inl (T 1, 40, .inl (fi 6)))]) [0, 1, 4, 5, 6, 7, 8, 9, 2, 3] (by decide +kernel) rfl
        rw [hQ]
        exact W.zret (v := 0) hx hb hr rfl (fun t ht hW => ⟨⟨0, 0, rfl, rfl, xf [], xh [], xv [], xl [], by rw [ht]; exact hP9, hD9, ⟨(Or.inr ⟨rfl, by show True; first | trivial | omega | assumption⟩), trivial⟩⟩, hS.F ht⟩) hS.2.2 dX5_isMeasured_87
      · have c60 := congrArg Int32.toInt c60
        have rc60 := xrng rk; have qc60 := xrng ((fi 6) (vi 0).toNatClampNeg)
        refine lv_iconst (v := 1) hx hb dX5_isMeasured_63 (by decide) ?_
        refine lv_goto (tgt := 87) hx hb dX5_isMeasured_64 (by decide) ?_
        have hP9 := hP.sub (ws' := [((a 0), .inr (5, [.ref (ex 0), .ref (ex 1), .ref (a 1), .ref (a 8), .ref (a 9), .ref (ex 2), .int (vi 2), .int (vi 3)])), ((a 1), .inl (T 1, 40, .inl (fi 0))), ((a 2), .inr (2, [.ref (a 5), .int (vi 4), .int (vi 5), .int (vi 6), .int (vi 7), .int (vi 8), .int (vi 9), .ref (ex 3), .ref (a 6), .ref (ex 4), .ref (a 4), .ref (a 3), .ref (a 7), .ref (ex 5), .ref (ex 6)])), ((a 3), .inl (T 1, 9, .inl (fi 1))), ((a 4), .inl (T 1, 9, .inl (fi 2))), ((a 5), .inr (7, [.int (vi 10), .int (vi 11), .ref (ex 7), .ref (ex 8), .ref (ex 9), .ref (ex 10), .ref (ex 11), .ref (ex 12), .ref (ex 13), .ref (ex 14), .ref (ex 15), .ref (ex 16)])), ((a 6), .inl (T 1, 9, .inl (fi 3))), ((a 7), .inl (T 1, 9, .inl (fi 4))), ((a 8), .inl (T 1, 40, .inl (fi 5))), ((a 9), .inl (T 1, 40, .inl (fi 6)))]) [0, 1, 4, 5, 6, 7, 8, 9, 2, 3] rfl
        have hD9 := hD.sub (ws' := [((a 0), .inr (5, [.ref (ex 0), .ref (ex 1), .ref (a 1), .ref (a 8), .ref (a 9), .ref (ex 2), .int (vi 2), .int (vi 3)])), ((a 1), .inl (T 1, 40, .inl (fi 0))), ((a 2), .inr (2, [.ref (a 5), .int (vi 4), .int (vi 5), .int (vi 6), .int (vi 7), .int (vi 8), .int (vi 9), .ref (ex 3), .ref (a 6), .ref (ex 4), .ref (a 4), .ref (a 3), .ref (a 7), .ref (ex 5), .ref (ex 6)])), ((a 3), .inl (T 1, 9, .inl (fi 1))), ((a 4), .inl (T 1, 9, .inl (fi 2))), ((a 5), .inr (7, [.int (vi 10), .int (vi 11), .ref (ex 7), .ref (ex 8), .ref (ex 9), .ref (ex 10), .ref (ex 11), .ref (ex 12), .ref (ex 13), .ref (ex 14), .ref (ex 15), .ref (ex 16)])), ((a 6), .inl (T 1, 9, .inl (fi 3))), ((a 7), .inl (T 1, 9, .inl (fi 4))), ((a 8), .inl (T 1, 40, .inl (fi 5))), ((a 9), .inl (T 1, 40, .inl (fi 6)))]) [0, 1, 4, 5, 6, 7, 8, 9, 2, 3] (by decide +kernel) rfl
        rw [hQ]
        exact W.zret (v := 1) hx hb hr rfl (fun t ht hW => ⟨⟨1, 1, rfl, rfl, xf [], xh [], xv [], xl [], by rw [ht]; exact hP9, hD9, ⟨(Or.inl ⟨rfl, by show True; first | trivial | omega | assumption⟩), trivial⟩⟩, hS.F ht⟩) hS.2.2 dX5_isMeasured_87
  · have c21 := xeq (k := 60) (by decide) c21
    refine lv_iload hx hb dX5_isMeasured_24 (lv_at hl 0 rfl) ?_
    refine lv_aload_n hx hb dX5_isMeasured_26 rfl (lv_at hl 1 rfl) ?_
    refine va_get (D := D) (ci := 5) (v := .ref (a 9)) (C := RX5) (T := TX5) (N := 8) hx hb htg inX5 hown hK.1 hP 0 rfl rfl 4 (by decide) (htg _ kw_388) (fun _ h9 => h9) rfl dX5_isMeasured_27 ?_
    refine lv_iload_n hx hb dX5_isMeasured_30 rfl (lv_at hl 2 rfl) ?_
    refine va_iald hx hb hK.1 hP 3 1 rfl rfl (vp_in_iff.mpr (by omega)) dX5_isMeasured_31 ?_
    refine lv_icmp_ge (tgt := 39) hx hb dX5_isMeasured_32 (by decide) (fun c32 => ?_) (fun c32 => ?_)
    · have c32 := Int32.le_iff_toInt_le.mp c32
      have rc32 := xrng rk; have qc32 := xrng ((fi 6) (vi 0).toNatClampNeg)
      refine lv_iconst (v := 0) hx hb dX5_isMeasured_39 (by decide) ?_
      have hP9 := hP.sub (ws' := [((a 0), .inr (5, [.ref (ex 0), .ref (ex 1), .ref (a 1), .ref (a 8), .ref (a 9), .ref (ex 2), .int (vi 2), .int (vi 3)])), ((a 1), .inl (T 1, 40, .inl (fi 0))), ((a 2), .inr (2, [.ref (a 5), .int (vi 4), .int (vi 5), .int (vi 6), .int (vi 7), .int (vi 8), .int (vi 9), .ref (ex 3), .ref (a 6), .ref (ex 4), .ref (a 4), .ref (a 3), .ref (a 7), .ref (ex 5), .ref (ex 6)])), ((a 3), .inl (T 1, 9, .inl (fi 1))), ((a 4), .inl (T 1, 9, .inl (fi 2))), ((a 5), .inr (7, [.int (vi 10), .int (vi 11), .ref (ex 7), .ref (ex 8), .ref (ex 9), .ref (ex 10), .ref (ex 11), .ref (ex 12), .ref (ex 13), .ref (ex 14), .ref (ex 15), .ref (ex 16)])), ((a 6), .inl (T 1, 9, .inl (fi 3))), ((a 7), .inl (T 1, 9, .inl (fi 4))), ((a 8), .inl (T 1, 40, .inl (fi 5))), ((a 9), .inl (T 1, 40, .inl (fi 6)))]) [0, 1, 4, 5, 6, 7, 8, 9, 2, 3] rfl
      have hD9 := hD.sub (ws' := [((a 0), .inr (5, [.ref (ex 0), .ref (ex 1), .ref (a 1), .ref (a 8), .ref (a 9), .ref (ex 2), .int (vi 2), .int (vi 3)])), ((a 1), .inl (T 1, 40, .inl (fi 0))), ((a 2), .inr (2, [.ref (a 5), .int (vi 4), .int (vi 5), .int (vi 6), .int (vi 7), .int (vi 8), .int (vi 9), .ref (ex 3), .ref (a 6), .ref (ex 4), .ref (a 4), .ref (a 3), .ref (a 7), .ref (ex 5), .ref (ex 6)])), ((a 3), .inl (T 1, 9, .inl (fi 1))), ((a 4), .inl (T 1, 9, .inl (fi 2))), ((a 5), .inr (7, [.int (vi 10), .int (vi 11), .ref (ex 7), .ref (ex 8), .ref (ex 9), .ref (ex 10), .ref (ex 11), .ref (ex 12), .ref (ex 13), .ref (ex 14), .ref (ex 15), .ref (ex 16)])), ((a 6), .inl (T 1, 9, .inl (fi 3))), ((a 7), .inl (T 1, 9, .inl (fi 4))), ((a 8), .inl (T 1, 40, .inl (fi 5))), ((a 9), .inl (T 1, 40, .inl (fi 6)))]) [0, 1, 4, 5, 6, 7, 8, 9, 2, 3] (by decide +kernel) rfl
      rw [hQ]
      exact W.zret (v := 0) hx hb hr rfl (fun t ht hW => ⟨⟨0, 0, rfl, rfl, xf [], xh [], xv [], xl [], by rw [ht]; exact hP9, hD9, ⟨(Or.inr ⟨rfl, by show True; first | trivial | omega | assumption⟩), trivial⟩⟩, hS.F ht⟩) hS.2.2 dX5_isMeasured_40
    · have c32 := (mt Int32.le_iff_toInt_le.mpr c32)
      have rc32 := xrng rk; have qc32 := xrng ((fi 6) (vi 0).toNatClampNeg)
      refine lv_iconst (v := 1) hx hb dX5_isMeasured_35 (by decide) ?_
      refine lv_goto (tgt := 40) hx hb dX5_isMeasured_36 (by decide) ?_
      have hP9 := hP.sub (ws' := [((a 0), .inr (5, [.ref (ex 0), .ref (ex 1), .ref (a 1), .ref (a 8), .ref (a 9), .ref (ex 2), .int (vi 2), .int (vi 3)])), ((a 1), .inl (T 1, 40, .inl (fi 0))), ((a 2), .inr (2, [.ref (a 5), .int (vi 4), .int (vi 5), .int (vi 6), .int (vi 7), .int (vi 8), .int (vi 9), .ref (ex 3), .ref (a 6), .ref (ex 4), .ref (a 4), .ref (a 3), .ref (a 7), .ref (ex 5), .ref (ex 6)])), ((a 3), .inl (T 1, 9, .inl (fi 1))), ((a 4), .inl (T 1, 9, .inl (fi 2))), ((a 5), .inr (7, [.int (vi 10), .int (vi 11), .ref (ex 7), .ref (ex 8), .ref (ex 9), .ref (ex 10), .ref (ex 11), .ref (ex 12), .ref (ex 13), .ref (ex 14), .ref (ex 15), .ref (ex 16)])), ((a 6), .inl (T 1, 9, .inl (fi 3))), ((a 7), .inl (T 1, 9, .inl (fi 4))), ((a 8), .inl (T 1, 40, .inl (fi 5))), ((a 9), .inl (T 1, 40, .inl (fi 6)))]) [0, 1, 4, 5, 6, 7, 8, 9, 2, 3] rfl
      have hD9 := hD.sub (ws' := [((a 0), .inr (5, [.ref (ex 0), .ref (ex 1), .ref (a 1), .ref (a 8), .ref (a 9), .ref (ex 2), .int (vi 2), .int (vi 3)])), ((a 1), .inl (T 1, 40, .inl (fi 0))), ((a 2), .inr (2, [.ref (a 5), .int (vi 4), .int (vi 5), .int (vi 6), .int (vi 7), .int (vi 8), .int (vi 9), .ref (ex 3), .ref (a 6), .ref (ex 4), .ref (a 4), .ref (a 3), .ref (a 7), .ref (ex 5), .ref (ex 6)])), ((a 3), .inl (T 1, 9, .inl (fi 1))), ((a 4), .inl (T 1, 9, .inl (fi 2))), ((a 5), .inr (7, [.int (vi 10), .int (vi 11), .ref (ex 7), .ref (ex 8), .ref (ex 9), .ref (ex 10), .ref (ex 11), .ref (ex 12), .ref (ex 13), .ref (ex 14), .ref (ex 15), .ref (ex 16)])), ((a 6), .inl (T 1, 9, .inl (fi 3))), ((a 7), .inl (T 1, 9, .inl (fi 4))), ((a 8), .inl (T 1, 40, .inl (fi 5))), ((a 9), .inl (T 1, 40, .inl (fi 6)))]) [0, 1, 4, 5, 6, 7, 8, 9, 2, 3] (by decide +kernel) rfl
      rw [hQ]
      exact W.zret (v := 1) hx hb hr rfl (fun t ht hW => ⟨⟨1, 1, rfl, rfl, xf [], xh [], xv [], xl [], by rw [ht]; exact hP9, hD9, ⟨(Or.inl ⟨rfl, by show True; first | trivial | omega | assumption⟩), trivial⟩⟩, hS.F ht⟩) hS.2.2 dX5_isMeasured_40
abbrev pre_X5_soulsOfLeaf (T : Nat → ClassId) (a ex : Nat → Nat) (fi : Nat → Nat → Int32) (fl : Nat → Nat → Int64) (vi : Nat → Int32) (vl : Nat → Int64) : va_W := [((a 0), .inr (5, [.ref (ex 0), .ref (ex 1), .ref (a 3), .ref (a 10), .ref (a 5), .ref (ex 2), .int (vi 1), .int (vi 2)])), ((a 1), .inr (2, [.ref (a 2), .int (vi 3), .int (vi 4), .int (vi 5), .int (vi 6), .int (vi 7), .int (vi 8), .ref (ex 3), .ref (a 8), .ref (ex 4), .ref (a 4), .ref (a 7), .ref (a 9), .ref (ex 5), .ref (ex 6)])), ((a 2), .inr (7, [.int (vi 9), .int (vi 10), .ref (ex 7), .ref (ex 8), .ref (ex 9), .ref (ex 10), .ref (ex 11), .ref (ex 12), .ref (ex 13), .ref (a 6), .ref (ex 14), .ref (ex 15)])), ((a 3), .inl (T 1, 40, .inl (fi 0))), ((a 4), .inl (T 1, 9, .inl (fi 1))), ((a 5), .inl (T 1, 40, .inl (fi 2))), ((a 6), .inl (T 1, 9, .inl (fi 3))), ((a 7), .inl (T 1, 9, .inl (fi 4))), ((a 8), .inl (T 1, 9, .inl (fi 5))), ((a 9), .inl (T 1, 9, .inl (fi 6))), ((a 10), .inl (T 1, 40, .inl (fi 7)))]
set_option maxHeartbeats 8000000 in
set_option maxRecDepth 100000 in
theorem c_X5_soulsOfLeaf (l : Launch) (D : va_G) (T : Nat → ClassId) (a ex : Nat → Nat) (fi : Nat → Nat → Int32) (fl : Nat → Nat → Int64) (vi : Nat → Int32) (vl : Nat → Int64) (sz : Nat) (hp0 : 0 ≤ (vi 0).toInt ∧ (vi 0).toInt ≤ 39) (hp1 : 0 ≤ (vi 1).toInt ∧ (vi 1).toInt ≤ 40) (hp2 : 0 ≤ (vi 2).toInt ∧ (vi 2).toInt ≤ 20) (hp3 : 0 ≤ (vi 3).toInt ∧ (vi 3).toInt ≤ 200) (hp4 : 0 ≤ (vi 8).toInt ∧ (vi 8).toInt ≤ 9) (hp5 : 0 ≤ (vi 9).toInt ∧ (vi 9).toInt ≤ 9) (hp6 : 0 ≤ (vi 10).toInt ∧ (vi 10).toInt ≤ 9) (hp7 : rg (fi 1) 0 9 (-1) 8) : Met l yX5_soulsOfLeaf (xw yX5_soulsOfLeaf cX5_soulsOfLeaf 5 (some .int)) ({ frames := 4, cells := 0, slots := 0, locals := 105 }) (xP D T [.ref (a 0), .int (vi 0), .ref (a 1)] sz (pre_X5_soulsOfLeaf T a ex fi fl vi vl)) (va_Qi (fun r u => r = u) (xC D (va_A (pre_X5_soulsOfLeaf T a ex fi fl vi vl) sz) (fun fj fm vj vm => [((a 0), .inr (5, [.ref (ex 0), .ref (ex 1), .ref (a 3), .ref (a 10), .ref (a 5), .ref (ex 2), .int (vi 1), .int (vi 2)])), ((a 1), .inr (2, [.ref (a 2), .int (vi 3), .int (vi 4), .int (vi 5), .int (vi 6), .int (vi 7), .int (vi 8), .ref (ex 3), .ref (a 8), .ref (ex 4), .ref (a 4), .ref (a 7), .ref (a 9), .ref (ex 5), .ref (ex 6)])), ((a 2), .inr (7, [.int (vi 9), .int (vi 10), .ref (ex 7), .ref (ex 8), .ref (ex 9), .ref (ex 10), .ref (ex 11), .ref (ex 12), .ref (ex 13), .ref (a 6), .ref (ex 14), .ref (ex 15)])), ((a 3), .inl (T 1, 40, .inl (fi 0))), ((a 4), .inl (T 1, 9, .inl (fi 1))), ((a 5), .inl (T 1, 40, .inl (fi 2))), ((a 6), .inl (T 1, 9, .inl (fi 3))), ((a 7), .inl (T 1, 9, .inl (fi 4))), ((a 8), .inl (T 1, 9, .inl (fi 5))), ((a 9), .inl (T 1, 9, .inl (fi 6))), ((a 10), .inl (T 1, 40, .inl (fi 7)))]) (fun (r : Int32) (fj : Nat → Nat → Int32) (fm : Nat → Nat → Int64) (vj : Nat → Int32) (vm : Nat → Int64) => True)) (va_A (pre_X5_soulsOfLeaf T a ex fi fl vi vl) sz)) 0 0 (va_A (pre_X5_soulsOfLeaf T a ex fi fl vi vl) sz) := by
  refine xofW (cc := cX5_soulsOfLeaf) (maxL := 5) (ret := (some .int)) (by decide) rfl ?_
  intro p e s m args below meth c s₁ R Q hR hQ B hml hv
  obtain ⟨rfl, hsz, hP, hK, hD0⟩ := hv
  have hx := B.exec
  have hb := B.bytes
  have hr := B.returns
  have hts := atoms_spec (ws := xw yX5_soulsOfLeaf cX5_soulsOfLeaf 5 (some .int)) B.pre
  have htg : ∀ w ∈ xg, w.before _ s = true := fun w h => hts w (List.mem_cons_of_mem _ h)
  have hown : s.vm.findClass RX5 = some m.cls := findClass_of_methodNamed B.named
  have hlocks := B.notSynchronized
  subst hsz
  have hD := hD0.self (sz := s.heap.size)
  generalize hAe : va_A (pre_X5_soulsOfLeaf T a ex fi fl vi vl) s.heap.size = A at hD hQ
  have hA : ∀ q : Nat, s.heap.size ≤ q → A q := fun q h => by rw [← hAe]; exact Or.inr h
  have hS : va_S A s.heap s.heap [] := va_S.rf
  replace hP : va_P D vwCl [((a 0), .inr (5, [.ref (ex 0), .ref (ex 1), .ref (a 3), .ref (a 10), .ref (a 5), .ref (ex 2), .int (vi 1), .int (vi 2)])), ((a 1), .inr (2, [.ref (a 2), .int (vi 3), .int (vi 4), .int (vi 5), .int (vi 6), .int (vi 7), .int (vi 8), .ref (ex 3), .ref (a 8), .ref (ex 4), .ref (a 4), .ref (a 7), .ref (a 9), .ref (ex 5), .ref (ex 6)])), ((a 2), .inr (7, [.int (vi 9), .int (vi 10), .ref (ex 7), .ref (ex 8), .ref (ex 9), .ref (ex 10), .ref (ex 11), .ref (ex 12), .ref (ex 13), .ref (a 6), .ref (ex 14), .ref (ex 15)])), ((a 3), .inl (T 1, 40, .inl (fi 0))), ((a 4), .inl (T 1, 9, .inl (fi 1))), ((a 5), .inl (T 1, 40, .inl (fi 2))), ((a 6), .inl (T 1, 9, .inl (fi 3))), ((a 7), .inl (T 1, 9, .inl (fi 4))), ((a 8), .inl (T 1, 9, .inl (fi 5))), ((a 9), .inl (T 1, 9, .inl (fi 6))), ((a 10), .inl (T 1, 40, .inl (fi 7)))] s.heap := hP
  replace hD : va_D A [((a 0), .inr (5, [.ref (ex 0), .ref (ex 1), .ref (a 3), .ref (a 10), .ref (a 5), .ref (ex 2), .int (vi 1), .int (vi 2)])), ((a 1), .inr (2, [.ref (a 2), .int (vi 3), .int (vi 4), .int (vi 5), .int (vi 6), .int (vi 7), .int (vi 8), .ref (ex 3), .ref (a 8), .ref (ex 4), .ref (a 4), .ref (a 7), .ref (a 9), .ref (ex 5), .ref (ex 6)])), ((a 2), .inr (7, [.int (vi 9), .int (vi 10), .ref (ex 7), .ref (ex 8), .ref (ex 9), .ref (ex 10), .ref (ex 11), .ref (ex 12), .ref (ex 13), .ref (a 6), .ref (ex 14), .ref (ex 15)])), ((a 3), .inl (T 1, 40, .inl (fi 0))), ((a 4), .inl (T 1, 9, .inl (fi 1))), ((a 5), .inl (T 1, 40, .inl (fi 2))), ((a 6), .inl (T 1, 9, .inl (fi 3))), ((a 7), .inl (T 1, 9, .inl (fi 4))), ((a 8), .inl (T 1, 9, .inl (fi 5))), ((a 9), .inl (T 1, 9, .inl (fi 6))), ((a 10), .inl (T 1, 40, .inl (fi 7)))] := hD
  have hl := lv_entry ([.ref (a 0), .int (vi 0), .ref (a 1)]) (n := 5) (Nat.le_of_ble_eq_true rfl)
  rw [lg_entry_eq]
  generalize (lg_sl ([.ref (a 0), .int (vi 0), .ref (a 1)]) ++ List.replicate (5 - (lg_sl ([.ref (a 0), .int (vi 0), .ref (a 1)])).length) Slot.unset).toArray = ls at hl ⊢
  replace hl : lv_has ls 5 [(0, .ref (a 0)), (1, .int (vi 0)), (2, .ref (a 1))] := hl
  refine lv_iconst (v := 0) hx hb dX5_soulsOfLeaf_0 (by decide) ?_
  refine lv_istore_n (lv' := [(3, .int 0), (0, .ref (a 0)), (1, .int (vi 0)), (2, .ref (a 1))]) hx hb dX5_soulsOfLeaf_1 rfl hl (by decide) rfl (fun ls hl => ?_)
  refine lv_iconst (v := 0) hx hb dX5_soulsOfLeaf_2 (by decide) ?_
  refine lv_istore (lv' := [(4, .int 0), (3, .int 0), (0, .ref (a 0)), (1, .int (vi 0)), (2, .ref (a 1))]) hx hb dX5_soulsOfLeaf_3 hl (by decide) rfl (fun ls hl => ?_)
  have lp : ∀ (kn : Nat) (w4 : Int32) (w3 : Int32) (H : Heap) (locs : List Loc) (ls : Array Slot), (0 ≤ w4.toInt) → (2147483648 - w4.toInt).toNat = kn → va_P D vwCl [((a 0), .inr (5, [.ref (ex 0), .ref (ex 1), .ref (a 3), .ref (a 10), .ref (a 5), .ref (ex 2), .int (vi 1), .int (vi 2)])), ((a 1), .inr (2, [.ref (a 2), .int (vi 3), .int (vi 4), .int (vi 5), .int (vi 6), .int (vi 7), .int (vi 8), .ref (ex 3), .ref (a 8), .ref (ex 4), .ref (a 4), .ref (a 7), .ref (a 9), .ref (ex 5), .ref (ex 6)])), ((a 2), .inr (7, [.int (vi 9), .int (vi 10), .ref (ex 7), .ref (ex 8), .ref (ex 9), .ref (ex 10), .ref (ex 11), .ref (ex 12), .ref (ex 13), .ref (a 6), .ref (ex 14), .ref (ex 15)])), ((a 3), .inl (T 1, 40, .inl (fi 0))), ((a 4), .inl (T 1, 9, .inl (fi 1))), ((a 5), .inl (T 1, 40, .inl (fi 2))), ((a 6), .inl (T 1, 9, .inl (fi 3))), ((a 7), .inl (T 1, 9, .inl (fi 4))), ((a 8), .inl (T 1, 9, .inl (fi 5))), ((a 9), .inl (T 1, 9, .inl (fi 6))), ((a 10), .inl (T 1, 40, .inl (fi 7)))] H → va_D A [((a 0), .inr (5, [.ref (ex 0), .ref (ex 1), .ref (a 3), .ref (a 10), .ref (a 5), .ref (ex 2), .int (vi 1), .int (vi 2)])), ((a 1), .inr (2, [.ref (a 2), .int (vi 3), .int (vi 4), .int (vi 5), .int (vi 6), .int (vi 7), .int (vi 8), .ref (ex 3), .ref (a 8), .ref (ex 4), .ref (a 4), .ref (a 7), .ref (a 9), .ref (ex 5), .ref (ex 6)])), ((a 2), .inr (7, [.int (vi 9), .int (vi 10), .ref (ex 7), .ref (ex 8), .ref (ex 9), .ref (ex 10), .ref (ex 11), .ref (ex 12), .ref (ex 13), .ref (a 6), .ref (ex 14), .ref (ex 15)])), ((a 3), .inl (T 1, 40, .inl (fi 0))), ((a 4), .inl (T 1, 9, .inl (fi 1))), ((a 5), .inl (T 1, 40, .inl (fi 2))), ((a 6), .inl (T 1, 9, .inl (fi 3))), ((a 7), .inl (T 1, 9, .inl (fi 4))), ((a 8), .inl (T 1, 9, .inl (fi 5))), ((a 9), .inl (T 1, 9, .inl (fi 6))), ((a 10), .inl (T 1, 40, .inl (fi 7)))] → va_S A s.heap H locs → lv_has ls 5 [(4, .int w4), (3, .int w3), (0, .ref (a 0)), (1, .int (vi 0)), (2, .ref (a 1))] → W p l e R s m ([.ref (a 0), .int (vi 0), .ref (a 1)] : List Value).toArray below meth c H locs 0 0 Q (F0 m 5 ls []) := by
    intro kn
    induction kn using Nat.strongRecOn with
    | _ kn ih =>
      intro w4 w3 H locs ls hi hm hP hD hS hl
      refine lv_iload hx hb dX5_soulsOfLeaf_5 (lv_at hl 0 rfl) ?_
      refine lv_aload_n hx hb dX5_soulsOfLeaf_7 rfl (lv_at hl 4 rfl) ?_
      refine va_getN (D := D) (ci := 2) (v := .ref (a 2)) (C := RX2) (T := TX2) (N := 15) hx hb htg inX2 hown hK.1 hP 1 rfl rfl 0 (by decide) (va_Nw.use rfl (hK.2.1 _ kn_246)) (fun _ h9 => h9) rfl dX5_soulsOfLeaf_8 ?_
      refine va_getN (D := D) (ci := 7) (v := .int (vi 10)) (C := RX7) (T := TX7) (N := 12) hx hb htg inX7 hown hK.1 hP 2 rfl rfl 1 (by decide) (va_Nw.use rfl (hK.2.1 _ kn_168)) (fun _ h9 => h9) rfl dX5_soulsOfLeaf_11 ?_
      refine lv_icmp_ge (tgt := 66) hx hb dX5_soulsOfLeaf_14 (by decide) (fun c14 => ?_) (fun c14 => ?_)
      · have c14 := Int32.le_iff_toInt_le.mp c14
        have rc14 := xrng w4; have qc14 := xrng (vi 10)
        refine lv_iload_n hx hb dX5_soulsOfLeaf_66 rfl (lv_at hl 1 rfl) ?_
        have hP9 := hP.sub (ws' := [((a 0), .inr (5, [.ref (ex 0), .ref (ex 1), .ref (a 3), .ref (a 10), .ref (a 5), .ref (ex 2), .int (vi 1), .int (vi 2)])), ((a 1), .inr (2, [.ref (a 2), .int (vi 3), .int (vi 4), .int (vi 5), .int (vi 6), .int (vi 7), .int (vi 8), .ref (ex 3), .ref (a 8), .ref (ex 4), .ref (a 4), .ref (a 7), .ref (a 9), .ref (ex 5), .ref (ex 6)])), ((a 2), .inr (7, [.int (vi 9), .int (vi 10), .ref (ex 7), .ref (ex 8), .ref (ex 9), .ref (ex 10), .ref (ex 11), .ref (ex 12), .ref (ex 13), .ref (a 6), .ref (ex 14), .ref (ex 15)])), ((a 3), .inl (T 1, 40, .inl (fi 0))), ((a 4), .inl (T 1, 9, .inl (fi 1))), ((a 5), .inl (T 1, 40, .inl (fi 2))), ((a 6), .inl (T 1, 9, .inl (fi 3))), ((a 7), .inl (T 1, 9, .inl (fi 4))), ((a 8), .inl (T 1, 9, .inl (fi 5))), ((a 9), .inl (T 1, 9, .inl (fi 6))), ((a 10), .inl (T 1, 40, .inl (fi 7)))]) [0, 1, 2, 3, 4, 5, 6, 7, 8, 9, 10] rfl
        have hD9 := hD.sub (ws' := [((a 0), .inr (5, [.ref (ex 0), .ref (ex 1), .ref (a 3), .ref (a 10), .ref (a 5), .ref (ex 2), .int (vi 1), .int (vi 2)])), ((a 1), .inr (2, [.ref (a 2), .int (vi 3), .int (vi 4), .int (vi 5), .int (vi 6), .int (vi 7), .int (vi 8), .ref (ex 3), .ref (a 8), .ref (ex 4), .ref (a 4), .ref (a 7), .ref (a 9), .ref (ex 5), .ref (ex 6)])), ((a 2), .inr (7, [.int (vi 9), .int (vi 10), .ref (ex 7), .ref (ex 8), .ref (ex 9), .ref (ex 10), .ref (ex 11), .ref (ex 12), .ref (ex 13), .ref (a 6), .ref (ex 14), .ref (ex 15)])), ((a 3), .inl (T 1, 40, .inl (fi 0))), ((a 4), .inl (T 1, 9, .inl (fi 1))), ((a 5), .inl (T 1, 40, .inl (fi 2))), ((a 6), .inl (T 1, 9, .inl (fi 3))), ((a 7), .inl (T 1, 9, .inl (fi 4))), ((a 8), .inl (T 1, 9, .inl (fi 5))), ((a 9), .inl (T 1, 9, .inl (fi 6))), ((a 10), .inl (T 1, 40, .inl (fi 7)))]) [0, 1, 2, 3, 4, 5, 6, 7, 8, 9, 10] (by decide +kernel) rfl
        rw [hQ]
        exact W.iret (v := w3) hx hb hr (fun t ht hW => ⟨⟨w3, w3, rfl, rfl, xf [], xh [], xv [], xl [], by rw [ht]; exact hP9, hD9, trivial⟩, hS.F ht⟩) hS.2.2 dX5_soulsOfLeaf_67
      · have c14 := (mt Int32.le_iff_toInt_le.mpr c14)
        have rc14 := xrng w4; have qc14 := xrng (vi 10)
        refine lv_aload_n hx hb dX5_soulsOfLeaf_17 rfl (lv_at hl 2 rfl) ?_
        refine va_get (D := D) (ci := 5) (v := .ref (a 3)) (C := RX5) (T := TX5) (N := 8) hx hb htg inX5 hown hK.1 hP 0 rfl rfl 2 (by decide) (htg _ kw_386) (fun _ h9 => h9) rfl dX5_soulsOfLeaf_18 ?_
        refine lv_iload_n hx hb dX5_soulsOfLeaf_21 rfl (lv_at hl 3 rfl) ?_
        refine va_iald hx hb hK.1 hP 3 1 rfl rfl (vp_in_iff.mpr (by omega)) dX5_soulsOfLeaf_22 ?_
        refine lv_bipush (v := 8) hx hb dX5_soulsOfLeaf_23 (by decide) ?_
        refine lv_icmp_lt (tgt := 42) hx hb dX5_soulsOfLeaf_25 (by decide) (fun c25 => ?_) (fun c25 => ?_)
        · have c25 := xlt (k := 8) (by decide) c25
          refine lv_aload_n hx hb dX5_soulsOfLeaf_42 rfl (lv_at hl 2 rfl) ?_
          refine lv_iload_n hx hb dX5_soulsOfLeaf_43 rfl (lv_at hl 3 rfl) ?_
          refine lv_aload_n hx hb dX5_soulsOfLeaf_44 rfl (lv_at hl 4 rfl) ?_
          refine lv_iload hx hb dX5_soulsOfLeaf_45 (lv_at hl 0 rfl) ?_
          obtain ⟨hC9, hPc, hDc, hFc⟩ := xcut (wc := (pre_X5_isSo T (xa [(a 0), (a 3), (a 1), (a 4), (a 5), (a 2), (a 6)]) (xa [(ex 0), (ex 1), (a 10), (ex 2), (ex 3), (a 8), (ex 4), (a 7), (a 9), (ex 5), (ex 6), (ex 7), (ex 8), (ex 9), (ex 10), (ex 11), (ex 12), (ex 13), (ex 14), (ex 15)]) (xf [(fi 0), (fi 1), (fi 2), (fi 3)]) (xh []) (xv [(vi 0), w4, (vi 1), (vi 2), (vi 3), (vi 4), (vi 5), (vi 6), (vi 7), (vi 8), (vi 9), (vi 10)]) (xl []))) hP hD hS hA [0, 3, 1, 4, 5, 2, 6] (by decide) rfl
          refine va_calli (va_runV (As := [.int (vi 0), .ref (a 1), .int w4]) (rest := []) ⟨hx, hb, hml, hown, htg⟩ (c_X5_isSo l D T (xa [(a 0), (a 3), (a 1), (a 4), (a 5), (a 2), (a 6)]) (xa [(ex 0), (ex 1), (a 10), (ex 2), (ex 3), (a 8), (ex 4), (a 7), (a 9), (ex 5), (ex 6), (ex 7), (ex 8), (ex 9), (ex 10), (ex 11), (ex 12), (ex 13), (ex 14), (ex 15)]) (xf [(fi 0), (fi 1), (fi 2), (fi 3)]) (xh []) (xv [(vi 0), w4, (vi 1), (vi 2), (vi 3), (vi 4), (vi 5), (vi 6), (vi 7), (vi 8), (vi 9), (vi 10)]) (xl []) H.size hp0 (by show 0 ≤ w4.toInt ∧ w4.toInt ≤ 8; omega) hp1 hp2 hp3 hp4 (show rg (fi 1) 0 9 (-1) 8 from hp7) hp5 hp6) ⟨callB_of 3 htg (xg_ok kw_1262) rfl rfl rfl (htg _ kw_12) (htg _ kw_1259) (by decide +kernel) ⟨by rw [hR]; exact Nat.le_of_ble_eq_true rfl, by rw [hR]; exact Nat.le_of_ble_eq_true rfl⟩, htg _ kw_1261, htg _ ks_111⟩ (xpreV hK hPc hDc (va_recv hK.1 hPc (ci := 5) (q0 := 0) rfl rfl)) rfl rfl hl.1 rfl (lv_room (Nat.le_of_ble_eq_true rfl)) dX5_soulsOfLeaf_47 ⟨by rw [hR]; exact Nat.le_of_ble_eq_true rfl, by rw [hR]; exact Nat.le_of_ble_eq_true rfl⟩) hS (fun q _ h => hFc q h) hFc (fun r9 u9 t H1 locs ht hvm hw hB hz1 hk1 hS => ?_)
          subst hw
          obtain ⟨fik, flk, vik, vlk, hP1, hD1, hG⟩ := hB
          rw [ht] at hP1
          obtain ⟨hP, hD⟩ := va_join (wr := [((a 7), .inl (T 1, 9, .inl (fi 4))), ((a 8), .inl (T 1, 9, .inl (fi 5))), ((a 9), .inl (T 1, 9, .inl (fi 6))), ((a 10), .inl (T 1, 40, .inl (fi 7)))]) (w1 := [((a 0), .inr (5, [.ref (ex 0), .ref (ex 1), .ref (a 3), .ref (a 10), .ref (a 5), .ref (ex 2), .int (vi 1), .int (vi 2)])), ((a 3), .inl (T 1, 40, .inl (fi 0))), ((a 1), .inr (2, [.ref (a 2), .int (vi 3), .int (vi 4), .int (vi 5), .int (vi 6), .int (vi 7), .int (vi 8), .ref (ex 3), .ref (a 8), .ref (ex 4), .ref (a 4), .ref (a 7), .ref (a 9), .ref (ex 5), .ref (ex 6)])), ((a 4), .inl (T 1, 9, .inl (fi 1))), ((a 5), .inl (T 1, 40, .inl (fi 2))), ((a 2), .inr (7, [.int (vi 9), .int (vi 10), .ref (ex 7), .ref (ex 8), .ref (ex 9), .ref (ex 10), .ref (ex 11), .ref (ex 12), .ref (ex 13), .ref (a 6), .ref (ex 14), .ref (ex 15)])), ((a 6), .inl (T 1, 9, .inl (fi 3)))]) hP hD [0, 3, 1, 4, 5, 2, 6] [7, 8, 9, 10] hC9 rfl (by decide) (by decide) hk1 hFc hP1 hD1
          obtain ⟨rk, er9⟩ : ∃ z, z = r9 := ⟨_, rfl⟩
          subst er9
          clear hPc hDc hFc hP1 hD1 hk1 hz1 hvm ht hC9
          generalize H1 = H at hP hS ⊢
          obtain ⟨hP, hD⟩ := (show xPD D A [((a 7), .inl (T 1, 9, .inl (fi 4))), ((a 8), .inl (T 1, 9, .inl (fi 5))), ((a 9), .inl (T 1, 9, .inl (fi 6))), ((a 10), .inl (T 1, 40, .inl (fi 7))), ((a 0), .inr (5, [.ref (ex 0), .ref (ex 1), .ref (a 3), .ref (a 10), .ref (a 5), .ref (ex 2), .int (vi 1), .int (vi 2)])), ((a 3), .inl (T 1, 40, .inl (fi 0))), ((a 1), .inr (2, [.ref (a 2), .int (vi 3), .int (vi 4), .int (vi 5), .int (vi 6), .int (vi 7), .int (vi 8), .ref (ex 3), .ref (a 8), .ref (ex 4), .ref (a 4), .ref (a 7), .ref (a 9), .ref (ex 5), .ref (ex 6)])), ((a 4), .inl (T 1, 9, .inl (fi 1))), ((a 5), .inl (T 1, 40, .inl (fi 2))), ((a 2), .inr (7, [.int (vi 9), .int (vi 10), .ref (ex 7), .ref (ex 8), .ref (ex 9), .ref (ex 10), .ref (ex 11), .ref (ex 12), .ref (ex 13), .ref (a 6), .ref (ex 14), .ref (ex 15)])), ((a 6), .inl (T 1, 9, .inl (fi 3)))] H from ⟨hP, hD⟩)
          obtain ⟨gk_0, -⟩ := hG
          rcases (show (rk = 1 ∧ (True)) ∨ (rk = 0 ∧ (True)) from gk_0) with ⟨er9, gk_0⟩ | ⟨er9, gk_0⟩
          · refine xz_i 1 er9 ?_
            refine lv_if_eq (tgt := 60) hx hb dX5_soulsOfLeaf_50 (by decide) (fun c => absurd c (by decide)) (fun _ => ?_)
            refine lv_iload_n hx hb dX5_soulsOfLeaf_53 rfl (lv_at hl 1 rfl) ?_
            refine lv_iconst (v := 1) hx hb dX5_soulsOfLeaf_54 (by decide) ?_
            refine lv_iload hx hb dX5_soulsOfLeaf_55 (lv_at hl 0 rfl) ?_
            refine lv_ishl hx hb dX5_soulsOfLeaf_57 ?_
            refine lv_topi (fun z57 ez57 => ?_)
            refine lv_ior hx hb dX5_soulsOfLeaf_58 ?_
            refine lv_topi (fun z58 ez58 => ?_)
            refine lv_istore_n (lv' := [(3, .int z58), (4, .int w4), (0, .ref (a 0)), (1, .int (vi 0)), (2, .ref (a 1))]) hx hb dX5_soulsOfLeaf_59 rfl hl (by decide) rfl (fun ls hl => ?_)
            obtain ⟨i60, ei60⟩ : ∃ z : Int32, w4 + Int32.ofInt 1 = z := ⟨_, rfl⟩
            have ti60 : i60.toInt = w4.toInt + 1 := by rw [← ei60]; have h79 := xrng w4; exact xadd rfl (by decide) (by omega) (by omega)
            refine lv_iinc (v := i60) (lv' := [(4, .int i60), (3, .int z58), (0, .ref (a 0)), (1, .int (vi 0)), (2, .ref (a 1))]) hx hb dX5_soulsOfLeaf_60 hl (k := 1) rfl ei60 (by decide) rfl (fun ls hl => ?_)
            refine lv_goto (tgt := 5) hx hb dX5_soulsOfLeaf_63 (by decide) ?_
            exact ih _ (by omega) i60 z58 _ _ _ (by show 0 ≤ i60.toInt; omega) rfl (hP.sub [4, 6, 9, 5, 7, 8, 10, 0, 1, 2, 3] rfl) (hD.sub [4, 6, 9, 5, 7, 8, 10, 0, 1, 2, 3] (by decide) rfl) hS (lv_sub hl [0, 1, 2, 3, 4] rfl)
          · refine xz_i 0 er9 ?_
            refine lv_if_eq (tgt := 60) hx hb dX5_soulsOfLeaf_50 (by decide) (fun _ => ?_) (fun c => absurd (by decide) c)
            obtain ⟨i60_1, ei60_1⟩ : ∃ z : Int32, w4 + Int32.ofInt 1 = z := ⟨_, rfl⟩
            have ti60_1 : i60_1.toInt = w4.toInt + 1 := by rw [← ei60_1]; have h79 := xrng w4; exact xadd rfl (by decide) (by omega) (by omega)
            refine lv_iinc (v := i60_1) (lv' := [(4, .int i60_1), (3, .int w3), (0, .ref (a 0)), (1, .int (vi 0)), (2, .ref (a 1))]) hx hb dX5_soulsOfLeaf_60 hl (k := 0) rfl ei60_1 (by decide) rfl (fun ls hl => ?_)
            refine lv_goto (tgt := 5) hx hb dX5_soulsOfLeaf_63 (by decide) ?_
            exact ih _ (by omega) i60_1 w3 _ _ _ (by show 0 ≤ i60_1.toInt; omega) rfl (hP.sub [4, 6, 9, 5, 7, 8, 10, 0, 1, 2, 3] rfl) (hD.sub [4, 6, 9, 5, 7, 8, 10, 0, 1, 2, 3] (by decide) rfl) hS (lv_sub hl [0, 1, 2, 3, 4] rfl)
        · have c25 := xnlt (k := 8) (by decide) c25
          refine lv_aload_n hx hb dX5_soulsOfLeaf_28 rfl (lv_at hl 2 rfl) ?_
          refine lv_iload_n hx hb dX5_soulsOfLeaf_29 rfl (lv_at hl 3 rfl) ?_
          refine lv_aload_n hx hb dX5_soulsOfLeaf_30 rfl (lv_at hl 4 rfl) ?_
          refine lv_iload hx hb dX5_soulsOfLeaf_31 (lv_at hl 0 rfl) ?_
          obtain ⟨hC9, hPc, hDc, hFc⟩ := xcut (wc := (pre_X5_isMeasured T (xa [(a 0), (a 3), (a 1), (a 7), (a 4), (a 2), (a 8), (a 9), (a 10), (a 5)]) (xa [(ex 0), (ex 1), (ex 2), (ex 3), (ex 4), (ex 5), (ex 6), (ex 7), (ex 8), (ex 9), (ex 10), (ex 11), (ex 12), (ex 13), (a 6), (ex 14), (ex 15)]) (xf [(fi 0), (fi 4), (fi 1), (fi 5), (fi 6), (fi 7), (fi 2)]) (xh []) (xv [(vi 0), w4, (vi 1), (vi 2), (vi 3), (vi 4), (vi 5), (vi 6), (vi 7), (vi 8), (vi 9), (vi 10)]) (xl []))) hP hD hS hA [0, 3, 1, 7, 4, 2, 8, 9, 10, 5] (by decide) rfl
          refine va_calli (va_runV (As := [.int (vi 0), .ref (a 1), .int w4]) (rest := []) ⟨hx, hb, hml, hown, htg⟩ (c_X5_isMeasured l D T (xa [(a 0), (a 3), (a 1), (a 7), (a 4), (a 2), (a 8), (a 9), (a 10), (a 5)]) (xa [(ex 0), (ex 1), (ex 2), (ex 3), (ex 4), (ex 5), (ex 6), (ex 7), (ex 8), (ex 9), (ex 10), (ex 11), (ex 12), (ex 13), (a 6), (ex 14), (ex 15)]) (xf [(fi 0), (fi 4), (fi 1), (fi 5), (fi 6), (fi 7), (fi 2)]) (xh []) (xv [(vi 0), w4, (vi 1), (vi 2), (vi 3), (vi 4), (vi 5), (vi 6), (vi 7), (vi 8), (vi 9), (vi 10)]) (xl []) H.size hp0 (by show 0 ≤ w4.toInt ∧ w4.toInt ≤ 8; omega) hp1 hp2 hp3 hp4 (show rg (fi 1) 0 9 (-1) 8 from hp7) hp5 hp6) ⟨callB_of 3 htg (xg_ok kw_1254) rfl rfl rfl (htg _ kw_12) (htg _ kw_1251) (by decide +kernel) ⟨by rw [hR]; exact Nat.le_of_ble_eq_true rfl, by rw [hR]; exact Nat.le_of_ble_eq_true rfl⟩, htg _ kw_1253, htg _ ks_110⟩ (xpreV hK hPc hDc (va_recv hK.1 hPc (ci := 5) (q0 := 0) rfl rfl)) rfl rfl hl.1 rfl (lv_room (Nat.le_of_ble_eq_true rfl)) dX5_soulsOfLeaf_33 ⟨by rw [hR]; exact Nat.le_of_ble_eq_true rfl, by rw [hR]; exact Nat.le_of_ble_eq_true rfl⟩) hS (fun q _ h => hFc q h) hFc (fun r9 u9 t H1 locs ht hvm hw hB hz1 hk1 hS => ?_)
          subst hw
          obtain ⟨fik_1, flk_1, vik_1, vlk_1, hP1, hD1, hG⟩ := hB
          rw [ht] at hP1
          obtain ⟨hP, hD⟩ := va_join (wr := [((a 6), .inl (T 1, 9, .inl (fi 3)))]) (w1 := [((a 0), .inr (5, [.ref (ex 0), .ref (ex 1), .ref (a 3), .ref (a 10), .ref (a 5), .ref (ex 2), .int (vi 1), .int (vi 2)])), ((a 3), .inl (T 1, 40, .inl (fi 0))), ((a 1), .inr (2, [.ref (a 2), .int (vi 3), .int (vi 4), .int (vi 5), .int (vi 6), .int (vi 7), .int (vi 8), .ref (ex 3), .ref (a 8), .ref (ex 4), .ref (a 4), .ref (a 7), .ref (a 9), .ref (ex 5), .ref (ex 6)])), ((a 7), .inl (T 1, 9, .inl (fi 4))), ((a 4), .inl (T 1, 9, .inl (fi 1))), ((a 2), .inr (7, [.int (vi 9), .int (vi 10), .ref (ex 7), .ref (ex 8), .ref (ex 9), .ref (ex 10), .ref (ex 11), .ref (ex 12), .ref (ex 13), .ref (a 6), .ref (ex 14), .ref (ex 15)])), ((a 8), .inl (T 1, 9, .inl (fi 5))), ((a 9), .inl (T 1, 9, .inl (fi 6))), ((a 10), .inl (T 1, 40, .inl (fi 7))), ((a 5), .inl (T 1, 40, .inl (fi 2)))]) hP hD [0, 3, 1, 7, 4, 2, 8, 9, 10, 5] [6] hC9 rfl (by decide) (by decide) hk1 hFc hP1 hD1
          obtain ⟨rk_1, er9⟩ : ∃ z, z = r9 := ⟨_, rfl⟩
          subst er9
          clear hPc hDc hFc hP1 hD1 hk1 hz1 hvm ht hC9
          generalize H1 = H at hP hS ⊢
          obtain ⟨hP, hD⟩ := (show xPD D A [((a 6), .inl (T 1, 9, .inl (fi 3))), ((a 0), .inr (5, [.ref (ex 0), .ref (ex 1), .ref (a 3), .ref (a 10), .ref (a 5), .ref (ex 2), .int (vi 1), .int (vi 2)])), ((a 3), .inl (T 1, 40, .inl (fi 0))), ((a 1), .inr (2, [.ref (a 2), .int (vi 3), .int (vi 4), .int (vi 5), .int (vi 6), .int (vi 7), .int (vi 8), .ref (ex 3), .ref (a 8), .ref (ex 4), .ref (a 4), .ref (a 7), .ref (a 9), .ref (ex 5), .ref (ex 6)])), ((a 7), .inl (T 1, 9, .inl (fi 4))), ((a 4), .inl (T 1, 9, .inl (fi 1))), ((a 2), .inr (7, [.int (vi 9), .int (vi 10), .ref (ex 7), .ref (ex 8), .ref (ex 9), .ref (ex 10), .ref (ex 11), .ref (ex 12), .ref (ex 13), .ref (a 6), .ref (ex 14), .ref (ex 15)])), ((a 8), .inl (T 1, 9, .inl (fi 5))), ((a 9), .inl (T 1, 9, .inl (fi 6))), ((a 10), .inl (T 1, 40, .inl (fi 7))), ((a 5), .inl (T 1, 40, .inl (fi 2)))] H from ⟨hP, hD⟩)
          obtain ⟨gk_1_0, -⟩ := hG
          rcases (show (rk_1 = 1 ∧ (True)) ∨ (rk_1 = 0 ∧ (True)) from gk_1_0) with ⟨er9, gk_1_0⟩ | ⟨er9, gk_1_0⟩
          · refine xz_i 1 er9 ?_
            refine lv_if_eq (tgt := 60) hx hb dX5_soulsOfLeaf_36 (by decide) (fun c => absurd c (by decide)) (fun _ => ?_)
            refine lv_goto (tgt := 53) hx hb dX5_soulsOfLeaf_39 (by decide) ?_
            refine lv_iload_n hx hb dX5_soulsOfLeaf_53 rfl (lv_at hl 1 rfl) ?_
            refine lv_iconst (v := 1) hx hb dX5_soulsOfLeaf_54 (by decide) ?_
            refine lv_iload hx hb dX5_soulsOfLeaf_55 (lv_at hl 0 rfl) ?_
            refine lv_ishl hx hb dX5_soulsOfLeaf_57 ?_
            refine lv_topi (fun z57_1 ez57_1 => ?_)
            refine lv_ior hx hb dX5_soulsOfLeaf_58 ?_
            refine lv_topi (fun z58_1 ez58_1 => ?_)
            refine lv_istore_n (lv' := [(3, .int z58_1), (4, .int w4), (0, .ref (a 0)), (1, .int (vi 0)), (2, .ref (a 1))]) hx hb dX5_soulsOfLeaf_59 rfl hl (by decide) rfl (fun ls hl => ?_)
            obtain ⟨i60_2, ei60_2⟩ : ∃ z : Int32, w4 + Int32.ofInt 1 = z := ⟨_, rfl⟩
            have ti60_2 : i60_2.toInt = w4.toInt + 1 := by rw [← ei60_2]; have h79 := xrng w4; exact xadd rfl (by decide) (by omega) (by omega)
            refine lv_iinc (v := i60_2) (lv' := [(4, .int i60_2), (3, .int z58_1), (0, .ref (a 0)), (1, .int (vi 0)), (2, .ref (a 1))]) hx hb dX5_soulsOfLeaf_60 hl (k := 1) rfl ei60_2 (by decide) rfl (fun ls hl => ?_)
            refine lv_goto (tgt := 5) hx hb dX5_soulsOfLeaf_63 (by decide) ?_
            exact ih _ (by omega) i60_2 z58_1 _ _ _ (by show 0 ≤ i60_2.toInt; omega) rfl (hP.sub [1, 3, 6, 2, 5, 10, 0, 4, 7, 8, 9] rfl) (hD.sub [1, 3, 6, 2, 5, 10, 0, 4, 7, 8, 9] (by decide) rfl) hS (lv_sub hl [0, 1, 2, 3, 4] rfl)
          · refine xz_i 0 er9 ?_
            refine lv_if_eq (tgt := 60) hx hb dX5_soulsOfLeaf_36 (by decide) (fun _ => ?_) (fun c => absurd (by decide) c)
            obtain ⟨i60_3, ei60_3⟩ : ∃ z : Int32, w4 + Int32.ofInt 1 = z := ⟨_, rfl⟩
            have ti60_3 : i60_3.toInt = w4.toInt + 1 := by rw [← ei60_3]; have h79 := xrng w4; exact xadd rfl (by decide) (by omega) (by omega)
            refine lv_iinc (v := i60_3) (lv' := [(4, .int i60_3), (3, .int w3), (0, .ref (a 0)), (1, .int (vi 0)), (2, .ref (a 1))]) hx hb dX5_soulsOfLeaf_60 hl (k := 0) rfl ei60_3 (by decide) rfl (fun ls hl => ?_)
            refine lv_goto (tgt := 5) hx hb dX5_soulsOfLeaf_63 (by decide) ?_
            exact ih _ (by omega) i60_3 w3 _ _ _ (by show 0 ≤ i60_3.toInt; omega) rfl (hP.sub [1, 3, 6, 2, 5, 10, 0, 4, 7, 8, 9] rfl) (hD.sub [1, 3, 6, 2, 5, 10, 0, 4, 7, 8, 9] (by decide) rfl) hS (lv_sub hl [0, 1, 2, 3, 4] rfl)
  exact lp _ (0 : Int32) (0 : Int32) _ _ _ (show 0 ≤ (0 : Int32).toInt by decide) rfl hP hD hS hl
abbrev pre_X5_soulsIn (T : Nat → ClassId) (a ex : Nat → Nat) (fi : Nat → Nat → Int32) (fl : Nat → Nat → Int64) (vi : Nat → Int32) (vl : Nat → Int64) : va_W := [((a 0), .inr (5, [.ref (ex 0), .ref (ex 1), .ref (a 4), .ref (a 11), .ref (a 6), .ref (a 3), .int (vi 0), .int (vi 1)])), ((a 1), .inr (2, [.ref (a 2), .int (vi 2), .int (vi 3), .int (vi 4), .int (vi 5), .int (vi 6), .int (vi 7), .ref (ex 2), .ref (a 9), .ref (ex 3), .ref (a 5), .ref (a 8), .ref (a 10), .ref (ex 4), .ref (ex 5)])), ((a 2), .inr (7, [.int (vi 8), .int (vi 9), .ref (ex 6), .ref (ex 7), .ref (ex 8), .ref (ex 9), .ref (ex 10), .ref (ex 11), .ref (ex 12), .ref (a 7), .ref (ex 13), .ref (ex 14)])), ((a 3), .inl (T 1, 40, .inl (fi 0))), ((a 4), .inl (T 1, 40, .inl (fi 1))), ((a 5), .inl (T 1, 9, .inl (fi 2))), ((a 6), .inl (T 1, 40, .inl (fi 3))), ((a 7), .inl (T 1, 9, .inl (fi 4))), ((a 8), .inl (T 1, 9, .inl (fi 5))), ((a 9), .inl (T 1, 9, .inl (fi 6))), ((a 10), .inl (T 1, 9, .inl (fi 7))), ((a 11), .inl (T 1, 40, .inl (fi 8)))]
set_option maxHeartbeats 8000000 in
set_option maxRecDepth 100000 in
theorem c_X5_soulsIn (l : Launch) (D : va_G) (T : Nat → ClassId) (a ex : Nat → Nat) (fi : Nat → Nat → Int32) (fl : Nat → Nat → Int64) (vi : Nat → Int32) (vl : Nat → Int64) (sz : Nat) (hp0 : 0 ≤ (vi 0).toInt ∧ (vi 0).toInt ≤ 40) (hp1 : 0 ≤ (vi 1).toInt ∧ (vi 1).toInt ≤ 20) (hp2 : 0 ≤ (vi 2).toInt ∧ (vi 2).toInt ≤ 200) (hp3 : 0 ≤ (vi 7).toInt ∧ (vi 7).toInt ≤ 9) (hp4 : 0 ≤ (vi 8).toInt ∧ (vi 8).toInt ≤ 9) (hp5 : 0 ≤ (vi 9).toInt ∧ (vi 9).toInt ≤ 9) (hp6 : rg (fi 2) 0 9 (-1) 8) : Met l yX5_soulsIn (xw yX5_soulsIn cX5_soulsIn 5 (some .int)) ({ frames := 5, cells := 0, slots := 0, locals := 133 }) (xP D T [.ref (a 0), .ref (a 1)] sz (pre_X5_soulsIn T a ex fi fl vi vl)) (va_Qi (fun r u => r = u) (xC D (va_A (pre_X5_soulsIn T a ex fi fl vi vl) sz) (fun fj fm vj vm => [((a 0), .inr (5, [.ref (ex 0), .ref (ex 1), .ref (a 4), .ref (a 11), .ref (a 6), .ref (a 3), .int (vi 0), .int (vi 1)])), ((a 1), .inr (2, [.ref (a 2), .int (vi 2), .int (vi 3), .int (vi 4), .int (vi 5), .int (vi 6), .int (vi 7), .ref (ex 2), .ref (a 9), .ref (ex 3), .ref (a 5), .ref (a 8), .ref (a 10), .ref (ex 4), .ref (ex 5)])), ((a 2), .inr (7, [.int (vi 8), .int (vi 9), .ref (ex 6), .ref (ex 7), .ref (ex 8), .ref (ex 9), .ref (ex 10), .ref (ex 11), .ref (ex 12), .ref (a 7), .ref (ex 13), .ref (ex 14)])), ((a 3), .inl (T 1, 40, .inl (fj 0))), ((a 4), .inl (T 1, 40, .inl (fi 1))), ((a 5), .inl (T 1, 9, .inl (fi 2))), ((a 6), .inl (T 1, 40, .inl (fi 3))), ((a 7), .inl (T 1, 9, .inl (fi 4))), ((a 8), .inl (T 1, 9, .inl (fi 5))), ((a 9), .inl (T 1, 9, .inl (fi 6))), ((a 10), .inl (T 1, 9, .inl (fi 7))), ((a 11), .inl (T 1, 40, .inl (fi 8)))]) (fun (r : Int32) (fj : Nat → Nat → Int32) (fm : Nat → Nat → Int64) (vj : Nat → Int32) (vm : Nat → Int64) => True)) (va_A (pre_X5_soulsIn T a ex fi fl vi vl) sz)) 0 0 (va_A (pre_X5_soulsIn T a ex fi fl vi vl) sz) := by
  refine xofW (cc := cX5_soulsIn) (maxL := 5) (ret := (some .int)) (by decide) rfl ?_
  intro p e s m args below meth c s₁ R Q hR hQ B hml hv
  obtain ⟨rfl, hsz, hP, hK, hD0⟩ := hv
  have hx := B.exec
  have hb := B.bytes
  have hr := B.returns
  have hts := atoms_spec (ws := xw yX5_soulsIn cX5_soulsIn 5 (some .int)) B.pre
  have htg : ∀ w ∈ xg, w.before _ s = true := fun w h => hts w (List.mem_cons_of_mem _ h)
  have hown : s.vm.findClass RX5 = some m.cls := findClass_of_methodNamed B.named
  have hlocks := B.notSynchronized
  subst hsz
  have hD := hD0.self (sz := s.heap.size)
  generalize hAe : va_A (pre_X5_soulsIn T a ex fi fl vi vl) s.heap.size = A at hD hQ
  have hA : ∀ q : Nat, s.heap.size ≤ q → A q := fun q h => by rw [← hAe]; exact Or.inr h
  have hS : va_S A s.heap s.heap [] := va_S.rf
  replace hP : va_P D vwCl [((a 0), .inr (5, [.ref (ex 0), .ref (ex 1), .ref (a 4), .ref (a 11), .ref (a 6), .ref (a 3), .int (vi 0), .int (vi 1)])), ((a 1), .inr (2, [.ref (a 2), .int (vi 2), .int (vi 3), .int (vi 4), .int (vi 5), .int (vi 6), .int (vi 7), .ref (ex 2), .ref (a 9), .ref (ex 3), .ref (a 5), .ref (a 8), .ref (a 10), .ref (ex 4), .ref (ex 5)])), ((a 2), .inr (7, [.int (vi 8), .int (vi 9), .ref (ex 6), .ref (ex 7), .ref (ex 8), .ref (ex 9), .ref (ex 10), .ref (ex 11), .ref (ex 12), .ref (a 7), .ref (ex 13), .ref (ex 14)])), ((a 3), .inl (T 1, 40, .inl (fi 0))), ((a 4), .inl (T 1, 40, .inl (fi 1))), ((a 5), .inl (T 1, 9, .inl (fi 2))), ((a 6), .inl (T 1, 40, .inl (fi 3))), ((a 7), .inl (T 1, 9, .inl (fi 4))), ((a 8), .inl (T 1, 9, .inl (fi 5))), ((a 9), .inl (T 1, 9, .inl (fi 6))), ((a 10), .inl (T 1, 9, .inl (fi 7))), ((a 11), .inl (T 1, 40, .inl (fi 8)))] s.heap := hP
  replace hD : va_D A [((a 0), .inr (5, [.ref (ex 0), .ref (ex 1), .ref (a 4), .ref (a 11), .ref (a 6), .ref (a 3), .int (vi 0), .int (vi 1)])), ((a 1), .inr (2, [.ref (a 2), .int (vi 2), .int (vi 3), .int (vi 4), .int (vi 5), .int (vi 6), .int (vi 7), .ref (ex 2), .ref (a 9), .ref (ex 3), .ref (a 5), .ref (a 8), .ref (a 10), .ref (ex 4), .ref (ex 5)])), ((a 2), .inr (7, [.int (vi 8), .int (vi 9), .ref (ex 6), .ref (ex 7), .ref (ex 8), .ref (ex 9), .ref (ex 10), .ref (ex 11), .ref (ex 12), .ref (a 7), .ref (ex 13), .ref (ex 14)])), ((a 3), .inl (T 1, 40, .inl (fi 0))), ((a 4), .inl (T 1, 40, .inl (fi 1))), ((a 5), .inl (T 1, 9, .inl (fi 2))), ((a 6), .inl (T 1, 40, .inl (fi 3))), ((a 7), .inl (T 1, 9, .inl (fi 4))), ((a 8), .inl (T 1, 9, .inl (fi 5))), ((a 9), .inl (T 1, 9, .inl (fi 6))), ((a 10), .inl (T 1, 9, .inl (fi 7))), ((a 11), .inl (T 1, 40, .inl (fi 8)))] := hD
  have hl := lv_entry ([.ref (a 0), .ref (a 1)]) (n := 5) (Nat.le_of_ble_eq_true rfl)
  rw [lg_entry_eq]
  generalize (lg_sl ([.ref (a 0), .ref (a 1)]) ++ List.replicate (5 - (lg_sl ([.ref (a 0), .ref (a 1)])).length) Slot.unset).toArray = ls at hl ⊢
  replace hl : lv_has ls 5 [(0, .ref (a 0)), (1, .ref (a 1))] := hl
  refine lv_iconst (v := 1) hx hb dX5_soulsIn_0 (by decide) ?_
  refine lv_aload_n hx hb dX5_soulsIn_1 rfl (lv_at hl 1 rfl) ?_
  refine va_getN (D := D) (ci := 2) (v := .ref (a 2)) (C := RX2) (T := TX2) (N := 15) hx hb htg inX2 hown hK.1 hP 1 rfl rfl 0 (by decide) (va_Nw.use rfl (hK.2.1 _ kn_246)) (fun _ h9 => h9) rfl dX5_soulsIn_2 ?_
  refine va_getN (D := D) (ci := 7) (v := .int (vi 9)) (C := RX7) (T := TX7) (N := 12) hx hb htg inX7 hown hK.1 hP 2 rfl rfl 1 (by decide) (va_Nw.use rfl (hK.2.1 _ kn_168)) (fun _ h9 => h9) rfl dX5_soulsIn_5 ?_
  refine lv_ishl hx hb dX5_soulsIn_8 ?_
  refine lv_topi (fun z8 ez8 => ?_)
  refine lv_iconst (v := 1) hx hb dX5_soulsIn_9 (by decide) ?_
  refine lv_isub hx hb dX5_soulsIn_10 ?_
  refine lv_topi (fun z10 ez10 => ?_)
  refine lv_istore_n (lv' := [(2, .int z10), (0, .ref (a 0)), (1, .ref (a 1))]) hx hb dX5_soulsIn_11 rfl hl (by decide) rfl (fun ls hl => ?_)
  refine lv_iconst (v := 0) hx hb dX5_soulsIn_12 (by decide) ?_
  refine lv_istore_n (lv' := [(3, .int 0), (2, .int z10), (0, .ref (a 0)), (1, .ref (a 1))]) hx hb dX5_soulsIn_13 rfl hl (by decide) rfl (fun ls hl => ?_)
  refine lv_iconst (v := 0) hx hb dX5_soulsIn_14 (by decide) ?_
  refine lv_istore (lv' := [(4, .int 0), (3, .int 0), (2, .int z10), (0, .ref (a 0)), (1, .ref (a 1))]) hx hb dX5_soulsIn_15 hl (by decide) rfl (fun ls hl => ?_)
  have lp : ∀ (kn : Nat) (w4 : Int32) (w3 : Int32) (wf : Nat → Int32) (H : Heap) (locs : List Loc) (ls : Array Slot), (0 ≤ w4.toInt) → (0 ≤ w3.toInt ∧ w3.toInt ≤ 40) → (2147483648 - w4.toInt).toNat = kn → va_P D vwCl [((a 0), .inr (5, [.ref (ex 0), .ref (ex 1), .ref (a 4), .ref (a 11), .ref (a 6), .ref (a 3), .int (vi 0), .int (vi 1)])), ((a 1), .inr (2, [.ref (a 2), .int (vi 2), .int (vi 3), .int (vi 4), .int (vi 5), .int (vi 6), .int (vi 7), .ref (ex 2), .ref (a 9), .ref (ex 3), .ref (a 5), .ref (a 8), .ref (a 10), .ref (ex 4), .ref (ex 5)])), ((a 2), .inr (7, [.int (vi 8), .int (vi 9), .ref (ex 6), .ref (ex 7), .ref (ex 8), .ref (ex 9), .ref (ex 10), .ref (ex 11), .ref (ex 12), .ref (a 7), .ref (ex 13), .ref (ex 14)])), ((a 3), .inl (T 1, 40, .inl wf)), ((a 4), .inl (T 1, 40, .inl (fi 1))), ((a 5), .inl (T 1, 9, .inl (fi 2))), ((a 6), .inl (T 1, 40, .inl (fi 3))), ((a 7), .inl (T 1, 9, .inl (fi 4))), ((a 8), .inl (T 1, 9, .inl (fi 5))), ((a 9), .inl (T 1, 9, .inl (fi 6))), ((a 10), .inl (T 1, 9, .inl (fi 7))), ((a 11), .inl (T 1, 40, .inl (fi 8)))] H → va_D A [((a 0), .inr (5, [.ref (ex 0), .ref (ex 1), .ref (a 4), .ref (a 11), .ref (a 6), .ref (a 3), .int (vi 0), .int (vi 1)])), ((a 1), .inr (2, [.ref (a 2), .int (vi 2), .int (vi 3), .int (vi 4), .int (vi 5), .int (vi 6), .int (vi 7), .ref (ex 2), .ref (a 9), .ref (ex 3), .ref (a 5), .ref (a 8), .ref (a 10), .ref (ex 4), .ref (ex 5)])), ((a 2), .inr (7, [.int (vi 8), .int (vi 9), .ref (ex 6), .ref (ex 7), .ref (ex 8), .ref (ex 9), .ref (ex 10), .ref (ex 11), .ref (ex 12), .ref (a 7), .ref (ex 13), .ref (ex 14)])), ((a 3), .inl (T 1, 40, .inl wf)), ((a 4), .inl (T 1, 40, .inl (fi 1))), ((a 5), .inl (T 1, 9, .inl (fi 2))), ((a 6), .inl (T 1, 40, .inl (fi 3))), ((a 7), .inl (T 1, 9, .inl (fi 4))), ((a 8), .inl (T 1, 9, .inl (fi 5))), ((a 9), .inl (T 1, 9, .inl (fi 6))), ((a 10), .inl (T 1, 9, .inl (fi 7))), ((a 11), .inl (T 1, 40, .inl (fi 8)))] → va_S A s.heap H locs → lv_has ls 5 [(4, .int w4), (3, .int w3), (2, .int z10), (0, .ref (a 0)), (1, .ref (a 1))] → W p l e R s m ([.ref (a 0), .ref (a 1)] : List Value).toArray below meth c H locs 0 0 Q (F0 m 17 ls []) := by
    intro kn
    induction kn using Nat.strongRecOn with
    | _ kn ih =>
      intro w4 w3 wf H locs ls hi hi_1 hm hP hD hS hl
      refine lv_iload hx hb dX5_soulsIn_17 (lv_at hl 0 rfl) ?_
      refine lv_aload_n hx hb dX5_soulsIn_19 rfl (lv_at hl 3 rfl) ?_
      refine va_get (D := D) (ci := 5) (v := .int (vi 0)) (C := RX5) (T := TX5) (N := 8) hx hb htg inX5 hown hK.1 hP 0 rfl rfl 6 (by decide) (htg _ kw_390) (fun _ h9 => h9) rfl dX5_soulsIn_20 ?_
      refine lv_icmp_ge (tgt := 180) hx hb dX5_soulsIn_23 (by decide) (fun c23 => ?_) (fun c23 => ?_)
      · have c23 := Int32.le_iff_toInt_le.mp c23
        have rc23 := xrng w4; have qc23 := xrng (vi 0)
        refine lv_aload_n hx hb dX5_soulsIn_180 rfl (lv_at hl 3 rfl) ?_
        refine va_get (D := D) (ci := 5) (v := .ref (a 3)) (C := RX5) (T := TX5) (N := 8) hx hb htg inX5 hown hK.1 hP 0 rfl rfl 5 (by decide) (htg _ kw_389) (fun _ h9 => h9) rfl dX5_soulsIn_181 ?_
        refine lv_iconst (v := 0) hx hb dX5_soulsIn_184 (by decide) ?_
        refine va_iald hx hb hK.1 hP 3 1 rfl rfl (vp_in_nI (n := 0) (by decide) (by decide)) dX5_soulsIn_185 ?_
        have hP9 := hP.sub (ws' := [((a 0), .inr (5, [.ref (ex 0), .ref (ex 1), .ref (a 4), .ref (a 11), .ref (a 6), .ref (a 3), .int (vi 0), .int (vi 1)])), ((a 1), .inr (2, [.ref (a 2), .int (vi 2), .int (vi 3), .int (vi 4), .int (vi 5), .int (vi 6), .int (vi 7), .ref (ex 2), .ref (a 9), .ref (ex 3), .ref (a 5), .ref (a 8), .ref (a 10), .ref (ex 4), .ref (ex 5)])), ((a 2), .inr (7, [.int (vi 8), .int (vi 9), .ref (ex 6), .ref (ex 7), .ref (ex 8), .ref (ex 9), .ref (ex 10), .ref (ex 11), .ref (ex 12), .ref (a 7), .ref (ex 13), .ref (ex 14)])), ((a 3), .inl (T 1, 40, .inl wf)), ((a 4), .inl (T 1, 40, .inl (fi 1))), ((a 5), .inl (T 1, 9, .inl (fi 2))), ((a 6), .inl (T 1, 40, .inl (fi 3))), ((a 7), .inl (T 1, 9, .inl (fi 4))), ((a 8), .inl (T 1, 9, .inl (fi 5))), ((a 9), .inl (T 1, 9, .inl (fi 6))), ((a 10), .inl (T 1, 9, .inl (fi 7))), ((a 11), .inl (T 1, 40, .inl (fi 8)))]) [0, 1, 2, 3, 4, 5, 6, 7, 8, 9, 10, 11] rfl
        have hD9 := hD.sub (ws' := [((a 0), .inr (5, [.ref (ex 0), .ref (ex 1), .ref (a 4), .ref (a 11), .ref (a 6), .ref (a 3), .int (vi 0), .int (vi 1)])), ((a 1), .inr (2, [.ref (a 2), .int (vi 2), .int (vi 3), .int (vi 4), .int (vi 5), .int (vi 6), .int (vi 7), .ref (ex 2), .ref (a 9), .ref (ex 3), .ref (a 5), .ref (a 8), .ref (a 10), .ref (ex 4), .ref (ex 5)])), ((a 2), .inr (7, [.int (vi 8), .int (vi 9), .ref (ex 6), .ref (ex 7), .ref (ex 8), .ref (ex 9), .ref (ex 10), .ref (ex 11), .ref (ex 12), .ref (a 7), .ref (ex 13), .ref (ex 14)])), ((a 3), .inl (T 1, 40, .inl wf)), ((a 4), .inl (T 1, 40, .inl (fi 1))), ((a 5), .inl (T 1, 9, .inl (fi 2))), ((a 6), .inl (T 1, 40, .inl (fi 3))), ((a 7), .inl (T 1, 9, .inl (fi 4))), ((a 8), .inl (T 1, 9, .inl (fi 5))), ((a 9), .inl (T 1, 9, .inl (fi 6))), ((a 10), .inl (T 1, 9, .inl (fi 7))), ((a 11), .inl (T 1, 40, .inl (fi 8)))]) [0, 1, 2, 3, 4, 5, 6, 7, 8, 9, 10, 11] (by decide +kernel) rfl
        rw [hQ]
        exact W.iret (v := (wf (0 : Int32).toNatClampNeg)) hx hb hr (fun t ht hW => ⟨⟨(wf (0 : Int32).toNatClampNeg), (wf (0 : Int32).toNatClampNeg), rfl, rfl, xf [wf], xh [], xv [], xl [], by rw [ht]; exact hP9, hD9, trivial⟩, hS.F ht⟩) hS.2.2 dX5_soulsIn_186
      · have c23 := (mt Int32.le_iff_toInt_le.mpr c23)
        have rc23 := xrng w4; have qc23 := xrng (vi 0)
        refine lv_aload_n hx hb dX5_soulsIn_26 rfl (lv_at hl 3 rfl) ?_
        refine va_get (D := D) (ci := 5) (v := .ref (a 4)) (C := RX5) (T := TX5) (N := 8) hx hb htg inX5 hown hK.1 hP 0 rfl rfl 2 (by decide) (htg _ kw_386) (fun _ h9 => h9) rfl dX5_soulsIn_27 ?_
        refine lv_iload hx hb dX5_soulsIn_30 (lv_at hl 0 rfl) ?_
        refine va_iald hx hb hK.1 hP 4 1 rfl rfl (vp_in_iff.mpr (by omega)) dX5_soulsIn_32 ?_
        refine lv_if_ne (tgt := 63) hx hb dX5_soulsIn_33 (by decide) (fun c33 => ?_) (fun c33 => ?_)
        · have c33 := xne (k := 0) (by decide) c33
          refine lv_aload_n hx hb dX5_soulsIn_63 rfl (lv_at hl 3 rfl) ?_
          refine va_get (D := D) (ci := 5) (v := .ref (a 4)) (C := RX5) (T := TX5) (N := 8) hx hb htg inX5 hown hK.1 hP 0 rfl rfl 2 (by decide) (htg _ kw_386) (fun _ h9 => h9) rfl dX5_soulsIn_64 ?_
          refine lv_iload hx hb dX5_soulsIn_67 (lv_at hl 0 rfl) ?_
          refine va_iald hx hb hK.1 hP 4 1 rfl rfl (vp_in_iff.mpr (by omega)) dX5_soulsIn_69 ?_
          refine lv_iconst (v := 1) hx hb dX5_soulsIn_70 (by decide) ?_
          refine lv_icmp_ne (tgt := 102) hx hb dX5_soulsIn_71 (by decide) (fun c71 => ?_) (fun c71 => ?_)
          · have c71 := xne (k := 1) (by decide) c71
            refine lv_aload_n hx hb dX5_soulsIn_102 rfl (lv_at hl 3 rfl) ?_
            refine va_get (D := D) (ci := 5) (v := .ref (a 4)) (C := RX5) (T := TX5) (N := 8) hx hb htg inX5 hown hK.1 hP 0 rfl rfl 2 (by decide) (htg _ kw_386) (fun _ h9 => h9) rfl dX5_soulsIn_103 ?_
            refine lv_iload hx hb dX5_soulsIn_106 (lv_at hl 0 rfl) ?_
            refine va_iald hx hb hK.1 hP 4 1 rfl rfl (vp_in_iff.mpr (by omega)) dX5_soulsIn_108 ?_
            refine lv_iconst (v := 2) hx hb dX5_soulsIn_109 (by decide) ?_
            refine lv_icmp_ne (tgt := 141) hx hb dX5_soulsIn_110 (by decide) (fun c110 => ?_) (fun c110 => ?_)
            · have c110 := xne (k := 2) (by decide) c110
              refine lv_aload_n hx hb dX5_soulsIn_141 rfl (lv_at hl 3 rfl) ?_
              refine va_get (D := D) (ci := 5) (v := .ref (a 4)) (C := RX5) (T := TX5) (N := 8) hx hb htg inX5 hown hK.1 hP 0 rfl rfl 2 (by decide) (htg _ kw_386) (fun _ h9 => h9) rfl dX5_soulsIn_142 ?_
              refine lv_iload hx hb dX5_soulsIn_145 (lv_at hl 0 rfl) ?_
              refine va_iald hx hb hK.1 hP 4 1 rfl rfl (vp_in_iff.mpr (by omega)) dX5_soulsIn_147 ?_
              refine lv_iconst (v := 2) hx hb dX5_soulsIn_148 (by decide) ?_
              refine lv_icmp_le (tgt := 174) hx hb dX5_soulsIn_149 (by decide) (fun c149 => ?_) (fun c149 => ?_)
              · have c149 := xle (k := 2) (by decide) c149
                obtain ⟨i174, ei174⟩ : ∃ z : Int32, w4 + Int32.ofInt 1 = z := ⟨_, rfl⟩
                have ti174 : i174.toInt = w4.toInt + 1 := by rw [← ei174]; have h79 := xrng w4; exact xadd rfl (by decide) (by omega) (by omega)
                refine lv_iinc (v := i174) (lv' := [(4, .int i174), (3, .int w3), (2, .int z10), (0, .ref (a 0)), (1, .ref (a 1))]) hx hb dX5_soulsIn_174 hl (k := 0) rfl ei174 (by decide) rfl (fun ls hl => ?_)
                refine lv_goto (tgt := 17) hx hb dX5_soulsIn_177 (by decide) ?_
                exact ih _ (by omega) i174 w3 wf _ _ _ (by show 0 ≤ i174.toInt; omega) hi_1 rfl (hP.sub [0, 1, 2, 3, 4, 5, 6, 7, 8, 9, 10, 11] rfl) (hD.sub [0, 1, 2, 3, 4, 5, 6, 7, 8, 9, 10, 11] (by decide) rfl) hS (lv_sub hl [0, 1, 2, 3, 4] rfl)
              · have c149 := xnle (k := 2) (by decide) c149
                refine lv_iload_n hx hb dX5_soulsIn_152 rfl (lv_at hl 1 rfl) ?_
                refine lv_bipush (v := 40) hx hb dX5_soulsIn_153 (by decide) ?_
                refine lv_icmp_ge (tgt := 174) hx hb dX5_soulsIn_155 (by decide) (fun c155 => ?_) (fun c155 => ?_)
                · have c155 := xge (k := 40) (by decide) c155
                  obtain ⟨i174_1, ei174_1⟩ : ∃ z : Int32, w4 + Int32.ofInt 1 = z := ⟨_, rfl⟩
                  have ti174_1 : i174_1.toInt = w4.toInt + 1 := by rw [← ei174_1]; have h79 := xrng w4; exact xadd rfl (by decide) (by omega) (by omega)
                  refine lv_iinc (v := i174_1) (lv' := [(4, .int i174_1), (3, .int w3), (2, .int z10), (0, .ref (a 0)), (1, .ref (a 1))]) hx hb dX5_soulsIn_174 hl (k := 0) rfl ei174_1 (by decide) rfl (fun ls hl => ?_)
                  refine lv_goto (tgt := 17) hx hb dX5_soulsIn_177 (by decide) ?_
                  exact ih _ (by omega) i174_1 w3 wf _ _ _ (by show 0 ≤ i174_1.toInt; omega) hi_1 rfl (hP.sub [0, 1, 2, 3, 4, 5, 6, 7, 8, 9, 10, 11] rfl) (hD.sub [0, 1, 2, 3, 4, 5, 6, 7, 8, 9, 10, 11] (by decide) rfl) hS (lv_sub hl [0, 1, 2, 3, 4] rfl)
                · have c155 := xnge (k := 40) (by decide) c155
                  refine lv_aload_n hx hb dX5_soulsIn_158 rfl (lv_at hl 3 rfl) ?_
                  refine va_get (D := D) (ci := 5) (v := .ref (a 3)) (C := RX5) (T := TX5) (N := 8) hx hb htg inX5 hown hK.1 hP 0 rfl rfl 5 (by decide) (htg _ kw_389) (fun _ h9 => h9) rfl dX5_soulsIn_159 ?_
                  refine lv_iload_n hx hb dX5_soulsIn_162 rfl (lv_at hl 1 rfl) ?_
                  refine lv_aload_n hx hb dX5_soulsIn_163 rfl (lv_at hl 3 rfl) ?_
                  refine lv_iload hx hb dX5_soulsIn_164 (lv_at hl 0 rfl) ?_
                  refine lv_aload_n hx hb dX5_soulsIn_166 rfl (lv_at hl 4 rfl) ?_
                  obtain ⟨hC9, hPc, hDc, hFc⟩ := xcut (wc := (pre_X5_soulsOfLeaf T (xa [(a 0), (a 1), (a 2), (a 4), (a 5), (a 6), (a 7), (a 8), (a 9), (a 10), (a 11)]) (xa [(ex 0), (ex 1), (a 3), (ex 2), (ex 3), (ex 4), (ex 5), (ex 6), (ex 7), (ex 8), (ex 9), (ex 10), (ex 11), (ex 12), (ex 13), (ex 14)]) (xf [(fi 1), (fi 2), (fi 3), (fi 4), (fi 5), (fi 6), (fi 7), (fi 8)]) (xh []) (xv [w4, (vi 0), (vi 1), (vi 2), (vi 3), (vi 4), (vi 5), (vi 6), (vi 7), (vi 8), (vi 9)]) (xl []))) hP hD hS hA [0, 1, 2, 4, 5, 6, 7, 8, 9, 10, 11] (by decide) rfl
                  refine va_calli (va_runV (As := [.int w4, .ref (a 1)]) (rest := [.int w3, .ref (a 3)]) ⟨hx, hb, hml, hown, htg⟩ (c_X5_soulsOfLeaf l D T (xa [(a 0), (a 1), (a 2), (a 4), (a 5), (a 6), (a 7), (a 8), (a 9), (a 10), (a 11)]) (xa [(ex 0), (ex 1), (a 3), (ex 2), (ex 3), (ex 4), (ex 5), (ex 6), (ex 7), (ex 8), (ex 9), (ex 10), (ex 11), (ex 12), (ex 13), (ex 14)]) (xf [(fi 1), (fi 2), (fi 3), (fi 4), (fi 5), (fi 6), (fi 7), (fi 8)]) (xh []) (xv [w4, (vi 0), (vi 1), (vi 2), (vi 3), (vi 4), (vi 5), (vi 6), (vi 7), (vi 8), (vi 9)]) (xl []) H.size (by show 0 ≤ w4.toInt ∧ w4.toInt ≤ 39; omega) hp0 hp1 hp2 hp3 hp4 hp5 (show rg (fi 2) 0 9 (-1) 8 from hp6)) ⟨callB_of 2 htg (xg_ok kw_1250) rfl rfl rfl (htg _ kw_12) (htg _ kw_1247) (by decide +kernel) ⟨by rw [hR]; exact Nat.le_of_ble_eq_true rfl, by rw [hR]; exact Nat.le_of_ble_eq_true rfl⟩, htg _ kw_1249, htg _ ks_109⟩ (xpreV hK hPc hDc (va_recv hK.1 hPc (ci := 5) (q0 := 0) rfl rfl)) rfl rfl hl.1 rfl (lv_room (Nat.le_of_ble_eq_true rfl)) dX5_soulsIn_167 ⟨by rw [hR]; exact Nat.le_of_ble_eq_true rfl, by rw [hR]; exact Nat.le_of_ble_eq_true rfl⟩) hS (fun q _ h => hFc q h) hFc (fun r9 u9 t H1 locs ht hvm hw hB hz1 hk1 hS => ?_)
                  subst hw
                  obtain ⟨fik, flk, vik, vlk, hP1, hD1, hG⟩ := hB
                  rw [ht] at hP1
                  obtain ⟨hP, hD⟩ := va_join (wr := [((a 3), .inl (T 1, 40, .inl wf))]) (w1 := [((a 0), .inr (5, [.ref (ex 0), .ref (ex 1), .ref (a 4), .ref (a 11), .ref (a 6), .ref (a 3), .int (vi 0), .int (vi 1)])), ((a 1), .inr (2, [.ref (a 2), .int (vi 2), .int (vi 3), .int (vi 4), .int (vi 5), .int (vi 6), .int (vi 7), .ref (ex 2), .ref (a 9), .ref (ex 3), .ref (a 5), .ref (a 8), .ref (a 10), .ref (ex 4), .ref (ex 5)])), ((a 2), .inr (7, [.int (vi 8), .int (vi 9), .ref (ex 6), .ref (ex 7), .ref (ex 8), .ref (ex 9), .ref (ex 10), .ref (ex 11), .ref (ex 12), .ref (a 7), .ref (ex 13), .ref (ex 14)])), ((a 4), .inl (T 1, 40, .inl (fi 1))), ((a 5), .inl (T 1, 9, .inl (fi 2))), ((a 6), .inl (T 1, 40, .inl (fi 3))), ((a 7), .inl (T 1, 9, .inl (fi 4))), ((a 8), .inl (T 1, 9, .inl (fi 5))), ((a 9), .inl (T 1, 9, .inl (fi 6))), ((a 10), .inl (T 1, 9, .inl (fi 7))), ((a 11), .inl (T 1, 40, .inl (fi 8)))]) hP hD [0, 1, 2, 4, 5, 6, 7, 8, 9, 10, 11] [3] hC9 rfl (by decide) (by decide) hk1 hFc hP1 hD1
                  obtain ⟨rk, er9⟩ : ∃ z, z = r9 := ⟨_, rfl⟩
                  subst er9
                  clear hPc hDc hFc hP1 hD1 hk1 hz1 hvm ht hC9
                  generalize H1 = H at hP hS ⊢
                  obtain ⟨hP, hD⟩ := (show xPD D A [((a 3), .inl (T 1, 40, .inl wf)), ((a 0), .inr (5, [.ref (ex 0), .ref (ex 1), .ref (a 4), .ref (a 11), .ref (a 6), .ref (a 3), .int (vi 0), .int (vi 1)])), ((a 1), .inr (2, [.ref (a 2), .int (vi 2), .int (vi 3), .int (vi 4), .int (vi 5), .int (vi 6), .int (vi 7), .ref (ex 2), .ref (a 9), .ref (ex 3), .ref (a 5), .ref (a 8), .ref (a 10), .ref (ex 4), .ref (ex 5)])), ((a 2), .inr (7, [.int (vi 8), .int (vi 9), .ref (ex 6), .ref (ex 7), .ref (ex 8), .ref (ex 9), .ref (ex 10), .ref (ex 11), .ref (ex 12), .ref (a 7), .ref (ex 13), .ref (ex 14)])), ((a 4), .inl (T 1, 40, .inl (fi 1))), ((a 5), .inl (T 1, 9, .inl (fi 2))), ((a 6), .inl (T 1, 40, .inl (fi 3))), ((a 7), .inl (T 1, 9, .inl (fi 4))), ((a 8), .inl (T 1, 9, .inl (fi 5))), ((a 9), .inl (T 1, 9, .inl (fi 6))), ((a 10), .inl (T 1, 9, .inl (fi 7))), ((a 11), .inl (T 1, 40, .inl (fi 8)))] H from ⟨hP, hD⟩)
                  clear hG
                  refine va_iast hx hb hK.1 hP hD hS 0 1 rfl rfl (vp_in_iff.mpr (by omega)) dX5_soulsIn_170 (fun H locs hP hD hS => ?_)
                  obtain ⟨f170, ef170, hP, hD⟩ : ∃ f7 : Nat → Int32, f7 = upd wf w3.toNatClampNeg (rk : Int32) ∧ va_P D vwCl [((a 3), .inl (T 1, 40, .inl f7)), ((a 0), .inr (5, [.ref (ex 0), .ref (ex 1), .ref (a 4), .ref (a 11), .ref (a 6), .ref (a 3), .int (vi 0), .int (vi 1)])), ((a 1), .inr (2, [.ref (a 2), .int (vi 2), .int (vi 3), .int (vi 4), .int (vi 5), .int (vi 6), .int (vi 7), .ref (ex 2), .ref (a 9), .ref (ex 3), .ref (a 5), .ref (a 8), .ref (a 10), .ref (ex 4), .ref (ex 5)])), ((a 2), .inr (7, [.int (vi 8), .int (vi 9), .ref (ex 6), .ref (ex 7), .ref (ex 8), .ref (ex 9), .ref (ex 10), .ref (ex 11), .ref (ex 12), .ref (a 7), .ref (ex 13), .ref (ex 14)])), ((a 4), .inl (T 1, 40, .inl (fi 1))), ((a 5), .inl (T 1, 9, .inl (fi 2))), ((a 6), .inl (T 1, 40, .inl (fi 3))), ((a 7), .inl (T 1, 9, .inl (fi 4))), ((a 8), .inl (T 1, 9, .inl (fi 5))), ((a 9), .inl (T 1, 9, .inl (fi 6))), ((a 10), .inl (T 1, 9, .inl (fi 7))), ((a 11), .inl (T 1, 40, .inl (fi 8)))] H ∧ va_D A [((a 3), .inl (T 1, 40, .inl f7)), ((a 0), .inr (5, [.ref (ex 0), .ref (ex 1), .ref (a 4), .ref (a 11), .ref (a 6), .ref (a 3), .int (vi 0), .int (vi 1)])), ((a 1), .inr (2, [.ref (a 2), .int (vi 2), .int (vi 3), .int (vi 4), .int (vi 5), .int (vi 6), .int (vi 7), .ref (ex 2), .ref (a 9), .ref (ex 3), .ref (a 5), .ref (a 8), .ref (a 10), .ref (ex 4), .ref (ex 5)])), ((a 2), .inr (7, [.int (vi 8), .int (vi 9), .ref (ex 6), .ref (ex 7), .ref (ex 8), .ref (ex 9), .ref (ex 10), .ref (ex 11), .ref (ex 12), .ref (a 7), .ref (ex 13), .ref (ex 14)])), ((a 4), .inl (T 1, 40, .inl (fi 1))), ((a 5), .inl (T 1, 9, .inl (fi 2))), ((a 6), .inl (T 1, 40, .inl (fi 3))), ((a 7), .inl (T 1, 9, .inl (fi 4))), ((a 8), .inl (T 1, 9, .inl (fi 5))), ((a 9), .inl (T 1, 9, .inl (fi 6))), ((a 10), .inl (T 1, 9, .inl (fi 7))), ((a 11), .inl (T 1, 40, .inl (fi 8)))] := ⟨_, rfl, hP, hD⟩
                  obtain ⟨i171, ei171⟩ : ∃ z : Int32, w3 + Int32.ofInt 1 = z := ⟨_, rfl⟩
                  have ti171 : i171.toInt = w3.toInt + 1 := by rw [← ei171]; have h79 := xrng w3; exact xadd rfl (by decide) (by omega) (by omega)
                  refine lv_iinc (v := i171) (lv' := [(3, .int i171), (4, .int w4), (2, .int z10), (0, .ref (a 0)), (1, .ref (a 1))]) hx hb dX5_soulsIn_171 hl (k := 1) rfl ei171 (by decide) rfl (fun ls hl => ?_)
                  obtain ⟨i174_2, ei174_2⟩ : ∃ z : Int32, w4 + Int32.ofInt 1 = z := ⟨_, rfl⟩
                  have ti174_2 : i174_2.toInt = w4.toInt + 1 := by rw [← ei174_2]; have h79 := xrng w4; exact xadd rfl (by decide) (by omega) (by omega)
                  refine lv_iinc (v := i174_2) (lv' := [(4, .int i174_2), (3, .int i171), (2, .int z10), (0, .ref (a 0)), (1, .ref (a 1))]) hx hb dX5_soulsIn_174 hl (k := 1) rfl ei174_2 (by decide) rfl (fun ls hl => ?_)
                  refine lv_goto (tgt := 17) hx hb dX5_soulsIn_177 (by decide) ?_
                  exact ih _ (by omega) i174_2 i171 f170 _ _ _ (by show 0 ≤ i174_2.toInt; omega) (by show 0 ≤ i171.toInt ∧ i171.toInt ≤ 40; omega) rfl (hP.sub [1, 2, 3, 0, 4, 5, 6, 7, 8, 9, 10, 11] rfl) (hD.sub [1, 2, 3, 0, 4, 5, 6, 7, 8, 9, 10, 11] (by decide) rfl) hS (lv_sub hl [0, 1, 2, 3, 4] rfl)
            · have c110 := xeq (k := 2) (by decide) c110
              refine lv_iload_n hx hb dX5_soulsIn_113 rfl (lv_at hl 1 rfl) ?_
              refine lv_iconst (v := 1) hx hb dX5_soulsIn_114 (by decide) ?_
              refine lv_icmp_le (tgt := 141) hx hb dX5_soulsIn_115 (by decide) (fun c115 => ?_) (fun c115 => ?_)
              · have c115 := xle (k := 1) (by decide) c115
                refine lv_aload_n hx hb dX5_soulsIn_141 rfl (lv_at hl 3 rfl) ?_
                refine va_get (D := D) (ci := 5) (v := .ref (a 4)) (C := RX5) (T := TX5) (N := 8) hx hb htg inX5 hown hK.1 hP 0 rfl rfl 2 (by decide) (htg _ kw_386) (fun _ h9 => h9) rfl dX5_soulsIn_142 ?_
                refine lv_iload hx hb dX5_soulsIn_145 (lv_at hl 0 rfl) ?_
                refine va_iald hx hb hK.1 hP 4 1 rfl rfl (vp_in_iff.mpr (by omega)) dX5_soulsIn_147 ?_
                refine lv_iconst (v := 2) hx hb dX5_soulsIn_148 (by decide) ?_
                refine lv_icmp_le (tgt := 174) hx hb dX5_soulsIn_149 (by decide) (fun _ => ?_) (fun c => by exfalso; have h9 := xnle (k := 2) (by decide) c; have h7 := xrng ((fi 1) w4.toNatClampNeg); omega)
                obtain ⟨i174_3, ei174_3⟩ : ∃ z : Int32, w4 + Int32.ofInt 1 = z := ⟨_, rfl⟩
                have ti174_3 : i174_3.toInt = w4.toInt + 1 := by rw [← ei174_3]; have h79 := xrng w4; exact xadd rfl (by decide) (by omega) (by omega)
                refine lv_iinc (v := i174_3) (lv' := [(4, .int i174_3), (3, .int w3), (2, .int z10), (0, .ref (a 0)), (1, .ref (a 1))]) hx hb dX5_soulsIn_174 hl (k := 0) rfl ei174_3 (by decide) rfl (fun ls hl => ?_)
                refine lv_goto (tgt := 17) hx hb dX5_soulsIn_177 (by decide) ?_
                exact ih _ (by omega) i174_3 w3 wf _ _ _ (by show 0 ≤ i174_3.toInt; omega) hi_1 rfl (hP.sub [0, 1, 2, 3, 4, 5, 6, 7, 8, 9, 10, 11] rfl) (hD.sub [0, 1, 2, 3, 4, 5, 6, 7, 8, 9, 10, 11] (by decide) rfl) hS (lv_sub hl [0, 1, 2, 3, 4] rfl)
              · have c115 := xnle (k := 1) (by decide) c115
                obtain ⟨i118, ei118⟩ : ∃ z : Int32, w3 + Int32.ofInt (-1) = z := ⟨_, rfl⟩
                have ti118 : i118.toInt = w3.toInt + (-1) := by rw [← ei118]; have h79 := xrng w3; exact xadd rfl (by decide) (by omega) (by omega)
                refine lv_iinc (v := i118) (lv' := [(3, .int i118), (4, .int w4), (2, .int z10), (0, .ref (a 0)), (1, .ref (a 1))]) hx hb dX5_soulsIn_118 hl (k := 1) rfl ei118 (by decide) rfl (fun ls hl => ?_)
                refine lv_aload_n hx hb dX5_soulsIn_121 rfl (lv_at hl 3 rfl) ?_
                refine va_get (D := D) (ci := 5) (v := .ref (a 3)) (C := RX5) (T := TX5) (N := 8) hx hb htg inX5 hown hK.1 hP 0 rfl rfl 5 (by decide) (htg _ kw_389) (fun _ h9 => h9) rfl dX5_soulsIn_122 ?_
                refine lv_iload_n hx hb dX5_soulsIn_125 rfl (lv_at hl 0 rfl) ?_
                refine lv_iconst (v := 1) hx hb dX5_soulsIn_126 (by decide) ?_
                refine lv_isub hx hb dX5_soulsIn_127 ?_
                refine lv_topi (fun z127 ez127 => ?_)
                have tz127 : z127.toInt = i118.toInt - 1 := by rw [ez127]; exact xsub rfl (by decide) (by omega) (by omega)
                refine lv_dup2_11 hx hb dX5_soulsIn_128 rfl rfl ?_
                refine va_iald hx hb hK.1 hP 3 1 rfl rfl (vp_in_iff.mpr (by omega)) dX5_soulsIn_129 ?_
                refine lv_aload_n hx hb dX5_soulsIn_130 rfl (lv_at hl 3 rfl) ?_
                refine va_get (D := D) (ci := 5) (v := .ref (a 3)) (C := RX5) (T := TX5) (N := 8) hx hb htg inX5 hown hK.1 hP 0 rfl rfl 5 (by decide) (htg _ kw_389) (fun _ h9 => h9) rfl dX5_soulsIn_131 ?_
                refine lv_iload_n hx hb dX5_soulsIn_134 rfl (lv_at hl 0 rfl) ?_
                refine va_iald hx hb hK.1 hP 3 1 rfl rfl (vp_in_iff.mpr (by omega)) dX5_soulsIn_135 ?_
                refine lv_ior hx hb dX5_soulsIn_136 ?_
                refine lv_topi (fun z136 ez136 => ?_)
                refine va_iast hx hb hK.1 hP hD hS 3 1 rfl rfl (vp_in_iff.mpr (by omega)) dX5_soulsIn_137 (fun H locs hP hD hS => ?_)
                obtain ⟨f137, ef137, hP, hD⟩ : ∃ f7 : Nat → Int32, f7 = upd wf z127.toNatClampNeg (z136 : Int32) ∧ va_P D vwCl [((a 0), .inr (5, [.ref (ex 0), .ref (ex 1), .ref (a 4), .ref (a 11), .ref (a 6), .ref (a 3), .int (vi 0), .int (vi 1)])), ((a 1), .inr (2, [.ref (a 2), .int (vi 2), .int (vi 3), .int (vi 4), .int (vi 5), .int (vi 6), .int (vi 7), .ref (ex 2), .ref (a 9), .ref (ex 3), .ref (a 5), .ref (a 8), .ref (a 10), .ref (ex 4), .ref (ex 5)])), ((a 2), .inr (7, [.int (vi 8), .int (vi 9), .ref (ex 6), .ref (ex 7), .ref (ex 8), .ref (ex 9), .ref (ex 10), .ref (ex 11), .ref (ex 12), .ref (a 7), .ref (ex 13), .ref (ex 14)])), ((a 3), .inl (T 1, 40, .inl f7)), ((a 4), .inl (T 1, 40, .inl (fi 1))), ((a 5), .inl (T 1, 9, .inl (fi 2))), ((a 6), .inl (T 1, 40, .inl (fi 3))), ((a 7), .inl (T 1, 9, .inl (fi 4))), ((a 8), .inl (T 1, 9, .inl (fi 5))), ((a 9), .inl (T 1, 9, .inl (fi 6))), ((a 10), .inl (T 1, 9, .inl (fi 7))), ((a 11), .inl (T 1, 40, .inl (fi 8)))] H ∧ va_D A [((a 0), .inr (5, [.ref (ex 0), .ref (ex 1), .ref (a 4), .ref (a 11), .ref (a 6), .ref (a 3), .int (vi 0), .int (vi 1)])), ((a 1), .inr (2, [.ref (a 2), .int (vi 2), .int (vi 3), .int (vi 4), .int (vi 5), .int (vi 6), .int (vi 7), .ref (ex 2), .ref (a 9), .ref (ex 3), .ref (a 5), .ref (a 8), .ref (a 10), .ref (ex 4), .ref (ex 5)])), ((a 2), .inr (7, [.int (vi 8), .int (vi 9), .ref (ex 6), .ref (ex 7), .ref (ex 8), .ref (ex 9), .ref (ex 10), .ref (ex 11), .ref (ex 12), .ref (a 7), .ref (ex 13), .ref (ex 14)])), ((a 3), .inl (T 1, 40, .inl f7)), ((a 4), .inl (T 1, 40, .inl (fi 1))), ((a 5), .inl (T 1, 9, .inl (fi 2))), ((a 6), .inl (T 1, 40, .inl (fi 3))), ((a 7), .inl (T 1, 9, .inl (fi 4))), ((a 8), .inl (T 1, 9, .inl (fi 5))), ((a 9), .inl (T 1, 9, .inl (fi 6))), ((a 10), .inl (T 1, 9, .inl (fi 7))), ((a 11), .inl (T 1, 40, .inl (fi 8)))] := ⟨_, rfl, hP, hD⟩
                refine lv_goto (tgt := 174) hx hb dX5_soulsIn_138 (by decide) ?_
                obtain ⟨i174_4, ei174_4⟩ : ∃ z : Int32, w4 + Int32.ofInt 1 = z := ⟨_, rfl⟩
                have ti174_4 : i174_4.toInt = w4.toInt + 1 := by rw [← ei174_4]; have h79 := xrng w4; exact xadd rfl (by decide) (by omega) (by omega)
                refine lv_iinc (v := i174_4) (lv' := [(4, .int i174_4), (3, .int i118), (2, .int z10), (0, .ref (a 0)), (1, .ref (a 1))]) hx hb dX5_soulsIn_174 hl (k := 1) rfl ei174_4 (by decide) rfl (fun ls hl => ?_)
                refine lv_goto (tgt := 17) hx hb dX5_soulsIn_177 (by decide) ?_
                exact ih _ (by omega) i174_4 i118 f137 _ _ _ (by show 0 ≤ i174_4.toInt; omega) (by show 0 ≤ i118.toInt ∧ i118.toInt ≤ 40; omega) rfl (hP.sub [0, 1, 2, 3, 4, 5, 6, 7, 8, 9, 10, 11] rfl) (hD.sub [0, 1, 2, 3, 4, 5, 6, 7, 8, 9, 10, 11] (by decide) rfl) hS (lv_sub hl [0, 1, 2, 3, 4] rfl)
          · have c71 := xeq (k := 1) (by decide) c71
            refine lv_iload_n hx hb dX5_soulsIn_74 rfl (lv_at hl 1 rfl) ?_
            refine lv_iconst (v := 1) hx hb dX5_soulsIn_75 (by decide) ?_
            refine lv_icmp_le (tgt := 102) hx hb dX5_soulsIn_76 (by decide) (fun c76 => ?_) (fun c76 => ?_)
            · have c76 := xle (k := 1) (by decide) c76
              refine lv_aload_n hx hb dX5_soulsIn_102 rfl (lv_at hl 3 rfl) ?_
              refine va_get (D := D) (ci := 5) (v := .ref (a 4)) (C := RX5) (T := TX5) (N := 8) hx hb htg inX5 hown hK.1 hP 0 rfl rfl 2 (by decide) (htg _ kw_386) (fun _ h9 => h9) rfl dX5_soulsIn_103 ?_
              refine lv_iload hx hb dX5_soulsIn_106 (lv_at hl 0 rfl) ?_
              refine va_iald hx hb hK.1 hP 4 1 rfl rfl (vp_in_iff.mpr (by omega)) dX5_soulsIn_108 ?_
              refine lv_iconst (v := 2) hx hb dX5_soulsIn_109 (by decide) ?_
              refine lv_icmp_ne (tgt := 141) hx hb dX5_soulsIn_110 (by decide) (fun _ => ?_) (fun c => by exfalso; have h9 := xeq (k := 2) (by decide) c; have h7 := xrng ((fi 1) w4.toNatClampNeg); omega)
              refine lv_aload_n hx hb dX5_soulsIn_141 rfl (lv_at hl 3 rfl) ?_
              refine va_get (D := D) (ci := 5) (v := .ref (a 4)) (C := RX5) (T := TX5) (N := 8) hx hb htg inX5 hown hK.1 hP 0 rfl rfl 2 (by decide) (htg _ kw_386) (fun _ h9 => h9) rfl dX5_soulsIn_142 ?_
              refine lv_iload hx hb dX5_soulsIn_145 (lv_at hl 0 rfl) ?_
              refine va_iald hx hb hK.1 hP 4 1 rfl rfl (vp_in_iff.mpr (by omega)) dX5_soulsIn_147 ?_
              refine lv_iconst (v := 2) hx hb dX5_soulsIn_148 (by decide) ?_
              refine lv_icmp_le (tgt := 174) hx hb dX5_soulsIn_149 (by decide) (fun _ => ?_) (fun c => by exfalso; have h9 := xnle (k := 2) (by decide) c; have h7 := xrng ((fi 1) w4.toNatClampNeg); omega)
              obtain ⟨i174_5, ei174_5⟩ : ∃ z : Int32, w4 + Int32.ofInt 1 = z := ⟨_, rfl⟩
              have ti174_5 : i174_5.toInt = w4.toInt + 1 := by rw [← ei174_5]; have h79 := xrng w4; exact xadd rfl (by decide) (by omega) (by omega)
              refine lv_iinc (v := i174_5) (lv' := [(4, .int i174_5), (3, .int w3), (2, .int z10), (0, .ref (a 0)), (1, .ref (a 1))]) hx hb dX5_soulsIn_174 hl (k := 0) rfl ei174_5 (by decide) rfl (fun ls hl => ?_)
              refine lv_goto (tgt := 17) hx hb dX5_soulsIn_177 (by decide) ?_
              exact ih _ (by omega) i174_5 w3 wf _ _ _ (by show 0 ≤ i174_5.toInt; omega) hi_1 rfl (hP.sub [0, 1, 2, 3, 4, 5, 6, 7, 8, 9, 10, 11] rfl) (hD.sub [0, 1, 2, 3, 4, 5, 6, 7, 8, 9, 10, 11] (by decide) rfl) hS (lv_sub hl [0, 1, 2, 3, 4] rfl)
            · have c76 := xnle (k := 1) (by decide) c76
              obtain ⟨i79, ei79⟩ : ∃ z : Int32, w3 + Int32.ofInt (-1) = z := ⟨_, rfl⟩
              have ti79 : i79.toInt = w3.toInt + (-1) := by rw [← ei79]; have h79 := xrng w3; exact xadd rfl (by decide) (by omega) (by omega)
              refine lv_iinc (v := i79) (lv' := [(3, .int i79), (4, .int w4), (2, .int z10), (0, .ref (a 0)), (1, .ref (a 1))]) hx hb dX5_soulsIn_79 hl (k := 1) rfl ei79 (by decide) rfl (fun ls hl => ?_)
              refine lv_aload_n hx hb dX5_soulsIn_82 rfl (lv_at hl 3 rfl) ?_
              refine va_get (D := D) (ci := 5) (v := .ref (a 3)) (C := RX5) (T := TX5) (N := 8) hx hb htg inX5 hown hK.1 hP 0 rfl rfl 5 (by decide) (htg _ kw_389) (fun _ h9 => h9) rfl dX5_soulsIn_83 ?_
              refine lv_iload_n hx hb dX5_soulsIn_86 rfl (lv_at hl 0 rfl) ?_
              refine lv_iconst (v := 1) hx hb dX5_soulsIn_87 (by decide) ?_
              refine lv_isub hx hb dX5_soulsIn_88 ?_
              refine lv_topi (fun z88 ez88 => ?_)
              have tz88 : z88.toInt = i79.toInt - 1 := by rw [ez88]; exact xsub rfl (by decide) (by omega) (by omega)
              refine lv_dup2_11 hx hb dX5_soulsIn_89 rfl rfl ?_
              refine va_iald hx hb hK.1 hP 3 1 rfl rfl (vp_in_iff.mpr (by omega)) dX5_soulsIn_90 ?_
              refine lv_aload_n hx hb dX5_soulsIn_91 rfl (lv_at hl 3 rfl) ?_
              refine va_get (D := D) (ci := 5) (v := .ref (a 3)) (C := RX5) (T := TX5) (N := 8) hx hb htg inX5 hown hK.1 hP 0 rfl rfl 5 (by decide) (htg _ kw_389) (fun _ h9 => h9) rfl dX5_soulsIn_92 ?_
              refine lv_iload_n hx hb dX5_soulsIn_95 rfl (lv_at hl 0 rfl) ?_
              refine va_iald hx hb hK.1 hP 3 1 rfl rfl (vp_in_iff.mpr (by omega)) dX5_soulsIn_96 ?_
              refine lv_iand hx hb dX5_soulsIn_97 ?_
              refine lv_topi (fun z97 ez97 => ?_)
              refine va_iast hx hb hK.1 hP hD hS 3 1 rfl rfl (vp_in_iff.mpr (by omega)) dX5_soulsIn_98 (fun H locs hP hD hS => ?_)
              obtain ⟨f98, ef98, hP, hD⟩ : ∃ f7 : Nat → Int32, f7 = upd wf z88.toNatClampNeg (z97 : Int32) ∧ va_P D vwCl [((a 0), .inr (5, [.ref (ex 0), .ref (ex 1), .ref (a 4), .ref (a 11), .ref (a 6), .ref (a 3), .int (vi 0), .int (vi 1)])), ((a 1), .inr (2, [.ref (a 2), .int (vi 2), .int (vi 3), .int (vi 4), .int (vi 5), .int (vi 6), .int (vi 7), .ref (ex 2), .ref (a 9), .ref (ex 3), .ref (a 5), .ref (a 8), .ref (a 10), .ref (ex 4), .ref (ex 5)])), ((a 2), .inr (7, [.int (vi 8), .int (vi 9), .ref (ex 6), .ref (ex 7), .ref (ex 8), .ref (ex 9), .ref (ex 10), .ref (ex 11), .ref (ex 12), .ref (a 7), .ref (ex 13), .ref (ex 14)])), ((a 3), .inl (T 1, 40, .inl f7)), ((a 4), .inl (T 1, 40, .inl (fi 1))), ((a 5), .inl (T 1, 9, .inl (fi 2))), ((a 6), .inl (T 1, 40, .inl (fi 3))), ((a 7), .inl (T 1, 9, .inl (fi 4))), ((a 8), .inl (T 1, 9, .inl (fi 5))), ((a 9), .inl (T 1, 9, .inl (fi 6))), ((a 10), .inl (T 1, 9, .inl (fi 7))), ((a 11), .inl (T 1, 40, .inl (fi 8)))] H ∧ va_D A [((a 0), .inr (5, [.ref (ex 0), .ref (ex 1), .ref (a 4), .ref (a 11), .ref (a 6), .ref (a 3), .int (vi 0), .int (vi 1)])), ((a 1), .inr (2, [.ref (a 2), .int (vi 2), .int (vi 3), .int (vi 4), .int (vi 5), .int (vi 6), .int (vi 7), .ref (ex 2), .ref (a 9), .ref (ex 3), .ref (a 5), .ref (a 8), .ref (a 10), .ref (ex 4), .ref (ex 5)])), ((a 2), .inr (7, [.int (vi 8), .int (vi 9), .ref (ex 6), .ref (ex 7), .ref (ex 8), .ref (ex 9), .ref (ex 10), .ref (ex 11), .ref (ex 12), .ref (a 7), .ref (ex 13), .ref (ex 14)])), ((a 3), .inl (T 1, 40, .inl f7)), ((a 4), .inl (T 1, 40, .inl (fi 1))), ((a 5), .inl (T 1, 9, .inl (fi 2))), ((a 6), .inl (T 1, 40, .inl (fi 3))), ((a 7), .inl (T 1, 9, .inl (fi 4))), ((a 8), .inl (T 1, 9, .inl (fi 5))), ((a 9), .inl (T 1, 9, .inl (fi 6))), ((a 10), .inl (T 1, 9, .inl (fi 7))), ((a 11), .inl (T 1, 40, .inl (fi 8)))] := ⟨_, rfl, hP, hD⟩
              refine lv_goto (tgt := 174) hx hb dX5_soulsIn_99 (by decide) ?_
              obtain ⟨i174_6, ei174_6⟩ : ∃ z : Int32, w4 + Int32.ofInt 1 = z := ⟨_, rfl⟩
              have ti174_6 : i174_6.toInt = w4.toInt + 1 := by rw [← ei174_6]; have h79 := xrng w4; exact xadd rfl (by decide) (by omega) (by omega)
              refine lv_iinc (v := i174_6) (lv' := [(4, .int i174_6), (3, .int i79), (2, .int z10), (0, .ref (a 0)), (1, .ref (a 1))]) hx hb dX5_soulsIn_174 hl (k := 1) rfl ei174_6 (by decide) rfl (fun ls hl => ?_)
              refine lv_goto (tgt := 17) hx hb dX5_soulsIn_177 (by decide) ?_
              exact ih _ (by omega) i174_6 i79 f98 _ _ _ (by show 0 ≤ i174_6.toInt; omega) (by show 0 ≤ i79.toInt ∧ i79.toInt ≤ 40; omega) rfl (hP.sub [0, 1, 2, 3, 4, 5, 6, 7, 8, 9, 10, 11] rfl) (hD.sub [0, 1, 2, 3, 4, 5, 6, 7, 8, 9, 10, 11] (by decide) rfl) hS (lv_sub hl [0, 1, 2, 3, 4] rfl)
        · have c33 := xeq (k := 0) (by decide) c33
          refine lv_iload_n hx hb dX5_soulsIn_36 rfl (lv_at hl 1 rfl) ?_
          refine lv_if_le (tgt := 63) hx hb dX5_soulsIn_37 (by decide) (fun c37 => ?_) (fun c37 => ?_)
          · have c37 := xle (k := 0) (by decide) c37
            refine lv_aload_n hx hb dX5_soulsIn_63 rfl (lv_at hl 3 rfl) ?_
            refine va_get (D := D) (ci := 5) (v := .ref (a 4)) (C := RX5) (T := TX5) (N := 8) hx hb htg inX5 hown hK.1 hP 0 rfl rfl 2 (by decide) (htg _ kw_386) (fun _ h9 => h9) rfl dX5_soulsIn_64 ?_
            refine lv_iload hx hb dX5_soulsIn_67 (lv_at hl 0 rfl) ?_
            refine va_iald hx hb hK.1 hP 4 1 rfl rfl (vp_in_iff.mpr (by omega)) dX5_soulsIn_69 ?_
            refine lv_iconst (v := 1) hx hb dX5_soulsIn_70 (by decide) ?_
            refine lv_icmp_ne (tgt := 102) hx hb dX5_soulsIn_71 (by decide) (fun _ => ?_) (fun c => by exfalso; have h9 := xeq (k := 1) (by decide) c; have h7 := xrng ((fi 1) w4.toNatClampNeg); omega)
            refine lv_aload_n hx hb dX5_soulsIn_102 rfl (lv_at hl 3 rfl) ?_
            refine va_get (D := D) (ci := 5) (v := .ref (a 4)) (C := RX5) (T := TX5) (N := 8) hx hb htg inX5 hown hK.1 hP 0 rfl rfl 2 (by decide) (htg _ kw_386) (fun _ h9 => h9) rfl dX5_soulsIn_103 ?_
            refine lv_iload hx hb dX5_soulsIn_106 (lv_at hl 0 rfl) ?_
            refine va_iald hx hb hK.1 hP 4 1 rfl rfl (vp_in_iff.mpr (by omega)) dX5_soulsIn_108 ?_
            refine lv_iconst (v := 2) hx hb dX5_soulsIn_109 (by decide) ?_
            refine lv_icmp_ne (tgt := 141) hx hb dX5_soulsIn_110 (by decide) (fun _ => ?_) (fun c => by exfalso; have h9 := xeq (k := 2) (by decide) c; have h7 := xrng ((fi 1) w4.toNatClampNeg); omega)
            refine lv_aload_n hx hb dX5_soulsIn_141 rfl (lv_at hl 3 rfl) ?_
            refine va_get (D := D) (ci := 5) (v := .ref (a 4)) (C := RX5) (T := TX5) (N := 8) hx hb htg inX5 hown hK.1 hP 0 rfl rfl 2 (by decide) (htg _ kw_386) (fun _ h9 => h9) rfl dX5_soulsIn_142 ?_
            refine lv_iload hx hb dX5_soulsIn_145 (lv_at hl 0 rfl) ?_
            refine va_iald hx hb hK.1 hP 4 1 rfl rfl (vp_in_iff.mpr (by omega)) dX5_soulsIn_147 ?_
            refine lv_iconst (v := 2) hx hb dX5_soulsIn_148 (by decide) ?_
            refine lv_icmp_le (tgt := 174) hx hb dX5_soulsIn_149 (by decide) (fun _ => ?_) (fun c => by exfalso; have h9 := xnle (k := 2) (by decide) c; have h7 := xrng ((fi 1) w4.toNatClampNeg); omega)
            obtain ⟨i174_7, ei174_7⟩ : ∃ z : Int32, w4 + Int32.ofInt 1 = z := ⟨_, rfl⟩
            have ti174_7 : i174_7.toInt = w4.toInt + 1 := by rw [← ei174_7]; have h79 := xrng w4; exact xadd rfl (by decide) (by omega) (by omega)
            refine lv_iinc (v := i174_7) (lv' := [(4, .int i174_7), (3, .int w3), (2, .int z10), (0, .ref (a 0)), (1, .ref (a 1))]) hx hb dX5_soulsIn_174 hl (k := 0) rfl ei174_7 (by decide) rfl (fun ls hl => ?_)
            refine lv_goto (tgt := 17) hx hb dX5_soulsIn_177 (by decide) ?_
            exact ih _ (by omega) i174_7 w3 wf _ _ _ (by show 0 ≤ i174_7.toInt; omega) hi_1 rfl (hP.sub [0, 1, 2, 3, 4, 5, 6, 7, 8, 9, 10, 11] rfl) (hD.sub [0, 1, 2, 3, 4, 5, 6, 7, 8, 9, 10, 11] (by decide) rfl) hS (lv_sub hl [0, 1, 2, 3, 4] rfl)
          · have c37 := xnle (k := 0) (by decide) c37
            refine lv_aload_n hx hb dX5_soulsIn_40 rfl (lv_at hl 3 rfl) ?_
            refine va_get (D := D) (ci := 5) (v := .ref (a 3)) (C := RX5) (T := TX5) (N := 8) hx hb htg inX5 hown hK.1 hP 0 rfl rfl 5 (by decide) (htg _ kw_389) (fun _ h9 => h9) rfl dX5_soulsIn_41 ?_
            refine lv_iload_n hx hb dX5_soulsIn_44 rfl (lv_at hl 1 rfl) ?_
            refine lv_iconst (v := 1) hx hb dX5_soulsIn_45 (by decide) ?_
            refine lv_isub hx hb dX5_soulsIn_46 ?_
            refine lv_topi (fun z46 ez46 => ?_)
            have tz46 : z46.toInt = w3.toInt - 1 := by rw [ez46]; exact xsub rfl (by decide) (by omega) (by omega)
            refine lv_iload_n hx hb dX5_soulsIn_47 rfl (lv_at hl 2 rfl) ?_
            refine lv_aload_n hx hb dX5_soulsIn_48 rfl (lv_at hl 3 rfl) ?_
            refine va_get (D := D) (ci := 5) (v := .ref (a 3)) (C := RX5) (T := TX5) (N := 8) hx hb htg inX5 hown hK.1 hP 0 rfl rfl 5 (by decide) (htg _ kw_389) (fun _ h9 => h9) rfl dX5_soulsIn_49 ?_
            refine lv_iload_n hx hb dX5_soulsIn_52 rfl (lv_at hl 1 rfl) ?_
            refine lv_iconst (v := 1) hx hb dX5_soulsIn_53 (by decide) ?_
            refine lv_isub hx hb dX5_soulsIn_54 ?_
            refine lv_topi (fun z54 ez54 => ?_)
            have tz54 : z54.toInt = w3.toInt - 1 := by rw [ez54]; exact xsub rfl (by decide) (by omega) (by omega)
            refine va_iald hx hb hK.1 hP 3 1 rfl rfl (vp_in_iff.mpr (by omega)) dX5_soulsIn_55 ?_
            refine lv_iconst (v := (-1)) hx hb dX5_soulsIn_56 (by decide) ?_
            refine lv_ixor hx hb dX5_soulsIn_57 ?_
            refine lv_topi (fun z57 ez57 => ?_)
            refine lv_iand hx hb dX5_soulsIn_58 ?_
            refine lv_topi (fun z58 ez58 => ?_)
            refine va_iast hx hb hK.1 hP hD hS 3 1 rfl rfl (vp_in_iff.mpr (by omega)) dX5_soulsIn_59 (fun H locs hP hD hS => ?_)
            obtain ⟨f59, ef59, hP, hD⟩ : ∃ f7 : Nat → Int32, f7 = upd wf z46.toNatClampNeg (z58 : Int32) ∧ va_P D vwCl [((a 0), .inr (5, [.ref (ex 0), .ref (ex 1), .ref (a 4), .ref (a 11), .ref (a 6), .ref (a 3), .int (vi 0), .int (vi 1)])), ((a 1), .inr (2, [.ref (a 2), .int (vi 2), .int (vi 3), .int (vi 4), .int (vi 5), .int (vi 6), .int (vi 7), .ref (ex 2), .ref (a 9), .ref (ex 3), .ref (a 5), .ref (a 8), .ref (a 10), .ref (ex 4), .ref (ex 5)])), ((a 2), .inr (7, [.int (vi 8), .int (vi 9), .ref (ex 6), .ref (ex 7), .ref (ex 8), .ref (ex 9), .ref (ex 10), .ref (ex 11), .ref (ex 12), .ref (a 7), .ref (ex 13), .ref (ex 14)])), ((a 3), .inl (T 1, 40, .inl f7)), ((a 4), .inl (T 1, 40, .inl (fi 1))), ((a 5), .inl (T 1, 9, .inl (fi 2))), ((a 6), .inl (T 1, 40, .inl (fi 3))), ((a 7), .inl (T 1, 9, .inl (fi 4))), ((a 8), .inl (T 1, 9, .inl (fi 5))), ((a 9), .inl (T 1, 9, .inl (fi 6))), ((a 10), .inl (T 1, 9, .inl (fi 7))), ((a 11), .inl (T 1, 40, .inl (fi 8)))] H ∧ va_D A [((a 0), .inr (5, [.ref (ex 0), .ref (ex 1), .ref (a 4), .ref (a 11), .ref (a 6), .ref (a 3), .int (vi 0), .int (vi 1)])), ((a 1), .inr (2, [.ref (a 2), .int (vi 2), .int (vi 3), .int (vi 4), .int (vi 5), .int (vi 6), .int (vi 7), .ref (ex 2), .ref (a 9), .ref (ex 3), .ref (a 5), .ref (a 8), .ref (a 10), .ref (ex 4), .ref (ex 5)])), ((a 2), .inr (7, [.int (vi 8), .int (vi 9), .ref (ex 6), .ref (ex 7), .ref (ex 8), .ref (ex 9), .ref (ex 10), .ref (ex 11), .ref (ex 12), .ref (a 7), .ref (ex 13), .ref (ex 14)])), ((a 3), .inl (T 1, 40, .inl f7)), ((a 4), .inl (T 1, 40, .inl (fi 1))), ((a 5), .inl (T 1, 9, .inl (fi 2))), ((a 6), .inl (T 1, 40, .inl (fi 3))), ((a 7), .inl (T 1, 9, .inl (fi 4))), ((a 8), .inl (T 1, 9, .inl (fi 5))), ((a 9), .inl (T 1, 9, .inl (fi 6))), ((a 10), .inl (T 1, 9, .inl (fi 7))), ((a 11), .inl (T 1, 40, .inl (fi 8)))] := ⟨_, rfl, hP, hD⟩
            refine lv_goto (tgt := 174) hx hb dX5_soulsIn_60 (by decide) ?_
            obtain ⟨i174_8, ei174_8⟩ : ∃ z : Int32, w4 + Int32.ofInt 1 = z := ⟨_, rfl⟩
            have ti174_8 : i174_8.toInt = w4.toInt + 1 := by rw [← ei174_8]; have h79 := xrng w4; exact xadd rfl (by decide) (by omega) (by omega)
            refine lv_iinc (v := i174_8) (lv' := [(4, .int i174_8), (3, .int w3), (2, .int z10), (0, .ref (a 0)), (1, .ref (a 1))]) hx hb dX5_soulsIn_174 hl (k := 0) rfl ei174_8 (by decide) rfl (fun ls hl => ?_)
            refine lv_goto (tgt := 17) hx hb dX5_soulsIn_177 (by decide) ?_
            exact ih _ (by omega) i174_8 w3 f59 _ _ _ (by show 0 ≤ i174_8.toInt; omega) hi_1 rfl (hP.sub [0, 1, 2, 3, 4, 5, 6, 7, 8, 9, 10, 11] rfl) (hD.sub [0, 1, 2, 3, 4, 5, 6, 7, 8, 9, 10, 11] (by decide) rfl) hS (lv_sub hl [0, 1, 2, 3, 4] rfl)
  exact lp _ (0 : Int32) (0 : Int32) (fi 0) _ _ _ (show 0 ≤ (0 : Int32).toInt by decide) (show 0 ≤ (0 : Int32).toInt ∧ (0 : Int32).toInt ≤ 40 by decide) rfl hP hD hS hl
abbrev pre_X11_placeOfBit (T : Nat → ClassId) (a ex : Nat → Nat) (fi : Nat → Nat → Int32) (fl : Nat → Nat → Int64) (vi : Nat → Int32) (vl : Nat → Int64) : va_W := []
set_option maxHeartbeats 8000000 in
set_option maxRecDepth 100000 in
theorem c_X11_placeOfBit (l : Launch) (D : va_G) (T : Nat → ClassId) (a ex : Nat → Nat) (fi : Nat → Nat → Int32) (fl : Nat → Nat → Int64) (vi : Nat → Int32) (vl : Nat → Int64) (sz : Nat) : Met l yX11_placeOfBit (xw yX11_placeOfBit cX11_placeOfBit 4 (some .int)) ({ frames := 1, cells := 0, slots := 0, locals := 25 }) (xP D T [.int (vi 0), .int (vi 1)] sz (pre_X11_placeOfBit T a ex fi fl vi vl)) (va_Qi (fun r u => r = u) (xC D (va_A (pre_X11_placeOfBit T a ex fi fl vi vl) sz) (fun fj fm vj vm => []) (fun (r : Int32) (fj : Nat → Nat → Int32) (fm : Nat → Nat → Int64) (vj : Nat → Int32) (vm : Nat → Int64) => True)) (va_A (pre_X11_placeOfBit T a ex fi fl vi vl) sz)) 0 0 (va_A (pre_X11_placeOfBit T a ex fi fl vi vl) sz) := by
  refine xofW (cc := cX11_placeOfBit) (maxL := 4) (ret := (some .int)) (by decide) rfl ?_
  intro p e s m args below meth c s₁ R Q hR hQ B hml hv
  obtain ⟨rfl, hsz, hP, hK, hD0⟩ := hv
  have hx := B.exec
  have hb := B.bytes
  have hr := B.returns
  have hts := atoms_spec (ws := xw yX11_placeOfBit cX11_placeOfBit 4 (some .int)) B.pre
  have htg : ∀ w ∈ xg, w.before _ s = true := fun w h => hts w (List.mem_cons_of_mem _ h)
  have hown : s.vm.findClass RX11 = some m.cls := findClass_of_methodNamed B.named
  have hlocks := B.notSynchronized
  subst hsz
  have hD := hD0.self (sz := s.heap.size)
  generalize hAe : va_A (pre_X11_placeOfBit T a ex fi fl vi vl) s.heap.size = A at hD hQ
  have hA : ∀ q : Nat, s.heap.size ≤ q → A q := fun q h => by rw [← hAe]; exact Or.inr h
  have hS : va_S A s.heap s.heap [] := va_S.rf
  replace hP : va_P D vwCl [] s.heap := hP
  replace hD : va_D A [] := hD
  have hl := lv_entry ([.int (vi 0), .int (vi 1)]) (n := 4) (Nat.le_of_ble_eq_true rfl)
  rw [lg_entry_eq]
  generalize (lg_sl ([.int (vi 0), .int (vi 1)]) ++ List.replicate (4 - (lg_sl ([.int (vi 0), .int (vi 1)])).length) Slot.unset).toArray = ls at hl ⊢
  replace hl : lv_has ls 4 [(0, .int (vi 0)), (1, .int (vi 1))] := hl
  refine lv_iconst (v := 0) hx hb dX11_placeOfBit_0 (by decide) ?_
  refine lv_istore_n (lv' := [(2, .int 0), (0, .int (vi 0)), (1, .int (vi 1))]) hx hb dX11_placeOfBit_1 rfl hl (by decide) rfl (fun ls hl => ?_)
  refine lv_iconst (v := 0) hx hb dX11_placeOfBit_2 (by decide) ?_
  refine lv_istore_n (lv' := [(3, .int 0), (2, .int 0), (0, .int (vi 0)), (1, .int (vi 1))]) hx hb dX11_placeOfBit_3 rfl hl (by decide) rfl (fun ls hl => ?_)
  have lp : ∀ (kn : Nat) (w3 : Int32) (w2 : Int32) (H : Heap) (locs : List Loc) (ls : Array Slot), (0 ≤ w3.toInt) → (2147483648 - w3.toInt).toNat = kn → va_P D vwCl [] H → va_D A [] → va_S A s.heap H locs → lv_has ls 4 [(3, .int w3), (2, .int w2), (0, .int (vi 0)), (1, .int (vi 1))] → W p l e R s m ([.int (vi 0), .int (vi 1)] : List Value).toArray below meth c H locs 0 0 Q (F0 m 4 ls []) := by
    intro kn
    induction kn using Nat.strongRecOn with
    | _ kn ih =>
      intro w3 w2 H locs ls hi hm hP hD hS hl
      refine lv_iload_n hx hb dX11_placeOfBit_4 rfl (lv_at hl 0 rfl) ?_
      refine lv_bipush (v := 9) hx hb dX11_placeOfBit_5 (by decide) ?_
      refine lv_icmp_ge (tgt := 34) hx hb dX11_placeOfBit_7 (by decide) (fun c7 => ?_) (fun c7 => ?_)
      · have c7 := xge (k := 9) (by decide) c7
        refine lv_iconst (v := (-1)) hx hb dX11_placeOfBit_34 (by decide) ?_
        have hP9 := hP.sub (ws' := []) [] rfl
        have hD9 := hD.sub (ws' := []) [] (by decide +kernel) rfl
        rw [hQ]
        exact W.iret (v := (-1)) hx hb hr (fun t ht hW => ⟨⟨(-1), (-1), rfl, rfl, xf [], xh [], xv [], xl [], by rw [ht]; exact hP9, hD9, trivial⟩, hS.F ht⟩) hS.2.2 dX11_placeOfBit_35
      · have c7 := xnge (k := 9) (by decide) c7
        refine lv_iload_n hx hb dX11_placeOfBit_10 rfl (lv_at hl 2 rfl) ?_
        refine lv_iload_n hx hb dX11_placeOfBit_11 rfl (lv_at hl 0 rfl) ?_
        obtain ⟨hC9, hPc, hDc, hFc⟩ := xcut (wc := (pre_X11_hasBit T (xa []) (xa []) (xf []) (xh []) (xv [(vi 0), w3]) (xl []))) hP hD hS hA [] (by decide) rfl
        refine va_calli (va_runS (As := [.int (vi 0), .int w3]) (rest := []) ⟨hx, hb, hml, hown, htg⟩ (c_X11_hasBit l D T (xa []) (xa []) (xf []) (xh []) (xv [(vi 0), w3]) (xl []) H.size) ⟨callB_of 2 htg (xg_ok kw_758) rfl rfl rfl (htg _ kw_1) (htg _ kw_1272) (by decide +kernel) ⟨by rw [hR]; exact Nat.le_of_ble_eq_true rfl, by rw [hR]; exact Nat.le_of_ble_eq_true rfl⟩, htg _ kw_757⟩ (xpreS hK hPc hDc) rfl rfl hl.1 rfl (lv_room (Nat.le_of_ble_eq_true rfl)) dX11_placeOfBit_12 ⟨by rw [hR]; exact Nat.le_of_ble_eq_true rfl, by rw [hR]; exact Nat.le_of_ble_eq_true rfl⟩) hS (fun q _ h => hFc q h) hFc (fun r9 u9 t H1 locs ht hvm hw hB hz1 hk1 hS => ?_)
        subst hw
        obtain ⟨fik, flk, vik, vlk, hP1, hD1, hG⟩ := hB
        rw [ht] at hP1
        obtain ⟨hP, hD⟩ := va_join (wr := []) (w1 := []) hP hD [] [] hC9 rfl (by decide) (by decide) hk1 hFc hP1 hD1
        obtain ⟨rk, er9⟩ : ∃ z, z = r9 := ⟨_, rfl⟩
        subst er9
        clear hPc hDc hFc hP1 hD1 hk1 hz1 hvm ht hC9
        generalize H1 = H at hP hS ⊢
        obtain ⟨hP, hD⟩ := (show xPD D A [] H from ⟨hP, hD⟩)
        obtain ⟨gk_0, -⟩ := hG
        rcases (show (rk = 1 ∧ (True)) ∨ (rk = 0 ∧ (True)) from gk_0) with ⟨er9, gk_0⟩ | ⟨er9, gk_0⟩
        · refine xz_i 1 er9 ?_
          refine lv_if_eq (tgt := 28) hx hb dX11_placeOfBit_15 (by decide) (fun c => absurd c (by decide)) (fun _ => ?_)
          refine lv_iload_n hx hb dX11_placeOfBit_18 rfl (lv_at hl 1 rfl) ?_
          refine lv_iload_n hx hb dX11_placeOfBit_19 rfl (lv_at hl 3 rfl) ?_
          refine lv_icmp_ne (tgt := 25) hx hb dX11_placeOfBit_20 (by decide) (fun c20 => ?_) (fun c20 => ?_)
          · have c20 := xne2 c20
            have rc20 := xrng w2; have qc20 := xrng (vi 1)
            obtain ⟨i25, ei25⟩ : ∃ z : Int32, w2 + Int32.ofInt 1 = z := ⟨_, rfl⟩
            refine lv_iinc (v := i25) (lv' := [(2, .int i25), (3, .int w3), (0, .int (vi 0)), (1, .int (vi 1))]) hx hb dX11_placeOfBit_25 hl (k := 1) rfl ei25 (by decide) rfl (fun ls hl => ?_)
            obtain ⟨i28, ei28⟩ : ∃ z : Int32, w3 + Int32.ofInt 1 = z := ⟨_, rfl⟩
            have ti28 : i28.toInt = w3.toInt + 1 := by rw [← ei28]; have h79 := xrng w3; exact xadd rfl (by decide) (by omega) (by omega)
            refine lv_iinc (v := i28) (lv' := [(3, .int i28), (2, .int i25), (0, .int (vi 0)), (1, .int (vi 1))]) hx hb dX11_placeOfBit_28 hl (k := 1) rfl ei28 (by decide) rfl (fun ls hl => ?_)
            refine lv_goto (tgt := 4) hx hb dX11_placeOfBit_31 (by decide) ?_
            exact ih _ (by omega) i28 i25 _ _ _ (by show 0 ≤ i28.toInt; omega) rfl (hP.sub [] rfl) (hD.sub [] (by decide) rfl) hS (lv_sub hl [0, 1, 2, 3] rfl)
          · have c20 := congrArg Int32.toInt c20
            have rc20 := xrng w2; have qc20 := xrng (vi 1)
            refine lv_iload_n hx hb dX11_placeOfBit_23 rfl (lv_at hl 0 rfl) ?_
            have hP9 := hP.sub (ws' := []) [] rfl
            have hD9 := hD.sub (ws' := []) [] (by decide +kernel) rfl
            rw [hQ]
            exact W.iret (v := w3) hx hb hr (fun t ht hW => ⟨⟨w3, w3, rfl, rfl, xf [], xh [], xv [], xl [], by rw [ht]; exact hP9, hD9, trivial⟩, hS.F ht⟩) hS.2.2 dX11_placeOfBit_24
        · refine xz_i 0 er9 ?_
          refine lv_if_eq (tgt := 28) hx hb dX11_placeOfBit_15 (by decide) (fun _ => ?_) (fun c => absurd (by decide) c)
          obtain ⟨i28_1, ei28_1⟩ : ∃ z : Int32, w3 + Int32.ofInt 1 = z := ⟨_, rfl⟩
          have ti28_1 : i28_1.toInt = w3.toInt + 1 := by rw [← ei28_1]; have h79 := xrng w3; exact xadd rfl (by decide) (by omega) (by omega)
          refine lv_iinc (v := i28_1) (lv' := [(3, .int i28_1), (2, .int w2), (0, .int (vi 0)), (1, .int (vi 1))]) hx hb dX11_placeOfBit_28 hl (k := 0) rfl ei28_1 (by decide) rfl (fun ls hl => ?_)
          refine lv_goto (tgt := 4) hx hb dX11_placeOfBit_31 (by decide) ?_
          exact ih _ (by omega) i28_1 w2 _ _ _ (by show 0 ≤ i28_1.toInt; omega) rfl (hP.sub [] rfl) (hD.sub [] (by decide) rfl) hS (lv_sub hl [0, 1, 2, 3] rfl)
  exact lp _ (0 : Int32) (0 : Int32) _ _ _ (show 0 ≤ (0 : Int32).toInt by decide) rfl hP hD hS hl
abbrev pre_X11_said (T : Nat → ClassId) (a ex : Nat → Nat) (fi : Nat → Nat → Int32) (fl : Nat → Nat → Int64) (vi : Nat → Int32) (vl : Nat → Int64) : va_W := [((a 0), .inr (11, [.ref (ex 0), .ref (a 3), .ref (ex 1), .ref (ex 2), .ref (a 2), .ref (ex 3), .ref (ex 4), .ref (ex 5), .ref (a 1), .ref (ex 6), .ref (ex 7), .ref (ex 8), .ref (ex 9), .ref (ex 10), .int (vi 1)])), ((a 1), .inr (5, [.ref (ex 0), .ref (a 3), .ref (a 5), .ref (a 12), .ref (a 7), .ref (a 4), .int (vi 2), .int (vi 3)])), ((a 2), .inr (2, [.ref (a 3), .int (vi 4), .int (vi 5), .int (vi 6), .int (vi 7), .int (vi 8), .int (vi 9), .ref (ex 11), .ref (a 10), .ref (ex 12), .ref (a 6), .ref (a 9), .ref (a 11), .ref (ex 13), .ref (ex 14)])), ((a 3), .inr (7, [.int (vi 10), .int (vi 11), .ref (ex 15), .ref (ex 16), .ref (ex 17), .ref (ex 18), .ref (ex 19), .ref (ex 20), .ref (ex 21), .ref (a 8), .ref (ex 22), .ref (ex 23)])), ((a 4), .inl (T 1, 40, .inl (fi 0))), ((a 5), .inl (T 1, 40, .inl (fi 1))), ((a 6), .inl (T 1, 9, .inl (fi 2))), ((a 7), .inl (T 1, 40, .inl (fi 3))), ((a 8), .inl (T 1, 9, .inl (fi 4))), ((a 9), .inl (T 1, 9, .inl (fi 5))), ((a 10), .inl (T 1, 9, .inl (fi 6))), ((a 11), .inl (T 1, 9, .inl (fi 7))), ((a 12), .inl (T 1, 40, .inl (fi 8)))]
set_option maxHeartbeats 8000000 in
set_option maxRecDepth 100000 in
theorem c_X11_said (l : Launch) (D : va_G) (T : Nat → ClassId) (a ex : Nat → Nat) (fi : Nat → Nat → Int32) (fl : Nat → Nat → Int64) (vi : Nat → Int32) (vl : Nat → Int64) (sz : Nat) (hp0 : 0 ≤ (vi 2).toInt ∧ (vi 2).toInt ≤ 40) (hp1 : 0 ≤ (vi 3).toInt ∧ (vi 3).toInt ≤ 20) (hp2 : 0 ≤ (vi 4).toInt ∧ (vi 4).toInt ≤ 200) (hp3 : 0 ≤ (vi 9).toInt ∧ (vi 9).toInt ≤ 9) (hp4 : 0 ≤ (vi 10).toInt ∧ (vi 10).toInt ≤ 9) (hp5 : 0 ≤ (vi 11).toInt ∧ (vi 11).toInt ≤ 9) (hp6 : rg (fi 2) 0 9 (-1) 8) : Met l yX11_said (xw yX11_said cX11_said 3 (some .int)) ({ frames := 6, cells := 0, slots := 0, locals := 161 }) (xP D T [.ref (a 0), .int (vi 0)] sz (pre_X11_said T a ex fi fl vi vl)) (va_Qi (fun r u => r = u) (xC D (va_A (pre_X11_said T a ex fi fl vi vl) sz) (fun fj fm vj vm => [((a 0), .inr (11, [.ref (ex 0), .ref (a 3), .ref (ex 1), .ref (ex 2), .ref (a 2), .ref (ex 3), .ref (ex 4), .ref (ex 5), .ref (a 1), .ref (ex 6), .ref (ex 7), .ref (ex 8), .ref (ex 9), .ref (ex 10), .int (vi 1)])), ((a 1), .inr (5, [.ref (ex 0), .ref (a 3), .ref (a 5), .ref (a 12), .ref (a 7), .ref (a 4), .int (vi 2), .int (vi 3)])), ((a 2), .inr (2, [.ref (a 3), .int (vi 4), .int (vi 5), .int (vi 6), .int (vi 7), .int (vi 8), .int (vi 9), .ref (ex 11), .ref (a 10), .ref (ex 12), .ref (a 6), .ref (a 9), .ref (a 11), .ref (ex 13), .ref (ex 14)])), ((a 3), .inr (7, [.int (vi 10), .int (vi 11), .ref (ex 15), .ref (ex 16), .ref (ex 17), .ref (ex 18), .ref (ex 19), .ref (ex 20), .ref (ex 21), .ref (a 8), .ref (ex 22), .ref (ex 23)])), ((a 4), .inl (T 1, 40, .inl (fj 0))), ((a 5), .inl (T 1, 40, .inl (fi 1))), ((a 6), .inl (T 1, 9, .inl (fi 2))), ((a 7), .inl (T 1, 40, .inl (fi 3))), ((a 8), .inl (T 1, 9, .inl (fi 4))), ((a 9), .inl (T 1, 9, .inl (fi 5))), ((a 10), .inl (T 1, 9, .inl (fi 6))), ((a 11), .inl (T 1, 9, .inl (fi 7))), ((a 12), .inl (T 1, 40, .inl (fi 8)))]) (fun (r : Int32) (fj : Nat → Nat → Int32) (fm : Nat → Nat → Int64) (vj : Nat → Int32) (vm : Nat → Int64) => True)) (va_A (pre_X11_said T a ex fi fl vi vl) sz)) 0 0 (va_A (pre_X11_said T a ex fi fl vi vl) sz) := by
  refine xofW (cc := cX11_said) (maxL := 3) (ret := (some .int)) (by decide) rfl ?_
  intro p e s m args below meth c s₁ R Q hR hQ B hml hv
  obtain ⟨rfl, hsz, hP, hK, hD0⟩ := hv
  have hx := B.exec
  have hb := B.bytes
  have hr := B.returns
  have hts := atoms_spec (ws := xw yX11_said cX11_said 3 (some .int)) B.pre
  have htg : ∀ w ∈ xg, w.before _ s = true := fun w h => hts w (List.mem_cons_of_mem _ h)
  have hown : s.vm.findClass RX11 = some m.cls := findClass_of_methodNamed B.named
  have hlocks := B.notSynchronized
  subst hsz
  have hD := hD0.self (sz := s.heap.size)
  generalize hAe : va_A (pre_X11_said T a ex fi fl vi vl) s.heap.size = A at hD hQ
  have hA : ∀ q : Nat, s.heap.size ≤ q → A q := fun q h => by rw [← hAe]; exact Or.inr h
  have hS : va_S A s.heap s.heap [] := va_S.rf
  replace hP : va_P D vwCl [((a 0), .inr (11, [.ref (ex 0), .ref (a 3), .ref (ex 1), .ref (ex 2), .ref (a 2), .ref (ex 3), .ref (ex 4), .ref (ex 5), .ref (a 1), .ref (ex 6), .ref (ex 7), .ref (ex 8), .ref (ex 9), .ref (ex 10), .int (vi 1)])), ((a 1), .inr (5, [.ref (ex 0), .ref (a 3), .ref (a 5), .ref (a 12), .ref (a 7), .ref (a 4), .int (vi 2), .int (vi 3)])), ((a 2), .inr (2, [.ref (a 3), .int (vi 4), .int (vi 5), .int (vi 6), .int (vi 7), .int (vi 8), .int (vi 9), .ref (ex 11), .ref (a 10), .ref (ex 12), .ref (a 6), .ref (a 9), .ref (a 11), .ref (ex 13), .ref (ex 14)])), ((a 3), .inr (7, [.int (vi 10), .int (vi 11), .ref (ex 15), .ref (ex 16), .ref (ex 17), .ref (ex 18), .ref (ex 19), .ref (ex 20), .ref (ex 21), .ref (a 8), .ref (ex 22), .ref (ex 23)])), ((a 4), .inl (T 1, 40, .inl (fi 0))), ((a 5), .inl (T 1, 40, .inl (fi 1))), ((a 6), .inl (T 1, 9, .inl (fi 2))), ((a 7), .inl (T 1, 40, .inl (fi 3))), ((a 8), .inl (T 1, 9, .inl (fi 4))), ((a 9), .inl (T 1, 9, .inl (fi 5))), ((a 10), .inl (T 1, 9, .inl (fi 6))), ((a 11), .inl (T 1, 9, .inl (fi 7))), ((a 12), .inl (T 1, 40, .inl (fi 8)))] s.heap := hP
  replace hD : va_D A [((a 0), .inr (11, [.ref (ex 0), .ref (a 3), .ref (ex 1), .ref (ex 2), .ref (a 2), .ref (ex 3), .ref (ex 4), .ref (ex 5), .ref (a 1), .ref (ex 6), .ref (ex 7), .ref (ex 8), .ref (ex 9), .ref (ex 10), .int (vi 1)])), ((a 1), .inr (5, [.ref (ex 0), .ref (a 3), .ref (a 5), .ref (a 12), .ref (a 7), .ref (a 4), .int (vi 2), .int (vi 3)])), ((a 2), .inr (2, [.ref (a 3), .int (vi 4), .int (vi 5), .int (vi 6), .int (vi 7), .int (vi 8), .int (vi 9), .ref (ex 11), .ref (a 10), .ref (ex 12), .ref (a 6), .ref (a 9), .ref (a 11), .ref (ex 13), .ref (ex 14)])), ((a 3), .inr (7, [.int (vi 10), .int (vi 11), .ref (ex 15), .ref (ex 16), .ref (ex 17), .ref (ex 18), .ref (ex 19), .ref (ex 20), .ref (ex 21), .ref (a 8), .ref (ex 22), .ref (ex 23)])), ((a 4), .inl (T 1, 40, .inl (fi 0))), ((a 5), .inl (T 1, 40, .inl (fi 1))), ((a 6), .inl (T 1, 9, .inl (fi 2))), ((a 7), .inl (T 1, 40, .inl (fi 3))), ((a 8), .inl (T 1, 9, .inl (fi 4))), ((a 9), .inl (T 1, 9, .inl (fi 5))), ((a 10), .inl (T 1, 9, .inl (fi 6))), ((a 11), .inl (T 1, 9, .inl (fi 7))), ((a 12), .inl (T 1, 40, .inl (fi 8)))] := hD
  have hl := lv_entry ([.ref (a 0), .int (vi 0)]) (n := 3) (Nat.le_of_ble_eq_true rfl)
  rw [lg_entry_eq]
  generalize (lg_sl ([.ref (a 0), .int (vi 0)]) ++ List.replicate (3 - (lg_sl ([.ref (a 0), .int (vi 0)])).length) Slot.unset).toArray = ls at hl ⊢
  replace hl : lv_has ls 3 [(0, .ref (a 0)), (1, .int (vi 0))] := hl
  refine lv_aload_n hx hb dX11_said_0 rfl (lv_at hl 0 rfl) ?_
  refine va_get (D := D) (ci := 11) (v := .ref (a 1)) (C := RX11) (T := TX11) (N := 15) hx hb htg inX11 hown hK.1 hP 0 rfl rfl 8 (by decide) (htg _ kw_504) (fun _ h9 => h9) rfl dX11_said_1 ?_
  refine va_getN (D := D) (ci := 5) (v := .int (vi 3)) (C := RX5) (T := TX5) (N := 8) hx hb htg inX5 hown hK.1 hP 1 rfl rfl 7 (by decide) (va_Nw.use rfl (hK.2.1 _ kn_392)) (fun _ h9 => h9) rfl dX11_said_4 ?_
  refine lv_if_ne (tgt := 12) hx hb dX11_said_7 (by decide) (fun c7 => ?_) (fun c7 => ?_)
  · have c7 := xne (k := 0) (by decide) c7
    refine lv_aload_n hx hb dX11_said_12 rfl (lv_at hl 0 rfl) ?_
    refine va_get (D := D) (ci := 11) (v := .ref (a 1)) (C := RX11) (T := TX11) (N := 15) hx hb htg inX11 hown hK.1 hP 0 rfl rfl 8 (by decide) (htg _ kw_504) (fun _ h9 => h9) rfl dX11_said_13 ?_
    refine lv_aload_n hx hb dX11_said_16 rfl (lv_at hl 0 rfl) ?_
    refine va_get (D := D) (ci := 11) (v := .ref (a 2)) (C := RX11) (T := TX11) (N := 15) hx hb htg inX11 hown hK.1 hP 0 rfl rfl 4 (by decide) (htg _ kw_500) (fun _ h9 => h9) rfl dX11_said_17 ?_
    obtain ⟨hC9, hPc, hDc, hFc⟩ := xcut (wc := (pre_X5_soulsIn T (xa [(a 1), (a 2), (a 3), (a 4), (a 5), (a 6), (a 7), (a 8), (a 9), (a 10), (a 11), (a 12)]) (xa [(ex 0), (a 3), (ex 11), (ex 12), (ex 13), (ex 14), (ex 15), (ex 16), (ex 17), (ex 18), (ex 19), (ex 20), (ex 21), (ex 22), (ex 23)]) (xf [(fi 0), (fi 1), (fi 2), (fi 3), (fi 4), (fi 5), (fi 6), (fi 7), (fi 8)]) (xh []) (xv [(vi 2), (vi 3), (vi 4), (vi 5), (vi 6), (vi 7), (vi 8), (vi 9), (vi 10), (vi 11)]) (xl []))) hP hD hS hA [1, 2, 3, 4, 5, 6, 7, 8, 9, 10, 11, 12] (by decide) rfl
    refine va_calli (va_runVN (As := [.ref (a 2)]) (rest := []) ⟨hx, hb, hml, hown, htg⟩ (c_X5_soulsIn l D T (xa [(a 1), (a 2), (a 3), (a 4), (a 5), (a 6), (a 7), (a 8), (a 9), (a 10), (a 11), (a 12)]) (xa [(ex 0), (a 3), (ex 11), (ex 12), (ex 13), (ex 14), (ex 15), (ex 16), (ex 17), (ex 18), (ex 19), (ex 20), (ex 21), (ex 22), (ex 23)]) (xf [(fi 0), (fi 1), (fi 2), (fi 3), (fi 4), (fi 5), (fi 6), (fi 7), (fi 8)]) (xh []) (xv [(vi 2), (vi 3), (vi 4), (vi 5), (vi 6), (vi 7), (vi 8), (vi 9), (vi 10), (vi 11)]) (xl []) s.heap.size hp0 hp1 hp2 hp3 hp4 hp5 (show rg (fi 2) 0 9 (-1) 8 from hp6)) ⟨va_cnB 1 htg (xg_ok kw_1246) rfl rfl rfl (hK.2.1 _ kn_1243) (htg _ kw_12) (by decide +kernel) ⟨by rw [hR]; exact Nat.le_of_ble_eq_true rfl, by rw [hR]; exact Nat.le_of_ble_eq_true rfl⟩, htg _ kw_1245, htg _ ks_108⟩ (xpreV hK hPc hDc (va_recv hK.1 hPc (ci := 5) (q0 := 0) rfl rfl)) rfl rfl hl.1 rfl (lv_room (Nat.le_of_ble_eq_true rfl)) dX11_said_20 ⟨by rw [hR]; exact Nat.le_of_ble_eq_true rfl, by rw [hR]; exact Nat.le_of_ble_eq_true rfl⟩) hS (fun q _ h => hFc q h) hFc (fun r9 u9 t H1 locs ht hvm hw hB hz1 hk1 hS => ?_)
    subst hw
    obtain ⟨fik, flk, vik, vlk, hP1, hD1, hG⟩ := hB
    rw [ht] at hP1
    obtain ⟨hP, hD⟩ := va_join (wr := [((a 0), .inr (11, [.ref (ex 0), .ref (a 3), .ref (ex 1), .ref (ex 2), .ref (a 2), .ref (ex 3), .ref (ex 4), .ref (ex 5), .ref (a 1), .ref (ex 6), .ref (ex 7), .ref (ex 8), .ref (ex 9), .ref (ex 10), .int (vi 1)]))]) (w1 := [((a 1), .inr (5, [.ref (ex 0), .ref (a 3), .ref (a 5), .ref (a 12), .ref (a 7), .ref (a 4), .int (vi 2), .int (vi 3)])), ((a 2), .inr (2, [.ref (a 3), .int (vi 4), .int (vi 5), .int (vi 6), .int (vi 7), .int (vi 8), .int (vi 9), .ref (ex 11), .ref (a 10), .ref (ex 12), .ref (a 6), .ref (a 9), .ref (a 11), .ref (ex 13), .ref (ex 14)])), ((a 3), .inr (7, [.int (vi 10), .int (vi 11), .ref (ex 15), .ref (ex 16), .ref (ex 17), .ref (ex 18), .ref (ex 19), .ref (ex 20), .ref (ex 21), .ref (a 8), .ref (ex 22), .ref (ex 23)])), ((a 4), .inl (T 1, 40, .inl (fik 0))), ((a 5), .inl (T 1, 40, .inl (fi 1))), ((a 6), .inl (T 1, 9, .inl (fi 2))), ((a 7), .inl (T 1, 40, .inl (fi 3))), ((a 8), .inl (T 1, 9, .inl (fi 4))), ((a 9), .inl (T 1, 9, .inl (fi 5))), ((a 10), .inl (T 1, 9, .inl (fi 6))), ((a 11), .inl (T 1, 9, .inl (fi 7))), ((a 12), .inl (T 1, 40, .inl (fi 8)))]) hP hD [1, 2, 3, 4, 5, 6, 7, 8, 9, 10, 11, 12] [0] hC9 rfl (by decide) (by decide) hk1 hFc hP1 hD1
    obtain ⟨rk, er9⟩ : ∃ z, z = r9 := ⟨_, rfl⟩
    subst er9
    clear hPc hDc hFc hP1 hD1 hk1 hz1 hvm ht hC9
    generalize H1 = H at hP hS ⊢
    obtain ⟨hP, hD⟩ := (show xPD D A [((a 0), .inr (11, [.ref (ex 0), .ref (a 3), .ref (ex 1), .ref (ex 2), .ref (a 2), .ref (ex 3), .ref (ex 4), .ref (ex 5), .ref (a 1), .ref (ex 6), .ref (ex 7), .ref (ex 8), .ref (ex 9), .ref (ex 10), .int (vi 1)])), ((a 1), .inr (5, [.ref (ex 0), .ref (a 3), .ref (a 5), .ref (a 12), .ref (a 7), .ref (a 4), .int (vi 2), .int (vi 3)])), ((a 2), .inr (2, [.ref (a 3), .int (vi 4), .int (vi 5), .int (vi 6), .int (vi 7), .int (vi 8), .int (vi 9), .ref (ex 11), .ref (a 10), .ref (ex 12), .ref (a 6), .ref (a 9), .ref (a 11), .ref (ex 13), .ref (ex 14)])), ((a 3), .inr (7, [.int (vi 10), .int (vi 11), .ref (ex 15), .ref (ex 16), .ref (ex 17), .ref (ex 18), .ref (ex 19), .ref (ex 20), .ref (ex 21), .ref (a 8), .ref (ex 22), .ref (ex 23)])), ((a 4), .inl (T 1, 40, .inl (fik 0))), ((a 5), .inl (T 1, 40, .inl (fi 1))), ((a 6), .inl (T 1, 9, .inl (fi 2))), ((a 7), .inl (T 1, 40, .inl (fi 3))), ((a 8), .inl (T 1, 9, .inl (fi 4))), ((a 9), .inl (T 1, 9, .inl (fi 5))), ((a 10), .inl (T 1, 9, .inl (fi 6))), ((a 11), .inl (T 1, 9, .inl (fi 7))), ((a 12), .inl (T 1, 40, .inl (fi 8)))] H from ⟨hP, hD⟩)
    clear hG
    refine lv_istore_n (lv' := [(2, .int rk), (0, .ref (a 0)), (1, .int (vi 0))]) hx hb dX11_said_23 rfl hl (by decide) rfl (fun ls hl => ?_)
    refine lv_iload_n hx hb dX11_said_24 rfl (lv_at hl 2 rfl) ?_
    refine lv_iconst (v := (-1)) hx hb dX11_said_25 (by decide) ?_
    refine lv_icmp_ne (tgt := 36) hx hb dX11_said_26 (by decide) (fun c26 => ?_) (fun c26 => ?_)
    · have c26 := xne (k := (-1)) (by decide) c26
      refine lv_iload_n hx hb dX11_said_36 rfl (lv_at hl 0 rfl) ?_
      refine lv_iload_n hx hb dX11_said_37 rfl (lv_at hl 2 rfl) ?_
      obtain ⟨hC9, hPc, hDc, hFc⟩ := xcut (wc := (pre_X11_placeOfBit T (xa []) (xa []) (xf []) (xh []) (xv [rk, (vi 0)]) (xl []))) hP hD hS hA [] (by decide) rfl
      refine va_calli (va_runS (As := [.int rk, .int (vi 0)]) (rest := []) ⟨hx, hb, hml, hown, htg⟩ (c_X11_placeOfBit l D T (xa []) (xa []) (xf []) (xh []) (xv [rk, (vi 0)]) (xl []) H.size) ⟨callB_of 2 htg (xg_ok kw_1271) rfl rfl rfl (htg _ kw_1) (htg _ kw_1269) (by decide +kernel) ⟨by rw [hR]; exact Nat.le_of_ble_eq_true rfl, by rw [hR]; exact Nat.le_of_ble_eq_true rfl⟩, htg _ kw_1270⟩ (xpreS hK hPc hDc) rfl rfl hl.1 rfl (lv_room (Nat.le_of_ble_eq_true rfl)) dX11_said_38 ⟨by rw [hR]; exact Nat.le_of_ble_eq_true rfl, by rw [hR]; exact Nat.le_of_ble_eq_true rfl⟩) hS (fun q _ h => hFc q h) hFc (fun r9 u9 t H1 locs ht hvm hw hB hz1 hk1 hS => ?_)
      subst hw
      obtain ⟨fik_1, flk_1, vik_1, vlk_1, hP1, hD1, hG⟩ := hB
      rw [ht] at hP1
      obtain ⟨hP, hD⟩ := va_join (wr := [((a 0), .inr (11, [.ref (ex 0), .ref (a 3), .ref (ex 1), .ref (ex 2), .ref (a 2), .ref (ex 3), .ref (ex 4), .ref (ex 5), .ref (a 1), .ref (ex 6), .ref (ex 7), .ref (ex 8), .ref (ex 9), .ref (ex 10), .int (vi 1)])), ((a 1), .inr (5, [.ref (ex 0), .ref (a 3), .ref (a 5), .ref (a 12), .ref (a 7), .ref (a 4), .int (vi 2), .int (vi 3)])), ((a 2), .inr (2, [.ref (a 3), .int (vi 4), .int (vi 5), .int (vi 6), .int (vi 7), .int (vi 8), .int (vi 9), .ref (ex 11), .ref (a 10), .ref (ex 12), .ref (a 6), .ref (a 9), .ref (a 11), .ref (ex 13), .ref (ex 14)])), ((a 3), .inr (7, [.int (vi 10), .int (vi 11), .ref (ex 15), .ref (ex 16), .ref (ex 17), .ref (ex 18), .ref (ex 19), .ref (ex 20), .ref (ex 21), .ref (a 8), .ref (ex 22), .ref (ex 23)])), ((a 4), .inl (T 1, 40, .inl (fik 0))), ((a 5), .inl (T 1, 40, .inl (fi 1))), ((a 6), .inl (T 1, 9, .inl (fi 2))), ((a 7), .inl (T 1, 40, .inl (fi 3))), ((a 8), .inl (T 1, 9, .inl (fi 4))), ((a 9), .inl (T 1, 9, .inl (fi 5))), ((a 10), .inl (T 1, 9, .inl (fi 6))), ((a 11), .inl (T 1, 9, .inl (fi 7))), ((a 12), .inl (T 1, 40, .inl (fi 8)))]) (w1 := []) hP hD [] [0, 1, 2, 3, 4, 5, 6, 7, 8, 9, 10, 11, 12] hC9 rfl (by decide) (by decide) hk1 hFc hP1 hD1
      obtain ⟨rk_1, er9⟩ : ∃ z, z = r9 := ⟨_, rfl⟩
      subst er9
      clear hPc hDc hFc hP1 hD1 hk1 hz1 hvm ht hC9
      generalize H1 = H at hP hS ⊢
      obtain ⟨hP, hD⟩ := (show xPD D A [((a 0), .inr (11, [.ref (ex 0), .ref (a 3), .ref (ex 1), .ref (ex 2), .ref (a 2), .ref (ex 3), .ref (ex 4), .ref (ex 5), .ref (a 1), .ref (ex 6), .ref (ex 7), .ref (ex 8), .ref (ex 9), .ref (ex 10), .int (vi 1)])), ((a 1), .inr (5, [.ref (ex 0), .ref (a 3), .ref (a 5), .ref (a 12), .ref (a 7), .ref (a 4), .int (vi 2), .int (vi 3)])), ((a 2), .inr (2, [.ref (a 3), .int (vi 4), .int (vi 5), .int (vi 6), .int (vi 7), .int (vi 8), .int (vi 9), .ref (ex 11), .ref (a 10), .ref (ex 12), .ref (a 6), .ref (a 9), .ref (a 11), .ref (ex 13), .ref (ex 14)])), ((a 3), .inr (7, [.int (vi 10), .int (vi 11), .ref (ex 15), .ref (ex 16), .ref (ex 17), .ref (ex 18), .ref (ex 19), .ref (ex 20), .ref (ex 21), .ref (a 8), .ref (ex 22), .ref (ex 23)])), ((a 4), .inl (T 1, 40, .inl (fik 0))), ((a 5), .inl (T 1, 40, .inl (fi 1))), ((a 6), .inl (T 1, 9, .inl (fi 2))), ((a 7), .inl (T 1, 40, .inl (fi 3))), ((a 8), .inl (T 1, 9, .inl (fi 4))), ((a 9), .inl (T 1, 9, .inl (fi 5))), ((a 10), .inl (T 1, 9, .inl (fi 6))), ((a 11), .inl (T 1, 9, .inl (fi 7))), ((a 12), .inl (T 1, 40, .inl (fi 8)))] H from ⟨hP, hD⟩)
      clear hG
      have hP9 := hP.sub (ws' := [((a 0), .inr (11, [.ref (ex 0), .ref (a 3), .ref (ex 1), .ref (ex 2), .ref (a 2), .ref (ex 3), .ref (ex 4), .ref (ex 5), .ref (a 1), .ref (ex 6), .ref (ex 7), .ref (ex 8), .ref (ex 9), .ref (ex 10), .int (vi 1)])), ((a 1), .inr (5, [.ref (ex 0), .ref (a 3), .ref (a 5), .ref (a 12), .ref (a 7), .ref (a 4), .int (vi 2), .int (vi 3)])), ((a 2), .inr (2, [.ref (a 3), .int (vi 4), .int (vi 5), .int (vi 6), .int (vi 7), .int (vi 8), .int (vi 9), .ref (ex 11), .ref (a 10), .ref (ex 12), .ref (a 6), .ref (a 9), .ref (a 11), .ref (ex 13), .ref (ex 14)])), ((a 3), .inr (7, [.int (vi 10), .int (vi 11), .ref (ex 15), .ref (ex 16), .ref (ex 17), .ref (ex 18), .ref (ex 19), .ref (ex 20), .ref (ex 21), .ref (a 8), .ref (ex 22), .ref (ex 23)])), ((a 4), .inl (T 1, 40, .inl (fik 0))), ((a 5), .inl (T 1, 40, .inl (fi 1))), ((a 6), .inl (T 1, 9, .inl (fi 2))), ((a 7), .inl (T 1, 40, .inl (fi 3))), ((a 8), .inl (T 1, 9, .inl (fi 4))), ((a 9), .inl (T 1, 9, .inl (fi 5))), ((a 10), .inl (T 1, 9, .inl (fi 6))), ((a 11), .inl (T 1, 9, .inl (fi 7))), ((a 12), .inl (T 1, 40, .inl (fi 8)))]) [0, 1, 2, 3, 4, 5, 6, 7, 8, 9, 10, 11, 12] rfl
      have hD9 := hD.sub (ws' := [((a 0), .inr (11, [.ref (ex 0), .ref (a 3), .ref (ex 1), .ref (ex 2), .ref (a 2), .ref (ex 3), .ref (ex 4), .ref (ex 5), .ref (a 1), .ref (ex 6), .ref (ex 7), .ref (ex 8), .ref (ex 9), .ref (ex 10), .int (vi 1)])), ((a 1), .inr (5, [.ref (ex 0), .ref (a 3), .ref (a 5), .ref (a 12), .ref (a 7), .ref (a 4), .int (vi 2), .int (vi 3)])), ((a 2), .inr (2, [.ref (a 3), .int (vi 4), .int (vi 5), .int (vi 6), .int (vi 7), .int (vi 8), .int (vi 9), .ref (ex 11), .ref (a 10), .ref (ex 12), .ref (a 6), .ref (a 9), .ref (a 11), .ref (ex 13), .ref (ex 14)])), ((a 3), .inr (7, [.int (vi 10), .int (vi 11), .ref (ex 15), .ref (ex 16), .ref (ex 17), .ref (ex 18), .ref (ex 19), .ref (ex 20), .ref (ex 21), .ref (a 8), .ref (ex 22), .ref (ex 23)])), ((a 4), .inl (T 1, 40, .inl (fik 0))), ((a 5), .inl (T 1, 40, .inl (fi 1))), ((a 6), .inl (T 1, 9, .inl (fi 2))), ((a 7), .inl (T 1, 40, .inl (fi 3))), ((a 8), .inl (T 1, 9, .inl (fi 4))), ((a 9), .inl (T 1, 9, .inl (fi 5))), ((a 10), .inl (T 1, 9, .inl (fi 6))), ((a 11), .inl (T 1, 9, .inl (fi 7))), ((a 12), .inl (T 1, 40, .inl (fi 8)))]) [0, 1, 2, 3, 4, 5, 6, 7, 8, 9, 10, 11, 12] (by decide +kernel) rfl
      rw [hQ]
      exact W.iret (v := rk_1) hx hb hr (fun t ht hW => ⟨⟨rk_1, rk_1, rfl, rfl, xf [(fik 0)], xh [], xv [], xl [], by rw [ht]; exact hP9, hD9, trivial⟩, hS.F ht⟩) hS.2.2 dX11_said_41
    · have c26 := xeq (k := (-1)) (by decide) c26
      refine lv_iload_n hx hb dX11_said_29 rfl (lv_at hl 0 rfl) ?_
      obtain ⟨hC9, hPc, hDc, hFc⟩ := xcut (wc := (pre_J6_bitCount_0f7a4 T (xa []) (xa []) (xf []) (xh []) (xv [rk]) (xl []))) hP hD hS hA [] (by decide) rfl
      refine va_calli (va_runS (As := [.int rk]) (rest := []) ⟨hx, hb, hml, hown, htg⟩ (c_J6_bitCount_0f7a4 l D T (xa []) (xa []) (xf []) (xh []) (xv [rk]) (xl []) H.size) ⟨callB_of 1 htg (xg_ok kw_1073) rfl rfl rfl (htg _ kw_24) (htg _ kw_1071) (by decide +kernel) ⟨by rw [hR]; exact Nat.le_of_ble_eq_true rfl, by rw [hR]; exact Nat.le_of_ble_eq_true rfl⟩, htg _ kw_1072⟩ (xpreS hK hPc hDc) rfl rfl hl.1 rfl (lv_room (Nat.le_of_ble_eq_true rfl)) dX11_said_30 ⟨by rw [hR]; exact Nat.le_of_ble_eq_true rfl, by rw [hR]; exact Nat.le_of_ble_eq_true rfl⟩) hS (fun q _ h => hFc q h) hFc (fun r9 u9 t H1 locs ht hvm hw hB hz1 hk1 hS => ?_)
      subst hw
      obtain ⟨fik_2, flk_2, vik_2, vlk_2, hP1, hD1, hG⟩ := hB
      rw [ht] at hP1
      obtain ⟨hP, hD⟩ := va_join (wr := [((a 0), .inr (11, [.ref (ex 0), .ref (a 3), .ref (ex 1), .ref (ex 2), .ref (a 2), .ref (ex 3), .ref (ex 4), .ref (ex 5), .ref (a 1), .ref (ex 6), .ref (ex 7), .ref (ex 8), .ref (ex 9), .ref (ex 10), .int (vi 1)])), ((a 1), .inr (5, [.ref (ex 0), .ref (a 3), .ref (a 5), .ref (a 12), .ref (a 7), .ref (a 4), .int (vi 2), .int (vi 3)])), ((a 2), .inr (2, [.ref (a 3), .int (vi 4), .int (vi 5), .int (vi 6), .int (vi 7), .int (vi 8), .int (vi 9), .ref (ex 11), .ref (a 10), .ref (ex 12), .ref (a 6), .ref (a 9), .ref (a 11), .ref (ex 13), .ref (ex 14)])), ((a 3), .inr (7, [.int (vi 10), .int (vi 11), .ref (ex 15), .ref (ex 16), .ref (ex 17), .ref (ex 18), .ref (ex 19), .ref (ex 20), .ref (ex 21), .ref (a 8), .ref (ex 22), .ref (ex 23)])), ((a 4), .inl (T 1, 40, .inl (fik 0))), ((a 5), .inl (T 1, 40, .inl (fi 1))), ((a 6), .inl (T 1, 9, .inl (fi 2))), ((a 7), .inl (T 1, 40, .inl (fi 3))), ((a 8), .inl (T 1, 9, .inl (fi 4))), ((a 9), .inl (T 1, 9, .inl (fi 5))), ((a 10), .inl (T 1, 9, .inl (fi 6))), ((a 11), .inl (T 1, 9, .inl (fi 7))), ((a 12), .inl (T 1, 40, .inl (fi 8)))]) (w1 := []) hP hD [] [0, 1, 2, 3, 4, 5, 6, 7, 8, 9, 10, 11, 12] hC9 rfl (by decide) (by decide) hk1 hFc hP1 hD1
      obtain ⟨rk_2, er9⟩ : ∃ z, z = r9 := ⟨_, rfl⟩
      subst er9
      clear hPc hDc hFc hP1 hD1 hk1 hz1 hvm ht hC9
      generalize H1 = H at hP hS ⊢
      obtain ⟨hP, hD⟩ := (show xPD D A [((a 0), .inr (11, [.ref (ex 0), .ref (a 3), .ref (ex 1), .ref (ex 2), .ref (a 2), .ref (ex 3), .ref (ex 4), .ref (ex 5), .ref (a 1), .ref (ex 6), .ref (ex 7), .ref (ex 8), .ref (ex 9), .ref (ex 10), .int (vi 1)])), ((a 1), .inr (5, [.ref (ex 0), .ref (a 3), .ref (a 5), .ref (a 12), .ref (a 7), .ref (a 4), .int (vi 2), .int (vi 3)])), ((a 2), .inr (2, [.ref (a 3), .int (vi 4), .int (vi 5), .int (vi 6), .int (vi 7), .int (vi 8), .int (vi 9), .ref (ex 11), .ref (a 10), .ref (ex 12), .ref (a 6), .ref (a 9), .ref (a 11), .ref (ex 13), .ref (ex 14)])), ((a 3), .inr (7, [.int (vi 10), .int (vi 11), .ref (ex 15), .ref (ex 16), .ref (ex 17), .ref (ex 18), .ref (ex 19), .ref (ex 20), .ref (ex 21), .ref (a 8), .ref (ex 22), .ref (ex 23)])), ((a 4), .inl (T 1, 40, .inl (fik 0))), ((a 5), .inl (T 1, 40, .inl (fi 1))), ((a 6), .inl (T 1, 9, .inl (fi 2))), ((a 7), .inl (T 1, 40, .inl (fi 3))), ((a 8), .inl (T 1, 9, .inl (fi 4))), ((a 9), .inl (T 1, 9, .inl (fi 5))), ((a 10), .inl (T 1, 9, .inl (fi 6))), ((a 11), .inl (T 1, 9, .inl (fi 7))), ((a 12), .inl (T 1, 40, .inl (fi 8)))] H from ⟨hP, hD⟩)
      clear hG
      refine lv_goto (tgt := 41) hx hb dX11_said_33 (by decide) ?_
      have hP9 := hP.sub (ws' := [((a 0), .inr (11, [.ref (ex 0), .ref (a 3), .ref (ex 1), .ref (ex 2), .ref (a 2), .ref (ex 3), .ref (ex 4), .ref (ex 5), .ref (a 1), .ref (ex 6), .ref (ex 7), .ref (ex 8), .ref (ex 9), .ref (ex 10), .int (vi 1)])), ((a 1), .inr (5, [.ref (ex 0), .ref (a 3), .ref (a 5), .ref (a 12), .ref (a 7), .ref (a 4), .int (vi 2), .int (vi 3)])), ((a 2), .inr (2, [.ref (a 3), .int (vi 4), .int (vi 5), .int (vi 6), .int (vi 7), .int (vi 8), .int (vi 9), .ref (ex 11), .ref (a 10), .ref (ex 12), .ref (a 6), .ref (a 9), .ref (a 11), .ref (ex 13), .ref (ex 14)])), ((a 3), .inr (7, [.int (vi 10), .int (vi 11), .ref (ex 15), .ref (ex 16), .ref (ex 17), .ref (ex 18), .ref (ex 19), .ref (ex 20), .ref (ex 21), .ref (a 8), .ref (ex 22), .ref (ex 23)])), ((a 4), .inl (T 1, 40, .inl (fik 0))), ((a 5), .inl (T 1, 40, .inl (fi 1))), ((a 6), .inl (T 1, 9, .inl (fi 2))), ((a 7), .inl (T 1, 40, .inl (fi 3))), ((a 8), .inl (T 1, 9, .inl (fi 4))), ((a 9), .inl (T 1, 9, .inl (fi 5))), ((a 10), .inl (T 1, 9, .inl (fi 6))), ((a 11), .inl (T 1, 9, .inl (fi 7))), ((a 12), .inl (T 1, 40, .inl (fi 8)))]) [0, 1, 2, 3, 4, 5, 6, 7, 8, 9, 10, 11, 12] rfl
      have hD9 := hD.sub (ws' := [((a 0), .inr (11, [.ref (ex 0), .ref (a 3), .ref (ex 1), .ref (ex 2), .ref (a 2), .ref (ex 3), .ref (ex 4), .ref (ex 5), .ref (a 1), .ref (ex 6), .ref (ex 7), .ref (ex 8), .ref (ex 9), .ref (ex 10), .int (vi 1)])), ((a 1), .inr (5, [.ref (ex 0), .ref (a 3), .ref (a 5), .ref (a 12), .ref (a 7), .ref (a 4), .int (vi 2), .int (vi 3)])), ((a 2), .inr (2, [.ref (a 3), .int (vi 4), .int (vi 5), .int (vi 6), .int (vi 7), .int (vi 8), .int (vi 9), .ref (ex 11), .ref (a 10), .ref (ex 12), .ref (a 6), .ref (a 9), .ref (a 11), .ref (ex 13), .ref (ex 14)])), ((a 3), .inr (7, [.int (vi 10), .int (vi 11), .ref (ex 15), .ref (ex 16), .ref (ex 17), .ref (ex 18), .ref (ex 19), .ref (ex 20), .ref (ex 21), .ref (a 8), .ref (ex 22), .ref (ex 23)])), ((a 4), .inl (T 1, 40, .inl (fik 0))), ((a 5), .inl (T 1, 40, .inl (fi 1))), ((a 6), .inl (T 1, 9, .inl (fi 2))), ((a 7), .inl (T 1, 40, .inl (fi 3))), ((a 8), .inl (T 1, 9, .inl (fi 4))), ((a 9), .inl (T 1, 9, .inl (fi 5))), ((a 10), .inl (T 1, 9, .inl (fi 6))), ((a 11), .inl (T 1, 9, .inl (fi 7))), ((a 12), .inl (T 1, 40, .inl (fi 8)))]) [0, 1, 2, 3, 4, 5, 6, 7, 8, 9, 10, 11, 12] (by decide +kernel) rfl
      rw [hQ]
      exact W.iret (v := rk_2) hx hb hr (fun t ht hW => ⟨⟨rk_2, rk_2, rfl, rfl, xf [(fik 0)], xh [], xv [], xl [], by rw [ht]; exact hP9, hD9, trivial⟩, hS.F ht⟩) hS.2.2 dX11_said_41
  · have c7 := xeq (k := 0) (by decide) c7
    refine lv_iconst (v := (-1)) hx hb dX11_said_10 (by decide) ?_
    have hP9 := hP.sub (ws' := [((a 0), .inr (11, [.ref (ex 0), .ref (a 3), .ref (ex 1), .ref (ex 2), .ref (a 2), .ref (ex 3), .ref (ex 4), .ref (ex 5), .ref (a 1), .ref (ex 6), .ref (ex 7), .ref (ex 8), .ref (ex 9), .ref (ex 10), .int (vi 1)])), ((a 1), .inr (5, [.ref (ex 0), .ref (a 3), .ref (a 5), .ref (a 12), .ref (a 7), .ref (a 4), .int (vi 2), .int (vi 3)])), ((a 2), .inr (2, [.ref (a 3), .int (vi 4), .int (vi 5), .int (vi 6), .int (vi 7), .int (vi 8), .int (vi 9), .ref (ex 11), .ref (a 10), .ref (ex 12), .ref (a 6), .ref (a 9), .ref (a 11), .ref (ex 13), .ref (ex 14)])), ((a 3), .inr (7, [.int (vi 10), .int (vi 11), .ref (ex 15), .ref (ex 16), .ref (ex 17), .ref (ex 18), .ref (ex 19), .ref (ex 20), .ref (ex 21), .ref (a 8), .ref (ex 22), .ref (ex 23)])), ((a 4), .inl (T 1, 40, .inl (fi 0))), ((a 5), .inl (T 1, 40, .inl (fi 1))), ((a 6), .inl (T 1, 9, .inl (fi 2))), ((a 7), .inl (T 1, 40, .inl (fi 3))), ((a 8), .inl (T 1, 9, .inl (fi 4))), ((a 9), .inl (T 1, 9, .inl (fi 5))), ((a 10), .inl (T 1, 9, .inl (fi 6))), ((a 11), .inl (T 1, 9, .inl (fi 7))), ((a 12), .inl (T 1, 40, .inl (fi 8)))]) [0, 1, 2, 3, 4, 5, 6, 7, 8, 9, 10, 11, 12] rfl
    have hD9 := hD.sub (ws' := [((a 0), .inr (11, [.ref (ex 0), .ref (a 3), .ref (ex 1), .ref (ex 2), .ref (a 2), .ref (ex 3), .ref (ex 4), .ref (ex 5), .ref (a 1), .ref (ex 6), .ref (ex 7), .ref (ex 8), .ref (ex 9), .ref (ex 10), .int (vi 1)])), ((a 1), .inr (5, [.ref (ex 0), .ref (a 3), .ref (a 5), .ref (a 12), .ref (a 7), .ref (a 4), .int (vi 2), .int (vi 3)])), ((a 2), .inr (2, [.ref (a 3), .int (vi 4), .int (vi 5), .int (vi 6), .int (vi 7), .int (vi 8), .int (vi 9), .ref (ex 11), .ref (a 10), .ref (ex 12), .ref (a 6), .ref (a 9), .ref (a 11), .ref (ex 13), .ref (ex 14)])), ((a 3), .inr (7, [.int (vi 10), .int (vi 11), .ref (ex 15), .ref (ex 16), .ref (ex 17), .ref (ex 18), .ref (ex 19), .ref (ex 20), .ref (ex 21), .ref (a 8), .ref (ex 22), .ref (ex 23)])), ((a 4), .inl (T 1, 40, .inl (fi 0))), ((a 5), .inl (T 1, 40, .inl (fi 1))), ((a 6), .inl (T 1, 9, .inl (fi 2))), ((a 7), .inl (T 1, 40, .inl (fi 3))), ((a 8), .inl (T 1, 9, .inl (fi 4))), ((a 9), .inl (T 1, 9, .inl (fi 5))), ((a 10), .inl (T 1, 9, .inl (fi 6))), ((a 11), .inl (T 1, 9, .inl (fi 7))), ((a 12), .inl (T 1, 40, .inl (fi 8)))]) [0, 1, 2, 3, 4, 5, 6, 7, 8, 9, 10, 11, 12] (by decide +kernel) rfl
    rw [hQ]
    exact W.iret (v := (-1)) hx hb hr (fun t ht hW => ⟨⟨(-1), (-1), rfl, rfl, xf [(fi 0)], xh [], xv [], xl [], by rw [ht]; exact hP9, hD9, trivial⟩, hS.F ht⟩) hS.2.2 dX11_said_11
