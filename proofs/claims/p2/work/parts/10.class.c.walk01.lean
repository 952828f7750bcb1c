abbrev pre_X7_isName (T : Nat → ClassId) (a ex : Nat → Nat) (fi : Nat → Nat → Int32) (fl : Nat → Nat → Int64) (vi : Nat → Int32) (vl : Nat → Int64) : va_W := [((a 0), .inr (7, [.int (vi 1), .int (vi 2), .ref (ex 0), .ref (ex 1), .ref (ex 2), .ref (ex 3), .ref (ex 4), .ref (ex 5), .ref (ex 6), .ref (ex 7), .ref (ex 8), .ref (ex 9)]))]
set_option maxHeartbeats 8000000 in
set_option maxRecDepth 100000 in
theorem c_X7_isName (l : Launch) (D : va_G) (T : Nat → ClassId) (a ex : Nat → Nat) (fi : Nat → Nat → Int32) (fl : Nat → Nat → Int64) (vi : Nat → Int32) (vl : Nat → Int64) (sz : Nat) (hp0 : 0 ≤ (vi 1).toInt ∧ (vi 1).toInt ≤ 9) (hp1 : 0 ≤ (vi 2).toInt ∧ (vi 2).toInt ≤ 9) : Met l yX7_isName (xw yX7_isName cX7_isName 2 (some .boolean)) ({ frames := 0, cells := 0, slots := 0, locals := 0 }) (xP D T [.ref (a 0), .int (vi 0)] sz (pre_X7_isName T a ex fi fl vi vl)) (va_Qi (fun r u => r = u) (xC D (va_A (pre_X7_isName T a ex fi fl vi vl) sz) (fun fj fm vj vm => [((a 0), .inr (7, [.int (vi 1), .int (vi 2), .ref (ex 0), .ref (ex 1), .ref (ex 2), .ref (ex 3), .ref (ex 4), .ref (ex 5), .ref (ex 6), .ref (ex 7), .ref (ex 8), .ref (ex 9)]))]) (fun (r : Int32) (fj : Nat → Nat → Int32) (fm : Nat → Nat → Int64) (vj : Nat → Int32) (vm : Nat → Int64) => ((r = 1 ∧ (0 ≤ (vi 0).toInt ∧ (vi 0).toInt < (vi 1).toInt)) ∨ (r = 0 ∧ (¬ (0 ≤ (vi 0).toInt ∧ (vi 0).toInt < (vi 1).toInt)))) ∧ True)) (va_A (pre_X7_isName T a ex fi fl vi vl) sz)) 0 0 (va_A (pre_X7_isName T a ex fi fl vi vl) sz) := by
  refine xofW (cc := cX7_isName) (maxL := 2) (ret := (some .boolean)) (by decide) rfl ?_
  intro p e s m args below meth c s₁ R Q hR hQ B hml hv
  obtain ⟨rfl, hsz, hP, hK, hD0⟩ := hv
  have hx := B.exec
  have hb := B.bytes
  have hr := B.returns
  have hts := atoms_spec (ws := xw yX7_isName cX7_isName 2 (some .boolean)) B.pre
  have htg : ∀ w ∈ xg, w.before _ s = true := fun w h => hts w (List.mem_cons_of_mem _ h)
  have hown : s.vm.findClass RX7 = some m.cls := findClass_of_methodNamed B.named
  have hlocks := B.notSynchronized
  subst hsz
  have hD := hD0.self (sz := s.heap.size)
  generalize hAe : va_A (pre_X7_isName T a ex fi fl vi vl) s.heap.size = A at hD hQ
  have hA : ∀ q : Nat, s.heap.size ≤ q → A q := fun q h => by rw [← hAe]; exact Or.inr h
  have hS : va_S A s.heap s.heap [] := va_S.rf
  replace hP : va_P D vwCl [((a 0), .inr (7, [.int (vi 1), .int (vi 2), .ref (ex 0), .ref (ex 1), .ref (ex 2), .ref (ex 3), .ref (ex 4), .ref (ex 5), .ref (ex 6), .ref (ex 7), .ref (ex 8), .ref (ex 9)]))] s.heap := hP
  replace hD : va_D A [((a 0), .inr (7, [.int (vi 1), .int (vi 2), .ref (ex 0), .ref (ex 1), .ref (ex 2), .ref (ex 3), .ref (ex 4), .ref (ex 5), .ref (ex 6), .ref (ex 7), .ref (ex 8), .ref (ex 9)]))] := hD
  have hl := lv_entry ([.ref (a 0), .int (vi 0)]) (n := 2) (Nat.le_of_ble_eq_true rfl)
  rw [lg_entry_eq]
  generalize (lg_sl ([.ref (a 0), .int (vi 0)]) ++ List.replicate (2 - (lg_sl ([.ref (a 0), .int (vi 0)])).length) Slot.unset).toArray = ls at hl ⊢
  replace hl : lv_has ls 2 [(0, .ref (a 0)), (1, .int (vi 0))] := hl
  refine lv_iload_n hx hb dX7_isName_0 rfl (lv_at hl 1 rfl) ?_
  refine lv_if_lt (tgt := 16) hx hb dX7_isName_1 (by decide) (fun c1 => ?_) (fun c1 => ?_)
  · have c1 := xlt (k := 0) (by decide) c1
    refine lv_iconst (v := 0) hx hb dX7_isName_16 (by decide) ?_
    have hP9 := hP.sub (ws' := [((a 0), .inr (7, [.int (vi 1), .int (vi 2), .ref (ex 0), .ref (ex 1), .ref (ex 2), .ref (ex 3), .ref (ex 4), .ref (ex 5), .ref (ex 6), .ref (ex 7), .ref (ex 8), .ref (ex 9)]))]) [0] rfl
    have hD9 := hD.sub (ws' := [((a 0), .inr (7, [.int (vi 1), .int (vi 2), .ref (ex 0), .ref (ex 1), .ref (ex 2), .ref (ex 3), .ref (ex 4), .ref (ex 5), .ref (ex 6), .ref (ex 7), .ref (ex 8), .ref (ex 9)]))]) [0] (by decide +kernel) rfl
    rw [hQ]
    exact W.zret (v := 0) hx hb hr rfl (fun t ht hW => ⟨⟨0, 0, rfl, rfl, xf [], xh [], xv [], xl [], by rw [ht]; exact hP9, hD9, ⟨(Or.inr ⟨rfl, by show ¬ (0 ≤ (vi 0).toInt ∧ (vi 0).toInt < (vi 1).toInt); first | trivial | omega⟩), trivial⟩⟩, hS.F ht⟩) hS.2.2 dX7_isName_17
  · have c1 := xnlt (k := 0) (by decide) c1
    refine lv_iload_n hx hb dX7_isName_4 rfl (lv_at hl 1 rfl) ?_
    refine lv_aload_n hx hb dX7_isName_5 rfl (lv_at hl 0 rfl) ?_
    refine va_get (D := D) (ci := 7) (v := .int (vi 1)) (C := RX7) (T := TX7) (N := 12) hx hb htg inX7 hown hK.1 hP 0 rfl rfl 0 (by decide) (htg _ kw_158) (fun _ h9 => h9) rfl dX7_isName_6 ?_
    refine lv_icmp_ge (tgt := 16) hx hb dX7_isName_9 (by decide) (fun c9 => ?_) (fun c9 => ?_)
    · have c9 := Int32.le_iff_toInt_le.mp c9
      have rc9 := xrng (vi 0); have qc9 := xrng (vi 1)
      refine lv_iconst (v := 0) hx hb dX7_isName_16 (by decide) ?_
      have hP9 := hP.sub (ws' := [((a 0), .inr (7, [.int (vi 1), .int (vi 2), .ref (ex 0), .ref (ex 1), .ref (ex 2), .ref (ex 3), .ref (ex 4), .ref (ex 5), .ref (ex 6), .ref (ex 7), .ref (ex 8), .ref (ex 9)]))]) [0] rfl
      have hD9 := hD.sub (ws' := [((a 0), .inr (7, [.int (vi 1), .int (vi 2), .ref (ex 0), .ref (ex 1), .ref (ex 2), .ref (ex 3), .ref (ex 4), .ref (ex 5), .ref (ex 6), .ref (ex 7), .ref (ex 8), .ref (ex 9)]))]) [0] (by decide +kernel) rfl
      rw [hQ]
      exact W.zret (v := 0) hx hb hr rfl (fun t ht hW => ⟨⟨0, 0, rfl, rfl, xf [], xh [], xv [], xl [], by rw [ht]; exact hP9, hD9, ⟨(Or.inr ⟨rfl, by show ¬ (0 ≤ (vi 0).toInt ∧ (vi 0).toInt < (vi 1).toInt); first | trivial | omega⟩), trivial⟩⟩, hS.F ht⟩) hS.2.2 dX7_isName_17
    · have c9 := (mt Int32.le_iff_toInt_le.mpr c9)
      have rc9 := xrng (vi 0); have qc9 := xrng (vi 1)
      refine lv_iconst (v := 1) hx hb dX7_isName_12 (by decide) ?_
      refine lv_goto (tgt := 17) hx hb dX7_isName_13 (by decide) ?_
      have hP9 := hP.sub (ws' := [((a 0), .inr (7, [.int (vi 1), .int (vi 2), .ref (ex 0), .ref (ex 1), .ref (ex 2), .ref (ex 3), .ref (ex 4), .ref (ex 5), .ref (ex 6), .ref (ex 7), .ref (ex 8), .ref (ex 9)]))]) [0] rfl
      have hD9 := hD.sub (ws' := [((a 0), .inr (7, [.int (vi 1), .int (vi 2), .ref (ex 0), .ref (ex 1), .ref (ex 2), .ref (ex 3), .ref (ex 4), .ref (ex 5), .ref (ex 6), .ref (ex 7), .ref (ex 8), .ref (ex 9)]))]) [0] (by decide +kernel) rfl
      rw [hQ]
      exact W.zret (v := 1) hx hb hr rfl (fun t ht hW => ⟨⟨1, 1, rfl, rfl, xf [], xh [], xv [], xl [], by rw [ht]; exact hP9, hD9, ⟨(Or.inl ⟨rfl, by show 0 ≤ (vi 0).toInt ∧ (vi 0).toInt < (vi 1).toInt; first | trivial | omega⟩), trivial⟩⟩, hS.F ht⟩) hS.2.2 dX7_isName_17
abbrev pre_X11_hasBit (T : Nat → ClassId) (a ex : Nat → Nat) (fi : Nat → Nat → Int32) (fl : Nat → Nat → Int64) (vi : Nat → Int32) (vl : Nat → Int64) : va_W := []
set_option maxHeartbeats 8000000 in
set_option maxRecDepth 100000 in
theorem c_X11_hasBit (l : Launch) (D : va_G) (T : Nat → ClassId) (a ex : Nat → Nat) (fi : Nat → Nat → Int32) (fl : Nat → Nat → Int64) (vi : Nat → Int32) (vl : Nat → Int64) (sz : Nat) : Met l yX11_hasBit (xw yX11_hasBit cX11_hasBit 2 (some .boolean)) ({ frames := 0, cells := 0, slots := 0, locals := 0 }) (xP D T [.int (vi 0), .int (vi 1)] sz (pre_X11_hasBit T a ex fi fl vi vl)) (va_Qi (fun r u => r = u) (xC D (va_A (pre_X11_hasBit T a ex fi fl vi vl) sz) (fun fj fm vj vm => []) (fun (r : Int32) (fj : Nat → Nat → Int32) (fm : Nat → Nat → Int64) (vj : Nat → Int32) (vm : Nat → Int64) => ((r = 1 ∧ (True)) ∨ (r = 0 ∧ (True))) ∧ True)) (va_A (pre_X11_hasBit T a ex fi fl vi vl) sz)) 0 0 (va_A (pre_X11_hasBit T a ex fi fl vi vl) sz) := by
  refine xofW (cc := cX11_hasBit) (maxL := 2) (ret := (some .boolean)) (by decide) rfl ?_
  intro p e s m args below meth c s₁ R Q hR hQ B hml hv
  obtain ⟨rfl, hsz, hP, hK, hD0⟩ := hv
  have hx := B.exec
  have hb := B.bytes
  have hr := B.returns
  have hts := atoms_spec (ws := xw yX11_hasBit cX11_hasBit 2 (some .boolean)) B.pre
  have htg : ∀ w ∈ xg, w.before _ s = true := fun w h => hts w (List.mem_cons_of_mem _ h)
  have hown : s.vm.findClass RX11 = some m.cls := findClass_of_methodNamed B.named
  have hlocks := B.notSynchronized
  subst hsz
  have hD := hD0.self (sz := s.heap.size)
  generalize hAe : va_A (pre_X11_hasBit T a ex fi fl vi vl) s.heap.size = A at hD hQ
  have hA : ∀ q : Nat, s.heap.size ≤ q → A q := fun q h => by rw [← hAe]; exact Or.inr h
  have hS : va_S A s.heap s.heap [] := va_S.rf
  replace hP : va_P D vwCl [] s.heap := hP
  replace hD : va_D A [] := hD
  have hl := lv_entry ([.int (vi 0), .int (vi 1)]) (n := 2) (Nat.le_of_ble_eq_true rfl)
  rw [lg_entry_eq]
  generalize (lg_sl ([.int (vi 0), .int (vi 1)]) ++ List.replicate (2 - (lg_sl ([.int (vi 0), .int (vi 1)])).length) Slot.unset).toArray = ls at hl ⊢
  replace hl : lv_has ls 2 [(0, .int (vi 0)), (1, .int (vi 1))] := hl
  refine lv_iload_n hx hb dX11_hasBit_0 rfl (lv_at hl 0 rfl) ?_
  refine lv_iload_n hx hb dX11_hasBit_1 rfl (lv_at hl 1 rfl) ?_
  refine lv_ishr hx hb dX11_hasBit_2 ?_
  refine lv_topi (fun z2 ez2 => ?_)
  refine lv_iconst (v := 1) hx hb dX11_hasBit_3 (by decide) ?_
  refine lv_iand hx hb dX11_hasBit_4 ?_
  refine lv_topi (fun z4 ez4 => ?_)
  have tz4 : 0 ≤ z4.toInt ∧ z4.toInt ≤ 1 := by rw [ez4]; exact xand1 _
  refine lv_iconst (v := 1) hx hb dX11_hasBit_5 (by decide) ?_
  refine lv_icmp_ne (tgt := 13) hx hb dX11_hasBit_6 (by decide) (fun c6 => ?_) (fun c6 => ?_)
  · have c6 := xne (k := 1) (by decide) c6
    refine lv_iconst (v := 0) hx hb dX11_hasBit_13 (by decide) ?_
    have hP9 := hP.sub (ws' := []) [] rfl
    have hD9 := hD.sub (ws' := []) [] (by decide +kernel) rfl
    rw [hQ]
    exact W.zret (v := 0) hx hb hr rfl (fun t ht hW => ⟨⟨0, 0, rfl, rfl, xf [], xh [], xv [], xl [], by rw [ht]; exact hP9, hD9, ⟨(Or.inr ⟨rfl, by show True; first | trivial | omega⟩), trivial⟩⟩, hS.F ht⟩) hS.2.2 dX11_hasBit_14
  · have c6 := xeq (k := 1) (by decide) c6
    refine lv_iconst (v := 1) hx hb dX11_hasBit_9 (by decide) ?_
    refine lv_goto (tgt := 14) hx hb dX11_hasBit_10 (by decide) ?_
    have hP9 := hP.sub (ws' := []) [] rfl
    have hD9 := hD.sub (ws' := []) [] (by decide +kernel) rfl
    rw [hQ]
    exact W.zret (v := 1) hx hb hr rfl (fun t ht hW => ⟨⟨1, 1, rfl, rfl, xf [], xh [], xv [], xl [], by rw [ht]; exact hP9, hD9, ⟨(Or.inl ⟨rfl, by show True; first | trivial | omega⟩), trivial⟩⟩, hS.F ht⟩) hS.2.2 dX11_hasBit_14
abbrev pre_X2_isAlive (T : Nat → ClassId) (a ex : Nat → Nat) (fi : Nat → Nat → Int32) (fl : Nat → Nat → Int64) (vi : Nat → Int32) (vl : Nat → Int64) : va_W := [((a 0), .inr (2, [.ref (ex 0), .int (vi 1), .int (vi 2), .int (vi 3), .int (vi 4), .int (vi 5), .int (vi 6), .ref (ex 1), .ref (ex 2), .ref (ex 3), .ref (ex 4), .ref (ex 5), .ref (ex 6), .ref (ex 7), .ref (ex 8)]))]
set_option maxHeartbeats 8000000 in
set_option maxRecDepth 100000 in
theorem c_X2_isAlive (l : Launch) (D : va_G) (T : Nat → ClassId) (a ex : Nat → Nat) (fi : Nat → Nat → Int32) (fl : Nat → Nat → Int64) (vi : Nat → Int32) (vl : Nat → Int64) (sz : Nat) (hp0 : 0 ≤ (vi 1).toInt ∧ (vi 1).toInt ≤ 200) (hp1 : 0 ≤ (vi 6).toInt ∧ (vi 6).toInt ≤ 9) : Met l yX2_isAlive (xw yX2_isAlive cX2_isAlive 2 (some .boolean)) ({ frames := 1, cells := 0, slots := 0, locals := 25 }) (xP D T [.ref (a 0), .int (vi 0)] sz (pre_X2_isAlive T a ex fi fl vi vl)) (va_Qi (fun r u => r = u) (xC D (va_A (pre_X2_isAlive T a ex fi fl vi vl) sz) (fun fj fm vj vm => [((a 0), .inr (2, [.ref (ex 0), .int (vi 1), .int (vi 2), .int (vi 3), .int (vi 4), .int (vi 5), .int (vi 6), .ref (ex 1), .ref (ex 2), .ref (ex 3), .ref (ex 4), .ref (ex 5), .ref (ex 6), .ref (ex 7), .ref (ex 8)]))]) (fun (r : Int32) (fj : Nat → Nat → Int32) (fm : Nat → Nat → Int64) (vj : Nat → Int32) (vm : Nat → Int64) => ((r = 1 ∧ (True)) ∨ (r = 0 ∧ (True))) ∧ True)) (va_A (pre_X2_isAlive T a ex fi fl vi vl) sz)) 0 0 (va_A (pre_X2_isAlive T a ex fi fl vi vl) sz) := by
  refine xofW (cc := cX2_isAlive) (maxL := 2) (ret := (some .boolean)) (by decide) rfl ?_
  intro p e s m args below meth c s₁ R Q hR hQ B hml hv
  obtain ⟨rfl, hsz, hP, hK, hD0⟩ := hv
  have hx := B.exec
  have hb := B.bytes
  have hr := B.returns
  have hts := atoms_spec (ws := xw yX2_isAlive cX2_isAlive 2 (some .boolean)) B.pre
  have htg : ∀ w ∈ xg, w.before _ s = true := fun w h => hts w (List.mem_cons_of_mem _ h)
  have hown : s.vm.findClass RX2 = some m.cls := findClass_of_methodNamed B.named
  have hlocks := B.notSynchronized
  subst hsz
  have hD := hD0.self (sz := s.heap.size)
  generalize hAe : va_A (pre_X2_isAlive T a ex fi fl vi vl) s.heap.size = A at hD hQ
  have hA : ∀ q : Nat, s.heap.size ≤ q → A q := fun q h => by rw [← hAe]; exact Or.inr h
  have hS : va_S A s.heap s.heap [] := va_S.rf
  replace hP : va_P D vwCl [((a 0), .inr (2, [.ref (ex 0), .int (vi 1), .int (vi 2), .int (vi 3), .int (vi 4), .int (vi 5), .int (vi 6), .ref (ex 1), .ref (ex 2), .ref (ex 3), .ref (ex 4), .ref (ex 5), .ref (ex 6), .ref (ex 7), .ref (ex 8)]))] s.heap := hP
  replace hD : va_D A [((a 0), .inr (2, [.ref (ex 0), .int (vi 1), .int (vi 2), .int (vi 3), .int (vi 4), .int (vi 5), .int (vi 6), .ref (ex 1), .ref (ex 2), .ref (ex 3), .ref (ex 4), .ref (ex 5), .ref (ex 6), .ref (ex 7), .ref (ex 8)]))] := hD
  have hl := lv_entry ([.ref (a 0), .int (vi 0)]) (n := 2) (Nat.le_of_ble_eq_true rfl)
  rw [lg_entry_eq]
  generalize (lg_sl ([.ref (a 0), .int (vi 0)]) ++ List.replicate (2 - (lg_sl ([.ref (a 0), .int (vi 0)])).length) Slot.unset).toArray = ls at hl ⊢
  replace hl : lv_has ls 2 [(0, .ref (a 0)), (1, .int (vi 0))] := hl
  refine lv_aload_n hx hb dX2_isAlive_0 rfl (lv_at hl 0 rfl) ?_
  refine va_get (D := D) (ci := 2) (v := .int (vi 2)) (C := RX2) (T := TX2) (N := 15) hx hb htg inX2 hown hK.1 hP 0 rfl rfl 2 (by decide) (htg _ kw_250) (fun _ h9 => h9) rfl dX2_isAlive_1 ?_
  refine lv_iload_n hx hb dX2_isAlive_4 rfl (lv_at hl 1 rfl) ?_
  have hPc := hP.sub (ws' := (pre_X11_hasBit T (xa []) (xa []) (xf []) (xh []) (xv [(vi 2), (vi 0)]) (xl []))) [] rfl
  have hDc := hD.sub (ws' := (pre_X11_hasBit T (xa []) (xa []) (xf []) (xh []) (xv [(vi 2), (vi 0)]) (xl []))) [] (by decide) rfl
  have hFc := va_free (wc := (pre_X11_hasBit T (xa []) (xa []) (xf []) (xh []) (xv [(vi 2), (vi 0)]) (xl []))) hD hS hA [] rfl
  refine va_calli (va_runSN (As := [.int (vi 2), .int (vi 0)]) (rest := []) ⟨hx, hb, hml, hown, htg⟩ (c_X11_hasBit l D T (xa []) (xa []) (xf []) (xh []) (xv [(vi 2), (vi 0)]) (xl []) s.heap.size) ⟨va_cnB 2 htg (xg_ok kw_758) rfl rfl rfl (hK.2.1 _ kn_756) (htg _ kw_1) (by decide +kernel) ⟨by rw [hR]; exact Nat.le_of_ble_eq_true rfl, by rw [hR]; exact Nat.le_of_ble_eq_true rfl⟩, htg _ kw_757, trivial⟩ (xpreS hK hPc hDc) rfl rfl hl.1 rfl (lv_room (Nat.le_of_ble_eq_true rfl)) dX2_isAlive_5 ⟨by rw [hR]; exact Nat.le_of_ble_eq_true rfl, by rw [hR]; exact Nat.le_of_ble_eq_true rfl⟩) hS (fun q _ h => hFc q h) hFc (fun r9 u9 t H1 locs ht hvm hw hB hz1 hk1 hS => ?_)
  subst hw
  obtain ⟨fik, flk, vik, vlk, hP1, hD1, hG⟩ := hB
  rw [ht] at hP1
  obtain ⟨hP, hD⟩ := va_join (wr := [((a 0), .inr (2, [.ref (ex 0), .int (vi 1), .int (vi 2), .int (vi 3), .int (vi 4), .int (vi 5), .int (vi 6), .ref (ex 1), .ref (ex 2), .ref (ex 3), .ref (ex 4), .ref (ex 5), .ref (ex 6), .ref (ex 7), .ref (ex 8)]))]) (w1 := []) hP hD [] [0] rfl rfl (by decide) (by decide) hk1 hFc hP1 hD1
  obtain ⟨rk, er9⟩ : ∃ z, z = r9 := ⟨_, rfl⟩
  subst er9
  clear hPc hDc hFc hP1 hD1 hk1 hz1 hvm ht
  generalize H1 = H at hP hS ⊢
  replace hP : va_P D vwCl [((a 0), .inr (2, [.ref (ex 0), .int (vi 1), .int (vi 2), .int (vi 3), .int (vi 4), .int (vi 5), .int (vi 6), .ref (ex 1), .ref (ex 2), .ref (ex 3), .ref (ex 4), .ref (ex 5), .ref (ex 6), .ref (ex 7), .ref (ex 8)]))] H := hP
  replace hD : va_D A [((a 0), .inr (2, [.ref (ex 0), .int (vi 1), .int (vi 2), .int (vi 3), .int (vi 4), .int (vi 5), .int (vi 6), .ref (ex 1), .ref (ex 2), .ref (ex 3), .ref (ex 4), .ref (ex 5), .ref (ex 6), .ref (ex 7), .ref (ex 8)]))] := hD
  obtain ⟨gk_0, -⟩ := hG
  rcases (show (rk = 1 ∧ (True)) ∨ (rk = 0 ∧ (True)) from gk_0) with ⟨er9, gk_0⟩ | ⟨er9, gk_0⟩
  · refine xz_i 1 er9 ?_
    have hP9 := hP.sub (ws' := [((a 0), .inr (2, [.ref (ex 0), .int (vi 1), .int (vi 2), .int (vi 3), .int (vi 4), .int (vi 5), .int (vi 6), .ref (ex 1), .ref (ex 2), .ref (ex 3), .ref (ex 4), .ref (ex 5), .ref (ex 6), .ref (ex 7), .ref (ex 8)]))]) [0] rfl
    have hD9 := hD.sub (ws' := [((a 0), .inr (2, [.ref (ex 0), .int (vi 1), .int (vi 2), .int (vi 3), .int (vi 4), .int (vi 5), .int (vi 6), .ref (ex 1), .ref (ex 2), .ref (ex 3), .ref (ex 4), .ref (ex 5), .ref (ex 6), .ref (ex 7), .ref (ex 8)]))]) [0] (by decide +kernel) rfl
    rw [hQ]
    exact W.zret (v := 1) hx hb hr rfl (fun t ht hW => ⟨⟨1, 1, rfl, rfl, xf [], xh [], xv [], xl [], by rw [ht]; exact hP9, hD9, ⟨(Or.inl ⟨rfl, by show True; first | trivial | omega⟩), trivial⟩⟩, hS.F ht⟩) hS.2.2 dX2_isAlive_8
  · refine xz_i 0 er9 ?_
    have hP9 := hP.sub (ws' := [((a 0), .inr (2, [.ref (ex 0), .int (vi 1), .int (vi 2), .int (vi 3), .int (vi 4), .int (vi 5), .int (vi 6), .ref (ex 1), .ref (ex 2), .ref (ex 3), .ref (ex 4), .ref (ex 5), .ref (ex 6), .ref (ex 7), .ref (ex 8)]))]) [0] rfl
    have hD9 := hD.sub (ws' := [((a 0), .inr (2, [.ref (ex 0), .int (vi 1), .int (vi 2), .int (vi 3), .int (vi 4), .int (vi 5), .int (vi 6), .ref (ex 1), .ref (ex 2), .ref (ex 3), .ref (ex 4), .ref (ex 5), .ref (ex 6), .ref (ex 7), .ref (ex 8)]))]) [0] (by decide +kernel) rfl
    rw [hQ]
    exact W.zret (v := 0) hx hb hr rfl (fun t ht hW => ⟨⟨0, 0, rfl, rfl, xf [], xh [], xv [], xl [], by rw [ht]; exact hP9, hD9, ⟨(Or.inr ⟨rfl, by show True; first | trivial | omega⟩), trivial⟩⟩, hS.F ht⟩) hS.2.2 dX2_isAlive_8
abbrev pre_X2_waitAhead (T : Nat → ClassId) (a ex : Nat → Nat) (fi : Nat → Nat → Int32) (fl : Nat → Nat → Int64) (vi : Nat → Int32) (vl : Nat → Int64) : va_W := [((a 0), .inr (2, [.ref (ex 0), .int (vi 1), .int (vi 2), .int (vi 3), .int (vi 4), .int (vi 5), .int (vi 6), .ref (ex 1), .ref (ex 2), .ref (ex 3), .ref (ex 4), .ref (ex 5), .ref (ex 6), .ref (a 1), .ref (ex 7)])), ((a 1), .inl (T 1, 9, .inl (fi 0)))]
set_option maxHeartbeats 8000000 in
set_option maxRecDepth 100000 in
theorem c_X2_waitAhead (l : Launch) (D : va_G) (T : Nat → ClassId) (a ex : Nat → Nat) (fi : Nat → Nat → Int32) (fl : Nat → Nat → Int64) (vi : Nat → Int32) (vl : Nat → Int64) (sz : Nat) (hp0 : 0 ≤ (vi 1).toInt ∧ (vi 1).toInt ≤ 200) (hp1 : 0 ≤ (vi 6).toInt ∧ (vi 6).toInt ≤ 9) (hp2 : rg (fi 0) 0 9 0 8) : Met l yX2_waitAhead (xw yX2_waitAhead cX2_waitAhead 3 (some .int)) ({ frames := 0, cells := 0, slots := 0, locals := 0 }) (xP D T [.ref (a 0), .int (vi 0)] sz (pre_X2_waitAhead T a ex fi fl vi vl)) (va_Qi (fun r u => r = u) (xC D (va_A (pre_X2_waitAhead T a ex fi fl vi vl) sz) (fun fj fm vj vm => [((a 0), .inr (2, [.ref (ex 0), .int (vi 1), .int (vi 2), .int (vi 3), .int (vi 4), .int (vi 5), .int (vi 6), .ref (ex 1), .ref (ex 2), .ref (ex 3), .ref (ex 4), .ref (ex 5), .ref (ex 6), .ref (a 1), .ref (ex 7)])), ((a 1), .inl (T 1, 9, .inl (fi 0)))]) (fun (r : Int32) (fj : Nat → Nat → Int32) (fm : Nat → Nat → Int64) (vj : Nat → Int32) (vm : Nat → Int64) => (-1 ≤ r.toInt ∧ r.toInt ≤ 8 ∧ (r.toInt < (vi 6).toInt)) ∧ True)) (va_A (pre_X2_waitAhead T a ex fi fl vi vl) sz)) 0 0 (va_A (pre_X2_waitAhead T a ex fi fl vi vl) sz) := by
  refine xofW (cc := cX2_waitAhead) (maxL := 3) (ret := (some .int)) (by decide) rfl ?_
  intro p e s m args below meth c s₁ R Q hR hQ B hml hv
  obtain ⟨rfl, hsz, hP, hK, hD0⟩ := hv
  have hx := B.exec
  have hb := B.bytes
  have hr := B.returns
  have hts := atoms_spec (ws := xw yX2_waitAhead cX2_waitAhead 3 (some .int)) B.pre
  have htg : ∀ w ∈ xg, w.before _ s = true := fun w h => hts w (List.mem_cons_of_mem _ h)
  have hown : s.vm.findClass RX2 = some m.cls := findClass_of_methodNamed B.named
  have hlocks := B.notSynchronized
  subst hsz
  have hD := hD0.self (sz := s.heap.size)
  generalize hAe : va_A (pre_X2_waitAhead T a ex fi fl vi vl) s.heap.size = A at hD hQ
  have hA : ∀ q : Nat, s.heap.size ≤ q → A q := fun q h => by rw [← hAe]; exact Or.inr h
  have hS : va_S A s.heap s.heap [] := va_S.rf
  replace hP : va_P D vwCl [((a 0), .inr (2, [.ref (ex 0), .int (vi 1), .int (vi 2), .int (vi 3), .int (vi 4), .int (vi 5), .int (vi 6), .ref (ex 1), .ref (ex 2), .ref (ex 3), .ref (ex 4), .ref (ex 5), .ref (ex 6), .ref (a 1), .ref (ex 7)])), ((a 1), .inl (T 1, 9, .inl (fi 0)))] s.heap := hP
  replace hD : va_D A [((a 0), .inr (2, [.ref (ex 0), .int (vi 1), .int (vi 2), .int (vi 3), .int (vi 4), .int (vi 5), .int (vi 6), .ref (ex 1), .ref (ex 2), .ref (ex 3), .ref (ex 4), .ref (ex 5), .ref (ex 6), .ref (a 1), .ref (ex 7)])), ((a 1), .inl (T 1, 9, .inl (fi 0)))] := hD
  have hl := lv_entry ([.ref (a 0), .int (vi 0)]) (n := 3) (Nat.le_of_ble_eq_true rfl)
  rw [lg_entry_eq]
  generalize (lg_sl ([.ref (a 0), .int (vi 0)]) ++ List.replicate (3 - (lg_sl ([.ref (a 0), .int (vi 0)])).length) Slot.unset).toArray = ls at hl ⊢
  replace hl : lv_has ls 3 [(0, .ref (a 0)), (1, .int (vi 0))] := hl
  refine lv_iconst (v := 0) hx hb dX2_waitAhead_0 (by decide) ?_
  refine lv_istore_n (lv' := [(2, .int 0), (0, .ref (a 0)), (1, .int (vi 0))]) hx hb dX2_waitAhead_1 rfl hl (by decide) rfl (fun ls hl => ?_)
  have lp : ∀ (kn : Nat) (w2 : Int32) (H : Heap) (locs : List Loc) (ls : Array Slot), (0 ≤ w2.toInt) → (2147483648 - w2.toInt).toNat = kn → va_P D vwCl [((a 0), .inr (2, [.ref (ex 0), .int (vi 1), .int (vi 2), .int (vi 3), .int (vi 4), .int (vi 5), .int (vi 6), .ref (ex 1), .ref (ex 2), .ref (ex 3), .ref (ex 4), .ref (ex 5), .ref (ex 6), .ref (a 1), .ref (ex 7)])), ((a 1), .inl (T 1, 9, .inl (fi 0)))] H → va_D A [((a 0), .inr (2, [.ref (ex 0), .int (vi 1), .int (vi 2), .int (vi 3), .int (vi 4), .int (vi 5), .int (vi 6), .ref (ex 1), .ref (ex 2), .ref (ex 3), .ref (ex 4), .ref (ex 5), .ref (ex 6), .ref (a 1), .ref (ex 7)])), ((a 1), .inl (T 1, 9, .inl (fi 0)))] → va_S A s.heap H locs → lv_has ls 3 [(2, .int w2), (0, .ref (a 0)), (1, .int (vi 0))] → W p l e R s m ([.ref (a 0), .int (vi 0)] : List Value).toArray below meth c H locs 0 0 Q (F0 m 2 ls []) := by
    intro kn
    induction kn using Nat.strongRecOn with
    | _ kn ih =>
      intro w2 H locs ls hi hm hP hD hS hl
      refine lv_iload_n hx hb dX2_waitAhead_2 rfl (lv_at hl 0 rfl) ?_
      refine lv_aload_n hx hb dX2_waitAhead_3 rfl (lv_at hl 1 rfl) ?_
      refine va_get (D := D) (ci := 2) (v := .int (vi 6)) (C := RX2) (T := TX2) (N := 15) hx hb htg inX2 hown hK.1 hP 0 rfl rfl 6 (by decide) (htg _ kw_257) (fun _ h9 => h9) rfl dX2_waitAhead_4 ?_
      refine lv_icmp_ge (tgt := 28) hx hb dX2_waitAhead_7 (by decide) (fun c7 => ?_) (fun c7 => ?_)
      · have c7 := Int32.le_iff_toInt_le.mp c7
        have rc7 := xrng w2; have qc7 := xrng (vi 6)
        refine lv_iconst (v := (-1)) hx hb dX2_waitAhead_28 (by decide) ?_
        have hP9 := hP.sub (ws' := [((a 0), .inr (2, [.ref (ex 0), .int (vi 1), .int (vi 2), .int (vi 3), .int (vi 4), .int (vi 5), .int (vi 6), .ref (ex 1), .ref (ex 2), .ref (ex 3), .ref (ex 4), .ref (ex 5), .ref (ex 6), .ref (a 1), .ref (ex 7)])), ((a 1), .inl (T 1, 9, .inl (fi 0)))]) [0, 1] rfl
        have hD9 := hD.sub (ws' := [((a 0), .inr (2, [.ref (ex 0), .int (vi 1), .int (vi 2), .int (vi 3), .int (vi 4), .int (vi 5), .int (vi 6), .ref (ex 1), .ref (ex 2), .ref (ex 3), .ref (ex 4), .ref (ex 5), .ref (ex 6), .ref (a 1), .ref (ex 7)])), ((a 1), .inl (T 1, 9, .inl (fi 0)))]) [0, 1] (by decide +kernel) rfl
        rw [hQ]
        exact W.iret (v := (-1)) hx hb hr (fun t ht hW => ⟨⟨(-1), (-1), rfl, rfl, xf [], xh [], xv [], xl [], by rw [ht]; exact hP9, hD9, ⟨(by show -1 ≤ ((-1) : Int32).toInt ∧ ((-1) : Int32).toInt ≤ 8 ∧ (((-1) : Int32).toInt < (vi 6).toInt); have k9_0 : ((-1) : Int32).toInt = (-1) := by decide; omega), trivial⟩⟩, hS.F ht⟩) hS.2.2 dX2_waitAhead_29
      · have c7 := (mt Int32.le_iff_toInt_le.mpr c7)
        have rc7 := xrng w2; have qc7 := xrng (vi 6)
        refine lv_aload_n hx hb dX2_waitAhead_10 rfl (lv_at hl 1 rfl) ?_
        refine va_get (D := D) (ci := 2) (v := .ref (a 1)) (C := RX2) (T := TX2) (N := 15) hx hb htg inX2 hown hK.1 hP 0 rfl rfl 13 (by decide) (htg _ kw_278) (fun _ h9 => h9) rfl dX2_waitAhead_11 ?_
        refine lv_iload_n hx hb dX2_waitAhead_14 rfl (lv_at hl 0 rfl) ?_
        refine va_iald hx hb hK.1 hP 1 1 rfl rfl (vp_in_iff.mpr (by omega)) dX2_waitAhead_15 ?_
        have hv := rg_at hp2 (i := w2) (by omega) (by omega)
        refine lv_iload_n hx hb dX2_waitAhead_16 rfl (lv_at hl 2 rfl) ?_
        refine lv_icmp_ne (tgt := 22) hx hb dX2_waitAhead_17 (by decide) (fun c17 => ?_) (fun c17 => ?_)
        · have c17 := xne2 c17
          have rc17 := xrng ((fi 0) w2.toNatClampNeg); have qc17 := xrng (vi 0)
          obtain ⟨i22, ei22⟩ : ∃ z : Int32, w2 + Int32.ofInt 1 = z := ⟨_, rfl⟩
          have ti22 : i22.toInt = w2.toInt + 1 := by rw [← ei22]; exact xadd rfl (by decide) (by omega) (by omega)
          refine lv_iinc (v := i22) (lv' := [(2, .int i22), (0, .ref (a 0)), (1, .int (vi 0))]) hx hb dX2_waitAhead_22 hl (k := 0) rfl ei22 (by decide) rfl (fun ls hl => ?_)
          refine lv_goto (tgt := 2) hx hb dX2_waitAhead_25 (by decide) ?_
          exact ih _ (by omega) i22 _ _ _ (by show 0 ≤ i22.toInt; omega) rfl (hP.sub [0, 1] rfl) (hD.sub [0, 1] (by decide) rfl) hS (lv_sub hl [0, 1, 2] rfl)
        · have c17 := congrArg Int32.toInt c17
          have rc17 := xrng ((fi 0) w2.toNatClampNeg); have qc17 := xrng (vi 0)
          refine lv_iload_n hx hb dX2_waitAhead_20 rfl (lv_at hl 0 rfl) ?_
          have hP9 := hP.sub (ws' := [((a 0), .inr (2, [.ref (ex 0), .int (vi 1), .int (vi 2), .int (vi 3), .int (vi 4), .int (vi 5), .int (vi 6), .ref (ex 1), .ref (ex 2), .ref (ex 3), .ref (ex 4), .ref (ex 5), .ref (ex 6), .ref (a 1), .ref (ex 7)])), ((a 1), .inl (T 1, 9, .inl (fi 0)))]) [0, 1] rfl
          have hD9 := hD.sub (ws' := [((a 0), .inr (2, [.ref (ex 0), .int (vi 1), .int (vi 2), .int (vi 3), .int (vi 4), .int (vi 5), .int (vi 6), .ref (ex 1), .ref (ex 2), .ref (ex 3), .ref (ex 4), .ref (ex 5), .ref (ex 6), .ref (a 1), .ref (ex 7)])), ((a 1), .inl (T 1, 9, .inl (fi 0)))]) [0, 1] (by decide +kernel) rfl
          rw [hQ]
          exact W.iret (v := w2) hx hb hr (fun t ht hW => ⟨⟨w2, w2, rfl, rfl, xf [], xh [], xv [], xl [], by rw [ht]; exact hP9, hD9, ⟨(by show -1 ≤ w2.toInt ∧ w2.toInt ≤ 8 ∧ (w2.toInt < (vi 6).toInt); omega), trivial⟩⟩, hS.F ht⟩) hS.2.2 dX2_waitAhead_21
  exact lp _ (0 : Int32) _ _ _ (by show 0 ≤ (0 : Int32).toInt; have k9_0 : (0 : Int32).toInt = 0 := by decide; omega) rfl hP hD hS hl
abbrev pre_X2_hangedYet (T : Nat → ClassId) (a ex : Nat → Nat) (fi : Nat → Nat → Int32) (fl : Nat → Nat → Int64) (vi : Nat → Int32) (vl : Nat → Int64) : va_W := [((a 0), .inr (2, [.ref (ex 0), .int (vi 1), .int (vi 2), .int (vi 3), .int (vi 4), .int (vi 5), .int (vi 6), .ref (ex 1), .ref (ex 2), .ref (a 1), .ref (ex 3), .ref (ex 4), .ref (ex 5), .ref (ex 6), .ref (ex 7)])), ((a 1), .inl (T 1, 9, .inl (fi 0)))]
set_option maxHeartbeats 8000000 in
set_option maxRecDepth 100000 in
theorem c_X2_hangedYet (l : Launch) (D : va_G) (T : Nat → ClassId) (a ex : Nat → Nat) (fi : Nat → Nat → Int32) (fl : Nat → Nat → Int64) (vi : Nat → Int32) (vl : Nat → Int64) (sz : Nat) (hp0 : 0 ≤ (vi 0).toInt ∧ (vi 0).toInt ≤ 8) (hp1 : 0 ≤ (vi 1).toInt ∧ (vi 1).toInt ≤ 200) (hp2 : 0 ≤ (vi 6).toInt ∧ (vi 6).toInt ≤ 9) : Met l yX2_hangedYet (xw yX2_hangedYet cX2_hangedYet 2 (some .int)) ({ frames := 0, cells := 0, slots := 0, locals := 0 }) (xP D T [.ref (a 0), .int (vi 0)] sz (pre_X2_hangedYet T a ex fi fl vi vl)) (va_Qi (fun r u => r = u) (xC D (va_A (pre_X2_hangedYet T a ex fi fl vi vl) sz) (fun fj fm vj vm => [((a 0), .inr (2, [.ref (ex 0), .int (vi 1), .int (vi 2), .int (vi 3), .int (vi 4), .int (vi 5), .int (vi 6), .ref (ex 1), .ref (ex 2), .ref (a 1), .ref (ex 3), .ref (ex 4), .ref (ex 5), .ref (ex 6), .ref (ex 7)])), ((a 1), .inl (T 1, 9, .inl (fi 0)))]) (fun (r : Int32) (fj : Nat → Nat → Int32) (fm : Nat → Nat → Int64) (vj : Nat → Int32) (vm : Nat → Int64) => True)) (va_A (pre_X2_hangedYet T a ex fi fl vi vl) sz)) 0 0 (va_A (pre_X2_hangedYet T a ex fi fl vi vl) sz) := by
  refine xofW (cc := cX2_hangedYet) (maxL := 2) (ret := (some .int)) (by decide) rfl ?_
  intro p e s m args below meth c s₁ R Q hR hQ B hml hv
  obtain ⟨rfl, hsz, hP, hK, hD0⟩ := hv
  have hx := B.exec
  have hb := B.bytes
  have hr := B.returns
  have hts := atoms_spec (ws := xw yX2_hangedYet cX2_hangedYet 2 (some .int)) B.pre
  have htg : ∀ w ∈ xg, w.before _ s = true := fun w h => hts w (List.mem_cons_of_mem _ h)
  have hown : s.vm.findClass RX2 = some m.cls := findClass_of_methodNamed B.named
  have hlocks := B.notSynchronized
  subst hsz
  have hD := hD0.self (sz := s.heap.size)
  generalize hAe : va_A (pre_X2_hangedYet T a ex fi fl vi vl) s.heap.size = A at hD hQ
  have hA : ∀ q : Nat, s.heap.size ≤ q → A q := fun q h => by rw [← hAe]; exact Or.inr h
  have hS : va_S A s.heap s.heap [] := va_S.rf
  replace hP : va_P D vwCl [((a 0), .inr (2, [.ref (ex 0), .int (vi 1), .int (vi 2), .int (vi 3), .int (vi 4), .int (vi 5), .int (vi 6), .ref (ex 1), .ref (ex 2), .ref (a 1), .ref (ex 3), .ref (ex 4), .ref (ex 5), .ref (ex 6), .ref (ex 7)])), ((a 1), .inl (T 1, 9, .inl (fi 0)))] s.heap := hP
  replace hD : va_D A [((a 0), .inr (2, [.ref (ex 0), .int (vi 1), .int (vi 2), .int (vi 3), .int (vi 4), .int (vi 5), .int (vi 6), .ref (ex 1), .ref (ex 2), .ref (a 1), .ref (ex 3), .ref (ex 4), .ref (ex 5), .ref (ex 6), .ref (ex 7)])), ((a 1), .inl (T 1, 9, .inl (fi 0)))] := hD
  have hl := lv_entry ([.ref (a 0), .int (vi 0)]) (n := 2) (Nat.le_of_ble_eq_true rfl)
  rw [lg_entry_eq]
  generalize (lg_sl ([.ref (a 0), .int (vi 0)]) ++ List.replicate (2 - (lg_sl ([.ref (a 0), .int (vi 0)])).length) Slot.unset).toArray = ls at hl ⊢
  replace hl : lv_has ls 2 [(0, .ref (a 0)), (1, .int (vi 0))] := hl
  refine lv_aload_n hx hb dX2_hangedYet_0 rfl (lv_at hl 0 rfl) ?_
  refine va_get (D := D) (ci := 2) (v := .ref (a 1)) (C := RX2) (T := TX2) (N := 15) hx hb htg inX2 hown hK.1 hP 0 rfl rfl 9 (by decide) (htg _ kw_266) (fun _ h9 => h9) rfl dX2_hangedYet_1 ?_
  refine lv_iload_n hx hb dX2_hangedYet_4 rfl (lv_at hl 1 rfl) ?_
  refine va_iald hx hb hK.1 hP 1 1 rfl rfl (vp_in_iff.mpr (by omega)) dX2_hangedYet_5 ?_
  refine lv_aload_n hx hb dX2_hangedYet_6 rfl (lv_at hl 0 rfl) ?_
  refine va_get (D := D) (ci := 2) (v := .int (vi 1)) (C := RX2) (T := TX2) (N := 15) hx hb htg inX2 hown hK.1 hP 0 rfl rfl 1 (by decide) (htg _ kw_247) (fun _ h9 => h9) rfl dX2_hangedYet_7 ?_
  refine lv_icmp_le (tgt := 27) hx hb dX2_hangedYet_10 (by decide) (fun c10 => ?_) (fun c10 => ?_)
  · have c10 := Int32.le_iff_toInt_le.mp c10
    have rc10 := xrng ((fi 0) (vi 0).toNatClampNeg); have qc10 := xrng (vi 1)
    refine lv_iconst (v := 0) hx hb dX2_hangedYet_27 (by decide) ?_
    have hP9 := hP.sub (ws' := [((a 0), .inr (2, [.ref (ex 0), .int (vi 1), .int (vi 2), .int (vi 3), .int (vi 4), .int (vi 5), .int (vi 6), .ref (ex 1), .ref (ex 2), .ref (a 1), .ref (ex 3), .ref (ex 4), .ref (ex 5), .ref (ex 6), .ref (ex 7)])), ((a 1), .inl (T 1, 9, .inl (fi 0)))]) [0, 1] rfl
    have hD9 := hD.sub (ws' := [((a 0), .inr (2, [.ref (ex 0), .int (vi 1), .int (vi 2), .int (vi 3), .int (vi 4), .int (vi 5), .int (vi 6), .ref (ex 1), .ref (ex 2), .ref (a 1), .ref (ex 3), .ref (ex 4), .ref (ex 5), .ref (ex 6), .ref (ex 7)])), ((a 1), .inl (T 1, 9, .inl (fi 0)))]) [0, 1] (by decide +kernel) rfl
    rw [hQ]
    exact W.iret (v := 0) hx hb hr (fun t ht hW => ⟨⟨0, 0, rfl, rfl, xf [], xh [], xv [], xl [], by rw [ht]; exact hP9, hD9, trivial⟩, hS.F ht⟩) hS.2.2 dX2_hangedYet_28
  · have c10 := (mt Int32.le_iff_toInt_le.mpr c10)
    have rc10 := xrng ((fi 0) (vi 0).toNatClampNeg); have qc10 := xrng (vi 1)
    refine lv_aload_n hx hb dX2_hangedYet_13 rfl (lv_at hl 0 rfl) ?_
    refine va_get (D := D) (ci := 2) (v := .ref (a 1)) (C := RX2) (T := TX2) (N := 15) hx hb htg inX2 hown hK.1 hP 0 rfl rfl 9 (by decide) (htg _ kw_266) (fun _ h9 => h9) rfl dX2_hangedYet_14 ?_
    refine lv_iload_n hx hb dX2_hangedYet_17 rfl (lv_at hl 1 rfl) ?_
    refine va_iald hx hb hK.1 hP 1 1 rfl rfl (vp_in_iff.mpr (by omega)) dX2_hangedYet_18 ?_
    refine lv_aload_n hx hb dX2_hangedYet_19 rfl (lv_at hl 0 rfl) ?_
    refine va_get (D := D) (ci := 2) (v := .int (vi 1)) (C := RX2) (T := TX2) (N := 15) hx hb htg inX2 hown hK.1 hP 0 rfl rfl 1 (by decide) (htg _ kw_247) (fun _ h9 => h9) rfl dX2_hangedYet_20 ?_
    refine lv_isub hx hb dX2_hangedYet_23 ?_
    refine lv_topi (fun z23 ez23 => ?_)
    have tz23 : z23.toInt = ((fi 0) (vi 0).toNatClampNeg).toInt - (vi 1).toInt := by rw [ez23]; exact xsub rfl rfl (by omega) (by omega)
    refine lv_goto (tgt := 28) hx hb dX2_hangedYet_24 (by decide) ?_
    have hP9 := hP.sub (ws' := [((a 0), .inr (2, [.ref (ex 0), .int (vi 1), .int (vi 2), .int (vi 3), .int (vi 4), .int (vi 5), .int (vi 6), .ref (ex 1), .ref (ex 2), .ref (a 1), .ref (ex 3), .ref (ex 4), .ref (ex 5), .ref (ex 6), .ref (ex 7)])), ((a 1), .inl (T 1, 9, .inl (fi 0)))]) [0, 1] rfl
    have hD9 := hD.sub (ws' := [((a 0), .inr (2, [.ref (ex 0), .int (vi 1), .int (vi 2), .int (vi 3), .int (vi 4), .int (vi 5), .int (vi 6), .ref (ex 1), .ref (ex 2), .ref (a 1), .ref (ex 3), .ref (ex 4), .ref (ex 5), .ref (ex 6), .ref (ex 7)])), ((a 1), .inl (T 1, 9, .inl (fi 0)))]) [0, 1] (by decide +kernel) rfl
    rw [hQ]
    exact W.iret (v := z23) hx hb hr (fun t ht hW => ⟨⟨z23, z23, rfl, rfl, xf [], xh [], xv [], xl [], by rw [ht]; exact hP9, hD9, trivial⟩, hS.F ht⟩) hS.2.2 dX2_hangedYet_28
abbrev pre_X2_cost (T : Nat → ClassId) (a ex : Nat → Nat) (fi : Nat → Nat → Int32) (fl : Nat → Nat → Int64) (vi : Nat → Int32) (vl : Nat → Int64) : va_W := [((a 0), .inr (2, [.ref (a 2), .int (vi 1), .int (vi 2), .int (vi 3), .int (vi 4), .int (vi 5), .int (vi 6), .ref (ex 0), .ref (ex 1), .ref (a 1), .ref (ex 2), .ref (ex 3), .ref (ex 4), .ref (ex 5), .ref (ex 6)])), ((a 1), .inl (T 1, 9, .inl (fi 0))), ((a 2), .inr (7, [.int (vi 7), .int (vi 8), .ref (ex 7), .ref (a 3), .ref (ex 8), .ref (ex 9), .ref (ex 10), .ref (ex 11), .ref (ex 12), .ref (ex 13), .ref (ex 14), .ref (ex 15)])), ((a 3), .inl (T 1, 9, .inl (fi 1)))]
set_option maxHeartbeats 8000000 in
set_option maxRecDepth 100000 in
theorem c_X2_cost (l : Launch) (D : va_G) (T : Nat → ClassId) (a ex : Nat → Nat) (fi : Nat → Nat → Int32) (fl : Nat → Nat → Int64) (vi : Nat → Int32) (vl : Nat → Int64) (sz : Nat) (hp0 : 0 ≤ (vi 0).toInt ∧ (vi 0).toInt ≤ 8) (hp1 : 0 ≤ (vi 1).toInt ∧ (vi 1).toInt ≤ 200) (hp2 : 0 ≤ (vi 6).toInt ∧ (vi 6).toInt ≤ 9) (hp3 : 0 ≤ (vi 7).toInt ∧ (vi 7).toInt ≤ 9) (hp4 : 0 ≤ (vi 8).toInt ∧ (vi 8).toInt ≤ 9) : Met l yX2_cost (xw yX2_cost cX2_cost 2 (some .int)) ({ frames := 1, cells := 0, slots := 0, locals := 25 }) (xP D T [.ref (a 0), .int (vi 0)] sz (pre_X2_cost T a ex fi fl vi vl)) (va_Qi (fun r u => r = u) (xC D (va_A (pre_X2_cost T a ex fi fl vi vl) sz) (fun fj fm vj vm => [((a 0), .inr (2, [.ref (a 2), .int (vi 1), .int (vi 2), .int (vi 3), .int (vi 4), .int (vi 5), .int (vi 6), .ref (ex 0), .ref (ex 1), .ref (a 1), .ref (ex 2), .ref (ex 3), .ref (ex 4), .ref (ex 5), .ref (ex 6)])), ((a 1), .inl (T 1, 9, .inl (fi 0))), ((a 2), .inr (7, [.int (vi 7), .int (vi 8), .ref (ex 7), .ref (a 3), .ref (ex 8), .ref (ex 9), .ref (ex 10), .ref (ex 11), .ref (ex 12), .ref (ex 13), .ref (ex 14), .ref (ex 15)])), ((a 3), .inl (T 1, 9, .inl (fi 1)))]) (fun (r : Int32) (fj : Nat → Nat → Int32) (fm : Nat → Nat → Int64) (vj : Nat → Int32) (vm : Nat → Int64) => True)) (va_A (pre_X2_cost T a ex fi fl vi vl) sz)) 0 0 (va_A (pre_X2_cost T a ex fi fl vi vl) sz) := by
  refine xofW (cc := cX2_cost) (maxL := 2) (ret := (some .int)) (by decide) rfl ?_
  intro p e s m args below meth c s₁ R Q hR hQ B hml hv
  obtain ⟨rfl, hsz, hP, hK, hD0⟩ := hv
  have hx := B.exec
  have hb := B.bytes
  have hr := B.returns
  have hts := atoms_spec (ws := xw yX2_cost cX2_cost 2 (some .int)) B.pre
  have htg : ∀ w ∈ xg, w.before _ s = true := fun w h => hts w (List.mem_cons_of_mem _ h)
  have hown : s.vm.findClass RX2 = some m.cls := findClass_of_methodNamed B.named
  have hlocks := B.notSynchronized
  subst hsz
  have hD := hD0.self (sz := s.heap.size)
  generalize hAe : va_A (pre_X2_cost T a ex fi fl vi vl) s.heap.size = A at hD hQ
  have hA : ∀ q : Nat, s.heap.size ≤ q → A q := fun q h => by rw [← hAe]; exact Or.inr h
  have hS : va_S A s.heap s.heap [] := va_S.rf
  replace hP : va_P D vwCl [((a 0), .inr (2, [.ref (a 2), .int (vi 1), .int (vi 2), .int (vi 3), .int (vi 4), .int (vi 5), .int (vi 6), .ref (ex 0), .ref (ex 1), .ref (a 1), .ref (ex 2), .ref (ex 3), .ref (ex 4), .ref (ex 5), .ref (ex 6)])), ((a 1), .inl (T 1, 9, .inl (fi 0))), ((a 2), .inr (7, [.int (vi 7), .int (vi 8), .ref (ex 7), .ref (a 3), .ref (ex 8), .ref (ex 9), .ref (ex 10), .ref (ex 11), .ref (ex 12), .ref (ex 13), .ref (ex 14), .ref (ex 15)])), ((a 3), .inl (T 1, 9, .inl (fi 1)))] s.heap := hP
  replace hD : va_D A [((a 0), .inr (2, [.ref (a 2), .int (vi 1), .int (vi 2), .int (vi 3), .int (vi 4), .int (vi 5), .int (vi 6), .ref (ex 0), .ref (ex 1), .ref (a 1), .ref (ex 2), .ref (ex 3), .ref (ex 4), .ref (ex 5), .ref (ex 6)])), ((a 1), .inl (T 1, 9, .inl (fi 0))), ((a 2), .inr (7, [.int (vi 7), .int (vi 8), .ref (ex 7), .ref (a 3), .ref (ex 8), .ref (ex 9), .ref (ex 10), .ref (ex 11), .ref (ex 12), .ref (ex 13), .ref (ex 14), .ref (ex 15)])), ((a 3), .inl (T 1, 9, .inl (fi 1)))] := hD
  have hl := lv_entry ([.ref (a 0), .int (vi 0)]) (n := 2) (Nat.le_of_ble_eq_true rfl)
  rw [lg_entry_eq]
  generalize (lg_sl ([.ref (a 0), .int (vi 0)]) ++ List.replicate (2 - (lg_sl ([.ref (a 0), .int (vi 0)])).length) Slot.unset).toArray = ls at hl ⊢
  replace hl : lv_has ls 2 [(0, .ref (a 0)), (1, .int (vi 0))] := hl
  refine lv_aload_n hx hb dX2_cost_0 rfl (lv_at hl 0 rfl) ?_
  refine lv_iload_n hx hb dX2_cost_1 rfl (lv_at hl 1 rfl) ?_
  have hPc := hP.sub (ws' := (pre_X2_hangedYet T (xa [(a 0), (a 1)]) (xa [(a 2), (ex 0), (ex 1), (ex 2), (ex 3), (ex 4), (ex 5), (ex 6)]) (xf [(fi 0)]) (xh []) (xv [(vi 0), (vi 1), (vi 2), (vi 3), (vi 4), (vi 5), (vi 6)]) (xl []))) [0, 1] rfl
  have hDc := hD.sub (ws' := (pre_X2_hangedYet T (xa [(a 0), (a 1)]) (xa [(a 2), (ex 0), (ex 1), (ex 2), (ex 3), (ex 4), (ex 5), (ex 6)]) (xf [(fi 0)]) (xh []) (xv [(vi 0), (vi 1), (vi 2), (vi 3), (vi 4), (vi 5), (vi 6)]) (xl []))) [0, 1] (by decide) rfl
  have hFc := va_free (wc := (pre_X2_hangedYet T (xa [(a 0), (a 1)]) (xa [(a 2), (ex 0), (ex 1), (ex 2), (ex 3), (ex 4), (ex 5), (ex 6)]) (xf [(fi 0)]) (xh []) (xv [(vi 0), (vi 1), (vi 2), (vi 3), (vi 4), (vi 5), (vi 6)]) (xl []))) hD hS hA [0, 1] rfl
  refine va_calli (va_runV (As := [.int (vi 0)]) (rest := []) ⟨hx, hb, hml, hown, htg⟩ (c_X2_hangedYet l D T (xa [(a 0), (a 1)]) (xa [(a 2), (ex 0), (ex 1), (ex 2), (ex 3), (ex 4), (ex 5), (ex 6)]) (xf [(fi 0)]) (xh []) (xv [(vi 0), (vi 1), (vi 2), (vi 3), (vi 4), (vi 5), (vi 6)]) (xl []) s.heap.size (by show 0 ≤ (vi 0).toInt ∧ (vi 0).toInt ≤ 8; omega) (by show 0 ≤ (vi 1).toInt ∧ (vi 1).toInt ≤ 200; omega) (by show 0 ≤ (vi 6).toInt ∧ (vi 6).toInt ≤ 9; omega)) ⟨callB_of 1 htg (xg_ok kw_751) rfl rfl rfl (htg _ kw_9) (htg _ kw_748) (by decide +kernel) ⟨by rw [hR]; exact Nat.le_of_ble_eq_true rfl, by rw [hR]; exact Nat.le_of_ble_eq_true rfl⟩, htg _ kw_750, htg _ ks_39⟩ (xpreV hK hPc hDc (va_recv hK.1 hPc (ci := 2) (q0 := 0) rfl rfl)) rfl rfl hl.1 rfl (lv_room (Nat.le_of_ble_eq_true rfl)) dX2_cost_2 ⟨by rw [hR]; exact Nat.le_of_ble_eq_true rfl, by rw [hR]; exact Nat.le_of_ble_eq_true rfl⟩) hS (fun q _ h => hFc q h) hFc (fun r9 u9 t H1 locs ht hvm hw hB hz1 hk1 hS => ?_)
  subst hw
  obtain ⟨fik, flk, vik, vlk, hP1, hD1, hG⟩ := hB
  rw [ht] at hP1
  obtain ⟨hP, hD⟩ := va_join (wr := [((a 2), .inr (7, [.int (vi 7), .int (vi 8), .ref (ex 7), .ref (a 3), .ref (ex 8), .ref (ex 9), .ref (ex 10), .ref (ex 11), .ref (ex 12), .ref (ex 13), .ref (ex 14), .ref (ex 15)])), ((a 3), .inl (T 1, 9, .inl (fi 1)))]) (w1 := [((a 0), .inr (2, [.ref (a 2), .int (vi 1), .int (vi 2), .int (vi 3), .int (vi 4), .int (vi 5), .int (vi 6), .ref (ex 0), .ref (ex 1), .ref (a 1), .ref (ex 2), .ref (ex 3), .ref (ex 4), .ref (ex 5), .ref (ex 6)])), ((a 1), .inl (T 1, 9, .inl (fi 0)))]) hP hD [0, 1] [2, 3] rfl rfl (by decide) (by decide) hk1 hFc hP1 hD1
  obtain ⟨rk, er9⟩ : ∃ z, z = r9 := ⟨_, rfl⟩
  subst er9
  clear hPc hDc hFc hP1 hD1 hk1 hz1 hvm ht
  generalize H1 = H at hP hS ⊢
  replace hP : va_P D vwCl [((a 2), .inr (7, [.int (vi 7), .int (vi 8), .ref (ex 7), .ref (a 3), .ref (ex 8), .ref (ex 9), .ref (ex 10), .ref (ex 11), .ref (ex 12), .ref (ex 13), .ref (ex 14), .ref (ex 15)])), ((a 3), .inl (T 1, 9, .inl (fi 1))), ((a 0), .inr (2, [.ref (a 2), .int (vi 1), .int (vi 2), .int (vi 3), .int (vi 4), .int (vi 5), .int (vi 6), .ref (ex 0), .ref (ex 1), .ref (a 1), .ref (ex 2), .ref (ex 3), .ref (ex 4), .ref (ex 5), .ref (ex 6)])), ((a 1), .inl (T 1, 9, .inl (fi 0)))] H := hP
  replace hD : va_D A [((a 2), .inr (7, [.int (vi 7), .int (vi 8), .ref (ex 7), .ref (a 3), .ref (ex 8), .ref (ex 9), .ref (ex 10), .ref (ex 11), .ref (ex 12), .ref (ex 13), .ref (ex 14), .ref (ex 15)])), ((a 3), .inl (T 1, 9, .inl (fi 1))), ((a 0), .inr (2, [.ref (a 2), .int (vi 1), .int (vi 2), .int (vi 3), .int (vi 4), .int (vi 5), .int (vi 6), .ref (ex 0), .ref (ex 1), .ref (a 1), .ref (ex 2), .ref (ex 3), .ref (ex 4), .ref (ex 5), .ref (ex 6)])), ((a 1), .inl (T 1, 9, .inl (fi 0)))] := hD
  clear hG
  refine lv_if_le (tgt := 22) hx hb dX2_cost_5 (by decide) (fun c5 => ?_) (fun c5 => ?_)
  · have c5 := xle (k := 0) (by decide) c5
    refine lv_aload_n hx hb dX2_cost_22 rfl (lv_at hl 0 rfl) ?_
    refine va_get (D := D) (ci := 2) (v := .ref (a 2)) (C := RX2) (T := TX2) (N := 15) hx hb htg inX2 hown hK.1 hP 2 rfl rfl 0 (by decide) (htg _ kw_245) (fun _ h9 => h9) rfl dX2_cost_23 ?_
    refine va_getN (D := D) (ci := 7) (v := .ref (a 3)) (C := RX7) (T := TX7) (N := 12) hx hb htg inX7 hown hK.1 hP 0 rfl rfl 3 (by decide) (va_Nw.use rfl (hK.2.1 _ kn_173)) (fun _ h9 => h9) rfl dX2_cost_26 ?_
    refine lv_iload_n hx hb dX2_cost_29 rfl (lv_at hl 1 rfl) ?_
    refine va_iald hx hb hK.1 hP 1 1 rfl rfl (vp_in_iff.mpr (by omega)) dX2_cost_30 ?_
    have hP9 := hP.sub (ws' := [((a 0), .inr (2, [.ref (a 2), .int (vi 1), .int (vi 2), .int (vi 3), .int (vi 4), .int (vi 5), .int (vi 6), .ref (ex 0), .ref (ex 1), .ref (a 1), .ref (ex 2), .ref (ex 3), .ref (ex 4), .ref (ex 5), .ref (ex 6)])), ((a 1), .inl (T 1, 9, .inl (fi 0))), ((a 2), .inr (7, [.int (vi 7), .int (vi 8), .ref (ex 7), .ref (a 3), .ref (ex 8), .ref (ex 9), .ref (ex 10), .ref (ex 11), .ref (ex 12), .ref (ex 13), .ref (ex 14), .ref (ex 15)])), ((a 3), .inl (T 1, 9, .inl (fi 1)))]) [2, 3, 0, 1] rfl
    have hD9 := hD.sub (ws' := [((a 0), .inr (2, [.ref (a 2), .int (vi 1), .int (vi 2), .int (vi 3), .int (vi 4), .int (vi 5), .int (vi 6), .ref (ex 0), .ref (ex 1), .ref (a 1), .ref (ex 2), .ref (ex 3), .ref (ex 4), .ref (ex 5), .ref (ex 6)])), ((a 1), .inl (T 1, 9, .inl (fi 0))), ((a 2), .inr (7, [.int (vi 7), .int (vi 8), .ref (ex 7), .ref (a 3), .ref (ex 8), .ref (ex 9), .ref (ex 10), .ref (ex 11), .ref (ex 12), .ref (ex 13), .ref (ex 14), .ref (ex 15)])), ((a 3), .inl (T 1, 9, .inl (fi 1)))]) [2, 3, 0, 1] (by decide +kernel) rfl
    rw [hQ]
    exact W.iret (v := ((fi 1) (vi 0).toNatClampNeg)) hx hb hr (fun t ht hW => ⟨⟨((fi 1) (vi 0).toNatClampNeg), ((fi 1) (vi 0).toNatClampNeg), rfl, rfl, xf [], xh [], xv [], xl [], by rw [ht]; exact hP9, hD9, trivial⟩, hS.F ht⟩) hS.2.2 dX2_cost_31
  · have c5 := xnle (k := 0) (by decide) c5
    refine lv_aload_n hx hb dX2_cost_8 rfl (lv_at hl 0 rfl) ?_
    refine va_get (D := D) (ci := 2) (v := .ref (a 2)) (C := RX2) (T := TX2) (N := 15) hx hb htg inX2 hown hK.1 hP 2 rfl rfl 0 (by decide) (htg _ kw_245) (fun _ h9 => h9) rfl dX2_cost_9 ?_
    refine va_getN (D := D) (ci := 7) (v := .ref (a 3)) (C := RX7) (T := TX7) (N := 12) hx hb htg inX7 hown hK.1 hP 0 rfl rfl 3 (by decide) (va_Nw.use rfl (hK.2.1 _ kn_173)) (fun _ h9 => h9) rfl dX2_cost_12 ?_
    refine lv_iload_n hx hb dX2_cost_15 rfl (lv_at hl 1 rfl) ?_
    refine va_iald hx hb hK.1 hP 1 1 rfl rfl (vp_in_iff.mpr (by omega)) dX2_cost_16 ?_
    refine lv_iconst (v := 2) hx hb dX2_cost_17 (by decide) ?_
    refine lv_idiv hx hb dX2_cost_18 (by decide) ?_
    refine lv_topi (fun z18 ez18 => ?_)
    refine lv_goto (tgt := 31) hx hb dX2_cost_19 (by decide) ?_
    have hP9 := hP.sub (ws' := [((a 0), .inr (2, [.ref (a 2), .int (vi 1), .int (vi 2), .int (vi 3), .int (vi 4), .int (vi 5), .int (vi 6), .ref (ex 0), .ref (ex 1), .ref (a 1), .ref (ex 2), .ref (ex 3), .ref (ex 4), .ref (ex 5), .ref (ex 6)])), ((a 1), .inl (T 1, 9, .inl (fi 0))), ((a 2), .inr (7, [.int (vi 7), .int (vi 8), .ref (ex 7), .ref (a 3), .ref (ex 8), .ref (ex 9), .ref (ex 10), .ref (ex 11), .ref (ex 12), .ref (ex 13), .ref (ex 14), .ref (ex 15)])), ((a 3), .inl (T 1, 9, .inl (fi 1)))]) [2, 3, 0, 1] rfl
    have hD9 := hD.sub (ws' := [((a 0), .inr (2, [.ref (a 2), .int (vi 1), .int (vi 2), .int (vi 3), .int (vi 4), .int (vi 5), .int (vi 6), .ref (ex 0), .ref (ex 1), .ref (a 1), .ref (ex 2), .ref (ex 3), .ref (ex 4), .ref (ex 5), .ref (ex 6)])), ((a 1), .inl (T 1, 9, .inl (fi 0))), ((a 2), .inr (7, [.int (vi 7), .int (vi 8), .ref (ex 7), .ref (a 3), .ref (ex 8), .ref (ex 9), .ref (ex 10), .ref (ex 11), .ref (ex 12), .ref (ex 13), .ref (ex 14), .ref (ex 15)])), ((a 3), .inl (T 1, 9, .inl (fi 1)))]) [2, 3, 0, 1] (by decide +kernel) rfl
    rw [hQ]
    exact W.iret (v := z18) hx hb hr (fun t ht hW => ⟨⟨z18, z18, rfl, rfl, xf [], xh [], xv [], xl [], by rw [ht]; exact hP9, hD9, trivial⟩, hS.F ht⟩) hS.2.2 dX2_cost_31
abbrev pre_X2_leaveQueue (T : Nat → ClassId) (a ex : Nat → Nat) (fi : Nat → Nat → Int32) (fl : Nat → Nat → Int64) (vi : Nat → Int32) (vl : Nat → Int64) : va_W := [((a 0), .inr (2, [.ref (ex 0), .int (vi 1), .int (vi 2), .int (vi 3), .int (vi 4), .int (vi 5), .int (vi 6), .ref (ex 1), .ref (ex 2), .ref (ex 3), .ref (ex 4), .ref (ex 5), .ref (ex 6), .ref (a 1), .ref (ex 7)])), ((a 1), .inl (T 1, 9, .inl (fi 0)))]
set_option maxHeartbeats 8000000 in
set_option maxRecDepth 100000 in
theorem c_X2_leaveQueue (l : Launch) (D : va_G) (T : Nat → ClassId) (a ex : Nat → Nat) (fi : Nat → Nat → Int32) (fl : Nat → Nat → Int64) (vi : Nat → Int32) (vl : Nat → Int64) (sz : Nat) (hp0 : 0 ≤ (vi 1).toInt ∧ (vi 1).toInt ≤ 200) (hp1 : 0 ≤ (vi 6).toInt ∧ (vi 6).toInt ≤ 9) (hp2 : rg (fi 0) 0 9 0 8) : Met l yX2_leaveQueue (xw yX2_leaveQueue cX2_leaveQueue 3 none) ({ frames := 1, cells := 0, slots := 0, locals := 120 }) (xP D T [.ref (a 0), .int (vi 0)] sz (pre_X2_leaveQueue T a ex fi fl vi vl)) (va_Qv (fun _ : Int32 => True) (xC D (va_A (pre_X2_leaveQueue T a ex fi fl vi vl) sz) (fun fj fm vj vm => [((a 0), .inr (2, [.ref (ex 0), .int (vi 1), .int (vi 2), .int (vi 3), .int (vi 4), .int (vi 5), .int (vj 0), .ref (ex 1), .ref (ex 2), .ref (ex 3), .ref (ex 4), .ref (ex 5), .ref (ex 6), .ref (a 1), .ref (ex 7)])), ((a 1), .inl (T 1, 9, .inl (fj 0)))]) (fun (r : Int32) (fj : Nat → Nat → Int32) (fm : Nat → Nat → Int64) (vj : Nat → Int32) (vm : Nat → Int64) => (0 ≤ (vj 0).toInt ∧ (vj 0).toInt ≤ 9) ∧ rg (fj 0) 0 9 0 8 ∧ True)) (va_A (pre_X2_leaveQueue T a ex fi fl vi vl) sz)) 0 0 (va_A (pre_X2_leaveQueue T a ex fi fl vi vl) sz) := by
  refine xofW (cc := cX2_leaveQueue) (maxL := 3) (ret := none) (by decide) rfl ?_
  intro p e s m args below meth c s₁ R Q hR hQ B hml hv
  obtain ⟨rfl, hsz, hP, hK, hD0⟩ := hv
  have hx := B.exec
  have hb := B.bytes
  have hr := B.returns
  have hts := atoms_spec (ws := xw yX2_leaveQueue cX2_leaveQueue 3 none) B.pre
  have htg : ∀ w ∈ xg, w.before _ s = true := fun w h => hts w (List.mem_cons_of_mem _ h)
  have hown : s.vm.findClass RX2 = some m.cls := findClass_of_methodNamed B.named
  have hlocks := B.notSynchronized
  subst hsz
  have hD := hD0.self (sz := s.heap.size)
  generalize hAe : va_A (pre_X2_leaveQueue T a ex fi fl vi vl) s.heap.size = A at hD hQ
  have hA : ∀ q : Nat, s.heap.size ≤ q → A q := fun q h => by rw [← hAe]; exact Or.inr h
  have hS : va_S A s.heap s.heap [] := va_S.rf
  replace hP : va_P D vwCl [((a 0), .inr (2, [.ref (ex 0), .int (vi 1), .int (vi 2), .int (vi 3), .int (vi 4), .int (vi 5), .int (vi 6), .ref (ex 1), .ref (ex 2), .ref (ex 3), .ref (ex 4), .ref (ex 5), .ref (ex 6), .ref (a 1), .ref (ex 7)])), ((a 1), .inl (T 1, 9, .inl (fi 0)))] s.heap := hP
  replace hD : va_D A [((a 0), .inr (2, [.ref (ex 0), .int (vi 1), .int (vi 2), .int (vi 3), .int (vi 4), .int (vi 5), .int (vi 6), .ref (ex 1), .ref (ex 2), .ref (ex 3), .ref (ex 4), .ref (ex 5), .ref (ex 6), .ref (a 1), .ref (ex 7)])), ((a 1), .inl (T 1, 9, .inl (fi 0)))] := hD
  have hl := lv_entry ([.ref (a 0), .int (vi 0)]) (n := 3) (Nat.le_of_ble_eq_true rfl)
  rw [lg_entry_eq]
  generalize (lg_sl ([.ref (a 0), .int (vi 0)]) ++ List.replicate (3 - (lg_sl ([.ref (a 0), .int (vi 0)])).length) Slot.unset).toArray = ls at hl ⊢
  replace hl : lv_has ls 3 [(0, .ref (a 0)), (1, .int (vi 0))] := hl
  refine lv_aload_n hx hb dX2_leaveQueue_0 rfl (lv_at hl 0 rfl) ?_
  refine lv_iload_n hx hb dX2_leaveQueue_1 rfl (lv_at hl 1 rfl) ?_
  have hPc := hP.sub (ws' := (pre_X2_waitAhead T (xa [(a 0), (a 1)]) (xa [(ex 0), (ex 1), (ex 2), (ex 3), (ex 4), (ex 5), (ex 6), (ex 7)]) (xf [(fi 0)]) (xh []) (xv [(vi 0), (vi 1), (vi 2), (vi 3), (vi 4), (vi 5), (vi 6)]) (xl []))) [0, 1] rfl
  have hDc := hD.sub (ws' := (pre_X2_waitAhead T (xa [(a 0), (a 1)]) (xa [(ex 0), (ex 1), (ex 2), (ex 3), (ex 4), (ex 5), (ex 6), (ex 7)]) (xf [(fi 0)]) (xh []) (xv [(vi 0), (vi 1), (vi 2), (vi 3), (vi 4), (vi 5), (vi 6)]) (xl []))) [0, 1] (by decide) rfl
  have hFc := va_free (wc := (pre_X2_waitAhead T (xa [(a 0), (a 1)]) (xa [(ex 0), (ex 1), (ex 2), (ex 3), (ex 4), (ex 5), (ex 6), (ex 7)]) (xf [(fi 0)]) (xh []) (xv [(vi 0), (vi 1), (vi 2), (vi 3), (vi 4), (vi 5), (vi 6)]) (xl []))) hD hS hA [0, 1] rfl
  refine va_calli (va_runV (As := [.int (vi 0)]) (rest := []) ⟨hx, hb, hml, hown, htg⟩ (c_X2_waitAhead l D T (xa [(a 0), (a 1)]) (xa [(ex 0), (ex 1), (ex 2), (ex 3), (ex 4), (ex 5), (ex 6), (ex 7)]) (xf [(fi 0)]) (xh []) (xv [(vi 0), (vi 1), (vi 2), (vi 3), (vi 4), (vi 5), (vi 6)]) (xl []) s.heap.size (by show 0 ≤ (vi 1).toInt ∧ (vi 1).toInt ≤ 200; omega) (by show 0 ≤ (vi 6).toInt ∧ (vi 6).toInt ≤ 9; omega) (show rg (fi 0) 0 9 0 8 from hp2)) ⟨callB_of 1 htg (xg_ok kw_801) rfl rfl rfl (htg _ kw_9) (htg _ kw_798) (by decide +kernel) ⟨by rw [hR]; exact Nat.le_of_ble_eq_true rfl, by rw [hR]; exact Nat.le_of_ble_eq_true rfl⟩, htg _ kw_800, htg _ ks_46⟩ (xpreV hK hPc hDc (va_recv hK.1 hPc (ci := 2) (q0 := 0) rfl rfl)) rfl rfl hl.1 rfl (lv_room (Nat.le_of_ble_eq_true rfl)) dX2_leaveQueue_2 ⟨by rw [hR]; exact Nat.le_of_ble_eq_true rfl, by rw [hR]; exact Nat.le_of_ble_eq_true rfl⟩) hS (fun q _ h => hFc q h) hFc (fun r9 u9 t H1 locs ht hvm hw hB hz1 hk1 hS => ?_)
  subst hw
  obtain ⟨fik, flk, vik, vlk, hP1, hD1, hG⟩ := hB
  rw [ht] at hP1
  obtain ⟨hP, hD⟩ := va_join (wr := []) (w1 := [((a 0), .inr (2, [.ref (ex 0), .int (vi 1), .int (vi 2), .int (vi 3), .int (vi 4), .int (vi 5), .int (vi 6), .ref (ex 1), .ref (ex 2), .ref (ex 3), .ref (ex 4), .ref (ex 5), .ref (ex 6), .ref (a 1), .ref (ex 7)])), ((a 1), .inl (T 1, 9, .inl (fi 0)))]) hP hD [0, 1] [] rfl rfl (by decide) (by decide) hk1 hFc hP1 hD1
  obtain ⟨rk, er9⟩ : ∃ z, z = r9 := ⟨_, rfl⟩
  subst er9
  clear hPc hDc hFc hP1 hD1 hk1 hz1 hvm ht
  generalize H1 = H at hP hS ⊢
  replace hP : va_P D vwCl [((a 0), .inr (2, [.ref (ex 0), .int (vi 1), .int (vi 2), .int (vi 3), .int (vi 4), .int (vi 5), .int (vi 6), .ref (ex 1), .ref (ex 2), .ref (ex 3), .ref (ex 4), .ref (ex 5), .ref (ex 6), .ref (a 1), .ref (ex 7)])), ((a 1), .inl (T 1, 9, .inl (fi 0)))] H := hP
  replace hD : va_D A [((a 0), .inr (2, [.ref (ex 0), .int (vi 1), .int (vi 2), .int (vi 3), .int (vi 4), .int (vi 5), .int (vi 6), .ref (ex 1), .ref (ex 2), .ref (ex 3), .ref (ex 4), .ref (ex 5), .ref (ex 6), .ref (a 1), .ref (ex 7)])), ((a 1), .inl (T 1, 9, .inl (fi 0)))] := hD
  obtain ⟨gk_0, -⟩ := hG
  replace gk_0 : -1 ≤ rk.toInt ∧ rk.toInt ≤ 8 ∧ (rk.toInt < (vi 6).toInt) := gk_0
  refine lv_istore_n (lv' := [(2, .int rk), (0, .ref (a 0)), (1, .int (vi 0))]) hx hb dX2_leaveQueue_5 rfl hl (by decide) rfl (fun ls hl => ?_)
  refine lv_iload_n hx hb dX2_leaveQueue_6 rfl (lv_at hl 0 rfl) ?_
  refine lv_iconst (v := (-1)) hx hb dX2_leaveQueue_7 (by decide) ?_
  refine lv_icmp_eq (tgt := 44) hx hb dX2_leaveQueue_8 (by decide) (fun c8 => ?_) (fun c8 => ?_)
  · have c8 := xeq (k := (-1)) (by decide) c8
    have hP9 := hP.sub (ws' := [((a 0), .inr (2, [.ref (ex 0), .int (vi 1), .int (vi 2), .int (vi 3), .int (vi 4), .int (vi 5), .int (vi 6), .ref (ex 1), .ref (ex 2), .ref (ex 3), .ref (ex 4), .ref (ex 5), .ref (ex 6), .ref (a 1), .ref (ex 7)])), ((a 1), .inl (T 1, 9, .inl (fi 0)))]) [0, 1] rfl
    have hD9 := hD.sub (ws' := [((a 0), .inr (2, [.ref (ex 0), .int (vi 1), .int (vi 2), .int (vi 3), .int (vi 4), .int (vi 5), .int (vi 6), .ref (ex 1), .ref (ex 2), .ref (ex 3), .ref (ex 4), .ref (ex 5), .ref (ex 6), .ref (a 1), .ref (ex 7)])), ((a 1), .inl (T 1, 9, .inl (fi 0)))]) [0, 1] (by decide +kernel) rfl
    rw [hQ]
    exact W.vret hx hb hr (fun t ht hW => ⟨⟨(0 : Int32), rfl, trivial, xf [(fi 0)], xh [], xv [(vi 6)], xl [], by rw [ht]; exact hP9, hD9, ⟨(by show 0 ≤ (vi 6).toInt ∧ (vi 6).toInt ≤ 9; omega), (show rg (fi 0) 0 9 0 8 from hp2), trivial⟩⟩, hS.F ht⟩) hS.2.2 dX2_leaveQueue_44
  · have c8 := xne (k := (-1)) (by decide) c8
    refine lv_aload_n hx hb dX2_leaveQueue_11 rfl (lv_at hl 1 rfl) ?_
    refine va_get (D := D) (ci := 2) (v := .ref (a 1)) (C := RX2) (T := TX2) (N := 15) hx hb htg inX2 hown hK.1 hP 0 rfl rfl 13 (by decide) (htg _ kw_278) (fun _ h9 => h9) rfl dX2_leaveQueue_12 ?_
    refine lv_iload_n hx hb dX2_leaveQueue_15 rfl (lv_at hl 0 rfl) ?_
    refine lv_iconst (v := 1) hx hb dX2_leaveQueue_16 (by decide) ?_
    refine lv_iadd hx hb dX2_leaveQueue_17 ?_
    refine lv_topi (fun z17 ez17 => ?_)
    have tz17 : z17.toInt = rk.toInt + 1 := by rw [ez17]; exact xadd rfl (by decide) (by omega) (by omega)
    refine lv_aload_n hx hb dX2_leaveQueue_18 rfl (lv_at hl 1 rfl) ?_
    refine va_get (D := D) (ci := 2) (v := .ref (a 1)) (C := RX2) (T := TX2) (N := 15) hx hb htg inX2 hown hK.1 hP 0 rfl rfl 13 (by decide) (htg _ kw_278) (fun _ h9 => h9) rfl dX2_leaveQueue_19 ?_
    refine lv_iload_n hx hb dX2_leaveQueue_22 rfl (lv_at hl 0 rfl) ?_
    refine lv_aload_n hx hb dX2_leaveQueue_23 rfl (lv_at hl 1 rfl) ?_
    refine va_get (D := D) (ci := 2) (v := .int (vi 6)) (C := RX2) (T := TX2) (N := 15) hx hb htg inX2 hown hK.1 hP 0 rfl rfl 6 (by decide) (htg _ kw_257) (fun _ h9 => h9) rfl dX2_leaveQueue_24 ?_
    refine lv_iload_n hx hb dX2_leaveQueue_27 rfl (lv_at hl 0 rfl) ?_
    refine lv_isub hx hb dX2_leaveQueue_28 ?_
    refine lv_topi (fun z28 ez28 => ?_)
    have tz28 : z28.toInt = (vi 6).toInt - rk.toInt := by rw [ez28]; exact xsub rfl rfl (by omega) (by omega)
    refine lv_iconst (v := 1) hx hb dX2_leaveQueue_29 (by decide) ?_
    refine lv_isub hx hb dX2_leaveQueue_30 ?_
    refine lv_topi (fun z30 ez30 => ?_)
    have tz30 : z30.toInt = z28.toInt - 1 := by rw [ez30]; exact xsub rfl (by decide) (by omega) (by omega)
    refine va_copyi hx hb (hml.trans hl.1.symm) hown (htg _ kw_850) (htg _ kw_711) (htg _ kw_710) (htg _ kw_19) hK.1 hP hD hS 1 1 1 1 rfl rfl rfl rfl rfl (xn0 (by omega)) (xn0 (by omega)) (xn0 (by omega)) (xcl2 (by omega) (by omega) (by omega)) (xcl2 (by omega) (by omega) (by omega)) (fun _ _ => rfl) (by rw [hR]; exact Nat.le_of_ble_eq_true rfl) (by rw [hR]; exact Nat.le_of_ble_eq_true rfl) dX2_leaveQueue_31 (fun H locs hP hD hS => ?_)
    obtain ⟨f31, ef31, hP, hD⟩ : ∃ f7 : Nat → Int32, f7 = va_cpy (fi 0) (fi 0) z17.toNatClampNeg rk.toNatClampNeg z30.toNatClampNeg ∧ va_P D vwCl [((a 0), .inr (2, [.ref (ex 0), .int (vi 1), .int (vi 2), .int (vi 3), .int (vi 4), .int (vi 5), .int (vi 6), .ref (ex 1), .ref (ex 2), .ref (ex 3), .ref (ex 4), .ref (ex 5), .ref (ex 6), .ref (a 1), .ref (ex 7)])), ((a 1), .inl (T 1, 9, .inl f7))] H ∧ va_D A [((a 0), .inr (2, [.ref (ex 0), .int (vi 1), .int (vi 2), .int (vi 3), .int (vi 4), .int (vi 5), .int (vi 6), .ref (ex 1), .ref (ex 2), .ref (ex 3), .ref (ex 4), .ref (ex 5), .ref (ex 6), .ref (a 1), .ref (ex 7)])), ((a 1), .inl (T 1, 9, .inl f7))] := ⟨_, rfl, hP, hD⟩
    have hr31 : rg f31 0 9 0 8 := by rw [ef31]; exact rg_cpy hp2 hp2 (by omega) (by omega) (by omega) (by omega)
    refine lv_aload_n hx hb dX2_leaveQueue_34 rfl (lv_at hl 1 rfl) ?_
    refine lv_dup hx hb dX2_leaveQueue_35 rfl ?_
    refine va_get (D := D) (ci := 2) (v := .int (vi 6)) (C := RX2) (T := TX2) (N := 15) hx hb htg inX2 hown hK.1 hP 0 rfl rfl 6 (by decide) (htg _ kw_257) (fun _ h9 => h9) rfl dX2_leaveQueue_36 ?_
    refine lv_iconst (v := 1) hx hb dX2_leaveQueue_39 (by decide) ?_
    refine lv_isub hx hb dX2_leaveQueue_40 ?_
    refine lv_topi (fun z40 ez40 => ?_)
    have tz40 : z40.toInt = (vi 6).toInt - 1 := by rw [ez40]; exact xsub rfl (by decide) (by omega) (by omega)
    refine va_put (D := D) (ci := 2) (v := .int z40) (ty := .int) (C := RX2) (T := TX2) (N := 15) hx hb htg inX2 tyX2 tyX2_ok nmX2 hown hK.1 hP hD hS 0 rfl rfl 6 (by decide) (htg _ kw_257) (fun _ h9 => h9) rfl (by decide +kernel) rfl rfl (Nat.le_of_ble_eq_true rfl) dX2_leaveQueue_41 (fun H locs hP hD hS => ?_)
    replace hP : va_P D vwCl [((a 0), .inr (2, [.ref (ex 0), .int (vi 1), .int (vi 2), .int (vi 3), .int (vi 4), .int (vi 5), .int z40, .ref (ex 1), .ref (ex 2), .ref (ex 3), .ref (ex 4), .ref (ex 5), .ref (ex 6), .ref (a 1), .ref (ex 7)])), ((a 1), .inl (T 1, 9, .inl f31))] H := hP
    replace hD : va_D A [((a 0), .inr (2, [.ref (ex 0), .int (vi 1), .int (vi 2), .int (vi 3), .int (vi 4), .int (vi 5), .int z40, .ref (ex 1), .ref (ex 2), .ref (ex 3), .ref (ex 4), .ref (ex 5), .ref (ex 6), .ref (a 1), .ref (ex 7)])), ((a 1), .inl (T 1, 9, .inl f31))] := hD
    have hP9 := hP.sub (ws' := [((a 0), .inr (2, [.ref (ex 0), .int (vi 1), .int (vi 2), .int (vi 3), .int (vi 4), .int (vi 5), .int z40, .ref (ex 1), .ref (ex 2), .ref (ex 3), .ref (ex 4), .ref (ex 5), .ref (ex 6), .ref (a 1), .ref (ex 7)])), ((a 1), .inl (T 1, 9, .inl f31))]) [0, 1] rfl
    have hD9 := hD.sub (ws' := [((a 0), .inr (2, [.ref (ex 0), .int (vi 1), .int (vi 2), .int (vi 3), .int (vi 4), .int (vi 5), .int z40, .ref (ex 1), .ref (ex 2), .ref (ex 3), .ref (ex 4), .ref (ex 5), .ref (ex 6), .ref (a 1), .ref (ex 7)])), ((a 1), .inl (T 1, 9, .inl f31))]) [0, 1] (by decide +kernel) rfl
    rw [hQ]
    exact W.vret hx hb hr (fun t ht hW => ⟨⟨(0 : Int32), rfl, trivial, xf [f31], xh [], xv [z40], xl [], by rw [ht]; exact hP9, hD9, ⟨(by show 0 ≤ z40.toInt ∧ z40.toInt ≤ 9; omega), (show rg f31 0 9 0 8 from hr31), trivial⟩⟩, hS.F ht⟩) hS.2.2 dX2_leaveQueue_44
abbrev pre_X2_hasChanged (T : Nat → ClassId) (a ex : Nat → Nat) (fi : Nat → Nat → Int32) (fl : Nat → Nat → Int64) (vi : Nat → Int32) (vl : Nat → Int64) : va_W := [((a 0), .inr (2, [.ref (ex 0), .int (vi 1), .int (vi 2), .int (vi 3), .int (vi 4), .int (vi 5), .int (vi 6), .ref (ex 1), .ref (ex 2), .ref (ex 3), .ref (ex 4), .ref (ex 5), .ref (ex 6), .ref (ex 7), .ref (ex 8)]))]
set_option maxHeartbeats 8000000 in
set_option maxRecDepth 100000 in
theorem c_X2_hasChanged (l : Launch) (D : va_G) (T : Nat → ClassId) (a ex : Nat → Nat) (fi : Nat → Nat → Int32) (fl : Nat → Nat → Int64) (vi : Nat → Int32) (vl : Nat → Int64) (sz : Nat) (hp0 : 0 ≤ (vi 1).toInt ∧ (vi 1).toInt ≤ 200) (hp1 : 0 ≤ (vi 6).toInt ∧ (vi 6).toInt ≤ 9) : Met l yX2_hasChanged (xw yX2_hasChanged cX2_hasChanged 2 (some .boolean)) ({ frames := 1, cells := 0, slots := 0, locals := 25 }) (xP D T [.ref (a 0), .int (vi 0)] sz (pre_X2_hasChanged T a ex fi fl vi vl)) (va_Qi (fun r u => r = u) (xC D (va_A (pre_X2_hasChanged T a ex fi fl vi vl) sz) (fun fj fm vj vm => [((a 0), .inr (2, [.ref (ex 0), .int (vi 1), .int (vi 2), .int (vi 3), .int (vi 4), .int (vi 5), .int (vi 6), .ref (ex 1), .ref (ex 2), .ref (ex 3), .ref (ex 4), .ref (ex 5), .ref (ex 6), .ref (ex 7), .ref (ex 8)]))]) (fun (r : Int32) (fj : Nat → Nat → Int32) (fm : Nat → Nat → Int64) (vj : Nat → Int32) (vm : Nat → Int64) => ((r = 1 ∧ (True)) ∨ (r = 0 ∧ (True))) ∧ True)) (va_A (pre_X2_hasChanged T a ex fi fl vi vl) sz)) 0 0 (va_A (pre_X2_hasChanged T a ex fi fl vi vl) sz) := by
  refine xofW (cc := cX2_hasChanged) (maxL := 2) (ret := (some .boolean)) (by decide) rfl ?_
  intro p e s m args below meth c s₁ R Q hR hQ B hml hv
  obtain ⟨rfl, hsz, hP, hK, hD0⟩ := hv
  have hx := B.exec
  have hb := B.bytes
  have hr := B.returns
  have hts := atoms_spec (ws := xw yX2_hasChanged cX2_hasChanged 2 (some .boolean)) B.pre
  have htg : ∀ w ∈ xg, w.before _ s = true := fun w h => hts w (List.mem_cons_of_mem _ h)
  have hown : s.vm.findClass RX2 = some m.cls := findClass_of_methodNamed B.named
  have hlocks := B.notSynchronized
  subst hsz
  have hD := hD0.self (sz := s.heap.size)
  generalize hAe : va_A (pre_X2_hasChanged T a ex fi fl vi vl) s.heap.size = A at hD hQ
  have hA : ∀ q : Nat, s.heap.size ≤ q → A q := fun q h => by rw [← hAe]; exact Or.inr h
  have hS : va_S A s.heap s.heap [] := va_S.rf
  replace hP : va_P D vwCl [((a 0), .inr (2, [.ref (ex 0), .int (vi 1), .int (vi 2), .int (vi 3), .int (vi 4), .int (vi 5), .int (vi 6), .ref (ex 1), .ref (ex 2), .ref (ex 3), .ref (ex 4), .ref (ex 5), .ref (ex 6), .ref (ex 7), .ref (ex 8)]))] s.heap := hP
  replace hD : va_D A [((a 0), .inr (2, [.ref (ex 0), .int (vi 1), .int (vi 2), .int (vi 3), .int (vi 4), .int (vi 5), .int (vi 6), .ref (ex 1), .ref (ex 2), .ref (ex 3), .ref (ex 4), .ref (ex 5), .ref (ex 6), .ref (ex 7), .ref (ex 8)]))] := hD
  have hl := lv_entry ([.ref (a 0), .int (vi 0)]) (n := 2) (Nat.le_of_ble_eq_true rfl)
  rw [lg_entry_eq]
  generalize (lg_sl ([.ref (a 0), .int (vi 0)]) ++ List.replicate (2 - (lg_sl ([.ref (a 0), .int (vi 0)])).length) Slot.unset).toArray = ls at hl ⊢
  replace hl : lv_has ls 2 [(0, .ref (a 0)), (1, .int (vi 0))] := hl
  refine lv_aload_n hx hb dX2_hasChanged_0 rfl (lv_at hl 0 rfl) ?_
  refine va_get (D := D) (ci := 2) (v := .int (vi 3)) (C := RX2) (T := TX2) (N := 15) hx hb htg inX2 hown hK.1 hP 0 rfl rfl 3 (by decide) (htg _ kw_252) (fun _ h9 => h9) rfl dX2_hasChanged_1 ?_
  refine lv_iload_n hx hb dX2_hasChanged_4 rfl (lv_at hl 1 rfl) ?_
  have hPc := hP.sub (ws' := (pre_X11_hasBit T (xa []) (xa []) (xf []) (xh []) (xv [(vi 3), (vi 0)]) (xl []))) [] rfl
  have hDc := hD.sub (ws' := (pre_X11_hasBit T (xa []) (xa []) (xf []) (xh []) (xv [(vi 3), (vi 0)]) (xl []))) [] (by decide) rfl
  have hFc := va_free (wc := (pre_X11_hasBit T (xa []) (xa []) (xf []) (xh []) (xv [(vi 3), (vi 0)]) (xl []))) hD hS hA [] rfl
  refine va_calli (va_runSN (As := [.int (vi 3), .int (vi 0)]) (rest := []) ⟨hx, hb, hml, hown, htg⟩ (c_X11_hasBit l D T (xa []) (xa []) (xf []) (xh []) (xv [(vi 3), (vi 0)]) (xl []) s.heap.size) ⟨va_cnB 2 htg (xg_ok kw_758) rfl rfl rfl (hK.2.1 _ kn_756) (htg _ kw_1) (by decide +kernel) ⟨by rw [hR]; exact Nat.le_of_ble_eq_true rfl, by rw [hR]; exact Nat.le_of_ble_eq_true rfl⟩, htg _ kw_757, trivial⟩ (xpreS hK hPc hDc) rfl rfl hl.1 rfl (lv_room (Nat.le_of_ble_eq_true rfl)) dX2_hasChanged_5 ⟨by rw [hR]; exact Nat.le_of_ble_eq_true rfl, by rw [hR]; exact Nat.le_of_ble_eq_true rfl⟩) hS (fun q _ h => hFc q h) hFc (fun r9 u9 t H1 locs ht hvm hw hB hz1 hk1 hS => ?_)
  subst hw
  obtain ⟨fik, flk, vik, vlk, hP1, hD1, hG⟩ := hB
  rw [ht] at hP1
  obtain ⟨hP, hD⟩ := va_join (wr := [((a 0), .inr (2, [.ref (ex 0), .int (vi 1), .int (vi 2), .int (vi 3), .int (vi 4), .int (vi 5), .int (vi 6), .ref (ex 1), .ref (ex 2), .ref (ex 3), .ref (ex 4), .ref (ex 5), .ref (ex 6), .ref (ex 7), .ref (ex 8)]))]) (w1 := []) hP hD [] [0] rfl rfl (by decide) (by decide) hk1 hFc hP1 hD1
  obtain ⟨rk, er9⟩ : ∃ z, z = r9 := ⟨_, rfl⟩
  subst er9
  clear hPc hDc hFc hP1 hD1 hk1 hz1 hvm ht
  generalize H1 = H at hP hS ⊢
  replace hP : va_P D vwCl [((a 0), .inr (2, [.ref (ex 0), .int (vi 1), .int (vi 2), .int (vi 3), .int (vi 4), .int (vi 5), .int (vi 6), .ref (ex 1), .ref (ex 2), .ref (ex 3), .ref (ex 4), .ref (ex 5), .ref (ex 6), .ref (ex 7), .ref (ex 8)]))] H := hP
  replace hD : va_D A [((a 0), .inr (2, [.ref (ex 0), .int (vi 1), .int (vi 2), .int (vi 3), .int (vi 4), .int (vi 5), .int (vi 6), .ref (ex 1), .ref (ex 2), .ref (ex 3), .ref (ex 4), .ref (ex 5), .ref (ex 6), .ref (ex 7), .ref (ex 8)]))] := hD
  obtain ⟨gk_0, -⟩ := hG
  rcases (show (rk = 1 ∧ (True)) ∨ (rk = 0 ∧ (True)) from gk_0) with ⟨er9, gk_0⟩ | ⟨er9, gk_0⟩
  · refine xz_i 1 er9 ?_
    have hP9 := hP.sub (ws' := [((a 0), .inr (2, [.ref (ex 0), .int (vi 1), .int (vi 2), .int (vi 3), .int (vi 4), .int (vi 5), .int (vi 6), .ref (ex 1), .ref (ex 2), .ref (ex 3), .ref (ex 4), .ref (ex 5), .ref (ex 6), .ref (ex 7), .ref (ex 8)]))]) [0] rfl
    have hD9 := hD.sub (ws' := [((a 0), .inr (2, [.ref (ex 0), .int (vi 1), .int (vi 2), .int (vi 3), .int (vi 4), .int (vi 5), .int (vi 6), .ref (ex 1), .ref (ex 2), .ref (ex 3), .ref (ex 4), .ref (ex 5), .ref (ex 6), .ref (ex 7), .ref (ex 8)]))]) [0] (by decide +kernel) rfl
    rw [hQ]
    exact W.zret (v := 1) hx hb hr rfl (fun t ht hW => ⟨⟨1, 1, rfl, rfl, xf [], xh [], xv [], xl [], by rw [ht]; exact hP9, hD9, ⟨(Or.inl ⟨rfl, by show True; first | trivial | omega⟩), trivial⟩⟩, hS.F ht⟩) hS.2.2 dX2_hasChanged_8
  · refine xz_i 0 er9 ?_
    have hP9 := hP.sub (ws' := [((a 0), .inr (2, [.ref (ex 0), .int (vi 1), .int (vi 2), .int (vi 3), .int (vi 4), .int (vi 5), .int (vi 6), .ref (ex 1), .ref (ex 2), .ref (ex 3), .ref (ex 4), .ref (ex 5), .ref (ex 6), .ref (ex 7), .ref (ex 8)]))]) [0] rfl
    have hD9 := hD.sub (ws' := [((a 0), .inr (2, [.ref (ex 0), .int (vi 1), .int (vi 2), .int (vi 3), .int (vi 4), .int (vi 5), .int (vi 6), .ref (ex 1), .ref (ex 2), .ref (ex 3), .ref (ex 4), .ref (ex 5), .ref (ex 6), .ref (ex 7), .ref (ex 8)]))]) [0] (by decide +kernel) rfl
    rw [hQ]
    exact W.zret (v := 0) hx hb hr rfl (fun t ht hW => ⟨⟨0, 0, rfl, rfl, xf [], xh [], xv [], xl [], by rw [ht]; exact hP9, hD9, ⟨(Or.inr ⟨rfl, by show True; first | trivial | omega⟩), trivial⟩⟩, hS.F ht⟩) hS.2.2 dX2_hasChanged_8
abbrev pre_X2_whyNotSwap (T : Nat → ClassId) (a ex : Nat → Nat) (fi : Nat → Nat → Int32) (fl : Nat → Nat → Int64) (vi : Nat → Int32) (vl : Nat → Int64) : va_W := [((a 0), .inr (2, [.ref (ex 0), .int (vi 2), .int (vi 3), .int (vi 4), .int (vi 5), .int (vi 6), .int (vi 7), .ref (ex 1), .ref (ex 2), .ref (ex 3), .ref (a 1), .ref (ex 4), .ref (ex 5), .ref (ex 6), .ref (ex 7)])), ((a 1), .inl (T 1, 9, .inl (fi 0)))]
set_option maxHeartbeats 8000000 in
set_option maxRecDepth 100000 in
theorem c_X2_whyNotSwap (l : Launch) (D : va_G) (T : Nat → ClassId) (a ex : Nat → Nat) (fi : Nat → Nat → Int32) (fl : Nat → Nat → Int64) (vi : Nat → Int32) (vl : Nat → Int64) (sz : Nat) (hp0 : 0 ≤ (vi 0).toInt ∧ (vi 0).toInt ≤ 8) (hp1 : 0 ≤ (vi 1).toInt ∧ (vi 1).toInt ≤ 8) (hp2 : 0 ≤ (vi 2).toInt ∧ (vi 2).toInt ≤ 200) (hp3 : 0 ≤ (vi 7).toInt ∧ (vi 7).toInt ≤ 9) (hp4 : rg (fi 0) 0 9 (-1) 8) : Met l yX2_whyNotSwap (xw yX2_whyNotSwap cX2_whyNotSwap 3 (some .int)) ({ frames := 2, cells := 0, slots := 0, locals := 50 }) (xP D T [.ref (a 0), .int (vi 0), .int (vi 1)] sz (pre_X2_whyNotSwap T a ex fi fl vi vl)) (va_Qi (fun r u => r = u) (xC D (va_A (pre_X2_whyNotSwap T a ex fi fl vi vl) sz) (fun fj fm vj vm => [((a 0), .inr (2, [.ref (ex 0), .int (vi 2), .int (vi 3), .int (vi 4), .int (vi 5), .int (vi 6), .int (vi 7), .ref (ex 1), .ref (ex 2), .ref (ex 3), .ref (a 1), .ref (ex 4), .ref (ex 5), .ref (ex 6), .ref (ex 7)])), ((a 1), .inl (T 1, 9, .inl (fi 0)))]) (fun (r : Int32) (fj : Nat → Nat → Int32) (fm : Nat → Nat → Int64) (vj : Nat → Int32) (vm : Nat → Int64) => (True ∧ (r.toInt = 0 → (0 ≤ ((fi 0) (vi 0).toNatClampNeg).toInt ∧ 0 ≤ ((fi 0) (vi 1).toNatClampNeg).toInt))) ∧ True)) (va_A (pre_X2_whyNotSwap T a ex fi fl vi vl) sz)) 0 0 (va_A (pre_X2_whyNotSwap T a ex fi fl vi vl) sz) := by
  refine xofW (cc := cX2_whyNotSwap) (maxL := 3) (ret := (some .int)) (by decide) rfl ?_
  intro p e s m args below meth c s₁ R Q hR hQ B hml hv
  obtain ⟨rfl, hsz, hP, hK, hD0⟩ := hv
  have hx := B.exec
  have hb := B.bytes
  have hr := B.returns
  have hts := atoms_spec (ws := xw yX2_whyNotSwap cX2_whyNotSwap 3 (some .int)) B.pre
  have htg : ∀ w ∈ xg, w.before _ s = true := fun w h => hts w (List.mem_cons_of_mem _ h)
  have hown : s.vm.findClass RX2 = some m.cls := findClass_of_methodNamed B.named
  have hlocks := B.notSynchronized
  subst hsz
  have hD := hD0.self (sz := s.heap.size)
  generalize hAe : va_A (pre_X2_whyNotSwap T a ex fi fl vi vl) s.heap.size = A at hD hQ
  have hA : ∀ q : Nat, s.heap.size ≤ q → A q := fun q h => by rw [← hAe]; exact Or.inr h
  have hS : va_S A s.heap s.heap [] := va_S.rf
  replace hP : va_P D vwCl [((a 0), .inr (2, [.ref (ex 0), .int (vi 2), .int (vi 3), .int (vi 4), .int (vi 5), .int (vi 6), .int (vi 7), .ref (ex 1), .ref (ex 2), .ref (ex 3), .ref (a 1), .ref (ex 4), .ref (ex 5), .ref (ex 6), .ref (ex 7)])), ((a 1), .inl (T 1, 9, .inl (fi 0)))] s.heap := hP
  replace hD : va_D A [((a 0), .inr (2, [.ref (ex 0), .int (vi 2), .int (vi 3), .int (vi 4), .int (vi 5), .int (vi 6), .int (vi 7), .ref (ex 1), .ref (ex 2), .ref (ex 3), .ref (a 1), .ref (ex 4), .ref (ex 5), .ref (ex 6), .ref (ex 7)])), ((a 1), .inl (T 1, 9, .inl (fi 0)))] := hD
  have hl := lv_entry ([.ref (a 0), .int (vi 0), .int (vi 1)]) (n := 3) (Nat.le_of_ble_eq_true rfl)
  rw [lg_entry_eq]
  generalize (lg_sl ([.ref (a 0), .int (vi 0), .int (vi 1)]) ++ List.replicate (3 - (lg_sl ([.ref (a 0), .int (vi 0), .int (vi 1)])).length) Slot.unset).toArray = ls at hl ⊢
  replace hl : lv_has ls 3 [(0, .ref (a 0)), (1, .int (vi 0)), (2, .int (vi 1))] := hl
  refine lv_iload_n hx hb dX2_whyNotSwap_0 rfl (lv_at hl 1 rfl) ?_
  refine lv_iload_n hx hb dX2_whyNotSwap_1 rfl (lv_at hl 2 rfl) ?_
  refine lv_icmp_ne (tgt := 8) hx hb dX2_whyNotSwap_2 (by decide) (fun c2 => ?_) (fun c2 => ?_)
  · have c2 := xne2 c2
    have rc2 := xrng (vi 0); have qc2 := xrng (vi 1)
    refine lv_aload_n hx hb dX2_whyNotSwap_8 rfl (lv_at hl 0 rfl) ?_
    refine lv_iload_n hx hb dX2_whyNotSwap_9 rfl (lv_at hl 1 rfl) ?_
    have hPc := hP.sub (ws' := (pre_X2_isAlive T (xa [(a 0)]) (xa [(ex 0), (ex 1), (ex 2), (ex 3), (a 1), (ex 4), (ex 5), (ex 6), (ex 7)]) (xf []) (xh []) (xv [(vi 0), (vi 2), (vi 3), (vi 4), (vi 5), (vi 6), (vi 7)]) (xl []))) [0] rfl
    have hDc := hD.sub (ws' := (pre_X2_isAlive T (xa [(a 0)]) (xa [(ex 0), (ex 1), (ex 2), (ex 3), (a 1), (ex 4), (ex 5), (ex 6), (ex 7)]) (xf []) (xh []) (xv [(vi 0), (vi 2), (vi 3), (vi 4), (vi 5), (vi 6), (vi 7)]) (xl []))) [0] (by decide) rfl
    have hFc := va_free (wc := (pre_X2_isAlive T (xa [(a 0)]) (xa [(ex 0), (ex 1), (ex 2), (ex 3), (a 1), (ex 4), (ex 5), (ex 6), (ex 7)]) (xf []) (xh []) (xv [(vi 0), (vi 2), (vi 3), (vi 4), (vi 5), (vi 6), (vi 7)]) (xl []))) hD hS hA [0] rfl
    refine va_calli (va_runV (As := [.int (vi 0)]) (rest := []) ⟨hx, hb, hml, hown, htg⟩ (c_X2_isAlive l D T (xa [(a 0)]) (xa [(ex 0), (ex 1), (ex 2), (ex 3), (a 1), (ex 4), (ex 5), (ex 6), (ex 7)]) (xf []) (xh []) (xv [(vi 0), (vi 2), (vi 3), (vi 4), (vi 5), (vi 6), (vi 7)]) (xl []) s.heap.size (by show 0 ≤ (vi 2).toInt ∧ (vi 2).toInt ≤ 200; omega) (by show 0 ≤ (vi 7).toInt ∧ (vi 7).toInt ≤ 9; omega)) ⟨callB_of 1 htg (xg_ok kw_796) rfl rfl rfl (htg _ kw_9) (htg _ kw_793) (by decide +kernel) ⟨by rw [hR]; exact Nat.le_of_ble_eq_true rfl, by rw [hR]; exact Nat.le_of_ble_eq_true rfl⟩, htg _ kw_795, htg _ ks_45⟩ (xpreV hK hPc hDc (va_recv hK.1 hPc (ci := 2) (q0 := 0) rfl rfl)) rfl rfl hl.1 rfl (lv_room (Nat.le_of_ble_eq_true rfl)) dX2_whyNotSwap_10 ⟨by rw [hR]; exact Nat.le_of_ble_eq_true rfl, by rw [hR]; exact Nat.le_of_ble_eq_true rfl⟩) hS (fun q _ h => hFc q h) hFc (fun r9 u9 t H1 locs ht hvm hw hB hz1 hk1 hS => ?_)
    subst hw
    obtain ⟨fik, flk, vik, vlk, hP1, hD1, hG⟩ := hB
    rw [ht] at hP1
    obtain ⟨hP, hD⟩ := va_join (wr := [((a 1), .inl (T 1, 9, .inl (fi 0)))]) (w1 := [((a 0), .inr (2, [.ref (ex 0), .int (vi 2), .int (vi 3), .int (vi 4), .int (vi 5), .int (vi 6), .int (vi 7), .ref (ex 1), .ref (ex 2), .ref (ex 3), .ref (a 1), .ref (ex 4), .ref (ex 5), .ref (ex 6), .ref (ex 7)]))]) hP hD [0] [1] rfl rfl (by decide) (by decide) hk1 hFc hP1 hD1
    obtain ⟨rk, er9⟩ : ∃ z, z = r9 := ⟨_, rfl⟩
    subst er9
    clear hPc hDc hFc hP1 hD1 hk1 hz1 hvm ht
    generalize H1 = H at hP hS ⊢
    replace hP : va_P D vwCl [((a 1), .inl (T 1, 9, .inl (fi 0))), ((a 0), .inr (2, [.ref (ex 0), .int (vi 2), .int (vi 3), .int (vi 4), .int (vi 5), .int (vi 6), .int (vi 7), .ref (ex 1), .ref (ex 2), .ref (ex 3), .ref (a 1), .ref (ex 4), .ref (ex 5), .ref (ex 6), .ref (ex 7)]))] H := hP
    replace hD : va_D A [((a 1), .inl (T 1, 9, .inl (fi 0))), ((a 0), .inr (2, [.ref (ex 0), .int (vi 2), .int (vi 3), .int (vi 4), .int (vi 5), .int (vi 6), .int (vi 7), .ref (ex 1), .ref (ex 2), .ref (ex 3), .ref (a 1), .ref (ex 4), .ref (ex 5), .ref (ex 6), .ref (ex 7)]))] := hD
    obtain ⟨gk_0, -⟩ := hG
    rcases (show (rk = 1 ∧ (True)) ∨ (rk = 0 ∧ (True)) from gk_0) with ⟨er9, gk_0⟩ | ⟨er9, gk_0⟩
    · refine xz_i 1 er9 ?_
      refine lv_if_eq (tgt := 24) hx hb dX2_whyNotSwap_13 (by decide) (fun c => absurd c (by decide)) (fun _ => ?_)
      refine lv_aload_n hx hb dX2_whyNotSwap_16 rfl (lv_at hl 0 rfl) ?_
      refine lv_iload_n hx hb dX2_whyNotSwap_17 rfl (lv_at hl 2 rfl) ?_
      have hPc := hP.sub (ws' := (pre_X2_isAlive T (xa [(a 0)]) (xa [(ex 0), (ex 1), (ex 2), (ex 3), (a 1), (ex 4), (ex 5), (ex 6), (ex 7)]) (xf []) (xh []) (xv [(vi 1), (vi 2), (vi 3), (vi 4), (vi 5), (vi 6), (vi 7)]) (xl []))) [1] rfl
      have hDc := hD.sub (ws' := (pre_X2_isAlive T (xa [(a 0)]) (xa [(ex 0), (ex 1), (ex 2), (ex 3), (a 1), (ex 4), (ex 5), (ex 6), (ex 7)]) (xf []) (xh []) (xv [(vi 1), (vi 2), (vi 3), (vi 4), (vi 5), (vi 6), (vi 7)]) (xl []))) [1] (by decide) rfl
      have hFc := va_free (wc := (pre_X2_isAlive T (xa [(a 0)]) (xa [(ex 0), (ex 1), (ex 2), (ex 3), (a 1), (ex 4), (ex 5), (ex 6), (ex 7)]) (xf []) (xh []) (xv [(vi 1), (vi 2), (vi 3), (vi 4), (vi 5), (vi 6), (vi 7)]) (xl []))) hD hS hA [1] rfl
      refine va_calli (va_runV (As := [.int (vi 1)]) (rest := []) ⟨hx, hb, hml, hown, htg⟩ (c_X2_isAlive l D T (xa [(a 0)]) (xa [(ex 0), (ex 1), (ex 2), (ex 3), (a 1), (ex 4), (ex 5), (ex 6), (ex 7)]) (xf []) (xh []) (xv [(vi 1), (vi 2), (vi 3), (vi 4), (vi 5), (vi 6), (vi 7)]) (xl []) H.size (by show 0 ≤ (vi 2).toInt ∧ (vi 2).toInt ≤ 200; omega) (by show 0 ≤ (vi 7).toInt ∧ (vi 7).toInt ≤ 9; omega)) ⟨callB_of 1 htg (xg_ok kw_796) rfl rfl rfl (htg _ kw_9) (htg _ kw_793) (by decide +kernel) ⟨by rw [hR]; exact Nat.le_of_ble_eq_true rfl, by rw [hR]; exact Nat.le_of_ble_eq_true rfl⟩, htg _ kw_795, htg _ ks_45⟩ (xpreV hK hPc hDc (va_recv hK.1 hPc (ci := 2) (q0 := 0) rfl rfl)) rfl rfl hl.1 rfl (lv_room (Nat.le_of_ble_eq_true rfl)) dX2_whyNotSwap_18 ⟨by rw [hR]; exact Nat.le_of_ble_eq_true rfl, by rw [hR]; exact Nat.le_of_ble_eq_true rfl⟩) hS (fun q _ h => hFc q h) hFc (fun r9 u9 t H1 locs ht hvm hw hB hz1 hk1 hS => ?_)
      subst hw
      obtain ⟨fik_1, flk_1, vik_1, vlk_1, hP1, hD1, hG⟩ := hB
      rw [ht] at hP1
      obtain ⟨hP, hD⟩ := va_join (wr := [((a 1), .inl (T 1, 9, .inl (fi 0)))]) (w1 := [((a 0), .inr (2, [.ref (ex 0), .int (vi 2), .int (vi 3), .int (vi 4), .int (vi 5), .int (vi 6), .int (vi 7), .ref (ex 1), .ref (ex 2), .ref (ex 3), .ref (a 1), .ref (ex 4), .ref (ex 5), .ref (ex 6), .ref (ex 7)]))]) hP hD [1] [0] rfl rfl (by decide) (by decide) hk1 hFc hP1 hD1
      obtain ⟨rk_1, er9⟩ : ∃ z, z = r9 := ⟨_, rfl⟩
      subst er9
      clear hPc hDc hFc hP1 hD1 hk1 hz1 hvm ht
      generalize H1 = H at hP hS ⊢
      replace hP : va_P D vwCl [((a 1), .inl (T 1, 9, .inl (fi 0))), ((a 0), .inr (2, [.ref (ex 0), .int (vi 2), .int (vi 3), .int (vi 4), .int (vi 5), .int (vi 6), .int (vi 7), .ref (ex 1), .ref (ex 2), .ref (ex 3), .ref (a 1), .ref (ex 4), .ref (ex 5), .ref (ex 6), .ref (ex 7)]))] H := hP
      replace hD : va_D A [((a 1), .inl (T 1, 9, .inl (fi 0))), ((a 0), .inr (2, [.ref (ex 0), .int (vi 2), .int (vi 3), .int (vi 4), .int (vi 5), .int (vi 6), .int (vi 7), .ref (ex 1), .ref (ex 2), .ref (ex 3), .ref (a 1), .ref (ex 4), .ref (ex 5), .ref (ex 6), .ref (ex 7)]))] := hD
      obtain ⟨gk_1_0, -⟩ := hG
      rcases (show (rk_1 = 1 ∧ (True)) ∨ (rk_1 = 0 ∧ (True)) from gk_1_0) with ⟨er9, gk_1_0⟩ | ⟨er9, gk_1_0⟩
      · refine xz_i 1 er9 ?_
        refine lv_if_ne (tgt := 26) hx hb dX2_whyNotSwap_21 (by decide) (fun _ => ?_) (fun c => absurd c (by decide))
        refine lv_aload_n hx hb dX2_whyNotSwap_26 rfl (lv_at hl 0 rfl) ?_
        refine va_get (D := D) (ci := 2) (v := .ref (a 1)) (C := RX2) (T := TX2) (N := 15) hx hb htg inX2 hown hK.1 hP 1 rfl rfl 10 (by decide) (htg _ kw_267) (fun _ h9 => h9) rfl dX2_whyNotSwap_27 ?_
        refine lv_iload_n hx hb dX2_whyNotSwap_30 rfl (lv_at hl 1 rfl) ?_
        refine va_iald hx hb hK.1 hP 0 1 rfl rfl (vp_in_iff.mpr (by omega)) dX2_whyNotSwap_31 ?_
        have hv := rg_at hp4 (i := (vi 0)) (by omega) (by omega)
        refine lv_iconst (v := (-1)) hx hb dX2_whyNotSwap_32 (by decide) ?_
        refine lv_icmp_eq (tgt := 46) hx hb dX2_whyNotSwap_33 (by decide) (fun c33 => ?_) (fun c33 => ?_)
        · have c33 := xeq (k := (-1)) (by decide) c33
          refine lv_iconst (v := 2) hx hb dX2_whyNotSwap_46 (by decide) ?_
          have hP9 := hP.sub (ws' := [((a 0), .inr (2, [.ref (ex 0), .int (vi 2), .int (vi 3), .int (vi 4), .int (vi 5), .int (vi 6), .int (vi 7), .ref (ex 1), .ref (ex 2), .ref (ex 3), .ref (a 1), .ref (ex 4), .ref (ex 5), .ref (ex 6), .ref (ex 7)])), ((a 1), .inl (T 1, 9, .inl (fi 0)))]) [1, 0] rfl
          have hD9 := hD.sub (ws' := [((a 0), .inr (2, [.ref (ex 0), .int (vi 2), .int (vi 3), .int (vi 4), .int (vi 5), .int (vi 6), .int (vi 7), .ref (ex 1), .ref (ex 2), .ref (ex 3), .ref (a 1), .ref (ex 4), .ref (ex 5), .ref (ex 6), .ref (ex 7)])), ((a 1), .inl (T 1, 9, .inl (fi 0)))]) [1, 0] (by decide +kernel) rfl
          rw [hQ]
          exact W.iret (v := 2) hx hb hr (fun t ht hW => ⟨⟨2, 2, rfl, rfl, xf [], xh [], xv [], xl [], by rw [ht]; exact hP9, hD9, ⟨(by show True ∧ ((2 : Int32).toInt = 0 → (0 ≤ ((fi 0) (vi 0).toNatClampNeg).toInt ∧ 0 ≤ ((fi 0) (vi 1).toNatClampNeg).toInt)); have k9_0 : ((2 : Int32).toInt = (2 := by decide; omega), trivial⟩⟩, hS.F ht⟩) hS.2.2 dX2_whyNotSwap_47
        · have c33 := xne (k := (-1)) (by decide) c33
          refine lv_aload_n hx hb dX2_whyNotSwap_36 rfl (lv_at hl 0 rfl) ?_
          refine va_get (D := D) (ci := 2) (v := .ref (a 1)) (C := RX2) (T := TX2) (N := 15) hx hb htg inX2 hown hK.1 hP 1 rfl rfl 10 (by decide) (htg _ kw_267) (fun _ h9 => h9) rfl dX2_whyNotSwap_37 ?_
          refine lv_iload_n hx hb dX2_whyNotSwap_40 rfl (lv_at hl 2 rfl) ?_
          refine va_iald hx hb hK.1 hP 0 1 rfl rfl (vp_in_iff.mpr (by omega)) dX2_whyNotSwap_41 ?_
          have hv_1 := rg_at hp4 (i := (vi 1)) (by omega) (by omega)
          refine lv_iconst (v := (-1)) hx hb dX2_whyNotSwap_42 (by decide) ?_
          refine lv_icmp_ne (tgt := 48) hx hb dX2_whyNotSwap_43 (by decide) (fun c43 => ?_) (fun c43 => ?_)
          · have c43 := xne (k := (-1)) (by decide) c43
            refine lv_aload_n hx hb dX2_whyNotSwap_48 rfl (lv_at hl 0 rfl) ?_
            refine lv_iload_n hx hb dX2_whyNotSwap_49 rfl (lv_at hl 1 rfl) ?_
            have hPc := hP.sub (ws' := (pre_X2_hasChanged T (xa [(a 0)]) (xa [(ex 0), (ex 1), (ex 2), (ex 3), (a 1), (ex 4), (ex 5), (ex 6), (ex 7)]) (xf []) (xh []) (xv [(vi 0), (vi 2), (vi 3), (vi 4), (vi 5), (vi 6), (vi 7)]) (xl []))) [1] rfl
            have hDc := hD.sub (ws' := (pre_X2_hasChanged T (xa [(a 0)]) (xa [(ex 0), (ex 1), (ex 2), (ex 3), (a 1), (ex 4), (ex 5), (ex 6), (ex 7)]) (xf []) (xh []) (xv [(vi 0), (vi 2), (vi 3), (vi 4), (vi 5), (vi 6), (vi 7)]) (xl []))) [1] (by decide) rfl
            have hFc := va_free (wc := (pre_X2_hasChanged T (xa [(a 0)]) (xa [(ex 0), (ex 1), (ex 2), (ex 3), (a 1), (ex 4), (ex 5), (ex 6), (ex 7)]) (xf []) (xh []) (xv [(vi 0), (vi 2), (vi 3), (vi 4), (vi 5), (vi 6), (vi 7)]) (xl []))) hD hS hA [1] rfl
            refine va_calli (va_runV (As := [.int (vi 0)]) (rest := []) ⟨hx, hb, hml, hown, htg⟩ (c_X2_hasChanged l D T (xa [(a 0)]) (xa [(ex 0), (ex 1), (ex 2), (ex 3), (a 1), (ex 4), (ex 5), (ex 6), (ex 7)]) (xf []) (xh []) (xv [(vi 0), (vi 2), (vi 3), (vi 4), (vi 5), (vi 6), (vi 7)]) (xl []) H.size (by show 0 ≤ (vi 2).toInt ∧ (vi 2).toInt ≤ 200; omega) (by show 0 ≤ (vi 7).toInt ∧ (vi 7).toInt ≤ 9; omega)) ⟨callB_of 1 htg (xg_ok kw_810) rfl rfl rfl (htg _ kw_9) (htg _ kw_807) (by decide +kernel) ⟨by rw [hR]; exact Nat.le_of_ble_eq_true rfl, by rw [hR]; exact Nat.le_of_ble_eq_true rfl⟩, htg _ kw_809, htg _ ks_48⟩ (xpreV hK hPc hDc (va_recv hK.1 hPc (ci := 2) (q0 := 0) rfl rfl)) rfl rfl hl.1 rfl (lv_room (Nat.le_of_ble_eq_true rfl)) dX2_whyNotSwap_50 ⟨by rw [hR]; exact Nat.le_of_ble_eq_true rfl, by rw [hR]; exact Nat.le_of_ble_eq_true rfl⟩) hS (fun q _ h => hFc q h) hFc (fun r9 u9 t H1 locs ht hvm hw hB hz1 hk1 hS => ?_)
            subst hw
            obtain ⟨fik_2, flk_2, vik_2, vlk_2, hP1, hD1, hG⟩ := hB
            rw [ht] at hP1
            obtain ⟨hP, hD⟩ := va_join (wr := [((a 1), .inl (T 1, 9, .inl (fi 0)))]) (w1 := [((a 0), .inr (2, [.ref (ex 0), .int (vi 2), .int (vi 3), .int (vi 4), .int (vi 5), .int (vi 6), .int (vi 7), .ref (ex 1), .ref (ex 2), .ref (ex 3), .ref (a 1), .ref (ex 4), .ref (ex 5), .ref (ex 6), .ref (ex 7)]))]) hP hD [1] [0] rfl rfl (by decide) (by decide) hk1 hFc hP1 hD1
            obtain ⟨rk_2, er9⟩ : ∃ z, z = r9 := ⟨_, rfl⟩
            subst er9
            clear hPc hDc hFc hP1 hD1 hk1 hz1 hvm ht
            generalize H1 = H at hP hS ⊢
            replace hP : va_P D vwCl [((a 1), .inl (T 1, 9, .inl (fi 0))), ((a 0), .inr (2, [.ref (ex 0), .int (vi 2), .int (vi 3), .int (vi 4), .int (vi 5), .int (vi 6), .int (vi 7), .ref (ex 1), .ref (ex 2), .ref (ex 3), .ref (a 1), .ref (ex 4), .ref (ex 5), .ref (ex 6), .ref (ex 7)]))] H := hP
            replace hD : va_D A [((a 1), .inl (T 1, 9, .inl (fi 0))), ((a 0), .inr (2, [.ref (ex 0), .int (vi 2), .int (vi 3), .int (vi 4), .int (vi 5), .int (vi 6), .int (vi 7), .ref (ex 1), .ref (ex 2), .ref (ex 3), .ref (a 1), .ref (ex 4), .ref (ex 5), .ref (ex 6), .ref (ex 7)]))] := hD
            obtain ⟨gk_2_0, -⟩ := hG
            rcases (show (rk_2 = 1 ∧ (True)) ∨ (rk_2 = 0 ∧ (True)) from gk_2_0) with ⟨er9, gk_2_0⟩ | ⟨er9, gk_2_0⟩
            · refine xz_i 1 er9 ?_
              refine lv_if_ne (tgt := 64) hx hb dX2_whyNotSwap_53 (by decide) (fun _ => ?_) (fun c => absurd c (by decide))
              refine lv_iconst (v := 3) hx hb dX2_whyNotSwap_64 (by decide) ?_
              refine lv_goto (tgt := 69) hx hb dX2_whyNotSwap_65 (by decide) ?_
              have hP9 := hP.sub (ws' := [((a 0), .inr (2, [.ref (ex 0), .int (vi 2), .int (vi 3), .int (vi 4), .int (vi 5), .int (vi 6), .int (vi 7), .ref (ex 1), .ref (ex 2), .ref (ex 3), .ref (a 1), .ref (ex 4), .ref (ex 5), .ref (ex 6), .ref (ex 7)])), ((a 1), .inl (T 1, 9, .inl (fi 0)))]) [1, 0] rfl
              have hD9 := hD.sub (ws' := [((a 0), .inr (2, [.ref (ex 0), .int (vi 2), .int (vi 3), .int (vi 4), .int (vi 5), .int (vi 6), .int (vi 7), .ref (ex 1), .ref (ex 2), .ref (ex 3), .ref (a 1), .ref (ex 4), .ref (ex 5), .ref (ex 6), .ref (ex 7)])), ((a 1), .inl (T 1, 9, .inl (fi 0)))]) [1, 0] (by decide +kernel) rfl
              rw [hQ]
              exact W.iret (v := 3) hx hb hr (fun t ht hW => ⟨⟨3, 3, rfl, rfl, xf [], xh [], xv [], xl [], by rw [ht]; exact hP9, hD9, ⟨(by show True ∧ ((3 : Int32).toInt = 0 → (0 ≤ ((fi 0) (vi 0).toNatClampNeg).toInt ∧ 0 ≤ ((fi 0) (vi 1).toNatClampNeg).toInt)); have k9_0 : ((3 : Int32).toInt = (3 := by decide; omega), trivial⟩⟩, hS.F ht⟩) hS.2.2 dX2_whyNotSwap_69
            · refine xz_i 0 er9 ?_
              refine lv_if_ne (tgt := 64) hx hb dX2_whyNotSwap_53 (by decide) (fun c => absurd (by decide) c) (fun _ => ?_)
              refine lv_aload_n hx hb dX2_whyNotSwap_56 rfl (lv_at hl 0 rfl) ?_
              refine lv_iload_n hx hb dX2_whyNotSwap_57 rfl (lv_at hl 2 rfl) ?_
              have hPc := hP.sub (ws' := (pre_X2_hasChanged T (xa [(a 0)]) (xa [(ex 0), (ex 1), (ex 2), (ex 3), (a 1), (ex 4), (ex 5), (ex 6), (ex 7)]) (xf []) (xh []) (xv [(vi 1), (vi 2), (vi 3), (vi 4), (vi 5), (vi 6), (vi 7)]) (xl []))) [1] rfl
              have hDc := hD.sub (ws' := (pre_X2_hasChanged T (xa [(a 0)]) (xa [(ex 0), (ex 1), (ex 2), (ex 3), (a 1), (ex 4), (ex 5), (ex 6), (ex 7)]) (xf []) (xh []) (xv [(vi 1), (vi 2), (vi 3), (vi 4), (vi 5), (vi 6), (vi 7)]) (xl []))) [1] (by decide) rfl
              have hFc := va_free (wc := (pre_X2_hasChanged T (xa [(a 0)]) (xa [(ex 0), (ex 1), (ex 2), (ex 3), (a 1), (ex 4), (ex 5), (ex 6), (ex 7)]) (xf []) (xh []) (xv [(vi 1), (vi 2), (vi 3), (vi 4), (vi 5), (vi 6), (vi 7)]) (xl []))) hD hS hA [1] rfl
              refine va_calli (va_runV (As := [.int (vi 1)]) (rest := []) ⟨hx, hb, hml, hown, htg⟩ (c_X2_hasChanged l D T (xa [(a 0)]) (xa [(ex 0), (ex 1), (ex 2), (ex 3), (a 1), (ex 4), (ex 5), (ex 6), (ex 7)]) (xf []) (xh []) (xv [(vi 1), (vi 2), (vi 3), (vi 4), (vi 5), (vi 6), (vi 7)]) (xl []) H.size (by show 0 ≤ (vi 2).toInt ∧ (vi 2).toInt ≤ 200; omega) (by show 0 ≤ (vi 7).toInt ∧ (vi 7).toInt ≤ 9; omega)) ⟨callB_of 1 htg (xg_ok kw_810) rfl rfl rfl (htg _ kw_9) (htg _ kw_807) (by decide +kernel) ⟨by rw [hR]; exact Nat.le_of_ble_eq_true rfl, by rw [hR]; exact Nat.le_of_ble_eq_true rfl⟩, htg _ kw_809, htg _ ks_48⟩ (xpreV hK hPc hDc (va_recv hK.1 hPc (ci := 2) (q0 := 0) rfl rfl)) rfl rfl hl.1 rfl (lv_room (Nat.le_of_ble_eq_true rfl)) dX2_whyNotSwap_58 ⟨by rw [hR]; exact Nat.le_of_ble_eq_true rfl, by rw [hR]; exact Nat.le_of_ble_eq_true rfl⟩) hS (fun q _ h => hFc q h) hFc (fun r9 u9 t H1 locs ht hvm hw hB hz1 hk1 hS => ?_)
              subst hw
              obtain ⟨fik_3, flk_3, vik_3, vlk_3, hP1, hD1, hG⟩ := hB
              rw [ht] at hP1
              obtain ⟨hP, hD⟩ := va_join (wr := [((a 1), .inl (T 1, 9, .inl (fi 0)))]) (w1 := [((a 0), .inr (2, [.ref (ex 0), .int (vi 2), .int (vi 3), .int (vi 4), .int (vi 5), .int (vi 6), .int (vi 7), .ref (ex 1), .ref (ex 2), .ref (ex 3), .ref (a 1), .ref (ex 4), .ref (ex 5), .ref (ex 6), .ref (ex 7)]))]) hP hD [1] [0] rfl rfl (by decide) (by decide) hk1 hFc hP1 hD1
              obtain ⟨rk_3, er9⟩ : ∃ z, z = r9 := ⟨_, rfl⟩
              subst er9
              clear hPc hDc hFc hP1 hD1 hk1 hz1 hvm ht
              generalize H1 = H at hP hS ⊢
              replace hP : va_P D vwCl [((a 1), .inl (T 1, 9, .inl (fi 0))), ((a 0), .inr (2, [.ref (ex 0), .int (vi 2), .int (vi 3), .int (vi 4), .int (vi 5), .int (vi 6), .int (vi 7), .ref (ex 1), .ref (ex 2), .ref (ex 3), .ref (a 1), .ref (ex 4), .ref (ex 5), .ref (ex 6), .ref (ex 7)]))] H := hP
              replace hD : va_D A [((a 1), .inl (T 1, 9, .inl (fi 0))), ((a 0), .inr (2, [.ref (ex 0), .int (vi 2), .int (vi 3), .int (vi 4), .int (vi 5), .int (vi 6), .int (vi 7), .ref (ex 1), .ref (ex 2), .ref (ex 3), .ref (a 1), .ref (ex 4), .ref (ex 5), .ref (ex 6), .ref (ex 7)]))] := hD
              obtain ⟨gk_3_0, -⟩ := hG
              rcases (show (rk_3 = 1 ∧ (True)) ∨ (rk_3 = 0 ∧ (True)) from gk_3_0) with ⟨er9, gk_3_0⟩ | ⟨er9, gk_3_0⟩
              · refine xz_i 1 er9 ?_
                refine lv_if_eq (tgt := 68) hx hb dX2_whyNotSwap_61 (by decide) (fun c => absurd c (by decide)) (fun _ => ?_)
                refine lv_iconst (v := 3) hx hb dX2_whyNotSwap_64 (by decide) ?_
                refine lv_goto (tgt := 69) hx hb dX2_whyNotSwap_65 (by decide) ?_
                have hP9 := hP.sub (ws' := [((a 0), .inr (2, [.ref (ex 0), .int (vi 2), .int (vi 3), .int (vi 4), .int (vi 5), .int (vi 6), .int (vi 7), .ref (ex 1), .ref (ex 2), .ref (ex 3), .ref (a 1), .ref (ex 4), .ref (ex 5), .ref (ex 6), .ref (ex 7)])), ((a 1), .inl (T 1, 9, .inl (fi 0)))]) [1, 0] rfl
                have hD9 := hD.sub (ws' := [((a 0), .inr (2, [.ref (ex 0), .int (vi 2), .int (vi 3), .int (vi 4), .int (vi 5), .int (vi 6), .int (vi 7), .ref (ex 1), .ref (ex 2), .ref (ex 3), .ref (a 1), .ref (ex 4), .ref (ex 5), .ref (ex 6), .ref (ex 7)])), ((a 1), .inl (T 1, 9, .inl (fi 0)))]) [1, 0] (by decide +kernel) rfl
                rw [hQ]
                exact W.iret (v := 3) hx hb hr (fun t ht hW => ⟨⟨3, 3, rfl, rfl, xf [], xh [], xv [], xl [], by rw [ht]; exact hP9, hD9, ⟨(by show True ∧ ((3 : Int32).toInt = 0 → (0 ≤ ((fi 0) (vi 0).toNatClampNeg).toInt ∧ 0 ≤ ((fi 0) (vi 1).toNatClampNeg).toInt)); have k9_0 : ((3 : Int32).toInt = (3 := by decide; omega), trivial⟩⟩, hS.F ht⟩) hS.2.2 dX2_whyNotSwap_69
              · refine xz_i 0 er9 ?_
                refine lv_if_eq (tgt := 68) hx hb dX2_whyNotSwap_61 (by decide) (fun _ => ?_) (fun c => absurd (by decide) c)
                refine lv_iconst (v := 0) hx hb dX2_whyNotSwap_68 (by decide) ?_
                have hP9 := hP.sub (ws' := [((a 0), .inr (2, [.ref (ex 0), .int (vi 2), .int (vi 3), .int (vi 4), .int (vi 5), .int (vi 6), .int (vi 7), .ref (ex 1), .ref (ex 2), .ref (ex 3), .ref (a 1), .ref (ex 4), .ref (ex 5), .ref (ex 6), .ref (ex 7)])), ((a 1), .inl (T 1, 9, .inl (fi 0)))]) [1, 0] rfl
                have hD9 := hD.sub (ws' := [((a 0), .inr (2, [.ref (ex 0), .int (vi 2), .int (vi 3), .int (vi 4), .int (vi 5), .int (vi 6), .int (vi 7), .ref (ex 1), .ref (ex 2), .ref (ex 3), .ref (a 1), .ref (ex 4), .ref (ex 5), .ref (ex 6), .ref (ex 7)])), ((a 1), .inl (T 1, 9, .inl (fi 0)))]) [1, 0] (by decide +kernel) rfl
                rw [hQ]
                exact W.iret (v := 0) hx hb hr (fun t ht hW => ⟨⟨0, 0, rfl, rfl, xf [], xh [], xv [], xl [], by rw [ht]; exact hP9, hD9, ⟨(by show True ∧ ((0 : Int32).toInt = 0 → (0 ≤ ((fi 0) (vi 0).toNatClampNeg).toInt ∧ 0 ≤ ((fi 0) (vi 1).toNatClampNeg).toInt)); have k9_0 : ((0 : Int32).toInt = (0 := by decide; omega), trivial⟩⟩, hS.F ht⟩) hS.2.2 dX2_whyNotSwap_69
          · have c43 := xeq (k := (-1)) (by decide) c43
            refine lv_iconst (v := 2) hx hb dX2_whyNotSwap_46 (by decide) ?_
            have hP9 := hP.sub (ws' := [((a 0), .inr (2, [.ref (ex 0), .int (vi 2), .int (vi 3), .int (vi 4), .int (vi 5), .int (vi 6), .int (vi 7), .ref (ex 1), .ref (ex 2), .ref (ex 3), .ref (a 1), .ref (ex 4), .ref (ex 5), .ref (ex 6), .ref (ex 7)])), ((a 1), .inl (T 1, 9, .inl (fi 0)))]) [1, 0] rfl
            have hD9 := hD.sub (ws' := [((a 0), .inr (2, [.ref (ex 0), .int (vi 2), .int (vi 3), .int (vi 4), .int (vi 5), .int (vi 6), .int (vi 7), .ref (ex 1), .ref (ex 2), .ref (ex 3), .ref (a 1), .ref (ex 4), .ref (ex 5), .ref (ex 6), .ref (ex 7)])), ((a 1), .inl (T 1, 9, .inl (fi 0)))]) [1, 0] (by decide +kernel) rfl
            rw [hQ]
            exact W.iret (v := 2) hx hb hr (fun t ht hW => ⟨⟨2, 2, rfl, rfl, xf [], xh [], xv [], xl [], by rw [ht]; exact hP9, hD9, ⟨(by show True ∧ ((2 : Int32).toInt = 0 → (0 ≤ ((fi 0) (vi 0).toNatClampNeg).toInt ∧ 0 ≤ ((fi 0) (vi 1).toNatClampNeg).toInt)); have k9_0 : ((2 : Int32).toInt = (2 := by decide; omega), trivial⟩⟩, hS.F ht⟩) hS.2.2 dX2_whyNotSwap_47
      · refine xz_i 0 er9 ?_
        refine lv_if_ne (tgt := 26) hx hb dX2_whyNotSwap_21 (by decide) (fun c => absurd (by decide) c) (fun _ => ?_)
        refine lv_iconst (v := 1) hx hb dX2_whyNotSwap_24 (by decide) ?_
        have hP9 := hP.sub (ws' := [((a 0), .inr (2, [.ref (ex 0), .int (vi 2), .int (vi 3), .int (vi 4), .int (vi 5), .int (vi 6), .int (vi 7), .ref (ex 1), .ref (ex 2), .ref (ex 3), .ref (a 1), .ref (ex 4), .ref (ex 5), .ref (ex 6), .ref (ex 7)])), ((a 1), .inl (T 1, 9, .inl (fi 0)))]) [1, 0] rfl
        have hD9 := hD.sub (ws' := [((a 0), .inr (2, [.ref (ex 0), .int (vi 2), .int (vi 3), .int (vi 4), .int (vi 5), .int (vi 6), .int (vi 7), .ref (ex 1), .ref (ex 2), .ref (ex 3), .ref (a 1), .ref (ex 4), .ref (ex 5), .ref (ex 6), .ref (ex 7)])), ((a 1), .inl (T 1, 9, .inl (fi 0)))]) [1, 0] (by decide +kernel) rfl
        rw [hQ]
        exact W.iret (v := 1) hx hb hr (fun t ht hW => ⟨⟨1, 1, rfl, rfl, xf [], xh [], xv [], xl [], by rw [ht]; exact hP9, hD9, ⟨(by show True ∧ ((1 : Int32).toInt = 0 → (0 ≤ ((fi 0) (vi 0).toNatClampNeg).toInt ∧ 0 ≤ ((fi 0) (vi 1).toNatClampNeg).toInt)); have k9_0 : ((1 : Int32).toInt = (1 := by decide; omega), trivial⟩⟩, hS.F ht⟩) hS.2.2 dX2_whyNotSwap_25
    · refine xz_i 0 er9 ?_
      refine lv_if_eq (tgt := 24) hx hb dX2_whyNotSwap_13 (by decide) (fun _ => ?_) (fun c => absurd (by decide) c)
      refine lv_iconst (v := 1) hx hb dX2_whyNotSwap_24 (by decide) ?_
      have hP9 := hP.sub (ws' := [((a 0), .inr (2, [.ref (ex 0), .int (vi 2), .int (vi 3), .int (vi 4), .int (vi 5), .int (vi 6), .int (vi 7), .ref (ex 1), .ref (ex 2), .ref (ex 3), .ref (a 1), .ref (ex 4), .ref (ex 5), .ref (ex 6), .ref (ex 7)])), ((a 1), .inl (T 1, 9, .inl (fi 0)))]) [1, 0] rfl
      have hD9 := hD.sub (ws' := [((a 0), .inr (2, [.ref (ex 0), .int (vi 2), .int (vi 3), .int (vi 4), .int (vi 5), .int (vi 6), .int (vi 7), .ref (ex 1), .ref (ex 2), .ref (ex 3), .ref (a 1), .ref (ex 4), .ref (ex 5), .ref (ex 6), .ref (ex 7)])), ((a 1), .inl (T 1, 9, .inl (fi 0)))]) [1, 0] (by decide +kernel) rfl
      rw [hQ]
      exact W.iret (v := 1) hx hb hr (fun t ht hW => ⟨⟨1, 1, rfl, rfl, xf [], xh [], xv [], xl [], by rw [ht]; exact hP9, hD9, ⟨(by show True ∧ ((1 : Int32).toInt = 0 → (0 ≤ ((fi 0) (vi 0).toNatClampNeg).toInt ∧ 0 ≤ ((fi 0) (vi 1).toNatClampNeg).toInt)); have k9_0 : ((1 : Int32).toInt = (1 := by decide; omega), trivial⟩⟩, hS.F ht⟩) hS.2.2 dX2_whyNotSwap_25
  · have c2 := congrArg Int32.toInt c2
    have rc2 := xrng (vi 0); have qc2 := xrng (vi 1)
    refine lv_bipush (v := 9) hx hb dX2_whyNotSwap_5 (by decide) ?_
    have hP9 := hP.sub (ws' := [((a 0), .inr (2, [.ref (ex 0), .int (vi 2), .int (vi 3), .int (vi 4), .int (vi 5), .int (vi 6), .int (vi 7), .ref (ex 1), .ref (ex 2), .ref (ex 3), .ref (a 1), .ref (ex 4), .ref (ex 5), .ref (ex 6), .ref (ex 7)])), ((a 1), .inl (T 1, 9, .inl (fi 0)))]) [0, 1] rfl
    have hD9 := hD.sub (ws' := [((a 0), .inr (2, [.ref (ex 0), .int (vi 2), .int (vi 3), .int (vi 4), .int (vi 5), .int (vi 6), .int (vi 7), .ref (ex 1), .ref (ex 2), .ref (ex 3), .ref (a 1), .ref (ex 4), .ref (ex 5), .ref (ex 6), .ref (ex 7)])), ((a 1), .inl (T 1, 9, .inl (fi 0)))]) [0, 1] (by decide +kernel) rfl
    rw [hQ]
    exact W.iret (v := 9) hx hb hr (fun t ht hW => ⟨⟨9, 9, rfl, rfl, xf [], xh [], xv [], xl [], by rw [ht]; exact hP9, hD9, ⟨(by show True ∧ ((9 : Int32).toInt = 0 → (0 ≤ ((fi 0) (vi 0).toNatClampNeg).toInt ∧ 0 ≤ ((fi 0) (vi 1).toNatClampNeg).toInt)); have k9_0 : ((9 : Int32).toInt = (9 := by decide; omega), trivial⟩⟩, hS.F ht⟩) hS.2.2 dX2_whyNotSwap_7
abbrev pre_X2_give (T : Nat → ClassId) (a ex : Nat → Nat) (fi : Nat → Nat → Int32) (fl : Nat → Nat → Int64) (vi : Nat → Int32) (vl : Nat → Int64) : va_W := [((a 0), .inr (2, [.ref (ex 0), .int (vi 2), .int (vi 3), .int (vi 4), .int (vi 5), .int (vi 6), .int (vi 7), .ref (a 2), .ref (ex 1), .ref (ex 2), .ref (a 1), .ref (ex 3), .ref (ex 4), .ref (ex 5), .ref (ex 6)])), ((a 1), .inl (T 1, 9, .inl (fi 0))), ((a 2), .inl (T 1, 9, .inl (fi 1)))]
set_option maxHeartbeats 8000000 in
set_option maxRecDepth 100000 in
theorem c_X2_give (l : Launch) (D : va_G) (T : Nat → ClassId) (a ex : Nat → Nat) (fi : Nat → Nat → Int32) (fl : Nat → Nat → Int64) (vi : Nat → Int32) (vl : Nat → Int64) (sz : Nat) (hp0 : 0 ≤ (vi 0).toInt ∧ (vi 0).toInt ≤ 8) (hp1 : 0 ≤ (vi 1).toInt ∧ (vi 1).toInt ≤ 8) (hp2 : 0 ≤ (vi 2).toInt ∧ (vi 2).toInt ≤ 200) (hp3 : 0 ≤ (vi 7).toInt ∧ (vi 7).toInt ≤ 9) (hp4 : rg (fi 0) 0 9 (-1) 8) (hp5 : rg (fi 1) 0 9 (-1) 8) : Met l yX2_give (xw yX2_give cX2_give 3 none) ({ frames := 0, cells := 0, slots := 0, locals := 0 }) (xP D T [.ref (a 0), .int (vi 0), .int (vi 1)] sz (pre_X2_give T a ex fi fl vi vl)) (va_Qv (fun _ : Int32 => True) (xC D (va_A (pre_X2_give T a ex fi fl vi vl) sz) (fun fj fm vj vm => [((a 0), .inr (2, [.ref (ex 0), .int (vi 2), .int (vi 3), .int (vi 4), .int (vi 5), .int (vi 6), .int (vi 7), .ref (a 2), .ref (ex 1), .ref (ex 2), .ref (a 1), .ref (ex 3), .ref (ex 4), .ref (ex 5), .ref (ex 6)])), ((a 1), .inl (T 1, 9, .inl (fj 0))), ((a 2), .inl (T 1, 9, .inl (fj 1)))]) (fun (r : Int32) (fj : Nat → Nat → Int32) (fm : Nat → Nat → Int64) (vj : Nat → Int32) (vm : Nat → Int64) => rg (fj 0) 0 9 (-1) 8 ∧ rg (fj 1) 0 9 (-1) 8 ∧ True)) (va_A (pre_X2_give T a ex fi fl vi vl) sz)) 0 0 (va_A (pre_X2_give T a ex fi fl vi vl) sz) := by
  refine xofW (cc := cX2_give) (maxL := 3) (ret := none) (by decide) rfl ?_
  intro p e s m args below meth c s₁ R Q hR hQ B hml hv
  obtain ⟨rfl, hsz, hP, hK, hD0⟩ := hv
  have hx := B.exec
  have hb := B.bytes
  have hr := B.returns
  have hts := atoms_spec (ws := xw yX2_give cX2_give 3 none) B.pre
  have htg : ∀ w ∈ xg, w.before _ s = true := fun w h => hts w (List.mem_cons_of_mem _ h)
  have hown : s.vm.findClass RX2 = some m.cls := findClass_of_methodNamed B.named
  have hlocks := B.notSynchronized
  subst hsz
  have hD := hD0.self (sz := s.heap.size)
  generalize hAe : va_A (pre_X2_give T a ex fi fl vi vl) s.heap.size = A at hD hQ
  have hA : ∀ q : Nat, s.heap.size ≤ q → A q := fun q h => by rw [← hAe]; exact Or.inr h
  have hS : va_S A s.heap s.heap [] := va_S.rf
  replace hP : va_P D vwCl [((a 0), .inr (2, [.ref (ex 0), .int (vi 2), .int (vi 3), .int (vi 4), .int (vi 5), .int (vi 6), .int (vi 7), .ref (a 2), .ref (ex 1), .ref (ex 2), .ref (a 1), .ref (ex 3), .ref (ex 4), .ref (ex 5), .ref (ex 6)])), ((a 1), .inl (T 1, 9, .inl (fi 0))), ((a 2), .inl (T 1, 9, .inl (fi 1)))] s.heap := hP
  replace hD : va_D A [((a 0), .inr (2, [.ref (ex 0), .int (vi 2), .int (vi 3), .int (vi 4), .int (vi 5), .int (vi 6), .int (vi 7), .ref (a 2), .ref (ex 1), .ref (ex 2), .ref (a 1), .ref (ex 3), .ref (ex 4), .ref (ex 5), .ref (ex 6)])), ((a 1), .inl (T 1, 9, .inl (fi 0))), ((a 2), .inl (T 1, 9, .inl (fi 1)))] := hD
  have hl := lv_entry ([.ref (a 0), .int (vi 0), .int (vi 1)]) (n := 3) (Nat.le_of_ble_eq_true rfl)
  rw [lg_entry_eq]
  generalize (lg_sl ([.ref (a 0), .int (vi 0), .int (vi 1)]) ++ List.replicate (3 - (lg_sl ([.ref (a 0), .int (vi 0), .int (vi 1)])).length) Slot.unset).toArray = ls at hl ⊢
  replace hl : lv_has ls 3 [(0, .ref (a 0)), (1, .int (vi 0)), (2, .int (vi 1))] := hl
  refine lv_aload_n hx hb dX2_give_0 rfl (lv_at hl 0 rfl) ?_
  refine va_get (D := D) (ci := 2) (v := .ref (a 1)) (C := RX2) (T := TX2) (N := 15) hx hb htg inX2 hown hK.1 hP 0 rfl rfl 10 (by decide) (htg _ kw_267) (fun _ h9 => h9) rfl dX2_give_1 ?_
  refine lv_iload_n hx hb dX2_give_4 rfl (lv_at hl 1 rfl) ?_
  refine lv_iload_n hx hb dX2_give_5 rfl (lv_at hl 2 rfl) ?_
  refine va_iast hx hb hK.1 hP hD hS 1 1 rfl rfl (vp_in_iff.mpr (by omega)) dX2_give_6 (fun H locs hP hD hS => ?_)
  obtain ⟨f6, ef6, hP, hD⟩ : ∃ f7 : Nat → Int32, f7 = upd (fi 0) (vi 0).toNatClampNeg ((vi 1) : Int32) ∧ va_P D vwCl [((a 0), .inr (2, [.ref (ex 0), .int (vi 2), .int (vi 3), .int (vi 4), .int (vi 5), .int (vi 6), .int (vi 7), .ref (a 2), .ref (ex 1), .ref (ex 2), .ref (a 1), .ref (ex 3), .ref (ex 4), .ref (ex 5), .ref (ex 6)])), ((a 1), .inl (T 1, 9, .inl f7)), ((a 2), .inl (T 1, 9, .inl (fi 1)))] H ∧ va_D A [((a 0), .inr (2, [.ref (ex 0), .int (vi 2), .int (vi 3), .int (vi 4), .int (vi 5), .int (vi 6), .int (vi 7), .ref (a 2), .ref (ex 1), .ref (ex 2), .ref (a 1), .ref (ex 3), .ref (ex 4), .ref (ex 5), .ref (ex 6)])), ((a 1), .inl (T 1, 9, .inl f7)), ((a 2), .inl (T 1, 9, .inl (fi 1)))] := ⟨_, rfl, hP, hD⟩
  have hr6 : rg f6 0 9 (-1) 8 := by rw [ef6]; exact rg_upd hp4 (by omega)
  refine lv_aload_n hx hb dX2_give_7 rfl (lv_at hl 0 rfl) ?_
  refine va_get (D := D) (ci := 2) (v := .ref (a 2)) (C := RX2) (T := TX2) (N := 15) hx hb htg inX2 hown hK.1 hP 0 rfl rfl 7 (by decide) (htg _ kw_260) (fun _ h9 => h9) rfl dX2_give_8 ?_
  refine lv_iload_n hx hb dX2_give_11 rfl (lv_at hl 2 rfl) ?_
  refine lv_iload_n hx hb dX2_give_12 rfl (lv_at hl 1 rfl) ?_
  refine va_iast hx hb hK.1 hP hD hS 2 1 rfl rfl (vp_in_iff.mpr (by omega)) dX2_give_13 (fun H locs hP hD hS => ?_)
  obtain ⟨f13, ef13, hP, hD⟩ : ∃ f7 : Nat → Int32, f7 = upd (fi 1) (vi 1).toNatClampNeg ((vi 0) : Int32) ∧ va_P D vwCl [((a 0), .inr (2, [.ref (ex 0), .int (vi 2), .int (vi 3), .int (vi 4), .int (vi 5), .int (vi 6), .int (vi 7), .ref (a 2), .ref (ex 1), .ref (ex 2), .ref (a 1), .ref (ex 3), .ref (ex 4), .ref (ex 5), .ref (ex 6)])), ((a 1), .inl (T 1, 9, .inl f6)), ((a 2), .inl (T 1, 9, .inl f7))] H ∧ va_D A [((a 0), .inr (2, [.ref (ex 0), .int (vi 2), .int (vi 3), .int (vi 4), .int (vi 5), .int (vi 6), .int (vi 7), .ref (a 2), .ref (ex 1), .ref (ex 2), .ref (a 1), .ref (ex 3), .ref (ex 4), .ref (ex 5), .ref (ex 6)])), ((a 1), .inl (T 1, 9, .inl f6)), ((a 2), .inl (T 1, 9, .inl f7))] := ⟨_, rfl, hP, hD⟩
  have hr13 : rg f13 0 9 (-1) 8 := by rw [ef13]; exact rg_upd hp5 (by omega)
  have hP9 := hP.sub (ws' := [((a 0), .inr (2, [.ref (ex 0), .int (vi 2), .int (vi 3), .int (vi 4), .int (vi 5), .int (vi 6), .int (vi 7), .ref (a 2), .ref (ex 1), .ref (ex 2), .ref (a 1), .ref (ex 3), .ref (ex 4), .ref (ex 5), .ref (ex 6)])), ((a 1), .inl (T 1, 9, .inl f6)), ((a 2), .inl (T 1, 9, .inl f13))]) [0, 1, 2] rfl
  have hD9 := hD.sub (ws' := [((a 0), .inr (2, [.ref (ex 0), .int (vi 2), .int (vi 3), .int (vi 4), .int (vi 5), .int (vi 6), .int (vi 7), .ref (a 2), .ref (ex 1), .ref (ex 2), .ref (a 1), .ref (ex 3), .ref (ex 4), .ref (ex 5), .ref (ex 6)])), ((a 1), .inl (T 1, 9, .inl f6)), ((a 2), .inl (T 1, 9, .inl f13))]) [0, 1, 2] (by decide +kernel) rfl
  rw [hQ]
  exact W.vret hx hb hr (fun t ht hW => ⟨⟨(0 : Int32), rfl, trivial, xf [f6, f13], xh [], xv [], xl [], by rw [ht]; exact hP9, hD9, ⟨(show rg f6 0 9 (-1) 8 from hr6), (show rg f13 0 9 (-1) 8 from hr13), trivial⟩⟩, hS.F ht⟩) hS.2.2 dX2_give_14
abbrev pre_X2_exchange (T : Nat → ClassId) (a ex : Nat → Nat) (fi : Nat → Nat → Int32) (fl : Nat → Nat → Int64) (vi : Nat → Int32) (vl : Nat → Int64) : va_W := [((a 0), .inr (2, [.ref (ex 0), .int (vi 2), .int (vi 3), .int (vi 4), .int (vi 5), .int (vi 6), .int (vi 7), .ref (a 2), .ref (ex 1), .ref (ex 2), .ref (a 1), .ref (ex 3), .ref (ex 4), .ref (ex 5), .ref (ex 6)])), ((a 1), .inl (T 1, 9, .inl (fi 0))), ((a 2), .inl (T 1, 9, .inl (fi 1)))]
set_option maxHeartbeats 8000000 in
set_option maxRecDepth 100000 in
theorem c_X2_exchange (l : Launch) (D : va_G) (T : Nat → ClassId) (a ex : Nat → Nat) (fi : Nat → Nat → Int32) (fl : Nat → Nat → Int64) (vi : Nat → Int32) (vl : Nat → Int64) (sz : Nat) (hp0 : 0 ≤ (vi 0).toInt ∧ (vi 0).toInt ≤ 8) (hp1 : 0 ≤ (vi 1).toInt ∧ (vi 1).toInt ≤ 8) (hp2 : 0 ≤ (vi 2).toInt ∧ (vi 2).toInt ≤ 200) (hp3 : 0 ≤ (vi 7).toInt ∧ (vi 7).toInt ≤ 9) (hp4 : rg (fi 0) 0 9 (-1) 8) (hp5 : rg (fi 1) 0 9 (-1) 8) (hp6 : 0 ≤ ((fi 0) (vi 0).toNatClampNeg).toInt) (hp7 : 0 ≤ ((fi 0) (vi 1).toNatClampNeg).toInt) : Met l yX2_exchange (xw yX2_exchange cX2_exchange 4 none) ({ frames := 1, cells := 0, slots := 0, locals := 26 }) (xP D T [.ref (a 0), .int (vi 0), .int (vi 1)] sz (pre_X2_exchange T a ex fi fl vi vl)) (va_Qv (fun _ : Int32 => True) (xC D (va_A (pre_X2_exchange T a ex fi fl vi vl) sz) (fun fj fm vj vm => [((a 0), .inr (2, [.ref (ex 0), .int (vi 2), .int (vi 3), .int (vj 0), .int (vi 5), .int (vi 6), .int (vi 7), .ref (a 2), .ref (ex 1), .ref (ex 2), .ref (a 1), .ref (ex 3), .ref (ex 4), .ref (ex 5), .ref (ex 6)])), ((a 1), .inl (T 1, 9, .inl (fj 0))), ((a 2), .inl (T 1, 9, .inl (fj 1)))]) (fun (r : Int32) (fj : Nat → Nat → Int32) (fm : Nat → Nat → Int64) (vj : Nat → Int32) (vm : Nat → Int64) => rg (fj 0) 0 9 (-1) 8 ∧ rg (fj 1) 0 9 (-1) 8 ∧ True)) (va_A (pre_X2_exchange T a ex fi fl vi vl) sz)) 0 0 (va_A (pre_X2_exchange T a ex fi fl vi vl) sz) := by
  refine xofW (cc := cX2_exchange) (maxL := 4) (ret := none) (by decide) rfl ?_
  intro p e s m args below meth c s₁ R Q hR hQ B hml hv
  obtain ⟨rfl, hsz, hP, hK, hD0⟩ := hv
  have hx := B.exec
  have hb := B.bytes
  have hr := B.returns
  have hts := atoms_spec (ws := xw yX2_exchange cX2_exchange 4 none) B.pre
  have htg : ∀ w ∈ xg, w.before _ s = true := fun w h => hts w (List.mem_cons_of_mem _ h)
  have hown : s.vm.findClass RX2 = some m.cls := findClass_of_methodNamed B.named
  have hlocks := B.notSynchronized
  subst hsz
  have hD := hD0.self (sz := s.heap.size)
  generalize hAe : va_A (pre_X2_exchange T a ex fi fl vi vl) s.heap.size = A at hD hQ
  have hA : ∀ q : Nat, s.heap.size ≤ q → A q := fun q h => by rw [← hAe]; exact Or.inr h
  have hS : va_S A s.heap s.heap [] := va_S.rf
  replace hP : va_P D vwCl [((a 0), .inr (2, [.ref (ex 0), .int (vi 2), .int (vi 3), .int (vi 4), .int (vi 5), .int (vi 6), .int (vi 7), .ref (a 2), .ref (ex 1), .ref (ex 2), .ref (a 1), .ref (ex 3), .ref (ex 4), .ref (ex 5), .ref (ex 6)])), ((a 1), .inl (T 1, 9, .inl (fi 0))), ((a 2), .inl (T 1, 9, .inl (fi 1)))] s.heap := hP
  replace hD : va_D A [((a 0), .inr (2, [.ref (ex 0), .int (vi 2), .int (vi 3), .int (vi 4), .int (vi 5), .int (vi 6), .int (vi 7), .ref (a 2), .ref (ex 1), .ref (ex 2), .ref (a 1), .ref (ex 3), .ref (ex 4), .ref (ex 5), .ref (ex 6)])), ((a 1), .inl (T 1, 9, .inl (fi 0))), ((a 2), .inl (T 1, 9, .inl (fi 1)))] := hD
  have hl := lv_entry ([.ref (a 0), .int (vi 0), .int (vi 1)]) (n := 4) (Nat.le_of_ble_eq_true rfl)
  rw [lg_entry_eq]
  generalize (lg_sl ([.ref (a 0), .int (vi 0), .int (vi 1)]) ++ List.replicate (4 - (lg_sl ([.ref (a 0), .int (vi 0), .int (vi 1)])).length) Slot.unset).toArray = ls at hl ⊢
  replace hl : lv_has ls 4 [(0, .ref (a 0)), (1, .int (vi 0)), (2, .int (vi 1))] := hl
  refine lv_aload_n hx hb dX2_exchange_0 rfl (lv_at hl 0 rfl) ?_
  refine va_get (D := D) (ci := 2) (v := .ref (a 1)) (C := RX2) (T := TX2) (N := 15) hx hb htg inX2 hown hK.1 hP 0 rfl rfl 10 (by decide) (htg _ kw_267) (fun _ h9 => h9) rfl dX2_exchange_1 ?_
  refine lv_iload_n hx hb dX2_exchange_4 rfl (lv_at hl 1 rfl) ?_
  refine va_iald hx hb hK.1 hP 1 1 rfl rfl (vp_in_iff.mpr (by omega)) dX2_exchange_5 ?_
  have hv := rg_at hp4 (i := (vi 0)) (by omega) (by omega)
  refine lv_istore_n (lv' := [(3, .int ((fi 0) (vi 0).toNatClampNeg)), (0, .ref (a 0)), (1, .int (vi 0)), (2, .int (vi 1))]) hx hb dX2_exchange_6 rfl hl (by decide) rfl (fun ls hl => ?_)
  refine lv_aload_n hx hb dX2_exchange_7 rfl (lv_at hl 1 rfl) ?_
  refine lv_iload_n hx hb dX2_exchange_8 rfl (lv_at hl 2 rfl) ?_
  refine lv_aload_n hx hb dX2_exchange_9 rfl (lv_at hl 1 rfl) ?_
  refine va_get (D := D) (ci := 2) (v := .ref (a 1)) (C := RX2) (T := TX2) (N := 15) hx hb htg inX2 hown hK.1 hP 0 rfl rfl 10 (by decide) (htg _ kw_267) (fun _ h9 => h9) rfl dX2_exchange_10 ?_
  refine lv_iload_n hx hb dX2_exchange_13 rfl (lv_at hl 3 rfl) ?_
  refine va_iald hx hb hK.1 hP 1 1 rfl rfl (vp_in_iff.mpr (by omega)) dX2_exchange_14 ?_
  have hv_1 := rg_at hp4 (i := (vi 1)) (by omega) (by omega)
  have hPc := hP.sub (ws' := (pre_X2_give T (xa [(a 0), (a 1), (a 2)]) (xa [(ex 0), (ex 1), (ex 2), (ex 3), (ex 4), (ex 5), (ex 6)]) (xf [(fi 0), (fi 1)]) (xh []) (xv [(vi 0), ((fi 0) (vi 1).toNatClampNeg), (vi 2), (vi 3), (vi 4), (vi 5), (vi 6), (vi 7)]) (xl []))) [0, 1, 2] rfl
  have hDc := hD.sub (ws' := (pre_X2_give T (xa [(a 0), (a 1), (a 2)]) (xa [(ex 0), (ex 1), (ex 2), (ex 3), (ex 4), (ex 5), (ex 6)]) (xf [(fi 0), (fi 1)]) (xh []) (xv [(vi 0), ((fi 0) (vi 1).toNatClampNeg), (vi 2), (vi 3), (vi 4), (vi 5), (vi 6), (vi 7)]) (xl []))) [0, 1, 2] (by decide) rfl
  have hFc := va_free (wc := (pre_X2_give T (xa [(a 0), (a 1), (a 2)]) (xa [(ex 0), (ex 1), (ex 2), (ex 3), (ex 4), (ex 5), (ex 6)]) (xf [(fi 0), (fi 1)]) (xh []) (xv [(vi 0), ((fi 0) (vi 1).toNatClampNeg), (vi 2), (vi 3), (vi 4), (vi 5), (vi 6), (vi 7)]) (xl []))) hD hS hA [0, 1, 2] rfl
  refine va_callv (va_runV (As := [.int (vi 0), .int ((fi 0) (vi 1).toNatClampNeg)]) (rest := []) ⟨hx, hb, hml, hown, htg⟩ (c_X2_give l D T (xa [(a 0), (a 1), (a 2)]) (xa [(ex 0), (ex 1), (ex 2), (ex 3), (ex 4), (ex 5), (ex 6)]) (xf [(fi 0), (fi 1)]) (xh []) (xv [(vi 0), ((fi 0) (vi 1).toNatClampNeg), (vi 2), (vi 3), (vi 4), (vi 5), (vi 6), (vi 7)]) (xl []) s.heap.size (by show 0 ≤ (vi 0).toInt ∧ (vi 0).toInt ≤ 8; omega) (by show 0 ≤ ((fi 0) (vi 1).toNatClampNeg).toInt ∧ ((fi 0) (vi 1).toNatClampNeg).toInt ≤ 8; omega) (by show 0 ≤ (vi 2).toInt ∧ (vi 2).toInt ≤ 200; omega) (by show 0 ≤ (vi 7).toInt ∧ (vi 7).toInt ≤ 9; omega) (show rg (fi 0) 0 9 (-1) 8 from hp4) (show rg (fi 1) 0 9 (-1) 8 from hp5)) ⟨callB_of 2 htg (xg_ok kw_726) rfl rfl rfl (htg _ kw_9) (htg _ kw_723) (by decide +kernel) ⟨by rw [hR]; exact Nat.le_of_ble_eq_true rfl, by rw [hR]; exact Nat.le_of_ble_eq_true rfl⟩, htg _ kw_725, htg _ ks_35⟩ (xpreV hK hPc hDc (va_recv hK.1 hPc (ci := 2) (q0 := 0) rfl rfl)) rfl rfl hl.1 rfl (lv_room (Nat.le_of_ble_eq_true rfl)) dX2_exchange_15 ⟨by rw [hR]; exact Nat.le_of_ble_eq_true rfl, by rw [hR]; exact Nat.le_of_ble_eq_true rfl⟩) hS (fun q _ h => hFc q h) hFc (fun u9 t H1 locs ht hvm hw hB hz1 hk1 hS => ?_)
  obtain ⟨fik, flk, vik, vlk, hP1, hD1, hG⟩ := hB
  rw [ht] at hP1
  obtain ⟨hP, hD⟩ := va_join (wr := []) (w1 := [((a 0), .inr (2, [.ref (ex 0), .int (vi 2), .int (vi 3), .int (vi 4), .int (vi 5), .int (vi 6), .int (vi 7), .ref (a 2), .ref (ex 1), .ref (ex 2), .ref (a 1), .ref (ex 3), .ref (ex 4), .ref (ex 5), .ref (ex 6)])), ((a 1), .inl (T 1, 9, .inl (fik 0))), ((a 2), .inl (T 1, 9, .inl (fik 1)))]) hP hD [0, 1, 2] [] rfl rfl (by decide) (by decide) hk1 hFc hP1 hD1
  clear hPc hDc hFc hP1 hD1 hk1 hz1 hvm ht
  generalize H1 = H at hP hS ⊢
  replace hP : va_P D vwCl [((a 0), .inr (2, [.ref (ex 0), .int (vi 2), .int (vi 3), .int (vi 4), .int (vi 5), .int (vi 6), .int (vi 7), .ref (a 2), .ref (ex 1), .ref (ex 2), .ref (a 1), .ref (ex 3), .ref (ex 4), .ref (ex 5), .ref (ex 6)])), ((a 1), .inl (T 1, 9, .inl (fik 0))), ((a 2), .inl (T 1, 9, .inl (fik 1)))] H := hP
  replace hD : va_D A [((a 0), .inr (2, [.ref (ex 0), .int (vi 2), .int (vi 3), .int (vi 4), .int (vi 5), .int (vi 6), .int (vi 7), .ref (a 2), .ref (ex 1), .ref (ex 2), .ref (a 1), .ref (ex 3), .ref (ex 4), .ref (ex 5), .ref (ex 6)])), ((a 1), .inl (T 1, 9, .inl (fik 0))), ((a 2), .inl (T 1, 9, .inl (fik 1)))] := hD
  obtain ⟨gk_0, gk_1, -⟩ := hG
  replace gk_0 : rg (fik 0) 0 9 (-1) 8 := gk_0
  replace gk_1 : rg (fik 1) 0 9 (-1) 8 := gk_1
  refine lv_aload_n hx hb dX2_exchange_18 rfl (lv_at hl 1 rfl) ?_
  refine lv_iload_n hx hb dX2_exchange_19 rfl (lv_at hl 3 rfl) ?_
  refine lv_iload_n hx hb dX2_exchange_20 rfl (lv_at hl 0 rfl) ?_
  have hPc := hP.sub (ws' := (pre_X2_give T (xa [(a 0), (a 1), (a 2)]) (xa [(ex 0), (ex 1), (ex 2), (ex 3), (ex 4), (ex 5), (ex 6)]) (xf [(fik 0), (fik 1)]) (xh []) (xv [(vi 1), ((fi 0) (vi 0).toNatClampNeg), (vi 2), (vi 3), (vi 4), (vi 5), (vi 6), (vi 7)]) (xl []))) [0, 1, 2] rfl
  have hDc := hD.sub (ws' := (pre_X2_give T (xa [(a 0), (a 1), (a 2)]) (xa [(ex 0), (ex 1), (ex 2), (ex 3), (ex 4), (ex 5), (ex 6)]) (xf [(fik 0), (fik 1)]) (xh []) (xv [(vi 1), ((fi 0) (vi 0).toNatClampNeg), (vi 2), (vi 3), (vi 4), (vi 5), (vi 6), (vi 7)]) (xl []))) [0, 1, 2] (by decide) rfl
  have hFc := va_free (wc := (pre_X2_give T (xa [(a 0), (a 1), (a 2)]) (xa [(ex 0), (ex 1), (ex 2), (ex 3), (ex 4), (ex 5), (ex 6)]) (xf [(fik 0), (fik 1)]) (xh []) (xv [(vi 1), ((fi 0) (vi 0).toNatClampNeg), (vi 2), (vi 3), (vi 4), (vi 5), (vi 6), (vi 7)]) (xl []))) hD hS hA [0, 1, 2] rfl
  refine va_callv (va_runV (As := [.int (vi 1), .int ((fi 0) (vi 0).toNatClampNeg)]) (rest := []) ⟨hx, hb, hml, hown, htg⟩ (c_X2_give l D T (xa [(a 0), (a 1), (a 2)]) (xa [(ex 0), (ex 1), (ex 2), (ex 3), (ex 4), (ex 5), (ex 6)]) (xf [(fik 0), (fik 1)]) (xh []) (xv [(vi 1), ((fi 0) (vi 0).toNatClampNeg), (vi 2), (vi 3), (vi 4), (vi 5), (vi 6), (vi 7)]) (xl []) H.size (by show 0 ≤ (vi 1).toInt ∧ (vi 1).toInt ≤ 8; omega) (by show 0 ≤ ((fi 0) (vi 0).toNatClampNeg).toInt ∧ ((fi 0) (vi 0).toNatClampNeg).toInt ≤ 8; omega) (by show 0 ≤ (vi 2).toInt ∧ (vi 2).toInt ≤ 200; omega) (by show 0 ≤ (vi 7).toInt ∧ (vi 7).toInt ≤ 9; omega) (show rg (fik 0) 0 9 (-1) 8 from gk_0) (show rg (fik 1) 0 9 (-1) 8 from gk_1)) ⟨callB_of 2 htg (xg_ok kw_726) rfl rfl rfl (htg _ kw_9) (htg _ kw_723) (by decide +kernel) ⟨by rw [hR]; exact Nat.le_of_ble_eq_true rfl, by rw [hR]; exact Nat.le_of_ble_eq_true rfl⟩, htg _ kw_725, htg _ ks_35⟩ (xpreV hK hPc hDc (va_recv hK.1 hPc (ci := 2) (q0 := 0) rfl rfl)) rfl rfl hl.1 rfl (lv_room (Nat.le_of_ble_eq_true rfl)) dX2_exchange_21 ⟨by rw [hR]; exact Nat.le_of_ble_eq_true rfl, by rw [hR]; exact Nat.le_of_ble_eq_true rfl⟩) hS (fun q _ h => hFc q h) hFc (fun u9 t H1 locs ht hvm hw hB hz1 hk1 hS => ?_)
  obtain ⟨fik_1, flk_1, vik_1, vlk_1, hP1, hD1, hG⟩ := hB
  rw [ht] at hP1
  obtain ⟨hP, hD⟩ := va_join (wr := []) (w1 := [((a 0), .inr (2, [.ref (ex 0), .int (vi 2), .int (vi 3), .int (vi 4), .int (vi 5), .int (vi 6), .int (vi 7), .ref (a 2), .ref (ex 1), .ref (ex 2), .ref (a 1), .ref (ex 3), .ref (ex 4), .ref (ex 5), .ref (ex 6)])), ((a 1), .inl (T 1, 9, .inl (fik_1 0))), ((a 2), .inl (T 1, 9, .inl (fik_1 1)))]) hP hD [0, 1, 2] [] rfl rfl (by decide) (by decide) hk1 hFc hP1 hD1
  clear hPc hDc hFc hP1 hD1 hk1 hz1 hvm ht
  generalize H1 = H at hP hS ⊢
  replace hP : va_P D vwCl [((a 0), .inr (2, [.ref (ex 0), .int (vi 2), .int (vi 3), .int (vi 4), .int (vi 5), .int (vi 6), .int (vi 7), .ref (a 2), .ref (ex 1), .ref (ex 2), .ref (a 1), .ref (ex 3), .ref (ex 4), .ref (ex 5), .ref (ex 6)])), ((a 1), .inl (T 1, 9, .inl (fik_1 0))), ((a 2), .inl (T 1, 9, .inl (fik_1 1)))] H := hP
  replace hD : va_D A [((a 0), .inr (2, [.ref (ex 0), .int (vi 2), .int (vi 3), .int (vi 4), .int (vi 5), .int (vi 6), .int (vi 7), .ref (a 2), .ref (ex 1), .ref (ex 2), .ref (a 1), .ref (ex 3), .ref (ex 4), .ref (ex 5), .ref (ex 6)])), ((a 1), .inl (T 1, 9, .inl (fik_1 0))), ((a 2), .inl (T 1, 9, .inl (fik_1 1)))] := hD
  obtain ⟨gk_1_0, gk_1_1, -⟩ := hG
  replace gk_1_0 : rg (fik_1 0) 0 9 (-1) 8 := gk_1_0
  replace gk_1_1 : rg (fik_1 1) 0 9 (-1) 8 := gk_1_1
  refine lv_aload_n hx hb dX2_exchange_24 rfl (lv_at hl 1 rfl) ?_
  refine lv_dup hx hb dX2_exchange_25 rfl ?_
  refine va_get (D := D) (ci := 2) (v := .int (vi 4)) (C := RX2) (T := TX2) (N := 15) hx hb htg inX2 hown hK.1 hP 0 rfl rfl 3 (by decide) (htg _ kw_252) (fun _ h9 => h9) rfl dX2_exchange_26 ?_
  refine lv_iconst (v := 1) hx hb dX2_exchange_29 (by decide) ?_
  refine lv_iload_n hx hb dX2_exchange_30 rfl (lv_at hl 2 rfl) ?_
  refine lv_ishl hx hb dX2_exchange_31 ?_
  refine lv_topi (fun z31 ez31 => ?_)
  refine lv_iconst (v := 1) hx hb dX2_exchange_32 (by decide) ?_
  refine lv_iload_n hx hb dX2_exchange_33 rfl (lv_at hl 3 rfl) ?_
  refine lv_ishl hx hb dX2_exchange_34 ?_
  refine lv_topi (fun z34 ez34 => ?_)
  refine lv_ior hx hb dX2_exchange_35 ?_
  refine lv_topi (fun z35 ez35 => ?_)
  refine lv_ior hx hb dX2_exchange_36 ?_
  refine lv_topi (fun z36 ez36 => ?_)
  refine va_put (D := D) (ci := 2) (v := .int z36) (ty := .int) (C := RX2) (T := TX2) (N := 15) hx hb htg inX2 tyX2 tyX2_ok nmX2 hown hK.1 hP hD hS 0 rfl rfl 3 (by decide) (htg _ kw_252) (fun _ h9 => h9) rfl (by decide +kernel) rfl rfl (Nat.le_of_ble_eq_true rfl) dX2_exchange_37 (fun H locs hP hD hS => ?_)
  replace hP : va_P D vwCl [((a 0), .inr (2, [.ref (ex 0), .int (vi 2), .int (vi 3), .int z36, .int (vi 5), .int (vi 6), .int (vi 7), .ref (a 2), .ref (ex 1), .ref (ex 2), .ref (a 1), .ref (ex 3), .ref (ex 4), .ref (ex 5), .ref (ex 6)])), ((a 1), .inl (T 1, 9, .inl (fik_1 0))), ((a 2), .inl (T 1, 9, .inl (fik_1 1)))] H := hP
  replace hD : va_D A [((a 0), .inr (2, [.ref (ex 0), .int (vi 2), .int (vi 3), .int z36, .int (vi 5), .int (vi 6), .int (vi 7), .ref (a 2), .ref (ex 1), .ref (ex 2), .ref (a 1), .ref (ex 3), .ref (ex 4), .ref (ex 5), .ref (ex 6)])), ((a 1), .inl (T 1, 9, .inl (fik_1 0))), ((a 2), .inl (T 1, 9, .inl (fik_1 1)))] := hD
  have hP9 := hP.sub (ws' := [((a 0), .inr (2, [.ref (ex 0), .int (vi 2), .int (vi 3), .int z36, .int (vi 5), .int (vi 6), .int (vi 7), .ref (a 2), .ref (ex 1), .ref (ex 2), .ref (a 1), .ref (ex 3), .ref (ex 4), .ref (ex 5), .ref (ex 6)])), ((a 1), .inl (T 1, 9, .inl (fik_1 0))), ((a 2), .inl (T 1, 9, .inl (fik_1 1)))]) [0, 1, 2] rfl
  have hD9 := hD.sub (ws' := [((a 0), .inr (2, [.ref (ex 0), .int (vi 2), .int (vi 3), .int z36, .int (vi 5), .int (vi 6), .int (vi 7), .ref (a 2), .ref (ex 1), .ref (ex 2), .ref (a 1), .ref (ex 3), .ref (ex 4), .ref (ex 5), .ref (ex 6)])), ((a 1), .inl (T 1, 9, .inl (fik_1 0))), ((a 2), .inl (T 1, 9, .inl (fik_1 1)))]) [0, 1, 2] (by decide +kernel) rfl
  rw [hQ]
  exact W.vret hx hb hr (fun t ht hW => ⟨⟨(0 : Int32), rfl, trivial, xf [(fik_1 0), (fik_1 1)], xh [], xv [z36], xl [], by rw [ht]; exact hP9, hD9, ⟨(show rg (fik_1 0) 0 9 (-1) 8 from gk_1_0), (show rg (fik_1 1) 0 9 (-1) 8 from gk_1_1), trivial⟩⟩, hS.F ht⟩) hS.2.2 dX2_exchange_40
abbrev pre_X11_copyRow (T : Nat → ClassId) (a ex : Nat → Nat) (fi : Nat → Nat → Int32) (fl : Nat → Nat → Int64) (vi : Nat → Int32) (vl : Nat → Int64) : va_W := [((a 0), .inl (T 1, 9, .inl (fi 0))), ((a 1), .inl (T 1, 9, .inl (fi 1)))]
set_option maxHeartbeats 8000000 in
set_option maxRecDepth 100000 in
theorem c_X11_copyRow (l : Launch) (D : va_G) (T : Nat → ClassId) (a ex : Nat → Nat) (fi : Nat → Nat → Int32) (fl : Nat → Nat → Int64) (vi : Nat → Int32) (vl : Nat → Int64) (sz : Nat) : Met l yX11_copyRow (xw yX11_copyRow cX11_copyRow 2 none) ({ frames := 1, cells := 0, slots := 0, locals := 120 }) (xP D T [.ref (a 0), .ref (a 1)] sz (pre_X11_copyRow T a ex fi fl vi vl)) (va_Qv (fun _ : Int32 => True) (xC D (va_A (pre_X11_copyRow T a ex fi fl vi vl) sz) (fun fj fm vj vm => [((a 0), .inl (T 1, 9, .inl (fi 0))), ((a 1), .inl (T 1, 9, .inl (fj 0)))]) (fun (r : Int32) (fj : Nat → Nat → Int32) (fm : Nat → Nat → Int64) (vj : Nat → Int32) (vm : Nat → Int64) => (∀ j : Nat, j < 9 → (fj 0) j = (fi 0) j) ∧ True)) (va_A (pre_X11_copyRow T a ex fi fl vi vl) sz)) 0 0 (va_A (pre_X11_copyRow T a ex fi fl vi vl) sz) := by
  refine xofW (cc := cX11_copyRow) (maxL := 2) (ret := none) (by decide) rfl ?_
  intro p e s m args below meth c s₁ R Q hR hQ B hml hv
  obtain ⟨rfl, hsz, hP, hK, hD0⟩ := hv
  have hx := B.exec
  have hb := B.bytes
  have hr := B.returns
  have hts := atoms_spec (ws := xw yX11_copyRow cX11_copyRow 2 none) B.pre
  have htg : ∀ w ∈ xg, w.before _ s = true := fun w h => hts w (List.mem_cons_of_mem _ h)
  have hown : s.vm.findClass RX11 = some m.cls := findClass_of_methodNamed B.named
  have hlocks := B.notSynchronized
  subst hsz
  have hD := hD0.self (sz := s.heap.size)
  generalize hAe : va_A (pre_X11_copyRow T a ex fi fl vi vl) s.heap.size = A at hD hQ
  have hA : ∀ q : Nat, s.heap.size ≤ q → A q := fun q h => by rw [← hAe]; exact Or.inr h
  have hS : va_S A s.heap s.heap [] := va_S.rf
  replace hP : va_P D vwCl [((a 0), .inl (T 1, 9, .inl (fi 0))), ((a 1), .inl (T 1, 9, .inl (fi 1)))] s.heap := hP
  replace hD : va_D A [((a 0), .inl (T 1, 9, .inl (fi 0))), ((a 1), .inl (T 1, 9, .inl (fi 1)))] := hD
  have hl := lv_entry ([.ref (a 0), .ref (a 1)]) (n := 2) (Nat.le_of_ble_eq_true rfl)
  rw [lg_entry_eq]
  generalize (lg_sl ([.ref (a 0), .ref (a 1)]) ++ List.replicate (2 - (lg_sl ([.ref (a 0), .ref (a 1)])).length) Slot.unset).toArray = ls at hl ⊢
  replace hl : lv_has ls 2 [(0, .ref (a 0)), (1, .ref (a 1))] := hl
  refine lv_aload_n hx hb dX11_copyRow_0 rfl (lv_at hl 0 rfl) ?_
  refine lv_iconst (v := 0) hx hb dX11_copyRow_1 (by decide) ?_
  refine lv_aload_n hx hb dX11_copyRow_2 rfl (lv_at hl 1 rfl) ?_
  refine lv_iconst (v := 0) hx hb dX11_copyRow_3 (by decide) ?_
  refine lv_aload_n hx hb dX11_copyRow_4 rfl (lv_at hl 0 rfl) ?_
  refine va_alen (v := 9) hx hb hK.1 hP 0 1 rfl rfl (by decide) dX11_copyRow_5 ?_
  refine lv_aload_n hx hb dX11_copyRow_6 rfl (lv_at hl 1 rfl) ?_
  refine va_alen (v := 9) hx hb hK.1 hP 1 1 rfl rfl (by decide) dX11_copyRow_7 ?_
  refine va_mmin hx hb (hml.trans hl.1.symm) hown (htg _ kw_706) (htg _ kw_707) (htg _ kw_18) (htg _ kw_708) (by rw [hR]; exact Nat.le_of_ble_eq_true rfl) (by rw [hR]; exact Nat.le_of_ble_eq_true rfl) (by rw [hR]; exact Nat.le_of_ble_eq_true rfl) (by rw [hR]; exact Nat.le_of_ble_eq_true rfl) dX11_copyRow_8 ?_
  refine xz_i 9 (by decide) ?_
  refine va_copyi hx hb (hml.trans hl.1.symm) hown (htg _ kw_709) (htg _ kw_711) (htg _ kw_710) (htg _ kw_19) hK.1 hP hD hS 0 1 1 1 rfl rfl rfl rfl rfl (by decide) (by decide) (by decide) (xcl2 (by have k9_0 : (0 : Int32).toInt = 0 := by decide; have k9_1 : (9 : Int32).toInt = 9 := by decide; omega) (by have k9_0 : (0 : Int32).toInt = 0 := by decide; have k9_1 : (9 : Int32).toInt = 9 := by decide; omega) (by have k9_0 : (0 : Int32).toInt = 0 := by decide; have k9_1 : (9 : Int32).toInt = 9 := by decide; omega)) (xcl2 (by have k9_0 : (0 : Int32).toInt = 0 := by decide; have k9_1 : (9 : Int32).toInt = 9 := by decide; omega) (by have k9_0 : (0 : Int32).toInt = 0 := by decide; have k9_1 : (9 : Int32).toInt = 9 := by decide; omega) (by have k9_0 : (0 : Int32).toInt = 0 := by decide; have k9_1 : (9 : Int32).toInt = 9 := by decide; omega)) (fun _ _ => rfl) (by rw [hR]; exact Nat.le_of_ble_eq_true rfl) (by rw [hR]; exact Nat.le_of_ble_eq_true rfl) dX11_copyRow_11 (fun H locs hP hD hS => ?_)
  obtain ⟨f11, ef11, hP, hD⟩ : ∃ f7 : Nat → Int32, f7 = va_cpy (fi 0) (fi 1) (0 : Int32).toNatClampNeg (0 : Int32).toNatClampNeg (9 : Int32).toNatClampNeg ∧ va_P D vwCl [((a 0), .inl (T 1, 9, .inl (fi 0))), ((a 1), .inl (T 1, 9, .inl f7))] H ∧ va_D A [((a 0), .inl (T 1, 9, .inl (fi 0))), ((a 1), .inl (T 1, 9, .inl f7))] := ⟨_, rfl, hP, hD⟩
  have hP9 := hP.sub (ws' := [((a 0), .inl (T 1, 9, .inl (fi 0))), ((a 1), .inl (T 1, 9, .inl f11))]) [0, 1] rfl
  have hD9 := hD.sub (ws' := [((a 0), .inl (T 1, 9, .inl (fi 0))), ((a 1), .inl (T 1, 9, .inl f11))]) [0, 1] (by decide +kernel) rfl
  rw [hQ]
  exact W.vret hx hb hr (fun t ht hW => ⟨⟨(0 : Int32), rfl, trivial, xf [f11], xh [], xv [], xl [], by rw [ht]; exact hP9, hD9, ⟨(by show ∀ j : Nat, j < 9 → f11 j = (fi 0) j; exact fun j hj => by rw [ef11]; exact pk_cpy_in (Nat.zero_le _) (by show j < 0 + 9; omega)), trivial⟩⟩, hS.F ht⟩) hS.2.2 dX11_copyRow_14
abbrev pre_X11_copyRow_ (T : Nat → ClassId) (a ex : Nat → Nat) (fi : Nat → Nat → Int32) (fl : Nat → Nat → Int64) (vi : Nat → Int32) (vl : Nat → Int64) : va_W := [((a 0), .inl (T 2, 200, .inr (.inl (fl 0)))), ((a 1), .inl (T 2, 200, .inr (.inl (fl 1))))]
set_option maxHeartbeats 8000000 in
set_option maxRecDepth 100000 in
theorem c_X11_copyRow_ (l : Launch) (D : va_G) (T : Nat → ClassId) (a ex : Nat → Nat) (fi : Nat → Nat → Int32) (fl : Nat → Nat → Int64) (vi : Nat → Int32) (vl : Nat → Int64) (sz : Nat) : Met l yX11_copyRow_ (xw yX11_copyRow_ cX11_copyRow_ 2 none) ({ frames := 1, cells := 0, slots := 0, locals := 120 }) (xP D T [.ref (a 0), .ref (a 1)] sz (pre_X11_copyRow_ T a ex fi fl vi vl)) (va_Qv (fun _ : Int32 => True) (xC D (va_A (pre_X11_copyRow_ T a ex fi fl vi vl) sz) (fun fj fm vj vm => [((a 0), .inl (T 2, 200, .inr (.inl (fl 0)))), ((a 1), .inl (T 2, 200, .inr (.inl (fm 0))))]) (fun (r : Int32) (fj : Nat → Nat → Int32) (fm : Nat → Nat → Int64) (vj : Nat → Int32) (vm : Nat → Int64) => (∀ j : Nat, j < 200 → (fm 0) j = (fl 0) j) ∧ True)) (va_A (pre_X11_copyRow_ T a ex fi fl vi vl) sz)) 0 0 (va_A (pre_X11_copyRow_ T a ex fi fl vi vl) sz) := by
  refine xofW (cc := cX11_copyRow_) (maxL := 2) (ret := none) (by decide) rfl ?_
  intro p e s m args below meth c s₁ R Q hR hQ B hml hv
  obtain ⟨rfl, hsz, hP, hK, hD0⟩ := hv
  have hx := B.exec
  have hb := B.bytes
  have hr := B.returns
  have hts := atoms_spec (ws := xw yX11_copyRow_ cX11_copyRow_ 2 none) B.pre
  have htg : ∀ w ∈ xg, w.before _ s = true := fun w h => hts w (List.mem_cons_of_mem _ h)
  have hown : s.vm.findClass RX11 = some m.cls := findClass_of_methodNamed B.named
  have hlocks := B.notSynchronized
  subst hsz
  have hD := hD0.self (sz := s.heap.size)
  generalize hAe : va_A (pre_X11_copyRow_ T a ex fi fl vi vl) s.heap.size = A at hD hQ
  have hA : ∀ q : Nat, s.heap.size ≤ q → A q := fun q h => by rw [← hAe]; exact Or.inr h
  have hS : va_S A s.heap s.heap [] := va_S.rf
  replace hP : va_P D vwCl [((a 0), .inl (T 2, 200, .inr (.inl (fl 0)))), ((a 1), .inl (T 2, 200, .inr (.inl (fl 1))))] s.heap := hP
  replace hD : va_D A [((a 0), .inl (T 2, 200, .inr (.inl (fl 0)))), ((a 1), .inl (T 2, 200, .inr (.inl (fl 1))))] := hD
  have hl := lv_entry ([.ref (a 0), .ref (a 1)]) (n := 2) (Nat.le_of_ble_eq_true rfl)
  rw [lg_entry_eq]
  generalize (lg_sl ([.ref (a 0), .ref (a 1)]) ++ List.replicate (2 - (lg_sl ([.ref (a 0), .ref (a 1)])).length) Slot.unset).toArray = ls at hl ⊢
  replace hl : lv_has ls 2 [(0, .ref (a 0)), (1, .ref (a 1))] := hl
  refine lv_aload_n hx hb dX11_copyRow__0 rfl (lv_at hl 0 rfl) ?_
  refine lv_iconst (v := 0) hx hb dX11_copyRow__1 (by decide) ?_
  refine lv_aload_n hx hb dX11_copyRow__2 rfl (lv_at hl 1 rfl) ?_
  refine lv_iconst (v := 0) hx hb dX11_copyRow__3 (by decide) ?_
  refine lv_aload_n hx hb dX11_copyRow__4 rfl (lv_at hl 0 rfl) ?_
  refine va_alen (v := 200) hx hb hK.1 hP 0 2 rfl rfl (by decide) dX11_copyRow__5 ?_
  refine lv_aload_n hx hb dX11_copyRow__6 rfl (lv_at hl 1 rfl) ?_
  refine va_alen (v := 200) hx hb hK.1 hP 1 2 rfl rfl (by decide) dX11_copyRow__7 ?_
  refine va_mmin hx hb (hml.trans hl.1.symm) hown (htg _ kw_706) (htg _ kw_707) (htg _ kw_18) (htg _ kw_708) (by rw [hR]; exact Nat.le_of_ble_eq_true rfl) (by rw [hR]; exact Nat.le_of_ble_eq_true rfl) (by rw [hR]; exact Nat.le_of_ble_eq_true rfl) (by rw [hR]; exact Nat.le_of_ble_eq_true rfl) dX11_copyRow__8 ?_
  refine xz_i 200 (by decide) ?_
  refine va_copyl hx hb (hml.trans hl.1.symm) hown (htg _ kw_709) (htg _ kw_711) (htg _ kw_710) (htg _ kw_19) hK.1 hP hD hS 0 1 2 2 rfl rfl rfl rfl rfl (by decide) (by decide) (by decide) (xcl2 (by have k9_0 : (0 : Int32).toInt = 0 := by decide; have k9_1 : (200 : Int32).toInt = 200 := by decide; omega) (by have k9_0 : (0 : Int32).toInt = 0 := by decide; have k9_1 : (200 : Int32).toInt = 200 := by decide; omega) (by have k9_0 : (0 : Int32).toInt = 0 := by decide; have k9_1 : (200 : Int32).toInt = 200 := by decide; omega)) (xcl2 (by have k9_0 : (0 : Int32).toInt = 0 := by decide; have k9_1 : (200 : Int32).toInt = 200 := by decide; omega) (by have k9_0 : (0 : Int32).toInt = 0 := by decide; have k9_1 : (200 : Int32).toInt = 200 := by decide; omega) (by have k9_0 : (0 : Int32).toInt = 0 := by decide; have k9_1 : (200 : Int32).toInt = 200 := by decide; omega)) (fun _ _ => rfl) (by rw [hR]; exact Nat.le_of_ble_eq_true rfl) (by rw [hR]; exact Nat.le_of_ble_eq_true rfl) dX11_copyRow__11 (fun H locs hP hD hS => ?_)
  obtain ⟨f11, ef11, hP, hD⟩ : ∃ f7 : Nat → Int64, f7 = va_cpy (fl 0) (fl 1) (0 : Int32).toNatClampNeg (0 : Int32).toNatClampNeg (200 : Int32).toNatClampNeg ∧ va_P D vwCl [((a 0), .inl (T 2, 200, .inr (.inl (fl 0)))), ((a 1), .inl (T 2, 200, .inr (.inl f7)))] H ∧ va_D A [((a 0), .inl (T 2, 200, .inr (.inl (fl 0)))), ((a 1), .inl (T 2, 200, .inr (.inl f7)))] := ⟨_, rfl, hP, hD⟩
  have hP9 := hP.sub (ws' := [((a 0), .inl (T 2, 200, .inr (.inl (fl 0)))), ((a 1), .inl (T 2, 200, .inr (.inl f11)))]) [0, 1] rfl
  have hD9 := hD.sub (ws' := [((a 0), .inl (T 2, 200, .inr (.inl (fl 0)))), ((a 1), .inl (T 2, 200, .inr (.inl f11)))]) [0, 1] (by decide +kernel) rfl
  rw [hQ]
  exact W.vret hx hb hr (fun t ht hW => ⟨⟨(0 : Int32), rfl, trivial, xf [], xh [f11], xv [], xl [], by rw [ht]; exact hP9, hD9, ⟨(by show ∀ j : Nat, j < 200 → f11 j = (fl 0) j; exact fun j hj => by rw [ef11]; exact pk_cpy_in (Nat.zero_le _) (by show j < 0 + 200; omega)), trivial⟩⟩, hS.F ht⟩) hS.2.2 dX11_copyRow__14
abbrev pre_X2_copyFrom (T : Nat → ClassId) (a ex : Nat → Nat) (fi : Nat → Nat → Int32) (fl : Nat → Nat → Int64) (vi : Nat → Int32) (vl : Nat → Int64) : va_W := (((a 0), .inr (2, [.ref (ex 0), .int (vi 0), .int (vi 1), .int (vi 2), .int (vi 3), .int (vi 4), .int (vi 5), .ref (a 3), .ref (a 5), .ref (a 7), .ref (a 9), .ref (a 11), .ref (a 13), .ref (a 15), .ref (a 17)])) :: ((a 1), .inr (2, [.ref (ex 1), .int (vi 6), .int (vi 7), .int (vi 8), .int (vi 9), .int (vi 10), .int (vi 11), .ref (a 2), .ref (a 4), .ref (a 6), .ref (a 8), .ref (a 10), .ref (a 12), .ref (a 14), .ref (a 16)])) :: ((a 2), .inl (T 1, 9, .inl (fi 0))) :: ((a 3), .inl (T 1, 9, .inl (fi 1))) :: ((a 4), .inl (T 1, 9, .inl (fi 2))) :: ((a 5), .inl (T 1, 9, .inl (fi 3))) :: ((a 6), .inl (T 1, 9, .inl (fi 4))) :: ((a 7), .inl (T 1, 9, .inl (fi 5))) :: ((a 8), .inl (T 1, 9, .inl (fi 6))) :: ((a 9), .inl (T 1, 9, .inl (fi 7))) :: ((a 10), .inl (T 1, 9, .inl (fi 8))) :: ((a 11), .inl (T 1, 9, .inl (fi 9))) :: ((a 12), .inl (T 1, 9, .inl (fi 10))) :: ((a 13), .inl (T 1, 9, .inl (fi 11))) :: ((a 14), .inl (T 1, 9, .inl (fi 12))) :: ((a 15), .inl (T 1, 9, .inl (fi 13))) :: ((a 16), .inl (T 2, 200, .inr (.inl (fl 0)))) :: ((a 17), .inl (T 2, 200, .inr (.inl (fl 1)))) :: [])
set_option maxHeartbeats 8000000 in
set_option maxRecDepth 100000 in
theorem c_X2_copyFrom (l : Launch) (D : va_G) (T : Nat → ClassId) (a ex : Nat → Nat) (fi : Nat → Nat → Int32) (fl : Nat → Nat → Int64) (vi : Nat → Int32) (vl : Nat → Int64) (sz : Nat) (hp0 : 0 ≤ (vi 0).toInt ∧ (vi 0).toInt ≤ 200) (hp1 : 0 ≤ (vi 5).toInt ∧ (vi 5).toInt ≤ 9) (hp2 : 0 ≤ (vi 6).toInt ∧ (vi 6).toInt ≤ 200) (hp3 : 0 ≤ (vi 11).toInt ∧ (vi 11).toInt ≤ 9) (hp4 : rg (fi 0) 0 9 (-1) 8) (hp5 : rg (fi 1) 0 9 (-1) 8) (hp6 : rg (fi 6) 0 9 (-1) 8) (hp7 : rg (fi 7) 0 9 (-1) 8) (hp8 : rg (fi 12) 0 9 0 8) (hp9 : rg (fi 13) 0 9 0 8) : Met l yX2_copyFrom (xw yX2_copyFrom cX2_copyFrom 2 none) ({ frames := 2, cells := 0, slots := 0, locals := 145 }) (xP D T [.ref (a 0), .ref (a 1)] sz (pre_X2_copyFrom T a ex fi fl vi vl)) (va_Qv (fun _ : Int32 => True) (xC D (va_A (pre_X2_copyFrom T a ex fi fl vi vl) sz) (fun fj fm vj vm => (((a 0), .inr (2, [.ref (ex 0), .int (vj 0), .int (vj 1), .int (vj 2), .int (vj 3), .int (vj 4), .int (vj 5), .ref (a 3), .ref (a 5), .ref (a 7), .ref (a 9), .ref (a 11), .ref (a 13), .ref (a 15), .ref (a 17)])) :: ((a 1), .inr (2, [.ref (ex 1), .int (vi 6), .int (vi 7), .int (vi 8), .int (vi 9), .int (vi 10), .int (vi 11), .ref (a 2), .ref (a 4), .ref (a 6), .ref (a 8), .ref (a 10), .ref (a 12), .ref (a 14), .ref (a 16)])) :: ((a 2), .inl (T 1, 9, .inl (fi 0))) :: ((a 3), .inl (T 1, 9, .inl (fj 0))) :: ((a 4), .inl (T 1, 9, .inl (fi 2))) :: ((a 5), .inl (T 1, 9, .inl (fj 1))) :: ((a 6), .inl (T 1, 9, .inl (fi 4))) :: ((a 7), .inl (T 1, 9, .inl (fj 2))) :: ((a 8), .inl (T 1, 9, .inl (fi 6))) :: ((a 9), .inl (T 1, 9, .inl (fj 3))) :: ((a 10), .inl (T 1, 9, .inl (fi 8))) :: ((a 11), .inl (T 1, 9, .inl (fj 4))) :: ((a 12), .inl (T 1, 9, .inl (fi 10))) :: ((a 13), .inl (T 1, 9, .inl (fj 5))) :: ((a 14), .inl (T 1, 9, .inl (fi 12))) :: ((a 15), .inl (T 1, 9, .inl (fj 6))) :: ((a 16), .inl (T 2, 200, .inr (.inl (fl 0)))) :: ((a 17), .inl (T 2, 200, .inr (.inl (fm 0)))) :: [])) (fun (r : Int32) (fj : Nat → Nat → Int32) (fm : Nat → Nat → Int64) (vj : Nat → Int32) (vm : Nat → Int64) => (0 ≤ (vj 0).toInt ∧ (vj 0).toInt ≤ 200) ∧ (0 ≤ (vj 5).toInt ∧ (vj 5).toInt ≤ 9) ∧ rg (fj 0) 0 9 (-1) 8 ∧ rg (fj 3) 0 9 (-1) 8 ∧ rg (fj 6) 0 9 0 8 ∧ True)) (va_A (pre_X2_copyFrom T a ex fi fl vi vl) sz)) 0 0 (va_A (pre_X2_copyFrom T a ex fi fl vi vl) sz) := by
  refine xofW (cc := cX2_copyFrom) (maxL := 2) (ret := none) (by decide) rfl ?_
  intro p e s m args below meth c s₁ R Q hR hQ B hml hv
  obtain ⟨rfl, hsz, hP, hK, hD0⟩ := hv
  have hx := B.exec
  have hb := B.bytes
  have hr := B.returns
  have hts := atoms_spec (ws := xw yX2_copyFrom cX2_copyFrom 2 none) B.pre
  have htg : ∀ w ∈ xg, w.before _ s = true := fun w h => hts w (List.mem_cons_of_mem _ h)
  have hown : s.vm.findClass RX2 = some m.cls := findClass_of_methodNamed B.named
  have hlocks := B.notSynchronized
  subst hsz
  have hD := hD0.self (sz := s.heap.size)
  generalize hAe : va_A (pre_X2_copyFrom T a ex fi fl vi vl) s.heap.size = A at hD hQ
  have hA : ∀ q : Nat, s.heap.size ≤ q → A q := fun q h => by rw [← hAe]; exact Or.inr h
  have hS : va_S A s.heap s.heap [] := va_S.rf
  replace hP : va_P D vwCl (((a 0), .inr (2, [.ref (ex 0), .int (vi 0), .int (vi 1), .int (vi 2), .int (vi 3), .int (vi 4), .int (vi 5), .ref (a 3), .ref (a 5), .ref (a 7), .ref (a 9), .ref (a 11), .ref (a 13), .ref (a 15), .ref (a 17)])) :: ((a 1), .inr (2, [.ref (ex 1), .int (vi 6), .int (vi 7), .int (vi 8), .int (vi 9), .int (vi 10), .int (vi 11), .ref (a 2), .ref (a 4), .ref (a 6), .ref (a 8), .ref (a 10), .ref (a 12), .ref (a 14), .ref (a 16)])) :: ((a 2), .inl (T 1, 9, .inl (fi 0))) :: ((a 3), .inl (T 1, 9, .inl (fi 1))) :: ((a 4), .inl (T 1, 9, .inl (fi 2))) :: ((a 5), .inl (T 1, 9, .inl (fi 3))) :: ((a 6), .inl (T 1, 9, .inl (fi 4))) :: ((a 7), .inl (T 1, 9, .inl (fi 5))) :: ((a 8), .inl (T 1, 9, .inl (fi 6))) :: ((a 9), .inl (T 1, 9, .inl (fi 7))) :: ((a 10), .inl (T 1, 9, .inl (fi 8))) :: ((a 11), .inl (T 1, 9, .inl (fi 9))) :: ((a 12), .inl (T 1, 9, .inl (fi 10))) :: ((a 13), .inl (T 1, 9, .inl (fi 11))) :: ((a 14), .inl (T 1, 9, .inl (fi 12))) :: ((a 15), .inl (T 1, 9, .inl (fi 13))) :: ((a 16), .inl (T 2, 200, .inr (.inl (fl 0)))) :: ((a 17), .inl (T 2, 200, .inr (.inl (fl 1)))) :: []) s.heap := hP
  replace hD : va_D A (((a 0), .inr (2, [.ref (ex 0), .int (vi 0), .int (vi 1), .int (vi 2), .int (vi 3), .int (vi 4), .int (vi 5), .ref (a 3), .ref (a 5), .ref (a 7), .ref (a 9), .ref (a 11), .ref (a 13), .ref (a 15), .ref (a 17)])) :: ((a 1), .inr (2, [.ref (ex 1), .int (vi 6), .int (vi 7), .int (vi 8), .int (vi 9), .int (vi 10), .int (vi 11), .ref (a 2), .ref (a 4), .ref (a 6), .ref (a 8), .ref (a 10), .ref (a 12), .ref (a 14), .ref (a 16)])) :: ((a 2), .inl (T 1, 9, .inl (fi 0))) :: ((a 3), .inl (T 1, 9, .inl (fi 1))) :: ((a 4), .inl (T 1, 9, .inl (fi 2))) :: ((a 5), .inl (T 1, 9, .inl (fi 3))) :: ((a 6), .inl (T 1, 9, .inl (fi 4))) :: ((a 7), .inl (T 1, 9, .inl (fi 5))) :: ((a 8), .inl (T 1, 9, .inl (fi 6))) :: ((a 9), .inl (T 1, 9, .inl (fi 7))) :: ((a 10), .inl (T 1, 9, .inl (fi 8))) :: ((a 11), .inl (T 1, 9, .inl (fi 9))) :: ((a 12), .inl (T 1, 9, .inl (fi 10))) :: ((a 13), .inl (T 1, 9, .inl (fi 11))) :: ((a 14), .inl (T 1, 9, .inl (fi 12))) :: ((a 15), .inl (T 1, 9, .inl (fi 13))) :: ((a 16), .inl (T 2, 200, .inr (.inl (fl 0)))) :: ((a 17), .inl (T 2, 200, .inr (.inl (fl 1)))) :: []) := hD
  have hl := lv_entry ([.ref (a 0), .ref (a 1)]) (n := 2) (Nat.le_of_ble_eq_true rfl)
  rw [lg_entry_eq]
  generalize (lg_sl ([.ref (a 0), .ref (a 1)]) ++ List.replicate (2 - (lg_sl ([.ref (a 0), .ref (a 1)])).length) Slot.unset).toArray = ls at hl ⊢
  replace hl : lv_has ls 2 [(0, .ref (a 0)), (1, .ref (a 1))] := hl
  refine lv_aload_n hx hb dX2_copyFrom_0 rfl (lv_at hl 0 rfl) ?_
  refine lv_aload_n hx hb dX2_copyFrom_1 rfl (lv_at hl 1 rfl) ?_
  refine va_get (D := D) (ci := 2) (v := .int (vi 6)) (C := RX2) (T := TX2) (N := 15) hx hb htg inX2 hown hK.1 hP 1 rfl rfl 1 (by decide) (htg _ kw_247) (fun _ h9 => h9) rfl dX2_copyFrom_2 ?_
  refine va_put (D := D) (ci := 2) (v := .int (vi 6)) (ty := .int) (C := RX2) (T := TX2) (N := 15) hx hb htg inX2 tyX2 tyX2_ok nmX2 hown hK.1 hP hD hS 0 rfl rfl 1 (by decide) (htg _ kw_247) (fun _ h9 => h9) rfl (by decide +kernel) rfl rfl (Nat.le_of_ble_eq_true rfl) dX2_copyFrom_5 (fun H locs hP hD hS => ?_)
  replace hP : va_P D vwCl (((a 0), .inr (2, [.ref (ex 0), .int (vi 6), .int (vi 1), .int (vi 2), .int (vi 3), .int (vi 4), .int (vi 5), .ref (a 3), .ref (a 5), .ref (a 7), .ref (a 9), .ref (a 11), .ref (a 13), .ref (a 15), .ref (a 17)])) :: ((a 1), .inr (2, [.ref (ex 1), .int (vi 6), .int (vi 7), .int (vi 8), .int (vi 9), .int (vi 10), .int (vi 11), .ref (a 2), .ref (a 4), .ref (a 6), .ref (a 8), .ref (a 10), .ref (a 12), .ref (a 14), .ref (a 16)])) :: ((a 2), .inl (T 1, 9, .inl (fi 0))) :: ((a 3), .inl (T 1, 9, .inl (fi 1))) :: ((a 4), .inl (T 1, 9, .inl (fi 2))) :: ((a 5), .inl (T 1, 9, .inl (fi 3))) :: ((a 6), .inl (T 1, 9, .inl (fi 4))) :: ((a 7), .inl (T 1, 9, .inl (fi 5))) :: ((a 8), .inl (T 1, 9, .inl (fi 6))) :: ((a 9), .inl (T 1, 9, .inl (fi 7))) :: ((a 10), .inl (T 1, 9, .inl (fi 8))) :: ((a 11), .inl (T 1, 9, .inl (fi 9))) :: ((a 12), .inl (T 1, 9, .inl (fi 10))) :: ((a 13), .inl (T 1, 9, .inl (fi 11))) :: ((a 14), .inl (T 1, 9, .inl (fi 12))) :: ((a 15), .inl (T 1, 9, .inl (fi 13))) :: ((a 16), .inl (T 2, 200, .inr (.inl (fl 0)))) :: ((a 17), .inl (T 2, 200, .inr (.inl (fl 1)))) :: []) H := hP
  replace hD : va_D A (((a 0), .inr (2, [.ref (ex 0), .int (vi 6), .int (vi 1), .int (vi 2), .int (vi 3), .int (vi 4), .int (vi 5), .ref (a 3), .ref (a 5), .ref (a 7), .ref (a 9), .ref (a 11), .ref (a 13), .ref (a 15), .ref (a 17)])) :: ((a 1), .inr (2, [.ref (ex 1), .int (vi 6), .int (vi 7), .int (vi 8), .int (vi 9), .int (vi 10), .int (vi 11), .ref (a 2), .ref (a 4), .ref (a 6), .ref (a 8), .ref (a 10), .ref (a 12), .ref (a 14), .ref (a 16)])) :: ((a 2), .inl (T 1, 9, .inl (fi 0))) :: ((a 3), .inl (T 1, 9, .inl (fi 1))) :: ((a 4), .inl (T 1, 9, .inl (fi 2))) :: ((a 5), .inl (T 1, 9, .inl (fi 3))) :: ((a 6), .inl (T 1, 9, .inl (fi 4))) :: ((a 7), .inl (T 1, 9, .inl (fi 5))) :: ((a 8), .inl (T 1, 9, .inl (fi 6))) :: ((a 9), .inl (T 1, 9, .inl (fi 7))) :: ((a 10), .inl (T 1, 9, .inl (fi 8))) :: ((a 11), .inl (T 1, 9, .inl (fi 9))) :: ((a 12), .inl (T 1, 9, .inl (fi 10))) :: ((a 13), .inl (T 1, 9, .inl (fi 11))) :: ((a 14), .inl (T 1, 9, .inl (fi 12))) :: ((a 15), .inl (T 1, 9, .inl (fi 13))) :: ((a 16), .inl (T 2, 200, .inr (.inl (fl 0)))) :: ((a 17), .inl (T 2, 200, .inr (.inl (fl 1)))) :: []) := hD
  refine lv_aload_n hx hb dX2_copyFrom_8 rfl (lv_at hl 0 rfl) ?_
  refine lv_aload_n hx hb dX2_copyFrom_9 rfl (lv_at hl 1 rfl) ?_
  refine va_get (D := D) (ci := 2) (v := .int (vi 7)) (C := RX2) (T := TX2) (N := 15) hx hb htg inX2 hown hK.1 hP 1 rfl rfl 2 (by decide) (htg _ kw_250) (fun _ h9 => h9) rfl dX2_copyFrom_10 ?_
  refine va_put (D := D) (ci := 2) (v := .int (vi 7)) (ty := .int) (C := RX2) (T := TX2) (N := 15) hx hb htg inX2 tyX2 tyX2_ok nmX2 hown hK.1 hP hD hS 0 rfl rfl 2 (by decide) (htg _ kw_250) (fun _ h9 => h9) rfl (by decide +kernel) rfl rfl (Nat.le_of_ble_eq_true rfl) dX2_copyFrom_13 (fun H locs hP hD hS => ?_)
  replace hP : va_P D vwCl (((a 0), .inr (2, [.ref (ex 0), .int (vi 6), .int (vi 7), .int (vi 2), .int (vi 3), .int (vi 4), .int (vi 5), .ref (a 3), .ref (a 5), .ref (a 7), .ref (a 9), .ref (a 11), .ref (a 13), .ref (a 15), .ref (a 17)])) :: ((a 1), .inr (2, [.ref (ex 1), .int (vi 6), .int (vi 7), .int (vi 8), .int (vi 9), .int (vi 10), .int (vi 11), .ref (a 2), .ref (a 4), .ref (a 6), .ref (a 8), .ref (a 10), .ref (a 12), .ref (a 14), .ref (a 16)])) :: ((a 2), .inl (T 1, 9, .inl (fi 0))) :: ((a 3), .inl (T 1, 9, .inl (fi 1))) :: ((a 4), .inl (T 1, 9, .inl (fi 2))) :: ((a 5), .inl (T 1, 9, .inl (fi 3))) :: ((a 6), .inl (T 1, 9, .inl (fi 4))) :: ((a 7), .inl (T 1, 9, .inl (fi 5))) :: ((a 8), .inl (T 1, 9, .inl (fi 6))) :: ((a 9), .inl (T 1, 9, .inl (fi 7))) :: ((a 10), .inl (T 1, 9, .inl (fi 8))) :: ((a 11), .inl (T 1, 9, .inl (fi 9))) :: ((a 12), .inl (T 1, 9, .inl (fi 10))) :: ((a 13), .inl (T 1, 9, .inl (fi 11))) :: ((a 14), .inl (T 1, 9, .inl (fi 12))) :: ((a 15), .inl (T 1, 9, .inl (fi 13))) :: ((a 16), .inl (T 2, 200, .inr (.inl (fl 0)))) :: ((a 17), .inl (T 2, 200, .inr (.inl (fl 1)))) :: []) H := hP
  replace hD : va_D A (((a 0), .inr (2, [.ref (ex 0), .int (vi 6), .int (vi 7), .int (vi 2), .int (vi 3), .int (vi 4), .int (vi 5), .ref (a 3), .ref (a 5), .ref (a 7), .ref (a 9), .ref (a 11), .ref (a 13), .ref (a 15), .ref (a 17)])) :: ((a 1), .inr (2, [.ref (ex 1), .int (vi 6), .int (vi 7), .int (vi 8), .int (vi 9), .int (vi 10), .int (vi 11), .ref (a 2), .ref (a 4), .ref (a 6), .ref (a 8), .ref (a 10), .ref (a 12), .ref (a 14), .ref (a 16)])) :: ((a 2), .inl (T 1, 9, .inl (fi 0))) :: ((a 3), .inl (T 1, 9, .inl (fi 1))) :: ((a 4), .inl (T 1, 9, .inl (fi 2))) :: ((a 5), .inl (T 1, 9, .inl (fi 3))) :: ((a 6), .inl (T 1, 9, .inl (fi 4))) :: ((a 7), .inl (T 1, 9, .inl (fi 5))) :: ((a 8), .inl (T 1, 9, .inl (fi 6))) :: ((a 9), .inl (T 1, 9, .inl (fi 7))) :: ((a 10), .inl (T 1, 9, .inl (fi 8))) :: ((a 11), .inl (T 1, 9, .inl (fi 9))) :: ((a 12), .inl (T 1, 9, .inl (fi 10))) :: ((a 13), .inl (T 1, 9, .inl (fi 11))) :: ((a 14), .inl (T 1, 9, .inl (fi 12))) :: ((a 15), .inl (T 1, 9, .inl (fi 13))) :: ((a 16), .inl (T 2, 200, .inr (.inl (fl 0)))) :: ((a 17), .inl (T 2, 200, .inr (.inl (fl 1)))) :: []) := hD
  refine lv_aload_n hx hb dX2_copyFrom_16 rfl (lv_at hl 0 rfl) ?_
  refine lv_aload_n hx hb dX2_copyFrom_17 rfl (lv_at hl 1 rfl) ?_
  refine va_get (D := D) (ci := 2) (v := .int (vi 8)) (C := RX2) (T := TX2) (N := 15) hx hb htg inX2 hown hK.1 hP 1 rfl rfl 3 (by decide) (htg _ kw_252) (fun _ h9 => h9) rfl dX2_copyFrom_18 ?_
  refine va_put (D := D) (ci := 2) (v := .int (vi 8)) (ty := .int) (C := RX2) (T := TX2) (N := 15) hx hb htg inX2 tyX2 tyX2_ok nmX2 hown hK.1 hP hD hS 0 rfl rfl 3 (by decide) (htg _ kw_252) (fun _ h9 => h9) rfl (by decide +kernel) rfl rfl (Nat.le_of_ble_eq_true rfl) dX2_copyFrom_21 (fun H locs hP hD hS => ?_)
  replace hP : va_P D vwCl (((a 0), .inr (2, [.ref (ex 0), .int (vi 6), .int (vi 7), .int (vi 8), .int (vi 3), .int (vi 4), .int (vi 5), .ref (a 3), .ref (a 5), .ref (a 7), .ref (a 9), .ref (a 11), .ref (a 13), .ref (a 15), .ref (a 17)])) :: ((a 1), .inr (2, [.ref (ex 1), .int (vi 6), .int (vi 7), .int (vi 8), .int (vi 9), .int (vi 10), .int (vi 11), .ref (a 2), .ref (a 4), .ref (a 6), .ref (a 8), .ref (a 10), .ref (a 12), .ref (a 14), .ref (a 16)])) :: ((a 2), .inl (T 1, 9, .inl (fi 0))) :: ((a 3), .inl (T 1, 9, .inl (fi 1))) :: ((a 4), .inl (T 1, 9, .inl (fi 2))) :: ((a 5), .inl (T 1, 9, .inl (fi 3))) :: ((a 6), .inl (T 1, 9, .inl (fi 4))) :: ((a 7), .inl (T 1, 9, .inl (fi 5))) :: ((a 8), .inl (T 1, 9, .inl (fi 6))) :: ((a 9), .inl (T 1, 9, .inl (fi 7))) :: ((a 10), .inl (T 1, 9, .inl (fi 8))) :: ((a 11), .inl (T 1, 9, .inl (fi 9))) :: ((a 12), .inl (T 1, 9, .inl (fi 10))) :: ((a 13), .inl (T 1, 9, .inl (fi 11))) :: ((a 14), .inl (T 1, 9, .inl (fi 12))) :: ((a 15), .inl (T 1, 9, .inl (fi 13))) :: ((a 16), .inl (T 2, 200, .inr (.inl (fl 0)))) :: ((a 17), .inl (T 2, 200, .inr (.inl (fl 1)))) :: []) H := hP
  replace hD : va_D A (((a 0), .inr (2, [.ref (ex 0), .int (vi 6), .int (vi 7), .int (vi 8), .int (vi 3), .int (vi 4), .int (vi 5), .ref (a 3), .ref (a 5), .ref (a 7), .ref (a 9), .ref (a 11), .ref (a 13), .ref (a 15), .ref (a 17)])) :: ((a 1), .inr (2, [.ref (ex 1), .int (vi 6), .int (vi 7), .int (vi 8), .int (vi 9), .int (vi 10), .int (vi 11), .ref (a 2), .ref (a 4), .ref (a 6), .ref (a 8), .ref (a 10), .ref (a 12), .ref (a 14), .ref (a 16)])) :: ((a 2), .inl (T 1, 9, .inl (fi 0))) :: ((a 3), .inl (T 1, 9, .inl (fi 1))) :: ((a 4), .inl (T 1, 9, .inl (fi 2))) :: ((a 5), .inl (T 1, 9, .inl (fi 3))) :: ((a 6), .inl (T 1, 9, .inl (fi 4))) :: ((a 7), .inl (T 1, 9, .inl (fi 5))) :: ((a 8), .inl (T 1, 9, .inl (fi 6))) :: ((a 9), .inl (T 1, 9, .inl (fi 7))) :: ((a 10), .inl (T 1, 9, .inl (fi 8))) :: ((a 11), .inl (T 1, 9, .inl (fi 9))) :: ((a 12), .inl (T 1, 9, .inl (fi 10))) :: ((a 13), .inl (T 1, 9, .inl (fi 11))) :: ((a 14), .inl (T 1, 9, .inl (fi 12))) :: ((a 15), .inl (T 1, 9, .inl (fi 13))) :: ((a 16), .inl (T 2, 200, .inr (.inl (fl 0)))) :: ((a 17), .inl (T 2, 200, .inr (.inl (fl 1)))) :: []) := hD
  refine lv_aload_n hx hb dX2_copyFrom_24 rfl (lv_at hl 0 rfl) ?_
  refine lv_aload_n hx hb dX2_copyFrom_25 rfl (lv_at hl 1 rfl) ?_
  refine va_get (D := D) (ci := 2) (v := .int (vi 9)) (C := RX2) (T := TX2) (N := 15) hx hb htg inX2 hown hK.1 hP 1 rfl rfl 4 (by decide) (htg _ kw_253) (fun _ h9 => h9) rfl dX2_copyFrom_26 ?_
  refine va_put (D := D) (ci := 2) (v := .int (vi 9)) (ty := .int) (C := RX2) (T := TX2) (N := 15) hx hb htg inX2 tyX2 tyX2_ok nmX2 hown hK.1 hP hD hS 0 rfl rfl 4 (by decide) (htg _ kw_253) (fun _ h9 => h9) rfl (by decide +kernel) rfl rfl (Nat.le_of_ble_eq_true rfl) dX2_copyFrom_29 (fun H locs hP hD hS => ?_)
  replace hP : va_P D vwCl (((a 0), .inr (2, [.ref (ex 0), .int (vi 6), .int (vi 7), .int (vi 8), .int (vi 9), .int (vi 4), .int (vi 5), .ref (a 3), .ref (a 5), .ref (a 7), .ref (a 9), .ref (a 11), .ref (a 13), .ref (a 15), .ref (a 17)])) :: ((a 1), .inr (2, [.ref (ex 1), .int (vi 6), .int (vi 7), .int (vi 8), .int (vi 9), .int (vi 10), .int (vi 11), .ref (a 2), .ref (a 4), .ref (a 6), .ref (a 8), .ref (a 10), .ref (a 12), .ref (a 14), .ref (a 16)])) :: ((a 2), .inl (T 1, 9, .inl (fi 0))) :: ((a 3), .inl (T 1, 9, .inl (fi 1))) :: ((a 4), .inl (T 1, 9, .inl (fi 2))) :: ((a 5), .inl (T 1, 9, .inl (fi 3))) :: ((a 6), .inl (T 1, 9, .inl (fi 4))) :: ((a 7), .inl (T 1, 9, .inl (fi 5))) :: ((a 8), .inl (T 1, 9, .inl (fi 6))) :: ((a 9), .inl (T 1, 9, .inl (fi 7))) :: ((a 10), .inl (T 1, 9, .inl (fi 8))) :: ((a 11), .inl (T 1, 9, .inl (fi 9))) :: ((a 12), .inl (T 1, 9, .inl (fi 10))) :: ((a 13), .inl (T 1, 9, .inl (fi 11))) :: ((a 14), .inl (T 1, 9, .inl (fi 12))) :: ((a 15), .inl (T 1, 9, .inl (fi 13))) :: ((a 16), .inl (T 2, 200, .inr (.inl (fl 0)))) :: ((a 17), .inl (T 2, 200, .inr (.inl (fl 1)))) :: []) H := hP
  replace hD : va_D A (((a 0), .inr (2, [.ref (ex 0), .int (vi 6), .int (vi 7), .int (vi 8), .int (vi 9), .int (vi 4), .int (vi 5), .ref (a 3), .ref (a 5), .ref (a 7), .ref (a 9), .ref (a 11), .ref (a 13), .ref (a 15), .ref (a 17)])) :: ((a 1), .inr (2, [.ref (ex 1), .int (vi 6), .int (vi 7), .int (vi 8), .int (vi 9), .int (vi 10), .int (vi 11), .ref (a 2), .ref (a 4), .ref (a 6), .ref (a 8), .ref (a 10), .ref (a 12), .ref (a 14), .ref (a 16)])) :: ((a 2), .inl (T 1, 9, .inl (fi 0))) :: ((a 3), .inl (T 1, 9, .inl (fi 1))) :: ((a 4), .inl (T 1, 9, .inl (fi 2))) :: ((a 5), .inl (T 1, 9, .inl (fi 3))) :: ((a 6), .inl (T 1, 9, .inl (fi 4))) :: ((a 7), .inl (T 1, 9, .inl (fi 5))) :: ((a 8), .inl (T 1, 9, .inl (fi 6))) :: ((a 9), .inl (T 1, 9, .inl (fi 7))) :: ((a 10), .inl (T 1, 9, .inl (fi 8))) :: ((a 11), .inl (T 1, 9, .inl (fi 9))) :: ((a 12), .inl (T 1, 9, .inl (fi 10))) :: ((a 13), .inl (T 1, 9, .inl (fi 11))) :: ((a 14), .inl (T 1, 9, .inl (fi 12))) :: ((a 15), .inl (T 1, 9, .inl (fi 13))) :: ((a 16), .inl (T 2, 200, .inr (.inl (fl 0)))) :: ((a 17), .inl (T 2, 200, .inr (.inl (fl 1)))) :: []) := hD
  refine lv_aload_n hx hb dX2_copyFrom_32 rfl (lv_at hl 0 rfl) ?_
  refine lv_aload_n hx hb dX2_copyFrom_33 rfl (lv_at hl 1 rfl) ?_
  refine va_get (D := D) (ci := 2) (v := .int (vi 10)) (C := RX2) (T := TX2) (N := 15) hx hb htg inX2 hown hK.1 hP 1 rfl rfl 5 (by decide) (htg _ kw_255) (fun _ h9 => h9) rfl dX2_copyFrom_34 ?_
  refine va_put (D := D) (ci := 2) (v := .int (vi 10)) (ty := .int) (C := RX2) (T := TX2) (N := 15) hx hb htg inX2 tyX2 tyX2_ok nmX2 hown hK.1 hP hD hS 0 rfl rfl 5 (by decide) (htg _ kw_255) (fun _ h9 => h9) rfl (by decide +kernel) rfl rfl (Nat.le_of_ble_eq_true rfl) dX2_copyFrom_37 (fun H locs hP hD hS => ?_)
  replace hP : va_P D vwCl (((a 0), .inr (2, [.ref (ex 0), .int (vi 6), .int (vi 7), .int (vi 8), .int (vi 9), .int (vi 10), .int (vi 5), .ref (a 3), .ref (a 5), .ref (a 7), .ref (a 9), .ref (a 11), .ref (a 13), .ref (a 15), .ref (a 17)])) :: ((a 1), .inr (2, [.ref (ex 1), .int (vi 6), .int (vi 7), .int (vi 8), .int (vi 9), .int (vi 10), .int (vi 11), .ref (a 2), .ref (a 4), .ref (a 6), .ref (a 8), .ref (a 10), .ref (a 12), .ref (a 14), .ref (a 16)])) :: ((a 2), .inl (T 1, 9, .inl (fi 0))) :: ((a 3), .inl (T 1, 9, .inl (fi 1))) :: ((a 4), .inl (T 1, 9, .inl (fi 2))) :: ((a 5), .inl (T 1, 9, .inl (fi 3))) :: ((a 6), .inl (T 1, 9, .inl (fi 4))) :: ((a 7), .inl (T 1, 9, .inl (fi 5))) :: ((a 8), .inl (T 1, 9, .inl (fi 6))) :: ((a 9), .inl (T 1, 9, .inl (fi 7))) :: ((a 10), .inl (T 1, 9, .inl (fi 8))) :: ((a 11), .inl (T 1, 9, .inl (fi 9))) :: ((a 12), .inl (T 1, 9, .inl (fi 10))) :: ((a 13), .inl (T 1, 9, .inl (fi 11))) :: ((a 14), .inl (T 1, 9, .inl (fi 12))) :: ((a 15), .inl (T 1, 9, .inl (fi 13))) :: ((a 16), .inl (T 2, 200, .inr (.inl (fl 0)))) :: ((a 17), .inl (T 2, 200, .inr (.inl (fl 1)))) :: []) H := hP
  replace hD : va_D A (((a 0), .inr (2, [.ref (ex 0), .int (vi 6), .int (vi 7), .int (vi 8), .int (vi 9), .int (vi 10), .int (vi 5), .ref (a 3), .ref (a 5), .ref (a 7), .ref (a 9), .ref (a 11), .ref (a 13), .ref (a 15), .ref (a 17)])) :: ((a 1), .inr (2, [.ref (ex 1), .int (vi 6), .int (vi 7), .int (vi 8), .int (vi 9), .int (vi 10), .int (vi 11), .ref (a 2), .ref (a 4), .ref (a 6), .ref (a 8), .ref (a 10), .ref (a 12), .ref (a 14), .ref (a 16)])) :: ((a 2), .inl (T 1, 9, .inl (fi 0))) :: ((a 3), .inl (T 1, 9, .inl (fi 1))) :: ((a 4), .inl (T 1, 9, .inl (fi 2))) :: ((a 5), .inl (T 1, 9, .inl (fi 3))) :: ((a 6), .inl (T 1, 9, .inl (fi 4))) :: ((a 7), .inl (T 1, 9, .inl (fi 5))) :: ((a 8), .inl (T 1, 9, .inl (fi 6))) :: ((a 9), .inl (T 1, 9, .inl (fi 7))) :: ((a 10), .inl (T 1, 9, .inl (fi 8))) :: ((a 11), .inl (T 1, 9, .inl (fi 9))) :: ((a 12), .inl (T 1, 9, .inl (fi 10))) :: ((a 13), .inl (T 1, 9, .inl (fi 11))) :: ((a 14), .inl (T 1, 9, .inl (fi 12))) :: ((a 15), .inl (T 1, 9, .inl (fi 13))) :: ((a 16), .inl (T 2, 200, .inr (.inl (fl 0)))) :: ((a 17), .inl (T 2, 200, .inr (.inl (fl 1)))) :: []) := hD
  refine lv_aload_n hx hb dX2_copyFrom_40 rfl (lv_at hl 0 rfl) ?_
  refine lv_aload_n hx hb dX2_copyFrom_41 rfl (lv_at hl 1 rfl) ?_
  refine va_get (D := D) (ci := 2) (v := .int (vi 11)) (C := RX2) (T := TX2) (N := 15) hx hb htg inX2 hown hK.1 hP 1 rfl rfl 6 (by decide) (htg _ kw_257) (fun _ h9 => h9) rfl dX2_copyFrom_42 ?_
  refine va_put (D := D) (ci := 2) (v := .int (vi 11)) (ty := .int) (C := RX2) (T := TX2) (N := 15) hx hb htg inX2 tyX2 tyX2_ok nmX2 hown hK.1 hP hD hS 0 rfl rfl 6 (by decide) (htg _ kw_257) (fun _ h9 => h9) rfl (by decide +kernel) rfl rfl (Nat.le_of_ble_eq_true rfl) dX2_copyFrom_45 (fun H locs hP hD hS => ?_)
  replace hP : va_P D vwCl (((a 0), .inr (2, [.ref (ex 0), .int (vi 6), .int (vi 7), .int (vi 8), .int (vi 9), .int (vi 10), .int (vi 11), .ref (a 3), .ref (a 5), .ref (a 7), .ref (a 9), .ref (a 11), .ref (a 13), .ref (a 15), .ref (a 17)])) :: ((a 1), .inr (2, [.ref (ex 1), .int (vi 6), .int (vi 7), .int (vi 8), .int (vi 9), .int (vi 10), .int (vi 11), .ref (a 2), .ref (a 4), .ref (a 6), .ref (a 8), .ref (a 10), .ref (a 12), .ref (a 14), .ref (a 16)])) :: ((a 2), .inl (T 1, 9, .inl (fi 0))) :: ((a 3), .inl (T 1, 9, .inl (fi 1))) :: ((a 4), .inl (T 1, 9, .inl (fi 2))) :: ((a 5), .inl (T 1, 9, .inl (fi 3))) :: ((a 6), .inl (T 1, 9, .inl (fi 4))) :: ((a 7), .inl (T 1, 9, .inl (fi 5))) :: ((a 8), .inl (T 1, 9, .inl (fi 6))) :: ((a 9), .inl (T 1, 9, .inl (fi 7))) :: ((a 10), .inl (T 1, 9, .inl (fi 8))) :: ((a 11), .inl (T 1, 9, .inl (fi 9))) :: ((a 12), .inl (T 1, 9, .inl (fi 10))) :: ((a 13), .inl (T 1, 9, .inl (fi 11))) :: ((a 14), .inl (T 1, 9, .inl (fi 12))) :: ((a 15), .inl (T 1, 9, .inl (fi 13))) :: ((a 16), .inl (T 2, 200, .inr (.inl (fl 0)))) :: ((a 17), .inl (T 2, 200, .inr (.inl (fl 1)))) :: []) H := hP
  replace hD : va_D A (((a 0), .inr (2, [.ref (ex 0), .int (vi 6), .int (vi 7), .int (vi 8), .int (vi 9), .int (vi 10), .int (vi 11), .ref (a 3), .ref (a 5), .ref (a 7), .ref (a 9), .ref (a 11), .ref (a 13), .ref (a 15), .ref (a 17)])) :: ((a 1), .inr (2, [.ref (ex 1), .int (vi 6), .int (vi 7), .int (vi 8), .int (vi 9), .int (vi 10), .int (vi 11), .ref (a 2), .ref (a 4), .ref (a 6), .ref (a 8), .ref (a 10), .ref (a 12), .ref (a 14), .ref (a 16)])) :: ((a 2), .inl (T 1, 9, .inl (fi 0))) :: ((a 3), .inl (T 1, 9, .inl (fi 1))) :: ((a 4), .inl (T 1, 9, .inl (fi 2))) :: ((a 5), .inl (T 1, 9, .inl (fi 3))) :: ((a 6), .inl (T 1, 9, .inl (fi 4))) :: ((a 7), .inl (T 1, 9, .inl (fi 5))) :: ((a 8), .inl (T 1, 9, .inl (fi 6))) :: ((a 9), .inl (T 1, 9, .inl (fi 7))) :: ((a 10), .inl (T 1, 9, .inl (fi 8))) :: ((a 11), .inl (T 1, 9, .inl (fi 9))) :: ((a 12), .inl (T 1, 9, .inl (fi 10))) :: ((a 13), .inl (T 1, 9, .inl (fi 11))) :: ((a 14), .inl (T 1, 9, .inl (fi 12))) :: ((a 15), .inl (T 1, 9, .inl (fi 13))) :: ((a 16), .inl (T 2, 200, .inr (.inl (fl 0)))) :: ((a 17), .inl (T 2, 200, .inr (.inl (fl 1)))) :: []) := hD
  refine lv_aload_n hx hb dX2_copyFrom_48 rfl (lv_at hl 1 rfl) ?_
  refine va_get (D := D) (ci := 2) (v := .ref (a 2)) (C := RX2) (T := TX2) (N := 15) hx hb htg inX2 hown hK.1 hP 1 rfl rfl 7 (by decide) (htg _ kw_260) (fun _ h9 => h9) rfl dX2_copyFrom_49 ?_
  refine lv_aload_n hx hb dX2_copyFrom_52 rfl (lv_at hl 0 rfl) ?_
  refine va_get (D := D) (ci := 2) (v := .ref (a 3)) (C := RX2) (T := TX2) (N := 15) hx hb htg inX2 hown hK.1 hP 0 rfl rfl 7 (by decide) (htg _ kw_260) (fun _ h9 => h9) rfl dX2_copyFrom_53 ?_
  have hPc := hP.sub (ws' := (pre_X11_copyRow T (xa [(a 2), (a 3)]) (xa []) (xf [(fi 0), (fi 1)]) (xh []) (xv []) (xl []))) [2, 3] rfl
  have hDc := hD.sub (ws' := (pre_X11_copyRow T (xa [(a 2), (a 3)]) (xa []) (xf [(fi 0), (fi 1)]) (xh []) (xv []) (xl []))) [2, 3] (by decide) rfl
  have hFc := va_free (wc := (pre_X11_copyRow T (xa [(a 2), (a 3)]) (xa []) (xf [(fi 0), (fi 1)]) (xh []) (xv []) (xl []))) hD hS hA [2, 3] rfl
  refine va_callv (va_runSN (As := [.ref (a 2), .ref (a 3)]) (rest := []) ⟨hx, hb, hml, hown, htg⟩ (c_X11_copyRow l D T (xa [(a 2), (a 3)]) (xa []) (xf [(fi 0), (fi 1)]) (xh []) (xv []) (xl []) H.size) ⟨va_cnB 2 htg (xg_ok kw_714) rfl rfl rfl (hK.2.1 _ kn_835) (htg _ kw_1) (by decide +kernel) ⟨by rw [hR]; exact Nat.le_of_ble_eq_true rfl, by rw [hR]; exact Nat.le_of_ble_eq_true rfl⟩, htg _ kw_713, trivial⟩ (xpreS hK hPc hDc) rfl rfl hl.1 rfl (lv_room (Nat.le_of_ble_eq_true rfl)) dX2_copyFrom_56 ⟨by rw [hR]; exact Nat.le_of_ble_eq_true rfl, by rw [hR]; exact Nat.le_of_ble_eq_true rfl⟩) hS (fun q _ h => hFc q h) hFc (fun u9 t H1 locs ht hvm hw hB hz1 hk1 hS => ?_)
  obtain ⟨fik, flk, vik, vlk, hP1, hD1, hG⟩ := hB
  rw [ht] at hP1
  obtain ⟨hP, hD⟩ := va_join (wr := [((a 0), .inr (2, [.ref (ex 0), .int (vi 6), .int (vi 7), .int (vi 8), .int (vi 9), .int (vi 10), .int (vi 11), .ref (a 3), .ref (a 5), .ref (a 7), .ref (a 9), .ref (a 11), .ref (a 13), .ref (a 15), .ref (a 17)])), ((a 1), .inr (2, [.ref (ex 1), .int (vi 6), .int (vi 7), .int (vi 8), .int (vi 9), .int (vi 10), .int (vi 11), .ref (a 2), .ref (a 4), .ref (a 6), .ref (a 8), .ref (a 10), .ref (a 12), .ref (a 14), .ref (a 16)])), ((a 4), .inl (T 1, 9, .inl (fi 2))), ((a 5), .inl (T 1, 9, .inl (fi 3))), ((a 6), .inl (T 1, 9, .inl (fi 4))), ((a 7), .inl (T 1, 9, .inl (fi 5))), ((a 8), .inl (T 1, 9, .inl (fi 6))), ((a 9), .inl (T 1, 9, .inl (fi 7))), ((a 10), .inl (T 1, 9, .inl (fi 8))), ((a 11), .inl (T 1, 9, .inl (fi 9))), ((a 12), .inl (T 1, 9, .inl (fi 10))), ((a 13), .inl (T 1, 9, .inl (fi 11))), ((a 14), .inl (T 1, 9, .inl (fi 12))), ((a 15), .inl (T 1, 9, .inl (fi 13))), ((a 16), .inl (T 2, 200, .inr (.inl (fl 0)))), ((a 17), .inl (T 2, 200, .inr (.inl (fl 1))))]) (w1 := [((a 2), .inl (T 1, 9, .inl (fi 0))), ((a 3), .inl (T 1, 9, .inl (fik 0)))]) hP hD [2, 3] [0, 1, 4, 5, 6, 7, 8, 9, 10, 11, 12, 13, 14, 15, 16, 17] rfl rfl (by decide) (by decide) hk1 hFc hP1 hD1
  clear hPc hDc hFc hP1 hD1 hk1 hz1 hvm ht
  generalize H1 = H at hP hS ⊢
  replace hP : va_P D vwCl (((a 0), .inr (2, [.ref (ex 0), .int (vi 6), .int (vi 7), .int (vi 8), .int (vi 9), .int (vi 10), .int (vi 11), .ref (a 3), .ref (a 5), .ref (a 7), .ref (a 9), .ref (a 11), .ref (a 13), .ref (a 15), .ref (a 17)])) :: ((a 1), .inr (2, [.ref (ex 1), .int (vi 6), .int (vi 7), .int (vi 8), .int (vi 9), .int (vi 10), .int (vi 11), .ref (a 2), .ref (a 4), .ref (a 6), .ref (a 8), .ref (a 10), .ref (a 12), .ref (a 14), .ref (a 16)])) :: ((a 4), .inl (T 1, 9, .inl (fi 2))) :: ((a 5), .inl (T 1, 9, .inl (fi 3))) :: ((a 6), .inl (T 1, 9, .inl (fi 4))) :: ((a 7), .inl (T 1, 9, .inl (fi 5))) :: ((a 8), .inl (T 1, 9, .inl (fi 6))) :: ((a 9), .inl (T 1, 9, .inl (fi 7))) :: ((a 10), .inl (T 1, 9, .inl (fi 8))) :: ((a 11), .inl (T 1, 9, .inl (fi 9))) :: ((a 12), .inl (T 1, 9, .inl (fi 10))) :: ((a 13), .inl (T 1, 9, .inl (fi 11))) :: ((a 14), .inl (T 1, 9, .inl (fi 12))) :: ((a 15), .inl (T 1, 9, .inl (fi 13))) :: ((a 16), .inl (T 2, 200, .inr (.inl (fl 0)))) :: ((a 17), .inl (T 2, 200, .inr (.inl (fl 1)))) :: ((a 2), .inl (T 1, 9, .inl (fi 0))) :: ((a 3), .inl (T 1, 9, .inl (fik 0))) :: []) H := hP
  replace hD : va_D A (((a 0), .inr (2, [.ref (ex 0), .int (vi 6), .int (vi 7), .int (vi 8), .int (vi 9), .int (vi 10), .int (vi 11), .ref (a 3), .ref (a 5), .ref (a 7), .ref (a 9), .ref (a 11), .ref (a 13), .ref (a 15), .ref (a 17)])) :: ((a 1), .inr (2, [.ref (ex 1), .int (vi 6), .int (vi 7), .int (vi 8), .int (vi 9), .int (vi 10), .int (vi 11), .ref (a 2), .ref (a 4), .ref (a 6), .ref (a 8), .ref (a 10), .ref (a 12), .ref (a 14), .ref (a 16)])) :: ((a 4), .inl (T 1, 9, .inl (fi 2))) :: ((a 5), .inl (T 1, 9, .inl (fi 3))) :: ((a 6), .inl (T 1, 9, .inl (fi 4))) :: ((a 7), .inl (T 1, 9, .inl (fi 5))) :: ((a 8), .inl (T 1, 9, .inl (fi 6))) :: ((a 9), .inl (T 1, 9, .inl (fi 7))) :: ((a 10), .inl (T 1, 9, .inl (fi 8))) :: ((a 11), .inl (T 1, 9, .inl (fi 9))) :: ((a 12), .inl (T 1, 9, .inl (fi 10))) :: ((a 13), .inl (T 1, 9, .inl (fi 11))) :: ((a 14), .inl (T 1, 9, .inl (fi 12))) :: ((a 15), .inl (T 1, 9, .inl (fi 13))) :: ((a 16), .inl (T 2, 200, .inr (.inl (fl 0)))) :: ((a 17), .inl (T 2, 200, .inr (.inl (fl 1)))) :: ((a 2), .inl (T 1, 9, .inl (fi 0))) :: ((a 3), .inl (T 1, 9, .inl (fik 0))) :: []) := hD
  obtain ⟨gk_0, -⟩ := hG
  replace gk_0 : ∀ j : Nat, j < 9 → (fik 0) j = (fi 0) j := gk_0
  have hr56 : rg (fik 0) 0 9 (-1) 8 := rg_eq gk_0 hp4
  refine lv_aload_n hx hb dX2_copyFrom_59 rfl (lv_at hl 1 rfl) ?_
  refine va_get (D := D) (ci := 2) (v := .ref (a 4)) (C := RX2) (T := TX2) (N := 15) hx hb htg inX2 hown hK.1 hP 1 rfl rfl 8 (by decide) (htg _ kw_264) (fun _ h9 => h9) rfl dX2_copyFrom_60 ?_
  refine lv_aload_n hx hb dX2_copyFrom_63 rfl (lv_at hl 0 rfl) ?_
  refine va_get (D := D) (ci := 2) (v := .ref (a 5)) (C := RX2) (T := TX2) (N := 15) hx hb htg inX2 hown hK.1 hP 0 rfl rfl 8 (by decide) (htg _ kw_264) (fun _ h9 => h9) rfl dX2_copyFrom_64 ?_
  have hPc := hP.sub (ws' := (pre_X11_copyRow T (xa [(a 4), (a 5)]) (xa []) (xf [(fi 2), (fi 3)]) (xh []) (xv []) (xl []))) [2, 3] rfl
  have hDc := hD.sub (ws' := (pre_X11_copyRow T (xa [(a 4), (a 5)]) (xa []) (xf [(fi 2), (fi 3)]) (xh []) (xv []) (xl []))) [2, 3] (by decide) rfl
  have hFc := va_free (wc := (pre_X11_copyRow T (xa [(a 4), (a 5)]) (xa []) (xf [(fi 2), (fi 3)]) (xh []) (xv []) (xl []))) hD hS hA [2, 3] rfl
  refine va_callv (va_runSN (As := [.ref (a 4), .ref (a 5)]) (rest := []) ⟨hx, hb, hml, hown, htg⟩ (c_X11_copyRow l D T (xa [(a 4), (a 5)]) (xa []) (xf [(fi 2), (fi 3)]) (xh []) (xv []) (xl []) H.size) ⟨va_cnB 2 htg (xg_ok kw_714) rfl rfl rfl (hK.2.1 _ kn_835) (htg _ kw_1) (by decide +kernel) ⟨by rw [hR]; exact Nat.le_of_ble_eq_true rfl, by rw [hR]; exact Nat.le_of_ble_eq_true rfl⟩, htg _ kw_713, trivial⟩ (xpreS hK hPc hDc) rfl rfl hl.1 rfl (lv_room (Nat.le_of_ble_eq_true rfl)) dX2_copyFrom_67 ⟨by rw [hR]; exact Nat.le_of_ble_eq_true rfl, by rw [hR]; exact Nat.le_of_ble_eq_true rfl⟩) hS (fun q _ h => hFc q h) hFc (fun u9 t H1 locs ht hvm hw hB hz1 hk1 hS => ?_)
  obtain ⟨fik_1, flk_1, vik_1, vlk_1, hP1, hD1, hG⟩ := hB
  rw [ht] at hP1
  obtain ⟨hP, hD⟩ := va_join (wr := [((a 0), .inr (2, [.ref (ex 0), .int (vi 6), .int (vi 7), .int (vi 8), .int (vi 9), .int (vi 10), .int (vi 11), .ref (a 3), .ref (a 5), .ref (a 7), .ref (a 9), .ref (a 11), .ref (a 13), .ref (a 15), .ref (a 17)])), ((a 1), .inr (2, [.ref (ex 1), .int (vi 6), .int (vi 7), .int (vi 8), .int (vi 9), .int (vi 10), .int (vi 11), .ref (a 2), .ref (a 4), .ref (a 6), .ref (a 8), .ref (a 10), .ref (a 12), .ref (a 14), .ref (a 16)])), ((a 6), .inl (T 1, 9, .inl (fi 4))), ((a 7), .inl (T 1, 9, .inl (fi 5))), ((a 8), .inl (T 1, 9, .inl (fi 6))), ((a 9), .inl (T 1, 9, .inl (fi 7))), ((a 10), .inl (T 1, 9, .inl (fi 8))), ((a 11), .inl (T 1, 9, .inl (fi 9))), ((a 12), .inl (T 1, 9, .inl (fi 10))), ((a 13), .inl (T 1, 9, .inl (fi 11))), ((a 14), .inl (T 1, 9, .inl (fi 12))), ((a 15), .inl (T 1, 9, .inl (fi 13))), ((a 16), .inl (T 2, 200, .inr (.inl (fl 0)))), ((a 17), .inl (T 2, 200, .inr (.inl (fl 1)))), ((a 2), .inl (T 1, 9, .inl (fi 0))), ((a 3), .inl (T 1, 9, .inl (fik 0)))]) (w1 := [((a 4), .inl (T 1, 9, .inl (fi 2))), ((a 5), .inl (T 1, 9, .inl (fik_1 0)))]) hP hD [2, 3] [0, 1, 4, 5, 6, 7, 8, 9, 10, 11, 12, 13, 14, 15, 16, 17] rfl rfl (by decide) (by decide) hk1 hFc hP1 hD1
  clear hPc hDc hFc hP1 hD1 hk1 hz1 hvm ht
  generalize H1 = H at hP hS ⊢
  replace hP : va_P D vwCl (((a 0), .inr (2, [.ref (ex 0), .int (vi 6), .int (vi 7), .int (vi 8), .int (vi 9), .int (vi 10), .int (vi 11), .ref (a 3), .ref (a 5), .ref (a 7), .ref (a 9), .ref (a 11), .ref (a 13), .ref (a 15), .ref (a 17)])) :: ((a 1), .inr (2, [.ref (ex 1), .int (vi 6), .int (vi 7), .int (vi 8), .int (vi 9), .int (vi 10), .int (vi 11), .ref (a 2), .ref (a 4), .ref (a 6), .ref (a 8), .ref (a 10), .ref (a 12), .ref (a 14), .ref (a 16)])) :: ((a 6), .inl (T 1, 9, .inl (fi 4))) :: ((a 7), .inl (T 1, 9, .inl (fi 5))) :: ((a 8), .inl (T 1, 9, .inl (fi 6))) :: ((a 9), .inl (T 1, 9, .inl (fi 7))) :: ((a 10), .inl (T 1, 9, .inl (fi 8))) :: ((a 11), .inl (T 1, 9, .inl (fi 9))) :: ((a 12), .inl (T 1, 9, .inl (fi 10))) :: ((a 13), .inl (T 1, 9, .inl (fi 11))) :: ((a 14), .inl (T 1, 9, .inl (fi 12))) :: ((a 15), .inl (T 1, 9, .inl (fi 13))) :: ((a 16), .inl (T 2, 200, .inr (.inl (fl 0)))) :: ((a 17), .inl (T 2, 200, .inr (.inl (fl 1)))) :: ((a 2), .inl (T 1, 9, .inl (fi 0))) :: ((a 3), .inl (T 1, 9, .inl (fik 0))) :: ((a 4), .inl (T 1, 9, .inl (fi 2))) :: ((a 5), .inl (T 1, 9, .inl (fik_1 0))) :: []) H := hP
  replace hD : va_D A (((a 0), .inr (2, [.ref (ex 0), .int (vi 6), .int (vi 7), .int (vi 8), .int (vi 9), .int (vi 10), .int (vi 11), .ref (a 3), .ref (a 5), .ref (a 7), .ref (a 9), .ref (a 11), .ref (a 13), .ref (a 15), .ref (a 17)])) :: ((a 1), .inr (2, [.ref (ex 1), .int (vi 6), .int (vi 7), .int (vi 8), .int (vi 9), .int (vi 10), .int (vi 11), .ref (a 2), .ref (a 4), .ref (a 6), .ref (a 8), .ref (a 10), .ref (a 12), .ref (a 14), .ref (a 16)])) :: ((a 6), .inl (T 1, 9, .inl (fi 4))) :: ((a 7), .inl (T 1, 9, .inl (fi 5))) :: ((a 8), .inl (T 1, 9, .inl (fi 6))) :: ((a 9), .inl (T 1, 9, .inl (fi 7))) :: ((a 10), .inl (T 1, 9, .inl (fi 8))) :: ((a 11), .inl (T 1, 9, .inl (fi 9))) :: ((a 12), .inl (T 1, 9, .inl (fi 10))) :: ((a 13), .inl (T 1, 9, .inl (fi 11))) :: ((a 14), .inl (T 1, 9, .inl (fi 12))) :: ((a 15), .inl (T 1, 9, .inl (fi 13))) :: ((a 16), .inl (T 2, 200, .inr (.inl (fl 0)))) :: ((a 17), .inl (T 2, 200, .inr (.inl (fl 1)))) :: ((a 2), .inl (T 1, 9, .inl (fi 0))) :: ((a 3), .inl (T 1, 9, .inl (fik 0))) :: ((a 4), .inl (T 1, 9, .inl (fi 2))) :: ((a 5), .inl (T 1, 9, .inl (fik_1 0))) :: []) := hD
  obtain ⟨gk_1_0, -⟩ := hG
  replace gk_1_0 : ∀ j : Nat, j < 9 → (fik_1 0) j = (fi 2) j := gk_1_0
  refine lv_aload_n hx hb dX2_copyFrom_70 rfl (lv_at hl 1 rfl) ?_
  refine va_get (D := D) (ci := 2) (v := .ref (a 6)) (C := RX2) (T := TX2) (N := 15) hx hb htg inX2 hown hK.1 hP 1 rfl rfl 9 (by decide) (htg _ kw_266) (fun _ h9 => h9) rfl dX2_copyFrom_71 ?_
  refine lv_aload_n hx hb dX2_copyFrom_74 rfl (lv_at hl 0 rfl) ?_
  refine va_get (D := D) (ci := 2) (v := .ref (a 7)) (C := RX2) (T := TX2) (N := 15) hx hb htg inX2 hown hK.1 hP 0 rfl rfl 9 (by decide) (htg _ kw_266) (fun _ h9 => h9) rfl dX2_copyFrom_75 ?_
  have hPc := hP.sub (ws' := (pre_X11_copyRow T (xa [(a 6), (a 7)]) (xa []) (xf [(fi 4), (fi 5)]) (xh []) (xv []) (xl []))) [2, 3] rfl
  have hDc := hD.sub (ws' := (pre_X11_copyRow T (xa [(a 6), (a 7)]) (xa []) (xf [(fi 4), (fi 5)]) (xh []) (xv []) (xl []))) [2, 3] (by decide) rfl
  have hFc := va_free (wc := (pre_X11_copyRow T (xa [(a 6), (a 7)]) (xa []) (xf [(fi 4), (fi 5)]) (xh []) (xv []) (xl []))) hD hS hA [2, 3] rfl
  refine va_callv (va_runSN (As := [.ref (a 6), .ref (a 7)]) (rest := []) ⟨hx, hb, hml, hown, htg⟩ (c_X11_copyRow l D T (xa [(a 6), (a 7)]) (xa []) (xf [(fi 4), (fi 5)]) (xh []) (xv []) (xl []) H.size) ⟨va_cnB 2 htg (xg_ok kw_714) rfl rfl rfl (hK.2.1 _ kn_835) (htg _ kw_1) (by decide +kernel) ⟨by rw [hR]; exact Nat.le_of_ble_eq_true rfl, by rw [hR]; exact Nat.le_of_ble_eq_true rfl⟩, htg _ kw_713, trivial⟩ (xpreS hK hPc hDc) rfl rfl hl.1 rfl (lv_room (Nat.le_of_ble_eq_true rfl)) dX2_copyFrom_78 ⟨by rw [hR]; exact Nat.le_of_ble_eq_true rfl, by rw [hR]; exact Nat.le_of_ble_eq_true rfl⟩) hS (fun q _ h => hFc q h) hFc (fun u9 t H1 locs ht hvm hw hB hz1 hk1 hS => ?_)
  obtain ⟨fik_2, flk_2, vik_2, vlk_2, hP1, hD1, hG⟩ := hB
  rw [ht] at hP1
  obtain ⟨hP, hD⟩ := va_join (wr := [((a 0), .inr (2, [.ref (ex 0), .int (vi 6), .int (vi 7), .int (vi 8), .int (vi 9), .int (vi 10), .int (vi 11), .ref (a 3), .ref (a 5), .ref (a 7), .ref (a 9), .ref (a 11), .ref (a 13), .ref (a 15), .ref (a 17)])), ((a 1), .inr (2, [.ref (ex 1), .int (vi 6), .int (vi 7), .int (vi 8), .int (vi 9), .int (vi 10), .int (vi 11), .ref (a 2), .ref (a 4), .ref (a 6), .ref (a 8), .ref (a 10), .ref (a 12), .ref (a 14), .ref (a 16)])), ((a 8), .inl (T 1, 9, .inl (fi 6))), ((a 9), .inl (T 1, 9, .inl (fi 7))), ((a 10), .inl (T 1, 9, .inl (fi 8))), ((a 11), .inl (T 1, 9, .inl (fi 9))), ((a 12), .inl (T 1, 9, .inl (fi 10))), ((a 13), .inl (T 1, 9, .inl (fi 11))), ((a 14), .inl (T 1, 9, .inl (fi 12))), ((a 15), .inl (T 1, 9, .inl (fi 13))), ((a 16), .inl (T 2, 200, .inr (.inl (fl 0)))), ((a 17), .inl (T 2, 200, .inr (.inl (fl 1)))), ((a 2), .inl (T 1, 9, .inl (fi 0))), ((a 3), .inl (T 1, 9, .inl (fik 0))), ((a 4), .inl (T 1, 9, .inl (fi 2))), ((a 5), .inl (T 1, 9, .inl (fik_1 0)))]) (w1 := [((a 6), .inl (T 1, 9, .inl (fi 4))), ((a 7), .inl (T 1, 9, .inl (fik_2 0)))]) hP hD [2, 3] [0, 1, 4, 5, 6, 7, 8, 9, 10, 11, 12, 13, 14, 15, 16, 17] rfl rfl (by decide) (by decide) hk1 hFc hP1 hD1
  clear hPc hDc hFc hP1 hD1 hk1 hz1 hvm ht
  generalize H1 = H at hP hS ⊢
  replace hP : va_P D vwCl (((a 0), .inr (2, [.ref (ex 0), .int (vi 6), .int (vi 7), .int (vi 8), .int (vi 9), .int (vi 10), .int (vi 11), .ref (a 3), .ref (a 5), .ref (a 7), .ref (a 9), .ref (a 11), .ref (a 13), .ref (a 15), .ref (a 17)])) :: ((a 1), .inr (2, [.ref (ex 1), .int (vi 6), .int (vi 7), .int (vi 8), .int (vi 9), .int (vi 10), .int (vi 11), .ref (a 2), .ref (a 4), .ref (a 6), .ref (a 8), .ref (a 10), .ref (a 12), .ref (a 14), .ref (a 16)])) :: ((a 8), .inl (T 1, 9, .inl (fi 6))) :: ((a 9), .inl (T 1, 9, .inl (fi 7))) :: ((a 10), .inl (T 1, 9, .inl (fi 8))) :: ((a 11), .inl (T 1, 9, .inl (fi 9))) :: ((a 12), .inl (T 1, 9, .inl (fi 10))) :: ((a 13), .inl (T 1, 9, .inl (fi 11))) :: ((a 14), .inl (T 1, 9, .inl (fi 12))) :: ((a 15), .inl (T 1, 9, .inl (fi 13))) :: ((a 16), .inl (T 2, 200, .inr (.inl (fl 0)))) :: ((a 17), .inl (T 2, 200, .inr (.inl (fl 1)))) :: ((a 2), .inl (T 1, 9, .inl (fi 0))) :: ((a 3), .inl (T 1, 9, .inl (fik 0))) :: ((a 4), .inl (T 1, 9, .inl (fi 2))) :: ((a 5), .inl (T 1, 9, .inl (fik_1 0))) :: ((a 6), .inl (T 1, 9, .inl (fi 4))) :: ((a 7), .inl (T 1, 9, .inl (fik_2 0))) :: []) H := hP
  replace hD : va_D A (((a 0), .inr (2, [.ref (ex 0), .int (vi 6), .int (vi 7), .int (vi 8), .int (vi 9), .int (vi 10), .int (vi 11), .ref (a 3), .ref (a 5), .ref (a 7), .ref (a 9), .ref (a 11), .ref (a 13), .ref (a 15), .ref (a 17)])) :: ((a 1), .inr (2, [.ref (ex 1), .int (vi 6), .int (vi 7), .int (vi 8), .int (vi 9), .int (vi 10), .int (vi 11), .ref (a 2), .ref (a 4), .ref (a 6), .ref (a 8), .ref (a 10), .ref (a 12), .ref (a 14), .ref (a 16)])) :: ((a 8), .inl (T 1, 9, .inl (fi 6))) :: ((a 9), .inl (T 1, 9, .inl (fi 7))) :: ((a 10), .inl (T 1, 9, .inl (fi 8))) :: ((a 11), .inl (T 1, 9, .inl (fi 9))) :: ((a 12), .inl (T 1, 9, .inl (fi 10))) :: ((a 13), .inl (T 1, 9, .inl (fi 11))) :: ((a 14), .inl (T 1, 9, .inl (fi 12))) :: ((a 15), .inl (T 1, 9, .inl (fi 13))) :: ((a 16), .inl (T 2, 200, .inr (.inl (fl 0)))) :: ((a 17), .inl (T 2, 200, .inr (.inl (fl 1)))) :: ((a 2), .inl (T 1, 9, .inl (fi 0))) :: ((a 3), .inl (T 1, 9, .inl (fik 0))) :: ((a 4), .inl (T 1, 9, .inl (fi 2))) :: ((a 5), .inl (T 1, 9, .inl (fik_1 0))) :: ((a 6), .inl (T 1, 9, .inl (fi 4))) :: ((a 7), .inl (T 1, 9, .inl (fik_2 0))) :: []) := hD
  obtain ⟨gk_2_0, -⟩ := hG
  replace gk_2_0 : ∀ j : Nat, j < 9 → (fik_2 0) j = (fi 4) j := gk_2_0
  refine lv_aload_n hx hb dX2_copyFrom_81 rfl (lv_at hl 1 rfl) ?_
  refine va_get (D := D) (ci := 2) (v := .ref (a 8)) (C := RX2) (T := TX2) (N := 15) hx hb htg inX2 hown hK.1 hP 1 rfl rfl 10 (by decide) (htg _ kw_267) (fun _ h9 => h9) rfl dX2_copyFrom_82 ?_
  refine lv_aload_n hx hb dX2_copyFrom_85 rfl (lv_at hl 0 rfl) ?_
  refine va_get (D := D) (ci := 2) (v := .ref (a 9)) (C := RX2) (T := TX2) (N := 15) hx hb htg inX2 hown hK.1 hP 0 rfl rfl 10 (by decide) (htg _ kw_267) (fun _ h9 => h9) rfl dX2_copyFrom_86 ?_
  have hPc := hP.sub (ws' := (pre_X11_copyRow T (xa [(a 8), (a 9)]) (xa []) (xf [(fi 6), (fi 7)]) (xh []) (xv []) (xl []))) [2, 3] rfl
  have hDc := hD.sub (ws' := (pre_X11_copyRow T (xa [(a 8), (a 9)]) (xa []) (xf [(fi 6), (fi 7)]) (xh []) (xv []) (xl []))) [2, 3] (by decide) rfl
  have hFc := va_free (wc := (pre_X11_copyRow T (xa [(a 8), (a 9)]) (xa []) (xf [(fi 6), (fi 7)]) (xh []) (xv []) (xl []))) hD hS hA [2, 3] rfl
  refine va_callv (va_runSN (As := [.ref (a 8), .ref (a 9)]) (rest := []) ⟨hx, hb, hml, hown, htg⟩ (c_X11_copyRow l D T (xa [(a 8), (a 9)]) (xa []) (xf [(fi 6), (fi 7)]) (xh []) (xv []) (xl []) H.size) ⟨va_cnB 2 htg (xg_ok kw_714) rfl rfl rfl (hK.2.1 _ kn_835) (htg _ kw_1) (by decide +kernel) ⟨by rw [hR]; exact Nat.le_of_ble_eq_true rfl, by rw [hR]; exact Nat.le_of_ble_eq_true rfl⟩, htg _ kw_713, trivial⟩ (xpreS hK hPc hDc) rfl rfl hl.1 rfl (lv_room (Nat.le_of_ble_eq_true rfl)) dX2_copyFrom_89 ⟨by rw [hR]; exact Nat.le_of_ble_eq_true rfl, by rw [hR]; exact Nat.le_of_ble_eq_true rfl⟩) hS (fun q _ h => hFc q h) hFc (fun u9 t H1 locs ht hvm hw hB hz1 hk1 hS => ?_)
  obtain ⟨fik_3, flk_3, vik_3, vlk_3, hP1, hD1, hG⟩ := hB
  rw [ht] at hP1
  obtain ⟨hP, hD⟩ := va_join (wr := [((a 0), .inr (2, [.ref (ex 0), .int (vi 6), .int (vi 7), .int (vi 8), .int (vi 9), .int (vi 10), .int (vi 11), .ref (a 3), .ref (a 5), .ref (a 7), .ref (a 9), .ref (a 11), .ref (a 13), .ref (a 15), .ref (a 17)])), ((a 1), .inr (2, [.ref (ex 1), .int (vi 6), .int (vi 7), .int (vi 8), .int (vi 9), .int (vi 10), .int (vi 11), .ref (a 2), .ref (a 4), .ref (a 6), .ref (a 8), .ref (a 10), .ref (a 12), .ref (a 14), .ref (a 16)])), ((a 10), .inl (T 1, 9, .inl (fi 8))), ((a 11), .inl (T 1, 9, .inl (fi 9))), ((a 12), .inl (T 1, 9, .inl (fi 10))), ((a 13), .inl (T 1, 9, .inl (fi 11))), ((a 14), .inl (T 1, 9, .inl (fi 12))), ((a 15), .inl (T 1, 9, .inl (fi 13))), ((a 16), .inl (T 2, 200, .inr (.inl (fl 0)))), ((a 17), .inl (T 2, 200, .inr (.inl (fl 1)))), ((a 2), .inl (T 1, 9, .inl (fi 0))), ((a 3), .inl (T 1, 9, .inl (fik 0))), ((a 4), .inl (T 1, 9, .inl (fi 2))), ((a 5), .inl (T 1, 9, .inl (fik_1 0))), ((a 6), .inl (T 1, 9, .inl (fi 4))), ((a 7), .inl (T 1, 9, .inl (fik_2 0)))]) (w1 := [((a 8), .inl (T 1, 9, .inl (fi 6))), ((a 9), .inl (T 1, 9, .inl (fik_3 0)))]) hP hD [2, 3] [0, 1, 4, 5, 6, 7, 8, 9, 10, 11, 12, 13, 14, 15, 16, 17] rfl rfl (by decide) (by decide) hk1 hFc hP1 hD1
  clear hPc hDc hFc hP1 hD1 hk1 hz1 hvm ht
  generalize H1 = H at hP hS ⊢
  replace hP : va_P D vwCl (((a 0), .inr (2, [.ref (ex 0), .int (vi 6), .int (vi 7), .int (vi 8), .int (vi 9), .int (vi 10), .int (vi 11), .ref (a 3), .ref (a 5), .ref (a 7), .ref (a 9), .ref (a 11), .ref (a 13), .ref (a 15), .ref (a 17)])) :: ((a 1), .inr (2, [.ref (ex 1), .int (vi 6), .int (vi 7), .int (vi 8), .int (vi 9), .int (vi 10), .int (vi 11), .ref (a 2), .ref (a 4), .ref (a 6), .ref (a 8), .ref (a 10), .ref (a 12), .ref (a 14), .ref (a 16)])) :: ((a 10), .inl (T 1, 9, .inl (fi 8))) :: ((a 11), .inl (T 1, 9, .inl (fi 9))) :: ((a 12), .inl (T 1, 9, .inl (fi 10))) :: ((a 13), .inl (T 1, 9, .inl (fi 11))) :: ((a 14), .inl (T 1, 9, .inl (fi 12))) :: ((a 15), .inl (T 1, 9, .inl (fi 13))) :: ((a 16), .inl (T 2, 200, .inr (.inl (fl 0)))) :: ((a 17), .inl (T 2, 200, .inr (.inl (fl 1)))) :: ((a 2), .inl (T 1, 9, .inl (fi 0))) :: ((a 3), .inl (T 1, 9, .inl (fik 0))) :: ((a 4), .inl (T 1, 9, .inl (fi 2))) :: ((a 5), .inl (T 1, 9, .inl (fik_1 0))) :: ((a 6), .inl (T 1, 9, .inl (fi 4))) :: ((a 7), .inl (T 1, 9, .inl (fik_2 0))) :: ((a 8), .inl (T 1, 9, .inl (fi 6))) :: ((a 9), .inl (T 1, 9, .inl (fik_3 0))) :: []) H := hP
  replace hD : va_D A (((a 0), .inr (2, [.ref (ex 0), .int (vi 6), .int (vi 7), .int (vi 8), .int (vi 9), .int (vi 10), .int (vi 11), .ref (a 3), .ref (a 5), .ref (a 7), .ref (a 9), .ref (a 11), .ref (a 13), .ref (a 15), .ref (a 17)])) :: ((a 1), .inr (2, [.ref (ex 1), .int (vi 6), .int (vi 7), .int (vi 8), .int (vi 9), .int (vi 10), .int (vi 11), .ref (a 2), .ref (a 4), .ref (a 6), .ref (a 8), .ref (a 10), .ref (a 12), .ref (a 14), .ref (a 16)])) :: ((a 10), .inl (T 1, 9, .inl (fi 8))) :: ((a 11), .inl (T 1, 9, .inl (fi 9))) :: ((a 12), .inl (T 1, 9, .inl (fi 10))) :: ((a 13), .inl (T 1, 9, .inl (fi 11))) :: ((a 14), .inl (T 1, 9, .inl (fi 12))) :: ((a 15), .inl (T 1, 9, .inl (fi 13))) :: ((a 16), .inl (T 2, 200, .inr (.inl (fl 0)))) :: ((a 17), .inl (T 2, 200, .inr (.inl (fl 1)))) :: ((a 2), .inl (T 1, 9, .inl (fi 0))) :: ((a 3), .inl (T 1, 9, .inl (fik 0))) :: ((a 4), .inl (T 1, 9, .inl (fi 2))) :: ((a 5), .inl (T 1, 9, .inl (fik_1 0))) :: ((a 6), .inl (T 1, 9, .inl (fi 4))) :: ((a 7), .inl (T 1, 9, .inl (fik_2 0))) :: ((a 8), .inl (T 1, 9, .inl (fi 6))) :: ((a 9), .inl (T 1, 9, .inl (fik_3 0))) :: []) := hD
  obtain ⟨gk_3_0, -⟩ := hG
  replace gk_3_0 : ∀ j : Nat, j < 9 → (fik_3 0) j = (fi 6) j := gk_3_0
  have hr89 : rg (fik_3 0) 0 9 (-1) 8 := rg_eq gk_3_0 hp6
  refine lv_aload_n hx hb dX2_copyFrom_92 rfl (lv_at hl 1 rfl) ?_
  refine va_get (D := D) (ci := 2) (v := .ref (a 10)) (C := RX2) (T := TX2) (N := 15) hx hb htg inX2 hown hK.1 hP 1 rfl rfl 11 (by decide) (htg _ kw_271) (fun _ h9 => h9) rfl dX2_copyFrom_93 ?_
  refine lv_aload_n hx hb dX2_copyFrom_96 rfl (lv_at hl 0 rfl) ?_
  refine va_get (D := D) (ci := 2) (v := .ref (a 11)) (C := RX2) (T := TX2) (N := 15) hx hb htg inX2 hown hK.1 hP 0 rfl rfl 11 (by decide) (htg _ kw_271) (fun _ h9 => h9) rfl dX2_copyFrom_97 ?_
  have hPc := hP.sub (ws' := (pre_X11_copyRow T (xa [(a 10), (a 11)]) (xa []) (xf [(fi 8), (fi 9)]) (xh []) (xv []) (xl []))) [2, 3] rfl
  have hDc := hD.sub (ws' := (pre_X11_copyRow T (xa [(a 10), (a 11)]) (xa []) (xf [(fi 8), (fi 9)]) (xh []) (xv []) (xl []))) [2, 3] (by decide) rfl
  have hFc := va_free (wc := (pre_X11_copyRow T (xa [(a 10), (a 11)]) (xa []) (xf [(fi 8), (fi 9)]) (xh []) (xv []) (xl []))) hD hS hA [2, 3] rfl
  refine va_callv (va_runSN (As := [.ref (a 10), .ref (a 11)]) (rest := []) ⟨hx, hb, hml, hown, htg⟩ (c_X11_copyRow l D T (xa [(a 10), (a 11)]) (xa []) (xf [(fi 8), (fi 9)]) (xh []) (xv []) (xl []) H.size) ⟨va_cnB 2 htg (xg_ok kw_714) rfl rfl rfl (hK.2.1 _ kn_835) (htg _ kw_1) (by decide +kernel) ⟨by rw [hR]; exact Nat.le_of_ble_eq_true rfl, by rw [hR]; exact Nat.le_of_ble_eq_true rfl⟩, htg _ kw_713, trivial⟩ (xpreS hK hPc hDc) rfl rfl hl.1 rfl (lv_room (Nat.le_of_ble_eq_true rfl)) dX2_copyFrom_100 ⟨by rw [hR]; exact Nat.le_of_ble_eq_true rfl, by rw [hR]; exact Nat.le_of_ble_eq_true rfl⟩) hS (fun q _ h => hFc q h) hFc (fun u9 t H1 locs ht hvm hw hB hz1 hk1 hS => ?_)
  obtain ⟨fik_4, flk_4, vik_4, vlk_4, hP1, hD1, hG⟩ := hB
  rw [ht] at hP1
  obtain ⟨hP, hD⟩ := va_join (wr := [((a 0), .inr (2, [.ref (ex 0), .int (vi 6), .int (vi 7), .int (vi 8), .int (vi 9), .int (vi 10), .int (vi 11), .ref (a 3), .ref (a 5), .ref (a 7), .ref (a 9), .ref (a 11), .ref (a 13), .ref (a 15), .ref (a 17)])), ((a 1), .inr (2, [.ref (ex 1), .int (vi 6), .int (vi 7), .int (vi 8), .int (vi 9), .int (vi 10), .int (vi 11), .ref (a 2), .ref (a 4), .ref (a 6), .ref (a 8), .ref (a 10), .ref (a 12), .ref (a 14), .ref (a 16)])), ((a 12), .inl (T 1, 9, .inl (fi 10))), ((a 13), .inl (T 1, 9, .inl (fi 11))), ((a 14), .inl (T 1, 9, .inl (fi 12))), ((a 15), .inl (T 1, 9, .inl (fi 13))), ((a 16), .inl (T 2, 200, .inr (.inl (fl 0)))), ((a 17), .inl (T 2, 200, .inr (.inl (fl 1)))), ((a 2), .inl (T 1, 9, .inl (fi 0))), ((a 3), .inl (T 1, 9, .inl (fik 0))), ((a 4), .inl (T 1, 9, .inl (fi 2))), ((a 5), .inl (T 1, 9, .inl (fik_1 0))), ((a 6), .inl (T 1, 9, .inl (fi 4))), ((a 7), .inl (T 1, 9, .inl (fik_2 0))), ((a 8), .inl (T 1, 9, .inl (fi 6))), ((a 9), .inl (T 1, 9, .inl (fik_3 0)))]) (w1 := [((a 10), .inl (T 1, 9, .inl (fi 8))), ((a 11), .inl (T 1, 9, .inl (fik_4 0)))]) hP hD [2, 3] [0, 1, 4, 5, 6, 7, 8, 9, 10, 11, 12, 13, 14, 15, 16, 17] rfl rfl (by decide) (by decide) hk1 hFc hP1 hD1
  clear hPc hDc hFc hP1 hD1 hk1 hz1 hvm ht
  generalize H1 = H at hP hS ⊢
  replace hP : va_P D vwCl (((a 0), .inr (2, [.ref (ex 0), .int (vi 6), .int (vi 7), .int (vi 8), .int (vi 9), .int (vi 10), .int (vi 11), .ref (a 3), .ref (a 5), .ref (a 7), .ref (a 9), .ref (a 11), .ref (a 13), .ref (a 15), .ref (a 17)])) :: ((a 1), .inr (2, [.ref (ex 1), .int (vi 6), .int (vi 7), .int (vi 8), .int (vi 9), .int (vi 10), .int (vi 11), .ref (a 2), .ref (a 4), .ref (a 6), .ref (a 8), .ref (a 10), .ref (a 12), .ref (a 14), .ref (a 16)])) :: ((a 12), .inl (T 1, 9, .inl (fi 10))) :: ((a 13), .inl (T 1, 9, .inl (fi 11))) :: ((a 14), .inl (T 1, 9, .inl (fi 12))) :: ((a 15), .inl (T 1, 9, .inl (fi 13))) :: ((a 16), .inl (T 2, 200, .inr (.inl (fl 0)))) :: ((a 17), .inl (T 2, 200, .inr (.inl (fl 1)))) :: ((a 2), .inl (T 1, 9, .inl (fi 0))) :: ((a 3), .inl (T 1, 9, .inl (fik 0))) :: ((a 4), .inl (T 1, 9, .inl (fi 2))) :: ((a 5), .inl (T 1, 9, .inl (fik_1 0))) :: ((a 6), .inl (T 1, 9, .inl (fi 4))) :: ((a 7), .inl (T 1, 9, .inl (fik_2 0))) :: ((a 8), .inl (T 1, 9, .inl (fi 6))) :: ((a 9), .inl (T 1, 9, .inl (fik_3 0))) :: ((a 10), .inl (T 1, 9, .inl (fi 8))) :: ((a 11), .inl (T 1, 9, .inl (fik_4 0))) :: []) H := hP
  replace hD : va_D A (((a 0), .inr (2, [.ref (ex 0), .int (vi 6), .int (vi 7), .int (vi 8), .int (vi 9), .int (vi 10), .int (vi 11), .ref (a 3), .ref (a 5), .ref (a 7), .ref (a 9), .ref (a 11), .ref (a 13), .ref (a 15), .ref (a 17)])) :: ((a 1), .inr (2, [.ref (ex 1), .int (vi 6), .int (vi 7), .int (vi 8), .int (vi 9), .int (vi 10), .int (vi 11), .ref (a 2), .ref (a 4), .ref (a 6), .ref (a 8), .ref (a 10), .ref (a 12), .ref (a 14), .ref (a 16)])) :: ((a 12), .inl (T 1, 9, .inl (fi 10))) :: ((a 13), .inl (T 1, 9, .inl (fi 11))) :: ((a 14), .inl (T 1, 9, .inl (fi 12))) :: ((a 15), .inl (T 1, 9, .inl (fi 13))) :: ((a 16), .inl (T 2, 200, .inr (.inl (fl 0)))) :: ((a 17), .inl (T 2, 200, .inr (.inl (fl 1)))) :: ((a 2), .inl (T 1, 9, .inl (fi 0))) :: ((a 3), .inl (T 1, 9, .inl (fik 0))) :: ((a 4), .inl (T 1, 9, .inl (fi 2))) :: ((a 5), .inl (T 1, 9, .inl (fik_1 0))) :: ((a 6), .inl (T 1, 9, .inl (fi 4))) :: ((a 7), .inl (T 1, 9, .inl (fik_2 0))) :: ((a 8), .inl (T 1, 9, .inl (fi 6))) :: ((a 9), .inl (T 1, 9, .inl (fik_3 0))) :: ((a 10), .inl (T 1, 9, .inl (fi 8))) :: ((a 11), .inl (T 1, 9, .inl (fik_4 0))) :: []) := hD
  obtain ⟨gk_4_0, -⟩ := hG
  replace gk_4_0 : ∀ j : Nat, j < 9 → (fik_4 0) j = (fi 8) j := gk_4_0
  refine lv_aload_n hx hb dX2_copyFrom_103 rfl (lv_at hl 1 rfl) ?_
  refine va_get (D := D) (ci := 2) (v := .ref (a 12)) (C := RX2) (T := TX2) (N := 15) hx hb htg inX2 hown hK.1 hP 1 rfl rfl 12 (by decide) (htg _ kw_275) (fun _ h9 => h9) rfl dX2_copyFrom_104 ?_
  refine lv_aload_n hx hb dX2_copyFrom_107 rfl (lv_at hl 0 rfl) ?_
  refine va_get (D := D) (ci := 2) (v := .ref (a 13)) (C := RX2) (T := TX2) (N := 15) hx hb htg inX2 hown hK.1 hP 0 rfl rfl 12 (by decide) (htg _ kw_275) (fun _ h9 => h9) rfl dX2_copyFrom_108 ?_
  have hPc := hP.sub (ws' := (pre_X11_copyRow T (xa [(a 12), (a 13)]) (xa []) (xf [(fi 10), (fi 11)]) (xh []) (xv []) (xl []))) [2, 3] rfl
  have hDc := hD.sub (ws' := (pre_X11_copyRow T (xa [(a 12), (a 13)]) (xa []) (xf [(fi 10), (fi 11)]) (xh []) (xv []) (xl []))) [2, 3] (by decide) rfl
  have hFc := va_free (wc := (pre_X11_copyRow T (xa [(a 12), (a 13)]) (xa []) (xf [(fi 10), (fi 11)]) (xh []) (xv []) (xl []))) hD hS hA [2, 3] rfl
  refine va_callv (va_runSN (As := [.ref (a 12), .ref (a 13)]) (rest := []) ⟨hx, hb, hml, hown, htg⟩ (c_X11_copyRow l D T (xa [(a 12), (a 13)]) (xa []) (xf [(fi 10), (fi 11)]) (xh []) (xv []) (xl []) H.size) ⟨va_cnB 2 htg (xg_ok kw_714) rfl rfl rfl (hK.2.1 _ kn_835) (htg _ kw_1) (by decide +kernel) ⟨by rw [hR]; exact Nat.le_of_ble_eq_true rfl, by rw [hR]; exact Nat.le_of_ble_eq_true rfl⟩, htg _ kw_713, trivial⟩ (xpreS hK hPc hDc) rfl rfl hl.1 rfl (lv_room (Nat.le_of_ble_eq_true rfl)) dX2_copyFrom_111 ⟨by rw [hR]; exact Nat.le_of_ble_eq_true rfl, by rw [hR]; exact Nat.le_of_ble_eq_true rfl⟩) hS (fun q _ h => hFc q h) hFc (fun u9 t H1 locs ht hvm hw hB hz1 hk1 hS => ?_)
  obtain ⟨fik_5, flk_5, vik_5, vlk_5, hP1, hD1, hG⟩ := hB
  rw [ht] at hP1
  obtain ⟨hP, hD⟩ := va_join (wr := [((a 0), .inr (2, [.ref (ex 0), .int (vi 6), .int (vi 7), .int (vi 8), .int (vi 9), .int (vi 10), .int (vi 11), .ref (a 3), .ref (a 5), .ref (a 7), .ref (a 9), .ref (a 11), .ref (a 13), .ref (a 15), .ref (a 17)])), ((a 1), .inr (2, [.ref (ex 1), .int (vi 6), .int (vi 7), .int (vi 8), .int (vi 9), .int (vi 10), .int (vi 11), .ref (a 2), .ref (a 4), .ref (a 6), .ref (a 8), .ref (a 10), .ref (a 12), .ref (a 14), .ref (a 16)])), ((a 14), .inl (T 1, 9, .inl (fi 12))), ((a 15), .inl (T 1, 9, .inl (fi 13))), ((a 16), .inl (T 2, 200, .inr (.inl (fl 0)))), ((a 17), .inl (T 2, 200, .inr (.inl (fl 1)))), ((a 2), .inl (T 1, 9, .inl (fi 0))), ((a 3), .inl (T 1, 9, .inl (fik 0))), ((a 4), .inl (T 1, 9, .inl (fi 2))), ((a 5), .inl (T 1, 9, .inl (fik_1 0))), ((a 6), .inl (T 1, 9, .inl (fi 4))), ((a 7), .inl (T 1, 9, .inl (fik_2 0))), ((a 8), .inl (T 1, 9, .inl (fi 6))), ((a 9), .inl (T 1, 9, .inl (fik_3 0))), ((a 10), .inl (T 1, 9, .inl (fi 8))), ((a 11), .inl (T 1, 9, .inl (fik_4 0)))]) (w1 := [((a 12), .inl (T 1, 9, .inl (fi 10))), ((a 13), .inl (T 1, 9, .inl (fik_5 0)))]) hP hD [2, 3] [0, 1, 4, 5, 6, 7, 8, 9, 10, 11, 12, 13, 14, 15, 16, 17] rfl rfl (by decide) (by decide) hk1 hFc hP1 hD1
  clear hPc hDc hFc hP1 hD1 hk1 hz1 hvm ht
  generalize H1 = H at hP hS ⊢
  replace hP : va_P D vwCl (((a 0), .inr (2, [.ref (ex 0), .int (vi 6), .int (vi 7), .int (vi 8), .int (vi 9), .int (vi 10), .int (vi 11), .ref (a 3), .ref (a 5), .ref (a 7), .ref (a 9), .ref (a 11), .ref (a 13), .ref (a 15), .ref (a 17)])) :: ((a 1), .inr (2, [.ref (ex 1), .int (vi 6), .int (vi 7), .int (vi 8), .int (vi 9), .int (vi 10), .int (vi 11), .ref (a 2), .ref (a 4), .ref (a 6), .ref (a 8), .ref (a 10), .ref (a 12), .ref (a 14), .ref (a 16)])) :: ((a 14), .inl (T 1, 9, .inl (fi 12))) :: ((a 15), .inl (T 1, 9, .inl (fi 13))) :: ((a 16), .inl (T 2, 200, .inr (.inl (fl 0)))) :: ((a 17), .inl (T 2, 200, .inr (.inl (fl 1)))) :: ((a 2), .inl (T 1, 9, .inl (fi 0))) :: ((a 3), .inl (T 1, 9, .inl (fik 0))) :: ((a 4), .inl (T 1, 9, .inl (fi 2))) :: ((a 5), .inl (T 1, 9, .inl (fik_1 0))) :: ((a 6), .inl (T 1, 9, .inl (fi 4))) :: ((a 7), .inl (T 1, 9, .inl (fik_2 0))) :: ((a 8), .inl (T 1, 9, .inl (fi 6))) :: ((a 9), .inl (T 1, 9, .inl (fik_3 0))) :: ((a 10), .inl (T 1, 9, .inl (fi 8))) :: ((a 11), .inl (T 1, 9, .inl (fik_4 0))) :: ((a 12), .inl (T 1, 9, .inl (fi 10))) :: ((a 13), .inl (T 1, 9, .inl (fik_5 0))) :: []) H := hP
  replace hD : va_D A (((a 0), .inr (2, [.ref (ex 0), .int (vi 6), .int (vi 7), .int (vi 8), .int (vi 9), .int (vi 10), .int (vi 11), .ref (a 3), .ref (a 5), .ref (a 7), .ref (a 9), .ref (a 11), .ref (a 13), .ref (a 15), .ref (a 17)])) :: ((a 1), .inr (2, [.ref (ex 1), .int (vi 6), .int (vi 7), .int (vi 8), .int (vi 9), .int (vi 10), .int (vi 11), .ref (a 2), .ref (a 4), .ref (a 6), .ref (a 8), .ref (a 10), .ref (a 12), .ref (a 14), .ref (a 16)])) :: ((a 14), .inl (T 1, 9, .inl (fi 12))) :: ((a 15), .inl (T 1, 9, .inl (fi 13))) :: ((a 16), .inl (T 2, 200, .inr (.inl (fl 0)))) :: ((a 17), .inl (T 2, 200, .inr (.inl (fl 1)))) :: ((a 2), .inl (T 1, 9, .inl (fi 0))) :: ((a 3), .inl (T 1, 9, .inl (fik 0))) :: ((a 4), .inl (T 1, 9, .inl (fi 2))) :: ((a 5), .inl (T 1, 9, .inl (fik_1 0))) :: ((a 6), .inl (T 1, 9, .inl (fi 4))) :: ((a 7), .inl (T 1, 9, .inl (fik_2 0))) :: ((a 8), .inl (T 1, 9, .inl (fi 6))) :: ((a 9), .inl (T 1, 9, .inl (fik_3 0))) :: ((a 10), .inl (T 1, 9, .inl (fi 8))) :: ((a 11), .inl (T 1, 9, .inl (fik_4 0))) :: ((a 12), .inl (T 1, 9, .inl (fi 10))) :: ((a 13), .inl (T 1, 9, .inl (fik_5 0))) :: []) := hD
  obtain ⟨gk_5_0, -⟩ := hG
  replace gk_5_0 : ∀ j : Nat, j < 9 → (fik_5 0) j = (fi 10) j := gk_5_0
  refine lv_aload_n hx hb dX2_copyFrom_114 rfl (lv_at hl 1 rfl) ?_
  refine va_get (D := D) (ci := 2) (v := .ref (a 14)) (C := RX2) (T := TX2) (N := 15) hx hb htg inX2 hown hK.1 hP 1 rfl rfl 13 (by decide) (htg _ kw_278) (fun _ h9 => h9) rfl dX2_copyFrom_115 ?_
  refine lv_aload_n hx hb dX2_copyFrom_118 rfl (lv_at hl 0 rfl) ?_
  refine va_get (D := D) (ci := 2) (v := .ref (a 15)) (C := RX2) (T := TX2) (N := 15) hx hb htg inX2 hown hK.1 hP 0 rfl rfl 13 (by decide) (htg _ kw_278) (fun _ h9 => h9) rfl dX2_copyFrom_119 ?_
  have hPc := hP.sub (ws' := (pre_X11_copyRow T (xa [(a 14), (a 15)]) (xa []) (xf [(fi 12), (fi 13)]) (xh []) (xv []) (xl []))) [2, 3] rfl
  have hDc := hD.sub (ws' := (pre_X11_copyRow T (xa [(a 14), (a 15)]) (xa []) (xf [(fi 12), (fi 13)]) (xh []) (xv []) (xl []))) [2, 3] (by decide) rfl
  have hFc := va_free (wc := (pre_X11_copyRow T (xa [(a 14), (a 15)]) (xa []) (xf [(fi 12), (fi 13)]) (xh []) (xv []) (xl []))) hD hS hA [2, 3] rfl
  refine va_callv (va_runSN (As := [.ref (a 14), .ref (a 15)]) (rest := []) ⟨hx, hb, hml, hown, htg⟩ (c_X11_copyRow l D T (xa [(a 14), (a 15)]) (xa []) (xf [(fi 12), (fi 13)]) (xh []) (xv []) (xl []) H.size) ⟨va_cnB 2 htg (xg_ok kw_714) rfl rfl rfl (hK.2.1 _ kn_835) (htg _ kw_1) (by decide +kernel) ⟨by rw [hR]; exact Nat.le_of_ble_eq_true rfl, by rw [hR]; exact Nat.le_of_ble_eq_true rfl⟩, htg _ kw_713, trivial⟩ (xpreS hK hPc hDc) rfl rfl hl.1 rfl (lv_room (Nat.le_of_ble_eq_true rfl)) dX2_copyFrom_122 ⟨by rw [hR]; exact Nat.le_of_ble_eq_true rfl, by rw [hR]; exact Nat.le_of_ble_eq_true rfl⟩) hS (fun q _ h => hFc q h) hFc (fun u9 t H1 locs ht hvm hw hB hz1 hk1 hS => ?_)
  obtain ⟨fik_6, flk_6, vik_6, vlk_6, hP1, hD1, hG⟩ := hB
  rw [ht] at hP1
  obtain ⟨hP, hD⟩ := va_join (wr := [((a 0), .inr (2, [.ref (ex 0), .int (vi 6), .int (vi 7), .int (vi 8), .int (vi 9), .int (vi 10), .int (vi 11), .ref (a 3), .ref (a 5), .ref (a 7), .ref (a 9), .ref (a 11), .ref (a 13), .ref (a 15), .ref (a 17)])), ((a 1), .inr (2, [.ref (ex 1), .int (vi 6), .int (vi 7), .int (vi 8), .int (vi 9), .int (vi 10), .int (vi 11), .ref (a 2), .ref (a 4), .ref (a 6), .ref (a 8), .ref (a 10), .ref (a 12), .ref (a 14), .ref (a 16)])), ((a 16), .inl (T 2, 200, .inr (.inl (fl 0)))), ((a 17), .inl (T 2, 200, .inr (.inl (fl 1)))), ((a 2), .inl (T 1, 9, .inl (fi 0))), ((a 3), .inl (T 1, 9, .inl (fik 0))), ((a 4), .inl (T 1, 9, .inl (fi 2))), ((a 5), .inl (T 1, 9, .inl (fik_1 0))), ((a 6), .inl (T 1, 9, .inl (fi 4))), ((a 7), .inl (T 1, 9, .inl (fik_2 0))), ((a 8), .inl (T 1, 9, .inl (fi 6))), ((a 9), .inl (T 1, 9, .inl (fik_3 0))), ((a 10), .inl (T 1, 9, .inl (fi 8))), ((a 11), .inl (T 1, 9, .inl (fik_4 0))), ((a 12), .inl (T 1, 9, .inl (fi 10))), ((a 13), .inl (T 1, 9, .inl (fik_5 0)))]) (w1 := [((a 14), .inl (T 1, 9, .inl (fi 12))), ((a 15), .inl (T 1, 9, .inl (fik_6 0)))]) hP hD [2, 3] [0, 1, 4, 5, 6, 7, 8, 9, 10, 11, 12, 13, 14, 15, 16, 17] rfl rfl (by decide) (by decide) hk1 hFc hP1 hD1
  clear hPc hDc hFc hP1 hD1 hk1 hz1 hvm ht
  generalize H1 = H at hP hS ⊢
  replace hP : va_P D vwCl (((a 0), .inr (2, [.ref (ex 0), .int (vi 6), .int (vi 7), .int (vi 8), .int (vi 9), .int (vi 10), .int (vi 11), .ref (a 3), .ref (a 5), .ref (a 7), .ref (a 9), .ref (a 11), .ref (a 13), .ref (a 15), .ref (a 17)])) :: ((a 1), .inr (2, [.ref (ex 1), .int (vi 6), .int (vi 7), .int (vi 8), .int (vi 9), .int (vi 10), .int (vi 11), .ref (a 2), .ref (a 4), .ref (a 6), .ref (a 8), .ref (a 10), .ref (a 12), .ref (a 14), .ref (a 16)])) :: ((a 16), .inl (T 2, 200, .inr (.inl (fl 0)))) :: ((a 17), .inl (T 2, 200, .inr (.inl (fl 1)))) :: ((a 2), .inl (T 1, 9, .inl (fi 0))) :: ((a 3), .inl (T 1, 9, .inl (fik 0))) :: ((a 4), .inl (T 1, 9, .inl (fi 2))) :: ((a 5), .inl (T 1, 9, .inl (fik_1 0))) :: ((a 6), .inl (T 1, 9, .inl (fi 4))) :: ((a 7), .inl (T 1, 9, .inl (fik_2 0))) :: ((a 8), .inl (T 1, 9, .inl (fi 6))) :: ((a 9), .inl (T 1, 9, .inl (fik_3 0))) :: ((a 10), .inl (T 1, 9, .inl (fi 8))) :: ((a 11), .inl (T 1, 9, .inl (fik_4 0))) :: ((a 12), .inl (T 1, 9, .inl (fi 10))) :: ((a 13), .inl (T 1, 9, .inl (fik_5 0))) :: ((a 14), .inl (T 1, 9, .inl (fi 12))) :: ((a 15), .inl (T 1, 9, .inl (fik_6 0))) :: []) H := hP
  replace hD : va_D A (((a 0), .inr (2, [.ref (ex 0), .int (vi 6), .int (vi 7), .int (vi 8), .int (vi 9), .int (vi 10), .int (vi 11), .ref (a 3), .ref (a 5), .ref (a 7), .ref (a 9), .ref (a 11), .ref (a 13), .ref (a 15), .ref (a 17)])) :: ((a 1), .inr (2, [.ref (ex 1), .int (vi 6), .int (vi 7), .int (vi 8), .int (vi 9), .int (vi 10), .int (vi 11), .ref (a 2), .ref (a 4), .ref (a 6), .ref (a 8), .ref (a 10), .ref (a 12), .ref (a 14), .ref (a 16)])) :: ((a 16), .inl (T 2, 200, .inr (.inl (fl 0)))) :: ((a 17), .inl (T 2, 200, .inr (.inl (fl 1)))) :: ((a 2), .inl (T 1, 9, .inl (fi 0))) :: ((a 3), .inl (T 1, 9, .inl (fik 0))) :: ((a 4), .inl (T 1, 9, .inl (fi 2))) :: ((a 5), .inl (T 1, 9, .inl (fik_1 0))) :: ((a 6), .inl (T 1, 9, .inl (fi 4))) :: ((a 7), .inl (T 1, 9, .inl (fik_2 0))) :: ((a 8), .inl (T 1, 9, .inl (fi 6))) :: ((a 9), .inl (T 1, 9, .inl (fik_3 0))) :: ((a 10), .inl (T 1, 9, .inl (fi 8))) :: ((a 11), .inl (T 1, 9, .inl (fik_4 0))) :: ((a 12), .inl (T 1, 9, .inl (fi 10))) :: ((a 13), .inl (T 1, 9, .inl (fik_5 0))) :: ((a 14), .inl (T 1, 9, .inl (fi 12))) :: ((a 15), .inl (T 1, 9, .inl (fik_6 0))) :: []) := hD
  obtain ⟨gk_6_0, -⟩ := hG
  replace gk_6_0 : ∀ j : Nat, j < 9 → (fik_6 0) j = (fi 12) j := gk_6_0
  have hr122 : rg (fik_6 0) 0 9 0 8 := rg_eq gk_6_0 hp8
  refine lv_aload_n hx hb dX2_copyFrom_125 rfl (lv_at hl 1 rfl) ?_
  refine va_get (D := D) (ci := 2) (v := .ref (a 16)) (C := RX2) (T := TX2) (N := 15) hx hb htg inX2 hown hK.1 hP 1 rfl rfl 14 (by decide) (htg _ kw_281) (fun _ h9 => h9) rfl dX2_copyFrom_126 ?_
  refine lv_aload_n hx hb dX2_copyFrom_129 rfl (lv_at hl 0 rfl) ?_
  refine va_get (D := D) (ci := 2) (v := .ref (a 17)) (C := RX2) (T := TX2) (N := 15) hx hb htg inX2 hown hK.1 hP 0 rfl rfl 14 (by decide) (htg _ kw_281) (fun _ h9 => h9) rfl dX2_copyFrom_130 ?_
  have hPc := hP.sub (ws' := (pre_X11_copyRow_ T (xa [(a 16), (a 17)]) (xa []) (xf []) (xh [(fl 0), (fl 1)]) (xv []) (xl []))) [2, 3] rfl
  have hDc := hD.sub (ws' := (pre_X11_copyRow_ T (xa [(a 16), (a 17)]) (xa []) (xf []) (xh [(fl 0), (fl 1)]) (xv []) (xl []))) [2, 3] (by decide) rfl
  have hFc := va_free (wc := (pre_X11_copyRow_ T (xa [(a 16), (a 17)]) (xa []) (xf []) (xh [(fl 0), (fl 1)]) (xv []) (xl []))) hD hS hA [2, 3] rfl
  refine va_callv (va_runSN (As := [.ref (a 16), .ref (a 17)]) (rest := []) ⟨hx, hb, hml, hown, htg⟩ (c_X11_copyRow_ l D T (xa [(a 16), (a 17)]) (xa []) (xf []) (xh [(fl 0), (fl 1)]) (xv []) (xl []) H.size) ⟨va_cnB 2 htg (xg_ok kw_705) rfl rfl rfl (hK.2.1 _ kn_836) (htg _ kw_1) (by decide +kernel) ⟨by rw [hR]; exact Nat.le_of_ble_eq_true rfl, by rw [hR]; exact Nat.le_of_ble_eq_true rfl⟩, htg _ kw_704, trivial⟩ (xpreS hK hPc hDc) rfl rfl hl.1 rfl (lv_room (Nat.le_of_ble_eq_true rfl)) dX2_copyFrom_133 ⟨by rw [hR]; exact Nat.le_of_ble_eq_true rfl, by rw [hR]; exact Nat.le_of_ble_eq_true rfl⟩) hS (fun q _ h => hFc q h) hFc (fun u9 t H1 locs ht hvm hw hB hz1 hk1 hS => ?_)
  obtain ⟨fik_7, flk_7, vik_7, vlk_7, hP1, hD1, hG⟩ := hB
  rw [ht] at hP1
  obtain ⟨hP, hD⟩ := va_join (wr := [((a 0), .inr (2, [.ref (ex 0), .int (vi 6), .int (vi 7), .int (vi 8), .int (vi 9), .int (vi 10), .int (vi 11), .ref (a 3), .ref (a 5), .ref (a 7), .ref (a 9), .ref (a 11), .ref (a 13), .ref (a 15), .ref (a 17)])), ((a 1), .inr (2, [.ref (ex 1), .int (vi 6), .int (vi 7), .int (vi 8), .int (vi 9), .int (vi 10), .int (vi 11), .ref (a 2), .ref (a 4), .ref (a 6), .ref (a 8), .ref (a 10), .ref (a 12), .ref (a 14), .ref (a 16)])), ((a 2), .inl (T 1, 9, .inl (fi 0))), ((a 3), .inl (T 1, 9, .inl (fik 0))), ((a 4), .inl (T 1, 9, .inl (fi 2))), ((a 5), .inl (T 1, 9, .inl (fik_1 0))), ((a 6), .inl (T 1, 9, .inl (fi 4))), ((a 7), .inl (T 1, 9, .inl (fik_2 0))), ((a 8), .inl (T 1, 9, .inl (fi 6))), ((a 9), .inl (T 1, 9, .inl (fik_3 0))), ((a 10), .inl (T 1, 9, .inl (fi 8))), ((a 11), .inl (T 1, 9, .inl (fik_4 0))), ((a 12), .inl (T 1, 9, .inl (fi 10))), ((a 13), .inl (T 1, 9, .inl (fik_5 0))), ((a 14), .inl (T 1, 9, .inl (fi 12))), ((a 15), .inl (T 1, 9, .inl (fik_6 0)))]) (w1 := [((a 16), .inl (T 2, 200, .inr (.inl (fl 0)))), ((a 17), .inl (T 2, 200, .inr (.inl (flk_7 0))))]) hP hD [2, 3] [0, 1, 4, 5, 6, 7, 8, 9, 10, 11, 12, 13, 14, 15, 16, 17] rfl rfl (by decide) (by decide) hk1 hFc hP1 hD1
  clear hPc hDc hFc hP1 hD1 hk1 hz1 hvm ht
  generalize H1 = H at hP hS ⊢
  replace hP : va_P D vwCl (((a 0), .inr (2, [.ref (ex 0), .int (vi 6), .int (vi 7), .int (vi 8), .int (vi 9), .int (vi 10), .int (vi 11), .ref (a 3), .ref (a 5), .ref (a 7), .ref (a 9), .ref (a 11), .ref (a 13), .ref (a 15), .ref (a 17)])) :: ((a 1), .inr (2, [.ref (ex 1), .int (vi 6), .int (vi 7), .int (vi 8), .int (vi 9), .int (vi 10), .int (vi 11), .ref (a 2), .ref (a 4), .ref (a 6), .ref (a 8), .ref (a 10), .ref (a 12), .ref (a 14), .ref (a 16)])) :: ((a 2), .inl (T 1, 9, .inl (fi 0))) :: ((a 3), .inl (T 1, 9, .inl (fik 0))) :: ((a 4), .inl (T 1, 9, .inl (fi 2))) :: ((a 5), .inl (T 1, 9, .inl (fik_1 0))) :: ((a 6), .inl (T 1, 9, .inl (fi 4))) :: ((a 7), .inl (T 1, 9, .inl (fik_2 0))) :: ((a 8), .inl (T 1, 9, .inl (fi 6))) :: ((a 9), .inl (T 1, 9, .inl (fik_3 0))) :: ((a 10), .inl (T 1, 9, .inl (fi 8))) :: ((a 11), .inl (T 1, 9, .inl (fik_4 0))) :: ((a 12), .inl (T 1, 9, .inl (fi 10))) :: ((a 13), .inl (T 1, 9, .inl (fik_5 0))) :: ((a 14), .inl (T 1, 9, .inl (fi 12))) :: ((a 15), .inl (T 1, 9, .inl (fik_6 0))) :: ((a 16), .inl (T 2, 200, .inr (.inl (fl 0)))) :: ((a 17), .inl (T 2, 200, .inr (.inl (flk_7 0)))) :: []) H := hP
  replace hD : va_D A (((a 0), .inr (2, [.ref (ex 0), .int (vi 6), .int (vi 7), .int (vi 8), .int (vi 9), .int (vi 10), .int (vi 11), .ref (a 3), .ref (a 5), .ref (a 7), .ref (a 9), .ref (a 11), .ref (a 13), .ref (a 15), .ref (a 17)])) :: ((a 1), .inr (2, [.ref (ex 1), .int (vi 6), .int (vi 7), .int (vi 8), .int (vi 9), .int (vi 10), .int (vi 11), .ref (a 2), .ref (a 4), .ref (a 6), .ref (a 8), .ref (a 10), .ref (a 12), .ref (a 14), .ref (a 16)])) :: ((a 2), .inl (T 1, 9, .inl (fi 0))) :: ((a 3), .inl (T 1, 9, .inl (fik 0))) :: ((a 4), .inl (T 1, 9, .inl (fi 2))) :: ((a 5), .inl (T 1, 9, .inl (fik_1 0))) :: ((a 6), .inl (T 1, 9, .inl (fi 4))) :: ((a 7), .inl (T 1, 9, .inl (fik_2 0))) :: ((a 8), .inl (T 1, 9, .inl (fi 6))) :: ((a 9), .inl (T 1, 9, .inl (fik_3 0))) :: ((a 10), .inl (T 1, 9, .inl (fi 8))) :: ((a 11), .inl (T 1, 9, .inl (fik_4 0))) :: ((a 12), .inl (T 1, 9, .inl (fi 10))) :: ((a 13), .inl (T 1, 9, .inl (fik_5 0))) :: ((a 14), .inl (T 1, 9, .inl (fi 12))) :: ((a 15), .inl (T 1, 9, .inl (fik_6 0))) :: ((a 16), .inl (T 2, 200, .inr (.inl (fl 0)))) :: ((a 17), .inl (T 2, 200, .inr (.inl (flk_7 0)))) :: []) := hD
  obtain ⟨gk_7_0, -⟩ := hG
  replace gk_7_0 : ∀ j : Nat, j < 200 → (flk_7 0) j = (fl 0) j := gk_7_0
  have hP9 := hP.sub (ws' := (((a 0), .inr (2, [.ref (ex 0), .int (vi 6), .int (vi 7), .int (vi 8), .int (vi 9), .int (vi 10), .int (vi 11), .ref (a 3), .ref (a 5), .ref (a 7), .ref (a 9), .ref (a 11), .ref (a 13), .ref (a 15), .ref (a 17)])) :: ((a 1), .inr (2, [.ref (ex 1), .int (vi 6), .int (vi 7), .int (vi 8), .int (vi 9), .int (vi 10), .int (vi 11), .ref (a 2), .ref (a 4), .ref (a 6), .ref (a 8), .ref (a 10), .ref (a 12), .ref (a 14), .ref (a 16)])) :: ((a 2), .inl (T 1, 9, .inl (fi 0))) :: ((a 3), .inl (T 1, 9, .inl (fik 0))) :: ((a 4), .inl (T 1, 9, .inl (fi 2))) :: ((a 5), .inl (T 1, 9, .inl (fik_1 0))) :: ((a 6), .inl (T 1, 9, .inl (fi 4))) :: ((a 7), .inl (T 1, 9, .inl (fik_2 0))) :: ((a 8), .inl (T 1, 9, .inl (fi 6))) :: ((a 9), .inl (T 1, 9, .inl (fik_3 0))) :: ((a 10), .inl (T 1, 9, .inl (fi 8))) :: ((a 11), .inl (T 1, 9, .inl (fik_4 0))) :: ((a 12), .inl (T 1, 9, .inl (fi 10))) :: ((a 13), .inl (T 1, 9, .inl (fik_5 0))) :: ((a 14), .inl (T 1, 9, .inl (fi 12))) :: ((a 15), .inl (T 1, 9, .inl (fik_6 0))) :: ((a 16), .inl (T 2, 200, .inr (.inl (fl 0)))) :: ((a 17), .inl (T 2, 200, .inr (.inl (flk_7 0)))) :: [])) [0, 1, 2, 3, 4, 5, 6, 7, 8, 9, 10, 11, 12, 13, 14, 15, 16, 17] rfl
  have hD9 := hD.sub (ws' := (((a 0), .inr (2, [.ref (ex 0), .int (vi 6), .int (vi 7), .int (vi 8), .int (vi 9), .int (vi 10), .int (vi 11), .ref (a 3), .ref (a 5), .ref (a 7), .ref (a 9), .ref (a 11), .ref (a 13), .ref (a 15), .ref (a 17)])) :: ((a 1), .inr (2, [.ref (ex 1), .int (vi 6), .int (vi 7), .int (vi 8), .int (vi 9), .int (vi 10), .int (vi 11), .ref (a 2), .ref (a 4), .ref (a 6), .ref (a 8), .ref (a 10), .ref (a 12), .ref (a 14), .ref (a 16)])) :: ((a 2), .inl (T 1, 9, .inl (fi 0))) :: ((a 3), .inl (T 1, 9, .inl (fik 0))) :: ((a 4), .inl (T 1, 9, .inl (fi 2))) :: ((a 5), .inl (T 1, 9, .inl (fik_1 0))) :: ((a 6), .inl (T 1, 9, .inl (fi 4))) :: ((a 7), .inl (T 1, 9, .inl (fik_2 0))) :: ((a 8), .inl (T 1, 9, .inl (fi 6))) :: ((a 9), .inl (T 1, 9, .inl (fik_3 0))) :: ((a 10), .inl (T 1, 9, .inl (fi 8))) :: ((a 11), .inl (T 1, 9, .inl (fik_4 0))) :: ((a 12), .inl (T 1, 9, .inl (fi 10))) :: ((a 13), .inl (T 1, 9, .inl (fik_5 0))) :: ((a 14), .inl (T 1, 9, .inl (fi 12))) :: ((a 15), .inl (T 1, 9, .inl (fik_6 0))) :: ((a 16), .inl (T 2, 200, .inr (.inl (fl 0)))) :: ((a 17), .inl (T 2, 200, .inr (.inl (flk_7 0)))) :: [])) [0, 1, 2, 3, 4, 5, 6, 7, 8, 9, 10, 11, 12, 13, 14, 15, 16, 17] (by decide +kernel) rfl
  rw [hQ]
  exact W.vret hx hb hr (fun t ht hW => ⟨⟨(0 : Int32), rfl, trivial, xf [(fik 0), (fik_1 0), (fik_2 0), (fik_3 0), (fik_4 0), (fik_5 0), (fik_6 0)], xh [(flk_7 0)], xv [(vi 6), (vi 7), (vi 8), (vi 9), (vi 10), (vi 11)], xl [], by rw [ht]; exact hP9, hD9, ⟨(by show 0 ≤ (vi 6).toInt ∧ (vi 6).toInt ≤ 200; omega), (by show 0 ≤ (vi 11).toInt ∧ (vi 11).toInt ≤ 9; omega), (show rg (fik 0) 0 9 (-1) 8 from hr56), (show rg (fik_3 0) 0 9 (-1) 8 from hr89), (show rg (fik_6 0) 0 9 0 8 from hr122), trivial⟩⟩, hS.F ht⟩) hS.2.2 dX2_copyFrom_136
