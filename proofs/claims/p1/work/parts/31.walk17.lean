abbrev pre_X11_cheapest (T : Nat → ClassId) (a ex : Nat → Nat) (fi : Nat → Nat → Int32) (fl : Nat → Nat → Int64) (vi : Nat → Int32) : va_W := [((a 0), .inr (11, [.ref (ex 0), .ref (ex 1), .ref (ex 2), .ref (ex 3), .ref (ex 4), .ref (ex 5), .ref (ex 6), .ref (ex 7), .ref (ex 8), .ref (ex 9), .ref (ex 10), .ref (a 1), .ref (ex 11), .ref (ex 12), .int 0])), ((a 1), .inr (3, [.ref (ex 1), .ref (ex 4), .int 0, .int 0, .int (-1)]))]
set_option maxHeartbeats 4000000 in
set_option maxRecDepth 100000 in
theorem c_X11_cheapest (l : Launch) (D : va_G) (T : Nat → ClassId) (a ex : Nat → Nat) (fi : Nat → Nat → Int32) (fl : Nat → Nat → Int64) (vi : Nat → Int32) (sz : Nat) : Met l yX11_cheapest (xw yX11_cheapest cX11_cheapest 1 (some .int)) ({ frames := 0, cells := 0, slots := 0, locals := 0 }) (xP D T [.ref (a 0)] sz (pre_X11_cheapest T a ex fi fl vi)) (va_Qi (fun r (_ : Unit) => r = (-1)) (xB D (va_A (pre_X11_cheapest T a ex fi fl vi) sz) (fun _ => True) (fun b fj fm vj => [])) (va_A (pre_X11_cheapest T a ex fi fl vi) sz)) 0 0 (va_A (pre_X11_cheapest T a ex fi fl vi) sz) := by
  refine xofW (cc := cX11_cheapest) (maxL := 1) (ret := (some .int)) (by decide) rfl ?_
  intro p e s m args below meth c s₁ R Q hR hQ B hml hv
  obtain ⟨rfl, hsz, hP, hK, hD0⟩ := hv
  have hx := B.exec
  have hb := B.bytes
  have hr := B.returns
  have hts := atoms_spec (ws := xw yX11_cheapest cX11_cheapest 1 (some .int)) B.pre
  have htg : ∀ w ∈ xg, w.before _ s = true := fun w h => hts w (List.mem_cons_of_mem _ h)
  have hown : s.vm.findClass RX11 = some m.cls := findClass_of_methodNamed B.named
  have hlocks := B.notSynchronized
  subst hsz
  have hD := hD0.self (sz := s.heap.size)
  generalize hAe : va_A (pre_X11_cheapest T a ex fi fl vi) s.heap.size = A at hD hQ
  have hA : ∀ q : Nat, s.heap.size ≤ q → A q := fun q h => by rw [← hAe]; exact Or.inr h
  have hS : va_S A s.heap s.heap [] := va_S.rf
  replace hP : va_P D vwCl [((a 0), .inr (11, [.ref (ex 0), .ref (ex 1), .ref (ex 2), .ref (ex 3), .ref (ex 4), .ref (ex 5), .ref (ex 6), .ref (ex 7), .ref (ex 8), .ref (ex 9), .ref (ex 10), .ref (a 1), .ref (ex 11), .ref (ex 12), .int 0])), ((a 1), .inr (3, [.ref (ex 1), .ref (ex 4), .int 0, .int 0, .int (-1)]))] s.heap := hP
  replace hD : va_D A [((a 0), .inr (11, [.ref (ex 0), .ref (ex 1), .ref (ex 2), .ref (ex 3), .ref (ex 4), .ref (ex 5), .ref (ex 6), .ref (ex 7), .ref (ex 8), .ref (ex 9), .ref (ex 10), .ref (a 1), .ref (ex 11), .ref (ex 12), .int 0])), ((a 1), .inr (3, [.ref (ex 1), .ref (ex 4), .int 0, .int 0, .int (-1)]))] := hD
  have hl := lv_entry ([.ref (a 0)]) (n := 1) (Nat.le_of_ble_eq_true rfl)
  rw [lg_entry_eq]
  generalize (lg_sl ([.ref (a 0)]) ++ List.replicate (1 - (lg_sl ([.ref (a 0)])).length) Slot.unset).toArray = ls at hl ⊢
  replace hl : lv_has ls 1 [(0, .ref (a 0))] := hl
  refine lv_aload_n hx hb dX11_cheapest_0 rfl (lv_at hl 0 rfl) ?_
  refine va_get (D := D) (ci := 11) (v := .ref (a 1)) (C := RX11) (T := TX11) (N := 15) hx hb htg inX11 hown hK.1 hP 0 rfl rfl 11 (by decide) (htg _ kw_507) (fun _ h9 => h9) rfl dX11_cheapest_1 ?_
  refine va_getN (D := D) (ci := 3) (v := .int (-1)) (C := RX3) (T := TX3) (N := 5) hx hb htg inX3 hown hK.1 hP 1 rfl rfl 4 (by decide) (va_Nw.use rfl (hK.2.1 _ kn_444)) (fun _ h9 => h9) rfl dX11_cheapest_4 ?_
  have hP9 := hP.sub (ws' := []) [] rfl
  have hD9 := hD.sub (ws' := []) [] (by decide) rfl
  rw [hQ]
  exact W.iret (v := (-1)) hx hb hr (fun t ht hW => ⟨⟨(-1), (), rfl, rfl, ⟨xa [], xf [], xh [], xv [], by rw [ht]; exact hP9, hD9, trivial⟩⟩, hS.F ht⟩) hS.2.2 dX11_cheapest_7
abbrev pre_X11_feasts (T : Nat → ClassId) (a ex : Nat → Nat) (fi : Nat → Nat → Int32) (fl : Nat → Nat → Int64) (vi : Nat → Int32) : va_W := [((a 0), .inr (11, [.ref (ex 0), .ref (a 1), .ref (ex 1), .ref (ex 2), .ref (ex 3), .ref (ex 4), .ref (ex 5), .ref (ex 6), .ref (ex 7), .ref (ex 8), .ref (ex 9), .ref (ex 10), .ref (ex 11), .ref (ex 12), .int 0])), ((a 1), .inr (7, [.int 0, .int 0, .ref (ex 13), .ref (ex 14), .ref (ex 15), .ref (ex 16), .ref (ex 17), .ref (ex 18), .ref (ex 19), .ref (ex 20), .ref (ex 21), .ref (ex 22)]))]
set_option maxHeartbeats 4000000 in
set_option maxRecDepth 100000 in
theorem c_X11_feasts (l : Launch) (D : va_G) (T : Nat → ClassId) (a ex : Nat → Nat) (fi : Nat → Nat → Int32) (fl : Nat → Nat → Int64) (vi : Nat → Int32) (sz : Nat) : Met l yX11_feasts (xw yX11_feasts cX11_feasts 6 (some .int)) ({ frames := 1, cells := 0, slots := 0, locals := 25 }) (xP D T [.ref (a 0), .int (vi 0), .int (vi 1)] sz (pre_X11_feasts T a ex fi fl vi)) (va_Qi (fun r (_ : Unit) => r = (-1)) (xB D (va_A (pre_X11_feasts T a ex fi fl vi) sz) (fun _ => True) (fun b fj fm vj => [])) (va_A (pre_X11_feasts T a ex fi fl vi) sz)) 0 0 (va_A (pre_X11_feasts T a ex fi fl vi) sz) := by
  refine xofW (cc := cX11_feasts) (maxL := 6) (ret := (some .int)) (by decide) rfl ?_
  intro p e s m args below meth c s₁ R Q hR hQ B hml hv
  obtain ⟨rfl, hsz, hP, hK, hD0⟩ := hv
  have hx := B.exec
  have hb := B.bytes
  have hr := B.returns
  have hts := atoms_spec (ws := xw yX11_feasts cX11_feasts 6 (some .int)) B.pre
  have htg : ∀ w ∈ xg, w.before _ s = true := fun w h => hts w (List.mem_cons_of_mem _ h)
  have hown : s.vm.findClass RX11 = some m.cls := findClass_of_methodNamed B.named
  have hlocks := B.notSynchronized
  subst hsz
  have hD := hD0.self (sz := s.heap.size)
  generalize hAe : va_A (pre_X11_feasts T a ex fi fl vi) s.heap.size = A at hD hQ
  have hA : ∀ q : Nat, s.heap.size ≤ q → A q := fun q h => by rw [← hAe]; exact Or.inr h
  have hS : va_S A s.heap s.heap [] := va_S.rf
  replace hP : va_P D vwCl [((a 0), .inr (11, [.ref (ex 0), .ref (a 1), .ref (ex 1), .ref (ex 2), .ref (ex 3), .ref (ex 4), .ref (ex 5), .ref (ex 6), .ref (ex 7), .ref (ex 8), .ref (ex 9), .ref (ex 10), .ref (ex 11), .ref (ex 12), .int 0])), ((a 1), .inr (7, [.int 0, .int 0, .ref (ex 13), .ref (ex 14), .ref (ex 15), .ref (ex 16), .ref (ex 17), .ref (ex 18), .ref (ex 19), .ref (ex 20), .ref (ex 21), .ref (ex 22)]))] s.heap := hP
  replace hD : va_D A [((a 0), .inr (11, [.ref (ex 0), .ref (a 1), .ref (ex 1), .ref (ex 2), .ref (ex 3), .ref (ex 4), .ref (ex 5), .ref (ex 6), .ref (ex 7), .ref (ex 8), .ref (ex 9), .ref (ex 10), .ref (ex 11), .ref (ex 12), .int 0])), ((a 1), .inr (7, [.int 0, .int 0, .ref (ex 13), .ref (ex 14), .ref (ex 15), .ref (ex 16), .ref (ex 17), .ref (ex 18), .ref (ex 19), .ref (ex 20), .ref (ex 21), .ref (ex 22)]))] := hD
  have hl := lv_entry ([.ref (a 0), .int (vi 0), .int (vi 1)]) (n := 6) (Nat.le_of_ble_eq_true rfl)
  rw [lg_entry_eq]
  generalize (lg_sl ([.ref (a 0), .int (vi 0), .int (vi 1)]) ++ List.replicate (6 - (lg_sl ([.ref (a 0), .int (vi 0), .int (vi 1)])).length) Slot.unset).toArray = ls at hl ⊢
  replace hl : lv_has ls 6 [(0, .ref (a 0)), (1, .int (vi 0)), (2, .int (vi 1))] := hl
  refine lv_aload_n hx hb dX11_feasts_0 rfl (lv_at hl 0 rfl) ?_
  refine va_get (D := D) (ci := 11) (v := .ref (a 1)) (C := RX11) (T := TX11) (N := 15) hx hb htg inX11 hown hK.1 hP 0 rfl rfl 1 (by decide) (htg _ kw_497) (fun _ h9 => h9) rfl dX11_feasts_1 ?_
  refine lv_iload_n hx hb dX11_feasts_4 rfl (lv_at hl 1 rfl) ?_
  have hPc := hP.sub (ws' := (pre_X7_isName T (xa [(a 1)]) (xa [(ex 13), (ex 14), (ex 15), (ex 16), (ex 17), (ex 18), (ex 19), (ex 20), (ex 21), (ex 22)]) (xf []) (xh []) (xv [(vi 0)]))) [1] rfl
  have hDc := hD.sub (ws' := (pre_X7_isName T (xa [(a 1)]) (xa [(ex 13), (ex 14), (ex 15), (ex 16), (ex 17), (ex 18), (ex 19), (ex 20), (ex 21), (ex 22)]) (xf []) (xh []) (xv [(vi 0)]))) [1] (by decide) rfl
  have hFc := va_free (wc := (pre_X7_isName T (xa [(a 1)]) (xa [(ex 13), (ex 14), (ex 15), (ex 16), (ex 17), (ex 18), (ex 19), (ex 20), (ex 21), (ex 22)]) (xf []) (xh []) (xv [(vi 0)]))) hD hS hA [1] rfl
  refine va_calli (va_runVN (As := [.int (vi 0)]) (rest := []) ⟨hx, hb, hml, hown, htg⟩ (c_X7_isName l D T (xa [(a 1)]) (xa [(ex 13), (ex 14), (ex 15), (ex 16), (ex 17), (ex 18), (ex 19), (ex 20), (ex 21), (ex 22)]) (xf []) (xh []) (xv [(vi 0)]) s.heap.size) ⟨va_cnB 1 htg (xg_ok kw_683) rfl rfl rfl (hK.2.1 _ kn_743) (htg _ kw_7) (by decide +kernel) ⟨by rw [hR]; exact Nat.le_of_ble_eq_true rfl, by rw [hR]; exact Nat.le_of_ble_eq_true rfl⟩, htg _ kw_682, htg _ ks_29⟩ (xpreV hK hPc hDc (va_recv hK.1 hPc (ci := 7) (q0 := 0) rfl rfl)) rfl rfl hl.1 rfl (lv_room (Nat.le_of_ble_eq_true rfl)) dX11_feasts_5 ⟨by rw [hR]; exact Nat.le_of_ble_eq_true rfl, by rw [hR]; exact Nat.le_of_ble_eq_true rfl⟩) hS (fun q _ h => hFc q h) hFc (fun r9 u t H1 locs ht hvm hw hB hz1 hk1 hS => ?_)
  obtain ⟨bk, fik, flk, vik, hP1, hD1, hGk⟩ := hB
  rw [ht] at hP1
  obtain ⟨hP, hD⟩ := va_join (wr := [((a 0), .inr (11, [.ref (ex 0), .ref (a 1), .ref (ex 1), .ref (ex 2), .ref (ex 3), .ref (ex 4), .ref (ex 5), .ref (ex 6), .ref (ex 7), .ref (ex 8), .ref (ex 9), .ref (ex 10), .ref (ex 11), .ref (ex 12), .int 0]))]) (w1 := [((a 1), .inr (7, [.int 0, .int 0, .ref (ex 13), .ref (ex 14), .ref (ex 15), .ref (ex 16), .ref (ex 17), .ref (ex 18), .ref (ex 19), .ref (ex 20), .ref (ex 21), .ref (ex 22)]))]) hP hD [1] [0] rfl rfl (by decide) (by decide) hk1 hFc hP1 hD1
  subst hw
  clear hPc hDc hFc hP1 hD1 hk1 hz1 hvm ht
  generalize H1 = H at hP hS ⊢
  replace hP : va_P D vwCl [((a 0), .inr (11, [.ref (ex 0), .ref (a 1), .ref (ex 1), .ref (ex 2), .ref (ex 3), .ref (ex 4), .ref (ex 5), .ref (ex 6), .ref (ex 7), .ref (ex 8), .ref (ex 9), .ref (ex 10), .ref (ex 11), .ref (ex 12), .int 0])), ((a 1), .inr (7, [.int 0, .int 0, .ref (ex 13), .ref (ex 14), .ref (ex 15), .ref (ex 16), .ref (ex 17), .ref (ex 18), .ref (ex 19), .ref (ex 20), .ref (ex 21), .ref (ex 22)]))] H := hP
  replace hD : va_D A [((a 0), .inr (11, [.ref (ex 0), .ref (a 1), .ref (ex 1), .ref (ex 2), .ref (ex 3), .ref (ex 4), .ref (ex 5), .ref (ex 6), .ref (ex 7), .ref (ex 8), .ref (ex 9), .ref (ex 10), .ref (ex 11), .ref (ex 12), .int 0])), ((a 1), .inr (7, [.int 0, .int 0, .ref (ex 13), .ref (ex 14), .ref (ex 15), .ref (ex 16), .ref (ex 17), .ref (ex 18), .ref (ex 19), .ref (ex 20), .ref (ex 21), .ref (ex 22)]))] := hD
  refine lv_if_eq (tgt := 22) hx hb dX11_feasts_8 (by decide) (fun _ => ?_) (fun c => absurd (by decide) c)
  refine lv_iconst (v := (-1)) hx hb dX11_feasts_22 (by decide) ?_
  have hP9 := hP.sub (ws' := []) [] rfl
  have hD9 := hD.sub (ws' := []) [] (by decide) rfl
  rw [hQ]
  exact W.iret (v := (-1)) hx hb hr (fun t ht hW => ⟨⟨(-1), (), rfl, rfl, ⟨xa [], xf [], xh [], xv [], by rw [ht]; exact hP9, hD9, trivial⟩⟩, hS.F ht⟩) hS.2.2 dX11_feasts_23
abbrev pre_X11_queue (T : Nat → ClassId) (a ex : Nat → Nat) (fi : Nat → Nat → Int32) (fl : Nat → Nat → Int64) (vi : Nat → Int32) : va_W := [((a 0), .inr (11, [.ref (ex 0), .ref (ex 1), .ref (ex 2), .ref (ex 3), .ref (a 1), .ref (ex 4), .ref (ex 5), .ref (ex 6), .ref (ex 7), .ref (ex 8), .ref (ex 9), .ref (ex 10), .ref (ex 11), .ref (ex 12), .int 0])), ((a 1), .inr (2, [.ref (ex 1), .int 0, .int 0, .int 0, .int 0, .int 0, .int 0, .ref (ex 13), .ref (ex 14), .ref (ex 15), .ref (ex 16), .ref (ex 17), .ref (ex 18), .ref (ex 19), .ref (ex 20)]))]
set_option maxHeartbeats 4000000 in
set_option maxRecDepth 100000 in
theorem c_X11_queue (l : Launch) (D : va_G) (T : Nat → ClassId) (a ex : Nat → Nat) (fi : Nat → Nat → Int32) (fl : Nat → Nat → Int64) (vi : Nat → Int32) (sz : Nat) : Met l yX11_queue (xw yX11_queue cX11_queue 2 (some .int)) ({ frames := 0, cells := 0, slots := 0, locals := 0 }) (xP D T [.ref (a 0), .int (vi 0)] sz (pre_X11_queue T a ex fi fl vi)) (va_Qi (fun r (_ : Unit) => r = (-1)) (xB D (va_A (pre_X11_queue T a ex fi fl vi) sz) (fun _ => True) (fun b fj fm vj => [])) (va_A (pre_X11_queue T a ex fi fl vi) sz)) 0 0 (va_A (pre_X11_queue T a ex fi fl vi) sz) := by
  refine xofW (cc := cX11_queue) (maxL := 2) (ret := (some .int)) (by decide) rfl ?_
  intro p e s m args below meth c s₁ R Q hR hQ B hml hv
  obtain ⟨rfl, hsz, hP, hK, hD0⟩ := hv
  have hx := B.exec
  have hb := B.bytes
  have hr := B.returns
  have hts := atoms_spec (ws := xw yX11_queue cX11_queue 2 (some .int)) B.pre
  have htg : ∀ w ∈ xg, w.before _ s = true := fun w h => hts w (List.mem_cons_of_mem _ h)
  have hown : s.vm.findClass RX11 = some m.cls := findClass_of_methodNamed B.named
  have hlocks := B.notSynchronized
  subst hsz
  have hD := hD0.self (sz := s.heap.size)
  generalize hAe : va_A (pre_X11_queue T a ex fi fl vi) s.heap.size = A at hD hQ
  have hA : ∀ q : Nat, s.heap.size ≤ q → A q := fun q h => by rw [← hAe]; exact Or.inr h
  have hS : va_S A s.heap s.heap [] := va_S.rf
  replace hP : va_P D vwCl [((a 0), .inr (11, [.ref (ex 0), .ref (ex 1), .ref (ex 2), .ref (ex 3), .ref (a 1), .ref (ex 4), .ref (ex 5), .ref (ex 6), .ref (ex 7), .ref (ex 8), .ref (ex 9), .ref (ex 10), .ref (ex 11), .ref (ex 12), .int 0])), ((a 1), .inr (2, [.ref (ex 1), .int 0, .int 0, .int 0, .int 0, .int 0, .int 0, .ref (ex 13), .ref (ex 14), .ref (ex 15), .ref (ex 16), .ref (ex 17), .ref (ex 18), .ref (ex 19), .ref (ex 20)]))] s.heap := hP
  replace hD : va_D A [((a 0), .inr (11, [.ref (ex 0), .ref (ex 1), .ref (ex 2), .ref (ex 3), .ref (a 1), .ref (ex 4), .ref (ex 5), .ref (ex 6), .ref (ex 7), .ref (ex 8), .ref (ex 9), .ref (ex 10), .ref (ex 11), .ref (ex 12), .int 0])), ((a 1), .inr (2, [.ref (ex 1), .int 0, .int 0, .int 0, .int 0, .int 0, .int 0, .ref (ex 13), .ref (ex 14), .ref (ex 15), .ref (ex 16), .ref (ex 17), .ref (ex 18), .ref (ex 19), .ref (ex 20)]))] := hD
  have hl := lv_entry ([.ref (a 0), .int (vi 0)]) (n := 2) (Nat.le_of_ble_eq_true rfl)
  rw [lg_entry_eq]
  generalize (lg_sl ([.ref (a 0), .int (vi 0)]) ++ List.replicate (2 - (lg_sl ([.ref (a 0), .int (vi 0)])).length) Slot.unset).toArray = ls at hl ⊢
  replace hl : lv_has ls 2 [(0, .ref (a 0)), (1, .int (vi 0))] := hl
  refine lv_iload_n hx hb dX11_queue_0 rfl (lv_at hl 1 rfl) ?_
  refine lv_if_lt (tgt := 27) hx hb dX11_queue_1 (by decide) (fun c1 => ?_) (fun c1 => ?_)
  · have c1 := xlt (k := 0) (by decide) c1
    refine lv_iconst (v := (-1)) hx hb dX11_queue_27 (by decide) ?_
    have hP9 := hP.sub (ws' := []) [] rfl
    have hD9 := hD.sub (ws' := []) [] (by decide) rfl
    rw [hQ]
    exact W.iret (v := (-1)) hx hb hr (fun t ht hW => ⟨⟨(-1), (), rfl, rfl, ⟨xa [], xf [], xh [], xv [], by rw [ht]; exact hP9, hD9, trivial⟩⟩, hS.F ht⟩) hS.2.2 dX11_queue_28
  · have c1 := xnlt (k := 0) (by decide) c1
    refine lv_iload_n hx hb dX11_queue_4 rfl (lv_at hl 1 rfl) ?_
    refine lv_aload_n hx hb dX11_queue_5 rfl (lv_at hl 0 rfl) ?_
    refine va_get (D := D) (ci := 11) (v := .ref (a 1)) (C := RX11) (T := TX11) (N := 15) hx hb htg inX11 hown hK.1 hP 0 rfl rfl 4 (by decide) (htg _ kw_500) (fun _ h9 => h9) rfl dX11_queue_6 ?_
    refine va_getN (D := D) (ci := 2) (v := .int 0) (C := RX2) (T := TX2) (N := 15) hx hb htg inX2 hown hK.1 hP 1 rfl rfl 6 (by decide) (va_Nw.use rfl (hK.2.1 _ kn_259)) (fun _ h9 => h9) rfl dX11_queue_9 ?_
    refine lv_icmp_ge (tgt := 27) hx hb dX11_queue_12 (by decide) (fun _ => ?_) (fun c => by exfalso; have h9 := xnge (k := 0) (by decide) c; omega)
    refine lv_iconst (v := (-1)) hx hb dX11_queue_27 (by decide) ?_
    have hP9 := hP.sub (ws' := []) [] rfl
    have hD9 := hD.sub (ws' := []) [] (by decide) rfl
    rw [hQ]
    exact W.iret (v := (-1)) hx hb hr (fun t ht hW => ⟨⟨(-1), (), rfl, rfl, ⟨xa [], xf [], xh [], xv [], by rw [ht]; exact hP9, hD9, trivial⟩⟩, hS.F ht⟩) hS.2.2 dX11_queue_28
abbrev pre_X11_drawn (T : Nat → ClassId) (a ex : Nat → Nat) (fi : Nat → Nat → Int32) (fl : Nat → Nat → Int64) (vi : Nat → Int32) : va_W := [((a 0), .inr (11, [.ref (ex 0), .ref (a 1), .ref (ex 1), .ref (ex 2), .ref (ex 3), .ref (ex 4), .ref (ex 5), .ref (ex 6), .ref (ex 7), .ref (ex 8), .ref (ex 9), .ref (ex 10), .ref (ex 11), .ref (ex 12), .int 0])), ((a 1), .inr (7, [.int 0, .int 0, .ref (ex 13), .ref (ex 14), .ref (ex 15), .ref (ex 16), .ref (ex 17), .ref (ex 18), .ref (ex 19), .ref (ex 20), .ref (ex 21), .ref (ex 22)]))]
set_option maxHeartbeats 4000000 in
set_option maxRecDepth 100000 in
theorem c_X11_drawn (l : Launch) (D : va_G) (T : Nat → ClassId) (a ex : Nat → Nat) (fi : Nat → Nat → Int32) (fl : Nat → Nat → Int64) (vi : Nat → Int32) (sz : Nat) (hd0 : (1 ≤ (vi 0).toInt ∧ (vi 0).toInt ≤ 60)) : Met l yX11_drawn (xw yX11_drawn cX11_drawn 3 (some .int)) ({ frames := 0, cells := 0, slots := 0, locals := 0 }) (xP D T [.ref (a 0), .int (vi 0), .int (vi 1)] sz (pre_X11_drawn T a ex fi fl vi)) (va_Qi (fun r (_ : Unit) => r = (-1)) (xB D (va_A (pre_X11_drawn T a ex fi fl vi) sz) (fun _ => True) (fun b fj fm vj => [])) (va_A (pre_X11_drawn T a ex fi fl vi) sz)) 0 0 (va_A (pre_X11_drawn T a ex fi fl vi) sz) := by
  refine xofW (cc := cX11_drawn) (maxL := 3) (ret := (some .int)) (by decide) rfl ?_
  intro p e s m args below meth c s₁ R Q hR hQ B hml hv
  obtain ⟨rfl, hsz, hP, hK, hD0⟩ := hv
  have hx := B.exec
  have hb := B.bytes
  have hr := B.returns
  have hts := atoms_spec (ws := xw yX11_drawn cX11_drawn 3 (some .int)) B.pre
  have htg : ∀ w ∈ xg, w.before _ s = true := fun w h => hts w (List.mem_cons_of_mem _ h)
  have hown : s.vm.findClass RX11 = some m.cls := findClass_of_methodNamed B.named
  have hlocks := B.notSynchronized
  subst hsz
  have hD := hD0.self (sz := s.heap.size)
  generalize hAe : va_A (pre_X11_drawn T a ex fi fl vi) s.heap.size = A at hD hQ
  have hA : ∀ q : Nat, s.heap.size ≤ q → A q := fun q h => by rw [← hAe]; exact Or.inr h
  have hS : va_S A s.heap s.heap [] := va_S.rf
  replace hP : va_P D vwCl [((a 0), .inr (11, [.ref (ex 0), .ref (a 1), .ref (ex 1), .ref (ex 2), .ref (ex 3), .ref (ex 4), .ref (ex 5), .ref (ex 6), .ref (ex 7), .ref (ex 8), .ref (ex 9), .ref (ex 10), .ref (ex 11), .ref (ex 12), .int 0])), ((a 1), .inr (7, [.int 0, .int 0, .ref (ex 13), .ref (ex 14), .ref (ex 15), .ref (ex 16), .ref (ex 17), .ref (ex 18), .ref (ex 19), .ref (ex 20), .ref (ex 21), .ref (ex 22)]))] s.heap := hP
  replace hD : va_D A [((a 0), .inr (11, [.ref (ex 0), .ref (a 1), .ref (ex 1), .ref (ex 2), .ref (ex 3), .ref (ex 4), .ref (ex 5), .ref (ex 6), .ref (ex 7), .ref (ex 8), .ref (ex 9), .ref (ex 10), .ref (ex 11), .ref (ex 12), .int 0])), ((a 1), .inr (7, [.int 0, .int 0, .ref (ex 13), .ref (ex 14), .ref (ex 15), .ref (ex 16), .ref (ex 17), .ref (ex 18), .ref (ex 19), .ref (ex 20), .ref (ex 21), .ref (ex 22)]))] := hD
  have hl := lv_entry ([.ref (a 0), .int (vi 0), .int (vi 1)]) (n := 3) (Nat.le_of_ble_eq_true rfl)
  rw [lg_entry_eq]
  generalize (lg_sl ([.ref (a 0), .int (vi 0), .int (vi 1)]) ++ List.replicate (3 - (lg_sl ([.ref (a 0), .int (vi 0), .int (vi 1)])).length) Slot.unset).toArray = ls at hl ⊢
  replace hl : lv_has ls 3 [(0, .ref (a 0)), (1, .int (vi 0)), (2, .int (vi 1))] := hl
  refine lv_iload_n hx hb dX11_drawn_0 rfl (lv_at hl 1 rfl) ?_
  refine lv_iconst (v := 1) hx hb dX11_drawn_1 (by decide) ?_
  refine lv_icmp_lt (tgt := 31) hx hb dX11_drawn_2 (by decide) (fun c => by exfalso; have h9 := xlt (k := 1) (by decide) c; omega) (fun _ => ?_)
  refine lv_iload_n hx hb dX11_drawn_5 rfl (lv_at hl 1 rfl) ?_
  refine lv_bipush (v := 60) hx hb dX11_drawn_6 (by decide) ?_
  refine lv_icmp_gt (tgt := 31) hx hb dX11_drawn_8 (by decide) (fun c => by exfalso; have h9 := xgt (k := 60) (by decide) c; omega) (fun _ => ?_)
  refine lv_aload_n hx hb dX11_drawn_11 rfl (lv_at hl 0 rfl) ?_
  refine va_get (D := D) (ci := 11) (v := .ref (a 1)) (C := RX11) (T := TX11) (N := 15) hx hb htg inX11 hown hK.1 hP 0 rfl rfl 1 (by decide) (htg _ kw_497) (fun _ h9 => h9) rfl dX11_drawn_12 ?_
  refine va_getN (D := D) (ci := 7) (v := .int 0) (C := RX7) (T := TX7) (N := 12) hx hb htg inX7 hown hK.1 hP 1 rfl rfl 1 (by decide) (va_Nw.use rfl (hK.2.1 _ kn_167)) (fun _ h9 => h9) rfl dX11_drawn_15 ?_
  refine lv_if_eq (tgt := 31) hx hb dX11_drawn_18 (by decide) (fun _ => ?_) (fun c => absurd (by decide) c)
  refine lv_iconst (v := (-1)) hx hb dX11_drawn_31 (by decide) ?_
  have hP9 := hP.sub (ws' := []) [] rfl
  have hD9 := hD.sub (ws' := []) [] (by decide) rfl
  rw [hQ]
  exact W.iret (v := (-1)) hx hb hr (fun t ht hW => ⟨⟨(-1), (), rfl, rfl, ⟨xa [], xf [], xh [], xv [], by rw [ht]; exact hP9, hD9, trivial⟩⟩, hS.F ht⟩) hS.2.2 dX11_drawn_32
abbrev pre_X11_drawn_2 (T : Nat → ClassId) (a ex : Nat → Nat) (fi : Nat → Nat → Int32) (fl : Nat → Nat → Int64) (vi : Nat → Int32) : va_W := [((a 0), .inr (11, [.ref (ex 0), .ref (ex 1), .ref (ex 2), .ref (ex 3), .ref (ex 4), .ref (ex 5), .ref (ex 6), .ref (ex 7), .ref (ex 8), .ref (ex 9), .ref (ex 10), .ref (ex 11), .ref (ex 12), .ref (ex 13), .int 0]))]
set_option maxHeartbeats 4000000 in
set_option maxRecDepth 100000 in
theorem c_X11_drawn_2 (l : Launch) (D : va_G) (T : Nat → ClassId) (a ex : Nat → Nat) (fi : Nat → Nat → Int32) (fl : Nat → Nat → Int64) (vi : Nat → Int32) (sz : Nat) (hd0 : (vi 0).toInt ≤ 0 ∨ 61 ≤ (vi 0).toInt) : Met l yX11_drawn (xw yX11_drawn cX11_drawn 3 (some .int)) ({ frames := 0, cells := 0, slots := 0, locals := 0 }) (xP D T [.ref (a 0), .int (vi 0), .int (vi 1)] sz (pre_X11_drawn_2 T a ex fi fl vi)) (va_Qi (fun r (_ : Unit) => r = (-1)) (xB D (va_A (pre_X11_drawn_2 T a ex fi fl vi) sz) (fun _ => True) (fun b fj fm vj => [])) (va_A (pre_X11_drawn_2 T a ex fi fl vi) sz)) 0 0 (va_A (pre_X11_drawn_2 T a ex fi fl vi) sz) := by
  refine xofW (cc := cX11_drawn) (maxL := 3) (ret := (some .int)) (by decide) rfl ?_
  intro p e s m args below meth c s₁ R Q hR hQ B hml hv
  obtain ⟨rfl, hsz, hP, hK, hD0⟩ := hv
  have hx := B.exec
  have hb := B.bytes
  have hr := B.returns
  have hts := atoms_spec (ws := xw yX11_drawn cX11_drawn 3 (some .int)) B.pre
  have htg : ∀ w ∈ xg, w.before _ s = true := fun w h => hts w (List.mem_cons_of_mem _ h)
  have hown : s.vm.findClass RX11 = some m.cls := findClass_of_methodNamed B.named
  have hlocks := B.notSynchronized
  subst hsz
  have hD := hD0.self (sz := s.heap.size)
  generalize hAe : va_A (pre_X11_drawn_2 T a ex fi fl vi) s.heap.size = A at hD hQ
  have hA : ∀ q : Nat, s.heap.size ≤ q → A q := fun q h => by rw [← hAe]; exact Or.inr h
  have hS : va_S A s.heap s.heap [] := va_S.rf
  replace hP : va_P D vwCl [((a 0), .inr (11, [.ref (ex 0), .ref (ex 1), .ref (ex 2), .ref (ex 3), .ref (ex 4), .ref (ex 5), .ref (ex 6), .ref (ex 7), .ref (ex 8), .ref (ex 9), .ref (ex 10), .ref (ex 11), .ref (ex 12), .ref (ex 13), .int 0]))] s.heap := hP
  replace hD : va_D A [((a 0), .inr (11, [.ref (ex 0), .ref (ex 1), .ref (ex 2), .ref (ex 3), .ref (ex 4), .ref (ex 5), .ref (ex 6), .ref (ex 7), .ref (ex 8), .ref (ex 9), .ref (ex 10), .ref (ex 11), .ref (ex 12), .ref (ex 13), .int 0]))] := hD
  have hl := lv_entry ([.ref (a 0), .int (vi 0), .int (vi 1)]) (n := 3) (Nat.le_of_ble_eq_true rfl)
  rw [lg_entry_eq]
  generalize (lg_sl ([.ref (a 0), .int (vi 0), .int (vi 1)]) ++ List.replicate (3 - (lg_sl ([.ref (a 0), .int (vi 0), .int (vi 1)])).length) Slot.unset).toArray = ls at hl ⊢
  replace hl : lv_has ls 3 [(0, .ref (a 0)), (1, .int (vi 0)), (2, .int (vi 1))] := hl
  refine lv_iload_n hx hb dX11_drawn_0 rfl (lv_at hl 1 rfl) ?_
  refine lv_iconst (v := 1) hx hb dX11_drawn_1 (by decide) ?_
  refine lv_icmp_lt (tgt := 31) hx hb dX11_drawn_2 (by decide) (fun c2 => ?_) (fun c2 => ?_)
  · have c2 := xlt (k := 1) (by decide) c2
    refine lv_iconst (v := (-1)) hx hb dX11_drawn_31 (by decide) ?_
    have hP9 := hP.sub (ws' := []) [] rfl
    have hD9 := hD.sub (ws' := []) [] (by decide) rfl
    rw [hQ]
    exact W.iret (v := (-1)) hx hb hr (fun t ht hW => ⟨⟨(-1), (), rfl, rfl, ⟨xa [], xf [], xh [], xv [], by rw [ht]; exact hP9, hD9, trivial⟩⟩, hS.F ht⟩) hS.2.2 dX11_drawn_32
  · have c2 := xnlt (k := 1) (by decide) c2
    refine lv_iload_n hx hb dX11_drawn_5 rfl (lv_at hl 1 rfl) ?_
    refine lv_bipush (v := 60) hx hb dX11_drawn_6 (by decide) ?_
    refine lv_icmp_gt (tgt := 31) hx hb dX11_drawn_8 (by decide) (fun _ => ?_) (fun c => by exfalso; have h9 := xngt (k := 60) (by decide) c; omega)
    refine lv_iconst (v := (-1)) hx hb dX11_drawn_31 (by decide) ?_
    have hP9 := hP.sub (ws' := []) [] rfl
    have hD9 := hD.sub (ws' := []) [] (by decide) rfl
    rw [hQ]
    exact W.iret (v := (-1)) hx hb hr (fun t ht hW => ⟨⟨(-1), (), rfl, rfl, ⟨xa [], xf [], xh [], xv [], by rw [ht]; exact hP9, hD9, trivial⟩⟩, hS.F ht⟩) hS.2.2 dX11_drawn_32
abbrev pre_X11_odds (T : Nat → ClassId) (a ex : Nat → Nat) (fi : Nat → Nat → Int32) (fl : Nat → Nat → Int64) (vi : Nat → Int32) : va_W := [((a 0), .inr (11, [.ref (ex 0), .ref (a 1), .ref (ex 1), .ref (ex 2), .ref (ex 3), .ref (ex 4), .ref (ex 5), .ref (ex 6), .ref (ex 7), .ref (ex 8), .ref (ex 9), .ref (ex 10), .ref (ex 11), .ref (ex 12), .int 0])), ((a 1), .inr (7, [.int 0, .int 0, .ref (ex 13), .ref (ex 14), .ref (ex 15), .ref (ex 16), .ref (ex 17), .ref (ex 18), .ref (ex 19), .ref (ex 20), .ref (ex 21), .ref (ex 22)]))]
set_option maxHeartbeats 4000000 in
set_option maxRecDepth 100000 in
theorem c_X11_odds (l : Launch) (D : va_G) (T : Nat → ClassId) (a ex : Nat → Nat) (fi : Nat → Nat → Int32) (fl : Nat → Nat → Int64) (vi : Nat → Int32) (sz : Nat) : Met l yX11_odds (xw yX11_odds cX11_odds 6 (some .int)) ({ frames := 1, cells := 0, slots := 0, locals := 25 }) (xP D T [.ref (a 0), .int (vi 0), .int (vi 1), .int (vi 2)] sz (pre_X11_odds T a ex fi fl vi)) (va_Qi (fun r (_ : Unit) => r = (-1)) (xB D (va_A (pre_X11_odds T a ex fi fl vi) sz) (fun _ => True) (fun b fj fm vj => [])) (va_A (pre_X11_odds T a ex fi fl vi) sz)) 0 0 (va_A (pre_X11_odds T a ex fi fl vi) sz) := by
  refine xofW (cc := cX11_odds) (maxL := 6) (ret := (some .int)) (by decide) rfl ?_
  intro p e s m args below meth c s₁ R Q hR hQ B hml hv
  obtain ⟨rfl, hsz, hP, hK, hD0⟩ := hv
  have hx := B.exec
  have hb := B.bytes
  have hr := B.returns
  have hts := atoms_spec (ws := xw yX11_odds cX11_odds 6 (some .int)) B.pre
  have htg : ∀ w ∈ xg, w.before _ s = true := fun w h => hts w (List.mem_cons_of_mem _ h)
  have hown : s.vm.findClass RX11 = some m.cls := findClass_of_methodNamed B.named
  have hlocks := B.notSynchronized
  subst hsz
  have hD := hD0.self (sz := s.heap.size)
  generalize hAe : va_A (pre_X11_odds T a ex fi fl vi) s.heap.size = A at hD hQ
  have hA : ∀ q : Nat, s.heap.size ≤ q → A q := fun q h => by rw [← hAe]; exact Or.inr h
  have hS : va_S A s.heap s.heap [] := va_S.rf
  replace hP : va_P D vwCl [((a 0), .inr (11, [.ref (ex 0), .ref (a 1), .ref (ex 1), .ref (ex 2), .ref (ex 3), .ref (ex 4), .ref (ex 5), .ref (ex 6), .ref (ex 7), .ref (ex 8), .ref (ex 9), .ref (ex 10), .ref (ex 11), .ref (ex 12), .int 0])), ((a 1), .inr (7, [.int 0, .int 0, .ref (ex 13), .ref (ex 14), .ref (ex 15), .ref (ex 16), .ref (ex 17), .ref (ex 18), .ref (ex 19), .ref (ex 20), .ref (ex 21), .ref (ex 22)]))] s.heap := hP
  replace hD : va_D A [((a 0), .inr (11, [.ref (ex 0), .ref (a 1), .ref (ex 1), .ref (ex 2), .ref (ex 3), .ref (ex 4), .ref (ex 5), .ref (ex 6), .ref (ex 7), .ref (ex 8), .ref (ex 9), .ref (ex 10), .ref (ex 11), .ref (ex 12), .int 0])), ((a 1), .inr (7, [.int 0, .int 0, .ref (ex 13), .ref (ex 14), .ref (ex 15), .ref (ex 16), .ref (ex 17), .ref (ex 18), .ref (ex 19), .ref (ex 20), .ref (ex 21), .ref (ex 22)]))] := hD
  have hl := lv_entry ([.ref (a 0), .int (vi 0), .int (vi 1), .int (vi 2)]) (n := 6) (Nat.le_of_ble_eq_true rfl)
  rw [lg_entry_eq]
  generalize (lg_sl ([.ref (a 0), .int (vi 0), .int (vi 1), .int (vi 2)]) ++ List.replicate (6 - (lg_sl ([.ref (a 0), .int (vi 0), .int (vi 1), .int (vi 2)])).length) Slot.unset).toArray = ls at hl ⊢
  replace hl : lv_has ls 6 [(0, .ref (a 0)), (1, .int (vi 0)), (2, .int (vi 1)), (3, .int (vi 2))] := hl
  refine lv_aload_n hx hb dX11_odds_0 rfl (lv_at hl 0 rfl) ?_
  refine va_get (D := D) (ci := 11) (v := .ref (a 1)) (C := RX11) (T := TX11) (N := 15) hx hb htg inX11 hown hK.1 hP 0 rfl rfl 1 (by decide) (htg _ kw_497) (fun _ h9 => h9) rfl dX11_odds_1 ?_
  refine lv_iload_n hx hb dX11_odds_4 rfl (lv_at hl 1 rfl) ?_
  have hPc := hP.sub (ws' := (pre_X7_isSoul T (xa [(a 1)]) (xa [(ex 13), (ex 14), (ex 15), (ex 16), (ex 17), (ex 18), (ex 19), (ex 20), (ex 21), (ex 22)]) (xf []) (xh []) (xv [(vi 0)]))) [1] rfl
  have hDc := hD.sub (ws' := (pre_X7_isSoul T (xa [(a 1)]) (xa [(ex 13), (ex 14), (ex 15), (ex 16), (ex 17), (ex 18), (ex 19), (ex 20), (ex 21), (ex 22)]) (xf []) (xh []) (xv [(vi 0)]))) [1] (by decide) rfl
  have hFc := va_free (wc := (pre_X7_isSoul T (xa [(a 1)]) (xa [(ex 13), (ex 14), (ex 15), (ex 16), (ex 17), (ex 18), (ex 19), (ex 20), (ex 21), (ex 22)]) (xf []) (xh []) (xv [(vi 0)]))) hD hS hA [1] rfl
  refine va_calli (va_runVN (As := [.int (vi 0)]) (rest := []) ⟨hx, hb, hml, hown, htg⟩ (c_X7_isSoul l D T (xa [(a 1)]) (xa [(ex 13), (ex 14), (ex 15), (ex 16), (ex 17), (ex 18), (ex 19), (ex 20), (ex 21), (ex 22)]) (xf []) (xh []) (xv [(vi 0)]) s.heap.size) ⟨va_cnB 1 htg (xg_ok kw_664) rfl rfl rfl (hK.2.1 _ kn_764) (htg _ kw_7) (by decide +kernel) ⟨by rw [hR]; exact Nat.le_of_ble_eq_true rfl, by rw [hR]; exact Nat.le_of_ble_eq_true rfl⟩, htg _ kw_663, htg _ ks_25⟩ (xpreV hK hPc hDc (va_recv hK.1 hPc (ci := 7) (q0 := 0) rfl rfl)) rfl rfl hl.1 rfl (lv_room (Nat.le_of_ble_eq_true rfl)) dX11_odds_5 ⟨by rw [hR]; exact Nat.le_of_ble_eq_true rfl, by rw [hR]; exact Nat.le_of_ble_eq_true rfl⟩) hS (fun q _ h => hFc q h) hFc (fun r9 u t H1 locs ht hvm hw hB hz1 hk1 hS => ?_)
  obtain ⟨bk, fik, flk, vik, hP1, hD1, hGk⟩ := hB
  rw [ht] at hP1
  obtain ⟨hP, hD⟩ := va_join (wr := [((a 0), .inr (11, [.ref (ex 0), .ref (a 1), .ref (ex 1), .ref (ex 2), .ref (ex 3), .ref (ex 4), .ref (ex 5), .ref (ex 6), .ref (ex 7), .ref (ex 8), .ref (ex 9), .ref (ex 10), .ref (ex 11), .ref (ex 12), .int 0]))]) (w1 := [((a 1), .inr (7, [.int 0, .int 0, .ref (ex 13), .ref (ex 14), .ref (ex 15), .ref (ex 16), .ref (ex 17), .ref (ex 18), .ref (ex 19), .ref (ex 20), .ref (ex 21), .ref (ex 22)]))]) hP hD [1] [0] rfl rfl (by decide) (by decide) hk1 hFc hP1 hD1
  subst hw
  clear hPc hDc hFc hP1 hD1 hk1 hz1 hvm ht
  generalize H1 = H at hP hS ⊢
  replace hP : va_P D vwCl [((a 0), .inr (11, [.ref (ex 0), .ref (a 1), .ref (ex 1), .ref (ex 2), .ref (ex 3), .ref (ex 4), .ref (ex 5), .ref (ex 6), .ref (ex 7), .ref (ex 8), .ref (ex 9), .ref (ex 10), .ref (ex 11), .ref (ex 12), .int 0])), ((a 1), .inr (7, [.int 0, .int 0, .ref (ex 13), .ref (ex 14), .ref (ex 15), .ref (ex 16), .ref (ex 17), .ref (ex 18), .ref (ex 19), .ref (ex 20), .ref (ex 21), .ref (ex 22)]))] H := hP
  replace hD : va_D A [((a 0), .inr (11, [.ref (ex 0), .ref (a 1), .ref (ex 1), .ref (ex 2), .ref (ex 3), .ref (ex 4), .ref (ex 5), .ref (ex 6), .ref (ex 7), .ref (ex 8), .ref (ex 9), .ref (ex 10), .ref (ex 11), .ref (ex 12), .int 0])), ((a 1), .inr (7, [.int 0, .int 0, .ref (ex 13), .ref (ex 14), .ref (ex 15), .ref (ex 16), .ref (ex 17), .ref (ex 18), .ref (ex 19), .ref (ex 20), .ref (ex 21), .ref (ex 22)]))] := hD
  refine lv_if_eq (tgt := 32) hx hb dX11_odds_8 (by decide) (fun _ => ?_) (fun c => absurd (by decide) c)
  refine lv_iconst (v := (-1)) hx hb dX11_odds_32 (by decide) ?_
  have hP9 := hP.sub (ws' := []) [] rfl
  have hD9 := hD.sub (ws' := []) [] (by decide) rfl
  rw [hQ]
  exact W.iret (v := (-1)) hx hb hr (fun t ht hW => ⟨⟨(-1), (), rfl, rfl, ⟨xa [], xf [], xh [], xv [], by rw [ht]; exact hP9, hD9, trivial⟩⟩, hS.F ht⟩) hS.2.2 dX11_odds_33
abbrev pre_X6_advance_2 (T : Nat → ClassId) (a ex : Nat → Nat) (fi : Nat → Nat → Int32) (fl : Nat → Nat → Int64) (vi : Nat → Int32) : va_W := [((a 0), .inr (6, [.ref (ex 0), .ref (ex 1), .int (vi 0), .int 0, .int 400, .int 0, .int 0, .int 0, .long 0, .int 0, .int 0, .int 0, .int 0, .int 0]))]
set_option maxHeartbeats 4000000 in
set_option maxRecDepth 100000 in
theorem c_X6_advance_2 (l : Launch) (D : va_G) (T : Nat → ClassId) (a ex : Nat → Nat) (fi : Nat → Nat → Int32) (fl : Nat → Nat → Int64) (vi : Nat → Int32) (sz : Nat) : Met l yX6_advance (xw yX6_advance cX6_advance 4 none) ({ frames := 0, cells := 0, slots := 0, locals := 0 }) (xP D T [.ref (a 0)] sz (pre_X6_advance_2 T a ex fi fl vi)) (va_Qv (fun _ : Unit => True) (xB D (va_A (pre_X6_advance_2 T a ex fi fl vi) sz) (fun _ => True) (fun b fj fm vj => [((a 0), .inr (6, [.ref (ex 0), .ref (ex 1), .int (vi 0), .int 0, .int 400, .int 0, .int 0, .int 0, .long 0, .int 0, .int 0, .int 0, .int 0, .int 0]))])) (va_A (pre_X6_advance_2 T a ex fi fl vi) sz)) 0 0 (va_A (pre_X6_advance_2 T a ex fi fl vi) sz) := by
  refine xofW (cc := cX6_advance) (maxL := 4) (ret := none) (by decide) rfl ?_
  intro p e s m args below meth c s₁ R Q hR hQ B hml hv
  obtain ⟨rfl, hsz, hP, hK, hD0⟩ := hv
  have hx := B.exec
  have hb := B.bytes
  have hr := B.returns
  have hts := atoms_spec (ws := xw yX6_advance cX6_advance 4 none) B.pre
  have htg : ∀ w ∈ xg, w.before _ s = true := fun w h => hts w (List.mem_cons_of_mem _ h)
  have hown : s.vm.findClass RX6 = some m.cls := findClass_of_methodNamed B.named
  have hlocks := B.notSynchronized
  subst hsz
  have hD := hD0.self (sz := s.heap.size)
  generalize hAe : va_A (pre_X6_advance_2 T a ex fi fl vi) s.heap.size = A at hD hQ
  have hA : ∀ q : Nat, s.heap.size ≤ q → A q := fun q h => by rw [← hAe]; exact Or.inr h
  have hS : va_S A s.heap s.heap [] := va_S.rf
  replace hP : va_P D vwCl [((a 0), .inr (6, [.ref (ex 0), .ref (ex 1), .int (vi 0), .int 0, .int 400, .int 0, .int 0, .int 0, .long 0, .int 0, .int 0, .int 0, .int 0, .int 0]))] s.heap := hP
  replace hD : va_D A [((a 0), .inr (6, [.ref (ex 0), .ref (ex 1), .int (vi 0), .int 0, .int 400, .int 0, .int 0, .int 0, .long 0, .int 0, .int 0, .int 0, .int 0, .int 0]))] := hD
  have hl := lv_entry ([.ref (a 0)]) (n := 4) (Nat.le_of_ble_eq_true rfl)
  rw [lg_entry_eq]
  generalize (lg_sl ([.ref (a 0)]) ++ List.replicate (4 - (lg_sl ([.ref (a 0)])).length) Slot.unset).toArray = ls at hl ⊢
  replace hl : lv_has ls 4 [(0, .ref (a 0))] := hl
  refine lv_aload_n hx hb dX6_advance_0 rfl (lv_at hl 0 rfl) ?_
  refine va_get (D := D) (ci := 6) (v := .int 0) (C := RX6) (T := TX6) (N := 14) hx hb htg inX6 hown hK.1 hP 0 rfl rfl 5 (by decide) (htg _ kw_100) (fun _ h9 => h9) rfl dX6_advance_1 ?_
  refine lv_aload_n hx hb dX6_advance_4 rfl (lv_at hl 0 rfl) ?_
  refine va_get (D := D) (ci := 6) (v := .int 0) (C := RX6) (T := TX6) (N := 14) hx hb htg inX6 hown hK.1 hP 0 rfl rfl 3 (by decide) (htg _ kw_98) (fun _ h9 => h9) rfl dX6_advance_5 ?_
  refine lv_icmp_ge (tgt := 52) hx hb dX6_advance_8 (by decide) (fun _ => ?_) (fun c => absurd (by decide) c)
  refine lv_aload_n hx hb dX6_advance_52 rfl (lv_at hl 0 rfl) ?_
  refine va_get (D := D) (ci := 6) (v := .int 0) (C := RX6) (T := TX6) (N := 14) hx hb htg inX6 hown hK.1 hP 0 rfl rfl 5 (by decide) (htg _ kw_100) (fun _ h9 => h9) rfl dX6_advance_53 ?_
  refine lv_aload_n hx hb dX6_advance_56 rfl (lv_at hl 0 rfl) ?_
  refine va_get (D := D) (ci := 6) (v := .int 0) (C := RX6) (T := TX6) (N := 14) hx hb htg inX6 hown hK.1 hP 0 rfl rfl 3 (by decide) (htg _ kw_98) (fun _ h9 => h9) rfl dX6_advance_57 ?_
  refine lv_icmp_ge (tgt := 74) hx hb dX6_advance_60 (by decide) (fun _ => ?_) (fun c => absurd (by decide) c)
  refine lv_aload_n hx hb dX6_advance_74 rfl (lv_at hl 0 rfl) ?_
  refine lv_aload_n hx hb dX6_advance_75 rfl (lv_at hl 0 rfl) ?_
  refine va_get (D := D) (ci := 6) (v := .int 0) (C := RX6) (T := TX6) (N := 14) hx hb htg inX6 hown hK.1 hP 0 rfl rfl 3 (by decide) (htg _ kw_98) (fun _ h9 => h9) rfl dX6_advance_76 ?_
  refine lv_aload_n hx hb dX6_advance_79 rfl (lv_at hl 0 rfl) ?_
  refine va_get (D := D) (ci := 6) (v := .int 400) (C := RX6) (T := TX6) (N := 14) hx hb htg inX6 hown hK.1 hP 0 rfl rfl 4 (by decide) (htg _ kw_99) (fun _ h9 => h9) rfl dX6_advance_80 ?_
  refine lv_icmp_le (tgt := 90) hx hb dX6_advance_83 (by decide) (fun _ => ?_) (fun c => absurd (by decide) c)
  refine lv_iconst (v := 0) hx hb dX6_advance_90 (by decide) ?_
  refine va_put (D := D) (ci := 6) (v := .int 0) (ty := .int) (C := RX6) (T := TX6) (N := 14) hx hb htg inX6 tyX6 tyX6_ok nmX6 hown hK.1 hP hD hS 0 rfl rfl 6 (by decide) (htg _ kw_104) (fun _ h9 => h9) rfl (by decide +kernel) rfl rfl (Nat.le_of_ble_eq_true rfl) dX6_advance_91 (fun H locs hP hD hS => ?_)
  replace hP : va_P D vwCl [((a 0), .inr (6, [.ref (ex 0), .ref (ex 1), .int (vi 0), .int 0, .int 400, .int 0, .int 0, .int 0, .long 0, .int 0, .int 0, .int 0, .int 0, .int 0]))] H := hP
  replace hD : va_D A [((a 0), .inr (6, [.ref (ex 0), .ref (ex 1), .int (vi 0), .int 0, .int 400, .int 0, .int 0, .int 0, .long 0, .int 0, .int 0, .int 0, .int 0, .int 0]))] := hD
  refine lv_aload_n hx hb dX6_advance_94 rfl (lv_at hl 0 rfl) ?_
  refine lv_aload_n hx hb dX6_advance_95 rfl (lv_at hl 0 rfl) ?_
  refine va_get (D := D) (ci := 6) (v := .int 0) (C := RX6) (T := TX6) (N := 14) hx hb htg inX6 hown hK.1 hP 0 rfl rfl 3 (by decide) (htg _ kw_98) (fun _ h9 => h9) rfl dX6_advance_96 ?_
  refine lv_aload_n hx hb dX6_advance_99 rfl (lv_at hl 0 rfl) ?_
  refine va_get (D := D) (ci := 6) (v := .int 400) (C := RX6) (T := TX6) (N := 14) hx hb htg inX6 hown hK.1 hP 0 rfl rfl 4 (by decide) (htg _ kw_99) (fun _ h9 => h9) rfl dX6_advance_100 ?_
  refine lv_icmp_le (tgt := 113) hx hb dX6_advance_103 (by decide) (fun _ => ?_) (fun c => absurd (by decide) c)
  refine lv_aload_n hx hb dX6_advance_113 rfl (lv_at hl 0 rfl) ?_
  refine va_get (D := D) (ci := 6) (v := .int 0) (C := RX6) (T := TX6) (N := 14) hx hb htg inX6 hown hK.1 hP 0 rfl rfl 3 (by decide) (htg _ kw_98) (fun _ h9 => h9) rfl dX6_advance_114 ?_
  refine va_put (D := D) (ci := 6) (v := .int 0) (ty := .int) (C := RX6) (T := TX6) (N := 14) hx hb htg inX6 tyX6 tyX6_ok nmX6 hown hK.1 hP hD hS 0 rfl rfl 7 (by decide) (htg _ kw_105) (fun _ h9 => h9) rfl (by decide +kernel) rfl rfl (Nat.le_of_ble_eq_true rfl) dX6_advance_117 (fun H locs hP hD hS => ?_)
  replace hP : va_P D vwCl [((a 0), .inr (6, [.ref (ex 0), .ref (ex 1), .int (vi 0), .int 0, .int 400, .int 0, .int 0, .int 0, .long 0, .int 0, .int 0, .int 0, .int 0, .int 0]))] H := hP
  replace hD : va_D A [((a 0), .inr (6, [.ref (ex 0), .ref (ex 1), .int (vi 0), .int 0, .int 400, .int 0, .int 0, .int 0, .long 0, .int 0, .int 0, .int 0, .int 0, .int 0]))] := hD
  have hP9 := hP.sub (ws' := [((a 0), .inr (6, [.ref (ex 0), .ref (ex 1), .int (vi 0), .int 0, .int 400, .int 0, .int 0, .int 0, .long 0, .int 0, .int 0, .int 0, .int 0, .int 0]))]) [0] rfl
  have hD9 := hD.sub (ws' := [((a 0), .inr (6, [.ref (ex 0), .ref (ex 1), .int (vi 0), .int 0, .int 400, .int 0, .int 0, .int 0, .long 0, .int 0, .int 0, .int 0, .int 0, .int 0]))]) [0] (by decide +kernel) rfl
  rw [hQ]
  exact W.vret hx hb hr (fun t ht hW => ⟨⟨(), rfl, trivial, ⟨xa [], xf [], xh [], xv [], by rw [ht]; exact hP9, hD9, trivial⟩⟩, hS.F ht⟩) hS.2.2 dX6_advance_120
abbrev pre_X6_startText_2 (T : Nat → ClassId) (a ex : Nat → Nat) (fi : Nat → Nat → Int32) (fl : Nat → Nat → Int64) (vi : Nat → Int32) : va_W := [((a 0), .inr (6, [.ref (ex 0), .ref (ex 1), .int (vi 0), .int 0, .int 0, .int 0, .int 0, .int 0, .long 0, .int 0, .int 0, .int 0, .int 0, .int 0]))]
set_option maxHeartbeats 4000000 in
set_option maxRecDepth 100000 in
theorem c_X6_startText_2 (l : Launch) (D : va_G) (T : Nat → ClassId) (a ex : Nat → Nat) (fi : Nat → Nat → Int32) (fl : Nat → Nat → Int64) (vi : Nat → Int32) (sz : Nat) : Met l yX6_startText (xw yX6_startText cX6_startText 2 none) ({ frames := 1, cells := 0, slots := 0, locals := 27 }) (xP D T [.ref (a 0), .int 400] sz (pre_X6_startText_2 T a ex fi fl vi)) (va_Qv (fun _ : Unit => True) (xB D (va_A (pre_X6_startText_2 T a ex fi fl vi) sz) (fun _ => True) (fun b fj fm vj => [((a 0), .inr (6, [.ref (ex 0), .ref (ex 1), .int (vi 0), .int 0, .int 400, .int 0, .int 0, .int 0, .long 0, .int 0, .int 0, .int 0, .int 0, .int 0]))])) (va_A (pre_X6_startText_2 T a ex fi fl vi) sz)) 0 0 (va_A (pre_X6_startText_2 T a ex fi fl vi) sz) := by
  refine xofW (cc := cX6_startText) (maxL := 2) (ret := none) (by decide) rfl ?_
  intro p e s m args below meth c s₁ R Q hR hQ B hml hv
  obtain ⟨rfl, hsz, hP, hK, hD0⟩ := hv
  have hx := B.exec
  have hb := B.bytes
  have hr := B.returns
  have hts := atoms_spec (ws := xw yX6_startText cX6_startText 2 none) B.pre
  have htg : ∀ w ∈ xg, w.before _ s = true := fun w h => hts w (List.mem_cons_of_mem _ h)
  have hown : s.vm.findClass RX6 = some m.cls := findClass_of_methodNamed B.named
  have hlocks := B.notSynchronized
  subst hsz
  have hD := hD0.self (sz := s.heap.size)
  generalize hAe : va_A (pre_X6_startText_2 T a ex fi fl vi) s.heap.size = A at hD hQ
  have hA : ∀ q : Nat, s.heap.size ≤ q → A q := fun q h => by rw [← hAe]; exact Or.inr h
  have hS : va_S A s.heap s.heap [] := va_S.rf
  replace hP : va_P D vwCl [((a 0), .inr (6, [.ref (ex 0), .ref (ex 1), .int (vi 0), .int 0, .int 0, .int 0, .int 0, .int 0, .long 0, .int 0, .int 0, .int 0, .int 0, .int 0]))] s.heap := hP
  replace hD : va_D A [((a 0), .inr (6, [.ref (ex 0), .ref (ex 1), .int (vi 0), .int 0, .int 0, .int 0, .int 0, .int 0, .long 0, .int 0, .int 0, .int 0, .int 0, .int 0]))] := hD
  have hl := lv_entry ([.ref (a 0), .int 400]) (n := 2) (Nat.le_of_ble_eq_true rfl)
  rw [lg_entry_eq]
  generalize (lg_sl ([.ref (a 0), .int 400]) ++ List.replicate (2 - (lg_sl ([.ref (a 0), .int 400])).length) Slot.unset).toArray = ls at hl ⊢
  replace hl : lv_has ls 2 [(0, .ref (a 0)), (1, .int 400)] := hl
  refine lv_aload_n hx hb dX6_startText_0 rfl (lv_at hl 0 rfl) ?_
  refine lv_iload_n hx hb dX6_startText_1 rfl (lv_at hl 1 rfl) ?_
  refine va_put (D := D) (ci := 6) (v := .int 400) (ty := .int) (C := RX6) (T := TX6) (N := 14) hx hb htg inX6 tyX6 tyX6_ok nmX6 hown hK.1 hP hD hS 0 rfl rfl 4 (by decide) (htg _ kw_99) (fun _ h9 => h9) rfl (by decide +kernel) rfl rfl (Nat.le_of_ble_eq_true rfl) dX6_startText_2 (fun H locs hP hD hS => ?_)
  replace hP : va_P D vwCl [((a 0), .inr (6, [.ref (ex 0), .ref (ex 1), .int (vi 0), .int 0, .int 400, .int 0, .int 0, .int 0, .long 0, .int 0, .int 0, .int 0, .int 0, .int 0]))] H := hP
  replace hD : va_D A [((a 0), .inr (6, [.ref (ex 0), .ref (ex 1), .int (vi 0), .int 0, .int 400, .int 0, .int 0, .int 0, .long 0, .int 0, .int 0, .int 0, .int 0, .int 0]))] := hD
  refine lv_aload_n hx hb dX6_startText_5 rfl (lv_at hl 0 rfl) ?_
  refine lv_iconst (v := 0) hx hb dX6_startText_6 (by decide) ?_
  refine va_put (D := D) (ci := 6) (v := .int 0) (ty := .int) (C := RX6) (T := TX6) (N := 14) hx hb htg inX6 tyX6 tyX6_ok nmX6 hown hK.1 hP hD hS 0 rfl rfl 5 (by decide) (htg _ kw_100) (fun _ h9 => h9) rfl (by decide +kernel) rfl rfl (Nat.le_of_ble_eq_true rfl) dX6_startText_7 (fun H locs hP hD hS => ?_)
  replace hP : va_P D vwCl [((a 0), .inr (6, [.ref (ex 0), .ref (ex 1), .int (vi 0), .int 0, .int 400, .int 0, .int 0, .int 0, .long 0, .int 0, .int 0, .int 0, .int 0, .int 0]))] H := hP
  replace hD : va_D A [((a 0), .inr (6, [.ref (ex 0), .ref (ex 1), .int (vi 0), .int 0, .int 400, .int 0, .int 0, .int 0, .long 0, .int 0, .int 0, .int 0, .int 0, .int 0]))] := hD
  refine lv_aload_n hx hb dX6_startText_10 rfl (lv_at hl 0 rfl) ?_
  refine lv_iconst (v := 0) hx hb dX6_startText_11 (by decide) ?_
  refine va_put (D := D) (ci := 6) (v := .int 0) (ty := .int) (C := RX6) (T := TX6) (N := 14) hx hb htg inX6 tyX6 tyX6_ok nmX6 hown hK.1 hP hD hS 0 rfl rfl 12 (by decide) (htg _ kw_118) (fun _ h9 => h9) rfl (by decide +kernel) rfl rfl (Nat.le_of_ble_eq_true rfl) dX6_startText_12 (fun H locs hP hD hS => ?_)
  replace hP : va_P D vwCl [((a 0), .inr (6, [.ref (ex 0), .ref (ex 1), .int (vi 0), .int 0, .int 400, .int 0, .int 0, .int 0, .long 0, .int 0, .int 0, .int 0, .int 0, .int 0]))] H := hP
  replace hD : va_D A [((a 0), .inr (6, [.ref (ex 0), .ref (ex 1), .int (vi 0), .int 0, .int 400, .int 0, .int 0, .int 0, .long 0, .int 0, .int 0, .int 0, .int 0, .int 0]))] := hD
  refine lv_aload_n hx hb dX6_startText_15 rfl (lv_at hl 0 rfl) ?_
  refine lv_iconst (v := 0) hx hb dX6_startText_16 (by decide) ?_
  refine va_put (D := D) (ci := 6) (v := .int 0) (ty := .int) (C := RX6) (T := TX6) (N := 14) hx hb htg inX6 tyX6 tyX6_ok nmX6 hown hK.1 hP hD hS 0 rfl rfl 13 (by decide) (htg _ kw_120) (fun _ h9 => h9) rfl (by decide +kernel) rfl rfl (Nat.le_of_ble_eq_true rfl) dX6_startText_17 (fun H locs hP hD hS => ?_)
  replace hP : va_P D vwCl [((a 0), .inr (6, [.ref (ex 0), .ref (ex 1), .int (vi 0), .int 0, .int 400, .int 0, .int 0, .int 0, .long 0, .int 0, .int 0, .int 0, .int 0, .int 0]))] H := hP
  replace hD : va_D A [((a 0), .inr (6, [.ref (ex 0), .ref (ex 1), .int (vi 0), .int 0, .int 400, .int 0, .int 0, .int 0, .long 0, .int 0, .int 0, .int 0, .int 0, .int 0]))] := hD
  refine lv_aload_n hx hb dX6_startText_20 rfl (lv_at hl 0 rfl) ?_
  have hPc := hP.sub (ws' := (pre_X6_advance_2 T (xa [(a 0)]) (xa [(ex 0), (ex 1)]) (xf []) (xh []) (xv [(vi 0)]))) [0] rfl
  have hDc := hD.sub (ws' := (pre_X6_advance_2 T (xa [(a 0)]) (xa [(ex 0), (ex 1)]) (xf []) (xh []) (xv [(vi 0)]))) [0] (by decide) rfl
  have hFc := va_free (wc := (pre_X6_advance_2 T (xa [(a 0)]) (xa [(ex 0), (ex 1)]) (xf []) (xh []) (xv [(vi 0)]))) hD hS hA [0] rfl
  refine va_callv (va_runV (As := []) (rest := []) ⟨hx, hb, hml, hown, htg⟩ (c_X6_advance_2 l D T (xa [(a 0)]) (xa [(ex 0), (ex 1)]) (xf []) (xh []) (xv [(vi 0)]) H.size) ⟨callB_of 0 htg (xg_ok kw_577) rfl rfl rfl (htg _ kw_2) (htg _ kw_574) (by decide +kernel) ⟨by rw [hR]; exact Nat.le_of_ble_eq_true rfl, by rw [hR]; exact Nat.le_of_ble_eq_true rfl⟩, htg _ kw_576, htg _ ks_6⟩ (xpreV hK hPc hDc (va_recv hK.1 hPc (ci := 6) (q0 := 0) rfl rfl)) rfl rfl hl.1 rfl (lv_room (Nat.le_of_ble_eq_true rfl)) dX6_startText_21 ⟨by rw [hR]; exact Nat.le_of_ble_eq_true rfl, by rw [hR]; exact Nat.le_of_ble_eq_true rfl⟩) hS (fun q _ h => hFc q h) hFc (fun u t H1 locs ht hvm hw hB hz1 hk1 hS => ?_)
  obtain ⟨bk, fik, flk, vik, hP1, hD1, hGk⟩ := hB
  rw [ht] at hP1
  obtain ⟨hP, hD⟩ := va_join (wr := []) (w1 := [((a 0), .inr (6, [.ref (ex 0), .ref (ex 1), .int (vi 0), .int 0, .int 400, .int 0, .int 0, .int 0, .long 0, .int 0, .int 0, .int 0, .int 0, .int 0]))]) hP hD [0] [] rfl rfl (by decide) (by decide) hk1 hFc hP1 hD1
  clear hPc hDc hFc hP1 hD1 hk1 hz1 hvm ht hw
  generalize H1 = H at hP hS ⊢
  replace hP : va_P D vwCl [((a 0), .inr (6, [.ref (ex 0), .ref (ex 1), .int (vi 0), .int 0, .int 400, .int 0, .int 0, .int 0, .long 0, .int 0, .int 0, .int 0, .int 0, .int 0]))] H := hP
  replace hD : va_D A [((a 0), .inr (6, [.ref (ex 0), .ref (ex 1), .int (vi 0), .int 0, .int 400, .int 0, .int 0, .int 0, .long 0, .int 0, .int 0, .int 0, .int 0, .int 0]))] := hD
  have hP9 := hP.sub (ws' := [((a 0), .inr (6, [.ref (ex 0), .ref (ex 1), .int (vi 0), .int 0, .int 400, .int 0, .int 0, .int 0, .long 0, .int 0, .int 0, .int 0, .int 0, .int 0]))]) [0] rfl
  have hD9 := hD.sub (ws' := [((a 0), .inr (6, [.ref (ex 0), .ref (ex 1), .int (vi 0), .int 0, .int 400, .int 0, .int 0, .int 0, .long 0, .int 0, .int 0, .int 0, .int 0, .int 0]))]) [0] (by decide +kernel) rfl
  rw [hQ]
  exact W.vret hx hb hr (fun t ht hW => ⟨⟨(), rfl, trivial, ⟨xa [], xf [], xh [], xv [], by rw [ht]; exact hP9, hD9, trivial⟩⟩, hS.F ht⟩) hS.2.2 dX6_startText_24
abbrev pre_X4_read (T : Nat → ClassId) (a ex : Nat → Nat) (fi : Nat → Nat → Int32) (fl : Nat → Nat → Int64) (vi : Nat → Int32) : va_W := [((a 0), .inr (4, [.ref (a 1), .ref (ex 0), .ref (ex 1), .ref (ex 2), .ref (ex 3), .int 0, .int 0, .int 0, .int 0, .int 0, .int 0])), ((a 1), .inr (6, [.ref (ex 4), .ref (ex 5), .int (vi 0), .int 0, .int 0, .int 0, .int 0, .int 0, .long 0, .int 0, .int 0, .int 0, .int 0, .int 0]))]
set_option maxHeartbeats 4000000 in
set_option maxRecDepth 100000 in
theorem c_X4_read (l : Launch) (D : va_G) (T : Nat → ClassId) (a ex : Nat → Nat) (fi : Nat → Nat → Int32) (fl : Nat → Nat → Int64) (vi : Nat → Int32) (sz : Nat) : Met l yX4_read (xw yX4_read cX4_read 2 (some .boolean)) ({ frames := 2, cells := 0, slots := 0, locals := 52 }) (xP D T [.ref (a 0)] sz (pre_X4_read T a ex fi fl vi)) (va_Qi (fun r (_ : Unit) => r = 1) (xB D (va_A (pre_X4_read T a ex fi fl vi) sz) (fun _ => True) (fun b fj fm vj => [((a 0), .inr (4, [.ref (a 1), .ref (ex 0), .ref (ex 1), .ref (ex 2), .ref (ex 3), .int 0, .int 0, .int 0, .int 0, .int 0, .int 0])), ((a 1), .inr (6, [.ref (ex 4), .ref (ex 5), .int (vi 0), .int 0, .int 400, .int 0, .int 0, .int 0, .long 0, .int 0, .int 0, .int 0, .int 0, .int 0]))])) (va_A (pre_X4_read T a ex fi fl vi) sz)) 0 0 (va_A (pre_X4_read T a ex fi fl vi) sz) := by
  refine xofW (cc := cX4_read) (maxL := 2) (ret := (some .boolean)) (by decide) rfl ?_
  intro p e s m args below meth c s₁ R Q hR hQ B hml hv
  obtain ⟨rfl, hsz, hP, hK, hD0⟩ := hv
  have hx := B.exec
  have hb := B.bytes
  have hr := B.returns
  have hts := atoms_spec (ws := xw yX4_read cX4_read 2 (some .boolean)) B.pre
  have htg : ∀ w ∈ xg, w.before _ s = true := fun w h => hts w (List.mem_cons_of_mem _ h)
  have hown : s.vm.findClass RX4 = some m.cls := findClass_of_methodNamed B.named
  have hlocks := B.notSynchronized
  subst hsz
  have hD := hD0.self (sz := s.heap.size)
  generalize hAe : va_A (pre_X4_read T a ex fi fl vi) s.heap.size = A at hD hQ
  have hA : ∀ q : Nat, s.heap.size ≤ q → A q := fun q h => by rw [← hAe]; exact Or.inr h
  have hS : va_S A s.heap s.heap [] := va_S.rf
  replace hP : va_P D vwCl [((a 0), .inr (4, [.ref (a 1), .ref (ex 0), .ref (ex 1), .ref (ex 2), .ref (ex 3), .int 0, .int 0, .int 0, .int 0, .int 0, .int 0])), ((a 1), .inr (6, [.ref (ex 4), .ref (ex 5), .int (vi 0), .int 0, .int 0, .int 0, .int 0, .int 0, .long 0, .int 0, .int 0, .int 0, .int 0, .int 0]))] s.heap := hP
  replace hD : va_D A [((a 0), .inr (4, [.ref (a 1), .ref (ex 0), .ref (ex 1), .ref (ex 2), .ref (ex 3), .int 0, .int 0, .int 0, .int 0, .int 0, .int 0])), ((a 1), .inr (6, [.ref (ex 4), .ref (ex 5), .int (vi 0), .int 0, .int 0, .int 0, .int 0, .int 0, .long 0, .int 0, .int 0, .int 0, .int 0, .int 0]))] := hD
  have hl := lv_entry ([.ref (a 0)]) (n := 2) (Nat.le_of_ble_eq_true rfl)
  rw [lg_entry_eq]
  generalize (lg_sl ([.ref (a 0)]) ++ List.replicate (2 - (lg_sl ([.ref (a 0)])).length) Slot.unset).toArray = ls at hl ⊢
  replace hl : lv_has ls 2 [(0, .ref (a 0))] := hl
  refine lv_aload_n hx hb dX4_read_0 rfl (lv_at hl 0 rfl) ?_
  refine lv_iconst (v := 0) hx hb dX4_read_1 (by decide) ?_
  refine va_put (D := D) (ci := 4) (v := .int 0) (ty := .int) (C := RX4) (T := TX4) (N := 11) hx hb htg inX4 tyX4 tyX4_ok nmX4 hown hK.1 hP hD hS 0 rfl rfl 5 (by decide) (htg _ kw_344) (fun _ h9 => h9) rfl (by decide +kernel) rfl rfl (Nat.le_of_ble_eq_true rfl) dX4_read_2 (fun H locs hP hD hS => ?_)
  replace hP : va_P D vwCl [((a 0), .inr (4, [.ref (a 1), .ref (ex 0), .ref (ex 1), .ref (ex 2), .ref (ex 3), .int 0, .int 0, .int 0, .int 0, .int 0, .int 0])), ((a 1), .inr (6, [.ref (ex 4), .ref (ex 5), .int (vi 0), .int 0, .int 0, .int 0, .int 0, .int 0, .long 0, .int 0, .int 0, .int 0, .int 0, .int 0]))] H := hP
  replace hD : va_D A [((a 0), .inr (4, [.ref (a 1), .ref (ex 0), .ref (ex 1), .ref (ex 2), .ref (ex 3), .int 0, .int 0, .int 0, .int 0, .int 0, .int 0])), ((a 1), .inr (6, [.ref (ex 4), .ref (ex 5), .int (vi 0), .int 0, .int 0, .int 0, .int 0, .int 0, .long 0, .int 0, .int 0, .int 0, .int 0, .int 0]))] := hD
  refine lv_aload_n hx hb dX4_read_5 rfl (lv_at hl 0 rfl) ?_
  refine va_get (D := D) (ci := 4) (v := .ref (a 1)) (C := RX4) (T := TX4) (N := 11) hx hb htg inX4 hown hK.1 hP 0 rfl rfl 0 (by decide) (htg _ kw_339) (fun _ h9 => h9) rfl dX4_read_6 ?_
  refine lv_sipush (v := 400) hx hb dX4_read_9 (by decide) ?_
  have hPc := hP.sub (ws' := (pre_X6_startText_2 T (xa [(a 1)]) (xa [(ex 4), (ex 5)]) (xf []) (xh []) (xv [(vi 0)]))) [1] rfl
  have hDc := hD.sub (ws' := (pre_X6_startText_2 T (xa [(a 1)]) (xa [(ex 4), (ex 5)]) (xf []) (xh []) (xv [(vi 0)]))) [1] (by decide) rfl
  have hFc := va_free (wc := (pre_X6_startText_2 T (xa [(a 1)]) (xa [(ex 4), (ex 5)]) (xf []) (xh []) (xv [(vi 0)]))) hD hS hA [1] rfl
  refine va_callv (va_runVN (As := [.int 400]) (rest := []) ⟨hx, hb, hml, hown, htg⟩ (c_X6_startText_2 l D T (xa [(a 1)]) (xa [(ex 4), (ex 5)]) (xf []) (xh []) (xv [(vi 0)]) H.size) ⟨va_cnB 1 htg (xg_ok kw_573) rfl rfl rfl (hK.2.1 _ kn_1141) (htg _ kw_2) (by decide +kernel) ⟨by rw [hR]; exact Nat.le_of_ble_eq_true rfl, by rw [hR]; exact Nat.le_of_ble_eq_true rfl⟩, htg _ kw_572, htg _ ks_5⟩ (xpreV hK hPc hDc (va_recv hK.1 hPc (ci := 6) (q0 := 0) rfl rfl)) rfl rfl hl.1 rfl (lv_room (Nat.le_of_ble_eq_true rfl)) dX4_read_12 ⟨by rw [hR]; exact Nat.le_of_ble_eq_true rfl, by rw [hR]; exact Nat.le_of_ble_eq_true rfl⟩) hS (fun q _ h => hFc q h) hFc (fun u t H1 locs ht hvm hw hB hz1 hk1 hS => ?_)
  obtain ⟨bk, fik, flk, vik, hP1, hD1, hGk⟩ := hB
  rw [ht] at hP1
  obtain ⟨hP, hD⟩ := va_join (wr := [((a 0), .inr (4, [.ref (a 1), .ref (ex 0), .ref (ex 1), .ref (ex 2), .ref (ex 3), .int 0, .int 0, .int 0, .int 0, .int 0, .int 0]))]) (w1 := [((a 1), .inr (6, [.ref (ex 4), .ref (ex 5), .int (vi 0), .int 0, .int 400, .int 0, .int 0, .int 0, .long 0, .int 0, .int 0, .int 0, .int 0, .int 0]))]) hP hD [1] [0] rfl rfl (by decide) (by decide) hk1 hFc hP1 hD1
  clear hPc hDc hFc hP1 hD1 hk1 hz1 hvm ht hw
  generalize H1 = H at hP hS ⊢
  replace hP : va_P D vwCl [((a 0), .inr (4, [.ref (a 1), .ref (ex 0), .ref (ex 1), .ref (ex 2), .ref (ex 3), .int 0, .int 0, .int 0, .int 0, .int 0, .int 0])), ((a 1), .inr (6, [.ref (ex 4), .ref (ex 5), .int (vi 0), .int 0, .int 400, .int 0, .int 0, .int 0, .long 0, .int 0, .int 0, .int 0, .int 0, .int 0]))] H := hP
  replace hD : va_D A [((a 0), .inr (4, [.ref (a 1), .ref (ex 0), .ref (ex 1), .ref (ex 2), .ref (ex 3), .int 0, .int 0, .int 0, .int 0, .int 0, .int 0])), ((a 1), .inr (6, [.ref (ex 4), .ref (ex 5), .int (vi 0), .int 0, .int 400, .int 0, .int 0, .int 0, .long 0, .int 0, .int 0, .int 0, .int 0, .int 0]))] := hD
  refine lv_iconst (v := 0) hx hb dX4_read_15 (by decide) ?_
  refine lv_istore_n (lv' := [(1, .int 0), (0, .ref (a 0))]) hx hb dX4_read_16 rfl hl (by decide) rfl (fun ls hl => ?_)
  refine lv_iload_n hx hb dX4_read_17 rfl (lv_at hl 0 rfl) ?_
  refine lv_bipush (v := 40) hx hb dX4_read_18 (by decide) ?_
  refine lv_icmp_gt (tgt := 60) hx hb dX4_read_20 (by decide) (fun c => absurd c (by decide)) (fun _ => ?_)
  refine lv_aload_n hx hb dX4_read_23 rfl (lv_at hl 1 rfl) ?_
  refine va_get (D := D) (ci := 4) (v := .ref (a 1)) (C := RX4) (T := TX4) (N := 11) hx hb htg inX4 hown hK.1 hP 0 rfl rfl 0 (by decide) (htg _ kw_339) (fun _ h9 => h9) rfl dX4_read_24 ?_
  refine va_getN (D := D) (ci := 6) (v := .int 0) (C := RX6) (T := TX6) (N := 14) hx hb htg inX6 hown hK.1 hP 1 rfl rfl 6 (by decide) (va_Nw.use rfl (hK.2.1 _ kn_101)) (fun _ h9 => h9) rfl dX4_read_27 ?_
  refine lv_if_eq (tgt := 60) hx hb dX4_read_30 (by decide) (fun _ => ?_) (fun c => absurd (by decide) c)
  refine lv_iconst (v := 1) hx hb dX4_read_60 (by decide) ?_
  have hP9 := hP.sub (ws' := [((a 0), .inr (4, [.ref (a 1), .ref (ex 0), .ref (ex 1), .ref (ex 2), .ref (ex 3), .int 0, .int 0, .int 0, .int 0, .int 0, .int 0])), ((a 1), .inr (6, [.ref (ex 4), .ref (ex 5), .int (vi 0), .int 0, .int 400, .int 0, .int 0, .int 0, .long 0, .int 0, .int 0, .int 0, .int 0, .int 0]))]) [0, 1] rfl
  have hD9 := hD.sub (ws' := [((a 0), .inr (4, [.ref (a 1), .ref (ex 0), .ref (ex 1), .ref (ex 2), .ref (ex 3), .int 0, .int 0, .int 0, .int 0, .int 0, .int 0])), ((a 1), .inr (6, [.ref (ex 4), .ref (ex 5), .int (vi 0), .int 0, .int 400, .int 0, .int 0, .int 0, .long 0, .int 0, .int 0, .int 0, .int 0, .int 0]))]) [0, 1] (by decide +kernel) rfl
  rw [hQ]
  exact W.zret (v := 1) hx hb hr rfl (fun t ht hW => ⟨⟨1, (), rfl, rfl, ⟨xa [], xf [], xh [], xv [], by rw [ht]; exact hP9, hD9, trivial⟩⟩, hS.F ht⟩) hS.2.2 dX4_read_61
abbrev pre_X4_judge (T : Nat → ClassId) (a ex : Nat → Nat) (fi : Nat → Nat → Int32) (fl : Nat → Nat → Int64) (vi : Nat → Int32) : va_W := [((a 0), .inr (4, [.ref (ex 0), .ref (ex 1), .ref (ex 2), .ref (ex 3), .ref (ex 4), .int 0, .int 0, .int 0, .int 0, .int 0, .int 0])), ((a 1), .inr (2, [.ref (ex 1), .int 0, .int 0, .int 0, .int 0, .int 0, .int 0, .ref (ex 5), .ref (ex 6), .ref (ex 7), .ref (ex 8), .ref (ex 9), .ref (ex 10), .ref (ex 11), .ref (ex 12)]))]
set_option maxHeartbeats 4000000 in
set_option maxRecDepth 100000 in
theorem c_X4_judge (l : Launch) (D : va_G) (T : Nat → ClassId) (a ex : Nat → Nat) (fi : Nat → Nat → Int32) (fl : Nat → Nat → Int64) (vi : Nat → Int32) (sz : Nat) : Met l yX4_judge (xw yX4_judge cX4_judge 4 (some .int)) ({ frames := 0, cells := 0, slots := 0, locals := 0 }) (xP D T [.ref (a 0), .ref (a 1)] sz (pre_X4_judge T a ex fi fl vi)) (va_Qi (fun r (_ : Unit) => r = (-1)) (xB D (va_A (pre_X4_judge T a ex fi fl vi) sz) (fun _ => True) (fun b fj fm vj => [((a 0), .inr (4, [.ref (ex 0), .ref (ex 1), .ref (ex 2), .ref (ex 3), .ref (ex 4), .int 0, .int 1, .int 0, .int 0, .int 0, .int 0])), ((a 1), .inr (2, [.ref (ex 1), .int 0, .int 0, .int 0, .int 0, .int 0, .int 0, .ref (ex 5), .ref (ex 6), .ref (ex 7), .ref (ex 8), .ref (ex 9), .ref (ex 10), .ref (ex 11), .ref (ex 12)]))])) (va_A (pre_X4_judge T a ex fi fl vi) sz)) 0 0 (va_A (pre_X4_judge T a ex fi fl vi) sz) := by
  refine xofW (cc := cX4_judge) (maxL := 4) (ret := (some .int)) (by decide) rfl ?_
  intro p e s m args below meth c s₁ R Q hR hQ B hml hv
  obtain ⟨rfl, hsz, hP, hK, hD0⟩ := hv
  have hx := B.exec
  have hb := B.bytes
  have hr := B.returns
  have hts := atoms_spec (ws := xw yX4_judge cX4_judge 4 (some .int)) B.pre
  have htg : ∀ w ∈ xg, w.before _ s = true := fun w h => hts w (List.mem_cons_of_mem _ h)
  have hown : s.vm.findClass RX4 = some m.cls := findClass_of_methodNamed B.named
  have hlocks := B.notSynchronized
  subst hsz
  have hD := hD0.self (sz := s.heap.size)
  generalize hAe : va_A (pre_X4_judge T a ex fi fl vi) s.heap.size = A at hD hQ
  have hA : ∀ q : Nat, s.heap.size ≤ q → A q := fun q h => by rw [← hAe]; exact Or.inr h
  have hS : va_S A s.heap s.heap [] := va_S.rf
  replace hP : va_P D vwCl [((a 0), .inr (4, [.ref (ex 0), .ref (ex 1), .ref (ex 2), .ref (ex 3), .ref (ex 4), .int 0, .int 0, .int 0, .int 0, .int 0, .int 0])), ((a 1), .inr (2, [.ref (ex 1), .int 0, .int 0, .int 0, .int 0, .int 0, .int 0, .ref (ex 5), .ref (ex 6), .ref (ex 7), .ref (ex 8), .ref (ex 9), .ref (ex 10), .ref (ex 11), .ref (ex 12)]))] s.heap := hP
  replace hD : va_D A [((a 0), .inr (4, [.ref (ex 0), .ref (ex 1), .ref (ex 2), .ref (ex 3), .ref (ex 4), .int 0, .int 0, .int 0, .int 0, .int 0, .int 0])), ((a 1), .inr (2, [.ref (ex 1), .int 0, .int 0, .int 0, .int 0, .int 0, .int 0, .ref (ex 5), .ref (ex 6), .ref (ex 7), .ref (ex 8), .ref (ex 9), .ref (ex 10), .ref (ex 11), .ref (ex 12)]))] := hD
  have hl := lv_entry ([.ref (a 0), .ref (a 1)]) (n := 4) (Nat.le_of_ble_eq_true rfl)
  rw [lg_entry_eq]
  generalize (lg_sl ([.ref (a 0), .ref (a 1)]) ++ List.replicate (4 - (lg_sl ([.ref (a 0), .ref (a 1)])).length) Slot.unset).toArray = ls at hl ⊢
  replace hl : lv_has ls 4 [(0, .ref (a 0)), (1, .ref (a 1))] := hl
  refine lv_aload_n hx hb dX4_judge_0 rfl (lv_at hl 0 rfl) ?_
  refine lv_iconst (v := 1) hx hb dX4_judge_1 (by decide) ?_
  refine va_put (D := D) (ci := 4) (v := .int 1) (ty := .boolean) (C := RX4) (T := TX4) (N := 11) hx hb htg inX4 tyX4 tyX4_ok nmX4 hown hK.1 hP hD hS 0 rfl rfl 6 (by decide) (htg _ kw_345) (fun _ h9 => h9) rfl (by decide +kernel) rfl rfl (Nat.le_of_ble_eq_true rfl) dX4_judge_2 (fun H locs hP hD hS => ?_)
  replace hP : va_P D vwCl [((a 0), .inr (4, [.ref (ex 0), .ref (ex 1), .ref (ex 2), .ref (ex 3), .ref (ex 4), .int 0, .int 1, .int 0, .int 0, .int 0, .int 0])), ((a 1), .inr (2, [.ref (ex 1), .int 0, .int 0, .int 0, .int 0, .int 0, .int 0, .ref (ex 5), .ref (ex 6), .ref (ex 7), .ref (ex 8), .ref (ex 9), .ref (ex 10), .ref (ex 11), .ref (ex 12)]))] H := hP
  replace hD : va_D A [((a 0), .inr (4, [.ref (ex 0), .ref (ex 1), .ref (ex 2), .ref (ex 3), .ref (ex 4), .int 0, .int 1, .int 0, .int 0, .int 0, .int 0])), ((a 1), .inr (2, [.ref (ex 1), .int 0, .int 0, .int 0, .int 0, .int 0, .int 0, .ref (ex 5), .ref (ex 6), .ref (ex 7), .ref (ex 8), .ref (ex 9), .ref (ex 10), .ref (ex 11), .ref (ex 12)]))] := hD
  refine lv_aload_n hx hb dX4_judge_5 rfl (lv_at hl 0 rfl) ?_
  refine lv_iconst (v := 0) hx hb dX4_judge_6 (by decide) ?_
  refine va_put (D := D) (ci := 4) (v := .int 0) (ty := .int) (C := RX4) (T := TX4) (N := 11) hx hb htg inX4 tyX4 tyX4_ok nmX4 hown hK.1 hP hD hS 0 rfl rfl 7 (by decide) (htg _ kw_347) (fun _ h9 => h9) rfl (by decide +kernel) rfl rfl (Nat.le_of_ble_eq_true rfl) dX4_judge_7 (fun H locs hP hD hS => ?_)
  replace hP : va_P D vwCl [((a 0), .inr (4, [.ref (ex 0), .ref (ex 1), .ref (ex 2), .ref (ex 3), .ref (ex 4), .int 0, .int 1, .int 0, .int 0, .int 0, .int 0])), ((a 1), .inr (2, [.ref (ex 1), .int 0, .int 0, .int 0, .int 0, .int 0, .int 0, .ref (ex 5), .ref (ex 6), .ref (ex 7), .ref (ex 8), .ref (ex 9), .ref (ex 10), .ref (ex 11), .ref (ex 12)]))] H := hP
  replace hD : va_D A [((a 0), .inr (4, [.ref (ex 0), .ref (ex 1), .ref (ex 2), .ref (ex 3), .ref (ex 4), .int 0, .int 1, .int 0, .int 0, .int 0, .int 0])), ((a 1), .inr (2, [.ref (ex 1), .int 0, .int 0, .int 0, .int 0, .int 0, .int 0, .ref (ex 5), .ref (ex 6), .ref (ex 7), .ref (ex 8), .ref (ex 9), .ref (ex 10), .ref (ex 11), .ref (ex 12)]))] := hD
  refine lv_aload_n hx hb dX4_judge_10 rfl (lv_at hl 0 rfl) ?_
  refine lv_iconst (v := 0) hx hb dX4_judge_11 (by decide) ?_
  refine va_put (D := D) (ci := 4) (v := .int 0) (ty := .int) (C := RX4) (T := TX4) (N := 11) hx hb htg inX4 tyX4 tyX4_ok nmX4 hown hK.1 hP hD hS 0 rfl rfl 8 (by decide) (htg _ kw_349) (fun _ h9 => h9) rfl (by decide +kernel) rfl rfl (Nat.le_of_ble_eq_true rfl) dX4_judge_12 (fun H locs hP hD hS => ?_)
  replace hP : va_P D vwCl [((a 0), .inr (4, [.ref (ex 0), .ref (ex 1), .ref (ex 2), .ref (ex 3), .ref (ex 4), .int 0, .int 1, .int 0, .int 0, .int 0, .int 0])), ((a 1), .inr (2, [.ref (ex 1), .int 0, .int 0, .int 0, .int 0, .int 0, .int 0, .ref (ex 5), .ref (ex 6), .ref (ex 7), .ref (ex 8), .ref (ex 9), .ref (ex 10), .ref (ex 11), .ref (ex 12)]))] H := hP
  replace hD : va_D A [((a 0), .inr (4, [.ref (ex 0), .ref (ex 1), .ref (ex 2), .ref (ex 3), .ref (ex 4), .int 0, .int 1, .int 0, .int 0, .int 0, .int 0])), ((a 1), .inr (2, [.ref (ex 1), .int 0, .int 0, .int 0, .int 0, .int 0, .int 0, .ref (ex 5), .ref (ex 6), .ref (ex 7), .ref (ex 8), .ref (ex 9), .ref (ex 10), .ref (ex 11), .ref (ex 12)]))] := hD
  refine lv_iconst (v := 0) hx hb dX4_judge_15 (by decide) ?_
  refine lv_istore_n (lv' := [(2, .int 0), (0, .ref (a 0)), (1, .ref (a 1))]) hx hb dX4_judge_16 rfl hl (by decide) rfl (fun ls hl => ?_)
  refine lv_iload_n hx hb dX4_judge_17 rfl (lv_at hl 0 rfl) ?_
  refine lv_aload_n hx hb dX4_judge_18 rfl (lv_at hl 1 rfl) ?_
  refine va_get (D := D) (ci := 4) (v := .int 0) (C := RX4) (T := TX4) (N := 11) hx hb htg inX4 hown hK.1 hP 0 rfl rfl 5 (by decide) (htg _ kw_344) (fun _ h9 => h9) rfl dX4_judge_19 ?_
  refine lv_icmp_ge (tgt := 130) hx hb dX4_judge_22 (by decide) (fun _ => ?_) (fun c => absurd (by decide) c)
  refine lv_aload_n hx hb dX4_judge_130 rfl (lv_at hl 1 rfl) ?_
  refine lv_aload_n hx hb dX4_judge_131 rfl (lv_at hl 2 rfl) ?_
  refine va_getN (D := D) (ci := 2) (v := .int 0) (C := RX2) (T := TX2) (N := 15) hx hb htg inX2 hown hK.1 hP 1 rfl rfl 1 (by decide) (va_Nw.use rfl (hK.2.1 _ kn_248)) (fun _ h9 => h9) rfl dX4_judge_132 ?_
  refine va_put (D := D) (ci := 4) (v := .int 0) (ty := .int) (C := RX4) (T := TX4) (N := 11) hx hb htg inX4 tyX4 tyX4_ok nmX4 hown hK.1 hP hD hS 0 rfl rfl 9 (by decide) (htg _ kw_351) (fun _ h9 => h9) rfl (by decide +kernel) rfl rfl (Nat.le_of_ble_eq_true rfl) dX4_judge_135 (fun H locs hP hD hS => ?_)
  replace hP : va_P D vwCl [((a 0), .inr (4, [.ref (ex 0), .ref (ex 1), .ref (ex 2), .ref (ex 3), .ref (ex 4), .int 0, .int 1, .int 0, .int 0, .int 0, .int 0])), ((a 1), .inr (2, [.ref (ex 1), .int 0, .int 0, .int 0, .int 0, .int 0, .int 0, .ref (ex 5), .ref (ex 6), .ref (ex 7), .ref (ex 8), .ref (ex 9), .ref (ex 10), .ref (ex 11), .ref (ex 12)]))] H := hP
  replace hD : va_D A [((a 0), .inr (4, [.ref (ex 0), .ref (ex 1), .ref (ex 2), .ref (ex 3), .ref (ex 4), .int 0, .int 1, .int 0, .int 0, .int 0, .int 0])), ((a 1), .inr (2, [.ref (ex 1), .int 0, .int 0, .int 0, .int 0, .int 0, .int 0, .ref (ex 5), .ref (ex 6), .ref (ex 7), .ref (ex 8), .ref (ex 9), .ref (ex 10), .ref (ex 11), .ref (ex 12)]))] := hD
  refine lv_aload_n hx hb dX4_judge_138 rfl (lv_at hl 1 rfl) ?_
  refine lv_aload_n hx hb dX4_judge_139 rfl (lv_at hl 2 rfl) ?_
  refine va_getN (D := D) (ci := 2) (v := .int 0) (C := RX2) (T := TX2) (N := 15) hx hb htg inX2 hown hK.1 hP 1 rfl rfl 6 (by decide) (va_Nw.use rfl (hK.2.1 _ kn_258)) (fun _ h9 => h9) rfl dX4_judge_140 ?_
  refine va_put (D := D) (ci := 4) (v := .int 0) (ty := .int) (C := RX4) (T := TX4) (N := 11) hx hb htg inX4 tyX4 tyX4_ok nmX4 hown hK.1 hP hD hS 0 rfl rfl 10 (by decide) (htg _ kw_353) (fun _ h9 => h9) rfl (by decide +kernel) rfl rfl (Nat.le_of_ble_eq_true rfl) dX4_judge_143 (fun H locs hP hD hS => ?_)
  replace hP : va_P D vwCl [((a 0), .inr (4, [.ref (ex 0), .ref (ex 1), .ref (ex 2), .ref (ex 3), .ref (ex 4), .int 0, .int 1, .int 0, .int 0, .int 0, .int 0])), ((a 1), .inr (2, [.ref (ex 1), .int 0, .int 0, .int 0, .int 0, .int 0, .int 0, .ref (ex 5), .ref (ex 6), .ref (ex 7), .ref (ex 8), .ref (ex 9), .ref (ex 10), .ref (ex 11), .ref (ex 12)]))] H := hP
  replace hD : va_D A [((a 0), .inr (4, [.ref (ex 0), .ref (ex 1), .ref (ex 2), .ref (ex 3), .ref (ex 4), .int 0, .int 1, .int 0, .int 0, .int 0, .int 0])), ((a 1), .inr (2, [.ref (ex 1), .int 0, .int 0, .int 0, .int 0, .int 0, .int 0, .ref (ex 5), .ref (ex 6), .ref (ex 7), .ref (ex 8), .ref (ex 9), .ref (ex 10), .ref (ex 11), .ref (ex 12)]))] := hD
  refine lv_aload_n hx hb dX4_judge_146 rfl (lv_at hl 1 rfl) ?_
  refine va_get (D := D) (ci := 4) (v := .int 0) (C := RX4) (T := TX4) (N := 11) hx hb htg inX4 hown hK.1 hP 0 rfl rfl 7 (by decide) (htg _ kw_347) (fun _ h9 => h9) rfl dX4_judge_147 ?_
  refine lv_if_ne (tgt := 157) hx hb dX4_judge_150 (by decide) (fun c => absurd (by decide) c) (fun _ => ?_)
  refine lv_iconst (v := (-1)) hx hb dX4_judge_153 (by decide) ?_
  refine lv_goto (tgt := 161) hx hb dX4_judge_154 (by decide) ?_
  have hP9 := hP.sub (ws' := [((a 0), .inr (4, [.ref (ex 0), .ref (ex 1), .ref (ex 2), .ref (ex 3), .ref (ex 4), .int 0, .int 1, .int 0, .int 0, .int 0, .int 0])), ((a 1), .inr (2, [.ref (ex 1), .int 0, .int 0, .int 0, .int 0, .int 0, .int 0, .ref (ex 5), .ref (ex 6), .ref (ex 7), .ref (ex 8), .ref (ex 9), .ref (ex 10), .ref (ex 11), .ref (ex 12)]))]) [0, 1] rfl
  have hD9 := hD.sub (ws' := [((a 0), .inr (4, [.ref (ex 0), .ref (ex 1), .ref (ex 2), .ref (ex 3), .ref (ex 4), .int 0, .int 1, .int 0, .int 0, .int 0, .int 0])), ((a 1), .inr (2, [.ref (ex 1), .int 0, .int 0, .int 0, .int 0, .int 0, .int 0, .ref (ex 5), .ref (ex 6), .ref (ex 7), .ref (ex 8), .ref (ex 9), .ref (ex 10), .ref (ex 11), .ref (ex 12)]))]) [0, 1] (by decide +kernel) rfl
  rw [hQ]
  exact W.iret (v := (-1)) hx hb hr (fun t ht hW => ⟨⟨(-1), (), rfl, rfl, ⟨xa [], xf [], xh [], xv [], by rw [ht]; exact hP9, hD9, trivial⟩⟩, hS.F ht⟩) hS.2.2 dX4_judge_161
abbrev pre_X11_roll (T : Nat → ClassId) (a ex : Nat → Nat) (fi : Nat → Nat → Int32) (fl : Nat → Nat → Int64) (vi : Nat → Int32) : va_W := (((a 0), .inr (11, [.ref (a 2), .ref (ex 0), .ref (ex 1), .ref (ex 2), .ref (a 4), .ref (a 3), .ref (ex 3), .ref (a 1), .ref (ex 4), .ref (ex 5), .ref (ex 6), .ref (ex 7), .ref (ex 8), .ref (ex 9), .int 0])) :: ((a 1), .inr (4, [.ref (a 2), .ref (ex 0), .ref (ex 10), .ref (ex 11), .ref (ex 12), .int 0, .int 0, .int 0, .int 0, .int 0, .int 0])) :: ((a 2), .inr (6, [.ref (ex 13), .ref (ex 14), .int (vi 0), .int 0, .int 0, .int 0, .int 0, .int 0, .long 0, .int 0, .int 0, .int 0, .int 0, .int 0])) :: ((a 3), .inr (2, [.ref (ex 0), .int 0, .int 0, .int 0, .int 0, .int 0, .int 0, .ref (a 6), .ref (a 8), .ref (a 10), .ref (a 12), .ref (a 14), .ref (a 16), .ref (a 18), .ref (a 20)])) :: ((a 4), .inr (2, [.ref (ex 0), .int 0, .int 0, .int 0, .int 0, .int 0, .int 0, .ref (a 5), .ref (a 7), .ref (a 9), .ref (a 11), .ref (a 13), .ref (a 15), .ref (a 17), .ref (a 19)])) :: ((a 5), .inl (T 1, 9, .inl (fun _ => 0))) :: ((a 6), .inl (T 1, 9, .inl (fun _ => 0))) :: ((a 7), .inl (T 1, 9, .inl (fun _ => 0))) :: ((a 8), .inl (T 1, 9, .inl (fun _ => 0))) :: ((a 9), .inl (T 1, 9, .inl (fun _ => 0))) :: ((a 10), .inl (T 1, 9, .inl (fun _ => 0))) :: ((a 11), .inl (T 1, 9, .inl (fun _ => 0))) :: ((a 12), .inl (T 1, 9, .inl (fun _ => 0))) :: ((a 13), .inl (T 1, 9, .inl (fun _ => 0))) :: ((a 14), .inl (T 1, 9, .inl (fun _ => 0))) :: ((a 15), .inl (T 1, 9, .inl (fun _ => 0))) :: ((a 16), .inl (T 1, 9, .inl (fun _ => 0))) :: ((a 17), .inl (T 1, 9, .inl (fun _ => 0))) :: ((a 18), .inl (T 1, 9, .inl (fun _ => 0))) :: ((a 19), .inl (T 2, 200, .inr (.inl (fun _ => 0)))) :: ((a 20), .inl (T 2, 200, .inr (.inl (fun _ => 0)))) :: [])
set_option maxHeartbeats 4000000 in
set_option maxRecDepth 100000 in
theorem c_X11_roll (l : Launch) (D : va_G) (T : Nat → ClassId) (a ex : Nat → Nat) (fi : Nat → Nat → Int32) (fl : Nat → Nat → Int64) (vi : Nat → Int32) (sz : Nat) : Met l yX11_roll (xw yX11_roll cX11_roll 3 (some .int)) ({ frames := 3, cells := 0, slots := 0, locals := 170 }) (xP D T [.ref (a 0), .int 0] sz (pre_X11_roll T a ex fi fl vi)) (va_Qi (fun r (_ : Unit) => r = (-1)) (xB D (va_A (pre_X11_roll T a ex fi fl vi) sz) (fun _ => True) (fun b fj fm vj => [])) (va_A (pre_X11_roll T a ex fi fl vi) sz)) 0 0 (va_A (pre_X11_roll T a ex fi fl vi) sz) := by
  refine xofW (cc := cX11_roll) (maxL := 3) (ret := (some .int)) (by decide) rfl ?_
  intro p e s m args below meth c s₁ R Q hR hQ B hml hv
  obtain ⟨rfl, hsz, hP, hK, hD0⟩ := hv
  have hx := B.exec
  have hb := B.bytes
  have hr := B.returns
  have hts := atoms_spec (ws := xw yX11_roll cX11_roll 3 (some .int)) B.pre
  have htg : ∀ w ∈ xg, w.before _ s = true := fun w h => hts w (List.mem_cons_of_mem _ h)
  have hown : s.vm.findClass RX11 = some m.cls := findClass_of_methodNamed B.named
  have hlocks := B.notSynchronized
  subst hsz
  have hD := hD0.self (sz := s.heap.size)
  generalize hAe : va_A (pre_X11_roll T a ex fi fl vi) s.heap.size = A at hD hQ
  have hA : ∀ q : Nat, s.heap.size ≤ q → A q := fun q h => by rw [← hAe]; exact Or.inr h
  have hS : va_S A s.heap s.heap [] := va_S.rf
  replace hP : va_P D vwCl (((a 0), .inr (11, [.ref (a 2), .ref (ex 0), .ref (ex 1), .ref (ex 2), .ref (a 4), .ref (a 3), .ref (ex 3), .ref (a 1), .ref (ex 4), .ref (ex 5), .ref (ex 6), .ref (ex 7), .ref (ex 8), .ref (ex 9), .int 0])) :: ((a 1), .inr (4, [.ref (a 2), .ref (ex 0), .ref (ex 10), .ref (ex 11), .ref (ex 12), .int 0, .int 0, .int 0, .int 0, .int 0, .int 0])) :: ((a 2), .inr (6, [.ref (ex 13), .ref (ex 14), .int (vi 0), .int 0, .int 0, .int 0, .int 0, .int 0, .long 0, .int 0, .int 0, .int 0, .int 0, .int 0])) :: ((a 3), .inr (2, [.ref (ex 0), .int 0, .int 0, .int 0, .int 0, .int 0, .int 0, .ref (a 6), .ref (a 8), .ref (a 10), .ref (a 12), .ref (a 14), .ref (a 16), .ref (a 18), .ref (a 20)])) :: ((a 4), .inr (2, [.ref (ex 0), .int 0, .int 0, .int 0, .int 0, .int 0, .int 0, .ref (a 5), .ref (a 7), .ref (a 9), .ref (a 11), .ref (a 13), .ref (a 15), .ref (a 17), .ref (a 19)])) :: ((a 5), .inl (T 1, 9, .inl (fun _ => 0))) :: ((a 6), .inl (T 1, 9, .inl (fun _ => 0))) :: ((a 7), .inl (T 1, 9, .inl (fun _ => 0))) :: ((a 8), .inl (T 1, 9, .inl (fun _ => 0))) :: ((a 9), .inl (T 1, 9, .inl (fun _ => 0))) :: ((a 10), .inl (T 1, 9, .inl (fun _ => 0))) :: ((a 11), .inl (T 1, 9, .inl (fun _ => 0))) :: ((a 12), .inl (T 1, 9, .inl (fun _ => 0))) :: ((a 13), .inl (T 1, 9, .inl (fun _ => 0))) :: ((a 14), .inl (T 1, 9, .inl (fun _ => 0))) :: ((a 15), .inl (T 1, 9, .inl (fun _ => 0))) :: ((a 16), .inl (T 1, 9, .inl (fun _ => 0))) :: ((a 17), .inl (T 1, 9, .inl (fun _ => 0))) :: ((a 18), .inl (T 1, 9, .inl (fun _ => 0))) :: ((a 19), .inl (T 2, 200, .inr (.inl (fun _ => 0)))) :: ((a 20), .inl (T 2, 200, .inr (.inl (fun _ => 0)))) :: []) s.heap := hP
  replace hD : va_D A (((a 0), .inr (11, [.ref (a 2), .ref (ex 0), .ref (ex 1), .ref (ex 2), .ref (a 4), .ref (a 3), .ref (ex 3), .ref (a 1), .ref (ex 4), .ref (ex 5), .ref (ex 6), .ref (ex 7), .ref (ex 8), .ref (ex 9), .int 0])) :: ((a 1), .inr (4, [.ref (a 2), .ref (ex 0), .ref (ex 10), .ref (ex 11), .ref (ex 12), .int 0, .int 0, .int 0, .int 0, .int 0, .int 0])) :: ((a 2), .inr (6, [.ref (ex 13), .ref (ex 14), .int (vi 0), .int 0, .int 0, .int 0, .int 0, .int 0, .long 0, .int 0, .int 0, .int 0, .int 0, .int 0])) :: ((a 3), .inr (2, [.ref (ex 0), .int 0, .int 0, .int 0, .int 0, .int 0, .int 0, .ref (a 6), .ref (a 8), .ref (a 10), .ref (a 12), .ref (a 14), .ref (a 16), .ref (a 18), .ref (a 20)])) :: ((a 4), .inr (2, [.ref (ex 0), .int 0, .int 0, .int 0, .int 0, .int 0, .int 0, .ref (a 5), .ref (a 7), .ref (a 9), .ref (a 11), .ref (a 13), .ref (a 15), .ref (a 17), .ref (a 19)])) :: ((a 5), .inl (T 1, 9, .inl (fun _ => 0))) :: ((a 6), .inl (T 1, 9, .inl (fun _ => 0))) :: ((a 7), .inl (T 1, 9, .inl (fun _ => 0))) :: ((a 8), .inl (T 1, 9, .inl (fun _ => 0))) :: ((a 9), .inl (T 1, 9, .inl (fun _ => 0))) :: ((a 10), .inl (T 1, 9, .inl (fun _ => 0))) :: ((a 11), .inl (T 1, 9, .inl (fun _ => 0))) :: ((a 12), .inl (T 1, 9, .inl (fun _ => 0))) :: ((a 13), .inl (T 1, 9, .inl (fun _ => 0))) :: ((a 14), .inl (T 1, 9, .inl (fun _ => 0))) :: ((a 15), .inl (T 1, 9, .inl (fun _ => 0))) :: ((a 16), .inl (T 1, 9, .inl (fun _ => 0))) :: ((a 17), .inl (T 1, 9, .inl (fun _ => 0))) :: ((a 18), .inl (T 1, 9, .inl (fun _ => 0))) :: ((a 19), .inl (T 2, 200, .inr (.inl (fun _ => 0)))) :: ((a 20), .inl (T 2, 200, .inr (.inl (fun _ => 0)))) :: []) := hD
  have hl := lv_entry ([.ref (a 0), .int 0]) (n := 3) (Nat.le_of_ble_eq_true rfl)
  rw [lg_entry_eq]
  generalize (lg_sl ([.ref (a 0), .int 0]) ++ List.replicate (3 - (lg_sl ([.ref (a 0), .int 0])).length) Slot.unset).toArray = ls at hl ⊢
  replace hl : lv_has ls 3 [(0, .ref (a 0)), (1, .int 0)] := hl
  refine lv_iload_n hx hb dX11_roll_0 rfl (lv_at hl 1 rfl) ?_
  refine lv_if_lt (tgt := 9) hx hb dX11_roll_1 (by decide) (fun c => absurd c (by decide)) (fun _ => ?_)
  refine lv_iload_n hx hb dX11_roll_4 rfl (lv_at hl 1 rfl) ?_
  refine lv_iconst (v := 1) hx hb dX11_roll_5 (by decide) ?_
  refine lv_icmp_le (tgt := 13) hx hb dX11_roll_6 (by decide) (fun _ => ?_) (fun c => absurd (by decide) c)
  refine lv_aload_n hx hb dX11_roll_13 rfl (lv_at hl 0 rfl) ?_
  refine va_get (D := D) (ci := 11) (v := .ref (a 1)) (C := RX11) (T := TX11) (N := 15) hx hb htg inX11 hown hK.1 hP 0 rfl rfl 7 (by decide) (htg _ kw_503) (fun _ h9 => h9) rfl dX11_roll_14 ?_
  have hPc := hP.sub (ws' := (pre_X4_read T (xa [(a 1), (a 2)]) (xa [(ex 0), (ex 10), (ex 11), (ex 12), (ex 13), (ex 14)]) (xf []) (xh []) (xv [(vi 0)]))) [1, 2] rfl
  have hDc := hD.sub (ws' := (pre_X4_read T (xa [(a 1), (a 2)]) (xa [(ex 0), (ex 10), (ex 11), (ex 12), (ex 13), (ex 14)]) (xf []) (xh []) (xv [(vi 0)]))) [1, 2] (by decide) rfl
  have hFc := va_free (wc := (pre_X4_read T (xa [(a 1), (a 2)]) (xa [(ex 0), (ex 10), (ex 11), (ex 12), (ex 13), (ex 14)]) (xf []) (xh []) (xv [(vi 0)]))) hD hS hA [1, 2] rfl
  refine va_calli (va_runVN (As := []) (rest := []) ⟨hx, hb, hml, hown, htg⟩ (c_X4_read l D T (xa [(a 1), (a 2)]) (xa [(ex 0), (ex 10), (ex 11), (ex 12), (ex 13), (ex 14)]) (xf []) (xh []) (xv [(vi 0)]) s.heap.size) ⟨va_cnB 0 htg (xg_ok kw_1140) rfl rfl rfl (hK.2.1 _ kn_1137) (htg _ kw_11) (by decide +kernel) ⟨by rw [hR]; exact Nat.le_of_ble_eq_true rfl, by rw [hR]; exact Nat.le_of_ble_eq_true rfl⟩, htg _ kw_1139, htg _ ks_95⟩ (xpreV hK hPc hDc (va_recv hK.1 hPc (ci := 4) (q0 := 0) rfl rfl)) rfl rfl hl.1 rfl (lv_room (Nat.le_of_ble_eq_true rfl)) dX11_roll_17 ⟨by rw [hR]; exact Nat.le_of_ble_eq_true rfl, by rw [hR]; exact Nat.le_of_ble_eq_true rfl⟩) hS (fun q _ h => hFc q h) hFc (fun r9 u t H1 locs ht hvm hw hB hz1 hk1 hS => ?_)
  obtain ⟨bk, fik, flk, vik, hP1, hD1, hGk⟩ := hB
  rw [ht] at hP1
  obtain ⟨hP, hD⟩ := va_join (wr := (((a 0), .inr (11, [.ref (a 2), .ref (ex 0), .ref (ex 1), .ref (ex 2), .ref (a 4), .ref (a 3), .ref (ex 3), .ref (a 1), .ref (ex 4), .ref (ex 5), .ref (ex 6), .ref (ex 7), .ref (ex 8), .ref (ex 9), .int 0])) :: ((a 3), .inr (2, [.ref (ex 0), .int 0, .int 0, .int 0, .int 0, .int 0, .int 0, .ref (a 6), .ref (a 8), .ref (a 10), .ref (a 12), .ref (a 14), .ref (a 16), .ref (a 18), .ref (a 20)])) :: ((a 4), .inr (2, [.ref (ex 0), .int 0, .int 0, .int 0, .int 0, .int 0, .int 0, .ref (a 5), .ref (a 7), .ref (a 9), .ref (a 11), .ref (a 13), .ref (a 15), .ref (a 17), .ref (a 19)])) :: ((a 5), .inl (T 1, 9, .inl (fun _ => 0))) :: ((a 6), .inl (T 1, 9, .inl (fun _ => 0))) :: ((a 7), .inl (T 1, 9, .inl (fun _ => 0))) :: ((a 8), .inl (T 1, 9, .inl (fun _ => 0))) :: ((a 9), .inl (T 1, 9, .inl (fun _ => 0))) :: ((a 10), .inl (T 1, 9, .inl (fun _ => 0))) :: ((a 11), .inl (T 1, 9, .inl (fun _ => 0))) :: ((a 12), .inl (T 1, 9, .inl (fun _ => 0))) :: ((a 13), .inl (T 1, 9, .inl (fun _ => 0))) :: ((a 14), .inl (T 1, 9, .inl (fun _ => 0))) :: ((a 15), .inl (T 1, 9, .inl (fun _ => 0))) :: ((a 16), .inl (T 1, 9, .inl (fun _ => 0))) :: ((a 17), .inl (T 1, 9, .inl (fun _ => 0))) :: ((a 18), .inl (T 1, 9, .inl (fun _ => 0))) :: ((a 19), .inl (T 2, 200, .inr (.inl (fun _ => 0)))) :: ((a 20), .inl (T 2, 200, .inr (.inl (fun _ => 0)))) :: [])) (w1 := [((a 1), .inr (4, [.ref (a 2), .ref (ex 0), .ref (ex 10), .ref (ex 11), .ref (ex 12), .int 0, .int 0, .int 0, .int 0, .int 0, .int 0])), ((a 2), .inr (6, [.ref (ex 13), .ref (ex 14), .int (vi 0), .int 0, .int 400, .int 0, .int 0, .int 0, .long 0, .int 0, .int 0, .int 0, .int 0, .int 0]))]) hP hD [1, 2] [0, 3, 4, 5, 6, 7, 8, 9, 10, 11, 12, 13, 14, 15, 16, 17, 18, 19, 20] rfl rfl (by decide) (by decide) hk1 hFc hP1 hD1
  subst hw
  clear hPc hDc hFc hP1 hD1 hk1 hz1 hvm ht
  generalize H1 = H at hP hS ⊢
  replace hP : va_P D vwCl (((a 0), .inr (11, [.ref (a 2), .ref (ex 0), .ref (ex 1), .ref (ex 2), .ref (a 4), .ref (a 3), .ref (ex 3), .ref (a 1), .ref (ex 4), .ref (ex 5), .ref (ex 6), .ref (ex 7), .ref (ex 8), .ref (ex 9), .int 0])) :: ((a 3), .inr (2, [.ref (ex 0), .int 0, .int 0, .int 0, .int 0, .int 0, .int 0, .ref (a 6), .ref (a 8), .ref (a 10), .ref (a 12), .ref (a 14), .ref (a 16), .ref (a 18), .ref (a 20)])) :: ((a 4), .inr (2, [.ref (ex 0), .int 0, .int 0, .int 0, .int 0, .int 0, .int 0, .ref (a 5), .ref (a 7), .ref (a 9), .ref (a 11), .ref (a 13), .ref (a 15), .ref (a 17), .ref (a 19)])) :: ((a 5), .inl (T 1, 9, .inl (fun _ => 0))) :: ((a 6), .inl (T 1, 9, .inl (fun _ => 0))) :: ((a 7), .inl (T 1, 9, .inl (fun _ => 0))) :: ((a 8), .inl (T 1, 9, .inl (fun _ => 0))) :: ((a 9), .inl (T 1, 9, .inl (fun _ => 0))) :: ((a 10), .inl (T 1, 9, .inl (fun _ => 0))) :: ((a 11), .inl (T 1, 9, .inl (fun _ => 0))) :: ((a 12), .inl (T 1, 9, .inl (fun _ => 0))) :: ((a 13), .inl (T 1, 9, .inl (fun _ => 0))) :: ((a 14), .inl (T 1, 9, .inl (fun _ => 0))) :: ((a 15), .inl (T 1, 9, .inl (fun _ => 0))) :: ((a 16), .inl (T 1, 9, .inl (fun _ => 0))) :: ((a 17), .inl (T 1, 9, .inl (fun _ => 0))) :: ((a 18), .inl (T 1, 9, .inl (fun _ => 0))) :: ((a 19), .inl (T 2, 200, .inr (.inl (fun _ => 0)))) :: ((a 20), .inl (T 2, 200, .inr (.inl (fun _ => 0)))) :: ((a 1), .inr (4, [.ref (a 2), .ref (ex 0), .ref (ex 10), .ref (ex 11), .ref (ex 12), .int 0, .int 0, .int 0, .int 0, .int 0, .int 0])) :: ((a 2), .inr (6, [.ref (ex 13), .ref (ex 14), .int (vi 0), .int 0, .int 400, .int 0, .int 0, .int 0, .long 0, .int 0, .int 0, .int 0, .int 0, .int 0])) :: []) H := hP
  replace hD : va_D A (((a 0), .inr (11, [.ref (a 2), .ref (ex 0), .ref (ex 1), .ref (ex 2), .ref (a 4), .ref (a 3), .ref (ex 3), .ref (a 1), .ref (ex 4), .ref (ex 5), .ref (ex 6), .ref (ex 7), .ref (ex 8), .ref (ex 9), .int 0])) :: ((a 3), .inr (2, [.ref (ex 0), .int 0, .int 0, .int 0, .int 0, .int 0, .int 0, .ref (a 6), .ref (a 8), .ref (a 10), .ref (a 12), .ref (a 14), .ref (a 16), .ref (a 18), .ref (a 20)])) :: ((a 4), .inr (2, [.ref (ex 0), .int 0, .int 0, .int 0, .int 0, .int 0, .int 0, .ref (a 5), .ref (a 7), .ref (a 9), .ref (a 11), .ref (a 13), .ref (a 15), .ref (a 17), .ref (a 19)])) :: ((a 5), .inl (T 1, 9, .inl (fun _ => 0))) :: ((a 6), .inl (T 1, 9, .inl (fun _ => 0))) :: ((a 7), .inl (T 1, 9, .inl (fun _ => 0))) :: ((a 8), .inl (T 1, 9, .inl (fun _ => 0))) :: ((a 9), .inl (T 1, 9, .inl (fun _ => 0))) :: ((a 10), .inl (T 1, 9, .inl (fun _ => 0))) :: ((a 11), .inl (T 1, 9, .inl (fun _ => 0))) :: ((a 12), .inl (T 1, 9, .inl (fun _ => 0))) :: ((a 13), .inl (T 1, 9, .inl (fun _ => 0))) :: ((a 14), .inl (T 1, 9, .inl (fun _ => 0))) :: ((a 15), .inl (T 1, 9, .inl (fun _ => 0))) :: ((a 16), .inl (T 1, 9, .inl (fun _ => 0))) :: ((a 17), .inl (T 1, 9, .inl (fun _ => 0))) :: ((a 18), .inl (T 1, 9, .inl (fun _ => 0))) :: ((a 19), .inl (T 2, 200, .inr (.inl (fun _ => 0)))) :: ((a 20), .inl (T 2, 200, .inr (.inl (fun _ => 0)))) :: ((a 1), .inr (4, [.ref (a 2), .ref (ex 0), .ref (ex 10), .ref (ex 11), .ref (ex 12), .int 0, .int 0, .int 0, .int 0, .int 0, .int 0])) :: ((a 2), .inr (6, [.ref (ex 13), .ref (ex 14), .int (vi 0), .int 0, .int 400, .int 0, .int 0, .int 0, .long 0, .int 0, .int 0, .int 0, .int 0, .int 0])) :: []) := hD
  refine lv_istore_n (lv' := [(2, .int 1), (0, .ref (a 0)), (1, .int 0)]) hx hb dX11_roll_20 rfl hl (by decide) rfl (fun ls hl => ?_)
  refine lv_aload_n hx hb dX11_roll_21 rfl (lv_at hl 1 rfl) ?_
  refine va_get (D := D) (ci := 11) (v := .ref (a 2)) (C := RX11) (T := TX11) (N := 15) hx hb htg inX11 hown hK.1 hP 0 rfl rfl 0 (by decide) (htg _ kw_496) (fun _ h9 => h9) rfl dX11_roll_22 ?_
  refine lv_iconst (v := 0) hx hb dX11_roll_25 (by decide) ?_
  refine va_putN (D := D) (ci := 6) (v := .int 0) (ty := .int) (C := RX6) (T := TX6) (N := 14) hx hb htg inX6 tyX6 tyX6_ok nmX6 hown hK.1 hP hD hS 20 rfl rfl 3 (by decide) (va_Nw.use rfl (hK.2.1 _ kn_97)) (fun _ h9 => h9) rfl (by decide +kernel) rfl rfl (Nat.le_of_ble_eq_true rfl) dX11_roll_26 (fun H locs hP hD hS => ?_)
  replace hP : va_P D vwCl (((a 0), .inr (11, [.ref (a 2), .ref (ex 0), .ref (ex 1), .ref (ex 2), .ref (a 4), .ref (a 3), .ref (ex 3), .ref (a 1), .ref (ex 4), .ref (ex 5), .ref (ex 6), .ref (ex 7), .ref (ex 8), .ref (ex 9), .int 0])) :: ((a 3), .inr (2, [.ref (ex 0), .int 0, .int 0, .int 0, .int 0, .int 0, .int 0, .ref (a 6), .ref (a 8), .ref (a 10), .ref (a 12), .ref (a 14), .ref (a 16), .ref (a 18), .ref (a 20)])) :: ((a 4), .inr (2, [.ref (ex 0), .int 0, .int 0, .int 0, .int 0, .int 0, .int 0, .ref (a 5), .ref (a 7), .ref (a 9), .ref (a 11), .ref (a 13), .ref (a 15), .ref (a 17), .ref (a 19)])) :: ((a 5), .inl (T 1, 9, .inl (fun _ => 0))) :: ((a 6), .inl (T 1, 9, .inl (fun _ => 0))) :: ((a 7), .inl (T 1, 9, .inl (fun _ => 0))) :: ((a 8), .inl (T 1, 9, .inl (fun _ => 0))) :: ((a 9), .inl (T 1, 9, .inl (fun _ => 0))) :: ((a 10), .inl (T 1, 9, .inl (fun _ => 0))) :: ((a 11), .inl (T 1, 9, .inl (fun _ => 0))) :: ((a 12), .inl (T 1, 9, .inl (fun _ => 0))) :: ((a 13), .inl (T 1, 9, .inl (fun _ => 0))) :: ((a 14), .inl (T 1, 9, .inl (fun _ => 0))) :: ((a 15), .inl (T 1, 9, .inl (fun _ => 0))) :: ((a 16), .inl (T 1, 9, .inl (fun _ => 0))) :: ((a 17), .inl (T 1, 9, .inl (fun _ => 0))) :: ((a 18), .inl (T 1, 9, .inl (fun _ => 0))) :: ((a 19), .inl (T 2, 200, .inr (.inl (fun _ => 0)))) :: ((a 20), .inl (T 2, 200, .inr (.inl (fun _ => 0)))) :: ((a 1), .inr (4, [.ref (a 2), .ref (ex 0), .ref (ex 10), .ref (ex 11), .ref (ex 12), .int 0, .int 0, .int 0, .int 0, .int 0, .int 0])) :: ((a 2), .inr (6, [.ref (ex 13), .ref (ex 14), .int (vi 0), .int 0, .int 400, .int 0, .int 0, .int 0, .long 0, .int 0, .int 0, .int 0, .int 0, .int 0])) :: []) H := hP
  replace hD : va_D A (((a 0), .inr (11, [.ref (a 2), .ref (ex 0), .ref (ex 1), .ref (ex 2), .ref (a 4), .ref (a 3), .ref (ex 3), .ref (a 1), .ref (ex 4), .ref (ex 5), .ref (ex 6), .ref (ex 7), .ref (ex 8), .ref (ex 9), .int 0])) :: ((a 3), .inr (2, [.ref (ex 0), .int 0, .int 0, .int 0, .int 0, .int 0, .int 0, .ref (a 6), .ref (a 8), .ref (a 10), .ref (a 12), .ref (a 14), .ref (a 16), .ref (a 18), .ref (a 20)])) :: ((a 4), .inr (2, [.ref (ex 0), .int 0, .int 0, .int 0, .int 0, .int 0, .int 0, .ref (a 5), .ref (a 7), .ref (a 9), .ref (a 11), .ref (a 13), .ref (a 15), .ref (a 17), .ref (a 19)])) :: ((a 5), .inl (T 1, 9, .inl (fun _ => 0))) :: ((a 6), .inl (T 1, 9, .inl (fun _ => 0))) :: ((a 7), .inl (T 1, 9, .inl (fun _ => 0))) :: ((a 8), .inl (T 1, 9, .inl (fun _ => 0))) :: ((a 9), .inl (T 1, 9, .inl (fun _ => 0))) :: ((a 10), .inl (T 1, 9, .inl (fun _ => 0))) :: ((a 11), .inl (T 1, 9, .inl (fun _ => 0))) :: ((a 12), .inl (T 1, 9, .inl (fun _ => 0))) :: ((a 13), .inl (T 1, 9, .inl (fun _ => 0))) :: ((a 14), .inl (T 1, 9, .inl (fun _ => 0))) :: ((a 15), .inl (T 1, 9, .inl (fun _ => 0))) :: ((a 16), .inl (T 1, 9, .inl (fun _ => 0))) :: ((a 17), .inl (T 1, 9, .inl (fun _ => 0))) :: ((a 18), .inl (T 1, 9, .inl (fun _ => 0))) :: ((a 19), .inl (T 2, 200, .inr (.inl (fun _ => 0)))) :: ((a 20), .inl (T 2, 200, .inr (.inl (fun _ => 0)))) :: ((a 1), .inr (4, [.ref (a 2), .ref (ex 0), .ref (ex 10), .ref (ex 11), .ref (ex 12), .int 0, .int 0, .int 0, .int 0, .int 0, .int 0])) :: ((a 2), .inr (6, [.ref (ex 13), .ref (ex 14), .int (vi 0), .int 0, .int 400, .int 0, .int 0, .int 0, .long 0, .int 0, .int 0, .int 0, .int 0, .int 0])) :: []) := hD
  refine lv_aload_n hx hb dX11_roll_29 rfl (lv_at hl 1 rfl) ?_
  refine lv_aload_n hx hb dX11_roll_30 rfl (lv_at hl 1 rfl) ?_
  refine va_get (D := D) (ci := 11) (v := .ref (a 2)) (C := RX11) (T := TX11) (N := 15) hx hb htg inX11 hown hK.1 hP 0 rfl rfl 0 (by decide) (htg _ kw_496) (fun _ h9 => h9) rfl dX11_roll_31 ?_
  refine va_getN (D := D) (ci := 6) (v := .int 0) (C := RX6) (T := TX6) (N := 14) hx hb htg inX6 hown hK.1 hP 20 rfl rfl 12 (by decide) (va_Nw.use rfl (hK.2.1 _ kn_117)) (fun _ h9 => h9) rfl dX11_roll_34 ?_
  refine va_put (D := D) (ci := 11) (v := .int 0) (ty := .int) (C := RX11) (T := TX11) (N := 15) hx hb htg inX11 tyX11 tyX11_ok nmX11 hown hK.1 hP hD hS 0 rfl rfl 14 (by decide) (htg _ kw_510) (fun _ h9 => h9) rfl (by decide +kernel) rfl rfl (Nat.le_of_ble_eq_true rfl) dX11_roll_37 (fun H locs hP hD hS => ?_)
  replace hP : va_P D vwCl (((a 0), .inr (11, [.ref (a 2), .ref (ex 0), .ref (ex 1), .ref (ex 2), .ref (a 4), .ref (a 3), .ref (ex 3), .ref (a 1), .ref (ex 4), .ref (ex 5), .ref (ex 6), .ref (ex 7), .ref (ex 8), .ref (ex 9), .int 0])) :: ((a 3), .inr (2, [.ref (ex 0), .int 0, .int 0, .int 0, .int 0, .int 0, .int 0, .ref (a 6), .ref (a 8), .ref (a 10), .ref (a 12), .ref (a 14), .ref (a 16), .ref (a 18), .ref (a 20)])) :: ((a 4), .inr (2, [.ref (ex 0), .int 0, .int 0, .int 0, .int 0, .int 0, .int 0, .ref (a 5), .ref (a 7), .ref (a 9), .ref (a 11), .ref (a 13), .ref (a 15), .ref (a 17), .ref (a 19)])) :: ((a 5), .inl (T 1, 9, .inl (fun _ => 0))) :: ((a 6), .inl (T 1, 9, .inl (fun _ => 0))) :: ((a 7), .inl (T 1, 9, .inl (fun _ => 0))) :: ((a 8), .inl (T 1, 9, .inl (fun _ => 0))) :: ((a 9), .inl (T 1, 9, .inl (fun _ => 0))) :: ((a 10), .inl (T 1, 9, .inl (fun _ => 0))) :: ((a 11), .inl (T 1, 9, .inl (fun _ => 0))) :: ((a 12), .inl (T 1, 9, .inl (fun _ => 0))) :: ((a 13), .inl (T 1, 9, .inl (fun _ => 0))) :: ((a 14), .inl (T 1, 9, .inl (fun _ => 0))) :: ((a 15), .inl (T 1, 9, .inl (fun _ => 0))) :: ((a 16), .inl (T 1, 9, .inl (fun _ => 0))) :: ((a 17), .inl (T 1, 9, .inl (fun _ => 0))) :: ((a 18), .inl (T 1, 9, .inl (fun _ => 0))) :: ((a 19), .inl (T 2, 200, .inr (.inl (fun _ => 0)))) :: ((a 20), .inl (T 2, 200, .inr (.inl (fun _ => 0)))) :: ((a 1), .inr (4, [.ref (a 2), .ref (ex 0), .ref (ex 10), .ref (ex 11), .ref (ex 12), .int 0, .int 0, .int 0, .int 0, .int 0, .int 0])) :: ((a 2), .inr (6, [.ref (ex 13), .ref (ex 14), .int (vi 0), .int 0, .int 400, .int 0, .int 0, .int 0, .long 0, .int 0, .int 0, .int 0, .int 0, .int 0])) :: []) H := hP
  replace hD : va_D A (((a 0), .inr (11, [.ref (a 2), .ref (ex 0), .ref (ex 1), .ref (ex 2), .ref (a 4), .ref (a 3), .ref (ex 3), .ref (a 1), .ref (ex 4), .ref (ex 5), .ref (ex 6), .ref (ex 7), .ref (ex 8), .ref (ex 9), .int 0])) :: ((a 3), .inr (2, [.ref (ex 0), .int 0, .int 0, .int 0, .int 0, .int 0, .int 0, .ref (a 6), .ref (a 8), .ref (a 10), .ref (a 12), .ref (a 14), .ref (a 16), .ref (a 18), .ref (a 20)])) :: ((a 4), .inr (2, [.ref (ex 0), .int 0, .int 0, .int 0, .int 0, .int 0, .int 0, .ref (a 5), .ref (a 7), .ref (a 9), .ref (a 11), .ref (a 13), .ref (a 15), .ref (a 17), .ref (a 19)])) :: ((a 5), .inl (T 1, 9, .inl (fun _ => 0))) :: ((a 6), .inl (T 1, 9, .inl (fun _ => 0))) :: ((a 7), .inl (T 1, 9, .inl (fun _ => 0))) :: ((a 8), .inl (T 1, 9, .inl (fun _ => 0))) :: ((a 9), .inl (T 1, 9, .inl (fun _ => 0))) :: ((a 10), .inl (T 1, 9, .inl (fun _ => 0))) :: ((a 11), .inl (T 1, 9, .inl (fun _ => 0))) :: ((a 12), .inl (T 1, 9, .inl (fun _ => 0))) :: ((a 13), .inl (T 1, 9, .inl (fun _ => 0))) :: ((a 14), .inl (T 1, 9, .inl (fun _ => 0))) :: ((a 15), .inl (T 1, 9, .inl (fun _ => 0))) :: ((a 16), .inl (T 1, 9, .inl (fun _ => 0))) :: ((a 17), .inl (T 1, 9, .inl (fun _ => 0))) :: ((a 18), .inl (T 1, 9, .inl (fun _ => 0))) :: ((a 19), .inl (T 2, 200, .inr (.inl (fun _ => 0)))) :: ((a 20), .inl (T 2, 200, .inr (.inl (fun _ => 0)))) :: ((a 1), .inr (4, [.ref (a 2), .ref (ex 0), .ref (ex 10), .ref (ex 11), .ref (ex 12), .int 0, .int 0, .int 0, .int 0, .int 0, .int 0])) :: ((a 2), .inr (6, [.ref (ex 13), .ref (ex 14), .int (vi 0), .int 0, .int 400, .int 0, .int 0, .int 0, .long 0, .int 0, .int 0, .int 0, .int 0, .int 0])) :: []) := hD
  refine lv_iload_n hx hb dX11_roll_40 rfl (lv_at hl 0 rfl) ?_
  refine lv_if_ne (tgt := 55) hx hb dX11_roll_41 (by decide) (fun _ => ?_) (fun c => absurd c (by decide))
  refine lv_iload_n hx hb dX11_roll_55 rfl (lv_at hl 2 rfl) ?_
  refine lv_iconst (v := 1) hx hb dX11_roll_56 (by decide) ?_
  refine lv_icmp_ne (tgt := 83) hx hb dX11_roll_57 (by decide) (fun _ => ?_) (fun c => absurd c (by decide))
  refine lv_aload_n hx hb dX11_roll_83 rfl (lv_at hl 1 rfl) ?_
  refine va_get (D := D) (ci := 11) (v := .ref (a 3)) (C := RX11) (T := TX11) (N := 15) hx hb htg inX11 hown hK.1 hP 0 rfl rfl 5 (by decide) (htg _ kw_501) (fun _ h9 => h9) rfl dX11_roll_84 ?_
  refine lv_aload_n hx hb dX11_roll_87 rfl (lv_at hl 1 rfl) ?_
  refine va_get (D := D) (ci := 11) (v := .ref (a 4)) (C := RX11) (T := TX11) (N := 15) hx hb htg inX11 hown hK.1 hP 0 rfl rfl 4 (by decide) (htg _ kw_500) (fun _ h9 => h9) rfl dX11_roll_88 ?_
  have hPc := hP.sub (ws' := (pre_X2_copyFrom T (xa [(a 3), (a 4), (a 5), (a 6), (a 7), (a 8), (a 9), (a 10), (a 11), (a 12), (a 13), (a 14), (a 15), (a 16), (a 17), (a 18), (a 19), (a 20)]) (xa [(ex 0)]) (xf []) (xh []) (xv []))) [1, 2, 3, 4, 5, 6, 7, 8, 9, 10, 11, 12, 13, 14, 15, 16, 17, 18] rfl
  have hDc := hD.sub (ws' := (pre_X2_copyFrom T (xa [(a 3), (a 4), (a 5), (a 6), (a 7), (a 8), (a 9), (a 10), (a 11), (a 12), (a 13), (a 14), (a 15), (a 16), (a 17), (a 18), (a 19), (a 20)]) (xa [(ex 0)]) (xf []) (xh []) (xv []))) [1, 2, 3, 4, 5, 6, 7, 8, 9, 10, 11, 12, 13, 14, 15, 16, 17, 18] (by decide) rfl
  have hFc := va_free (wc := (pre_X2_copyFrom T (xa [(a 3), (a 4), (a 5), (a 6), (a 7), (a 8), (a 9), (a 10), (a 11), (a 12), (a 13), (a 14), (a 15), (a 16), (a 17), (a 18), (a 19), (a 20)]) (xa [(ex 0)]) (xf []) (xh []) (xv []))) hD hS hA [1, 2, 3, 4, 5, 6, 7, 8, 9, 10, 11, 12, 13, 14, 15, 16, 17, 18] rfl
  refine va_callv (va_runVN (As := [.ref (a 4)]) (rest := []) ⟨hx, hb, hml, hown, htg⟩ (c_X2_copyFrom l D T (xa [(a 3), (a 4), (a 5), (a 6), (a 7), (a 8), (a 9), (a 10), (a 11), (a 12), (a 13), (a 14), (a 15), (a 16), (a 17), (a 18), (a 19), (a 20)]) (xa [(ex 0)]) (xf []) (xh []) (xv []) H.size) ⟨va_cnB 1 htg (xg_ok kw_834) rfl rfl rfl (hK.2.1 _ kn_1132) (htg _ kw_9) (by decide +kernel) ⟨by rw [hR]; exact Nat.le_of_ble_eq_true rfl, by rw [hR]; exact Nat.le_of_ble_eq_true rfl⟩, htg _ kw_833, htg _ ks_54⟩ (xpreV hK hPc hDc (va_recv hK.1 hPc (ci := 2) (q0 := 0) rfl rfl)) rfl rfl hl.1 rfl (lv_room (Nat.le_of_ble_eq_true rfl)) dX11_roll_91 ⟨by rw [hR]; exact Nat.le_of_ble_eq_true rfl, by rw [hR]; exact Nat.le_of_ble_eq_true rfl⟩) hS (fun q _ h => hFc q h) hFc (fun u t H1 locs ht hvm hw hB hz1 hk1 hS => ?_)
  obtain ⟨bk_1, fik_1, flk_1, vik_1, hP1, hD1, hGk_1⟩ := hB
  rw [ht] at hP1
  obtain ⟨hP, hD⟩ := va_join (wr := [((a 0), .inr (11, [.ref (a 2), .ref (ex 0), .ref (ex 1), .ref (ex 2), .ref (a 4), .ref (a 3), .ref (ex 3), .ref (a 1), .ref (ex 4), .ref (ex 5), .ref (ex 6), .ref (ex 7), .ref (ex 8), .ref (ex 9), .int 0])), ((a 1), .inr (4, [.ref (a 2), .ref (ex 0), .ref (ex 10), .ref (ex 11), .ref (ex 12), .int 0, .int 0, .int 0, .int 0, .int 0, .int 0])), ((a 2), .inr (6, [.ref (ex 13), .ref (ex 14), .int (vi 0), .int 0, .int 400, .int 0, .int 0, .int 0, .long 0, .int 0, .int 0, .int 0, .int 0, .int 0]))]) (w1 := (((a 3), .inr (2, [.ref (ex 0), .int 0, .int 0, .int 0, .int 0, .int 0, .int 0, .ref (a 6), .ref (a 8), .ref (a 10), .ref (a 12), .ref (a 14), .ref (a 16), .ref (a 18), .ref (a 20)])) :: ((a 4), .inr (2, [.ref (ex 0), .int 0, .int 0, .int 0, .int 0, .int 0, .int 0, .ref (a 5), .ref (a 7), .ref (a 9), .ref (a 11), .ref (a 13), .ref (a 15), .ref (a 17), .ref (a 19)])) :: ((a 5), .inl (T 1, 9, .inl (fun _ => 0))) :: ((a 6), .inl (T 1, 9, .inl (fun _ => 0))) :: ((a 7), .inl (T 1, 9, .inl (fun _ => 0))) :: ((a 8), .inl (T 1, 9, .inl (fun _ => 0))) :: ((a 9), .inl (T 1, 9, .inl (fun _ => 0))) :: ((a 10), .inl (T 1, 9, .inl (fun _ => 0))) :: ((a 11), .inl (T 1, 9, .inl (fun _ => 0))) :: ((a 12), .inl (T 1, 9, .inl (fun _ => 0))) :: ((a 13), .inl (T 1, 9, .inl (fun _ => 0))) :: ((a 14), .inl (T 1, 9, .inl (fun _ => 0))) :: ((a 15), .inl (T 1, 9, .inl (fun _ => 0))) :: ((a 16), .inl (T 1, 9, .inl (fun _ => 0))) :: ((a 17), .inl (T 1, 9, .inl (fun _ => 0))) :: ((a 18), .inl (T 1, 9, .inl (fun _ => 0))) :: ((a 19), .inl (T 2, 200, .inr (.inl (fun _ => 0)))) :: ((a 20), .inl (T 2, 200, .inr (.inl (fun _ => 0)))) :: [])) hP hD [1, 2, 3, 4, 5, 6, 7, 8, 9, 10, 11, 12, 13, 14, 15, 16, 17, 18] [0, 19, 20] rfl rfl (by decide) (by decide) hk1 hFc hP1 hD1
  clear hPc hDc hFc hP1 hD1 hk1 hz1 hvm ht hw
  generalize H1 = H at hP hS ⊢
  replace hP : va_P D vwCl (((a 0), .inr (11, [.ref (a 2), .ref (ex 0), .ref (ex 1), .ref (ex 2), .ref (a 4), .ref (a 3), .ref (ex 3), .ref (a 1), .ref (ex 4), .ref (ex 5), .ref (ex 6), .ref (ex 7), .ref (ex 8), .ref (ex 9), .int 0])) :: ((a 1), .inr (4, [.ref (a 2), .ref (ex 0), .ref (ex 10), .ref (ex 11), .ref (ex 12), .int 0, .int 0, .int 0, .int 0, .int 0, .int 0])) :: ((a 2), .inr (6, [.ref (ex 13), .ref (ex 14), .int (vi 0), .int 0, .int 400, .int 0, .int 0, .int 0, .long 0, .int 0, .int 0, .int 0, .int 0, .int 0])) :: ((a 3), .inr (2, [.ref (ex 0), .int 0, .int 0, .int 0, .int 0, .int 0, .int 0, .ref (a 6), .ref (a 8), .ref (a 10), .ref (a 12), .ref (a 14), .ref (a 16), .ref (a 18), .ref (a 20)])) :: ((a 4), .inr (2, [.ref (ex 0), .int 0, .int 0, .int 0, .int 0, .int 0, .int 0, .ref (a 5), .ref (a 7), .ref (a 9), .ref (a 11), .ref (a 13), .ref (a 15), .ref (a 17), .ref (a 19)])) :: ((a 5), .inl (T 1, 9, .inl (fun _ => 0))) :: ((a 6), .inl (T 1, 9, .inl (fun _ => 0))) :: ((a 7), .inl (T 1, 9, .inl (fun _ => 0))) :: ((a 8), .inl (T 1, 9, .inl (fun _ => 0))) :: ((a 9), .inl (T 1, 9, .inl (fun _ => 0))) :: ((a 10), .inl (T 1, 9, .inl (fun _ => 0))) :: ((a 11), .inl (T 1, 9, .inl (fun _ => 0))) :: ((a 12), .inl (T 1, 9, .inl (fun _ => 0))) :: ((a 13), .inl (T 1, 9, .inl (fun _ => 0))) :: ((a 14), .inl (T 1, 9, .inl (fun _ => 0))) :: ((a 15), .inl (T 1, 9, .inl (fun _ => 0))) :: ((a 16), .inl (T 1, 9, .inl (fun _ => 0))) :: ((a 17), .inl (T 1, 9, .inl (fun _ => 0))) :: ((a 18), .inl (T 1, 9, .inl (fun _ => 0))) :: ((a 19), .inl (T 2, 200, .inr (.inl (fun _ => 0)))) :: ((a 20), .inl (T 2, 200, .inr (.inl (fun _ => 0)))) :: []) H := hP
  replace hD : va_D A (((a 0), .inr (11, [.ref (a 2), .ref (ex 0), .ref (ex 1), .ref (ex 2), .ref (a 4), .ref (a 3), .ref (ex 3), .ref (a 1), .ref (ex 4), .ref (ex 5), .ref (ex 6), .ref (ex 7), .ref (ex 8), .ref (ex 9), .int 0])) :: ((a 1), .inr (4, [.ref (a 2), .ref (ex 0), .ref (ex 10), .ref (ex 11), .ref (ex 12), .int 0, .int 0, .int 0, .int 0, .int 0, .int 0])) :: ((a 2), .inr (6, [.ref (ex 13), .ref (ex 14), .int (vi 0), .int 0, .int 400, .int 0, .int 0, .int 0, .long 0, .int 0, .int 0, .int 0, .int 0, .int 0])) :: ((a 3), .inr (2, [.ref (ex 0), .int 0, .int 0, .int 0, .int 0, .int 0, .int 0, .ref (a 6), .ref (a 8), .ref (a 10), .ref (a 12), .ref (a 14), .ref (a 16), .ref (a 18), .ref (a 20)])) :: ((a 4), .inr (2, [.ref (ex 0), .int 0, .int 0, .int 0, .int 0, .int 0, .int 0, .ref (a 5), .ref (a 7), .ref (a 9), .ref (a 11), .ref (a 13), .ref (a 15), .ref (a 17), .ref (a 19)])) :: ((a 5), .inl (T 1, 9, .inl (fun _ => 0))) :: ((a 6), .inl (T 1, 9, .inl (fun _ => 0))) :: ((a 7), .inl (T 1, 9, .inl (fun _ => 0))) :: ((a 8), .inl (T 1, 9, .inl (fun _ => 0))) :: ((a 9), .inl (T 1, 9, .inl (fun _ => 0))) :: ((a 10), .inl (T 1, 9, .inl (fun _ => 0))) :: ((a 11), .inl (T 1, 9, .inl (fun _ => 0))) :: ((a 12), .inl (T 1, 9, .inl (fun _ => 0))) :: ((a 13), .inl (T 1, 9, .inl (fun _ => 0))) :: ((a 14), .inl (T 1, 9, .inl (fun _ => 0))) :: ((a 15), .inl (T 1, 9, .inl (fun _ => 0))) :: ((a 16), .inl (T 1, 9, .inl (fun _ => 0))) :: ((a 17), .inl (T 1, 9, .inl (fun _ => 0))) :: ((a 18), .inl (T 1, 9, .inl (fun _ => 0))) :: ((a 19), .inl (T 2, 200, .inr (.inl (fun _ => 0)))) :: ((a 20), .inl (T 2, 200, .inr (.inl (fun _ => 0)))) :: []) := hD
  refine lv_aload_n hx hb dX11_roll_94 rfl (lv_at hl 1 rfl) ?_
  refine va_get (D := D) (ci := 11) (v := .ref (a 1)) (C := RX11) (T := TX11) (N := 15) hx hb htg inX11 hown hK.1 hP 0 rfl rfl 7 (by decide) (htg _ kw_503) (fun _ h9 => h9) rfl dX11_roll_95 ?_
  refine lv_aload_n hx hb dX11_roll_98 rfl (lv_at hl 1 rfl) ?_
  refine va_get (D := D) (ci := 11) (v := .ref (a 3)) (C := RX11) (T := TX11) (N := 15) hx hb htg inX11 hown hK.1 hP 0 rfl rfl 5 (by decide) (htg _ kw_501) (fun _ h9 => h9) rfl dX11_roll_99 ?_
  have hPc := hP.sub (ws' := (pre_X4_judge T (xa [(a 1), (a 3)]) (xa [(a 2), (ex 0), (ex 10), (ex 11), (ex 12), (a 6), (a 8), (a 10), (a 12), (a 14), (a 16), (a 18), (a 20)]) (xf []) (xh []) (xv []))) [1, 3] rfl
  have hDc := hD.sub (ws' := (pre_X4_judge T (xa [(a 1), (a 3)]) (xa [(a 2), (ex 0), (ex 10), (ex 11), (ex 12), (a 6), (a 8), (a 10), (a 12), (a 14), (a 16), (a 18), (a 20)]) (xf []) (xh []) (xv []))) [1, 3] (by decide) rfl
  have hFc := va_free (wc := (pre_X4_judge T (xa [(a 1), (a 3)]) (xa [(a 2), (ex 0), (ex 10), (ex 11), (ex 12), (a 6), (a 8), (a 10), (a 12), (a 14), (a 16), (a 18), (a 20)]) (xf []) (xh []) (xv []))) hD hS hA [1, 3] rfl
  refine va_calli (va_runVN (As := [.ref (a 3)]) (rest := []) ⟨hx, hb, hml, hown, htg⟩ (c_X4_judge l D T (xa [(a 1), (a 3)]) (xa [(a 2), (ex 0), (ex 10), (ex 11), (ex 12), (a 6), (a 8), (a 10), (a 12), (a 14), (a 16), (a 18), (a 20)]) (xf []) (xh []) (xv []) H.size) ⟨va_cnB 1 htg (xg_ok kw_1174) rfl rfl rfl (hK.2.1 _ kn_1171) (htg _ kw_11) (by decide +kernel) ⟨by rw [hR]; exact Nat.le_of_ble_eq_true rfl, by rw [hR]; exact Nat.le_of_ble_eq_true rfl⟩, htg _ kw_1173, htg _ ks_99⟩ (xpreV hK hPc hDc (va_recv hK.1 hPc (ci := 4) (q0 := 0) rfl rfl)) rfl rfl hl.1 rfl (lv_room (Nat.le_of_ble_eq_true rfl)) dX11_roll_102 ⟨by rw [hR]; exact Nat.le_of_ble_eq_true rfl, by rw [hR]; exact Nat.le_of_ble_eq_true rfl⟩) hS (fun q _ h => hFc q h) hFc (fun r9 u t H1 locs ht hvm hw hB hz1 hk1 hS => ?_)
  obtain ⟨bk_2, fik_2, flk_2, vik_2, hP1, hD1, hGk_2⟩ := hB
  rw [ht] at hP1
  obtain ⟨hP, hD⟩ := va_join (wr := (((a 0), .inr (11, [.ref (a 2), .ref (ex 0), .ref (ex 1), .ref (ex 2), .ref (a 4), .ref (a 3), .ref (ex 3), .ref (a 1), .ref (ex 4), .ref (ex 5), .ref (ex 6), .ref (ex 7), .ref (ex 8), .ref (ex 9), .int 0])) :: ((a 2), .inr (6, [.ref (ex 13), .ref (ex 14), .int (vi 0), .int 0, .int 400, .int 0, .int 0, .int 0, .long 0, .int 0, .int 0, .int 0, .int 0, .int 0])) :: ((a 4), .inr (2, [.ref (ex 0), .int 0, .int 0, .int 0, .int 0, .int 0, .int 0, .ref (a 5), .ref (a 7), .ref (a 9), .ref (a 11), .ref (a 13), .ref (a 15), .ref (a 17), .ref (a 19)])) :: ((a 5), .inl (T 1, 9, .inl (fun _ => 0))) :: ((a 6), .inl (T 1, 9, .inl (fun _ => 0))) :: ((a 7), .inl (T 1, 9, .inl (fun _ => 0))) :: ((a 8), .inl (T 1, 9, .inl (fun _ => 0))) :: ((a 9), .inl (T 1, 9, .inl (fun _ => 0))) :: ((a 10), .inl (T 1, 9, .inl (fun _ => 0))) :: ((a 11), .inl (T 1, 9, .inl (fun _ => 0))) :: ((a 12), .inl (T 1, 9, .inl (fun _ => 0))) :: ((a 13), .inl (T 1, 9, .inl (fun _ => 0))) :: ((a 14), .inl (T 1, 9, .inl (fun _ => 0))) :: ((a 15), .inl (T 1, 9, .inl (fun _ => 0))) :: ((a 16), .inl (T 1, 9, .inl (fun _ => 0))) :: ((a 17), .inl (T 1, 9, .inl (fun _ => 0))) :: ((a 18), .inl (T 1, 9, .inl (fun _ => 0))) :: ((a 19), .inl (T 2, 200, .inr (.inl (fun _ => 0)))) :: ((a 20), .inl (T 2, 200, .inr (.inl (fun _ => 0)))) :: [])) (w1 := [((a 1), .inr (4, [.ref (a 2), .ref (ex 0), .ref (ex 10), .ref (ex 11), .ref (ex 12), .int 0, .int 1, .int 0, .int 0, .int 0, .int 0])), ((a 3), .inr (2, [.ref (ex 0), .int 0, .int 0, .int 0, .int 0, .int 0, .int 0, .ref (a 6), .ref (a 8), .ref (a 10), .ref (a 12), .ref (a 14), .ref (a 16), .ref (a 18), .ref (a 20)]))]) hP hD [1, 3] [0, 2, 4, 5, 6, 7, 8, 9, 10, 11, 12, 13, 14, 15, 16, 17, 18, 19, 20] rfl rfl (by decide) (by decide) hk1 hFc hP1 hD1
  subst hw
  clear hPc hDc hFc hP1 hD1 hk1 hz1 hvm ht
  generalize H1 = H at hP hS ⊢
  replace hP : va_P D vwCl (((a 0), .inr (11, [.ref (a 2), .ref (ex 0), .ref (ex 1), .ref (ex 2), .ref (a 4), .ref (a 3), .ref (ex 3), .ref (a 1), .ref (ex 4), .ref (ex 5), .ref (ex 6), .ref (ex 7), .ref (ex 8), .ref (ex 9), .int 0])) :: ((a 2), .inr (6, [.ref (ex 13), .ref (ex 14), .int (vi 0), .int 0, .int 400, .int 0, .int 0, .int 0, .long 0, .int 0, .int 0, .int 0, .int 0, .int 0])) :: ((a 4), .inr (2, [.ref (ex 0), .int 0, .int 0, .int 0, .int 0, .int 0, .int 0, .ref (a 5), .ref (a 7), .ref (a 9), .ref (a 11), .ref (a 13), .ref (a 15), .ref (a 17), .ref (a 19)])) :: ((a 5), .inl (T 1, 9, .inl (fun _ => 0))) :: ((a 6), .inl (T 1, 9, .inl (fun _ => 0))) :: ((a 7), .inl (T 1, 9, .inl (fun _ => 0))) :: ((a 8), .inl (T 1, 9, .inl (fun _ => 0))) :: ((a 9), .inl (T 1, 9, .inl (fun _ => 0))) :: ((a 10), .inl (T 1, 9, .inl (fun _ => 0))) :: ((a 11), .inl (T 1, 9, .inl (fun _ => 0))) :: ((a 12), .inl (T 1, 9, .inl (fun _ => 0))) :: ((a 13), .inl (T 1, 9, .inl (fun _ => 0))) :: ((a 14), .inl (T 1, 9, .inl (fun _ => 0))) :: ((a 15), .inl (T 1, 9, .inl (fun _ => 0))) :: ((a 16), .inl (T 1, 9, .inl (fun _ => 0))) :: ((a 17), .inl (T 1, 9, .inl (fun _ => 0))) :: ((a 18), .inl (T 1, 9, .inl (fun _ => 0))) :: ((a 19), .inl (T 2, 200, .inr (.inl (fun _ => 0)))) :: ((a 20), .inl (T 2, 200, .inr (.inl (fun _ => 0)))) :: ((a 1), .inr (4, [.ref (a 2), .ref (ex 0), .ref (ex 10), .ref (ex 11), .ref (ex 12), .int 0, .int 1, .int 0, .int 0, .int 0, .int 0])) :: ((a 3), .inr (2, [.ref (ex 0), .int 0, .int 0, .int 0, .int 0, .int 0, .int 0, .ref (a 6), .ref (a 8), .ref (a 10), .ref (a 12), .ref (a 14), .ref (a 16), .ref (a 18), .ref (a 20)])) :: []) H := hP
  replace hD : va_D A (((a 0), .inr (11, [.ref (a 2), .ref (ex 0), .ref (ex 1), .ref (ex 2), .ref (a 4), .ref (a 3), .ref (ex 3), .ref (a 1), .ref (ex 4), .ref (ex 5), .ref (ex 6), .ref (ex 7), .ref (ex 8), .ref (ex 9), .int 0])) :: ((a 2), .inr (6, [.ref (ex 13), .ref (ex 14), .int (vi 0), .int 0, .int 400, .int 0, .int 0, .int 0, .long 0, .int 0, .int 0, .int 0, .int 0, .int 0])) :: ((a 4), .inr (2, [.ref (ex 0), .int 0, .int 0, .int 0, .int 0, .int 0, .int 0, .ref (a 5), .ref (a 7), .ref (a 9), .ref (a 11), .ref (a 13), .ref (a 15), .ref (a 17), .ref (a 19)])) :: ((a 5), .inl (T 1, 9, .inl (fun _ => 0))) :: ((a 6), .inl (T 1, 9, .inl (fun _ => 0))) :: ((a 7), .inl (T 1, 9, .inl (fun _ => 0))) :: ((a 8), .inl (T 1, 9, .inl (fun _ => 0))) :: ((a 9), .inl (T 1, 9, .inl (fun _ => 0))) :: ((a 10), .inl (T 1, 9, .inl (fun _ => 0))) :: ((a 11), .inl (T 1, 9, .inl (fun _ => 0))) :: ((a 12), .inl (T 1, 9, .inl (fun _ => 0))) :: ((a 13), .inl (T 1, 9, .inl (fun _ => 0))) :: ((a 14), .inl (T 1, 9, .inl (fun _ => 0))) :: ((a 15), .inl (T 1, 9, .inl (fun _ => 0))) :: ((a 16), .inl (T 1, 9, .inl (fun _ => 0))) :: ((a 17), .inl (T 1, 9, .inl (fun _ => 0))) :: ((a 18), .inl (T 1, 9, .inl (fun _ => 0))) :: ((a 19), .inl (T 2, 200, .inr (.inl (fun _ => 0)))) :: ((a 20), .inl (T 2, 200, .inr (.inl (fun _ => 0)))) :: ((a 1), .inr (4, [.ref (a 2), .ref (ex 0), .ref (ex 10), .ref (ex 11), .ref (ex 12), .int 0, .int 1, .int 0, .int 0, .int 0, .int 0])) :: ((a 3), .inr (2, [.ref (ex 0), .int 0, .int 0, .int 0, .int 0, .int 0, .int 0, .ref (a 6), .ref (a 8), .ref (a 10), .ref (a 12), .ref (a 14), .ref (a 16), .ref (a 18), .ref (a 20)])) :: []) := hD
  have hP9 := hP.sub (ws' := []) [] rfl
  have hD9 := hD.sub (ws' := []) [] (by decide) rfl
  rw [hQ]
  exact W.iret (v := (-1)) hx hb hr (fun t ht hW => ⟨⟨(-1), (), rfl, rfl, ⟨xa [], xf [], xh [], xv [], by rw [ht]; exact hP9, hD9, trivial⟩⟩, hS.F ht⟩) hS.2.2 dX11_roll_105
abbrev pre_X11_roll_2 (T : Nat → ClassId) (a ex : Nat → Nat) (fi : Nat → Nat → Int32) (fl : Nat → Nat → Int64) (vi : Nat → Int32) : va_W := (((a 0), .inr (11, [.ref (a 2), .ref (ex 0), .ref (ex 1), .ref (ex 2), .ref (a 6), .ref (ex 3), .ref (a 3), .ref (a 1), .ref (ex 4), .ref (ex 5), .ref (ex 6), .ref (ex 7), .ref (ex 8), .ref (ex 9), .int 0])) :: ((a 1), .inr (4, [.ref (a 2), .ref (ex 0), .ref (ex 10), .ref (ex 11), .ref (ex 12), .int 0, .int 0, .int 0, .int 0, .int 0, .int 0])) :: ((a 2), .inr (6, [.ref (ex 13), .ref (ex 14), .int (vi 0), .int 0, .int 0, .int 0, .int 0, .int 0, .long 0, .int 0, .int 0, .int 0, .int 0, .int 0])) :: ((a 3), .inr (9, [.ref (a 4), .int 0, .int 0])) :: ((a 4), .inl (T 5, 4, .inr (.inr (.inr (.inr (xo [some (a 5), some (ex 15), some (ex 16), some (ex 17)])))))) :: ((a 5), .inr (2, [.ref (ex 0), .int 0, .int 0, .int 0, .int 0, .int 0, .int 0, .ref (a 8), .ref (a 10), .ref (a 12), .ref (a 14), .ref (a 16), .ref (a 18), .ref (a 20), .ref (a 22)])) :: ((a 6), .inr (2, [.ref (ex 0), .int 0, .int 0, .int 0, .int 0, .int 0, .int 0, .ref (a 7), .ref (a 9), .ref (a 11), .ref (a 13), .ref (a 15), .ref (a 17), .ref (a 19), .ref (a 21)])) :: ((a 7), .inl (T 1, 9, .inl (fun _ => 0))) :: ((a 8), .inl (T 1, 9, .inl (fun _ => 0))) :: ((a 9), .inl (T 1, 9, .inl (fun _ => 0))) :: ((a 10), .inl (T 1, 9, .inl (fun _ => 0))) :: ((a 11), .inl (T 1, 9, .inl (fun _ => 0))) :: ((a 12), .inl (T 1, 9, .inl (fun _ => 0))) :: ((a 13), .inl (T 1, 9, .inl (fun _ => 0))) :: ((a 14), .inl (T 1, 9, .inl (fun _ => 0))) :: ((a 15), .inl (T 1, 9, .inl (fun _ => 0))) :: ((a 16), .inl (T 1, 9, .inl (fun _ => 0))) :: ((a 17), .inl (T 1, 9, .inl (fun _ => 0))) :: ((a 18), .inl (T 1, 9, .inl (fun _ => 0))) :: ((a 19), .inl (T 1, 9, .inl (fun _ => 0))) :: ((a 20), .inl (T 1, 9, .inl (fun _ => 0))) :: ((a 21), .inl (T 2, 200, .inr (.inl (fun _ => 0)))) :: ((a 22), .inl (T 2, 200, .inr (.inl (fun _ => 0)))) :: [])
set_option maxHeartbeats 4000000 in
set_option maxRecDepth 100000 in
theorem c_X11_roll_2 (l : Launch) (D : va_G) (T : Nat → ClassId) (a ex : Nat → Nat) (fi : Nat → Nat → Int32) (fl : Nat → Nat → Int64) (vi : Nat → Int32) (sz : Nat) : Met l yX11_roll (xw yX11_roll cX11_roll 3 (some .int)) ({ frames := 4, cells := 0, slots := 0, locals := 195 }) (xP D T [.ref (a 0), .int 1] sz (pre_X11_roll_2 T a ex fi fl vi)) (va_Qi (fun r (_ : Unit) => r = (-1)) (xB D (va_A (pre_X11_roll_2 T a ex fi fl vi) sz) (fun _ => True) (fun b fj fm vj => [])) (va_A (pre_X11_roll_2 T a ex fi fl vi) sz)) 0 0 (va_A (pre_X11_roll_2 T a ex fi fl vi) sz) := by
  refine xofW (cc := cX11_roll) (maxL := 3) (ret := (some .int)) (by decide) rfl ?_
  intro p e s m args below meth c s₁ R Q hR hQ B hml hv
  obtain ⟨rfl, hsz, hP, hK, hD0⟩ := hv
  have hx := B.exec
  have hb := B.bytes
  have hr := B.returns
  have hts := atoms_spec (ws := xw yX11_roll cX11_roll 3 (some .int)) B.pre
  have htg : ∀ w ∈ xg, w.before _ s = true := fun w h => hts w (List.mem_cons_of_mem _ h)
  have hown : s.vm.findClass RX11 = some m.cls := findClass_of_methodNamed B.named
  have hlocks := B.notSynchronized
  subst hsz
  have hD := hD0.self (sz := s.heap.size)
  generalize hAe : va_A (pre_X11_roll_2 T a ex fi fl vi) s.heap.size = A at hD hQ
  have hA : ∀ q : Nat, s.heap.size ≤ q → A q := fun q h => by rw [← hAe]; exact Or.inr h
  have hS : va_S A s.heap s.heap [] := va_S.rf
  replace hP : va_P D vwCl (((a 0), .inr (11, [.ref (a 2), .ref (ex 0), .ref (ex 1), .ref (ex 2), .ref (a 6), .ref (ex 3), .ref (a 3), .ref (a 1), .ref (ex 4), .ref (ex 5), .ref (ex 6), .ref (ex 7), .ref (ex 8), .ref (ex 9), .int 0])) :: ((a 1), .inr (4, [.ref (a 2), .ref (ex 0), .ref (ex 10), .ref (ex 11), .ref (ex 12), .int 0, .int 0, .int 0, .int 0, .int 0, .int 0])) :: ((a 2), .inr (6, [.ref (ex 13), .ref (ex 14), .int (vi 0), .int 0, .int 0, .int 0, .int 0, .int 0, .long 0, .int 0, .int 0, .int 0, .int 0, .int 0])) :: ((a 3), .inr (9, [.ref (a 4), .int 0, .int 0])) :: ((a 4), .inl (T 5, 4, .inr (.inr (.inr (.inr (xo [some (a 5), some (ex 15), some (ex 16), some (ex 17)])))))) :: ((a 5), .inr (2, [.ref (ex 0), .int 0, .int 0, .int 0, .int 0, .int 0, .int 0, .ref (a 8), .ref (a 10), .ref (a 12), .ref (a 14), .ref (a 16), .ref (a 18), .ref (a 20), .ref (a 22)])) :: ((a 6), .inr (2, [.ref (ex 0), .int 0, .int 0, .int 0, .int 0, .int 0, .int 0, .ref (a 7), .ref (a 9), .ref (a 11), .ref (a 13), .ref (a 15), .ref (a 17), .ref (a 19), .ref (a 21)])) :: ((a 7), .inl (T 1, 9, .inl (fun _ => 0))) :: ((a 8), .inl (T 1, 9, .inl (fun _ => 0))) :: ((a 9), .inl (T 1, 9, .inl (fun _ => 0))) :: ((a 10), .inl (T 1, 9, .inl (fun _ => 0))) :: ((a 11), .inl (T 1, 9, .inl (fun _ => 0))) :: ((a 12), .inl (T 1, 9, .inl (fun _ => 0))) :: ((a 13), .inl (T 1, 9, .inl (fun _ => 0))) :: ((a 14), .inl (T 1, 9, .inl (fun _ => 0))) :: ((a 15), .inl (T 1, 9, .inl (fun _ => 0))) :: ((a 16), .inl (T 1, 9, .inl (fun _ => 0))) :: ((a 17), .inl (T 1, 9, .inl (fun _ => 0))) :: ((a 18), .inl (T 1, 9, .inl (fun _ => 0))) :: ((a 19), .inl (T 1, 9, .inl (fun _ => 0))) :: ((a 20), .inl (T 1, 9, .inl (fun _ => 0))) :: ((a 21), .inl (T 2, 200, .inr (.inl (fun _ => 0)))) :: ((a 22), .inl (T 2, 200, .inr (.inl (fun _ => 0)))) :: []) s.heap := hP
  replace hD : va_D A (((a 0), .inr (11, [.ref (a 2), .ref (ex 0), .ref (ex 1), .ref (ex 2), .ref (a 6), .ref (ex 3), .ref (a 3), .ref (a 1), .ref (ex 4), .ref (ex 5), .ref (ex 6), .ref (ex 7), .ref (ex 8), .ref (ex 9), .int 0])) :: ((a 1), .inr (4, [.ref (a 2), .ref (ex 0), .ref (ex 10), .ref (ex 11), .ref (ex 12), .int 0, .int 0, .int 0, .int 0, .int 0, .int 0])) :: ((a 2), .inr (6, [.ref (ex 13), .ref (ex 14), .int (vi 0), .int 0, .int 0, .int 0, .int 0, .int 0, .long 0, .int 0, .int 0, .int 0, .int 0, .int 0])) :: ((a 3), .inr (9, [.ref (a 4), .int 0, .int 0])) :: ((a 4), .inl (T 5, 4, .inr (.inr (.inr (.inr (xo [some (a 5), some (ex 15), some (ex 16), some (ex 17)])))))) :: ((a 5), .inr (2, [.ref (ex 0), .int 0, .int 0, .int 0, .int 0, .int 0, .int 0, .ref (a 8), .ref (a 10), .ref (a 12), .ref (a 14), .ref (a 16), .ref (a 18), .ref (a 20), .ref (a 22)])) :: ((a 6), .inr (2, [.ref (ex 0), .int 0, .int 0, .int 0, .int 0, .int 0, .int 0, .ref (a 7), .ref (a 9), .ref (a 11), .ref (a 13), .ref (a 15), .ref (a 17), .ref (a 19), .ref (a 21)])) :: ((a 7), .inl (T 1, 9, .inl (fun _ => 0))) :: ((a 8), .inl (T 1, 9, .inl (fun _ => 0))) :: ((a 9), .inl (T 1, 9, .inl (fun _ => 0))) :: ((a 10), .inl (T 1, 9, .inl (fun _ => 0))) :: ((a 11), .inl (T 1, 9, .inl (fun _ => 0))) :: ((a 12), .inl (T 1, 9, .inl (fun _ => 0))) :: ((a 13), .inl (T 1, 9, .inl (fun _ => 0))) :: ((a 14), .inl (T 1, 9, .inl (fun _ => 0))) :: ((a 15), .inl (T 1, 9, .inl (fun _ => 0))) :: ((a 16), .inl (T 1, 9, .inl (fun _ => 0))) :: ((a 17), .inl (T 1, 9, .inl (fun _ => 0))) :: ((a 18), .inl (T 1, 9, .inl (fun _ => 0))) :: ((a 19), .inl (T 1, 9, .inl (fun _ => 0))) :: ((a 20), .inl (T 1, 9, .inl (fun _ => 0))) :: ((a 21), .inl (T 2, 200, .inr (.inl (fun _ => 0)))) :: ((a 22), .inl (T 2, 200, .inr (.inl (fun _ => 0)))) :: []) := hD
  have hl := lv_entry ([.ref (a 0), .int 1]) (n := 3) (Nat.le_of_ble_eq_true rfl)
  rw [lg_entry_eq]
  generalize (lg_sl ([.ref (a 0), .int 1]) ++ List.replicate (3 - (lg_sl ([.ref (a 0), .int 1])).length) Slot.unset).toArray = ls at hl ⊢
  replace hl : lv_has ls 3 [(0, .ref (a 0)), (1, .int 1)] := hl
  refine lv_iload_n hx hb dX11_roll_0 rfl (lv_at hl 1 rfl) ?_
  refine lv_if_lt (tgt := 9) hx hb dX11_roll_1 (by decide) (fun c => absurd c (by decide)) (fun _ => ?_)
  refine lv_iload_n hx hb dX11_roll_4 rfl (lv_at hl 1 rfl) ?_
  refine lv_iconst (v := 1) hx hb dX11_roll_5 (by decide) ?_
  refine lv_icmp_le (tgt := 13) hx hb dX11_roll_6 (by decide) (fun _ => ?_) (fun c => absurd (by decide) c)
  refine lv_aload_n hx hb dX11_roll_13 rfl (lv_at hl 0 rfl) ?_
  refine va_get (D := D) (ci := 11) (v := .ref (a 1)) (C := RX11) (T := TX11) (N := 15) hx hb htg inX11 hown hK.1 hP 0 rfl rfl 7 (by decide) (htg _ kw_503) (fun _ h9 => h9) rfl dX11_roll_14 ?_
  have hPc := hP.sub (ws' := (pre_X4_read T (xa [(a 1), (a 2)]) (xa [(ex 0), (ex 10), (ex 11), (ex 12), (ex 13), (ex 14)]) (xf []) (xh []) (xv [(vi 0)]))) [1, 2] rfl
  have hDc := hD.sub (ws' := (pre_X4_read T (xa [(a 1), (a 2)]) (xa [(ex 0), (ex 10), (ex 11), (ex 12), (ex 13), (ex 14)]) (xf []) (xh []) (xv [(vi 0)]))) [1, 2] (by decide) rfl
  have hFc := va_free (wc := (pre_X4_read T (xa [(a 1), (a 2)]) (xa [(ex 0), (ex 10), (ex 11), (ex 12), (ex 13), (ex 14)]) (xf []) (xh []) (xv [(vi 0)]))) hD hS hA [1, 2] rfl
  refine va_calli (va_runVN (As := []) (rest := []) ⟨hx, hb, hml, hown, htg⟩ (c_X4_read l D T (xa [(a 1), (a 2)]) (xa [(ex 0), (ex 10), (ex 11), (ex 12), (ex 13), (ex 14)]) (xf []) (xh []) (xv [(vi 0)]) s.heap.size) ⟨va_cnB 0 htg (xg_ok kw_1140) rfl rfl rfl (hK.2.1 _ kn_1137) (htg _ kw_11) (by decide +kernel) ⟨by rw [hR]; exact Nat.le_of_ble_eq_true rfl, by rw [hR]; exact Nat.le_of_ble_eq_true rfl⟩, htg _ kw_1139, htg _ ks_95⟩ (xpreV hK hPc hDc (va_recv hK.1 hPc (ci := 4) (q0 := 0) rfl rfl)) rfl rfl hl.1 rfl (lv_room (Nat.le_of_ble_eq_true rfl)) dX11_roll_17 ⟨by rw [hR]; exact Nat.le_of_ble_eq_true rfl, by rw [hR]; exact Nat.le_of_ble_eq_true rfl⟩) hS (fun q _ h => hFc q h) hFc (fun r9 u t H1 locs ht hvm hw hB hz1 hk1 hS => ?_)
  obtain ⟨bk, fik, flk, vik, hP1, hD1, hGk⟩ := hB
  rw [ht] at hP1
  obtain ⟨hP, hD⟩ := va_join (wr := (((a 0), .inr (11, [.ref (a 2), .ref (ex 0), .ref (ex 1), .ref (ex 2), .ref (a 6), .ref (ex 3), .ref (a 3), .ref (a 1), .ref (ex 4), .ref (ex 5), .ref (ex 6), .ref (ex 7), .ref (ex 8), .ref (ex 9), .int 0])) :: ((a 3), .inr (9, [.ref (a 4), .int 0, .int 0])) :: ((a 4), .inl (T 5, 4, .inr (.inr (.inr (.inr (xo [some (a 5), some (ex 15), some (ex 16), some (ex 17)])))))) :: ((a 5), .inr (2, [.ref (ex 0), .int 0, .int 0, .int 0, .int 0, .int 0, .int 0, .ref (a 8), .ref (a 10), .ref (a 12), .ref (a 14), .ref (a 16), .ref (a 18), .ref (a 20), .ref (a 22)])) :: ((a 6), .inr (2, [.ref (ex 0), .int 0, .int 0, .int 0, .int 0, .int 0, .int 0, .ref (a 7), .ref (a 9), .ref (a 11), .ref (a 13), .ref (a 15), .ref (a 17), .ref (a 19), .ref (a 21)])) :: ((a 7), .inl (T 1, 9, .inl (fun _ => 0))) :: ((a 8), .inl (T 1, 9, .inl (fun _ => 0))) :: ((a 9), .inl (T 1, 9, .inl (fun _ => 0))) :: ((a 10), .inl (T 1, 9, .inl (fun _ => 0))) :: ((a 11), .inl (T 1, 9, .inl (fun _ => 0))) :: ((a 12), .inl (T 1, 9, .inl (fun _ => 0))) :: ((a 13), .inl (T 1, 9, .inl (fun _ => 0))) :: ((a 14), .inl (T 1, 9, .inl (fun _ => 0))) :: ((a 15), .inl (T 1, 9, .inl (fun _ => 0))) :: ((a 16), .inl (T 1, 9, .inl (fun _ => 0))) :: ((a 17), .inl (T 1, 9, .inl (fun _ => 0))) :: ((a 18), .inl (T 1, 9, .inl (fun _ => 0))) :: ((a 19), .inl (T 1, 9, .inl (fun _ => 0))) :: ((a 20), .inl (T 1, 9, .inl (fun _ => 0))) :: ((a 21), .inl (T 2, 200, .inr (.inl (fun _ => 0)))) :: ((a 22), .inl (T 2, 200, .inr (.inl (fun _ => 0)))) :: [])) (w1 := [((a 1), .inr (4, [.ref (a 2), .ref (ex 0), .ref (ex 10), .ref (ex 11), .ref (ex 12), .int 0, .int 0, .int 0, .int 0, .int 0, .int 0])), ((a 2), .inr (6, [.ref (ex 13), .ref (ex 14), .int (vi 0), .int 0, .int 400, .int 0, .int 0, .int 0, .long 0, .int 0, .int 0, .int 0, .int 0, .int 0]))]) hP hD [1, 2] [0, 3, 4, 5, 6, 7, 8, 9, 10, 11, 12, 13, 14, 15, 16, 17, 18, 19, 20, 21, 22] rfl rfl (by decide) (by decide) hk1 hFc hP1 hD1
  subst hw
  clear hPc hDc hFc hP1 hD1 hk1 hz1 hvm ht
  generalize H1 = H at hP hS ⊢
  replace hP : va_P D vwCl (((a 0), .inr (11, [.ref (a 2), .ref (ex 0), .ref (ex 1), .ref (ex 2), .ref (a 6), .ref (ex 3), .ref (a 3), .ref (a 1), .ref (ex 4), .ref (ex 5), .ref (ex 6), .ref (ex 7), .ref (ex 8), .ref (ex 9), .int 0])) :: ((a 3), .inr (9, [.ref (a 4), .int 0, .int 0])) :: ((a 4), .inl (T 5, 4, .inr (.inr (.inr (.inr (xo [some (a 5), some (ex 15), some (ex 16), some (ex 17)])))))) :: ((a 5), .inr (2, [.ref (ex 0), .int 0, .int 0, .int 0, .int 0, .int 0, .int 0, .ref (a 8), .ref (a 10), .ref (a 12), .ref (a 14), .ref (a 16), .ref (a 18), .ref (a 20), .ref (a 22)])) :: ((a 6), .inr (2, [.ref (ex 0), .int 0, .int 0, .int 0, .int 0, .int 0, .int 0, .ref (a 7), .ref (a 9), .ref (a 11), .ref (a 13), .ref (a 15), .ref (a 17), .ref (a 19), .ref (a 21)])) :: ((a 7), .inl (T 1, 9, .inl (fun _ => 0))) :: ((a 8), .inl (T 1, 9, .inl (fun _ => 0))) :: ((a 9), .inl (T 1, 9, .inl (fun _ => 0))) :: ((a 10), .inl (T 1, 9, .inl (fun _ => 0))) :: ((a 11), .inl (T 1, 9, .inl (fun _ => 0))) :: ((a 12), .inl (T 1, 9, .inl (fun _ => 0))) :: ((a 13), .inl (T 1, 9, .inl (fun _ => 0))) :: ((a 14), .inl (T 1, 9, .inl (fun _ => 0))) :: ((a 15), .inl (T 1, 9, .inl (fun _ => 0))) :: ((a 16), .inl (T 1, 9, .inl (fun _ => 0))) :: ((a 17), .inl (T 1, 9, .inl (fun _ => 0))) :: ((a 18), .inl (T 1, 9, .inl (fun _ => 0))) :: ((a 19), .inl (T 1, 9, .inl (fun _ => 0))) :: ((a 20), .inl (T 1, 9, .inl (fun _ => 0))) :: ((a 21), .inl (T 2, 200, .inr (.inl (fun _ => 0)))) :: ((a 22), .inl (T 2, 200, .inr (.inl (fun _ => 0)))) :: ((a 1), .inr (4, [.ref (a 2), .ref (ex 0), .ref (ex 10), .ref (ex 11), .ref (ex 12), .int 0, .int 0, .int 0, .int 0, .int 0, .int 0])) :: ((a 2), .inr (6, [.ref (ex 13), .ref (ex 14), .int (vi 0), .int 0, .int 400, .int 0, .int 0, .int 0, .long 0, .int 0, .int 0, .int 0, .int 0, .int 0])) :: []) H := hP
  replace hD : va_D A (((a 0), .inr (11, [.ref (a 2), .ref (ex 0), .ref (ex 1), .ref (ex 2), .ref (a 6), .ref (ex 3), .ref (a 3), .ref (a 1), .ref (ex 4), .ref (ex 5), .ref (ex 6), .ref (ex 7), .ref (ex 8), .ref (ex 9), .int 0])) :: ((a 3), .inr (9, [.ref (a 4), .int 0, .int 0])) :: ((a 4), .inl (T 5, 4, .inr (.inr (.inr (.inr (xo [some (a 5), some (ex 15), some (ex 16), some (ex 17)])))))) :: ((a 5), .inr (2, [.ref (ex 0), .int 0, .int 0, .int 0, .int 0, .int 0, .int 0, .ref (a 8), .ref (a 10), .ref (a 12), .ref (a 14), .ref (a 16), .ref (a 18), .ref (a 20), .ref (a 22)])) :: ((a 6), .inr (2, [.ref (ex 0), .int 0, .int 0, .int 0, .int 0, .int 0, .int 0, .ref (a 7), .ref (a 9), .ref (a 11), .ref (a 13), .ref (a 15), .ref (a 17), .ref (a 19), .ref (a 21)])) :: ((a 7), .inl (T 1, 9, .inl (fun _ => 0))) :: ((a 8), .inl (T 1, 9, .inl (fun _ => 0))) :: ((a 9), .inl (T 1, 9, .inl (fun _ => 0))) :: ((a 10), .inl (T 1, 9, .inl (fun _ => 0))) :: ((a 11), .inl (T 1, 9, .inl (fun _ => 0))) :: ((a 12), .inl (T 1, 9, .inl (fun _ => 0))) :: ((a 13), .inl (T 1, 9, .inl (fun _ => 0))) :: ((a 14), .inl (T 1, 9, .inl (fun _ => 0))) :: ((a 15), .inl (T 1, 9, .inl (fun _ => 0))) :: ((a 16), .inl (T 1, 9, .inl (fun _ => 0))) :: ((a 17), .inl (T 1, 9, .inl (fun _ => 0))) :: ((a 18), .inl (T 1, 9, .inl (fun _ => 0))) :: ((a 19), .inl (T 1, 9, .inl (fun _ => 0))) :: ((a 20), .inl (T 1, 9, .inl (fun _ => 0))) :: ((a 21), .inl (T 2, 200, .inr (.inl (fun _ => 0)))) :: ((a 22), .inl (T 2, 200, .inr (.inl (fun _ => 0)))) :: ((a 1), .inr (4, [.ref (a 2), .ref (ex 0), .ref (ex 10), .ref (ex 11), .ref (ex 12), .int 0, .int 0, .int 0, .int 0, .int 0, .int 0])) :: ((a 2), .inr (6, [.ref (ex 13), .ref (ex 14), .int (vi 0), .int 0, .int 400, .int 0, .int 0, .int 0, .long 0, .int 0, .int 0, .int 0, .int 0, .int 0])) :: []) := hD
  refine lv_istore_n (lv' := [(2, .int 1), (0, .ref (a 0)), (1, .int 1)]) hx hb dX11_roll_20 rfl hl (by decide) rfl (fun ls hl => ?_)
  refine lv_aload_n hx hb dX11_roll_21 rfl (lv_at hl 1 rfl) ?_
  refine va_get (D := D) (ci := 11) (v := .ref (a 2)) (C := RX11) (T := TX11) (N := 15) hx hb htg inX11 hown hK.1 hP 0 rfl rfl 0 (by decide) (htg _ kw_496) (fun _ h9 => h9) rfl dX11_roll_22 ?_
  refine lv_iconst (v := 0) hx hb dX11_roll_25 (by decide) ?_
  refine va_putN (D := D) (ci := 6) (v := .int 0) (ty := .int) (C := RX6) (T := TX6) (N := 14) hx hb htg inX6 tyX6 tyX6_ok nmX6 hown hK.1 hP hD hS 22 rfl rfl 3 (by decide) (va_Nw.use rfl (hK.2.1 _ kn_97)) (fun _ h9 => h9) rfl (by decide +kernel) rfl rfl (Nat.le_of_ble_eq_true rfl) dX11_roll_26 (fun H locs hP hD hS => ?_)
  replace hP : va_P D vwCl (((a 0), .inr (11, [.ref (a 2), .ref (ex 0), .ref (ex 1), .ref (ex 2), .ref (a 6), .ref (ex 3), .ref (a 3), .ref (a 1), .ref (ex 4), .ref (ex 5), .ref (ex 6), .ref (ex 7), .ref (ex 8), .ref (ex 9), .int 0])) :: ((a 3), .inr (9, [.ref (a 4), .int 0, .int 0])) :: ((a 4), .inl (T 5, 4, .inr (.inr (.inr (.inr (xo [some (a 5), some (ex 15), some (ex 16), some (ex 17)])))))) :: ((a 5), .inr (2, [.ref (ex 0), .int 0, .int 0, .int 0, .int 0, .int 0, .int 0, .ref (a 8), .ref (a 10), .ref (a 12), .ref (a 14), .ref (a 16), .ref (a 18), .ref (a 20), .ref (a 22)])) :: ((a 6), .inr (2, [.ref (ex 0), .int 0, .int 0, .int 0, .int 0, .int 0, .int 0, .ref (a 7), .ref (a 9), .ref (a 11), .ref (a 13), .ref (a 15), .ref (a 17), .ref (a 19), .ref (a 21)])) :: ((a 7), .inl (T 1, 9, .inl (fun _ => 0))) :: ((a 8), .inl (T 1, 9, .inl (fun _ => 0))) :: ((a 9), .inl (T 1, 9, .inl (fun _ => 0))) :: ((a 10), .inl (T 1, 9, .inl (fun _ => 0))) :: ((a 11), .inl (T 1, 9, .inl (fun _ => 0))) :: ((a 12), .inl (T 1, 9, .inl (fun _ => 0))) :: ((a 13), .inl (T 1, 9, .inl (fun _ => 0))) :: ((a 14), .inl (T 1, 9, .inl (fun _ => 0))) :: ((a 15), .inl (T 1, 9, .inl (fun _ => 0))) :: ((a 16), .inl (T 1, 9, .inl (fun _ => 0))) :: ((a 17), .inl (T 1, 9, .inl (fun _ => 0))) :: ((a 18), .inl (T 1, 9, .inl (fun _ => 0))) :: ((a 19), .inl (T 1, 9, .inl (fun _ => 0))) :: ((a 20), .inl (T 1, 9, .inl (fun _ => 0))) :: ((a 21), .inl (T 2, 200, .inr (.inl (fun _ => 0)))) :: ((a 22), .inl (T 2, 200, .inr (.inl (fun _ => 0)))) :: ((a 1), .inr (4, [.ref (a 2), .ref (ex 0), .ref (ex 10), .ref (ex 11), .ref (ex 12), .int 0, .int 0, .int 0, .int 0, .int 0, .int 0])) :: ((a 2), .inr (6, [.ref (ex 13), .ref (ex 14), .int (vi 0), .int 0, .int 400, .int 0, .int 0, .int 0, .long 0, .int 0, .int 0, .int 0, .int 0, .int 0])) :: []) H := hP
  replace hD : va_D A (((a 0), .inr (11, [.ref (a 2), .ref (ex 0), .ref (ex 1), .ref (ex 2), .ref (a 6), .ref (ex 3), .ref (a 3), .ref (a 1), .ref (ex 4), .ref (ex 5), .ref (ex 6), .ref (ex 7), .ref (ex 8), .ref (ex 9), .int 0])) :: ((a 3), .inr (9, [.ref (a 4), .int 0, .int 0])) :: ((a 4), .inl (T 5, 4, .inr (.inr (.inr (.inr (xo [some (a 5), some (ex 15), some (ex 16), some (ex 17)])))))) :: ((a 5), .inr (2, [.ref (ex 0), .int 0, .int 0, .int 0, .int 0, .int 0, .int 0, .ref (a 8), .ref (a 10), .ref (a 12), .ref (a 14), .ref (a 16), .ref (a 18), .ref (a 20), .ref (a 22)])) :: ((a 6), .inr (2, [.ref (ex 0), .int 0, .int 0, .int 0, .int 0, .int 0, .int 0, .ref (a 7), .ref (a 9), .ref (a 11), .ref (a 13), .ref (a 15), .ref (a 17), .ref (a 19), .ref (a 21)])) :: ((a 7), .inl (T 1, 9, .inl (fun _ => 0))) :: ((a 8), .inl (T 1, 9, .inl (fun _ => 0))) :: ((a 9), .inl (T 1, 9, .inl (fun _ => 0))) :: ((a 10), .inl (T 1, 9, .inl (fun _ => 0))) :: ((a 11), .inl (T 1, 9, .inl (fun _ => 0))) :: ((a 12), .inl (T 1, 9, .inl (fun _ => 0))) :: ((a 13), .inl (T 1, 9, .inl (fun _ => 0))) :: ((a 14), .inl (T 1, 9, .inl (fun _ => 0))) :: ((a 15), .inl (T 1, 9, .inl (fun _ => 0))) :: ((a 16), .inl (T 1, 9, .inl (fun _ => 0))) :: ((a 17), .inl (T 1, 9, .inl (fun _ => 0))) :: ((a 18), .inl (T 1, 9, .inl (fun _ => 0))) :: ((a 19), .inl (T 1, 9, .inl (fun _ => 0))) :: ((a 20), .inl (T 1, 9, .inl (fun _ => 0))) :: ((a 21), .inl (T 2, 200, .inr (.inl (fun _ => 0)))) :: ((a 22), .inl (T 2, 200, .inr (.inl (fun _ => 0)))) :: ((a 1), .inr (4, [.ref (a 2), .ref (ex 0), .ref (ex 10), .ref (ex 11), .ref (ex 12), .int 0, .int 0, .int 0, .int 0, .int 0, .int 0])) :: ((a 2), .inr (6, [.ref (ex 13), .ref (ex 14), .int (vi 0), .int 0, .int 400, .int 0, .int 0, .int 0, .long 0, .int 0, .int 0, .int 0, .int 0, .int 0])) :: []) := hD
  refine lv_aload_n hx hb dX11_roll_29 rfl (lv_at hl 1 rfl) ?_
  refine lv_aload_n hx hb dX11_roll_30 rfl (lv_at hl 1 rfl) ?_
  refine va_get (D := D) (ci := 11) (v := .ref (a 2)) (C := RX11) (T := TX11) (N := 15) hx hb htg inX11 hown hK.1 hP 0 rfl rfl 0 (by decide) (htg _ kw_496) (fun _ h9 => h9) rfl dX11_roll_31 ?_
  refine va_getN (D := D) (ci := 6) (v := .int 0) (C := RX6) (T := TX6) (N := 14) hx hb htg inX6 hown hK.1 hP 22 rfl rfl 12 (by decide) (va_Nw.use rfl (hK.2.1 _ kn_117)) (fun _ h9 => h9) rfl dX11_roll_34 ?_
  refine va_put (D := D) (ci := 11) (v := .int 0) (ty := .int) (C := RX11) (T := TX11) (N := 15) hx hb htg inX11 tyX11 tyX11_ok nmX11 hown hK.1 hP hD hS 0 rfl rfl 14 (by decide) (htg _ kw_510) (fun _ h9 => h9) rfl (by decide +kernel) rfl rfl (Nat.le_of_ble_eq_true rfl) dX11_roll_37 (fun H locs hP hD hS => ?_)
  replace hP : va_P D vwCl (((a 0), .inr (11, [.ref (a 2), .ref (ex 0), .ref (ex 1), .ref (ex 2), .ref (a 6), .ref (ex 3), .ref (a 3), .ref (a 1), .ref (ex 4), .ref (ex 5), .ref (ex 6), .ref (ex 7), .ref (ex 8), .ref (ex 9), .int 0])) :: ((a 3), .inr (9, [.ref (a 4), .int 0, .int 0])) :: ((a 4), .inl (T 5, 4, .inr (.inr (.inr (.inr (xo [some (a 5), some (ex 15), some (ex 16), some (ex 17)])))))) :: ((a 5), .inr (2, [.ref (ex 0), .int 0, .int 0, .int 0, .int 0, .int 0, .int 0, .ref (a 8), .ref (a 10), .ref (a 12), .ref (a 14), .ref (a 16), .ref (a 18), .ref (a 20), .ref (a 22)])) :: ((a 6), .inr (2, [.ref (ex 0), .int 0, .int 0, .int 0, .int 0, .int 0, .int 0, .ref (a 7), .ref (a 9), .ref (a 11), .ref (a 13), .ref (a 15), .ref (a 17), .ref (a 19), .ref (a 21)])) :: ((a 7), .inl (T 1, 9, .inl (fun _ => 0))) :: ((a 8), .inl (T 1, 9, .inl (fun _ => 0))) :: ((a 9), .inl (T 1, 9, .inl (fun _ => 0))) :: ((a 10), .inl (T 1, 9, .inl (fun _ => 0))) :: ((a 11), .inl (T 1, 9, .inl (fun _ => 0))) :: ((a 12), .inl (T 1, 9, .inl (fun _ => 0))) :: ((a 13), .inl (T 1, 9, .inl (fun _ => 0))) :: ((a 14), .inl (T 1, 9, .inl (fun _ => 0))) :: ((a 15), .inl (T 1, 9, .inl (fun _ => 0))) :: ((a 16), .inl (T 1, 9, .inl (fun _ => 0))) :: ((a 17), .inl (T 1, 9, .inl (fun _ => 0))) :: ((a 18), .inl (T 1, 9, .inl (fun _ => 0))) :: ((a 19), .inl (T 1, 9, .inl (fun _ => 0))) :: ((a 20), .inl (T 1, 9, .inl (fun _ => 0))) :: ((a 21), .inl (T 2, 200, .inr (.inl (fun _ => 0)))) :: ((a 22), .inl (T 2, 200, .inr (.inl (fun _ => 0)))) :: ((a 1), .inr (4, [.ref (a 2), .ref (ex 0), .ref (ex 10), .ref (ex 11), .ref (ex 12), .int 0, .int 0, .int 0, .int 0, .int 0, .int 0])) :: ((a 2), .inr (6, [.ref (ex 13), .ref (ex 14), .int (vi 0), .int 0, .int 400, .int 0, .int 0, .int 0, .long 0, .int 0, .int 0, .int 0, .int 0, .int 0])) :: []) H := hP
  replace hD : va_D A (((a 0), .inr (11, [.ref (a 2), .ref (ex 0), .ref (ex 1), .ref (ex 2), .ref (a 6), .ref (ex 3), .ref (a 3), .ref (a 1), .ref (ex 4), .ref (ex 5), .ref (ex 6), .ref (ex 7), .ref (ex 8), .ref (ex 9), .int 0])) :: ((a 3), .inr (9, [.ref (a 4), .int 0, .int 0])) :: ((a 4), .inl (T 5, 4, .inr (.inr (.inr (.inr (xo [some (a 5), some (ex 15), some (ex 16), some (ex 17)])))))) :: ((a 5), .inr (2, [.ref (ex 0), .int 0, .int 0, .int 0, .int 0, .int 0, .int 0, .ref (a 8), .ref (a 10), .ref (a 12), .ref (a 14), .ref (a 16), .ref (a 18), .ref (a 20), .ref (a 22)])) :: ((a 6), .inr (2, [.ref (ex 0), .int 0, .int 0, .int 0, .int 0, .int 0, .int 0, .ref (a 7), .ref (a 9), .ref (a 11), .ref (a 13), .ref (a 15), .ref (a 17), .ref (a 19), .ref (a 21)])) :: ((a 7), .inl (T 1, 9, .inl (fun _ => 0))) :: ((a 8), .inl (T 1, 9, .inl (fun _ => 0))) :: ((a 9), .inl (T 1, 9, .inl (fun _ => 0))) :: ((a 10), .inl (T 1, 9, .inl (fun _ => 0))) :: ((a 11), .inl (T 1, 9, .inl (fun _ => 0))) :: ((a 12), .inl (T 1, 9, .inl (fun _ => 0))) :: ((a 13), .inl (T 1, 9, .inl (fun _ => 0))) :: ((a 14), .inl (T 1, 9, .inl (fun _ => 0))) :: ((a 15), .inl (T 1, 9, .inl (fun _ => 0))) :: ((a 16), .inl (T 1, 9, .inl (fun _ => 0))) :: ((a 17), .inl (T 1, 9, .inl (fun _ => 0))) :: ((a 18), .inl (T 1, 9, .inl (fun _ => 0))) :: ((a 19), .inl (T 1, 9, .inl (fun _ => 0))) :: ((a 20), .inl (T 1, 9, .inl (fun _ => 0))) :: ((a 21), .inl (T 2, 200, .inr (.inl (fun _ => 0)))) :: ((a 22), .inl (T 2, 200, .inr (.inl (fun _ => 0)))) :: ((a 1), .inr (4, [.ref (a 2), .ref (ex 0), .ref (ex 10), .ref (ex 11), .ref (ex 12), .int 0, .int 0, .int 0, .int 0, .int 0, .int 0])) :: ((a 2), .inr (6, [.ref (ex 13), .ref (ex 14), .int (vi 0), .int 0, .int 400, .int 0, .int 0, .int 0, .long 0, .int 0, .int 0, .int 0, .int 0, .int 0])) :: []) := hD
  refine lv_iload_n hx hb dX11_roll_40 rfl (lv_at hl 0 rfl) ?_
  refine lv_if_ne (tgt := 55) hx hb dX11_roll_41 (by decide) (fun _ => ?_) (fun c => absurd c (by decide))
  refine lv_iload_n hx hb dX11_roll_55 rfl (lv_at hl 2 rfl) ?_
  refine lv_iconst (v := 1) hx hb dX11_roll_56 (by decide) ?_
  refine lv_icmp_ne (tgt := 83) hx hb dX11_roll_57 (by decide) (fun c => absurd (by decide) c) (fun _ => ?_)
  refine lv_aload_n hx hb dX11_roll_60 rfl (lv_at hl 1 rfl) ?_
  refine va_get (D := D) (ci := 11) (v := .ref (a 3)) (C := RX11) (T := TX11) (N := 15) hx hb htg inX11 hown hK.1 hP 0 rfl rfl 6 (by decide) (htg _ kw_502) (fun _ h9 => h9) rfl dX11_roll_61 ?_
  refine lv_aload_n hx hb dX11_roll_64 rfl (lv_at hl 1 rfl) ?_
  refine va_get (D := D) (ci := 11) (v := .ref (a 6)) (C := RX11) (T := TX11) (N := 15) hx hb htg inX11 hown hK.1 hP 0 rfl rfl 4 (by decide) (htg _ kw_500) (fun _ h9 => h9) rfl dX11_roll_65 ?_
  have hPc := hP.sub (ws' := (pre_X9_keep T (xa [(a 3), (a 4), (a 5), (a 6), (a 7), (a 8), (a 9), (a 10), (a 11), (a 12), (a 13), (a 14), (a 15), (a 16), (a 17), (a 18), (a 19), (a 20), (a 21), (a 22)]) (xa [(ex 15), (ex 16), (ex 17), (ex 0)]) (xf []) (xh []) (xv []))) [1, 2, 3, 4, 5, 6, 7, 8, 9, 10, 11, 12, 13, 14, 15, 16, 17, 18, 19, 20] rfl
  have hDc := hD.sub (ws' := (pre_X9_keep T (xa [(a 3), (a 4), (a 5), (a 6), (a 7), (a 8), (a 9), (a 10), (a 11), (a 12), (a 13), (a 14), (a 15), (a 16), (a 17), (a 18), (a 19), (a 20), (a 21), (a 22)]) (xa [(ex 15), (ex 16), (ex 17), (ex 0)]) (xf []) (xh []) (xv []))) [1, 2, 3, 4, 5, 6, 7, 8, 9, 10, 11, 12, 13, 14, 15, 16, 17, 18, 19, 20] (by decide) rfl
  have hFc := va_free (wc := (pre_X9_keep T (xa [(a 3), (a 4), (a 5), (a 6), (a 7), (a 8), (a 9), (a 10), (a 11), (a 12), (a 13), (a 14), (a 15), (a 16), (a 17), (a 18), (a 19), (a 20), (a 21), (a 22)]) (xa [(ex 15), (ex 16), (ex 17), (ex 0)]) (xf []) (xh []) (xv []))) hD hS hA [1, 2, 3, 4, 5, 6, 7, 8, 9, 10, 11, 12, 13, 14, 15, 16, 17, 18, 19, 20] rfl
  refine va_callv (va_runVN (As := [.ref (a 6)]) (rest := []) ⟨hx, hb, hml, hown, htg⟩ (c_X9_keep l D T (xa [(a 3), (a 4), (a 5), (a 6), (a 7), (a 8), (a 9), (a 10), (a 11), (a 12), (a 13), (a 14), (a 15), (a 16), (a 17), (a 18), (a 19), (a 20), (a 21), (a 22)]) (xa [(ex 15), (ex 16), (ex 17), (ex 0)]) (xf []) (xh []) (xv []) H.size) ⟨va_cnB 1 htg (xg_ok kw_830) rfl rfl rfl (hK.2.1 _ kn_827) (htg _ kw_10) (by decide +kernel) ⟨by rw [hR]; exact Nat.le_of_ble_eq_true rfl, by rw [hR]; exact Nat.le_of_ble_eq_true rfl⟩, htg _ kw_829, htg _ ks_53⟩ (xpreV hK hPc hDc (va_recv hK.1 hPc (ci := 9) (q0 := 0) rfl rfl)) rfl rfl hl.1 rfl (lv_room (Nat.le_of_ble_eq_true rfl)) dX11_roll_68 ⟨by rw [hR]; exact Nat.le_of_ble_eq_true rfl, by rw [hR]; exact Nat.le_of_ble_eq_true rfl⟩) hS (fun q _ h => hFc q h) hFc (fun u t H1 locs ht hvm hw hB hz1 hk1 hS => ?_)
  obtain ⟨bk_1, fik_1, flk_1, vik_1, hP1, hD1, hGk_1⟩ := hB
  rw [ht] at hP1
  obtain ⟨hP, hD⟩ := va_join (wr := [((a 0), .inr (11, [.ref (a 2), .ref (ex 0), .ref (ex 1), .ref (ex 2), .ref (a 6), .ref (ex 3), .ref (a 3), .ref (a 1), .ref (ex 4), .ref (ex 5), .ref (ex 6), .ref (ex 7), .ref (ex 8), .ref (ex 9), .int 0])), ((a 1), .inr (4, [.ref (a 2), .ref (ex 0), .ref (ex 10), .ref (ex 11), .ref (ex 12), .int 0, .int 0, .int 0, .int 0, .int 0, .int 0])), ((a 2), .inr (6, [.ref (ex 13), .ref (ex 14), .int (vi 0), .int 0, .int 400, .int 0, .int 0, .int 0, .long 0, .int 0, .int 0, .int 0, .int 0, .int 0]))]) (w1 := (((a 3), .inr (9, [.ref (a 4), .int 1, .int 1])) :: ((a 4), .inl (T 5, 4, .inr (.inr (.inr (.inr (xo [some (a 5), some (ex 15), some (ex 16), some (ex 17)])))))) :: ((a 5), .inr (2, [.ref (ex 0), .int 0, .int 0, .int 0, .int 0, .int 0, .int 0, .ref (a 8), .ref (a 10), .ref (a 12), .ref (a 14), .ref (a 16), .ref (a 18), .ref (a 20), .ref (a 22)])) :: ((a 6), .inr (2, [.ref (ex 0), .int 0, .int 0, .int 0, .int 0, .int 0, .int 0, .ref (a 7), .ref (a 9), .ref (a 11), .ref (a 13), .ref (a 15), .ref (a 17), .ref (a 19), .ref (a 21)])) :: ((a 7), .inl (T 1, 9, .inl (fun _ => 0))) :: ((a 8), .inl (T 1, 9, .inl (fun _ => 0))) :: ((a 9), .inl (T 1, 9, .inl (fun _ => 0))) :: ((a 10), .inl (T 1, 9, .inl (fun _ => 0))) :: ((a 11), .inl (T 1, 9, .inl (fun _ => 0))) :: ((a 12), .inl (T 1, 9, .inl (fun _ => 0))) :: ((a 13), .inl (T 1, 9, .inl (fun _ => 0))) :: ((a 14), .inl (T 1, 9, .inl (fun _ => 0))) :: ((a 15), .inl (T 1, 9, .inl (fun _ => 0))) :: ((a 16), .inl (T 1, 9, .inl (fun _ => 0))) :: ((a 17), .inl (T 1, 9, .inl (fun _ => 0))) :: ((a 18), .inl (T 1, 9, .inl (fun _ => 0))) :: ((a 19), .inl (T 1, 9, .inl (fun _ => 0))) :: ((a 20), .inl (T 1, 9, .inl (fun _ => 0))) :: ((a 21), .inl (T 2, 200, .inr (.inl (fun _ => 0)))) :: ((a 22), .inl (T 2, 200, .inr (.inl (fun _ => 0)))) :: [])) hP hD [1, 2, 3, 4, 5, 6, 7, 8, 9, 10, 11, 12, 13, 14, 15, 16, 17, 18, 19, 20] [0, 21, 22] rfl rfl (by decide) (by decide) hk1 hFc hP1 hD1
  clear hPc hDc hFc hP1 hD1 hk1 hz1 hvm ht hw
  generalize H1 = H at hP hS ⊢
  replace hP : va_P D vwCl (((a 0), .inr (11, [.ref (a 2), .ref (ex 0), .ref (ex 1), .ref (ex 2), .ref (a 6), .ref (ex 3), .ref (a 3), .ref (a 1), .ref (ex 4), .ref (ex 5), .ref (ex 6), .ref (ex 7), .ref (ex 8), .ref (ex 9), .int 0])) :: ((a 1), .inr (4, [.ref (a 2), .ref (ex 0), .ref (ex 10), .ref (ex 11), .ref (ex 12), .int 0, .int 0, .int 0, .int 0, .int 0, .int 0])) :: ((a 2), .inr (6, [.ref (ex 13), .ref (ex 14), .int (vi 0), .int 0, .int 400, .int 0, .int 0, .int 0, .long 0, .int 0, .int 0, .int 0, .int 0, .int 0])) :: ((a 3), .inr (9, [.ref (a 4), .int 1, .int 1])) :: ((a 4), .inl (T 5, 4, .inr (.inr (.inr (.inr (xo [some (a 5), some (ex 15), some (ex 16), some (ex 17)])))))) :: ((a 5), .inr (2, [.ref (ex 0), .int 0, .int 0, .int 0, .int 0, .int 0, .int 0, .ref (a 8), .ref (a 10), .ref (a 12), .ref (a 14), .ref (a 16), .ref (a 18), .ref (a 20), .ref (a 22)])) :: ((a 6), .inr (2, [.ref (ex 0), .int 0, .int 0, .int 0, .int 0, .int 0, .int 0, .ref (a 7), .ref (a 9), .ref (a 11), .ref (a 13), .ref (a 15), .ref (a 17), .ref (a 19), .ref (a 21)])) :: ((a 7), .inl (T 1, 9, .inl (fun _ => 0))) :: ((a 8), .inl (T 1, 9, .inl (fun _ => 0))) :: ((a 9), .inl (T 1, 9, .inl (fun _ => 0))) :: ((a 10), .inl (T 1, 9, .inl (fun _ => 0))) :: ((a 11), .inl (T 1, 9, .inl (fun _ => 0))) :: ((a 12), .inl (T 1, 9, .inl (fun _ => 0))) :: ((a 13), .inl (T 1, 9, .inl (fun _ => 0))) :: ((a 14), .inl (T 1, 9, .inl (fun _ => 0))) :: ((a 15), .inl (T 1, 9, .inl (fun _ => 0))) :: ((a 16), .inl (T 1, 9, .inl (fun _ => 0))) :: ((a 17), .inl (T 1, 9, .inl (fun _ => 0))) :: ((a 18), .inl (T 1, 9, .inl (fun _ => 0))) :: ((a 19), .inl (T 1, 9, .inl (fun _ => 0))) :: ((a 20), .inl (T 1, 9, .inl (fun _ => 0))) :: ((a 21), .inl (T 2, 200, .inr (.inl (fun _ => 0)))) :: ((a 22), .inl (T 2, 200, .inr (.inl (fun _ => 0)))) :: []) H := hP
  replace hD : va_D A (((a 0), .inr (11, [.ref (a 2), .ref (ex 0), .ref (ex 1), .ref (ex 2), .ref (a 6), .ref (ex 3), .ref (a 3), .ref (a 1), .ref (ex 4), .ref (ex 5), .ref (ex 6), .ref (ex 7), .ref (ex 8), .ref (ex 9), .int 0])) :: ((a 1), .inr (4, [.ref (a 2), .ref (ex 0), .ref (ex 10), .ref (ex 11), .ref (ex 12), .int 0, .int 0, .int 0, .int 0, .int 0, .int 0])) :: ((a 2), .inr (6, [.ref (ex 13), .ref (ex 14), .int (vi 0), .int 0, .int 400, .int 0, .int 0, .int 0, .long 0, .int 0, .int 0, .int 0, .int 0, .int 0])) :: ((a 3), .inr (9, [.ref (a 4), .int 1, .int 1])) :: ((a 4), .inl (T 5, 4, .inr (.inr (.inr (.inr (xo [some (a 5), some (ex 15), some (ex 16), some (ex 17)])))))) :: ((a 5), .inr (2, [.ref (ex 0), .int 0, .int 0, .int 0, .int 0, .int 0, .int 0, .ref (a 8), .ref (a 10), .ref (a 12), .ref (a 14), .ref (a 16), .ref (a 18), .ref (a 20), .ref (a 22)])) :: ((a 6), .inr (2, [.ref (ex 0), .int 0, .int 0, .int 0, .int 0, .int 0, .int 0, .ref (a 7), .ref (a 9), .ref (a 11), .ref (a 13), .ref (a 15), .ref (a 17), .ref (a 19), .ref (a 21)])) :: ((a 7), .inl (T 1, 9, .inl (fun _ => 0))) :: ((a 8), .inl (T 1, 9, .inl (fun _ => 0))) :: ((a 9), .inl (T 1, 9, .inl (fun _ => 0))) :: ((a 10), .inl (T 1, 9, .inl (fun _ => 0))) :: ((a 11), .inl (T 1, 9, .inl (fun _ => 0))) :: ((a 12), .inl (T 1, 9, .inl (fun _ => 0))) :: ((a 13), .inl (T 1, 9, .inl (fun _ => 0))) :: ((a 14), .inl (T 1, 9, .inl (fun _ => 0))) :: ((a 15), .inl (T 1, 9, .inl (fun _ => 0))) :: ((a 16), .inl (T 1, 9, .inl (fun _ => 0))) :: ((a 17), .inl (T 1, 9, .inl (fun _ => 0))) :: ((a 18), .inl (T 1, 9, .inl (fun _ => 0))) :: ((a 19), .inl (T 1, 9, .inl (fun _ => 0))) :: ((a 20), .inl (T 1, 9, .inl (fun _ => 0))) :: ((a 21), .inl (T 2, 200, .inr (.inl (fun _ => 0)))) :: ((a 22), .inl (T 2, 200, .inr (.inl (fun _ => 0)))) :: []) := hD
  refine lv_aload_n hx hb dX11_roll_71 rfl (lv_at hl 1 rfl) ?_
  refine va_get (D := D) (ci := 11) (v := .ref (a 1)) (C := RX11) (T := TX11) (N := 15) hx hb htg inX11 hown hK.1 hP 0 rfl rfl 7 (by decide) (htg _ kw_503) (fun _ h9 => h9) rfl dX11_roll_72 ?_
  refine lv_aload_n hx hb dX11_roll_75 rfl (lv_at hl 1 rfl) ?_
  refine va_get (D := D) (ci := 11) (v := .ref (a 6)) (C := RX11) (T := TX11) (N := 15) hx hb htg inX11 hown hK.1 hP 0 rfl rfl 4 (by decide) (htg _ kw_500) (fun _ h9 => h9) rfl dX11_roll_76 ?_
  have hPc := hP.sub (ws' := (pre_X4_judge T (xa [(a 1), (a 6)]) (xa [(a 2), (ex 0), (ex 10), (ex 11), (ex 12), (a 7), (a 9), (a 11), (a 13), (a 15), (a 17), (a 19), (a 21)]) (xf []) (xh []) (xv []))) [1, 6] rfl
  have hDc := hD.sub (ws' := (pre_X4_judge T (xa [(a 1), (a 6)]) (xa [(a 2), (ex 0), (ex 10), (ex 11), (ex 12), (a 7), (a 9), (a 11), (a 13), (a 15), (a 17), (a 19), (a 21)]) (xf []) (xh []) (xv []))) [1, 6] (by decide) rfl
  have hFc := va_free (wc := (pre_X4_judge T (xa [(a 1), (a 6)]) (xa [(a 2), (ex 0), (ex 10), (ex 11), (ex 12), (a 7), (a 9), (a 11), (a 13), (a 15), (a 17), (a 19), (a 21)]) (xf []) (xh []) (xv []))) hD hS hA [1, 6] rfl
  refine va_calli (va_runVN (As := [.ref (a 6)]) (rest := []) ⟨hx, hb, hml, hown, htg⟩ (c_X4_judge l D T (xa [(a 1), (a 6)]) (xa [(a 2), (ex 0), (ex 10), (ex 11), (ex 12), (a 7), (a 9), (a 11), (a 13), (a 15), (a 17), (a 19), (a 21)]) (xf []) (xh []) (xv []) H.size) ⟨va_cnB 1 htg (xg_ok kw_1174) rfl rfl rfl (hK.2.1 _ kn_1171) (htg _ kw_11) (by decide +kernel) ⟨by rw [hR]; exact Nat.le_of_ble_eq_true rfl, by rw [hR]; exact Nat.le_of_ble_eq_true rfl⟩, htg _ kw_1173, htg _ ks_99⟩ (xpreV hK hPc hDc (va_recv hK.1 hPc (ci := 4) (q0 := 0) rfl rfl)) rfl rfl hl.1 rfl (lv_room (Nat.le_of_ble_eq_true rfl)) dX11_roll_79 ⟨by rw [hR]; exact Nat.le_of_ble_eq_true rfl, by rw [hR]; exact Nat.le_of_ble_eq_true rfl⟩) hS (fun q _ h => hFc q h) hFc (fun r9 u t H1 locs ht hvm hw hB hz1 hk1 hS => ?_)
  obtain ⟨bk_2, fik_2, flk_2, vik_2, hP1, hD1, hGk_2⟩ := hB
  rw [ht] at hP1
  obtain ⟨hP, hD⟩ := va_join (wr := (((a 0), .inr (11, [.ref (a 2), .ref (ex 0), .ref (ex 1), .ref (ex 2), .ref (a 6), .ref (ex 3), .ref (a 3), .ref (a 1), .ref (ex 4), .ref (ex 5), .ref (ex 6), .ref (ex 7), .ref (ex 8), .ref (ex 9), .int 0])) :: ((a 2), .inr (6, [.ref (ex 13), .ref (ex 14), .int (vi 0), .int 0, .int 400, .int 0, .int 0, .int 0, .long 0, .int 0, .int 0, .int 0, .int 0, .int 0])) :: ((a 3), .inr (9, [.ref (a 4), .int 1, .int 1])) :: ((a 4), .inl (T 5, 4, .inr (.inr (.inr (.inr (xo [some (a 5), some (ex 15), some (ex 16), some (ex 17)])))))) :: ((a 5), .inr (2, [.ref (ex 0), .int 0, .int 0, .int 0, .int 0, .int 0, .int 0, .ref (a 8), .ref (a 10), .ref (a 12), .ref (a 14), .ref (a 16), .ref (a 18), .ref (a 20), .ref (a 22)])) :: ((a 7), .inl (T 1, 9, .inl (fun _ => 0))) :: ((a 8), .inl (T 1, 9, .inl (fun _ => 0))) :: ((a 9), .inl (T 1, 9, .inl (fun _ => 0))) :: ((a 10), .inl (T 1, 9, .inl (fun _ => 0))) :: ((a 11), .inl (T 1, 9, .inl (fun _ => 0))) :: ((a 12), .inl (T 1, 9, .inl (fun _ => 0))) :: ((a 13), .inl (T 1, 9, .inl (fun _ => 0))) :: ((a 14), .inl (T 1, 9, .inl (fun _ => 0))) :: ((a 15), .inl (T 1, 9, .inl (fun _ => 0))) :: ((a 16), .inl (T 1, 9, .inl (fun _ => 0))) :: ((a 17), .inl (T 1, 9, .inl (fun _ => 0))) :: ((a 18), .inl (T 1, 9, .inl (fun _ => 0))) :: ((a 19), .inl (T 1, 9, .inl (fun _ => 0))) :: ((a 20), .inl (T 1, 9, .inl (fun _ => 0))) :: ((a 21), .inl (T 2, 200, .inr (.inl (fun _ => 0)))) :: ((a 22), .inl (T 2, 200, .inr (.inl (fun _ => 0)))) :: [])) (w1 := [((a 1), .inr (4, [.ref (a 2), .ref (ex 0), .ref (ex 10), .ref (ex 11), .ref (ex 12), .int 0, .int 1, .int 0, .int 0, .int 0, .int 0])), ((a 6), .inr (2, [.ref (ex 0), .int 0, .int 0, .int 0, .int 0, .int 0, .int 0, .ref (a 7), .ref (a 9), .ref (a 11), .ref (a 13), .ref (a 15), .ref (a 17), .ref (a 19), .ref (a 21)]))]) hP hD [1, 6] [0, 2, 3, 4, 5, 7, 8, 9, 10, 11, 12, 13, 14, 15, 16, 17, 18, 19, 20, 21, 22] rfl rfl (by decide) (by decide) hk1 hFc hP1 hD1
  subst hw
  clear hPc hDc hFc hP1 hD1 hk1 hz1 hvm ht
  generalize H1 = H at hP hS ⊢
  replace hP : va_P D vwCl (((a 0), .inr (11, [.ref (a 2), .ref (ex 0), .ref (ex 1), .ref (ex 2), .ref (a 6), .ref (ex 3), .ref (a 3), .ref (a 1), .ref (ex 4), .ref (ex 5), .ref (ex 6), .ref (ex 7), .ref (ex 8), .ref (ex 9), .int 0])) :: ((a 2), .inr (6, [.ref (ex 13), .ref (ex 14), .int (vi 0), .int 0, .int 400, .int 0, .int 0, .int 0, .long 0, .int 0, .int 0, .int 0, .int 0, .int 0])) :: ((a 3), .inr (9, [.ref (a 4), .int 1, .int 1])) :: ((a 4), .inl (T 5, 4, .inr (.inr (.inr (.inr (xo [some (a 5), some (ex 15), some (ex 16), some (ex 17)])))))) :: ((a 5), .inr (2, [.ref (ex 0), .int 0, .int 0, .int 0, .int 0, .int 0, .int 0, .ref (a 8), .ref (a 10), .ref (a 12), .ref (a 14), .ref (a 16), .ref (a 18), .ref (a 20), .ref (a 22)])) :: ((a 7), .inl (T 1, 9, .inl (fun _ => 0))) :: ((a 8), .inl (T 1, 9, .inl (fun _ => 0))) :: ((a 9), .inl (T 1, 9, .inl (fun _ => 0))) :: ((a 10), .inl (T 1, 9, .inl (fun _ => 0))) :: ((a 11), .inl (T 1, 9, .inl (fun _ => 0))) :: ((a 12), .inl (T 1, 9, .inl (fun _ => 0))) :: ((a 13), .inl (T 1, 9, .inl (fun _ => 0))) :: ((a 14), .inl (T 1, 9, .inl (fun _ => 0))) :: ((a 15), .inl (T 1, 9, .inl (fun _ => 0))) :: ((a 16), .inl (T 1, 9, .inl (fun _ => 0))) :: ((a 17), .inl (T 1, 9, .inl (fun _ => 0))) :: ((a 18), .inl (T 1, 9, .inl (fun _ => 0))) :: ((a 19), .inl (T 1, 9, .inl (fun _ => 0))) :: ((a 20), .inl (T 1, 9, .inl (fun _ => 0))) :: ((a 21), .inl (T 2, 200, .inr (.inl (fun _ => 0)))) :: ((a 22), .inl (T 2, 200, .inr (.inl (fun _ => 0)))) :: ((a 1), .inr (4, [.ref (a 2), .ref (ex 0), .ref (ex 10), .ref (ex 11), .ref (ex 12), .int 0, .int 1, .int 0, .int 0, .int 0, .int 0])) :: ((a 6), .inr (2, [.ref (ex 0), .int 0, .int 0, .int 0, .int 0, .int 0, .int 0, .ref (a 7), .ref (a 9), .ref (a 11), .ref (a 13), .ref (a 15), .ref (a 17), .ref (a 19), .ref (a 21)])) :: []) H := hP
  replace hD : va_D A (((a 0), .inr (11, [.ref (a 2), .ref (ex 0), .ref (ex 1), .ref (ex 2), .ref (a 6), .ref (ex 3), .ref (a 3), .ref (a 1), .ref (ex 4), .ref (ex 5), .ref (ex 6), .ref (ex 7), .ref (ex 8), .ref (ex 9), .int 0])) :: ((a 2), .inr (6, [.ref (ex 13), .ref (ex 14), .int (vi 0), .int 0, .int 400, .int 0, .int 0, .int 0, .long 0, .int 0, .int 0, .int 0, .int 0, .int 0])) :: ((a 3), .inr (9, [.ref (a 4), .int 1, .int 1])) :: ((a 4), .inl (T 5, 4, .inr (.inr (.inr (.inr (xo [some (a 5), some (ex 15), some (ex 16), some (ex 17)])))))) :: ((a 5), .inr (2, [.ref (ex 0), .int 0, .int 0, .int 0, .int 0, .int 0, .int 0, .ref (a 8), .ref (a 10), .ref (a 12), .ref (a 14), .ref (a 16), .ref (a 18), .ref (a 20), .ref (a 22)])) :: ((a 7), .inl (T 1, 9, .inl (fun _ => 0))) :: ((a 8), .inl (T 1, 9, .inl (fun _ => 0))) :: ((a 9), .inl (T 1, 9, .inl (fun _ => 0))) :: ((a 10), .inl (T 1, 9, .inl (fun _ => 0))) :: ((a 11), .inl (T 1, 9, .inl (fun _ => 0))) :: ((a 12), .inl (T 1, 9, .inl (fun _ => 0))) :: ((a 13), .inl (T 1, 9, .inl (fun _ => 0))) :: ((a 14), .inl (T 1, 9, .inl (fun _ => 0))) :: ((a 15), .inl (T 1, 9, .inl (fun _ => 0))) :: ((a 16), .inl (T 1, 9, .inl (fun _ => 0))) :: ((a 17), .inl (T 1, 9, .inl (fun _ => 0))) :: ((a 18), .inl (T 1, 9, .inl (fun _ => 0))) :: ((a 19), .inl (T 1, 9, .inl (fun _ => 0))) :: ((a 20), .inl (T 1, 9, .inl (fun _ => 0))) :: ((a 21), .inl (T 2, 200, .inr (.inl (fun _ => 0)))) :: ((a 22), .inl (T 2, 200, .inr (.inl (fun _ => 0)))) :: ((a 1), .inr (4, [.ref (a 2), .ref (ex 0), .ref (ex 10), .ref (ex 11), .ref (ex 12), .int 0, .int 1, .int 0, .int 0, .int 0, .int 0])) :: ((a 6), .inr (2, [.ref (ex 0), .int 0, .int 0, .int 0, .int 0, .int 0, .int 0, .ref (a 7), .ref (a 9), .ref (a 11), .ref (a 13), .ref (a 15), .ref (a 17), .ref (a 19), .ref (a 21)])) :: []) := hD
  have hP9 := hP.sub (ws' := []) [] rfl
  have hD9 := hD.sub (ws' := []) [] (by decide) rfl
  rw [hQ]
  exact W.iret (v := (-1)) hx hb hr (fun t ht hW => ⟨⟨(-1), (), rfl, rfl, ⟨xa [], xf [], xh [], xv [], by rw [ht]; exact hP9, hD9, trivial⟩⟩, hS.F ht⟩) hS.2.2 dX11_roll_82
abbrev pre_X11_roll_3 (T : Nat → ClassId) (a ex : Nat → Nat) (fi : Nat → Nat → Int32) (fl : Nat → Nat → Int64) (vi : Nat → Int32) : va_W := [((a 0), .inr (11, [.ref (ex 0), .ref (ex 1), .ref (ex 2), .ref (ex 3), .ref (ex 4), .ref (ex 5), .ref (ex 6), .ref (ex 7), .ref (ex 8), .ref (ex 9), .ref (ex 10), .ref (ex 11), .ref (ex 12), .ref (ex 13), .int 0]))]
set_option maxHeartbeats 4000000 in
set_option maxRecDepth 100000 in
theorem c_X11_roll_3 (l : Launch) (D : va_G) (T : Nat → ClassId) (a ex : Nat → Nat) (fi : Nat → Nat → Int32) (fl : Nat → Nat → Int64) (vi : Nat → Int32) (sz : Nat) (hd0 : (vi 0).toInt ≤ -1 ∨ 2 ≤ (vi 0).toInt) : Met l yX11_roll (xw yX11_roll cX11_roll 3 (some .int)) ({ frames := 0, cells := 0, slots := 0, locals := 0 }) (xP D T [.ref (a 0), .int (vi 0)] sz (pre_X11_roll_3 T a ex fi fl vi)) (va_Qi (fun r (_ : Unit) => r = (-1000)) (xB D (va_A (pre_X11_roll_3 T a ex fi fl vi) sz) (fun _ => True) (fun b fj fm vj => [])) (va_A (pre_X11_roll_3 T a ex fi fl vi) sz)) 0 0 (va_A (pre_X11_roll_3 T a ex fi fl vi) sz) := by
  refine xofW (cc := cX11_roll) (maxL := 3) (ret := (some .int)) (by decide) rfl ?_
  intro p e s m args below meth c s₁ R Q hR hQ B hml hv
  obtain ⟨rfl, hsz, hP, hK, hD0⟩ := hv
  have hx := B.exec
  have hb := B.bytes
  have hr := B.returns
  have hts := atoms_spec (ws := xw yX11_roll cX11_roll 3 (some .int)) B.pre
  have htg : ∀ w ∈ xg, w.before _ s = true := fun w h => hts w (List.mem_cons_of_mem _ h)
  have hown : s.vm.findClass RX11 = some m.cls := findClass_of_methodNamed B.named
  have hlocks := B.notSynchronized
  subst hsz
  have hD := hD0.self (sz := s.heap.size)
  generalize hAe : va_A (pre_X11_roll_3 T a ex fi fl vi) s.heap.size = A at hD hQ
  have hA : ∀ q : Nat, s.heap.size ≤ q → A q := fun q h => by rw [← hAe]; exact Or.inr h
  have hS : va_S A s.heap s.heap [] := va_S.rf
  replace hP : va_P D vwCl [((a 0), .inr (11, [.ref (ex 0), .ref (ex 1), .ref (ex 2), .ref (ex 3), .ref (ex 4), .ref (ex 5), .ref (ex 6), .ref (ex 7), .ref (ex 8), .ref (ex 9), .ref (ex 10), .ref (ex 11), .ref (ex 12), .ref (ex 13), .int 0]))] s.heap := hP
  replace hD : va_D A [((a 0), .inr (11, [.ref (ex 0), .ref (ex 1), .ref (ex 2), .ref (ex 3), .ref (ex 4), .ref (ex 5), .ref (ex 6), .ref (ex 7), .ref (ex 8), .ref (ex 9), .ref (ex 10), .ref (ex 11), .ref (ex 12), .ref (ex 13), .int 0]))] := hD
  have hl := lv_entry ([.ref (a 0), .int (vi 0)]) (n := 3) (Nat.le_of_ble_eq_true rfl)
  rw [lg_entry_eq]
  generalize (lg_sl ([.ref (a 0), .int (vi 0)]) ++ List.replicate (3 - (lg_sl ([.ref (a 0), .int (vi 0)])).length) Slot.unset).toArray = ls at hl ⊢
  replace hl : lv_has ls 3 [(0, .ref (a 0)), (1, .int (vi 0))] := hl
  refine lv_iload_n hx hb dX11_roll_0 rfl (lv_at hl 1 rfl) ?_
  refine lv_if_lt (tgt := 9) hx hb dX11_roll_1 (by decide) (fun c1 => ?_) (fun c1 => ?_)
  · have c1 := xlt (k := 0) (by decide) c1
    refine lv_sipush (v := (-1000)) hx hb dX11_roll_9 (by decide) ?_
    have hP9 := hP.sub (ws' := []) [] rfl
    have hD9 := hD.sub (ws' := []) [] (by decide) rfl
    rw [hQ]
    exact W.iret (v := (-1000)) hx hb hr (fun t ht hW => ⟨⟨(-1000), (), rfl, rfl, ⟨xa [], xf [], xh [], xv [], by rw [ht]; exact hP9, hD9, trivial⟩⟩, hS.F ht⟩) hS.2.2 dX11_roll_12
  · have c1 := xnlt (k := 0) (by decide) c1
    refine lv_iload_n hx hb dX11_roll_4 rfl (lv_at hl 1 rfl) ?_
    refine lv_iconst (v := 1) hx hb dX11_roll_5 (by decide) ?_
    refine lv_icmp_le (tgt := 13) hx hb dX11_roll_6 (by decide) (fun c => by exfalso; have h9 := xle (k := 1) (by decide) c; omega) (fun _ => ?_)
    refine lv_sipush (v := (-1000)) hx hb dX11_roll_9 (by decide) ?_
    have hP9 := hP.sub (ws' := []) [] rfl
    have hD9 := hD.sub (ws' := []) [] (by decide) rfl
    rw [hQ]
    exact W.iret (v := (-1000)) hx hb hr (fun t ht hW => ⟨⟨(-1000), (), rfl, rfl, ⟨xa [], xf [], xh [], xv [], by rw [ht]; exact hP9, hD9, trivial⟩⟩, hS.F ht⟩) hS.2.2 dX11_roll_12
abbrev pre_X11_rolled (T : Nat → ClassId) (a ex : Nat → Nat) (fi : Nat → Nat → Int32) (fl : Nat → Nat → Int64) (vi : Nat → Int32) : va_W := [((a 0), .inr (11, [.ref (ex 0), .ref (ex 1), .ref (ex 2), .ref (ex 3), .ref (ex 4), .ref (ex 5), .ref (ex 6), .ref (a 1), .ref (ex 7), .ref (ex 8), .ref (ex 9), .ref (ex 10), .ref (ex 11), .ref (ex 12), .int 0])), ((a 1), .inr (4, [.ref (ex 0), .ref (ex 1), .ref (ex 13), .ref (ex 14), .ref (ex 15), .int 0, .int 0, .int 0, .int 0, .int 0, .int 0]))]
set_option maxHeartbeats 4000000 in
set_option maxRecDepth 100000 in
theorem c_X11_rolled (l : Launch) (D : va_G) (T : Nat → ClassId) (a ex : Nat → Nat) (fi : Nat → Nat → Int32) (fl : Nat → Nat → Int64) (vi : Nat → Int32) (sz : Nat) : Met l yX11_rolled (xw yX11_rolled cX11_rolled 2 (some .int)) ({ frames := 0, cells := 0, slots := 0, locals := 0 }) (xP D T [.ref (a 0), .int (vi 0)] sz (pre_X11_rolled T a ex fi fl vi)) (va_Qi (fun r (_ : Unit) => r = (-1)) (xB D (va_A (pre_X11_rolled T a ex fi fl vi) sz) (fun _ => True) (fun b fj fm vj => [])) (va_A (pre_X11_rolled T a ex fi fl vi) sz)) 0 0 (va_A (pre_X11_rolled T a ex fi fl vi) sz) := by
  refine xofW (cc := cX11_rolled) (maxL := 2) (ret := (some .int)) (by decide) rfl ?_
  intro p e s m args below meth c s₁ R Q hR hQ B hml hv
  obtain ⟨rfl, hsz, hP, hK, hD0⟩ := hv
  have hx := B.exec
  have hb := B.bytes
  have hr := B.returns
  have hts := atoms_spec (ws := xw yX11_rolled cX11_rolled 2 (some .int)) B.pre
  have htg : ∀ w ∈ xg, w.before _ s = true := fun w h => hts w (List.mem_cons_of_mem _ h)
  have hown : s.vm.findClass RX11 = some m.cls := findClass_of_methodNamed B.named
  have hlocks := B.notSynchronized
  subst hsz
  have hD := hD0.self (sz := s.heap.size)
  generalize hAe : va_A (pre_X11_rolled T a ex fi fl vi) s.heap.size = A at hD hQ
  have hA : ∀ q : Nat, s.heap.size ≤ q → A q := fun q h => by rw [← hAe]; exact Or.inr h
  have hS : va_S A s.heap s.heap [] := va_S.rf
  replace hP : va_P D vwCl [((a 0), .inr (11, [.ref (ex 0), .ref (ex 1), .ref (ex 2), .ref (ex 3), .ref (ex 4), .ref (ex 5), .ref (ex 6), .ref (a 1), .ref (ex 7), .ref (ex 8), .ref (ex 9), .ref (ex 10), .ref (ex 11), .ref (ex 12), .int 0])), ((a 1), .inr (4, [.ref (ex 0), .ref (ex 1), .ref (ex 13), .ref (ex 14), .ref (ex 15), .int 0, .int 0, .int 0, .int 0, .int 0, .int 0]))] s.heap := hP
  replace hD : va_D A [((a 0), .inr (11, [.ref (ex 0), .ref (ex 1), .ref (ex 2), .ref (ex 3), .ref (ex 4), .ref (ex 5), .ref (ex 6), .ref (a 1), .ref (ex 7), .ref (ex 8), .ref (ex 9), .ref (ex 10), .ref (ex 11), .ref (ex 12), .int 0])), ((a 1), .inr (4, [.ref (ex 0), .ref (ex 1), .ref (ex 13), .ref (ex 14), .ref (ex 15), .int 0, .int 0, .int 0, .int 0, .int 0, .int 0]))] := hD
  have hl := lv_entry ([.ref (a 0), .int (vi 0)]) (n := 2) (Nat.le_of_ble_eq_true rfl)
  rw [lg_entry_eq]
  generalize (lg_sl ([.ref (a 0), .int (vi 0)]) ++ List.replicate (2 - (lg_sl ([.ref (a 0), .int (vi 0)])).length) Slot.unset).toArray = ls at hl ⊢
  replace hl : lv_has ls 2 [(0, .ref (a 0)), (1, .int (vi 0))] := hl
  refine lv_aload_n hx hb dX11_rolled_0 rfl (lv_at hl 0 rfl) ?_
  refine va_get (D := D) (ci := 11) (v := .ref (a 1)) (C := RX11) (T := TX11) (N := 15) hx hb htg inX11 hown hK.1 hP 0 rfl rfl 7 (by decide) (htg _ kw_503) (fun _ h9 => h9) rfl dX11_rolled_1 ?_
  refine va_getN (D := D) (ci := 4) (v := .int 0) (C := RX4) (T := TX4) (N := 11) hx hb htg inX4 hown hK.1 hP 1 rfl rfl 6 (by decide) (va_Nw.use rfl (hK.2.1 _ kn_346)) (fun _ h9 => h9) rfl dX11_rolled_4 ?_
  refine lv_if_ne (tgt := 12) hx hb dX11_rolled_7 (by decide) (fun c => absurd (by decide) c) (fun _ => ?_)
  refine lv_iconst (v := (-1)) hx hb dX11_rolled_10 (by decide) ?_
  have hP9 := hP.sub (ws' := []) [] rfl
  have hD9 := hD.sub (ws' := []) [] (by decide) rfl
  rw [hQ]
  exact W.iret (v := (-1)) hx hb hr (fun t ht hW => ⟨⟨(-1), (), rfl, rfl, ⟨xa [], xf [], xh [], xv [], by rw [ht]; exact hP9, hD9, trivial⟩⟩, hS.F ht⟩) hS.2.2 dX11_rolled_11
abbrev pre_X6_advance_3 (T : Nat → ClassId) (a ex : Nat → Nat) (fi : Nat → Nat → Int32) (fl : Nat → Nat → Int64) (vi : Nat → Int32) : va_W := [((a 0), .inr (6, [.ref (ex 0), .ref (ex 1), .int (vi 0), .int 0, .int 200, .int 0, .int 0, .int 0, .long 0, .int 0, .int 0, .int 0, .int 0, .int 0]))]
set_option maxHeartbeats 4000000 in
set_option maxRecDepth 100000 in
theorem c_X6_advance_3 (l : Launch) (D : va_G) (T : Nat → ClassId) (a ex : Nat → Nat) (fi : Nat → Nat → Int32) (fl : Nat → Nat → Int64) (vi : Nat → Int32) (sz : Nat) : Met l yX6_advance (xw yX6_advance cX6_advance 4 none) ({ frames := 0, cells := 0, slots := 0, locals := 0 }) (xP D T [.ref (a 0)] sz (pre_X6_advance_3 T a ex fi fl vi)) (va_Qv (fun _ : Unit => True) (xB D (va_A (pre_X6_advance_3 T a ex fi fl vi) sz) (fun _ => True) (fun b fj fm vj => [((a 0), .inr (6, [.ref (ex 0), .ref (ex 1), .int (vi 0), .int 0, .int 200, .int 0, .int 0, .int 0, .long 0, .int 0, .int 0, .int 0, .int 0, .int 0]))])) (va_A (pre_X6_advance_3 T a ex fi fl vi) sz)) 0 0 (va_A (pre_X6_advance_3 T a ex fi fl vi) sz) := by
  refine xofW (cc := cX6_advance) (maxL := 4) (ret := none) (by decide) rfl ?_
  intro p e s m args below meth c s₁ R Q hR hQ B hml hv
  obtain ⟨rfl, hsz, hP, hK, hD0⟩ := hv
  have hx := B.exec
  have hb := B.bytes
  have hr := B.returns
  have hts := atoms_spec (ws := xw yX6_advance cX6_advance 4 none) B.pre
  have htg : ∀ w ∈ xg, w.before _ s = true := fun w h => hts w (List.mem_cons_of_mem _ h)
  have hown : s.vm.findClass RX6 = some m.cls := findClass_of_methodNamed B.named
  have hlocks := B.notSynchronized
  subst hsz
  have hD := hD0.self (sz := s.heap.size)
  generalize hAe : va_A (pre_X6_advance_3 T a ex fi fl vi) s.heap.size = A at hD hQ
  have hA : ∀ q : Nat, s.heap.size ≤ q → A q := fun q h => by rw [← hAe]; exact Or.inr h
  have hS : va_S A s.heap s.heap [] := va_S.rf
  replace hP : va_P D vwCl [((a 0), .inr (6, [.ref (ex 0), .ref (ex 1), .int (vi 0), .int 0, .int 200, .int 0, .int 0, .int 0, .long 0, .int 0, .int 0, .int 0, .int 0, .int 0]))] s.heap := hP
  replace hD : va_D A [((a 0), .inr (6, [.ref (ex 0), .ref (ex 1), .int (vi 0), .int 0, .int 200, .int 0, .int 0, .int 0, .long 0, .int 0, .int 0, .int 0, .int 0, .int 0]))] := hD
  have hl := lv_entry ([.ref (a 0)]) (n := 4) (Nat.le_of_ble_eq_true rfl)
  rw [lg_entry_eq]
  generalize (lg_sl ([.ref (a 0)]) ++ List.replicate (4 - (lg_sl ([.ref (a 0)])).length) Slot.unset).toArray = ls at hl ⊢
  replace hl : lv_has ls 4 [(0, .ref (a 0))] := hl
  refine lv_aload_n hx hb dX6_advance_0 rfl (lv_at hl 0 rfl) ?_
  refine va_get (D := D) (ci := 6) (v := .int 0) (C := RX6) (T := TX6) (N := 14) hx hb htg inX6 hown hK.1 hP 0 rfl rfl 5 (by decide) (htg _ kw_100) (fun _ h9 => h9) rfl dX6_advance_1 ?_
  refine lv_aload_n hx hb dX6_advance_4 rfl (lv_at hl 0 rfl) ?_
  refine va_get (D := D) (ci := 6) (v := .int 0) (C := RX6) (T := TX6) (N := 14) hx hb htg inX6 hown hK.1 hP 0 rfl rfl 3 (by decide) (htg _ kw_98) (fun _ h9 => h9) rfl dX6_advance_5 ?_
  refine lv_icmp_ge (tgt := 52) hx hb dX6_advance_8 (by decide) (fun _ => ?_) (fun c => absurd (by decide) c)
  refine lv_aload_n hx hb dX6_advance_52 rfl (lv_at hl 0 rfl) ?_
  refine va_get (D := D) (ci := 6) (v := .int 0) (C := RX6) (T := TX6) (N := 14) hx hb htg inX6 hown hK.1 hP 0 rfl rfl 5 (by decide) (htg _ kw_100) (fun _ h9 => h9) rfl dX6_advance_53 ?_
  refine lv_aload_n hx hb dX6_advance_56 rfl (lv_at hl 0 rfl) ?_
  refine va_get (D := D) (ci := 6) (v := .int 0) (C := RX6) (T := TX6) (N := 14) hx hb htg inX6 hown hK.1 hP 0 rfl rfl 3 (by decide) (htg _ kw_98) (fun _ h9 => h9) rfl dX6_advance_57 ?_
  refine lv_icmp_ge (tgt := 74) hx hb dX6_advance_60 (by decide) (fun _ => ?_) (fun c => absurd (by decide) c)
  refine lv_aload_n hx hb dX6_advance_74 rfl (lv_at hl 0 rfl) ?_
  refine lv_aload_n hx hb dX6_advance_75 rfl (lv_at hl 0 rfl) ?_
  refine va_get (D := D) (ci := 6) (v := .int 0) (C := RX6) (T := TX6) (N := 14) hx hb htg inX6 hown hK.1 hP 0 rfl rfl 3 (by decide) (htg _ kw_98) (fun _ h9 => h9) rfl dX6_advance_76 ?_
  refine lv_aload_n hx hb dX6_advance_79 rfl (lv_at hl 0 rfl) ?_
  refine va_get (D := D) (ci := 6) (v := .int 200) (C := RX6) (T := TX6) (N := 14) hx hb htg inX6 hown hK.1 hP 0 rfl rfl 4 (by decide) (htg _ kw_99) (fun _ h9 => h9) rfl dX6_advance_80 ?_
  refine lv_icmp_le (tgt := 90) hx hb dX6_advance_83 (by decide) (fun _ => ?_) (fun c => absurd (by decide) c)
  refine lv_iconst (v := 0) hx hb dX6_advance_90 (by decide) ?_
  refine va_put (D := D) (ci := 6) (v := .int 0) (ty := .int) (C := RX6) (T := TX6) (N := 14) hx hb htg inX6 tyX6 tyX6_ok nmX6 hown hK.1 hP hD hS 0 rfl rfl 6 (by decide) (htg _ kw_104) (fun _ h9 => h9) rfl (by decide +kernel) rfl rfl (Nat.le_of_ble_eq_true rfl) dX6_advance_91 (fun H locs hP hD hS => ?_)
  replace hP : va_P D vwCl [((a 0), .inr (6, [.ref (ex 0), .ref (ex 1), .int (vi 0), .int 0, .int 200, .int 0, .int 0, .int 0, .long 0, .int 0, .int 0, .int 0, .int 0, .int 0]))] H := hP
  replace hD : va_D A [((a 0), .inr (6, [.ref (ex 0), .ref (ex 1), .int (vi 0), .int 0, .int 200, .int 0, .int 0, .int 0, .long 0, .int 0, .int 0, .int 0, .int 0, .int 0]))] := hD
  refine lv_aload_n hx hb dX6_advance_94 rfl (lv_at hl 0 rfl) ?_
  refine lv_aload_n hx hb dX6_advance_95 rfl (lv_at hl 0 rfl) ?_
  refine va_get (D := D) (ci := 6) (v := .int 0) (C := RX6) (T := TX6) (N := 14) hx hb htg inX6 hown hK.1 hP 0 rfl rfl 3 (by decide) (htg _ kw_98) (fun _ h9 => h9) rfl dX6_advance_96 ?_
  refine lv_aload_n hx hb dX6_advance_99 rfl (lv_at hl 0 rfl) ?_
  refine va_get (D := D) (ci := 6) (v := .int 200) (C := RX6) (T := TX6) (N := 14) hx hb htg inX6 hown hK.1 hP 0 rfl rfl 4 (by decide) (htg _ kw_99) (fun _ h9 => h9) rfl dX6_advance_100 ?_
  refine lv_icmp_le (tgt := 113) hx hb dX6_advance_103 (by decide) (fun _ => ?_) (fun c => absurd (by decide) c)
  refine lv_aload_n hx hb dX6_advance_113 rfl (lv_at hl 0 rfl) ?_
  refine va_get (D := D) (ci := 6) (v := .int 0) (C := RX6) (T := TX6) (N := 14) hx hb htg inX6 hown hK.1 hP 0 rfl rfl 3 (by decide) (htg _ kw_98) (fun _ h9 => h9) rfl dX6_advance_114 ?_
  refine va_put (D := D) (ci := 6) (v := .int 0) (ty := .int) (C := RX6) (T := TX6) (N := 14) hx hb htg inX6 tyX6 tyX6_ok nmX6 hown hK.1 hP hD hS 0 rfl rfl 7 (by decide) (htg _ kw_105) (fun _ h9 => h9) rfl (by decide +kernel) rfl rfl (Nat.le_of_ble_eq_true rfl) dX6_advance_117 (fun H locs hP hD hS => ?_)
  replace hP : va_P D vwCl [((a 0), .inr (6, [.ref (ex 0), .ref (ex 1), .int (vi 0), .int 0, .int 200, .int 0, .int 0, .int 0, .long 0, .int 0, .int 0, .int 0, .int 0, .int 0]))] H := hP
  replace hD : va_D A [((a 0), .inr (6, [.ref (ex 0), .ref (ex 1), .int (vi 0), .int 0, .int 200, .int 0, .int 0, .int 0, .long 0, .int 0, .int 0, .int 0, .int 0, .int 0]))] := hD
  have hP9 := hP.sub (ws' := [((a 0), .inr (6, [.ref (ex 0), .ref (ex 1), .int (vi 0), .int 0, .int 200, .int 0, .int 0, .int 0, .long 0, .int 0, .int 0, .int 0, .int 0, .int 0]))]) [0] rfl
  have hD9 := hD.sub (ws' := [((a 0), .inr (6, [.ref (ex 0), .ref (ex 1), .int (vi 0), .int 0, .int 200, .int 0, .int 0, .int 0, .long 0, .int 0, .int 0, .int 0, .int 0, .int 0]))]) [0] (by decide +kernel) rfl
  rw [hQ]
  exact W.vret hx hb hr (fun t ht hW => ⟨⟨(), rfl, trivial, ⟨xa [], xf [], xh [], xv [], by rw [ht]; exact hP9, hD9, trivial⟩⟩, hS.F ht⟩) hS.2.2 dX6_advance_120
abbrev pre_X6_startText_3 (T : Nat → ClassId) (a ex : Nat → Nat) (fi : Nat → Nat → Int32) (fl : Nat → Nat → Int64) (vi : Nat → Int32) : va_W := [((a 0), .inr (6, [.ref (ex 0), .ref (ex 1), .int (vi 0), .int 0, .int 0, .int 0, .int 0, .int 0, .long 0, .int 0, .int 0, .int 0, .int 0, .int 0]))]
set_option maxHeartbeats 4000000 in
set_option maxRecDepth 100000 in
theorem c_X6_startText_3 (l : Launch) (D : va_G) (T : Nat → ClassId) (a ex : Nat → Nat) (fi : Nat → Nat → Int32) (fl : Nat → Nat → Int64) (vi : Nat → Int32) (sz : Nat) : Met l yX6_startText (xw yX6_startText cX6_startText 2 none) ({ frames := 1, cells := 0, slots := 0, locals := 27 }) (xP D T [.ref (a 0), .int 200] sz (pre_X6_startText_3 T a ex fi fl vi)) (va_Qv (fun _ : Unit => True) (xB D (va_A (pre_X6_startText_3 T a ex fi fl vi) sz) (fun _ => True) (fun b fj fm vj => [((a 0), .inr (6, [.ref (ex 0), .ref (ex 1), .int (vi 0), .int 0, .int 200, .int 0, .int 0, .int 0, .long 0, .int 0, .int 0, .int 0, .int 0, .int 0]))])) (va_A (pre_X6_startText_3 T a ex fi fl vi) sz)) 0 0 (va_A (pre_X6_startText_3 T a ex fi fl vi) sz) := by
  refine xofW (cc := cX6_startText) (maxL := 2) (ret := none) (by decide) rfl ?_
  intro p e s m args below meth c s₁ R Q hR hQ B hml hv
  obtain ⟨rfl, hsz, hP, hK, hD0⟩ := hv
  have hx := B.exec
  have hb := B.bytes
  have hr := B.returns
  have hts := atoms_spec (ws := xw yX6_startText cX6_startText 2 none) B.pre
  have htg : ∀ w ∈ xg, w.before _ s = true := fun w h => hts w (List.mem_cons_of_mem _ h)
  have hown : s.vm.findClass RX6 = some m.cls := findClass_of_methodNamed B.named
  have hlocks := B.notSynchronized
  subst hsz
  have hD := hD0.self (sz := s.heap.size)
  generalize hAe : va_A (pre_X6_startText_3 T a ex fi fl vi) s.heap.size = A at hD hQ
  have hA : ∀ q : Nat, s.heap.size ≤ q → A q := fun q h => by rw [← hAe]; exact Or.inr h
  have hS : va_S A s.heap s.heap [] := va_S.rf
  replace hP : va_P D vwCl [((a 0), .inr (6, [.ref (ex 0), .ref (ex 1), .int (vi 0), .int 0, .int 0, .int 0, .int 0, .int 0, .long 0, .int 0, .int 0, .int 0, .int 0, .int 0]))] s.heap := hP
  replace hD : va_D A [((a 0), .inr (6, [.ref (ex 0), .ref (ex 1), .int (vi 0), .int 0, .int 0, .int 0, .int 0, .int 0, .long 0, .int 0, .int 0, .int 0, .int 0, .int 0]))] := hD
  have hl := lv_entry ([.ref (a 0), .int 200]) (n := 2) (Nat.le_of_ble_eq_true rfl)
  rw [lg_entry_eq]
  generalize (lg_sl ([.ref (a 0), .int 200]) ++ List.replicate (2 - (lg_sl ([.ref (a 0), .int 200])).length) Slot.unset).toArray = ls at hl ⊢
  replace hl : lv_has ls 2 [(0, .ref (a 0)), (1, .int 200)] := hl
  refine lv_aload_n hx hb dX6_startText_0 rfl (lv_at hl 0 rfl) ?_
  refine lv_iload_n hx hb dX6_startText_1 rfl (lv_at hl 1 rfl) ?_
  refine va_put (D := D) (ci := 6) (v := .int 200) (ty := .int) (C := RX6) (T := TX6) (N := 14) hx hb htg inX6 tyX6 tyX6_ok nmX6 hown hK.1 hP hD hS 0 rfl rfl 4 (by decide) (htg _ kw_99) (fun _ h9 => h9) rfl (by decide +kernel) rfl rfl (Nat.le_of_ble_eq_true rfl) dX6_startText_2 (fun H locs hP hD hS => ?_)
  replace hP : va_P D vwCl [((a 0), .inr (6, [.ref (ex 0), .ref (ex 1), .int (vi 0), .int 0, .int 200, .int 0, .int 0, .int 0, .long 0, .int 0, .int 0, .int 0, .int 0, .int 0]))] H := hP
  replace hD : va_D A [((a 0), .inr (6, [.ref (ex 0), .ref (ex 1), .int (vi 0), .int 0, .int 200, .int 0, .int 0, .int 0, .long 0, .int 0, .int 0, .int 0, .int 0, .int 0]))] := hD
  refine lv_aload_n hx hb dX6_startText_5 rfl (lv_at hl 0 rfl) ?_
  refine lv_iconst (v := 0) hx hb dX6_startText_6 (by decide) ?_
  refine va_put (D := D) (ci := 6) (v := .int 0) (ty := .int) (C := RX6) (T := TX6) (N := 14) hx hb htg inX6 tyX6 tyX6_ok nmX6 hown hK.1 hP hD hS 0 rfl rfl 5 (by decide) (htg _ kw_100) (fun _ h9 => h9) rfl (by decide +kernel) rfl rfl (Nat.le_of_ble_eq_true rfl) dX6_startText_7 (fun H locs hP hD hS => ?_)
  replace hP : va_P D vwCl [((a 0), .inr (6, [.ref (ex 0), .ref (ex 1), .int (vi 0), .int 0, .int 200, .int 0, .int 0, .int 0, .long 0, .int 0, .int 0, .int 0, .int 0, .int 0]))] H := hP
  replace hD : va_D A [((a 0), .inr (6, [.ref (ex 0), .ref (ex 1), .int (vi 0), .int 0, .int 200, .int 0, .int 0, .int 0, .long 0, .int 0, .int 0, .int 0, .int 0, .int 0]))] := hD
  refine lv_aload_n hx hb dX6_startText_10 rfl (lv_at hl 0 rfl) ?_
  refine lv_iconst (v := 0) hx hb dX6_startText_11 (by decide) ?_
  refine va_put (D := D) (ci := 6) (v := .int 0) (ty := .int) (C := RX6) (T := TX6) (N := 14) hx hb htg inX6 tyX6 tyX6_ok nmX6 hown hK.1 hP hD hS 0 rfl rfl 12 (by decide) (htg _ kw_118) (fun _ h9 => h9) rfl (by decide +kernel) rfl rfl (Nat.le_of_ble_eq_true rfl) dX6_startText_12 (fun H locs hP hD hS => ?_)
  replace hP : va_P D vwCl [((a 0), .inr (6, [.ref (ex 0), .ref (ex 1), .int (vi 0), .int 0, .int 200, .int 0, .int 0, .int 0, .long 0, .int 0, .int 0, .int 0, .int 0, .int 0]))] H := hP
  replace hD : va_D A [((a 0), .inr (6, [.ref (ex 0), .ref (ex 1), .int (vi 0), .int 0, .int 200, .int 0, .int 0, .int 0, .long 0, .int 0, .int 0, .int 0, .int 0, .int 0]))] := hD
  refine lv_aload_n hx hb dX6_startText_15 rfl (lv_at hl 0 rfl) ?_
  refine lv_iconst (v := 0) hx hb dX6_startText_16 (by decide) ?_
  refine va_put (D := D) (ci := 6) (v := .int 0) (ty := .int) (C := RX6) (T := TX6) (N := 14) hx hb htg inX6 tyX6 tyX6_ok nmX6 hown hK.1 hP hD hS 0 rfl rfl 13 (by decide) (htg _ kw_120) (fun _ h9 => h9) rfl (by decide +kernel) rfl rfl (Nat.le_of_ble_eq_true rfl) dX6_startText_17 (fun H locs hP hD hS => ?_)
  replace hP : va_P D vwCl [((a 0), .inr (6, [.ref (ex 0), .ref (ex 1), .int (vi 0), .int 0, .int 200, .int 0, .int 0, .int 0, .long 0, .int 0, .int 0, .int 0, .int 0, .int 0]))] H := hP
  replace hD : va_D A [((a 0), .inr (6, [.ref (ex 0), .ref (ex 1), .int (vi 0), .int 0, .int 200, .int 0, .int 0, .int 0, .long 0, .int 0, .int 0, .int 0, .int 0, .int 0]))] := hD
  refine lv_aload_n hx hb dX6_startText_20 rfl (lv_at hl 0 rfl) ?_
  have hPc := hP.sub (ws' := (pre_X6_advance_3 T (xa [(a 0)]) (xa [(ex 0), (ex 1)]) (xf []) (xh []) (xv [(vi 0)]))) [0] rfl
  have hDc := hD.sub (ws' := (pre_X6_advance_3 T (xa [(a 0)]) (xa [(ex 0), (ex 1)]) (xf []) (xh []) (xv [(vi 0)]))) [0] (by decide) rfl
  have hFc := va_free (wc := (pre_X6_advance_3 T (xa [(a 0)]) (xa [(ex 0), (ex 1)]) (xf []) (xh []) (xv [(vi 0)]))) hD hS hA [0] rfl
  refine va_callv (va_runV (As := []) (rest := []) ⟨hx, hb, hml, hown, htg⟩ (c_X6_advance_3 l D T (xa [(a 0)]) (xa [(ex 0), (ex 1)]) (xf []) (xh []) (xv [(vi 0)]) H.size) ⟨callB_of 0 htg (xg_ok kw_577) rfl rfl rfl (htg _ kw_2) (htg _ kw_574) (by decide +kernel) ⟨by rw [hR]; exact Nat.le_of_ble_eq_true rfl, by rw [hR]; exact Nat.le_of_ble_eq_true rfl⟩, htg _ kw_576, htg _ ks_6⟩ (xpreV hK hPc hDc (va_recv hK.1 hPc (ci := 6) (q0 := 0) rfl rfl)) rfl rfl hl.1 rfl (lv_room (Nat.le_of_ble_eq_true rfl)) dX6_startText_21 ⟨by rw [hR]; exact Nat.le_of_ble_eq_true rfl, by rw [hR]; exact Nat.le_of_ble_eq_true rfl⟩) hS (fun q _ h => hFc q h) hFc (fun u t H1 locs ht hvm hw hB hz1 hk1 hS => ?_)
  obtain ⟨bk, fik, flk, vik, hP1, hD1, hGk⟩ := hB
  rw [ht] at hP1
  obtain ⟨hP, hD⟩ := va_join (wr := []) (w1 := [((a 0), .inr (6, [.ref (ex 0), .ref (ex 1), .int (vi 0), .int 0, .int 200, .int 0, .int 0, .int 0, .long 0, .int 0, .int 0, .int 0, .int 0, .int 0]))]) hP hD [0] [] rfl rfl (by decide) (by decide) hk1 hFc hP1 hD1
  clear hPc hDc hFc hP1 hD1 hk1 hz1 hvm ht hw
  generalize H1 = H at hP hS ⊢
  replace hP : va_P D vwCl [((a 0), .inr (6, [.ref (ex 0), .ref (ex 1), .int (vi 0), .int 0, .int 200, .int 0, .int 0, .int 0, .long 0, .int 0, .int 0, .int 0, .int 0, .int 0]))] H := hP
  replace hD : va_D A [((a 0), .inr (6, [.ref (ex 0), .ref (ex 1), .int (vi 0), .int 0, .int 200, .int 0, .int 0, .int 0, .long 0, .int 0, .int 0, .int 0, .int 0, .int 0]))] := hD
  have hP9 := hP.sub (ws' := [((a 0), .inr (6, [.ref (ex 0), .ref (ex 1), .int (vi 0), .int 0, .int 200, .int 0, .int 0, .int 0, .long 0, .int 0, .int 0, .int 0, .int 0, .int 0]))]) [0] rfl
  have hD9 := hD.sub (ws' := [((a 0), .inr (6, [.ref (ex 0), .ref (ex 1), .int (vi 0), .int 0, .int 200, .int 0, .int 0, .int 0, .long 0, .int 0, .int 0, .int 0, .int 0, .int 0]))]) [0] (by decide +kernel) rfl
  rw [hQ]
  exact W.vret hx hb hr (fun t ht hW => ⟨⟨(), rfl, trivial, ⟨xa [], xf [], xh [], xv [], by rw [ht]; exact hP9, hD9, trivial⟩⟩, hS.F ht⟩) hS.2.2 dX6_startText_24
abbrev pre_J0_coder_7d493_4 (T : Nat → ClassId) (a ex : Nat → Nat) (fi : Nat → Nat → Int32) (fl : Nat → Nat → Int64) (vi : Nat → Int32) : va_W := []
set_option maxHeartbeats 4000000 in
set_option maxRecDepth 100000 in
theorem c_J0_coder_7d493_4 (l : Launch) (D : va_G) (T : Nat → ClassId) (a ex : Nat → Nat) (fi : Nat → Nat → Int32) (fl : Nat → Nat → Int64) (vi : Nat → Int32) (kK kV : Nat → Nat) (sz : Nat) : Met l yJ0_coder_7d493 (xw yJ0_coder_7d493 cJ0_coder_7d493 1 (some .byte)) ({ frames := 0, cells := 0, slots := 0, locals := 0 }) (xPs D T kK kV [.ref (kK 19)] sz (pre_J0_coder_7d493_4 T a ex fi fl vi)) (va_Qi (fun r (_ : Unit) => r = 0) (xB D (va_A (pre_J0_coder_7d493_4 T a ex fi fl vi) sz) (fun _ => True) (fun b fj fm vj => [])) (va_A (pre_J0_coder_7d493_4 T a ex fi fl vi) sz)) 0 0 (va_A (pre_J0_coder_7d493_4 T a ex fi fl vi) sz) := by
  refine xofW (cc := cJ0_coder_7d493) (maxL := 1) (ret := (some .byte)) (by decide) rfl ?_
  intro p e s m args below meth c s₁ R Q hR hQ B hml hv
  obtain ⟨rfl, hsz, hP, hK, hD0, hT⟩ := hv
  have hx := B.exec
  have hb := B.bytes
  have hr := B.returns
  have hts := atoms_spec (ws := xw yJ0_coder_7d493 cJ0_coder_7d493 1 (some .byte)) B.pre
  have htg : ∀ w ∈ xg, w.before _ s = true := fun w h => hts w (List.mem_cons_of_mem _ h)
  have hown : s.vm.findClass RJ0 = some m.cls := findClass_of_methodNamed B.named
  have hlocks := B.notSynchronized
  subst hsz
  have hD := hD0.self (sz := s.heap.size)
  generalize hAe : va_A (pre_J0_coder_7d493_4 T a ex fi fl vi) s.heap.size = A at hD hQ hT
  have hA : ∀ q : Nat, s.heap.size ≤ q → A q := fun q h => by rw [← hAe]; exact Or.inr h
  have hS : va_S A s.heap s.heap [] := va_S.rf
  replace hP : va_P D vwCl [] s.heap := hP
  replace hD : va_D A [] := hD
  have hl := lv_entry ([.ref (kK 19)]) (n := 1) (Nat.le_of_ble_eq_true rfl)
  rw [lg_entry_eq]
  generalize (lg_sl ([.ref (kK 19)]) ++ List.replicate (1 - (lg_sl ([.ref (kK 19)])).length) Slot.unset).toArray = ls at hl ⊢
  replace hl : lv_has ls 1 [(0, .ref (kK 19))] := hl
  refine va_gets hx hb hT.2.2.1 hS hown (htg _ kw_52) (fun _ h9 => h9) dJ0_coder_7d493_0 ?_
  refine lv_if_eq (tgt := 13) hx hb dJ0_coder_7d493_3 (by decide) (fun c => absurd c (by decide)) (fun _ => ?_)
  refine lv_aload_n hx hb dJ0_coder_7d493_6 rfl (lv_at hl 0 rfl) ?_
  refine vk_getf hx hb (hT.2.1 19 (by decide)).2.1 hS hown (htg _ kw_2035) (fun _ h9 => h9) dJ0_coder_7d493_7 ?_
  refine lv_goto (tgt := 14) hx hb dJ0_coder_7d493_10 (by decide) ?_
  have hP9 := hP.sub (ws' := []) [] rfl
  have hD9 := hD.sub (ws' := []) [] (by decide +kernel) rfl
  rw [hQ]
  exact W.zret (v := 0) hx hb hr rfl (fun t ht hW => ⟨⟨0, (), rfl, rfl, ⟨xa [], xf [], xh [], xv [], by rw [ht]; exact hP9, hD9, trivial⟩⟩, hS.F ht⟩) hS.2.2 dJ0_coder_7d493_14
abbrev pre_J0_length_8abf5_4 (T : Nat → ClassId) (a ex : Nat → Nat) (fi : Nat → Nat → Int32) (fl : Nat → Nat → Int64) (vi : Nat → Int32) : va_W := []
set_option maxHeartbeats 4000000 in
set_option maxRecDepth 100000 in
theorem c_J0_length_8abf5_4 (l : Launch) (D : va_G) (T : Nat → ClassId) (a ex : Nat → Nat) (fi : Nat → Nat → Int32) (fl : Nat → Nat → Int64) (vi : Nat → Int32) (kK kV : Nat → Nat) (sz : Nat) : Met l yJ0_length_8abf5 (xw yJ0_length_8abf5 cJ0_length_8abf5 1 (some .int)) ({ frames := 1, cells := 0, slots := 0, locals := 24 }) (xPs D T kK kV [.ref (kK 19)] sz (pre_J0_length_8abf5_4 T a ex fi fl vi)) (va_Qi (fun r (_ : Unit) => r = 5) (xB D (va_A (pre_J0_length_8abf5_4 T a ex fi fl vi) sz) (fun _ => True) (fun b fj fm vj => [])) (va_A (pre_J0_length_8abf5_4 T a ex fi fl vi) sz)) 0 0 (va_A (pre_J0_length_8abf5_4 T a ex fi fl vi) sz) := by
  refine xofW (cc := cJ0_length_8abf5) (maxL := 1) (ret := (some .int)) (by decide) rfl ?_
  intro p e s m args below meth c s₁ R Q hR hQ B hml hv
  obtain ⟨rfl, hsz, hP, hK, hD0, hT⟩ := hv
  have hx := B.exec
  have hb := B.bytes
  have hr := B.returns
  have hts := atoms_spec (ws := xw yJ0_length_8abf5 cJ0_length_8abf5 1 (some .int)) B.pre
  have htg : ∀ w ∈ xg, w.before _ s = true := fun w h => hts w (List.mem_cons_of_mem _ h)
  have hown : s.vm.findClass RJ0 = some m.cls := findClass_of_methodNamed B.named
  have hlocks := B.notSynchronized
  subst hsz
  have hD := hD0.self (sz := s.heap.size)
  generalize hAe : va_A (pre_J0_length_8abf5_4 T a ex fi fl vi) s.heap.size = A at hD hQ hT
  have hA : ∀ q : Nat, s.heap.size ≤ q → A q := fun q h => by rw [← hAe]; exact Or.inr h
  have hS : va_S A s.heap s.heap [] := va_S.rf
  replace hP : va_P D vwCl [] s.heap := hP
  replace hD : va_D A [] := hD
  have hl := lv_entry ([.ref (kK 19)]) (n := 1) (Nat.le_of_ble_eq_true rfl)
  rw [lg_entry_eq]
  generalize (lg_sl ([.ref (kK 19)]) ++ List.replicate (1 - (lg_sl ([.ref (kK 19)])).length) Slot.unset).toArray = ls at hl ⊢
  replace hl : lv_has ls 1 [(0, .ref (kK 19))] := hl
  refine lv_aload_n hx hb dJ0_length_8abf5_0 rfl (lv_at hl 0 rfl) ?_
  refine vk_getf hx hb (hT.2.1 19 (by decide)).2.2.1 hS hown (htg _ kw_2034) (fun _ h9 => h9) dJ0_length_8abf5_1 ?_
  refine va_tlen (v := 5) hx hb (hT.2.1 19 (by decide)).2.2.2 hS (by decide) dJ0_length_8abf5_4 ?_
  refine lv_aload_n hx hb dJ0_length_8abf5_5 rfl (lv_at hl 0 rfl) ?_
  have hPc := hP.sub (ws' := (pre_J0_coder_7d493_4 T (xa []) (xa []) (xf []) (xh []) (xv []))) [] rfl
  have hDc := hD.sub (ws' := (pre_J0_coder_7d493_4 T (xa []) (xa []) (xf []) (xh []) (xv []))) [] (by decide) rfl
  have hFc := va_free (wc := (pre_J0_coder_7d493_4 T (xa []) (xa []) (xf []) (xh []) (xv []))) hD hS hA [] rfl
  refine va_calli (va_runV (As := []) (rest := [.int 5]) ⟨hx, hb, hml, hown, htg⟩ (c_J0_coder_7d493_4 l D T (xa []) (xa []) (xf []) (xh []) (xv []) kK kV s.heap.size) ⟨callB_of 0 htg (xg_ok kw_51) rfl rfl rfl (htg _ kw_3) (htg _ kw_48) (by decide +kernel) ⟨by rw [hR]; exact Nat.le_of_ble_eq_true rfl, by rw [hR]; exact Nat.le_of_ble_eq_true rfl⟩, htg _ kw_49, htg _ kw_50⟩ (xpreVs hK hPc hDc hT hFc hS (xT.recv hT 19 (by decide) hS)) rfl rfl hl.1 rfl (lv_room (Nat.le_of_ble_eq_true rfl)) dJ0_length_8abf5_6 ⟨by rw [hR]; exact Nat.le_of_ble_eq_true rfl, by rw [hR]; exact Nat.le_of_ble_eq_true rfl⟩) hS (fun q _ h => hFc q h) hFc (fun r9 u t H1 locs ht hvm hw hB hz1 hk1 hS => ?_)
  obtain ⟨bk, fik, flk, vik, hP1, hD1, hGk⟩ := hB
  rw [ht] at hP1
  obtain ⟨hP, hD⟩ := va_join (wr := []) (w1 := []) hP hD [] [] rfl rfl (by decide) (by decide) hk1 hFc hP1 hD1
  subst hw
  clear hPc hDc hFc hP1 hD1 hk1 hz1 hvm ht
  generalize H1 = H at hP hS ⊢
  replace hP : va_P D vwCl [] H := hP
  replace hD : va_D A [] := hD
  refine lv_ishr hx hb dJ0_length_8abf5_9 ?_
  refine xz_i 5 (by decide) ?_
  have hP9 := hP.sub (ws' := []) [] rfl
  have hD9 := hD.sub (ws' := []) [] (by decide +kernel) rfl
  rw [hQ]
  exact W.iret (v := 5) hx hb hr (fun t ht hW => ⟨⟨5, (), rfl, rfl, ⟨xa [], xf [], xh [], xv [], by rw [ht]; exact hP9, hD9, trivial⟩⟩, hS.F ht⟩) hS.2.2 dJ0_length_8abf5_10
abbrev pre_J0_isLatin1_aae02_4 (T : Nat → ClassId) (a ex : Nat → Nat) (fi : Nat → Nat → Int32) (fl : Nat → Nat → Int64) (vi : Nat → Int32) : va_W := []
set_option maxHeartbeats 4000000 in
set_option maxRecDepth 100000 in
theorem c_J0_isLatin1_aae02_4 (l : Launch) (D : va_G) (T : Nat → ClassId) (a ex : Nat → Nat) (fi : Nat → Nat → Int32) (fl : Nat → Nat → Int64) (vi : Nat → Int32) (kK kV : Nat → Nat) (sz : Nat) : Met l yJ0_isLatin1_aae02 (xw yJ0_isLatin1_aae02 cJ0_isLatin1_aae02 1 (some .boolean)) ({ frames := 0, cells := 0, slots := 0, locals := 0 }) (xPs D T kK kV [.ref (kK 19)] sz (pre_J0_isLatin1_aae02_4 T a ex fi fl vi)) (va_Qi (fun r (_ : Unit) => r = 1) (xB D (va_A (pre_J0_isLatin1_aae02_4 T a ex fi fl vi) sz) (fun _ => True) (fun b fj fm vj => [])) (va_A (pre_J0_isLatin1_aae02_4 T a ex fi fl vi) sz)) 0 0 (va_A (pre_J0_isLatin1_aae02_4 T a ex fi fl vi) sz) := by
  refine xofW (cc := cJ0_isLatin1_aae02) (maxL := 1) (ret := (some .boolean)) (by decide) rfl ?_
  intro p e s m args below meth c s₁ R Q hR hQ B hml hv
  obtain ⟨rfl, hsz, hP, hK, hD0, hT⟩ := hv
  have hx := B.exec
  have hb := B.bytes
  have hr := B.returns
  have hts := atoms_spec (ws := xw yJ0_isLatin1_aae02 cJ0_isLatin1_aae02 1 (some .boolean)) B.pre
  have htg : ∀ w ∈ xg, w.before _ s = true := fun w h => hts w (List.mem_cons_of_mem _ h)
  have hown : s.vm.findClass RJ0 = some m.cls := findClass_of_methodNamed B.named
  have hlocks := B.notSynchronized
  subst hsz
  have hD := hD0.self (sz := s.heap.size)
  generalize hAe : va_A (pre_J0_isLatin1_aae02_4 T a ex fi fl vi) s.heap.size = A at hD hQ hT
  have hA : ∀ q : Nat, s.heap.size ≤ q → A q := fun q h => by rw [← hAe]; exact Or.inr h
  have hS : va_S A s.heap s.heap [] := va_S.rf
  replace hP : va_P D vwCl [] s.heap := hP
  replace hD : va_D A [] := hD
  have hl := lv_entry ([.ref (kK 19)]) (n := 1) (Nat.le_of_ble_eq_true rfl)
  rw [lg_entry_eq]
  generalize (lg_sl ([.ref (kK 19)]) ++ List.replicate (1 - (lg_sl ([.ref (kK 19)])).length) Slot.unset).toArray = ls at hl ⊢
  replace hl : lv_has ls 1 [(0, .ref (kK 19))] := hl
  refine va_gets hx hb hT.2.2.1 hS hown (htg _ kw_52) (fun _ h9 => h9) dJ0_isLatin1_aae02_0 ?_
  refine lv_if_eq (tgt := 17) hx hb dJ0_isLatin1_aae02_3 (by decide) (fun c => absurd c (by decide)) (fun _ => ?_)
  refine lv_aload_n hx hb dJ0_isLatin1_aae02_6 rfl (lv_at hl 0 rfl) ?_
  refine vk_getf hx hb (hT.2.1 19 (by decide)).2.1 hS hown (htg _ kw_2035) (fun _ h9 => h9) dJ0_isLatin1_aae02_7 ?_
  refine lv_if_ne (tgt := 17) hx hb dJ0_isLatin1_aae02_10 (by decide) (fun c => absurd (by decide) c) (fun _ => ?_)
  refine lv_iconst (v := 1) hx hb dJ0_isLatin1_aae02_13 (by decide) ?_
  refine lv_goto (tgt := 18) hx hb dJ0_isLatin1_aae02_14 (by decide) ?_
  have hP9 := hP.sub (ws' := []) [] rfl
  have hD9 := hD.sub (ws' := []) [] (by decide +kernel) rfl
  rw [hQ]
  exact W.zret (v := 1) hx hb hr rfl (fun t ht hW => ⟨⟨1, (), rfl, rfl, ⟨xa [], xf [], xh [], xv [], by rw [ht]; exact hP9, hD9, trivial⟩⟩, hS.F ht⟩) hS.2.2 dJ0_isLatin1_aae02_18
abbrev pre_J3_checkIndex_8e157_7 (T : Nat → ClassId) (a ex : Nat → Nat) (fi : Nat → Nat → Int32) (fl : Nat → Nat → Int64) (vi : Nat → Int32) : va_W := []
set_option maxHeartbeats 4000000 in
set_option maxRecDepth 100000 in
theorem c_J3_checkIndex_8e157_7 (l : Launch) (D : va_G) (T : Nat → ClassId) (a ex : Nat → Nat) (fi : Nat → Nat → Int32) (fl : Nat → Nat → Int64) (vi : Nat → Int32) (sz : Nat) (hd0 : (0 ≤ (vi 0).toInt ∧ (vi 0).toInt ≤ 4)) : Met l yJ3_checkIndex_8e157 (xw yJ3_checkIndex_8e157 cJ3_checkIndex_8e157 3 (some .int)) ({ frames := 0, cells := 0, slots := 0, locals := 0 }) (xP D T [.int (vi 0), .int 5, .null] sz (pre_J3_checkIndex_8e157_7 T a ex fi fl vi)) (va_Qi (fun r (_ : Unit) => r = (vi 0)) (xB D (va_A (pre_J3_checkIndex_8e157_7 T a ex fi fl vi) sz) (fun _ => True) (fun b fj fm vj => [])) (va_A (pre_J3_checkIndex_8e157_7 T a ex fi fl vi) sz)) 0 0 (va_A (pre_J3_checkIndex_8e157_7 T a ex fi fl vi) sz) := by
  refine xofW (cc := cJ3_checkIndex_8e157) (maxL := 3) (ret := (some .int)) (by decide) rfl ?_
  intro p e s m args below meth c s₁ R Q hR hQ B hml hv
  obtain ⟨rfl, hsz, hP, hK, hD0⟩ := hv
  have hx := B.exec
  have hb := B.bytes
  have hr := B.returns
  have hts := atoms_spec (ws := xw yJ3_checkIndex_8e157 cJ3_checkIndex_8e157 3 (some .int)) B.pre
  have htg : ∀ w ∈ xg, w.before _ s = true := fun w h => hts w (List.mem_cons_of_mem _ h)
  have hown : s.vm.findClass RJ3 = some m.cls := findClass_of_methodNamed B.named
  have hlocks := B.notSynchronized
  subst hsz
  have hD := hD0.self (sz := s.heap.size)
  generalize hAe : va_A (pre_J3_checkIndex_8e157_7 T a ex fi fl vi) s.heap.size = A at hD hQ
  have hA : ∀ q : Nat, s.heap.size ≤ q → A q := fun q h => by rw [← hAe]; exact Or.inr h
  have hS : va_S A s.heap s.heap [] := va_S.rf
  replace hP : va_P D vwCl [] s.heap := hP
  replace hD : va_D A [] := hD
  have hl := lv_entry ([.int (vi 0), .int 5, .null]) (n := 3) (Nat.le_of_ble_eq_true rfl)
  rw [lg_entry_eq]
  generalize (lg_sl ([.int (vi 0), .int 5, .null]) ++ List.replicate (3 - (lg_sl ([.int (vi 0), .int 5, .null])).length) Slot.unset).toArray = ls at hl ⊢
  replace hl : lv_has ls 3 [(0, .int (vi 0)), (1, .int 5), (2, .null)] := hl
  refine lv_iload_n hx hb dJ3_checkIndex_8e157_0 rfl (lv_at hl 0 rfl) ?_
  refine lv_if_lt (tgt := 9) hx hb dJ3_checkIndex_8e157_1 (by decide) (fun c => by exfalso; have h9 := xlt (k := 0) (by decide) c; omega) (fun _ => ?_)
  refine lv_iload_n hx hb dJ3_checkIndex_8e157_4 rfl (lv_at hl 0 rfl) ?_
  refine lv_iload_n hx hb dJ3_checkIndex_8e157_5 rfl (lv_at hl 1 rfl) ?_
  refine lv_icmp_lt (tgt := 16) hx hb dJ3_checkIndex_8e157_6 (by decide) (fun _ => ?_) (fun c => by exfalso; have h9 := xnlt (k := 5) (by decide) c; omega)
  refine lv_iload_n hx hb dJ3_checkIndex_8e157_16 rfl (lv_at hl 0 rfl) ?_
  have hP9 := hP.sub (ws' := []) [] rfl
  have hD9 := hD.sub (ws' := []) [] (by decide +kernel) rfl
  rw [hQ]
  exact W.iret (v := (vi 0)) hx hb hr (fun t ht hW => ⟨⟨(vi 0), (), rfl, rfl, ⟨xa [], xf [], xh [], xv [], by rw [ht]; exact hP9, hD9, trivial⟩⟩, hS.F ht⟩) hS.2.2 dJ3_checkIndex_8e157_17
abbrev pre_J3_checkIndex_8e157_8 (T : Nat → ClassId) (a ex : Nat → Nat) (fi : Nat → Nat → Int32) (fl : Nat → Nat → Int64) (vi : Nat → Int32) : va_W := []
set_option maxHeartbeats 4000000 in
set_option maxRecDepth 100000 in
theorem c_J3_checkIndex_8e157_8 (l : Launch) (D : va_G) (T : Nat → ClassId) (a ex : Nat → Nat) (fi : Nat → Nat → Int32) (fl : Nat → Nat → Int64) (vi : Nat → Int32) (sz : Nat) (hd0 : (0 ≤ (vi 0).toInt ∧ (vi 0).toInt ≤ 4)) : Met l yJ3_checkIndex_8e157 (xw yJ3_checkIndex_8e157 cJ3_checkIndex_8e157 3 (some .int)) ({ frames := 0, cells := 0, slots := 0, locals := 0 }) (xP D T [.int (vi 0), .int 5, .ref (ex 0)] sz (pre_J3_checkIndex_8e157_8 T a ex fi fl vi)) (va_Qi (fun r (_ : Unit) => r = (vi 0)) (xB D (va_A (pre_J3_checkIndex_8e157_8 T a ex fi fl vi) sz) (fun _ => True) (fun b fj fm vj => [])) (va_A (pre_J3_checkIndex_8e157_8 T a ex fi fl vi) sz)) 0 0 (va_A (pre_J3_checkIndex_8e157_8 T a ex fi fl vi) sz) := by
  refine xofW (cc := cJ3_checkIndex_8e157) (maxL := 3) (ret := (some .int)) (by decide) rfl ?_
  intro p e s m args below meth c s₁ R Q hR hQ B hml hv
  obtain ⟨rfl, hsz, hP, hK, hD0⟩ := hv
  have hx := B.exec
  have hb := B.bytes
  have hr := B.returns
  have hts := atoms_spec (ws := xw yJ3_checkIndex_8e157 cJ3_checkIndex_8e157 3 (some .int)) B.pre
  have htg : ∀ w ∈ xg, w.before _ s = true := fun w h => hts w (List.mem_cons_of_mem _ h)
  have hown : s.vm.findClass RJ3 = some m.cls := findClass_of_methodNamed B.named
  have hlocks := B.notSynchronized
  subst hsz
  have hD := hD0.self (sz := s.heap.size)
  generalize hAe : va_A (pre_J3_checkIndex_8e157_8 T a ex fi fl vi) s.heap.size = A at hD hQ
  have hA : ∀ q : Nat, s.heap.size ≤ q → A q := fun q h => by rw [← hAe]; exact Or.inr h
  have hS : va_S A s.heap s.heap [] := va_S.rf
  replace hP : va_P D vwCl [] s.heap := hP
  replace hD : va_D A [] := hD
  have hl := lv_entry ([.int (vi 0), .int 5, .ref (ex 0)]) (n := 3) (Nat.le_of_ble_eq_true rfl)
  rw [lg_entry_eq]
  generalize (lg_sl ([.int (vi 0), .int 5, .ref (ex 0)]) ++ List.replicate (3 - (lg_sl ([.int (vi 0), .int 5, .ref (ex 0)])).length) Slot.unset).toArray = ls at hl ⊢
  replace hl : lv_has ls 3 [(0, .int (vi 0)), (1, .int 5), (2, .ref (ex 0))] := hl
  refine lv_iload_n hx hb dJ3_checkIndex_8e157_0 rfl (lv_at hl 0 rfl) ?_
  refine lv_if_lt (tgt := 9) hx hb dJ3_checkIndex_8e157_1 (by decide) (fun c => by exfalso; have h9 := xlt (k := 0) (by decide) c; omega) (fun _ => ?_)
  refine lv_iload_n hx hb dJ3_checkIndex_8e157_4 rfl (lv_at hl 0 rfl) ?_
  refine lv_iload_n hx hb dJ3_checkIndex_8e157_5 rfl (lv_at hl 1 rfl) ?_
  refine lv_icmp_lt (tgt := 16) hx hb dJ3_checkIndex_8e157_6 (by decide) (fun _ => ?_) (fun c => by exfalso; have h9 := xnlt (k := 5) (by decide) c; omega)
  refine lv_iload_n hx hb dJ3_checkIndex_8e157_16 rfl (lv_at hl 0 rfl) ?_
  have hP9 := hP.sub (ws' := []) [] rfl
  have hD9 := hD.sub (ws' := []) [] (by decide +kernel) rfl
  rw [hQ]
  exact W.iret (v := (vi 0)) hx hb hr (fun t ht hW => ⟨⟨(vi 0), (), rfl, rfl, ⟨xa [], xf [], xh [], xv [], by rw [ht]; exact hP9, hD9, trivial⟩⟩, hS.F ht⟩) hS.2.2 dJ3_checkIndex_8e157_17
abbrev pre_J0_checkIndex_df160_4 (T : Nat → ClassId) (a ex : Nat → Nat) (fi : Nat → Nat → Int32) (fl : Nat → Nat → Int64) (vi : Nat → Int32) : va_W := []
set_option maxHeartbeats 4000000 in
set_option maxRecDepth 100000 in
theorem c_J0_checkIndex_df160_4 (l : Launch) (D : va_G) (T : Nat → ClassId) (a ex : Nat → Nat) (fi : Nat → Nat → Int32) (fl : Nat → Nat → Int64) (vi : Nat → Int32) (kK kV : Nat → Nat) (sz : Nat) (hd0 : (0 ≤ (vi 0).toInt ∧ (vi 0).toInt ≤ 4)) : Met l yJ0_checkIndex_df160 (xw yJ0_checkIndex_df160 cJ0_checkIndex_df160 2 none) ({ frames := 1, cells := 0, slots := 0, locals := 26 }) (xPs D T kK kV [.int (vi 0), .int 5] sz (pre_J0_checkIndex_df160_4 T a ex fi fl vi)) (va_Qv (fun _ : Unit => True) (xB D (va_A (pre_J0_checkIndex_df160_4 T a ex fi fl vi) sz) (fun _ => True) (fun b fj fm vj => [])) (va_A (pre_J0_checkIndex_df160_4 T a ex fi fl vi) sz)) 0 0 (va_A (pre_J0_checkIndex_df160_4 T a ex fi fl vi) sz) := by
  refine xofW (cc := cJ0_checkIndex_df160) (maxL := 2) (ret := none) (by decide) rfl ?_
  intro p e s m args below meth c s₁ R Q hR hQ B hml hv
  obtain ⟨rfl, hsz, hP, hK, hD0, hT⟩ := hv
  have hx := B.exec
  have hb := B.bytes
  have hr := B.returns
  have hts := atoms_spec (ws := xw yJ0_checkIndex_df160 cJ0_checkIndex_df160 2 none) B.pre
  have htg : ∀ w ∈ xg, w.before _ s = true := fun w h => hts w (List.mem_cons_of_mem _ h)
  have hown : s.vm.findClass RJ0 = some m.cls := findClass_of_methodNamed B.named
  have hlocks := B.notSynchronized
  subst hsz
  have hD := hD0.self (sz := s.heap.size)
  generalize hAe : va_A (pre_J0_checkIndex_df160_4 T a ex fi fl vi) s.heap.size = A at hD hQ hT
  have hA : ∀ q : Nat, s.heap.size ≤ q → A q := fun q h => by rw [← hAe]; exact Or.inr h
  have hS : va_S A s.heap s.heap [] := va_S.rf
  replace hP : va_P D vwCl [] s.heap := hP
  replace hD : va_D A [] := hD
  have hl := lv_entry ([.int (vi 0), .int 5]) (n := 2) (Nat.le_of_ble_eq_true rfl)
  rw [lg_entry_eq]
  generalize (lg_sl ([.int (vi 0), .int 5]) ++ List.replicate (2 - (lg_sl ([.int (vi 0), .int 5])).length) Slot.unset).toArray = ls at hl ⊢
  replace hl : lv_has ls 2 [(0, .int (vi 0)), (1, .int 5)] := hl
  refine lv_iload_n hx hb dJ0_checkIndex_df160_0 rfl (lv_at hl 0 rfl) ?_
  refine lv_iload_n hx hb dJ0_checkIndex_df160_1 rfl (lv_at hl 1 rfl) ?_
  rcases hT.2.2.2 with hz9 | ⟨z9, hz9⟩
  · refine va_gets hx hb hz9 hS hown (htg _ kw_68) (fun _ h9 => h9) dJ0_checkIndex_df160_2 ?_
    have hPc := hP.sub (ws' := (pre_J3_checkIndex_8e157_7 T (xa []) (xa []) (xf []) (xh []) (xv [(vi 0)]))) [] rfl
    have hDc := hD.sub (ws' := (pre_J3_checkIndex_8e157_7 T (xa []) (xa []) (xf []) (xh []) (xv [(vi 0)]))) [] (by decide) rfl
    have hFc := va_free (wc := (pre_J3_checkIndex_8e157_7 T (xa []) (xa []) (xf []) (xh []) (xv [(vi 0)]))) hD hS hA [] rfl
    refine va_calli (va_runS (As := [.int (vi 0), .int 5, .null]) (rest := []) ⟨hx, hb, hml, hown, htg⟩ (c_J3_checkIndex_8e157_7 l D T (xa []) (xa []) (xf []) (xh []) (xv [(vi 0)]) s.heap.size (by show (0 ≤ ((vi 0) : Int32).toInt ∧ ((vi 0) : Int32).toInt ≤ 4); omega)) ⟨callB_of 3 htg (xg_ok kw_72) rfl rfl rfl (htg _ kw_5) (htg _ kw_70) (by decide +kernel) ⟨by rw [hR]; exact Nat.le_of_ble_eq_true rfl, by rw [hR]; exact Nat.le_of_ble_eq_true rfl⟩, htg _ kw_71⟩ (xpreS hK hPc hDc) rfl rfl hl.1 rfl (lv_room (Nat.le_of_ble_eq_true rfl)) dJ0_checkIndex_df160_5 ⟨by rw [hR]; exact Nat.le_of_ble_eq_true rfl, by rw [hR]; exact Nat.le_of_ble_eq_true rfl⟩) hS (fun q _ h => hFc q h) hFc (fun r9 u t H1 locs ht hvm hw hB hz1 hk1 hS => ?_)
    obtain ⟨bk, fik, flk, vik, hP1, hD1, hGk⟩ := hB
    rw [ht] at hP1
    obtain ⟨hP, hD⟩ := va_join (wr := []) (w1 := []) hP hD [] [] rfl rfl (by decide) (by decide) hk1 hFc hP1 hD1
    subst hw
    clear hPc hDc hFc hP1 hD1 hk1 hz1 hvm ht
    generalize H1 = H at hP hS ⊢
    replace hP : va_P D vwCl [] H := hP
    replace hD : va_D A [] := hD
    refine lv_pop hx hb dJ0_checkIndex_df160_8 rfl ?_
    have hP9 := hP.sub (ws' := []) [] rfl
    have hD9 := hD.sub (ws' := []) [] (by decide +kernel) rfl
    rw [hQ]
    exact W.vret hx hb hr (fun t ht hW => ⟨⟨(), rfl, trivial, ⟨xa [], xf [], xh [], xv [], by rw [ht]; exact hP9, hD9, trivial⟩⟩, hS.F ht⟩) hS.2.2 dJ0_checkIndex_df160_9
  · refine va_gets hx hb hz9 hS hown (htg _ kw_68) (fun _ h9 => h9) dJ0_checkIndex_df160_2 ?_
    have hPc := hP.sub (ws' := (pre_J3_checkIndex_8e157_8 T (xa []) (xa [z9]) (xf []) (xh []) (xv [(vi 0)]))) [] rfl
    have hDc := hD.sub (ws' := (pre_J3_checkIndex_8e157_8 T (xa []) (xa [z9]) (xf []) (xh []) (xv [(vi 0)]))) [] (by decide) rfl
    have hFc := va_free (wc := (pre_J3_checkIndex_8e157_8 T (xa []) (xa [z9]) (xf []) (xh []) (xv [(vi 0)]))) hD hS hA [] rfl
    refine va_calli (va_runS (As := [.int (vi 0), .int 5, .ref z9]) (rest := []) ⟨hx, hb, hml, hown, htg⟩ (c_J3_checkIndex_8e157_8 l D T (xa []) (xa [z9]) (xf []) (xh []) (xv [(vi 0)]) s.heap.size (by show (0 ≤ ((vi 0) : Int32).toInt ∧ ((vi 0) : Int32).toInt ≤ 4); omega)) ⟨callB_of 3 htg (xg_ok kw_72) rfl rfl rfl (htg _ kw_5) (htg _ kw_70) (by decide +kernel) ⟨by rw [hR]; exact Nat.le_of_ble_eq_true rfl, by rw [hR]; exact Nat.le_of_ble_eq_true rfl⟩, htg _ kw_71⟩ (xpreS hK hPc hDc) rfl rfl hl.1 rfl (lv_room (Nat.le_of_ble_eq_true rfl)) dJ0_checkIndex_df160_5 ⟨by rw [hR]; exact Nat.le_of_ble_eq_true rfl, by rw [hR]; exact Nat.le_of_ble_eq_true rfl⟩) hS (fun q _ h => hFc q h) hFc (fun r9 u t H1 locs ht hvm hw hB hz1 hk1 hS => ?_)
    obtain ⟨bk_1, fik_1, flk_1, vik_1, hP1, hD1, hGk_1⟩ := hB
    rw [ht] at hP1
    obtain ⟨hP, hD⟩ := va_join (wr := []) (w1 := []) hP hD [] [] rfl rfl (by decide) (by decide) hk1 hFc hP1 hD1
    subst hw
    clear hPc hDc hFc hP1 hD1 hk1 hz1 hvm ht
    generalize H1 = H at hP hS ⊢
    replace hP : va_P D vwCl [] H := hP
    replace hD : va_D A [] := hD
    refine lv_pop hx hb dJ0_checkIndex_df160_8 rfl ?_
    have hP9 := hP.sub (ws' := []) [] rfl
    have hD9 := hD.sub (ws' := []) [] (by decide +kernel) rfl
    rw [hQ]
    exact W.vret hx hb hr (fun t ht hW => ⟨⟨(), rfl, trivial, ⟨xa [], xf [], xh [], xv [], by rw [ht]; exact hP9, hD9, trivial⟩⟩, hS.F ht⟩) hS.2.2 dJ0_checkIndex_df160_9
abbrev pre_J1_charAt_3b067_4 (T : Nat → ClassId) (a ex : Nat → Nat) (fi : Nat → Nat → Int32) (fl : Nat → Nat → Int64) (vi : Nat → Int32) : va_W := []
set_option maxHeartbeats 4000000 in
set_option maxRecDepth 100000 in
theorem c_J1_charAt_3b067_4 (l : Launch) (D : va_G) (T : Nat → ClassId) (a ex : Nat → Nat) (fi : Nat → Nat → Int32) (fl : Nat → Nat → Int64) (vi : Nat → Int32) (kK kV : Nat → Nat) (sz : Nat) (hd0 : (0 ≤ (vi 0).toInt ∧ (vi 0).toInt ≤ 4)) : Met l yJ1_charAt_3b067 (xw yJ1_charAt_3b067 cJ1_charAt_3b067 2 (some .char)) ({ frames := 2, cells := 0, slots := 0, locals := 51 }) (xPs D T kK kV [.ref (kV 19), .int (vi 0)] sz (pre_J1_charAt_3b067_4 T a ex fi fl vi)) (va_Qi (fun r (_ : Unit) => narrow .char (.int r) = .int r) (xB D (va_A (pre_J1_charAt_3b067_4 T a ex fi fl vi) sz) (fun _ => True) (fun b fj fm vj => [])) (va_A (pre_J1_charAt_3b067_4 T a ex fi fl vi) sz)) 0 0 (va_A (pre_J1_charAt_3b067_4 T a ex fi fl vi) sz) := by
  refine xofW (cc := cJ1_charAt_3b067) (maxL := 2) (ret := (some .char)) (by decide) rfl ?_
  intro p e s m args below meth c s₁ R Q hR hQ B hml hv
  obtain ⟨rfl, hsz, hP, hK, hD0, hT⟩ := hv
  have hx := B.exec
  have hb := B.bytes
  have hr := B.returns
  have hts := atoms_spec (ws := xw yJ1_charAt_3b067 cJ1_charAt_3b067 2 (some .char)) B.pre
  have htg : ∀ w ∈ xg, w.before _ s = true := fun w h => hts w (List.mem_cons_of_mem _ h)
  have hown : s.vm.findClass RJ1 = some m.cls := findClass_of_methodNamed B.named
  have hlocks := B.notSynchronized
  subst hsz
  have hD := hD0.self (sz := s.heap.size)
  generalize hAe : va_A (pre_J1_charAt_3b067_4 T a ex fi fl vi) s.heap.size = A at hD hQ hT
  have hA : ∀ q : Nat, s.heap.size ≤ q → A q := fun q h => by rw [← hAe]; exact Or.inr h
  have hS : va_S A s.heap s.heap [] := va_S.rf
  replace hP : va_P D vwCl [] s.heap := hP
  replace hD : va_D A [] := hD
  have hl := lv_entry ([.ref (kV 19), .int (vi 0)]) (n := 2) (Nat.le_of_ble_eq_true rfl)
  rw [lg_entry_eq]
  generalize (lg_sl ([.ref (kV 19), .int (vi 0)]) ++ List.replicate (2 - (lg_sl ([.ref (kV 19), .int (vi 0)])).length) Slot.unset).toArray = ls at hl ⊢
  replace hl : lv_has ls 2 [(0, .ref (kV 19)), (1, .int (vi 0))] := hl
  refine lv_iload_n hx hb dJ1_charAt_3b067_0 rfl (lv_at hl 1 rfl) ?_
  refine lv_aload_n hx hb dJ1_charAt_3b067_1 rfl (lv_at hl 0 rfl) ?_
  refine va_tlen (v := 5) hx hb (hT.2.1 19 (by decide)).2.2.2 hS (by decide) dJ1_charAt_3b067_2 ?_
  have hPc := hP.sub (ws' := (pre_J0_checkIndex_df160_4 T (xa []) (xa []) (xf []) (xh []) (xv [(vi 0)]))) [] rfl
  have hDc := hD.sub (ws' := (pre_J0_checkIndex_df160_4 T (xa []) (xa []) (xf []) (xh []) (xv [(vi 0)]))) [] (by decide) rfl
  have hFc := va_free (wc := (pre_J0_checkIndex_df160_4 T (xa []) (xa []) (xf []) (xh []) (xv [(vi 0)]))) hD hS hA [] rfl
  refine va_callv (va_runS (As := [.int (vi 0), .int 5]) (rest := []) ⟨hx, hb, hml, hown, htg⟩ (c_J0_checkIndex_df160_4 l D T (xa []) (xa []) (xf []) (xh []) (xv [(vi 0)]) kK kV s.heap.size (by show (0 ≤ ((vi 0) : Int32).toInt ∧ ((vi 0) : Int32).toInt ≤ 4); omega)) ⟨callB_of 2 htg (xg_ok kw_67) rfl rfl rfl (htg _ kw_3) (htg _ kw_65) (by decide +kernel) ⟨by rw [hR]; exact Nat.le_of_ble_eq_true rfl, by rw [hR]; exact Nat.le_of_ble_eq_true rfl⟩, htg _ kw_66⟩ (xpreSs hK hPc hDc hT hFc hS) rfl rfl hl.1 rfl (lv_room (Nat.le_of_ble_eq_true rfl)) dJ1_charAt_3b067_3 ⟨by rw [hR]; exact Nat.le_of_ble_eq_true rfl, by rw [hR]; exact Nat.le_of_ble_eq_true rfl⟩) hS (fun q _ h => hFc q h) hFc (fun u t H1 locs ht hvm hw hB hz1 hk1 hS => ?_)
  obtain ⟨bk, fik, flk, vik, hP1, hD1, hGk⟩ := hB
  rw [ht] at hP1
  obtain ⟨hP, hD⟩ := va_join (wr := []) (w1 := []) hP hD [] [] rfl rfl (by decide) (by decide) hk1 hFc hP1 hD1
  clear hPc hDc hFc hP1 hD1 hk1 hz1 hvm ht hw
  generalize H1 = H at hP hS ⊢
  replace hP : va_P D vwCl [] H := hP
  replace hD : va_D A [] := hD
  refine lv_aload_n hx hb dJ1_charAt_3b067_6 rfl (lv_at hl 0 rfl) ?_
  refine lv_iload_n hx hb dJ1_charAt_3b067_7 rfl (lv_at hl 1 rfl) ?_
  refine va_tb hx hb (hT.2.1 19 (by decide)).2.2.2 hS (show vp_in (vi 0) 5 from (vp_in_iff.mpr (by omega))) rfl dJ1_charAt_3b067_8 ?_
  refine lv_topi (fun z8 _ => ?_)
  refine lv_sipush (v := 255) hx hb dJ1_charAt_3b067_9 (by decide) ?_
  refine lv_iand hx hb dJ1_charAt_3b067_12 ?_
  refine lv_topi (fun z12 _ => ?_)
  refine lv_i2c hx hb dJ1_charAt_3b067_13 rfl ?_
  refine lv_topi (fun z13 ez13 => ?_)
  have nz13 : narrow .char (.int z13) = .int z13 := by rw [ez13]; exact pk_nc _
  have hP9 := hP.sub (ws' := []) [] rfl
  have hD9 := hD.sub (ws' := []) [] (by decide +kernel) rfl
  rw [hQ]
  exact W.zret (v := z13) hx hb hr nz13 (fun t ht hW => ⟨⟨z13, (), rfl, nz13, ⟨xa [], xf [], xh [], xv [], by rw [ht]; exact hP9, hD9, trivial⟩⟩, hS.F ht⟩) hS.2.2 dJ1_charAt_3b067_14
