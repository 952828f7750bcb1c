abbrev pre_X2_passMondays (T : Nat → ClassId) (a ex : Nat → Nat) (fi : Nat → Nat → Int32) (fl : Nat → Nat → Int64) (vi : Nat → Int32) : va_W := [((a 0), .inr (2, [.ref (a 1), .int 0, .int 0, .int 0, .int 0, .int 0, .int 0, .ref (ex 0), .ref (ex 1), .ref (ex 2), .ref (ex 3), .ref (ex 4), .ref (ex 5), .ref (ex 6), .ref (a 2)])), ((a 1), .inr (7, [.int 0, .int 0, .ref (ex 7), .ref (ex 8), .ref (ex 9), .ref (ex 10), .ref (ex 11), .ref (ex 12), .ref (ex 13), .ref (ex 14), .ref (ex 15), .ref (ex 16)])), ((a 2), .inl (T 2, 200, .inr (.inl (fun _ => 0))))]
set_option maxHeartbeats 4000000 in
set_option maxRecDepth 100000 in
theorem c_X2_passMondays (l : Launch) (D : va_G) (T : Nat → ClassId) (a ex : Nat → Nat) (fi : Nat → Nat → Int32) (fl : Nat → Nat → Int64) (vi : Nat → Int32) (sz : Nat) (hd0 : (1 ≤ (vi 0).toInt ∧ (vi 0).toInt ≤ 60)) : Met l yX2_passMondays (xw yX2_passMondays cX2_passMondays 3 none) ({ frames := 1, cells := 0, slots := 0, locals := 27 }) (xP D T [.ref (a 0), .int (vi 0)] sz (pre_X2_passMondays T a ex fi fl vi)) (va_Qv (fun _ : Unit => True) (xB D (va_A (pre_X2_passMondays T a ex fi fl vi) sz) (fun _ => True) (fun b fj fm vj => [((a 0), .inr (2, [.ref (a 1), .int (vj 0), .int 0, .int 0, .int 0, .int 0, .int 0, .ref (ex 0), .ref (ex 1), .ref (ex 2), .ref (ex 3), .ref (ex 4), .ref (ex 5), .ref (ex 6), .ref (a 2)])), ((a 1), .inr (7, [.int 0, .int 0, .ref (ex 7), .ref (ex 8), .ref (ex 9), .ref (ex 10), .ref (ex 11), .ref (ex 12), .ref (ex 13), .ref (ex 14), .ref (ex 15), .ref (ex 16)])), ((a 2), .inl (T 2, 200, .inr (.inl (fun _ => 0))))])) (va_A (pre_X2_passMondays T a ex fi fl vi) sz)) 0 0 (va_A (pre_X2_passMondays T a ex fi fl vi) sz) := by
  refine xofW (cc := cX2_passMondays) (maxL := 3) (ret := none) (by decide) rfl ?_
  intro p e s m args below meth c s₁ R Q hR hQ B hml hv
  obtain ⟨rfl, hsz, hP, hK, hD0⟩ := hv
  have hx := B.exec
  have hb := B.bytes
  have hr := B.returns
  have hts := atoms_spec (ws := xw yX2_passMondays cX2_passMondays 3 none) B.pre
  have htg : ∀ w ∈ xg, w.before _ s = true := fun w h => hts w (List.mem_cons_of_mem _ h)
  have hown : s.vm.findClass RX2 = some m.cls := findClass_of_methodNamed B.named
  have hlocks := B.notSynchronized
  subst hsz
  have hD := hD0.self (sz := s.heap.size)
  generalize hAe : va_A (pre_X2_passMondays T a ex fi fl vi) s.heap.size = A at hD hQ
  have hA : ∀ q : Nat, s.heap.size ≤ q → A q := fun q h => by rw [← hAe]; exact Or.inr h
  have hS : va_S A s.heap s.heap [] := va_S.rf
  replace hP : va_P D vwCl [((a 0), .inr (2, [.ref (a 1), .int 0, .int 0, .int 0, .int 0, .int 0, .int 0, .ref (ex 0), .ref (ex 1), .ref (ex 2), .ref (ex 3), .ref (ex 4), .ref (ex 5), .ref (ex 6), .ref (a 2)])), ((a 1), .inr (7, [.int 0, .int 0, .ref (ex 7), .ref (ex 8), .ref (ex 9), .ref (ex 10), .ref (ex 11), .ref (ex 12), .ref (ex 13), .ref (ex 14), .ref (ex 15), .ref (ex 16)])), ((a 2), .inl (T 2, 200, .inr (.inl (fun _ => 0))))] s.heap := hP
  replace hD : va_D A [((a 0), .inr (2, [.ref (a 1), .int 0, .int 0, .int 0, .int 0, .int 0, .int 0, .ref (ex 0), .ref (ex 1), .ref (ex 2), .ref (ex 3), .ref (ex 4), .ref (ex 5), .ref (ex 6), .ref (a 2)])), ((a 1), .inr (7, [.int 0, .int 0, .ref (ex 7), .ref (ex 8), .ref (ex 9), .ref (ex 10), .ref (ex 11), .ref (ex 12), .ref (ex 13), .ref (ex 14), .ref (ex 15), .ref (ex 16)])), ((a 2), .inl (T 2, 200, .inr (.inl (fun _ => 0))))] := hD
  have hl := lv_entry ([.ref (a 0), .int (vi 0)]) (n := 3) (Nat.le_of_ble_eq_true rfl)
  rw [lg_entry_eq]
  generalize (lg_sl ([.ref (a 0), .int (vi 0)]) ++ List.replicate (3 - (lg_sl ([.ref (a 0), .int (vi 0)])).length) Slot.unset).toArray = ls at hl ⊢
  replace hl : lv_has ls 3 [(0, .ref (a 0)), (1, .int (vi 0))] := hl
  refine lv_iconst (v := 0) hx hb dX2_passMondays_0 (by decide) ?_
  refine lv_istore_n (lv' := [(2, .int 0), (0, .ref (a 0)), (1, .int (vi 0))]) hx hb dX2_passMondays_1 rfl hl (by decide) rfl (fun ls hl => ?_)
  obtain ⟨nn, hnn, enn⟩ := nI_of2 (x := (vi 0)) (M := 60) (n := 60) (by decide) (fun c => by have h9 := xlt (k := 0) (by decide) c; omega) (Int32.le_iff_toInt_le.mpr (by show (vi 0).toInt ≤ 60; omega))
  rw [enn] at hl
  have lp : ∀ (n iv : Nat) (mv : Int32) (H : Heap) (locs : List Loc) (ls : Array Slot), iv + n = nn → (0 ≤ mv.toInt ∧ mv.toInt ≤ 200) → va_P D vwCl [((a 0), .inr (2, [.ref (a 1), .int mv, .int 0, .int 0, .int 0, .int 0, .int 0, .ref (ex 0), .ref (ex 1), .ref (ex 2), .ref (ex 3), .ref (ex 4), .ref (ex 5), .ref (ex 6), .ref (a 2)])), ((a 1), .inr (7, [.int 0, .int 0, .ref (ex 7), .ref (ex 8), .ref (ex 9), .ref (ex 10), .ref (ex 11), .ref (ex 12), .ref (ex 13), .ref (ex 14), .ref (ex 15), .ref (ex 16)])), ((a 2), .inl (T 2, 200, .inr (.inl (fun _ => 0))))] H → va_D A [((a 0), .inr (2, [.ref (a 1), .int mv, .int 0, .int 0, .int 0, .int 0, .int 0, .ref (ex 0), .ref (ex 1), .ref (ex 2), .ref (ex 3), .ref (ex 4), .ref (ex 5), .ref (ex 6), .ref (a 2)])), ((a 1), .inr (7, [.int 0, .int 0, .ref (ex 7), .ref (ex 8), .ref (ex 9), .ref (ex 10), .ref (ex 11), .ref (ex 12), .ref (ex 13), .ref (ex 14), .ref (ex 15), .ref (ex 16)])), ((a 2), .inl (T 2, 200, .inr (.inl (fun _ => 0))))] → va_S A s.heap H locs → lv_has ls 3 [(2, .int (nI iv)), (0, .ref (a 0)), (1, .int (nI nn))] → W p l e R s m ([.ref (a 0), .int (vi 0)] : List Value).toArray below meth c H locs 0 0 Q (F0 m 2 ls []) := by
    intro n
    induction n with
    | zero =>
      intro iv mv H locs ls hin hmv hP hD hS hl
      obtain rfl : iv = nn := by omega
      refine lv_iload_n hx hb dX2_passMondays_2 rfl (lv_at hl 0 rfl) ?_
      refine lv_iload_n hx hb dX2_passMondays_3 rfl (lv_at hl 2 rfl) ?_
      refine lv_icmp_ge (tgt := 17) hx hb dX2_passMondays_4 (by decide) (fun _ => ?_) (fun c => by exfalso; have h9 := mt Int32.le_iff_toInt_le.mpr c; have h7 := nI_toInt (n := iv) (by omega); have h8 := nI_toInt (n := iv) (by omega); omega)
      have hP9 := hP.sub (ws' := [((a 0), .inr (2, [.ref (a 1), .int mv, .int 0, .int 0, .int 0, .int 0, .int 0, .ref (ex 0), .ref (ex 1), .ref (ex 2), .ref (ex 3), .ref (ex 4), .ref (ex 5), .ref (ex 6), .ref (a 2)])), ((a 1), .inr (7, [.int 0, .int 0, .ref (ex 7), .ref (ex 8), .ref (ex 9), .ref (ex 10), .ref (ex 11), .ref (ex 12), .ref (ex 13), .ref (ex 14), .ref (ex 15), .ref (ex 16)])), ((a 2), .inl (T 2, 200, .inr (.inl (fun _ => 0))))]) [0, 1, 2] rfl
      have hD9 := hD.sub (ws' := [((a 0), .inr (2, [.ref (a 1), .int mv, .int 0, .int 0, .int 0, .int 0, .int 0, .ref (ex 0), .ref (ex 1), .ref (ex 2), .ref (ex 3), .ref (ex 4), .ref (ex 5), .ref (ex 6), .ref (a 2)])), ((a 1), .inr (7, [.int 0, .int 0, .ref (ex 7), .ref (ex 8), .ref (ex 9), .ref (ex 10), .ref (ex 11), .ref (ex 12), .ref (ex 13), .ref (ex 14), .ref (ex 15), .ref (ex 16)])), ((a 2), .inl (T 2, 200, .inr (.inl (fun _ => 0))))]) [0, 1, 2] (by decide +kernel) rfl
      rw [hQ]
      exact W.vret hx hb hr (fun t ht hW => ⟨⟨(), rfl, trivial, ⟨xa [], xf [], xh [], xv [mv], by rw [ht]; exact hP9, hD9, trivial⟩⟩, hS.F ht⟩) hS.2.2 dX2_passMondays_17
    | succ n ih =>
      intro iv mv H locs ls hin hmv hP hD hS hl
      refine lv_iload_n hx hb dX2_passMondays_2 rfl (lv_at hl 0 rfl) ?_
      refine lv_iload_n hx hb dX2_passMondays_3 rfl (lv_at hl 2 rfl) ?_
      refine lv_icmp_ge (tgt := 17) hx hb dX2_passMondays_4 (by decide) (fun c => by exfalso; have h9 := Int32.le_iff_toInt_le.mp c; have h7 := nI_toInt (n := iv) (by omega); have h8 := nI_toInt (n := nn) (by omega); omega) (fun _ => ?_)
      refine lv_aload_n hx hb dX2_passMondays_7 rfl (lv_at hl 1 rfl) ?_
      have hPc := hP.sub (ws' := (pre_X2_endMonday T (xa [(a 0), (a 1), (a 2)]) (xa [(ex 0), (ex 1), (ex 2), (ex 3), (ex 4), (ex 5), (ex 6), (ex 7), (ex 8), (ex 9), (ex 10), (ex 11), (ex 12), (ex 13), (ex 14), (ex 15), (ex 16)]) (xf []) (xh []) (xv [mv]))) [0, 1, 2] rfl
      have hDc := hD.sub (ws' := (pre_X2_endMonday T (xa [(a 0), (a 1), (a 2)]) (xa [(ex 0), (ex 1), (ex 2), (ex 3), (ex 4), (ex 5), (ex 6), (ex 7), (ex 8), (ex 9), (ex 10), (ex 11), (ex 12), (ex 13), (ex 14), (ex 15), (ex 16)]) (xf []) (xh []) (xv [mv]))) [0, 1, 2] (by decide) rfl
      have hFc := va_free (wc := (pre_X2_endMonday T (xa [(a 0), (a 1), (a 2)]) (xa [(ex 0), (ex 1), (ex 2), (ex 3), (ex 4), (ex 5), (ex 6), (ex 7), (ex 8), (ex 9), (ex 10), (ex 11), (ex 12), (ex 13), (ex 14), (ex 15), (ex 16)]) (xf []) (xh []) (xv [mv]))) hD hS hA [0, 1, 2] rfl
      refine va_callv (va_runV (As := []) (rest := []) ⟨hx, hb, hml, hown, htg⟩ (c_X2_endMonday l D T (xa [(a 0), (a 1), (a 2)]) (xa [(ex 0), (ex 1), (ex 2), (ex 3), (ex 4), (ex 5), (ex 6), (ex 7), (ex 8), (ex 9), (ex 10), (ex 11), (ex 12), (ex 13), (ex 14), (ex 15), (ex 16)]) (xf []) (xh []) (xv [mv]) H.size (by show (0 ≤ (mv : Int32).toInt ∧ (mv : Int32).toInt ≤ 200); omega)) ⟨callB_of 0 htg (xg_ok kw_878) rfl rfl rfl (htg _ kw_9) (htg _ kw_875) (by decide +kernel) ⟨by rw [hR]; exact Nat.le_of_ble_eq_true rfl, by rw [hR]; exact Nat.le_of_ble_eq_true rfl⟩, htg _ kw_877, htg _ ks_64⟩ (xpreV hK hPc hDc (va_recv hK.1 hPc (ci := 2) (q0 := 0) rfl rfl)) rfl rfl hl.1 rfl (lv_room (Nat.le_of_ble_eq_true rfl)) dX2_passMondays_8 ⟨by rw [hR]; exact Nat.le_of_ble_eq_true rfl, by rw [hR]; exact Nat.le_of_ble_eq_true rfl⟩) hS (fun q _ h => hFc q h) hFc (fun u t H1 locs ht hvm hw hB hz1 hk1 hS => ?_)
      obtain ⟨bk, fik, flk, vik, hP1, hD1, hGk⟩ := hB
      have hgk0 : (0 ≤ (vik 0).toInt ∧ (vik 0).toInt ≤ 200) := hGk.1
      rw [ht] at hP1
      obtain ⟨hP, hD⟩ := va_join (wr := []) (w1 := [((a 0), .inr (2, [.ref (a 1), .int (vik 0), .int 0, .int 0, .int 0, .int 0, .int 0, .ref (ex 0), .ref (ex 1), .ref (ex 2), .ref (ex 3), .ref (ex 4), .ref (ex 5), .ref (ex 6), .ref (a 2)])), ((a 1), .inr (7, [.int 0, .int 0, .ref (ex 7), .ref (ex 8), .ref (ex 9), .ref (ex 10), .ref (ex 11), .ref (ex 12), .ref (ex 13), .ref (ex 14), .ref (ex 15), .ref (ex 16)])), ((a 2), .inl (T 2, 200, .inr (.inl (fun _ => 0))))]) hP hD [0, 1, 2] [] rfl rfl (by decide) (by decide) hk1 hFc hP1 hD1
      clear hPc hDc hFc hP1 hD1 hk1 hz1 hvm ht hw
      generalize H1 = H at hP hS ⊢
      replace hP : va_P D vwCl [((a 0), .inr (2, [.ref (a 1), .int (vik 0), .int 0, .int 0, .int 0, .int 0, .int 0, .ref (ex 0), .ref (ex 1), .ref (ex 2), .ref (ex 3), .ref (ex 4), .ref (ex 5), .ref (ex 6), .ref (a 2)])), ((a 1), .inr (7, [.int 0, .int 0, .ref (ex 7), .ref (ex 8), .ref (ex 9), .ref (ex 10), .ref (ex 11), .ref (ex 12), .ref (ex 13), .ref (ex 14), .ref (ex 15), .ref (ex 16)])), ((a 2), .inl (T 2, 200, .inr (.inl (fun _ => 0))))] H := hP
      replace hD : va_D A [((a 0), .inr (2, [.ref (a 1), .int (vik 0), .int 0, .int 0, .int 0, .int 0, .int 0, .ref (ex 0), .ref (ex 1), .ref (ex 2), .ref (ex 3), .ref (ex 4), .ref (ex 5), .ref (ex 6), .ref (a 2)])), ((a 1), .inr (7, [.int 0, .int 0, .ref (ex 7), .ref (ex 8), .ref (ex 9), .ref (ex 10), .ref (ex 11), .ref (ex 12), .ref (ex 13), .ref (ex 14), .ref (ex 15), .ref (ex 16)])), ((a 2), .inl (T 2, 200, .inr (.inl (fun _ => 0))))] := hD
      refine lv_iinc (v := (nI (iv + 1))) (lv' := [(2, .int (nI (iv + 1))), (0, .ref (a 0)), (1, .int (nI nn))]) hx hb dX2_passMondays_11 hl (k := 0) rfl (nI_add (iv) 1) (by decide) rfl (fun ls hl => ?_)
      refine lv_goto (tgt := 2) hx hb dX2_passMondays_14 (by decide) ?_
      exact ih (iv + 1) (vik 0) _ _ _ (by omega) (by omega) (hP.sub [0, 1, 2] rfl) (hD.sub [0, 1, 2] (by decide) rfl) hS (lv_sub hl [0, 1, 2] rfl)
  exact lp nn 0 0 _ _ _ (by omega) (by decide) hP hD hS hl
abbrev pre_X11_mondays (T : Nat → ClassId) (a ex : Nat → Nat) (fi : Nat → Nat → Int32) (fl : Nat → Nat → Int64) (vi : Nat → Int32) : va_W := (((a 0), .inr (11, [.ref (ex 0), .ref (a 21), .ref (ex 1), .ref (ex 2), .ref (a 1), .ref (ex 3), .ref (a 2), .ref (ex 4), .ref (ex 5), .ref (ex 6), .ref (ex 7), .ref (ex 8), .ref (ex 9), .ref (ex 10), .int 0])) :: ((a 1), .inr (2, [.ref (a 21), .int 0, .int 0, .int 0, .int 0, .int 0, .int 0, .ref (a 5), .ref (a 7), .ref (a 9), .ref (a 11), .ref (a 13), .ref (a 15), .ref (a 17), .ref (a 19)])) :: ((a 2), .inr (9, [.ref (a 3), .int 0, .int 0])) :: ((a 3), .inl (T 5, 4, .inr (.inr (.inr (.inr (xo [some (a 4), some (ex 11), some (ex 12), some (ex 13)])))))) :: ((a 4), .inr (2, [.ref (a 21), .int 0, .int 0, .int 0, .int 0, .int 0, .int 0, .ref (a 6), .ref (a 8), .ref (a 10), .ref (a 12), .ref (a 14), .ref (a 16), .ref (a 18), .ref (a 20)])) :: ((a 5), .inl (T 1, 9, .inl (fun _ => 0))) :: ((a 6), .inl (T 1, 9, .inl (fun _ => 0))) :: ((a 7), .inl (T 1, 9, .inl (fun _ => 0))) :: ((a 8), .inl (T 1, 9, .inl (fun _ => 0))) :: ((a 9), .inl (T 1, 9, .inl (fun _ => 0))) :: ((a 10), .inl (T 1, 9, .inl (fun _ => 0))) :: ((a 11), .inl (T 1, 9, .inl (fun _ => 0))) :: ((a 12), .inl (T 1, 9, .inl (fun _ => 0))) :: ((a 13), .inl (T 1, 9, .inl (fun _ => 0))) :: ((a 14), .inl (T 1, 9, .inl (fun _ => 0))) :: ((a 15), .inl (T 1, 9, .inl (fun _ => 0))) :: ((a 16), .inl (T 1, 9, .inl (fun _ => 0))) :: ((a 17), .inl (T 1, 9, .inl (fun _ => 0))) :: ((a 18), .inl (T 1, 9, .inl (fun _ => 0))) :: ((a 19), .inl (T 2, 200, .inr (.inl (fun _ => 0)))) :: ((a 20), .inl (T 2, 200, .inr (.inl (fun _ => 0)))) :: ((a 21), .inr (7, [.int 0, .int 0, .ref (ex 14), .ref (ex 15), .ref (ex 16), .ref (ex 17), .ref (ex 18), .ref (ex 19), .ref (ex 20), .ref (ex 21), .ref (ex 22), .ref (ex 23)])) :: [])
set_option maxHeartbeats 4000000 in
set_option maxRecDepth 100000 in
theorem c_X11_mondays (l : Launch) (D : va_G) (T : Nat → ClassId) (a ex : Nat → Nat) (fi : Nat → Nat → Int32) (fl : Nat → Nat → Int64) (vi : Nat → Int32) (sz : Nat) (hd0 : (1 ≤ (vi 0).toInt ∧ (vi 0).toInt ≤ 60)) : Met l yX11_mondays (xw yX11_mondays cX11_mondays 3 (some .int)) ({ frames := 4, cells := 0, slots := 0, locals := 195 }) (xP D T [.ref (a 0), .int (vi 0)] sz (pre_X11_mondays T a ex fi fl vi)) (va_Qi (fun r (_ : Unit) => r = (vi 0)) (xB D (va_A (pre_X11_mondays T a ex fi fl vi) sz) (fun _ => True) (fun b fj fm vj => [])) (va_A (pre_X11_mondays T a ex fi fl vi) sz)) 0 0 (va_A (pre_X11_mondays T a ex fi fl vi) sz) := by
  refine xofW (cc := cX11_mondays) (maxL := 3) (ret := (some .int)) (by decide) rfl ?_
  intro p e s m args below meth c s₁ R Q hR hQ B hml hv
  obtain ⟨rfl, hsz, hP, hK, hD0⟩ := hv
  have hx := B.exec
  have hb := B.bytes
  have hr := B.returns
  have hts := atoms_spec (ws := xw yX11_mondays cX11_mondays 3 (some .int)) B.pre
  have htg : ∀ w ∈ xg, w.before _ s = true := fun w h => hts w (List.mem_cons_of_mem _ h)
  have hown : s.vm.findClass RX11 = some m.cls := findClass_of_methodNamed B.named
  have hlocks := B.notSynchronized
  subst hsz
  have hD := hD0.self (sz := s.heap.size)
  generalize hAe : va_A (pre_X11_mondays T a ex fi fl vi) s.heap.size = A at hD hQ
  have hA : ∀ q : Nat, s.heap.size ≤ q → A q := fun q h => by rw [← hAe]; exact Or.inr h
  have hS : va_S A s.heap s.heap [] := va_S.rf
  replace hP : va_P D vwCl (((a 0), .inr (11, [.ref (ex 0), .ref (a 21), .ref (ex 1), .ref (ex 2), .ref (a 1), .ref (ex 3), .ref (a 2), .ref (ex 4), .ref (ex 5), .ref (ex 6), .ref (ex 7), .ref (ex 8), .ref (ex 9), .ref (ex 10), .int 0])) :: ((a 1), .inr (2, [.ref (a 21), .int 0, .int 0, .int 0, .int 0, .int 0, .int 0, .ref (a 5), .ref (a 7), .ref (a 9), .ref (a 11), .ref (a 13), .ref (a 15), .ref (a 17), .ref (a 19)])) :: ((a 2), .inr (9, [.ref (a 3), .int 0, .int 0])) :: ((a 3), .inl (T 5, 4, .inr (.inr (.inr (.inr (xo [some (a 4), some (ex 11), some (ex 12), some (ex 13)])))))) :: ((a 4), .inr (2, [.ref (a 21), .int 0, .int 0, .int 0, .int 0, .int 0, .int 0, .ref (a 6), .ref (a 8), .ref (a 10), .ref (a 12), .ref (a 14), .ref (a 16), .ref (a 18), .ref (a 20)])) :: ((a 5), .inl (T 1, 9, .inl (fun _ => 0))) :: ((a 6), .inl (T 1, 9, .inl (fun _ => 0))) :: ((a 7), .inl (T 1, 9, .inl (fun _ => 0))) :: ((a 8), .inl (T 1, 9, .inl (fun _ => 0))) :: ((a 9), .inl (T 1, 9, .inl (fun _ => 0))) :: ((a 10), .inl (T 1, 9, .inl (fun _ => 0))) :: ((a 11), .inl (T 1, 9, .inl (fun _ => 0))) :: ((a 12), .inl (T 1, 9, .inl (fun _ => 0))) :: ((a 13), .inl (T 1, 9, .inl (fun _ => 0))) :: ((a 14), .inl (T 1, 9, .inl (fun _ => 0))) :: ((a 15), .inl (T 1, 9, .inl (fun _ => 0))) :: ((a 16), .inl (T 1, 9, .inl (fun _ => 0))) :: ((a 17), .inl (T 1, 9, .inl (fun _ => 0))) :: ((a 18), .inl (T 1, 9, .inl (fun _ => 0))) :: ((a 19), .inl (T 2, 200, .inr (.inl (fun _ => 0)))) :: ((a 20), .inl (T 2, 200, .inr (.inl (fun _ => 0)))) :: ((a 21), .inr (7, [.int 0, .int 0, .ref (ex 14), .ref (ex 15), .ref (ex 16), .ref (ex 17), .ref (ex 18), .ref (ex 19), .ref (ex 20), .ref (ex 21), .ref (ex 22), .ref (ex 23)])) :: []) s.heap := hP
  replace hD : va_D A (((a 0), .inr (11, [.ref (ex 0), .ref (a 21), .ref (ex 1), .ref (ex 2), .ref (a 1), .ref (ex 3), .ref (a 2), .ref (ex 4), .ref (ex 5), .ref (ex 6), .ref (ex 7), .ref (ex 8), .ref (ex 9), .ref (ex 10), .int 0])) :: ((a 1), .inr (2, [.ref (a 21), .int 0, .int 0, .int 0, .int 0, .int 0, .int 0, .ref (a 5), .ref (a 7), .ref (a 9), .ref (a 11), .ref (a 13), .ref (a 15), .ref (a 17), .ref (a 19)])) :: ((a 2), .inr (9, [.ref (a 3), .int 0, .int 0])) :: ((a 3), .inl (T 5, 4, .inr (.inr (.inr (.inr (xo [some (a 4), some (ex 11), some (ex 12), some (ex 13)])))))) :: ((a 4), .inr (2, [.ref (a 21), .int 0, .int 0, .int 0, .int 0, .int 0, .int 0, .ref (a 6), .ref (a 8), .ref (a 10), .ref (a 12), .ref (a 14), .ref (a 16), .ref (a 18), .ref (a 20)])) :: ((a 5), .inl (T 1, 9, .inl (fun _ => 0))) :: ((a 6), .inl (T 1, 9, .inl (fun _ => 0))) :: ((a 7), .inl (T 1, 9, .inl (fun _ => 0))) :: ((a 8), .inl (T 1, 9, .inl (fun _ => 0))) :: ((a 9), .inl (T 1, 9, .inl (fun _ => 0))) :: ((a 10), .inl (T 1, 9, .inl (fun _ => 0))) :: ((a 11), .inl (T 1, 9, .inl (fun _ => 0))) :: ((a 12), .inl (T 1, 9, .inl (fun _ => 0))) :: ((a 13), .inl (T 1, 9, .inl (fun _ => 0))) :: ((a 14), .inl (T 1, 9, .inl (fun _ => 0))) :: ((a 15), .inl (T 1, 9, .inl (fun _ => 0))) :: ((a 16), .inl (T 1, 9, .inl (fun _ => 0))) :: ((a 17), .inl (T 1, 9, .inl (fun _ => 0))) :: ((a 18), .inl (T 1, 9, .inl (fun _ => 0))) :: ((a 19), .inl (T 2, 200, .inr (.inl (fun _ => 0)))) :: ((a 20), .inl (T 2, 200, .inr (.inl (fun _ => 0)))) :: ((a 21), .inr (7, [.int 0, .int 0, .ref (ex 14), .ref (ex 15), .ref (ex 16), .ref (ex 17), .ref (ex 18), .ref (ex 19), .ref (ex 20), .ref (ex 21), .ref (ex 22), .ref (ex 23)])) :: []) := hD
  have hl := lv_entry ([.ref (a 0), .int (vi 0)]) (n := 3) (Nat.le_of_ble_eq_true rfl)
  rw [lg_entry_eq]
  generalize (lg_sl ([.ref (a 0), .int (vi 0)]) ++ List.replicate (3 - (lg_sl ([.ref (a 0), .int (vi 0)])).length) Slot.unset).toArray = ls at hl ⊢
  replace hl : lv_has ls 3 [(0, .ref (a 0)), (1, .int (vi 0))] := hl
  refine lv_iload_n hx hb dX11_mondays_0 rfl (lv_at hl 1 rfl) ?_
  refine lv_iconst (v := 1) hx hb dX11_mondays_1 (by decide) ?_
  refine lv_icmp_lt (tgt := 11) hx hb dX11_mondays_2 (by decide) (fun c => by exfalso; have h9 := xlt (k := 1) (by decide) c; omega) (fun _ => ?_)
  refine lv_iload_n hx hb dX11_mondays_5 rfl (lv_at hl 1 rfl) ?_
  refine lv_bipush (v := 60) hx hb dX11_mondays_6 (by decide) ?_
  refine lv_icmp_le (tgt := 13) hx hb dX11_mondays_8 (by decide) (fun _ => ?_) (fun c => by exfalso; have h9 := xnle (k := 60) (by decide) c; omega)
  refine lv_iload_n hx hb dX11_mondays_13 rfl (lv_at hl 1 rfl) ?_
  refine lv_sipush (v := 200) hx hb dX11_mondays_14 (by decide) ?_
  refine lv_aload_n hx hb dX11_mondays_17 rfl (lv_at hl 0 rfl) ?_
  refine va_get (D := D) (ci := 11) (v := .ref (a 1)) (C := RX11) (T := TX11) (N := 15) hx hb htg inX11 hown hK.1 hP 0 rfl rfl 4 (by decide) (htg _ kw_500) (fun _ h9 => h9) rfl dX11_mondays_18 ?_
  refine va_getN (D := D) (ci := 2) (v := .int 0) (C := RX2) (T := TX2) (N := 15) hx hb htg inX2 hown hK.1 hP 1 rfl rfl 1 (by decide) (va_Nw.use rfl (hK.2.1 _ kn_249)) (fun _ h9 => h9) rfl dX11_mondays_21 ?_
  refine lv_isub hx hb dX11_mondays_24 ?_
  refine xz_i 200 (by decide) ?_
  refine va_mmin hx hb (hml.trans hl.1.symm) hown (htg _ kw_706) (htg _ kw_707) (htg _ kw_18) (htg _ kw_708) (by rw [hR]; exact Nat.le_of_ble_eq_true rfl) (by rw [hR]; exact Nat.le_of_ble_eq_true rfl) (by rw [hR]; exact Nat.le_of_ble_eq_true rfl) (by rw [hR]; exact Nat.le_of_ble_eq_true rfl) dX11_mondays_25 ?_
  refine xz_i (vi 0) (if_neg (fun c => by have h9 := xgt (k := 200) (by decide) c; omega)) ?_
  refine lv_istore_n (lv' := [(2, .int (vi 0)), (0, .ref (a 0)), (1, .int (vi 0))]) hx hb dX11_mondays_28 rfl hl (by decide) rfl (fun ls hl => ?_)
  refine lv_iload_n hx hb dX11_mondays_29 rfl (lv_at hl 0 rfl) ?_
  refine lv_if_le (tgt := 52) hx hb dX11_mondays_30 (by decide) (fun c => by exfalso; have h9 := xle (k := 0) (by decide) c; omega) (fun _ => ?_)
  refine lv_aload_n hx hb dX11_mondays_33 rfl (lv_at hl 1 rfl) ?_
  refine va_get (D := D) (ci := 11) (v := .ref (a 2)) (C := RX11) (T := TX11) (N := 15) hx hb htg inX11 hown hK.1 hP 0 rfl rfl 6 (by decide) (htg _ kw_502) (fun _ h9 => h9) rfl dX11_mondays_34 ?_
  refine lv_aload_n hx hb dX11_mondays_37 rfl (lv_at hl 1 rfl) ?_
  refine va_get (D := D) (ci := 11) (v := .ref (a 1)) (C := RX11) (T := TX11) (N := 15) hx hb htg inX11 hown hK.1 hP 0 rfl rfl 4 (by decide) (htg _ kw_500) (fun _ h9 => h9) rfl dX11_mondays_38 ?_
  have hPc := hP.sub (ws' := (pre_X9_keep T (xa [(a 2), (a 3), (a 4), (a 1), (a 5), (a 6), (a 7), (a 8), (a 9), (a 10), (a 11), (a 12), (a 13), (a 14), (a 15), (a 16), (a 17), (a 18), (a 19), (a 20)]) (xa [(ex 11), (ex 12), (ex 13), (a 21)]) (xf []) (xh []) (xv []))) [2, 3, 4, 1, 5, 6, 7, 8, 9, 10, 11, 12, 13, 14, 15, 16, 17, 18, 19, 20] rfl
  have hDc := hD.sub (ws' := (pre_X9_keep T (xa [(a 2), (a 3), (a 4), (a 1), (a 5), (a 6), (a 7), (a 8), (a 9), (a 10), (a 11), (a 12), (a 13), (a 14), (a 15), (a 16), (a 17), (a 18), (a 19), (a 20)]) (xa [(ex 11), (ex 12), (ex 13), (a 21)]) (xf []) (xh []) (xv []))) [2, 3, 4, 1, 5, 6, 7, 8, 9, 10, 11, 12, 13, 14, 15, 16, 17, 18, 19, 20] (by decide) rfl
  have hFc := va_free (wc := (pre_X9_keep T (xa [(a 2), (a 3), (a 4), (a 1), (a 5), (a 6), (a 7), (a 8), (a 9), (a 10), (a 11), (a 12), (a 13), (a 14), (a 15), (a 16), (a 17), (a 18), (a 19), (a 20)]) (xa [(ex 11), (ex 12), (ex 13), (a 21)]) (xf []) (xh []) (xv []))) hD hS hA [2, 3, 4, 1, 5, 6, 7, 8, 9, 10, 11, 12, 13, 14, 15, 16, 17, 18, 19, 20] rfl
  refine va_callv (va_runVN (As := [.ref (a 1)]) (rest := []) ⟨hx, hb, hml, hown, htg⟩ (c_X9_keep l D T (xa [(a 2), (a 3), (a 4), (a 1), (a 5), (a 6), (a 7), (a 8), (a 9), (a 10), (a 11), (a 12), (a 13), (a 14), (a 15), (a 16), (a 17), (a 18), (a 19), (a 20)]) (xa [(ex 11), (ex 12), (ex 13), (a 21)]) (xf []) (xh []) (xv []) s.heap.size) ⟨va_cnB 1 htg (xg_ok kw_830) rfl rfl rfl (hK.2.1 _ kn_827) (htg _ kw_10) (by decide +kernel) ⟨by rw [hR]; exact Nat.le_of_ble_eq_true rfl, by rw [hR]; exact Nat.le_of_ble_eq_true rfl⟩, htg _ kw_829, htg _ ks_53⟩ (xpreV hK hPc hDc (va_recv hK.1 hPc (ci := 9) (q0 := 0) rfl rfl)) rfl rfl hl.1 rfl (lv_room (Nat.le_of_ble_eq_true rfl)) dX11_mondays_41 ⟨by rw [hR]; exact Nat.le_of_ble_eq_true rfl, by rw [hR]; exact Nat.le_of_ble_eq_true rfl⟩) hS (fun q _ h => hFc q h) hFc (fun u t H1 locs ht hvm hw hB hz1 hk1 hS => ?_)
  obtain ⟨bk, fik, flk, vik, hP1, hD1, hGk⟩ := hB
  rw [ht] at hP1
  obtain ⟨hP, hD⟩ := va_join (wr := [((a 0), .inr (11, [.ref (ex 0), .ref (a 21), .ref (ex 1), .ref (ex 2), .ref (a 1), .ref (ex 3), .ref (a 2), .ref (ex 4), .ref (ex 5), .ref (ex 6), .ref (ex 7), .ref (ex 8), .ref (ex 9), .ref (ex 10), .int 0])), ((a 21), .inr (7, [.int 0, .int 0, .ref (ex 14), .ref (ex 15), .ref (ex 16), .ref (ex 17), .ref (ex 18), .ref (ex 19), .ref (ex 20), .ref (ex 21), .ref (ex 22), .ref (ex 23)]))]) (w1 := (((a 2), .inr (9, [.ref (a 3), .int 1, .int 1])) :: ((a 3), .inl (T 5, 4, .inr (.inr (.inr (.inr (xo [some (a 4), some (ex 11), some (ex 12), some (ex 13)])))))) :: ((a 4), .inr (2, [.ref (a 21), .int 0, .int 0, .int 0, .int 0, .int 0, .int 0, .ref (a 6), .ref (a 8), .ref (a 10), .ref (a 12), .ref (a 14), .ref (a 16), .ref (a 18), .ref (a 20)])) :: ((a 1), .inr (2, [.ref (a 21), .int 0, .int 0, .int 0, .int 0, .int 0, .int 0, .ref (a 5), .ref (a 7), .ref (a 9), .ref (a 11), .ref (a 13), .ref (a 15), .ref (a 17), .ref (a 19)])) :: ((a 5), .inl (T 1, 9, .inl (fun _ => 0))) :: ((a 6), .inl (T 1, 9, .inl (fun _ => 0))) :: ((a 7), .inl (T 1, 9, .inl (fun _ => 0))) :: ((a 8), .inl (T 1, 9, .inl (fun _ => 0))) :: ((a 9), .inl (T 1, 9, .inl (fun _ => 0))) :: ((a 10), .inl (T 1, 9, .inl (fun _ => 0))) :: ((a 11), .inl (T 1, 9, .inl (fun _ => 0))) :: ((a 12), .inl (T 1, 9, .inl (fun _ => 0))) :: ((a 13), .inl (T 1, 9, .inl (fun _ => 0))) :: ((a 14), .inl (T 1, 9, .inl (fun _ => 0))) :: ((a 15), .inl (T 1, 9, .inl (fun _ => 0))) :: ((a 16), .inl (T 1, 9, .inl (fun _ => 0))) :: ((a 17), .inl (T 1, 9, .inl (fun _ => 0))) :: ((a 18), .inl (T 1, 9, .inl (fun _ => 0))) :: ((a 19), .inl (T 2, 200, .inr (.inl (fun _ => 0)))) :: ((a 20), .inl (T 2, 200, .inr (.inl (fun _ => 0)))) :: [])) hP hD [2, 3, 4, 1, 5, 6, 7, 8, 9, 10, 11, 12, 13, 14, 15, 16, 17, 18, 19, 20] [0, 21] rfl rfl (by decide) (by decide) hk1 hFc hP1 hD1
  clear hPc hDc hFc hP1 hD1 hk1 hz1 hvm ht hw
  generalize H1 = H at hP hS ⊢
  replace hP : va_P D vwCl (((a 0), .inr (11, [.ref (ex 0), .ref (a 21), .ref (ex 1), .ref (ex 2), .ref (a 1), .ref (ex 3), .ref (a 2), .ref (ex 4), .ref (ex 5), .ref (ex 6), .ref (ex 7), .ref (ex 8), .ref (ex 9), .ref (ex 10), .int 0])) :: ((a 21), .inr (7, [.int 0, .int 0, .ref (ex 14), .ref (ex 15), .ref (ex 16), .ref (ex 17), .ref (ex 18), .ref (ex 19), .ref (ex 20), .ref (ex 21), .ref (ex 22), .ref (ex 23)])) :: ((a 2), .inr (9, [.ref (a 3), .int 1, .int 1])) :: ((a 3), .inl (T 5, 4, .inr (.inr (.inr (.inr (xo [some (a 4), some (ex 11), some (ex 12), some (ex 13)])))))) :: ((a 4), .inr (2, [.ref (a 21), .int 0, .int 0, .int 0, .int 0, .int 0, .int 0, .ref (a 6), .ref (a 8), .ref (a 10), .ref (a 12), .ref (a 14), .ref (a 16), .ref (a 18), .ref (a 20)])) :: ((a 1), .inr (2, [.ref (a 21), .int 0, .int 0, .int 0, .int 0, .int 0, .int 0, .ref (a 5), .ref (a 7), .ref (a 9), .ref (a 11), .ref (a 13), .ref (a 15), .ref (a 17), .ref (a 19)])) :: ((a 5), .inl (T 1, 9, .inl (fun _ => 0))) :: ((a 6), .inl (T 1, 9, .inl (fun _ => 0))) :: ((a 7), .inl (T 1, 9, .inl (fun _ => 0))) :: ((a 8), .inl (T 1, 9, .inl (fun _ => 0))) :: ((a 9), .inl (T 1, 9, .inl (fun _ => 0))) :: ((a 10), .inl (T 1, 9, .inl (fun _ => 0))) :: ((a 11), .inl (T 1, 9, .inl (fun _ => 0))) :: ((a 12), .inl (T 1, 9, .inl (fun _ => 0))) :: ((a 13), .inl (T 1, 9, .inl (fun _ => 0))) :: ((a 14), .inl (T 1, 9, .inl (fun _ => 0))) :: ((a 15), .inl (T 1, 9, .inl (fun _ => 0))) :: ((a 16), .inl (T 1, 9, .inl (fun _ => 0))) :: ((a 17), .inl (T 1, 9, .inl (fun _ => 0))) :: ((a 18), .inl (T 1, 9, .inl (fun _ => 0))) :: ((a 19), .inl (T 2, 200, .inr (.inl (fun _ => 0)))) :: ((a 20), .inl (T 2, 200, .inr (.inl (fun _ => 0)))) :: []) H := hP
  replace hD : va_D A (((a 0), .inr (11, [.ref (ex 0), .ref (a 21), .ref (ex 1), .ref (ex 2), .ref (a 1), .ref (ex 3), .ref (a 2), .ref (ex 4), .ref (ex 5), .ref (ex 6), .ref (ex 7), .ref (ex 8), .ref (ex 9), .ref (ex 10), .int 0])) :: ((a 21), .inr (7, [.int 0, .int 0, .ref (ex 14), .ref (ex 15), .ref (ex 16), .ref (ex 17), .ref (ex 18), .ref (ex 19), .ref (ex 20), .ref (ex 21), .ref (ex 22), .ref (ex 23)])) :: ((a 2), .inr (9, [.ref (a 3), .int 1, .int 1])) :: ((a 3), .inl (T 5, 4, .inr (.inr (.inr (.inr (xo [some (a 4), some (ex 11), some (ex 12), some (ex 13)])))))) :: ((a 4), .inr (2, [.ref (a 21), .int 0, .int 0, .int 0, .int 0, .int 0, .int 0, .ref (a 6), .ref (a 8), .ref (a 10), .ref (a 12), .ref (a 14), .ref (a 16), .ref (a 18), .ref (a 20)])) :: ((a 1), .inr (2, [.ref (a 21), .int 0, .int 0, .int 0, .int 0, .int 0, .int 0, .ref (a 5), .ref (a 7), .ref (a 9), .ref (a 11), .ref (a 13), .ref (a 15), .ref (a 17), .ref (a 19)])) :: ((a 5), .inl (T 1, 9, .inl (fun _ => 0))) :: ((a 6), .inl (T 1, 9, .inl (fun _ => 0))) :: ((a 7), .inl (T 1, 9, .inl (fun _ => 0))) :: ((a 8), .inl (T 1, 9, .inl (fun _ => 0))) :: ((a 9), .inl (T 1, 9, .inl (fun _ => 0))) :: ((a 10), .inl (T 1, 9, .inl (fun _ => 0))) :: ((a 11), .inl (T 1, 9, .inl (fun _ => 0))) :: ((a 12), .inl (T 1, 9, .inl (fun _ => 0))) :: ((a 13), .inl (T 1, 9, .inl (fun _ => 0))) :: ((a 14), .inl (T 1, 9, .inl (fun _ => 0))) :: ((a 15), .inl (T 1, 9, .inl (fun _ => 0))) :: ((a 16), .inl (T 1, 9, .inl (fun _ => 0))) :: ((a 17), .inl (T 1, 9, .inl (fun _ => 0))) :: ((a 18), .inl (T 1, 9, .inl (fun _ => 0))) :: ((a 19), .inl (T 2, 200, .inr (.inl (fun _ => 0)))) :: ((a 20), .inl (T 2, 200, .inr (.inl (fun _ => 0)))) :: []) := hD
  refine lv_aload_n hx hb dX11_mondays_44 rfl (lv_at hl 1 rfl) ?_
  refine va_get (D := D) (ci := 11) (v := .ref (a 1)) (C := RX11) (T := TX11) (N := 15) hx hb htg inX11 hown hK.1 hP 0 rfl rfl 4 (by decide) (htg _ kw_500) (fun _ h9 => h9) rfl dX11_mondays_45 ?_
  refine lv_iload_n hx hb dX11_mondays_48 rfl (lv_at hl 0 rfl) ?_
  have hPc := hP.sub (ws' := (pre_X2_passMondays T (xa [(a 1), (a 21), (a 19)]) (xa [(a 5), (a 7), (a 9), (a 11), (a 13), (a 15), (a 17), (ex 14), (ex 15), (ex 16), (ex 17), (ex 18), (ex 19), (ex 20), (ex 21), (ex 22), (ex 23)]) (xf []) (xh []) (xv [(vi 0)]))) [5, 1, 20] rfl
  have hDc := hD.sub (ws' := (pre_X2_passMondays T (xa [(a 1), (a 21), (a 19)]) (xa [(a 5), (a 7), (a 9), (a 11), (a 13), (a 15), (a 17), (ex 14), (ex 15), (ex 16), (ex 17), (ex 18), (ex 19), (ex 20), (ex 21), (ex 22), (ex 23)]) (xf []) (xh []) (xv [(vi 0)]))) [5, 1, 20] (by decide) rfl
  have hFc := va_free (wc := (pre_X2_passMondays T (xa [(a 1), (a 21), (a 19)]) (xa [(a 5), (a 7), (a 9), (a 11), (a 13), (a 15), (a 17), (ex 14), (ex 15), (ex 16), (ex 17), (ex 18), (ex 19), (ex 20), (ex 21), (ex 22), (ex 23)]) (xf []) (xh []) (xv [(vi 0)]))) hD hS hA [5, 1, 20] rfl
  refine va_callv (va_runVN (As := [.int (vi 0)]) (rest := []) ⟨hx, hb, hml, hown, htg⟩ (c_X2_passMondays l D T (xa [(a 1), (a 21), (a 19)]) (xa [(a 5), (a 7), (a 9), (a 11), (a 13), (a 15), (a 17), (ex 14), (ex 15), (ex 16), (ex 17), (ex 18), (ex 19), (ex 20), (ex 21), (ex 22), (ex 23)]) (xf []) (xh []) (xv [(vi 0)]) H.size (by show (1 ≤ ((vi 0) : Int32).toInt ∧ ((vi 0) : Int32).toInt ≤ 60); omega)) ⟨va_cnB 1 htg (xg_ok kw_874) rfl rfl rfl (hK.2.1 _ kn_932) (htg _ kw_9) (by decide +kernel) ⟨by rw [hR]; exact Nat.le_of_ble_eq_true rfl, by rw [hR]; exact Nat.le_of_ble_eq_true rfl⟩, htg _ kw_873, htg _ ks_63⟩ (xpreV hK hPc hDc (va_recv hK.1 hPc (ci := 2) (q0 := 0) rfl rfl)) rfl rfl hl.1 rfl (lv_room (Nat.le_of_ble_eq_true rfl)) dX11_mondays_49 ⟨by rw [hR]; exact Nat.le_of_ble_eq_true rfl, by rw [hR]; exact Nat.le_of_ble_eq_true rfl⟩) hS (fun q _ h => hFc q h) hFc (fun u t H1 locs ht hvm hw hB hz1 hk1 hS => ?_)
  obtain ⟨bk_1, fik_1, flk_1, vik_1, hP1, hD1, hGk_1⟩ := hB
  rw [ht] at hP1
  obtain ⟨hP, hD⟩ := va_join (wr := (((a 0), .inr (11, [.ref (ex 0), .ref (a 21), .ref (ex 1), .ref (ex 2), .ref (a 1), .ref (ex 3), .ref (a 2), .ref (ex 4), .ref (ex 5), .ref (ex 6), .ref (ex 7), .ref (ex 8), .ref (ex 9), .ref (ex 10), .int 0])) :: ((a 2), .inr (9, [.ref (a 3), .int 1, .int 1])) :: ((a 3), .inl (T 5, 4, .inr (.inr (.inr (.inr (xo [some (a 4), some (ex 11), some (ex 12), some (ex 13)])))))) :: ((a 4), .inr (2, [.ref (a 21), .int 0, .int 0, .int 0, .int 0, .int 0, .int 0, .ref (a 6), .ref (a 8), .ref (a 10), .ref (a 12), .ref (a 14), .ref (a 16), .ref (a 18), .ref (a 20)])) :: ((a 5), .inl (T 1, 9, .inl (fun _ => 0))) :: ((a 6), .inl (T 1, 9, .inl (fun _ => 0))) :: ((a 7), .inl (T 1, 9, .inl (fun _ => 0))) :: ((a 8), .inl (T 1, 9, .inl (fun _ => 0))) :: ((a 9), .inl (T 1, 9, .inl (fun _ => 0))) :: ((a 10), .inl (T 1, 9, .inl (fun _ => 0))) :: ((a 11), .inl (T 1, 9, .inl (fun _ => 0))) :: ((a 12), .inl (T 1, 9, .inl (fun _ => 0))) :: ((a 13), .inl (T 1, 9, .inl (fun _ => 0))) :: ((a 14), .inl (T 1, 9, .inl (fun _ => 0))) :: ((a 15), .inl (T 1, 9, .inl (fun _ => 0))) :: ((a 16), .inl (T 1, 9, .inl (fun _ => 0))) :: ((a 17), .inl (T 1, 9, .inl (fun _ => 0))) :: ((a 18), .inl (T 1, 9, .inl (fun _ => 0))) :: ((a 20), .inl (T 2, 200, .inr (.inl (fun _ => 0)))) :: [])) (w1 := [((a 1), .inr (2, [.ref (a 21), .int (vik_1 0), .int 0, .int 0, .int 0, .int 0, .int 0, .ref (a 5), .ref (a 7), .ref (a 9), .ref (a 11), .ref (a 13), .ref (a 15), .ref (a 17), .ref (a 19)])), ((a 21), .inr (7, [.int 0, .int 0, .ref (ex 14), .ref (ex 15), .ref (ex 16), .ref (ex 17), .ref (ex 18), .ref (ex 19), .ref (ex 20), .ref (ex 21), .ref (ex 22), .ref (ex 23)])), ((a 19), .inl (T 2, 200, .inr (.inl (fun _ => 0))))]) hP hD [5, 1, 20] [0, 2, 3, 4, 6, 7, 8, 9, 10, 11, 12, 13, 14, 15, 16, 17, 18, 19, 21] rfl rfl (by decide) (by decide) hk1 hFc hP1 hD1
  clear hPc hDc hFc hP1 hD1 hk1 hz1 hvm ht hw
  generalize H1 = H at hP hS ⊢
  replace hP : va_P D vwCl (((a 0), .inr (11, [.ref (ex 0), .ref (a 21), .ref (ex 1), .ref (ex 2), .ref (a 1), .ref (ex 3), .ref (a 2), .ref (ex 4), .ref (ex 5), .ref (ex 6), .ref (ex 7), .ref (ex 8), .ref (ex 9), .ref (ex 10), .int 0])) :: ((a 2), .inr (9, [.ref (a 3), .int 1, .int 1])) :: ((a 3), .inl (T 5, 4, .inr (.inr (.inr (.inr (xo [some (a 4), some (ex 11), some (ex 12), some (ex 13)])))))) :: ((a 4), .inr (2, [.ref (a 21), .int 0, .int 0, .int 0, .int 0, .int 0, .int 0, .ref (a 6), .ref (a 8), .ref (a 10), .ref (a 12), .ref (a 14), .ref (a 16), .ref (a 18), .ref (a 20)])) :: ((a 5), .inl (T 1, 9, .inl (fun _ => 0))) :: ((a 6), .inl (T 1, 9, .inl (fun _ => 0))) :: ((a 7), .inl (T 1, 9, .inl (fun _ => 0))) :: ((a 8), .inl (T 1, 9, .inl (fun _ => 0))) :: ((a 9), .inl (T 1, 9, .inl (fun _ => 0))) :: ((a 10), .inl (T 1, 9, .inl (fun _ => 0))) :: ((a 11), .inl (T 1, 9, .inl (fun _ => 0))) :: ((a 12), .inl (T 1, 9, .inl (fun _ => 0))) :: ((a 13), .inl (T 1, 9, .inl (fun _ => 0))) :: ((a 14), .inl (T 1, 9, .inl (fun _ => 0))) :: ((a 15), .inl (T 1, 9, .inl (fun _ => 0))) :: ((a 16), .inl (T 1, 9, .inl (fun _ => 0))) :: ((a 17), .inl (T 1, 9, .inl (fun _ => 0))) :: ((a 18), .inl (T 1, 9, .inl (fun _ => 0))) :: ((a 20), .inl (T 2, 200, .inr (.inl (fun _ => 0)))) :: ((a 1), .inr (2, [.ref (a 21), .int (vik_1 0), .int 0, .int 0, .int 0, .int 0, .int 0, .ref (a 5), .ref (a 7), .ref (a 9), .ref (a 11), .ref (a 13), .ref (a 15), .ref (a 17), .ref (a 19)])) :: ((a 21), .inr (7, [.int 0, .int 0, .ref (ex 14), .ref (ex 15), .ref (ex 16), .ref (ex 17), .ref (ex 18), .ref (ex 19), .ref (ex 20), .ref (ex 21), .ref (ex 22), .ref (ex 23)])) :: ((a 19), .inl (T 2, 200, .inr (.inl (fun _ => 0)))) :: []) H := hP
  replace hD : va_D A (((a 0), .inr (11, [.ref (ex 0), .ref (a 21), .ref (ex 1), .ref (ex 2), .ref (a 1), .ref (ex 3), .ref (a 2), .ref (ex 4), .ref (ex 5), .ref (ex 6), .ref (ex 7), .ref (ex 8), .ref (ex 9), .ref (ex 10), .int 0])) :: ((a 2), .inr (9, [.ref (a 3), .int 1, .int 1])) :: ((a 3), .inl (T 5, 4, .inr (.inr (.inr (.inr (xo [some (a 4), some (ex 11), some (ex 12), some (ex 13)])))))) :: ((a 4), .inr (2, [.ref (a 21), .int 0, .int 0, .int 0, .int 0, .int 0, .int 0, .ref (a 6), .ref (a 8), .ref (a 10), .ref (a 12), .ref (a 14), .ref (a 16), .ref (a 18), .ref (a 20)])) :: ((a 5), .inl (T 1, 9, .inl (fun _ => 0))) :: ((a 6), .inl (T 1, 9, .inl (fun _ => 0))) :: ((a 7), .inl (T 1, 9, .inl (fun _ => 0))) :: ((a 8), .inl (T 1, 9, .inl (fun _ => 0))) :: ((a 9), .inl (T 1, 9, .inl (fun _ => 0))) :: ((a 10), .inl (T 1, 9, .inl (fun _ => 0))) :: ((a 11), .inl (T 1, 9, .inl (fun _ => 0))) :: ((a 12), .inl (T 1, 9, .inl (fun _ => 0))) :: ((a 13), .inl (T 1, 9, .inl (fun _ => 0))) :: ((a 14), .inl (T 1, 9, .inl (fun _ => 0))) :: ((a 15), .inl (T 1, 9, .inl (fun _ => 0))) :: ((a 16), .inl (T 1, 9, .inl (fun _ => 0))) :: ((a 17), .inl (T 1, 9, .inl (fun _ => 0))) :: ((a 18), .inl (T 1, 9, .inl (fun _ => 0))) :: ((a 20), .inl (T 2, 200, .inr (.inl (fun _ => 0)))) :: ((a 1), .inr (2, [.ref (a 21), .int (vik_1 0), .int 0, .int 0, .int 0, .int 0, .int 0, .ref (a 5), .ref (a 7), .ref (a 9), .ref (a 11), .ref (a 13), .ref (a 15), .ref (a 17), .ref (a 19)])) :: ((a 21), .inr (7, [.int 0, .int 0, .ref (ex 14), .ref (ex 15), .ref (ex 16), .ref (ex 17), .ref (ex 18), .ref (ex 19), .ref (ex 20), .ref (ex 21), .ref (ex 22), .ref (ex 23)])) :: ((a 19), .inl (T 2, 200, .inr (.inl (fun _ => 0)))) :: []) := hD
  refine lv_iload_n hx hb dX11_mondays_52 rfl (lv_at hl 0 rfl) ?_
  have hP9 := hP.sub (ws' := []) [] rfl
  have hD9 := hD.sub (ws' := []) [] (by decide) rfl
  rw [hQ]
  exact W.iret (v := (vi 0)) hx hb hr (fun t ht hW => ⟨⟨(vi 0), (), rfl, rfl, ⟨xa [], xf [], xh [], xv [], by rw [ht]; exact hP9, hD9, trivial⟩⟩, hS.F ht⟩) hS.2.2 dX11_mondays_53
abbrev pre_X11_mondays_2 (T : Nat → ClassId) (a ex : Nat → Nat) (fi : Nat → Nat → Int32) (fl : Nat → Nat → Int64) (vi : Nat → Int32) : va_W := [((a 0), .inr (11, [.ref (ex 0), .ref (ex 1), .ref (ex 2), .ref (ex 3), .ref (ex 4), .ref (ex 5), .ref (ex 6), .ref (ex 7), .ref (ex 8), .ref (ex 9), .ref (ex 10), .ref (ex 11), .ref (ex 12), .ref (ex 13), .int 0]))]
set_option maxHeartbeats 4000000 in
set_option maxRecDepth 100000 in
theorem c_X11_mondays_2 (l : Launch) (D : va_G) (T : Nat → ClassId) (a ex : Nat → Nat) (fi : Nat → Nat → Int32) (fl : Nat → Nat → Int64) (vi : Nat → Int32) (sz : Nat) (hd0 : (vi 0).toInt ≤ 0 ∨ 61 ≤ (vi 0).toInt) : Met l yX11_mondays (xw yX11_mondays cX11_mondays 3 (some .int)) ({ frames := 0, cells := 0, slots := 0, locals := 0 }) (xP D T [.ref (a 0), .int (vi 0)] sz (pre_X11_mondays_2 T a ex fi fl vi)) (va_Qi (fun r (_ : Unit) => r = (-1)) (xB D (va_A (pre_X11_mondays_2 T a ex fi fl vi) sz) (fun _ => True) (fun b fj fm vj => [])) (va_A (pre_X11_mondays_2 T a ex fi fl vi) sz)) 0 0 (va_A (pre_X11_mondays_2 T a ex fi fl vi) sz) := by
  refine xofW (cc := cX11_mondays) (maxL := 3) (ret := (some .int)) (by decide) rfl ?_
  intro p e s m args below meth c s₁ R Q hR hQ B hml hv
  obtain ⟨rfl, hsz, hP, hK, hD0⟩ := hv
  have hx := B.exec
  have hb := B.bytes
  have hr := B.returns
  have hts := atoms_spec (ws := xw yX11_mondays cX11_mondays 3 (some .int)) B.pre
  have htg : ∀ w ∈ xg, w.before _ s = true := fun w h => hts w (List.mem_cons_of_mem _ h)
  have hown : s.vm.findClass RX11 = some m.cls := findClass_of_methodNamed B.named
  have hlocks := B.notSynchronized
  subst hsz
  have hD := hD0.self (sz := s.heap.size)
  generalize hAe : va_A (pre_X11_mondays_2 T a ex fi fl vi) s.heap.size = A at hD hQ
  have hA : ∀ q : Nat, s.heap.size ≤ q → A q := fun q h => by rw [← hAe]; exact Or.inr h
  have hS : va_S A s.heap s.heap [] := va_S.rf
  replace hP : va_P D vwCl [((a 0), .inr (11, [.ref (ex 0), .ref (ex 1), .ref (ex 2), .ref (ex 3), .ref (ex 4), .ref (ex 5), .ref (ex 6), .ref (ex 7), .ref (ex 8), .ref (ex 9), .ref (ex 10), .ref (ex 11), .ref (ex 12), .ref (ex 13), .int 0]))] s.heap := hP
  replace hD : va_D A [((a 0), .inr (11, [.ref (ex 0), .ref (ex 1), .ref (ex 2), .ref (ex 3), .ref (ex 4), .ref (ex 5), .ref (ex 6), .ref (ex 7), .ref (ex 8), .ref (ex 9), .ref (ex 10), .ref (ex 11), .ref (ex 12), .ref (ex 13), .int 0]))] := hD
  have hl := lv_entry ([.ref (a 0), .int (vi 0)]) (n := 3) (Nat.le_of_ble_eq_true rfl)
  rw [lg_entry_eq]
  generalize (lg_sl ([.ref (a 0), .int (vi 0)]) ++ List.replicate (3 - (lg_sl ([.ref (a 0), .int (vi 0)])).length) Slot.unset).toArray = ls at hl ⊢
  replace hl : lv_has ls 3 [(0, .ref (a 0)), (1, .int (vi 0))] := hl
  refine lv_iload_n hx hb dX11_mondays_0 rfl (lv_at hl 1 rfl) ?_
  refine lv_iconst (v := 1) hx hb dX11_mondays_1 (by decide) ?_
  refine lv_icmp_lt (tgt := 11) hx hb dX11_mondays_2 (by decide) (fun c2 => ?_) (fun c2 => ?_)
  · have c2 := xlt (k := 1) (by decide) c2
    refine lv_iconst (v := (-1)) hx hb dX11_mondays_11 (by decide) ?_
    have hP9 := hP.sub (ws' := []) [] rfl
    have hD9 := hD.sub (ws' := []) [] (by decide) rfl
    rw [hQ]
    exact W.iret (v := (-1)) hx hb hr (fun t ht hW => ⟨⟨(-1), (), rfl, rfl, ⟨xa [], xf [], xh [], xv [], by rw [ht]; exact hP9, hD9, trivial⟩⟩, hS.F ht⟩) hS.2.2 dX11_mondays_12
  · have c2 := xnlt (k := 1) (by decide) c2
    refine lv_iload_n hx hb dX11_mondays_5 rfl (lv_at hl 1 rfl) ?_
    refine lv_bipush (v := 60) hx hb dX11_mondays_6 (by decide) ?_
    refine lv_icmp_le (tgt := 13) hx hb dX11_mondays_8 (by decide) (fun c => by exfalso; have h9 := xle (k := 60) (by decide) c; omega) (fun _ => ?_)
    refine lv_iconst (v := (-1)) hx hb dX11_mondays_11 (by decide) ?_
    have hP9 := hP.sub (ws' := []) [] rfl
    have hD9 := hD.sub (ws' := []) [] (by decide) rfl
    rw [hQ]
    exact W.iret (v := (-1)) hx hb hr (fun t ht hW => ⟨⟨(-1), (), rfl, rfl, ⟨xa [], xf [], xh [], xv [], by rw [ht]; exact hP9, hD9, trivial⟩⟩, hS.F ht⟩) hS.2.2 dX11_mondays_12
abbrev pre_X9_takeBack (T : Nat → ClassId) (a ex : Nat → Nat) (fi : Nat → Nat → Int32) (fl : Nat → Nat → Int64) (vi : Nat → Int32) : va_W := [((a 0), .inr (9, [.ref (ex 1), .int 0, .int 0]))]
set_option maxHeartbeats 4000000 in
set_option maxRecDepth 100000 in
theorem c_X9_takeBack (l : Launch) (D : va_G) (T : Nat → ClassId) (a ex : Nat → Nat) (fi : Nat → Nat → Int32) (fl : Nat → Nat → Int64) (vi : Nat → Int32) (sz : Nat) : Met l yX9_takeBack (xw yX9_takeBack cX9_takeBack 2 (some .boolean)) ({ frames := 0, cells := 0, slots := 0, locals := 0 }) (xP D T [.ref (a 0), .ref (ex 0)] sz (pre_X9_takeBack T a ex fi fl vi)) (va_Qi (fun r (_ : Unit) => r = 0) (xB D (va_A (pre_X9_takeBack T a ex fi fl vi) sz) (fun _ => True) (fun b fj fm vj => [((a 0), .inr (9, [.ref (ex 1), .int 0, .int 0]))])) (va_A (pre_X9_takeBack T a ex fi fl vi) sz)) 0 0 (va_A (pre_X9_takeBack T a ex fi fl vi) sz) := by
  refine xofW (cc := cX9_takeBack) (maxL := 2) (ret := (some .boolean)) (by decide) rfl ?_
  intro p e s m args below meth c s₁ R Q hR hQ B hml hv
  obtain ⟨rfl, hsz, hP, hK, hD0⟩ := hv
  have hx := B.exec
  have hb := B.bytes
  have hr := B.returns
  have hts := atoms_spec (ws := xw yX9_takeBack cX9_takeBack 2 (some .boolean)) B.pre
  have htg : ∀ w ∈ xg, w.before _ s = true := fun w h => hts w (List.mem_cons_of_mem _ h)
  have hown : s.vm.findClass RX9 = some m.cls := findClass_of_methodNamed B.named
  have hlocks := B.notSynchronized
  subst hsz
  have hD := hD0.self (sz := s.heap.size)
  generalize hAe : va_A (pre_X9_takeBack T a ex fi fl vi) s.heap.size = A at hD hQ
  have hA : ∀ q : Nat, s.heap.size ≤ q → A q := fun q h => by rw [← hAe]; exact Or.inr h
  have hS : va_S A s.heap s.heap [] := va_S.rf
  replace hP : va_P D vwCl [((a 0), .inr (9, [.ref (ex 1), .int 0, .int 0]))] s.heap := hP
  replace hD : va_D A [((a 0), .inr (9, [.ref (ex 1), .int 0, .int 0]))] := hD
  have hl := lv_entry ([.ref (a 0), .ref (ex 0)]) (n := 2) (Nat.le_of_ble_eq_true rfl)
  rw [lg_entry_eq]
  generalize (lg_sl ([.ref (a 0), .ref (ex 0)]) ++ List.replicate (2 - (lg_sl ([.ref (a 0), .ref (ex 0)])).length) Slot.unset).toArray = ls at hl ⊢
  replace hl : lv_has ls 2 [(0, .ref (a 0)), (1, .ref (ex 0))] := hl
  refine lv_aload_n hx hb dX9_takeBack_0 rfl (lv_at hl 0 rfl) ?_
  refine va_get (D := D) (ci := 9) (v := .int 0) (C := RX9) (T := TX9) (N := 3) hx hb htg inX9 hown hK.1 hP 0 rfl rfl 2 (by decide) (htg _ kw_324) (fun _ h9 => h9) rfl dX9_takeBack_1 ?_
  refine lv_if_ne (tgt := 9) hx hb dX9_takeBack_4 (by decide) (fun c => absurd (by decide) c) (fun _ => ?_)
  refine lv_iconst (v := 0) hx hb dX9_takeBack_7 (by decide) ?_
  have hP9 := hP.sub (ws' := [((a 0), .inr (9, [.ref (ex 1), .int 0, .int 0]))]) [0] rfl
  have hD9 := hD.sub (ws' := [((a 0), .inr (9, [.ref (ex 1), .int 0, .int 0]))]) [0] (by decide +kernel) rfl
  rw [hQ]
  exact W.zret (v := 0) hx hb hr rfl (fun t ht hW => ⟨⟨0, (), rfl, rfl, ⟨xa [], xf [], xh [], xv [], by rw [ht]; exact hP9, hD9, trivial⟩⟩, hS.F ht⟩) hS.2.2 dX9_takeBack_8
abbrev pre_X11_undo (T : Nat → ClassId) (a ex : Nat → Nat) (fi : Nat → Nat → Int32) (fl : Nat → Nat → Int64) (vi : Nat → Int32) : va_W := [((a 0), .inr (11, [.ref (ex 0), .ref (ex 1), .ref (ex 2), .ref (ex 3), .ref (ex 4), .ref (ex 5), .ref (a 1), .ref (ex 6), .ref (ex 7), .ref (ex 8), .ref (ex 9), .ref (ex 10), .ref (ex 11), .ref (ex 12), .int 0])), ((a 1), .inr (9, [.ref (ex 13), .int 0, .int 0]))]
set_option maxHeartbeats 4000000 in
set_option maxRecDepth 100000 in
theorem c_X11_undo (l : Launch) (D : va_G) (T : Nat → ClassId) (a ex : Nat → Nat) (fi : Nat → Nat → Int32) (fl : Nat → Nat → Int64) (vi : Nat → Int32) (sz : Nat) : Met l yX11_undo (xw yX11_undo cX11_undo 1 (some .int)) ({ frames := 1, cells := 0, slots := 0, locals := 25 }) (xP D T [.ref (a 0)] sz (pre_X11_undo T a ex fi fl vi)) (va_Qi (fun r (_ : Unit) => r = (-1)) (xB D (va_A (pre_X11_undo T a ex fi fl vi) sz) (fun _ => True) (fun b fj fm vj => [])) (va_A (pre_X11_undo T a ex fi fl vi) sz)) 0 0 (va_A (pre_X11_undo T a ex fi fl vi) sz) := by
  refine xofW (cc := cX11_undo) (maxL := 1) (ret := (some .int)) (by decide) rfl ?_
  intro p e s m args below meth c s₁ R Q hR hQ B hml hv
  obtain ⟨rfl, hsz, hP, hK, hD0⟩ := hv
  have hx := B.exec
  have hb := B.bytes
  have hr := B.returns
  have hts := atoms_spec (ws := xw yX11_undo cX11_undo 1 (some .int)) B.pre
  have htg : ∀ w ∈ xg, w.before _ s = true := fun w h => hts w (List.mem_cons_of_mem _ h)
  have hown : s.vm.findClass RX11 = some m.cls := findClass_of_methodNamed B.named
  have hlocks := B.notSynchronized
  subst hsz
  have hD := hD0.self (sz := s.heap.size)
  generalize hAe : va_A (pre_X11_undo T a ex fi fl vi) s.heap.size = A at hD hQ
  have hA : ∀ q : Nat, s.heap.size ≤ q → A q := fun q h => by rw [← hAe]; exact Or.inr h
  have hS : va_S A s.heap s.heap [] := va_S.rf
  replace hP : va_P D vwCl [((a 0), .inr (11, [.ref (ex 0), .ref (ex 1), .ref (ex 2), .ref (ex 3), .ref (ex 4), .ref (ex 5), .ref (a 1), .ref (ex 6), .ref (ex 7), .ref (ex 8), .ref (ex 9), .ref (ex 10), .ref (ex 11), .ref (ex 12), .int 0])), ((a 1), .inr (9, [.ref (ex 13), .int 0, .int 0]))] s.heap := hP
  replace hD : va_D A [((a 0), .inr (11, [.ref (ex 0), .ref (ex 1), .ref (ex 2), .ref (ex 3), .ref (ex 4), .ref (ex 5), .ref (a 1), .ref (ex 6), .ref (ex 7), .ref (ex 8), .ref (ex 9), .ref (ex 10), .ref (ex 11), .ref (ex 12), .int 0])), ((a 1), .inr (9, [.ref (ex 13), .int 0, .int 0]))] := hD
  have hl := lv_entry ([.ref (a 0)]) (n := 1) (Nat.le_of_ble_eq_true rfl)
  rw [lg_entry_eq]
  generalize (lg_sl ([.ref (a 0)]) ++ List.replicate (1 - (lg_sl ([.ref (a 0)])).length) Slot.unset).toArray = ls at hl ⊢
  replace hl : lv_has ls 1 [(0, .ref (a 0))] := hl
  refine lv_aload_n hx hb dX11_undo_0 rfl (lv_at hl 0 rfl) ?_
  refine va_get (D := D) (ci := 11) (v := .ref (a 1)) (C := RX11) (T := TX11) (N := 15) hx hb htg inX11 hown hK.1 hP 0 rfl rfl 6 (by decide) (htg _ kw_502) (fun _ h9 => h9) rfl dX11_undo_1 ?_
  refine lv_aload_n hx hb dX11_undo_4 rfl (lv_at hl 0 rfl) ?_
  refine va_get (D := D) (ci := 11) (v := .ref (ex 4)) (C := RX11) (T := TX11) (N := 15) hx hb htg inX11 hown hK.1 hP 0 rfl rfl 4 (by decide) (htg _ kw_500) (fun _ h9 => h9) rfl dX11_undo_5 ?_
  have hPc := hP.sub (ws' := (pre_X9_takeBack T (xa [(a 1)]) (xa [(ex 4), (ex 13)]) (xf []) (xh []) (xv []))) [1] rfl
  have hDc := hD.sub (ws' := (pre_X9_takeBack T (xa [(a 1)]) (xa [(ex 4), (ex 13)]) (xf []) (xh []) (xv []))) [1] (by decide) rfl
  have hFc := va_free (wc := (pre_X9_takeBack T (xa [(a 1)]) (xa [(ex 4), (ex 13)]) (xf []) (xh []) (xv []))) hD hS hA [1] rfl
  refine va_calli (va_runVN (As := [.ref (ex 4)]) (rest := []) ⟨hx, hb, hml, hown, htg⟩ (c_X9_takeBack l D T (xa [(a 1)]) (xa [(ex 4), (ex 13)]) (xf []) (xh []) (xv []) s.heap.size) ⟨va_cnB 1 htg (xg_ok kw_940) rfl rfl rfl (hK.2.1 _ kn_937) (htg _ kw_10) (by decide +kernel) ⟨by rw [hR]; exact Nat.le_of_ble_eq_true rfl, by rw [hR]; exact Nat.le_of_ble_eq_true rfl⟩, htg _ kw_939, htg _ ks_71⟩ (xpreV hK hPc hDc (va_recv hK.1 hPc (ci := 9) (q0 := 0) rfl rfl)) rfl rfl hl.1 rfl (lv_room (Nat.le_of_ble_eq_true rfl)) dX11_undo_8 ⟨by rw [hR]; exact Nat.le_of_ble_eq_true rfl, by rw [hR]; exact Nat.le_of_ble_eq_true rfl⟩) hS (fun q _ h => hFc q h) hFc (fun r9 u t H1 locs ht hvm hw hB hz1 hk1 hS => ?_)
  obtain ⟨bk, fik, flk, vik, hP1, hD1, hGk⟩ := hB
  rw [ht] at hP1
  obtain ⟨hP, hD⟩ := va_join (wr := [((a 0), .inr (11, [.ref (ex 0), .ref (ex 1), .ref (ex 2), .ref (ex 3), .ref (ex 4), .ref (ex 5), .ref (a 1), .ref (ex 6), .ref (ex 7), .ref (ex 8), .ref (ex 9), .ref (ex 10), .ref (ex 11), .ref (ex 12), .int 0]))]) (w1 := [((a 1), .inr (9, [.ref (ex 13), .int 0, .int 0]))]) hP hD [1] [0] rfl rfl (by decide) (by decide) hk1 hFc hP1 hD1
  subst hw
  clear hPc hDc hFc hP1 hD1 hk1 hz1 hvm ht
  generalize H1 = H at hP hS ⊢
  replace hP : va_P D vwCl [((a 0), .inr (11, [.ref (ex 0), .ref (ex 1), .ref (ex 2), .ref (ex 3), .ref (ex 4), .ref (ex 5), .ref (a 1), .ref (ex 6), .ref (ex 7), .ref (ex 8), .ref (ex 9), .ref (ex 10), .ref (ex 11), .ref (ex 12), .int 0])), ((a 1), .inr (9, [.ref (ex 13), .int 0, .int 0]))] H := hP
  replace hD : va_D A [((a 0), .inr (11, [.ref (ex 0), .ref (ex 1), .ref (ex 2), .ref (ex 3), .ref (ex 4), .ref (ex 5), .ref (a 1), .ref (ex 6), .ref (ex 7), .ref (ex 8), .ref (ex 9), .ref (ex 10), .ref (ex 11), .ref (ex 12), .int 0])), ((a 1), .inr (9, [.ref (ex 13), .int 0, .int 0]))] := hD
  refine lv_if_eq (tgt := 24) hx hb dX11_undo_11 (by decide) (fun _ => ?_) (fun c => absurd (by decide) c)
  refine lv_iconst (v := (-1)) hx hb dX11_undo_24 (by decide) ?_
  have hP9 := hP.sub (ws' := []) [] rfl
  have hD9 := hD.sub (ws' := []) [] (by decide) rfl
  rw [hQ]
  exact W.iret (v := (-1)) hx hb hr (fun t ht hW => ⟨⟨(-1), (), rfl, rfl, ⟨xa [], xf [], xh [], xv [], by rw [ht]; exact hP9, hD9, trivial⟩⟩, hS.F ht⟩) hS.2.2 dX11_undo_25
abbrev pre_X11_called (T : Nat → ClassId) (a ex : Nat → Nat) (fi : Nat → Nat → Int32) (fl : Nat → Nat → Int64) (vi : Nat → Int32) : va_W := [((a 0), .inr (11, [.ref (ex 0), .ref (a 1), .ref (ex 1), .ref (ex 2), .ref (ex 3), .ref (ex 4), .ref (ex 5), .ref (ex 6), .ref (ex 7), .ref (ex 8), .ref (ex 9), .ref (ex 10), .ref (ex 11), .ref (ex 12), .int 0])), ((a 1), .inr (7, [.int 0, .int 0, .ref (ex 13), .ref (ex 14), .ref (ex 15), .ref (ex 16), .ref (ex 17), .ref (ex 18), .ref (ex 19), .ref (ex 20), .ref (ex 21), .ref (ex 22)]))]
set_option maxHeartbeats 4000000 in
set_option maxRecDepth 100000 in
theorem c_X11_called (l : Launch) (D : va_G) (T : Nat → ClassId) (a ex : Nat → Nat) (fi : Nat → Nat → Int32) (fl : Nat → Nat → Int64) (vi : Nat → Int32) (sz : Nat) : Met l yX11_called (xw yX11_called cX11_called 3 (some .int)) ({ frames := 1, cells := 0, slots := 0, locals := 25 }) (xP D T [.ref (a 0), .int (vi 0), .int (vi 1)] sz (pre_X11_called T a ex fi fl vi)) (va_Qi (fun r (_ : Unit) => r = (-2)) (xB D (va_A (pre_X11_called T a ex fi fl vi) sz) (fun _ => True) (fun b fj fm vj => [])) (va_A (pre_X11_called T a ex fi fl vi) sz)) 0 0 (va_A (pre_X11_called T a ex fi fl vi) sz) := by
  refine xofW (cc := cX11_called) (maxL := 3) (ret := (some .int)) (by decide) rfl ?_
  intro p e s m args below meth c s₁ R Q hR hQ B hml hv
  obtain ⟨rfl, hsz, hP, hK, hD0⟩ := hv
  have hx := B.exec
  have hb := B.bytes
  have hr := B.returns
  have hts := atoms_spec (ws := xw yX11_called cX11_called 3 (some .int)) B.pre
  have htg : ∀ w ∈ xg, w.before _ s = true := fun w h => hts w (List.mem_cons_of_mem _ h)
  have hown : s.vm.findClass RX11 = some m.cls := findClass_of_methodNamed B.named
  have hlocks := B.notSynchronized
  subst hsz
  have hD := hD0.self (sz := s.heap.size)
  generalize hAe : va_A (pre_X11_called T a ex fi fl vi) s.heap.size = A at hD hQ
  have hA : ∀ q : Nat, s.heap.size ≤ q → A q := fun q h => by rw [← hAe]; exact Or.inr h
  have hS : va_S A s.heap s.heap [] := va_S.rf
  replace hP : va_P D vwCl [((a 0), .inr (11, [.ref (ex 0), .ref (a 1), .ref (ex 1), .ref (ex 2), .ref (ex 3), .ref (ex 4), .ref (ex 5), .ref (ex 6), .ref (ex 7), .ref (ex 8), .ref (ex 9), .ref (ex 10), .ref (ex 11), .ref (ex 12), .int 0])), ((a 1), .inr (7, [.int 0, .int 0, .ref (ex 13), .ref (ex 14), .ref (ex 15), .ref (ex 16), .ref (ex 17), .ref (ex 18), .ref (ex 19), .ref (ex 20), .ref (ex 21), .ref (ex 22)]))] s.heap := hP
  replace hD : va_D A [((a 0), .inr (11, [.ref (ex 0), .ref (a 1), .ref (ex 1), .ref (ex 2), .ref (ex 3), .ref (ex 4), .ref (ex 5), .ref (ex 6), .ref (ex 7), .ref (ex 8), .ref (ex 9), .ref (ex 10), .ref (ex 11), .ref (ex 12), .int 0])), ((a 1), .inr (7, [.int 0, .int 0, .ref (ex 13), .ref (ex 14), .ref (ex 15), .ref (ex 16), .ref (ex 17), .ref (ex 18), .ref (ex 19), .ref (ex 20), .ref (ex 21), .ref (ex 22)]))] := hD
  have hl := lv_entry ([.ref (a 0), .int (vi 0), .int (vi 1)]) (n := 3) (Nat.le_of_ble_eq_true rfl)
  rw [lg_entry_eq]
  generalize (lg_sl ([.ref (a 0), .int (vi 0), .int (vi 1)]) ++ List.replicate (3 - (lg_sl ([.ref (a 0), .int (vi 0), .int (vi 1)])).length) Slot.unset).toArray = ls at hl ⊢
  replace hl : lv_has ls 3 [(0, .ref (a 0)), (1, .int (vi 0)), (2, .int (vi 1))] := hl
  refine lv_aload_n hx hb dX11_called_0 rfl (lv_at hl 0 rfl) ?_
  refine va_get (D := D) (ci := 11) (v := .ref (a 1)) (C := RX11) (T := TX11) (N := 15) hx hb htg inX11 hown hK.1 hP 0 rfl rfl 1 (by decide) (htg _ kw_497) (fun _ h9 => h9) rfl dX11_called_1 ?_
  refine lv_iload_n hx hb dX11_called_4 rfl (lv_at hl 1 rfl) ?_
  have hPc := hP.sub (ws' := (pre_X7_isSoul T (xa [(a 1)]) (xa [(ex 13), (ex 14), (ex 15), (ex 16), (ex 17), (ex 18), (ex 19), (ex 20), (ex 21), (ex 22)]) (xf []) (xh []) (xv [(vi 0)]))) [1] rfl
  have hDc := hD.sub (ws' := (pre_X7_isSoul T (xa [(a 1)]) (xa [(ex 13), (ex 14), (ex 15), (ex 16), (ex 17), (ex 18), (ex 19), (ex 20), (ex 21), (ex 22)]) (xf []) (xh []) (xv [(vi 0)]))) [1] (by decide) rfl
  have hFc := va_free (wc := (pre_X7_isSoul T (xa [(a 1)]) (xa [(ex 13), (ex 14), (ex 15), (ex 16), (ex 17), (ex 18), (ex 19), (ex 20), (ex 21), (ex 22)]) (xf []) (xh []) (xv [(vi 0)]))) hD hS hA [1] rfl
  refine va_calli (va_runVN (As := [.int (vi 0)]) (rest := []) ⟨hx, hb, hml, hown, htg⟩ (c_X7_isSoul l D T (xa [(a 1)]) (xa [(ex 13), (ex 14), (ex 15), (ex 16), (ex 17), (ex 18), (ex 19), (ex 20), (ex 21), (ex 22)]) (xf []) (xh []) (xv [(vi 0)]) s.heap.size) ⟨va_cnB 1 htg (xg_ok kw_664) rfl rfl rfl (hK.2.1 _ kn_764) (htg _ kw_7) (by decide +kernel) ⟨by rw [hR]; exact Nat.le_of_ble_eq_true rfl, by rw [hR]; exact Nat.le_of_ble_eq_true rfl⟩, htg _ kw_663, htg _ ks_25⟩ (xpreV hK hPc hDc (va_recv hK.1 hPc (ci := 7) (q0 := 0) rfl rfl)) rfl rfl hl.1 rfl (lv_room (Nat.le_of_ble_eq_true rfl)) dX11_called_5 ⟨by rw [hR]; exact Nat.le_of_ble_eq_true rfl, by rw [hR]; exact Nat.le_of_ble_eq_true rfl⟩) hS (fun q _ h => hFc q h) hFc (fun r9 u t H1 locs ht hvm hw hB hz1 hk1 hS => ?_)
  obtain ⟨bk, fik, flk, vik, hP1, hD1, hGk⟩ := hB
  rw [ht] at hP1
  obtain ⟨hP, hD⟩ := va_join (wr := [((a 0), .inr (11, [.ref (ex 0), .ref (a 1), .ref (ex 1), .ref (ex 2), .ref (ex 3), .ref (ex 4), .ref (ex 5), .ref (ex 6), .ref (ex 7), .ref (ex 8), .ref (ex 9), .ref (ex 10), .ref (ex 11), .ref (ex 12), .int 0]))]) (w1 := [((a 1), .inr (7, [.int 0, .int 0, .ref (ex 13), .ref (ex 14), .ref (ex 15), .ref (ex 16), .ref (ex 17), .ref (ex 18), .ref (ex 19), .ref (ex 20), .ref (ex 21), .ref (ex 22)]))]) hP hD [1] [0] rfl rfl (by decide) (by decide) hk1 hFc hP1 hD1
  subst hw
  clear hPc hDc hFc hP1 hD1 hk1 hz1 hvm ht
  generalize H1 = H at hP hS ⊢
  replace hP : va_P D vwCl [((a 0), .inr (11, [.ref (ex 0), .ref (a 1), .ref (ex 1), .ref (ex 2), .ref (ex 3), .ref (ex 4), .ref (ex 5), .ref (ex 6), .ref (ex 7), .ref (ex 8), .ref (ex 9), .ref (ex 10), .ref (ex 11), .ref (ex 12), .int 0])), ((a 1), .inr (7, [.int 0, .int 0, .ref (ex 13), .ref (ex 14), .ref (ex 15), .ref (ex 16), .ref (ex 17), .ref (ex 18), .ref (ex 19), .ref (ex 20), .ref (ex 21), .ref (ex 22)]))] H := hP
  replace hD : va_D A [((a 0), .inr (11, [.ref (ex 0), .ref (a 1), .ref (ex 1), .ref (ex 2), .ref (ex 3), .ref (ex 4), .ref (ex 5), .ref (ex 6), .ref (ex 7), .ref (ex 8), .ref (ex 9), .ref (ex 10), .ref (ex 11), .ref (ex 12), .int 0])), ((a 1), .inr (7, [.int 0, .int 0, .ref (ex 13), .ref (ex 14), .ref (ex 15), .ref (ex 16), .ref (ex 17), .ref (ex 18), .ref (ex 19), .ref (ex 20), .ref (ex 21), .ref (ex 22)]))] := hD
  refine lv_if_eq (tgt := 34) hx hb dX11_called_8 (by decide) (fun _ => ?_) (fun c => absurd (by decide) c)
  refine lv_bipush (v := (-2)) hx hb dX11_called_34 (by decide) ?_
  have hP9 := hP.sub (ws' := []) [] rfl
  have hD9 := hD.sub (ws' := []) [] (by decide) rfl
  rw [hQ]
  exact W.iret (v := (-2)) hx hb hr (fun t ht hW => ⟨⟨(-2), (), rfl, rfl, ⟨xa [], xf [], xh [], xv [], by rw [ht]; exact hP9, hD9, trivial⟩⟩, hS.F ht⟩) hS.2.2 dX11_called_36
abbrev pre_X11_holder (T : Nat → ClassId) (a ex : Nat → Nat) (fi : Nat → Nat → Int32) (fl : Nat → Nat → Int64) (vi : Nat → Int32) : va_W := [((a 0), .inr (11, [.ref (ex 0), .ref (a 1), .ref (ex 1), .ref (ex 2), .ref (ex 3), .ref (ex 4), .ref (ex 5), .ref (ex 6), .ref (ex 7), .ref (ex 8), .ref (ex 9), .ref (ex 10), .ref (ex 11), .ref (ex 12), .int 0])), ((a 1), .inr (7, [.int 0, .int 0, .ref (ex 13), .ref (ex 14), .ref (ex 15), .ref (ex 16), .ref (ex 17), .ref (ex 18), .ref (ex 19), .ref (ex 20), .ref (ex 21), .ref (ex 22)]))]
set_option maxHeartbeats 4000000 in
set_option maxRecDepth 100000 in
theorem c_X11_holder (l : Launch) (D : va_G) (T : Nat → ClassId) (a ex : Nat → Nat) (fi : Nat → Nat → Int32) (fl : Nat → Nat → Int64) (vi : Nat → Int32) (sz : Nat) : Met l yX11_holder (xw yX11_holder cX11_holder 3 (some .int)) ({ frames := 1, cells := 0, slots := 0, locals := 25 }) (xP D T [.ref (a 0), .int (vi 0), .int (vi 1)] sz (pre_X11_holder T a ex fi fl vi)) (va_Qi (fun r (_ : Unit) => r = (-2)) (xB D (va_A (pre_X11_holder T a ex fi fl vi) sz) (fun _ => True) (fun b fj fm vj => [])) (va_A (pre_X11_holder T a ex fi fl vi) sz)) 0 0 (va_A (pre_X11_holder T a ex fi fl vi) sz) := by
  refine xofW (cc := cX11_holder) (maxL := 3) (ret := (some .int)) (by decide) rfl ?_
  intro p e s m args below meth c s₁ R Q hR hQ B hml hv
  obtain ⟨rfl, hsz, hP, hK, hD0⟩ := hv
  have hx := B.exec
  have hb := B.bytes
  have hr := B.returns
  have hts := atoms_spec (ws := xw yX11_holder cX11_holder 3 (some .int)) B.pre
  have htg : ∀ w ∈ xg, w.before _ s = true := fun w h => hts w (List.mem_cons_of_mem _ h)
  have hown : s.vm.findClass RX11 = some m.cls := findClass_of_methodNamed B.named
  have hlocks := B.notSynchronized
  subst hsz
  have hD := hD0.self (sz := s.heap.size)
  generalize hAe : va_A (pre_X11_holder T a ex fi fl vi) s.heap.size = A at hD hQ
  have hA : ∀ q : Nat, s.heap.size ≤ q → A q := fun q h => by rw [← hAe]; exact Or.inr h
  have hS : va_S A s.heap s.heap [] := va_S.rf
  replace hP : va_P D vwCl [((a 0), .inr (11, [.ref (ex 0), .ref (a 1), .ref (ex 1), .ref (ex 2), .ref (ex 3), .ref (ex 4), .ref (ex 5), .ref (ex 6), .ref (ex 7), .ref (ex 8), .ref (ex 9), .ref (ex 10), .ref (ex 11), .ref (ex 12), .int 0])), ((a 1), .inr (7, [.int 0, .int 0, .ref (ex 13), .ref (ex 14), .ref (ex 15), .ref (ex 16), .ref (ex 17), .ref (ex 18), .ref (ex 19), .ref (ex 20), .ref (ex 21), .ref (ex 22)]))] s.heap := hP
  replace hD : va_D A [((a 0), .inr (11, [.ref (ex 0), .ref (a 1), .ref (ex 1), .ref (ex 2), .ref (ex 3), .ref (ex 4), .ref (ex 5), .ref (ex 6), .ref (ex 7), .ref (ex 8), .ref (ex 9), .ref (ex 10), .ref (ex 11), .ref (ex 12), .int 0])), ((a 1), .inr (7, [.int 0, .int 0, .ref (ex 13), .ref (ex 14), .ref (ex 15), .ref (ex 16), .ref (ex 17), .ref (ex 18), .ref (ex 19), .ref (ex 20), .ref (ex 21), .ref (ex 22)]))] := hD
  have hl := lv_entry ([.ref (a 0), .int (vi 0), .int (vi 1)]) (n := 3) (Nat.le_of_ble_eq_true rfl)
  rw [lg_entry_eq]
  generalize (lg_sl ([.ref (a 0), .int (vi 0), .int (vi 1)]) ++ List.replicate (3 - (lg_sl ([.ref (a 0), .int (vi 0), .int (vi 1)])).length) Slot.unset).toArray = ls at hl ⊢
  replace hl : lv_has ls 3 [(0, .ref (a 0)), (1, .int (vi 0)), (2, .int (vi 1))] := hl
  refine lv_aload_n hx hb dX11_holder_0 rfl (lv_at hl 0 rfl) ?_
  refine va_get (D := D) (ci := 11) (v := .ref (a 1)) (C := RX11) (T := TX11) (N := 15) hx hb htg inX11 hown hK.1 hP 0 rfl rfl 1 (by decide) (htg _ kw_497) (fun _ h9 => h9) rfl dX11_holder_1 ?_
  refine lv_iload_n hx hb dX11_holder_4 rfl (lv_at hl 1 rfl) ?_
  have hPc := hP.sub (ws' := (pre_X7_isName T (xa [(a 1)]) (xa [(ex 13), (ex 14), (ex 15), (ex 16), (ex 17), (ex 18), (ex 19), (ex 20), (ex 21), (ex 22)]) (xf []) (xh []) (xv [(vi 0)]))) [1] rfl
  have hDc := hD.sub (ws' := (pre_X7_isName T (xa [(a 1)]) (xa [(ex 13), (ex 14), (ex 15), (ex 16), (ex 17), (ex 18), (ex 19), (ex 20), (ex 21), (ex 22)]) (xf []) (xh []) (xv [(vi 0)]))) [1] (by decide) rfl
  have hFc := va_free (wc := (pre_X7_isName T (xa [(a 1)]) (xa [(ex 13), (ex 14), (ex 15), (ex 16), (ex 17), (ex 18), (ex 19), (ex 20), (ex 21), (ex 22)]) (xf []) (xh []) (xv [(vi 0)]))) hD hS hA [1] rfl
  refine va_calli (va_runVN (As := [.int (vi 0)]) (rest := []) ⟨hx, hb, hml, hown, htg⟩ (c_X7_isName l D T (xa [(a 1)]) (xa [(ex 13), (ex 14), (ex 15), (ex 16), (ex 17), (ex 18), (ex 19), (ex 20), (ex 21), (ex 22)]) (xf []) (xh []) (xv [(vi 0)]) s.heap.size) ⟨va_cnB 1 htg (xg_ok kw_683) rfl rfl rfl (hK.2.1 _ kn_743) (htg _ kw_7) (by decide +kernel) ⟨by rw [hR]; exact Nat.le_of_ble_eq_true rfl, by rw [hR]; exact Nat.le_of_ble_eq_true rfl⟩, htg _ kw_682, htg _ ks_29⟩ (xpreV hK hPc hDc (va_recv hK.1 hPc (ci := 7) (q0 := 0) rfl rfl)) rfl rfl hl.1 rfl (lv_room (Nat.le_of_ble_eq_true rfl)) dX11_holder_5 ⟨by rw [hR]; exact Nat.le_of_ble_eq_true rfl, by rw [hR]; exact Nat.le_of_ble_eq_true rfl⟩) hS (fun q _ h => hFc q h) hFc (fun r9 u t H1 locs ht hvm hw hB hz1 hk1 hS => ?_)
  obtain ⟨bk, fik, flk, vik, hP1, hD1, hGk⟩ := hB
  rw [ht] at hP1
  obtain ⟨hP, hD⟩ := va_join (wr := [((a 0), .inr (11, [.ref (ex 0), .ref (a 1), .ref (ex 1), .ref (ex 2), .ref (ex 3), .ref (ex 4), .ref (ex 5), .ref (ex 6), .ref (ex 7), .ref (ex 8), .ref (ex 9), .ref (ex 10), .ref (ex 11), .ref (ex 12), .int 0]))]) (w1 := [((a 1), .inr (7, [.int 0, .int 0, .ref (ex 13), .ref (ex 14), .ref (ex 15), .ref (ex 16), .ref (ex 17), .ref (ex 18), .ref (ex 19), .ref (ex 20), .ref (ex 21), .ref (ex 22)]))]) hP hD [1] [0] rfl rfl (by decide) (by decide) hk1 hFc hP1 hD1
  subst hw
  clear hPc hDc hFc hP1 hD1 hk1 hz1 hvm ht
  generalize H1 = H at hP hS ⊢
  replace hP : va_P D vwCl [((a 0), .inr (11, [.ref (ex 0), .ref (a 1), .ref (ex 1), .ref (ex 2), .ref (ex 3), .ref (ex 4), .ref (ex 5), .ref (ex 6), .ref (ex 7), .ref (ex 8), .ref (ex 9), .ref (ex 10), .ref (ex 11), .ref (ex 12), .int 0])), ((a 1), .inr (7, [.int 0, .int 0, .ref (ex 13), .ref (ex 14), .ref (ex 15), .ref (ex 16), .ref (ex 17), .ref (ex 18), .ref (ex 19), .ref (ex 20), .ref (ex 21), .ref (ex 22)]))] H := hP
  replace hD : va_D A [((a 0), .inr (11, [.ref (ex 0), .ref (a 1), .ref (ex 1), .ref (ex 2), .ref (ex 3), .ref (ex 4), .ref (ex 5), .ref (ex 6), .ref (ex 7), .ref (ex 8), .ref (ex 9), .ref (ex 10), .ref (ex 11), .ref (ex 12), .int 0])), ((a 1), .inr (7, [.int 0, .int 0, .ref (ex 13), .ref (ex 14), .ref (ex 15), .ref (ex 16), .ref (ex 17), .ref (ex 18), .ref (ex 19), .ref (ex 20), .ref (ex 21), .ref (ex 22)]))] := hD
  refine lv_if_eq (tgt := 34) hx hb dX11_holder_8 (by decide) (fun _ => ?_) (fun c => absurd (by decide) c)
  refine lv_bipush (v := (-2)) hx hb dX11_holder_34 (by decide) ?_
  have hP9 := hP.sub (ws' := []) [] rfl
  have hD9 := hD.sub (ws' := []) [] (by decide) rfl
  rw [hQ]
  exact W.iret (v := (-2)) hx hb hr (fun t ht hW => ⟨⟨(-2), (), rfl, rfl, ⟨xa [], xf [], xh [], xv [], by rw [ht]; exact hP9, hD9, trivial⟩⟩, hS.F ht⟩) hS.2.2 dX11_holder_36
abbrev pre_X11_bearers (T : Nat → ClassId) (a ex : Nat → Nat) (fi : Nat → Nat → Int32) (fl : Nat → Nat → Int64) (vi : Nat → Int32) : va_W := [((a 0), .inr (11, [.ref (ex 0), .ref (a 1), .ref (ex 1), .ref (ex 2), .ref (ex 3), .ref (ex 4), .ref (ex 5), .ref (ex 6), .ref (ex 7), .ref (ex 8), .ref (ex 9), .ref (ex 10), .ref (ex 11), .ref (ex 12), .int 0])), ((a 1), .inr (7, [.int 0, .int 0, .ref (ex 13), .ref (ex 14), .ref (ex 15), .ref (ex 16), .ref (ex 17), .ref (ex 18), .ref (ex 19), .ref (ex 20), .ref (ex 21), .ref (ex 22)]))]
set_option maxHeartbeats 4000000 in
set_option maxRecDepth 100000 in
theorem c_X11_bearers (l : Launch) (D : va_G) (T : Nat → ClassId) (a ex : Nat → Nat) (fi : Nat → Nat → Int32) (fl : Nat → Nat → Int64) (vi : Nat → Int32) (sz : Nat) : Met l yX11_bearers (xw yX11_bearers cX11_bearers 4 (some .int)) ({ frames := 1, cells := 0, slots := 0, locals := 25 }) (xP D T [.ref (a 0), .int (vi 0)] sz (pre_X11_bearers T a ex fi fl vi)) (va_Qi (fun r (_ : Unit) => r = (-1)) (xB D (va_A (pre_X11_bearers T a ex fi fl vi) sz) (fun _ => True) (fun b fj fm vj => [])) (va_A (pre_X11_bearers T a ex fi fl vi) sz)) 0 0 (va_A (pre_X11_bearers T a ex fi fl vi) sz) := by
  refine xofW (cc := cX11_bearers) (maxL := 4) (ret := (some .int)) (by decide) rfl ?_
  intro p e s m args below meth c s₁ R Q hR hQ B hml hv
  obtain ⟨rfl, hsz, hP, hK, hD0⟩ := hv
  have hx := B.exec
  have hb := B.bytes
  have hr := B.returns
  have hts := atoms_spec (ws := xw yX11_bearers cX11_bearers 4 (some .int)) B.pre
  have htg : ∀ w ∈ xg, w.before _ s = true := fun w h => hts w (List.mem_cons_of_mem _ h)
  have hown : s.vm.findClass RX11 = some m.cls := findClass_of_methodNamed B.named
  have hlocks := B.notSynchronized
  subst hsz
  have hD := hD0.self (sz := s.heap.size)
  generalize hAe : va_A (pre_X11_bearers T a ex fi fl vi) s.heap.size = A at hD hQ
  have hA : ∀ q : Nat, s.heap.size ≤ q → A q := fun q h => by rw [← hAe]; exact Or.inr h
  have hS : va_S A s.heap s.heap [] := va_S.rf
  replace hP : va_P D vwCl [((a 0), .inr (11, [.ref (ex 0), .ref (a 1), .ref (ex 1), .ref (ex 2), .ref (ex 3), .ref (ex 4), .ref (ex 5), .ref (ex 6), .ref (ex 7), .ref (ex 8), .ref (ex 9), .ref (ex 10), .ref (ex 11), .ref (ex 12), .int 0])), ((a 1), .inr (7, [.int 0, .int 0, .ref (ex 13), .ref (ex 14), .ref (ex 15), .ref (ex 16), .ref (ex 17), .ref (ex 18), .ref (ex 19), .ref (ex 20), .ref (ex 21), .ref (ex 22)]))] s.heap := hP
  replace hD : va_D A [((a 0), .inr (11, [.ref (ex 0), .ref (a 1), .ref (ex 1), .ref (ex 2), .ref (ex 3), .ref (ex 4), .ref (ex 5), .ref (ex 6), .ref (ex 7), .ref (ex 8), .ref (ex 9), .ref (ex 10), .ref (ex 11), .ref (ex 12), .int 0])), ((a 1), .inr (7, [.int 0, .int 0, .ref (ex 13), .ref (ex 14), .ref (ex 15), .ref (ex 16), .ref (ex 17), .ref (ex 18), .ref (ex 19), .ref (ex 20), .ref (ex 21), .ref (ex 22)]))] := hD
  have hl := lv_entry ([.ref (a 0), .int (vi 0)]) (n := 4) (Nat.le_of_ble_eq_true rfl)
  rw [lg_entry_eq]
  generalize (lg_sl ([.ref (a 0), .int (vi 0)]) ++ List.replicate (4 - (lg_sl ([.ref (a 0), .int (vi 0)])).length) Slot.unset).toArray = ls at hl ⊢
  replace hl : lv_has ls 4 [(0, .ref (a 0)), (1, .int (vi 0))] := hl
  refine lv_aload_n hx hb dX11_bearers_0 rfl (lv_at hl 0 rfl) ?_
  refine va_get (D := D) (ci := 11) (v := .ref (a 1)) (C := RX11) (T := TX11) (N := 15) hx hb htg inX11 hown hK.1 hP 0 rfl rfl 1 (by decide) (htg _ kw_497) (fun _ h9 => h9) rfl dX11_bearers_1 ?_
  refine lv_iload_n hx hb dX11_bearers_4 rfl (lv_at hl 1 rfl) ?_
  have hPc := hP.sub (ws' := (pre_X7_isName T (xa [(a 1)]) (xa [(ex 13), (ex 14), (ex 15), (ex 16), (ex 17), (ex 18), (ex 19), (ex 20), (ex 21), (ex 22)]) (xf []) (xh []) (xv [(vi 0)]))) [1] rfl
  have hDc := hD.sub (ws' := (pre_X7_isName T (xa [(a 1)]) (xa [(ex 13), (ex 14), (ex 15), (ex 16), (ex 17), (ex 18), (ex 19), (ex 20), (ex 21), (ex 22)]) (xf []) (xh []) (xv [(vi 0)]))) [1] (by decide) rfl
  have hFc := va_free (wc := (pre_X7_isName T (xa [(a 1)]) (xa [(ex 13), (ex 14), (ex 15), (ex 16), (ex 17), (ex 18), (ex 19), (ex 20), (ex 21), (ex 22)]) (xf []) (xh []) (xv [(vi 0)]))) hD hS hA [1] rfl
  refine va_calli (va_runVN (As := [.int (vi 0)]) (rest := []) ⟨hx, hb, hml, hown, htg⟩ (c_X7_isName l D T (xa [(a 1)]) (xa [(ex 13), (ex 14), (ex 15), (ex 16), (ex 17), (ex 18), (ex 19), (ex 20), (ex 21), (ex 22)]) (xf []) (xh []) (xv [(vi 0)]) s.heap.size) ⟨va_cnB 1 htg (xg_ok kw_683) rfl rfl rfl (hK.2.1 _ kn_743) (htg _ kw_7) (by decide +kernel) ⟨by rw [hR]; exact Nat.le_of_ble_eq_true rfl, by rw [hR]; exact Nat.le_of_ble_eq_true rfl⟩, htg _ kw_682, htg _ ks_29⟩ (xpreV hK hPc hDc (va_recv hK.1 hPc (ci := 7) (q0 := 0) rfl rfl)) rfl rfl hl.1 rfl (lv_room (Nat.le_of_ble_eq_true rfl)) dX11_bearers_5 ⟨by rw [hR]; exact Nat.le_of_ble_eq_true rfl, by rw [hR]; exact Nat.le_of_ble_eq_true rfl⟩) hS (fun q _ h => hFc q h) hFc (fun r9 u t H1 locs ht hvm hw hB hz1 hk1 hS => ?_)
  obtain ⟨bk, fik, flk, vik, hP1, hD1, hGk⟩ := hB
  rw [ht] at hP1
  obtain ⟨hP, hD⟩ := va_join (wr := [((a 0), .inr (11, [.ref (ex 0), .ref (a 1), .ref (ex 1), .ref (ex 2), .ref (ex 3), .ref (ex 4), .ref (ex 5), .ref (ex 6), .ref (ex 7), .ref (ex 8), .ref (ex 9), .ref (ex 10), .ref (ex 11), .ref (ex 12), .int 0]))]) (w1 := [((a 1), .inr (7, [.int 0, .int 0, .ref (ex 13), .ref (ex 14), .ref (ex 15), .ref (ex 16), .ref (ex 17), .ref (ex 18), .ref (ex 19), .ref (ex 20), .ref (ex 21), .ref (ex 22)]))]) hP hD [1] [0] rfl rfl (by decide) (by decide) hk1 hFc hP1 hD1
  subst hw
  clear hPc hDc hFc hP1 hD1 hk1 hz1 hvm ht
  generalize H1 = H at hP hS ⊢
  replace hP : va_P D vwCl [((a 0), .inr (11, [.ref (ex 0), .ref (a 1), .ref (ex 1), .ref (ex 2), .ref (ex 3), .ref (ex 4), .ref (ex 5), .ref (ex 6), .ref (ex 7), .ref (ex 8), .ref (ex 9), .ref (ex 10), .ref (ex 11), .ref (ex 12), .int 0])), ((a 1), .inr (7, [.int 0, .int 0, .ref (ex 13), .ref (ex 14), .ref (ex 15), .ref (ex 16), .ref (ex 17), .ref (ex 18), .ref (ex 19), .ref (ex 20), .ref (ex 21), .ref (ex 22)]))] H := hP
  replace hD : va_D A [((a 0), .inr (11, [.ref (ex 0), .ref (a 1), .ref (ex 1), .ref (ex 2), .ref (ex 3), .ref (ex 4), .ref (ex 5), .ref (ex 6), .ref (ex 7), .ref (ex 8), .ref (ex 9), .ref (ex 10), .ref (ex 11), .ref (ex 12), .int 0])), ((a 1), .inr (7, [.int 0, .int 0, .ref (ex 13), .ref (ex 14), .ref (ex 15), .ref (ex 16), .ref (ex 17), .ref (ex 18), .ref (ex 19), .ref (ex 20), .ref (ex 21), .ref (ex 22)]))] := hD
  refine lv_if_ne (tgt := 13) hx hb dX11_bearers_8 (by decide) (fun c => absurd (by decide) c) (fun _ => ?_)
  refine lv_iconst (v := (-1)) hx hb dX11_bearers_11 (by decide) ?_
  have hP9 := hP.sub (ws' := []) [] rfl
  have hD9 := hD.sub (ws' := []) [] (by decide) rfl
  rw [hQ]
  exact W.iret (v := (-1)) hx hb hr (fun t ht hW => ⟨⟨(-1), (), rfl, rfl, ⟨xa [], xf [], xh [], xv [], by rw [ht]; exact hP9, hD9, trivial⟩⟩, hS.F ht⟩) hS.2.2 dX11_bearers_12
abbrev pre_X11_howLong (T : Nat → ClassId) (a ex : Nat → Nat) (fi : Nat → Nat → Int32) (fl : Nat → Nat → Int64) (vi : Nat → Int32) : va_W := [((a 0), .inr (11, [.ref (ex 0), .ref (a 1), .ref (ex 1), .ref (ex 2), .ref (ex 3), .ref (ex 4), .ref (ex 5), .ref (ex 6), .ref (ex 7), .ref (ex 8), .ref (ex 9), .ref (ex 10), .ref (ex 11), .ref (ex 12), .int 0])), ((a 1), .inr (7, [.int 0, .int 0, .ref (ex 13), .ref (ex 14), .ref (ex 15), .ref (ex 16), .ref (ex 17), .ref (ex 18), .ref (ex 19), .ref (ex 20), .ref (ex 21), .ref (ex 22)]))]
set_option maxHeartbeats 4000000 in
set_option maxRecDepth 100000 in
theorem c_X11_howLong (l : Launch) (D : va_G) (T : Nat → ClassId) (a ex : Nat → Nat) (fi : Nat → Nat → Int32) (fl : Nat → Nat → Int64) (vi : Nat → Int32) (sz : Nat) : Met l yX11_howLong (xw yX11_howLong cX11_howLong 3 (some .int)) ({ frames := 1, cells := 0, slots := 0, locals := 25 }) (xP D T [.ref (a 0), .int (vi 0), .int (vi 1)] sz (pre_X11_howLong T a ex fi fl vi)) (va_Qi (fun r (_ : Unit) => r = (-1)) (xB D (va_A (pre_X11_howLong T a ex fi fl vi) sz) (fun _ => True) (fun b fj fm vj => [])) (va_A (pre_X11_howLong T a ex fi fl vi) sz)) 0 0 (va_A (pre_X11_howLong T a ex fi fl vi) sz) := by
  refine xofW (cc := cX11_howLong) (maxL := 3) (ret := (some .int)) (by decide) rfl ?_
  intro p e s m args below meth c s₁ R Q hR hQ B hml hv
  obtain ⟨rfl, hsz, hP, hK, hD0⟩ := hv
  have hx := B.exec
  have hb := B.bytes
  have hr := B.returns
  have hts := atoms_spec (ws := xw yX11_howLong cX11_howLong 3 (some .int)) B.pre
  have htg : ∀ w ∈ xg, w.before _ s = true := fun w h => hts w (List.mem_cons_of_mem _ h)
  have hown : s.vm.findClass RX11 = some m.cls := findClass_of_methodNamed B.named
  have hlocks := B.notSynchronized
  subst hsz
  have hD := hD0.self (sz := s.heap.size)
  generalize hAe : va_A (pre_X11_howLong T a ex fi fl vi) s.heap.size = A at hD hQ
  have hA : ∀ q : Nat, s.heap.size ≤ q → A q := fun q h => by rw [← hAe]; exact Or.inr h
  have hS : va_S A s.heap s.heap [] := va_S.rf
  replace hP : va_P D vwCl [((a 0), .inr (11, [.ref (ex 0), .ref (a 1), .ref (ex 1), .ref (ex 2), .ref (ex 3), .ref (ex 4), .ref (ex 5), .ref (ex 6), .ref (ex 7), .ref (ex 8), .ref (ex 9), .ref (ex 10), .ref (ex 11), .ref (ex 12), .int 0])), ((a 1), .inr (7, [.int 0, .int 0, .ref (ex 13), .ref (ex 14), .ref (ex 15), .ref (ex 16), .ref (ex 17), .ref (ex 18), .ref (ex 19), .ref (ex 20), .ref (ex 21), .ref (ex 22)]))] s.heap := hP
  replace hD : va_D A [((a 0), .inr (11, [.ref (ex 0), .ref (a 1), .ref (ex 1), .ref (ex 2), .ref (ex 3), .ref (ex 4), .ref (ex 5), .ref (ex 6), .ref (ex 7), .ref (ex 8), .ref (ex 9), .ref (ex 10), .ref (ex 11), .ref (ex 12), .int 0])), ((a 1), .inr (7, [.int 0, .int 0, .ref (ex 13), .ref (ex 14), .ref (ex 15), .ref (ex 16), .ref (ex 17), .ref (ex 18), .ref (ex 19), .ref (ex 20), .ref (ex 21), .ref (ex 22)]))] := hD
  have hl := lv_entry ([.ref (a 0), .int (vi 0), .int (vi 1)]) (n := 3) (Nat.le_of_ble_eq_true rfl)
  rw [lg_entry_eq]
  generalize (lg_sl ([.ref (a 0), .int (vi 0), .int (vi 1)]) ++ List.replicate (3 - (lg_sl ([.ref (a 0), .int (vi 0), .int (vi 1)])).length) Slot.unset).toArray = ls at hl ⊢
  replace hl : lv_has ls 3 [(0, .ref (a 0)), (1, .int (vi 0)), (2, .int (vi 1))] := hl
  refine lv_aload_n hx hb dX11_howLong_0 rfl (lv_at hl 0 rfl) ?_
  refine va_get (D := D) (ci := 11) (v := .ref (a 1)) (C := RX11) (T := TX11) (N := 15) hx hb htg inX11 hown hK.1 hP 0 rfl rfl 1 (by decide) (htg _ kw_497) (fun _ h9 => h9) rfl dX11_howLong_1 ?_
  refine lv_iload_n hx hb dX11_howLong_4 rfl (lv_at hl 1 rfl) ?_
  have hPc := hP.sub (ws' := (pre_X7_isSoul T (xa [(a 1)]) (xa [(ex 13), (ex 14), (ex 15), (ex 16), (ex 17), (ex 18), (ex 19), (ex 20), (ex 21), (ex 22)]) (xf []) (xh []) (xv [(vi 0)]))) [1] rfl
  have hDc := hD.sub (ws' := (pre_X7_isSoul T (xa [(a 1)]) (xa [(ex 13), (ex 14), (ex 15), (ex 16), (ex 17), (ex 18), (ex 19), (ex 20), (ex 21), (ex 22)]) (xf []) (xh []) (xv [(vi 0)]))) [1] (by decide) rfl
  have hFc := va_free (wc := (pre_X7_isSoul T (xa [(a 1)]) (xa [(ex 13), (ex 14), (ex 15), (ex 16), (ex 17), (ex 18), (ex 19), (ex 20), (ex 21), (ex 22)]) (xf []) (xh []) (xv [(vi 0)]))) hD hS hA [1] rfl
  refine va_calli (va_runVN (As := [.int (vi 0)]) (rest := []) ⟨hx, hb, hml, hown, htg⟩ (c_X7_isSoul l D T (xa [(a 1)]) (xa [(ex 13), (ex 14), (ex 15), (ex 16), (ex 17), (ex 18), (ex 19), (ex 20), (ex 21), (ex 22)]) (xf []) (xh []) (xv [(vi 0)]) s.heap.size) ⟨va_cnB 1 htg (xg_ok kw_664) rfl rfl rfl (hK.2.1 _ kn_764) (htg _ kw_7) (by decide +kernel) ⟨by rw [hR]; exact Nat.le_of_ble_eq_true rfl, by rw [hR]; exact Nat.le_of_ble_eq_true rfl⟩, htg _ kw_663, htg _ ks_25⟩ (xpreV hK hPc hDc (va_recv hK.1 hPc (ci := 7) (q0 := 0) rfl rfl)) rfl rfl hl.1 rfl (lv_room (Nat.le_of_ble_eq_true rfl)) dX11_howLong_5 ⟨by rw [hR]; exact Nat.le_of_ble_eq_true rfl, by rw [hR]; exact Nat.le_of_ble_eq_true rfl⟩) hS (fun q _ h => hFc q h) hFc (fun r9 u t H1 locs ht hvm hw hB hz1 hk1 hS => ?_)
  obtain ⟨bk, fik, flk, vik, hP1, hD1, hGk⟩ := hB
  rw [ht] at hP1
  obtain ⟨hP, hD⟩ := va_join (wr := [((a 0), .inr (11, [.ref (ex 0), .ref (a 1), .ref (ex 1), .ref (ex 2), .ref (ex 3), .ref (ex 4), .ref (ex 5), .ref (ex 6), .ref (ex 7), .ref (ex 8), .ref (ex 9), .ref (ex 10), .ref (ex 11), .ref (ex 12), .int 0]))]) (w1 := [((a 1), .inr (7, [.int 0, .int 0, .ref (ex 13), .ref (ex 14), .ref (ex 15), .ref (ex 16), .ref (ex 17), .ref (ex 18), .ref (ex 19), .ref (ex 20), .ref (ex 21), .ref (ex 22)]))]) hP hD [1] [0] rfl rfl (by decide) (by decide) hk1 hFc hP1 hD1
  subst hw
  clear hPc hDc hFc hP1 hD1 hk1 hz1 hvm ht
  generalize H1 = H at hP hS ⊢
  replace hP : va_P D vwCl [((a 0), .inr (11, [.ref (ex 0), .ref (a 1), .ref (ex 1), .ref (ex 2), .ref (ex 3), .ref (ex 4), .ref (ex 5), .ref (ex 6), .ref (ex 7), .ref (ex 8), .ref (ex 9), .ref (ex 10), .ref (ex 11), .ref (ex 12), .int 0])), ((a 1), .inr (7, [.int 0, .int 0, .ref (ex 13), .ref (ex 14), .ref (ex 15), .ref (ex 16), .ref (ex 17), .ref (ex 18), .ref (ex 19), .ref (ex 20), .ref (ex 21), .ref (ex 22)]))] H := hP
  replace hD : va_D A [((a 0), .inr (11, [.ref (ex 0), .ref (a 1), .ref (ex 1), .ref (ex 2), .ref (ex 3), .ref (ex 4), .ref (ex 5), .ref (ex 6), .ref (ex 7), .ref (ex 8), .ref (ex 9), .ref (ex 10), .ref (ex 11), .ref (ex 12), .int 0])), ((a 1), .inr (7, [.int 0, .int 0, .ref (ex 13), .ref (ex 14), .ref (ex 15), .ref (ex 16), .ref (ex 17), .ref (ex 18), .ref (ex 19), .ref (ex 20), .ref (ex 21), .ref (ex 22)]))] := hD
  refine lv_if_eq (tgt := 34) hx hb dX11_howLong_8 (by decide) (fun _ => ?_) (fun c => absurd (by decide) c)
  refine lv_iconst (v := (-1)) hx hb dX11_howLong_34 (by decide) ?_
  have hP9 := hP.sub (ws' := []) [] rfl
  have hD9 := hD.sub (ws' := []) [] (by decide) rfl
  rw [hQ]
  exact W.iret (v := (-1)) hx hb hr (fun t ht hW => ⟨⟨(-1), (), rfl, rfl, ⟨xa [], xf [], xh [], xv [], by rw [ht]; exact hP9, hD9, trivial⟩⟩, hS.F ht⟩) hS.2.2 dX11_howLong_35
abbrev pre_X10_point (T : Nat → ClassId) (a ex : Nat → Nat) (fi : Nat → Nat → Int32) (fl : Nat → Nat → Int64) (vi : Nat → Int32) : va_W := [((a 0), .inr (10, [.ref (a 1), .ref (ex 0), .ref (ex 1), .ref (ex 2), .int 0])), ((a 1), .inr (7, [.int 0, .int 0, .ref (ex 3), .ref (ex 4), .ref (ex 5), .ref (ex 6), .ref (ex 7), .ref (ex 8), .ref (ex 9), .ref (ex 10), .ref (ex 11), .ref (ex 12)]))]
set_option maxHeartbeats 4000000 in
set_option maxRecDepth 100000 in
theorem c_X10_point (l : Launch) (D : va_G) (T : Nat → ClassId) (a ex : Nat → Nat) (fi : Nat → Nat → Int32) (fl : Nat → Nat → Int64) (vi : Nat → Int32) (sz : Nat) : Met l yX10_point (xw yX10_point cX10_point 4 (some .boolean)) ({ frames := 0, cells := 0, slots := 0, locals := 0 }) (xP D T [.ref (a 0)] sz (pre_X10_point T a ex fi fl vi)) (va_Qi (fun r (_ : Unit) => r = 1) (xB D (va_A (pre_X10_point T a ex fi fl vi) sz) (fun _ => True) (fun b fj fm vj => [((a 0), .inr (10, [.ref (a 1), .ref (ex 0), .ref (ex 1), .ref (ex 2), .int 0])), ((a 1), .inr (7, [.int 0, .int 0, .ref (ex 3), .ref (ex 4), .ref (ex 5), .ref (ex 6), .ref (ex 7), .ref (ex 8), .ref (ex 9), .ref (ex 10), .ref (ex 11), .ref (ex 12)]))])) (va_A (pre_X10_point T a ex fi fl vi) sz)) 0 0 (va_A (pre_X10_point T a ex fi fl vi) sz) := by
  refine xofW (cc := cX10_point) (maxL := 4) (ret := (some .boolean)) (by decide) rfl ?_
  intro p e s m args below meth c s₁ R Q hR hQ B hml hv
  obtain ⟨rfl, hsz, hP, hK, hD0⟩ := hv
  have hx := B.exec
  have hb := B.bytes
  have hr := B.returns
  have hts := atoms_spec (ws := xw yX10_point cX10_point 4 (some .boolean)) B.pre
  have htg : ∀ w ∈ xg, w.before _ s = true := fun w h => hts w (List.mem_cons_of_mem _ h)
  have hown : s.vm.findClass RX10 = some m.cls := findClass_of_methodNamed B.named
  have hlocks := B.notSynchronized
  subst hsz
  have hD := hD0.self (sz := s.heap.size)
  generalize hAe : va_A (pre_X10_point T a ex fi fl vi) s.heap.size = A at hD hQ
  have hA : ∀ q : Nat, s.heap.size ≤ q → A q := fun q h => by rw [← hAe]; exact Or.inr h
  have hS : va_S A s.heap s.heap [] := va_S.rf
  replace hP : va_P D vwCl [((a 0), .inr (10, [.ref (a 1), .ref (ex 0), .ref (ex 1), .ref (ex 2), .int 0])), ((a 1), .inr (7, [.int 0, .int 0, .ref (ex 3), .ref (ex 4), .ref (ex 5), .ref (ex 6), .ref (ex 7), .ref (ex 8), .ref (ex 9), .ref (ex 10), .ref (ex 11), .ref (ex 12)]))] s.heap := hP
  replace hD : va_D A [((a 0), .inr (10, [.ref (a 1), .ref (ex 0), .ref (ex 1), .ref (ex 2), .int 0])), ((a 1), .inr (7, [.int 0, .int 0, .ref (ex 3), .ref (ex 4), .ref (ex 5), .ref (ex 6), .ref (ex 7), .ref (ex 8), .ref (ex 9), .ref (ex 10), .ref (ex 11), .ref (ex 12)]))] := hD
  have hl := lv_entry ([.ref (a 0)]) (n := 4) (Nat.le_of_ble_eq_true rfl)
  rw [lg_entry_eq]
  generalize (lg_sl ([.ref (a 0)]) ++ List.replicate (4 - (lg_sl ([.ref (a 0)])).length) Slot.unset).toArray = ls at hl ⊢
  replace hl : lv_has ls 4 [(0, .ref (a 0))] := hl
  refine lv_iconst (v := 0) hx hb dX10_point_0 (by decide) ?_
  refine lv_istore_n (lv' := [(1, .int 0), (0, .ref (a 0))]) hx hb dX10_point_1 rfl hl (by decide) rfl (fun ls hl => ?_)
  refine lv_iconst (v := 0) hx hb dX10_point_2 (by decide) ?_
  refine lv_istore_n (lv' := [(2, .int 0), (1, .int 0), (0, .ref (a 0))]) hx hb dX10_point_3 rfl hl (by decide) rfl (fun ls hl => ?_)
  refine lv_iload_n hx hb dX10_point_4 rfl (lv_at hl 0 rfl) ?_
  refine lv_aload_n hx hb dX10_point_5 rfl (lv_at hl 2 rfl) ?_
  refine va_get (D := D) (ci := 10) (v := .ref (a 1)) (C := RX10) (T := TX10) (N := 5) hx hb htg inX10 hown hK.1 hP 0 rfl rfl 0 (by decide) (htg _ kw_416) (fun _ h9 => h9) rfl dX10_point_6 ?_
  refine va_getN (D := D) (ci := 7) (v := .int 0) (C := RX7) (T := TX7) (N := 12) hx hb htg inX7 hown hK.1 hP 1 rfl rfl 1 (by decide) (va_Nw.use rfl (hK.2.1 _ kn_165)) (fun _ h9 => h9) rfl dX10_point_9 ?_
  refine lv_icmp_ge (tgt := 117) hx hb dX10_point_12 (by decide) (fun _ => ?_) (fun c => absurd (by decide) c)
  refine lv_iconst (v := 1) hx hb dX10_point_117 (by decide) ?_
  have hP9 := hP.sub (ws' := [((a 0), .inr (10, [.ref (a 1), .ref (ex 0), .ref (ex 1), .ref (ex 2), .int 0])), ((a 1), .inr (7, [.int 0, .int 0, .ref (ex 3), .ref (ex 4), .ref (ex 5), .ref (ex 6), .ref (ex 7), .ref (ex 8), .ref (ex 9), .ref (ex 10), .ref (ex 11), .ref (ex 12)]))]) [0, 1] rfl
  have hD9 := hD.sub (ws' := [((a 0), .inr (10, [.ref (a 1), .ref (ex 0), .ref (ex 1), .ref (ex 2), .int 0])), ((a 1), .inr (7, [.int 0, .int 0, .ref (ex 3), .ref (ex 4), .ref (ex 5), .ref (ex 6), .ref (ex 7), .ref (ex 8), .ref (ex 9), .ref (ex 10), .ref (ex 11), .ref (ex 12)]))]) [0, 1] (by decide +kernel) rfl
  rw [hQ]
  exact W.zret (v := 1) hx hb hr rfl (fun t ht hW => ⟨⟨1, (), rfl, rfl, ⟨xa [], xf [], xh [], xv [], by rw [ht]; exact hP9, hD9, trivial⟩⟩, hS.F ht⟩) hS.2.2 dX10_point_118
abbrev pre_X10_findMondays (T : Nat → ClassId) (a ex : Nat → Nat) (fi : Nat → Nat → Int32) (fl : Nat → Nat → Int64) (vi : Nat → Int32) : va_W := [((a 0), .inr (10, [.ref (a 1), .ref (ex 0), .ref (ex 1), .ref (ex 2), .int 0])), ((a 1), .inr (7, [.int 0, .int 0, .ref (ex 3), .ref (ex 4), .ref (ex 5), .ref (ex 6), .ref (ex 7), .ref (ex 8), .ref (ex 9), .ref (ex 10), .ref (ex 11), .ref (ex 12)]))]
set_option maxHeartbeats 4000000 in
set_option maxRecDepth 100000 in
theorem c_X10_findMondays (l : Launch) (D : va_G) (T : Nat → ClassId) (a ex : Nat → Nat) (fi : Nat → Nat → Int32) (fl : Nat → Nat → Int64) (vi : Nat → Int32) (sz : Nat) : Met l yX10_findMondays (xw yX10_findMondays cX10_findMondays 3 (some .int)) ({ frames := 1, cells := 0, slots := 0, locals := 27 }) (xP D T [.ref (a 0)] sz (pre_X10_findMondays T a ex fi fl vi)) (va_Qi (fun r (_ : Unit) => r = 0) (xB D (va_A (pre_X10_findMondays T a ex fi fl vi) sz) (fun _ => True) (fun b fj fm vj => [((a 0), .inr (10, [.ref (a 1), .ref (ex 0), .ref (ex 1), .ref (ex 2), .int 0])), ((a 1), .inr (7, [.int 0, .int 0, .ref (ex 3), .ref (ex 4), .ref (ex 5), .ref (ex 6), .ref (ex 7), .ref (ex 8), .ref (ex 9), .ref (ex 10), .ref (ex 11), .ref (ex 12)]))])) (va_A (pre_X10_findMondays T a ex fi fl vi) sz)) 0 0 (va_A (pre_X10_findMondays T a ex fi fl vi) sz) := by
  refine xofW (cc := cX10_findMondays) (maxL := 3) (ret := (some .int)) (by decide) rfl ?_
  intro p e s m args below meth c s₁ R Q hR hQ B hml hv
  obtain ⟨rfl, hsz, hP, hK, hD0⟩ := hv
  have hx := B.exec
  have hb := B.bytes
  have hr := B.returns
  have hts := atoms_spec (ws := xw yX10_findMondays cX10_findMondays 3 (some .int)) B.pre
  have htg : ∀ w ∈ xg, w.before _ s = true := fun w h => hts w (List.mem_cons_of_mem _ h)
  have hown : s.vm.findClass RX10 = some m.cls := findClass_of_methodNamed B.named
  have hlocks := B.notSynchronized
  subst hsz
  have hD := hD0.self (sz := s.heap.size)
  generalize hAe : va_A (pre_X10_findMondays T a ex fi fl vi) s.heap.size = A at hD hQ
  have hA : ∀ q : Nat, s.heap.size ≤ q → A q := fun q h => by rw [← hAe]; exact Or.inr h
  have hS : va_S A s.heap s.heap [] := va_S.rf
  replace hP : va_P D vwCl [((a 0), .inr (10, [.ref (a 1), .ref (ex 0), .ref (ex 1), .ref (ex 2), .int 0])), ((a 1), .inr (7, [.int 0, .int 0, .ref (ex 3), .ref (ex 4), .ref (ex 5), .ref (ex 6), .ref (ex 7), .ref (ex 8), .ref (ex 9), .ref (ex 10), .ref (ex 11), .ref (ex 12)]))] s.heap := hP
  replace hD : va_D A [((a 0), .inr (10, [.ref (a 1), .ref (ex 0), .ref (ex 1), .ref (ex 2), .int 0])), ((a 1), .inr (7, [.int 0, .int 0, .ref (ex 3), .ref (ex 4), .ref (ex 5), .ref (ex 6), .ref (ex 7), .ref (ex 8), .ref (ex 9), .ref (ex 10), .ref (ex 11), .ref (ex 12)]))] := hD
  have hl := lv_entry ([.ref (a 0)]) (n := 3) (Nat.le_of_ble_eq_true rfl)
  rw [lg_entry_eq]
  generalize (lg_sl ([.ref (a 0)]) ++ List.replicate (3 - (lg_sl ([.ref (a 0)])).length) Slot.unset).toArray = ls at hl ⊢
  replace hl : lv_has ls 3 [(0, .ref (a 0))] := hl
  refine lv_aload_n hx hb dX10_findMondays_0 rfl (lv_at hl 0 rfl) ?_
  refine lv_iconst (v := 0) hx hb dX10_findMondays_1 (by decide) ?_
  refine va_put (D := D) (ci := 10) (v := .int 0) (ty := .boolean) (C := RX10) (T := TX10) (N := 5) hx hb htg inX10 tyX10 tyX10_ok nmX10 hown hK.1 hP hD hS 0 rfl rfl 4 (by decide) (htg _ kw_420) (fun _ h9 => h9) rfl (by decide +kernel) rfl rfl (Nat.le_of_ble_eq_true rfl) dX10_findMondays_2 (fun H locs hP hD hS => ?_)
  replace hP : va_P D vwCl [((a 0), .inr (10, [.ref (a 1), .ref (ex 0), .ref (ex 1), .ref (ex 2), .int 0])), ((a 1), .inr (7, [.int 0, .int 0, .ref (ex 3), .ref (ex 4), .ref (ex 5), .ref (ex 6), .ref (ex 7), .ref (ex 8), .ref (ex 9), .ref (ex 10), .ref (ex 11), .ref (ex 12)]))] H := hP
  replace hD : va_D A [((a 0), .inr (10, [.ref (a 1), .ref (ex 0), .ref (ex 1), .ref (ex 2), .int 0])), ((a 1), .inr (7, [.int 0, .int 0, .ref (ex 3), .ref (ex 4), .ref (ex 5), .ref (ex 6), .ref (ex 7), .ref (ex 8), .ref (ex 9), .ref (ex 10), .ref (ex 11), .ref (ex 12)]))] := hD
  refine lv_aload_n hx hb dX10_findMondays_5 rfl (lv_at hl 0 rfl) ?_
  have hPc := hP.sub (ws' := (pre_X10_point T (xa [(a 0), (a 1)]) (xa [(ex 0), (ex 1), (ex 2), (ex 3), (ex 4), (ex 5), (ex 6), (ex 7), (ex 8), (ex 9), (ex 10), (ex 11), (ex 12)]) (xf []) (xh []) (xv []))) [0, 1] rfl
  have hDc := hD.sub (ws' := (pre_X10_point T (xa [(a 0), (a 1)]) (xa [(ex 0), (ex 1), (ex 2), (ex 3), (ex 4), (ex 5), (ex 6), (ex 7), (ex 8), (ex 9), (ex 10), (ex 11), (ex 12)]) (xf []) (xh []) (xv []))) [0, 1] (by decide) rfl
  have hFc := va_free (wc := (pre_X10_point T (xa [(a 0), (a 1)]) (xa [(ex 0), (ex 1), (ex 2), (ex 3), (ex 4), (ex 5), (ex 6), (ex 7), (ex 8), (ex 9), (ex 10), (ex 11), (ex 12)]) (xf []) (xh []) (xv []))) hD hS hA [0, 1] rfl
  refine va_calli (va_runV (As := []) (rest := []) ⟨hx, hb, hml, hown, htg⟩ (c_X10_point l D T (xa [(a 0), (a 1)]) (xa [(ex 0), (ex 1), (ex 2), (ex 3), (ex 4), (ex 5), (ex 6), (ex 7), (ex 8), (ex 9), (ex 10), (ex 11), (ex 12)]) (xf []) (xh []) (xv []) H.size) ⟨callB_of 0 htg (xg_ok kw_987) rfl rfl rfl (htg _ kw_13) (htg _ kw_984) (by decide +kernel) ⟨by rw [hR]; exact Nat.le_of_ble_eq_true rfl, by rw [hR]; exact Nat.le_of_ble_eq_true rfl⟩, htg _ kw_986, htg _ ks_77⟩ (xpreV hK hPc hDc (va_recv hK.1 hPc (ci := 10) (q0 := 0) rfl rfl)) rfl rfl hl.1 rfl (lv_room (Nat.le_of_ble_eq_true rfl)) dX10_findMondays_6 ⟨by rw [hR]; exact Nat.le_of_ble_eq_true rfl, by rw [hR]; exact Nat.le_of_ble_eq_true rfl⟩) hS (fun q _ h => hFc q h) hFc (fun r9 u t H1 locs ht hvm hw hB hz1 hk1 hS => ?_)
  obtain ⟨bk, fik, flk, vik, hP1, hD1, hGk⟩ := hB
  rw [ht] at hP1
  obtain ⟨hP, hD⟩ := va_join (wr := []) (w1 := [((a 0), .inr (10, [.ref (a 1), .ref (ex 0), .ref (ex 1), .ref (ex 2), .int 0])), ((a 1), .inr (7, [.int 0, .int 0, .ref (ex 3), .ref (ex 4), .ref (ex 5), .ref (ex 6), .ref (ex 7), .ref (ex 8), .ref (ex 9), .ref (ex 10), .ref (ex 11), .ref (ex 12)]))]) hP hD [0, 1] [] rfl rfl (by decide) (by decide) hk1 hFc hP1 hD1
  subst hw
  clear hPc hDc hFc hP1 hD1 hk1 hz1 hvm ht
  generalize H1 = H at hP hS ⊢
  replace hP : va_P D vwCl [((a 0), .inr (10, [.ref (a 1), .ref (ex 0), .ref (ex 1), .ref (ex 2), .int 0])), ((a 1), .inr (7, [.int 0, .int 0, .ref (ex 3), .ref (ex 4), .ref (ex 5), .ref (ex 6), .ref (ex 7), .ref (ex 8), .ref (ex 9), .ref (ex 10), .ref (ex 11), .ref (ex 12)]))] H := hP
  replace hD : va_D A [((a 0), .inr (10, [.ref (a 1), .ref (ex 0), .ref (ex 1), .ref (ex 2), .int 0])), ((a 1), .inr (7, [.int 0, .int 0, .ref (ex 3), .ref (ex 4), .ref (ex 5), .ref (ex 6), .ref (ex 7), .ref (ex 8), .ref (ex 9), .ref (ex 10), .ref (ex 11), .ref (ex 12)]))] := hD
  refine lv_if_ne (tgt := 14) hx hb dX10_findMondays_9 (by decide) (fun _ => ?_) (fun c => absurd c (by decide))
  refine lv_iconst (v := 0) hx hb dX10_findMondays_14 (by decide) ?_
  refine lv_istore_n (lv' := [(1, .int 0), (0, .ref (a 0))]) hx hb dX10_findMondays_15 rfl hl (by decide) rfl (fun ls hl => ?_)
  refine lv_iconst (v := 0) hx hb dX10_findMondays_16 (by decide) ?_
  refine lv_istore_n (lv' := [(2, .int 0), (1, .int 0), (0, .ref (a 0))]) hx hb dX10_findMondays_17 rfl hl (by decide) rfl (fun ls hl => ?_)
  refine lv_iload_n hx hb dX10_findMondays_18 rfl (lv_at hl 0 rfl) ?_
  refine lv_aload_n hx hb dX10_findMondays_19 rfl (lv_at hl 2 rfl) ?_
  refine va_get (D := D) (ci := 10) (v := .ref (a 1)) (C := RX10) (T := TX10) (N := 5) hx hb htg inX10 hown hK.1 hP 0 rfl rfl 0 (by decide) (htg _ kw_416) (fun _ h9 => h9) rfl dX10_findMondays_20 ?_
  refine va_getN (D := D) (ci := 7) (v := .int 0) (C := RX7) (T := TX7) (N := 12) hx hb htg inX7 hown hK.1 hP 1 rfl rfl 1 (by decide) (va_Nw.use rfl (hK.2.1 _ kn_165)) (fun _ h9 => h9) rfl dX10_findMondays_23 ?_
  refine lv_icmp_ge (tgt := 45) hx hb dX10_findMondays_26 (by decide) (fun _ => ?_) (fun c => absurd (by decide) c)
  refine lv_iload_n hx hb dX10_findMondays_45 rfl (lv_at hl 1 rfl) ?_
  refine lv_iconst (v := 1) hx hb dX10_findMondays_46 (by decide) ?_
  refine lv_icmp_ne (tgt := 54) hx hb dX10_findMondays_47 (by decide) (fun _ => ?_) (fun c => absurd c (by decide))
  refine lv_iload_n hx hb dX10_findMondays_54 rfl (lv_at hl 1 rfl) ?_
  have hP9 := hP.sub (ws' := [((a 0), .inr (10, [.ref (a 1), .ref (ex 0), .ref (ex 1), .ref (ex 2), .int 0])), ((a 1), .inr (7, [.int 0, .int 0, .ref (ex 3), .ref (ex 4), .ref (ex 5), .ref (ex 6), .ref (ex 7), .ref (ex 8), .ref (ex 9), .ref (ex 10), .ref (ex 11), .ref (ex 12)]))]) [0, 1] rfl
  have hD9 := hD.sub (ws' := [((a 0), .inr (10, [.ref (a 1), .ref (ex 0), .ref (ex 1), .ref (ex 2), .int 0])), ((a 1), .inr (7, [.int 0, .int 0, .ref (ex 3), .ref (ex 4), .ref (ex 5), .ref (ex 6), .ref (ex 7), .ref (ex 8), .ref (ex 9), .ref (ex 10), .ref (ex 11), .ref (ex 12)]))]) [0, 1] (by decide +kernel) rfl
  rw [hQ]
  exact W.iret (v := 0) hx hb hr (fun t ht hW => ⟨⟨0, (), rfl, rfl, ⟨xa [], xf [], xh [], xv [], by rw [ht]; exact hP9, hD9, trivial⟩⟩, hS.F ht⟩) hS.2.2 dX10_findMondays_55
abbrev pre_X11_wishes (T : Nat → ClassId) (a ex : Nat → Nat) (fi : Nat → Nat → Int32) (fl : Nat → Nat → Int64) (vi : Nat → Int32) : va_W := [((a 0), .inr (11, [.ref (ex 0), .ref (a 2), .ref (ex 1), .ref (ex 2), .ref (ex 3), .ref (ex 4), .ref (ex 5), .ref (ex 6), .ref (ex 7), .ref (ex 8), .ref (a 1), .ref (ex 9), .ref (ex 10), .ref (ex 11), .int 0])), ((a 1), .inr (10, [.ref (a 2), .ref (ex 3), .ref (ex 12), .ref (ex 13), .int 0])), ((a 2), .inr (7, [.int 0, .int 0, .ref (ex 14), .ref (ex 15), .ref (ex 16), .ref (ex 17), .ref (ex 18), .ref (ex 19), .ref (ex 20), .ref (ex 21), .ref (ex 22), .ref (ex 23)]))]
set_option maxHeartbeats 4000000 in
set_option maxRecDepth 100000 in
theorem c_X11_wishes (l : Launch) (D : va_G) (T : Nat → ClassId) (a ex : Nat → Nat) (fi : Nat → Nat → Int32) (fl : Nat → Nat → Int64) (vi : Nat → Int32) (sz : Nat) : Met l yX11_wishes (xw yX11_wishes cX11_wishes 1 (some .int)) ({ frames := 2, cells := 0, slots := 0, locals := 53 }) (xP D T [.ref (a 0)] sz (pre_X11_wishes T a ex fi fl vi)) (va_Qi (fun r (_ : Unit) => r = 0) (xB D (va_A (pre_X11_wishes T a ex fi fl vi) sz) (fun _ => True) (fun b fj fm vj => [])) (va_A (pre_X11_wishes T a ex fi fl vi) sz)) 0 0 (va_A (pre_X11_wishes T a ex fi fl vi) sz) := by
  refine xofW (cc := cX11_wishes) (maxL := 1) (ret := (some .int)) (by decide) rfl ?_
  intro p e s m args below meth c s₁ R Q hR hQ B hml hv
  obtain ⟨rfl, hsz, hP, hK, hD0⟩ := hv
  have hx := B.exec
  have hb := B.bytes
  have hr := B.returns
  have hts := atoms_spec (ws := xw yX11_wishes cX11_wishes 1 (some .int)) B.pre
  have htg : ∀ w ∈ xg, w.before _ s = true := fun w h => hts w (List.mem_cons_of_mem _ h)
  have hown : s.vm.findClass RX11 = some m.cls := findClass_of_methodNamed B.named
  have hlocks := B.notSynchronized
  subst hsz
  have hD := hD0.self (sz := s.heap.size)
  generalize hAe : va_A (pre_X11_wishes T a ex fi fl vi) s.heap.size = A at hD hQ
  have hA : ∀ q : Nat, s.heap.size ≤ q → A q := fun q h => by rw [← hAe]; exact Or.inr h
  have hS : va_S A s.heap s.heap [] := va_S.rf
  replace hP : va_P D vwCl [((a 0), .inr (11, [.ref (ex 0), .ref (a 2), .ref (ex 1), .ref (ex 2), .ref (ex 3), .ref (ex 4), .ref (ex 5), .ref (ex 6), .ref (ex 7), .ref (ex 8), .ref (a 1), .ref (ex 9), .ref (ex 10), .ref (ex 11), .int 0])), ((a 1), .inr (10, [.ref (a 2), .ref (ex 3), .ref (ex 12), .ref (ex 13), .int 0])), ((a 2), .inr (7, [.int 0, .int 0, .ref (ex 14), .ref (ex 15), .ref (ex 16), .ref (ex 17), .ref (ex 18), .ref (ex 19), .ref (ex 20), .ref (ex 21), .ref (ex 22), .ref (ex 23)]))] s.heap := hP
  replace hD : va_D A [((a 0), .inr (11, [.ref (ex 0), .ref (a 2), .ref (ex 1), .ref (ex 2), .ref (ex 3), .ref (ex 4), .ref (ex 5), .ref (ex 6), .ref (ex 7), .ref (ex 8), .ref (a 1), .ref (ex 9), .ref (ex 10), .ref (ex 11), .int 0])), ((a 1), .inr (10, [.ref (a 2), .ref (ex 3), .ref (ex 12), .ref (ex 13), .int 0])), ((a 2), .inr (7, [.int 0, .int 0, .ref (ex 14), .ref (ex 15), .ref (ex 16), .ref (ex 17), .ref (ex 18), .ref (ex 19), .ref (ex 20), .ref (ex 21), .ref (ex 22), .ref (ex 23)]))] := hD
  have hl := lv_entry ([.ref (a 0)]) (n := 1) (Nat.le_of_ble_eq_true rfl)
  rw [lg_entry_eq]
  generalize (lg_sl ([.ref (a 0)]) ++ List.replicate (1 - (lg_sl ([.ref (a 0)])).length) Slot.unset).toArray = ls at hl ⊢
  replace hl : lv_has ls 1 [(0, .ref (a 0))] := hl
  refine lv_aload_n hx hb dX11_wishes_0 rfl (lv_at hl 0 rfl) ?_
  refine va_get (D := D) (ci := 11) (v := .ref (a 1)) (C := RX11) (T := TX11) (N := 15) hx hb htg inX11 hown hK.1 hP 0 rfl rfl 10 (by decide) (htg _ kw_506) (fun _ h9 => h9) rfl dX11_wishes_1 ?_
  have hPc := hP.sub (ws' := (pre_X10_findMondays T (xa [(a 1), (a 2)]) (xa [(ex 3), (ex 12), (ex 13), (ex 14), (ex 15), (ex 16), (ex 17), (ex 18), (ex 19), (ex 20), (ex 21), (ex 22), (ex 23)]) (xf []) (xh []) (xv []))) [1, 2] rfl
  have hDc := hD.sub (ws' := (pre_X10_findMondays T (xa [(a 1), (a 2)]) (xa [(ex 3), (ex 12), (ex 13), (ex 14), (ex 15), (ex 16), (ex 17), (ex 18), (ex 19), (ex 20), (ex 21), (ex 22), (ex 23)]) (xf []) (xh []) (xv []))) [1, 2] (by decide) rfl
  have hFc := va_free (wc := (pre_X10_findMondays T (xa [(a 1), (a 2)]) (xa [(ex 3), (ex 12), (ex 13), (ex 14), (ex 15), (ex 16), (ex 17), (ex 18), (ex 19), (ex 20), (ex 21), (ex 22), (ex 23)]) (xf []) (xh []) (xv []))) hD hS hA [1, 2] rfl
  refine va_calli (va_runVN (As := []) (rest := []) ⟨hx, hb, hml, hown, htg⟩ (c_X10_findMondays l D T (xa [(a 1), (a 2)]) (xa [(ex 3), (ex 12), (ex 13), (ex 14), (ex 15), (ex 16), (ex 17), (ex 18), (ex 19), (ex 20), (ex 21), (ex 22), (ex 23)]) (xf []) (xh []) (xv []) s.heap.size) ⟨va_cnB 0 htg (xg_ok kw_983) rfl rfl rfl (hK.2.1 _ kn_980) (htg _ kw_13) (by decide +kernel) ⟨by rw [hR]; exact Nat.le_of_ble_eq_true rfl, by rw [hR]; exact Nat.le_of_ble_eq_true rfl⟩, htg _ kw_982, htg _ ks_76⟩ (xpreV hK hPc hDc (va_recv hK.1 hPc (ci := 10) (q0 := 0) rfl rfl)) rfl rfl hl.1 rfl (lv_room (Nat.le_of_ble_eq_true rfl)) dX11_wishes_4 ⟨by rw [hR]; exact Nat.le_of_ble_eq_true rfl, by rw [hR]; exact Nat.le_of_ble_eq_true rfl⟩) hS (fun q _ h => hFc q h) hFc (fun r9 u t H1 locs ht hvm hw hB hz1 hk1 hS => ?_)
  obtain ⟨bk, fik, flk, vik, hP1, hD1, hGk⟩ := hB
  rw [ht] at hP1
  obtain ⟨hP, hD⟩ := va_join (wr := [((a 0), .inr (11, [.ref (ex 0), .ref (a 2), .ref (ex 1), .ref (ex 2), .ref (ex 3), .ref (ex 4), .ref (ex 5), .ref (ex 6), .ref (ex 7), .ref (ex 8), .ref (a 1), .ref (ex 9), .ref (ex 10), .ref (ex 11), .int 0]))]) (w1 := [((a 1), .inr (10, [.ref (a 2), .ref (ex 3), .ref (ex 12), .ref (ex 13), .int 0])), ((a 2), .inr (7, [.int 0, .int 0, .ref (ex 14), .ref (ex 15), .ref (ex 16), .ref (ex 17), .ref (ex 18), .ref (ex 19), .ref (ex 20), .ref (ex 21), .ref (ex 22), .ref (ex 23)]))]) hP hD [1, 2] [0] rfl rfl (by decide) (by decide) hk1 hFc hP1 hD1
  subst hw
  clear hPc hDc hFc hP1 hD1 hk1 hz1 hvm ht
  generalize H1 = H at hP hS ⊢
  replace hP : va_P D vwCl [((a 0), .inr (11, [.ref (ex 0), .ref (a 2), .ref (ex 1), .ref (ex 2), .ref (ex 3), .ref (ex 4), .ref (ex 5), .ref (ex 6), .ref (ex 7), .ref (ex 8), .ref (a 1), .ref (ex 9), .ref (ex 10), .ref (ex 11), .int 0])), ((a 1), .inr (10, [.ref (a 2), .ref (ex 3), .ref (ex 12), .ref (ex 13), .int 0])), ((a 2), .inr (7, [.int 0, .int 0, .ref (ex 14), .ref (ex 15), .ref (ex 16), .ref (ex 17), .ref (ex 18), .ref (ex 19), .ref (ex 20), .ref (ex 21), .ref (ex 22), .ref (ex 23)]))] H := hP
  replace hD : va_D A [((a 0), .inr (11, [.ref (ex 0), .ref (a 2), .ref (ex 1), .ref (ex 2), .ref (ex 3), .ref (ex 4), .ref (ex 5), .ref (ex 6), .ref (ex 7), .ref (ex 8), .ref (a 1), .ref (ex 9), .ref (ex 10), .ref (ex 11), .int 0])), ((a 1), .inr (10, [.ref (a 2), .ref (ex 3), .ref (ex 12), .ref (ex 13), .int 0])), ((a 2), .inr (7, [.int 0, .int 0, .ref (ex 14), .ref (ex 15), .ref (ex 16), .ref (ex 17), .ref (ex 18), .ref (ex 19), .ref (ex 20), .ref (ex 21), .ref (ex 22), .ref (ex 23)]))] := hD
  have hP9 := hP.sub (ws' := []) [] rfl
  have hD9 := hD.sub (ws' := []) [] (by decide) rfl
  rw [hQ]
  exact W.iret (v := 0) hx hb hr (fun t ht hW => ⟨⟨0, (), rfl, rfl, ⟨xa [], xf [], xh [], xv [], by rw [ht]; exact hP9, hD9, trivial⟩⟩, hS.F ht⟩) hS.2.2 dX11_wishes_7
abbrev pre_X10_findSwaps (T : Nat → ClassId) (a ex : Nat → Nat) (fi : Nat → Nat → Int32) (fl : Nat → Nat → Int64) (vi : Nat → Int32) : va_W := [((a 0), .inr (10, [.ref (a 1), .ref (ex 0), .ref (ex 1), .ref (ex 2), .int 0])), ((a 1), .inr (7, [.int 0, .int 0, .ref (ex 3), .ref (ex 4), .ref (ex 5), .ref (ex 6), .ref (ex 7), .ref (ex 8), .ref (ex 9), .ref (ex 10), .ref (ex 11), .ref (ex 12)]))]
set_option maxHeartbeats 4000000 in
set_option maxRecDepth 100000 in
theorem c_X10_findSwaps (l : Launch) (D : va_G) (T : Nat → ClassId) (a ex : Nat → Nat) (fi : Nat → Nat → Int32) (fl : Nat → Nat → Int64) (vi : Nat → Int32) (sz : Nat) : Met l yX10_findSwaps (xw yX10_findSwaps cX10_findSwaps 3 (some .int)) ({ frames := 1, cells := 0, slots := 0, locals := 27 }) (xP D T [.ref (a 0)] sz (pre_X10_findSwaps T a ex fi fl vi)) (va_Qi (fun r (_ : Unit) => r = 0) (xB D (va_A (pre_X10_findSwaps T a ex fi fl vi) sz) (fun _ => True) (fun b fj fm vj => [((a 0), .inr (10, [.ref (a 1), .ref (ex 0), .ref (ex 1), .ref (ex 2), .int 0])), ((a 1), .inr (7, [.int 0, .int 0, .ref (ex 3), .ref (ex 4), .ref (ex 5), .ref (ex 6), .ref (ex 7), .ref (ex 8), .ref (ex 9), .ref (ex 10), .ref (ex 11), .ref (ex 12)]))])) (va_A (pre_X10_findSwaps T a ex fi fl vi) sz)) 0 0 (va_A (pre_X10_findSwaps T a ex fi fl vi) sz) := by
  refine xofW (cc := cX10_findSwaps) (maxL := 3) (ret := (some .int)) (by decide) rfl ?_
  intro p e s m args below meth c s₁ R Q hR hQ B hml hv
  obtain ⟨rfl, hsz, hP, hK, hD0⟩ := hv
  have hx := B.exec
  have hb := B.bytes
  have hr := B.returns
  have hts := atoms_spec (ws := xw yX10_findSwaps cX10_findSwaps 3 (some .int)) B.pre
  have htg : ∀ w ∈ xg, w.before _ s = true := fun w h => hts w (List.mem_cons_of_mem _ h)
  have hown : s.vm.findClass RX10 = some m.cls := findClass_of_methodNamed B.named
  have hlocks := B.notSynchronized
  subst hsz
  have hD := hD0.self (sz := s.heap.size)
  generalize hAe : va_A (pre_X10_findSwaps T a ex fi fl vi) s.heap.size = A at hD hQ
  have hA : ∀ q : Nat, s.heap.size ≤ q → A q := fun q h => by rw [← hAe]; exact Or.inr h
  have hS : va_S A s.heap s.heap [] := va_S.rf
  replace hP : va_P D vwCl [((a 0), .inr (10, [.ref (a 1), .ref (ex 0), .ref (ex 1), .ref (ex 2), .int 0])), ((a 1), .inr (7, [.int 0, .int 0, .ref (ex 3), .ref (ex 4), .ref (ex 5), .ref (ex 6), .ref (ex 7), .ref (ex 8), .ref (ex 9), .ref (ex 10), .ref (ex 11), .ref (ex 12)]))] s.heap := hP
  replace hD : va_D A [((a 0), .inr (10, [.ref (a 1), .ref (ex 0), .ref (ex 1), .ref (ex 2), .int 0])), ((a 1), .inr (7, [.int 0, .int 0, .ref (ex 3), .ref (ex 4), .ref (ex 5), .ref (ex 6), .ref (ex 7), .ref (ex 8), .ref (ex 9), .ref (ex 10), .ref (ex 11), .ref (ex 12)]))] := hD
  have hl := lv_entry ([.ref (a 0)]) (n := 3) (Nat.le_of_ble_eq_true rfl)
  rw [lg_entry_eq]
  generalize (lg_sl ([.ref (a 0)]) ++ List.replicate (3 - (lg_sl ([.ref (a 0)])).length) Slot.unset).toArray = ls at hl ⊢
  replace hl : lv_has ls 3 [(0, .ref (a 0))] := hl
  refine lv_aload_n hx hb dX10_findSwaps_0 rfl (lv_at hl 0 rfl) ?_
  have hPc := hP.sub (ws' := (pre_X10_point T (xa [(a 0), (a 1)]) (xa [(ex 0), (ex 1), (ex 2), (ex 3), (ex 4), (ex 5), (ex 6), (ex 7), (ex 8), (ex 9), (ex 10), (ex 11), (ex 12)]) (xf []) (xh []) (xv []))) [0, 1] rfl
  have hDc := hD.sub (ws' := (pre_X10_point T (xa [(a 0), (a 1)]) (xa [(ex 0), (ex 1), (ex 2), (ex 3), (ex 4), (ex 5), (ex 6), (ex 7), (ex 8), (ex 9), (ex 10), (ex 11), (ex 12)]) (xf []) (xh []) (xv []))) [0, 1] (by decide) rfl
  have hFc := va_free (wc := (pre_X10_point T (xa [(a 0), (a 1)]) (xa [(ex 0), (ex 1), (ex 2), (ex 3), (ex 4), (ex 5), (ex 6), (ex 7), (ex 8), (ex 9), (ex 10), (ex 11), (ex 12)]) (xf []) (xh []) (xv []))) hD hS hA [0, 1] rfl
  refine va_calli (va_runV (As := []) (rest := []) ⟨hx, hb, hml, hown, htg⟩ (c_X10_point l D T (xa [(a 0), (a 1)]) (xa [(ex 0), (ex 1), (ex 2), (ex 3), (ex 4), (ex 5), (ex 6), (ex 7), (ex 8), (ex 9), (ex 10), (ex 11), (ex 12)]) (xf []) (xh []) (xv []) s.heap.size) ⟨callB_of 0 htg (xg_ok kw_987) rfl rfl rfl (htg _ kw_13) (htg _ kw_984) (by decide +kernel) ⟨by rw [hR]; exact Nat.le_of_ble_eq_true rfl, by rw [hR]; exact Nat.le_of_ble_eq_true rfl⟩, htg _ kw_986, htg _ ks_77⟩ (xpreV hK hPc hDc (va_recv hK.1 hPc (ci := 10) (q0 := 0) rfl rfl)) rfl rfl hl.1 rfl (lv_room (Nat.le_of_ble_eq_true rfl)) dX10_findSwaps_1 ⟨by rw [hR]; exact Nat.le_of_ble_eq_true rfl, by rw [hR]; exact Nat.le_of_ble_eq_true rfl⟩) hS (fun q _ h => hFc q h) hFc (fun r9 u t H1 locs ht hvm hw hB hz1 hk1 hS => ?_)
  obtain ⟨bk, fik, flk, vik, hP1, hD1, hGk⟩ := hB
  rw [ht] at hP1
  obtain ⟨hP, hD⟩ := va_join (wr := []) (w1 := [((a 0), .inr (10, [.ref (a 1), .ref (ex 0), .ref (ex 1), .ref (ex 2), .int 0])), ((a 1), .inr (7, [.int 0, .int 0, .ref (ex 3), .ref (ex 4), .ref (ex 5), .ref (ex 6), .ref (ex 7), .ref (ex 8), .ref (ex 9), .ref (ex 10), .ref (ex 11), .ref (ex 12)]))]) hP hD [0, 1] [] rfl rfl (by decide) (by decide) hk1 hFc hP1 hD1
  subst hw
  clear hPc hDc hFc hP1 hD1 hk1 hz1 hvm ht
  generalize H1 = H at hP hS ⊢
  replace hP : va_P D vwCl [((a 0), .inr (10, [.ref (a 1), .ref (ex 0), .ref (ex 1), .ref (ex 2), .int 0])), ((a 1), .inr (7, [.int 0, .int 0, .ref (ex 3), .ref (ex 4), .ref (ex 5), .ref (ex 6), .ref (ex 7), .ref (ex 8), .ref (ex 9), .ref (ex 10), .ref (ex 11), .ref (ex 12)]))] H := hP
  replace hD : va_D A [((a 0), .inr (10, [.ref (a 1), .ref (ex 0), .ref (ex 1), .ref (ex 2), .int 0])), ((a 1), .inr (7, [.int 0, .int 0, .ref (ex 3), .ref (ex 4), .ref (ex 5), .ref (ex 6), .ref (ex 7), .ref (ex 8), .ref (ex 9), .ref (ex 10), .ref (ex 11), .ref (ex 12)]))] := hD
  refine lv_if_ne (tgt := 9) hx hb dX10_findSwaps_4 (by decide) (fun _ => ?_) (fun c => absurd c (by decide))
  refine lv_iconst (v := 0) hx hb dX10_findSwaps_9 (by decide) ?_
  refine lv_istore_n (lv' := [(1, .int 0), (0, .ref (a 0))]) hx hb dX10_findSwaps_10 rfl hl (by decide) rfl (fun ls hl => ?_)
  refine lv_iconst (v := 0) hx hb dX10_findSwaps_11 (by decide) ?_
  refine lv_istore_n (lv' := [(2, .int 0), (1, .int 0), (0, .ref (a 0))]) hx hb dX10_findSwaps_12 rfl hl (by decide) rfl (fun ls hl => ?_)
  refine lv_iload_n hx hb dX10_findSwaps_13 rfl (lv_at hl 0 rfl) ?_
  refine lv_aload_n hx hb dX10_findSwaps_14 rfl (lv_at hl 2 rfl) ?_
  refine va_get (D := D) (ci := 10) (v := .ref (a 1)) (C := RX10) (T := TX10) (N := 5) hx hb htg inX10 hown hK.1 hP 0 rfl rfl 0 (by decide) (htg _ kw_416) (fun _ h9 => h9) rfl dX10_findSwaps_15 ?_
  refine va_getN (D := D) (ci := 7) (v := .int 0) (C := RX7) (T := TX7) (N := 12) hx hb htg inX7 hown hK.1 hP 1 rfl rfl 1 (by decide) (va_Nw.use rfl (hK.2.1 _ kn_165)) (fun _ h9 => h9) rfl dX10_findSwaps_18 ?_
  refine lv_icmp_ge (tgt := 51) hx hb dX10_findSwaps_21 (by decide) (fun _ => ?_) (fun c => absurd (by decide) c)
  refine lv_iload_n hx hb dX10_findSwaps_51 rfl (lv_at hl 1 rfl) ?_
  have hP9 := hP.sub (ws' := [((a 0), .inr (10, [.ref (a 1), .ref (ex 0), .ref (ex 1), .ref (ex 2), .int 0])), ((a 1), .inr (7, [.int 0, .int 0, .ref (ex 3), .ref (ex 4), .ref (ex 5), .ref (ex 6), .ref (ex 7), .ref (ex 8), .ref (ex 9), .ref (ex 10), .ref (ex 11), .ref (ex 12)]))]) [0, 1] rfl
  have hD9 := hD.sub (ws' := [((a 0), .inr (10, [.ref (a 1), .ref (ex 0), .ref (ex 1), .ref (ex 2), .int 0])), ((a 1), .inr (7, [.int 0, .int 0, .ref (ex 3), .ref (ex 4), .ref (ex 5), .ref (ex 6), .ref (ex 7), .ref (ex 8), .ref (ex 9), .ref (ex 10), .ref (ex 11), .ref (ex 12)]))]) [0, 1] (by decide +kernel) rfl
  rw [hQ]
  exact W.iret (v := 0) hx hb hr (fun t ht hW => ⟨⟨0, (), rfl, rfl, ⟨xa [], xf [], xh [], xv [], by rw [ht]; exact hP9, hD9, trivial⟩⟩, hS.F ht⟩) hS.2.2 dX10_findSwaps_52
abbrev pre_X11_swaps (T : Nat → ClassId) (a ex : Nat → Nat) (fi : Nat → Nat → Int32) (fl : Nat → Nat → Int64) (vi : Nat → Int32) : va_W := [((a 0), .inr (11, [.ref (ex 0), .ref (a 2), .ref (ex 1), .ref (ex 2), .ref (ex 3), .ref (ex 4), .ref (ex 5), .ref (ex 6), .ref (ex 7), .ref (ex 8), .ref (a 1), .ref (ex 9), .ref (ex 10), .ref (ex 11), .int 0])), ((a 1), .inr (10, [.ref (a 2), .ref (ex 3), .ref (ex 12), .ref (ex 13), .int 0])), ((a 2), .inr (7, [.int 0, .int 0, .ref (ex 14), .ref (ex 15), .ref (ex 16), .ref (ex 17), .ref (ex 18), .ref (ex 19), .ref (ex 20), .ref (ex 21), .ref (ex 22), .ref (ex 23)]))]
set_option maxHeartbeats 4000000 in
set_option maxRecDepth 100000 in
theorem c_X11_swaps (l : Launch) (D : va_G) (T : Nat → ClassId) (a ex : Nat → Nat) (fi : Nat → Nat → Int32) (fl : Nat → Nat → Int64) (vi : Nat → Int32) (sz : Nat) : Met l yX11_swaps (xw yX11_swaps cX11_swaps 1 (some .int)) ({ frames := 2, cells := 0, slots := 0, locals := 53 }) (xP D T [.ref (a 0)] sz (pre_X11_swaps T a ex fi fl vi)) (va_Qi (fun r (_ : Unit) => r = 0) (xB D (va_A (pre_X11_swaps T a ex fi fl vi) sz) (fun _ => True) (fun b fj fm vj => [])) (va_A (pre_X11_swaps T a ex fi fl vi) sz)) 0 0 (va_A (pre_X11_swaps T a ex fi fl vi) sz) := by
  refine xofW (cc := cX11_swaps) (maxL := 1) (ret := (some .int)) (by decide) rfl ?_
  intro p e s m args below meth c s₁ R Q hR hQ B hml hv
  obtain ⟨rfl, hsz, hP, hK, hD0⟩ := hv
  have hx := B.exec
  have hb := B.bytes
  have hr := B.returns
  have hts := atoms_spec (ws := xw yX11_swaps cX11_swaps 1 (some .int)) B.pre
  have htg : ∀ w ∈ xg, w.before _ s = true := fun w h => hts w (List.mem_cons_of_mem _ h)
  have hown : s.vm.findClass RX11 = some m.cls := findClass_of_methodNamed B.named
  have hlocks := B.notSynchronized
  subst hsz
  have hD := hD0.self (sz := s.heap.size)
  generalize hAe : va_A (pre_X11_swaps T a ex fi fl vi) s.heap.size = A at hD hQ
  have hA : ∀ q : Nat, s.heap.size ≤ q → A q := fun q h => by rw [← hAe]; exact Or.inr h
  have hS : va_S A s.heap s.heap [] := va_S.rf
  replace hP : va_P D vwCl [((a 0), .inr (11, [.ref (ex 0), .ref (a 2), .ref (ex 1), .ref (ex 2), .ref (ex 3), .ref (ex 4), .ref (ex 5), .ref (ex 6), .ref (ex 7), .ref (ex 8), .ref (a 1), .ref (ex 9), .ref (ex 10), .ref (ex 11), .int 0])), ((a 1), .inr (10, [.ref (a 2), .ref (ex 3), .ref (ex 12), .ref (ex 13), .int 0])), ((a 2), .inr (7, [.int 0, .int 0, .ref (ex 14), .ref (ex 15), .ref (ex 16), .ref (ex 17), .ref (ex 18), .ref (ex 19), .ref (ex 20), .ref (ex 21), .ref (ex 22), .ref (ex 23)]))] s.heap := hP
  replace hD : va_D A [((a 0), .inr (11, [.ref (ex 0), .ref (a 2), .ref (ex 1), .ref (ex 2), .ref (ex 3), .ref (ex 4), .ref (ex 5), .ref (ex 6), .ref (ex 7), .ref (ex 8), .ref (a 1), .ref (ex 9), .ref (ex 10), .ref (ex 11), .int 0])), ((a 1), .inr (10, [.ref (a 2), .ref (ex 3), .ref (ex 12), .ref (ex 13), .int 0])), ((a 2), .inr (7, [.int 0, .int 0, .ref (ex 14), .ref (ex 15), .ref (ex 16), .ref (ex 17), .ref (ex 18), .ref (ex 19), .ref (ex 20), .ref (ex 21), .ref (ex 22), .ref (ex 23)]))] := hD
  have hl := lv_entry ([.ref (a 0)]) (n := 1) (Nat.le_of_ble_eq_true rfl)
  rw [lg_entry_eq]
  generalize (lg_sl ([.ref (a 0)]) ++ List.replicate (1 - (lg_sl ([.ref (a 0)])).length) Slot.unset).toArray = ls at hl ⊢
  replace hl : lv_has ls 1 [(0, .ref (a 0))] := hl
  refine lv_aload_n hx hb dX11_swaps_0 rfl (lv_at hl 0 rfl) ?_
  refine va_get (D := D) (ci := 11) (v := .ref (a 1)) (C := RX11) (T := TX11) (N := 15) hx hb htg inX11 hown hK.1 hP 0 rfl rfl 10 (by decide) (htg _ kw_506) (fun _ h9 => h9) rfl dX11_swaps_1 ?_
  have hPc := hP.sub (ws' := (pre_X10_findSwaps T (xa [(a 1), (a 2)]) (xa [(ex 3), (ex 12), (ex 13), (ex 14), (ex 15), (ex 16), (ex 17), (ex 18), (ex 19), (ex 20), (ex 21), (ex 22), (ex 23)]) (xf []) (xh []) (xv []))) [1, 2] rfl
  have hDc := hD.sub (ws' := (pre_X10_findSwaps T (xa [(a 1), (a 2)]) (xa [(ex 3), (ex 12), (ex 13), (ex 14), (ex 15), (ex 16), (ex 17), (ex 18), (ex 19), (ex 20), (ex 21), (ex 22), (ex 23)]) (xf []) (xh []) (xv []))) [1, 2] (by decide) rfl
  have hFc := va_free (wc := (pre_X10_findSwaps T (xa [(a 1), (a 2)]) (xa [(ex 3), (ex 12), (ex 13), (ex 14), (ex 15), (ex 16), (ex 17), (ex 18), (ex 19), (ex 20), (ex 21), (ex 22), (ex 23)]) (xf []) (xh []) (xv []))) hD hS hA [1, 2] rfl
  refine va_calli (va_runVN (As := []) (rest := []) ⟨hx, hb, hml, hown, htg⟩ (c_X10_findSwaps l D T (xa [(a 1), (a 2)]) (xa [(ex 3), (ex 12), (ex 13), (ex 14), (ex 15), (ex 16), (ex 17), (ex 18), (ex 19), (ex 20), (ex 21), (ex 22), (ex 23)]) (xf []) (xh []) (xv []) s.heap.size) ⟨va_cnB 0 htg (xg_ok kw_1007) rfl rfl rfl (hK.2.1 _ kn_1004) (htg _ kw_13) (by decide +kernel) ⟨by rw [hR]; exact Nat.le_of_ble_eq_true rfl, by rw [hR]; exact Nat.le_of_ble_eq_true rfl⟩, htg _ kw_1006, htg _ ks_80⟩ (xpreV hK hPc hDc (va_recv hK.1 hPc (ci := 10) (q0 := 0) rfl rfl)) rfl rfl hl.1 rfl (lv_room (Nat.le_of_ble_eq_true rfl)) dX11_swaps_4 ⟨by rw [hR]; exact Nat.le_of_ble_eq_true rfl, by rw [hR]; exact Nat.le_of_ble_eq_true rfl⟩) hS (fun q _ h => hFc q h) hFc (fun r9 u t H1 locs ht hvm hw hB hz1 hk1 hS => ?_)
  obtain ⟨bk, fik, flk, vik, hP1, hD1, hGk⟩ := hB
  rw [ht] at hP1
  obtain ⟨hP, hD⟩ := va_join (wr := [((a 0), .inr (11, [.ref (ex 0), .ref (a 2), .ref (ex 1), .ref (ex 2), .ref (ex 3), .ref (ex 4), .ref (ex 5), .ref (ex 6), .ref (ex 7), .ref (ex 8), .ref (a 1), .ref (ex 9), .ref (ex 10), .ref (ex 11), .int 0]))]) (w1 := [((a 1), .inr (10, [.ref (a 2), .ref (ex 3), .ref (ex 12), .ref (ex 13), .int 0])), ((a 2), .inr (7, [.int 0, .int 0, .ref (ex 14), .ref (ex 15), .ref (ex 16), .ref (ex 17), .ref (ex 18), .ref (ex 19), .ref (ex 20), .ref (ex 21), .ref (ex 22), .ref (ex 23)]))]) hP hD [1, 2] [0] rfl rfl (by decide) (by decide) hk1 hFc hP1 hD1
  subst hw
  clear hPc hDc hFc hP1 hD1 hk1 hz1 hvm ht
  generalize H1 = H at hP hS ⊢
  replace hP : va_P D vwCl [((a 0), .inr (11, [.ref (ex 0), .ref (a 2), .ref (ex 1), .ref (ex 2), .ref (ex 3), .ref (ex 4), .ref (ex 5), .ref (ex 6), .ref (ex 7), .ref (ex 8), .ref (a 1), .ref (ex 9), .ref (ex 10), .ref (ex 11), .int 0])), ((a 1), .inr (10, [.ref (a 2), .ref (ex 3), .ref (ex 12), .ref (ex 13), .int 0])), ((a 2), .inr (7, [.int 0, .int 0, .ref (ex 14), .ref (ex 15), .ref (ex 16), .ref (ex 17), .ref (ex 18), .ref (ex 19), .ref (ex 20), .ref (ex 21), .ref (ex 22), .ref (ex 23)]))] H := hP
  replace hD : va_D A [((a 0), .inr (11, [.ref (ex 0), .ref (a 2), .ref (ex 1), .ref (ex 2), .ref (ex 3), .ref (ex 4), .ref (ex 5), .ref (ex 6), .ref (ex 7), .ref (ex 8), .ref (a 1), .ref (ex 9), .ref (ex 10), .ref (ex 11), .int 0])), ((a 1), .inr (10, [.ref (a 2), .ref (ex 3), .ref (ex 12), .ref (ex 13), .int 0])), ((a 2), .inr (7, [.int 0, .int 0, .ref (ex 14), .ref (ex 15), .ref (ex 16), .ref (ex 17), .ref (ex 18), .ref (ex 19), .ref (ex 20), .ref (ex 21), .ref (ex 22), .ref (ex 23)]))] := hD
  have hP9 := hP.sub (ws' := []) [] rfl
  have hD9 := hD.sub (ws' := []) [] (by decide) rfl
  rw [hQ]
  exact W.iret (v := 0) hx hb hr (fun t ht hW => ⟨⟨0, (), rfl, rfl, ⟨xa [], xf [], xh [], xv [], by rw [ht]; exact hP9, hD9, trivial⟩⟩, hS.F ht⟩) hS.2.2 dX11_swaps_7
abbrev pre_X11_partner (T : Nat → ClassId) (a ex : Nat → Nat) (fi : Nat → Nat → Int32) (fl : Nat → Nat → Int64) (vi : Nat → Int32) : va_W := [((a 0), .inr (11, [.ref (ex 0), .ref (a 1), .ref (ex 1), .ref (ex 2), .ref (ex 3), .ref (ex 4), .ref (ex 5), .ref (ex 6), .ref (ex 7), .ref (ex 8), .ref (ex 9), .ref (ex 10), .ref (ex 11), .ref (ex 12), .int 0])), ((a 1), .inr (7, [.int 0, .int 0, .ref (ex 13), .ref (ex 14), .ref (ex 15), .ref (ex 16), .ref (ex 17), .ref (ex 18), .ref (ex 19), .ref (ex 20), .ref (ex 21), .ref (ex 22)]))]
set_option maxHeartbeats 4000000 in
set_option maxRecDepth 100000 in
theorem c_X11_partner (l : Launch) (D : va_G) (T : Nat → ClassId) (a ex : Nat → Nat) (fi : Nat → Nat → Int32) (fl : Nat → Nat → Int64) (vi : Nat → Int32) (sz : Nat) : Met l yX11_partner (xw yX11_partner cX11_partner 2 (some .int)) ({ frames := 1, cells := 0, slots := 0, locals := 25 }) (xP D T [.ref (a 0), .int (vi 0)] sz (pre_X11_partner T a ex fi fl vi)) (va_Qi (fun r (_ : Unit) => r = (-1)) (xB D (va_A (pre_X11_partner T a ex fi fl vi) sz) (fun _ => True) (fun b fj fm vj => [])) (va_A (pre_X11_partner T a ex fi fl vi) sz)) 0 0 (va_A (pre_X11_partner T a ex fi fl vi) sz) := by
  refine xofW (cc := cX11_partner) (maxL := 2) (ret := (some .int)) (by decide) rfl ?_
  intro p e s m args below meth c s₁ R Q hR hQ B hml hv
  obtain ⟨rfl, hsz, hP, hK, hD0⟩ := hv
  have hx := B.exec
  have hb := B.bytes
  have hr := B.returns
  have hts := atoms_spec (ws := xw yX11_partner cX11_partner 2 (some .int)) B.pre
  have htg : ∀ w ∈ xg, w.before _ s = true := fun w h => hts w (List.mem_cons_of_mem _ h)
  have hown : s.vm.findClass RX11 = some m.cls := findClass_of_methodNamed B.named
  have hlocks := B.notSynchronized
  subst hsz
  have hD := hD0.self (sz := s.heap.size)
  generalize hAe : va_A (pre_X11_partner T a ex fi fl vi) s.heap.size = A at hD hQ
  have hA : ∀ q : Nat, s.heap.size ≤ q → A q := fun q h => by rw [← hAe]; exact Or.inr h
  have hS : va_S A s.heap s.heap [] := va_S.rf
  replace hP : va_P D vwCl [((a 0), .inr (11, [.ref (ex 0), .ref (a 1), .ref (ex 1), .ref (ex 2), .ref (ex 3), .ref (ex 4), .ref (ex 5), .ref (ex 6), .ref (ex 7), .ref (ex 8), .ref (ex 9), .ref (ex 10), .ref (ex 11), .ref (ex 12), .int 0])), ((a 1), .inr (7, [.int 0, .int 0, .ref (ex 13), .ref (ex 14), .ref (ex 15), .ref (ex 16), .ref (ex 17), .ref (ex 18), .ref (ex 19), .ref (ex 20), .ref (ex 21), .ref (ex 22)]))] s.heap := hP
  replace hD : va_D A [((a 0), .inr (11, [.ref (ex 0), .ref (a 1), .ref (ex 1), .ref (ex 2), .ref (ex 3), .ref (ex 4), .ref (ex 5), .ref (ex 6), .ref (ex 7), .ref (ex 8), .ref (ex 9), .ref (ex 10), .ref (ex 11), .ref (ex 12), .int 0])), ((a 1), .inr (7, [.int 0, .int 0, .ref (ex 13), .ref (ex 14), .ref (ex 15), .ref (ex 16), .ref (ex 17), .ref (ex 18), .ref (ex 19), .ref (ex 20), .ref (ex 21), .ref (ex 22)]))] := hD
  have hl := lv_entry ([.ref (a 0), .int (vi 0)]) (n := 2) (Nat.le_of_ble_eq_true rfl)
  rw [lg_entry_eq]
  generalize (lg_sl ([.ref (a 0), .int (vi 0)]) ++ List.replicate (2 - (lg_sl ([.ref (a 0), .int (vi 0)])).length) Slot.unset).toArray = ls at hl ⊢
  replace hl : lv_has ls 2 [(0, .ref (a 0)), (1, .int (vi 0))] := hl
  refine lv_aload_n hx hb dX11_partner_0 rfl (lv_at hl 0 rfl) ?_
  refine va_get (D := D) (ci := 11) (v := .ref (a 1)) (C := RX11) (T := TX11) (N := 15) hx hb htg inX11 hown hK.1 hP 0 rfl rfl 1 (by decide) (htg _ kw_497) (fun _ h9 => h9) rfl dX11_partner_1 ?_
  refine lv_iload_n hx hb dX11_partner_4 rfl (lv_at hl 1 rfl) ?_
  have hPc := hP.sub (ws' := (pre_X7_isSoul T (xa [(a 1)]) (xa [(ex 13), (ex 14), (ex 15), (ex 16), (ex 17), (ex 18), (ex 19), (ex 20), (ex 21), (ex 22)]) (xf []) (xh []) (xv [(vi 0)]))) [1] rfl
  have hDc := hD.sub (ws' := (pre_X7_isSoul T (xa [(a 1)]) (xa [(ex 13), (ex 14), (ex 15), (ex 16), (ex 17), (ex 18), (ex 19), (ex 20), (ex 21), (ex 22)]) (xf []) (xh []) (xv [(vi 0)]))) [1] (by decide) rfl
  have hFc := va_free (wc := (pre_X7_isSoul T (xa [(a 1)]) (xa [(ex 13), (ex 14), (ex 15), (ex 16), (ex 17), (ex 18), (ex 19), (ex 20), (ex 21), (ex 22)]) (xf []) (xh []) (xv [(vi 0)]))) hD hS hA [1] rfl
  refine va_calli (va_runVN (As := [.int (vi 0)]) (rest := []) ⟨hx, hb, hml, hown, htg⟩ (c_X7_isSoul l D T (xa [(a 1)]) (xa [(ex 13), (ex 14), (ex 15), (ex 16), (ex 17), (ex 18), (ex 19), (ex 20), (ex 21), (ex 22)]) (xf []) (xh []) (xv [(vi 0)]) s.heap.size) ⟨va_cnB 1 htg (xg_ok kw_664) rfl rfl rfl (hK.2.1 _ kn_764) (htg _ kw_7) (by decide +kernel) ⟨by rw [hR]; exact Nat.le_of_ble_eq_true rfl, by rw [hR]; exact Nat.le_of_ble_eq_true rfl⟩, htg _ kw_663, htg _ ks_25⟩ (xpreV hK hPc hDc (va_recv hK.1 hPc (ci := 7) (q0 := 0) rfl rfl)) rfl rfl hl.1 rfl (lv_room (Nat.le_of_ble_eq_true rfl)) dX11_partner_5 ⟨by rw [hR]; exact Nat.le_of_ble_eq_true rfl, by rw [hR]; exact Nat.le_of_ble_eq_true rfl⟩) hS (fun q _ h => hFc q h) hFc (fun r9 u t H1 locs ht hvm hw hB hz1 hk1 hS => ?_)
  obtain ⟨bk, fik, flk, vik, hP1, hD1, hGk⟩ := hB
  rw [ht] at hP1
  obtain ⟨hP, hD⟩ := va_join (wr := [((a 0), .inr (11, [.ref (ex 0), .ref (a 1), .ref (ex 1), .ref (ex 2), .ref (ex 3), .ref (ex 4), .ref (ex 5), .ref (ex 6), .ref (ex 7), .ref (ex 8), .ref (ex 9), .ref (ex 10), .ref (ex 11), .ref (ex 12), .int 0]))]) (w1 := [((a 1), .inr (7, [.int 0, .int 0, .ref (ex 13), .ref (ex 14), .ref (ex 15), .ref (ex 16), .ref (ex 17), .ref (ex 18), .ref (ex 19), .ref (ex 20), .ref (ex 21), .ref (ex 22)]))]) hP hD [1] [0] rfl rfl (by decide) (by decide) hk1 hFc hP1 hD1
  subst hw
  clear hPc hDc hFc hP1 hD1 hk1 hz1 hvm ht
  generalize H1 = H at hP hS ⊢
  replace hP : va_P D vwCl [((a 0), .inr (11, [.ref (ex 0), .ref (a 1), .ref (ex 1), .ref (ex 2), .ref (ex 3), .ref (ex 4), .ref (ex 5), .ref (ex 6), .ref (ex 7), .ref (ex 8), .ref (ex 9), .ref (ex 10), .ref (ex 11), .ref (ex 12), .int 0])), ((a 1), .inr (7, [.int 0, .int 0, .ref (ex 13), .ref (ex 14), .ref (ex 15), .ref (ex 16), .ref (ex 17), .ref (ex 18), .ref (ex 19), .ref (ex 20), .ref (ex 21), .ref (ex 22)]))] H := hP
  replace hD : va_D A [((a 0), .inr (11, [.ref (ex 0), .ref (a 1), .ref (ex 1), .ref (ex 2), .ref (ex 3), .ref (ex 4), .ref (ex 5), .ref (ex 6), .ref (ex 7), .ref (ex 8), .ref (ex 9), .ref (ex 10), .ref (ex 11), .ref (ex 12), .int 0])), ((a 1), .inr (7, [.int 0, .int 0, .ref (ex 13), .ref (ex 14), .ref (ex 15), .ref (ex 16), .ref (ex 17), .ref (ex 18), .ref (ex 19), .ref (ex 20), .ref (ex 21), .ref (ex 22)]))] := hD
  refine lv_if_eq (tgt := 22) hx hb dX11_partner_8 (by decide) (fun _ => ?_) (fun c => absurd (by decide) c)
  refine lv_iconst (v := (-1)) hx hb dX11_partner_22 (by decide) ?_
  have hP9 := hP.sub (ws' := []) [] rfl
  have hD9 := hD.sub (ws' := []) [] (by decide) rfl
  rw [hQ]
  exact W.iret (v := (-1)) hx hb hr (fun t ht hW => ⟨⟨(-1), (), rfl, rfl, ⟨xa [], xf [], xh [], xv [], by rw [ht]; exact hP9, hD9, trivial⟩⟩, hS.F ht⟩) hS.2.2 dX11_partner_23
abbrev pre_X11_bidder (T : Nat → ClassId) (a ex : Nat → Nat) (fi : Nat → Nat → Int32) (fl : Nat → Nat → Int64) (vi : Nat → Int32) : va_W := [((a 0), .inr (11, [.ref (ex 0), .ref (a 1), .ref (ex 1), .ref (ex 2), .ref (ex 3), .ref (ex 4), .ref (ex 5), .ref (ex 6), .ref (ex 7), .ref (ex 8), .ref (ex 9), .ref (ex 10), .ref (ex 11), .ref (ex 12), .int 0])), ((a 1), .inr (7, [.int 0, .int 0, .ref (ex 13), .ref (ex 14), .ref (ex 15), .ref (ex 16), .ref (ex 17), .ref (ex 18), .ref (ex 19), .ref (ex 20), .ref (ex 21), .ref (ex 22)]))]
set_option maxHeartbeats 4000000 in
set_option maxRecDepth 100000 in
theorem c_X11_bidder (l : Launch) (D : va_G) (T : Nat → ClassId) (a ex : Nat → Nat) (fi : Nat → Nat → Int32) (fl : Nat → Nat → Int64) (vi : Nat → Int32) (sz : Nat) : Met l yX11_bidder (xw yX11_bidder cX11_bidder 2 (some .int)) ({ frames := 1, cells := 0, slots := 0, locals := 25 }) (xP D T [.ref (a 0), .int (vi 0)] sz (pre_X11_bidder T a ex fi fl vi)) (va_Qi (fun r (_ : Unit) => r = (-1)) (xB D (va_A (pre_X11_bidder T a ex fi fl vi) sz) (fun _ => True) (fun b fj fm vj => [])) (va_A (pre_X11_bidder T a ex fi fl vi) sz)) 0 0 (va_A (pre_X11_bidder T a ex fi fl vi) sz) := by
  refine xofW (cc := cX11_bidder) (maxL := 2) (ret := (some .int)) (by decide) rfl ?_
  intro p e s m args below meth c s₁ R Q hR hQ B hml hv
  obtain ⟨rfl, hsz, hP, hK, hD0⟩ := hv
  have hx := B.exec
  have hb := B.bytes
  have hr := B.returns
  have hts := atoms_spec (ws := xw yX11_bidder cX11_bidder 2 (some .int)) B.pre
  have htg : ∀ w ∈ xg, w.before _ s = true := fun w h => hts w (List.mem_cons_of_mem _ h)
  have hown : s.vm.findClass RX11 = some m.cls := findClass_of_methodNamed B.named
  have hlocks := B.notSynchronized
  subst hsz
  have hD := hD0.self (sz := s.heap.size)
  generalize hAe : va_A (pre_X11_bidder T a ex fi fl vi) s.heap.size = A at hD hQ
  have hA : ∀ q : Nat, s.heap.size ≤ q → A q := fun q h => by rw [← hAe]; exact Or.inr h
  have hS : va_S A s.heap s.heap [] := va_S.rf
  replace hP : va_P D vwCl [((a 0), .inr (11, [.ref (ex 0), .ref (a 1), .ref (ex 1), .ref (ex 2), .ref (ex 3), .ref (ex 4), .ref (ex 5), .ref (ex 6), .ref (ex 7), .ref (ex 8), .ref (ex 9), .ref (ex 10), .ref (ex 11), .ref (ex 12), .int 0])), ((a 1), .inr (7, [.int 0, .int 0, .ref (ex 13), .ref (ex 14), .ref (ex 15), .ref (ex 16), .ref (ex 17), .ref (ex 18), .ref (ex 19), .ref (ex 20), .ref (ex 21), .ref (ex 22)]))] s.heap := hP
  replace hD : va_D A [((a 0), .inr (11, [.ref (ex 0), .ref (a 1), .ref (ex 1), .ref (ex 2), .ref (ex 3), .ref (ex 4), .ref (ex 5), .ref (ex 6), .ref (ex 7), .ref (ex 8), .ref (ex 9), .ref (ex 10), .ref (ex 11), .ref (ex 12), .int 0])), ((a 1), .inr (7, [.int 0, .int 0, .ref (ex 13), .ref (ex 14), .ref (ex 15), .ref (ex 16), .ref (ex 17), .ref (ex 18), .ref (ex 19), .ref (ex 20), .ref (ex 21), .ref (ex 22)]))] := hD
  have hl := lv_entry ([.ref (a 0), .int (vi 0)]) (n := 2) (Nat.le_of_ble_eq_true rfl)
  rw [lg_entry_eq]
  generalize (lg_sl ([.ref (a 0), .int (vi 0)]) ++ List.replicate (2 - (lg_sl ([.ref (a 0), .int (vi 0)])).length) Slot.unset).toArray = ls at hl ⊢
  replace hl : lv_has ls 2 [(0, .ref (a 0)), (1, .int (vi 0))] := hl
  refine lv_aload_n hx hb dX11_bidder_0 rfl (lv_at hl 0 rfl) ?_
  refine va_get (D := D) (ci := 11) (v := .ref (a 1)) (C := RX11) (T := TX11) (N := 15) hx hb htg inX11 hown hK.1 hP 0 rfl rfl 1 (by decide) (htg _ kw_497) (fun _ h9 => h9) rfl dX11_bidder_1 ?_
  refine lv_iload_n hx hb dX11_bidder_4 rfl (lv_at hl 1 rfl) ?_
  have hPc := hP.sub (ws' := (pre_X7_isName T (xa [(a 1)]) (xa [(ex 13), (ex 14), (ex 15), (ex 16), (ex 17), (ex 18), (ex 19), (ex 20), (ex 21), (ex 22)]) (xf []) (xh []) (xv [(vi 0)]))) [1] rfl
  have hDc := hD.sub (ws' := (pre_X7_isName T (xa [(a 1)]) (xa [(ex 13), (ex 14), (ex 15), (ex 16), (ex 17), (ex 18), (ex 19), (ex 20), (ex 21), (ex 22)]) (xf []) (xh []) (xv [(vi 0)]))) [1] (by decide) rfl
  have hFc := va_free (wc := (pre_X7_isName T (xa [(a 1)]) (xa [(ex 13), (ex 14), (ex 15), (ex 16), (ex 17), (ex 18), (ex 19), (ex 20), (ex 21), (ex 22)]) (xf []) (xh []) (xv [(vi 0)]))) hD hS hA [1] rfl
  refine va_calli (va_runVN (As := [.int (vi 0)]) (rest := []) ⟨hx, hb, hml, hown, htg⟩ (c_X7_isName l D T (xa [(a 1)]) (xa [(ex 13), (ex 14), (ex 15), (ex 16), (ex 17), (ex 18), (ex 19), (ex 20), (ex 21), (ex 22)]) (xf []) (xh []) (xv [(vi 0)]) s.heap.size) ⟨va_cnB 1 htg (xg_ok kw_683) rfl rfl rfl (hK.2.1 _ kn_743) (htg _ kw_7) (by decide +kernel) ⟨by rw [hR]; exact Nat.le_of_ble_eq_true rfl, by rw [hR]; exact Nat.le_of_ble_eq_true rfl⟩, htg _ kw_682, htg _ ks_29⟩ (xpreV hK hPc hDc (va_recv hK.1 hPc (ci := 7) (q0 := 0) rfl rfl)) rfl rfl hl.1 rfl (lv_room (Nat.le_of_ble_eq_true rfl)) dX11_bidder_5 ⟨by rw [hR]; exact Nat.le_of_ble_eq_true rfl, by rw [hR]; exact Nat.le_of_ble_eq_true rfl⟩) hS (fun q _ h => hFc q h) hFc (fun r9 u t H1 locs ht hvm hw hB hz1 hk1 hS => ?_)
  obtain ⟨bk, fik, flk, vik, hP1, hD1, hGk⟩ := hB
  rw [ht] at hP1
  obtain ⟨hP, hD⟩ := va_join (wr := [((a 0), .inr (11, [.ref (ex 0), .ref (a 1), .ref (ex 1), .ref (ex 2), .ref (ex 3), .ref (ex 4), .ref (ex 5), .ref (ex 6), .ref (ex 7), .ref (ex 8), .ref (ex 9), .ref (ex 10), .ref (ex 11), .ref (ex 12), .int 0]))]) (w1 := [((a 1), .inr (7, [.int 0, .int 0, .ref (ex 13), .ref (ex 14), .ref (ex 15), .ref (ex 16), .ref (ex 17), .ref (ex 18), .ref (ex 19), .ref (ex 20), .ref (ex 21), .ref (ex 22)]))]) hP hD [1] [0] rfl rfl (by decide) (by decide) hk1 hFc hP1 hD1
  subst hw
  clear hPc hDc hFc hP1 hD1 hk1 hz1 hvm ht
  generalize H1 = H at hP hS ⊢
  replace hP : va_P D vwCl [((a 0), .inr (11, [.ref (ex 0), .ref (a 1), .ref (ex 1), .ref (ex 2), .ref (ex 3), .ref (ex 4), .ref (ex 5), .ref (ex 6), .ref (ex 7), .ref (ex 8), .ref (ex 9), .ref (ex 10), .ref (ex 11), .ref (ex 12), .int 0])), ((a 1), .inr (7, [.int 0, .int 0, .ref (ex 13), .ref (ex 14), .ref (ex 15), .ref (ex 16), .ref (ex 17), .ref (ex 18), .ref (ex 19), .ref (ex 20), .ref (ex 21), .ref (ex 22)]))] H := hP
  replace hD : va_D A [((a 0), .inr (11, [.ref (ex 0), .ref (a 1), .ref (ex 1), .ref (ex 2), .ref (ex 3), .ref (ex 4), .ref (ex 5), .ref (ex 6), .ref (ex 7), .ref (ex 8), .ref (ex 9), .ref (ex 10), .ref (ex 11), .ref (ex 12), .int 0])), ((a 1), .inr (7, [.int 0, .int 0, .ref (ex 13), .ref (ex 14), .ref (ex 15), .ref (ex 16), .ref (ex 17), .ref (ex 18), .ref (ex 19), .ref (ex 20), .ref (ex 21), .ref (ex 22)]))] := hD
  refine lv_if_eq (tgt := 22) hx hb dX11_bidder_8 (by decide) (fun _ => ?_) (fun c => absurd (by decide) c)
  refine lv_iconst (v := (-1)) hx hb dX11_bidder_22 (by decide) ?_
  have hP9 := hP.sub (ws' := []) [] rfl
  have hD9 := hD.sub (ws' := []) [] (by decide) rfl
  rw [hQ]
  exact W.iret (v := (-1)) hx hb hr (fun t ht hW => ⟨⟨(-1), (), rfl, rfl, ⟨xa [], xf [], xh [], xv [], by rw [ht]; exact hP9, hD9, trivial⟩⟩, hS.F ht⟩) hS.2.2 dX11_bidder_23
abbrev pre_X11_bid (T : Nat → ClassId) (a ex : Nat → Nat) (fi : Nat → Nat → Int32) (fl : Nat → Nat → Int64) (vi : Nat → Int32) : va_W := [((a 0), .inr (11, [.ref (ex 0), .ref (a 1), .ref (ex 1), .ref (ex 2), .ref (ex 3), .ref (ex 4), .ref (ex 5), .ref (ex 6), .ref (ex 7), .ref (ex 8), .ref (ex 9), .ref (ex 10), .ref (ex 11), .ref (ex 12), .int 0])), ((a 1), .inr (7, [.int 0, .int 0, .ref (ex 13), .ref (ex 14), .ref (ex 15), .ref (ex 16), .ref (ex 17), .ref (ex 18), .ref (ex 19), .ref (ex 20), .ref (ex 21), .ref (ex 22)]))]
set_option maxHeartbeats 4000000 in
set_option maxRecDepth 100000 in
theorem c_X11_bid (l : Launch) (D : va_G) (T : Nat → ClassId) (a ex : Nat → Nat) (fi : Nat → Nat → Int32) (fl : Nat → Nat → Int64) (vi : Nat → Int32) (sz : Nat) : Met l yX11_bid (xw yX11_bid cX11_bid 2 (some .int)) ({ frames := 1, cells := 0, slots := 0, locals := 25 }) (xP D T [.ref (a 0), .int (vi 0)] sz (pre_X11_bid T a ex fi fl vi)) (va_Qi (fun r (_ : Unit) => r = (-1)) (xB D (va_A (pre_X11_bid T a ex fi fl vi) sz) (fun _ => True) (fun b fj fm vj => [])) (va_A (pre_X11_bid T a ex fi fl vi) sz)) 0 0 (va_A (pre_X11_bid T a ex fi fl vi) sz) := by
  refine xofW (cc := cX11_bid) (maxL := 2) (ret := (some .int)) (by decide) rfl ?_
  intro p e s m args below meth c s₁ R Q hR hQ B hml hv
  obtain ⟨rfl, hsz, hP, hK, hD0⟩ := hv
  have hx := B.exec
  have hb := B.bytes
  have hr := B.returns
  have hts := atoms_spec (ws := xw yX11_bid cX11_bid 2 (some .int)) B.pre
  have htg : ∀ w ∈ xg, w.before _ s = true := fun w h => hts w (List.mem_cons_of_mem _ h)
  have hown : s.vm.findClass RX11 = some m.cls := findClass_of_methodNamed B.named
  have hlocks := B.notSynchronized
  subst hsz
  have hD := hD0.self (sz := s.heap.size)
  generalize hAe : va_A (pre_X11_bid T a ex fi fl vi) s.heap.size = A at hD hQ
  have hA : ∀ q : Nat, s.heap.size ≤ q → A q := fun q h => by rw [← hAe]; exact Or.inr h
  have hS : va_S A s.heap s.heap [] := va_S.rf
  replace hP : va_P D vwCl [((a 0), .inr (11, [.ref (ex 0), .ref (a 1), .ref (ex 1), .ref (ex 2), .ref (ex 3), .ref (ex 4), .ref (ex 5), .ref (ex 6), .ref (ex 7), .ref (ex 8), .ref (ex 9), .ref (ex 10), .ref (ex 11), .ref (ex 12), .int 0])), ((a 1), .inr (7, [.int 0, .int 0, .ref (ex 13), .ref (ex 14), .ref (ex 15), .ref (ex 16), .ref (ex 17), .ref (ex 18), .ref (ex 19), .ref (ex 20), .ref (ex 21), .ref (ex 22)]))] s.heap := hP
  replace hD : va_D A [((a 0), .inr (11, [.ref (ex 0), .ref (a 1), .ref (ex 1), .ref (ex 2), .ref (ex 3), .ref (ex 4), .ref (ex 5), .ref (ex 6), .ref (ex 7), .ref (ex 8), .ref (ex 9), .ref (ex 10), .ref (ex 11), .ref (ex 12), .int 0])), ((a 1), .inr (7, [.int 0, .int 0, .ref (ex 13), .ref (ex 14), .ref (ex 15), .ref (ex 16), .ref (ex 17), .ref (ex 18), .ref (ex 19), .ref (ex 20), .ref (ex 21), .ref (ex 22)]))] := hD
  have hl := lv_entry ([.ref (a 0), .int (vi 0)]) (n := 2) (Nat.le_of_ble_eq_true rfl)
  rw [lg_entry_eq]
  generalize (lg_sl ([.ref (a 0), .int (vi 0)]) ++ List.replicate (2 - (lg_sl ([.ref (a 0), .int (vi 0)])).length) Slot.unset).toArray = ls at hl ⊢
  replace hl : lv_has ls 2 [(0, .ref (a 0)), (1, .int (vi 0))] := hl
  refine lv_aload_n hx hb dX11_bid_0 rfl (lv_at hl 0 rfl) ?_
  refine va_get (D := D) (ci := 11) (v := .ref (a 1)) (C := RX11) (T := TX11) (N := 15) hx hb htg inX11 hown hK.1 hP 0 rfl rfl 1 (by decide) (htg _ kw_497) (fun _ h9 => h9) rfl dX11_bid_1 ?_
  refine lv_iload_n hx hb dX11_bid_4 rfl (lv_at hl 1 rfl) ?_
  have hPc := hP.sub (ws' := (pre_X7_isName T (xa [(a 1)]) (xa [(ex 13), (ex 14), (ex 15), (ex 16), (ex 17), (ex 18), (ex 19), (ex 20), (ex 21), (ex 22)]) (xf []) (xh []) (xv [(vi 0)]))) [1] rfl
  have hDc := hD.sub (ws' := (pre_X7_isName T (xa [(a 1)]) (xa [(ex 13), (ex 14), (ex 15), (ex 16), (ex 17), (ex 18), (ex 19), (ex 20), (ex 21), (ex 22)]) (xf []) (xh []) (xv [(vi 0)]))) [1] (by decide) rfl
  have hFc := va_free (wc := (pre_X7_isName T (xa [(a 1)]) (xa [(ex 13), (ex 14), (ex 15), (ex 16), (ex 17), (ex 18), (ex 19), (ex 20), (ex 21), (ex 22)]) (xf []) (xh []) (xv [(vi 0)]))) hD hS hA [1] rfl
  refine va_calli (va_runVN (As := [.int (vi 0)]) (rest := []) ⟨hx, hb, hml, hown, htg⟩ (c_X7_isName l D T (xa [(a 1)]) (xa [(ex 13), (ex 14), (ex 15), (ex 16), (ex 17), (ex 18), (ex 19), (ex 20), (ex 21), (ex 22)]) (xf []) (xh []) (xv [(vi 0)]) s.heap.size) ⟨va_cnB 1 htg (xg_ok kw_683) rfl rfl rfl (hK.2.1 _ kn_743) (htg _ kw_7) (by decide +kernel) ⟨by rw [hR]; exact Nat.le_of_ble_eq_true rfl, by rw [hR]; exact Nat.le_of_ble_eq_true rfl⟩, htg _ kw_682, htg _ ks_29⟩ (xpreV hK hPc hDc (va_recv hK.1 hPc (ci := 7) (q0 := 0) rfl rfl)) rfl rfl hl.1 rfl (lv_room (Nat.le_of_ble_eq_true rfl)) dX11_bid_5 ⟨by rw [hR]; exact Nat.le_of_ble_eq_true rfl, by rw [hR]; exact Nat.le_of_ble_eq_true rfl⟩) hS (fun q _ h => hFc q h) hFc (fun r9 u t H1 locs ht hvm hw hB hz1 hk1 hS => ?_)
  obtain ⟨bk, fik, flk, vik, hP1, hD1, hGk⟩ := hB
  rw [ht] at hP1
  obtain ⟨hP, hD⟩ := va_join (wr := [((a 0), .inr (11, [.ref (ex 0), .ref (a 1), .ref (ex 1), .ref (ex 2), .ref (ex 3), .ref (ex 4), .ref (ex 5), .ref (ex 6), .ref (ex 7), .ref (ex 8), .ref (ex 9), .ref (ex 10), .ref (ex 11), .ref (ex 12), .int 0]))]) (w1 := [((a 1), .inr (7, [.int 0, .int 0, .ref (ex 13), .ref (ex 14), .ref (ex 15), .ref (ex 16), .ref (ex 17), .ref (ex 18), .ref (ex 19), .ref (ex 20), .ref (ex 21), .ref (ex 22)]))]) hP hD [1] [0] rfl rfl (by decide) (by decide) hk1 hFc hP1 hD1
  subst hw
  clear hPc hDc hFc hP1 hD1 hk1 hz1 hvm ht
  generalize H1 = H at hP hS ⊢
  replace hP : va_P D vwCl [((a 0), .inr (11, [.ref (ex 0), .ref (a 1), .ref (ex 1), .ref (ex 2), .ref (ex 3), .ref (ex 4), .ref (ex 5), .ref (ex 6), .ref (ex 7), .ref (ex 8), .ref (ex 9), .ref (ex 10), .ref (ex 11), .ref (ex 12), .int 0])), ((a 1), .inr (7, [.int 0, .int 0, .ref (ex 13), .ref (ex 14), .ref (ex 15), .ref (ex 16), .ref (ex 17), .ref (ex 18), .ref (ex 19), .ref (ex 20), .ref (ex 21), .ref (ex 22)]))] H := hP
  replace hD : va_D A [((a 0), .inr (11, [.ref (ex 0), .ref (a 1), .ref (ex 1), .ref (ex 2), .ref (ex 3), .ref (ex 4), .ref (ex 5), .ref (ex 6), .ref (ex 7), .ref (ex 8), .ref (ex 9), .ref (ex 10), .ref (ex 11), .ref (ex 12), .int 0])), ((a 1), .inr (7, [.int 0, .int 0, .ref (ex 13), .ref (ex 14), .ref (ex 15), .ref (ex 16), .ref (ex 17), .ref (ex 18), .ref (ex 19), .ref (ex 20), .ref (ex 21), .ref (ex 22)]))] := hD
  refine lv_if_eq (tgt := 33) hx hb dX11_bid_8 (by decide) (fun _ => ?_) (fun c => absurd (by decide) c)
  refine lv_iconst (v := (-1)) hx hb dX11_bid_33 (by decide) ?_
  have hP9 := hP.sub (ws' := []) [] rfl
  have hD9 := hD.sub (ws' := []) [] (by decide) rfl
  rw [hQ]
  exact W.iret (v := (-1)) hx hb hr (fun t ht hW => ⟨⟨(-1), (), rfl, rfl, ⟨xa [], xf [], xh [], xv [], by rw [ht]; exact hP9, hD9, trivial⟩⟩, hS.F ht⟩) hS.2.2 dX11_bid_34
abbrev pre_X11_must (T : Nat → ClassId) (a ex : Nat → Nat) (fi : Nat → Nat → Int32) (fl : Nat → Nat → Int64) (vi : Nat → Int32) : va_W := [((a 0), .inr (11, [.ref (ex 0), .ref (a 2), .ref (ex 1), .ref (ex 2), .ref (a 1), .ref (ex 3), .ref (ex 4), .ref (ex 5), .ref (ex 6), .ref (ex 7), .ref (ex 8), .ref (ex 9), .ref (ex 10), .ref (ex 11), .int 0])), ((a 1), .inr (2, [.ref (a 2), .int 0, .int 0, .int 0, .int 0, .int 0, .int 0, .ref (ex 12), .ref (ex 13), .ref (ex 14), .ref (ex 15), .ref (ex 16), .ref (ex 17), .ref (ex 18), .ref (ex 19)])), ((a 2), .inr (7, [.int 0, .int 0, .ref (ex 20), .ref (ex 21), .ref (ex 22), .ref (ex 23), .ref (ex 24), .ref (ex 25), .ref (ex 26), .ref (ex 27), .ref (ex 28), .ref (ex 29)]))]
set_option maxHeartbeats 4000000 in
set_option maxRecDepth 100000 in
theorem c_X11_must (l : Launch) (D : va_G) (T : Nat → ClassId) (a ex : Nat → Nat) (fi : Nat → Nat → Int32) (fl : Nat → Nat → Int64) (vi : Nat → Int32) (sz : Nat) (hd0 : (0 ≤ (vi 0).toInt ∧ (vi 0).toInt ≤ 199)) : Met l yX11_must (xw yX11_must cX11_must 4 (some .int)) ({ frames := 1, cells := 0, slots := 0, locals := 26 }) (xP D T [.ref (a 0), .int (vi 0)] sz (pre_X11_must T a ex fi fl vi)) (va_Qi (fun r (_ : Unit) => r = 0) (xB D (va_A (pre_X11_must T a ex fi fl vi) sz) (fun _ => True) (fun b fj fm vj => [])) (va_A (pre_X11_must T a ex fi fl vi) sz)) 0 0 (va_A (pre_X11_must T a ex fi fl vi) sz) := by
  refine xofW (cc := cX11_must) (maxL := 4) (ret := (some .int)) (by decide) rfl ?_
  intro p e s m args below meth c s₁ R Q hR hQ B hml hv
  obtain ⟨rfl, hsz, hP, hK, hD0⟩ := hv
  have hx := B.exec
  have hb := B.bytes
  have hr := B.returns
  have hts := atoms_spec (ws := xw yX11_must cX11_must 4 (some .int)) B.pre
  have htg : ∀ w ∈ xg, w.before _ s = true := fun w h => hts w (List.mem_cons_of_mem _ h)
  have hown : s.vm.findClass RX11 = some m.cls := findClass_of_methodNamed B.named
  have hlocks := B.notSynchronized
  subst hsz
  have hD := hD0.self (sz := s.heap.size)
  generalize hAe : va_A (pre_X11_must T a ex fi fl vi) s.heap.size = A at hD hQ
  have hA : ∀ q : Nat, s.heap.size ≤ q → A q := fun q h => by rw [← hAe]; exact Or.inr h
  have hS : va_S A s.heap s.heap [] := va_S.rf
  replace hP : va_P D vwCl [((a 0), .inr (11, [.ref (ex 0), .ref (a 2), .ref (ex 1), .ref (ex 2), .ref (a 1), .ref (ex 3), .ref (ex 4), .ref (ex 5), .ref (ex 6), .ref (ex 7), .ref (ex 8), .ref (ex 9), .ref (ex 10), .ref (ex 11), .int 0])), ((a 1), .inr (2, [.ref (a 2), .int 0, .int 0, .int 0, .int 0, .int 0, .int 0, .ref (ex 12), .ref (ex 13), .ref (ex 14), .ref (ex 15), .ref (ex 16), .ref (ex 17), .ref (ex 18), .ref (ex 19)])), ((a 2), .inr (7, [.int 0, .int 0, .ref (ex 20), .ref (ex 21), .ref (ex 22), .ref (ex 23), .ref (ex 24), .ref (ex 25), .ref (ex 26), .ref (ex 27), .ref (ex 28), .ref (ex 29)]))] s.heap := hP
  replace hD : va_D A [((a 0), .inr (11, [.ref (ex 0), .ref (a 2), .ref (ex 1), .ref (ex 2), .ref (a 1), .ref (ex 3), .ref (ex 4), .ref (ex 5), .ref (ex 6), .ref (ex 7), .ref (ex 8), .ref (ex 9), .ref (ex 10), .ref (ex 11), .int 0])), ((a 1), .inr (2, [.ref (a 2), .int 0, .int 0, .int 0, .int 0, .int 0, .int 0, .ref (ex 12), .ref (ex 13), .ref (ex 14), .ref (ex 15), .ref (ex 16), .ref (ex 17), .ref (ex 18), .ref (ex 19)])), ((a 2), .inr (7, [.int 0, .int 0, .ref (ex 20), .ref (ex 21), .ref (ex 22), .ref (ex 23), .ref (ex 24), .ref (ex 25), .ref (ex 26), .ref (ex 27), .ref (ex 28), .ref (ex 29)]))] := hD
  have hl := lv_entry ([.ref (a 0), .int (vi 0)]) (n := 4) (Nat.le_of_ble_eq_true rfl)
  rw [lg_entry_eq]
  generalize (lg_sl ([.ref (a 0), .int (vi 0)]) ++ List.replicate (4 - (lg_sl ([.ref (a 0), .int (vi 0)])).length) Slot.unset).toArray = ls at hl ⊢
  replace hl : lv_has ls 4 [(0, .ref (a 0)), (1, .int (vi 0))] := hl
  refine lv_iload_n hx hb dX11_must_0 rfl (lv_at hl 1 rfl) ?_
  refine lv_if_lt (tgt := 11) hx hb dX11_must_1 (by decide) (fun c => by exfalso; have h9 := xlt (k := 0) (by decide) c; omega) (fun _ => ?_)
  refine lv_iload_n hx hb dX11_must_4 rfl (lv_at hl 1 rfl) ?_
  refine lv_sipush (v := 200) hx hb dX11_must_5 (by decide) ?_
  refine lv_icmp_lt (tgt := 13) hx hb dX11_must_8 (by decide) (fun _ => ?_) (fun c => by exfalso; have h9 := xnlt (k := 200) (by decide) c; omega)
  refine lv_aload_n hx hb dX11_must_13 rfl (lv_at hl 0 rfl) ?_
  refine va_get (D := D) (ci := 11) (v := .ref (a 1)) (C := RX11) (T := TX11) (N := 15) hx hb htg inX11 hown hK.1 hP 0 rfl rfl 4 (by decide) (htg _ kw_500) (fun _ h9 => h9) rfl dX11_must_14 ?_
  have hPc := hP.sub (ws' := (pre_X2_freeNames T (xa [(a 1), (a 2)]) (xa [(ex 12), (ex 13), (ex 14), (ex 15), (ex 16), (ex 17), (ex 18), (ex 19), (ex 20), (ex 21), (ex 22), (ex 23), (ex 24), (ex 25), (ex 26), (ex 27), (ex 28), (ex 29)]) (xf []) (xh []) (xv []))) [1, 2] rfl
  have hDc := hD.sub (ws' := (pre_X2_freeNames T (xa [(a 1), (a 2)]) (xa [(ex 12), (ex 13), (ex 14), (ex 15), (ex 16), (ex 17), (ex 18), (ex 19), (ex 20), (ex 21), (ex 22), (ex 23), (ex 24), (ex 25), (ex 26), (ex 27), (ex 28), (ex 29)]) (xf []) (xh []) (xv []))) [1, 2] (by decide) rfl
  have hFc := va_free (wc := (pre_X2_freeNames T (xa [(a 1), (a 2)]) (xa [(ex 12), (ex 13), (ex 14), (ex 15), (ex 16), (ex 17), (ex 18), (ex 19), (ex 20), (ex 21), (ex 22), (ex 23), (ex 24), (ex 25), (ex 26), (ex 27), (ex 28), (ex 29)]) (xf []) (xh []) (xv []))) hD hS hA [1, 2] rfl
  refine va_calli (va_runVN (As := []) (rest := []) ⟨hx, hb, hml, hown, htg⟩ (c_X2_freeNames l D T (xa [(a 1), (a 2)]) (xa [(ex 12), (ex 13), (ex 14), (ex 15), (ex 16), (ex 17), (ex 18), (ex 19), (ex 20), (ex 21), (ex 22), (ex 23), (ex 24), (ex 25), (ex 26), (ex 27), (ex 28), (ex 29)]) (xf []) (xh []) (xv []) s.heap.size) ⟨va_cnB 0 htg (xg_ok kw_773) rfl rfl rfl (hK.2.1 _ kn_770) (htg _ kw_9) (by decide +kernel) ⟨by rw [hR]; exact Nat.le_of_ble_eq_true rfl, by rw [hR]; exact Nat.le_of_ble_eq_true rfl⟩, htg _ kw_772, htg _ ks_41⟩ (xpreV hK hPc hDc (va_recv hK.1 hPc (ci := 2) (q0 := 0) rfl rfl)) rfl rfl hl.1 rfl (lv_room (Nat.le_of_ble_eq_true rfl)) dX11_must_17 ⟨by rw [hR]; exact Nat.le_of_ble_eq_true rfl, by rw [hR]; exact Nat.le_of_ble_eq_true rfl⟩) hS (fun q _ h => hFc q h) hFc (fun r9 u t H1 locs ht hvm hw hB hz1 hk1 hS => ?_)
  obtain ⟨bk, fik, flk, vik, hP1, hD1, hGk⟩ := hB
  rw [ht] at hP1
  obtain ⟨hP, hD⟩ := va_join (wr := [((a 0), .inr (11, [.ref (ex 0), .ref (a 2), .ref (ex 1), .ref (ex 2), .ref (a 1), .ref (ex 3), .ref (ex 4), .ref (ex 5), .ref (ex 6), .ref (ex 7), .ref (ex 8), .ref (ex 9), .ref (ex 10), .ref (ex 11), .int 0]))]) (w1 := [((a 1), .inr (2, [.ref (a 2), .int 0, .int 0, .int 0, .int 0, .int 0, .int 0, .ref (ex 12), .ref (ex 13), .ref (ex 14), .ref (ex 15), .ref (ex 16), .ref (ex 17), .ref (ex 18), .ref (ex 19)])), ((a 2), .inr (7, [.int 0, .int 0, .ref (ex 20), .ref (ex 21), .ref (ex 22), .ref (ex 23), .ref (ex 24), .ref (ex 25), .ref (ex 26), .ref (ex 27), .ref (ex 28), .ref (ex 29)]))]) hP hD [1, 2] [0] rfl rfl (by decide) (by decide) hk1 hFc hP1 hD1
  subst hw
  clear hPc hDc hFc hP1 hD1 hk1 hz1 hvm ht
  generalize H1 = H at hP hS ⊢
  replace hP : va_P D vwCl [((a 0), .inr (11, [.ref (ex 0), .ref (a 2), .ref (ex 1), .ref (ex 2), .ref (a 1), .ref (ex 3), .ref (ex 4), .ref (ex 5), .ref (ex 6), .ref (ex 7), .ref (ex 8), .ref (ex 9), .ref (ex 10), .ref (ex 11), .int 0])), ((a 1), .inr (2, [.ref (a 2), .int 0, .int 0, .int 0, .int 0, .int 0, .int 0, .ref (ex 12), .ref (ex 13), .ref (ex 14), .ref (ex 15), .ref (ex 16), .ref (ex 17), .ref (ex 18), .ref (ex 19)])), ((a 2), .inr (7, [.int 0, .int 0, .ref (ex 20), .ref (ex 21), .ref (ex 22), .ref (ex 23), .ref (ex 24), .ref (ex 25), .ref (ex 26), .ref (ex 27), .ref (ex 28), .ref (ex 29)]))] H := hP
  replace hD : va_D A [((a 0), .inr (11, [.ref (ex 0), .ref (a 2), .ref (ex 1), .ref (ex 2), .ref (a 1), .ref (ex 3), .ref (ex 4), .ref (ex 5), .ref (ex 6), .ref (ex 7), .ref (ex 8), .ref (ex 9), .ref (ex 10), .ref (ex 11), .int 0])), ((a 1), .inr (2, [.ref (a 2), .int 0, .int 0, .int 0, .int 0, .int 0, .int 0, .ref (ex 12), .ref (ex 13), .ref (ex 14), .ref (ex 15), .ref (ex 16), .ref (ex 17), .ref (ex 18), .ref (ex 19)])), ((a 2), .inr (7, [.int 0, .int 0, .ref (ex 20), .ref (ex 21), .ref (ex 22), .ref (ex 23), .ref (ex 24), .ref (ex 25), .ref (ex 26), .ref (ex 27), .ref (ex 28), .ref (ex 29)]))] := hD
  refine lv_istore_n (lv' := [(2, .int 0), (0, .ref (a 0)), (1, .int (vi 0))]) hx hb dX11_must_20 rfl hl (by decide) rfl (fun ls hl => ?_)
  refine lv_iconst (v := 0) hx hb dX11_must_21 (by decide) ?_
  refine lv_istore_n (lv' := [(3, .int 0), (2, .int 0), (0, .ref (a 0)), (1, .int (vi 0))]) hx hb dX11_must_22 rfl hl (by decide) rfl (fun ls hl => ?_)
  refine lv_iload_n hx hb dX11_must_23 rfl (lv_at hl 0 rfl) ?_
  refine lv_aload_n hx hb dX11_must_24 rfl (lv_at hl 2 rfl) ?_
  refine va_get (D := D) (ci := 11) (v := .ref (a 2)) (C := RX11) (T := TX11) (N := 15) hx hb htg inX11 hown hK.1 hP 0 rfl rfl 1 (by decide) (htg _ kw_497) (fun _ h9 => h9) rfl dX11_must_25 ?_
  refine va_getN (D := D) (ci := 7) (v := .int 0) (C := RX7) (T := TX7) (N := 12) hx hb htg inX7 hown hK.1 hP 2 rfl rfl 1 (by decide) (va_Nw.use rfl (hK.2.1 _ kn_167)) (fun _ h9 => h9) rfl dX11_must_28 ?_
  refine lv_icmp_ge (tgt := 93) hx hb dX11_must_31 (by decide) (fun _ => ?_) (fun c => absurd (by decide) c)
  refine lv_iload_n hx hb dX11_must_93 rfl (lv_at hl 1 rfl) ?_
  have hP9 := hP.sub (ws' := []) [] rfl
  have hD9 := hD.sub (ws' := []) [] (by decide) rfl
  rw [hQ]
  exact W.iret (v := 0) hx hb hr (fun t ht hW => ⟨⟨0, (), rfl, rfl, ⟨xa [], xf [], xh [], xv [], by rw [ht]; exact hP9, hD9, trivial⟩⟩, hS.F ht⟩) hS.2.2 dX11_must_94
abbrev pre_X11_must_2 (T : Nat → ClassId) (a ex : Nat → Nat) (fi : Nat → Nat → Int32) (fl : Nat → Nat → Int64) (vi : Nat → Int32) : va_W := [((a 0), .inr (11, [.ref (ex 0), .ref (ex 1), .ref (ex 2), .ref (ex 3), .ref (ex 4), .ref (ex 5), .ref (ex 6), .ref (ex 7), .ref (ex 8), .ref (ex 9), .ref (ex 10), .ref (ex 11), .ref (ex 12), .ref (ex 13), .int 0]))]
set_option maxHeartbeats 4000000 in
set_option maxRecDepth 100000 in
theorem c_X11_must_2 (l : Launch) (D : va_G) (T : Nat → ClassId) (a ex : Nat → Nat) (fi : Nat → Nat → Int32) (fl : Nat → Nat → Int64) (vi : Nat → Int32) (sz : Nat) (hd0 : (vi 0).toInt ≤ -1 ∨ 200 ≤ (vi 0).toInt) : Met l yX11_must (xw yX11_must cX11_must 4 (some .int)) ({ frames := 0, cells := 0, slots := 0, locals := 0 }) (xP D T [.ref (a 0), .int (vi 0)] sz (pre_X11_must_2 T a ex fi fl vi)) (va_Qi (fun r (_ : Unit) => r = (-1)) (xB D (va_A (pre_X11_must_2 T a ex fi fl vi) sz) (fun _ => True) (fun b fj fm vj => [])) (va_A (pre_X11_must_2 T a ex fi fl vi) sz)) 0 0 (va_A (pre_X11_must_2 T a ex fi fl vi) sz) := by
  refine xofW (cc := cX11_must) (maxL := 4) (ret := (some .int)) (by decide) rfl ?_
  intro p e s m args below meth c s₁ R Q hR hQ B hml hv
  obtain ⟨rfl, hsz, hP, hK, hD0⟩ := hv
  have hx := B.exec
  have hb := B.bytes
  have hr := B.returns
  have hts := atoms_spec (ws := xw yX11_must cX11_must 4 (some .int)) B.pre
  have htg : ∀ w ∈ xg, w.before _ s = true := fun w h => hts w (List.mem_cons_of_mem _ h)
  have hown : s.vm.findClass RX11 = some m.cls := findClass_of_methodNamed B.named
  have hlocks := B.notSynchronized
  subst hsz
  have hD := hD0.self (sz := s.heap.size)
  generalize hAe : va_A (pre_X11_must_2 T a ex fi fl vi) s.heap.size = A at hD hQ
  have hA : ∀ q : Nat, s.heap.size ≤ q → A q := fun q h => by rw [← hAe]; exact Or.inr h
  have hS : va_S A s.heap s.heap [] := va_S.rf
  replace hP : va_P D vwCl [((a 0), .inr (11, [.ref (ex 0), .ref (ex 1), .ref (ex 2), .ref (ex 3), .ref (ex 4), .ref (ex 5), .ref (ex 6), .ref (ex 7), .ref (ex 8), .ref (ex 9), .ref (ex 10), .ref (ex 11), .ref (ex 12), .ref (ex 13), .int 0]))] s.heap := hP
  replace hD : va_D A [((a 0), .inr (11, [.ref (ex 0), .ref (ex 1), .ref (ex 2), .ref (ex 3), .ref (ex 4), .ref (ex 5), .ref (ex 6), .ref (ex 7), .ref (ex 8), .ref (ex 9), .ref (ex 10), .ref (ex 11), .ref (ex 12), .ref (ex 13), .int 0]))] := hD
  have hl := lv_entry ([.ref (a 0), .int (vi 0)]) (n := 4) (Nat.le_of_ble_eq_true rfl)
  rw [lg_entry_eq]
  generalize (lg_sl ([.ref (a 0), .int (vi 0)]) ++ List.replicate (4 - (lg_sl ([.ref (a 0), .int (vi 0)])).length) Slot.unset).toArray = ls at hl ⊢
  replace hl : lv_has ls 4 [(0, .ref (a 0)), (1, .int (vi 0))] := hl
  refine lv_iload_n hx hb dX11_must_0 rfl (lv_at hl 1 rfl) ?_
  refine lv_if_lt (tgt := 11) hx hb dX11_must_1 (by decide) (fun c1 => ?_) (fun c1 => ?_)
  · have c1 := xlt (k := 0) (by decide) c1
    refine lv_iconst (v := (-1)) hx hb dX11_must_11 (by decide) ?_
    have hP9 := hP.sub (ws' := []) [] rfl
    have hD9 := hD.sub (ws' := []) [] (by decide) rfl
    rw [hQ]
    exact W.iret (v := (-1)) hx hb hr (fun t ht hW => ⟨⟨(-1), (), rfl, rfl, ⟨xa [], xf [], xh [], xv [], by rw [ht]; exact hP9, hD9, trivial⟩⟩, hS.F ht⟩) hS.2.2 dX11_must_12
  · have c1 := xnlt (k := 0) (by decide) c1
    refine lv_iload_n hx hb dX11_must_4 rfl (lv_at hl 1 rfl) ?_
    refine lv_sipush (v := 200) hx hb dX11_must_5 (by decide) ?_
    refine lv_icmp_lt (tgt := 13) hx hb dX11_must_8 (by decide) (fun c => by exfalso; have h9 := xlt (k := 200) (by decide) c; omega) (fun _ => ?_)
    refine lv_iconst (v := (-1)) hx hb dX11_must_11 (by decide) ?_
    have hP9 := hP.sub (ws' := []) [] rfl
    have hD9 := hD.sub (ws' := []) [] (by decide) rfl
    rw [hQ]
    exact W.iret (v := (-1)) hx hb hr (fun t ht hW => ⟨⟨(-1), (), rfl, rfl, ⟨xa [], xf [], xh [], xv [], by rw [ht]; exact hP9, hD9, trivial⟩⟩, hS.F ht⟩) hS.2.2 dX11_must_12
abbrev pre_X11_isLedger (T : Nat → ClassId) (a ex : Nat → Nat) (fi : Nat → Nat → Int32) (fl : Nat → Nat → Int64) (vi : Nat → Int32) : va_W := [((a 0), .inr (11, [.ref (ex 0), .ref (ex 1), .ref (ex 2), .ref (ex 3), .ref (ex 4), .ref (ex 5), .ref (ex 6), .ref (ex 7), .ref (ex 8), .ref (ex 9), .ref (ex 10), .ref (ex 11), .ref (ex 12), .ref (ex 13), .int 0]))]
set_option maxHeartbeats 4000000 in
set_option maxRecDepth 100000 in
theorem c_X11_isLedger (l : Launch) (D : va_G) (T : Nat → ClassId) (a ex : Nat → Nat) (fi : Nat → Nat → Int32) (fl : Nat → Nat → Int64) (vi : Nat → Int32) (sz : Nat) : Met l yX11_isLedger (xw yX11_isLedger cX11_isLedger 4 (some .boolean)) ({ frames := 0, cells := 0, slots := 0, locals := 0 }) (xP D T [.ref (a 0), .int 0] sz (pre_X11_isLedger T a ex fi fl vi)) (va_Qi (fun r (_ : Unit) => r = 0) (xB D (va_A (pre_X11_isLedger T a ex fi fl vi) sz) (fun _ => True) (fun b fj fm vj => [((a 0), .inr (11, [.ref (ex 0), .ref (ex 1), .ref (ex 2), .ref (ex 3), .ref (ex 4), .ref (ex 5), .ref (ex 6), .ref (ex 7), .ref (ex 8), .ref (ex 9), .ref (ex 10), .ref (ex 11), .ref (ex 12), .ref (ex 13), .int 0]))])) (va_A (pre_X11_isLedger T a ex fi fl vi) sz)) 0 0 (va_A (pre_X11_isLedger T a ex fi fl vi) sz) := by
  refine xofW (cc := cX11_isLedger) (maxL := 4) (ret := (some .boolean)) (by decide) rfl ?_
  intro p e s m args below meth c s₁ R Q hR hQ B hml hv
  obtain ⟨rfl, hsz, hP, hK, hD0⟩ := hv
  have hx := B.exec
  have hb := B.bytes
  have hr := B.returns
  have hts := atoms_spec (ws := xw yX11_isLedger cX11_isLedger 4 (some .boolean)) B.pre
  have htg : ∀ w ∈ xg, w.before _ s = true := fun w h => hts w (List.mem_cons_of_mem _ h)
  have hown : s.vm.findClass RX11 = some m.cls := findClass_of_methodNamed B.named
  have hlocks := B.notSynchronized
  subst hsz
  have hD := hD0.self (sz := s.heap.size)
  generalize hAe : va_A (pre_X11_isLedger T a ex fi fl vi) s.heap.size = A at hD hQ
  have hA : ∀ q : Nat, s.heap.size ≤ q → A q := fun q h => by rw [← hAe]; exact Or.inr h
  have hS : va_S A s.heap s.heap [] := va_S.rf
  replace hP : va_P D vwCl [((a 0), .inr (11, [.ref (ex 0), .ref (ex 1), .ref (ex 2), .ref (ex 3), .ref (ex 4), .ref (ex 5), .ref (ex 6), .ref (ex 7), .ref (ex 8), .ref (ex 9), .ref (ex 10), .ref (ex 11), .ref (ex 12), .ref (ex 13), .int 0]))] s.heap := hP
  replace hD : va_D A [((a 0), .inr (11, [.ref (ex 0), .ref (ex 1), .ref (ex 2), .ref (ex 3), .ref (ex 4), .ref (ex 5), .ref (ex 6), .ref (ex 7), .ref (ex 8), .ref (ex 9), .ref (ex 10), .ref (ex 11), .ref (ex 12), .ref (ex 13), .int 0]))] := hD
  have hl := lv_entry ([.ref (a 0), .int 0]) (n := 4) (Nat.le_of_ble_eq_true rfl)
  rw [lg_entry_eq]
  generalize (lg_sl ([.ref (a 0), .int 0]) ++ List.replicate (4 - (lg_sl ([.ref (a 0), .int 0])).length) Slot.unset).toArray = ls at hl ⊢
  replace hl : lv_has ls 4 [(0, .ref (a 0)), (1, .int 0)] := hl
  refine lv_iload_n hx hb dX11_isLedger_0 rfl (lv_at hl 1 rfl) ?_
  refine lv_iconst (v := 1) hx hb dX11_isLedger_1 (by decide) ?_
  refine lv_icmp_lt (tgt := 16) hx hb dX11_isLedger_2 (by decide) (fun _ => ?_) (fun c => absurd (by decide) c)
  refine lv_iconst (v := 0) hx hb dX11_isLedger_16 (by decide) ?_
  have hP9 := hP.sub (ws' := [((a 0), .inr (11, [.ref (ex 0), .ref (ex 1), .ref (ex 2), .ref (ex 3), .ref (ex 4), .ref (ex 5), .ref (ex 6), .ref (ex 7), .ref (ex 8), .ref (ex 9), .ref (ex 10), .ref (ex 11), .ref (ex 12), .ref (ex 13), .int 0]))]) [0] rfl
  have hD9 := hD.sub (ws' := [((a 0), .inr (11, [.ref (ex 0), .ref (ex 1), .ref (ex 2), .ref (ex 3), .ref (ex 4), .ref (ex 5), .ref (ex 6), .ref (ex 7), .ref (ex 8), .ref (ex 9), .ref (ex 10), .ref (ex 11), .ref (ex 12), .ref (ex 13), .int 0]))]) [0] (by decide +kernel) rfl
  rw [hQ]
  exact W.zret (v := 0) hx hb hr rfl (fun t ht hW => ⟨⟨0, (), rfl, rfl, ⟨xa [], xf [], xh [], xv [], by rw [ht]; exact hP9, hD9, trivial⟩⟩, hS.F ht⟩) hS.2.2 dX11_isLedger_17
abbrev pre_X11_ledger (T : Nat → ClassId) (a ex : Nat → Nat) (fi : Nat → Nat → Int32) (fl : Nat → Nat → Int64) (vi : Nat → Int32) : va_W := [((a 0), .inr (11, [.ref (a 1), .ref (ex 0), .ref (ex 1), .ref (ex 2), .ref (ex 3), .ref (ex 4), .ref (ex 5), .ref (ex 6), .ref (ex 7), .ref (ex 8), .ref (ex 9), .ref (ex 10), .ref (ex 11), .ref (ex 12), .int 0])), ((a 1), .inr (6, [.ref (ex 13), .ref (ex 14), .int (vi 0), .int 0, .int 0, .int 0, .int 0, .int 0, .long 0, .int 0, .int 0, .int 0, .int 0, .int 0]))]
set_option maxHeartbeats 4000000 in
set_option maxRecDepth 100000 in
theorem c_X11_ledger (l : Launch) (D : va_G) (T : Nat → ClassId) (a ex : Nat → Nat) (fi : Nat → Nat → Int32) (fl : Nat → Nat → Int64) (vi : Nat → Int32) (sz : Nat) : Met l yX11_ledger (xw yX11_ledger cX11_ledger 2 (some .int)) ({ frames := 1, cells := 0, slots := 0, locals := 27 }) (xP D T [.ref (a 0)] sz (pre_X11_ledger T a ex fi fl vi)) (va_Qi (fun r (_ : Unit) => r = (-1)) (xB D (va_A (pre_X11_ledger T a ex fi fl vi) sz) (fun _ => True) (fun b fj fm vj => [])) (va_A (pre_X11_ledger T a ex fi fl vi) sz)) 0 0 (va_A (pre_X11_ledger T a ex fi fl vi) sz) := by
  refine xofW (cc := cX11_ledger) (maxL := 2) (ret := (some .int)) (by decide) rfl ?_
  intro p e s m args below meth c s₁ R Q hR hQ B hml hv
  obtain ⟨rfl, hsz, hP, hK, hD0⟩ := hv
  have hx := B.exec
  have hb := B.bytes
  have hr := B.returns
  have hts := atoms_spec (ws := xw yX11_ledger cX11_ledger 2 (some .int)) B.pre
  have htg : ∀ w ∈ xg, w.before _ s = true := fun w h => hts w (List.mem_cons_of_mem _ h)
  have hown : s.vm.findClass RX11 = some m.cls := findClass_of_methodNamed B.named
  have hlocks := B.notSynchronized
  subst hsz
  have hD := hD0.self (sz := s.heap.size)
  generalize hAe : va_A (pre_X11_ledger T a ex fi fl vi) s.heap.size = A at hD hQ
  have hA : ∀ q : Nat, s.heap.size ≤ q → A q := fun q h => by rw [← hAe]; exact Or.inr h
  have hS : va_S A s.heap s.heap [] := va_S.rf
  replace hP : va_P D vwCl [((a 0), .inr (11, [.ref (a 1), .ref (ex 0), .ref (ex 1), .ref (ex 2), .ref (ex 3), .ref (ex 4), .ref (ex 5), .ref (ex 6), .ref (ex 7), .ref (ex 8), .ref (ex 9), .ref (ex 10), .ref (ex 11), .ref (ex 12), .int 0])), ((a 1), .inr (6, [.ref (ex 13), .ref (ex 14), .int (vi 0), .int 0, .int 0, .int 0, .int 0, .int 0, .long 0, .int 0, .int 0, .int 0, .int 0, .int 0]))] s.heap := hP
  replace hD : va_D A [((a 0), .inr (11, [.ref (a 1), .ref (ex 0), .ref (ex 1), .ref (ex 2), .ref (ex 3), .ref (ex 4), .ref (ex 5), .ref (ex 6), .ref (ex 7), .ref (ex 8), .ref (ex 9), .ref (ex 10), .ref (ex 11), .ref (ex 12), .int 0])), ((a 1), .inr (6, [.ref (ex 13), .ref (ex 14), .int (vi 0), .int 0, .int 0, .int 0, .int 0, .int 0, .long 0, .int 0, .int 0, .int 0, .int 0, .int 0]))] := hD
  have hl := lv_entry ([.ref (a 0)]) (n := 2) (Nat.le_of_ble_eq_true rfl)
  rw [lg_entry_eq]
  generalize (lg_sl ([.ref (a 0)]) ++ List.replicate (2 - (lg_sl ([.ref (a 0)])).length) Slot.unset).toArray = ls at hl ⊢
  replace hl : lv_has ls 2 [(0, .ref (a 0))] := hl
  refine lv_aload_n hx hb dX11_ledger_0 rfl (lv_at hl 0 rfl) ?_
  refine va_get (D := D) (ci := 11) (v := .ref (a 1)) (C := RX11) (T := TX11) (N := 15) hx hb htg inX11 hown hK.1 hP 0 rfl rfl 0 (by decide) (htg _ kw_496) (fun _ h9 => h9) rfl dX11_ledger_1 ?_
  refine va_getN (D := D) (ci := 6) (v := .int 0) (C := RX6) (T := TX6) (N := 14) hx hb htg inX6 hown hK.1 hP 1 rfl rfl 3 (by decide) (va_Nw.use rfl (hK.2.1 _ kn_97)) (fun _ h9 => h9) rfl dX11_ledger_4 ?_
  refine lv_istore_n (lv' := [(1, .int 0), (0, .ref (a 0))]) hx hb dX11_ledger_7 rfl hl (by decide) rfl (fun ls hl => ?_)
  refine lv_aload_n hx hb dX11_ledger_8 rfl (lv_at hl 1 rfl) ?_
  refine va_get (D := D) (ci := 11) (v := .ref (a 1)) (C := RX11) (T := TX11) (N := 15) hx hb htg inX11 hown hK.1 hP 0 rfl rfl 0 (by decide) (htg _ kw_496) (fun _ h9 => h9) rfl dX11_ledger_9 ?_
  refine lv_iconst (v := 0) hx hb dX11_ledger_12 (by decide) ?_
  refine va_putN (D := D) (ci := 6) (v := .int 0) (ty := .int) (C := RX6) (T := TX6) (N := 14) hx hb htg inX6 tyX6 tyX6_ok nmX6 hown hK.1 hP hD hS 1 rfl rfl 3 (by decide) (va_Nw.use rfl (hK.2.1 _ kn_97)) (fun _ h9 => h9) rfl (by decide +kernel) rfl rfl (Nat.le_of_ble_eq_true rfl) dX11_ledger_13 (fun H locs hP hD hS => ?_)
  replace hP : va_P D vwCl [((a 0), .inr (11, [.ref (a 1), .ref (ex 0), .ref (ex 1), .ref (ex 2), .ref (ex 3), .ref (ex 4), .ref (ex 5), .ref (ex 6), .ref (ex 7), .ref (ex 8), .ref (ex 9), .ref (ex 10), .ref (ex 11), .ref (ex 12), .int 0])), ((a 1), .inr (6, [.ref (ex 13), .ref (ex 14), .int (vi 0), .int 0, .int 0, .int 0, .int 0, .int 0, .long 0, .int 0, .int 0, .int 0, .int 0, .int 0]))] H := hP
  replace hD : va_D A [((a 0), .inr (11, [.ref (a 1), .ref (ex 0), .ref (ex 1), .ref (ex 2), .ref (ex 3), .ref (ex 4), .ref (ex 5), .ref (ex 6), .ref (ex 7), .ref (ex 8), .ref (ex 9), .ref (ex 10), .ref (ex 11), .ref (ex 12), .int 0])), ((a 1), .inr (6, [.ref (ex 13), .ref (ex 14), .int (vi 0), .int 0, .int 0, .int 0, .int 0, .int 0, .long 0, .int 0, .int 0, .int 0, .int 0, .int 0]))] := hD
  refine lv_aload_n hx hb dX11_ledger_16 rfl (lv_at hl 1 rfl) ?_
  refine lv_iload_n hx hb dX11_ledger_17 rfl (lv_at hl 0 rfl) ?_
  have hPc := hP.sub (ws' := (pre_X11_isLedger T (xa [(a 0)]) (xa [(a 1), (ex 0), (ex 1), (ex 2), (ex 3), (ex 4), (ex 5), (ex 6), (ex 7), (ex 8), (ex 9), (ex 10), (ex 11), (ex 12)]) (xf []) (xh []) (xv []))) [0] rfl
  have hDc := hD.sub (ws' := (pre_X11_isLedger T (xa [(a 0)]) (xa [(a 1), (ex 0), (ex 1), (ex 2), (ex 3), (ex 4), (ex 5), (ex 6), (ex 7), (ex 8), (ex 9), (ex 10), (ex 11), (ex 12)]) (xf []) (xh []) (xv []))) [0] (by decide) rfl
  have hFc := va_free (wc := (pre_X11_isLedger T (xa [(a 0)]) (xa [(a 1), (ex 0), (ex 1), (ex 2), (ex 3), (ex 4), (ex 5), (ex 6), (ex 7), (ex 8), (ex 9), (ex 10), (ex 11), (ex 12)]) (xf []) (xh []) (xv []))) hD hS hA [0] rfl
  refine va_calli (va_runV (As := [.int 0]) (rest := []) ⟨hx, hb, hml, hown, htg⟩ (c_X11_isLedger l D T (xa [(a 0)]) (xa [(a 1), (ex 0), (ex 1), (ex 2), (ex 3), (ex 4), (ex 5), (ex 6), (ex 7), (ex 8), (ex 9), (ex 10), (ex 11), (ex 12)]) (xf []) (xh []) (xv []) H.size) ⟨callB_of 1 htg (xg_ok kw_1046) rfl rfl rfl (htg _ kw_1) (htg _ kw_1043) (by decide +kernel) ⟨by rw [hR]; exact Nat.le_of_ble_eq_true rfl, by rw [hR]; exact Nat.le_of_ble_eq_true rfl⟩, htg _ kw_1045, htg _ ks_84⟩ (xpreV hK hPc hDc (va_recv hK.1 hPc (ci := 11) (q0 := 0) rfl rfl)) rfl rfl hl.1 rfl (lv_room (Nat.le_of_ble_eq_true rfl)) dX11_ledger_18 ⟨by rw [hR]; exact Nat.le_of_ble_eq_true rfl, by rw [hR]; exact Nat.le_of_ble_eq_true rfl⟩) hS (fun q _ h => hFc q h) hFc (fun r9 u t H1 locs ht hvm hw hB hz1 hk1 hS => ?_)
  obtain ⟨bk, fik, flk, vik, hP1, hD1, hGk⟩ := hB
  rw [ht] at hP1
  obtain ⟨hP, hD⟩ := va_join (wr := [((a 1), .inr (6, [.ref (ex 13), .ref (ex 14), .int (vi 0), .int 0, .int 0, .int 0, .int 0, .int 0, .long 0, .int 0, .int 0, .int 0, .int 0, .int 0]))]) (w1 := [((a 0), .inr (11, [.ref (a 1), .ref (ex 0), .ref (ex 1), .ref (ex 2), .ref (ex 3), .ref (ex 4), .ref (ex 5), .ref (ex 6), .ref (ex 7), .ref (ex 8), .ref (ex 9), .ref (ex 10), .ref (ex 11), .ref (ex 12), .int 0]))]) hP hD [0] [1] rfl rfl (by decide) (by decide) hk1 hFc hP1 hD1
  subst hw
  clear hPc hDc hFc hP1 hD1 hk1 hz1 hvm ht
  generalize H1 = H at hP hS ⊢
  replace hP : va_P D vwCl [((a 1), .inr (6, [.ref (ex 13), .ref (ex 14), .int (vi 0), .int 0, .int 0, .int 0, .int 0, .int 0, .long 0, .int 0, .int 0, .int 0, .int 0, .int 0])), ((a 0), .inr (11, [.ref (a 1), .ref (ex 0), .ref (ex 1), .ref (ex 2), .ref (ex 3), .ref (ex 4), .ref (ex 5), .ref (ex 6), .ref (ex 7), .ref (ex 8), .ref (ex 9), .ref (ex 10), .ref (ex 11), .ref (ex 12), .int 0]))] H := hP
  replace hD : va_D A [((a 1), .inr (6, [.ref (ex 13), .ref (ex 14), .int (vi 0), .int 0, .int 0, .int 0, .int 0, .int 0, .long 0, .int 0, .int 0, .int 0, .int 0, .int 0])), ((a 0), .inr (11, [.ref (a 1), .ref (ex 0), .ref (ex 1), .ref (ex 2), .ref (ex 3), .ref (ex 4), .ref (ex 5), .ref (ex 6), .ref (ex 7), .ref (ex 8), .ref (ex 9), .ref (ex 10), .ref (ex 11), .ref (ex 12), .int 0]))] := hD
  refine lv_if_eq (tgt := 32) hx hb dX11_ledger_21 (by decide) (fun _ => ?_) (fun c => absurd (by decide) c)
  refine lv_iconst (v := (-1)) hx hb dX11_ledger_32 (by decide) ?_
  have hP9 := hP.sub (ws' := []) [] rfl
  have hD9 := hD.sub (ws' := []) [] (by decide) rfl
  rw [hQ]
  exact W.iret (v := (-1)) hx hb hr (fun t ht hW => ⟨⟨(-1), (), rfl, rfl, ⟨xa [], xf [], xh [], xv [], by rw [ht]; exact hP9, hD9, trivial⟩⟩, hS.F ht⟩) hS.2.2 dX11_ledger_33
abbrev pre_X2_hasVotes (T : Nat → ClassId) (a ex : Nat → Nat) (fi : Nat → Nat → Int32) (fl : Nat → Nat → Int64) (vi : Nat → Int32) : va_W := [((a 0), .inr (2, [.ref (a 1), .int 0, .int 0, .int 0, .int 0, .int 0, .int 0, .ref (ex 0), .ref (ex 1), .ref (ex 2), .ref (ex 3), .ref (ex 4), .ref (ex 5), .ref (ex 6), .ref (ex 7)])), ((a 1), .inr (7, [.int 0, .int 0, .ref (ex 8), .ref (ex 9), .ref (ex 10), .ref (ex 11), .ref (ex 12), .ref (ex 13), .ref (ex 14), .ref (ex 15), .ref (ex 16), .ref (ex 17)]))]
set_option maxHeartbeats 4000000 in
set_option maxRecDepth 100000 in
theorem c_X2_hasVotes (l : Launch) (D : va_G) (T : Nat → ClassId) (a ex : Nat → Nat) (fi : Nat → Nat → Int32) (fl : Nat → Nat → Int64) (vi : Nat → Int32) (sz : Nat) : Met l yX2_hasVotes (xw yX2_hasVotes cX2_hasVotes 6 (some .boolean)) ({ frames := 0, cells := 0, slots := 0, locals := 0 }) (xP D T [.ref (a 0), .int 0] sz (pre_X2_hasVotes T a ex fi fl vi)) (va_Qi (fun r (_ : Unit) => r = 0) (xB D (va_A (pre_X2_hasVotes T a ex fi fl vi) sz) (fun _ => True) (fun b fj fm vj => [((a 0), .inr (2, [.ref (a 1), .int 0, .int 0, .int 0, .int 0, .int 0, .int 0, .ref (ex 0), .ref (ex 1), .ref (ex 2), .ref (ex 3), .ref (ex 4), .ref (ex 5), .ref (ex 6), .ref (ex 7)])), ((a 1), .inr (7, [.int 0, .int 0, .ref (ex 8), .ref (ex 9), .ref (ex 10), .ref (ex 11), .ref (ex 12), .ref (ex 13), .ref (ex 14), .ref (ex 15), .ref (ex 16), .ref (ex 17)]))])) (va_A (pre_X2_hasVotes T a ex fi fl vi) sz)) 0 0 (va_A (pre_X2_hasVotes T a ex fi fl vi) sz) := by
  refine xofW (cc := cX2_hasVotes) (maxL := 6) (ret := (some .boolean)) (by decide) rfl ?_
  intro p e s m args below meth c s₁ R Q hR hQ B hml hv
  obtain ⟨rfl, hsz, hP, hK, hD0⟩ := hv
  have hx := B.exec
  have hb := B.bytes
  have hr := B.returns
  have hts := atoms_spec (ws := xw yX2_hasVotes cX2_hasVotes 6 (some .boolean)) B.pre
  have htg : ∀ w ∈ xg, w.before _ s = true := fun w h => hts w (List.mem_cons_of_mem _ h)
  have hown : s.vm.findClass RX2 = some m.cls := findClass_of_methodNamed B.named
  have hlocks := B.notSynchronized
  subst hsz
  have hD := hD0.self (sz := s.heap.size)
  generalize hAe : va_A (pre_X2_hasVotes T a ex fi fl vi) s.heap.size = A at hD hQ
  have hA : ∀ q : Nat, s.heap.size ≤ q → A q := fun q h => by rw [← hAe]; exact Or.inr h
  have hS : va_S A s.heap s.heap [] := va_S.rf
  replace hP : va_P D vwCl [((a 0), .inr (2, [.ref (a 1), .int 0, .int 0, .int 0, .int 0, .int 0, .int 0, .ref (ex 0), .ref (ex 1), .ref (ex 2), .ref (ex 3), .ref (ex 4), .ref (ex 5), .ref (ex 6), .ref (ex 7)])), ((a 1), .inr (7, [.int 0, .int 0, .ref (ex 8), .ref (ex 9), .ref (ex 10), .ref (ex 11), .ref (ex 12), .ref (ex 13), .ref (ex 14), .ref (ex 15), .ref (ex 16), .ref (ex 17)]))] s.heap := hP
  replace hD : va_D A [((a 0), .inr (2, [.ref (a 1), .int 0, .int 0, .int 0, .int 0, .int 0, .int 0, .ref (ex 0), .ref (ex 1), .ref (ex 2), .ref (ex 3), .ref (ex 4), .ref (ex 5), .ref (ex 6), .ref (ex 7)])), ((a 1), .inr (7, [.int 0, .int 0, .ref (ex 8), .ref (ex 9), .ref (ex 10), .ref (ex 11), .ref (ex 12), .ref (ex 13), .ref (ex 14), .ref (ex 15), .ref (ex 16), .ref (ex 17)]))] := hD
  have hl := lv_entry ([.ref (a 0), .int 0]) (n := 6) (Nat.le_of_ble_eq_true rfl)
  rw [lg_entry_eq]
  generalize (lg_sl ([.ref (a 0), .int 0]) ++ List.replicate (6 - (lg_sl ([.ref (a 0), .int 0])).length) Slot.unset).toArray = ls at hl ⊢
  replace hl : lv_has ls 6 [(0, .ref (a 0)), (1, .int 0)] := hl
  refine lv_iconst (v := 0) hx hb dX2_hasVotes_0 (by decide) ?_
  refine lv_istore_n (lv' := [(2, .int 0), (0, .ref (a 0)), (1, .int 0)]) hx hb dX2_hasVotes_1 rfl hl (by decide) rfl (fun ls hl => ?_)
  refine lv_iconst (v := 0) hx hb dX2_hasVotes_2 (by decide) ?_
  refine lv_istore_n (lv' := [(3, .int 0), (2, .int 0), (0, .ref (a 0)), (1, .int 0)]) hx hb dX2_hasVotes_3 rfl hl (by decide) rfl (fun ls hl => ?_)
  refine lv_iconst (v := 1) hx hb dX2_hasVotes_4 (by decide) ?_
  refine lv_istore (lv' := [(4, .int 1), (3, .int 0), (2, .int 0), (0, .ref (a 0)), (1, .int 0)]) hx hb dX2_hasVotes_5 hl (by decide) rfl (fun ls hl => ?_)
  refine lv_iconst (v := 0) hx hb dX2_hasVotes_7 (by decide) ?_
  refine lv_istore (lv' := [(5, .int 0), (4, .int 1), (3, .int 0), (2, .int 0), (0, .ref (a 0)), (1, .int 0)]) hx hb dX2_hasVotes_8 hl (by decide) rfl (fun ls hl => ?_)
  refine lv_iload hx hb dX2_hasVotes_10 (lv_at hl 0 rfl) ?_
  refine lv_aload_n hx hb dX2_hasVotes_12 rfl (lv_at hl 4 rfl) ?_
  refine va_get (D := D) (ci := 2) (v := .ref (a 1)) (C := RX2) (T := TX2) (N := 15) hx hb htg inX2 hown hK.1 hP 0 rfl rfl 0 (by decide) (htg _ kw_245) (fun _ h9 => h9) rfl dX2_hasVotes_13 ?_
  refine va_getN (D := D) (ci := 7) (v := .int 0) (C := RX7) (T := TX7) (N := 12) hx hb htg inX7 hown hK.1 hP 1 rfl rfl 1 (by decide) (va_Nw.use rfl (hK.2.1 _ kn_164)) (fun _ h9 => h9) rfl dX2_hasVotes_16 ?_
  refine lv_icmp_ge (tgt := 82) hx hb dX2_hasVotes_19 (by decide) (fun _ => ?_) (fun c => absurd (by decide) c)
  refine lv_aload_n hx hb dX2_hasVotes_82 rfl (lv_at hl 4 rfl) ?_
  refine va_get (D := D) (ci := 2) (v := .int 0) (C := RX2) (T := TX2) (N := 15) hx hb htg inX2 hown hK.1 hP 0 rfl rfl 6 (by decide) (htg _ kw_257) (fun _ h9 => h9) rfl dX2_hasVotes_83 ?_
  refine lv_if_le (tgt := 105) hx hb dX2_hasVotes_86 (by decide) (fun _ => ?_) (fun c => absurd (by decide) c)
  refine lv_iconst (v := 2) hx hb dX2_hasVotes_105 (by decide) ?_
  refine lv_iload_n hx hb dX2_hasVotes_106 rfl (lv_at hl 2 rfl) ?_
  refine lv_imul hx hb dX2_hasVotes_107 ?_
  refine xz_i 0 (by decide) ?_
  refine lv_iload_n hx hb dX2_hasVotes_108 rfl (lv_at hl 3 rfl) ?_
  refine lv_icmp_le (tgt := 116) hx hb dX2_hasVotes_109 (by decide) (fun _ => ?_) (fun c => absurd (by decide) c)
  refine lv_iconst (v := 0) hx hb dX2_hasVotes_116 (by decide) ?_
  have hP9 := hP.sub (ws' := [((a 0), .inr (2, [.ref (a 1), .int 0, .int 0, .int 0, .int 0, .int 0, .int 0, .ref (ex 0), .ref (ex 1), .ref (ex 2), .ref (ex 3), .ref (ex 4), .ref (ex 5), .ref (ex 6), .ref (ex 7)])), ((a 1), .inr (7, [.int 0, .int 0, .ref (ex 8), .ref (ex 9), .ref (ex 10), .ref (ex 11), .ref (ex 12), .ref (ex 13), .ref (ex 14), .ref (ex 15), .ref (ex 16), .ref (ex 17)]))]) [0, 1] rfl
  have hD9 := hD.sub (ws' := [((a 0), .inr (2, [.ref (a 1), .int 0, .int 0, .int 0, .int 0, .int 0, .int 0, .ref (ex 0), .ref (ex 1), .ref (ex 2), .ref (ex 3), .ref (ex 4), .ref (ex 5), .ref (ex 6), .ref (ex 7)])), ((a 1), .inr (7, [.int 0, .int 0, .ref (ex 8), .ref (ex 9), .ref (ex 10), .ref (ex 11), .ref (ex 12), .ref (ex 13), .ref (ex 14), .ref (ex 15), .ref (ex 16), .ref (ex 17)]))]) [0, 1] (by decide +kernel) rfl
  rw [hQ]
  exact W.zret (v := 0) hx hb hr rfl (fun t ht hW => ⟨⟨0, (), rfl, rfl, ⟨xa [], xf [], xh [], xv [], by rw [ht]; exact hP9, hD9, trivial⟩⟩, hS.F ht⟩) hS.2.2 dX2_hasVotes_117
abbrev pre_X11_votes (T : Nat → ClassId) (a ex : Nat → Nat) (fi : Nat → Nat → Int32) (fl : Nat → Nat → Int64) (vi : Nat → Int32) : va_W := [((a 0), .inr (11, [.ref (ex 0), .ref (a 1), .ref (ex 1), .ref (ex 2), .ref (a 2), .ref (ex 3), .ref (ex 4), .ref (ex 5), .ref (ex 6), .ref (ex 7), .ref (ex 8), .ref (ex 9), .ref (ex 10), .ref (ex 11), .int 0])), ((a 1), .inr (7, [.int 0, .int 0, .ref (ex 12), .ref (ex 13), .ref (ex 14), .ref (ex 15), .ref (ex 16), .ref (ex 17), .ref (ex 18), .ref (ex 19), .ref (ex 20), .ref (ex 21)])), ((a 2), .inr (2, [.ref (a 1), .int 0, .int 0, .int 0, .int 0, .int 0, .int 0, .ref (ex 22), .ref (ex 23), .ref (ex 24), .ref (ex 25), .ref (ex 26), .ref (ex 27), .ref (ex 28), .ref (ex 29)]))]
set_option maxHeartbeats 4000000 in
set_option maxRecDepth 100000 in
theorem c_X11_votes (l : Launch) (D : va_G) (T : Nat → ClassId) (a ex : Nat → Nat) (fi : Nat → Nat → Int32) (fl : Nat → Nat → Int64) (vi : Nat → Int32) (sz : Nat) : Met l yX11_votes (xw yX11_votes cX11_votes 2 (some .int)) ({ frames := 1, cells := 0, slots := 0, locals := 29 }) (xP D T [.ref (a 0), .int 0] sz (pre_X11_votes T a ex fi fl vi)) (va_Qi (fun r (_ : Unit) => r = 0) (xB D (va_A (pre_X11_votes T a ex fi fl vi) sz) (fun _ => True) (fun b fj fm vj => [])) (va_A (pre_X11_votes T a ex fi fl vi) sz)) 0 0 (va_A (pre_X11_votes T a ex fi fl vi) sz) := by
  refine xofW (cc := cX11_votes) (maxL := 2) (ret := (some .int)) (by decide) rfl ?_
  intro p e s m args below meth c s₁ R Q hR hQ B hml hv
  obtain ⟨rfl, hsz, hP, hK, hD0⟩ := hv
  have hx := B.exec
  have hb := B.bytes
  have hr := B.returns
  have hts := atoms_spec (ws := xw yX11_votes cX11_votes 2 (some .int)) B.pre
  have htg : ∀ w ∈ xg, w.before _ s = true := fun w h => hts w (List.mem_cons_of_mem _ h)
  have hown : s.vm.findClass RX11 = some m.cls := findClass_of_methodNamed B.named
  have hlocks := B.notSynchronized
  subst hsz
  have hD := hD0.self (sz := s.heap.size)
  generalize hAe : va_A (pre_X11_votes T a ex fi fl vi) s.heap.size = A at hD hQ
  have hA : ∀ q : Nat, s.heap.size ≤ q → A q := fun q h => by rw [← hAe]; exact Or.inr h
  have hS : va_S A s.heap s.heap [] := va_S.rf
  replace hP : va_P D vwCl [((a 0), .inr (11, [.ref (ex 0), .ref (a 1), .ref (ex 1), .ref (ex 2), .ref (a 2), .ref (ex 3), .ref (ex 4), .ref (ex 5), .ref (ex 6), .ref (ex 7), .ref (ex 8), .ref (ex 9), .ref (ex 10), .ref (ex 11), .int 0])), ((a 1), .inr (7, [.int 0, .int 0, .ref (ex 12), .ref (ex 13), .ref (ex 14), .ref (ex 15), .ref (ex 16), .ref (ex 17), .ref (ex 18), .ref (ex 19), .ref (ex 20), .ref (ex 21)])), ((a 2), .inr (2, [.ref (a 1), .int 0, .int 0, .int 0, .int 0, .int 0, .int 0, .ref (ex 22), .ref (ex 23), .ref (ex 24), .ref (ex 25), .ref (ex 26), .ref (ex 27), .ref (ex 28), .ref (ex 29)]))] s.heap := hP
  replace hD : va_D A [((a 0), .inr (11, [.ref (ex 0), .ref (a 1), .ref (ex 1), .ref (ex 2), .ref (a 2), .ref (ex 3), .ref (ex 4), .ref (ex 5), .ref (ex 6), .ref (ex 7), .ref (ex 8), .ref (ex 9), .ref (ex 10), .ref (ex 11), .int 0])), ((a 1), .inr (7, [.int 0, .int 0, .ref (ex 12), .ref (ex 13), .ref (ex 14), .ref (ex 15), .ref (ex 16), .ref (ex 17), .ref (ex 18), .ref (ex 19), .ref (ex 20), .ref (ex 21)])), ((a 2), .inr (2, [.ref (a 1), .int 0, .int 0, .int 0, .int 0, .int 0, .int 0, .ref (ex 22), .ref (ex 23), .ref (ex 24), .ref (ex 25), .ref (ex 26), .ref (ex 27), .ref (ex 28), .ref (ex 29)]))] := hD
  have hl := lv_entry ([.ref (a 0), .int 0]) (n := 2) (Nat.le_of_ble_eq_true rfl)
  rw [lg_entry_eq]
  generalize (lg_sl ([.ref (a 0), .int 0]) ++ List.replicate (2 - (lg_sl ([.ref (a 0), .int 0])).length) Slot.unset).toArray = ls at hl ⊢
  replace hl : lv_has ls 2 [(0, .ref (a 0)), (1, .int 0)] := hl
  refine lv_iload_n hx hb dX11_votes_0 rfl (lv_at hl 1 rfl) ?_
  refine lv_if_lt (tgt := 17) hx hb dX11_votes_1 (by decide) (fun c => absurd c (by decide)) (fun _ => ?_)
  refine lv_iload_n hx hb dX11_votes_4 rfl (lv_at hl 1 rfl) ?_
  refine lv_iconst (v := 1) hx hb dX11_votes_5 (by decide) ?_
  refine lv_aload_n hx hb dX11_votes_6 rfl (lv_at hl 0 rfl) ?_
  refine va_get (D := D) (ci := 11) (v := .ref (a 1)) (C := RX11) (T := TX11) (N := 15) hx hb htg inX11 hown hK.1 hP 0 rfl rfl 1 (by decide) (htg _ kw_497) (fun _ h9 => h9) rfl dX11_votes_7 ?_
  refine va_getN (D := D) (ci := 7) (v := .int 0) (C := RX7) (T := TX7) (N := 12) hx hb htg inX7 hown hK.1 hP 1 rfl rfl 1 (by decide) (va_Nw.use rfl (hK.2.1 _ kn_167)) (fun _ h9 => h9) rfl dX11_votes_10 ?_
  refine lv_ishl hx hb dX11_votes_13 ?_
  refine xz_i 1 (by decide) ?_
  refine lv_icmp_lt (tgt := 19) hx hb dX11_votes_14 (by decide) (fun _ => ?_) (fun c => absurd (by decide) c)
  refine lv_aload_n hx hb dX11_votes_19 rfl (lv_at hl 0 rfl) ?_
  refine va_get (D := D) (ci := 11) (v := .ref (a 2)) (C := RX11) (T := TX11) (N := 15) hx hb htg inX11 hown hK.1 hP 0 rfl rfl 4 (by decide) (htg _ kw_500) (fun _ h9 => h9) rfl dX11_votes_20 ?_
  refine lv_iload_n hx hb dX11_votes_23 rfl (lv_at hl 1 rfl) ?_
  have hPc := hP.sub (ws' := (pre_X2_hasVotes T (xa [(a 2), (a 1)]) (xa [(ex 22), (ex 23), (ex 24), (ex 25), (ex 26), (ex 27), (ex 28), (ex 29), (ex 12), (ex 13), (ex 14), (ex 15), (ex 16), (ex 17), (ex 18), (ex 19), (ex 20), (ex 21)]) (xf []) (xh []) (xv []))) [2, 1] rfl
  have hDc := hD.sub (ws' := (pre_X2_hasVotes T (xa [(a 2), (a 1)]) (xa [(ex 22), (ex 23), (ex 24), (ex 25), (ex 26), (ex 27), (ex 28), (ex 29), (ex 12), (ex 13), (ex 14), (ex 15), (ex 16), (ex 17), (ex 18), (ex 19), (ex 20), (ex 21)]) (xf []) (xh []) (xv []))) [2, 1] (by decide) rfl
  have hFc := va_free (wc := (pre_X2_hasVotes T (xa [(a 2), (a 1)]) (xa [(ex 22), (ex 23), (ex 24), (ex 25), (ex 26), (ex 27), (ex 28), (ex 29), (ex 12), (ex 13), (ex 14), (ex 15), (ex 16), (ex 17), (ex 18), (ex 19), (ex 20), (ex 21)]) (xf []) (xh []) (xv []))) hD hS hA [2, 1] rfl
  refine va_calli (va_runVN (As := [.int 0]) (rest := []) ⟨hx, hb, hml, hown, htg⟩ (c_X2_hasVotes l D T (xa [(a 2), (a 1)]) (xa [(ex 22), (ex 23), (ex 24), (ex 25), (ex 26), (ex 27), (ex 28), (ex 29), (ex 12), (ex 13), (ex 14), (ex 15), (ex 16), (ex 17), (ex 18), (ex 19), (ex 20), (ex 21)]) (xf []) (xh []) (xv []) s.heap.size) ⟨va_cnB 1 htg (xg_ok kw_1062) rfl rfl rfl (hK.2.1 _ kn_1059) (htg _ kw_9) (by decide +kernel) ⟨by rw [hR]; exact Nat.le_of_ble_eq_true rfl, by rw [hR]; exact Nat.le_of_ble_eq_true rfl⟩, htg _ kw_1061, htg _ ks_87⟩ (xpreV hK hPc hDc (va_recv hK.1 hPc (ci := 2) (q0 := 0) rfl rfl)) rfl rfl hl.1 rfl (lv_room (Nat.le_of_ble_eq_true rfl)) dX11_votes_24 ⟨by rw [hR]; exact Nat.le_of_ble_eq_true rfl, by rw [hR]; exact Nat.le_of_ble_eq_true rfl⟩) hS (fun q _ h => hFc q h) hFc (fun r9 u t H1 locs ht hvm hw hB hz1 hk1 hS => ?_)
  obtain ⟨bk, fik, flk, vik, hP1, hD1, hGk⟩ := hB
  rw [ht] at hP1
  obtain ⟨hP, hD⟩ := va_join (wr := [((a 0), .inr (11, [.ref (ex 0), .ref (a 1), .ref (ex 1), .ref (ex 2), .ref (a 2), .ref (ex 3), .ref (ex 4), .ref (ex 5), .ref (ex 6), .ref (ex 7), .ref (ex 8), .ref (ex 9), .ref (ex 10), .ref (ex 11), .int 0]))]) (w1 := [((a 2), .inr (2, [.ref (a 1), .int 0, .int 0, .int 0, .int 0, .int 0, .int 0, .ref (ex 22), .ref (ex 23), .ref (ex 24), .ref (ex 25), .ref (ex 26), .ref (ex 27), .ref (ex 28), .ref (ex 29)])), ((a 1), .inr (7, [.int 0, .int 0, .ref (ex 12), .ref (ex 13), .ref (ex 14), .ref (ex 15), .ref (ex 16), .ref (ex 17), .ref (ex 18), .ref (ex 19), .ref (ex 20), .ref (ex 21)]))]) hP hD [2, 1] [0] rfl rfl (by decide) (by decide) hk1 hFc hP1 hD1
  subst hw
  clear hPc hDc hFc hP1 hD1 hk1 hz1 hvm ht
  generalize H1 = H at hP hS ⊢
  replace hP : va_P D vwCl [((a 0), .inr (11, [.ref (ex 0), .ref (a 1), .ref (ex 1), .ref (ex 2), .ref (a 2), .ref (ex 3), .ref (ex 4), .ref (ex 5), .ref (ex 6), .ref (ex 7), .ref (ex 8), .ref (ex 9), .ref (ex 10), .ref (ex 11), .int 0])), ((a 2), .inr (2, [.ref (a 1), .int 0, .int 0, .int 0, .int 0, .int 0, .int 0, .ref (ex 22), .ref (ex 23), .ref (ex 24), .ref (ex 25), .ref (ex 26), .ref (ex 27), .ref (ex 28), .ref (ex 29)])), ((a 1), .inr (7, [.int 0, .int 0, .ref (ex 12), .ref (ex 13), .ref (ex 14), .ref (ex 15), .ref (ex 16), .ref (ex 17), .ref (ex 18), .ref (ex 19), .ref (ex 20), .ref (ex 21)]))] H := hP
  replace hD : va_D A [((a 0), .inr (11, [.ref (ex 0), .ref (a 1), .ref (ex 1), .ref (ex 2), .ref (a 2), .ref (ex 3), .ref (ex 4), .ref (ex 5), .ref (ex 6), .ref (ex 7), .ref (ex 8), .ref (ex 9), .ref (ex 10), .ref (ex 11), .int 0])), ((a 2), .inr (2, [.ref (a 1), .int 0, .int 0, .int 0, .int 0, .int 0, .int 0, .ref (ex 22), .ref (ex 23), .ref (ex 24), .ref (ex 25), .ref (ex 26), .ref (ex 27), .ref (ex 28), .ref (ex 29)])), ((a 1), .inr (7, [.int 0, .int 0, .ref (ex 12), .ref (ex 13), .ref (ex 14), .ref (ex 15), .ref (ex 16), .ref (ex 17), .ref (ex 18), .ref (ex 19), .ref (ex 20), .ref (ex 21)]))] := hD
  refine lv_if_eq (tgt := 34) hx hb dX11_votes_27 (by decide) (fun _ => ?_) (fun c => absurd (by decide) c)
  refine lv_iconst (v := 0) hx hb dX11_votes_34 (by decide) ?_
  have hP9 := hP.sub (ws' := []) [] rfl
  have hD9 := hD.sub (ws' := []) [] (by decide) rfl
  rw [hQ]
  exact W.iret (v := 0) hx hb hr (fun t ht hW => ⟨⟨0, (), rfl, rfl, ⟨xa [], xf [], xh [], xv [], by rw [ht]; exact hP9, hD9, trivial⟩⟩, hS.F ht⟩) hS.2.2 dX11_votes_35
abbrev pre_X11_votes_2 (T : Nat → ClassId) (a ex : Nat → Nat) (fi : Nat → Nat → Int32) (fl : Nat → Nat → Int64) (vi : Nat → Int32) : va_W := [((a 0), .inr (11, [.ref (ex 0), .ref (a 1), .ref (ex 1), .ref (ex 2), .ref (ex 3), .ref (ex 4), .ref (ex 5), .ref (ex 6), .ref (ex 7), .ref (ex 8), .ref (ex 9), .ref (ex 10), .ref (ex 11), .ref (ex 12), .int 0])), ((a 1), .inr (7, [.int 0, .int 0, .ref (ex 13), .ref (ex 14), .ref (ex 15), .ref (ex 16), .ref (ex 17), .ref (ex 18), .ref (ex 19), .ref (ex 20), .ref (ex 21), .ref (ex 22)]))]
set_option maxHeartbeats 4000000 in
set_option maxRecDepth 100000 in
theorem c_X11_votes_2 (l : Launch) (D : va_G) (T : Nat → ClassId) (a ex : Nat → Nat) (fi : Nat → Nat → Int32) (fl : Nat → Nat → Int64) (vi : Nat → Int32) (sz : Nat) (hd0 : (vi 0).toInt ≤ -1 ∨ 1 ≤ (vi 0).toInt) : Met l yX11_votes (xw yX11_votes cX11_votes 2 (some .int)) ({ frames := 0, cells := 0, slots := 0, locals := 0 }) (xP D T [.ref (a 0), .int (vi 0)] sz (pre_X11_votes_2 T a ex fi fl vi)) (va_Qi (fun r (_ : Unit) => r = (-1)) (xB D (va_A (pre_X11_votes_2 T a ex fi fl vi) sz) (fun _ => True) (fun b fj fm vj => [])) (va_A (pre_X11_votes_2 T a ex fi fl vi) sz)) 0 0 (va_A (pre_X11_votes_2 T a ex fi fl vi) sz) := by
  refine xofW (cc := cX11_votes) (maxL := 2) (ret := (some .int)) (by decide) rfl ?_
  intro p e s m args below meth c s₁ R Q hR hQ B hml hv
  obtain ⟨rfl, hsz, hP, hK, hD0⟩ := hv
  have hx := B.exec
  have hb := B.bytes
  have hr := B.returns
  have hts := atoms_spec (ws := xw yX11_votes cX11_votes 2 (some .int)) B.pre
  have htg : ∀ w ∈ xg, w.before _ s = true := fun w h => hts w (List.mem_cons_of_mem _ h)
  have hown : s.vm.findClass RX11 = some m.cls := findClass_of_methodNamed B.named
  have hlocks := B.notSynchronized
  subst hsz
  have hD := hD0.self (sz := s.heap.size)
  generalize hAe : va_A (pre_X11_votes_2 T a ex fi fl vi) s.heap.size = A at hD hQ
  have hA : ∀ q : Nat, s.heap.size ≤ q → A q := fun q h => by rw [← hAe]; exact Or.inr h
  have hS : va_S A s.heap s.heap [] := va_S.rf
  replace hP : va_P D vwCl [((a 0), .inr (11, [.ref (ex 0), .ref (a 1), .ref (ex 1), .ref (ex 2), .ref (ex 3), .ref (ex 4), .ref (ex 5), .ref (ex 6), .ref (ex 7), .ref (ex 8), .ref (ex 9), .ref (ex 10), .ref (ex 11), .ref (ex 12), .int 0])), ((a 1), .inr (7, [.int 0, .int 0, .ref (ex 13), .ref (ex 14), .ref (ex 15), .ref (ex 16), .ref (ex 17), .ref (ex 18), .ref (ex 19), .ref (ex 20), .ref (ex 21), .ref (ex 22)]))] s.heap := hP
  replace hD : va_D A [((a 0), .inr (11, [.ref (ex 0), .ref (a 1), .ref (ex 1), .ref (ex 2), .ref (ex 3), .ref (ex 4), .ref (ex 5), .ref (ex 6), .ref (ex 7), .ref (ex 8), .ref (ex 9), .ref (ex 10), .ref (ex 11), .ref (ex 12), .int 0])), ((a 1), .inr (7, [.int 0, .int 0, .ref (ex 13), .ref (ex 14), .ref (ex 15), .ref (ex 16), .ref (ex 17), .ref (ex 18), .ref (ex 19), .ref (ex 20), .ref (ex 21), .ref (ex 22)]))] := hD
  have hl := lv_entry ([.ref (a 0), .int (vi 0)]) (n := 2) (Nat.le_of_ble_eq_true rfl)
  rw [lg_entry_eq]
  generalize (lg_sl ([.ref (a 0), .int (vi 0)]) ++ List.replicate (2 - (lg_sl ([.ref (a 0), .int (vi 0)])).length) Slot.unset).toArray = ls at hl ⊢
  replace hl : lv_has ls 2 [(0, .ref (a 0)), (1, .int (vi 0))] := hl
  refine lv_iload_n hx hb dX11_votes_0 rfl (lv_at hl 1 rfl) ?_
  refine lv_if_lt (tgt := 17) hx hb dX11_votes_1 (by decide) (fun c1 => ?_) (fun c1 => ?_)
  · have c1 := xlt (k := 0) (by decide) c1
    refine lv_iconst (v := (-1)) hx hb dX11_votes_17 (by decide) ?_
    have hP9 := hP.sub (ws' := []) [] rfl
    have hD9 := hD.sub (ws' := []) [] (by decide) rfl
    rw [hQ]
    exact W.iret (v := (-1)) hx hb hr (fun t ht hW => ⟨⟨(-1), (), rfl, rfl, ⟨xa [], xf [], xh [], xv [], by rw [ht]; exact hP9, hD9, trivial⟩⟩, hS.F ht⟩) hS.2.2 dX11_votes_18
  · have c1 := xnlt (k := 0) (by decide) c1
    refine lv_iload_n hx hb dX11_votes_4 rfl (lv_at hl 1 rfl) ?_
    refine lv_iconst (v := 1) hx hb dX11_votes_5 (by decide) ?_
    refine lv_aload_n hx hb dX11_votes_6 rfl (lv_at hl 0 rfl) ?_
    refine va_get (D := D) (ci := 11) (v := .ref (a 1)) (C := RX11) (T := TX11) (N := 15) hx hb htg inX11 hown hK.1 hP 0 rfl rfl 1 (by decide) (htg _ kw_497) (fun _ h9 => h9) rfl dX11_votes_7 ?_
    refine va_getN (D := D) (ci := 7) (v := .int 0) (C := RX7) (T := TX7) (N := 12) hx hb htg inX7 hown hK.1 hP 1 rfl rfl 1 (by decide) (va_Nw.use rfl (hK.2.1 _ kn_167)) (fun _ h9 => h9) rfl dX11_votes_10 ?_
    refine lv_ishl hx hb dX11_votes_13 ?_
    refine xz_i 1 (by decide) ?_
    refine lv_icmp_lt (tgt := 19) hx hb dX11_votes_14 (by decide) (fun c => by exfalso; have h9 := xlt (k := 1) (by decide) c; omega) (fun _ => ?_)
    refine lv_iconst (v := (-1)) hx hb dX11_votes_17 (by decide) ?_
    have hP9 := hP.sub (ws' := []) [] rfl
    have hD9 := hD.sub (ws' := []) [] (by decide) rfl
    rw [hQ]
    exact W.iret (v := (-1)) hx hb hr (fun t ht hW => ⟨⟨(-1), (), rfl, rfl, ⟨xa [], xf [], xh [], xv [], by rw [ht]; exact hP9, hD9, trivial⟩⟩, hS.F ht⟩) hS.2.2 dX11_votes_18
abbrev pre_X11_party (T : Nat → ClassId) (a ex : Nat → Nat) (fi : Nat → Nat → Int32) (fl : Nat → Nat → Int64) (vi : Nat → Int32) : va_W := [((a 0), .inr (11, [.ref (ex 0), .ref (a 1), .ref (ex 1), .ref (ex 2), .ref (a 2), .ref (ex 3), .ref (ex 4), .ref (ex 5), .ref (ex 6), .ref (ex 7), .ref (ex 8), .ref (ex 9), .ref (ex 10), .ref (ex 11), .int 0])), ((a 1), .inr (7, [.int 0, .int 0, .ref (ex 12), .ref (ex 13), .ref (ex 14), .ref (ex 15), .ref (ex 16), .ref (ex 17), .ref (ex 18), .ref (ex 19), .ref (ex 20), .ref (ex 21)])), ((a 2), .inr (2, [.ref (a 1), .int 0, .int 0, .int 0, .int 0, .int 0, .int 0, .ref (ex 22), .ref (ex 23), .ref (ex 24), .ref (ex 25), .ref (ex 26), .ref (ex 27), .ref (ex 28), .ref (ex 29)]))]
set_option maxHeartbeats 4000000 in
set_option maxRecDepth 100000 in
theorem c_X11_party (l : Launch) (D : va_G) (T : Nat → ClassId) (a ex : Nat → Nat) (fi : Nat → Nat → Int32) (fl : Nat → Nat → Int64) (vi : Nat → Int32) (sz : Nat) : Met l yX11_party (xw yX11_party cX11_party 5 (some .int)) ({ frames := 1, cells := 0, slots := 0, locals := 29 }) (xP D T [.ref (a 0)] sz (pre_X11_party T a ex fi fl vi)) (va_Qi (fun r (_ : Unit) => r = (-1)) (xB D (va_A (pre_X11_party T a ex fi fl vi) sz) (fun _ => True) (fun b fj fm vj => [])) (va_A (pre_X11_party T a ex fi fl vi) sz)) 0 0 (va_A (pre_X11_party T a ex fi fl vi) sz) := by
  refine xofW (cc := cX11_party) (maxL := 5) (ret := (some .int)) (by decide) rfl ?_
  intro p e s m args below meth c s₁ R Q hR hQ B hml hv
  obtain ⟨rfl, hsz, hP, hK, hD0⟩ := hv
  have hx := B.exec
  have hb := B.bytes
  have hr := B.returns
  have hts := atoms_spec (ws := xw yX11_party cX11_party 5 (some .int)) B.pre
  have htg : ∀ w ∈ xg, w.before _ s = true := fun w h => hts w (List.mem_cons_of_mem _ h)
  have hown : s.vm.findClass RX11 = some m.cls := findClass_of_methodNamed B.named
  have hlocks := B.notSynchronized
  subst hsz
  have hD := hD0.self (sz := s.heap.size)
  generalize hAe : va_A (pre_X11_party T a ex fi fl vi) s.heap.size = A at hD hQ
  have hA : ∀ q : Nat, s.heap.size ≤ q → A q := fun q h => by rw [← hAe]; exact Or.inr h
  have hS : va_S A s.heap s.heap [] := va_S.rf
  replace hP : va_P D vwCl [((a 0), .inr (11, [.ref (ex 0), .ref (a 1), .ref (ex 1), .ref (ex 2), .ref (a 2), .ref (ex 3), .ref (ex 4), .ref (ex 5), .ref (ex 6), .ref (ex 7), .ref (ex 8), .ref (ex 9), .ref (ex 10), .ref (ex 11), .int 0])), ((a 1), .inr (7, [.int 0, .int 0, .ref (ex 12), .ref (ex 13), .ref (ex 14), .ref (ex 15), .ref (ex 16), .ref (ex 17), .ref (ex 18), .ref (ex 19), .ref (ex 20), .ref (ex 21)])), ((a 2), .inr (2, [.ref (a 1), .int 0, .int 0, .int 0, .int 0, .int 0, .int 0, .ref (ex 22), .ref (ex 23), .ref (ex 24), .ref (ex 25), .ref (ex 26), .ref (ex 27), .ref (ex 28), .ref (ex 29)]))] s.heap := hP
  replace hD : va_D A [((a 0), .inr (11, [.ref (ex 0), .ref (a 1), .ref (ex 1), .ref (ex 2), .ref (a 2), .ref (ex 3), .ref (ex 4), .ref (ex 5), .ref (ex 6), .ref (ex 7), .ref (ex 8), .ref (ex 9), .ref (ex 10), .ref (ex 11), .int 0])), ((a 1), .inr (7, [.int 0, .int 0, .ref (ex 12), .ref (ex 13), .ref (ex 14), .ref (ex 15), .ref (ex 16), .ref (ex 17), .ref (ex 18), .ref (ex 19), .ref (ex 20), .ref (ex 21)])), ((a 2), .inr (2, [.ref (a 1), .int 0, .int 0, .int 0, .int 0, .int 0, .int 0, .ref (ex 22), .ref (ex 23), .ref (ex 24), .ref (ex 25), .ref (ex 26), .ref (ex 27), .ref (ex 28), .ref (ex 29)]))] := hD
  have hl := lv_entry ([.ref (a 0)]) (n := 5) (Nat.le_of_ble_eq_true rfl)
  rw [lg_entry_eq]
  generalize (lg_sl ([.ref (a 0)]) ++ List.replicate (5 - (lg_sl ([.ref (a 0)])).length) Slot.unset).toArray = ls at hl ⊢
  replace hl : lv_has ls 5 [(0, .ref (a 0))] := hl
  refine lv_iconst (v := (-1)) hx hb dX11_party_0 (by decide) ?_
  refine lv_istore_n (lv' := [(1, .int (-1)), (0, .ref (a 0))]) hx hb dX11_party_1 rfl hl (by decide) rfl (fun ls hl => ?_)
  refine lv_iconst (v := 0) hx hb dX11_party_2 (by decide) ?_
  refine lv_istore_n (lv' := [(2, .int 0), (1, .int (-1)), (0, .ref (a 0))]) hx hb dX11_party_3 rfl hl (by decide) rfl (fun ls hl => ?_)
  refine lv_iload_n hx hb dX11_party_4 rfl (lv_at hl 0 rfl) ?_
  refine lv_iconst (v := 1) hx hb dX11_party_5 (by decide) ?_
  refine lv_aload_n hx hb dX11_party_6 rfl (lv_at hl 2 rfl) ?_
  refine va_get (D := D) (ci := 11) (v := .ref (a 1)) (C := RX11) (T := TX11) (N := 15) hx hb htg inX11 hown hK.1 hP 0 rfl rfl 1 (by decide) (htg _ kw_497) (fun _ h9 => h9) rfl dX11_party_7 ?_
  refine va_getN (D := D) (ci := 7) (v := .int 0) (C := RX7) (T := TX7) (N := 12) hx hb htg inX7 hown hK.1 hP 1 rfl rfl 1 (by decide) (va_Nw.use rfl (hK.2.1 _ kn_167)) (fun _ h9 => h9) rfl dX11_party_10 ?_
  refine lv_ishl hx hb dX11_party_13 ?_
  refine xz_i 1 (by decide) ?_
  refine lv_icmp_ge (tgt := 88) hx hb dX11_party_14 (by decide) (fun c => absurd c (by decide)) (fun _ => ?_)
  refine lv_iload_n hx hb dX11_party_17 rfl (lv_at hl 0 rfl) ?_
  refine lv_aload_n hx hb dX11_party_18 rfl (lv_at hl 2 rfl) ?_
  refine va_get (D := D) (ci := 11) (v := .ref (a 2)) (C := RX11) (T := TX11) (N := 15) hx hb htg inX11 hown hK.1 hP 0 rfl rfl 4 (by decide) (htg _ kw_500) (fun _ h9 => h9) rfl dX11_party_19 ?_
  refine va_getN (D := D) (ci := 2) (v := .int 0) (C := RX2) (T := TX2) (N := 15) hx hb htg inX2 hown hK.1 hP 2 rfl rfl 2 (by decide) (va_Nw.use rfl (hK.2.1 _ kn_251)) (fun _ h9 => h9) rfl dX11_party_22 ?_
  refine lv_iconst (v := (-1)) hx hb dX11_party_25 (by decide) ?_
  refine lv_ixor hx hb dX11_party_26 ?_
  refine xz_i (-1) (by decide) ?_
  refine lv_iand hx hb dX11_party_27 ?_
  refine xz_i 0 (by decide) ?_
  refine lv_if_ne (tgt := 35) hx hb dX11_party_28 (by decide) (fun c => absurd (by decide) c) (fun _ => ?_)
  refine lv_iconst (v := 1) hx hb dX11_party_31 (by decide) ?_
  refine lv_goto (tgt := 36) hx hb dX11_party_32 (by decide) ?_
  refine lv_istore_n (lv' := [(3, .int 1), (2, .int 0), (1, .int (-1)), (0, .ref (a 0))]) hx hb dX11_party_36 rfl hl (by decide) rfl (fun ls hl => ?_)
  refine lv_iload_n hx hb dX11_party_37 rfl (lv_at hl 2 rfl) ?_
  refine lv_iconst (v := (-1)) hx hb dX11_party_38 (by decide) ?_
  refine lv_icmp_eq (tgt := 53) hx hb dX11_party_39 (by decide) (fun _ => ?_) (fun c => absurd (by decide) c)
  refine lv_iconst (v := 1) hx hb dX11_party_53 (by decide) ?_
  refine lv_goto (tgt := 58) hx hb dX11_party_54 (by decide) ?_
  refine lv_istore (lv' := [(4, .int 1), (3, .int 1), (2, .int 0), (1, .int (-1)), (0, .ref (a 0))]) hx hb dX11_party_58 hl (by decide) rfl (fun ls hl => ?_)
  refine lv_iload_n hx hb dX11_party_60 rfl (lv_at hl 1 rfl) ?_
  refine lv_if_eq (tgt := 82) hx hb dX11_party_61 (by decide) (fun c => absurd c (by decide)) (fun _ => ?_)
  refine lv_iload hx hb dX11_party_64 (lv_at hl 0 rfl) ?_
  refine lv_if_eq (tgt := 82) hx hb dX11_party_66 (by decide) (fun c => absurd c (by decide)) (fun _ => ?_)
  refine lv_aload_n hx hb dX11_party_69 rfl (lv_at hl 4 rfl) ?_
  refine va_get (D := D) (ci := 11) (v := .ref (a 2)) (C := RX11) (T := TX11) (N := 15) hx hb htg inX11 hown hK.1 hP 0 rfl rfl 4 (by decide) (htg _ kw_500) (fun _ h9 => h9) rfl dX11_party_70 ?_
  refine lv_iload_n hx hb dX11_party_73 rfl (lv_at hl 2 rfl) ?_
  have hPc := hP.sub (ws' := (pre_X2_hasVotes T (xa [(a 2), (a 1)]) (xa [(ex 22), (ex 23), (ex 24), (ex 25), (ex 26), (ex 27), (ex 28), (ex 29), (ex 12), (ex 13), (ex 14), (ex 15), (ex 16), (ex 17), (ex 18), (ex 19), (ex 20), (ex 21)]) (xf []) (xh []) (xv []))) [2, 1] rfl
  have hDc := hD.sub (ws' := (pre_X2_hasVotes T (xa [(a 2), (a 1)]) (xa [(ex 22), (ex 23), (ex 24), (ex 25), (ex 26), (ex 27), (ex 28), (ex 29), (ex 12), (ex 13), (ex 14), (ex 15), (ex 16), (ex 17), (ex 18), (ex 19), (ex 20), (ex 21)]) (xf []) (xh []) (xv []))) [2, 1] (by decide) rfl
  have hFc := va_free (wc := (pre_X2_hasVotes T (xa [(a 2), (a 1)]) (xa [(ex 22), (ex 23), (ex 24), (ex 25), (ex 26), (ex 27), (ex 28), (ex 29), (ex 12), (ex 13), (ex 14), (ex 15), (ex 16), (ex 17), (ex 18), (ex 19), (ex 20), (ex 21)]) (xf []) (xh []) (xv []))) hD hS hA [2, 1] rfl
  refine va_calli (va_runVN (As := [.int 0]) (rest := []) ⟨hx, hb, hml, hown, htg⟩ (c_X2_hasVotes l D T (xa [(a 2), (a 1)]) (xa [(ex 22), (ex 23), (ex 24), (ex 25), (ex 26), (ex 27), (ex 28), (ex 29), (ex 12), (ex 13), (ex 14), (ex 15), (ex 16), (ex 17), (ex 18), (ex 19), (ex 20), (ex 21)]) (xf []) (xh []) (xv []) s.heap.size) ⟨va_cnB 1 htg (xg_ok kw_1062) rfl rfl rfl (hK.2.1 _ kn_1059) (htg _ kw_9) (by decide +kernel) ⟨by rw [hR]; exact Nat.le_of_ble_eq_true rfl, by rw [hR]; exact Nat.le_of_ble_eq_true rfl⟩, htg _ kw_1061, htg _ ks_87⟩ (xpreV hK hPc hDc (va_recv hK.1 hPc (ci := 2) (q0 := 0) rfl rfl)) rfl rfl hl.1 rfl (lv_room (Nat.le_of_ble_eq_true rfl)) dX11_party_74 ⟨by rw [hR]; exact Nat.le_of_ble_eq_true rfl, by rw [hR]; exact Nat.le_of_ble_eq_true rfl⟩) hS (fun q _ h => hFc q h) hFc (fun r9 u t H1 locs ht hvm hw hB hz1 hk1 hS => ?_)
  obtain ⟨bk, fik, flk, vik, hP1, hD1, hGk⟩ := hB
  rw [ht] at hP1
  obtain ⟨hP, hD⟩ := va_join (wr := [((a 0), .inr (11, [.ref (ex 0), .ref (a 1), .ref (ex 1), .ref (ex 2), .ref (a 2), .ref (ex 3), .ref (ex 4), .ref (ex 5), .ref (ex 6), .ref (ex 7), .ref (ex 8), .ref (ex 9), .ref (ex 10), .ref (ex 11), .int 0]))]) (w1 := [((a 2), .inr (2, [.ref (a 1), .int 0, .int 0, .int 0, .int 0, .int 0, .int 0, .ref (ex 22), .ref (ex 23), .ref (ex 24), .ref (ex 25), .ref (ex 26), .ref (ex 27), .ref (ex 28), .ref (ex 29)])), ((a 1), .inr (7, [.int 0, .int 0, .ref (ex 12), .ref (ex 13), .ref (ex 14), .ref (ex 15), .ref (ex 16), .ref (ex 17), .ref (ex 18), .ref (ex 19), .ref (ex 20), .ref (ex 21)]))]) hP hD [2, 1] [0] rfl rfl (by decide) (by decide) hk1 hFc hP1 hD1
  subst hw
  clear hPc hDc hFc hP1 hD1 hk1 hz1 hvm ht
  generalize H1 = H at hP hS ⊢
  replace hP : va_P D vwCl [((a 0), .inr (11, [.ref (ex 0), .ref (a 1), .ref (ex 1), .ref (ex 2), .ref (a 2), .ref (ex 3), .ref (ex 4), .ref (ex 5), .ref (ex 6), .ref (ex 7), .ref (ex 8), .ref (ex 9), .ref (ex 10), .ref (ex 11), .int 0])), ((a 2), .inr (2, [.ref (a 1), .int 0, .int 0, .int 0, .int 0, .int 0, .int 0, .ref (ex 22), .ref (ex 23), .ref (ex 24), .ref (ex 25), .ref (ex 26), .ref (ex 27), .ref (ex 28), .ref (ex 29)])), ((a 1), .inr (7, [.int 0, .int 0, .ref (ex 12), .ref (ex 13), .ref (ex 14), .ref (ex 15), .ref (ex 16), .ref (ex 17), .ref (ex 18), .ref (ex 19), .ref (ex 20), .ref (ex 21)]))] H := hP
  replace hD : va_D A [((a 0), .inr (11, [.ref (ex 0), .ref (a 1), .ref (ex 1), .ref (ex 2), .ref (a 2), .ref (ex 3), .ref (ex 4), .ref (ex 5), .ref (ex 6), .ref (ex 7), .ref (ex 8), .ref (ex 9), .ref (ex 10), .ref (ex 11), .int 0])), ((a 2), .inr (2, [.ref (a 1), .int 0, .int 0, .int 0, .int 0, .int 0, .int 0, .ref (ex 22), .ref (ex 23), .ref (ex 24), .ref (ex 25), .ref (ex 26), .ref (ex 27), .ref (ex 28), .ref (ex 29)])), ((a 1), .inr (7, [.int 0, .int 0, .ref (ex 12), .ref (ex 13), .ref (ex 14), .ref (ex 15), .ref (ex 16), .ref (ex 17), .ref (ex 18), .ref (ex 19), .ref (ex 20), .ref (ex 21)]))] := hD
  refine lv_if_eq (tgt := 82) hx hb dX11_party_77 (by decide) (fun _ => ?_) (fun c => absurd (by decide) c)
  refine lv_iinc (v := 1) (lv' := [(2, .int 1), (4, .int 1), (3, .int 1), (1, .int (-1)), (0, .ref (a 0))]) hx hb dX11_party_82 hl (k := 2) rfl (by decide) (by decide) rfl (fun ls hl => ?_)
  refine lv_goto (tgt := 4) hx hb dX11_party_85 (by decide) ?_
  refine lv_iload_n hx hb dX11_party_4 rfl (lv_at hl 0 rfl) ?_
  refine lv_iconst (v := 1) hx hb dX11_party_5 (by decide) ?_
  refine lv_aload_n hx hb dX11_party_6 rfl (lv_at hl 4 rfl) ?_
  refine va_get (D := D) (ci := 11) (v := .ref (a 1)) (C := RX11) (T := TX11) (N := 15) hx hb htg inX11 hown hK.1 hP 0 rfl rfl 1 (by decide) (htg _ kw_497) (fun _ h9 => h9) rfl dX11_party_7 ?_
  refine va_getN (D := D) (ci := 7) (v := .int 0) (C := RX7) (T := TX7) (N := 12) hx hb htg inX7 hown hK.1 hP 2 rfl rfl 1 (by decide) (va_Nw.use rfl (hK.2.1 _ kn_167)) (fun _ h9 => h9) rfl dX11_party_10 ?_
  refine lv_ishl hx hb dX11_party_13 ?_
  refine xz_i 1 (by decide) ?_
  refine lv_icmp_ge (tgt := 88) hx hb dX11_party_14 (by decide) (fun _ => ?_) (fun c => absurd (by decide) c)
  refine lv_iload_n hx hb dX11_party_88 rfl (lv_at hl 3 rfl) ?_
  have hP9 := hP.sub (ws' := []) [] rfl
  have hD9 := hD.sub (ws' := []) [] (by decide) rfl
  rw [hQ]
  exact W.iret (v := (-1)) hx hb hr (fun t ht hW => ⟨⟨(-1), (), rfl, rfl, ⟨xa [], xf [], xh [], xv [], by rw [ht]; exact hP9, hD9, trivial⟩⟩, hS.F ht⟩) hS.2.2 dX11_party_89
abbrev pre_X11_least (T : Nat → ClassId) (a ex : Nat → Nat) (fi : Nat → Nat → Int32) (fl : Nat → Nat → Int64) (vi : Nat → Int32) : va_W := [((a 0), .inr (11, [.ref (ex 0), .ref (a 1), .ref (ex 1), .ref (ex 2), .ref (ex 3), .ref (ex 4), .ref (ex 5), .ref (ex 6), .ref (ex 7), .ref (ex 8), .ref (ex 9), .ref (ex 10), .ref (ex 11), .ref (ex 12), .int 0])), ((a 1), .inr (7, [.int 0, .int 0, .ref (ex 13), .ref (ex 14), .ref (ex 15), .ref (ex 16), .ref (ex 17), .ref (ex 18), .ref (ex 19), .ref (ex 20), .ref (ex 21), .ref (ex 22)]))]
set_option maxHeartbeats 4000000 in
set_option maxRecDepth 100000 in
theorem c_X11_least (l : Launch) (D : va_G) (T : Nat → ClassId) (a ex : Nat → Nat) (fi : Nat → Nat → Int32) (fl : Nat → Nat → Int64) (vi : Nat → Int32) (sz : Nat) : Met l yX11_least (xw yX11_least cX11_least 2 (some .int)) ({ frames := 1, cells := 0, slots := 0, locals := 25 }) (xP D T [.ref (a 0), .int (vi 0)] sz (pre_X11_least T a ex fi fl vi)) (va_Qi (fun r (_ : Unit) => r = (-1)) (xB D (va_A (pre_X11_least T a ex fi fl vi) sz) (fun _ => True) (fun b fj fm vj => [])) (va_A (pre_X11_least T a ex fi fl vi) sz)) 0 0 (va_A (pre_X11_least T a ex fi fl vi) sz) := by
  refine xofW (cc := cX11_least) (maxL := 2) (ret := (some .int)) (by decide) rfl ?_
  intro p e s m args below meth c s₁ R Q hR hQ B hml hv
  obtain ⟨rfl, hsz, hP, hK, hD0⟩ := hv
  have hx := B.exec
  have hb := B.bytes
  have hr := B.returns
  have hts := atoms_spec (ws := xw yX11_least cX11_least 2 (some .int)) B.pre
  have htg : ∀ w ∈ xg, w.before _ s = true := fun w h => hts w (List.mem_cons_of_mem _ h)
  have hown : s.vm.findClass RX11 = some m.cls := findClass_of_methodNamed B.named
  have hlocks := B.notSynchronized
  subst hsz
  have hD := hD0.self (sz := s.heap.size)
  generalize hAe : va_A (pre_X11_least T a ex fi fl vi) s.heap.size = A at hD hQ
  have hA : ∀ q : Nat, s.heap.size ≤ q → A q := fun q h => by rw [← hAe]; exact Or.inr h
  have hS : va_S A s.heap s.heap [] := va_S.rf
  replace hP : va_P D vwCl [((a 0), .inr (11, [.ref (ex 0), .ref (a 1), .ref (ex 1), .ref (ex 2), .ref (ex 3), .ref (ex 4), .ref (ex 5), .ref (ex 6), .ref (ex 7), .ref (ex 8), .ref (ex 9), .ref (ex 10), .ref (ex 11), .ref (ex 12), .int 0])), ((a 1), .inr (7, [.int 0, .int 0, .ref (ex 13), .ref (ex 14), .ref (ex 15), .ref (ex 16), .ref (ex 17), .ref (ex 18), .ref (ex 19), .ref (ex 20), .ref (ex 21), .ref (ex 22)]))] s.heap := hP
  replace hD : va_D A [((a 0), .inr (11, [.ref (ex 0), .ref (a 1), .ref (ex 1), .ref (ex 2), .ref (ex 3), .ref (ex 4), .ref (ex 5), .ref (ex 6), .ref (ex 7), .ref (ex 8), .ref (ex 9), .ref (ex 10), .ref (ex 11), .ref (ex 12), .int 0])), ((a 1), .inr (7, [.int 0, .int 0, .ref (ex 13), .ref (ex 14), .ref (ex 15), .ref (ex 16), .ref (ex 17), .ref (ex 18), .ref (ex 19), .ref (ex 20), .ref (ex 21), .ref (ex 22)]))] := hD
  have hl := lv_entry ([.ref (a 0), .int (vi 0)]) (n := 2) (Nat.le_of_ble_eq_true rfl)
  rw [lg_entry_eq]
  generalize (lg_sl ([.ref (a 0), .int (vi 0)]) ++ List.replicate (2 - (lg_sl ([.ref (a 0), .int (vi 0)])).length) Slot.unset).toArray = ls at hl ⊢
  replace hl : lv_has ls 2 [(0, .ref (a 0)), (1, .int (vi 0))] := hl
  refine lv_aload_n hx hb dX11_least_0 rfl (lv_at hl 0 rfl) ?_
  refine va_get (D := D) (ci := 11) (v := .ref (a 1)) (C := RX11) (T := TX11) (N := 15) hx hb htg inX11 hown hK.1 hP 0 rfl rfl 1 (by decide) (htg _ kw_497) (fun _ h9 => h9) rfl dX11_least_1 ?_
  refine lv_iload_n hx hb dX11_least_4 rfl (lv_at hl 1 rfl) ?_
  have hPc := hP.sub (ws' := (pre_X7_isSoul T (xa [(a 1)]) (xa [(ex 13), (ex 14), (ex 15), (ex 16), (ex 17), (ex 18), (ex 19), (ex 20), (ex 21), (ex 22)]) (xf []) (xh []) (xv [(vi 0)]))) [1] rfl
  have hDc := hD.sub (ws' := (pre_X7_isSoul T (xa [(a 1)]) (xa [(ex 13), (ex 14), (ex 15), (ex 16), (ex 17), (ex 18), (ex 19), (ex 20), (ex 21), (ex 22)]) (xf []) (xh []) (xv [(vi 0)]))) [1] (by decide) rfl
  have hFc := va_free (wc := (pre_X7_isSoul T (xa [(a 1)]) (xa [(ex 13), (ex 14), (ex 15), (ex 16), (ex 17), (ex 18), (ex 19), (ex 20), (ex 21), (ex 22)]) (xf []) (xh []) (xv [(vi 0)]))) hD hS hA [1] rfl
  refine va_calli (va_runVN (As := [.int (vi 0)]) (rest := []) ⟨hx, hb, hml, hown, htg⟩ (c_X7_isSoul l D T (xa [(a 1)]) (xa [(ex 13), (ex 14), (ex 15), (ex 16), (ex 17), (ex 18), (ex 19), (ex 20), (ex 21), (ex 22)]) (xf []) (xh []) (xv [(vi 0)]) s.heap.size) ⟨va_cnB 1 htg (xg_ok kw_664) rfl rfl rfl (hK.2.1 _ kn_764) (htg _ kw_7) (by decide +kernel) ⟨by rw [hR]; exact Nat.le_of_ble_eq_true rfl, by rw [hR]; exact Nat.le_of_ble_eq_true rfl⟩, htg _ kw_663, htg _ ks_25⟩ (xpreV hK hPc hDc (va_recv hK.1 hPc (ci := 7) (q0 := 0) rfl rfl)) rfl rfl hl.1 rfl (lv_room (Nat.le_of_ble_eq_true rfl)) dX11_least_5 ⟨by rw [hR]; exact Nat.le_of_ble_eq_true rfl, by rw [hR]; exact Nat.le_of_ble_eq_true rfl⟩) hS (fun q _ h => hFc q h) hFc (fun r9 u t H1 locs ht hvm hw hB hz1 hk1 hS => ?_)
  obtain ⟨bk, fik, flk, vik, hP1, hD1, hGk⟩ := hB
  rw [ht] at hP1
  obtain ⟨hP, hD⟩ := va_join (wr := [((a 0), .inr (11, [.ref (ex 0), .ref (a 1), .ref (ex 1), .ref (ex 2), .ref (ex 3), .ref (ex 4), .ref (ex 5), .ref (ex 6), .ref (ex 7), .ref (ex 8), .ref (ex 9), .ref (ex 10), .ref (ex 11), .ref (ex 12), .int 0]))]) (w1 := [((a 1), .inr (7, [.int 0, .int 0, .ref (ex 13), .ref (ex 14), .ref (ex 15), .ref (ex 16), .ref (ex 17), .ref (ex 18), .ref (ex 19), .ref (ex 20), .ref (ex 21), .ref (ex 22)]))]) hP hD [1] [0] rfl rfl (by decide) (by decide) hk1 hFc hP1 hD1
  subst hw
  clear hPc hDc hFc hP1 hD1 hk1 hz1 hvm ht
  generalize H1 = H at hP hS ⊢
  replace hP : va_P D vwCl [((a 0), .inr (11, [.ref (ex 0), .ref (a 1), .ref (ex 1), .ref (ex 2), .ref (ex 3), .ref (ex 4), .ref (ex 5), .ref (ex 6), .ref (ex 7), .ref (ex 8), .ref (ex 9), .ref (ex 10), .ref (ex 11), .ref (ex 12), .int 0])), ((a 1), .inr (7, [.int 0, .int 0, .ref (ex 13), .ref (ex 14), .ref (ex 15), .ref (ex 16), .ref (ex 17), .ref (ex 18), .ref (ex 19), .ref (ex 20), .ref (ex 21), .ref (ex 22)]))] H := hP
  replace hD : va_D A [((a 0), .inr (11, [.ref (ex 0), .ref (a 1), .ref (ex 1), .ref (ex 2), .ref (ex 3), .ref (ex 4), .ref (ex 5), .ref (ex 6), .ref (ex 7), .ref (ex 8), .ref (ex 9), .ref (ex 10), .ref (ex 11), .ref (ex 12), .int 0])), ((a 1), .inr (7, [.int 0, .int 0, .ref (ex 13), .ref (ex 14), .ref (ex 15), .ref (ex 16), .ref (ex 17), .ref (ex 18), .ref (ex 19), .ref (ex 20), .ref (ex 21), .ref (ex 22)]))] := hD
  refine lv_if_eq (tgt := 33) hx hb dX11_least_8 (by decide) (fun _ => ?_) (fun c => absurd (by decide) c)
  refine lv_iconst (v := (-1)) hx hb dX11_least_33 (by decide) ?_
  have hP9 := hP.sub (ws' := []) [] rfl
  have hD9 := hD.sub (ws' := []) [] (by decide) rfl
  rw [hQ]
  exact W.iret (v := (-1)) hx hb hr (fun t ht hW => ⟨⟨(-1), (), rfl, rfl, ⟨xa [], xf [], xh [], xv [], by rw [ht]; exact hP9, hD9, trivial⟩⟩, hS.F ht⟩) hS.2.2 dX11_least_34
