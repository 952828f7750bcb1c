set_option maxHeartbeats 4000000 in
set_option maxRecDepth 100000 in
theorem lw_die {p : Program} {e : Env} {s : State} {m : MethodId} {below : List Frame} {meth : Method} {c : Code} (l : Launch) (hlt : l.stackTraces = false) {b : Nat} {xs : Nat → Int32} (D : va_G) (T : Nat → ClassId) (a ex : Nat → Nat) (fi : Nat → Nat → Int32) (fl : Nat → Nat → Int64) (vi : Nat → Int32) (kK kV : Nat → Nat) (R : Room) (Q : State → Prop) (A : Nat → Prop) (hR : R = room_1) (hQ : Q = lw_Z below #[Value.ref b] s) (hAe : A = fun q => s.heap.size ≤ q) (hx : p.tables.exec = Jvm.exec) (hb : c.code = code) (hr : meth.sig.returnType = ret) (hml : c.maxLocals = 7) (hown : s.vm.findClass RL = some m.cls) (htg : ∀ w ∈ xg, w.before #[Value.ref b] s = true) (hbl : b < s.heap.size) (hbA : ¬ A b) (hlocks : meth.locks = false) (hK : xK D T s) (hA : ∀ q : Nat, s.heap.size ≤ q → A q) (hT : xT kK kV A s s.heap) (hZt : xZ2 A s s.heap) (hX : va_X b 6 xs s s.heap) (x1 x2 x3 x4 x5 : Int32) (hx1 : xs 1 = x1) (hx2 : xs 2 = x2) (hx3 : xs 3 = x3) (hx4 : xs 4 = x4) (hx5 : xs 5 = x5) (H : Heap) (locs : List Loc) (ls : Array Slot) (hP : va_P D vwCl [((a 0), .inr (11, [.ref (ex 0), .ref (a 2), .ref (ex 1), .ref (ex 2), .ref (ex 3), .ref (ex 4), .ref (ex 5), .ref (ex 6), .ref (ex 7), .ref (ex 8), .ref (ex 9), .ref (ex 10), .ref (ex 11), .ref (ex 12), .int 0])), ((a 1), .inr (12, ((.int 0) :: (.ref (ex 13)) :: (.int 0) :: (.int 0) :: (.int 0) :: (.int 0) :: (.ref (a 3)) :: (.ref (ex 14)) :: (.ref (ex 15)) :: (.ref (ex 16)) :: (.ref (ex 17)) :: (.int 0) :: (.int 0) :: (.int 0) :: (.int 0) :: (.int 0) :: (.int 0) :: (.long 0) :: (.int 0) :: (.int 0) :: (.int 0) :: (.ref (ex 18)) :: (.ref (ex 19)) :: (.int 0) :: (.ref (ex 20)) :: (.int (-1)) :: (.int 0) :: (.int 0) :: (.int 0) :: (.int 0) :: (.int 0) :: (.int 0) :: (.ref (ex 21)) :: (.int 0) :: (.ref (ex 22)) :: (.int 0) :: (.int 0) :: (.int 0) :: (.int 0) :: (.int 0) :: (.ref (ex 23)) :: (.ref (ex 24)) :: (.ref (ex 25)) :: (.ref (ex 26)) :: []))), ((a 2), .inr (7, [.int 0, .int 0, .ref (ex 27), .ref (ex 28), .ref (ex 29), .ref (ex 30), .ref (ex 31), .ref (ex 32), .ref (ex 33), .ref (ex 34), .ref (ex 35), .ref (ex 36)])), ((a 3), .inl (T 1, 2187, .inl (fun _ => 0)))] H) (hD : va_D A [((a 0), .inr (11, [.ref (ex 0), .ref (a 2), .ref (ex 1), .ref (ex 2), .ref (ex 3), .ref (ex 4), .ref (ex 5), .ref (ex 6), .ref (ex 7), .ref (ex 8), .ref (ex 9), .ref (ex 10), .ref (ex 11), .ref (ex 12), .int 0])), ((a 1), .inr (12, ((.int 0) :: (.ref (ex 13)) :: (.int 0) :: (.int 0) :: (.int 0) :: (.int 0) :: (.ref (a 3)) :: (.ref (ex 14)) :: (.ref (ex 15)) :: (.ref (ex 16)) :: (.ref (ex 17)) :: (.int 0) :: (.int 0) :: (.int 0) :: (.int 0) :: (.int 0) :: (.int 0) :: (.long 0) :: (.int 0) :: (.int 0) :: (.int 0) :: (.ref (ex 18)) :: (.ref (ex 19)) :: (.int 0) :: (.ref (ex 20)) :: (.int (-1)) :: (.int 0) :: (.int 0) :: (.int 0) :: (.int 0) :: (.int 0) :: (.int 0) :: (.ref (ex 21)) :: (.int 0) :: (.ref (ex 22)) :: (.int 0) :: (.int 0) :: (.int 0) :: (.int 0) :: (.int 0) :: (.ref (ex 23)) :: (.ref (ex 24)) :: (.ref (ex 25)) :: (.ref (ex 26)) :: []))), ((a 2), .inr (7, [.int 0, .int 0, .ref (ex 27), .ref (ex 28), .ref (ex 29), .ref (ex 30), .ref (ex 31), .ref (ex 32), .ref (ex 33), .ref (ex 34), .ref (ex 35), .ref (ex 36)])), ((a 3), .inl (T 1, 2187, .inl (fun _ => 0)))]) (hS : va_S A s.heap H locs) (hl : lv_has ls 7 [(4, .int 0), (3, .ref (ex 37)), (2, .ref (a 1)), (1, .ref (a 0)), (0, .ref b)]) : W p l e R s m #[Value.ref b] below meth c H locs 172 22099 Q (F0 m 630 ls []) := by
  refine lv_aload_n hx hb dL_law_630 rfl (lv_at hl 3 rfl) ?_
  refine lv_aload_n hx hb dL_law_631 rfl (lv_at hl 4 rfl) ?_
  refine lv_iload hx hb dL_law_632 (lv_at hl 0 rfl) ?_
  refine lv_iconst (v := 1) hx hb dL_law_634 (by decide) ?_
  refine lv_iadd hx hb dL_law_635 ?_
  refine xz_i 1 (by decide) ?_
  refine va_sld hx hb hX hbl hbA hS (vp_in_nI (n := 1) (by decide) (by decide)) dL_law_636 ?_
  refine xz_i x1 hx1 ?_
  refine lv_aload_n hx hb dL_law_637 rfl (lv_at hl 4 rfl) ?_
  refine lv_iload hx hb dL_law_638 (lv_at hl 0 rfl) ?_
  refine lv_iconst (v := 2) hx hb dL_law_640 (by decide) ?_
  refine lv_iadd hx hb dL_law_641 ?_
  refine xz_i 2 (by decide) ?_
  refine va_sld hx hb hX hbl hbA hS (vp_in_nI (n := 2) (by decide) (by decide)) dL_law_642 ?_
  refine xz_i x2 hx2 ?_
  have hPc := hP.sub (ws' := (pre_X11_die T (xa [(a 0), (a 2)]) (xa [(ex 0), (ex 1), (ex 2), (ex 3), (ex 4), (ex 5), (ex 6), (ex 7), (ex 8), (ex 9), (ex 10), (ex 11), (ex 12), (ex 27), (ex 28), (ex 29), (ex 30), (ex 31), (ex 32), (ex 33), (ex 34), (ex 35), (ex 36)]) (xf []) (xh []) (xv [x1, x2]))) [0, 2] rfl
  have hDc := hD.sub (ws' := (pre_X11_die T (xa [(a 0), (a 2)]) (xa [(ex 0), (ex 1), (ex 2), (ex 3), (ex 4), (ex 5), (ex 6), (ex 7), (ex 8), (ex 9), (ex 10), (ex 11), (ex 12), (ex 27), (ex 28), (ex 29), (ex 30), (ex 31), (ex 32), (ex 33), (ex 34), (ex 35), (ex 36)]) (xf []) (xh []) (xv [x1, x2]))) [0, 2] (by decide) rfl
  have hFc := va_free (wc := (pre_X11_die T (xa [(a 0), (a 2)]) (xa [(ex 0), (ex 1), (ex 2), (ex 3), (ex 4), (ex 5), (ex 6), (ex 7), (ex 8), (ex 9), (ex 10), (ex 11), (ex 12), (ex 27), (ex 28), (ex 29), (ex 30), (ex 31), (ex 32), (ex 33), (ex 34), (ex 35), (ex 36)]) (xf []) (xh []) (xv [x1, x2]))) hD hS hA [0, 2] rfl
  refine va_calli (va_runV (As := [.int x1, .int x2]) (rest := []) ⟨hx, hb, hml, hown, htg⟩ (c_X11_die l D T (xa [(a 0), (a 2)]) (xa [(ex 0), (ex 1), (ex 2), (ex 3), (ex 4), (ex 5), (ex 6), (ex 7), (ex 8), (ex 9), (ex 10), (ex 11), (ex 12), (ex 27), (ex 28), (ex 29), (ex 30), (ex 31), (ex 32), (ex 33), (ex 34), (ex 35), (ex 36)]) (xf []) (xh []) (xv [x1, x2]) H.size) ⟨callB_of 2 htg (xg_ok kw_906) rfl rfl rfl (htg _ kw_1) (htg _ kw_903) (by decide +kernel) ⟨by rw [hR]; exact Nat.le_of_ble_eq_true rfl, by rw [hR]; exact Nat.le_of_ble_eq_true rfl⟩, htg _ kw_904, htg _ kw_905⟩ (xpreV hK hPc hDc (va_recv hK.1 hPc (ci := 11) (q0 := 0) rfl rfl)) rfl rfl hl.1 rfl (lv_room (Nat.le_of_ble_eq_true rfl)) dL_law_643 ⟨by rw [hR]; exact Nat.le_of_ble_eq_true rfl, by rw [hR]; exact Nat.le_of_ble_eq_true rfl⟩) hS (fun q _ h => hFc q h) hFc (fun r9 u t H1 locs ht hvm hw hB hz1 hk1 hS => ?_)
  obtain ⟨bk, fik, flk, vik, hP1, hD1, hGk⟩ := hB
  rw [ht] at hP1
  obtain ⟨hP, hD⟩ := va_join (wr := [((a 1), .inr (12, ((.int 0) :: (.ref (ex 13)) :: (.int 0) :: (.int 0) :: (.int 0) :: (.int 0) :: (.ref (a 3)) :: (.ref (ex 14)) :: (.ref (ex 15)) :: (.ref (ex 16)) :: (.ref (ex 17)) :: (.int 0) :: (.int 0) :: (.int 0) :: (.int 0) :: (.int 0) :: (.int 0) :: (.long 0) :: (.int 0) :: (.int 0) :: (.int 0) :: (.ref (ex 18)) :: (.ref (ex 19)) :: (.int 0) :: (.ref (ex 20)) :: (.int (-1)) :: (.int 0) :: (.int 0) :: (.int 0) :: (.int 0) :: (.int 0) :: (.int 0) :: (.ref (ex 21)) :: (.int 0) :: (.ref (ex 22)) :: (.int 0) :: (.int 0) :: (.int 0) :: (.int 0) :: (.int 0) :: (.ref (ex 23)) :: (.ref (ex 24)) :: (.ref (ex 25)) :: (.ref (ex 26)) :: []))), ((a 3), .inl (T 1, 2187, .inl (fun _ => 0)))]) (w1 := []) hP hD [0, 2] [1, 3] rfl rfl (by decide) (by decide) hk1 hFc hP1 hD1
  subst hw
  clear hPc hDc hFc hP1 hD1 hk1 hz1 hvm ht
  generalize H1 = H at hP hS ⊢
  replace hP : va_P D vwCl [((a 1), .inr (12, ((.int 0) :: (.ref (ex 13)) :: (.int 0) :: (.int 0) :: (.int 0) :: (.int 0) :: (.ref (a 3)) :: (.ref (ex 14)) :: (.ref (ex 15)) :: (.ref (ex 16)) :: (.ref (ex 17)) :: (.int 0) :: (.int 0) :: (.int 0) :: (.int 0) :: (.int 0) :: (.int 0) :: (.long 0) :: (.int 0) :: (.int 0) :: (.int 0) :: (.ref (ex 18)) :: (.ref (ex 19)) :: (.int 0) :: (.ref (ex 20)) :: (.int (-1)) :: (.int 0) :: (.int 0) :: (.int 0) :: (.int 0) :: (.int 0) :: (.int 0) :: (.ref (ex 21)) :: (.int 0) :: (.ref (ex 22)) :: (.int 0) :: (.int 0) :: (.int 0) :: (.int 0) :: (.int 0) :: (.ref (ex 23)) :: (.ref (ex 24)) :: (.ref (ex 25)) :: (.ref (ex 26)) :: []))), ((a 3), .inl (T 1, 2187, .inl (fun _ => 0)))] H := hP
  replace hD : va_D A [((a 1), .inr (12, ((.int 0) :: (.ref (ex 13)) :: (.int 0) :: (.int 0) :: (.int 0) :: (.int 0) :: (.ref (a 3)) :: (.ref (ex 14)) :: (.ref (ex 15)) :: (.ref (ex 16)) :: (.ref (ex 17)) :: (.int 0) :: (.int 0) :: (.int 0) :: (.int 0) :: (.int 0) :: (.int 0) :: (.long 0) :: (.int 0) :: (.int 0) :: (.int 0) :: (.ref (ex 18)) :: (.ref (ex 19)) :: (.int 0) :: (.ref (ex 20)) :: (.int (-1)) :: (.int 0) :: (.int 0) :: (.int 0) :: (.int 0) :: (.int 0) :: (.int 0) :: (.ref (ex 21)) :: (.int 0) :: (.ref (ex 22)) :: (.int 0) :: (.int 0) :: (.int 0) :: (.int 0) :: (.int 0) :: (.ref (ex 23)) :: (.ref (ex 24)) :: (.ref (ex 25)) :: (.ref (ex 26)) :: []))), ((a 3), .inl (T 1, 2187, .inl (fun _ => 0)))] := hD
  refine lv_aload_n hx hb dL_law_646 rfl (lv_at hl 2 rfl) ?_
  refine lv_aload_n hx hb dL_law_647 rfl (lv_at hl 4 rfl) ?_
  refine lv_iload hx hb dL_law_648 (lv_at hl 0 rfl) ?_
  refine lv_iconst (v := 1) hx hb dL_law_650 (by decide) ?_
  refine lv_iadd hx hb dL_law_651 ?_
  refine xz_i 1 (by decide) ?_
  refine va_sld hx hb hX hbl hbA hS (vp_in_nI (n := 1) (by decide) (by decide)) dL_law_652 ?_
  refine xz_i x1 hx1 ?_
  refine lv_aload_n hx hb dL_law_653 rfl (lv_at hl 4 rfl) ?_
  refine lv_iload hx hb dL_law_654 (lv_at hl 0 rfl) ?_
  refine lv_iconst (v := 2) hx hb dL_law_656 (by decide) ?_
  refine lv_iadd hx hb dL_law_657 ?_
  refine xz_i 2 (by decide) ?_
  refine va_sld hx hb hX hbl hbA hS (vp_in_nI (n := 2) (by decide) (by decide)) dL_law_658 ?_
  refine xz_i x2 hx2 ?_
  have hPc := hP.sub (ws' := (pre_X12_die T (xa [(a 1), (a 3)]) (xa [(ex 13), (ex 14), (ex 15), (ex 16), (ex 17), (ex 18), (ex 19), (ex 20), (ex 21), (ex 22), (ex 23), (ex 24), (ex 25), (ex 26)]) (xf []) (xh []) (xv [x1, x2]))) [0, 1] rfl
  have hDc := hD.sub (ws' := (pre_X12_die T (xa [(a 1), (a 3)]) (xa [(ex 13), (ex 14), (ex 15), (ex 16), (ex 17), (ex 18), (ex 19), (ex 20), (ex 21), (ex 22), (ex 23), (ex 24), (ex 25), (ex 26)]) (xf []) (xh []) (xv [x1, x2]))) [0, 1] (by decide) rfl
  have hFc := va_free (wc := (pre_X12_die T (xa [(a 1), (a 3)]) (xa [(ex 13), (ex 14), (ex 15), (ex 16), (ex 17), (ex 18), (ex 19), (ex 20), (ex 21), (ex 22), (ex 23), (ex 24), (ex 25), (ex 26)]) (xf []) (xh []) (xv [x1, x2]))) hD hS hA [0, 1] rfl
  refine va_calli (va_runV (As := [.int x1, .int x2]) (rest := [.int (-1)]) ⟨hx, hb, hml, hown, htg⟩ (c_X12_die l D T (xa [(a 1), (a 3)]) (xa [(ex 13), (ex 14), (ex 15), (ex 16), (ex 17), (ex 18), (ex 19), (ex 20), (ex 21), (ex 22), (ex 23), (ex 24), (ex 25), (ex 26)]) (xf []) (xh []) (xv [x1, x2]) H.size) ⟨callB_of 2 htg (xg_ok kw_1740) rfl rfl rfl (htg _ kw_17) (htg _ kw_1737) (by decide +kernel) ⟨by rw [hR]; exact Nat.le_of_ble_eq_true rfl, by rw [hR]; exact Nat.le_of_ble_eq_true rfl⟩, htg _ kw_1738, htg _ kw_1739⟩ (xpreV hK hPc hDc (va_recv hK.1 hPc (ci := 12) (q0 := 0) rfl rfl)) rfl rfl hl.1 rfl (lv_room (Nat.le_of_ble_eq_true rfl)) dL_law_659 ⟨by rw [hR]; exact Nat.le_of_ble_eq_true rfl, by rw [hR]; exact Nat.le_of_ble_eq_true rfl⟩) hS (fun q _ h => hFc q h) hFc (fun r9 u t H1 locs ht hvm hw hB hz1 hk1 hS => ?_)
  obtain ⟨bk_1, fik_1, flk_1, vik_1, hP1, hD1, hGk_1⟩ := hB
  rw [ht] at hP1
  obtain ⟨hP, hD⟩ := va_join (wr := []) (w1 := []) hP hD [0, 1] [] rfl rfl (by decide) (by decide) hk1 hFc hP1 hD1
  subst hw
  clear hPc hDc hFc hP1 hD1 hk1 hz1 hvm ht
  generalize H1 = H at hP hS ⊢
  replace hP : va_P D vwCl [] H := hP
  replace hD : va_D A [] := hD
  refine lv_icmp_eq (tgt := 1466) hx hb dL_law_662 (by decide) (fun _ => ?_) (fun c => absurd (by decide) c)
  refine lv_iinc (v := 6) (lv' := [(4, .int 6), (3, .ref (ex 37)), (2, .ref (a 1)), (1, .ref (a 0)), (0, .ref b)]) hx hb dL_law_1466 hl (k := 0) rfl (by decide) (by decide) rfl (fun ls hl => ?_)
  refine lv_goto (tgt := 23) hx hb dL_law_1469 (by decide) ?_
  refine lv_iload hx hb dL_law_23 (lv_at hl 0 rfl) ?_
  refine lv_aload_n hx hb dL_law_25 rfl (lv_at hl 4 rfl) ?_
  refine va_slen hx hb hX hbl hbA hS dL_law_26 ?_
  refine xz_i 6 rfl ?_
  refine lv_bipush (v := 6) hx hb dL_law_27 (by decide) ?_
  refine lv_isub hx hb dL_law_29 ?_
  refine xz_i 0 (by decide) ?_
  refine lv_icmp_gt (tgt := 1472) hx hb dL_law_30 (by decide) (fun _ => ?_) (fun c => absurd (by decide) c)
  refine lv_iconst (v := 1) hx hb dL_law_1472 (by decide) ?_
  refine va_forget (fun q hq => by have h9 := hS.2.2 q hq; rw [hAe] at h9; exact h9) ?_
  refine W.widen (k := 600002) (n := 7302232) (Nat.le_of_ble_eq_true rfl) (Nat.le_of_ble_eq_true rfl) ?_
  subst hR
  rw [hQ]
  exact lw_ret hx hb hr hlocks dL_law_1473
set_option maxHeartbeats 4000000 in
set_option maxRecDepth 100000 in
theorem lw_flee {p : Program} {e : Env} {s : State} {m : MethodId} {below : List Frame} {meth : Method} {c : Code} (l : Launch) (hlt : l.stackTraces = false) {b : Nat} {xs : Nat → Int32} (D : va_G) (T : Nat → ClassId) (a ex : Nat → Nat) (fi : Nat → Nat → Int32) (fl : Nat → Nat → Int64) (vi : Nat → Int32) (kK kV : Nat → Nat) (R : Room) (Q : State → Prop) (A : Nat → Prop) (hR : R = room_1) (hQ : Q = lw_Z below #[Value.ref b] s) (hAe : A = fun q => s.heap.size ≤ q) (hx : p.tables.exec = Jvm.exec) (hb : c.code = code) (hr : meth.sig.returnType = ret) (hml : c.maxLocals = 7) (hown : s.vm.findClass RL = some m.cls) (htg : ∀ w ∈ xg, w.before #[Value.ref b] s = true) (hbl : b < s.heap.size) (hbA : ¬ A b) (hlocks : meth.locks = false) (hK : xK D T s) (hA : ∀ q : Nat, s.heap.size ≤ q → A q) (hT : xT kK kV A s s.heap) (hZt : xZ2 A s s.heap) (hX : va_X b 6 xs s s.heap) (x1 x2 x3 x4 x5 : Int32) (hx1 : xs 1 = x1) (hx2 : xs 2 = x2) (hx3 : xs 3 = x3) (hx4 : xs 4 = x4) (hx5 : xs 5 = x5) (H : Heap) (locs : List Loc) (ls : Array Slot) (hP : va_P D vwCl [((a 0), .inr (11, [.ref (ex 0), .ref (a 2), .ref (ex 1), .ref (ex 2), .ref (ex 3), .ref (ex 4), .ref (ex 5), .ref (ex 6), .ref (ex 7), .ref (ex 8), .ref (ex 9), .ref (ex 10), .ref (ex 11), .ref (ex 12), .int 0])), ((a 1), .inr (12, ((.int 0) :: (.ref (ex 13)) :: (.int 0) :: (.int 0) :: (.int 0) :: (.int 0) :: (.ref (a 3)) :: (.ref (ex 14)) :: (.ref (ex 15)) :: (.ref (ex 16)) :: (.ref (ex 17)) :: (.int 0) :: (.int 0) :: (.int 0) :: (.int 0) :: (.int 0) :: (.int 0) :: (.long 0) :: (.int 0) :: (.int 0) :: (.int 0) :: (.ref (ex 18)) :: (.ref (ex 19)) :: (.int 0) :: (.ref (ex 20)) :: (.int (-1)) :: (.int 0) :: (.int 0) :: (.int 0) :: (.int 0) :: (.int 0) :: (.int 0) :: (.ref (ex 21)) :: (.int 0) :: (.ref (ex 22)) :: (.int 0) :: (.int 0) :: (.int 0) :: (.int 0) :: (.int 0) :: (.ref (ex 23)) :: (.ref (ex 24)) :: (.ref (ex 25)) :: (.ref (ex 26)) :: []))), ((a 2), .inr (7, [.int 0, .int 0, .ref (ex 27), .ref (ex 28), .ref (ex 29), .ref (ex 30), .ref (ex 31), .ref (ex 32), .ref (ex 33), .ref (ex 34), .ref (ex 35), .ref (ex 36)])), ((a 3), .inl (T 1, 2187, .inl (fun _ => 0)))] H) (hD : va_D A [((a 0), .inr (11, [.ref (ex 0), .ref (a 2), .ref (ex 1), .ref (ex 2), .ref (ex 3), .ref (ex 4), .ref (ex 5), .ref (ex 6), .ref (ex 7), .ref (ex 8), .ref (ex 9), .ref (ex 10), .ref (ex 11), .ref (ex 12), .int 0])), ((a 1), .inr (12, ((.int 0) :: (.ref (ex 13)) :: (.int 0) :: (.int 0) :: (.int 0) :: (.int 0) :: (.ref (a 3)) :: (.ref (ex 14)) :: (.ref (ex 15)) :: (.ref (ex 16)) :: (.ref (ex 17)) :: (.int 0) :: (.int 0) :: (.int 0) :: (.int 0) :: (.int 0) :: (.int 0) :: (.long 0) :: (.int 0) :: (.int 0) :: (.int 0) :: (.ref (ex 18)) :: (.ref (ex 19)) :: (.int 0) :: (.ref (ex 20)) :: (.int (-1)) :: (.int 0) :: (.int 0) :: (.int 0) :: (.int 0) :: (.int 0) :: (.int 0) :: (.ref (ex 21)) :: (.int 0) :: (.ref (ex 22)) :: (.int 0) :: (.int 0) :: (.int 0) :: (.int 0) :: (.int 0) :: (.ref (ex 23)) :: (.ref (ex 24)) :: (.ref (ex 25)) :: (.ref (ex 26)) :: []))), ((a 2), .inr (7, [.int 0, .int 0, .ref (ex 27), .ref (ex 28), .ref (ex 29), .ref (ex 30), .ref (ex 31), .ref (ex 32), .ref (ex 33), .ref (ex 34), .ref (ex 35), .ref (ex 36)])), ((a 3), .inl (T 1, 2187, .inl (fun _ => 0)))]) (hS : va_S A s.heap H locs) (hl : lv_has ls 7 [(4, .int 0), (3, .ref (ex 37)), (2, .ref (a 1)), (1, .ref (a 0)), (0, .ref b)]) : W p l e R s m #[Value.ref b] below meth c H locs 172 22099 Q (F0 m 667 ls []) := by
  refine lv_aload_n hx hb dL_law_667 rfl (lv_at hl 3 rfl) ?_
  refine lv_aload_n hx hb dL_law_668 rfl (lv_at hl 4 rfl) ?_
  refine lv_iload hx hb dL_law_669 (lv_at hl 0 rfl) ?_
  refine lv_iconst (v := 1) hx hb dL_law_671 (by decide) ?_
  refine lv_iadd hx hb dL_law_672 ?_
  refine xz_i 1 (by decide) ?_
  refine va_sld hx hb hX hbl hbA hS (vp_in_nI (n := 1) (by decide) (by decide)) dL_law_673 ?_
  refine xz_i x1 hx1 ?_
  have hPc := hP.sub (ws' := (pre_X11_flee T (xa [(a 0), (a 2)]) (xa [(ex 0), (ex 1), (ex 2), (ex 3), (ex 4), (ex 5), (ex 6), (ex 7), (ex 8), (ex 9), (ex 10), (ex 11), (ex 12), (ex 27), (ex 28), (ex 29), (ex 30), (ex 31), (ex 32), (ex 33), (ex 34), (ex 35), (ex 36)]) (xf []) (xh []) (xv [x1]))) [0, 2] rfl
  have hDc := hD.sub (ws' := (pre_X11_flee T (xa [(a 0), (a 2)]) (xa [(ex 0), (ex 1), (ex 2), (ex 3), (ex 4), (ex 5), (ex 6), (ex 7), (ex 8), (ex 9), (ex 10), (ex 11), (ex 12), (ex 27), (ex 28), (ex 29), (ex 30), (ex 31), (ex 32), (ex 33), (ex 34), (ex 35), (ex 36)]) (xf []) (xh []) (xv [x1]))) [0, 2] (by decide) rfl
  have hFc := va_free (wc := (pre_X11_flee T (xa [(a 0), (a 2)]) (xa [(ex 0), (ex 1), (ex 2), (ex 3), (ex 4), (ex 5), (ex 6), (ex 7), (ex 8), (ex 9), (ex 10), (ex 11), (ex 12), (ex 27), (ex 28), (ex 29), (ex 30), (ex 31), (ex 32), (ex 33), (ex 34), (ex 35), (ex 36)]) (xf []) (xh []) (xv [x1]))) hD hS hA [0, 2] rfl
  refine va_calli (va_runV (As := [.int x1]) (rest := []) ⟨hx, hb, hml, hown, htg⟩ (c_X11_flee l D T (xa [(a 0), (a 2)]) (xa [(ex 0), (ex 1), (ex 2), (ex 3), (ex 4), (ex 5), (ex 6), (ex 7), (ex 8), (ex 9), (ex 10), (ex 11), (ex 12), (ex 27), (ex 28), (ex 29), (ex 30), (ex 31), (ex 32), (ex 33), (ex 34), (ex 35), (ex 36)]) (xf []) (xh []) (xv [x1]) H.size) ⟨callB_of 1 htg (xg_ok kw_910) rfl rfl rfl (htg _ kw_1) (htg _ kw_907) (by decide +kernel) ⟨by rw [hR]; exact Nat.le_of_ble_eq_true rfl, by rw [hR]; exact Nat.le_of_ble_eq_true rfl⟩, htg _ kw_908, htg _ kw_909⟩ (xpreV hK hPc hDc (va_recv hK.1 hPc (ci := 11) (q0 := 0) rfl rfl)) rfl rfl hl.1 rfl (lv_room (Nat.le_of_ble_eq_true rfl)) dL_law_674 ⟨by rw [hR]; exact Nat.le_of_ble_eq_true rfl, by rw [hR]; exact Nat.le_of_ble_eq_true rfl⟩) hS (fun q _ h => hFc q h) hFc (fun r9 u t H1 locs ht hvm hw hB hz1 hk1 hS => ?_)
  obtain ⟨bk, fik, flk, vik, hP1, hD1, hGk⟩ := hB
  rw [ht] at hP1
  obtain ⟨hP, hD⟩ := va_join (wr := [((a 1), .inr (12, ((.int 0) :: (.ref (ex 13)) :: (.int 0) :: (.int 0) :: (.int 0) :: (.int 0) :: (.ref (a 3)) :: (.ref (ex 14)) :: (.ref (ex 15)) :: (.ref (ex 16)) :: (.ref (ex 17)) :: (.int 0) :: (.int 0) :: (.int 0) :: (.int 0) :: (.int 0) :: (.int 0) :: (.long 0) :: (.int 0) :: (.int 0) :: (.int 0) :: (.ref (ex 18)) :: (.ref (ex 19)) :: (.int 0) :: (.ref (ex 20)) :: (.int (-1)) :: (.int 0) :: (.int 0) :: (.int 0) :: (.int 0) :: (.int 0) :: (.int 0) :: (.ref (ex 21)) :: (.int 0) :: (.ref (ex 22)) :: (.int 0) :: (.int 0) :: (.int 0) :: (.int 0) :: (.int 0) :: (.ref (ex 23)) :: (.ref (ex 24)) :: (.ref (ex 25)) :: (.ref (ex 26)) :: []))), ((a 3), .inl (T 1, 2187, .inl (fun _ => 0)))]) (w1 := []) hP hD [0, 2] [1, 3] rfl rfl (by decide) (by decide) hk1 hFc hP1 hD1
  subst hw
  clear hPc hDc hFc hP1 hD1 hk1 hz1 hvm ht
  generalize H1 = H at hP hS ⊢
  replace hP : va_P D vwCl [((a 1), .inr (12, ((.int 0) :: (.ref (ex 13)) :: (.int 0) :: (.int 0) :: (.int 0) :: (.int 0) :: (.ref (a 3)) :: (.ref (ex 14)) :: (.ref (ex 15)) :: (.ref (ex 16)) :: (.ref (ex 17)) :: (.int 0) :: (.int 0) :: (.int 0) :: (.int 0) :: (.int 0) :: (.int 0) :: (.long 0) :: (.int 0) :: (.int 0) :: (.int 0) :: (.ref (ex 18)) :: (.ref (ex 19)) :: (.int 0) :: (.ref (ex 20)) :: (.int (-1)) :: (.int 0) :: (.int 0) :: (.int 0) :: (.int 0) :: (.int 0) :: (.int 0) :: (.ref (ex 21)) :: (.int 0) :: (.ref (ex 22)) :: (.int 0) :: (.int 0) :: (.int 0) :: (.int 0) :: (.int 0) :: (.ref (ex 23)) :: (.ref (ex 24)) :: (.ref (ex 25)) :: (.ref (ex 26)) :: []))), ((a 3), .inl (T 1, 2187, .inl (fun _ => 0)))] H := hP
  replace hD : va_D A [((a 1), .inr (12, ((.int 0) :: (.ref (ex 13)) :: (.int 0) :: (.int 0) :: (.int 0) :: (.int 0) :: (.ref (a 3)) :: (.ref (ex 14)) :: (.ref (ex 15)) :: (.ref (ex 16)) :: (.ref (ex 17)) :: (.int 0) :: (.int 0) :: (.int 0) :: (.int 0) :: (.int 0) :: (.int 0) :: (.long 0) :: (.int 0) :: (.int 0) :: (.int 0) :: (.ref (ex 18)) :: (.ref (ex 19)) :: (.int 0) :: (.ref (ex 20)) :: (.int (-1)) :: (.int 0) :: (.int 0) :: (.int 0) :: (.int 0) :: (.int 0) :: (.int 0) :: (.ref (ex 21)) :: (.int 0) :: (.ref (ex 22)) :: (.int 0) :: (.int 0) :: (.int 0) :: (.int 0) :: (.int 0) :: (.ref (ex 23)) :: (.ref (ex 24)) :: (.ref (ex 25)) :: (.ref (ex 26)) :: []))), ((a 3), .inl (T 1, 2187, .inl (fun _ => 0)))] := hD
  refine lv_aload_n hx hb dL_law_677 rfl (lv_at hl 2 rfl) ?_
  refine lv_aload_n hx hb dL_law_678 rfl (lv_at hl 4 rfl) ?_
  refine lv_iload hx hb dL_law_679 (lv_at hl 0 rfl) ?_
  refine lv_iconst (v := 1) hx hb dL_law_681 (by decide) ?_
  refine lv_iadd hx hb dL_law_682 ?_
  refine xz_i 1 (by decide) ?_
  refine va_sld hx hb hX hbl hbA hS (vp_in_nI (n := 1) (by decide) (by decide)) dL_law_683 ?_
  refine xz_i x1 hx1 ?_
  have hPc := hP.sub (ws' := (pre_X12_flee T (xa [(a 1), (a 3)]) (xa [(ex 13), (ex 14), (ex 15), (ex 16), (ex 17), (ex 18), (ex 19), (ex 20), (ex 21), (ex 22), (ex 23), (ex 24), (ex 25), (ex 26)]) (xf []) (xh []) (xv [x1]))) [0, 1] rfl
  have hDc := hD.sub (ws' := (pre_X12_flee T (xa [(a 1), (a 3)]) (xa [(ex 13), (ex 14), (ex 15), (ex 16), (ex 17), (ex 18), (ex 19), (ex 20), (ex 21), (ex 22), (ex 23), (ex 24), (ex 25), (ex 26)]) (xf []) (xh []) (xv [x1]))) [0, 1] (by decide) rfl
  have hFc := va_free (wc := (pre_X12_flee T (xa [(a 1), (a 3)]) (xa [(ex 13), (ex 14), (ex 15), (ex 16), (ex 17), (ex 18), (ex 19), (ex 20), (ex 21), (ex 22), (ex 23), (ex 24), (ex 25), (ex 26)]) (xf []) (xh []) (xv [x1]))) hD hS hA [0, 1] rfl
  refine va_calli (va_runV (As := [.int x1]) (rest := [.int (-1)]) ⟨hx, hb, hml, hown, htg⟩ (c_X12_flee l D T (xa [(a 1), (a 3)]) (xa [(ex 13), (ex 14), (ex 15), (ex 16), (ex 17), (ex 18), (ex 19), (ex 20), (ex 21), (ex 22), (ex 23), (ex 24), (ex 25), (ex 26)]) (xf []) (xh []) (xv [x1]) H.size) ⟨callB_of 1 htg (xg_ok kw_1748) rfl rfl rfl (htg _ kw_17) (htg _ kw_1745) (by decide +kernel) ⟨by rw [hR]; exact Nat.le_of_ble_eq_true rfl, by rw [hR]; exact Nat.le_of_ble_eq_true rfl⟩, htg _ kw_1746, htg _ kw_1747⟩ (xpreV hK hPc hDc (va_recv hK.1 hPc (ci := 12) (q0 := 0) rfl rfl)) rfl rfl hl.1 rfl (lv_room (Nat.le_of_ble_eq_true rfl)) dL_law_684 ⟨by rw [hR]; exact Nat.le_of_ble_eq_true rfl, by rw [hR]; exact Nat.le_of_ble_eq_true rfl⟩) hS (fun q _ h => hFc q h) hFc (fun r9 u t H1 locs ht hvm hw hB hz1 hk1 hS => ?_)
  obtain ⟨bk_1, fik_1, flk_1, vik_1, hP1, hD1, hGk_1⟩ := hB
  rw [ht] at hP1
  obtain ⟨hP, hD⟩ := va_join (wr := []) (w1 := []) hP hD [0, 1] [] rfl rfl (by decide) (by decide) hk1 hFc hP1 hD1
  subst hw
  clear hPc hDc hFc hP1 hD1 hk1 hz1 hvm ht
  generalize H1 = H at hP hS ⊢
  replace hP : va_P D vwCl [] H := hP
  replace hD : va_D A [] := hD
  refine lv_icmp_eq (tgt := 1466) hx hb dL_law_687 (by decide) (fun _ => ?_) (fun c => absurd (by decide) c)
  refine lv_iinc (v := 6) (lv' := [(4, .int 6), (3, .ref (ex 37)), (2, .ref (a 1)), (1, .ref (a 0)), (0, .ref b)]) hx hb dL_law_1466 hl (k := 0) rfl (by decide) (by decide) rfl (fun ls hl => ?_)
  refine lv_goto (tgt := 23) hx hb dL_law_1469 (by decide) ?_
  refine lv_iload hx hb dL_law_23 (lv_at hl 0 rfl) ?_
  refine lv_aload_n hx hb dL_law_25 rfl (lv_at hl 4 rfl) ?_
  refine va_slen hx hb hX hbl hbA hS dL_law_26 ?_
  refine xz_i 6 rfl ?_
  refine lv_bipush (v := 6) hx hb dL_law_27 (by decide) ?_
  refine lv_isub hx hb dL_law_29 ?_
  refine xz_i 0 (by decide) ?_
  refine lv_icmp_gt (tgt := 1472) hx hb dL_law_30 (by decide) (fun _ => ?_) (fun c => absurd (by decide) c)
  refine lv_iconst (v := 1) hx hb dL_law_1472 (by decide) ?_
  refine va_forget (fun q hq => by have h9 := hS.2.2 q hq; rw [hAe] at h9; exact h9) ?_
  refine W.widen (k := 600002) (n := 7302232) (Nat.le_of_ble_eq_true rfl) (Nat.le_of_ble_eq_true rfl) ?_
  subst hR
  rw [hQ]
  exact lw_ret hx hb hr hlocks dL_law_1473
set_option maxHeartbeats 4000000 in
set_option maxRecDepth 100000 in
theorem lw_pay {p : Program} {e : Env} {s : State} {m : MethodId} {below : List Frame} {meth : Method} {c : Code} (l : Launch) (hlt : l.stackTraces = false) {b : Nat} {xs : Nat → Int32} (D : va_G) (T : Nat → ClassId) (a ex : Nat → Nat) (fi : Nat → Nat → Int32) (fl : Nat → Nat → Int64) (vi : Nat → Int32) (kK kV : Nat → Nat) (R : Room) (Q : State → Prop) (A : Nat → Prop) (hR : R = room_1) (hQ : Q = lw_Z below #[Value.ref b] s) (hAe : A = fun q => s.heap.size ≤ q) (hx : p.tables.exec = Jvm.exec) (hb : c.code = code) (hr : meth.sig.returnType = ret) (hml : c.maxLocals = 7) (hown : s.vm.findClass RL = some m.cls) (htg : ∀ w ∈ xg, w.before #[Value.ref b] s = true) (hbl : b < s.heap.size) (hbA : ¬ A b) (hlocks : meth.locks = false) (hK : xK D T s) (hA : ∀ q : Nat, s.heap.size ≤ q → A q) (hT : xT kK kV A s s.heap) (hZt : xZ2 A s s.heap) (hX : va_X b 6 xs s s.heap) (x1 x2 x3 x4 x5 : Int32) (hx1 : xs 1 = x1) (hx2 : xs 2 = x2) (hx3 : xs 3 = x3) (hx4 : xs 4 = x4) (hx5 : xs 5 = x5) (H : Heap) (locs : List Loc) (ls : Array Slot) (hP : va_P D vwCl [((a 0), .inr (11, [.ref (ex 0), .ref (a 2), .ref (ex 1), .ref (ex 2), .ref (ex 3), .ref (ex 4), .ref (ex 5), .ref (ex 6), .ref (ex 7), .ref (ex 8), .ref (ex 9), .ref (ex 10), .ref (ex 11), .ref (ex 12), .int 0])), ((a 1), .inr (12, ((.int 0) :: (.ref (ex 13)) :: (.int 0) :: (.int 0) :: (.int 0) :: (.int 0) :: (.ref (a 3)) :: (.ref (ex 14)) :: (.ref (ex 15)) :: (.ref (ex 16)) :: (.ref (ex 17)) :: (.int 0) :: (.int 0) :: (.int 0) :: (.int 0) :: (.int 0) :: (.int 0) :: (.long 0) :: (.int 0) :: (.int 0) :: (.int 0) :: (.ref (ex 18)) :: (.ref (ex 19)) :: (.int 0) :: (.ref (ex 20)) :: (.int (-1)) :: (.int 0) :: (.int 0) :: (.int 0) :: (.int 0) :: (.int 0) :: (.int 0) :: (.ref (ex 21)) :: (.int 0) :: (.ref (ex 22)) :: (.int 0) :: (.int 0) :: (.int 0) :: (.int 0) :: (.int 0) :: (.ref (ex 23)) :: (.ref (ex 24)) :: (.ref (ex 25)) :: (.ref (ex 26)) :: []))), ((a 2), .inr (7, [.int 0, .int 0, .ref (ex 27), .ref (ex 28), .ref (ex 29), .ref (ex 30), .ref (ex 31), .ref (ex 32), .ref (ex 33), .ref (ex 34), .ref (ex 35), .ref (ex 36)])), ((a 3), .inl (T 1, 2187, .inl (fun _ => 0)))] H) (hD : va_D A [((a 0), .inr (11, [.ref (ex 0), .ref (a 2), .ref (ex 1), .ref (ex 2), .ref (ex 3), .ref (ex 4), .ref (ex 5), .ref (ex 6), .ref (ex 7), .ref (ex 8), .ref (ex 9), .ref (ex 10), .ref (ex 11), .ref (ex 12), .int 0])), ((a 1), .inr (12, ((.int 0) :: (.ref (ex 13)) :: (.int 0) :: (.int 0) :: (.int 0) :: (.int 0) :: (.ref (a 3)) :: (.ref (ex 14)) :: (.ref (ex 15)) :: (.ref (ex 16)) :: (.ref (ex 17)) :: (.int 0) :: (.int 0) :: (.int 0) :: (.int 0) :: (.int 0) :: (.int 0) :: (.long 0) :: (.int 0) :: (.int 0) :: (.int 0) :: (.ref (ex 18)) :: (.ref (ex 19)) :: (.int 0) :: (.ref (ex 20)) :: (.int (-1)) :: (.int 0) :: (.int 0) :: (.int 0) :: (.int 0) :: (.int 0) :: (.int 0) :: (.ref (ex 21)) :: (.int 0) :: (.ref (ex 22)) :: (.int 0) :: (.int 0) :: (.int 0) :: (.int 0) :: (.int 0) :: (.ref (ex 23)) :: (.ref (ex 24)) :: (.ref (ex 25)) :: (.ref (ex 26)) :: []))), ((a 2), .inr (7, [.int 0, .int 0, .ref (ex 27), .ref (ex 28), .ref (ex 29), .ref (ex 30), .ref (ex 31), .ref (ex 32), .ref (ex 33), .ref (ex 34), .ref (ex 35), .ref (ex 36)])), ((a 3), .inl (T 1, 2187, .inl (fun _ => 0)))]) (hS : va_S A s.heap H locs) (hl : lv_has ls 7 [(4, .int 0), (3, .ref (ex 37)), (2, .ref (a 1)), (1, .ref (a 0)), (0, .ref b)]) : W p l e R s m #[Value.ref b] below meth c H locs 172 22099 Q (F0 m 692 ls []) := by
  refine lv_aload_n hx hb dL_law_692 rfl (lv_at hl 3 rfl) ?_
  refine lv_aload_n hx hb dL_law_693 rfl (lv_at hl 4 rfl) ?_
  refine lv_iload hx hb dL_law_694 (lv_at hl 0 rfl) ?_
  refine lv_iconst (v := 1) hx hb dL_law_696 (by decide) ?_
  refine lv_iadd hx hb dL_law_697 ?_
  refine xz_i 1 (by decide) ?_
  refine va_sld hx hb hX hbl hbA hS (vp_in_nI (n := 1) (by decide) (by decide)) dL_law_698 ?_
  refine xz_i x1 hx1 ?_
  refine lv_aload_n hx hb dL_law_699 rfl (lv_at hl 4 rfl) ?_
  refine lv_iload hx hb dL_law_700 (lv_at hl 0 rfl) ?_
  refine lv_iconst (v := 2) hx hb dL_law_702 (by decide) ?_
  refine lv_iadd hx hb dL_law_703 ?_
  refine xz_i 2 (by decide) ?_
  refine va_sld hx hb hX hbl hbA hS (vp_in_nI (n := 2) (by decide) (by decide)) dL_law_704 ?_
  refine xz_i x2 hx2 ?_
  have hPc := hP.sub (ws' := (pre_X11_pay T (xa [(a 0), (a 2)]) (xa [(ex 0), (ex 1), (ex 2), (ex 3), (ex 4), (ex 5), (ex 6), (ex 7), (ex 8), (ex 9), (ex 10), (ex 11), (ex 12), (ex 27), (ex 28), (ex 29), (ex 30), (ex 31), (ex 32), (ex 33), (ex 34), (ex 35), (ex 36)]) (xf []) (xh []) (xv [x1, x2]))) [0, 2] rfl
  have hDc := hD.sub (ws' := (pre_X11_pay T (xa [(a 0), (a 2)]) (xa [(ex 0), (ex 1), (ex 2), (ex 3), (ex 4), (ex 5), (ex 6), (ex 7), (ex 8), (ex 9), (ex 10), (ex 11), (ex 12), (ex 27), (ex 28), (ex 29), (ex 30), (ex 31), (ex 32), (ex 33), (ex 34), (ex 35), (ex 36)]) (xf []) (xh []) (xv [x1, x2]))) [0, 2] (by decide) rfl
  have hFc := va_free (wc := (pre_X11_pay T (xa [(a 0), (a 2)]) (xa [(ex 0), (ex 1), (ex 2), (ex 3), (ex 4), (ex 5), (ex 6), (ex 7), (ex 8), (ex 9), (ex 10), (ex 11), (ex 12), (ex 27), (ex 28), (ex 29), (ex 30), (ex 31), (ex 32), (ex 33), (ex 34), (ex 35), (ex 36)]) (xf []) (xh []) (xv [x1, x2]))) hD hS hA [0, 2] rfl
  refine va_calli (va_runV (As := [.int x1, .int x2]) (rest := []) ⟨hx, hb, hml, hown, htg⟩ (c_X11_pay l D T (xa [(a 0), (a 2)]) (xa [(ex 0), (ex 1), (ex 2), (ex 3), (ex 4), (ex 5), (ex 6), (ex 7), (ex 8), (ex 9), (ex 10), (ex 11), (ex 12), (ex 27), (ex 28), (ex 29), (ex 30), (ex 31), (ex 32), (ex 33), (ex 34), (ex 35), (ex 36)]) (xf []) (xh []) (xv [x1, x2]) H.size) ⟨callB_of 2 htg (xg_ok kw_914) rfl rfl rfl (htg _ kw_1) (htg _ kw_911) (by decide +kernel) ⟨by rw [hR]; exact Nat.le_of_ble_eq_true rfl, by rw [hR]; exact Nat.le_of_ble_eq_true rfl⟩, htg _ kw_912, htg _ kw_913⟩ (xpreV hK hPc hDc (va_recv hK.1 hPc (ci := 11) (q0 := 0) rfl rfl)) rfl rfl hl.1 rfl (lv_room (Nat.le_of_ble_eq_true rfl)) dL_law_705 ⟨by rw [hR]; exact Nat.le_of_ble_eq_true rfl, by rw [hR]; exact Nat.le_of_ble_eq_true rfl⟩) hS (fun q _ h => hFc q h) hFc (fun r9 u t H1 locs ht hvm hw hB hz1 hk1 hS => ?_)
  obtain ⟨bk, fik, flk, vik, hP1, hD1, hGk⟩ := hB
  rw [ht] at hP1
  obtain ⟨hP, hD⟩ := va_join (wr := [((a 1), .inr (12, ((.int 0) :: (.ref (ex 13)) :: (.int 0) :: (.int 0) :: (.int 0) :: (.int 0) :: (.ref (a 3)) :: (.ref (ex 14)) :: (.ref (ex 15)) :: (.ref (ex 16)) :: (.ref (ex 17)) :: (.int 0) :: (.int 0) :: (.int 0) :: (.int 0) :: (.int 0) :: (.int 0) :: (.long 0) :: (.int 0) :: (.int 0) :: (.int 0) :: (.ref (ex 18)) :: (.ref (ex 19)) :: (.int 0) :: (.ref (ex 20)) :: (.int (-1)) :: (.int 0) :: (.int 0) :: (.int 0) :: (.int 0) :: (.int 0) :: (.int 0) :: (.ref (ex 21)) :: (.int 0) :: (.ref (ex 22)) :: (.int 0) :: (.int 0) :: (.int 0) :: (.int 0) :: (.int 0) :: (.ref (ex 23)) :: (.ref (ex 24)) :: (.ref (ex 25)) :: (.ref (ex 26)) :: []))), ((a 3), .inl (T 1, 2187, .inl (fun _ => 0)))]) (w1 := []) hP hD [0, 2] [1, 3] rfl rfl (by decide) (by decide) hk1 hFc hP1 hD1
  subst hw
  clear hPc hDc hFc hP1 hD1 hk1 hz1 hvm ht
  generalize H1 = H at hP hS ⊢
  replace hP : va_P D vwCl [((a 1), .inr (12, ((.int 0) :: (.ref (ex 13)) :: (.int 0) :: (.int 0) :: (.int 0) :: (.int 0) :: (.ref (a 3)) :: (.ref (ex 14)) :: (.ref (ex 15)) :: (.ref (ex 16)) :: (.ref (ex 17)) :: (.int 0) :: (.int 0) :: (.int 0) :: (.int 0) :: (.int 0) :: (.int 0) :: (.long 0) :: (.int 0) :: (.int 0) :: (.int 0) :: (.ref (ex 18)) :: (.ref (ex 19)) :: (.int 0) :: (.ref (ex 20)) :: (.int (-1)) :: (.int 0) :: (.int 0) :: (.int 0) :: (.int 0) :: (.int 0) :: (.int 0) :: (.ref (ex 21)) :: (.int 0) :: (.ref (ex 22)) :: (.int 0) :: (.int 0) :: (.int 0) :: (.int 0) :: (.int 0) :: (.ref (ex 23)) :: (.ref (ex 24)) :: (.ref (ex 25)) :: (.ref (ex 26)) :: []))), ((a 3), .inl (T 1, 2187, .inl (fun _ => 0)))] H := hP
  replace hD : va_D A [((a 1), .inr (12, ((.int 0) :: (.ref (ex 13)) :: (.int 0) :: (.int 0) :: (.int 0) :: (.int 0) :: (.ref (a 3)) :: (.ref (ex 14)) :: (.ref (ex 15)) :: (.ref (ex 16)) :: (.ref (ex 17)) :: (.int 0) :: (.int 0) :: (.int 0) :: (.int 0) :: (.int 0) :: (.int 0) :: (.long 0) :: (.int 0) :: (.int 0) :: (.int 0) :: (.ref (ex 18)) :: (.ref (ex 19)) :: (.int 0) :: (.ref (ex 20)) :: (.int (-1)) :: (.int 0) :: (.int 0) :: (.int 0) :: (.int 0) :: (.int 0) :: (.int 0) :: (.ref (ex 21)) :: (.int 0) :: (.ref (ex 22)) :: (.int 0) :: (.int 0) :: (.int 0) :: (.int 0) :: (.int 0) :: (.ref (ex 23)) :: (.ref (ex 24)) :: (.ref (ex 25)) :: (.ref (ex 26)) :: []))), ((a 3), .inl (T 1, 2187, .inl (fun _ => 0)))] := hD
  refine lv_aload_n hx hb dL_law_708 rfl (lv_at hl 2 rfl) ?_
  refine lv_aload_n hx hb dL_law_709 rfl (lv_at hl 4 rfl) ?_
  refine lv_iload hx hb dL_law_710 (lv_at hl 0 rfl) ?_
  refine lv_iconst (v := 1) hx hb dL_law_712 (by decide) ?_
  refine lv_iadd hx hb dL_law_713 ?_
  refine xz_i 1 (by decide) ?_
  refine va_sld hx hb hX hbl hbA hS (vp_in_nI (n := 1) (by decide) (by decide)) dL_law_714 ?_
  refine xz_i x1 hx1 ?_
  refine lv_aload_n hx hb dL_law_715 rfl (lv_at hl 4 rfl) ?_
  refine lv_iload hx hb dL_law_716 (lv_at hl 0 rfl) ?_
  refine lv_iconst (v := 2) hx hb dL_law_718 (by decide) ?_
  refine lv_iadd hx hb dL_law_719 ?_
  refine xz_i 2 (by decide) ?_
  refine va_sld hx hb hX hbl hbA hS (vp_in_nI (n := 2) (by decide) (by decide)) dL_law_720 ?_
  refine xz_i x2 hx2 ?_
  have hPc := hP.sub (ws' := (pre_X12_pay T (xa [(a 1), (a 3)]) (xa [(ex 13), (ex 14), (ex 15), (ex 16), (ex 17), (ex 18), (ex 19), (ex 20), (ex 21), (ex 22), (ex 23), (ex 24), (ex 25), (ex 26)]) (xf []) (xh []) (xv [x1, x2]))) [0, 1] rfl
  have hDc := hD.sub (ws' := (pre_X12_pay T (xa [(a 1), (a 3)]) (xa [(ex 13), (ex 14), (ex 15), (ex 16), (ex 17), (ex 18), (ex 19), (ex 20), (ex 21), (ex 22), (ex 23), (ex 24), (ex 25), (ex 26)]) (xf []) (xh []) (xv [x1, x2]))) [0, 1] (by decide) rfl
  have hFc := va_free (wc := (pre_X12_pay T (xa [(a 1), (a 3)]) (xa [(ex 13), (ex 14), (ex 15), (ex 16), (ex 17), (ex 18), (ex 19), (ex 20), (ex 21), (ex 22), (ex 23), (ex 24), (ex 25), (ex 26)]) (xf []) (xh []) (xv [x1, x2]))) hD hS hA [0, 1] rfl
  refine va_calli (va_runV (As := [.int x1, .int x2]) (rest := [.int (-1)]) ⟨hx, hb, hml, hown, htg⟩ (c_X12_pay l D T (xa [(a 1), (a 3)]) (xa [(ex 13), (ex 14), (ex 15), (ex 16), (ex 17), (ex 18), (ex 19), (ex 20), (ex 21), (ex 22), (ex 23), (ex 24), (ex 25), (ex 26)]) (xf []) (xh []) (xv [x1, x2]) H.size) ⟨callB_of 2 htg (xg_ok kw_1760) rfl rfl rfl (htg _ kw_17) (htg _ kw_1757) (by decide +kernel) ⟨by rw [hR]; exact Nat.le_of_ble_eq_true rfl, by rw [hR]; exact Nat.le_of_ble_eq_true rfl⟩, htg _ kw_1758, htg _ kw_1759⟩ (xpreV hK hPc hDc (va_recv hK.1 hPc (ci := 12) (q0 := 0) rfl rfl)) rfl rfl hl.1 rfl (lv_room (Nat.le_of_ble_eq_true rfl)) dL_law_721 ⟨by rw [hR]; exact Nat.le_of_ble_eq_true rfl, by rw [hR]; exact Nat.le_of_ble_eq_true rfl⟩) hS (fun q _ h => hFc q h) hFc (fun r9 u t H1 locs ht hvm hw hB hz1 hk1 hS => ?_)
  obtain ⟨bk_1, fik_1, flk_1, vik_1, hP1, hD1, hGk_1⟩ := hB
  rw [ht] at hP1
  obtain ⟨hP, hD⟩ := va_join (wr := []) (w1 := []) hP hD [0, 1] [] rfl rfl (by decide) (by decide) hk1 hFc hP1 hD1
  subst hw
  clear hPc hDc hFc hP1 hD1 hk1 hz1 hvm ht
  generalize H1 = H at hP hS ⊢
  replace hP : va_P D vwCl [] H := hP
  replace hD : va_D A [] := hD
  refine lv_icmp_eq (tgt := 1466) hx hb dL_law_724 (by decide) (fun _ => ?_) (fun c => absurd (by decide) c)
  refine lv_iinc (v := 6) (lv' := [(4, .int 6), (3, .ref (ex 37)), (2, .ref (a 1)), (1, .ref (a 0)), (0, .ref b)]) hx hb dL_law_1466 hl (k := 0) rfl (by decide) (by decide) rfl (fun ls hl => ?_)
  refine lv_goto (tgt := 23) hx hb dL_law_1469 (by decide) ?_
  refine lv_iload hx hb dL_law_23 (lv_at hl 0 rfl) ?_
  refine lv_aload_n hx hb dL_law_25 rfl (lv_at hl 4 rfl) ?_
  refine va_slen hx hb hX hbl hbA hS dL_law_26 ?_
  refine xz_i 6 rfl ?_
  refine lv_bipush (v := 6) hx hb dL_law_27 (by decide) ?_
  refine lv_isub hx hb dL_law_29 ?_
  refine xz_i 0 (by decide) ?_
  refine lv_icmp_gt (tgt := 1472) hx hb dL_law_30 (by decide) (fun _ => ?_) (fun c => absurd (by decide) c)
  refine lv_iconst (v := 1) hx hb dL_law_1472 (by decide) ?_
  refine va_forget (fun q hq => by have h9 := hS.2.2 q hq; rw [hAe] at h9; exact h9) ?_
  refine W.widen (k := 600002) (n := 7302232) (Nat.le_of_ble_eq_true rfl) (Nat.le_of_ble_eq_true rfl) ?_
  subst hR
  rw [hQ]
  exact lw_ret hx hb hr hlocks dL_law_1473
set_option maxHeartbeats 4000000 in
set_option maxRecDepth 100000 in
theorem lw_lot {p : Program} {e : Env} {s : State} {m : MethodId} {below : List Frame} {meth : Method} {c : Code} (l : Launch) (hlt : l.stackTraces = false) {b : Nat} {xs : Nat → Int32} (D : va_G) (T : Nat → ClassId) (a ex : Nat → Nat) (fi : Nat → Nat → Int32) (fl : Nat → Nat → Int64) (vi : Nat → Int32) (kK kV : Nat → Nat) (R : Room) (Q : State → Prop) (A : Nat → Prop) (hR : R = room_1) (hQ : Q = lw_Z below #[Value.ref b] s) (hAe : A = fun q => s.heap.size ≤ q) (hx : p.tables.exec = Jvm.exec) (hb : c.code = code) (hr : meth.sig.returnType = ret) (hml : c.maxLocals = 7) (hown : s.vm.findClass RL = some m.cls) (htg : ∀ w ∈ xg, w.before #[Value.ref b] s = true) (hbl : b < s.heap.size) (hbA : ¬ A b) (hlocks : meth.locks = false) (hK : xK D T s) (hA : ∀ q : Nat, s.heap.size ≤ q → A q) (hT : xT kK kV A s s.heap) (hZt : xZ2 A s s.heap) (hX : va_X b 6 xs s s.heap) (x1 x2 x3 x4 x5 : Int32) (hx1 : xs 1 = x1) (hx2 : xs 2 = x2) (hx3 : xs 3 = x3) (hx4 : xs 4 = x4) (hx5 : xs 5 = x5) (H : Heap) (locs : List Loc) (ls : Array Slot) (hP : va_P D vwCl [((a 0), .inr (11, [.ref (ex 0), .ref (a 2), .ref (ex 1), .ref (ex 2), .ref (ex 3), .ref (ex 4), .ref (ex 5), .ref (ex 6), .ref (ex 7), .ref (ex 8), .ref (ex 9), .ref (ex 10), .ref (ex 11), .ref (ex 12), .int 0])), ((a 1), .inr (12, ((.int 0) :: (.ref (ex 13)) :: (.int 0) :: (.int 0) :: (.int 0) :: (.int 0) :: (.ref (a 3)) :: (.ref (ex 14)) :: (.ref (ex 15)) :: (.ref (ex 16)) :: (.ref (ex 17)) :: (.int 0) :: (.int 0) :: (.int 0) :: (.int 0) :: (.int 0) :: (.int 0) :: (.long 0) :: (.int 0) :: (.int 0) :: (.int 0) :: (.ref (ex 18)) :: (.ref (ex 19)) :: (.int 0) :: (.ref (ex 20)) :: (.int (-1)) :: (.int 0) :: (.int 0) :: (.int 0) :: (.int 0) :: (.int 0) :: (.int 0) :: (.ref (ex 21)) :: (.int 0) :: (.ref (ex 22)) :: (.int 0) :: (.int 0) :: (.int 0) :: (.int 0) :: (.int 0) :: (.ref (ex 23)) :: (.ref (ex 24)) :: (.ref (ex 25)) :: (.ref (ex 26)) :: []))), ((a 2), .inr (7, [.int 0, .int 0, .ref (ex 27), .ref (ex 28), .ref (ex 29), .ref (ex 30), .ref (ex 31), .ref (ex 32), .ref (ex 33), .ref (ex 34), .ref (ex 35), .ref (ex 36)])), ((a 3), .inl (T 1, 2187, .inl (fun _ => 0)))] H) (hD : va_D A [((a 0), .inr (11, [.ref (ex 0), .ref (a 2), .ref (ex 1), .ref (ex 2), .ref (ex 3), .ref (ex 4), .ref (ex 5), .ref (ex 6), .ref (ex 7), .ref (ex 8), .ref (ex 9), .ref (ex 10), .ref (ex 11), .ref (ex 12), .int 0])), ((a 1), .inr (12, ((.int 0) :: (.ref (ex 13)) :: (.int 0) :: (.int 0) :: (.int 0) :: (.int 0) :: (.ref (a 3)) :: (.ref (ex 14)) :: (.ref (ex 15)) :: (.ref (ex 16)) :: (.ref (ex 17)) :: (.int 0) :: (.int 0) :: (.int 0) :: (.int 0) :: (.int 0) :: (.int 0) :: (.long 0) :: (.int 0) :: (.int 0) :: (.int 0) :: (.ref (ex 18)) :: (.ref (ex 19)) :: (.int 0) :: (.ref (ex 20)) :: (.int (-1)) :: (.int 0) :: (.int 0) :: (.int 0) :: (.int 0) :: (.int 0) :: (.int 0) :: (.ref (ex 21)) :: (.int 0) :: (.ref (ex 22)) :: (.int 0) :: (.int 0) :: (.int 0) :: (.int 0) :: (.int 0) :: (.ref (ex 23)) :: (.ref (ex 24)) :: (.ref (ex 25)) :: (.ref (ex 26)) :: []))), ((a 2), .inr (7, [.int 0, .int 0, .ref (ex 27), .ref (ex 28), .ref (ex 29), .ref (ex 30), .ref (ex 31), .ref (ex 32), .ref (ex 33), .ref (ex 34), .ref (ex 35), .ref (ex 36)])), ((a 3), .inl (T 1, 2187, .inl (fun _ => 0)))]) (hS : va_S A s.heap H locs) (hl : lv_has ls 7 [(4, .int 0), (3, .ref (ex 37)), (2, .ref (a 1)), (1, .ref (a 0)), (0, .ref b)]) : W p l e R s m #[Value.ref b] below meth c H locs 172 22099 Q (F0 m 729 ls []) := by
  refine lv_aload_n hx hb dL_law_729 rfl (lv_at hl 3 rfl) ?_
  refine lv_aload_n hx hb dL_law_730 rfl (lv_at hl 4 rfl) ?_
  refine lv_iload hx hb dL_law_731 (lv_at hl 0 rfl) ?_
  refine lv_iconst (v := 1) hx hb dL_law_733 (by decide) ?_
  refine lv_iadd hx hb dL_law_734 ?_
  refine xz_i 1 (by decide) ?_
  refine va_sld hx hb hX hbl hbA hS (vp_in_nI (n := 1) (by decide) (by decide)) dL_law_735 ?_
  refine xz_i x1 hx1 ?_
  refine lv_aload_n hx hb dL_law_736 rfl (lv_at hl 4 rfl) ?_
  refine lv_iload hx hb dL_law_737 (lv_at hl 0 rfl) ?_
  refine lv_iconst (v := 2) hx hb dL_law_739 (by decide) ?_
  refine lv_iadd hx hb dL_law_740 ?_
  refine xz_i 2 (by decide) ?_
  refine va_sld hx hb hX hbl hbA hS (vp_in_nI (n := 2) (by decide) (by decide)) dL_law_741 ?_
  refine xz_i x2 hx2 ?_
  have hPc := hP.sub (ws' := (pre_X11_lot T (xa [(a 0), (a 2)]) (xa [(ex 0), (ex 1), (ex 2), (ex 3), (ex 4), (ex 5), (ex 6), (ex 7), (ex 8), (ex 9), (ex 10), (ex 11), (ex 12), (ex 27), (ex 28), (ex 29), (ex 30), (ex 31), (ex 32), (ex 33), (ex 34), (ex 35), (ex 36)]) (xf []) (xh []) (xv [x1, x2]))) [0, 2] rfl
  have hDc := hD.sub (ws' := (pre_X11_lot T (xa [(a 0), (a 2)]) (xa [(ex 0), (ex 1), (ex 2), (ex 3), (ex 4), (ex 5), (ex 6), (ex 7), (ex 8), (ex 9), (ex 10), (ex 11), (ex 12), (ex 27), (ex 28), (ex 29), (ex 30), (ex 31), (ex 32), (ex 33), (ex 34), (ex 35), (ex 36)]) (xf []) (xh []) (xv [x1, x2]))) [0, 2] (by decide) rfl
  have hFc := va_free (wc := (pre_X11_lot T (xa [(a 0), (a 2)]) (xa [(ex 0), (ex 1), (ex 2), (ex 3), (ex 4), (ex 5), (ex 6), (ex 7), (ex 8), (ex 9), (ex 10), (ex 11), (ex 12), (ex 27), (ex 28), (ex 29), (ex 30), (ex 31), (ex 32), (ex 33), (ex 34), (ex 35), (ex 36)]) (xf []) (xh []) (xv [x1, x2]))) hD hS hA [0, 2] rfl
  refine va_calli (va_runV (As := [.int x1, .int x2]) (rest := []) ⟨hx, hb, hml, hown, htg⟩ (c_X11_lot l D T (xa [(a 0), (a 2)]) (xa [(ex 0), (ex 1), (ex 2), (ex 3), (ex 4), (ex 5), (ex 6), (ex 7), (ex 8), (ex 9), (ex 10), (ex 11), (ex 12), (ex 27), (ex 28), (ex 29), (ex 30), (ex 31), (ex 32), (ex 33), (ex 34), (ex 35), (ex 36)]) (xf []) (xh []) (xv [x1, x2]) H.size) ⟨callB_of 2 htg (xg_ok kw_918) rfl rfl rfl (htg _ kw_1) (htg _ kw_915) (by decide +kernel) ⟨by rw [hR]; exact Nat.le_of_ble_eq_true rfl, by rw [hR]; exact Nat.le_of_ble_eq_true rfl⟩, htg _ kw_916, htg _ kw_917⟩ (xpreV hK hPc hDc (va_recv hK.1 hPc (ci := 11) (q0 := 0) rfl rfl)) rfl rfl hl.1 rfl (lv_room (Nat.le_of_ble_eq_true rfl)) dL_law_742 ⟨by rw [hR]; exact Nat.le_of_ble_eq_true rfl, by rw [hR]; exact Nat.le_of_ble_eq_true rfl⟩) hS (fun q _ h => hFc q h) hFc (fun r9 u t H1 locs ht hvm hw hB hz1 hk1 hS => ?_)
  obtain ⟨bk, fik, flk, vik, hP1, hD1, hGk⟩ := hB
  rw [ht] at hP1
  obtain ⟨hP, hD⟩ := va_join (wr := [((a 1), .inr (12, ((.int 0) :: (.ref (ex 13)) :: (.int 0) :: (.int 0) :: (.int 0) :: (.int 0) :: (.ref (a 3)) :: (.ref (ex 14)) :: (.ref (ex 15)) :: (.ref (ex 16)) :: (.ref (ex 17)) :: (.int 0) :: (.int 0) :: (.int 0) :: (.int 0) :: (.int 0) :: (.int 0) :: (.long 0) :: (.int 0) :: (.int 0) :: (.int 0) :: (.ref (ex 18)) :: (.ref (ex 19)) :: (.int 0) :: (.ref (ex 20)) :: (.int (-1)) :: (.int 0) :: (.int 0) :: (.int 0) :: (.int 0) :: (.int 0) :: (.int 0) :: (.ref (ex 21)) :: (.int 0) :: (.ref (ex 22)) :: (.int 0) :: (.int 0) :: (.int 0) :: (.int 0) :: (.int 0) :: (.ref (ex 23)) :: (.ref (ex 24)) :: (.ref (ex 25)) :: (.ref (ex 26)) :: []))), ((a 3), .inl (T 1, 2187, .inl (fun _ => 0)))]) (w1 := []) hP hD [0, 2] [1, 3] rfl rfl (by decide) (by decide) hk1 hFc hP1 hD1
  subst hw
  clear hPc hDc hFc hP1 hD1 hk1 hz1 hvm ht
  generalize H1 = H at hP hS ⊢
  replace hP : va_P D vwCl [((a 1), .inr (12, ((.int 0) :: (.ref (ex 13)) :: (.int 0) :: (.int 0) :: (.int 0) :: (.int 0) :: (.ref (a 3)) :: (.ref (ex 14)) :: (.ref (ex 15)) :: (.ref (ex 16)) :: (.ref (ex 17)) :: (.int 0) :: (.int 0) :: (.int 0) :: (.int 0) :: (.int 0) :: (.int 0) :: (.long 0) :: (.int 0) :: (.int 0) :: (.int 0) :: (.ref (ex 18)) :: (.ref (ex 19)) :: (.int 0) :: (.ref (ex 20)) :: (.int (-1)) :: (.int 0) :: (.int 0) :: (.int 0) :: (.int 0) :: (.int 0) :: (.int 0) :: (.ref (ex 21)) :: (.int 0) :: (.ref (ex 22)) :: (.int 0) :: (.int 0) :: (.int 0) :: (.int 0) :: (.int 0) :: (.ref (ex 23)) :: (.ref (ex 24)) :: (.ref (ex 25)) :: (.ref (ex 26)) :: []))), ((a 3), .inl (T 1, 2187, .inl (fun _ => 0)))] H := hP
  replace hD : va_D A [((a 1), .inr (12, ((.int 0) :: (.ref (ex 13)) :: (.int 0) :: (.int 0) :: (.int 0) :: (.int 0) :: (.ref (a 3)) :: (.ref (ex 14)) :: (.ref (ex 15)) :: (.ref (ex 16)) :: (.ref (ex 17)) :: (.int 0) :: (.int 0) :: (.int 0) :: (.int 0) :: (.int 0) :: (.int 0) :: (.long 0) :: (.int 0) :: (.int 0) :: (.int 0) :: (.ref (ex 18)) :: (.ref (ex 19)) :: (.int 0) :: (.ref (ex 20)) :: (.int (-1)) :: (.int 0) :: (.int 0) :: (.int 0) :: (.int 0) :: (.int 0) :: (.int 0) :: (.ref (ex 21)) :: (.int 0) :: (.ref (ex 22)) :: (.int 0) :: (.int 0) :: (.int 0) :: (.int 0) :: (.int 0) :: (.ref (ex 23)) :: (.ref (ex 24)) :: (.ref (ex 25)) :: (.ref (ex 26)) :: []))), ((a 3), .inl (T 1, 2187, .inl (fun _ => 0)))] := hD
  refine lv_aload_n hx hb dL_law_745 rfl (lv_at hl 2 rfl) ?_
  refine lv_aload_n hx hb dL_law_746 rfl (lv_at hl 4 rfl) ?_
  refine lv_iload hx hb dL_law_747 (lv_at hl 0 rfl) ?_
  refine lv_iconst (v := 1) hx hb dL_law_749 (by decide) ?_
  refine lv_iadd hx hb dL_law_750 ?_
  refine xz_i 1 (by decide) ?_
  refine va_sld hx hb hX hbl hbA hS (vp_in_nI (n := 1) (by decide) (by decide)) dL_law_751 ?_
  refine xz_i x1 hx1 ?_
  refine lv_aload_n hx hb dL_law_752 rfl (lv_at hl 4 rfl) ?_
  refine lv_iload hx hb dL_law_753 (lv_at hl 0 rfl) ?_
  refine lv_iconst (v := 2) hx hb dL_law_755 (by decide) ?_
  refine lv_iadd hx hb dL_law_756 ?_
  refine xz_i 2 (by decide) ?_
  refine va_sld hx hb hX hbl hbA hS (vp_in_nI (n := 2) (by decide) (by decide)) dL_law_757 ?_
  refine xz_i x2 hx2 ?_
  have hPc := hP.sub (ws' := (pre_X12_lot T (xa [(a 1), (a 3)]) (xa [(ex 13), (ex 14), (ex 15), (ex 16), (ex 17), (ex 18), (ex 19), (ex 20), (ex 21), (ex 22), (ex 23), (ex 24), (ex 25), (ex 26)]) (xf []) (xh []) (xv [x1, x2]))) [0, 1] rfl
  have hDc := hD.sub (ws' := (pre_X12_lot T (xa [(a 1), (a 3)]) (xa [(ex 13), (ex 14), (ex 15), (ex 16), (ex 17), (ex 18), (ex 19), (ex 20), (ex 21), (ex 22), (ex 23), (ex 24), (ex 25), (ex 26)]) (xf []) (xh []) (xv [x1, x2]))) [0, 1] (by decide) rfl
  have hFc := va_free (wc := (pre_X12_lot T (xa [(a 1), (a 3)]) (xa [(ex 13), (ex 14), (ex 15), (ex 16), (ex 17), (ex 18), (ex 19), (ex 20), (ex 21), (ex 22), (ex 23), (ex 24), (ex 25), (ex 26)]) (xf []) (xh []) (xv [x1, x2]))) hD hS hA [0, 1] rfl
  refine va_calli (va_runV (As := [.int x1, .int x2]) (rest := [.int (-1)]) ⟨hx, hb, hml, hown, htg⟩ (c_X12_lot l D T (xa [(a 1), (a 3)]) (xa [(ex 13), (ex 14), (ex 15), (ex 16), (ex 17), (ex 18), (ex 19), (ex 20), (ex 21), (ex 22), (ex 23), (ex 24), (ex 25), (ex 26)]) (xf []) (xh []) (xv [x1, x2]) H.size) ⟨callB_of 2 htg (xg_ok kw_1772) rfl rfl rfl (htg _ kw_17) (htg _ kw_1769) (by decide +kernel) ⟨by rw [hR]; exact Nat.le_of_ble_eq_true rfl, by rw [hR]; exact Nat.le_of_ble_eq_true rfl⟩, htg _ kw_1770, htg _ kw_1771⟩ (xpreV hK hPc hDc (va_recv hK.1 hPc (ci := 12) (q0 := 0) rfl rfl)) rfl rfl hl.1 rfl (lv_room (Nat.le_of_ble_eq_true rfl)) dL_law_758 ⟨by rw [hR]; exact Nat.le_of_ble_eq_true rfl, by rw [hR]; exact Nat.le_of_ble_eq_true rfl⟩) hS (fun q _ h => hFc q h) hFc (fun r9 u t H1 locs ht hvm hw hB hz1 hk1 hS => ?_)
  obtain ⟨bk_1, fik_1, flk_1, vik_1, hP1, hD1, hGk_1⟩ := hB
  rw [ht] at hP1
  obtain ⟨hP, hD⟩ := va_join (wr := []) (w1 := []) hP hD [0, 1] [] rfl rfl (by decide) (by decide) hk1 hFc hP1 hD1
  subst hw
  clear hPc hDc hFc hP1 hD1 hk1 hz1 hvm ht
  generalize H1 = H at hP hS ⊢
  replace hP : va_P D vwCl [] H := hP
  replace hD : va_D A [] := hD
  refine lv_icmp_eq (tgt := 1466) hx hb dL_law_761 (by decide) (fun _ => ?_) (fun c => absurd (by decide) c)
  refine lv_iinc (v := 6) (lv' := [(4, .int 6), (3, .ref (ex 37)), (2, .ref (a 1)), (1, .ref (a 0)), (0, .ref b)]) hx hb dL_law_1466 hl (k := 0) rfl (by decide) (by decide) rfl (fun ls hl => ?_)
  refine lv_goto (tgt := 23) hx hb dL_law_1469 (by decide) ?_
  refine lv_iload hx hb dL_law_23 (lv_at hl 0 rfl) ?_
  refine lv_aload_n hx hb dL_law_25 rfl (lv_at hl 4 rfl) ?_
  refine va_slen hx hb hX hbl hbA hS dL_law_26 ?_
  refine xz_i 6 rfl ?_
  refine lv_bipush (v := 6) hx hb dL_law_27 (by decide) ?_
  refine lv_isub hx hb dL_law_29 ?_
  refine xz_i 0 (by decide) ?_
  refine lv_icmp_gt (tgt := 1472) hx hb dL_law_30 (by decide) (fun _ => ?_) (fun c => absurd (by decide) c)
  refine lv_iconst (v := 1) hx hb dL_law_1472 (by decide) ?_
  refine va_forget (fun q hq => by have h9 := hS.2.2 q hq; rw [hAe] at h9; exact h9) ?_
  refine W.widen (k := 600002) (n := 7302232) (Nat.le_of_ble_eq_true rfl) (Nat.le_of_ble_eq_true rfl) ?_
  subst hR
  rw [hQ]
  exact lw_ret hx hb hr hlocks dL_law_1473
set_option maxHeartbeats 4000000 in
set_option maxRecDepth 100000 in
theorem lw_mondays {p : Program} {e : Env} {s : State} {m : MethodId} {below : List Frame} {meth : Method} {c : Code} (l : Launch) (hlt : l.stackTraces = false) {b : Nat} {xs : Nat → Int32} (D : va_G) (T : Nat → ClassId) (a ex : Nat → Nat) (fi : Nat → Nat → Int32) (fl : Nat → Nat → Int64) (vi : Nat → Int32) (kK kV : Nat → Nat) (R : Room) (Q : State → Prop) (A : Nat → Prop) (hR : R = room_1) (hQ : Q = lw_Z below #[Value.ref b] s) (hAe : A = fun q => s.heap.size ≤ q) (hx : p.tables.exec = Jvm.exec) (hb : c.code = code) (hr : meth.sig.returnType = ret) (hml : c.maxLocals = 7) (hown : s.vm.findClass RL = some m.cls) (htg : ∀ w ∈ xg, w.before #[Value.ref b] s = true) (hbl : b < s.heap.size) (hbA : ¬ A b) (hlocks : meth.locks = false) (hK : xK D T s) (hA : ∀ q : Nat, s.heap.size ≤ q → A q) (hT : xT kK kV A s s.heap) (hZt : xZ2 A s s.heap) (hX : va_X b 6 xs s s.heap) (x1 x2 x3 x4 x5 : Int32) (hx1 : xs 1 = x1) (hx2 : xs 2 = x2) (hx3 : xs 3 = x3) (hx4 : xs 4 = x4) (hx5 : xs 5 = x5) (H : Heap) (locs : List Loc) (ls : Array Slot) (hP : va_P D vwCl (((a 0), .inr (11, [.ref (ex 0), .ref (a 22), .ref (ex 1), .ref (ex 2), .ref (a 2), .ref (ex 3), .ref (a 3), .ref (ex 4), .ref (ex 5), .ref (ex 6), .ref (ex 7), .ref (ex 8), .ref (ex 9), .ref (ex 10), .int 0])) :: ((a 1), .inr (12, ((.int 0) :: (.ref (ex 11)) :: (.int 0) :: (.int 0) :: (.int 0) :: (.int 0) :: (.ref (a 23)) :: (.ref (ex 12)) :: (.ref (ex 13)) :: (.ref (ex 14)) :: (.ref (ex 15)) :: (.int 0) :: (.int 0) :: (.int 0) :: (.int 0) :: (.int 0) :: (.int 0) :: (.long 0) :: (.int 0) :: (.int 0) :: (.int 0) :: (.ref (a 24)) :: (.ref (ex 16)) :: (.int 0) :: (.ref (ex 17)) :: (.int (-1)) :: (.int 0) :: (.int 0) :: (.int 0) :: (.int 0) :: (.int 0) :: (.int 0) :: (.ref (ex 18)) :: (.int 0) :: (.ref (ex 19)) :: (.int 0) :: (.int 0) :: (.int 0) :: (.int 0) :: (.int 0) :: (.ref (ex 20)) :: (.ref (ex 21)) :: (.ref (ex 22)) :: (.ref (ex 23)) :: []))) :: ((a 2), .inr (2, [.ref (a 22), .int 0, .int 0, .int 0, .int 0, .int 0, .int 0, .ref (a 6), .ref (a 8), .ref (a 10), .ref (a 12), .ref (a 14), .ref (a 16), .ref (a 18), .ref (a 20)])) :: ((a 3), .inr (9, [.ref (a 4), .int 0, .int 0])) :: ((a 4), .inl (T 5, 4, .inr (.inr (.inr (.inr (xo [some (a 5), some (ex 24), some (ex 25), some (ex 26)])))))) :: ((a 5), .inr (2, [.ref (a 22), .int 0, .int 0, .int 0, .int 0, .int 0, .int 0, .ref (a 7), .ref (a 9), .ref (a 11), .ref (a 13), .ref (a 15), .ref (a 17), .ref (a 19), .ref (a 21)])) :: ((a 6), .inl (T 1, 9, .inl (fun _ => 0))) :: ((a 7), .inl (T 1, 9, .inl (fun _ => 0))) :: ((a 8), .inl (T 1, 9, .inl (fun _ => 0))) :: ((a 9), .inl (T 1, 9, .inl (fun _ => 0))) :: ((a 10), .inl (T 1, 9, .inl (fun _ => 0))) :: ((a 11), .inl (T 1, 9, .inl (fun _ => 0))) :: ((a 12), .inl (T 1, 9, .inl (fun _ => 0))) :: ((a 13), .inl (T 1, 9, .inl (fun _ => 0))) :: ((a 14), .inl (T 1, 9, .inl (fun _ => 0))) :: ((a 15), .inl (T 1, 9, .inl (fun _ => 0))) :: ((a 16), .inl (T 1, 9, .inl (fun _ => 0))) :: ((a 17), .inl (T 1, 9, .inl (fun _ => 0))) :: ((a 18), .inl (T 1, 9, .inl (fun _ => 0))) :: ((a 19), .inl (T 1, 9, .inl (fun _ => 0))) :: ((a 20), .inl (T 2, 200, .inr (.inl (fun _ => 0)))) :: ((a 21), .inl (T 2, 200, .inr (.inl (fun _ => 0)))) :: ((a 22), .inr (7, [.int 0, .int 0, .ref (ex 27), .ref (ex 28), .ref (ex 29), .ref (ex 30), .ref (ex 31), .ref (ex 32), .ref (ex 33), .ref (ex 34), .ref (ex 35), .ref (ex 36)])) :: ((a 23), .inl (T 1, 2187, .inl (fun _ => 0))) :: ((a 24), .inl (T 1, 7440, .inl (fun _ => 0))) :: []) H) (hD : va_D A (((a 0), .inr (11, [.ref (ex 0), .ref (a 22), .ref (ex 1), .ref (ex 2), .ref (a 2), .ref (ex 3), .ref (a 3), .ref (ex 4), .ref (ex 5), .ref (ex 6), .ref (ex 7), .ref (ex 8), .ref (ex 9), .ref (ex 10), .int 0])) :: ((a 1), .inr (12, ((.int 0) :: (.ref (ex 11)) :: (.int 0) :: (.int 0) :: (.int 0) :: (.int 0) :: (.ref (a 23)) :: (.ref (ex 12)) :: (.ref (ex 13)) :: (.ref (ex 14)) :: (.ref (ex 15)) :: (.int 0) :: (.int 0) :: (.int 0) :: (.int 0) :: (.int 0) :: (.int 0) :: (.long 0) :: (.int 0) :: (.int 0) :: (.int 0) :: (.ref (a 24)) :: (.ref (ex 16)) :: (.int 0) :: (.ref (ex 17)) :: (.int (-1)) :: (.int 0) :: (.int 0) :: (.int 0) :: (.int 0) :: (.int 0) :: (.int 0) :: (.ref (ex 18)) :: (.int 0) :: (.ref (ex 19)) :: (.int 0) :: (.int 0) :: (.int 0) :: (.int 0) :: (.int 0) :: (.ref (ex 20)) :: (.ref (ex 21)) :: (.ref (ex 22)) :: (.ref (ex 23)) :: []))) :: ((a 2), .inr (2, [.ref (a 22), .int 0, .int 0, .int 0, .int 0, .int 0, .int 0, .ref (a 6), .ref (a 8), .ref (a 10), .ref (a 12), .ref (a 14), .ref (a 16), .ref (a 18), .ref (a 20)])) :: ((a 3), .inr (9, [.ref (a 4), .int 0, .int 0])) :: ((a 4), .inl (T 5, 4, .inr (.inr (.inr (.inr (xo [some (a 5), some (ex 24), some (ex 25), some (ex 26)])))))) :: ((a 5), .inr (2, [.ref (a 22), .int 0, .int 0, .int 0, .int 0, .int 0, .int 0, .ref (a 7), .ref (a 9), .ref (a 11), .ref (a 13), .ref (a 15), .ref (a 17), .ref (a 19), .ref (a 21)])) :: ((a 6), .inl (T 1, 9, .inl (fun _ => 0))) :: ((a 7), .inl (T 1, 9, .inl (fun _ => 0))) :: ((a 8), .inl (T 1, 9, .inl (fun _ => 0))) :: ((a 9), .inl (T 1, 9, .inl (fun _ => 0))) :: ((a 10), .inl (T 1, 9, .inl (fun _ => 0))) :: ((a 11), .inl (T 1, 9, .inl (fun _ => 0))) :: ((a 12), .inl (T 1, 9, .inl (fun _ => 0))) :: ((a 13), .inl (T 1, 9, .inl (fun _ => 0))) :: ((a 14), .inl (T 1, 9, .inl (fun _ => 0))) :: ((a 15), .inl (T 1, 9, .inl (fun _ => 0))) :: ((a 16), .inl (T 1, 9, .inl (fun _ => 0))) :: ((a 17), .inl (T 1, 9, .inl (fun _ => 0))) :: ((a 18), .inl (T 1, 9, .inl (fun _ => 0))) :: ((a 19), .inl (T 1, 9, .inl (fun _ => 0))) :: ((a 20), .inl (T 2, 200, .inr (.inl (fun _ => 0)))) :: ((a 21), .inl (T 2, 200, .inr (.inl (fun _ => 0)))) :: ((a 22), .inr (7, [.int 0, .int 0, .ref (ex 27), .ref (ex 28), .ref (ex 29), .ref (ex 30), .ref (ex 31), .ref (ex 32), .ref (ex 33), .ref (ex 34), .ref (ex 35), .ref (ex 36)])) :: ((a 23), .inl (T 1, 2187, .inl (fun _ => 0))) :: ((a 24), .inl (T 1, 7440, .inl (fun _ => 0))) :: [])) (hS : va_S A s.heap H locs) (hl : lv_has ls 7 [(4, .int 0), (3, .ref (ex 37)), (2, .ref (a 1)), (1, .ref (a 0)), (0, .ref b)]) : W p l e R s m #[Value.ref b] below meth c H locs 172 22099 Q (F0 m 766 ls []) := by
  by_cases hs : 1 ≤ x1.toInt ∧ x1.toInt ≤ 60
  · skip
    refine lv_aload_n hx hb dL_law_766 rfl (lv_at hl 3 rfl) ?_
    refine lv_aload_n hx hb dL_law_767 rfl (lv_at hl 4 rfl) ?_
    refine lv_iload hx hb dL_law_768 (lv_at hl 0 rfl) ?_
    refine lv_iconst (v := 1) hx hb dL_law_770 (by decide) ?_
    refine lv_iadd hx hb dL_law_771 ?_
    refine xz_i 1 (by decide) ?_
    refine va_sld hx hb hX hbl hbA hS (vp_in_nI (n := 1) (by decide) (by decide)) dL_law_772 ?_
    refine xz_i x1 hx1 ?_
    have hPc := hP.sub (ws' := (pre_X11_mondays T (xa [(a 0), (a 2), (a 3), (a 4), (a 5), (a 6), (a 7), (a 8), (a 9), (a 10), (a 11), (a 12), (a 13), (a 14), (a 15), (a 16), (a 17), (a 18), (a 19), (a 20), (a 21), (a 22)]) (xa [(ex 0), (ex 1), (ex 2), (ex 3), (ex 4), (ex 5), (ex 6), (ex 7), (ex 8), (ex 9), (ex 10), (ex 24), (ex 25), (ex 26), (ex 27), (ex 28), (ex 29), (ex 30), (ex 31), (ex 32), (ex 33), (ex 34), (ex 35), (ex 36)]) (xf []) (xh []) (xv [x1]))) [0, 2, 3, 4, 5, 6, 7, 8, 9, 10, 11, 12, 13, 14, 15, 16, 17, 18, 19, 20, 21, 22] rfl
    have hDc := hD.sub (ws' := (pre_X11_mondays T (xa [(a 0), (a 2), (a 3), (a 4), (a 5), (a 6), (a 7), (a 8), (a 9), (a 10), (a 11), (a 12), (a 13), (a 14), (a 15), (a 16), (a 17), (a 18), (a 19), (a 20), (a 21), (a 22)]) (xa [(ex 0), (ex 1), (ex 2), (ex 3), (ex 4), (ex 5), (ex 6), (ex 7), (ex 8), (ex 9), (ex 10), (ex 24), (ex 25), (ex 26), (ex 27), (ex 28), (ex 29), (ex 30), (ex 31), (ex 32), (ex 33), (ex 34), (ex 35), (ex 36)]) (xf []) (xh []) (xv [x1]))) [0, 2, 3, 4, 5, 6, 7, 8, 9, 10, 11, 12, 13, 14, 15, 16, 17, 18, 19, 20, 21, 22] (by decide) rfl
    have hFc := va_free (wc := (pre_X11_mondays T (xa [(a 0), (a 2), (a 3), (a 4), (a 5), (a 6), (a 7), (a 8), (a 9), (a 10), (a 11), (a 12), (a 13), (a 14), (a 15), (a 16), (a 17), (a 18), (a 19), (a 20), (a 21), (a 22)]) (xa [(ex 0), (ex 1), (ex 2), (ex 3), (ex 4), (ex 5), (ex 6), (ex 7), (ex 8), (ex 9), (ex 10), (ex 24), (ex 25), (ex 26), (ex 27), (ex 28), (ex 29), (ex 30), (ex 31), (ex 32), (ex 33), (ex 34), (ex 35), (ex 36)]) (xf []) (xh []) (xv [x1]))) hD hS hA [0, 2, 3, 4, 5, 6, 7, 8, 9, 10, 11, 12, 13, 14, 15, 16, 17, 18, 19, 20, 21, 22] rfl
    refine va_calli (va_runV (As := [.int x1]) (rest := []) ⟨hx, hb, hml, hown, htg⟩ (c_X11_mondays l D T (xa [(a 0), (a 2), (a 3), (a 4), (a 5), (a 6), (a 7), (a 8), (a 9), (a 10), (a 11), (a 12), (a 13), (a 14), (a 15), (a 16), (a 17), (a 18), (a 19), (a 20), (a 21), (a 22)]) (xa [(ex 0), (ex 1), (ex 2), (ex 3), (ex 4), (ex 5), (ex 6), (ex 7), (ex 8), (ex 9), (ex 10), (ex 24), (ex 25), (ex 26), (ex 27), (ex 28), (ex 29), (ex 30), (ex 31), (ex 32), (ex 33), (ex 34), (ex 35), (ex 36)]) (xf []) (xh []) (xv [x1]) H.size (by show (1 ≤ (x1 : Int32).toInt ∧ (x1 : Int32).toInt ≤ 60); omega)) ⟨callB_of 1 htg (xg_ok kw_931) rfl rfl rfl (htg _ kw_1) (htg _ kw_928) (by decide +kernel) ⟨by rw [hR]; exact Nat.le_of_ble_eq_true rfl, by rw [hR]; exact Nat.le_of_ble_eq_true rfl⟩, htg _ kw_929, htg _ kw_930⟩ (xpreV hK hPc hDc (va_recv hK.1 hPc (ci := 11) (q0 := 0) rfl rfl)) rfl rfl hl.1 rfl (lv_room (Nat.le_of_ble_eq_true rfl)) dL_law_773 ⟨by rw [hR]; exact Nat.le_of_ble_eq_true rfl, by rw [hR]; exact Nat.le_of_ble_eq_true rfl⟩) hS (fun q _ h => hFc q h) hFc (fun r9 u t H1 locs ht hvm hw hB hz1 hk1 hS => ?_)
    obtain ⟨bk, fik, flk, vik, hP1, hD1, hGk⟩ := hB
    rw [ht] at hP1
    obtain ⟨hP, hD⟩ := va_join (wr := [((a 1), .inr (12, ((.int 0) :: (.ref (ex 11)) :: (.int 0) :: (.int 0) :: (.int 0) :: (.int 0) :: (.ref (a 23)) :: (.ref (ex 12)) :: (.ref (ex 13)) :: (.ref (ex 14)) :: (.ref (ex 15)) :: (.int 0) :: (.int 0) :: (.int 0) :: (.int 0) :: (.int 0) :: (.int 0) :: (.long 0) :: (.int 0) :: (.int 0) :: (.int 0) :: (.ref (a 24)) :: (.ref (ex 16)) :: (.int 0) :: (.ref (ex 17)) :: (.int (-1)) :: (.int 0) :: (.int 0) :: (.int 0) :: (.int 0) :: (.int 0) :: (.int 0) :: (.ref (ex 18)) :: (.int 0) :: (.ref (ex 19)) :: (.int 0) :: (.int 0) :: (.int 0) :: (.int 0) :: (.int 0) :: (.ref (ex 20)) :: (.ref (ex 21)) :: (.ref (ex 22)) :: (.ref (ex 23)) :: []))), ((a 23), .inl (T 1, 2187, .inl (fun _ => 0))), ((a 24), .inl (T 1, 7440, .inl (fun _ => 0)))]) (w1 := []) hP hD [0, 2, 3, 4, 5, 6, 7, 8, 9, 10, 11, 12, 13, 14, 15, 16, 17, 18, 19, 20, 21, 22] [1, 23, 24] rfl rfl (by decide) (by decide) hk1 hFc hP1 hD1
    refine xz_i x1 hw ?_
    clear hPc hDc hFc hP1 hD1 hk1 hz1 hvm ht
    generalize H1 = H at hP hS ⊢
    replace hP : va_P D vwCl [((a 1), .inr (12, ((.int 0) :: (.ref (ex 11)) :: (.int 0) :: (.int 0) :: (.int 0) :: (.int 0) :: (.ref (a 23)) :: (.ref (ex 12)) :: (.ref (ex 13)) :: (.ref (ex 14)) :: (.ref (ex 15)) :: (.int 0) :: (.int 0) :: (.int 0) :: (.int 0) :: (.int 0) :: (.int 0) :: (.long 0) :: (.int 0) :: (.int 0) :: (.int 0) :: (.ref (a 24)) :: (.ref (ex 16)) :: (.int 0) :: (.ref (ex 17)) :: (.int (-1)) :: (.int 0) :: (.int 0) :: (.int 0) :: (.int 0) :: (.int 0) :: (.int 0) :: (.ref (ex 18)) :: (.int 0) :: (.ref (ex 19)) :: (.int 0) :: (.int 0) :: (.int 0) :: (.int 0) :: (.int 0) :: (.ref (ex 20)) :: (.ref (ex 21)) :: (.ref (ex 22)) :: (.ref (ex 23)) :: []))), ((a 23), .inl (T 1, 2187, .inl (fun _ => 0))), ((a 24), .inl (T 1, 7440, .inl (fun _ => 0)))] H := hP
    replace hD : va_D A [((a 1), .inr (12, ((.int 0) :: (.ref (ex 11)) :: (.int 0) :: (.int 0) :: (.int 0) :: (.int 0) :: (.ref (a 23)) :: (.ref (ex 12)) :: (.ref (ex 13)) :: (.ref (ex 14)) :: (.ref (ex 15)) :: (.int 0) :: (.int 0) :: (.int 0) :: (.int 0) :: (.int 0) :: (.int 0) :: (.long 0) :: (.int 0) :: (.int 0) :: (.int 0) :: (.ref (a 24)) :: (.ref (ex 16)) :: (.int 0) :: (.ref (ex 17)) :: (.int (-1)) :: (.int 0) :: (.int 0) :: (.int 0) :: (.int 0) :: (.int 0) :: (.int 0) :: (.ref (ex 18)) :: (.int 0) :: (.ref (ex 19)) :: (.int 0) :: (.int 0) :: (.int 0) :: (.int 0) :: (.int 0) :: (.ref (ex 20)) :: (.ref (ex 21)) :: (.ref (ex 22)) :: (.ref (ex 23)) :: []))), ((a 23), .inl (T 1, 2187, .inl (fun _ => 0))), ((a 24), .inl (T 1, 7440, .inl (fun _ => 0)))] := hD
    refine lv_aload_n hx hb dL_law_776 rfl (lv_at hl 2 rfl) ?_
    refine lv_aload_n hx hb dL_law_777 rfl (lv_at hl 4 rfl) ?_
    refine lv_iload hx hb dL_law_778 (lv_at hl 0 rfl) ?_
    refine lv_iconst (v := 1) hx hb dL_law_780 (by decide) ?_
    refine lv_iadd hx hb dL_law_781 ?_
    refine xz_i 1 (by decide) ?_
    refine va_sld hx hb hX hbl hbA hS (vp_in_nI (n := 1) (by decide) (by decide)) dL_law_782 ?_
    refine xz_i x1 hx1 ?_
    have hPc := hP.sub (ws' := (pre_X12_mondays T (xa [(a 1), (a 23), (a 24)]) (xa [(ex 11), (ex 12), (ex 13), (ex 14), (ex 15), (ex 16), (ex 17), (ex 18), (ex 19), (ex 20), (ex 21), (ex 22), (ex 23)]) (xf []) (xh []) (xv [x1]))) [0, 1, 2] rfl
    have hDc := hD.sub (ws' := (pre_X12_mondays T (xa [(a 1), (a 23), (a 24)]) (xa [(ex 11), (ex 12), (ex 13), (ex 14), (ex 15), (ex 16), (ex 17), (ex 18), (ex 19), (ex 20), (ex 21), (ex 22), (ex 23)]) (xf []) (xh []) (xv [x1]))) [0, 1, 2] (by decide) rfl
    have hFc := va_free (wc := (pre_X12_mondays T (xa [(a 1), (a 23), (a 24)]) (xa [(ex 11), (ex 12), (ex 13), (ex 14), (ex 15), (ex 16), (ex 17), (ex 18), (ex 19), (ex 20), (ex 21), (ex 22), (ex 23)]) (xf []) (xh []) (xv [x1]))) hD hS hA [0, 1, 2] rfl
    refine va_calli (va_runV (As := [.int x1]) (rest := [.int x1]) ⟨hx, hb, hml, hown, htg⟩ (c_X12_mondays l D T (xa [(a 1), (a 23), (a 24)]) (xa [(ex 11), (ex 12), (ex 13), (ex 14), (ex 15), (ex 16), (ex 17), (ex 18), (ex 19), (ex 20), (ex 21), (ex 22), (ex 23)]) (xf []) (xh []) (xv [x1]) H.size (by show (1 ≤ (x1 : Int32).toInt ∧ (x1 : Int32).toInt ≤ 60); omega)) ⟨callB_of 1 htg (xg_ok kw_1781) rfl rfl rfl (htg _ kw_17) (htg _ kw_1778) (by decide +kernel) ⟨by rw [hR]; exact Nat.le_of_ble_eq_true rfl, by rw [hR]; exact Nat.le_of_ble_eq_true rfl⟩, htg _ kw_1779, htg _ kw_1780⟩ (xpreV hK hPc hDc (va_recv hK.1 hPc (ci := 12) (q0 := 0) rfl rfl)) rfl rfl hl.1 rfl (lv_room (Nat.le_of_ble_eq_true rfl)) dL_law_783 ⟨by rw [hR]; exact Nat.le_of_ble_eq_true rfl, by rw [hR]; exact Nat.le_of_ble_eq_true rfl⟩) hS (fun q _ h => hFc q h) hFc (fun r9 u t H1 locs ht hvm hw hB hz1 hk1 hS => ?_)
    obtain ⟨bk_1, fik_1, flk_1, vik_1, hP1, hD1, hGk_1⟩ := hB
    rw [ht] at hP1
    obtain ⟨hP, hD⟩ := va_join (wr := []) (w1 := []) hP hD [0, 1, 2] [] rfl rfl (by decide) (by decide) hk1 hFc hP1 hD1
    refine xz_i x1 hw ?_
    clear hPc hDc hFc hP1 hD1 hk1 hz1 hvm ht
    generalize H1 = H at hP hS ⊢
    replace hP : va_P D vwCl [] H := hP
    replace hD : va_D A [] := hD
    refine lv_icmp_eq (tgt := 1466) hx hb dL_law_786 (by decide) (fun _ => ?_) (fun c => absurd rfl c)
    refine lv_iinc (v := 6) (lv' := [(4, .int 6), (3, .ref (ex 37)), (2, .ref (a 1)), (1, .ref (a 0)), (0, .ref b)]) hx hb dL_law_1466 hl (k := 0) rfl (by decide) (by decide) rfl (fun ls hl => ?_)
    refine lv_goto (tgt := 23) hx hb dL_law_1469 (by decide) ?_
    refine lv_iload hx hb dL_law_23 (lv_at hl 0 rfl) ?_
    refine lv_aload_n hx hb dL_law_25 rfl (lv_at hl 4 rfl) ?_
    refine va_slen hx hb hX hbl hbA hS dL_law_26 ?_
    refine xz_i 6 rfl ?_
    refine lv_bipush (v := 6) hx hb dL_law_27 (by decide) ?_
    refine lv_isub hx hb dL_law_29 ?_
    refine xz_i 0 (by decide) ?_
    refine lv_icmp_gt (tgt := 1472) hx hb dL_law_30 (by decide) (fun _ => ?_) (fun c => absurd (by decide) c)
    refine lv_iconst (v := 1) hx hb dL_law_1472 (by decide) ?_
    refine va_forget (fun q hq => by have h9 := hS.2.2 q hq; rw [hAe] at h9; exact h9) ?_
    refine W.widen (k := 600002) (n := 7302232) (Nat.le_of_ble_eq_true rfl) (Nat.le_of_ble_eq_true rfl) ?_
    subst hR
    rw [hQ]
    exact lw_ret hx hb hr hlocks dL_law_1473
  refine lv_aload_n hx hb dL_law_766 rfl (lv_at hl 3 rfl) ?_
  refine lv_aload_n hx hb dL_law_767 rfl (lv_at hl 4 rfl) ?_
  refine lv_iload hx hb dL_law_768 (lv_at hl 0 rfl) ?_
  refine lv_iconst (v := 1) hx hb dL_law_770 (by decide) ?_
  refine lv_iadd hx hb dL_law_771 ?_
  refine xz_i 1 (by decide) ?_
  refine va_sld hx hb hX hbl hbA hS (vp_in_nI (n := 1) (by decide) (by decide)) dL_law_772 ?_
  refine xz_i x1 hx1 ?_
  have hPc := hP.sub (ws' := (pre_X11_mondays_2 T (xa [(a 0)]) (xa [(ex 0), (a 22), (ex 1), (ex 2), (a 2), (ex 3), (a 3), (ex 4), (ex 5), (ex 6), (ex 7), (ex 8), (ex 9), (ex 10)]) (xf []) (xh []) (xv [x1]))) [0] rfl
  have hDc := hD.sub (ws' := (pre_X11_mondays_2 T (xa [(a 0)]) (xa [(ex 0), (a 22), (ex 1), (ex 2), (a 2), (ex 3), (a 3), (ex 4), (ex 5), (ex 6), (ex 7), (ex 8), (ex 9), (ex 10)]) (xf []) (xh []) (xv [x1]))) [0] (by decide) rfl
  have hFc := va_free (wc := (pre_X11_mondays_2 T (xa [(a 0)]) (xa [(ex 0), (a 22), (ex 1), (ex 2), (a 2), (ex 3), (a 3), (ex 4), (ex 5), (ex 6), (ex 7), (ex 8), (ex 9), (ex 10)]) (xf []) (xh []) (xv [x1]))) hD hS hA [0] rfl
  refine va_calli (va_runV (As := [.int x1]) (rest := []) ⟨hx, hb, hml, hown, htg⟩ (c_X11_mondays_2 l D T (xa [(a 0)]) (xa [(ex 0), (a 22), (ex 1), (ex 2), (a 2), (ex 3), (a 3), (ex 4), (ex 5), (ex 6), (ex 7), (ex 8), (ex 9), (ex 10)]) (xf []) (xh []) (xv [x1]) H.size (by show (x1 : Int32).toInt ≤ 0 ∨ 61 ≤ (x1 : Int32).toInt; omega)) ⟨callB_of 1 htg (xg_ok kw_931) rfl rfl rfl (htg _ kw_1) (htg _ kw_928) (by decide +kernel) ⟨by rw [hR]; exact Nat.le_of_ble_eq_true rfl, by rw [hR]; exact Nat.le_of_ble_eq_true rfl⟩, htg _ kw_929, htg _ kw_930⟩ (xpreV hK hPc hDc (va_recv hK.1 hPc (ci := 11) (q0 := 0) rfl rfl)) rfl rfl hl.1 rfl (lv_room (Nat.le_of_ble_eq_true rfl)) dL_law_773 ⟨by rw [hR]; exact Nat.le_of_ble_eq_true rfl, by rw [hR]; exact Nat.le_of_ble_eq_true rfl⟩) hS (fun q _ h => hFc q h) hFc (fun r9 u t H1 locs ht hvm hw hB hz1 hk1 hS => ?_)
  obtain ⟨bk_2, fik_2, flk_2, vik_2, hP1, hD1, hGk_2⟩ := hB
  rw [ht] at hP1
  obtain ⟨hP, hD⟩ := va_join (wr := (((a 1), .inr (12, ((.int 0) :: (.ref (ex 11)) :: (.int 0) :: (.int 0) :: (.int 0) :: (.int 0) :: (.ref (a 23)) :: (.ref (ex 12)) :: (.ref (ex 13)) :: (.ref (ex 14)) :: (.ref (ex 15)) :: (.int 0) :: (.int 0) :: (.int 0) :: (.int 0) :: (.int 0) :: (.int 0) :: (.long 0) :: (.int 0) :: (.int 0) :: (.int 0) :: (.ref (a 24)) :: (.ref (ex 16)) :: (.int 0) :: (.ref (ex 17)) :: (.int (-1)) :: (.int 0) :: (.int 0) :: (.int 0) :: (.int 0) :: (.int 0) :: (.int 0) :: (.ref (ex 18)) :: (.int 0) :: (.ref (ex 19)) :: (.int 0) :: (.int 0) :: (.int 0) :: (.int 0) :: (.int 0) :: (.ref (ex 20)) :: (.ref (ex 21)) :: (.ref (ex 22)) :: (.ref (ex 23)) :: []))) :: ((a 2), .inr (2, [.ref (a 22), .int 0, .int 0, .int 0, .int 0, .int 0, .int 0, .ref (a 6), .ref (a 8), .ref (a 10), .ref (a 12), .ref (a 14), .ref (a 16), .ref (a 18), .ref (a 20)])) :: ((a 3), .inr (9, [.ref (a 4), .int 0, .int 0])) :: ((a 4), .inl (T 5, 4, .inr (.inr (.inr (.inr (xo [some (a 5), some (ex 24), some (ex 25), some (ex 26)])))))) :: ((a 5), .inr (2, [.ref (a 22), .int 0, .int 0, .int 0, .int 0, .int 0, .int 0, .ref (a 7), .ref (a 9), .ref (a 11), .ref (a 13), .ref (a 15), .ref (a 17), .ref (a 19), .ref (a 21)])) :: ((a 6), .inl (T 1, 9, .inl (fun _ => 0))) :: ((a 7), .inl (T 1, 9, .inl (fun _ => 0))) :: ((a 8), .inl (T 1, 9, .inl (fun _ => 0))) :: ((a 9), .inl (T 1, 9, .inl (fun _ => 0))) :: ((a 10), .inl (T 1, 9, .inl (fun _ => 0))) :: ((a 11), .inl (T 1, 9, .inl (fun _ => 0))) :: ((a 12), .inl (T 1, 9, .inl (fun _ => 0))) :: ((a 13), .inl (T 1, 9, .inl (fun _ => 0))) :: ((a 14), .inl (T 1, 9, .inl (fun _ => 0))) :: ((a 15), .inl (T 1, 9, .inl (fun _ => 0))) :: ((a 16), .inl (T 1, 9, .inl (fun _ => 0))) :: ((a 17), .inl (T 1, 9, .inl (fun _ => 0))) :: ((a 18), .inl (T 1, 9, .inl (fun _ => 0))) :: ((a 19), .inl (T 1, 9, .inl (fun _ => 0))) :: ((a 20), .inl (T 2, 200, .inr (.inl (fun _ => 0)))) :: ((a 21), .inl (T 2, 200, .inr (.inl (fun _ => 0)))) :: ((a 22), .inr (7, [.int 0, .int 0, .ref (ex 27), .ref (ex 28), .ref (ex 29), .ref (ex 30), .ref (ex 31), .ref (ex 32), .ref (ex 33), .ref (ex 34), .ref (ex 35), .ref (ex 36)])) :: ((a 23), .inl (T 1, 2187, .inl (fun _ => 0))) :: ((a 24), .inl (T 1, 7440, .inl (fun _ => 0))) :: [])) (w1 := []) hP hD [0] [1, 2, 3, 4, 5, 6, 7, 8, 9, 10, 11, 12, 13, 14, 15, 16, 17, 18, 19, 20, 21, 22, 23, 24] rfl rfl (by decide) (by decide) hk1 hFc hP1 hD1
  subst hw
  clear hPc hDc hFc hP1 hD1 hk1 hz1 hvm ht
  generalize H1 = H at hP hS ⊢
  replace hP : va_P D vwCl (((a 1), .inr (12, ((.int 0) :: (.ref (ex 11)) :: (.int 0) :: (.int 0) :: (.int 0) :: (.int 0) :: (.ref (a 23)) :: (.ref (ex 12)) :: (.ref (ex 13)) :: (.ref (ex 14)) :: (.ref (ex 15)) :: (.int 0) :: (.int 0) :: (.int 0) :: (.int 0) :: (.int 0) :: (.int 0) :: (.long 0) :: (.int 0) :: (.int 0) :: (.int 0) :: (.ref (a 24)) :: (.ref (ex 16)) :: (.int 0) :: (.ref (ex 17)) :: (.int (-1)) :: (.int 0) :: (.int 0) :: (.int 0) :: (.int 0) :: (.int 0) :: (.int 0) :: (.ref (ex 18)) :: (.int 0) :: (.ref (ex 19)) :: (.int 0) :: (.int 0) :: (.int 0) :: (.int 0) :: (.int 0) :: (.ref (ex 20)) :: (.ref (ex 21)) :: (.ref (ex 22)) :: (.ref (ex 23)) :: []))) :: ((a 2), .inr (2, [.ref (a 22), .int 0, .int 0, .int 0, .int 0, .int 0, .int 0, .ref (a 6), .ref (a 8), .ref (a 10), .ref (a 12), .ref (a 14), .ref (a 16), .ref (a 18), .ref (a 20)])) :: ((a 3), .inr (9, [.ref (a 4), .int 0, .int 0])) :: ((a 4), .inl (T 5, 4, .inr (.inr (.inr (.inr (xo [some (a 5), some (ex 24), some (ex 25), some (ex 26)])))))) :: ((a 5), .inr (2, [.ref (a 22), .int 0, .int 0, .int 0, .int 0, .int 0, .int 0, .ref (a 7), .ref (a 9), .ref (a 11), .ref (a 13), .ref (a 15), .ref (a 17), .ref (a 19), .ref (a 21)])) :: ((a 6), .inl (T 1, 9, .inl (fun _ => 0))) :: ((a 7), .inl (T 1, 9, .inl (fun _ => 0))) :: ((a 8), .inl (T 1, 9, .inl (fun _ => 0))) :: ((a 9), .inl (T 1, 9, .inl (fun _ => 0))) :: ((a 10), .inl (T 1, 9, .inl (fun _ => 0))) :: ((a 11), .inl (T 1, 9, .inl (fun _ => 0))) :: ((a 12), .inl (T 1, 9, .inl (fun _ => 0))) :: ((a 13), .inl (T 1, 9, .inl (fun _ => 0))) :: ((a 14), .inl (T 1, 9, .inl (fun _ => 0))) :: ((a 15), .inl (T 1, 9, .inl (fun _ => 0))) :: ((a 16), .inl (T 1, 9, .inl (fun _ => 0))) :: ((a 17), .inl (T 1, 9, .inl (fun _ => 0))) :: ((a 18), .inl (T 1, 9, .inl (fun _ => 0))) :: ((a 19), .inl (T 1, 9, .inl (fun _ => 0))) :: ((a 20), .inl (T 2, 200, .inr (.inl (fun _ => 0)))) :: ((a 21), .inl (T 2, 200, .inr (.inl (fun _ => 0)))) :: ((a 22), .inr (7, [.int 0, .int 0, .ref (ex 27), .ref (ex 28), .ref (ex 29), .ref (ex 30), .ref (ex 31), .ref (ex 32), .ref (ex 33), .ref (ex 34), .ref (ex 35), .ref (ex 36)])) :: ((a 23), .inl (T 1, 2187, .inl (fun _ => 0))) :: ((a 24), .inl (T 1, 7440, .inl (fun _ => 0))) :: []) H := hP
  replace hD : va_D A (((a 1), .inr (12, ((.int 0) :: (.ref (ex 11)) :: (.int 0) :: (.int 0) :: (.int 0) :: (.int 0) :: (.ref (a 23)) :: (.ref (ex 12)) :: (.ref (ex 13)) :: (.ref (ex 14)) :: (.ref (ex 15)) :: (.int 0) :: (.int 0) :: (.int 0) :: (.int 0) :: (.int 0) :: (.int 0) :: (.long 0) :: (.int 0) :: (.int 0) :: (.int 0) :: (.ref (a 24)) :: (.ref (ex 16)) :: (.int 0) :: (.ref (ex 17)) :: (.int (-1)) :: (.int 0) :: (.int 0) :: (.int 0) :: (.int 0) :: (.int 0) :: (.int 0) :: (.ref (ex 18)) :: (.int 0) :: (.ref (ex 19)) :: (.int 0) :: (.int 0) :: (.int 0) :: (.int 0) :: (.int 0) :: (.ref (ex 20)) :: (.ref (ex 21)) :: (.ref (ex 22)) :: (.ref (ex 23)) :: []))) :: ((a 2), .inr (2, [.ref (a 22), .int 0, .int 0, .int 0, .int 0, .int 0, .int 0, .ref (a 6), .ref (a 8), .ref (a 10), .ref (a 12), .ref (a 14), .ref (a 16), .ref (a 18), .ref (a 20)])) :: ((a 3), .inr (9, [.ref (a 4), .int 0, .int 0])) :: ((a 4), .inl (T 5, 4, .inr (.inr (.inr (.inr (xo [some (a 5), some (ex 24), some (ex 25), some (ex 26)])))))) :: ((a 5), .inr (2, [.ref (a 22), .int 0, .int 0, .int 0, .int 0, .int 0, .int 0, .ref (a 7), .ref (a 9), .ref (a 11), .ref (a 13), .ref (a 15), .ref (a 17), .ref (a 19), .ref (a 21)])) :: ((a 6), .inl (T 1, 9, .inl (fun _ => 0))) :: ((a 7), .inl (T 1, 9, .inl (fun _ => 0))) :: ((a 8), .inl (T 1, 9, .inl (fun _ => 0))) :: ((a 9), .inl (T 1, 9, .inl (fun _ => 0))) :: ((a 10), .inl (T 1, 9, .inl (fun _ => 0))) :: ((a 11), .inl (T 1, 9, .inl (fun _ => 0))) :: ((a 12), .inl (T 1, 9, .inl (fun _ => 0))) :: ((a 13), .inl (T 1, 9, .inl (fun _ => 0))) :: ((a 14), .inl (T 1, 9, .inl (fun _ => 0))) :: ((a 15), .inl (T 1, 9, .inl (fun _ => 0))) :: ((a 16), .inl (T 1, 9, .inl (fun _ => 0))) :: ((a 17), .inl (T 1, 9, .inl (fun _ => 0))) :: ((a 18), .inl (T 1, 9, .inl (fun _ => 0))) :: ((a 19), .inl (T 1, 9, .inl (fun _ => 0))) :: ((a 20), .inl (T 2, 200, .inr (.inl (fun _ => 0)))) :: ((a 21), .inl (T 2, 200, .inr (.inl (fun _ => 0)))) :: ((a 22), .inr (7, [.int 0, .int 0, .ref (ex 27), .ref (ex 28), .ref (ex 29), .ref (ex 30), .ref (ex 31), .ref (ex 32), .ref (ex 33), .ref (ex 34), .ref (ex 35), .ref (ex 36)])) :: ((a 23), .inl (T 1, 2187, .inl (fun _ => 0))) :: ((a 24), .inl (T 1, 7440, .inl (fun _ => 0))) :: []) := hD
  refine lv_aload_n hx hb dL_law_776 rfl (lv_at hl 2 rfl) ?_
  refine lv_aload_n hx hb dL_law_777 rfl (lv_at hl 4 rfl) ?_
  refine lv_iload hx hb dL_law_778 (lv_at hl 0 rfl) ?_
  refine lv_iconst (v := 1) hx hb dL_law_780 (by decide) ?_
  refine lv_iadd hx hb dL_law_781 ?_
  refine xz_i 1 (by decide) ?_
  refine va_sld hx hb hX hbl hbA hS (vp_in_nI (n := 1) (by decide) (by decide)) dL_law_782 ?_
  refine xz_i x1 hx1 ?_
  have hPc := hP.sub (ws' := (pre_X12_mondays_2 T (xa [(a 1)]) (xa [(ex 11), (a 23), (ex 12), (ex 13), (ex 14), (ex 15), (a 24), (ex 16), (ex 17), (ex 18), (ex 19), (ex 20), (ex 21), (ex 22), (ex 23)]) (xf []) (xh []) (xv [x1]))) [0] rfl
  have hDc := hD.sub (ws' := (pre_X12_mondays_2 T (xa [(a 1)]) (xa [(ex 11), (a 23), (ex 12), (ex 13), (ex 14), (ex 15), (a 24), (ex 16), (ex 17), (ex 18), (ex 19), (ex 20), (ex 21), (ex 22), (ex 23)]) (xf []) (xh []) (xv [x1]))) [0] (by decide) rfl
  have hFc := va_free (wc := (pre_X12_mondays_2 T (xa [(a 1)]) (xa [(ex 11), (a 23), (ex 12), (ex 13), (ex 14), (ex 15), (a 24), (ex 16), (ex 17), (ex 18), (ex 19), (ex 20), (ex 21), (ex 22), (ex 23)]) (xf []) (xh []) (xv [x1]))) hD hS hA [0] rfl
  refine va_calli (va_runV (As := [.int x1]) (rest := [.int (-1)]) ⟨hx, hb, hml, hown, htg⟩ (c_X12_mondays_2 l D T (xa [(a 1)]) (xa [(ex 11), (a 23), (ex 12), (ex 13), (ex 14), (ex 15), (a 24), (ex 16), (ex 17), (ex 18), (ex 19), (ex 20), (ex 21), (ex 22), (ex 23)]) (xf []) (xh []) (xv [x1]) H.size (by show (x1 : Int32).toInt ≤ 0 ∨ 61 ≤ (x1 : Int32).toInt; omega)) ⟨callB_of 1 htg (xg_ok kw_1781) rfl rfl rfl (htg _ kw_17) (htg _ kw_1778) (by decide +kernel) ⟨by rw [hR]; exact Nat.le_of_ble_eq_true rfl, by rw [hR]; exact Nat.le_of_ble_eq_true rfl⟩, htg _ kw_1779, htg _ kw_1780⟩ (xpreV hK hPc hDc (va_recv hK.1 hPc (ci := 12) (q0 := 0) rfl rfl)) rfl rfl hl.1 rfl (lv_room (Nat.le_of_ble_eq_true rfl)) dL_law_783 ⟨by rw [hR]; exact Nat.le_of_ble_eq_true rfl, by rw [hR]; exact Nat.le_of_ble_eq_true rfl⟩) hS (fun q _ h => hFc q h) hFc (fun r9 u t H1 locs ht hvm hw hB hz1 hk1 hS => ?_)
  obtain ⟨bk_3, fik_3, flk_3, vik_3, hP1, hD1, hGk_3⟩ := hB
  rw [ht] at hP1
  obtain ⟨hP, hD⟩ := va_join (wr := (((a 2), .inr (2, [.ref (a 22), .int 0, .int 0, .int 0, .int 0, .int 0, .int 0, .ref (a 6), .ref (a 8), .ref (a 10), .ref (a 12), .ref (a 14), .ref (a 16), .ref (a 18), .ref (a 20)])) :: ((a 3), .inr (9, [.ref (a 4), .int 0, .int 0])) :: ((a 4), .inl (T 5, 4, .inr (.inr (.inr (.inr (xo [some (a 5), some (ex 24), some (ex 25), some (ex 26)])))))) :: ((a 5), .inr (2, [.ref (a 22), .int 0, .int 0, .int 0, .int 0, .int 0, .int 0, .ref (a 7), .ref (a 9), .ref (a 11), .ref (a 13), .ref (a 15), .ref (a 17), .ref (a 19), .ref (a 21)])) :: ((a 6), .inl (T 1, 9, .inl (fun _ => 0))) :: ((a 7), .inl (T 1, 9, .inl (fun _ => 0))) :: ((a 8), .inl (T 1, 9, .inl (fun _ => 0))) :: ((a 9), .inl (T 1, 9, .inl (fun _ => 0))) :: ((a 10), .inl (T 1, 9, .inl (fun _ => 0))) :: ((a 11), .inl (T 1, 9, .inl (fun _ => 0))) :: ((a 12), .inl (T 1, 9, .inl (fun _ => 0))) :: ((a 13), .inl (T 1, 9, .inl (fun _ => 0))) :: ((a 14), .inl (T 1, 9, .inl (fun _ => 0))) :: ((a 15), .inl (T 1, 9, .inl (fun _ => 0))) :: ((a 16), .inl (T 1, 9, .inl (fun _ => 0))) :: ((a 17), .inl (T 1, 9, .inl (fun _ => 0))) :: ((a 18), .inl (T 1, 9, .inl (fun _ => 0))) :: ((a 19), .inl (T 1, 9, .inl (fun _ => 0))) :: ((a 20), .inl (T 2, 200, .inr (.inl (fun _ => 0)))) :: ((a 21), .inl (T 2, 200, .inr (.inl (fun _ => 0)))) :: ((a 22), .inr (7, [.int 0, .int 0, .ref (ex 27), .ref (ex 28), .ref (ex 29), .ref (ex 30), .ref (ex 31), .ref (ex 32), .ref (ex 33), .ref (ex 34), .ref (ex 35), .ref (ex 36)])) :: ((a 23), .inl (T 1, 2187, .inl (fun _ => 0))) :: ((a 24), .inl (T 1, 7440, .inl (fun _ => 0))) :: [])) (w1 := []) hP hD [0] [1, 2, 3, 4, 5, 6, 7, 8, 9, 10, 11, 12, 13, 14, 15, 16, 17, 18, 19, 20, 21, 22, 23] rfl rfl (by decide) (by decide) hk1 hFc hP1 hD1
  subst hw
  clear hPc hDc hFc hP1 hD1 hk1 hz1 hvm ht
  generalize H1 = H at hP hS ⊢
  replace hP : va_P D vwCl (((a 2), .inr (2, [.ref (a 22), .int 0, .int 0, .int 0, .int 0, .int 0, .int 0, .ref (a 6), .ref (a 8), .ref (a 10), .ref (a 12), .ref (a 14), .ref (a 16), .ref (a 18), .ref (a 20)])) :: ((a 3), .inr (9, [.ref (a 4), .int 0, .int 0])) :: ((a 4), .inl (T 5, 4, .inr (.inr (.inr (.inr (xo [some (a 5), some (ex 24), some (ex 25), some (ex 26)])))))) :: ((a 5), .inr (2, [.ref (a 22), .int 0, .int 0, .int 0, .int 0, .int 0, .int 0, .ref (a 7), .ref (a 9), .ref (a 11), .ref (a 13), .ref (a 15), .ref (a 17), .ref (a 19), .ref (a 21)])) :: ((a 6), .inl (T 1, 9, .inl (fun _ => 0))) :: ((a 7), .inl (T 1, 9, .inl (fun _ => 0))) :: ((a 8), .inl (T 1, 9, .inl (fun _ => 0))) :: ((a 9), .inl (T 1, 9, .inl (fun _ => 0))) :: ((a 10), .inl (T 1, 9, .inl (fun _ => 0))) :: ((a 11), .inl (T 1, 9, .inl (fun _ => 0))) :: ((a 12), .inl (T 1, 9, .inl (fun _ => 0))) :: ((a 13), .inl (T 1, 9, .inl (fun _ => 0))) :: ((a 14), .inl (T 1, 9, .inl (fun _ => 0))) :: ((a 15), .inl (T 1, 9, .inl (fun _ => 0))) :: ((a 16), .inl (T 1, 9, .inl (fun _ => 0))) :: ((a 17), .inl (T 1, 9, .inl (fun _ => 0))) :: ((a 18), .inl (T 1, 9, .inl (fun _ => 0))) :: ((a 19), .inl (T 1, 9, .inl (fun _ => 0))) :: ((a 20), .inl (T 2, 200, .inr (.inl (fun _ => 0)))) :: ((a 21), .inl (T 2, 200, .inr (.inl (fun _ => 0)))) :: ((a 22), .inr (7, [.int 0, .int 0, .ref (ex 27), .ref (ex 28), .ref (ex 29), .ref (ex 30), .ref (ex 31), .ref (ex 32), .ref (ex 33), .ref (ex 34), .ref (ex 35), .ref (ex 36)])) :: ((a 23), .inl (T 1, 2187, .inl (fun _ => 0))) :: ((a 24), .inl (T 1, 7440, .inl (fun _ => 0))) :: []) H := hP
  replace hD : va_D A (((a 2), .inr (2, [.ref (a 22), .int 0, .int 0, .int 0, .int 0, .int 0, .int 0, .ref (a 6), .ref (a 8), .ref (a 10), .ref (a 12), .ref (a 14), .ref (a 16), .ref (a 18), .ref (a 20)])) :: ((a 3), .inr (9, [.ref (a 4), .int 0, .int 0])) :: ((a 4), .inl (T 5, 4, .inr (.inr (.inr (.inr (xo [some (a 5), some (ex 24), some (ex 25), some (ex 26)])))))) :: ((a 5), .inr (2, [.ref (a 22), .int 0, .int 0, .int 0, .int 0, .int 0, .int 0, .ref (a 7), .ref (a 9), .ref (a 11), .ref (a 13), .ref (a 15), .ref (a 17), .ref (a 19), .ref (a 21)])) :: ((a 6), .inl (T 1, 9, .inl (fun _ => 0))) :: ((a 7), .inl (T 1, 9, .inl (fun _ => 0))) :: ((a 8), .inl (T 1, 9, .inl (fun _ => 0))) :: ((a 9), .inl (T 1, 9, .inl (fun _ => 0))) :: ((a 10), .inl (T 1, 9, .inl (fun _ => 0))) :: ((a 11), .inl (T 1, 9, .inl (fun _ => 0))) :: ((a 12), .inl (T 1, 9, .inl (fun _ => 0))) :: ((a 13), .inl (T 1, 9, .inl (fun _ => 0))) :: ((a 14), .inl (T 1, 9, .inl (fun _ => 0))) :: ((a 15), .inl (T 1, 9, .inl (fun _ => 0))) :: ((a 16), .inl (T 1, 9, .inl (fun _ => 0))) :: ((a 17), .inl (T 1, 9, .inl (fun _ => 0))) :: ((a 18), .inl (T 1, 9, .inl (fun _ => 0))) :: ((a 19), .inl (T 1, 9, .inl (fun _ => 0))) :: ((a 20), .inl (T 2, 200, .inr (.inl (fun _ => 0)))) :: ((a 21), .inl (T 2, 200, .inr (.inl (fun _ => 0)))) :: ((a 22), .inr (7, [.int 0, .int 0, .ref (ex 27), .ref (ex 28), .ref (ex 29), .ref (ex 30), .ref (ex 31), .ref (ex 32), .ref (ex 33), .ref (ex 34), .ref (ex 35), .ref (ex 36)])) :: ((a 23), .inl (T 1, 2187, .inl (fun _ => 0))) :: ((a 24), .inl (T 1, 7440, .inl (fun _ => 0))) :: []) := hD
  refine lv_icmp_eq (tgt := 1466) hx hb dL_law_786 (by decide) (fun _ => ?_) (fun c => absurd (by decide) c)
  refine lv_iinc (v := 6) (lv' := [(4, .int 6), (3, .ref (ex 37)), (2, .ref (a 1)), (1, .ref (a 0)), (0, .ref b)]) hx hb dL_law_1466 hl (k := 0) rfl (by decide) (by decide) rfl (fun ls hl => ?_)
  refine lv_goto (tgt := 23) hx hb dL_law_1469 (by decide) ?_
  refine lv_iload hx hb dL_law_23 (lv_at hl 0 rfl) ?_
  refine lv_aload_n hx hb dL_law_25 rfl (lv_at hl 4 rfl) ?_
  refine va_slen hx hb hX hbl hbA hS dL_law_26 ?_
  refine xz_i 6 rfl ?_
  refine lv_bipush (v := 6) hx hb dL_law_27 (by decide) ?_
  refine lv_isub hx hb dL_law_29 ?_
  refine xz_i 0 (by decide) ?_
  refine lv_icmp_gt (tgt := 1472) hx hb dL_law_30 (by decide) (fun _ => ?_) (fun c => absurd (by decide) c)
  refine lv_iconst (v := 1) hx hb dL_law_1472 (by decide) ?_
  refine va_forget (fun q hq => by have h9 := hS.2.2 q hq; rw [hAe] at h9; exact h9) ?_
  refine W.widen (k := 600002) (n := 7302232) (Nat.le_of_ble_eq_true rfl) (Nat.le_of_ble_eq_true rfl) ?_
  subst hR
  rw [hQ]
  exact lw_ret hx hb hr hlocks dL_law_1473
set_option maxHeartbeats 4000000 in
set_option maxRecDepth 100000 in
theorem lw_undo {p : Program} {e : Env} {s : State} {m : MethodId} {below : List Frame} {meth : Method} {c : Code} (l : Launch) (hlt : l.stackTraces = false) {b : Nat} {xs : Nat → Int32} (D : va_G) (T : Nat → ClassId) (a ex : Nat → Nat) (fi : Nat → Nat → Int32) (fl : Nat → Nat → Int64) (vi : Nat → Int32) (kK kV : Nat → Nat) (R : Room) (Q : State → Prop) (A : Nat → Prop) (hR : R = room_1) (hQ : Q = lw_Z below #[Value.ref b] s) (hAe : A = fun q => s.heap.size ≤ q) (hx : p.tables.exec = Jvm.exec) (hb : c.code = code) (hr : meth.sig.returnType = ret) (hml : c.maxLocals = 7) (hown : s.vm.findClass RL = some m.cls) (htg : ∀ w ∈ xg, w.before #[Value.ref b] s = true) (hbl : b < s.heap.size) (hbA : ¬ A b) (hlocks : meth.locks = false) (hK : xK D T s) (hA : ∀ q : Nat, s.heap.size ≤ q → A q) (hT : xT kK kV A s s.heap) (hZt : xZ2 A s s.heap) (hX : va_X b 6 xs s s.heap) (x1 x2 x3 x4 x5 : Int32) (hx1 : xs 1 = x1) (hx2 : xs 2 = x2) (hx3 : xs 3 = x3) (hx4 : xs 4 = x4) (hx5 : xs 5 = x5) (H : Heap) (locs : List Loc) (ls : Array Slot) (hP : va_P D vwCl [((a 0), .inr (11, [.ref (ex 0), .ref (ex 1), .ref (ex 2), .ref (ex 3), .ref (ex 4), .ref (ex 5), .ref (a 2), .ref (ex 6), .ref (ex 7), .ref (ex 8), .ref (ex 9), .ref (ex 10), .ref (ex 11), .ref (ex 12), .int 0])), ((a 1), .inr (12, ((.int 0) :: (.ref (ex 13)) :: (.int 0) :: (.int 0) :: (.int 0) :: (.int 0) :: (.ref (ex 14)) :: (.ref (ex 15)) :: (.ref (ex 16)) :: (.ref (ex 17)) :: (.ref (ex 18)) :: (.int 0) :: (.int 0) :: (.int 0) :: (.int 0) :: (.int 0) :: (.int 0) :: (.long 0) :: (.int 0) :: (.int 0) :: (.int 0) :: (.ref (ex 19)) :: (.ref (ex 20)) :: (.int 0) :: (.ref (ex 21)) :: (.int (-1)) :: (.int 0) :: (.int 0) :: (.int 0) :: (.int 0) :: (.int 0) :: (.int 0) :: (.ref (ex 22)) :: (.int 0) :: (.ref (ex 23)) :: (.int 0) :: (.int 0) :: (.int 0) :: (.int 0) :: (.int 0) :: (.ref (ex 24)) :: (.ref (ex 25)) :: (.ref (ex 26)) :: (.ref (ex 27)) :: []))), ((a 2), .inr (9, [.ref (ex 28), .int 0, .int 0]))] H) (hD : va_D A [((a 0), .inr (11, [.ref (ex 0), .ref (ex 1), .ref (ex 2), .ref (ex 3), .ref (ex 4), .ref (ex 5), .ref (a 2), .ref (ex 6), .ref (ex 7), .ref (ex 8), .ref (ex 9), .ref (ex 10), .ref (ex 11), .ref (ex 12), .int 0])), ((a 1), .inr (12, ((.int 0) :: (.ref (ex 13)) :: (.int 0) :: (.int 0) :: (.int 0) :: (.int 0) :: (.ref (ex 14)) :: (.ref (ex 15)) :: (.ref (ex 16)) :: (.ref (ex 17)) :: (.ref (ex 18)) :: (.int 0) :: (.int 0) :: (.int 0) :: (.int 0) :: (.int 0) :: (.int 0) :: (.long 0) :: (.int 0) :: (.int 0) :: (.int 0) :: (.ref (ex 19)) :: (.ref (ex 20)) :: (.int 0) :: (.ref (ex 21)) :: (.int (-1)) :: (.int 0) :: (.int 0) :: (.int 0) :: (.int 0) :: (.int 0) :: (.int 0) :: (.ref (ex 22)) :: (.int 0) :: (.ref (ex 23)) :: (.int 0) :: (.int 0) :: (.int 0) :: (.int 0) :: (.int 0) :: (.ref (ex 24)) :: (.ref (ex 25)) :: (.ref (ex 26)) :: (.ref (ex 27)) :: []))), ((a 2), .inr (9, [.ref (ex 28), .int 0, .int 0]))]) (hS : va_S A s.heap H locs) (hl : lv_has ls 7 [(4, .int 0), (3, .ref (ex 29)), (2, .ref (a 1)), (1, .ref (a 0)), (0, .ref b)]) : W p l e R s m #[Value.ref b] below meth c H locs 172 22099 Q (F0 m 791 ls []) := by
  refine lv_aload_n hx hb dL_law_791 rfl (lv_at hl 3 rfl) ?_
  have hPc := hP.sub (ws' := (pre_X11_undo T (xa [(a 0), (a 2)]) (xa [(ex 0), (ex 1), (ex 2), (ex 3), (ex 4), (ex 5), (ex 6), (ex 7), (ex 8), (ex 9), (ex 10), (ex 11), (ex 12), (ex 28)]) (xf []) (xh []) (xv []))) [0, 2] rfl
  have hDc := hD.sub (ws' := (pre_X11_undo T (xa [(a 0), (a 2)]) (xa [(ex 0), (ex 1), (ex 2), (ex 3), (ex 4), (ex 5), (ex 6), (ex 7), (ex 8), (ex 9), (ex 10), (ex 11), (ex 12), (ex 28)]) (xf []) (xh []) (xv []))) [0, 2] (by decide) rfl
  have hFc := va_free (wc := (pre_X11_undo T (xa [(a 0), (a 2)]) (xa [(ex 0), (ex 1), (ex 2), (ex 3), (ex 4), (ex 5), (ex 6), (ex 7), (ex 8), (ex 9), (ex 10), (ex 11), (ex 12), (ex 28)]) (xf []) (xh []) (xv []))) hD hS hA [0, 2] rfl
  refine va_calli (va_runV (As := []) (rest := []) ⟨hx, hb, hml, hown, htg⟩ (c_X11_undo l D T (xa [(a 0), (a 2)]) (xa [(ex 0), (ex 1), (ex 2), (ex 3), (ex 4), (ex 5), (ex 6), (ex 7), (ex 8), (ex 9), (ex 10), (ex 11), (ex 12), (ex 28)]) (xf []) (xh []) (xv []) H.size) ⟨callB_of 0 htg (xg_ok kw_936) rfl rfl rfl (htg _ kw_1) (htg _ kw_933) (by decide +kernel) ⟨by rw [hR]; exact Nat.le_of_ble_eq_true rfl, by rw [hR]; exact Nat.le_of_ble_eq_true rfl⟩, htg _ kw_934, htg _ kw_935⟩ (xpreV hK hPc hDc (va_recv hK.1 hPc (ci := 11) (q0 := 0) rfl rfl)) rfl rfl hl.1 rfl (lv_room (Nat.le_of_ble_eq_true rfl)) dL_law_792 ⟨by rw [hR]; exact Nat.le_of_ble_eq_true rfl, by rw [hR]; exact Nat.le_of_ble_eq_true rfl⟩) hS (fun q _ h => hFc q h) hFc (fun r9 u t H1 locs ht hvm hw hB hz1 hk1 hS => ?_)
  obtain ⟨bk, fik, flk, vik, hP1, hD1, hGk⟩ := hB
  rw [ht] at hP1
  obtain ⟨hP, hD⟩ := va_join (wr := [((a 1), .inr (12, ((.int 0) :: (.ref (ex 13)) :: (.int 0) :: (.int 0) :: (.int 0) :: (.int 0) :: (.ref (ex 14)) :: (.ref (ex 15)) :: (.ref (ex 16)) :: (.ref (ex 17)) :: (.ref (ex 18)) :: (.int 0) :: (.int 0) :: (.int 0) :: (.int 0) :: (.int 0) :: (.int 0) :: (.long 0) :: (.int 0) :: (.int 0) :: (.int 0) :: (.ref (ex 19)) :: (.ref (ex 20)) :: (.int 0) :: (.ref (ex 21)) :: (.int (-1)) :: (.int 0) :: (.int 0) :: (.int 0) :: (.int 0) :: (.int 0) :: (.int 0) :: (.ref (ex 22)) :: (.int 0) :: (.ref (ex 23)) :: (.int 0) :: (.int 0) :: (.int 0) :: (.int 0) :: (.int 0) :: (.ref (ex 24)) :: (.ref (ex 25)) :: (.ref (ex 26)) :: (.ref (ex 27)) :: [])))]) (w1 := []) hP hD [0, 2] [1] rfl rfl (by decide) (by decide) hk1 hFc hP1 hD1
  subst hw
  clear hPc hDc hFc hP1 hD1 hk1 hz1 hvm ht
  generalize H1 = H at hP hS ⊢
  replace hP : va_P D vwCl [((a 1), .inr (12, ((.int 0) :: (.ref (ex 13)) :: (.int 0) :: (.int 0) :: (.int 0) :: (.int 0) :: (.ref (ex 14)) :: (.ref (ex 15)) :: (.ref (ex 16)) :: (.ref (ex 17)) :: (.ref (ex 18)) :: (.int 0) :: (.int 0) :: (.int 0) :: (.int 0) :: (.int 0) :: (.int 0) :: (.long 0) :: (.int 0) :: (.int 0) :: (.int 0) :: (.ref (ex 19)) :: (.ref (ex 20)) :: (.int 0) :: (.ref (ex 21)) :: (.int (-1)) :: (.int 0) :: (.int 0) :: (.int 0) :: (.int 0) :: (.int 0) :: (.int 0) :: (.ref (ex 22)) :: (.int 0) :: (.ref (ex 23)) :: (.int 0) :: (.int 0) :: (.int 0) :: (.int 0) :: (.int 0) :: (.ref (ex 24)) :: (.ref (ex 25)) :: (.ref (ex 26)) :: (.ref (ex 27)) :: [])))] H := hP
  replace hD : va_D A [((a 1), .inr (12, ((.int 0) :: (.ref (ex 13)) :: (.int 0) :: (.int 0) :: (.int 0) :: (.int 0) :: (.ref (ex 14)) :: (.ref (ex 15)) :: (.ref (ex 16)) :: (.ref (ex 17)) :: (.ref (ex 18)) :: (.int 0) :: (.int 0) :: (.int 0) :: (.int 0) :: (.int 0) :: (.int 0) :: (.long 0) :: (.int 0) :: (.int 0) :: (.int 0) :: (.ref (ex 19)) :: (.ref (ex 20)) :: (.int 0) :: (.ref (ex 21)) :: (.int (-1)) :: (.int 0) :: (.int 0) :: (.int 0) :: (.int 0) :: (.int 0) :: (.int 0) :: (.ref (ex 22)) :: (.int 0) :: (.ref (ex 23)) :: (.int 0) :: (.int 0) :: (.int 0) :: (.int 0) :: (.int 0) :: (.ref (ex 24)) :: (.ref (ex 25)) :: (.ref (ex 26)) :: (.ref (ex 27)) :: [])))] := hD
  refine lv_aload_n hx hb dL_law_795 rfl (lv_at hl 2 rfl) ?_
  have hPc := hP.sub (ws' := (pre_X12_undo T (xa [(a 1)]) (xa [(ex 13), (ex 14), (ex 15), (ex 16), (ex 17), (ex 18), (ex 19), (ex 20), (ex 21), (ex 22), (ex 23), (ex 24), (ex 25), (ex 26), (ex 27)]) (xf []) (xh []) (xv []))) [0] rfl
  have hDc := hD.sub (ws' := (pre_X12_undo T (xa [(a 1)]) (xa [(ex 13), (ex 14), (ex 15), (ex 16), (ex 17), (ex 18), (ex 19), (ex 20), (ex 21), (ex 22), (ex 23), (ex 24), (ex 25), (ex 26), (ex 27)]) (xf []) (xh []) (xv []))) [0] (by decide) rfl
  have hFc := va_free (wc := (pre_X12_undo T (xa [(a 1)]) (xa [(ex 13), (ex 14), (ex 15), (ex 16), (ex 17), (ex 18), (ex 19), (ex 20), (ex 21), (ex 22), (ex 23), (ex 24), (ex 25), (ex 26), (ex 27)]) (xf []) (xh []) (xv []))) hD hS hA [0] rfl
  refine va_calli (va_runV (As := []) (rest := [.int (-1)]) ⟨hx, hb, hml, hown, htg⟩ (c_X12_undo l D T (xa [(a 1)]) (xa [(ex 13), (ex 14), (ex 15), (ex 16), (ex 17), (ex 18), (ex 19), (ex 20), (ex 21), (ex 22), (ex 23), (ex 24), (ex 25), (ex 26), (ex 27)]) (xf []) (xh []) (xv []) H.size) ⟨callB_of 0 htg (xg_ok kw_1793) rfl rfl rfl (htg _ kw_17) (htg _ kw_1790) (by decide +kernel) ⟨by rw [hR]; exact Nat.le_of_ble_eq_true rfl, by rw [hR]; exact Nat.le_of_ble_eq_true rfl⟩, htg _ kw_1791, htg _ kw_1792⟩ (xpreV hK hPc hDc (va_recv hK.1 hPc (ci := 12) (q0 := 0) rfl rfl)) rfl rfl hl.1 rfl (lv_room (Nat.le_of_ble_eq_true rfl)) dL_law_796 ⟨by rw [hR]; exact Nat.le_of_ble_eq_true rfl, by rw [hR]; exact Nat.le_of_ble_eq_true rfl⟩) hS (fun q _ h => hFc q h) hFc (fun r9 u t H1 locs ht hvm hw hB hz1 hk1 hS => ?_)
  obtain ⟨bk_1, fik_1, flk_1, vik_1, hP1, hD1, hGk_1⟩ := hB
  rw [ht] at hP1
  obtain ⟨hP, hD⟩ := va_join (wr := []) (w1 := []) hP hD [0] [] rfl rfl (by decide) (by decide) hk1 hFc hP1 hD1
  subst hw
  clear hPc hDc hFc hP1 hD1 hk1 hz1 hvm ht
  generalize H1 = H at hP hS ⊢
  replace hP : va_P D vwCl [] H := hP
  replace hD : va_D A [] := hD
  refine lv_icmp_eq (tgt := 1466) hx hb dL_law_799 (by decide) (fun _ => ?_) (fun c => absurd (by decide) c)
  refine lv_iinc (v := 6) (lv' := [(4, .int 6), (3, .ref (ex 29)), (2, .ref (a 1)), (1, .ref (a 0)), (0, .ref b)]) hx hb dL_law_1466 hl (k := 0) rfl (by decide) (by decide) rfl (fun ls hl => ?_)
  refine lv_goto (tgt := 23) hx hb dL_law_1469 (by decide) ?_
  refine lv_iload hx hb dL_law_23 (lv_at hl 0 rfl) ?_
  refine lv_aload_n hx hb dL_law_25 rfl (lv_at hl 4 rfl) ?_
  refine va_slen hx hb hX hbl hbA hS dL_law_26 ?_
  refine xz_i 6 rfl ?_
  refine lv_bipush (v := 6) hx hb dL_law_27 (by decide) ?_
  refine lv_isub hx hb dL_law_29 ?_
  refine xz_i 0 (by decide) ?_
  refine lv_icmp_gt (tgt := 1472) hx hb dL_law_30 (by decide) (fun _ => ?_) (fun c => absurd (by decide) c)
  refine lv_iconst (v := 1) hx hb dL_law_1472 (by decide) ?_
  refine va_forget (fun q hq => by have h9 := hS.2.2 q hq; rw [hAe] at h9; exact h9) ?_
  refine W.widen (k := 600002) (n := 7302232) (Nat.le_of_ble_eq_true rfl) (Nat.le_of_ble_eq_true rfl) ?_
  subst hR
  rw [hQ]
  exact lw_ret hx hb hr hlocks dL_law_1473
set_option maxHeartbeats 4000000 in
set_option maxRecDepth 100000 in
theorem lw_called {p : Program} {e : Env} {s : State} {m : MethodId} {below : List Frame} {meth : Method} {c : Code} (l : Launch) (hlt : l.stackTraces = false) {b : Nat} {xs : Nat → Int32} (D : va_G) (T : Nat → ClassId) (a ex : Nat → Nat) (fi : Nat → Nat → Int32) (fl : Nat → Nat → Int64) (vi : Nat → Int32) (kK kV : Nat → Nat) (R : Room) (Q : State → Prop) (A : Nat → Prop) (hR : R = room_1) (hQ : Q = lw_Z below #[Value.ref b] s) (hAe : A = fun q => s.heap.size ≤ q) (hx : p.tables.exec = Jvm.exec) (hb : c.code = code) (hr : meth.sig.returnType = ret) (hml : c.maxLocals = 7) (hown : s.vm.findClass RL = some m.cls) (htg : ∀ w ∈ xg, w.before #[Value.ref b] s = true) (hbl : b < s.heap.size) (hbA : ¬ A b) (hlocks : meth.locks = false) (hK : xK D T s) (hA : ∀ q : Nat, s.heap.size ≤ q → A q) (hT : xT kK kV A s s.heap) (hZt : xZ2 A s s.heap) (hX : va_X b 6 xs s s.heap) (x1 x2 x3 x4 x5 : Int32) (hx1 : xs 1 = x1) (hx2 : xs 2 = x2) (hx3 : xs 3 = x3) (hx4 : xs 4 = x4) (hx5 : xs 5 = x5) (H : Heap) (locs : List Loc) (ls : Array Slot) (hP : va_P D vwCl [((a 0), .inr (11, [.ref (ex 0), .ref (a 2), .ref (ex 1), .ref (ex 2), .ref (ex 3), .ref (ex 4), .ref (ex 5), .ref (ex 6), .ref (ex 7), .ref (ex 8), .ref (ex 9), .ref (ex 10), .ref (ex 11), .ref (ex 12), .int 0])), ((a 1), .inr (12, ((.int 0) :: (.ref (ex 13)) :: (.int 0) :: (.int 0) :: (.int 0) :: (.int 0) :: (.ref (a 3)) :: (.ref (ex 14)) :: (.ref (ex 15)) :: (.ref (ex 16)) :: (.ref (ex 17)) :: (.int 0) :: (.int 0) :: (.int 0) :: (.int 0) :: (.int 0) :: (.int 0) :: (.long 0) :: (.int 0) :: (.int 0) :: (.int 0) :: (.ref (ex 18)) :: (.ref (ex 19)) :: (.int 0) :: (.ref (ex 20)) :: (.int (-1)) :: (.int 0) :: (.int 0) :: (.int 0) :: (.int 0) :: (.int 0) :: (.int 0) :: (.ref (ex 21)) :: (.int 0) :: (.ref (ex 22)) :: (.int 0) :: (.int 0) :: (.int 0) :: (.int 0) :: (.int 0) :: (.ref (ex 23)) :: (.ref (ex 24)) :: (.ref (ex 25)) :: (.ref (ex 26)) :: []))), ((a 2), .inr (7, [.int 0, .int 0, .ref (ex 27), .ref (ex 28), .ref (ex 29), .ref (ex 30), .ref (ex 31), .ref (ex 32), .ref (ex 33), .ref (ex 34), .ref (ex 35), .ref (ex 36)])), ((a 3), .inl (T 1, 2187, .inl (fun _ => 0)))] H) (hD : va_D A [((a 0), .inr (11, [.ref (ex 0), .ref (a 2), .ref (ex 1), .ref (ex 2), .ref (ex 3), .ref (ex 4), .ref (ex 5), .ref (ex 6), .ref (ex 7), .ref (ex 8), .ref (ex 9), .ref (ex 10), .ref (ex 11), .ref (ex 12), .int 0])), ((a 1), .inr (12, ((.int 0) :: (.ref (ex 13)) :: (.int 0) :: (.int 0) :: (.int 0) :: (.int 0) :: (.ref (a 3)) :: (.ref (ex 14)) :: (.ref (ex 15)) :: (.ref (ex 16)) :: (.ref (ex 17)) :: (.int 0) :: (.int 0) :: (.int 0) :: (.int 0) :: (.int 0) :: (.int 0) :: (.long 0) :: (.int 0) :: (.int 0) :: (.int 0) :: (.ref (ex 18)) :: (.ref (ex 19)) :: (.int 0) :: (.ref (ex 20)) :: (.int (-1)) :: (.int 0) :: (.int 0) :: (.int 0) :: (.int 0) :: (.int 0) :: (.int 0) :: (.ref (ex 21)) :: (.int 0) :: (.ref (ex 22)) :: (.int 0) :: (.int 0) :: (.int 0) :: (.int 0) :: (.int 0) :: (.ref (ex 23)) :: (.ref (ex 24)) :: (.ref (ex 25)) :: (.ref (ex 26)) :: []))), ((a 2), .inr (7, [.int 0, .int 0, .ref (ex 27), .ref (ex 28), .ref (ex 29), .ref (ex 30), .ref (ex 31), .ref (ex 32), .ref (ex 33), .ref (ex 34), .ref (ex 35), .ref (ex 36)])), ((a 3), .inl (T 1, 2187, .inl (fun _ => 0)))]) (hS : va_S A s.heap H locs) (hl : lv_has ls 7 [(4, .int 0), (3, .ref (ex 37)), (2, .ref (a 1)), (1, .ref (a 0)), (0, .ref b)]) : W p l e R s m #[Value.ref b] below meth c H locs 172 22099 Q (F0 m 804 ls []) := by
  refine lv_aload_n hx hb dL_law_804 rfl (lv_at hl 3 rfl) ?_
  refine lv_aload_n hx hb dL_law_805 rfl (lv_at hl 4 rfl) ?_
  refine lv_iload hx hb dL_law_806 (lv_at hl 0 rfl) ?_
  refine lv_iconst (v := 1) hx hb dL_law_808 (by decide) ?_
  refine lv_iadd hx hb dL_law_809 ?_
  refine xz_i 1 (by decide) ?_
  refine va_sld hx hb hX hbl hbA hS (vp_in_nI (n := 1) (by decide) (by decide)) dL_law_810 ?_
  refine xz_i x1 hx1 ?_
  refine lv_aload_n hx hb dL_law_811 rfl (lv_at hl 4 rfl) ?_
  refine lv_iload hx hb dL_law_812 (lv_at hl 0 rfl) ?_
  refine lv_iconst (v := 2) hx hb dL_law_814 (by decide) ?_
  refine lv_iadd hx hb dL_law_815 ?_
  refine xz_i 2 (by decide) ?_
  refine va_sld hx hb hX hbl hbA hS (vp_in_nI (n := 2) (by decide) (by decide)) dL_law_816 ?_
  refine xz_i x2 hx2 ?_
  have hPc := hP.sub (ws' := (pre_X11_called T (xa [(a 0), (a 2)]) (xa [(ex 0), (ex 1), (ex 2), (ex 3), (ex 4), (ex 5), (ex 6), (ex 7), (ex 8), (ex 9), (ex 10), (ex 11), (ex 12), (ex 27), (ex 28), (ex 29), (ex 30), (ex 31), (ex 32), (ex 33), (ex 34), (ex 35), (ex 36)]) (xf []) (xh []) (xv [x1, x2]))) [0, 2] rfl
  have hDc := hD.sub (ws' := (pre_X11_called T (xa [(a 0), (a 2)]) (xa [(ex 0), (ex 1), (ex 2), (ex 3), (ex 4), (ex 5), (ex 6), (ex 7), (ex 8), (ex 9), (ex 10), (ex 11), (ex 12), (ex 27), (ex 28), (ex 29), (ex 30), (ex 31), (ex 32), (ex 33), (ex 34), (ex 35), (ex 36)]) (xf []) (xh []) (xv [x1, x2]))) [0, 2] (by decide) rfl
  have hFc := va_free (wc := (pre_X11_called T (xa [(a 0), (a 2)]) (xa [(ex 0), (ex 1), (ex 2), (ex 3), (ex 4), (ex 5), (ex 6), (ex 7), (ex 8), (ex 9), (ex 10), (ex 11), (ex 12), (ex 27), (ex 28), (ex 29), (ex 30), (ex 31), (ex 32), (ex 33), (ex 34), (ex 35), (ex 36)]) (xf []) (xh []) (xv [x1, x2]))) hD hS hA [0, 2] rfl
  refine va_calli (va_runV (As := [.int x1, .int x2]) (rest := []) ⟨hx, hb, hml, hown, htg⟩ (c_X11_called l D T (xa [(a 0), (a 2)]) (xa [(ex 0), (ex 1), (ex 2), (ex 3), (ex 4), (ex 5), (ex 6), (ex 7), (ex 8), (ex 9), (ex 10), (ex 11), (ex 12), (ex 27), (ex 28), (ex 29), (ex 30), (ex 31), (ex 32), (ex 33), (ex 34), (ex 35), (ex 36)]) (xf []) (xh []) (xv [x1, x2]) H.size) ⟨callB_of 2 htg (xg_ok kw_944) rfl rfl rfl (htg _ kw_1) (htg _ kw_941) (by decide +kernel) ⟨by rw [hR]; exact Nat.le_of_ble_eq_true rfl, by rw [hR]; exact Nat.le_of_ble_eq_true rfl⟩, htg _ kw_942, htg _ kw_943⟩ (xpreV hK hPc hDc (va_recv hK.1 hPc (ci := 11) (q0 := 0) rfl rfl)) rfl rfl hl.1 rfl (lv_room (Nat.le_of_ble_eq_true rfl)) dL_law_817 ⟨by rw [hR]; exact Nat.le_of_ble_eq_true rfl, by rw [hR]; exact Nat.le_of_ble_eq_true rfl⟩) hS (fun q _ h => hFc q h) hFc (fun r9 u t H1 locs ht hvm hw hB hz1 hk1 hS => ?_)
  obtain ⟨bk, fik, flk, vik, hP1, hD1, hGk⟩ := hB
  rw [ht] at hP1
  obtain ⟨hP, hD⟩ := va_join (wr := [((a 1), .inr (12, ((.int 0) :: (.ref (ex 13)) :: (.int 0) :: (.int 0) :: (.int 0) :: (.int 0) :: (.ref (a 3)) :: (.ref (ex 14)) :: (.ref (ex 15)) :: (.ref (ex 16)) :: (.ref (ex 17)) :: (.int 0) :: (.int 0) :: (.int 0) :: (.int 0) :: (.int 0) :: (.int 0) :: (.long 0) :: (.int 0) :: (.int 0) :: (.int 0) :: (.ref (ex 18)) :: (.ref (ex 19)) :: (.int 0) :: (.ref (ex 20)) :: (.int (-1)) :: (.int 0) :: (.int 0) :: (.int 0) :: (.int 0) :: (.int 0) :: (.int 0) :: (.ref (ex 21)) :: (.int 0) :: (.ref (ex 22)) :: (.int 0) :: (.int 0) :: (.int 0) :: (.int 0) :: (.int 0) :: (.ref (ex 23)) :: (.ref (ex 24)) :: (.ref (ex 25)) :: (.ref (ex 26)) :: []))), ((a 3), .inl (T 1, 2187, .inl (fun _ => 0)))]) (w1 := []) hP hD [0, 2] [1, 3] rfl rfl (by decide) (by decide) hk1 hFc hP1 hD1
  subst hw
  clear hPc hDc hFc hP1 hD1 hk1 hz1 hvm ht
  generalize H1 = H at hP hS ⊢
  replace hP : va_P D vwCl [((a 1), .inr (12, ((.int 0) :: (.ref (ex 13)) :: (.int 0) :: (.int 0) :: (.int 0) :: (.int 0) :: (.ref (a 3)) :: (.ref (ex 14)) :: (.ref (ex 15)) :: (.ref (ex 16)) :: (.ref (ex 17)) :: (.int 0) :: (.int 0) :: (.int 0) :: (.int 0) :: (.int 0) :: (.int 0) :: (.long 0) :: (.int 0) :: (.int 0) :: (.int 0) :: (.ref (ex 18)) :: (.ref (ex 19)) :: (.int 0) :: (.ref (ex 20)) :: (.int (-1)) :: (.int 0) :: (.int 0) :: (.int 0) :: (.int 0) :: (.int 0) :: (.int 0) :: (.ref (ex 21)) :: (.int 0) :: (.ref (ex 22)) :: (.int 0) :: (.int 0) :: (.int 0) :: (.int 0) :: (.int 0) :: (.ref (ex 23)) :: (.ref (ex 24)) :: (.ref (ex 25)) :: (.ref (ex 26)) :: []))), ((a 3), .inl (T 1, 2187, .inl (fun _ => 0)))] H := hP
  replace hD : va_D A [((a 1), .inr (12, ((.int 0) :: (.ref (ex 13)) :: (.int 0) :: (.int 0) :: (.int 0) :: (.int 0) :: (.ref (a 3)) :: (.ref (ex 14)) :: (.ref (ex 15)) :: (.ref (ex 16)) :: (.ref (ex 17)) :: (.int 0) :: (.int 0) :: (.int 0) :: (.int 0) :: (.int 0) :: (.int 0) :: (.long 0) :: (.int 0) :: (.int 0) :: (.int 0) :: (.ref (ex 18)) :: (.ref (ex 19)) :: (.int 0) :: (.ref (ex 20)) :: (.int (-1)) :: (.int 0) :: (.int 0) :: (.int 0) :: (.int 0) :: (.int 0) :: (.int 0) :: (.ref (ex 21)) :: (.int 0) :: (.ref (ex 22)) :: (.int 0) :: (.int 0) :: (.int 0) :: (.int 0) :: (.int 0) :: (.ref (ex 23)) :: (.ref (ex 24)) :: (.ref (ex 25)) :: (.ref (ex 26)) :: []))), ((a 3), .inl (T 1, 2187, .inl (fun _ => 0)))] := hD
  refine lv_aload_n hx hb dL_law_820 rfl (lv_at hl 2 rfl) ?_
  refine lv_aload_n hx hb dL_law_821 rfl (lv_at hl 4 rfl) ?_
  refine lv_iload hx hb dL_law_822 (lv_at hl 0 rfl) ?_
  refine lv_iconst (v := 1) hx hb dL_law_824 (by decide) ?_
  refine lv_iadd hx hb dL_law_825 ?_
  refine xz_i 1 (by decide) ?_
  refine va_sld hx hb hX hbl hbA hS (vp_in_nI (n := 1) (by decide) (by decide)) dL_law_826 ?_
  refine xz_i x1 hx1 ?_
  refine lv_aload_n hx hb dL_law_827 rfl (lv_at hl 4 rfl) ?_
  refine lv_iload hx hb dL_law_828 (lv_at hl 0 rfl) ?_
  refine lv_iconst (v := 2) hx hb dL_law_830 (by decide) ?_
  refine lv_iadd hx hb dL_law_831 ?_
  refine xz_i 2 (by decide) ?_
  refine va_sld hx hb hX hbl hbA hS (vp_in_nI (n := 2) (by decide) (by decide)) dL_law_832 ?_
  refine xz_i x2 hx2 ?_
  have hPc := hP.sub (ws' := (pre_X12_called T (xa [(a 1), (a 3)]) (xa [(ex 13), (ex 14), (ex 15), (ex 16), (ex 17), (ex 18), (ex 19), (ex 20), (ex 21), (ex 22), (ex 23), (ex 24), (ex 25), (ex 26)]) (xf []) (xh []) (xv [x1, x2]))) [0, 1] rfl
  have hDc := hD.sub (ws' := (pre_X12_called T (xa [(a 1), (a 3)]) (xa [(ex 13), (ex 14), (ex 15), (ex 16), (ex 17), (ex 18), (ex 19), (ex 20), (ex 21), (ex 22), (ex 23), (ex 24), (ex 25), (ex 26)]) (xf []) (xh []) (xv [x1, x2]))) [0, 1] (by decide) rfl
  have hFc := va_free (wc := (pre_X12_called T (xa [(a 1), (a 3)]) (xa [(ex 13), (ex 14), (ex 15), (ex 16), (ex 17), (ex 18), (ex 19), (ex 20), (ex 21), (ex 22), (ex 23), (ex 24), (ex 25), (ex 26)]) (xf []) (xh []) (xv [x1, x2]))) hD hS hA [0, 1] rfl
  refine va_calli (va_runV (As := [.int x1, .int x2]) (rest := [.int (-2)]) ⟨hx, hb, hml, hown, htg⟩ (c_X12_called l D T (xa [(a 1), (a 3)]) (xa [(ex 13), (ex 14), (ex 15), (ex 16), (ex 17), (ex 18), (ex 19), (ex 20), (ex 21), (ex 22), (ex 23), (ex 24), (ex 25), (ex 26)]) (xf []) (xh []) (xv [x1, x2]) H.size) ⟨callB_of 2 htg (xg_ok kw_1797) rfl rfl rfl (htg _ kw_17) (htg _ kw_1794) (by decide +kernel) ⟨by rw [hR]; exact Nat.le_of_ble_eq_true rfl, by rw [hR]; exact Nat.le_of_ble_eq_true rfl⟩, htg _ kw_1795, htg _ kw_1796⟩ (xpreV hK hPc hDc (va_recv hK.1 hPc (ci := 12) (q0 := 0) rfl rfl)) rfl rfl hl.1 rfl (lv_room (Nat.le_of_ble_eq_true rfl)) dL_law_833 ⟨by rw [hR]; exact Nat.le_of_ble_eq_true rfl, by rw [hR]; exact Nat.le_of_ble_eq_true rfl⟩) hS (fun q _ h => hFc q h) hFc (fun r9 u t H1 locs ht hvm hw hB hz1 hk1 hS => ?_)
  obtain ⟨bk_1, fik_1, flk_1, vik_1, hP1, hD1, hGk_1⟩ := hB
  rw [ht] at hP1
  obtain ⟨hP, hD⟩ := va_join (wr := []) (w1 := []) hP hD [0, 1] [] rfl rfl (by decide) (by decide) hk1 hFc hP1 hD1
  subst hw
  clear hPc hDc hFc hP1 hD1 hk1 hz1 hvm ht
  generalize H1 = H at hP hS ⊢
  replace hP : va_P D vwCl [] H := hP
  replace hD : va_D A [] := hD
  refine lv_icmp_eq (tgt := 1466) hx hb dL_law_836 (by decide) (fun _ => ?_) (fun c => absurd (by decide) c)
  refine lv_iinc (v := 6) (lv' := [(4, .int 6), (3, .ref (ex 37)), (2, .ref (a 1)), (1, .ref (a 0)), (0, .ref b)]) hx hb dL_law_1466 hl (k := 0) rfl (by decide) (by decide) rfl (fun ls hl => ?_)
  refine lv_goto (tgt := 23) hx hb dL_law_1469 (by decide) ?_
  refine lv_iload hx hb dL_law_23 (lv_at hl 0 rfl) ?_
  refine lv_aload_n hx hb dL_law_25 rfl (lv_at hl 4 rfl) ?_
  refine va_slen hx hb hX hbl hbA hS dL_law_26 ?_
  refine xz_i 6 rfl ?_
  refine lv_bipush (v := 6) hx hb dL_law_27 (by decide) ?_
  refine lv_isub hx hb dL_law_29 ?_
  refine xz_i 0 (by decide) ?_
  refine lv_icmp_gt (tgt := 1472) hx hb dL_law_30 (by decide) (fun _ => ?_) (fun c => absurd (by decide) c)
  refine lv_iconst (v := 1) hx hb dL_law_1472 (by decide) ?_
  refine va_forget (fun q hq => by have h9 := hS.2.2 q hq; rw [hAe] at h9; exact h9) ?_
  refine W.widen (k := 600002) (n := 7302232) (Nat.le_of_ble_eq_true rfl) (Nat.le_of_ble_eq_true rfl) ?_
  subst hR
  rw [hQ]
  exact lw_ret hx hb hr hlocks dL_law_1473
set_option maxHeartbeats 4000000 in
set_option maxRecDepth 100000 in
theorem lw_holder {p : Program} {e : Env} {s : State} {m : MethodId} {below : List Frame} {meth : Method} {c : Code} (l : Launch) (hlt : l.stackTraces = false) {b : Nat} {xs : Nat → Int32} (D : va_G) (T : Nat → ClassId) (a ex : Nat → Nat) (fi : Nat → Nat → Int32) (fl : Nat → Nat → Int64) (vi : Nat → Int32) (kK kV : Nat → Nat) (R : Room) (Q : State → Prop) (A : Nat → Prop) (hR : R = room_1) (hQ : Q = lw_Z below #[Value.ref b] s) (hAe : A = fun q => s.heap.size ≤ q) (hx : p.tables.exec = Jvm.exec) (hb : c.code = code) (hr : meth.sig.returnType = ret) (hml : c.maxLocals = 7) (hown : s.vm.findClass RL = some m.cls) (htg : ∀ w ∈ xg, w.before #[Value.ref b] s = true) (hbl : b < s.heap.size) (hbA : ¬ A b) (hlocks : meth.locks = false) (hK : xK D T s) (hA : ∀ q : Nat, s.heap.size ≤ q → A q) (hT : xT kK kV A s s.heap) (hZt : xZ2 A s s.heap) (hX : va_X b 6 xs s s.heap) (x1 x2 x3 x4 x5 : Int32) (hx1 : xs 1 = x1) (hx2 : xs 2 = x2) (hx3 : xs 3 = x3) (hx4 : xs 4 = x4) (hx5 : xs 5 = x5) (H : Heap) (locs : List Loc) (ls : Array Slot) (hP : va_P D vwCl [((a 0), .inr (11, [.ref (ex 0), .ref (a 2), .ref (ex 1), .ref (ex 2), .ref (ex 3), .ref (ex 4), .ref (ex 5), .ref (ex 6), .ref (ex 7), .ref (ex 8), .ref (ex 9), .ref (ex 10), .ref (ex 11), .ref (ex 12), .int 0])), ((a 1), .inr (12, ((.int 0) :: (.ref (ex 13)) :: (.int 0) :: (.int 0) :: (.int 0) :: (.int 0) :: (.ref (a 3)) :: (.ref (ex 14)) :: (.ref (ex 15)) :: (.ref (ex 16)) :: (.ref (ex 17)) :: (.int 0) :: (.int 0) :: (.int 0) :: (.int 0) :: (.int 0) :: (.int 0) :: (.long 0) :: (.int 0) :: (.int 0) :: (.int 0) :: (.ref (ex 18)) :: (.ref (ex 19)) :: (.int 0) :: (.ref (ex 20)) :: (.int (-1)) :: (.int 0) :: (.int 0) :: (.int 0) :: (.int 0) :: (.int 0) :: (.int 0) :: (.ref (ex 21)) :: (.int 0) :: (.ref (ex 22)) :: (.int 0) :: (.int 0) :: (.int 0) :: (.int 0) :: (.int 0) :: (.ref (ex 23)) :: (.ref (ex 24)) :: (.ref (ex 25)) :: (.ref (ex 26)) :: []))), ((a 2), .inr (7, [.int 0, .int 0, .ref (ex 27), .ref (ex 28), .ref (ex 29), .ref (ex 30), .ref (ex 31), .ref (ex 32), .ref (ex 33), .ref (ex 34), .ref (ex 35), .ref (ex 36)])), ((a 3), .inl (T 1, 2187, .inl (fun _ => 0)))] H) (hD : va_D A [((a 0), .inr (11, [.ref (ex 0), .ref (a 2), .ref (ex 1), .ref (ex 2), .ref (ex 3), .ref (ex 4), .ref (ex 5), .ref (ex 6), .ref (ex 7), .ref (ex 8), .ref (ex 9), .ref (ex 10), .ref (ex 11), .ref (ex 12), .int 0])), ((a 1), .inr (12, ((.int 0) :: (.ref (ex 13)) :: (.int 0) :: (.int 0) :: (.int 0) :: (.int 0) :: (.ref (a 3)) :: (.ref (ex 14)) :: (.ref (ex 15)) :: (.ref (ex 16)) :: (.ref (ex 17)) :: (.int 0) :: (.int 0) :: (.int 0) :: (.int 0) :: (.int 0) :: (.int 0) :: (.long 0) :: (.int 0) :: (.int 0) :: (.int 0) :: (.ref (ex 18)) :: (.ref (ex 19)) :: (.int 0) :: (.ref (ex 20)) :: (.int (-1)) :: (.int 0) :: (.int 0) :: (.int 0) :: (.int 0) :: (.int 0) :: (.int 0) :: (.ref (ex 21)) :: (.int 0) :: (.ref (ex 22)) :: (.int 0) :: (.int 0) :: (.int 0) :: (.int 0) :: (.int 0) :: (.ref (ex 23)) :: (.ref (ex 24)) :: (.ref (ex 25)) :: (.ref (ex 26)) :: []))), ((a 2), .inr (7, [.int 0, .int 0, .ref (ex 27), .ref (ex 28), .ref (ex 29), .ref (ex 30), .ref (ex 31), .ref (ex 32), .ref (ex 33), .ref (ex 34), .ref (ex 35), .ref (ex 36)])), ((a 3), .inl (T 1, 2187, .inl (fun _ => 0)))]) (hS : va_S A s.heap H locs) (hl : lv_has ls 7 [(4, .int 0), (3, .ref (ex 37)), (2, .ref (a 1)), (1, .ref (a 0)), (0, .ref b)]) : W p l e R s m #[Value.ref b] below meth c H locs 172 22099 Q (F0 m 841 ls []) := by
  refine lv_aload_n hx hb dL_law_841 rfl (lv_at hl 3 rfl) ?_
  refine lv_aload_n hx hb dL_law_842 rfl (lv_at hl 4 rfl) ?_
  refine lv_iload hx hb dL_law_843 (lv_at hl 0 rfl) ?_
  refine lv_iconst (v := 1) hx hb dL_law_845 (by decide) ?_
  refine lv_iadd hx hb dL_law_846 ?_
  refine xz_i 1 (by decide) ?_
  refine va_sld hx hb hX hbl hbA hS (vp_in_nI (n := 1) (by decide) (by decide)) dL_law_847 ?_
  refine xz_i x1 hx1 ?_
  refine lv_aload_n hx hb dL_law_848 rfl (lv_at hl 4 rfl) ?_
  refine lv_iload hx hb dL_law_849 (lv_at hl 0 rfl) ?_
  refine lv_iconst (v := 2) hx hb dL_law_851 (by decide) ?_
  refine lv_iadd hx hb dL_law_852 ?_
  refine xz_i 2 (by decide) ?_
  refine va_sld hx hb hX hbl hbA hS (vp_in_nI (n := 2) (by decide) (by decide)) dL_law_853 ?_
  refine xz_i x2 hx2 ?_
  have hPc := hP.sub (ws' := (pre_X11_holder T (xa [(a 0), (a 2)]) (xa [(ex 0), (ex 1), (ex 2), (ex 3), (ex 4), (ex 5), (ex 6), (ex 7), (ex 8), (ex 9), (ex 10), (ex 11), (ex 12), (ex 27), (ex 28), (ex 29), (ex 30), (ex 31), (ex 32), (ex 33), (ex 34), (ex 35), (ex 36)]) (xf []) (xh []) (xv [x1, x2]))) [0, 2] rfl
  have hDc := hD.sub (ws' := (pre_X11_holder T (xa [(a 0), (a 2)]) (xa [(ex 0), (ex 1), (ex 2), (ex 3), (ex 4), (ex 5), (ex 6), (ex 7), (ex 8), (ex 9), (ex 10), (ex 11), (ex 12), (ex 27), (ex 28), (ex 29), (ex 30), (ex 31), (ex 32), (ex 33), (ex 34), (ex 35), (ex 36)]) (xf []) (xh []) (xv [x1, x2]))) [0, 2] (by decide) rfl
  have hFc := va_free (wc := (pre_X11_holder T (xa [(a 0), (a 2)]) (xa [(ex 0), (ex 1), (ex 2), (ex 3), (ex 4), (ex 5), (ex 6), (ex 7), (ex 8), (ex 9), (ex 10), (ex 11), (ex 12), (ex 27), (ex 28), (ex 29), (ex 30), (ex 31), (ex 32), (ex 33), (ex 34), (ex 35), (ex 36)]) (xf []) (xh []) (xv [x1, x2]))) hD hS hA [0, 2] rfl
  refine va_calli (va_runV (As := [.int x1, .int x2]) (rest := []) ⟨hx, hb, hml, hown, htg⟩ (c_X11_holder l D T (xa [(a 0), (a 2)]) (xa [(ex 0), (ex 1), (ex 2), (ex 3), (ex 4), (ex 5), (ex 6), (ex 7), (ex 8), (ex 9), (ex 10), (ex 11), (ex 12), (ex 27), (ex 28), (ex 29), (ex 30), (ex 31), (ex 32), (ex 33), (ex 34), (ex 35), (ex 36)]) (xf []) (xh []) (xv [x1, x2]) H.size) ⟨callB_of 2 htg (xg_ok kw_958) rfl rfl rfl (htg _ kw_1) (htg _ kw_955) (by decide +kernel) ⟨by rw [hR]; exact Nat.le_of_ble_eq_true rfl, by rw [hR]; exact Nat.le_of_ble_eq_true rfl⟩, htg _ kw_956, htg _ kw_957⟩ (xpreV hK hPc hDc (va_recv hK.1 hPc (ci := 11) (q0 := 0) rfl rfl)) rfl rfl hl.1 rfl (lv_room (Nat.le_of_ble_eq_true rfl)) dL_law_854 ⟨by rw [hR]; exact Nat.le_of_ble_eq_true rfl, by rw [hR]; exact Nat.le_of_ble_eq_true rfl⟩) hS (fun q _ h => hFc q h) hFc (fun r9 u t H1 locs ht hvm hw hB hz1 hk1 hS => ?_)
  obtain ⟨bk, fik, flk, vik, hP1, hD1, hGk⟩ := hB
  rw [ht] at hP1
  obtain ⟨hP, hD⟩ := va_join (wr := [((a 1), .inr (12, ((.int 0) :: (.ref (ex 13)) :: (.int 0) :: (.int 0) :: (.int 0) :: (.int 0) :: (.ref (a 3)) :: (.ref (ex 14)) :: (.ref (ex 15)) :: (.ref (ex 16)) :: (.ref (ex 17)) :: (.int 0) :: (.int 0) :: (.int 0) :: (.int 0) :: (.int 0) :: (.int 0) :: (.long 0) :: (.int 0) :: (.int 0) :: (.int 0) :: (.ref (ex 18)) :: (.ref (ex 19)) :: (.int 0) :: (.ref (ex 20)) :: (.int (-1)) :: (.int 0) :: (.int 0) :: (.int 0) :: (.int 0) :: (.int 0) :: (.int 0) :: (.ref (ex 21)) :: (.int 0) :: (.ref (ex 22)) :: (.int 0) :: (.int 0) :: (.int 0) :: (.int 0) :: (.int 0) :: (.ref (ex 23)) :: (.ref (ex 24)) :: (.ref (ex 25)) :: (.ref (ex 26)) :: []))), ((a 3), .inl (T 1, 2187, .inl (fun _ => 0)))]) (w1 := []) hP hD [0, 2] [1, 3] rfl rfl (by decide) (by decide) hk1 hFc hP1 hD1
  subst hw
  clear hPc hDc hFc hP1 hD1 hk1 hz1 hvm ht
  generalize H1 = H at hP hS ⊢
  replace hP : va_P D vwCl [((a 1), .inr (12, ((.int 0) :: (.ref (ex 13)) :: (.int 0) :: (.int 0) :: (.int 0) :: (.int 0) :: (.ref (a 3)) :: (.ref (ex 14)) :: (.ref (ex 15)) :: (.ref (ex 16)) :: (.ref (ex 17)) :: (.int 0) :: (.int 0) :: (.int 0) :: (.int 0) :: (.int 0) :: (.int 0) :: (.long 0) :: (.int 0) :: (.int 0) :: (.int 0) :: (.ref (ex 18)) :: (.ref (ex 19)) :: (.int 0) :: (.ref (ex 20)) :: (.int (-1)) :: (.int 0) :: (.int 0) :: (.int 0) :: (.int 0) :: (.int 0) :: (.int 0) :: (.ref (ex 21)) :: (.int 0) :: (.ref (ex 22)) :: (.int 0) :: (.int 0) :: (.int 0) :: (.int 0) :: (.int 0) :: (.ref (ex 23)) :: (.ref (ex 24)) :: (.ref (ex 25)) :: (.ref (ex 26)) :: []))), ((a 3), .inl (T 1, 2187, .inl (fun _ => 0)))] H := hP
  replace hD : va_D A [((a 1), .inr (12, ((.int 0) :: (.ref (ex 13)) :: (.int 0) :: (.int 0) :: (.int 0) :: (.int 0) :: (.ref (a 3)) :: (.ref (ex 14)) :: (.ref (ex 15)) :: (.ref (ex 16)) :: (.ref (ex 17)) :: (.int 0) :: (.int 0) :: (.int 0) :: (.int 0) :: (.int 0) :: (.int 0) :: (.long 0) :: (.int 0) :: (.int 0) :: (.int 0) :: (.ref (ex 18)) :: (.ref (ex 19)) :: (.int 0) :: (.ref (ex 20)) :: (.int (-1)) :: (.int 0) :: (.int 0) :: (.int 0) :: (.int 0) :: (.int 0) :: (.int 0) :: (.ref (ex 21)) :: (.int 0) :: (.ref (ex 22)) :: (.int 0) :: (.int 0) :: (.int 0) :: (.int 0) :: (.int 0) :: (.ref (ex 23)) :: (.ref (ex 24)) :: (.ref (ex 25)) :: (.ref (ex 26)) :: []))), ((a 3), .inl (T 1, 2187, .inl (fun _ => 0)))] := hD
  refine lv_aload_n hx hb dL_law_857 rfl (lv_at hl 2 rfl) ?_
  refine lv_aload_n hx hb dL_law_858 rfl (lv_at hl 4 rfl) ?_
  refine lv_iload hx hb dL_law_859 (lv_at hl 0 rfl) ?_
  refine lv_iconst (v := 1) hx hb dL_law_861 (by decide) ?_
  refine lv_iadd hx hb dL_law_862 ?_
  refine xz_i 1 (by decide) ?_
  refine va_sld hx hb hX hbl hbA hS (vp_in_nI (n := 1) (by decide) (by decide)) dL_law_863 ?_
  refine xz_i x1 hx1 ?_
  refine lv_aload_n hx hb dL_law_864 rfl (lv_at hl 4 rfl) ?_
  refine lv_iload hx hb dL_law_865 (lv_at hl 0 rfl) ?_
  refine lv_iconst (v := 2) hx hb dL_law_867 (by decide) ?_
  refine lv_iadd hx hb dL_law_868 ?_
  refine xz_i 2 (by decide) ?_
  refine va_sld hx hb hX hbl hbA hS (vp_in_nI (n := 2) (by decide) (by decide)) dL_law_869 ?_
  refine xz_i x2 hx2 ?_
  have hPc := hP.sub (ws' := (pre_X12_holder T (xa [(a 1), (a 3)]) (xa [(ex 13), (ex 14), (ex 15), (ex 16), (ex 17), (ex 18), (ex 19), (ex 20), (ex 21), (ex 22), (ex 23), (ex 24), (ex 25), (ex 26)]) (xf []) (xh []) (xv [x1, x2]))) [0, 1] rfl
  have hDc := hD.sub (ws' := (pre_X12_holder T (xa [(a 1), (a 3)]) (xa [(ex 13), (ex 14), (ex 15), (ex 16), (ex 17), (ex 18), (ex 19), (ex 20), (ex 21), (ex 22), (ex 23), (ex 24), (ex 25), (ex 26)]) (xf []) (xh []) (xv [x1, x2]))) [0, 1] (by decide) rfl
  have hFc := va_free (wc := (pre_X12_holder T (xa [(a 1), (a 3)]) (xa [(ex 13), (ex 14), (ex 15), (ex 16), (ex 17), (ex 18), (ex 19), (ex 20), (ex 21), (ex 22), (ex 23), (ex 24), (ex 25), (ex 26)]) (xf []) (xh []) (xv [x1, x2]))) hD hS hA [0, 1] rfl
  refine va_calli (va_runV (As := [.int x1, .int x2]) (rest := [.int (-2)]) ⟨hx, hb, hml, hown, htg⟩ (c_X12_holder l D T (xa [(a 1), (a 3)]) (xa [(ex 13), (ex 14), (ex 15), (ex 16), (ex 17), (ex 18), (ex 19), (ex 20), (ex 21), (ex 22), (ex 23), (ex 24), (ex 25), (ex 26)]) (xf []) (xh []) (xv [x1, x2]) H.size) ⟨callB_of 2 htg (xg_ok kw_1809) rfl rfl rfl (htg _ kw_17) (htg _ kw_1806) (by decide +kernel) ⟨by rw [hR]; exact Nat.le_of_ble_eq_true rfl, by rw [hR]; exact Nat.le_of_ble_eq_true rfl⟩, htg _ kw_1807, htg _ kw_1808⟩ (xpreV hK hPc hDc (va_recv hK.1 hPc (ci := 12) (q0 := 0) rfl rfl)) rfl rfl hl.1 rfl (lv_room (Nat.le_of_ble_eq_true rfl)) dL_law_870 ⟨by rw [hR]; exact Nat.le_of_ble_eq_true rfl, by rw [hR]; exact Nat.le_of_ble_eq_true rfl⟩) hS (fun q _ h => hFc q h) hFc (fun r9 u t H1 locs ht hvm hw hB hz1 hk1 hS => ?_)
  obtain ⟨bk_1, fik_1, flk_1, vik_1, hP1, hD1, hGk_1⟩ := hB
  rw [ht] at hP1
  obtain ⟨hP, hD⟩ := va_join (wr := []) (w1 := []) hP hD [0, 1] [] rfl rfl (by decide) (by decide) hk1 hFc hP1 hD1
  subst hw
  clear hPc hDc hFc hP1 hD1 hk1 hz1 hvm ht
  generalize H1 = H at hP hS ⊢
  replace hP : va_P D vwCl [] H := hP
  replace hD : va_D A [] := hD
  refine lv_icmp_eq (tgt := 1466) hx hb dL_law_873 (by decide) (fun _ => ?_) (fun c => absurd (by decide) c)
  refine lv_iinc (v := 6) (lv' := [(4, .int 6), (3, .ref (ex 37)), (2, .ref (a 1)), (1, .ref (a 0)), (0, .ref b)]) hx hb dL_law_1466 hl (k := 0) rfl (by decide) (by decide) rfl (fun ls hl => ?_)
  refine lv_goto (tgt := 23) hx hb dL_law_1469 (by decide) ?_
  refine lv_iload hx hb dL_law_23 (lv_at hl 0 rfl) ?_
  refine lv_aload_n hx hb dL_law_25 rfl (lv_at hl 4 rfl) ?_
  refine va_slen hx hb hX hbl hbA hS dL_law_26 ?_
  refine xz_i 6 rfl ?_
  refine lv_bipush (v := 6) hx hb dL_law_27 (by decide) ?_
  refine lv_isub hx hb dL_law_29 ?_
  refine xz_i 0 (by decide) ?_
  refine lv_icmp_gt (tgt := 1472) hx hb dL_law_30 (by decide) (fun _ => ?_) (fun c => absurd (by decide) c)
  refine lv_iconst (v := 1) hx hb dL_law_1472 (by decide) ?_
  refine va_forget (fun q hq => by have h9 := hS.2.2 q hq; rw [hAe] at h9; exact h9) ?_
  refine W.widen (k := 600002) (n := 7302232) (Nat.le_of_ble_eq_true rfl) (Nat.le_of_ble_eq_true rfl) ?_
  subst hR
  rw [hQ]
  exact lw_ret hx hb hr hlocks dL_law_1473
set_option maxHeartbeats 4000000 in
set_option maxRecDepth 100000 in
theorem lw_bearers {p : Program} {e : Env} {s : State} {m : MethodId} {below : List Frame} {meth : Method} {c : Code} (l : Launch) (hlt : l.stackTraces = false) {b : Nat} {xs : Nat → Int32} (D : va_G) (T : Nat → ClassId) (a ex : Nat → Nat) (fi : Nat → Nat → Int32) (fl : Nat → Nat → Int64) (vi : Nat → Int32) (kK kV : Nat → Nat) (R : Room) (Q : State → Prop) (A : Nat → Prop) (hR : R = room_1) (hQ : Q = lw_Z below #[Value.ref b] s) (hAe : A = fun q => s.heap.size ≤ q) (hx : p.tables.exec = Jvm.exec) (hb : c.code = code) (hr : meth.sig.returnType = ret) (hml : c.maxLocals = 7) (hown : s.vm.findClass RL = some m.cls) (htg : ∀ w ∈ xg, w.before #[Value.ref b] s = true) (hbl : b < s.heap.size) (hbA : ¬ A b) (hlocks : meth.locks = false) (hK : xK D T s) (hA : ∀ q : Nat, s.heap.size ≤ q → A q) (hT : xT kK kV A s s.heap) (hZt : xZ2 A s s.heap) (hX : va_X b 6 xs s s.heap) (x1 x2 x3 x4 x5 : Int32) (hx1 : xs 1 = x1) (hx2 : xs 2 = x2) (hx3 : xs 3 = x3) (hx4 : xs 4 = x4) (hx5 : xs 5 = x5) (H : Heap) (locs : List Loc) (ls : Array Slot) (hP : va_P D vwCl [((a 0), .inr (11, [.ref (ex 0), .ref (a 2), .ref (ex 1), .ref (ex 2), .ref (ex 3), .ref (ex 4), .ref (ex 5), .ref (ex 6), .ref (ex 7), .ref (ex 8), .ref (ex 9), .ref (ex 10), .ref (ex 11), .ref (ex 12), .int 0])), ((a 1), .inr (12, ((.int 0) :: (.ref (ex 13)) :: (.int 0) :: (.int 0) :: (.int 0) :: (.int 0) :: (.ref (a 3)) :: (.ref (ex 14)) :: (.ref (ex 15)) :: (.ref (ex 16)) :: (.ref (ex 17)) :: (.int 0) :: (.int 0) :: (.int 0) :: (.int 0) :: (.int 0) :: (.int 0) :: (.long 0) :: (.int 0) :: (.int 0) :: (.int 0) :: (.ref (ex 18)) :: (.ref (ex 19)) :: (.int 0) :: (.ref (ex 20)) :: (.int (-1)) :: (.int 0) :: (.int 0) :: (.int 0) :: (.int 0) :: (.int 0) :: (.int 0) :: (.ref (ex 21)) :: (.int 0) :: (.ref (ex 22)) :: (.int 0) :: (.int 0) :: (.int 0) :: (.int 0) :: (.int 0) :: (.ref (ex 23)) :: (.ref (ex 24)) :: (.ref (ex 25)) :: (.ref (ex 26)) :: []))), ((a 2), .inr (7, [.int 0, .int 0, .ref (ex 27), .ref (ex 28), .ref (ex 29), .ref (ex 30), .ref (ex 31), .ref (ex 32), .ref (ex 33), .ref (ex 34), .ref (ex 35), .ref (ex 36)])), ((a 3), .inl (T 1, 2187, .inl (fun _ => 0)))] H) (hD : va_D A [((a 0), .inr (11, [.ref (ex 0), .ref (a 2), .ref (ex 1), .ref (ex 2), .ref (ex 3), .ref (ex 4), .ref (ex 5), .ref (ex 6), .ref (ex 7), .ref (ex 8), .ref (ex 9), .ref (ex 10), .ref (ex 11), .ref (ex 12), .int 0])), ((a 1), .inr (12, ((.int 0) :: (.ref (ex 13)) :: (.int 0) :: (.int 0) :: (.int 0) :: (.int 0) :: (.ref (a 3)) :: (.ref (ex 14)) :: (.ref (ex 15)) :: (.ref (ex 16)) :: (.ref (ex 17)) :: (.int 0) :: (.int 0) :: (.int 0) :: (.int 0) :: (.int 0) :: (.int 0) :: (.long 0) :: (.int 0) :: (.int 0) :: (.int 0) :: (.ref (ex 18)) :: (.ref (ex 19)) :: (.int 0) :: (.ref (ex 20)) :: (.int (-1)) :: (.int 0) :: (.int 0) :: (.int 0) :: (.int 0) :: (.int 0) :: (.int 0) :: (.ref (ex 21)) :: (.int 0) :: (.ref (ex 22)) :: (.int 0) :: (.int 0) :: (.int 0) :: (.int 0) :: (.int 0) :: (.ref (ex 23)) :: (.ref (ex 24)) :: (.ref (ex 25)) :: (.ref (ex 26)) :: []))), ((a 2), .inr (7, [.int 0, .int 0, .ref (ex 27), .ref (ex 28), .ref (ex 29), .ref (ex 30), .ref (ex 31), .ref (ex 32), .ref (ex 33), .ref (ex 34), .ref (ex 35), .ref (ex 36)])), ((a 3), .inl (T 1, 2187, .inl (fun _ => 0)))]) (hS : va_S A s.heap H locs) (hl : lv_has ls 7 [(4, .int 0), (3, .ref (ex 37)), (2, .ref (a 1)), (1, .ref (a 0)), (0, .ref b)]) : W p l e R s m #[Value.ref b] below meth c H locs 172 22099 Q (F0 m 878 ls []) := by
  refine lv_aload_n hx hb dL_law_878 rfl (lv_at hl 3 rfl) ?_
  refine lv_aload_n hx hb dL_law_879 rfl (lv_at hl 4 rfl) ?_
  refine lv_iload hx hb dL_law_880 (lv_at hl 0 rfl) ?_
  refine lv_iconst (v := 1) hx hb dL_law_882 (by decide) ?_
  refine lv_iadd hx hb dL_law_883 ?_
  refine xz_i 1 (by decide) ?_
  refine va_sld hx hb hX hbl hbA hS (vp_in_nI (n := 1) (by decide) (by decide)) dL_law_884 ?_
  refine xz_i x1 hx1 ?_
  have hPc := hP.sub (ws' := (pre_X11_bearers T (xa [(a 0), (a 2)]) (xa [(ex 0), (ex 1), (ex 2), (ex 3), (ex 4), (ex 5), (ex 6), (ex 7), (ex 8), (ex 9), (ex 10), (ex 11), (ex 12), (ex 27), (ex 28), (ex 29), (ex 30), (ex 31), (ex 32), (ex 33), (ex 34), (ex 35), (ex 36)]) (xf []) (xh []) (xv [x1]))) [0, 2] rfl
  have hDc := hD.sub (ws' := (pre_X11_bearers T (xa [(a 0), (a 2)]) (xa [(ex 0), (ex 1), (ex 2), (ex 3), (ex 4), (ex 5), (ex 6), (ex 7), (ex 8), (ex 9), (ex 10), (ex 11), (ex 12), (ex 27), (ex 28), (ex 29), (ex 30), (ex 31), (ex 32), (ex 33), (ex 34), (ex 35), (ex 36)]) (xf []) (xh []) (xv [x1]))) [0, 2] (by decide) rfl
  have hFc := va_free (wc := (pre_X11_bearers T (xa [(a 0), (a 2)]) (xa [(ex 0), (ex 1), (ex 2), (ex 3), (ex 4), (ex 5), (ex 6), (ex 7), (ex 8), (ex 9), (ex 10), (ex 11), (ex 12), (ex 27), (ex 28), (ex 29), (ex 30), (ex 31), (ex 32), (ex 33), (ex 34), (ex 35), (ex 36)]) (xf []) (xh []) (xv [x1]))) hD hS hA [0, 2] rfl
  refine va_calli (va_runV (As := [.int x1]) (rest := []) ⟨hx, hb, hml, hown, htg⟩ (c_X11_bearers l D T (xa [(a 0), (a 2)]) (xa [(ex 0), (ex 1), (ex 2), (ex 3), (ex 4), (ex 5), (ex 6), (ex 7), (ex 8), (ex 9), (ex 10), (ex 11), (ex 12), (ex 27), (ex 28), (ex 29), (ex 30), (ex 31), (ex 32), (ex 33), (ex 34), (ex 35), (ex 36)]) (xf []) (xh []) (xv [x1]) H.size) ⟨callB_of 1 htg (xg_ok kw_967) rfl rfl rfl (htg _ kw_1) (htg _ kw_964) (by decide +kernel) ⟨by rw [hR]; exact Nat.le_of_ble_eq_true rfl, by rw [hR]; exact Nat.le_of_ble_eq_true rfl⟩, htg _ kw_965, htg _ kw_966⟩ (xpreV hK hPc hDc (va_recv hK.1 hPc (ci := 11) (q0 := 0) rfl rfl)) rfl rfl hl.1 rfl (lv_room (Nat.le_of_ble_eq_true rfl)) dL_law_885 ⟨by rw [hR]; exact Nat.le_of_ble_eq_true rfl, by rw [hR]; exact Nat.le_of_ble_eq_true rfl⟩) hS (fun q _ h => hFc q h) hFc (fun r9 u t H1 locs ht hvm hw hB hz1 hk1 hS => ?_)
  obtain ⟨bk, fik, flk, vik, hP1, hD1, hGk⟩ := hB
  rw [ht] at hP1
  obtain ⟨hP, hD⟩ := va_join (wr := [((a 1), .inr (12, ((.int 0) :: (.ref (ex 13)) :: (.int 0) :: (.int 0) :: (.int 0) :: (.int 0) :: (.ref (a 3)) :: (.ref (ex 14)) :: (.ref (ex 15)) :: (.ref (ex 16)) :: (.ref (ex 17)) :: (.int 0) :: (.int 0) :: (.int 0) :: (.int 0) :: (.int 0) :: (.int 0) :: (.long 0) :: (.int 0) :: (.int 0) :: (.int 0) :: (.ref (ex 18)) :: (.ref (ex 19)) :: (.int 0) :: (.ref (ex 20)) :: (.int (-1)) :: (.int 0) :: (.int 0) :: (.int 0) :: (.int 0) :: (.int 0) :: (.int 0) :: (.ref (ex 21)) :: (.int 0) :: (.ref (ex 22)) :: (.int 0) :: (.int 0) :: (.int 0) :: (.int 0) :: (.int 0) :: (.ref (ex 23)) :: (.ref (ex 24)) :: (.ref (ex 25)) :: (.ref (ex 26)) :: []))), ((a 3), .inl (T 1, 2187, .inl (fun _ => 0)))]) (w1 := []) hP hD [0, 2] [1, 3] rfl rfl (by decide) (by decide) hk1 hFc hP1 hD1
  subst hw
  clear hPc hDc hFc hP1 hD1 hk1 hz1 hvm ht
  generalize H1 = H at hP hS ⊢
  replace hP : va_P D vwCl [((a 1), .inr (12, ((.int 0) :: (.ref (ex 13)) :: (.int 0) :: (.int 0) :: (.int 0) :: (.int 0) :: (.ref (a 3)) :: (.ref (ex 14)) :: (.ref (ex 15)) :: (.ref (ex 16)) :: (.ref (ex 17)) :: (.int 0) :: (.int 0) :: (.int 0) :: (.int 0) :: (.int 0) :: (.int 0) :: (.long 0) :: (.int 0) :: (.int 0) :: (.int 0) :: (.ref (ex 18)) :: (.ref (ex 19)) :: (.int 0) :: (.ref (ex 20)) :: (.int (-1)) :: (.int 0) :: (.int 0) :: (.int 0) :: (.int 0) :: (.int 0) :: (.int 0) :: (.ref (ex 21)) :: (.int 0) :: (.ref (ex 22)) :: (.int 0) :: (.int 0) :: (.int 0) :: (.int 0) :: (.int 0) :: (.ref (ex 23)) :: (.ref (ex 24)) :: (.ref (ex 25)) :: (.ref (ex 26)) :: []))), ((a 3), .inl (T 1, 2187, .inl (fun _ => 0)))] H := hP
  replace hD : va_D A [((a 1), .inr (12, ((.int 0) :: (.ref (ex 13)) :: (.int 0) :: (.int 0) :: (.int 0) :: (.int 0) :: (.ref (a 3)) :: (.ref (ex 14)) :: (.ref (ex 15)) :: (.ref (ex 16)) :: (.ref (ex 17)) :: (.int 0) :: (.int 0) :: (.int 0) :: (.int 0) :: (.int 0) :: (.int 0) :: (.long 0) :: (.int 0) :: (.int 0) :: (.int 0) :: (.ref (ex 18)) :: (.ref (ex 19)) :: (.int 0) :: (.ref (ex 20)) :: (.int (-1)) :: (.int 0) :: (.int 0) :: (.int 0) :: (.int 0) :: (.int 0) :: (.int 0) :: (.ref (ex 21)) :: (.int 0) :: (.ref (ex 22)) :: (.int 0) :: (.int 0) :: (.int 0) :: (.int 0) :: (.int 0) :: (.ref (ex 23)) :: (.ref (ex 24)) :: (.ref (ex 25)) :: (.ref (ex 26)) :: []))), ((a 3), .inl (T 1, 2187, .inl (fun _ => 0)))] := hD
  refine lv_aload_n hx hb dL_law_888 rfl (lv_at hl 2 rfl) ?_
  refine lv_aload_n hx hb dL_law_889 rfl (lv_at hl 4 rfl) ?_
  refine lv_iload hx hb dL_law_890 (lv_at hl 0 rfl) ?_
  refine lv_iconst (v := 1) hx hb dL_law_892 (by decide) ?_
  refine lv_iadd hx hb dL_law_893 ?_
  refine xz_i 1 (by decide) ?_
  refine va_sld hx hb hX hbl hbA hS (vp_in_nI (n := 1) (by decide) (by decide)) dL_law_894 ?_
  refine xz_i x1 hx1 ?_
  have hPc := hP.sub (ws' := (pre_X12_bearers T (xa [(a 1), (a 3)]) (xa [(ex 13), (ex 14), (ex 15), (ex 16), (ex 17), (ex 18), (ex 19), (ex 20), (ex 21), (ex 22), (ex 23), (ex 24), (ex 25), (ex 26)]) (xf []) (xh []) (xv [x1]))) [0, 1] rfl
  have hDc := hD.sub (ws' := (pre_X12_bearers T (xa [(a 1), (a 3)]) (xa [(ex 13), (ex 14), (ex 15), (ex 16), (ex 17), (ex 18), (ex 19), (ex 20), (ex 21), (ex 22), (ex 23), (ex 24), (ex 25), (ex 26)]) (xf []) (xh []) (xv [x1]))) [0, 1] (by decide) rfl
  have hFc := va_free (wc := (pre_X12_bearers T (xa [(a 1), (a 3)]) (xa [(ex 13), (ex 14), (ex 15), (ex 16), (ex 17), (ex 18), (ex 19), (ex 20), (ex 21), (ex 22), (ex 23), (ex 24), (ex 25), (ex 26)]) (xf []) (xh []) (xv [x1]))) hD hS hA [0, 1] rfl
  refine va_calli (va_runV (As := [.int x1]) (rest := [.int (-1)]) ⟨hx, hb, hml, hown, htg⟩ (c_X12_bearers l D T (xa [(a 1), (a 3)]) (xa [(ex 13), (ex 14), (ex 15), (ex 16), (ex 17), (ex 18), (ex 19), (ex 20), (ex 21), (ex 22), (ex 23), (ex 24), (ex 25), (ex 26)]) (xf []) (xh []) (xv [x1]) H.size) ⟨callB_of 1 htg (xg_ok kw_1813) rfl rfl rfl (htg _ kw_17) (htg _ kw_1810) (by decide +kernel) ⟨by rw [hR]; exact Nat.le_of_ble_eq_true rfl, by rw [hR]; exact Nat.le_of_ble_eq_true rfl⟩, htg _ kw_1811, htg _ kw_1812⟩ (xpreV hK hPc hDc (va_recv hK.1 hPc (ci := 12) (q0 := 0) rfl rfl)) rfl rfl hl.1 rfl (lv_room (Nat.le_of_ble_eq_true rfl)) dL_law_895 ⟨by rw [hR]; exact Nat.le_of_ble_eq_true rfl, by rw [hR]; exact Nat.le_of_ble_eq_true rfl⟩) hS (fun q _ h => hFc q h) hFc (fun r9 u t H1 locs ht hvm hw hB hz1 hk1 hS => ?_)
  obtain ⟨bk_1, fik_1, flk_1, vik_1, hP1, hD1, hGk_1⟩ := hB
  rw [ht] at hP1
  obtain ⟨hP, hD⟩ := va_join (wr := []) (w1 := []) hP hD [0, 1] [] rfl rfl (by decide) (by decide) hk1 hFc hP1 hD1
  subst hw
  clear hPc hDc hFc hP1 hD1 hk1 hz1 hvm ht
  generalize H1 = H at hP hS ⊢
  replace hP : va_P D vwCl [] H := hP
  replace hD : va_D A [] := hD
  refine lv_icmp_eq (tgt := 1466) hx hb dL_law_898 (by decide) (fun _ => ?_) (fun c => absurd (by decide) c)
  refine lv_iinc (v := 6) (lv' := [(4, .int 6), (3, .ref (ex 37)), (2, .ref (a 1)), (1, .ref (a 0)), (0, .ref b)]) hx hb dL_law_1466 hl (k := 0) rfl (by decide) (by decide) rfl (fun ls hl => ?_)
  refine lv_goto (tgt := 23) hx hb dL_law_1469 (by decide) ?_
  refine lv_iload hx hb dL_law_23 (lv_at hl 0 rfl) ?_
  refine lv_aload_n hx hb dL_law_25 rfl (lv_at hl 4 rfl) ?_
  refine va_slen hx hb hX hbl hbA hS dL_law_26 ?_
  refine xz_i 6 rfl ?_
  refine lv_bipush (v := 6) hx hb dL_law_27 (by decide) ?_
  refine lv_isub hx hb dL_law_29 ?_
  refine xz_i 0 (by decide) ?_
  refine lv_icmp_gt (tgt := 1472) hx hb dL_law_30 (by decide) (fun _ => ?_) (fun c => absurd (by decide) c)
  refine lv_iconst (v := 1) hx hb dL_law_1472 (by decide) ?_
  refine va_forget (fun q hq => by have h9 := hS.2.2 q hq; rw [hAe] at h9; exact h9) ?_
  refine W.widen (k := 600002) (n := 7302232) (Nat.le_of_ble_eq_true rfl) (Nat.le_of_ble_eq_true rfl) ?_
  subst hR
  rw [hQ]
  exact lw_ret hx hb hr hlocks dL_law_1473
set_option maxHeartbeats 4000000 in
set_option maxRecDepth 100000 in
theorem lw_howLong {p : Program} {e : Env} {s : State} {m : MethodId} {below : List Frame} {meth : Method} {c : Code} (l : Launch) (hlt : l.stackTraces = false) {b : Nat} {xs : Nat → Int32} (D : va_G) (T : Nat → ClassId) (a ex : Nat → Nat) (fi : Nat → Nat → Int32) (fl : Nat → Nat → Int64) (vi : Nat → Int32) (kK kV : Nat → Nat) (R : Room) (Q : State → Prop) (A : Nat → Prop) (hR : R = room_1) (hQ : Q = lw_Z below #[Value.ref b] s) (hAe : A = fun q => s.heap.size ≤ q) (hx : p.tables.exec = Jvm.exec) (hb : c.code = code) (hr : meth.sig.returnType = ret) (hml : c.maxLocals = 7) (hown : s.vm.findClass RL = some m.cls) (htg : ∀ w ∈ xg, w.before #[Value.ref b] s = true) (hbl : b < s.heap.size) (hbA : ¬ A b) (hlocks : meth.locks = false) (hK : xK D T s) (hA : ∀ q : Nat, s.heap.size ≤ q → A q) (hT : xT kK kV A s s.heap) (hZt : xZ2 A s s.heap) (hX : va_X b 6 xs s s.heap) (x1 x2 x3 x4 x5 : Int32) (hx1 : xs 1 = x1) (hx2 : xs 2 = x2) (hx3 : xs 3 = x3) (hx4 : xs 4 = x4) (hx5 : xs 5 = x5) (H : Heap) (locs : List Loc) (ls : Array Slot) (hP : va_P D vwCl [((a 0), .inr (11, [.ref (ex 0), .ref (a 2), .ref (ex 1), .ref (ex 2), .ref (ex 3), .ref (ex 4), .ref (ex 5), .ref (ex 6), .ref (ex 7), .ref (ex 8), .ref (ex 9), .ref (ex 10), .ref (ex 11), .ref (ex 12), .int 0])), ((a 1), .inr (12, ((.int 0) :: (.ref (ex 13)) :: (.int 0) :: (.int 0) :: (.int 0) :: (.int 0) :: (.ref (a 3)) :: (.ref (ex 14)) :: (.ref (ex 15)) :: (.ref (ex 16)) :: (.ref (ex 17)) :: (.int 0) :: (.int 0) :: (.int 0) :: (.int 0) :: (.int 0) :: (.int 0) :: (.long 0) :: (.int 0) :: (.int 0) :: (.int 0) :: (.ref (ex 18)) :: (.ref (ex 19)) :: (.int 0) :: (.ref (ex 20)) :: (.int (-1)) :: (.int 0) :: (.int 0) :: (.int 0) :: (.int 0) :: (.int 0) :: (.int 0) :: (.ref (ex 21)) :: (.int 0) :: (.ref (ex 22)) :: (.int 0) :: (.int 0) :: (.int 0) :: (.int 0) :: (.int 0) :: (.ref (ex 23)) :: (.ref (ex 24)) :: (.ref (ex 25)) :: (.ref (ex 26)) :: []))), ((a 2), .inr (7, [.int 0, .int 0, .ref (ex 27), .ref (ex 28), .ref (ex 29), .ref (ex 30), .ref (ex 31), .ref (ex 32), .ref (ex 33), .ref (ex 34), .ref (ex 35), .ref (ex 36)])), ((a 3), .inl (T 1, 2187, .inl (fun _ => 0)))] H) (hD : va_D A [((a 0), .inr (11, [.ref (ex 0), .ref (a 2), .ref (ex 1), .ref (ex 2), .ref (ex 3), .ref (ex 4), .ref (ex 5), .ref (ex 6), .ref (ex 7), .ref (ex 8), .ref (ex 9), .ref (ex 10), .ref (ex 11), .ref (ex 12), .int 0])), ((a 1), .inr (12, ((.int 0) :: (.ref (ex 13)) :: (.int 0) :: (.int 0) :: (.int 0) :: (.int 0) :: (.ref (a 3)) :: (.ref (ex 14)) :: (.ref (ex 15)) :: (.ref (ex 16)) :: (.ref (ex 17)) :: (.int 0) :: (.int 0) :: (.int 0) :: (.int 0) :: (.int 0) :: (.int 0) :: (.long 0) :: (.int 0) :: (.int 0) :: (.int 0) :: (.ref (ex 18)) :: (.ref (ex 19)) :: (.int 0) :: (.ref (ex 20)) :: (.int (-1)) :: (.int 0) :: (.int 0) :: (.int 0) :: (.int 0) :: (.int 0) :: (.int 0) :: (.ref (ex 21)) :: (.int 0) :: (.ref (ex 22)) :: (.int 0) :: (.int 0) :: (.int 0) :: (.int 0) :: (.int 0) :: (.ref (ex 23)) :: (.ref (ex 24)) :: (.ref (ex 25)) :: (.ref (ex 26)) :: []))), ((a 2), .inr (7, [.int 0, .int 0, .ref (ex 27), .ref (ex 28), .ref (ex 29), .ref (ex 30), .ref (ex 31), .ref (ex 32), .ref (ex 33), .ref (ex 34), .ref (ex 35), .ref (ex 36)])), ((a 3), .inl (T 1, 2187, .inl (fun _ => 0)))]) (hS : va_S A s.heap H locs) (hl : lv_has ls 7 [(4, .int 0), (3, .ref (ex 37)), (2, .ref (a 1)), (1, .ref (a 0)), (0, .ref b)]) : W p l e R s m #[Value.ref b] below meth c H locs 172 22099 Q (F0 m 903 ls []) := by
  refine lv_aload_n hx hb dL_law_903 rfl (lv_at hl 3 rfl) ?_
  refine lv_aload_n hx hb dL_law_904 rfl (lv_at hl 4 rfl) ?_
  refine lv_iload hx hb dL_law_905 (lv_at hl 0 rfl) ?_
  refine lv_iconst (v := 1) hx hb dL_law_907 (by decide) ?_
  refine lv_iadd hx hb dL_law_908 ?_
  refine xz_i 1 (by decide) ?_
  refine va_sld hx hb hX hbl hbA hS (vp_in_nI (n := 1) (by decide) (by decide)) dL_law_909 ?_
  refine xz_i x1 hx1 ?_
  refine lv_aload_n hx hb dL_law_910 rfl (lv_at hl 4 rfl) ?_
  refine lv_iload hx hb dL_law_911 (lv_at hl 0 rfl) ?_
  refine lv_iconst (v := 2) hx hb dL_law_913 (by decide) ?_
  refine lv_iadd hx hb dL_law_914 ?_
  refine xz_i 2 (by decide) ?_
  refine va_sld hx hb hX hbl hbA hS (vp_in_nI (n := 2) (by decide) (by decide)) dL_law_915 ?_
  refine xz_i x2 hx2 ?_
  have hPc := hP.sub (ws' := (pre_X11_howLong T (xa [(a 0), (a 2)]) (xa [(ex 0), (ex 1), (ex 2), (ex 3), (ex 4), (ex 5), (ex 6), (ex 7), (ex 8), (ex 9), (ex 10), (ex 11), (ex 12), (ex 27), (ex 28), (ex 29), (ex 30), (ex 31), (ex 32), (ex 33), (ex 34), (ex 35), (ex 36)]) (xf []) (xh []) (xv [x1, x2]))) [0, 2] rfl
  have hDc := hD.sub (ws' := (pre_X11_howLong T (xa [(a 0), (a 2)]) (xa [(ex 0), (ex 1), (ex 2), (ex 3), (ex 4), (ex 5), (ex 6), (ex 7), (ex 8), (ex 9), (ex 10), (ex 11), (ex 12), (ex 27), (ex 28), (ex 29), (ex 30), (ex 31), (ex 32), (ex 33), (ex 34), (ex 35), (ex 36)]) (xf []) (xh []) (xv [x1, x2]))) [0, 2] (by decide) rfl
  have hFc := va_free (wc := (pre_X11_howLong T (xa [(a 0), (a 2)]) (xa [(ex 0), (ex 1), (ex 2), (ex 3), (ex 4), (ex 5), (ex 6), (ex 7), (ex 8), (ex 9), (ex 10), (ex 11), (ex 12), (ex 27), (ex 28), (ex 29), (ex 30), (ex 31), (ex 32), (ex 33), (ex 34), (ex 35), (ex 36)]) (xf []) (xh []) (xv [x1, x2]))) hD hS hA [0, 2] rfl
  refine va_calli (va_runV (As := [.int x1, .int x2]) (rest := []) ⟨hx, hb, hml, hown, htg⟩ (c_X11_howLong l D T (xa [(a 0), (a 2)]) (xa [(ex 0), (ex 1), (ex 2), (ex 3), (ex 4), (ex 5), (ex 6), (ex 7), (ex 8), (ex 9), (ex 10), (ex 11), (ex 12), (ex 27), (ex 28), (ex 29), (ex 30), (ex 31), (ex 32), (ex 33), (ex 34), (ex 35), (ex 36)]) (xf []) (xh []) (xv [x1, x2]) H.size) ⟨callB_of 2 htg (xg_ok kw_975) rfl rfl rfl (htg _ kw_1) (htg _ kw_972) (by decide +kernel) ⟨by rw [hR]; exact Nat.le_of_ble_eq_true rfl, by rw [hR]; exact Nat.le_of_ble_eq_true rfl⟩, htg _ kw_973, htg _ kw_974⟩ (xpreV hK hPc hDc (va_recv hK.1 hPc (ci := 11) (q0 := 0) rfl rfl)) rfl rfl hl.1 rfl (lv_room (Nat.le_of_ble_eq_true rfl)) dL_law_916 ⟨by rw [hR]; exact Nat.le_of_ble_eq_true rfl, by rw [hR]; exact Nat.le_of_ble_eq_true rfl⟩) hS (fun q _ h => hFc q h) hFc (fun r9 u t H1 locs ht hvm hw hB hz1 hk1 hS => ?_)
  obtain ⟨bk, fik, flk, vik, hP1, hD1, hGk⟩ := hB
  rw [ht] at hP1
  obtain ⟨hP, hD⟩ := va_join (wr := [((a 1), .inr (12, ((.int 0) :: (.ref (ex 13)) :: (.int 0) :: (.int 0) :: (.int 0) :: (.int 0) :: (.ref (a 3)) :: (.ref (ex 14)) :: (.ref (ex 15)) :: (.ref (ex 16)) :: (.ref (ex 17)) :: (.int 0) :: (.int 0) :: (.int 0) :: (.int 0) :: (.int 0) :: (.int 0) :: (.long 0) :: (.int 0) :: (.int 0) :: (.int 0) :: (.ref (ex 18)) :: (.ref (ex 19)) :: (.int 0) :: (.ref (ex 20)) :: (.int (-1)) :: (.int 0) :: (.int 0) :: (.int 0) :: (.int 0) :: (.int 0) :: (.int 0) :: (.ref (ex 21)) :: (.int 0) :: (.ref (ex 22)) :: (.int 0) :: (.int 0) :: (.int 0) :: (.int 0) :: (.int 0) :: (.ref (ex 23)) :: (.ref (ex 24)) :: (.ref (ex 25)) :: (.ref (ex 26)) :: []))), ((a 3), .inl (T 1, 2187, .inl (fun _ => 0)))]) (w1 := []) hP hD [0, 2] [1, 3] rfl rfl (by decide) (by decide) hk1 hFc hP1 hD1
  subst hw
  clear hPc hDc hFc hP1 hD1 hk1 hz1 hvm ht
  generalize H1 = H at hP hS ⊢
  replace hP : va_P D vwCl [((a 1), .inr (12, ((.int 0) :: (.ref (ex 13)) :: (.int 0) :: (.int 0) :: (.int 0) :: (.int 0) :: (.ref (a 3)) :: (.ref (ex 14)) :: (.ref (ex 15)) :: (.ref (ex 16)) :: (.ref (ex 17)) :: (.int 0) :: (.int 0) :: (.int 0) :: (.int 0) :: (.int 0) :: (.int 0) :: (.long 0) :: (.int 0) :: (.int 0) :: (.int 0) :: (.ref (ex 18)) :: (.ref (ex 19)) :: (.int 0) :: (.ref (ex 20)) :: (.int (-1)) :: (.int 0) :: (.int 0) :: (.int 0) :: (.int 0) :: (.int 0) :: (.int 0) :: (.ref (ex 21)) :: (.int 0) :: (.ref (ex 22)) :: (.int 0) :: (.int 0) :: (.int 0) :: (.int 0) :: (.int 0) :: (.ref (ex 23)) :: (.ref (ex 24)) :: (.ref (ex 25)) :: (.ref (ex 26)) :: []))), ((a 3), .inl (T 1, 2187, .inl (fun _ => 0)))] H := hP
  replace hD : va_D A [((a 1), .inr (12, ((.int 0) :: (.ref (ex 13)) :: (.int 0) :: (.int 0) :: (.int 0) :: (.int 0) :: (.ref (a 3)) :: (.ref (ex 14)) :: (.ref (ex 15)) :: (.ref (ex 16)) :: (.ref (ex 17)) :: (.int 0) :: (.int 0) :: (.int 0) :: (.int 0) :: (.int 0) :: (.int 0) :: (.long 0) :: (.int 0) :: (.int 0) :: (.int 0) :: (.ref (ex 18)) :: (.ref (ex 19)) :: (.int 0) :: (.ref (ex 20)) :: (.int (-1)) :: (.int 0) :: (.int 0) :: (.int 0) :: (.int 0) :: (.int 0) :: (.int 0) :: (.ref (ex 21)) :: (.int 0) :: (.ref (ex 22)) :: (.int 0) :: (.int 0) :: (.int 0) :: (.int 0) :: (.int 0) :: (.ref (ex 23)) :: (.ref (ex 24)) :: (.ref (ex 25)) :: (.ref (ex 26)) :: []))), ((a 3), .inl (T 1, 2187, .inl (fun _ => 0)))] := hD
  refine lv_aload_n hx hb dL_law_919 rfl (lv_at hl 2 rfl) ?_
  refine lv_aload_n hx hb dL_law_920 rfl (lv_at hl 4 rfl) ?_
  refine lv_iload hx hb dL_law_921 (lv_at hl 0 rfl) ?_
  refine lv_iconst (v := 1) hx hb dL_law_923 (by decide) ?_
  refine lv_iadd hx hb dL_law_924 ?_
  refine xz_i 1 (by decide) ?_
  refine va_sld hx hb hX hbl hbA hS (vp_in_nI (n := 1) (by decide) (by decide)) dL_law_925 ?_
  refine xz_i x1 hx1 ?_
  refine lv_aload_n hx hb dL_law_926 rfl (lv_at hl 4 rfl) ?_
  refine lv_iload hx hb dL_law_927 (lv_at hl 0 rfl) ?_
  refine lv_iconst (v := 2) hx hb dL_law_929 (by decide) ?_
  refine lv_iadd hx hb dL_law_930 ?_
  refine xz_i 2 (by decide) ?_
  refine va_sld hx hb hX hbl hbA hS (vp_in_nI (n := 2) (by decide) (by decide)) dL_law_931 ?_
  refine xz_i x2 hx2 ?_
  have hPc := hP.sub (ws' := (pre_X12_howLong T (xa [(a 1), (a 3)]) (xa [(ex 13), (ex 14), (ex 15), (ex 16), (ex 17), (ex 18), (ex 19), (ex 20), (ex 21), (ex 22), (ex 23), (ex 24), (ex 25), (ex 26)]) (xf []) (xh []) (xv [x1, x2]))) [0, 1] rfl
  have hDc := hD.sub (ws' := (pre_X12_howLong T (xa [(a 1), (a 3)]) (xa [(ex 13), (ex 14), (ex 15), (ex 16), (ex 17), (ex 18), (ex 19), (ex 20), (ex 21), (ex 22), (ex 23), (ex 24), (ex 25), (ex 26)]) (xf []) (xh []) (xv [x1, x2]))) [0, 1] (by decide) rfl
  have hFc := va_free (wc := (pre_X12_howLong T (xa [(a 1), (a 3)]) (xa [(ex 13), (ex 14), (ex 15), (ex 16), (ex 17), (ex 18), (ex 19), (ex 20), (ex 21), (ex 22), (ex 23), (ex 24), (ex 25), (ex 26)]) (xf []) (xh []) (xv [x1, x2]))) hD hS hA [0, 1] rfl
  refine va_calli (va_runV (As := [.int x1, .int x2]) (rest := [.int (-1)]) ⟨hx, hb, hml, hown, htg⟩ (c_X12_howLong l D T (xa [(a 1), (a 3)]) (xa [(ex 13), (ex 14), (ex 15), (ex 16), (ex 17), (ex 18), (ex 19), (ex 20), (ex 21), (ex 22), (ex 23), (ex 24), (ex 25), (ex 26)]) (xf []) (xh []) (xv [x1, x2]) H.size) ⟨callB_of 2 htg (xg_ok kw_1821) rfl rfl rfl (htg _ kw_17) (htg _ kw_1818) (by decide +kernel) ⟨by rw [hR]; exact Nat.le_of_ble_eq_true rfl, by rw [hR]; exact Nat.le_of_ble_eq_true rfl⟩, htg _ kw_1819, htg _ kw_1820⟩ (xpreV hK hPc hDc (va_recv hK.1 hPc (ci := 12) (q0 := 0) rfl rfl)) rfl rfl hl.1 rfl (lv_room (Nat.le_of_ble_eq_true rfl)) dL_law_932 ⟨by rw [hR]; exact Nat.le_of_ble_eq_true rfl, by rw [hR]; exact Nat.le_of_ble_eq_true rfl⟩) hS (fun q _ h => hFc q h) hFc (fun r9 u t H1 locs ht hvm hw hB hz1 hk1 hS => ?_)
  obtain ⟨bk_1, fik_1, flk_1, vik_1, hP1, hD1, hGk_1⟩ := hB
  rw [ht] at hP1
  obtain ⟨hP, hD⟩ := va_join (wr := []) (w1 := []) hP hD [0, 1] [] rfl rfl (by decide) (by decide) hk1 hFc hP1 hD1
  subst hw
  clear hPc hDc hFc hP1 hD1 hk1 hz1 hvm ht
  generalize H1 = H at hP hS ⊢
  replace hP : va_P D vwCl [] H := hP
  replace hD : va_D A [] := hD
  refine lv_icmp_eq (tgt := 1466) hx hb dL_law_935 (by decide) (fun _ => ?_) (fun c => absurd (by decide) c)
  refine lv_iinc (v := 6) (lv' := [(4, .int 6), (3, .ref (ex 37)), (2, .ref (a 1)), (1, .ref (a 0)), (0, .ref b)]) hx hb dL_law_1466 hl (k := 0) rfl (by decide) (by decide) rfl (fun ls hl => ?_)
  refine lv_goto (tgt := 23) hx hb dL_law_1469 (by decide) ?_
  refine lv_iload hx hb dL_law_23 (lv_at hl 0 rfl) ?_
  refine lv_aload_n hx hb dL_law_25 rfl (lv_at hl 4 rfl) ?_
  refine va_slen hx hb hX hbl hbA hS dL_law_26 ?_
  refine xz_i 6 rfl ?_
  refine lv_bipush (v := 6) hx hb dL_law_27 (by decide) ?_
  refine lv_isub hx hb dL_law_29 ?_
  refine xz_i 0 (by decide) ?_
  refine lv_icmp_gt (tgt := 1472) hx hb dL_law_30 (by decide) (fun _ => ?_) (fun c => absurd (by decide) c)
  refine lv_iconst (v := 1) hx hb dL_law_1472 (by decide) ?_
  refine va_forget (fun q hq => by have h9 := hS.2.2 q hq; rw [hAe] at h9; exact h9) ?_
  refine W.widen (k := 600002) (n := 7302232) (Nat.le_of_ble_eq_true rfl) (Nat.le_of_ble_eq_true rfl) ?_
  subst hR
  rw [hQ]
  exact lw_ret hx hb hr hlocks dL_law_1473
set_option maxHeartbeats 4000000 in
set_option maxRecDepth 100000 in
theorem lw_wishes {p : Program} {e : Env} {s : State} {m : MethodId} {below : List Frame} {meth : Method} {c : Code} (l : Launch) (hlt : l.stackTraces = false) {b : Nat} {xs : Nat → Int32} (D : va_G) (T : Nat → ClassId) (a ex : Nat → Nat) (fi : Nat → Nat → Int32) (fl : Nat → Nat → Int64) (vi : Nat → Int32) (kK kV : Nat → Nat) (R : Room) (Q : State → Prop) (A : Nat → Prop) (hR : R = room_1) (hQ : Q = lw_Z below #[Value.ref b] s) (hAe : A = fun q => s.heap.size ≤ q) (hx : p.tables.exec = Jvm.exec) (hb : c.code = code) (hr : meth.sig.returnType = ret) (hml : c.maxLocals = 7) (hown : s.vm.findClass RL = some m.cls) (htg : ∀ w ∈ xg, w.before #[Value.ref b] s = true) (hbl : b < s.heap.size) (hbA : ¬ A b) (hlocks : meth.locks = false) (hK : xK D T s) (hA : ∀ q : Nat, s.heap.size ≤ q → A q) (hT : xT kK kV A s s.heap) (hZt : xZ2 A s s.heap) (hX : va_X b 6 xs s s.heap) (x1 x2 x3 x4 x5 : Int32) (hx1 : xs 1 = x1) (hx2 : xs 2 = x2) (hx3 : xs 3 = x3) (hx4 : xs 4 = x4) (hx5 : xs 5 = x5) (H : Heap) (locs : List Loc) (ls : Array Slot) (hP : va_P D vwCl [((a 0), .inr (11, [.ref (ex 0), .ref (a 3), .ref (ex 1), .ref (ex 2), .ref (ex 3), .ref (ex 4), .ref (ex 5), .ref (ex 6), .ref (ex 7), .ref (ex 8), .ref (a 2), .ref (ex 9), .ref (ex 10), .ref (ex 11), .int 0])), ((a 1), .inr (12, ((.int 0) :: (.ref (ex 12)) :: (.int 0) :: (.int 0) :: (.int 0) :: (.int 0) :: (.ref (a 4)) :: (.ref (ex 13)) :: (.ref (ex 14)) :: (.ref (ex 15)) :: (.ref (ex 16)) :: (.int 0) :: (.int 0) :: (.int 0) :: (.int 0) :: (.int 0) :: (.int 0) :: (.long 0) :: (.int 0) :: (.int 0) :: (.int 0) :: (.ref (ex 17)) :: (.ref (ex 18)) :: (.int 0) :: (.ref (a 5)) :: (.int (-1)) :: (.int 0) :: (.int 0) :: (.int 0) :: (.int 0) :: (.int 0) :: (.int 0) :: (.ref (ex 19)) :: (.int 0) :: (.ref (ex 20)) :: (.int 0) :: (.int 0) :: (.int 0) :: (.int 0) :: (.int 0) :: (.ref (ex 21)) :: (.ref (ex 22)) :: (.ref (ex 23)) :: (.ref (ex 24)) :: []))), ((a 2), .inr (10, [.ref (a 3), .ref (ex 3), .ref (ex 25), .ref (ex 26), .int 0])), ((a 3), .inr (7, [.int 0, .int 0, .ref (ex 27), .ref (ex 28), .ref (ex 29), .ref (ex 30), .ref (ex 31), .ref (ex 32), .ref (ex 33), .ref (ex 34), .ref (ex 35), .ref (ex 36)])), ((a 4), .inl (T 1, 2187, .inl (fun _ => 0))), ((a 5), .inl (T 1, 9, .inl (fun _ => 0)))] H) (hD : va_D A [((a 0), .inr (11, [.ref (ex 0), .ref (a 3), .ref (ex 1), .ref (ex 2), .ref (ex 3), .ref (ex 4), .ref (ex 5), .ref (ex 6), .ref (ex 7), .ref (ex 8), .ref (a 2), .ref (ex 9), .ref (ex 10), .ref (ex 11), .int 0])), ((a 1), .inr (12, ((.int 0) :: (.ref (ex 12)) :: (.int 0) :: (.int 0) :: (.int 0) :: (.int 0) :: (.ref (a 4)) :: (.ref (ex 13)) :: (.ref (ex 14)) :: (.ref (ex 15)) :: (.ref (ex 16)) :: (.int 0) :: (.int 0) :: (.int 0) :: (.int 0) :: (.int 0) :: (.int 0) :: (.long 0) :: (.int 0) :: (.int 0) :: (.int 0) :: (.ref (ex 17)) :: (.ref (ex 18)) :: (.int 0) :: (.ref (a 5)) :: (.int (-1)) :: (.int 0) :: (.int 0) :: (.int 0) :: (.int 0) :: (.int 0) :: (.int 0) :: (.ref (ex 19)) :: (.int 0) :: (.ref (ex 20)) :: (.int 0) :: (.int 0) :: (.int 0) :: (.int 0) :: (.int 0) :: (.ref (ex 21)) :: (.ref (ex 22)) :: (.ref (ex 23)) :: (.ref (ex 24)) :: []))), ((a 2), .inr (10, [.ref (a 3), .ref (ex 3), .ref (ex 25), .ref (ex 26), .int 0])), ((a 3), .inr (7, [.int 0, .int 0, .ref (ex 27), .ref (ex 28), .ref (ex 29), .ref (ex 30), .ref (ex 31), .ref (ex 32), .ref (ex 33), .ref (ex 34), .ref (ex 35), .ref (ex 36)])), ((a 4), .inl (T 1, 2187, .inl (fun _ => 0))), ((a 5), .inl (T 1, 9, .inl (fun _ => 0)))]) (hS : va_S A s.heap H locs) (hl : lv_has ls 7 [(4, .int 0), (3, .ref (ex 37)), (2, .ref (a 1)), (1, .ref (a 0)), (0, .ref b)]) : W p l e R s m #[Value.ref b] below meth c H locs 172 22099 Q (F0 m 940 ls []) := by
  refine lv_aload_n hx hb dL_law_940 rfl (lv_at hl 3 rfl) ?_
  have hPc := hP.sub (ws' := (pre_X11_wishes T (xa [(a 0), (a 2), (a 3)]) (xa [(ex 0), (ex 1), (ex 2), (ex 3), (ex 4), (ex 5), (ex 6), (ex 7), (ex 8), (ex 9), (ex 10), (ex 11), (ex 25), (ex 26), (ex 27), (ex 28), (ex 29), (ex 30), (ex 31), (ex 32), (ex 33), (ex 34), (ex 35), (ex 36)]) (xf []) (xh []) (xv []))) [0, 2, 3] rfl
  have hDc := hD.sub (ws' := (pre_X11_wishes T (xa [(a 0), (a 2), (a 3)]) (xa [(ex 0), (ex 1), (ex 2), (ex 3), (ex 4), (ex 5), (ex 6), (ex 7), (ex 8), (ex 9), (ex 10), (ex 11), (ex 25), (ex 26), (ex 27), (ex 28), (ex 29), (ex 30), (ex 31), (ex 32), (ex 33), (ex 34), (ex 35), (ex 36)]) (xf []) (xh []) (xv []))) [0, 2, 3] (by decide) rfl
  have hFc := va_free (wc := (pre_X11_wishes T (xa [(a 0), (a 2), (a 3)]) (xa [(ex 0), (ex 1), (ex 2), (ex 3), (ex 4), (ex 5), (ex 6), (ex 7), (ex 8), (ex 9), (ex 10), (ex 11), (ex 25), (ex 26), (ex 27), (ex 28), (ex 29), (ex 30), (ex 31), (ex 32), (ex 33), (ex 34), (ex 35), (ex 36)]) (xf []) (xh []) (xv []))) hD hS hA [0, 2, 3] rfl
  refine va_calli (va_runV (As := []) (rest := []) ⟨hx, hb, hml, hown, htg⟩ (c_X11_wishes l D T (xa [(a 0), (a 2), (a 3)]) (xa [(ex 0), (ex 1), (ex 2), (ex 3), (ex 4), (ex 5), (ex 6), (ex 7), (ex 8), (ex 9), (ex 10), (ex 11), (ex 25), (ex 26), (ex 27), (ex 28), (ex 29), (ex 30), (ex 31), (ex 32), (ex 33), (ex 34), (ex 35), (ex 36)]) (xf []) (xh []) (xv []) H.size) ⟨callB_of 0 htg (xg_ok kw_979) rfl rfl rfl (htg _ kw_1) (htg _ kw_976) (by decide +kernel) ⟨by rw [hR]; exact Nat.le_of_ble_eq_true rfl, by rw [hR]; exact Nat.le_of_ble_eq_true rfl⟩, htg _ kw_977, htg _ kw_978⟩ (xpreV hK hPc hDc (va_recv hK.1 hPc (ci := 11) (q0 := 0) rfl rfl)) rfl rfl hl.1 rfl (lv_room (Nat.le_of_ble_eq_true rfl)) dL_law_941 ⟨by rw [hR]; exact Nat.le_of_ble_eq_true rfl, by rw [hR]; exact Nat.le_of_ble_eq_true rfl⟩) hS (fun q _ h => hFc q h) hFc (fun r9 u t H1 locs ht hvm hw hB hz1 hk1 hS => ?_)
  obtain ⟨bk, fik, flk, vik, hP1, hD1, hGk⟩ := hB
  rw [ht] at hP1
  obtain ⟨hP, hD⟩ := va_join (wr := [((a 1), .inr (12, ((.int 0) :: (.ref (ex 12)) :: (.int 0) :: (.int 0) :: (.int 0) :: (.int 0) :: (.ref (a 4)) :: (.ref (ex 13)) :: (.ref (ex 14)) :: (.ref (ex 15)) :: (.ref (ex 16)) :: (.int 0) :: (.int 0) :: (.int 0) :: (.int 0) :: (.int 0) :: (.int 0) :: (.long 0) :: (.int 0) :: (.int 0) :: (.int 0) :: (.ref (ex 17)) :: (.ref (ex 18)) :: (.int 0) :: (.ref (a 5)) :: (.int (-1)) :: (.int 0) :: (.int 0) :: (.int 0) :: (.int 0) :: (.int 0) :: (.int 0) :: (.ref (ex 19)) :: (.int 0) :: (.ref (ex 20)) :: (.int 0) :: (.int 0) :: (.int 0) :: (.int 0) :: (.int 0) :: (.ref (ex 21)) :: (.ref (ex 22)) :: (.ref (ex 23)) :: (.ref (ex 24)) :: []))), ((a 4), .inl (T 1, 2187, .inl (fun _ => 0))), ((a 5), .inl (T 1, 9, .inl (fun _ => 0)))]) (w1 := []) hP hD [0, 2, 3] [1, 4, 5] rfl rfl (by decide) (by decide) hk1 hFc hP1 hD1
  subst hw
  clear hPc hDc hFc hP1 hD1 hk1 hz1 hvm ht
  generalize H1 = H at hP hS ⊢
  replace hP : va_P D vwCl [((a 1), .inr (12, ((.int 0) :: (.ref (ex 12)) :: (.int 0) :: (.int 0) :: (.int 0) :: (.int 0) :: (.ref (a 4)) :: (.ref (ex 13)) :: (.ref (ex 14)) :: (.ref (ex 15)) :: (.ref (ex 16)) :: (.int 0) :: (.int 0) :: (.int 0) :: (.int 0) :: (.int 0) :: (.int 0) :: (.long 0) :: (.int 0) :: (.int 0) :: (.int 0) :: (.ref (ex 17)) :: (.ref (ex 18)) :: (.int 0) :: (.ref (a 5)) :: (.int (-1)) :: (.int 0) :: (.int 0) :: (.int 0) :: (.int 0) :: (.int 0) :: (.int 0) :: (.ref (ex 19)) :: (.int 0) :: (.ref (ex 20)) :: (.int 0) :: (.int 0) :: (.int 0) :: (.int 0) :: (.int 0) :: (.ref (ex 21)) :: (.ref (ex 22)) :: (.ref (ex 23)) :: (.ref (ex 24)) :: []))), ((a 4), .inl (T 1, 2187, .inl (fun _ => 0))), ((a 5), .inl (T 1, 9, .inl (fun _ => 0)))] H := hP
  replace hD : va_D A [((a 1), .inr (12, ((.int 0) :: (.ref (ex 12)) :: (.int 0) :: (.int 0) :: (.int 0) :: (.int 0) :: (.ref (a 4)) :: (.ref (ex 13)) :: (.ref (ex 14)) :: (.ref (ex 15)) :: (.ref (ex 16)) :: (.int 0) :: (.int 0) :: (.int 0) :: (.int 0) :: (.int 0) :: (.int 0) :: (.long 0) :: (.int 0) :: (.int 0) :: (.int 0) :: (.ref (ex 17)) :: (.ref (ex 18)) :: (.int 0) :: (.ref (a 5)) :: (.int (-1)) :: (.int 0) :: (.int 0) :: (.int 0) :: (.int 0) :: (.int 0) :: (.int 0) :: (.ref (ex 19)) :: (.int 0) :: (.ref (ex 20)) :: (.int 0) :: (.int 0) :: (.int 0) :: (.int 0) :: (.int 0) :: (.ref (ex 21)) :: (.ref (ex 22)) :: (.ref (ex 23)) :: (.ref (ex 24)) :: []))), ((a 4), .inl (T 1, 2187, .inl (fun _ => 0))), ((a 5), .inl (T 1, 9, .inl (fun _ => 0)))] := hD
  refine lv_aload_n hx hb dL_law_944 rfl (lv_at hl 2 rfl) ?_
  have hPc := hP.sub (ws' := (pre_X12_wishes T (xa [(a 1), (a 4), (a 5)]) (xa [(ex 12), (ex 13), (ex 14), (ex 15), (ex 16), (ex 17), (ex 18), (ex 19), (ex 20), (ex 21), (ex 22), (ex 23), (ex 24)]) (xf []) (xh []) (xv []))) [0, 1, 2] rfl
  have hDc := hD.sub (ws' := (pre_X12_wishes T (xa [(a 1), (a 4), (a 5)]) (xa [(ex 12), (ex 13), (ex 14), (ex 15), (ex 16), (ex 17), (ex 18), (ex 19), (ex 20), (ex 21), (ex 22), (ex 23), (ex 24)]) (xf []) (xh []) (xv []))) [0, 1, 2] (by decide) rfl
  have hFc := va_free (wc := (pre_X12_wishes T (xa [(a 1), (a 4), (a 5)]) (xa [(ex 12), (ex 13), (ex 14), (ex 15), (ex 16), (ex 17), (ex 18), (ex 19), (ex 20), (ex 21), (ex 22), (ex 23), (ex 24)]) (xf []) (xh []) (xv []))) hD hS hA [0, 1, 2] rfl
  refine va_calli (va_runV (As := []) (rest := [.int 0]) ⟨hx, hb, hml, hown, htg⟩ (c_X12_wishes l D T (xa [(a 1), (a 4), (a 5)]) (xa [(ex 12), (ex 13), (ex 14), (ex 15), (ex 16), (ex 17), (ex 18), (ex 19), (ex 20), (ex 21), (ex 22), (ex 23), (ex 24)]) (xf []) (xh []) (xv []) H.size) ⟨callB_of 0 htg (xg_ok kw_1825) rfl rfl rfl (htg _ kw_17) (htg _ kw_1822) (by decide +kernel) ⟨by rw [hR]; exact Nat.le_of_ble_eq_true rfl, by rw [hR]; exact Nat.le_of_ble_eq_true rfl⟩, htg _ kw_1823, htg _ kw_1824⟩ (xpreV hK hPc hDc (va_recv hK.1 hPc (ci := 12) (q0 := 0) rfl rfl)) rfl rfl hl.1 rfl (lv_room (Nat.le_of_ble_eq_true rfl)) dL_law_945 ⟨by rw [hR]; exact Nat.le_of_ble_eq_true rfl, by rw [hR]; exact Nat.le_of_ble_eq_true rfl⟩) hS (fun q _ h => hFc q h) hFc (fun r9 u t H1 locs ht hvm hw hB hz1 hk1 hS => ?_)
  obtain ⟨bk_1, fik_1, flk_1, vik_1, hP1, hD1, hGk_1⟩ := hB
  rw [ht] at hP1
  obtain ⟨hP, hD⟩ := va_join (wr := []) (w1 := []) hP hD [0, 1, 2] [] rfl rfl (by decide) (by decide) hk1 hFc hP1 hD1
  subst hw
  clear hPc hDc hFc hP1 hD1 hk1 hz1 hvm ht
  generalize H1 = H at hP hS ⊢
  replace hP : va_P D vwCl [] H := hP
  replace hD : va_D A [] := hD
  refine lv_icmp_eq (tgt := 1466) hx hb dL_law_948 (by decide) (fun _ => ?_) (fun c => absurd (by decide) c)
  refine lv_iinc (v := 6) (lv' := [(4, .int 6), (3, .ref (ex 37)), (2, .ref (a 1)), (1, .ref (a 0)), (0, .ref b)]) hx hb dL_law_1466 hl (k := 0) rfl (by decide) (by decide) rfl (fun ls hl => ?_)
  refine lv_goto (tgt := 23) hx hb dL_law_1469 (by decide) ?_
  refine lv_iload hx hb dL_law_23 (lv_at hl 0 rfl) ?_
  refine lv_aload_n hx hb dL_law_25 rfl (lv_at hl 4 rfl) ?_
  refine va_slen hx hb hX hbl hbA hS dL_law_26 ?_
  refine xz_i 6 rfl ?_
  refine lv_bipush (v := 6) hx hb dL_law_27 (by decide) ?_
  refine lv_isub hx hb dL_law_29 ?_
  refine xz_i 0 (by decide) ?_
  refine lv_icmp_gt (tgt := 1472) hx hb dL_law_30 (by decide) (fun _ => ?_) (fun c => absurd (by decide) c)
  refine lv_iconst (v := 1) hx hb dL_law_1472 (by decide) ?_
  refine va_forget (fun q hq => by have h9 := hS.2.2 q hq; rw [hAe] at h9; exact h9) ?_
  refine W.widen (k := 600002) (n := 7302232) (Nat.le_of_ble_eq_true rfl) (Nat.le_of_ble_eq_true rfl) ?_
  subst hR
  rw [hQ]
  exact lw_ret hx hb hr hlocks dL_law_1473
set_option maxHeartbeats 4000000 in
set_option maxRecDepth 100000 in
theorem lw_swaps {p : Program} {e : Env} {s : State} {m : MethodId} {below : List Frame} {meth : Method} {c : Code} (l : Launch) (hlt : l.stackTraces = false) {b : Nat} {xs : Nat → Int32} (D : va_G) (T : Nat → ClassId) (a ex : Nat → Nat) (fi : Nat → Nat → Int32) (fl : Nat → Nat → Int64) (vi : Nat → Int32) (kK kV : Nat → Nat) (R : Room) (Q : State → Prop) (A : Nat → Prop) (hR : R = room_1) (hQ : Q = lw_Z below #[Value.ref b] s) (hAe : A = fun q => s.heap.size ≤ q) (hx : p.tables.exec = Jvm.exec) (hb : c.code = code) (hr : meth.sig.returnType = ret) (hml : c.maxLocals = 7) (hown : s.vm.findClass RL = some m.cls) (htg : ∀ w ∈ xg, w.before #[Value.ref b] s = true) (hbl : b < s.heap.size) (hbA : ¬ A b) (hlocks : meth.locks = false) (hK : xK D T s) (hA : ∀ q : Nat, s.heap.size ≤ q → A q) (hT : xT kK kV A s s.heap) (hZt : xZ2 A s s.heap) (hX : va_X b 6 xs s s.heap) (x1 x2 x3 x4 x5 : Int32) (hx1 : xs 1 = x1) (hx2 : xs 2 = x2) (hx3 : xs 3 = x3) (hx4 : xs 4 = x4) (hx5 : xs 5 = x5) (H : Heap) (locs : List Loc) (ls : Array Slot) (hP : va_P D vwCl [((a 0), .inr (11, [.ref (ex 0), .ref (a 3), .ref (ex 1), .ref (ex 2), .ref (ex 3), .ref (ex 4), .ref (ex 5), .ref (ex 6), .ref (ex 7), .ref (ex 8), .ref (a 2), .ref (ex 9), .ref (ex 10), .ref (ex 11), .int 0])), ((a 1), .inr (12, ((.int 0) :: (.ref (ex 12)) :: (.int 0) :: (.int 0) :: (.int 0) :: (.int 0) :: (.ref (a 4)) :: (.ref (ex 13)) :: (.ref (ex 14)) :: (.ref (ex 15)) :: (.ref (ex 16)) :: (.int 0) :: (.int 0) :: (.int 0) :: (.int 0) :: (.int 0) :: (.int 0) :: (.long 0) :: (.int 0) :: (.int 0) :: (.int 0) :: (.ref (ex 17)) :: (.ref (ex 18)) :: (.int 0) :: (.ref (ex 19)) :: (.int (-1)) :: (.int 0) :: (.int 0) :: (.int 0) :: (.int 0) :: (.int 0) :: (.int 0) :: (.ref (ex 20)) :: (.int 0) :: (.ref (ex 21)) :: (.int 0) :: (.int 0) :: (.int 0) :: (.int 0) :: (.int 0) :: (.ref (ex 22)) :: (.ref (ex 23)) :: (.ref (ex 24)) :: (.ref (ex 25)) :: []))), ((a 2), .inr (10, [.ref (a 3), .ref (ex 3), .ref (ex 26), .ref (ex 27), .int 0])), ((a 3), .inr (7, [.int 0, .int 0, .ref (ex 28), .ref (ex 29), .ref (ex 30), .ref (ex 31), .ref (ex 32), .ref (ex 33), .ref (ex 34), .ref (ex 35), .ref (ex 36), .ref (ex 37)])), ((a 4), .inl (T 1, 2187, .inl (fun _ => 0)))] H) (hD : va_D A [((a 0), .inr (11, [.ref (ex 0), .ref (a 3), .ref (ex 1), .ref (ex 2), .ref (ex 3), .ref (ex 4), .ref (ex 5), .ref (ex 6), .ref (ex 7), .ref (ex 8), .ref (a 2), .ref (ex 9), .ref (ex 10), .ref (ex 11), .int 0])), ((a 1), .inr (12, ((.int 0) :: (.ref (ex 12)) :: (.int 0) :: (.int 0) :: (.int 0) :: (.int 0) :: (.ref (a 4)) :: (.ref (ex 13)) :: (.ref (ex 14)) :: (.ref (ex 15)) :: (.ref (ex 16)) :: (.int 0) :: (.int 0) :: (.int 0) :: (.int 0) :: (.int 0) :: (.int 0) :: (.long 0) :: (.int 0) :: (.int 0) :: (.int 0) :: (.ref (ex 17)) :: (.ref (ex 18)) :: (.int 0) :: (.ref (ex 19)) :: (.int (-1)) :: (.int 0) :: (.int 0) :: (.int 0) :: (.int 0) :: (.int 0) :: (.int 0) :: (.ref (ex 20)) :: (.int 0) :: (.ref (ex 21)) :: (.int 0) :: (.int 0) :: (.int 0) :: (.int 0) :: (.int 0) :: (.ref (ex 22)) :: (.ref (ex 23)) :: (.ref (ex 24)) :: (.ref (ex 25)) :: []))), ((a 2), .inr (10, [.ref (a 3), .ref (ex 3), .ref (ex 26), .ref (ex 27), .int 0])), ((a 3), .inr (7, [.int 0, .int 0, .ref (ex 28), .ref (ex 29), .ref (ex 30), .ref (ex 31), .ref (ex 32), .ref (ex 33), .ref (ex 34), .ref (ex 35), .ref (ex 36), .ref (ex 37)])), ((a 4), .inl (T 1, 2187, .inl (fun _ => 0)))]) (hS : va_S A s.heap H locs) (hl : lv_has ls 7 [(4, .int 0), (3, .ref (ex 38)), (2, .ref (a 1)), (1, .ref (a 0)), (0, .ref b)]) : W p l e R s m #[Value.ref b] below meth c H locs 172 22099 Q (F0 m 953 ls []) := by
  refine lv_aload_n hx hb dL_law_953 rfl (lv_at hl 3 rfl) ?_
  have hPc := hP.sub (ws' := (pre_X11_swaps T (xa [(a 0), (a 2), (a 3)]) (xa [(ex 0), (ex 1), (ex 2), (ex 3), (ex 4), (ex 5), (ex 6), (ex 7), (ex 8), (ex 9), (ex 10), (ex 11), (ex 26), (ex 27), (ex 28), (ex 29), (ex 30), (ex 31), (ex 32), (ex 33), (ex 34), (ex 35), (ex 36), (ex 37)]) (xf []) (xh []) (xv []))) [0, 2, 3] rfl
  have hDc := hD.sub (ws' := (pre_X11_swaps T (xa [(a 0), (a 2), (a 3)]) (xa [(ex 0), (ex 1), (ex 2), (ex 3), (ex 4), (ex 5), (ex 6), (ex 7), (ex 8), (ex 9), (ex 10), (ex 11), (ex 26), (ex 27), (ex 28), (ex 29), (ex 30), (ex 31), (ex 32), (ex 33), (ex 34), (ex 35), (ex 36), (ex 37)]) (xf []) (xh []) (xv []))) [0, 2, 3] (by decide) rfl
  have hFc := va_free (wc := (pre_X11_swaps T (xa [(a 0), (a 2), (a 3)]) (xa [(ex 0), (ex 1), (ex 2), (ex 3), (ex 4), (ex 5), (ex 6), (ex 7), (ex 8), (ex 9), (ex 10), (ex 11), (ex 26), (ex 27), (ex 28), (ex 29), (ex 30), (ex 31), (ex 32), (ex 33), (ex 34), (ex 35), (ex 36), (ex 37)]) (xf []) (xh []) (xv []))) hD hS hA [0, 2, 3] rfl
  refine va_calli (va_runV (As := []) (rest := []) ⟨hx, hb, hml, hown, htg⟩ (c_X11_swaps l D T (xa [(a 0), (a 2), (a 3)]) (xa [(ex 0), (ex 1), (ex 2), (ex 3), (ex 4), (ex 5), (ex 6), (ex 7), (ex 8), (ex 9), (ex 10), (ex 11), (ex 26), (ex 27), (ex 28), (ex 29), (ex 30), (ex 31), (ex 32), (ex 33), (ex 34), (ex 35), (ex 36), (ex 37)]) (xf []) (xh []) (xv []) H.size) ⟨callB_of 0 htg (xg_ok kw_1003) rfl rfl rfl (htg _ kw_1) (htg _ kw_1000) (by decide +kernel) ⟨by rw [hR]; exact Nat.le_of_ble_eq_true rfl, by rw [hR]; exact Nat.le_of_ble_eq_true rfl⟩, htg _ kw_1001, htg _ kw_1002⟩ (xpreV hK hPc hDc (va_recv hK.1 hPc (ci := 11) (q0 := 0) rfl rfl)) rfl rfl hl.1 rfl (lv_room (Nat.le_of_ble_eq_true rfl)) dL_law_954 ⟨by rw [hR]; exact Nat.le_of_ble_eq_true rfl, by rw [hR]; exact Nat.le_of_ble_eq_true rfl⟩) hS (fun q _ h => hFc q h) hFc (fun r9 u t H1 locs ht hvm hw hB hz1 hk1 hS => ?_)
  obtain ⟨bk, fik, flk, vik, hP1, hD1, hGk⟩ := hB
  rw [ht] at hP1
  obtain ⟨hP, hD⟩ := va_join (wr := [((a 1), .inr (12, ((.int 0) :: (.ref (ex 12)) :: (.int 0) :: (.int 0) :: (.int 0) :: (.int 0) :: (.ref (a 4)) :: (.ref (ex 13)) :: (.ref (ex 14)) :: (.ref (ex 15)) :: (.ref (ex 16)) :: (.int 0) :: (.int 0) :: (.int 0) :: (.int 0) :: (.int 0) :: (.int 0) :: (.long 0) :: (.int 0) :: (.int 0) :: (.int 0) :: (.ref (ex 17)) :: (.ref (ex 18)) :: (.int 0) :: (.ref (ex 19)) :: (.int (-1)) :: (.int 0) :: (.int 0) :: (.int 0) :: (.int 0) :: (.int 0) :: (.int 0) :: (.ref (ex 20)) :: (.int 0) :: (.ref (ex 21)) :: (.int 0) :: (.int 0) :: (.int 0) :: (.int 0) :: (.int 0) :: (.ref (ex 22)) :: (.ref (ex 23)) :: (.ref (ex 24)) :: (.ref (ex 25)) :: []))), ((a 4), .inl (T 1, 2187, .inl (fun _ => 0)))]) (w1 := []) hP hD [0, 2, 3] [1, 4] rfl rfl (by decide) (by decide) hk1 hFc hP1 hD1
  subst hw
  clear hPc hDc hFc hP1 hD1 hk1 hz1 hvm ht
  generalize H1 = H at hP hS ⊢
  replace hP : va_P D vwCl [((a 1), .inr (12, ((.int 0) :: (.ref (ex 12)) :: (.int 0) :: (.int 0) :: (.int 0) :: (.int 0) :: (.ref (a 4)) :: (.ref (ex 13)) :: (.ref (ex 14)) :: (.ref (ex 15)) :: (.ref (ex 16)) :: (.int 0) :: (.int 0) :: (.int 0) :: (.int 0) :: (.int 0) :: (.int 0) :: (.long 0) :: (.int 0) :: (.int 0) :: (.int 0) :: (.ref (ex 17)) :: (.ref (ex 18)) :: (.int 0) :: (.ref (ex 19)) :: (.int (-1)) :: (.int 0) :: (.int 0) :: (.int 0) :: (.int 0) :: (.int 0) :: (.int 0) :: (.ref (ex 20)) :: (.int 0) :: (.ref (ex 21)) :: (.int 0) :: (.int 0) :: (.int 0) :: (.int 0) :: (.int 0) :: (.ref (ex 22)) :: (.ref (ex 23)) :: (.ref (ex 24)) :: (.ref (ex 25)) :: []))), ((a 4), .inl (T 1, 2187, .inl (fun _ => 0)))] H := hP
  replace hD : va_D A [((a 1), .inr (12, ((.int 0) :: (.ref (ex 12)) :: (.int 0) :: (.int 0) :: (.int 0) :: (.int 0) :: (.ref (a 4)) :: (.ref (ex 13)) :: (.ref (ex 14)) :: (.ref (ex 15)) :: (.ref (ex 16)) :: (.int 0) :: (.int 0) :: (.int 0) :: (.int 0) :: (.int 0) :: (.int 0) :: (.long 0) :: (.int 0) :: (.int 0) :: (.int 0) :: (.ref (ex 17)) :: (.ref (ex 18)) :: (.int 0) :: (.ref (ex 19)) :: (.int (-1)) :: (.int 0) :: (.int 0) :: (.int 0) :: (.int 0) :: (.int 0) :: (.int 0) :: (.ref (ex 20)) :: (.int 0) :: (.ref (ex 21)) :: (.int 0) :: (.int 0) :: (.int 0) :: (.int 0) :: (.int 0) :: (.ref (ex 22)) :: (.ref (ex 23)) :: (.ref (ex 24)) :: (.ref (ex 25)) :: []))), ((a 4), .inl (T 1, 2187, .inl (fun _ => 0)))] := hD
  refine lv_aload_n hx hb dL_law_957 rfl (lv_at hl 2 rfl) ?_
  have hPc := hP.sub (ws' := (pre_X12_swaps T (xa [(a 1), (a 4)]) (xa [(ex 12), (ex 13), (ex 14), (ex 15), (ex 16), (ex 17), (ex 18), (ex 19), (ex 20), (ex 21), (ex 22), (ex 23), (ex 24), (ex 25)]) (xf []) (xh []) (xv []))) [0, 1] rfl
  have hDc := hD.sub (ws' := (pre_X12_swaps T (xa [(a 1), (a 4)]) (xa [(ex 12), (ex 13), (ex 14), (ex 15), (ex 16), (ex 17), (ex 18), (ex 19), (ex 20), (ex 21), (ex 22), (ex 23), (ex 24), (ex 25)]) (xf []) (xh []) (xv []))) [0, 1] (by decide) rfl
  have hFc := va_free (wc := (pre_X12_swaps T (xa [(a 1), (a 4)]) (xa [(ex 12), (ex 13), (ex 14), (ex 15), (ex 16), (ex 17), (ex 18), (ex 19), (ex 20), (ex 21), (ex 22), (ex 23), (ex 24), (ex 25)]) (xf []) (xh []) (xv []))) hD hS hA [0, 1] rfl
  refine va_calli (va_runV (As := []) (rest := [.int 0]) ⟨hx, hb, hml, hown, htg⟩ (c_X12_swaps l D T (xa [(a 1), (a 4)]) (xa [(ex 12), (ex 13), (ex 14), (ex 15), (ex 16), (ex 17), (ex 18), (ex 19), (ex 20), (ex 21), (ex 22), (ex 23), (ex 24), (ex 25)]) (xf []) (xh []) (xv []) H.size) ⟨callB_of 0 htg (xg_ok kw_1845) rfl rfl rfl (htg _ kw_17) (htg _ kw_1842) (by decide +kernel) ⟨by rw [hR]; exact Nat.le_of_ble_eq_true rfl, by rw [hR]; exact Nat.le_of_ble_eq_true rfl⟩, htg _ kw_1843, htg _ kw_1844⟩ (xpreV hK hPc hDc (va_recv hK.1 hPc (ci := 12) (q0 := 0) rfl rfl)) rfl rfl hl.1 rfl (lv_room (Nat.le_of_ble_eq_true rfl)) dL_law_958 ⟨by rw [hR]; exact Nat.le_of_ble_eq_true rfl, by rw [hR]; exact Nat.le_of_ble_eq_true rfl⟩) hS (fun q _ h => hFc q h) hFc (fun r9 u t H1 locs ht hvm hw hB hz1 hk1 hS => ?_)
  obtain ⟨bk_1, fik_1, flk_1, vik_1, hP1, hD1, hGk_1⟩ := hB
  rw [ht] at hP1
  obtain ⟨hP, hD⟩ := va_join (wr := []) (w1 := []) hP hD [0, 1] [] rfl rfl (by decide) (by decide) hk1 hFc hP1 hD1
  subst hw
  clear hPc hDc hFc hP1 hD1 hk1 hz1 hvm ht
  generalize H1 = H at hP hS ⊢
  replace hP : va_P D vwCl [] H := hP
  replace hD : va_D A [] := hD
  refine lv_icmp_eq (tgt := 1466) hx hb dL_law_961 (by decide) (fun _ => ?_) (fun c => absurd (by decide) c)
  refine lv_iinc (v := 6) (lv' := [(4, .int 6), (3, .ref (ex 38)), (2, .ref (a 1)), (1, .ref (a 0)), (0, .ref b)]) hx hb dL_law_1466 hl (k := 0) rfl (by decide) (by decide) rfl (fun ls hl => ?_)
  refine lv_goto (tgt := 23) hx hb dL_law_1469 (by decide) ?_
  refine lv_iload hx hb dL_law_23 (lv_at hl 0 rfl) ?_
  refine lv_aload_n hx hb dL_law_25 rfl (lv_at hl 4 rfl) ?_
  refine va_slen hx hb hX hbl hbA hS dL_law_26 ?_
  refine xz_i 6 rfl ?_
  refine lv_bipush (v := 6) hx hb dL_law_27 (by decide) ?_
  refine lv_isub hx hb dL_law_29 ?_
  refine xz_i 0 (by decide) ?_
  refine lv_icmp_gt (tgt := 1472) hx hb dL_law_30 (by decide) (fun _ => ?_) (fun c => absurd (by decide) c)
  refine lv_iconst (v := 1) hx hb dL_law_1472 (by decide) ?_
  refine va_forget (fun q hq => by have h9 := hS.2.2 q hq; rw [hAe] at h9; exact h9) ?_
  refine W.widen (k := 600002) (n := 7302232) (Nat.le_of_ble_eq_true rfl) (Nat.le_of_ble_eq_true rfl) ?_
  subst hR
  rw [hQ]
  exact lw_ret hx hb hr hlocks dL_law_1473
set_option maxHeartbeats 4000000 in
set_option maxRecDepth 100000 in
theorem lw_partner {p : Program} {e : Env} {s : State} {m : MethodId} {below : List Frame} {meth : Method} {c : Code} (l : Launch) (hlt : l.stackTraces = false) {b : Nat} {xs : Nat → Int32} (D : va_G) (T : Nat → ClassId) (a ex : Nat → Nat) (fi : Nat → Nat → Int32) (fl : Nat → Nat → Int64) (vi : Nat → Int32) (kK kV : Nat → Nat) (R : Room) (Q : State → Prop) (A : Nat → Prop) (hR : R = room_1) (hQ : Q = lw_Z below #[Value.ref b] s) (hAe : A = fun q => s.heap.size ≤ q) (hx : p.tables.exec = Jvm.exec) (hb : c.code = code) (hr : meth.sig.returnType = ret) (hml : c.maxLocals = 7) (hown : s.vm.findClass RL = some m.cls) (htg : ∀ w ∈ xg, w.before #[Value.ref b] s = true) (hbl : b < s.heap.size) (hbA : ¬ A b) (hlocks : meth.locks = false) (hK : xK D T s) (hA : ∀ q : Nat, s.heap.size ≤ q → A q) (hT : xT kK kV A s s.heap) (hZt : xZ2 A s s.heap) (hX : va_X b 6 xs s s.heap) (x1 x2 x3 x4 x5 : Int32) (hx1 : xs 1 = x1) (hx2 : xs 2 = x2) (hx3 : xs 3 = x3) (hx4 : xs 4 = x4) (hx5 : xs 5 = x5) (H : Heap) (locs : List Loc) (ls : Array Slot) (hP : va_P D vwCl [((a 0), .inr (11, [.ref (ex 0), .ref (a 2), .ref (ex 1), .ref (ex 2), .ref (ex 3), .ref (ex 4), .ref (ex 5), .ref (ex 6), .ref (ex 7), .ref (ex 8), .ref (ex 9), .ref (ex 10), .ref (ex 11), .ref (ex 12), .int 0])), ((a 1), .inr (12, ((.int 0) :: (.ref (ex 13)) :: (.int 0) :: (.int 0) :: (.int 0) :: (.int 0) :: (.ref (ex 14)) :: (.ref (ex 15)) :: (.ref (ex 16)) :: (.ref (ex 17)) :: (.ref (ex 18)) :: (.int 0) :: (.int 0) :: (.int 0) :: (.int 0) :: (.int 0) :: (.int 0) :: (.long 0) :: (.int 0) :: (.int 0) :: (.int 0) :: (.ref (ex 19)) :: (.ref (ex 20)) :: (.int 0) :: (.ref (ex 21)) :: (.int (-1)) :: (.int 0) :: (.int 0) :: (.int 0) :: (.int 0) :: (.int 0) :: (.int 0) :: (.ref (ex 22)) :: (.int 0) :: (.ref (ex 23)) :: (.int 0) :: (.int 0) :: (.int 0) :: (.int 0) :: (.int 0) :: (.ref (ex 24)) :: (.ref (ex 25)) :: (.ref (ex 26)) :: (.ref (ex 27)) :: []))), ((a 2), .inr (7, [.int 0, .int 0, .ref (ex 28), .ref (ex 29), .ref (ex 30), .ref (ex 31), .ref (ex 32), .ref (ex 33), .ref (ex 34), .ref (ex 35), .ref (ex 36), .ref (ex 37)]))] H) (hD : va_D A [((a 0), .inr (11, [.ref (ex 0), .ref (a 2), .ref (ex 1), .ref (ex 2), .ref (ex 3), .ref (ex 4), .ref (ex 5), .ref (ex 6), .ref (ex 7), .ref (ex 8), .ref (ex 9), .ref (ex 10), .ref (ex 11), .ref (ex 12), .int 0])), ((a 1), .inr (12, ((.int 0) :: (.ref (ex 13)) :: (.int 0) :: (.int 0) :: (.int 0) :: (.int 0) :: (.ref (ex 14)) :: (.ref (ex 15)) :: (.ref (ex 16)) :: (.ref (ex 17)) :: (.ref (ex 18)) :: (.int 0) :: (.int 0) :: (.int 0) :: (.int 0) :: (.int 0) :: (.int 0) :: (.long 0) :: (.int 0) :: (.int 0) :: (.int 0) :: (.ref (ex 19)) :: (.ref (ex 20)) :: (.int 0) :: (.ref (ex 21)) :: (.int (-1)) :: (.int 0) :: (.int 0) :: (.int 0) :: (.int 0) :: (.int 0) :: (.int 0) :: (.ref (ex 22)) :: (.int 0) :: (.ref (ex 23)) :: (.int 0) :: (.int 0) :: (.int 0) :: (.int 0) :: (.int 0) :: (.ref (ex 24)) :: (.ref (ex 25)) :: (.ref (ex 26)) :: (.ref (ex 27)) :: []))), ((a 2), .inr (7, [.int 0, .int 0, .ref (ex 28), .ref (ex 29), .ref (ex 30), .ref (ex 31), .ref (ex 32), .ref (ex 33), .ref (ex 34), .ref (ex 35), .ref (ex 36), .ref (ex 37)]))]) (hS : va_S A s.heap H locs) (hl : lv_has ls 7 [(4, .int 0), (3, .ref (ex 38)), (2, .ref (a 1)), (1, .ref (a 0)), (0, .ref b)]) : W p l e R s m #[Value.ref b] below meth c H locs 172 22099 Q (F0 m 966 ls []) := by
  refine lv_aload_n hx hb dL_law_966 rfl (lv_at hl 3 rfl) ?_
  refine lv_aload_n hx hb dL_law_967 rfl (lv_at hl 4 rfl) ?_
  refine lv_iload hx hb dL_law_968 (lv_at hl 0 rfl) ?_
  refine lv_iconst (v := 1) hx hb dL_law_970 (by decide) ?_
  refine lv_iadd hx hb dL_law_971 ?_
  refine xz_i 1 (by decide) ?_
  refine va_sld hx hb hX hbl hbA hS (vp_in_nI (n := 1) (by decide) (by decide)) dL_law_972 ?_
  refine xz_i x1 hx1 ?_
  have hPc := hP.sub (ws' := (pre_X11_partner T (xa [(a 0), (a 2)]) (xa [(ex 0), (ex 1), (ex 2), (ex 3), (ex 4), (ex 5), (ex 6), (ex 7), (ex 8), (ex 9), (ex 10), (ex 11), (ex 12), (ex 28), (ex 29), (ex 30), (ex 31), (ex 32), (ex 33), (ex 34), (ex 35), (ex 36), (ex 37)]) (xf []) (xh []) (xv [x1]))) [0, 2] rfl
  have hDc := hD.sub (ws' := (pre_X11_partner T (xa [(a 0), (a 2)]) (xa [(ex 0), (ex 1), (ex 2), (ex 3), (ex 4), (ex 5), (ex 6), (ex 7), (ex 8), (ex 9), (ex 10), (ex 11), (ex 12), (ex 28), (ex 29), (ex 30), (ex 31), (ex 32), (ex 33), (ex 34), (ex 35), (ex 36), (ex 37)]) (xf []) (xh []) (xv [x1]))) [0, 2] (by decide) rfl
  have hFc := va_free (wc := (pre_X11_partner T (xa [(a 0), (a 2)]) (xa [(ex 0), (ex 1), (ex 2), (ex 3), (ex 4), (ex 5), (ex 6), (ex 7), (ex 8), (ex 9), (ex 10), (ex 11), (ex 12), (ex 28), (ex 29), (ex 30), (ex 31), (ex 32), (ex 33), (ex 34), (ex 35), (ex 36), (ex 37)]) (xf []) (xh []) (xv [x1]))) hD hS hA [0, 2] rfl
  refine va_calli (va_runV (As := [.int x1]) (rest := []) ⟨hx, hb, hml, hown, htg⟩ (c_X11_partner l D T (xa [(a 0), (a 2)]) (xa [(ex 0), (ex 1), (ex 2), (ex 3), (ex 4), (ex 5), (ex 6), (ex 7), (ex 8), (ex 9), (ex 10), (ex 11), (ex 12), (ex 28), (ex 29), (ex 30), (ex 31), (ex 32), (ex 33), (ex 34), (ex 35), (ex 36), (ex 37)]) (xf []) (xh []) (xv [x1]) H.size) ⟨callB_of 1 htg (xg_ok kw_1015) rfl rfl rfl (htg _ kw_1) (htg _ kw_1012) (by decide +kernel) ⟨by rw [hR]; exact Nat.le_of_ble_eq_true rfl, by rw [hR]; exact Nat.le_of_ble_eq_true rfl⟩, htg _ kw_1013, htg _ kw_1014⟩ (xpreV hK hPc hDc (va_recv hK.1 hPc (ci := 11) (q0 := 0) rfl rfl)) rfl rfl hl.1 rfl (lv_room (Nat.le_of_ble_eq_true rfl)) dL_law_973 ⟨by rw [hR]; exact Nat.le_of_ble_eq_true rfl, by rw [hR]; exact Nat.le_of_ble_eq_true rfl⟩) hS (fun q _ h => hFc q h) hFc (fun r9 u t H1 locs ht hvm hw hB hz1 hk1 hS => ?_)
  obtain ⟨bk, fik, flk, vik, hP1, hD1, hGk⟩ := hB
  rw [ht] at hP1
  obtain ⟨hP, hD⟩ := va_join (wr := [((a 1), .inr (12, ((.int 0) :: (.ref (ex 13)) :: (.int 0) :: (.int 0) :: (.int 0) :: (.int 0) :: (.ref (ex 14)) :: (.ref (ex 15)) :: (.ref (ex 16)) :: (.ref (ex 17)) :: (.ref (ex 18)) :: (.int 0) :: (.int 0) :: (.int 0) :: (.int 0) :: (.int 0) :: (.int 0) :: (.long 0) :: (.int 0) :: (.int 0) :: (.int 0) :: (.ref (ex 19)) :: (.ref (ex 20)) :: (.int 0) :: (.ref (ex 21)) :: (.int (-1)) :: (.int 0) :: (.int 0) :: (.int 0) :: (.int 0) :: (.int 0) :: (.int 0) :: (.ref (ex 22)) :: (.int 0) :: (.ref (ex 23)) :: (.int 0) :: (.int 0) :: (.int 0) :: (.int 0) :: (.int 0) :: (.ref (ex 24)) :: (.ref (ex 25)) :: (.ref (ex 26)) :: (.ref (ex 27)) :: [])))]) (w1 := []) hP hD [0, 2] [1] rfl rfl (by decide) (by decide) hk1 hFc hP1 hD1
  subst hw
  clear hPc hDc hFc hP1 hD1 hk1 hz1 hvm ht
  generalize H1 = H at hP hS ⊢
  replace hP : va_P D vwCl [((a 1), .inr (12, ((.int 0) :: (.ref (ex 13)) :: (.int 0) :: (.int 0) :: (.int 0) :: (.int 0) :: (.ref (ex 14)) :: (.ref (ex 15)) :: (.ref (ex 16)) :: (.ref (ex 17)) :: (.ref (ex 18)) :: (.int 0) :: (.int 0) :: (.int 0) :: (.int 0) :: (.int 0) :: (.int 0) :: (.long 0) :: (.int 0) :: (.int 0) :: (.int 0) :: (.ref (ex 19)) :: (.ref (ex 20)) :: (.int 0) :: (.ref (ex 21)) :: (.int (-1)) :: (.int 0) :: (.int 0) :: (.int 0) :: (.int 0) :: (.int 0) :: (.int 0) :: (.ref (ex 22)) :: (.int 0) :: (.ref (ex 23)) :: (.int 0) :: (.int 0) :: (.int 0) :: (.int 0) :: (.int 0) :: (.ref (ex 24)) :: (.ref (ex 25)) :: (.ref (ex 26)) :: (.ref (ex 27)) :: [])))] H := hP
  replace hD : va_D A [((a 1), .inr (12, ((.int 0) :: (.ref (ex 13)) :: (.int 0) :: (.int 0) :: (.int 0) :: (.int 0) :: (.ref (ex 14)) :: (.ref (ex 15)) :: (.ref (ex 16)) :: (.ref (ex 17)) :: (.ref (ex 18)) :: (.int 0) :: (.int 0) :: (.int 0) :: (.int 0) :: (.int 0) :: (.int 0) :: (.long 0) :: (.int 0) :: (.int 0) :: (.int 0) :: (.ref (ex 19)) :: (.ref (ex 20)) :: (.int 0) :: (.ref (ex 21)) :: (.int (-1)) :: (.int 0) :: (.int 0) :: (.int 0) :: (.int 0) :: (.int 0) :: (.int 0) :: (.ref (ex 22)) :: (.int 0) :: (.ref (ex 23)) :: (.int 0) :: (.int 0) :: (.int 0) :: (.int 0) :: (.int 0) :: (.ref (ex 24)) :: (.ref (ex 25)) :: (.ref (ex 26)) :: (.ref (ex 27)) :: [])))] := hD
  refine lv_aload_n hx hb dL_law_976 rfl (lv_at hl 2 rfl) ?_
  refine lv_aload_n hx hb dL_law_977 rfl (lv_at hl 4 rfl) ?_
  refine lv_iload hx hb dL_law_978 (lv_at hl 0 rfl) ?_
  refine lv_iconst (v := 1) hx hb dL_law_980 (by decide) ?_
  refine lv_iadd hx hb dL_law_981 ?_
  refine xz_i 1 (by decide) ?_
  refine va_sld hx hb hX hbl hbA hS (vp_in_nI (n := 1) (by decide) (by decide)) dL_law_982 ?_
  refine xz_i x1 hx1 ?_
  have hPc := hP.sub (ws' := (pre_X12_partner T (xa [(a 1)]) (xa [(ex 13), (ex 14), (ex 15), (ex 16), (ex 17), (ex 18), (ex 19), (ex 20), (ex 21), (ex 22), (ex 23), (ex 24), (ex 25), (ex 26), (ex 27)]) (xf []) (xh []) (xv [x1]))) [0] rfl
  have hDc := hD.sub (ws' := (pre_X12_partner T (xa [(a 1)]) (xa [(ex 13), (ex 14), (ex 15), (ex 16), (ex 17), (ex 18), (ex 19), (ex 20), (ex 21), (ex 22), (ex 23), (ex 24), (ex 25), (ex 26), (ex 27)]) (xf []) (xh []) (xv [x1]))) [0] (by decide) rfl
  have hFc := va_free (wc := (pre_X12_partner T (xa [(a 1)]) (xa [(ex 13), (ex 14), (ex 15), (ex 16), (ex 17), (ex 18), (ex 19), (ex 20), (ex 21), (ex 22), (ex 23), (ex 24), (ex 25), (ex 26), (ex 27)]) (xf []) (xh []) (xv [x1]))) hD hS hA [0] rfl
  refine va_calli (va_runV (As := [.int x1]) (rest := [.int (-1)]) ⟨hx, hb, hml, hown, htg⟩ (c_X12_partner l D T (xa [(a 1)]) (xa [(ex 13), (ex 14), (ex 15), (ex 16), (ex 17), (ex 18), (ex 19), (ex 20), (ex 21), (ex 22), (ex 23), (ex 24), (ex 25), (ex 26), (ex 27)]) (xf []) (xh []) (xv [x1]) H.size) ⟨callB_of 1 htg (xg_ok kw_1852) rfl rfl rfl (htg _ kw_17) (htg _ kw_1849) (by decide +kernel) ⟨by rw [hR]; exact Nat.le_of_ble_eq_true rfl, by rw [hR]; exact Nat.le_of_ble_eq_true rfl⟩, htg _ kw_1850, htg _ kw_1851⟩ (xpreV hK hPc hDc (va_recv hK.1 hPc (ci := 12) (q0 := 0) rfl rfl)) rfl rfl hl.1 rfl (lv_room (Nat.le_of_ble_eq_true rfl)) dL_law_983 ⟨by rw [hR]; exact Nat.le_of_ble_eq_true rfl, by rw [hR]; exact Nat.le_of_ble_eq_true rfl⟩) hS (fun q _ h => hFc q h) hFc (fun r9 u t H1 locs ht hvm hw hB hz1 hk1 hS => ?_)
  obtain ⟨bk_1, fik_1, flk_1, vik_1, hP1, hD1, hGk_1⟩ := hB
  rw [ht] at hP1
  obtain ⟨hP, hD⟩ := va_join (wr := []) (w1 := []) hP hD [0] [] rfl rfl (by decide) (by decide) hk1 hFc hP1 hD1
  subst hw
  clear hPc hDc hFc hP1 hD1 hk1 hz1 hvm ht
  generalize H1 = H at hP hS ⊢
  replace hP : va_P D vwCl [] H := hP
  replace hD : va_D A [] := hD
  refine lv_icmp_eq (tgt := 1466) hx hb dL_law_986 (by decide) (fun _ => ?_) (fun c => absurd (by decide) c)
  refine lv_iinc (v := 6) (lv' := [(4, .int 6), (3, .ref (ex 38)), (2, .ref (a 1)), (1, .ref (a 0)), (0, .ref b)]) hx hb dL_law_1466 hl (k := 0) rfl (by decide) (by decide) rfl (fun ls hl => ?_)
  refine lv_goto (tgt := 23) hx hb dL_law_1469 (by decide) ?_
  refine lv_iload hx hb dL_law_23 (lv_at hl 0 rfl) ?_
  refine lv_aload_n hx hb dL_law_25 rfl (lv_at hl 4 rfl) ?_
  refine va_slen hx hb hX hbl hbA hS dL_law_26 ?_
  refine xz_i 6 rfl ?_
  refine lv_bipush (v := 6) hx hb dL_law_27 (by decide) ?_
  refine lv_isub hx hb dL_law_29 ?_
  refine xz_i 0 (by decide) ?_
  refine lv_icmp_gt (tgt := 1472) hx hb dL_law_30 (by decide) (fun _ => ?_) (fun c => absurd (by decide) c)
  refine lv_iconst (v := 1) hx hb dL_law_1472 (by decide) ?_
  refine va_forget (fun q hq => by have h9 := hS.2.2 q hq; rw [hAe] at h9; exact h9) ?_
  refine W.widen (k := 600002) (n := 7302232) (Nat.le_of_ble_eq_true rfl) (Nat.le_of_ble_eq_true rfl) ?_
  subst hR
  rw [hQ]
  exact lw_ret hx hb hr hlocks dL_law_1473
set_option maxHeartbeats 4000000 in
set_option maxRecDepth 100000 in
theorem lw_bidder {p : Program} {e : Env} {s : State} {m : MethodId} {below : List Frame} {meth : Method} {c : Code} (l : Launch) (hlt : l.stackTraces = false) {b : Nat} {xs : Nat → Int32} (D : va_G) (T : Nat → ClassId) (a ex : Nat → Nat) (fi : Nat → Nat → Int32) (fl : Nat → Nat → Int64) (vi : Nat → Int32) (kK kV : Nat → Nat) (R : Room) (Q : State → Prop) (A : Nat → Prop) (hR : R = room_1) (hQ : Q = lw_Z below #[Value.ref b] s) (hAe : A = fun q => s.heap.size ≤ q) (hx : p.tables.exec = Jvm.exec) (hb : c.code = code) (hr : meth.sig.returnType = ret) (hml : c.maxLocals = 7) (hown : s.vm.findClass RL = some m.cls) (htg : ∀ w ∈ xg, w.before #[Value.ref b] s = true) (hbl : b < s.heap.size) (hbA : ¬ A b) (hlocks : meth.locks = false) (hK : xK D T s) (hA : ∀ q : Nat, s.heap.size ≤ q → A q) (hT : xT kK kV A s s.heap) (hZt : xZ2 A s s.heap) (hX : va_X b 6 xs s s.heap) (x1 x2 x3 x4 x5 : Int32) (hx1 : xs 1 = x1) (hx2 : xs 2 = x2) (hx3 : xs 3 = x3) (hx4 : xs 4 = x4) (hx5 : xs 5 = x5) (H : Heap) (locs : List Loc) (ls : Array Slot) (hP : va_P D vwCl [((a 0), .inr (11, [.ref (ex 0), .ref (a 2), .ref (ex 1), .ref (ex 2), .ref (ex 3), .ref (ex 4), .ref (ex 5), .ref (ex 6), .ref (ex 7), .ref (ex 8), .ref (ex 9), .ref (ex 10), .ref (ex 11), .ref (ex 12), .int 0])), ((a 1), .inr (12, ((.int 0) :: (.ref (ex 13)) :: (.int 0) :: (.int 0) :: (.int 0) :: (.int 0) :: (.ref (a 3)) :: (.ref (ex 14)) :: (.ref (ex 15)) :: (.ref (ex 16)) :: (.ref (ex 17)) :: (.int 0) :: (.int 0) :: (.int 0) :: (.int 0) :: (.int 0) :: (.int 0) :: (.long 0) :: (.int 0) :: (.int 0) :: (.int 0) :: (.ref (ex 18)) :: (.ref (ex 19)) :: (.int 0) :: (.ref (ex 20)) :: (.int (-1)) :: (.int 0) :: (.int 0) :: (.int 0) :: (.int 0) :: (.int 0) :: (.int 0) :: (.ref (ex 21)) :: (.int 0) :: (.ref (ex 22)) :: (.int 0) :: (.int 0) :: (.int 0) :: (.int 0) :: (.int 0) :: (.ref (ex 23)) :: (.ref (ex 24)) :: (.ref (ex 25)) :: (.ref (ex 26)) :: []))), ((a 2), .inr (7, [.int 0, .int 0, .ref (ex 27), .ref (ex 28), .ref (ex 29), .ref (ex 30), .ref (ex 31), .ref (ex 32), .ref (ex 33), .ref (ex 34), .ref (ex 35), .ref (ex 36)])), ((a 3), .inl (T 1, 2187, .inl (fun _ => 0)))] H) (hD : va_D A [((a 0), .inr (11, [.ref (ex 0), .ref (a 2), .ref (ex 1), .ref (ex 2), .ref (ex 3), .ref (ex 4), .ref (ex 5), .ref (ex 6), .ref (ex 7), .ref (ex 8), .ref (ex 9), .ref (ex 10), .ref (ex 11), .ref (ex 12), .int 0])), ((a 1), .inr (12, ((.int 0) :: (.ref (ex 13)) :: (.int 0) :: (.int 0) :: (.int 0) :: (.int 0) :: (.ref (a 3)) :: (.ref (ex 14)) :: (.ref (ex 15)) :: (.ref (ex 16)) :: (.ref (ex 17)) :: (.int 0) :: (.int 0) :: (.int 0) :: (.int 0) :: (.int 0) :: (.int 0) :: (.long 0) :: (.int 0) :: (.int 0) :: (.int 0) :: (.ref (ex 18)) :: (.ref (ex 19)) :: (.int 0) :: (.ref (ex 20)) :: (.int (-1)) :: (.int 0) :: (.int 0) :: (.int 0) :: (.int 0) :: (.int 0) :: (.int 0) :: (.ref (ex 21)) :: (.int 0) :: (.ref (ex 22)) :: (.int 0) :: (.int 0) :: (.int 0) :: (.int 0) :: (.int 0) :: (.ref (ex 23)) :: (.ref (ex 24)) :: (.ref (ex 25)) :: (.ref (ex 26)) :: []))), ((a 2), .inr (7, [.int 0, .int 0, .ref (ex 27), .ref (ex 28), .ref (ex 29), .ref (ex 30), .ref (ex 31), .ref (ex 32), .ref (ex 33), .ref (ex 34), .ref (ex 35), .ref (ex 36)])), ((a 3), .inl (T 1, 2187, .inl (fun _ => 0)))]) (hS : va_S A s.heap H locs) (hl : lv_has ls 7 [(4, .int 0), (3, .ref (ex 37)), (2, .ref (a 1)), (1, .ref (a 0)), (0, .ref b)]) : W p l e R s m #[Value.ref b] below meth c H locs 172 22099 Q (F0 m 991 ls []) := by
  refine lv_aload_n hx hb dL_law_991 rfl (lv_at hl 3 rfl) ?_
  refine lv_aload_n hx hb dL_law_992 rfl (lv_at hl 4 rfl) ?_
  refine lv_iload hx hb dL_law_993 (lv_at hl 0 rfl) ?_
  refine lv_iconst (v := 1) hx hb dL_law_995 (by decide) ?_
  refine lv_iadd hx hb dL_law_996 ?_
  refine xz_i 1 (by decide) ?_
  refine va_sld hx hb hX hbl hbA hS (vp_in_nI (n := 1) (by decide) (by decide)) dL_law_997 ?_
  refine xz_i x1 hx1 ?_
  have hPc := hP.sub (ws' := (pre_X11_bidder T (xa [(a 0), (a 2)]) (xa [(ex 0), (ex 1), (ex 2), (ex 3), (ex 4), (ex 5), (ex 6), (ex 7), (ex 8), (ex 9), (ex 10), (ex 11), (ex 12), (ex 27), (ex 28), (ex 29), (ex 30), (ex 31), (ex 32), (ex 33), (ex 34), (ex 35), (ex 36)]) (xf []) (xh []) (xv [x1]))) [0, 2] rfl
  have hDc := hD.sub (ws' := (pre_X11_bidder T (xa [(a 0), (a 2)]) (xa [(ex 0), (ex 1), (ex 2), (ex 3), (ex 4), (ex 5), (ex 6), (ex 7), (ex 8), (ex 9), (ex 10), (ex 11), (ex 12), (ex 27), (ex 28), (ex 29), (ex 30), (ex 31), (ex 32), (ex 33), (ex 34), (ex 35), (ex 36)]) (xf []) (xh []) (xv [x1]))) [0, 2] (by decide) rfl
  have hFc := va_free (wc := (pre_X11_bidder T (xa [(a 0), (a 2)]) (xa [(ex 0), (ex 1), (ex 2), (ex 3), (ex 4), (ex 5), (ex 6), (ex 7), (ex 8), (ex 9), (ex 10), (ex 11), (ex 12), (ex 27), (ex 28), (ex 29), (ex 30), (ex 31), (ex 32), (ex 33), (ex 34), (ex 35), (ex 36)]) (xf []) (xh []) (xv [x1]))) hD hS hA [0, 2] rfl
  refine va_calli (va_runV (As := [.int x1]) (rest := []) ⟨hx, hb, hml, hown, htg⟩ (c_X11_bidder l D T (xa [(a 0), (a 2)]) (xa [(ex 0), (ex 1), (ex 2), (ex 3), (ex 4), (ex 5), (ex 6), (ex 7), (ex 8), (ex 9), (ex 10), (ex 11), (ex 12), (ex 27), (ex 28), (ex 29), (ex 30), (ex 31), (ex 32), (ex 33), (ex 34), (ex 35), (ex 36)]) (xf []) (xh []) (xv [x1]) H.size) ⟨callB_of 1 htg (xg_ok kw_1023) rfl rfl rfl (htg _ kw_1) (htg _ kw_1020) (by decide +kernel) ⟨by rw [hR]; exact Nat.le_of_ble_eq_true rfl, by rw [hR]; exact Nat.le_of_ble_eq_true rfl⟩, htg _ kw_1021, htg _ kw_1022⟩ (xpreV hK hPc hDc (va_recv hK.1 hPc (ci := 11) (q0 := 0) rfl rfl)) rfl rfl hl.1 rfl (lv_room (Nat.le_of_ble_eq_true rfl)) dL_law_998 ⟨by rw [hR]; exact Nat.le_of_ble_eq_true rfl, by rw [hR]; exact Nat.le_of_ble_eq_true rfl⟩) hS (fun q _ h => hFc q h) hFc (fun r9 u t H1 locs ht hvm hw hB hz1 hk1 hS => ?_)
  obtain ⟨bk, fik, flk, vik, hP1, hD1, hGk⟩ := hB
  rw [ht] at hP1
  obtain ⟨hP, hD⟩ := va_join (wr := [((a 1), .inr (12, ((.int 0) :: (.ref (ex 13)) :: (.int 0) :: (.int 0) :: (.int 0) :: (.int 0) :: (.ref (a 3)) :: (.ref (ex 14)) :: (.ref (ex 15)) :: (.ref (ex 16)) :: (.ref (ex 17)) :: (.int 0) :: (.int 0) :: (.int 0) :: (.int 0) :: (.int 0) :: (.int 0) :: (.long 0) :: (.int 0) :: (.int 0) :: (.int 0) :: (.ref (ex 18)) :: (.ref (ex 19)) :: (.int 0) :: (.ref (ex 20)) :: (.int (-1)) :: (.int 0) :: (.int 0) :: (.int 0) :: (.int 0) :: (.int 0) :: (.int 0) :: (.ref (ex 21)) :: (.int 0) :: (.ref (ex 22)) :: (.int 0) :: (.int 0) :: (.int 0) :: (.int 0) :: (.int 0) :: (.ref (ex 23)) :: (.ref (ex 24)) :: (.ref (ex 25)) :: (.ref (ex 26)) :: []))), ((a 3), .inl (T 1, 2187, .inl (fun _ => 0)))]) (w1 := []) hP hD [0, 2] [1, 3] rfl rfl (by decide) (by decide) hk1 hFc hP1 hD1
  subst hw
  clear hPc hDc hFc hP1 hD1 hk1 hz1 hvm ht
  generalize H1 = H at hP hS ⊢
  replace hP : va_P D vwCl [((a 1), .inr (12, ((.int 0) :: (.ref (ex 13)) :: (.int 0) :: (.int 0) :: (.int 0) :: (.int 0) :: (.ref (a 3)) :: (.ref (ex 14)) :: (.ref (ex 15)) :: (.ref (ex 16)) :: (.ref (ex 17)) :: (.int 0) :: (.int 0) :: (.int 0) :: (.int 0) :: (.int 0) :: (.int 0) :: (.long 0) :: (.int 0) :: (.int 0) :: (.int 0) :: (.ref (ex 18)) :: (.ref (ex 19)) :: (.int 0) :: (.ref (ex 20)) :: (.int (-1)) :: (.int 0) :: (.int 0) :: (.int 0) :: (.int 0) :: (.int 0) :: (.int 0) :: (.ref (ex 21)) :: (.int 0) :: (.ref (ex 22)) :: (.int 0) :: (.int 0) :: (.int 0) :: (.int 0) :: (.int 0) :: (.ref (ex 23)) :: (.ref (ex 24)) :: (.ref (ex 25)) :: (.ref (ex 26)) :: []))), ((a 3), .inl (T 1, 2187, .inl (fun _ => 0)))] H := hP
  replace hD : va_D A [((a 1), .inr (12, ((.int 0) :: (.ref (ex 13)) :: (.int 0) :: (.int 0) :: (.int 0) :: (.int 0) :: (.ref (a 3)) :: (.ref (ex 14)) :: (.ref (ex 15)) :: (.ref (ex 16)) :: (.ref (ex 17)) :: (.int 0) :: (.int 0) :: (.int 0) :: (.int 0) :: (.int 0) :: (.int 0) :: (.long 0) :: (.int 0) :: (.int 0) :: (.int 0) :: (.ref (ex 18)) :: (.ref (ex 19)) :: (.int 0) :: (.ref (ex 20)) :: (.int (-1)) :: (.int 0) :: (.int 0) :: (.int 0) :: (.int 0) :: (.int 0) :: (.int 0) :: (.ref (ex 21)) :: (.int 0) :: (.ref (ex 22)) :: (.int 0) :: (.int 0) :: (.int 0) :: (.int 0) :: (.int 0) :: (.ref (ex 23)) :: (.ref (ex 24)) :: (.ref (ex 25)) :: (.ref (ex 26)) :: []))), ((a 3), .inl (T 1, 2187, .inl (fun _ => 0)))] := hD
  refine lv_aload_n hx hb dL_law_1001 rfl (lv_at hl 2 rfl) ?_
  refine lv_aload_n hx hb dL_law_1002 rfl (lv_at hl 4 rfl) ?_
  refine lv_iload hx hb dL_law_1003 (lv_at hl 0 rfl) ?_
  refine lv_iconst (v := 1) hx hb dL_law_1005 (by decide) ?_
  refine lv_iadd hx hb dL_law_1006 ?_
  refine xz_i 1 (by decide) ?_
  refine va_sld hx hb hX hbl hbA hS (vp_in_nI (n := 1) (by decide) (by decide)) dL_law_1007 ?_
  refine xz_i x1 hx1 ?_
  have hPc := hP.sub (ws' := (pre_X12_bidder T (xa [(a 1), (a 3)]) (xa [(ex 13), (ex 14), (ex 15), (ex 16), (ex 17), (ex 18), (ex 19), (ex 20), (ex 21), (ex 22), (ex 23), (ex 24), (ex 25), (ex 26)]) (xf []) (xh []) (xv [x1]))) [0, 1] rfl
  have hDc := hD.sub (ws' := (pre_X12_bidder T (xa [(a 1), (a 3)]) (xa [(ex 13), (ex 14), (ex 15), (ex 16), (ex 17), (ex 18), (ex 19), (ex 20), (ex 21), (ex 22), (ex 23), (ex 24), (ex 25), (ex 26)]) (xf []) (xh []) (xv [x1]))) [0, 1] (by decide) rfl
  have hFc := va_free (wc := (pre_X12_bidder T (xa [(a 1), (a 3)]) (xa [(ex 13), (ex 14), (ex 15), (ex 16), (ex 17), (ex 18), (ex 19), (ex 20), (ex 21), (ex 22), (ex 23), (ex 24), (ex 25), (ex 26)]) (xf []) (xh []) (xv [x1]))) hD hS hA [0, 1] rfl
  refine va_calli (va_runV (As := [.int x1]) (rest := [.int (-1)]) ⟨hx, hb, hml, hown, htg⟩ (c_X12_bidder l D T (xa [(a 1), (a 3)]) (xa [(ex 13), (ex 14), (ex 15), (ex 16), (ex 17), (ex 18), (ex 19), (ex 20), (ex 21), (ex 22), (ex 23), (ex 24), (ex 25), (ex 26)]) (xf []) (xh []) (xv [x1]) H.size) ⟨callB_of 1 htg (xg_ok kw_1856) rfl rfl rfl (htg _ kw_17) (htg _ kw_1853) (by decide +kernel) ⟨by rw [hR]; exact Nat.le_of_ble_eq_true rfl, by rw [hR]; exact Nat.le_of_ble_eq_true rfl⟩, htg _ kw_1854, htg _ kw_1855⟩ (xpreV hK hPc hDc (va_recv hK.1 hPc (ci := 12) (q0 := 0) rfl rfl)) rfl rfl hl.1 rfl (lv_room (Nat.le_of_ble_eq_true rfl)) dL_law_1008 ⟨by rw [hR]; exact Nat.le_of_ble_eq_true rfl, by rw [hR]; exact Nat.le_of_ble_eq_true rfl⟩) hS (fun q _ h => hFc q h) hFc (fun r9 u t H1 locs ht hvm hw hB hz1 hk1 hS => ?_)
  obtain ⟨bk_1, fik_1, flk_1, vik_1, hP1, hD1, hGk_1⟩ := hB
  rw [ht] at hP1
  obtain ⟨hP, hD⟩ := va_join (wr := []) (w1 := []) hP hD [0, 1] [] rfl rfl (by decide) (by decide) hk1 hFc hP1 hD1
  subst hw
  clear hPc hDc hFc hP1 hD1 hk1 hz1 hvm ht
  generalize H1 = H at hP hS ⊢
  replace hP : va_P D vwCl [] H := hP
  replace hD : va_D A [] := hD
  refine lv_icmp_eq (tgt := 1466) hx hb dL_law_1011 (by decide) (fun _ => ?_) (fun c => absurd (by decide) c)
  refine lv_iinc (v := 6) (lv' := [(4, .int 6), (3, .ref (ex 37)), (2, .ref (a 1)), (1, .ref (a 0)), (0, .ref b)]) hx hb dL_law_1466 hl (k := 0) rfl (by decide) (by decide) rfl (fun ls hl => ?_)
  refine lv_goto (tgt := 23) hx hb dL_law_1469 (by decide) ?_
  refine lv_iload hx hb dL_law_23 (lv_at hl 0 rfl) ?_
  refine lv_aload_n hx hb dL_law_25 rfl (lv_at hl 4 rfl) ?_
  refine va_slen hx hb hX hbl hbA hS dL_law_26 ?_
  refine xz_i 6 rfl ?_
  refine lv_bipush (v := 6) hx hb dL_law_27 (by decide) ?_
  refine lv_isub hx hb dL_law_29 ?_
  refine xz_i 0 (by decide) ?_
  refine lv_icmp_gt (tgt := 1472) hx hb dL_law_30 (by decide) (fun _ => ?_) (fun c => absurd (by decide) c)
  refine lv_iconst (v := 1) hx hb dL_law_1472 (by decide) ?_
  refine va_forget (fun q hq => by have h9 := hS.2.2 q hq; rw [hAe] at h9; exact h9) ?_
  refine W.widen (k := 600002) (n := 7302232) (Nat.le_of_ble_eq_true rfl) (Nat.le_of_ble_eq_true rfl) ?_
  subst hR
  rw [hQ]
  exact lw_ret hx hb hr hlocks dL_law_1473
set_option maxHeartbeats 4000000 in
set_option maxRecDepth 100000 in
theorem lw_bid {p : Program} {e : Env} {s : State} {m : MethodId} {below : List Frame} {meth : Method} {c : Code} (l : Launch) (hlt : l.stackTraces = false) {b : Nat} {xs : Nat → Int32} (D : va_G) (T : Nat → ClassId) (a ex : Nat → Nat) (fi : Nat → Nat → Int32) (fl : Nat → Nat → Int64) (vi : Nat → Int32) (kK kV : Nat → Nat) (R : Room) (Q : State → Prop) (A : Nat → Prop) (hR : R = room_1) (hQ : Q = lw_Z below #[Value.ref b] s) (hAe : A = fun q => s.heap.size ≤ q) (hx : p.tables.exec = Jvm.exec) (hb : c.code = code) (hr : meth.sig.returnType = ret) (hml : c.maxLocals = 7) (hown : s.vm.findClass RL = some m.cls) (htg : ∀ w ∈ xg, w.before #[Value.ref b] s = true) (hbl : b < s.heap.size) (hbA : ¬ A b) (hlocks : meth.locks = false) (hK : xK D T s) (hA : ∀ q : Nat, s.heap.size ≤ q → A q) (hT : xT kK kV A s s.heap) (hZt : xZ2 A s s.heap) (hX : va_X b 6 xs s s.heap) (x1 x2 x3 x4 x5 : Int32) (hx1 : xs 1 = x1) (hx2 : xs 2 = x2) (hx3 : xs 3 = x3) (hx4 : xs 4 = x4) (hx5 : xs 5 = x5) (H : Heap) (locs : List Loc) (ls : Array Slot) (hP : va_P D vwCl [((a 0), .inr (11, [.ref (ex 0), .ref (a 2), .ref (ex 1), .ref (ex 2), .ref (ex 3), .ref (ex 4), .ref (ex 5), .ref (ex 6), .ref (ex 7), .ref (ex 8), .ref (ex 9), .ref (ex 10), .ref (ex 11), .ref (ex 12), .int 0])), ((a 1), .inr (12, ((.int 0) :: (.ref (ex 13)) :: (.int 0) :: (.int 0) :: (.int 0) :: (.int 0) :: (.ref (a 3)) :: (.ref (ex 14)) :: (.ref (ex 15)) :: (.ref (ex 16)) :: (.ref (ex 17)) :: (.int 0) :: (.int 0) :: (.int 0) :: (.int 0) :: (.int 0) :: (.int 0) :: (.long 0) :: (.int 0) :: (.int 0) :: (.int 0) :: (.ref (ex 18)) :: (.ref (ex 19)) :: (.int 0) :: (.ref (ex 20)) :: (.int (-1)) :: (.int 0) :: (.int 0) :: (.int 0) :: (.int 0) :: (.int 0) :: (.int 0) :: (.ref (ex 21)) :: (.int 0) :: (.ref (ex 22)) :: (.int 0) :: (.int 0) :: (.int 0) :: (.int 0) :: (.int 0) :: (.ref (ex 23)) :: (.ref (ex 24)) :: (.ref (ex 25)) :: (.ref (ex 26)) :: []))), ((a 2), .inr (7, [.int 0, .int 0, .ref (ex 27), .ref (ex 28), .ref (ex 29), .ref (ex 30), .ref (ex 31), .ref (ex 32), .ref (ex 33), .ref (ex 34), .ref (ex 35), .ref (ex 36)])), ((a 3), .inl (T 1, 2187, .inl (fun _ => 0)))] H) (hD : va_D A [((a 0), .inr (11, [.ref (ex 0), .ref (a 2), .ref (ex 1), .ref (ex 2), .ref (ex 3), .ref (ex 4), .ref (ex 5), .ref (ex 6), .ref (ex 7), .ref (ex 8), .ref (ex 9), .ref (ex 10), .ref (ex 11), .ref (ex 12), .int 0])), ((a 1), .inr (12, ((.int 0) :: (.ref (ex 13)) :: (.int 0) :: (.int 0) :: (.int 0) :: (.int 0) :: (.ref (a 3)) :: (.ref (ex 14)) :: (.ref (ex 15)) :: (.ref (ex 16)) :: (.ref (ex 17)) :: (.int 0) :: (.int 0) :: (.int 0) :: (.int 0) :: (.int 0) :: (.int 0) :: (.long 0) :: (.int 0) :: (.int 0) :: (.int 0) :: (.ref (ex 18)) :: (.ref (ex 19)) :: (.int 0) :: (.ref (ex 20)) :: (.int (-1)) :: (.int 0) :: (.int 0) :: (.int 0) :: (.int 0) :: (.int 0) :: (.int 0) :: (.ref (ex 21)) :: (.int 0) :: (.ref (ex 22)) :: (.int 0) :: (.int 0) :: (.int 0) :: (.int 0) :: (.int 0) :: (.ref (ex 23)) :: (.ref (ex 24)) :: (.ref (ex 25)) :: (.ref (ex 26)) :: []))), ((a 2), .inr (7, [.int 0, .int 0, .ref (ex 27), .ref (ex 28), .ref (ex 29), .ref (ex 30), .ref (ex 31), .ref (ex 32), .ref (ex 33), .ref (ex 34), .ref (ex 35), .ref (ex 36)])), ((a 3), .inl (T 1, 2187, .inl (fun _ => 0)))]) (hS : va_S A s.heap H locs) (hl : lv_has ls 7 [(4, .int 0), (3, .ref (ex 37)), (2, .ref (a 1)), (1, .ref (a 0)), (0, .ref b)]) : W p l e R s m #[Value.ref b] below meth c H locs 172 22099 Q (F0 m 1016 ls []) := by
  refine lv_aload_n hx hb dL_law_1016 rfl (lv_at hl 3 rfl) ?_
  refine lv_aload_n hx hb dL_law_1017 rfl (lv_at hl 4 rfl) ?_
  refine lv_iload hx hb dL_law_1018 (lv_at hl 0 rfl) ?_
  refine lv_iconst (v := 1) hx hb dL_law_1020 (by decide) ?_
  refine lv_iadd hx hb dL_law_1021 ?_
  refine xz_i 1 (by decide) ?_
  refine va_sld hx hb hX hbl hbA hS (vp_in_nI (n := 1) (by decide) (by decide)) dL_law_1022 ?_
  refine xz_i x1 hx1 ?_
  have hPc := hP.sub (ws' := (pre_X11_bid T (xa [(a 0), (a 2)]) (xa [(ex 0), (ex 1), (ex 2), (ex 3), (ex 4), (ex 5), (ex 6), (ex 7), (ex 8), (ex 9), (ex 10), (ex 11), (ex 12), (ex 27), (ex 28), (ex 29), (ex 30), (ex 31), (ex 32), (ex 33), (ex 34), (ex 35), (ex 36)]) (xf []) (xh []) (xv [x1]))) [0, 2] rfl
  have hDc := hD.sub (ws' := (pre_X11_bid T (xa [(a 0), (a 2)]) (xa [(ex 0), (ex 1), (ex 2), (ex 3), (ex 4), (ex 5), (ex 6), (ex 7), (ex 8), (ex 9), (ex 10), (ex 11), (ex 12), (ex 27), (ex 28), (ex 29), (ex 30), (ex 31), (ex 32), (ex 33), (ex 34), (ex 35), (ex 36)]) (xf []) (xh []) (xv [x1]))) [0, 2] (by decide) rfl
  have hFc := va_free (wc := (pre_X11_bid T (xa [(a 0), (a 2)]) (xa [(ex 0), (ex 1), (ex 2), (ex 3), (ex 4), (ex 5), (ex 6), (ex 7), (ex 8), (ex 9), (ex 10), (ex 11), (ex 12), (ex 27), (ex 28), (ex 29), (ex 30), (ex 31), (ex 32), (ex 33), (ex 34), (ex 35), (ex 36)]) (xf []) (xh []) (xv [x1]))) hD hS hA [0, 2] rfl
  refine va_calli (va_runV (As := [.int x1]) (rest := []) ⟨hx, hb, hml, hown, htg⟩ (c_X11_bid l D T (xa [(a 0), (a 2)]) (xa [(ex 0), (ex 1), (ex 2), (ex 3), (ex 4), (ex 5), (ex 6), (ex 7), (ex 8), (ex 9), (ex 10), (ex 11), (ex 12), (ex 27), (ex 28), (ex 29), (ex 30), (ex 31), (ex 32), (ex 33), (ex 34), (ex 35), (ex 36)]) (xf []) (xh []) (xv [x1]) H.size) ⟨callB_of 1 htg (xg_ok kw_1034) rfl rfl rfl (htg _ kw_1) (htg _ kw_1031) (by decide +kernel) ⟨by rw [hR]; exact Nat.le_of_ble_eq_true rfl, by rw [hR]; exact Nat.le_of_ble_eq_true rfl⟩, htg _ kw_1032, htg _ kw_1033⟩ (xpreV hK hPc hDc (va_recv hK.1 hPc (ci := 11) (q0 := 0) rfl rfl)) rfl rfl hl.1 rfl (lv_room (Nat.le_of_ble_eq_true rfl)) dL_law_1023 ⟨by rw [hR]; exact Nat.le_of_ble_eq_true rfl, by rw [hR]; exact Nat.le_of_ble_eq_true rfl⟩) hS (fun q _ h => hFc q h) hFc (fun r9 u t H1 locs ht hvm hw hB hz1 hk1 hS => ?_)
  obtain ⟨bk, fik, flk, vik, hP1, hD1, hGk⟩ := hB
  rw [ht] at hP1
  obtain ⟨hP, hD⟩ := va_join (wr := [((a 1), .inr (12, ((.int 0) :: (.ref (ex 13)) :: (.int 0) :: (.int 0) :: (.int 0) :: (.int 0) :: (.ref (a 3)) :: (.ref (ex 14)) :: (.ref (ex 15)) :: (.ref (ex 16)) :: (.ref (ex 17)) :: (.int 0) :: (.int 0) :: (.int 0) :: (.int 0) :: (.int 0) :: (.int 0) :: (.long 0) :: (.int 0) :: (.int 0) :: (.int 0) :: (.ref (ex 18)) :: (.ref (ex 19)) :: (.int 0) :: (.ref (ex 20)) :: (.int (-1)) :: (.int 0) :: (.int 0) :: (.int 0) :: (.int 0) :: (.int 0) :: (.int 0) :: (.ref (ex 21)) :: (.int 0) :: (.ref (ex 22)) :: (.int 0) :: (.int 0) :: (.int 0) :: (.int 0) :: (.int 0) :: (.ref (ex 23)) :: (.ref (ex 24)) :: (.ref (ex 25)) :: (.ref (ex 26)) :: []))), ((a 3), .inl (T 1, 2187, .inl (fun _ => 0)))]) (w1 := []) hP hD [0, 2] [1, 3] rfl rfl (by decide) (by decide) hk1 hFc hP1 hD1
  subst hw
  clear hPc hDc hFc hP1 hD1 hk1 hz1 hvm ht
  generalize H1 = H at hP hS ⊢
  replace hP : va_P D vwCl [((a 1), .inr (12, ((.int 0) :: (.ref (ex 13)) :: (.int 0) :: (.int 0) :: (.int 0) :: (.int 0) :: (.ref (a 3)) :: (.ref (ex 14)) :: (.ref (ex 15)) :: (.ref (ex 16)) :: (.ref (ex 17)) :: (.int 0) :: (.int 0) :: (.int 0) :: (.int 0) :: (.int 0) :: (.int 0) :: (.long 0) :: (.int 0) :: (.int 0) :: (.int 0) :: (.ref (ex 18)) :: (.ref (ex 19)) :: (.int 0) :: (.ref (ex 20)) :: (.int (-1)) :: (.int 0) :: (.int 0) :: (.int 0) :: (.int 0) :: (.int 0) :: (.int 0) :: (.ref (ex 21)) :: (.int 0) :: (.ref (ex 22)) :: (.int 0) :: (.int 0) :: (.int 0) :: (.int 0) :: (.int 0) :: (.ref (ex 23)) :: (.ref (ex 24)) :: (.ref (ex 25)) :: (.ref (ex 26)) :: []))), ((a 3), .inl (T 1, 2187, .inl (fun _ => 0)))] H := hP
  replace hD : va_D A [((a 1), .inr (12, ((.int 0) :: (.ref (ex 13)) :: (.int 0) :: (.int 0) :: (.int 0) :: (.int 0) :: (.ref (a 3)) :: (.ref (ex 14)) :: (.ref (ex 15)) :: (.ref (ex 16)) :: (.ref (ex 17)) :: (.int 0) :: (.int 0) :: (.int 0) :: (.int 0) :: (.int 0) :: (.int 0) :: (.long 0) :: (.int 0) :: (.int 0) :: (.int 0) :: (.ref (ex 18)) :: (.ref (ex 19)) :: (.int 0) :: (.ref (ex 20)) :: (.int (-1)) :: (.int 0) :: (.int 0) :: (.int 0) :: (.int 0) :: (.int 0) :: (.int 0) :: (.ref (ex 21)) :: (.int 0) :: (.ref (ex 22)) :: (.int 0) :: (.int 0) :: (.int 0) :: (.int 0) :: (.int 0) :: (.ref (ex 23)) :: (.ref (ex 24)) :: (.ref (ex 25)) :: (.ref (ex 26)) :: []))), ((a 3), .inl (T 1, 2187, .inl (fun _ => 0)))] := hD
  refine lv_aload_n hx hb dL_law_1026 rfl (lv_at hl 2 rfl) ?_
  refine lv_aload_n hx hb dL_law_1027 rfl (lv_at hl 4 rfl) ?_
  refine lv_iload hx hb dL_law_1028 (lv_at hl 0 rfl) ?_
  refine lv_iconst (v := 1) hx hb dL_law_1030 (by decide) ?_
  refine lv_iadd hx hb dL_law_1031 ?_
  refine xz_i 1 (by decide) ?_
  refine va_sld hx hb hX hbl hbA hS (vp_in_nI (n := 1) (by decide) (by decide)) dL_law_1032 ?_
  refine xz_i x1 hx1 ?_
  have hPc := hP.sub (ws' := (pre_X12_bid T (xa [(a 1), (a 3)]) (xa [(ex 13), (ex 14), (ex 15), (ex 16), (ex 17), (ex 18), (ex 19), (ex 20), (ex 21), (ex 22), (ex 23), (ex 24), (ex 25), (ex 26)]) (xf []) (xh []) (xv [x1]))) [0, 1] rfl
  have hDc := hD.sub (ws' := (pre_X12_bid T (xa [(a 1), (a 3)]) (xa [(ex 13), (ex 14), (ex 15), (ex 16), (ex 17), (ex 18), (ex 19), (ex 20), (ex 21), (ex 22), (ex 23), (ex 24), (ex 25), (ex 26)]) (xf []) (xh []) (xv [x1]))) [0, 1] (by decide) rfl
  have hFc := va_free (wc := (pre_X12_bid T (xa [(a 1), (a 3)]) (xa [(ex 13), (ex 14), (ex 15), (ex 16), (ex 17), (ex 18), (ex 19), (ex 20), (ex 21), (ex 22), (ex 23), (ex 24), (ex 25), (ex 26)]) (xf []) (xh []) (xv [x1]))) hD hS hA [0, 1] rfl
  refine va_calli (va_runV (As := [.int x1]) (rest := [.int (-1)]) ⟨hx, hb, hml, hown, htg⟩ (c_X12_bid l D T (xa [(a 1), (a 3)]) (xa [(ex 13), (ex 14), (ex 15), (ex 16), (ex 17), (ex 18), (ex 19), (ex 20), (ex 21), (ex 22), (ex 23), (ex 24), (ex 25), (ex 26)]) (xf []) (xh []) (xv [x1]) H.size) ⟨callB_of 1 htg (xg_ok kw_1864) rfl rfl rfl (htg _ kw_17) (htg _ kw_1861) (by decide +kernel) ⟨by rw [hR]; exact Nat.le_of_ble_eq_true rfl, by rw [hR]; exact Nat.le_of_ble_eq_true rfl⟩, htg _ kw_1862, htg _ kw_1863⟩ (xpreV hK hPc hDc (va_recv hK.1 hPc (ci := 12) (q0 := 0) rfl rfl)) rfl rfl hl.1 rfl (lv_room (Nat.le_of_ble_eq_true rfl)) dL_law_1033 ⟨by rw [hR]; exact Nat.le_of_ble_eq_true rfl, by rw [hR]; exact Nat.le_of_ble_eq_true rfl⟩) hS (fun q _ h => hFc q h) hFc (fun r9 u t H1 locs ht hvm hw hB hz1 hk1 hS => ?_)
  obtain ⟨bk_1, fik_1, flk_1, vik_1, hP1, hD1, hGk_1⟩ := hB
  rw [ht] at hP1
  obtain ⟨hP, hD⟩ := va_join (wr := []) (w1 := []) hP hD [0, 1] [] rfl rfl (by decide) (by decide) hk1 hFc hP1 hD1
  subst hw
  clear hPc hDc hFc hP1 hD1 hk1 hz1 hvm ht
  generalize H1 = H at hP hS ⊢
  replace hP : va_P D vwCl [] H := hP
  replace hD : va_D A [] := hD
  refine lv_icmp_eq (tgt := 1466) hx hb dL_law_1036 (by decide) (fun _ => ?_) (fun c => absurd (by decide) c)
  refine lv_iinc (v := 6) (lv' := [(4, .int 6), (3, .ref (ex 37)), (2, .ref (a 1)), (1, .ref (a 0)), (0, .ref b)]) hx hb dL_law_1466 hl (k := 0) rfl (by decide) (by decide) rfl (fun ls hl => ?_)
  refine lv_goto (tgt := 23) hx hb dL_law_1469 (by decide) ?_
  refine lv_iload hx hb dL_law_23 (lv_at hl 0 rfl) ?_
  refine lv_aload_n hx hb dL_law_25 rfl (lv_at hl 4 rfl) ?_
  refine va_slen hx hb hX hbl hbA hS dL_law_26 ?_
  refine xz_i 6 rfl ?_
  refine lv_bipush (v := 6) hx hb dL_law_27 (by decide) ?_
  refine lv_isub hx hb dL_law_29 ?_
  refine xz_i 0 (by decide) ?_
  refine lv_icmp_gt (tgt := 1472) hx hb dL_law_30 (by decide) (fun _ => ?_) (fun c => absurd (by decide) c)
  refine lv_iconst (v := 1) hx hb dL_law_1472 (by decide) ?_
  refine va_forget (fun q hq => by have h9 := hS.2.2 q hq; rw [hAe] at h9; exact h9) ?_
  refine W.widen (k := 600002) (n := 7302232) (Nat.le_of_ble_eq_true rfl) (Nat.le_of_ble_eq_true rfl) ?_
  subst hR
  rw [hQ]
  exact lw_ret hx hb hr hlocks dL_law_1473
