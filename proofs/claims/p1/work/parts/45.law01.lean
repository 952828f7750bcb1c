set_option maxHeartbeats 4000000 in
set_option maxRecDepth 100000 in
theorem lw_feed {p : Program} {e : Env} {s : State} {m : MethodId} {below : List Frame} {meth : Method} {c : Code} (l : Launch) (hlt : l.stackTraces = false) {b : Nat} {xs : Nat → Int32} (D : va_G) (T : Nat → ClassId) (a ex : Nat → Nat) (fi : Nat → Nat → Int32) (fl : Nat → Nat → Int64) (vi : Nat → Int32) (kK kV : Nat → Nat) (R : Room) (Q : State → Prop) (A : Nat → Prop) (hR : R = room_1) (hQ : Q = lw_Z below #[Value.ref b] s) (hAe : A = fun q => s.heap.size ≤ q) (hx : p.tables.exec = Jvm.exec) (hb : c.code = code) (hr : meth.sig.returnType = ret) (hml : c.maxLocals = 7) (hown : s.vm.findClass RL = some m.cls) (htg : ∀ w ∈ xg, w.before #[Value.ref b] s = true) (hbl : b < s.heap.size) (hbA : ¬ A b) (hlocks : meth.locks = false) (hK : xK D T s) (hA : ∀ q : Nat, s.heap.size ≤ q → A q) (hT : xT kK kV A s s.heap) (hZt : xZ2 A s s.heap) (hX : va_X b 6 xs s s.heap) (x1 x2 x3 x4 x5 : Int32) (hx1 : xs 1 = x1) (hx2 : xs 2 = x2) (hx3 : xs 3 = x3) (hx4 : xs 4 = x4) (hx5 : xs 5 = x5) (H : Heap) (locs : List Loc) (ls : Array Slot) (hP : va_P D vwCl [((a 0), .inr (11, [.ref (a 2), .ref (ex 0), .ref (ex 1), .ref (ex 2), .ref (ex 3), .ref (ex 4), .ref (ex 5), .ref (ex 6), .ref (ex 7), .ref (ex 8), .ref (ex 9), .ref (ex 10), .ref (ex 11), .ref (ex 12), .int 0])), ((a 1), .inr (12, ((.int 0) :: (.ref (a 4)) :: (.int 0) :: (.int 0) :: (.int 0) :: (.int 0) :: (.ref (ex 13)) :: (.ref (ex 14)) :: (.ref (ex 15)) :: (.ref (ex 16)) :: (.ref (ex 17)) :: (.int 0) :: (.int 0) :: (.int 0) :: (.int 0) :: (.int 0) :: (.int 0) :: (.long 0) :: (.int 0) :: (.int 0) :: (.int 0) :: (.ref (ex 18)) :: (.ref (ex 19)) :: (.int 0) :: (.ref (ex 20)) :: (.int (-1)) :: (.int 0) :: (.int 0) :: (.int 0) :: (.int 0) :: (.int 0) :: (.int 0) :: (.ref (ex 21)) :: (.int 0) :: (.ref (ex 22)) :: (.int 0) :: (.int 0) :: (.int 0) :: (.int 0) :: (.int 0) :: (.ref (ex 23)) :: (.ref (ex 24)) :: (.ref (ex 25)) :: (.ref (ex 26)) :: []))), ((a 2), .inr (6, [.ref (a 3), .ref (ex 27), .int (vi 0), .int 0, .int 0, .int 0, .int 0, .int 0, .long 0, .int 0, .int 0, .int 0, .int 0, .int 0])), ((a 3), .inl (T 0, 940, .inl (fun _ => 0))), ((a 4), .inl (T 0, 940, .inl (fun _ => 0)))] H) (hD : va_D A [((a 0), .inr (11, [.ref (a 2), .ref (ex 0), .ref (ex 1), .ref (ex 2), .ref (ex 3), .ref (ex 4), .ref (ex 5), .ref (ex 6), .ref (ex 7), .ref (ex 8), .ref (ex 9), .ref (ex 10), .ref (ex 11), .ref (ex 12), .int 0])), ((a 1), .inr (12, ((.int 0) :: (.ref (a 4)) :: (.int 0) :: (.int 0) :: (.int 0) :: (.int 0) :: (.ref (ex 13)) :: (.ref (ex 14)) :: (.ref (ex 15)) :: (.ref (ex 16)) :: (.ref (ex 17)) :: (.int 0) :: (.int 0) :: (.int 0) :: (.int 0) :: (.int 0) :: (.int 0) :: (.long 0) :: (.int 0) :: (.int 0) :: (.int 0) :: (.ref (ex 18)) :: (.ref (ex 19)) :: (.int 0) :: (.ref (ex 20)) :: (.int (-1)) :: (.int 0) :: (.int 0) :: (.int 0) :: (.int 0) :: (.int 0) :: (.int 0) :: (.ref (ex 21)) :: (.int 0) :: (.ref (ex 22)) :: (.int 0) :: (.int 0) :: (.int 0) :: (.int 0) :: (.int 0) :: (.ref (ex 23)) :: (.ref (ex 24)) :: (.ref (ex 25)) :: (.ref (ex 26)) :: []))), ((a 2), .inr (6, [.ref (a 3), .ref (ex 27), .int (vi 0), .int 0, .int 0, .int 0, .int 0, .int 0, .long 0, .int 0, .int 0, .int 0, .int 0, .int 0])), ((a 3), .inl (T 0, 940, .inl (fun _ => 0))), ((a 4), .inl (T 0, 940, .inl (fun _ => 0)))]) (hS : va_S A s.heap H locs) (hl : lv_has ls 7 [(4, .int 0), (3, .ref (ex 28)), (2, .ref (a 1)), (1, .ref (a 0)), (0, .ref b)]) : W p l e R s m #[Value.ref b] below meth c H locs 172 22099 Q (F0 m 228 ls []) := by
  refine lv_aload_n hx hb dL_law_228 rfl (lv_at hl 3 rfl) ?_
  refine lv_aload_n hx hb dL_law_229 rfl (lv_at hl 4 rfl) ?_
  refine lv_iload hx hb dL_law_230 (lv_at hl 0 rfl) ?_
  refine lv_iconst (v := 1) hx hb dL_law_232 (by decide) ?_
  refine lv_iadd hx hb dL_law_233 ?_
  refine xz_i 1 (by decide) ?_
  refine va_sld hx hb hX hbl hbA hS (vp_in_nI (n := 1) (by decide) (by decide)) dL_law_234 ?_
  refine xz_i x1 hx1 ?_
  refine lv_aload_n hx hb dL_law_235 rfl (lv_at hl 4 rfl) ?_
  refine lv_iload hx hb dL_law_236 (lv_at hl 0 rfl) ?_
  refine lv_iconst (v := 2) hx hb dL_law_238 (by decide) ?_
  refine lv_iadd hx hb dL_law_239 ?_
  refine xz_i 2 (by decide) ?_
  refine va_sld hx hb hX hbl hbA hS (vp_in_nI (n := 2) (by decide) (by decide)) dL_law_240 ?_
  refine xz_i x2 hx2 ?_
  refine lv_aload_n hx hb dL_law_241 rfl (lv_at hl 4 rfl) ?_
  refine lv_iload hx hb dL_law_242 (lv_at hl 0 rfl) ?_
  refine lv_iconst (v := 3) hx hb dL_law_244 (by decide) ?_
  refine lv_iadd hx hb dL_law_245 ?_
  refine xz_i 3 (by decide) ?_
  refine va_sld hx hb hX hbl hbA hS (vp_in_nI (n := 3) (by decide) (by decide)) dL_law_246 ?_
  refine xz_i x3 hx3 ?_
  refine lv_aload_n hx hb dL_law_247 rfl (lv_at hl 4 rfl) ?_
  refine lv_iload hx hb dL_law_248 (lv_at hl 0 rfl) ?_
  refine lv_iconst (v := 4) hx hb dL_law_250 (by decide) ?_
  refine lv_iadd hx hb dL_law_251 ?_
  refine xz_i 4 (by decide) ?_
  refine va_sld hx hb hX hbl hbA hS (vp_in_nI (n := 4) (by decide) (by decide)) dL_law_252 ?_
  refine xz_i x4 hx4 ?_
  refine lv_aload_n hx hb dL_law_253 rfl (lv_at hl 4 rfl) ?_
  refine lv_iload hx hb dL_law_254 (lv_at hl 0 rfl) ?_
  refine lv_iconst (v := 5) hx hb dL_law_256 (by decide) ?_
  refine lv_iadd hx hb dL_law_257 ?_
  refine xz_i 5 (by decide) ?_
  refine va_sld hx hb hX hbl hbA hS (vp_in_nI (n := 5) (by decide) (by decide)) dL_law_258 ?_
  refine xz_i x5 hx5 ?_
  have hPc := hP.sub (ws' := (pre_X11_feed T (xa [(a 0), (a 2), (a 3)]) (xa [(ex 0), (ex 1), (ex 2), (ex 3), (ex 4), (ex 5), (ex 6), (ex 7), (ex 8), (ex 9), (ex 10), (ex 11), (ex 12), (ex 27)]) (xf []) (xh []) (xv [x1, x2, x3, x4, x5, (vi 0)]))) [0, 2, 3] rfl
  have hDc := hD.sub (ws' := (pre_X11_feed T (xa [(a 0), (a 2), (a 3)]) (xa [(ex 0), (ex 1), (ex 2), (ex 3), (ex 4), (ex 5), (ex 6), (ex 7), (ex 8), (ex 9), (ex 10), (ex 11), (ex 12), (ex 27)]) (xf []) (xh []) (xv [x1, x2, x3, x4, x5, (vi 0)]))) [0, 2, 3] (by decide) rfl
  have hFc := va_free (wc := (pre_X11_feed T (xa [(a 0), (a 2), (a 3)]) (xa [(ex 0), (ex 1), (ex 2), (ex 3), (ex 4), (ex 5), (ex 6), (ex 7), (ex 8), (ex 9), (ex 10), (ex 11), (ex 12), (ex 27)]) (xf []) (xh []) (xv [x1, x2, x3, x4, x5, (vi 0)]))) hD hS hA [0, 2, 3] rfl
  refine va_calli (va_runV (As := [.int x1, .int x2, .int x3, .int x4, .int x5]) (rest := []) ⟨hx, hb, hml, hown, htg⟩ (c_X11_feed l D T (xa [(a 0), (a 2), (a 3)]) (xa [(ex 0), (ex 1), (ex 2), (ex 3), (ex 4), (ex 5), (ex 6), (ex 7), (ex 8), (ex 9), (ex 10), (ex 11), (ex 12), (ex 27)]) (xf []) (xh []) (xv [x1, x2, x3, x4, x5, (vi 0)]) H.size) ⟨callB_of 5 htg (xg_ok kw_545) rfl rfl rfl (htg _ kw_1) (htg _ kw_542) (by decide +kernel) ⟨by rw [hR]; exact Nat.le_of_ble_eq_true rfl, by rw [hR]; exact Nat.le_of_ble_eq_true rfl⟩, htg _ kw_543, htg _ kw_544⟩ (xpreV hK hPc hDc (va_recv hK.1 hPc (ci := 11) (q0 := 0) rfl rfl)) rfl rfl hl.1 rfl (lv_room (Nat.le_of_ble_eq_true rfl)) dL_law_259 ⟨by rw [hR]; exact Nat.le_of_ble_eq_true rfl, by rw [hR]; exact Nat.le_of_ble_eq_true rfl⟩) hS (fun q _ h => hFc q h) hFc (fun r9 u t H1 locs ht hvm hw hB hz1 hk1 hS => ?_)
  obtain ⟨bk, fik, flk, vik, hP1, hD1, hGk⟩ := hB
  rw [ht] at hP1
  obtain ⟨hP, hD⟩ := va_join (wr := [((a 1), .inr (12, ((.int 0) :: (.ref (a 4)) :: (.int 0) :: (.int 0) :: (.int 0) :: (.int 0) :: (.ref (ex 13)) :: (.ref (ex 14)) :: (.ref (ex 15)) :: (.ref (ex 16)) :: (.ref (ex 17)) :: (.int 0) :: (.int 0) :: (.int 0) :: (.int 0) :: (.int 0) :: (.int 0) :: (.long 0) :: (.int 0) :: (.int 0) :: (.int 0) :: (.ref (ex 18)) :: (.ref (ex 19)) :: (.int 0) :: (.ref (ex 20)) :: (.int (-1)) :: (.int 0) :: (.int 0) :: (.int 0) :: (.int 0) :: (.int 0) :: (.int 0) :: (.ref (ex 21)) :: (.int 0) :: (.ref (ex 22)) :: (.int 0) :: (.int 0) :: (.int 0) :: (.int 0) :: (.int 0) :: (.ref (ex 23)) :: (.ref (ex 24)) :: (.ref (ex 25)) :: (.ref (ex 26)) :: []))), ((a 4), .inl (T 0, 940, .inl (fun _ => 0)))]) (w1 := []) hP hD [0, 2, 3] [1, 4] rfl rfl (by decide) (by decide) hk1 hFc hP1 hD1
  subst hw
  clear hPc hDc hFc hP1 hD1 hk1 hz1 hvm ht
  generalize H1 = H at hP hS ⊢
  replace hP : va_P D vwCl [((a 1), .inr (12, ((.int 0) :: (.ref (a 4)) :: (.int 0) :: (.int 0) :: (.int 0) :: (.int 0) :: (.ref (ex 13)) :: (.ref (ex 14)) :: (.ref (ex 15)) :: (.ref (ex 16)) :: (.ref (ex 17)) :: (.int 0) :: (.int 0) :: (.int 0) :: (.int 0) :: (.int 0) :: (.int 0) :: (.long 0) :: (.int 0) :: (.int 0) :: (.int 0) :: (.ref (ex 18)) :: (.ref (ex 19)) :: (.int 0) :: (.ref (ex 20)) :: (.int (-1)) :: (.int 0) :: (.int 0) :: (.int 0) :: (.int 0) :: (.int 0) :: (.int 0) :: (.ref (ex 21)) :: (.int 0) :: (.ref (ex 22)) :: (.int 0) :: (.int 0) :: (.int 0) :: (.int 0) :: (.int 0) :: (.ref (ex 23)) :: (.ref (ex 24)) :: (.ref (ex 25)) :: (.ref (ex 26)) :: []))), ((a 4), .inl (T 0, 940, .inl (fun _ => 0)))] H := hP
  replace hD : va_D A [((a 1), .inr (12, ((.int 0) :: (.ref (a 4)) :: (.int 0) :: (.int 0) :: (.int 0) :: (.int 0) :: (.ref (ex 13)) :: (.ref (ex 14)) :: (.ref (ex 15)) :: (.ref (ex 16)) :: (.ref (ex 17)) :: (.int 0) :: (.int 0) :: (.int 0) :: (.int 0) :: (.int 0) :: (.int 0) :: (.long 0) :: (.int 0) :: (.int 0) :: (.int 0) :: (.ref (ex 18)) :: (.ref (ex 19)) :: (.int 0) :: (.ref (ex 20)) :: (.int (-1)) :: (.int 0) :: (.int 0) :: (.int 0) :: (.int 0) :: (.int 0) :: (.int 0) :: (.ref (ex 21)) :: (.int 0) :: (.ref (ex 22)) :: (.int 0) :: (.int 0) :: (.int 0) :: (.int 0) :: (.int 0) :: (.ref (ex 23)) :: (.ref (ex 24)) :: (.ref (ex 25)) :: (.ref (ex 26)) :: []))), ((a 4), .inl (T 0, 940, .inl (fun _ => 0)))] := hD
  refine lv_aload_n hx hb dL_law_262 rfl (lv_at hl 2 rfl) ?_
  refine lv_aload_n hx hb dL_law_263 rfl (lv_at hl 4 rfl) ?_
  refine lv_iload hx hb dL_law_264 (lv_at hl 0 rfl) ?_
  refine lv_iconst (v := 1) hx hb dL_law_266 (by decide) ?_
  refine lv_iadd hx hb dL_law_267 ?_
  refine xz_i 1 (by decide) ?_
  refine va_sld hx hb hX hbl hbA hS (vp_in_nI (n := 1) (by decide) (by decide)) dL_law_268 ?_
  refine xz_i x1 hx1 ?_
  refine lv_aload_n hx hb dL_law_269 rfl (lv_at hl 4 rfl) ?_
  refine lv_iload hx hb dL_law_270 (lv_at hl 0 rfl) ?_
  refine lv_iconst (v := 2) hx hb dL_law_272 (by decide) ?_
  refine lv_iadd hx hb dL_law_273 ?_
  refine xz_i 2 (by decide) ?_
  refine va_sld hx hb hX hbl hbA hS (vp_in_nI (n := 2) (by decide) (by decide)) dL_law_274 ?_
  refine xz_i x2 hx2 ?_
  refine lv_aload_n hx hb dL_law_275 rfl (lv_at hl 4 rfl) ?_
  refine lv_iload hx hb dL_law_276 (lv_at hl 0 rfl) ?_
  refine lv_iconst (v := 3) hx hb dL_law_278 (by decide) ?_
  refine lv_iadd hx hb dL_law_279 ?_
  refine xz_i 3 (by decide) ?_
  refine va_sld hx hb hX hbl hbA hS (vp_in_nI (n := 3) (by decide) (by decide)) dL_law_280 ?_
  refine xz_i x3 hx3 ?_
  refine lv_aload_n hx hb dL_law_281 rfl (lv_at hl 4 rfl) ?_
  refine lv_iload hx hb dL_law_282 (lv_at hl 0 rfl) ?_
  refine lv_iconst (v := 4) hx hb dL_law_284 (by decide) ?_
  refine lv_iadd hx hb dL_law_285 ?_
  refine xz_i 4 (by decide) ?_
  refine va_sld hx hb hX hbl hbA hS (vp_in_nI (n := 4) (by decide) (by decide)) dL_law_286 ?_
  refine xz_i x4 hx4 ?_
  refine lv_aload_n hx hb dL_law_287 rfl (lv_at hl 4 rfl) ?_
  refine lv_iload hx hb dL_law_288 (lv_at hl 0 rfl) ?_
  refine lv_iconst (v := 5) hx hb dL_law_290 (by decide) ?_
  refine lv_iadd hx hb dL_law_291 ?_
  refine xz_i 5 (by decide) ?_
  refine va_sld hx hb hX hbl hbA hS (vp_in_nI (n := 5) (by decide) (by decide)) dL_law_292 ?_
  refine xz_i x5 hx5 ?_
  have hPc := hP.sub (ws' := (pre_X12_feed T (xa [(a 1), (a 4)]) (xa [(ex 13), (ex 14), (ex 15), (ex 16), (ex 17), (ex 18), (ex 19), (ex 20), (ex 21), (ex 22), (ex 23), (ex 24), (ex 25), (ex 26)]) (xf []) (xh []) (xv [x1, x2, x3, x4, x5]))) [0, 1] rfl
  have hDc := hD.sub (ws' := (pre_X12_feed T (xa [(a 1), (a 4)]) (xa [(ex 13), (ex 14), (ex 15), (ex 16), (ex 17), (ex 18), (ex 19), (ex 20), (ex 21), (ex 22), (ex 23), (ex 24), (ex 25), (ex 26)]) (xf []) (xh []) (xv [x1, x2, x3, x4, x5]))) [0, 1] (by decide) rfl
  have hFc := va_free (wc := (pre_X12_feed T (xa [(a 1), (a 4)]) (xa [(ex 13), (ex 14), (ex 15), (ex 16), (ex 17), (ex 18), (ex 19), (ex 20), (ex 21), (ex 22), (ex 23), (ex 24), (ex 25), (ex 26)]) (xf []) (xh []) (xv [x1, x2, x3, x4, x5]))) hD hS hA [0, 1] rfl
  refine va_calli (va_runV (As := [.int x1, .int x2, .int x3, .int x4, .int x5]) (rest := [.int 20]) ⟨hx, hb, hml, hown, htg⟩ (c_X12_feed l D T (xa [(a 1), (a 4)]) (xa [(ex 13), (ex 14), (ex 15), (ex 16), (ex 17), (ex 18), (ex 19), (ex 20), (ex 21), (ex 22), (ex 23), (ex 24), (ex 25), (ex 26)]) (xf []) (xh []) (xv [x1, x2, x3, x4, x5]) H.size) ⟨callB_of 5 htg (xg_ok kw_1365) rfl rfl rfl (htg _ kw_17) (htg _ kw_1362) (by decide +kernel) ⟨by rw [hR]; exact Nat.le_of_ble_eq_true rfl, by rw [hR]; exact Nat.le_of_ble_eq_true rfl⟩, htg _ kw_1363, htg _ kw_1364⟩ (xpreV hK hPc hDc (va_recv hK.1 hPc (ci := 12) (q0 := 0) rfl rfl)) rfl rfl hl.1 rfl (lv_room (Nat.le_of_ble_eq_true rfl)) dL_law_293 ⟨by rw [hR]; exact Nat.le_of_ble_eq_true rfl, by rw [hR]; exact Nat.le_of_ble_eq_true rfl⟩) hS (fun q _ h => hFc q h) hFc (fun r9 u t H1 locs ht hvm hw hB hz1 hk1 hS => ?_)
  obtain ⟨bk_1, fik_1, flk_1, vik_1, hP1, hD1, hGk_1⟩ := hB
  rw [ht] at hP1
  obtain ⟨hP, hD⟩ := va_join (wr := []) (w1 := []) hP hD [0, 1] [] rfl rfl (by decide) (by decide) hk1 hFc hP1 hD1
  subst hw
  clear hPc hDc hFc hP1 hD1 hk1 hz1 hvm ht
  generalize H1 = H at hP hS ⊢
  replace hP : va_P D vwCl [] H := hP
  replace hD : va_D A [] := hD
  refine lv_icmp_eq (tgt := 1466) hx hb dL_law_296 (by decide) (fun _ => ?_) (fun c => absurd (by decide) c)
  refine lv_iinc (v := 6) (lv' := [(4, .int 6), (3, .ref (ex 28)), (2, .ref (a 1)), (1, .ref (a 0)), (0, .ref b)]) hx hb dL_law_1466 hl (k := 0) rfl (by decide) (by decide) rfl (fun ls hl => ?_)
  refine lv_goto (tgt := 23) hx hb dL_law_1469 (by decide) ?_
  refine lv_iload hx hb dL_law_23 (lv_at hl 0 rfl) ?_
  refine lv_aload_n hx hb dL_law_25 rfl (lv_at hl 4 rfl) ?_
  refine va_slen hx hb hX hbl hbA hS dL_law_26 ?_
  refine xz_i 6 rfl ?_
  refine lv_bipush (v := 6) hx hb dL_law_27 (by decide) ?_
  refine lv_isub hx hb dL_law_29 ?_
  refine xz_i 0 (by decide) ?_
  refine lv_icmp_gt (tgt := 1472) hx hb dL_law_30 (by decide) (fun _ => ?_) (fun c => absurd (by decide) c)
  refine lv_iconst (v := 1) hx hb dL_law_1472 (by decide) ?_
  refine va_forget (fun q hq => by have h9 := hS.2.2 q hq; rw [hAe] at h9; exact h9) ?_
  refine W.widen (k := 600002) (n := 7302232) (Nat.le_of_ble_eq_true rfl) (Nat.le_of_ble_eq_true rfl) ?_
  subst hR
  rw [hQ]
  exact lw_ret hx hb hr hlocks dL_law_1473
set_option maxHeartbeats 4000000 in
set_option maxRecDepth 100000 in
theorem lw_end {p : Program} {e : Env} {s : State} {m : MethodId} {below : List Frame} {meth : Method} {c : Code} (l : Launch) (hlt : l.stackTraces = false) {b : Nat} {xs : Nat → Int32} (D : va_G) (T : Nat → ClassId) (a ex : Nat → Nat) (fi : Nat → Nat → Int32) (fl : Nat → Nat → Int64) (vi : Nat → Int32) (kK kV : Nat → Nat) (R : Room) (Q : State → Prop) (A : Nat → Prop) (hR : R = room_1) (hQ : Q = lw_Z below #[Value.ref b] s) (hAe : A = fun q => s.heap.size ≤ q) (hx : p.tables.exec = Jvm.exec) (hb : c.code = code) (hr : meth.sig.returnType = ret) (hml : c.maxLocals = 7) (hown : s.vm.findClass RL = some m.cls) (htg : ∀ w ∈ xg, w.before #[Value.ref b] s = true) (hbl : b < s.heap.size) (hbA : ¬ A b) (hlocks : meth.locks = false) (hK : xK D T s) (hA : ∀ q : Nat, s.heap.size ≤ q → A q) (hT : xT kK kV A s s.heap) (hZt : xZ2 A s s.heap) (hX : va_X b 6 xs s s.heap) (x1 x2 x3 x4 x5 : Int32) (hx1 : xs 1 = x1) (hx2 : xs 2 = x2) (hx3 : xs 3 = x3) (hx4 : xs 4 = x4) (hx5 : xs 5 = x5) (H : Heap) (locs : List Loc) (ls : Array Slot) (hP : va_P D vwCl [((a 0), .inr (11, [.ref (a 2), .ref (ex 0), .ref (ex 1), .ref (ex 2), .ref (ex 3), .ref (ex 4), .ref (ex 5), .ref (ex 6), .ref (ex 7), .ref (ex 8), .ref (ex 9), .ref (ex 10), .ref (ex 11), .ref (ex 12), .int 0])), ((a 1), .inr (12, ((.int 0) :: (.ref (ex 13)) :: (.int 0) :: (.int 0) :: (.int 0) :: (.int 0) :: (.ref (ex 14)) :: (.ref (ex 15)) :: (.ref (ex 16)) :: (.ref (ex 17)) :: (.ref (ex 18)) :: (.int 0) :: (.int 0) :: (.int 0) :: (.int 0) :: (.int 0) :: (.int 0) :: (.long 0) :: (.int 0) :: (.int 0) :: (.int 0) :: (.ref (ex 19)) :: (.ref (ex 20)) :: (.int 0) :: (.ref (ex 21)) :: (.int (-1)) :: (.int 0) :: (.int 0) :: (.int 0) :: (.int 0) :: (.int 0) :: (.int 0) :: (.ref (ex 22)) :: (.int 0) :: (.ref (ex 23)) :: (.int 0) :: (.int 0) :: (.int 0) :: (.int 0) :: (.int 0) :: (.ref (ex 24)) :: (.ref (ex 25)) :: (.ref (ex 26)) :: (.ref (ex 27)) :: []))), ((a 2), .inr (6, [.ref (ex 28), .ref (ex 29), .int (vi 0), .int 0, .int 0, .int 0, .int 0, .int 0, .long 0, .int 0, .int 0, .int 0, .int 0, .int 0]))] H) (hD : va_D A [((a 0), .inr (11, [.ref (a 2), .ref (ex 0), .ref (ex 1), .ref (ex 2), .ref (ex 3), .ref (ex 4), .ref (ex 5), .ref (ex 6), .ref (ex 7), .ref (ex 8), .ref (ex 9), .ref (ex 10), .ref (ex 11), .ref (ex 12), .int 0])), ((a 1), .inr (12, ((.int 0) :: (.ref (ex 13)) :: (.int 0) :: (.int 0) :: (.int 0) :: (.int 0) :: (.ref (ex 14)) :: (.ref (ex 15)) :: (.ref (ex 16)) :: (.ref (ex 17)) :: (.ref (ex 18)) :: (.int 0) :: (.int 0) :: (.int 0) :: (.int 0) :: (.int 0) :: (.int 0) :: (.long 0) :: (.int 0) :: (.int 0) :: (.int 0) :: (.ref (ex 19)) :: (.ref (ex 20)) :: (.int 0) :: (.ref (ex 21)) :: (.int (-1)) :: (.int 0) :: (.int 0) :: (.int 0) :: (.int 0) :: (.int 0) :: (.int 0) :: (.ref (ex 22)) :: (.int 0) :: (.ref (ex 23)) :: (.int 0) :: (.int 0) :: (.int 0) :: (.int 0) :: (.int 0) :: (.ref (ex 24)) :: (.ref (ex 25)) :: (.ref (ex 26)) :: (.ref (ex 27)) :: []))), ((a 2), .inr (6, [.ref (ex 28), .ref (ex 29), .int (vi 0), .int 0, .int 0, .int 0, .int 0, .int 0, .long 0, .int 0, .int 0, .int 0, .int 0, .int 0]))]) (hS : va_S A s.heap H locs) (hl : lv_has ls 7 [(4, .int 0), (3, .ref (ex 30)), (2, .ref (a 1)), (1, .ref (a 0)), (0, .ref b)]) : W p l e R s m #[Value.ref b] below meth c H locs 172 22099 Q (F0 m 301 ls []) := by
  by_cases hs0 : x1 = 0
  · subst hs0
    refine lv_aload_n hx hb dL_law_301 rfl (lv_at hl 3 rfl) ?_
    refine lv_aload_n hx hb dL_law_302 rfl (lv_at hl 4 rfl) ?_
    refine lv_iload hx hb dL_law_303 (lv_at hl 0 rfl) ?_
    refine lv_iconst (v := 1) hx hb dL_law_305 (by decide) ?_
    refine lv_iadd hx hb dL_law_306 ?_
    refine xz_i 1 (by decide) ?_
    refine va_sld hx hb hX hbl hbA hS (vp_in_nI (n := 1) (by decide) (by decide)) dL_law_307 ?_
    refine xz_i 0 hx1 ?_
    have hPc := hP.sub (ws' := (pre_X11_end T (xa [(a 0), (a 2)]) (xa [(ex 0), (ex 1), (ex 2), (ex 3), (ex 4), (ex 5), (ex 6), (ex 7), (ex 8), (ex 9), (ex 10), (ex 11), (ex 12), (ex 28), (ex 29)]) (xf []) (xh []) (xv [(vi 0)]))) [0, 2] rfl
    have hDc := hD.sub (ws' := (pre_X11_end T (xa [(a 0), (a 2)]) (xa [(ex 0), (ex 1), (ex 2), (ex 3), (ex 4), (ex 5), (ex 6), (ex 7), (ex 8), (ex 9), (ex 10), (ex 11), (ex 12), (ex 28), (ex 29)]) (xf []) (xh []) (xv [(vi 0)]))) [0, 2] (by decide) rfl
    have hFc := va_free (wc := (pre_X11_end T (xa [(a 0), (a 2)]) (xa [(ex 0), (ex 1), (ex 2), (ex 3), (ex 4), (ex 5), (ex 6), (ex 7), (ex 8), (ex 9), (ex 10), (ex 11), (ex 12), (ex 28), (ex 29)]) (xf []) (xh []) (xv [(vi 0)]))) hD hS hA [0, 2] rfl
    refine va_calli (va_runV (As := [.int 0]) (rest := []) ⟨hx, hb, hml, hown, htg⟩ (c_X11_end l D T (xa [(a 0), (a 2)]) (xa [(ex 0), (ex 1), (ex 2), (ex 3), (ex 4), (ex 5), (ex 6), (ex 7), (ex 8), (ex 9), (ex 10), (ex 11), (ex 12), (ex 28), (ex 29)]) (xf []) (xh []) (xv [(vi 0)]) H.size) ⟨callB_of 1 htg (xg_ok kw_557) rfl rfl rfl (htg _ kw_1) (htg _ kw_554) (by decide +kernel) ⟨by rw [hR]; exact Nat.le_of_ble_eq_true rfl, by rw [hR]; exact Nat.le_of_ble_eq_true rfl⟩, htg _ kw_555, htg _ kw_556⟩ (xpreV hK hPc hDc (va_recv hK.1 hPc (ci := 11) (q0 := 0) rfl rfl)) rfl rfl hl.1 rfl (lv_room (Nat.le_of_ble_eq_true rfl)) dL_law_308 ⟨by rw [hR]; exact Nat.le_of_ble_eq_true rfl, by rw [hR]; exact Nat.le_of_ble_eq_true rfl⟩) hS (fun q _ h => hFc q h) hFc (fun r9 u t H1 locs ht hvm hw hB hz1 hk1 hS => ?_)
    obtain ⟨bk, fik, flk, vik, hP1, hD1, hGk⟩ := hB
    rw [ht] at hP1
    obtain ⟨hP, hD⟩ := va_join (wr := [((a 1), .inr (12, ((.int 0) :: (.ref (ex 13)) :: (.int 0) :: (.int 0) :: (.int 0) :: (.int 0) :: (.ref (ex 14)) :: (.ref (ex 15)) :: (.ref (ex 16)) :: (.ref (ex 17)) :: (.ref (ex 18)) :: (.int 0) :: (.int 0) :: (.int 0) :: (.int 0) :: (.int 0) :: (.int 0) :: (.long 0) :: (.int 0) :: (.int 0) :: (.int 0) :: (.ref (ex 19)) :: (.ref (ex 20)) :: (.int 0) :: (.ref (ex 21)) :: (.int (-1)) :: (.int 0) :: (.int 0) :: (.int 0) :: (.int 0) :: (.int 0) :: (.int 0) :: (.ref (ex 22)) :: (.int 0) :: (.ref (ex 23)) :: (.int 0) :: (.int 0) :: (.int 0) :: (.int 0) :: (.int 0) :: (.ref (ex 24)) :: (.ref (ex 25)) :: (.ref (ex 26)) :: (.ref (ex 27)) :: [])))]) (w1 := []) hP hD [0, 2] [1] rfl rfl (by decide) (by decide) hk1 hFc hP1 hD1
    subst hw
    clear hPc hDc hFc hP1 hD1 hk1 hz1 hvm ht
    generalize H1 = H at hP hS ⊢
    replace hP : va_P D vwCl [((a 1), .inr (12, ((.int 0) :: (.ref (ex 13)) :: (.int 0) :: (.int 0) :: (.int 0) :: (.int 0) :: (.ref (ex 14)) :: (.ref (ex 15)) :: (.ref (ex 16)) :: (.ref (ex 17)) :: (.ref (ex 18)) :: (.int 0) :: (.int 0) :: (.int 0) :: (.int 0) :: (.int 0) :: (.int 0) :: (.long 0) :: (.int 0) :: (.int 0) :: (.int 0) :: (.ref (ex 19)) :: (.ref (ex 20)) :: (.int 0) :: (.ref (ex 21)) :: (.int (-1)) :: (.int 0) :: (.int 0) :: (.int 0) :: (.int 0) :: (.int 0) :: (.int 0) :: (.ref (ex 22)) :: (.int 0) :: (.ref (ex 23)) :: (.int 0) :: (.int 0) :: (.int 0) :: (.int 0) :: (.int 0) :: (.ref (ex 24)) :: (.ref (ex 25)) :: (.ref (ex 26)) :: (.ref (ex 27)) :: [])))] H := hP
    replace hD : va_D A [((a 1), .inr (12, ((.int 0) :: (.ref (ex 13)) :: (.int 0) :: (.int 0) :: (.int 0) :: (.int 0) :: (.ref (ex 14)) :: (.ref (ex 15)) :: (.ref (ex 16)) :: (.ref (ex 17)) :: (.ref (ex 18)) :: (.int 0) :: (.int 0) :: (.int 0) :: (.int 0) :: (.int 0) :: (.int 0) :: (.long 0) :: (.int 0) :: (.int 0) :: (.int 0) :: (.ref (ex 19)) :: (.ref (ex 20)) :: (.int 0) :: (.ref (ex 21)) :: (.int (-1)) :: (.int 0) :: (.int 0) :: (.int 0) :: (.int 0) :: (.int 0) :: (.int 0) :: (.ref (ex 22)) :: (.int 0) :: (.ref (ex 23)) :: (.int 0) :: (.int 0) :: (.int 0) :: (.int 0) :: (.int 0) :: (.ref (ex 24)) :: (.ref (ex 25)) :: (.ref (ex 26)) :: (.ref (ex 27)) :: [])))] := hD
    refine lv_aload_n hx hb dL_law_311 rfl (lv_at hl 2 rfl) ?_
    refine lv_aload_n hx hb dL_law_312 rfl (lv_at hl 4 rfl) ?_
    refine lv_iload hx hb dL_law_313 (lv_at hl 0 rfl) ?_
    refine lv_iconst (v := 1) hx hb dL_law_315 (by decide) ?_
    refine lv_iadd hx hb dL_law_316 ?_
    refine xz_i 1 (by decide) ?_
    refine va_sld hx hb hX hbl hbA hS (vp_in_nI (n := 1) (by decide) (by decide)) dL_law_317 ?_
    refine xz_i 0 hx1 ?_
    have hPc := hP.sub (ws' := (pre_X12_end T (xa [(a 1)]) (xa [(ex 13), (ex 14), (ex 15), (ex 16), (ex 17), (ex 18), (ex 19), (ex 20), (ex 21), (ex 22), (ex 23), (ex 24), (ex 25), (ex 26), (ex 27)]) (xf []) (xh []) (xv []))) [0] rfl
    have hDc := hD.sub (ws' := (pre_X12_end T (xa [(a 1)]) (xa [(ex 13), (ex 14), (ex 15), (ex 16), (ex 17), (ex 18), (ex 19), (ex 20), (ex 21), (ex 22), (ex 23), (ex 24), (ex 25), (ex 26), (ex 27)]) (xf []) (xh []) (xv []))) [0] (by decide) rfl
    have hFc := va_free (wc := (pre_X12_end T (xa [(a 1)]) (xa [(ex 13), (ex 14), (ex 15), (ex 16), (ex 17), (ex 18), (ex 19), (ex 20), (ex 21), (ex 22), (ex 23), (ex 24), (ex 25), (ex 26), (ex 27)]) (xf []) (xh []) (xv []))) hD hS hA [0] rfl
    refine va_calli (va_runV (As := [.int 0]) (rest := [.int 1]) ⟨hx, hb, hml, hown, htg⟩ (c_X12_end l D T (xa [(a 1)]) (xa [(ex 13), (ex 14), (ex 15), (ex 16), (ex 17), (ex 18), (ex 19), (ex 20), (ex 21), (ex 22), (ex 23), (ex 24), (ex 25), (ex 26), (ex 27)]) (xf []) (xh []) (xv []) H.size) ⟨callB_of 1 htg (xg_ok kw_1374) rfl rfl rfl (htg _ kw_17) (htg _ kw_1371) (by decide +kernel) ⟨by rw [hR]; exact Nat.le_of_ble_eq_true rfl, by rw [hR]; exact Nat.le_of_ble_eq_true rfl⟩, htg _ kw_1372, htg _ kw_1373⟩ (xpreV hK hPc hDc (va_recv hK.1 hPc (ci := 12) (q0 := 0) rfl rfl)) rfl rfl hl.1 rfl (lv_room (Nat.le_of_ble_eq_true rfl)) dL_law_318 ⟨by rw [hR]; exact Nat.le_of_ble_eq_true rfl, by rw [hR]; exact Nat.le_of_ble_eq_true rfl⟩) hS (fun q _ h => hFc q h) hFc (fun r9 u t H1 locs ht hvm hw hB hz1 hk1 hS => ?_)
    obtain ⟨bk_1, fik_1, flk_1, vik_1, hP1, hD1, hGk_1⟩ := hB
    rw [ht] at hP1
    obtain ⟨hP, hD⟩ := va_join (wr := []) (w1 := []) hP hD [0] [] rfl rfl (by decide) (by decide) hk1 hFc hP1 hD1
    subst hw
    clear hPc hDc hFc hP1 hD1 hk1 hz1 hvm ht
    generalize H1 = H at hP hS ⊢
    replace hP : va_P D vwCl [] H := hP
    replace hD : va_D A [] := hD
    refine lv_icmp_eq (tgt := 1466) hx hb dL_law_321 (by decide) (fun _ => ?_) (fun c => absurd (by decide) c)
    refine lv_iinc (v := 6) (lv' := [(4, .int 6), (3, .ref (ex 30)), (2, .ref (a 1)), (1, .ref (a 0)), (0, .ref b)]) hx hb dL_law_1466 hl (k := 0) rfl (by decide) (by decide) rfl (fun ls hl => ?_)
    refine lv_goto (tgt := 23) hx hb dL_law_1469 (by decide) ?_
    refine lv_iload hx hb dL_law_23 (lv_at hl 0 rfl) ?_
    refine lv_aload_n hx hb dL_law_25 rfl (lv_at hl 4 rfl) ?_
    refine va_slen hx hb hX hbl hbA hS dL_law_26 ?_
    refine xz_i 6 rfl ?_
    refine lv_bipush (v := 6) hx hb dL_law_27 (by decide) ?_
    refine lv_isub hx hb dL_law_29 ?_
    refine xz_i 0 (by decide) ?_
    refine lv_icmp_gt (tgt := 1472) hx hb dL_law_30 (by decide) (fun _ => ?_) (fun c => absurd (by decide) c)
    refine lv_iconst (v := 1) hx hb dL_law_1472 (by decide) ?_
    refine va_forget (fun q hq => by have h9 := hS.2.2 q hq; rw [hAe] at h9; exact h9) ?_
    refine W.widen (k := 600002) (n := 7302232) (Nat.le_of_ble_eq_true rfl) (Nat.le_of_ble_eq_true rfl) ?_
    subst hR
    rw [hQ]
    exact lw_ret hx hb hr hlocks dL_law_1473
  replace hs0 := xne (k := 0) (by decide) hs0
  refine lv_aload_n hx hb dL_law_301 rfl (lv_at hl 3 rfl) ?_
  refine lv_aload_n hx hb dL_law_302 rfl (lv_at hl 4 rfl) ?_
  refine lv_iload hx hb dL_law_303 (lv_at hl 0 rfl) ?_
  refine lv_iconst (v := 1) hx hb dL_law_305 (by decide) ?_
  refine lv_iadd hx hb dL_law_306 ?_
  refine xz_i 1 (by decide) ?_
  refine va_sld hx hb hX hbl hbA hS (vp_in_nI (n := 1) (by decide) (by decide)) dL_law_307 ?_
  refine xz_i x1 hx1 ?_
  have hPc := hP.sub (ws' := (pre_X11_end_2 T (xa [(a 0), (a 2)]) (xa [(ex 0), (ex 1), (ex 2), (ex 3), (ex 4), (ex 5), (ex 6), (ex 7), (ex 8), (ex 9), (ex 10), (ex 11), (ex 12), (ex 28), (ex 29)]) (xf []) (xh []) (xv [x1, (vi 0)]))) [0, 2] rfl
  have hDc := hD.sub (ws' := (pre_X11_end_2 T (xa [(a 0), (a 2)]) (xa [(ex 0), (ex 1), (ex 2), (ex 3), (ex 4), (ex 5), (ex 6), (ex 7), (ex 8), (ex 9), (ex 10), (ex 11), (ex 12), (ex 28), (ex 29)]) (xf []) (xh []) (xv [x1, (vi 0)]))) [0, 2] (by decide) rfl
  have hFc := va_free (wc := (pre_X11_end_2 T (xa [(a 0), (a 2)]) (xa [(ex 0), (ex 1), (ex 2), (ex 3), (ex 4), (ex 5), (ex 6), (ex 7), (ex 8), (ex 9), (ex 10), (ex 11), (ex 12), (ex 28), (ex 29)]) (xf []) (xh []) (xv [x1, (vi 0)]))) hD hS hA [0, 2] rfl
  refine va_calli (va_runV (As := [.int x1]) (rest := []) ⟨hx, hb, hml, hown, htg⟩ (c_X11_end_2 l D T (xa [(a 0), (a 2)]) (xa [(ex 0), (ex 1), (ex 2), (ex 3), (ex 4), (ex 5), (ex 6), (ex 7), (ex 8), (ex 9), (ex 10), (ex 11), (ex 12), (ex 28), (ex 29)]) (xf []) (xh []) (xv [x1, (vi 0)]) H.size (by show (x1 : Int32).toInt ≤ -1 ∨ 1 ≤ (x1 : Int32).toInt; omega)) ⟨callB_of 1 htg (xg_ok kw_557) rfl rfl rfl (htg _ kw_1) (htg _ kw_554) (by decide +kernel) ⟨by rw [hR]; exact Nat.le_of_ble_eq_true rfl, by rw [hR]; exact Nat.le_of_ble_eq_true rfl⟩, htg _ kw_555, htg _ kw_556⟩ (xpreV hK hPc hDc (va_recv hK.1 hPc (ci := 11) (q0 := 0) rfl rfl)) rfl rfl hl.1 rfl (lv_room (Nat.le_of_ble_eq_true rfl)) dL_law_308 ⟨by rw [hR]; exact Nat.le_of_ble_eq_true rfl, by rw [hR]; exact Nat.le_of_ble_eq_true rfl⟩) hS (fun q _ h => hFc q h) hFc (fun r9 u t H1 locs ht hvm hw hB hz1 hk1 hS => ?_)
  obtain ⟨bk_2, fik_2, flk_2, vik_2, hP1, hD1, hGk_2⟩ := hB
  rw [ht] at hP1
  obtain ⟨hP, hD⟩ := va_join (wr := [((a 1), .inr (12, ((.int 0) :: (.ref (ex 13)) :: (.int 0) :: (.int 0) :: (.int 0) :: (.int 0) :: (.ref (ex 14)) :: (.ref (ex 15)) :: (.ref (ex 16)) :: (.ref (ex 17)) :: (.ref (ex 18)) :: (.int 0) :: (.int 0) :: (.int 0) :: (.int 0) :: (.int 0) :: (.int 0) :: (.long 0) :: (.int 0) :: (.int 0) :: (.int 0) :: (.ref (ex 19)) :: (.ref (ex 20)) :: (.int 0) :: (.ref (ex 21)) :: (.int (-1)) :: (.int 0) :: (.int 0) :: (.int 0) :: (.int 0) :: (.int 0) :: (.int 0) :: (.ref (ex 22)) :: (.int 0) :: (.ref (ex 23)) :: (.int 0) :: (.int 0) :: (.int 0) :: (.int 0) :: (.int 0) :: (.ref (ex 24)) :: (.ref (ex 25)) :: (.ref (ex 26)) :: (.ref (ex 27)) :: [])))]) (w1 := []) hP hD [0, 2] [1] rfl rfl (by decide) (by decide) hk1 hFc hP1 hD1
  subst hw
  clear hPc hDc hFc hP1 hD1 hk1 hz1 hvm ht
  generalize H1 = H at hP hS ⊢
  replace hP : va_P D vwCl [((a 1), .inr (12, ((.int 0) :: (.ref (ex 13)) :: (.int 0) :: (.int 0) :: (.int 0) :: (.int 0) :: (.ref (ex 14)) :: (.ref (ex 15)) :: (.ref (ex 16)) :: (.ref (ex 17)) :: (.ref (ex 18)) :: (.int 0) :: (.int 0) :: (.int 0) :: (.int 0) :: (.int 0) :: (.int 0) :: (.long 0) :: (.int 0) :: (.int 0) :: (.int 0) :: (.ref (ex 19)) :: (.ref (ex 20)) :: (.int 0) :: (.ref (ex 21)) :: (.int (-1)) :: (.int 0) :: (.int 0) :: (.int 0) :: (.int 0) :: (.int 0) :: (.int 0) :: (.ref (ex 22)) :: (.int 0) :: (.ref (ex 23)) :: (.int 0) :: (.int 0) :: (.int 0) :: (.int 0) :: (.int 0) :: (.ref (ex 24)) :: (.ref (ex 25)) :: (.ref (ex 26)) :: (.ref (ex 27)) :: [])))] H := hP
  replace hD : va_D A [((a 1), .inr (12, ((.int 0) :: (.ref (ex 13)) :: (.int 0) :: (.int 0) :: (.int 0) :: (.int 0) :: (.ref (ex 14)) :: (.ref (ex 15)) :: (.ref (ex 16)) :: (.ref (ex 17)) :: (.ref (ex 18)) :: (.int 0) :: (.int 0) :: (.int 0) :: (.int 0) :: (.int 0) :: (.int 0) :: (.long 0) :: (.int 0) :: (.int 0) :: (.int 0) :: (.ref (ex 19)) :: (.ref (ex 20)) :: (.int 0) :: (.ref (ex 21)) :: (.int (-1)) :: (.int 0) :: (.int 0) :: (.int 0) :: (.int 0) :: (.int 0) :: (.int 0) :: (.ref (ex 22)) :: (.int 0) :: (.ref (ex 23)) :: (.int 0) :: (.int 0) :: (.int 0) :: (.int 0) :: (.int 0) :: (.ref (ex 24)) :: (.ref (ex 25)) :: (.ref (ex 26)) :: (.ref (ex 27)) :: [])))] := hD
  refine lv_aload_n hx hb dL_law_311 rfl (lv_at hl 2 rfl) ?_
  refine lv_aload_n hx hb dL_law_312 rfl (lv_at hl 4 rfl) ?_
  refine lv_iload hx hb dL_law_313 (lv_at hl 0 rfl) ?_
  refine lv_iconst (v := 1) hx hb dL_law_315 (by decide) ?_
  refine lv_iadd hx hb dL_law_316 ?_
  refine xz_i 1 (by decide) ?_
  refine va_sld hx hb hX hbl hbA hS (vp_in_nI (n := 1) (by decide) (by decide)) dL_law_317 ?_
  refine xz_i x1 hx1 ?_
  have hPc := hP.sub (ws' := (pre_X12_end_2 T (xa [(a 1)]) (xa [(ex 13), (ex 14), (ex 15), (ex 16), (ex 17), (ex 18), (ex 19), (ex 20), (ex 21), (ex 22), (ex 23), (ex 24), (ex 25), (ex 26), (ex 27)]) (xf []) (xh []) (xv [x1]))) [0] rfl
  have hDc := hD.sub (ws' := (pre_X12_end_2 T (xa [(a 1)]) (xa [(ex 13), (ex 14), (ex 15), (ex 16), (ex 17), (ex 18), (ex 19), (ex 20), (ex 21), (ex 22), (ex 23), (ex 24), (ex 25), (ex 26), (ex 27)]) (xf []) (xh []) (xv [x1]))) [0] (by decide) rfl
  have hFc := va_free (wc := (pre_X12_end_2 T (xa [(a 1)]) (xa [(ex 13), (ex 14), (ex 15), (ex 16), (ex 17), (ex 18), (ex 19), (ex 20), (ex 21), (ex 22), (ex 23), (ex 24), (ex 25), (ex 26), (ex 27)]) (xf []) (xh []) (xv [x1]))) hD hS hA [0] rfl
  refine va_calli (va_runV (As := [.int x1]) (rest := [.int 0]) ⟨hx, hb, hml, hown, htg⟩ (c_X12_end_2 l D T (xa [(a 1)]) (xa [(ex 13), (ex 14), (ex 15), (ex 16), (ex 17), (ex 18), (ex 19), (ex 20), (ex 21), (ex 22), (ex 23), (ex 24), (ex 25), (ex 26), (ex 27)]) (xf []) (xh []) (xv [x1]) H.size (by show (x1 : Int32).toInt ≤ -1 ∨ 1 ≤ (x1 : Int32).toInt; omega)) ⟨callB_of 1 htg (xg_ok kw_1374) rfl rfl rfl (htg _ kw_17) (htg _ kw_1371) (by decide +kernel) ⟨by rw [hR]; exact Nat.le_of_ble_eq_true rfl, by rw [hR]; exact Nat.le_of_ble_eq_true rfl⟩, htg _ kw_1372, htg _ kw_1373⟩ (xpreV hK hPc hDc (va_recv hK.1 hPc (ci := 12) (q0 := 0) rfl rfl)) rfl rfl hl.1 rfl (lv_room (Nat.le_of_ble_eq_true rfl)) dL_law_318 ⟨by rw [hR]; exact Nat.le_of_ble_eq_true rfl, by rw [hR]; exact Nat.le_of_ble_eq_true rfl⟩) hS (fun q _ h => hFc q h) hFc (fun r9 u t H1 locs ht hvm hw hB hz1 hk1 hS => ?_)
  obtain ⟨bk_3, fik_3, flk_3, vik_3, hP1, hD1, hGk_3⟩ := hB
  rw [ht] at hP1
  obtain ⟨hP, hD⟩ := va_join (wr := []) (w1 := []) hP hD [0] [] rfl rfl (by decide) (by decide) hk1 hFc hP1 hD1
  subst hw
  clear hPc hDc hFc hP1 hD1 hk1 hz1 hvm ht
  generalize H1 = H at hP hS ⊢
  replace hP : va_P D vwCl [] H := hP
  replace hD : va_D A [] := hD
  refine lv_icmp_eq (tgt := 1466) hx hb dL_law_321 (by decide) (fun _ => ?_) (fun c => absurd (by decide) c)
  refine lv_iinc (v := 6) (lv' := [(4, .int 6), (3, .ref (ex 30)), (2, .ref (a 1)), (1, .ref (a 0)), (0, .ref b)]) hx hb dL_law_1466 hl (k := 0) rfl (by decide) (by decide) rfl (fun ls hl => ?_)
  refine lv_goto (tgt := 23) hx hb dL_law_1469 (by decide) ?_
  refine lv_iload hx hb dL_law_23 (lv_at hl 0 rfl) ?_
  refine lv_aload_n hx hb dL_law_25 rfl (lv_at hl 4 rfl) ?_
  refine va_slen hx hb hX hbl hbA hS dL_law_26 ?_
  refine xz_i 6 rfl ?_
  refine lv_bipush (v := 6) hx hb dL_law_27 (by decide) ?_
  refine lv_isub hx hb dL_law_29 ?_
  refine xz_i 0 (by decide) ?_
  refine lv_icmp_gt (tgt := 1472) hx hb dL_law_30 (by decide) (fun _ => ?_) (fun c => absurd (by decide) c)
  refine lv_iconst (v := 1) hx hb dL_law_1472 (by decide) ?_
  refine va_forget (fun q hq => by have h9 := hS.2.2 q hq; rw [hAe] at h9; exact h9) ?_
  refine W.widen (k := 600002) (n := 7302232) (Nat.le_of_ble_eq_true rfl) (Nat.le_of_ble_eq_true rfl) ?_
  subst hR
  rw [hQ]
  exact lw_ret hx hb hr hlocks dL_law_1473
set_option maxHeartbeats 4000000 in
set_option maxRecDepth 100000 in
theorem lw_town {p : Program} {e : Env} {s : State} {m : MethodId} {below : List Frame} {meth : Method} {c : Code} (l : Launch) (hlt : l.stackTraces = false) {b : Nat} {xs : Nat → Int32} (D : va_G) (T : Nat → ClassId) (a ex : Nat → Nat) (fi : Nat → Nat → Int32) (fl : Nat → Nat → Int64) (vi : Nat → Int32) (kK kV : Nat → Nat) (R : Room) (Q : State → Prop) (A : Nat → Prop) (hR : R = room_1) (hQ : Q = lw_Z below #[Value.ref b] s) (hAe : A = fun q => s.heap.size ≤ q) (hx : p.tables.exec = Jvm.exec) (hb : c.code = code) (hr : meth.sig.returnType = ret) (hml : c.maxLocals = 7) (hown : s.vm.findClass RL = some m.cls) (htg : ∀ w ∈ xg, w.before #[Value.ref b] s = true) (hbl : b < s.heap.size) (hbA : ¬ A b) (hlocks : meth.locks = false) (hK : xK D T s) (hA : ∀ q : Nat, s.heap.size ≤ q → A q) (hT : xT kK kV A s s.heap) (hZt : xZ2 A s s.heap) (hX : va_X b 6 xs s s.heap) (x1 x2 x3 x4 x5 : Int32) (hx1 : xs 1 = x1) (hx2 : xs 2 = x2) (hx3 : xs 3 = x3) (hx4 : xs 4 = x4) (hx5 : xs 5 = x5) (H : Heap) (locs : List Loc) (ls : Array Slot) (hP : va_P D vwCl (((a 0), .inr (11, [.ref (a 4), .ref (a 5), .ref (a 3), .ref (a 2), .ref (a 26), .ref (ex 0), .ref (a 27), .ref (ex 1), .ref (a 28), .ref (ex 2), .ref (ex 3), .ref (ex 4), .ref (ex 5), .ref (ex 6), .int 0])) :: ((a 1), .inr (12, ((.int 0) :: (.ref (ex 7)) :: (.int 0) :: (.int 0) :: (.int 0) :: (.int 0) :: (.ref (a 30)) :: (.ref (a 29)) :: (.ref (ex 8)) :: (.ref (a 31)) :: (.ref (ex 9)) :: (.int 0) :: (.int 0) :: (.int 0) :: (.int 0) :: (.int 0) :: (.int 0) :: (.long 0) :: (.int 0) :: (.int 0) :: (.int 0) :: (.ref (ex 10)) :: (.ref (ex 11)) :: (.int 0) :: (.ref (ex 12)) :: (.int (-1)) :: (.int 0) :: (.int 0) :: (.int 0) :: (.int 0) :: (.int 0) :: (.int 0) :: (.ref (ex 13)) :: (.int 0) :: (.ref (ex 14)) :: (.int 0) :: (.int 0) :: (.int 0) :: (.int 0) :: (.int 0) :: (.ref (ex 15)) :: (.ref (ex 16)) :: (.ref (ex 17)) :: (.ref (ex 18)) :: []))) :: ((a 2), .inr (8, [.ref (a 4), .ref (a 3), .int 0])) :: ((a 3), .inr (7, [.int 0, .int 0, .ref (a 6), .ref (a 8), .ref (a 10), .ref (a 12), .ref (a 14), .ref (a 16), .ref (a 18), .ref (a 20), .ref (a 22), .ref (a 24)])) :: ((a 4), .inr (6, [.ref (ex 19), .ref (ex 20), .int (vi 0), .int 0, .int 0, .int 0, .int 0, .int 0, .long 0, .int 0, .int 0, .int 0, .int 0, .int 0])) :: ((a 5), .inr (7, [.int 0, .int 0, .ref (a 7), .ref (a 9), .ref (a 11), .ref (a 13), .ref (a 15), .ref (a 17), .ref (a 19), .ref (a 21), .ref (a 23), .ref (a 25)])) :: ((a 6), .inl (T 2, 9, .inr (.inl (fun _ => 0)))) :: ((a 7), .inl (T 2, 9, .inr (.inl (fun _ => 0)))) :: ((a 8), .inl (T 1, 9, .inl (fun _ => 0))) :: ((a 9), .inl (T 1, 9, .inl (fun _ => 0))) :: ((a 10), .inl (T 1, 9, .inl (fun _ => 0))) :: ((a 11), .inl (T 1, 9, .inl (fun _ => 0))) :: ((a 12), .inl (T 1, 9, .inl (fun _ => 0))) :: ((a 13), .inl (T 1, 9, .inl (fun _ => 0))) :: ((a 14), .inl (T 2, 9, .inr (.inl (fun _ => 0)))) :: ((a 15), .inl (T 2, 9, .inr (.inl (fun _ => 0)))) :: ((a 16), .inl (T 1, 9, .inl (fun _ => 0))) :: ((a 17), .inl (T 1, 9, .inl (fun _ => 0))) :: ((a 18), .inl (T 1, 9, .inl (fun _ => 0))) :: ((a 19), .inl (T 1, 9, .inl (fun _ => 0))) :: ((a 20), .inl (T 1, 9, .inl (fun _ => 0))) :: ((a 21), .inl (T 1, 9, .inl (fun _ => 0))) :: ((a 22), .inl (T 1, 9, .inl (fun _ => 0))) :: ((a 23), .inl (T 1, 9, .inl (fun _ => 0))) :: ((a 24), .inl (T 1, 81, .inl (fun _ => 0))) :: ((a 25), .inl (T 1, 81, .inl (fun _ => 0))) :: ((a 26), .inr (2, [.ref (a 5), .int 0, .int 0, .int 0, .int 0, .int 0, .int 0, .ref (ex 21), .ref (ex 22), .ref (ex 23), .ref (ex 24), .ref (ex 25), .ref (ex 26), .ref (ex 27), .ref (ex 28)])) :: ((a 27), .inr (9, [.ref (ex 29), .int 0, .int 0])) :: ((a 28), .inr (5, [.ref (a 4), .ref (a 5), .ref (ex 30), .ref (ex 31), .ref (ex 32), .ref (ex 33), .int 0, .int 0])) :: ((a 29), .inl (T 1, 146, .inl (fun _ => 0))) :: ((a 30), .inl (T 1, 2187, .inl (fun _ => 0))) :: ((a 31), .inl (T 2, 36, .inr (.inl (fun _ => 0)))) :: []) H) (hD : va_D A (((a 0), .inr (11, [.ref (a 4), .ref (a 5), .ref (a 3), .ref (a 2), .ref (a 26), .ref (ex 0), .ref (a 27), .ref (ex 1), .ref (a 28), .ref (ex 2), .ref (ex 3), .ref (ex 4), .ref (ex 5), .ref (ex 6), .int 0])) :: ((a 1), .inr (12, ((.int 0) :: (.ref (ex 7)) :: (.int 0) :: (.int 0) :: (.int 0) :: (.int 0) :: (.ref (a 30)) :: (.ref (a 29)) :: (.ref (ex 8)) :: (.ref (a 31)) :: (.ref (ex 9)) :: (.int 0) :: (.int 0) :: (.int 0) :: (.int 0) :: (.int 0) :: (.int 0) :: (.long 0) :: (.int 0) :: (.int 0) :: (.int 0) :: (.ref (ex 10)) :: (.ref (ex 11)) :: (.int 0) :: (.ref (ex 12)) :: (.int (-1)) :: (.int 0) :: (.int 0) :: (.int 0) :: (.int 0) :: (.int 0) :: (.int 0) :: (.ref (ex 13)) :: (.int 0) :: (.ref (ex 14)) :: (.int 0) :: (.int 0) :: (.int 0) :: (.int 0) :: (.int 0) :: (.ref (ex 15)) :: (.ref (ex 16)) :: (.ref (ex 17)) :: (.ref (ex 18)) :: []))) :: ((a 2), .inr (8, [.ref (a 4), .ref (a 3), .int 0])) :: ((a 3), .inr (7, [.int 0, .int 0, .ref (a 6), .ref (a 8), .ref (a 10), .ref (a 12), .ref (a 14), .ref (a 16), .ref (a 18), .ref (a 20), .ref (a 22), .ref (a 24)])) :: ((a 4), .inr (6, [.ref (ex 19), .ref (ex 20), .int (vi 0), .int 0, .int 0, .int 0, .int 0, .int 0, .long 0, .int 0, .int 0, .int 0, .int 0, .int 0])) :: ((a 5), .inr (7, [.int 0, .int 0, .ref (a 7), .ref (a 9), .ref (a 11), .ref (a 13), .ref (a 15), .ref (a 17), .ref (a 19), .ref (a 21), .ref (a 23), .ref (a 25)])) :: ((a 6), .inl (T 2, 9, .inr (.inl (fun _ => 0)))) :: ((a 7), .inl (T 2, 9, .inr (.inl (fun _ => 0)))) :: ((a 8), .inl (T 1, 9, .inl (fun _ => 0))) :: ((a 9), .inl (T 1, 9, .inl (fun _ => 0))) :: ((a 10), .inl (T 1, 9, .inl (fun _ => 0))) :: ((a 11), .inl (T 1, 9, .inl (fun _ => 0))) :: ((a 12), .inl (T 1, 9, .inl (fun _ => 0))) :: ((a 13), .inl (T 1, 9, .inl (fun _ => 0))) :: ((a 14), .inl (T 2, 9, .inr (.inl (fun _ => 0)))) :: ((a 15), .inl (T 2, 9, .inr (.inl (fun _ => 0)))) :: ((a 16), .inl (T 1, 9, .inl (fun _ => 0))) :: ((a 17), .inl (T 1, 9, .inl (fun _ => 0))) :: ((a 18), .inl (T 1, 9, .inl (fun _ => 0))) :: ((a 19), .inl (T 1, 9, .inl (fun _ => 0))) :: ((a 20), .inl (T 1, 9, .inl (fun _ => 0))) :: ((a 21), .inl (T 1, 9, .inl (fun _ => 0))) :: ((a 22), .inl (T 1, 9, .inl (fun _ => 0))) :: ((a 23), .inl (T 1, 9, .inl (fun _ => 0))) :: ((a 24), .inl (T 1, 81, .inl (fun _ => 0))) :: ((a 25), .inl (T 1, 81, .inl (fun _ => 0))) :: ((a 26), .inr (2, [.ref (a 5), .int 0, .int 0, .int 0, .int 0, .int 0, .int 0, .ref (ex 21), .ref (ex 22), .ref (ex 23), .ref (ex 24), .ref (ex 25), .ref (ex 26), .ref (ex 27), .ref (ex 28)])) :: ((a 27), .inr (9, [.ref (ex 29), .int 0, .int 0])) :: ((a 28), .inr (5, [.ref (a 4), .ref (a 5), .ref (ex 30), .ref (ex 31), .ref (ex 32), .ref (ex 33), .int 0, .int 0])) :: ((a 29), .inl (T 1, 146, .inl (fun _ => 0))) :: ((a 30), .inl (T 1, 2187, .inl (fun _ => 0))) :: ((a 31), .inl (T 2, 36, .inr (.inl (fun _ => 0)))) :: [])) (hS : va_S A s.heap H locs) (hl : lv_has ls 7 [(4, .int 0), (3, .ref (ex 34)), (2, .ref (a 1)), (1, .ref (a 0)), (0, .ref b)]) : W p l e R s m #[Value.ref b] below meth c H locs 172 22099 Q (F0 m 326 ls []) := by
  refine lv_aload_n hx hb dL_law_326 rfl (lv_at hl 3 rfl) ?_
  have hPc := hP.sub (ws' := (pre_X11_town T (xa [(a 0), (a 2), (a 3), (a 4), (a 5), (a 6), (a 7), (a 8), (a 9), (a 10), (a 11), (a 12), (a 13), (a 14), (a 15), (a 16), (a 17), (a 18), (a 19), (a 20), (a 21), (a 22), (a 23), (a 24), (a 25), (a 26), (a 27), (a 28)]) (xa [(ex 0), (ex 1), (ex 2), (ex 3), (ex 4), (ex 5), (ex 6), (ex 19), (ex 20), (ex 21), (ex 22), (ex 23), (ex 24), (ex 25), (ex 26), (ex 27), (ex 28), (ex 29), (ex 30), (ex 31), (ex 32), (ex 33)]) (xf []) (xh []) (xv [(vi 0)]))) [0, 2, 3, 4, 5, 6, 7, 8, 9, 10, 11, 12, 13, 14, 15, 16, 17, 18, 19, 20, 21, 22, 23, 24, 25, 26, 27, 28] rfl
  have hDc := hD.sub (ws' := (pre_X11_town T (xa [(a 0), (a 2), (a 3), (a 4), (a 5), (a 6), (a 7), (a 8), (a 9), (a 10), (a 11), (a 12), (a 13), (a 14), (a 15), (a 16), (a 17), (a 18), (a 19), (a 20), (a 21), (a 22), (a 23), (a 24), (a 25), (a 26), (a 27), (a 28)]) (xa [(ex 0), (ex 1), (ex 2), (ex 3), (ex 4), (ex 5), (ex 6), (ex 19), (ex 20), (ex 21), (ex 22), (ex 23), (ex 24), (ex 25), (ex 26), (ex 27), (ex 28), (ex 29), (ex 30), (ex 31), (ex 32), (ex 33)]) (xf []) (xh []) (xv [(vi 0)]))) [0, 2, 3, 4, 5, 6, 7, 8, 9, 10, 11, 12, 13, 14, 15, 16, 17, 18, 19, 20, 21, 22, 23, 24, 25, 26, 27, 28] (by decide) rfl
  have hFc := va_free (wc := (pre_X11_town T (xa [(a 0), (a 2), (a 3), (a 4), (a 5), (a 6), (a 7), (a 8), (a 9), (a 10), (a 11), (a 12), (a 13), (a 14), (a 15), (a 16), (a 17), (a 18), (a 19), (a 20), (a 21), (a 22), (a 23), (a 24), (a 25), (a 26), (a 27), (a 28)]) (xa [(ex 0), (ex 1), (ex 2), (ex 3), (ex 4), (ex 5), (ex 6), (ex 19), (ex 20), (ex 21), (ex 22), (ex 23), (ex 24), (ex 25), (ex 26), (ex 27), (ex 28), (ex 29), (ex 30), (ex 31), (ex 32), (ex 33)]) (xf []) (xh []) (xv [(vi 0)]))) hD hS hA [0, 2, 3, 4, 5, 6, 7, 8, 9, 10, 11, 12, 13, 14, 15, 16, 17, 18, 19, 20, 21, 22, 23, 24, 25, 26, 27, 28] rfl
  refine va_calli (va_runV (As := []) (rest := []) ⟨hx, hb, hml, hown, htg⟩ (c_X11_town l D T (xa [(a 0), (a 2), (a 3), (a 4), (a 5), (a 6), (a 7), (a 8), (a 9), (a 10), (a 11), (a 12), (a 13), (a 14), (a 15), (a 16), (a 17), (a 18), (a 19), (a 20), (a 21), (a 22), (a 23), (a 24), (a 25), (a 26), (a 27), (a 28)]) (xa [(ex 0), (ex 1), (ex 2), (ex 3), (ex 4), (ex 5), (ex 6), (ex 19), (ex 20), (ex 21), (ex 22), (ex 23), (ex 24), (ex 25), (ex 26), (ex 27), (ex 28), (ex 29), (ex 30), (ex 31), (ex 32), (ex 33)]) (xf []) (xh []) (xv [(vi 0)]) H.size) ⟨callB_of 0 htg (xg_ok kw_561) rfl rfl rfl (htg _ kw_1) (htg _ kw_558) (by decide +kernel) ⟨by rw [hR]; exact Nat.le_of_ble_eq_true rfl, by rw [hR]; exact Nat.le_of_ble_eq_true rfl⟩, htg _ kw_559, htg _ kw_560⟩ (xpreV hK hPc hDc (va_recv hK.1 hPc (ci := 11) (q0 := 0) rfl rfl)) rfl rfl hl.1 rfl (lv_room (Nat.le_of_ble_eq_true rfl)) dL_law_327 ⟨by rw [hR]; exact Nat.le_of_ble_eq_true rfl, by rw [hR]; exact Nat.le_of_ble_eq_true rfl⟩) hS (fun q _ h => hFc q h) hFc (fun r9 u t H1 locs ht hvm hw hB hz1 hk1 hS => ?_)
  obtain ⟨bk, fik, flk, vik, hP1, hD1, hGk⟩ := hB
  rw [ht] at hP1
  obtain ⟨hP, hD⟩ := va_join (wr := [((a 1), .inr (12, ((.int 0) :: (.ref (ex 7)) :: (.int 0) :: (.int 0) :: (.int 0) :: (.int 0) :: (.ref (a 30)) :: (.ref (a 29)) :: (.ref (ex 8)) :: (.ref (a 31)) :: (.ref (ex 9)) :: (.int 0) :: (.int 0) :: (.int 0) :: (.int 0) :: (.int 0) :: (.int 0) :: (.long 0) :: (.int 0) :: (.int 0) :: (.int 0) :: (.ref (ex 10)) :: (.ref (ex 11)) :: (.int 0) :: (.ref (ex 12)) :: (.int (-1)) :: (.int 0) :: (.int 0) :: (.int 0) :: (.int 0) :: (.int 0) :: (.int 0) :: (.ref (ex 13)) :: (.int 0) :: (.ref (ex 14)) :: (.int 0) :: (.int 0) :: (.int 0) :: (.int 0) :: (.int 0) :: (.ref (ex 15)) :: (.ref (ex 16)) :: (.ref (ex 17)) :: (.ref (ex 18)) :: []))), ((a 29), .inl (T 1, 146, .inl (fun _ => 0))), ((a 30), .inl (T 1, 2187, .inl (fun _ => 0))), ((a 31), .inl (T 2, 36, .inr (.inl (fun _ => 0))))]) (w1 := []) hP hD [0, 2, 3, 4, 5, 6, 7, 8, 9, 10, 11, 12, 13, 14, 15, 16, 17, 18, 19, 20, 21, 22, 23, 24, 25, 26, 27, 28] [1, 29, 30, 31] rfl rfl (by decide) (by decide) hk1 hFc hP1 hD1
  subst hw
  clear hPc hDc hFc hP1 hD1 hk1 hz1 hvm ht
  generalize H1 = H at hP hS ⊢
  replace hP : va_P D vwCl [((a 1), .inr (12, ((.int 0) :: (.ref (ex 7)) :: (.int 0) :: (.int 0) :: (.int 0) :: (.int 0) :: (.ref (a 30)) :: (.ref (a 29)) :: (.ref (ex 8)) :: (.ref (a 31)) :: (.ref (ex 9)) :: (.int 0) :: (.int 0) :: (.int 0) :: (.int 0) :: (.int 0) :: (.int 0) :: (.long 0) :: (.int 0) :: (.int 0) :: (.int 0) :: (.ref (ex 10)) :: (.ref (ex 11)) :: (.int 0) :: (.ref (ex 12)) :: (.int (-1)) :: (.int 0) :: (.int 0) :: (.int 0) :: (.int 0) :: (.int 0) :: (.int 0) :: (.ref (ex 13)) :: (.int 0) :: (.ref (ex 14)) :: (.int 0) :: (.int 0) :: (.int 0) :: (.int 0) :: (.int 0) :: (.ref (ex 15)) :: (.ref (ex 16)) :: (.ref (ex 17)) :: (.ref (ex 18)) :: []))), ((a 29), .inl (T 1, 146, .inl (fun _ => 0))), ((a 30), .inl (T 1, 2187, .inl (fun _ => 0))), ((a 31), .inl (T 2, 36, .inr (.inl (fun _ => 0))))] H := hP
  replace hD : va_D A [((a 1), .inr (12, ((.int 0) :: (.ref (ex 7)) :: (.int 0) :: (.int 0) :: (.int 0) :: (.int 0) :: (.ref (a 30)) :: (.ref (a 29)) :: (.ref (ex 8)) :: (.ref (a 31)) :: (.ref (ex 9)) :: (.int 0) :: (.int 0) :: (.int 0) :: (.int 0) :: (.int 0) :: (.int 0) :: (.long 0) :: (.int 0) :: (.int 0) :: (.int 0) :: (.ref (ex 10)) :: (.ref (ex 11)) :: (.int 0) :: (.ref (ex 12)) :: (.int (-1)) :: (.int 0) :: (.int 0) :: (.int 0) :: (.int 0) :: (.int 0) :: (.int 0) :: (.ref (ex 13)) :: (.int 0) :: (.ref (ex 14)) :: (.int 0) :: (.int 0) :: (.int 0) :: (.int 0) :: (.int 0) :: (.ref (ex 15)) :: (.ref (ex 16)) :: (.ref (ex 17)) :: (.ref (ex 18)) :: []))), ((a 29), .inl (T 1, 146, .inl (fun _ => 0))), ((a 30), .inl (T 1, 2187, .inl (fun _ => 0))), ((a 31), .inl (T 2, 36, .inr (.inl (fun _ => 0))))] := hD
  refine lv_aload_n hx hb dL_law_330 rfl (lv_at hl 2 rfl) ?_
  have hPc := hP.sub (ws' := (pre_X12_town T (xa [(a 1), (a 29), (a 30), (a 31)]) (xa [(ex 7), (ex 8), (ex 9), (ex 10), (ex 11), (ex 12), (ex 13), (ex 14), (ex 15), (ex 16), (ex 17), (ex 18)]) (xf []) (xh []) (xv []))) [0, 1, 2, 3] rfl
  have hDc := hD.sub (ws' := (pre_X12_town T (xa [(a 1), (a 29), (a 30), (a 31)]) (xa [(ex 7), (ex 8), (ex 9), (ex 10), (ex 11), (ex 12), (ex 13), (ex 14), (ex 15), (ex 16), (ex 17), (ex 18)]) (xf []) (xh []) (xv []))) [0, 1, 2, 3] (by decide) rfl
  have hFc := va_free (wc := (pre_X12_town T (xa [(a 1), (a 29), (a 30), (a 31)]) (xa [(ex 7), (ex 8), (ex 9), (ex 10), (ex 11), (ex 12), (ex 13), (ex 14), (ex 15), (ex 16), (ex 17), (ex 18)]) (xf []) (xh []) (xv []))) hD hS hA [0, 1, 2, 3] rfl
  refine va_calli (va_runV (As := []) (rest := [.int 0]) ⟨hx, hb, hml, hown, htg⟩ (c_X12_town l D T (xa [(a 1), (a 29), (a 30), (a 31)]) (xa [(ex 7), (ex 8), (ex 9), (ex 10), (ex 11), (ex 12), (ex 13), (ex 14), (ex 15), (ex 16), (ex 17), (ex 18)]) (xf []) (xh []) (xv []) H.size) ⟨callB_of 0 htg (xg_ok kw_1544) rfl rfl rfl (htg _ kw_17) (htg _ kw_1541) (by decide +kernel) ⟨by rw [hR]; exact Nat.le_of_ble_eq_true rfl, by rw [hR]; exact Nat.le_of_ble_eq_true rfl⟩, htg _ kw_1542, htg _ kw_1543⟩ (xpreV hK hPc hDc (va_recv hK.1 hPc (ci := 12) (q0 := 0) rfl rfl)) rfl rfl hl.1 rfl (lv_room (Nat.le_of_ble_eq_true rfl)) dL_law_331 ⟨by rw [hR]; exact Nat.le_of_ble_eq_true rfl, by rw [hR]; exact Nat.le_of_ble_eq_true rfl⟩) hS (fun q _ h => hFc q h) hFc (fun r9 u t H1 locs ht hvm hw hB hz1 hk1 hS => ?_)
  obtain ⟨bk_1, fik_1, flk_1, vik_1, hP1, hD1, hGk_1⟩ := hB
  rw [ht] at hP1
  obtain ⟨hP, hD⟩ := va_join (wr := []) (w1 := []) hP hD [0, 1, 2, 3] [] rfl rfl (by decide) (by decide) hk1 hFc hP1 hD1
  subst hw
  clear hPc hDc hFc hP1 hD1 hk1 hz1 hvm ht
  generalize H1 = H at hP hS ⊢
  replace hP : va_P D vwCl [] H := hP
  replace hD : va_D A [] := hD
  refine lv_icmp_eq (tgt := 1466) hx hb dL_law_334 (by decide) (fun _ => ?_) (fun c => absurd (by decide) c)
  refine lv_iinc (v := 6) (lv' := [(4, .int 6), (3, .ref (ex 34)), (2, .ref (a 1)), (1, .ref (a 0)), (0, .ref b)]) hx hb dL_law_1466 hl (k := 0) rfl (by decide) (by decide) rfl (fun ls hl => ?_)
  refine lv_goto (tgt := 23) hx hb dL_law_1469 (by decide) ?_
  refine lv_iload hx hb dL_law_23 (lv_at hl 0 rfl) ?_
  refine lv_aload_n hx hb dL_law_25 rfl (lv_at hl 4 rfl) ?_
  refine va_slen hx hb hX hbl hbA hS dL_law_26 ?_
  refine xz_i 6 rfl ?_
  refine lv_bipush (v := 6) hx hb dL_law_27 (by decide) ?_
  refine lv_isub hx hb dL_law_29 ?_
  refine xz_i 0 (by decide) ?_
  refine lv_icmp_gt (tgt := 1472) hx hb dL_law_30 (by decide) (fun _ => ?_) (fun c => absurd (by decide) c)
  refine lv_iconst (v := 1) hx hb dL_law_1472 (by decide) ?_
  refine va_forget (fun q hq => by have h9 := hS.2.2 q hq; rw [hAe] at h9; exact h9) ?_
  refine W.widen (k := 600002) (n := 7302232) (Nat.le_of_ble_eq_true rfl) (Nat.le_of_ble_eq_true rfl) ?_
  subst hR
  rw [hQ]
  exact lw_ret hx hb hr hlocks dL_law_1473
set_option maxHeartbeats 4000000 in
set_option maxRecDepth 100000 in
theorem lw_fault {p : Program} {e : Env} {s : State} {m : MethodId} {below : List Frame} {meth : Method} {c : Code} (l : Launch) (hlt : l.stackTraces = false) {b : Nat} {xs : Nat → Int32} (D : va_G) (T : Nat → ClassId) (a ex : Nat → Nat) (fi : Nat → Nat → Int32) (fl : Nat → Nat → Int64) (vi : Nat → Int32) (kK kV : Nat → Nat) (R : Room) (Q : State → Prop) (A : Nat → Prop) (hR : R = room_1) (hQ : Q = lw_Z below #[Value.ref b] s) (hAe : A = fun q => s.heap.size ≤ q) (hx : p.tables.exec = Jvm.exec) (hb : c.code = code) (hr : meth.sig.returnType = ret) (hml : c.maxLocals = 7) (hown : s.vm.findClass RL = some m.cls) (htg : ∀ w ∈ xg, w.before #[Value.ref b] s = true) (hbl : b < s.heap.size) (hbA : ¬ A b) (hlocks : meth.locks = false) (hK : xK D T s) (hA : ∀ q : Nat, s.heap.size ≤ q → A q) (hT : xT kK kV A s s.heap) (hZt : xZ2 A s s.heap) (hX : va_X b 6 xs s s.heap) (x1 x2 x3 x4 x5 : Int32) (hx1 : xs 1 = x1) (hx2 : xs 2 = x2) (hx3 : xs 3 = x3) (hx4 : xs 4 = x4) (hx5 : xs 5 = x5) (H : Heap) (locs : List Loc) (ls : Array Slot) (hP : va_P D vwCl [((a 0), .inr (11, [.ref (ex 0), .ref (ex 1), .ref (ex 2), .ref (ex 3), .ref (ex 4), .ref (ex 5), .ref (ex 6), .ref (ex 7), .ref (ex 8), .ref (ex 9), .ref (ex 10), .ref (ex 11), .ref (ex 12), .ref (ex 13), .int 0])), ((a 1), .inr (12, ((.int 0) :: (.ref (ex 14)) :: (.int 0) :: (.int 0) :: (.int 0) :: (.int 0) :: (.ref (ex 15)) :: (.ref (ex 16)) :: (.ref (ex 17)) :: (.ref (ex 18)) :: (.ref (ex 19)) :: (.int 0) :: (.int 0) :: (.int 0) :: (.int 0) :: (.int 0) :: (.int 0) :: (.long 0) :: (.int 0) :: (.int 0) :: (.int 0) :: (.ref (ex 20)) :: (.ref (ex 21)) :: (.int 0) :: (.ref (ex 22)) :: (.int (-1)) :: (.int 0) :: (.int 0) :: (.int 0) :: (.int 0) :: (.int 0) :: (.int 0) :: (.ref (ex 23)) :: (.int 0) :: (.ref (ex 24)) :: (.int 0) :: (.int 0) :: (.int 0) :: (.int 0) :: (.int 0) :: (.ref (ex 25)) :: (.ref (ex 26)) :: (.ref (ex 27)) :: (.ref (ex 28)) :: [])))] H) (hD : va_D A [((a 0), .inr (11, [.ref (ex 0), .ref (ex 1), .ref (ex 2), .ref (ex 3), .ref (ex 4), .ref (ex 5), .ref (ex 6), .ref (ex 7), .ref (ex 8), .ref (ex 9), .ref (ex 10), .ref (ex 11), .ref (ex 12), .ref (ex 13), .int 0])), ((a 1), .inr (12, ((.int 0) :: (.ref (ex 14)) :: (.int 0) :: (.int 0) :: (.int 0) :: (.int 0) :: (.ref (ex 15)) :: (.ref (ex 16)) :: (.ref (ex 17)) :: (.ref (ex 18)) :: (.ref (ex 19)) :: (.int 0) :: (.int 0) :: (.int 0) :: (.int 0) :: (.int 0) :: (.int 0) :: (.long 0) :: (.int 0) :: (.int 0) :: (.int 0) :: (.ref (ex 20)) :: (.ref (ex 21)) :: (.int 0) :: (.ref (ex 22)) :: (.int (-1)) :: (.int 0) :: (.int 0) :: (.int 0) :: (.int 0) :: (.int 0) :: (.int 0) :: (.ref (ex 23)) :: (.int 0) :: (.ref (ex 24)) :: (.int 0) :: (.int 0) :: (.int 0) :: (.int 0) :: (.int 0) :: (.ref (ex 25)) :: (.ref (ex 26)) :: (.ref (ex 27)) :: (.ref (ex 28)) :: [])))]) (hS : va_S A s.heap H locs) (hl : lv_has ls 7 [(4, .int 0), (3, .ref (ex 29)), (2, .ref (a 1)), (1, .ref (a 0)), (0, .ref b)]) : W p l e R s m #[Value.ref b] below meth c H locs 172 22099 Q (F0 m 339 ls []) := by
  refine lv_aload_n hx hb dL_law_339 rfl (lv_at hl 3 rfl) ?_
  have hPc := hP.sub (ws' := (pre_X11_fault T (xa [(a 0)]) (xa [(ex 0), (ex 1), (ex 2), (ex 3), (ex 4), (ex 5), (ex 6), (ex 7), (ex 8), (ex 9), (ex 10), (ex 11), (ex 12), (ex 13)]) (xf []) (xh []) (xv []))) [0] rfl
  have hDc := hD.sub (ws' := (pre_X11_fault T (xa [(a 0)]) (xa [(ex 0), (ex 1), (ex 2), (ex 3), (ex 4), (ex 5), (ex 6), (ex 7), (ex 8), (ex 9), (ex 10), (ex 11), (ex 12), (ex 13)]) (xf []) (xh []) (xv []))) [0] (by decide) rfl
  have hFc := va_free (wc := (pre_X11_fault T (xa [(a 0)]) (xa [(ex 0), (ex 1), (ex 2), (ex 3), (ex 4), (ex 5), (ex 6), (ex 7), (ex 8), (ex 9), (ex 10), (ex 11), (ex 12), (ex 13)]) (xf []) (xh []) (xv []))) hD hS hA [0] rfl
  refine va_calli (va_runV (As := []) (rest := []) ⟨hx, hb, hml, hown, htg⟩ (c_X11_fault l D T (xa [(a 0)]) (xa [(ex 0), (ex 1), (ex 2), (ex 3), (ex 4), (ex 5), (ex 6), (ex 7), (ex 8), (ex 9), (ex 10), (ex 11), (ex 12), (ex 13)]) (xf []) (xh []) (xv []) H.size) ⟨callB_of 0 htg (xg_ok kw_738) rfl rfl rfl (htg _ kw_1) (htg _ kw_735) (by decide +kernel) ⟨by rw [hR]; exact Nat.le_of_ble_eq_true rfl, by rw [hR]; exact Nat.le_of_ble_eq_true rfl⟩, htg _ kw_736, htg _ kw_737⟩ (xpreV hK hPc hDc (va_recv hK.1 hPc (ci := 11) (q0 := 0) rfl rfl)) rfl rfl hl.1 rfl (lv_room (Nat.le_of_ble_eq_true rfl)) dL_law_340 ⟨by rw [hR]; exact Nat.le_of_ble_eq_true rfl, by rw [hR]; exact Nat.le_of_ble_eq_true rfl⟩) hS (fun q _ h => hFc q h) hFc (fun r9 u t H1 locs ht hvm hw hB hz1 hk1 hS => ?_)
  obtain ⟨bk, fik, flk, vik, hP1, hD1, hGk⟩ := hB
  rw [ht] at hP1
  obtain ⟨hP, hD⟩ := va_join (wr := [((a 1), .inr (12, ((.int 0) :: (.ref (ex 14)) :: (.int 0) :: (.int 0) :: (.int 0) :: (.int 0) :: (.ref (ex 15)) :: (.ref (ex 16)) :: (.ref (ex 17)) :: (.ref (ex 18)) :: (.ref (ex 19)) :: (.int 0) :: (.int 0) :: (.int 0) :: (.int 0) :: (.int 0) :: (.int 0) :: (.long 0) :: (.int 0) :: (.int 0) :: (.int 0) :: (.ref (ex 20)) :: (.ref (ex 21)) :: (.int 0) :: (.ref (ex 22)) :: (.int (-1)) :: (.int 0) :: (.int 0) :: (.int 0) :: (.int 0) :: (.int 0) :: (.int 0) :: (.ref (ex 23)) :: (.int 0) :: (.ref (ex 24)) :: (.int 0) :: (.int 0) :: (.int 0) :: (.int 0) :: (.int 0) :: (.ref (ex 25)) :: (.ref (ex 26)) :: (.ref (ex 27)) :: (.ref (ex 28)) :: [])))]) (w1 := []) hP hD [0] [1] rfl rfl (by decide) (by decide) hk1 hFc hP1 hD1
  subst hw
  clear hPc hDc hFc hP1 hD1 hk1 hz1 hvm ht
  generalize H1 = H at hP hS ⊢
  replace hP : va_P D vwCl [((a 1), .inr (12, ((.int 0) :: (.ref (ex 14)) :: (.int 0) :: (.int 0) :: (.int 0) :: (.int 0) :: (.ref (ex 15)) :: (.ref (ex 16)) :: (.ref (ex 17)) :: (.ref (ex 18)) :: (.ref (ex 19)) :: (.int 0) :: (.int 0) :: (.int 0) :: (.int 0) :: (.int 0) :: (.int 0) :: (.long 0) :: (.int 0) :: (.int 0) :: (.int 0) :: (.ref (ex 20)) :: (.ref (ex 21)) :: (.int 0) :: (.ref (ex 22)) :: (.int (-1)) :: (.int 0) :: (.int 0) :: (.int 0) :: (.int 0) :: (.int 0) :: (.int 0) :: (.ref (ex 23)) :: (.int 0) :: (.ref (ex 24)) :: (.int 0) :: (.int 0) :: (.int 0) :: (.int 0) :: (.int 0) :: (.ref (ex 25)) :: (.ref (ex 26)) :: (.ref (ex 27)) :: (.ref (ex 28)) :: [])))] H := hP
  replace hD : va_D A [((a 1), .inr (12, ((.int 0) :: (.ref (ex 14)) :: (.int 0) :: (.int 0) :: (.int 0) :: (.int 0) :: (.ref (ex 15)) :: (.ref (ex 16)) :: (.ref (ex 17)) :: (.ref (ex 18)) :: (.ref (ex 19)) :: (.int 0) :: (.int 0) :: (.int 0) :: (.int 0) :: (.int 0) :: (.int 0) :: (.long 0) :: (.int 0) :: (.int 0) :: (.int 0) :: (.ref (ex 20)) :: (.ref (ex 21)) :: (.int 0) :: (.ref (ex 22)) :: (.int (-1)) :: (.int 0) :: (.int 0) :: (.int 0) :: (.int 0) :: (.int 0) :: (.int 0) :: (.ref (ex 23)) :: (.int 0) :: (.ref (ex 24)) :: (.int 0) :: (.int 0) :: (.int 0) :: (.int 0) :: (.int 0) :: (.ref (ex 25)) :: (.ref (ex 26)) :: (.ref (ex 27)) :: (.ref (ex 28)) :: [])))] := hD
  refine lv_aload_n hx hb dL_law_343 rfl (lv_at hl 2 rfl) ?_
  have hPc := hP.sub (ws' := (pre_X12_fault T (xa [(a 1)]) (xa [(ex 14), (ex 15), (ex 16), (ex 17), (ex 18), (ex 19), (ex 20), (ex 21), (ex 22), (ex 23), (ex 24), (ex 25), (ex 26), (ex 27), (ex 28)]) (xf []) (xh []) (xv []))) [0] rfl
  have hDc := hD.sub (ws' := (pre_X12_fault T (xa [(a 1)]) (xa [(ex 14), (ex 15), (ex 16), (ex 17), (ex 18), (ex 19), (ex 20), (ex 21), (ex 22), (ex 23), (ex 24), (ex 25), (ex 26), (ex 27), (ex 28)]) (xf []) (xh []) (xv []))) [0] (by decide) rfl
  have hFc := va_free (wc := (pre_X12_fault T (xa [(a 1)]) (xa [(ex 14), (ex 15), (ex 16), (ex 17), (ex 18), (ex 19), (ex 20), (ex 21), (ex 22), (ex 23), (ex 24), (ex 25), (ex 26), (ex 27), (ex 28)]) (xf []) (xh []) (xv []))) hD hS hA [0] rfl
  refine va_calli (va_runV (As := []) (rest := [.int 0]) ⟨hx, hb, hml, hown, htg⟩ (c_X12_fault l D T (xa [(a 1)]) (xa [(ex 14), (ex 15), (ex 16), (ex 17), (ex 18), (ex 19), (ex 20), (ex 21), (ex 22), (ex 23), (ex 24), (ex 25), (ex 26), (ex 27), (ex 28)]) (xf []) (xh []) (xv []) H.size) ⟨callB_of 0 htg (xg_ok kw_1624) rfl rfl rfl (htg _ kw_17) (htg _ kw_1621) (by decide +kernel) ⟨by rw [hR]; exact Nat.le_of_ble_eq_true rfl, by rw [hR]; exact Nat.le_of_ble_eq_true rfl⟩, htg _ kw_1622, htg _ kw_1623⟩ (xpreV hK hPc hDc (va_recv hK.1 hPc (ci := 12) (q0 := 0) rfl rfl)) rfl rfl hl.1 rfl (lv_room (Nat.le_of_ble_eq_true rfl)) dL_law_344 ⟨by rw [hR]; exact Nat.le_of_ble_eq_true rfl, by rw [hR]; exact Nat.le_of_ble_eq_true rfl⟩) hS (fun q _ h => hFc q h) hFc (fun r9 u t H1 locs ht hvm hw hB hz1 hk1 hS => ?_)
  obtain ⟨bk_1, fik_1, flk_1, vik_1, hP1, hD1, hGk_1⟩ := hB
  rw [ht] at hP1
  obtain ⟨hP, hD⟩ := va_join (wr := []) (w1 := []) hP hD [0] [] rfl rfl (by decide) (by decide) hk1 hFc hP1 hD1
  subst hw
  clear hPc hDc hFc hP1 hD1 hk1 hz1 hvm ht
  generalize H1 = H at hP hS ⊢
  replace hP : va_P D vwCl [] H := hP
  replace hD : va_D A [] := hD
  refine lv_icmp_eq (tgt := 1466) hx hb dL_law_347 (by decide) (fun _ => ?_) (fun c => absurd (by decide) c)
  refine lv_iinc (v := 6) (lv' := [(4, .int 6), (3, .ref (ex 29)), (2, .ref (a 1)), (1, .ref (a 0)), (0, .ref b)]) hx hb dL_law_1466 hl (k := 0) rfl (by decide) (by decide) rfl (fun ls hl => ?_)
  refine lv_goto (tgt := 23) hx hb dL_law_1469 (by decide) ?_
  refine lv_iload hx hb dL_law_23 (lv_at hl 0 rfl) ?_
  refine lv_aload_n hx hb dL_law_25 rfl (lv_at hl 4 rfl) ?_
  refine va_slen hx hb hX hbl hbA hS dL_law_26 ?_
  refine xz_i 6 rfl ?_
  refine lv_bipush (v := 6) hx hb dL_law_27 (by decide) ?_
  refine lv_isub hx hb dL_law_29 ?_
  refine xz_i 0 (by decide) ?_
  refine lv_icmp_gt (tgt := 1472) hx hb dL_law_30 (by decide) (fun _ => ?_) (fun c => absurd (by decide) c)
  refine lv_iconst (v := 1) hx hb dL_law_1472 (by decide) ?_
  refine va_forget (fun q hq => by have h9 := hS.2.2 q hq; rw [hAe] at h9; exact h9) ?_
  refine W.widen (k := 600002) (n := 7302232) (Nat.le_of_ble_eq_true rfl) (Nat.le_of_ble_eq_true rfl) ?_
  subst hR
  rw [hQ]
  exact lw_ret hx hb hr hlocks dL_law_1473
set_option maxHeartbeats 4000000 in
set_option maxRecDepth 100000 in
theorem lw_name {p : Program} {e : Env} {s : State} {m : MethodId} {below : List Frame} {meth : Method} {c : Code} (l : Launch) (hlt : l.stackTraces = false) {b : Nat} {xs : Nat → Int32} (D : va_G) (T : Nat → ClassId) (a ex : Nat → Nat) (fi : Nat → Nat → Int32) (fl : Nat → Nat → Int64) (vi : Nat → Int32) (kK kV : Nat → Nat) (R : Room) (Q : State → Prop) (A : Nat → Prop) (hR : R = room_1) (hQ : Q = lw_Z below #[Value.ref b] s) (hAe : A = fun q => s.heap.size ≤ q) (hx : p.tables.exec = Jvm.exec) (hb : c.code = code) (hr : meth.sig.returnType = ret) (hml : c.maxLocals = 7) (hown : s.vm.findClass RL = some m.cls) (htg : ∀ w ∈ xg, w.before #[Value.ref b] s = true) (hbl : b < s.heap.size) (hbA : ¬ A b) (hlocks : meth.locks = false) (hK : xK D T s) (hA : ∀ q : Nat, s.heap.size ≤ q → A q) (hT : xT kK kV A s s.heap) (hZt : xZ2 A s s.heap) (hX : va_X b 6 xs s s.heap) (x1 x2 x3 x4 x5 : Int32) (hx1 : xs 1 = x1) (hx2 : xs 2 = x2) (hx3 : xs 3 = x3) (hx4 : xs 4 = x4) (hx5 : xs 5 = x5) (H : Heap) (locs : List Loc) (ls : Array Slot) (hP : va_P D vwCl [((a 0), .inr (11, [.ref (ex 0), .ref (a 2), .ref (ex 1), .ref (ex 2), .ref (ex 3), .ref (ex 4), .ref (ex 5), .ref (ex 6), .ref (ex 7), .ref (ex 8), .ref (ex 9), .ref (ex 10), .ref (ex 11), .ref (ex 12), .int 0])), ((a 1), .inr (12, ((.int 0) :: (.ref (ex 13)) :: (.int 0) :: (.int 0) :: (.int 0) :: (.int 0) :: (.ref (a 3)) :: (.ref (ex 14)) :: (.ref (ex 15)) :: (.ref (ex 16)) :: (.ref (ex 17)) :: (.int 0) :: (.int 0) :: (.int 0) :: (.int 0) :: (.int 0) :: (.int 0) :: (.long 0) :: (.int 0) :: (.int 0) :: (.int 0) :: (.ref (ex 18)) :: (.ref (ex 19)) :: (.int 0) :: (.ref (ex 20)) :: (.int (-1)) :: (.int 0) :: (.int 0) :: (.int 0) :: (.int 0) :: (.int 0) :: (.int 0) :: (.ref (ex 21)) :: (.int 0) :: (.ref (ex 22)) :: (.int 0) :: (.int 0) :: (.int 0) :: (.int 0) :: (.int 0) :: (.ref (ex 23)) :: (.ref (ex 24)) :: (.ref (ex 25)) :: (.ref (ex 26)) :: []))), ((a 2), .inr (7, [.int 0, .int 0, .ref (ex 27), .ref (ex 28), .ref (ex 29), .ref (ex 30), .ref (ex 31), .ref (ex 32), .ref (ex 33), .ref (ex 34), .ref (ex 35), .ref (ex 36)])), ((a 3), .inl (T 1, 2187, .inl (fun _ => 0)))] H) (hD : va_D A [((a 0), .inr (11, [.ref (ex 0), .ref (a 2), .ref (ex 1), .ref (ex 2), .ref (ex 3), .ref (ex 4), .ref (ex 5), .ref (ex 6), .ref (ex 7), .ref (ex 8), .ref (ex 9), .ref (ex 10), .ref (ex 11), .ref (ex 12), .int 0])), ((a 1), .inr (12, ((.int 0) :: (.ref (ex 13)) :: (.int 0) :: (.int 0) :: (.int 0) :: (.int 0) :: (.ref (a 3)) :: (.ref (ex 14)) :: (.ref (ex 15)) :: (.ref (ex 16)) :: (.ref (ex 17)) :: (.int 0) :: (.int 0) :: (.int 0) :: (.int 0) :: (.int 0) :: (.int 0) :: (.long 0) :: (.int 0) :: (.int 0) :: (.int 0) :: (.ref (ex 18)) :: (.ref (ex 19)) :: (.int 0) :: (.ref (ex 20)) :: (.int (-1)) :: (.int 0) :: (.int 0) :: (.int 0) :: (.int 0) :: (.int 0) :: (.int 0) :: (.ref (ex 21)) :: (.int 0) :: (.ref (ex 22)) :: (.int 0) :: (.int 0) :: (.int 0) :: (.int 0) :: (.int 0) :: (.ref (ex 23)) :: (.ref (ex 24)) :: (.ref (ex 25)) :: (.ref (ex 26)) :: []))), ((a 2), .inr (7, [.int 0, .int 0, .ref (ex 27), .ref (ex 28), .ref (ex 29), .ref (ex 30), .ref (ex 31), .ref (ex 32), .ref (ex 33), .ref (ex 34), .ref (ex 35), .ref (ex 36)])), ((a 3), .inl (T 1, 2187, .inl (fun _ => 0)))]) (hS : va_S A s.heap H locs) (hl : lv_has ls 7 [(4, .int 0), (3, .ref (ex 37)), (2, .ref (a 1)), (1, .ref (a 0)), (0, .ref b)]) : W p l e R s m #[Value.ref b] below meth c H locs 172 22099 Q (F0 m 352 ls []) := by
  refine lv_aload_n hx hb dL_law_352 rfl (lv_at hl 3 rfl) ?_
  refine lv_aload_n hx hb dL_law_353 rfl (lv_at hl 4 rfl) ?_
  refine lv_iload hx hb dL_law_354 (lv_at hl 0 rfl) ?_
  refine lv_iconst (v := 1) hx hb dL_law_356 (by decide) ?_
  refine lv_iadd hx hb dL_law_357 ?_
  refine xz_i 1 (by decide) ?_
  refine va_sld hx hb hX hbl hbA hS (vp_in_nI (n := 1) (by decide) (by decide)) dL_law_358 ?_
  refine xz_i x1 hx1 ?_
  refine lv_aload_n hx hb dL_law_359 rfl (lv_at hl 4 rfl) ?_
  refine lv_iload hx hb dL_law_360 (lv_at hl 0 rfl) ?_
  refine lv_iconst (v := 2) hx hb dL_law_362 (by decide) ?_
  refine lv_iadd hx hb dL_law_363 ?_
  refine xz_i 2 (by decide) ?_
  refine va_sld hx hb hX hbl hbA hS (vp_in_nI (n := 2) (by decide) (by decide)) dL_law_364 ?_
  refine xz_i x2 hx2 ?_
  have hPc := hP.sub (ws' := (pre_X11_name T (xa [(a 0), (a 2)]) (xa [(ex 0), (ex 1), (ex 2), (ex 3), (ex 4), (ex 5), (ex 6), (ex 7), (ex 8), (ex 9), (ex 10), (ex 11), (ex 12), (ex 27), (ex 28), (ex 29), (ex 30), (ex 31), (ex 32), (ex 33), (ex 34), (ex 35), (ex 36)]) (xf []) (xh []) (xv [x1, x2]))) [0, 2] rfl
  have hDc := hD.sub (ws' := (pre_X11_name T (xa [(a 0), (a 2)]) (xa [(ex 0), (ex 1), (ex 2), (ex 3), (ex 4), (ex 5), (ex 6), (ex 7), (ex 8), (ex 9), (ex 10), (ex 11), (ex 12), (ex 27), (ex 28), (ex 29), (ex 30), (ex 31), (ex 32), (ex 33), (ex 34), (ex 35), (ex 36)]) (xf []) (xh []) (xv [x1, x2]))) [0, 2] (by decide) rfl
  have hFc := va_free (wc := (pre_X11_name T (xa [(a 0), (a 2)]) (xa [(ex 0), (ex 1), (ex 2), (ex 3), (ex 4), (ex 5), (ex 6), (ex 7), (ex 8), (ex 9), (ex 10), (ex 11), (ex 12), (ex 27), (ex 28), (ex 29), (ex 30), (ex 31), (ex 32), (ex 33), (ex 34), (ex 35), (ex 36)]) (xf []) (xh []) (xv [x1, x2]))) hD hS hA [0, 2] rfl
  refine va_calli (va_runV (As := [.int x1, .int x2]) (rest := []) ⟨hx, hb, hml, hown, htg⟩ (c_X11_name l D T (xa [(a 0), (a 2)]) (xa [(ex 0), (ex 1), (ex 2), (ex 3), (ex 4), (ex 5), (ex 6), (ex 7), (ex 8), (ex 9), (ex 10), (ex 11), (ex 12), (ex 27), (ex 28), (ex 29), (ex 30), (ex 31), (ex 32), (ex 33), (ex 34), (ex 35), (ex 36)]) (xf []) (xh []) (xv [x1, x2]) H.size) ⟨callB_of 2 htg (xg_ok kw_742) rfl rfl rfl (htg _ kw_1) (htg _ kw_739) (by decide +kernel) ⟨by rw [hR]; exact Nat.le_of_ble_eq_true rfl, by rw [hR]; exact Nat.le_of_ble_eq_true rfl⟩, htg _ kw_740, htg _ kw_741⟩ (xpreV hK hPc hDc (va_recv hK.1 hPc (ci := 11) (q0 := 0) rfl rfl)) rfl rfl hl.1 rfl (lv_room (Nat.le_of_ble_eq_true rfl)) dL_law_365 ⟨by rw [hR]; exact Nat.le_of_ble_eq_true rfl, by rw [hR]; exact Nat.le_of_ble_eq_true rfl⟩) hS (fun q _ h => hFc q h) hFc (fun r9 u t H1 locs ht hvm hw hB hz1 hk1 hS => ?_)
  obtain ⟨bk, fik, flk, vik, hP1, hD1, hGk⟩ := hB
  rw [ht] at hP1
  obtain ⟨hP, hD⟩ := va_join (wr := [((a 1), .inr (12, ((.int 0) :: (.ref (ex 13)) :: (.int 0) :: (.int 0) :: (.int 0) :: (.int 0) :: (.ref (a 3)) :: (.ref (ex 14)) :: (.ref (ex 15)) :: (.ref (ex 16)) :: (.ref (ex 17)) :: (.int 0) :: (.int 0) :: (.int 0) :: (.int 0) :: (.int 0) :: (.int 0) :: (.long 0) :: (.int 0) :: (.int 0) :: (.int 0) :: (.ref (ex 18)) :: (.ref (ex 19)) :: (.int 0) :: (.ref (ex 20)) :: (.int (-1)) :: (.int 0) :: (.int 0) :: (.int 0) :: (.int 0) :: (.int 0) :: (.int 0) :: (.ref (ex 21)) :: (.int 0) :: (.ref (ex 22)) :: (.int 0) :: (.int 0) :: (.int 0) :: (.int 0) :: (.int 0) :: (.ref (ex 23)) :: (.ref (ex 24)) :: (.ref (ex 25)) :: (.ref (ex 26)) :: []))), ((a 3), .inl (T 1, 2187, .inl (fun _ => 0)))]) (w1 := []) hP hD [0, 2] [1, 3] rfl rfl (by decide) (by decide) hk1 hFc hP1 hD1
  subst hw
  clear hPc hDc hFc hP1 hD1 hk1 hz1 hvm ht
  generalize H1 = H at hP hS ⊢
  replace hP : va_P D vwCl [((a 1), .inr (12, ((.int 0) :: (.ref (ex 13)) :: (.int 0) :: (.int 0) :: (.int 0) :: (.int 0) :: (.ref (a 3)) :: (.ref (ex 14)) :: (.ref (ex 15)) :: (.ref (ex 16)) :: (.ref (ex 17)) :: (.int 0) :: (.int 0) :: (.int 0) :: (.int 0) :: (.int 0) :: (.int 0) :: (.long 0) :: (.int 0) :: (.int 0) :: (.int 0) :: (.ref (ex 18)) :: (.ref (ex 19)) :: (.int 0) :: (.ref (ex 20)) :: (.int (-1)) :: (.int 0) :: (.int 0) :: (.int 0) :: (.int 0) :: (.int 0) :: (.int 0) :: (.ref (ex 21)) :: (.int 0) :: (.ref (ex 22)) :: (.int 0) :: (.int 0) :: (.int 0) :: (.int 0) :: (.int 0) :: (.ref (ex 23)) :: (.ref (ex 24)) :: (.ref (ex 25)) :: (.ref (ex 26)) :: []))), ((a 3), .inl (T 1, 2187, .inl (fun _ => 0)))] H := hP
  replace hD : va_D A [((a 1), .inr (12, ((.int 0) :: (.ref (ex 13)) :: (.int 0) :: (.int 0) :: (.int 0) :: (.int 0) :: (.ref (a 3)) :: (.ref (ex 14)) :: (.ref (ex 15)) :: (.ref (ex 16)) :: (.ref (ex 17)) :: (.int 0) :: (.int 0) :: (.int 0) :: (.int 0) :: (.int 0) :: (.int 0) :: (.long 0) :: (.int 0) :: (.int 0) :: (.int 0) :: (.ref (ex 18)) :: (.ref (ex 19)) :: (.int 0) :: (.ref (ex 20)) :: (.int (-1)) :: (.int 0) :: (.int 0) :: (.int 0) :: (.int 0) :: (.int 0) :: (.int 0) :: (.ref (ex 21)) :: (.int 0) :: (.ref (ex 22)) :: (.int 0) :: (.int 0) :: (.int 0) :: (.int 0) :: (.int 0) :: (.ref (ex 23)) :: (.ref (ex 24)) :: (.ref (ex 25)) :: (.ref (ex 26)) :: []))), ((a 3), .inl (T 1, 2187, .inl (fun _ => 0)))] := hD
  refine lv_aload_n hx hb dL_law_368 rfl (lv_at hl 2 rfl) ?_
  refine lv_aload_n hx hb dL_law_369 rfl (lv_at hl 4 rfl) ?_
  refine lv_iload hx hb dL_law_370 (lv_at hl 0 rfl) ?_
  refine lv_iconst (v := 1) hx hb dL_law_372 (by decide) ?_
  refine lv_iadd hx hb dL_law_373 ?_
  refine xz_i 1 (by decide) ?_
  refine va_sld hx hb hX hbl hbA hS (vp_in_nI (n := 1) (by decide) (by decide)) dL_law_374 ?_
  refine xz_i x1 hx1 ?_
  refine lv_aload_n hx hb dL_law_375 rfl (lv_at hl 4 rfl) ?_
  refine lv_iload hx hb dL_law_376 (lv_at hl 0 rfl) ?_
  refine lv_iconst (v := 2) hx hb dL_law_378 (by decide) ?_
  refine lv_iadd hx hb dL_law_379 ?_
  refine xz_i 2 (by decide) ?_
  refine va_sld hx hb hX hbl hbA hS (vp_in_nI (n := 2) (by decide) (by decide)) dL_law_380 ?_
  refine xz_i x2 hx2 ?_
  have hPc := hP.sub (ws' := (pre_X12_name T (xa [(a 1), (a 3)]) (xa [(ex 13), (ex 14), (ex 15), (ex 16), (ex 17), (ex 18), (ex 19), (ex 20), (ex 21), (ex 22), (ex 23), (ex 24), (ex 25), (ex 26)]) (xf []) (xh []) (xv [x1, x2]))) [0, 1] rfl
  have hDc := hD.sub (ws' := (pre_X12_name T (xa [(a 1), (a 3)]) (xa [(ex 13), (ex 14), (ex 15), (ex 16), (ex 17), (ex 18), (ex 19), (ex 20), (ex 21), (ex 22), (ex 23), (ex 24), (ex 25), (ex 26)]) (xf []) (xh []) (xv [x1, x2]))) [0, 1] (by decide) rfl
  have hFc := va_free (wc := (pre_X12_name T (xa [(a 1), (a 3)]) (xa [(ex 13), (ex 14), (ex 15), (ex 16), (ex 17), (ex 18), (ex 19), (ex 20), (ex 21), (ex 22), (ex 23), (ex 24), (ex 25), (ex 26)]) (xf []) (xh []) (xv [x1, x2]))) hD hS hA [0, 1] rfl
  refine va_calli (va_runV (As := [.int x1, .int x2]) (rest := [.int (-1)]) ⟨hx, hb, hml, hown, htg⟩ (c_X12_name l D T (xa [(a 1), (a 3)]) (xa [(ex 13), (ex 14), (ex 15), (ex 16), (ex 17), (ex 18), (ex 19), (ex 20), (ex 21), (ex 22), (ex 23), (ex 24), (ex 25), (ex 26)]) (xf []) (xh []) (xv [x1, x2]) H.size) ⟨callB_of 2 htg (xg_ok kw_1628) rfl rfl rfl (htg _ kw_17) (htg _ kw_1625) (by decide +kernel) ⟨by rw [hR]; exact Nat.le_of_ble_eq_true rfl, by rw [hR]; exact Nat.le_of_ble_eq_true rfl⟩, htg _ kw_1626, htg _ kw_1627⟩ (xpreV hK hPc hDc (va_recv hK.1 hPc (ci := 12) (q0 := 0) rfl rfl)) rfl rfl hl.1 rfl (lv_room (Nat.le_of_ble_eq_true rfl)) dL_law_381 ⟨by rw [hR]; exact Nat.le_of_ble_eq_true rfl, by rw [hR]; exact Nat.le_of_ble_eq_true rfl⟩) hS (fun q _ h => hFc q h) hFc (fun r9 u t H1 locs ht hvm hw hB hz1 hk1 hS => ?_)
  obtain ⟨bk_1, fik_1, flk_1, vik_1, hP1, hD1, hGk_1⟩ := hB
  rw [ht] at hP1
  obtain ⟨hP, hD⟩ := va_join (wr := []) (w1 := []) hP hD [0, 1] [] rfl rfl (by decide) (by decide) hk1 hFc hP1 hD1
  subst hw
  clear hPc hDc hFc hP1 hD1 hk1 hz1 hvm ht
  generalize H1 = H at hP hS ⊢
  replace hP : va_P D vwCl [] H := hP
  replace hD : va_D A [] := hD
  refine lv_icmp_eq (tgt := 1466) hx hb dL_law_384 (by decide) (fun _ => ?_) (fun c => absurd (by decide) c)
  refine lv_iinc (v := 6) (lv' := [(4, .int 6), (3, .ref (ex 37)), (2, .ref (a 1)), (1, .ref (a 0)), (0, .ref b)]) hx hb dL_law_1466 hl (k := 0) rfl (by decide) (by decide) rfl (fun ls hl => ?_)
  refine lv_goto (tgt := 23) hx hb dL_law_1469 (by decide) ?_
  refine lv_iload hx hb dL_law_23 (lv_at hl 0 rfl) ?_
  refine lv_aload_n hx hb dL_law_25 rfl (lv_at hl 4 rfl) ?_
  refine va_slen hx hb hX hbl hbA hS dL_law_26 ?_
  refine xz_i 6 rfl ?_
  refine lv_bipush (v := 6) hx hb dL_law_27 (by decide) ?_
  refine lv_isub hx hb dL_law_29 ?_
  refine xz_i 0 (by decide) ?_
  refine lv_icmp_gt (tgt := 1472) hx hb dL_law_30 (by decide) (fun _ => ?_) (fun c => absurd (by decide) c)
  refine lv_iconst (v := 1) hx hb dL_law_1472 (by decide) ?_
  refine va_forget (fun q hq => by have h9 := hS.2.2 q hq; rw [hAe] at h9; exact h9) ?_
  refine W.widen (k := 600002) (n := 7302232) (Nat.le_of_ble_eq_true rfl) (Nat.le_of_ble_eq_true rfl) ?_
  subst hR
  rw [hQ]
  exact lw_ret hx hb hr hlocks dL_law_1473
set_option maxHeartbeats 4000000 in
set_option maxRecDepth 100000 in
theorem lw_soul {p : Program} {e : Env} {s : State} {m : MethodId} {below : List Frame} {meth : Method} {c : Code} (l : Launch) (hlt : l.stackTraces = false) {b : Nat} {xs : Nat → Int32} (D : va_G) (T : Nat → ClassId) (a ex : Nat → Nat) (fi : Nat → Nat → Int32) (fl : Nat → Nat → Int64) (vi : Nat → Int32) (kK kV : Nat → Nat) (R : Room) (Q : State → Prop) (A : Nat → Prop) (hR : R = room_1) (hQ : Q = lw_Z below #[Value.ref b] s) (hAe : A = fun q => s.heap.size ≤ q) (hx : p.tables.exec = Jvm.exec) (hb : c.code = code) (hr : meth.sig.returnType = ret) (hml : c.maxLocals = 7) (hown : s.vm.findClass RL = some m.cls) (htg : ∀ w ∈ xg, w.before #[Value.ref b] s = true) (hbl : b < s.heap.size) (hbA : ¬ A b) (hlocks : meth.locks = false) (hK : xK D T s) (hA : ∀ q : Nat, s.heap.size ≤ q → A q) (hT : xT kK kV A s s.heap) (hZt : xZ2 A s s.heap) (hX : va_X b 6 xs s s.heap) (x1 x2 x3 x4 x5 : Int32) (hx1 : xs 1 = x1) (hx2 : xs 2 = x2) (hx3 : xs 3 = x3) (hx4 : xs 4 = x4) (hx5 : xs 5 = x5) (H : Heap) (locs : List Loc) (ls : Array Slot) (hP : va_P D vwCl [((a 0), .inr (11, [.ref (ex 0), .ref (a 2), .ref (ex 1), .ref (ex 2), .ref (ex 3), .ref (ex 4), .ref (ex 5), .ref (ex 6), .ref (ex 7), .ref (ex 8), .ref (ex 9), .ref (ex 10), .ref (ex 11), .ref (ex 12), .int 0])), ((a 1), .inr (12, ((.int 0) :: (.ref (ex 13)) :: (.int 0) :: (.int 0) :: (.int 0) :: (.int 0) :: (.ref (a 3)) :: (.ref (ex 14)) :: (.ref (ex 15)) :: (.ref (ex 16)) :: (.ref (ex 17)) :: (.int 0) :: (.int 0) :: (.int 0) :: (.int 0) :: (.int 0) :: (.int 0) :: (.long 0) :: (.int 0) :: (.int 0) :: (.int 0) :: (.ref (ex 18)) :: (.ref (ex 19)) :: (.int 0) :: (.ref (ex 20)) :: (.int (-1)) :: (.int 0) :: (.int 0) :: (.int 0) :: (.int 0) :: (.int 0) :: (.int 0) :: (.ref (ex 21)) :: (.int 0) :: (.ref (ex 22)) :: (.int 0) :: (.int 0) :: (.int 0) :: (.int 0) :: (.int 0) :: (.ref (ex 23)) :: (.ref (ex 24)) :: (.ref (ex 25)) :: (.ref (ex 26)) :: []))), ((a 2), .inr (7, [.int 0, .int 0, .ref (ex 27), .ref (ex 28), .ref (ex 29), .ref (ex 30), .ref (ex 31), .ref (ex 32), .ref (ex 33), .ref (ex 34), .ref (ex 35), .ref (ex 36)])), ((a 3), .inl (T 1, 2187, .inl (fun _ => 0)))] H) (hD : va_D A [((a 0), .inr (11, [.ref (ex 0), .ref (a 2), .ref (ex 1), .ref (ex 2), .ref (ex 3), .ref (ex 4), .ref (ex 5), .ref (ex 6), .ref (ex 7), .ref (ex 8), .ref (ex 9), .ref (ex 10), .ref (ex 11), .ref (ex 12), .int 0])), ((a 1), .inr (12, ((.int 0) :: (.ref (ex 13)) :: (.int 0) :: (.int 0) :: (.int 0) :: (.int 0) :: (.ref (a 3)) :: (.ref (ex 14)) :: (.ref (ex 15)) :: (.ref (ex 16)) :: (.ref (ex 17)) :: (.int 0) :: (.int 0) :: (.int 0) :: (.int 0) :: (.int 0) :: (.int 0) :: (.long 0) :: (.int 0) :: (.int 0) :: (.int 0) :: (.ref (ex 18)) :: (.ref (ex 19)) :: (.int 0) :: (.ref (ex 20)) :: (.int (-1)) :: (.int 0) :: (.int 0) :: (.int 0) :: (.int 0) :: (.int 0) :: (.int 0) :: (.ref (ex 21)) :: (.int 0) :: (.ref (ex 22)) :: (.int 0) :: (.int 0) :: (.int 0) :: (.int 0) :: (.int 0) :: (.ref (ex 23)) :: (.ref (ex 24)) :: (.ref (ex 25)) :: (.ref (ex 26)) :: []))), ((a 2), .inr (7, [.int 0, .int 0, .ref (ex 27), .ref (ex 28), .ref (ex 29), .ref (ex 30), .ref (ex 31), .ref (ex 32), .ref (ex 33), .ref (ex 34), .ref (ex 35), .ref (ex 36)])), ((a 3), .inl (T 1, 2187, .inl (fun _ => 0)))]) (hS : va_S A s.heap H locs) (hl : lv_has ls 7 [(4, .int 0), (3, .ref (ex 37)), (2, .ref (a 1)), (1, .ref (a 0)), (0, .ref b)]) : W p l e R s m #[Value.ref b] below meth c H locs 172 22099 Q (F0 m 389 ls []) := by
  refine lv_aload_n hx hb dL_law_389 rfl (lv_at hl 3 rfl) ?_
  refine lv_aload_n hx hb dL_law_390 rfl (lv_at hl 4 rfl) ?_
  refine lv_iload hx hb dL_law_391 (lv_at hl 0 rfl) ?_
  refine lv_iconst (v := 1) hx hb dL_law_393 (by decide) ?_
  refine lv_iadd hx hb dL_law_394 ?_
  refine xz_i 1 (by decide) ?_
  refine va_sld hx hb hX hbl hbA hS (vp_in_nI (n := 1) (by decide) (by decide)) dL_law_395 ?_
  refine xz_i x1 hx1 ?_
  refine lv_aload_n hx hb dL_law_396 rfl (lv_at hl 4 rfl) ?_
  refine lv_iload hx hb dL_law_397 (lv_at hl 0 rfl) ?_
  refine lv_iconst (v := 2) hx hb dL_law_399 (by decide) ?_
  refine lv_iadd hx hb dL_law_400 ?_
  refine xz_i 2 (by decide) ?_
  refine va_sld hx hb hX hbl hbA hS (vp_in_nI (n := 2) (by decide) (by decide)) dL_law_401 ?_
  refine xz_i x2 hx2 ?_
  refine lv_aload_n hx hb dL_law_402 rfl (lv_at hl 1 rfl) ?_
  have hPc := hP.sub (ws' := (pre_L_soul T (xa [(a 0), (a 2)]) (xa [(ex 0), (ex 1), (ex 2), (ex 3), (ex 4), (ex 5), (ex 6), (ex 7), (ex 8), (ex 9), (ex 10), (ex 11), (ex 12), (ex 27), (ex 28), (ex 29), (ex 30), (ex 31), (ex 32), (ex 33), (ex 34), (ex 35), (ex 36), (ex 37)]) (xf []) (xh []) (xv [x1, x2]))) [0, 2] rfl
  have hDc := hD.sub (ws' := (pre_L_soul T (xa [(a 0), (a 2)]) (xa [(ex 0), (ex 1), (ex 2), (ex 3), (ex 4), (ex 5), (ex 6), (ex 7), (ex 8), (ex 9), (ex 10), (ex 11), (ex 12), (ex 27), (ex 28), (ex 29), (ex 30), (ex 31), (ex 32), (ex 33), (ex 34), (ex 35), (ex 36), (ex 37)]) (xf []) (xh []) (xv [x1, x2]))) [0, 2] (by decide) rfl
  have hFc := va_free (wc := (pre_L_soul T (xa [(a 0), (a 2)]) (xa [(ex 0), (ex 1), (ex 2), (ex 3), (ex 4), (ex 5), (ex 6), (ex 7), (ex 8), (ex 9), (ex 10), (ex 11), (ex 12), (ex 27), (ex 28), (ex 29), (ex 30), (ex 31), (ex 32), (ex 33), (ex 34), (ex 35), (ex 36), (ex 37)]) (xf []) (xh []) (xv [x1, x2]))) hD hS hA [0, 2] rfl
  refine va_calli (vx_runSW (As := [.ref (a 0), .int x1, .int x2, .ref (ex 37)]) (rest := []) ⟨hx, hb, hml, hown, htg⟩ (c_L_soul l hlt D T (xa [(a 0), (a 2)]) (xa [(ex 0), (ex 1), (ex 2), (ex 3), (ex 4), (ex 5), (ex 6), (ex 7), (ex 8), (ex 9), (ex 10), (ex 11), (ex 12), (ex 27), (ex 28), (ex 29), (ex 30), (ex 31), (ex 32), (ex 33), (ex 34), (ex 35), (ex 36), (ex 37)]) (xf []) (xh []) (xv [x1, x2]) H.size) ⟨⟨rfl, rfl, (by rw [hR]; exact Nat.le_of_ble_eq_true rfl), (by rw [hR]; exact Nat.le_of_ble_eq_true rfl), pay_in htg (xg_okW kw_soulW), List.mem_cons_self⟩, htg _ kw_soulW, htg _ kw_0, by decide +kernel, fun sig h => by cases h; rfl, htg _ kw_1285, htg _ kw_1286⟩ (xpreSy hK hPc hDc hZt hFc hS) rfl rfl hl.1 rfl (lv_room (Nat.le_of_ble_eq_true rfl)) dL_law_403 ⟨by rw [hR]; exact Nat.le_of_ble_eq_true rfl, by rw [hR]; exact Nat.le_of_ble_eq_true rfl⟩) hS (fun q _ h => hFc q h) hFc (fun r9 u t H1 locs ht hvm hw hB hz1 hk1 hS => ?_)
  obtain ⟨hP, hD⟩ := va_join (wr := [((a 1), .inr (12, ((.int 0) :: (.ref (ex 13)) :: (.int 0) :: (.int 0) :: (.int 0) :: (.int 0) :: (.ref (a 3)) :: (.ref (ex 14)) :: (.ref (ex 15)) :: (.ref (ex 16)) :: (.ref (ex 17)) :: (.int 0) :: (.int 0) :: (.int 0) :: (.int 0) :: (.int 0) :: (.int 0) :: (.long 0) :: (.int 0) :: (.int 0) :: (.int 0) :: (.ref (ex 18)) :: (.ref (ex 19)) :: (.int 0) :: (.ref (ex 20)) :: (.int (-1)) :: (.int 0) :: (.int 0) :: (.int 0) :: (.int 0) :: (.int 0) :: (.int 0) :: (.ref (ex 21)) :: (.int 0) :: (.ref (ex 22)) :: (.int 0) :: (.int 0) :: (.int 0) :: (.int 0) :: (.int 0) :: (.ref (ex 23)) :: (.ref (ex 24)) :: (.ref (ex 25)) :: (.ref (ex 26)) :: []))), ((a 3), .inl (T 1, 2187, .inl (fun _ => 0)))]) (w1 := []) hP hD [0, 2] [1, 3] rfl rfl (by decide) (by decide) hk1 hFc (show va_P D vwCl [] H1 from fun k q h => by simp at h) (show va_D _ [] from ⟨fun i j p q h => by simp at h, fun k q h => by simp at h⟩)
  subst hw
  clear hPc hDc hFc hk1 hz1 hvm ht
  generalize H1 = H at hP hS ⊢
  replace hP : va_P D vwCl [((a 1), .inr (12, ((.int 0) :: (.ref (ex 13)) :: (.int 0) :: (.int 0) :: (.int 0) :: (.int 0) :: (.ref (a 3)) :: (.ref (ex 14)) :: (.ref (ex 15)) :: (.ref (ex 16)) :: (.ref (ex 17)) :: (.int 0) :: (.int 0) :: (.int 0) :: (.int 0) :: (.int 0) :: (.int 0) :: (.long 0) :: (.int 0) :: (.int 0) :: (.int 0) :: (.ref (ex 18)) :: (.ref (ex 19)) :: (.int 0) :: (.ref (ex 20)) :: (.int (-1)) :: (.int 0) :: (.int 0) :: (.int 0) :: (.int 0) :: (.int 0) :: (.int 0) :: (.ref (ex 21)) :: (.int 0) :: (.ref (ex 22)) :: (.int 0) :: (.int 0) :: (.int 0) :: (.int 0) :: (.int 0) :: (.ref (ex 23)) :: (.ref (ex 24)) :: (.ref (ex 25)) :: (.ref (ex 26)) :: []))), ((a 3), .inl (T 1, 2187, .inl (fun _ => 0)))] H := hP
  replace hD : va_D A [((a 1), .inr (12, ((.int 0) :: (.ref (ex 13)) :: (.int 0) :: (.int 0) :: (.int 0) :: (.int 0) :: (.ref (a 3)) :: (.ref (ex 14)) :: (.ref (ex 15)) :: (.ref (ex 16)) :: (.ref (ex 17)) :: (.int 0) :: (.int 0) :: (.int 0) :: (.int 0) :: (.int 0) :: (.int 0) :: (.long 0) :: (.int 0) :: (.int 0) :: (.int 0) :: (.ref (ex 18)) :: (.ref (ex 19)) :: (.int 0) :: (.ref (ex 20)) :: (.int (-1)) :: (.int 0) :: (.int 0) :: (.int 0) :: (.int 0) :: (.int 0) :: (.int 0) :: (.ref (ex 21)) :: (.int 0) :: (.ref (ex 22)) :: (.int 0) :: (.int 0) :: (.int 0) :: (.int 0) :: (.int 0) :: (.ref (ex 23)) :: (.ref (ex 24)) :: (.ref (ex 25)) :: (.ref (ex 26)) :: []))), ((a 3), .inl (T 1, 2187, .inl (fun _ => 0)))] := hD
  refine lv_istore (lv' := [(5, .int 1), (4, .int 0), (3, .ref (ex 37)), (2, .ref (a 1)), (1, .ref (a 0)), (0, .ref b)]) hx hb dL_law_406 hl (by decide) rfl (fun ls hl => ?_)
  refine lv_aload_n hx hb dL_law_408 rfl (lv_at hl 3 rfl) ?_
  refine lv_aload_n hx hb dL_law_409 rfl (lv_at hl 5 rfl) ?_
  refine lv_iload hx hb dL_law_410 (lv_at hl 1 rfl) ?_
  refine lv_iconst (v := 1) hx hb dL_law_412 (by decide) ?_
  refine lv_iadd hx hb dL_law_413 ?_
  refine xz_i 1 (by decide) ?_
  refine va_sld hx hb hX hbl hbA hS (vp_in_nI (n := 1) (by decide) (by decide)) dL_law_414 ?_
  refine xz_i x1 hx1 ?_
  refine lv_aload_n hx hb dL_law_415 rfl (lv_at hl 5 rfl) ?_
  refine lv_iload hx hb dL_law_416 (lv_at hl 1 rfl) ?_
  refine lv_iconst (v := 2) hx hb dL_law_418 (by decide) ?_
  refine lv_iadd hx hb dL_law_419 ?_
  refine xz_i 2 (by decide) ?_
  refine va_sld hx hb hX hbl hbA hS (vp_in_nI (n := 2) (by decide) (by decide)) dL_law_420 ?_
  refine xz_i x2 hx2 ?_
  have hPc := hP.sub (ws' := (pre_X12_soul_2 T (xa [(a 1), (a 3)]) (xa [(ex 13), (ex 14), (ex 15), (ex 16), (ex 17), (ex 18), (ex 19), (ex 20), (ex 21), (ex 22), (ex 23), (ex 24), (ex 25), (ex 26)]) (xf []) (xh []) (xv [x1, x2]))) [0, 1] rfl
  have hDc := hD.sub (ws' := (pre_X12_soul_2 T (xa [(a 1), (a 3)]) (xa [(ex 13), (ex 14), (ex 15), (ex 16), (ex 17), (ex 18), (ex 19), (ex 20), (ex 21), (ex 22), (ex 23), (ex 24), (ex 25), (ex 26)]) (xf []) (xh []) (xv [x1, x2]))) [0, 1] (by decide) rfl
  have hFc := va_free (wc := (pre_X12_soul_2 T (xa [(a 1), (a 3)]) (xa [(ex 13), (ex 14), (ex 15), (ex 16), (ex 17), (ex 18), (ex 19), (ex 20), (ex 21), (ex 22), (ex 23), (ex 24), (ex 25), (ex 26)]) (xf []) (xh []) (xv [x1, x2]))) hD hS hA [0, 1] rfl
  refine va_calli (va_runV (As := [.int x1, .int x2]) (rest := []) ⟨hx, hb, hml, hown, htg⟩ (c_X12_soul_2 l D T (xa [(a 1), (a 3)]) (xa [(ex 13), (ex 14), (ex 15), (ex 16), (ex 17), (ex 18), (ex 19), (ex 20), (ex 21), (ex 22), (ex 23), (ex 24), (ex 25), (ex 26)]) (xf []) (xh []) (xv [x1, x2]) H.size) ⟨callB_of 2 htg (xg_ok kw_1648) rfl rfl rfl (htg _ kw_17) (htg _ kw_1645) (by decide +kernel) ⟨by rw [hR]; exact Nat.le_of_ble_eq_true rfl, by rw [hR]; exact Nat.le_of_ble_eq_true rfl⟩, htg _ kw_1646, htg _ kw_1647⟩ (xpreV hK hPc hDc (va_recv hK.1 hPc (ci := 12) (q0 := 0) rfl rfl)) rfl rfl hl.1 rfl (lv_room (Nat.le_of_ble_eq_true rfl)) dL_law_421 ⟨by rw [hR]; exact Nat.le_of_ble_eq_true rfl, by rw [hR]; exact Nat.le_of_ble_eq_true rfl⟩) hS (fun q _ h => hFc q h) hFc (fun r9 u t H1 locs ht hvm hw hB hz1 hk1 hS => ?_)
  obtain ⟨bk, fik, flk, vik, hP1, hD1, hGk⟩ := hB
  rw [ht] at hP1
  obtain ⟨hP, hD⟩ := va_join (wr := []) (w1 := [((a 1), .inr (12, ((.int 1) :: (.ref (ex 13)) :: (.int 0) :: (.int 0) :: (.int 0) :: (.int 0) :: (.ref (a 3)) :: (.ref (ex 14)) :: (.ref (ex 15)) :: (.ref (ex 16)) :: (.ref (ex 17)) :: (.int 0) :: (.int 0) :: (.int 0) :: (.int 0) :: (.int 0) :: (.int 0) :: (.long 0) :: (.int 0) :: (.int 0) :: (.int 0) :: (.ref (ex 18)) :: (.ref (ex 19)) :: (.int 0) :: (.ref (ex 20)) :: (.int (-1)) :: (.int 0) :: (.int 0) :: (.int 0) :: (.int 0) :: (.int 0) :: (.int 0) :: (.ref (ex 21)) :: (.int 0) :: (.ref (ex 22)) :: (.int 0) :: (.int 0) :: (.int 0) :: (.int 0) :: (.int 0) :: (.ref (ex 23)) :: (.ref (ex 24)) :: (.ref (ex 25)) :: (.ref (ex 26)) :: []))), ((a 3), .inl (T 1, 2187, .inl (fun _ => 0)))]) hP hD [0, 1] [] rfl rfl (by decide) (by decide) hk1 hFc hP1 hD1
  subst hw
  clear hPc hDc hFc hP1 hD1 hk1 hz1 hvm ht
  generalize H1 = H at hP hS ⊢
  replace hP : va_P D vwCl [((a 1), .inr (12, ((.int 1) :: (.ref (ex 13)) :: (.int 0) :: (.int 0) :: (.int 0) :: (.int 0) :: (.ref (a 3)) :: (.ref (ex 14)) :: (.ref (ex 15)) :: (.ref (ex 16)) :: (.ref (ex 17)) :: (.int 0) :: (.int 0) :: (.int 0) :: (.int 0) :: (.int 0) :: (.int 0) :: (.long 0) :: (.int 0) :: (.int 0) :: (.int 0) :: (.ref (ex 18)) :: (.ref (ex 19)) :: (.int 0) :: (.ref (ex 20)) :: (.int (-1)) :: (.int 0) :: (.int 0) :: (.int 0) :: (.int 0) :: (.int 0) :: (.int 0) :: (.ref (ex 21)) :: (.int 0) :: (.ref (ex 22)) :: (.int 0) :: (.int 0) :: (.int 0) :: (.int 0) :: (.int 0) :: (.ref (ex 23)) :: (.ref (ex 24)) :: (.ref (ex 25)) :: (.ref (ex 26)) :: []))), ((a 3), .inl (T 1, 2187, .inl (fun _ => 0)))] H := hP
  replace hD : va_D A [((a 1), .inr (12, ((.int 1) :: (.ref (ex 13)) :: (.int 0) :: (.int 0) :: (.int 0) :: (.int 0) :: (.ref (a 3)) :: (.ref (ex 14)) :: (.ref (ex 15)) :: (.ref (ex 16)) :: (.ref (ex 17)) :: (.int 0) :: (.int 0) :: (.int 0) :: (.int 0) :: (.int 0) :: (.int 0) :: (.long 0) :: (.int 0) :: (.int 0) :: (.int 0) :: (.ref (ex 18)) :: (.ref (ex 19)) :: (.int 0) :: (.ref (ex 20)) :: (.int (-1)) :: (.int 0) :: (.int 0) :: (.int 0) :: (.int 0) :: (.int 0) :: (.int 0) :: (.ref (ex 21)) :: (.int 0) :: (.ref (ex 22)) :: (.int 0) :: (.int 0) :: (.int 0) :: (.int 0) :: (.int 0) :: (.ref (ex 23)) :: (.ref (ex 24)) :: (.ref (ex 25)) :: (.ref (ex 26)) :: []))), ((a 3), .inl (T 1, 2187, .inl (fun _ => 0)))] := hD
  refine lv_istore (lv' := [(6, .int 0), (5, .int 1), (4, .int 0), (3, .ref (ex 37)), (2, .ref (a 1)), (1, .ref (a 0)), (0, .ref b)]) hx hb dL_law_424 hl (by decide) rfl (fun ls hl => ?_)
  refine lv_aload_n hx hb dL_law_426 rfl (lv_at hl 4 rfl) ?_
  have hPc := hP.sub (ws' := (pre_X12_thrown T (xa [(a 1)]) (xa [(ex 13), (a 3), (ex 14), (ex 15), (ex 16), (ex 17), (ex 18), (ex 19), (ex 20), (ex 21), (ex 22), (ex 23), (ex 24), (ex 25), (ex 26)]) (xf []) (xh []) (xv []))) [0] rfl
  have hDc := hD.sub (ws' := (pre_X12_thrown T (xa [(a 1)]) (xa [(ex 13), (a 3), (ex 14), (ex 15), (ex 16), (ex 17), (ex 18), (ex 19), (ex 20), (ex 21), (ex 22), (ex 23), (ex 24), (ex 25), (ex 26)]) (xf []) (xh []) (xv []))) [0] (by decide) rfl
  have hFc := va_free (wc := (pre_X12_thrown T (xa [(a 1)]) (xa [(ex 13), (a 3), (ex 14), (ex 15), (ex 16), (ex 17), (ex 18), (ex 19), (ex 20), (ex 21), (ex 22), (ex 23), (ex 24), (ex 25), (ex 26)]) (xf []) (xh []) (xv []))) hD hS hA [0] rfl
  refine va_calli (va_runV (As := []) (rest := []) ⟨hx, hb, hml, hown, htg⟩ (c_X12_thrown l D T (xa [(a 1)]) (xa [(ex 13), (a 3), (ex 14), (ex 15), (ex 16), (ex 17), (ex 18), (ex 19), (ex 20), (ex 21), (ex 22), (ex 23), (ex 24), (ex 25), (ex 26)]) (xf []) (xh []) (xv []) H.size) ⟨callB_of 0 htg (xg_ok kw_1361) rfl rfl rfl (htg _ kw_17) (htg _ kw_1358) (by decide +kernel) ⟨by rw [hR]; exact Nat.le_of_ble_eq_true rfl, by rw [hR]; exact Nat.le_of_ble_eq_true rfl⟩, htg _ kw_1359, htg _ kw_1360⟩ (xpreV hK hPc hDc (va_recv hK.1 hPc (ci := 12) (q0 := 0) rfl rfl)) rfl rfl hl.1 rfl (lv_room (Nat.le_of_ble_eq_true rfl)) dL_law_427 ⟨by rw [hR]; exact Nat.le_of_ble_eq_true rfl, by rw [hR]; exact Nat.le_of_ble_eq_true rfl⟩) hS (fun q _ h => hFc q h) hFc (fun r9 u t H1 locs ht hvm hw hB hz1 hk1 hS => ?_)
  obtain ⟨bk_1, fik_1, flk_1, vik_1, hP1, hD1, hGk_1⟩ := hB
  rw [ht] at hP1
  obtain ⟨hP, hD⟩ := va_join (wr := [((a 3), .inl (T 1, 2187, .inl (fun _ => 0)))]) (w1 := []) hP hD [0] [1] rfl rfl (by decide) (by decide) hk1 hFc hP1 hD1
  subst hw
  clear hPc hDc hFc hP1 hD1 hk1 hz1 hvm ht
  generalize H1 = H at hP hS ⊢
  replace hP : va_P D vwCl [((a 3), .inl (T 1, 2187, .inl (fun _ => 0)))] H := hP
  replace hD : va_D A [((a 3), .inl (T 1, 2187, .inl (fun _ => 0)))] := hD
  refine lv_iload hx hb dL_law_430 (lv_at hl 1 rfl) ?_
  refine lv_icmp_eq (tgt := 437) hx hb dL_law_432 (by decide) (fun _ => ?_) (fun c => absurd (by decide) c)
  refine lv_iload hx hb dL_law_437 (lv_at hl 1 rfl) ?_
  refine lv_if_ne (tgt := 454) hx hb dL_law_439 (by decide) (fun _ => ?_) (fun c => absurd c (by decide))
  refine lv_goto (tgt := 1466) hx hb dL_law_454 (by decide) ?_
  refine lv_iinc (v := 6) (lv' := [(4, .int 6), (6, .int 0), (5, .int 1), (3, .ref (ex 37)), (2, .ref (a 1)), (1, .ref (a 0)), (0, .ref b)]) hx hb dL_law_1466 hl (k := 2) rfl (by decide) (by decide) rfl (fun ls hl => ?_)
  refine lv_goto (tgt := 23) hx hb dL_law_1469 (by decide) ?_
  refine lv_iload hx hb dL_law_23 (lv_at hl 0 rfl) ?_
  refine lv_aload_n hx hb dL_law_25 rfl (lv_at hl 6 rfl) ?_
  refine va_slen hx hb hX hbl hbA hS dL_law_26 ?_
  refine xz_i 6 rfl ?_
  refine lv_bipush (v := 6) hx hb dL_law_27 (by decide) ?_
  refine lv_isub hx hb dL_law_29 ?_
  refine xz_i 0 (by decide) ?_
  refine lv_icmp_gt (tgt := 1472) hx hb dL_law_30 (by decide) (fun _ => ?_) (fun c => absurd (by decide) c)
  refine lv_iconst (v := 1) hx hb dL_law_1472 (by decide) ?_
  refine va_forget (fun q hq => by have h9 := hS.2.2 q hq; rw [hAe] at h9; exact h9) ?_
  refine W.widen (k := 600002) (n := 7302232) (Nat.le_of_ble_eq_true rfl) (Nat.le_of_ble_eq_true rfl) ?_
  subst hR
  rw [hQ]
  exact lw_ret hx hb hr hlocks dL_law_1473
set_option maxHeartbeats 4000000 in
set_option maxRecDepth 100000 in
theorem lw_worth {p : Program} {e : Env} {s : State} {m : MethodId} {below : List Frame} {meth : Method} {c : Code} (l : Launch) (hlt : l.stackTraces = false) {b : Nat} {xs : Nat → Int32} (D : va_G) (T : Nat → ClassId) (a ex : Nat → Nat) (fi : Nat → Nat → Int32) (fl : Nat → Nat → Int64) (vi : Nat → Int32) (kK kV : Nat → Nat) (R : Room) (Q : State → Prop) (A : Nat → Prop) (hR : R = room_1) (hQ : Q = lw_Z below #[Value.ref b] s) (hAe : A = fun q => s.heap.size ≤ q) (hx : p.tables.exec = Jvm.exec) (hb : c.code = code) (hr : meth.sig.returnType = ret) (hml : c.maxLocals = 7) (hown : s.vm.findClass RL = some m.cls) (htg : ∀ w ∈ xg, w.before #[Value.ref b] s = true) (hbl : b < s.heap.size) (hbA : ¬ A b) (hlocks : meth.locks = false) (hK : xK D T s) (hA : ∀ q : Nat, s.heap.size ≤ q → A q) (hT : xT kK kV A s s.heap) (hZt : xZ2 A s s.heap) (hX : va_X b 6 xs s s.heap) (x1 x2 x3 x4 x5 : Int32) (hx1 : xs 1 = x1) (hx2 : xs 2 = x2) (hx3 : xs 3 = x3) (hx4 : xs 4 = x4) (hx5 : xs 5 = x5) (H : Heap) (locs : List Loc) (ls : Array Slot) (hP : va_P D vwCl [((a 0), .inr (11, [.ref (ex 0), .ref (a 2), .ref (ex 1), .ref (ex 2), .ref (ex 3), .ref (ex 4), .ref (ex 5), .ref (ex 6), .ref (ex 7), .ref (ex 8), .ref (ex 9), .ref (ex 10), .ref (ex 11), .ref (ex 12), .int 0])), ((a 1), .inr (12, ((.int 0) :: (.ref (ex 13)) :: (.int 0) :: (.int 0) :: (.int 0) :: (.int 0) :: (.ref (a 3)) :: (.ref (ex 14)) :: (.ref (ex 15)) :: (.ref (ex 16)) :: (.ref (ex 17)) :: (.int 0) :: (.int 0) :: (.int 0) :: (.int 0) :: (.int 0) :: (.int 0) :: (.long 0) :: (.int 0) :: (.int 0) :: (.int 0) :: (.ref (ex 18)) :: (.ref (ex 19)) :: (.int 0) :: (.ref (ex 20)) :: (.int (-1)) :: (.int 0) :: (.int 0) :: (.int 0) :: (.int 0) :: (.int 0) :: (.int 0) :: (.ref (ex 21)) :: (.int 0) :: (.ref (ex 22)) :: (.int 0) :: (.int 0) :: (.int 0) :: (.int 0) :: (.int 0) :: (.ref (ex 23)) :: (.ref (ex 24)) :: (.ref (ex 25)) :: (.ref (ex 26)) :: []))), ((a 2), .inr (7, [.int 0, .int 0, .ref (ex 27), .ref (ex 28), .ref (ex 29), .ref (ex 30), .ref (ex 31), .ref (ex 32), .ref (ex 33), .ref (ex 34), .ref (ex 35), .ref (ex 36)])), ((a 3), .inl (T 1, 2187, .inl (fun _ => 0)))] H) (hD : va_D A [((a 0), .inr (11, [.ref (ex 0), .ref (a 2), .ref (ex 1), .ref (ex 2), .ref (ex 3), .ref (ex 4), .ref (ex 5), .ref (ex 6), .ref (ex 7), .ref (ex 8), .ref (ex 9), .ref (ex 10), .ref (ex 11), .ref (ex 12), .int 0])), ((a 1), .inr (12, ((.int 0) :: (.ref (ex 13)) :: (.int 0) :: (.int 0) :: (.int 0) :: (.int 0) :: (.ref (a 3)) :: (.ref (ex 14)) :: (.ref (ex 15)) :: (.ref (ex 16)) :: (.ref (ex 17)) :: (.int 0) :: (.int 0) :: (.int 0) :: (.int 0) :: (.int 0) :: (.int 0) :: (.long 0) :: (.int 0) :: (.int 0) :: (.int 0) :: (.ref (ex 18)) :: (.ref (ex 19)) :: (.int 0) :: (.ref (ex 20)) :: (.int (-1)) :: (.int 0) :: (.int 0) :: (.int 0) :: (.int 0) :: (.int 0) :: (.int 0) :: (.ref (ex 21)) :: (.int 0) :: (.ref (ex 22)) :: (.int 0) :: (.int 0) :: (.int 0) :: (.int 0) :: (.int 0) :: (.ref (ex 23)) :: (.ref (ex 24)) :: (.ref (ex 25)) :: (.ref (ex 26)) :: []))), ((a 2), .inr (7, [.int 0, .int 0, .ref (ex 27), .ref (ex 28), .ref (ex 29), .ref (ex 30), .ref (ex 31), .ref (ex 32), .ref (ex 33), .ref (ex 34), .ref (ex 35), .ref (ex 36)])), ((a 3), .inl (T 1, 2187, .inl (fun _ => 0)))]) (hS : va_S A s.heap H locs) (hl : lv_has ls 7 [(4, .int 0), (3, .ref (ex 37)), (2, .ref (a 1)), (1, .ref (a 0)), (0, .ref b)]) : W p l e R s m #[Value.ref b] below meth c H locs 172 22099 Q (F0 m 457 ls []) := by
  refine lv_aload_n hx hb dL_law_457 rfl (lv_at hl 3 rfl) ?_
  refine lv_aload_n hx hb dL_law_458 rfl (lv_at hl 4 rfl) ?_
  refine lv_iload hx hb dL_law_459 (lv_at hl 0 rfl) ?_
  refine lv_iconst (v := 1) hx hb dL_law_461 (by decide) ?_
  refine lv_iadd hx hb dL_law_462 ?_
  refine xz_i 1 (by decide) ?_
  refine va_sld hx hb hX hbl hbA hS (vp_in_nI (n := 1) (by decide) (by decide)) dL_law_463 ?_
  refine xz_i x1 hx1 ?_
  refine lv_aload_n hx hb dL_law_464 rfl (lv_at hl 4 rfl) ?_
  refine lv_iload hx hb dL_law_465 (lv_at hl 0 rfl) ?_
  refine lv_iconst (v := 2) hx hb dL_law_467 (by decide) ?_
  refine lv_iadd hx hb dL_law_468 ?_
  refine xz_i 2 (by decide) ?_
  refine va_sld hx hb hX hbl hbA hS (vp_in_nI (n := 2) (by decide) (by decide)) dL_law_469 ?_
  refine xz_i x2 hx2 ?_
  have hPc := hP.sub (ws' := (pre_X11_worth T (xa [(a 0), (a 2)]) (xa [(ex 0), (ex 1), (ex 2), (ex 3), (ex 4), (ex 5), (ex 6), (ex 7), (ex 8), (ex 9), (ex 10), (ex 11), (ex 12), (ex 27), (ex 28), (ex 29), (ex 30), (ex 31), (ex 32), (ex 33), (ex 34), (ex 35), (ex 36)]) (xf []) (xh []) (xv [x1, x2]))) [0, 2] rfl
  have hDc := hD.sub (ws' := (pre_X11_worth T (xa [(a 0), (a 2)]) (xa [(ex 0), (ex 1), (ex 2), (ex 3), (ex 4), (ex 5), (ex 6), (ex 7), (ex 8), (ex 9), (ex 10), (ex 11), (ex 12), (ex 27), (ex 28), (ex 29), (ex 30), (ex 31), (ex 32), (ex 33), (ex 34), (ex 35), (ex 36)]) (xf []) (xh []) (xv [x1, x2]))) [0, 2] (by decide) rfl
  have hFc := va_free (wc := (pre_X11_worth T (xa [(a 0), (a 2)]) (xa [(ex 0), (ex 1), (ex 2), (ex 3), (ex 4), (ex 5), (ex 6), (ex 7), (ex 8), (ex 9), (ex 10), (ex 11), (ex 12), (ex 27), (ex 28), (ex 29), (ex 30), (ex 31), (ex 32), (ex 33), (ex 34), (ex 35), (ex 36)]) (xf []) (xh []) (xv [x1, x2]))) hD hS hA [0, 2] rfl
  refine va_calli (va_runV (As := [.int x1, .int x2]) (rest := []) ⟨hx, hb, hml, hown, htg⟩ (c_X11_worth l D T (xa [(a 0), (a 2)]) (xa [(ex 0), (ex 1), (ex 2), (ex 3), (ex 4), (ex 5), (ex 6), (ex 7), (ex 8), (ex 9), (ex 10), (ex 11), (ex 12), (ex 27), (ex 28), (ex 29), (ex 30), (ex 31), (ex 32), (ex 33), (ex 34), (ex 35), (ex 36)]) (xf []) (xh []) (xv [x1, x2]) H.size) ⟨callB_of 2 htg (xg_ok kw_763) rfl rfl rfl (htg _ kw_1) (htg _ kw_760) (by decide +kernel) ⟨by rw [hR]; exact Nat.le_of_ble_eq_true rfl, by rw [hR]; exact Nat.le_of_ble_eq_true rfl⟩, htg _ kw_761, htg _ kw_762⟩ (xpreV hK hPc hDc (va_recv hK.1 hPc (ci := 11) (q0 := 0) rfl rfl)) rfl rfl hl.1 rfl (lv_room (Nat.le_of_ble_eq_true rfl)) dL_law_470 ⟨by rw [hR]; exact Nat.le_of_ble_eq_true rfl, by rw [hR]; exact Nat.le_of_ble_eq_true rfl⟩) hS (fun q _ h => hFc q h) hFc (fun r9 u t H1 locs ht hvm hw hB hz1 hk1 hS => ?_)
  obtain ⟨bk, fik, flk, vik, hP1, hD1, hGk⟩ := hB
  rw [ht] at hP1
  obtain ⟨hP, hD⟩ := va_join (wr := [((a 1), .inr (12, ((.int 0) :: (.ref (ex 13)) :: (.int 0) :: (.int 0) :: (.int 0) :: (.int 0) :: (.ref (a 3)) :: (.ref (ex 14)) :: (.ref (ex 15)) :: (.ref (ex 16)) :: (.ref (ex 17)) :: (.int 0) :: (.int 0) :: (.int 0) :: (.int 0) :: (.int 0) :: (.int 0) :: (.long 0) :: (.int 0) :: (.int 0) :: (.int 0) :: (.ref (ex 18)) :: (.ref (ex 19)) :: (.int 0) :: (.ref (ex 20)) :: (.int (-1)) :: (.int 0) :: (.int 0) :: (.int 0) :: (.int 0) :: (.int 0) :: (.int 0) :: (.ref (ex 21)) :: (.int 0) :: (.ref (ex 22)) :: (.int 0) :: (.int 0) :: (.int 0) :: (.int 0) :: (.int 0) :: (.ref (ex 23)) :: (.ref (ex 24)) :: (.ref (ex 25)) :: (.ref (ex 26)) :: []))), ((a 3), .inl (T 1, 2187, .inl (fun _ => 0)))]) (w1 := []) hP hD [0, 2] [1, 3] rfl rfl (by decide) (by decide) hk1 hFc hP1 hD1
  subst hw
  clear hPc hDc hFc hP1 hD1 hk1 hz1 hvm ht
  generalize H1 = H at hP hS ⊢
  replace hP : va_P D vwCl [((a 1), .inr (12, ((.int 0) :: (.ref (ex 13)) :: (.int 0) :: (.int 0) :: (.int 0) :: (.int 0) :: (.ref (a 3)) :: (.ref (ex 14)) :: (.ref (ex 15)) :: (.ref (ex 16)) :: (.ref (ex 17)) :: (.int 0) :: (.int 0) :: (.int 0) :: (.int 0) :: (.int 0) :: (.int 0) :: (.long 0) :: (.int 0) :: (.int 0) :: (.int 0) :: (.ref (ex 18)) :: (.ref (ex 19)) :: (.int 0) :: (.ref (ex 20)) :: (.int (-1)) :: (.int 0) :: (.int 0) :: (.int 0) :: (.int 0) :: (.int 0) :: (.int 0) :: (.ref (ex 21)) :: (.int 0) :: (.ref (ex 22)) :: (.int 0) :: (.int 0) :: (.int 0) :: (.int 0) :: (.int 0) :: (.ref (ex 23)) :: (.ref (ex 24)) :: (.ref (ex 25)) :: (.ref (ex 26)) :: []))), ((a 3), .inl (T 1, 2187, .inl (fun _ => 0)))] H := hP
  replace hD : va_D A [((a 1), .inr (12, ((.int 0) :: (.ref (ex 13)) :: (.int 0) :: (.int 0) :: (.int 0) :: (.int 0) :: (.ref (a 3)) :: (.ref (ex 14)) :: (.ref (ex 15)) :: (.ref (ex 16)) :: (.ref (ex 17)) :: (.int 0) :: (.int 0) :: (.int 0) :: (.int 0) :: (.int 0) :: (.int 0) :: (.long 0) :: (.int 0) :: (.int 0) :: (.int 0) :: (.ref (ex 18)) :: (.ref (ex 19)) :: (.int 0) :: (.ref (ex 20)) :: (.int (-1)) :: (.int 0) :: (.int 0) :: (.int 0) :: (.int 0) :: (.int 0) :: (.int 0) :: (.ref (ex 21)) :: (.int 0) :: (.ref (ex 22)) :: (.int 0) :: (.int 0) :: (.int 0) :: (.int 0) :: (.int 0) :: (.ref (ex 23)) :: (.ref (ex 24)) :: (.ref (ex 25)) :: (.ref (ex 26)) :: []))), ((a 3), .inl (T 1, 2187, .inl (fun _ => 0)))] := hD
  refine lv_aload_n hx hb dL_law_473 rfl (lv_at hl 2 rfl) ?_
  refine lv_aload_n hx hb dL_law_474 rfl (lv_at hl 4 rfl) ?_
  refine lv_iload hx hb dL_law_475 (lv_at hl 0 rfl) ?_
  refine lv_iconst (v := 1) hx hb dL_law_477 (by decide) ?_
  refine lv_iadd hx hb dL_law_478 ?_
  refine xz_i 1 (by decide) ?_
  refine va_sld hx hb hX hbl hbA hS (vp_in_nI (n := 1) (by decide) (by decide)) dL_law_479 ?_
  refine xz_i x1 hx1 ?_
  refine lv_aload_n hx hb dL_law_480 rfl (lv_at hl 4 rfl) ?_
  refine lv_iload hx hb dL_law_481 (lv_at hl 0 rfl) ?_
  refine lv_iconst (v := 2) hx hb dL_law_483 (by decide) ?_
  refine lv_iadd hx hb dL_law_484 ?_
  refine xz_i 2 (by decide) ?_
  refine va_sld hx hb hX hbl hbA hS (vp_in_nI (n := 2) (by decide) (by decide)) dL_law_485 ?_
  refine xz_i x2 hx2 ?_
  have hPc := hP.sub (ws' := (pre_X12_worth T (xa [(a 1), (a 3)]) (xa [(ex 13), (ex 14), (ex 15), (ex 16), (ex 17), (ex 18), (ex 19), (ex 20), (ex 21), (ex 22), (ex 23), (ex 24), (ex 25), (ex 26)]) (xf []) (xh []) (xv [x1, x2]))) [0, 1] rfl
  have hDc := hD.sub (ws' := (pre_X12_worth T (xa [(a 1), (a 3)]) (xa [(ex 13), (ex 14), (ex 15), (ex 16), (ex 17), (ex 18), (ex 19), (ex 20), (ex 21), (ex 22), (ex 23), (ex 24), (ex 25), (ex 26)]) (xf []) (xh []) (xv [x1, x2]))) [0, 1] (by decide) rfl
  have hFc := va_free (wc := (pre_X12_worth T (xa [(a 1), (a 3)]) (xa [(ex 13), (ex 14), (ex 15), (ex 16), (ex 17), (ex 18), (ex 19), (ex 20), (ex 21), (ex 22), (ex 23), (ex 24), (ex 25), (ex 26)]) (xf []) (xh []) (xv [x1, x2]))) hD hS hA [0, 1] rfl
  refine va_calli (va_runV (As := [.int x1, .int x2]) (rest := [.int (-1)]) ⟨hx, hb, hml, hown, htg⟩ (c_X12_worth l D T (xa [(a 1), (a 3)]) (xa [(ex 13), (ex 14), (ex 15), (ex 16), (ex 17), (ex 18), (ex 19), (ex 20), (ex 21), (ex 22), (ex 23), (ex 24), (ex 25), (ex 26)]) (xf []) (xh []) (xv [x1, x2]) H.size) ⟨callB_of 2 htg (xg_ok kw_1668) rfl rfl rfl (htg _ kw_17) (htg _ kw_1665) (by decide +kernel) ⟨by rw [hR]; exact Nat.le_of_ble_eq_true rfl, by rw [hR]; exact Nat.le_of_ble_eq_true rfl⟩, htg _ kw_1666, htg _ kw_1667⟩ (xpreV hK hPc hDc (va_recv hK.1 hPc (ci := 12) (q0 := 0) rfl rfl)) rfl rfl hl.1 rfl (lv_room (Nat.le_of_ble_eq_true rfl)) dL_law_486 ⟨by rw [hR]; exact Nat.le_of_ble_eq_true rfl, by rw [hR]; exact Nat.le_of_ble_eq_true rfl⟩) hS (fun q _ h => hFc q h) hFc (fun r9 u t H1 locs ht hvm hw hB hz1 hk1 hS => ?_)
  obtain ⟨bk_1, fik_1, flk_1, vik_1, hP1, hD1, hGk_1⟩ := hB
  rw [ht] at hP1
  obtain ⟨hP, hD⟩ := va_join (wr := []) (w1 := []) hP hD [0, 1] [] rfl rfl (by decide) (by decide) hk1 hFc hP1 hD1
  subst hw
  clear hPc hDc hFc hP1 hD1 hk1 hz1 hvm ht
  generalize H1 = H at hP hS ⊢
  replace hP : va_P D vwCl [] H := hP
  replace hD : va_D A [] := hD
  refine lv_icmp_eq (tgt := 1466) hx hb dL_law_489 (by decide) (fun _ => ?_) (fun c => absurd (by decide) c)
  refine lv_iinc (v := 6) (lv' := [(4, .int 6), (3, .ref (ex 37)), (2, .ref (a 1)), (1, .ref (a 0)), (0, .ref b)]) hx hb dL_law_1466 hl (k := 0) rfl (by decide) (by decide) rfl (fun ls hl => ?_)
  refine lv_goto (tgt := 23) hx hb dL_law_1469 (by decide) ?_
  refine lv_iload hx hb dL_law_23 (lv_at hl 0 rfl) ?_
  refine lv_aload_n hx hb dL_law_25 rfl (lv_at hl 4 rfl) ?_
  refine va_slen hx hb hX hbl hbA hS dL_law_26 ?_
  refine xz_i 6 rfl ?_
  refine lv_bipush (v := 6) hx hb dL_law_27 (by decide) ?_
  refine lv_isub hx hb dL_law_29 ?_
  refine xz_i 0 (by decide) ?_
  refine lv_icmp_gt (tgt := 1472) hx hb dL_law_30 (by decide) (fun _ => ?_) (fun c => absurd (by decide) c)
  refine lv_iconst (v := 1) hx hb dL_law_1472 (by decide) ?_
  refine va_forget (fun q hq => by have h9 := hS.2.2 q hq; rw [hAe] at h9; exact h9) ?_
  refine W.widen (k := 600002) (n := 7302232) (Nat.le_of_ble_eq_true rfl) (Nat.le_of_ble_eq_true rfl) ?_
  subst hR
  rw [hQ]
  exact lw_ret hx hb hr hlocks dL_law_1473
set_option maxHeartbeats 4000000 in
set_option maxRecDepth 100000 in
theorem lw_now {p : Program} {e : Env} {s : State} {m : MethodId} {below : List Frame} {meth : Method} {c : Code} (l : Launch) (hlt : l.stackTraces = false) {b : Nat} {xs : Nat → Int32} (D : va_G) (T : Nat → ClassId) (a ex : Nat → Nat) (fi : Nat → Nat → Int32) (fl : Nat → Nat → Int64) (vi : Nat → Int32) (kK kV : Nat → Nat) (R : Room) (Q : State → Prop) (A : Nat → Prop) (hR : R = room_1) (hQ : Q = lw_Z below #[Value.ref b] s) (hAe : A = fun q => s.heap.size ≤ q) (hx : p.tables.exec = Jvm.exec) (hb : c.code = code) (hr : meth.sig.returnType = ret) (hml : c.maxLocals = 7) (hown : s.vm.findClass RL = some m.cls) (htg : ∀ w ∈ xg, w.before #[Value.ref b] s = true) (hbl : b < s.heap.size) (hbA : ¬ A b) (hlocks : meth.locks = false) (hK : xK D T s) (hA : ∀ q : Nat, s.heap.size ≤ q → A q) (hT : xT kK kV A s s.heap) (hZt : xZ2 A s s.heap) (hX : va_X b 6 xs s s.heap) (x1 x2 x3 x4 x5 : Int32) (hx1 : xs 1 = x1) (hx2 : xs 2 = x2) (hx3 : xs 3 = x3) (hx4 : xs 4 = x4) (hx5 : xs 5 = x5) (H : Heap) (locs : List Loc) (ls : Array Slot) (hP : va_P D vwCl [((a 0), .inr (11, [.ref (ex 0), .ref (a 4), .ref (ex 1), .ref (ex 2), .ref (a 2), .ref (ex 3), .ref (ex 4), .ref (ex 5), .ref (ex 6), .ref (ex 7), .ref (ex 8), .ref (ex 9), .ref (ex 10), .ref (ex 11), .int 0])), ((a 1), .inr (12, ((.int 0) :: (.ref (ex 12)) :: (.int 0) :: (.int 0) :: (.int 0) :: (.int 0) :: (.ref (a 3)) :: (.ref (ex 13)) :: (.ref (ex 14)) :: (.ref (ex 15)) :: (.ref (ex 16)) :: (.int 0) :: (.int 0) :: (.int 0) :: (.int 0) :: (.int 0) :: (.int 0) :: (.long 0) :: (.int 0) :: (.int 0) :: (.int 0) :: (.ref (ex 17)) :: (.ref (ex 18)) :: (.int 0) :: (.ref (ex 19)) :: (.int (-1)) :: (.int 0) :: (.int 0) :: (.int 0) :: (.int 0) :: (.int 0) :: (.int 0) :: (.ref (ex 20)) :: (.int 0) :: (.ref (ex 21)) :: (.int 0) :: (.int 0) :: (.int 0) :: (.int 0) :: (.int 0) :: (.ref (ex 22)) :: (.ref (ex 23)) :: (.ref (ex 24)) :: (.ref (ex 25)) :: []))), ((a 2), .inr (2, [.ref (a 4), .int 0, .int 0, .int 0, .int 0, .int 0, .int 0, .ref (ex 26), .ref (ex 27), .ref (ex 28), .ref (ex 29), .ref (ex 30), .ref (ex 31), .ref (ex 32), .ref (ex 33)])), ((a 3), .inl (T 1, 2187, .inl (fun _ => 0))), ((a 4), .inr (7, [.int 0, .int 0, .ref (ex 34), .ref (ex 35), .ref (ex 36), .ref (ex 37), .ref (ex 38), .ref (ex 39), .ref (ex 40), .ref (ex 41), .ref (ex 42), .ref (ex 43)]))] H) (hD : va_D A [((a 0), .inr (11, [.ref (ex 0), .ref (a 4), .ref (ex 1), .ref (ex 2), .ref (a 2), .ref (ex 3), .ref (ex 4), .ref (ex 5), .ref (ex 6), .ref (ex 7), .ref (ex 8), .ref (ex 9), .ref (ex 10), .ref (ex 11), .int 0])), ((a 1), .inr (12, ((.int 0) :: (.ref (ex 12)) :: (.int 0) :: (.int 0) :: (.int 0) :: (.int 0) :: (.ref (a 3)) :: (.ref (ex 13)) :: (.ref (ex 14)) :: (.ref (ex 15)) :: (.ref (ex 16)) :: (.int 0) :: (.int 0) :: (.int 0) :: (.int 0) :: (.int 0) :: (.int 0) :: (.long 0) :: (.int 0) :: (.int 0) :: (.int 0) :: (.ref (ex 17)) :: (.ref (ex 18)) :: (.int 0) :: (.ref (ex 19)) :: (.int (-1)) :: (.int 0) :: (.int 0) :: (.int 0) :: (.int 0) :: (.int 0) :: (.int 0) :: (.ref (ex 20)) :: (.int 0) :: (.ref (ex 21)) :: (.int 0) :: (.int 0) :: (.int 0) :: (.int 0) :: (.int 0) :: (.ref (ex 22)) :: (.ref (ex 23)) :: (.ref (ex 24)) :: (.ref (ex 25)) :: []))), ((a 2), .inr (2, [.ref (a 4), .int 0, .int 0, .int 0, .int 0, .int 0, .int 0, .ref (ex 26), .ref (ex 27), .ref (ex 28), .ref (ex 29), .ref (ex 30), .ref (ex 31), .ref (ex 32), .ref (ex 33)])), ((a 3), .inl (T 1, 2187, .inl (fun _ => 0))), ((a 4), .inr (7, [.int 0, .int 0, .ref (ex 34), .ref (ex 35), .ref (ex 36), .ref (ex 37), .ref (ex 38), .ref (ex 39), .ref (ex 40), .ref (ex 41), .ref (ex 42), .ref (ex 43)]))]) (hS : va_S A s.heap H locs) (hl : lv_has ls 7 [(4, .int 0), (3, .ref (ex 44)), (2, .ref (a 1)), (1, .ref (a 0)), (0, .ref b)]) : W p l e R s m #[Value.ref b] below meth c H locs 172 22099 Q (F0 m 494 ls []) := by
  by_cases hs0 : x1 = 0
  · subst hs0
    refine lv_aload_n hx hb dL_law_494 rfl (lv_at hl 3 rfl) ?_
    refine lv_aload_n hx hb dL_law_495 rfl (lv_at hl 4 rfl) ?_
    refine lv_iload hx hb dL_law_496 (lv_at hl 0 rfl) ?_
    refine lv_iconst (v := 1) hx hb dL_law_498 (by decide) ?_
    refine lv_iadd hx hb dL_law_499 ?_
    refine xz_i 1 (by decide) ?_
    refine va_sld hx hb hX hbl hbA hS (vp_in_nI (n := 1) (by decide) (by decide)) dL_law_500 ?_
    refine xz_i 0 hx1 ?_
    have hPc := hP.sub (ws' := (pre_X11_now T (xa [(a 0), (a 2)]) (xa [(ex 0), (a 4), (ex 1), (ex 2), (ex 3), (ex 4), (ex 5), (ex 6), (ex 7), (ex 8), (ex 9), (ex 10), (ex 11), (ex 26), (ex 27), (ex 28), (ex 29), (ex 30), (ex 31), (ex 32), (ex 33)]) (xf []) (xh []) (xv []))) [0, 2] rfl
    have hDc := hD.sub (ws' := (pre_X11_now T (xa [(a 0), (a 2)]) (xa [(ex 0), (a 4), (ex 1), (ex 2), (ex 3), (ex 4), (ex 5), (ex 6), (ex 7), (ex 8), (ex 9), (ex 10), (ex 11), (ex 26), (ex 27), (ex 28), (ex 29), (ex 30), (ex 31), (ex 32), (ex 33)]) (xf []) (xh []) (xv []))) [0, 2] (by decide) rfl
    have hFc := va_free (wc := (pre_X11_now T (xa [(a 0), (a 2)]) (xa [(ex 0), (a 4), (ex 1), (ex 2), (ex 3), (ex 4), (ex 5), (ex 6), (ex 7), (ex 8), (ex 9), (ex 10), (ex 11), (ex 26), (ex 27), (ex 28), (ex 29), (ex 30), (ex 31), (ex 32), (ex 33)]) (xf []) (xh []) (xv []))) hD hS hA [0, 2] rfl
    refine va_calli (va_runV (As := [.int 0]) (rest := []) ⟨hx, hb, hml, hown, htg⟩ (c_X11_now l D T (xa [(a 0), (a 2)]) (xa [(ex 0), (a 4), (ex 1), (ex 2), (ex 3), (ex 4), (ex 5), (ex 6), (ex 7), (ex 8), (ex 9), (ex 10), (ex 11), (ex 26), (ex 27), (ex 28), (ex 29), (ex 30), (ex 31), (ex 32), (ex 33)]) (xf []) (xh []) (xv []) H.size) ⟨callB_of 1 htg (xg_ok kw_769) rfl rfl rfl (htg _ kw_1) (htg _ kw_766) (by decide +kernel) ⟨by rw [hR]; exact Nat.le_of_ble_eq_true rfl, by rw [hR]; exact Nat.le_of_ble_eq_true rfl⟩, htg _ kw_767, htg _ kw_768⟩ (xpreV hK hPc hDc (va_recv hK.1 hPc (ci := 11) (q0 := 0) rfl rfl)) rfl rfl hl.1 rfl (lv_room (Nat.le_of_ble_eq_true rfl)) dL_law_501 ⟨by rw [hR]; exact Nat.le_of_ble_eq_true rfl, by rw [hR]; exact Nat.le_of_ble_eq_true rfl⟩) hS (fun q _ h => hFc q h) hFc (fun r9 u t H1 locs ht hvm hw hB hz1 hk1 hS => ?_)
    obtain ⟨bk, fik, flk, vik, hP1, hD1, hGk⟩ := hB
    rw [ht] at hP1
    obtain ⟨hP, hD⟩ := va_join (wr := [((a 1), .inr (12, ((.int 0) :: (.ref (ex 12)) :: (.int 0) :: (.int 0) :: (.int 0) :: (.int 0) :: (.ref (a 3)) :: (.ref (ex 13)) :: (.ref (ex 14)) :: (.ref (ex 15)) :: (.ref (ex 16)) :: (.int 0) :: (.int 0) :: (.int 0) :: (.int 0) :: (.int 0) :: (.int 0) :: (.long 0) :: (.int 0) :: (.int 0) :: (.int 0) :: (.ref (ex 17)) :: (.ref (ex 18)) :: (.int 0) :: (.ref (ex 19)) :: (.int (-1)) :: (.int 0) :: (.int 0) :: (.int 0) :: (.int 0) :: (.int 0) :: (.int 0) :: (.ref (ex 20)) :: (.int 0) :: (.ref (ex 21)) :: (.int 0) :: (.int 0) :: (.int 0) :: (.int 0) :: (.int 0) :: (.ref (ex 22)) :: (.ref (ex 23)) :: (.ref (ex 24)) :: (.ref (ex 25)) :: []))), ((a 3), .inl (T 1, 2187, .inl (fun _ => 0))), ((a 4), .inr (7, [.int 0, .int 0, .ref (ex 34), .ref (ex 35), .ref (ex 36), .ref (ex 37), .ref (ex 38), .ref (ex 39), .ref (ex 40), .ref (ex 41), .ref (ex 42), .ref (ex 43)]))]) (w1 := []) hP hD [0, 2] [1, 3, 4] rfl rfl (by decide) (by decide) hk1 hFc hP1 hD1
    subst hw
    clear hPc hDc hFc hP1 hD1 hk1 hz1 hvm ht
    generalize H1 = H at hP hS ⊢
    replace hP : va_P D vwCl [((a 1), .inr (12, ((.int 0) :: (.ref (ex 12)) :: (.int 0) :: (.int 0) :: (.int 0) :: (.int 0) :: (.ref (a 3)) :: (.ref (ex 13)) :: (.ref (ex 14)) :: (.ref (ex 15)) :: (.ref (ex 16)) :: (.int 0) :: (.int 0) :: (.int 0) :: (.int 0) :: (.int 0) :: (.int 0) :: (.long 0) :: (.int 0) :: (.int 0) :: (.int 0) :: (.ref (ex 17)) :: (.ref (ex 18)) :: (.int 0) :: (.ref (ex 19)) :: (.int (-1)) :: (.int 0) :: (.int 0) :: (.int 0) :: (.int 0) :: (.int 0) :: (.int 0) :: (.ref (ex 20)) :: (.int 0) :: (.ref (ex 21)) :: (.int 0) :: (.int 0) :: (.int 0) :: (.int 0) :: (.int 0) :: (.ref (ex 22)) :: (.ref (ex 23)) :: (.ref (ex 24)) :: (.ref (ex 25)) :: []))), ((a 3), .inl (T 1, 2187, .inl (fun _ => 0))), ((a 4), .inr (7, [.int 0, .int 0, .ref (ex 34), .ref (ex 35), .ref (ex 36), .ref (ex 37), .ref (ex 38), .ref (ex 39), .ref (ex 40), .ref (ex 41), .ref (ex 42), .ref (ex 43)]))] H := hP
    replace hD : va_D A [((a 1), .inr (12, ((.int 0) :: (.ref (ex 12)) :: (.int 0) :: (.int 0) :: (.int 0) :: (.int 0) :: (.ref (a 3)) :: (.ref (ex 13)) :: (.ref (ex 14)) :: (.ref (ex 15)) :: (.ref (ex 16)) :: (.int 0) :: (.int 0) :: (.int 0) :: (.int 0) :: (.int 0) :: (.int 0) :: (.long 0) :: (.int 0) :: (.int 0) :: (.int 0) :: (.ref (ex 17)) :: (.ref (ex 18)) :: (.int 0) :: (.ref (ex 19)) :: (.int (-1)) :: (.int 0) :: (.int 0) :: (.int 0) :: (.int 0) :: (.int 0) :: (.int 0) :: (.ref (ex 20)) :: (.int 0) :: (.ref (ex 21)) :: (.int 0) :: (.int 0) :: (.int 0) :: (.int 0) :: (.int 0) :: (.ref (ex 22)) :: (.ref (ex 23)) :: (.ref (ex 24)) :: (.ref (ex 25)) :: []))), ((a 3), .inl (T 1, 2187, .inl (fun _ => 0))), ((a 4), .inr (7, [.int 0, .int 0, .ref (ex 34), .ref (ex 35), .ref (ex 36), .ref (ex 37), .ref (ex 38), .ref (ex 39), .ref (ex 40), .ref (ex 41), .ref (ex 42), .ref (ex 43)]))] := hD
    refine lv_aload_n hx hb dL_law_504 rfl (lv_at hl 2 rfl) ?_
    refine lv_aload_n hx hb dL_law_505 rfl (lv_at hl 4 rfl) ?_
    refine lv_iload hx hb dL_law_506 (lv_at hl 0 rfl) ?_
    refine lv_iconst (v := 1) hx hb dL_law_508 (by decide) ?_
    refine lv_iadd hx hb dL_law_509 ?_
    refine xz_i 1 (by decide) ?_
    refine va_sld hx hb hX hbl hbA hS (vp_in_nI (n := 1) (by decide) (by decide)) dL_law_510 ?_
    refine xz_i 0 hx1 ?_
    have hPc := hP.sub (ws' := (pre_X12_now T (xa [(a 1), (a 3)]) (xa [(ex 12), (ex 13), (ex 14), (ex 15), (ex 16), (ex 17), (ex 18), (ex 19), (ex 20), (ex 21), (ex 22), (ex 23), (ex 24), (ex 25)]) (xf []) (xh []) (xv []))) [0, 1] rfl
    have hDc := hD.sub (ws' := (pre_X12_now T (xa [(a 1), (a 3)]) (xa [(ex 12), (ex 13), (ex 14), (ex 15), (ex 16), (ex 17), (ex 18), (ex 19), (ex 20), (ex 21), (ex 22), (ex 23), (ex 24), (ex 25)]) (xf []) (xh []) (xv []))) [0, 1] (by decide) rfl
    have hFc := va_free (wc := (pre_X12_now T (xa [(a 1), (a 3)]) (xa [(ex 12), (ex 13), (ex 14), (ex 15), (ex 16), (ex 17), (ex 18), (ex 19), (ex 20), (ex 21), (ex 22), (ex 23), (ex 24), (ex 25)]) (xf []) (xh []) (xv []))) hD hS hA [0, 1] rfl
    refine va_calli (va_runV (As := [.int 0]) (rest := [.int 0]) ⟨hx, hb, hml, hown, htg⟩ (c_X12_now l D T (xa [(a 1), (a 3)]) (xa [(ex 12), (ex 13), (ex 14), (ex 15), (ex 16), (ex 17), (ex 18), (ex 19), (ex 20), (ex 21), (ex 22), (ex 23), (ex 24), (ex 25)]) (xf []) (xh []) (xv []) H.size) ⟨callB_of 1 htg (xg_ok kw_1672) rfl rfl rfl (htg _ kw_17) (htg _ kw_1669) (by decide +kernel) ⟨by rw [hR]; exact Nat.le_of_ble_eq_true rfl, by rw [hR]; exact Nat.le_of_ble_eq_true rfl⟩, htg _ kw_1670, htg _ kw_1671⟩ (xpreV hK hPc hDc (va_recv hK.1 hPc (ci := 12) (q0 := 0) rfl rfl)) rfl rfl hl.1 rfl (lv_room (Nat.le_of_ble_eq_true rfl)) dL_law_511 ⟨by rw [hR]; exact Nat.le_of_ble_eq_true rfl, by rw [hR]; exact Nat.le_of_ble_eq_true rfl⟩) hS (fun q _ h => hFc q h) hFc (fun r9 u t H1 locs ht hvm hw hB hz1 hk1 hS => ?_)
    obtain ⟨bk_1, fik_1, flk_1, vik_1, hP1, hD1, hGk_1⟩ := hB
    rw [ht] at hP1
    obtain ⟨hP, hD⟩ := va_join (wr := [((a 4), .inr (7, [.int 0, .int 0, .ref (ex 34), .ref (ex 35), .ref (ex 36), .ref (ex 37), .ref (ex 38), .ref (ex 39), .ref (ex 40), .ref (ex 41), .ref (ex 42), .ref (ex 43)]))]) (w1 := []) hP hD [0, 1] [2] rfl rfl (by decide) (by decide) hk1 hFc hP1 hD1
    subst hw
    clear hPc hDc hFc hP1 hD1 hk1 hz1 hvm ht
    generalize H1 = H at hP hS ⊢
    replace hP : va_P D vwCl [((a 4), .inr (7, [.int 0, .int 0, .ref (ex 34), .ref (ex 35), .ref (ex 36), .ref (ex 37), .ref (ex 38), .ref (ex 39), .ref (ex 40), .ref (ex 41), .ref (ex 42), .ref (ex 43)]))] H := hP
    replace hD : va_D A [((a 4), .inr (7, [.int 0, .int 0, .ref (ex 34), .ref (ex 35), .ref (ex 36), .ref (ex 37), .ref (ex 38), .ref (ex 39), .ref (ex 40), .ref (ex 41), .ref (ex 42), .ref (ex 43)]))] := hD
    refine lv_icmp_eq (tgt := 1466) hx hb dL_law_514 (by decide) (fun _ => ?_) (fun c => absurd (by decide) c)
    refine lv_iinc (v := 6) (lv' := [(4, .int 6), (3, .ref (ex 44)), (2, .ref (a 1)), (1, .ref (a 0)), (0, .ref b)]) hx hb dL_law_1466 hl (k := 0) rfl (by decide) (by decide) rfl (fun ls hl => ?_)
    refine lv_goto (tgt := 23) hx hb dL_law_1469 (by decide) ?_
    refine lv_iload hx hb dL_law_23 (lv_at hl 0 rfl) ?_
    refine lv_aload_n hx hb dL_law_25 rfl (lv_at hl 4 rfl) ?_
    refine va_slen hx hb hX hbl hbA hS dL_law_26 ?_
    refine xz_i 6 rfl ?_
    refine lv_bipush (v := 6) hx hb dL_law_27 (by decide) ?_
    refine lv_isub hx hb dL_law_29 ?_
    refine xz_i 0 (by decide) ?_
    refine lv_icmp_gt (tgt := 1472) hx hb dL_law_30 (by decide) (fun _ => ?_) (fun c => absurd (by decide) c)
    refine lv_iconst (v := 1) hx hb dL_law_1472 (by decide) ?_
    refine va_forget (fun q hq => by have h9 := hS.2.2 q hq; rw [hAe] at h9; exact h9) ?_
    refine W.widen (k := 600002) (n := 7302232) (Nat.le_of_ble_eq_true rfl) (Nat.le_of_ble_eq_true rfl) ?_
    subst hR
    rw [hQ]
    exact lw_ret hx hb hr hlocks dL_law_1473
  replace hs0 := xne (k := 0) (by decide) hs0
  by_cases hs1 : x1 = 1
  · subst hs1
    refine lv_aload_n hx hb dL_law_494 rfl (lv_at hl 3 rfl) ?_
    refine lv_aload_n hx hb dL_law_495 rfl (lv_at hl 4 rfl) ?_
    refine lv_iload hx hb dL_law_496 (lv_at hl 0 rfl) ?_
    refine lv_iconst (v := 1) hx hb dL_law_498 (by decide) ?_
    refine lv_iadd hx hb dL_law_499 ?_
    refine xz_i 1 (by decide) ?_
    refine va_sld hx hb hX hbl hbA hS (vp_in_nI (n := 1) (by decide) (by decide)) dL_law_500 ?_
    refine xz_i 1 hx1 ?_
    have hPc := hP.sub (ws' := (pre_X11_now_2 T (xa [(a 0), (a 2)]) (xa [(ex 0), (a 4), (ex 1), (ex 2), (ex 3), (ex 4), (ex 5), (ex 6), (ex 7), (ex 8), (ex 9), (ex 10), (ex 11), (ex 26), (ex 27), (ex 28), (ex 29), (ex 30), (ex 31), (ex 32), (ex 33)]) (xf []) (xh []) (xv []))) [0, 2] rfl
    have hDc := hD.sub (ws' := (pre_X11_now_2 T (xa [(a 0), (a 2)]) (xa [(ex 0), (a 4), (ex 1), (ex 2), (ex 3), (ex 4), (ex 5), (ex 6), (ex 7), (ex 8), (ex 9), (ex 10), (ex 11), (ex 26), (ex 27), (ex 28), (ex 29), (ex 30), (ex 31), (ex 32), (ex 33)]) (xf []) (xh []) (xv []))) [0, 2] (by decide) rfl
    have hFc := va_free (wc := (pre_X11_now_2 T (xa [(a 0), (a 2)]) (xa [(ex 0), (a 4), (ex 1), (ex 2), (ex 3), (ex 4), (ex 5), (ex 6), (ex 7), (ex 8), (ex 9), (ex 10), (ex 11), (ex 26), (ex 27), (ex 28), (ex 29), (ex 30), (ex 31), (ex 32), (ex 33)]) (xf []) (xh []) (xv []))) hD hS hA [0, 2] rfl
    refine va_calli (va_runV (As := [.int 1]) (rest := []) ⟨hx, hb, hml, hown, htg⟩ (c_X11_now_2 l D T (xa [(a 0), (a 2)]) (xa [(ex 0), (a 4), (ex 1), (ex 2), (ex 3), (ex 4), (ex 5), (ex 6), (ex 7), (ex 8), (ex 9), (ex 10), (ex 11), (ex 26), (ex 27), (ex 28), (ex 29), (ex 30), (ex 31), (ex 32), (ex 33)]) (xf []) (xh []) (xv []) H.size) ⟨callB_of 1 htg (xg_ok kw_769) rfl rfl rfl (htg _ kw_1) (htg _ kw_766) (by decide +kernel) ⟨by rw [hR]; exact Nat.le_of_ble_eq_true rfl, by rw [hR]; exact Nat.le_of_ble_eq_true rfl⟩, htg _ kw_767, htg _ kw_768⟩ (xpreV hK hPc hDc (va_recv hK.1 hPc (ci := 11) (q0 := 0) rfl rfl)) rfl rfl hl.1 rfl (lv_room (Nat.le_of_ble_eq_true rfl)) dL_law_501 ⟨by rw [hR]; exact Nat.le_of_ble_eq_true rfl, by rw [hR]; exact Nat.le_of_ble_eq_true rfl⟩) hS (fun q _ h => hFc q h) hFc (fun r9 u t H1 locs ht hvm hw hB hz1 hk1 hS => ?_)
    obtain ⟨bk_2, fik_2, flk_2, vik_2, hP1, hD1, hGk_2⟩ := hB
    rw [ht] at hP1
    obtain ⟨hP, hD⟩ := va_join (wr := [((a 1), .inr (12, ((.int 0) :: (.ref (ex 12)) :: (.int 0) :: (.int 0) :: (.int 0) :: (.int 0) :: (.ref (a 3)) :: (.ref (ex 13)) :: (.ref (ex 14)) :: (.ref (ex 15)) :: (.ref (ex 16)) :: (.int 0) :: (.int 0) :: (.int 0) :: (.int 0) :: (.int 0) :: (.int 0) :: (.long 0) :: (.int 0) :: (.int 0) :: (.int 0) :: (.ref (ex 17)) :: (.ref (ex 18)) :: (.int 0) :: (.ref (ex 19)) :: (.int (-1)) :: (.int 0) :: (.int 0) :: (.int 0) :: (.int 0) :: (.int 0) :: (.int 0) :: (.ref (ex 20)) :: (.int 0) :: (.ref (ex 21)) :: (.int 0) :: (.int 0) :: (.int 0) :: (.int 0) :: (.int 0) :: (.ref (ex 22)) :: (.ref (ex 23)) :: (.ref (ex 24)) :: (.ref (ex 25)) :: []))), ((a 3), .inl (T 1, 2187, .inl (fun _ => 0))), ((a 4), .inr (7, [.int 0, .int 0, .ref (ex 34), .ref (ex 35), .ref (ex 36), .ref (ex 37), .ref (ex 38), .ref (ex 39), .ref (ex 40), .ref (ex 41), .ref (ex 42), .ref (ex 43)]))]) (w1 := []) hP hD [0, 2] [1, 3, 4] rfl rfl (by decide) (by decide) hk1 hFc hP1 hD1
    subst hw
    clear hPc hDc hFc hP1 hD1 hk1 hz1 hvm ht
    generalize H1 = H at hP hS ⊢
    replace hP : va_P D vwCl [((a 1), .inr (12, ((.int 0) :: (.ref (ex 12)) :: (.int 0) :: (.int 0) :: (.int 0) :: (.int 0) :: (.ref (a 3)) :: (.ref (ex 13)) :: (.ref (ex 14)) :: (.ref (ex 15)) :: (.ref (ex 16)) :: (.int 0) :: (.int 0) :: (.int 0) :: (.int 0) :: (.int 0) :: (.int 0) :: (.long 0) :: (.int 0) :: (.int 0) :: (.int 0) :: (.ref (ex 17)) :: (.ref (ex 18)) :: (.int 0) :: (.ref (ex 19)) :: (.int (-1)) :: (.int 0) :: (.int 0) :: (.int 0) :: (.int 0) :: (.int 0) :: (.int 0) :: (.ref (ex 20)) :: (.int 0) :: (.ref (ex 21)) :: (.int 0) :: (.int 0) :: (.int 0) :: (.int 0) :: (.int 0) :: (.ref (ex 22)) :: (.ref (ex 23)) :: (.ref (ex 24)) :: (.ref (ex 25)) :: []))), ((a 3), .inl (T 1, 2187, .inl (fun _ => 0))), ((a 4), .inr (7, [.int 0, .int 0, .ref (ex 34), .ref (ex 35), .ref (ex 36), .ref (ex 37), .ref (ex 38), .ref (ex 39), .ref (ex 40), .ref (ex 41), .ref (ex 42), .ref (ex 43)]))] H := hP
    replace hD : va_D A [((a 1), .inr (12, ((.int 0) :: (.ref (ex 12)) :: (.int 0) :: (.int 0) :: (.int 0) :: (.int 0) :: (.ref (a 3)) :: (.ref (ex 13)) :: (.ref (ex 14)) :: (.ref (ex 15)) :: (.ref (ex 16)) :: (.int 0) :: (.int 0) :: (.int 0) :: (.int 0) :: (.int 0) :: (.int 0) :: (.long 0) :: (.int 0) :: (.int 0) :: (.int 0) :: (.ref (ex 17)) :: (.ref (ex 18)) :: (.int 0) :: (.ref (ex 19)) :: (.int (-1)) :: (.int 0) :: (.int 0) :: (.int 0) :: (.int 0) :: (.int 0) :: (.int 0) :: (.ref (ex 20)) :: (.int 0) :: (.ref (ex 21)) :: (.int 0) :: (.int 0) :: (.int 0) :: (.int 0) :: (.int 0) :: (.ref (ex 22)) :: (.ref (ex 23)) :: (.ref (ex 24)) :: (.ref (ex 25)) :: []))), ((a 3), .inl (T 1, 2187, .inl (fun _ => 0))), ((a 4), .inr (7, [.int 0, .int 0, .ref (ex 34), .ref (ex 35), .ref (ex 36), .ref (ex 37), .ref (ex 38), .ref (ex 39), .ref (ex 40), .ref (ex 41), .ref (ex 42), .ref (ex 43)]))] := hD
    refine lv_aload_n hx hb dL_law_504 rfl (lv_at hl 2 rfl) ?_
    refine lv_aload_n hx hb dL_law_505 rfl (lv_at hl 4 rfl) ?_
    refine lv_iload hx hb dL_law_506 (lv_at hl 0 rfl) ?_
    refine lv_iconst (v := 1) hx hb dL_law_508 (by decide) ?_
    refine lv_iadd hx hb dL_law_509 ?_
    refine xz_i 1 (by decide) ?_
    refine va_sld hx hb hX hbl hbA hS (vp_in_nI (n := 1) (by decide) (by decide)) dL_law_510 ?_
    refine xz_i 1 hx1 ?_
    have hPc := hP.sub (ws' := (pre_X12_now_2 T (xa [(a 1), (a 3)]) (xa [(ex 12), (ex 13), (ex 14), (ex 15), (ex 16), (ex 17), (ex 18), (ex 19), (ex 20), (ex 21), (ex 22), (ex 23), (ex 24), (ex 25)]) (xf []) (xh []) (xv []))) [0, 1] rfl
    have hDc := hD.sub (ws' := (pre_X12_now_2 T (xa [(a 1), (a 3)]) (xa [(ex 12), (ex 13), (ex 14), (ex 15), (ex 16), (ex 17), (ex 18), (ex 19), (ex 20), (ex 21), (ex 22), (ex 23), (ex 24), (ex 25)]) (xf []) (xh []) (xv []))) [0, 1] (by decide) rfl
    have hFc := va_free (wc := (pre_X12_now_2 T (xa [(a 1), (a 3)]) (xa [(ex 12), (ex 13), (ex 14), (ex 15), (ex 16), (ex 17), (ex 18), (ex 19), (ex 20), (ex 21), (ex 22), (ex 23), (ex 24), (ex 25)]) (xf []) (xh []) (xv []))) hD hS hA [0, 1] rfl
    refine va_calli (va_runV (As := [.int 1]) (rest := [.int 0]) ⟨hx, hb, hml, hown, htg⟩ (c_X12_now_2 l D T (xa [(a 1), (a 3)]) (xa [(ex 12), (ex 13), (ex 14), (ex 15), (ex 16), (ex 17), (ex 18), (ex 19), (ex 20), (ex 21), (ex 22), (ex 23), (ex 24), (ex 25)]) (xf []) (xh []) (xv []) H.size) ⟨callB_of 1 htg (xg_ok kw_1672) rfl rfl rfl (htg _ kw_17) (htg _ kw_1669) (by decide +kernel) ⟨by rw [hR]; exact Nat.le_of_ble_eq_true rfl, by rw [hR]; exact Nat.le_of_ble_eq_true rfl⟩, htg _ kw_1670, htg _ kw_1671⟩ (xpreV hK hPc hDc (va_recv hK.1 hPc (ci := 12) (q0 := 0) rfl rfl)) rfl rfl hl.1 rfl (lv_room (Nat.le_of_ble_eq_true rfl)) dL_law_511 ⟨by rw [hR]; exact Nat.le_of_ble_eq_true rfl, by rw [hR]; exact Nat.le_of_ble_eq_true rfl⟩) hS (fun q _ h => hFc q h) hFc (fun r9 u t H1 locs ht hvm hw hB hz1 hk1 hS => ?_)
    obtain ⟨bk_3, fik_3, flk_3, vik_3, hP1, hD1, hGk_3⟩ := hB
    rw [ht] at hP1
    obtain ⟨hP, hD⟩ := va_join (wr := [((a 4), .inr (7, [.int 0, .int 0, .ref (ex 34), .ref (ex 35), .ref (ex 36), .ref (ex 37), .ref (ex 38), .ref (ex 39), .ref (ex 40), .ref (ex 41), .ref (ex 42), .ref (ex 43)]))]) (w1 := []) hP hD [0, 1] [2] rfl rfl (by decide) (by decide) hk1 hFc hP1 hD1
    subst hw
    clear hPc hDc hFc hP1 hD1 hk1 hz1 hvm ht
    generalize H1 = H at hP hS ⊢
    replace hP : va_P D vwCl [((a 4), .inr (7, [.int 0, .int 0, .ref (ex 34), .ref (ex 35), .ref (ex 36), .ref (ex 37), .ref (ex 38), .ref (ex 39), .ref (ex 40), .ref (ex 41), .ref (ex 42), .ref (ex 43)]))] H := hP
    replace hD : va_D A [((a 4), .inr (7, [.int 0, .int 0, .ref (ex 34), .ref (ex 35), .ref (ex 36), .ref (ex 37), .ref (ex 38), .ref (ex 39), .ref (ex 40), .ref (ex 41), .ref (ex 42), .ref (ex 43)]))] := hD
    refine lv_icmp_eq (tgt := 1466) hx hb dL_law_514 (by decide) (fun _ => ?_) (fun c => absurd (by decide) c)
    refine lv_iinc (v := 6) (lv' := [(4, .int 6), (3, .ref (ex 44)), (2, .ref (a 1)), (1, .ref (a 0)), (0, .ref b)]) hx hb dL_law_1466 hl (k := 0) rfl (by decide) (by decide) rfl (fun ls hl => ?_)
    refine lv_goto (tgt := 23) hx hb dL_law_1469 (by decide) ?_
    refine lv_iload hx hb dL_law_23 (lv_at hl 0 rfl) ?_
    refine lv_aload_n hx hb dL_law_25 rfl (lv_at hl 4 rfl) ?_
    refine va_slen hx hb hX hbl hbA hS dL_law_26 ?_
    refine xz_i 6 rfl ?_
    refine lv_bipush (v := 6) hx hb dL_law_27 (by decide) ?_
    refine lv_isub hx hb dL_law_29 ?_
    refine xz_i 0 (by decide) ?_
    refine lv_icmp_gt (tgt := 1472) hx hb dL_law_30 (by decide) (fun _ => ?_) (fun c => absurd (by decide) c)
    refine lv_iconst (v := 1) hx hb dL_law_1472 (by decide) ?_
    refine va_forget (fun q hq => by have h9 := hS.2.2 q hq; rw [hAe] at h9; exact h9) ?_
    refine W.widen (k := 600002) (n := 7302232) (Nat.le_of_ble_eq_true rfl) (Nat.le_of_ble_eq_true rfl) ?_
    subst hR
    rw [hQ]
    exact lw_ret hx hb hr hlocks dL_law_1473
  replace hs1 := xne (k := 1) (by decide) hs1
  by_cases hs2 : x1 = 2
  · subst hs2
    refine lv_aload_n hx hb dL_law_494 rfl (lv_at hl 3 rfl) ?_
    refine lv_aload_n hx hb dL_law_495 rfl (lv_at hl 4 rfl) ?_
    refine lv_iload hx hb dL_law_496 (lv_at hl 0 rfl) ?_
    refine lv_iconst (v := 1) hx hb dL_law_498 (by decide) ?_
    refine lv_iadd hx hb dL_law_499 ?_
    refine xz_i 1 (by decide) ?_
    refine va_sld hx hb hX hbl hbA hS (vp_in_nI (n := 1) (by decide) (by decide)) dL_law_500 ?_
    refine xz_i 2 hx1 ?_
    have hPc := hP.sub (ws' := (pre_X11_now_3 T (xa [(a 0), (a 2), (a 4)]) (xa [(ex 0), (ex 1), (ex 2), (ex 3), (ex 4), (ex 5), (ex 6), (ex 7), (ex 8), (ex 9), (ex 10), (ex 11), (ex 26), (ex 27), (ex 28), (ex 29), (ex 30), (ex 31), (ex 32), (ex 33), (ex 34), (ex 35), (ex 36), (ex 37), (ex 38), (ex 39), (ex 40), (ex 41), (ex 42), (ex 43)]) (xf []) (xh []) (xv []))) [0, 2, 4] rfl
    have hDc := hD.sub (ws' := (pre_X11_now_3 T (xa [(a 0), (a 2), (a 4)]) (xa [(ex 0), (ex 1), (ex 2), (ex 3), (ex 4), (ex 5), (ex 6), (ex 7), (ex 8), (ex 9), (ex 10), (ex 11), (ex 26), (ex 27), (ex 28), (ex 29), (ex 30), (ex 31), (ex 32), (ex 33), (ex 34), (ex 35), (ex 36), (ex 37), (ex 38), (ex 39), (ex 40), (ex 41), (ex 42), (ex 43)]) (xf []) (xh []) (xv []))) [0, 2, 4] (by decide) rfl
    have hFc := va_free (wc := (pre_X11_now_3 T (xa [(a 0), (a 2), (a 4)]) (xa [(ex 0), (ex 1), (ex 2), (ex 3), (ex 4), (ex 5), (ex 6), (ex 7), (ex 8), (ex 9), (ex 10), (ex 11), (ex 26), (ex 27), (ex 28), (ex 29), (ex 30), (ex 31), (ex 32), (ex 33), (ex 34), (ex 35), (ex 36), (ex 37), (ex 38), (ex 39), (ex 40), (ex 41), (ex 42), (ex 43)]) (xf []) (xh []) (xv []))) hD hS hA [0, 2, 4] rfl
    refine va_calli (va_runV (As := [.int 2]) (rest := []) ⟨hx, hb, hml, hown, htg⟩ (c_X11_now_3 l D T (xa [(a 0), (a 2), (a 4)]) (xa [(ex 0), (ex 1), (ex 2), (ex 3), (ex 4), (ex 5), (ex 6), (ex 7), (ex 8), (ex 9), (ex 10), (ex 11), (ex 26), (ex 27), (ex 28), (ex 29), (ex 30), (ex 31), (ex 32), (ex 33), (ex 34), (ex 35), (ex 36), (ex 37), (ex 38), (ex 39), (ex 40), (ex 41), (ex 42), (ex 43)]) (xf []) (xh []) (xv []) H.size) ⟨callB_of 1 htg (xg_ok kw_769) rfl rfl rfl (htg _ kw_1) (htg _ kw_766) (by decide +kernel) ⟨by rw [hR]; exact Nat.le_of_ble_eq_true rfl, by rw [hR]; exact Nat.le_of_ble_eq_true rfl⟩, htg _ kw_767, htg _ kw_768⟩ (xpreV hK hPc hDc (va_recv hK.1 hPc (ci := 11) (q0 := 0) rfl rfl)) rfl rfl hl.1 rfl (lv_room (Nat.le_of_ble_eq_true rfl)) dL_law_501 ⟨by rw [hR]; exact Nat.le_of_ble_eq_true rfl, by rw [hR]; exact Nat.le_of_ble_eq_true rfl⟩) hS (fun q _ h => hFc q h) hFc (fun r9 u t H1 locs ht hvm hw hB hz1 hk1 hS => ?_)
    obtain ⟨bk_4, fik_4, flk_4, vik_4, hP1, hD1, hGk_4⟩ := hB
    rw [ht] at hP1
    obtain ⟨hP, hD⟩ := va_join (wr := [((a 1), .inr (12, ((.int 0) :: (.ref (ex 12)) :: (.int 0) :: (.int 0) :: (.int 0) :: (.int 0) :: (.ref (a 3)) :: (.ref (ex 13)) :: (.ref (ex 14)) :: (.ref (ex 15)) :: (.ref (ex 16)) :: (.int 0) :: (.int 0) :: (.int 0) :: (.int 0) :: (.int 0) :: (.int 0) :: (.long 0) :: (.int 0) :: (.int 0) :: (.int 0) :: (.ref (ex 17)) :: (.ref (ex 18)) :: (.int 0) :: (.ref (ex 19)) :: (.int (-1)) :: (.int 0) :: (.int 0) :: (.int 0) :: (.int 0) :: (.int 0) :: (.int 0) :: (.ref (ex 20)) :: (.int 0) :: (.ref (ex 21)) :: (.int 0) :: (.int 0) :: (.int 0) :: (.int 0) :: (.int 0) :: (.ref (ex 22)) :: (.ref (ex 23)) :: (.ref (ex 24)) :: (.ref (ex 25)) :: []))), ((a 3), .inl (T 1, 2187, .inl (fun _ => 0)))]) (w1 := []) hP hD [0, 2, 4] [1, 3] rfl rfl (by decide) (by decide) hk1 hFc hP1 hD1
    subst hw
    clear hPc hDc hFc hP1 hD1 hk1 hz1 hvm ht
    generalize H1 = H at hP hS ⊢
    replace hP : va_P D vwCl [((a 1), .inr (12, ((.int 0) :: (.ref (ex 12)) :: (.int 0) :: (.int 0) :: (.int 0) :: (.int 0) :: (.ref (a 3)) :: (.ref (ex 13)) :: (.ref (ex 14)) :: (.ref (ex 15)) :: (.ref (ex 16)) :: (.int 0) :: (.int 0) :: (.int 0) :: (.int 0) :: (.int 0) :: (.int 0) :: (.long 0) :: (.int 0) :: (.int 0) :: (.int 0) :: (.ref (ex 17)) :: (.ref (ex 18)) :: (.int 0) :: (.ref (ex 19)) :: (.int (-1)) :: (.int 0) :: (.int 0) :: (.int 0) :: (.int 0) :: (.int 0) :: (.int 0) :: (.ref (ex 20)) :: (.int 0) :: (.ref (ex 21)) :: (.int 0) :: (.int 0) :: (.int 0) :: (.int 0) :: (.int 0) :: (.ref (ex 22)) :: (.ref (ex 23)) :: (.ref (ex 24)) :: (.ref (ex 25)) :: []))), ((a 3), .inl (T 1, 2187, .inl (fun _ => 0)))] H := hP
    replace hD : va_D A [((a 1), .inr (12, ((.int 0) :: (.ref (ex 12)) :: (.int 0) :: (.int 0) :: (.int 0) :: (.int 0) :: (.ref (a 3)) :: (.ref (ex 13)) :: (.ref (ex 14)) :: (.ref (ex 15)) :: (.ref (ex 16)) :: (.int 0) :: (.int 0) :: (.int 0) :: (.int 0) :: (.int 0) :: (.int 0) :: (.long 0) :: (.int 0) :: (.int 0) :: (.int 0) :: (.ref (ex 17)) :: (.ref (ex 18)) :: (.int 0) :: (.ref (ex 19)) :: (.int (-1)) :: (.int 0) :: (.int 0) :: (.int 0) :: (.int 0) :: (.int 0) :: (.int 0) :: (.ref (ex 20)) :: (.int 0) :: (.ref (ex 21)) :: (.int 0) :: (.int 0) :: (.int 0) :: (.int 0) :: (.int 0) :: (.ref (ex 22)) :: (.ref (ex 23)) :: (.ref (ex 24)) :: (.ref (ex 25)) :: []))), ((a 3), .inl (T 1, 2187, .inl (fun _ => 0)))] := hD
    refine lv_aload_n hx hb dL_law_504 rfl (lv_at hl 2 rfl) ?_
    refine lv_aload_n hx hb dL_law_505 rfl (lv_at hl 4 rfl) ?_
    refine lv_iload hx hb dL_law_506 (lv_at hl 0 rfl) ?_
    refine lv_iconst (v := 1) hx hb dL_law_508 (by decide) ?_
    refine lv_iadd hx hb dL_law_509 ?_
    refine xz_i 1 (by decide) ?_
    refine va_sld hx hb hX hbl hbA hS (vp_in_nI (n := 1) (by decide) (by decide)) dL_law_510 ?_
    refine xz_i 2 hx1 ?_
    have hPc := hP.sub (ws' := (pre_X12_now_3 T (xa [(a 1), (a 3)]) (xa [(ex 12), (ex 13), (ex 14), (ex 15), (ex 16), (ex 17), (ex 18), (ex 19), (ex 20), (ex 21), (ex 22), (ex 23), (ex 24), (ex 25)]) (xf []) (xh []) (xv []))) [0, 1] rfl
    have hDc := hD.sub (ws' := (pre_X12_now_3 T (xa [(a 1), (a 3)]) (xa [(ex 12), (ex 13), (ex 14), (ex 15), (ex 16), (ex 17), (ex 18), (ex 19), (ex 20), (ex 21), (ex 22), (ex 23), (ex 24), (ex 25)]) (xf []) (xh []) (xv []))) [0, 1] (by decide) rfl
    have hFc := va_free (wc := (pre_X12_now_3 T (xa [(a 1), (a 3)]) (xa [(ex 12), (ex 13), (ex 14), (ex 15), (ex 16), (ex 17), (ex 18), (ex 19), (ex 20), (ex 21), (ex 22), (ex 23), (ex 24), (ex 25)]) (xf []) (xh []) (xv []))) hD hS hA [0, 1] rfl
    refine va_calli (va_runV (As := [.int 2]) (rest := [.int 0]) ⟨hx, hb, hml, hown, htg⟩ (c_X12_now_3 l D T (xa [(a 1), (a 3)]) (xa [(ex 12), (ex 13), (ex 14), (ex 15), (ex 16), (ex 17), (ex 18), (ex 19), (ex 20), (ex 21), (ex 22), (ex 23), (ex 24), (ex 25)]) (xf []) (xh []) (xv []) H.size) ⟨callB_of 1 htg (xg_ok kw_1672) rfl rfl rfl (htg _ kw_17) (htg _ kw_1669) (by decide +kernel) ⟨by rw [hR]; exact Nat.le_of_ble_eq_true rfl, by rw [hR]; exact Nat.le_of_ble_eq_true rfl⟩, htg _ kw_1670, htg _ kw_1671⟩ (xpreV hK hPc hDc (va_recv hK.1 hPc (ci := 12) (q0 := 0) rfl rfl)) rfl rfl hl.1 rfl (lv_room (Nat.le_of_ble_eq_true rfl)) dL_law_511 ⟨by rw [hR]; exact Nat.le_of_ble_eq_true rfl, by rw [hR]; exact Nat.le_of_ble_eq_true rfl⟩) hS (fun q _ h => hFc q h) hFc (fun r9 u t H1 locs ht hvm hw hB hz1 hk1 hS => ?_)
    obtain ⟨bk_5, fik_5, flk_5, vik_5, hP1, hD1, hGk_5⟩ := hB
    rw [ht] at hP1
    obtain ⟨hP, hD⟩ := va_join (wr := []) (w1 := []) hP hD [0, 1] [] rfl rfl (by decide) (by decide) hk1 hFc hP1 hD1
    subst hw
    clear hPc hDc hFc hP1 hD1 hk1 hz1 hvm ht
    generalize H1 = H at hP hS ⊢
    replace hP : va_P D vwCl [] H := hP
    replace hD : va_D A [] := hD
    refine lv_icmp_eq (tgt := 1466) hx hb dL_law_514 (by decide) (fun _ => ?_) (fun c => absurd (by decide) c)
    refine lv_iinc (v := 6) (lv' := [(4, .int 6), (3, .ref (ex 44)), (2, .ref (a 1)), (1, .ref (a 0)), (0, .ref b)]) hx hb dL_law_1466 hl (k := 0) rfl (by decide) (by decide) rfl (fun ls hl => ?_)
    refine lv_goto (tgt := 23) hx hb dL_law_1469 (by decide) ?_
    refine lv_iload hx hb dL_law_23 (lv_at hl 0 rfl) ?_
    refine lv_aload_n hx hb dL_law_25 rfl (lv_at hl 4 rfl) ?_
    refine va_slen hx hb hX hbl hbA hS dL_law_26 ?_
    refine xz_i 6 rfl ?_
    refine lv_bipush (v := 6) hx hb dL_law_27 (by decide) ?_
    refine lv_isub hx hb dL_law_29 ?_
    refine xz_i 0 (by decide) ?_
    refine lv_icmp_gt (tgt := 1472) hx hb dL_law_30 (by decide) (fun _ => ?_) (fun c => absurd (by decide) c)
    refine lv_iconst (v := 1) hx hb dL_law_1472 (by decide) ?_
    refine va_forget (fun q hq => by have h9 := hS.2.2 q hq; rw [hAe] at h9; exact h9) ?_
    refine W.widen (k := 600002) (n := 7302232) (Nat.le_of_ble_eq_true rfl) (Nat.le_of_ble_eq_true rfl) ?_
    subst hR
    rw [hQ]
    exact lw_ret hx hb hr hlocks dL_law_1473
  replace hs2 := xne (k := 2) (by decide) hs2
  by_cases hs3 : x1 = 3
  · subst hs3
    refine lv_aload_n hx hb dL_law_494 rfl (lv_at hl 3 rfl) ?_
    refine lv_aload_n hx hb dL_law_495 rfl (lv_at hl 4 rfl) ?_
    refine lv_iload hx hb dL_law_496 (lv_at hl 0 rfl) ?_
    refine lv_iconst (v := 1) hx hb dL_law_498 (by decide) ?_
    refine lv_iadd hx hb dL_law_499 ?_
    refine xz_i 1 (by decide) ?_
    refine va_sld hx hb hX hbl hbA hS (vp_in_nI (n := 1) (by decide) (by decide)) dL_law_500 ?_
    refine xz_i 3 hx1 ?_
    have hPc := hP.sub (ws' := (pre_X11_now_4 T (xa [(a 0), (a 2)]) (xa [(ex 0), (a 4), (ex 1), (ex 2), (ex 3), (ex 4), (ex 5), (ex 6), (ex 7), (ex 8), (ex 9), (ex 10), (ex 11), (ex 26), (ex 27), (ex 28), (ex 29), (ex 30), (ex 31), (ex 32), (ex 33)]) (xf []) (xh []) (xv []))) [0, 2] rfl
    have hDc := hD.sub (ws' := (pre_X11_now_4 T (xa [(a 0), (a 2)]) (xa [(ex 0), (a 4), (ex 1), (ex 2), (ex 3), (ex 4), (ex 5), (ex 6), (ex 7), (ex 8), (ex 9), (ex 10), (ex 11), (ex 26), (ex 27), (ex 28), (ex 29), (ex 30), (ex 31), (ex 32), (ex 33)]) (xf []) (xh []) (xv []))) [0, 2] (by decide) rfl
    have hFc := va_free (wc := (pre_X11_now_4 T (xa [(a 0), (a 2)]) (xa [(ex 0), (a 4), (ex 1), (ex 2), (ex 3), (ex 4), (ex 5), (ex 6), (ex 7), (ex 8), (ex 9), (ex 10), (ex 11), (ex 26), (ex 27), (ex 28), (ex 29), (ex 30), (ex 31), (ex 32), (ex 33)]) (xf []) (xh []) (xv []))) hD hS hA [0, 2] rfl
    refine va_calli (va_runV (As := [.int 3]) (rest := []) ⟨hx, hb, hml, hown, htg⟩ (c_X11_now_4 l D T (xa [(a 0), (a 2)]) (xa [(ex 0), (a 4), (ex 1), (ex 2), (ex 3), (ex 4), (ex 5), (ex 6), (ex 7), (ex 8), (ex 9), (ex 10), (ex 11), (ex 26), (ex 27), (ex 28), (ex 29), (ex 30), (ex 31), (ex 32), (ex 33)]) (xf []) (xh []) (xv []) H.size) ⟨callB_of 1 htg (xg_ok kw_769) rfl rfl rfl (htg _ kw_1) (htg _ kw_766) (by decide +kernel) ⟨by rw [hR]; exact Nat.le_of_ble_eq_true rfl, by rw [hR]; exact Nat.le_of_ble_eq_true rfl⟩, htg _ kw_767, htg _ kw_768⟩ (xpreV hK hPc hDc (va_recv hK.1 hPc (ci := 11) (q0 := 0) rfl rfl)) rfl rfl hl.1 rfl (lv_room (Nat.le_of_ble_eq_true rfl)) dL_law_501 ⟨by rw [hR]; exact Nat.le_of_ble_eq_true rfl, by rw [hR]; exact Nat.le_of_ble_eq_true rfl⟩) hS (fun q _ h => hFc q h) hFc (fun r9 u t H1 locs ht hvm hw hB hz1 hk1 hS => ?_)
    obtain ⟨bk_6, fik_6, flk_6, vik_6, hP1, hD1, hGk_6⟩ := hB
    rw [ht] at hP1
    obtain ⟨hP, hD⟩ := va_join (wr := [((a 1), .inr (12, ((.int 0) :: (.ref (ex 12)) :: (.int 0) :: (.int 0) :: (.int 0) :: (.int 0) :: (.ref (a 3)) :: (.ref (ex 13)) :: (.ref (ex 14)) :: (.ref (ex 15)) :: (.ref (ex 16)) :: (.int 0) :: (.int 0) :: (.int 0) :: (.int 0) :: (.int 0) :: (.int 0) :: (.long 0) :: (.int 0) :: (.int 0) :: (.int 0) :: (.ref (ex 17)) :: (.ref (ex 18)) :: (.int 0) :: (.ref (ex 19)) :: (.int (-1)) :: (.int 0) :: (.int 0) :: (.int 0) :: (.int 0) :: (.int 0) :: (.int 0) :: (.ref (ex 20)) :: (.int 0) :: (.ref (ex 21)) :: (.int 0) :: (.int 0) :: (.int 0) :: (.int 0) :: (.int 0) :: (.ref (ex 22)) :: (.ref (ex 23)) :: (.ref (ex 24)) :: (.ref (ex 25)) :: []))), ((a 3), .inl (T 1, 2187, .inl (fun _ => 0))), ((a 4), .inr (7, [.int 0, .int 0, .ref (ex 34), .ref (ex 35), .ref (ex 36), .ref (ex 37), .ref (ex 38), .ref (ex 39), .ref (ex 40), .ref (ex 41), .ref (ex 42), .ref (ex 43)]))]) (w1 := []) hP hD [0, 2] [1, 3, 4] rfl rfl (by decide) (by decide) hk1 hFc hP1 hD1
    subst hw
    clear hPc hDc hFc hP1 hD1 hk1 hz1 hvm ht
    generalize H1 = H at hP hS ⊢
    replace hP : va_P D vwCl [((a 1), .inr (12, ((.int 0) :: (.ref (ex 12)) :: (.int 0) :: (.int 0) :: (.int 0) :: (.int 0) :: (.ref (a 3)) :: (.ref (ex 13)) :: (.ref (ex 14)) :: (.ref (ex 15)) :: (.ref (ex 16)) :: (.int 0) :: (.int 0) :: (.int 0) :: (.int 0) :: (.int 0) :: (.int 0) :: (.long 0) :: (.int 0) :: (.int 0) :: (.int 0) :: (.ref (ex 17)) :: (.ref (ex 18)) :: (.int 0) :: (.ref (ex 19)) :: (.int (-1)) :: (.int 0) :: (.int 0) :: (.int 0) :: (.int 0) :: (.int 0) :: (.int 0) :: (.ref (ex 20)) :: (.int 0) :: (.ref (ex 21)) :: (.int 0) :: (.int 0) :: (.int 0) :: (.int 0) :: (.int 0) :: (.ref (ex 22)) :: (.ref (ex 23)) :: (.ref (ex 24)) :: (.ref (ex 25)) :: []))), ((a 3), .inl (T 1, 2187, .inl (fun _ => 0))), ((a 4), .inr (7, [.int 0, .int 0, .ref (ex 34), .ref (ex 35), .ref (ex 36), .ref (ex 37), .ref (ex 38), .ref (ex 39), .ref (ex 40), .ref (ex 41), .ref (ex 42), .ref (ex 43)]))] H := hP
    replace hD : va_D A [((a 1), .inr (12, ((.int 0) :: (.ref (ex 12)) :: (.int 0) :: (.int 0) :: (.int 0) :: (.int 0) :: (.ref (a 3)) :: (.ref (ex 13)) :: (.ref (ex 14)) :: (.ref (ex 15)) :: (.ref (ex 16)) :: (.int 0) :: (.int 0) :: (.int 0) :: (.int 0) :: (.int 0) :: (.int 0) :: (.long 0) :: (.int 0) :: (.int 0) :: (.int 0) :: (.ref (ex 17)) :: (.ref (ex 18)) :: (.int 0) :: (.ref (ex 19)) :: (.int (-1)) :: (.int 0) :: (.int 0) :: (.int 0) :: (.int 0) :: (.int 0) :: (.int 0) :: (.ref (ex 20)) :: (.int 0) :: (.ref (ex 21)) :: (.int 0) :: (.int 0) :: (.int 0) :: (.int 0) :: (.int 0) :: (.ref (ex 22)) :: (.ref (ex 23)) :: (.ref (ex 24)) :: (.ref (ex 25)) :: []))), ((a 3), .inl (T 1, 2187, .inl (fun _ => 0))), ((a 4), .inr (7, [.int 0, .int 0, .ref (ex 34), .ref (ex 35), .ref (ex 36), .ref (ex 37), .ref (ex 38), .ref (ex 39), .ref (ex 40), .ref (ex 41), .ref (ex 42), .ref (ex 43)]))] := hD
    refine lv_aload_n hx hb dL_law_504 rfl (lv_at hl 2 rfl) ?_
    refine lv_aload_n hx hb dL_law_505 rfl (lv_at hl 4 rfl) ?_
    refine lv_iload hx hb dL_law_506 (lv_at hl 0 rfl) ?_
    refine lv_iconst (v := 1) hx hb dL_law_508 (by decide) ?_
    refine lv_iadd hx hb dL_law_509 ?_
    refine xz_i 1 (by decide) ?_
    refine va_sld hx hb hX hbl hbA hS (vp_in_nI (n := 1) (by decide) (by decide)) dL_law_510 ?_
    refine xz_i 3 hx1 ?_
    have hPc := hP.sub (ws' := (pre_X12_now_4 T (xa [(a 1), (a 3)]) (xa [(ex 12), (ex 13), (ex 14), (ex 15), (ex 16), (ex 17), (ex 18), (ex 19), (ex 20), (ex 21), (ex 22), (ex 23), (ex 24), (ex 25)]) (xf []) (xh []) (xv []))) [0, 1] rfl
    have hDc := hD.sub (ws' := (pre_X12_now_4 T (xa [(a 1), (a 3)]) (xa [(ex 12), (ex 13), (ex 14), (ex 15), (ex 16), (ex 17), (ex 18), (ex 19), (ex 20), (ex 21), (ex 22), (ex 23), (ex 24), (ex 25)]) (xf []) (xh []) (xv []))) [0, 1] (by decide) rfl
    have hFc := va_free (wc := (pre_X12_now_4 T (xa [(a 1), (a 3)]) (xa [(ex 12), (ex 13), (ex 14), (ex 15), (ex 16), (ex 17), (ex 18), (ex 19), (ex 20), (ex 21), (ex 22), (ex 23), (ex 24), (ex 25)]) (xf []) (xh []) (xv []))) hD hS hA [0, 1] rfl
    refine va_calli (va_runV (As := [.int 3]) (rest := [.int 0]) ⟨hx, hb, hml, hown, htg⟩ (c_X12_now_4 l D T (xa [(a 1), (a 3)]) (xa [(ex 12), (ex 13), (ex 14), (ex 15), (ex 16), (ex 17), (ex 18), (ex 19), (ex 20), (ex 21), (ex 22), (ex 23), (ex 24), (ex 25)]) (xf []) (xh []) (xv []) H.size) ⟨callB_of 1 htg (xg_ok kw_1672) rfl rfl rfl (htg _ kw_17) (htg _ kw_1669) (by decide +kernel) ⟨by rw [hR]; exact Nat.le_of_ble_eq_true rfl, by rw [hR]; exact Nat.le_of_ble_eq_true rfl⟩, htg _ kw_1670, htg _ kw_1671⟩ (xpreV hK hPc hDc (va_recv hK.1 hPc (ci := 12) (q0 := 0) rfl rfl)) rfl rfl hl.1 rfl (lv_room (Nat.le_of_ble_eq_true rfl)) dL_law_511 ⟨by rw [hR]; exact Nat.le_of_ble_eq_true rfl, by rw [hR]; exact Nat.le_of_ble_eq_true rfl⟩) hS (fun q _ h => hFc q h) hFc (fun r9 u t H1 locs ht hvm hw hB hz1 hk1 hS => ?_)
    obtain ⟨bk_7, fik_7, flk_7, vik_7, hP1, hD1, hGk_7⟩ := hB
    rw [ht] at hP1
    obtain ⟨hP, hD⟩ := va_join (wr := [((a 4), .inr (7, [.int 0, .int 0, .ref (ex 34), .ref (ex 35), .ref (ex 36), .ref (ex 37), .ref (ex 38), .ref (ex 39), .ref (ex 40), .ref (ex 41), .ref (ex 42), .ref (ex 43)]))]) (w1 := []) hP hD [0, 1] [2] rfl rfl (by decide) (by decide) hk1 hFc hP1 hD1
    subst hw
    clear hPc hDc hFc hP1 hD1 hk1 hz1 hvm ht
    generalize H1 = H at hP hS ⊢
    replace hP : va_P D vwCl [((a 4), .inr (7, [.int 0, .int 0, .ref (ex 34), .ref (ex 35), .ref (ex 36), .ref (ex 37), .ref (ex 38), .ref (ex 39), .ref (ex 40), .ref (ex 41), .ref (ex 42), .ref (ex 43)]))] H := hP
    replace hD : va_D A [((a 4), .inr (7, [.int 0, .int 0, .ref (ex 34), .ref (ex 35), .ref (ex 36), .ref (ex 37), .ref (ex 38), .ref (ex 39), .ref (ex 40), .ref (ex 41), .ref (ex 42), .ref (ex 43)]))] := hD
    refine lv_icmp_eq (tgt := 1466) hx hb dL_law_514 (by decide) (fun _ => ?_) (fun c => absurd (by decide) c)
    refine lv_iinc (v := 6) (lv' := [(4, .int 6), (3, .ref (ex 44)), (2, .ref (a 1)), (1, .ref (a 0)), (0, .ref b)]) hx hb dL_law_1466 hl (k := 0) rfl (by decide) (by decide) rfl (fun ls hl => ?_)
    refine lv_goto (tgt := 23) hx hb dL_law_1469 (by decide) ?_
    refine lv_iload hx hb dL_law_23 (lv_at hl 0 rfl) ?_
    refine lv_aload_n hx hb dL_law_25 rfl (lv_at hl 4 rfl) ?_
    refine va_slen hx hb hX hbl hbA hS dL_law_26 ?_
    refine xz_i 6 rfl ?_
    refine lv_bipush (v := 6) hx hb dL_law_27 (by decide) ?_
    refine lv_isub hx hb dL_law_29 ?_
    refine xz_i 0 (by decide) ?_
    refine lv_icmp_gt (tgt := 1472) hx hb dL_law_30 (by decide) (fun _ => ?_) (fun c => absurd (by decide) c)
    refine lv_iconst (v := 1) hx hb dL_law_1472 (by decide) ?_
    refine va_forget (fun q hq => by have h9 := hS.2.2 q hq; rw [hAe] at h9; exact h9) ?_
    refine W.widen (k := 600002) (n := 7302232) (Nat.le_of_ble_eq_true rfl) (Nat.le_of_ble_eq_true rfl) ?_
    subst hR
    rw [hQ]
    exact lw_ret hx hb hr hlocks dL_law_1473
  replace hs3 := xne (k := 3) (by decide) hs3
  by_cases hs4 : x1 = 4
  · subst hs4
    refine lv_aload_n hx hb dL_law_494 rfl (lv_at hl 3 rfl) ?_
    refine lv_aload_n hx hb dL_law_495 rfl (lv_at hl 4 rfl) ?_
    refine lv_iload hx hb dL_law_496 (lv_at hl 0 rfl) ?_
    refine lv_iconst (v := 1) hx hb dL_law_498 (by decide) ?_
    refine lv_iadd hx hb dL_law_499 ?_
    refine xz_i 1 (by decide) ?_
    refine va_sld hx hb hX hbl hbA hS (vp_in_nI (n := 1) (by decide) (by decide)) dL_law_500 ?_
    refine xz_i 4 hx1 ?_
    have hPc := hP.sub (ws' := (pre_X11_now_5 T (xa [(a 0), (a 2), (a 4)]) (xa [(ex 0), (ex 1), (ex 2), (ex 3), (ex 4), (ex 5), (ex 6), (ex 7), (ex 8), (ex 9), (ex 10), (ex 11), (ex 26), (ex 27), (ex 28), (ex 29), (ex 30), (ex 31), (ex 32), (ex 33), (ex 34), (ex 35), (ex 36), (ex 37), (ex 38), (ex 39), (ex 40), (ex 41), (ex 42), (ex 43)]) (xf []) (xh []) (xv []))) [0, 2, 4] rfl
    have hDc := hD.sub (ws' := (pre_X11_now_5 T (xa [(a 0), (a 2), (a 4)]) (xa [(ex 0), (ex 1), (ex 2), (ex 3), (ex 4), (ex 5), (ex 6), (ex 7), (ex 8), (ex 9), (ex 10), (ex 11), (ex 26), (ex 27), (ex 28), (ex 29), (ex 30), (ex 31), (ex 32), (ex 33), (ex 34), (ex 35), (ex 36), (ex 37), (ex 38), (ex 39), (ex 40), (ex 41), (ex 42), (ex 43)]) (xf []) (xh []) (xv []))) [0, 2, 4] (by decide) rfl
    have hFc := va_free (wc := (pre_X11_now_5 T (xa [(a 0), (a 2), (a 4)]) (xa [(ex 0), (ex 1), (ex 2), (ex 3), (ex 4), (ex 5), (ex 6), (ex 7), (ex 8), (ex 9), (ex 10), (ex 11), (ex 26), (ex 27), (ex 28), (ex 29), (ex 30), (ex 31), (ex 32), (ex 33), (ex 34), (ex 35), (ex 36), (ex 37), (ex 38), (ex 39), (ex 40), (ex 41), (ex 42), (ex 43)]) (xf []) (xh []) (xv []))) hD hS hA [0, 2, 4] rfl
    refine va_calli (va_runV (As := [.int 4]) (rest := []) ⟨hx, hb, hml, hown, htg⟩ (c_X11_now_5 l D T (xa [(a 0), (a 2), (a 4)]) (xa [(ex 0), (ex 1), (ex 2), (ex 3), (ex 4), (ex 5), (ex 6), (ex 7), (ex 8), (ex 9), (ex 10), (ex 11), (ex 26), (ex 27), (ex 28), (ex 29), (ex 30), (ex 31), (ex 32), (ex 33), (ex 34), (ex 35), (ex 36), (ex 37), (ex 38), (ex 39), (ex 40), (ex 41), (ex 42), (ex 43)]) (xf []) (xh []) (xv []) H.size) ⟨callB_of 1 htg (xg_ok kw_769) rfl rfl rfl (htg _ kw_1) (htg _ kw_766) (by decide +kernel) ⟨by rw [hR]; exact Nat.le_of_ble_eq_true rfl, by rw [hR]; exact Nat.le_of_ble_eq_true rfl⟩, htg _ kw_767, htg _ kw_768⟩ (xpreV hK hPc hDc (va_recv hK.1 hPc (ci := 11) (q0 := 0) rfl rfl)) rfl rfl hl.1 rfl (lv_room (Nat.le_of_ble_eq_true rfl)) dL_law_501 ⟨by rw [hR]; exact Nat.le_of_ble_eq_true rfl, by rw [hR]; exact Nat.le_of_ble_eq_true rfl⟩) hS (fun q _ h => hFc q h) hFc (fun r9 u t H1 locs ht hvm hw hB hz1 hk1 hS => ?_)
    obtain ⟨bk_8, fik_8, flk_8, vik_8, hP1, hD1, hGk_8⟩ := hB
    rw [ht] at hP1
    obtain ⟨hP, hD⟩ := va_join (wr := [((a 1), .inr (12, ((.int 0) :: (.ref (ex 12)) :: (.int 0) :: (.int 0) :: (.int 0) :: (.int 0) :: (.ref (a 3)) :: (.ref (ex 13)) :: (.ref (ex 14)) :: (.ref (ex 15)) :: (.ref (ex 16)) :: (.int 0) :: (.int 0) :: (.int 0) :: (.int 0) :: (.int 0) :: (.int 0) :: (.long 0) :: (.int 0) :: (.int 0) :: (.int 0) :: (.ref (ex 17)) :: (.ref (ex 18)) :: (.int 0) :: (.ref (ex 19)) :: (.int (-1)) :: (.int 0) :: (.int 0) :: (.int 0) :: (.int 0) :: (.int 0) :: (.int 0) :: (.ref (ex 20)) :: (.int 0) :: (.ref (ex 21)) :: (.int 0) :: (.int 0) :: (.int 0) :: (.int 0) :: (.int 0) :: (.ref (ex 22)) :: (.ref (ex 23)) :: (.ref (ex 24)) :: (.ref (ex 25)) :: []))), ((a 3), .inl (T 1, 2187, .inl (fun _ => 0)))]) (w1 := []) hP hD [0, 2, 4] [1, 3] rfl rfl (by decide) (by decide) hk1 hFc hP1 hD1
    subst hw
    clear hPc hDc hFc hP1 hD1 hk1 hz1 hvm ht
    generalize H1 = H at hP hS ⊢
    replace hP : va_P D vwCl [((a 1), .inr (12, ((.int 0) :: (.ref (ex 12)) :: (.int 0) :: (.int 0) :: (.int 0) :: (.int 0) :: (.ref (a 3)) :: (.ref (ex 13)) :: (.ref (ex 14)) :: (.ref (ex 15)) :: (.ref (ex 16)) :: (.int 0) :: (.int 0) :: (.int 0) :: (.int 0) :: (.int 0) :: (.int 0) :: (.long 0) :: (.int 0) :: (.int 0) :: (.int 0) :: (.ref (ex 17)) :: (.ref (ex 18)) :: (.int 0) :: (.ref (ex 19)) :: (.int (-1)) :: (.int 0) :: (.int 0) :: (.int 0) :: (.int 0) :: (.int 0) :: (.int 0) :: (.ref (ex 20)) :: (.int 0) :: (.ref (ex 21)) :: (.int 0) :: (.int 0) :: (.int 0) :: (.int 0) :: (.int 0) :: (.ref (ex 22)) :: (.ref (ex 23)) :: (.ref (ex 24)) :: (.ref (ex 25)) :: []))), ((a 3), .inl (T 1, 2187, .inl (fun _ => 0)))] H := hP
    replace hD : va_D A [((a 1), .inr (12, ((.int 0) :: (.ref (ex 12)) :: (.int 0) :: (.int 0) :: (.int 0) :: (.int 0) :: (.ref (a 3)) :: (.ref (ex 13)) :: (.ref (ex 14)) :: (.ref (ex 15)) :: (.ref (ex 16)) :: (.int 0) :: (.int 0) :: (.int 0) :: (.int 0) :: (.int 0) :: (.int 0) :: (.long 0) :: (.int 0) :: (.int 0) :: (.int 0) :: (.ref (ex 17)) :: (.ref (ex 18)) :: (.int 0) :: (.ref (ex 19)) :: (.int (-1)) :: (.int 0) :: (.int 0) :: (.int 0) :: (.int 0) :: (.int 0) :: (.int 0) :: (.ref (ex 20)) :: (.int 0) :: (.ref (ex 21)) :: (.int 0) :: (.int 0) :: (.int 0) :: (.int 0) :: (.int 0) :: (.ref (ex 22)) :: (.ref (ex 23)) :: (.ref (ex 24)) :: (.ref (ex 25)) :: []))), ((a 3), .inl (T 1, 2187, .inl (fun _ => 0)))] := hD
    refine lv_aload_n hx hb dL_law_504 rfl (lv_at hl 2 rfl) ?_
    refine lv_aload_n hx hb dL_law_505 rfl (lv_at hl 4 rfl) ?_
    refine lv_iload hx hb dL_law_506 (lv_at hl 0 rfl) ?_
    refine lv_iconst (v := 1) hx hb dL_law_508 (by decide) ?_
    refine lv_iadd hx hb dL_law_509 ?_
    refine xz_i 1 (by decide) ?_
    refine va_sld hx hb hX hbl hbA hS (vp_in_nI (n := 1) (by decide) (by decide)) dL_law_510 ?_
    refine xz_i 4 hx1 ?_
    have hPc := hP.sub (ws' := (pre_X12_now_5 T (xa [(a 1), (a 3)]) (xa [(ex 12), (ex 13), (ex 14), (ex 15), (ex 16), (ex 17), (ex 18), (ex 19), (ex 20), (ex 21), (ex 22), (ex 23), (ex 24), (ex 25)]) (xf []) (xh []) (xv []))) [0, 1] rfl
    have hDc := hD.sub (ws' := (pre_X12_now_5 T (xa [(a 1), (a 3)]) (xa [(ex 12), (ex 13), (ex 14), (ex 15), (ex 16), (ex 17), (ex 18), (ex 19), (ex 20), (ex 21), (ex 22), (ex 23), (ex 24), (ex 25)]) (xf []) (xh []) (xv []))) [0, 1] (by decide) rfl
    have hFc := va_free (wc := (pre_X12_now_5 T (xa [(a 1), (a 3)]) (xa [(ex 12), (ex 13), (ex 14), (ex 15), (ex 16), (ex 17), (ex 18), (ex 19), (ex 20), (ex 21), (ex 22), (ex 23), (ex 24), (ex 25)]) (xf []) (xh []) (xv []))) hD hS hA [0, 1] rfl
    refine va_calli (va_runV (As := [.int 4]) (rest := [.int 0]) ⟨hx, hb, hml, hown, htg⟩ (c_X12_now_5 l D T (xa [(a 1), (a 3)]) (xa [(ex 12), (ex 13), (ex 14), (ex 15), (ex 16), (ex 17), (ex 18), (ex 19), (ex 20), (ex 21), (ex 22), (ex 23), (ex 24), (ex 25)]) (xf []) (xh []) (xv []) H.size) ⟨callB_of 1 htg (xg_ok kw_1672) rfl rfl rfl (htg _ kw_17) (htg _ kw_1669) (by decide +kernel) ⟨by rw [hR]; exact Nat.le_of_ble_eq_true rfl, by rw [hR]; exact Nat.le_of_ble_eq_true rfl⟩, htg _ kw_1670, htg _ kw_1671⟩ (xpreV hK hPc hDc (va_recv hK.1 hPc (ci := 12) (q0 := 0) rfl rfl)) rfl rfl hl.1 rfl (lv_room (Nat.le_of_ble_eq_true rfl)) dL_law_511 ⟨by rw [hR]; exact Nat.le_of_ble_eq_true rfl, by rw [hR]; exact Nat.le_of_ble_eq_true rfl⟩) hS (fun q _ h => hFc q h) hFc (fun r9 u t H1 locs ht hvm hw hB hz1 hk1 hS => ?_)
    obtain ⟨bk_9, fik_9, flk_9, vik_9, hP1, hD1, hGk_9⟩ := hB
    rw [ht] at hP1
    obtain ⟨hP, hD⟩ := va_join (wr := []) (w1 := []) hP hD [0, 1] [] rfl rfl (by decide) (by decide) hk1 hFc hP1 hD1
    subst hw
    clear hPc hDc hFc hP1 hD1 hk1 hz1 hvm ht
    generalize H1 = H at hP hS ⊢
    replace hP : va_P D vwCl [] H := hP
    replace hD : va_D A [] := hD
    refine lv_icmp_eq (tgt := 1466) hx hb dL_law_514 (by decide) (fun _ => ?_) (fun c => absurd (by decide) c)
    refine lv_iinc (v := 6) (lv' := [(4, .int 6), (3, .ref (ex 44)), (2, .ref (a 1)), (1, .ref (a 0)), (0, .ref b)]) hx hb dL_law_1466 hl (k := 0) rfl (by decide) (by decide) rfl (fun ls hl => ?_)
    refine lv_goto (tgt := 23) hx hb dL_law_1469 (by decide) ?_
    refine lv_iload hx hb dL_law_23 (lv_at hl 0 rfl) ?_
    refine lv_aload_n hx hb dL_law_25 rfl (lv_at hl 4 rfl) ?_
    refine va_slen hx hb hX hbl hbA hS dL_law_26 ?_
    refine xz_i 6 rfl ?_
    refine lv_bipush (v := 6) hx hb dL_law_27 (by decide) ?_
    refine lv_isub hx hb dL_law_29 ?_
    refine xz_i 0 (by decide) ?_
    refine lv_icmp_gt (tgt := 1472) hx hb dL_law_30 (by decide) (fun _ => ?_) (fun c => absurd (by decide) c)
    refine lv_iconst (v := 1) hx hb dL_law_1472 (by decide) ?_
    refine va_forget (fun q hq => by have h9 := hS.2.2 q hq; rw [hAe] at h9; exact h9) ?_
    refine W.widen (k := 600002) (n := 7302232) (Nat.le_of_ble_eq_true rfl) (Nat.le_of_ble_eq_true rfl) ?_
    subst hR
    rw [hQ]
    exact lw_ret hx hb hr hlocks dL_law_1473
  replace hs4 := xne (k := 4) (by decide) hs4
  by_cases hs5 : x1 = 5
  · subst hs5
    refine lv_aload_n hx hb dL_law_494 rfl (lv_at hl 3 rfl) ?_
    refine lv_aload_n hx hb dL_law_495 rfl (lv_at hl 4 rfl) ?_
    refine lv_iload hx hb dL_law_496 (lv_at hl 0 rfl) ?_
    refine lv_iconst (v := 1) hx hb dL_law_498 (by decide) ?_
    refine lv_iadd hx hb dL_law_499 ?_
    refine xz_i 1 (by decide) ?_
    refine va_sld hx hb hX hbl hbA hS (vp_in_nI (n := 1) (by decide) (by decide)) dL_law_500 ?_
    refine xz_i 5 hx1 ?_
    have hPc := hP.sub (ws' := (pre_X11_now_6 T (xa [(a 0), (a 2), (a 4)]) (xa [(ex 0), (ex 1), (ex 2), (ex 3), (ex 4), (ex 5), (ex 6), (ex 7), (ex 8), (ex 9), (ex 10), (ex 11), (ex 26), (ex 27), (ex 28), (ex 29), (ex 30), (ex 31), (ex 32), (ex 33), (ex 34), (ex 35), (ex 36), (ex 37), (ex 38), (ex 39), (ex 40), (ex 41), (ex 42), (ex 43)]) (xf []) (xh []) (xv []))) [0, 2, 4] rfl
    have hDc := hD.sub (ws' := (pre_X11_now_6 T (xa [(a 0), (a 2), (a 4)]) (xa [(ex 0), (ex 1), (ex 2), (ex 3), (ex 4), (ex 5), (ex 6), (ex 7), (ex 8), (ex 9), (ex 10), (ex 11), (ex 26), (ex 27), (ex 28), (ex 29), (ex 30), (ex 31), (ex 32), (ex 33), (ex 34), (ex 35), (ex 36), (ex 37), (ex 38), (ex 39), (ex 40), (ex 41), (ex 42), (ex 43)]) (xf []) (xh []) (xv []))) [0, 2, 4] (by decide) rfl
    have hFc := va_free (wc := (pre_X11_now_6 T (xa [(a 0), (a 2), (a 4)]) (xa [(ex 0), (ex 1), (ex 2), (ex 3), (ex 4), (ex 5), (ex 6), (ex 7), (ex 8), (ex 9), (ex 10), (ex 11), (ex 26), (ex 27), (ex 28), (ex 29), (ex 30), (ex 31), (ex 32), (ex 33), (ex 34), (ex 35), (ex 36), (ex 37), (ex 38), (ex 39), (ex 40), (ex 41), (ex 42), (ex 43)]) (xf []) (xh []) (xv []))) hD hS hA [0, 2, 4] rfl
    refine va_calli (va_runV (As := [.int 5]) (rest := []) ⟨hx, hb, hml, hown, htg⟩ (c_X11_now_6 l D T (xa [(a 0), (a 2), (a 4)]) (xa [(ex 0), (ex 1), (ex 2), (ex 3), (ex 4), (ex 5), (ex 6), (ex 7), (ex 8), (ex 9), (ex 10), (ex 11), (ex 26), (ex 27), (ex 28), (ex 29), (ex 30), (ex 31), (ex 32), (ex 33), (ex 34), (ex 35), (ex 36), (ex 37), (ex 38), (ex 39), (ex 40), (ex 41), (ex 42), (ex 43)]) (xf []) (xh []) (xv []) H.size) ⟨callB_of 1 htg (xg_ok kw_769) rfl rfl rfl (htg _ kw_1) (htg _ kw_766) (by decide +kernel) ⟨by rw [hR]; exact Nat.le_of_ble_eq_true rfl, by rw [hR]; exact Nat.le_of_ble_eq_true rfl⟩, htg _ kw_767, htg _ kw_768⟩ (xpreV hK hPc hDc (va_recv hK.1 hPc (ci := 11) (q0 := 0) rfl rfl)) rfl rfl hl.1 rfl (lv_room (Nat.le_of_ble_eq_true rfl)) dL_law_501 ⟨by rw [hR]; exact Nat.le_of_ble_eq_true rfl, by rw [hR]; exact Nat.le_of_ble_eq_true rfl⟩) hS (fun q _ h => hFc q h) hFc (fun r9 u t H1 locs ht hvm hw hB hz1 hk1 hS => ?_)
    obtain ⟨bk_10, fik_10, flk_10, vik_10, hP1, hD1, hGk_10⟩ := hB
    rw [ht] at hP1
    obtain ⟨hP, hD⟩ := va_join (wr := [((a 1), .inr (12, ((.int 0) :: (.ref (ex 12)) :: (.int 0) :: (.int 0) :: (.int 0) :: (.int 0) :: (.ref (a 3)) :: (.ref (ex 13)) :: (.ref (ex 14)) :: (.ref (ex 15)) :: (.ref (ex 16)) :: (.int 0) :: (.int 0) :: (.int 0) :: (.int 0) :: (.int 0) :: (.int 0) :: (.long 0) :: (.int 0) :: (.int 0) :: (.int 0) :: (.ref (ex 17)) :: (.ref (ex 18)) :: (.int 0) :: (.ref (ex 19)) :: (.int (-1)) :: (.int 0) :: (.int 0) :: (.int 0) :: (.int 0) :: (.int 0) :: (.int 0) :: (.ref (ex 20)) :: (.int 0) :: (.ref (ex 21)) :: (.int 0) :: (.int 0) :: (.int 0) :: (.int 0) :: (.int 0) :: (.ref (ex 22)) :: (.ref (ex 23)) :: (.ref (ex 24)) :: (.ref (ex 25)) :: []))), ((a 3), .inl (T 1, 2187, .inl (fun _ => 0)))]) (w1 := []) hP hD [0, 2, 4] [1, 3] rfl rfl (by decide) (by decide) hk1 hFc hP1 hD1
    subst hw
    clear hPc hDc hFc hP1 hD1 hk1 hz1 hvm ht
    generalize H1 = H at hP hS ⊢
    replace hP : va_P D vwCl [((a 1), .inr (12, ((.int 0) :: (.ref (ex 12)) :: (.int 0) :: (.int 0) :: (.int 0) :: (.int 0) :: (.ref (a 3)) :: (.ref (ex 13)) :: (.ref (ex 14)) :: (.ref (ex 15)) :: (.ref (ex 16)) :: (.int 0) :: (.int 0) :: (.int 0) :: (.int 0) :: (.int 0) :: (.int 0) :: (.long 0) :: (.int 0) :: (.int 0) :: (.int 0) :: (.ref (ex 17)) :: (.ref (ex 18)) :: (.int 0) :: (.ref (ex 19)) :: (.int (-1)) :: (.int 0) :: (.int 0) :: (.int 0) :: (.int 0) :: (.int 0) :: (.int 0) :: (.ref (ex 20)) :: (.int 0) :: (.ref (ex 21)) :: (.int 0) :: (.int 0) :: (.int 0) :: (.int 0) :: (.int 0) :: (.ref (ex 22)) :: (.ref (ex 23)) :: (.ref (ex 24)) :: (.ref (ex 25)) :: []))), ((a 3), .inl (T 1, 2187, .inl (fun _ => 0)))] H := hP
    replace hD : va_D A [((a 1), .inr (12, ((.int 0) :: (.ref (ex 12)) :: (.int 0) :: (.int 0) :: (.int 0) :: (.int 0) :: (.ref (a 3)) :: (.ref (ex 13)) :: (.ref (ex 14)) :: (.ref (ex 15)) :: (.ref (ex 16)) :: (.int 0) :: (.int 0) :: (.int 0) :: (.int 0) :: (.int 0) :: (.int 0) :: (.long 0) :: (.int 0) :: (.int 0) :: (.int 0) :: (.ref (ex 17)) :: (.ref (ex 18)) :: (.int 0) :: (.ref (ex 19)) :: (.int (-1)) :: (.int 0) :: (.int 0) :: (.int 0) :: (.int 0) :: (.int 0) :: (.int 0) :: (.ref (ex 20)) :: (.int 0) :: (.ref (ex 21)) :: (.int 0) :: (.int 0) :: (.int 0) :: (.int 0) :: (.int 0) :: (.ref (ex 22)) :: (.ref (ex 23)) :: (.ref (ex 24)) :: (.ref (ex 25)) :: []))), ((a 3), .inl (T 1, 2187, .inl (fun _ => 0)))] := hD
    refine lv_aload_n hx hb dL_law_504 rfl (lv_at hl 2 rfl) ?_
    refine lv_aload_n hx hb dL_law_505 rfl (lv_at hl 4 rfl) ?_
    refine lv_iload hx hb dL_law_506 (lv_at hl 0 rfl) ?_
    refine lv_iconst (v := 1) hx hb dL_law_508 (by decide) ?_
    refine lv_iadd hx hb dL_law_509 ?_
    refine xz_i 1 (by decide) ?_
    refine va_sld hx hb hX hbl hbA hS (vp_in_nI (n := 1) (by decide) (by decide)) dL_law_510 ?_
    refine xz_i 5 hx1 ?_
    have hPc := hP.sub (ws' := (pre_X12_now_6 T (xa [(a 1), (a 3)]) (xa [(ex 12), (ex 13), (ex 14), (ex 15), (ex 16), (ex 17), (ex 18), (ex 19), (ex 20), (ex 21), (ex 22), (ex 23), (ex 24), (ex 25)]) (xf []) (xh []) (xv []))) [0, 1] rfl
    have hDc := hD.sub (ws' := (pre_X12_now_6 T (xa [(a 1), (a 3)]) (xa [(ex 12), (ex 13), (ex 14), (ex 15), (ex 16), (ex 17), (ex 18), (ex 19), (ex 20), (ex 21), (ex 22), (ex 23), (ex 24), (ex 25)]) (xf []) (xh []) (xv []))) [0, 1] (by decide) rfl
    have hFc := va_free (wc := (pre_X12_now_6 T (xa [(a 1), (a 3)]) (xa [(ex 12), (ex 13), (ex 14), (ex 15), (ex 16), (ex 17), (ex 18), (ex 19), (ex 20), (ex 21), (ex 22), (ex 23), (ex 24), (ex 25)]) (xf []) (xh []) (xv []))) hD hS hA [0, 1] rfl
    refine va_calli (va_runV (As := [.int 5]) (rest := [.int 0]) ⟨hx, hb, hml, hown, htg⟩ (c_X12_now_6 l D T (xa [(a 1), (a 3)]) (xa [(ex 12), (ex 13), (ex 14), (ex 15), (ex 16), (ex 17), (ex 18), (ex 19), (ex 20), (ex 21), (ex 22), (ex 23), (ex 24), (ex 25)]) (xf []) (xh []) (xv []) H.size) ⟨callB_of 1 htg (xg_ok kw_1672) rfl rfl rfl (htg _ kw_17) (htg _ kw_1669) (by decide +kernel) ⟨by rw [hR]; exact Nat.le_of_ble_eq_true rfl, by rw [hR]; exact Nat.le_of_ble_eq_true rfl⟩, htg _ kw_1670, htg _ kw_1671⟩ (xpreV hK hPc hDc (va_recv hK.1 hPc (ci := 12) (q0 := 0) rfl rfl)) rfl rfl hl.1 rfl (lv_room (Nat.le_of_ble_eq_true rfl)) dL_law_511 ⟨by rw [hR]; exact Nat.le_of_ble_eq_true rfl, by rw [hR]; exact Nat.le_of_ble_eq_true rfl⟩) hS (fun q _ h => hFc q h) hFc (fun r9 u t H1 locs ht hvm hw hB hz1 hk1 hS => ?_)
    obtain ⟨bk_11, fik_11, flk_11, vik_11, hP1, hD1, hGk_11⟩ := hB
    rw [ht] at hP1
    obtain ⟨hP, hD⟩ := va_join (wr := []) (w1 := []) hP hD [0, 1] [] rfl rfl (by decide) (by decide) hk1 hFc hP1 hD1
    subst hw
    clear hPc hDc hFc hP1 hD1 hk1 hz1 hvm ht
    generalize H1 = H at hP hS ⊢
    replace hP : va_P D vwCl [] H := hP
    replace hD : va_D A [] := hD
    refine lv_icmp_eq (tgt := 1466) hx hb dL_law_514 (by decide) (fun _ => ?_) (fun c => absurd (by decide) c)
    refine lv_iinc (v := 6) (lv' := [(4, .int 6), (3, .ref (ex 44)), (2, .ref (a 1)), (1, .ref (a 0)), (0, .ref b)]) hx hb dL_law_1466 hl (k := 0) rfl (by decide) (by decide) rfl (fun ls hl => ?_)
    refine lv_goto (tgt := 23) hx hb dL_law_1469 (by decide) ?_
    refine lv_iload hx hb dL_law_23 (lv_at hl 0 rfl) ?_
    refine lv_aload_n hx hb dL_law_25 rfl (lv_at hl 4 rfl) ?_
    refine va_slen hx hb hX hbl hbA hS dL_law_26 ?_
    refine xz_i 6 rfl ?_
    refine lv_bipush (v := 6) hx hb dL_law_27 (by decide) ?_
    refine lv_isub hx hb dL_law_29 ?_
    refine xz_i 0 (by decide) ?_
    refine lv_icmp_gt (tgt := 1472) hx hb dL_law_30 (by decide) (fun _ => ?_) (fun c => absurd (by decide) c)
    refine lv_iconst (v := 1) hx hb dL_law_1472 (by decide) ?_
    refine va_forget (fun q hq => by have h9 := hS.2.2 q hq; rw [hAe] at h9; exact h9) ?_
    refine W.widen (k := 600002) (n := 7302232) (Nat.le_of_ble_eq_true rfl) (Nat.le_of_ble_eq_true rfl) ?_
    subst hR
    rw [hQ]
    exact lw_ret hx hb hr hlocks dL_law_1473
  replace hs5 := xne (k := 5) (by decide) hs5
  by_cases hs6 : x1 = 6
  · subst hs6
    refine lv_aload_n hx hb dL_law_494 rfl (lv_at hl 3 rfl) ?_
    refine lv_aload_n hx hb dL_law_495 rfl (lv_at hl 4 rfl) ?_
    refine lv_iload hx hb dL_law_496 (lv_at hl 0 rfl) ?_
    refine lv_iconst (v := 1) hx hb dL_law_498 (by decide) ?_
    refine lv_iadd hx hb dL_law_499 ?_
    refine xz_i 1 (by decide) ?_
    refine va_sld hx hb hX hbl hbA hS (vp_in_nI (n := 1) (by decide) (by decide)) dL_law_500 ?_
    refine xz_i 6 hx1 ?_
    have hPc := hP.sub (ws' := (pre_X11_now_7 T (xa [(a 0), (a 2)]) (xa [(ex 0), (a 4), (ex 1), (ex 2), (ex 3), (ex 4), (ex 5), (ex 6), (ex 7), (ex 8), (ex 9), (ex 10), (ex 11), (ex 26), (ex 27), (ex 28), (ex 29), (ex 30), (ex 31), (ex 32), (ex 33)]) (xf []) (xh []) (xv []))) [0, 2] rfl
    have hDc := hD.sub (ws' := (pre_X11_now_7 T (xa [(a 0), (a 2)]) (xa [(ex 0), (a 4), (ex 1), (ex 2), (ex 3), (ex 4), (ex 5), (ex 6), (ex 7), (ex 8), (ex 9), (ex 10), (ex 11), (ex 26), (ex 27), (ex 28), (ex 29), (ex 30), (ex 31), (ex 32), (ex 33)]) (xf []) (xh []) (xv []))) [0, 2] (by decide) rfl
    have hFc := va_free (wc := (pre_X11_now_7 T (xa [(a 0), (a 2)]) (xa [(ex 0), (a 4), (ex 1), (ex 2), (ex 3), (ex 4), (ex 5), (ex 6), (ex 7), (ex 8), (ex 9), (ex 10), (ex 11), (ex 26), (ex 27), (ex 28), (ex 29), (ex 30), (ex 31), (ex 32), (ex 33)]) (xf []) (xh []) (xv []))) hD hS hA [0, 2] rfl
    refine va_calli (va_runV (As := [.int 6]) (rest := []) ⟨hx, hb, hml, hown, htg⟩ (c_X11_now_7 l D T (xa [(a 0), (a 2)]) (xa [(ex 0), (a 4), (ex 1), (ex 2), (ex 3), (ex 4), (ex 5), (ex 6), (ex 7), (ex 8), (ex 9), (ex 10), (ex 11), (ex 26), (ex 27), (ex 28), (ex 29), (ex 30), (ex 31), (ex 32), (ex 33)]) (xf []) (xh []) (xv []) H.size) ⟨callB_of 1 htg (xg_ok kw_769) rfl rfl rfl (htg _ kw_1) (htg _ kw_766) (by decide +kernel) ⟨by rw [hR]; exact Nat.le_of_ble_eq_true rfl, by rw [hR]; exact Nat.le_of_ble_eq_true rfl⟩, htg _ kw_767, htg _ kw_768⟩ (xpreV hK hPc hDc (va_recv hK.1 hPc (ci := 11) (q0 := 0) rfl rfl)) rfl rfl hl.1 rfl (lv_room (Nat.le_of_ble_eq_true rfl)) dL_law_501 ⟨by rw [hR]; exact Nat.le_of_ble_eq_true rfl, by rw [hR]; exact Nat.le_of_ble_eq_true rfl⟩) hS (fun q _ h => hFc q h) hFc (fun r9 u t H1 locs ht hvm hw hB hz1 hk1 hS => ?_)
    obtain ⟨bk_12, fik_12, flk_12, vik_12, hP1, hD1, hGk_12⟩ := hB
    rw [ht] at hP1
    obtain ⟨hP, hD⟩ := va_join (wr := [((a 1), .inr (12, ((.int 0) :: (.ref (ex 12)) :: (.int 0) :: (.int 0) :: (.int 0) :: (.int 0) :: (.ref (a 3)) :: (.ref (ex 13)) :: (.ref (ex 14)) :: (.ref (ex 15)) :: (.ref (ex 16)) :: (.int 0) :: (.int 0) :: (.int 0) :: (.int 0) :: (.int 0) :: (.int 0) :: (.long 0) :: (.int 0) :: (.int 0) :: (.int 0) :: (.ref (ex 17)) :: (.ref (ex 18)) :: (.int 0) :: (.ref (ex 19)) :: (.int (-1)) :: (.int 0) :: (.int 0) :: (.int 0) :: (.int 0) :: (.int 0) :: (.int 0) :: (.ref (ex 20)) :: (.int 0) :: (.ref (ex 21)) :: (.int 0) :: (.int 0) :: (.int 0) :: (.int 0) :: (.int 0) :: (.ref (ex 22)) :: (.ref (ex 23)) :: (.ref (ex 24)) :: (.ref (ex 25)) :: []))), ((a 3), .inl (T 1, 2187, .inl (fun _ => 0))), ((a 4), .inr (7, [.int 0, .int 0, .ref (ex 34), .ref (ex 35), .ref (ex 36), .ref (ex 37), .ref (ex 38), .ref (ex 39), .ref (ex 40), .ref (ex 41), .ref (ex 42), .ref (ex 43)]))]) (w1 := []) hP hD [0, 2] [1, 3, 4] rfl rfl (by decide) (by decide) hk1 hFc hP1 hD1
    subst hw
    clear hPc hDc hFc hP1 hD1 hk1 hz1 hvm ht
    generalize H1 = H at hP hS ⊢
    replace hP : va_P D vwCl [((a 1), .inr (12, ((.int 0) :: (.ref (ex 12)) :: (.int 0) :: (.int 0) :: (.int 0) :: (.int 0) :: (.ref (a 3)) :: (.ref (ex 13)) :: (.ref (ex 14)) :: (.ref (ex 15)) :: (.ref (ex 16)) :: (.int 0) :: (.int 0) :: (.int 0) :: (.int 0) :: (.int 0) :: (.int 0) :: (.long 0) :: (.int 0) :: (.int 0) :: (.int 0) :: (.ref (ex 17)) :: (.ref (ex 18)) :: (.int 0) :: (.ref (ex 19)) :: (.int (-1)) :: (.int 0) :: (.int 0) :: (.int 0) :: (.int 0) :: (.int 0) :: (.int 0) :: (.ref (ex 20)) :: (.int 0) :: (.ref (ex 21)) :: (.int 0) :: (.int 0) :: (.int 0) :: (.int 0) :: (.int 0) :: (.ref (ex 22)) :: (.ref (ex 23)) :: (.ref (ex 24)) :: (.ref (ex 25)) :: []))), ((a 3), .inl (T 1, 2187, .inl (fun _ => 0))), ((a 4), .inr (7, [.int 0, .int 0, .ref (ex 34), .ref (ex 35), .ref (ex 36), .ref (ex 37), .ref (ex 38), .ref (ex 39), .ref (ex 40), .ref (ex 41), .ref (ex 42), .ref (ex 43)]))] H := hP
    replace hD : va_D A [((a 1), .inr (12, ((.int 0) :: (.ref (ex 12)) :: (.int 0) :: (.int 0) :: (.int 0) :: (.int 0) :: (.ref (a 3)) :: (.ref (ex 13)) :: (.ref (ex 14)) :: (.ref (ex 15)) :: (.ref (ex 16)) :: (.int 0) :: (.int 0) :: (.int 0) :: (.int 0) :: (.int 0) :: (.int 0) :: (.long 0) :: (.int 0) :: (.int 0) :: (.int 0) :: (.ref (ex 17)) :: (.ref (ex 18)) :: (.int 0) :: (.ref (ex 19)) :: (.int (-1)) :: (.int 0) :: (.int 0) :: (.int 0) :: (.int 0) :: (.int 0) :: (.int 0) :: (.ref (ex 20)) :: (.int 0) :: (.ref (ex 21)) :: (.int 0) :: (.int 0) :: (.int 0) :: (.int 0) :: (.int 0) :: (.ref (ex 22)) :: (.ref (ex 23)) :: (.ref (ex 24)) :: (.ref (ex 25)) :: []))), ((a 3), .inl (T 1, 2187, .inl (fun _ => 0))), ((a 4), .inr (7, [.int 0, .int 0, .ref (ex 34), .ref (ex 35), .ref (ex 36), .ref (ex 37), .ref (ex 38), .ref (ex 39), .ref (ex 40), .ref (ex 41), .ref (ex 42), .ref (ex 43)]))] := hD
    refine lv_aload_n hx hb dL_law_504 rfl (lv_at hl 2 rfl) ?_
    refine lv_aload_n hx hb dL_law_505 rfl (lv_at hl 4 rfl) ?_
    refine lv_iload hx hb dL_law_506 (lv_at hl 0 rfl) ?_
    refine lv_iconst (v := 1) hx hb dL_law_508 (by decide) ?_
    refine lv_iadd hx hb dL_law_509 ?_
    refine xz_i 1 (by decide) ?_
    refine va_sld hx hb hX hbl hbA hS (vp_in_nI (n := 1) (by decide) (by decide)) dL_law_510 ?_
    refine xz_i 6 hx1 ?_
    have hPc := hP.sub (ws' := (pre_X12_now_7 T (xa [(a 1), (a 3)]) (xa [(ex 12), (ex 13), (ex 14), (ex 15), (ex 16), (ex 17), (ex 18), (ex 19), (ex 20), (ex 21), (ex 22), (ex 23), (ex 24), (ex 25)]) (xf []) (xh []) (xv []))) [0, 1] rfl
    have hDc := hD.sub (ws' := (pre_X12_now_7 T (xa [(a 1), (a 3)]) (xa [(ex 12), (ex 13), (ex 14), (ex 15), (ex 16), (ex 17), (ex 18), (ex 19), (ex 20), (ex 21), (ex 22), (ex 23), (ex 24), (ex 25)]) (xf []) (xh []) (xv []))) [0, 1] (by decide) rfl
    have hFc := va_free (wc := (pre_X12_now_7 T (xa [(a 1), (a 3)]) (xa [(ex 12), (ex 13), (ex 14), (ex 15), (ex 16), (ex 17), (ex 18), (ex 19), (ex 20), (ex 21), (ex 22), (ex 23), (ex 24), (ex 25)]) (xf []) (xh []) (xv []))) hD hS hA [0, 1] rfl
    refine va_calli (va_runV (As := [.int 6]) (rest := [.int 0]) ⟨hx, hb, hml, hown, htg⟩ (c_X12_now_7 l D T (xa [(a 1), (a 3)]) (xa [(ex 12), (ex 13), (ex 14), (ex 15), (ex 16), (ex 17), (ex 18), (ex 19), (ex 20), (ex 21), (ex 22), (ex 23), (ex 24), (ex 25)]) (xf []) (xh []) (xv []) H.size) ⟨callB_of 1 htg (xg_ok kw_1672) rfl rfl rfl (htg _ kw_17) (htg _ kw_1669) (by decide +kernel) ⟨by rw [hR]; exact Nat.le_of_ble_eq_true rfl, by rw [hR]; exact Nat.le_of_ble_eq_true rfl⟩, htg _ kw_1670, htg _ kw_1671⟩ (xpreV hK hPc hDc (va_recv hK.1 hPc (ci := 12) (q0 := 0) rfl rfl)) rfl rfl hl.1 rfl (lv_room (Nat.le_of_ble_eq_true rfl)) dL_law_511 ⟨by rw [hR]; exact Nat.le_of_ble_eq_true rfl, by rw [hR]; exact Nat.le_of_ble_eq_true rfl⟩) hS (fun q _ h => hFc q h) hFc (fun r9 u t H1 locs ht hvm hw hB hz1 hk1 hS => ?_)
    obtain ⟨bk_13, fik_13, flk_13, vik_13, hP1, hD1, hGk_13⟩ := hB
    rw [ht] at hP1
    obtain ⟨hP, hD⟩ := va_join (wr := [((a 4), .inr (7, [.int 0, .int 0, .ref (ex 34), .ref (ex 35), .ref (ex 36), .ref (ex 37), .ref (ex 38), .ref (ex 39), .ref (ex 40), .ref (ex 41), .ref (ex 42), .ref (ex 43)]))]) (w1 := []) hP hD [0, 1] [2] rfl rfl (by decide) (by decide) hk1 hFc hP1 hD1
    subst hw
    clear hPc hDc hFc hP1 hD1 hk1 hz1 hvm ht
    generalize H1 = H at hP hS ⊢
    replace hP : va_P D vwCl [((a 4), .inr (7, [.int 0, .int 0, .ref (ex 34), .ref (ex 35), .ref (ex 36), .ref (ex 37), .ref (ex 38), .ref (ex 39), .ref (ex 40), .ref (ex 41), .ref (ex 42), .ref (ex 43)]))] H := hP
    replace hD : va_D A [((a 4), .inr (7, [.int 0, .int 0, .ref (ex 34), .ref (ex 35), .ref (ex 36), .ref (ex 37), .ref (ex 38), .ref (ex 39), .ref (ex 40), .ref (ex 41), .ref (ex 42), .ref (ex 43)]))] := hD
    refine lv_icmp_eq (tgt := 1466) hx hb dL_law_514 (by decide) (fun _ => ?_) (fun c => absurd (by decide) c)
    refine lv_iinc (v := 6) (lv' := [(4, .int 6), (3, .ref (ex 44)), (2, .ref (a 1)), (1, .ref (a 0)), (0, .ref b)]) hx hb dL_law_1466 hl (k := 0) rfl (by decide) (by decide) rfl (fun ls hl => ?_)
    refine lv_goto (tgt := 23) hx hb dL_law_1469 (by decide) ?_
    refine lv_iload hx hb dL_law_23 (lv_at hl 0 rfl) ?_
    refine lv_aload_n hx hb dL_law_25 rfl (lv_at hl 4 rfl) ?_
    refine va_slen hx hb hX hbl hbA hS dL_law_26 ?_
    refine xz_i 6 rfl ?_
    refine lv_bipush (v := 6) hx hb dL_law_27 (by decide) ?_
    refine lv_isub hx hb dL_law_29 ?_
    refine xz_i 0 (by decide) ?_
    refine lv_icmp_gt (tgt := 1472) hx hb dL_law_30 (by decide) (fun _ => ?_) (fun c => absurd (by decide) c)
    refine lv_iconst (v := 1) hx hb dL_law_1472 (by decide) ?_
    refine va_forget (fun q hq => by have h9 := hS.2.2 q hq; rw [hAe] at h9; exact h9) ?_
    refine W.widen (k := 600002) (n := 7302232) (Nat.le_of_ble_eq_true rfl) (Nat.le_of_ble_eq_true rfl) ?_
    subst hR
    rw [hQ]
    exact lw_ret hx hb hr hlocks dL_law_1473
  replace hs6 := xne (k := 6) (by decide) hs6
  refine lv_aload_n hx hb dL_law_494 rfl (lv_at hl 3 rfl) ?_
  refine lv_aload_n hx hb dL_law_495 rfl (lv_at hl 4 rfl) ?_
  refine lv_iload hx hb dL_law_496 (lv_at hl 0 rfl) ?_
  refine lv_iconst (v := 1) hx hb dL_law_498 (by decide) ?_
  refine lv_iadd hx hb dL_law_499 ?_
  refine xz_i 1 (by decide) ?_
  refine va_sld hx hb hX hbl hbA hS (vp_in_nI (n := 1) (by decide) (by decide)) dL_law_500 ?_
  refine xz_i x1 hx1 ?_
  have hPc := hP.sub (ws' := (pre_X11_now_8 T (xa [(a 0)]) (xa [(ex 0), (a 4), (ex 1), (ex 2), (a 2), (ex 3), (ex 4), (ex 5), (ex 6), (ex 7), (ex 8), (ex 9), (ex 10), (ex 11)]) (xf []) (xh []) (xv [x1]))) [0] rfl
  have hDc := hD.sub (ws' := (pre_X11_now_8 T (xa [(a 0)]) (xa [(ex 0), (a 4), (ex 1), (ex 2), (a 2), (ex 3), (ex 4), (ex 5), (ex 6), (ex 7), (ex 8), (ex 9), (ex 10), (ex 11)]) (xf []) (xh []) (xv [x1]))) [0] (by decide) rfl
  have hFc := va_free (wc := (pre_X11_now_8 T (xa [(a 0)]) (xa [(ex 0), (a 4), (ex 1), (ex 2), (a 2), (ex 3), (ex 4), (ex 5), (ex 6), (ex 7), (ex 8), (ex 9), (ex 10), (ex 11)]) (xf []) (xh []) (xv [x1]))) hD hS hA [0] rfl
  refine va_calli (va_runV (As := [.int x1]) (rest := []) ⟨hx, hb, hml, hown, htg⟩ (c_X11_now_8 l D T (xa [(a 0)]) (xa [(ex 0), (a 4), (ex 1), (ex 2), (a 2), (ex 3), (ex 4), (ex 5), (ex 6), (ex 7), (ex 8), (ex 9), (ex 10), (ex 11)]) (xf []) (xh []) (xv [x1]) H.size (by show (x1 : Int32).toInt ≤ -1 ∨ 7 ≤ (x1 : Int32).toInt; omega)) ⟨callB_of 1 htg (xg_ok kw_769) rfl rfl rfl (htg _ kw_1) (htg _ kw_766) (by decide +kernel) ⟨by rw [hR]; exact Nat.le_of_ble_eq_true rfl, by rw [hR]; exact Nat.le_of_ble_eq_true rfl⟩, htg _ kw_767, htg _ kw_768⟩ (xpreV hK hPc hDc (va_recv hK.1 hPc (ci := 11) (q0 := 0) rfl rfl)) rfl rfl hl.1 rfl (lv_room (Nat.le_of_ble_eq_true rfl)) dL_law_501 ⟨by rw [hR]; exact Nat.le_of_ble_eq_true rfl, by rw [hR]; exact Nat.le_of_ble_eq_true rfl⟩) hS (fun q _ h => hFc q h) hFc (fun r9 u t H1 locs ht hvm hw hB hz1 hk1 hS => ?_)
  obtain ⟨bk_14, fik_14, flk_14, vik_14, hP1, hD1, hGk_14⟩ := hB
  rw [ht] at hP1
  obtain ⟨hP, hD⟩ := va_join (wr := [((a 1), .inr (12, ((.int 0) :: (.ref (ex 12)) :: (.int 0) :: (.int 0) :: (.int 0) :: (.int 0) :: (.ref (a 3)) :: (.ref (ex 13)) :: (.ref (ex 14)) :: (.ref (ex 15)) :: (.ref (ex 16)) :: (.int 0) :: (.int 0) :: (.int 0) :: (.int 0) :: (.int 0) :: (.int 0) :: (.long 0) :: (.int 0) :: (.int 0) :: (.int 0) :: (.ref (ex 17)) :: (.ref (ex 18)) :: (.int 0) :: (.ref (ex 19)) :: (.int (-1)) :: (.int 0) :: (.int 0) :: (.int 0) :: (.int 0) :: (.int 0) :: (.int 0) :: (.ref (ex 20)) :: (.int 0) :: (.ref (ex 21)) :: (.int 0) :: (.int 0) :: (.int 0) :: (.int 0) :: (.int 0) :: (.ref (ex 22)) :: (.ref (ex 23)) :: (.ref (ex 24)) :: (.ref (ex 25)) :: []))), ((a 2), .inr (2, [.ref (a 4), .int 0, .int 0, .int 0, .int 0, .int 0, .int 0, .ref (ex 26), .ref (ex 27), .ref (ex 28), .ref (ex 29), .ref (ex 30), .ref (ex 31), .ref (ex 32), .ref (ex 33)])), ((a 3), .inl (T 1, 2187, .inl (fun _ => 0))), ((a 4), .inr (7, [.int 0, .int 0, .ref (ex 34), .ref (ex 35), .ref (ex 36), .ref (ex 37), .ref (ex 38), .ref (ex 39), .ref (ex 40), .ref (ex 41), .ref (ex 42), .ref (ex 43)]))]) (w1 := []) hP hD [0] [1, 2, 3, 4] rfl rfl (by decide) (by decide) hk1 hFc hP1 hD1
  subst hw
  clear hPc hDc hFc hP1 hD1 hk1 hz1 hvm ht
  generalize H1 = H at hP hS ⊢
  replace hP : va_P D vwCl [((a 1), .inr (12, ((.int 0) :: (.ref (ex 12)) :: (.int 0) :: (.int 0) :: (.int 0) :: (.int 0) :: (.ref (a 3)) :: (.ref (ex 13)) :: (.ref (ex 14)) :: (.ref (ex 15)) :: (.ref (ex 16)) :: (.int 0) :: (.int 0) :: (.int 0) :: (.int 0) :: (.int 0) :: (.int 0) :: (.long 0) :: (.int 0) :: (.int 0) :: (.int 0) :: (.ref (ex 17)) :: (.ref (ex 18)) :: (.int 0) :: (.ref (ex 19)) :: (.int (-1)) :: (.int 0) :: (.int 0) :: (.int 0) :: (.int 0) :: (.int 0) :: (.int 0) :: (.ref (ex 20)) :: (.int 0) :: (.ref (ex 21)) :: (.int 0) :: (.int 0) :: (.int 0) :: (.int 0) :: (.int 0) :: (.ref (ex 22)) :: (.ref (ex 23)) :: (.ref (ex 24)) :: (.ref (ex 25)) :: []))), ((a 2), .inr (2, [.ref (a 4), .int 0, .int 0, .int 0, .int 0, .int 0, .int 0, .ref (ex 26), .ref (ex 27), .ref (ex 28), .ref (ex 29), .ref (ex 30), .ref (ex 31), .ref (ex 32), .ref (ex 33)])), ((a 3), .inl (T 1, 2187, .inl (fun _ => 0))), ((a 4), .inr (7, [.int 0, .int 0, .ref (ex 34), .ref (ex 35), .ref (ex 36), .ref (ex 37), .ref (ex 38), .ref (ex 39), .ref (ex 40), .ref (ex 41), .ref (ex 42), .ref (ex 43)]))] H := hP
  replace hD : va_D A [((a 1), .inr (12, ((.int 0) :: (.ref (ex 12)) :: (.int 0) :: (.int 0) :: (.int 0) :: (.int 0) :: (.ref (a 3)) :: (.ref (ex 13)) :: (.ref (ex 14)) :: (.ref (ex 15)) :: (.ref (ex 16)) :: (.int 0) :: (.int 0) :: (.int 0) :: (.int 0) :: (.int 0) :: (.int 0) :: (.long 0) :: (.int 0) :: (.int 0) :: (.int 0) :: (.ref (ex 17)) :: (.ref (ex 18)) :: (.int 0) :: (.ref (ex 19)) :: (.int (-1)) :: (.int 0) :: (.int 0) :: (.int 0) :: (.int 0) :: (.int 0) :: (.int 0) :: (.ref (ex 20)) :: (.int 0) :: (.ref (ex 21)) :: (.int 0) :: (.int 0) :: (.int 0) :: (.int 0) :: (.int 0) :: (.ref (ex 22)) :: (.ref (ex 23)) :: (.ref (ex 24)) :: (.ref (ex 25)) :: []))), ((a 2), .inr (2, [.ref (a 4), .int 0, .int 0, .int 0, .int 0, .int 0, .int 0, .ref (ex 26), .ref (ex 27), .ref (ex 28), .ref (ex 29), .ref (ex 30), .ref (ex 31), .ref (ex 32), .ref (ex 33)])), ((a 3), .inl (T 1, 2187, .inl (fun _ => 0))), ((a 4), .inr (7, [.int 0, .int 0, .ref (ex 34), .ref (ex 35), .ref (ex 36), .ref (ex 37), .ref (ex 38), .ref (ex 39), .ref (ex 40), .ref (ex 41), .ref (ex 42), .ref (ex 43)]))] := hD
  refine lv_aload_n hx hb dL_law_504 rfl (lv_at hl 2 rfl) ?_
  refine lv_aload_n hx hb dL_law_505 rfl (lv_at hl 4 rfl) ?_
  refine lv_iload hx hb dL_law_506 (lv_at hl 0 rfl) ?_
  refine lv_iconst (v := 1) hx hb dL_law_508 (by decide) ?_
  refine lv_iadd hx hb dL_law_509 ?_
  refine xz_i 1 (by decide) ?_
  refine va_sld hx hb hX hbl hbA hS (vp_in_nI (n := 1) (by decide) (by decide)) dL_law_510 ?_
  refine xz_i x1 hx1 ?_
  have hPc := hP.sub (ws' := (pre_X12_now_8 T (xa [(a 1)]) (xa [(ex 12), (a 3), (ex 13), (ex 14), (ex 15), (ex 16), (ex 17), (ex 18), (ex 19), (ex 20), (ex 21), (ex 22), (ex 23), (ex 24), (ex 25)]) (xf []) (xh []) (xv [x1]))) [0] rfl
  have hDc := hD.sub (ws' := (pre_X12_now_8 T (xa [(a 1)]) (xa [(ex 12), (a 3), (ex 13), (ex 14), (ex 15), (ex 16), (ex 17), (ex 18), (ex 19), (ex 20), (ex 21), (ex 22), (ex 23), (ex 24), (ex 25)]) (xf []) (xh []) (xv [x1]))) [0] (by decide) rfl
  have hFc := va_free (wc := (pre_X12_now_8 T (xa [(a 1)]) (xa [(ex 12), (a 3), (ex 13), (ex 14), (ex 15), (ex 16), (ex 17), (ex 18), (ex 19), (ex 20), (ex 21), (ex 22), (ex 23), (ex 24), (ex 25)]) (xf []) (xh []) (xv [x1]))) hD hS hA [0] rfl
  refine va_calli (va_runV (As := [.int x1]) (rest := [.int (-1)]) ⟨hx, hb, hml, hown, htg⟩ (c_X12_now_8 l D T (xa [(a 1)]) (xa [(ex 12), (a 3), (ex 13), (ex 14), (ex 15), (ex 16), (ex 17), (ex 18), (ex 19), (ex 20), (ex 21), (ex 22), (ex 23), (ex 24), (ex 25)]) (xf []) (xh []) (xv [x1]) H.size (by show (x1 : Int32).toInt ≤ -1 ∨ 7 ≤ (x1 : Int32).toInt; omega)) ⟨callB_of 1 htg (xg_ok kw_1672) rfl rfl rfl (htg _ kw_17) (htg _ kw_1669) (by decide +kernel) ⟨by rw [hR]; exact Nat.le_of_ble_eq_true rfl, by rw [hR]; exact Nat.le_of_ble_eq_true rfl⟩, htg _ kw_1670, htg _ kw_1671⟩ (xpreV hK hPc hDc (va_recv hK.1 hPc (ci := 12) (q0 := 0) rfl rfl)) rfl rfl hl.1 rfl (lv_room (Nat.le_of_ble_eq_true rfl)) dL_law_511 ⟨by rw [hR]; exact Nat.le_of_ble_eq_true rfl, by rw [hR]; exact Nat.le_of_ble_eq_true rfl⟩) hS (fun q _ h => hFc q h) hFc (fun r9 u t H1 locs ht hvm hw hB hz1 hk1 hS => ?_)
  obtain ⟨bk_15, fik_15, flk_15, vik_15, hP1, hD1, hGk_15⟩ := hB
  rw [ht] at hP1
  obtain ⟨hP, hD⟩ := va_join (wr := [((a 2), .inr (2, [.ref (a 4), .int 0, .int 0, .int 0, .int 0, .int 0, .int 0, .ref (ex 26), .ref (ex 27), .ref (ex 28), .ref (ex 29), .ref (ex 30), .ref (ex 31), .ref (ex 32), .ref (ex 33)])), ((a 3), .inl (T 1, 2187, .inl (fun _ => 0))), ((a 4), .inr (7, [.int 0, .int 0, .ref (ex 34), .ref (ex 35), .ref (ex 36), .ref (ex 37), .ref (ex 38), .ref (ex 39), .ref (ex 40), .ref (ex 41), .ref (ex 42), .ref (ex 43)]))]) (w1 := []) hP hD [0] [1, 2, 3] rfl rfl (by decide) (by decide) hk1 hFc hP1 hD1
  subst hw
  clear hPc hDc hFc hP1 hD1 hk1 hz1 hvm ht
  generalize H1 = H at hP hS ⊢
  replace hP : va_P D vwCl [((a 2), .inr (2, [.ref (a 4), .int 0, .int 0, .int 0, .int 0, .int 0, .int 0, .ref (ex 26), .ref (ex 27), .ref (ex 28), .ref (ex 29), .ref (ex 30), .ref (ex 31), .ref (ex 32), .ref (ex 33)])), ((a 3), .inl (T 1, 2187, .inl (fun _ => 0))), ((a 4), .inr (7, [.int 0, .int 0, .ref (ex 34), .ref (ex 35), .ref (ex 36), .ref (ex 37), .ref (ex 38), .ref (ex 39), .ref (ex 40), .ref (ex 41), .ref (ex 42), .ref (ex 43)]))] H := hP
  replace hD : va_D A [((a 2), .inr (2, [.ref (a 4), .int 0, .int 0, .int 0, .int 0, .int 0, .int 0, .ref (ex 26), .ref (ex 27), .ref (ex 28), .ref (ex 29), .ref (ex 30), .ref (ex 31), .ref (ex 32), .ref (ex 33)])), ((a 3), .inl (T 1, 2187, .inl (fun _ => 0))), ((a 4), .inr (7, [.int 0, .int 0, .ref (ex 34), .ref (ex 35), .ref (ex 36), .ref (ex 37), .ref (ex 38), .ref (ex 39), .ref (ex 40), .ref (ex 41), .ref (ex 42), .ref (ex 43)]))] := hD
  refine lv_icmp_eq (tgt := 1466) hx hb dL_law_514 (by decide) (fun _ => ?_) (fun c => absurd (by decide) c)
  refine lv_iinc (v := 6) (lv' := [(4, .int 6), (3, .ref (ex 44)), (2, .ref (a 1)), (1, .ref (a 0)), (0, .ref b)]) hx hb dL_law_1466 hl (k := 0) rfl (by decide) (by decide) rfl (fun ls hl => ?_)
  refine lv_goto (tgt := 23) hx hb dL_law_1469 (by decide) ?_
  refine lv_iload hx hb dL_law_23 (lv_at hl 0 rfl) ?_
  refine lv_aload_n hx hb dL_law_25 rfl (lv_at hl 4 rfl) ?_
  refine va_slen hx hb hX hbl hbA hS dL_law_26 ?_
  refine xz_i 6 rfl ?_
  refine lv_bipush (v := 6) hx hb dL_law_27 (by decide) ?_
  refine lv_isub hx hb dL_law_29 ?_
  refine xz_i 0 (by decide) ?_
  refine lv_icmp_gt (tgt := 1472) hx hb dL_law_30 (by decide) (fun _ => ?_) (fun c => absurd (by decide) c)
  refine lv_iconst (v := 1) hx hb dL_law_1472 (by decide) ?_
  refine va_forget (fun q hq => by have h9 := hS.2.2 q hq; rw [hAe] at h9; exact h9) ?_
  refine W.widen (k := 600002) (n := 7302232) (Nat.le_of_ble_eq_true rfl) (Nat.le_of_ble_eq_true rfl) ?_
  subst hR
  rw [hQ]
  exact lw_ret hx hb hr hlocks dL_law_1473
set_option maxHeartbeats 4000000 in
set_option maxRecDepth 100000 in
theorem lw_take {p : Program} {e : Env} {s : State} {m : MethodId} {below : List Frame} {meth : Method} {c : Code} (l : Launch) (hlt : l.stackTraces = false) {b : Nat} {xs : Nat → Int32} (D : va_G) (T : Nat → ClassId) (a ex : Nat → Nat) (fi : Nat → Nat → Int32) (fl : Nat → Nat → Int64) (vi : Nat → Int32) (kK kV : Nat → Nat) (R : Room) (Q : State → Prop) (A : Nat → Prop) (hR : R = room_1) (hQ : Q = lw_Z below #[Value.ref b] s) (hAe : A = fun q => s.heap.size ≤ q) (hx : p.tables.exec = Jvm.exec) (hb : c.code = code) (hr : meth.sig.returnType = ret) (hml : c.maxLocals = 7) (hown : s.vm.findClass RL = some m.cls) (htg : ∀ w ∈ xg, w.before #[Value.ref b] s = true) (hbl : b < s.heap.size) (hbA : ¬ A b) (hlocks : meth.locks = false) (hK : xK D T s) (hA : ∀ q : Nat, s.heap.size ≤ q → A q) (hT : xT kK kV A s s.heap) (hZt : xZ2 A s s.heap) (hX : va_X b 6 xs s s.heap) (x1 x2 x3 x4 x5 : Int32) (hx1 : xs 1 = x1) (hx2 : xs 2 = x2) (hx3 : xs 3 = x3) (hx4 : xs 4 = x4) (hx5 : xs 5 = x5) (H : Heap) (locs : List Loc) (ls : Array Slot) (hP : va_P D vwCl [((a 0), .inr (11, [.ref (ex 0), .ref (a 2), .ref (ex 1), .ref (ex 2), .ref (ex 3), .ref (ex 4), .ref (ex 5), .ref (ex 6), .ref (ex 7), .ref (ex 8), .ref (ex 9), .ref (ex 10), .ref (ex 11), .ref (ex 12), .int 0])), ((a 1), .inr (12, ((.int 0) :: (.ref (ex 13)) :: (.int 0) :: (.int 0) :: (.int 0) :: (.int 0) :: (.ref (a 3)) :: (.ref (ex 14)) :: (.ref (ex 15)) :: (.ref (ex 16)) :: (.ref (ex 17)) :: (.int 0) :: (.int 0) :: (.int 0) :: (.int 0) :: (.int 0) :: (.int 0) :: (.long 0) :: (.int 0) :: (.int 0) :: (.int 0) :: (.ref (ex 18)) :: (.ref (ex 19)) :: (.int 0) :: (.ref (ex 20)) :: (.int (-1)) :: (.int 0) :: (.int 0) :: (.int 0) :: (.int 0) :: (.int 0) :: (.int 0) :: (.ref (ex 21)) :: (.int 0) :: (.ref (ex 22)) :: (.int 0) :: (.int 0) :: (.int 0) :: (.int 0) :: (.int 0) :: (.ref (ex 23)) :: (.ref (ex 24)) :: (.ref (ex 25)) :: (.ref (ex 26)) :: []))), ((a 2), .inr (7, [.int 0, .int 0, .ref (ex 27), .ref (ex 28), .ref (ex 29), .ref (ex 30), .ref (ex 31), .ref (ex 32), .ref (ex 33), .ref (ex 34), .ref (ex 35), .ref (ex 36)])), ((a 3), .inl (T 1, 2187, .inl (fun _ => 0)))] H) (hD : va_D A [((a 0), .inr (11, [.ref (ex 0), .ref (a 2), .ref (ex 1), .ref (ex 2), .ref (ex 3), .ref (ex 4), .ref (ex 5), .ref (ex 6), .ref (ex 7), .ref (ex 8), .ref (ex 9), .ref (ex 10), .ref (ex 11), .ref (ex 12), .int 0])), ((a 1), .inr (12, ((.int 0) :: (.ref (ex 13)) :: (.int 0) :: (.int 0) :: (.int 0) :: (.int 0) :: (.ref (a 3)) :: (.ref (ex 14)) :: (.ref (ex 15)) :: (.ref (ex 16)) :: (.ref (ex 17)) :: (.int 0) :: (.int 0) :: (.int 0) :: (.int 0) :: (.int 0) :: (.int 0) :: (.long 0) :: (.int 0) :: (.int 0) :: (.int 0) :: (.ref (ex 18)) :: (.ref (ex 19)) :: (.int 0) :: (.ref (ex 20)) :: (.int (-1)) :: (.int 0) :: (.int 0) :: (.int 0) :: (.int 0) :: (.int 0) :: (.int 0) :: (.ref (ex 21)) :: (.int 0) :: (.ref (ex 22)) :: (.int 0) :: (.int 0) :: (.int 0) :: (.int 0) :: (.int 0) :: (.ref (ex 23)) :: (.ref (ex 24)) :: (.ref (ex 25)) :: (.ref (ex 26)) :: []))), ((a 2), .inr (7, [.int 0, .int 0, .ref (ex 27), .ref (ex 28), .ref (ex 29), .ref (ex 30), .ref (ex 31), .ref (ex 32), .ref (ex 33), .ref (ex 34), .ref (ex 35), .ref (ex 36)])), ((a 3), .inl (T 1, 2187, .inl (fun _ => 0)))]) (hS : va_S A s.heap H locs) (hl : lv_has ls 7 [(4, .int 0), (3, .ref (ex 37)), (2, .ref (a 1)), (1, .ref (a 0)), (0, .ref b)]) : W p l e R s m #[Value.ref b] below meth c H locs 172 22099 Q (F0 m 519 ls []) := by
  refine lv_aload_n hx hb dL_law_519 rfl (lv_at hl 3 rfl) ?_
  refine lv_aload_n hx hb dL_law_520 rfl (lv_at hl 4 rfl) ?_
  refine lv_iload hx hb dL_law_521 (lv_at hl 0 rfl) ?_
  refine lv_iconst (v := 1) hx hb dL_law_523 (by decide) ?_
  refine lv_iadd hx hb dL_law_524 ?_
  refine xz_i 1 (by decide) ?_
  refine va_sld hx hb hX hbl hbA hS (vp_in_nI (n := 1) (by decide) (by decide)) dL_law_525 ?_
  refine xz_i x1 hx1 ?_
  refine lv_aload_n hx hb dL_law_526 rfl (lv_at hl 4 rfl) ?_
  refine lv_iload hx hb dL_law_527 (lv_at hl 0 rfl) ?_
  refine lv_iconst (v := 2) hx hb dL_law_529 (by decide) ?_
  refine lv_iadd hx hb dL_law_530 ?_
  refine xz_i 2 (by decide) ?_
  refine va_sld hx hb hX hbl hbA hS (vp_in_nI (n := 2) (by decide) (by decide)) dL_law_531 ?_
  refine xz_i x2 hx2 ?_
  have hPc := hP.sub (ws' := (pre_X11_take T (xa [(a 0), (a 2)]) (xa [(ex 0), (ex 1), (ex 2), (ex 3), (ex 4), (ex 5), (ex 6), (ex 7), (ex 8), (ex 9), (ex 10), (ex 11), (ex 12), (ex 27), (ex 28), (ex 29), (ex 30), (ex 31), (ex 32), (ex 33), (ex 34), (ex 35), (ex 36)]) (xf []) (xh []) (xv [x1, x2]))) [0, 2] rfl
  have hDc := hD.sub (ws' := (pre_X11_take T (xa [(a 0), (a 2)]) (xa [(ex 0), (ex 1), (ex 2), (ex 3), (ex 4), (ex 5), (ex 6), (ex 7), (ex 8), (ex 9), (ex 10), (ex 11), (ex 12), (ex 27), (ex 28), (ex 29), (ex 30), (ex 31), (ex 32), (ex 33), (ex 34), (ex 35), (ex 36)]) (xf []) (xh []) (xv [x1, x2]))) [0, 2] (by decide) rfl
  have hFc := va_free (wc := (pre_X11_take T (xa [(a 0), (a 2)]) (xa [(ex 0), (ex 1), (ex 2), (ex 3), (ex 4), (ex 5), (ex 6), (ex 7), (ex 8), (ex 9), (ex 10), (ex 11), (ex 12), (ex 27), (ex 28), (ex 29), (ex 30), (ex 31), (ex 32), (ex 33), (ex 34), (ex 35), (ex 36)]) (xf []) (xh []) (xv [x1, x2]))) hD hS hA [0, 2] rfl
  refine va_calli (va_runV (As := [.int x1, .int x2]) (rest := []) ⟨hx, hb, hml, hown, htg⟩ (c_X11_take l D T (xa [(a 0), (a 2)]) (xa [(ex 0), (ex 1), (ex 2), (ex 3), (ex 4), (ex 5), (ex 6), (ex 7), (ex 8), (ex 9), (ex 10), (ex 11), (ex 12), (ex 27), (ex 28), (ex 29), (ex 30), (ex 31), (ex 32), (ex 33), (ex 34), (ex 35), (ex 36)]) (xf []) (xh []) (xv [x1, x2]) H.size) ⟨callB_of 2 htg (xg_ok kw_780) rfl rfl rfl (htg _ kw_1) (htg _ kw_777) (by decide +kernel) ⟨by rw [hR]; exact Nat.le_of_ble_eq_true rfl, by rw [hR]; exact Nat.le_of_ble_eq_true rfl⟩, htg _ kw_778, htg _ kw_779⟩ (xpreV hK hPc hDc (va_recv hK.1 hPc (ci := 11) (q0 := 0) rfl rfl)) rfl rfl hl.1 rfl (lv_room (Nat.le_of_ble_eq_true rfl)) dL_law_532 ⟨by rw [hR]; exact Nat.le_of_ble_eq_true rfl, by rw [hR]; exact Nat.le_of_ble_eq_true rfl⟩) hS (fun q _ h => hFc q h) hFc (fun r9 u t H1 locs ht hvm hw hB hz1 hk1 hS => ?_)
  obtain ⟨bk, fik, flk, vik, hP1, hD1, hGk⟩ := hB
  rw [ht] at hP1
  obtain ⟨hP, hD⟩ := va_join (wr := [((a 1), .inr (12, ((.int 0) :: (.ref (ex 13)) :: (.int 0) :: (.int 0) :: (.int 0) :: (.int 0) :: (.ref (a 3)) :: (.ref (ex 14)) :: (.ref (ex 15)) :: (.ref (ex 16)) :: (.ref (ex 17)) :: (.int 0) :: (.int 0) :: (.int 0) :: (.int 0) :: (.int 0) :: (.int 0) :: (.long 0) :: (.int 0) :: (.int 0) :: (.int 0) :: (.ref (ex 18)) :: (.ref (ex 19)) :: (.int 0) :: (.ref (ex 20)) :: (.int (-1)) :: (.int 0) :: (.int 0) :: (.int 0) :: (.int 0) :: (.int 0) :: (.int 0) :: (.ref (ex 21)) :: (.int 0) :: (.ref (ex 22)) :: (.int 0) :: (.int 0) :: (.int 0) :: (.int 0) :: (.int 0) :: (.ref (ex 23)) :: (.ref (ex 24)) :: (.ref (ex 25)) :: (.ref (ex 26)) :: []))), ((a 3), .inl (T 1, 2187, .inl (fun _ => 0)))]) (w1 := []) hP hD [0, 2] [1, 3] rfl rfl (by decide) (by decide) hk1 hFc hP1 hD1
  subst hw
  clear hPc hDc hFc hP1 hD1 hk1 hz1 hvm ht
  generalize H1 = H at hP hS ⊢
  replace hP : va_P D vwCl [((a 1), .inr (12, ((.int 0) :: (.ref (ex 13)) :: (.int 0) :: (.int 0) :: (.int 0) :: (.int 0) :: (.ref (a 3)) :: (.ref (ex 14)) :: (.ref (ex 15)) :: (.ref (ex 16)) :: (.ref (ex 17)) :: (.int 0) :: (.int 0) :: (.int 0) :: (.int 0) :: (.int 0) :: (.int 0) :: (.long 0) :: (.int 0) :: (.int 0) :: (.int 0) :: (.ref (ex 18)) :: (.ref (ex 19)) :: (.int 0) :: (.ref (ex 20)) :: (.int (-1)) :: (.int 0) :: (.int 0) :: (.int 0) :: (.int 0) :: (.int 0) :: (.int 0) :: (.ref (ex 21)) :: (.int 0) :: (.ref (ex 22)) :: (.int 0) :: (.int 0) :: (.int 0) :: (.int 0) :: (.int 0) :: (.ref (ex 23)) :: (.ref (ex 24)) :: (.ref (ex 25)) :: (.ref (ex 26)) :: []))), ((a 3), .inl (T 1, 2187, .inl (fun _ => 0)))] H := hP
  replace hD : va_D A [((a 1), .inr (12, ((.int 0) :: (.ref (ex 13)) :: (.int 0) :: (.int 0) :: (.int 0) :: (.int 0) :: (.ref (a 3)) :: (.ref (ex 14)) :: (.ref (ex 15)) :: (.ref (ex 16)) :: (.ref (ex 17)) :: (.int 0) :: (.int 0) :: (.int 0) :: (.int 0) :: (.int 0) :: (.int 0) :: (.long 0) :: (.int 0) :: (.int 0) :: (.int 0) :: (.ref (ex 18)) :: (.ref (ex 19)) :: (.int 0) :: (.ref (ex 20)) :: (.int (-1)) :: (.int 0) :: (.int 0) :: (.int 0) :: (.int 0) :: (.int 0) :: (.int 0) :: (.ref (ex 21)) :: (.int 0) :: (.ref (ex 22)) :: (.int 0) :: (.int 0) :: (.int 0) :: (.int 0) :: (.int 0) :: (.ref (ex 23)) :: (.ref (ex 24)) :: (.ref (ex 25)) :: (.ref (ex 26)) :: []))), ((a 3), .inl (T 1, 2187, .inl (fun _ => 0)))] := hD
  refine lv_aload_n hx hb dL_law_535 rfl (lv_at hl 2 rfl) ?_
  refine lv_aload_n hx hb dL_law_536 rfl (lv_at hl 4 rfl) ?_
  refine lv_iload hx hb dL_law_537 (lv_at hl 0 rfl) ?_
  refine lv_iconst (v := 1) hx hb dL_law_539 (by decide) ?_
  refine lv_iadd hx hb dL_law_540 ?_
  refine xz_i 1 (by decide) ?_
  refine va_sld hx hb hX hbl hbA hS (vp_in_nI (n := 1) (by decide) (by decide)) dL_law_541 ?_
  refine xz_i x1 hx1 ?_
  refine lv_aload_n hx hb dL_law_542 rfl (lv_at hl 4 rfl) ?_
  refine lv_iload hx hb dL_law_543 (lv_at hl 0 rfl) ?_
  refine lv_iconst (v := 2) hx hb dL_law_545 (by decide) ?_
  refine lv_iadd hx hb dL_law_546 ?_
  refine xz_i 2 (by decide) ?_
  refine va_sld hx hb hX hbl hbA hS (vp_in_nI (n := 2) (by decide) (by decide)) dL_law_547 ?_
  refine xz_i x2 hx2 ?_
  have hPc := hP.sub (ws' := (pre_X12_take T (xa [(a 1), (a 3)]) (xa [(ex 13), (ex 14), (ex 15), (ex 16), (ex 17), (ex 18), (ex 19), (ex 20), (ex 21), (ex 22), (ex 23), (ex 24), (ex 25), (ex 26)]) (xf []) (xh []) (xv [x1, x2]))) [0, 1] rfl
  have hDc := hD.sub (ws' := (pre_X12_take T (xa [(a 1), (a 3)]) (xa [(ex 13), (ex 14), (ex 15), (ex 16), (ex 17), (ex 18), (ex 19), (ex 20), (ex 21), (ex 22), (ex 23), (ex 24), (ex 25), (ex 26)]) (xf []) (xh []) (xv [x1, x2]))) [0, 1] (by decide) rfl
  have hFc := va_free (wc := (pre_X12_take T (xa [(a 1), (a 3)]) (xa [(ex 13), (ex 14), (ex 15), (ex 16), (ex 17), (ex 18), (ex 19), (ex 20), (ex 21), (ex 22), (ex 23), (ex 24), (ex 25), (ex 26)]) (xf []) (xh []) (xv [x1, x2]))) hD hS hA [0, 1] rfl
  refine va_calli (va_runV (As := [.int x1, .int x2]) (rest := [.int (-1)]) ⟨hx, hb, hml, hown, htg⟩ (c_X12_take l D T (xa [(a 1), (a 3)]) (xa [(ex 13), (ex 14), (ex 15), (ex 16), (ex 17), (ex 18), (ex 19), (ex 20), (ex 21), (ex 22), (ex 23), (ex 24), (ex 25), (ex 26)]) (xf []) (xh []) (xv [x1, x2]) H.size) ⟨callB_of 2 htg (xg_ok kw_1684) rfl rfl rfl (htg _ kw_17) (htg _ kw_1681) (by decide +kernel) ⟨by rw [hR]; exact Nat.le_of_ble_eq_true rfl, by rw [hR]; exact Nat.le_of_ble_eq_true rfl⟩, htg _ kw_1682, htg _ kw_1683⟩ (xpreV hK hPc hDc (va_recv hK.1 hPc (ci := 12) (q0 := 0) rfl rfl)) rfl rfl hl.1 rfl (lv_room (Nat.le_of_ble_eq_true rfl)) dL_law_548 ⟨by rw [hR]; exact Nat.le_of_ble_eq_true rfl, by rw [hR]; exact Nat.le_of_ble_eq_true rfl⟩) hS (fun q _ h => hFc q h) hFc (fun r9 u t H1 locs ht hvm hw hB hz1 hk1 hS => ?_)
  obtain ⟨bk_1, fik_1, flk_1, vik_1, hP1, hD1, hGk_1⟩ := hB
  rw [ht] at hP1
  obtain ⟨hP, hD⟩ := va_join (wr := []) (w1 := []) hP hD [0, 1] [] rfl rfl (by decide) (by decide) hk1 hFc hP1 hD1
  subst hw
  clear hPc hDc hFc hP1 hD1 hk1 hz1 hvm ht
  generalize H1 = H at hP hS ⊢
  replace hP : va_P D vwCl [] H := hP
  replace hD : va_D A [] := hD
  refine lv_icmp_eq (tgt := 1466) hx hb dL_law_551 (by decide) (fun _ => ?_) (fun c => absurd (by decide) c)
  refine lv_iinc (v := 6) (lv' := [(4, .int 6), (3, .ref (ex 37)), (2, .ref (a 1)), (1, .ref (a 0)), (0, .ref b)]) hx hb dL_law_1466 hl (k := 0) rfl (by decide) (by decide) rfl (fun ls hl => ?_)
  refine lv_goto (tgt := 23) hx hb dL_law_1469 (by decide) ?_
  refine lv_iload hx hb dL_law_23 (lv_at hl 0 rfl) ?_
  refine lv_aload_n hx hb dL_law_25 rfl (lv_at hl 4 rfl) ?_
  refine va_slen hx hb hX hbl hbA hS dL_law_26 ?_
  refine xz_i 6 rfl ?_
  refine lv_bipush (v := 6) hx hb dL_law_27 (by decide) ?_
  refine lv_isub hx hb dL_law_29 ?_
  refine xz_i 0 (by decide) ?_
  refine lv_icmp_gt (tgt := 1472) hx hb dL_law_30 (by decide) (fun _ => ?_) (fun c => absurd (by decide) c)
  refine lv_iconst (v := 1) hx hb dL_law_1472 (by decide) ?_
  refine va_forget (fun q hq => by have h9 := hS.2.2 q hq; rw [hAe] at h9; exact h9) ?_
  refine W.widen (k := 600002) (n := 7302232) (Nat.le_of_ble_eq_true rfl) (Nat.le_of_ble_eq_true rfl) ?_
  subst hR
  rw [hQ]
  exact lw_ret hx hb hr hlocks dL_law_1473
set_option maxHeartbeats 4000000 in
set_option maxRecDepth 100000 in
theorem lw_swap {p : Program} {e : Env} {s : State} {m : MethodId} {below : List Frame} {meth : Method} {c : Code} (l : Launch) (hlt : l.stackTraces = false) {b : Nat} {xs : Nat → Int32} (D : va_G) (T : Nat → ClassId) (a ex : Nat → Nat) (fi : Nat → Nat → Int32) (fl : Nat → Nat → Int64) (vi : Nat → Int32) (kK kV : Nat → Nat) (R : Room) (Q : State → Prop) (A : Nat → Prop) (hR : R = room_1) (hQ : Q = lw_Z below #[Value.ref b] s) (hAe : A = fun q => s.heap.size ≤ q) (hx : p.tables.exec = Jvm.exec) (hb : c.code = code) (hr : meth.sig.returnType = ret) (hml : c.maxLocals = 7) (hown : s.vm.findClass RL = some m.cls) (htg : ∀ w ∈ xg, w.before #[Value.ref b] s = true) (hbl : b < s.heap.size) (hbA : ¬ A b) (hlocks : meth.locks = false) (hK : xK D T s) (hA : ∀ q : Nat, s.heap.size ≤ q → A q) (hT : xT kK kV A s s.heap) (hZt : xZ2 A s s.heap) (hX : va_X b 6 xs s s.heap) (x1 x2 x3 x4 x5 : Int32) (hx1 : xs 1 = x1) (hx2 : xs 2 = x2) (hx3 : xs 3 = x3) (hx4 : xs 4 = x4) (hx5 : xs 5 = x5) (H : Heap) (locs : List Loc) (ls : Array Slot) (hP : va_P D vwCl [((a 0), .inr (11, [.ref (ex 0), .ref (a 2), .ref (ex 1), .ref (ex 2), .ref (ex 3), .ref (ex 4), .ref (ex 5), .ref (ex 6), .ref (ex 7), .ref (ex 8), .ref (ex 9), .ref (ex 10), .ref (ex 11), .ref (ex 12), .int 0])), ((a 1), .inr (12, ((.int 0) :: (.ref (ex 13)) :: (.int 0) :: (.int 0) :: (.int 0) :: (.int 0) :: (.ref (a 3)) :: (.ref (ex 14)) :: (.ref (ex 15)) :: (.ref (ex 16)) :: (.ref (ex 17)) :: (.int 0) :: (.int 0) :: (.int 0) :: (.int 0) :: (.int 0) :: (.int 0) :: (.long 0) :: (.int 0) :: (.int 0) :: (.int 0) :: (.ref (ex 18)) :: (.ref (ex 19)) :: (.int 0) :: (.ref (ex 20)) :: (.int (-1)) :: (.int 0) :: (.int 0) :: (.int 0) :: (.int 0) :: (.int 0) :: (.int 0) :: (.ref (ex 21)) :: (.int 0) :: (.ref (ex 22)) :: (.int 0) :: (.int 0) :: (.int 0) :: (.int 0) :: (.int 0) :: (.ref (ex 23)) :: (.ref (ex 24)) :: (.ref (ex 25)) :: (.ref (ex 26)) :: []))), ((a 2), .inr (7, [.int 0, .int 0, .ref (ex 27), .ref (ex 28), .ref (ex 29), .ref (ex 30), .ref (ex 31), .ref (ex 32), .ref (ex 33), .ref (ex 34), .ref (ex 35), .ref (ex 36)])), ((a 3), .inl (T 1, 2187, .inl (fun _ => 0)))] H) (hD : va_D A [((a 0), .inr (11, [.ref (ex 0), .ref (a 2), .ref (ex 1), .ref (ex 2), .ref (ex 3), .ref (ex 4), .ref (ex 5), .ref (ex 6), .ref (ex 7), .ref (ex 8), .ref (ex 9), .ref (ex 10), .ref (ex 11), .ref (ex 12), .int 0])), ((a 1), .inr (12, ((.int 0) :: (.ref (ex 13)) :: (.int 0) :: (.int 0) :: (.int 0) :: (.int 0) :: (.ref (a 3)) :: (.ref (ex 14)) :: (.ref (ex 15)) :: (.ref (ex 16)) :: (.ref (ex 17)) :: (.int 0) :: (.int 0) :: (.int 0) :: (.int 0) :: (.int 0) :: (.int 0) :: (.long 0) :: (.int 0) :: (.int 0) :: (.int 0) :: (.ref (ex 18)) :: (.ref (ex 19)) :: (.int 0) :: (.ref (ex 20)) :: (.int (-1)) :: (.int 0) :: (.int 0) :: (.int 0) :: (.int 0) :: (.int 0) :: (.int 0) :: (.ref (ex 21)) :: (.int 0) :: (.ref (ex 22)) :: (.int 0) :: (.int 0) :: (.int 0) :: (.int 0) :: (.int 0) :: (.ref (ex 23)) :: (.ref (ex 24)) :: (.ref (ex 25)) :: (.ref (ex 26)) :: []))), ((a 2), .inr (7, [.int 0, .int 0, .ref (ex 27), .ref (ex 28), .ref (ex 29), .ref (ex 30), .ref (ex 31), .ref (ex 32), .ref (ex 33), .ref (ex 34), .ref (ex 35), .ref (ex 36)])), ((a 3), .inl (T 1, 2187, .inl (fun _ => 0)))]) (hS : va_S A s.heap H locs) (hl : lv_has ls 7 [(4, .int 0), (3, .ref (ex 37)), (2, .ref (a 1)), (1, .ref (a 0)), (0, .ref b)]) : W p l e R s m #[Value.ref b] below meth c H locs 172 22099 Q (F0 m 556 ls []) := by
  refine lv_aload_n hx hb dL_law_556 rfl (lv_at hl 3 rfl) ?_
  refine lv_aload_n hx hb dL_law_557 rfl (lv_at hl 4 rfl) ?_
  refine lv_iload hx hb dL_law_558 (lv_at hl 0 rfl) ?_
  refine lv_iconst (v := 1) hx hb dL_law_560 (by decide) ?_
  refine lv_iadd hx hb dL_law_561 ?_
  refine xz_i 1 (by decide) ?_
  refine va_sld hx hb hX hbl hbA hS (vp_in_nI (n := 1) (by decide) (by decide)) dL_law_562 ?_
  refine xz_i x1 hx1 ?_
  refine lv_aload_n hx hb dL_law_563 rfl (lv_at hl 4 rfl) ?_
  refine lv_iload hx hb dL_law_564 (lv_at hl 0 rfl) ?_
  refine lv_iconst (v := 2) hx hb dL_law_566 (by decide) ?_
  refine lv_iadd hx hb dL_law_567 ?_
  refine xz_i 2 (by decide) ?_
  refine va_sld hx hb hX hbl hbA hS (vp_in_nI (n := 2) (by decide) (by decide)) dL_law_568 ?_
  refine xz_i x2 hx2 ?_
  have hPc := hP.sub (ws' := (pre_X11_swap T (xa [(a 0), (a 2)]) (xa [(ex 0), (ex 1), (ex 2), (ex 3), (ex 4), (ex 5), (ex 6), (ex 7), (ex 8), (ex 9), (ex 10), (ex 11), (ex 12), (ex 27), (ex 28), (ex 29), (ex 30), (ex 31), (ex 32), (ex 33), (ex 34), (ex 35), (ex 36)]) (xf []) (xh []) (xv [x1, x2]))) [0, 2] rfl
  have hDc := hD.sub (ws' := (pre_X11_swap T (xa [(a 0), (a 2)]) (xa [(ex 0), (ex 1), (ex 2), (ex 3), (ex 4), (ex 5), (ex 6), (ex 7), (ex 8), (ex 9), (ex 10), (ex 11), (ex 12), (ex 27), (ex 28), (ex 29), (ex 30), (ex 31), (ex 32), (ex 33), (ex 34), (ex 35), (ex 36)]) (xf []) (xh []) (xv [x1, x2]))) [0, 2] (by decide) rfl
  have hFc := va_free (wc := (pre_X11_swap T (xa [(a 0), (a 2)]) (xa [(ex 0), (ex 1), (ex 2), (ex 3), (ex 4), (ex 5), (ex 6), (ex 7), (ex 8), (ex 9), (ex 10), (ex 11), (ex 12), (ex 27), (ex 28), (ex 29), (ex 30), (ex 31), (ex 32), (ex 33), (ex 34), (ex 35), (ex 36)]) (xf []) (xh []) (xv [x1, x2]))) hD hS hA [0, 2] rfl
  refine va_calli (va_runV (As := [.int x1, .int x2]) (rest := []) ⟨hx, hb, hml, hown, htg⟩ (c_X11_swap l D T (xa [(a 0), (a 2)]) (xa [(ex 0), (ex 1), (ex 2), (ex 3), (ex 4), (ex 5), (ex 6), (ex 7), (ex 8), (ex 9), (ex 10), (ex 11), (ex 12), (ex 27), (ex 28), (ex 29), (ex 30), (ex 31), (ex 32), (ex 33), (ex 34), (ex 35), (ex 36)]) (xf []) (xh []) (xv [x1, x2]) H.size) ⟨callB_of 2 htg (xg_ok kw_894) rfl rfl rfl (htg _ kw_1) (htg _ kw_891) (by decide +kernel) ⟨by rw [hR]; exact Nat.le_of_ble_eq_true rfl, by rw [hR]; exact Nat.le_of_ble_eq_true rfl⟩, htg _ kw_892, htg _ kw_893⟩ (xpreV hK hPc hDc (va_recv hK.1 hPc (ci := 11) (q0 := 0) rfl rfl)) rfl rfl hl.1 rfl (lv_room (Nat.le_of_ble_eq_true rfl)) dL_law_569 ⟨by rw [hR]; exact Nat.le_of_ble_eq_true rfl, by rw [hR]; exact Nat.le_of_ble_eq_true rfl⟩) hS (fun q _ h => hFc q h) hFc (fun r9 u t H1 locs ht hvm hw hB hz1 hk1 hS => ?_)
  obtain ⟨bk, fik, flk, vik, hP1, hD1, hGk⟩ := hB
  rw [ht] at hP1
  obtain ⟨hP, hD⟩ := va_join (wr := [((a 1), .inr (12, ((.int 0) :: (.ref (ex 13)) :: (.int 0) :: (.int 0) :: (.int 0) :: (.int 0) :: (.ref (a 3)) :: (.ref (ex 14)) :: (.ref (ex 15)) :: (.ref (ex 16)) :: (.ref (ex 17)) :: (.int 0) :: (.int 0) :: (.int 0) :: (.int 0) :: (.int 0) :: (.int 0) :: (.long 0) :: (.int 0) :: (.int 0) :: (.int 0) :: (.ref (ex 18)) :: (.ref (ex 19)) :: (.int 0) :: (.ref (ex 20)) :: (.int (-1)) :: (.int 0) :: (.int 0) :: (.int 0) :: (.int 0) :: (.int 0) :: (.int 0) :: (.ref (ex 21)) :: (.int 0) :: (.ref (ex 22)) :: (.int 0) :: (.int 0) :: (.int 0) :: (.int 0) :: (.int 0) :: (.ref (ex 23)) :: (.ref (ex 24)) :: (.ref (ex 25)) :: (.ref (ex 26)) :: []))), ((a 3), .inl (T 1, 2187, .inl (fun _ => 0)))]) (w1 := []) hP hD [0, 2] [1, 3] rfl rfl (by decide) (by decide) hk1 hFc hP1 hD1
  subst hw
  clear hPc hDc hFc hP1 hD1 hk1 hz1 hvm ht
  generalize H1 = H at hP hS ⊢
  replace hP : va_P D vwCl [((a 1), .inr (12, ((.int 0) :: (.ref (ex 13)) :: (.int 0) :: (.int 0) :: (.int 0) :: (.int 0) :: (.ref (a 3)) :: (.ref (ex 14)) :: (.ref (ex 15)) :: (.ref (ex 16)) :: (.ref (ex 17)) :: (.int 0) :: (.int 0) :: (.int 0) :: (.int 0) :: (.int 0) :: (.int 0) :: (.long 0) :: (.int 0) :: (.int 0) :: (.int 0) :: (.ref (ex 18)) :: (.ref (ex 19)) :: (.int 0) :: (.ref (ex 20)) :: (.int (-1)) :: (.int 0) :: (.int 0) :: (.int 0) :: (.int 0) :: (.int 0) :: (.int 0) :: (.ref (ex 21)) :: (.int 0) :: (.ref (ex 22)) :: (.int 0) :: (.int 0) :: (.int 0) :: (.int 0) :: (.int 0) :: (.ref (ex 23)) :: (.ref (ex 24)) :: (.ref (ex 25)) :: (.ref (ex 26)) :: []))), ((a 3), .inl (T 1, 2187, .inl (fun _ => 0)))] H := hP
  replace hD : va_D A [((a 1), .inr (12, ((.int 0) :: (.ref (ex 13)) :: (.int 0) :: (.int 0) :: (.int 0) :: (.int 0) :: (.ref (a 3)) :: (.ref (ex 14)) :: (.ref (ex 15)) :: (.ref (ex 16)) :: (.ref (ex 17)) :: (.int 0) :: (.int 0) :: (.int 0) :: (.int 0) :: (.int 0) :: (.int 0) :: (.long 0) :: (.int 0) :: (.int 0) :: (.int 0) :: (.ref (ex 18)) :: (.ref (ex 19)) :: (.int 0) :: (.ref (ex 20)) :: (.int (-1)) :: (.int 0) :: (.int 0) :: (.int 0) :: (.int 0) :: (.int 0) :: (.int 0) :: (.ref (ex 21)) :: (.int 0) :: (.ref (ex 22)) :: (.int 0) :: (.int 0) :: (.int 0) :: (.int 0) :: (.int 0) :: (.ref (ex 23)) :: (.ref (ex 24)) :: (.ref (ex 25)) :: (.ref (ex 26)) :: []))), ((a 3), .inl (T 1, 2187, .inl (fun _ => 0)))] := hD
  refine lv_aload_n hx hb dL_law_572 rfl (lv_at hl 2 rfl) ?_
  refine lv_aload_n hx hb dL_law_573 rfl (lv_at hl 4 rfl) ?_
  refine lv_iload hx hb dL_law_574 (lv_at hl 0 rfl) ?_
  refine lv_iconst (v := 1) hx hb dL_law_576 (by decide) ?_
  refine lv_iadd hx hb dL_law_577 ?_
  refine xz_i 1 (by decide) ?_
  refine va_sld hx hb hX hbl hbA hS (vp_in_nI (n := 1) (by decide) (by decide)) dL_law_578 ?_
  refine xz_i x1 hx1 ?_
  refine lv_aload_n hx hb dL_law_579 rfl (lv_at hl 4 rfl) ?_
  refine lv_iload hx hb dL_law_580 (lv_at hl 0 rfl) ?_
  refine lv_iconst (v := 2) hx hb dL_law_582 (by decide) ?_
  refine lv_iadd hx hb dL_law_583 ?_
  refine xz_i 2 (by decide) ?_
  refine va_sld hx hb hX hbl hbA hS (vp_in_nI (n := 2) (by decide) (by decide)) dL_law_584 ?_
  refine xz_i x2 hx2 ?_
  have hPc := hP.sub (ws' := (pre_X12_swap T (xa [(a 1), (a 3)]) (xa [(ex 13), (ex 14), (ex 15), (ex 16), (ex 17), (ex 18), (ex 19), (ex 20), (ex 21), (ex 22), (ex 23), (ex 24), (ex 25), (ex 26)]) (xf []) (xh []) (xv [x1, x2]))) [0, 1] rfl
  have hDc := hD.sub (ws' := (pre_X12_swap T (xa [(a 1), (a 3)]) (xa [(ex 13), (ex 14), (ex 15), (ex 16), (ex 17), (ex 18), (ex 19), (ex 20), (ex 21), (ex 22), (ex 23), (ex 24), (ex 25), (ex 26)]) (xf []) (xh []) (xv [x1, x2]))) [0, 1] (by decide) rfl
  have hFc := va_free (wc := (pre_X12_swap T (xa [(a 1), (a 3)]) (xa [(ex 13), (ex 14), (ex 15), (ex 16), (ex 17), (ex 18), (ex 19), (ex 20), (ex 21), (ex 22), (ex 23), (ex 24), (ex 25), (ex 26)]) (xf []) (xh []) (xv [x1, x2]))) hD hS hA [0, 1] rfl
  refine va_calli (va_runV (As := [.int x1, .int x2]) (rest := [.int (-1)]) ⟨hx, hb, hml, hown, htg⟩ (c_X12_swap l D T (xa [(a 1), (a 3)]) (xa [(ex 13), (ex 14), (ex 15), (ex 16), (ex 17), (ex 18), (ex 19), (ex 20), (ex 21), (ex 22), (ex 23), (ex 24), (ex 25), (ex 26)]) (xf []) (xh []) (xv [x1, x2]) H.size) ⟨callB_of 2 htg (xg_ok kw_1708) rfl rfl rfl (htg _ kw_17) (htg _ kw_1705) (by decide +kernel) ⟨by rw [hR]; exact Nat.le_of_ble_eq_true rfl, by rw [hR]; exact Nat.le_of_ble_eq_true rfl⟩, htg _ kw_1706, htg _ kw_1707⟩ (xpreV hK hPc hDc (va_recv hK.1 hPc (ci := 12) (q0 := 0) rfl rfl)) rfl rfl hl.1 rfl (lv_room (Nat.le_of_ble_eq_true rfl)) dL_law_585 ⟨by rw [hR]; exact Nat.le_of_ble_eq_true rfl, by rw [hR]; exact Nat.le_of_ble_eq_true rfl⟩) hS (fun q _ h => hFc q h) hFc (fun r9 u t H1 locs ht hvm hw hB hz1 hk1 hS => ?_)
  obtain ⟨bk_1, fik_1, flk_1, vik_1, hP1, hD1, hGk_1⟩ := hB
  rw [ht] at hP1
  obtain ⟨hP, hD⟩ := va_join (wr := []) (w1 := []) hP hD [0, 1] [] rfl rfl (by decide) (by decide) hk1 hFc hP1 hD1
  subst hw
  clear hPc hDc hFc hP1 hD1 hk1 hz1 hvm ht
  generalize H1 = H at hP hS ⊢
  replace hP : va_P D vwCl [] H := hP
  replace hD : va_D A [] := hD
  refine lv_icmp_eq (tgt := 1466) hx hb dL_law_588 (by decide) (fun _ => ?_) (fun c => absurd (by decide) c)
  refine lv_iinc (v := 6) (lv' := [(4, .int 6), (3, .ref (ex 37)), (2, .ref (a 1)), (1, .ref (a 0)), (0, .ref b)]) hx hb dL_law_1466 hl (k := 0) rfl (by decide) (by decide) rfl (fun ls hl => ?_)
  refine lv_goto (tgt := 23) hx hb dL_law_1469 (by decide) ?_
  refine lv_iload hx hb dL_law_23 (lv_at hl 0 rfl) ?_
  refine lv_aload_n hx hb dL_law_25 rfl (lv_at hl 4 rfl) ?_
  refine va_slen hx hb hX hbl hbA hS dL_law_26 ?_
  refine xz_i 6 rfl ?_
  refine lv_bipush (v := 6) hx hb dL_law_27 (by decide) ?_
  refine lv_isub hx hb dL_law_29 ?_
  refine xz_i 0 (by decide) ?_
  refine lv_icmp_gt (tgt := 1472) hx hb dL_law_30 (by decide) (fun _ => ?_) (fun c => absurd (by decide) c)
  refine lv_iconst (v := 1) hx hb dL_law_1472 (by decide) ?_
  refine va_forget (fun q hq => by have h9 := hS.2.2 q hq; rw [hAe] at h9; exact h9) ?_
  refine W.widen (k := 600002) (n := 7302232) (Nat.le_of_ble_eq_true rfl) (Nat.le_of_ble_eq_true rfl) ?_
  subst hR
  rw [hQ]
  exact lw_ret hx hb hr hlocks dL_law_1473
set_option maxHeartbeats 4000000 in
set_option maxRecDepth 100000 in
theorem lw_sell {p : Program} {e : Env} {s : State} {m : MethodId} {below : List Frame} {meth : Method} {c : Code} (l : Launch) (hlt : l.stackTraces = false) {b : Nat} {xs : Nat → Int32} (D : va_G) (T : Nat → ClassId) (a ex : Nat → Nat) (fi : Nat → Nat → Int32) (fl : Nat → Nat → Int64) (vi : Nat → Int32) (kK kV : Nat → Nat) (R : Room) (Q : State → Prop) (A : Nat → Prop) (hR : R = room_1) (hQ : Q = lw_Z below #[Value.ref b] s) (hAe : A = fun q => s.heap.size ≤ q) (hx : p.tables.exec = Jvm.exec) (hb : c.code = code) (hr : meth.sig.returnType = ret) (hml : c.maxLocals = 7) (hown : s.vm.findClass RL = some m.cls) (htg : ∀ w ∈ xg, w.before #[Value.ref b] s = true) (hbl : b < s.heap.size) (hbA : ¬ A b) (hlocks : meth.locks = false) (hK : xK D T s) (hA : ∀ q : Nat, s.heap.size ≤ q → A q) (hT : xT kK kV A s s.heap) (hZt : xZ2 A s s.heap) (hX : va_X b 6 xs s s.heap) (x1 x2 x3 x4 x5 : Int32) (hx1 : xs 1 = x1) (hx2 : xs 2 = x2) (hx3 : xs 3 = x3) (hx4 : xs 4 = x4) (hx5 : xs 5 = x5) (H : Heap) (locs : List Loc) (ls : Array Slot) (hP : va_P D vwCl [((a 0), .inr (11, [.ref (ex 0), .ref (a 2), .ref (ex 1), .ref (ex 2), .ref (ex 3), .ref (ex 4), .ref (ex 5), .ref (ex 6), .ref (ex 7), .ref (ex 8), .ref (ex 9), .ref (ex 10), .ref (ex 11), .ref (ex 12), .int 0])), ((a 1), .inr (12, ((.int 0) :: (.ref (ex 13)) :: (.int 0) :: (.int 0) :: (.int 0) :: (.int 0) :: (.ref (a 3)) :: (.ref (ex 14)) :: (.ref (ex 15)) :: (.ref (ex 16)) :: (.ref (ex 17)) :: (.int 0) :: (.int 0) :: (.int 0) :: (.int 0) :: (.int 0) :: (.int 0) :: (.long 0) :: (.int 0) :: (.int 0) :: (.int 0) :: (.ref (ex 18)) :: (.ref (ex 19)) :: (.int 0) :: (.ref (ex 20)) :: (.int (-1)) :: (.int 0) :: (.int 0) :: (.int 0) :: (.int 0) :: (.int 0) :: (.int 0) :: (.ref (ex 21)) :: (.int 0) :: (.ref (ex 22)) :: (.int 0) :: (.int 0) :: (.int 0) :: (.int 0) :: (.int 0) :: (.ref (ex 23)) :: (.ref (ex 24)) :: (.ref (ex 25)) :: (.ref (ex 26)) :: []))), ((a 2), .inr (7, [.int 0, .int 0, .ref (ex 27), .ref (ex 28), .ref (ex 29), .ref (ex 30), .ref (ex 31), .ref (ex 32), .ref (ex 33), .ref (ex 34), .ref (ex 35), .ref (ex 36)])), ((a 3), .inl (T 1, 2187, .inl (fun _ => 0)))] H) (hD : va_D A [((a 0), .inr (11, [.ref (ex 0), .ref (a 2), .ref (ex 1), .ref (ex 2), .ref (ex 3), .ref (ex 4), .ref (ex 5), .ref (ex 6), .ref (ex 7), .ref (ex 8), .ref (ex 9), .ref (ex 10), .ref (ex 11), .ref (ex 12), .int 0])), ((a 1), .inr (12, ((.int 0) :: (.ref (ex 13)) :: (.int 0) :: (.int 0) :: (.int 0) :: (.int 0) :: (.ref (a 3)) :: (.ref (ex 14)) :: (.ref (ex 15)) :: (.ref (ex 16)) :: (.ref (ex 17)) :: (.int 0) :: (.int 0) :: (.int 0) :: (.int 0) :: (.int 0) :: (.int 0) :: (.long 0) :: (.int 0) :: (.int 0) :: (.int 0) :: (.ref (ex 18)) :: (.ref (ex 19)) :: (.int 0) :: (.ref (ex 20)) :: (.int (-1)) :: (.int 0) :: (.int 0) :: (.int 0) :: (.int 0) :: (.int 0) :: (.int 0) :: (.ref (ex 21)) :: (.int 0) :: (.ref (ex 22)) :: (.int 0) :: (.int 0) :: (.int 0) :: (.int 0) :: (.int 0) :: (.ref (ex 23)) :: (.ref (ex 24)) :: (.ref (ex 25)) :: (.ref (ex 26)) :: []))), ((a 2), .inr (7, [.int 0, .int 0, .ref (ex 27), .ref (ex 28), .ref (ex 29), .ref (ex 30), .ref (ex 31), .ref (ex 32), .ref (ex 33), .ref (ex 34), .ref (ex 35), .ref (ex 36)])), ((a 3), .inl (T 1, 2187, .inl (fun _ => 0)))]) (hS : va_S A s.heap H locs) (hl : lv_has ls 7 [(4, .int 0), (3, .ref (ex 37)), (2, .ref (a 1)), (1, .ref (a 0)), (0, .ref b)]) : W p l e R s m #[Value.ref b] below meth c H locs 172 22099 Q (F0 m 593 ls []) := by
  refine lv_aload_n hx hb dL_law_593 rfl (lv_at hl 3 rfl) ?_
  refine lv_aload_n hx hb dL_law_594 rfl (lv_at hl 4 rfl) ?_
  refine lv_iload hx hb dL_law_595 (lv_at hl 0 rfl) ?_
  refine lv_iconst (v := 1) hx hb dL_law_597 (by decide) ?_
  refine lv_iadd hx hb dL_law_598 ?_
  refine xz_i 1 (by decide) ?_
  refine va_sld hx hb hX hbl hbA hS (vp_in_nI (n := 1) (by decide) (by decide)) dL_law_599 ?_
  refine xz_i x1 hx1 ?_
  refine lv_aload_n hx hb dL_law_600 rfl (lv_at hl 4 rfl) ?_
  refine lv_iload hx hb dL_law_601 (lv_at hl 0 rfl) ?_
  refine lv_iconst (v := 2) hx hb dL_law_603 (by decide) ?_
  refine lv_iadd hx hb dL_law_604 ?_
  refine xz_i 2 (by decide) ?_
  refine va_sld hx hb hX hbl hbA hS (vp_in_nI (n := 2) (by decide) (by decide)) dL_law_605 ?_
  refine xz_i x2 hx2 ?_
  have hPc := hP.sub (ws' := (pre_X11_sell T (xa [(a 0), (a 2)]) (xa [(ex 0), (ex 1), (ex 2), (ex 3), (ex 4), (ex 5), (ex 6), (ex 7), (ex 8), (ex 9), (ex 10), (ex 11), (ex 12), (ex 27), (ex 28), (ex 29), (ex 30), (ex 31), (ex 32), (ex 33), (ex 34), (ex 35), (ex 36)]) (xf []) (xh []) (xv [x1, x2]))) [0, 2] rfl
  have hDc := hD.sub (ws' := (pre_X11_sell T (xa [(a 0), (a 2)]) (xa [(ex 0), (ex 1), (ex 2), (ex 3), (ex 4), (ex 5), (ex 6), (ex 7), (ex 8), (ex 9), (ex 10), (ex 11), (ex 12), (ex 27), (ex 28), (ex 29), (ex 30), (ex 31), (ex 32), (ex 33), (ex 34), (ex 35), (ex 36)]) (xf []) (xh []) (xv [x1, x2]))) [0, 2] (by decide) rfl
  have hFc := va_free (wc := (pre_X11_sell T (xa [(a 0), (a 2)]) (xa [(ex 0), (ex 1), (ex 2), (ex 3), (ex 4), (ex 5), (ex 6), (ex 7), (ex 8), (ex 9), (ex 10), (ex 11), (ex 12), (ex 27), (ex 28), (ex 29), (ex 30), (ex 31), (ex 32), (ex 33), (ex 34), (ex 35), (ex 36)]) (xf []) (xh []) (xv [x1, x2]))) hD hS hA [0, 2] rfl
  refine va_calli (va_runV (As := [.int x1, .int x2]) (rest := []) ⟨hx, hb, hml, hown, htg⟩ (c_X11_sell l D T (xa [(a 0), (a 2)]) (xa [(ex 0), (ex 1), (ex 2), (ex 3), (ex 4), (ex 5), (ex 6), (ex 7), (ex 8), (ex 9), (ex 10), (ex 11), (ex 12), (ex 27), (ex 28), (ex 29), (ex 30), (ex 31), (ex 32), (ex 33), (ex 34), (ex 35), (ex 36)]) (xf []) (xh []) (xv [x1, x2]) H.size) ⟨callB_of 2 htg (xg_ok kw_902) rfl rfl rfl (htg _ kw_1) (htg _ kw_899) (by decide +kernel) ⟨by rw [hR]; exact Nat.le_of_ble_eq_true rfl, by rw [hR]; exact Nat.le_of_ble_eq_true rfl⟩, htg _ kw_900, htg _ kw_901⟩ (xpreV hK hPc hDc (va_recv hK.1 hPc (ci := 11) (q0 := 0) rfl rfl)) rfl rfl hl.1 rfl (lv_room (Nat.le_of_ble_eq_true rfl)) dL_law_606 ⟨by rw [hR]; exact Nat.le_of_ble_eq_true rfl, by rw [hR]; exact Nat.le_of_ble_eq_true rfl⟩) hS (fun q _ h => hFc q h) hFc (fun r9 u t H1 locs ht hvm hw hB hz1 hk1 hS => ?_)
  obtain ⟨bk, fik, flk, vik, hP1, hD1, hGk⟩ := hB
  rw [ht] at hP1
  obtain ⟨hP, hD⟩ := va_join (wr := [((a 1), .inr (12, ((.int 0) :: (.ref (ex 13)) :: (.int 0) :: (.int 0) :: (.int 0) :: (.int 0) :: (.ref (a 3)) :: (.ref (ex 14)) :: (.ref (ex 15)) :: (.ref (ex 16)) :: (.ref (ex 17)) :: (.int 0) :: (.int 0) :: (.int 0) :: (.int 0) :: (.int 0) :: (.int 0) :: (.long 0) :: (.int 0) :: (.int 0) :: (.int 0) :: (.ref (ex 18)) :: (.ref (ex 19)) :: (.int 0) :: (.ref (ex 20)) :: (.int (-1)) :: (.int 0) :: (.int 0) :: (.int 0) :: (.int 0) :: (.int 0) :: (.int 0) :: (.ref (ex 21)) :: (.int 0) :: (.ref (ex 22)) :: (.int 0) :: (.int 0) :: (.int 0) :: (.int 0) :: (.int 0) :: (.ref (ex 23)) :: (.ref (ex 24)) :: (.ref (ex 25)) :: (.ref (ex 26)) :: []))), ((a 3), .inl (T 1, 2187, .inl (fun _ => 0)))]) (w1 := []) hP hD [0, 2] [1, 3] rfl rfl (by decide) (by decide) hk1 hFc hP1 hD1
  subst hw
  clear hPc hDc hFc hP1 hD1 hk1 hz1 hvm ht
  generalize H1 = H at hP hS ⊢
  replace hP : va_P D vwCl [((a 1), .inr (12, ((.int 0) :: (.ref (ex 13)) :: (.int 0) :: (.int 0) :: (.int 0) :: (.int 0) :: (.ref (a 3)) :: (.ref (ex 14)) :: (.ref (ex 15)) :: (.ref (ex 16)) :: (.ref (ex 17)) :: (.int 0) :: (.int 0) :: (.int 0) :: (.int 0) :: (.int 0) :: (.int 0) :: (.long 0) :: (.int 0) :: (.int 0) :: (.int 0) :: (.ref (ex 18)) :: (.ref (ex 19)) :: (.int 0) :: (.ref (ex 20)) :: (.int (-1)) :: (.int 0) :: (.int 0) :: (.int 0) :: (.int 0) :: (.int 0) :: (.int 0) :: (.ref (ex 21)) :: (.int 0) :: (.ref (ex 22)) :: (.int 0) :: (.int 0) :: (.int 0) :: (.int 0) :: (.int 0) :: (.ref (ex 23)) :: (.ref (ex 24)) :: (.ref (ex 25)) :: (.ref (ex 26)) :: []))), ((a 3), .inl (T 1, 2187, .inl (fun _ => 0)))] H := hP
  replace hD : va_D A [((a 1), .inr (12, ((.int 0) :: (.ref (ex 13)) :: (.int 0) :: (.int 0) :: (.int 0) :: (.int 0) :: (.ref (a 3)) :: (.ref (ex 14)) :: (.ref (ex 15)) :: (.ref (ex 16)) :: (.ref (ex 17)) :: (.int 0) :: (.int 0) :: (.int 0) :: (.int 0) :: (.int 0) :: (.int 0) :: (.long 0) :: (.int 0) :: (.int 0) :: (.int 0) :: (.ref (ex 18)) :: (.ref (ex 19)) :: (.int 0) :: (.ref (ex 20)) :: (.int (-1)) :: (.int 0) :: (.int 0) :: (.int 0) :: (.int 0) :: (.int 0) :: (.int 0) :: (.ref (ex 21)) :: (.int 0) :: (.ref (ex 22)) :: (.int 0) :: (.int 0) :: (.int 0) :: (.int 0) :: (.int 0) :: (.ref (ex 23)) :: (.ref (ex 24)) :: (.ref (ex 25)) :: (.ref (ex 26)) :: []))), ((a 3), .inl (T 1, 2187, .inl (fun _ => 0)))] := hD
  refine lv_aload_n hx hb dL_law_609 rfl (lv_at hl 2 rfl) ?_
  refine lv_aload_n hx hb dL_law_610 rfl (lv_at hl 4 rfl) ?_
  refine lv_iload hx hb dL_law_611 (lv_at hl 0 rfl) ?_
  refine lv_iconst (v := 1) hx hb dL_law_613 (by decide) ?_
  refine lv_iadd hx hb dL_law_614 ?_
  refine xz_i 1 (by decide) ?_
  refine va_sld hx hb hX hbl hbA hS (vp_in_nI (n := 1) (by decide) (by decide)) dL_law_615 ?_
  refine xz_i x1 hx1 ?_
  refine lv_aload_n hx hb dL_law_616 rfl (lv_at hl 4 rfl) ?_
  refine lv_iload hx hb dL_law_617 (lv_at hl 0 rfl) ?_
  refine lv_iconst (v := 2) hx hb dL_law_619 (by decide) ?_
  refine lv_iadd hx hb dL_law_620 ?_
  refine xz_i 2 (by decide) ?_
  refine va_sld hx hb hX hbl hbA hS (vp_in_nI (n := 2) (by decide) (by decide)) dL_law_621 ?_
  refine xz_i x2 hx2 ?_
  have hPc := hP.sub (ws' := (pre_X12_sell T (xa [(a 1), (a 3)]) (xa [(ex 13), (ex 14), (ex 15), (ex 16), (ex 17), (ex 18), (ex 19), (ex 20), (ex 21), (ex 22), (ex 23), (ex 24), (ex 25), (ex 26)]) (xf []) (xh []) (xv [x1, x2]))) [0, 1] rfl
  have hDc := hD.sub (ws' := (pre_X12_sell T (xa [(a 1), (a 3)]) (xa [(ex 13), (ex 14), (ex 15), (ex 16), (ex 17), (ex 18), (ex 19), (ex 20), (ex 21), (ex 22), (ex 23), (ex 24), (ex 25), (ex 26)]) (xf []) (xh []) (xv [x1, x2]))) [0, 1] (by decide) rfl
  have hFc := va_free (wc := (pre_X12_sell T (xa [(a 1), (a 3)]) (xa [(ex 13), (ex 14), (ex 15), (ex 16), (ex 17), (ex 18), (ex 19), (ex 20), (ex 21), (ex 22), (ex 23), (ex 24), (ex 25), (ex 26)]) (xf []) (xh []) (xv [x1, x2]))) hD hS hA [0, 1] rfl
  refine va_calli (va_runV (As := [.int x1, .int x2]) (rest := [.int (-1)]) ⟨hx, hb, hml, hown, htg⟩ (c_X12_sell l D T (xa [(a 1), (a 3)]) (xa [(ex 13), (ex 14), (ex 15), (ex 16), (ex 17), (ex 18), (ex 19), (ex 20), (ex 21), (ex 22), (ex 23), (ex 24), (ex 25), (ex 26)]) (xf []) (xh []) (xv [x1, x2]) H.size) ⟨callB_of 2 htg (xg_ok kw_1728) rfl rfl rfl (htg _ kw_17) (htg _ kw_1725) (by decide +kernel) ⟨by rw [hR]; exact Nat.le_of_ble_eq_true rfl, by rw [hR]; exact Nat.le_of_ble_eq_true rfl⟩, htg _ kw_1726, htg _ kw_1727⟩ (xpreV hK hPc hDc (va_recv hK.1 hPc (ci := 12) (q0 := 0) rfl rfl)) rfl rfl hl.1 rfl (lv_room (Nat.le_of_ble_eq_true rfl)) dL_law_622 ⟨by rw [hR]; exact Nat.le_of_ble_eq_true rfl, by rw [hR]; exact Nat.le_of_ble_eq_true rfl⟩) hS (fun q _ h => hFc q h) hFc (fun r9 u t H1 locs ht hvm hw hB hz1 hk1 hS => ?_)
  obtain ⟨bk_1, fik_1, flk_1, vik_1, hP1, hD1, hGk_1⟩ := hB
  rw [ht] at hP1
  obtain ⟨hP, hD⟩ := va_join (wr := []) (w1 := []) hP hD [0, 1] [] rfl rfl (by decide) (by decide) hk1 hFc hP1 hD1
  subst hw
  clear hPc hDc hFc hP1 hD1 hk1 hz1 hvm ht
  generalize H1 = H at hP hS ⊢
  replace hP : va_P D vwCl [] H := hP
  replace hD : va_D A [] := hD
  refine lv_icmp_eq (tgt := 1466) hx hb dL_law_625 (by decide) (fun _ => ?_) (fun c => absurd (by decide) c)
  refine lv_iinc (v := 6) (lv' := [(4, .int 6), (3, .ref (ex 37)), (2, .ref (a 1)), (1, .ref (a 0)), (0, .ref b)]) hx hb dL_law_1466 hl (k := 0) rfl (by decide) (by decide) rfl (fun ls hl => ?_)
  refine lv_goto (tgt := 23) hx hb dL_law_1469 (by decide) ?_
  refine lv_iload hx hb dL_law_23 (lv_at hl 0 rfl) ?_
  refine lv_aload_n hx hb dL_law_25 rfl (lv_at hl 4 rfl) ?_
  refine va_slen hx hb hX hbl hbA hS dL_law_26 ?_
  refine xz_i 6 rfl ?_
  refine lv_bipush (v := 6) hx hb dL_law_27 (by decide) ?_
  refine lv_isub hx hb dL_law_29 ?_
  refine xz_i 0 (by decide) ?_
  refine lv_icmp_gt (tgt := 1472) hx hb dL_law_30 (by decide) (fun _ => ?_) (fun c => absurd (by decide) c)
  refine lv_iconst (v := 1) hx hb dL_law_1472 (by decide) ?_
  refine va_forget (fun q hq => by have h9 := hS.2.2 q hq; rw [hAe] at h9; exact h9) ?_
  refine W.widen (k := 600002) (n := 7302232) (Nat.le_of_ble_eq_true rfl) (Nat.le_of_ble_eq_true rfl) ?_
  subst hR
  rw [hQ]
  exact lw_ret hx hb hr hlocks dL_law_1473
