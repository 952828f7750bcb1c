/-! .. and the constructors that the throw goes through are declared -/
def xDs : List Cond := [.declares ⟨"java/lang/RuntimeException", "<init>", "()V"⟩, .declares ⟨"java/lang/Exception", "<init>", "()V"⟩, .declares ⟨"java/lang/Throwable", "<init>", "()V"⟩]
def xZ2 (A : Nat → Prop) (U : State) (H : Heap) : Prop := xZ A U H ∧ ∀ w ∈ xDs, va_Nw w U
theorem xDs_warm {s U : State} (hW : s.WarmedH U.vm) (h : ∀ w ∈ xDs, va_Nw w s) : ∀ w ∈ xDs, va_Nw w U := by
  intro w hw
  have h1 := h w hw
  simp only [xDs, List.mem_cons, List.not_mem_nil, or_false] at hw
  rcases hw with rfl | rfl | rfl <;> exact va_Nw.warmD hW h1
theorem xDs_same {u U : State} (hv : u.vm = U.vm) (h : ∀ w ∈ xDs, va_Nw w u) : ∀ w ∈ xDs, va_Nw w U := by
  intro w hw
  have h1 := h w hw
  simp only [xDs, List.mem_cons, List.not_mem_nil, or_false] at hw
  rcases hw with rfl | rfl | rfl <;> exact va_Nw.same rfl hv h1
def xPy (D : va_G) (T : Nat → ClassId) (av : List Value) (sz : Nat) (ws : va_W) : Array Value → State → Prop := va_Pc av (fun U => U.heap.size = sz ∧ va_P D vwCl ws U.heap ∧ xK D T U ∧ va_D (fun _ => True) ws ∧ xZ2 (va_A ws sz) U U.heap)
theorem xPy_blind {D : va_G} {T : Nat → ClassId} {av : List Value} {sz : Nat} {ws : va_W} : FrameBlind (xPy D T av sz ws) := fun a U g mk q => by
  obtain ⟨q0, q1, qP, qK, qD, qZ, qW⟩ := q
  exact ⟨q0, q1, qP, xK.same (u := U) (U := U.calling g mk a) rfl qK, qD, xZ.move (s := U) (U := U.calling g mk a) (Vm.Alike.refl U.vm) (fun _ _ _ => rfl) (fun _ h => h) qZ, xDs_same (u := U) (U := U.calling g mk a) rfl qW⟩
theorem xpreSy {D : va_G} {T : Nat → ClassId} {As : List Value} {ws : va_W} {s : State} {H : Heap} {A B : Nat → Prop} {locs : List Loc} (hK : xK D T s) (hP : va_P D vwCl ws H) (hD : va_D B ws) (hZ : xZ2 A s s.heap) (hF : ∀ q, va_A ws H.size q → A q) (hS : va_S A s.heap H locs) : PreS s H (xPy D T As H.size ws) As :=
  ⟨xPy_blind, fun U hU hW => ⟨rfl, by rw [hU], by rw [hU]; exact hP, hK.warm hW, hD.weaken (fun _ _ _ _ => trivial), by rw [hU]; exact xZ.move hW.alike hS.2.1 hF hZ.1, xDs_warm hW hZ.2⟩⟩
theorem xpreVy {D : va_G} {T : Nat → ClassId} {As : List Value} {ws : va_W} {s : State} {H : Heap} {A B : Nat → Prop} {locs : List Loc} {C : String} {b : Addr} (hK : xK D T s) (hP : va_P D vwCl ws H) (hD : va_D B ws) (hZ : xZ2 A s s.heap) (hF : ∀ q, va_A ws H.size q → A q) (hS : va_S A s.heap H locs) (hr : ∃ cell : Cell, H[b]? = some cell ∧ cell.vm.isStatics = false ∧ s.vm.findClass C = some cell.cls) : PreV s H C b (xPy D T (.ref b :: As) H.size ws) As :=
  ⟨xPy_blind, hr, fun U hU hW => ⟨rfl, by rw [hU], by rw [hU]; exact hP, hK.warm hW, hD.weaken (fun _ _ _ _ => trivial), by rw [hU]; exact xZ.move hW.alike hS.2.1 hF hZ.1, xDs_warm hW hZ.2⟩⟩
theorem xZ2_of {args : Array Value} {s : State} {A : Nat → Prop} (hts : ∀ w ∈ lw_tbl, w.before args s = true) (h : xZ A s s.heap) : xZ2 A s s.heap := by
  refine ⟨h, fun w hw => ?_⟩
  simp only [xDs, List.mem_cons, List.not_mem_nil, or_false] at hw
  rcases hw with rfl | rfl | rfl
  · exact va_Nw.of rfl (hts (.declares ⟨"java/lang/RuntimeException", "<init>", "()V"⟩) (by decide +kernel))
  · exact va_Nw.of rfl (hts (.declares ⟨"java/lang/Exception", "<init>", "()V"⟩) (by decide +kernel))
  · exact va_Nw.of rfl (hts (.declares ⟨"java/lang/Throwable", "<init>", "()V"⟩) (by decide +kernel))
set_option maxRecDepth 100000 in
theorem k_thr : ∀ w ∈ (vx_at0 RX11 174 "java/util/NoSuchElementException" ["java/lang/RuntimeException", "java/lang/Exception"]).filter goodWord, w ∈ xg := fun w h => xg_in ((show ∀ w ∈ (vx_at0 RX11 174 "java/util/NoSuchElementException" ["java/lang/RuntimeException", "java/lang/Exception"]).filter goodWord, w ∈ lw_tbl by decide +kernel) w h) (List.mem_filter.mp h).2
set_option maxRecDepth 100000 in
theorem k_thr2 : ∀ w ∈ (vx_at0 RX11 174 "java/util/NoSuchElementException" ["java/lang/RuntimeException", "java/lang/Exception"]).filter (fun w => !goodWord w), w ∈ [Cond.castable "java/util/NoSuchElementException" "java/util/NoSuchElementException", Cond.declares ⟨"java/lang/RuntimeException", "<init>", "()V"⟩, Cond.declares ⟨"java/lang/Exception", "<init>", "()V"⟩, Cond.declares ⟨"java/lang/Throwable", "<init>", "()V"⟩] := by decide +kernel
set_option maxRecDepth 100000 in
theorem k_thr3 : ∀ w ∈ Cond.classLink RX11 172 "java/util/NoSuchElementException" :: Cond.initialized "java/util/NoSuchElementException" :: (vx_at0 RX11 174 "java/util/NoSuchElementException" ["java/lang/RuntimeException", "java/lang/Exception"]), vx_ot w = true := by decide +kernel
theorem kw_soulW : Cond.codeWith yL_soul cL_soul 5 (some .int) [(0, 10, 13, 13)] ∈ xg := xg_in (List.mem_append_right _ (List.mem_of_getElem? (i := 1287) (by decide +kernel))) rfl
abbrev pre_X11_soul (T : Nat → ClassId) (a ex : Nat → Nat) (fi : Nat → Nat → Int32) (fl : Nat → Nat → Int64) (vi : Nat → Int32) : va_W := [((a 0), .inr (11, [.ref (ex 0), .ref (a 1), .ref (ex 1), .ref (ex 2), .ref (ex 3), .ref (ex 4), .ref (ex 5), .ref (ex 6), .ref (ex 7), .ref (ex 8), .ref (ex 9), .ref (ex 10), .ref (ex 11), .ref (ex 12), .int 0])), ((a 1), .inr (7, [.int 0, .int 0, .ref (ex 13), .ref (ex 14), .ref (ex 15), .ref (ex 16), .ref (ex 17), .ref (ex 18), .ref (ex 19), .ref (ex 20), .ref (ex 21), .ref (ex 22)]))]
set_option maxHeartbeats 4000000 in
set_option maxRecDepth 100000 in
theorem c_X11_soul (l : Launch) (hlt : l.stackTraces = false) (D : va_G) (T : Nat → ClassId) (a ex : Nat → Nat) (fi : Nat → Nat → Int32) (fl : Nat → Nat → Int64) (vi : Nat → Int32) (sz : Nat) : vx_Met l yX11_soul (xw yX11_soul cX11_soul 3 (some .int)) ({ frames := 8, cells := 1, slots := 6, locals := 200 }) (xPy D T [.ref (a 0), .int (vi 0), .int (vi 1)] sz (pre_X11_soul T a ex fi fl vi)) (va_Qi (fun (_ : Int32) (_ : Unit) => False) (fun _ _ => True) (va_A (pre_X11_soul T a ex fi fl vi) sz)) (vx_X (fun _ : Unit => True) (fun E _ _ => E = "java/util/NoSuchElementException") (va_A (pre_X11_soul T a ex fi fl vi) sz)) 1 6 (va_A (pre_X11_soul T a ex fi fl vi) sz) := by
  refine xofWx (cc := cX11_soul) (maxL := 3) (ret := (some .int)) (by decide) rfl ?_
  intro p e s m args below meth c s₁ R Q hR hQ B hml htab hv
  obtain ⟨rfl, hsz, hP, hK, hD0, hZ⟩ := hv
  have hx := B.exec
  have hb := B.bytes
  have hr := B.returns
  have hts := atoms_spec (ws := xw yX11_soul cX11_soul 3 (some .int)) B.pre
  have htg : ∀ w ∈ xg, w.before _ s = true := fun w h => hts w (List.mem_cons_of_mem _ h)
  have hown : s.vm.findClass RX11 = some m.cls := findClass_of_methodNamed B.named
  have hlocks := B.notSynchronized
  subst hsz
  have hD := hD0.self (sz := s.heap.size)
  generalize hAe : va_A (pre_X11_soul T a ex fi fl vi) s.heap.size = A at hD hQ hZ
  have hA : ∀ q : Nat, s.heap.size ≤ q → A q := fun q h => by rw [← hAe]; exact Or.inr h
  have hS : va_S A s.heap s.heap [] := va_S.rf
  replace hP : va_P D vwCl [((a 0), .inr (11, [.ref (ex 0), .ref (a 1), .ref (ex 1), .ref (ex 2), .ref (ex 3), .ref (ex 4), .ref (ex 5), .ref (ex 6), .ref (ex 7), .ref (ex 8), .ref (ex 9), .ref (ex 10), .ref (ex 11), .ref (ex 12), .int 0])), ((a 1), .inr (7, [.int 0, .int 0, .ref (ex 13), .ref (ex 14), .ref (ex 15), .ref (ex 16), .ref (ex 17), .ref (ex 18), .ref (ex 19), .ref (ex 20), .ref (ex 21), .ref (ex 22)]))] s.heap := hP
  replace hD : va_D A [((a 0), .inr (11, [.ref (ex 0), .ref (a 1), .ref (ex 1), .ref (ex 2), .ref (ex 3), .ref (ex 4), .ref (ex 5), .ref (ex 6), .ref (ex 7), .ref (ex 8), .ref (ex 9), .ref (ex 10), .ref (ex 11), .ref (ex 12), .int 0])), ((a 1), .inr (7, [.int 0, .int 0, .ref (ex 13), .ref (ex 14), .ref (ex 15), .ref (ex 16), .ref (ex 17), .ref (ex 18), .ref (ex 19), .ref (ex 20), .ref (ex 21), .ref (ex 22)]))] := hD
  have hl := lv_entry ([.ref (a 0), .int (vi 0), .int (vi 1)]) (n := 3) (Nat.le_of_ble_eq_true rfl)
  rw [lg_entry_eq]
  generalize (lg_sl ([.ref (a 0), .int (vi 0), .int (vi 1)]) ++ List.replicate (3 - (lg_sl ([.ref (a 0), .int (vi 0), .int (vi 1)])).length) Slot.unset).toArray = ls at hl ⊢
  replace hl : lv_has ls 3 [(0, .ref (a 0)), (1, .int (vi 0)), (2, .int (vi 1))] := hl
  refine lv_aload_n hx hb dX11_soul_0 rfl (lv_at hl 0 rfl) ?_
  refine va_get (D := D) (ci := 11) (v := .ref (a 1)) (C := RX11) (T := TX11) (N := 15) hx hb htg inX11 hown hK.1 hP 0 rfl rfl 1 (by decide) (htg _ kw_497) (fun _ h9 => h9) rfl dX11_soul_1 ?_
  refine lv_iload_n hx hb dX11_soul_4 rfl (lv_at hl 1 rfl) ?_
  have hPc := hP.sub (ws' := (pre_X7_isSoul T (xa [(a 1)]) (xa [(ex 13), (ex 14), (ex 15), (ex 16), (ex 17), (ex 18), (ex 19), (ex 20), (ex 21), (ex 22)]) (xf []) (xh []) (xv [(vi 0)]))) [1] rfl
  have hDc := hD.sub (ws' := (pre_X7_isSoul T (xa [(a 1)]) (xa [(ex 13), (ex 14), (ex 15), (ex 16), (ex 17), (ex 18), (ex 19), (ex 20), (ex 21), (ex 22)]) (xf []) (xh []) (xv [(vi 0)]))) [1] (by decide) rfl
  have hFc := va_free (wc := (pre_X7_isSoul T (xa [(a 1)]) (xa [(ex 13), (ex 14), (ex 15), (ex 16), (ex 17), (ex 18), (ex 19), (ex 20), (ex 21), (ex 22)]) (xf []) (xh []) (xv [(vi 0)]))) hD hS hA [1] rfl
  refine va_calli (va_runVN (As := [.int (vi 0)]) (rest := []) ⟨hx, hb, hml, hown, htg⟩ (c_X7_isSoul l D T (xa [(a 1)]) (xa [(ex 13), (ex 14), (ex 15), (ex 16), (ex 17), (ex 18), (ex 19), (ex 20), (ex 21), (ex 22)]) (xf []) (xh []) (xv [(vi 0)]) s.heap.size) ⟨va_cnB 1 htg (xg_ok kw_664) rfl rfl rfl (hK.2.1 _ kn_764) (htg _ kw_7) (by decide +kernel) ⟨by rw [hR]; exact Nat.le_of_ble_eq_true rfl, by rw [hR]; exact Nat.le_of_ble_eq_true rfl⟩, htg _ kw_663, htg _ ks_25⟩ (xpreV hK hPc hDc (va_recv hK.1 hPc (ci := 7) (q0 := 0) rfl rfl)) rfl rfl hl.1 rfl (lv_room (Nat.le_of_ble_eq_true rfl)) dX11_soul_5 ⟨by rw [hR]; exact Nat.le_of_ble_eq_true rfl, by rw [hR]; exact Nat.le_of_ble_eq_true rfl⟩) hS (fun q _ h => hFc q h) hFc (fun r9 u t H1 locs ht hvm hw hB hz1 hk1 hS => ?_)
  obtain ⟨bk, fik, flk, vik, hP1, hD1, hGk⟩ := hB
  rw [ht] at hP1
  obtain ⟨hP, hD⟩ := va_join (wr := [((a 0), .inr (11, [.ref (ex 0), .ref (a 1), .ref (ex 1), .ref (ex 2), .ref (ex 3), .ref (ex 4), .ref (ex 5), .ref (ex 6), .ref (ex 7), .ref (ex 8), .ref (ex 9), .ref (ex 10), .ref (ex 11), .ref (ex 12), .int 0]))]) (w1 := [((a 1), .inr (7, [.int 0, .int 0, .ref (ex 13), .ref (ex 14), .ref (ex 15), .ref (ex 16), .ref (ex 17), .ref (ex 18), .ref (ex 19), .ref (ex 20), .ref (ex 21), .ref (ex 22)]))]) hP hD [1] [0] rfl rfl (by decide) (by decide) hk1 hFc hP1 hD1
  subst hw
  clear hPc hDc hFc hP1 hD1 hk1 hz1 hvm ht
  generalize H1 = H at hP hS ⊢
  replace hP : va_P D vwCl [((a 0), .inr (11, [.ref (ex 0), .ref (a 1), .ref (ex 1), .ref (ex 2), .ref (ex 3), .ref (ex 4), .ref (ex 5), .ref (ex 6), .ref (ex 7), .ref (ex 8), .ref (ex 9), .ref (ex 10), .ref (ex 11), .ref (ex 12), .int 0])), ((a 1), .inr (7, [.int 0, .int 0, .ref (ex 13), .ref (ex 14), .ref (ex 15), .ref (ex 16), .ref (ex 17), .ref (ex 18), .ref (ex 19), .ref (ex 20), .ref (ex 21), .ref (ex 22)]))] H := hP
  replace hD : va_D A [((a 0), .inr (11, [.ref (ex 0), .ref (a 1), .ref (ex 1), .ref (ex 2), .ref (ex 3), .ref (ex 4), .ref (ex 5), .ref (ex 6), .ref (ex 7), .ref (ex 8), .ref (ex 9), .ref (ex 10), .ref (ex 11), .ref (ex 12), .int 0])), ((a 1), .inr (7, [.int 0, .int 0, .ref (ex 13), .ref (ex 14), .ref (ex 15), .ref (ex 16), .ref (ex 17), .ref (ex 18), .ref (ex 19), .ref (ex 20), .ref (ex 21), .ref (ex 22)]))] := hD
  refine lv_if_eq (tgt := 21) hx hb dX11_soul_8 (by decide) (fun _ => ?_) (fun c => absurd (by decide) c)
  rw [hQ]
  exact vx_throw0 (own := RX11) (cls := "java/util/NoSuchElementException") (names := ["java/lang/RuntimeException", "java/lang/Exception"]) (ik := 172) (ic := 174) hx hb hlt hown (by decide +kernel) (by decide +kernel) (htg _ kw_1293) (htg _ kw_23) (vx_hat (B := [.castable "java/util/NoSuchElementException" "java/util/NoSuchElementException", .declares ⟨"java/lang/RuntimeException", "<init>", "()V"⟩, .declares ⟨"java/lang/Exception", "<init>", "()V"⟩, .declares ⟨"java/lang/Throwable", "<init>", "()V"⟩]) (fun w h => htg w (k_thr w h)) k_thr2 (vx_c (va_Nw.use rfl (hK.2.1 _ kn_1295)) (vx_c (va_Nw.use rfl (hZ.2 _ (by decide))) (vx_c (va_Nw.use rfl (hZ.2 _ (by decide))) (vx_c (va_Nw.use rfl (hZ.2 _ (by decide))) vx_n))))) k_thr3 hZ.1.1 hZ.1.2 hS (hl.1.trans hml.symm) dX11_soul_21 dX11_soul_24 dX11_soul_25 dX11_soul_28 (fun z hz => (htab z hz).elim) (by rw [hR]; exact Nat.le_of_ble_eq_true rfl) (by rw [hR]; exact Nat.le_of_ble_eq_true rfl) (by rw [hR]; exact Nat.le_of_ble_eq_true rfl) (by rw [hR]; exact Nat.le_of_ble_eq_true rfl) hlocks (fun t ht h1 h2 => ⟨(), trivial, rfl, Nat.le_trans hS.1 h1, fun q hq hn => (h2 q (Nat.lt_of_lt_of_le hq hS.1)).trans (hS.2.1 q hq hn)⟩) hS.2.2 (Nat.le_of_ble_eq_true rfl) (Nat.le_of_ble_eq_true rfl)
abbrev pre_L_soul (T : Nat → ClassId) (a ex : Nat → Nat) (fi : Nat → Nat → Int32) (fl : Nat → Nat → Int64) (vi : Nat → Int32) : va_W := [((a 0), .inr (11, [.ref (ex 0), .ref (a 1), .ref (ex 1), .ref (ex 2), .ref (ex 3), .ref (ex 4), .ref (ex 5), .ref (ex 6), .ref (ex 7), .ref (ex 8), .ref (ex 9), .ref (ex 10), .ref (ex 11), .ref (ex 12), .int 0])), ((a 1), .inr (7, [.int 0, .int 0, .ref (ex 13), .ref (ex 14), .ref (ex 15), .ref (ex 16), .ref (ex 17), .ref (ex 18), .ref (ex 19), .ref (ex 20), .ref (ex 21), .ref (ex 22)]))]
set_option maxHeartbeats 4000000 in
set_option maxRecDepth 100000 in
theorem c_L_soul (l : Launch) (hlt : l.stackTraces = false) (D : va_G) (T : Nat → ClassId) (a ex : Nat → Nat) (fi : Nat → Nat → Int32) (fl : Nat → Nat → Int64) (vi : Nat → Int32) (sz : Nat) : Met l yL_soul (xwW yL_soul cL_soul 5 (some .int) [(0, 10, 13, 13)]) ({ frames := 9, cells := 1, slots := 6, locals := 240 }) (xPy D T [.ref (a 0), .int (vi 0), .int (vi 1), .ref (ex 23)] sz (pre_L_soul T a ex fi fl vi)) (va_Qi (fun r (_ : Unit) => r = 1) (fun _ _ => True) (va_A (pre_L_soul T a ex fi fl vi) sz)) 1 6 (va_A (pre_L_soul T a ex fi fl vi) sz) := by
  refine xofWW (cc := cL_soul) (maxL := 5) (ret := (some .int)) (hh := [(0, 10, 13, 13)]) (by decide) rfl ?_
  intro p e s m args below meth c s₁ R Q hR hQ B hml hv
  obtain ⟨rfl, hsz, hP, hK, hD0, hZ⟩ := hv
  have hx := B.exec
  have hb := B.bytes
  have hr := B.returns
  have hts := atoms_spec (ws := xwW yL_soul cL_soul 5 (some .int) [(0, 10, 13, 13)]) B.pre
  have htg : ∀ w ∈ xg, w.before _ s = true := fun w h => hts w (List.mem_cons_of_mem _ h)
  have htab : c.exceptionTable.toList = [⟨0, 10, 13, 13⟩] := (vx_table (x := yL_soul) B (hts _ List.mem_cons_self)).trans rfl
  have hown : s.vm.findClass RL = some m.cls := findClass_of_methodNamed B.named
  have hlocks := B.notSynchronized
  subst hsz
  have hD := hD0.self (sz := s.heap.size)
  generalize hAe : va_A (pre_L_soul T a ex fi fl vi) s.heap.size = A at hD hQ hZ
  have hA : ∀ q : Nat, s.heap.size ≤ q → A q := fun q h => by rw [← hAe]; exact Or.inr h
  have hS : va_S A s.heap s.heap [] := va_S.rf
  replace hP : va_P D vwCl [((a 0), .inr (11, [.ref (ex 0), .ref (a 1), .ref (ex 1), .ref (ex 2), .ref (ex 3), .ref (ex 4), .ref (ex 5), .ref (ex 6), .ref (ex 7), .ref (ex 8), .ref (ex 9), .ref (ex 10), .ref (ex 11), .ref (ex 12), .int 0])), ((a 1), .inr (7, [.int 0, .int 0, .ref (ex 13), .ref (ex 14), .ref (ex 15), .ref (ex 16), .ref (ex 17), .ref (ex 18), .ref (ex 19), .ref (ex 20), .ref (ex 21), .ref (ex 22)]))] s.heap := hP
  replace hD : va_D A [((a 0), .inr (11, [.ref (ex 0), .ref (a 1), .ref (ex 1), .ref (ex 2), .ref (ex 3), .ref (ex 4), .ref (ex 5), .ref (ex 6), .ref (ex 7), .ref (ex 8), .ref (ex 9), .ref (ex 10), .ref (ex 11), .ref (ex 12), .int 0])), ((a 1), .inr (7, [.int 0, .int 0, .ref (ex 13), .ref (ex 14), .ref (ex 15), .ref (ex 16), .ref (ex 17), .ref (ex 18), .ref (ex 19), .ref (ex 20), .ref (ex 21), .ref (ex 22)]))] := hD
  have hl := lv_entry ([.ref (a 0), .int (vi 0), .int (vi 1), .ref (ex 23)]) (n := 5) (Nat.le_of_ble_eq_true rfl)
  rw [lg_entry_eq]
  generalize (lg_sl ([.ref (a 0), .int (vi 0), .int (vi 1), .ref (ex 23)]) ++ List.replicate (5 - (lg_sl ([.ref (a 0), .int (vi 0), .int (vi 1), .ref (ex 23)])).length) Slot.unset).toArray = ls at hl ⊢
  replace hl : lv_has ls 5 [(0, .ref (a 0)), (1, .int (vi 0)), (2, .int (vi 1)), (3, .ref (ex 23))] := hl
  refine lv_aload_n hx hb dL_soul_0 rfl (lv_at hl 3 rfl) ?_
  refine lv_iconst (v := 0) hx hb dL_soul_1 (by decide) ?_
  refine lv_aload_n hx hb dL_soul_2 rfl (lv_at hl 0 rfl) ?_
  refine lv_iload_n hx hb dL_soul_3 rfl (lv_at hl 1 rfl) ?_
  refine lv_iload_n hx hb dL_soul_4 rfl (lv_at hl 2 rfl) ?_
  have hPc := hP.sub (ws' := (pre_X11_soul T (xa [(a 0), (a 1)]) ex fi fl vi)) [0, 1] rfl
  have hDc := hD.sub (ws' := (pre_X11_soul T (xa [(a 0), (a 1)]) ex fi fl vi)) [0, 1] (by decide) rfl
  have hFc := va_free (wc := (pre_X11_soul T (xa [(a 0), (a 1)]) ex fi fl vi)) hD hS hA [0, 1] rfl
  refine vx_calli (vx_runV (As := [.int (vi 0), .int (vi 1)]) (rest := [.int 0, .ref (ex 23)]) ⟨hx, hb, hml, hown, htg⟩ (c_X11_soul l hlt D T (xa [(a 0), (a 1)]) ex fi fl vi s.heap.size) ⟨callB_of 2 htg (xg_ok kw_1292) rfl rfl rfl (htg _ kw_1) (htg _ kw_1289) (by decide +kernel) ⟨by rw [hR]; exact Nat.le_of_ble_eq_true rfl, by rw [hR]; exact Nat.le_of_ble_eq_true rfl⟩, htg _ kw_1290, htg _ kw_1291⟩ (xpreVy hK hPc hDc hZ hFc hS (va_recv hK.1 hPc (ci := 11) (q0 := 0) rfl rfl)) rfl rfl hl.1 rfl (lv_room (Nat.le_of_ble_eq_true rfl)) dL_soul_5 ⟨by rw [hR]; exact Nat.le_of_ble_eq_true rfl, by rw [hR]; exact Nat.le_of_ble_eq_true rfl⟩) hS (fun q _ h => hFc q h) hFc (fun q _ h => hFc q h) (fun E ce q9 u t H1 locs ht hvm hpx hBX hz1 hk1 hS hce hcv hcl => ?_) (fun r u t H1 locs ht hvm hp _ _ _ _ => hp.elim)
  subst hBX
  refine xcatch (own := RL) (name := "java/util/NoSuchElementException") (E := "java/util/NoSuchElementException") hown ⟨0, 10, 13, 13⟩ htab (by decide) (by decide) (htg _ kw_1288) (va_Nw.use rfl (hK.2.1 _ kn_1295)) hce hcv hcl ?_
  refine lv_astore (lv' := [(4, .ref q9), (0, .ref (a 0)), (1, .int (vi 0)), (2, .int (vi 1)), (3, .ref (ex 23))]) hx hb dL_soul_13 hl (by decide) rfl (fun ls hl => ?_)
  refine lv_iconst (v := 1) hx hb dL_soul_15 (by decide) ?_
  refine W.widen (k := 1) (n := 6) (Nat.le_of_ble_eq_true rfl) (Nat.le_of_ble_eq_true rfl) ?_
  rw [hQ]
  exact W.iret (v := 1) hx hb hr (fun t ht hW => ⟨⟨1, (), rfl, rfl, trivial⟩, hS.F ht⟩) hS.2.2 dL_soul_16
