abbrev pre_X6_hasRoom (T : Nat → ClassId) (a ex : Nat → Nat) (fi : Nat → Nat → Int32) (fl : Nat → Nat → Int64) (vi : Nat → Int32) (vl : Nat → Int64) : va_W := [((a 0), .inr (6, [.ref (ex 0), .ref (ex 1), .int (vi 1), .int (vi 2), .int (vi 3), .int (vi 4), .int (vi 5), .int (vi 6), .long (vl 0), .int (vi 7), .int (vi 8), .int (vi 9), .int (vi 10), .int (vi 11)]))]
set_option maxHeartbeats 8000000 in
set_option maxRecDepth 100000 in
theorem c_X6_hasRoom (l : Launch) (D : va_G) (T : Nat → ClassId) (a ex : Nat → Nat) (fi : Nat → Nat → Int32) (fl : Nat → Nat → Int64) (vi : Nat → Int32) (vl : Nat → Int64) (sz : Nat) (hp0 : 0 ≤ (vi 0).toInt ∧ (vi 0).toInt ≤ 100) (hp1 : 0 ≤ (vi 2).toInt ∧ (vi 2).toInt ≤ 940) (hp2 : 0 ≤ (vi 3).toInt ∧ (vi 3).toInt ≤ 940) (hp3 : 0 ≤ (vi 4).toInt ∧ (vi 4).toInt ≤ 940) (hp4 : 0 ≤ (vi 6).toInt ∧ (vi 6).toInt ≤ 940) (hp5 : 0 ≤ (vi 11).toInt ∧ (vi 11).toInt ≤ 940) : Met l yX6_hasRoom (xw yX6_hasRoom cX6_hasRoom 2 (some .boolean)) ({ frames := 0, cells := 0, slots := 0, locals := 0 }) (xP D T [.ref (a 0), .int (vi 0)] sz (pre_X6_hasRoom T a ex fi fl vi vl)) (va_Qi (fun r u => r = u) (xC D (va_A (pre_X6_hasRoom T a ex fi fl vi vl) sz) (fun fj fm vj vm => [((a 0), .inr (6, [.ref (ex 0), .ref (ex 1), .int (vi 1), .int (vi 2), .int (vi 3), .int (vi 4), .int (vi 5), .int (vi 6), .long (vl 0), .int (vi 7), .int (vi 8), .int (vi 9), .int (vi 10), .int (vi 11)]))]) (fun (r : Int32) (fj : Nat → Nat → Int32) (fm : Nat → Nat → Int64) (vj : Nat → Int32) (vm : Nat → Int64) => ((r = 1 ∧ ((vi 2).toInt + (vi 0).toInt ≤ 940)) ∨ (r = 0 ∧ (¬ (vi 2).toInt + (vi 0).toInt ≤ 940))) ∧ True)) (va_A (pre_X6_hasRoom T a ex fi fl vi vl) sz)) 0 0 (va_A (pre_X6_hasRoom T a ex fi fl vi vl) sz) := by
  refine xofW (cc := cX6_hasRoom) (maxL := 2) (ret := (some .boolean)) (by decide) rfl ?_
  intro p e s m args below meth c s₁ R Q hR hQ B hml hv
  obtain ⟨rfl, hsz, hP, hK, hD0⟩ := hv
  have hx := B.exec
  have hb := B.bytes
  have hr := B.returns
  have hts := atoms_spec (ws := xw yX6_hasRoom cX6_hasRoom 2 (some .boolean)) B.pre
  have htg : ∀ w ∈ xg, w.before _ s = true := fun w h => hts w (List.mem_cons_of_mem _ h)
  have hown : s.vm.findClass RX6 = some m.cls := findClass_of_methodNamed B.named
  have hlocks := B.notSynchronized
  subst hsz
  have hD := hD0.self (sz := s.heap.size)
  generalize hAe : va_A (pre_X6_hasRoom T a ex fi fl vi vl) s.heap.size = A at hD hQ
  have hA : ∀ q : Nat, s.heap.size ≤ q → A q := fun q h => by rw [← hAe]; exact Or.inr h
  have hS : va_S A s.heap s.heap [] := va_S.rf
  replace hP : va_P D vwCl [((a 0), .inr (6, [.ref (ex 0), .ref (ex 1), .int (vi 1), .int (vi 2), .int (vi 3), .int (vi 4), .int (vi 5), .int (vi 6), .long (vl 0), .int (vi 7), .int (vi 8), .int (vi 9), .int (vi 10), .int (vi 11)]))] s.heap := hP
  replace hD : va_D A [((a 0), .inr (6, [.ref (ex 0), .ref (ex 1), .int (vi 1), .int (vi 2), .int (vi 3), .int (vi 4), .int (vi 5), .int (vi 6), .long (vl 0), .int (vi 7), .int (vi 8), .int (vi 9), .int (vi 10), .int (vi 11)]))] := hD
  have hl := lv_entry ([.ref (a 0), .int (vi 0)]) (n := 2) (Nat.le_of_ble_eq_true rfl)
  rw [lg_entry_eq]
  generalize (lg_sl ([.ref (a 0), .int (vi 0)]) ++ List.replicate (2 - (lg_sl ([.ref (a 0), .int (vi 0)])).length) Slot.unset).toArray = ls at hl ⊢
  replace hl : lv_has ls 2 [(0, .ref (a 0)), (1, .int (vi 0))] := hl
  refine lv_aload_n hx hb dX6_hasRoom_0 rfl (lv_at hl 0 rfl) ?_
  refine va_get (D := D) (ci := 6) (v := .int (vi 2)) (C := RX6) (T := TX6) (N := 14) hx hb htg inX6 hown hK.1 hP 0 rfl rfl 3 (by decide) (htg _ kw_98) (fun _ h9 => h9) rfl dX6_hasRoom_1 ?_
  refine lv_iload_n hx hb dX6_hasRoom_4 rfl (lv_at hl 1 rfl) ?_
  refine lv_iadd hx hb dX6_hasRoom_5 ?_
  refine lv_topi (fun z5 ez5 => ?_)
  have tz5 : z5.toInt = (vi 2).toInt + (vi 0).toInt := by rw [ez5]; exact xadd rfl rfl (by omega) (by omega)
  refine lv_sipush (v := 940) hx hb dX6_hasRoom_6 (by decide) ?_
  refine lv_icmp_gt (tgt := 16) hx hb dX6_hasRoom_9 (by decide) (fun c9 => ?_) (fun c9 => ?_)
  · have c9 := xgt (k := 940) (by decide) c9
    refine lv_iconst (v := 0) hx hb dX6_hasRoom_16 (by decide) ?_
    have hP9 := hP.sub (ws' := [((a 0), .inr (6, [.ref (ex 0), .ref (ex 1), .int (vi 1), .int (vi 2), .int (vi 3), .int (vi 4), .int (vi 5), .int (vi 6), .long (vl 0), .int (vi 7), .int (vi 8), .int (vi 9), .int (vi 10), .int (vi 11)]))]) [0] rfl
    have hD9 := hD.sub (ws' := [((a 0), .inr (6, [.ref (ex 0), .ref (ex 1), .int (vi 1), .int (vi 2), .int (vi 3), .int (vi 4), .int (vi 5), .int (vi 6), .long (vl 0), .int (vi 7), .int (vi 8), .int (vi 9), .int (vi 10), .int (vi 11)]))]) [0] (by decide +kernel) rfl
    rw [hQ]
    exact W.zret (v := 0) hx hb hr rfl (fun t ht hW => ⟨⟨0, 0, rfl, rfl, xf [], xh [], xv [], xl [], by rw [ht]; exact hP9, hD9, ⟨(Or.inr ⟨rfl, by show ¬ (vi 2).toInt + (vi 0).toInt ≤ 940; first | trivial | omega | assumption⟩), trivial⟩⟩, hS.F ht⟩) hS.2.2 dX6_hasRoom_17
  · have c9 := xngt (k := 940) (by decide) c9
    refine lv_iconst (v := 1) hx hb dX6_hasRoom_12 (by decide) ?_
    refine lv_goto (tgt := 17) hx hb dX6_hasRoom_13 (by decide) ?_
    have hP9 := hP.sub (ws' := [((a 0), .inr (6, [.ref (ex 0), .ref (ex 1), .int (vi 1), .int (vi 2), .int (vi 3), .int (vi 4), .int (vi 5), .int (vi 6), .long (vl 0), .int (vi 7), .int (vi 8), .int (vi 9), .int (vi 10), .int (vi 11)]))]) [0] rfl
    have hD9 := hD.sub (ws' := [((a 0), .inr (6, [.ref (ex 0), .ref (ex 1), .int (vi 1), .int (vi 2), .int (vi 3), .int (vi 4), .int (vi 5), .int (vi 6), .long (vl 0), .int (vi 7), .int (vi 8), .int (vi 9), .int (vi 10), .int (vi 11)]))]) [0] (by decide +kernel) rfl
    rw [hQ]
    exact W.zret (v := 1) hx hb hr rfl (fun t ht hW => ⟨⟨1, 1, rfl, rfl, xf [], xh [], xv [], xl [], by rw [ht]; exact hP9, hD9, ⟨(Or.inl ⟨rfl, by show (vi 2).toInt + (vi 0).toInt ≤ 940; first | trivial | omega | assumption⟩), trivial⟩⟩, hS.F ht⟩) hS.2.2 dX6_hasRoom_17
abbrev pre_X6_put (T : Nat → ClassId) (a ex : Nat → Nat) (fi : Nat → Nat → Int32) (fl : Nat → Nat → Int64) (vi : Nat → Int32) (vl : Nat → Int64) : va_W := [((a 0), .inr (6, [.ref (a 1), .ref (ex 0), .int (vi 1), .int (vi 2), .int (vi 3), .int (vi 4), .int (vi 5), .int (vi 6), .long (vl 0), .int (vi 7), .int (vi 8), .int (vi 9), .int (vi 10), .int (vi 11)])), ((a 1), .inl (T 0, 940, .inl (fi 0)))]
set_option maxHeartbeats 8000000 in
set_option maxRecDepth 100000 in
theorem c_X6_put (l : Launch) (D : va_G) (T : Nat → ClassId) (a ex : Nat → Nat) (fi : Nat → Nat → Int32) (fl : Nat → Nat → Int64) (vi : Nat → Int32) (vl : Nat → Int64) (sz : Nat) (hp0 : 0 ≤ (vi 2).toInt ∧ (vi 2).toInt ≤ 940) (hp1 : 0 ≤ (vi 3).toInt ∧ (vi 3).toInt ≤ 940) (hp2 : 0 ≤ (vi 4).toInt ∧ (vi 4).toInt ≤ 940) (hp3 : 0 ≤ (vi 6).toInt ∧ (vi 6).toInt ≤ 940) (hp4 : 0 ≤ (vi 11).toInt ∧ (vi 11).toInt ≤ 940) (hp5 : (vi 2).toInt ≤ 936) : Met l yX6_put (xw yX6_put cX6_put 3 none) ({ frames := 0, cells := 0, slots := 0, locals := 0 }) (xP D T [.ref (a 0), .int (vi 0)] sz (pre_X6_put T a ex fi fl vi vl)) (va_Qv (fun _ : Int32 => True) (xC D (va_A (pre_X6_put T a ex fi fl vi vl) sz) (fun fj fm vj vm => [((a 0), .inr (6, [.ref (a 1), .ref (ex 0), .int (vi 1), .int (vj 0), .int (vi 3), .int (vi 4), .int (vi 5), .int (vi 6), .long (vl 0), .int (vi 7), .int (vi 8), .int (vi 9), .int (vi 10), .int (vi 11)])), ((a 1), .inl (T 0, 940, .inl (fj 0)))]) (fun (r : Int32) (fj : Nat → Nat → Int32) (fm : Nat → Nat → Int64) (vj : Nat → Int32) (vm : Nat → Int64) => (0 ≤ (vj 0).toInt ∧ (vj 0).toInt ≤ 940) ∧ ((vj 0).toInt = (vi 2).toInt + 4) ∧ R_X6_put fi fl vi vl r fj fm vj vm ∧ True)) (va_A (pre_X6_put T a ex fi fl vi vl) sz)) 0 0 (va_A (pre_X6_put T a ex fi fl vi vl) sz) := by
  refine xofW (cc := cX6_put) (maxL := 3) (ret := none) (by decide) rfl ?_
  intro p e s m args below meth c s₁ R Q hR hQ B hml hv
  obtain ⟨rfl, hsz, hP, hK, hD0⟩ := hv
  have hx := B.exec
  have hb := B.bytes
  have hr := B.returns
  have hts := atoms_spec (ws := xw yX6_put cX6_put 3 none) B.pre
  have htg : ∀ w ∈ xg, w.before _ s = true := fun w h => hts w (List.mem_cons_of_mem _ h)
  have hown : s.vm.findClass RX6 = some m.cls := findClass_of_methodNamed B.named
  have hlocks := B.notSynchronized
  subst hsz
  have hD := hD0.self (sz := s.heap.size)
  generalize hAe : va_A (pre_X6_put T a ex fi fl vi vl) s.heap.size = A at hD hQ
  have hA : ∀ q : Nat, s.heap.size ≤ q → A q := fun q h => by rw [← hAe]; exact Or.inr h
  have hS : va_S A s.heap s.heap [] := va_S.rf
  replace hP : va_P D vwCl [((a 0), .inr (6, [.ref (a 1), .ref (ex 0), .int (vi 1), .int (vi 2), .int (vi 3), .int (vi 4), .int (vi 5), .int (vi 6), .long (vl 0), .int (vi 7), .int (vi 8), .int (vi 9), .int (vi 10), .int (vi 11)])), ((a 1), .inl (T 0, 940, .inl (fi 0)))] s.heap := hP
  replace hD : va_D A [((a 0), .inr (6, [.ref (a 1), .ref (ex 0), .int (vi 1), .int (vi 2), .int (vi 3), .int (vi 4), .int (vi 5), .int (vi 6), .long (vl 0), .int (vi 7), .int (vi 8), .int (vi 9), .int (vi 10), .int (vi 11)])), ((a 1), .inl (T 0, 940, .inl (fi 0)))] := hD
  have hl := lv_entry ([.ref (a 0), .int (vi 0)]) (n := 3) (Nat.le_of_ble_eq_true rfl)
  rw [lg_entry_eq]
  generalize (lg_sl ([.ref (a 0), .int (vi 0)]) ++ List.replicate (3 - (lg_sl ([.ref (a 0), .int (vi 0)])).length) Slot.unset).toArray = ls at hl ⊢
  replace hl : lv_has ls 3 [(0, .ref (a 0)), (1, .int (vi 0))] := hl
  refine lv_bipush (v := 24) hx hb dX6_put_0 (by decide) ?_
  refine lv_istore_n (lv' := [(2, .int 24), (0, .ref (a 0)), (1, .int (vi 0))]) hx hb dX6_put_2 rfl hl (by decide) rfl (fun ls hl => ?_)
  have lp : ∀ (kn : Nat) (w2 : Int32) (wf : Nat → Int32) (wv : Int32) (H : Heap) (locs : List Loc) (ls : Array Slot), (-8 ≤ w2.toInt ∧ w2.toInt ≤ 24) → (0 ≤ wv.toInt ∧ wv.toInt ≤ 940) → (8 * ((wv).toInt - (vi 2).toInt) = 24 - w2.toInt) → (wf = pf (fi 0) ((vi 2).toInt).toNat (vi 0) ((wv).toInt - (vi 2).toInt).toNat) → (2147483648 + w2.toInt).toNat = kn → va_P D vwCl [((a 0), .inr (6, [.ref (a 1), .ref (ex 0), .int (vi 1), .int wv, .int (vi 3), .int (vi 4), .int (vi 5), .int (vi 6), .long (vl 0), .int (vi 7), .int (vi 8), .int (vi 9), .int (vi 10), .int (vi 11)])), ((a 1), .inl (T 0, 940, .inl wf))] H → va_D A [((a 0), .inr (6, [.ref (a 1), .ref (ex 0), .int (vi 1), .int wv, .int (vi 3), .int (vi 4), .int (vi 5), .int (vi 6), .long (vl 0), .int (vi 7), .int (vi 8), .int (vi 9), .int (vi 10), .int (vi 11)])), ((a 1), .inl (T 0, 940, .inl wf))] → va_S A s.heap H locs → lv_has ls 3 [(2, .int w2), (0, .ref (a 0)), (1, .int (vi 0))] → W p l e R s m ([.ref (a 0), .int (vi 0)] : List Value).toArray below meth c H locs 0 0 Q (F0 m 3 ls []) := by
    intro kn
    induction kn using Nat.strongRecOn with
    | _ kn ih =>
      intro w2 wf wv H locs ls hi hi_1 hpl8 hpf9 hm hP hD hS hl
      refine lv_iload_n hx hb dX6_put_3 rfl (lv_at hl 0 rfl) ?_
      refine lv_if_lt (tgt := 46) hx hb dX6_put_4 (by decide) (fun c4 => ?_) (fun c4 => ?_)
      · have c4 := xlt (k := 0) (by decide) c4
        have hP9 := hP.sub (ws' := [((a 0), .inr (6, [.ref (a 1), .ref (ex 0), .int (vi 1), .int wv, .int (vi 3), .int (vi 4), .int (vi 5), .int (vi 6), .long (vl 0), .int (vi 7), .int (vi 8), .int (vi 9), .int (vi 10), .int (vi 11)])), ((a 1), .inl (T 0, 940, .inl wf))]) [0, 1] rfl
        have hD9 := hD.sub (ws' := [((a 0), .inr (6, [.ref (a 1), .ref (ex 0), .int (vi 1), .int wv, .int (vi 3), .int (vi 4), .int (vi 5), .int (vi 6), .long (vl 0), .int (vi 7), .int (vi 8), .int (vi 9), .int (vi 10), .int (vi 11)])), ((a 1), .inl (T 0, 940, .inl wf))]) [0, 1] (by decide +kernel) rfl
        rw [hQ]
        exact W.vret hx hb hr (fun t ht hW => ⟨⟨(0 : Int32), rfl, trivial, xf [wf], xh [], xv [wv], xl [], by rw [ht]; exact hP9, hD9, ⟨hi_1, (by show (wv).toInt = (vi 2).toInt + 4; first | omega | assumption), (by unfold R_X6_put; exact (fun Q9 k9_0 k9_1 => k9_0 hp0 hp1 hp2 hp3 hp4 hp5 w2 wf wv hi hi_1 hpl8 hpf9 c4 rfl rfl)), trivial⟩⟩, hS.F ht⟩) hS.2.2 dX6_put_46
      · have c4 := xnlt (k := 0) (by decide) c4
        refine lv_aload_n hx hb dX6_put_7 rfl (lv_at hl 1 rfl) ?_
        refine va_get (D := D) (ci := 6) (v := .int wv) (C := RX6) (T := TX6) (N := 14) hx hb htg inX6 hown hK.1 hP 0 rfl rfl 3 (by decide) (htg _ kw_98) (fun _ h9 => h9) rfl dX6_put_8 ?_
        refine lv_sipush (v := 940) hx hb dX6_put_11 (by decide) ?_
        refine lv_icmp_ge (tgt := 46) hx hb dX6_put_14 (by decide) (fun c14 => ?_) (fun c14 => ?_)
        · have c14 := xge (k := 940) (by decide) c14
          have hP9 := hP.sub (ws' := [((a 0), .inr (6, [.ref (a 1), .ref (ex 0), .int (vi 1), .int wv, .int (vi 3), .int (vi 4), .int (vi 5), .int (vi 6), .long (vl 0), .int (vi 7), .int (vi 8), .int (vi 9), .int (vi 10), .int (vi 11)])), ((a 1), .inl (T 0, 940, .inl wf))]) [0, 1] rfl
          have hD9 := hD.sub (ws' := [((a 0), .inr (6, [.ref (a 1), .ref (ex 0), .int (vi 1), .int wv, .int (vi 3), .int (vi 4), .int (vi 5), .int (vi 6), .long (vl 0), .int (vi 7), .int (vi 8), .int (vi 9), .int (vi 10), .int (vi 11)])), ((a 1), .inl (T 0, 940, .inl wf))]) [0, 1] (by decide +kernel) rfl
          rw [hQ]
          exact W.vret hx hb hr (fun t ht hW => ⟨⟨(0 : Int32), rfl, trivial, xf [wf], xh [], xv [wv], xl [], by rw [ht]; exact hP9, hD9, ⟨hi_1, (by show (wv).toInt = (vi 2).toInt + 4; first | omega | assumption), (by unfold R_X6_put; exact (fun Q9 k9_0 k9_1 => k9_1 hp0 hp1 hp2 hp3 hp4 hp5 w2 wf wv hi hi_1 hpl8 hpf9 c4 c14 rfl rfl)), trivial⟩⟩, hS.F ht⟩) hS.2.2 dX6_put_46
        · have c14 := xnge (k := 940) (by decide) c14
          refine lv_aload_n hx hb dX6_put_17 rfl (lv_at hl 1 rfl) ?_
          refine va_get (D := D) (ci := 6) (v := .ref (a 1)) (C := RX6) (T := TX6) (N := 14) hx hb htg inX6 hown hK.1 hP 0 rfl rfl 0 (by decide) (htg _ kw_94) (fun _ h9 => h9) rfl dX6_put_18 ?_
          refine lv_aload_n hx hb dX6_put_21 rfl (lv_at hl 1 rfl) ?_
          refine va_get (D := D) (ci := 6) (v := .int wv) (C := RX6) (T := TX6) (N := 14) hx hb htg inX6 hown hK.1 hP 0 rfl rfl 3 (by decide) (htg _ kw_98) (fun _ h9 => h9) rfl dX6_put_22 ?_
          refine lv_iload_n hx hb dX6_put_25 rfl (lv_at hl 2 rfl) ?_
          refine lv_iload_n hx hb dX6_put_26 rfl (lv_at hl 0 rfl) ?_
          refine lv_iushr hx hb dX6_put_27 rfl ?_
          refine lv_topi (fun z27 ez27 => ?_)
          refine lv_i2b hx hb dX6_put_28 rfl ?_
          refine lv_topi (fun z28 ez28 => ?_)
          have tz28 : -128 ≤ z28.toInt ∧ z28.toInt ≤ 127 := by rw [ez28]; exact xi2b _
          refine va_bast hx hb hK.1 hP hD hS 1 0 rfl rfl (vp_in_iff.mpr (by omega)) dX6_put_29 (fun H locs hP hD hS => ?_)
          obtain ⟨f29, ef29, hP, hD⟩ : ∃ f7 : Nat → Int32, f7 = upd wf wv.toNatClampNeg (vp_nar .byte (z28 : Int32)) ∧ va_P D vwCl [((a 0), .inr (6, [.ref (a 1), .ref (ex 0), .int (vi 1), .int wv, .int (vi 3), .int (vi 4), .int (vi 5), .int (vi 6), .long (vl 0), .int (vi 7), .int (vi 8), .int (vi 9), .int (vi 10), .int (vi 11)])), ((a 1), .inl (T 0, 940, .inl f7))] H ∧ va_D A [((a 0), .inr (6, [.ref (a 1), .ref (ex 0), .int (vi 1), .int wv, .int (vi 3), .int (vi 4), .int (vi 5), .int (vi 6), .long (vl 0), .int (vi 7), .int (vi 8), .int (vi 9), .int (vi 10), .int (vi 11)])), ((a 1), .inl (T 0, 940, .inl f7))] := ⟨_, rfl, hP, hD⟩
          refine lv_aload_n hx hb dX6_put_30 rfl (lv_at hl 1 rfl) ?_
          refine lv_dup hx hb dX6_put_31 rfl ?_
          refine va_get (D := D) (ci := 6) (v := .int wv) (C := RX6) (T := TX6) (N := 14) hx hb htg inX6 hown hK.1 hP 0 rfl rfl 3 (by decide) (htg _ kw_98) (fun _ h9 => h9) rfl dX6_put_32 ?_
          refine lv_iconst (v := 1) hx hb dX6_put_35 (by decide) ?_
          refine lv_iadd hx hb dX6_put_36 ?_
          refine lv_topi (fun z36 ez36 => ?_)
          have tz36 : z36.toInt = wv.toInt + 1 := by rw [ez36]; exact xadd rfl (by decide) (by omega) (by omega)
          refine va_put (D := D) (ci := 6) (v := .int z36) (ty := .int) (C := RX6) (T := TX6) (N := 14) hx hb htg inX6 tyX6 tyX6_ok nmX6 hown hK.1 hP hD hS 0 rfl rfl 3 (by decide) (htg _ kw_98) (fun _ h9 => h9) rfl (by decide +kernel) rfl rfl (Nat.le_of_ble_eq_true rfl) dX6_put_37 (fun H locs hP hD hS => ?_)
          obtain ⟨hP, hD⟩ := (show xPD D A [((a 0), .inr (6, [.ref (a 1), .ref (ex 0), .int (vi 1), .int z36, .int (vi 3), .int (vi 4), .int (vi 5), .int (vi 6), .long (vl 0), .int (vi 7), .int (vi 8), .int (vi 9), .int (vi 10), .int (vi 11)])), ((a 1), .inl (T 0, 940, .inl f29))] H from ⟨hP, hD⟩)
          obtain ⟨i40, ei40⟩ : ∃ z : Int32, w2 + Int32.ofInt (-8) = z := ⟨_, rfl⟩
          have ti40 : i40.toInt = w2.toInt + (-8) := by rw [← ei40]; have h79 := xrng w2; exact xadd rfl (by decide) (by omega) (by omega)
          refine lv_iinc (v := i40) (lv' := [(2, .int i40), (0, .ref (a 0)), (1, .int (vi 0))]) hx hb dX6_put_40 hl (k := 0) rfl ei40 (by decide) rfl (fun ls hl => ?_)
          refine lv_goto (tgt := 3) hx hb dX6_put_43 (by decide) ?_
          exact ih _ (by omega) i40 f29 z36 _ _ _ (by show -8 ≤ i40.toInt ∧ i40.toInt ≤ 24; omega) (by show 0 ≤ z36.toInt ∧ z36.toInt ≤ 940; omega) (by show 8 * ((z36).toInt - (vi 2).toInt) = 24 - i40.toInt; omega) (by show f29 = pf (fi 0) ((vi 2).toInt).toNat (vi 0) ((z36).toInt - (vi 2).toInt).toNat; rw [ef29]; exact pf_s hpf9 (by omega) (by omega) (by omega) ez28 ez27 (by omega)) rfl (hP.sub [0, 1] rfl) (hD.sub [0, 1] (by decide) rfl) hS (lv_sub hl [0, 1, 2] rfl)
  exact lp _ (24 : Int32) (fi 0) (vi 2) _ _ _ (show -8 ≤ (24 : Int32).toInt ∧ (24 : Int32).toInt ≤ 24 by decide) hp0 (by show 8 * ((vi 2).toInt - (vi 2).toInt) = 24 - (24 : Int32).toInt; have k9_0 : (24 : Int32).toInt = 24 := (by decide); omega) (by show (fi 0) = pf (fi 0) ((vi 2).toInt).toNat (vi 0) ((vi 2).toInt - (vi 2).toInt).toNat; rw [Int.sub_self]; rfl) rfl hP hD hS hl
abbrev pre_X11_feed (T : Nat → ClassId) (a ex : Nat → Nat) (fi : Nat → Nat → Int32) (fl : Nat → Nat → Int64) (vi : Nat → Int32) (vl : Nat → Int64) : va_W := [((a 0), .inr (11, [.ref (a 1), .ref (ex 0), .ref (ex 1), .ref (ex 2), .ref (ex 3), .ref (ex 4), .ref (ex 5), .ref (ex 6), .ref (ex 7), .ref (ex 8), .ref (ex 9), .ref (ex 10), .ref (ex 11), .ref (ex 12), .int (vi 5)])), ((a 1), .inr (6, [.ref (a 2), .ref (ex 13), .int (vi 6), .int (vi 7), .int (vi 8), .int (vi 9), .int (vi 10), .int (vi 11), .long (vl 0), .int (vi 12), .int (vi 13), .int (vi 14), .int (vi 15), .int (vi 16)])), ((a 2), .inl (T 0, 940, .inl (fi 0)))]
set_option maxHeartbeats 8000000 in
set_option maxRecDepth 100000 in
theorem c_X11_feed (l : Launch) (D : va_G) (T : Nat → ClassId) (a ex : Nat → Nat) (fi : Nat → Nat → Int32) (fl : Nat → Nat → Int64) (vi : Nat → Int32) (vl : Nat → Int64) (sz : Nat) (hp0 : 0 ≤ (vi 7).toInt ∧ (vi 7).toInt ≤ 940) (hp1 : 0 ≤ (vi 8).toInt ∧ (vi 8).toInt ≤ 940) (hp2 : 0 ≤ (vi 9).toInt ∧ (vi 9).toInt ≤ 940) (hp3 : 0 ≤ (vi 11).toInt ∧ (vi 11).toInt ≤ 940) (hp4 : 0 ≤ (vi 16).toInt ∧ (vi 16).toInt ≤ 940) : Met l yX11_feed (xw yX11_feed cX11_feed 6 (some .int)) ({ frames := 1, cells := 0, slots := 0, locals := 26 }) (xP D T [.ref (a 0), .int (vi 0), .int (vi 1), .int (vi 2), .int (vi 3), .int (vi 4)] sz (pre_X11_feed T a ex fi fl vi vl)) (va_Qi (fun r u => r = u) (xC D (va_A (pre_X11_feed T a ex fi fl vi vl) sz) (fun fj fm vj vm => [((a 0), .inr (11, [.ref (a 1), .ref (ex 0), .ref (ex 1), .ref (ex 2), .ref (ex 3), .ref (ex 4), .ref (ex 5), .ref (ex 6), .ref (ex 7), .ref (ex 8), .ref (ex 9), .ref (ex 10), .ref (ex 11), .ref (ex 12), .int (vi 5)])), ((a 1), .inr (6, [.ref (a 2), .ref (ex 13), .int (vi 6), .int (vj 0), .int (vi 8), .int (vi 9), .int (vi 10), .int (vi 11), .long (vl 0), .int (vi 12), .int (vi 13), .int (vi 14), .int (vi 15), .int (vi 16)])), ((a 2), .inl (T 0, 940, .inl (fj 0)))]) (fun (r : Int32) (fj : Nat → Nat → Int32) (fm : Nat → Nat → Int64) (vj : Nat → Int32) (vm : Nat → Int64) => (0 ≤ (vj 0).toInt ∧ (vj 0).toInt ≤ 940) ∧ ((940 < (vi 7).toInt + 20 ∧ r.toInt = -1 ∧ (vj 0).toInt = (vi 7).toInt) ∨ ((vi 7).toInt + 20 ≤ 940 ∧ r.toInt = (vi 7).toInt + 20 ∧ (vj 0).toInt = (vi 7).toInt + 20)) ∧ R_X11_feed fi fl vi vl r fj fm vj vm ∧ True)) (va_A (pre_X11_feed T a ex fi fl vi vl) sz)) 0 0 (va_A (pre_X11_feed T a ex fi fl vi vl) sz) := by
  refine xofW (cc := cX11_feed) (maxL := 6) (ret := (some .int)) (by decide) rfl ?_
  intro p e s m args below meth c s₁ R Q hR hQ B hml hv
  obtain ⟨rfl, hsz, hP, hK, hD0⟩ := hv
  have hx := B.exec
  have hb := B.bytes
  have hr := B.returns
  have hts := atoms_spec (ws := xw yX11_feed cX11_feed 6 (some .int)) B.pre
  have htg : ∀ w ∈ xg, w.before _ s = true := fun w h => hts w (List.mem_cons_of_mem _ h)
  have hown : s.vm.findClass RX11 = some m.cls := findClass_of_methodNamed B.named
  have hlocks := B.notSynchronized
  subst hsz
  have hD := hD0.self (sz := s.heap.size)
  generalize hAe : va_A (pre_X11_feed T a ex fi fl vi vl) s.heap.size = A at hD hQ
  have hA : ∀ q : Nat, s.heap.size ≤ q → A q := fun q h => by rw [← hAe]; exact Or.inr h
  have hS : va_S A s.heap s.heap [] := va_S.rf
  replace hP : va_P D vwCl [((a 0), .inr (11, [.ref (a 1), .ref (ex 0), .ref (ex 1), .ref (ex 2), .ref (ex 3), .ref (ex 4), .ref (ex 5), .ref (ex 6), .ref (ex 7), .ref (ex 8), .ref (ex 9), .ref (ex 10), .ref (ex 11), .ref (ex 12), .int (vi 5)])), ((a 1), .inr (6, [.ref (a 2), .ref (ex 13), .int (vi 6), .int (vi 7), .int (vi 8), .int (vi 9), .int (vi 10), .int (vi 11), .long (vl 0), .int (vi 12), .int (vi 13), .int (vi 14), .int (vi 15), .int (vi 16)])), ((a 2), .inl (T 0, 940, .inl (fi 0)))] s.heap := hP
  replace hD : va_D A [((a 0), .inr (11, [.ref (a 1), .ref (ex 0), .ref (ex 1), .ref (ex 2), .ref (ex 3), .ref (ex 4), .ref (ex 5), .ref (ex 6), .ref (ex 7), .ref (ex 8), .ref (ex 9), .ref (ex 10), .ref (ex 11), .ref (ex 12), .int (vi 5)])), ((a 1), .inr (6, [.ref (a 2), .ref (ex 13), .int (vi 6), .int (vi 7), .int (vi 8), .int (vi 9), .int (vi 10), .int (vi 11), .long (vl 0), .int (vi 12), .int (vi 13), .int (vi 14), .int (vi 15), .int (vi 16)])), ((a 2), .inl (T 0, 940, .inl (fi 0)))] := hD
  have hl := lv_entry ([.ref (a 0), .int (vi 0), .int (vi 1), .int (vi 2), .int (vi 3), .int (vi 4)]) (n := 6) (Nat.le_of_ble_eq_true rfl)
  rw [lg_entry_eq]
  generalize (lg_sl ([.ref (a 0), .int (vi 0), .int (vi 1), .int (vi 2), .int (vi 3), .int (vi 4)]) ++ List.replicate (6 - (lg_sl ([.ref (a 0), .int (vi 0), .int (vi 1), .int (vi 2), .int (vi 3), .int (vi 4)])).length) Slot.unset).toArray = ls at hl ⊢
  replace hl : lv_has ls 6 [(0, .ref (a 0)), (1, .int (vi 0)), (2, .int (vi 1)), (3, .int (vi 2)), (4, .int (vi 3)), (5, .int (vi 4))] := hl
  refine lv_aload_n hx hb dX11_feed_0 rfl (lv_at hl 0 rfl) ?_
  refine va_get (D := D) (ci := 11) (v := .ref (a 1)) (C := RX11) (T := TX11) (N := 15) hx hb htg inX11 hown hK.1 hP 0 rfl rfl 0 (by decide) (htg _ kw_496) (fun _ h9 => h9) rfl dX11_feed_1 ?_
  refine lv_bipush (v := 20) hx hb dX11_feed_4 (by decide) ?_
  obtain ⟨hC9, hPc, hDc, hFc⟩ := xcut (wc := (pre_X6_hasRoom T (xa [(a 1)]) (xa [(a 2), (ex 13)]) (xf []) (xh []) (xv [20, (vi 6), (vi 7), (vi 8), (vi 9), (vi 10), (vi 11), (vi 12), (vi 13), (vi 14), (vi 15), (vi 16)]) (xl [(vl 0)]))) hP hD hS hA [1] (by decide) rfl
  refine va_calli (va_runVN (As := [.int 20]) (rest := []) ⟨hx, hb, hml, hown, htg⟩ (c_X6_hasRoom l D T (xa [(a 1)]) (xa [(a 2), (ex 13)]) (xf []) (xh []) (xv [20, (vi 6), (vi 7), (vi 8), (vi 9), (vi 10), (vi 11), (vi 12), (vi 13), (vi 14), (vi 15), (vi 16)]) (xl [(vl 0)]) s.heap.size (show 0 ≤ (20 : Int32).toInt ∧ (20 : Int32).toInt ≤ 100 by decide) hp0 hp1 hp2 hp3 hp4) ⟨va_cnB 1 htg (xg_ok kw_549) rfl rfl rfl (hK.2.1 _ kn_546) (htg _ kw_2) (by decide +kernel) ⟨by rw [hR]; exact Nat.le_of_ble_eq_true rfl, by rw [hR]; exact Nat.le_of_ble_eq_true rfl⟩, htg _ kw_548, htg _ ks_1⟩ (xpreV hK hPc hDc (va_recv hK.1 hPc (ci := 6) (q0 := 0) rfl rfl)) rfl rfl hl.1 rfl (lv_room (Nat.le_of_ble_eq_true rfl)) dX11_feed_6 ⟨by rw [hR]; exact Nat.le_of_ble_eq_true rfl, by rw [hR]; exact Nat.le_of_ble_eq_true rfl⟩) hS (fun q _ h => hFc q h) hFc (fun r9 u9 t H1 locs ht hvm hw hB hz1 hk1 hS => ?_)
  subst hw
  obtain ⟨fik, flk, vik, vlk, hP1, hD1, hG⟩ := hB
  rw [ht] at hP1
  obtain ⟨hP, hD⟩ := va_join (wr := [((a 0), .inr (11, [.ref (a 1), .ref (ex 0), .ref (ex 1), .ref (ex 2), .ref (ex 3), .ref (ex 4), .ref (ex 5), .ref (ex 6), .ref (ex 7), .ref (ex 8), .ref (ex 9), .ref (ex 10), .ref (ex 11), .ref (ex 12), .int (vi 5)])), ((a 2), .inl (T 0, 940, .inl (fi 0)))]) (w1 := [((a 1), .inr (6, [.ref (a 2), .ref (ex 13), .int (vi 6), .int (vi 7), .int (vi 8), .int (vi 9), .int (vi 10), .int (vi 11), .long (vl 0), .int (vi 12), .int (vi 13), .int (vi 14), .int (vi 15), .int (vi 16)]))]) hP hD [1] [0, 2] hC9 rfl (by decide) (by decide) hk1 hFc hP1 hD1
  obtain ⟨rk, er9⟩ : ∃ z, z = r9 := ⟨_, rfl⟩
  subst er9
  clear hPc hDc hFc hP1 hD1 hk1 hz1 hvm ht hC9
  generalize H1 = H at hP hS ⊢
  obtain ⟨hP, hD⟩ := (show xPD D A [((a 0), .inr (11, [.ref (a 1), .ref (ex 0), .ref (ex 1), .ref (ex 2), .ref (ex 3), .ref (ex 4), .ref (ex 5), .ref (ex 6), .ref (ex 7), .ref (ex 8), .ref (ex 9), .ref (ex 10), .ref (ex 11), .ref (ex 12), .int (vi 5)])), ((a 2), .inl (T 0, 940, .inl (fi 0))), ((a 1), .inr (6, [.ref (a 2), .ref (ex 13), .int (vi 6), .int (vi 7), .int (vi 8), .int (vi 9), .int (vi 10), .int (vi 11), .long (vl 0), .int (vi 12), .int (vi 13), .int (vi 14), .int (vi 15), .int (vi 16)]))] H from ⟨hP, hD⟩)
  obtain ⟨gk_0, -⟩ := hG
  have kc : (20 : Int32).toInt = 20 := by decide
  rcases (show (rk = 1 ∧ ((vi 7).toInt + (20 : Int32).toInt ≤ 940)) ∨ (rk = 0 ∧ (¬ (vi 7).toInt + (20 : Int32).toInt ≤ 940)) from gk_0) with ⟨er9, gk_0⟩ | ⟨er9, gk_0⟩
  · refine xz_i 1 er9 ?_
    have tb : rk.toInt = 1 := by rw [er9]; decide
    refine lv_if_ne (tgt := 14) hx hb dX11_feed_9 (by decide) (fun _ => ?_) (fun c => absurd c (by decide))
    refine lv_aload_n hx hb dX11_feed_14 rfl (lv_at hl 0 rfl) ?_
    refine va_get (D := D) (ci := 11) (v := .ref (a 1)) (C := RX11) (T := TX11) (N := 15) hx hb htg inX11 hown hK.1 hP 0 rfl rfl 0 (by decide) (htg _ kw_496) (fun _ h9 => h9) rfl dX11_feed_15 ?_
    refine lv_iload_n hx hb dX11_feed_18 rfl (lv_at hl 1 rfl) ?_
    obtain ⟨hC9, hPc, hDc, hFc⟩ := xcut (wc := (pre_X6_put T (xa [(a 1), (a 2)]) (xa [(ex 13)]) (xf [(fi 0)]) (xh []) (xv [(vi 0), (vi 6), (vi 7), (vi 8), (vi 9), (vi 10), (vi 11), (vi 12), (vi 13), (vi 14), (vi 15), (vi 16)]) (xl [(vl 0)]))) hP hD hS hA [2, 1] (by decide) rfl
    refine va_callv (va_runVN (As := [.int (vi 0)]) (rest := []) ⟨hx, hb, hml, hown, htg⟩ (c_X6_put l D T (xa [(a 1), (a 2)]) (xa [(ex 13)]) (xf [(fi 0)]) (xh []) (xv [(vi 0), (vi 6), (vi 7), (vi 8), (vi 9), (vi 10), (vi 11), (vi 12), (vi 13), (vi 14), (vi 15), (vi 16)]) (xl [(vl 0)]) H.size hp0 hp1 hp2 hp3 hp4 (by show (vi 7).toInt ≤ 936; first | omega | assumption)) ⟨va_cnB 1 htg (xg_ok kw_553) rfl rfl rfl (hK.2.1 _ kn_550) (htg _ kw_2) (by decide +kernel) ⟨by rw [hR]; exact Nat.le_of_ble_eq_true rfl, by rw [hR]; exact Nat.le_of_ble_eq_true rfl⟩, htg _ kw_552, htg _ ks_2⟩ (xpreV hK hPc hDc (va_recv hK.1 hPc (ci := 6) (q0 := 0) rfl rfl)) rfl rfl hl.1 rfl (lv_room (Nat.le_of_ble_eq_true rfl)) dX11_feed_19 ⟨by rw [hR]; exact Nat.le_of_ble_eq_true rfl, by rw [hR]; exact Nat.le_of_ble_eq_true rfl⟩) hS (fun q _ h => hFc q h) hFc (fun u9 t H1 locs ht hvm hw hB hz1 hk1 hS => ?_)
    obtain ⟨fik_1, flk_1, vik_1, vlk_1, hP1, hD1, hG⟩ := hB
    rw [ht] at hP1
    obtain ⟨hP, hD⟩ := va_join (wr := [((a 0), .inr (11, [.ref (a 1), .ref (ex 0), .ref (ex 1), .ref (ex 2), .ref (ex 3), .ref (ex 4), .ref (ex 5), .ref (ex 6), .ref (ex 7), .ref (ex 8), .ref (ex 9), .ref (ex 10), .ref (ex 11), .ref (ex 12), .int (vi 5)]))]) (w1 := [((a 1), .inr (6, [.ref (a 2), .ref (ex 13), .int (vi 6), .int (vik_1 0), .int (vi 8), .int (vi 9), .int (vi 10), .int (vi 11), .long (vl 0), .int (vi 12), .int (vi 13), .int (vi 14), .int (vi 15), .int (vi 16)])), ((a 2), .inl (T 0, 940, .inl (fik_1 0)))]) hP hD [2, 1] [0] hC9 rfl (by decide) (by decide) hk1 hFc hP1 hD1
    clear hPc hDc hFc hP1 hD1 hk1 hz1 hvm ht hC9
    generalize H1 = H at hP hS ⊢
    obtain ⟨hP, hD⟩ := (show xPD D A [((a 0), .inr (11, [.ref (a 1), .ref (ex 0), .ref (ex 1), .ref (ex 2), .ref (ex 3), .ref (ex 4), .ref (ex 5), .ref (ex 6), .ref (ex 7), .ref (ex 8), .ref (ex 9), .ref (ex 10), .ref (ex 11), .ref (ex 12), .int (vi 5)])), ((a 1), .inr (6, [.ref (a 2), .ref (ex 13), .int (vi 6), .int (vik_1 0), .int (vi 8), .int (vi 9), .int (vi 10), .int (vi 11), .long (vl 0), .int (vi 12), .int (vi 13), .int (vi 14), .int (vi 15), .int (vi 16)])), ((a 2), .inl (T 0, 940, .inl (fik_1 0)))] H from ⟨hP, hD⟩)
    obtain ⟨uk_1, eu9⟩ : ∃ z, z = u9 := ⟨_, rfl⟩
    subst eu9
    obtain ⟨gk_1_0, gk_1_1, gk_1_2, -⟩ := hG
    replace gk_1_2 : (fik_1 0) = pf (fi 0) ((vi 7).toInt).toNat (vi 0) 4 ∧ (vik_1 0).toInt = (vi 7).toInt + 4 := (P_X6_put gk_1_2 : _)
    replace gk_1_0 : 0 ≤ (vik_1 0).toInt ∧ (vik_1 0).toInt ≤ 940 := gk_1_0
    replace gk_1_1 : (vik_1 0).toInt = (vi 7).toInt + 4 := gk_1_1
    refine lv_aload_n hx hb dX11_feed_22 rfl (lv_at hl 0 rfl) ?_
    refine va_get (D := D) (ci := 11) (v := .ref (a 1)) (C := RX11) (T := TX11) (N := 15) hx hb htg inX11 hown hK.1 hP 0 rfl rfl 0 (by decide) (htg _ kw_496) (fun _ h9 => h9) rfl dX11_feed_23 ?_
    refine lv_iload_n hx hb dX11_feed_26 rfl (lv_at hl 2 rfl) ?_
    obtain ⟨hC9, hPc, hDc, hFc⟩ := xcut (wc := (pre_X6_put T (xa [(a 1), (a 2)]) (xa [(ex 13)]) (xf [(fik_1 0)]) (xh []) (xv [(vi 1), (vi 6), (vik_1 0), (vi 8), (vi 9), (vi 10), (vi 11), (vi 12), (vi 13), (vi 14), (vi 15), (vi 16)]) (xl [(vl 0)]))) hP hD hS hA [1, 2] (by decide) rfl
    refine va_callv (va_runVN (As := [.int (vi 1)]) (rest := []) ⟨hx, hb, hml, hown, htg⟩ (c_X6_put l D T (xa [(a 1), (a 2)]) (xa [(ex 13)]) (xf [(fik_1 0)]) (xh []) (xv [(vi 1), (vi 6), (vik_1 0), (vi 8), (vi 9), (vi 10), (vi 11), (vi 12), (vi 13), (vi 14), (vi 15), (vi 16)]) (xl [(vl 0)]) H.size gk_1_0 hp1 hp2 hp3 hp4 (by show (vik_1 0).toInt ≤ 936; first | omega | assumption)) ⟨va_cnB 1 htg (xg_ok kw_553) rfl rfl rfl (hK.2.1 _ kn_550) (htg _ kw_2) (by decide +kernel) ⟨by rw [hR]; exact Nat.le_of_ble_eq_true rfl, by rw [hR]; exact Nat.le_of_ble_eq_true rfl⟩, htg _ kw_552, htg _ ks_2⟩ (xpreV hK hPc hDc (va_recv hK.1 hPc (ci := 6) (q0 := 0) rfl rfl)) rfl rfl hl.1 rfl (lv_room (Nat.le_of_ble_eq_true rfl)) dX11_feed_27 ⟨by rw [hR]; exact Nat.le_of_ble_eq_true rfl, by rw [hR]; exact Nat.le_of_ble_eq_true rfl⟩) hS (fun q _ h => hFc q h) hFc (fun u9 t H1 locs ht hvm hw hB hz1 hk1 hS => ?_)
    obtain ⟨fik_2, flk_2, vik_2, vlk_2, hP1, hD1, hG⟩ := hB
    rw [ht] at hP1
    obtain ⟨hP, hD⟩ := va_join (wr := [((a 0), .inr (11, [.ref (a 1), .ref (ex 0), .ref (ex 1), .ref (ex 2), .ref (ex 3), .ref (ex 4), .ref (ex 5), .ref (ex 6), .ref (ex 7), .ref (ex 8), .ref (ex 9), .ref (ex 10), .ref (ex 11), .ref (ex 12), .int (vi 5)]))]) (w1 := [((a 1), .inr (6, [.ref (a 2), .ref (ex 13), .int (vi 6), .int (vik_2 0), .int (vi 8), .int (vi 9), .int (vi 10), .int (vi 11), .long (vl 0), .int (vi 12), .int (vi 13), .int (vi 14), .int (vi 15), .int (vi 16)])), ((a 2), .inl (T 0, 940, .inl (fik_2 0)))]) hP hD [1, 2] [0] hC9 rfl (by decide) (by decide) hk1 hFc hP1 hD1
    clear hPc hDc hFc hP1 hD1 hk1 hz1 hvm ht hC9
    generalize H1 = H at hP hS ⊢
    obtain ⟨hP, hD⟩ := (show xPD D A [((a 0), .inr (11, [.ref (a 1), .ref (ex 0), .ref (ex 1), .ref (ex 2), .ref (ex 3), .ref (ex 4), .ref (ex 5), .ref (ex 6), .ref (ex 7), .ref (ex 8), .ref (ex 9), .ref (ex 10), .ref (ex 11), .ref (ex 12), .int (vi 5)])), ((a 1), .inr (6, [.ref (a 2), .ref (ex 13), .int (vi 6), .int (vik_2 0), .int (vi 8), .int (vi 9), .int (vi 10), .int (vi 11), .long (vl 0), .int (vi 12), .int (vi 13), .int (vi 14), .int (vi 15), .int (vi 16)])), ((a 2), .inl (T 0, 940, .inl (fik_2 0)))] H from ⟨hP, hD⟩)
    obtain ⟨uk_2, eu9⟩ : ∃ z, z = u9 := ⟨_, rfl⟩
    subst eu9
    obtain ⟨gk_2_0, gk_2_1, gk_2_2, -⟩ := hG
    replace gk_2_2 : (fik_2 0) = pf (fik_1 0) ((vik_1 0).toInt).toNat (vi 1) 4 ∧ (vik_2 0).toInt = (vik_1 0).toInt + 4 := (P_X6_put gk_2_2 : _)
    replace gk_2_0 : 0 ≤ (vik_2 0).toInt ∧ (vik_2 0).toInt ≤ 940 := gk_2_0
    replace gk_2_1 : (vik_2 0).toInt = (vik_1 0).toInt + 4 := gk_2_1
    refine lv_aload_n hx hb dX11_feed_30 rfl (lv_at hl 0 rfl) ?_
    refine va_get (D := D) (ci := 11) (v := .ref (a 1)) (C := RX11) (T := TX11) (N := 15) hx hb htg inX11 hown hK.1 hP 0 rfl rfl 0 (by decide) (htg _ kw_496) (fun _ h9 => h9) rfl dX11_feed_31 ?_
    refine lv_iload_n hx hb dX11_feed_34 rfl (lv_at hl 3 rfl) ?_
    obtain ⟨hC9, hPc, hDc, hFc⟩ := xcut (wc := (pre_X6_put T (xa [(a 1), (a 2)]) (xa [(ex 13)]) (xf [(fik_2 0)]) (xh []) (xv [(vi 2), (vi 6), (vik_2 0), (vi 8), (vi 9), (vi 10), (vi 11), (vi 12), (vi 13), (vi 14), (vi 15), (vi 16)]) (xl [(vl 0)]))) hP hD hS hA [1, 2] (by decide) rfl
    refine va_callv (va_runVN (As := [.int (vi 2)]) (rest := []) ⟨hx, hb, hml, hown, htg⟩ (c_X6_put l D T (xa [(a 1), (a 2)]) (xa [(ex 13)]) (xf [(fik_2 0)]) (xh []) (xv [(vi 2), (vi 6), (vik_2 0), (vi 8), (vi 9), (vi 10), (vi 11), (vi 12), (vi 13), (vi 14), (vi 15), (vi 16)]) (xl [(vl 0)]) H.size gk_2_0 hp1 hp2 hp3 hp4 (by show (vik_2 0).toInt ≤ 936; first | omega | assumption)) ⟨va_cnB 1 htg (xg_ok kw_553) rfl rfl rfl (hK.2.1 _ kn_550) (htg _ kw_2) (by decide +kernel) ⟨by rw [hR]; exact Nat.le_of_ble_eq_true rfl, by rw [hR]; exact Nat.le_of_ble_eq_true rfl⟩, htg _ kw_552, htg _ ks_2⟩ (xpreV hK hPc hDc (va_recv hK.1 hPc (ci := 6) (q0 := 0) rfl rfl)) rfl rfl hl.1 rfl (lv_room (Nat.le_of_ble_eq_true rfl)) dX11_feed_35 ⟨by rw [hR]; exact Nat.le_of_ble_eq_true rfl, by rw [hR]; exact Nat.le_of_ble_eq_true rfl⟩) hS (fun q _ h => hFc q h) hFc (fun u9 t H1 locs ht hvm hw hB hz1 hk1 hS => ?_)
    obtain ⟨fik_3, flk_3, vik_3, vlk_3, hP1, hD1, hG⟩ := hB
    rw [ht] at hP1
    obtain ⟨hP, hD⟩ := va_join (wr := [((a 0), .inr (11, [.ref (a 1), .ref (ex 0), .ref (ex 1), .ref (ex 2), .ref (ex 3), .ref (ex 4), .ref (ex 5), .ref (ex 6), .ref (ex 7), .ref (ex 8), .ref (ex 9), .ref (ex 10), .ref (ex 11), .ref (ex 12), .int (vi 5)]))]) (w1 := [((a 1), .inr (6, [.ref (a 2), .ref (ex 13), .int (vi 6), .int (vik_3 0), .int (vi 8), .int (vi 9), .int (vi 10), .int (vi 11), .long (vl 0), .int (vi 12), .int (vi 13), .int (vi 14), .int (vi 15), .int (vi 16)])), ((a 2), .inl (T 0, 940, .inl (fik_3 0)))]) hP hD [1, 2] [0] hC9 rfl (by decide) (by decide) hk1 hFc hP1 hD1
    clear hPc hDc hFc hP1 hD1 hk1 hz1 hvm ht hC9
    generalize H1 = H at hP hS ⊢
    obtain ⟨hP, hD⟩ := (show xPD D A [((a 0), .inr (11, [.ref (a 1), .ref (ex 0), .ref (ex 1), .ref (ex 2), .ref (ex 3), .ref (ex 4), .ref (ex 5), .ref (ex 6), .ref (ex 7), .ref (ex 8), .ref (ex 9), .ref (ex 10), .ref (ex 11), .ref (ex 12), .int (vi 5)])), ((a 1), .inr (6, [.ref (a 2), .ref (ex 13), .int (vi 6), .int (vik_3 0), .int (vi 8), .int (vi 9), .int (vi 10), .int (vi 11), .long (vl 0), .int (vi 12), .int (vi 13), .int (vi 14), .int (vi 15), .int (vi 16)])), ((a 2), .inl (T 0, 940, .inl (fik_3 0)))] H from ⟨hP, hD⟩)
    obtain ⟨uk_3, eu9⟩ : ∃ z, z = u9 := ⟨_, rfl⟩
    subst eu9
    obtain ⟨gk_3_0, gk_3_1, gk_3_2, -⟩ := hG
    replace gk_3_2 : (fik_3 0) = pf (fik_2 0) ((vik_2 0).toInt).toNat (vi 2) 4 ∧ (vik_3 0).toInt = (vik_2 0).toInt + 4 := (P_X6_put gk_3_2 : _)
    replace gk_3_0 : 0 ≤ (vik_3 0).toInt ∧ (vik_3 0).toInt ≤ 940 := gk_3_0
    replace gk_3_1 : (vik_3 0).toInt = (vik_2 0).toInt + 4 := gk_3_1
    refine lv_aload_n hx hb dX11_feed_38 rfl (lv_at hl 0 rfl) ?_
    refine va_get (D := D) (ci := 11) (v := .ref (a 1)) (C := RX11) (T := TX11) (N := 15) hx hb htg inX11 hown hK.1 hP 0 rfl rfl 0 (by decide) (htg _ kw_496) (fun _ h9 => h9) rfl dX11_feed_39 ?_
    refine lv_iload hx hb dX11_feed_42 (lv_at hl 4 rfl) ?_
    obtain ⟨hC9, hPc, hDc, hFc⟩ := xcut (wc := (pre_X6_put T (xa [(a 1), (a 2)]) (xa [(ex 13)]) (xf [(fik_3 0)]) (xh []) (xv [(vi 3), (vi 6), (vik_3 0), (vi 8), (vi 9), (vi 10), (vi 11), (vi 12), (vi 13), (vi 14), (vi 15), (vi 16)]) (xl [(vl 0)]))) hP hD hS hA [1, 2] (by decide) rfl
    refine va_callv (va_runVN (As := [.int (vi 3)]) (rest := []) ⟨hx, hb, hml, hown, htg⟩ (c_X6_put l D T (xa [(a 1), (a 2)]) (xa [(ex 13)]) (xf [(fik_3 0)]) (xh []) (xv [(vi 3), (vi 6), (vik_3 0), (vi 8), (vi 9), (vi 10), (vi 11), (vi 12), (vi 13), (vi 14), (vi 15), (vi 16)]) (xl [(vl 0)]) H.size gk_3_0 hp1 hp2 hp3 hp4 (by show (vik_3 0).toInt ≤ 936; first | omega | assumption)) ⟨va_cnB 1 htg (xg_ok kw_553) rfl rfl rfl (hK.2.1 _ kn_550) (htg _ kw_2) (by decide +kernel) ⟨by rw [hR]; exact Nat.le_of_ble_eq_true rfl, by rw [hR]; exact Nat.le_of_ble_eq_true rfl⟩, htg _ kw_552, htg _ ks_2⟩ (xpreV hK hPc hDc (va_recv hK.1 hPc (ci := 6) (q0 := 0) rfl rfl)) rfl rfl hl.1 rfl (lv_room (Nat.le_of_ble_eq_true rfl)) dX11_feed_44 ⟨by rw [hR]; exact Nat.le_of_ble_eq_true rfl, by rw [hR]; exact Nat.le_of_ble_eq_true rfl⟩) hS (fun q _ h => hFc q h) hFc (fun u9 t H1 locs ht hvm hw hB hz1 hk1 hS => ?_)
    obtain ⟨fik_4, flk_4, vik_4, vlk_4, hP1, hD1, hG⟩ := hB
    rw [ht] at hP1
    obtain ⟨hP, hD⟩ := va_join (wr := [((a 0), .inr (11, [.ref (a 1), .ref (ex 0), .ref (ex 1), .ref (ex 2), .ref (ex 3), .ref (ex 4), .ref (ex 5), .ref (ex 6), .ref (ex 7), .ref (ex 8), .ref (ex 9), .ref (ex 10), .ref (ex 11), .ref (ex 12), .int (vi 5)]))]) (w1 := [((a 1), .inr (6, [.ref (a 2), .ref (ex 13), .int (vi 6), .int (vik_4 0), .int (vi 8), .int (vi 9), .int (vi 10), .int (vi 11), .long (vl 0), .int (vi 12), .int (vi 13), .int (vi 14), .int (vi 15), .int (vi 16)])), ((a 2), .inl (T 0, 940, .inl (fik_4 0)))]) hP hD [1, 2] [0] hC9 rfl (by decide) (by decide) hk1 hFc hP1 hD1
    clear hPc hDc hFc hP1 hD1 hk1 hz1 hvm ht hC9
    generalize H1 = H at hP hS ⊢
    obtain ⟨hP, hD⟩ := (show xPD D A [((a 0), .inr (11, [.ref (a 1), .ref (ex 0), .ref (ex 1), .ref (ex 2), .ref (ex 3), .ref (ex 4), .ref (ex 5), .ref (ex 6), .ref (ex 7), .ref (ex 8), .ref (ex 9), .ref (ex 10), .ref (ex 11), .ref (ex 12), .int (vi 5)])), ((a 1), .inr (6, [.ref (a 2), .ref (ex 13), .int (vi 6), .int (vik_4 0), .int (vi 8), .int (vi 9), .int (vi 10), .int (vi 11), .long (vl 0), .int (vi 12), .int (vi 13), .int (vi 14), .int (vi 15), .int (vi 16)])), ((a 2), .inl (T 0, 940, .inl (fik_4 0)))] H from ⟨hP, hD⟩)
    obtain ⟨uk_4, eu9⟩ : ∃ z, z = u9 := ⟨_, rfl⟩
    subst eu9
    obtain ⟨gk_4_0, gk_4_1, gk_4_2, -⟩ := hG
    replace gk_4_2 : (fik_4 0) = pf (fik_3 0) ((vik_3 0).toInt).toNat (vi 3) 4 ∧ (vik_4 0).toInt = (vik_3 0).toInt + 4 := (P_X6_put gk_4_2 : _)
    replace gk_4_0 : 0 ≤ (vik_4 0).toInt ∧ (vik_4 0).toInt ≤ 940 := gk_4_0
    replace gk_4_1 : (vik_4 0).toInt = (vik_3 0).toInt + 4 := gk_4_1
    refine lv_aload_n hx hb dX11_feed_47 rfl (lv_at hl 0 rfl) ?_
    refine va_get (D := D) (ci := 11) (v := .ref (a 1)) (C := RX11) (T := TX11) (N := 15) hx hb htg inX11 hown hK.1 hP 0 rfl rfl 0 (by decide) (htg _ kw_496) (fun _ h9 => h9) rfl dX11_feed_48 ?_
    refine lv_iload hx hb dX11_feed_51 (lv_at hl 5 rfl) ?_
    obtain ⟨hC9, hPc, hDc, hFc⟩ := xcut (wc := (pre_X6_put T (xa [(a 1), (a 2)]) (xa [(ex 13)]) (xf [(fik_4 0)]) (xh []) (xv [(vi 4), (vi 6), (vik_4 0), (vi 8), (vi 9), (vi 10), (vi 11), (vi 12), (vi 13), (vi 14), (vi 15), (vi 16)]) (xl [(vl 0)]))) hP hD hS hA [1, 2] (by decide) rfl
    refine va_callv (va_runVN (As := [.int (vi 4)]) (rest := []) ⟨hx, hb, hml, hown, htg⟩ (c_X6_put l D T (xa [(a 1), (a 2)]) (xa [(ex 13)]) (xf [(fik_4 0)]) (xh []) (xv [(vi 4), (vi 6), (vik_4 0), (vi 8), (vi 9), (vi 10), (vi 11), (vi 12), (vi 13), (vi 14), (vi 15), (vi 16)]) (xl [(vl 0)]) H.size gk_4_0 hp1 hp2 hp3 hp4 (by show (vik_4 0).toInt ≤ 936; first | omega | assumption)) ⟨va_cnB 1 htg (xg_ok kw_553) rfl rfl rfl (hK.2.1 _ kn_550) (htg _ kw_2) (by decide +kernel) ⟨by rw [hR]; exact Nat.le_of_ble_eq_true rfl, by rw [hR]; exact Nat.le_of_ble_eq_true rfl⟩, htg _ kw_552, htg _ ks_2⟩ (xpreV hK hPc hDc (va_recv hK.1 hPc (ci := 6) (q0 := 0) rfl rfl)) rfl rfl hl.1 rfl (lv_room (Nat.le_of_ble_eq_true rfl)) dX11_feed_53 ⟨by rw [hR]; exact Nat.le_of_ble_eq_true rfl, by rw [hR]; exact Nat.le_of_ble_eq_true rfl⟩) hS (fun q _ h => hFc q h) hFc (fun u9 t H1 locs ht hvm hw hB hz1 hk1 hS => ?_)
    obtain ⟨fik_5, flk_5, vik_5, vlk_5, hP1, hD1, hG⟩ := hB
    rw [ht] at hP1
    obtain ⟨hP, hD⟩ := va_join (wr := [((a 0), .inr (11, [.ref (a 1), .ref (ex 0), .ref (ex 1), .ref (ex 2), .ref (ex 3), .ref (ex 4), .ref (ex 5), .ref (ex 6), .ref (ex 7), .ref (ex 8), .ref (ex 9), .ref (ex 10), .ref (ex 11), .ref (ex 12), .int (vi 5)]))]) (w1 := [((a 1), .inr (6, [.ref (a 2), .ref (ex 13), .int (vi 6), .int (vik_5 0), .int (vi 8), .int (vi 9), .int (vi 10), .int (vi 11), .long (vl 0), .int (vi 12), .int (vi 13), .int (vi 14), .int (vi 15), .int (vi 16)])), ((a 2), .inl (T 0, 940, .inl (fik_5 0)))]) hP hD [1, 2] [0] hC9 rfl (by decide) (by decide) hk1 hFc hP1 hD1
    clear hPc hDc hFc hP1 hD1 hk1 hz1 hvm ht hC9
    generalize H1 = H at hP hS ⊢
    obtain ⟨hP, hD⟩ := (show xPD D A [((a 0), .inr (11, [.ref (a 1), .ref (ex 0), .ref (ex 1), .ref (ex 2), .ref (ex 3), .ref (ex 4), .ref (ex 5), .ref (ex 6), .ref (ex 7), .ref (ex 8), .ref (ex 9), .ref (ex 10), .ref (ex 11), .ref (ex 12), .int (vi 5)])), ((a 1), .inr (6, [.ref (a 2), .ref (ex 13), .int (vi 6), .int (vik_5 0), .int (vi 8), .int (vi 9), .int (vi 10), .int (vi 11), .long (vl 0), .int (vi 12), .int (vi 13), .int (vi 14), .int (vi 15), .int (vi 16)])), ((a 2), .inl (T 0, 940, .inl (fik_5 0)))] H from ⟨hP, hD⟩)
    obtain ⟨uk_5, eu9⟩ : ∃ z, z = u9 := ⟨_, rfl⟩
    subst eu9
    obtain ⟨gk_5_0, gk_5_1, gk_5_2, -⟩ := hG
    replace gk_5_2 : (fik_5 0) = pf (fik_4 0) ((vik_4 0).toInt).toNat (vi 4) 4 ∧ (vik_5 0).toInt = (vik_4 0).toInt + 4 := (P_X6_put gk_5_2 : _)
    replace gk_5_0 : 0 ≤ (vik_5 0).toInt ∧ (vik_5 0).toInt ≤ 940 := gk_5_0
    replace gk_5_1 : (vik_5 0).toInt = (vik_4 0).toInt + 4 := gk_5_1
    refine lv_aload_n hx hb dX11_feed_56 rfl (lv_at hl 0 rfl) ?_
    refine va_get (D := D) (ci := 11) (v := .ref (a 1)) (C := RX11) (T := TX11) (N := 15) hx hb htg inX11 hown hK.1 hP 0 rfl rfl 0 (by decide) (htg _ kw_496) (fun _ h9 => h9) rfl dX11_feed_57 ?_
    refine va_getN (D := D) (ci := 6) (v := .int (vik_5 0)) (C := RX6) (T := TX6) (N := 14) hx hb htg inX6 hown hK.1 hP 1 rfl rfl 3 (by decide) (va_Nw.use rfl (hK.2.1 _ kn_97)) (fun _ h9 => h9) rfl dX11_feed_60 ?_
    have hP9 := hP.sub (ws' := [((a 0), .inr (11, [.ref (a 1), .ref (ex 0), .ref (ex 1), .ref (ex 2), .ref (ex 3), .ref (ex 4), .ref (ex 5), .ref (ex 6), .ref (ex 7), .ref (ex 8), .ref (ex 9), .ref (ex 10), .ref (ex 11), .ref (ex 12), .int (vi 5)])), ((a 1), .inr (6, [.ref (a 2), .ref (ex 13), .int (vi 6), .int (vik_5 0), .int (vi 8), .int (vi 9), .int (vi 10), .int (vi 11), .long (vl 0), .int (vi 12), .int (vi 13), .int (vi 14), .int (vi 15), .int (vi 16)])), ((a 2), .inl (T 0, 940, .inl (fik_5 0)))]) [0, 1, 2] rfl
    have hD9 := hD.sub (ws' := [((a 0), .inr (11, [.ref (a 1), .ref (ex 0), .ref (ex 1), .ref (ex 2), .ref (ex 3), .ref (ex 4), .ref (ex 5), .ref (ex 6), .ref (ex 7), .ref (ex 8), .ref (ex 9), .ref (ex 10), .ref (ex 11), .ref (ex 12), .int (vi 5)])), ((a 1), .inr (6, [.ref (a 2), .ref (ex 13), .int (vi 6), .int (vik_5 0), .int (vi 8), .int (vi 9), .int (vi 10), .int (vi 11), .long (vl 0), .int (vi 12), .int (vi 13), .int (vi 14), .int (vi 15), .int (vi 16)])), ((a 2), .inl (T 0, 940, .inl (fik_5 0)))]) [0, 1, 2] (by decide +kernel) rfl
    rw [hQ]
    exact W.iret (v := (vik_5 0)) hx hb hr (fun t ht hW => ⟨⟨(vik_5 0), (vik_5 0), rfl, rfl, xf [(fik_5 0)], xh [], xv [(vik_5 0)], xl [], by rw [ht]; exact hP9, hD9, ⟨gk_5_0, (by show (940 < (vi 7).toInt + 20 ∧ (vik_5 0).toInt = -1 ∧ (vik_5 0).toInt = (vi 7).toInt) ∨ ((vi 7).toInt + 20 ≤ 940 ∧ (vik_5 0).toInt = (vi 7).toInt + 20 ∧ (vik_5 0).toInt = (vi 7).toInt + 20); first | omega | assumption), (by unfold R_X11_feed; exact (fun Q9 k9_0 k9_1 => k9_0 hp0 hp1 hp2 hp3 hp4 fik flk vik vlk rk tb gk_0 fik_1 flk_1 vik_1 vlk_1 uk_1 gk_1_0 gk_1_1 gk_1_2 fik_2 flk_2 vik_2 vlk_2 uk_2 gk_2_0 gk_2_1 gk_2_2 fik_3 flk_3 vik_3 vlk_3 uk_3 gk_3_0 gk_3_1 gk_3_2 fik_4 flk_4 vik_4 vlk_4 uk_4 gk_4_0 gk_4_1 gk_4_2 fik_5 flk_5 vik_5 vlk_5 uk_5 gk_5_0 gk_5_1 gk_5_2 rfl rfl rfl)), trivial⟩⟩, hS.F ht⟩) hS.2.2 dX11_feed_63
  · refine xz_i 0 er9 ?_
    have tb : rk.toInt = 0 := by rw [er9]; decide
    refine lv_if_ne (tgt := 14) hx hb dX11_feed_9 (by decide) (fun c => absurd (by decide) c) (fun _ => ?_)
    refine lv_iconst (v := (-1)) hx hb dX11_feed_12 (by decide) ?_
    have hP9 := hP.sub (ws' := [((a 0), .inr (11, [.ref (a 1), .ref (ex 0), .ref (ex 1), .ref (ex 2), .ref (ex 3), .ref (ex 4), .ref (ex 5), .ref (ex 6), .ref (ex 7), .ref (ex 8), .ref (ex 9), .ref (ex 10), .ref (ex 11), .ref (ex 12), .int (vi 5)])), ((a 1), .inr (6, [.ref (a 2), .ref (ex 13), .int (vi 6), .int (vi 7), .int (vi 8), .int (vi 9), .int (vi 10), .int (vi 11), .long (vl 0), .int (vi 12), .int (vi 13), .int (vi 14), .int (vi 15), .int (vi 16)])), ((a 2), .inl (T 0, 940, .inl (fi 0)))]) [0, 2, 1] rfl
    have hD9 := hD.sub (ws' := [((a 0), .inr (11, [.ref (a 1), .ref (ex 0), .ref (ex 1), .ref (ex 2), .ref (ex 3), .ref (ex 4), .ref (ex 5), .ref (ex 6), .ref (ex 7), .ref (ex 8), .ref (ex 9), .ref (ex 10), .ref (ex 11), .ref (ex 12), .int (vi 5)])), ((a 1), .inr (6, [.ref (a 2), .ref (ex 13), .int (vi 6), .int (vi 7), .int (vi 8), .int (vi 9), .int (vi 10), .int (vi 11), .long (vl 0), .int (vi 12), .int (vi 13), .int (vi 14), .int (vi 15), .int (vi 16)])), ((a 2), .inl (T 0, 940, .inl (fi 0)))]) [0, 2, 1] (by decide +kernel) rfl
    rw [hQ]
    exact W.iret (v := (-1)) hx hb hr (fun t ht hW => ⟨⟨(-1), (-1), rfl, rfl, xf [(fi 0)], xh [], xv [(vi 7)], xl [], by rw [ht]; exact hP9, hD9, ⟨hp0, (by show (940 < (vi 7).toInt + 20 ∧ ((-1) : Int32).toInt = -1 ∧ (vi 7).toInt = (vi 7).toInt) ∨ ((vi 7).toInt + 20 ≤ 940 ∧ ((-1) : Int32).toInt = (vi 7).toInt + 20 ∧ (vi 7).toInt = (vi 7).toInt + 20); have k9_0 : ((-1) : Int32).toInt = (-1) := (by decide); first | omega | assumption), (by unfold R_X11_feed; exact (fun Q9 k9_0 k9_1 => k9_1 hp0 hp1 hp2 hp3 hp4 fik flk vik vlk rk tb gk_0 rfl rfl rfl)), trivial⟩⟩, hS.F ht⟩) hS.2.2 dX11_feed_13
abbrev pre_X11_end (T : Nat → ClassId) (a ex : Nat → Nat) (fi : Nat → Nat → Int32) (fl : Nat → Nat → Int64) (vi : Nat → Int32) (vl : Nat → Int64) : va_W := [((a 0), .inr (11, [.ref (a 1), .ref (ex 0), .ref (ex 1), .ref (ex 2), .ref (ex 3), .ref (ex 4), .ref (ex 5), .ref (ex 6), .ref (ex 7), .ref (ex 8), .ref (ex 9), .ref (ex 10), .ref (ex 11), .ref (ex 12), .int (vi 1)])), ((a 1), .inr (6, [.ref (ex 13), .ref (ex 14), .int (vi 2), .int (vi 3), .int (vi 4), .int (vi 5), .int (vi 6), .int (vi 7), .long (vl 0), .int (vi 8), .int (vi 9), .int (vi 10), .int (vi 11), .int (vi 12)]))]
set_option maxHeartbeats 8000000 in
set_option maxRecDepth 100000 in
theorem c_X11_end (l : Launch) (D : va_G) (T : Nat → ClassId) (a ex : Nat → Nat) (fi : Nat → Nat → Int32) (fl : Nat → Nat → Int64) (vi : Nat → Int32) (vl : Nat → Int64) (sz : Nat) (hp0 : 0 ≤ (vi 3).toInt ∧ (vi 3).toInt ≤ 940) (hp1 : 0 ≤ (vi 4).toInt ∧ (vi 4).toInt ≤ 940) (hp2 : 0 ≤ (vi 5).toInt ∧ (vi 5).toInt ≤ 940) (hp3 : 0 ≤ (vi 7).toInt ∧ (vi 7).toInt ≤ 940) (hp4 : 0 ≤ (vi 12).toInt ∧ (vi 12).toInt ≤ 940) : Met l yX11_end (xw yX11_end cX11_end 2 (some .boolean)) ({ frames := 0, cells := 0, slots := 0, locals := 0 }) (xP D T [.ref (a 0), .int (vi 0)] sz (pre_X11_end T a ex fi fl vi vl)) (va_Qi (fun r u => r = u) (xC D (va_A (pre_X11_end T a ex fi fl vi vl) sz) (fun fj fm vj vm => [((a 0), .inr (11, [.ref (a 1), .ref (ex 0), .ref (ex 1), .ref (ex 2), .ref (ex 3), .ref (ex 4), .ref (ex 5), .ref (ex 6), .ref (ex 7), .ref (ex 8), .ref (ex 9), .ref (ex 10), .ref (ex 11), .ref (ex 12), .int (vi 1)])), ((a 1), .inr (6, [.ref (ex 13), .ref (ex 14), .int (vi 2), .int (vj 0), .int (vi 4), .int (vi 5), .int (vi 6), .int (vi 7), .long (vl 0), .int (vi 8), .int (vi 9), .int (vi 10), .int (vi 11), .int (vi 12)]))]) (fun (r : Int32) (fj : Nat → Nat → Int32) (fm : Nat → Nat → Int64) (vj : Nat → Int32) (vm : Nat → Int64) => ((r = 1 ∧ (True)) ∨ (r = 0 ∧ (True))) ∧ (0 ≤ (vj 0).toInt ∧ (vj 0).toInt ≤ 940) ∧ ((0 ≤ (vi 0).toInt ∧ (vi 0).toInt ≤ (vi 3).toInt ∧ r.toInt = 1 ∧ (vj 0).toInt = (vi 0).toInt) ∨ (¬ (0 ≤ (vi 0).toInt ∧ (vi 0).toInt ≤ (vi 3).toInt) ∧ r.toInt = 0 ∧ (vj 0).toInt = (vi 3).toInt)) ∧ True)) (va_A (pre_X11_end T a ex fi fl vi vl) sz)) 0 0 (va_A (pre_X11_end T a ex fi fl vi vl) sz) := by
  refine xofW (cc := cX11_end) (maxL := 2) (ret := (some .boolean)) (by decide) rfl ?_
  intro p e s m args below meth c s₁ R Q hR hQ B hml hv
  obtain ⟨rfl, hsz, hP, hK, hD0⟩ := hv
  have hx := B.exec
  have hb := B.bytes
  have hr := B.returns
  have hts := atoms_spec (ws := xw yX11_end cX11_end 2 (some .boolean)) B.pre
  have htg : ∀ w ∈ xg, w.before _ s = true := fun w h => hts w (List.mem_cons_of_mem _ h)
  have hown : s.vm.findClass RX11 = some m.cls := findClass_of_methodNamed B.named
  have hlocks := B.notSynchronized
  subst hsz
  have hD := hD0.self (sz := s.heap.size)
  generalize hAe : va_A (pre_X11_end T a ex fi fl vi vl) s.heap.size = A at hD hQ
  have hA : ∀ q : Nat, s.heap.size ≤ q → A q := fun q h => by rw [← hAe]; exact Or.inr h
  have hS : va_S A s.heap s.heap [] := va_S.rf
  replace hP : va_P D vwCl [((a 0), .inr (11, [.ref (a 1), .ref (ex 0), .ref (ex 1), .ref (ex 2), .ref (ex 3), .ref (ex 4), .ref (ex 5), .ref (ex 6), .ref (ex 7), .ref (ex 8), .ref (ex 9), .ref (ex 10), .ref (ex 11), .ref (ex 12), .int (vi 1)])), ((a 1), .inr (6, [.ref (ex 13), .ref (ex 14), .int (vi 2), .int (vi 3), .int (vi 4), .int (vi 5), .int (vi 6), .int (vi 7), .long (vl 0), .int (vi 8), .int (vi 9), .int (vi 10), .int (vi 11), .int (vi 12)]))] s.heap := hP
  replace hD : va_D A [((a 0), .inr (11, [.ref (a 1), .ref (ex 0), .ref (ex 1), .ref (ex 2), .ref (ex 3), .ref (ex 4), .ref (ex 5), .ref (ex 6), .ref (ex 7), .ref (ex 8), .ref (ex 9), .ref (ex 10), .ref (ex 11), .ref (ex 12), .int (vi 1)])), ((a 1), .inr (6, [.ref (ex 13), .ref (ex 14), .int (vi 2), .int (vi 3), .int (vi 4), .int (vi 5), .int (vi 6), .int (vi 7), .long (vl 0), .int (vi 8), .int (vi 9), .int (vi 10), .int (vi 11), .int (vi 12)]))] := hD
  have hl := lv_entry ([.ref (a 0), .int (vi 0)]) (n := 2) (Nat.le_of_ble_eq_true rfl)
  rw [lg_entry_eq]
  generalize (lg_sl ([.ref (a 0), .int (vi 0)]) ++ List.replicate (2 - (lg_sl ([.ref (a 0), .int (vi 0)])).length) Slot.unset).toArray = ls at hl ⊢
  replace hl : lv_has ls 2 [(0, .ref (a 0)), (1, .int (vi 0))] := hl
  refine lv_iload_n hx hb dX11_end_0 rfl (lv_at hl 1 rfl) ?_
  refine lv_if_lt (tgt := 15) hx hb dX11_end_1 (by decide) (fun c1 => ?_) (fun c1 => ?_)
  · have c1 := xlt (k := 0) (by decide) c1
    refine lv_iconst (v := 0) hx hb dX11_end_15 (by decide) ?_
    have hP9 := hP.sub (ws' := [((a 0), .inr (11, [.ref (a 1), .ref (ex 0), .ref (ex 1), .ref (ex 2), .ref (ex 3), .ref (ex 4), .ref (ex 5), .ref (ex 6), .ref (ex 7), .ref (ex 8), .ref (ex 9), .ref (ex 10), .ref (ex 11), .ref (ex 12), .int (vi 1)])), ((a 1), .inr (6, [.ref (ex 13), .ref (ex 14), .int (vi 2), .int (vi 3), .int (vi 4), .int (vi 5), .int (vi 6), .int (vi 7), .long (vl 0), .int (vi 8), .int (vi 9), .int (vi 10), .int (vi 11), .int (vi 12)]))]) [0, 1] rfl
    have hD9 := hD.sub (ws' := [((a 0), .inr (11, [.ref (a 1), .ref (ex 0), .ref (ex 1), .ref (ex 2), .ref (ex 3), .ref (ex 4), .ref (ex 5), .ref (ex 6), .ref (ex 7), .ref (ex 8), .ref (ex 9), .ref (ex 10), .ref (ex 11), .ref (ex 12), .int (vi 1)])), ((a 1), .inr (6, [.ref (ex 13), .ref (ex 14), .int (vi 2), .int (vi 3), .int (vi 4), .int (vi 5), .int (vi 6), .int (vi 7), .long (vl 0), .int (vi 8), .int (vi 9), .int (vi 10), .int (vi 11), .int (vi 12)]))]) [0, 1] (by decide +kernel) rfl
    rw [hQ]
    exact W.zret (v := 0) hx hb hr rfl (fun t ht hW => ⟨⟨0, 0, rfl, rfl, xf [], xh [], xv [(vi 3)], xl [], by rw [ht]; exact hP9, hD9, ⟨(Or.inr ⟨rfl, by show True; first | trivial | omega | assumption⟩), hp0, (by show (0 ≤ (vi 0).toInt ∧ (vi 0).toInt ≤ (vi 3).toInt ∧ (0 : Int32).toInt = 1 ∧ (vi 3).toInt = (vi 0).toInt) ∨ (¬ (0 ≤ (vi 0).toInt ∧ (vi 0).toInt ≤ (vi 3).toInt) ∧ (0 : Int32).toInt = 0 ∧ (vi 3).toInt = (vi 3).toInt); have k9_0 : (0 : Int32).toInt = 0 := (by decide); first | omega | assumption), trivial⟩⟩, hS.F ht⟩) hS.2.2 dX11_end_16
  · have c1 := xnlt (k := 0) (by decide) c1
    refine lv_iload_n hx hb dX11_end_4 rfl (lv_at hl 1 rfl) ?_
    refine lv_aload_n hx hb dX11_end_5 rfl (lv_at hl 0 rfl) ?_
    refine va_get (D := D) (ci := 11) (v := .ref (a 1)) (C := RX11) (T := TX11) (N := 15) hx hb htg inX11 hown hK.1 hP 0 rfl rfl 0 (by decide) (htg _ kw_496) (fun _ h9 => h9) rfl dX11_end_6 ?_
    refine va_getN (D := D) (ci := 6) (v := .int (vi 3)) (C := RX6) (T := TX6) (N := 14) hx hb htg inX6 hown hK.1 hP 1 rfl rfl 3 (by decide) (va_Nw.use rfl (hK.2.1 _ kn_97)) (fun _ h9 => h9) rfl dX11_end_9 ?_
    refine lv_icmp_le (tgt := 17) hx hb dX11_end_12 (by decide) (fun c12 => ?_) (fun c12 => ?_)
    · have c12 := Int32.le_iff_toInt_le.mp c12
      have rc12 := xrng (vi 0); have qc12 := xrng (vi 3)
      refine lv_aload_n hx hb dX11_end_17 rfl (lv_at hl 0 rfl) ?_
      refine va_get (D := D) (ci := 11) (v := .ref (a 1)) (C := RX11) (T := TX11) (N := 15) hx hb htg inX11 hown hK.1 hP 0 rfl rfl 0 (by decide) (htg _ kw_496) (fun _ h9 => h9) rfl dX11_end_18 ?_
      refine lv_iload_n hx hb dX11_end_21 rfl (lv_at hl 1 rfl) ?_
      refine va_putN (D := D) (ci := 6) (v := .int (vi 0)) (ty := .int) (C := RX6) (T := TX6) (N := 14) hx hb htg inX6 tyX6 tyX6_ok nmX6 hown hK.1 hP hD hS 1 rfl rfl 3 (by decide) (va_Nw.use rfl (hK.2.1 _ kn_97)) (fun _ h9 => h9) rfl (by decide +kernel) rfl rfl (Nat.le_of_ble_eq_true rfl) dX11_end_22 (fun H locs hP hD hS => ?_)
      obtain ⟨hP, hD⟩ := (show xPD D A [((a 0), .inr (11, [.ref (a 1), .ref (ex 0), .ref (ex 1), .ref (ex 2), .ref (ex 3), .ref (ex 4), .ref (ex 5), .ref (ex 6), .ref (ex 7), .ref (ex 8), .ref (ex 9), .ref (ex 10), .ref (ex 11), .ref (ex 12), .int (vi 1)])), ((a 1), .inr (6, [.ref (ex 13), .ref (ex 14), .int (vi 2), .int (vi 0), .int (vi 4), .int (vi 5), .int (vi 6), .int (vi 7), .long (vl 0), .int (vi 8), .int (vi 9), .int (vi 10), .int (vi 11), .int (vi 12)]))] H from ⟨hP, hD⟩)
      refine lv_iconst (v := 1) hx hb dX11_end_25 (by decide) ?_
      have hP9 := hP.sub (ws' := [((a 0), .inr (11, [.ref (a 1), .ref (ex 0), .ref (ex 1), .ref (ex 2), .ref (ex 3), .ref (ex 4), .ref (ex 5), .ref (ex 6), .ref (ex 7), .ref (ex 8), .ref (ex 9), .ref (ex 10), .ref (ex 11), .ref (ex 12), .int (vi 1)])), ((a 1), .inr (6, [.ref (ex 13), .ref (ex 14), .int (vi 2), .int (vi 0), .int (vi 4), .int (vi 5), .int (vi 6), .int (vi 7), .long (vl 0), .int (vi 8), .int (vi 9), .int (vi 10), .int (vi 11), .int (vi 12)]))]) [0, 1] rfl
      have hD9 := hD.sub (ws' := [((a 0), .inr (11, [.ref (a 1), .ref (ex 0), .ref (ex 1), .ref (ex 2), .ref (ex 3), .ref (ex 4), .ref (ex 5), .ref (ex 6), .ref (ex 7), .ref (ex 8), .ref (ex 9), .ref (ex 10), .ref (ex 11), .ref (ex 12), .int (vi 1)])), ((a 1), .inr (6, [.ref (ex 13), .ref (ex 14), .int (vi 2), .int (vi 0), .int (vi 4), .int (vi 5), .int (vi 6), .int (vi 7), .long (vl 0), .int (vi 8), .int (vi 9), .int (vi 10), .int (vi 11), .int (vi 12)]))]) [0, 1] (by decide +kernel) rfl
      rw [hQ]
      exact W.zret (v := 1) hx hb hr rfl (fun t ht hW => ⟨⟨1, 1, rfl, rfl, xf [], xh [], xv [(vi 0)], xl [], by rw [ht]; exact hP9, hD9, ⟨(Or.inl ⟨rfl, by show True; first | trivial | omega | assumption⟩), (by show 0 ≤ (vi 0).toInt ∧ (vi 0).toInt ≤ 940; omega), (by show (0 ≤ (vi 0).toInt ∧ (vi 0).toInt ≤ (vi 3).toInt ∧ (1 : Int32).toInt = 1 ∧ (vi 0).toInt = (vi 0).toInt) ∨ (¬ (0 ≤ (vi 0).toInt ∧ (vi 0).toInt ≤ (vi 3).toInt) ∧ (1 : Int32).toInt = 0 ∧ (vi 0).toInt = (vi 3).toInt); have k9_0 : (1 : Int32).toInt = 1 := (by decide); first | omega | assumption), trivial⟩⟩, hS.F ht⟩) hS.2.2 dX11_end_26
    · have c12 := (mt Int32.le_iff_toInt_le.mpr c12)
      have rc12 := xrng (vi 0); have qc12 := xrng (vi 3)
      refine lv_iconst (v := 0) hx hb dX11_end_15 (by decide) ?_
      have hP9 := hP.sub (ws' := [((a 0), .inr (11, [.ref (a 1), .ref (ex 0), .ref (ex 1), .ref (ex 2), .ref (ex 3), .ref (ex 4), .ref (ex 5), .ref (ex 6), .ref (ex 7), .ref (ex 8), .ref (ex 9), .ref (ex 10), .ref (ex 11), .ref (ex 12), .int (vi 1)])), ((a 1), .inr (6, [.ref (ex 13), .ref (ex 14), .int (vi 2), .int (vi 3), .int (vi 4), .int (vi 5), .int (vi 6), .int (vi 7), .long (vl 0), .int (vi 8), .int (vi 9), .int (vi 10), .int (vi 11), .int (vi 12)]))]) [0, 1] rfl
      have hD9 := hD.sub (ws' := [((a 0), .inr (11, [.ref (a 1), .ref (ex 0), .ref (ex 1), .ref (ex 2), .ref (ex 3), .ref (ex 4), .ref (ex 5), .ref (ex 6), .ref (ex 7), .ref (ex 8), .ref (ex 9), .ref (ex 10), .ref (ex 11), .ref (ex 12), .int (vi 1)])), ((a 1), .inr (6, [.ref (ex 13), .ref (ex 14), .int (vi 2), .int (vi 3), .int (vi 4), .int (vi 5), .int (vi 6), .int (vi 7), .long (vl 0), .int (vi 8), .int (vi 9), .int (vi 10), .int (vi 11), .int (vi 12)]))]) [0, 1] (by decide +kernel) rfl
      rw [hQ]
      exact W.zret (v := 0) hx hb hr rfl (fun t ht hW => ⟨⟨0, 0, rfl, rfl, xf [], xh [], xv [(vi 3)], xl [], by rw [ht]; exact hP9, hD9, ⟨(Or.inr ⟨rfl, by show True; first | trivial | omega | assumption⟩), hp0, (by show (0 ≤ (vi 0).toInt ∧ (vi 0).toInt ≤ (vi 3).toInt ∧ (0 : Int32).toInt = 1 ∧ (vi 3).toInt = (vi 0).toInt) ∨ (¬ (0 ≤ (vi 0).toInt ∧ (vi 0).toInt ≤ (vi 3).toInt) ∧ (0 : Int32).toInt = 0 ∧ (vi 3).toInt = (vi 3).toInt); have k9_0 : (0 : Int32).toInt = 0 := (by decide); first | omega | assumption), trivial⟩⟩, hS.F ht⟩) hS.2.2 dX11_end_16
abbrev pre_X11_fault (T : Nat → ClassId) (a ex : Nat → Nat) (fi : Nat → Nat → Int32) (fl : Nat → Nat → Int64) (vi : Nat → Int32) (vl : Nat → Int64) : va_W := [((a 0), .inr (11, [.ref (ex 0), .ref (ex 1), .ref (ex 2), .ref (ex 3), .ref (ex 4), .ref (ex 5), .ref (ex 6), .ref (ex 7), .ref (ex 8), .ref (ex 9), .ref (ex 10), .ref (ex 11), .ref (ex 12), .ref (ex 13), .int (vi 0)]))]
set_option maxHeartbeats 8000000 in
set_option maxRecDepth 100000 in
theorem c_X11_fault (l : Launch) (D : va_G) (T : Nat → ClassId) (a ex : Nat → Nat) (fi : Nat → Nat → Int32) (fl : Nat → Nat → Int64) (vi : Nat → Int32) (vl : Nat → Int64) (sz : Nat) : Met l yX11_fault (xw yX11_fault cX11_fault 1 (some .int)) ({ frames := 0, cells := 0, slots := 0, locals := 0 }) (xP D T [.ref (a 0)] sz (pre_X11_fault T a ex fi fl vi vl)) (va_Qi (fun r u => r = u) (xC D (va_A (pre_X11_fault T a ex fi fl vi vl) sz) (fun fj fm vj vm => [((a 0), .inr (11, [.ref (ex 0), .ref (ex 1), .ref (ex 2), .ref (ex 3), .ref (ex 4), .ref (ex 5), .ref (ex 6), .ref (ex 7), .ref (ex 8), .ref (ex 9), .ref (ex 10), .ref (ex 11), .ref (ex 12), .ref (ex 13), .int (vi 0)]))]) (fun (r : Int32) (fj : Nat → Nat → Int32) (fm : Nat → Nat → Int64) (vj : Nat → Int32) (vm : Nat → Int64) => (r.toInt = (vi 0).toInt) ∧ True)) (va_A (pre_X11_fault T a ex fi fl vi vl) sz)) 0 0 (va_A (pre_X11_fault T a ex fi fl vi vl) sz) := by
  refine xofW (cc := cX11_fault) (maxL := 1) (ret := (some .int)) (by decide) rfl ?_
  intro p e s m args below meth c s₁ R Q hR hQ B hml hv
  obtain ⟨rfl, hsz, hP, hK, hD0⟩ := hv
  have hx := B.exec
  have hb := B.bytes
  have hr := B.returns
  have hts := atoms_spec (ws := xw yX11_fault cX11_fault 1 (some .int)) B.pre
  have htg : ∀ w ∈ xg, w.before _ s = true := fun w h => hts w (List.mem_cons_of_mem _ h)
  have hown : s.vm.findClass RX11 = some m.cls := findClass_of_methodNamed B.named
  have hlocks := B.notSynchronized
  subst hsz
  have hD := hD0.self (sz := s.heap.size)
  generalize hAe : va_A (pre_X11_fault T a ex fi fl vi vl) s.heap.size = A at hD hQ
  have hA : ∀ q : Nat, s.heap.size ≤ q → A q := fun q h => by rw [← hAe]; exact Or.inr h
  have hS : va_S A s.heap s.heap [] := va_S.rf
  replace hP : va_P D vwCl [((a 0), .inr (11, [.ref (ex 0), .ref (ex 1), .ref (ex 2), .ref (ex 3), .ref (ex 4), .ref (ex 5), .ref (ex 6), .ref (ex 7), .ref (ex 8), .ref (ex 9), .ref (ex 10), .ref (ex 11), .ref (ex 12), .ref (ex 13), .int (vi 0)]))] s.heap := hP
  replace hD : va_D A [((a 0), .inr (11, [.ref (ex 0), .ref (ex 1), .ref (ex 2), .ref (ex 3), .ref (ex 4), .ref (ex 5), .ref (ex 6), .ref (ex 7), .ref (ex 8), .ref (ex 9), .ref (ex 10), .ref (ex 11), .ref (ex 12), .ref (ex 13), .int (vi 0)]))] := hD
  have hl := lv_entry ([.ref (a 0)]) (n := 1) (Nat.le_of_ble_eq_true rfl)
  rw [lg_entry_eq]
  generalize (lg_sl ([.ref (a 0)]) ++ List.replicate (1 - (lg_sl ([.ref (a 0)])).length) Slot.unset).toArray = ls at hl ⊢
  replace hl : lv_has ls 1 [(0, .ref (a 0))] := hl
  refine lv_aload_n hx hb dX11_fault_0 rfl (lv_at hl 0 rfl) ?_
  refine va_get (D := D) (ci := 11) (v := .int (vi 0)) (C := RX11) (T := TX11) (N := 15) hx hb htg inX11 hown hK.1 hP 0 rfl rfl 14 (by decide) (htg _ kw_510) (fun _ h9 => h9) rfl dX11_fault_1 ?_
  have hP9 := hP.sub (ws' := [((a 0), .inr (11, [.ref (ex 0), .ref (ex 1), .ref (ex 2), .ref (ex 3), .ref (ex 4), .ref (ex 5), .ref (ex 6), .ref (ex 7), .ref (ex 8), .ref (ex 9), .ref (ex 10), .ref (ex 11), .ref (ex 12), .ref (ex 13), .int (vi 0)]))]) [0] rfl
  have hD9 := hD.sub (ws' := [((a 0), .inr (11, [.ref (ex 0), .ref (ex 1), .ref (ex 2), .ref (ex 3), .ref (ex 4), .ref (ex 5), .ref (ex 6), .ref (ex 7), .ref (ex 8), .ref (ex 9), .ref (ex 10), .ref (ex 11), .ref (ex 12), .ref (ex 13), .int (vi 0)]))]) [0] (by decide +kernel) rfl
  rw [hQ]
  exact W.iret (v := (vi 0)) hx hb hr (fun t ht hW => ⟨⟨(vi 0), (vi 0), rfl, rfl, xf [], xh [], xv [], xl [], by rw [ht]; exact hP9, hD9, ⟨(by show (vi 0).toInt = (vi 0).toInt; first | omega | assumption), trivial⟩⟩, hS.F ht⟩) hS.2.2 dX11_fault_4
abbrev pre_X7_isName (T : Nat → ClassId) (a ex : Nat → Nat) (fi : Nat → Nat → Int32) (fl : Nat → Nat → Int64) (vi : Nat → Int32) (vl : Nat → Int64) : va_W := [((a 0), .inr (7, [.int (vi 1), .int (vi 2), .ref (ex 0), .ref (ex 1), .ref (ex 2), .ref (ex 3), .ref (ex 4), .ref (ex 5), .ref (ex 6), .ref (ex 7), .ref (ex 8), .ref (ex 9)]))]
set_option maxHeartbeats 8000000 in
set_option maxRecDepth 100000 in
theorem c_X7_isName (l : Launch) (D : va_G) (T : Nat → ClassId) (a ex : Nat → Nat) (fi : Nat → Nat → Int32) (fl : Nat → Nat → Int64) (vi : Nat → Int32) (vl : Nat → Int64) (sz : Nat) (hp0 : 0 ≤ (vi 1).toInt ∧ (vi 1).toInt ≤ 9) (hp1 : 0 ≤ (vi 2).toInt ∧ (vi 2).toInt ≤ 9) : Met l yX7_isName (xw yX7_isName cX7_isName 2 (some .boolean)) ({ frames := 0, cells := 0, slots := 0, locals := 0 }) (xP D T [.ref (a 0), .int (vi 0)] sz (pre_X7_isName T a ex fi fl vi vl)) (va_Qi (fun r u => r = u) (xC D (va_A (pre_X7_isName T a ex fi fl vi vl) sz) (fun fj fm vj vm => [((a 0), .inr (7, [.int (vi 1), .int (vi 2), .ref (ex 0), .ref (ex 1), .ref (ex 2), .ref (ex 3), .ref (ex 4), .ref (ex 5), .ref (ex 6), .ref (ex 7), .ref (ex 8), .ref (ex 9)]))]) (fun (r : Int32) (fj : Nat → Nat → Int32) (fm : Nat → Nat → Int64) (vj : Nat → Int32) (vm : Nat → Int64) => ((r = 1 ∧ (0 ≤ (vi 0).toInt ∧ (vi 0).toInt < (vi 1).toInt)) ∨ (r = 0 ∧ (¬ (0 ≤ (vi 0).toInt ∧ (vi 0).toInt < (vi 1).toInt)))) ∧ True)) (va_A (pre_X7_isName T a ex fi fl vi vl) sz)) 0 0 (va_A (pre_X7_isName T a ex fi fl vi vl) sz) := by
  refine xofW (cc := cX7_isName) (maxL := 2) (ret := (some .boolean)) (by decide) rfl ?_
  intro p e s m args below meth c s₁ R Q hR hQ B hml hv
  obtain ⟨rfl, hsz, hP, hK, hD0⟩ := hv
  have hx := B.exec
  have hb := B.bytes
  have hr := B.returns
  have hts := atoms_spec (ws := xw yX7_isName cX7_isName 2 (some .boolean)) B.pre
  have htg : ∀ w ∈ xg, w.before _ s = true := fun w h => hts w (List.mem_cons_of_mem _ h)
  have hown : s.vm.findClass RX7 = some m.cls := findClass_of_methodNamed B.named
  have hlocks := B.notSynchronized
  subst hsz
  have hD := hD0.self (sz := s.heap.size)
  generalize hAe : va_A (pre_X7_isName T a ex fi fl vi vl) s.heap.size = A at hD hQ
  have hA : ∀ q : Nat, s.heap.size ≤ q → A q := fun q h => by rw [← hAe]; exact Or.inr h
  have hS : va_S A s.heap s.heap [] := va_S.rf
  replace hP : va_P D vwCl [((a 0), .inr (7, [.int (vi 1), .int (vi 2), .ref (ex 0), .ref (ex 1), .ref (ex 2), .ref (ex 3), .ref (ex 4), .ref (ex 5), .ref (ex 6), .ref (ex 7), .ref (ex 8), .ref (ex 9)]))] s.heap := hP
  replace hD : va_D A [((a 0), .inr (7, [.int (vi 1), .int (vi 2), .ref (ex 0), .ref (ex 1), .ref (ex 2), .ref (ex 3), .ref (ex 4), .ref (ex 5), .ref (ex 6), .ref (ex 7), .ref (ex 8), .ref (ex 9)]))] := hD
  have hl := lv_entry ([.ref (a 0), .int (vi 0)]) (n := 2) (Nat.le_of_ble_eq_true rfl)
  rw [lg_entry_eq]
  generalize (lg_sl ([.ref (a 0), .int (vi 0)]) ++ List.replicate (2 - (lg_sl ([.ref (a 0), .int (vi 0)])).length) Slot.unset).toArray = ls at hl ⊢
  replace hl : lv_has ls 2 [(0, .ref (a 0)), (1, .int (vi 0))] := hl
  refine lv_iload_n hx hb dX7_isName_0 rfl (lv_at hl 1 rfl) ?_
  refine lv_if_lt (tgt := 16) hx hb dX7_isName_1 (by decide) (fun c1 => ?_) (fun c1 => ?_)
  · have c1 := xlt (k := 0) (by decide) c1
    refine lv_iconst (v := 0) hx hb dX7_isName_16 (by decide) ?_
    have hP9 := hP.sub (ws' := [((a 0), .inr (7, [.int (vi 1), .int (vi 2), .ref (ex 0), .ref (ex 1), .ref (ex 2), .ref (ex 3), .ref (ex 4), .ref (ex 5), .ref (ex 6), .ref (ex 7), .ref (ex 8), .ref (ex 9)]))]) [0] rfl
    have hD9 := hD.sub (ws' := [((a 0), .inr (7, [.int (vi 1), .int (vi 2), .ref (ex 0), .ref (ex 1), .ref (ex 2), .ref (ex 3), .ref (ex 4), .ref (ex 5), .ref (ex 6), .ref (ex 7), .ref (ex 8), .ref (ex 9)]))]) [0] (by decide +kernel) rfl
    rw [hQ]
    exact W.zret (v := 0) hx hb hr rfl (fun t ht hW => ⟨⟨0, 0, rfl, rfl, xf [], xh [], xv [], xl [], by rw [ht]; exact hP9, hD9, ⟨(Or.inr ⟨rfl, by show ¬ (0 ≤ (vi 0).toInt ∧ (vi 0).toInt < (vi 1).toInt); first | trivial | omega | assumption⟩), trivial⟩⟩, hS.F ht⟩) hS.2.2 dX7_isName_17
  · have c1 := xnlt (k := 0) (by decide) c1
    refine lv_iload_n hx hb dX7_isName_4 rfl (lv_at hl 1 rfl) ?_
    refine lv_aload_n hx hb dX7_isName_5 rfl (lv_at hl 0 rfl) ?_
    refine va_get (D := D) (ci := 7) (v := .int (vi 1)) (C := RX7) (T := TX7) (N := 12) hx hb htg inX7 hown hK.1 hP 0 rfl rfl 0 (by decide) (htg _ kw_158) (fun _ h9 => h9) rfl dX7_isName_6 ?_
    refine lv_icmp_ge (tgt := 16) hx hb dX7_isName_9 (by decide) (fun c9 => ?_) (fun c9 => ?_)
    · have c9 := Int32.le_iff_toInt_le.mp c9
      have rc9 := xrng (vi 0); have qc9 := xrng (vi 1)
      refine lv_iconst (v := 0) hx hb dX7_isName_16 (by decide) ?_
      have hP9 := hP.sub (ws' := [((a 0), .inr (7, [.int (vi 1), .int (vi 2), .ref (ex 0), .ref (ex 1), .ref (ex 2), .ref (ex 3), .ref (ex 4), .ref (ex 5), .ref (ex 6), .ref (ex 7), .ref (ex 8), .ref (ex 9)]))]) [0] rfl
      have hD9 := hD.sub (ws' := [((a 0), .inr (7, [.int (vi 1), .int (vi 2), .ref (ex 0), .ref (ex 1), .ref (ex 2), .ref (ex 3), .ref (ex 4), .ref (ex 5), .ref (ex 6), .ref (ex 7), .ref (ex 8), .ref (ex 9)]))]) [0] (by decide +kernel) rfl
      rw [hQ]
      exact W.zret (v := 0) hx hb hr rfl (fun t ht hW => ⟨⟨0, 0, rfl, rfl, xf [], xh [], xv [], xl [], by rw [ht]; exact hP9, hD9, ⟨(Or.inr ⟨rfl, by show ¬ (0 ≤ (vi 0).toInt ∧ (vi 0).toInt < (vi 1).toInt); first | trivial | omega | assumption⟩), trivial⟩⟩, hS.F ht⟩) hS.2.2 dX7_isName_17
    · have c9 := (mt Int32.le_iff_toInt_le.mpr c9)
      have rc9 := xrng (vi 0); have qc9 := xrng (vi 1)
      refine lv_iconst (v := 1) hx hb dX7_isName_12 (by decide) ?_
      refine lv_goto (tgt := 17) hx hb dX7_isName_13 (by decide) ?_
      have hP9 := hP.sub (ws' := [((a 0), .inr (7, [.int (vi 1), .int (vi 2), .ref (ex 0), .ref (ex 1), .ref (ex 2), .ref (ex 3), .ref (ex 4), .ref (ex 5), .ref (ex 6), .ref (ex 7), .ref (ex 8), .ref (ex 9)]))]) [0] rfl
      have hD9 := hD.sub (ws' := [((a 0), .inr (7, [.int (vi 1), .int (vi 2), .ref (ex 0), .ref (ex 1), .ref (ex 2), .ref (ex 3), .ref (ex 4), .ref (ex 5), .ref (ex 6), .ref (ex 7), .ref (ex 8), .ref (ex 9)]))]) [0] (by decide +kernel) rfl
      rw [hQ]
      exact W.zret (v := 1) hx hb hr rfl (fun t ht hW => ⟨⟨1, 1, rfl, rfl, xf [], xh [], xv [], xl [], by rw [ht]; exact hP9, hD9, ⟨(Or.inl ⟨rfl, by show 0 ≤ (vi 0).toInt ∧ (vi 0).toInt < (vi 1).toInt; first | trivial | omega | assumption⟩), trivial⟩⟩, hS.F ht⟩) hS.2.2 dX7_isName_17
abbrev pre_X2_hangedYet (T : Nat → ClassId) (a ex : Nat → Nat) (fi : Nat → Nat → Int32) (fl : Nat → Nat → Int64) (vi : Nat → Int32) (vl : Nat → Int64) : va_W := [((a 0), .inr (2, [.ref (ex 0), .int (vi 1), .int (vi 2), .int (vi 3), .int (vi 4), .int (vi 5), .int (vi 6), .ref (ex 1), .ref (ex 2), .ref (a 1), .ref (ex 3), .ref (ex 4), .ref (ex 5), .ref (ex 6), .ref (ex 7)])), ((a 1), .inl (T 1, 9, .inl (fi 0)))]
set_option maxHeartbeats 8000000 in
set_option maxRecDepth 100000 in
theorem c_X2_hangedYet (l : Launch) (D : va_G) (T : Nat → ClassId) (a ex : Nat → Nat) (fi : Nat → Nat → Int32) (fl : Nat → Nat → Int64) (vi : Nat → Int32) (vl : Nat → Int64) (sz : Nat) (hp0 : 0 ≤ (vi 0).toInt ∧ (vi 0).toInt ≤ 8) (hp1 : 0 ≤ (vi 1).toInt ∧ (vi 1).toInt ≤ 200) (hp2 : 0 ≤ (vi 6).toInt ∧ (vi 6).toInt ≤ 9) : Met l yX2_hangedYet (xw yX2_hangedYet cX2_hangedYet 2 (some .int)) ({ frames := 0, cells := 0, slots := 0, locals := 0 }) (xP D T [.ref (a 0), .int (vi 0)] sz (pre_X2_hangedYet T a ex fi fl vi vl)) (va_Qi (fun r u => r = u) (xC D (va_A (pre_X2_hangedYet T a ex fi fl vi vl) sz) (fun fj fm vj vm => [((a 0), .inr (2, [.ref (ex 0), .int (vi 1), .int (vi 2), .int (vi 3), .int (vi 4), .int (vi 5), .int (vi 6), .ref (ex 1), .ref (ex 2), .ref (a 1), .ref (ex 3), .ref (ex 4), .ref (ex 5), .ref (ex 6), .ref (ex 7)])), ((a 1), .inl (T 1, 9, .inl (fi 0)))]) (fun (r : Int32) (fj : Nat → Nat → Int32) (fm : Nat → Nat → Int64) (vj : Nat → Int32) (vm : Nat → Int64) => True)) (va_A (pre_X2_hangedYet T a ex fi fl vi vl) sz)) 0 0 (va_A (pre_X2_hangedYet T a ex fi fl vi vl) sz) := by
  refine xofW (cc := cX2_hangedYet) (maxL := 2) (ret := (some .int)) (by decide) rfl ?_
  intro p e s m args below meth c s₁ R Q hR hQ B hml hv
  obtain ⟨rfl, hsz, hP, hK, hD0⟩ := hv
  have hx := B.exec
  have hb := B.bytes
  have hr := B.returns
  have hts := atoms_spec (ws := xw yX2_hangedYet cX2_hangedYet 2 (some .int)) B.pre
  have htg : ∀ w ∈ xg, w.before _ s = true := fun w h => hts w (List.mem_cons_of_mem _ h)
  have hown : s.vm.findClass RX2 = some m.cls := findClass_of_methodNamed B.named
  have hlocks := B.notSynchronized
  subst hsz
  have hD := hD0.self (sz := s.heap.size)
  generalize hAe : va_A (pre_X2_hangedYet T a ex fi fl vi vl) s.heap.size = A at hD hQ
  have hA : ∀ q : Nat, s.heap.size ≤ q → A q := fun q h => by rw [← hAe]; exact Or.inr h
  have hS : va_S A s.heap s.heap [] := va_S.rf
  replace hP : va_P D vwCl [((a 0), .inr (2, [.ref (ex 0), .int (vi 1), .int (vi 2), .int (vi 3), .int (vi 4), .int (vi 5), .int (vi 6), .ref (ex 1), .ref (ex 2), .ref (a 1), .ref (ex 3), .ref (ex 4), .ref (ex 5), .ref (ex 6), .ref (ex 7)])), ((a 1), .inl (T 1, 9, .inl (fi 0)))] s.heap := hP
  replace hD : va_D A [((a 0), .inr (2, [.ref (ex 0), .int (vi 1), .int (vi 2), .int (vi 3), .int (vi 4), .int (vi 5), .int (vi 6), .ref (ex 1), .ref (ex 2), .ref (a 1), .ref (ex 3), .ref (ex 4), .ref (ex 5), .ref (ex 6), .ref (ex 7)])), ((a 1), .inl (T 1, 9, .inl (fi 0)))] := hD
  have hl := lv_entry ([.ref (a 0), .int (vi 0)]) (n := 2) (Nat.le_of_ble_eq_true rfl)
  rw [lg_entry_eq]
  generalize (lg_sl ([.ref (a 0), .int (vi 0)]) ++ List.replicate (2 - (lg_sl ([.ref (a 0), .int (vi 0)])).length) Slot.unset).toArray = ls at hl ⊢
  replace hl : lv_has ls 2 [(0, .ref (a 0)), (1, .int (vi 0))] := hl
  refine lv_aload_n hx hb dX2_hangedYet_0 rfl (lv_at hl 0 rfl) ?_
  refine va_get (D := D) (ci := 2) (v := .ref (a 1)) (C := RX2) (T := TX2) (N := 15) hx hb htg inX2 hown hK.1 hP 0 rfl rfl 9 (by decide) (htg _ kw_266) (fun _ h9 => h9) rfl dX2_hangedYet_1 ?_
  refine lv_iload_n hx hb dX2_hangedYet_4 rfl (lv_at hl 1 rfl) ?_
  refine va_iald hx hb hK.1 hP 1 1 rfl rfl (vp_in_iff.mpr (by omega)) dX2_hangedYet_5 ?_
  refine lv_aload_n hx hb dX2_hangedYet_6 rfl (lv_at hl 0 rfl) ?_
  refine va_get (D := D) (ci := 2) (v := .int (vi 1)) (C := RX2) (T := TX2) (N := 15) hx hb htg inX2 hown hK.1 hP 0 rfl rfl 1 (by decide) (htg _ kw_247) (fun _ h9 => h9) rfl dX2_hangedYet_7 ?_
  refine lv_icmp_le (tgt := 27) hx hb dX2_hangedYet_10 (by decide) (fun c10 => ?_) (fun c10 => ?_)
  · have c10 := Int32.le_iff_toInt_le.mp c10
    have rc10 := xrng ((fi 0) (vi 0).toNatClampNeg); have qc10 := xrng (vi 1)
    refine lv_iconst (v := 0) hx hb dX2_hangedYet_27 (by decide) ?_
    have hP9 := hP.sub (ws' := [((a 0), .inr (2, [.ref (ex 0), .int (vi 1), .int (vi 2), .int (vi 3), .int (vi 4), .int (vi 5), .int (vi 6), .ref (ex 1), .ref (ex 2), .ref (a 1), .ref (ex 3), .ref (ex 4), .ref (ex 5), .ref (ex 6), .ref (ex 7)])), ((a 1), .inl (T 1, 9, .inl (fi 0)))]) [0, 1] rfl
    have hD9 := hD.sub (ws' := [((a 0), .inr (2, [.ref (ex 0), .int (vi 1), .int (vi 2), .int (vi 3), .int (vi 4), .int (vi 5), .int (vi 6), .ref (ex 1), .ref (ex 2), .ref (a 1), .ref (ex 3), .ref (ex 4), .ref (ex 5), .ref (ex 6), .ref (ex 7)])), ((a 1), .inl (T 1, 9, .inl (fi 0)))]) [0, 1] (by decide +kernel) rfl
    rw [hQ]
    exact W.iret (v := 0) hx hb hr (fun t ht hW => ⟨⟨0, 0, rfl, rfl, xf [], xh [], xv [], xl [], by rw [ht]; exact hP9, hD9, trivial⟩, hS.F ht⟩) hS.2.2 dX2_hangedYet_28
  · have c10 := (mt Int32.le_iff_toInt_le.mpr c10)
    have rc10 := xrng ((fi 0) (vi 0).toNatClampNeg); have qc10 := xrng (vi 1)
    refine lv_aload_n hx hb dX2_hangedYet_13 rfl (lv_at hl 0 rfl) ?_
    refine va_get (D := D) (ci := 2) (v := .ref (a 1)) (C := RX2) (T := TX2) (N := 15) hx hb htg inX2 hown hK.1 hP 0 rfl rfl 9 (by decide) (htg _ kw_266) (fun _ h9 => h9) rfl dX2_hangedYet_14 ?_
    refine lv_iload_n hx hb dX2_hangedYet_17 rfl (lv_at hl 1 rfl) ?_
    refine va_iald hx hb hK.1 hP 1 1 rfl rfl (vp_in_iff.mpr (by omega)) dX2_hangedYet_18 ?_
    refine lv_aload_n hx hb dX2_hangedYet_19 rfl (lv_at hl 0 rfl) ?_
    refine va_get (D := D) (ci := 2) (v := .int (vi 1)) (C := RX2) (T := TX2) (N := 15) hx hb htg inX2 hown hK.1 hP 0 rfl rfl 1 (by decide) (htg _ kw_247) (fun _ h9 => h9) rfl dX2_hangedYet_20 ?_
    refine lv_isub hx hb dX2_hangedYet_23 ?_
    refine lv_topi (fun z23 ez23 => ?_)
    have tz23 : z23.toInt = ((fi 0) (vi 0).toNatClampNeg).toInt - (vi 1).toInt := by rw [ez23]; have h79 := xrng ((fi 0) (vi 0).toNatClampNeg); exact xsub rfl rfl (by omega) (by omega)
    refine lv_goto (tgt := 28) hx hb dX2_hangedYet_24 (by decide) ?_
    have hP9 := hP.sub (ws' := [((a 0), .inr (2, [.ref (ex 0), .int (vi 1), .int (vi 2), .int (vi 3), .int (vi 4), .int (vi 5), .int (vi 6), .ref (ex 1), .ref (ex 2), .ref (a 1), .ref (ex 3), .ref (ex 4), .ref (ex 5), .ref (ex 6), .ref (ex 7)])), ((a 1), .inl (T 1, 9, .inl (fi 0)))]) [0, 1] rfl
    have hD9 := hD.sub (ws' := [((a 0), .inr (2, [.ref (ex 0), .int (vi 1), .int (vi 2), .int (vi 3), .int (vi 4), .int (vi 5), .int (vi 6), .ref (ex 1), .ref (ex 2), .ref (a 1), .ref (ex 3), .ref (ex 4), .ref (ex 5), .ref (ex 6), .ref (ex 7)])), ((a 1), .inl (T 1, 9, .inl (fi 0)))]) [0, 1] (by decide +kernel) rfl
    rw [hQ]
    exact W.iret (v := z23) hx hb hr (fun t ht hW => ⟨⟨z23, z23, rfl, rfl, xf [], xh [], xv [], xl [], by rw [ht]; exact hP9, hD9, trivial⟩, hS.F ht⟩) hS.2.2 dX2_hangedYet_28
abbrev pre_X2_cost (T : Nat → ClassId) (a ex : Nat → Nat) (fi : Nat → Nat → Int32) (fl : Nat → Nat → Int64) (vi : Nat → Int32) (vl : Nat → Int64) : va_W := [((a 0), .inr (2, [.ref (a 2), .int (vi 1), .int (vi 2), .int (vi 3), .int (vi 4), .int (vi 5), .int (vi 6), .ref (ex 0), .ref (ex 1), .ref (a 1), .ref (ex 2), .ref (ex 3), .ref (ex 4), .ref (ex 5), .ref (ex 6)])), ((a 1), .inl (T 1, 9, .inl (fi 0))), ((a 2), .inr (7, [.int (vi 7), .int (vi 8), .ref (ex 7), .ref (a 3), .ref (ex 8), .ref (ex 9), .ref (ex 10), .ref (ex 11), .ref (ex 12), .ref (ex 13), .ref (ex 14), .ref (ex 15)])), ((a 3), .inl (T 1, 9, .inl (fi 1)))]
set_option maxHeartbeats 8000000 in
set_option maxRecDepth 100000 in
theorem c_X2_cost (l : Launch) (D : va_G) (T : Nat → ClassId) (a ex : Nat → Nat) (fi : Nat → Nat → Int32) (fl : Nat → Nat → Int64) (vi : Nat → Int32) (vl : Nat → Int64) (sz : Nat) (hp0 : 0 ≤ (vi 0).toInt ∧ (vi 0).toInt ≤ 8) (hp1 : 0 ≤ (vi 1).toInt ∧ (vi 1).toInt ≤ 200) (hp2 : 0 ≤ (vi 6).toInt ∧ (vi 6).toInt ≤ 9) (hp3 : 0 ≤ (vi 7).toInt ∧ (vi 7).toInt ≤ 9) (hp4 : 0 ≤ (vi 8).toInt ∧ (vi 8).toInt ≤ 9) : Met l yX2_cost (xw yX2_cost cX2_cost 2 (some .int)) ({ frames := 1, cells := 0, slots := 0, locals := 25 }) (xP D T [.ref (a 0), .int (vi 0)] sz (pre_X2_cost T a ex fi fl vi vl)) (va_Qi (fun r u => r = u) (xC D (va_A (pre_X2_cost T a ex fi fl vi vl) sz) (fun fj fm vj vm => [((a 0), .inr (2, [.ref (a 2), .int (vi 1), .int (vi 2), .int (vi 3), .int (vi 4), .int (vi 5), .int (vi 6), .ref (ex 0), .ref (ex 1), .ref (a 1), .ref (ex 2), .ref (ex 3), .ref (ex 4), .ref (ex 5), .ref (ex 6)])), ((a 1), .inl (T 1, 9, .inl (fi 0))), ((a 2), .inr (7, [.int (vi 7), .int (vi 8), .ref (ex 7), .ref (a 3), .ref (ex 8), .ref (ex 9), .ref (ex 10), .ref (ex 11), .ref (ex 12), .ref (ex 13), .ref (ex 14), .ref (ex 15)])), ((a 3), .inl (T 1, 9, .inl (fi 1)))]) (fun (r : Int32) (fj : Nat → Nat → Int32) (fm : Nat → Nat → Int64) (vj : Nat → Int32) (vm : Nat → Int64) => True)) (va_A (pre_X2_cost T a ex fi fl vi vl) sz)) 0 0 (va_A (pre_X2_cost T a ex fi fl vi vl) sz) := by
  refine xofW (cc := cX2_cost) (maxL := 2) (ret := (some .int)) (by decide) rfl ?_
  intro p e s m args below meth c s₁ R Q hR hQ B hml hv
  obtain ⟨rfl, hsz, hP, hK, hD0⟩ := hv
  have hx := B.exec
  have hb := B.bytes
  have hr := B.returns
  have hts := atoms_spec (ws := xw yX2_cost cX2_cost 2 (some .int)) B.pre
  have htg : ∀ w ∈ xg, w.before _ s = true := fun w h => hts w (List.mem_cons_of_mem _ h)
  have hown : s.vm.findClass RX2 = some m.cls := findClass_of_methodNamed B.named
  have hlocks := B.notSynchronized
  subst hsz
  have hD := hD0.self (sz := s.heap.size)
  generalize hAe : va_A (pre_X2_cost T a ex fi fl vi vl) s.heap.size = A at hD hQ
  have hA : ∀ q : Nat, s.heap.size ≤ q → A q := fun q h => by rw [← hAe]; exact Or.inr h
  have hS : va_S A s.heap s.heap [] := va_S.rf
  replace hP : va_P D vwCl [((a 0), .inr (2, [.ref (a 2), .int (vi 1), .int (vi 2), .int (vi 3), .int (vi 4), .int (vi 5), .int (vi 6), .ref (ex 0), .ref (ex 1), .ref (a 1), .ref (ex 2), .ref (ex 3), .ref (ex 4), .ref (ex 5), .ref (ex 6)])), ((a 1), .inl (T 1, 9, .inl (fi 0))), ((a 2), .inr (7, [.int (vi 7), .int (vi 8), .ref (ex 7), .ref (a 3), .ref (ex 8), .ref (ex 9), .ref (ex 10), .ref (ex 11), .ref (ex 12), .ref (ex 13), .ref (ex 14), .ref (ex 15)])), ((a 3), .inl (T 1, 9, .inl (fi 1)))] s.heap := hP
  replace hD : va_D A [((a 0), .inr (2, [.ref (a 2), .int (vi 1), .int (vi 2), .int (vi 3), .int (vi 4), .int (vi 5), .int (vi 6), .ref (ex 0), .ref (ex 1), .ref (a 1), .ref (ex 2), .ref (ex 3), .ref (ex 4), .ref (ex 5), .ref (ex 6)])), ((a 1), .inl (T 1, 9, .inl (fi 0))), ((a 2), .inr (7, [.int (vi 7), .int (vi 8), .ref (ex 7), .ref (a 3), .ref (ex 8), .ref (ex 9), .ref (ex 10), .ref (ex 11), .ref (ex 12), .ref (ex 13), .ref (ex 14), .ref (ex 15)])), ((a 3), .inl (T 1, 9, .inl (fi 1)))] := hD
  have hl := lv_entry ([.ref (a 0), .int (vi 0)]) (n := 2) (Nat.le_of_ble_eq_true rfl)
  rw [lg_entry_eq]
  generalize (lg_sl ([.ref (a 0), .int (vi 0)]) ++ List.replicate (2 - (lg_sl ([.ref (a 0), .int (vi 0)])).length) Slot.unset).toArray = ls at hl ⊢
  replace hl : lv_has ls 2 [(0, .ref (a 0)), (1, .int (vi 0))] := hl
  refine lv_aload_n hx hb dX2_cost_0 rfl (lv_at hl 0 rfl) ?_
  refine lv_iload_n hx hb dX2_cost_1 rfl (lv_at hl 1 rfl) ?_
  obtain ⟨hC9, hPc, hDc, hFc⟩ := xcut (wc := (pre_X2_hangedYet T (xa [(a 0), (a 1)]) (xa [(a 2), (ex 0), (ex 1), (ex 2), (ex 3), (ex 4), (ex 5), (ex 6)]) (xf [(fi 0)]) (xh []) (xv [(vi 0), (vi 1), (vi 2), (vi 3), (vi 4), (vi 5), (vi 6)]) (xl []))) hP hD hS hA [0, 1] (by decide) rfl
  refine va_calli (va_runV (As := [.int (vi 0)]) (rest := []) ⟨hx, hb, hml, hown, htg⟩ (c_X2_hangedYet l D T (xa [(a 0), (a 1)]) (xa [(a 2), (ex 0), (ex 1), (ex 2), (ex 3), (ex 4), (ex 5), (ex 6)]) (xf [(fi 0)]) (xh []) (xv [(vi 0), (vi 1), (vi 2), (vi 3), (vi 4), (vi 5), (vi 6)]) (xl []) s.heap.size hp0 hp1 hp2) ⟨callB_of 1 htg (xg_ok kw_751) rfl rfl rfl (htg _ kw_9) (htg _ kw_748) (by decide +kernel) ⟨by rw [hR]; exact Nat.le_of_ble_eq_true rfl, by rw [hR]; exact Nat.le_of_ble_eq_true rfl⟩, htg _ kw_750, htg _ ks_39⟩ (xpreV hK hPc hDc (va_recv hK.1 hPc (ci := 2) (q0 := 0) rfl rfl)) rfl rfl hl.1 rfl (lv_room (Nat.le_of_ble_eq_true rfl)) dX2_cost_2 ⟨by rw [hR]; exact Nat.le_of_ble_eq_true rfl, by rw [hR]; exact Nat.le_of_ble_eq_true rfl⟩) hS (fun q _ h => hFc q h) hFc (fun r9 u9 t H1 locs ht hvm hw hB hz1 hk1 hS => ?_)
  subst hw
  obtain ⟨fik, flk, vik, vlk, hP1, hD1, hG⟩ := hB
  rw [ht] at hP1
  obtain ⟨hP, hD⟩ := va_join (wr := [((a 2), .inr (7, [.int (vi 7), .int (vi 8), .ref (ex 7), .ref (a 3), .ref (ex 8), .ref (ex 9), .ref (ex 10), .ref (ex 11), .ref (ex 12), .ref (ex 13), .ref (ex 14), .ref (ex 15)])), ((a 3), .inl (T 1, 9, .inl (fi 1)))]) (w1 := [((a 0), .inr (2, [.ref (a 2), .int (vi 1), .int (vi 2), .int (vi 3), .int (vi 4), .int (vi 5), .int (vi 6), .ref (ex 0), .ref (ex 1), .ref (a 1), .ref (ex 2), .ref (ex 3), .ref (ex 4), .ref (ex 5), .ref (ex 6)])), ((a 1), .inl (T 1, 9, .inl (fi 0)))]) hP hD [0, 1] [2, 3] hC9 rfl (by decide) (by decide) hk1 hFc hP1 hD1
  obtain ⟨rk, er9⟩ : ∃ z, z = r9 := ⟨_, rfl⟩
  subst er9
  clear hPc hDc hFc hP1 hD1 hk1 hz1 hvm ht hC9
  generalize H1 = H at hP hS ⊢
  obtain ⟨hP, hD⟩ := (show xPD D A [((a 2), .inr (7, [.int (vi 7), .int (vi 8), .ref (ex 7), .ref (a 3), .ref (ex 8), .ref (ex 9), .ref (ex 10), .ref (ex 11), .ref (ex 12), .ref (ex 13), .ref (ex 14), .ref (ex 15)])), ((a 3), .inl (T 1, 9, .inl (fi 1))), ((a 0), .inr (2, [.ref (a 2), .int (vi 1), .int (vi 2), .int (vi 3), .int (vi 4), .int (vi 5), .int (vi 6), .ref (ex 0), .ref (ex 1), .ref (a 1), .ref (ex 2), .ref (ex 3), .ref (ex 4), .ref (ex 5), .ref (ex 6)])), ((a 1), .inl (T 1, 9, .inl (fi 0)))] H from ⟨hP, hD⟩)
  clear hG
  refine lv_if_le (tgt := 22) hx hb dX2_cost_5 (by decide) (fun c5 => ?_) (fun c5 => ?_)
  · have c5 := xle (k := 0) (by decide) c5
    refine lv_aload_n hx hb dX2_cost_22 rfl (lv_at hl 0 rfl) ?_
    refine va_get (D := D) (ci := 2) (v := .ref (a 2)) (C := RX2) (T := TX2) (N := 15) hx hb htg inX2 hown hK.1 hP 2 rfl rfl 0 (by decide) (htg _ kw_245) (fun _ h9 => h9) rfl dX2_cost_23 ?_
    refine va_getN (D := D) (ci := 7) (v := .ref (a 3)) (C := RX7) (T := TX7) (N := 12) hx hb htg inX7 hown hK.1 hP 0 rfl rfl 3 (by decide) (va_Nw.use rfl (hK.2.1 _ kn_173)) (fun _ h9 => h9) rfl dX2_cost_26 ?_
    refine lv_iload_n hx hb dX2_cost_29 rfl (lv_at hl 1 rfl) ?_
    refine va_iald hx hb hK.1 hP 1 1 rfl rfl (vp_in_iff.mpr (by omega)) dX2_cost_30 ?_
    have hP9 := hP.sub (ws' := [((a 0), .inr (2, [.ref (a 2), .int (vi 1), .int (vi 2), .int (vi 3), .int (vi 4), .int (vi 5), .int (vi 6), .ref (ex 0), .ref (ex 1), .ref (a 1), .ref (ex 2), .ref (ex 3), .ref (ex 4), .ref (ex 5), .ref (ex 6)])), ((a 1), .inl (T 1, 9, .inl (fi 0))), ((a 2), .inr (7, [.int (vi 7), .int (vi 8), .ref (ex 7), .ref (a 3), .ref (ex 8), .ref (ex 9), .ref (ex 10), .ref (ex 11), .ref (ex 12), .ref (ex 13), .ref (ex 14), .ref (ex 15)])), ((a 3), .inl (T 1, 9, .inl (fi 1)))]) [2, 3, 0, 1] rfl
    have hD9 := hD.sub (ws' := [((a 0), .inr (2, [.ref (a 2), .int (vi 1), .int (vi 2), .int (vi 3), .int (vi 4), .int (vi 5), .int (vi 6), .ref (ex 0), .ref (ex 1), .ref (a 1), .ref (ex 2), .ref (ex 3), .ref (ex 4), .ref (ex 5), .ref (ex 6)])), ((a 1), .inl (T 1, 9, .inl (fi 0))), ((a 2), .inr (7, [.int (vi 7), .int (vi 8), .ref (ex 7), .ref (a 3), .ref (ex 8), .ref (ex 9), .ref (ex 10), .ref (ex 11), .ref (ex 12), .ref (ex 13), .ref (ex 14), .ref (ex 15)])), ((a 3), .inl (T 1, 9, .inl (fi 1)))]) [2, 3, 0, 1] (by decide +kernel) rfl
    rw [hQ]
    exact W.iret (v := ((fi 1) (vi 0).toNatClampNeg)) hx hb hr (fun t ht hW => ⟨⟨((fi 1) (vi 0).toNatClampNeg), ((fi 1) (vi 0).toNatClampNeg), rfl, rfl, xf [], xh [], xv [], xl [], by rw [ht]; exact hP9, hD9, trivial⟩, hS.F ht⟩) hS.2.2 dX2_cost_31
  · have c5 := xnle (k := 0) (by decide) c5
    refine lv_aload_n hx hb dX2_cost_8 rfl (lv_at hl 0 rfl) ?_
    refine va_get (D := D) (ci := 2) (v := .ref (a 2)) (C := RX2) (T := TX2) (N := 15) hx hb htg inX2 hown hK.1 hP 2 rfl rfl 0 (by decide) (htg _ kw_245) (fun _ h9 => h9) rfl dX2_cost_9 ?_
    refine va_getN (D := D) (ci := 7) (v := .ref (a 3)) (C := RX7) (T := TX7) (N := 12) hx hb htg inX7 hown hK.1 hP 0 rfl rfl 3 (by decide) (va_Nw.use rfl (hK.2.1 _ kn_173)) (fun _ h9 => h9) rfl dX2_cost_12 ?_
    refine lv_iload_n hx hb dX2_cost_15 rfl (lv_at hl 1 rfl) ?_
    refine va_iald hx hb hK.1 hP 1 1 rfl rfl (vp_in_iff.mpr (by omega)) dX2_cost_16 ?_
    refine lv_iconst (v := 2) hx hb dX2_cost_17 (by decide) ?_
    refine lv_idiv hx hb dX2_cost_18 (by decide) ?_
    refine lv_topi (fun z18 ez18 => ?_)
    refine lv_goto (tgt := 31) hx hb dX2_cost_19 (by decide) ?_
    have hP9 := hP.sub (ws' := [((a 0), .inr (2, [.ref (a 2), .int (vi 1), .int (vi 2), .int (vi 3), .int (vi 4), .int (vi 5), .int (vi 6), .ref (ex 0), .ref (ex 1), .ref (a 1), .ref (ex 2), .ref (ex 3), .ref (ex 4), .ref (ex 5), .ref (ex 6)])), ((a 1), .inl (T 1, 9, .inl (fi 0))), ((a 2), .inr (7, [.int (vi 7), .int (vi 8), .ref (ex 7), .ref (a 3), .ref (ex 8), .ref (ex 9), .ref (ex 10), .ref (ex 11), .ref (ex 12), .ref (ex 13), .ref (ex 14), .ref (ex 15)])), ((a 3), .inl (T 1, 9, .inl (fi 1)))]) [2, 3, 0, 1] rfl
    have hD9 := hD.sub (ws' := [((a 0), .inr (2, [.ref (a 2), .int (vi 1), .int (vi 2), .int (vi 3), .int (vi 4), .int (vi 5), .int (vi 6), .ref (ex 0), .ref (ex 1), .ref (a 1), .ref (ex 2), .ref (ex 3), .ref (ex 4), .ref (ex 5), .ref (ex 6)])), ((a 1), .inl (T 1, 9, .inl (fi 0))), ((a 2), .inr (7, [.int (vi 7), .int (vi 8), .ref (ex 7), .ref (a 3), .ref (ex 8), .ref (ex 9), .ref (ex 10), .ref (ex 11), .ref (ex 12), .ref (ex 13), .ref (ex 14), .ref (ex 15)])), ((a 3), .inl (T 1, 9, .inl (fi 1)))]) [2, 3, 0, 1] (by decide +kernel) rfl
    rw [hQ]
    exact W.iret (v := z18) hx hb hr (fun t ht hW => ⟨⟨z18, z18, rfl, rfl, xf [], xh [], xv [], xl [], by rw [ht]; exact hP9, hD9, trivial⟩, hS.F ht⟩) hS.2.2 dX2_cost_31
abbrev pre_X11_hasBit (T : Nat → ClassId) (a ex : Nat → Nat) (fi : Nat → Nat → Int32) (fl : Nat → Nat → Int64) (vi : Nat → Int32) (vl : Nat → Int64) : va_W := []
set_option maxHeartbeats 8000000 in
set_option maxRecDepth 100000 in
theorem c_X11_hasBit (l : Launch) (D : va_G) (T : Nat → ClassId) (a ex : Nat → Nat) (fi : Nat → Nat → Int32) (fl : Nat → Nat → Int64) (vi : Nat → Int32) (vl : Nat → Int64) (sz : Nat) : Met l yX11_hasBit (xw yX11_hasBit cX11_hasBit 2 (some .boolean)) ({ frames := 0, cells := 0, slots := 0, locals := 0 }) (xP D T [.int (vi 0), .int (vi 1)] sz (pre_X11_hasBit T a ex fi fl vi vl)) (va_Qi (fun r u => r = u) (xC D (va_A (pre_X11_hasBit T a ex fi fl vi vl) sz) (fun fj fm vj vm => []) (fun (r : Int32) (fj : Nat → Nat → Int32) (fm : Nat → Nat → Int64) (vj : Nat → Int32) (vm : Nat → Int64) => ((r = 1 ∧ (True)) ∨ (r = 0 ∧ (True))) ∧ True)) (va_A (pre_X11_hasBit T a ex fi fl vi vl) sz)) 0 0 (va_A (pre_X11_hasBit T a ex fi fl vi vl) sz) := by
  refine xofW (cc := cX11_hasBit) (maxL := 2) (ret := (some .boolean)) (by decide) rfl ?_
  intro p e s m args below meth c s₁ R Q hR hQ B hml hv
  obtain ⟨rfl, hsz, hP, hK, hD0⟩ := hv
  have hx := B.exec
  have hb := B.bytes
  have hr := B.returns
  have hts := atoms_spec (ws := xw yX11_hasBit cX11_hasBit 2 (some .boolean)) B.pre
  have htg : ∀ w ∈ xg, w.before _ s = true := fun w h => hts w (List.mem_cons_of_mem _ h)
  have hown : s.vm.findClass RX11 = some m.cls := findClass_of_methodNamed B.named
  have hlocks := B.notSynchronized
  subst hsz
  have hD := hD0.self (sz := s.heap.size)
  generalize hAe : va_A (pre_X11_hasBit T a ex fi fl vi vl) s.heap.size = A at hD hQ
  have hA : ∀ q : Nat, s.heap.size ≤ q → A q := fun q h => by rw [← hAe]; exact Or.inr h
  have hS : va_S A s.heap s.heap [] := va_S.rf
  replace hP : va_P D vwCl [] s.heap := hP
  replace hD : va_D A [] := hD
  have hl := lv_entry ([.int (vi 0), .int (vi 1)]) (n := 2) (Nat.le_of_ble_eq_true rfl)
  rw [lg_entry_eq]
  generalize (lg_sl ([.int (vi 0), .int (vi 1)]) ++ List.replicate (2 - (lg_sl ([.int (vi 0), .int (vi 1)])).length) Slot.unset).toArray = ls at hl ⊢
  replace hl : lv_has ls 2 [(0, .int (vi 0)), (1, .int (vi 1))] := hl
  refine lv_iload_n hx hb dX11_hasBit_0 rfl (lv_at hl 0 rfl) ?_
  refine lv_iload_n hx hb dX11_hasBit_1 rfl (lv_at hl 1 rfl) ?_
  refine lv_ishr hx hb dX11_hasBit_2 ?_
  refine lv_topi (fun z2 ez2 => ?_)
  refine lv_iconst (v := 1) hx hb dX11_hasBit_3 (by decide) ?_
  refine lv_iand hx hb dX11_hasBit_4 ?_
  refine lv_topi (fun z4 ez4 => ?_)
  have tz4 : 0 ≤ z4.toInt ∧ z4.toInt ≤ 1 := by rw [ez4]; exact xand1 _
  refine lv_iconst (v := 1) hx hb dX11_hasBit_5 (by decide) ?_
  refine lv_icmp_ne (tgt := 13) hx hb dX11_hasBit_6 (by decide) (fun c6 => ?_) (fun c6 => ?_)
  · have c6 := xne (k := 1) (by decide) c6
    refine lv_iconst (v := 0) hx hb dX11_hasBit_13 (by decide) ?_
    have hP9 := hP.sub (ws' := []) [] rfl
    have hD9 := hD.sub (ws' := []) [] (by decide +kernel) rfl
    rw [hQ]
    exact W.zret (v := 0) hx hb hr rfl (fun t ht hW => ⟨⟨0, 0, rfl, rfl, xf [], xh [], xv [], xl [], by rw [ht]; exact hP9, hD9, ⟨(Or.inr ⟨rfl, by show True; first | trivial | omega | assumption⟩), trivial⟩⟩, hS.F ht⟩) hS.2.2 dX11_hasBit_14
  · have c6 := xeq (k := 1) (by decide) c6
    refine lv_iconst (v := 1) hx hb dX11_hasBit_9 (by decide) ?_
    refine lv_goto (tgt := 14) hx hb dX11_hasBit_10 (by decide) ?_
    have hP9 := hP.sub (ws' := []) [] rfl
    have hD9 := hD.sub (ws' := []) [] (by decide +kernel) rfl
    rw [hQ]
    exact W.zret (v := 1) hx hb hr rfl (fun t ht hW => ⟨⟨1, 1, rfl, rfl, xf [], xh [], xv [], xl [], by rw [ht]; exact hP9, hD9, ⟨(Or.inl ⟨rfl, by show True; first | trivial | omega | assumption⟩), trivial⟩⟩, hS.F ht⟩) hS.2.2 dX11_hasBit_14
abbrev pre_X2_isSour (T : Nat → ClassId) (a ex : Nat → Nat) (fi : Nat → Nat → Int32) (fl : Nat → Nat → Int64) (vi : Nat → Int32) (vl : Nat → Int64) : va_W := [((a 0), .inr (2, [.ref (ex 0), .int (vi 1), .int (vi 2), .int (vi 3), .int (vi 4), .int (vi 5), .int (vi 6), .ref (ex 1), .ref (ex 2), .ref (ex 3), .ref (ex 4), .ref (ex 5), .ref (ex 6), .ref (ex 7), .ref (ex 8)]))]
set_option maxHeartbeats 8000000 in
set_option maxRecDepth 100000 in
theorem c_X2_isSour (l : Launch) (D : va_G) (T : Nat → ClassId) (a ex : Nat → Nat) (fi : Nat → Nat → Int32) (fl : Nat → Nat → Int64) (vi : Nat → Int32) (vl : Nat → Int64) (sz : Nat) (hp0 : 0 ≤ (vi 1).toInt ∧ (vi 1).toInt ≤ 200) (hp1 : 0 ≤ (vi 6).toInt ∧ (vi 6).toInt ≤ 9) : Met l yX2_isSour (xw yX2_isSour cX2_isSour 2 (some .boolean)) ({ frames := 1, cells := 0, slots := 0, locals := 25 }) (xP D T [.ref (a 0), .int (vi 0)] sz (pre_X2_isSour T a ex fi fl vi vl)) (va_Qi (fun r u => r = u) (xC D (va_A (pre_X2_isSour T a ex fi fl vi vl) sz) (fun fj fm vj vm => [((a 0), .inr (2, [.ref (ex 0), .int (vi 1), .int (vi 2), .int (vi 3), .int (vi 4), .int (vi 5), .int (vi 6), .ref (ex 1), .ref (ex 2), .ref (ex 3), .ref (ex 4), .ref (ex 5), .ref (ex 6), .ref (ex 7), .ref (ex 8)]))]) (fun (r : Int32) (fj : Nat → Nat → Int32) (fm : Nat → Nat → Int64) (vj : Nat → Int32) (vm : Nat → Int64) => ((r = 1 ∧ (True)) ∨ (r = 0 ∧ (True))) ∧ True)) (va_A (pre_X2_isSour T a ex fi fl vi vl) sz)) 0 0 (va_A (pre_X2_isSour T a ex fi fl vi vl) sz) := by
  refine xofW (cc := cX2_isSour) (maxL := 2) (ret := (some .boolean)) (by decide) rfl ?_
  intro p e s m args below meth c s₁ R Q hR hQ B hml hv
  obtain ⟨rfl, hsz, hP, hK, hD0⟩ := hv
  have hx := B.exec
  have hb := B.bytes
  have hr := B.returns
  have hts := atoms_spec (ws := xw yX2_isSour cX2_isSour 2 (some .boolean)) B.pre
  have htg : ∀ w ∈ xg, w.before _ s = true := fun w h => hts w (List.mem_cons_of_mem _ h)
  have hown : s.vm.findClass RX2 = some m.cls := findClass_of_methodNamed B.named
  have hlocks := B.notSynchronized
  subst hsz
  have hD := hD0.self (sz := s.heap.size)
  generalize hAe : va_A (pre_X2_isSour T a ex fi fl vi vl) s.heap.size = A at hD hQ
  have hA : ∀ q : Nat, s.heap.size ≤ q → A q := fun q h => by rw [← hAe]; exact Or.inr h
  have hS : va_S A s.heap s.heap [] := va_S.rf
  replace hP : va_P D vwCl [((a 0), .inr (2, [.ref (ex 0), .int (vi 1), .int (vi 2), .int (vi 3), .int (vi 4), .int (vi 5), .int (vi 6), .ref (ex 1), .ref (ex 2), .ref (ex 3), .ref (ex 4), .ref (ex 5), .ref (ex 6), .ref (ex 7), .ref (ex 8)]))] s.heap := hP
  replace hD : va_D A [((a 0), .inr (2, [.ref (ex 0), .int (vi 1), .int (vi 2), .int (vi 3), .int (vi 4), .int (vi 5), .int (vi 6), .ref (ex 1), .ref (ex 2), .ref (ex 3), .ref (ex 4), .ref (ex 5), .ref (ex 6), .ref (ex 7), .ref (ex 8)]))] := hD
  have hl := lv_entry ([.ref (a 0), .int (vi 0)]) (n := 2) (Nat.le_of_ble_eq_true rfl)
  rw [lg_entry_eq]
  generalize (lg_sl ([.ref (a 0), .int (vi 0)]) ++ List.replicate (2 - (lg_sl ([.ref (a 0), .int (vi 0)])).length) Slot.unset).toArray = ls at hl ⊢
  replace hl : lv_has ls 2 [(0, .ref (a 0)), (1, .int (vi 0))] := hl
  refine lv_aload_n hx hb dX2_isSour_0 rfl (lv_at hl 0 rfl) ?_
  refine va_get (D := D) (ci := 2) (v := .int (vi 5)) (C := RX2) (T := TX2) (N := 15) hx hb htg inX2 hown hK.1 hP 0 rfl rfl 5 (by decide) (htg _ kw_255) (fun _ h9 => h9) rfl dX2_isSour_1 ?_
  refine lv_iload_n hx hb dX2_isSour_4 rfl (lv_at hl 1 rfl) ?_
  obtain ⟨hC9, hPc, hDc, hFc⟩ := xcut (wc := (pre_X11_hasBit T (xa []) (xa []) (xf []) (xh []) (xv [(vi 5), (vi 0)]) (xl []))) hP hD hS hA [] (by decide) rfl
  refine va_calli (va_runSN (As := [.int (vi 5), .int (vi 0)]) (rest := []) ⟨hx, hb, hml, hown, htg⟩ (c_X11_hasBit l D T (xa []) (xa []) (xf []) (xh []) (xv [(vi 5), (vi 0)]) (xl []) s.heap.size) ⟨va_cnB 2 htg (xg_ok kw_758) rfl rfl rfl (hK.2.1 _ kn_756) (htg _ kw_1) (by decide +kernel) ⟨by rw [hR]; exact Nat.le_of_ble_eq_true rfl, by rw [hR]; exact Nat.le_of_ble_eq_true rfl⟩, htg _ kw_757, trivial⟩ (xpreS hK hPc hDc) rfl rfl hl.1 rfl (lv_room (Nat.le_of_ble_eq_true rfl)) dX2_isSour_5 ⟨by rw [hR]; exact Nat.le_of_ble_eq_true rfl, by rw [hR]; exact Nat.le_of_ble_eq_true rfl⟩) hS (fun q _ h => hFc q h) hFc (fun r9 u9 t H1 locs ht hvm hw hB hz1 hk1 hS => ?_)
  subst hw
  obtain ⟨fik, flk, vik, vlk, hP1, hD1, hG⟩ := hB
  rw [ht] at hP1
  obtain ⟨hP, hD⟩ := va_join (wr := [((a 0), .inr (2, [.ref (ex 0), .int (vi 1), .int (vi 2), .int (vi 3), .int (vi 4), .int (vi 5), .int (vi 6), .ref (ex 1), .ref (ex 2), .ref (ex 3), .ref (ex 4), .ref (ex 5), .ref (ex 6), .ref (ex 7), .ref (ex 8)]))]) (w1 := []) hP hD [] [0] hC9 rfl (by decide) (by decide) hk1 hFc hP1 hD1
  obtain ⟨rk, er9⟩ : ∃ z, z = r9 := ⟨_, rfl⟩
  subst er9
  clear hPc hDc hFc hP1 hD1 hk1 hz1 hvm ht hC9
  generalize H1 = H at hP hS ⊢
  obtain ⟨hP, hD⟩ := (show xPD D A [((a 0), .inr (2, [.ref (ex 0), .int (vi 1), .int (vi 2), .int (vi 3), .int (vi 4), .int (vi 5), .int (vi 6), .ref (ex 1), .ref (ex 2), .ref (ex 3), .ref (ex 4), .ref (ex 5), .ref (ex 6), .ref (ex 7), .ref (ex 8)]))] H from ⟨hP, hD⟩)
  obtain ⟨gk_0, -⟩ := hG
  rcases (show (rk = 1 ∧ (True)) ∨ (rk = 0 ∧ (True)) from gk_0) with ⟨er9, gk_0⟩ | ⟨er9, gk_0⟩
  · refine xz_i 1 er9 ?_
    have hP9 := hP.sub (ws' := [((a 0), .inr (2, [.ref (ex 0), .int (vi 1), .int (vi 2), .int (vi 3), .int (vi 4), .int (vi 5), .int (vi 6), .ref (ex 1), .ref (ex 2), .ref (ex 3), .ref (ex 4), .ref (ex 5), .ref (ex 6), .ref (ex 7), .ref (ex 8)]))]) [0] rfl
    have hD9 := hD.sub (ws' := [((a 0), .inr (2, [.ref (ex 0), .int (vi 1), .int (vi 2), .int (vi 3), .int (vi 4), .int (vi 5), .int (vi 6), .ref (ex 1), .ref (ex 2), .ref (ex 3), .ref (ex 4), .ref (ex 5), .ref (ex 6), .ref (ex 7), .ref (ex 8)]))]) [0] (by decide +kernel) rfl
    rw [hQ]
    exact W.zret (v := 1) hx hb hr rfl (fun t ht hW => ⟨⟨1, 1, rfl, rfl, xf [], xh [], xv [], xl [], by rw [ht]; exact hP9, hD9, ⟨(Or.inl ⟨rfl, by show True; first | trivial | omega | assumption⟩), trivial⟩⟩, hS.F ht⟩) hS.2.2 dX2_isSour_8
  · refine xz_i 0 er9 ?_
    have hP9 := hP.sub (ws' := [((a 0), .inr (2, [.ref (ex 0), .int (vi 1), .int (vi 2), .int (vi 3), .int (vi 4), .int (vi 5), .int (vi 6), .ref (ex 1), .ref (ex 2), .ref (ex 3), .ref (ex 4), .ref (ex 5), .ref (ex 6), .ref (ex 7), .ref (ex 8)]))]) [0] rfl
    have hD9 := hD.sub (ws' := [((a 0), .inr (2, [.ref (ex 0), .int (vi 1), .int (vi 2), .int (vi 3), .int (vi 4), .int (vi 5), .int (vi 6), .ref (ex 1), .ref (ex 2), .ref (ex 3), .ref (ex 4), .ref (ex 5), .ref (ex 6), .ref (ex 7), .ref (ex 8)]))]) [0] (by decide +kernel) rfl
    rw [hQ]
    exact W.zret (v := 0) hx hb hr rfl (fun t ht hW => ⟨⟨0, 0, rfl, rfl, xf [], xh [], xv [], xl [], by rw [ht]; exact hP9, hD9, ⟨(Or.inr ⟨rfl, by show True; first | trivial | omega | assumption⟩), trivial⟩⟩, hS.F ht⟩) hS.2.2 dX2_isSour_8
abbrev pre_X11_name (T : Nat → ClassId) (a ex : Nat → Nat) (fi : Nat → Nat → Int32) (fl : Nat → Nat → Int64) (vi : Nat → Int32) (vl : Nat → Int64) : va_W := [((a 0), .inr (11, [.ref (ex 0), .ref (a 1), .ref (ex 1), .ref (ex 2), .ref (a 3), .ref (ex 3), .ref (ex 4), .ref (ex 5), .ref (ex 6), .ref (ex 7), .ref (ex 8), .ref (ex 9), .ref (ex 10), .ref (ex 11), .int (vi 2)])), ((a 1), .inr (7, [.int (vi 3), .int (vi 4), .ref (ex 12), .ref (a 2), .ref (ex 13), .ref (a 7), .ref (ex 14), .ref (ex 15), .ref (ex 16), .ref (ex 17), .ref (ex 18), .ref (ex 19)])), ((a 2), .inl (T 1, 9, .inl (fi 0))), ((a 3), .inr (2, [.ref (a 1), .int (vi 5), .int (vi 6), .int (vi 7), .int (vi 8), .int (vi 9), .int (vi 10), .ref (a 6), .ref (a 5), .ref (a 4), .ref (ex 20), .ref (ex 21), .ref (ex 22), .ref (ex 23), .ref (ex 24)])), ((a 4), .inl (T 1, 9, .inl (fi 1))), ((a 5), .inl (T 1, 9, .inl (fi 2))), ((a 6), .inl (T 1, 9, .inl (fi 3))), ((a 7), .inl (T 1, 9, .inl (fi 4)))]
set_option maxHeartbeats 8000000 in
set_option maxRecDepth 100000 in
theorem c_X11_name (l : Launch) (D : va_G) (T : Nat → ClassId) (a ex : Nat → Nat) (fi : Nat → Nat → Int32) (fl : Nat → Nat → Int64) (vi : Nat → Int32) (vl : Nat → Int64) (sz : Nat) (hp0 : 0 ≤ (vi 3).toInt ∧ (vi 3).toInt ≤ 9) (hp1 : 0 ≤ (vi 4).toInt ∧ (vi 4).toInt ≤ 9) (hp2 : 0 ≤ (vi 5).toInt ∧ (vi 5).toInt ≤ 200) (hp3 : 0 ≤ (vi 10).toInt ∧ (vi 10).toInt ≤ 9) (hp4 : rg (fi 3) 0 9 (-1) 8) : Met l yX11_name (xw yX11_name cX11_name 3 (some .int)) ({ frames := 2, cells := 0, slots := 0, locals := 50 }) (xP D T [.ref (a 0), .int (vi 0), .int (vi 1)] sz (pre_X11_name T a ex fi fl vi vl)) (va_Qi (fun r u => r = u) (xC D (va_A (pre_X11_name T a ex fi fl vi vl) sz) (fun fj fm vj vm => [((a 0), .inr (11, [.ref (ex 0), .ref (a 1), .ref (ex 1), .ref (ex 2), .ref (a 3), .ref (ex 3), .ref (ex 4), .ref (ex 5), .ref (ex 6), .ref (ex 7), .ref (ex 8), .ref (ex 9), .ref (ex 10), .ref (ex 11), .int (vi 2)])), ((a 1), .inr (7, [.int (vi 3), .int (vi 4), .ref (ex 12), .ref (a 2), .ref (ex 13), .ref (a 7), .ref (ex 14), .ref (ex 15), .ref (ex 16), .ref (ex 17), .ref (ex 18), .ref (ex 19)])), ((a 2), .inl (T 1, 9, .inl (fi 0))), ((a 3), .inr (2, [.ref (a 1), .int (vi 5), .int (vi 6), .int (vi 7), .int (vi 8), .int (vi 9), .int (vi 10), .ref (a 6), .ref (a 5), .ref (a 4), .ref (ex 20), .ref (ex 21), .ref (ex 22), .ref (ex 23), .ref (ex 24)])), ((a 4), .inl (T 1, 9, .inl (fi 1))), ((a 5), .inl (T 1, 9, .inl (fi 2))), ((a 6), .inl (T 1, 9, .inl (fi 3))), ((a 7), .inl (T 1, 9, .inl (fi 4)))]) (fun (r : Int32) (fj : Nat → Nat → Int32) (fm : Nat → Nat → Int64) (vj : Nat → Int32) (vm : Nat → Int64) => True)) (va_A (pre_X11_name T a ex fi fl vi vl) sz)) 0 0 (va_A (pre_X11_name T a ex fi fl vi vl) sz) := by
  refine xofW (cc := cX11_name) (maxL := 3) (ret := (some .int)) (by decide) rfl ?_
  intro p e s m args below meth c s₁ R Q hR hQ B hml hv
  obtain ⟨rfl, hsz, hP, hK, hD0⟩ := hv
  have hx := B.exec
  have hb := B.bytes
  have hr := B.returns
  have hts := atoms_spec (ws := xw yX11_name cX11_name 3 (some .int)) B.pre
  have htg : ∀ w ∈ xg, w.before _ s = true := fun w h => hts w (List.mem_cons_of_mem _ h)
  have hown : s.vm.findClass RX11 = some m.cls := findClass_of_methodNamed B.named
  have hlocks := B.notSynchronized
  subst hsz
  have hD := hD0.self (sz := s.heap.size)
  generalize hAe : va_A (pre_X11_name T a ex fi fl vi vl) s.heap.size = A at hD hQ
  have hA : ∀ q : Nat, s.heap.size ≤ q → A q := fun q h => by rw [← hAe]; exact Or.inr h
  have hS : va_S A s.heap s.heap [] := va_S.rf
  replace hP : va_P D vwCl [((a 0), .inr (11, [.ref (ex 0), .ref (a 1), .ref (ex 1), .ref (ex 2), .ref (a 3), .ref (ex 3), .ref (ex 4), .ref (ex 5), .ref (ex 6), .ref (ex 7), .ref (ex 8), .ref (ex 9), .ref (ex 10), .ref (ex 11), .int (vi 2)])), ((a 1), .inr (7, [.int (vi 3), .int (vi 4), .ref (ex 12), .ref (a 2), .ref (ex 13), .ref (a 7), .ref (ex 14), .ref (ex 15), .ref (ex 16), .ref (ex 17), .ref (ex 18), .ref (ex 19)])), ((a 2), .inl (T 1, 9, .inl (fi 0))), ((a 3), .inr (2, [.ref (a 1), .int (vi 5), .int (vi 6), .int (vi 7), .int (vi 8), .int (vi 9), .int (vi 10), .ref (a 6), .ref (a 5), .ref (a 4), .ref (ex 20), .ref (ex 21), .ref (ex 22), .ref (ex 23), .ref (ex 24)])), ((a 4), .inl (T 1, 9, .inl (fi 1))), ((a 5), .inl (T 1, 9, .inl (fi 2))), ((a 6), .inl (T 1, 9, .inl (fi 3))), ((a 7), .inl (T 1, 9, .inl (fi 4)))] s.heap := hP
  replace hD : va_D A [((a 0), .inr (11, [.ref (ex 0), .ref (a 1), .ref (ex 1), .ref (ex 2), .ref (a 3), .ref (ex 3), .ref (ex 4), .ref (ex 5), .ref (ex 6), .ref (ex 7), .ref (ex 8), .ref (ex 9), .ref (ex 10), .ref (ex 11), .int (vi 2)])), ((a 1), .inr (7, [.int (vi 3), .int (vi 4), .ref (ex 12), .ref (a 2), .ref (ex 13), .ref (a 7), .ref (ex 14), .ref (ex 15), .ref (ex 16), .ref (ex 17), .ref (ex 18), .ref (ex 19)])), ((a 2), .inl (T 1, 9, .inl (fi 0))), ((a 3), .inr (2, [.ref (a 1), .int (vi 5), .int (vi 6), .int (vi 7), .int (vi 8), .int (vi 9), .int (vi 10), .ref (a 6), .ref (a 5), .ref (a 4), .ref (ex 20), .ref (ex 21), .ref (ex 22), .ref (ex 23), .ref (ex 24)])), ((a 4), .inl (T 1, 9, .inl (fi 1))), ((a 5), .inl (T 1, 9, .inl (fi 2))), ((a 6), .inl (T 1, 9, .inl (fi 3))), ((a 7), .inl (T 1, 9, .inl (fi 4)))] := hD
  have hl := lv_entry ([.ref (a 0), .int (vi 0), .int (vi 1)]) (n := 3) (Nat.le_of_ble_eq_true rfl)
  rw [lg_entry_eq]
  generalize (lg_sl ([.ref (a 0), .int (vi 0), .int (vi 1)]) ++ List.replicate (3 - (lg_sl ([.ref (a 0), .int (vi 0), .int (vi 1)])).length) Slot.unset).toArray = ls at hl ⊢
  replace hl : lv_has ls 3 [(0, .ref (a 0)), (1, .int (vi 0)), (2, .int (vi 1))] := hl
  refine lv_aload_n hx hb dX11_name_0 rfl (lv_at hl 0 rfl) ?_
  refine va_get (D := D) (ci := 11) (v := .ref (a 1)) (C := RX11) (T := TX11) (N := 15) hx hb htg inX11 hown hK.1 hP 0 rfl rfl 1 (by decide) (htg _ kw_497) (fun _ h9 => h9) rfl dX11_name_1 ?_
  refine lv_iload_n hx hb dX11_name_4 rfl (lv_at hl 1 rfl) ?_
  obtain ⟨hC9, hPc, hDc, hFc⟩ := xcut (wc := (pre_X7_isName T (xa [(a 1)]) (xa [(ex 12), (a 2), (ex 13), (a 7), (ex 14), (ex 15), (ex 16), (ex 17), (ex 18), (ex 19)]) (xf []) (xh []) (xv [(vi 0), (vi 3), (vi 4)]) (xl []))) hP hD hS hA [1] (by decide) rfl
  refine va_calli (va_runVN (As := [.int (vi 0)]) (rest := []) ⟨hx, hb, hml, hown, htg⟩ (c_X7_isName l D T (xa [(a 1)]) (xa [(ex 12), (a 2), (ex 13), (a 7), (ex 14), (ex 15), (ex 16), (ex 17), (ex 18), (ex 19)]) (xf []) (xh []) (xv [(vi 0), (vi 3), (vi 4)]) (xl []) s.heap.size hp0 hp1) ⟨va_cnB 1 htg (xg_ok kw_683) rfl rfl rfl (hK.2.1 _ kn_743) (htg _ kw_7) (by decide +kernel) ⟨by rw [hR]; exact Nat.le_of_ble_eq_true rfl, by rw [hR]; exact Nat.le_of_ble_eq_true rfl⟩, htg _ kw_682, htg _ ks_29⟩ (xpreV hK hPc hDc (va_recv hK.1 hPc (ci := 7) (q0 := 0) rfl rfl)) rfl rfl hl.1 rfl (lv_room (Nat.le_of_ble_eq_true rfl)) dX11_name_5 ⟨by rw [hR]; exact Nat.le_of_ble_eq_true rfl, by rw [hR]; exact Nat.le_of_ble_eq_true rfl⟩) hS (fun q _ h => hFc q h) hFc (fun r9 u9 t H1 locs ht hvm hw hB hz1 hk1 hS => ?_)
  subst hw
  obtain ⟨fik, flk, vik, vlk, hP1, hD1, hG⟩ := hB
  rw [ht] at hP1
  obtain ⟨hP, hD⟩ := va_join (wr := [((a 0), .inr (11, [.ref (ex 0), .ref (a 1), .ref (ex 1), .ref (ex 2), .ref (a 3), .ref (ex 3), .ref (ex 4), .ref (ex 5), .ref (ex 6), .ref (ex 7), .ref (ex 8), .ref (ex 9), .ref (ex 10), .ref (ex 11), .int (vi 2)])), ((a 2), .inl (T 1, 9, .inl (fi 0))), ((a 3), .inr (2, [.ref (a 1), .int (vi 5), .int (vi 6), .int (vi 7), .int (vi 8), .int (vi 9), .int (vi 10), .ref (a 6), .ref (a 5), .ref (a 4), .ref (ex 20), .ref (ex 21), .ref (ex 22), .ref (ex 23), .ref (ex 24)])), ((a 4), .inl (T 1, 9, .inl (fi 1))), ((a 5), .inl (T 1, 9, .inl (fi 2))), ((a 6), .inl (T 1, 9, .inl (fi 3))), ((a 7), .inl (T 1, 9, .inl (fi 4)))]) (w1 := [((a 1), .inr (7, [.int (vi 3), .int (vi 4), .ref (ex 12), .ref (a 2), .ref (ex 13), .ref (a 7), .ref (ex 14), .ref (ex 15), .ref (ex 16), .ref (ex 17), .ref (ex 18), .ref (ex 19)]))]) hP hD [1] [0, 2, 3, 4, 5, 6, 7] hC9 rfl (by decide) (by decide) hk1 hFc hP1 hD1
  obtain ⟨rk, er9⟩ : ∃ z, z = r9 := ⟨_, rfl⟩
  subst er9
  clear hPc hDc hFc hP1 hD1 hk1 hz1 hvm ht hC9
  generalize H1 = H at hP hS ⊢
  obtain ⟨hP, hD⟩ := (show xPD D A [((a 0), .inr (11, [.ref (ex 0), .ref (a 1), .ref (ex 1), .ref (ex 2), .ref (a 3), .ref (ex 3), .ref (ex 4), .ref (ex 5), .ref (ex 6), .ref (ex 7), .ref (ex 8), .ref (ex 9), .ref (ex 10), .ref (ex 11), .int (vi 2)])), ((a 2), .inl (T 1, 9, .inl (fi 0))), ((a 3), .inr (2, [.ref (a 1), .int (vi 5), .int (vi 6), .int (vi 7), .int (vi 8), .int (vi 9), .int (vi 10), .ref (a 6), .ref (a 5), .ref (a 4), .ref (ex 20), .ref (ex 21), .ref (ex 22), .ref (ex 23), .ref (ex 24)])), ((a 4), .inl (T 1, 9, .inl (fi 1))), ((a 5), .inl (T 1, 9, .inl (fi 2))), ((a 6), .inl (T 1, 9, .inl (fi 3))), ((a 7), .inl (T 1, 9, .inl (fi 4))), ((a 1), .inr (7, [.int (vi 3), .int (vi 4), .ref (ex 12), .ref (a 2), .ref (ex 13), .ref (a 7), .ref (ex 14), .ref (ex 15), .ref (ex 16), .ref (ex 17), .ref (ex 18), .ref (ex 19)]))] H from ⟨hP, hD⟩)
  obtain ⟨gk_0, -⟩ := hG
  rcases (show (rk = 1 ∧ (0 ≤ (vi 0).toInt ∧ (vi 0).toInt < (vi 3).toInt)) ∨ (rk = 0 ∧ (¬ (0 ≤ (vi 0).toInt ∧ (vi 0).toInt < (vi 3).toInt))) from gk_0) with ⟨er9, gk_0⟩ | ⟨er9, gk_0⟩
  · refine xz_i 1 er9 ?_
    refine lv_if_ne (tgt := 13) hx hb dX11_name_8 (by decide) (fun _ => ?_) (fun c => absurd c (by decide))
    refine lv_iload_n hx hb dX11_name_13 rfl (lv_at hl 2 rfl) ?_
    rcases (show (vi 1).toInt = 0 ∨ (vi 1).toInt = 1 ∨ (vi 1).toInt = 2 ∨ (vi 1).toInt = 3 ∨ (vi 1).toInt = 4 ∨ (vi 1).toInt = 5 ∨ (vi 1).toInt = 6 ∨ ((vi 1).toInt < 0 ∨ 6 < (vi 1).toInt) by omega) with sw | sw | sw | sw | sw | sw | sw | sw
    · refine lv_tableIn (off := 42) (tgt := 56) hx hb dX11_name_14 (by omega) (by omega) (by rw [sw]; decide) (by decide) ?_
      refine lv_aload_n hx hb dX11_name_56 rfl (lv_at hl 0 rfl) ?_
      refine va_get (D := D) (ci := 11) (v := .ref (a 1)) (C := RX11) (T := TX11) (N := 15) hx hb htg inX11 hown hK.1 hP 0 rfl rfl 1 (by decide) (htg _ kw_497) (fun _ h9 => h9) rfl dX11_name_57 ?_
      refine va_getN (D := D) (ci := 7) (v := .ref (a 2)) (C := RX7) (T := TX7) (N := 12) hx hb htg inX7 hown hK.1 hP 7 rfl rfl 3 (by decide) (va_Nw.use rfl (hK.2.1 _ kn_172)) (fun _ h9 => h9) rfl dX11_name_60 ?_
      refine lv_iload_n hx hb dX11_name_63 rfl (lv_at hl 1 rfl) ?_
      refine va_iald hx hb hK.1 hP 1 1 rfl rfl (vp_in_iff.mpr (by omega)) dX11_name_64 ?_
      have hP9 := hP.sub (ws' := [((a 0), .inr (11, [.ref (ex 0), .ref (a 1), .ref (ex 1), .ref (ex 2), .ref (a 3), .ref (ex 3), .ref (ex 4), .ref (ex 5), .ref (ex 6), .ref (ex 7), .ref (ex 8), .ref (ex 9), .ref (ex 10), .ref (ex 11), .int (vi 2)])), ((a 1), .inr (7, [.int (vi 3), .int (vi 4), .ref (ex 12), .ref (a 2), .ref (ex 13), .ref (a 7), .ref (ex 14), .ref (ex 15), .ref (ex 16), .ref (ex 17), .ref (ex 18), .ref (ex 19)])), ((a 2), .inl (T 1, 9, .inl (fi 0))), ((a 3), .inr (2, [.ref (a 1), .int (vi 5), .int (vi 6), .int (vi 7), .int (vi 8), .int (vi 9), .int (vi 10), .ref (a 6), .ref (a 5), .ref (a 4), .ref (ex 20), .ref (ex 21), .ref (ex 22), .ref (ex 23), .ref (ex 24)])), ((a 4), .inl (T 1, 9, .inl (fi 1))), ((a 5), .inl (T 1, 9, .inl (fi 2))), ((a 6), .inl (T 1, 9, .inl (fi 3))), ((a 7), .inl (T 1, 9, .inl (fi 4)))]) [0, 7, 1, 2, 3, 4, 5, 6] rfl
      have hD9 := hD.sub (ws' := [((a 0), .inr (11, [.ref (ex 0), .ref (a 1), .ref (ex 1), .ref (ex 2), .ref (a 3), .ref (ex 3), .ref (ex 4), .ref (ex 5), .ref (ex 6), .ref (ex 7), .ref (ex 8), .ref (ex 9), .ref (ex 10), .ref (ex 11), .int (vi 2)])), ((a 1), .inr (7, [.int (vi 3), .int (vi 4), .ref (ex 12), .ref (a 2), .ref (ex 13), .ref (a 7), .ref (ex 14), .ref (ex 15), .ref (ex 16), .ref (ex 17), .ref (ex 18), .ref (ex 19)])), ((a 2), .inl (T 1, 9, .inl (fi 0))), ((a 3), .inr (2, [.ref (a 1), .int (vi 5), .int (vi 6), .int (vi 7), .int (vi 8), .int (vi 9), .int (vi 10), .ref (a 6), .ref (a 5), .ref (a 4), .ref (ex 20), .ref (ex 21), .ref (ex 22), .ref (ex 23), .ref (ex 24)])), ((a 4), .inl (T 1, 9, .inl (fi 1))), ((a 5), .inl (T 1, 9, .inl (fi 2))), ((a 6), .inl (T 1, 9, .inl (fi 3))), ((a 7), .inl (T 1, 9, .inl (fi 4)))]) [0, 7, 1, 2, 3, 4, 5, 6] (by decide +kernel) rfl
      rw [hQ]
      exact W.iret (v := ((fi 0) (vi 0).toNatClampNeg)) hx hb hr (fun t ht hW => ⟨⟨((fi 0) (vi 0).toNatClampNeg), ((fi 0) (vi 0).toNatClampNeg), rfl, rfl, xf [], xh [], xv [], xl [], by rw [ht]; exact hP9, hD9, trivial⟩, hS.F ht⟩) hS.2.2 dX11_name_65
    · refine lv_tableIn (off := 52) (tgt := 66) hx hb dX11_name_14 (by omega) (by omega) (by rw [sw]; decide) (by decide) ?_
      refine lv_aload_n hx hb dX11_name_66 rfl (lv_at hl 0 rfl) ?_
      refine va_get (D := D) (ci := 11) (v := .ref (a 3)) (C := RX11) (T := TX11) (N := 15) hx hb htg inX11 hown hK.1 hP 0 rfl rfl 4 (by decide) (htg _ kw_500) (fun _ h9 => h9) rfl dX11_name_67 ?_
      refine lv_iload_n hx hb dX11_name_70 rfl (lv_at hl 1 rfl) ?_
      obtain ⟨hC9, hPc, hDc, hFc⟩ := xcut (wc := (pre_X2_cost T (xa [(a 3), (a 4), (a 1), (a 2)]) (xa [(a 6), (a 5), (ex 20), (ex 21), (ex 22), (ex 23), (ex 24), (ex 12), (ex 13), (a 7), (ex 14), (ex 15), (ex 16), (ex 17), (ex 18), (ex 19)]) (xf [(fi 1), (fi 0)]) (xh []) (xv [(vi 0), (vi 5), (vi 6), (vi 7), (vi 8), (vi 9), (vi 10), (vi 3), (vi 4)]) (xl []))) hP hD hS hA [2, 3, 7, 1] (by decide) rfl
      refine va_calli (va_runVN (As := [.int (vi 0)]) (rest := []) ⟨hx, hb, hml, hown, htg⟩ (c_X2_cost l D T (xa [(a 3), (a 4), (a 1), (a 2)]) (xa [(a 6), (a 5), (ex 20), (ex 21), (ex 22), (ex 23), (ex 24), (ex 12), (ex 13), (a 7), (ex 14), (ex 15), (ex 16), (ex 17), (ex 18), (ex 19)]) (xf [(fi 1), (fi 0)]) (xh []) (xv [(vi 0), (vi 5), (vi 6), (vi 7), (vi 8), (vi 9), (vi 10), (vi 3), (vi 4)]) (xl []) H.size (by show 0 ≤ (vi 0).toInt ∧ (vi 0).toInt ≤ 8; omega) hp2 hp3 hp0 hp1) ⟨va_cnB 1 htg (xg_ok kw_747) rfl rfl rfl (hK.2.1 _ kn_744) (htg _ kw_9) (by decide +kernel) ⟨by rw [hR]; exact Nat.le_of_ble_eq_true rfl, by rw [hR]; exact Nat.le_of_ble_eq_true rfl⟩, htg _ kw_746, htg _ ks_38⟩ (xpreV hK hPc hDc (va_recv hK.1 hPc (ci := 2) (q0 := 0) rfl rfl)) rfl rfl hl.1 rfl (lv_room (Nat.le_of_ble_eq_true rfl)) dX11_name_71 ⟨by rw [hR]; exact Nat.le_of_ble_eq_true rfl, by rw [hR]; exact Nat.le_of_ble_eq_true rfl⟩) hS (fun q _ h => hFc q h) hFc (fun r9 u9 t H1 locs ht hvm hw hB hz1 hk1 hS => ?_)
      subst hw
      obtain ⟨fik_1, flk_1, vik_1, vlk_1, hP1, hD1, hG⟩ := hB
      rw [ht] at hP1
      obtain ⟨hP, hD⟩ := va_join (wr := [((a 0), .inr (11, [.ref (ex 0), .ref (a 1), .ref (ex 1), .ref (ex 2), .ref (a 3), .ref (ex 3), .ref (ex 4), .ref (ex 5), .ref (ex 6), .ref (ex 7), .ref (ex 8), .ref (ex 9), .ref (ex 10), .ref (ex 11), .int (vi 2)])), ((a 5), .inl (T 1, 9, .inl (fi 2))), ((a 6), .inl (T 1, 9, .inl (fi 3))), ((a 7), .inl (T 1, 9, .inl (fi 4)))]) (w1 := [((a 3), .inr (2, [.ref (a 1), .int (vi 5), .int (vi 6), .int (vi 7), .int (vi 8), .int (vi 9), .int (vi 10), .ref (a 6), .ref (a 5), .ref (a 4), .ref (ex 20), .ref (ex 21), .ref (ex 22), .ref (ex 23), .ref (ex 24)])), ((a 4), .inl (T 1, 9, .inl (fi 1))), ((a 1), .inr (7, [.int (vi 3), .int (vi 4), .ref (ex 12), .ref (a 2), .ref (ex 13), .ref (a 7), .ref (ex 14), .ref (ex 15), .ref (ex 16), .ref (ex 17), .ref (ex 18), .ref (ex 19)])), ((a 2), .inl (T 1, 9, .inl (fi 0)))]) hP hD [2, 3, 7, 1] [0, 4, 5, 6] hC9 rfl (by decide) (by decide) hk1 hFc hP1 hD1
      obtain ⟨rk_1, er9⟩ : ∃ z, z = r9 := ⟨_, rfl⟩
      subst er9
      clear hPc hDc hFc hP1 hD1 hk1 hz1 hvm ht hC9
      generalize H1 = H at hP hS ⊢
      obtain ⟨hP, hD⟩ := (show xPD D A [((a 0), .inr (11, [.ref (ex 0), .ref (a 1), .ref (ex 1), .ref (ex 2), .ref (a 3), .ref (ex 3), .ref (ex 4), .ref (ex 5), .ref (ex 6), .ref (ex 7), .ref (ex 8), .ref (ex 9), .ref (ex 10), .ref (ex 11), .int (vi 2)])), ((a 5), .inl (T 1, 9, .inl (fi 2))), ((a 6), .inl (T 1, 9, .inl (fi 3))), ((a 7), .inl (T 1, 9, .inl (fi 4))), ((a 3), .inr (2, [.ref (a 1), .int (vi 5), .int (vi 6), .int (vi 7), .int (vi 8), .int (vi 9), .int (vi 10), .ref (a 6), .ref (a 5), .ref (a 4), .ref (ex 20), .ref (ex 21), .ref (ex 22), .ref (ex 23), .ref (ex 24)])), ((a 4), .inl (T 1, 9, .inl (fi 1))), ((a 1), .inr (7, [.int (vi 3), .int (vi 4), .ref (ex 12), .ref (a 2), .ref (ex 13), .ref (a 7), .ref (ex 14), .ref (ex 15), .ref (ex 16), .ref (ex 17), .ref (ex 18), .ref (ex 19)])), ((a 2), .inl (T 1, 9, .inl (fi 0)))] H from ⟨hP, hD⟩)
      clear hG
      have hP9 := hP.sub (ws' := [((a 0), .inr (11, [.ref (ex 0), .ref (a 1), .ref (ex 1), .ref (ex 2), .ref (a 3), .ref (ex 3), .ref (ex 4), .ref (ex 5), .ref (ex 6), .ref (ex 7), .ref (ex 8), .ref (ex 9), .ref (ex 10), .ref (ex 11), .int (vi 2)])), ((a 1), .inr (7, [.int (vi 3), .int (vi 4), .ref (ex 12), .ref (a 2), .ref (ex 13), .ref (a 7), .ref (ex 14), .ref (ex 15), .ref (ex 16), .ref (ex 17), .ref (ex 18), .ref (ex 19)])), ((a 2), .inl (T 1, 9, .inl (fi 0))), ((a 3), .inr (2, [.ref (a 1), .int (vi 5), .int (vi 6), .int (vi 7), .int (vi 8), .int (vi 9), .int (vi 10), .ref (a 6), .ref (a 5), .ref (a 4), .ref (ex 20), .ref (ex 21), .ref (ex 22), .ref (ex 23), .ref (ex 24)])), ((a 4), .inl (T 1, 9, .inl (fi 1))), ((a 5), .inl (T 1, 9, .inl (fi 2))), ((a 6), .inl (T 1, 9, .inl (fi 3))), ((a 7), .inl (T 1, 9, .inl (fi 4)))]) [0, 6, 7, 4, 5, 1, 2, 3] rfl
      have hD9 := hD.sub (ws' := [((a 0), .inr (11, [.ref (ex 0), .ref (a 1), .ref (ex 1), .ref (ex 2), .ref (a 3), .ref (ex 3), .ref (ex 4), .ref (ex 5), .ref (ex 6), .ref (ex 7), .ref (ex 8), .ref (ex 9), .ref (ex 10), .ref (ex 11), .int (vi 2)])), ((a 1), .inr (7, [.int (vi 3), .int (vi 4), .ref (ex 12), .ref (a 2), .ref (ex 13), .ref (a 7), .ref (ex 14), .ref (ex 15), .ref (ex 16), .ref (ex 17), .ref (ex 18), .ref (ex 19)])), ((a 2), .inl (T 1, 9, .inl (fi 0))), ((a 3), .inr (2, [.ref (a 1), .int (vi 5), .int (vi 6), .int (vi 7), .int (vi 8), .int (vi 9), .int (vi 10), .ref (a 6), .ref (a 5), .ref (a 4), .ref (ex 20), .ref (ex 21), .ref (ex 22), .ref (ex 23), .ref (ex 24)])), ((a 4), .inl (T 1, 9, .inl (fi 1))), ((a 5), .inl (T 1, 9, .inl (fi 2))), ((a 6), .inl (T 1, 9, .inl (fi 3))), ((a 7), .inl (T 1, 9, .inl (fi 4)))]) [0, 6, 7, 4, 5, 1, 2, 3] (by decide +kernel) rfl
      rw [hQ]
      exact W.iret (v := rk_1) hx hb hr (fun t ht hW => ⟨⟨rk_1, rk_1, rfl, rfl, xf [], xh [], xv [], xl [], by rw [ht]; exact hP9, hD9, trivial⟩, hS.F ht⟩) hS.2.2 dX11_name_74
    · refine lv_tableIn (off := 61) (tgt := 75) hx hb dX11_name_14 (by omega) (by omega) (by rw [sw]; decide) (by decide) ?_
      refine lv_aload_n hx hb dX11_name_75 rfl (lv_at hl 0 rfl) ?_
      refine va_get (D := D) (ci := 11) (v := .ref (a 3)) (C := RX11) (T := TX11) (N := 15) hx hb htg inX11 hown hK.1 hP 0 rfl rfl 4 (by decide) (htg _ kw_500) (fun _ h9 => h9) rfl dX11_name_76 ?_
      refine va_getN (D := D) (ci := 2) (v := .ref (a 5)) (C := RX2) (T := TX2) (N := 15) hx hb htg inX2 hown hK.1 hP 2 rfl rfl 8 (by decide) (va_Nw.use rfl (hK.2.1 _ kn_265)) (fun _ h9 => h9) rfl dX11_name_79 ?_
      refine lv_iload_n hx hb dX11_name_82 rfl (lv_at hl 1 rfl) ?_
      refine va_iald hx hb hK.1 hP 4 1 rfl rfl (vp_in_iff.mpr (by omega)) dX11_name_83 ?_
      have hP9 := hP.sub (ws' := [((a 0), .inr (11, [.ref (ex 0), .ref (a 1), .ref (ex 1), .ref (ex 2), .ref (a 3), .ref (ex 3), .ref (ex 4), .ref (ex 5), .ref (ex 6), .ref (ex 7), .ref (ex 8), .ref (ex 9), .ref (ex 10), .ref (ex 11), .int (vi 2)])), ((a 1), .inr (7, [.int (vi 3), .int (vi 4), .ref (ex 12), .ref (a 2), .ref (ex 13), .ref (a 7), .ref (ex 14), .ref (ex 15), .ref (ex 16), .ref (ex 17), .ref (ex 18), .ref (ex 19)])), ((a 2), .inl (T 1, 9, .inl (fi 0))), ((a 3), .inr (2, [.ref (a 1), .int (vi 5), .int (vi 6), .int (vi 7), .int (vi 8), .int (vi 9), .int (vi 10), .ref (a 6), .ref (a 5), .ref (a 4), .ref (ex 20), .ref (ex 21), .ref (ex 22), .ref (ex 23), .ref (ex 24)])), ((a 4), .inl (T 1, 9, .inl (fi 1))), ((a 5), .inl (T 1, 9, .inl (fi 2))), ((a 6), .inl (T 1, 9, .inl (fi 3))), ((a 7), .inl (T 1, 9, .inl (fi 4)))]) [0, 7, 1, 2, 3, 4, 5, 6] rfl
      have hD9 := hD.sub (ws' := [((a 0), .inr (11, [.ref (ex 0), .ref (a 1), .ref (ex 1), .ref (ex 2), .ref (a 3), .ref (ex 3), .ref (ex 4), .ref (ex 5), .ref (ex 6), .ref (ex 7), .ref (ex 8), .ref (ex 9), .ref (ex 10), .ref (ex 11), .int (vi 2)])), ((a 1), .inr (7, [.int (vi 3), .int (vi 4), .ref (ex 12), .ref (a 2), .ref (ex 13), .ref (a 7), .ref (ex 14), .ref (ex 15), .ref (ex 16), .ref (ex 17), .ref (ex 18), .ref (ex 19)])), ((a 2), .inl (T 1, 9, .inl (fi 0))), ((a 3), .inr (2, [.ref (a 1), .int (vi 5), .int (vi 6), .int (vi 7), .int (vi 8), .int (vi 9), .int (vi 10), .ref (a 6), .ref (a 5), .ref (a 4), .ref (ex 20), .ref (ex 21), .ref (ex 22), .ref (ex 23), .ref (ex 24)])), ((a 4), .inl (T 1, 9, .inl (fi 1))), ((a 5), .inl (T 1, 9, .inl (fi 2))), ((a 6), .inl (T 1, 9, .inl (fi 3))), ((a 7), .inl (T 1, 9, .inl (fi 4)))]) [0, 7, 1, 2, 3, 4, 5, 6] (by decide +kernel) rfl
      rw [hQ]
      exact W.iret (v := ((fi 2) (vi 0).toNatClampNeg)) hx hb hr (fun t ht hW => ⟨⟨((fi 2) (vi 0).toNatClampNeg), ((fi 2) (vi 0).toNatClampNeg), rfl, rfl, xf [], xh [], xv [], xl [], by rw [ht]; exact hP9, hD9, trivial⟩, hS.F ht⟩) hS.2.2 dX11_name_84
    · refine lv_tableIn (off := 71) (tgt := 85) hx hb dX11_name_14 (by omega) (by omega) (by rw [sw]; decide) (by decide) ?_
      refine lv_aload_n hx hb dX11_name_85 rfl (lv_at hl 0 rfl) ?_
      refine va_get (D := D) (ci := 11) (v := .ref (a 3)) (C := RX11) (T := TX11) (N := 15) hx hb htg inX11 hown hK.1 hP 0 rfl rfl 4 (by decide) (htg _ kw_500) (fun _ h9 => h9) rfl dX11_name_86 ?_
      refine va_getN (D := D) (ci := 2) (v := .ref (a 6)) (C := RX2) (T := TX2) (N := 15) hx hb htg inX2 hown hK.1 hP 2 rfl rfl 7 (by decide) (va_Nw.use rfl (hK.2.1 _ kn_263)) (fun _ h9 => h9) rfl dX11_name_89 ?_
      refine lv_iload_n hx hb dX11_name_92 rfl (lv_at hl 1 rfl) ?_
      refine va_iald hx hb hK.1 hP 5 1 rfl rfl (vp_in_iff.mpr (by omega)) dX11_name_93 ?_
      have hv := rg_at hp4 (i := (vi 0)) (by omega) (by omega)
      have hP9 := hP.sub (ws' := [((a 0), .inr (11, [.ref (ex 0), .ref (a 1), .ref (ex 1), .ref (ex 2), .ref (a 3), .ref (ex 3), .ref (ex 4), .ref (ex 5), .ref (ex 6), .ref (ex 7), .ref (ex 8), .ref (ex 9), .ref (ex 10), .ref (ex 11), .int (vi 2)])), ((a 1), .inr (7, [.int (vi 3), .int (vi 4), .ref (ex 12), .ref (a 2), .ref (ex 13), .ref (a 7), .ref (ex 14), .ref (ex 15), .ref (ex 16), .ref (ex 17), .ref (ex 18), .ref (ex 19)])), ((a 2), .inl (T 1, 9, .inl (fi 0))), ((a 3), .inr (2, [.ref (a 1), .int (vi 5), .int (vi 6), .int (vi 7), .int (vi 8), .int (vi 9), .int (vi 10), .ref (a 6), .ref (a 5), .ref (a 4), .ref (ex 20), .ref (ex 21), .ref (ex 22), .ref (ex 23), .ref (ex 24)])), ((a 4), .inl (T 1, 9, .inl (fi 1))), ((a 5), .inl (T 1, 9, .inl (fi 2))), ((a 6), .inl (T 1, 9, .inl (fi 3))), ((a 7), .inl (T 1, 9, .inl (fi 4)))]) [0, 7, 1, 2, 3, 4, 5, 6] rfl
      have hD9 := hD.sub (ws' := [((a 0), .inr (11, [.ref (ex 0), .ref (a 1), .ref (ex 1), .ref (ex 2), .ref (a 3), .ref (ex 3), .ref (ex 4), .ref (ex 5), .ref (ex 6), .ref (ex 7), .ref (ex 8), .ref (ex 9), .ref (ex 10), .ref (ex 11), .int (vi 2)])), ((a 1), .inr (7, [.int (vi 3), .int (vi 4), .ref (ex 12), .ref (a 2), .ref (ex 13), .ref (a 7), .ref (ex 14), .ref (ex 15), .ref (ex 16), .ref (ex 17), .ref (ex 18), .ref (ex 19)])), ((a 2), .inl (T 1, 9, .inl (fi 0))), ((a 3), .inr (2, [.ref (a 1), .int (vi 5), .int (vi 6), .int (vi 7), .int (vi 8), .int (vi 9), .int (vi 10), .ref (a 6), .ref (a 5), .ref (a 4), .ref (ex 20), .ref (ex 21), .ref (ex 22), .ref (ex 23), .ref (ex 24)])), ((a 4), .inl (T 1, 9, .inl (fi 1))), ((a 5), .inl (T 1, 9, .inl (fi 2))), ((a 6), .inl (T 1, 9, .inl (fi 3))), ((a 7), .inl (T 1, 9, .inl (fi 4)))]) [0, 7, 1, 2, 3, 4, 5, 6] (by decide +kernel) rfl
      rw [hQ]
      exact W.iret (v := ((fi 3) (vi 0).toNatClampNeg)) hx hb hr (fun t ht hW => ⟨⟨((fi 3) (vi 0).toNatClampNeg), ((fi 3) (vi 0).toNatClampNeg), rfl, rfl, xf [], xh [], xv [], xl [], by rw [ht]; exact hP9, hD9, trivial⟩, hS.F ht⟩) hS.2.2 dX11_name_94
    · refine lv_tableIn (off := 81) (tgt := 95) hx hb dX11_name_14 (by omega) (by omega) (by rw [sw]; decide) (by decide) ?_
      refine lv_aload_n hx hb dX11_name_95 rfl (lv_at hl 0 rfl) ?_
      refine va_get (D := D) (ci := 11) (v := .ref (a 3)) (C := RX11) (T := TX11) (N := 15) hx hb htg inX11 hown hK.1 hP 0 rfl rfl 4 (by decide) (htg _ kw_500) (fun _ h9 => h9) rfl dX11_name_96 ?_
      refine lv_iload_n hx hb dX11_name_99 rfl (lv_at hl 1 rfl) ?_
      obtain ⟨hC9, hPc, hDc, hFc⟩ := xcut (wc := (pre_X2_isSour T (xa [(a 3)]) (xa [(a 1), (a 6), (a 5), (a 4), (ex 20), (ex 21), (ex 22), (ex 23), (ex 24)]) (xf []) (xh []) (xv [(vi 0), (vi 5), (vi 6), (vi 7), (vi 8), (vi 9), (vi 10)]) (xl []))) hP hD hS hA [2] (by decide) rfl
      refine va_calli (va_runVN (As := [.int (vi 0)]) (rest := []) ⟨hx, hb, hml, hown, htg⟩ (c_X2_isSour l D T (xa [(a 3)]) (xa [(a 1), (a 6), (a 5), (a 4), (ex 20), (ex 21), (ex 22), (ex 23), (ex 24)]) (xf []) (xh []) (xv [(vi 0), (vi 5), (vi 6), (vi 7), (vi 8), (vi 9), (vi 10)]) (xl []) H.size hp2 hp3) ⟨va_cnB 1 htg (xg_ok kw_755) rfl rfl rfl (hK.2.1 _ kn_752) (htg _ kw_9) (by decide +kernel) ⟨by rw [hR]; exact Nat.le_of_ble_eq_true rfl, by rw [hR]; exact Nat.le_of_ble_eq_true rfl⟩, htg _ kw_754, htg _ ks_40⟩ (xpreV hK hPc hDc (va_recv hK.1 hPc (ci := 2) (q0 := 0) rfl rfl)) rfl rfl hl.1 rfl (lv_room (Nat.le_of_ble_eq_true rfl)) dX11_name_100 ⟨by rw [hR]; exact Nat.le_of_ble_eq_true rfl, by rw [hR]; exact Nat.le_of_ble_eq_true rfl⟩) hS (fun q _ h => hFc q h) hFc (fun r9 u9 t H1 locs ht hvm hw hB hz1 hk1 hS => ?_)
      subst hw
      obtain ⟨fik_2, flk_2, vik_2, vlk_2, hP1, hD1, hG⟩ := hB
      rw [ht] at hP1
      obtain ⟨hP, hD⟩ := va_join (wr := [((a 0), .inr (11, [.ref (ex 0), .ref (a 1), .ref (ex 1), .ref (ex 2), .ref (a 3), .ref (ex 3), .ref (ex 4), .ref (ex 5), .ref (ex 6), .ref (ex 7), .ref (ex 8), .ref (ex 9), .ref (ex 10), .ref (ex 11), .int (vi 2)])), ((a 2), .inl (T 1, 9, .inl (fi 0))), ((a 4), .inl (T 1, 9, .inl (fi 1))), ((a 5), .inl (T 1, 9, .inl (fi 2))), ((a 6), .inl (T 1, 9, .inl (fi 3))), ((a 7), .inl (T 1, 9, .inl (fi 4))), ((a 1), .inr (7, [.int (vi 3), .int (vi 4), .ref (ex 12), .ref (a 2), .ref (ex 13), .ref (a 7), .ref (ex 14), .ref (ex 15), .ref (ex 16), .ref (ex 17), .ref (ex 18), .ref (ex 19)]))]) (w1 := [((a 3), .inr (2, [.ref (a 1), .int (vi 5), .int (vi 6), .int (vi 7), .int (vi 8), .int (vi 9), .int (vi 10), .ref (a 6), .ref (a 5), .ref (a 4), .ref (ex 20), .ref (ex 21), .ref (ex 22), .ref (ex 23), .ref (ex 24)]))]) hP hD [2] [0, 1, 3, 4, 5, 6, 7] hC9 rfl (by decide) (by decide) hk1 hFc hP1 hD1
      obtain ⟨rk_2, er9⟩ : ∃ z, z = r9 := ⟨_, rfl⟩
      subst er9
      clear hPc hDc hFc hP1 hD1 hk1 hz1 hvm ht hC9
      generalize H1 = H at hP hS ⊢
      obtain ⟨hP, hD⟩ := (show xPD D A [((a 0), .inr (11, [.ref (ex 0), .ref (a 1), .ref (ex 1), .ref (ex 2), .ref (a 3), .ref (ex 3), .ref (ex 4), .ref (ex 5), .ref (ex 6), .ref (ex 7), .ref (ex 8), .ref (ex 9), .ref (ex 10), .ref (ex 11), .int (vi 2)])), ((a 2), .inl (T 1, 9, .inl (fi 0))), ((a 4), .inl (T 1, 9, .inl (fi 1))), ((a 5), .inl (T 1, 9, .inl (fi 2))), ((a 6), .inl (T 1, 9, .inl (fi 3))), ((a 7), .inl (T 1, 9, .inl (fi 4))), ((a 1), .inr (7, [.int (vi 3), .int (vi 4), .ref (ex 12), .ref (a 2), .ref (ex 13), .ref (a 7), .ref (ex 14), .ref (ex 15), .ref (ex 16), .ref (ex 17), .ref (ex 18), .ref (ex 19)])), ((a 3), .inr (2, [.ref (a 1), .int (vi 5), .int (vi 6), .int (vi 7), .int (vi 8), .int (vi 9), .int (vi 10), .ref (a 6), .ref (a 5), .ref (a 4), .ref (ex 20), .ref (ex 21), .ref (ex 22), .ref (ex 23), .ref (ex 24)]))] H from ⟨hP, hD⟩)
      obtain ⟨gk_2_0, -⟩ := hG
      rcases (show (rk_2 = 1 ∧ (True)) ∨ (rk_2 = 0 ∧ (True)) from gk_2_0) with ⟨er9, gk_2_0⟩ | ⟨er9, gk_2_0⟩
      · refine xz_i 1 er9 ?_
        refine lv_if_eq (tgt := 110) hx hb dX11_name_103 (by decide) (fun c => absurd c (by decide)) (fun _ => ?_)
        refine lv_iconst (v := 1) hx hb dX11_name_106 (by decide) ?_
        refine lv_goto (tgt := 111) hx hb dX11_name_107 (by decide) ?_
        have hP9 := hP.sub (ws' := [((a 0), .inr (11, [.ref (ex 0), .ref (a 1), .ref (ex 1), .ref (ex 2), .ref (a 3), .ref (ex 3), .ref (ex 4), .ref (ex 5), .ref (ex 6), .ref (ex 7), .ref (ex 8), .ref (ex 9), .ref (ex 10), .ref (ex 11), .int (vi 2)])), ((a 1), .inr (7, [.int (vi 3), .int (vi 4), .ref (ex 12), .ref (a 2), .ref (ex 13), .ref (a 7), .ref (ex 14), .ref (ex 15), .ref (ex 16), .ref (ex 17), .ref (ex 18), .ref (ex 19)])), ((a 2), .inl (T 1, 9, .inl (fi 0))), ((a 3), .inr (2, [.ref (a 1), .int (vi 5), .int (vi 6), .int (vi 7), .int (vi 8), .int (vi 9), .int (vi 10), .ref (a 6), .ref (a 5), .ref (a 4), .ref (ex 20), .ref (ex 21), .ref (ex 22), .ref (ex 23), .ref (ex 24)])), ((a 4), .inl (T 1, 9, .inl (fi 1))), ((a 5), .inl (T 1, 9, .inl (fi 2))), ((a 6), .inl (T 1, 9, .inl (fi 3))), ((a 7), .inl (T 1, 9, .inl (fi 4)))]) [0, 6, 1, 7, 2, 3, 4, 5] rfl
        have hD9 := hD.sub (ws' := [((a 0), .inr (11, [.ref (ex 0), .ref (a 1), .ref (ex 1), .ref (ex 2), .ref (a 3), .ref (ex 3), .ref (ex 4), .ref (ex 5), .ref (ex 6), .ref (ex 7), .ref (ex 8), .ref (ex 9), .ref (ex 10), .ref (ex 11), .int (vi 2)])), ((a 1), .inr (7, [.int (vi 3), .int (vi 4), .ref (ex 12), .ref (a 2), .ref (ex 13), .ref (a 7), .ref (ex 14), .ref (ex 15), .ref (ex 16), .ref (ex 17), .ref (ex 18), .ref (ex 19)])), ((a 2), .inl (T 1, 9, .inl (fi 0))), ((a 3), .inr (2, [.ref (a 1), .int (vi 5), .int (vi 6), .int (vi 7), .int (vi 8), .int (vi 9), .int (vi 10), .ref (a 6), .ref (a 5), .ref (a 4), .ref (ex 20), .ref (ex 21), .ref (ex 22), .ref (ex 23), .ref (ex 24)])), ((a 4), .inl (T 1, 9, .inl (fi 1))), ((a 5), .inl (T 1, 9, .inl (fi 2))), ((a 6), .inl (T 1, 9, .inl (fi 3))), ((a 7), .inl (T 1, 9, .inl (fi 4)))]) [0, 6, 1, 7, 2, 3, 4, 5] (by decide +kernel) rfl
        rw [hQ]
        exact W.iret (v := 1) hx hb hr (fun t ht hW => ⟨⟨1, 1, rfl, rfl, xf [], xh [], xv [], xl [], by rw [ht]; exact hP9, hD9, trivial⟩, hS.F ht⟩) hS.2.2 dX11_name_111
      · refine xz_i 0 er9 ?_
        refine lv_if_eq (tgt := 110) hx hb dX11_name_103 (by decide) (fun _ => ?_) (fun c => absurd (by decide) c)
        refine lv_iconst (v := 0) hx hb dX11_name_110 (by decide) ?_
        have hP9 := hP.sub (ws' := [((a 0), .inr (11, [.ref (ex 0), .ref (a 1), .ref (ex 1), .ref (ex 2), .ref (a 3), .ref (ex 3), .ref (ex 4), .ref (ex 5), .ref (ex 6), .ref (ex 7), .ref (ex 8), .ref (ex 9), .ref (ex 10), .ref (ex 11), .int (vi 2)])), ((a 1), .inr (7, [.int (vi 3), .int (vi 4), .ref (ex 12), .ref (a 2), .ref (ex 13), .ref (a 7), .ref (ex 14), .ref (ex 15), .ref (ex 16), .ref (ex 17), .ref (ex 18), .ref (ex 19)])), ((a 2), .inl (T 1, 9, .inl (fi 0))), ((a 3), .inr (2, [.ref (a 1), .int (vi 5), .int (vi 6), .int (vi 7), .int (vi 8), .int (vi 9), .int (vi 10), .ref (a 6), .ref (a 5), .ref (a 4), .ref (ex 20), .ref (ex 21), .ref (ex 22), .ref (ex 23), .ref (ex 24)])), ((a 4), .inl (T 1, 9, .inl (fi 1))), ((a 5), .inl (T 1, 9, .inl (fi 2))), ((a 6), .inl (T 1, 9, .inl (fi 3))), ((a 7), .inl (T 1, 9, .inl (fi 4)))]) [0, 6, 1, 7, 2, 3, 4, 5] rfl
        have hD9 := hD.sub (ws' := [((a 0), .inr (11, [.ref (ex 0), .ref (a 1), .ref (ex 1), .ref (ex 2), .ref (a 3), .ref (ex 3), .ref (ex 4), .ref (ex 5), .ref (ex 6), .ref (ex 7), .ref (ex 8), .ref (ex 9), .ref (ex 10), .ref (ex 11), .int (vi 2)])), ((a 1), .inr (7, [.int (vi 3), .int (vi 4), .ref (ex 12), .ref (a 2), .ref (ex 13), .ref (a 7), .ref (ex 14), .ref (ex 15), .ref (ex 16), .ref (ex 17), .ref (ex 18), .ref (ex 19)])), ((a 2), .inl (T 1, 9, .inl (fi 0))), ((a 3), .inr (2, [.ref (a 1), .int (vi 5), .int (vi 6), .int (vi 7), .int (vi 8), .int (vi 9), .int (vi 10), .ref (a 6), .ref (a 5), .ref (a 4), .ref (ex 20), .ref (ex 21), .ref (ex 22), .ref (ex 23), .ref (ex 24)])), ((a 4), .inl (T 1, 9, .inl (fi 1))), ((a 5), .inl (T 1, 9, .inl (fi 2))), ((a 6), .inl (T 1, 9, .inl (fi 3))), ((a 7), .inl (T 1, 9, .inl (fi 4)))]) [0, 6, 1, 7, 2, 3, 4, 5] (by decide +kernel) rfl
        rw [hQ]
        exact W.iret (v := 0) hx hb hr (fun t ht hW => ⟨⟨0, 0, rfl, rfl, xf [], xh [], xv [], xl [], by rw [ht]; exact hP9, hD9, trivial⟩, hS.F ht⟩) hS.2.2 dX11_name_111
    · refine lv_tableIn (off := 98) (tgt := 112) hx hb dX11_name_14 (by omega) (by omega) (by rw [sw]; decide) (by decide) ?_
      refine lv_aload_n hx hb dX11_name_112 rfl (lv_at hl 0 rfl) ?_
      refine va_get (D := D) (ci := 11) (v := .ref (a 3)) (C := RX11) (T := TX11) (N := 15) hx hb htg inX11 hown hK.1 hP 0 rfl rfl 4 (by decide) (htg _ kw_500) (fun _ h9 => h9) rfl dX11_name_113 ?_
      refine lv_iload_n hx hb dX11_name_116 rfl (lv_at hl 1 rfl) ?_
      obtain ⟨hC9, hPc, hDc, hFc⟩ := xcut (wc := (pre_X2_hangedYet T (xa [(a 3), (a 4)]) (xa [(a 1), (a 6), (a 5), (ex 20), (ex 21), (ex 22), (ex 23), (ex 24)]) (xf [(fi 1)]) (xh []) (xv [(vi 0), (vi 5), (vi 6), (vi 7), (vi 8), (vi 9), (vi 10)]) (xl []))) hP hD hS hA [2, 3] (by decide) rfl
      refine va_calli (va_runVN (As := [.int (vi 0)]) (rest := []) ⟨hx, hb, hml, hown, htg⟩ (c_X2_hangedYet l D T (xa [(a 3), (a 4)]) (xa [(a 1), (a 6), (a 5), (ex 20), (ex 21), (ex 22), (ex 23), (ex 24)]) (xf [(fi 1)]) (xh []) (xv [(vi 0), (vi 5), (vi 6), (vi 7), (vi 8), (vi 9), (vi 10)]) (xl []) H.size (by show 0 ≤ (vi 0).toInt ∧ (vi 0).toInt ≤ 8; omega) hp2 hp3) ⟨va_cnB 1 htg (xg_ok kw_751) rfl rfl rfl (hK.2.1 _ kn_759) (htg _ kw_9) (by decide +kernel) ⟨by rw [hR]; exact Nat.le_of_ble_eq_true rfl, by rw [hR]; exact Nat.le_of_ble_eq_true rfl⟩, htg _ kw_750, htg _ ks_39⟩ (xpreV hK hPc hDc (va_recv hK.1 hPc (ci := 2) (q0 := 0) rfl rfl)) rfl rfl hl.1 rfl (lv_room (Nat.le_of_ble_eq_true rfl)) dX11_name_117 ⟨by rw [hR]; exact Nat.le_of_ble_eq_true rfl, by rw [hR]; exact Nat.le_of_ble_eq_true rfl⟩) hS (fun q _ h => hFc q h) hFc (fun r9 u9 t H1 locs ht hvm hw hB hz1 hk1 hS => ?_)
      subst hw
      obtain ⟨fik_3, flk_3, vik_3, vlk_3, hP1, hD1, hG⟩ := hB
      rw [ht] at hP1
      obtain ⟨hP, hD⟩ := va_join (wr := [((a 0), .inr (11, [.ref (ex 0), .ref (a 1), .ref (ex 1), .ref (ex 2), .ref (a 3), .ref (ex 3), .ref (ex 4), .ref (ex 5), .ref (ex 6), .ref (ex 7), .ref (ex 8), .ref (ex 9), .ref (ex 10), .ref (ex 11), .int (vi 2)])), ((a 2), .inl (T 1, 9, .inl (fi 0))), ((a 5), .inl (T 1, 9, .inl (fi 2))), ((a 6), .inl (T 1, 9, .inl (fi 3))), ((a 7), .inl (T 1, 9, .inl (fi 4))), ((a 1), .inr (7, [.int (vi 3), .int (vi 4), .ref (ex 12), .ref (a 2), .ref (ex 13), .ref (a 7), .ref (ex 14), .ref (ex 15), .ref (ex 16), .ref (ex 17), .ref (ex 18), .ref (ex 19)]))]) (w1 := [((a 3), .inr (2, [.ref (a 1), .int (vi 5), .int (vi 6), .int (vi 7), .int (vi 8), .int (vi 9), .int (vi 10), .ref (a 6), .ref (a 5), .ref (a 4), .ref (ex 20), .ref (ex 21), .ref (ex 22), .ref (ex 23), .ref (ex 24)])), ((a 4), .inl (T 1, 9, .inl (fi 1)))]) hP hD [2, 3] [0, 1, 4, 5, 6, 7] hC9 rfl (by decide) (by decide) hk1 hFc hP1 hD1
      obtain ⟨rk_3, er9⟩ : ∃ z, z = r9 := ⟨_, rfl⟩
      subst er9
      clear hPc hDc hFc hP1 hD1 hk1 hz1 hvm ht hC9
      generalize H1 = H at hP hS ⊢
      obtain ⟨hP, hD⟩ := (show xPD D A [((a 0), .inr (11, [.ref (ex 0), .ref (a 1), .ref (ex 1), .ref (ex 2), .ref (a 3), .ref (ex 3), .ref (ex 4), .ref (ex 5), .ref (ex 6), .ref (ex 7), .ref (ex 8), .ref (ex 9), .ref (ex 10), .ref (ex 11), .int (vi 2)])), ((a 2), .inl (T 1, 9, .inl (fi 0))), ((a 5), .inl (T 1, 9, .inl (fi 2))), ((a 6), .inl (T 1, 9, .inl (fi 3))), ((a 7), .inl (T 1, 9, .inl (fi 4))), ((a 1), .inr (7, [.int (vi 3), .int (vi 4), .ref (ex 12), .ref (a 2), .ref (ex 13), .ref (a 7), .ref (ex 14), .ref (ex 15), .ref (ex 16), .ref (ex 17), .ref (ex 18), .ref (ex 19)])), ((a 3), .inr (2, [.ref (a 1), .int (vi 5), .int (vi 6), .int (vi 7), .int (vi 8), .int (vi 9), .int (vi 10), .ref (a 6), .ref (a 5), .ref (a 4), .ref (ex 20), .ref (ex 21), .ref (ex 22), .ref (ex 23), .ref (ex 24)])), ((a 4), .inl (T 1, 9, .inl (fi 1)))] H from ⟨hP, hD⟩)
      clear hG
      have hP9 := hP.sub (ws' := [((a 0), .inr (11, [.ref (ex 0), .ref (a 1), .ref (ex 1), .ref (ex 2), .ref (a 3), .ref (ex 3), .ref (ex 4), .ref (ex 5), .ref (ex 6), .ref (ex 7), .ref (ex 8), .ref (ex 9), .ref (ex 10), .ref (ex 11), .int (vi 2)])), ((a 1), .inr (7, [.int (vi 3), .int (vi 4), .ref (ex 12), .ref (a 2), .ref (ex 13), .ref (a 7), .ref (ex 14), .ref (ex 15), .ref (ex 16), .ref (ex 17), .ref (ex 18), .ref (ex 19)])), ((a 2), .inl (T 1, 9, .inl (fi 0))), ((a 3), .inr (2, [.ref (a 1), .int (vi 5), .int (vi 6), .int (vi 7), .int (vi 8), .int (vi 9), .int (vi 10), .ref (a 6), .ref (a 5), .ref (a 4), .ref (ex 20), .ref (ex 21), .ref (ex 22), .ref (ex 23), .ref (ex 24)])), ((a 4), .inl (T 1, 9, .inl (fi 1))), ((a 5), .inl (T 1, 9, .inl (fi 2))), ((a 6), .inl (T 1, 9, .inl (fi 3))), ((a 7), .inl (T 1, 9, .inl (fi 4)))]) [0, 5, 1, 6, 7, 2, 3, 4] rfl
      have hD9 := hD.sub (ws' := [((a 0), .inr (11, [.ref (ex 0), .ref (a 1), .ref (ex 1), .ref (ex 2), .ref (a 3), .ref (ex 3), .ref (ex 4), .ref (ex 5), .ref (ex 6), .ref (ex 7), .ref (ex 8), .ref (ex 9), .ref (ex 10), .ref (ex 11), .int (vi 2)])), ((a 1), .inr (7, [.int (vi 3), .int (vi 4), .ref (ex 12), .ref (a 2), .ref (ex 13), .ref (a 7), .ref (ex 14), .ref (ex 15), .ref (ex 16), .ref (ex 17), .ref (ex 18), .ref (ex 19)])), ((a 2), .inl (T 1, 9, .inl (fi 0))), ((a 3), .inr (2, [.ref (a 1), .int (vi 5), .int (vi 6), .int (vi 7), .int (vi 8), .int (vi 9), .int (vi 10), .ref (a 6), .ref (a 5), .ref (a 4), .ref (ex 20), .ref (ex 21), .ref (ex 22), .ref (ex 23), .ref (ex 24)])), ((a 4), .inl (T 1, 9, .inl (fi 1))), ((a 5), .inl (T 1, 9, .inl (fi 2))), ((a 6), .inl (T 1, 9, .inl (fi 3))), ((a 7), .inl (T 1, 9, .inl (fi 4)))]) [0, 5, 1, 6, 7, 2, 3, 4] (by decide +kernel) rfl
      rw [hQ]
      exact W.iret (v := rk_3) hx hb hr (fun t ht hW => ⟨⟨rk_3, rk_3, rfl, rfl, xf [], xh [], xv [], xl [], by rw [ht]; exact hP9, hD9, trivial⟩, hS.F ht⟩) hS.2.2 dX11_name_120
    · refine lv_tableIn (off := 107) (tgt := 121) hx hb dX11_name_14 (by omega) (by omega) (by rw [sw]; decide) (by decide) ?_
      refine lv_aload_n hx hb dX11_name_121 rfl (lv_at hl 0 rfl) ?_
      refine va_get (D := D) (ci := 11) (v := .ref (a 1)) (C := RX11) (T := TX11) (N := 15) hx hb htg inX11 hown hK.1 hP 0 rfl rfl 1 (by decide) (htg _ kw_497) (fun _ h9 => h9) rfl dX11_name_122 ?_
      refine va_getN (D := D) (ci := 7) (v := .ref (a 7)) (C := RX7) (T := TX7) (N := 12) hx hb htg inX7 hown hK.1 hP 7 rfl rfl 5 (by decide) (va_Nw.use rfl (hK.2.1 _ kn_179)) (fun _ h9 => h9) rfl dX11_name_125 ?_
      refine lv_iload_n hx hb dX11_name_128 rfl (lv_at hl 1 rfl) ?_
      refine va_iald hx hb hK.1 hP 6 1 rfl rfl (vp_in_iff.mpr (by omega)) dX11_name_129 ?_
      have hP9 := hP.sub (ws' := [((a 0), .inr (11, [.ref (ex 0), .ref (a 1), .ref (ex 1), .ref (ex 2), .ref (a 3), .ref (ex 3), .ref (ex 4), .ref (ex 5), .ref (ex 6), .ref (ex 7), .ref (ex 8), .ref (ex 9), .ref (ex 10), .ref (ex 11), .int (vi 2)])), ((a 1), .inr (7, [.int (vi 3), .int (vi 4), .ref (ex 12), .ref (a 2), .ref (ex 13), .ref (a 7), .ref (ex 14), .ref (ex 15), .ref (ex 16), .ref (ex 17), .ref (ex 18), .ref (ex 19)])), ((a 2), .inl (T 1, 9, .inl (fi 0))), ((a 3), .inr (2, [.ref (a 1), .int (vi 5), .int (vi 6), .int (vi 7), .int (vi 8), .int (vi 9), .int (vi 10), .ref (a 6), .ref (a 5), .ref (a 4), .ref (ex 20), .ref (ex 21), .ref (ex 22), .ref (ex 23), .ref (ex 24)])), ((a 4), .inl (T 1, 9, .inl (fi 1))), ((a 5), .inl (T 1, 9, .inl (fi 2))), ((a 6), .inl (T 1, 9, .inl (fi 3))), ((a 7), .inl (T 1, 9, .inl (fi 4)))]) [0, 7, 1, 2, 3, 4, 5, 6] rfl
      have hD9 := hD.sub (ws' := [((a 0), .inr (11, [.ref (ex 0), .ref (a 1), .ref (ex 1), .ref (ex 2), .ref (a 3), .ref (ex 3), .ref (ex 4), .ref (ex 5), .ref (ex 6), .ref (ex 7), .ref (ex 8), .ref (ex 9), .ref (ex 10), .ref (ex 11), .int (vi 2)])), ((a 1), .inr (7, [.int (vi 3), .int (vi 4), .ref (ex 12), .ref (a 2), .ref (ex 13), .ref (a 7), .ref (ex 14), .ref (ex 15), .ref (ex 16), .ref (ex 17), .ref (ex 18), .ref (ex 19)])), ((a 2), .inl (T 1, 9, .inl (fi 0))), ((a 3), .inr (2, [.ref (a 1), .int (vi 5), .int (vi 6), .int (vi 7), .int (vi 8), .int (vi 9), .int (vi 10), .ref (a 6), .ref (a 5), .ref (a 4), .ref (ex 20), .ref (ex 21), .ref (ex 22), .ref (ex 23), .ref (ex 24)])), ((a 4), .inl (T 1, 9, .inl (fi 1))), ((a 5), .inl (T 1, 9, .inl (fi 2))), ((a 6), .inl (T 1, 9, .inl (fi 3))), ((a 7), .inl (T 1, 9, .inl (fi 4)))]) [0, 7, 1, 2, 3, 4, 5, 6] (by decide +kernel) rfl
      rw [hQ]
      exact W.iret (v := ((fi 4) (vi 0).toNatClampNeg)) hx hb hr (fun t ht hW => ⟨⟨((fi 4) (vi 0).toNatClampNeg), ((fi 4) (vi 0).toNatClampNeg), rfl, rfl, xf [], xh [], xv [], xl [], by rw [ht]; exact hP9, hD9, trivial⟩, hS.F ht⟩) hS.2.2 dX11_name_130
    · refine lv_tableOut (tgt := 131) hx hb dX11_name_14 (by omega) (by decide) ?_
      refine lv_iconst (v := (-1)) hx hb dX11_name_131 (by decide) ?_
      have hP9 := hP.sub (ws' := [((a 0), .inr (11, [.ref (ex 0), .ref (a 1), .ref (ex 1), .ref (ex 2), .ref (a 3), .ref (ex 3), .ref (ex 4), .ref (ex 5), .ref (ex 6), .ref (ex 7), .ref (ex 8), .ref (ex 9), .ref (ex 10), .ref (ex 11), .int (vi 2)])), ((a 1), .inr (7, [.int (vi 3), .int (vi 4), .ref (ex 12), .ref (a 2), .ref (ex 13), .ref (a 7), .ref (ex 14), .ref (ex 15), .ref (ex 16), .ref (ex 17), .ref (ex 18), .ref (ex 19)])), ((a 2), .inl (T 1, 9, .inl (fi 0))), ((a 3), .inr (2, [.ref (a 1), .int (vi 5), .int (vi 6), .int (vi 7), .int (vi 8), .int (vi 9), .int (vi 10), .ref (a 6), .ref (a 5), .ref (a 4), .ref (ex 20), .ref (ex 21), .ref (ex 22), .ref (ex 23), .ref (ex 24)])), ((a 4), .inl (T 1, 9, .inl (fi 1))), ((a 5), .inl (T 1, 9, .inl (fi 2))), ((a 6), .inl (T 1, 9, .inl (fi 3))), ((a 7), .inl (T 1, 9, .inl (fi 4)))]) [0, 7, 1, 2, 3, 4, 5, 6] rfl
      have hD9 := hD.sub (ws' := [((a 0), .inr (11, [.ref (ex 0), .ref (a 1), .ref (ex 1), .ref (ex 2), .ref (a 3), .ref (ex 3), .ref (ex 4), .ref (ex 5), .ref (ex 6), .ref (ex 7), .ref (ex 8), .ref (ex 9), .ref (ex 10), .ref (ex 11), .int (vi 2)])), ((a 1), .inr (7, [.int (vi 3), .int (vi 4), .ref (ex 12), .ref (a 2), .ref (ex 13), .ref (a 7), .ref (ex 14), .ref (ex 15), .ref (ex 16), .ref (ex 17), .ref (ex 18), .ref (ex 19)])), ((a 2), .inl (T 1, 9, .inl (fi 0))), ((a 3), .inr (2, [.ref (a 1), .int (vi 5), .int (vi 6), .int (vi 7), .int (vi 8), .int (vi 9), .int (vi 10), .ref (a 6), .ref (a 5), .ref (a 4), .ref (ex 20), .ref (ex 21), .ref (ex 22), .ref (ex 23), .ref (ex 24)])), ((a 4), .inl (T 1, 9, .inl (fi 1))), ((a 5), .inl (T 1, 9, .inl (fi 2))), ((a 6), .inl (T 1, 9, .inl (fi 3))), ((a 7), .inl (T 1, 9, .inl (fi 4)))]) [0, 7, 1, 2, 3, 4, 5, 6] (by decide +kernel) rfl
      rw [hQ]
      exact W.iret (v := (-1)) hx hb hr (fun t ht hW => ⟨⟨(-1), (-1), rfl, rfl, xf [], xh [], xv [], xl [], by rw [ht]; exact hP9, hD9, trivial⟩, hS.F ht⟩) hS.2.2 dX11_name_132
  · refine xz_i 0 er9 ?_
    refine lv_if_ne (tgt := 13) hx hb dX11_name_8 (by decide) (fun c => absurd (by decide) c) (fun _ => ?_)
    refine lv_iconst (v := (-1)) hx hb dX11_name_11 (by decide) ?_
    have hP9 := hP.sub (ws' := [((a 0), .inr (11, [.ref (ex 0), .ref (a 1), .ref (ex 1), .ref (ex 2), .ref (a 3), .ref (ex 3), .ref (ex 4), .ref (ex 5), .ref (ex 6), .ref (ex 7), .ref (ex 8), .ref (ex 9), .ref (ex 10), .ref (ex 11), .int (vi 2)])), ((a 1), .inr (7, [.int (vi 3), .int (vi 4), .ref (ex 12), .ref (a 2), .ref (ex 13), .ref (a 7), .ref (ex 14), .ref (ex 15), .ref (ex 16), .ref (ex 17), .ref (ex 18), .ref (ex 19)])), ((a 2), .inl (T 1, 9, .inl (fi 0))), ((a 3), .inr (2, [.ref (a 1), .int (vi 5), .int (vi 6), .int (vi 7), .int (vi 8), .int (vi 9), .int (vi 10), .ref (a 6), .ref (a 5), .ref (a 4), .ref (ex 20), .ref (ex 21), .ref (ex 22), .ref (ex 23), .ref (ex 24)])), ((a 4), .inl (T 1, 9, .inl (fi 1))), ((a 5), .inl (T 1, 9, .inl (fi 2))), ((a 6), .inl (T 1, 9, .inl (fi 3))), ((a 7), .inl (T 1, 9, .inl (fi 4)))]) [0, 7, 1, 2, 3, 4, 5, 6] rfl
    have hD9 := hD.sub (ws' := [((a 0), .inr (11, [.ref (ex 0), .ref (a 1), .ref (ex 1), .ref (ex 2), .ref (a 3), .ref (ex 3), .ref (ex 4), .ref (ex 5), .ref (ex 6), .ref (ex 7), .ref (ex 8), .ref (ex 9), .ref (ex 10), .ref (ex 11), .int (vi 2)])), ((a 1), .inr (7, [.int (vi 3), .int (vi 4), .ref (ex 12), .ref (a 2), .ref (ex 13), .ref (a 7), .ref (ex 14), .ref (ex 15), .ref (ex 16), .ref (ex 17), .ref (ex 18), .ref (ex 19)])), ((a 2), .inl (T 1, 9, .inl (fi 0))), ((a 3), .inr (2, [.ref (a 1), .int (vi 5), .int (vi 6), .int (vi 7), .int (vi 8), .int (vi 9), .int (vi 10), .ref (a 6), .ref (a 5), .ref (a 4), .ref (ex 20), .ref (ex 21), .ref (ex 22), .ref (ex 23), .ref (ex 24)])), ((a 4), .inl (T 1, 9, .inl (fi 1))), ((a 5), .inl (T 1, 9, .inl (fi 2))), ((a 6), .inl (T 1, 9, .inl (fi 3))), ((a 7), .inl (T 1, 9, .inl (fi 4)))]) [0, 7, 1, 2, 3, 4, 5, 6] (by decide +kernel) rfl
    rw [hQ]
    exact W.iret (v := (-1)) hx hb hr (fun t ht hW => ⟨⟨(-1), (-1), rfl, rfl, xf [], xh [], xv [], xl [], by rw [ht]; exact hP9, hD9, trivial⟩, hS.F ht⟩) hS.2.2 dX11_name_12
abbrev pre_X7_isSoul (T : Nat → ClassId) (a ex : Nat → Nat) (fi : Nat → Nat → Int32) (fl : Nat → Nat → Int64) (vi : Nat → Int32) (vl : Nat → Int64) : va_W := [((a 0), .inr (7, [.int (vi 1), .int (vi 2), .ref (ex 0), .ref (ex 1), .ref (ex 2), .ref (ex 3), .ref (ex 4), .ref (ex 5), .ref (ex 6), .ref (ex 7), .ref (ex 8), .ref (ex 9)]))]
set_option maxHeartbeats 8000000 in
set_option maxRecDepth 100000 in
theorem c_X7_isSoul (l : Launch) (D : va_G) (T : Nat → ClassId) (a ex : Nat → Nat) (fi : Nat → Nat → Int32) (fl : Nat → Nat → Int64) (vi : Nat → Int32) (vl : Nat → Int64) (sz : Nat) (hp0 : 0 ≤ (vi 1).toInt ∧ (vi 1).toInt ≤ 9) (hp1 : 0 ≤ (vi 2).toInt ∧ (vi 2).toInt ≤ 9) : Met l yX7_isSoul (xw yX7_isSoul cX7_isSoul 2 (some .boolean)) ({ frames := 0, cells := 0, slots := 0, locals := 0 }) (xP D T [.ref (a 0), .int (vi 0)] sz (pre_X7_isSoul T a ex fi fl vi vl)) (va_Qi (fun r u => r = u) (xC D (va_A (pre_X7_isSoul T a ex fi fl vi vl) sz) (fun fj fm vj vm => [((a 0), .inr (7, [.int (vi 1), .int (vi 2), .ref (ex 0), .ref (ex 1), .ref (ex 2), .ref (ex 3), .ref (ex 4), .ref (ex 5), .ref (ex 6), .ref (ex 7), .ref (ex 8), .ref (ex 9)]))]) (fun (r : Int32) (fj : Nat → Nat → Int32) (fm : Nat → Nat → Int64) (vj : Nat → Int32) (vm : Nat → Int64) => ((r = 1 ∧ (0 ≤ (vi 0).toInt ∧ (vi 0).toInt < (vi 2).toInt)) ∨ (r = 0 ∧ (¬ (0 ≤ (vi 0).toInt ∧ (vi 0).toInt < (vi 2).toInt)))) ∧ True)) (va_A (pre_X7_isSoul T a ex fi fl vi vl) sz)) 0 0 (va_A (pre_X7_isSoul T a ex fi fl vi vl) sz) := by
  refine xofW (cc := cX7_isSoul) (maxL := 2) (ret := (some .boolean)) (by decide) rfl ?_
  intro p e s m args below meth c s₁ R Q hR hQ B hml hv
  obtain ⟨rfl, hsz, hP, hK, hD0⟩ := hv
  have hx := B.exec
  have hb := B.bytes
  have hr := B.returns
  have hts := atoms_spec (ws := xw yX7_isSoul cX7_isSoul 2 (some .boolean)) B.pre
  have htg : ∀ w ∈ xg, w.before _ s = true := fun w h => hts w (List.mem_cons_of_mem _ h)
  have hown : s.vm.findClass RX7 = some m.cls := findClass_of_methodNamed B.named
  have hlocks := B.notSynchronized
  subst hsz
  have hD := hD0.self (sz := s.heap.size)
  generalize hAe : va_A (pre_X7_isSoul T a ex fi fl vi vl) s.heap.size = A at hD hQ
  have hA : ∀ q : Nat, s.heap.size ≤ q → A q := fun q h => by rw [← hAe]; exact Or.inr h
  have hS : va_S A s.heap s.heap [] := va_S.rf
  replace hP : va_P D vwCl [((a 0), .inr (7, [.int (vi 1), .int (vi 2), .ref (ex 0), .ref (ex 1), .ref (ex 2), .ref (ex 3), .ref (ex 4), .ref (ex 5), .ref (ex 6), .ref (ex 7), .ref (ex 8), .ref (ex 9)]))] s.heap := hP
  replace hD : va_D A [((a 0), .inr (7, [.int (vi 1), .int (vi 2), .ref (ex 0), .ref (ex 1), .ref (ex 2), .ref (ex 3), .ref (ex 4), .ref (ex 5), .ref (ex 6), .ref (ex 7), .ref (ex 8), .ref (ex 9)]))] := hD
  have hl := lv_entry ([.ref (a 0), .int (vi 0)]) (n := 2) (Nat.le_of_ble_eq_true rfl)
  rw [lg_entry_eq]
  generalize (lg_sl ([.ref (a 0), .int (vi 0)]) ++ List.replicate (2 - (lg_sl ([.ref (a 0), .int (vi 0)])).length) Slot.unset).toArray = ls at hl ⊢
  replace hl : lv_has ls 2 [(0, .ref (a 0)), (1, .int (vi 0))] := hl
  refine lv_iload_n hx hb dX7_isSoul_0 rfl (lv_at hl 1 rfl) ?_
  refine lv_if_lt (tgt := 16) hx hb dX7_isSoul_1 (by decide) (fun c1 => ?_) (fun c1 => ?_)
  · have c1 := xlt (k := 0) (by decide) c1
    refine lv_iconst (v := 0) hx hb dX7_isSoul_16 (by decide) ?_
    have hP9 := hP.sub (ws' := [((a 0), .inr (7, [.int (vi 1), .int (vi 2), .ref (ex 0), .ref (ex 1), .ref (ex 2), .ref (ex 3), .ref (ex 4), .ref (ex 5), .ref (ex 6), .ref (ex 7), .ref (ex 8), .ref (ex 9)]))]) [0] rfl
    have hD9 := hD.sub (ws' := [((a 0), .inr (7, [.int (vi 1), .int (vi 2), .ref (ex 0), .ref (ex 1), .ref (ex 2), .ref (ex 3), .ref (ex 4), .ref (ex 5), .ref (ex 6), .ref (ex 7), .ref (ex 8), .ref (ex 9)]))]) [0] (by decide +kernel) rfl
    rw [hQ]
    exact W.zret (v := 0) hx hb hr rfl (fun t ht hW => ⟨⟨0, 0, rfl, rfl, xf [], xh [], xv [], xl [], by rw [ht]; exact hP9, hD9, ⟨(Or.inr ⟨rfl, by show ¬ (0 ≤ (vi 0).toInt ∧ (vi 0).toInt < (vi 2).toInt); first | trivial | omega | assumption⟩), trivial⟩⟩, hS.F ht⟩) hS.2.2 dX7_isSoul_17
  · have c1 := xnlt (k := 0) (by decide) c1
    refine lv_iload_n hx hb dX7_isSoul_4 rfl (lv_at hl 1 rfl) ?_
    refine lv_aload_n hx hb dX7_isSoul_5 rfl (lv_at hl 0 rfl) ?_
    refine va_get (D := D) (ci := 7) (v := .int (vi 2)) (C := RX7) (T := TX7) (N := 12) hx hb htg inX7 hown hK.1 hP 0 rfl rfl 1 (by decide) (htg _ kw_163) (fun _ h9 => h9) rfl dX7_isSoul_6 ?_
    refine lv_icmp_ge (tgt := 16) hx hb dX7_isSoul_9 (by decide) (fun c9 => ?_) (fun c9 => ?_)
    · have c9 := Int32.le_iff_toInt_le.mp c9
      have rc9 := xrng (vi 0); have qc9 := xrng (vi 2)
      refine lv_iconst (v := 0) hx hb dX7_isSoul_16 (by decide) ?_
      have hP9 := hP.sub (ws' := [((a 0), .inr (7, [.int (vi 1), .int (vi 2), .ref (ex 0), .ref (ex 1), .ref (ex 2), .ref (ex 3), .ref (ex 4), .ref (ex 5), .ref (ex 6), .ref (ex 7), .ref (ex 8), .ref (ex 9)]))]) [0] rfl
      have hD9 := hD.sub (ws' := [((a 0), .inr (7, [.int (vi 1), .int (vi 2), .ref (ex 0), .ref (ex 1), .ref (ex 2), .ref (ex 3), .ref (ex 4), .ref (ex 5), .ref (ex 6), .ref (ex 7), .ref (ex 8), .ref (ex 9)]))]) [0] (by decide +kernel) rfl
      rw [hQ]
      exact W.zret (v := 0) hx hb hr rfl (fun t ht hW => ⟨⟨0, 0, rfl, rfl, xf [], xh [], xv [], xl [], by rw [ht]; exact hP9, hD9, ⟨(Or.inr ⟨rfl, by show ¬ (0 ≤ (vi 0).toInt ∧ (vi 0).toInt < (vi 2).toInt); first | trivial | omega | assumption⟩), trivial⟩⟩, hS.F ht⟩) hS.2.2 dX7_isSoul_17
    · have c9 := (mt Int32.le_iff_toInt_le.mpr c9)
      have rc9 := xrng (vi 0); have qc9 := xrng (vi 2)
      refine lv_iconst (v := 1) hx hb dX7_isSoul_12 (by decide) ?_
      refine lv_goto (tgt := 17) hx hb dX7_isSoul_13 (by decide) ?_
      have hP9 := hP.sub (ws' := [((a 0), .inr (7, [.int (vi 1), .int (vi 2), .ref (ex 0), .ref (ex 1), .ref (ex 2), .ref (ex 3), .ref (ex 4), .ref (ex 5), .ref (ex 6), .ref (ex 7), .ref (ex 8), .ref (ex 9)]))]) [0] rfl
      have hD9 := hD.sub (ws' := [((a 0), .inr (7, [.int (vi 1), .int (vi 2), .ref (ex 0), .ref (ex 1), .ref (ex 2), .ref (ex 3), .ref (ex 4), .ref (ex 5), .ref (ex 6), .ref (ex 7), .ref (ex 8), .ref (ex 9)]))]) [0] (by decide +kernel) rfl
      rw [hQ]
      exact W.zret (v := 1) hx hb hr rfl (fun t ht hW => ⟨⟨1, 1, rfl, rfl, xf [], xh [], xv [], xl [], by rw [ht]; exact hP9, hD9, ⟨(Or.inl ⟨rfl, by show 0 ≤ (vi 0).toInt ∧ (vi 0).toInt < (vi 2).toInt; first | trivial | omega | assumption⟩), trivial⟩⟩, hS.F ht⟩) hS.2.2 dX7_isSoul_17
abbrev pre_X7_worthOf (T : Nat → ClassId) (a ex : Nat → Nat) (fi : Nat → Nat → Int32) (fl : Nat → Nat → Int64) (vi : Nat → Int32) (vl : Nat → Int64) : va_W := [((a 0), .inr (7, [.int (vi 2), .int (vi 3), .ref (ex 0), .ref (ex 1), .ref (ex 2), .ref (ex 3), .ref (ex 4), .ref (ex 5), .ref (ex 6), .ref (ex 7), .ref (ex 8), .ref (a 1)])), ((a 1), .inl (T 1, 81, .inl (fi 0)))]
set_option maxHeartbeats 8000000 in
set_option maxRecDepth 100000 in
theorem c_X7_worthOf (l : Launch) (D : va_G) (T : Nat → ClassId) (a ex : Nat → Nat) (fi : Nat → Nat → Int32) (fl : Nat → Nat → Int64) (vi : Nat → Int32) (vl : Nat → Int64) (sz : Nat) (hp0 : 0 ≤ (vi 2).toInt ∧ (vi 2).toInt ≤ 9) (hp1 : 0 ≤ (vi 3).toInt ∧ (vi 3).toInt ≤ 9) : Met l yX7_worthOf (xw yX7_worthOf cX7_worthOf 3 (some .int)) ({ frames := 1, cells := 0, slots := 0, locals := 25 }) (xP D T [.ref (a 0), .int (vi 0), .int (vi 1)] sz (pre_X7_worthOf T a ex fi fl vi vl)) (va_Qi (fun r u => r = u) (xC D (va_A (pre_X7_worthOf T a ex fi fl vi vl) sz) (fun fj fm vj vm => [((a 0), .inr (7, [.int (vi 2), .int (vi 3), .ref (ex 0), .ref (ex 1), .ref (ex 2), .ref (ex 3), .ref (ex 4), .ref (ex 5), .ref (ex 6), .ref (ex 7), .ref (ex 8), .ref (a 1)])), ((a 1), .inl (T 1, 81, .inl (fi 0)))]) (fun (r : Int32) (fj : Nat → Nat → Int32) (fm : Nat → Nat → Int64) (vj : Nat → Int32) (vm : Nat → Int64) => R_X7_worthOf fi fl vi vl r fj fm vj vm ∧ True)) (va_A (pre_X7_worthOf T a ex fi fl vi vl) sz)) 0 0 (va_A (pre_X7_worthOf T a ex fi fl vi vl) sz) := by
  refine xofW (cc := cX7_worthOf) (maxL := 3) (ret := (some .int)) (by decide) rfl ?_
  intro p e s m args below meth c s₁ R Q hR hQ B hml hv
  obtain ⟨rfl, hsz, hP, hK, hD0⟩ := hv
  have hx := B.exec
  have hb := B.bytes
  have hr := B.returns
  have hts := atoms_spec (ws := xw yX7_worthOf cX7_worthOf 3 (some .int)) B.pre
  have htg : ∀ w ∈ xg, w.before _ s = true := fun w h => hts w (List.mem_cons_of_mem _ h)
  have hown : s.vm.findClass RX7 = some m.cls := findClass_of_methodNamed B.named
  have hlocks := B.notSynchronized
  subst hsz
  have hD := hD0.self (sz := s.heap.size)
  generalize hAe : va_A (pre_X7_worthOf T a ex fi fl vi vl) s.heap.size = A at hD hQ
  have hA : ∀ q : Nat, s.heap.size ≤ q → A q := fun q h => by rw [← hAe]; exact Or.inr h
  have hS : va_S A s.heap s.heap [] := va_S.rf
  replace hP : va_P D vwCl [((a 0), .inr (7, [.int (vi 2), .int (vi 3), .ref (ex 0), .ref (ex 1), .ref (ex 2), .ref (ex 3), .ref (ex 4), .ref (ex 5), .ref (ex 6), .ref (ex 7), .ref (ex 8), .ref (a 1)])), ((a 1), .inl (T 1, 81, .inl (fi 0)))] s.heap := hP
  replace hD : va_D A [((a 0), .inr (7, [.int (vi 2), .int (vi 3), .ref (ex 0), .ref (ex 1), .ref (ex 2), .ref (ex 3), .ref (ex 4), .ref (ex 5), .ref (ex 6), .ref (ex 7), .ref (ex 8), .ref (a 1)])), ((a 1), .inl (T 1, 81, .inl (fi 0)))] := hD
  have hl := lv_entry ([.ref (a 0), .int (vi 0), .int (vi 1)]) (n := 3) (Nat.le_of_ble_eq_true rfl)
  rw [lg_entry_eq]
  generalize (lg_sl ([.ref (a 0), .int (vi 0), .int (vi 1)]) ++ List.replicate (3 - (lg_sl ([.ref (a 0), .int (vi 0), .int (vi 1)])).length) Slot.unset).toArray = ls at hl ⊢
  replace hl : lv_has ls 3 [(0, .ref (a 0)), (1, .int (vi 0)), (2, .int (vi 1))] := hl
  refine lv_aload_n hx hb dX7_worthOf_0 rfl (lv_at hl 0 rfl) ?_
  refine lv_iload_n hx hb dX7_worthOf_1 rfl (lv_at hl 1 rfl) ?_
  obtain ⟨hC9, hPc, hDc, hFc⟩ := xcut (wc := (pre_X7_isSoul T (xa [(a 0)]) (xa [(ex 0), (ex 1), (ex 2), (ex 3), (ex 4), (ex 5), (ex 6), (ex 7), (ex 8), (a 1)]) (xf []) (xh []) (xv [(vi 0), (vi 2), (vi 3)]) (xl []))) hP hD hS hA [0] (by decide) rfl
  refine va_calli (va_runV (As := [.int (vi 0)]) (rest := []) ⟨hx, hb, hml, hown, htg⟩ (c_X7_isSoul l D T (xa [(a 0)]) (xa [(ex 0), (ex 1), (ex 2), (ex 3), (ex 4), (ex 5), (ex 6), (ex 7), (ex 8), (a 1)]) (xf []) (xh []) (xv [(vi 0), (vi 2), (vi 3)]) (xl []) s.heap.size hp0 hp1) ⟨callB_of 1 htg (xg_ok kw_664) rfl rfl rfl (htg _ kw_7) (htg _ kw_679) (by decide +kernel) ⟨by rw [hR]; exact Nat.le_of_ble_eq_true rfl, by rw [hR]; exact Nat.le_of_ble_eq_true rfl⟩, htg _ kw_663, htg _ ks_25⟩ (xpreV hK hPc hDc (va_recv hK.1 hPc (ci := 7) (q0 := 0) rfl rfl)) rfl rfl hl.1 rfl (lv_room (Nat.le_of_ble_eq_true rfl)) dX7_worthOf_2 ⟨by rw [hR]; exact Nat.le_of_ble_eq_true rfl, by rw [hR]; exact Nat.le_of_ble_eq_true rfl⟩) hS (fun q _ h => hFc q h) hFc (fun r9 u9 t H1 locs ht hvm hw hB hz1 hk1 hS => ?_)
  subst hw
  obtain ⟨fik, flk, vik, vlk, hP1, hD1, hG⟩ := hB
  rw [ht] at hP1
  obtain ⟨hP, hD⟩ := va_join (wr := [((a 1), .inl (T 1, 81, .inl (fi 0)))]) (w1 := [((a 0), .inr (7, [.int (vi 2), .int (vi 3), .ref (ex 0), .ref (ex 1), .ref (ex 2), .ref (ex 3), .ref (ex 4), .ref (ex 5), .ref (ex 6), .ref (ex 7), .ref (ex 8), .ref (a 1)]))]) hP hD [0] [1] hC9 rfl (by decide) (by decide) hk1 hFc hP1 hD1
  obtain ⟨rk, er9⟩ : ∃ z, z = r9 := ⟨_, rfl⟩
  subst er9
  clear hPc hDc hFc hP1 hD1 hk1 hz1 hvm ht hC9
  generalize H1 = H at hP hS ⊢
  obtain ⟨hP, hD⟩ := (show xPD D A [((a 1), .inl (T 1, 81, .inl (fi 0))), ((a 0), .inr (7, [.int (vi 2), .int (vi 3), .ref (ex 0), .ref (ex 1), .ref (ex 2), .ref (ex 3), .ref (ex 4), .ref (ex 5), .ref (ex 6), .ref (ex 7), .ref (ex 8), .ref (a 1)]))] H from ⟨hP, hD⟩)
  obtain ⟨gk_0, -⟩ := hG
  rcases (show (rk = 1 ∧ (0 ≤ (vi 0).toInt ∧ (vi 0).toInt < (vi 3).toInt)) ∨ (rk = 0 ∧ (¬ (0 ≤ (vi 0).toInt ∧ (vi 0).toInt < (vi 3).toInt))) from gk_0) with ⟨er9, gk_0⟩ | ⟨er9, gk_0⟩
  · refine xz_i 1 er9 ?_
    have tb : rk.toInt = 1 := by rw [er9]; decide
    refine lv_if_eq (tgt := 30) hx hb dX7_worthOf_5 (by decide) (fun c => absurd c (by decide)) (fun _ => ?_)
    refine lv_aload_n hx hb dX7_worthOf_8 rfl (lv_at hl 0 rfl) ?_
    refine lv_iload_n hx hb dX7_worthOf_9 rfl (lv_at hl 2 rfl) ?_
    obtain ⟨hC9, hPc, hDc, hFc⟩ := xcut (wc := (pre_X7_isName T (xa [(a 0)]) (xa [(ex 0), (ex 1), (ex 2), (ex 3), (ex 4), (ex 5), (ex 6), (ex 7), (ex 8), (a 1)]) (xf []) (xh []) (xv [(vi 1), (vi 2), (vi 3)]) (xl []))) hP hD hS hA [1] (by decide) rfl
    refine va_calli (va_runV (As := [.int (vi 1)]) (rest := []) ⟨hx, hb, hml, hown, htg⟩ (c_X7_isName l D T (xa [(a 0)]) (xa [(ex 0), (ex 1), (ex 2), (ex 3), (ex 4), (ex 5), (ex 6), (ex 7), (ex 8), (a 1)]) (xf []) (xh []) (xv [(vi 1), (vi 2), (vi 3)]) (xl []) H.size hp0 hp1) ⟨callB_of 1 htg (xg_ok kw_683) rfl rfl rfl (htg _ kw_7) (htg _ kw_680) (by decide +kernel) ⟨by rw [hR]; exact Nat.le_of_ble_eq_true rfl, by rw [hR]; exact Nat.le_of_ble_eq_true rfl⟩, htg _ kw_682, htg _ ks_29⟩ (xpreV hK hPc hDc (va_recv hK.1 hPc (ci := 7) (q0 := 0) rfl rfl)) rfl rfl hl.1 rfl (lv_room (Nat.le_of_ble_eq_true rfl)) dX7_worthOf_10 ⟨by rw [hR]; exact Nat.le_of_ble_eq_true rfl, by rw [hR]; exact Nat.le_of_ble_eq_true rfl⟩) hS (fun q _ h => hFc q h) hFc (fun r9 u9 t H1 locs ht hvm hw hB hz1 hk1 hS => ?_)
    subst hw
    obtain ⟨fik_1, flk_1, vik_1, vlk_1, hP1, hD1, hG⟩ := hB
    rw [ht] at hP1
    obtain ⟨hP, hD⟩ := va_join (wr := [((a 1), .inl (T 1, 81, .inl (fi 0)))]) (w1 := [((a 0), .inr (7, [.int (vi 2), .int (vi 3), .ref (ex 0), .ref (ex 1), .ref (ex 2), .ref (ex 3), .ref (ex 4), .ref (ex 5), .ref (ex 6), .ref (ex 7), .ref (ex 8), .ref (a 1)]))]) hP hD [1] [0] hC9 rfl (by decide) (by decide) hk1 hFc hP1 hD1
    obtain ⟨rk_1, er9⟩ : ∃ z, z = r9 := ⟨_, rfl⟩
    subst er9
    clear hPc hDc hFc hP1 hD1 hk1 hz1 hvm ht hC9
    generalize H1 = H at hP hS ⊢
    obtain ⟨hP, hD⟩ := (show xPD D A [((a 1), .inl (T 1, 81, .inl (fi 0))), ((a 0), .inr (7, [.int (vi 2), .int (vi 3), .ref (ex 0), .ref (ex 1), .ref (ex 2), .ref (ex 3), .ref (ex 4), .ref (ex 5), .ref (ex 6), .ref (ex 7), .ref (ex 8), .ref (a 1)]))] H from ⟨hP, hD⟩)
    obtain ⟨gk_1_0, -⟩ := hG
    rcases (show (rk_1 = 1 ∧ (0 ≤ (vi 1).toInt ∧ (vi 1).toInt < (vi 2).toInt)) ∨ (rk_1 = 0 ∧ (¬ (0 ≤ (vi 1).toInt ∧ (vi 1).toInt < (vi 2).toInt))) from gk_1_0) with ⟨er9, gk_1_0⟩ | ⟨er9, gk_1_0⟩
    · refine xz_i 1 er9 ?_
      have tb_1 : rk_1.toInt = 1 := by rw [er9]; decide
      refine lv_if_eq (tgt := 30) hx hb dX7_worthOf_13 (by decide) (fun c => absurd c (by decide)) (fun _ => ?_)
      refine lv_aload_n hx hb dX7_worthOf_16 rfl (lv_at hl 0 rfl) ?_
      refine va_get (D := D) (ci := 7) (v := .ref (a 1)) (C := RX7) (T := TX7) (N := 12) hx hb htg inX7 hown hK.1 hP 1 rfl rfl 11 (by decide) (htg _ kw_194) (fun _ h9 => h9) rfl dX7_worthOf_17 ?_
      refine lv_iload_n hx hb dX7_worthOf_20 rfl (lv_at hl 1 rfl) ?_
      refine lv_bipush (v := 9) hx hb dX7_worthOf_21 (by decide) ?_
      refine lv_imul hx hb dX7_worthOf_23 ?_
      refine lv_topi (fun z23 ez23 => ?_)
      have tz23 : z23.toInt = (vi 0).toInt * 9 := by rw [ez23]; exact xmul rfl (by decide) (by omega) (by omega)
      refine lv_iload_n hx hb dX7_worthOf_24 rfl (lv_at hl 2 rfl) ?_
      refine lv_iadd hx hb dX7_worthOf_25 ?_
      refine lv_topi (fun z25 ez25 => ?_)
      have tz25 : z25.toInt = z23.toInt + (vi 1).toInt := by rw [ez25]; exact xadd rfl rfl (by omega) (by omega)
      refine va_iald hx hb hK.1 hP 0 1 rfl rfl (vp_in_iff.mpr (by omega)) dX7_worthOf_26 ?_
      refine lv_goto (tgt := 31) hx hb dX7_worthOf_27 (by decide) ?_
      have hP9 := hP.sub (ws' := [((a 0), .inr (7, [.int (vi 2), .int (vi 3), .ref (ex 0), .ref (ex 1), .ref (ex 2), .ref (ex 3), .ref (ex 4), .ref (ex 5), .ref (ex 6), .ref (ex 7), .ref (ex 8), .ref (a 1)])), ((a 1), .inl (T 1, 81, .inl (fi 0)))]) [1, 0] rfl
      have hD9 := hD.sub (ws' := [((a 0), .inr (7, [.int (vi 2), .int (vi 3), .ref (ex 0), .ref (ex 1), .ref (ex 2), .ref (ex 3), .ref (ex 4), .ref (ex 5), .ref (ex 6), .ref (ex 7), .ref (ex 8), .ref (a 1)])), ((a 1), .inl (T 1, 81, .inl (fi 0)))]) [1, 0] (by decide +kernel) rfl
      rw [hQ]
      exact W.iret (v := ((fi 0) z25.toNatClampNeg)) hx hb hr (fun t ht hW => ⟨⟨((fi 0) z25.toNatClampNeg), ((fi 0) z25.toNatClampNeg), rfl, rfl, xf [], xh [], xv [], xl [], by rw [ht]; exact hP9, hD9, ⟨(by unfold R_X7_worthOf; exact (fun Q9 k9_0 k9_1 k9_2 => k9_0 hp0 hp1 fik flk vik vlk rk tb gk_0 fik_1 flk_1 vik_1 vlk_1 rk_1 tb_1 gk_1_0 z23 ez23 tz23 z25 ez25 tz25 rfl)), trivial⟩⟩, hS.F ht⟩) hS.2.2 dX7_worthOf_31
    · refine xz_i 0 er9 ?_
      have tb_1 : rk_1.toInt = 0 := by rw [er9]; decide
      refine lv_if_eq (tgt := 30) hx hb dX7_worthOf_13 (by decide) (fun _ => ?_) (fun c => absurd (by decide) c)
      refine lv_iconst (v := 0) hx hb dX7_worthOf_30 (by decide) ?_
      have hP9 := hP.sub (ws' := [((a 0), .inr (7, [.int (vi 2), .int (vi 3), .ref (ex 0), .ref (ex 1), .ref (ex 2), .ref (ex 3), .ref (ex 4), .ref (ex 5), .ref (ex 6), .ref (ex 7), .ref (ex 8), .ref (a 1)])), ((a 1), .inl (T 1, 81, .inl (fi 0)))]) [1, 0] rfl
      have hD9 := hD.sub (ws' := [((a 0), .inr (7, [.int (vi 2), .int (vi 3), .ref (ex 0), .ref (ex 1), .ref (ex 2), .ref (ex 3), .ref (ex 4), .ref (ex 5), .ref (ex 6), .ref (ex 7), .ref (ex 8), .ref (a 1)])), ((a 1), .inl (T 1, 81, .inl (fi 0)))]) [1, 0] (by decide +kernel) rfl
      rw [hQ]
      exact W.iret (v := 0) hx hb hr (fun t ht hW => ⟨⟨0, 0, rfl, rfl, xf [], xh [], xv [], xl [], by rw [ht]; exact hP9, hD9, ⟨(by unfold R_X7_worthOf; exact (fun Q9 k9_0 k9_1 k9_2 => k9_1 hp0 hp1 fik flk vik vlk rk tb gk_0 fik_1 flk_1 vik_1 vlk_1 rk_1 tb_1 gk_1_0 rfl)), trivial⟩⟩, hS.F ht⟩) hS.2.2 dX7_worthOf_31
  · refine xz_i 0 er9 ?_
    have tb : rk.toInt = 0 := by rw [er9]; decide
    refine lv_if_eq (tgt := 30) hx hb dX7_worthOf_5 (by decide) (fun _ => ?_) (fun c => absurd (by decide) c)
    refine lv_iconst (v := 0) hx hb dX7_worthOf_30 (by decide) ?_
    have hP9 := hP.sub (ws' := [((a 0), .inr (7, [.int (vi 2), .int (vi 3), .ref (ex 0), .ref (ex 1), .ref (ex 2), .ref (ex 3), .ref (ex 4), .ref (ex 5), .ref (ex 6), .ref (ex 7), .ref (ex 8), .ref (a 1)])), ((a 1), .inl (T 1, 81, .inl (fi 0)))]) [1, 0] rfl
    have hD9 := hD.sub (ws' := [((a 0), .inr (7, [.int (vi 2), .int (vi 3), .ref (ex 0), .ref (ex 1), .ref (ex 2), .ref (ex 3), .ref (ex 4), .ref (ex 5), .ref (ex 6), .ref (ex 7), .ref (ex 8), .ref (a 1)])), ((a 1), .inl (T 1, 81, .inl (fi 0)))]) [1, 0] (by decide +kernel) rfl
    rw [hQ]
    exact W.iret (v := 0) hx hb hr (fun t ht hW => ⟨⟨0, 0, rfl, rfl, xf [], xh [], xv [], xl [], by rw [ht]; exact hP9, hD9, ⟨(by unfold R_X7_worthOf; exact (fun Q9 k9_0 k9_1 k9_2 => k9_2 hp0 hp1 fik flk vik vlk rk tb gk_0 rfl)), trivial⟩⟩, hS.F ht⟩) hS.2.2 dX7_worthOf_31
abbrev pre_X11_worth (T : Nat → ClassId) (a ex : Nat → Nat) (fi : Nat → Nat → Int32) (fl : Nat → Nat → Int64) (vi : Nat → Int32) (vl : Nat → Int64) : va_W := [((a 0), .inr (11, [.ref (ex 0), .ref (a 1), .ref (ex 1), .ref (ex 2), .ref (ex 3), .ref (ex 4), .ref (ex 5), .ref (ex 6), .ref (ex 7), .ref (ex 8), .ref (ex 9), .ref (ex 10), .ref (ex 11), .ref (ex 12), .int (vi 2)])), ((a 1), .inr (7, [.int (vi 3), .int (vi 4), .ref (ex 13), .ref (ex 14), .ref (ex 15), .ref (ex 16), .ref (ex 17), .ref (ex 18), .ref (ex 19), .ref (ex 20), .ref (ex 21), .ref (a 2)])), ((a 2), .inl (T 1, 81, .inl (fi 0)))]
set_option maxHeartbeats 8000000 in
set_option maxRecDepth 100000 in
theorem c_X11_worth (l : Launch) (D : va_G) (T : Nat → ClassId) (a ex : Nat → Nat) (fi : Nat → Nat → Int32) (fl : Nat → Nat → Int64) (vi : Nat → Int32) (vl : Nat → Int64) (sz : Nat) (hp0 : 0 ≤ (vi 3).toInt ∧ (vi 3).toInt ≤ 9) (hp1 : 0 ≤ (vi 4).toInt ∧ (vi 4).toInt ≤ 9) : Met l yX11_worth (xw yX11_worth cX11_worth 3 (some .int)) ({ frames := 2, cells := 0, slots := 0, locals := 51 }) (xP D T [.ref (a 0), .int (vi 0), .int (vi 1)] sz (pre_X11_worth T a ex fi fl vi vl)) (va_Qi (fun r u => r = u) (xC D (va_A (pre_X11_worth T a ex fi fl vi vl) sz) (fun fj fm vj vm => [((a 0), .inr (11, [.ref (ex 0), .ref (a 1), .ref (ex 1), .ref (ex 2), .ref (ex 3), .ref (ex 4), .ref (ex 5), .ref (ex 6), .ref (ex 7), .ref (ex 8), .ref (ex 9), .ref (ex 10), .ref (ex 11), .ref (ex 12), .int (vi 2)])), ((a 1), .inr (7, [.int (vi 3), .int (vi 4), .ref (ex 13), .ref (ex 14), .ref (ex 15), .ref (ex 16), .ref (ex 17), .ref (ex 18), .ref (ex 19), .ref (ex 20), .ref (ex 21), .ref (a 2)])), ((a 2), .inl (T 1, 81, .inl (fi 0)))]) (fun (r : Int32) (fj : Nat → Nat → Int32) (fm : Nat → Nat → Int64) (vj : Nat → Int32) (vm : Nat → Int64) => ((0 ≤ (vi 0).toInt ∧ (vi 0).toInt < (vi 4).toInt ∧ 0 ≤ (vi 1).toInt ∧ (vi 1).toInt < (vi 3).toInt ∧ r = (fi 0) (9 * ((vi 0).toInt).toNat + ((vi 1).toInt).toNat)) ∨ (¬ (0 ≤ (vi 0).toInt ∧ (vi 0).toInt < (vi 4).toInt ∧ 0 ≤ (vi 1).toInt ∧ (vi 1).toInt < (vi 3).toInt) ∧ r.toInt = -1)) ∧ True)) (va_A (pre_X11_worth T a ex fi fl vi vl) sz)) 0 0 (va_A (pre_X11_worth T a ex fi fl vi vl) sz) := by
  refine xofW (cc := cX11_worth) (maxL := 3) (ret := (some .int)) (by decide) rfl ?_
  intro p e s m args below meth c s₁ R Q hR hQ B hml hv
  obtain ⟨rfl, hsz, hP, hK, hD0⟩ := hv
  have hx := B.exec
  have hb := B.bytes
  have hr := B.returns
  have hts := atoms_spec (ws := xw yX11_worth cX11_worth 3 (some .int)) B.pre
  have htg : ∀ w ∈ xg, w.before _ s = true := fun w h => hts w (List.mem_cons_of_mem _ h)
  have hown : s.vm.findClass RX11 = some m.cls := findClass_of_methodNamed B.named
  have hlocks := B.notSynchronized
  subst hsz
  have hD := hD0.self (sz := s.heap.size)
  generalize hAe : va_A (pre_X11_worth T a ex fi fl vi vl) s.heap.size = A at hD hQ
  have hA : ∀ q : Nat, s.heap.size ≤ q → A q := fun q h => by rw [← hAe]; exact Or.inr h
  have hS : va_S A s.heap s.heap [] := va_S.rf
  replace hP : va_P D vwCl [((a 0), .inr (11, [.ref (ex 0), .ref (a 1), .ref (ex 1), .ref (ex 2), .ref (ex 3), .ref (ex 4), .ref (ex 5), .ref (ex 6), .ref (ex 7), .ref (ex 8), .ref (ex 9), .ref (ex 10), .ref (ex 11), .ref (ex 12), .int (vi 2)])), ((a 1), .inr (7, [.int (vi 3), .int (vi 4), .ref (ex 13), .ref (ex 14), .ref (ex 15), .ref (ex 16), .ref (ex 17), .ref (ex 18), .ref (ex 19), .ref (ex 20), .ref (ex 21), .ref (a 2)])), ((a 2), .inl (T 1, 81, .inl (fi 0)))] s.heap := hP
  replace hD : va_D A [((a 0), .inr (11, [.ref (ex 0), .ref (a 1), .ref (ex 1), .ref (ex 2), .ref (ex 3), .ref (ex 4), .ref (ex 5), .ref (ex 6), .ref (ex 7), .ref (ex 8), .ref (ex 9), .ref (ex 10), .ref (ex 11), .ref (ex 12), .int (vi 2)])), ((a 1), .inr (7, [.int (vi 3), .int (vi 4), .ref (ex 13), .ref (ex 14), .ref (ex 15), .ref (ex 16), .ref (ex 17), .ref (ex 18), .ref (ex 19), .ref (ex 20), .ref (ex 21), .ref (a 2)])), ((a 2), .inl (T 1, 81, .inl (fi 0)))] := hD
  have hl := lv_entry ([.ref (a 0), .int (vi 0), .int (vi 1)]) (n := 3) (Nat.le_of_ble_eq_true rfl)
  rw [lg_entry_eq]
  generalize (lg_sl ([.ref (a 0), .int (vi 0), .int (vi 1)]) ++ List.replicate (3 - (lg_sl ([.ref (a 0), .int (vi 0), .int (vi 1)])).length) Slot.unset).toArray = ls at hl ⊢
  replace hl : lv_has ls 3 [(0, .ref (a 0)), (1, .int (vi 0)), (2, .int (vi 1))] := hl
  refine lv_aload_n hx hb dX11_worth_0 rfl (lv_at hl 0 rfl) ?_
  refine va_get (D := D) (ci := 11) (v := .ref (a 1)) (C := RX11) (T := TX11) (N := 15) hx hb htg inX11 hown hK.1 hP 0 rfl rfl 1 (by decide) (htg _ kw_497) (fun _ h9 => h9) rfl dX11_worth_1 ?_
  refine lv_iload_n hx hb dX11_worth_4 rfl (lv_at hl 1 rfl) ?_
  obtain ⟨hC9, hPc, hDc, hFc⟩ := xcut (wc := (pre_X7_isSoul T (xa [(a 1)]) (xa [(ex 13), (ex 14), (ex 15), (ex 16), (ex 17), (ex 18), (ex 19), (ex 20), (ex 21), (a 2)]) (xf []) (xh []) (xv [(vi 0), (vi 3), (vi 4)]) (xl []))) hP hD hS hA [1] (by decide) rfl
  refine va_calli (va_runVN (As := [.int (vi 0)]) (rest := []) ⟨hx, hb, hml, hown, htg⟩ (c_X7_isSoul l D T (xa [(a 1)]) (xa [(ex 13), (ex 14), (ex 15), (ex 16), (ex 17), (ex 18), (ex 19), (ex 20), (ex 21), (a 2)]) (xf []) (xh []) (xv [(vi 0), (vi 3), (vi 4)]) (xl []) s.heap.size hp0 hp1) ⟨va_cnB 1 htg (xg_ok kw_664) rfl rfl rfl (hK.2.1 _ kn_764) (htg _ kw_7) (by decide +kernel) ⟨by rw [hR]; exact Nat.le_of_ble_eq_true rfl, by rw [hR]; exact Nat.le_of_ble_eq_true rfl⟩, htg _ kw_663, htg _ ks_25⟩ (xpreV hK hPc hDc (va_recv hK.1 hPc (ci := 7) (q0 := 0) rfl rfl)) rfl rfl hl.1 rfl (lv_room (Nat.le_of_ble_eq_true rfl)) dX11_worth_5 ⟨by rw [hR]; exact Nat.le_of_ble_eq_true rfl, by rw [hR]; exact Nat.le_of_ble_eq_true rfl⟩) hS (fun q _ h => hFc q h) hFc (fun r9 u9 t H1 locs ht hvm hw hB hz1 hk1 hS => ?_)
  subst hw
  obtain ⟨fik, flk, vik, vlk, hP1, hD1, hG⟩ := hB
  rw [ht] at hP1
  obtain ⟨hP, hD⟩ := va_join (wr := [((a 0), .inr (11, [.ref (ex 0), .ref (a 1), .ref (ex 1), .ref (ex 2), .ref (ex 3), .ref (ex 4), .ref (ex 5), .ref (ex 6), .ref (ex 7), .ref (ex 8), .ref (ex 9), .ref (ex 10), .ref (ex 11), .ref (ex 12), .int (vi 2)])), ((a 2), .inl (T 1, 81, .inl (fi 0)))]) (w1 := [((a 1), .inr (7, [.int (vi 3), .int (vi 4), .ref (ex 13), .ref (ex 14), .ref (ex 15), .ref (ex 16), .ref (ex 17), .ref (ex 18), .ref (ex 19), .ref (ex 20), .ref (ex 21), .ref (a 2)]))]) hP hD [1] [0, 2] hC9 rfl (by decide) (by decide) hk1 hFc hP1 hD1
  obtain ⟨rk, er9⟩ : ∃ z, z = r9 := ⟨_, rfl⟩
  subst er9
  clear hPc hDc hFc hP1 hD1 hk1 hz1 hvm ht hC9
  generalize H1 = H at hP hS ⊢
  obtain ⟨hP, hD⟩ := (show xPD D A [((a 0), .inr (11, [.ref (ex 0), .ref (a 1), .ref (ex 1), .ref (ex 2), .ref (ex 3), .ref (ex 4), .ref (ex 5), .ref (ex 6), .ref (ex 7), .ref (ex 8), .ref (ex 9), .ref (ex 10), .ref (ex 11), .ref (ex 12), .int (vi 2)])), ((a 2), .inl (T 1, 81, .inl (fi 0))), ((a 1), .inr (7, [.int (vi 3), .int (vi 4), .ref (ex 13), .ref (ex 14), .ref (ex 15), .ref (ex 16), .ref (ex 17), .ref (ex 18), .ref (ex 19), .ref (ex 20), .ref (ex 21), .ref (a 2)]))] H from ⟨hP, hD⟩)
  obtain ⟨gk_0, -⟩ := hG
  rcases (show (rk = 1 ∧ (0 ≤ (vi 0).toInt ∧ (vi 0).toInt < (vi 4).toInt)) ∨ (rk = 0 ∧ (¬ (0 ≤ (vi 0).toInt ∧ (vi 0).toInt < (vi 4).toInt))) from gk_0) with ⟨er9, gk_0⟩ | ⟨er9, gk_0⟩
  · refine xz_i 1 er9 ?_
    refine lv_if_eq (tgt := 34) hx hb dX11_worth_8 (by decide) (fun c => absurd c (by decide)) (fun _ => ?_)
    refine lv_aload_n hx hb dX11_worth_11 rfl (lv_at hl 0 rfl) ?_
    refine va_get (D := D) (ci := 11) (v := .ref (a 1)) (C := RX11) (T := TX11) (N := 15) hx hb htg inX11 hown hK.1 hP 0 rfl rfl 1 (by decide) (htg _ kw_497) (fun _ h9 => h9) rfl dX11_worth_12 ?_
    refine lv_iload_n hx hb dX11_worth_15 rfl (lv_at hl 2 rfl) ?_
    obtain ⟨hC9, hPc, hDc, hFc⟩ := xcut (wc := (pre_X7_isName T (xa [(a 1)]) (xa [(ex 13), (ex 14), (ex 15), (ex 16), (ex 17), (ex 18), (ex 19), (ex 20), (ex 21), (a 2)]) (xf []) (xh []) (xv [(vi 1), (vi 3), (vi 4)]) (xl []))) hP hD hS hA [2] (by decide) rfl
    refine va_calli (va_runVN (As := [.int (vi 1)]) (rest := []) ⟨hx, hb, hml, hown, htg⟩ (c_X7_isName l D T (xa [(a 1)]) (xa [(ex 13), (ex 14), (ex 15), (ex 16), (ex 17), (ex 18), (ex 19), (ex 20), (ex 21), (a 2)]) (xf []) (xh []) (xv [(vi 1), (vi 3), (vi 4)]) (xl []) H.size hp0 hp1) ⟨va_cnB 1 htg (xg_ok kw_683) rfl rfl rfl (hK.2.1 _ kn_743) (htg _ kw_7) (by decide +kernel) ⟨by rw [hR]; exact Nat.le_of_ble_eq_true rfl, by rw [hR]; exact Nat.le_of_ble_eq_true rfl⟩, htg _ kw_682, htg _ ks_29⟩ (xpreV hK hPc hDc (va_recv hK.1 hPc (ci := 7) (q0 := 0) rfl rfl)) rfl rfl hl.1 rfl (lv_room (Nat.le_of_ble_eq_true rfl)) dX11_worth_16 ⟨by rw [hR]; exact Nat.le_of_ble_eq_true rfl, by rw [hR]; exact Nat.le_of_ble_eq_true rfl⟩) hS (fun q _ h => hFc q h) hFc (fun r9 u9 t H1 locs ht hvm hw hB hz1 hk1 hS => ?_)
    subst hw
    obtain ⟨fik_1, flk_1, vik_1, vlk_1, hP1, hD1, hG⟩ := hB
    rw [ht] at hP1
    obtain ⟨hP, hD⟩ := va_join (wr := [((a 0), .inr (11, [.ref (ex 0), .ref (a 1), .ref (ex 1), .ref (ex 2), .ref (ex 3), .ref (ex 4), .ref (ex 5), .ref (ex 6), .ref (ex 7), .ref (ex 8), .ref (ex 9), .ref (ex 10), .ref (ex 11), .ref (ex 12), .int (vi 2)])), ((a 2), .inl (T 1, 81, .inl (fi 0)))]) (w1 := [((a 1), .inr (7, [.int (vi 3), .int (vi 4), .ref (ex 13), .ref (ex 14), .ref (ex 15), .ref (ex 16), .ref (ex 17), .ref (ex 18), .ref (ex 19), .ref (ex 20), .ref (ex 21), .ref (a 2)]))]) hP hD [2] [0, 1] hC9 rfl (by decide) (by decide) hk1 hFc hP1 hD1
    obtain ⟨rk_1, er9⟩ : ∃ z, z = r9 := ⟨_, rfl⟩
    subst er9
    clear hPc hDc hFc hP1 hD1 hk1 hz1 hvm ht hC9
    generalize H1 = H at hP hS ⊢
    obtain ⟨hP, hD⟩ := (show xPD D A [((a 0), .inr (11, [.ref (ex 0), .ref (a 1), .ref (ex 1), .ref (ex 2), .ref (ex 3), .ref (ex 4), .ref (ex 5), .ref (ex 6), .ref (ex 7), .ref (ex 8), .ref (ex 9), .ref (ex 10), .ref (ex 11), .ref (ex 12), .int (vi 2)])), ((a 2), .inl (T 1, 81, .inl (fi 0))), ((a 1), .inr (7, [.int (vi 3), .int (vi 4), .ref (ex 13), .ref (ex 14), .ref (ex 15), .ref (ex 16), .ref (ex 17), .ref (ex 18), .ref (ex 19), .ref (ex 20), .ref (ex 21), .ref (a 2)]))] H from ⟨hP, hD⟩)
    obtain ⟨gk_1_0, -⟩ := hG
    rcases (show (rk_1 = 1 ∧ (0 ≤ (vi 1).toInt ∧ (vi 1).toInt < (vi 3).toInt)) ∨ (rk_1 = 0 ∧ (¬ (0 ≤ (vi 1).toInt ∧ (vi 1).toInt < (vi 3).toInt))) from gk_1_0) with ⟨er9, gk_1_0⟩ | ⟨er9, gk_1_0⟩
    · refine xz_i 1 er9 ?_
      refine lv_if_eq (tgt := 34) hx hb dX11_worth_19 (by decide) (fun c => absurd c (by decide)) (fun _ => ?_)
      refine lv_aload_n hx hb dX11_worth_22 rfl (lv_at hl 0 rfl) ?_
      refine va_get (D := D) (ci := 11) (v := .ref (a 1)) (C := RX11) (T := TX11) (N := 15) hx hb htg inX11 hown hK.1 hP 0 rfl rfl 1 (by decide) (htg _ kw_497) (fun _ h9 => h9) rfl dX11_worth_23 ?_
      refine lv_iload_n hx hb dX11_worth_26 rfl (lv_at hl 1 rfl) ?_
      refine lv_iload_n hx hb dX11_worth_27 rfl (lv_at hl 2 rfl) ?_
      obtain ⟨hC9, hPc, hDc, hFc⟩ := xcut (wc := (pre_X7_worthOf T (xa [(a 1), (a 2)]) (xa [(ex 13), (ex 14), (ex 15), (ex 16), (ex 17), (ex 18), (ex 19), (ex 20), (ex 21)]) (xf [(fi 0)]) (xh []) (xv [(vi 0), (vi 1), (vi 3), (vi 4)]) (xl []))) hP hD hS hA [2, 1] (by decide) rfl
      refine va_calli (va_runVN (As := [.int (vi 0), .int (vi 1)]) (rest := []) ⟨hx, hb, hml, hown, htg⟩ (c_X7_worthOf l D T (xa [(a 1), (a 2)]) (xa [(ex 13), (ex 14), (ex 15), (ex 16), (ex 17), (ex 18), (ex 19), (ex 20), (ex 21)]) (xf [(fi 0)]) (xh []) (xv [(vi 0), (vi 1), (vi 3), (vi 4)]) (xl []) H.size hp0 hp1) ⟨va_cnB 2 htg (xg_ok kw_678) rfl rfl rfl (hK.2.1 _ kn_765) (htg _ kw_7) (by decide +kernel) ⟨by rw [hR]; exact Nat.le_of_ble_eq_true rfl, by rw [hR]; exact Nat.le_of_ble_eq_true rfl⟩, htg _ kw_677, htg _ ks_28⟩ (xpreV hK hPc hDc (va_recv hK.1 hPc (ci := 7) (q0 := 0) rfl rfl)) rfl rfl hl.1 rfl (lv_room (Nat.le_of_ble_eq_true rfl)) dX11_worth_28 ⟨by rw [hR]; exact Nat.le_of_ble_eq_true rfl, by rw [hR]; exact Nat.le_of_ble_eq_true rfl⟩) hS (fun q _ h => hFc q h) hFc (fun r9 u9 t H1 locs ht hvm hw hB hz1 hk1 hS => ?_)
      subst hw
      obtain ⟨fik_2, flk_2, vik_2, vlk_2, hP1, hD1, hG⟩ := hB
      rw [ht] at hP1
      obtain ⟨hP, hD⟩ := va_join (wr := [((a 0), .inr (11, [.ref (ex 0), .ref (a 1), .ref (ex 1), .ref (ex 2), .ref (ex 3), .ref (ex 4), .ref (ex 5), .ref (ex 6), .ref (ex 7), .ref (ex 8), .ref (ex 9), .ref (ex 10), .ref (ex 11), .ref (ex 12), .int (vi 2)]))]) (w1 := [((a 1), .inr (7, [.int (vi 3), .int (vi 4), .ref (ex 13), .ref (ex 14), .ref (ex 15), .ref (ex 16), .ref (ex 17), .ref (ex 18), .ref (ex 19), .ref (ex 20), .ref (ex 21), .ref (a 2)])), ((a 2), .inl (T 1, 81, .inl (fi 0)))]) hP hD [2, 1] [0] hC9 rfl (by decide) (by decide) hk1 hFc hP1 hD1
      obtain ⟨rk_2, er9⟩ : ∃ z, z = r9 := ⟨_, rfl⟩
      subst er9
      clear hPc hDc hFc hP1 hD1 hk1 hz1 hvm ht hC9
      generalize H1 = H at hP hS ⊢
      obtain ⟨hP, hD⟩ := (show xPD D A [((a 0), .inr (11, [.ref (ex 0), .ref (a 1), .ref (ex 1), .ref (ex 2), .ref (ex 3), .ref (ex 4), .ref (ex 5), .ref (ex 6), .ref (ex 7), .ref (ex 8), .ref (ex 9), .ref (ex 10), .ref (ex 11), .ref (ex 12), .int (vi 2)])), ((a 1), .inr (7, [.int (vi 3), .int (vi 4), .ref (ex 13), .ref (ex 14), .ref (ex 15), .ref (ex 16), .ref (ex 17), .ref (ex 18), .ref (ex 19), .ref (ex 20), .ref (ex 21), .ref (a 2)])), ((a 2), .inl (T 1, 81, .inl (fi 0)))] H from ⟨hP, hD⟩)
      obtain ⟨gk_2_0, -⟩ := hG
      replace gk_2_0 : DJ (0 ≤ (vi 0).toInt ∧ (vi 0).toInt < (vi 4).toInt ∧ 0 ≤ (vi 1).toInt ∧ (vi 1).toInt < (vi 3).toInt ∧ rk_2 = (fi 0) (9 * ((vi 0).toInt).toNat + ((vi 1).toInt).toNat)) (¬ (0 ≤ (vi 0).toInt ∧ (vi 0).toInt < (vi 4).toInt ∧ 0 ≤ (vi 1).toInt ∧ (vi 1).toInt < (vi 3).toInt) ∧ rk_2.toInt = 0) := (P_X7_worthOf gk_2_0 : _)
      refine lv_goto (tgt := 35) hx hb dX11_worth_31 (by decide) ?_
      have hP9 := hP.sub (ws' := [((a 0), .inr (11, [.ref (ex 0), .ref (a 1), .ref (ex 1), .ref (ex 2), .ref (ex 3), .ref (ex 4), .ref (ex 5), .ref (ex 6), .ref (ex 7), .ref (ex 8), .ref (ex 9), .ref (ex 10), .ref (ex 11), .ref (ex 12), .int (vi 2)])), ((a 1), .inr (7, [.int (vi 3), .int (vi 4), .ref (ex 13), .ref (ex 14), .ref (ex 15), .ref (ex 16), .ref (ex 17), .ref (ex 18), .ref (ex 19), .ref (ex 20), .ref (ex 21), .ref (a 2)])), ((a 2), .inl (T 1, 81, .inl (fi 0)))]) [0, 1, 2] rfl
      have hD9 := hD.sub (ws' := [((a 0), .inr (11, [.ref (ex 0), .ref (a 1), .ref (ex 1), .ref (ex 2), .ref (ex 3), .ref (ex 4), .ref (ex 5), .ref (ex 6), .ref (ex 7), .ref (ex 8), .ref (ex 9), .ref (ex 10), .ref (ex 11), .ref (ex 12), .int (vi 2)])), ((a 1), .inr (7, [.int (vi 3), .int (vi 4), .ref (ex 13), .ref (ex 14), .ref (ex 15), .ref (ex 16), .ref (ex 17), .ref (ex 18), .ref (ex 19), .ref (ex 20), .ref (ex 21), .ref (a 2)])), ((a 2), .inl (T 1, 81, .inl (fi 0)))]) [0, 1, 2] (by decide +kernel) rfl
      rw [hQ]
      exact W.iret (v := rk_2) hx hb hr (fun t ht hW => ⟨⟨rk_2, rk_2, rfl, rfl, xf [], xh [], xv [], xl [], by rw [ht]; exact hP9, hD9, ⟨(by show (0 ≤ (vi 0).toInt ∧ (vi 0).toInt < (vi 4).toInt ∧ 0 ≤ (vi 1).toInt ∧ (vi 1).toInt < (vi 3).toInt ∧ rk_2 = (fi 0) (9 * ((vi 0).toInt).toNat + ((vi 1).toInt).toNat)) ∨ (¬ (0 ≤ (vi 0).toInt ∧ (vi 0).toInt < (vi 4).toInt ∧ 0 ≤ (vi 1).toInt ∧ (vi 1).toInt < (vi 3).toInt) ∧ rk_2.toInt = -1); have k5 : (-1 : Int32).toInt = -1 := (by decide); rcases gk_2_0 with ⟨a1, a2, a3, a4, a5⟩ | ⟨a1, a2⟩; (· exact Or.inl ⟨a1, a2, a3, a4, a5⟩); (· exfalso; omega)), trivial⟩⟩, hS.F ht⟩) hS.2.2 dX11_worth_35
    · refine xz_i 0 er9 ?_
      refine lv_if_eq (tgt := 34) hx hb dX11_worth_19 (by decide) (fun _ => ?_) (fun c => absurd (by decide) c)
      refine lv_iconst (v := (-1)) hx hb dX11_worth_34 (by decide) ?_
      have hP9 := hP.sub (ws' := [((a 0), .inr (11, [.ref (ex 0), .ref (a 1), .ref (ex 1), .ref (ex 2), .ref (ex 3), .ref (ex 4), .ref (ex 5), .ref (ex 6), .ref (ex 7), .ref (ex 8), .ref (ex 9), .ref (ex 10), .ref (ex 11), .ref (ex 12), .int (vi 2)])), ((a 1), .inr (7, [.int (vi 3), .int (vi 4), .ref (ex 13), .ref (ex 14), .ref (ex 15), .ref (ex 16), .ref (ex 17), .ref (ex 18), .ref (ex 19), .ref (ex 20), .ref (ex 21), .ref (a 2)])), ((a 2), .inl (T 1, 81, .inl (fi 0)))]) [0, 2, 1] rfl
      have hD9 := hD.sub (ws' := [((a 0), .inr (11, [.ref (ex 0), .ref (a 1), .ref (ex 1), .ref (ex 2), .ref (ex 3), .ref (ex 4), .ref (ex 5), .ref (ex 6), .ref (ex 7), .ref (ex 8), .ref (ex 9), .ref (ex 10), .ref (ex 11), .ref (ex 12), .int (vi 2)])), ((a 1), .inr (7, [.int (vi 3), .int (vi 4), .ref (ex 13), .ref (ex 14), .ref (ex 15), .ref (ex 16), .ref (ex 17), .ref (ex 18), .ref (ex 19), .ref (ex 20), .ref (ex 21), .ref (a 2)])), ((a 2), .inl (T 1, 81, .inl (fi 0)))]) [0, 2, 1] (by decide +kernel) rfl
      rw [hQ]
      exact W.iret (v := (-1)) hx hb hr (fun t ht hW => ⟨⟨(-1), (-1), rfl, rfl, xf [], xh [], xv [], xl [], by rw [ht]; exact hP9, hD9, ⟨(by show (0 ≤ (vi 0).toInt ∧ (vi 0).toInt < (vi 4).toInt ∧ 0 ≤ (vi 1).toInt ∧ (vi 1).toInt < (vi 3).toInt ∧ ((-1) : Int32) = (fi 0) (9 * ((vi 0).toInt).toNat + ((vi 1).toInt).toNat)) ∨ (¬ (0 ≤ (vi 0).toInt ∧ (vi 0).toInt < (vi 4).toInt ∧ 0 ≤ (vi 1).toInt ∧ (vi 1).toInt < (vi 3).toInt) ∧ ((-1) : Int32).toInt = -1); have k9_0 : ((-1) : Int32).toInt = (-1) := (by decide); have k5 : (-1 : Int32).toInt = -1 := (by decide); exact Or.inr ⟨fun c => by omega, by omega⟩), trivial⟩⟩, hS.F ht⟩) hS.2.2 dX11_worth_35
  · refine xz_i 0 er9 ?_
    refine lv_if_eq (tgt := 34) hx hb dX11_worth_8 (by decide) (fun _ => ?_) (fun c => absurd (by decide) c)
    refine lv_iconst (v := (-1)) hx hb dX11_worth_34 (by decide) ?_
    have hP9 := hP.sub (ws' := [((a 0), .inr (11, [.ref (ex 0), .ref (a 1), .ref (ex 1), .ref (ex 2), .ref (ex 3), .ref (ex 4), .ref (ex 5), .ref (ex 6), .ref (ex 7), .ref (ex 8), .ref (ex 9), .ref (ex 10), .ref (ex 11), .ref (ex 12), .int (vi 2)])), ((a 1), .inr (7, [.int (vi 3), .int (vi 4), .ref (ex 13), .ref (ex 14), .ref (ex 15), .ref (ex 16), .ref (ex 17), .ref (ex 18), .ref (ex 19), .ref (ex 20), .ref (ex 21), .ref (a 2)])), ((a 2), .inl (T 1, 81, .inl (fi 0)))]) [0, 2, 1] rfl
    have hD9 := hD.sub (ws' := [((a 0), .inr (11, [.ref (ex 0), .ref (a 1), .ref (ex 1), .ref (ex 2), .ref (ex 3), .ref (ex 4), .ref (ex 5), .ref (ex 6), .ref (ex 7), .ref (ex 8), .ref (ex 9), .ref (ex 10), .ref (ex 11), .ref (ex 12), .int (vi 2)])), ((a 1), .inr (7, [.int (vi 3), .int (vi 4), .ref (ex 13), .ref (ex 14), .ref (ex 15), .ref (ex 16), .ref (ex 17), .ref (ex 18), .ref (ex 19), .ref (ex 20), .ref (ex 21), .ref (a 2)])), ((a 2), .inl (T 1, 81, .inl (fi 0)))]) [0, 2, 1] (by decide +kernel) rfl
    rw [hQ]
    exact W.iret (v := (-1)) hx hb hr (fun t ht hW => ⟨⟨(-1), (-1), rfl, rfl, xf [], xh [], xv [], xl [], by rw [ht]; exact hP9, hD9, ⟨(by show (0 ≤ (vi 0).toInt ∧ (vi 0).toInt < (vi 4).toInt ∧ 0 ≤ (vi 1).toInt ∧ (vi 1).toInt < (vi 3).toInt ∧ ((-1) : Int32) = (fi 0) (9 * ((vi 0).toInt).toNat + ((vi 1).toInt).toNat)) ∨ (¬ (0 ≤ (vi 0).toInt ∧ (vi 0).toInt < (vi 4).toInt ∧ 0 ≤ (vi 1).toInt ∧ (vi 1).toInt < (vi 3).toInt) ∧ ((-1) : Int32).toInt = -1); have k9_0 : ((-1) : Int32).toInt = (-1) := (by decide); have k5 : (-1 : Int32).toInt = -1 := (by decide); exact Or.inr ⟨fun c => by omega, by omega⟩), trivial⟩⟩, hS.F ht⟩) hS.2.2 dX11_worth_35
abbrev pre_X2_freeNames (T : Nat → ClassId) (a ex : Nat → Nat) (fi : Nat → Nat → Int32) (fl : Nat → Nat → Int64) (vi : Nat → Int32) (vl : Nat → Int64) : va_W := [((a 0), .inr (2, [.ref (a 1), .int (vi 0), .int (vi 1), .int (vi 2), .int (vi 3), .int (vi 4), .int (vi 5), .ref (a 2), .ref (ex 0), .ref (ex 1), .ref (ex 2), .ref (ex 3), .ref (ex 4), .ref (ex 5), .ref (ex 6)])), ((a 1), .inr (7, [.int (vi 6), .int (vi 7), .ref (ex 7), .ref (ex 8), .ref (ex 9), .ref (ex 10), .ref (ex 11), .ref (ex 12), .ref (ex 13), .ref (ex 14), .ref (ex 15), .ref (ex 16)])), ((a 2), .inl (T 1, 9, .inl (fi 0)))]
set_option maxHeartbeats 8000000 in
set_option maxRecDepth 100000 in
theorem c_X2_freeNames (l : Launch) (D : va_G) (T : Nat → ClassId) (a ex : Nat → Nat) (fi : Nat → Nat → Int32) (fl : Nat → Nat → Int64) (vi : Nat → Int32) (vl : Nat → Int64) (sz : Nat) (hp0 : 0 ≤ (vi 0).toInt ∧ (vi 0).toInt ≤ 200) (hp1 : 0 ≤ (vi 5).toInt ∧ (vi 5).toInt ≤ 9) (hp2 : 0 ≤ (vi 6).toInt ∧ (vi 6).toInt ≤ 9) (hp3 : 0 ≤ (vi 7).toInt ∧ (vi 7).toInt ≤ 9) (hp4 : rg (fi 0) 0 9 (-1) 8) : Met l yX2_freeNames (xw yX2_freeNames cX2_freeNames 3 (some .int)) ({ frames := 0, cells := 0, slots := 0, locals := 0 }) (xP D T [.ref (a 0)] sz (pre_X2_freeNames T a ex fi fl vi vl)) (va_Qi (fun r u => r = u) (xC D (va_A (pre_X2_freeNames T a ex fi fl vi vl) sz) (fun fj fm vj vm => [((a 0), .inr (2, [.ref (a 1), .int (vi 0), .int (vi 1), .int (vi 2), .int (vi 3), .int (vi 4), .int (vi 5), .ref (a 2), .ref (ex 0), .ref (ex 1), .ref (ex 2), .ref (ex 3), .ref (ex 4), .ref (ex 5), .ref (ex 6)])), ((a 1), .inr (7, [.int (vi 6), .int (vi 7), .ref (ex 7), .ref (ex 8), .ref (ex 9), .ref (ex 10), .ref (ex 11), .ref (ex 12), .ref (ex 13), .ref (ex 14), .ref (ex 15), .ref (ex 16)])), ((a 2), .inl (T 1, 9, .inl (fi 0)))]) (fun (r : Int32) (fj : Nat → Nat → Int32) (fm : Nat → Nat → Int64) (vj : Nat → Int32) (vm : Nat → Int64) => True)) (va_A (pre_X2_freeNames T a ex fi fl vi vl) sz)) 0 0 (va_A (pre_X2_freeNames T a ex fi fl vi vl) sz) := by
  refine xofW (cc := cX2_freeNames) (maxL := 3) (ret := (some .int)) (by decide) rfl ?_
  intro p e s m args below meth c s₁ R Q hR hQ B hml hv
  obtain ⟨rfl, hsz, hP, hK, hD0⟩ := hv
  have hx := B.exec
  have hb := B.bytes
  have hr := B.returns
  have hts := atoms_spec (ws := xw yX2_freeNames cX2_freeNames 3 (some .int)) B.pre
  have htg : ∀ w ∈ xg, w.before _ s = true := fun w h => hts w (List.mem_cons_of_mem _ h)
  have hown : s.vm.findClass RX2 = some m.cls := findClass_of_methodNamed B.named
  have hlocks := B.notSynchronized
  subst hsz
  have hD := hD0.self (sz := s.heap.size)
  generalize hAe : va_A (pre_X2_freeNames T a ex fi fl vi vl) s.heap.size = A at hD hQ
  have hA : ∀ q : Nat, s.heap.size ≤ q → A q := fun q h => by rw [← hAe]; exact Or.inr h
  have hS : va_S A s.heap s.heap [] := va_S.rf
  replace hP : va_P D vwCl [((a 0), .inr (2, [.ref (a 1), .int (vi 0), .int (vi 1), .int (vi 2), .int (vi 3), .int (vi 4), .int (vi 5), .ref (a 2), .ref (ex 0), .ref (ex 1), .ref (ex 2), .ref (ex 3), .ref (ex 4), .ref (ex 5), .ref (ex 6)])), ((a 1), .inr (7, [.int (vi 6), .int (vi 7), .ref (ex 7), .ref (ex 8), .ref (ex 9), .ref (ex 10), .ref (ex 11), .ref (ex 12), .ref (ex 13), .ref (ex 14), .ref (ex 15), .ref (ex 16)])), ((a 2), .inl (T 1, 9, .inl (fi 0)))] s.heap := hP
  replace hD : va_D A [((a 0), .inr (2, [.ref (a 1), .int (vi 0), .int (vi 1), .int (vi 2), .int (vi 3), .int (vi 4), .int (vi 5), .ref (a 2), .ref (ex 0), .ref (ex 1), .ref (ex 2), .ref (ex 3), .ref (ex 4), .ref (ex 5), .ref (ex 6)])), ((a 1), .inr (7, [.int (vi 6), .int (vi 7), .ref (ex 7), .ref (ex 8), .ref (ex 9), .ref (ex 10), .ref (ex 11), .ref (ex 12), .ref (ex 13), .ref (ex 14), .ref (ex 15), .ref (ex 16)])), ((a 2), .inl (T 1, 9, .inl (fi 0)))] := hD
  have hl := lv_entry ([.ref (a 0)]) (n := 3) (Nat.le_of_ble_eq_true rfl)
  rw [lg_entry_eq]
  generalize (lg_sl ([.ref (a 0)]) ++ List.replicate (3 - (lg_sl ([.ref (a 0)])).length) Slot.unset).toArray = ls at hl ⊢
  replace hl : lv_has ls 3 [(0, .ref (a 0))] := hl
  refine lv_iconst (v := 0) hx hb dX2_freeNames_0 (by decide) ?_
  refine lv_istore_n (lv' := [(1, .int 0), (0, .ref (a 0))]) hx hb dX2_freeNames_1 rfl hl (by decide) rfl (fun ls hl => ?_)
  refine lv_iconst (v := 0) hx hb dX2_freeNames_2 (by decide) ?_
  refine lv_istore_n (lv' := [(2, .int 0), (1, .int 0), (0, .ref (a 0))]) hx hb dX2_freeNames_3 rfl hl (by decide) rfl (fun ls hl => ?_)
  have lp : ∀ (kn : Nat) (w2 : Int32) (w1 : Int32) (H : Heap) (locs : List Loc) (ls : Array Slot), (0 ≤ w2.toInt) → (2147483648 - w2.toInt).toNat = kn → va_P D vwCl [((a 0), .inr (2, [.ref (a 1), .int (vi 0), .int (vi 1), .int (vi 2), .int (vi 3), .int (vi 4), .int (vi 5), .ref (a 2), .ref (ex 0), .ref (ex 1), .ref (ex 2), .ref (ex 3), .ref (ex 4), .ref (ex 5), .ref (ex 6)])), ((a 1), .inr (7, [.int (vi 6), .int (vi 7), .ref (ex 7), .ref (ex 8), .ref (ex 9), .ref (ex 10), .ref (ex 11), .ref (ex 12), .ref (ex 13), .ref (ex 14), .ref (ex 15), .ref (ex 16)])), ((a 2), .inl (T 1, 9, .inl (fi 0)))] H → va_D A [((a 0), .inr (2, [.ref (a 1), .int (vi 0), .int (vi 1), .int (vi 2), .int (vi 3), .int (vi 4), .int (vi 5), .ref (a 2), .ref (ex 0), .ref (ex 1), .ref (ex 2), .ref (ex 3), .ref (ex 4), .ref (ex 5), .ref (ex 6)])), ((a 1), .inr (7, [.int (vi 6), .int (vi 7), .ref (ex 7), .ref (ex 8), .ref (ex 9), .ref (ex 10), .ref (ex 11), .ref (ex 12), .ref (ex 13), .ref (ex 14), .ref (ex 15), .ref (ex 16)])), ((a 2), .inl (T 1, 9, .inl (fi 0)))] → va_S A s.heap H locs → lv_has ls 3 [(2, .int w2), (1, .int w1), (0, .ref (a 0))] → W p l e R s m ([.ref (a 0)] : List Value).toArray below meth c H locs 0 0 Q (F0 m 4 ls []) := by
    intro kn
    induction kn using Nat.strongRecOn with
    | _ kn ih =>
      intro w2 w1 H locs ls hi hm hP hD hS hl
      refine lv_iload_n hx hb dX2_freeNames_4 rfl (lv_at hl 0 rfl) ?_
      refine lv_aload_n hx hb dX2_freeNames_5 rfl (lv_at hl 2 rfl) ?_
      refine va_get (D := D) (ci := 2) (v := .ref (a 1)) (C := RX2) (T := TX2) (N := 15) hx hb htg inX2 hown hK.1 hP 0 rfl rfl 0 (by decide) (htg _ kw_245) (fun _ h9 => h9) rfl dX2_freeNames_6 ?_
      refine va_getN (D := D) (ci := 7) (v := .int (vi 6)) (C := RX7) (T := TX7) (N := 12) hx hb htg inX7 hown hK.1 hP 1 rfl rfl 0 (by decide) (va_Nw.use rfl (hK.2.1 _ kn_159)) (fun _ h9 => h9) rfl dX2_freeNames_9 ?_
      refine lv_icmp_ge (tgt := 37) hx hb dX2_freeNames_12 (by decide) (fun c12 => ?_) (fun c12 => ?_)
      · have c12 := Int32.le_iff_toInt_le.mp c12
        have rc12 := xrng w2; have qc12 := xrng (vi 6)
        refine lv_iload_n hx hb dX2_freeNames_37 rfl (lv_at hl 1 rfl) ?_
        have hP9 := hP.sub (ws' := [((a 0), .inr (2, [.ref (a 1), .int (vi 0), .int (vi 1), .int (vi 2), .int (vi 3), .int (vi 4), .int (vi 5), .ref (a 2), .ref (ex 0), .ref (ex 1), .ref (ex 2), .ref (ex 3), .ref (ex 4), .ref (ex 5), .ref (ex 6)])), ((a 1), .inr (7, [.int (vi 6), .int (vi 7), .ref (ex 7), .ref (ex 8), .ref (ex 9), .ref (ex 10), .ref (ex 11), .ref (ex 12), .ref (ex 13), .ref (ex 14), .ref (ex 15), .ref (ex 16)])), ((a 2), .inl (T 1, 9, .inl (fi 0)))]) [0, 1, 2] rfl
        have hD9 := hD.sub (ws' := [((a 0), .inr (2, [.ref (a 1), .int (vi 0), .int (vi 1), .int (vi 2), .int (vi 3), .int (vi 4), .int (vi 5), .ref (a 2), .ref (ex 0), .ref (ex 1), .ref (ex 2), .ref (ex 3), .ref (ex 4), .ref (ex 5), .ref (ex 6)])), ((a 1), .inr (7, [.int (vi 6), .int (vi 7), .ref (ex 7), .ref (ex 8), .ref (ex 9), .ref (ex 10), .ref (ex 11), .ref (ex 12), .ref (ex 13), .ref (ex 14), .ref (ex 15), .ref (ex 16)])), ((a 2), .inl (T 1, 9, .inl (fi 0)))]) [0, 1, 2] (by decide +kernel) rfl
        rw [hQ]
        exact W.iret (v := w1) hx hb hr (fun t ht hW => ⟨⟨w1, w1, rfl, rfl, xf [], xh [], xv [], xl [], by rw [ht]; exact hP9, hD9, trivial⟩, hS.F ht⟩) hS.2.2 dX2_freeNames_38
      · have c12 := (mt Int32.le_iff_toInt_le.mpr c12)
        have rc12 := xrng w2; have qc12 := xrng (vi 6)
        refine lv_aload_n hx hb dX2_freeNames_15 rfl (lv_at hl 2 rfl) ?_
        refine va_get (D := D) (ci := 2) (v := .ref (a 2)) (C := RX2) (T := TX2) (N := 15) hx hb htg inX2 hown hK.1 hP 0 rfl rfl 7 (by decide) (htg _ kw_260) (fun _ h9 => h9) rfl dX2_freeNames_16 ?_
        refine lv_iload_n hx hb dX2_freeNames_19 rfl (lv_at hl 0 rfl) ?_
        refine va_iald hx hb hK.1 hP 2 1 rfl rfl (vp_in_iff.mpr (by omega)) dX2_freeNames_20 ?_
        have hv := rg_at hp4 (i := w2) (by omega) (by omega)
        refine lv_iconst (v := (-1)) hx hb dX2_freeNames_21 (by decide) ?_
        refine lv_icmp_ne (tgt := 31) hx hb dX2_freeNames_22 (by decide) (fun c22 => ?_) (fun c22 => ?_)
        · have c22 := xne (k := (-1)) (by decide) c22
          obtain ⟨i31, ei31⟩ : ∃ z : Int32, w2 + Int32.ofInt 1 = z := ⟨_, rfl⟩
          have ti31 : i31.toInt = w2.toInt + 1 := by rw [← ei31]; have h79 := xrng w2; exact xadd rfl (by decide) (by omega) (by omega)
          refine lv_iinc (v := i31) (lv' := [(2, .int i31), (1, .int w1), (0, .ref (a 0))]) hx hb dX2_freeNames_31 hl (k := 0) rfl ei31 (by decide) rfl (fun ls hl => ?_)
          refine lv_goto (tgt := 4) hx hb dX2_freeNames_34 (by decide) ?_
          exact ih _ (by omega) i31 w1 _ _ _ (by show 0 ≤ i31.toInt; omega) rfl (hP.sub [0, 1, 2] rfl) (hD.sub [0, 1, 2] (by decide) rfl) hS (lv_sub hl [0, 1, 2] rfl)
        · have c22 := xeq (k := (-1)) (by decide) c22
          refine lv_iload_n hx hb dX2_freeNames_25 rfl (lv_at hl 1 rfl) ?_
          refine lv_iconst (v := 1) hx hb dX2_freeNames_26 (by decide) ?_
          refine lv_iload_n hx hb dX2_freeNames_27 rfl (lv_at hl 0 rfl) ?_
          refine lv_ishl hx hb dX2_freeNames_28 ?_
          refine lv_topi (fun z28 ez28 => ?_)
          refine lv_ior hx hb dX2_freeNames_29 ?_
          refine lv_topi (fun z29 ez29 => ?_)
          refine lv_istore_n (lv' := [(1, .int z29), (2, .int w2), (0, .ref (a 0))]) hx hb dX2_freeNames_30 rfl hl (by decide) rfl (fun ls hl => ?_)
          obtain ⟨i31_1, ei31_1⟩ : ∃ z : Int32, w2 + Int32.ofInt 1 = z := ⟨_, rfl⟩
          have ti31_1 : i31_1.toInt = w2.toInt + 1 := by rw [← ei31_1]; have h79 := xrng w2; exact xadd rfl (by decide) (by omega) (by omega)
          refine lv_iinc (v := i31_1) (lv' := [(2, .int i31_1), (1, .int z29), (0, .ref (a 0))]) hx hb dX2_freeNames_31 hl (k := 1) rfl ei31_1 (by decide) rfl (fun ls hl => ?_)
          refine lv_goto (tgt := 4) hx hb dX2_freeNames_34 (by decide) ?_
          exact ih _ (by omega) i31_1 z29 _ _ _ (by show 0 ≤ i31_1.toInt; omega) rfl (hP.sub [0, 1, 2] rfl) (hD.sub [0, 1, 2] (by decide) rfl) hS (lv_sub hl [0, 1, 2] rfl)
  exact lp _ (0 : Int32) (0 : Int32) _ _ _ (show 0 ≤ (0 : Int32).toInt by decide) rfl hP hD hS hl
abbrev pre_X11_sum (T : Nat → ClassId) (a ex : Nat → Nat) (fi : Nat → Nat → Int32) (fl : Nat → Nat → Int64) (vi : Nat → Int32) (vl : Nat → Int64) : va_W := [((a 0), .inl (T 1, 9, .inl (fi 0)))]
set_option maxHeartbeats 8000000 in
set_option maxRecDepth 100000 in
theorem c_X11_sum (l : Launch) (D : va_G) (T : Nat → ClassId) (a ex : Nat → Nat) (fi : Nat → Nat → Int32) (fl : Nat → Nat → Int64) (vi : Nat → Int32) (vl : Nat → Int64) (sz : Nat) : Met l yX11_sum (xw yX11_sum cX11_sum 4 (some .int)) ({ frames := 0, cells := 0, slots := 0, locals := 0 }) (xP D T [.ref (a 0), .int (vi 0)] sz (pre_X11_sum T a ex fi fl vi vl)) (va_Qi (fun r u => r = u) (xC D (va_A (pre_X11_sum T a ex fi fl vi vl) sz) (fun fj fm vj vm => [((a 0), .inl (T 1, 9, .inl (fi 0)))]) (fun (r : Int32) (fj : Nat → Nat → Int32) (fm : Nat → Nat → Int64) (vj : Nat → Int32) (vm : Nat → Int64) => True)) (va_A (pre_X11_sum T a ex fi fl vi vl) sz)) 0 0 (va_A (pre_X11_sum T a ex fi fl vi vl) sz) := by
  refine xofW (cc := cX11_sum) (maxL := 4) (ret := (some .int)) (by decide) rfl ?_
  intro p e s m args below meth c s₁ R Q hR hQ B hml hv
  obtain ⟨rfl, hsz, hP, hK, hD0⟩ := hv
  have hx := B.exec
  have hb := B.bytes
  have hr := B.returns
  have hts := atoms_spec (ws := xw yX11_sum cX11_sum 4 (some .int)) B.pre
  have htg : ∀ w ∈ xg, w.before _ s = true := fun w h => hts w (List.mem_cons_of_mem _ h)
  have hown : s.vm.findClass RX11 = some m.cls := findClass_of_methodNamed B.named
  have hlocks := B.notSynchronized
  subst hsz
  have hD := hD0.self (sz := s.heap.size)
  generalize hAe : va_A (pre_X11_sum T a ex fi fl vi vl) s.heap.size = A at hD hQ
  have hA : ∀ q : Nat, s.heap.size ≤ q → A q := fun q h => by rw [← hAe]; exact Or.inr h
  have hS : va_S A s.heap s.heap [] := va_S.rf
  replace hP : va_P D vwCl [((a 0), .inl (T 1, 9, .inl (fi 0)))] s.heap := hP
  replace hD : va_D A [((a 0), .inl (T 1, 9, .inl (fi 0)))] := hD
  have hl := lv_entry ([.ref (a 0), .int (vi 0)]) (n := 4) (Nat.le_of_ble_eq_true rfl)
  rw [lg_entry_eq]
  generalize (lg_sl ([.ref (a 0), .int (vi 0)]) ++ List.replicate (4 - (lg_sl ([.ref (a 0), .int (vi 0)])).length) Slot.unset).toArray = ls at hl ⊢
  replace hl : lv_has ls 4 [(0, .ref (a 0)), (1, .int (vi 0))] := hl
  refine lv_iconst (v := 0) hx hb dX11_sum_0 (by decide) ?_
  refine lv_istore_n (lv' := [(2, .int 0), (0, .ref (a 0)), (1, .int (vi 0))]) hx hb dX11_sum_1 rfl hl (by decide) rfl (fun ls hl => ?_)
  refine lv_iconst (v := 0) hx hb dX11_sum_2 (by decide) ?_
  refine lv_istore_n (lv' := [(3, .int 0), (2, .int 0), (0, .ref (a 0)), (1, .int (vi 0))]) hx hb dX11_sum_3 rfl hl (by decide) rfl (fun ls hl => ?_)
  have lp : ∀ (kn : Nat) (w3 : Int32) (w2 : Int32) (H : Heap) (locs : List Loc) (ls : Array Slot), (0 ≤ w3.toInt) → (2147483648 - w3.toInt).toNat = kn → va_P D vwCl [((a 0), .inl (T 1, 9, .inl (fi 0)))] H → va_D A [((a 0), .inl (T 1, 9, .inl (fi 0)))] → va_S A s.heap H locs → lv_has ls 4 [(3, .int w3), (2, .int w2), (0, .ref (a 0)), (1, .int (vi 0))] → W p l e R s m ([.ref (a 0), .int (vi 0)] : List Value).toArray below meth c H locs 0 0 Q (F0 m 4 ls []) := by
    intro kn
    induction kn using Nat.strongRecOn with
    | _ kn ih =>
      intro w3 w2 H locs ls hi hm hP hD hS hl
      refine lv_iload_n hx hb dX11_sum_4 rfl (lv_at hl 0 rfl) ?_
      refine lv_iload_n hx hb dX11_sum_5 rfl (lv_at hl 3 rfl) ?_
      refine lv_icmp_ge (tgt := 27) hx hb dX11_sum_6 (by decide) (fun c6 => ?_) (fun c6 => ?_)
      · have c6 := Int32.le_iff_toInt_le.mp c6
        have rc6 := xrng w3; have qc6 := xrng (vi 0)
        refine lv_iload_n hx hb dX11_sum_27 rfl (lv_at hl 1 rfl) ?_
        have hP9 := hP.sub (ws' := [((a 0), .inl (T 1, 9, .inl (fi 0)))]) [0] rfl
        have hD9 := hD.sub (ws' := [((a 0), .inl (T 1, 9, .inl (fi 0)))]) [0] (by decide +kernel) rfl
        rw [hQ]
        exact W.iret (v := w2) hx hb hr (fun t ht hW => ⟨⟨w2, w2, rfl, rfl, xf [], xh [], xv [], xl [], by rw [ht]; exact hP9, hD9, trivial⟩, hS.F ht⟩) hS.2.2 dX11_sum_28
      · have c6 := (mt Int32.le_iff_toInt_le.mpr c6)
        have rc6 := xrng w3; have qc6 := xrng (vi 0)
        refine lv_iload_n hx hb dX11_sum_9 rfl (lv_at hl 0 rfl) ?_
        refine lv_aload_n hx hb dX11_sum_10 rfl (lv_at hl 2 rfl) ?_
        refine va_alen (v := 9) hx hb hK.1 hP 0 1 rfl rfl (show Int32.ofNat 9 = 9 by decide) dX11_sum_11 ?_
        refine lv_icmp_ge (tgt := 27) hx hb dX11_sum_12 (by decide) (fun c12 => ?_) (fun c12 => ?_)
        · have c12 := xge (k := 9) (by decide) c12
          refine lv_iload_n hx hb dX11_sum_27 rfl (lv_at hl 1 rfl) ?_
          have hP9 := hP.sub (ws' := [((a 0), .inl (T 1, 9, .inl (fi 0)))]) [0] rfl
          have hD9 := hD.sub (ws' := [((a 0), .inl (T 1, 9, .inl (fi 0)))]) [0] (by decide +kernel) rfl
          rw [hQ]
          exact W.iret (v := w2) hx hb hr (fun t ht hW => ⟨⟨w2, w2, rfl, rfl, xf [], xh [], xv [], xl [], by rw [ht]; exact hP9, hD9, trivial⟩, hS.F ht⟩) hS.2.2 dX11_sum_28
        · have c12 := xnge (k := 9) (by decide) c12
          refine lv_iload_n hx hb dX11_sum_15 rfl (lv_at hl 1 rfl) ?_
          refine lv_aload_n hx hb dX11_sum_16 rfl (lv_at hl 2 rfl) ?_
          refine lv_iload_n hx hb dX11_sum_17 rfl (lv_at hl 0 rfl) ?_
          refine va_iald hx hb hK.1 hP 0 1 rfl rfl (vp_in_iff.mpr (by omega)) dX11_sum_18 ?_
          refine lv_iadd hx hb dX11_sum_19 ?_
          refine lv_topi (fun z19 ez19 => ?_)
          refine lv_istore_n (lv' := [(2, .int z19), (3, .int w3), (0, .ref (a 0)), (1, .int (vi 0))]) hx hb dX11_sum_20 rfl hl (by decide) rfl (fun ls hl => ?_)
          obtain ⟨i21, ei21⟩ : ∃ z : Int32, w3 + Int32.ofInt 1 = z := ⟨_, rfl⟩
          have ti21 : i21.toInt = w3.toInt + 1 := by rw [← ei21]; have h79 := xrng w3; exact xadd rfl (by decide) (by omega) (by omega)
          refine lv_iinc (v := i21) (lv' := [(3, .int i21), (2, .int z19), (0, .ref (a 0)), (1, .int (vi 0))]) hx hb dX11_sum_21 hl (k := 1) rfl ei21 (by decide) rfl (fun ls hl => ?_)
          refine lv_goto (tgt := 4) hx hb dX11_sum_24 (by decide) ?_
          exact ih _ (by omega) i21 z19 _ _ _ (by show 0 ≤ i21.toInt; omega) rfl (hP.sub [0] rfl) (hD.sub [0] (by decide) rfl) hS (lv_sub hl [0, 1, 2, 3] rfl)
  exact lp _ (0 : Int32) (0 : Int32) _ _ _ (show 0 ≤ (0 : Int32).toInt by decide) rfl hP hD hS hl
