abbrev pre_X10_point (T : Nat → ClassId) (a ex : Nat → Nat) (fi : Nat → Nat → Int32) (fl : Nat → Nat → Int64) (vi : Nat → Int32) (vl : Nat → Int64) : va_W := [((a 0), .inr (10, [.ref (a 1), .ref (a 4), .ref (a 2), .ref (ex 0), .int (vi 0)])), ((a 1), .inr (7, [.int (vi 1), .int (vi 2), .ref (ex 1), .ref (ex 2), .ref (ex 3), .ref (ex 4), .ref (ex 5), .ref (ex 6), .ref (ex 7), .ref (a 3), .ref (ex 8), .ref (ex 9)])), ((a 2), .inl (T 1, 9, .inl (fi 0))), ((a 3), .inl (T 1, 9, .inl (fi 1))), ((a 4), .inr (2, [.ref (a 1), .int (vi 3), .int (vi 4), .int (vi 5), .int (vi 6), .int (vi 7), .int (vi 8), .ref (a 6), .ref (ex 10), .ref (ex 11), .ref (a 5), .ref (ex 12), .ref (ex 13), .ref (ex 14), .ref (ex 15)])), ((a 5), .inl (T 1, 9, .inl (fi 2))), ((a 6), .inl (T 1, 9, .inl (fi 3)))]
set_option maxHeartbeats 8000000 in
set_option maxRecDepth 100000 in
theorem c_X10_point (l : Launch) (D : va_G) (T : Nat → ClassId) (a ex : Nat → Nat) (fi : Nat → Nat → Int32) (fl : Nat → Nat → Int64) (vi : Nat → Int32) (vl : Nat → Int64) (sz : Nat) (hp0 : 0 ≤ (vi 1).toInt ∧ (vi 1).toInt ≤ 9) (hp1 : 0 ≤ (vi 2).toInt ∧ (vi 2).toInt ≤ 9) (hp2 : rg (fi 0) 0 9 (-1) 8) (hp3 : 0 ≤ (vi 3).toInt ∧ (vi 3).toInt ≤ 200) (hp4 : 0 ≤ (vi 8).toInt ∧ (vi 8).toInt ≤ 9) (hp5 : rg (fi 2) 0 9 (-1) 8) (hp6 : rg (fi 3) 0 9 (-1) 8) : Met l yX10_point (xw yX10_point cX10_point 4 (some .boolean)) ({ frames := 2, cells := 0, slots := 0, locals := 50 }) (xP D T [.ref (a 0)] sz (pre_X10_point T a ex fi fl vi vl)) (va_Qi (fun r u => r = u) (xC D (va_A (pre_X10_point T a ex fi fl vi vl) sz) (fun fj fm vj vm => [((a 0), .inr (10, [.ref (a 1), .ref (a 4), .ref (a 2), .ref (ex 0), .int (vi 0)])), ((a 1), .inr (7, [.int (vi 1), .int (vi 2), .ref (ex 1), .ref (ex 2), .ref (ex 3), .ref (ex 4), .ref (ex 5), .ref (ex 6), .ref (ex 7), .ref (a 3), .ref (ex 8), .ref (ex 9)])), ((a 2), .inl (T 1, 9, .inl (fj 0))), ((a 3), .inl (T 1, 9, .inl (fi 1))), ((a 4), .inr (2, [.ref (a 1), .int (vi 3), .int (vi 4), .int (vi 5), .int (vi 6), .int (vi 7), .int (vi 8), .ref (a 6), .ref (ex 10), .ref (ex 11), .ref (a 5), .ref (ex 12), .ref (ex 13), .ref (ex 14), .ref (ex 15)])), ((a 5), .inl (T 1, 9, .inl (fi 2))), ((a 6), .inl (T 1, 9, .inl (fi 3)))]) (fun (r : Int32) (fj : Nat → Nat → Int32) (fm : Nat → Nat → Int64) (vj : Nat → Int32) (vm : Nat → Int64) => ((r = 1 ∧ (True)) ∨ (r = 0 ∧ (True))) ∧ rg (fj 0) 0 9 (-1) 8 ∧ True)) (va_A (pre_X10_point T a ex fi fl vi vl) sz)) 0 0 (va_A (pre_X10_point T a ex fi fl vi vl) sz) := by
  refine xofW (cc := cX10_point) (maxL := 4) (ret := (some .boolean)) (by decide) rfl ?_
  intro p e s m args below meth c s₁ R Q hR hQ B hml hv
  obtain ⟨rfl, hsz, hP, hK, hD0⟩ := hv
  have hx := B.exec
  have hb := B.bytes
  have hr := B.returns
  have hts := atoms_spec (ws := xw yX10_point cX10_point 4 (some .boolean)) B.pre
  have htg : ∀ w ∈ xg, w.before _ s = true := fun w h => hts w (List.mem_cons_of_mem _ h)
  have hown : s.vm.findClass RX10 = some m.cls := findClass_of_methodNamed B.named
  have hlocks := B.notSynchronized
  subst hsz
  have hD := hD0.self (sz := s.heap.size)
  generalize hAe : va_A (pre_X10_point T a ex fi fl vi vl) s.heap.size = A at hD hQ
  have hA : ∀ q : Nat, s.heap.size ≤ q → A q := fun q h => by rw [← hAe]; exact Or.inr h
  have hS : va_S A s.heap s.heap [] := va_S.rf
  replace hP : va_P D vwCl [((a 0), .inr (10, [.ref (a 1), .ref (a 4), .ref (a 2), .ref (ex 0), .int (vi 0)])), ((a 1), .inr (7, [.int (vi 1), .int (vi 2), .ref (ex 1), .ref (ex 2), .ref (ex 3), .ref (ex 4), .ref (ex 5), .ref (ex 6), .ref (ex 7), .ref (a 3), .ref (ex 8), .ref (ex 9)])), ((a 2), .inl (T 1, 9, .inl (fi 0))), ((a 3), .inl (T 1, 9, .inl (fi 1))), ((a 4), .inr (2, [.ref (a 1), .int (vi 3), .int (vi 4), .int (vi 5), .int (vi 6), .int (vi 7), .int (vi 8), .ref (a 6), .ref (ex 10), .ref (ex 11), .ref (a 5), .ref (ex 12), .ref (ex 13), .ref (ex 14), .ref (ex 15)])), ((a 5), .inl (T 1, 9, .inl (fi 2))), ((a 6), .inl (T 1, 9, .inl (fi 3)))] s.heap := hP
  replace hD : va_D A [((a 0), .inr (10, [.ref (a 1), .ref (a 4), .ref (a 2), .ref (ex 0), .int (vi 0)])), ((a 1), .inr (7, [.int (vi 1), .int (vi 2), .ref (ex 1), .ref (ex 2), .ref (ex 3), .ref (ex 4), .ref (ex 5), .ref (ex 6), .ref (ex 7), .ref (a 3), .ref (ex 8), .ref (ex 9)])), ((a 2), .inl (T 1, 9, .inl (fi 0))), ((a 3), .inl (T 1, 9, .inl (fi 1))), ((a 4), .inr (2, [.ref (a 1), .int (vi 3), .int (vi 4), .int (vi 5), .int (vi 6), .int (vi 7), .int (vi 8), .ref (a 6), .ref (ex 10), .ref (ex 11), .ref (a 5), .ref (ex 12), .ref (ex 13), .ref (ex 14), .ref (ex 15)])), ((a 5), .inl (T 1, 9, .inl (fi 2))), ((a 6), .inl (T 1, 9, .inl (fi 3)))] := hD
  have hl := lv_entry ([.ref (a 0)]) (n := 4) (Nat.le_of_ble_eq_true rfl)
  rw [lg_entry_eq]
  generalize (lg_sl ([.ref (a 0)]) ++ List.replicate (4 - (lg_sl ([.ref (a 0)])).length) Slot.unset).toArray = ls at hl ⊢
  replace hl : lv_has ls 4 [(0, .ref (a 0))] := hl
  refine lv_iconst (v := 0) hx hb dX10_point_0 (by decide) ?_
  refine lv_istore_n (lv' := [(1, .int 0), (0, .ref (a 0))]) hx hb dX10_point_1 rfl hl (by decide) rfl (fun ls hl => ?_)
  refine lv_iconst (v := 0) hx hb dX10_point_2 (by decide) ?_
  refine lv_istore_n (lv' := [(2, .int 0), (1, .int 0), (0, .ref (a 0))]) hx hb dX10_point_3 rfl hl (by decide) rfl (fun ls hl => ?_)
  have lp : ∀ (kn : Nat) (w2 : Int32) (w1 : Int32) (wf : Nat → Int32) (H : Heap) (locs : List Loc) (ls : Array Slot), (0 ≤ w2.toInt) → (rg wf 0 9 (-1) 8) → (2147483648 - w2.toInt).toNat = kn → va_P D vwCl [((a 0), .inr (10, [.ref (a 1), .ref (a 4), .ref (a 2), .ref (ex 0), .int (vi 0)])), ((a 1), .inr (7, [.int (vi 1), .int (vi 2), .ref (ex 1), .ref (ex 2), .ref (ex 3), .ref (ex 4), .ref (ex 5), .ref (ex 6), .ref (ex 7), .ref (a 3), .ref (ex 8), .ref (ex 9)])), ((a 2), .inl (T 1, 9, .inl wf)), ((a 3), .inl (T 1, 9, .inl (fi 1))), ((a 4), .inr (2, [.ref (a 1), .int (vi 3), .int (vi 4), .int (vi 5), .int (vi 6), .int (vi 7), .int (vi 8), .ref (a 6), .ref (ex 10), .ref (ex 11), .ref (a 5), .ref (ex 12), .ref (ex 13), .ref (ex 14), .ref (ex 15)])), ((a 5), .inl (T 1, 9, .inl (fi 2))), ((a 6), .inl (T 1, 9, .inl (fi 3)))] H → va_D A [((a 0), .inr (10, [.ref (a 1), .ref (a 4), .ref (a 2), .ref (ex 0), .int (vi 0)])), ((a 1), .inr (7, [.int (vi 1), .int (vi 2), .ref (ex 1), .ref (ex 2), .ref (ex 3), .ref (ex 4), .ref (ex 5), .ref (ex 6), .ref (ex 7), .ref (a 3), .ref (ex 8), .ref (ex 9)])), ((a 2), .inl (T 1, 9, .inl wf)), ((a 3), .inl (T 1, 9, .inl (fi 1))), ((a 4), .inr (2, [.ref (a 1), .int (vi 3), .int (vi 4), .int (vi 5), .int (vi 6), .int (vi 7), .int (vi 8), .ref (a 6), .ref (ex 10), .ref (ex 11), .ref (a 5), .ref (ex 12), .ref (ex 13), .ref (ex 14), .ref (ex 15)])), ((a 5), .inl (T 1, 9, .inl (fi 2))), ((a 6), .inl (T 1, 9, .inl (fi 3)))] → va_S A s.heap H locs → lv_has ls 4 [(2, .int w2), (1, .int w1), (0, .ref (a 0))] → W p l e R s m ([.ref (a 0)] : List Value).toArray below meth c H locs 0 0 Q (F0 m 4 ls []) := by
    intro kn
    induction kn using Nat.strongRecOn with
    | _ kn ih =>
      intro w2 w1 wf H locs ls hi hi_1 hm hP hD hS hl
      refine lv_iload_n hx hb dX10_point_4 rfl (lv_at hl 0 rfl) ?_
      refine lv_aload_n hx hb dX10_point_5 rfl (lv_at hl 2 rfl) ?_
      refine va_get (D := D) (ci := 10) (v := .ref (a 1)) (C := RX10) (T := TX10) (N := 5) hx hb htg inX10 hown hK.1 hP 0 rfl rfl 0 (by decide) (htg _ kw_416) (fun _ h9 => h9) rfl dX10_point_6 ?_
      refine va_getN (D := D) (ci := 7) (v := .int (vi 2)) (C := RX7) (T := TX7) (N := 12) hx hb htg inX7 hown hK.1 hP 1 rfl rfl 1 (by decide) (va_Nw.use rfl (hK.2.1 _ kn_165)) (fun _ h9 => h9) rfl dX10_point_9 ?_
      refine lv_icmp_ge (tgt := 117) hx hb dX10_point_12 (by decide) (fun c12 => ?_) (fun c12 => ?_)
      · have c12 := Int32.le_iff_toInt_le.mp c12
        have rc12 := xrng w2; have qc12 := xrng (vi 2)
        refine lv_iconst (v := 1) hx hb dX10_point_117 (by decide) ?_
        have hP9 := hP.sub (ws' := [((a 0), .inr (10, [.ref (a 1), .ref (a 4), .ref (a 2), .ref (ex 0), .int (vi 0)])), ((a 1), .inr (7, [.int (vi 1), .int (vi 2), .ref (ex 1), .ref (ex 2), .ref (ex 3), .ref (ex 4), .ref (ex 5), .ref (ex 6), .ref (ex 7), .ref (a 3), .ref (ex 8), .ref (ex 9)])), ((a 2), .inl (T 1, 9, .inl wf)), ((a 3), .inl (T 1, 9, .inl (fi 1))), ((a 4), .inr (2, [.ref (a 1), .int (vi 3), .int (vi 4), .int (vi 5), .int (vi 6), .int (vi 7), .int (vi 8), .ref (a 6), .ref (ex 10), .ref (ex 11), .ref (a 5), .ref (ex 12), .ref (ex 13), .ref (ex 14), .ref (ex 15)])), ((a 5), .inl (T 1, 9, .inl (fi 2))), ((a 6), .inl (T 1, 9, .inl (fi 3)))]) [0, 1, 2, 3, 4, 5, 6] rfl
        have hD9 := hD.sub (ws' := [((a 0), .inr (10, [.ref (a 1), .ref (a 4), .ref (a 2), .ref (ex 0), .int (vi 0)])), ((a 1), .inr (7, [.int (vi 1), .int (vi 2), .ref (ex 1), .ref (ex 2), .ref (ex 3), .ref (ex 4), .ref (ex 5), .ref (ex 6), .ref (ex 7), .ref (a 3), .ref (ex 8), .ref (ex 9)])), ((a 2), .inl (T 1, 9, .inl wf)), ((a 3), .inl (T 1, 9, .inl (fi 1))), ((a 4), .inr (2, [.ref (a 1), .int (vi 3), .int (vi 4), .int (vi 5), .int (vi 6), .int (vi 7), .int (vi 8), .ref (a 6), .ref (ex 10), .ref (ex 11), .ref (a 5), .ref (ex 12), .ref (ex 13), .ref (ex 14), .ref (ex 15)])), ((a 5), .inl (T 1, 9, .inl (fi 2))), ((a 6), .inl (T 1, 9, .inl (fi 3)))]) [0, 1, 2, 3, 4, 5, 6] (by decide +kernel) rfl
        rw [hQ]
        exact W.zret (v := 1) hx hb hr rfl (fun t ht hW => ⟨⟨1, 1, rfl, rfl, xf [wf], xh [], xv [], xl [], by rw [ht]; exact hP9, hD9, ⟨(Or.inl ⟨rfl, by show True; first | trivial | omega | assumption⟩), (show rg wf 0 9 (-1) 8 from hi_1), trivial⟩⟩, hS.F ht⟩) hS.2.2 dX10_point_118
      · have c12 := (mt Int32.le_iff_toInt_le.mpr c12)
        have rc12 := xrng w2; have qc12 := xrng (vi 2)
        refine lv_aload_n hx hb dX10_point_15 rfl (lv_at hl 2 rfl) ?_
        refine va_get (D := D) (ci := 10) (v := .ref (a 2)) (C := RX10) (T := TX10) (N := 5) hx hb htg inX10 hown hK.1 hP 0 rfl rfl 2 (by decide) (htg _ kw_418) (fun _ h9 => h9) rfl dX10_point_16 ?_
        refine lv_iload_n hx hb dX10_point_19 rfl (lv_at hl 0 rfl) ?_
        refine lv_iconst (v := (-1)) hx hb dX10_point_20 (by decide) ?_
        refine va_iast hx hb hK.1 hP hD hS 2 1 rfl rfl (vp_in_iff.mpr (by omega)) dX10_point_21 (fun H locs hP hD hS => ?_)
        obtain ⟨f21, ef21, hP, hD⟩ : ∃ f7 : Nat → Int32, f7 = upd wf w2.toNatClampNeg ((-1) : Int32) ∧ va_P D vwCl [((a 0), .inr (10, [.ref (a 1), .ref (a 4), .ref (a 2), .ref (ex 0), .int (vi 0)])), ((a 1), .inr (7, [.int (vi 1), .int (vi 2), .ref (ex 1), .ref (ex 2), .ref (ex 3), .ref (ex 4), .ref (ex 5), .ref (ex 6), .ref (ex 7), .ref (a 3), .ref (ex 8), .ref (ex 9)])), ((a 2), .inl (T 1, 9, .inl f7)), ((a 3), .inl (T 1, 9, .inl (fi 1))), ((a 4), .inr (2, [.ref (a 1), .int (vi 3), .int (vi 4), .int (vi 5), .int (vi 6), .int (vi 7), .int (vi 8), .ref (a 6), .ref (ex 10), .ref (ex 11), .ref (a 5), .ref (ex 12), .ref (ex 13), .ref (ex 14), .ref (ex 15)])), ((a 5), .inl (T 1, 9, .inl (fi 2))), ((a 6), .inl (T 1, 9, .inl (fi 3)))] H ∧ va_D A [((a 0), .inr (10, [.ref (a 1), .ref (a 4), .ref (a 2), .ref (ex 0), .int (vi 0)])), ((a 1), .inr (7, [.int (vi 1), .int (vi 2), .ref (ex 1), .ref (ex 2), .ref (ex 3), .ref (ex 4), .ref (ex 5), .ref (ex 6), .ref (ex 7), .ref (a 3), .ref (ex 8), .ref (ex 9)])), ((a 2), .inl (T 1, 9, .inl f7)), ((a 3), .inl (T 1, 9, .inl (fi 1))), ((a 4), .inr (2, [.ref (a 1), .int (vi 3), .int (vi 4), .int (vi 5), .int (vi 6), .int (vi 7), .int (vi 8), .ref (a 6), .ref (ex 10), .ref (ex 11), .ref (a 5), .ref (ex 12), .ref (ex 13), .ref (ex 14), .ref (ex 15)])), ((a 5), .inl (T 1, 9, .inl (fi 2))), ((a 6), .inl (T 1, 9, .inl (fi 3)))] := ⟨_, rfl, hP, hD⟩
        have hr21 : rg f21 0 9 (-1) 8 := by rw [ef21]; exact rg_upd hi_1 (by decide)
        refine lv_aload_n hx hb dX10_point_22 rfl (lv_at hl 2 rfl) ?_
        refine va_get (D := D) (ci := 10) (v := .ref (a 1)) (C := RX10) (T := TX10) (N := 5) hx hb htg inX10 hown hK.1 hP 0 rfl rfl 0 (by decide) (htg _ kw_416) (fun _ h9 => h9) rfl dX10_point_23 ?_
        refine va_getN (D := D) (ci := 7) (v := .ref (a 3)) (C := RX7) (T := TX7) (N := 12) hx hb htg inX7 hown hK.1 hP 1 rfl rfl 9 (by decide) (va_Nw.use rfl (hK.2.1 _ kn_187)) (fun _ h9 => h9) rfl dX10_point_26 ?_
        refine lv_iload_n hx hb dX10_point_29 rfl (lv_at hl 0 rfl) ?_
        refine va_iald hx hb hK.1 hP 3 1 rfl rfl (vp_in_iff.mpr (by omega)) dX10_point_30 ?_
        refine lv_istore_n (lv' := [(3, .int ((fi 1) w2.toNatClampNeg)), (2, .int w2), (1, .int w1), (0, .ref (a 0))]) hx hb dX10_point_31 rfl hl (by decide) rfl (fun ls hl => ?_)
        refine lv_aload_n hx hb dX10_point_32 rfl (lv_at hl 3 rfl) ?_
        refine va_get (D := D) (ci := 10) (v := .ref (a 4)) (C := RX10) (T := TX10) (N := 5) hx hb htg inX10 hown hK.1 hP 0 rfl rfl 1 (by decide) (htg _ kw_417) (fun _ h9 => h9) rfl dX10_point_33 ?_
        refine lv_iload_n hx hb dX10_point_36 rfl (lv_at hl 1 rfl) ?_
        obtain ⟨hC9, hPc, hDc, hFc⟩ := xcut (wc := (pre_X2_isAlive T (xa [(a 4)]) (xa [(a 1), (a 6), (ex 10), (ex 11), (a 5), (ex 12), (ex 13), (ex 14), (ex 15)]) (xf []) (xh []) (xv [w2, (vi 3), (vi 4), (vi 5), (vi 6), (vi 7), (vi 8)]) (xl []))) hP hD hS hA [4] (by decide) rfl
        refine va_calli (va_runVN (As := [.int w2]) (rest := []) ⟨hx, hb, hml, hown, htg⟩ (c_X2_isAlive l D T (xa [(a 4)]) (xa [(a 1), (a 6), (ex 10), (ex 11), (a 5), (ex 12), (ex 13), (ex 14), (ex 15)]) (xf []) (xh []) (xv [w2, (vi 3), (vi 4), (vi 5), (vi 6), (vi 7), (vi 8)]) (xl []) H.size hp3 hp4) ⟨va_cnB 1 htg (xg_ok kw_796) rfl rfl rfl (hK.2.1 _ kn_988) (htg _ kw_9) (by decide +kernel) ⟨by rw [hR]; exact Nat.le_of_ble_eq_true rfl, by rw [hR]; exact Nat.le_of_ble_eq_true rfl⟩, htg _ kw_795, htg _ ks_45⟩ (xpreV hK hPc hDc (va_recv hK.1 hPc (ci := 2) (q0 := 0) rfl rfl)) rfl rfl hl.1 rfl (lv_room (Nat.le_of_ble_eq_true rfl)) dX10_point_37 ⟨by rw [hR]; exact Nat.le_of_ble_eq_true rfl, by rw [hR]; exact Nat.le_of_ble_eq_true rfl⟩) hS (fun q _ h => hFc q h) hFc (fun r9 u9 t H1 locs ht hvm hw hB hz1 hk1 hS => ?_)
        subst hw
        obtain ⟨fik, flk, vik, vlk, hP1, hD1, hG⟩ := hB
        rw [ht] at hP1
        obtain ⟨hP, hD⟩ := va_join (wr := [((a 0), .inr (10, [.ref (a 1), .ref (a 4), .ref (a 2), .ref (ex 0), .int (vi 0)])), ((a 1), .inr (7, [.int (vi 1), .int (vi 2), .ref (ex 1), .ref (ex 2), .ref (ex 3), .ref (ex 4), .ref (ex 5), .ref (ex 6), .ref (ex 7), .ref (a 3), .ref (ex 8), .ref (ex 9)])), ((a 2), .inl (T 1, 9, .inl f21)), ((a 3), .inl (T 1, 9, .inl (fi 1))), ((a 5), .inl (T 1, 9, .inl (fi 2))), ((a 6), .inl (T 1, 9, .inl (fi 3)))]) (w1 := [((a 4), .inr (2, [.ref (a 1), .int (vi 3), .int (vi 4), .int (vi 5), .int (vi 6), .int (vi 7), .int (vi 8), .ref (a 6), .ref (ex 10), .ref (ex 11), .ref (a 5), .ref (ex 12), .ref (ex 13), .ref (ex 14), .ref (ex 15)]))]) hP hD [4] [0, 1, 2, 3, 5, 6] hC9 rfl (by decide) (by decide) hk1 hFc hP1 hD1
        obtain ⟨rk, er9⟩ : ∃ z, z = r9 := ⟨_, rfl⟩
        subst er9
        clear hPc hDc hFc hP1 hD1 hk1 hz1 hvm ht hC9
        generalize H1 = H at hP hS ⊢
        obtain ⟨hP, hD⟩ := (show xPD D A [((a 0), .inr (10, [.ref (a 1), .ref (a 4), .ref (a 2), .ref (ex 0), .int (vi 0)])), ((a 1), .inr (7, [.int (vi 1), .int (vi 2), .ref (ex 1), .ref (ex 2), .ref (ex 3), .ref (ex 4), .ref (ex 5), .ref (ex 6), .ref (ex 7), .ref (a 3), .ref (ex 8), .ref (ex 9)])), ((a 2), .inl (T 1, 9, .inl f21)), ((a 3), .inl (T 1, 9, .inl (fi 1))), ((a 5), .inl (T 1, 9, .inl (fi 2))), ((a 6), .inl (T 1, 9, .inl (fi 3))), ((a 4), .inr (2, [.ref (a 1), .int (vi 3), .int (vi 4), .int (vi 5), .int (vi 6), .int (vi 7), .int (vi 8), .ref (a 6), .ref (ex 10), .ref (ex 11), .ref (a 5), .ref (ex 12), .ref (ex 13), .ref (ex 14), .ref (ex 15)]))] H from ⟨hP, hD⟩)
        obtain ⟨gk_0, -⟩ := hG
        rcases (show (rk = 1 ∧ (True)) ∨ (rk = 0 ∧ (True)) from gk_0) with ⟨er9, gk_0⟩ | ⟨er9, gk_0⟩
        · refine xz_i 1 er9 ?_
          refine lv_if_eq (tgt := 111) hx hb dX10_point_40 (by decide) (fun c => absurd c (by decide)) (fun _ => ?_)
          refine lv_aload_n hx hb dX10_point_43 rfl (lv_at hl 3 rfl) ?_
          refine va_get (D := D) (ci := 10) (v := .ref (a 1)) (C := RX10) (T := TX10) (N := 5) hx hb htg inX10 hown hK.1 hP 0 rfl rfl 0 (by decide) (htg _ kw_416) (fun _ h9 => h9) rfl dX10_point_44 ?_
          refine lv_iload_n hx hb dX10_point_47 rfl (lv_at hl 0 rfl) ?_
          obtain ⟨hC9, hPc, hDc, hFc⟩ := xcut (wc := (pre_X7_isName T (xa [(a 1)]) (xa [(ex 1), (ex 2), (ex 3), (ex 4), (ex 5), (ex 6), (ex 7), (a 3), (ex 8), (ex 9)]) (xf []) (xh []) (xv [((fi 1) w2.toNatClampNeg), (vi 1), (vi 2)]) (xl []))) hP hD hS hA [1] (by decide) rfl
          refine va_calli (va_runVN (As := [.int ((fi 1) w2.toNatClampNeg)]) (rest := []) ⟨hx, hb, hml, hown, htg⟩ (c_X7_isName l D T (xa [(a 1)]) (xa [(ex 1), (ex 2), (ex 3), (ex 4), (ex 5), (ex 6), (ex 7), (a 3), (ex 8), (ex 9)]) (xf []) (xh []) (xv [((fi 1) w2.toNatClampNeg), (vi 1), (vi 2)]) (xl []) H.size hp0 hp1) ⟨va_cnB 1 htg (xg_ok kw_683) rfl rfl rfl (hK.2.1 _ kn_989) (htg _ kw_7) (by decide +kernel) ⟨by rw [hR]; exact Nat.le_of_ble_eq_true rfl, by rw [hR]; exact Nat.le_of_ble_eq_true rfl⟩, htg _ kw_682, htg _ ks_29⟩ (xpreV hK hPc hDc (va_recv hK.1 hPc (ci := 7) (q0 := 0) rfl rfl)) rfl rfl hl.1 rfl (lv_room (Nat.le_of_ble_eq_true rfl)) dX10_point_48 ⟨by rw [hR]; exact Nat.le_of_ble_eq_true rfl, by rw [hR]; exact Nat.le_of_ble_eq_true rfl⟩) hS (fun q _ h => hFc q h) hFc (fun r9 u9 t H1 locs ht hvm hw hB hz1 hk1 hS => ?_)
          subst hw
          obtain ⟨fik_1, flk_1, vik_1, vlk_1, hP1, hD1, hG⟩ := hB
          rw [ht] at hP1
          obtain ⟨hP, hD⟩ := va_join (wr := [((a 0), .inr (10, [.ref (a 1), .ref (a 4), .ref (a 2), .ref (ex 0), .int (vi 0)])), ((a 2), .inl (T 1, 9, .inl f21)), ((a 3), .inl (T 1, 9, .inl (fi 1))), ((a 5), .inl (T 1, 9, .inl (fi 2))), ((a 6), .inl (T 1, 9, .inl (fi 3))), ((a 4), .inr (2, [.ref (a 1), .int (vi 3), .int (vi 4), .int (vi 5), .int (vi 6), .int (vi 7), .int (vi 8), .ref (a 6), .ref (ex 10), .ref (ex 11), .ref (a 5), .ref (ex 12), .ref (ex 13), .ref (ex 14), .ref (ex 15)]))]) (w1 := [((a 1), .inr (7, [.int (vi 1), .int (vi 2), .ref (ex 1), .ref (ex 2), .ref (ex 3), .ref (ex 4), .ref (ex 5), .ref (ex 6), .ref (ex 7), .ref (a 3), .ref (ex 8), .ref (ex 9)]))]) hP hD [1] [0, 2, 3, 4, 5, 6] hC9 rfl (by decide) (by decide) hk1 hFc hP1 hD1
          obtain ⟨rk_1, er9⟩ : ∃ z, z = r9 := ⟨_, rfl⟩
          subst er9
          clear hPc hDc hFc hP1 hD1 hk1 hz1 hvm ht hC9
          generalize H1 = H at hP hS ⊢
          obtain ⟨hP, hD⟩ := (show xPD D A [((a 0), .inr (10, [.ref (a 1), .ref (a 4), .ref (a 2), .ref (ex 0), .int (vi 0)])), ((a 2), .inl (T 1, 9, .inl f21)), ((a 3), .inl (T 1, 9, .inl (fi 1))), ((a 5), .inl (T 1, 9, .inl (fi 2))), ((a 6), .inl (T 1, 9, .inl (fi 3))), ((a 4), .inr (2, [.ref (a 1), .int (vi 3), .int (vi 4), .int (vi 5), .int (vi 6), .int (vi 7), .int (vi 8), .ref (a 6), .ref (ex 10), .ref (ex 11), .ref (a 5), .ref (ex 12), .ref (ex 13), .ref (ex 14), .ref (ex 15)])), ((a 1), .inr (7, [.int (vi 1), .int (vi 2), .ref (ex 1), .ref (ex 2), .ref (ex 3), .ref (ex 4), .ref (ex 5), .ref (ex 6), .ref (ex 7), .ref (a 3), .ref (ex 8), .ref (ex 9)]))] H from ⟨hP, hD⟩)
          obtain ⟨gk_1_0, -⟩ := hG
          rcases (show (rk_1 = 1 ∧ (0 ≤ ((fi 1) w2.toNatClampNeg).toInt ∧ ((fi 1) w2.toNatClampNeg).toInt < (vi 1).toInt)) ∨ (rk_1 = 0 ∧ (¬ (0 ≤ ((fi 1) w2.toNatClampNeg).toInt ∧ ((fi 1) w2.toNatClampNeg).toInt < (vi 1).toInt))) from gk_1_0) with ⟨er9, gk_1_0⟩ | ⟨er9, gk_1_0⟩
          · refine xz_i 1 er9 ?_
            refine lv_if_eq (tgt := 111) hx hb dX10_point_51 (by decide) (fun c => absurd c (by decide)) (fun _ => ?_)
            refine lv_aload_n hx hb dX10_point_54 rfl (lv_at hl 3 rfl) ?_
            refine va_get (D := D) (ci := 10) (v := .ref (a 4)) (C := RX10) (T := TX10) (N := 5) hx hb htg inX10 hown hK.1 hP 0 rfl rfl 1 (by decide) (htg _ kw_417) (fun _ h9 => h9) rfl dX10_point_55 ?_
            refine va_getN (D := D) (ci := 2) (v := .ref (a 5)) (C := RX2) (T := TX2) (N := 15) hx hb htg inX2 hown hK.1 hP 5 rfl rfl 10 (by decide) (va_Nw.use rfl (hK.2.1 _ kn_268)) (fun _ h9 => h9) rfl dX10_point_58 ?_
            refine lv_iload_n hx hb dX10_point_61 rfl (lv_at hl 1 rfl) ?_
            refine va_iald hx hb hK.1 hP 3 1 rfl rfl (vp_in_iff.mpr (by omega)) dX10_point_62 ?_
            have hv := rg_at hp5 (i := w2) (by omega) (by omega)
            refine lv_iconst (v := (-1)) hx hb dX10_point_63 (by decide) ?_
            refine lv_icmp_eq (tgt := 88) hx hb dX10_point_64 (by decide) (fun c64 => ?_) (fun c64 => ?_)
            · have c64 := xeq (k := (-1)) (by decide) c64
              refine lv_iconst (v := 0) hx hb dX10_point_88 (by decide) ?_
              have hP9 := hP.sub (ws' := [((a 0), .inr (10, [.ref (a 1), .ref (a 4), .ref (a 2), .ref (ex 0), .int (vi 0)])), ((a 1), .inr (7, [.int (vi 1), .int (vi 2), .ref (ex 1), .ref (ex 2), .ref (ex 3), .ref (ex 4), .ref (ex 5), .ref (ex 6), .ref (ex 7), .ref (a 3), .ref (ex 8), .ref (ex 9)])), ((a 2), .inl (T 1, 9, .inl f21)), ((a 3), .inl (T 1, 9, .inl (fi 1))), ((a 4), .inr (2, [.ref (a 1), .int (vi 3), .int (vi 4), .int (vi 5), .int (vi 6), .int (vi 7), .int (vi 8), .ref (a 6), .ref (ex 10), .ref (ex 11), .ref (a 5), .ref (ex 12), .ref (ex 13), .ref (ex 14), .ref (ex 15)])), ((a 5), .inl (T 1, 9, .inl (fi 2))), ((a 6), .inl (T 1, 9, .inl (fi 3)))]) [0, 6, 1, 2, 5, 3, 4] rfl
              have hD9 := hD.sub (ws' := [((a 0), .inr (10, [.ref (a 1), .ref (a 4), .ref (a 2), .ref (ex 0), .int (vi 0)])), ((a 1), .inr (7, [.int (vi 1), .int (vi 2), .ref (ex 1), .ref (ex 2), .ref (ex 3), .ref (ex 4), .ref (ex 5), .ref (ex 6), .ref (ex 7), .ref (a 3), .ref (ex 8), .ref (ex 9)])), ((a 2), .inl (T 1, 9, .inl f21)), ((a 3), .inl (T 1, 9, .inl (fi 1))), ((a 4), .inr (2, [.ref (a 1), .int (vi 3), .int (vi 4), .int (vi 5), .int (vi 6), .int (vi 7), .int (vi 8), .ref (a 6), .ref (ex 10), .ref (ex 11), .ref (a 5), .ref (ex 12), .ref (ex 13), .ref (ex 14), .ref (ex 15)])), ((a 5), .inl (T 1, 9, .inl (fi 2))), ((a 6), .inl (T 1, 9, .inl (fi 3)))]) [0, 6, 1, 2, 5, 3, 4] (by decide +kernel) rfl
              rw [hQ]
              exact W.zret (v := 0) hx hb hr rfl (fun t ht hW => ⟨⟨0, 0, rfl, rfl, xf [f21], xh [], xv [], xl [], by rw [ht]; exact hP9, hD9, ⟨(Or.inr ⟨rfl, by show True; first | trivial | omega | assumption⟩), (show rg f21 0 9 (-1) 8 from hr21), trivial⟩⟩, hS.F ht⟩) hS.2.2 dX10_point_89
            · have c64 := xne (k := (-1)) (by decide) c64
              refine lv_aload_n hx hb dX10_point_67 rfl (lv_at hl 3 rfl) ?_
              refine va_get (D := D) (ci := 10) (v := .ref (a 4)) (C := RX10) (T := TX10) (N := 5) hx hb htg inX10 hown hK.1 hP 0 rfl rfl 1 (by decide) (htg _ kw_417) (fun _ h9 => h9) rfl dX10_point_68 ?_
              refine va_getN (D := D) (ci := 2) (v := .ref (a 6)) (C := RX2) (T := TX2) (N := 15) hx hb htg inX2 hown hK.1 hP 5 rfl rfl 7 (by decide) (va_Nw.use rfl (hK.2.1 _ kn_262)) (fun _ h9 => h9) rfl dX10_point_71 ?_
              refine lv_iload_n hx hb dX10_point_74 rfl (lv_at hl 0 rfl) ?_
              refine va_iald hx hb hK.1 hP 4 1 rfl rfl (vp_in_iff.mpr (by omega)) dX10_point_75 ?_
              have hv_1 := rg_at hp6 (i := ((fi 1) w2.toNatClampNeg)) (by omega) (by omega)
              refine lv_iconst (v := (-1)) hx hb dX10_point_76 (by decide) ?_
              refine lv_icmp_eq (tgt := 88) hx hb dX10_point_77 (by decide) (fun c77 => ?_) (fun c77 => ?_)
              · have c77 := xeq (k := (-1)) (by decide) c77
                refine lv_iconst (v := 0) hx hb dX10_point_88 (by decide) ?_
                have hP9 := hP.sub (ws' := [((a 0), .inr (10, [.ref (a 1), .ref (a 4), .ref (a 2), .ref (ex 0), .int (vi 0)])), ((a 1), .inr (7, [.int (vi 1), .int (vi 2), .ref (ex 1), .ref (ex 2), .ref (ex 3), .ref (ex 4), .ref (ex 5), .ref (ex 6), .ref (ex 7), .ref (a 3), .ref (ex 8), .ref (ex 9)])), ((a 2), .inl (T 1, 9, .inl f21)), ((a 3), .inl (T 1, 9, .inl (fi 1))), ((a 4), .inr (2, [.ref (a 1), .int (vi 3), .int (vi 4), .int (vi 5), .int (vi 6), .int (vi 7), .int (vi 8), .ref (a 6), .ref (ex 10), .ref (ex 11), .ref (a 5), .ref (ex 12), .ref (ex 13), .ref (ex 14), .ref (ex 15)])), ((a 5), .inl (T 1, 9, .inl (fi 2))), ((a 6), .inl (T 1, 9, .inl (fi 3)))]) [0, 6, 1, 2, 5, 3, 4] rfl
                have hD9 := hD.sub (ws' := [((a 0), .inr (10, [.ref (a 1), .ref (a 4), .ref (a 2), .ref (ex 0), .int (vi 0)])), ((a 1), .inr (7, [.int (vi 1), .int (vi 2), .ref (ex 1), .ref (ex 2), .ref (ex 3), .ref (ex 4), .ref (ex 5), .ref (ex 6), .ref (ex 7), .ref (a 3), .ref (ex 8), .ref (ex 9)])), ((a 2), .inl (T 1, 9, .inl f21)), ((a 3), .inl (T 1, 9, .inl (fi 1))), ((a 4), .inr (2, [.ref (a 1), .int (vi 3), .int (vi 4), .int (vi 5), .int (vi 6), .int (vi 7), .int (vi 8), .ref (a 6), .ref (ex 10), .ref (ex 11), .ref (a 5), .ref (ex 12), .ref (ex 13), .ref (ex 14), .ref (ex 15)])), ((a 5), .inl (T 1, 9, .inl (fi 2))), ((a 6), .inl (T 1, 9, .inl (fi 3)))]) [0, 6, 1, 2, 5, 3, 4] (by decide +kernel) rfl
                rw [hQ]
                exact W.zret (v := 0) hx hb hr rfl (fun t ht hW => ⟨⟨0, 0, rfl, rfl, xf [f21], xh [], xv [], xl [], by rw [ht]; exact hP9, hD9, ⟨(Or.inr ⟨rfl, by show True; first | trivial | omega | assumption⟩), (show rg f21 0 9 (-1) 8 from hr21), trivial⟩⟩, hS.F ht⟩) hS.2.2 dX10_point_89
              · have c77 := xne (k := (-1)) (by decide) c77
                refine lv_iload_n hx hb dX10_point_80 rfl (lv_at hl 2 rfl) ?_
                refine lv_iload_n hx hb dX10_point_81 rfl (lv_at hl 0 rfl) ?_
                obtain ⟨hC9, hPc, hDc, hFc⟩ := xcut (wc := (pre_X11_hasBit T (xa []) (xa []) (xf []) (xh []) (xv [w1, ((fi 1) w2.toNatClampNeg)]) (xl []))) hP hD hS hA [] (by decide) rfl
                refine va_calli (va_runSN (As := [.int w1, .int ((fi 1) w2.toNatClampNeg)]) (rest := []) ⟨hx, hb, hml, hown, htg⟩ (c_X11_hasBit l D T (xa []) (xa []) (xf []) (xh []) (xv [w1, ((fi 1) w2.toNatClampNeg)]) (xl []) H.size) ⟨va_cnB 2 htg (xg_ok kw_758) rfl rfl rfl (hK.2.1 _ kn_990) (htg _ kw_1) (by decide +kernel) ⟨by rw [hR]; exact Nat.le_of_ble_eq_true rfl, by rw [hR]; exact Nat.le_of_ble_eq_true rfl⟩, htg _ kw_757, trivial⟩ (xpreS hK hPc hDc) rfl rfl hl.1 rfl (lv_room (Nat.le_of_ble_eq_true rfl)) dX10_point_82 ⟨by rw [hR]; exact Nat.le_of_ble_eq_true rfl, by rw [hR]; exact Nat.le_of_ble_eq_true rfl⟩) hS (fun q _ h => hFc q h) hFc (fun r9 u9 t H1 locs ht hvm hw hB hz1 hk1 hS => ?_)
                subst hw
                obtain ⟨fik_2, flk_2, vik_2, vlk_2, hP1, hD1, hG⟩ := hB
                rw [ht] at hP1
                obtain ⟨hP, hD⟩ := va_join (wr := [((a 0), .inr (10, [.ref (a 1), .ref (a 4), .ref (a 2), .ref (ex 0), .int (vi 0)])), ((a 2), .inl (T 1, 9, .inl f21)), ((a 3), .inl (T 1, 9, .inl (fi 1))), ((a 5), .inl (T 1, 9, .inl (fi 2))), ((a 6), .inl (T 1, 9, .inl (fi 3))), ((a 4), .inr (2, [.ref (a 1), .int (vi 3), .int (vi 4), .int (vi 5), .int (vi 6), .int (vi 7), .int (vi 8), .ref (a 6), .ref (ex 10), .ref (ex 11), .ref (a 5), .ref (ex 12), .ref (ex 13), .ref (ex 14), .ref (ex 15)])), ((a 1), .inr (7, [.int (vi 1), .int (vi 2), .ref (ex 1), .ref (ex 2), .ref (ex 3), .ref (ex 4), .ref (ex 5), .ref (ex 6), .ref (ex 7), .ref (a 3), .ref (ex 8), .ref (ex 9)]))]) (w1 := []) hP hD [] [0, 1, 2, 3, 4, 5, 6] hC9 rfl (by decide) (by decide) hk1 hFc hP1 hD1
                obtain ⟨rk_2, er9⟩ : ∃ z, z = r9 := ⟨_, rfl⟩
                subst er9
                clear hPc hDc hFc hP1 hD1 hk1 hz1 hvm ht hC9
                generalize H1 = H at hP hS ⊢
                obtain ⟨hP, hD⟩ := (show xPD D A [((a 0), .inr (10, [.ref (a 1), .ref (a 4), .ref (a 2), .ref (ex 0), .int (vi 0)])), ((a 2), .inl (T 1, 9, .inl f21)), ((a 3), .inl (T 1, 9, .inl (fi 1))), ((a 5), .inl (T 1, 9, .inl (fi 2))), ((a 6), .inl (T 1, 9, .inl (fi 3))), ((a 4), .inr (2, [.ref (a 1), .int (vi 3), .int (vi 4), .int (vi 5), .int (vi 6), .int (vi 7), .int (vi 8), .ref (a 6), .ref (ex 10), .ref (ex 11), .ref (a 5), .ref (ex 12), .ref (ex 13), .ref (ex 14), .ref (ex 15)])), ((a 1), .inr (7, [.int (vi 1), .int (vi 2), .ref (ex 1), .ref (ex 2), .ref (ex 3), .ref (ex 4), .ref (ex 5), .ref (ex 6), .ref (ex 7), .ref (a 3), .ref (ex 8), .ref (ex 9)]))] H from ⟨hP, hD⟩)
                obtain ⟨gk_2_0, -⟩ := hG
                rcases (show (rk_2 = 1 ∧ (True)) ∨ (rk_2 = 0 ∧ (True)) from gk_2_0) with ⟨er9, gk_2_0⟩ | ⟨er9, gk_2_0⟩
                · refine xz_i 1 er9 ?_
                  refine lv_if_eq (tgt := 90) hx hb dX10_point_85 (by decide) (fun c => absurd c (by decide)) (fun _ => ?_)
                  refine lv_iconst (v := 0) hx hb dX10_point_88 (by decide) ?_
                  have hP9 := hP.sub (ws' := [((a 0), .inr (10, [.ref (a 1), .ref (a 4), .ref (a 2), .ref (ex 0), .int (vi 0)])), ((a 1), .inr (7, [.int (vi 1), .int (vi 2), .ref (ex 1), .ref (ex 2), .ref (ex 3), .ref (ex 4), .ref (ex 5), .ref (ex 6), .ref (ex 7), .ref (a 3), .ref (ex 8), .ref (ex 9)])), ((a 2), .inl (T 1, 9, .inl f21)), ((a 3), .inl (T 1, 9, .inl (fi 1))), ((a 4), .inr (2, [.ref (a 1), .int (vi 3), .int (vi 4), .int (vi 5), .int (vi 6), .int (vi 7), .int (vi 8), .ref (a 6), .ref (ex 10), .ref (ex 11), .ref (a 5), .ref (ex 12), .ref (ex 13), .ref (ex 14), .ref (ex 15)])), ((a 5), .inl (T 1, 9, .inl (fi 2))), ((a 6), .inl (T 1, 9, .inl (fi 3)))]) [0, 6, 1, 2, 5, 3, 4] rfl
                  have hD9 := hD.sub (ws' := [((a 0), .inr (10, [.ref (a 1), .ref (a 4), .ref (a 2), .ref (ex 0), .int (vi 0)])), ((a 1), .inr (7, [.int (vi 1), .int (vi 2), .ref (ex 1), .ref (ex 2), .ref (ex 3), .ref (ex 4), .ref (ex 5), .ref (ex 6), .ref (ex 7), .ref (a 3), .ref (ex 8), .ref (ex 9)])), ((a 2), .inl (T 1, 9, .inl f21)), ((a 3), .inl (T 1, 9, .inl (fi 1))), ((a 4), .inr (2, [.ref (a 1), .int (vi 3), .int (vi 4), .int (vi 5), .int (vi 6), .int (vi 7), .int (vi 8), .ref (a 6), .ref (ex 10), .ref (ex 11), .ref (a 5), .ref (ex 12), .ref (ex 13), .ref (ex 14), .ref (ex 15)])), ((a 5), .inl (T 1, 9, .inl (fi 2))), ((a 6), .inl (T 1, 9, .inl (fi 3)))]) [0, 6, 1, 2, 5, 3, 4] (by decide +kernel) rfl
                  rw [hQ]
                  exact W.zret (v := 0) hx hb hr rfl (fun t ht hW => ⟨⟨0, 0, rfl, rfl, xf [f21], xh [], xv [], xl [], by rw [ht]; exact hP9, hD9, ⟨(Or.inr ⟨rfl, by show True; first | trivial | omega | assumption⟩), (show rg f21 0 9 (-1) 8 from hr21), trivial⟩⟩, hS.F ht⟩) hS.2.2 dX10_point_89
                · refine xz_i 0 er9 ?_
                  refine lv_if_eq (tgt := 90) hx hb dX10_point_85 (by decide) (fun _ => ?_) (fun c => absurd (by decide) c)
                  refine lv_iload_n hx hb dX10_point_90 rfl (lv_at hl 2 rfl) ?_
                  refine lv_iconst (v := 1) hx hb dX10_point_91 (by decide) ?_
                  refine lv_iload_n hx hb dX10_point_92 rfl (lv_at hl 0 rfl) ?_
                  refine lv_ishl hx hb dX10_point_93 ?_
                  refine lv_topi (fun z93 ez93 => ?_)
                  refine lv_ior hx hb dX10_point_94 ?_
                  refine lv_topi (fun z94 ez94 => ?_)
                  refine lv_istore_n (lv' := [(1, .int z94), (3, .int ((fi 1) w2.toNatClampNeg)), (2, .int w2), (0, .ref (a 0))]) hx hb dX10_point_95 rfl hl (by decide) rfl (fun ls hl => ?_)
                  refine lv_aload_n hx hb dX10_point_96 rfl (lv_at hl 3 rfl) ?_
                  refine va_get (D := D) (ci := 10) (v := .ref (a 2)) (C := RX10) (T := TX10) (N := 5) hx hb htg inX10 hown hK.1 hP 0 rfl rfl 2 (by decide) (htg _ kw_418) (fun _ h9 => h9) rfl dX10_point_97 ?_
                  refine lv_iload_n hx hb dX10_point_100 rfl (lv_at hl 2 rfl) ?_
                  refine lv_aload_n hx hb dX10_point_101 rfl (lv_at hl 3 rfl) ?_
                  refine va_get (D := D) (ci := 10) (v := .ref (a 4)) (C := RX10) (T := TX10) (N := 5) hx hb htg inX10 hown hK.1 hP 0 rfl rfl 1 (by decide) (htg _ kw_417) (fun _ h9 => h9) rfl dX10_point_102 ?_
                  refine va_getN (D := D) (ci := 2) (v := .ref (a 6)) (C := RX2) (T := TX2) (N := 15) hx hb htg inX2 hown hK.1 hP 5 rfl rfl 7 (by decide) (va_Nw.use rfl (hK.2.1 _ kn_262)) (fun _ h9 => h9) rfl dX10_point_105 ?_
                  refine lv_iload_n hx hb dX10_point_108 rfl (lv_at hl 1 rfl) ?_
                  refine va_iald hx hb hK.1 hP 4 1 rfl rfl (vp_in_iff.mpr (by omega)) dX10_point_109 ?_
                  refine va_iast hx hb hK.1 hP hD hS 1 1 rfl rfl (vp_in_iff.mpr (by omega)) dX10_point_110 (fun H locs hP hD hS => ?_)
                  obtain ⟨f110, ef110, hP, hD⟩ : ∃ f7 : Nat → Int32, f7 = upd f21 w2.toNatClampNeg (((fi 3) ((fi 1) w2.toNatClampNeg).toNatClampNeg) : Int32) ∧ va_P D vwCl [((a 0), .inr (10, [.ref (a 1), .ref (a 4), .ref (a 2), .ref (ex 0), .int (vi 0)])), ((a 2), .inl (T 1, 9, .inl f7)), ((a 3), .inl (T 1, 9, .inl (fi 1))), ((a 5), .inl (T 1, 9, .inl (fi 2))), ((a 6), .inl (T 1, 9, .inl (fi 3))), ((a 4), .inr (2, [.ref (a 1), .int (vi 3), .int (vi 4), .int (vi 5), .int (vi 6), .int (vi 7), .int (vi 8), .ref (a 6), .ref (ex 10), .ref (ex 11), .ref (a 5), .ref (ex 12), .ref (ex 13), .ref (ex 14), .ref (ex 15)])), ((a 1), .inr (7, [.int (vi 1), .int (vi 2), .ref (ex 1), .ref (ex 2), .ref (ex 3), .ref (ex 4), .ref (ex 5), .ref (ex 6), .ref (ex 7), .ref (a 3), .ref (ex 8), .ref (ex 9)]))] H ∧ va_D A [((a 0), .inr (10, [.ref (a 1), .ref (a 4), .ref (a 2), .ref (ex 0), .int (vi 0)])), ((a 2), .inl (T 1, 9, .inl f7)), ((a 3), .inl (T 1, 9, .inl (fi 1))), ((a 5), .inl (T 1, 9, .inl (fi 2))), ((a 6), .inl (T 1, 9, .inl (fi 3))), ((a 4), .inr (2, [.ref (a 1), .int (vi 3), .int (vi 4), .int (vi 5), .int (vi 6), .int (vi 7), .int (vi 8), .ref (a 6), .ref (ex 10), .ref (ex 11), .ref (a 5), .ref (ex 12), .ref (ex 13), .ref (ex 14), .ref (ex 15)])), ((a 1), .inr (7, [.int (vi 1), .int (vi 2), .ref (ex 1), .ref (ex 2), .ref (ex 3), .ref (ex 4), .ref (ex 5), .ref (ex 6), .ref (ex 7), .ref (a 3), .ref (ex 8), .ref (ex 9)]))] := ⟨_, rfl, hP, hD⟩
                  have hr110 : rg f110 0 9 (-1) 8 := by rw [ef110]; exact rg_upd hr21 (by omega)
                  obtain ⟨i111, ei111⟩ : ∃ z : Int32, w2 + Int32.ofInt 1 = z := ⟨_, rfl⟩
                  have ti111 : i111.toInt = w2.toInt + 1 := by rw [← ei111]; have h79 := xrng w2; exact xadd rfl (by decide) (by omega) (by omega)
                  refine lv_iinc (v := i111) (lv' := [(2, .int i111), (1, .int z94), (3, .int ((fi 1) w2.toNatClampNeg)), (0, .ref (a 0))]) hx hb dX10_point_111 hl (k := 2) rfl ei111 (by decide) rfl (fun ls hl => ?_)
                  refine lv_goto (tgt := 4) hx hb dX10_point_114 (by decide) ?_
                  exact ih _ (by omega) i111 z94 f110 _ _ _ (by show 0 ≤ i111.toInt; omega) (show rg f110 0 9 (-1) 8 from hr110) rfl (hP.sub [0, 6, 1, 2, 5, 3, 4] rfl) (hD.sub [0, 6, 1, 2, 5, 3, 4] (by decide) rfl) hS (lv_sub hl [0, 1, 3] rfl)
          · refine xz_i 0 er9 ?_
            refine lv_if_eq (tgt := 111) hx hb dX10_point_51 (by decide) (fun _ => ?_) (fun c => absurd (by decide) c)
            obtain ⟨i111_1, ei111_1⟩ : ∃ z : Int32, w2 + Int32.ofInt 1 = z := ⟨_, rfl⟩
            have ti111_1 : i111_1.toInt = w2.toInt + 1 := by rw [← ei111_1]; have h79 := xrng w2; exact xadd rfl (by decide) (by omega) (by omega)
            refine lv_iinc (v := i111_1) (lv' := [(2, .int i111_1), (3, .int ((fi 1) w2.toNatClampNeg)), (1, .int w1), (0, .ref (a 0))]) hx hb dX10_point_111 hl (k := 1) rfl ei111_1 (by decide) rfl (fun ls hl => ?_)
            refine lv_goto (tgt := 4) hx hb dX10_point_114 (by decide) ?_
            exact ih _ (by omega) i111_1 w1 f21 _ _ _ (by show 0 ≤ i111_1.toInt; omega) (show rg f21 0 9 (-1) 8 from hr21) rfl (hP.sub [0, 6, 1, 2, 5, 3, 4] rfl) (hD.sub [0, 6, 1, 2, 5, 3, 4] (by decide) rfl) hS (lv_sub hl [0, 2, 3] rfl)
        · refine xz_i 0 er9 ?_
          refine lv_if_eq (tgt := 111) hx hb dX10_point_40 (by decide) (fun _ => ?_) (fun c => absurd (by decide) c)
          obtain ⟨i111_2, ei111_2⟩ : ∃ z : Int32, w2 + Int32.ofInt 1 = z := ⟨_, rfl⟩
          have ti111_2 : i111_2.toInt = w2.toInt + 1 := by rw [← ei111_2]; have h79 := xrng w2; exact xadd rfl (by decide) (by omega) (by omega)
          refine lv_iinc (v := i111_2) (lv' := [(2, .int i111_2), (3, .int ((fi 1) w2.toNatClampNeg)), (1, .int w1), (0, .ref (a 0))]) hx hb dX10_point_111 hl (k := 1) rfl ei111_2 (by decide) rfl (fun ls hl => ?_)
          refine lv_goto (tgt := 4) hx hb dX10_point_114 (by decide) ?_
          exact ih _ (by omega) i111_2 w1 f21 _ _ _ (by show 0 ≤ i111_2.toInt; omega) (show rg f21 0 9 (-1) 8 from hr21) rfl (hP.sub [0, 1, 2, 3, 6, 4, 5] rfl) (hD.sub [0, 1, 2, 3, 6, 4, 5] (by decide) rfl) hS (lv_sub hl [0, 2, 3] rfl)
  exact lp _ (0 : Int32) (0 : Int32) (fi 0) _ _ _ (show 0 ≤ (0 : Int32).toInt by decide) (show rg (fi 0) 0 9 (-1) 8 from hp2) rfl hP hD hS hl
abbrev pre_X10_pair (T : Nat → ClassId) (a ex : Nat → Nat) (fi : Nat → Nat → Int32) (fl : Nat → Nat → Int64) (vi : Nat → Int32) (vl : Nat → Int64) : va_W := [((a 0), .inr (10, [.ref (a 1), .ref (ex 0), .ref (a 2), .ref (a 3), .int (vi 0)])), ((a 1), .inr (7, [.int (vi 1), .int (vi 2), .ref (ex 1), .ref (ex 2), .ref (ex 3), .ref (ex 4), .ref (ex 5), .ref (ex 6), .ref (ex 7), .ref (ex 8), .ref (ex 9), .ref (ex 10)])), ((a 2), .inl (T 1, 9, .inl (fi 0))), ((a 3), .inl (T 1, 9, .inl (fi 1)))]
set_option maxHeartbeats 8000000 in
set_option maxRecDepth 100000 in
theorem c_X10_pair (l : Launch) (D : va_G) (T : Nat → ClassId) (a ex : Nat → Nat) (fi : Nat → Nat → Int32) (fl : Nat → Nat → Int64) (vi : Nat → Int32) (vl : Nat → Int64) (sz : Nat) (hp0 : 0 ≤ (vi 1).toInt ∧ (vi 1).toInt ≤ 9) (hp1 : 0 ≤ (vi 2).toInt ∧ (vi 2).toInt ≤ 9) (hp2 : rg (fi 0) 0 9 (-1) 8) : Met l yX10_pair (xw yX10_pair cX10_pair 3 none) ({ frames := 0, cells := 0, slots := 0, locals := 0 }) (xP D T [.ref (a 0)] sz (pre_X10_pair T a ex fi fl vi vl)) (va_Qv (fun _ : Int32 => True) (xC D (va_A (pre_X10_pair T a ex fi fl vi vl) sz) (fun fj fm vj vm => [((a 0), .inr (10, [.ref (a 1), .ref (ex 0), .ref (a 2), .ref (a 3), .int (vj 0)])), ((a 1), .inr (7, [.int (vi 1), .int (vi 2), .ref (ex 1), .ref (ex 2), .ref (ex 3), .ref (ex 4), .ref (ex 5), .ref (ex 6), .ref (ex 7), .ref (ex 8), .ref (ex 9), .ref (ex 10)])), ((a 2), .inl (T 1, 9, .inl (fi 0))), ((a 3), .inl (T 1, 9, .inl (fj 0)))]) (fun (r : Int32) (fj : Nat → Nat → Int32) (fm : Nat → Nat → Int64) (vj : Nat → Int32) (vm : Nat → Int64) => True)) (va_A (pre_X10_pair T a ex fi fl vi vl) sz)) 0 0 (va_A (pre_X10_pair T a ex fi fl vi vl) sz) := by
  refine xofW (cc := cX10_pair) (maxL := 3) (ret := none) (by decide) rfl ?_
  intro p e s m args below meth c s₁ R Q hR hQ B hml hv
  obtain ⟨rfl, hsz, hP, hK, hD0⟩ := hv
  have hx := B.exec
  have hb := B.bytes
  have hr := B.returns
  have hts := atoms_spec (ws := xw yX10_pair cX10_pair 3 none) B.pre
  have htg : ∀ w ∈ xg, w.before _ s = true := fun w h => hts w (List.mem_cons_of_mem _ h)
  have hown : s.vm.findClass RX10 = some m.cls := findClass_of_methodNamed B.named
  have hlocks := B.notSynchronized
  subst hsz
  have hD := hD0.self (sz := s.heap.size)
  generalize hAe : va_A (pre_X10_pair T a ex fi fl vi vl) s.heap.size = A at hD hQ
  have hA : ∀ q : Nat, s.heap.size ≤ q → A q := fun q h => by rw [← hAe]; exact Or.inr h
  have hS : va_S A s.heap s.heap [] := va_S.rf
  replace hP : va_P D vwCl [((a 0), .inr (10, [.ref (a 1), .ref (ex 0), .ref (a 2), .ref (a 3), .int (vi 0)])), ((a 1), .inr (7, [.int (vi 1), .int (vi 2), .ref (ex 1), .ref (ex 2), .ref (ex 3), .ref (ex 4), .ref (ex 5), .ref (ex 6), .ref (ex 7), .ref (ex 8), .ref (ex 9), .ref (ex 10)])), ((a 2), .inl (T 1, 9, .inl (fi 0))), ((a 3), .inl (T 1, 9, .inl (fi 1)))] s.heap := hP
  replace hD : va_D A [((a 0), .inr (10, [.ref (a 1), .ref (ex 0), .ref (a 2), .ref (a 3), .int (vi 0)])), ((a 1), .inr (7, [.int (vi 1), .int (vi 2), .ref (ex 1), .ref (ex 2), .ref (ex 3), .ref (ex 4), .ref (ex 5), .ref (ex 6), .ref (ex 7), .ref (ex 8), .ref (ex 9), .ref (ex 10)])), ((a 2), .inl (T 1, 9, .inl (fi 0))), ((a 3), .inl (T 1, 9, .inl (fi 1)))] := hD
  have hl := lv_entry ([.ref (a 0)]) (n := 3) (Nat.le_of_ble_eq_true rfl)
  rw [lg_entry_eq]
  generalize (lg_sl ([.ref (a 0)]) ++ List.replicate (3 - (lg_sl ([.ref (a 0)])).length) Slot.unset).toArray = ls at hl ⊢
  replace hl : lv_has ls 3 [(0, .ref (a 0))] := hl
  refine lv_aload_n hx hb dX10_pair_0 rfl (lv_at hl 0 rfl) ?_
  refine lv_iconst (v := 1) hx hb dX10_pair_1 (by decide) ?_
  refine va_put (D := D) (ci := 10) (v := .int 1) (ty := .boolean) (C := RX10) (T := TX10) (N := 5) hx hb htg inX10 tyX10 tyX10_ok nmX10 hown hK.1 hP hD hS 0 rfl rfl 4 (by decide) (htg _ kw_420) (fun _ h9 => h9) rfl (by decide +kernel) rfl rfl (Nat.le_of_ble_eq_true rfl) dX10_pair_2 (fun H locs hP hD hS => ?_)
  obtain ⟨hP, hD⟩ := (show xPD D A [((a 0), .inr (10, [.ref (a 1), .ref (ex 0), .ref (a 2), .ref (a 3), .int 1])), ((a 1), .inr (7, [.int (vi 1), .int (vi 2), .ref (ex 1), .ref (ex 2), .ref (ex 3), .ref (ex 4), .ref (ex 5), .ref (ex 6), .ref (ex 7), .ref (ex 8), .ref (ex 9), .ref (ex 10)])), ((a 2), .inl (T 1, 9, .inl (fi 0))), ((a 3), .inl (T 1, 9, .inl (fi 1)))] H from ⟨hP, hD⟩)
  refine lv_iconst (v := 0) hx hb dX10_pair_5 (by decide) ?_
  refine lv_istore_n (lv' := [(1, .int 0), (0, .ref (a 0))]) hx hb dX10_pair_6 rfl hl (by decide) rfl (fun ls hl => ?_)
  have lp : ∀ (kn : Nat) (w1 : Int32) (wf : Nat → Int32) (H : Heap) (locs : List Loc) (ls : Array Slot), (0 ≤ w1.toInt) → (2147483648 - w1.toInt).toNat = kn → va_P D vwCl [((a 0), .inr (10, [.ref (a 1), .ref (ex 0), .ref (a 2), .ref (a 3), .int 1])), ((a 1), .inr (7, [.int (vi 1), .int (vi 2), .ref (ex 1), .ref (ex 2), .ref (ex 3), .ref (ex 4), .ref (ex 5), .ref (ex 6), .ref (ex 7), .ref (ex 8), .ref (ex 9), .ref (ex 10)])), ((a 2), .inl (T 1, 9, .inl (fi 0))), ((a 3), .inl (T 1, 9, .inl wf))] H → va_D A [((a 0), .inr (10, [.ref (a 1), .ref (ex 0), .ref (a 2), .ref (a 3), .int 1])), ((a 1), .inr (7, [.int (vi 1), .int (vi 2), .ref (ex 1), .ref (ex 2), .ref (ex 3), .ref (ex 4), .ref (ex 5), .ref (ex 6), .ref (ex 7), .ref (ex 8), .ref (ex 9), .ref (ex 10)])), ((a 2), .inl (T 1, 9, .inl (fi 0))), ((a 3), .inl (T 1, 9, .inl wf))] → va_S A s.heap H locs → lv_has ls 3 [(1, .int w1), (0, .ref (a 0))] → W p l e R s m ([.ref (a 0)] : List Value).toArray below meth c H locs 0 0 Q (F0 m 7 ls []) := by
    intro kn
    induction kn using Nat.strongRecOn with
    | _ kn ih =>
      intro w1 wf H locs ls hi hm hP hD hS hl
      refine lv_iload_n hx hb dX10_pair_7 rfl (lv_at hl 0 rfl) ?_
      refine lv_bipush (v := 9) hx hb dX10_pair_8 (by decide) ?_
      refine lv_icmp_ge (tgt := 26) hx hb dX10_pair_10 (by decide) (fun c10 => ?_) (fun c10 => ?_)
      · have c10 := xge (k := 9) (by decide) c10
        refine lv_iconst (v := 0) hx hb dX10_pair_26 (by decide) ?_
        refine lv_istore_n (lv' := [(1, .int 0), (0, .ref (a 0))]) hx hb dX10_pair_27 rfl hl (by decide) rfl (fun ls hl => ?_)
        have lp_1 : ∀ (kn_1 : Nat) (w1_1 : Int32) (wf_1 : Nat → Int32) (H : Heap) (locs : List Loc) (ls : Array Slot), (0 ≤ w1_1.toInt) → (2147483648 - w1_1.toInt).toNat = kn_1 → va_P D vwCl [((a 0), .inr (10, [.ref (a 1), .ref (ex 0), .ref (a 2), .ref (a 3), .int 1])), ((a 1), .inr (7, [.int (vi 1), .int (vi 2), .ref (ex 1), .ref (ex 2), .ref (ex 3), .ref (ex 4), .ref (ex 5), .ref (ex 6), .ref (ex 7), .ref (ex 8), .ref (ex 9), .ref (ex 10)])), ((a 2), .inl (T 1, 9, .inl (fi 0))), ((a 3), .inl (T 1, 9, .inl wf_1))] H → va_D A [((a 0), .inr (10, [.ref (a 1), .ref (ex 0), .ref (a 2), .ref (a 3), .int 1])), ((a 1), .inr (7, [.int (vi 1), .int (vi 2), .ref (ex 1), .ref (ex 2), .ref (ex 3), .ref (ex 4), .ref (ex 5), .ref (ex 6), .ref (ex 7), .ref (ex 8), .ref (ex 9), .ref (ex 10)])), ((a 2), .inl (T 1, 9, .inl (fi 0))), ((a 3), .inl (T 1, 9, .inl wf_1))] → va_S A s.heap H locs → lv_has ls 3 [(1, .int w1_1), (0, .ref (a 0))] → W p l e R s m ([.ref (a 0)] : List Value).toArray below meth c H locs 0 0 Q (F0 m 28 ls []) := by
          intro kn_1
          induction kn_1 using Nat.strongRecOn with
          | _ kn_1 ih_1 =>
            intro w1_1 wf_1 H locs ls hi_1 hm_1 hP hD hS hl
            refine lv_iload_n hx hb dX10_pair_28 rfl (lv_at hl 0 rfl) ?_
            refine lv_aload_n hx hb dX10_pair_29 rfl (lv_at hl 1 rfl) ?_
            refine va_get (D := D) (ci := 10) (v := .ref (a 1)) (C := RX10) (T := TX10) (N := 5) hx hb htg inX10 hown hK.1 hP 0 rfl rfl 0 (by decide) (htg _ kw_416) (fun _ h9 => h9) rfl dX10_pair_30 ?_
            refine va_getN (D := D) (ci := 7) (v := .int (vi 2)) (C := RX7) (T := TX7) (N := 12) hx hb htg inX7 hown hK.1 hP 1 rfl rfl 1 (by decide) (va_Nw.use rfl (hK.2.1 _ kn_165)) (fun _ h9 => h9) rfl dX10_pair_33 ?_
            refine lv_icmp_ge (tgt := 76) hx hb dX10_pair_36 (by decide) (fun c36 => ?_) (fun c36 => ?_)
            · have c36 := Int32.le_iff_toInt_le.mp c36
              have rc36 := xrng w1_1; have qc36 := xrng (vi 2)
              have hP9 := hP.sub (ws' := [((a 0), .inr (10, [.ref (a 1), .ref (ex 0), .ref (a 2), .ref (a 3), .int 1])), ((a 1), .inr (7, [.int (vi 1), .int (vi 2), .ref (ex 1), .ref (ex 2), .ref (ex 3), .ref (ex 4), .ref (ex 5), .ref (ex 6), .ref (ex 7), .ref (ex 8), .ref (ex 9), .ref (ex 10)])), ((a 2), .inl (T 1, 9, .inl (fi 0))), ((a 3), .inl (T 1, 9, .inl wf_1))]) [0, 1, 2, 3] rfl
              have hD9 := hD.sub (ws' := [((a 0), .inr (10, [.ref (a 1), .ref (ex 0), .ref (a 2), .ref (a 3), .int 1])), ((a 1), .inr (7, [.int (vi 1), .int (vi 2), .ref (ex 1), .ref (ex 2), .ref (ex 3), .ref (ex 4), .ref (ex 5), .ref (ex 6), .ref (ex 7), .ref (ex 8), .ref (ex 9), .ref (ex 10)])), ((a 2), .inl (T 1, 9, .inl (fi 0))), ((a 3), .inl (T 1, 9, .inl wf_1))]) [0, 1, 2, 3] (by decide +kernel) rfl
              rw [hQ]
              exact W.vret hx hb hr (fun t ht hW => ⟨⟨(0 : Int32), rfl, trivial, xf [wf_1], xh [], xv [1], xl [], by rw [ht]; exact hP9, hD9, trivial⟩, hS.F ht⟩) hS.2.2 dX10_pair_76
            · have c36 := (mt Int32.le_iff_toInt_le.mpr c36)
              have rc36 := xrng w1_1; have qc36 := xrng (vi 2)
              refine lv_aload_n hx hb dX10_pair_39 rfl (lv_at hl 1 rfl) ?_
              refine va_get (D := D) (ci := 10) (v := .ref (a 2)) (C := RX10) (T := TX10) (N := 5) hx hb htg inX10 hown hK.1 hP 0 rfl rfl 2 (by decide) (htg _ kw_418) (fun _ h9 => h9) rfl dX10_pair_40 ?_
              refine lv_iload_n hx hb dX10_pair_43 rfl (lv_at hl 0 rfl) ?_
              refine va_iald hx hb hK.1 hP 2 1 rfl rfl (vp_in_iff.mpr (by omega)) dX10_pair_44 ?_
              have hv := rg_at hp2 (i := w1_1) (by omega) (by omega)
              refine lv_istore_n (lv' := [(2, .int ((fi 0) w1_1.toNatClampNeg)), (1, .int w1_1), (0, .ref (a 0))]) hx hb dX10_pair_45 rfl hl (by decide) rfl (fun ls hl => ?_)
              refine lv_iload_n hx hb dX10_pair_46 rfl (lv_at hl 0 rfl) ?_
              refine lv_iconst (v := (-1)) hx hb dX10_pair_47 (by decide) ?_
              refine lv_icmp_eq (tgt := 70) hx hb dX10_pair_48 (by decide) (fun c48 => ?_) (fun c48 => ?_)
              · have c48 := xeq (k := (-1)) (by decide) c48
                obtain ⟨i70, ei70⟩ : ∃ z : Int32, w1_1 + Int32.ofInt 1 = z := ⟨_, rfl⟩
                have ti70 : i70.toInt = w1_1.toInt + 1 := by rw [← ei70]; have h79 := xrng w1_1; exact xadd rfl (by decide) (by omega) (by omega)
                refine lv_iinc (v := i70) (lv' := [(1, .int i70), (2, .int ((fi 0) w1_1.toNatClampNeg)), (0, .ref (a 0))]) hx hb dX10_pair_70 hl (k := 1) rfl ei70 (by decide) rfl (fun ls hl => ?_)
                refine lv_goto (tgt := 28) hx hb dX10_pair_73 (by decide) ?_
                exact ih_1 _ (by omega) i70 wf_1 _ _ _ (by show 0 ≤ i70.toInt; omega) rfl (hP.sub [0, 1, 2, 3] rfl) (hD.sub [0, 1, 2, 3] (by decide) rfl) hS (lv_sub hl [0, 2] rfl)
              · have c48 := xne (k := (-1)) (by decide) c48
                refine lv_iload_n hx hb dX10_pair_51 rfl (lv_at hl 0 rfl) ?_
                refine lv_iload_n hx hb dX10_pair_52 rfl (lv_at hl 1 rfl) ?_
                refine lv_icmp_eq (tgt := 70) hx hb dX10_pair_53 (by decide) (fun c53 => ?_) (fun c53 => ?_)
                · have c53 := congrArg Int32.toInt c53
                  have rc53 := xrng ((fi 0) w1_1.toNatClampNeg); have qc53 := xrng w1_1
                  obtain ⟨i70_1, ei70_1⟩ : ∃ z : Int32, w1_1 + Int32.ofInt 1 = z := ⟨_, rfl⟩
                  have ti70_1 : i70_1.toInt = w1_1.toInt + 1 := by rw [← ei70_1]; have h79 := xrng w1_1; exact xadd rfl (by decide) (by omega) (by omega)
                  refine lv_iinc (v := i70_1) (lv' := [(1, .int i70_1), (2, .int ((fi 0) w1_1.toNatClampNeg)), (0, .ref (a 0))]) hx hb dX10_pair_70 hl (k := 1) rfl ei70_1 (by decide) rfl (fun ls hl => ?_)
                  refine lv_goto (tgt := 28) hx hb dX10_pair_73 (by decide) ?_
                  exact ih_1 _ (by omega) i70_1 wf_1 _ _ _ (by show 0 ≤ i70_1.toInt; omega) rfl (hP.sub [0, 1, 2, 3] rfl) (hD.sub [0, 1, 2, 3] (by decide) rfl) hS (lv_sub hl [0, 2] rfl)
                · have c53 := xne2 c53
                  have rc53 := xrng ((fi 0) w1_1.toNatClampNeg); have qc53 := xrng w1_1
                  refine lv_aload_n hx hb dX10_pair_56 rfl (lv_at hl 2 rfl) ?_
                  refine va_get (D := D) (ci := 10) (v := .ref (a 3)) (C := RX10) (T := TX10) (N := 5) hx hb htg inX10 hown hK.1 hP 0 rfl rfl 3 (by decide) (htg _ kw_419) (fun _ h9 => h9) rfl dX10_pair_57 ?_
                  refine lv_iload_n hx hb dX10_pair_60 rfl (lv_at hl 1 rfl) ?_
                  refine lv_iload_n hx hb dX10_pair_61 rfl (lv_at hl 0 rfl) ?_
                  refine va_iast hx hb hK.1 hP hD hS 3 1 rfl rfl (vp_in_iff.mpr (by omega)) dX10_pair_62 (fun H locs hP hD hS => ?_)
                  obtain ⟨f62, ef62, hP, hD⟩ : ∃ f7 : Nat → Int32, f7 = upd wf_1 w1_1.toNatClampNeg (((fi 0) w1_1.toNatClampNeg) : Int32) ∧ va_P D vwCl [((a 0), .inr (10, [.ref (a 1), .ref (ex 0), .ref (a 2), .ref (a 3), .int 1])), ((a 1), .inr (7, [.int (vi 1), .int (vi 2), .ref (ex 1), .ref (ex 2), .ref (ex 3), .ref (ex 4), .ref (ex 5), .ref (ex 6), .ref (ex 7), .ref (ex 8), .ref (ex 9), .ref (ex 10)])), ((a 2), .inl (T 1, 9, .inl (fi 0))), ((a 3), .inl (T 1, 9, .inl f7))] H ∧ va_D A [((a 0), .inr (10, [.ref (a 1), .ref (ex 0), .ref (a 2), .ref (a 3), .int 1])), ((a 1), .inr (7, [.int (vi 1), .int (vi 2), .ref (ex 1), .ref (ex 2), .ref (ex 3), .ref (ex 4), .ref (ex 5), .ref (ex 6), .ref (ex 7), .ref (ex 8), .ref (ex 9), .ref (ex 10)])), ((a 2), .inl (T 1, 9, .inl (fi 0))), ((a 3), .inl (T 1, 9, .inl f7))] := ⟨_, rfl, hP, hD⟩
                  refine lv_aload_n hx hb dX10_pair_63 rfl (lv_at hl 2 rfl) ?_
                  refine va_get (D := D) (ci := 10) (v := .ref (a 3)) (C := RX10) (T := TX10) (N := 5) hx hb htg inX10 hown hK.1 hP 0 rfl rfl 3 (by decide) (htg _ kw_419) (fun _ h9 => h9) rfl dX10_pair_64 ?_
                  refine lv_iload_n hx hb dX10_pair_67 rfl (lv_at hl 0 rfl) ?_
                  refine lv_iload_n hx hb dX10_pair_68 rfl (lv_at hl 1 rfl) ?_
                  refine va_iast hx hb hK.1 hP hD hS 3 1 rfl rfl (vp_in_iff.mpr (by omega)) dX10_pair_69 (fun H locs hP hD hS => ?_)
                  obtain ⟨f69, ef69, hP, hD⟩ : ∃ f7 : Nat → Int32, f7 = upd f62 ((fi 0) w1_1.toNatClampNeg).toNatClampNeg (w1_1 : Int32) ∧ va_P D vwCl [((a 0), .inr (10, [.ref (a 1), .ref (ex 0), .ref (a 2), .ref (a 3), .int 1])), ((a 1), .inr (7, [.int (vi 1), .int (vi 2), .ref (ex 1), .ref (ex 2), .ref (ex 3), .ref (ex 4), .ref (ex 5), .ref (ex 6), .ref (ex 7), .ref (ex 8), .ref (ex 9), .ref (ex 10)])), ((a 2), .inl (T 1, 9, .inl (fi 0))), ((a 3), .inl (T 1, 9, .inl f7))] H ∧ va_D A [((a 0), .inr (10, [.ref (a 1), .ref (ex 0), .ref (a 2), .ref (a 3), .int 1])), ((a 1), .inr (7, [.int (vi 1), .int (vi 2), .ref (ex 1), .ref (ex 2), .ref (ex 3), .ref (ex 4), .ref (ex 5), .ref (ex 6), .ref (ex 7), .ref (ex 8), .ref (ex 9), .ref (ex 10)])), ((a 2), .inl (T 1, 9, .inl (fi 0))), ((a 3), .inl (T 1, 9, .inl f7))] := ⟨_, rfl, hP, hD⟩
                  obtain ⟨i70_2, ei70_2⟩ : ∃ z : Int32, w1_1 + Int32.ofInt 1 = z := ⟨_, rfl⟩
                  have ti70_2 : i70_2.toInt = w1_1.toInt + 1 := by rw [← ei70_2]; have h79 := xrng w1_1; exact xadd rfl (by decide) (by omega) (by omega)
                  refine lv_iinc (v := i70_2) (lv' := [(1, .int i70_2), (2, .int ((fi 0) w1_1.toNatClampNeg)), (0, .ref (a 0))]) hx hb dX10_pair_70 hl (k := 1) rfl ei70_2 (by decide) rfl (fun ls hl => ?_)
                  refine lv_goto (tgt := 28) hx hb dX10_pair_73 (by decide) ?_
                  exact ih_1 _ (by omega) i70_2 f69 _ _ _ (by show 0 ≤ i70_2.toInt; omega) rfl (hP.sub [0, 1, 2, 3] rfl) (hD.sub [0, 1, 2, 3] (by decide) rfl) hS (lv_sub hl [0, 2] rfl)
        exact lp_1 _ (0 : Int32) wf _ _ _ (show 0 ≤ (0 : Int32).toInt by decide) rfl hP hD hS hl
      · have c10 := xnge (k := 9) (by decide) c10
        refine lv_aload_n hx hb dX10_pair_13 rfl (lv_at hl 1 rfl) ?_
        refine va_get (D := D) (ci := 10) (v := .ref (a 3)) (C := RX10) (T := TX10) (N := 5) hx hb htg inX10 hown hK.1 hP 0 rfl rfl 3 (by decide) (htg _ kw_419) (fun _ h9 => h9) rfl dX10_pair_14 ?_
        refine lv_iload_n hx hb dX10_pair_17 rfl (lv_at hl 0 rfl) ?_
        refine lv_iconst (v := (-1)) hx hb dX10_pair_18 (by decide) ?_
        refine va_iast hx hb hK.1 hP hD hS 3 1 rfl rfl (vp_in_iff.mpr (by omega)) dX10_pair_19 (fun H locs hP hD hS => ?_)
        obtain ⟨f19, ef19, hP, hD⟩ : ∃ f7 : Nat → Int32, f7 = upd wf w1.toNatClampNeg ((-1) : Int32) ∧ va_P D vwCl [((a 0), .inr (10, [.ref (a 1), .ref (ex 0), .ref (a 2), .ref (a 3), .int 1])), ((a 1), .inr (7, [.int (vi 1), .int (vi 2), .ref (ex 1), .ref (ex 2), .ref (ex 3), .ref (ex 4), .ref (ex 5), .ref (ex 6), .ref (ex 7), .ref (ex 8), .ref (ex 9), .ref (ex 10)])), ((a 2), .inl (T 1, 9, .inl (fi 0))), ((a 3), .inl (T 1, 9, .inl f7))] H ∧ va_D A [((a 0), .inr (10, [.ref (a 1), .ref (ex 0), .ref (a 2), .ref (a 3), .int 1])), ((a 1), .inr (7, [.int (vi 1), .int (vi 2), .ref (ex 1), .ref (ex 2), .ref (ex 3), .ref (ex 4), .ref (ex 5), .ref (ex 6), .ref (ex 7), .ref (ex 8), .ref (ex 9), .ref (ex 10)])), ((a 2), .inl (T 1, 9, .inl (fi 0))), ((a 3), .inl (T 1, 9, .inl f7))] := ⟨_, rfl, hP, hD⟩
        obtain ⟨i20, ei20⟩ : ∃ z : Int32, w1 + Int32.ofInt 1 = z := ⟨_, rfl⟩
        have ti20 : i20.toInt = w1.toInt + 1 := by rw [← ei20]; have h79 := xrng w1; exact xadd rfl (by decide) (by omega) (by omega)
        refine lv_iinc (v := i20) (lv' := [(1, .int i20), (0, .ref (a 0))]) hx hb dX10_pair_20 hl (k := 0) rfl ei20 (by decide) rfl (fun ls hl => ?_)
        refine lv_goto (tgt := 7) hx hb dX10_pair_23 (by decide) ?_
        exact ih _ (by omega) i20 f19 _ _ _ (by show 0 ≤ i20.toInt; omega) rfl (hP.sub [0, 1, 2, 3] rfl) (hD.sub [0, 1, 2, 3] (by decide) rfl) hS (lv_sub hl [0, 1] rfl)
  exact lp _ (0 : Int32) (fi 1) _ _ _ (show 0 ≤ (0 : Int32).toInt by decide) rfl hP hD hS hl
abbrev pre_X10_mondaysFor (T : Nat → ClassId) (a ex : Nat → Nat) (fi : Nat → Nat → Int32) (fl : Nat → Nat → Int64) (vi : Nat → Int32) (vl : Nat → Int64) : va_W := [((a 0), .inr (10, [.ref (ex 0), .ref (ex 1), .ref (a 1), .ref (ex 2), .int (vi 1)])), ((a 1), .inl (T 1, 9, .inl (fi 0)))]
set_option maxHeartbeats 8000000 in
set_option maxRecDepth 100000 in
theorem c_X10_mondaysFor (l : Launch) (D : va_G) (T : Nat → ClassId) (a ex : Nat → Nat) (fi : Nat → Nat → Int32) (fl : Nat → Nat → Int64) (vi : Nat → Int32) (vl : Nat → Int64) (sz : Nat) (hp0 : 0 ≤ (vi 0).toInt ∧ (vi 0).toInt ≤ 8) (hp1 : rg (fi 0) 0 9 (-1) 8) : Met l yX10_mondaysFor (xw yX10_mondaysFor cX10_mondaysFor 3 (some .int)) ({ frames := 0, cells := 0, slots := 0, locals := 0 }) (xP D T [.ref (a 0), .int (vi 0)] sz (pre_X10_mondaysFor T a ex fi fl vi vl)) (va_Qi (fun r u => r = u) (xC D (va_A (pre_X10_mondaysFor T a ex fi fl vi vl) sz) (fun fj fm vj vm => [((a 0), .inr (10, [.ref (ex 0), .ref (ex 1), .ref (a 1), .ref (ex 2), .int (vi 1)])), ((a 1), .inl (T 1, 9, .inl (fi 0)))]) (fun (r : Int32) (fj : Nat → Nat → Int32) (fm : Nat → Nat → Int64) (vj : Nat → Int32) (vm : Nat → Int64) => True)) (va_A (pre_X10_mondaysFor T a ex fi fl vi vl) sz)) 0 0 (va_A (pre_X10_mondaysFor T a ex fi fl vi vl) sz) := by
  refine xofW (cc := cX10_mondaysFor) (maxL := 3) (ret := (some .int)) (by decide) rfl ?_
  intro p e s m args below meth c s₁ R Q hR hQ B hml hv
  obtain ⟨rfl, hsz, hP, hK, hD0⟩ := hv
  have hx := B.exec
  have hb := B.bytes
  have hr := B.returns
  have hts := atoms_spec (ws := xw yX10_mondaysFor cX10_mondaysFor 3 (some .int)) B.pre
  have htg : ∀ w ∈ xg, w.before _ s = true := fun w h => hts w (List.mem_cons_of_mem _ h)
  have hown : s.vm.findClass RX10 = some m.cls := findClass_of_methodNamed B.named
  have hlocks := B.notSynchronized
  subst hsz
  have hD := hD0.self (sz := s.heap.size)
  generalize hAe : va_A (pre_X10_mondaysFor T a ex fi fl vi vl) s.heap.size = A at hD hQ
  have hA : ∀ q : Nat, s.heap.size ≤ q → A q := fun q h => by rw [← hAe]; exact Or.inr h
  have hS : va_S A s.heap s.heap [] := va_S.rf
  replace hP : va_P D vwCl [((a 0), .inr (10, [.ref (ex 0), .ref (ex 1), .ref (a 1), .ref (ex 2), .int (vi 1)])), ((a 1), .inl (T 1, 9, .inl (fi 0)))] s.heap := hP
  replace hD : va_D A [((a 0), .inr (10, [.ref (ex 0), .ref (ex 1), .ref (a 1), .ref (ex 2), .int (vi 1)])), ((a 1), .inl (T 1, 9, .inl (fi 0)))] := hD
  have hl := lv_entry ([.ref (a 0), .int (vi 0)]) (n := 3) (Nat.le_of_ble_eq_true rfl)
  rw [lg_entry_eq]
  generalize (lg_sl ([.ref (a 0), .int (vi 0)]) ++ List.replicate (3 - (lg_sl ([.ref (a 0), .int (vi 0)])).length) Slot.unset).toArray = ls at hl ⊢
  replace hl : lv_has ls 3 [(0, .ref (a 0)), (1, .int (vi 0))] := hl
  refine lv_aload_n hx hb dX10_mondaysFor_0 rfl (lv_at hl 0 rfl) ?_
  refine va_get (D := D) (ci := 10) (v := .ref (a 1)) (C := RX10) (T := TX10) (N := 5) hx hb htg inX10 hown hK.1 hP 0 rfl rfl 2 (by decide) (htg _ kw_418) (fun _ h9 => h9) rfl dX10_mondaysFor_1 ?_
  refine lv_iload_n hx hb dX10_mondaysFor_4 rfl (lv_at hl 1 rfl) ?_
  refine va_iald hx hb hK.1 hP 1 1 rfl rfl (vp_in_iff.mpr (by omega)) dX10_mondaysFor_5 ?_
  have hv := rg_at hp1 (i := (vi 0)) (by omega) (by omega)
  refine lv_istore_n (lv' := [(2, .int ((fi 0) (vi 0).toNatClampNeg)), (0, .ref (a 0)), (1, .int (vi 0))]) hx hb dX10_mondaysFor_6 rfl hl (by decide) rfl (fun ls hl => ?_)
  refine lv_iload_n hx hb dX10_mondaysFor_7 rfl (lv_at hl 0 rfl) ?_
  refine lv_iconst (v := (-1)) hx hb dX10_mondaysFor_8 (by decide) ?_
  refine lv_icmp_eq (tgt := 17) hx hb dX10_mondaysFor_9 (by decide) (fun c9 => ?_) (fun c9 => ?_)
  · have c9 := xeq (k := (-1)) (by decide) c9
    refine lv_iconst (v := 0) hx hb dX10_mondaysFor_17 (by decide) ?_
    have hP9 := hP.sub (ws' := [((a 0), .inr (10, [.ref (ex 0), .ref (ex 1), .ref (a 1), .ref (ex 2), .int (vi 1)])), ((a 1), .inl (T 1, 9, .inl (fi 0)))]) [0, 1] rfl
    have hD9 := hD.sub (ws' := [((a 0), .inr (10, [.ref (ex 0), .ref (ex 1), .ref (a 1), .ref (ex 2), .int (vi 1)])), ((a 1), .inl (T 1, 9, .inl (fi 0)))]) [0, 1] (by decide +kernel) rfl
    rw [hQ]
    exact W.iret (v := 0) hx hb hr (fun t ht hW => ⟨⟨0, 0, rfl, rfl, xf [], xh [], xv [], xl [], by rw [ht]; exact hP9, hD9, trivial⟩, hS.F ht⟩) hS.2.2 dX10_mondaysFor_18
  · have c9 := xne (k := (-1)) (by decide) c9
    refine lv_iload_n hx hb dX10_mondaysFor_12 rfl (lv_at hl 0 rfl) ?_
    refine lv_iload_n hx hb dX10_mondaysFor_13 rfl (lv_at hl 2 rfl) ?_
    refine lv_icmp_ne (tgt := 19) hx hb dX10_mondaysFor_14 (by decide) (fun c14 => ?_) (fun c14 => ?_)
    · have c14 := xne2 c14
      have rc14 := xrng ((fi 0) (vi 0).toNatClampNeg); have qc14 := xrng (vi 0)
      refine lv_aload_n hx hb dX10_mondaysFor_19 rfl (lv_at hl 1 rfl) ?_
      refine va_get (D := D) (ci := 10) (v := .ref (a 1)) (C := RX10) (T := TX10) (N := 5) hx hb htg inX10 hown hK.1 hP 0 rfl rfl 2 (by decide) (htg _ kw_418) (fun _ h9 => h9) rfl dX10_mondaysFor_20 ?_
      refine lv_iload_n hx hb dX10_mondaysFor_23 rfl (lv_at hl 0 rfl) ?_
      refine va_iald hx hb hK.1 hP 1 1 rfl rfl (vp_in_iff.mpr (by omega)) dX10_mondaysFor_24 ?_
      have hv_1 := rg_at hp1 (i := ((fi 0) (vi 0).toNatClampNeg)) (by omega) (by omega)
      refine lv_iconst (v := (-1)) hx hb dX10_mondaysFor_25 (by decide) ?_
      refine lv_icmp_eq (tgt := 39) hx hb dX10_mondaysFor_26 (by decide) (fun c26 => ?_) (fun c26 => ?_)
      · have c26 := xeq (k := (-1)) (by decide) c26
        refine lv_iconst (v := 1) hx hb dX10_mondaysFor_39 (by decide) ?_
        refine lv_goto (tgt := 44) hx hb dX10_mondaysFor_40 (by decide) ?_
        have hP9 := hP.sub (ws' := [((a 0), .inr (10, [.ref (ex 0), .ref (ex 1), .ref (a 1), .ref (ex 2), .int (vi 1)])), ((a 1), .inl (T 1, 9, .inl (fi 0)))]) [0, 1] rfl
        have hD9 := hD.sub (ws' := [((a 0), .inr (10, [.ref (ex 0), .ref (ex 1), .ref (a 1), .ref (ex 2), .int (vi 1)])), ((a 1), .inl (T 1, 9, .inl (fi 0)))]) [0, 1] (by decide +kernel) rfl
        rw [hQ]
        exact W.iret (v := 1) hx hb hr (fun t ht hW => ⟨⟨1, 1, rfl, rfl, xf [], xh [], xv [], xl [], by rw [ht]; exact hP9, hD9, trivial⟩, hS.F ht⟩) hS.2.2 dX10_mondaysFor_44
      · have c26 := xne (k := (-1)) (by decide) c26
        refine lv_aload_n hx hb dX10_mondaysFor_29 rfl (lv_at hl 1 rfl) ?_
        refine va_get (D := D) (ci := 10) (v := .ref (a 1)) (C := RX10) (T := TX10) (N := 5) hx hb htg inX10 hown hK.1 hP 0 rfl rfl 2 (by decide) (htg _ kw_418) (fun _ h9 => h9) rfl dX10_mondaysFor_30 ?_
        refine lv_iload_n hx hb dX10_mondaysFor_33 rfl (lv_at hl 0 rfl) ?_
        refine va_iald hx hb hK.1 hP 1 1 rfl rfl (vp_in_iff.mpr (by omega)) dX10_mondaysFor_34 ?_
        refine lv_iload_n hx hb dX10_mondaysFor_35 rfl (lv_at hl 2 rfl) ?_
        refine lv_icmp_ne (tgt := 43) hx hb dX10_mondaysFor_36 (by decide) (fun c36 => ?_) (fun c36 => ?_)
        · have c36 := xne2 c36
          have rc36 := xrng ((fi 0) ((fi 0) (vi 0).toNatClampNeg).toNatClampNeg); have qc36 := xrng (vi 0)
          refine lv_iconst (v := 2) hx hb dX10_mondaysFor_43 (by decide) ?_
          have hP9 := hP.sub (ws' := [((a 0), .inr (10, [.ref (ex 0), .ref (ex 1), .ref (a 1), .ref (ex 2), .int (vi 1)])), ((a 1), .inl (T 1, 9, .inl (fi 0)))]) [0, 1] rfl
          have hD9 := hD.sub (ws' := [((a 0), .inr (10, [.ref (ex 0), .ref (ex 1), .ref (a 1), .ref (ex 2), .int (vi 1)])), ((a 1), .inl (T 1, 9, .inl (fi 0)))]) [0, 1] (by decide +kernel) rfl
          rw [hQ]
          exact W.iret (v := 2) hx hb hr (fun t ht hW => ⟨⟨2, 2, rfl, rfl, xf [], xh [], xv [], xl [], by rw [ht]; exact hP9, hD9, trivial⟩, hS.F ht⟩) hS.2.2 dX10_mondaysFor_44
        · have c36 := congrArg Int32.toInt c36
          have rc36 := xrng ((fi 0) ((fi 0) (vi 0).toNatClampNeg).toNatClampNeg); have qc36 := xrng (vi 0)
          refine lv_iconst (v := 1) hx hb dX10_mondaysFor_39 (by decide) ?_
          refine lv_goto (tgt := 44) hx hb dX10_mondaysFor_40 (by decide) ?_
          have hP9 := hP.sub (ws' := [((a 0), .inr (10, [.ref (ex 0), .ref (ex 1), .ref (a 1), .ref (ex 2), .int (vi 1)])), ((a 1), .inl (T 1, 9, .inl (fi 0)))]) [0, 1] rfl
          have hD9 := hD.sub (ws' := [((a 0), .inr (10, [.ref (ex 0), .ref (ex 1), .ref (a 1), .ref (ex 2), .int (vi 1)])), ((a 1), .inl (T 1, 9, .inl (fi 0)))]) [0, 1] (by decide +kernel) rfl
          rw [hQ]
          exact W.iret (v := 1) hx hb hr (fun t ht hW => ⟨⟨1, 1, rfl, rfl, xf [], xh [], xv [], xl [], by rw [ht]; exact hP9, hD9, trivial⟩, hS.F ht⟩) hS.2.2 dX10_mondaysFor_44
    · have c14 := congrArg Int32.toInt c14
      have rc14 := xrng ((fi 0) (vi 0).toNatClampNeg); have qc14 := xrng (vi 0)
      refine lv_iconst (v := 0) hx hb dX10_mondaysFor_17 (by decide) ?_
      have hP9 := hP.sub (ws' := [((a 0), .inr (10, [.ref (ex 0), .ref (ex 1), .ref (a 1), .ref (ex 2), .int (vi 1)])), ((a 1), .inl (T 1, 9, .inl (fi 0)))]) [0, 1] rfl
      have hD9 := hD.sub (ws' := [((a 0), .inr (10, [.ref (ex 0), .ref (ex 1), .ref (a 1), .ref (ex 2), .int (vi 1)])), ((a 1), .inl (T 1, 9, .inl (fi 0)))]) [0, 1] (by decide +kernel) rfl
      rw [hQ]
      exact W.iret (v := 0) hx hb hr (fun t ht hW => ⟨⟨0, 0, rfl, rfl, xf [], xh [], xv [], xl [], by rw [ht]; exact hP9, hD9, trivial⟩, hS.F ht⟩) hS.2.2 dX10_mondaysFor_18
abbrev pre_X10_findMondays (T : Nat → ClassId) (a ex : Nat → Nat) (fi : Nat → Nat → Int32) (fl : Nat → Nat → Int64) (vi : Nat → Int32) (vl : Nat → Int64) : va_W := [((a 0), .inr (10, [.ref (a 1), .ref (a 4), .ref (a 2), .ref (a 7), .int (vi 0)])), ((a 1), .inr (7, [.int (vi 1), .int (vi 2), .ref (ex 0), .ref (ex 1), .ref (ex 2), .ref (ex 3), .ref (ex 4), .ref (ex 5), .ref (ex 6), .ref (a 3), .ref (ex 7), .ref (ex 8)])), ((a 2), .inl (T 1, 9, .inl (fi 0))), ((a 3), .inl (T 1, 9, .inl (fi 1))), ((a 4), .inr (2, [.ref (a 1), .int (vi 3), .int (vi 4), .int (vi 5), .int (vi 6), .int (vi 7), .int (vi 8), .ref (a 6), .ref (ex 9), .ref (ex 10), .ref (a 5), .ref (ex 11), .ref (ex 12), .ref (ex 13), .ref (ex 14)])), ((a 5), .inl (T 1, 9, .inl (fi 2))), ((a 6), .inl (T 1, 9, .inl (fi 3))), ((a 7), .inl (T 1, 9, .inl (fi 4)))]
set_option maxHeartbeats 8000000 in
set_option maxRecDepth 100000 in
theorem c_X10_findMondays (l : Launch) (D : va_G) (T : Nat → ClassId) (a ex : Nat → Nat) (fi : Nat → Nat → Int32) (fl : Nat → Nat → Int64) (vi : Nat → Int32) (vl : Nat → Int64) (sz : Nat) (hp0 : 0 ≤ (vi 1).toInt ∧ (vi 1).toInt ≤ 9) (hp1 : 0 ≤ (vi 2).toInt ∧ (vi 2).toInt ≤ 9) (hp2 : rg (fi 0) 0 9 (-1) 8) (hp3 : 0 ≤ (vi 3).toInt ∧ (vi 3).toInt ≤ 200) (hp4 : 0 ≤ (vi 8).toInt ∧ (vi 8).toInt ≤ 9) (hp5 : rg (fi 2) 0 9 (-1) 8) (hp6 : rg (fi 3) 0 9 (-1) 8) : Met l yX10_findMondays (xw yX10_findMondays cX10_findMondays 3 (some .int)) ({ frames := 3, cells := 0, slots := 0, locals := 77 }) (xP D T [.ref (a 0)] sz (pre_X10_findMondays T a ex fi fl vi vl)) (va_Qi (fun r u => r = u) (xC D (va_A (pre_X10_findMondays T a ex fi fl vi vl) sz) (fun fj fm vj vm => [((a 0), .inr (10, [.ref (a 1), .ref (a 4), .ref (a 2), .ref (a 7), .int (vj 0)])), ((a 1), .inr (7, [.int (vi 1), .int (vi 2), .ref (ex 0), .ref (ex 1), .ref (ex 2), .ref (ex 3), .ref (ex 4), .ref (ex 5), .ref (ex 6), .ref (a 3), .ref (ex 7), .ref (ex 8)])), ((a 2), .inl (T 1, 9, .inl (fj 0))), ((a 3), .inl (T 1, 9, .inl (fi 1))), ((a 4), .inr (2, [.ref (a 1), .int (vi 3), .int (vi 4), .int (vi 5), .int (vi 6), .int (vi 7), .int (vi 8), .ref (a 6), .ref (ex 9), .ref (ex 10), .ref (a 5), .ref (ex 11), .ref (ex 12), .ref (ex 13), .ref (ex 14)])), ((a 5), .inl (T 1, 9, .inl (fi 2))), ((a 6), .inl (T 1, 9, .inl (fi 3))), ((a 7), .inl (T 1, 9, .inl (fj 1)))]) (fun (r : Int32) (fj : Nat → Nat → Int32) (fm : Nat → Nat → Int64) (vj : Nat → Int32) (vm : Nat → Int64) => rg (fj 0) 0 9 (-1) 8 ∧ True)) (va_A (pre_X10_findMondays T a ex fi fl vi vl) sz)) 0 0 (va_A (pre_X10_findMondays T a ex fi fl vi vl) sz) := by
  refine xofW (cc := cX10_findMondays) (maxL := 3) (ret := (some .int)) (by decide) rfl ?_
  intro p e s m args below meth c s₁ R Q hR hQ B hml hv
  obtain ⟨rfl, hsz, hP, hK, hD0⟩ := hv
  have hx := B.exec
  have hb := B.bytes
  have hr := B.returns
  have hts := atoms_spec (ws := xw yX10_findMondays cX10_findMondays 3 (some .int)) B.pre
  have htg : ∀ w ∈ xg, w.before _ s = true := fun w h => hts w (List.mem_cons_of_mem _ h)
  have hown : s.vm.findClass RX10 = some m.cls := findClass_of_methodNamed B.named
  have hlocks := B.notSynchronized
  subst hsz
  have hD := hD0.self (sz := s.heap.size)
  generalize hAe : va_A (pre_X10_findMondays T a ex fi fl vi vl) s.heap.size = A at hD hQ
  have hA : ∀ q : Nat, s.heap.size ≤ q → A q := fun q h => by rw [← hAe]; exact Or.inr h
  have hS : va_S A s.heap s.heap [] := va_S.rf
  replace hP : va_P D vwCl [((a 0), .inr (10, [.ref (a 1), .ref (a 4), .ref (a 2), .ref (a 7), .int (vi 0)])), ((a 1), .inr (7, [.int (vi 1), .int (vi 2), .ref (ex 0), .ref (ex 1), .ref (ex 2), .ref (ex 3), .ref (ex 4), .ref (ex 5), .ref (ex 6), .ref (a 3), .ref (ex 7), .ref (ex 8)])), ((a 2), .inl (T 1, 9, .inl (fi 0))), ((a 3), .inl (T 1, 9, .inl (fi 1))), ((a 4), .inr (2, [.ref (a 1), .int (vi 3), .int (vi 4), .int (vi 5), .int (vi 6), .int (vi 7), .int (vi 8), .ref (a 6), .ref (ex 9), .ref (ex 10), .ref (a 5), .ref (ex 11), .ref (ex 12), .ref (ex 13), .ref (ex 14)])), ((a 5), .inl (T 1, 9, .inl (fi 2))), ((a 6), .inl (T 1, 9, .inl (fi 3))), ((a 7), .inl (T 1, 9, .inl (fi 4)))] s.heap := hP
  replace hD : va_D A [((a 0), .inr (10, [.ref (a 1), .ref (a 4), .ref (a 2), .ref (a 7), .int (vi 0)])), ((a 1), .inr (7, [.int (vi 1), .int (vi 2), .ref (ex 0), .ref (ex 1), .ref (ex 2), .ref (ex 3), .ref (ex 4), .ref (ex 5), .ref (ex 6), .ref (a 3), .ref (ex 7), .ref (ex 8)])), ((a 2), .inl (T 1, 9, .inl (fi 0))), ((a 3), .inl (T 1, 9, .inl (fi 1))), ((a 4), .inr (2, [.ref (a 1), .int (vi 3), .int (vi 4), .int (vi 5), .int (vi 6), .int (vi 7), .int (vi 8), .ref (a 6), .ref (ex 9), .ref (ex 10), .ref (a 5), .ref (ex 11), .ref (ex 12), .ref (ex 13), .ref (ex 14)])), ((a 5), .inl (T 1, 9, .inl (fi 2))), ((a 6), .inl (T 1, 9, .inl (fi 3))), ((a 7), .inl (T 1, 9, .inl (fi 4)))] := hD
  have hl := lv_entry ([.ref (a 0)]) (n := 3) (Nat.le_of_ble_eq_true rfl)
  rw [lg_entry_eq]
  generalize (lg_sl ([.ref (a 0)]) ++ List.replicate (3 - (lg_sl ([.ref (a 0)])).length) Slot.unset).toArray = ls at hl ⊢
  replace hl : lv_has ls 3 [(0, .ref (a 0))] := hl
  refine lv_aload_n hx hb dX10_findMondays_0 rfl (lv_at hl 0 rfl) ?_
  refine lv_iconst (v := 0) hx hb dX10_findMondays_1 (by decide) ?_
  refine va_put (D := D) (ci := 10) (v := .int 0) (ty := .boolean) (C := RX10) (T := TX10) (N := 5) hx hb htg inX10 tyX10 tyX10_ok nmX10 hown hK.1 hP hD hS 0 rfl rfl 4 (by decide) (htg _ kw_420) (fun _ h9 => h9) rfl (by decide +kernel) rfl rfl (Nat.le_of_ble_eq_true rfl) dX10_findMondays_2 (fun H locs hP hD hS => ?_)
  obtain ⟨hP, hD⟩ := (show xPD D A [((a 0), .inr (10, [.ref (a 1), .ref (a 4), .ref (a 2), .ref (a 7), .int 0])), ((a 1), .inr (7, [.int (vi 1), .int (vi 2), .ref (ex 0), .ref (ex 1), .ref (ex 2), .ref (ex 3), .ref (ex 4), .ref (ex 5), .ref (ex 6), .ref (a 3), .ref (ex 7), .ref (ex 8)])), ((a 2), .inl (T 1, 9, .inl (fi 0))), ((a 3), .inl (T 1, 9, .inl (fi 1))), ((a 4), .inr (2, [.ref (a 1), .int (vi 3), .int (vi 4), .int (vi 5), .int (vi 6), .int (vi 7), .int (vi 8), .ref (a 6), .ref (ex 9), .ref (ex 10), .ref (a 5), .ref (ex 11), .ref (ex 12), .ref (ex 13), .ref (ex 14)])), ((a 5), .inl (T 1, 9, .inl (fi 2))), ((a 6), .inl (T 1, 9, .inl (fi 3))), ((a 7), .inl (T 1, 9, .inl (fi 4)))] H from ⟨hP, hD⟩)
  refine lv_aload_n hx hb dX10_findMondays_5 rfl (lv_at hl 0 rfl) ?_
  obtain ⟨hC9, hPc, hDc, hFc⟩ := xcut (wc := (pre_X10_point T (xa [(a 0), (a 1), (a 2), (a 3), (a 4), (a 5), (a 6)]) (xa [(a 7), (ex 0), (ex 1), (ex 2), (ex 3), (ex 4), (ex 5), (ex 6), (ex 7), (ex 8), (ex 9), (ex 10), (ex 11), (ex 12), (ex 13), (ex 14)]) (xf [(fi 0), (fi 1), (fi 2), (fi 3)]) (xh []) (xv [0, (vi 1), (vi 2), (vi 3), (vi 4), (vi 5), (vi 6), (vi 7), (vi 8)]) (xl []))) hP hD hS hA [0, 1, 2, 3, 4, 5, 6] (by decide) rfl
  refine va_calli (va_runV (As := []) (rest := []) ⟨hx, hb, hml, hown, htg⟩ (c_X10_point l D T (xa [(a 0), (a 1), (a 2), (a 3), (a 4), (a 5), (a 6)]) (xa [(a 7), (ex 0), (ex 1), (ex 2), (ex 3), (ex 4), (ex 5), (ex 6), (ex 7), (ex 8), (ex 9), (ex 10), (ex 11), (ex 12), (ex 13), (ex 14)]) (xf [(fi 0), (fi 1), (fi 2), (fi 3)]) (xh []) (xv [0, (vi 1), (vi 2), (vi 3), (vi 4), (vi 5), (vi 6), (vi 7), (vi 8)]) (xl []) H.size hp0 hp1 (show rg (fi 0) 0 9 (-1) 8 from hp2) hp3 hp4 (show rg (fi 2) 0 9 (-1) 8 from hp5) (show rg (fi 3) 0 9 (-1) 8 from hp6)) ⟨callB_of 0 htg (xg_ok kw_987) rfl rfl rfl (htg _ kw_13) (htg _ kw_984) (by decide +kernel) ⟨by rw [hR]; exact Nat.le_of_ble_eq_true rfl, by rw [hR]; exact Nat.le_of_ble_eq_true rfl⟩, htg _ kw_986, htg _ ks_77⟩ (xpreV hK hPc hDc (va_recv hK.1 hPc (ci := 10) (q0 := 0) rfl rfl)) rfl rfl hl.1 rfl (lv_room (Nat.le_of_ble_eq_true rfl)) dX10_findMondays_6 ⟨by rw [hR]; exact Nat.le_of_ble_eq_true rfl, by rw [hR]; exact Nat.le_of_ble_eq_true rfl⟩) hS (fun q _ h => hFc q h) hFc (fun r9 u9 t H1 locs ht hvm hw hB hz1 hk1 hS => ?_)
  subst hw
  obtain ⟨fik, flk, vik, vlk, hP1, hD1, hG⟩ := hB
  rw [ht] at hP1
  obtain ⟨hP, hD⟩ := va_join (wr := [((a 7), .inl (T 1, 9, .inl (fi 4)))]) (w1 := [((a 0), .inr (10, [.ref (a 1), .ref (a 4), .ref (a 2), .ref (a 7), .int 0])), ((a 1), .inr (7, [.int (vi 1), .int (vi 2), .ref (ex 0), .ref (ex 1), .ref (ex 2), .ref (ex 3), .ref (ex 4), .ref (ex 5), .ref (ex 6), .ref (a 3), .ref (ex 7), .ref (ex 8)])), ((a 2), .inl (T 1, 9, .inl (fik 0))), ((a 3), .inl (T 1, 9, .inl (fi 1))), ((a 4), .inr (2, [.ref (a 1), .int (vi 3), .int (vi 4), .int (vi 5), .int (vi 6), .int (vi 7), .int (vi 8), .ref (a 6), .ref (ex 9), .ref (ex 10), .ref (a 5), .ref (ex 11), .ref (ex 12), .ref (ex 13), .ref (ex 14)])), ((a 5), .inl (T 1, 9, .inl (fi 2))), ((a 6), .inl (T 1, 9, .inl (fi 3)))]) hP hD [0, 1, 2, 3, 4, 5, 6] [7] hC9 rfl (by decide) (by decide) hk1 hFc hP1 hD1
  obtain ⟨rk, er9⟩ : ∃ z, z = r9 := ⟨_, rfl⟩
  subst er9
  clear hPc hDc hFc hP1 hD1 hk1 hz1 hvm ht hC9
  generalize H1 = H at hP hS ⊢
  obtain ⟨hP, hD⟩ := (show xPD D A [((a 7), .inl (T 1, 9, .inl (fi 4))), ((a 0), .inr (10, [.ref (a 1), .ref (a 4), .ref (a 2), .ref (a 7), .int 0])), ((a 1), .inr (7, [.int (vi 1), .int (vi 2), .ref (ex 0), .ref (ex 1), .ref (ex 2), .ref (ex 3), .ref (ex 4), .ref (ex 5), .ref (ex 6), .ref (a 3), .ref (ex 7), .ref (ex 8)])), ((a 2), .inl (T 1, 9, .inl (fik 0))), ((a 3), .inl (T 1, 9, .inl (fi 1))), ((a 4), .inr (2, [.ref (a 1), .int (vi 3), .int (vi 4), .int (vi 5), .int (vi 6), .int (vi 7), .int (vi 8), .ref (a 6), .ref (ex 9), .ref (ex 10), .ref (a 5), .ref (ex 11), .ref (ex 12), .ref (ex 13), .ref (ex 14)])), ((a 5), .inl (T 1, 9, .inl (fi 2))), ((a 6), .inl (T 1, 9, .inl (fi 3)))] H from ⟨hP, hD⟩)
  obtain ⟨gk_0, gk_1, -⟩ := hG
  replace gk_1 : rg (fik 0) 0 9 (-1) 8 := gk_1
  rcases (show (rk = 1 ∧ (True)) ∨ (rk = 0 ∧ (True)) from gk_0) with ⟨er9, gk_0⟩ | ⟨er9, gk_0⟩
  · refine xz_i 1 er9 ?_
    refine lv_if_ne (tgt := 14) hx hb dX10_findMondays_9 (by decide) (fun _ => ?_) (fun c => absurd c (by decide))
    refine lv_iconst (v := 0) hx hb dX10_findMondays_14 (by decide) ?_
    refine lv_istore_n (lv' := [(1, .int 0), (0, .ref (a 0))]) hx hb dX10_findMondays_15 rfl hl (by decide) rfl (fun ls hl => ?_)
    refine lv_iconst (v := 0) hx hb dX10_findMondays_16 (by decide) ?_
    refine lv_istore_n (lv' := [(2, .int 0), (1, .int 0), (0, .ref (a 0))]) hx hb dX10_findMondays_17 rfl hl (by decide) rfl (fun ls hl => ?_)
    have lp : ∀ (kn : Nat) (w2 : Int32) (w1 : Int32) (H : Heap) (locs : List Loc) (ls : Array Slot), (0 ≤ w2.toInt) → (2147483648 - w2.toInt).toNat = kn → va_P D vwCl [((a 7), .inl (T 1, 9, .inl (fi 4))), ((a 0), .inr (10, [.ref (a 1), .ref (a 4), .ref (a 2), .ref (a 7), .int 0])), ((a 1), .inr (7, [.int (vi 1), .int (vi 2), .ref (ex 0), .ref (ex 1), .ref (ex 2), .ref (ex 3), .ref (ex 4), .ref (ex 5), .ref (ex 6), .ref (a 3), .ref (ex 7), .ref (ex 8)])), ((a 2), .inl (T 1, 9, .inl (fik 0))), ((a 3), .inl (T 1, 9, .inl (fi 1))), ((a 4), .inr (2, [.ref (a 1), .int (vi 3), .int (vi 4), .int (vi 5), .int (vi 6), .int (vi 7), .int (vi 8), .ref (a 6), .ref (ex 9), .ref (ex 10), .ref (a 5), .ref (ex 11), .ref (ex 12), .ref (ex 13), .ref (ex 14)])), ((a 5), .inl (T 1, 9, .inl (fi 2))), ((a 6), .inl (T 1, 9, .inl (fi 3)))] H → va_D A [((a 7), .inl (T 1, 9, .inl (fi 4))), ((a 0), .inr (10, [.ref (a 1), .ref (a 4), .ref (a 2), .ref (a 7), .int 0])), ((a 1), .inr (7, [.int (vi 1), .int (vi 2), .ref (ex 0), .ref (ex 1), .ref (ex 2), .ref (ex 3), .ref (ex 4), .ref (ex 5), .ref (ex 6), .ref (a 3), .ref (ex 7), .ref (ex 8)])), ((a 2), .inl (T 1, 9, .inl (fik 0))), ((a 3), .inl (T 1, 9, .inl (fi 1))), ((a 4), .inr (2, [.ref (a 1), .int (vi 3), .int (vi 4), .int (vi 5), .int (vi 6), .int (vi 7), .int (vi 8), .ref (a 6), .ref (ex 9), .ref (ex 10), .ref (a 5), .ref (ex 11), .ref (ex 12), .ref (ex 13), .ref (ex 14)])), ((a 5), .inl (T 1, 9, .inl (fi 2))), ((a 6), .inl (T 1, 9, .inl (fi 3)))] → va_S A s.heap H locs → lv_has ls 3 [(2, .int w2), (1, .int w1), (0, .ref (a 0))] → W p l e R s m ([.ref (a 0)] : List Value).toArray below meth c H locs 0 0 Q (F0 m 18 ls []) := by
      intro kn
      induction kn using Nat.strongRecOn with
      | _ kn ih =>
        intro w2 w1 H locs ls hi hm hP hD hS hl
        refine lv_iload_n hx hb dX10_findMondays_18 rfl (lv_at hl 0 rfl) ?_
        refine lv_aload_n hx hb dX10_findMondays_19 rfl (lv_at hl 2 rfl) ?_
        refine va_get (D := D) (ci := 10) (v := .ref (a 1)) (C := RX10) (T := TX10) (N := 5) hx hb htg inX10 hown hK.1 hP 1 rfl rfl 0 (by decide) (htg _ kw_416) (fun _ h9 => h9) rfl dX10_findMondays_20 ?_
        refine va_getN (D := D) (ci := 7) (v := .int (vi 2)) (C := RX7) (T := TX7) (N := 12) hx hb htg inX7 hown hK.1 hP 2 rfl rfl 1 (by decide) (va_Nw.use rfl (hK.2.1 _ kn_165)) (fun _ h9 => h9) rfl dX10_findMondays_23 ?_
        refine lv_icmp_ge (tgt := 45) hx hb dX10_findMondays_26 (by decide) (fun c26 => ?_) (fun c26 => ?_)
        · have c26 := Int32.le_iff_toInt_le.mp c26
          have rc26 := xrng w2; have qc26 := xrng (vi 2)
          refine lv_iload_n hx hb dX10_findMondays_45 rfl (lv_at hl 1 rfl) ?_
          refine lv_iconst (v := 1) hx hb dX10_findMondays_46 (by decide) ?_
          refine lv_icmp_ne (tgt := 54) hx hb dX10_findMondays_47 (by decide) (fun c47 => ?_) (fun c47 => ?_)
          · have c47 := xne (k := 1) (by decide) c47
            refine lv_iload_n hx hb dX10_findMondays_54 rfl (lv_at hl 1 rfl) ?_
            have hP9 := hP.sub (ws' := [((a 0), .inr (10, [.ref (a 1), .ref (a 4), .ref (a 2), .ref (a 7), .int 0])), ((a 1), .inr (7, [.int (vi 1), .int (vi 2), .ref (ex 0), .ref (ex 1), .ref (ex 2), .ref (ex 3), .ref (ex 4), .ref (ex 5), .ref (ex 6), .ref (a 3), .ref (ex 7), .ref (ex 8)])), ((a 2), .inl (T 1, 9, .inl (fik 0))), ((a 3), .inl (T 1, 9, .inl (fi 1))), ((a 4), .inr (2, [.ref (a 1), .int (vi 3), .int (vi 4), .int (vi 5), .int (vi 6), .int (vi 7), .int (vi 8), .ref (a 6), .ref (ex 9), .ref (ex 10), .ref (a 5), .ref (ex 11), .ref (ex 12), .ref (ex 13), .ref (ex 14)])), ((a 5), .inl (T 1, 9, .inl (fi 2))), ((a 6), .inl (T 1, 9, .inl (fi 3))), ((a 7), .inl (T 1, 9, .inl (fi 4)))]) [1, 2, 3, 4, 5, 6, 7, 0] rfl
            have hD9 := hD.sub (ws' := [((a 0), .inr (10, [.ref (a 1), .ref (a 4), .ref (a 2), .ref (a 7), .int 0])), ((a 1), .inr (7, [.int (vi 1), .int (vi 2), .ref (ex 0), .ref (ex 1), .ref (ex 2), .ref (ex 3), .ref (ex 4), .ref (ex 5), .ref (ex 6), .ref (a 3), .ref (ex 7), .ref (ex 8)])), ((a 2), .inl (T 1, 9, .inl (fik 0))), ((a 3), .inl (T 1, 9, .inl (fi 1))), ((a 4), .inr (2, [.ref (a 1), .int (vi 3), .int (vi 4), .int (vi 5), .int (vi 6), .int (vi 7), .int (vi 8), .ref (a 6), .ref (ex 9), .ref (ex 10), .ref (a 5), .ref (ex 11), .ref (ex 12), .ref (ex 13), .ref (ex 14)])), ((a 5), .inl (T 1, 9, .inl (fi 2))), ((a 6), .inl (T 1, 9, .inl (fi 3))), ((a 7), .inl (T 1, 9, .inl (fi 4)))]) [1, 2, 3, 4, 5, 6, 7, 0] (by decide +kernel) rfl
            rw [hQ]
            exact W.iret (v := w1) hx hb hr (fun t ht hW => ⟨⟨w1, w1, rfl, rfl, xf [(fik 0), (fi 4)], xh [], xv [0], xl [], by rw [ht]; exact hP9, hD9, ⟨(show rg (fik 0) 0 9 (-1) 8 from gk_1), trivial⟩⟩, hS.F ht⟩) hS.2.2 dX10_findMondays_55
          · have c47 := xeq (k := 1) (by decide) c47
            refine lv_aload_n hx hb dX10_findMondays_50 rfl (lv_at hl 2 rfl) ?_
            obtain ⟨hC9, hPc, hDc, hFc⟩ := xcut (wc := (pre_X10_pair T (xa [(a 0), (a 1), (a 2), (a 7)]) (xa [(a 4), (ex 0), (ex 1), (ex 2), (ex 3), (ex 4), (ex 5), (ex 6), (a 3), (ex 7), (ex 8)]) (xf [(fik 0), (fi 4)]) (xh []) (xv [0, (vi 1), (vi 2)]) (xl []))) hP hD hS hA [1, 2, 3, 0] (by decide) rfl
            refine va_callv (va_runV (As := []) (rest := []) ⟨hx, hb, hml, hown, htg⟩ (c_X10_pair l D T (xa [(a 0), (a 1), (a 2), (a 7)]) (xa [(a 4), (ex 0), (ex 1), (ex 2), (ex 3), (ex 4), (ex 5), (ex 6), (a 3), (ex 7), (ex 8)]) (xf [(fik 0), (fi 4)]) (xh []) (xv [0, (vi 1), (vi 2)]) (xl []) H.size hp0 hp1 (show rg (fik 0) 0 9 (-1) 8 from gk_1)) ⟨callB_of 0 htg (xg_ok kw_999) rfl rfl rfl (htg _ kw_13) (htg _ kw_996) (by decide +kernel) ⟨by rw [hR]; exact Nat.le_of_ble_eq_true rfl, by rw [hR]; exact Nat.le_of_ble_eq_true rfl⟩, htg _ kw_998, htg _ ks_79⟩ (xpreV hK hPc hDc (va_recv hK.1 hPc (ci := 10) (q0 := 0) rfl rfl)) rfl rfl hl.1 rfl (lv_room (Nat.le_of_ble_eq_true rfl)) dX10_findMondays_51 ⟨by rw [hR]; exact Nat.le_of_ble_eq_true rfl, by rw [hR]; exact Nat.le_of_ble_eq_true rfl⟩) hS (fun q _ h => hFc q h) hFc (fun u9 t H1 locs ht hvm hw hB hz1 hk1 hS => ?_)
            obtain ⟨fik_1, flk_1, vik_1, vlk_1, hP1, hD1, hG⟩ := hB
            rw [ht] at hP1
            obtain ⟨hP, hD⟩ := va_join (wr := [((a 3), .inl (T 1, 9, .inl (fi 1))), ((a 4), .inr (2, [.ref (a 1), .int (vi 3), .int (vi 4), .int (vi 5), .int (vi 6), .int (vi 7), .int (vi 8), .ref (a 6), .ref (ex 9), .ref (ex 10), .ref (a 5), .ref (ex 11), .ref (ex 12), .ref (ex 13), .ref (ex 14)])), ((a 5), .inl (T 1, 9, .inl (fi 2))), ((a 6), .inl (T 1, 9, .inl (fi 3)))]) (w1 := [((a 0), .inr (10, [.ref (a 1), .ref (a 4), .ref (a 2), .ref (a 7), .int (vik_1 0)])), ((a 1), .inr (7, [.int (vi 1), .int (vi 2), .ref (ex 0), .ref (ex 1), .ref (ex 2), .ref (ex 3), .ref (ex 4), .ref (ex 5), .ref (ex 6), .ref (a 3), .ref (ex 7), .ref (ex 8)])), ((a 2), .inl (T 1, 9, .inl (fik 0))), ((a 7), .inl (T 1, 9, .inl (fik_1 0)))]) hP hD [1, 2, 3, 0] [4, 5, 6, 7] hC9 rfl (by decide) (by decide) hk1 hFc hP1 hD1
            clear hPc hDc hFc hP1 hD1 hk1 hz1 hvm ht hC9
            generalize H1 = H at hP hS ⊢
            obtain ⟨hP, hD⟩ := (show xPD D A [((a 3), .inl (T 1, 9, .inl (fi 1))), ((a 4), .inr (2, [.ref (a 1), .int (vi 3), .int (vi 4), .int (vi 5), .int (vi 6), .int (vi 7), .int (vi 8), .ref (a 6), .ref (ex 9), .ref (ex 10), .ref (a 5), .ref (ex 11), .ref (ex 12), .ref (ex 13), .ref (ex 14)])), ((a 5), .inl (T 1, 9, .inl (fi 2))), ((a 6), .inl (T 1, 9, .inl (fi 3))), ((a 0), .inr (10, [.ref (a 1), .ref (a 4), .ref (a 2), .ref (a 7), .int (vik_1 0)])), ((a 1), .inr (7, [.int (vi 1), .int (vi 2), .ref (ex 0), .ref (ex 1), .ref (ex 2), .ref (ex 3), .ref (ex 4), .ref (ex 5), .ref (ex 6), .ref (a 3), .ref (ex 7), .ref (ex 8)])), ((a 2), .inl (T 1, 9, .inl (fik 0))), ((a 7), .inl (T 1, 9, .inl (fik_1 0)))] H from ⟨hP, hD⟩)
            clear hG
            refine lv_iload_n hx hb dX10_findMondays_54 rfl (lv_at hl 1 rfl) ?_
            have hP9 := hP.sub (ws' := [((a 0), .inr (10, [.ref (a 1), .ref (a 4), .ref (a 2), .ref (a 7), .int (vik_1 0)])), ((a 1), .inr (7, [.int (vi 1), .int (vi 2), .ref (ex 0), .ref (ex 1), .ref (ex 2), .ref (ex 3), .ref (ex 4), .ref (ex 5), .ref (ex 6), .ref (a 3), .ref (ex 7), .ref (ex 8)])), ((a 2), .inl (T 1, 9, .inl (fik 0))), ((a 3), .inl (T 1, 9, .inl (fi 1))), ((a 4), .inr (2, [.ref (a 1), .int (vi 3), .int (vi 4), .int (vi 5), .int (vi 6), .int (vi 7), .int (vi 8), .ref (a 6), .ref (ex 9), .ref (ex 10), .ref (a 5), .ref (ex 11), .ref (ex 12), .ref (ex 13), .ref (ex 14)])), ((a 5), .inl (T 1, 9, .inl (fi 2))), ((a 6), .inl (T 1, 9, .inl (fi 3))), ((a 7), .inl (T 1, 9, .inl (fik_1 0)))]) [4, 5, 6, 0, 1, 2, 3, 7] rfl
            have hD9 := hD.sub (ws' := [((a 0), .inr (10, [.ref (a 1), .ref (a 4), .ref (a 2), .ref (a 7), .int (vik_1 0)])), ((a 1), .inr (7, [.int (vi 1), .int (vi 2), .ref (ex 0), .ref (ex 1), .ref (ex 2), .ref (ex 3), .ref (ex 4), .ref (ex 5), .ref (ex 6), .ref (a 3), .ref (ex 7), .ref (ex 8)])), ((a 2), .inl (T 1, 9, .inl (fik 0))), ((a 3), .inl (T 1, 9, .inl (fi 1))), ((a 4), .inr (2, [.ref (a 1), .int (vi 3), .int (vi 4), .int (vi 5), .int (vi 6), .int (vi 7), .int (vi 8), .ref (a 6), .ref (ex 9), .ref (ex 10), .ref (a 5), .ref (ex 11), .ref (ex 12), .ref (ex 13), .ref (ex 14)])), ((a 5), .inl (T 1, 9, .inl (fi 2))), ((a 6), .inl (T 1, 9, .inl (fi 3))), ((a 7), .inl (T 1, 9, .inl (fik_1 0)))]) [4, 5, 6, 0, 1, 2, 3, 7] (by decide +kernel) rfl
            rw [hQ]
            exact W.iret (v := w1) hx hb hr (fun t ht hW => ⟨⟨w1, w1, rfl, rfl, xf [(fik 0), (fik_1 0)], xh [], xv [(vik_1 0)], xl [], by rw [ht]; exact hP9, hD9, ⟨(show rg (fik 0) 0 9 (-1) 8 from gk_1), trivial⟩⟩, hS.F ht⟩) hS.2.2 dX10_findMondays_55
        · have c26 := (mt Int32.le_iff_toInt_le.mpr c26)
          have rc26 := xrng w2; have qc26 := xrng (vi 2)
          refine lv_iload_n hx hb dX10_findMondays_29 rfl (lv_at hl 1 rfl) ?_
          refine lv_aload_n hx hb dX10_findMondays_30 rfl (lv_at hl 2 rfl) ?_
          refine lv_iload_n hx hb dX10_findMondays_31 rfl (lv_at hl 0 rfl) ?_
          obtain ⟨hC9, hPc, hDc, hFc⟩ := xcut (wc := (pre_X10_mondaysFor T (xa [(a 0), (a 2)]) (xa [(a 1), (a 4), (a 7)]) (xf [(fik 0)]) (xh []) (xv [w2, 0]) (xl []))) hP hD hS hA [1, 3] (by decide) rfl
          refine va_calli (va_runV (As := [.int w2]) (rest := [.int w1]) ⟨hx, hb, hml, hown, htg⟩ (c_X10_mondaysFor l D T (xa [(a 0), (a 2)]) (xa [(a 1), (a 4), (a 7)]) (xf [(fik 0)]) (xh []) (xv [w2, 0]) (xl []) H.size (by show 0 ≤ w2.toInt ∧ w2.toInt ≤ 8; omega) (show rg (fik 0) 0 9 (-1) 8 from gk_1)) ⟨callB_of 1 htg (xg_ok kw_994) rfl rfl rfl (htg _ kw_13) (htg _ kw_991) (by decide +kernel) ⟨by rw [hR]; exact Nat.le_of_ble_eq_true rfl, by rw [hR]; exact Nat.le_of_ble_eq_true rfl⟩, htg _ kw_993, htg _ ks_78⟩ (xpreV hK hPc hDc (va_recv hK.1 hPc (ci := 10) (q0 := 0) rfl rfl)) rfl rfl hl.1 rfl (lv_room (Nat.le_of_ble_eq_true rfl)) dX10_findMondays_32 ⟨by rw [hR]; exact Nat.le_of_ble_eq_true rfl, by rw [hR]; exact Nat.le_of_ble_eq_true rfl⟩) hS (fun q _ h => hFc q h) hFc (fun r9 u9 t H1 locs ht hvm hw hB hz1 hk1 hS => ?_)
          subst hw
          obtain ⟨fik_2, flk_2, vik_2, vlk_2, hP1, hD1, hG⟩ := hB
          rw [ht] at hP1
          obtain ⟨hP, hD⟩ := va_join (wr := [((a 7), .inl (T 1, 9, .inl (fi 4))), ((a 1), .inr (7, [.int (vi 1), .int (vi 2), .ref (ex 0), .ref (ex 1), .ref (ex 2), .ref (ex 3), .ref (ex 4), .ref (ex 5), .ref (ex 6), .ref (a 3), .ref (ex 7), .ref (ex 8)])), ((a 3), .inl (T 1, 9, .inl (fi 1))), ((a 4), .inr (2, [.ref (a 1), .int (vi 3), .int (vi 4), .int (vi 5), .int (vi 6), .int (vi 7), .int (vi 8), .ref (a 6), .ref (ex 9), .ref (ex 10), .ref (a 5), .ref (ex 11), .ref (ex 12), .ref (ex 13), .ref (ex 14)])), ((a 5), .inl (T 1, 9, .inl (fi 2))), ((a 6), .inl (T 1, 9, .inl (fi 3)))]) (w1 := [((a 0), .inr (10, [.ref (a 1), .ref (a 4), .ref (a 2), .ref (a 7), .int 0])), ((a 2), .inl (T 1, 9, .inl (fik 0)))]) hP hD [1, 3] [0, 2, 4, 5, 6, 7] hC9 rfl (by decide) (by decide) hk1 hFc hP1 hD1
          obtain ⟨rk_2, er9⟩ : ∃ z, z = r9 := ⟨_, rfl⟩
          subst er9
          clear hPc hDc hFc hP1 hD1 hk1 hz1 hvm ht hC9
          generalize H1 = H at hP hS ⊢
          obtain ⟨hP, hD⟩ := (show xPD D A [((a 7), .inl (T 1, 9, .inl (fi 4))), ((a 1), .inr (7, [.int (vi 1), .int (vi 2), .ref (ex 0), .ref (ex 1), .ref (ex 2), .ref (ex 3), .ref (ex 4), .ref (ex 5), .ref (ex 6), .ref (a 3), .ref (ex 7), .ref (ex 8)])), ((a 3), .inl (T 1, 9, .inl (fi 1))), ((a 4), .inr (2, [.ref (a 1), .int (vi 3), .int (vi 4), .int (vi 5), .int (vi 6), .int (vi 7), .int (vi 8), .ref (a 6), .ref (ex 9), .ref (ex 10), .ref (a 5), .ref (ex 11), .ref (ex 12), .ref (ex 13), .ref (ex 14)])), ((a 5), .inl (T 1, 9, .inl (fi 2))), ((a 6), .inl (T 1, 9, .inl (fi 3))), ((a 0), .inr (10, [.ref (a 1), .ref (a 4), .ref (a 2), .ref (a 7), .int 0])), ((a 2), .inl (T 1, 9, .inl (fik 0)))] H from ⟨hP, hD⟩)
          clear hG
          refine va_mmax hx hb (hml.trans hl.1.symm) hown (htg _ kw_995) (htg _ kw_720) (htg _ kw_18) (htg _ kw_721) (by rw [hR]; exact Nat.le_of_ble_eq_true rfl) (by rw [hR]; exact Nat.le_of_ble_eq_true rfl) (by rw [hR]; exact Nat.le_of_ble_eq_true rfl) (by rw [hR]; exact Nat.le_of_ble_eq_true rfl) dX10_findMondays_35 ?_
          refine lv_topi (fun z35 ez35 => ?_)
          have tz35 : z35.toInt = max (w1.toInt) (rk_2.toInt) := by rw [ez35]; exact xmax rfl rfl
          refine lv_istore_n (lv' := [(1, .int z35), (2, .int w2), (0, .ref (a 0))]) hx hb dX10_findMondays_38 rfl hl (by decide) rfl (fun ls hl => ?_)
          obtain ⟨i39, ei39⟩ : ∃ z : Int32, w2 + Int32.ofInt 1 = z := ⟨_, rfl⟩
          have ti39 : i39.toInt = w2.toInt + 1 := by rw [← ei39]; have h79 := xrng w2; exact xadd rfl (by decide) (by omega) (by omega)
          refine lv_iinc (v := i39) (lv' := [(2, .int i39), (1, .int z35), (0, .ref (a 0))]) hx hb dX10_findMondays_39 hl (k := 1) rfl ei39 (by decide) rfl (fun ls hl => ?_)
          refine lv_goto (tgt := 18) hx hb dX10_findMondays_42 (by decide) ?_
          exact ih _ (by omega) i39 z35 _ _ _ (by show 0 ≤ i39.toInt; omega) rfl (hP.sub [0, 6, 1, 7, 2, 3, 4, 5] rfl) (hD.sub [0, 6, 1, 7, 2, 3, 4, 5] (by decide) rfl) hS (lv_sub hl [0, 1, 2] rfl)
    exact lp _ (0 : Int32) (0 : Int32) _ _ _ (show 0 ≤ (0 : Int32).toInt by decide) rfl hP hD hS hl
  · refine xz_i 0 er9 ?_
    refine lv_if_ne (tgt := 14) hx hb dX10_findMondays_9 (by decide) (fun c => absurd (by decide) c) (fun _ => ?_)
    refine lv_iconst (v := (-1)) hx hb dX10_findMondays_12 (by decide) ?_
    have hP9 := hP.sub (ws' := [((a 0), .inr (10, [.ref (a 1), .ref (a 4), .ref (a 2), .ref (a 7), .int 0])), ((a 1), .inr (7, [.int (vi 1), .int (vi 2), .ref (ex 0), .ref (ex 1), .ref (ex 2), .ref (ex 3), .ref (ex 4), .ref (ex 5), .ref (ex 6), .ref (a 3), .ref (ex 7), .ref (ex 8)])), ((a 2), .inl (T 1, 9, .inl (fik 0))), ((a 3), .inl (T 1, 9, .inl (fi 1))), ((a 4), .inr (2, [.ref (a 1), .int (vi 3), .int (vi 4), .int (vi 5), .int (vi 6), .int (vi 7), .int (vi 8), .ref (a 6), .ref (ex 9), .ref (ex 10), .ref (a 5), .ref (ex 11), .ref (ex 12), .ref (ex 13), .ref (ex 14)])), ((a 5), .inl (T 1, 9, .inl (fi 2))), ((a 6), .inl (T 1, 9, .inl (fi 3))), ((a 7), .inl (T 1, 9, .inl (fi 4)))]) [1, 2, 3, 4, 5, 6, 7, 0] rfl
    have hD9 := hD.sub (ws' := [((a 0), .inr (10, [.ref (a 1), .ref (a 4), .ref (a 2), .ref (a 7), .int 0])), ((a 1), .inr (7, [.int (vi 1), .int (vi 2), .ref (ex 0), .ref (ex 1), .ref (ex 2), .ref (ex 3), .ref (ex 4), .ref (ex 5), .ref (ex 6), .ref (a 3), .ref (ex 7), .ref (ex 8)])), ((a 2), .inl (T 1, 9, .inl (fik 0))), ((a 3), .inl (T 1, 9, .inl (fi 1))), ((a 4), .inr (2, [.ref (a 1), .int (vi 3), .int (vi 4), .int (vi 5), .int (vi 6), .int (vi 7), .int (vi 8), .ref (a 6), .ref (ex 9), .ref (ex 10), .ref (a 5), .ref (ex 11), .ref (ex 12), .ref (ex 13), .ref (ex 14)])), ((a 5), .inl (T 1, 9, .inl (fi 2))), ((a 6), .inl (T 1, 9, .inl (fi 3))), ((a 7), .inl (T 1, 9, .inl (fi 4)))]) [1, 2, 3, 4, 5, 6, 7, 0] (by decide +kernel) rfl
    rw [hQ]
    exact W.iret (v := (-1)) hx hb hr (fun t ht hW => ⟨⟨(-1), (-1), rfl, rfl, xf [(fik 0), (fi 4)], xh [], xv [0], xl [], by rw [ht]; exact hP9, hD9, ⟨(show rg (fik 0) 0 9 (-1) 8 from gk_1), trivial⟩⟩, hS.F ht⟩) hS.2.2 dX10_findMondays_13
abbrev pre_X11_wishes (T : Nat → ClassId) (a ex : Nat → Nat) (fi : Nat → Nat → Int32) (fl : Nat → Nat → Int64) (vi : Nat → Int32) (vl : Nat → Int64) : va_W := [((a 0), .inr (11, [.ref (ex 0), .ref (a 2), .ref (ex 1), .ref (ex 2), .ref (a 5), .ref (ex 3), .ref (ex 4), .ref (ex 5), .ref (ex 6), .ref (ex 7), .ref (a 1), .ref (ex 8), .ref (ex 9), .ref (ex 10), .int (vi 0)])), ((a 1), .inr (10, [.ref (a 2), .ref (a 5), .ref (a 3), .ref (a 8), .int (vi 1)])), ((a 2), .inr (7, [.int (vi 2), .int (vi 3), .ref (ex 11), .ref (ex 12), .ref (ex 13), .ref (ex 14), .ref (ex 15), .ref (ex 16), .ref (ex 17), .ref (a 4), .ref (ex 18), .ref (ex 19)])), ((a 3), .inl (T 1, 9, .inl (fi 0))), ((a 4), .inl (T 1, 9, .inl (fi 1))), ((a 5), .inr (2, [.ref (a 2), .int (vi 4), .int (vi 5), .int (vi 6), .int (vi 7), .int (vi 8), .int (vi 9), .ref (a 7), .ref (ex 20), .ref (ex 21), .ref (a 6), .ref (ex 22), .ref (ex 23), .ref (ex 24), .ref (ex 25)])), ((a 6), .inl (T 1, 9, .inl (fi 2))), ((a 7), .inl (T 1, 9, .inl (fi 3))), ((a 8), .inl (T 1, 9, .inl (fi 4)))]
set_option maxHeartbeats 8000000 in
set_option maxRecDepth 100000 in
theorem c_X11_wishes (l : Launch) (D : va_G) (T : Nat → ClassId) (a ex : Nat → Nat) (fi : Nat → Nat → Int32) (fl : Nat → Nat → Int64) (vi : Nat → Int32) (vl : Nat → Int64) (sz : Nat) (hp0 : 0 ≤ (vi 2).toInt ∧ (vi 2).toInt ≤ 9) (hp1 : 0 ≤ (vi 3).toInt ∧ (vi 3).toInt ≤ 9) (hp2 : rg (fi 0) 0 9 (-1) 8) (hp3 : 0 ≤ (vi 4).toInt ∧ (vi 4).toInt ≤ 200) (hp4 : 0 ≤ (vi 9).toInt ∧ (vi 9).toInt ≤ 9) (hp5 : rg (fi 2) 0 9 (-1) 8) (hp6 : rg (fi 3) 0 9 (-1) 8) : Met l yX11_wishes (xw yX11_wishes cX11_wishes 1 (some .int)) ({ frames := 4, cells := 0, slots := 0, locals := 103 }) (xP D T [.ref (a 0)] sz (pre_X11_wishes T a ex fi fl vi vl)) (va_Qi (fun r u => r = u) (xC D (va_A (pre_X11_wishes T a ex fi fl vi vl) sz) (fun fj fm vj vm => [((a 0), .inr (11, [.ref (ex 0), .ref (a 2), .ref (ex 1), .ref (ex 2), .ref (a 5), .ref (ex 3), .ref (ex 4), .ref (ex 5), .ref (ex 6), .ref (ex 7), .ref (a 1), .ref (ex 8), .ref (ex 9), .ref (ex 10), .int (vi 0)])), ((a 1), .inr (10, [.ref (a 2), .ref (a 5), .ref (a 3), .ref (a 8), .int (vj 0)])), ((a 2), .inr (7, [.int (vi 2), .int (vi 3), .ref (ex 11), .ref (ex 12), .ref (ex 13), .ref (ex 14), .ref (ex 15), .ref (ex 16), .ref (ex 17), .ref (a 4), .ref (ex 18), .ref (ex 19)])), ((a 3), .inl (T 1, 9, .inl (fj 0))), ((a 4), .inl (T 1, 9, .inl (fi 1))), ((a 5), .inr (2, [.ref (a 2), .int (vi 4), .int (vi 5), .int (vi 6), .int (vi 7), .int (vi 8), .int (vi 9), .ref (a 7), .ref (ex 20), .ref (ex 21), .ref (a 6), .ref (ex 22), .ref (ex 23), .ref (ex 24), .ref (ex 25)])), ((a 6), .inl (T 1, 9, .inl (fi 2))), ((a 7), .inl (T 1, 9, .inl (fi 3))), ((a 8), .inl (T 1, 9, .inl (fj 1)))]) (fun (r : Int32) (fj : Nat → Nat → Int32) (fm : Nat → Nat → Int64) (vj : Nat → Int32) (vm : Nat → Int64) => rg (fj 0) 0 9 (-1) 8 ∧ True)) (va_A (pre_X11_wishes T a ex fi fl vi vl) sz)) 0 0 (va_A (pre_X11_wishes T a ex fi fl vi vl) sz) := by
  refine xofW (cc := cX11_wishes) (maxL := 1) (ret := (some .int)) (by decide) rfl ?_
  intro p e s m args below meth c s₁ R Q hR hQ B hml hv
  obtain ⟨rfl, hsz, hP, hK, hD0⟩ := hv
  have hx := B.exec
  have hb := B.bytes
  have hr := B.returns
  have hts := atoms_spec (ws := xw yX11_wishes cX11_wishes 1 (some .int)) B.pre
  have htg : ∀ w ∈ xg, w.before _ s = true := fun w h => hts w (List.mem_cons_of_mem _ h)
  have hown : s.vm.findClass RX11 = some m.cls := findClass_of_methodNamed B.named
  have hlocks := B.notSynchronized
  subst hsz
  have hD := hD0.self (sz := s.heap.size)
  generalize hAe : va_A (pre_X11_wishes T a ex fi fl vi vl) s.heap.size = A at hD hQ
  have hA : ∀ q : Nat, s.heap.size ≤ q → A q := fun q h => by rw [← hAe]; exact Or.inr h
  have hS : va_S A s.heap s.heap [] := va_S.rf
  replace hP : va_P D vwCl [((a 0), .inr (11, [.ref (ex 0), .ref (a 2), .ref (ex 1), .ref (ex 2), .ref (a 5), .ref (ex 3), .ref (ex 4), .ref (ex 5), .ref (ex 6), .ref (ex 7), .ref (a 1), .ref (ex 8), .ref (ex 9), .ref (ex 10), .int (vi 0)])), ((a 1), .inr (10, [.ref (a 2), .ref (a 5), .ref (a 3), .ref (a 8), .int (vi 1)])), ((a 2), .inr (7, [.int (vi 2), .int (vi 3), .ref (ex 11), .ref (ex 12), .ref (ex 13), .ref (ex 14), .ref (ex 15), .ref (ex 16), .ref (ex 17), .ref (a 4), .ref (ex 18), .ref (ex 19)])), ((a 3), .inl (T 1, 9, .inl (fi 0))), ((a 4), .inl (T 1, 9, .inl (fi 1))), ((a 5), .inr (2, [.ref (a 2), .int (vi 4), .int (vi 5), .int (vi 6), .int (vi 7), .int (vi 8), .int (vi 9), .ref (a 7), .ref (ex 20), .ref (ex 21), .ref (a 6), .ref (ex 22), .ref (ex 23), .ref (ex 24), .ref (ex 25)])), ((a 6), .inl (T 1, 9, .inl (fi 2))), ((a 7), .inl (T 1, 9, .inl (fi 3))), ((a 8), .inl (T 1, 9, .inl (fi 4)))] s.heap := hP
  replace hD : va_D A [((a 0), .inr (11, [.ref (ex 0), .ref (a 2), .ref (ex 1), .ref (ex 2), .ref (a 5), .ref (ex 3), .ref (ex 4), .ref (ex 5), .ref (ex 6), .ref (ex 7), .ref (a 1), .ref (ex 8), .ref (ex 9), .ref (ex 10), .int (vi 0)])), ((a 1), .inr (10, [.ref (a 2), .ref (a 5), .ref (a 3), .ref (a 8), .int (vi 1)])), ((a 2), .inr (7, [.int (vi 2), .int (vi 3), .ref (ex 11), .ref (ex 12), .ref (ex 13), .ref (ex 14), .ref (ex 15), .ref (ex 16), .ref (ex 17), .ref (a 4), .ref (ex 18), .ref (ex 19)])), ((a 3), .inl (T 1, 9, .inl (fi 0))), ((a 4), .inl (T 1, 9, .inl (fi 1))), ((a 5), .inr (2, [.ref (a 2), .int (vi 4), .int (vi 5), .int (vi 6), .int (vi 7), .int (vi 8), .int (vi 9), .ref (a 7), .ref (ex 20), .ref (ex 21), .ref (a 6), .ref (ex 22), .ref (ex 23), .ref (ex 24), .ref (ex 25)])), ((a 6), .inl (T 1, 9, .inl (fi 2))), ((a 7), .inl (T 1, 9, .inl (fi 3))), ((a 8), .inl (T 1, 9, .inl (fi 4)))] := hD
  have hl := lv_entry ([.ref (a 0)]) (n := 1) (Nat.le_of_ble_eq_true rfl)
  rw [lg_entry_eq]
  generalize (lg_sl ([.ref (a 0)]) ++ List.replicate (1 - (lg_sl ([.ref (a 0)])).length) Slot.unset).toArray = ls at hl ⊢
  replace hl : lv_has ls 1 [(0, .ref (a 0))] := hl
  refine lv_aload_n hx hb dX11_wishes_0 rfl (lv_at hl 0 rfl) ?_
  refine va_get (D := D) (ci := 11) (v := .ref (a 1)) (C := RX11) (T := TX11) (N := 15) hx hb htg inX11 hown hK.1 hP 0 rfl rfl 10 (by decide) (htg _ kw_506) (fun _ h9 => h9) rfl dX11_wishes_1 ?_
  obtain ⟨hC9, hPc, hDc, hFc⟩ := xcut (wc := (pre_X10_findMondays T (xa [(a 1), (a 2), (a 3), (a 4), (a 5), (a 6), (a 7), (a 8)]) (xa [(ex 11), (ex 12), (ex 13), (ex 14), (ex 15), (ex 16), (ex 17), (ex 18), (ex 19), (ex 20), (ex 21), (ex 22), (ex 23), (ex 24), (ex 25)]) (xf [(fi 0), (fi 1), (fi 2), (fi 3), (fi 4)]) (xh []) (xv [(vi 1), (vi 2), (vi 3), (vi 4), (vi 5), (vi 6), (vi 7), (vi 8), (vi 9)]) (xl []))) hP hD hS hA [1, 2, 3, 4, 5, 6, 7, 8] (by decide) rfl
  refine va_calli (va_runVN (As := []) (rest := []) ⟨hx, hb, hml, hown, htg⟩ (c_X10_findMondays l D T (xa [(a 1), (a 2), (a 3), (a 4), (a 5), (a 6), (a 7), (a 8)]) (xa [(ex 11), (ex 12), (ex 13), (ex 14), (ex 15), (ex 16), (ex 17), (ex 18), (ex 19), (ex 20), (ex 21), (ex 22), (ex 23), (ex 24), (ex 25)]) (xf [(fi 0), (fi 1), (fi 2), (fi 3), (fi 4)]) (xh []) (xv [(vi 1), (vi 2), (vi 3), (vi 4), (vi 5), (vi 6), (vi 7), (vi 8), (vi 9)]) (xl []) s.heap.size hp0 hp1 (show rg (fi 0) 0 9 (-1) 8 from hp2) hp3 hp4 (show rg (fi 2) 0 9 (-1) 8 from hp5) (show rg (fi 3) 0 9 (-1) 8 from hp6)) ⟨va_cnB 0 htg (xg_ok kw_983) rfl rfl rfl (hK.2.1 _ kn_980) (htg _ kw_13) (by decide +kernel) ⟨by rw [hR]; exact Nat.le_of_ble_eq_true rfl, by rw [hR]; exact Nat.le_of_ble_eq_true rfl⟩, htg _ kw_982, htg _ ks_76⟩ (xpreV hK hPc hDc (va_recv hK.1 hPc (ci := 10) (q0 := 0) rfl rfl)) rfl rfl hl.1 rfl (lv_room (Nat.le_of_ble_eq_true rfl)) dX11_wishes_4 ⟨by rw [hR]; exact Nat.le_of_ble_eq_true rfl, by rw [hR]; exact Nat.le_of_ble_eq_true rfl⟩) hS (fun q _ h => hFc q h) hFc (fun r9 u9 t H1 locs ht hvm hw hB hz1 hk1 hS => ?_)
  subst hw
  obtain ⟨fik, flk, vik, vlk, hP1, hD1, hG⟩ := hB
  rw [ht] at hP1
  obtain ⟨hP, hD⟩ := va_join (wr := [((a 0), .inr (11, [.ref (ex 0), .ref (a 2), .ref (ex 1), .ref (ex 2), .ref (a 5), .ref (ex 3), .ref (ex 4), .ref (ex 5), .ref (ex 6), .ref (ex 7), .ref (a 1), .ref (ex 8), .ref (ex 9), .ref (ex 10), .int (vi 0)]))]) (w1 := [((a 1), .inr (10, [.ref (a 2), .ref (a 5), .ref (a 3), .ref (a 8), .int (vik 0)])), ((a 2), .inr (7, [.int (vi 2), .int (vi 3), .ref (ex 11), .ref (ex 12), .ref (ex 13), .ref (ex 14), .ref (ex 15), .ref (ex 16), .ref (ex 17), .ref (a 4), .ref (ex 18), .ref (ex 19)])), ((a 3), .inl (T 1, 9, .inl (fik 0))), ((a 4), .inl (T 1, 9, .inl (fi 1))), ((a 5), .inr (2, [.ref (a 2), .int (vi 4), .int (vi 5), .int (vi 6), .int (vi 7), .int (vi 8), .int (vi 9), .ref (a 7), .ref (ex 20), .ref (ex 21), .ref (a 6), .ref (ex 22), .ref (ex 23), .ref (ex 24), .ref (ex 25)])), ((a 6), .inl (T 1, 9, .inl (fi 2))), ((a 7), .inl (T 1, 9, .inl (fi 3))), ((a 8), .inl (T 1, 9, .inl (fik 1)))]) hP hD [1, 2, 3, 4, 5, 6, 7, 8] [0] hC9 rfl (by decide) (by decide) hk1 hFc hP1 hD1
  obtain ⟨rk, er9⟩ : ∃ z, z = r9 := ⟨_, rfl⟩
  subst er9
  clear hPc hDc hFc hP1 hD1 hk1 hz1 hvm ht hC9
  generalize H1 = H at hP hS ⊢
  obtain ⟨hP, hD⟩ := (show xPD D A [((a 0), .inr (11, [.ref (ex 0), .ref (a 2), .ref (ex 1), .ref (ex 2), .ref (a 5), .ref (ex 3), .ref (ex 4), .ref (ex 5), .ref (ex 6), .ref (ex 7), .ref (a 1), .ref (ex 8), .ref (ex 9), .ref (ex 10), .int (vi 0)])), ((a 1), .inr (10, [.ref (a 2), .ref (a 5), .ref (a 3), .ref (a 8), .int (vik 0)])), ((a 2), .inr (7, [.int (vi 2), .int (vi 3), .ref (ex 11), .ref (ex 12), .ref (ex 13), .ref (ex 14), .ref (ex 15), .ref (ex 16), .ref (ex 17), .ref (a 4), .ref (ex 18), .ref (ex 19)])), ((a 3), .inl (T 1, 9, .inl (fik 0))), ((a 4), .inl (T 1, 9, .inl (fi 1))), ((a 5), .inr (2, [.ref (a 2), .int (vi 4), .int (vi 5), .int (vi 6), .int (vi 7), .int (vi 8), .int (vi 9), .ref (a 7), .ref (ex 20), .ref (ex 21), .ref (a 6), .ref (ex 22), .ref (ex 23), .ref (ex 24), .ref (ex 25)])), ((a 6), .inl (T 1, 9, .inl (fi 2))), ((a 7), .inl (T 1, 9, .inl (fi 3))), ((a 8), .inl (T 1, 9, .inl (fik 1)))] H from ⟨hP, hD⟩)
  obtain ⟨gk_0, -⟩ := hG
  replace gk_0 : rg (fik 0) 0 9 (-1) 8 := gk_0
  have hP9 := hP.sub (ws' := [((a 0), .inr (11, [.ref (ex 0), .ref (a 2), .ref (ex 1), .ref (ex 2), .ref (a 5), .ref (ex 3), .ref (ex 4), .ref (ex 5), .ref (ex 6), .ref (ex 7), .ref (a 1), .ref (ex 8), .ref (ex 9), .ref (ex 10), .int (vi 0)])), ((a 1), .inr (10, [.ref (a 2), .ref (a 5), .ref (a 3), .ref (a 8), .int (vik 0)])), ((a 2), .inr (7, [.int (vi 2), .int (vi 3), .ref (ex 11), .ref (ex 12), .ref (ex 13), .ref (ex 14), .ref (ex 15), .ref (ex 16), .ref (ex 17), .ref (a 4), .ref (ex 18), .ref (ex 19)])), ((a 3), .inl (T 1, 9, .inl (fik 0))), ((a 4), .inl (T 1, 9, .inl (fi 1))), ((a 5), .inr (2, [.ref (a 2), .int (vi 4), .int (vi 5), .int (vi 6), .int (vi 7), .int (vi 8), .int (vi 9), .ref (a 7), .ref (ex 20), .ref (ex 21), .ref (a 6), .ref (ex 22), .ref (ex 23), .ref (ex 24), .ref (ex 25)])), ((a 6), .inl (T 1, 9, .inl (fi 2))), ((a 7), .inl (T 1, 9, .inl (fi 3))), ((a 8), .inl (T 1, 9, .inl (fik 1)))]) [0, 1, 2, 3, 4, 5, 6, 7, 8] rfl
  have hD9 := hD.sub (ws' := [((a 0), .inr (11, [.ref (ex 0), .ref (a 2), .ref (ex 1), .ref (ex 2), .ref (a 5), .ref (ex 3), .ref (ex 4), .ref (ex 5), .ref (ex 6), .ref (ex 7), .ref (a 1), .ref (ex 8), .ref (ex 9), .ref (ex 10), .int (vi 0)])), ((a 1), .inr (10, [.ref (a 2), .ref (a 5), .ref (a 3), .ref (a 8), .int (vik 0)])), ((a 2), .inr (7, [.int (vi 2), .int (vi 3), .ref (ex 11), .ref (ex 12), .ref (ex 13), .ref (ex 14), .ref (ex 15), .ref (ex 16), .ref (ex 17), .ref (a 4), .ref (ex 18), .ref (ex 19)])), ((a 3), .inl (T 1, 9, .inl (fik 0))), ((a 4), .inl (T 1, 9, .inl (fi 1))), ((a 5), .inr (2, [.ref (a 2), .int (vi 4), .int (vi 5), .int (vi 6), .int (vi 7), .int (vi 8), .int (vi 9), .ref (a 7), .ref (ex 20), .ref (ex 21), .ref (a 6), .ref (ex 22), .ref (ex 23), .ref (ex 24), .ref (ex 25)])), ((a 6), .inl (T 1, 9, .inl (fi 2))), ((a 7), .inl (T 1, 9, .inl (fi 3))), ((a 8), .inl (T 1, 9, .inl (fik 1)))]) [0, 1, 2, 3, 4, 5, 6, 7, 8] (by decide +kernel) rfl
  rw [hQ]
  exact W.iret (v := rk) hx hb hr (fun t ht hW => ⟨⟨rk, rk, rfl, rfl, xf [(fik 0), (fik 1)], xh [], xv [(vik 0)], xl [], by rw [ht]; exact hP9, hD9, ⟨(show rg (fik 0) 0 9 (-1) 8 from gk_0), trivial⟩⟩, hS.F ht⟩) hS.2.2 dX11_wishes_7
abbrev pre_X10_isFirstOfRing (T : Nat → ClassId) (a ex : Nat → Nat) (fi : Nat → Nat → Int32) (fl : Nat → Nat → Int64) (vi : Nat → Int32) (vl : Nat → Int64) : va_W := [((a 0), .inr (10, [.ref (ex 0), .ref (ex 1), .ref (a 1), .ref (ex 2), .int (vi 1)])), ((a 1), .inl (T 1, 9, .inl (fi 0)))]
set_option maxHeartbeats 8000000 in
set_option maxRecDepth 100000 in
theorem c_X10_isFirstOfRing (l : Launch) (D : va_G) (T : Nat → ClassId) (a ex : Nat → Nat) (fi : Nat → Nat → Int32) (fl : Nat → Nat → Int64) (vi : Nat → Int32) (vl : Nat → Int64) (sz : Nat) (hp0 : 0 ≤ (vi 0).toInt ∧ (vi 0).toInt ≤ 8) (hp1 : rg (fi 0) 0 9 (-1) 8) : Met l yX10_isFirstOfRing (xw yX10_isFirstOfRing cX10_isFirstOfRing 4 (some .boolean)) ({ frames := 0, cells := 0, slots := 0, locals := 0 }) (xP D T [.ref (a 0), .int (vi 0)] sz (pre_X10_isFirstOfRing T a ex fi fl vi vl)) (va_Qi (fun r u => r = u) (xC D (va_A (pre_X10_isFirstOfRing T a ex fi fl vi vl) sz) (fun fj fm vj vm => [((a 0), .inr (10, [.ref (ex 0), .ref (ex 1), .ref (a 1), .ref (ex 2), .int (vi 1)])), ((a 1), .inl (T 1, 9, .inl (fi 0)))]) (fun (r : Int32) (fj : Nat → Nat → Int32) (fm : Nat → Nat → Int64) (vj : Nat → Int32) (vm : Nat → Int64) => ((r = 1 ∧ (True)) ∨ (r = 0 ∧ (True))) ∧ True)) (va_A (pre_X10_isFirstOfRing T a ex fi fl vi vl) sz)) 0 0 (va_A (pre_X10_isFirstOfRing T a ex fi fl vi vl) sz) := by
  refine xofW (cc := cX10_isFirstOfRing) (maxL := 4) (ret := (some .boolean)) (by decide) rfl ?_
  intro p e s m args below meth c s₁ R Q hR hQ B hml hv
  obtain ⟨rfl, hsz, hP, hK, hD0⟩ := hv
  have hx := B.exec
  have hb := B.bytes
  have hr := B.returns
  have hts := atoms_spec (ws := xw yX10_isFirstOfRing cX10_isFirstOfRing 4 (some .boolean)) B.pre
  have htg : ∀ w ∈ xg, w.before _ s = true := fun w h => hts w (List.mem_cons_of_mem _ h)
  have hown : s.vm.findClass RX10 = some m.cls := findClass_of_methodNamed B.named
  have hlocks := B.notSynchronized
  subst hsz
  have hD := hD0.self (sz := s.heap.size)
  generalize hAe : va_A (pre_X10_isFirstOfRing T a ex fi fl vi vl) s.heap.size = A at hD hQ
  have hA : ∀ q : Nat, s.heap.size ≤ q → A q := fun q h => by rw [← hAe]; exact Or.inr h
  have hS : va_S A s.heap s.heap [] := va_S.rf
  replace hP : va_P D vwCl [((a 0), .inr (10, [.ref (ex 0), .ref (ex 1), .ref (a 1), .ref (ex 2), .int (vi 1)])), ((a 1), .inl (T 1, 9, .inl (fi 0)))] s.heap := hP
  replace hD : va_D A [((a 0), .inr (10, [.ref (ex 0), .ref (ex 1), .ref (a 1), .ref (ex 2), .int (vi 1)])), ((a 1), .inl (T 1, 9, .inl (fi 0)))] := hD
  have hl := lv_entry ([.ref (a 0), .int (vi 0)]) (n := 4) (Nat.le_of_ble_eq_true rfl)
  rw [lg_entry_eq]
  generalize (lg_sl ([.ref (a 0), .int (vi 0)]) ++ List.replicate (4 - (lg_sl ([.ref (a 0), .int (vi 0)])).length) Slot.unset).toArray = ls at hl ⊢
  replace hl : lv_has ls 4 [(0, .ref (a 0)), (1, .int (vi 0))] := hl
  refine lv_aload_n hx hb dX10_isFirstOfRing_0 rfl (lv_at hl 0 rfl) ?_
  refine va_get (D := D) (ci := 10) (v := .ref (a 1)) (C := RX10) (T := TX10) (N := 5) hx hb htg inX10 hown hK.1 hP 0 rfl rfl 2 (by decide) (htg _ kw_418) (fun _ h9 => h9) rfl dX10_isFirstOfRing_1 ?_
  refine lv_iload_n hx hb dX10_isFirstOfRing_4 rfl (lv_at hl 1 rfl) ?_
  refine va_iald hx hb hK.1 hP 1 1 rfl rfl (vp_in_iff.mpr (by omega)) dX10_isFirstOfRing_5 ?_
  have hv := rg_at hp1 (i := (vi 0)) (by omega) (by omega)
  refine lv_istore_n (lv' := [(2, .int ((fi 0) (vi 0).toNatClampNeg)), (0, .ref (a 0)), (1, .int (vi 0))]) hx hb dX10_isFirstOfRing_6 rfl hl (by decide) rfl (fun ls hl => ?_)
  refine lv_iconst (v := 0) hx hb dX10_isFirstOfRing_7 (by decide) ?_
  refine lv_istore_n (lv' := [(3, .int 0), (2, .int ((fi 0) (vi 0).toNatClampNeg)), (0, .ref (a 0)), (1, .int (vi 0))]) hx hb dX10_isFirstOfRing_8 rfl hl (by decide) rfl (fun ls hl => ?_)
  have lp : ∀ (kn : Nat) (w3 : Int32) (w2 : Int32) (H : Heap) (locs : List Loc) (ls : Array Slot), (0 ≤ w3.toInt) → (-1 ≤ w2.toInt ∧ w2.toInt ≤ 8) → (2147483648 - w3.toInt).toNat = kn → va_P D vwCl [((a 0), .inr (10, [.ref (ex 0), .ref (ex 1), .ref (a 1), .ref (ex 2), .int (vi 1)])), ((a 1), .inl (T 1, 9, .inl (fi 0)))] H → va_D A [((a 0), .inr (10, [.ref (ex 0), .ref (ex 1), .ref (a 1), .ref (ex 2), .int (vi 1)])), ((a 1), .inl (T 1, 9, .inl (fi 0)))] → va_S A s.heap H locs → lv_has ls 4 [(3, .int w3), (2, .int w2), (0, .ref (a 0)), (1, .int (vi 0))] → W p l e R s m ([.ref (a 0), .int (vi 0)] : List Value).toArray below meth c H locs 0 0 Q (F0 m 9 ls []) := by
    intro kn
    induction kn using Nat.strongRecOn with
    | _ kn ih =>
      intro w3 w2 H locs ls hi hi_1 hm hP hD hS hl
      refine lv_iload_n hx hb dX10_isFirstOfRing_9 rfl (lv_at hl 0 rfl) ?_
      refine lv_bipush (v := 9) hx hb dX10_isFirstOfRing_10 (by decide) ?_
      refine lv_icmp_ge (tgt := 33) hx hb dX10_isFirstOfRing_12 (by decide) (fun c12 => ?_) (fun c12 => ?_)
      · have c12 := xge (k := 9) (by decide) c12
        refine lv_iload_n hx hb dX10_isFirstOfRing_33 rfl (lv_at hl 1 rfl) ?_
        refine lv_iload_n hx hb dX10_isFirstOfRing_34 rfl (lv_at hl 3 rfl) ?_
        refine lv_icmp_ne (tgt := 42) hx hb dX10_isFirstOfRing_35 (by decide) (fun c35 => ?_) (fun c35 => ?_)
        · have c35 := xne2 c35
          have rc35 := xrng w2; have qc35 := xrng (vi 0)
          refine lv_iconst (v := 0) hx hb dX10_isFirstOfRing_42 (by decide) ?_
          have hP9 := hP.sub (ws' := [((a 0), .inr (10, [.ref (ex 0), .ref (ex 1), .ref (a 1), .ref (ex 2), .int (vi 1)])), ((a 1), .inl (T 1, 9, .inl (fi 0)))]) [0, 1] rfl
          have hD9 := hD.sub (ws' := [((a 0), .inr (10, [.ref (ex 0), .ref (ex 1), .ref (a 1), .ref (ex 2), .int (vi 1)])), ((a 1), .inl (T 1, 9, .inl (fi 0)))]) [0, 1] (by decide +kernel) rfl
          rw [hQ]
          exact W.zret (v := 0) hx hb hr rfl (fun t ht hW => ⟨⟨0, 0, rfl, rfl, xf [], xh [], xv [], xl [], by rw [ht]; exact hP9, hD9, ⟨(Or.inr ⟨rfl, by show True; first | trivial | omega | assumption⟩), trivial⟩⟩, hS.F ht⟩) hS.2.2 dX10_isFirstOfRing_43
        · have c35 := congrArg Int32.toInt c35
          have rc35 := xrng w2; have qc35 := xrng (vi 0)
          refine lv_iconst (v := 1) hx hb dX10_isFirstOfRing_38 (by decide) ?_
          refine lv_goto (tgt := 43) hx hb dX10_isFirstOfRing_39 (by decide) ?_
          have hP9 := hP.sub (ws' := [((a 0), .inr (10, [.ref (ex 0), .ref (ex 1), .ref (a 1), .ref (ex 2), .int (vi 1)])), ((a 1), .inl (T 1, 9, .inl (fi 0)))]) [0, 1] rfl
          have hD9 := hD.sub (ws' := [((a 0), .inr (10, [.ref (ex 0), .ref (ex 1), .ref (a 1), .ref (ex 2), .int (vi 1)])), ((a 1), .inl (T 1, 9, .inl (fi 0)))]) [0, 1] (by decide +kernel) rfl
          rw [hQ]
          exact W.zret (v := 1) hx hb hr rfl (fun t ht hW => ⟨⟨1, 1, rfl, rfl, xf [], xh [], xv [], xl [], by rw [ht]; exact hP9, hD9, ⟨(Or.inl ⟨rfl, by show True; first | trivial | omega | assumption⟩), trivial⟩⟩, hS.F ht⟩) hS.2.2 dX10_isFirstOfRing_43
      · have c12 := xnge (k := 9) (by decide) c12
        refine lv_iload_n hx hb dX10_isFirstOfRing_15 rfl (lv_at hl 1 rfl) ?_
        refine lv_iload_n hx hb dX10_isFirstOfRing_16 rfl (lv_at hl 3 rfl) ?_
        refine lv_icmp_le (tgt := 33) hx hb dX10_isFirstOfRing_17 (by decide) (fun c17 => ?_) (fun c17 => ?_)
        · have c17 := Int32.le_iff_toInt_le.mp c17
          have rc17 := xrng w2; have qc17 := xrng (vi 0)
          refine lv_iload_n hx hb dX10_isFirstOfRing_33 rfl (lv_at hl 1 rfl) ?_
          refine lv_iload_n hx hb dX10_isFirstOfRing_34 rfl (lv_at hl 3 rfl) ?_
          refine lv_icmp_ne (tgt := 42) hx hb dX10_isFirstOfRing_35 (by decide) (fun c35_1 => ?_) (fun c35_1 => ?_)
          · have c35_1 := xne2 c35_1
            have rc35_1 := xrng w2; have qc35_1 := xrng (vi 0)
            refine lv_iconst (v := 0) hx hb dX10_isFirstOfRing_42 (by decide) ?_
            have hP9 := hP.sub (ws' := [((a 0), .inr (10, [.ref (ex 0), .ref (ex 1), .ref (a 1), .ref (ex 2), .int (vi 1)])), ((a 1), .inl (T 1, 9, .inl (fi 0)))]) [0, 1] rfl
            have hD9 := hD.sub (ws' := [((a 0), .inr (10, [.ref (ex 0), .ref (ex 1), .ref (a 1), .ref (ex 2), .int (vi 1)])), ((a 1), .inl (T 1, 9, .inl (fi 0)))]) [0, 1] (by decide +kernel) rfl
            rw [hQ]
            exact W.zret (v := 0) hx hb hr rfl (fun t ht hW => ⟨⟨0, 0, rfl, rfl, xf [], xh [], xv [], xl [], by rw [ht]; exact hP9, hD9, ⟨(Or.inr ⟨rfl, by show True; first | trivial | omega | assumption⟩), trivial⟩⟩, hS.F ht⟩) hS.2.2 dX10_isFirstOfRing_43
          · have c35_1 := congrArg Int32.toInt c35_1
            have rc35_1 := xrng w2; have qc35_1 := xrng (vi 0)
            refine lv_iconst (v := 1) hx hb dX10_isFirstOfRing_38 (by decide) ?_
            refine lv_goto (tgt := 43) hx hb dX10_isFirstOfRing_39 (by decide) ?_
            have hP9 := hP.sub (ws' := [((a 0), .inr (10, [.ref (ex 0), .ref (ex 1), .ref (a 1), .ref (ex 2), .int (vi 1)])), ((a 1), .inl (T 1, 9, .inl (fi 0)))]) [0, 1] rfl
            have hD9 := hD.sub (ws' := [((a 0), .inr (10, [.ref (ex 0), .ref (ex 1), .ref (a 1), .ref (ex 2), .int (vi 1)])), ((a 1), .inl (T 1, 9, .inl (fi 0)))]) [0, 1] (by decide +kernel) rfl
            rw [hQ]
            exact W.zret (v := 1) hx hb hr rfl (fun t ht hW => ⟨⟨1, 1, rfl, rfl, xf [], xh [], xv [], xl [], by rw [ht]; exact hP9, hD9, ⟨(Or.inl ⟨rfl, by show True; first | trivial | omega | assumption⟩), trivial⟩⟩, hS.F ht⟩) hS.2.2 dX10_isFirstOfRing_43
        · have c17 := (mt Int32.le_iff_toInt_le.mpr c17)
          have rc17 := xrng w2; have qc17 := xrng (vi 0)
          refine lv_aload_n hx hb dX10_isFirstOfRing_20 rfl (lv_at hl 2 rfl) ?_
          refine va_get (D := D) (ci := 10) (v := .ref (a 1)) (C := RX10) (T := TX10) (N := 5) hx hb htg inX10 hown hK.1 hP 0 rfl rfl 2 (by decide) (htg _ kw_418) (fun _ h9 => h9) rfl dX10_isFirstOfRing_21 ?_
          refine lv_iload_n hx hb dX10_isFirstOfRing_24 rfl (lv_at hl 1 rfl) ?_
          refine va_iald hx hb hK.1 hP 1 1 rfl rfl (vp_in_iff.mpr (by omega)) dX10_isFirstOfRing_25 ?_
          have hv_1 := rg_at hp1 (i := w2) (by omega) (by omega)
          refine lv_istore_n (lv' := [(2, .int ((fi 0) w2.toNatClampNeg)), (3, .int w3), (0, .ref (a 0)), (1, .int (vi 0))]) hx hb dX10_isFirstOfRing_26 rfl hl (by decide) rfl (fun ls hl => ?_)
          obtain ⟨i27, ei27⟩ : ∃ z : Int32, w3 + Int32.ofInt 1 = z := ⟨_, rfl⟩
          have ti27 : i27.toInt = w3.toInt + 1 := by rw [← ei27]; have h79 := xrng w3; exact xadd rfl (by decide) (by omega) (by omega)
          refine lv_iinc (v := i27) (lv' := [(3, .int i27), (2, .int ((fi 0) w2.toNatClampNeg)), (0, .ref (a 0)), (1, .int (vi 0))]) hx hb dX10_isFirstOfRing_27 hl (k := 1) rfl ei27 (by decide) rfl (fun ls hl => ?_)
          refine lv_goto (tgt := 9) hx hb dX10_isFirstOfRing_30 (by decide) ?_
          exact ih _ (by omega) i27 ((fi 0) w2.toNatClampNeg) _ _ _ (by show 0 ≤ i27.toInt; omega) (by show -1 ≤ ((fi 0) w2.toNatClampNeg).toInt ∧ ((fi 0) w2.toNatClampNeg).toInt ≤ 8; omega) rfl (hP.sub [0, 1] rfl) (hD.sub [0, 1] (by decide) rfl) hS (lv_sub hl [0, 1, 2, 3] rfl)
  exact lp _ (0 : Int32) ((fi 0) (vi 0).toNatClampNeg) _ _ _ (show 0 ≤ (0 : Int32).toInt by decide) (by show -1 ≤ ((fi 0) (vi 0).toNatClampNeg).toInt ∧ ((fi 0) (vi 0).toNatClampNeg).toInt ≤ 8; omega) rfl hP hD hS hl
abbrev pre_X10_findSwaps (T : Nat → ClassId) (a ex : Nat → Nat) (fi : Nat → Nat → Int32) (fl : Nat → Nat → Int64) (vi : Nat → Int32) (vl : Nat → Int64) : va_W := [((a 0), .inr (10, [.ref (a 1), .ref (a 4), .ref (a 2), .ref (ex 0), .int (vi 0)])), ((a 1), .inr (7, [.int (vi 1), .int (vi 2), .ref (ex 1), .ref (ex 2), .ref (ex 3), .ref (ex 4), .ref (ex 5), .ref (ex 6), .ref (ex 7), .ref (a 3), .ref (ex 8), .ref (ex 9)])), ((a 2), .inl (T 1, 9, .inl (fi 0))), ((a 3), .inl (T 1, 9, .inl (fi 1))), ((a 4), .inr (2, [.ref (a 1), .int (vi 3), .int (vi 4), .int (vi 5), .int (vi 6), .int (vi 7), .int (vi 8), .ref (a 6), .ref (ex 10), .ref (ex 11), .ref (a 5), .ref (ex 12), .ref (ex 13), .ref (ex 14), .ref (ex 15)])), ((a 5), .inl (T 1, 9, .inl (fi 2))), ((a 6), .inl (T 1, 9, .inl (fi 3)))]
set_option maxHeartbeats 8000000 in
set_option maxRecDepth 100000 in
theorem c_X10_findSwaps (l : Launch) (D : va_G) (T : Nat → ClassId) (a ex : Nat → Nat) (fi : Nat → Nat → Int32) (fl : Nat → Nat → Int64) (vi : Nat → Int32) (vl : Nat → Int64) (sz : Nat) (hp0 : 0 ≤ (vi 1).toInt ∧ (vi 1).toInt ≤ 9) (hp1 : 0 ≤ (vi 2).toInt ∧ (vi 2).toInt ≤ 9) (hp2 : rg (fi 0) 0 9 (-1) 8) (hp3 : 0 ≤ (vi 3).toInt ∧ (vi 3).toInt ≤ 200) (hp4 : 0 ≤ (vi 8).toInt ∧ (vi 8).toInt ≤ 9) (hp5 : rg (fi 2) 0 9 (-1) 8) (hp6 : rg (fi 3) 0 9 (-1) 8) : Met l yX10_findSwaps (xw yX10_findSwaps cX10_findSwaps 3 (some .int)) ({ frames := 3, cells := 0, slots := 0, locals := 77 }) (xP D T [.ref (a 0)] sz (pre_X10_findSwaps T a ex fi fl vi vl)) (va_Qi (fun r u => r = u) (xC D (va_A (pre_X10_findSwaps T a ex fi fl vi vl) sz) (fun fj fm vj vm => [((a 0), .inr (10, [.ref (a 1), .ref (a 4), .ref (a 2), .ref (ex 0), .int (vi 0)])), ((a 1), .inr (7, [.int (vi 1), .int (vi 2), .ref (ex 1), .ref (ex 2), .ref (ex 3), .ref (ex 4), .ref (ex 5), .ref (ex 6), .ref (ex 7), .ref (a 3), .ref (ex 8), .ref (ex 9)])), ((a 2), .inl (T 1, 9, .inl (fj 0))), ((a 3), .inl (T 1, 9, .inl (fi 1))), ((a 4), .inr (2, [.ref (a 1), .int (vi 3), .int (vi 4), .int (vi 5), .int (vi 6), .int (vi 7), .int (vi 8), .ref (a 6), .ref (ex 10), .ref (ex 11), .ref (a 5), .ref (ex 12), .ref (ex 13), .ref (ex 14), .ref (ex 15)])), ((a 5), .inl (T 1, 9, .inl (fi 2))), ((a 6), .inl (T 1, 9, .inl (fi 3)))]) (fun (r : Int32) (fj : Nat → Nat → Int32) (fm : Nat → Nat → Int64) (vj : Nat → Int32) (vm : Nat → Int64) => rg (fj 0) 0 9 (-1) 8 ∧ True)) (va_A (pre_X10_findSwaps T a ex fi fl vi vl) sz)) 0 0 (va_A (pre_X10_findSwaps T a ex fi fl vi vl) sz) := by
  refine xofW (cc := cX10_findSwaps) (maxL := 3) (ret := (some .int)) (by decide) rfl ?_
  intro p e s m args below meth c s₁ R Q hR hQ B hml hv
  obtain ⟨rfl, hsz, hP, hK, hD0⟩ := hv
  have hx := B.exec
  have hb := B.bytes
  have hr := B.returns
  have hts := atoms_spec (ws := xw yX10_findSwaps cX10_findSwaps 3 (some .int)) B.pre
  have htg : ∀ w ∈ xg, w.before _ s = true := fun w h => hts w (List.mem_cons_of_mem _ h)
  have hown : s.vm.findClass RX10 = some m.cls := findClass_of_methodNamed B.named
  have hlocks := B.notSynchronized
  subst hsz
  have hD := hD0.self (sz := s.heap.size)
  generalize hAe : va_A (pre_X10_findSwaps T a ex fi fl vi vl) s.heap.size = A at hD hQ
  have hA : ∀ q : Nat, s.heap.size ≤ q → A q := fun q h => by rw [← hAe]; exact Or.inr h
  have hS : va_S A s.heap s.heap [] := va_S.rf
  replace hP : va_P D vwCl [((a 0), .inr (10, [.ref (a 1), .ref (a 4), .ref (a 2), .ref (ex 0), .int (vi 0)])), ((a 1), .inr (7, [.int (vi 1), .int (vi 2), .ref (ex 1), .ref (ex 2), .ref (ex 3), .ref (ex 4), .ref (ex 5), .ref (ex 6), .ref (ex 7), .ref (a 3), .ref (ex 8), .ref (ex 9)])), ((a 2), .inl (T 1, 9, .inl (fi 0))), ((a 3), .inl (T 1, 9, .inl (fi 1))), ((a 4), .inr (2, [.ref (a 1), .int (vi 3), .int (vi 4), .int (vi 5), .int (vi 6), .int (vi 7), .int (vi 8), .ref (a 6), .ref (ex 10), .ref (ex 11), .ref (a 5), .ref (ex 12), .ref (ex 13), .ref (ex 14), .ref (ex 15)])), ((a 5), .inl (T 1, 9, .inl (fi 2))), ((a 6), .inl (T 1, 9, .inl (fi 3)))] s.heap := hP
  replace hD : va_D A [((a 0), .inr (10, [.ref (a 1), .ref (a 4), .ref (a 2), .ref (ex 0), .int (vi 0)])), ((a 1), .inr (7, [.int (vi 1), .int (vi 2), .ref (ex 1), .ref (ex 2), .ref (ex 3), .ref (ex 4), .ref (ex 5), .ref (ex 6), .ref (ex 7), .ref (a 3), .ref (ex 8), .ref (ex 9)])), ((a 2), .inl (T 1, 9, .inl (fi 0))), ((a 3), .inl (T 1, 9, .inl (fi 1))), ((a 4), .inr (2, [.ref (a 1), .int (vi 3), .int (vi 4), .int (vi 5), .int (vi 6), .int (vi 7), .int (vi 8), .ref (a 6), .ref (ex 10), .ref (ex 11), .ref (a 5), .ref (ex 12), .ref (ex 13), .ref (ex 14), .ref (ex 15)])), ((a 5), .inl (T 1, 9, .inl (fi 2))), ((a 6), .inl (T 1, 9, .inl (fi 3)))] := hD
  have hl := lv_entry ([.ref (a 0)]) (n := 3) (Nat.le_of_ble_eq_true rfl)
  rw [lg_entry_eq]
  generalize (lg_sl ([.ref (a 0)]) ++ List.replicate (3 - (lg_sl ([.ref (a 0)])).length) Slot.unset).toArray = ls at hl ⊢
  replace hl : lv_has ls 3 [(0, .ref (a 0))] := hl
  refine lv_aload_n hx hb dX10_findSwaps_0 rfl (lv_at hl 0 rfl) ?_
  obtain ⟨hC9, hPc, hDc, hFc⟩ := xcut (wc := (pre_X10_point T (xa [(a 0), (a 1), (a 2), (a 3), (a 4), (a 5), (a 6)]) (xa [(ex 0), (ex 1), (ex 2), (ex 3), (ex 4), (ex 5), (ex 6), (ex 7), (ex 8), (ex 9), (ex 10), (ex 11), (ex 12), (ex 13), (ex 14), (ex 15)]) (xf [(fi 0), (fi 1), (fi 2), (fi 3)]) (xh []) (xv [(vi 0), (vi 1), (vi 2), (vi 3), (vi 4), (vi 5), (vi 6), (vi 7), (vi 8)]) (xl []))) hP hD hS hA [0, 1, 2, 3, 4, 5, 6] (by decide) rfl
  refine va_calli (va_runV (As := []) (rest := []) ⟨hx, hb, hml, hown, htg⟩ (c_X10_point l D T (xa [(a 0), (a 1), (a 2), (a 3), (a 4), (a 5), (a 6)]) (xa [(ex 0), (ex 1), (ex 2), (ex 3), (ex 4), (ex 5), (ex 6), (ex 7), (ex 8), (ex 9), (ex 10), (ex 11), (ex 12), (ex 13), (ex 14), (ex 15)]) (xf [(fi 0), (fi 1), (fi 2), (fi 3)]) (xh []) (xv [(vi 0), (vi 1), (vi 2), (vi 3), (vi 4), (vi 5), (vi 6), (vi 7), (vi 8)]) (xl []) s.heap.size hp0 hp1 (show rg (fi 0) 0 9 (-1) 8 from hp2) hp3 hp4 (show rg (fi 2) 0 9 (-1) 8 from hp5) (show rg (fi 3) 0 9 (-1) 8 from hp6)) ⟨callB_of 0 htg (xg_ok kw_987) rfl rfl rfl (htg _ kw_13) (htg _ kw_984) (by decide +kernel) ⟨by rw [hR]; exact Nat.le_of_ble_eq_true rfl, by rw [hR]; exact Nat.le_of_ble_eq_true rfl⟩, htg _ kw_986, htg _ ks_77⟩ (xpreV hK hPc hDc (va_recv hK.1 hPc (ci := 10) (q0 := 0) rfl rfl)) rfl rfl hl.1 rfl (lv_room (Nat.le_of_ble_eq_true rfl)) dX10_findSwaps_1 ⟨by rw [hR]; exact Nat.le_of_ble_eq_true rfl, by rw [hR]; exact Nat.le_of_ble_eq_true rfl⟩) hS (fun q _ h => hFc q h) hFc (fun r9 u9 t H1 locs ht hvm hw hB hz1 hk1 hS => ?_)
  subst hw
  obtain ⟨fik, flk, vik, vlk, hP1, hD1, hG⟩ := hB
  rw [ht] at hP1
  obtain ⟨hP, hD⟩ := va_join (wr := []) (w1 := [((a 0), .inr (10, [.ref (a 1), .ref (a 4), .ref (a 2), .ref (ex 0), .int (vi 0)])), ((a 1), .inr (7, [.int (vi 1), .int (vi 2), .ref (ex 1), .ref (ex 2), .ref (ex 3), .ref (ex 4), .ref (ex 5), .ref (ex 6), .ref (ex 7), .ref (a 3), .ref (ex 8), .ref (ex 9)])), ((a 2), .inl (T 1, 9, .inl (fik 0))), ((a 3), .inl (T 1, 9, .inl (fi 1))), ((a 4), .inr (2, [.ref (a 1), .int (vi 3), .int (vi 4), .int (vi 5), .int (vi 6), .int (vi 7), .int (vi 8), .ref (a 6), .ref (ex 10), .ref (ex 11), .ref (a 5), .ref (ex 12), .ref (ex 13), .ref (ex 14), .ref (ex 15)])), ((a 5), .inl (T 1, 9, .inl (fi 2))), ((a 6), .inl (T 1, 9, .inl (fi 3)))]) hP hD [0, 1, 2, 3, 4, 5, 6] [] hC9 rfl (by decide) (by decide) hk1 hFc hP1 hD1
  obtain ⟨rk, er9⟩ : ∃ z, z = r9 := ⟨_, rfl⟩
  subst er9
  clear hPc hDc hFc hP1 hD1 hk1 hz1 hvm ht hC9
  generalize H1 = H at hP hS ⊢
  obtain ⟨hP, hD⟩ := (show xPD D A [((a 0), .inr (10, [.ref (a 1), .ref (a 4), .ref (a 2), .ref (ex 0), .int (vi 0)])), ((a 1), .inr (7, [.int (vi 1), .int (vi 2), .ref (ex 1), .ref (ex 2), .ref (ex 3), .ref (ex 4), .ref (ex 5), .ref (ex 6), .ref (ex 7), .ref (a 3), .ref (ex 8), .ref (ex 9)])), ((a 2), .inl (T 1, 9, .inl (fik 0))), ((a 3), .inl (T 1, 9, .inl (fi 1))), ((a 4), .inr (2, [.ref (a 1), .int (vi 3), .int (vi 4), .int (vi 5), .int (vi 6), .int (vi 7), .int (vi 8), .ref (a 6), .ref (ex 10), .ref (ex 11), .ref (a 5), .ref (ex 12), .ref (ex 13), .ref (ex 14), .ref (ex 15)])), ((a 5), .inl (T 1, 9, .inl (fi 2))), ((a 6), .inl (T 1, 9, .inl (fi 3)))] H from ⟨hP, hD⟩)
  obtain ⟨gk_0, gk_1, -⟩ := hG
  replace gk_1 : rg (fik 0) 0 9 (-1) 8 := gk_1
  rcases (show (rk = 1 ∧ (True)) ∨ (rk = 0 ∧ (True)) from gk_0) with ⟨er9, gk_0⟩ | ⟨er9, gk_0⟩
  · refine xz_i 1 er9 ?_
    refine lv_if_ne (tgt := 9) hx hb dX10_findSwaps_4 (by decide) (fun _ => ?_) (fun c => absurd c (by decide))
    refine lv_iconst (v := 0) hx hb dX10_findSwaps_9 (by decide) ?_
    refine lv_istore_n (lv' := [(1, .int 0), (0, .ref (a 0))]) hx hb dX10_findSwaps_10 rfl hl (by decide) rfl (fun ls hl => ?_)
    refine lv_iconst (v := 0) hx hb dX10_findSwaps_11 (by decide) ?_
    refine lv_istore_n (lv' := [(2, .int 0), (1, .int 0), (0, .ref (a 0))]) hx hb dX10_findSwaps_12 rfl hl (by decide) rfl (fun ls hl => ?_)
    have lp : ∀ (kn : Nat) (w2 : Int32) (w1 : Int32) (H : Heap) (locs : List Loc) (ls : Array Slot), (0 ≤ w2.toInt) → (2147483648 - w2.toInt).toNat = kn → va_P D vwCl [((a 0), .inr (10, [.ref (a 1), .ref (a 4), .ref (a 2), .ref (ex 0), .int (vi 0)])), ((a 1), .inr (7, [.int (vi 1), .int (vi 2), .ref (ex 1), .ref (ex 2), .ref (ex 3), .ref (ex 4), .ref (ex 5), .ref (ex 6), .ref (ex 7), .ref (a 3), .ref (ex 8), .ref (ex 9)])), ((a 2), .inl (T 1, 9, .inl (fik 0))), ((a 3), .inl (T 1, 9, .inl (fi 1))), ((a 4), .inr (2, [.ref (a 1), .int (vi 3), .int (vi 4), .int (vi 5), .int (vi 6), .int (vi 7), .int (vi 8), .ref (a 6), .ref (ex 10), .ref (ex 11), .ref (a 5), .ref (ex 12), .ref (ex 13), .ref (ex 14), .ref (ex 15)])), ((a 5), .inl (T 1, 9, .inl (fi 2))), ((a 6), .inl (T 1, 9, .inl (fi 3)))] H → va_D A [((a 0), .inr (10, [.ref (a 1), .ref (a 4), .ref (a 2), .ref (ex 0), .int (vi 0)])), ((a 1), .inr (7, [.int (vi 1), .int (vi 2), .ref (ex 1), .ref (ex 2), .ref (ex 3), .ref (ex 4), .ref (ex 5), .ref (ex 6), .ref (ex 7), .ref (a 3), .ref (ex 8), .ref (ex 9)])), ((a 2), .inl (T 1, 9, .inl (fik 0))), ((a 3), .inl (T 1, 9, .inl (fi 1))), ((a 4), .inr (2, [.ref (a 1), .int (vi 3), .int (vi 4), .int (vi 5), .int (vi 6), .int (vi 7), .int (vi 8), .ref (a 6), .ref (ex 10), .ref (ex 11), .ref (a 5), .ref (ex 12), .ref (ex 13), .ref (ex 14), .ref (ex 15)])), ((a 5), .inl (T 1, 9, .inl (fi 2))), ((a 6), .inl (T 1, 9, .inl (fi 3)))] → va_S A s.heap H locs → lv_has ls 3 [(2, .int w2), (1, .int w1), (0, .ref (a 0))] → W p l e R s m ([.ref (a 0)] : List Value).toArray below meth c H locs 0 0 Q (F0 m 13 ls []) := by
      intro kn
      induction kn using Nat.strongRecOn with
      | _ kn ih =>
        intro w2 w1 H locs ls hi hm hP hD hS hl
        refine lv_iload_n hx hb dX10_findSwaps_13 rfl (lv_at hl 0 rfl) ?_
        refine lv_aload_n hx hb dX10_findSwaps_14 rfl (lv_at hl 2 rfl) ?_
        refine va_get (D := D) (ci := 10) (v := .ref (a 1)) (C := RX10) (T := TX10) (N := 5) hx hb htg inX10 hown hK.1 hP 0 rfl rfl 0 (by decide) (htg _ kw_416) (fun _ h9 => h9) rfl dX10_findSwaps_15 ?_
        refine va_getN (D := D) (ci := 7) (v := .int (vi 2)) (C := RX7) (T := TX7) (N := 12) hx hb htg inX7 hown hK.1 hP 1 rfl rfl 1 (by decide) (va_Nw.use rfl (hK.2.1 _ kn_165)) (fun _ h9 => h9) rfl dX10_findSwaps_18 ?_
        refine lv_icmp_ge (tgt := 51) hx hb dX10_findSwaps_21 (by decide) (fun c21 => ?_) (fun c21 => ?_)
        · have c21 := Int32.le_iff_toInt_le.mp c21
          have rc21 := xrng w2; have qc21 := xrng (vi 2)
          refine lv_iload_n hx hb dX10_findSwaps_51 rfl (lv_at hl 1 rfl) ?_
          have hP9 := hP.sub (ws' := [((a 0), .inr (10, [.ref (a 1), .ref (a 4), .ref (a 2), .ref (ex 0), .int (vi 0)])), ((a 1), .inr (7, [.int (vi 1), .int (vi 2), .ref (ex 1), .ref (ex 2), .ref (ex 3), .ref (ex 4), .ref (ex 5), .ref (ex 6), .ref (ex 7), .ref (a 3), .ref (ex 8), .ref (ex 9)])), ((a 2), .inl (T 1, 9, .inl (fik 0))), ((a 3), .inl (T 1, 9, .inl (fi 1))), ((a 4), .inr (2, [.ref (a 1), .int (vi 3), .int (vi 4), .int (vi 5), .int (vi 6), .int (vi 7), .int (vi 8), .ref (a 6), .ref (ex 10), .ref (ex 11), .ref (a 5), .ref (ex 12), .ref (ex 13), .ref (ex 14), .ref (ex 15)])), ((a 5), .inl (T 1, 9, .inl (fi 2))), ((a 6), .inl (T 1, 9, .inl (fi 3)))]) [0, 1, 2, 3, 4, 5, 6] rfl
          have hD9 := hD.sub (ws' := [((a 0), .inr (10, [.ref (a 1), .ref (a 4), .ref (a 2), .ref (ex 0), .int (vi 0)])), ((a 1), .inr (7, [.int (vi 1), .int (vi 2), .ref (ex 1), .ref (ex 2), .ref (ex 3), .ref (ex 4), .ref (ex 5), .ref (ex 6), .ref (ex 7), .ref (a 3), .ref (ex 8), .ref (ex 9)])), ((a 2), .inl (T 1, 9, .inl (fik 0))), ((a 3), .inl (T 1, 9, .inl (fi 1))), ((a 4), .inr (2, [.ref (a 1), .int (vi 3), .int (vi 4), .int (vi 5), .int (vi 6), .int (vi 7), .int (vi 8), .ref (a 6), .ref (ex 10), .ref (ex 11), .ref (a 5), .ref (ex 12), .ref (ex 13), .ref (ex 14), .ref (ex 15)])), ((a 5), .inl (T 1, 9, .inl (fi 2))), ((a 6), .inl (T 1, 9, .inl (fi 3)))]) [0, 1, 2, 3, 4, 5, 6] (by decide +kernel) rfl
          rw [hQ]
          exact W.iret (v := w1) hx hb hr (fun t ht hW => ⟨⟨w1, w1, rfl, rfl, xf [(fik 0)], xh [], xv [], xl [], by rw [ht]; exact hP9, hD9, ⟨(show rg (fik 0) 0 9 (-1) 8 from gk_1), trivial⟩⟩, hS.F ht⟩) hS.2.2 dX10_findSwaps_52
        · have c21 := (mt Int32.le_iff_toInt_le.mpr c21)
          have rc21 := xrng w2; have qc21 := xrng (vi 2)
          refine lv_aload_n hx hb dX10_findSwaps_24 rfl (lv_at hl 2 rfl) ?_
          refine va_get (D := D) (ci := 10) (v := .ref (a 2)) (C := RX10) (T := TX10) (N := 5) hx hb htg inX10 hown hK.1 hP 0 rfl rfl 2 (by decide) (htg _ kw_418) (fun _ h9 => h9) rfl dX10_findSwaps_25 ?_
          refine lv_iload_n hx hb dX10_findSwaps_28 rfl (lv_at hl 0 rfl) ?_
          refine va_iald hx hb hK.1 hP 2 1 rfl rfl (vp_in_iff.mpr (by omega)) dX10_findSwaps_29 ?_
          have hv := rg_at gk_1 (i := w2) (by omega) (by omega)
          refine lv_iconst (v := (-1)) hx hb dX10_findSwaps_30 (by decide) ?_
          refine lv_icmp_eq (tgt := 45) hx hb dX10_findSwaps_31 (by decide) (fun c31 => ?_) (fun c31 => ?_)
          · have c31 := xeq (k := (-1)) (by decide) c31
            obtain ⟨i45, ei45⟩ : ∃ z : Int32, w2 + Int32.ofInt 1 = z := ⟨_, rfl⟩
            have ti45 : i45.toInt = w2.toInt + 1 := by rw [← ei45]; have h79 := xrng w2; exact xadd rfl (by decide) (by omega) (by omega)
            refine lv_iinc (v := i45) (lv' := [(2, .int i45), (1, .int w1), (0, .ref (a 0))]) hx hb dX10_findSwaps_45 hl (k := 0) rfl ei45 (by decide) rfl (fun ls hl => ?_)
            refine lv_goto (tgt := 13) hx hb dX10_findSwaps_48 (by decide) ?_
            exact ih _ (by omega) i45 w1 _ _ _ (by show 0 ≤ i45.toInt; omega) rfl (hP.sub [0, 1, 2, 3, 4, 5, 6] rfl) (hD.sub [0, 1, 2, 3, 4, 5, 6] (by decide) rfl) hS (lv_sub hl [0, 1, 2] rfl)
          · have c31 := xne (k := (-1)) (by decide) c31
            refine lv_aload_n hx hb dX10_findSwaps_34 rfl (lv_at hl 2 rfl) ?_
            refine lv_iload_n hx hb dX10_findSwaps_35 rfl (lv_at hl 0 rfl) ?_
            obtain ⟨hC9, hPc, hDc, hFc⟩ := xcut (wc := (pre_X10_isFirstOfRing T (xa [(a 0), (a 2)]) (xa [(a 1), (a 4), (ex 0)]) (xf [(fik 0)]) (xh []) (xv [w2, (vi 0)]) (xl []))) hP hD hS hA [0, 2] (by decide) rfl
            refine va_calli (va_runV (As := [.int w2]) (rest := []) ⟨hx, hb, hml, hown, htg⟩ (c_X10_isFirstOfRing l D T (xa [(a 0), (a 2)]) (xa [(a 1), (a 4), (ex 0)]) (xf [(fik 0)]) (xh []) (xv [w2, (vi 0)]) (xl []) H.size (by show 0 ≤ w2.toInt ∧ w2.toInt ≤ 8; omega) (show rg (fik 0) 0 9 (-1) 8 from gk_1)) ⟨callB_of 1 htg (xg_ok kw_1011) rfl rfl rfl (htg _ kw_13) (htg _ kw_1008) (by decide +kernel) ⟨by rw [hR]; exact Nat.le_of_ble_eq_true rfl, by rw [hR]; exact Nat.le_of_ble_eq_true rfl⟩, htg _ kw_1010, htg _ ks_81⟩ (xpreV hK hPc hDc (va_recv hK.1 hPc (ci := 10) (q0 := 0) rfl rfl)) rfl rfl hl.1 rfl (lv_room (Nat.le_of_ble_eq_true rfl)) dX10_findSwaps_36 ⟨by rw [hR]; exact Nat.le_of_ble_eq_true rfl, by rw [hR]; exact Nat.le_of_ble_eq_true rfl⟩) hS (fun q _ h => hFc q h) hFc (fun r9 u9 t H1 locs ht hvm hw hB hz1 hk1 hS => ?_)
            subst hw
            obtain ⟨fik_1, flk_1, vik_1, vlk_1, hP1, hD1, hG⟩ := hB
            rw [ht] at hP1
            obtain ⟨hP, hD⟩ := va_join (wr := [((a 1), .inr (7, [.int (vi 1), .int (vi 2), .ref (ex 1), .ref (ex 2), .ref (ex 3), .ref (ex 4), .ref (ex 5), .ref (ex 6), .ref (ex 7), .ref (a 3), .ref (ex 8), .ref (ex 9)])), ((a 3), .inl (T 1, 9, .inl (fi 1))), ((a 4), .inr (2, [.ref (a 1), .int (vi 3), .int (vi 4), .int (vi 5), .int (vi 6), .int (vi 7), .int (vi 8), .ref (a 6), .ref (ex 10), .ref (ex 11), .ref (a 5), .ref (ex 12), .ref (ex 13), .ref (ex 14), .ref (ex 15)])), ((a 5), .inl (T 1, 9, .inl (fi 2))), ((a 6), .inl (T 1, 9, .inl (fi 3)))]) (w1 := [((a 0), .inr (10, [.ref (a 1), .ref (a 4), .ref (a 2), .ref (ex 0), .int (vi 0)])), ((a 2), .inl (T 1, 9, .inl (fik 0)))]) hP hD [0, 2] [1, 3, 4, 5, 6] hC9 rfl (by decide) (by decide) hk1 hFc hP1 hD1
            obtain ⟨rk_1, er9⟩ : ∃ z, z = r9 := ⟨_, rfl⟩
            subst er9
            clear hPc hDc hFc hP1 hD1 hk1 hz1 hvm ht hC9
            generalize H1 = H at hP hS ⊢
            obtain ⟨hP, hD⟩ := (show xPD D A [((a 1), .inr (7, [.int (vi 1), .int (vi 2), .ref (ex 1), .ref (ex 2), .ref (ex 3), .ref (ex 4), .ref (ex 5), .ref (ex 6), .ref (ex 7), .ref (a 3), .ref (ex 8), .ref (ex 9)])), ((a 3), .inl (T 1, 9, .inl (fi 1))), ((a 4), .inr (2, [.ref (a 1), .int (vi 3), .int (vi 4), .int (vi 5), .int (vi 6), .int (vi 7), .int (vi 8), .ref (a 6), .ref (ex 10), .ref (ex 11), .ref (a 5), .ref (ex 12), .ref (ex 13), .ref (ex 14), .ref (ex 15)])), ((a 5), .inl (T 1, 9, .inl (fi 2))), ((a 6), .inl (T 1, 9, .inl (fi 3))), ((a 0), .inr (10, [.ref (a 1), .ref (a 4), .ref (a 2), .ref (ex 0), .int (vi 0)])), ((a 2), .inl (T 1, 9, .inl (fik 0)))] H from ⟨hP, hD⟩)
            obtain ⟨gk_1_0, -⟩ := hG
            rcases (show (rk_1 = 1 ∧ (True)) ∨ (rk_1 = 0 ∧ (True)) from gk_1_0) with ⟨er9, gk_1_0⟩ | ⟨er9, gk_1_0⟩
            · refine xz_i 1 er9 ?_
              refine lv_if_ne (tgt := 45) hx hb dX10_findSwaps_39 (by decide) (fun _ => ?_) (fun c => absurd c (by decide))
              obtain ⟨i45_1, ei45_1⟩ : ∃ z : Int32, w2 + Int32.ofInt 1 = z := ⟨_, rfl⟩
              have ti45_1 : i45_1.toInt = w2.toInt + 1 := by rw [← ei45_1]; have h79 := xrng w2; exact xadd rfl (by decide) (by omega) (by omega)
              refine lv_iinc (v := i45_1) (lv' := [(2, .int i45_1), (1, .int w1), (0, .ref (a 0))]) hx hb dX10_findSwaps_45 hl (k := 0) rfl ei45_1 (by decide) rfl (fun ls hl => ?_)
              refine lv_goto (tgt := 13) hx hb dX10_findSwaps_48 (by decide) ?_
              exact ih _ (by omega) i45_1 w1 _ _ _ (by show 0 ≤ i45_1.toInt; omega) rfl (hP.sub [5, 0, 6, 1, 2, 3, 4] rfl) (hD.sub [5, 0, 6, 1, 2, 3, 4] (by decide) rfl) hS (lv_sub hl [0, 1, 2] rfl)
            · refine xz_i 0 er9 ?_
              refine lv_if_ne (tgt := 45) hx hb dX10_findSwaps_39 (by decide) (fun c => absurd (by decide) c) (fun _ => ?_)
              obtain ⟨i42, ei42⟩ : ∃ z : Int32, w1 + Int32.ofInt 1 = z := ⟨_, rfl⟩
              refine lv_iinc (v := i42) (lv' := [(1, .int i42), (2, .int w2), (0, .ref (a 0))]) hx hb dX10_findSwaps_42 hl (k := 1) rfl ei42 (by decide) rfl (fun ls hl => ?_)
              obtain ⟨i45_2, ei45_2⟩ : ∃ z : Int32, w2 + Int32.ofInt 1 = z := ⟨_, rfl⟩
              have ti45_2 : i45_2.toInt = w2.toInt + 1 := by rw [← ei45_2]; have h79 := xrng w2; exact xadd rfl (by decide) (by omega) (by omega)
              refine lv_iinc (v := i45_2) (lv' := [(2, .int i45_2), (1, .int i42), (0, .ref (a 0))]) hx hb dX10_findSwaps_45 hl (k := 1) rfl ei45_2 (by decide) rfl (fun ls hl => ?_)
              refine lv_goto (tgt := 13) hx hb dX10_findSwaps_48 (by decide) ?_
              exact ih _ (by omega) i45_2 i42 _ _ _ (by show 0 ≤ i45_2.toInt; omega) rfl (hP.sub [5, 0, 6, 1, 2, 3, 4] rfl) (hD.sub [5, 0, 6, 1, 2, 3, 4] (by decide) rfl) hS (lv_sub hl [0, 1, 2] rfl)
    exact lp _ (0 : Int32) (0 : Int32) _ _ _ (show 0 ≤ (0 : Int32).toInt by decide) rfl hP hD hS hl
  · refine xz_i 0 er9 ?_
    refine lv_if_ne (tgt := 9) hx hb dX10_findSwaps_4 (by decide) (fun c => absurd (by decide) c) (fun _ => ?_)
    refine lv_iconst (v := (-1)) hx hb dX10_findSwaps_7 (by decide) ?_
    have hP9 := hP.sub (ws' := [((a 0), .inr (10, [.ref (a 1), .ref (a 4), .ref (a 2), .ref (ex 0), .int (vi 0)])), ((a 1), .inr (7, [.int (vi 1), .int (vi 2), .ref (ex 1), .ref (ex 2), .ref (ex 3), .ref (ex 4), .ref (ex 5), .ref (ex 6), .ref (ex 7), .ref (a 3), .ref (ex 8), .ref (ex 9)])), ((a 2), .inl (T 1, 9, .inl (fik 0))), ((a 3), .inl (T 1, 9, .inl (fi 1))), ((a 4), .inr (2, [.ref (a 1), .int (vi 3), .int (vi 4), .int (vi 5), .int (vi 6), .int (vi 7), .int (vi 8), .ref (a 6), .ref (ex 10), .ref (ex 11), .ref (a 5), .ref (ex 12), .ref (ex 13), .ref (ex 14), .ref (ex 15)])), ((a 5), .inl (T 1, 9, .inl (fi 2))), ((a 6), .inl (T 1, 9, .inl (fi 3)))]) [0, 1, 2, 3, 4, 5, 6] rfl
    have hD9 := hD.sub (ws' := [((a 0), .inr (10, [.ref (a 1), .ref (a 4), .ref (a 2), .ref (ex 0), .int (vi 0)])), ((a 1), .inr (7, [.int (vi 1), .int (vi 2), .ref (ex 1), .ref (ex 2), .ref (ex 3), .ref (ex 4), .ref (ex 5), .ref (ex 6), .ref (ex 7), .ref (a 3), .ref (ex 8), .ref (ex 9)])), ((a 2), .inl (T 1, 9, .inl (fik 0))), ((a 3), .inl (T 1, 9, .inl (fi 1))), ((a 4), .inr (2, [.ref (a 1), .int (vi 3), .int (vi 4), .int (vi 5), .int (vi 6), .int (vi 7), .int (vi 8), .ref (a 6), .ref (ex 10), .ref (ex 11), .ref (a 5), .ref (ex 12), .ref (ex 13), .ref (ex 14), .ref (ex 15)])), ((a 5), .inl (T 1, 9, .inl (fi 2))), ((a 6), .inl (T 1, 9, .inl (fi 3)))]) [0, 1, 2, 3, 4, 5, 6] (by decide +kernel) rfl
    rw [hQ]
    exact W.iret (v := (-1)) hx hb hr (fun t ht hW => ⟨⟨(-1), (-1), rfl, rfl, xf [(fik 0)], xh [], xv [], xl [], by rw [ht]; exact hP9, hD9, ⟨(show rg (fik 0) 0 9 (-1) 8 from gk_1), trivial⟩⟩, hS.F ht⟩) hS.2.2 dX10_findSwaps_8
abbrev pre_X11_swaps (T : Nat → ClassId) (a ex : Nat → Nat) (fi : Nat → Nat → Int32) (fl : Nat → Nat → Int64) (vi : Nat → Int32) (vl : Nat → Int64) : va_W := [((a 0), .inr (11, [.ref (ex 0), .ref (a 2), .ref (ex 1), .ref (ex 2), .ref (a 5), .ref (ex 3), .ref (ex 4), .ref (ex 5), .ref (ex 6), .ref (ex 7), .ref (a 1), .ref (ex 8), .ref (ex 9), .ref (ex 10), .int (vi 0)])), ((a 1), .inr (10, [.ref (a 2), .ref (a 5), .ref (a 3), .ref (ex 11), .int (vi 1)])), ((a 2), .inr (7, [.int (vi 2), .int (vi 3), .ref (ex 12), .ref (ex 13), .ref (ex 14), .ref (ex 15), .ref (ex 16), .ref (ex 17), .ref (ex 18), .ref (a 4), .ref (ex 19), .ref (ex 20)])), ((a 3), .inl (T 1, 9, .inl (fi 0))), ((a 4), .inl (T 1, 9, .inl (fi 1))), ((a 5), .inr (2, [.ref (a 2), .int (vi 4), .int (vi 5), .int (vi 6), .int (vi 7), .int (vi 8), .int (vi 9), .ref (a 7), .ref (ex 21), .ref (ex 22), .ref (a 6), .ref (ex 23), .ref (ex 24), .ref (ex 25), .ref (ex 26)])), ((a 6), .inl (T 1, 9, .inl (fi 2))), ((a 7), .inl (T 1, 9, .inl (fi 3)))]
set_option maxHeartbeats 8000000 in
set_option maxRecDepth 100000 in
theorem c_X11_swaps (l : Launch) (D : va_G) (T : Nat → ClassId) (a ex : Nat → Nat) (fi : Nat → Nat → Int32) (fl : Nat → Nat → Int64) (vi : Nat → Int32) (vl : Nat → Int64) (sz : Nat) (hp0 : 0 ≤ (vi 2).toInt ∧ (vi 2).toInt ≤ 9) (hp1 : 0 ≤ (vi 3).toInt ∧ (vi 3).toInt ≤ 9) (hp2 : rg (fi 0) 0 9 (-1) 8) (hp3 : 0 ≤ (vi 4).toInt ∧ (vi 4).toInt ≤ 200) (hp4 : 0 ≤ (vi 9).toInt ∧ (vi 9).toInt ≤ 9) (hp5 : rg (fi 2) 0 9 (-1) 8) (hp6 : rg (fi 3) 0 9 (-1) 8) : Met l yX11_swaps (xw yX11_swaps cX11_swaps 1 (some .int)) ({ frames := 4, cells := 0, slots := 0, locals := 103 }) (xP D T [.ref (a 0)] sz (pre_X11_swaps T a ex fi fl vi vl)) (va_Qi (fun r u => r = u) (xC D (va_A (pre_X11_swaps T a ex fi fl vi vl) sz) (fun fj fm vj vm => [((a 0), .inr (11, [.ref (ex 0), .ref (a 2), .ref (ex 1), .ref (ex 2), .ref (a 5), .ref (ex 3), .ref (ex 4), .ref (ex 5), .ref (ex 6), .ref (ex 7), .ref (a 1), .ref (ex 8), .ref (ex 9), .ref (ex 10), .int (vi 0)])), ((a 1), .inr (10, [.ref (a 2), .ref (a 5), .ref (a 3), .ref (ex 11), .int (vi 1)])), ((a 2), .inr (7, [.int (vi 2), .int (vi 3), .ref (ex 12), .ref (ex 13), .ref (ex 14), .ref (ex 15), .ref (ex 16), .ref (ex 17), .ref (ex 18), .ref (a 4), .ref (ex 19), .ref (ex 20)])), ((a 3), .inl (T 1, 9, .inl (fj 0))), ((a 4), .inl (T 1, 9, .inl (fi 1))), ((a 5), .inr (2, [.ref (a 2), .int (vi 4), .int (vi 5), .int (vi 6), .int (vi 7), .int (vi 8), .int (vi 9), .ref (a 7), .ref (ex 21), .ref (ex 22), .ref (a 6), .ref (ex 23), .ref (ex 24), .ref (ex 25), .ref (ex 26)])), ((a 6), .inl (T 1, 9, .inl (fi 2))), ((a 7), .inl (T 1, 9, .inl (fi 3)))]) (fun (r : Int32) (fj : Nat → Nat → Int32) (fm : Nat → Nat → Int64) (vj : Nat → Int32) (vm : Nat → Int64) => rg (fj 0) 0 9 (-1) 8 ∧ True)) (va_A (pre_X11_swaps T a ex fi fl vi vl) sz)) 0 0 (va_A (pre_X11_swaps T a ex fi fl vi vl) sz) := by
  refine xofW (cc := cX11_swaps) (maxL := 1) (ret := (some .int)) (by decide) rfl ?_
  intro p e s m args below meth c s₁ R Q hR hQ B hml hv
  obtain ⟨rfl, hsz, hP, hK, hD0⟩ := hv
  have hx := B.exec
  have hb := B.bytes
  have hr := B.returns
  have hts := atoms_spec (ws := xw yX11_swaps cX11_swaps 1 (some .int)) B.pre
  have htg : ∀ w ∈ xg, w.before _ s = true := fun w h => hts w (List.mem_cons_of_mem _ h)
  have hown : s.vm.findClass RX11 = some m.cls := findClass_of_methodNamed B.named
  have hlocks := B.notSynchronized
  subst hsz
  have hD := hD0.self (sz := s.heap.size)
  generalize hAe : va_A (pre_X11_swaps T a ex fi fl vi vl) s.heap.size = A at hD hQ
  have hA : ∀ q : Nat, s.heap.size ≤ q → A q := fun q h => by rw [← hAe]; exact Or.inr h
  have hS : va_S A s.heap s.heap [] := va_S.rf
  replace hP : va_P D vwCl [((a 0), .inr (11, [.ref (ex 0), .ref (a 2), .ref (ex 1), .ref (ex 2), .ref (a 5), .ref (ex 3), .ref (ex 4), .ref (ex 5), .ref (ex 6), .ref (ex 7), .ref (a 1), .ref (ex 8), .ref (ex 9), .ref (ex 10), .int (vi 0)])), ((a 1), .inr (10, [.ref (a 2), .ref (a 5), .ref (a 3), .ref (ex 11), .int (vi 1)])), ((a 2), .inr (7, [.int (vi 2), .int (vi 3), .ref (ex 12), .ref (ex 13), .ref (ex 14), .ref (ex 15), .ref (ex 16), .ref (ex 17), .ref (ex 18), .ref (a 4), .ref (ex 19), .ref (ex 20)])), ((a 3), .inl (T 1, 9, .inl (fi 0))), ((a 4), .inl (T 1, 9, .inl (fi 1))), ((a 5), .inr (2, [.ref (a 2), .int (vi 4), .int (vi 5), .int (vi 6), .int (vi 7), .int (vi 8), .int (vi 9), .ref (a 7), .ref (ex 21), .ref (ex 22), .ref (a 6), .ref (ex 23), .ref (ex 24), .ref (ex 25), .ref (ex 26)])), ((a 6), .inl (T 1, 9, .inl (fi 2))), ((a 7), .inl (T 1, 9, .inl (fi 3)))] s.heap := hP
  replace hD : va_D A [((a 0), .inr (11, [.ref (ex 0), .ref (a 2), .ref (ex 1), .ref (ex 2), .ref (a 5), .ref (ex 3), .ref (ex 4), .ref (ex 5), .ref (ex 6), .ref (ex 7), .ref (a 1), .ref (ex 8), .ref (ex 9), .ref (ex 10), .int (vi 0)])), ((a 1), .inr (10, [.ref (a 2), .ref (a 5), .ref (a 3), .ref (ex 11), .int (vi 1)])), ((a 2), .inr (7, [.int (vi 2), .int (vi 3), .ref (ex 12), .ref (ex 13), .ref (ex 14), .ref (ex 15), .ref (ex 16), .ref (ex 17), .ref (ex 18), .ref (a 4), .ref (ex 19), .ref (ex 20)])), ((a 3), .inl (T 1, 9, .inl (fi 0))), ((a 4), .inl (T 1, 9, .inl (fi 1))), ((a 5), .inr (2, [.ref (a 2), .int (vi 4), .int (vi 5), .int (vi 6), .int (vi 7), .int (vi 8), .int (vi 9), .ref (a 7), .ref (ex 21), .ref (ex 22), .ref (a 6), .ref (ex 23), .ref (ex 24), .ref (ex 25), .ref (ex 26)])), ((a 6), .inl (T 1, 9, .inl (fi 2))), ((a 7), .inl (T 1, 9, .inl (fi 3)))] := hD
  have hl := lv_entry ([.ref (a 0)]) (n := 1) (Nat.le_of_ble_eq_true rfl)
  rw [lg_entry_eq]
  generalize (lg_sl ([.ref (a 0)]) ++ List.replicate (1 - (lg_sl ([.ref (a 0)])).length) Slot.unset).toArray = ls at hl ⊢
  replace hl : lv_has ls 1 [(0, .ref (a 0))] := hl
  refine lv_aload_n hx hb dX11_swaps_0 rfl (lv_at hl 0 rfl) ?_
  refine va_get (D := D) (ci := 11) (v := .ref (a 1)) (C := RX11) (T := TX11) (N := 15) hx hb htg inX11 hown hK.1 hP 0 rfl rfl 10 (by decide) (htg _ kw_506) (fun _ h9 => h9) rfl dX11_swaps_1 ?_
  obtain ⟨hC9, hPc, hDc, hFc⟩ := xcut (wc := (pre_X10_findSwaps T (xa [(a 1), (a 2), (a 3), (a 4), (a 5), (a 6), (a 7)]) (xa [(ex 11), (ex 12), (ex 13), (ex 14), (ex 15), (ex 16), (ex 17), (ex 18), (ex 19), (ex 20), (ex 21), (ex 22), (ex 23), (ex 24), (ex 25), (ex 26)]) (xf [(fi 0), (fi 1), (fi 2), (fi 3)]) (xh []) (xv [(vi 1), (vi 2), (vi 3), (vi 4), (vi 5), (vi 6), (vi 7), (vi 8), (vi 9)]) (xl []))) hP hD hS hA [1, 2, 3, 4, 5, 6, 7] (by decide) rfl
  refine va_calli (va_runVN (As := []) (rest := []) ⟨hx, hb, hml, hown, htg⟩ (c_X10_findSwaps l D T (xa [(a 1), (a 2), (a 3), (a 4), (a 5), (a 6), (a 7)]) (xa [(ex 11), (ex 12), (ex 13), (ex 14), (ex 15), (ex 16), (ex 17), (ex 18), (ex 19), (ex 20), (ex 21), (ex 22), (ex 23), (ex 24), (ex 25), (ex 26)]) (xf [(fi 0), (fi 1), (fi 2), (fi 3)]) (xh []) (xv [(vi 1), (vi 2), (vi 3), (vi 4), (vi 5), (vi 6), (vi 7), (vi 8), (vi 9)]) (xl []) s.heap.size hp0 hp1 (show rg (fi 0) 0 9 (-1) 8 from hp2) hp3 hp4 (show rg (fi 2) 0 9 (-1) 8 from hp5) (show rg (fi 3) 0 9 (-1) 8 from hp6)) ⟨va_cnB 0 htg (xg_ok kw_1007) rfl rfl rfl (hK.2.1 _ kn_1004) (htg _ kw_13) (by decide +kernel) ⟨by rw [hR]; exact Nat.le_of_ble_eq_true rfl, by rw [hR]; exact Nat.le_of_ble_eq_true rfl⟩, htg _ kw_1006, htg _ ks_80⟩ (xpreV hK hPc hDc (va_recv hK.1 hPc (ci := 10) (q0 := 0) rfl rfl)) rfl rfl hl.1 rfl (lv_room (Nat.le_of_ble_eq_true rfl)) dX11_swaps_4 ⟨by rw [hR]; exact Nat.le_of_ble_eq_true rfl, by rw [hR]; exact Nat.le_of_ble_eq_true rfl⟩) hS (fun q _ h => hFc q h) hFc (fun r9 u9 t H1 locs ht hvm hw hB hz1 hk1 hS => ?_)
  subst hw
  obtain ⟨fik, flk, vik, vlk, hP1, hD1, hG⟩ := hB
  rw [ht] at hP1
  obtain ⟨hP, hD⟩ := va_join (wr := [((a 0), .inr (11, [.ref (ex 0), .ref (a 2), .ref (ex 1), .ref (ex 2), .ref (a 5), .ref (ex 3), .ref (ex 4), .ref (ex 5), .ref (ex 6), .ref (ex 7), .ref (a 1), .ref (ex 8), .ref (ex 9), .ref (ex 10), .int (vi 0)]))]) (w1 := [((a 1), .inr (10, [.ref (a 2), .ref (a 5), .ref (a 3), .ref (ex 11), .int (vi 1)])), ((a 2), .inr (7, [.int (vi 2), .int (vi 3), .ref (ex 12), .ref (ex 13), .ref (ex 14), .ref (ex 15), .ref (ex 16), .ref (ex 17), .ref (ex 18), .ref (a 4), .ref (ex 19), .ref (ex 20)])), ((a 3), .inl (T 1, 9, .inl (fik 0))), ((a 4), .inl (T 1, 9, .inl (fi 1))), ((a 5), .inr (2, [.ref (a 2), .int (vi 4), .int (vi 5), .int (vi 6), .int (vi 7), .int (vi 8), .int (vi 9), .ref (a 7), .ref (ex 21), .ref (ex 22), .ref (a 6), .ref (ex 23), .ref (ex 24), .ref (ex 25), .ref (ex 26)])), ((a 6), .inl (T 1, 9, .inl (fi 2))), ((a 7), .inl (T 1, 9, .inl (fi 3)))]) hP hD [1, 2, 3, 4, 5, 6, 7] [0] hC9 rfl (by decide) (by decide) hk1 hFc hP1 hD1
  obtain ⟨rk, er9⟩ : ∃ z, z = r9 := ⟨_, rfl⟩
  subst er9
  clear hPc hDc hFc hP1 hD1 hk1 hz1 hvm ht hC9
  generalize H1 = H at hP hS ⊢
  obtain ⟨hP, hD⟩ := (show xPD D A [((a 0), .inr (11, [.ref (ex 0), .ref (a 2), .ref (ex 1), .ref (ex 2), .ref (a 5), .ref (ex 3), .ref (ex 4), .ref (ex 5), .ref (ex 6), .ref (ex 7), .ref (a 1), .ref (ex 8), .ref (ex 9), .ref (ex 10), .int (vi 0)])), ((a 1), .inr (10, [.ref (a 2), .ref (a 5), .ref (a 3), .ref (ex 11), .int (vi 1)])), ((a 2), .inr (7, [.int (vi 2), .int (vi 3), .ref (ex 12), .ref (ex 13), .ref (ex 14), .ref (ex 15), .ref (ex 16), .ref (ex 17), .ref (ex 18), .ref (a 4), .ref (ex 19), .ref (ex 20)])), ((a 3), .inl (T 1, 9, .inl (fik 0))), ((a 4), .inl (T 1, 9, .inl (fi 1))), ((a 5), .inr (2, [.ref (a 2), .int (vi 4), .int (vi 5), .int (vi 6), .int (vi 7), .int (vi 8), .int (vi 9), .ref (a 7), .ref (ex 21), .ref (ex 22), .ref (a 6), .ref (ex 23), .ref (ex 24), .ref (ex 25), .ref (ex 26)])), ((a 6), .inl (T 1, 9, .inl (fi 2))), ((a 7), .inl (T 1, 9, .inl (fi 3)))] H from ⟨hP, hD⟩)
  obtain ⟨gk_0, -⟩ := hG
  replace gk_0 : rg (fik 0) 0 9 (-1) 8 := gk_0
  have hP9 := hP.sub (ws' := [((a 0), .inr (11, [.ref (ex 0), .ref (a 2), .ref (ex 1), .ref (ex 2), .ref (a 5), .ref (ex 3), .ref (ex 4), .ref (ex 5), .ref (ex 6), .ref (ex 7), .ref (a 1), .ref (ex 8), .ref (ex 9), .ref (ex 10), .int (vi 0)])), ((a 1), .inr (10, [.ref (a 2), .ref (a 5), .ref (a 3), .ref (ex 11), .int (vi 1)])), ((a 2), .inr (7, [.int (vi 2), .int (vi 3), .ref (ex 12), .ref (ex 13), .ref (ex 14), .ref (ex 15), .ref (ex 16), .ref (ex 17), .ref (ex 18), .ref (a 4), .ref (ex 19), .ref (ex 20)])), ((a 3), .inl (T 1, 9, .inl (fik 0))), ((a 4), .inl (T 1, 9, .inl (fi 1))), ((a 5), .inr (2, [.ref (a 2), .int (vi 4), .int (vi 5), .int (vi 6), .int (vi 7), .int (vi 8), .int (vi 9), .ref (a 7), .ref (ex 21), .ref (ex 22), .ref (a 6), .ref (ex 23), .ref (ex 24), .ref (ex 25), .ref (ex 26)])), ((a 6), .inl (T 1, 9, .inl (fi 2))), ((a 7), .inl (T 1, 9, .inl (fi 3)))]) [0, 1, 2, 3, 4, 5, 6, 7] rfl
  have hD9 := hD.sub (ws' := [((a 0), .inr (11, [.ref (ex 0), .ref (a 2), .ref (ex 1), .ref (ex 2), .ref (a 5), .ref (ex 3), .ref (ex 4), .ref (ex 5), .ref (ex 6), .ref (ex 7), .ref (a 1), .ref (ex 8), .ref (ex 9), .ref (ex 10), .int (vi 0)])), ((a 1), .inr (10, [.ref (a 2), .ref (a 5), .ref (a 3), .ref (ex 11), .int (vi 1)])), ((a 2), .inr (7, [.int (vi 2), .int (vi 3), .ref (ex 12), .ref (ex 13), .ref (ex 14), .ref (ex 15), .ref (ex 16), .ref (ex 17), .ref (ex 18), .ref (a 4), .ref (ex 19), .ref (ex 20)])), ((a 3), .inl (T 1, 9, .inl (fik 0))), ((a 4), .inl (T 1, 9, .inl (fi 1))), ((a 5), .inr (2, [.ref (a 2), .int (vi 4), .int (vi 5), .int (vi 6), .int (vi 7), .int (vi 8), .int (vi 9), .ref (a 7), .ref (ex 21), .ref (ex 22), .ref (a 6), .ref (ex 23), .ref (ex 24), .ref (ex 25), .ref (ex 26)])), ((a 6), .inl (T 1, 9, .inl (fi 2))), ((a 7), .inl (T 1, 9, .inl (fi 3)))]) [0, 1, 2, 3, 4, 5, 6, 7] (by decide +kernel) rfl
  rw [hQ]
  exact W.iret (v := rk) hx hb hr (fun t ht hW => ⟨⟨rk, rk, rfl, rfl, xf [(fik 0)], xh [], xv [], xl [], by rw [ht]; exact hP9, hD9, ⟨(show rg (fik 0) 0 9 (-1) 8 from gk_0), trivial⟩⟩, hS.F ht⟩) hS.2.2 dX11_swaps_7
abbrev pre_X10_partnerOf (T : Nat → ClassId) (a ex : Nat → Nat) (fi : Nat → Nat → Int32) (fl : Nat → Nat → Int64) (vi : Nat → Int32) (vl : Nat → Int64) : va_W := [((a 0), .inr (10, [.ref (ex 0), .ref (ex 1), .ref (ex 2), .ref (a 1), .int (vi 1)])), ((a 1), .inl (T 1, 9, .inl (fi 0)))]
set_option maxHeartbeats 8000000 in
set_option maxRecDepth 100000 in
theorem c_X10_partnerOf (l : Launch) (D : va_G) (T : Nat → ClassId) (a ex : Nat → Nat) (fi : Nat → Nat → Int32) (fl : Nat → Nat → Int64) (vi : Nat → Int32) (vl : Nat → Int64) (sz : Nat) : Met l yX10_partnerOf (xw yX10_partnerOf cX10_partnerOf 2 (some .int)) ({ frames := 0, cells := 0, slots := 0, locals := 0 }) (xP D T [.ref (a 0), .int (vi 0)] sz (pre_X10_partnerOf T a ex fi fl vi vl)) (va_Qi (fun r u => r = u) (xC D (va_A (pre_X10_partnerOf T a ex fi fl vi vl) sz) (fun fj fm vj vm => [((a 0), .inr (10, [.ref (ex 0), .ref (ex 1), .ref (ex 2), .ref (a 1), .int (vi 1)])), ((a 1), .inl (T 1, 9, .inl (fi 0)))]) (fun (r : Int32) (fj : Nat → Nat → Int32) (fm : Nat → Nat → Int64) (vj : Nat → Int32) (vm : Nat → Int64) => True)) (va_A (pre_X10_partnerOf T a ex fi fl vi vl) sz)) 0 0 (va_A (pre_X10_partnerOf T a ex fi fl vi vl) sz) := by
  refine xofW (cc := cX10_partnerOf) (maxL := 2) (ret := (some .int)) (by decide) rfl ?_
  intro p e s m args below meth c s₁ R Q hR hQ B hml hv
  obtain ⟨rfl, hsz, hP, hK, hD0⟩ := hv
  have hx := B.exec
  have hb := B.bytes
  have hr := B.returns
  have hts := atoms_spec (ws := xw yX10_partnerOf cX10_partnerOf 2 (some .int)) B.pre
  have htg : ∀ w ∈ xg, w.before _ s = true := fun w h => hts w (List.mem_cons_of_mem _ h)
  have hown : s.vm.findClass RX10 = some m.cls := findClass_of_methodNamed B.named
  have hlocks := B.notSynchronized
  subst hsz
  have hD := hD0.self (sz := s.heap.size)
  generalize hAe : va_A (pre_X10_partnerOf T a ex fi fl vi vl) s.heap.size = A at hD hQ
  have hA : ∀ q : Nat, s.heap.size ≤ q → A q := fun q h => by rw [← hAe]; exact Or.inr h
  have hS : va_S A s.heap s.heap [] := va_S.rf
  replace hP : va_P D vwCl [((a 0), .inr (10, [.ref (ex 0), .ref (ex 1), .ref (ex 2), .ref (a 1), .int (vi 1)])), ((a 1), .inl (T 1, 9, .inl (fi 0)))] s.heap := hP
  replace hD : va_D A [((a 0), .inr (10, [.ref (ex 0), .ref (ex 1), .ref (ex 2), .ref (a 1), .int (vi 1)])), ((a 1), .inl (T 1, 9, .inl (fi 0)))] := hD
  have hl := lv_entry ([.ref (a 0), .int (vi 0)]) (n := 2) (Nat.le_of_ble_eq_true rfl)
  rw [lg_entry_eq]
  generalize (lg_sl ([.ref (a 0), .int (vi 0)]) ++ List.replicate (2 - (lg_sl ([.ref (a 0), .int (vi 0)])).length) Slot.unset).toArray = ls at hl ⊢
  replace hl : lv_has ls 2 [(0, .ref (a 0)), (1, .int (vi 0))] := hl
  refine lv_aload_n hx hb dX10_partnerOf_0 rfl (lv_at hl 0 rfl) ?_
  refine va_get (D := D) (ci := 10) (v := .int (vi 1)) (C := RX10) (T := TX10) (N := 5) hx hb htg inX10 hown hK.1 hP 0 rfl rfl 4 (by decide) (htg _ kw_420) (fun _ h9 => h9) rfl dX10_partnerOf_1 ?_
  refine lv_if_eq (tgt := 26) hx hb dX10_partnerOf_4 (by decide) (fun c4 => ?_) (fun c4 => ?_)
  · have c4 := xeq (k := 0) (by decide) c4
    refine lv_iconst (v := (-1)) hx hb dX10_partnerOf_26 (by decide) ?_
    have hP9 := hP.sub (ws' := [((a 0), .inr (10, [.ref (ex 0), .ref (ex 1), .ref (ex 2), .ref (a 1), .int (vi 1)])), ((a 1), .inl (T 1, 9, .inl (fi 0)))]) [0, 1] rfl
    have hD9 := hD.sub (ws' := [((a 0), .inr (10, [.ref (ex 0), .ref (ex 1), .ref (ex 2), .ref (a 1), .int (vi 1)])), ((a 1), .inl (T 1, 9, .inl (fi 0)))]) [0, 1] (by decide +kernel) rfl
    rw [hQ]
    exact W.iret (v := (-1)) hx hb hr (fun t ht hW => ⟨⟨(-1), (-1), rfl, rfl, xf [], xh [], xv [], xl [], by rw [ht]; exact hP9, hD9, trivial⟩, hS.F ht⟩) hS.2.2 dX10_partnerOf_27
  · have c4 := xne (k := 0) (by decide) c4
    refine lv_iload_n hx hb dX10_partnerOf_7 rfl (lv_at hl 1 rfl) ?_
    refine lv_if_lt (tgt := 26) hx hb dX10_partnerOf_8 (by decide) (fun c8 => ?_) (fun c8 => ?_)
    · have c8 := xlt (k := 0) (by decide) c8
      refine lv_iconst (v := (-1)) hx hb dX10_partnerOf_26 (by decide) ?_
      have hP9 := hP.sub (ws' := [((a 0), .inr (10, [.ref (ex 0), .ref (ex 1), .ref (ex 2), .ref (a 1), .int (vi 1)])), ((a 1), .inl (T 1, 9, .inl (fi 0)))]) [0, 1] rfl
      have hD9 := hD.sub (ws' := [((a 0), .inr (10, [.ref (ex 0), .ref (ex 1), .ref (ex 2), .ref (a 1), .int (vi 1)])), ((a 1), .inl (T 1, 9, .inl (fi 0)))]) [0, 1] (by decide +kernel) rfl
      rw [hQ]
      exact W.iret (v := (-1)) hx hb hr (fun t ht hW => ⟨⟨(-1), (-1), rfl, rfl, xf [], xh [], xv [], xl [], by rw [ht]; exact hP9, hD9, trivial⟩, hS.F ht⟩) hS.2.2 dX10_partnerOf_27
    · have c8 := xnlt (k := 0) (by decide) c8
      refine lv_iload_n hx hb dX10_partnerOf_11 rfl (lv_at hl 1 rfl) ?_
      refine lv_bipush (v := 9) hx hb dX10_partnerOf_12 (by decide) ?_
      refine lv_icmp_ge (tgt := 26) hx hb dX10_partnerOf_14 (by decide) (fun c14 => ?_) (fun c14 => ?_)
      · have c14 := xge (k := 9) (by decide) c14
        refine lv_iconst (v := (-1)) hx hb dX10_partnerOf_26 (by decide) ?_
        have hP9 := hP.sub (ws' := [((a 0), .inr (10, [.ref (ex 0), .ref (ex 1), .ref (ex 2), .ref (a 1), .int (vi 1)])), ((a 1), .inl (T 1, 9, .inl (fi 0)))]) [0, 1] rfl
        have hD9 := hD.sub (ws' := [((a 0), .inr (10, [.ref (ex 0), .ref (ex 1), .ref (ex 2), .ref (a 1), .int (vi 1)])), ((a 1), .inl (T 1, 9, .inl (fi 0)))]) [0, 1] (by decide +kernel) rfl
        rw [hQ]
        exact W.iret (v := (-1)) hx hb hr (fun t ht hW => ⟨⟨(-1), (-1), rfl, rfl, xf [], xh [], xv [], xl [], by rw [ht]; exact hP9, hD9, trivial⟩, hS.F ht⟩) hS.2.2 dX10_partnerOf_27
      · have c14 := xnge (k := 9) (by decide) c14
        refine lv_aload_n hx hb dX10_partnerOf_17 rfl (lv_at hl 0 rfl) ?_
        refine va_get (D := D) (ci := 10) (v := .ref (a 1)) (C := RX10) (T := TX10) (N := 5) hx hb htg inX10 hown hK.1 hP 0 rfl rfl 3 (by decide) (htg _ kw_419) (fun _ h9 => h9) rfl dX10_partnerOf_18 ?_
        refine lv_iload_n hx hb dX10_partnerOf_21 rfl (lv_at hl 1 rfl) ?_
        refine va_iald hx hb hK.1 hP 1 1 rfl rfl (vp_in_iff.mpr (by omega)) dX10_partnerOf_22 ?_
        refine lv_goto (tgt := 27) hx hb dX10_partnerOf_23 (by decide) ?_
        have hP9 := hP.sub (ws' := [((a 0), .inr (10, [.ref (ex 0), .ref (ex 1), .ref (ex 2), .ref (a 1), .int (vi 1)])), ((a 1), .inl (T 1, 9, .inl (fi 0)))]) [0, 1] rfl
        have hD9 := hD.sub (ws' := [((a 0), .inr (10, [.ref (ex 0), .ref (ex 1), .ref (ex 2), .ref (a 1), .int (vi 1)])), ((a 1), .inl (T 1, 9, .inl (fi 0)))]) [0, 1] (by decide +kernel) rfl
        rw [hQ]
        exact W.iret (v := ((fi 0) (vi 0).toNatClampNeg)) hx hb hr (fun t ht hW => ⟨⟨((fi 0) (vi 0).toNatClampNeg), ((fi 0) (vi 0).toNatClampNeg), rfl, rfl, xf [], xh [], xv [], xl [], by rw [ht]; exact hP9, hD9, trivial⟩, hS.F ht⟩) hS.2.2 dX10_partnerOf_27
abbrev pre_X11_partner (T : Nat → ClassId) (a ex : Nat → Nat) (fi : Nat → Nat → Int32) (fl : Nat → Nat → Int64) (vi : Nat → Int32) (vl : Nat → Int64) : va_W := [((a 0), .inr (11, [.ref (ex 0), .ref (a 1), .ref (ex 1), .ref (ex 2), .ref (ex 3), .ref (ex 4), .ref (ex 5), .ref (ex 6), .ref (ex 7), .ref (ex 8), .ref (a 2), .ref (ex 9), .ref (ex 10), .ref (ex 11), .int (vi 1)])), ((a 1), .inr (7, [.int (vi 2), .int (vi 3), .ref (ex 12), .ref (ex 13), .ref (ex 14), .ref (ex 15), .ref (ex 16), .ref (ex 17), .ref (ex 18), .ref (ex 19), .ref (ex 20), .ref (ex 21)])), ((a 2), .inr (10, [.ref (a 1), .ref (ex 3), .ref (ex 22), .ref (a 3), .int (vi 4)])), ((a 3), .inl (T 1, 9, .inl (fi 0)))]
set_option maxHeartbeats 8000000 in
set_option maxRecDepth 100000 in
theorem c_X11_partner (l : Launch) (D : va_G) (T : Nat → ClassId) (a ex : Nat → Nat) (fi : Nat → Nat → Int32) (fl : Nat → Nat → Int64) (vi : Nat → Int32) (vl : Nat → Int64) (sz : Nat) (hp0 : 0 ≤ (vi 2).toInt ∧ (vi 2).toInt ≤ 9) (hp1 : 0 ≤ (vi 3).toInt ∧ (vi 3).toInt ≤ 9) : Met l yX11_partner (xw yX11_partner cX11_partner 2 (some .int)) ({ frames := 1, cells := 0, slots := 0, locals := 25 }) (xP D T [.ref (a 0), .int (vi 0)] sz (pre_X11_partner T a ex fi fl vi vl)) (va_Qi (fun r u => r = u) (xC D (va_A (pre_X11_partner T a ex fi fl vi vl) sz) (fun fj fm vj vm => [((a 0), .inr (11, [.ref (ex 0), .ref (a 1), .ref (ex 1), .ref (ex 2), .ref (ex 3), .ref (ex 4), .ref (ex 5), .ref (ex 6), .ref (ex 7), .ref (ex 8), .ref (a 2), .ref (ex 9), .ref (ex 10), .ref (ex 11), .int (vi 1)])), ((a 1), .inr (7, [.int (vi 2), .int (vi 3), .ref (ex 12), .ref (ex 13), .ref (ex 14), .ref (ex 15), .ref (ex 16), .ref (ex 17), .ref (ex 18), .ref (ex 19), .ref (ex 20), .ref (ex 21)])), ((a 2), .inr (10, [.ref (a 1), .ref (ex 3), .ref (ex 22), .ref (a 3), .int (vi 4)])), ((a 3), .inl (T 1, 9, .inl (fi 0)))]) (fun (r : Int32) (fj : Nat → Nat → Int32) (fm : Nat → Nat → Int64) (vj : Nat → Int32) (vm : Nat → Int64) => True)) (va_A (pre_X11_partner T a ex fi fl vi vl) sz)) 0 0 (va_A (pre_X11_partner T a ex fi fl vi vl) sz) := by
  refine xofW (cc := cX11_partner) (maxL := 2) (ret := (some .int)) (by decide) rfl ?_
  intro p e s m args below meth c s₁ R Q hR hQ B hml hv
  obtain ⟨rfl, hsz, hP, hK, hD0⟩ := hv
  have hx := B.exec
  have hb := B.bytes
  have hr := B.returns
  have hts := atoms_spec (ws := xw yX11_partner cX11_partner 2 (some .int)) B.pre
  have htg : ∀ w ∈ xg, w.before _ s = true := fun w h => hts w (List.mem_cons_of_mem _ h)
  have hown : s.vm.findClass RX11 = some m.cls := findClass_of_methodNamed B.named
  have hlocks := B.notSynchronized
  subst hsz
  have hD := hD0.self (sz := s.heap.size)
  generalize hAe : va_A (pre_X11_partner T a ex fi fl vi vl) s.heap.size = A at hD hQ
  have hA : ∀ q : Nat, s.heap.size ≤ q → A q := fun q h => by rw [← hAe]; exact Or.inr h
  have hS : va_S A s.heap s.heap [] := va_S.rf
  replace hP : va_P D vwCl [((a 0), .inr (11, [.ref (ex 0), .ref (a 1), .ref (ex 1), .ref (ex 2), .ref (ex 3), .ref (ex 4), .ref (ex 5), .ref (ex 6), .ref (ex 7), .ref (ex 8), .ref (a 2), .ref (ex 9), .ref (ex 10), .ref (ex 11), .int (vi 1)])), ((a 1), .inr (7, [.int (vi 2), .int (vi 3), .ref (ex 12), .ref (ex 13), .ref (ex 14), .ref (ex 15), .ref (ex 16), .ref (ex 17), .ref (ex 18), .ref (ex 19), .ref (ex 20), .ref (ex 21)])), ((a 2), .inr (10, [.ref (a 1), .ref (ex 3), .ref (ex 22), .ref (a 3), .int (vi 4)])), ((a 3), .inl (T 1, 9, .inl (fi 0)))] s.heap := hP
  replace hD : va_D A [((a 0), .inr (11, [.ref (ex 0), .ref (a 1), .ref (ex 1), .ref (ex 2), .ref (ex 3), .ref (ex 4), .ref (ex 5), .ref (ex 6), .ref (ex 7), .ref (ex 8), .ref (a 2), .ref (ex 9), .ref (ex 10), .ref (ex 11), .int (vi 1)])), ((a 1), .inr (7, [.int (vi 2), .int (vi 3), .ref (ex 12), .ref (ex 13), .ref (ex 14), .ref (ex 15), .ref (ex 16), .ref (ex 17), .ref (ex 18), .ref (ex 19), .ref (ex 20), .ref (ex 21)])), ((a 2), .inr (10, [.ref (a 1), .ref (ex 3), .ref (ex 22), .ref (a 3), .int (vi 4)])), ((a 3), .inl (T 1, 9, .inl (fi 0)))] := hD
  have hl := lv_entry ([.ref (a 0), .int (vi 0)]) (n := 2) (Nat.le_of_ble_eq_true rfl)
  rw [lg_entry_eq]
  generalize (lg_sl ([.ref (a 0), .int (vi 0)]) ++ List.replicate (2 - (lg_sl ([.ref (a 0), .int (vi 0)])).length) Slot.unset).toArray = ls at hl ⊢
  replace hl : lv_has ls 2 [(0, .ref (a 0)), (1, .int (vi 0))] := hl
  refine lv_aload_n hx hb dX11_partner_0 rfl (lv_at hl 0 rfl) ?_
  refine va_get (D := D) (ci := 11) (v := .ref (a 1)) (C := RX11) (T := TX11) (N := 15) hx hb htg inX11 hown hK.1 hP 0 rfl rfl 1 (by decide) (htg _ kw_497) (fun _ h9 => h9) rfl dX11_partner_1 ?_
  refine lv_iload_n hx hb dX11_partner_4 rfl (lv_at hl 1 rfl) ?_
  obtain ⟨hC9, hPc, hDc, hFc⟩ := xcut (wc := (pre_X7_isSoul T (xa [(a 1)]) (xa [(ex 12), (ex 13), (ex 14), (ex 15), (ex 16), (ex 17), (ex 18), (ex 19), (ex 20), (ex 21)]) (xf []) (xh []) (xv [(vi 0), (vi 2), (vi 3)]) (xl []))) hP hD hS hA [1] (by decide) rfl
  refine va_calli (va_runVN (As := [.int (vi 0)]) (rest := []) ⟨hx, hb, hml, hown, htg⟩ (c_X7_isSoul l D T (xa [(a 1)]) (xa [(ex 12), (ex 13), (ex 14), (ex 15), (ex 16), (ex 17), (ex 18), (ex 19), (ex 20), (ex 21)]) (xf []) (xh []) (xv [(vi 0), (vi 2), (vi 3)]) (xl []) s.heap.size hp0 hp1) ⟨va_cnB 1 htg (xg_ok kw_664) rfl rfl rfl (hK.2.1 _ kn_764) (htg _ kw_7) (by decide +kernel) ⟨by rw [hR]; exact Nat.le_of_ble_eq_true rfl, by rw [hR]; exact Nat.le_of_ble_eq_true rfl⟩, htg _ kw_663, htg _ ks_25⟩ (xpreV hK hPc hDc (va_recv hK.1 hPc (ci := 7) (q0 := 0) rfl rfl)) rfl rfl hl.1 rfl (lv_room (Nat.le_of_ble_eq_true rfl)) dX11_partner_5 ⟨by rw [hR]; exact Nat.le_of_ble_eq_true rfl, by rw [hR]; exact Nat.le_of_ble_eq_true rfl⟩) hS (fun q _ h => hFc q h) hFc (fun r9 u9 t H1 locs ht hvm hw hB hz1 hk1 hS => ?_)
  subst hw
  obtain ⟨fik, flk, vik, vlk, hP1, hD1, hG⟩ := hB
  rw [ht] at hP1
  obtain ⟨hP, hD⟩ := va_join (wr := [((a 0), .inr (11, [.ref (ex 0), .ref (a 1), .ref (ex 1), .ref (ex 2), .ref (ex 3), .ref (ex 4), .ref (ex 5), .ref (ex 6), .ref (ex 7), .ref (ex 8), .ref (a 2), .ref (ex 9), .ref (ex 10), .ref (ex 11), .int (vi 1)])), ((a 2), .inr (10, [.ref (a 1), .ref (ex 3), .ref (ex 22), .ref (a 3), .int (vi 4)])), ((a 3), .inl (T 1, 9, .inl (fi 0)))]) (w1 := [((a 1), .inr (7, [.int (vi 2), .int (vi 3), .ref (ex 12), .ref (ex 13), .ref (ex 14), .ref (ex 15), .ref (ex 16), .ref (ex 17), .ref (ex 18), .ref (ex 19), .ref (ex 20), .ref (ex 21)]))]) hP hD [1] [0, 2, 3] hC9 rfl (by decide) (by decide) hk1 hFc hP1 hD1
  obtain ⟨rk, er9⟩ : ∃ z, z = r9 := ⟨_, rfl⟩
  subst er9
  clear hPc hDc hFc hP1 hD1 hk1 hz1 hvm ht hC9
  generalize H1 = H at hP hS ⊢
  obtain ⟨hP, hD⟩ := (show xPD D A [((a 0), .inr (11, [.ref (ex 0), .ref (a 1), .ref (ex 1), .ref (ex 2), .ref (ex 3), .ref (ex 4), .ref (ex 5), .ref (ex 6), .ref (ex 7), .ref (ex 8), .ref (a 2), .ref (ex 9), .ref (ex 10), .ref (ex 11), .int (vi 1)])), ((a 2), .inr (10, [.ref (a 1), .ref (ex 3), .ref (ex 22), .ref (a 3), .int (vi 4)])), ((a 3), .inl (T 1, 9, .inl (fi 0))), ((a 1), .inr (7, [.int (vi 2), .int (vi 3), .ref (ex 12), .ref (ex 13), .ref (ex 14), .ref (ex 15), .ref (ex 16), .ref (ex 17), .ref (ex 18), .ref (ex 19), .ref (ex 20), .ref (ex 21)]))] H from ⟨hP, hD⟩)
  obtain ⟨gk_0, -⟩ := hG
  rcases (show (rk = 1 ∧ (0 ≤ (vi 0).toInt ∧ (vi 0).toInt < (vi 3).toInt)) ∨ (rk = 0 ∧ (¬ (0 ≤ (vi 0).toInt ∧ (vi 0).toInt < (vi 3).toInt))) from gk_0) with ⟨er9, gk_0⟩ | ⟨er9, gk_0⟩
  · refine xz_i 1 er9 ?_
    refine lv_if_eq (tgt := 22) hx hb dX11_partner_8 (by decide) (fun c => absurd c (by decide)) (fun _ => ?_)
    refine lv_aload_n hx hb dX11_partner_11 rfl (lv_at hl 0 rfl) ?_
    refine va_get (D := D) (ci := 11) (v := .ref (a 2)) (C := RX11) (T := TX11) (N := 15) hx hb htg inX11 hown hK.1 hP 0 rfl rfl 10 (by decide) (htg _ kw_506) (fun _ h9 => h9) rfl dX11_partner_12 ?_
    refine lv_iload_n hx hb dX11_partner_15 rfl (lv_at hl 1 rfl) ?_
    obtain ⟨hC9, hPc, hDc, hFc⟩ := xcut (wc := (pre_X10_partnerOf T (xa [(a 2), (a 3)]) (xa [(a 1), (ex 3), (ex 22)]) (xf [(fi 0)]) (xh []) (xv [(vi 0), (vi 4)]) (xl []))) hP hD hS hA [1, 2] (by decide) rfl
    refine va_calli (va_runVN (As := [.int (vi 0)]) (rest := []) ⟨hx, hb, hml, hown, htg⟩ (c_X10_partnerOf l D T (xa [(a 2), (a 3)]) (xa [(a 1), (ex 3), (ex 22)]) (xf [(fi 0)]) (xh []) (xv [(vi 0), (vi 4)]) (xl []) H.size) ⟨va_cnB 1 htg (xg_ok kw_1019) rfl rfl rfl (hK.2.1 _ kn_1016) (htg _ kw_13) (by decide +kernel) ⟨by rw [hR]; exact Nat.le_of_ble_eq_true rfl, by rw [hR]; exact Nat.le_of_ble_eq_true rfl⟩, htg _ kw_1018, htg _ ks_82⟩ (xpreV hK hPc hDc (va_recv hK.1 hPc (ci := 10) (q0 := 0) rfl rfl)) rfl rfl hl.1 rfl (lv_room (Nat.le_of_ble_eq_true rfl)) dX11_partner_16 ⟨by rw [hR]; exact Nat.le_of_ble_eq_true rfl, by rw [hR]; exact Nat.le_of_ble_eq_true rfl⟩) hS (fun q _ h => hFc q h) hFc (fun r9 u9 t H1 locs ht hvm hw hB hz1 hk1 hS => ?_)
    subst hw
    obtain ⟨fik_1, flk_1, vik_1, vlk_1, hP1, hD1, hG⟩ := hB
    rw [ht] at hP1
    obtain ⟨hP, hD⟩ := va_join (wr := [((a 0), .inr (11, [.ref (ex 0), .ref (a 1), .ref (ex 1), .ref (ex 2), .ref (ex 3), .ref (ex 4), .ref (ex 5), .ref (ex 6), .ref (ex 7), .ref (ex 8), .ref (a 2), .ref (ex 9), .ref (ex 10), .ref (ex 11), .int (vi 1)])), ((a 1), .inr (7, [.int (vi 2), .int (vi 3), .ref (ex 12), .ref (ex 13), .ref (ex 14), .ref (ex 15), .ref (ex 16), .ref (ex 17), .ref (ex 18), .ref (ex 19), .ref (ex 20), .ref (ex 21)]))]) (w1 := [((a 2), .inr (10, [.ref (a 1), .ref (ex 3), .ref (ex 22), .ref (a 3), .int (vi 4)])), ((a 3), .inl (T 1, 9, .inl (fi 0)))]) hP hD [1, 2] [0, 3] hC9 rfl (by decide) (by decide) hk1 hFc hP1 hD1
    obtain ⟨rk_1, er9⟩ : ∃ z, z = r9 := ⟨_, rfl⟩
    subst er9
    clear hPc hDc hFc hP1 hD1 hk1 hz1 hvm ht hC9
    generalize H1 = H at hP hS ⊢
    obtain ⟨hP, hD⟩ := (show xPD D A [((a 0), .inr (11, [.ref (ex 0), .ref (a 1), .ref (ex 1), .ref (ex 2), .ref (ex 3), .ref (ex 4), .ref (ex 5), .ref (ex 6), .ref (ex 7), .ref (ex 8), .ref (a 2), .ref (ex 9), .ref (ex 10), .ref (ex 11), .int (vi 1)])), ((a 1), .inr (7, [.int (vi 2), .int (vi 3), .ref (ex 12), .ref (ex 13), .ref (ex 14), .ref (ex 15), .ref (ex 16), .ref (ex 17), .ref (ex 18), .ref (ex 19), .ref (ex 20), .ref (ex 21)])), ((a 2), .inr (10, [.ref (a 1), .ref (ex 3), .ref (ex 22), .ref (a 3), .int (vi 4)])), ((a 3), .inl (T 1, 9, .inl (fi 0)))] H from ⟨hP, hD⟩)
    clear hG
    refine lv_goto (tgt := 23) hx hb dX11_partner_19 (by decide) ?_
    have hP9 := hP.sub (ws' := [((a 0), .inr (11, [.ref (ex 0), .ref (a 1), .ref (ex 1), .ref (ex 2), .ref (ex 3), .ref (ex 4), .ref (ex 5), .ref (ex 6), .ref (ex 7), .ref (ex 8), .ref (a 2), .ref (ex 9), .ref (ex 10), .ref (ex 11), .int (vi 1)])), ((a 1), .inr (7, [.int (vi 2), .int (vi 3), .ref (ex 12), .ref (ex 13), .ref (ex 14), .ref (ex 15), .ref (ex 16), .ref (ex 17), .ref (ex 18), .ref (ex 19), .ref (ex 20), .ref (ex 21)])), ((a 2), .inr (10, [.ref (a 1), .ref (ex 3), .ref (ex 22), .ref (a 3), .int (vi 4)])), ((a 3), .inl (T 1, 9, .inl (fi 0)))]) [0, 1, 2, 3] rfl
    have hD9 := hD.sub (ws' := [((a 0), .inr (11, [.ref (ex 0), .ref (a 1), .ref (ex 1), .ref (ex 2), .ref (ex 3), .ref (ex 4), .ref (ex 5), .ref (ex 6), .ref (ex 7), .ref (ex 8), .ref (a 2), .ref (ex 9), .ref (ex 10), .ref (ex 11), .int (vi 1)])), ((a 1), .inr (7, [.int (vi 2), .int (vi 3), .ref (ex 12), .ref (ex 13), .ref (ex 14), .ref (ex 15), .ref (ex 16), .ref (ex 17), .ref (ex 18), .ref (ex 19), .ref (ex 20), .ref (ex 21)])), ((a 2), .inr (10, [.ref (a 1), .ref (ex 3), .ref (ex 22), .ref (a 3), .int (vi 4)])), ((a 3), .inl (T 1, 9, .inl (fi 0)))]) [0, 1, 2, 3] (by decide +kernel) rfl
    rw [hQ]
    exact W.iret (v := rk_1) hx hb hr (fun t ht hW => ⟨⟨rk_1, rk_1, rfl, rfl, xf [], xh [], xv [], xl [], by rw [ht]; exact hP9, hD9, trivial⟩, hS.F ht⟩) hS.2.2 dX11_partner_23
  · refine xz_i 0 er9 ?_
    refine lv_if_eq (tgt := 22) hx hb dX11_partner_8 (by decide) (fun _ => ?_) (fun c => absurd (by decide) c)
    refine lv_iconst (v := (-1)) hx hb dX11_partner_22 (by decide) ?_
    have hP9 := hP.sub (ws' := [((a 0), .inr (11, [.ref (ex 0), .ref (a 1), .ref (ex 1), .ref (ex 2), .ref (ex 3), .ref (ex 4), .ref (ex 5), .ref (ex 6), .ref (ex 7), .ref (ex 8), .ref (a 2), .ref (ex 9), .ref (ex 10), .ref (ex 11), .int (vi 1)])), ((a 1), .inr (7, [.int (vi 2), .int (vi 3), .ref (ex 12), .ref (ex 13), .ref (ex 14), .ref (ex 15), .ref (ex 16), .ref (ex 17), .ref (ex 18), .ref (ex 19), .ref (ex 20), .ref (ex 21)])), ((a 2), .inr (10, [.ref (a 1), .ref (ex 3), .ref (ex 22), .ref (a 3), .int (vi 4)])), ((a 3), .inl (T 1, 9, .inl (fi 0)))]) [0, 3, 1, 2] rfl
    have hD9 := hD.sub (ws' := [((a 0), .inr (11, [.ref (ex 0), .ref (a 1), .ref (ex 1), .ref (ex 2), .ref (ex 3), .ref (ex 4), .ref (ex 5), .ref (ex 6), .ref (ex 7), .ref (ex 8), .ref (a 2), .ref (ex 9), .ref (ex 10), .ref (ex 11), .int (vi 1)])), ((a 1), .inr (7, [.int (vi 2), .int (vi 3), .ref (ex 12), .ref (ex 13), .ref (ex 14), .ref (ex 15), .ref (ex 16), .ref (ex 17), .ref (ex 18), .ref (ex 19), .ref (ex 20), .ref (ex 21)])), ((a 2), .inr (10, [.ref (a 1), .ref (ex 3), .ref (ex 22), .ref (a 3), .int (vi 4)])), ((a 3), .inl (T 1, 9, .inl (fi 0)))]) [0, 3, 1, 2] (by decide +kernel) rfl
    rw [hQ]
    exact W.iret (v := (-1)) hx hb hr (fun t ht hW => ⟨⟨(-1), (-1), rfl, rfl, xf [], xh [], xv [], xl [], by rw [ht]; exact hP9, hD9, trivial⟩, hS.F ht⟩) hS.2.2 dX11_partner_23
abbrev pre_X3_findBidder (T : Nat → ClassId) (a ex : Nat → Nat) (fi : Nat → Nat → Int32) (fl : Nat → Nat → Int64) (vi : Nat → Int32) (vl : Nat → Int64) : va_W := [((a 0), .inr (3, [.ref (a 3), .ref (a 1), .int (vi 1), .int (vi 2), .int (vi 3)])), ((a 1), .inr (2, [.ref (a 3), .int (vi 4), .int (vi 5), .int (vi 6), .int (vi 7), .int (vi 8), .int (vi 9), .ref (ex 0), .ref (ex 1), .ref (ex 2), .ref (ex 3), .ref (a 5), .ref (ex 4), .ref (a 2), .ref (ex 5)])), ((a 2), .inl (T 1, 9, .inl (fi 0))), ((a 3), .inr (7, [.int (vi 10), .int (vi 11), .ref (ex 6), .ref (ex 7), .ref (ex 8), .ref (ex 9), .ref (ex 10), .ref (ex 11), .ref (ex 12), .ref (ex 13), .ref (ex 14), .ref (a 4)])), ((a 4), .inl (T 1, 81, .inl (fi 1))), ((a 5), .inl (T 1, 9, .inl (fi 2)))]
set_option maxHeartbeats 8000000 in
set_option maxRecDepth 100000 in
theorem c_X3_findBidder (l : Launch) (D : va_G) (T : Nat → ClassId) (a ex : Nat → Nat) (fi : Nat → Nat → Int32) (fl : Nat → Nat → Int64) (vi : Nat → Int32) (vl : Nat → Int64) (sz : Nat) (hp0 : 0 ≤ (vi 0).toInt ∧ (vi 0).toInt ≤ 8) (hp1 : 0 ≤ (vi 4).toInt ∧ (vi 4).toInt ≤ 200) (hp2 : 0 ≤ (vi 9).toInt ∧ (vi 9).toInt ≤ 9) (hp3 : rg (fi 0) 0 9 0 8) (hp4 : 0 ≤ (vi 10).toInt ∧ (vi 10).toInt ≤ 9) (hp5 : 0 ≤ (vi 11).toInt ∧ (vi 11).toInt ≤ 9) : Met l yX3_findBidder (xw yX3_findBidder cX3_findBidder 8 (some .int)) ({ frames := 2, cells := 0, slots := 0, locals := 60 }) (xP D T [.ref (a 0), .int (vi 0)] sz (pre_X3_findBidder T a ex fi fl vi vl)) (va_Qi (fun r u => r = u) (xC D (va_A (pre_X3_findBidder T a ex fi fl vi vl) sz) (fun fj fm vj vm => [((a 0), .inr (3, [.ref (a 3), .ref (a 1), .int (vj 0), .int (vi 2), .int (vi 3)])), ((a 1), .inr (2, [.ref (a 3), .int (vi 4), .int (vi 5), .int (vi 6), .int (vi 7), .int (vi 8), .int (vi 9), .ref (ex 0), .ref (ex 1), .ref (ex 2), .ref (ex 3), .ref (a 5), .ref (ex 4), .ref (a 2), .ref (ex 5)])), ((a 2), .inl (T 1, 9, .inl (fi 0))), ((a 3), .inr (7, [.int (vi 10), .int (vi 11), .ref (ex 6), .ref (ex 7), .ref (ex 8), .ref (ex 9), .ref (ex 10), .ref (ex 11), .ref (ex 12), .ref (ex 13), .ref (ex 14), .ref (a 4)])), ((a 4), .inl (T 1, 81, .inl (fi 1))), ((a 5), .inl (T 1, 9, .inl (fi 2)))]) (fun (r : Int32) (fj : Nat → Nat → Int32) (fm : Nat → Nat → Int64) (vj : Nat → Int32) (vm : Nat → Int64) => True)) (va_A (pre_X3_findBidder T a ex fi fl vi vl) sz)) 0 0 (va_A (pre_X3_findBidder T a ex fi fl vi vl) sz) := by
  refine xofW (cc := cX3_findBidder) (maxL := 8) (ret := (some .int)) (by decide) rfl ?_
  intro p e s m args below meth c s₁ R Q hR hQ B hml hv
  obtain ⟨rfl, hsz, hP, hK, hD0⟩ := hv
  have hx := B.exec
  have hb := B.bytes
  have hr := B.returns
  have hts := atoms_spec (ws := xw yX3_findBidder cX3_findBidder 8 (some .int)) B.pre
  have htg : ∀ w ∈ xg, w.before _ s = true := fun w h => hts w (List.mem_cons_of_mem _ h)
  have hown : s.vm.findClass RX3 = some m.cls := findClass_of_methodNamed B.named
  have hlocks := B.notSynchronized
  subst hsz
  have hD := hD0.self (sz := s.heap.size)
  generalize hAe : va_A (pre_X3_findBidder T a ex fi fl vi vl) s.heap.size = A at hD hQ
  have hA : ∀ q : Nat, s.heap.size ≤ q → A q := fun q h => by rw [← hAe]; exact Or.inr h
  have hS : va_S A s.heap s.heap [] := va_S.rf
  replace hP : va_P D vwCl [((a 0), .inr (3, [.ref (a 3), .ref (a 1), .int (vi 1), .int (vi 2), .int (vi 3)])), ((a 1), .inr (2, [.ref (a 3), .int (vi 4), .int (vi 5), .int (vi 6), .int (vi 7), .int (vi 8), .int (vi 9), .ref (ex 0), .ref (ex 1), .ref (ex 2), .ref (ex 3), .ref (a 5), .ref (ex 4), .ref (a 2), .ref (ex 5)])), ((a 2), .inl (T 1, 9, .inl (fi 0))), ((a 3), .inr (7, [.int (vi 10), .int (vi 11), .ref (ex 6), .ref (ex 7), .ref (ex 8), .ref (ex 9), .ref (ex 10), .ref (ex 11), .ref (ex 12), .ref (ex 13), .ref (ex 14), .ref (a 4)])), ((a 4), .inl (T 1, 81, .inl (fi 1))), ((a 5), .inl (T 1, 9, .inl (fi 2)))] s.heap := hP
  replace hD : va_D A [((a 0), .inr (3, [.ref (a 3), .ref (a 1), .int (vi 1), .int (vi 2), .int (vi 3)])), ((a 1), .inr (2, [.ref (a 3), .int (vi 4), .int (vi 5), .int (vi 6), .int (vi 7), .int (vi 8), .int (vi 9), .ref (ex 0), .ref (ex 1), .ref (ex 2), .ref (ex 3), .ref (a 5), .ref (ex 4), .ref (a 2), .ref (ex 5)])), ((a 2), .inl (T 1, 9, .inl (fi 0))), ((a 3), .inr (7, [.int (vi 10), .int (vi 11), .ref (ex 6), .ref (ex 7), .ref (ex 8), .ref (ex 9), .ref (ex 10), .ref (ex 11), .ref (ex 12), .ref (ex 13), .ref (ex 14), .ref (a 4)])), ((a 4), .inl (T 1, 81, .inl (fi 1))), ((a 5), .inl (T 1, 9, .inl (fi 2)))] := hD
  have hl := lv_entry ([.ref (a 0), .int (vi 0)]) (n := 8) (Nat.le_of_ble_eq_true rfl)
  rw [lg_entry_eq]
  generalize (lg_sl ([.ref (a 0), .int (vi 0)]) ++ List.replicate (8 - (lg_sl ([.ref (a 0), .int (vi 0)])).length) Slot.unset).toArray = ls at hl ⊢
  replace hl : lv_has ls 8 [(0, .ref (a 0)), (1, .int (vi 0))] := hl
  refine lv_iconst (v := (-1)) hx hb dX3_findBidder_0 (by decide) ?_
  refine lv_istore_n (lv' := [(2, .int (-1)), (0, .ref (a 0)), (1, .int (vi 0))]) hx hb dX3_findBidder_1 rfl hl (by decide) rfl (fun ls hl => ?_)
  refine lv_iconst (v := 0) hx hb dX3_findBidder_2 (by decide) ?_
  refine lv_istore_n (lv' := [(3, .int 0), (2, .int (-1)), (0, .ref (a 0)), (1, .int (vi 0))]) hx hb dX3_findBidder_3 rfl hl (by decide) rfl (fun ls hl => ?_)
  refine lv_aload_n hx hb dX3_findBidder_4 rfl (lv_at hl 2 rfl) ?_
  refine lv_iconst (v := 0) hx hb dX3_findBidder_5 (by decide) ?_
  refine va_put (D := D) (ci := 3) (v := .int 0) (ty := .int) (C := RX3) (T := TX3) (N := 5) hx hb htg inX3 tyX3 tyX3_ok nmX3 hown hK.1 hP hD hS 0 rfl rfl 2 (by decide) (htg _ kw_440) (fun _ h9 => h9) rfl (by decide +kernel) rfl rfl (Nat.le_of_ble_eq_true rfl) dX3_findBidder_6 (fun H locs hP hD hS => ?_)
  obtain ⟨hP, hD⟩ := (show xPD D A [((a 0), .inr (3, [.ref (a 3), .ref (a 1), .int 0, .int (vi 2), .int (vi 3)])), ((a 1), .inr (2, [.ref (a 3), .int (vi 4), .int (vi 5), .int (vi 6), .int (vi 7), .int (vi 8), .int (vi 9), .ref (ex 0), .ref (ex 1), .ref (ex 2), .ref (ex 3), .ref (a 5), .ref (ex 4), .ref (a 2), .ref (ex 5)])), ((a 2), .inl (T 1, 9, .inl (fi 0))), ((a 3), .inr (7, [.int (vi 10), .int (vi 11), .ref (ex 6), .ref (ex 7), .ref (ex 8), .ref (ex 9), .ref (ex 10), .ref (ex 11), .ref (ex 12), .ref (ex 13), .ref (ex 14), .ref (a 4)])), ((a 4), .inl (T 1, 81, .inl (fi 1))), ((a 5), .inl (T 1, 9, .inl (fi 2)))] H from ⟨hP, hD⟩)
  refine lv_iconst (v := 0) hx hb dX3_findBidder_9 (by decide) ?_
  refine lv_istore (lv' := [(4, .int 0), (3, .int 0), (2, .int (-1)), (0, .ref (a 0)), (1, .int (vi 0))]) hx hb dX3_findBidder_10 hl (by decide) rfl (fun ls hl => ?_)
  have lp : ∀ (kn : Nat) (w4 : Int32) (w3 : Int32) (w2 : Int32) (wv : Int32) (H : Heap) (locs : List Loc) (ls : Array Slot), (0 ≤ w4.toInt) → (2147483648 - w4.toInt).toNat = kn → va_P D vwCl [((a 0), .inr (3, [.ref (a 3), .ref (a 1), .int wv, .int (vi 2), .int (vi 3)])), ((a 1), .inr (2, [.ref (a 3), .int (vi 4), .int (vi 5), .int (vi 6), .int (vi 7), .int (vi 8), .int (vi 9), .ref (ex 0), .ref (ex 1), .ref (ex 2), .ref (ex 3), .ref (a 5), .ref (ex 4), .ref (a 2), .ref (ex 5)])), ((a 2), .inl (T 1, 9, .inl (fi 0))), ((a 3), .inr (7, [.int (vi 10), .int (vi 11), .ref (ex 6), .ref (ex 7), .ref (ex 8), .ref (ex 9), .ref (ex 10), .ref (ex 11), .ref (ex 12), .ref (ex 13), .ref (ex 14), .ref (a 4)])), ((a 4), .inl (T 1, 81, .inl (fi 1))), ((a 5), .inl (T 1, 9, .inl (fi 2)))] H → va_D A [((a 0), .inr (3, [.ref (a 3), .ref (a 1), .int wv, .int (vi 2), .int (vi 3)])), ((a 1), .inr (2, [.ref (a 3), .int (vi 4), .int (vi 5), .int (vi 6), .int (vi 7), .int (vi 8), .int (vi 9), .ref (ex 0), .ref (ex 1), .ref (ex 2), .ref (ex 3), .ref (a 5), .ref (ex 4), .ref (a 2), .ref (ex 5)])), ((a 2), .inl (T 1, 9, .inl (fi 0))), ((a 3), .inr (7, [.int (vi 10), .int (vi 11), .ref (ex 6), .ref (ex 7), .ref (ex 8), .ref (ex 9), .ref (ex 10), .ref (ex 11), .ref (ex 12), .ref (ex 13), .ref (ex 14), .ref (a 4)])), ((a 4), .inl (T 1, 81, .inl (fi 1))), ((a 5), .inl (T 1, 9, .inl (fi 2)))] → va_S A s.heap H locs → lv_has ls 8 [(4, .int w4), (3, .int w3), (2, .int w2), (0, .ref (a 0)), (1, .int (vi 0))] → W p l e R s m ([.ref (a 0), .int (vi 0)] : List Value).toArray below meth c H locs 0 0 Q (F0 m 12 ls []) := by
    intro kn
    induction kn using Nat.strongRecOn with
    | _ kn ih =>
      intro w4 w3 w2 wv H locs ls hi hm hP hD hS hl
      refine lv_iload hx hb dX3_findBidder_12 (lv_at hl 0 rfl) ?_
      refine lv_aload_n hx hb dX3_findBidder_14 rfl (lv_at hl 3 rfl) ?_
      refine va_get (D := D) (ci := 3) (v := .ref (a 1)) (C := RX3) (T := TX3) (N := 5) hx hb htg inX3 hown hK.1 hP 0 rfl rfl 1 (by decide) (htg _ kw_439) (fun _ h9 => h9) rfl dX3_findBidder_15 ?_
      refine va_getN (D := D) (ci := 2) (v := .int (vi 9)) (C := RX2) (T := TX2) (N := 15) hx hb htg inX2 hown hK.1 hP 1 rfl rfl 6 (by decide) (va_Nw.use rfl (hK.2.1 _ kn_256)) (fun _ h9 => h9) rfl dX3_findBidder_18 ?_
      refine lv_icmp_ge (tgt := 114) hx hb dX3_findBidder_21 (by decide) (fun c21 => ?_) (fun c21 => ?_)
      · have c21 := Int32.le_iff_toInt_le.mp c21
        have rc21 := xrng w4; have qc21 := xrng (vi 9)
        refine lv_iload_n hx hb dX3_findBidder_114 rfl (lv_at hl 2 rfl) ?_
        have hP9 := hP.sub (ws' := [((a 0), .inr (3, [.ref (a 3), .ref (a 1), .int wv, .int (vi 2), .int (vi 3)])), ((a 1), .inr (2, [.ref (a 3), .int (vi 4), .int (vi 5), .int (vi 6), .int (vi 7), .int (vi 8), .int (vi 9), .ref (ex 0), .ref (ex 1), .ref (ex 2), .ref (ex 3), .ref (a 5), .ref (ex 4), .ref (a 2), .ref (ex 5)])), ((a 2), .inl (T 1, 9, .inl (fi 0))), ((a 3), .inr (7, [.int (vi 10), .int (vi 11), .ref (ex 6), .ref (ex 7), .ref (ex 8), .ref (ex 9), .ref (ex 10), .ref (ex 11), .ref (ex 12), .ref (ex 13), .ref (ex 14), .ref (a 4)])), ((a 4), .inl (T 1, 81, .inl (fi 1))), ((a 5), .inl (T 1, 9, .inl (fi 2)))]) [0, 1, 2, 3, 4, 5] rfl
        have hD9 := hD.sub (ws' := [((a 0), .inr (3, [.ref (a 3), .ref (a 1), .int wv, .int (vi 2), .int (vi 3)])), ((a 1), .inr (2, [.ref (a 3), .int (vi 4), .int (vi 5), .int (vi 6), .int (vi 7), .int (vi 8), .int (vi 9), .ref (ex 0), .ref (ex 1), .ref (ex 2), .ref (ex 3), .ref (a 5), .ref (ex 4), .ref (a 2), .ref (ex 5)])), ((a 2), .inl (T 1, 9, .inl (fi 0))), ((a 3), .inr (7, [.int (vi 10), .int (vi 11), .ref (ex 6), .ref (ex 7), .ref (ex 8), .ref (ex 9), .ref (ex 10), .ref (ex 11), .ref (ex 12), .ref (ex 13), .ref (ex 14), .ref (a 4)])), ((a 4), .inl (T 1, 81, .inl (fi 1))), ((a 5), .inl (T 1, 9, .inl (fi 2)))]) [0, 1, 2, 3, 4, 5] (by decide +kernel) rfl
        rw [hQ]
        exact W.iret (v := w2) hx hb hr (fun t ht hW => ⟨⟨w2, w2, rfl, rfl, xf [], xh [], xv [wv], xl [], by rw [ht]; exact hP9, hD9, trivial⟩, hS.F ht⟩) hS.2.2 dX3_findBidder_115
      · have c21 := (mt Int32.le_iff_toInt_le.mpr c21)
        have rc21 := xrng w4; have qc21 := xrng (vi 9)
        refine lv_aload_n hx hb dX3_findBidder_24 rfl (lv_at hl 3 rfl) ?_
        refine va_get (D := D) (ci := 3) (v := .ref (a 1)) (C := RX3) (T := TX3) (N := 5) hx hb htg inX3 hown hK.1 hP 0 rfl rfl 1 (by decide) (htg _ kw_439) (fun _ h9 => h9) rfl dX3_findBidder_25 ?_
        refine va_getN (D := D) (ci := 2) (v := .ref (a 2)) (C := RX2) (T := TX2) (N := 15) hx hb htg inX2 hown hK.1 hP 1 rfl rfl 13 (by decide) (va_Nw.use rfl (hK.2.1 _ kn_279)) (fun _ h9 => h9) rfl dX3_findBidder_28 ?_
        refine lv_iload hx hb dX3_findBidder_31 (lv_at hl 0 rfl) ?_
        refine va_iald hx hb hK.1 hP 2 1 rfl rfl (vp_in_iff.mpr (by omega)) dX3_findBidder_33 ?_
        have hv := rg_at hp3 (i := w4) (by omega) (by omega)
        refine lv_istore (lv' := [(5, .int ((fi 0) w4.toNatClampNeg)), (4, .int w4), (3, .int w3), (2, .int w2), (0, .ref (a 0)), (1, .int (vi 0))]) hx hb dX3_findBidder_34 hl (by decide) rfl (fun ls hl => ?_)
        refine lv_aload_n hx hb dX3_findBidder_36 rfl (lv_at hl 4 rfl) ?_
        refine va_get (D := D) (ci := 3) (v := .ref (a 3)) (C := RX3) (T := TX3) (N := 5) hx hb htg inX3 hown hK.1 hP 0 rfl rfl 0 (by decide) (htg _ kw_438) (fun _ h9 => h9) rfl dX3_findBidder_37 ?_
        refine lv_iload hx hb dX3_findBidder_40 (lv_at hl 0 rfl) ?_
        refine lv_iload_n hx hb dX3_findBidder_42 rfl (lv_at hl 5 rfl) ?_
        obtain ⟨hC9, hPc, hDc, hFc⟩ := xcut (wc := (pre_X7_worthOf T (xa [(a 3), (a 4)]) (xa [(ex 6), (ex 7), (ex 8), (ex 9), (ex 10), (ex 11), (ex 12), (ex 13), (ex 14)]) (xf [(fi 1)]) (xh []) (xv [((fi 0) w4.toNatClampNeg), (vi 0), (vi 10), (vi 11)]) (xl []))) hP hD hS hA [3, 4] (by decide) rfl
        refine va_calli (va_runVN (As := [.int ((fi 0) w4.toNatClampNeg), .int (vi 0)]) (rest := []) ⟨hx, hb, hml, hown, htg⟩ (c_X7_worthOf l D T (xa [(a 3), (a 4)]) (xa [(ex 6), (ex 7), (ex 8), (ex 9), (ex 10), (ex 11), (ex 12), (ex 13), (ex 14)]) (xf [(fi 1)]) (xh []) (xv [((fi 0) w4.toNatClampNeg), (vi 0), (vi 10), (vi 11)]) (xl []) H.size hp4 hp5) ⟨va_cnB 2 htg (xg_ok kw_678) rfl rfl rfl (hK.2.1 _ kn_1028) (htg _ kw_7) (by decide +kernel) ⟨by rw [hR]; exact Nat.le_of_ble_eq_true rfl, by rw [hR]; exact Nat.le_of_ble_eq_true rfl⟩, htg _ kw_677, htg _ ks_28⟩ (xpreV hK hPc hDc (va_recv hK.1 hPc (ci := 7) (q0 := 0) rfl rfl)) rfl rfl hl.1 rfl (lv_room (Nat.le_of_ble_eq_true rfl)) dX3_findBidder_43 ⟨by rw [hR]; exact Nat.le_of_ble_eq_true rfl, by rw [hR]; exact Nat.le_of_ble_eq_true rfl⟩) hS (fun q _ h => hFc q h) hFc (fun r9 u9 t H1 locs ht hvm hw hB hz1 hk1 hS => ?_)
        subst hw
        obtain ⟨fik, flk, vik, vlk, hP1, hD1, hG⟩ := hB
        rw [ht] at hP1
        obtain ⟨hP, hD⟩ := va_join (wr := [((a 0), .inr (3, [.ref (a 3), .ref (a 1), .int wv, .int (vi 2), .int (vi 3)])), ((a 1), .inr (2, [.ref (a 3), .int (vi 4), .int (vi 5), .int (vi 6), .int (vi 7), .int (vi 8), .int (vi 9), .ref (ex 0), .ref (ex 1), .ref (ex 2), .ref (ex 3), .ref (a 5), .ref (ex 4), .ref (a 2), .ref (ex 5)])), ((a 2), .inl (T 1, 9, .inl (fi 0))), ((a 5), .inl (T 1, 9, .inl (fi 2)))]) (w1 := [((a 3), .inr (7, [.int (vi 10), .int (vi 11), .ref (ex 6), .ref (ex 7), .ref (ex 8), .ref (ex 9), .ref (ex 10), .ref (ex 11), .ref (ex 12), .ref (ex 13), .ref (ex 14), .ref (a 4)])), ((a 4), .inl (T 1, 81, .inl (fi 1)))]) hP hD [3, 4] [0, 1, 2, 5] hC9 rfl (by decide) (by decide) hk1 hFc hP1 hD1
        obtain ⟨rk, er9⟩ : ∃ z, z = r9 := ⟨_, rfl⟩
        subst er9
        clear hPc hDc hFc hP1 hD1 hk1 hz1 hvm ht hC9
        generalize H1 = H at hP hS ⊢
        obtain ⟨hP, hD⟩ := (show xPD D A [((a 0), .inr (3, [.ref (a 3), .ref (a 1), .int wv, .int (vi 2), .int (vi 3)])), ((a 1), .inr (2, [.ref (a 3), .int (vi 4), .int (vi 5), .int (vi 6), .int (vi 7), .int (vi 8), .int (vi 9), .ref (ex 0), .ref (ex 1), .ref (ex 2), .ref (ex 3), .ref (a 5), .ref (ex 4), .ref (a 2), .ref (ex 5)])), ((a 2), .inl (T 1, 9, .inl (fi 0))), ((a 5), .inl (T 1, 9, .inl (fi 2))), ((a 3), .inr (7, [.int (vi 10), .int (vi 11), .ref (ex 6), .ref (ex 7), .ref (ex 8), .ref (ex 9), .ref (ex 10), .ref (ex 11), .ref (ex 12), .ref (ex 13), .ref (ex 14), .ref (a 4)])), ((a 4), .inl (T 1, 81, .inl (fi 1)))] H from ⟨hP, hD⟩)
        obtain ⟨gk_0, -⟩ := hG
        replace gk_0 : DJ (0 ≤ ((fi 0) w4.toNatClampNeg).toInt ∧ ((fi 0) w4.toNatClampNeg).toInt < (vi 11).toInt ∧ 0 ≤ (vi 0).toInt ∧ (vi 0).toInt < (vi 10).toInt ∧ rk = (fi 1) (9 * (((fi 0) w4.toNatClampNeg).toInt).toNat + ((vi 0).toInt).toNat)) (¬ (0 ≤ ((fi 0) w4.toNatClampNeg).toInt ∧ ((fi 0) w4.toNatClampNeg).toInt < (vi 11).toInt ∧ 0 ≤ (vi 0).toInt ∧ (vi 0).toInt < (vi 10).toInt) ∧ rk.toInt = 0) := (P_X7_worthOf gk_0 : _)
        refine lv_istore (lv' := [(6, .int rk), (5, .int ((fi 0) w4.toNatClampNeg)), (4, .int w4), (3, .int w3), (2, .int w2), (0, .ref (a 0)), (1, .int (vi 0))]) hx hb dX3_findBidder_46 hl (by decide) rfl (fun ls hl => ?_)
        refine lv_iload hx hb dX3_findBidder_48 (lv_at hl 0 rfl) ?_
        refine lv_if_le (tgt := 108) hx hb dX3_findBidder_50 (by decide) (fun c50 => ?_) (fun c50 => ?_)
        · have c50 := xle (k := 0) (by decide) c50
          obtain ⟨i108, ei108⟩ : ∃ z : Int32, w4 + Int32.ofInt 1 = z := ⟨_, rfl⟩
          have ti108 : i108.toInt = w4.toInt + 1 := by rw [← ei108]; have h79 := xrng w4; exact xadd rfl (by decide) (by omega) (by omega)
          refine lv_iinc (v := i108) (lv' := [(4, .int i108), (6, .int rk), (5, .int ((fi 0) w4.toNatClampNeg)), (3, .int w3), (2, .int w2), (0, .ref (a 0)), (1, .int (vi 0))]) hx hb dX3_findBidder_108 hl (k := 2) rfl ei108 (by decide) rfl (fun ls hl => ?_)
          refine lv_goto (tgt := 12) hx hb dX3_findBidder_111 (by decide) ?_
          exact ih _ (by omega) i108 w3 w2 wv _ _ _ (by show 0 ≤ i108.toInt; omega) rfl (hP.sub [0, 1, 2, 4, 5, 3] rfl) (hD.sub [0, 1, 2, 4, 5, 3] (by decide) rfl) hS (lv_sub hl [0, 3, 4, 5, 6] rfl)
        · have c50 := xnle (k := 0) (by decide) c50
          refine lv_iload hx hb dX3_findBidder_53 (lv_at hl 0 rfl) ?_
          refine lv_aload_n hx hb dX3_findBidder_55 rfl (lv_at hl 5 rfl) ?_
          refine va_get (D := D) (ci := 3) (v := .ref (a 1)) (C := RX3) (T := TX3) (N := 5) hx hb htg inX3 hown hK.1 hP 0 rfl rfl 1 (by decide) (htg _ kw_439) (fun _ h9 => h9) rfl dX3_findBidder_56 ?_
          refine va_getN (D := D) (ci := 2) (v := .ref (a 5)) (C := RX2) (T := TX2) (N := 15) hx hb htg inX2 hown hK.1 hP 1 rfl rfl 11 (by decide) (va_Nw.use rfl (hK.2.1 _ kn_272)) (fun _ h9 => h9) rfl dX3_findBidder_59 ?_
          refine lv_iload hx hb dX3_findBidder_62 (lv_at hl 1 rfl) ?_
          refine va_iald hx hb hK.1 hP 3 1 rfl rfl (vp_in_iff.mpr (by omega)) dX3_findBidder_64 ?_
          refine va_mmin hx hb (hml.trans hl.1.symm) hown (htg _ kw_1029) (htg _ kw_707) (htg _ kw_18) (htg _ kw_708) (by rw [hR]; exact Nat.le_of_ble_eq_true rfl) (by rw [hR]; exact Nat.le_of_ble_eq_true rfl) (by rw [hR]; exact Nat.le_of_ble_eq_true rfl) (by rw [hR]; exact Nat.le_of_ble_eq_true rfl) dX3_findBidder_65 ?_
          refine lv_topi (fun z65 ez65 => ?_)
          have tz65 : z65.toInt = min (rk.toInt) (((fi 2) ((fi 0) w4.toNatClampNeg).toNatClampNeg).toInt) := by rw [ez65]; exact xmin rfl rfl
          refine lv_istore (lv' := [(7, .int z65), (6, .int rk), (5, .int ((fi 0) w4.toNatClampNeg)), (4, .int w4), (3, .int w3), (2, .int w2), (0, .ref (a 0)), (1, .int (vi 0))]) hx hb dX3_findBidder_68 hl (by decide) rfl (fun ls hl => ?_)
          refine lv_iload_n hx hb dX3_findBidder_70 rfl (lv_at hl 5 rfl) ?_
          refine lv_iconst (v := (-1)) hx hb dX3_findBidder_71 (by decide) ?_
          refine lv_icmp_eq (tgt := 81) hx hb dX3_findBidder_72 (by decide) (fun c72 => ?_) (fun c72 => ?_)
          · have c72 := xeq (k := (-1)) (by decide) c72
            refine lv_aload_n hx hb dX3_findBidder_81 rfl (lv_at hl 6 rfl) ?_
            refine lv_iload_n hx hb dX3_findBidder_82 rfl (lv_at hl 4 rfl) ?_
            refine va_put (D := D) (ci := 3) (v := .int w3) (ty := .int) (C := RX3) (T := TX3) (N := 5) hx hb htg inX3 tyX3 tyX3_ok nmX3 hown hK.1 hP hD hS 0 rfl rfl 2 (by decide) (htg _ kw_440) (fun _ h9 => h9) rfl (by decide +kernel) rfl rfl (Nat.le_of_ble_eq_true rfl) dX3_findBidder_83 (fun H locs hP hD hS => ?_)
            obtain ⟨hP, hD⟩ := (show xPD D A [((a 0), .inr (3, [.ref (a 3), .ref (a 1), .int w3, .int (vi 2), .int (vi 3)])), ((a 1), .inr (2, [.ref (a 3), .int (vi 4), .int (vi 5), .int (vi 6), .int (vi 7), .int (vi 8), .int (vi 9), .ref (ex 0), .ref (ex 1), .ref (ex 2), .ref (ex 3), .ref (a 5), .ref (ex 4), .ref (a 2), .ref (ex 5)])), ((a 2), .inl (T 1, 9, .inl (fi 0))), ((a 5), .inl (T 1, 9, .inl (fi 2))), ((a 3), .inr (7, [.int (vi 10), .int (vi 11), .ref (ex 6), .ref (ex 7), .ref (ex 8), .ref (ex 9), .ref (ex 10), .ref (ex 11), .ref (ex 12), .ref (ex 13), .ref (ex 14), .ref (a 4)])), ((a 4), .inl (T 1, 81, .inl (fi 1)))] H from ⟨hP, hD⟩)
            refine lv_iload hx hb dX3_findBidder_86 (lv_at hl 0 rfl) ?_
            refine lv_istore_n (lv' := [(3, .int z65), (7, .int z65), (6, .int rk), (5, .int ((fi 0) w4.toNatClampNeg)), (4, .int w4), (2, .int w2), (0, .ref (a 0)), (1, .int (vi 0))]) hx hb dX3_findBidder_88 rfl hl (by decide) rfl (fun ls hl => ?_)
            refine lv_iload hx hb dX3_findBidder_89 (lv_at hl 3 rfl) ?_
            refine lv_istore_n (lv' := [(2, .int ((fi 0) w4.toNatClampNeg)), (3, .int z65), (7, .int z65), (6, .int rk), (5, .int ((fi 0) w4.toNatClampNeg)), (4, .int w4), (0, .ref (a 0)), (1, .int (vi 0))]) hx hb dX3_findBidder_91 rfl hl (by decide) rfl (fun ls hl => ?_)
            refine lv_goto (tgt := 108) hx hb dX3_findBidder_92 (by decide) ?_
            obtain ⟨i108_1, ei108_1⟩ : ∃ z : Int32, w4 + Int32.ofInt 1 = z := ⟨_, rfl⟩
            have ti108_1 : i108_1.toInt = w4.toInt + 1 := by rw [← ei108_1]; have h79 := xrng w4; exact xadd rfl (by decide) (by omega) (by omega)
            refine lv_iinc (v := i108_1) (lv' := [(4, .int i108_1), (2, .int ((fi 0) w4.toNatClampNeg)), (3, .int z65), (7, .int z65), (6, .int rk), (5, .int ((fi 0) w4.toNatClampNeg)), (0, .ref (a 0)), (1, .int (vi 0))]) hx hb dX3_findBidder_108 hl (k := 5) rfl ei108_1 (by decide) rfl (fun ls hl => ?_)
            refine lv_goto (tgt := 12) hx hb dX3_findBidder_111 (by decide) ?_
            exact ih _ (by omega) i108_1 z65 ((fi 0) w4.toNatClampNeg) w3 _ _ _ (by show 0 ≤ i108_1.toInt; omega) rfl (hP.sub [0, 1, 2, 4, 5, 3] rfl) (hD.sub [0, 1, 2, 4, 5, 3] (by decide) rfl) hS (lv_sub hl [0, 2, 1, 6, 7] rfl)
          · have c72 := xne (k := (-1)) (by decide) c72
            refine lv_iload hx hb dX3_findBidder_75 (lv_at hl 0 rfl) ?_
            refine lv_iload_n hx hb dX3_findBidder_77 rfl (lv_at hl 4 rfl) ?_
            refine lv_icmp_le (tgt := 95) hx hb dX3_findBidder_78 (by decide) (fun c78 => ?_) (fun c78 => ?_)
            · have c78 := Int32.le_iff_toInt_le.mp c78
              have rc78 := xrng z65; have qc78 := xrng w3
              refine lv_aload_n hx hb dX3_findBidder_95 rfl (lv_at hl 6 rfl) ?_
              refine lv_aload_n hx hb dX3_findBidder_96 rfl (lv_at hl 6 rfl) ?_
              refine va_get (D := D) (ci := 3) (v := .int wv) (C := RX3) (T := TX3) (N := 5) hx hb htg inX3 hown hK.1 hP 0 rfl rfl 2 (by decide) (htg _ kw_440) (fun _ h9 => h9) rfl dX3_findBidder_97 ?_
              refine lv_iload hx hb dX3_findBidder_100 (lv_at hl 0 rfl) ?_
              refine va_mmax hx hb (hml.trans hl.1.symm) hown (htg _ kw_1030) (htg _ kw_720) (htg _ kw_18) (htg _ kw_721) (by rw [hR]; exact Nat.le_of_ble_eq_true rfl) (by rw [hR]; exact Nat.le_of_ble_eq_true rfl) (by rw [hR]; exact Nat.le_of_ble_eq_true rfl) (by rw [hR]; exact Nat.le_of_ble_eq_true rfl) dX3_findBidder_102 ?_
              refine lv_topi (fun z102 ez102 => ?_)
              have tz102 : z102.toInt = max (wv.toInt) (z65.toInt) := by rw [ez102]; exact xmax rfl rfl
              refine va_put (D := D) (ci := 3) (v := .int z102) (ty := .int) (C := RX3) (T := TX3) (N := 5) hx hb htg inX3 tyX3 tyX3_ok nmX3 hown hK.1 hP hD hS 0 rfl rfl 2 (by decide) (htg _ kw_440) (fun _ h9 => h9) rfl (by decide +kernel) rfl rfl (Nat.le_of_ble_eq_true rfl) dX3_findBidder_105 (fun H locs hP hD hS => ?_)
              obtain ⟨hP, hD⟩ := (show xPD D A [((a 0), .inr (3, [.ref (a 3), .ref (a 1), .int z102, .int (vi 2), .int (vi 3)])), ((a 1), .inr (2, [.ref (a 3), .int (vi 4), .int (vi 5), .int (vi 6), .int (vi 7), .int (vi 8), .int (vi 9), .ref (ex 0), .ref (ex 1), .ref (ex 2), .ref (ex 3), .ref (a 5), .ref (ex 4), .ref (a 2), .ref (ex 5)])), ((a 2), .inl (T 1, 9, .inl (fi 0))), ((a 5), .inl (T 1, 9, .inl (fi 2))), ((a 3), .inr (7, [.int (vi 10), .int (vi 11), .ref (ex 6), .ref (ex 7), .ref (ex 8), .ref (ex 9), .ref (ex 10), .ref (ex 11), .ref (ex 12), .ref (ex 13), .ref (ex 14), .ref (a 4)])), ((a 4), .inl (T 1, 81, .inl (fi 1)))] H from ⟨hP, hD⟩)
              obtain ⟨i108_2, ei108_2⟩ : ∃ z : Int32, w4 + Int32.ofInt 1 = z := ⟨_, rfl⟩
              have ti108_2 : i108_2.toInt = w4.toInt + 1 := by rw [← ei108_2]; have h79 := xrng w4; exact xadd rfl (by decide) (by omega) (by omega)
              refine lv_iinc (v := i108_2) (lv' := [(4, .int i108_2), (7, .int z65), (6, .int rk), (5, .int ((fi 0) w4.toNatClampNeg)), (3, .int w3), (2, .int w2), (0, .ref (a 0)), (1, .int (vi 0))]) hx hb dX3_findBidder_108 hl (k := 3) rfl ei108_2 (by decide) rfl (fun ls hl => ?_)
              refine lv_goto (tgt := 12) hx hb dX3_findBidder_111 (by decide) ?_
              exact ih _ (by omega) i108_2 w3 w2 z102 _ _ _ (by show 0 ≤ i108_2.toInt; omega) rfl (hP.sub [0, 1, 2, 4, 5, 3] rfl) (hD.sub [0, 1, 2, 4, 5, 3] (by decide) rfl) hS (lv_sub hl [0, 4, 5, 6, 7] rfl)
            · have c78 := (mt Int32.le_iff_toInt_le.mpr c78)
              have rc78 := xrng z65; have qc78 := xrng w3
              refine lv_aload_n hx hb dX3_findBidder_81 rfl (lv_at hl 6 rfl) ?_
              refine lv_iload_n hx hb dX3_findBidder_82 rfl (lv_at hl 4 rfl) ?_
              refine va_put (D := D) (ci := 3) (v := .int w3) (ty := .int) (C := RX3) (T := TX3) (N := 5) hx hb htg inX3 tyX3 tyX3_ok nmX3 hown hK.1 hP hD hS 0 rfl rfl 2 (by decide) (htg _ kw_440) (fun _ h9 => h9) rfl (by decide +kernel) rfl rfl (Nat.le_of_ble_eq_true rfl) dX3_findBidder_83 (fun H locs hP hD hS => ?_)
              obtain ⟨hP, hD⟩ := (show xPD D A [((a 0), .inr (3, [.ref (a 3), .ref (a 1), .int w3, .int (vi 2), .int (vi 3)])), ((a 1), .inr (2, [.ref (a 3), .int (vi 4), .int (vi 5), .int (vi 6), .int (vi 7), .int (vi 8), .int (vi 9), .ref (ex 0), .ref (ex 1), .ref (ex 2), .ref (ex 3), .ref (a 5), .ref (ex 4), .ref (a 2), .ref (ex 5)])), ((a 2), .inl (T 1, 9, .inl (fi 0))), ((a 5), .inl (T 1, 9, .inl (fi 2))), ((a 3), .inr (7, [.int (vi 10), .int (vi 11), .ref (ex 6), .ref (ex 7), .ref (ex 8), .ref (ex 9), .ref (ex 10), .ref (ex 11), .ref (ex 12), .ref (ex 13), .ref (ex 14), .ref (a 4)])), ((a 4), .inl (T 1, 81, .inl (fi 1)))] H from ⟨hP, hD⟩)
              refine lv_iload hx hb dX3_findBidder_86 (lv_at hl 0 rfl) ?_
              refine lv_istore_n (lv' := [(3, .int z65), (7, .int z65), (6, .int rk), (5, .int ((fi 0) w4.toNatClampNeg)), (4, .int w4), (2, .int w2), (0, .ref (a 0)), (1, .int (vi 0))]) hx hb dX3_findBidder_88 rfl hl (by decide) rfl (fun ls hl => ?_)
              refine lv_iload hx hb dX3_findBidder_89 (lv_at hl 3 rfl) ?_
              refine lv_istore_n (lv' := [(2, .int ((fi 0) w4.toNatClampNeg)), (3, .int z65), (7, .int z65), (6, .int rk), (5, .int ((fi 0) w4.toNatClampNeg)), (4, .int w4), (0, .ref (a 0)), (1, .int (vi 0))]) hx hb dX3_findBidder_91 rfl hl (by decide) rfl (fun ls hl => ?_)
              refine lv_goto (tgt := 108) hx hb dX3_findBidder_92 (by decide) ?_
              obtain ⟨i108_3, ei108_3⟩ : ∃ z : Int32, w4 + Int32.ofInt 1 = z := ⟨_, rfl⟩
              have ti108_3 : i108_3.toInt = w4.toInt + 1 := by rw [← ei108_3]; have h79 := xrng w4; exact xadd rfl (by decide) (by omega) (by omega)
              refine lv_iinc (v := i108_3) (lv' := [(4, .int i108_3), (2, .int ((fi 0) w4.toNatClampNeg)), (3, .int z65), (7, .int z65), (6, .int rk), (5, .int ((fi 0) w4.toNatClampNeg)), (0, .ref (a 0)), (1, .int (vi 0))]) hx hb dX3_findBidder_108 hl (k := 5) rfl ei108_3 (by decide) rfl (fun ls hl => ?_)
              refine lv_goto (tgt := 12) hx hb dX3_findBidder_111 (by decide) ?_
              exact ih _ (by omega) i108_3 z65 ((fi 0) w4.toNatClampNeg) w3 _ _ _ (by show 0 ≤ i108_3.toInt; omega) rfl (hP.sub [0, 1, 2, 4, 5, 3] rfl) (hD.sub [0, 1, 2, 4, 5, 3] (by decide) rfl) hS (lv_sub hl [0, 2, 1, 6, 7] rfl)
  exact lp _ (0 : Int32) (0 : Int32) ((-1) : Int32) (0 : Int32) _ _ _ (show 0 ≤ (0 : Int32).toInt by decide) rfl hP hD hS hl
