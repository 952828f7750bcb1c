abbrev pre_X6_advance (T : Nat → ClassId) (a ex : Nat → Nat) (fi : Nat → Nat → Int32) (fl : Nat → Nat → Int64) (vi : Nat → Int32) (vl : Nat → Int64) : va_W := [((a 0), .inr (6, [.ref (a 1), .ref (ex 0), .int (vi 0), .int (vi 1), .int (vi 2), .int (vi 3), .int (vi 4), .int (vi 5), .long (vl 0), .int (vi 6), .int (vi 7), .int (vi 8), .int (vi 9), .int (vi 10)])), ((a 1), .inl (T 0, 940, .inl (fi 0)))]
set_option maxHeartbeats 8000000 in
set_option maxRecDepth 100000 in
theorem c_X6_advance (l : Launch) (D : va_G) (T : Nat → ClassId) (a ex : Nat → Nat) (fi : Nat → Nat → Int32) (fl : Nat → Nat → Int64) (vi : Nat → Int32) (vl : Nat → Int64) (sz : Nat) (hp0 : 0 ≤ (vi 1).toInt ∧ (vi 1).toInt ≤ 940) (hp1 : 0 ≤ (vi 2).toInt ∧ (vi 2).toInt ≤ 940) (hp2 : 0 ≤ (vi 3).toInt ∧ (vi 3).toInt ≤ 940) (hp3 : 0 ≤ (vi 5).toInt ∧ (vi 5).toInt ≤ 940) (hp4 : 0 ≤ (vi 10).toInt ∧ (vi 10).toInt ≤ 940) : Met l yX6_advance (xw yX6_advance cX6_advance 4 none) ({ frames := 0, cells := 0, slots := 0, locals := 0 }) (xP D T [.ref (a 0)] sz (pre_X6_advance T a ex fi fl vi vl)) (va_Qv (fun _ : Int32 => True) (xC D (va_A (pre_X6_advance T a ex fi fl vi vl) sz) (fun fj fm vj vm => [((a 0), .inr (6, [.ref (a 1), .ref (ex 0), .int (vi 0), .int (vi 1), .int (vi 2), .int (vj 4), .int (vj 0), .int (vj 1), .long (vm 0), .int (vj 3), .int (vj 2), .int (vi 8), .int (vi 9), .int (vi 10)])), ((a 1), .inl (T 0, 940, .inl (fi 0)))]) (fun (r : Int32) (fj : Nat → Nat → Int32) (fm : Nat → Nat → Int64) (vj : Nat → Int32) (vm : Nat → Int64) => (0 ≤ (vj 4).toInt ∧ (vj 4).toInt ≤ 940) ∧ (0 ≤ (vj 1).toInt ∧ (vj 1).toInt ≤ 940) ∧ R_X6_advance fi fl vi vl r fj fm vj vm ∧ True)) (va_A (pre_X6_advance T a ex fi fl vi vl) sz)) 0 0 (va_A (pre_X6_advance T a ex fi fl vi vl) sz) := by
  refine xofW (cc := cX6_advance) (maxL := 4) (ret := none) (by decide) rfl ?_
  intro p e s m args below meth c s₁ R Q hR hQ B hml hv
  obtain ⟨rfl, hsz, hP, hK, hD0⟩ := hv
  have hx := B.exec
  have hb := B.bytes
  have hr := B.returns
  have hts := atoms_spec (ws := xw yX6_advance cX6_advance 4 none) B.pre
  have htg : ∀ w ∈ xg, w.before _ s = true := fun w h => hts w (List.mem_cons_of_mem _ h)
  have hown : s.vm.findClass RX6 = some m.cls := findClass_of_methodNamed B.named
  have hlocks := B.notSynchronized
  subst hsz
  have hD := hD0.self (sz := s.heap.size)
  generalize hAe : va_A (pre_X6_advance T a ex fi fl vi vl) s.heap.size = A at hD hQ
  have hA : ∀ q : Nat, s.heap.size ≤ q → A q := fun q h => by rw [← hAe]; exact Or.inr h
  have hS : va_S A s.heap s.heap [] := va_S.rf
  replace hP : va_P D vwCl [((a 0), .inr (6, [.ref (a 1), .ref (ex 0), .int (vi 0), .int (vi 1), .int (vi 2), .int (vi 3), .int (vi 4), .int (vi 5), .long (vl 0), .int (vi 6), .int (vi 7), .int (vi 8), .int (vi 9), .int (vi 10)])), ((a 1), .inl (T 0, 940, .inl (fi 0)))] s.heap := hP
  replace hD : va_D A [((a 0), .inr (6, [.ref (a 1), .ref (ex 0), .int (vi 0), .int (vi 1), .int (vi 2), .int (vi 3), .int (vi 4), .int (vi 5), .long (vl 0), .int (vi 6), .int (vi 7), .int (vi 8), .int (vi 9), .int (vi 10)])), ((a 1), .inl (T 0, 940, .inl (fi 0)))] := hD
  have hl := lv_entry ([.ref (a 0)]) (n := 4) (Nat.le_of_ble_eq_true rfl)
  rw [lg_entry_eq]
  generalize (lg_sl ([.ref (a 0)]) ++ List.replicate (4 - (lg_sl ([.ref (a 0)])).length) Slot.unset).toArray = ls at hl ⊢
  replace hl : lv_has ls 4 [(0, .ref (a 0))] := hl
  have lp : ∀ (kn : Nat) (wv : Int32) (H : Heap) (locs : List Loc) (ls : Array Slot), (0 ≤ wv.toInt ∧ wv.toInt ≤ 940) → (skp (fi 0) (vi 1).toInt (vi 3).toInt (wv).toInt) → (2147483648 - (wv).toInt).toNat = kn → va_P D vwCl [((a 0), .inr (6, [.ref (a 1), .ref (ex 0), .int (vi 0), .int (vi 1), .int (vi 2), .int wv, .int (vi 4), .int (vi 5), .long (vl 0), .int (vi 6), .int (vi 7), .int (vi 8), .int (vi 9), .int (vi 10)])), ((a 1), .inl (T 0, 940, .inl (fi 0)))] H → va_D A [((a 0), .inr (6, [.ref (a 1), .ref (ex 0), .int (vi 0), .int (vi 1), .int (vi 2), .int wv, .int (vi 4), .int (vi 5), .long (vl 0), .int (vi 6), .int (vi 7), .int (vi 8), .int (vi 9), .int (vi 10)])), ((a 1), .inl (T 0, 940, .inl (fi 0)))] → va_S A s.heap H locs → lv_has ls 4 [(0, .ref (a 0))] → W p l e R s m ([.ref (a 0)] : List Value).toArray below meth c H locs 0 0 Q (F0 m 0 ls []) := by
    intro kn
    induction kn using Nat.strongRecOn with
    | _ kn ih =>
      intro wv H locs ls hi hsk9 hm hP hD hS hl
      have jn : ∀ (H : Heap) (locs : List Loc) (ls : Array Slot), (¬ ((wv).toInt < (vi 1).toInt ∧ tbl ((fi 0) (wv).toNatClampNeg).toInt)) → va_P D vwCl [((a 0), .inr (6, [.ref (a 1), .ref (ex 0), .int (vi 0), .int (vi 1), .int (vi 2), .int wv, .int (vi 4), .int (vi 5), .long (vl 0), .int (vi 6), .int (vi 7), .int (vi 8), .int (vi 9), .int (vi 10)])), ((a 1), .inl (T 0, 940, .inl (fi 0)))] H → va_D A [((a 0), .inr (6, [.ref (a 1), .ref (ex 0), .int (vi 0), .int (vi 1), .int (vi 2), .int wv, .int (vi 4), .int (vi 5), .long (vl 0), .int (vi 6), .int (vi 7), .int (vi 8), .int (vi 9), .int (vi 10)])), ((a 1), .inl (T 0, 940, .inl (fi 0)))] → va_S A s.heap H locs → lv_has ls 4 [(0, .ref (a 0))] → W p l e R s m ([.ref (a 0)] : List Value).toArray below meth c H locs 0 0 Q (F0 m 52 ls []) := by
        intro H locs ls hj hP hD hS hl
        refine lv_aload_n hx hb dX6_advance_52 rfl (lv_at hl 0 rfl) ?_
        refine va_get (D := D) (ci := 6) (v := .int wv) (C := RX6) (T := TX6) (N := 14) hx hb htg inX6 hown hK.1 hP 0 rfl rfl 5 (by decide) (htg _ kw_100) (fun _ h9 => h9) rfl dX6_advance_53 ?_
        refine lv_aload_n hx hb dX6_advance_56 rfl (lv_at hl 0 rfl) ?_
        refine va_get (D := D) (ci := 6) (v := .int (vi 1)) (C := RX6) (T := TX6) (N := 14) hx hb htg inX6 hown hK.1 hP 0 rfl rfl 3 (by decide) (htg _ kw_98) (fun _ h9 => h9) rfl dX6_advance_57 ?_
        refine lv_icmp_ge (tgt := 74) hx hb dX6_advance_60 (by decide) (fun c60 => ?_) (fun c60 => ?_)
        · have c60 := Int32.le_iff_toInt_le.mp c60
          have rc60 := xrng wv; have qc60 := xrng (vi 1)
          refine lv_aload_n hx hb dX6_advance_74 rfl (lv_at hl 0 rfl) ?_
          refine lv_aload_n hx hb dX6_advance_75 rfl (lv_at hl 0 rfl) ?_
          refine va_get (D := D) (ci := 6) (v := .int (vi 1)) (C := RX6) (T := TX6) (N := 14) hx hb htg inX6 hown hK.1 hP 0 rfl rfl 3 (by decide) (htg _ kw_98) (fun _ h9 => h9) rfl dX6_advance_76 ?_
          refine lv_aload_n hx hb dX6_advance_79 rfl (lv_at hl 0 rfl) ?_
          refine va_get (D := D) (ci := 6) (v := .int (vi 2)) (C := RX6) (T := TX6) (N := 14) hx hb htg inX6 hown hK.1 hP 0 rfl rfl 4 (by decide) (htg _ kw_99) (fun _ h9 => h9) rfl dX6_advance_80 ?_
          refine lv_icmp_le (tgt := 90) hx hb dX6_advance_83 (by decide) (fun c83 => ?_) (fun c83 => ?_)
          · have c83 := Int32.le_iff_toInt_le.mp c83
            have rc83 := xrng (vi 1); have qc83 := xrng (vi 2)
            refine lv_iconst (v := 0) hx hb dX6_advance_90 (by decide) ?_
            refine va_put (D := D) (ci := 6) (v := .int 0) (ty := .int) (C := RX6) (T := TX6) (N := 14) hx hb htg inX6 tyX6 tyX6_ok nmX6 hown hK.1 hP hD hS 0 rfl rfl 6 (by decide) (htg _ kw_104) (fun _ h9 => h9) rfl (by decide +kernel) rfl rfl (Nat.le_of_ble_eq_true rfl) dX6_advance_91 (fun H locs hP hD hS => ?_)
            obtain ⟨hP, hD⟩ := (show xPD D A [((a 0), .inr (6, [.ref (a 1), .ref (ex 0), .int (vi 0), .int (vi 1), .int (vi 2), .int wv, .int 0, .int (vi 5), .long (vl 0), .int (vi 6), .int (vi 7), .int (vi 8), .int (vi 9), .int (vi 10)])), ((a 1), .inl (T 0, 940, .inl (fi 0)))] H from ⟨hP, hD⟩)
            refine lv_aload_n hx hb dX6_advance_94 rfl (lv_at hl 0 rfl) ?_
            refine lv_aload_n hx hb dX6_advance_95 rfl (lv_at hl 0 rfl) ?_
            refine va_get (D := D) (ci := 6) (v := .int (vi 1)) (C := RX6) (T := TX6) (N := 14) hx hb htg inX6 hown hK.1 hP 0 rfl rfl 3 (by decide) (htg _ kw_98) (fun _ h9 => h9) rfl dX6_advance_96 ?_
            refine lv_aload_n hx hb dX6_advance_99 rfl (lv_at hl 0 rfl) ?_
            refine va_get (D := D) (ci := 6) (v := .int (vi 2)) (C := RX6) (T := TX6) (N := 14) hx hb htg inX6 hown hK.1 hP 0 rfl rfl 4 (by decide) (htg _ kw_99) (fun _ h9 => h9) rfl dX6_advance_100 ?_
            refine lv_icmp_le (tgt := 113) hx hb dX6_advance_103 (by decide) (fun c103 => ?_) (fun c103 => ?_)
            · have c103 := Int32.le_iff_toInt_le.mp c103
              have rc103 := xrng (vi 1); have qc103 := xrng (vi 2)
              refine lv_aload_n hx hb dX6_advance_113 rfl (lv_at hl 0 rfl) ?_
              refine va_get (D := D) (ci := 6) (v := .int (vi 1)) (C := RX6) (T := TX6) (N := 14) hx hb htg inX6 hown hK.1 hP 0 rfl rfl 3 (by decide) (htg _ kw_98) (fun _ h9 => h9) rfl dX6_advance_114 ?_
              refine va_put (D := D) (ci := 6) (v := .int (vi 1)) (ty := .int) (C := RX6) (T := TX6) (N := 14) hx hb htg inX6 tyX6 tyX6_ok nmX6 hown hK.1 hP hD hS 0 rfl rfl 7 (by decide) (htg _ kw_105) (fun _ h9 => h9) rfl (by decide +kernel) rfl rfl (Nat.le_of_ble_eq_true rfl) dX6_advance_117 (fun H locs hP hD hS => ?_)
              obtain ⟨hP, hD⟩ := (show xPD D A [((a 0), .inr (6, [.ref (a 1), .ref (ex 0), .int (vi 0), .int (vi 1), .int (vi 2), .int wv, .int 0, .int (vi 1), .long (vl 0), .int (vi 6), .int (vi 7), .int (vi 8), .int (vi 9), .int (vi 10)])), ((a 1), .inl (T 0, 940, .inl (fi 0)))] H from ⟨hP, hD⟩)
              have hP9 := hP.sub (ws' := [((a 0), .inr (6, [.ref (a 1), .ref (ex 0), .int (vi 0), .int (vi 1), .int (vi 2), .int wv, .int 0, .int (vi 1), .long (vl 0), .int (vi 6), .int (vi 7), .int (vi 8), .int (vi 9), .int (vi 10)])), ((a 1), .inl (T 0, 940, .inl (fi 0)))]) [0, 1] rfl
              have hD9 := hD.sub (ws' := [((a 0), .inr (6, [.ref (a 1), .ref (ex 0), .int (vi 0), .int (vi 1), .int (vi 2), .int wv, .int 0, .int (vi 1), .long (vl 0), .int (vi 6), .int (vi 7), .int (vi 8), .int (vi 9), .int (vi 10)])), ((a 1), .inl (T 0, 940, .inl (fi 0)))]) [0, 1] (by decide +kernel) rfl
              rw [hQ]
              exact W.vret hx hb hr (fun t ht hW => ⟨⟨(0 : Int32), rfl, trivial, xf [], xh [], xv [0, (vi 1), (vi 7), (vi 6), wv], xl [(vl 0)], by rw [ht]; exact hP9, hD9, ⟨hi, hp0, (by unfold R_X6_advance; exact (fun Q9 k9_0 k9_1 k9_2 k9_3 k9_4 k9_5 k9_6 k9_7 k9_8 k9_9 k9_10 k9_11 k9_12 k9_13 k9_14 k9_15 k9_16 k9_17 k9_18 => k9_0 hp0 hp1 hp2 hp3 hp4 wv hi hsk9 hj c60 c83 c103 rfl rfl rfl rfl rfl rfl)), trivial⟩⟩, hS.F ht⟩) hS.2.2 dX6_advance_120
            · have c103 := (mt Int32.le_iff_toInt_le.mpr c103)
              have rc103 := xrng (vi 1); have qc103 := xrng (vi 2)
              refine lv_aload_n hx hb dX6_advance_106 rfl (lv_at hl 0 rfl) ?_
              refine va_get (D := D) (ci := 6) (v := .int (vi 2)) (C := RX6) (T := TX6) (N := 14) hx hb htg inX6 hown hK.1 hP 0 rfl rfl 4 (by decide) (htg _ kw_99) (fun _ h9 => h9) rfl dX6_advance_107 ?_
              refine lv_goto (tgt := 117) hx hb dX6_advance_110 (by decide) ?_
              refine va_put (D := D) (ci := 6) (v := .int (vi 2)) (ty := .int) (C := RX6) (T := TX6) (N := 14) hx hb htg inX6 tyX6 tyX6_ok nmX6 hown hK.1 hP hD hS 0 rfl rfl 7 (by decide) (htg _ kw_105) (fun _ h9 => h9) rfl (by decide +kernel) rfl rfl (Nat.le_of_ble_eq_true rfl) dX6_advance_117 (fun H locs hP hD hS => ?_)
              obtain ⟨hP, hD⟩ := (show xPD D A [((a 0), .inr (6, [.ref (a 1), .ref (ex 0), .int (vi 0), .int (vi 1), .int (vi 2), .int wv, .int 0, .int (vi 2), .long (vl 0), .int (vi 6), .int (vi 7), .int (vi 8), .int (vi 9), .int (vi 10)])), ((a 1), .inl (T 0, 940, .inl (fi 0)))] H from ⟨hP, hD⟩)
              have hP9 := hP.sub (ws' := [((a 0), .inr (6, [.ref (a 1), .ref (ex 0), .int (vi 0), .int (vi 1), .int (vi 2), .int wv, .int 0, .int (vi 2), .long (vl 0), .int (vi 6), .int (vi 7), .int (vi 8), .int (vi 9), .int (vi 10)])), ((a 1), .inl (T 0, 940, .inl (fi 0)))]) [0, 1] rfl
              have hD9 := hD.sub (ws' := [((a 0), .inr (6, [.ref (a 1), .ref (ex 0), .int (vi 0), .int (vi 1), .int (vi 2), .int wv, .int 0, .int (vi 2), .long (vl 0), .int (vi 6), .int (vi 7), .int (vi 8), .int (vi 9), .int (vi 10)])), ((a 1), .inl (T 0, 940, .inl (fi 0)))]) [0, 1] (by decide +kernel) rfl
              rw [hQ]
              exact W.vret hx hb hr (fun t ht hW => ⟨⟨(0 : Int32), rfl, trivial, xf [], xh [], xv [0, (vi 2), (vi 7), (vi 6), wv], xl [(vl 0)], by rw [ht]; exact hP9, hD9, ⟨hi, hp1, (by unfold R_X6_advance; exact (fun Q9 k9_0 k9_1 k9_2 k9_3 k9_4 k9_5 k9_6 k9_7 k9_8 k9_9 k9_10 k9_11 k9_12 k9_13 k9_14 k9_15 k9_16 k9_17 k9_18 => k9_1 hp0 hp1 hp2 hp3 hp4 wv hi hsk9 hj c60 c83 c103 rfl rfl rfl rfl rfl rfl)), trivial⟩⟩, hS.F ht⟩) hS.2.2 dX6_advance_120
          · have c83 := (mt Int32.le_iff_toInt_le.mpr c83)
            have rc83 := xrng (vi 1); have qc83 := xrng (vi 2)
            refine lv_iconst (v := 4) hx hb dX6_advance_86 (by decide) ?_
            refine lv_goto (tgt := 91) hx hb dX6_advance_87 (by decide) ?_
            refine va_put (D := D) (ci := 6) (v := .int 4) (ty := .int) (C := RX6) (T := TX6) (N := 14) hx hb htg inX6 tyX6 tyX6_ok nmX6 hown hK.1 hP hD hS 0 rfl rfl 6 (by decide) (htg _ kw_104) (fun _ h9 => h9) rfl (by decide +kernel) rfl rfl (Nat.le_of_ble_eq_true rfl) dX6_advance_91 (fun H locs hP hD hS => ?_)
            obtain ⟨hP, hD⟩ := (show xPD D A [((a 0), .inr (6, [.ref (a 1), .ref (ex 0), .int (vi 0), .int (vi 1), .int (vi 2), .int wv, .int 4, .int (vi 5), .long (vl 0), .int (vi 6), .int (vi 7), .int (vi 8), .int (vi 9), .int (vi 10)])), ((a 1), .inl (T 0, 940, .inl (fi 0)))] H from ⟨hP, hD⟩)
            refine lv_aload_n hx hb dX6_advance_94 rfl (lv_at hl 0 rfl) ?_
            refine lv_aload_n hx hb dX6_advance_95 rfl (lv_at hl 0 rfl) ?_
            refine va_get (D := D) (ci := 6) (v := .int (vi 1)) (C := RX6) (T := TX6) (N := 14) hx hb htg inX6 hown hK.1 hP 0 rfl rfl 3 (by decide) (htg _ kw_98) (fun _ h9 => h9) rfl dX6_advance_96 ?_
            refine lv_aload_n hx hb dX6_advance_99 rfl (lv_at hl 0 rfl) ?_
            refine va_get (D := D) (ci := 6) (v := .int (vi 2)) (C := RX6) (T := TX6) (N := 14) hx hb htg inX6 hown hK.1 hP 0 rfl rfl 4 (by decide) (htg _ kw_99) (fun _ h9 => h9) rfl dX6_advance_100 ?_
            refine lv_icmp_le (tgt := 113) hx hb dX6_advance_103 (by decide) (fun c103_1 => ?_) (fun c103_1 => ?_)
            · have c103_1 := Int32.le_iff_toInt_le.mp c103_1
              have rc103_1 := xrng (vi 1); have qc103_1 := xrng (vi 2)
              refine lv_aload_n hx hb dX6_advance_113 rfl (lv_at hl 0 rfl) ?_
              refine va_get (D := D) (ci := 6) (v := .int (vi 1)) (C := RX6) (T := TX6) (N := 14) hx hb htg inX6 hown hK.1 hP 0 rfl rfl 3 (by decide) (htg _ kw_98) (fun _ h9 => h9) rfl dX6_advance_114 ?_
              refine va_put (D := D) (ci := 6) (v := .int (vi 1)) (ty := .int) (C := RX6) (T := TX6) (N := 14) hx hb htg inX6 tyX6 tyX6_ok nmX6 hown hK.1 hP hD hS 0 rfl rfl 7 (by decide) (htg _ kw_105) (fun _ h9 => h9) rfl (by decide +kernel) rfl rfl (Nat.le_of_ble_eq_true rfl) dX6_advance_117 (fun H locs hP hD hS => ?_)
              obtain ⟨hP, hD⟩ := (show xPD D A [((a 0), .inr (6, [.ref (a 1), .ref (ex 0), .int (vi 0), .int (vi 1), .int (vi 2), .int wv, .int 4, .int (vi 1), .long (vl 0), .int (vi 6), .int (vi 7), .int (vi 8), .int (vi 9), .int (vi 10)])), ((a 1), .inl (T 0, 940, .inl (fi 0)))] H from ⟨hP, hD⟩)
              have hP9 := hP.sub (ws' := [((a 0), .inr (6, [.ref (a 1), .ref (ex 0), .int (vi 0), .int (vi 1), .int (vi 2), .int wv, .int 4, .int (vi 1), .long (vl 0), .int (vi 6), .int (vi 7), .int (vi 8), .int (vi 9), .int (vi 10)])), ((a 1), .inl (T 0, 940, .inl (fi 0)))]) [0, 1] rfl
              have hD9 := hD.sub (ws' := [((a 0), .inr (6, [.ref (a 1), .ref (ex 0), .int (vi 0), .int (vi 1), .int (vi 2), .int wv, .int 4, .int (vi 1), .long (vl 0), .int (vi 6), .int (vi 7), .int (vi 8), .int (vi 9), .int (vi 10)])), ((a 1), .inl (T 0, 940, .inl (fi 0)))]) [0, 1] (by decide +kernel) rfl
              rw [hQ]
              exact W.vret hx hb hr (fun t ht hW => ⟨⟨(0 : Int32), rfl, trivial, xf [], xh [], xv [4, (vi 1), (vi 7), (vi 6), wv], xl [(vl 0)], by rw [ht]; exact hP9, hD9, ⟨hi, hp0, (by unfold R_X6_advance; exact (fun Q9 k9_0 k9_1 k9_2 k9_3 k9_4 k9_5 k9_6 k9_7 k9_8 k9_9 k9_10 k9_11 k9_12 k9_13 k9_14 k9_15 k9_16 k9_17 k9_18 => k9_2 hp0 hp1 hp2 hp3 hp4 wv hi hsk9 hj c60 c83 c103_1 rfl rfl rfl rfl rfl rfl)), trivial⟩⟩, hS.F ht⟩) hS.2.2 dX6_advance_120
            · have c103_1 := (mt Int32.le_iff_toInt_le.mpr c103_1)
              have rc103_1 := xrng (vi 1); have qc103_1 := xrng (vi 2)
              refine lv_aload_n hx hb dX6_advance_106 rfl (lv_at hl 0 rfl) ?_
              refine va_get (D := D) (ci := 6) (v := .int (vi 2)) (C := RX6) (T := TX6) (N := 14) hx hb htg inX6 hown hK.1 hP 0 rfl rfl 4 (by decide) (htg _ kw_99) (fun _ h9 => h9) rfl dX6_advance_107 ?_
              refine lv_goto (tgt := 117) hx hb dX6_advance_110 (by decide) ?_
              refine va_put (D := D) (ci := 6) (v := .int (vi 2)) (ty := .int) (C := RX6) (T := TX6) (N := 14) hx hb htg inX6 tyX6 tyX6_ok nmX6 hown hK.1 hP hD hS 0 rfl rfl 7 (by decide) (htg _ kw_105) (fun _ h9 => h9) rfl (by decide +kernel) rfl rfl (Nat.le_of_ble_eq_true rfl) dX6_advance_117 (fun H locs hP hD hS => ?_)
              obtain ⟨hP, hD⟩ := (show xPD D A [((a 0), .inr (6, [.ref (a 1), .ref (ex 0), .int (vi 0), .int (vi 1), .int (vi 2), .int wv, .int 4, .int (vi 2), .long (vl 0), .int (vi 6), .int (vi 7), .int (vi 8), .int (vi 9), .int (vi 10)])), ((a 1), .inl (T 0, 940, .inl (fi 0)))] H from ⟨hP, hD⟩)
              have hP9 := hP.sub (ws' := [((a 0), .inr (6, [.ref (a 1), .ref (ex 0), .int (vi 0), .int (vi 1), .int (vi 2), .int wv, .int 4, .int (vi 2), .long (vl 0), .int (vi 6), .int (vi 7), .int (vi 8), .int (vi 9), .int (vi 10)])), ((a 1), .inl (T 0, 940, .inl (fi 0)))]) [0, 1] rfl
              have hD9 := hD.sub (ws' := [((a 0), .inr (6, [.ref (a 1), .ref (ex 0), .int (vi 0), .int (vi 1), .int (vi 2), .int wv, .int 4, .int (vi 2), .long (vl 0), .int (vi 6), .int (vi 7), .int (vi 8), .int (vi 9), .int (vi 10)])), ((a 1), .inl (T 0, 940, .inl (fi 0)))]) [0, 1] (by decide +kernel) rfl
              rw [hQ]
              exact W.vret hx hb hr (fun t ht hW => ⟨⟨(0 : Int32), rfl, trivial, xf [], xh [], xv [4, (vi 2), (vi 7), (vi 6), wv], xl [(vl 0)], by rw [ht]; exact hP9, hD9, ⟨hi, hp1, (by unfold R_X6_advance; exact (fun Q9 k9_0 k9_1 k9_2 k9_3 k9_4 k9_5 k9_6 k9_7 k9_8 k9_9 k9_10 k9_11 k9_12 k9_13 k9_14 k9_15 k9_16 k9_17 k9_18 => k9_3 hp0 hp1 hp2 hp3 hp4 wv hi hsk9 hj c60 c83 c103_1 rfl rfl rfl rfl rfl rfl)), trivial⟩⟩, hS.F ht⟩) hS.2.2 dX6_advance_120
        · have c60 := (mt Int32.le_iff_toInt_le.mpr c60)
          have rc60 := xrng wv; have qc60 := xrng (vi 1)
          refine lv_aload_n hx hb dX6_advance_63 rfl (lv_at hl 0 rfl) ?_
          refine va_get (D := D) (ci := 6) (v := .int wv) (C := RX6) (T := TX6) (N := 14) hx hb htg inX6 hown hK.1 hP 0 rfl rfl 5 (by decide) (htg _ kw_100) (fun _ h9 => h9) rfl dX6_advance_64 ?_
          refine lv_aload_n hx hb dX6_advance_67 rfl (lv_at hl 0 rfl) ?_
          refine va_get (D := D) (ci := 6) (v := .int (vi 2)) (C := RX6) (T := TX6) (N := 14) hx hb htg inX6 hown hK.1 hP 0 rfl rfl 4 (by decide) (htg _ kw_99) (fun _ h9 => h9) rfl dX6_advance_68 ?_
          refine lv_icmp_lt (tgt := 121) hx hb dX6_advance_71 (by decide) (fun c71 => ?_) (fun c71 => ?_)
          · have c71 := Int32.lt_iff_toInt_lt.mp c71
            have rc71 := xrng wv; have qc71 := xrng (vi 2)
            refine lv_aload_n hx hb dX6_advance_121 rfl (lv_at hl 0 rfl) ?_
            refine lv_aload_n hx hb dX6_advance_122 rfl (lv_at hl 0 rfl) ?_
            refine va_get (D := D) (ci := 6) (v := .int wv) (C := RX6) (T := TX6) (N := 14) hx hb htg inX6 hown hK.1 hP 0 rfl rfl 5 (by decide) (htg _ kw_100) (fun _ h9 => h9) rfl dX6_advance_123 ?_
            refine va_put (D := D) (ci := 6) (v := .int wv) (ty := .int) (C := RX6) (T := TX6) (N := 14) hx hb htg inX6 tyX6 tyX6_ok nmX6 hown hK.1 hP hD hS 0 rfl rfl 7 (by decide) (htg _ kw_105) (fun _ h9 => h9) rfl (by decide +kernel) rfl rfl (Nat.le_of_ble_eq_true rfl) dX6_advance_126 (fun H locs hP hD hS => ?_)
            obtain ⟨hP, hD⟩ := (show xPD D A [((a 0), .inr (6, [.ref (a 1), .ref (ex 0), .int (vi 0), .int (vi 1), .int (vi 2), .int wv, .int (vi 4), .int wv, .long (vl 0), .int (vi 6), .int (vi 7), .int (vi 8), .int (vi 9), .int (vi 10)])), ((a 1), .inl (T 0, 940, .inl (fi 0)))] H from ⟨hP, hD⟩)
            refine lv_aload_n hx hb dX6_advance_129 rfl (lv_at hl 0 rfl) ?_
            refine lv_aload_n hx hb dX6_advance_130 rfl (lv_at hl 0 rfl) ?_
            refine va_get (D := D) (ci := 6) (v := .ref (a 1)) (C := RX6) (T := TX6) (N := 14) hx hb htg inX6 hown hK.1 hP 0 rfl rfl 0 (by decide) (htg _ kw_94) (fun _ h9 => h9) rfl dX6_advance_131 ?_
            refine lv_aload_n hx hb dX6_advance_134 rfl (lv_at hl 0 rfl) ?_
            refine va_get (D := D) (ci := 6) (v := .int wv) (C := RX6) (T := TX6) (N := 14) hx hb htg inX6 hown hK.1 hP 0 rfl rfl 5 (by decide) (htg _ kw_100) (fun _ h9 => h9) rfl dX6_advance_135 ?_
            refine va_bald hx hb hK.1 hP 1 0 rfl rfl (vp_in_iff.mpr (by omega)) dX6_advance_138 ?_
            refine va_put (D := D) (ci := 6) (v := .int ((fi 0) wv.toNatClampNeg)) (ty := .int) (C := RX6) (T := TX6) (N := 14) hx hb htg inX6 tyX6 tyX6_ok nmX6 hown hK.1 hP hD hS 0 rfl rfl 10 (by decide) (htg _ kw_111) (fun _ h9 => h9) rfl (by decide +kernel) rfl rfl (Nat.le_of_ble_eq_true rfl) dX6_advance_139 (fun H locs hP hD hS => ?_)
            obtain ⟨hP, hD⟩ := (show xPD D A [((a 0), .inr (6, [.ref (a 1), .ref (ex 0), .int (vi 0), .int (vi 1), .int (vi 2), .int wv, .int (vi 4), .int wv, .long (vl 0), .int (vi 6), .int ((fi 0) wv.toNatClampNeg), .int (vi 8), .int (vi 9), .int (vi 10)])), ((a 1), .inl (T 0, 940, .inl (fi 0)))] H from ⟨hP, hD⟩)
            refine lv_aload_n hx hb dX6_advance_142 rfl (lv_at hl 0 rfl) ?_
            refine lv_lconst (v := 0) hx hb dX6_advance_143 (by decide) ?_
            refine va_put (D := D) (ci := 6) (v := .long 0) (ty := .long) (C := RX6) (T := TX6) (N := 14) hx hb htg inX6 tyX6 tyX6_ok nmX6 hown hK.1 hP hD hS 0 rfl rfl 8 (by decide) (htg _ kw_108) (fun _ h9 => h9) rfl (by decide +kernel) rfl rfl (Nat.le_of_ble_eq_true rfl) dX6_advance_144 (fun H locs hP hD hS => ?_)
            obtain ⟨hP, hD⟩ := (show xPD D A [((a 0), .inr (6, [.ref (a 1), .ref (ex 0), .int (vi 0), .int (vi 1), .int (vi 2), .int wv, .int (vi 4), .int wv, .long 0, .int (vi 6), .int ((fi 0) wv.toNatClampNeg), .int (vi 8), .int (vi 9), .int (vi 10)])), ((a 1), .inl (T 0, 940, .inl (fi 0)))] H from ⟨hP, hD⟩)
            refine lv_aload_n hx hb dX6_advance_147 rfl (lv_at hl 0 rfl) ?_
            refine lv_iconst (v := 0) hx hb dX6_advance_148 (by decide) ?_
            refine va_put (D := D) (ci := 6) (v := .int 0) (ty := .int) (C := RX6) (T := TX6) (N := 14) hx hb htg inX6 tyX6 tyX6_ok nmX6 hown hK.1 hP hD hS 0 rfl rfl 9 (by decide) (htg _ kw_110) (fun _ h9 => h9) rfl (by decide +kernel) rfl rfl (Nat.le_of_ble_eq_true rfl) dX6_advance_149 (fun H locs hP hD hS => ?_)
            obtain ⟨hP, hD⟩ := (show xPD D A [((a 0), .inr (6, [.ref (a 1), .ref (ex 0), .int (vi 0), .int (vi 1), .int (vi 2), .int wv, .int (vi 4), .int wv, .long 0, .int 0, .int ((fi 0) wv.toNatClampNeg), .int (vi 8), .int (vi 9), .int (vi 10)])), ((a 1), .inl (T 0, 940, .inl (fi 0)))] H from ⟨hP, hD⟩)
            refine lv_iconst (v := 0) hx hb dX6_advance_152 (by decide) ?_
            refine lv_istore_n (lv' := [(1, .int 0), (0, .ref (a 0))]) hx hb dX6_advance_153 rfl hl (by decide) rfl (fun ls hl => ?_)
            refine lv_iconst (v := 0) hx hb dX6_advance_154 (by decide) ?_
            refine lv_istore_n (lv' := [(2, .int 0), (1, .int 0), (0, .ref (a 0))]) hx hb dX6_advance_155 rfl hl (by decide) rfl (fun ls hl => ?_)
            have lp_1 : ∀ (kn_1 : Nat) (w2 : Int32) (w1 : Int32) (wv_1 : Int64) (wv_2 : Int32) (wv_3 : Int32) (H : Heap) (locs : List Loc) (ls : Array Slot), (0 ≤ w2.toInt ∧ w2.toInt ≤ 940) → (0 ≤ w1.toInt ∧ w1.toInt ≤ 940) → (0 ≤ wv_3.toInt ∧ wv_3.toInt ≤ 940) → ((wv_3).toInt = (wv).toInt + w1.toInt + w2.toInt) → (av2 (fi 0) (vi 1).toInt (wv).toInt (wv_3).toInt w1.toInt w2.toInt wv_1 wv_2) → (2147483648 - (wv_3).toInt).toNat = kn_1 → va_P D vwCl [((a 0), .inr (6, [.ref (a 1), .ref (ex 0), .int (vi 0), .int (vi 1), .int (vi 2), .int wv_3, .int (vi 4), .int wv, .long wv_1, .int wv_2, .int ((fi 0) wv.toNatClampNeg), .int (vi 8), .int (vi 9), .int (vi 10)])), ((a 1), .inl (T 0, 940, .inl (fi 0)))] H → va_D A [((a 0), .inr (6, [.ref (a 1), .ref (ex 0), .int (vi 0), .int (vi 1), .int (vi 2), .int wv_3, .int (vi 4), .int wv, .long wv_1, .int wv_2, .int ((fi 0) wv.toNatClampNeg), .int (vi 8), .int (vi 9), .int (vi 10)])), ((a 1), .inl (T 0, 940, .inl (fi 0)))] → va_S A s.heap H locs → lv_has ls 4 [(2, .int w2), (1, .int w1), (0, .ref (a 0))] → W p l e R s m ([.ref (a 0)] : List Value).toArray below meth c H locs 0 0 Q (F0 m 156 ls []) := by
              intro kn_1
              induction kn_1 using Nat.strongRecOn with
              | _ kn_1 ih_1 =>
                intro w2 w1 wv_1 wv_2 wv_3 H locs ls hi_1 hi_2 hi_3 hat9 hav9 hm_1 hP hD hS hl
                have jn_1 : ∀ (H : Heap) (locs : List Loc) (ls : Array Slot), (¬ ((wv_3).toInt < (vi 1).toInt ∧ tal ((fi 0) (wv_3).toNatClampNeg).toInt)) → va_P D vwCl [((a 0), .inr (6, [.ref (a 1), .ref (ex 0), .int (vi 0), .int (vi 1), .int (vi 2), .int wv_3, .int (vi 4), .int wv, .long wv_1, .int wv_2, .int ((fi 0) wv.toNatClampNeg), .int (vi 8), .int (vi 9), .int (vi 10)])), ((a 1), .inl (T 0, 940, .inl (fi 0)))] H → va_D A [((a 0), .inr (6, [.ref (a 1), .ref (ex 0), .int (vi 0), .int (vi 1), .int (vi 2), .int wv_3, .int (vi 4), .int wv, .long wv_1, .int wv_2, .int ((fi 0) wv.toNatClampNeg), .int (vi 8), .int (vi 9), .int (vi 10)])), ((a 1), .inl (T 0, 940, .inl (fi 0)))] → va_S A s.heap H locs → lv_has ls 4 [(2, .int w2), (1, .int w1), (0, .ref (a 0))] → W p l e R s m ([.ref (a 0)] : List Value).toArray below meth c H locs 0 0 Q (F0 m 253 ls []) := by
                  intro H locs ls hj_1 hP hD hS hl
                  refine lv_iload_n hx hb dX6_advance_253 rfl (lv_at hl 1 rfl) ?_
                  refine lv_iload_n hx hb dX6_advance_254 rfl (lv_at hl 0 rfl) ?_
                  refine lv_iadd hx hb dX6_advance_255 ?_
                  refine lv_topi (fun z255 ez255 => ?_)
                  have tz255 : z255.toInt = w1.toInt + w2.toInt := by rw [ez255]; exact xadd rfl rfl (by omega) (by omega)
                  refine lv_if_ne (tgt := 326) hx hb dX6_advance_256 (by decide) (fun c256 => ?_) (fun c256 => ?_)
                  · have c256 := xne (k := 0) (by decide) c256
                    refine lv_iload_n hx hb dX6_advance_326 rfl (lv_at hl 0 rfl) ?_
                    refine lv_if_ne (tgt := 348) hx hb dX6_advance_327 (by decide) (fun c327 => ?_) (fun c327 => ?_)
                    · have c327 := xne (k := 0) (by decide) c327
                      refine lv_aload_n hx hb dX6_advance_348 rfl (lv_at hl 2 rfl) ?_
                      refine lv_iload_n hx hb dX6_advance_349 rfl (lv_at hl 1 rfl) ?_
                      refine lv_if_ne (tgt := 362) hx hb dX6_advance_350 (by decide) (fun c350 => ?_) (fun c350 => ?_)
                      · have c350 := xne (k := 0) (by decide) c350
                        refine lv_iconst (v := 4) hx hb dX6_advance_362 (by decide) ?_
                        refine va_put (D := D) (ci := 6) (v := .int 4) (ty := .int) (C := RX6) (T := TX6) (N := 14) hx hb htg inX6 tyX6 tyX6_ok nmX6 hown hK.1 hP hD hS 0 rfl rfl 6 (by decide) (htg _ kw_104) (fun _ h9 => h9) rfl (by decide +kernel) rfl rfl (Nat.le_of_ble_eq_true rfl) dX6_advance_363 (fun H locs hP hD hS => ?_)
                        obtain ⟨hP, hD⟩ := (show xPD D A [((a 0), .inr (6, [.ref (a 1), .ref (ex 0), .int (vi 0), .int (vi 1), .int (vi 2), .int wv_3, .int 4, .int wv, .long wv_1, .int wv_2, .int ((fi 0) wv.toNatClampNeg), .int (vi 8), .int (vi 9), .int (vi 10)])), ((a 1), .inl (T 0, 940, .inl (fi 0)))] H from ⟨hP, hD⟩)
                        have hP9 := hP.sub (ws' := [((a 0), .inr (6, [.ref (a 1), .ref (ex 0), .int (vi 0), .int (vi 1), .int (vi 2), .int wv_3, .int 4, .int wv, .long wv_1, .int wv_2, .int ((fi 0) wv.toNatClampNeg), .int (vi 8), .int (vi 9), .int (vi 10)])), ((a 1), .inl (T 0, 940, .inl (fi 0)))]) [0, 1] rfl
                        have hD9 := hD.sub (ws' := [((a 0), .inr (6, [.ref (a 1), .ref (ex 0), .int (vi 0), .int (vi 1), .int (vi 2), .int wv_3, .int 4, .int wv, .long wv_1, .int wv_2, .int ((fi 0) wv.toNatClampNeg), .int (vi 8), .int (vi 9), .int (vi 10)])), ((a 1), .inl (T 0, 940, .inl (fi 0)))]) [0, 1] (by decide +kernel) rfl
                        rw [hQ]
                        exact W.vret hx hb hr (fun t ht hW => ⟨⟨(0 : Int32), rfl, trivial, xf [], xh [], xv [4, wv, ((fi 0) wv.toNatClampNeg), wv_2, wv_3], xl [wv_1], by rw [ht]; exact hP9, hD9, ⟨hi_3, hi, (by unfold R_X6_advance; exact (fun Q9 k9_0 k9_1 k9_2 k9_3 k9_4 k9_5 k9_6 k9_7 k9_8 k9_9 k9_10 k9_11 k9_12 k9_13 k9_14 k9_15 k9_16 k9_17 k9_18 => k9_4 hp0 hp1 hp2 hp3 hp4 wv hi hsk9 hj c60 c71 w2 w1 wv_1 wv_2 wv_3 hi_1 hi_2 hi_3 hat9 hav9 hj_1 z255 ez255 tz255 c256 c327 c350 rfl rfl rfl rfl rfl rfl)), trivial⟩⟩, hS.F ht⟩) hS.2.2 dX6_advance_366
                      · have c350 := xeq (k := 0) (by decide) c350
                        refine lv_iload_n hx hb dX6_advance_353 rfl (lv_at hl 0 rfl) ?_
                        refine lv_iconst (v := 3) hx hb dX6_advance_354 (by decide) ?_
                        refine lv_icmp_gt (tgt := 362) hx hb dX6_advance_355 (by decide) (fun c355 => ?_) (fun c355 => ?_)
                        · have c355 := xgt (k := 3) (by decide) c355
                          refine lv_iconst (v := 4) hx hb dX6_advance_362 (by decide) ?_
                          refine va_put (D := D) (ci := 6) (v := .int 4) (ty := .int) (C := RX6) (T := TX6) (N := 14) hx hb htg inX6 tyX6 tyX6_ok nmX6 hown hK.1 hP hD hS 0 rfl rfl 6 (by decide) (htg _ kw_104) (fun _ h9 => h9) rfl (by decide +kernel) rfl rfl (Nat.le_of_ble_eq_true rfl) dX6_advance_363 (fun H locs hP hD hS => ?_)
                          obtain ⟨hP, hD⟩ := (show xPD D A [((a 0), .inr (6, [.ref (a 1), .ref (ex 0), .int (vi 0), .int (vi 1), .int (vi 2), .int wv_3, .int 4, .int wv, .long wv_1, .int wv_2, .int ((fi 0) wv.toNatClampNeg), .int (vi 8), .int (vi 9), .int (vi 10)])), ((a 1), .inl (T 0, 940, .inl (fi 0)))] H from ⟨hP, hD⟩)
                          have hP9 := hP.sub (ws' := [((a 0), .inr (6, [.ref (a 1), .ref (ex 0), .int (vi 0), .int (vi 1), .int (vi 2), .int wv_3, .int 4, .int wv, .long wv_1, .int wv_2, .int ((fi 0) wv.toNatClampNeg), .int (vi 8), .int (vi 9), .int (vi 10)])), ((a 1), .inl (T 0, 940, .inl (fi 0)))]) [0, 1] rfl
                          have hD9 := hD.sub (ws' := [((a 0), .inr (6, [.ref (a 1), .ref (ex 0), .int (vi 0), .int (vi 1), .int (vi 2), .int wv_3, .int 4, .int wv, .long wv_1, .int wv_2, .int ((fi 0) wv.toNatClampNeg), .int (vi 8), .int (vi 9), .int (vi 10)])), ((a 1), .inl (T 0, 940, .inl (fi 0)))]) [0, 1] (by decide +kernel) rfl
                          rw [hQ]
                          exact W.vret hx hb hr (fun t ht hW => ⟨⟨(0 : Int32), rfl, trivial, xf [], xh [], xv [4, wv, ((fi 0) wv.toNatClampNeg), wv_2, wv_3], xl [wv_1], by rw [ht]; exact hP9, hD9, ⟨hi_3, hi, (by unfold R_X6_advance; exact (fun Q9 k9_0 k9_1 k9_2 k9_3 k9_4 k9_5 k9_6 k9_7 k9_8 k9_9 k9_10 k9_11 k9_12 k9_13 k9_14 k9_15 k9_16 k9_17 k9_18 => k9_5 hp0 hp1 hp2 hp3 hp4 wv hi hsk9 hj c60 c71 w2 w1 wv_1 wv_2 wv_3 hi_1 hi_2 hi_3 hat9 hav9 hj_1 z255 ez255 tz255 c256 c327 c350 c355 rfl rfl rfl rfl rfl rfl)), trivial⟩⟩, hS.F ht⟩) hS.2.2 dX6_advance_366
                        · have c355 := xngt (k := 3) (by decide) c355
                          refine lv_iconst (v := 2) hx hb dX6_advance_358 (by decide) ?_
                          refine lv_goto (tgt := 363) hx hb dX6_advance_359 (by decide) ?_
                          refine va_put (D := D) (ci := 6) (v := .int 2) (ty := .int) (C := RX6) (T := TX6) (N := 14) hx hb htg inX6 tyX6 tyX6_ok nmX6 hown hK.1 hP hD hS 0 rfl rfl 6 (by decide) (htg _ kw_104) (fun _ h9 => h9) rfl (by decide +kernel) rfl rfl (Nat.le_of_ble_eq_true rfl) dX6_advance_363 (fun H locs hP hD hS => ?_)
                          obtain ⟨hP, hD⟩ := (show xPD D A [((a 0), .inr (6, [.ref (a 1), .ref (ex 0), .int (vi 0), .int (vi 1), .int (vi 2), .int wv_3, .int 2, .int wv, .long wv_1, .int wv_2, .int ((fi 0) wv.toNatClampNeg), .int (vi 8), .int (vi 9), .int (vi 10)])), ((a 1), .inl (T 0, 940, .inl (fi 0)))] H from ⟨hP, hD⟩)
                          have hP9 := hP.sub (ws' := [((a 0), .inr (6, [.ref (a 1), .ref (ex 0), .int (vi 0), .int (vi 1), .int (vi 2), .int wv_3, .int 2, .int wv, .long wv_1, .int wv_2, .int ((fi 0) wv.toNatClampNeg), .int (vi 8), .int (vi 9), .int (vi 10)])), ((a 1), .inl (T 0, 940, .inl (fi 0)))]) [0, 1] rfl
                          have hD9 := hD.sub (ws' := [((a 0), .inr (6, [.ref (a 1), .ref (ex 0), .int (vi 0), .int (vi 1), .int (vi 2), .int wv_3, .int 2, .int wv, .long wv_1, .int wv_2, .int ((fi 0) wv.toNatClampNeg), .int (vi 8), .int (vi 9), .int (vi 10)])), ((a 1), .inl (T 0, 940, .inl (fi 0)))]) [0, 1] (by decide +kernel) rfl
                          rw [hQ]
                          exact W.vret hx hb hr (fun t ht hW => ⟨⟨(0 : Int32), rfl, trivial, xf [], xh [], xv [2, wv, ((fi 0) wv.toNatClampNeg), wv_2, wv_3], xl [wv_1], by rw [ht]; exact hP9, hD9, ⟨hi_3, hi, (by unfold R_X6_advance; exact (fun Q9 k9_0 k9_1 k9_2 k9_3 k9_4 k9_5 k9_6 k9_7 k9_8 k9_9 k9_10 k9_11 k9_12 k9_13 k9_14 k9_15 k9_16 k9_17 k9_18 => k9_6 hp0 hp1 hp2 hp3 hp4 wv hi hsk9 hj c60 c71 w2 w1 wv_1 wv_2 wv_3 hi_1 hi_2 hi_3 hat9 hav9 hj_1 z255 ez255 tz255 c256 c327 c350 c355 rfl rfl rfl rfl rfl rfl)), trivial⟩⟩, hS.F ht⟩) hS.2.2 dX6_advance_366
                    · have c327 := xeq (k := 0) (by decide) c327
                      refine lv_aload_n hx hb dX6_advance_330 rfl (lv_at hl 2 rfl) ?_
                      refine lv_iload_n hx hb dX6_advance_331 rfl (lv_at hl 1 rfl) ?_
                      refine lv_bipush (v := 7) hx hb dX6_advance_332 (by decide) ?_
                      refine lv_icmp_gt (tgt := 341) hx hb dX6_advance_334 (by decide) (fun c334 => ?_) (fun c334 => ?_)
                      · have c334 := xgt (k := 7) (by decide) c334
                        refine lv_iconst (v := 4) hx hb dX6_advance_341 (by decide) ?_
                        refine va_put (D := D) (ci := 6) (v := .int 4) (ty := .int) (C := RX6) (T := TX6) (N := 14) hx hb htg inX6 tyX6 tyX6_ok nmX6 hown hK.1 hP hD hS 0 rfl rfl 6 (by decide) (htg _ kw_104) (fun _ h9 => h9) rfl (by decide +kernel) rfl rfl (Nat.le_of_ble_eq_true rfl) dX6_advance_342 (fun H locs hP hD hS => ?_)
                        obtain ⟨hP, hD⟩ := (show xPD D A [((a 0), .inr (6, [.ref (a 1), .ref (ex 0), .int (vi 0), .int (vi 1), .int (vi 2), .int wv_3, .int 4, .int wv, .long wv_1, .int wv_2, .int ((fi 0) wv.toNatClampNeg), .int (vi 8), .int (vi 9), .int (vi 10)])), ((a 1), .inl (T 0, 940, .inl (fi 0)))] H from ⟨hP, hD⟩)
                        refine lv_goto (tgt := 366) hx hb dX6_advance_345 (by decide) ?_
                        have hP9 := hP.sub (ws' := [((a 0), .inr (6, [.ref (a 1), .ref (ex 0), .int (vi 0), .int (vi 1), .int (vi 2), .int wv_3, .int 4, .int wv, .long wv_1, .int wv_2, .int ((fi 0) wv.toNatClampNeg), .int (vi 8), .int (vi 9), .int (vi 10)])), ((a 1), .inl (T 0, 940, .inl (fi 0)))]) [0, 1] rfl
                        have hD9 := hD.sub (ws' := [((a 0), .inr (6, [.ref (a 1), .ref (ex 0), .int (vi 0), .int (vi 1), .int (vi 2), .int wv_3, .int 4, .int wv, .long wv_1, .int wv_2, .int ((fi 0) wv.toNatClampNeg), .int (vi 8), .int (vi 9), .int (vi 10)])), ((a 1), .inl (T 0, 940, .inl (fi 0)))]) [0, 1] (by decide +kernel) rfl
                        rw [hQ]
                        exact W.vret hx hb hr (fun t ht hW => ⟨⟨(0 : Int32), rfl, trivial, xf [], xh [], xv [4, wv, ((fi 0) wv.toNatClampNeg), wv_2, wv_3], xl [wv_1], by rw [ht]; exact hP9, hD9, ⟨hi_3, hi, (by unfold R_X6_advance; exact (fun Q9 k9_0 k9_1 k9_2 k9_3 k9_4 k9_5 k9_6 k9_7 k9_8 k9_9 k9_10 k9_11 k9_12 k9_13 k9_14 k9_15 k9_16 k9_17 k9_18 => k9_7 hp0 hp1 hp2 hp3 hp4 wv hi hsk9 hj c60 c71 w2 w1 wv_1 wv_2 wv_3 hi_1 hi_2 hi_3 hat9 hav9 hj_1 z255 ez255 tz255 c256 c327 c334 rfl rfl rfl rfl rfl rfl)), trivial⟩⟩, hS.F ht⟩) hS.2.2 dX6_advance_366
                      · have c334 := xngt (k := 7) (by decide) c334
                        refine lv_iconst (v := 1) hx hb dX6_advance_337 (by decide) ?_
                        refine lv_goto (tgt := 342) hx hb dX6_advance_338 (by decide) ?_
                        refine va_put (D := D) (ci := 6) (v := .int 1) (ty := .int) (C := RX6) (T := TX6) (N := 14) hx hb htg inX6 tyX6 tyX6_ok nmX6 hown hK.1 hP hD hS 0 rfl rfl 6 (by decide) (htg _ kw_104) (fun _ h9 => h9) rfl (by decide +kernel) rfl rfl (Nat.le_of_ble_eq_true rfl) dX6_advance_342 (fun H locs hP hD hS => ?_)
                        obtain ⟨hP, hD⟩ := (show xPD D A [((a 0), .inr (6, [.ref (a 1), .ref (ex 0), .int (vi 0), .int (vi 1), .int (vi 2), .int wv_3, .int 1, .int wv, .long wv_1, .int wv_2, .int ((fi 0) wv.toNatClampNeg), .int (vi 8), .int (vi 9), .int (vi 10)])), ((a 1), .inl (T 0, 940, .inl (fi 0)))] H from ⟨hP, hD⟩)
                        refine lv_goto (tgt := 366) hx hb dX6_advance_345 (by decide) ?_
                        have hP9 := hP.sub (ws' := [((a 0), .inr (6, [.ref (a 1), .ref (ex 0), .int (vi 0), .int (vi 1), .int (vi 2), .int wv_3, .int 1, .int wv, .long wv_1, .int wv_2, .int ((fi 0) wv.toNatClampNeg), .int (vi 8), .int (vi 9), .int (vi 10)])), ((a 1), .inl (T 0, 940, .inl (fi 0)))]) [0, 1] rfl
                        have hD9 := hD.sub (ws' := [((a 0), .inr (6, [.ref (a 1), .ref (ex 0), .int (vi 0), .int (vi 1), .int (vi 2), .int wv_3, .int 1, .int wv, .long wv_1, .int wv_2, .int ((fi 0) wv.toNatClampNeg), .int (vi 8), .int (vi 9), .int (vi 10)])), ((a 1), .inl (T 0, 940, .inl (fi 0)))]) [0, 1] (by decide +kernel) rfl
                        rw [hQ]
                        exact W.vret hx hb hr (fun t ht hW => ⟨⟨(0 : Int32), rfl, trivial, xf [], xh [], xv [1, wv, ((fi 0) wv.toNatClampNeg), wv_2, wv_3], xl [wv_1], by rw [ht]; exact hP9, hD9, ⟨hi_3, hi, (by unfold R_X6_advance; exact (fun Q9 k9_0 k9_1 k9_2 k9_3 k9_4 k9_5 k9_6 k9_7 k9_8 k9_9 k9_10 k9_11 k9_12 k9_13 k9_14 k9_15 k9_16 k9_17 k9_18 => k9_8 hp0 hp1 hp2 hp3 hp4 wv hi hsk9 hj c60 c71 w2 w1 wv_1 wv_2 wv_3 hi_1 hi_2 hi_3 hat9 hav9 hj_1 z255 ez255 tz255 c256 c327 c334 rfl rfl rfl rfl rfl rfl)), trivial⟩⟩, hS.F ht⟩) hS.2.2 dX6_advance_366
                  · have c256 := xeq (k := 0) (by decide) c256
                    refine lv_aload_n hx hb dX6_advance_259 rfl (lv_at hl 2 rfl) ?_
                    refine lv_dup hx hb dX6_advance_260 rfl ?_
                    refine va_get (D := D) (ci := 6) (v := .int wv_3) (C := RX6) (T := TX6) (N := 14) hx hb htg inX6 hown hK.1 hP 0 rfl rfl 5 (by decide) (htg _ kw_100) (fun _ h9 => h9) rfl dX6_advance_261 ?_
                    refine lv_iconst (v := 1) hx hb dX6_advance_264 (by decide) ?_
                    refine lv_iadd hx hb dX6_advance_265 ?_
                    refine lv_topi (fun z265 ez265 => ?_)
                    have tz265 : z265.toInt = wv_3.toInt + 1 := by rw [ez265]; exact xadd rfl (by decide) (by omega) (by omega)
                    refine va_put (D := D) (ci := 6) (v := .int z265) (ty := .int) (C := RX6) (T := TX6) (N := 14) hx hb htg inX6 tyX6 tyX6_ok nmX6 hown hK.1 hP hD hS 0 rfl rfl 5 (by decide) (htg _ kw_100) (fun _ h9 => h9) rfl (by decide +kernel) rfl rfl (Nat.le_of_ble_eq_true rfl) dX6_advance_266 (fun H locs hP hD hS => ?_)
                    obtain ⟨hP, hD⟩ := (show xPD D A [((a 0), .inr (6, [.ref (a 1), .ref (ex 0), .int (vi 0), .int (vi 1), .int (vi 2), .int z265, .int (vi 4), .int wv, .long wv_1, .int wv_2, .int ((fi 0) wv.toNatClampNeg), .int (vi 8), .int (vi 9), .int (vi 10)])), ((a 1), .inl (T 0, 940, .inl (fi 0)))] H from ⟨hP, hD⟩)
                    refine lv_aload_n hx hb dX6_advance_269 rfl (lv_at hl 2 rfl) ?_
                    refine lv_aload_n hx hb dX6_advance_270 rfl (lv_at hl 2 rfl) ?_
                    refine va_get (D := D) (ci := 6) (v := .int ((fi 0) wv.toNatClampNeg)) (C := RX6) (T := TX6) (N := 14) hx hb htg inX6 hown hK.1 hP 0 rfl rfl 10 (by decide) (htg _ kw_111) (fun _ h9 => h9) rfl dX6_advance_271 ?_
                    refine lv_bipush (v := 59) hx hb dX6_advance_274 (by decide) ?_
                    refine lv_icmp_eq (tgt := 315) hx hb dX6_advance_276 (by decide) (fun c276 => ?_) (fun c276 => ?_)
                    · have c276 := xeq (k := 59) (by decide) c276
                      refine lv_iconst (v := 3) hx hb dX6_advance_315 (by decide) ?_
                      refine lv_goto (tgt := 320) hx hb dX6_advance_316 (by decide) ?_
                      refine va_put (D := D) (ci := 6) (v := .int 3) (ty := .int) (C := RX6) (T := TX6) (N := 14) hx hb htg inX6 tyX6 tyX6_ok nmX6 hown hK.1 hP hD hS 0 rfl rfl 6 (by decide) (htg _ kw_104) (fun _ h9 => h9) rfl (by decide +kernel) rfl rfl (Nat.le_of_ble_eq_true rfl) dX6_advance_320 (fun H locs hP hD hS => ?_)
                      obtain ⟨hP, hD⟩ := (show xPD D A [((a 0), .inr (6, [.ref (a 1), .ref (ex 0), .int (vi 0), .int (vi 1), .int (vi 2), .int z265, .int 3, .int wv, .long wv_1, .int wv_2, .int ((fi 0) wv.toNatClampNeg), .int (vi 8), .int (vi 9), .int (vi 10)])), ((a 1), .inl (T 0, 940, .inl (fi 0)))] H from ⟨hP, hD⟩)
                      refine lv_goto (tgt := 366) hx hb dX6_advance_323 (by decide) ?_
                      have hP9 := hP.sub (ws' := [((a 0), .inr (6, [.ref (a 1), .ref (ex 0), .int (vi 0), .int (vi 1), .int (vi 2), .int z265, .int 3, .int wv, .long wv_1, .int wv_2, .int ((fi 0) wv.toNatClampNeg), .int (vi 8), .int (vi 9), .int (vi 10)])), ((a 1), .inl (T 0, 940, .inl (fi 0)))]) [0, 1] rfl
                      have hD9 := hD.sub (ws' := [((a 0), .inr (6, [.ref (a 1), .ref (ex 0), .int (vi 0), .int (vi 1), .int (vi 2), .int z265, .int 3, .int wv, .long wv_1, .int wv_2, .int ((fi 0) wv.toNatClampNeg), .int (vi 8), .int (vi 9), .int (vi 10)])), ((a 1), .inl (T 0, 940, .inl (fi 0)))]) [0, 1] (by decide +kernel) rfl
                      rw [hQ]
                      exact W.vret hx hb hr (fun t ht hW => ⟨⟨(0 : Int32), rfl, trivial, xf [], xh [], xv [3, wv, ((fi 0) wv.toNatClampNeg), wv_2, z265], xl [wv_1], by rw [ht]; exact hP9, hD9, ⟨(by show 0 ≤ z265.toInt ∧ z265.toInt ≤ 940; omega), hi, (by unfold R_X6_advance; exact (fun Q9 k9_0 k9_1 k9_2 k9_3 k9_4 k9_5 k9_6 k9_7 k9_8 k9_9 k9_10 k9_11 k9_12 k9_13 k9_14 k9_15 k9_16 k9_17 k9_18 => k9_9 hp0 hp1 hp2 hp3 hp4 wv hi hsk9 hj c60 c71 w2 w1 wv_1 wv_2 wv_3 hi_1 hi_2 hi_3 hat9 hav9 hj_1 z255 ez255 tz255 c256 z265 ez265 tz265 c276 rfl rfl rfl rfl rfl rfl)), trivial⟩⟩, hS.F ht⟩) hS.2.2 dX6_advance_366
                    · have c276 := xne (k := 59) (by decide) c276
                      refine lv_aload_n hx hb dX6_advance_279 rfl (lv_at hl 2 rfl) ?_
                      refine va_get (D := D) (ci := 6) (v := .int ((fi 0) wv.toNatClampNeg)) (C := RX6) (T := TX6) (N := 14) hx hb htg inX6 hown hK.1 hP 0 rfl rfl 10 (by decide) (htg _ kw_111) (fun _ h9 => h9) rfl dX6_advance_280 ?_
                      refine lv_bipush (v := 40) hx hb dX6_advance_283 (by decide) ?_
                      refine lv_icmp_eq (tgt := 315) hx hb dX6_advance_285 (by decide) (fun c285 => ?_) (fun c285 => ?_)
                      · have c285 := xeq (k := 40) (by decide) c285
                        refine lv_iconst (v := 3) hx hb dX6_advance_315 (by decide) ?_
                        refine lv_goto (tgt := 320) hx hb dX6_advance_316 (by decide) ?_
                        refine va_put (D := D) (ci := 6) (v := .int 3) (ty := .int) (C := RX6) (T := TX6) (N := 14) hx hb htg inX6 tyX6 tyX6_ok nmX6 hown hK.1 hP hD hS 0 rfl rfl 6 (by decide) (htg _ kw_104) (fun _ h9 => h9) rfl (by decide +kernel) rfl rfl (Nat.le_of_ble_eq_true rfl) dX6_advance_320 (fun H locs hP hD hS => ?_)
                        obtain ⟨hP, hD⟩ := (show xPD D A [((a 0), .inr (6, [.ref (a 1), .ref (ex 0), .int (vi 0), .int (vi 1), .int (vi 2), .int z265, .int 3, .int wv, .long wv_1, .int wv_2, .int ((fi 0) wv.toNatClampNeg), .int (vi 8), .int (vi 9), .int (vi 10)])), ((a 1), .inl (T 0, 940, .inl (fi 0)))] H from ⟨hP, hD⟩)
                        refine lv_goto (tgt := 366) hx hb dX6_advance_323 (by decide) ?_
                        have hP9 := hP.sub (ws' := [((a 0), .inr (6, [.ref (a 1), .ref (ex 0), .int (vi 0), .int (vi 1), .int (vi 2), .int z265, .int 3, .int wv, .long wv_1, .int wv_2, .int ((fi 0) wv.toNatClampNeg), .int (vi 8), .int (vi 9), .int (vi 10)])), ((a 1), .inl (T 0, 940, .inl (fi 0)))]) [0, 1] rfl
                        have hD9 := hD.sub (ws' := [((a 0), .inr (6, [.ref (a 1), .ref (ex 0), .int (vi 0), .int (vi 1), .int (vi 2), .int z265, .int 3, .int wv, .long wv_1, .int wv_2, .int ((fi 0) wv.toNatClampNeg), .int (vi 8), .int (vi 9), .int (vi 10)])), ((a 1), .inl (T 0, 940, .inl (fi 0)))]) [0, 1] (by decide +kernel) rfl
                        rw [hQ]
                        exact W.vret hx hb hr (fun t ht hW => ⟨⟨(0 : Int32), rfl, trivial, xf [], xh [], xv [3, wv, ((fi 0) wv.toNatClampNeg), wv_2, z265], xl [wv_1], by rw [ht]; exact hP9, hD9, ⟨(by show 0 ≤ z265.toInt ∧ z265.toInt ≤ 940; omega), hi, (by unfold R_X6_advance; exact (fun Q9 k9_0 k9_1 k9_2 k9_3 k9_4 k9_5 k9_6 k9_7 k9_8 k9_9 k9_10 k9_11 k9_12 k9_13 k9_14 k9_15 k9_16 k9_17 k9_18 => k9_10 hp0 hp1 hp2 hp3 hp4 wv hi hsk9 hj c60 c71 w2 w1 wv_1 wv_2 wv_3 hi_1 hi_2 hi_3 hat9 hav9 hj_1 z255 ez255 tz255 c256 z265 ez265 tz265 c276 c285 rfl rfl rfl rfl rfl rfl)), trivial⟩⟩, hS.F ht⟩) hS.2.2 dX6_advance_366
                      · have c285 := xne (k := 40) (by decide) c285
                        refine lv_aload_n hx hb dX6_advance_288 rfl (lv_at hl 2 rfl) ?_
                        refine va_get (D := D) (ci := 6) (v := .int ((fi 0) wv.toNatClampNeg)) (C := RX6) (T := TX6) (N := 14) hx hb htg inX6 hown hK.1 hP 0 rfl rfl 10 (by decide) (htg _ kw_111) (fun _ h9 => h9) rfl dX6_advance_289 ?_
                        refine lv_bipush (v := 41) hx hb dX6_advance_292 (by decide) ?_
                        refine lv_icmp_eq (tgt := 315) hx hb dX6_advance_294 (by decide) (fun c294 => ?_) (fun c294 => ?_)
                        · have c294 := xeq (k := 41) (by decide) c294
                          refine lv_iconst (v := 3) hx hb dX6_advance_315 (by decide) ?_
                          refine lv_goto (tgt := 320) hx hb dX6_advance_316 (by decide) ?_
                          refine va_put (D := D) (ci := 6) (v := .int 3) (ty := .int) (C := RX6) (T := TX6) (N := 14) hx hb htg inX6 tyX6 tyX6_ok nmX6 hown hK.1 hP hD hS 0 rfl rfl 6 (by decide) (htg _ kw_104) (fun _ h9 => h9) rfl (by decide +kernel) rfl rfl (Nat.le_of_ble_eq_true rfl) dX6_advance_320 (fun H locs hP hD hS => ?_)
                          obtain ⟨hP, hD⟩ := (show xPD D A [((a 0), .inr (6, [.ref (a 1), .ref (ex 0), .int (vi 0), .int (vi 1), .int (vi 2), .int z265, .int 3, .int wv, .long wv_1, .int wv_2, .int ((fi 0) wv.toNatClampNeg), .int (vi 8), .int (vi 9), .int (vi 10)])), ((a 1), .inl (T 0, 940, .inl (fi 0)))] H from ⟨hP, hD⟩)
                          refine lv_goto (tgt := 366) hx hb dX6_advance_323 (by decide) ?_
                          have hP9 := hP.sub (ws' := [((a 0), .inr (6, [.ref (a 1), .ref (ex 0), .int (vi 0), .int (vi 1), .int (vi 2), .int z265, .int 3, .int wv, .long wv_1, .int wv_2, .int ((fi 0) wv.toNatClampNeg), .int (vi 8), .int (vi 9), .int (vi 10)])), ((a 1), .inl (T 0, 940, .inl (fi 0)))]) [0, 1] rfl
                          have hD9 := hD.sub (ws' := [((a 0), .inr (6, [.ref (a 1), .ref (ex 0), .int (vi 0), .int (vi 1), .int (vi 2), .int z265, .int 3, .int wv, .long wv_1, .int wv_2, .int ((fi 0) wv.toNatClampNeg), .int (vi 8), .int (vi 9), .int (vi 10)])), ((a 1), .inl (T 0, 940, .inl (fi 0)))]) [0, 1] (by decide +kernel) rfl
                          rw [hQ]
                          exact W.vret hx hb hr (fun t ht hW => ⟨⟨(0 : Int32), rfl, trivial, xf [], xh [], xv [3, wv, ((fi 0) wv.toNatClampNeg), wv_2, z265], xl [wv_1], by rw [ht]; exact hP9, hD9, ⟨(by show 0 ≤ z265.toInt ∧ z265.toInt ≤ 940; omega), hi, (by unfold R_X6_advance; exact (fun Q9 k9_0 k9_1 k9_2 k9_3 k9_4 k9_5 k9_6 k9_7 k9_8 k9_9 k9_10 k9_11 k9_12 k9_13 k9_14 k9_15 k9_16 k9_17 k9_18 => k9_11 hp0 hp1 hp2 hp3 hp4 wv hi hsk9 hj c60 c71 w2 w1 wv_1 wv_2 wv_3 hi_1 hi_2 hi_3 hat9 hav9 hj_1 z255 ez255 tz255 c256 z265 ez265 tz265 c276 c285 c294 rfl rfl rfl rfl rfl rfl)), trivial⟩⟩, hS.F ht⟩) hS.2.2 dX6_advance_366
                        · have c294 := xne (k := 41) (by decide) c294
                          refine lv_aload_n hx hb dX6_advance_297 rfl (lv_at hl 2 rfl) ?_
                          refine va_get (D := D) (ci := 6) (v := .int ((fi 0) wv.toNatClampNeg)) (C := RX6) (T := TX6) (N := 14) hx hb htg inX6 hown hK.1 hP 0 rfl rfl 10 (by decide) (htg _ kw_111) (fun _ h9 => h9) rfl dX6_advance_298 ?_
                          refine lv_bipush (v := 60) hx hb dX6_advance_301 (by decide) ?_
                          refine lv_icmp_lt (tgt := 319) hx hb dX6_advance_303 (by decide) (fun c303 => ?_) (fun c303 => ?_)
                          · have c303 := xlt (k := 60) (by decide) c303
                            refine lv_iconst (v := 4) hx hb dX6_advance_319 (by decide) ?_
                            refine va_put (D := D) (ci := 6) (v := .int 4) (ty := .int) (C := RX6) (T := TX6) (N := 14) hx hb htg inX6 tyX6 tyX6_ok nmX6 hown hK.1 hP hD hS 0 rfl rfl 6 (by decide) (htg _ kw_104) (fun _ h9 => h9) rfl (by decide +kernel) rfl rfl (Nat.le_of_ble_eq_true rfl) dX6_advance_320 (fun H locs hP hD hS => ?_)
                            obtain ⟨hP, hD⟩ := (show xPD D A [((a 0), .inr (6, [.ref (a 1), .ref (ex 0), .int (vi 0), .int (vi 1), .int (vi 2), .int z265, .int 4, .int wv, .long wv_1, .int wv_2, .int ((fi 0) wv.toNatClampNeg), .int (vi 8), .int (vi 9), .int (vi 10)])), ((a 1), .inl (T 0, 940, .inl (fi 0)))] H from ⟨hP, hD⟩)
                            refine lv_goto (tgt := 366) hx hb dX6_advance_323 (by decide) ?_
                            have hP9 := hP.sub (ws' := [((a 0), .inr (6, [.ref (a 1), .ref (ex 0), .int (vi 0), .int (vi 1), .int (vi 2), .int z265, .int 4, .int wv, .long wv_1, .int wv_2, .int ((fi 0) wv.toNatClampNeg), .int (vi 8), .int (vi 9), .int (vi 10)])), ((a 1), .inl (T 0, 940, .inl (fi 0)))]) [0, 1] rfl
                            have hD9 := hD.sub (ws' := [((a 0), .inr (6, [.ref (a 1), .ref (ex 0), .int (vi 0), .int (vi 1), .int (vi 2), .int z265, .int 4, .int wv, .long wv_1, .int wv_2, .int ((fi 0) wv.toNatClampNeg), .int (vi 8), .int (vi 9), .int (vi 10)])), ((a 1), .inl (T 0, 940, .inl (fi 0)))]) [0, 1] (by decide +kernel) rfl
                            rw [hQ]
                            exact W.vret hx hb hr (fun t ht hW => ⟨⟨(0 : Int32), rfl, trivial, xf [], xh [], xv [4, wv, ((fi 0) wv.toNatClampNeg), wv_2, z265], xl [wv_1], by rw [ht]; exact hP9, hD9, ⟨(by show 0 ≤ z265.toInt ∧ z265.toInt ≤ 940; omega), hi, (by unfold R_X6_advance; exact (fun Q9 k9_0 k9_1 k9_2 k9_3 k9_4 k9_5 k9_6 k9_7 k9_8 k9_9 k9_10 k9_11 k9_12 k9_13 k9_14 k9_15 k9_16 k9_17 k9_18 => k9_12 hp0 hp1 hp2 hp3 hp4 wv hi hsk9 hj c60 c71 w2 w1 wv_1 wv_2 wv_3 hi_1 hi_2 hi_3 hat9 hav9 hj_1 z255 ez255 tz255 c256 z265 ez265 tz265 c276 c285 c294 c303 rfl rfl rfl rfl rfl rfl)), trivial⟩⟩, hS.F ht⟩) hS.2.2 dX6_advance_366
                          · have c303 := xnlt (k := 60) (by decide) c303
                            refine lv_aload_n hx hb dX6_advance_306 rfl (lv_at hl 2 rfl) ?_
                            refine va_get (D := D) (ci := 6) (v := .int ((fi 0) wv.toNatClampNeg)) (C := RX6) (T := TX6) (N := 14) hx hb htg inX6 hown hK.1 hP 0 rfl rfl 10 (by decide) (htg _ kw_111) (fun _ h9 => h9) rfl dX6_advance_307 ?_
                            refine lv_bipush (v := 62) hx hb dX6_advance_310 (by decide) ?_
                            refine lv_icmp_gt (tgt := 319) hx hb dX6_advance_312 (by decide) (fun c312 => ?_) (fun c312 => ?_)
                            · have c312 := xgt (k := 62) (by decide) c312
                              refine lv_iconst (v := 4) hx hb dX6_advance_319 (by decide) ?_
                              refine va_put (D := D) (ci := 6) (v := .int 4) (ty := .int) (C := RX6) (T := TX6) (N := 14) hx hb htg inX6 tyX6 tyX6_ok nmX6 hown hK.1 hP hD hS 0 rfl rfl 6 (by decide) (htg _ kw_104) (fun _ h9 => h9) rfl (by decide +kernel) rfl rfl (Nat.le_of_ble_eq_true rfl) dX6_advance_320 (fun H locs hP hD hS => ?_)
                              obtain ⟨hP, hD⟩ := (show xPD D A [((a 0), .inr (6, [.ref (a 1), .ref (ex 0), .int (vi 0), .int (vi 1), .int (vi 2), .int z265, .int 4, .int wv, .long wv_1, .int wv_2, .int ((fi 0) wv.toNatClampNeg), .int (vi 8), .int (vi 9), .int (vi 10)])), ((a 1), .inl (T 0, 940, .inl (fi 0)))] H from ⟨hP, hD⟩)
                              refine lv_goto (tgt := 366) hx hb dX6_advance_323 (by decide) ?_
                              have hP9 := hP.sub (ws' := [((a 0), .inr (6, [.ref (a 1), .ref (ex 0), .int (vi 0), .int (vi 1), .int (vi 2), .int z265, .int 4, .int wv, .long wv_1, .int wv_2, .int ((fi 0) wv.toNatClampNeg), .int (vi 8), .int (vi 9), .int (vi 10)])), ((a 1), .inl (T 0, 940, .inl (fi 0)))]) [0, 1] rfl
                              have hD9 := hD.sub (ws' := [((a 0), .inr (6, [.ref (a 1), .ref (ex 0), .int (vi 0), .int (vi 1), .int (vi 2), .int z265, .int 4, .int wv, .long wv_1, .int wv_2, .int ((fi 0) wv.toNatClampNeg), .int (vi 8), .int (vi 9), .int (vi 10)])), ((a 1), .inl (T 0, 940, .inl (fi 0)))]) [0, 1] (by decide +kernel) rfl
                              rw [hQ]
                              exact W.vret hx hb hr (fun t ht hW => ⟨⟨(0 : Int32), rfl, trivial, xf [], xh [], xv [4, wv, ((fi 0) wv.toNatClampNeg), wv_2, z265], xl [wv_1], by rw [ht]; exact hP9, hD9, ⟨(by show 0 ≤ z265.toInt ∧ z265.toInt ≤ 940; omega), hi, (by unfold R_X6_advance; exact (fun Q9 k9_0 k9_1 k9_2 k9_3 k9_4 k9_5 k9_6 k9_7 k9_8 k9_9 k9_10 k9_11 k9_12 k9_13 k9_14 k9_15 k9_16 k9_17 k9_18 => k9_13 hp0 hp1 hp2 hp3 hp4 wv hi hsk9 hj c60 c71 w2 w1 wv_1 wv_2 wv_3 hi_1 hi_2 hi_3 hat9 hav9 hj_1 z255 ez255 tz255 c256 z265 ez265 tz265 c276 c285 c294 c303 c312 rfl rfl rfl rfl rfl rfl)), trivial⟩⟩, hS.F ht⟩) hS.2.2 dX6_advance_366
                            · have c312 := xngt (k := 62) (by decide) c312
                              refine lv_iconst (v := 3) hx hb dX6_advance_315 (by decide) ?_
                              refine lv_goto (tgt := 320) hx hb dX6_advance_316 (by decide) ?_
                              refine va_put (D := D) (ci := 6) (v := .int 3) (ty := .int) (C := RX6) (T := TX6) (N := 14) hx hb htg inX6 tyX6 tyX6_ok nmX6 hown hK.1 hP hD hS 0 rfl rfl 6 (by decide) (htg _ kw_104) (fun _ h9 => h9) rfl (by decide +kernel) rfl rfl (Nat.le_of_ble_eq_true rfl) dX6_advance_320 (fun H locs hP hD hS => ?_)
                              obtain ⟨hP, hD⟩ := (show xPD D A [((a 0), .inr (6, [.ref (a 1), .ref (ex 0), .int (vi 0), .int (vi 1), .int (vi 2), .int z265, .int 3, .int wv, .long wv_1, .int wv_2, .int ((fi 0) wv.toNatClampNeg), .int (vi 8), .int (vi 9), .int (vi 10)])), ((a 1), .inl (T 0, 940, .inl (fi 0)))] H from ⟨hP, hD⟩)
                              refine lv_goto (tgt := 366) hx hb dX6_advance_323 (by decide) ?_
                              have hP9 := hP.sub (ws' := [((a 0), .inr (6, [.ref (a 1), .ref (ex 0), .int (vi 0), .int (vi 1), .int (vi 2), .int z265, .int 3, .int wv, .long wv_1, .int wv_2, .int ((fi 0) wv.toNatClampNeg), .int (vi 8), .int (vi 9), .int (vi 10)])), ((a 1), .inl (T 0, 940, .inl (fi 0)))]) [0, 1] rfl
                              have hD9 := hD.sub (ws' := [((a 0), .inr (6, [.ref (a 1), .ref (ex 0), .int (vi 0), .int (vi 1), .int (vi 2), .int z265, .int 3, .int wv, .long wv_1, .int wv_2, .int ((fi 0) wv.toNatClampNeg), .int (vi 8), .int (vi 9), .int (vi 10)])), ((a 1), .inl (T 0, 940, .inl (fi 0)))]) [0, 1] (by decide +kernel) rfl
                              rw [hQ]
                              exact W.vret hx hb hr (fun t ht hW => ⟨⟨(0 : Int32), rfl, trivial, xf [], xh [], xv [3, wv, ((fi 0) wv.toNatClampNeg), wv_2, z265], xl [wv_1], by rw [ht]; exact hP9, hD9, ⟨(by show 0 ≤ z265.toInt ∧ z265.toInt ≤ 940; omega), hi, (by unfold R_X6_advance; exact (fun Q9 k9_0 k9_1 k9_2 k9_3 k9_4 k9_5 k9_6 k9_7 k9_8 k9_9 k9_10 k9_11 k9_12 k9_13 k9_14 k9_15 k9_16 k9_17 k9_18 => k9_14 hp0 hp1 hp2 hp3 hp4 wv hi hsk9 hj c60 c71 w2 w1 wv_1 wv_2 wv_3 hi_1 hi_2 hi_3 hat9 hav9 hj_1 z255 ez255 tz255 c256 z265 ez265 tz265 c276 c285 c294 c303 c312 rfl rfl rfl rfl rfl rfl)), trivial⟩⟩, hS.F ht⟩) hS.2.2 dX6_advance_366
                refine lv_aload_n hx hb dX6_advance_156 rfl (lv_at hl 2 rfl) ?_
                refine va_get (D := D) (ci := 6) (v := .int wv_3) (C := RX6) (T := TX6) (N := 14) hx hb htg inX6 hown hK.1 hP 0 rfl rfl 5 (by decide) (htg _ kw_100) (fun _ h9 => h9) rfl dX6_advance_157 ?_
                refine lv_aload_n hx hb dX6_advance_160 rfl (lv_at hl 2 rfl) ?_
                refine va_get (D := D) (ci := 6) (v := .int (vi 1)) (C := RX6) (T := TX6) (N := 14) hx hb htg inX6 hown hK.1 hP 0 rfl rfl 3 (by decide) (htg _ kw_98) (fun _ h9 => h9) rfl dX6_advance_161 ?_
                refine lv_icmp_ge (tgt := 253) hx hb dX6_advance_164 (by decide) (fun c164 => ?_) (fun c164 => ?_)
                · have c164 := Int32.le_iff_toInt_le.mp c164
                  have rc164 := xrng wv_3; have qc164 := xrng (vi 1)
                  exact jn_1 _ _ _ (by show ¬ ((wv_3).toInt < (vi 1).toInt ∧ tal ((fi 0) (wv_3).toNatClampNeg).toInt); omega) (hP.sub [0, 1] rfl) (hD.sub [0, 1] (by decide) rfl) hS (lv_sub hl [0, 1, 2] rfl)
                · have c164 := (mt Int32.le_iff_toInt_le.mpr c164)
                  have rc164 := xrng wv_3; have qc164 := xrng (vi 1)
                  refine lv_aload_n hx hb dX6_advance_167 rfl (lv_at hl 2 rfl) ?_
                  refine va_get (D := D) (ci := 6) (v := .ref (a 1)) (C := RX6) (T := TX6) (N := 14) hx hb htg inX6 hown hK.1 hP 0 rfl rfl 0 (by decide) (htg _ kw_94) (fun _ h9 => h9) rfl dX6_advance_168 ?_
                  refine lv_aload_n hx hb dX6_advance_171 rfl (lv_at hl 2 rfl) ?_
                  refine va_get (D := D) (ci := 6) (v := .int wv_3) (C := RX6) (T := TX6) (N := 14) hx hb htg inX6 hown hK.1 hP 0 rfl rfl 5 (by decide) (htg _ kw_100) (fun _ h9 => h9) rfl dX6_advance_172 ?_
                  refine va_bald hx hb hK.1 hP 1 0 rfl rfl (vp_in_iff.mpr (by omega)) dX6_advance_175 ?_
                  refine lv_istore_n (lv' := [(3, .int ((fi 0) wv_3.toNatClampNeg)), (2, .int w2), (1, .int w1), (0, .ref (a 0))]) hx hb dX6_advance_176 rfl hl (by decide) rfl (fun ls hl => ?_)
                  refine lv_iload_n hx hb dX6_advance_177 rfl (lv_at hl 0 rfl) ?_
                  refine lv_bipush (v := 97) hx hb dX6_advance_178 (by decide) ?_
                  refine lv_icmp_lt (tgt := 209) hx hb dX6_advance_180 (by decide) (fun c180 => ?_) (fun c180 => ?_)
                  · have c180 := xlt (k := 97) (by decide) c180
                    refine lv_iload_n hx hb dX6_advance_209 rfl (lv_at hl 0 rfl) ?_
                    refine lv_bipush (v := 48) hx hb dX6_advance_210 (by decide) ?_
                    refine lv_icmp_lt (tgt := 253) hx hb dX6_advance_212 (by decide) (fun c212 => ?_) (fun c212 => ?_)
                    · have c212 := xlt (k := 48) (by decide) c212
                      exact jn_1 _ _ _ (by show ¬ ((wv_3).toInt < (vi 1).toInt ∧ tal ((fi 0) (wv_3).toNatClampNeg).toInt); omega) (hP.sub [0, 1] rfl) (hD.sub [0, 1] (by decide) rfl) hS (lv_sub hl [1, 2, 3] rfl)
                    · have c212 := xnlt (k := 48) (by decide) c212
                      refine lv_iload_n hx hb dX6_advance_215 rfl (lv_at hl 0 rfl) ?_
                      refine lv_bipush (v := 57) hx hb dX6_advance_216 (by decide) ?_
                      refine lv_icmp_gt (tgt := 253) hx hb dX6_advance_218 (by decide) (fun c218 => ?_) (fun c218 => ?_)
                      · have c218 := xgt (k := 57) (by decide) c218
                        exact jn_1 _ _ _ (by show ¬ ((wv_3).toInt < (vi 1).toInt ∧ tal ((fi 0) (wv_3).toNatClampNeg).toInt); omega) (hP.sub [0, 1] rfl) (hD.sub [0, 1] (by decide) rfl) hS (lv_sub hl [1, 2, 3] rfl)
                      · have c218 := xngt (k := 57) (by decide) c218
                        obtain ⟨i221, ei221⟩ : ∃ z : Int32, w2 + Int32.ofInt 1 = z := ⟨_, rfl⟩
                        have ti221 : i221.toInt = w2.toInt + 1 := by rw [← ei221]; have h79 := xrng w2; exact xadd rfl (by decide) (by omega) (by omega)
                        refine lv_iinc (v := i221) (lv' := [(2, .int i221), (3, .int ((fi 0) wv_3.toNatClampNeg)), (1, .int w1), (0, .ref (a 0))]) hx hb dX6_advance_221 hl (k := 1) rfl ei221 (by decide) rfl (fun ls hl => ?_)
                        refine lv_aload_n hx hb dX6_advance_224 rfl (lv_at hl 3 rfl) ?_
                        refine lv_aload_n hx hb dX6_advance_225 rfl (lv_at hl 3 rfl) ?_
                        refine va_get (D := D) (ci := 6) (v := .int wv_2) (C := RX6) (T := TX6) (N := 14) hx hb htg inX6 hown hK.1 hP 0 rfl rfl 9 (by decide) (htg _ kw_110) (fun _ h9 => h9) rfl dX6_advance_226 ?_
                        refine lv_bipush (v := 10) hx hb dX6_advance_229 (by decide) ?_
                        refine lv_imul hx hb dX6_advance_231 ?_
                        refine lv_topi (fun z231 ez231 => ?_)
                        refine lv_iload_n hx hb dX6_advance_232 rfl (lv_at hl 1 rfl) ?_
                        refine lv_iadd hx hb dX6_advance_233 ?_
                        refine lv_topi (fun z233 ez233 => ?_)
                        refine lv_bipush (v := 48) hx hb dX6_advance_234 (by decide) ?_
                        refine lv_isub hx hb dX6_advance_236 ?_
                        refine lv_topi (fun z236 ez236 => ?_)
                        refine va_put (D := D) (ci := 6) (v := .int z236) (ty := .int) (C := RX6) (T := TX6) (N := 14) hx hb htg inX6 tyX6 tyX6_ok nmX6 hown hK.1 hP hD hS 0 rfl rfl 9 (by decide) (htg _ kw_110) (fun _ h9 => h9) rfl (by decide +kernel) rfl rfl (Nat.le_of_ble_eq_true rfl) dX6_advance_237 (fun H locs hP hD hS => ?_)
                        obtain ⟨hP, hD⟩ := (show xPD D A [((a 0), .inr (6, [.ref (a 1), .ref (ex 0), .int (vi 0), .int (vi 1), .int (vi 2), .int wv_3, .int (vi 4), .int wv, .long wv_1, .int z236, .int ((fi 0) wv.toNatClampNeg), .int (vi 8), .int (vi 9), .int (vi 10)])), ((a 1), .inl (T 0, 940, .inl (fi 0)))] H from ⟨hP, hD⟩)
                        refine lv_aload_n hx hb dX6_advance_240 rfl (lv_at hl 3 rfl) ?_
                        refine lv_dup hx hb dX6_advance_241 rfl ?_
                        refine va_get (D := D) (ci := 6) (v := .int wv_3) (C := RX6) (T := TX6) (N := 14) hx hb htg inX6 hown hK.1 hP 0 rfl rfl 5 (by decide) (htg _ kw_100) (fun _ h9 => h9) rfl dX6_advance_242 ?_
                        refine lv_iconst (v := 1) hx hb dX6_advance_245 (by decide) ?_
                        refine lv_iadd hx hb dX6_advance_246 ?_
                        refine lv_topi (fun z246 ez246 => ?_)
                        have tz246 : z246.toInt = wv_3.toInt + 1 := by rw [ez246]; exact xadd rfl (by decide) (by omega) (by omega)
                        refine va_put (D := D) (ci := 6) (v := .int z246) (ty := .int) (C := RX6) (T := TX6) (N := 14) hx hb htg inX6 tyX6 tyX6_ok nmX6 hown hK.1 hP hD hS 0 rfl rfl 5 (by decide) (htg _ kw_100) (fun _ h9 => h9) rfl (by decide +kernel) rfl rfl (Nat.le_of_ble_eq_true rfl) dX6_advance_247 (fun H locs hP hD hS => ?_)
                        obtain ⟨hP, hD⟩ := (show xPD D A [((a 0), .inr (6, [.ref (a 1), .ref (ex 0), .int (vi 0), .int (vi 1), .int (vi 2), .int z246, .int (vi 4), .int wv, .long wv_1, .int z236, .int ((fi 0) wv.toNatClampNeg), .int (vi 8), .int (vi 9), .int (vi 10)])), ((a 1), .inl (T 0, 940, .inl (fi 0)))] H from ⟨hP, hD⟩)
                        refine lv_goto (tgt := 156) hx hb dX6_advance_250 (by decide) ?_
                        exact ih_1 _ (by omega) i221 w1 wv_1 z236 z246 _ _ _ (by show 0 ≤ i221.toInt ∧ i221.toInt ≤ 940; omega) hi_2 (by show 0 ≤ z246.toInt ∧ z246.toInt ≤ 940; omega) (by show (z246).toInt = (wv).toInt + w1.toInt + i221.toInt; omega) (by show av2 (fi 0) (vi 1).toInt (wv).toInt (z246).toInt w1.toInt i221.toInt wv_1 z236; rw [ez236, ez233, ez231]; exact av2_d hav9 (by omega) (by omega) (by omega) (by omega)) rfl (hP.sub [0, 1] rfl) (hD.sub [0, 1] (by decide) rfl) hS (lv_sub hl [0, 2, 3] rfl)
                  · have c180 := xnlt (k := 97) (by decide) c180
                    refine lv_iload_n hx hb dX6_advance_183 rfl (lv_at hl 0 rfl) ?_
                    refine lv_bipush (v := 122) hx hb dX6_advance_184 (by decide) ?_
                    refine lv_icmp_gt (tgt := 209) hx hb dX6_advance_186 (by decide) (fun c186 => ?_) (fun c186 => ?_)
                    · have c186 := xgt (k := 122) (by decide) c186
                      refine lv_iload_n hx hb dX6_advance_209 rfl (lv_at hl 0 rfl) ?_
                      refine lv_bipush (v := 48) hx hb dX6_advance_210 (by decide) ?_
                      refine lv_icmp_lt (tgt := 253) hx hb dX6_advance_212 (by decide) (fun c => by exfalso; have h9 := xlt (k := 48) (by decide) c; have h7 := xrng ((fi 0) wv_3.toNatClampNeg); omega) (fun _ => ?_)
                      refine lv_iload_n hx hb dX6_advance_215 rfl (lv_at hl 0 rfl) ?_
                      refine lv_bipush (v := 57) hx hb dX6_advance_216 (by decide) ?_
                      refine lv_icmp_gt (tgt := 253) hx hb dX6_advance_218 (by decide) (fun _ => ?_) (fun c => by exfalso; have h9 := xngt (k := 57) (by decide) c; have h7 := xrng ((fi 0) wv_3.toNatClampNeg); omega)
                      exact jn_1 _ _ _ (by show ¬ ((wv_3).toInt < (vi 1).toInt ∧ tal ((fi 0) (wv_3).toNatClampNeg).toInt); omega) (hP.sub [0, 1] rfl) (hD.sub [0, 1] (by decide) rfl) hS (lv_sub hl [1, 2, 3] rfl)
                    · have c186 := xngt (k := 122) (by decide) c186
                      obtain ⟨i189, ei189⟩ : ∃ z : Int32, w1 + Int32.ofInt 1 = z := ⟨_, rfl⟩
                      have ti189 : i189.toInt = w1.toInt + 1 := by rw [← ei189]; have h79 := xrng w1; exact xadd rfl (by decide) (by omega) (by omega)
                      refine lv_iinc (v := i189) (lv' := [(1, .int i189), (3, .int ((fi 0) wv_3.toNatClampNeg)), (2, .int w2), (0, .ref (a 0))]) hx hb dX6_advance_189 hl (k := 2) rfl ei189 (by decide) rfl (fun ls hl => ?_)
                      refine lv_aload_n hx hb dX6_advance_192 rfl (lv_at hl 3 rfl) ?_
                      refine lv_aload_n hx hb dX6_advance_193 rfl (lv_at hl 3 rfl) ?_
                      refine va_get (D := D) (ci := 6) (v := .long wv_1) (C := RX6) (T := TX6) (N := 14) hx hb htg inX6 hown hK.1 hP 0 rfl rfl 8 (by decide) (htg _ kw_108) (fun _ h9 => h9) rfl dX6_advance_194 ?_
                      refine lv_bipush (v := 8) hx hb dX6_advance_197 (by decide) ?_
                      refine lv_lshl hx hb dX6_advance_199 rfl ?_
                      refine lv_topl (fun z199 ez199 => ?_)
                      refine lv_iload_n hx hb dX6_advance_200 rfl (lv_at hl 1 rfl) ?_
                      refine lv_i2l hx hb dX6_advance_201 rfl ?_
                      refine lv_topl (fun z201 ez201 => ?_)
                      refine lv_lor hx hb dX6_advance_202 ?_
                      refine lv_topl (fun z202 ez202 => ?_)
                      refine va_put (D := D) (ci := 6) (v := .long z202) (ty := .long) (C := RX6) (T := TX6) (N := 14) hx hb htg inX6 tyX6 tyX6_ok nmX6 hown hK.1 hP hD hS 0 rfl rfl 8 (by decide) (htg _ kw_108) (fun _ h9 => h9) rfl (by decide +kernel) rfl rfl (Nat.le_of_ble_eq_true rfl) dX6_advance_203 (fun H locs hP hD hS => ?_)
                      obtain ⟨hP, hD⟩ := (show xPD D A [((a 0), .inr (6, [.ref (a 1), .ref (ex 0), .int (vi 0), .int (vi 1), .int (vi 2), .int wv_3, .int (vi 4), .int wv, .long z202, .int wv_2, .int ((fi 0) wv.toNatClampNeg), .int (vi 8), .int (vi 9), .int (vi 10)])), ((a 1), .inl (T 0, 940, .inl (fi 0)))] H from ⟨hP, hD⟩)
                      refine lv_goto (tgt := 240) hx hb dX6_advance_206 (by decide) ?_
                      refine lv_aload_n hx hb dX6_advance_240 rfl (lv_at hl 3 rfl) ?_
                      refine lv_dup hx hb dX6_advance_241 rfl ?_
                      refine va_get (D := D) (ci := 6) (v := .int wv_3) (C := RX6) (T := TX6) (N := 14) hx hb htg inX6 hown hK.1 hP 0 rfl rfl 5 (by decide) (htg _ kw_100) (fun _ h9 => h9) rfl dX6_advance_242 ?_
                      refine lv_iconst (v := 1) hx hb dX6_advance_245 (by decide) ?_
                      refine lv_iadd hx hb dX6_advance_246 ?_
                      refine lv_topi (fun z246_1 ez246_1 => ?_)
                      have tz246_1 : z246_1.toInt = wv_3.toInt + 1 := by rw [ez246_1]; exact xadd rfl (by decide) (by omega) (by omega)
                      refine va_put (D := D) (ci := 6) (v := .int z246_1) (ty := .int) (C := RX6) (T := TX6) (N := 14) hx hb htg inX6 tyX6 tyX6_ok nmX6 hown hK.1 hP hD hS 0 rfl rfl 5 (by decide) (htg _ kw_100) (fun _ h9 => h9) rfl (by decide +kernel) rfl rfl (Nat.le_of_ble_eq_true rfl) dX6_advance_247 (fun H locs hP hD hS => ?_)
                      obtain ⟨hP, hD⟩ := (show xPD D A [((a 0), .inr (6, [.ref (a 1), .ref (ex 0), .int (vi 0), .int (vi 1), .int (vi 2), .int z246_1, .int (vi 4), .int wv, .long z202, .int wv_2, .int ((fi 0) wv.toNatClampNeg), .int (vi 8), .int (vi 9), .int (vi 10)])), ((a 1), .inl (T 0, 940, .inl (fi 0)))] H from ⟨hP, hD⟩)
                      refine lv_goto (tgt := 156) hx hb dX6_advance_250 (by decide) ?_
                      exact ih_1 _ (by omega) w2 i189 z202 wv_2 z246_1 _ _ _ hi_1 (by show 0 ≤ i189.toInt ∧ i189.toInt ≤ 940; omega) (by show 0 ≤ z246_1.toInt ∧ z246_1.toInt ≤ 940; omega) (by show (z246_1).toInt = (wv).toInt + i189.toInt + w2.toInt; omega) (by show av2 (fi 0) (vi 1).toInt (wv).toInt (z246_1).toInt i189.toInt w2.toInt z202 wv_2; rw [ez202, ez199, ez201]; exact av2_l hav9 (by omega) (by omega) (by omega) (by omega)) rfl (hP.sub [0, 1] rfl) (hD.sub [0, 1] (by decide) rfl) hS (lv_sub hl [2, 0, 3] rfl)
            exact lp_1 _ (0 : Int32) (0 : Int32) (0 : Int64) (0 : Int32) wv _ _ _ (show 0 ≤ (0 : Int32).toInt ∧ (0 : Int32).toInt ≤ 940 by decide) (show 0 ≤ (0 : Int32).toInt ∧ (0 : Int32).toInt ≤ 940 by decide) hi (by show (wv).toInt = (wv).toInt + (0 : Int32).toInt + (0 : Int32).toInt; have k9_0 : (0 : Int32).toInt = 0 := (by decide); omega) (by show av2 (fi 0) (vi 1).toInt (wv).toInt (wv).toInt (0 : Int32).toInt (0 : Int32).toInt 0 (0 : Int32); have k9_0 : (0 : Int32).toInt = 0 := (by decide); exact av2_0 (by omega) (by omega) (by decide) (by decide)) rfl hP hD hS hl
          · have c71 := (mt Int32.lt_iff_toInt_lt.mpr c71)
            have rc71 := xrng wv; have qc71 := xrng (vi 2)
            refine lv_aload_n hx hb dX6_advance_74 rfl (lv_at hl 0 rfl) ?_
            refine lv_aload_n hx hb dX6_advance_75 rfl (lv_at hl 0 rfl) ?_
            refine va_get (D := D) (ci := 6) (v := .int (vi 1)) (C := RX6) (T := TX6) (N := 14) hx hb htg inX6 hown hK.1 hP 0 rfl rfl 3 (by decide) (htg _ kw_98) (fun _ h9 => h9) rfl dX6_advance_76 ?_
            refine lv_aload_n hx hb dX6_advance_79 rfl (lv_at hl 0 rfl) ?_
            refine va_get (D := D) (ci := 6) (v := .int (vi 2)) (C := RX6) (T := TX6) (N := 14) hx hb htg inX6 hown hK.1 hP 0 rfl rfl 4 (by decide) (htg _ kw_99) (fun _ h9 => h9) rfl dX6_advance_80 ?_
            refine lv_icmp_le (tgt := 90) hx hb dX6_advance_83 (by decide) (fun c83_1 => ?_) (fun c83_1 => ?_)
            · have c83_1 := Int32.le_iff_toInt_le.mp c83_1
              have rc83_1 := xrng (vi 1); have qc83_1 := xrng (vi 2)
              refine lv_iconst (v := 0) hx hb dX6_advance_90 (by decide) ?_
              refine va_put (D := D) (ci := 6) (v := .int 0) (ty := .int) (C := RX6) (T := TX6) (N := 14) hx hb htg inX6 tyX6 tyX6_ok nmX6 hown hK.1 hP hD hS 0 rfl rfl 6 (by decide) (htg _ kw_104) (fun _ h9 => h9) rfl (by decide +kernel) rfl rfl (Nat.le_of_ble_eq_true rfl) dX6_advance_91 (fun H locs hP hD hS => ?_)
              obtain ⟨hP, hD⟩ := (show xPD D A [((a 0), .inr (6, [.ref (a 1), .ref (ex 0), .int (vi 0), .int (vi 1), .int (vi 2), .int wv, .int 0, .int (vi 5), .long (vl 0), .int (vi 6), .int (vi 7), .int (vi 8), .int (vi 9), .int (vi 10)])), ((a 1), .inl (T 0, 940, .inl (fi 0)))] H from ⟨hP, hD⟩)
              refine lv_aload_n hx hb dX6_advance_94 rfl (lv_at hl 0 rfl) ?_
              refine lv_aload_n hx hb dX6_advance_95 rfl (lv_at hl 0 rfl) ?_
              refine va_get (D := D) (ci := 6) (v := .int (vi 1)) (C := RX6) (T := TX6) (N := 14) hx hb htg inX6 hown hK.1 hP 0 rfl rfl 3 (by decide) (htg _ kw_98) (fun _ h9 => h9) rfl dX6_advance_96 ?_
              refine lv_aload_n hx hb dX6_advance_99 rfl (lv_at hl 0 rfl) ?_
              refine va_get (D := D) (ci := 6) (v := .int (vi 2)) (C := RX6) (T := TX6) (N := 14) hx hb htg inX6 hown hK.1 hP 0 rfl rfl 4 (by decide) (htg _ kw_99) (fun _ h9 => h9) rfl dX6_advance_100 ?_
              refine lv_icmp_le (tgt := 113) hx hb dX6_advance_103 (by decide) (fun c103_2 => ?_) (fun c103_2 => ?_)
              · have c103_2 := Int32.le_iff_toInt_le.mp c103_2
                have rc103_2 := xrng (vi 1); have qc103_2 := xrng (vi 2)
                refine lv_aload_n hx hb dX6_advance_113 rfl (lv_at hl 0 rfl) ?_
                refine va_get (D := D) (ci := 6) (v := .int (vi 1)) (C := RX6) (T := TX6) (N := 14) hx hb htg inX6 hown hK.1 hP 0 rfl rfl 3 (by decide) (htg _ kw_98) (fun _ h9 => h9) rfl dX6_advance_114 ?_
                refine va_put (D := D) (ci := 6) (v := .int (vi 1)) (ty := .int) (C := RX6) (T := TX6) (N := 14) hx hb htg inX6 tyX6 tyX6_ok nmX6 hown hK.1 hP hD hS 0 rfl rfl 7 (by decide) (htg _ kw_105) (fun _ h9 => h9) rfl (by decide +kernel) rfl rfl (Nat.le_of_ble_eq_true rfl) dX6_advance_117 (fun H locs hP hD hS => ?_)
                obtain ⟨hP, hD⟩ := (show xPD D A [((a 0), .inr (6, [.ref (a 1), .ref (ex 0), .int (vi 0), .int (vi 1), .int (vi 2), .int wv, .int 0, .int (vi 1), .long (vl 0), .int (vi 6), .int (vi 7), .int (vi 8), .int (vi 9), .int (vi 10)])), ((a 1), .inl (T 0, 940, .inl (fi 0)))] H from ⟨hP, hD⟩)
                have hP9 := hP.sub (ws' := [((a 0), .inr (6, [.ref (a 1), .ref (ex 0), .int (vi 0), .int (vi 1), .int (vi 2), .int wv, .int 0, .int (vi 1), .long (vl 0), .int (vi 6), .int (vi 7), .int (vi 8), .int (vi 9), .int (vi 10)])), ((a 1), .inl (T 0, 940, .inl (fi 0)))]) [0, 1] rfl
                have hD9 := hD.sub (ws' := [((a 0), .inr (6, [.ref (a 1), .ref (ex 0), .int (vi 0), .int (vi 1), .int (vi 2), .int wv, .int 0, .int (vi 1), .long (vl 0), .int (vi 6), .int (vi 7), .int (vi 8), .int (vi 9), .int (vi 10)])), ((a 1), .inl (T 0, 940, .inl (fi 0)))]) [0, 1] (by decide +kernel) rfl
                rw [hQ]
                exact W.vret hx hb hr (fun t ht hW => ⟨⟨(0 : Int32), rfl, trivial, xf [], xh [], xv [0, (vi 1), (vi 7), (vi 6), wv], xl [(vl 0)], by rw [ht]; exact hP9, hD9, ⟨hi, hp0, (by unfold R_X6_advance; exact (fun Q9 k9_0 k9_1 k9_2 k9_3 k9_4 k9_5 k9_6 k9_7 k9_8 k9_9 k9_10 k9_11 k9_12 k9_13 k9_14 k9_15 k9_16 k9_17 k9_18 => k9_15 hp0 hp1 hp2 hp3 hp4 wv hi hsk9 hj c60 c71 c83_1 c103_2 rfl rfl rfl rfl rfl rfl)), trivial⟩⟩, hS.F ht⟩) hS.2.2 dX6_advance_120
              · have c103_2 := (mt Int32.le_iff_toInt_le.mpr c103_2)
                have rc103_2 := xrng (vi 1); have qc103_2 := xrng (vi 2)
                refine lv_aload_n hx hb dX6_advance_106 rfl (lv_at hl 0 rfl) ?_
                refine va_get (D := D) (ci := 6) (v := .int (vi 2)) (C := RX6) (T := TX6) (N := 14) hx hb htg inX6 hown hK.1 hP 0 rfl rfl 4 (by decide) (htg _ kw_99) (fun _ h9 => h9) rfl dX6_advance_107 ?_
                refine lv_goto (tgt := 117) hx hb dX6_advance_110 (by decide) ?_
                refine va_put (D := D) (ci := 6) (v := .int (vi 2)) (ty := .int) (C := RX6) (T := TX6) (N := 14) hx hb htg inX6 tyX6 tyX6_ok nmX6 hown hK.1 hP hD hS 0 rfl rfl 7 (by decide) (htg _ kw_105) (fun _ h9 => h9) rfl (by decide +kernel) rfl rfl (Nat.le_of_ble_eq_true rfl) dX6_advance_117 (fun H locs hP hD hS => ?_)
                obtain ⟨hP, hD⟩ := (show xPD D A [((a 0), .inr (6, [.ref (a 1), .ref (ex 0), .int (vi 0), .int (vi 1), .int (vi 2), .int wv, .int 0, .int (vi 2), .long (vl 0), .int (vi 6), .int (vi 7), .int (vi 8), .int (vi 9), .int (vi 10)])), ((a 1), .inl (T 0, 940, .inl (fi 0)))] H from ⟨hP, hD⟩)
                have hP9 := hP.sub (ws' := [((a 0), .inr (6, [.ref (a 1), .ref (ex 0), .int (vi 0), .int (vi 1), .int (vi 2), .int wv, .int 0, .int (vi 2), .long (vl 0), .int (vi 6), .int (vi 7), .int (vi 8), .int (vi 9), .int (vi 10)])), ((a 1), .inl (T 0, 940, .inl (fi 0)))]) [0, 1] rfl
                have hD9 := hD.sub (ws' := [((a 0), .inr (6, [.ref (a 1), .ref (ex 0), .int (vi 0), .int (vi 1), .int (vi 2), .int wv, .int 0, .int (vi 2), .long (vl 0), .int (vi 6), .int (vi 7), .int (vi 8), .int (vi 9), .int (vi 10)])), ((a 1), .inl (T 0, 940, .inl (fi 0)))]) [0, 1] (by decide +kernel) rfl
                rw [hQ]
                exact W.vret hx hb hr (fun t ht hW => ⟨⟨(0 : Int32), rfl, trivial, xf [], xh [], xv [0, (vi 2), (vi 7), (vi 6), wv], xl [(vl 0)], by rw [ht]; exact hP9, hD9, ⟨hi, hp1, (by unfold R_X6_advance; exact (fun Q9 k9_0 k9_1 k9_2 k9_3 k9_4 k9_5 k9_6 k9_7 k9_8 k9_9 k9_10 k9_11 k9_12 k9_13 k9_14 k9_15 k9_16 k9_17 k9_18 => k9_16 hp0 hp1 hp2 hp3 hp4 wv hi hsk9 hj c60 c71 c83_1 c103_2 rfl rfl rfl rfl rfl rfl)), trivial⟩⟩, hS.F ht⟩) hS.2.2 dX6_advance_120
            · have c83_1 := (mt Int32.le_iff_toInt_le.mpr c83_1)
              have rc83_1 := xrng (vi 1); have qc83_1 := xrng (vi 2)
              refine lv_iconst (v := 4) hx hb dX6_advance_86 (by decide) ?_
              refine lv_goto (tgt := 91) hx hb dX6_advance_87 (by decide) ?_
              refine va_put (D := D) (ci := 6) (v := .int 4) (ty := .int) (C := RX6) (T := TX6) (N := 14) hx hb htg inX6 tyX6 tyX6_ok nmX6 hown hK.1 hP hD hS 0 rfl rfl 6 (by decide) (htg _ kw_104) (fun _ h9 => h9) rfl (by decide +kernel) rfl rfl (Nat.le_of_ble_eq_true rfl) dX6_advance_91 (fun H locs hP hD hS => ?_)
              obtain ⟨hP, hD⟩ := (show xPD D A [((a 0), .inr (6, [.ref (a 1), .ref (ex 0), .int (vi 0), .int (vi 1), .int (vi 2), .int wv, .int 4, .int (vi 5), .long (vl 0), .int (vi 6), .int (vi 7), .int (vi 8), .int (vi 9), .int (vi 10)])), ((a 1), .inl (T 0, 940, .inl (fi 0)))] H from ⟨hP, hD⟩)
              refine lv_aload_n hx hb dX6_advance_94 rfl (lv_at hl 0 rfl) ?_
              refine lv_aload_n hx hb dX6_advance_95 rfl (lv_at hl 0 rfl) ?_
              refine va_get (D := D) (ci := 6) (v := .int (vi 1)) (C := RX6) (T := TX6) (N := 14) hx hb htg inX6 hown hK.1 hP 0 rfl rfl 3 (by decide) (htg _ kw_98) (fun _ h9 => h9) rfl dX6_advance_96 ?_
              refine lv_aload_n hx hb dX6_advance_99 rfl (lv_at hl 0 rfl) ?_
              refine va_get (D := D) (ci := 6) (v := .int (vi 2)) (C := RX6) (T := TX6) (N := 14) hx hb htg inX6 hown hK.1 hP 0 rfl rfl 4 (by decide) (htg _ kw_99) (fun _ h9 => h9) rfl dX6_advance_100 ?_
              refine lv_icmp_le (tgt := 113) hx hb dX6_advance_103 (by decide) (fun c103_3 => ?_) (fun c103_3 => ?_)
              · have c103_3 := Int32.le_iff_toInt_le.mp c103_3
                have rc103_3 := xrng (vi 1); have qc103_3 := xrng (vi 2)
                refine lv_aload_n hx hb dX6_advance_113 rfl (lv_at hl 0 rfl) ?_
                refine va_get (D := D) (ci := 6) (v := .int (vi 1)) (C := RX6) (T := TX6) (N := 14) hx hb htg inX6 hown hK.1 hP 0 rfl rfl 3 (by decide) (htg _ kw_98) (fun _ h9 => h9) rfl dX6_advance_114 ?_
                refine va_put (D := D) (ci := 6) (v := .int (vi 1)) (ty := .int) (C := RX6) (T := TX6) (N := 14) hx hb htg inX6 tyX6 tyX6_ok nmX6 hown hK.1 hP hD hS 0 rfl rfl 7 (by decide) (htg _ kw_105) (fun _ h9 => h9) rfl (by decide +kernel) rfl rfl (Nat.le_of_ble_eq_true rfl) dX6_advance_117 (fun H locs hP hD hS => ?_)
                obtain ⟨hP, hD⟩ := (show xPD D A [((a 0), .inr (6, [.ref (a 1), .ref (ex 0), .int (vi 0), .int (vi 1), .int (vi 2), .int wv, .int 4, .int (vi 1), .long (vl 0), .int (vi 6), .int (vi 7), .int (vi 8), .int (vi 9), .int (vi 10)])), ((a 1), .inl (T 0, 940, .inl (fi 0)))] H from ⟨hP, hD⟩)
                have hP9 := hP.sub (ws' := [((a 0), .inr (6, [.ref (a 1), .ref (ex 0), .int (vi 0), .int (vi 1), .int (vi 2), .int wv, .int 4, .int (vi 1), .long (vl 0), .int (vi 6), .int (vi 7), .int (vi 8), .int (vi 9), .int (vi 10)])), ((a 1), .inl (T 0, 940, .inl (fi 0)))]) [0, 1] rfl
                have hD9 := hD.sub (ws' := [((a 0), .inr (6, [.ref (a 1), .ref (ex 0), .int (vi 0), .int (vi 1), .int (vi 2), .int wv, .int 4, .int (vi 1), .long (vl 0), .int (vi 6), .int (vi 7), .int (vi 8), .int (vi 9), .int (vi 10)])), ((a 1), .inl (T 0, 940, .inl (fi 0)))]) [0, 1] (by decide +kernel) rfl
                rw [hQ]
                exact W.vret hx hb hr (fun t ht hW => ⟨⟨(0 : Int32), rfl, trivial, xf [], xh [], xv [4, (vi 1), (vi 7), (vi 6), wv], xl [(vl 0)], by rw [ht]; exact hP9, hD9, ⟨hi, hp0, (by unfold R_X6_advance; exact (fun Q9 k9_0 k9_1 k9_2 k9_3 k9_4 k9_5 k9_6 k9_7 k9_8 k9_9 k9_10 k9_11 k9_12 k9_13 k9_14 k9_15 k9_16 k9_17 k9_18 => k9_17 hp0 hp1 hp2 hp3 hp4 wv hi hsk9 hj c60 c71 c83_1 c103_3 rfl rfl rfl rfl rfl rfl)), trivial⟩⟩, hS.F ht⟩) hS.2.2 dX6_advance_120
              · have c103_3 := (mt Int32.le_iff_toInt_le.mpr c103_3)
                have rc103_3 := xrng (vi 1); have qc103_3 := xrng (vi 2)
                refine lv_aload_n hx hb dX6_advance_106 rfl (lv_at hl 0 rfl) ?_
                refine va_get (D := D) (ci := 6) (v := .int (vi 2)) (C := RX6) (T := TX6) (N := 14) hx hb htg inX6 hown hK.1 hP 0 rfl rfl 4 (by decide) (htg _ kw_99) (fun _ h9 => h9) rfl dX6_advance_107 ?_
                refine lv_goto (tgt := 117) hx hb dX6_advance_110 (by decide) ?_
                refine va_put (D := D) (ci := 6) (v := .int (vi 2)) (ty := .int) (C := RX6) (T := TX6) (N := 14) hx hb htg inX6 tyX6 tyX6_ok nmX6 hown hK.1 hP hD hS 0 rfl rfl 7 (by decide) (htg _ kw_105) (fun _ h9 => h9) rfl (by decide +kernel) rfl rfl (Nat.le_of_ble_eq_true rfl) dX6_advance_117 (fun H locs hP hD hS => ?_)
                obtain ⟨hP, hD⟩ := (show xPD D A [((a 0), .inr (6, [.ref (a 1), .ref (ex 0), .int (vi 0), .int (vi 1), .int (vi 2), .int wv, .int 4, .int (vi 2), .long (vl 0), .int (vi 6), .int (vi 7), .int (vi 8), .int (vi 9), .int (vi 10)])), ((a 1), .inl (T 0, 940, .inl (fi 0)))] H from ⟨hP, hD⟩)
                have hP9 := hP.sub (ws' := [((a 0), .inr (6, [.ref (a 1), .ref (ex 0), .int (vi 0), .int (vi 1), .int (vi 2), .int wv, .int 4, .int (vi 2), .long (vl 0), .int (vi 6), .int (vi 7), .int (vi 8), .int (vi 9), .int (vi 10)])), ((a 1), .inl (T 0, 940, .inl (fi 0)))]) [0, 1] rfl
                have hD9 := hD.sub (ws' := [((a 0), .inr (6, [.ref (a 1), .ref (ex 0), .int (vi 0), .int (vi 1), .int (vi 2), .int wv, .int 4, .int (vi 2), .long (vl 0), .int (vi 6), .int (vi 7), .int (vi 8), .int (vi 9), .int (vi 10)])), ((a 1), .inl (T 0, 940, .inl (fi 0)))]) [0, 1] (by decide +kernel) rfl
                rw [hQ]
                exact W.vret hx hb hr (fun t ht hW => ⟨⟨(0 : Int32), rfl, trivial, xf [], xh [], xv [4, (vi 2), (vi 7), (vi 6), wv], xl [(vl 0)], by rw [ht]; exact hP9, hD9, ⟨hi, hp1, (by unfold R_X6_advance; exact (fun Q9 k9_0 k9_1 k9_2 k9_3 k9_4 k9_5 k9_6 k9_7 k9_8 k9_9 k9_10 k9_11 k9_12 k9_13 k9_14 k9_15 k9_16 k9_17 k9_18 => k9_18 hp0 hp1 hp2 hp3 hp4 wv hi hsk9 hj c60 c71 c83_1 c103_3 rfl rfl rfl rfl rfl rfl)), trivial⟩⟩, hS.F ht⟩) hS.2.2 dX6_advance_120
      refine lv_aload_n hx hb dX6_advance_0 rfl (lv_at hl 0 rfl) ?_
      refine va_get (D := D) (ci := 6) (v := .int wv) (C := RX6) (T := TX6) (N := 14) hx hb htg inX6 hown hK.1 hP 0 rfl rfl 5 (by decide) (htg _ kw_100) (fun _ h9 => h9) rfl dX6_advance_1 ?_
      refine lv_aload_n hx hb dX6_advance_4 rfl (lv_at hl 0 rfl) ?_
      refine va_get (D := D) (ci := 6) (v := .int (vi 1)) (C := RX6) (T := TX6) (N := 14) hx hb htg inX6 hown hK.1 hP 0 rfl rfl 3 (by decide) (htg _ kw_98) (fun _ h9 => h9) rfl dX6_advance_5 ?_
      refine lv_icmp_ge (tgt := 52) hx hb dX6_advance_8 (by decide) (fun c8 => ?_) (fun c8 => ?_)
      · have c8 := Int32.le_iff_toInt_le.mp c8
        have rc8 := xrng wv; have qc8 := xrng (vi 1)
        exact jn _ _ _ (by show ¬ ((wv).toInt < (vi 1).toInt ∧ tbl ((fi 0) (wv).toNatClampNeg).toInt); omega) (hP.sub [0, 1] rfl) (hD.sub [0, 1] (by decide) rfl) hS (lv_sub hl [0] rfl)
      · have c8 := (mt Int32.le_iff_toInt_le.mpr c8)
        have rc8 := xrng wv; have qc8 := xrng (vi 1)
        refine lv_aload_n hx hb dX6_advance_11 rfl (lv_at hl 0 rfl) ?_
        refine va_get (D := D) (ci := 6) (v := .ref (a 1)) (C := RX6) (T := TX6) (N := 14) hx hb htg inX6 hown hK.1 hP 0 rfl rfl 0 (by decide) (htg _ kw_94) (fun _ h9 => h9) rfl dX6_advance_12 ?_
        refine lv_aload_n hx hb dX6_advance_15 rfl (lv_at hl 0 rfl) ?_
        refine va_get (D := D) (ci := 6) (v := .int wv) (C := RX6) (T := TX6) (N := 14) hx hb htg inX6 hown hK.1 hP 0 rfl rfl 5 (by decide) (htg _ kw_100) (fun _ h9 => h9) rfl dX6_advance_16 ?_
        refine va_bald hx hb hK.1 hP 1 0 rfl rfl (vp_in_iff.mpr (by omega)) dX6_advance_19 ?_
        refine lv_bipush (v := 32) hx hb dX6_advance_20 (by decide) ?_
        refine lv_icmp_eq (tgt := 39) hx hb dX6_advance_22 (by decide) (fun c22 => ?_) (fun c22 => ?_)
        · have c22 := xeq (k := 32) (by decide) c22
          refine lv_aload_n hx hb dX6_advance_39 rfl (lv_at hl 0 rfl) ?_
          refine lv_dup hx hb dX6_advance_40 rfl ?_
          refine va_get (D := D) (ci := 6) (v := .int wv) (C := RX6) (T := TX6) (N := 14) hx hb htg inX6 hown hK.1 hP 0 rfl rfl 5 (by decide) (htg _ kw_100) (fun _ h9 => h9) rfl dX6_advance_41 ?_
          refine lv_iconst (v := 1) hx hb dX6_advance_44 (by decide) ?_
          refine lv_iadd hx hb dX6_advance_45 ?_
          refine lv_topi (fun z45 ez45 => ?_)
          have tz45 : z45.toInt = wv.toInt + 1 := by rw [ez45]; exact xadd rfl (by decide) (by omega) (by omega)
          refine va_put (D := D) (ci := 6) (v := .int z45) (ty := .int) (C := RX6) (T := TX6) (N := 14) hx hb htg inX6 tyX6 tyX6_ok nmX6 hown hK.1 hP hD hS 0 rfl rfl 5 (by decide) (htg _ kw_100) (fun _ h9 => h9) rfl (by decide +kernel) rfl rfl (Nat.le_of_ble_eq_true rfl) dX6_advance_46 (fun H locs hP hD hS => ?_)
          obtain ⟨hP, hD⟩ := (show xPD D A [((a 0), .inr (6, [.ref (a 1), .ref (ex 0), .int (vi 0), .int (vi 1), .int (vi 2), .int z45, .int (vi 4), .int (vi 5), .long (vl 0), .int (vi 6), .int (vi 7), .int (vi 8), .int (vi 9), .int (vi 10)])), ((a 1), .inl (T 0, 940, .inl (fi 0)))] H from ⟨hP, hD⟩)
          refine lv_goto (tgt := 0) hx hb dX6_advance_49 (by decide) ?_
          exact ih _ (by omega) z45 _ _ _ (by show 0 ≤ z45.toInt ∧ z45.toInt ≤ 940; omega) (by show skp (fi 0) (vi 1).toInt (vi 3).toInt (z45).toInt; exact skp_s hsk9 (by omega) (by omega) (by omega) (by first | exact Or.inl (by assumption) | exact Or.inr (by assumption))) rfl (hP.sub [0, 1] rfl) (hD.sub [0, 1] (by decide) rfl) hS (lv_sub hl [0] rfl)
        · have c22 := xne (k := 32) (by decide) c22
          refine lv_aload_n hx hb dX6_advance_25 rfl (lv_at hl 0 rfl) ?_
          refine va_get (D := D) (ci := 6) (v := .ref (a 1)) (C := RX6) (T := TX6) (N := 14) hx hb htg inX6 hown hK.1 hP 0 rfl rfl 0 (by decide) (htg _ kw_94) (fun _ h9 => h9) rfl dX6_advance_26 ?_
          refine lv_aload_n hx hb dX6_advance_29 rfl (lv_at hl 0 rfl) ?_
          refine va_get (D := D) (ci := 6) (v := .int wv) (C := RX6) (T := TX6) (N := 14) hx hb htg inX6 hown hK.1 hP 0 rfl rfl 5 (by decide) (htg _ kw_100) (fun _ h9 => h9) rfl dX6_advance_30 ?_
          refine va_bald hx hb hK.1 hP 1 0 rfl rfl (vp_in_iff.mpr (by omega)) dX6_advance_33 ?_
          refine lv_bipush (v := 10) hx hb dX6_advance_34 (by decide) ?_
          refine lv_icmp_ne (tgt := 52) hx hb dX6_advance_36 (by decide) (fun c36 => ?_) (fun c36 => ?_)
          · have c36 := xne (k := 10) (by decide) c36
            exact jn _ _ _ (by show ¬ ((wv).toInt < (vi 1).toInt ∧ tbl ((fi 0) (wv).toNatClampNeg).toInt); omega) (hP.sub [0, 1] rfl) (hD.sub [0, 1] (by decide) rfl) hS (lv_sub hl [0] rfl)
          · have c36 := xeq (k := 10) (by decide) c36
            refine lv_aload_n hx hb dX6_advance_39 rfl (lv_at hl 0 rfl) ?_
            refine lv_dup hx hb dX6_advance_40 rfl ?_
            refine va_get (D := D) (ci := 6) (v := .int wv) (C := RX6) (T := TX6) (N := 14) hx hb htg inX6 hown hK.1 hP 0 rfl rfl 5 (by decide) (htg _ kw_100) (fun _ h9 => h9) rfl dX6_advance_41 ?_
            refine lv_iconst (v := 1) hx hb dX6_advance_44 (by decide) ?_
            refine lv_iadd hx hb dX6_advance_45 ?_
            refine lv_topi (fun z45_1 ez45_1 => ?_)
            have tz45_1 : z45_1.toInt = wv.toInt + 1 := by rw [ez45_1]; exact xadd rfl (by decide) (by omega) (by omega)
            refine va_put (D := D) (ci := 6) (v := .int z45_1) (ty := .int) (C := RX6) (T := TX6) (N := 14) hx hb htg inX6 tyX6 tyX6_ok nmX6 hown hK.1 hP hD hS 0 rfl rfl 5 (by decide) (htg _ kw_100) (fun _ h9 => h9) rfl (by decide +kernel) rfl rfl (Nat.le_of_ble_eq_true rfl) dX6_advance_46 (fun H locs hP hD hS => ?_)
            obtain ⟨hP, hD⟩ := (show xPD D A [((a 0), .inr (6, [.ref (a 1), .ref (ex 0), .int (vi 0), .int (vi 1), .int (vi 2), .int z45_1, .int (vi 4), .int (vi 5), .long (vl 0), .int (vi 6), .int (vi 7), .int (vi 8), .int (vi 9), .int (vi 10)])), ((a 1), .inl (T 0, 940, .inl (fi 0)))] H from ⟨hP, hD⟩)
            refine lv_goto (tgt := 0) hx hb dX6_advance_49 (by decide) ?_
            exact ih _ (by omega) z45_1 _ _ _ (by show 0 ≤ z45_1.toInt ∧ z45_1.toInt ≤ 940; omega) (by show skp (fi 0) (vi 1).toInt (vi 3).toInt (z45_1).toInt; exact skp_s hsk9 (by omega) (by omega) (by omega) (by first | exact Or.inl (by assumption) | exact Or.inr (by assumption))) rfl (hP.sub [0, 1] rfl) (hD.sub [0, 1] (by decide) rfl) hS (lv_sub hl [0] rfl)
  exact lp _ (vi 3) _ _ _ hp2 (by show skp (fi 0) (vi 1).toInt (vi 3).toInt (vi 3).toInt; exact skp_0) rfl hP hD hS hl
abbrev pre_X6_startText (T : Nat → ClassId) (a ex : Nat → Nat) (fi : Nat → Nat → Int32) (fl : Nat → Nat → Int64) (vi : Nat → Int32) (vl : Nat → Int64) : va_W := [((a 0), .inr (6, [.ref (a 1), .ref (ex 0), .int (vi 1), .int (vi 2), .int (vi 3), .int (vi 4), .int (vi 5), .int (vi 6), .long (vl 0), .int (vi 7), .int (vi 8), .int (vi 9), .int (vi 10), .int (vi 11)])), ((a 1), .inl (T 0, 940, .inl (fi 0)))]
set_option maxHeartbeats 8000000 in
set_option maxRecDepth 100000 in
theorem c_X6_startText (l : Launch) (D : va_G) (T : Nat → ClassId) (a ex : Nat → Nat) (fi : Nat → Nat → Int32) (fl : Nat → Nat → Int64) (vi : Nat → Int32) (vl : Nat → Int64) (sz : Nat) (hp0 : 0 ≤ (vi 0).toInt ∧ (vi 0).toInt ≤ 940) (hp1 : 0 ≤ (vi 2).toInt ∧ (vi 2).toInt ≤ 940) (hp2 : 0 ≤ (vi 3).toInt ∧ (vi 3).toInt ≤ 940) (hp3 : 0 ≤ (vi 4).toInt ∧ (vi 4).toInt ≤ 940) (hp4 : 0 ≤ (vi 6).toInt ∧ (vi 6).toInt ≤ 940) (hp5 : 0 ≤ (vi 11).toInt ∧ (vi 11).toInt ≤ 940) : Met l yX6_startText (xw yX6_startText cX6_startText 2 none) ({ frames := 1, cells := 0, slots := 0, locals := 27 }) (xP D T [.ref (a 0), .int (vi 0)] sz (pre_X6_startText T a ex fi fl vi vl)) (va_Qv (fun _ : Int32 => True) (xC D (va_A (pre_X6_startText T a ex fi fl vi vl) sz) (fun fj fm vj vm => [((a 0), .inr (6, [.ref (a 1), .ref (ex 0), .int (vi 1), .int (vi 2), .int (vj 0), .int (vj 1), .int (vj 4), .int (vj 5), .long (vm 0), .int (vj 7), .int (vj 6), .int (vi 9), .int (vj 2), .int (vj 3)])), ((a 1), .inl (T 0, 940, .inl (fi 0)))]) (fun (r : Int32) (fj : Nat → Nat → Int32) (fm : Nat → Nat → Int64) (vj : Nat → Int32) (vm : Nat → Int64) => (0 ≤ (vj 0).toInt ∧ (vj 0).toInt ≤ 940) ∧ (0 ≤ (vj 1).toInt ∧ (vj 1).toInt ≤ 940) ∧ (0 ≤ (vj 5).toInt ∧ (vj 5).toInt ≤ 940) ∧ (0 ≤ (vj 3).toInt ∧ (vj 3).toInt ≤ 940) ∧ ((vj 2).toInt = 0) ∧ R_X6_startText fi fl vi vl r fj fm vj vm ∧ True)) (va_A (pre_X6_startText T a ex fi fl vi vl) sz)) 0 0 (va_A (pre_X6_startText T a ex fi fl vi vl) sz) := by
  refine xofW (cc := cX6_startText) (maxL := 2) (ret := none) (by decide) rfl ?_
  intro p e s m args below meth c s₁ R Q hR hQ B hml hv
  obtain ⟨rfl, hsz, hP, hK, hD0⟩ := hv
  have hx := B.exec
  have hb := B.bytes
  have hr := B.returns
  have hts := atoms_spec (ws := xw yX6_startText cX6_startText 2 none) B.pre
  have htg : ∀ w ∈ xg, w.before _ s = true := fun w h => hts w (List.mem_cons_of_mem _ h)
  have hown : s.vm.findClass RX6 = some m.cls := findClass_of_methodNamed B.named
  have hlocks := B.notSynchronized
  subst hsz
  have hD := hD0.self (sz := s.heap.size)
  generalize hAe : va_A (pre_X6_startText T a ex fi fl vi vl) s.heap.size = A at hD hQ
  have hA : ∀ q : Nat, s.heap.size ≤ q → A q := fun q h => by rw [← hAe]; exact Or.inr h
  have hS : va_S A s.heap s.heap [] := va_S.rf
  replace hP : va_P D vwCl [((a 0), .inr (6, [.ref (a 1), .ref (ex 0), .int (vi 1), .int (vi 2), .int (vi 3), .int (vi 4), .int (vi 5), .int (vi 6), .long (vl 0), .int (vi 7), .int (vi 8), .int (vi 9), .int (vi 10), .int (vi 11)])), ((a 1), .inl (T 0, 940, .inl (fi 0)))] s.heap := hP
  replace hD : va_D A [((a 0), .inr (6, [.ref (a 1), .ref (ex 0), .int (vi 1), .int (vi 2), .int (vi 3), .int (vi 4), .int (vi 5), .int (vi 6), .long (vl 0), .int (vi 7), .int (vi 8), .int (vi 9), .int (vi 10), .int (vi 11)])), ((a 1), .inl (T 0, 940, .inl (fi 0)))] := hD
  have hl := lv_entry ([.ref (a 0), .int (vi 0)]) (n := 2) (Nat.le_of_ble_eq_true rfl)
  rw [lg_entry_eq]
  generalize (lg_sl ([.ref (a 0), .int (vi 0)]) ++ List.replicate (2 - (lg_sl ([.ref (a 0), .int (vi 0)])).length) Slot.unset).toArray = ls at hl ⊢
  replace hl : lv_has ls 2 [(0, .ref (a 0)), (1, .int (vi 0))] := hl
  refine lv_aload_n hx hb dX6_startText_0 rfl (lv_at hl 0 rfl) ?_
  refine lv_iload_n hx hb dX6_startText_1 rfl (lv_at hl 1 rfl) ?_
  refine va_put (D := D) (ci := 6) (v := .int (vi 0)) (ty := .int) (C := RX6) (T := TX6) (N := 14) hx hb htg inX6 tyX6 tyX6_ok nmX6 hown hK.1 hP hD hS 0 rfl rfl 4 (by decide) (htg _ kw_99) (fun _ h9 => h9) rfl (by decide +kernel) rfl rfl (Nat.le_of_ble_eq_true rfl) dX6_startText_2 (fun H locs hP hD hS => ?_)
  obtain ⟨hP, hD⟩ := (show xPD D A [((a 0), .inr (6, [.ref (a 1), .ref (ex 0), .int (vi 1), .int (vi 2), .int (vi 0), .int (vi 4), .int (vi 5), .int (vi 6), .long (vl 0), .int (vi 7), .int (vi 8), .int (vi 9), .int (vi 10), .int (vi 11)])), ((a 1), .inl (T 0, 940, .inl (fi 0)))] H from ⟨hP, hD⟩)
  refine lv_aload_n hx hb dX6_startText_5 rfl (lv_at hl 0 rfl) ?_
  refine lv_iconst (v := 0) hx hb dX6_startText_6 (by decide) ?_
  refine va_put (D := D) (ci := 6) (v := .int 0) (ty := .int) (C := RX6) (T := TX6) (N := 14) hx hb htg inX6 tyX6 tyX6_ok nmX6 hown hK.1 hP hD hS 0 rfl rfl 5 (by decide) (htg _ kw_100) (fun _ h9 => h9) rfl (by decide +kernel) rfl rfl (Nat.le_of_ble_eq_true rfl) dX6_startText_7 (fun H locs hP hD hS => ?_)
  obtain ⟨hP, hD⟩ := (show xPD D A [((a 0), .inr (6, [.ref (a 1), .ref (ex 0), .int (vi 1), .int (vi 2), .int (vi 0), .int 0, .int (vi 5), .int (vi 6), .long (vl 0), .int (vi 7), .int (vi 8), .int (vi 9), .int (vi 10), .int (vi 11)])), ((a 1), .inl (T 0, 940, .inl (fi 0)))] H from ⟨hP, hD⟩)
  refine lv_aload_n hx hb dX6_startText_10 rfl (lv_at hl 0 rfl) ?_
  refine lv_iconst (v := 0) hx hb dX6_startText_11 (by decide) ?_
  refine va_put (D := D) (ci := 6) (v := .int 0) (ty := .int) (C := RX6) (T := TX6) (N := 14) hx hb htg inX6 tyX6 tyX6_ok nmX6 hown hK.1 hP hD hS 0 rfl rfl 12 (by decide) (htg _ kw_118) (fun _ h9 => h9) rfl (by decide +kernel) rfl rfl (Nat.le_of_ble_eq_true rfl) dX6_startText_12 (fun H locs hP hD hS => ?_)
  obtain ⟨hP, hD⟩ := (show xPD D A [((a 0), .inr (6, [.ref (a 1), .ref (ex 0), .int (vi 1), .int (vi 2), .int (vi 0), .int 0, .int (vi 5), .int (vi 6), .long (vl 0), .int (vi 7), .int (vi 8), .int (vi 9), .int 0, .int (vi 11)])), ((a 1), .inl (T 0, 940, .inl (fi 0)))] H from ⟨hP, hD⟩)
  refine lv_aload_n hx hb dX6_startText_15 rfl (lv_at hl 0 rfl) ?_
  refine lv_iconst (v := 0) hx hb dX6_startText_16 (by decide) ?_
  refine va_put (D := D) (ci := 6) (v := .int 0) (ty := .int) (C := RX6) (T := TX6) (N := 14) hx hb htg inX6 tyX6 tyX6_ok nmX6 hown hK.1 hP hD hS 0 rfl rfl 13 (by decide) (htg _ kw_120) (fun _ h9 => h9) rfl (by decide +kernel) rfl rfl (Nat.le_of_ble_eq_true rfl) dX6_startText_17 (fun H locs hP hD hS => ?_)
  obtain ⟨hP, hD⟩ := (show xPD D A [((a 0), .inr (6, [.ref (a 1), .ref (ex 0), .int (vi 1), .int (vi 2), .int (vi 0), .int 0, .int (vi 5), .int (vi 6), .long (vl 0), .int (vi 7), .int (vi 8), .int (vi 9), .int 0, .int 0])), ((a 1), .inl (T 0, 940, .inl (fi 0)))] H from ⟨hP, hD⟩)
  refine lv_aload_n hx hb dX6_startText_20 rfl (lv_at hl 0 rfl) ?_
  obtain ⟨hC9, hPc, hDc, hFc⟩ := xcut (wc := (pre_X6_advance T (xa [(a 0), (a 1)]) (xa [(ex 0)]) (xf [(fi 0)]) (xh []) (xv [(vi 1), (vi 2), (vi 0), 0, (vi 5), (vi 6), (vi 7), (vi 8), (vi 9), 0, 0]) (xl [(vl 0)]))) hP hD hS hA [0, 1] (by decide) rfl
  refine va_callv (va_runV (As := []) (rest := []) ⟨hx, hb, hml, hown, htg⟩ (c_X6_advance l D T (xa [(a 0), (a 1)]) (xa [(ex 0)]) (xf [(fi 0)]) (xh []) (xv [(vi 1), (vi 2), (vi 0), 0, (vi 5), (vi 6), (vi 7), (vi 8), (vi 9), 0, 0]) (xl [(vl 0)]) H.size hp1 hp0 (show 0 ≤ (0 : Int32).toInt ∧ (0 : Int32).toInt ≤ 940 by decide) hp4 (show 0 ≤ (0 : Int32).toInt ∧ (0 : Int32).toInt ≤ 940 by decide)) ⟨callB_of 0 htg (xg_ok kw_577) rfl rfl rfl (htg _ kw_2) (htg _ kw_574) (by decide +kernel) ⟨by rw [hR]; exact Nat.le_of_ble_eq_true rfl, by rw [hR]; exact Nat.le_of_ble_eq_true rfl⟩, htg _ kw_576, htg _ ks_6⟩ (xpreV hK hPc hDc (va_recv hK.1 hPc (ci := 6) (q0 := 0) rfl rfl)) rfl rfl hl.1 rfl (lv_room (Nat.le_of_ble_eq_true rfl)) dX6_startText_21 ⟨by rw [hR]; exact Nat.le_of_ble_eq_true rfl, by rw [hR]; exact Nat.le_of_ble_eq_true rfl⟩) hS (fun q _ h => hFc q h) hFc (fun u9 t H1 locs ht hvm hw hB hz1 hk1 hS => ?_)
  obtain ⟨fik, flk, vik, vlk, hP1, hD1, hG⟩ := hB
  rw [ht] at hP1
  obtain ⟨hP, hD⟩ := va_join (wr := []) (w1 := [((a 0), .inr (6, [.ref (a 1), .ref (ex 0), .int (vi 1), .int (vi 2), .int (vi 0), .int (vik 4), .int (vik 0), .int (vik 1), .long (vlk 0), .int (vik 3), .int (vik 2), .int (vi 9), .int 0, .int 0])), ((a 1), .inl (T 0, 940, .inl (fi 0)))]) hP hD [0, 1] [] hC9 rfl (by decide) (by decide) hk1 hFc hP1 hD1
  clear hPc hDc hFc hP1 hD1 hk1 hz1 hvm ht hC9
  generalize H1 = H at hP hS ⊢
  obtain ⟨hP, hD⟩ := (show xPD D A [((a 0), .inr (6, [.ref (a 1), .ref (ex 0), .int (vi 1), .int (vi 2), .int (vi 0), .int (vik 4), .int (vik 0), .int (vik 1), .long (vlk 0), .int (vik 3), .int (vik 2), .int (vi 9), .int 0, .int 0])), ((a 1), .inl (T 0, 940, .inl (fi 0)))] H from ⟨hP, hD⟩)
  obtain ⟨uk, eu9⟩ : ∃ z, z = u9 := ⟨_, rfl⟩
  subst eu9
  obtain ⟨gk_0, gk_1, gk_2, -⟩ := hG
  replace gk_2 : ∀ n m : Nat, (vi 2).toInt = (n : Int) → (vi 0).toInt = (m : Int) → (0 : Int32).toInt ≤ (vi 2).toInt → CC (trn (fi 0) n) n m ((0 : Int32).toInt).toNat (vi 2) (vi 0) (vik 0) (vik 1) (vik 4) (vlk 0) (vik 3) (vik 2) := (P_X6_advance gk_2 : _)
  rw [show (0 : Int32).toInt = (0 : Int) by decide] at gk_2
  replace gk_0 : 0 ≤ (vik 4).toInt ∧ (vik 4).toInt ≤ 940 := gk_0
  replace gk_1 : 0 ≤ (vik 1).toInt ∧ (vik 1).toInt ≤ 940 := gk_1
  have hP9 := hP.sub (ws' := [((a 0), .inr (6, [.ref (a 1), .ref (ex 0), .int (vi 1), .int (vi 2), .int (vi 0), .int (vik 4), .int (vik 0), .int (vik 1), .long (vlk 0), .int (vik 3), .int (vik 2), .int (vi 9), .int 0, .int 0])), ((a 1), .inl (T 0, 940, .inl (fi 0)))]) [0, 1] rfl
  have hD9 := hD.sub (ws' := [((a 0), .inr (6, [.ref (a 1), .ref (ex 0), .int (vi 1), .int (vi 2), .int (vi 0), .int (vik 4), .int (vik 0), .int (vik 1), .long (vlk 0), .int (vik 3), .int (vik 2), .int (vi 9), .int 0, .int 0])), ((a 1), .inl (T 0, 940, .inl (fi 0)))]) [0, 1] (by decide +kernel) rfl
  rw [hQ]
  exact W.vret hx hb hr (fun t ht hW => ⟨⟨(0 : Int32), rfl, trivial, xf [], xh [], xv [(vi 0), (vik 4), 0, 0, (vik 0), (vik 1), (vik 2), (vik 3)], xl [(vlk 0)], by rw [ht]; exact hP9, hD9, ⟨hp0, gk_0, gk_1, (show 0 ≤ (0 : Int32).toInt ∧ (0 : Int32).toInt ≤ 940 by decide), (by show (0 : Int32).toInt = 0; have k9_0 : (0 : Int32).toInt = 0 := (by decide); first | omega | assumption), (by unfold R_X6_startText; exact (fun Q9 k9_0 => k9_0 hp0 hp1 hp2 hp3 hp4 hp5 fik flk vik vlk uk gk_0 gk_1 gk_2 rfl rfl rfl rfl rfl rfl rfl rfl rfl)), trivial⟩⟩, hS.F ht⟩) hS.2.2 dX6_startText_24
abbrev pre_J0_coder_7d493 (T : Nat → ClassId) (a ex : Nat → Nat) (fi : Nat → Nat → Int32) (fl : Nat → Nat → Int64) (vi : Nat → Int32) (vl : Nat → Int64) : va_W := []
set_option maxHeartbeats 8000000 in
set_option maxRecDepth 100000 in
theorem c_J0_coder_7d493 (l : Launch) (D : va_G) (T : Nat → ClassId) (a ex : Nat → Nat) (fi : Nat → Nat → Int32) (fl : Nat → Nat → Int64) (vi : Nat → Int32) (vl : Nat → Int64) (kK kV : Nat → Nat) (sz : Nat) : Met l yJ0_coder_7d493 (xw yJ0_coder_7d493 cJ0_coder_7d493 1 (some .byte)) ({ frames := 0, cells := 0, slots := 0, locals := 0 }) (xPs D T kK kV [.ref (kK 11)] sz (pre_J0_coder_7d493 T a ex fi fl vi vl)) (va_Qi (fun r u => r = u) (xC D (va_A (pre_J0_coder_7d493 T a ex fi fl vi vl) sz) (fun fj fm vj vm => []) (fun (r : Int32) (fj : Nat → Nat → Int32) (fm : Nat → Nat → Int64) (vj : Nat → Int32) (vm : Nat → Int64) => r = 0 ∧ True)) (va_A (pre_J0_coder_7d493 T a ex fi fl vi vl) sz)) 0 0 (va_A (pre_J0_coder_7d493 T a ex fi fl vi vl) sz) := by
  refine xofW (cc := cJ0_coder_7d493) (maxL := 1) (ret := (some .byte)) (by decide) rfl ?_
  intro p e s m args below meth c s₁ R Q hR hQ B hml hv
  obtain ⟨rfl, hsz, hP, hK, hD0, hT⟩ := hv
  have hx := B.exec
  have hb := B.bytes
  have hr := B.returns
  have hts := atoms_spec (ws := xw yJ0_coder_7d493 cJ0_coder_7d493 1 (some .byte)) B.pre
  have htg : ∀ w ∈ xg, w.before _ s = true := fun w h => hts w (List.mem_cons_of_mem _ h)
  have hown : s.vm.findClass RJ0 = some m.cls := findClass_of_methodNamed B.named
  have hlocks := B.notSynchronized
  subst hsz
  have hD := hD0.self (sz := s.heap.size)
  generalize hAe : va_A (pre_J0_coder_7d493 T a ex fi fl vi vl) s.heap.size = A at hD hQ hT
  have hA : ∀ q : Nat, s.heap.size ≤ q → A q := fun q h => by rw [← hAe]; exact Or.inr h
  have hS : va_S A s.heap s.heap [] := va_S.rf
  replace hP : va_P D vwCl [] s.heap := hP
  replace hD : va_D A [] := hD
  have hl := lv_entry ([.ref (kK 11)]) (n := 1) (Nat.le_of_ble_eq_true rfl)
  rw [lg_entry_eq]
  generalize (lg_sl ([.ref (kK 11)]) ++ List.replicate (1 - (lg_sl ([.ref (kK 11)])).length) Slot.unset).toArray = ls at hl ⊢
  replace hl : lv_has ls 1 [(0, .ref (kK 11))] := hl
  refine va_gets hx hb hT.2.2.1 hS hown (htg _ kw_52) (fun _ h9 => h9) dJ0_coder_7d493_0 ?_
  refine lv_if_eq (tgt := 13) hx hb dJ0_coder_7d493_3 (by decide) (fun c => absurd c (by decide)) (fun _ => ?_)
  refine lv_aload_n hx hb dJ0_coder_7d493_6 rfl (lv_at hl 0 rfl) ?_
  refine vk_getf hx hb (hT.2.1 11 (by decide)).2.1 hS hown (htg _ kw_2031) (fun _ h9 => h9) dJ0_coder_7d493_7 ?_
  refine lv_goto (tgt := 14) hx hb dJ0_coder_7d493_10 (by decide) ?_
  have hP9 := hP.sub (ws' := []) [] rfl
  have hD9 := hD.sub (ws' := []) [] (by decide +kernel) rfl
  rw [hQ]
  exact W.zret (v := 0) hx hb hr rfl (fun t ht hW => ⟨⟨0, 0, rfl, rfl, xf [], xh [], xv [], xl [], by rw [ht]; exact hP9, hD9, ⟨rfl, trivial⟩⟩, hS.F ht⟩) hS.2.2 dJ0_coder_7d493_14
abbrev pre_J0_length_8abf5 (T : Nat → ClassId) (a ex : Nat → Nat) (fi : Nat → Nat → Int32) (fl : Nat → Nat → Int64) (vi : Nat → Int32) (vl : Nat → Int64) : va_W := []
set_option maxHeartbeats 8000000 in
set_option maxRecDepth 100000 in
theorem c_J0_length_8abf5 (l : Launch) (D : va_G) (T : Nat → ClassId) (a ex : Nat → Nat) (fi : Nat → Nat → Int32) (fl : Nat → Nat → Int64) (vi : Nat → Int32) (vl : Nat → Int64) (kK kV : Nat → Nat) (sz : Nat) : Met l yJ0_length_8abf5 (xw yJ0_length_8abf5 cJ0_length_8abf5 1 (some .int)) ({ frames := 1, cells := 0, slots := 0, locals := 24 }) (xPs D T kK kV [.ref (kK 11)] sz (pre_J0_length_8abf5 T a ex fi fl vi vl)) (va_Qi (fun r u => r = u) (xC D (va_A (pre_J0_length_8abf5 T a ex fi fl vi vl) sz) (fun fj fm vj vm => []) (fun (r : Int32) (fj : Nat → Nat → Int32) (fm : Nat → Nat → Int64) (vj : Nat → Int32) (vm : Nat → Int64) => r = 6 ∧ True)) (va_A (pre_J0_length_8abf5 T a ex fi fl vi vl) sz)) 0 0 (va_A (pre_J0_length_8abf5 T a ex fi fl vi vl) sz) := by
  refine xofW (cc := cJ0_length_8abf5) (maxL := 1) (ret := (some .int)) (by decide) rfl ?_
  intro p e s m args below meth c s₁ R Q hR hQ B hml hv
  obtain ⟨rfl, hsz, hP, hK, hD0, hT⟩ := hv
  have hx := B.exec
  have hb := B.bytes
  have hr := B.returns
  have hts := atoms_spec (ws := xw yJ0_length_8abf5 cJ0_length_8abf5 1 (some .int)) B.pre
  have htg : ∀ w ∈ xg, w.before _ s = true := fun w h => hts w (List.mem_cons_of_mem _ h)
  have hown : s.vm.findClass RJ0 = some m.cls := findClass_of_methodNamed B.named
  have hlocks := B.notSynchronized
  subst hsz
  have hD := hD0.self (sz := s.heap.size)
  generalize hAe : va_A (pre_J0_length_8abf5 T a ex fi fl vi vl) s.heap.size = A at hD hQ hT
  have hA : ∀ q : Nat, s.heap.size ≤ q → A q := fun q h => by rw [← hAe]; exact Or.inr h
  have hS : va_S A s.heap s.heap [] := va_S.rf
  replace hP : va_P D vwCl [] s.heap := hP
  replace hD : va_D A [] := hD
  have hl := lv_entry ([.ref (kK 11)]) (n := 1) (Nat.le_of_ble_eq_true rfl)
  rw [lg_entry_eq]
  generalize (lg_sl ([.ref (kK 11)]) ++ List.replicate (1 - (lg_sl ([.ref (kK 11)])).length) Slot.unset).toArray = ls at hl ⊢
  replace hl : lv_has ls 1 [(0, .ref (kK 11))] := hl
  refine lv_aload_n hx hb dJ0_length_8abf5_0 rfl (lv_at hl 0 rfl) ?_
  refine vk_getf hx hb (hT.2.1 11 (by decide)).2.2.1 hS hown (htg _ kw_2030) (fun _ h9 => h9) dJ0_length_8abf5_1 ?_
  refine va_tlen (v := 6) hx hb (hT.2.1 11 (by decide)).2.2.2 hS (by decide) dJ0_length_8abf5_4 ?_
  refine lv_aload_n hx hb dJ0_length_8abf5_5 rfl (lv_at hl 0 rfl) ?_
  obtain ⟨hC9, hPc, hDc, hFc⟩ := xcut (wc := (pre_J0_coder_7d493 T (xa []) (xa []) (xf []) (xh []) (xv []) (xl []))) hP hD hS hA [] (by decide) rfl
  refine va_calli (va_runV (As := []) (rest := [.int 6]) ⟨hx, hb, hml, hown, htg⟩ (c_J0_coder_7d493 l D T (xa []) (xa []) (xf []) (xh []) (xv []) (xl []) kK kV s.heap.size) ⟨callB_of 0 htg (xg_ok kw_51) rfl rfl rfl (htg _ kw_3) (htg _ kw_48) (by decide +kernel) ⟨by rw [hR]; exact Nat.le_of_ble_eq_true rfl, by rw [hR]; exact Nat.le_of_ble_eq_true rfl⟩, htg _ kw_49, htg _ kw_50⟩ (xpreVs hK hPc hDc hT hFc hS (xT.recv hT 11 (by decide) hS)) rfl rfl hl.1 rfl (lv_room (Nat.le_of_ble_eq_true rfl)) dJ0_length_8abf5_6 ⟨by rw [hR]; exact Nat.le_of_ble_eq_true rfl, by rw [hR]; exact Nat.le_of_ble_eq_true rfl⟩) hS (fun q _ h => hFc q h) hFc (fun r9 u9 t H1 locs ht hvm hw hB hz1 hk1 hS => ?_)
  subst hw
  obtain ⟨fik, flk, vik, vlk, hP1, hD1, hG⟩ := hB
  rw [ht] at hP1
  obtain ⟨hP, hD⟩ := va_join (wr := []) (w1 := []) hP hD [] [] hC9 rfl (by decide) (by decide) hk1 hFc hP1 hD1
  obtain ⟨rk, er9⟩ : ∃ z, z = r9 := ⟨_, rfl⟩
  subst er9
  clear hPc hDc hFc hP1 hD1 hk1 hz1 hvm ht hC9
  generalize H1 = H at hP hS ⊢
  obtain ⟨hP, hD⟩ := (show xPD D A [] H from ⟨hP, hD⟩)
  obtain ⟨gk_0, -⟩ := hG
  replace gk_0 : rk = 0 := gk_0
  refine xz_i 0 gk_0 ?_
  refine lv_ishr hx hb dJ0_length_8abf5_9 ?_
  refine xz_i 6 (by decide) ?_
  have hP9 := hP.sub (ws' := []) [] rfl
  have hD9 := hD.sub (ws' := []) [] (by decide +kernel) rfl
  rw [hQ]
  exact W.iret (v := 6) hx hb hr (fun t ht hW => ⟨⟨6, 6, rfl, rfl, xf [], xh [], xv [], xl [], by rw [ht]; exact hP9, hD9, ⟨rfl, trivial⟩⟩, hS.F ht⟩) hS.2.2 dJ0_length_8abf5_10
abbrev pre_J0_isLatin1_aae02 (T : Nat → ClassId) (a ex : Nat → Nat) (fi : Nat → Nat → Int32) (fl : Nat → Nat → Int64) (vi : Nat → Int32) (vl : Nat → Int64) : va_W := []
set_option maxHeartbeats 8000000 in
set_option maxRecDepth 100000 in
theorem c_J0_isLatin1_aae02 (l : Launch) (D : va_G) (T : Nat → ClassId) (a ex : Nat → Nat) (fi : Nat → Nat → Int32) (fl : Nat → Nat → Int64) (vi : Nat → Int32) (vl : Nat → Int64) (kK kV : Nat → Nat) (sz : Nat) : Met l yJ0_isLatin1_aae02 (xw yJ0_isLatin1_aae02 cJ0_isLatin1_aae02 1 (some .boolean)) ({ frames := 0, cells := 0, slots := 0, locals := 0 }) (xPs D T kK kV [.ref (kK 11)] sz (pre_J0_isLatin1_aae02 T a ex fi fl vi vl)) (va_Qi (fun r u => r = u) (xC D (va_A (pre_J0_isLatin1_aae02 T a ex fi fl vi vl) sz) (fun fj fm vj vm => []) (fun (r : Int32) (fj : Nat → Nat → Int32) (fm : Nat → Nat → Int64) (vj : Nat → Int32) (vm : Nat → Int64) => r = 1 ∧ True)) (va_A (pre_J0_isLatin1_aae02 T a ex fi fl vi vl) sz)) 0 0 (va_A (pre_J0_isLatin1_aae02 T a ex fi fl vi vl) sz) := by
  refine xofW (cc := cJ0_isLatin1_aae02) (maxL := 1) (ret := (some .boolean)) (by decide) rfl ?_
  intro p e s m args below meth c s₁ R Q hR hQ B hml hv
  obtain ⟨rfl, hsz, hP, hK, hD0, hT⟩ := hv
  have hx := B.exec
  have hb := B.bytes
  have hr := B.returns
  have hts := atoms_spec (ws := xw yJ0_isLatin1_aae02 cJ0_isLatin1_aae02 1 (some .boolean)) B.pre
  have htg : ∀ w ∈ xg, w.before _ s = true := fun w h => hts w (List.mem_cons_of_mem _ h)
  have hown : s.vm.findClass RJ0 = some m.cls := findClass_of_methodNamed B.named
  have hlocks := B.notSynchronized
  subst hsz
  have hD := hD0.self (sz := s.heap.size)
  generalize hAe : va_A (pre_J0_isLatin1_aae02 T a ex fi fl vi vl) s.heap.size = A at hD hQ hT
  have hA : ∀ q : Nat, s.heap.size ≤ q → A q := fun q h => by rw [← hAe]; exact Or.inr h
  have hS : va_S A s.heap s.heap [] := va_S.rf
  replace hP : va_P D vwCl [] s.heap := hP
  replace hD : va_D A [] := hD
  have hl := lv_entry ([.ref (kK 11)]) (n := 1) (Nat.le_of_ble_eq_true rfl)
  rw [lg_entry_eq]
  generalize (lg_sl ([.ref (kK 11)]) ++ List.replicate (1 - (lg_sl ([.ref (kK 11)])).length) Slot.unset).toArray = ls at hl ⊢
  replace hl : lv_has ls 1 [(0, .ref (kK 11))] := hl
  refine va_gets hx hb hT.2.2.1 hS hown (htg _ kw_52) (fun _ h9 => h9) dJ0_isLatin1_aae02_0 ?_
  refine lv_if_eq (tgt := 17) hx hb dJ0_isLatin1_aae02_3 (by decide) (fun c => absurd c (by decide)) (fun _ => ?_)
  refine lv_aload_n hx hb dJ0_isLatin1_aae02_6 rfl (lv_at hl 0 rfl) ?_
  refine vk_getf hx hb (hT.2.1 11 (by decide)).2.1 hS hown (htg _ kw_2031) (fun _ h9 => h9) dJ0_isLatin1_aae02_7 ?_
  refine lv_if_ne (tgt := 17) hx hb dJ0_isLatin1_aae02_10 (by decide) (fun c => absurd (by decide) c) (fun _ => ?_)
  refine lv_iconst (v := 1) hx hb dJ0_isLatin1_aae02_13 (by decide) ?_
  refine lv_goto (tgt := 18) hx hb dJ0_isLatin1_aae02_14 (by decide) ?_
  have hP9 := hP.sub (ws' := []) [] rfl
  have hD9 := hD.sub (ws' := []) [] (by decide +kernel) rfl
  rw [hQ]
  exact W.zret (v := 1) hx hb hr rfl (fun t ht hW => ⟨⟨1, 1, rfl, rfl, xf [], xh [], xv [], xl [], by rw [ht]; exact hP9, hD9, ⟨rfl, trivial⟩⟩, hS.F ht⟩) hS.2.2 dJ0_isLatin1_aae02_18
abbrev pre_J3_checkIndex_8e157 (T : Nat → ClassId) (a ex : Nat → Nat) (fi : Nat → Nat → Int32) (fl : Nat → Nat → Int64) (vi : Nat → Int32) (vl : Nat → Int64) : va_W := []
set_option maxHeartbeats 8000000 in
set_option maxRecDepth 100000 in
theorem c_J3_checkIndex_8e157 (l : Launch) (D : va_G) (T : Nat → ClassId) (a ex : Nat → Nat) (fi : Nat → Nat → Int32) (fl : Nat → Nat → Int64) (vi : Nat → Int32) (vl : Nat → Int64) (sz : Nat) (hp0 : 0 ≤ (vi 0).toInt ∧ (vi 0).toInt ≤ 5) : Met l yJ3_checkIndex_8e157 (xw yJ3_checkIndex_8e157 cJ3_checkIndex_8e157 3 (some .int)) ({ frames := 0, cells := 0, slots := 0, locals := 0 }) (xP D T [.int (vi 0), .int 6, .null] sz (pre_J3_checkIndex_8e157 T a ex fi fl vi vl)) (va_Qi (fun r u => r = u) (xC D (va_A (pre_J3_checkIndex_8e157 T a ex fi fl vi vl) sz) (fun fj fm vj vm => []) (fun (r : Int32) (fj : Nat → Nat → Int32) (fm : Nat → Nat → Int64) (vj : Nat → Int32) (vm : Nat → Int64) => True)) (va_A (pre_J3_checkIndex_8e157 T a ex fi fl vi vl) sz)) 0 0 (va_A (pre_J3_checkIndex_8e157 T a ex fi fl vi vl) sz) := by
  refine xofW (cc := cJ3_checkIndex_8e157) (maxL := 3) (ret := (some .int)) (by decide) rfl ?_
  intro p e s m args below meth c s₁ R Q hR hQ B hml hv
  obtain ⟨rfl, hsz, hP, hK, hD0⟩ := hv
  have hx := B.exec
  have hb := B.bytes
  have hr := B.returns
  have hts := atoms_spec (ws := xw yJ3_checkIndex_8e157 cJ3_checkIndex_8e157 3 (some .int)) B.pre
  have htg : ∀ w ∈ xg, w.before _ s = true := fun w h => hts w (List.mem_cons_of_mem _ h)
  have hown : s.vm.findClass RJ3 = some m.cls := findClass_of_methodNamed B.named
  have hlocks := B.notSynchronized
  subst hsz
  have hD := hD0.self (sz := s.heap.size)
  generalize hAe : va_A (pre_J3_checkIndex_8e157 T a ex fi fl vi vl) s.heap.size = A at hD hQ
  have hA : ∀ q : Nat, s.heap.size ≤ q → A q := fun q h => by rw [← hAe]; exact Or.inr h
  have hS : va_S A s.heap s.heap [] := va_S.rf
  replace hP : va_P D vwCl [] s.heap := hP
  replace hD : va_D A [] := hD
  have hl := lv_entry ([.int (vi 0), .int 6, .null]) (n := 3) (Nat.le_of_ble_eq_true rfl)
  rw [lg_entry_eq]
  generalize (lg_sl ([.int (vi 0), .int 6, .null]) ++ List.replicate (3 - (lg_sl ([.int (vi 0), .int 6, .null])).length) Slot.unset).toArray = ls at hl ⊢
  replace hl : lv_has ls 3 [(0, .int (vi 0)), (1, .int 6), (2, .null)] := hl
  refine lv_iload_n hx hb dJ3_checkIndex_8e157_0 rfl (lv_at hl 0 rfl) ?_
  refine lv_if_lt (tgt := 9) hx hb dJ3_checkIndex_8e157_1 (by decide) (fun c => by exfalso; have h9 := xlt (k := 0) (by decide) c; have h7 := xrng (vi 0); omega) (fun _ => ?_)
  refine lv_iload_n hx hb dJ3_checkIndex_8e157_4 rfl (lv_at hl 0 rfl) ?_
  refine lv_iload_n hx hb dJ3_checkIndex_8e157_5 rfl (lv_at hl 1 rfl) ?_
  refine lv_icmp_lt (tgt := 16) hx hb dJ3_checkIndex_8e157_6 (by decide) (fun _ => ?_) (fun c => by exfalso; have h9 := xnlt (k := 6) (by decide) c; have h7 := xrng (vi 0); omega)
  refine lv_iload_n hx hb dJ3_checkIndex_8e157_16 rfl (lv_at hl 0 rfl) ?_
  have hP9 := hP.sub (ws' := []) [] rfl
  have hD9 := hD.sub (ws' := []) [] (by decide +kernel) rfl
  rw [hQ]
  exact W.iret (v := (vi 0)) hx hb hr (fun t ht hW => ⟨⟨(vi 0), (vi 0), rfl, rfl, xf [], xh [], xv [], xl [], by rw [ht]; exact hP9, hD9, trivial⟩, hS.F ht⟩) hS.2.2 dJ3_checkIndex_8e157_17
abbrev pre_J3_checkIndex_8e157_2 (T : Nat → ClassId) (a ex : Nat → Nat) (fi : Nat → Nat → Int32) (fl : Nat → Nat → Int64) (vi : Nat → Int32) (vl : Nat → Int64) : va_W := []
set_option maxHeartbeats 8000000 in
set_option maxRecDepth 100000 in
theorem c_J3_checkIndex_8e157_2 (l : Launch) (D : va_G) (T : Nat → ClassId) (a ex : Nat → Nat) (fi : Nat → Nat → Int32) (fl : Nat → Nat → Int64) (vi : Nat → Int32) (vl : Nat → Int64) (sz : Nat) (hp0 : 0 ≤ (vi 0).toInt ∧ (vi 0).toInt ≤ 5) : Met l yJ3_checkIndex_8e157 (xw yJ3_checkIndex_8e157 cJ3_checkIndex_8e157 3 (some .int)) ({ frames := 0, cells := 0, slots := 0, locals := 0 }) (xP D T [.int (vi 0), .int 6, .ref (ex 0)] sz (pre_J3_checkIndex_8e157_2 T a ex fi fl vi vl)) (va_Qi (fun r u => r = u) (xC D (va_A (pre_J3_checkIndex_8e157_2 T a ex fi fl vi vl) sz) (fun fj fm vj vm => []) (fun (r : Int32) (fj : Nat → Nat → Int32) (fm : Nat → Nat → Int64) (vj : Nat → Int32) (vm : Nat → Int64) => True)) (va_A (pre_J3_checkIndex_8e157_2 T a ex fi fl vi vl) sz)) 0 0 (va_A (pre_J3_checkIndex_8e157_2 T a ex fi fl vi vl) sz) := by
  refine xofW (cc := cJ3_checkIndex_8e157) (maxL := 3) (ret := (some .int)) (by decide) rfl ?_
  intro p e s m args below meth c s₁ R Q hR hQ B hml hv
  obtain ⟨rfl, hsz, hP, hK, hD0⟩ := hv
  have hx := B.exec
  have hb := B.bytes
  have hr := B.returns
  have hts := atoms_spec (ws := xw yJ3_checkIndex_8e157 cJ3_checkIndex_8e157 3 (some .int)) B.pre
  have htg : ∀ w ∈ xg, w.before _ s = true := fun w h => hts w (List.mem_cons_of_mem _ h)
  have hown : s.vm.findClass RJ3 = some m.cls := findClass_of_methodNamed B.named
  have hlocks := B.notSynchronized
  subst hsz
  have hD := hD0.self (sz := s.heap.size)
  generalize hAe : va_A (pre_J3_checkIndex_8e157_2 T a ex fi fl vi vl) s.heap.size = A at hD hQ
  have hA : ∀ q : Nat, s.heap.size ≤ q → A q := fun q h => by rw [← hAe]; exact Or.inr h
  have hS : va_S A s.heap s.heap [] := va_S.rf
  replace hP : va_P D vwCl [] s.heap := hP
  replace hD : va_D A [] := hD
  have hl := lv_entry ([.int (vi 0), .int 6, .ref (ex 0)]) (n := 3) (Nat.le_of_ble_eq_true rfl)
  rw [lg_entry_eq]
  generalize (lg_sl ([.int (vi 0), .int 6, .ref (ex 0)]) ++ List.replicate (3 - (lg_sl ([.int (vi 0), .int 6, .ref (ex 0)])).length) Slot.unset).toArray = ls at hl ⊢
  replace hl : lv_has ls 3 [(0, .int (vi 0)), (1, .int 6), (2, .ref (ex 0))] := hl
  refine lv_iload_n hx hb dJ3_checkIndex_8e157_0 rfl (lv_at hl 0 rfl) ?_
  refine lv_if_lt (tgt := 9) hx hb dJ3_checkIndex_8e157_1 (by decide) (fun c => by exfalso; have h9 := xlt (k := 0) (by decide) c; have h7 := xrng (vi 0); omega) (fun _ => ?_)
  refine lv_iload_n hx hb dJ3_checkIndex_8e157_4 rfl (lv_at hl 0 rfl) ?_
  refine lv_iload_n hx hb dJ3_checkIndex_8e157_5 rfl (lv_at hl 1 rfl) ?_
  refine lv_icmp_lt (tgt := 16) hx hb dJ3_checkIndex_8e157_6 (by decide) (fun _ => ?_) (fun c => by exfalso; have h9 := xnlt (k := 6) (by decide) c; have h7 := xrng (vi 0); omega)
  refine lv_iload_n hx hb dJ3_checkIndex_8e157_16 rfl (lv_at hl 0 rfl) ?_
  have hP9 := hP.sub (ws' := []) [] rfl
  have hD9 := hD.sub (ws' := []) [] (by decide +kernel) rfl
  rw [hQ]
  exact W.iret (v := (vi 0)) hx hb hr (fun t ht hW => ⟨⟨(vi 0), (vi 0), rfl, rfl, xf [], xh [], xv [], xl [], by rw [ht]; exact hP9, hD9, trivial⟩, hS.F ht⟩) hS.2.2 dJ3_checkIndex_8e157_17
abbrev pre_J0_checkIndex_df160 (T : Nat → ClassId) (a ex : Nat → Nat) (fi : Nat → Nat → Int32) (fl : Nat → Nat → Int64) (vi : Nat → Int32) (vl : Nat → Int64) : va_W := []
set_option maxHeartbeats 8000000 in
set_option maxRecDepth 100000 in
theorem c_J0_checkIndex_df160 (l : Launch) (D : va_G) (T : Nat → ClassId) (a ex : Nat → Nat) (fi : Nat → Nat → Int32) (fl : Nat → Nat → Int64) (vi : Nat → Int32) (vl : Nat → Int64) (kK kV : Nat → Nat) (sz : Nat) (hp0 : 0 ≤ (vi 0).toInt ∧ (vi 0).toInt ≤ 5) : Met l yJ0_checkIndex_df160 (xw yJ0_checkIndex_df160 cJ0_checkIndex_df160 2 none) ({ frames := 1, cells := 0, slots := 0, locals := 26 }) (xPs D T kK kV [.int (vi 0), .int 6] sz (pre_J0_checkIndex_df160 T a ex fi fl vi vl)) (va_Qv (fun _ : Int32 => True) (xC D (va_A (pre_J0_checkIndex_df160 T a ex fi fl vi vl) sz) (fun fj fm vj vm => []) (fun (r : Int32) (fj : Nat → Nat → Int32) (fm : Nat → Nat → Int64) (vj : Nat → Int32) (vm : Nat → Int64) => True)) (va_A (pre_J0_checkIndex_df160 T a ex fi fl vi vl) sz)) 0 0 (va_A (pre_J0_checkIndex_df160 T a ex fi fl vi vl) sz) := by
  refine xofW (cc := cJ0_checkIndex_df160) (maxL := 2) (ret := none) (by decide) rfl ?_
  intro p e s m args below meth c s₁ R Q hR hQ B hml hv
  obtain ⟨rfl, hsz, hP, hK, hD0, hT⟩ := hv
  have hx := B.exec
  have hb := B.bytes
  have hr := B.returns
  have hts := atoms_spec (ws := xw yJ0_checkIndex_df160 cJ0_checkIndex_df160 2 none) B.pre
  have htg : ∀ w ∈ xg, w.before _ s = true := fun w h => hts w (List.mem_cons_of_mem _ h)
  have hown : s.vm.findClass RJ0 = some m.cls := findClass_of_methodNamed B.named
  have hlocks := B.notSynchronized
  subst hsz
  have hD := hD0.self (sz := s.heap.size)
  generalize hAe : va_A (pre_J0_checkIndex_df160 T a ex fi fl vi vl) s.heap.size = A at hD hQ hT
  have hA : ∀ q : Nat, s.heap.size ≤ q → A q := fun q h => by rw [← hAe]; exact Or.inr h
  have hS : va_S A s.heap s.heap [] := va_S.rf
  replace hP : va_P D vwCl [] s.heap := hP
  replace hD : va_D A [] := hD
  have hl := lv_entry ([.int (vi 0), .int 6]) (n := 2) (Nat.le_of_ble_eq_true rfl)
  rw [lg_entry_eq]
  generalize (lg_sl ([.int (vi 0), .int 6]) ++ List.replicate (2 - (lg_sl ([.int (vi 0), .int 6])).length) Slot.unset).toArray = ls at hl ⊢
  replace hl : lv_has ls 2 [(0, .int (vi 0)), (1, .int 6)] := hl
  refine lv_iload_n hx hb dJ0_checkIndex_df160_0 rfl (lv_at hl 0 rfl) ?_
  refine lv_iload_n hx hb dJ0_checkIndex_df160_1 rfl (lv_at hl 1 rfl) ?_
  rcases hT.2.2.2 with hz9 | ⟨z9, hz9⟩
  · refine va_gets hx hb hz9 hS hown (htg _ kw_68) (fun _ h9 => h9) dJ0_checkIndex_df160_2 ?_
    obtain ⟨hC9, hPc, hDc, hFc⟩ := xcut (wc := (pre_J3_checkIndex_8e157 T (xa []) (xa []) (xf []) (xh []) (xv [(vi 0)]) (xl []))) hP hD hS hA [] (by decide) rfl
    refine va_calli (va_runS (As := [.int (vi 0), .int 6, .null]) (rest := []) ⟨hx, hb, hml, hown, htg⟩ (c_J3_checkIndex_8e157 l D T (xa []) (xa []) (xf []) (xh []) (xv [(vi 0)]) (xl []) s.heap.size hp0) ⟨callB_of 3 htg (xg_ok kw_72) rfl rfl rfl (htg _ kw_5) (htg _ kw_70) (by decide +kernel) ⟨by rw [hR]; exact Nat.le_of_ble_eq_true rfl, by rw [hR]; exact Nat.le_of_ble_eq_true rfl⟩, htg _ kw_71⟩ (xpreS hK hPc hDc) rfl rfl hl.1 rfl (lv_room (Nat.le_of_ble_eq_true rfl)) dJ0_checkIndex_df160_5 ⟨by rw [hR]; exact Nat.le_of_ble_eq_true rfl, by rw [hR]; exact Nat.le_of_ble_eq_true rfl⟩) hS (fun q _ h => hFc q h) hFc (fun r9 u9 t H1 locs ht hvm hw hB hz1 hk1 hS => ?_)
    subst hw
    obtain ⟨fik, flk, vik, vlk, hP1, hD1, hG⟩ := hB
    rw [ht] at hP1
    obtain ⟨hP, hD⟩ := va_join (wr := []) (w1 := []) hP hD [] [] hC9 rfl (by decide) (by decide) hk1 hFc hP1 hD1
    obtain ⟨rk, er9⟩ : ∃ z, z = r9 := ⟨_, rfl⟩
    subst er9
    clear hPc hDc hFc hP1 hD1 hk1 hz1 hvm ht hC9
    generalize H1 = H at hP hS ⊢
    obtain ⟨hP, hD⟩ := (show xPD D A [] H from ⟨hP, hD⟩)
    clear hG
    refine lv_pop hx hb dJ0_checkIndex_df160_8 rfl ?_
    have hP9 := hP.sub (ws' := []) [] rfl
    have hD9 := hD.sub (ws' := []) [] (by decide +kernel) rfl
    rw [hQ]
    exact W.vret hx hb hr (fun t ht hW => ⟨⟨(0 : Int32), rfl, trivial, xf [], xh [], xv [], xl [], by rw [ht]; exact hP9, hD9, trivial⟩, hS.F ht⟩) hS.2.2 dJ0_checkIndex_df160_9
  · refine va_gets hx hb hz9 hS hown (htg _ kw_68) (fun _ h9 => h9) dJ0_checkIndex_df160_2 ?_
    obtain ⟨hC9, hPc, hDc, hFc⟩ := xcut (wc := (pre_J3_checkIndex_8e157_2 T (xa []) (xa [z9]) (xf []) (xh []) (xv [(vi 0)]) (xl []))) hP hD hS hA [] (by decide) rfl
    refine va_calli (va_runS (As := [.int (vi 0), .int 6, .ref z9]) (rest := []) ⟨hx, hb, hml, hown, htg⟩ (c_J3_checkIndex_8e157_2 l D T (xa []) (xa [z9]) (xf []) (xh []) (xv [(vi 0)]) (xl []) s.heap.size hp0) ⟨callB_of 3 htg (xg_ok kw_72) rfl rfl rfl (htg _ kw_5) (htg _ kw_70) (by decide +kernel) ⟨by rw [hR]; exact Nat.le_of_ble_eq_true rfl, by rw [hR]; exact Nat.le_of_ble_eq_true rfl⟩, htg _ kw_71⟩ (xpreS hK hPc hDc) rfl rfl hl.1 rfl (lv_room (Nat.le_of_ble_eq_true rfl)) dJ0_checkIndex_df160_5 ⟨by rw [hR]; exact Nat.le_of_ble_eq_true rfl, by rw [hR]; exact Nat.le_of_ble_eq_true rfl⟩) hS (fun q _ h => hFc q h) hFc (fun r9 u9 t H1 locs ht hvm hw hB hz1 hk1 hS => ?_)
    subst hw
    obtain ⟨fik_1, flk_1, vik_1, vlk_1, hP1, hD1, hG⟩ := hB
    rw [ht] at hP1
    obtain ⟨hP, hD⟩ := va_join (wr := []) (w1 := []) hP hD [] [] hC9 rfl (by decide) (by decide) hk1 hFc hP1 hD1
    obtain ⟨rk_1, er9⟩ : ∃ z, z = r9 := ⟨_, rfl⟩
    subst er9
    clear hPc hDc hFc hP1 hD1 hk1 hz1 hvm ht hC9
    generalize H1 = H at hP hS ⊢
    obtain ⟨hP, hD⟩ := (show xPD D A [] H from ⟨hP, hD⟩)
    clear hG
    refine lv_pop hx hb dJ0_checkIndex_df160_8 rfl ?_
    have hP9 := hP.sub (ws' := []) [] rfl
    have hD9 := hD.sub (ws' := []) [] (by decide +kernel) rfl
    rw [hQ]
    exact W.vret hx hb hr (fun t ht hW => ⟨⟨(0 : Int32), rfl, trivial, xf [], xh [], xv [], xl [], by rw [ht]; exact hP9, hD9, trivial⟩, hS.F ht⟩) hS.2.2 dJ0_checkIndex_df160_9
abbrev pre_J1_charAt_3b067 (T : Nat → ClassId) (a ex : Nat → Nat) (fi : Nat → Nat → Int32) (fl : Nat → Nat → Int64) (vi : Nat → Int32) (vl : Nat → Int64) : va_W := []
set_option maxHeartbeats 8000000 in
set_option maxRecDepth 100000 in
theorem c_J1_charAt_3b067 (l : Launch) (D : va_G) (T : Nat → ClassId) (a ex : Nat → Nat) (fi : Nat → Nat → Int32) (fl : Nat → Nat → Int64) (vi : Nat → Int32) (vl : Nat → Int64) (kK kV : Nat → Nat) (sz : Nat) (hp0 : 0 ≤ (vi 0).toInt ∧ (vi 0).toInt ≤ 5) : Met l yJ1_charAt_3b067 (xw yJ1_charAt_3b067 cJ1_charAt_3b067 2 (some .char)) ({ frames := 2, cells := 0, slots := 0, locals := 51 }) (xPs D T kK kV [.ref (kV 11), .int (vi 0)] sz (pre_J1_charAt_3b067 T a ex fi fl vi vl)) (va_Qi (fun r u => r = u) (xC D (va_A (pre_J1_charAt_3b067 T a ex fi fl vi vl) sz) (fun fj fm vj vm => []) (fun (r : Int32) (fj : Nat → Nat → Int32) (fm : Nat → Nat → Int64) (vj : Nat → Int32) (vm : Nat → Int64) => narrow .char (.int r) = .int r ∧ R_J1_charAt_3b067 fi fl vi vl r fj fm vj vm ∧ True)) (va_A (pre_J1_charAt_3b067 T a ex fi fl vi vl) sz)) 0 0 (va_A (pre_J1_charAt_3b067 T a ex fi fl vi vl) sz) := by
  refine xofW (cc := cJ1_charAt_3b067) (maxL := 2) (ret := (some .char)) (by decide) rfl ?_
  intro p e s m args below meth c s₁ R Q hR hQ B hml hv
  obtain ⟨rfl, hsz, hP, hK, hD0, hT⟩ := hv
  have hx := B.exec
  have hb := B.bytes
  have hr := B.returns
  have hts := atoms_spec (ws := xw yJ1_charAt_3b067 cJ1_charAt_3b067 2 (some .char)) B.pre
  have htg : ∀ w ∈ xg, w.before _ s = true := fun w h => hts w (List.mem_cons_of_mem _ h)
  have hown : s.vm.findClass RJ1 = some m.cls := findClass_of_methodNamed B.named
  have hlocks := B.notSynchronized
  subst hsz
  have hD := hD0.self (sz := s.heap.size)
  generalize hAe : va_A (pre_J1_charAt_3b067 T a ex fi fl vi vl) s.heap.size = A at hD hQ hT
  have hA : ∀ q : Nat, s.heap.size ≤ q → A q := fun q h => by rw [← hAe]; exact Or.inr h
  have hS : va_S A s.heap s.heap [] := va_S.rf
  replace hP : va_P D vwCl [] s.heap := hP
  replace hD : va_D A [] := hD
  have hl := lv_entry ([.ref (kV 11), .int (vi 0)]) (n := 2) (Nat.le_of_ble_eq_true rfl)
  rw [lg_entry_eq]
  generalize (lg_sl ([.ref (kV 11), .int (vi 0)]) ++ List.replicate (2 - (lg_sl ([.ref (kV 11), .int (vi 0)])).length) Slot.unset).toArray = ls at hl ⊢
  replace hl : lv_has ls 2 [(0, .ref (kV 11)), (1, .int (vi 0))] := hl
  refine lv_iload_n hx hb dJ1_charAt_3b067_0 rfl (lv_at hl 1 rfl) ?_
  refine lv_aload_n hx hb dJ1_charAt_3b067_1 rfl (lv_at hl 0 rfl) ?_
  refine va_tlen (v := 6) hx hb (hT.2.1 11 (by decide)).2.2.2 hS (by decide) dJ1_charAt_3b067_2 ?_
  obtain ⟨hC9, hPc, hDc, hFc⟩ := xcut (wc := (pre_J0_checkIndex_df160 T (xa []) (xa []) (xf []) (xh []) (xv [(vi 0)]) (xl []))) hP hD hS hA [] (by decide) rfl
  refine va_callv (va_runS (As := [.int (vi 0), .int 6]) (rest := []) ⟨hx, hb, hml, hown, htg⟩ (c_J0_checkIndex_df160 l D T (xa []) (xa []) (xf []) (xh []) (xv [(vi 0)]) (xl []) kK kV s.heap.size hp0) ⟨callB_of 2 htg (xg_ok kw_67) rfl rfl rfl (htg _ kw_3) (htg _ kw_65) (by decide +kernel) ⟨by rw [hR]; exact Nat.le_of_ble_eq_true rfl, by rw [hR]; exact Nat.le_of_ble_eq_true rfl⟩, htg _ kw_66⟩ (xpreSs hK hPc hDc hT hFc hS) rfl rfl hl.1 rfl (lv_room (Nat.le_of_ble_eq_true rfl)) dJ1_charAt_3b067_3 ⟨by rw [hR]; exact Nat.le_of_ble_eq_true rfl, by rw [hR]; exact Nat.le_of_ble_eq_true rfl⟩) hS (fun q _ h => hFc q h) hFc (fun u9 t H1 locs ht hvm hw hB hz1 hk1 hS => ?_)
  obtain ⟨fik, flk, vik, vlk, hP1, hD1, hG⟩ := hB
  rw [ht] at hP1
  obtain ⟨hP, hD⟩ := va_join (wr := []) (w1 := []) hP hD [] [] hC9 rfl (by decide) (by decide) hk1 hFc hP1 hD1
  clear hPc hDc hFc hP1 hD1 hk1 hz1 hvm ht hC9
  generalize H1 = H at hP hS ⊢
  obtain ⟨hP, hD⟩ := (show xPD D A [] H from ⟨hP, hD⟩)
  obtain ⟨uk, eu9⟩ : ∃ z, z = u9 := ⟨_, rfl⟩
  subst eu9
  clear hG
  refine lv_aload_n hx hb dJ1_charAt_3b067_6 rfl (lv_at hl 0 rfl) ?_
  refine lv_iload_n hx hb dJ1_charAt_3b067_7 rfl (lv_at hl 1 rfl) ?_
  refine va_tb hx hb (hT.2.1 11 (by decide)).2.2.2 hS (show vp_in (vi 0) 6 from (vp_in_iff.mpr (by omega))) rfl dJ1_charAt_3b067_8 ?_
  refine lv_topi (fun z8 ez8 => ?_)
  refine lv_sipush (v := 255) hx hb dJ1_charAt_3b067_9 (by decide) ?_
  refine lv_iand hx hb dJ1_charAt_3b067_12 ?_
  refine lv_topi (fun z12 ez12 => ?_)
  have tz12 : 0 ≤ z12.toInt ∧ z12.toInt ≤ 255 := by rw [ez12]; exact xand255 _
  refine lv_i2c hx hb dJ1_charAt_3b067_13 rfl ?_
  refine lv_topi (fun z13 ez13 => ?_)
  have nz13 : narrow .char (.int z13) = .int z13 := by rw [ez13]; exact pk_nc _
  have hP9 := hP.sub (ws' := []) [] rfl
  have hD9 := hD.sub (ws' := []) [] (by decide +kernel) rfl
  rw [hQ]
  exact W.zret (v := z13) hx hb hr nz13 (fun t ht hW => ⟨⟨z13, z13, rfl, rfl, xf [], xh [], xv [], xl [], by rw [ht]; exact hP9, hD9, ⟨nz13, (by unfold R_J1_charAt_3b067; exact (fun Q9 k9_0 => k9_0 hp0 fik flk vik vlk uk z8 ez8 z12 ez12 z13 ez13 rfl)), trivial⟩⟩, hS.F ht⟩) hS.2.2 dJ1_charAt_3b067_14
abbrev pre_J0_charAt_5068e (T : Nat → ClassId) (a ex : Nat → Nat) (fi : Nat → Nat → Int32) (fl : Nat → Nat → Int64) (vi : Nat → Int32) (vl : Nat → Int64) : va_W := []
set_option maxHeartbeats 8000000 in
set_option maxRecDepth 100000 in
theorem c_J0_charAt_5068e (l : Launch) (D : va_G) (T : Nat → ClassId) (a ex : Nat → Nat) (fi : Nat → Nat → Int32) (fl : Nat → Nat → Int64) (vi : Nat → Int32) (vl : Nat → Int64) (kK kV : Nat → Nat) (sz : Nat) (hp0 : 0 ≤ (vi 0).toInt ∧ (vi 0).toInt ≤ 5) : Met l yJ0_charAt_5068e (xw yJ0_charAt_5068e cJ0_charAt_5068e 2 (some .char)) ({ frames := 3, cells := 0, slots := 0, locals := 76 }) (xPs D T kK kV [.ref (kK 11), .int (vi 0)] sz (pre_J0_charAt_5068e T a ex fi fl vi vl)) (va_Qi (fun r u => r = u) (xC D (va_A (pre_J0_charAt_5068e T a ex fi fl vi vl) sz) (fun fj fm vj vm => []) (fun (r : Int32) (fj : Nat → Nat → Int32) (fm : Nat → Nat → Int64) (vj : Nat → Int32) (vm : Nat → Int64) => narrow .char (.int r) = .int r ∧ R_J0_charAt_5068e fi fl vi vl r fj fm vj vm ∧ True)) (va_A (pre_J0_charAt_5068e T a ex fi fl vi vl) sz)) 0 0 (va_A (pre_J0_charAt_5068e T a ex fi fl vi vl) sz) := by
  refine xofW (cc := cJ0_charAt_5068e) (maxL := 2) (ret := (some .char)) (by decide) rfl ?_
  intro p e s m args below meth c s₁ R Q hR hQ B hml hv
  obtain ⟨rfl, hsz, hP, hK, hD0, hT⟩ := hv
  have hx := B.exec
  have hb := B.bytes
  have hr := B.returns
  have hts := atoms_spec (ws := xw yJ0_charAt_5068e cJ0_charAt_5068e 2 (some .char)) B.pre
  have htg : ∀ w ∈ xg, w.before _ s = true := fun w h => hts w (List.mem_cons_of_mem _ h)
  have hown : s.vm.findClass RJ0 = some m.cls := findClass_of_methodNamed B.named
  have hlocks := B.notSynchronized
  subst hsz
  have hD := hD0.self (sz := s.heap.size)
  generalize hAe : va_A (pre_J0_charAt_5068e T a ex fi fl vi vl) s.heap.size = A at hD hQ hT
  have hA : ∀ q : Nat, s.heap.size ≤ q → A q := fun q h => by rw [← hAe]; exact Or.inr h
  have hS : va_S A s.heap s.heap [] := va_S.rf
  replace hP : va_P D vwCl [] s.heap := hP
  replace hD : va_D A [] := hD
  have hl := lv_entry ([.ref (kK 11), .int (vi 0)]) (n := 2) (Nat.le_of_ble_eq_true rfl)
  rw [lg_entry_eq]
  generalize (lg_sl ([.ref (kK 11), .int (vi 0)]) ++ List.replicate (2 - (lg_sl ([.ref (kK 11), .int (vi 0)])).length) Slot.unset).toArray = ls at hl ⊢
  replace hl : lv_has ls 2 [(0, .ref (kK 11)), (1, .int (vi 0))] := hl
  refine lv_aload_n hx hb dJ0_charAt_5068e_0 rfl (lv_at hl 0 rfl) ?_
  obtain ⟨hC9, hPc, hDc, hFc⟩ := xcut (wc := (pre_J0_isLatin1_aae02 T (xa []) (xa []) (xf []) (xh []) (xv []) (xl []))) hP hD hS hA [] (by decide) rfl
  refine va_calli (va_runV (As := []) (rest := []) ⟨hx, hb, hml, hown, htg⟩ (c_J0_isLatin1_aae02 l D T (xa []) (xa []) (xf []) (xh []) (xv []) (xl []) kK kV s.heap.size) ⟨callB_of 0 htg (xg_ok kw_61) rfl rfl rfl (htg _ kw_3) (htg _ kw_58) (by decide +kernel) ⟨by rw [hR]; exact Nat.le_of_ble_eq_true rfl, by rw [hR]; exact Nat.le_of_ble_eq_true rfl⟩, htg _ kw_59, htg _ kw_60⟩ (xpreVs hK hPc hDc hT hFc hS (xT.recv hT 11 (by decide) hS)) rfl rfl hl.1 rfl (lv_room (Nat.le_of_ble_eq_true rfl)) dJ0_charAt_5068e_1 ⟨by rw [hR]; exact Nat.le_of_ble_eq_true rfl, by rw [hR]; exact Nat.le_of_ble_eq_true rfl⟩) hS (fun q _ h => hFc q h) hFc (fun r9 u9 t H1 locs ht hvm hw hB hz1 hk1 hS => ?_)
  subst hw
  obtain ⟨fik, flk, vik, vlk, hP1, hD1, hG⟩ := hB
  rw [ht] at hP1
  obtain ⟨hP, hD⟩ := va_join (wr := []) (w1 := []) hP hD [] [] hC9 rfl (by decide) (by decide) hk1 hFc hP1 hD1
  obtain ⟨rk, er9⟩ : ∃ z, z = r9 := ⟨_, rfl⟩
  subst er9
  clear hPc hDc hFc hP1 hD1 hk1 hz1 hvm ht hC9
  generalize H1 = H at hP hS ⊢
  obtain ⟨hP, hD⟩ := (show xPD D A [] H from ⟨hP, hD⟩)
  obtain ⟨gk_0, -⟩ := hG
  replace gk_0 : rk = 1 := gk_0
  refine xz_i 1 gk_0 ?_
  refine lv_if_eq (tgt := 16) hx hb dJ0_charAt_5068e_4 (by decide) (fun c => absurd c (by decide)) (fun _ => ?_)
  refine lv_aload_n hx hb dJ0_charAt_5068e_7 rfl (lv_at hl 0 rfl) ?_
  refine vk_getf hx hb (hT.2.1 11 (by decide)).2.2.1 hS hown (htg _ kw_2030) (fun _ h9 => h9) dJ0_charAt_5068e_8 ?_
  refine lv_iload_n hx hb dJ0_charAt_5068e_11 rfl (lv_at hl 1 rfl) ?_
  obtain ⟨hC9, hPc, hDc, hFc⟩ := xcut (wc := (pre_J1_charAt_3b067 T (xa []) (xa []) (xf []) (xh []) (xv [(vi 0)]) (xl []))) hP hD hS hA [] (by decide) rfl
  refine va_calli (va_runS (As := [.ref (kV 11), .int (vi 0)]) (rest := []) ⟨hx, hb, hml, hown, htg⟩ (c_J1_charAt_3b067 l D T (xa []) (xa []) (xf []) (xh []) (xv [(vi 0)]) (xl []) kK kV H.size hp0) ⟨callB_of 2 htg (xg_ok kw_64) rfl rfl rfl (htg _ kw_4) (htg _ kw_62) (by decide +kernel) ⟨by rw [hR]; exact Nat.le_of_ble_eq_true rfl, by rw [hR]; exact Nat.le_of_ble_eq_true rfl⟩, htg _ kw_63⟩ (xpreSs hK hPc hDc hT hFc hS) rfl rfl hl.1 rfl (lv_room (Nat.le_of_ble_eq_true rfl)) dJ0_charAt_5068e_12 ⟨by rw [hR]; exact Nat.le_of_ble_eq_true rfl, by rw [hR]; exact Nat.le_of_ble_eq_true rfl⟩) hS (fun q _ h => hFc q h) hFc (fun r9 u9 t H1 locs ht hvm hw hB hz1 hk1 hS => ?_)
  subst hw
  obtain ⟨fik_1, flk_1, vik_1, vlk_1, hP1, hD1, hG⟩ := hB
  rw [ht] at hP1
  obtain ⟨hP, hD⟩ := va_join (wr := []) (w1 := []) hP hD [] [] hC9 rfl (by decide) (by decide) hk1 hFc hP1 hD1
  obtain ⟨rk_1, er9⟩ : ∃ z, z = r9 := ⟨_, rfl⟩
  subst er9
  clear hPc hDc hFc hP1 hD1 hk1 hz1 hvm ht hC9
  generalize H1 = H at hP hS ⊢
  obtain ⟨hP, hD⟩ := (show xPD D A [] H from ⟨hP, hD⟩)
  obtain ⟨gk_1_0, gk_1_1, -⟩ := hG
  replace gk_1_1 : rk_1 = (sBy.getD 11 []).getD ((vi 0).toInt).toNat 0 := (P_J1_charAt_3b067 gk_1_1 : _)
  replace gk_1_0 : narrow .char (.int rk_1) = .int rk_1 := gk_1_0
  have hP9 := hP.sub (ws' := []) [] rfl
  have hD9 := hD.sub (ws' := []) [] (by decide +kernel) rfl
  rw [hQ]
  exact W.zret (v := rk_1) hx hb hr gk_1_0 (fun t ht hW => ⟨⟨rk_1, rk_1, rfl, rfl, xf [], xh [], xv [], xl [], by rw [ht]; exact hP9, hD9, ⟨gk_1_0, (by unfold R_J0_charAt_5068e; exact (fun Q9 k9_0 => k9_0 hp0 fik flk vik vlk rk gk_0 fik_1 flk_1 vik_1 vlk_1 rk_1 gk_1_1 rfl)), trivial⟩⟩, hS.F ht⟩) hS.2.2 dJ0_charAt_5068e_15
abbrev pre_X6_isWord (T : Nat → ClassId) (a ex : Nat → Nat) (fi : Nat → Nat → Int32) (fl : Nat → Nat → Int64) (vi : Nat → Int32) (vl : Nat → Int64) : va_W := [((a 0), .inr (6, [.ref (ex 0), .ref (ex 1), .int (vi 0), .int (vi 1), .int (vi 2), .int (vi 3), .int (vi 4), .int (vi 5), .long (vl 0), .int (vi 6), .int (vi 7), .int (vi 8), .int (vi 9), .int (vi 10)]))]
set_option maxHeartbeats 8000000 in
set_option maxRecDepth 100000 in
theorem c_X6_isWord (l : Launch) (D : va_G) (T : Nat → ClassId) (a ex : Nat → Nat) (fi : Nat → Nat → Int32) (fl : Nat → Nat → Int64) (vi : Nat → Int32) (vl : Nat → Int64) (kK kV : Nat → Nat) (sz : Nat) (hp0 : 0 ≤ (vi 1).toInt ∧ (vi 1).toInt ≤ 940) (hp1 : 0 ≤ (vi 2).toInt ∧ (vi 2).toInt ≤ 940) (hp2 : 0 ≤ (vi 3).toInt ∧ (vi 3).toInt ≤ 940) (hp3 : 0 ≤ (vi 5).toInt ∧ (vi 5).toInt ≤ 940) (hp4 : 0 ≤ (vi 10).toInt ∧ (vi 10).toInt ≤ 940) : Met l yX6_isWord (xw yX6_isWord cX6_isWord 5 (some .boolean)) ({ frames := 4, cells := 0, slots := 0, locals := 101 }) (xPs D T kK kV [.ref (a 0), .ref (kK 11)] sz (pre_X6_isWord T a ex fi fl vi vl)) (va_Qi (fun r u => r = u) (xC D (va_A (pre_X6_isWord T a ex fi fl vi vl) sz) (fun fj fm vj vm => [((a 0), .inr (6, [.ref (ex 0), .ref (ex 1), .int (vi 0), .int (vi 1), .int (vi 2), .int (vi 3), .int (vi 4), .int (vi 5), .long (vl 0), .int (vi 6), .int (vi 7), .int (vi 8), .int (vi 9), .int (vi 10)]))]) (fun (r : Int32) (fj : Nat → Nat → Int32) (fm : Nat → Nat → Int64) (vj : Nat → Int32) (vm : Nat → Int64) => ((r = 1 ∧ (True)) ∨ (r = 0 ∧ (True))) ∧ R_X6_isWord fi fl vi vl r fj fm vj vm ∧ True)) (va_A (pre_X6_isWord T a ex fi fl vi vl) sz)) 0 0 (va_A (pre_X6_isWord T a ex fi fl vi vl) sz) := by
  refine xofW (cc := cX6_isWord) (maxL := 5) (ret := (some .boolean)) (by decide) rfl ?_
  intro p e s m args below meth c s₁ R Q hR hQ B hml hv
  obtain ⟨rfl, hsz, hP, hK, hD0, hT⟩ := hv
  have hx := B.exec
  have hb := B.bytes
  have hr := B.returns
  have hts := atoms_spec (ws := xw yX6_isWord cX6_isWord 5 (some .boolean)) B.pre
  have htg : ∀ w ∈ xg, w.before _ s = true := fun w h => hts w (List.mem_cons_of_mem _ h)
  have hown : s.vm.findClass RX6 = some m.cls := findClass_of_methodNamed B.named
  have hlocks := B.notSynchronized
  subst hsz
  have hD := hD0.self (sz := s.heap.size)
  generalize hAe : va_A (pre_X6_isWord T a ex fi fl vi vl) s.heap.size = A at hD hQ hT
  have hA : ∀ q : Nat, s.heap.size ≤ q → A q := fun q h => by rw [← hAe]; exact Or.inr h
  have hS : va_S A s.heap s.heap [] := va_S.rf
  replace hP : va_P D vwCl [((a 0), .inr (6, [.ref (ex 0), .ref (ex 1), .int (vi 0), .int (vi 1), .int (vi 2), .int (vi 3), .int (vi 4), .int (vi 5), .long (vl 0), .int (vi 6), .int (vi 7), .int (vi 8), .int (vi 9), .int (vi 10)]))] s.heap := hP
  replace hD : va_D A [((a 0), .inr (6, [.ref (ex 0), .ref (ex 1), .int (vi 0), .int (vi 1), .int (vi 2), .int (vi 3), .int (vi 4), .int (vi 5), .long (vl 0), .int (vi 6), .int (vi 7), .int (vi 8), .int (vi 9), .int (vi 10)]))] := hD
  have hl := lv_entry ([.ref (a 0), .ref (kK 11)]) (n := 5) (Nat.le_of_ble_eq_true rfl)
  rw [lg_entry_eq]
  generalize (lg_sl ([.ref (a 0), .ref (kK 11)]) ++ List.replicate (5 - (lg_sl ([.ref (a 0), .ref (kK 11)])).length) Slot.unset).toArray = ls at hl ⊢
  replace hl : lv_has ls 5 [(0, .ref (a 0)), (1, .ref (kK 11))] := hl
  refine lv_lconst (v := 0) hx hb dX6_isWord_0 (by decide) ?_
  refine lv_lstore_n (lv' := [(2, .long 0), (0, .ref (a 0)), (1, .ref (kK 11))]) hx hb dX6_isWord_1 rfl hl (by decide) rfl (fun ls hl => ?_)
  refine lv_iconst (v := 0) hx hb dX6_isWord_2 (by decide) ?_
  refine lv_istore (lv' := [(4, .int 0), (2, .long 0), (0, .ref (a 0)), (1, .ref (kK 11))]) hx hb dX6_isWord_3 hl (by decide) rfl (fun ls hl => ?_)
  have lp : ∀ (kn : Nat) (w4 : Int32) (w2 : Int64) (H : Heap) (locs : List Loc) (ls : Array Slot), (0 ≤ w4.toInt ∧ w4.toInt ≤ 6) → (w2 = pkw (sBy.getD 11 []) (w4.toInt).toNat) → (2147483648 - w4.toInt).toNat = kn → va_P D vwCl [((a 0), .inr (6, [.ref (ex 0), .ref (ex 1), .int (vi 0), .int (vi 1), .int (vi 2), .int (vi 3), .int (vi 4), .int (vi 5), .long (vl 0), .int (vi 6), .int (vi 7), .int (vi 8), .int (vi 9), .int (vi 10)]))] H → va_D A [((a 0), .inr (6, [.ref (ex 0), .ref (ex 1), .int (vi 0), .int (vi 1), .int (vi 2), .int (vi 3), .int (vi 4), .int (vi 5), .long (vl 0), .int (vi 6), .int (vi 7), .int (vi 8), .int (vi 9), .int (vi 10)]))] → va_S A s.heap H locs → lv_has ls 5 [(4, .int w4), (2, .long w2), (0, .ref (a 0)), (1, .ref (kK 11))] → W p l e R s m ([.ref (a 0), .ref (kK 11)] : List Value).toArray below meth c H locs 0 0 Q (F0 m 5 ls []) := by
    intro kn
    induction kn using Nat.strongRecOn with
    | _ kn ih =>
      intro w4 w2 H locs ls hi hpk9 hm hP hD hS hl
      refine lv_iload hx hb dX6_isWord_5 (lv_at hl 0 rfl) ?_
      refine lv_aload_n hx hb dX6_isWord_7 rfl (lv_at hl 3 rfl) ?_
      obtain ⟨hC9, hPc, hDc, hFc⟩ := xcut (wc := (pre_J0_length_8abf5 T (xa []) (xa []) (xf []) (xh []) (xv []) (xl []))) hP hD hS hA [] (by decide) rfl
      refine va_calli (va_runV (As := []) (rest := [.int w4]) ⟨hx, hb, hml, hown, htg⟩ (c_J0_length_8abf5 l D T (xa []) (xa []) (xf []) (xh []) (xv []) (xl []) kK kV H.size) ⟨callB_of 0 htg (xg_ok kw_47) rfl rfl rfl (htg _ kw_3) (htg _ kw_44) (by decide +kernel) ⟨by rw [hR]; exact Nat.le_of_ble_eq_true rfl, by rw [hR]; exact Nat.le_of_ble_eq_true rfl⟩, htg _ kw_45, htg _ kw_46⟩ (xpreVs hK hPc hDc hT hFc hS (xT.recv hT 11 (by decide) hS)) rfl rfl hl.1 rfl (lv_room (Nat.le_of_ble_eq_true rfl)) dX6_isWord_8 ⟨by rw [hR]; exact Nat.le_of_ble_eq_true rfl, by rw [hR]; exact Nat.le_of_ble_eq_true rfl⟩) hS (fun q _ h => hFc q h) hFc (fun r9 u9 t H1 locs ht hvm hw hB hz1 hk1 hS => ?_)
      subst hw
      obtain ⟨fik, flk, vik, vlk, hP1, hD1, hG⟩ := hB
      rw [ht] at hP1
      obtain ⟨hP, hD⟩ := va_join (wr := [((a 0), .inr (6, [.ref (ex 0), .ref (ex 1), .int (vi 0), .int (vi 1), .int (vi 2), .int (vi 3), .int (vi 4), .int (vi 5), .long (vl 0), .int (vi 6), .int (vi 7), .int (vi 8), .int (vi 9), .int (vi 10)]))]) (w1 := []) hP hD [] [0] hC9 rfl (by decide) (by decide) hk1 hFc hP1 hD1
      obtain ⟨rk, er9⟩ : ∃ z, z = r9 := ⟨_, rfl⟩
      subst er9
      clear hPc hDc hFc hP1 hD1 hk1 hz1 hvm ht hC9
      generalize H1 = H at hP hS ⊢
      obtain ⟨hP, hD⟩ := (show xPD D A [((a 0), .inr (6, [.ref (ex 0), .ref (ex 1), .int (vi 0), .int (vi 1), .int (vi 2), .int (vi 3), .int (vi 4), .int (vi 5), .long (vl 0), .int (vi 6), .int (vi 7), .int (vi 8), .int (vi 9), .int (vi 10)]))] H from ⟨hP, hD⟩)
      obtain ⟨gk_0, -⟩ := hG
      replace gk_0 : rk = 6 := gk_0
      refine xz_i 6 gk_0 ?_
      refine lv_icmp_ge (tgt := 33) hx hb dX6_isWord_11 (by decide) (fun c11 => ?_) (fun c11 => ?_)
      · have c11 := xge (k := 6) (by decide) c11
        refine lv_aload_n hx hb dX6_isWord_33 rfl (lv_at hl 2 rfl) ?_
        refine va_get (D := D) (ci := 6) (v := .int (vi 4)) (C := RX6) (T := TX6) (N := 14) hx hb htg inX6 hown hK.1 hP 0 rfl rfl 6 (by decide) (htg _ kw_104) (fun _ h9 => h9) rfl dX6_isWord_34 ?_
        refine lv_iconst (v := 1) hx hb dX6_isWord_37 (by decide) ?_
        refine lv_icmp_ne (tgt := 54) hx hb dX6_isWord_38 (by decide) (fun c38 => ?_) (fun c38 => ?_)
        · have c38 := xne (k := 1) (by decide) c38
          refine lv_iconst (v := 0) hx hb dX6_isWord_54 (by decide) ?_
          have hP9 := hP.sub (ws' := [((a 0), .inr (6, [.ref (ex 0), .ref (ex 1), .int (vi 0), .int (vi 1), .int (vi 2), .int (vi 3), .int (vi 4), .int (vi 5), .long (vl 0), .int (vi 6), .int (vi 7), .int (vi 8), .int (vi 9), .int (vi 10)]))]) [0] rfl
          have hD9 := hD.sub (ws' := [((a 0), .inr (6, [.ref (ex 0), .ref (ex 1), .int (vi 0), .int (vi 1), .int (vi 2), .int (vi 3), .int (vi 4), .int (vi 5), .long (vl 0), .int (vi 6), .int (vi 7), .int (vi 8), .int (vi 9), .int (vi 10)]))]) [0] (by decide +kernel) rfl
          rw [hQ]
          exact W.zret (v := 0) hx hb hr rfl (fun t ht hW => ⟨⟨0, 0, rfl, rfl, xf [], xh [], xv [], xl [], by rw [ht]; exact hP9, hD9, ⟨(Or.inr ⟨rfl, by show True; first | trivial | omega | assumption⟩), (by unfold R_X6_isWord; exact (fun Q9 k9_0 k9_1 k9_2 => k9_0 hp0 hp1 hp2 hp3 hp4 w4 w2 hi hpk9 fik flk vik vlk rk gk_0 c11 c38 rfl)), trivial⟩⟩, hS.F ht⟩) hS.2.2 dX6_isWord_55
        · have c38 := xeq (k := 1) (by decide) c38
          refine lv_lload_n hx hb dX6_isWord_41 rfl (lv_at hl 1 rfl) ?_
          refine lv_aload_n hx hb dX6_isWord_42 rfl (lv_at hl 2 rfl) ?_
          refine va_get (D := D) (ci := 6) (v := .long (vl 0)) (C := RX6) (T := TX6) (N := 14) hx hb htg inX6 hown hK.1 hP 0 rfl rfl 8 (by decide) (htg _ kw_108) (fun _ h9 => h9) rfl dX6_isWord_43 ?_
          refine W.lcmp hx hb dX6_isWord_46 ?_
          refine lv_topi (fun z46 ez46 => ?_)
          refine lv_if_ne (tgt := 54) hx hb dX6_isWord_47 (by decide) (fun c47 => ?_) (fun c47 => ?_)
          · have c47 := xne (k := 0) (by decide) c47
            refine lv_iconst (v := 0) hx hb dX6_isWord_54 (by decide) ?_
            have hP9 := hP.sub (ws' := [((a 0), .inr (6, [.ref (ex 0), .ref (ex 1), .int (vi 0), .int (vi 1), .int (vi 2), .int (vi 3), .int (vi 4), .int (vi 5), .long (vl 0), .int (vi 6), .int (vi 7), .int (vi 8), .int (vi 9), .int (vi 10)]))]) [0] rfl
            have hD9 := hD.sub (ws' := [((a 0), .inr (6, [.ref (ex 0), .ref (ex 1), .int (vi 0), .int (vi 1), .int (vi 2), .int (vi 3), .int (vi 4), .int (vi 5), .long (vl 0), .int (vi 6), .int (vi 7), .int (vi 8), .int (vi 9), .int (vi 10)]))]) [0] (by decide +kernel) rfl
            rw [hQ]
            exact W.zret (v := 0) hx hb hr rfl (fun t ht hW => ⟨⟨0, 0, rfl, rfl, xf [], xh [], xv [], xl [], by rw [ht]; exact hP9, hD9, ⟨(Or.inr ⟨rfl, by show True; first | trivial | omega | assumption⟩), (by unfold R_X6_isWord; exact (fun Q9 k9_0 k9_1 k9_2 => k9_1 hp0 hp1 hp2 hp3 hp4 w4 w2 hi hpk9 fik flk vik vlk rk gk_0 c11 c38 z46 ez46 c47 rfl)), trivial⟩⟩, hS.F ht⟩) hS.2.2 dX6_isWord_55
          · have c47 := xeq (k := 0) (by decide) c47
            refine lv_iconst (v := 1) hx hb dX6_isWord_50 (by decide) ?_
            refine lv_goto (tgt := 55) hx hb dX6_isWord_51 (by decide) ?_
            have hP9 := hP.sub (ws' := [((a 0), .inr (6, [.ref (ex 0), .ref (ex 1), .int (vi 0), .int (vi 1), .int (vi 2), .int (vi 3), .int (vi 4), .int (vi 5), .long (vl 0), .int (vi 6), .int (vi 7), .int (vi 8), .int (vi 9), .int (vi 10)]))]) [0] rfl
            have hD9 := hD.sub (ws' := [((a 0), .inr (6, [.ref (ex 0), .ref (ex 1), .int (vi 0), .int (vi 1), .int (vi 2), .int (vi 3), .int (vi 4), .int (vi 5), .long (vl 0), .int (vi 6), .int (vi 7), .int (vi 8), .int (vi 9), .int (vi 10)]))]) [0] (by decide +kernel) rfl
            rw [hQ]
            exact W.zret (v := 1) hx hb hr rfl (fun t ht hW => ⟨⟨1, 1, rfl, rfl, xf [], xh [], xv [], xl [], by rw [ht]; exact hP9, hD9, ⟨(Or.inl ⟨rfl, by show True; first | trivial | omega | assumption⟩), (by unfold R_X6_isWord; exact (fun Q9 k9_0 k9_1 k9_2 => k9_2 hp0 hp1 hp2 hp3 hp4 w4 w2 hi hpk9 fik flk vik vlk rk gk_0 c11 c38 z46 ez46 c47 rfl)), trivial⟩⟩, hS.F ht⟩) hS.2.2 dX6_isWord_55
      · have c11 := xnge (k := 6) (by decide) c11
        refine lv_lload_n hx hb dX6_isWord_14 rfl (lv_at hl 1 rfl) ?_
        refine lv_bipush (v := 8) hx hb dX6_isWord_15 (by decide) ?_
        refine lv_lshl hx hb dX6_isWord_17 rfl ?_
        refine lv_topl (fun z17 ez17 => ?_)
        refine lv_aload_n hx hb dX6_isWord_18 rfl (lv_at hl 3 rfl) ?_
        refine lv_iload hx hb dX6_isWord_19 (lv_at hl 0 rfl) ?_
        obtain ⟨hC9, hPc, hDc, hFc⟩ := xcut (wc := (pre_J0_charAt_5068e T (xa []) (xa []) (xf []) (xh []) (xv [w4]) (xl []))) hP hD hS hA [] (by decide) rfl
        refine va_calli (va_runV (As := [.int w4]) (rest := [.long z17]) ⟨hx, hb, hml, hown, htg⟩ (c_J0_charAt_5068e l D T (xa []) (xa []) (xf []) (xh []) (xv [w4]) (xl []) kK kV H.size (by show 0 ≤ w4.toInt ∧ w4.toInt ≤ 5; omega)) ⟨callB_of 1 htg (xg_ok kw_57) rfl rfl rfl (htg _ kw_3) (htg _ kw_54) (by decide +kernel) ⟨by rw [hR]; exact Nat.le_of_ble_eq_true rfl, by rw [hR]; exact Nat.le_of_ble_eq_true rfl⟩, htg _ kw_55, htg _ kw_56⟩ (xpreVs hK hPc hDc hT hFc hS (xT.recv hT 11 (by decide) hS)) rfl rfl hl.1 rfl (lv_room (Nat.le_of_ble_eq_true rfl)) dX6_isWord_21 ⟨by rw [hR]; exact Nat.le_of_ble_eq_true rfl, by rw [hR]; exact Nat.le_of_ble_eq_true rfl⟩) hS (fun q _ h => hFc q h) hFc (fun r9 u9 t H1 locs ht hvm hw hB hz1 hk1 hS => ?_)
        subst hw
        obtain ⟨fik_1, flk_1, vik_1, vlk_1, hP1, hD1, hG⟩ := hB
        rw [ht] at hP1
        obtain ⟨hP, hD⟩ := va_join (wr := [((a 0), .inr (6, [.ref (ex 0), .ref (ex 1), .int (vi 0), .int (vi 1), .int (vi 2), .int (vi 3), .int (vi 4), .int (vi 5), .long (vl 0), .int (vi 6), .int (vi 7), .int (vi 8), .int (vi 9), .int (vi 10)]))]) (w1 := []) hP hD [] [0] hC9 rfl (by decide) (by decide) hk1 hFc hP1 hD1
        obtain ⟨rk_1, er9⟩ : ∃ z, z = r9 := ⟨_, rfl⟩
        subst er9
        clear hPc hDc hFc hP1 hD1 hk1 hz1 hvm ht hC9
        generalize H1 = H at hP hS ⊢
        obtain ⟨hP, hD⟩ := (show xPD D A [((a 0), .inr (6, [.ref (ex 0), .ref (ex 1), .int (vi 0), .int (vi 1), .int (vi 2), .int (vi 3), .int (vi 4), .int (vi 5), .long (vl 0), .int (vi 6), .int (vi 7), .int (vi 8), .int (vi 9), .int (vi 10)]))] H from ⟨hP, hD⟩)
        obtain ⟨gk_1_0, gk_1_1, -⟩ := hG
        replace gk_1_1 : rk_1 = (sBy.getD 11 []).getD (w4.toInt).toNat 0 := (P_J0_charAt_5068e gk_1_1 : _)
        replace gk_1_0 : narrow .char (.int rk_1) = .int rk_1 := gk_1_0
        refine lv_i2l hx hb dX6_isWord_24 rfl ?_
        refine lv_topl (fun z24 ez24 => ?_)
        refine lv_lor hx hb dX6_isWord_25 ?_
        refine lv_topl (fun z25 ez25 => ?_)
        refine lv_lstore_n (lv' := [(2, .long z25), (4, .int w4), (0, .ref (a 0)), (1, .ref (kK 11))]) hx hb dX6_isWord_26 rfl hl (by decide) rfl (fun ls hl => ?_)
        obtain ⟨i27, ei27⟩ : ∃ z : Int32, w4 + Int32.ofInt 1 = z := ⟨_, rfl⟩
        have ti27 : i27.toInt = w4.toInt + 1 := by rw [← ei27]; have h79 := xrng w4; exact xadd rfl (by decide) (by omega) (by omega)
        refine lv_iinc (v := i27) (lv' := [(4, .int i27), (2, .long z25), (0, .ref (a 0)), (1, .ref (kK 11))]) hx hb dX6_isWord_27 hl (k := 1) rfl ei27 (by decide) rfl (fun ls hl => ?_)
        refine lv_goto (tgt := 5) hx hb dX6_isWord_30 (by decide) ?_
        exact ih _ (by omega) i27 z25 _ _ _ (by show 0 ≤ i27.toInt ∧ i27.toInt ≤ 6; omega) (by show z25 = pkw (sBy.getD 11 []) (i27.toInt).toNat; rw [ez25, ez17, ez24]; exact pkw_s hpk9 (by omega) (by omega) (by assumption)) rfl (hP.sub [0] rfl) (hD.sub [0] (by decide) rfl) hS (lv_sub hl [0, 1, 2, 3] rfl)
  exact lp _ (0 : Int32) (0 : Int64) _ _ _ (show 0 ≤ (0 : Int32).toInt ∧ (0 : Int32).toInt ≤ 6 by decide) (by show (0 : Int64) = pkw (sBy.getD 11 []) ((0 : Int32).toInt).toNat; have k9_0 : (0 : Int32).toInt = 0 := (by decide); rw [show (0 : Int32).toInt.toNat = 0 by decide]; rfl) rfl hP hD hS hl
abbrev pre_X7_find (T : Nat → ClassId) (a ex : Nat → Nat) (fi : Nat → Nat → Int32) (fl : Nat → Nat → Int64) (vi : Nat → Int32) (vl : Nat → Int64) : va_W := [((a 0), .inl (T 2, 9, .inr (.inl (fl 0))))]
set_option maxHeartbeats 8000000 in
set_option maxRecDepth 100000 in
theorem c_X7_find (l : Launch) (D : va_G) (T : Nat → ClassId) (a ex : Nat → Nat) (fi : Nat → Nat → Int32) (fl : Nat → Nat → Int64) (vi : Nat → Int32) (vl : Nat → Int64) (sz : Nat) : Met l yX7_find (xw yX7_find cX7_find 5 (some .int)) ({ frames := 0, cells := 0, slots := 0, locals := 0 }) (xP D T [.long (vl 0), .ref (a 0), .int (vi 0)] sz (pre_X7_find T a ex fi fl vi vl)) (va_Qi (fun r u => r = u) (xC D (va_A (pre_X7_find T a ex fi fl vi vl) sz) (fun fj fm vj vm => [((a 0), .inl (T 2, 9, .inr (.inl (fl 0))))]) (fun (r : Int32) (fj : Nat → Nat → Int32) (fm : Nat → Nat → Int64) (vj : Nat → Int32) (vm : Nat → Int64) => (-1 ≤ r.toInt ∧ r.toInt ≤ 8) ∧ R_X7_find fi fl vi vl r fj fm vj vm ∧ True)) (va_A (pre_X7_find T a ex fi fl vi vl) sz)) 0 0 (va_A (pre_X7_find T a ex fi fl vi vl) sz) := by
  refine xofW (cc := cX7_find) (maxL := 5) (ret := (some .int)) (by decide) rfl ?_
  intro p e s m args below meth c s₁ R Q hR hQ B hml hv
  obtain ⟨rfl, hsz, hP, hK, hD0⟩ := hv
  have hx := B.exec
  have hb := B.bytes
  have hr := B.returns
  have hts := atoms_spec (ws := xw yX7_find cX7_find 5 (some .int)) B.pre
  have htg : ∀ w ∈ xg, w.before _ s = true := fun w h => hts w (List.mem_cons_of_mem _ h)
  have hown : s.vm.findClass RX7 = some m.cls := findClass_of_methodNamed B.named
  have hlocks := B.notSynchronized
  subst hsz
  have hD := hD0.self (sz := s.heap.size)
  generalize hAe : va_A (pre_X7_find T a ex fi fl vi vl) s.heap.size = A at hD hQ
  have hA : ∀ q : Nat, s.heap.size ≤ q → A q := fun q h => by rw [← hAe]; exact Or.inr h
  have hS : va_S A s.heap s.heap [] := va_S.rf
  replace hP : va_P D vwCl [((a 0), .inl (T 2, 9, .inr (.inl (fl 0))))] s.heap := hP
  replace hD : va_D A [((a 0), .inl (T 2, 9, .inr (.inl (fl 0))))] := hD
  have hl := lv_entry ([.long (vl 0), .ref (a 0), .int (vi 0)]) (n := 5) (Nat.le_of_ble_eq_true rfl)
  rw [lg_entry_eq]
  generalize (lg_sl ([.long (vl 0), .ref (a 0), .int (vi 0)]) ++ List.replicate (5 - (lg_sl ([.long (vl 0), .ref (a 0), .int (vi 0)])).length) Slot.unset).toArray = ls at hl ⊢
  replace hl : lv_has ls 5 [(0, .long (vl 0)), (2, .ref (a 0)), (3, .int (vi 0))] := hl
  refine lv_iconst (v := 0) hx hb dX7_find_0 (by decide) ?_
  refine lv_istore (lv' := [(4, .int 0), (0, .long (vl 0)), (2, .ref (a 0)), (3, .int (vi 0))]) hx hb dX7_find_1 hl (by decide) rfl (fun ls hl => ?_)
  have lp : ∀ (kn : Nat) (w4 : Int32) (H : Heap) (locs : List Loc) (ls : Array Slot), (0 ≤ w4.toInt ∧ w4.toInt ≤ 9) → (∀ j : Nat, (j : Int) < w4.toInt → ¬ (fl 0) j = (vl 0)) → (2147483648 - w4.toInt).toNat = kn → va_P D vwCl [((a 0), .inl (T 2, 9, .inr (.inl (fl 0))))] H → va_D A [((a 0), .inl (T 2, 9, .inr (.inl (fl 0))))] → va_S A s.heap H locs → lv_has ls 5 [(4, .int w4), (0, .long (vl 0)), (2, .ref (a 0)), (3, .int (vi 0))] → W p l e R s m ([.long (vl 0), .ref (a 0), .int (vi 0)] : List Value).toArray below meth c H locs 0 0 Q (F0 m 3 ls []) := by
    intro kn
    induction kn using Nat.strongRecOn with
    | _ kn ih =>
      intro w4 H locs ls hi hfd9 hm hP hD hS hl
      refine lv_iload hx hb dX7_find_3 (lv_at hl 0 rfl) ?_
      refine lv_iload_n hx hb dX7_find_5 rfl (lv_at hl 3 rfl) ?_
      refine lv_icmp_ge (tgt := 34) hx hb dX7_find_6 (by decide) (fun c6 => ?_) (fun c6 => ?_)
      · have c6 := Int32.le_iff_toInt_le.mp c6
        have rc6 := xrng w4; have qc6 := xrng (vi 0)
        refine lv_iconst (v := (-1)) hx hb dX7_find_34 (by decide) ?_
        have hP9 := hP.sub (ws' := [((a 0), .inl (T 2, 9, .inr (.inl (fl 0))))]) [0] rfl
        have hD9 := hD.sub (ws' := [((a 0), .inl (T 2, 9, .inr (.inl (fl 0))))]) [0] (by decide +kernel) rfl
        rw [hQ]
        exact W.iret (v := (-1)) hx hb hr (fun t ht hW => ⟨⟨(-1), (-1), rfl, rfl, xf [], xh [], xv [], xl [], by rw [ht]; exact hP9, hD9, ⟨(by show -1 ≤ ((-1) : Int32).toInt ∧ ((-1) : Int32).toInt ≤ 8; have k9_0 : ((-1) : Int32).toInt = (-1) := (by decide); omega), (by unfold R_X7_find; exact (fun Q9 k9_0 k9_1 k9_2 => k9_0 w4 hi hfd9 c6 rfl)), trivial⟩⟩, hS.F ht⟩) hS.2.2 dX7_find_35
      · have c6 := (mt Int32.le_iff_toInt_le.mpr c6)
        have rc6 := xrng w4; have qc6 := xrng (vi 0)
        refine lv_iload hx hb dX7_find_9 (lv_at hl 0 rfl) ?_
        refine lv_aload_n hx hb dX7_find_11 rfl (lv_at hl 2 rfl) ?_
        refine va_alen (v := 9) hx hb hK.1 hP 0 2 rfl rfl (show Int32.ofNat 9 = 9 by decide) dX7_find_12 ?_
        refine lv_icmp_ge (tgt := 34) hx hb dX7_find_13 (by decide) (fun c13 => ?_) (fun c13 => ?_)
        · have c13 := xge (k := 9) (by decide) c13
          refine lv_iconst (v := (-1)) hx hb dX7_find_34 (by decide) ?_
          have hP9 := hP.sub (ws' := [((a 0), .inl (T 2, 9, .inr (.inl (fl 0))))]) [0] rfl
          have hD9 := hD.sub (ws' := [((a 0), .inl (T 2, 9, .inr (.inl (fl 0))))]) [0] (by decide +kernel) rfl
          rw [hQ]
          exact W.iret (v := (-1)) hx hb hr (fun t ht hW => ⟨⟨(-1), (-1), rfl, rfl, xf [], xh [], xv [], xl [], by rw [ht]; exact hP9, hD9, ⟨(by show -1 ≤ ((-1) : Int32).toInt ∧ ((-1) : Int32).toInt ≤ 8; have k9_0 : ((-1) : Int32).toInt = (-1) := (by decide); omega), (by unfold R_X7_find; exact (fun Q9 k9_0 k9_1 k9_2 => k9_1 w4 hi hfd9 c6 c13 rfl)), trivial⟩⟩, hS.F ht⟩) hS.2.2 dX7_find_35
        · have c13 := xnge (k := 9) (by decide) c13
          refine lv_aload_n hx hb dX7_find_16 rfl (lv_at hl 2 rfl) ?_
          refine lv_iload hx hb dX7_find_17 (lv_at hl 0 rfl) ?_
          refine va_lald hx hb hK.1 hP 0 2 rfl rfl (vp_in_iff.mpr (by omega)) dX7_find_19 ?_
          refine lv_lload_n hx hb dX7_find_20 rfl (lv_at hl 1 rfl) ?_
          refine W.lcmp hx hb dX7_find_21 ?_
          refine lv_topi (fun z21 ez21 => ?_)
          refine lv_if_ne (tgt := 28) hx hb dX7_find_22 (by decide) (fun c22 => ?_) (fun c22 => ?_)
          · have c22 := xne (k := 0) (by decide) c22
            obtain ⟨i28, ei28⟩ : ∃ z : Int32, w4 + Int32.ofInt 1 = z := ⟨_, rfl⟩
            have ti28 : i28.toInt = w4.toInt + 1 := by rw [← ei28]; have h79 := xrng w4; exact xadd rfl (by decide) (by omega) (by omega)
            refine lv_iinc (v := i28) (lv' := [(4, .int i28), (0, .long (vl 0)), (2, .ref (a 0)), (3, .int (vi 0))]) hx hb dX7_find_28 hl (k := 0) rfl ei28 (by decide) rfl (fun ls hl => ?_)
            refine lv_goto (tgt := 3) hx hb dX7_find_31 (by decide) ?_
            exact ih _ (by omega) i28 _ _ _ (by show 0 ≤ i28.toInt ∧ i28.toInt ≤ 9; omega) (by show ∀ j : Nat, (j : Int) < i28.toInt → ¬ (fl 0) j = (vl 0); exact cmp_all hfd9 (by omega) (by omega) (by assumption) (by assumption)) rfl (hP.sub [0] rfl) (hD.sub [0] (by decide) rfl) hS (lv_sub hl [0, 1, 2, 3] rfl)
          · have c22 := xeq (k := 0) (by decide) c22
            refine lv_iload hx hb dX7_find_25 (lv_at hl 0 rfl) ?_
            have hP9 := hP.sub (ws' := [((a 0), .inl (T 2, 9, .inr (.inl (fl 0))))]) [0] rfl
            have hD9 := hD.sub (ws' := [((a 0), .inl (T 2, 9, .inr (.inl (fl 0))))]) [0] (by decide +kernel) rfl
            rw [hQ]
            exact W.iret (v := w4) hx hb hr (fun t ht hW => ⟨⟨w4, w4, rfl, rfl, xf [], xh [], xv [], xl [], by rw [ht]; exact hP9, hD9, ⟨(by show -1 ≤ w4.toInt ∧ w4.toInt ≤ 8; omega), (by unfold R_X7_find; exact (fun Q9 k9_0 k9_1 k9_2 => k9_2 w4 hi hfd9 c6 c13 z21 ez21 c22 rfl)), trivial⟩⟩, hS.F ht⟩) hS.2.2 dX7_find_27
  exact lp _ (0 : Int32) _ _ _ (show 0 ≤ (0 : Int32).toInt ∧ (0 : Int32).toInt ≤ 9 by decide) (by show ∀ j : Nat, (j : Int) < (0 : Int32).toInt → ¬ (fl 0) j = (vl 0); have k9_0 : (0 : Int32).toInt = 0 := (by decide); intro j hj; exfalso; omega) rfl hP hD hS hl
abbrev pre_X7_findSoul (T : Nat → ClassId) (a ex : Nat → Nat) (fi : Nat → Nat → Int32) (fl : Nat → Nat → Int64) (vi : Nat → Int32) (vl : Nat → Int64) : va_W := [((a 0), .inr (7, [.int (vi 0), .int (vi 1), .ref (ex 0), .ref (ex 1), .ref (ex 2), .ref (ex 3), .ref (a 1), .ref (ex 4), .ref (ex 5), .ref (ex 6), .ref (ex 7), .ref (ex 8)])), ((a 1), .inl (T 2, 9, .inr (.inl (fl 0))))]
set_option maxHeartbeats 8000000 in
set_option maxRecDepth 100000 in
theorem c_X7_findSoul (l : Launch) (D : va_G) (T : Nat → ClassId) (a ex : Nat → Nat) (fi : Nat → Nat → Int32) (fl : Nat → Nat → Int64) (vi : Nat → Int32) (vl : Nat → Int64) (sz : Nat) (hp0 : 0 ≤ (vi 0).toInt ∧ (vi 0).toInt ≤ 9) (hp1 : 0 ≤ (vi 1).toInt ∧ (vi 1).toInt ≤ 9) : Met l yX7_findSoul (xw yX7_findSoul cX7_findSoul 3 (some .int)) ({ frames := 1, cells := 0, slots := 0, locals := 28 }) (xP D T [.ref (a 0), .long (vl 0)] sz (pre_X7_findSoul T a ex fi fl vi vl)) (va_Qi (fun r u => r = u) (xC D (va_A (pre_X7_findSoul T a ex fi fl vi vl) sz) (fun fj fm vj vm => [((a 0), .inr (7, [.int (vi 0), .int (vi 1), .ref (ex 0), .ref (ex 1), .ref (ex 2), .ref (ex 3), .ref (a 1), .ref (ex 4), .ref (ex 5), .ref (ex 6), .ref (ex 7), .ref (ex 8)])), ((a 1), .inl (T 2, 9, .inr (.inl (fl 0))))]) (fun (r : Int32) (fj : Nat → Nat → Int32) (fm : Nat → Nat → Int64) (vj : Nat → Int32) (vm : Nat → Int64) => (-1 ≤ r.toInt ∧ r.toInt ≤ 8) ∧ R_X7_findSoul fi fl vi vl r fj fm vj vm ∧ True)) (va_A (pre_X7_findSoul T a ex fi fl vi vl) sz)) 0 0 (va_A (pre_X7_findSoul T a ex fi fl vi vl) sz) := by
  refine xofW (cc := cX7_findSoul) (maxL := 3) (ret := (some .int)) (by decide) rfl ?_
  intro p e s m args below meth c s₁ R Q hR hQ B hml hv
  obtain ⟨rfl, hsz, hP, hK, hD0⟩ := hv
  have hx := B.exec
  have hb := B.bytes
  have hr := B.returns
  have hts := atoms_spec (ws := xw yX7_findSoul cX7_findSoul 3 (some .int)) B.pre
  have htg : ∀ w ∈ xg, w.before _ s = true := fun w h => hts w (List.mem_cons_of_mem _ h)
  have hown : s.vm.findClass RX7 = some m.cls := findClass_of_methodNamed B.named
  have hlocks := B.notSynchronized
  subst hsz
  have hD := hD0.self (sz := s.heap.size)
  generalize hAe : va_A (pre_X7_findSoul T a ex fi fl vi vl) s.heap.size = A at hD hQ
  have hA : ∀ q : Nat, s.heap.size ≤ q → A q := fun q h => by rw [← hAe]; exact Or.inr h
  have hS : va_S A s.heap s.heap [] := va_S.rf
  replace hP : va_P D vwCl [((a 0), .inr (7, [.int (vi 0), .int (vi 1), .ref (ex 0), .ref (ex 1), .ref (ex 2), .ref (ex 3), .ref (a 1), .ref (ex 4), .ref (ex 5), .ref (ex 6), .ref (ex 7), .ref (ex 8)])), ((a 1), .inl (T 2, 9, .inr (.inl (fl 0))))] s.heap := hP
  replace hD : va_D A [((a 0), .inr (7, [.int (vi 0), .int (vi 1), .ref (ex 0), .ref (ex 1), .ref (ex 2), .ref (ex 3), .ref (a 1), .ref (ex 4), .ref (ex 5), .ref (ex 6), .ref (ex 7), .ref (ex 8)])), ((a 1), .inl (T 2, 9, .inr (.inl (fl 0))))] := hD
  have hl := lv_entry ([.ref (a 0), .long (vl 0)]) (n := 3) (Nat.le_of_ble_eq_true rfl)
  rw [lg_entry_eq]
  generalize (lg_sl ([.ref (a 0), .long (vl 0)]) ++ List.replicate (3 - (lg_sl ([.ref (a 0), .long (vl 0)])).length) Slot.unset).toArray = ls at hl ⊢
  replace hl : lv_has ls 3 [(0, .ref (a 0)), (1, .long (vl 0))] := hl
  refine lv_lload_n hx hb dX7_findSoul_0 rfl (lv_at hl 1 rfl) ?_
  refine lv_aload_n hx hb dX7_findSoul_1 rfl (lv_at hl 0 rfl) ?_
  refine va_get (D := D) (ci := 7) (v := .ref (a 1)) (C := RX7) (T := TX7) (N := 12) hx hb htg inX7 hown hK.1 hP 0 rfl rfl 6 (by decide) (htg _ kw_180) (fun _ h9 => h9) rfl dX7_findSoul_2 ?_
  refine lv_aload_n hx hb dX7_findSoul_5 rfl (lv_at hl 0 rfl) ?_
  refine va_get (D := D) (ci := 7) (v := .int (vi 1)) (C := RX7) (T := TX7) (N := 12) hx hb htg inX7 hown hK.1 hP 0 rfl rfl 1 (by decide) (htg _ kw_163) (fun _ h9 => h9) rfl dX7_findSoul_6 ?_
  obtain ⟨hC9, hPc, hDc, hFc⟩ := xcut (wc := (pre_X7_find T (xa [(a 1)]) (xa []) (xf []) (xh [(fl 0)]) (xv [(vi 1)]) (xl [(vl 0)]))) hP hD hS hA [1] (by decide) rfl
  refine va_calli (va_runS (As := [.long (vl 0), .ref (a 1), .int (vi 1)]) (rest := []) ⟨hx, hb, hml, hown, htg⟩ (c_X7_find l D T (xa [(a 1)]) (xa []) (xf []) (xh [(fl 0)]) (xv [(vi 1)]) (xl [(vl 0)]) s.heap.size) ⟨callB_of 3 htg (xg_ok kw_610) rfl rfl rfl (htg _ kw_7) (htg _ kw_608) (by decide +kernel) ⟨by rw [hR]; exact Nat.le_of_ble_eq_true rfl, by rw [hR]; exact Nat.le_of_ble_eq_true rfl⟩, htg _ kw_609⟩ (xpreS hK hPc hDc) rfl rfl hl.1 rfl (lv_room (Nat.le_of_ble_eq_true rfl)) dX7_findSoul_9 ⟨by rw [hR]; exact Nat.le_of_ble_eq_true rfl, by rw [hR]; exact Nat.le_of_ble_eq_true rfl⟩) hS (fun q _ h => hFc q h) hFc (fun r9 u9 t H1 locs ht hvm hw hB hz1 hk1 hS => ?_)
  subst hw
  obtain ⟨fik, flk, vik, vlk, hP1, hD1, hG⟩ := hB
  rw [ht] at hP1
  obtain ⟨hP, hD⟩ := va_join (wr := [((a 0), .inr (7, [.int (vi 0), .int (vi 1), .ref (ex 0), .ref (ex 1), .ref (ex 2), .ref (ex 3), .ref (a 1), .ref (ex 4), .ref (ex 5), .ref (ex 6), .ref (ex 7), .ref (ex 8)]))]) (w1 := [((a 1), .inl (T 2, 9, .inr (.inl (fl 0))))]) hP hD [1] [0] hC9 rfl (by decide) (by decide) hk1 hFc hP1 hD1
  obtain ⟨rk, er9⟩ : ∃ z, z = r9 := ⟨_, rfl⟩
  subst er9
  clear hPc hDc hFc hP1 hD1 hk1 hz1 hvm ht hC9
  generalize H1 = H at hP hS ⊢
  obtain ⟨hP, hD⟩ := (show xPD D A [((a 0), .inr (7, [.int (vi 0), .int (vi 1), .ref (ex 0), .ref (ex 1), .ref (ex 2), .ref (ex 3), .ref (a 1), .ref (ex 4), .ref (ex 5), .ref (ex 6), .ref (ex 7), .ref (ex 8)])), ((a 1), .inl (T 2, 9, .inr (.inl (fl 0))))] H from ⟨hP, hD⟩)
  obtain ⟨gk_0, gk_1, -⟩ := hG
  replace gk_1 : (vi 1).toInt ≤ 9 → rk.toInt = fdx (fl 0) 0 (vl 0) ((vi 1).toInt).toNat := (P_X7_find gk_1 : _)
  replace gk_0 : -1 ≤ rk.toInt ∧ rk.toInt ≤ 8 := gk_0
  have hP9 := hP.sub (ws' := [((a 0), .inr (7, [.int (vi 0), .int (vi 1), .ref (ex 0), .ref (ex 1), .ref (ex 2), .ref (ex 3), .ref (a 1), .ref (ex 4), .ref (ex 5), .ref (ex 6), .ref (ex 7), .ref (ex 8)])), ((a 1), .inl (T 2, 9, .inr (.inl (fl 0))))]) [0, 1] rfl
  have hD9 := hD.sub (ws' := [((a 0), .inr (7, [.int (vi 0), .int (vi 1), .ref (ex 0), .ref (ex 1), .ref (ex 2), .ref (ex 3), .ref (a 1), .ref (ex 4), .ref (ex 5), .ref (ex 6), .ref (ex 7), .ref (ex 8)])), ((a 1), .inl (T 2, 9, .inr (.inl (fl 0))))]) [0, 1] (by decide +kernel) rfl
  rw [hQ]
  exact W.iret (v := rk) hx hb hr (fun t ht hW => ⟨⟨rk, rk, rfl, rfl, xf [], xh [], xv [], xl [], by rw [ht]; exact hP9, hD9, ⟨(by show -1 ≤ rk.toInt ∧ rk.toInt ≤ 8; omega), (by unfold R_X7_findSoul; exact (fun Q9 k9_0 => k9_0 hp0 hp1 fik flk vik vlk rk gk_0 gk_1 rfl)), trivial⟩⟩, hS.F ht⟩) hS.2.2 dX7_findSoul_12
abbrev pre_X6_canBeNameOrSoul (T : Nat → ClassId) (a ex : Nat → Nat) (fi : Nat → Nat → Int32) (fl : Nat → Nat → Int64) (vi : Nat → Int32) (vl : Nat → Int64) : va_W := [((a 0), .inr (6, [.ref (ex 0), .ref (a 1), .int (vi 0), .int (vi 1), .int (vi 2), .int (vi 3), .int (vi 4), .int (vi 5), .long (vl 0), .int (vi 6), .int (vi 7), .int (vi 8), .int (vi 9), .int (vi 10)])), ((a 1), .inl (T 2, 27, .inr (.inl (fl 0))))]
set_option maxHeartbeats 8000000 in
set_option maxRecDepth 100000 in
theorem c_X6_canBeNameOrSoul (l : Launch) (D : va_G) (T : Nat → ClassId) (a ex : Nat → Nat) (fi : Nat → Nat → Int32) (fl : Nat → Nat → Int64) (vi : Nat → Int32) (vl : Nat → Int64) (sz : Nat) (hp0 : 0 ≤ (vi 1).toInt ∧ (vi 1).toInt ≤ 940) (hp1 : 0 ≤ (vi 2).toInt ∧ (vi 2).toInt ≤ 940) (hp2 : 0 ≤ (vi 3).toInt ∧ (vi 3).toInt ≤ 940) (hp3 : 0 ≤ (vi 5).toInt ∧ (vi 5).toInt ≤ 940) (hp4 : 0 ≤ (vi 10).toInt ∧ (vi 10).toInt ≤ 940) : Met l yX6_canBeNameOrSoul (xw yX6_canBeNameOrSoul cX6_canBeNameOrSoul 2 (some .boolean)) ({ frames := 0, cells := 0, slots := 0, locals := 0 }) (xP D T [.ref (a 0)] sz (pre_X6_canBeNameOrSoul T a ex fi fl vi vl)) (va_Qi (fun r u => r = u) (xC D (va_A (pre_X6_canBeNameOrSoul T a ex fi fl vi vl) sz) (fun fj fm vj vm => [((a 0), .inr (6, [.ref (ex 0), .ref (a 1), .int (vi 0), .int (vi 1), .int (vi 2), .int (vi 3), .int (vi 4), .int (vi 5), .long (vl 0), .int (vi 6), .int (vi 7), .int (vi 8), .int (vi 9), .int (vi 10)])), ((a 1), .inl (T 2, 27, .inr (.inl (fl 0))))]) (fun (r : Int32) (fj : Nat → Nat → Int32) (fm : Nat → Nat → Int64) (vj : Nat → Int32) (vm : Nat → Int64) => ((r = 1 ∧ (True)) ∨ (r = 0 ∧ (True))) ∧ R_X6_canBeNameOrSoul fi fl vi vl r fj fm vj vm ∧ True)) (va_A (pre_X6_canBeNameOrSoul T a ex fi fl vi vl) sz)) 0 0 (va_A (pre_X6_canBeNameOrSoul T a ex fi fl vi vl) sz) := by
  refine xofW (cc := cX6_canBeNameOrSoul) (maxL := 2) (ret := (some .boolean)) (by decide) rfl ?_
  intro p e s m args below meth c s₁ R Q hR hQ B hml hv
  obtain ⟨rfl, hsz, hP, hK, hD0⟩ := hv
  have hx := B.exec
  have hb := B.bytes
  have hr := B.returns
  have hts := atoms_spec (ws := xw yX6_canBeNameOrSoul cX6_canBeNameOrSoul 2 (some .boolean)) B.pre
  have htg : ∀ w ∈ xg, w.before _ s = true := fun w h => hts w (List.mem_cons_of_mem _ h)
  have hown : s.vm.findClass RX6 = some m.cls := findClass_of_methodNamed B.named
  have hlocks := B.notSynchronized
  subst hsz
  have hD := hD0.self (sz := s.heap.size)
  generalize hAe : va_A (pre_X6_canBeNameOrSoul T a ex fi fl vi vl) s.heap.size = A at hD hQ
  have hA : ∀ q : Nat, s.heap.size ≤ q → A q := fun q h => by rw [← hAe]; exact Or.inr h
  have hS : va_S A s.heap s.heap [] := va_S.rf
  replace hP : va_P D vwCl [((a 0), .inr (6, [.ref (ex 0), .ref (a 1), .int (vi 0), .int (vi 1), .int (vi 2), .int (vi 3), .int (vi 4), .int (vi 5), .long (vl 0), .int (vi 6), .int (vi 7), .int (vi 8), .int (vi 9), .int (vi 10)])), ((a 1), .inl (T 2, 27, .inr (.inl (fl 0))))] s.heap := hP
  replace hD : va_D A [((a 0), .inr (6, [.ref (ex 0), .ref (a 1), .int (vi 0), .int (vi 1), .int (vi 2), .int (vi 3), .int (vi 4), .int (vi 5), .long (vl 0), .int (vi 6), .int (vi 7), .int (vi 8), .int (vi 9), .int (vi 10)])), ((a 1), .inl (T 2, 27, .inr (.inl (fl 0))))] := hD
  have hl := lv_entry ([.ref (a 0)]) (n := 2) (Nat.le_of_ble_eq_true rfl)
  rw [lg_entry_eq]
  generalize (lg_sl ([.ref (a 0)]) ++ List.replicate (2 - (lg_sl ([.ref (a 0)])).length) Slot.unset).toArray = ls at hl ⊢
  replace hl : lv_has ls 2 [(0, .ref (a 0))] := hl
  refine lv_aload_n hx hb dX6_canBeNameOrSoul_0 rfl (lv_at hl 0 rfl) ?_
  refine va_get (D := D) (ci := 6) (v := .int (vi 4)) (C := RX6) (T := TX6) (N := 14) hx hb htg inX6 hown hK.1 hP 0 rfl rfl 6 (by decide) (htg _ kw_104) (fun _ h9 => h9) rfl dX6_canBeNameOrSoul_1 ?_
  refine lv_iconst (v := 1) hx hb dX6_canBeNameOrSoul_4 (by decide) ?_
  refine lv_icmp_eq (tgt := 10) hx hb dX6_canBeNameOrSoul_5 (by decide) (fun c5 => ?_) (fun c5 => ?_)
  · have c5 := xeq (k := 1) (by decide) c5
    refine lv_iconst (v := 0) hx hb dX6_canBeNameOrSoul_10 (by decide) ?_
    refine lv_istore_n (lv' := [(1, .int 0), (0, .ref (a 0))]) hx hb dX6_canBeNameOrSoul_11 rfl hl (by decide) rfl (fun ls hl => ?_)
    have lp : ∀ (kn : Nat) (w1 : Int32) (H : Heap) (locs : List Loc) (ls : Array Slot), (0 ≤ w1.toInt ∧ w1.toInt ≤ 27) → (∀ j : Nat, (j : Int) < w1.toInt → ¬ (fl 0) j = (vl 0)) → (2147483648 - w1.toInt).toNat = kn → va_P D vwCl [((a 0), .inr (6, [.ref (ex 0), .ref (a 1), .int (vi 0), .int (vi 1), .int (vi 2), .int (vi 3), .int (vi 4), .int (vi 5), .long (vl 0), .int (vi 6), .int (vi 7), .int (vi 8), .int (vi 9), .int (vi 10)])), ((a 1), .inl (T 2, 27, .inr (.inl (fl 0))))] H → va_D A [((a 0), .inr (6, [.ref (ex 0), .ref (a 1), .int (vi 0), .int (vi 1), .int (vi 2), .int (vi 3), .int (vi 4), .int (vi 5), .long (vl 0), .int (vi 6), .int (vi 7), .int (vi 8), .int (vi 9), .int (vi 10)])), ((a 1), .inl (T 2, 27, .inr (.inl (fl 0))))] → va_S A s.heap H locs → lv_has ls 2 [(1, .int w1), (0, .ref (a 0))] → W p l e R s m ([.ref (a 0)] : List Value).toArray below meth c H locs 0 0 Q (F0 m 12 ls []) := by
      intro kn
      induction kn using Nat.strongRecOn with
      | _ kn ih =>
        intro w1 H locs ls hi hcb9 hm hP hD hS hl
        refine lv_iload_n hx hb dX6_canBeNameOrSoul_12 rfl (lv_at hl 0 rfl) ?_
        refine lv_aload_n hx hb dX6_canBeNameOrSoul_13 rfl (lv_at hl 1 rfl) ?_
        refine va_get (D := D) (ci := 6) (v := .ref (a 1)) (C := RX6) (T := TX6) (N := 14) hx hb htg inX6 hown hK.1 hP 0 rfl rfl 1 (by decide) (htg _ kw_95) (fun _ h9 => h9) rfl dX6_canBeNameOrSoul_14 ?_
        refine va_alen (v := 27) hx hb hK.1 hP 1 2 rfl rfl (show Int32.ofNat 27 = 27 by decide) dX6_canBeNameOrSoul_17 ?_
        refine lv_icmp_ge (tgt := 43) hx hb dX6_canBeNameOrSoul_18 (by decide) (fun c18 => ?_) (fun c18 => ?_)
        · have c18 := xge (k := 27) (by decide) c18
          refine lv_iconst (v := 1) hx hb dX6_canBeNameOrSoul_43 (by decide) ?_
          have hP9 := hP.sub (ws' := [((a 0), .inr (6, [.ref (ex 0), .ref (a 1), .int (vi 0), .int (vi 1), .int (vi 2), .int (vi 3), .int (vi 4), .int (vi 5), .long (vl 0), .int (vi 6), .int (vi 7), .int (vi 8), .int (vi 9), .int (vi 10)])), ((a 1), .inl (T 2, 27, .inr (.inl (fl 0))))]) [0, 1] rfl
          have hD9 := hD.sub (ws' := [((a 0), .inr (6, [.ref (ex 0), .ref (a 1), .int (vi 0), .int (vi 1), .int (vi 2), .int (vi 3), .int (vi 4), .int (vi 5), .long (vl 0), .int (vi 6), .int (vi 7), .int (vi 8), .int (vi 9), .int (vi 10)])), ((a 1), .inl (T 2, 27, .inr (.inl (fl 0))))]) [0, 1] (by decide +kernel) rfl
          rw [hQ]
          exact W.zret (v := 1) hx hb hr rfl (fun t ht hW => ⟨⟨1, 1, rfl, rfl, xf [], xh [], xv [], xl [], by rw [ht]; exact hP9, hD9, ⟨(Or.inl ⟨rfl, by show True; first | trivial | omega | assumption⟩), (by unfold R_X6_canBeNameOrSoul; exact (fun Q9 k9_0 k9_1 k9_2 => k9_0 hp0 hp1 hp2 hp3 hp4 c5 w1 hi hcb9 c18 rfl)), trivial⟩⟩, hS.F ht⟩) hS.2.2 dX6_canBeNameOrSoul_44
        · have c18 := xnge (k := 27) (by decide) c18
          refine lv_aload_n hx hb dX6_canBeNameOrSoul_21 rfl (lv_at hl 1 rfl) ?_
          refine va_get (D := D) (ci := 6) (v := .ref (a 1)) (C := RX6) (T := TX6) (N := 14) hx hb htg inX6 hown hK.1 hP 0 rfl rfl 1 (by decide) (htg _ kw_95) (fun _ h9 => h9) rfl dX6_canBeNameOrSoul_22 ?_
          refine lv_iload_n hx hb dX6_canBeNameOrSoul_25 rfl (lv_at hl 0 rfl) ?_
          refine va_lald hx hb hK.1 hP 1 2 rfl rfl (vp_in_iff.mpr (by omega)) dX6_canBeNameOrSoul_26 ?_
          refine lv_aload_n hx hb dX6_canBeNameOrSoul_27 rfl (lv_at hl 1 rfl) ?_
          refine va_get (D := D) (ci := 6) (v := .long (vl 0)) (C := RX6) (T := TX6) (N := 14) hx hb htg inX6 hown hK.1 hP 0 rfl rfl 8 (by decide) (htg _ kw_108) (fun _ h9 => h9) rfl dX6_canBeNameOrSoul_28 ?_
          refine W.lcmp hx hb dX6_canBeNameOrSoul_31 ?_
          refine lv_topi (fun z31 ez31 => ?_)
          refine lv_if_ne (tgt := 37) hx hb dX6_canBeNameOrSoul_32 (by decide) (fun c32 => ?_) (fun c32 => ?_)
          · have c32 := xne (k := 0) (by decide) c32
            obtain ⟨i37, ei37⟩ : ∃ z : Int32, w1 + Int32.ofInt 1 = z := ⟨_, rfl⟩
            have ti37 : i37.toInt = w1.toInt + 1 := by rw [← ei37]; have h79 := xrng w1; exact xadd rfl (by decide) (by omega) (by omega)
            refine lv_iinc (v := i37) (lv' := [(1, .int i37), (0, .ref (a 0))]) hx hb dX6_canBeNameOrSoul_37 hl (k := 0) rfl ei37 (by decide) rfl (fun ls hl => ?_)
            refine lv_goto (tgt := 12) hx hb dX6_canBeNameOrSoul_40 (by decide) ?_
            exact ih _ (by omega) i37 _ _ _ (by show 0 ≤ i37.toInt ∧ i37.toInt ≤ 27; omega) (by show ∀ j : Nat, (j : Int) < i37.toInt → ¬ (fl 0) j = (vl 0); exact cmp_all hcb9 (by omega) (by omega) (by assumption) (by assumption)) rfl (hP.sub [0, 1] rfl) (hD.sub [0, 1] (by decide) rfl) hS (lv_sub hl [0, 1] rfl)
          · have c32 := xeq (k := 0) (by decide) c32
            refine lv_iconst (v := 0) hx hb dX6_canBeNameOrSoul_35 (by decide) ?_
            have hP9 := hP.sub (ws' := [((a 0), .inr (6, [.ref (ex 0), .ref (a 1), .int (vi 0), .int (vi 1), .int (vi 2), .int (vi 3), .int (vi 4), .int (vi 5), .long (vl 0), .int (vi 6), .int (vi 7), .int (vi 8), .int (vi 9), .int (vi 10)])), ((a 1), .inl (T 2, 27, .inr (.inl (fl 0))))]) [0, 1] rfl
            have hD9 := hD.sub (ws' := [((a 0), .inr (6, [.ref (ex 0), .ref (a 1), .int (vi 0), .int (vi 1), .int (vi 2), .int (vi 3), .int (vi 4), .int (vi 5), .long (vl 0), .int (vi 6), .int (vi 7), .int (vi 8), .int (vi 9), .int (vi 10)])), ((a 1), .inl (T 2, 27, .inr (.inl (fl 0))))]) [0, 1] (by decide +kernel) rfl
            rw [hQ]
            exact W.zret (v := 0) hx hb hr rfl (fun t ht hW => ⟨⟨0, 0, rfl, rfl, xf [], xh [], xv [], xl [], by rw [ht]; exact hP9, hD9, ⟨(Or.inr ⟨rfl, by show True; first | trivial | omega | assumption⟩), (by unfold R_X6_canBeNameOrSoul; exact (fun Q9 k9_0 k9_1 k9_2 => k9_1 hp0 hp1 hp2 hp3 hp4 c5 w1 hi hcb9 c18 z31 ez31 c32 rfl)), trivial⟩⟩, hS.F ht⟩) hS.2.2 dX6_canBeNameOrSoul_36
    exact lp _ (0 : Int32) _ _ _ (show 0 ≤ (0 : Int32).toInt ∧ (0 : Int32).toInt ≤ 27 by decide) (by show ∀ j : Nat, (j : Int) < (0 : Int32).toInt → ¬ (fl 0) j = (vl 0); have k9_0 : (0 : Int32).toInt = 0 := (by decide); intro j hj; exfalso; omega) rfl hP hD hS hl
  · have c5 := xne (k := 1) (by decide) c5
    refine lv_iconst (v := 0) hx hb dX6_canBeNameOrSoul_8 (by decide) ?_
    have hP9 := hP.sub (ws' := [((a 0), .inr (6, [.ref (ex 0), .ref (a 1), .int (vi 0), .int (vi 1), .int (vi 2), .int (vi 3), .int (vi 4), .int (vi 5), .long (vl 0), .int (vi 6), .int (vi 7), .int (vi 8), .int (vi 9), .int (vi 10)])), ((a 1), .inl (T 2, 27, .inr (.inl (fl 0))))]) [0, 1] rfl
    have hD9 := hD.sub (ws' := [((a 0), .inr (6, [.ref (ex 0), .ref (a 1), .int (vi 0), .int (vi 1), .int (vi 2), .int (vi 3), .int (vi 4), .int (vi 5), .long (vl 0), .int (vi 6), .int (vi 7), .int (vi 8), .int (vi 9), .int (vi 10)])), ((a 1), .inl (T 2, 27, .inr (.inl (fl 0))))]) [0, 1] (by decide +kernel) rfl
    rw [hQ]
    exact W.zret (v := 0) hx hb hr rfl (fun t ht hW => ⟨⟨0, 0, rfl, rfl, xf [], xh [], xv [], xl [], by rw [ht]; exact hP9, hD9, ⟨(Or.inr ⟨rfl, by show True; first | trivial | omega | assumption⟩), (by unfold R_X6_canBeNameOrSoul; exact (fun Q9 k9_0 k9_1 k9_2 => k9_2 hp0 hp1 hp2 hp3 hp4 c5 rfl)), trivial⟩⟩, hS.F ht⟩) hS.2.2 dX6_canBeNameOrSoul_9
abbrev pre_X6_refuse (T : Nat → ClassId) (a ex : Nat → Nat) (fi : Nat → Nat → Int32) (fl : Nat → Nat → Int64) (vi : Nat → Int32) (vl : Nat → Int64) : va_W := [((a 0), .inr (6, [.ref (ex 0), .ref (ex 1), .int (vi 1), .int (vi 2), .int (vi 3), .int (vi 4), .int (vi 5), .int (vi 6), .long (vl 0), .int (vi 7), .int (vi 8), .int (vi 9), .int (vi 10), .int (vi 11)]))]
set_option maxHeartbeats 8000000 in
set_option maxRecDepth 100000 in
theorem c_X6_refuse (l : Launch) (D : va_G) (T : Nat → ClassId) (a ex : Nat → Nat) (fi : Nat → Nat → Int32) (fl : Nat → Nat → Int64) (vi : Nat → Int32) (vl : Nat → Int64) (sz : Nat) (hp0 : 0 ≤ (vi 2).toInt ∧ (vi 2).toInt ≤ 940) (hp1 : 0 ≤ (vi 3).toInt ∧ (vi 3).toInt ≤ 940) (hp2 : 0 ≤ (vi 4).toInt ∧ (vi 4).toInt ≤ 940) (hp3 : 0 ≤ (vi 6).toInt ∧ (vi 6).toInt ≤ 940) (hp4 : 0 ≤ (vi 11).toInt ∧ (vi 11).toInt ≤ 940) : Met l yX6_refuse (xw yX6_refuse cX6_refuse 2 (some .boolean)) ({ frames := 0, cells := 0, slots := 0, locals := 0 }) (xP D T [.ref (a 0), .int (vi 0)] sz (pre_X6_refuse T a ex fi fl vi vl)) (va_Qi (fun r u => r = u) (xC D (va_A (pre_X6_refuse T a ex fi fl vi vl) sz) (fun fj fm vj vm => [((a 0), .inr (6, [.ref (ex 0), .ref (ex 1), .int (vi 1), .int (vi 2), .int (vi 3), .int (vi 4), .int (vi 5), .int (vi 6), .long (vl 0), .int (vi 7), .int (vi 8), .int (vi 9), .int (vj 0), .int (vj 1)]))]) (fun (r : Int32) (fj : Nat → Nat → Int32) (fm : Nat → Nat → Int64) (vj : Nat → Int32) (vm : Nat → Int64) => r = 0 ∧ (0 ≤ (vj 1).toInt ∧ (vj 1).toInt ≤ 940) ∧ ((vj 0).toInt = (vi 0).toInt ∧ (vj 1).toInt = (vi 6).toInt) ∧ True)) (va_A (pre_X6_refuse T a ex fi fl vi vl) sz)) 0 0 (va_A (pre_X6_refuse T a ex fi fl vi vl) sz) := by
  refine xofW (cc := cX6_refuse) (maxL := 2) (ret := (some .boolean)) (by decide) rfl ?_
  intro p e s m args below meth c s₁ R Q hR hQ B hml hv
  obtain ⟨rfl, hsz, hP, hK, hD0⟩ := hv
  have hx := B.exec
  have hb := B.bytes
  have hr := B.returns
  have hts := atoms_spec (ws := xw yX6_refuse cX6_refuse 2 (some .boolean)) B.pre
  have htg : ∀ w ∈ xg, w.before _ s = true := fun w h => hts w (List.mem_cons_of_mem _ h)
  have hown : s.vm.findClass RX6 = some m.cls := findClass_of_methodNamed B.named
  have hlocks := B.notSynchronized
  subst hsz
  have hD := hD0.self (sz := s.heap.size)
  generalize hAe : va_A (pre_X6_refuse T a ex fi fl vi vl) s.heap.size = A at hD hQ
  have hA : ∀ q : Nat, s.heap.size ≤ q → A q := fun q h => by rw [← hAe]; exact Or.inr h
  have hS : va_S A s.heap s.heap [] := va_S.rf
  replace hP : va_P D vwCl [((a 0), .inr (6, [.ref (ex 0), .ref (ex 1), .int (vi 1), .int (vi 2), .int (vi 3), .int (vi 4), .int (vi 5), .int (vi 6), .long (vl 0), .int (vi 7), .int (vi 8), .int (vi 9), .int (vi 10), .int (vi 11)]))] s.heap := hP
  replace hD : va_D A [((a 0), .inr (6, [.ref (ex 0), .ref (ex 1), .int (vi 1), .int (vi 2), .int (vi 3), .int (vi 4), .int (vi 5), .int (vi 6), .long (vl 0), .int (vi 7), .int (vi 8), .int (vi 9), .int (vi 10), .int (vi 11)]))] := hD
  have hl := lv_entry ([.ref (a 0), .int (vi 0)]) (n := 2) (Nat.le_of_ble_eq_true rfl)
  rw [lg_entry_eq]
  generalize (lg_sl ([.ref (a 0), .int (vi 0)]) ++ List.replicate (2 - (lg_sl ([.ref (a 0), .int (vi 0)])).length) Slot.unset).toArray = ls at hl ⊢
  replace hl : lv_has ls 2 [(0, .ref (a 0)), (1, .int (vi 0))] := hl
  refine lv_aload_n hx hb dX6_refuse_0 rfl (lv_at hl 0 rfl) ?_
  refine lv_iload_n hx hb dX6_refuse_1 rfl (lv_at hl 1 rfl) ?_
  refine va_put (D := D) (ci := 6) (v := .int (vi 0)) (ty := .int) (C := RX6) (T := TX6) (N := 14) hx hb htg inX6 tyX6 tyX6_ok nmX6 hown hK.1 hP hD hS 0 rfl rfl 12 (by decide) (htg _ kw_118) (fun _ h9 => h9) rfl (by decide +kernel) rfl rfl (Nat.le_of_ble_eq_true rfl) dX6_refuse_2 (fun H locs hP hD hS => ?_)
  obtain ⟨hP, hD⟩ := (show xPD D A [((a 0), .inr (6, [.ref (ex 0), .ref (ex 1), .int (vi 1), .int (vi 2), .int (vi 3), .int (vi 4), .int (vi 5), .int (vi 6), .long (vl 0), .int (vi 7), .int (vi 8), .int (vi 9), .int (vi 0), .int (vi 11)]))] H from ⟨hP, hD⟩)
  refine lv_aload_n hx hb dX6_refuse_5 rfl (lv_at hl 0 rfl) ?_
  refine lv_aload_n hx hb dX6_refuse_6 rfl (lv_at hl 0 rfl) ?_
  refine va_get (D := D) (ci := 6) (v := .int (vi 6)) (C := RX6) (T := TX6) (N := 14) hx hb htg inX6 hown hK.1 hP 0 rfl rfl 7 (by decide) (htg _ kw_105) (fun _ h9 => h9) rfl dX6_refuse_7 ?_
  refine va_put (D := D) (ci := 6) (v := .int (vi 6)) (ty := .int) (C := RX6) (T := TX6) (N := 14) hx hb htg inX6 tyX6 tyX6_ok nmX6 hown hK.1 hP hD hS 0 rfl rfl 13 (by decide) (htg _ kw_120) (fun _ h9 => h9) rfl (by decide +kernel) rfl rfl (Nat.le_of_ble_eq_true rfl) dX6_refuse_10 (fun H locs hP hD hS => ?_)
  obtain ⟨hP, hD⟩ := (show xPD D A [((a 0), .inr (6, [.ref (ex 0), .ref (ex 1), .int (vi 1), .int (vi 2), .int (vi 3), .int (vi 4), .int (vi 5), .int (vi 6), .long (vl 0), .int (vi 7), .int (vi 8), .int (vi 9), .int (vi 0), .int (vi 6)]))] H from ⟨hP, hD⟩)
  refine lv_iconst (v := 0) hx hb dX6_refuse_13 (by decide) ?_
  have hP9 := hP.sub (ws' := [((a 0), .inr (6, [.ref (ex 0), .ref (ex 1), .int (vi 1), .int (vi 2), .int (vi 3), .int (vi 4), .int (vi 5), .int (vi 6), .long (vl 0), .int (vi 7), .int (vi 8), .int (vi 9), .int (vi 0), .int (vi 6)]))]) [0] rfl
  have hD9 := hD.sub (ws' := [((a 0), .inr (6, [.ref (ex 0), .ref (ex 1), .int (vi 1), .int (vi 2), .int (vi 3), .int (vi 4), .int (vi 5), .int (vi 6), .long (vl 0), .int (vi 7), .int (vi 8), .int (vi 9), .int (vi 0), .int (vi 6)]))]) [0] (by decide +kernel) rfl
  rw [hQ]
  exact W.zret (v := 0) hx hb hr rfl (fun t ht hW => ⟨⟨0, 0, rfl, rfl, xf [], xh [], xv [(vi 0), (vi 6)], xl [], by rw [ht]; exact hP9, hD9, ⟨rfl, hp3, (by show (vi 0).toInt = (vi 0).toInt ∧ (vi 6).toInt = (vi 6).toInt; first | omega | assumption), trivial⟩⟩, hS.F ht⟩) hS.2.2 dX6_refuse_14
abbrev pre_X6_passKnown (T : Nat → ClassId) (a ex : Nat → Nat) (fi : Nat → Nat → Int32) (fl : Nat → Nat → Int64) (vi : Nat → Int32) (vl : Nat → Int64) : va_W := [((a 0), .inr (6, [.ref (a 2), .ref (a 1), .int (vi 1), .int (vi 2), .int (vi 3), .int (vi 4), .int (vi 5), .int (vi 6), .long (vl 0), .int (vi 7), .int (vi 8), .int (vi 9), .int (vi 10), .int (vi 11)])), ((a 1), .inl (T 2, 27, .inr (.inl (fl 0)))), ((a 2), .inl (T 0, 940, .inl (fi 0)))]
set_option maxHeartbeats 8000000 in
set_option maxRecDepth 100000 in
theorem c_X6_passKnown (l : Launch) (D : va_G) (T : Nat → ClassId) (a ex : Nat → Nat) (fi : Nat → Nat → Int32) (fl : Nat → Nat → Int64) (vi : Nat → Int32) (vl : Nat → Int64) (sz : Nat) (hp0 : 0 ≤ (vi 2).toInt ∧ (vi 2).toInt ≤ 940) (hp1 : 0 ≤ (vi 3).toInt ∧ (vi 3).toInt ≤ 940) (hp2 : 0 ≤ (vi 4).toInt ∧ (vi 4).toInt ≤ 940) (hp3 : 0 ≤ (vi 6).toInt ∧ (vi 6).toInt ≤ 940) (hp4 : 0 ≤ (vi 11).toInt ∧ (vi 11).toInt ≤ 940) : Met l yX6_passKnown (xw yX6_passKnown cX6_passKnown 2 (some .boolean)) ({ frames := 1, cells := 0, slots := 0, locals := 27 }) (xP D T [.ref (a 0), .int (vi 0)] sz (pre_X6_passKnown T a ex fi fl vi vl)) (va_Qi (fun r u => r = u) (xC D (va_A (pre_X6_passKnown T a ex fi fl vi vl) sz) (fun fj fm vj vm => [((a 0), .inr (6, [.ref (a 2), .ref (a 1), .int (vi 1), .int (vi 2), .int (vi 3), .int (vj 5), .int (vj 1), .int (vj 2), .long (vm 0), .int (vj 4), .int (vj 3), .int (vj 0), .int (vj 6), .int (vj 7)])), ((a 1), .inl (T 2, 27, .inr (.inl (fl 0)))), ((a 2), .inl (T 0, 940, .inl (fi 0)))]) (fun (r : Int32) (fj : Nat → Nat → Int32) (fm : Nat → Nat → Int64) (vj : Nat → Int32) (vm : Nat → Int64) => ((r = 1 ∧ ((vj 0).toInt = (vi 0).toInt ∧ ¬ (vi 0).toInt = -1 ∧ (vi 5).toInt = 1)) ∨ (r = 0 ∧ (True))) ∧ (0 ≤ (vj 5).toInt ∧ (vj 5).toInt ≤ 940) ∧ (0 ≤ (vj 2).toInt ∧ (vj 2).toInt ≤ 940) ∧ (0 ≤ (vj 7).toInt ∧ (vj 7).toInt ≤ 940) ∧ (r.toInt = 1 → (vj 6).toInt = (vi 10).toInt) ∧ R_X6_passKnown fi fl vi vl r fj fm vj vm ∧ True)) (va_A (pre_X6_passKnown T a ex fi fl vi vl) sz)) 0 0 (va_A (pre_X6_passKnown T a ex fi fl vi vl) sz) := by
  refine xofW (cc := cX6_passKnown) (maxL := 2) (ret := (some .boolean)) (by decide) rfl ?_
  intro p e s m args below meth c s₁ R Q hR hQ B hml hv
  obtain ⟨rfl, hsz, hP, hK, hD0⟩ := hv
  have hx := B.exec
  have hb := B.bytes
  have hr := B.returns
  have hts := atoms_spec (ws := xw yX6_passKnown cX6_passKnown 2 (some .boolean)) B.pre
  have htg : ∀ w ∈ xg, w.before _ s = true := fun w h => hts w (List.mem_cons_of_mem _ h)
  have hown : s.vm.findClass RX6 = some m.cls := findClass_of_methodNamed B.named
  have hlocks := B.notSynchronized
  subst hsz
  have hD := hD0.self (sz := s.heap.size)
  generalize hAe : va_A (pre_X6_passKnown T a ex fi fl vi vl) s.heap.size = A at hD hQ
  have hA : ∀ q : Nat, s.heap.size ≤ q → A q := fun q h => by rw [← hAe]; exact Or.inr h
  have hS : va_S A s.heap s.heap [] := va_S.rf
  replace hP : va_P D vwCl [((a 0), .inr (6, [.ref (a 2), .ref (a 1), .int (vi 1), .int (vi 2), .int (vi 3), .int (vi 4), .int (vi 5), .int (vi 6), .long (vl 0), .int (vi 7), .int (vi 8), .int (vi 9), .int (vi 10), .int (vi 11)])), ((a 1), .inl (T 2, 27, .inr (.inl (fl 0)))), ((a 2), .inl (T 0, 940, .inl (fi 0)))] s.heap := hP
  replace hD : va_D A [((a 0), .inr (6, [.ref (a 2), .ref (a 1), .int (vi 1), .int (vi 2), .int (vi 3), .int (vi 4), .int (vi 5), .int (vi 6), .long (vl 0), .int (vi 7), .int (vi 8), .int (vi 9), .int (vi 10), .int (vi 11)])), ((a 1), .inl (T 2, 27, .inr (.inl (fl 0)))), ((a 2), .inl (T 0, 940, .inl (fi 0)))] := hD
  have hl := lv_entry ([.ref (a 0), .int (vi 0)]) (n := 2) (Nat.le_of_ble_eq_true rfl)
  rw [lg_entry_eq]
  generalize (lg_sl ([.ref (a 0), .int (vi 0)]) ++ List.replicate (2 - (lg_sl ([.ref (a 0), .int (vi 0)])).length) Slot.unset).toArray = ls at hl ⊢
  replace hl : lv_has ls 2 [(0, .ref (a 0)), (1, .int (vi 0))] := hl
  refine lv_aload_n hx hb dX6_passKnown_0 rfl (lv_at hl 0 rfl) ?_
  obtain ⟨hC9, hPc, hDc, hFc⟩ := xcut (wc := (pre_X6_canBeNameOrSoul T (xa [(a 0), (a 1)]) (xa [(a 2)]) (xf []) (xh [(fl 0)]) (xv [(vi 1), (vi 2), (vi 3), (vi 4), (vi 5), (vi 6), (vi 7), (vi 8), (vi 9), (vi 10), (vi 11)]) (xl [(vl 0)]))) hP hD hS hA [0, 1] (by decide) rfl
  refine va_calli (va_runV (As := []) (rest := []) ⟨hx, hb, hml, hown, htg⟩ (c_X6_canBeNameOrSoul l D T (xa [(a 0), (a 1)]) (xa [(a 2)]) (xf []) (xh [(fl 0)]) (xv [(vi 1), (vi 2), (vi 3), (vi 4), (vi 5), (vi 6), (vi 7), (vi 8), (vi 9), (vi 10), (vi 11)]) (xl [(vl 0)]) s.heap.size hp0 hp1 hp2 hp3 hp4) ⟨callB_of 0 htg (xg_ok kw_603) rfl rfl rfl (htg _ kw_2) (htg _ kw_641) (by decide +kernel) ⟨by rw [hR]; exact Nat.le_of_ble_eq_true rfl, by rw [hR]; exact Nat.le_of_ble_eq_true rfl⟩, htg _ kw_602, htg _ ks_12⟩ (xpreV hK hPc hDc (va_recv hK.1 hPc (ci := 6) (q0 := 0) rfl rfl)) rfl rfl hl.1 rfl (lv_room (Nat.le_of_ble_eq_true rfl)) dX6_passKnown_1 ⟨by rw [hR]; exact Nat.le_of_ble_eq_true rfl, by rw [hR]; exact Nat.le_of_ble_eq_true rfl⟩) hS (fun q _ h => hFc q h) hFc (fun r9 u9 t H1 locs ht hvm hw hB hz1 hk1 hS => ?_)
  subst hw
  obtain ⟨fik, flk, vik, vlk, hP1, hD1, hG⟩ := hB
  rw [ht] at hP1
  obtain ⟨hP, hD⟩ := va_join (wr := [((a 2), .inl (T 0, 940, .inl (fi 0)))]) (w1 := [((a 0), .inr (6, [.ref (a 2), .ref (a 1), .int (vi 1), .int (vi 2), .int (vi 3), .int (vi 4), .int (vi 5), .int (vi 6), .long (vl 0), .int (vi 7), .int (vi 8), .int (vi 9), .int (vi 10), .int (vi 11)])), ((a 1), .inl (T 2, 27, .inr (.inl (fl 0))))]) hP hD [0, 1] [2] hC9 rfl (by decide) (by decide) hk1 hFc hP1 hD1
  obtain ⟨rk, er9⟩ : ∃ z, z = r9 := ⟨_, rfl⟩
  subst er9
  clear hPc hDc hFc hP1 hD1 hk1 hz1 hvm ht hC9
  generalize H1 = H at hP hS ⊢
  obtain ⟨hP, hD⟩ := (show xPD D A [((a 2), .inl (T 0, 940, .inl (fi 0))), ((a 0), .inr (6, [.ref (a 2), .ref (a 1), .int (vi 1), .int (vi 2), .int (vi 3), .int (vi 4), .int (vi 5), .int (vi 6), .long (vl 0), .int (vi 7), .int (vi 8), .int (vi 9), .int (vi 10), .int (vi 11)])), ((a 1), .inl (T 2, 27, .inr (.inl (fl 0))))] H from ⟨hP, hD⟩)
  obtain ⟨gk_0, gk_1, -⟩ := hG
  replace gk_1 : DJ (rk.toInt = 1 ∧ (vi 5).toInt = 1 ∧ ownB (fl 0) (vl 0) = false) (rk.toInt = 0 ∧ (¬ (vi 5).toInt = 1 ∨ ownB (fl 0) (vl 0) = true)) := (P_X6_canBeNameOrSoul gk_1 : _)
  rcases (show (rk = 1 ∧ (True)) ∨ (rk = 0 ∧ (True)) from gk_0) with ⟨er9, gk_0⟩ | ⟨er9, gk_0⟩
  · refine xz_i 1 er9 ?_
    have tb : rk.toInt = 1 := by rw [er9]; decide
    refine lv_if_ne (tgt := 13) hx hb dX6_passKnown_4 (by decide) (fun _ => ?_) (fun c => absurd c (by decide))
    refine lv_iload_n hx hb dX6_passKnown_13 rfl (lv_at hl 1 rfl) ?_
    refine lv_iconst (v := (-1)) hx hb dX6_passKnown_14 (by decide) ?_
    refine lv_icmp_ne (tgt := 24) hx hb dX6_passKnown_15 (by decide) (fun c15 => ?_) (fun c15 => ?_)
    · have c15 := xne (k := (-1)) (by decide) c15
      refine lv_aload_n hx hb dX6_passKnown_24 rfl (lv_at hl 0 rfl) ?_
      refine lv_iload_n hx hb dX6_passKnown_25 rfl (lv_at hl 1 rfl) ?_
      refine va_put (D := D) (ci := 6) (v := .int (vi 0)) (ty := .int) (C := RX6) (T := TX6) (N := 14) hx hb htg inX6 tyX6 tyX6_ok nmX6 hown hK.1 hP hD hS 1 rfl rfl 11 (by decide) (htg _ kw_116) (fun _ h9 => h9) rfl (by decide +kernel) rfl rfl (Nat.le_of_ble_eq_true rfl) dX6_passKnown_26 (fun H locs hP hD hS => ?_)
      obtain ⟨hP, hD⟩ := (show xPD D A [((a 2), .inl (T 0, 940, .inl (fi 0))), ((a 0), .inr (6, [.ref (a 2), .ref (a 1), .int (vi 1), .int (vi 2), .int (vi 3), .int (vi 4), .int (vi 5), .int (vi 6), .long (vl 0), .int (vi 7), .int (vi 8), .int (vi 0), .int (vi 10), .int (vi 11)])), ((a 1), .inl (T 2, 27, .inr (.inl (fl 0))))] H from ⟨hP, hD⟩)
      refine lv_aload_n hx hb dX6_passKnown_29 rfl (lv_at hl 0 rfl) ?_
      obtain ⟨hC9, hPc, hDc, hFc⟩ := xcut (wc := (pre_X6_advance T (xa [(a 0), (a 2)]) (xa [(a 1)]) (xf [(fi 0)]) (xh []) (xv [(vi 1), (vi 2), (vi 3), (vi 4), (vi 5), (vi 6), (vi 7), (vi 8), (vi 0), (vi 10), (vi 11)]) (xl [(vl 0)]))) hP hD hS hA [1, 0] (by decide) rfl
      refine va_callv (va_runV (As := []) (rest := []) ⟨hx, hb, hml, hown, htg⟩ (c_X6_advance l D T (xa [(a 0), (a 2)]) (xa [(a 1)]) (xf [(fi 0)]) (xh []) (xv [(vi 1), (vi 2), (vi 3), (vi 4), (vi 5), (vi 6), (vi 7), (vi 8), (vi 0), (vi 10), (vi 11)]) (xl [(vl 0)]) H.size hp0 hp1 hp2 hp3 hp4) ⟨callB_of 0 htg (xg_ok kw_577) rfl rfl rfl (htg _ kw_2) (htg _ kw_574) (by decide +kernel) ⟨by rw [hR]; exact Nat.le_of_ble_eq_true rfl, by rw [hR]; exact Nat.le_of_ble_eq_true rfl⟩, htg _ kw_576, htg _ ks_6⟩ (xpreV hK hPc hDc (va_recv hK.1 hPc (ci := 6) (q0 := 0) rfl rfl)) rfl rfl hl.1 rfl (lv_room (Nat.le_of_ble_eq_true rfl)) dX6_passKnown_30 ⟨by rw [hR]; exact Nat.le_of_ble_eq_true rfl, by rw [hR]; exact Nat.le_of_ble_eq_true rfl⟩) hS (fun q _ h => hFc q h) hFc (fun u9 t H1 locs ht hvm hw hB hz1 hk1 hS => ?_)
      obtain ⟨fik_1, flk_1, vik_1, vlk_1, hP1, hD1, hG⟩ := hB
      rw [ht] at hP1
      obtain ⟨hP, hD⟩ := va_join (wr := [((a 1), .inl (T 2, 27, .inr (.inl (fl 0))))]) (w1 := [((a 0), .inr (6, [.ref (a 2), .ref (a 1), .int (vi 1), .int (vi 2), .int (vi 3), .int (vik_1 4), .int (vik_1 0), .int (vik_1 1), .long (vlk_1 0), .int (vik_1 3), .int (vik_1 2), .int (vi 0), .int (vi 10), .int (vi 11)])), ((a 2), .inl (T 0, 940, .inl (fi 0)))]) hP hD [1, 0] [2] hC9 rfl (by decide) (by decide) hk1 hFc hP1 hD1
      clear hPc hDc hFc hP1 hD1 hk1 hz1 hvm ht hC9
      generalize H1 = H at hP hS ⊢
      obtain ⟨hP, hD⟩ := (show xPD D A [((a 1), .inl (T 2, 27, .inr (.inl (fl 0)))), ((a 0), .inr (6, [.ref (a 2), .ref (a 1), .int (vi 1), .int (vi 2), .int (vi 3), .int (vik_1 4), .int (vik_1 0), .int (vik_1 1), .long (vlk_1 0), .int (vik_1 3), .int (vik_1 2), .int (vi 0), .int (vi 10), .int (vi 11)])), ((a 2), .inl (T 0, 940, .inl (fi 0)))] H from ⟨hP, hD⟩)
      obtain ⟨uk_1, eu9⟩ : ∃ z, z = u9 := ⟨_, rfl⟩
      subst eu9
      obtain ⟨gk_1_0, gk_1_1, gk_1_2, -⟩ := hG
      replace gk_1_2 : ∀ n m : Nat, (vi 2).toInt = (n : Int) → (vi 3).toInt = (m : Int) → (vi 4).toInt ≤ (vi 2).toInt → CC (trn (fi 0) n) n m ((vi 4).toInt).toNat (vi 2) (vi 3) (vik_1 0) (vik_1 1) (vik_1 4) (vlk_1 0) (vik_1 3) (vik_1 2) := (P_X6_advance gk_1_2 : _)
      replace gk_1_0 : 0 ≤ (vik_1 4).toInt ∧ (vik_1 4).toInt ≤ 940 := gk_1_0
      replace gk_1_1 : 0 ≤ (vik_1 1).toInt ∧ (vik_1 1).toInt ≤ 940 := gk_1_1
      refine lv_iconst (v := 1) hx hb dX6_passKnown_33 (by decide) ?_
      have hP9 := hP.sub (ws' := [((a 0), .inr (6, [.ref (a 2), .ref (a 1), .int (vi 1), .int (vi 2), .int (vi 3), .int (vik_1 4), .int (vik_1 0), .int (vik_1 1), .long (vlk_1 0), .int (vik_1 3), .int (vik_1 2), .int (vi 0), .int (vi 10), .int (vi 11)])), ((a 1), .inl (T 2, 27, .inr (.inl (fl 0)))), ((a 2), .inl (T 0, 940, .inl (fi 0)))]) [1, 0, 2] rfl
      have hD9 := hD.sub (ws' := [((a 0), .inr (6, [.ref (a 2), .ref (a 1), .int (vi 1), .int (vi 2), .int (vi 3), .int (vik_1 4), .int (vik_1 0), .int (vik_1 1), .long (vlk_1 0), .int (vik_1 3), .int (vik_1 2), .int (vi 0), .int (vi 10), .int (vi 11)])), ((a 1), .inl (T 2, 27, .inr (.inl (fl 0)))), ((a 2), .inl (T 0, 940, .inl (fi 0)))]) [1, 0, 2] (by decide +kernel) rfl
      rw [hQ]
      exact W.zret (v := 1) hx hb hr rfl (fun t ht hW => ⟨⟨1, 1, rfl, rfl, xf [], xh [], xv [(vi 0), (vik_1 0), (vik_1 1), (vik_1 2), (vik_1 3), (vik_1 4), (vi 10), (vi 11)], xl [(vlk_1 0)], by rw [ht]; exact hP9, hD9, ⟨(Or.inl ⟨rfl, by show (vi 0).toInt = (vi 0).toInt ∧ ¬ (vi 0).toInt = -1 ∧ (vi 5).toInt = 1; exact ⟨by omega, by omega, (dj1 gk_1 tb).1⟩⟩), gk_1_0, gk_1_1, hp4, (by show (1 : Int32).toInt = 1 → (vi 10).toInt = (vi 10).toInt; have k9_0 : (1 : Int32).toInt = 1 := (by decide); exact fun _ => rfl), (by unfold R_X6_passKnown; exact (fun Q9 k9_0 k9_1 k9_2 => k9_0 hp0 hp1 hp2 hp3 hp4 fik flk vik vlk rk gk_1 tb gk_0 c15 fik_1 flk_1 vik_1 vlk_1 uk_1 gk_1_0 gk_1_1 gk_1_2 rfl rfl rfl rfl rfl rfl rfl rfl rfl rfl)), trivial⟩⟩, hS.F ht⟩) hS.2.2 dX6_passKnown_34
    · have c15 := xeq (k := (-1)) (by decide) c15
      refine lv_aload_n hx hb dX6_passKnown_18 rfl (lv_at hl 0 rfl) ?_
      refine lv_iconst (v := 3) hx hb dX6_passKnown_19 (by decide) ?_
      obtain ⟨hC9, hPc, hDc, hFc⟩ := xcut (wc := (pre_X6_refuse T (xa [(a 0)]) (xa [(a 2), (a 1)]) (xf []) (xh []) (xv [3, (vi 1), (vi 2), (vi 3), (vi 4), (vi 5), (vi 6), (vi 7), (vi 8), (vi 9), (vi 10), (vi 11)]) (xl [(vl 0)]))) hP hD hS hA [1] (by decide) rfl
      refine va_calli (va_runV (As := [.int 3]) (rest := []) ⟨hx, hb, hml, hown, htg⟩ (c_X6_refuse l D T (xa [(a 0)]) (xa [(a 2), (a 1)]) (xf []) (xh []) (xv [3, (vi 1), (vi 2), (vi 3), (vi 4), (vi 5), (vi 6), (vi 7), (vi 8), (vi 9), (vi 10), (vi 11)]) (xl [(vl 0)]) H.size hp0 hp1 hp2 hp3 hp4) ⟨callB_of 1 htg (xg_ok kw_594) rfl rfl rfl (htg _ kw_2) (htg _ kw_623) (by decide +kernel) ⟨by rw [hR]; exact Nat.le_of_ble_eq_true rfl, by rw [hR]; exact Nat.le_of_ble_eq_true rfl⟩, htg _ kw_593, htg _ ks_10⟩ (xpreV hK hPc hDc (va_recv hK.1 hPc (ci := 6) (q0 := 0) rfl rfl)) rfl rfl hl.1 rfl (lv_room (Nat.le_of_ble_eq_true rfl)) dX6_passKnown_20 ⟨by rw [hR]; exact Nat.le_of_ble_eq_true rfl, by rw [hR]; exact Nat.le_of_ble_eq_true rfl⟩) hS (fun q _ h => hFc q h) hFc (fun r9 u9 t H1 locs ht hvm hw hB hz1 hk1 hS => ?_)
      subst hw
      obtain ⟨fik_2, flk_2, vik_2, vlk_2, hP1, hD1, hG⟩ := hB
      rw [ht] at hP1
      obtain ⟨hP, hD⟩ := va_join (wr := [((a 2), .inl (T 0, 940, .inl (fi 0))), ((a 1), .inl (T 2, 27, .inr (.inl (fl 0))))]) (w1 := [((a 0), .inr (6, [.ref (a 2), .ref (a 1), .int (vi 1), .int (vi 2), .int (vi 3), .int (vi 4), .int (vi 5), .int (vi 6), .long (vl 0), .int (vi 7), .int (vi 8), .int (vi 9), .int (vik_2 0), .int (vik_2 1)]))]) hP hD [1] [0, 2] hC9 rfl (by decide) (by decide) hk1 hFc hP1 hD1
      obtain ⟨rk_2, er9⟩ : ∃ z, z = r9 := ⟨_, rfl⟩
      subst er9
      clear hPc hDc hFc hP1 hD1 hk1 hz1 hvm ht hC9
      generalize H1 = H at hP hS ⊢
      obtain ⟨hP, hD⟩ := (show xPD D A [((a 2), .inl (T 0, 940, .inl (fi 0))), ((a 1), .inl (T 2, 27, .inr (.inl (fl 0)))), ((a 0), .inr (6, [.ref (a 2), .ref (a 1), .int (vi 1), .int (vi 2), .int (vi 3), .int (vi 4), .int (vi 5), .int (vi 6), .long (vl 0), .int (vi 7), .int (vi 8), .int (vi 9), .int (vik_2 0), .int (vik_2 1)]))] H from ⟨hP, hD⟩)
      obtain ⟨gk_2_0, gk_2_1, gk_2_2, -⟩ := hG
      replace gk_2_1 : 0 ≤ (vik_2 1).toInt ∧ (vik_2 1).toInt ≤ 940 := gk_2_1
      replace gk_2_2 : (vik_2 0).toInt = (3 : Int32).toInt ∧ (vik_2 1).toInt = (vi 6).toInt := gk_2_2
      replace gk_2_0 : rk_2 = 0 := gk_2_0
      refine xz_i 0 gk_2_0 ?_
      have hP9 := hP.sub (ws' := [((a 0), .inr (6, [.ref (a 2), .ref (a 1), .int (vi 1), .int (vi 2), .int (vi 3), .int (vi 4), .int (vi 5), .int (vi 6), .long (vl 0), .int (vi 7), .int (vi 8), .int (vi 9), .int (vik_2 0), .int (vik_2 1)])), ((a 1), .inl (T 2, 27, .inr (.inl (fl 0)))), ((a 2), .inl (T 0, 940, .inl (fi 0)))]) [2, 1, 0] rfl
      have hD9 := hD.sub (ws' := [((a 0), .inr (6, [.ref (a 2), .ref (a 1), .int (vi 1), .int (vi 2), .int (vi 3), .int (vi 4), .int (vi 5), .int (vi 6), .long (vl 0), .int (vi 7), .int (vi 8), .int (vi 9), .int (vik_2 0), .int (vik_2 1)])), ((a 1), .inl (T 2, 27, .inr (.inl (fl 0)))), ((a 2), .inl (T 0, 940, .inl (fi 0)))]) [2, 1, 0] (by decide +kernel) rfl
      rw [hQ]
      exact W.zret (v := 0) hx hb hr rfl (fun t ht hW => ⟨⟨0, 0, rfl, rfl, xf [], xh [], xv [(vi 9), (vi 5), (vi 6), (vi 8), (vi 7), (vi 4), (vik_2 0), (vik_2 1)], xl [(vl 0)], by rw [ht]; exact hP9, hD9, ⟨(Or.inr ⟨rfl, by show True; first | trivial | omega | assumption⟩), hp2, hp3, gk_2_1, (by show (0 : Int32).toInt = 1 → (vik_2 0).toInt = (vi 10).toInt; have k9_0 : (0 : Int32).toInt = 0 := (by decide); exact fun h9 => absurd h9 (by decide)), (by unfold R_X6_passKnown; exact (fun Q9 k9_0 k9_1 k9_2 => k9_1 hp0 hp1 hp2 hp3 hp4 fik flk vik vlk rk gk_1 tb gk_0 c15 fik_2 flk_2 vik_2 vlk_2 rk_2 gk_2_0 gk_2_1 gk_2_2 rfl rfl rfl rfl rfl rfl rfl rfl rfl rfl)), trivial⟩⟩, hS.F ht⟩) hS.2.2 dX6_passKnown_23
  · refine xz_i 0 er9 ?_
    have tb : rk.toInt = 0 := by rw [er9]; decide
    refine lv_if_ne (tgt := 13) hx hb dX6_passKnown_4 (by decide) (fun c => absurd (by decide) c) (fun _ => ?_)
    refine lv_aload_n hx hb dX6_passKnown_7 rfl (lv_at hl 0 rfl) ?_
    refine lv_iconst (v := 1) hx hb dX6_passKnown_8 (by decide) ?_
    obtain ⟨hC9, hPc, hDc, hFc⟩ := xcut (wc := (pre_X6_refuse T (xa [(a 0)]) (xa [(a 2), (a 1)]) (xf []) (xh []) (xv [1, (vi 1), (vi 2), (vi 3), (vi 4), (vi 5), (vi 6), (vi 7), (vi 8), (vi 9), (vi 10), (vi 11)]) (xl [(vl 0)]))) hP hD hS hA [1] (by decide) rfl
    refine va_calli (va_runV (As := [.int 1]) (rest := []) ⟨hx, hb, hml, hown, htg⟩ (c_X6_refuse l D T (xa [(a 0)]) (xa [(a 2), (a 1)]) (xf []) (xh []) (xv [1, (vi 1), (vi 2), (vi 3), (vi 4), (vi 5), (vi 6), (vi 7), (vi 8), (vi 9), (vi 10), (vi 11)]) (xl [(vl 0)]) H.size hp0 hp1 hp2 hp3 hp4) ⟨callB_of 1 htg (xg_ok kw_594) rfl rfl rfl (htg _ kw_2) (htg _ kw_623) (by decide +kernel) ⟨by rw [hR]; exact Nat.le_of_ble_eq_true rfl, by rw [hR]; exact Nat.le_of_ble_eq_true rfl⟩, htg _ kw_593, htg _ ks_10⟩ (xpreV hK hPc hDc (va_recv hK.1 hPc (ci := 6) (q0 := 0) rfl rfl)) rfl rfl hl.1 rfl (lv_room (Nat.le_of_ble_eq_true rfl)) dX6_passKnown_9 ⟨by rw [hR]; exact Nat.le_of_ble_eq_true rfl, by rw [hR]; exact Nat.le_of_ble_eq_true rfl⟩) hS (fun q _ h => hFc q h) hFc (fun r9 u9 t H1 locs ht hvm hw hB hz1 hk1 hS => ?_)
    subst hw
    obtain ⟨fik_3, flk_3, vik_3, vlk_3, hP1, hD1, hG⟩ := hB
    rw [ht] at hP1
    obtain ⟨hP, hD⟩ := va_join (wr := [((a 2), .inl (T 0, 940, .inl (fi 0))), ((a 1), .inl (T 2, 27, .inr (.inl (fl 0))))]) (w1 := [((a 0), .inr (6, [.ref (a 2), .ref (a 1), .int (vi 1), .int (vi 2), .int (vi 3), .int (vi 4), .int (vi 5), .int (vi 6), .long (vl 0), .int (vi 7), .int (vi 8), .int (vi 9), .int (vik_3 0), .int (vik_3 1)]))]) hP hD [1] [0, 2] hC9 rfl (by decide) (by decide) hk1 hFc hP1 hD1
    obtain ⟨rk_3, er9⟩ : ∃ z, z = r9 := ⟨_, rfl⟩
    subst er9
    clear hPc hDc hFc hP1 hD1 hk1 hz1 hvm ht hC9
    generalize H1 = H at hP hS ⊢
    obtain ⟨hP, hD⟩ := (show xPD D A [((a 2), .inl (T 0, 940, .inl (fi 0))), ((a 1), .inl (T 2, 27, .inr (.inl (fl 0)))), ((a 0), .inr (6, [.ref (a 2), .ref (a 1), .int (vi 1), .int (vi 2), .int (vi 3), .int (vi 4), .int (vi 5), .int (vi 6), .long (vl 0), .int (vi 7), .int (vi 8), .int (vi 9), .int (vik_3 0), .int (vik_3 1)]))] H from ⟨hP, hD⟩)
    obtain ⟨gk_3_0, gk_3_1, gk_3_2, -⟩ := hG
    replace gk_3_1 : 0 ≤ (vik_3 1).toInt ∧ (vik_3 1).toInt ≤ 940 := gk_3_1
    replace gk_3_2 : (vik_3 0).toInt = (1 : Int32).toInt ∧ (vik_3 1).toInt = (vi 6).toInt := gk_3_2
    replace gk_3_0 : rk_3 = 0 := gk_3_0
    refine xz_i 0 gk_3_0 ?_
    have hP9 := hP.sub (ws' := [((a 0), .inr (6, [.ref (a 2), .ref (a 1), .int (vi 1), .int (vi 2), .int (vi 3), .int (vi 4), .int (vi 5), .int (vi 6), .long (vl 0), .int (vi 7), .int (vi 8), .int (vi 9), .int (vik_3 0), .int (vik_3 1)])), ((a 1), .inl (T 2, 27, .inr (.inl (fl 0)))), ((a 2), .inl (T 0, 940, .inl (fi 0)))]) [2, 1, 0] rfl
    have hD9 := hD.sub (ws' := [((a 0), .inr (6, [.ref (a 2), .ref (a 1), .int (vi 1), .int (vi 2), .int (vi 3), .int (vi 4), .int (vi 5), .int (vi 6), .long (vl 0), .int (vi 7), .int (vi 8), .int (vi 9), .int (vik_3 0), .int (vik_3 1)])), ((a 1), .inl (T 2, 27, .inr (.inl (fl 0)))), ((a 2), .inl (T 0, 940, .inl (fi 0)))]) [2, 1, 0] (by decide +kernel) rfl
    rw [hQ]
    exact W.zret (v := 0) hx hb hr rfl (fun t ht hW => ⟨⟨0, 0, rfl, rfl, xf [], xh [], xv [(vi 9), (vi 5), (vi 6), (vi 8), (vi 7), (vi 4), (vik_3 0), (vik_3 1)], xl [(vl 0)], by rw [ht]; exact hP9, hD9, ⟨(Or.inr ⟨rfl, by show True; first | trivial | omega | assumption⟩), hp2, hp3, gk_3_1, (by show (0 : Int32).toInt = 1 → (vik_3 0).toInt = (vi 10).toInt; have k9_0 : (0 : Int32).toInt = 0 := (by decide); exact fun h9 => absurd h9 (by decide)), (by unfold R_X6_passKnown; exact (fun Q9 k9_0 k9_1 k9_2 => k9_2 hp0 hp1 hp2 hp3 hp4 fik flk vik vlk rk gk_1 tb gk_0 fik_3 flk_3 vik_3 vlk_3 rk_3 gk_3_0 gk_3_1 gk_3_2 rfl rfl rfl rfl rfl rfl rfl rfl rfl rfl)), trivial⟩⟩, hS.F ht⟩) hS.2.2 dX6_passKnown_12
