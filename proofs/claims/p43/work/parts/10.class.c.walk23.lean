abbrev pre_X6_advance (T : Nat → ClassId) (a ex : Nat → Nat) (fi : Nat → Nat → Int32) (fl : Nat → Nat → Int64) (vi : Nat → Int32) (vl : Nat → Int64) : va_W := [((a 0), .inr (6, [.ref (a 1), .ref (ex 0), .int (vi 0), .int (vi 1), .int (vi 2), .int (vi 3), .int (vi 4), .int (vi 5), .long (vl 0), .int (vi 6), .int (vi 7), .int (vi 8), .int (vi 9), .int (vi 10)])), ((a 1), .inl (T 0, 940, .inl (fi 0)))]
set_option maxHeartbeats 8000000 in
set_option maxRecDepth 100000 in
theorem c_X6_advance (l : Launch) (D : va_G) (T : Nat → ClassId) (a ex : Nat → Nat) (fi : Nat → Nat → Int32) (fl : Nat → Nat → Int64) (vi : Nat → Int32) (vl : Nat → Int64) (sz : Nat) (hp0 : 0 ≤ (vi 1).toInt ∧ (vi 1).toInt ≤ 940) (hp1 : 0 ≤ (vi 3).toInt ∧ (vi 3).toInt ≤ 940) : Met l yX6_advance (xw yX6_advance cX6_advance 4 none) ({ frames := 0, cells := 0, slots := 0, locals := 0 }) (xP D T [.ref (a 0)] sz (pre_X6_advance T a ex fi fl vi vl)) (va_Qv (fun _ : Int32 => True) (xC D (va_A (pre_X6_advance T a ex fi fl vi vl) sz) (fun fj fm vj vm => [((a 0), .inr (6, [.ref (a 1), .ref (ex 0), .int (vi 0), .int (vi 1), .int (vi 2), .int (vj 4), .int (vj 0), .int (vj 1), .long (vm 0), .int (vj 3), .int (vj 2), .int (vi 8), .int (vi 9), .int (vi 10)])), ((a 1), .inl (T 0, 940, .inl (fi 0)))]) (fun (r : Int32) (fj : Nat → Nat → Int32) (fm : Nat → Nat → Int64) (vj : Nat → Int32) (vm : Nat → Int64) => (0 ≤ (vj 4).toInt ∧ (vj 4).toInt ≤ 940) ∧ True)) (va_A (pre_X6_advance T a ex fi fl vi vl) sz)) 0 0 (va_A (pre_X6_advance T a ex fi fl vi vl) sz) := by
  refine xofW (cc := cX6_advance) (maxL := 4) (ret := none) (by decide) rfl ?_
  intro p e s m args below meth c s₁ R Q hR hQ B hml hv
  obtain ⟨rfl, hsz, hP, hK, hD0⟩ := hv
  have hx := B.exec
  have hb := B.bytes
  have hr := B.returns
  have hts := atoms_spec (ws := xw yX6_advance cX6_advance 4 none) B.pre
  have htg : ∀ w ∈ xg, w.before _ s = true := fun w h => hts w (List.mem_cons_of_mem _ h)
  have hown : s.vm.findClass RX6 = some m.cls := findClass_of_methodNamed B.named
  have hlocks := B.notSynchronized
  subst hsz
  have hD := hD0.self (sz := s.heap.size)
  generalize hAe : va_A (pre_X6_advance T a ex fi fl vi vl) s.heap.size = A at hD hQ
  have hA : ∀ q : Nat, s.heap.size ≤ q → A q := fun q h => by rw [← hAe]; exact Or.inr h
  have hS : va_S A s.heap s.heap [] := va_S.rf
  replace hP : va_P D vwCl [((a 0), .inr (6, [.ref (a 1), .ref (ex 0), .int (vi 0), .int (vi 1), .int (vi 2), .int (vi 3), .int (vi 4), .int (vi 5), .long (vl 0), .int (vi 6), .int (vi 7), .int (vi 8), .int (vi 9), .int (vi 10)])), ((a 1), .inl (T 0, 940, .inl (fi 0)))] s.heap := hP
  replace hD : va_D A [((a 0), .inr (6, [.ref (a 1), .ref (ex 0), .int (vi 0), .int (vi 1), .int (vi 2), .int (vi 3), .int (vi 4), .int (vi 5), .long (vl 0), .int (vi 6), .int (vi 7), .int (vi 8), .int (vi 9), .int (vi 10)])), ((a 1), .inl (T 0, 940, .inl (fi 0)))] := hD
  have hl := lv_entry ([.ref (a 0)]) (n := 4) (Nat.le_of_ble_eq_true rfl)
  rw [lg_entry_eq]
  generalize (lg_sl ([.ref (a 0)]) ++ List.replicate (4 - (lg_sl ([.ref (a 0)])).length) Slot.unset).toArray = ls at hl ⊢
  replace hl : lv_has ls 4 [(0, .ref (a 0))] := hl
  have lp : ∀ (kn : Nat) (wv : Int32) (H : Heap) (locs : List Loc) (ls : Array Slot), (0 ≤ wv.toInt ∧ wv.toInt ≤ 940) → (2147483648 - (wv).toInt).toNat = kn → va_P D vwCl [((a 0), .inr (6, [.ref (a 1), .ref (ex 0), .int (vi 0), .int (vi 1), .int (vi 2), .int wv, .int (vi 4), .int (vi 5), .long (vl 0), .int (vi 6), .int (vi 7), .int (vi 8), .int (vi 9), .int (vi 10)])), ((a 1), .inl (T 0, 940, .inl (fi 0)))] H → va_D A [((a 0), .inr (6, [.ref (a 1), .ref (ex 0), .int (vi 0), .int (vi 1), .int (vi 2), .int wv, .int (vi 4), .int (vi 5), .long (vl 0), .int (vi 6), .int (vi 7), .int (vi 8), .int (vi 9), .int (vi 10)])), ((a 1), .inl (T 0, 940, .inl (fi 0)))] → va_S A s.heap H locs → lv_has ls 4 [(0, .ref (a 0))] → W p l e R s m ([.ref (a 0)] : List Value).toArray below meth c H locs 0 0 Q (F0 m 0 ls []) := by
    intro kn
    induction kn using Nat.strongRecOn with
    | _ kn ih =>
      intro wv H locs ls hi hm hP hD hS hl
      refine lv_aload_n hx hb dX6_advance_0 rfl (lv_at hl 0 rfl) ?_
      refine va_get (D := D) (ci := 6) (v := .int wv) (C := RX6) (T := TX6) (N := 14) hx hb htg inX6 hown hK.1 hP 0 rfl rfl 5 (by decide) (htg _ kw_100) (fun _ h9 => h9) rfl dX6_advance_1 ?_
      refine lv_aload_n hx hb dX6_advance_4 rfl (lv_at hl 0 rfl) ?_
      refine va_get (D := D) (ci := 6) (v := .int (vi 1)) (C := RX6) (T := TX6) (N := 14) hx hb htg inX6 hown hK.1 hP 0 rfl rfl 3 (by decide) (htg _ kw_98) (fun _ h9 => h9) rfl dX6_advance_5 ?_
      refine lv_icmp_ge (tgt := 52) hx hb dX6_advance_8 (by decide) (fun c8 => ?_) (fun c8 => ?_)
      · have c8 := Int32.le_iff_toInt_le.mp c8
        have rc8 := xrng wv; have qc8 := xrng (vi 1)
        refine lv_aload_n hx hb dX6_advance_52 rfl (lv_at hl 0 rfl) ?_
        refine va_get (D := D) (ci := 6) (v := .int wv) (C := RX6) (T := TX6) (N := 14) hx hb htg inX6 hown hK.1 hP 0 rfl rfl 5 (by decide) (htg _ kw_100) (fun _ h9 => h9) rfl dX6_advance_53 ?_
        refine lv_aload_n hx hb dX6_advance_56 rfl (lv_at hl 0 rfl) ?_
        refine va_get (D := D) (ci := 6) (v := .int (vi 1)) (C := RX6) (T := TX6) (N := 14) hx hb htg inX6 hown hK.1 hP 0 rfl rfl 3 (by decide) (htg _ kw_98) (fun _ h9 => h9) rfl dX6_advance_57 ?_
        refine lv_icmp_ge (tgt := 74) hx hb dX6_advance_60 (by decide) (fun c60 => ?_) (fun c60 => ?_)
        · have c60 := Int32.le_iff_toInt_le.mp c60
          have rc60 := xrng wv; have qc60 := xrng (vi 1)
          refine lv_aload_n hx hb dX6_advance_74 rfl (lv_at hl 0 rfl) ?_
          refine lv_aload_n hx hb dX6_advance_75 rfl (lv_at hl 0 rfl) ?_
          refine va_get (D := D) (ci := 6) (v := .int (vi 1)) (C := RX6) (T := TX6) (N := 14) hx hb htg inX6 hown hK.1 hP 0 rfl rfl 3 (by decide) (htg _ kw_98) (fun _ h9 => h9) rfl dX6_advance_76 ?_
          refine lv_aload_n hx hb dX6_advance_79 rfl (lv_at hl 0 rfl) ?_
          refine va_get (D := D) (ci := 6) (v := .int (vi 2)) (C := RX6) (T := TX6) (N := 14) hx hb htg inX6 hown hK.1 hP 0 rfl rfl 4 (by decide) (htg _ kw_99) (fun _ h9 => h9) rfl dX6_advance_80 ?_
          refine lv_icmp_le (tgt := 90) hx hb dX6_advance_83 (by decide) (fun c83 => ?_) (fun c83 => ?_)
          · have c83 := Int32.le_iff_toInt_le.mp c83
            have rc83 := xrng (vi 1); have qc83 := xrng (vi 2)
            refine lv_iconst (v := 0) hx hb dX6_advance_90 (by decide) ?_
            refine va_put (D := D) (ci := 6) (v := .int 0) (ty := .int) (C := RX6) (T := TX6) (N := 14) hx hb htg inX6 tyX6 tyX6_ok nmX6 hown hK.1 hP hD hS 0 rfl rfl 6 (by decide) (htg _ kw_104) (fun _ h9 => h9) rfl (by decide +kernel) rfl rfl (Nat.le_of_ble_eq_true rfl) dX6_advance_91 (fun H locs hP hD hS => ?_)
            obtain ⟨hP, hD⟩ := (show xPD D A [((a 0), .inr (6, [.ref (a 1), .ref (ex 0), .int (vi 0), .int (vi 1), .int (vi 2), .int wv, .int 0, .int (vi 5), .long (vl 0), .int (vi 6), .int (vi 7), .int (vi 8), .int (vi 9), .int (vi 10)])), ((a 1), .inl (T 0, 940, .inl (fi 0)))] H from ⟨hP, hD⟩)
            refine lv_aload_n hx hb dX6_advance_94 rfl (lv_at hl 0 rfl) ?_
            refine lv_aload_n hx hb dX6_advance_95 rfl (lv_at hl 0 rfl) ?_
            refine va_get (D := D) (ci := 6) (v := .int (vi 1)) (C := RX6) (T := TX6) (N := 14) hx hb htg inX6 hown hK.1 hP 0 rfl rfl 3 (by decide) (htg _ kw_98) (fun _ h9 => h9) rfl dX6_advance_96 ?_
            refine lv_aload_n hx hb dX6_advance_99 rfl (lv_at hl 0 rfl) ?_
            refine va_get (D := D) (ci := 6) (v := .int (vi 2)) (C := RX6) (T := TX6) (N := 14) hx hb htg inX6 hown hK.1 hP 0 rfl rfl 4 (by decide) (htg _ kw_99) (fun _ h9 => h9) rfl dX6_advance_100 ?_
            refine lv_icmp_le (tgt := 113) hx hb dX6_advance_103 (by decide) (fun c103 => ?_) (fun c103 => ?_)
            · have c103 := Int32.le_iff_toInt_le.mp c103
              have rc103 := xrng (vi 1); have qc103 := xrng (vi 2)
              refine lv_aload_n hx hb dX6_advance_113 rfl (lv_at hl 0 rfl) ?_
              refine va_get (D := D) (ci := 6) (v := .int (vi 1)) (C := RX6) (T := TX6) (N := 14) hx hb htg inX6 hown hK.1 hP 0 rfl rfl 3 (by decide) (htg _ kw_98) (fun _ h9 => h9) rfl dX6_advance_114 ?_
              refine va_put (D := D) (ci := 6) (v := .int (vi 1)) (ty := .int) (C := RX6) (T := TX6) (N := 14) hx hb htg inX6 tyX6 tyX6_ok nmX6 hown hK.1 hP hD hS 0 rfl rfl 7 (by decide) (htg _ kw_105) (fun _ h9 => h9) rfl (by decide +kernel) rfl rfl (Nat.le_of_ble_eq_true rfl) dX6_advance_117 (fun H locs hP hD hS => ?_)
              obtain ⟨hP, hD⟩ := (show xPD D A [((a 0), .inr (6, [.ref (a 1), .ref (ex 0), .int (vi 0), .int (vi 1), .int (vi 2), .int wv, .int 0, .int (vi 1), .long (vl 0), .int (vi 6), .int (vi 7), .int (vi 8), .int (vi 9), .int (vi 10)])), ((a 1), .inl (T 0, 940, .inl (fi 0)))] H from ⟨hP, hD⟩)
              have hP9 := hP.sub (ws' := [((a 0), .inr (6, [.ref (a 1), .ref (ex 0), .int (vi 0), .int (vi 1), .int (vi 2), .int wv, .int 0, .int (vi 1), .long (vl 0), .int (vi 6), .int (vi 7), .int (vi 8), .int (vi 9), .int (vi 10)])), ((a 1), .inl (T 0, 940, .inl (fi 0)))]) [0, 1] rfl
              have hD9 := hD.sub (ws' := [((a 0), .inr (6, [.ref (a 1), .ref (ex 0), .int (vi 0), .int (vi 1), .int (vi 2), .int wv, .int 0, .int (vi 1), .long (vl 0), .int (vi 6), .int (vi 7), .int (vi 8), .int (vi 9), .int (vi 10)])), ((a 1), .inl (T 0, 940, .inl (fi 0)))]) [0, 1] (by decide +kernel) rfl
              rw [hQ]
              exact W.vret hx hb hr (fun t ht hW => ⟨⟨(0 : Int32), rfl, trivial, xf [], xh [], xv [0, (vi 1), (vi 7), (vi 6), wv], xl [(vl 0)], by rw [ht]; exact hP9, hD9, ⟨hi, trivial⟩⟩, hS.F ht⟩) hS.2.2 dX6_advance_120
            · have c103 := (mt Int32.le_iff_toInt_le.mpr c103)
              have rc103 := xrng (vi 1); have qc103 := xrng (vi 2)
              refine lv_aload_n hx hb dX6_advance_106 rfl (lv_at hl 0 rfl) ?_
              refine va_get (D := D) (ci := 6) (v := .int (vi 2)) (C := RX6) (T := TX6) (N := 14) hx hb htg inX6 hown hK.1 hP 0 rfl rfl 4 (by decide) (htg _ kw_99) (fun _ h9 => h9) rfl dX6_advance_107 ?_
              refine lv_goto (tgt := 117) hx hb dX6_advance_110 (by decide) ?_
              refine va_put (D := D) (ci := 6) (v := .int (vi 2)) (ty := .int) (C := RX6) (T := TX6) (N := 14) hx hb htg inX6 tyX6 tyX6_ok nmX6 hown hK.1 hP hD hS 0 rfl rfl 7 (by decide) (htg _ kw_105) (fun _ h9 => h9) rfl (by decide +kernel) rfl rfl (Nat.le_of_ble_eq_true rfl) dX6_advance_117 (fun H locs hP hD hS => ?_)
              obtain ⟨hP, hD⟩ := (show xPD D A [((a 0), .inr (6, [.ref (a 1), .ref (ex 0), .int (vi 0), .int (vi 1), .int (vi 2), .int wv, .int 0, .int (vi 2), .long (vl 0), .int (vi 6), .int (vi 7), .int (vi 8), .int (vi 9), .int (vi 10)])), ((a 1), .inl (T 0, 940, .inl (fi 0)))] H from ⟨hP, hD⟩)
              have hP9 := hP.sub (ws' := [((a 0), .inr (6, [.ref (a 1), .ref (ex 0), .int (vi 0), .int (vi 1), .int (vi 2), .int wv, .int 0, .int (vi 2), .long (vl 0), .int (vi 6), .int (vi 7), .int (vi 8), .int (vi 9), .int (vi 10)])), ((a 1), .inl (T 0, 940, .inl (fi 0)))]) [0, 1] rfl
              have hD9 := hD.sub (ws' := [((a 0), .inr (6, [.ref (a 1), .ref (ex 0), .int (vi 0), .int (vi 1), .int (vi 2), .int wv, .int 0, .int (vi 2), .long (vl 0), .int (vi 6), .int (vi 7), .int (vi 8), .int (vi 9), .int (vi 10)])), ((a 1), .inl (T 0, 940, .inl (fi 0)))]) [0, 1] (by decide +kernel) rfl
              rw [hQ]
              exact W.vret hx hb hr (fun t ht hW => ⟨⟨(0 : Int32), rfl, trivial, xf [], xh [], xv [0, (vi 2), (vi 7), (vi 6), wv], xl [(vl 0)], by rw [ht]; exact hP9, hD9, ⟨hi, trivial⟩⟩, hS.F ht⟩) hS.2.2 dX6_advance_120
          · have c83 := (mt Int32.le_iff_toInt_le.mpr c83)
            have rc83 := xrng (vi 1); have qc83 := xrng (vi 2)
            refine lv_iconst (v := 4) hx hb dX6_advance_86 (by decide) ?_
            refine lv_goto (tgt := 91) hx hb dX6_advance_87 (by decide) ?_
            refine va_put (D := D) (ci := 6) (v := .int 4) (ty := .int) (C := RX6) (T := TX6) (N := 14) hx hb htg inX6 tyX6 tyX6_ok nmX6 hown hK.1 hP hD hS 0 rfl rfl 6 (by decide) (htg _ kw_104) (fun _ h9 => h9) rfl (by decide +kernel) rfl rfl (Nat.le_of_ble_eq_true rfl) dX6_advance_91 (fun H locs hP hD hS => ?_)
            obtain ⟨hP, hD⟩ := (show xPD D A [((a 0), .inr (6, [.ref (a 1), .ref (ex 0), .int (vi 0), .int (vi 1), .int (vi 2), .int wv, .int 4, .int (vi 5), .long (vl 0), .int (vi 6), .int (vi 7), .int (vi 8), .int (vi 9), .int (vi 10)])), ((a 1), .inl (T 0, 940, .inl (fi 0)))] H from ⟨hP, hD⟩)
            refine lv_aload_n hx hb dX6_advance_94 rfl (lv_at hl 0 rfl) ?_
            refine lv_aload_n hx hb dX6_advance_95 rfl (lv_at hl 0 rfl) ?_
            refine va_get (D := D) (ci := 6) (v := .int (vi 1)) (C := RX6) (T := TX6) (N := 14) hx hb htg inX6 hown hK.1 hP 0 rfl rfl 3 (by decide) (htg _ kw_98) (fun _ h9 => h9) rfl dX6_advance_96 ?_
            refine lv_aload_n hx hb dX6_advance_99 rfl (lv_at hl 0 rfl) ?_
            refine va_get (D := D) (ci := 6) (v := .int (vi 2)) (C := RX6) (T := TX6) (N := 14) hx hb htg inX6 hown hK.1 hP 0 rfl rfl 4 (by decide) (htg _ kw_99) (fun _ h9 => h9) rfl dX6_advance_100 ?_
            refine lv_icmp_le (tgt := 113) hx hb dX6_advance_103 (by decide) (fun c103_1 => ?_) (fun c103_1 => ?_)
            · have c103_1 := Int32.le_iff_toInt_le.mp c103_1
              have rc103_1 := xrng (vi 1); have qc103_1 := xrng (vi 2)
              refine lv_aload_n hx hb dX6_advance_113 rfl (lv_at hl 0 rfl) ?_
              refine va_get (D := D) (ci := 6) (v := .int (vi 1)) (C := RX6) (T := TX6) (N := 14) hx hb htg inX6 hown hK.1 hP 0 rfl rfl 3 (by decide) (htg _ kw_98) (fun _ h9 => h9) rfl dX6_advance_114 ?_
              refine va_put (D := D) (ci := 6) (v := .int (vi 1)) (ty := .int) (C := RX6) (T := TX6) (N := 14) hx hb htg inX6 tyX6 tyX6_ok nmX6 hown hK.1 hP hD hS 0 rfl rfl 7 (by decide) (htg _ kw_105) (fun _ h9 => h9) rfl (by decide +kernel) rfl rfl (Nat.le_of_ble_eq_true rfl) dX6_advance_117 (fun H locs hP hD hS => ?_)
              obtain ⟨hP, hD⟩ := (show xPD D A [((a 0), .inr (6, [.ref (a 1), .ref (ex 0), .int (vi 0), .int (vi 1), .int (vi 2), .int wv, .int 4, .int (vi 1), .long (vl 0), .int (vi 6), .int (vi 7), .int (vi 8), .int (vi 9), .int (vi 10)])), ((a 1), .inl (T 0, 940, .inl (fi 0)))] H from ⟨hP, hD⟩)
              have hP9 := hP.sub (ws' := [((a 0), .inr (6, [.ref (a 1), .ref (ex 0), .int (vi 0), .int (vi 1), .int (vi 2), .int wv, .int 4, .int (vi 1), .long (vl 0), .int (vi 6), .int (vi 7), .int (vi 8), .int (vi 9), .int (vi 10)])), ((a 1), .inl (T 0, 940, .inl (fi 0)))]) [0, 1] rfl
              have hD9 := hD.sub (ws' := [((a 0), .inr (6, [.ref (a 1), .ref (ex 0), .int (vi 0), .int (vi 1), .int (vi 2), .int wv, .int 4, .int (vi 1), .long (vl 0), .int (vi 6), .int (vi 7), .int (vi 8), .int (vi 9), .int (vi 10)])), ((a 1), .inl (T 0, 940, .inl (fi 0)))]) [0, 1] (by decide +kernel) rfl
              rw [hQ]
              exact W.vret hx hb hr (fun t ht hW => ⟨⟨(0 : Int32), rfl, trivial, xf [], xh [], xv [4, (vi 1), (vi 7), (vi 6), wv], xl [(vl 0)], by rw [ht]; exact hP9, hD9, ⟨hi, trivial⟩⟩, hS.F ht⟩) hS.2.2 dX6_advance_120
            · have c103_1 := (mt Int32.le_iff_toInt_le.mpr c103_1)
              have rc103_1 := xrng (vi 1); have qc103_1 := xrng (vi 2)
              refine lv_aload_n hx hb dX6_advance_106 rfl (lv_at hl 0 rfl) ?_
              refine va_get (D := D) (ci := 6) (v := .int (vi 2)) (C := RX6) (T := TX6) (N := 14) hx hb htg inX6 hown hK.1 hP 0 rfl rfl 4 (by decide) (htg _ kw_99) (fun _ h9 => h9) rfl dX6_advance_107 ?_
              refine lv_goto (tgt := 117) hx hb dX6_advance_110 (by decide) ?_
              refine va_put (D := D) (ci := 6) (v := .int (vi 2)) (ty := .int) (C := RX6) (T := TX6) (N := 14) hx hb htg inX6 tyX6 tyX6_ok nmX6 hown hK.1 hP hD hS 0 rfl rfl 7 (by decide) (htg _ kw_105) (fun _ h9 => h9) rfl (by decide +kernel) rfl rfl (Nat.le_of_ble_eq_true rfl) dX6_advance_117 (fun H locs hP hD hS => ?_)
              obtain ⟨hP, hD⟩ := (show xPD D A [((a 0), .inr (6, [.ref (a 1), .ref (ex 0), .int (vi 0), .int (vi 1), .int (vi 2), .int wv, .int 4, .int (vi 2), .long (vl 0), .int (vi 6), .int (vi 7), .int (vi 8), .int (vi 9), .int (vi 10)])), ((a 1), .inl (T 0, 940, .inl (fi 0)))] H from ⟨hP, hD⟩)
              have hP9 := hP.sub (ws' := [((a 0), .inr (6, [.ref (a 1), .ref (ex 0), .int (vi 0), .int (vi 1), .int (vi 2), .int wv, .int 4, .int (vi 2), .long (vl 0), .int (vi 6), .int (vi 7), .int (vi 8), .int (vi 9), .int (vi 10)])), ((a 1), .inl (T 0, 940, .inl (fi 0)))]) [0, 1] rfl
              have hD9 := hD.sub (ws' := [((a 0), .inr (6, [.ref (a 1), .ref (ex 0), .int (vi 0), .int (vi 1), .int (vi 2), .int wv, .int 4, .int (vi 2), .long (vl 0), .int (vi 6), .int (vi 7), .int (vi 8), .int (vi 9), .int (vi 10)])), ((a 1), .inl (T 0, 940, .inl (fi 0)))]) [0, 1] (by decide +kernel) rfl
              rw [hQ]
              exact W.vret hx hb hr (fun t ht hW => ⟨⟨(0 : Int32), rfl, trivial, xf [], xh [], xv [4, (vi 2), (vi 7), (vi 6), wv], xl [(vl 0)], by rw [ht]; exact hP9, hD9, ⟨hi, trivial⟩⟩, hS.F ht⟩) hS.2.2 dX6_advance_120
        · have c60 := (mt Int32.le_iff_toInt_le.mpr c60)
          have rc60 := xrng wv; have qc60 := xrng (vi 1)
          refine lv_aload_n hx hb dX6_advance_63 rfl (lv_at hl 0 rfl) ?_
          refine va_get (D := D) (ci := 6) (v := .int wv) (C := RX6) (T := TX6) (N := 14) hx hb htg inX6 hown hK.1 hP 0 rfl rfl 5 (by decide) (htg _ kw_100) (fun _ h9 => h9) rfl dX6_advance_64 ?_
          refine lv_aload_n hx hb dX6_advance_67 rfl (lv_at hl 0 rfl) ?_
          refine va_get (D := D) (ci := 6) (v := .int (vi 2)) (C := RX6) (T := TX6) (N := 14) hx hb htg inX6 hown hK.1 hP 0 rfl rfl 4 (by decide) (htg _ kw_99) (fun _ h9 => h9) rfl dX6_advance_68 ?_
          refine lv_icmp_lt (tgt := 121) hx hb dX6_advance_71 (by decide) (fun c71 => ?_) (fun c71 => ?_)
          · have c71 := Int32.lt_iff_toInt_lt.mp c71
            have rc71 := xrng wv; have qc71 := xrng (vi 2)
            refine lv_aload_n hx hb dX6_advance_121 rfl (lv_at hl 0 rfl) ?_
            refine lv_aload_n hx hb dX6_advance_122 rfl (lv_at hl 0 rfl) ?_
            refine va_get (D := D) (ci := 6) (v := .int wv) (C := RX6) (T := TX6) (N := 14) hx hb htg inX6 hown hK.1 hP 0 rfl rfl 5 (by decide) (htg _ kw_100) (fun _ h9 => h9) rfl dX6_advance_123 ?_
            refine va_put (D := D) (ci := 6) (v := .int wv) (ty := .int) (C := RX6) (T := TX6) (N := 14) hx hb htg inX6 tyX6 tyX6_ok nmX6 hown hK.1 hP hD hS 0 rfl rfl 7 (by decide) (htg _ kw_105) (fun _ h9 => h9) rfl (by decide +kernel) rfl rfl (Nat.le_of_ble_eq_true rfl) dX6_advance_126 (fun H locs hP hD hS => ?_)
            obtain ⟨hP, hD⟩ := (show xPD D A [((a 0), .inr (6, [.ref (a 1), .ref (ex 0), .int (vi 0), .int (vi 1), .int (vi 2), .int wv, .int (vi 4), .int wv, .long (vl 0), .int (vi 6), .int (vi 7), .int (vi 8), .int (vi 9), .int (vi 10)])), ((a 1), .inl (T 0, 940, .inl (fi 0)))] H from ⟨hP, hD⟩)
            refine lv_aload_n hx hb dX6_advance_129 rfl (lv_at hl 0 rfl) ?_
            refine lv_aload_n hx hb dX6_advance_130 rfl (lv_at hl 0 rfl) ?_
            refine va_get (D := D) (ci := 6) (v := .ref (a 1)) (C := RX6) (T := TX6) (N := 14) hx hb htg inX6 hown hK.1 hP 0 rfl rfl 0 (by decide) (htg _ kw_94) (fun _ h9 => h9) rfl dX6_advance_131 ?_
            refine lv_aload_n hx hb dX6_advance_134 rfl (lv_at hl 0 rfl) ?_
            refine va_get (D := D) (ci := 6) (v := .int wv) (C := RX6) (T := TX6) (N := 14) hx hb htg inX6 hown hK.1 hP 0 rfl rfl 5 (by decide) (htg _ kw_100) (fun _ h9 => h9) rfl dX6_advance_135 ?_
            refine va_bald hx hb hK.1 hP 1 0 rfl rfl (vp_in_iff.mpr (by omega)) dX6_advance_138 ?_
            refine va_put (D := D) (ci := 6) (v := .int ((fi 0) wv.toNatClampNeg)) (ty := .int) (C := RX6) (T := TX6) (N := 14) hx hb htg inX6 tyX6 tyX6_ok nmX6 hown hK.1 hP hD hS 0 rfl rfl 10 (by decide) (htg _ kw_111) (fun _ h9 => h9) rfl (by decide +kernel) rfl rfl (Nat.le_of_ble_eq_true rfl) dX6_advance_139 (fun H locs hP hD hS => ?_)
            obtain ⟨hP, hD⟩ := (show xPD D A [((a 0), .inr (6, [.ref (a 1), .ref (ex 0), .int (vi 0), .int (vi 1), .int (vi 2), .int wv, .int (vi 4), .int wv, .long (vl 0), .int (vi 6), .int ((fi 0) wv.toNatClampNeg), .int (vi 8), .int (vi 9), .int (vi 10)])), ((a 1), .inl (T 0, 940, .inl (fi 0)))] H from ⟨hP, hD⟩)
            refine lv_aload_n hx hb dX6_advance_142 rfl (lv_at hl 0 rfl) ?_
            refine lv_lconst (v := 0) hx hb dX6_advance_143 (by decide) ?_
            refine va_put (D := D) (ci := 6) (v := .long 0) (ty := .long) (C := RX6) (T := TX6) (N := 14) hx hb htg inX6 tyX6 tyX6_ok nmX6 hown hK.1 hP hD hS 0 rfl rfl 8 (by decide) (htg _ kw_108) (fun _ h9 => h9) rfl (by decide +kernel) rfl rfl (Nat.le_of_ble_eq_true rfl) dX6_advance_144 (fun H locs hP hD hS => ?_)
            obtain ⟨hP, hD⟩ := (show xPD D A [((a 0), .inr (6, [.ref (a 1), .ref (ex 0), .int (vi 0), .int (vi 1), .int (vi 2), .int wv, .int (vi 4), .int wv, .long 0, .int (vi 6), .int ((fi 0) wv.toNatClampNeg), .int (vi 8), .int (vi 9), .int (vi 10)])), ((a 1), .inl (T 0, 940, .inl (fi 0)))] H from ⟨hP, hD⟩)
            refine lv_aload_n hx hb dX6_advance_147 rfl (lv_at hl 0 rfl) ?_
            refine lv_iconst (v := 0) hx hb dX6_advance_148 (by decide) ?_
            refine va_put (D := D) (ci := 6) (v := .int 0) (ty := .int) (C := RX6) (T := TX6) (N := 14) hx hb htg inX6 tyX6 tyX6_ok nmX6 hown hK.1 hP hD hS 0 rfl rfl 9 (by decide) (htg _ kw_110) (fun _ h9 => h9) rfl (by decide +kernel) rfl rfl (Nat.le_of_ble_eq_true rfl) dX6_advance_149 (fun H locs hP hD hS => ?_)
            obtain ⟨hP, hD⟩ := (show xPD D A [((a 0), .inr (6, [.ref (a 1), .ref (ex 0), .int (vi 0), .int (vi 1), .int (vi 2), .int wv, .int (vi 4), .int wv, .long 0, .int 0, .int ((fi 0) wv.toNatClampNeg), .int (vi 8), .int (vi 9), .int (vi 10)])), ((a 1), .inl (T 0, 940, .inl (fi 0)))] H from ⟨hP, hD⟩)
            refine lv_iconst (v := 0) hx hb dX6_advance_152 (by decide) ?_
            refine lv_istore_n (lv' := [(1, .int 0), (0, .ref (a 0))]) hx hb dX6_advance_153 rfl hl (by decide) rfl (fun ls hl => ?_)
            refine lv_iconst (v := 0) hx hb dX6_advance_154 (by decide) ?_
            refine lv_istore_n (lv' := [(2, .int 0), (1, .int 0), (0, .ref (a 0))]) hx hb dX6_advance_155 rfl hl (by decide) rfl (fun ls hl => ?_)
            have lp_1 : ∀ (kn_1 : Nat) (w2 : Int32) (w1 : Int32) (wv_1 : Int64) (wv_2 : Int32) (wv_3 : Int32) (H : Heap) (locs : List Loc) (ls : Array Slot), (0 ≤ w2.toInt ∧ w2.toInt ≤ 940) → (0 ≤ w1.toInt ∧ w1.toInt ≤ 940) → (0 ≤ wv_3.toInt ∧ wv_3.toInt ≤ 940) → ((wv_3).toInt = (wv).toInt + w1.toInt + w2.toInt) → (2147483648 - (wv_3).toInt).toNat = kn_1 → va_P D vwCl [((a 0), .inr (6, [.ref (a 1), .ref (ex 0), .int (vi 0), .int (vi 1), .int (vi 2), .int wv_3, .int (vi 4), .int wv, .long wv_1, .int wv_2, .int ((fi 0) wv.toNatClampNeg), .int (vi 8), .int (vi 9), .int (vi 10)])), ((a 1), .inl (T 0, 940, .inl (fi 0)))] H → va_D A [((a 0), .inr (6, [.ref (a 1), .ref (ex 0), .int (vi 0), .int (vi 1), .int (vi 2), .int wv_3, .int (vi 4), .int wv, .long wv_1, .int wv_2, .int ((fi 0) wv.toNatClampNeg), .int (vi 8), .int (vi 9), .int (vi 10)])), ((a 1), .inl (T 0, 940, .inl (fi 0)))] → va_S A s.heap H locs → lv_has ls 4 [(2, .int w2), (1, .int w1), (0, .ref (a 0))] → W p l e R s m ([.ref (a 0)] : List Value).toArray below meth c H locs 0 0 Q (F0 m 156 ls []) := by
              intro kn_1
              induction kn_1 using Nat.strongRecOn with
              | _ kn_1 ih_1 =>
                intro w2 w1 wv_1 wv_2 wv_3 H locs ls hi_1 hi_2 hi_3 hi_4 hm_1 hP hD hS hl
                refine lv_aload_n hx hb dX6_advance_156 rfl (lv_at hl 2 rfl) ?_
                refine va_get (D := D) (ci := 6) (v := .int wv_3) (C := RX6) (T := TX6) (N := 14) hx hb htg inX6 hown hK.1 hP 0 rfl rfl 5 (by decide) (htg _ kw_100) (fun _ h9 => h9) rfl dX6_advance_157 ?_
                refine lv_aload_n hx hb dX6_advance_160 rfl (lv_at hl 2 rfl) ?_
                refine va_get (D := D) (ci := 6) (v := .int (vi 1)) (C := RX6) (T := TX6) (N := 14) hx hb htg inX6 hown hK.1 hP 0 rfl rfl 3 (by decide) (htg _ kw_98) (fun _ h9 => h9) rfl dX6_advance_161 ?_
                refine lv_icmp_ge (tgt := 253) hx hb dX6_advance_164 (by decide) (fun c164 => ?_) (fun c164 => ?_)
                · have c164 := Int32.le_iff_toInt_le.mp c164
                  have rc164 := xrng wv_3; have qc164 := xrng (vi 1)
                  refine lv_iload_n hx hb dX6_advance_253 rfl (lv_at hl 1 rfl) ?_
                  refine lv_iload_n hx hb dX6_advance_254 rfl (lv_at hl 0 rfl) ?_
                  refine lv_iadd hx hb dX6_advance_255 ?_
                  refine lv_topi (fun z255 ez255 => ?_)
                  have tz255 : z255.toInt = w1.toInt + w2.toInt := by rw [ez255]; exact xadd rfl rfl (by omega) (by omega)
                  refine lv_if_ne (tgt := 326) hx hb dX6_advance_256 (by decide) (fun c256 => ?_) (fun c256 => ?_)
                  · have c256 := xne (k := 0) (by decide) c256
                    refine lv_iload_n hx hb dX6_advance_326 rfl (lv_at hl 0 rfl) ?_
                    refine lv_if_ne (tgt := 348) hx hb dX6_advance_327 (by decide) (fun c327 => ?_) (fun c327 => ?_)
                    · have c327 := xne (k := 0) (by decide) c327
                      refine lv_aload_n hx hb dX6_advance_348 rfl (lv_at hl 2 rfl) ?_
                      refine lv_iload_n hx hb dX6_advance_349 rfl (lv_at hl 1 rfl) ?_
                      refine lv_if_ne (tgt := 362) hx hb dX6_advance_350 (by decide) (fun c350 => ?_) (fun c350 => ?_)
                      · have c350 := xne (k := 0) (by decide) c350
                        refine lv_iconst (v := 4) hx hb dX6_advance_362 (by decide) ?_
                        refine va_put (D := D) (ci := 6) (v := .int 4) (ty := .int) (C := RX6) (T := TX6) (N := 14) hx hb htg inX6 tyX6 tyX6_ok nmX6 hown hK.1 hP hD hS 0 rfl rfl 6 (by decide) (htg _ kw_104) (fun _ h9 => h9) rfl (by decide +kernel) rfl rfl (Nat.le_of_ble_eq_true rfl) dX6_advance_363 (fun H locs hP hD hS => ?_)
                        obtain ⟨hP, hD⟩ := (show xPD D A [((a 0), .inr (6, [.ref (a 1), .ref (ex 0), .int (vi 0), .int (vi 1), .int (vi 2), .int wv_3, .int 4, .int wv, .long wv_1, .int wv_2, .int ((fi 0) wv.toNatClampNeg), .int (vi 8), .int (vi 9), .int (vi 10)])), ((a 1), .inl (T 0, 940, .inl (fi 0)))] H from ⟨hP, hD⟩)
                        have hP9 := hP.sub (ws' := [((a 0), .inr (6, [.ref (a 1), .ref (ex 0), .int (vi 0), .int (vi 1), .int (vi 2), .int wv_3, .int 4, .int wv, .long wv_1, .int wv_2, .int ((fi 0) wv.toNatClampNeg), .int (vi 8), .int (vi 9), .int (vi 10)])), ((a 1), .inl (T 0, 940, .inl (fi 0)))]) [0, 1] rfl
                        have hD9 := hD.sub (ws' := [((a 0), .inr (6, [.ref (a 1), .ref (ex 0), .int (vi 0), .int (vi 1), .int (vi 2), .int wv_3, .int 4, .int wv, .long wv_1, .int wv_2, .int ((fi 0) wv.toNatClampNeg), .int (vi 8), .int (vi 9), .int (vi 10)])), ((a 1), .inl (T 0, 940, .inl (fi 0)))]) [0, 1] (by decide +kernel) rfl
                        rw [hQ]
                        exact W.vret hx hb hr (fun t ht hW => ⟨⟨(0 : Int32), rfl, trivial, xf [], xh [], xv [4, wv, ((fi 0) wv.toNatClampNeg), wv_2, wv_3], xl [wv_1], by rw [ht]; exact hP9, hD9, ⟨hi_3, trivial⟩⟩, hS.F ht⟩) hS.2.2 dX6_advance_366
                      · have c350 := xeq (k := 0) (by decide) c350
                        refine lv_iload_n hx hb dX6_advance_353 rfl (lv_at hl 0 rfl) ?_
                        refine lv_iconst (v := 3) hx hb dX6_advance_354 (by decide) ?_
                        refine lv_icmp_gt (tgt := 362) hx hb dX6_advance_355 (by decide) (fun c355 => ?_) (fun c355 => ?_)
                        · have c355 := xgt (k := 3) (by decide) c355
                          refine lv_iconst (v := 4) hx hb dX6_advance_362 (by decide) ?_
                          refine va_put (D := D) (ci := 6) (v := .int 4) (ty := .int) (C := RX6) (T := TX6) (N := 14) hx hb htg inX6 tyX6 tyX6_ok nmX6 hown hK.1 hP hD hS 0 rfl rfl 6 (by decide) (htg _ kw_104) (fun _ h9 => h9) rfl (by decide +kernel) rfl rfl (Nat.le_of_ble_eq_true rfl) dX6_advance_363 (fun H locs hP hD hS => ?_)
                          obtain ⟨hP, hD⟩ := (show xPD D A [((a 0), .inr (6, [.ref (a 1), .ref (ex 0), .int (vi 0), .int (vi 1), .int (vi 2), .int wv_3, .int 4, .int wv, .long wv_1, .int wv_2, .int ((fi 0) wv.toNatClampNeg), .int (vi 8), .int (vi 9), .int (vi 10)])), ((a 1), .inl (T 0, 940, .inl (fi 0)))] H from ⟨hP, hD⟩)
                          have hP9 := hP.sub (ws' := [((a 0), .inr (6, [.ref (a 1), .ref (ex 0), .int (vi 0), .int (vi 1), .int (vi 2), .int wv_3, .int 4, .int wv, .long wv_1, .int wv_2, .int ((fi 0) wv.toNatClampNeg), .int (vi 8), .int (vi 9), .int (vi 10)])), ((a 1), .inl (T 0, 940, .inl (fi 0)))]) [0, 1] rfl
                          have hD9 := hD.sub (ws' := [((a 0), .inr (6, [.ref (a 1), .ref (ex 0), .int (vi 0), .int (vi 1), .int (vi 2), .int wv_3, .int 4, .int wv, .long wv_1, .int wv_2, .int ((fi 0) wv.toNatClampNeg), .int (vi 8), .int (vi 9), .int (vi 10)])), ((a 1), .inl (T 0, 940, .inl (fi 0)))]) [0, 1] (by decide +kernel) rfl
                          rw [hQ]
                          exact W.vret hx hb hr (fun t ht hW => ⟨⟨(0 : Int32), rfl, trivial, xf [], xh [], xv [4, wv, ((fi 0) wv.toNatClampNeg), wv_2, wv_3], xl [wv_1], by rw [ht]; exact hP9, hD9, ⟨hi_3, trivial⟩⟩, hS.F ht⟩) hS.2.2 dX6_advance_366
                        · have c355 := xngt (k := 3) (by decide) c355
                          refine lv_iconst (v := 2) hx hb dX6_advance_358 (by decide) ?_
                          refine lv_goto (tgt := 363) hx hb dX6_advance_359 (by decide) ?_
                          refine va_put (D := D) (ci := 6) (v := .int 2) (ty := .int) (C := RX6) (T := TX6) (N := 14) hx hb htg inX6 tyX6 tyX6_ok nmX6 hown hK.1 hP hD hS 0 rfl rfl 6 (by decide) (htg _ kw_104) (fun _ h9 => h9) rfl (by decide +kernel) rfl rfl (Nat.le_of_ble_eq_true rfl) dX6_advance_363 (fun H locs hP hD hS => ?_)
                          obtain ⟨hP, hD⟩ := (show xPD D A [((a 0), .inr (6, [.ref (a 1), .ref (ex 0), .int (vi 0), .int (vi 1), .int (vi 2), .int wv_3, .int 2, .int wv, .long wv_1, .int wv_2, .int ((fi 0) wv.toNatClampNeg), .int (vi 8), .int (vi 9), .int (vi 10)])), ((a 1), .inl (T 0, 940, .inl (fi 0)))] H from ⟨hP, hD⟩)
                          have hP9 := hP.sub (ws' := [((a 0), .inr (6, [.ref (a 1), .ref (ex 0), .int (vi 0), .int (vi 1), .int (vi 2), .int wv_3, .int 2, .int wv, .long wv_1, .int wv_2, .int ((fi 0) wv.toNatClampNeg), .int (vi 8), .int (vi 9), .int (vi 10)])), ((a 1), .inl (T 0, 940, .inl (fi 0)))]) [0, 1] rfl
                          have hD9 := hD.sub (ws' := [((a 0), .inr (6, [.ref (a 1), .ref (ex 0), .int (vi 0), .int (vi 1), .int (vi 2), .int wv_3, .int 2, .int wv, .long wv_1, .int wv_2, .int ((fi 0) wv.toNatClampNeg), .int (vi 8), .int (vi 9), .int (vi 10)])), ((a 1), .inl (T 0, 940, .inl (fi 0)))]) [0, 1] (by decide +kernel) rfl
                          rw [hQ]
                          exact W.vret hx hb hr (fun t ht hW => ⟨⟨(0 : Int32), rfl, trivial, xf [], xh [], xv [2, wv, ((fi 0) wv.toNatClampNeg), wv_2, wv_3], xl [wv_1], by rw [ht]; exact hP9, hD9, ⟨hi_3, trivial⟩⟩, hS.F ht⟩) hS.2.2 dX6_advance_366
                    · have c327 := xeq (k := 0) (by decide) c327
                      refine lv_aload_n hx hb dX6_advance_330 rfl (lv_at hl 2 rfl) ?_
                      refine lv_iload_n hx hb dX6_advance_331 rfl (lv_at hl 1 rfl) ?_
                      refine lv_bipush (v := 7) hx hb dX6_advance_332 (by decide) ?_
                      refine lv_icmp_gt (tgt := 341) hx hb dX6_advance_334 (by decide) (fun c334 => ?_) (fun c334 => ?_)
                      · have c334 := xgt (k := 7) (by decide) c334
                        refine lv_iconst (v := 4) hx hb dX6_advance_341 (by decide) ?_
                        refine va_put (D := D) (ci := 6) (v := .int 4) (ty := .int) (C := RX6) (T := TX6) (N := 14) hx hb htg inX6 tyX6 tyX6_ok nmX6 hown hK.1 hP hD hS 0 rfl rfl 6 (by decide) (htg _ kw_104) (fun _ h9 => h9) rfl (by decide +kernel) rfl rfl (Nat.le_of_ble_eq_true rfl) dX6_advance_342 (fun H locs hP hD hS => ?_)
                        obtain ⟨hP, hD⟩ := (show xPD D A [((a 0), .inr (6, [.ref (a 1), .ref (ex 0), .int (vi 0), .int (vi 1), .int (vi 2), .int wv_3, .int 4, .int wv, .long wv_1, .int wv_2, .int ((fi 0) wv.toNatClampNeg), .int (vi 8), .int (vi 9), .int (vi 10)])), ((a 1), .inl (T 0, 940, .inl (fi 0)))] H from ⟨hP, hD⟩)
                        refine lv_goto (tgt := 366) hx hb dX6_advance_345 (by decide) ?_
                        have hP9 := hP.sub (ws' := [((a 0), .inr (6, [.ref (a 1), .ref (ex 0), .int (vi 0), .int (vi 1), .int (vi 2), .int wv_3, .int 4, .int wv, .long wv_1, .int wv_2, .int ((fi 0) wv.toNatClampNeg), .int (vi 8), .int (vi 9), .int (vi 10)])), ((a 1), .inl (T 0, 940, .inl (fi 0)))]) [0, 1] rfl
                        have hD9 := hD.sub (ws' := [((a 0), .inr (6, [.ref (a 1), .ref (ex 0), .int (vi 0), .int (vi 1), .int (vi 2), .int wv_3, .int 4, .int wv, .long wv_1, .int wv_2, .int ((fi 0) wv.toNatClampNeg), .int (vi 8), .int (vi 9), .int (vi 10)])), ((a 1), .inl (T 0, 940, .inl (fi 0)))]) [0, 1] (by decide +kernel) rfl
                        rw [hQ]
                        exact W.vret hx hb hr (fun t ht hW => ⟨⟨(0 : Int32), rfl, trivial, xf [], xh [], xv [4, wv, ((fi 0) wv.toNatClampNeg), wv_2, wv_3], xl [wv_1], by rw [ht]; exact hP9, hD9, ⟨hi_3, trivial⟩⟩, hS.F ht⟩) hS.2.2 dX6_advance_366
                      · have c334 := xngt (k := 7) (by decide) c334
                        refine lv_iconst (v := 1) hx hb dX6_advance_337 (by decide) ?_
                        refine lv_goto (tgt := 342) hx hb dX6_advance_338 (by decide) ?_
                        refine va_put (D := D) (ci := 6) (v := .int 1) (ty := .int) (C := RX6) (T := TX6) (N := 14) hx hb htg inX6 tyX6 tyX6_ok nmX6 hown hK.1 hP hD hS 0 rfl rfl 6 (by decide) (htg _ kw_104) (fun _ h9 => h9) rfl (by decide +kernel) rfl rfl (Nat.le_of_ble_eq_true rfl) dX6_advance_342 (fun H locs hP hD hS => ?_)
                        obtain ⟨hP, hD⟩ := (show xPD D A [((a 0), .inr (6, [.ref (a 1), .ref (ex 0), .int (vi 0), .int (vi 1), .int (vi 2), .int wv_3, .int 1, .int wv, .long wv_1, .int wv_2, .int ((fi 0) wv.toNatClampNeg), .int (vi 8), .int (vi 9), .int (vi 10)])), ((a 1), .inl (T 0, 940, .inl (fi 0)))] H from ⟨hP, hD⟩)
                        refine lv_goto (tgt := 366) hx hb dX6_advance_345 (by decide) ?_
                        have hP9 := hP.sub (ws' := [((a 0), .inr (6, [.ref (a 1), .ref (ex 0), .int (vi 0), .int (vi 1), .int (vi 2), .int wv_3, .int 1, .int wv, .long wv_1, .int wv_2, .int ((fi 0) wv.toNatClampNeg), .int (vi 8), .int (vi 9), .int (vi 10)])), ((a 1), .inl (T 0, 940, .inl (fi 0)))]) [0, 1] rfl
                        have hD9 := hD.sub (ws' := [((a 0), .inr (6, [.ref (a 1), .ref (ex 0), .int (vi 0), .int (vi 1), .int (vi 2), .int wv_3, .int 1, .int wv, .long wv_1, .int wv_2, .int ((fi 0) wv.toNatClampNeg), .int (vi 8), .int (vi 9), .int (vi 10)])), ((a 1), .inl (T 0, 940, .inl (fi 0)))]) [0, 1] (by decide +kernel) rfl
                        rw [hQ]
                        exact W.vret hx hb hr (fun t ht hW => ⟨⟨(0 : Int32), rfl, trivial, xf [], xh [], xv [1, wv, ((fi 0) wv.toNatClampNeg), wv_2, wv_3], xl [wv_1], by rw [ht]; exact hP9, hD9, ⟨hi_3, trivial⟩⟩, hS.F ht⟩) hS.2.2 dX6_advance_366
                  · have c256 := xeq (k := 0) (by decide) c256
                    refine lv_aload_n hx hb dX6_advance_259 rfl (lv_at hl 2 rfl) ?_
                    refine lv_dup hx hb dX6_advance_260 rfl ?_
                    refine va_get (D := D) (ci := 6) (v := .int wv_3) (C := RX6) (T := TX6) (N := 14) hx hb htg inX6 hown hK.1 hP 0 rfl rfl 5 (by decide) (htg _ kw_100) (fun _ h9 => h9) rfl dX6_advance_261 ?_
                    refine lv_iconst (v := 1) hx hb dX6_advance_264 (by decide) ?_
                    refine lv_iadd hx hb dX6_advance_265 ?_
                    refine lv_topi (fun z265 ez265 => ?_)
                    have tz265 : z265.toInt = wv_3.toInt + 1 := by rw [ez265]; exact xadd rfl (by decide) (by omega) (by omega)
                    refine va_put (D := D) (ci := 6) (v := .int z265) (ty := .int) (C := RX6) (T := TX6) (N := 14) hx hb htg inX6 tyX6 tyX6_ok nmX6 hown hK.1 hP hD hS 0 rfl rfl 5 (by decide) (htg _ kw_100) (fun _ h9 => h9) rfl (by decide +kernel) rfl rfl (Nat.le_of_ble_eq_true rfl) dX6_advance_266 (fun H locs hP hD hS => ?_)
                    obtain ⟨hP, hD⟩ := (show xPD D A [((a 0), .inr (6, [.ref (a 1), .ref (ex 0), .int (vi 0), .int (vi 1), .int (vi 2), .int z265, .int (vi 4), .int wv, .long wv_1, .int wv_2, .int ((fi 0) wv.toNatClampNeg), .int (vi 8), .int (vi 9), .int (vi 10)])), ((a 1), .inl (T 0, 940, .inl (fi 0)))] H from ⟨hP, hD⟩)
                    refine lv_aload_n hx hb dX6_advance_269 rfl (lv_at hl 2 rfl) ?_
                    refine lv_aload_n hx hb dX6_advance_270 rfl (lv_at hl 2 rfl) ?_
                    refine va_get (D := D) (ci := 6) (v := .int ((fi 0) wv.toNatClampNeg)) (C := RX6) (T := TX6) (N := 14) hx hb htg inX6 hown hK.1 hP 0 rfl rfl 10 (by decide) (htg _ kw_111) (fun _ h9 => h9) rfl dX6_advance_271 ?_
                    refine lv_bipush (v := 59) hx hb dX6_advance_274 (by decide) ?_
                    refine lv_icmp_eq (tgt := 315) hx hb dX6_advance_276 (by decide) (fun c276 => ?_) (fun c276 => ?_)
                    · have c276 := xeq (k := 59) (by decide) c276
                      refine lv_iconst (v := 3) hx hb dX6_advance_315 (by decide) ?_
                      refine lv_goto (tgt := 320) hx hb dX6_advance_316 (by decide) ?_
                      refine va_put (D := D) (ci := 6) (v := .int 3) (ty := .int) (C := RX6) (T := TX6) (N := 14) hx hb htg inX6 tyX6 tyX6_ok nmX6 hown hK.1 hP hD hS 0 rfl rfl 6 (by decide) (htg _ kw_104) (fun _ h9 => h9) rfl (by decide +kernel) rfl rfl (Nat.le_of_ble_eq_true rfl) dX6_advance_320 (fun H locs hP hD hS => ?_)
                      obtain ⟨hP, hD⟩ := (show xPD D A [((a 0), .inr (6, [.ref (a 1), .ref (ex 0), .int (vi 0), .int (vi 1), .int (vi 2), .int z265, .int 3, .int wv, .long wv_1, .int wv_2, .int ((fi 0) wv.toNatClampNeg), .int (vi 8), .int (vi 9), .int (vi 10)])), ((a 1), .inl (T 0, 940, .inl (fi 0)))] H from ⟨hP, hD⟩)
                      refine lv_goto (tgt := 366) hx hb dX6_advance_323 (by decide) ?_
                      have hP9 := hP.sub (ws' := [((a 0), .inr (6, [.ref (a 1), .ref (ex 0), .int (vi 0), .int (vi 1), .int (vi 2), .int z265, .int 3, .int wv, .long wv_1, .int wv_2, .int ((fi 0) wv.toNatClampNeg), .int (vi 8), .int (vi 9), .int (vi 10)])), ((a 1), .inl (T 0, 940, .inl (fi 0)))]) [0, 1] rfl
                      have hD9 := hD.sub (ws' := [((a 0), .inr (6, [.ref (a 1), .ref (ex 0), .int (vi 0), .int (vi 1), .int (vi 2), .int z265, .int 3, .int wv, .long wv_1, .int wv_2, .int ((fi 0) wv.toNatClampNeg), .int (vi 8), .int (vi 9), .int (vi 10)])), ((a 1), .inl (T 0, 940, .inl (fi 0)))]) [0, 1] (by decide +kernel) rfl
                      rw [hQ]
                      exact W.vret hx hb hr (fun t ht hW => ⟨⟨(0 : Int32), rfl, trivial, xf [], xh [], xv [3, wv, ((fi 0) wv.toNatClampNeg), wv_2, z265], xl [wv_1], by rw [ht]; exact hP9, hD9, ⟨(by show 0 ≤ z265.toInt ∧ z265.toInt ≤ 940; omega), trivial⟩⟩, hS.F ht⟩) hS.2.2 dX6_advance_366
                    · have c276 := xne (k := 59) (by decide) c276
                      refine lv_aload_n hx hb dX6_advance_279 rfl (lv_at hl 2 rfl) ?_
                      refine va_get (D := D) (ci := 6) (v := .int ((fi 0) wv.toNatClampNeg)) (C := RX6) (T := TX6) (N := 14) hx hb htg inX6 hown hK.1 hP 0 rfl rfl 10 (by decide) (htg _ kw_111) (fun _ h9 => h9) rfl dX6_advance_280 ?_
                      refine lv_bipush (v := 40) hx hb dX6_advance_283 (by decide) ?_
                      refine lv_icmp_eq (tgt := 315) hx hb dX6_advance_285 (by decide) (fun c285 => ?_) (fun c285 => ?_)
                      · have c285 := xeq (k := 40) (by decide) c285
                        refine lv_iconst (v := 3) hx hb dX6_advance_315 (by decide) ?_
                        refine lv_goto (tgt := 320) hx hb dX6_advance_316 (by decide) ?_
                        refine va_put (D := D) (ci := 6) (v := .int 3) (ty := .int) (C := RX6) (T := TX6) (N := 14) hx hb htg inX6 tyX6 tyX6_ok nmX6 hown hK.1 hP hD hS 0 rfl rfl 6 (by decide) (htg _ kw_104) (fun _ h9 => h9) rfl (by decide +kernel) rfl rfl (Nat.le_of_ble_eq_true rfl) dX6_advance_320 (fun H locs hP hD hS => ?_)
                        obtain ⟨hP, hD⟩ := (show xPD D A [((a 0), .inr (6, [.ref (a 1), .ref (ex 0), .int (vi 0), .int (vi 1), .int (vi 2), .int z265, .int 3, .int wv, .long wv_1, .int wv_2, .int ((fi 0) wv.toNatClampNeg), .int (vi 8), .int (vi 9), .int (vi 10)])), ((a 1), .inl (T 0, 940, .inl (fi 0)))] H from ⟨hP, hD⟩)
                        refine lv_goto (tgt := 366) hx hb dX6_advance_323 (by decide) ?_
                        have hP9 := hP.sub (ws' := [((a 0), .inr (6, [.ref (a 1), .ref (ex 0), .int (vi 0), .int (vi 1), .int (vi 2), .int z265, .int 3, .int wv, .long wv_1, .int wv_2, .int ((fi 0) wv.toNatClampNeg), .int (vi 8), .int (vi 9), .int (vi 10)])), ((a 1), .inl (T 0, 940, .inl (fi 0)))]) [0, 1] rfl
                        have hD9 := hD.sub (ws' := [((a 0), .inr (6, [.ref (a 1), .ref (ex 0), .int (vi 0), .int (vi 1), .int (vi 2), .int z265, .int 3, .int wv, .long wv_1, .int wv_2, .int ((fi 0) wv.toNatClampNeg), .int (vi 8), .int (vi 9), .int (vi 10)])), ((a 1), .inl (T 0, 940, .inl (fi 0)))]) [0, 1] (by decide +kernel) rfl
                        rw [hQ]
                        exact W.vret hx hb hr (fun t ht hW => ⟨⟨(0 : Int32), rfl, trivial, xf [], xh [], xv [3, wv, ((fi 0) wv.toNatClampNeg), wv_2, z265], xl [wv_1], by rw [ht]; exact hP9, hD9, ⟨(by show 0 ≤ z265.toInt ∧ z265.toInt ≤ 940; omega), trivial⟩⟩, hS.F ht⟩) hS.2.2 dX6_advance_366
                      · have c285 := xne (k := 40) (by decide) c285
                        refine lv_aload_n hx hb dX6_advance_288 rfl (lv_at hl 2 rfl) ?_
                        refine va_get (D := D) (ci := 6) (v := .int ((fi 0) wv.toNatClampNeg)) (C := RX6) (T := TX6) (N := 14) hx hb htg inX6 hown hK.1 hP 0 rfl rfl 10 (by decide) (htg _ kw_111) (fun _ h9 => h9) rfl dX6_advance_289 ?_
                        refine lv_bipush (v := 41) hx hb dX6_advance_292 (by decide) ?_
                        refine lv_icmp_eq (tgt := 315) hx hb dX6_advance_294 (by decide) (fun c294 => ?_) (fun c294 => ?_)
                        · have c294 := xeq (k := 41) (by decide) c294
                          refine lv_iconst (v := 3) hx hb dX6_advance_315 (by decide) ?_
                          refine lv_goto (tgt := 320) hx hb dX6_advance_316 (by decide) ?_
                          refine va_put (D := D) (ci := 6) (v := .int 3) (ty := .int) (C := RX6) (T := TX6) (N := 14) hx hb htg inX6 tyX6 tyX6_ok nmX6 hown hK.1 hP hD hS 0 rfl rfl 6 (by decide) (htg _ kw_104) (fun _ h9 => h9) rfl (by decide +kernel) rfl rfl (Nat.le_of_ble_eq_true rfl) dX6_advance_320 (fun H locs hP hD hS => ?_)
                          obtain ⟨hP, hD⟩ := (show xPD D A [((a 0), .inr (6, [.ref (a 1), .ref (ex 0), .int (vi 0), .int (vi 1), .int (vi 2), .int z265, .int 3, .int wv, .long wv_1, .int wv_2, .int ((fi 0) wv.toNatClampNeg), .int (vi 8), .int (vi 9), .int (vi 10)])), ((a 1), .inl (T 0, 940, .inl (fi 0)))] H from ⟨hP, hD⟩)
                          refine lv_goto (tgt := 366) hx hb dX6_advance_323 (by decide) ?_
                          have hP9 := hP.sub (ws' := [((a 0), .inr (6, [.ref (a 1), .ref (ex 0), .int (vi 0), .int (vi 1), .int (vi 2), .int z265, .int 3, .int wv, .long wv_1, .int wv_2, .int ((fi 0) wv.toNatClampNeg), .int (vi 8), .int (vi 9), .int (vi 10)])), ((a 1), .inl (T 0, 940, .inl (fi 0)))]) [0, 1] rfl
                          have hD9 := hD.sub (ws' := [((a 0), .inr (6, [.ref (a 1), .ref (ex 0), .int (vi 0), .int (vi 1), .int (vi 2), .int z265, .int 3, .int wv, .long wv_1, .int wv_2, .int ((fi 0) wv.toNatClampNeg), .int (vi 8), .int (vi 9), .int (vi 10)])), ((a 1), .inl (T 0, 940, .inl (fi 0)))]) [0, 1] (by decide +kernel) rfl
                          rw [hQ]
                          exact W.vret hx hb hr (fun t ht hW => ⟨⟨(0 : Int32), rfl, trivial, xf [], xh [], xv [3, wv, ((fi 0) wv.toNatClampNeg), wv_2, z265], xl [wv_1], by rw [ht]; exact hP9, hD9, ⟨(by show 0 ≤ z265.toInt ∧ z265.toInt ≤ 940; omega), trivial⟩⟩, hS.F ht⟩) hS.2.2 dX6_advance_366
                        · have c294 := xne (k := 41) (by decide) c294
                          refine lv_aload_n hx hb dX6_advance_297 rfl (lv_at hl 2 rfl) ?_
                          refine va_get (D := D) (ci := 6) (v := .int ((fi 0) wv.toNatClampNeg)) (C := RX6) (T := TX6) (N := 14) hx hb htg inX6 hown hK.1 hP 0 rfl rfl 10 (by decide) (htg _ kw_111) (fun _ h9 => h9) rfl dX6_advance_298 ?_
                          refine lv_bipush (v := 60) hx hb dX6_advance_301 (by decide) ?_
                          refine lv_icmp_lt (tgt := 319) hx hb dX6_advance_303 (by decide) (fun c303 => ?_) (fun c303 => ?_)
                          · have c303 := xlt (k := 60) (by decide) c303
                            refine lv_iconst (v := 4) hx hb dX6_advance_319 (by decide) ?_
                            refine va_put (D := D) (ci := 6) (v := .int 4) (ty := .int) (C := RX6) (T := TX6) (N := 14) hx hb htg inX6 tyX6 tyX6_ok nmX6 hown hK.1 hP hD hS 0 rfl rfl 6 (by decide) (htg _ kw_104) (fun _ h9 => h9) rfl (by decide +kernel) rfl rfl (Nat.le_of_ble_eq_true rfl) dX6_advance_320 (fun H locs hP hD hS => ?_)
                            obtain ⟨hP, hD⟩ := (show xPD D A [((a 0), .inr (6, [.ref (a 1), .ref (ex 0), .int (vi 0), .int (vi 1), .int (vi 2), .int z265, .int 4, .int wv, .long wv_1, .int wv_2, .int ((fi 0) wv.toNatClampNeg), .int (vi 8), .int (vi 9), .int (vi 10)])), ((a 1), .inl (T 0, 940, .inl (fi 0)))] H from ⟨hP, hD⟩)
                            refine lv_goto (tgt := 366) hx hb dX6_advance_323 (by decide) ?_
                            have hP9 := hP.sub (ws' := [((a 0), .inr (6, [.ref (a 1), .ref (ex 0), .int (vi 0), .int (vi 1), .int (vi 2), .int z265, .int 4, .int wv, .long wv_1, .int wv_2, .int ((fi 0) wv.toNatClampNeg), .int (vi 8), .int (vi 9), .int (vi 10)])), ((a 1), .inl (T 0, 940, .inl (fi 0)))]) [0, 1] rfl
                            have hD9 := hD.sub (ws' := [((a 0), .inr (6, [.ref (a 1), .ref (ex 0), .int (vi 0), .int (vi 1), .int (vi 2), .int z265, .int 4, .int wv, .long wv_1, .int wv_2, .int ((fi 0) wv.toNatClampNeg), .int (vi 8), .int (vi 9), .int (vi 10)])), ((a 1), .inl (T 0, 940, .inl (fi 0)))]) [0, 1] (by decide +kernel) rfl
                            rw [hQ]
                            exact W.vret hx hb hr (fun t ht hW => ⟨⟨(0 : Int32), rfl, trivial, xf [], xh [], xv [4, wv, ((fi 0) wv.toNatClampNeg), wv_2, z265], xl [wv_1], by rw [ht]; exact hP9, hD9, ⟨(by show 0 ≤ z265.toInt ∧ z265.toInt ≤ 940; omega), trivial⟩⟩, hS.F ht⟩) hS.2.2 dX6_advance_366
                          · have c303 := xnlt (k := 60) (by decide) c303
                            refine lv_aload_n hx hb dX6_advance_306 rfl (lv_at hl 2 rfl) ?_
                            refine va_get (D := D) (ci := 6) (v := .int ((fi 0) wv.toNatClampNeg)) (C := RX6) (T := TX6) (N := 14) hx hb htg inX6 hown hK.1 hP 0 rfl rfl 10 (by decide) (htg _ kw_111) (fun _ h9 => h9) rfl dX6_advance_307 ?_
                            refine lv_bipush (v := 62) hx hb dX6_advance_310 (by decide) ?_
                            refine lv_icmp_gt (tgt := 319) hx hb dX6_advance_312 (by decide) (fun c312 => ?_) (fun c312 => ?_)
                            · have c312 := xgt (k := 62) (by decide) c312
                              refine lv_iconst (v := 4) hx hb dX6_advance_319 (by decide) ?_
                              refine va_put (D := D) (ci := 6) (v := .int 4) (ty := .int) (C := RX6) (T := TX6) (N := 14) hx hb htg inX6 tyX6 tyX6_ok nmX6 hown hK.1 hP hD hS 0 rfl rfl 6 (by decide) (htg _ kw_104) (fun _ h9 => h9) rfl (by decide +kernel) rfl rfl (Nat.le_of_ble_eq_true rfl) dX6_advance_320 (fun H locs hP hD hS => ?_)
                              obtain ⟨hP, hD⟩ := (show xPD D A [((a 0), .inr (6, [.ref (a 1), .ref (ex 0), .int (vi 0), .int (vi 1), .int (vi 2), .int z265, .int 4, .int wv, .long wv_1, .int wv_2, .int ((fi 0) wv.toNatClampNeg), .int (vi 8), .int (vi 9), .int (vi 10)])), ((a 1), .inl (T 0, 940, .inl (fi 0)))] H from ⟨hP, hD⟩)
                              refine lv_goto (tgt := 366) hx hb dX6_advance_323 (by decide) ?_
                              have hP9 := hP.sub (ws' := [((a 0), .inr (6, [.ref (a 1), .ref (ex 0), .int (vi 0), .int (vi 1), .int (vi 2), .int z265, .int 4, .int wv, .long wv_1, .int wv_2, .int ((fi 0) wv.toNatClampNeg), .int (vi 8), .int (vi 9), .int (vi 10)])), ((a 1), .inl (T 0, 940, .inl (fi 0)))]) [0, 1] rfl
                              have hD9 := hD.sub (ws' := [((a 0), .inr (6, [.ref (a 1), .ref (ex 0), .int (vi 0), .int (vi 1), .int (vi 2), .int z265, .int 4, .int wv, .long wv_1, .int wv_2, .int ((fi 0) wv.toNatClampNeg), .int (vi 8), .int (vi 9), .int (vi 10)])), ((a 1), .inl (T 0, 940, .inl (fi 0)))]) [0, 1] (by decide +kernel) rfl
                              rw [hQ]
                              exact W.vret hx hb hr (fun t ht hW => ⟨⟨(0 : Int32), rfl, trivial, xf [], xh [], xv [4, wv, ((fi 0) wv.toNatClampNeg), wv_2, z265], xl [wv_1], by rw [ht]; exact hP9, hD9, ⟨(by show 0 ≤ z265.toInt ∧ z265.toInt ≤ 940; omega), trivial⟩⟩, hS.F ht⟩) hS.2.2 dX6_advance_366
                            · have c312 := xngt (k := 62) (by decide) c312
                              refine lv_iconst (v := 3) hx hb dX6_advance_315 (by decide) ?_
                              refine lv_goto (tgt := 320) hx hb dX6_advance_316 (by decide) ?_
                              refine va_put (D := D) (ci := 6) (v := .int 3) (ty := .int) (C := RX6) (T := TX6) (N := 14) hx hb htg inX6 tyX6 tyX6_ok nmX6 hown hK.1 hP hD hS 0 rfl rfl 6 (by decide) (htg _ kw_104) (fun _ h9 => h9) rfl (by decide +kernel) rfl rfl (Nat.le_of_ble_eq_true rfl) dX6_advance_320 (fun H locs hP hD hS => ?_)
                              obtain ⟨hP, hD⟩ := (show xPD D A [((a 0), .inr (6, [.ref (a 1), .ref (ex 0), .int (vi 0), .int (vi 1), .int (vi 2), .int z265, .int 3, .int wv, .long wv_1, .int wv_2, .int ((fi 0) wv.toNatClampNeg), .int (vi 8), .int (vi 9), .int (vi 10)])), ((a 1), .inl (T 0, 940, .inl (fi 0)))] H from ⟨hP, hD⟩)
                              refine lv_goto (tgt := 366) hx hb dX6_advance_323 (by decide) ?_
                              have hP9 := hP.sub (ws' := [((a 0), .inr (6, [.ref (a 1), .ref (ex 0), .int (vi 0), .int (vi 1), .int (vi 2), .int z265, .int 3, .int wv, .long wv_1, .int wv_2, .int ((fi 0) wv.toNatClampNeg), .int (vi 8), .int (vi 9), .int (vi 10)])), ((a 1), .inl (T 0, 940, .inl (fi 0)))]) [0, 1] rfl
                              have hD9 := hD.sub (ws' := [((a 0), .inr (6, [.ref (a 1), .ref (ex 0), .int (vi 0), .int (vi 1), .int (vi 2), .int z265, .int 3, .int wv, .long wv_1, .int wv_2, .int ((fi 0) wv.toNatClampNeg), .int (vi 8), .int (vi 9), .int (vi 10)])), ((a 1), .inl (T 0, 940, .inl (fi 0)))]) [0, 1] (by decide +kernel) rfl
                              rw [hQ]
                              exact W.vret hx hb hr (fun t ht hW => ⟨⟨(0 : Int32), rfl, trivial, xf [], xh [], xv [3, wv, ((fi 0) wv.toNatClampNeg), wv_2, z265], xl [wv_1], by rw [ht]; exact hP9, hD9, ⟨(by show 0 ≤ z265.toInt ∧ z265.toInt ≤ 940; omega), trivial⟩⟩, hS.F ht⟩) hS.2.2 dX6_advance_366
                · have c164 := (mt Int32.le_iff_toInt_le.mpr c164)
                  have rc164 := xrng wv_3; have qc164 := xrng (vi 1)
                  refine lv_aload_n hx hb dX6_advance_167 rfl (lv_at hl 2 rfl) ?_
                  refine va_get (D := D) (ci := 6) (v := .ref (a 1)) (C := RX6) (T := TX6) (N := 14) hx hb htg inX6 hown hK.1 hP 0 rfl rfl 0 (by decide) (htg _ kw_94) (fun _ h9 => h9) rfl dX6_advance_168 ?_
                  refine lv_aload_n hx hb dX6_advance_171 rfl (lv_at hl 2 rfl) ?_
                  refine va_get (D := D) (ci := 6) (v := .int wv_3) (C := RX6) (T := TX6) (N := 14) hx hb htg inX6 hown hK.1 hP 0 rfl rfl 5 (by decide) (htg _ kw_100) (fun _ h9 => h9) rfl dX6_advance_172 ?_
                  refine va_bald hx hb hK.1 hP 1 0 rfl rfl (vp_in_iff.mpr (by omega)) dX6_advance_175 ?_
                  refine lv_istore_n (lv' := [(3, .int ((fi 0) wv_3.toNatClampNeg)), (2, .int w2), (1, .int w1), (0, .ref (a 0))]) hx hb dX6_advance_176 rfl hl (by decide) rfl (fun ls hl => ?_)
                  refine lv_iload_n hx hb dX6_advance_177 rfl (lv_at hl 0 rfl) ?_
                  refine lv_bipush (v := 97) hx hb dX6_advance_178 (by decide) ?_
                  refine lv_icmp_lt (tgt := 209) hx hb dX6_advance_180 (by decide) (fun c180 => ?_) (fun c180 => ?_)
                  · have c180 := xlt (k := 97) (by decide) c180
                    refine lv_iload_n hx hb dX6_advance_209 rfl (lv_at hl 0 rfl) ?_
                    refine lv_bipush (v := 48) hx hb dX6_advance_210 (by decide) ?_
                    refine lv_icmp_lt (tgt := 253) hx hb dX6_advance_212 (by decide) (fun c212 => ?_) (fun c212 => ?_)
                    · have c212 := xlt (k := 48) (by decide) c212
                      refine lv_iload_n hx hb dX6_advance_253 rfl (lv_at hl 2 rfl) ?_
                      refine lv_iload_n hx hb dX6_advance_254 rfl (lv_at hl 1 rfl) ?_
                      refine lv_iadd hx hb dX6_advance_255 ?_
                      refine lv_topi (fun z255_1 ez255_1 => ?_)
                      have tz255_1 : z255_1.toInt = w1.toInt + w2.toInt := by rw [ez255_1]; exact xadd rfl rfl (by omega) (by omega)
                      refine lv_if_ne (tgt := 326) hx hb dX6_advance_256 (by decide) (fun c256_1 => ?_) (fun c256_1 => ?_)
                      · have c256_1 := xne (k := 0) (by decide) c256_1
                        refine lv_iload_n hx hb dX6_advance_326 rfl (lv_at hl 1 rfl) ?_
                        refine lv_if_ne (tgt := 348) hx hb dX6_advance_327 (by decide) (fun c327_1 => ?_) (fun c327_1 => ?_)
                        · have c327_1 := xne (k := 0) (by decide) c327_1
                          refine lv_aload_n hx hb dX6_advance_348 rfl (lv_at hl 3 rfl) ?_
                          refine lv_iload_n hx hb dX6_advance_349 rfl (lv_at hl 2 rfl) ?_
                          refine lv_if_ne (tgt := 362) hx hb dX6_advance_350 (by decide) (fun c350_1 => ?_) (fun c350_1 => ?_)
                          · have c350_1 := xne (k := 0) (by decide) c350_1
                            refine lv_iconst (v := 4) hx hb dX6_advance_362 (by decide) ?_
                            refine va_put (D := D) (ci := 6) (v := .int 4) (ty := .int) (C := RX6) (T := TX6) (N := 14) hx hb htg inX6 tyX6 tyX6_ok nmX6 hown hK.1 hP hD hS 0 rfl rfl 6 (by decide) (htg _ kw_104) (fun _ h9 => h9) rfl (by decide +kernel) rfl rfl (Nat.le_of_ble_eq_true rfl) dX6_advance_363 (fun H locs hP hD hS => ?_)
                            obtain ⟨hP, hD⟩ := (show xPD D A [((a 0), .inr (6, [.ref (a 1), .ref (ex 0), .int (vi 0), .int (vi 1), .int (vi 2), .int wv_3, .int 4, .int wv, .long wv_1, .int wv_2, .int ((fi 0) wv.toNatClampNeg), .int (vi 8), .int (vi 9), .int (vi 10)])), ((a 1), .inl (T 0, 940, .inl (fi 0)))] H from ⟨hP, hD⟩)
                            have hP9 := hP.sub (ws' := [((a 0), .inr (6, [.ref (a 1), .ref (ex 0), .int (vi 0), .int (vi 1), .int (vi 2), .int wv_3, .int 4, .int wv, .long wv_1, .int wv_2, .int ((fi 0) wv.toNatClampNeg), .int (vi 8), .int (vi 9), .int (vi 10)])), ((a 1), .inl (T 0, 940, .inl (fi 0)))]) [0, 1] rfl
                            have hD9 := hD.sub (ws' := [((a 0), .inr (6, [.ref (a 1), .ref (ex 0), .int (vi 0), .int (vi 1), .int (vi 2), .int wv_3, .int 4, .int wv, .long wv_1, .int wv_2, .int ((fi 0) wv.toNatClampNeg), .int (vi 8), .int (vi 9), .int (vi 10)])), ((a 1), .inl (T 0, 940, .inl (fi 0)))]) [0, 1] (by decide +kernel) rfl
                            rw [hQ]
                            exact W.vret hx hb hr (fun t ht hW => ⟨⟨(0 : Int32), rfl, trivial, xf [], xh [], xv [4, wv, ((fi 0) wv.toNatClampNeg), wv_2, wv_3], xl [wv_1], by rw [ht]; exact hP9, hD9, ⟨hi_3, trivial⟩⟩, hS.F ht⟩) hS.2.2 dX6_advance_366
                          · have c350_1 := xeq (k := 0) (by decide) c350_1
                            refine lv_iload_n hx hb dX6_advance_353 rfl (lv_at hl 1 rfl) ?_
                            refine lv_iconst (v := 3) hx hb dX6_advance_354 (by decide) ?_
                            refine lv_icmp_gt (tgt := 362) hx hb dX6_advance_355 (by decide) (fun c355_1 => ?_) (fun c355_1 => ?_)
                            · have c355_1 := xgt (k := 3) (by decide) c355_1
                              refine lv_iconst (v := 4) hx hb dX6_advance_362 (by decide) ?_
                              refine va_put (D := D) (ci := 6) (v := .int 4) (ty := .int) (C := RX6) (T := TX6) (N := 14) hx hb htg inX6 tyX6 tyX6_ok nmX6 hown hK.1 hP hD hS 0 rfl rfl 6 (by decide) (htg _ kw_104) (fun _ h9 => h9) rfl (by decide +kernel) rfl rfl (Nat.le_of_ble_eq_true rfl) dX6_advance_363 (fun H locs hP hD hS => ?_)
                              obtain ⟨hP, hD⟩ := (show xPD D A [((a 0), .inr (6, [.ref (a 1), .ref (ex 0), .int (vi 0), .int (vi 1), .int (vi 2), .int wv_3, .int 4, .int wv, .long wv_1, .int wv_2, .int ((fi 0) wv.toNatClampNeg), .int (vi 8), .int (vi 9), .int (vi 10)])), ((a 1), .inl (T 0, 940, .inl (fi 0)))] H from ⟨hP, hD⟩)
                              have hP9 := hP.sub (ws' := [((a 0), .inr (6, [.ref (a 1), .ref (ex 0), .int (vi 0), .int (vi 1), .int (vi 2), .int wv_3, .int 4, .int wv, .long wv_1, .int wv_2, .int ((fi 0) wv.toNatClampNeg), .int (vi 8), .int (vi 9), .int (vi 10)])), ((a 1), .inl (T 0, 940, .inl (fi 0)))]) [0, 1] rfl
                              have hD9 := hD.sub (ws' := [((a 0), .inr (6, [.ref (a 1), .ref (ex 0), .int (vi 0), .int (vi 1), .int (vi 2), .int wv_3, .int 4, .int wv, .long wv_1, .int wv_2, .int ((fi 0) wv.toNatClampNeg), .int (vi 8), .int (vi 9), .int (vi 10)])), ((a 1), .inl (T 0, 940, .inl (fi 0)))]) [0, 1] (by decide +kernel) rfl
                              rw [hQ]
                              exact W.vret hx hb hr (fun t ht hW => ⟨⟨(0 : Int32), rfl, trivial, xf [], xh [], xv [4, wv, ((fi 0) wv.toNatClampNeg), wv_2, wv_3], xl [wv_1], by rw [ht]; exact hP9, hD9, ⟨hi_3, trivial⟩⟩, hS.F ht⟩) hS.2.2 dX6_advance_366
                            · have c355_1 := xngt (k := 3) (by decide) c355_1
                              refine lv_iconst (v := 2) hx hb dX6_advance_358 (by decide) ?_
                              refine lv_goto (tgt := 363) hx hb dX6_advance_359 (by decide) ?_
                              refine va_put (D := D) (ci := 6) (v := .int 2) (ty := .int) (C := RX6) (T := TX6) (N := 14) hx hb htg inX6 tyX6 tyX6_ok nmX6 hown hK.1 hP hD hS 0 rfl rfl 6 (by decide) (htg _ kw_104) (fun _ h9 => h9) rfl (by decide +kernel) rfl rfl (Nat.le_of_ble_eq_true rfl) dX6_advance_363 (fun H locs hP hD hS => ?_)
                              obtain ⟨hP, hD⟩ := (show xPD D A [((a 0), .inr (6, [.ref (a 1), .ref (ex 0), .int (vi 0), .int (vi 1), .int (vi 2), .int wv_3, .int 2, .int wv, .long wv_1, .int wv_2, .int ((fi 0) wv.toNatClampNeg), .int (vi 8), .int (vi 9), .int (vi 10)])), ((a 1), .inl (T 0, 940, .inl (fi 0)))] H from ⟨hP, hD⟩)
                              have hP9 := hP.sub (ws' := [((a 0), .inr (6, [.ref (a 1), .ref (ex 0), .int (vi 0), .int (vi 1), .int (vi 2), .int wv_3, .int 2, .int wv, .long wv_1, .int wv_2, .int ((fi 0) wv.toNatClampNeg), .int (vi 8), .int (vi 9), .int (vi 10)])), ((a 1), .inl (T 0, 940, .inl (fi 0)))]) [0, 1] rfl
                              have hD9 := hD.sub (ws' := [((a 0), .inr (6, [.ref (a 1), .ref (ex 0), .int (vi 0), .int (vi 1), .int (vi 2), .int wv_3, .int 2, .int wv, .long wv_1, .int wv_2, .int ((fi 0) wv.toNatClampNeg), .int (vi 8), .int (vi 9), .int (vi 10)])), ((a 1), .inl (T 0, 940, .inl (fi 0)))]) [0, 1] (by decide +kernel) rfl
                              rw [hQ]
                              exact W.vret hx hb hr (fun t ht hW => ⟨⟨(0 : Int32), rfl, trivial, xf [], xh [], xv [2, wv, ((fi 0) wv.toNatClampNeg), wv_2, wv_3], xl [wv_1], by rw [ht]; exact hP9, hD9, ⟨hi_3, trivial⟩⟩, hS.F ht⟩) hS.2.2 dX6_advance_366
                        · have c327_1 := xeq (k := 0) (by decide) c327_1
                          refine lv_aload_n hx hb dX6_advance_330 rfl (lv_at hl 3 rfl) ?_
                          refine lv_iload_n hx hb dX6_advance_331 rfl (lv_at hl 2 rfl) ?_
                          refine lv_bipush (v := 7) hx hb dX6_advance_332 (by decide) ?_
                          refine lv_icmp_gt (tgt := 341) hx hb dX6_advance_334 (by decide) (fun c334_1 => ?_) (fun c334_1 => ?_)
                          · have c334_1 := xgt (k := 7) (by decide) c334_1
                            refine lv_iconst (v := 4) hx hb dX6_advance_341 (by decide) ?_
                            refine va_put (D := D) (ci := 6) (v := .int 4) (ty := .int) (C := RX6) (T := TX6) (N := 14) hx hb htg inX6 tyX6 tyX6_ok nmX6 hown hK.1 hP hD hS 0 rfl rfl 6 (by decide) (htg _ kw_104) (fun _ h9 => h9) rfl (by decide +kernel) rfl rfl (Nat.le_of_ble_eq_true rfl) dX6_advance_342 (fun H locs hP hD hS => ?_)
                            obtain ⟨hP, hD⟩ := (show xPD D A [((a 0), .inr (6, [.ref (a 1), .ref (ex 0), .int (vi 0), .int (vi 1), .int (vi 2), .int wv_3, .int 4, .int wv, .long wv_1, .int wv_2, .int ((fi 0) wv.toNatClampNeg), .int (vi 8), .int (vi 9), .int (vi 10)])), ((a 1), .inl (T 0, 940, .inl (fi 0)))] H from ⟨hP, hD⟩)
                            refine lv_goto (tgt := 366) hx hb dX6_advance_345 (by decide) ?_
                            have hP9 := hP.sub (ws' := [((a 0), .inr (6, [.ref (a 1), .ref (ex 0), .int (vi 0), .int (vi 1), .int (vi 2), .int wv_3, .int 4, .int wv, .long wv_1, .int wv_2, .int ((fi 0) wv.toNatClampNeg), .int (vi 8), .int (vi 9), .int (vi 10)])), ((a 1), .inl (T 0, 940, .inl (fi 0)))]) [0, 1] rfl
                            have hD9 := hD.sub (ws' := [((a 0), .inr (6, [.ref (a 1), .ref (ex 0), .int (vi 0), .int (vi 1), .int (vi 2), .int wv_3, .int 4, .int wv, .long wv_1, .int wv_2, .int ((fi 0) wv.toNatClampNeg), .int (vi 8), .int (vi 9), .int (vi 10)])), ((a 1), .inl (T 0, 940, .inl (fi 0)))]) [0, 1] (by decide +kernel) rfl
                            rw [hQ]
                            exact W.vret hx hb hr (fun t ht hW => ⟨⟨(0 : Int32), rfl, trivial, xf [], xh [], xv [4, wv, ((fi 0) wv.toNatClampNeg), wv_2, wv_3], xl [wv_1], by rw [ht]; exact hP9, hD9, ⟨hi_3, trivial⟩⟩, hS.F ht⟩) hS.2.2 dX6_advance_366
                          · have c334_1 := xngt (k := 7) (by decide) c334_1
                            refine lv_iconst (v := 1) hx hb dX6_advance_337 (by decide) ?_
                            refine lv_goto (tgt := 342) hx hb dX6_advance_338 (by decide) ?_
                            refine va_put (D := D) (ci := 6) (v := .int 1) (ty := .int) (C := RX6) (T := TX6) (N := 14) hx hb htg inX6 tyX6 tyX6_ok nmX6 hown hK.1 hP hD hS 0 rfl rfl 6 (by decide) (htg _ kw_104) (fun _ h9 => h9) rfl (by decide +kernel) rfl rfl (Nat.le_of_ble_eq_true rfl) dX6_advance_342 (fun H locs hP hD hS => ?_)
                            obtain ⟨hP, hD⟩ := (show xPD D A [((a 0), .inr (6, [.ref (a 1), .ref (ex 0), .int (vi 0), .int (vi 1), .int (vi 2), .int wv_3, .int 1, .int wv, .long wv_1, .int wv_2, .int ((fi 0) wv.toNatClampNeg), .int (vi 8), .int (vi 9), .int (vi 10)])), ((a 1), .inl (T 0, 940, .inl (fi 0)))] H from ⟨hP, hD⟩)
                            refine lv_goto (tgt := 366) hx hb dX6_advance_345 (by decide) ?_
                            have hP9 := hP.sub (ws' := [((a 0), .inr (6, [.ref (a 1), .ref (ex 0), .int (vi 0), .int (vi 1), .int (vi 2), .int wv_3, .int 1, .int wv, .long wv_1, .int wv_2, .int ((fi 0) wv.toNatClampNeg), .int (vi 8), .int (vi 9), .int (vi 10)])), ((a 1), .inl (T 0, 940, .inl (fi 0)))]) [0, 1] rfl
                            have hD9 := hD.sub (ws' := [((a 0), .inr (6, [.ref (a 1), .ref (ex 0), .int (vi 0), .int (vi 1), .int (vi 2), .int wv_3, .int 1, .int wv, .long wv_1, .int wv_2, .int ((fi 0) wv.toNatClampNeg), .int (vi 8), .int (vi 9), .int (vi 10)])), ((a 1), .inl (T 0, 940, .inl (fi 0)))]) [0, 1] (by decide +kernel) rfl
                            rw [hQ]
                            exact W.vret hx hb hr (fun t ht hW => ⟨⟨(0 : Int32), rfl, trivial, xf [], xh [], xv [1, wv, ((fi 0) wv.toNatClampNeg), wv_2, wv_3], xl [wv_1], by rw [ht]; exact hP9, hD9, ⟨hi_3, trivial⟩⟩, hS.F ht⟩) hS.2.2 dX6_advance_366
                      · have c256_1 := xeq (k := 0) (by decide) c256_1
                        refine lv_aload_n hx hb dX6_advance_259 rfl (lv_at hl 3 rfl) ?_
                        refine lv_dup hx hb dX6_advance_260 rfl ?_
                        refine va_get (D := D) (ci := 6) (v := .int wv_3) (C := RX6) (T := TX6) (N := 14) hx hb htg inX6 hown hK.1 hP 0 rfl rfl 5 (by decide) (htg _ kw_100) (fun _ h9 => h9) rfl dX6_advance_261 ?_
                        refine lv_iconst (v := 1) hx hb dX6_advance_264 (by decide) ?_
                        refine lv_iadd hx hb dX6_advance_265 ?_
                        refine lv_topi (fun z265_1 ez265_1 => ?_)
                        have tz265_1 : z265_1.toInt = wv_3.toInt + 1 := by rw [ez265_1]; exact xadd rfl (by decide) (by omega) (by omega)
                        refine va_put (D := D) (ci := 6) (v := .int z265_1) (ty := .int) (C := RX6) (T := TX6) (N := 14) hx hb htg inX6 tyX6 tyX6_ok nmX6 hown hK.1 hP hD hS 0 rfl rfl 5 (by decide) (htg _ kw_100) (fun _ h9 => h9) rfl (by decide +kernel) rfl rfl (Nat.le_of_ble_eq_true rfl) dX6_advance_266 (fun H locs hP hD hS => ?_)
                        obtain ⟨hP, hD⟩ := (show xPD D A [((a 0), .inr (6, [.ref (a 1), .ref (ex 0), .int (vi 0), .int (vi 1), .int (vi 2), .int z265_1, .int (vi 4), .int wv, .long wv_1, .int wv_2, .int ((fi 0) wv.toNatClampNeg), .int (vi 8), .int (vi 9), .int (vi 10)])), ((a 1), .inl (T 0, 940, .inl (fi 0)))] H from ⟨hP, hD⟩)
                        refine lv_aload_n hx hb dX6_advance_269 rfl (lv_at hl 3 rfl) ?_
                        refine lv_aload_n hx hb dX6_advance_270 rfl (lv_at hl 3 rfl) ?_
                        refine va_get (D := D) (ci := 6) (v := .int ((fi 0) wv.toNatClampNeg)) (C := RX6) (T := TX6) (N := 14) hx hb htg inX6 hown hK.1 hP 0 rfl rfl 10 (by decide) (htg _ kw_111) (fun _ h9 => h9) rfl dX6_advance_271 ?_
                        refine lv_bipush (v := 59) hx hb dX6_advance_274 (by decide) ?_
                        refine lv_icmp_eq (tgt := 315) hx hb dX6_advance_276 (by decide) (fun c276_1 => ?_) (fun c276_1 => ?_)
                        · have c276_1 := xeq (k := 59) (by decide) c276_1
                          refine lv_iconst (v := 3) hx hb dX6_advance_315 (by decide) ?_
                          refine lv_goto (tgt := 320) hx hb dX6_advance_316 (by decide) ?_
                          refine va_put (D := D) (ci := 6) (v := .int 3) (ty := .int) (C := RX6) (T := TX6) (N := 14) hx hb htg inX6 tyX6 tyX6_ok nmX6 hown hK.1 hP hD hS 0 rfl rfl 6 (by decide) (htg _ kw_104) (fun _ h9 => h9) rfl (by decide +kernel) rfl rfl (Nat.le_of_ble_eq_true rfl) dX6_advance_320 (fun H locs hP hD hS => ?_)
                          obtain ⟨hP, hD⟩ := (show xPD D A [((a 0), .inr (6, [.ref (a 1), .ref (ex 0), .int (vi 0), .int (vi 1), .int (vi 2), .int z265_1, .int 3, .int wv, .long wv_1, .int wv_2, .int ((fi 0) wv.toNatClampNeg), .int (vi 8), .int (vi 9), .int (vi 10)])), ((a 1), .inl (T 0, 940, .inl (fi 0)))] H from ⟨hP, hD⟩)
                          refine lv_goto (tgt := 366) hx hb dX6_advance_323 (by decide) ?_
                          have hP9 := hP.sub (ws' := [((a 0), .inr (6, [.ref (a 1), .ref (ex 0), .int (vi 0), .int (vi 1), .int (vi 2), .int z265_1, .int 3, .int wv, .long wv_1, .int wv_2, .int ((fi 0) wv.toNatClampNeg), .int (vi 8), .int (vi 9), .int (vi 10)])), ((a 1), .inl (T 0, 940, .inl (fi 0)))]) [0, 1] rfl
                          have hD9 := hD.sub (ws' := [((a 0), .inr (6, [.ref (a 1), .ref (ex 0), .int (vi 0), .int (vi 1), .int (vi 2), .int z265_1, .int 3, .int wv, .long wv_1, .int wv_2, .int ((fi 0) wv.toNatClampNeg), .int (vi 8), .int (vi 9), .int (vi 10)])), ((a 1), .inl (T 0, 940, .inl (fi 0)))]) [0, 1] (by decide +kernel) rfl
                          rw [hQ]
                          exact W.vret hx hb hr (fun t ht hW => ⟨⟨(0 : Int32), rfl, trivial, xf [], xh [], xv [3, wv, ((fi 0) wv.toNatClampNeg), wv_2, z265_1], xl [wv_1], by rw [ht]; exact hP9, hD9, ⟨(by show 0 ≤ z265_1.toInt ∧ z265_1.toInt ≤ 940; omega), trivial⟩⟩, hS.F ht⟩) hS.2.2 dX6_advance_366
                        · have c276_1 := xne (k := 59) (by decide) c276_1
                          refine lv_aload_n hx hb dX6_advance_279 rfl (lv_at hl 3 rfl) ?_
                          refine va_get (D := D) (ci := 6) (v := .int ((fi 0) wv.toNatClampNeg)) (C := RX6) (T := TX6) (N := 14) hx hb htg inX6 hown hK.1 hP 0 rfl rfl 10 (by decide) (htg _ kw_111) (fun _ h9 => h9) rfl dX6_advance_280 ?_
                          refine lv_bipush (v := 40) hx hb dX6_advance_283 (by decide) ?_
                          refine lv_icmp_eq (tgt := 315) hx hb dX6_advance_285 (by decide) (fun c285_1 => ?_) (fun c285_1 => ?_)
                          · have c285_1 := xeq (k := 40) (by decide) c285_1
                            refine lv_iconst (v := 3) hx hb dX6_advance_315 (by decide) ?_
                            refine lv_goto (tgt := 320) hx hb dX6_advance_316 (by decide) ?_
                            refine va_put (D := D) (ci := 6) (v := .int 3) (ty := .int) (C := RX6) (T := TX6) (N := 14) hx hb htg inX6 tyX6 tyX6_ok nmX6 hown hK.1 hP hD hS 0 rfl rfl 6 (by decide) (htg _ kw_104) (fun _ h9 => h9) rfl (by decide +kernel) rfl rfl (Nat.le_of_ble_eq_true rfl) dX6_advance_320 (fun H locs hP hD hS => ?_)
                            obtain ⟨hP, hD⟩ := (show xPD D A [((a 0), .inr (6, [.ref (a 1), .ref (ex 0), .int (vi 0), .int (vi 1), .int (vi 2), .int z265_1, .int 3, .int wv, .long wv_1, .int wv_2, .int ((fi 0) wv.toNatClampNeg), .int (vi 8), .int (vi 9), .int (vi 10)])), ((a 1), .inl (T 0, 940, .inl (fi 0)))] H from ⟨hP, hD⟩)
                            refine lv_goto (tgt := 366) hx hb dX6_advance_323 (by decide) ?_
                            have hP9 := hP.sub (ws' := [((a 0), .inr (6, [.ref (a 1), .ref (ex 0), .int (vi 0), .int (vi 1), .int (vi 2), .int z265_1, .int 3, .int wv, .long wv_1, .int wv_2, .int ((fi 0) wv.toNatClampNeg), .int (vi 8), .int (vi 9), .int (vi 10)])), ((a 1), .inl (T 0, 940, .inl (fi 0)))]) [0, 1] rfl
                            have hD9 := hD.sub (ws' := [((a 0), .inr (6, [.ref (a 1), .ref (ex 0), .int (vi 0), .int (vi 1), .int (vi 2), .int z265_1, .int 3, .int wv, .long wv_1, .int wv_2, .int ((fi 0) wv.toNatClampNeg), .int (vi 8), .int (vi 9), .int (vi 10)])), ((a 1), .inl (T 0, 940, .inl (fi 0)))]) [0, 1] (by decide +kernel) rfl
                            rw [hQ]
                            exact W.vret hx hb hr (fun t ht hW => ⟨⟨(0 : Int32), rfl, trivial, xf [], xh [], xv [3, wv, ((fi 0) wv.toNatClampNeg), wv_2, z265_1], xl [wv_1], by rw [ht]; exact hP9, hD9, ⟨(by show 0 ≤ z265_1.toInt ∧ z265_1.toInt ≤ 940; omega), trivial⟩⟩, hS.F ht⟩) hS.2.2 dX6_advance_366
                          · have c285_1 := xne (k := 40) (by decide) c285_1
                            refine lv_aload_n hx hb dX6_advance_288 rfl (lv_at hl 3 rfl) ?_
                            refine va_get (D := D) (ci := 6) (v := .int ((fi 0) wv.toNatClampNeg)) (C := RX6) (T := TX6) (N := 14) hx hb htg inX6 hown hK.1 hP 0 rfl rfl 10 (by decide) (htg _ kw_111) (fun _ h9 => h9) rfl dX6_advance_289 ?_
                            refine lv_bipush (v := 41) hx hb dX6_advance_292 (by decide) ?_
                            refine lv_icmp_eq (tgt := 315) hx hb dX6_advance_294 (by decide) (fun c294_1 => ?_) (fun c294_1 => ?_)
                            · have c294_1 := xeq (k := 41) (by decide) c294_1
                              refine lv_iconst (v := 3) hx hb dX6_advance_315 (by decide) ?_
                              refine lv_goto (tgt := 320) hx hb dX6_advance_316 (by decide) ?_
                              refine va_put (D := D) (ci := 6) (v := .int 3) (ty := .int) (C := RX6) (T := TX6) (N := 14) hx hb htg inX6 tyX6 tyX6_ok nmX6 hown hK.1 hP hD hS 0 rfl rfl 6 (by decide) (htg _ kw_104) (fun _ h9 => h9) rfl (by decide +kernel) rfl rfl (Nat.le_of_ble_eq_true rfl) dX6_advance_320 (fun H locs hP hD hS => ?_)
                              obtain ⟨hP, hD⟩ := (show xPD D A [((a 0), .inr (6, [.ref (a 1), .ref (ex 0), .int (vi 0), .int (vi 1), .int (vi 2), .int z265_1, .int 3, .int wv, .long wv_1, .int wv_2, .int ((fi 0) wv.toNatClampNeg), .int (vi 8), .int (vi 9), .int (vi 10)])), ((a 1), .inl (T 0, 940, .inl (fi 0)))] H from ⟨hP, hD⟩)
                              refine lv_goto (tgt := 366) hx hb dX6_advance_323 (by decide) ?_
                              have hP9 := hP.sub (ws' := [((a 0), .inr (6, [.ref (a 1), .ref (ex 0), .int (vi 0), .int (vi 1), .int (vi 2), .int z265_1, .int 3, .int wv, .long wv_1, .int wv_2, .int ((fi 0) wv.toNatClampNeg), .int (vi 8), .int (vi 9), .int (vi 10)])), ((a 1), .inl (T 0, 940, .inl (fi 0)))]) [0, 1] rfl
                              have hD9 := hD.sub (ws' := [((a 0), .inr (6, [.ref (a 1), .ref (ex 0), .int (vi 0), .int (vi 1), .int (vi 2), .int z265_1, .int 3, .int wv, .long wv_1, .int wv_2, .int ((fi 0) wv.toNatClampNeg), .int (vi 8), .int (vi 9), .int (vi 10)])), ((a 1), .inl (T 0, 940, .inl (fi 0)))]) [0, 1] (by decide +kernel) rfl
                              rw [hQ]
                              exact W.vret hx hb hr (fun t ht hW => ⟨⟨(0 : Int32), rfl, trivial, xf [], xh [], xv [3, wv, ((fi 0) wv.toNatClampNeg), wv_2, z265_1], xl [wv_1], by rw [ht]; exact hP9, hD9, ⟨(by show 0 ≤ z265_1.toInt ∧ z265_1.toInt ≤ 940; omega), trivial⟩⟩, hS.F ht⟩) hS.2.2 dX6_advance_366
                            · have c294_1 := xne (k := 41) (by decide) c294_1
                              refine lv_aload_n hx hb dX6_advance_297 rfl (lv_at hl 3 rfl) ?_
                              refine va_get (D := D) (ci := 6) (v := .int ((fi 0) wv.toNatClampNeg)) (C := RX6) (T := TX6) (N := 14) hx hb htg inX6 hown hK.1 hP 0 rfl rfl 10 (by decide) (htg _ kw_111) (fun _ h9 => h9) rfl dX6_advance_298 ?_
                              refine lv_bipush (v := 60) hx hb dX6_advance_301 (by decide) ?_
                              refine lv_icmp_lt (tgt := 319) hx hb dX6_advance_303 (by decide) (fun c303_1 => ?_) (fun c303_1 => ?_)
                              · have c303_1 := xlt (k := 60) (by decide) c303_1
                                refine lv_iconst (v := 4) hx hb dX6_advance_319 (by decide) ?_
                                refine va_put (D := D) (ci := 6) (v := .int 4) (ty := .int) (C := RX6) (T := TX6) (N := 14) hx hb htg inX6 tyX6 tyX6_ok nmX6 hown hK.1 hP hD hS 0 rfl rfl 6 (by decide) (htg _ kw_104) (fun _ h9 => h9) rfl (by decide +kernel) rfl rfl (Nat.le_of_ble_eq_true rfl) dX6_advance_320 (fun H locs hP hD hS => ?_)
                                obtain ⟨hP, hD⟩ := (show xPD D A [((a 0), .inr (6, [.ref (a 1), .ref (ex 0), .int (vi 0), .int (vi 1), .int (vi 2), .int z265_1, .int 4, .int wv, .long wv_1, .int wv_2, .int ((fi 0) wv.toNatClampNeg), .int (vi 8), .int (vi 9), .int (vi 10)])), ((a 1), .inl (T 0, 940, .inl (fi 0)))] H from ⟨hP, hD⟩)
                                refine lv_goto (tgt := 366) hx hb dX6_advance_323 (by decide) ?_
                                have hP9 := hP.sub (ws' := [((a 0), .inr (6, [.ref (a 1), .ref (ex 0), .int (vi 0), .int (vi 1), .int (vi 2), .int z265_1, .int 4, .int wv, .long wv_1, .int wv_2, .int ((fi 0) wv.toNatClampNeg), .int (vi 8), .int (vi 9), .int (vi 10)])), ((a 1), .inl (T 0, 940, .inl (fi 0)))]) [0, 1] rfl
                                have hD9 := hD.sub (ws' := [((a 0), .inr (6, [.ref (a 1), .ref (ex 0), .int (vi 0), .int (vi 1), .int (vi 2), .int z265_1, .int 4, .int wv, .long wv_1, .int wv_2, .int ((fi 0) wv.toNatClampNeg), .int (vi 8), .int (vi 9), .int (vi 10)])), ((a 1), .inl (T 0, 940, .inl (fi 0)))]) [0, 1] (by decide +kernel) rfl
                                rw [hQ]
                                exact W.vret hx hb hr (fun t ht hW => ⟨⟨(0 : Int32), rfl, trivial, xf [], xh [], xv [4, wv, ((fi 0) wv.toNatClampNeg), wv_2, z265_1], xl [wv_1], by rw [ht]; exact hP9, hD9, ⟨(by show 0 ≤ z265_1.toInt ∧ z265_1.toInt ≤ 940; omega), trivial⟩⟩, hS.F ht⟩) hS.2.2 dX6_advance_366
                              · have c303_1 := xnlt (k := 60) (by decide) c303_1
                                refine lv_aload_n hx hb dX6_advance_306 rfl (lv_at hl 3 rfl) ?_
                                refine va_get (D := D) (ci := 6) (v := .int ((fi 0) wv.toNatClampNeg)) (C := RX6) (T := TX6) (N := 14) hx hb htg inX6 hown hK.1 hP 0 rfl rfl 10 (by decide) (htg _ kw_111) (fun _ h9 => h9) rfl dX6_advance_307 ?_
                                refine lv_bipush (v := 62) hx hb dX6_advance_310 (by decide) ?_
                                refine lv_icmp_gt (tgt := 319) hx hb dX6_advance_312 (by decide) (fun c312_1 => ?_) (fun c312_1 => ?_)
                                · have c312_1 := xgt (k := 62) (by decide) c312_1
                                  refine lv_iconst (v := 4) hx hb dX6_advance_319 (by decide) ?_
                                  refine va_put (D := D) (ci := 6) (v := .int 4) (ty := .int) (C := RX6) (T := TX6) (N := 14) hx hb htg inX6 tyX6 tyX6_ok nmX6 hown hK.1 hP hD hS 0 rfl rfl 6 (by decide) (htg _ kw_104) (fun _ h9 => h9) rfl (by decide +kernel) rfl rfl (Nat.le_of_ble_eq_true rfl) dX6_advance_320 (fun H locs hP hD hS => ?_)
                                  obtain ⟨hP, hD⟩ := (show xPD D A [((a 0), .inr (6, [.ref (a 1), .ref (ex 0), .int (vi 0), .int (vi 1), .int (vi 2), .int z265_1, .int 4, .int wv, .long wv_1, .int wv_2, .int ((fi 0) wv.toNatClampNeg), .int (vi 8), .int (vi 9), .int (vi 10)])), ((a 1), .inl (T 0, 940, .inl (fi 0)))] H from ⟨hP, hD⟩)
                                  refine lv_goto (tgt := 366) hx hb dX6_advance_323 (by decide) ?_
                                  have hP9 := hP.sub (ws' := [((a 0), .inr (6, [.ref (a 1), .ref (ex 0), .int (vi 0), .int (vi 1), .int (vi 2), .int z265_1, .int 4, .int wv, .long wv_1, .int wv_2, .int ((fi 0) wv.toNatClampNeg), .int (vi 8), .int (vi 9), .int (vi 10)])), ((a 1), .inl (T 0, 940, .inl (fi 0)))]) [0, 1] rfl
                                  have hD9 := hD.sub (ws' := [((a 0), .inr (6, [.ref (a 1), .ref (ex 0), .int (vi 0), .int (vi 1), .int (vi 2), .int z265_1, .int 4, .int wv, .long wv_1, .int wv_2, .int ((fi 0) wv.toNatClampNeg), .int (vi 8), .int (vi 9), .int (vi 10)])), ((a 1), .inl (T 0, 940, .inl (fi 0)))]) [0, 1] (by decide +kernel) rfl
                                  rw [hQ]
                                  exact W.vret hx hb hr (fun t ht hW => ⟨⟨(0 : Int32), rfl, trivial, xf [], xh [], xv [4, wv, ((fi 0) wv.toNatClampNeg), wv_2, z265_1], xl [wv_1], by rw [ht]; exact hP9, hD9, ⟨(by show 0 ≤ z265_1.toInt ∧ z265_1.toInt ≤ 940; omega), trivial⟩⟩, hS.F ht⟩) hS.2.2 dX6_advance_366
                                · have c312_1 := xngt (k := 62) (by decide) c312_1
                                  refine lv_iconst (v := 3) hx hb dX6_advance_315 (by decide) ?_
                                  refine lv_goto (tgt := 320) hx hb dX6_advance_316 (by decide) ?_
                                  refine va_put (D := D) (ci := 6) (v := .int 3) (ty := .int) (C := RX6) (T := TX6) (N := 14) hx hb htg inX6 tyX6 tyX6_ok nmX6 hown hK.1 hP hD hS 0 rfl rfl 6 (by decide) (htg _ kw_104) (fun _ h9 => h9) rfl (by decide +kernel) rfl rfl (Nat.le_of_ble_eq_true rfl) dX6_advance_320 (fun H locs hP hD hS => ?_)
                                  obtain ⟨hP, hD⟩ := (show xPD D A [((a 0), .inr (6, [.ref (a 1), .ref (ex 0), .int (vi 0), .int (vi 1), .int (vi 2), .int z265_1, .int 3, .int wv, .long wv_1, .int wv_2, .int ((fi 0) wv.toNatClampNeg), .int (vi 8), .int (vi 9), .int (vi 10)])), ((a 1), .inl (T 0, 940, .inl (fi 0)))] H from ⟨hP, hD⟩)
                                  refine lv_goto (tgt := 366) hx hb dX6_advance_323 (by decide) ?_
                                  have hP9 := hP.sub (ws' := [((a 0), .inr (6, [.ref (a 1), .ref (ex 0), .int (vi 0), .int (vi 1), .int (vi 2), .int z265_1, .int 3, .int wv, .long wv_1, .int wv_2, .int ((fi 0) wv.toNatClampNeg), .int (vi 8), .int (vi 9), .int (vi 10)])), ((a 1), .inl (T 0, 940, .inl (fi 0)))]) [0, 1] rfl
                                  have hD9 := hD.sub (ws' := [((a 0), .inr (6, [.ref (a 1), .ref (ex 0), .int (vi 0), .int (vi 1), .int (vi 2), .int z265_1, .int 3, .int wv, .long wv_1, .int wv_2, .int ((fi 0) wv.toNatClampNeg), .int (vi 8), .int (vi 9), .int (vi 10)])), ((a 1), .inl (T 0, 940, .inl (fi 0)))]) [0, 1] (by decide +kernel) rfl
                                  rw [hQ]
                                  exact W.vret hx hb hr (fun t ht hW => ⟨⟨(0 : Int32), rfl, trivial, xf [], xh [], xv [3, wv, ((fi 0) wv.toNatClampNeg), wv_2, z265_1], xl [wv_1], by rw [ht]; exact hP9, hD9, ⟨(by show 0 ≤ z265_1.toInt ∧ z265_1.toInt ≤ 940; omega), trivial⟩⟩, hS.F ht⟩) hS.2.2 dX6_advance_366
                    · have c212 := xnlt (k := 48) (by decide) c212
                      refine lv_iload_n hx hb dX6_advance_215 rfl (lv_at hl 0 rfl) ?_
                      refine lv_bipush (v := 57) hx hb dX6_advance_216 (by decide) ?_
                      refine lv_icmp_gt (tgt := 253) hx hb dX6_advance_218 (by decide) (fun c218 => ?_) (fun c218 => ?_)
                      · have c218 := xgt (k := 57) (by decide) c218
                        refine lv_iload_n hx hb dX6_advance_253 rfl (lv_at hl 2 rfl) ?_
                        refine lv_iload_n hx hb dX6_advance_254 rfl (lv_at hl 1 rfl) ?_
                        refine lv_iadd hx hb dX6_advance_255 ?_
                        refine lv_topi (fun z255_2 ez255_2 => ?_)
                        have tz255_2 : z255_2.toInt = w1.toInt + w2.toInt := by rw [ez255_2]; exact xadd rfl rfl (by omega) (by omega)
                        refine lv_if_ne (tgt := 326) hx hb dX6_advance_256 (by decide) (fun c256_2 => ?_) (fun c256_2 => ?_)
                        · have c256_2 := xne (k := 0) (by decide) c256_2
                          refine lv_iload_n hx hb dX6_advance_326 rfl (lv_at hl 1 rfl) ?_
                          refine lv_if_ne (tgt := 348) hx hb dX6_advance_327 (by decide) (fun c327_2 => ?_) (fun c327_2 => ?_)
                          · have c327_2 := xne (k := 0) (by decide) c327_2
                            refine lv_aload_n hx hb dX6_advance_348 rfl (lv_at hl 3 rfl) ?_
                            refine lv_iload_n hx hb dX6_advance_349 rfl (lv_at hl 2 rfl) ?_
                            refine lv_if_ne (tgt := 362) hx hb dX6_advance_350 (by decide) (fun c350_2 => ?_) (fun c350_2 => ?_)
                            · have c350_2 := xne (k := 0) (by decide) c350_2
                              refine lv_iconst (v := 4) hx hb dX6_advance_362 (by decide) ?_
                              refine va_put (D := D) (ci := 6) (v := .int 4) (ty := .int) (C := RX6) (T := TX6) (N := 14) hx hb htg inX6 tyX6 tyX6_ok nmX6 hown hK.1 hP hD hS 0 rfl rfl 6 (by decide) (htg _ kw_104) (fun _ h9 => h9) rfl (by decide +kernel) rfl rfl (Nat.le_of_ble_eq_true rfl) dX6_advance_363 (fun H locs hP hD hS => ?_)
                              obtain ⟨hP, hD⟩ := (show xPD D A [((a 0), .inr (6, [.ref (a 1), .ref (ex 0), .int (vi 0), .int (vi 1), .int (vi 2), .int wv_3, .int 4, .int wv, .long wv_1, .int wv_2, .int ((fi 0) wv.toNatClampNeg), .int (vi 8), .int (vi 9), .int (vi 10)])), ((a 1), .inl (T 0, 940, .inl (fi 0)))] H from ⟨hP, hD⟩)
                              have hP9 := hP.sub (ws' := [((a 0), .inr (6, [.ref (a 1), .ref (ex 0), .int (vi 0), .int (vi 1), .int (vi 2), .int wv_3, .int 4, .int wv, .long wv_1, .int wv_2, .int ((fi 0) wv.toNatClampNeg), .int (vi 8), .int (vi 9), .int (vi 10)])), ((a 1), .inl (T 0, 940, .inl (fi 0)))]) [0, 1] rfl
                              have hD9 := hD.sub (ws' := [((a 0), .inr (6, [.ref (a 1), .ref (ex 0), .int (vi 0), .int (vi 1), .int (vi 2), .int wv_3, .int 4, .int wv, .long wv_1, .int wv_2, .int ((fi 0) wv.toNatClampNeg), .int (vi 8), .int (vi 9), .int (vi 10)])), ((a 1), .inl (T 0, 940, .inl (fi 0)))]) [0, 1] (by decide +kernel) rfl
                              rw [hQ]
                              exact W.vret hx hb hr (fun t ht hW => ⟨⟨(0 : Int32), rfl, trivial, xf [], xh [], xv [4, wv, ((fi 0) wv.toNatClampNeg), wv_2, wv_3], xl [wv_1], by rw [ht]; exact hP9, hD9, ⟨hi_3, trivial⟩⟩, hS.F ht⟩) hS.2.2 dX6_advance_366
                            · have c350_2 := xeq (k := 0) (by decide) c350_2
                              refine lv_iload_n hx hb dX6_advance_353 rfl (lv_at hl 1 rfl) ?_
                              refine lv_iconst (v := 3) hx hb dX6_advance_354 (by decide) ?_
                              refine lv_icmp_gt (tgt := 362) hx hb dX6_advance_355 (by decide) (fun c355_2 => ?_) (fun c355_2 => ?_)
                              · have c355_2 := xgt (k := 3) (by decide) c355_2
                                refine lv_iconst (v := 4) hx hb dX6_advance_362 (by decide) ?_
                                refine va_put (D := D) (ci := 6) (v := .int 4) (ty := .int) (C := RX6) (T := TX6) (N := 14) hx hb htg inX6 tyX6 tyX6_ok nmX6 hown hK.1 hP hD hS 0 rfl rfl 6 (by decide) (htg _ kw_104) (fun _ h9 => h9) rfl (by decide +kernel) rfl rfl (Nat.le_of_ble_eq_true rfl) dX6_advance_363 (fun H locs hP hD hS => ?_)
                                obtain ⟨hP, hD⟩ := (show xPD D A [((a 0), .inr (6, [.ref (a 1), .ref (ex 0), .int (vi 0), .int (vi 1), .int (vi 2), .int wv_3, .int 4, .int wv, .long wv_1, .int wv_2, .int ((fi 0) wv.toNatClampNeg), .int (vi 8), .int (vi 9), .int (vi 10)])), ((a 1), .inl (T 0, 940, .inl (fi 0)))] H from ⟨hP, hD⟩)
                                have hP9 := hP.sub (ws' := [((a 0), .inr (6, [.ref (a 1), .ref (ex 0), .int (vi 0), .int (vi 1), .int (vi 2), .int wv_3, .int 4, .int wv, .long wv_1, .int wv_2, .int ((fi 0) wv.toNatClampNeg), .int (vi 8), .int (vi 9), .int (vi 10)])), ((a 1), .inl (T 0, 940, .inl (fi 0)))]) [0, 1] rfl
                                have hD9 := hD.sub (ws' := [((a 0), .inr (6, [.ref (a 1), .ref (ex 0), .int (vi 0), .int (vi 1), .int (vi 2), .int wv_3, .int 4, .int wv, .long wv_1, .int wv_2, .int ((fi 0) wv.toNatClampNeg), .int (vi 8), .int (vi 9), .int (vi 10)])), ((a 1), .inl (T 0, 940, .inl (fi 0)))]) [0, 1] (by decide +kernel) rfl
                                rw [hQ]
                                exact W.vret hx hb hr (fun t ht hW => ⟨⟨(0 : Int32), rfl, trivial, xf [], xh [], xv [4, wv, ((fi 0) wv.toNatClampNeg), wv_2, wv_3], xl [wv_1], by rw [ht]; exact hP9, hD9, ⟨hi_3, trivial⟩⟩, hS.F ht⟩) hS.2.2 dX6_advance_366
                              · have c355_2 := xngt (k := 3) (by decide) c355_2
                                refine lv_iconst (v := 2) hx hb dX6_advance_358 (by decide) ?_
                                refine lv_goto (tgt := 363) hx hb dX6_advance_359 (by decide) ?_
                                refine va_put (D := D) (ci := 6) (v := .int 2) (ty := .int) (C := RX6) (T := TX6) (N := 14) hx hb htg inX6 tyX6 tyX6_ok nmX6 hown hK.1 hP hD hS 0 rfl rfl 6 (by decide) (htg _ kw_104) (fun _ h9 => h9) rfl (by decide +kernel) rfl rfl (Nat.le_of_ble_eq_true rfl) dX6_advance_363 (fun H locs hP hD hS => ?_)
                                obtain ⟨hP, hD⟩ := (show xPD D A [((a 0), .inr (6, [.ref (a 1), .ref (ex 0), .int (vi 0), .int (vi 1), .int (vi 2), .int wv_3, .int 2, .int wv, .long wv_1, .int wv_2, .int ((fi 0) wv.toNatClampNeg), .int (vi 8), .int (vi 9), .int (vi 10)])), ((a 1), .inl (T 0, 940, .inl (fi 0)))] H from ⟨hP, hD⟩)
                                have hP9 := hP.sub (ws' := [((a 0), .inr (6, [.ref (a 1), .ref (ex 0), .int (vi 0), .int (vi 1), .int (vi 2), .int wv_3, .int 2, .int wv, .long wv_1, .int wv_2, .int ((fi 0) wv.toNatClampNeg), .int (vi 8), .int (vi 9), .int (vi 10)])), ((a 1), .inl (T 0, 940, .inl (fi 0)))]) [0, 1] rfl
                                have hD9 := hD.sub (ws' := [((a 0), .inr (6, [.ref (a 1), .ref (ex 0), .int (vi 0), .int (vi 1), .int (vi 2), .int wv_3, .int 2, .int wv, .long wv_1, .int wv_2, .int ((fi 0) wv.toNatClampNeg), .int (vi 8), .int (vi 9), .int (vi 10)])), ((a 1), .inl (T 0, 940, .inl (fi 0)))]) [0, 1] (by decide +kernel) rfl
                                rw [hQ]
                                exact W.vret hx hb hr (fun t ht hW => ⟨⟨(0 : Int32), rfl, trivial, xf [], xh [], xv [2, wv, ((fi 0) wv.toNatClampNeg), wv_2, wv_3], xl [wv_1], by rw [ht]; exact hP9, hD9, ⟨hi_3, trivial⟩⟩, hS.F ht⟩) hS.2.2 dX6_advance_366
                          · have c327_2 := xeq (k := 0) (by decide) c327_2
                            refine lv_aload_n hx hb dX6_advance_330 rfl (lv_at hl 3 rfl) ?_
                            refine lv_iload_n hx hb dX6_advance_331 rfl (lv_at hl 2 rfl) ?_
                            refine lv_bipush (v := 7) hx hb dX6_advance_332 (by decide) ?_
                            refine lv_icmp_gt (tgt := 341) hx hb dX6_advance_334 (by decide) (fun c334_2 => ?_) (fun c334_2 => ?_)
                            · have c334_2 := xgt (k := 7) (by decide) c334_2
                              refine lv_iconst (v := 4) hx hb dX6_advance_341 (by decide) ?_
                              refine va_put (D := D) (ci := 6) (v := .int 4) (ty := .int) (C := RX6) (T := TX6) (N := 14) hx hb htg inX6 tyX6 tyX6_ok nmX6 hown hK.1 hP hD hS 0 rfl rfl 6 (by decide) (htg _ kw_104) (fun _ h9 => h9) rfl (by decide +kernel) rfl rfl (Nat.le_of_ble_eq_true rfl) dX6_advance_342 (fun H locs hP hD hS => ?_)
                              obtain ⟨hP, hD⟩ := (show xPD D A [((a 0), .inr (6, [.ref (a 1), .ref (ex 0), .int (vi 0), .int (vi 1), .int (vi 2), .int wv_3, .int 4, .int wv, .long wv_1, .int wv_2, .int ((fi 0) wv.toNatClampNeg), .int (vi 8), .int (vi 9), .int (vi 10)])), ((a 1), .inl (T 0, 940, .inl (fi 0)))] H from ⟨hP, hD⟩)
                              refine lv_goto (tgt := 366) hx hb dX6_advance_345 (by decide) ?_
                              have hP9 := hP.sub (ws' := [((a 0), .inr (6, [.ref (a 1), .ref (ex 0), .int (vi 0), .int (vi 1), .int (vi 2), .int wv_3, .int 4, .int wv, .long wv_1, .int wv_2, .int ((fi 0) wv.toNatClampNeg), .int (vi 8), .int (vi 9), .int (vi 10)])), ((a 1), .inl (T 0, 940, .inl (fi 0)))]) [0, 1] rfl
                              have hD9 := hD.sub (ws' := [((a 0), .inr (6, [.ref (a 1), .ref (ex 0), .int (vi 0), .int (vi 1), .int (vi 2), .int wv_3, .int 4, .int wv, .long wv_1, .int wv_2, .int ((fi 0) wv.toNatClampNeg), .int (vi 8), .int (vi 9), .int (vi 10)])), ((a 1), .inl (T 0, 940, .inl (fi 0)))]) [0, 1] (by decide +kernel) rfl
                              rw [hQ]
                              exact W.vret hx hb hr (fun t ht hW => ⟨⟨(0 : Int32), rfl, trivial, xf [], xh [], xv [4, wv, ((fi 0) wv.toNatClampNeg), wv_2, wv_3], xl [wv_1], by rw [ht]; exact hP9, hD9, ⟨hi_3, trivial⟩⟩, hS.F ht⟩) hS.2.2 dX6_advance_366
                            · have c334_2 := xngt (k := 7) (by decide) c334_2
                              refine lv_iconst (v := 1) hx hb dX6_advance_337 (by decide) ?_
                              refine lv_goto (tgt := 342) hx hb dX6_advance_338 (by decide) ?_
                              refine va_put (D := D) (ci := 6) (v := .int 1) (ty := .int) (C := RX6) (T := TX6) (N := 14) hx hb htg inX6 tyX6 tyX6_ok nmX6 hown hK.1 hP hD hS 0 rfl rfl 6 (by decide) (htg _ kw_104) (fun _ h9 => h9) rfl (by decide +kernel) rfl rfl (Nat.le_of_ble_eq_true rfl) dX6_advance_342 (fun H locs hP hD hS => ?_)
                              obtain ⟨hP, hD⟩ := (show xPD D A [((a 0), .inr (6, [.ref (a 1), .ref (ex 0), .int (vi 0), .int (vi 1), .int (vi 2), .int wv_3, .int 1, .int wv, .long wv_1, .int wv_2, .int ((fi 0) wv.toNatClampNeg), .int (vi 8), .int (vi 9), .int (vi 10)])), ((a 1), .inl (T 0, 940, .inl (fi 0)))] H from ⟨hP, hD⟩)
                              refine lv_goto (tgt := 366) hx hb dX6_advance_345 (by decide) ?_
                              have hP9 := hP.sub (ws' := [((a 0), .inr (6, [.ref (a 1), .ref (ex 0), .int (vi 0), .int (vi 1), .int (vi 2), .int wv_3, .int 1, .int wv, .long wv_1, .int wv_2, .int ((fi 0) wv.toNatClampNeg), .int (vi 8), .int (vi 9), .int (vi 10)])), ((a 1), .inl (T 0, 940, .inl (fi 0)))]) [0, 1] rfl
                              have hD9 := hD.sub (ws' := [((a 0), .inr (6, [.ref (a 1), .ref (ex 0), .int (vi 0), .int (vi 1), .int (vi 2), .int wv_3, .int 1, .int wv, .long wv_1, .int wv_2, .int ((fi 0) wv.toNatClampNeg), .int (vi 8), .int (vi 9), .int (vi 10)])), ((a 1), .inl (T 0, 940, .inl (fi 0)))]) [0, 1] (by decide +kernel) rfl
                              rw [hQ]
                              exact W.vret hx hb hr (fun t ht hW => ⟨⟨(0 : Int32), rfl, trivial, xf [], xh [], xv [1, wv, ((fi 0) wv.toNatClampNeg), wv_2, wv_3], xl [wv_1], by rw [ht]; exact hP9, hD9, ⟨hi_3, trivial⟩⟩, hS.F ht⟩) hS.2.2 dX6_advance_366
                        · have c256_2 := xeq (k := 0) (by decide) c256_2
                          refine lv_aload_n hx hb dX6_advance_259 rfl (lv_at hl 3 rfl) ?_
                          refine lv_dup hx hb dX6_advance_260 rfl ?_
                          refine va_get (D := D) (ci := 6) (v := .int wv_3) (C := RX6) (T := TX6) (N := 14) hx hb htg inX6 hown hK.1 hP 0 rfl rfl 5 (by decide) (htg _ kw_100) (fun _ h9 => h9) rfl dX6_advance_261 ?_
                          refine lv_iconst (v := 1) hx hb dX6_advance_264 (by decide) ?_
                          refine lv_iadd hx hb dX6_advance_265 ?_
                          refine lv_topi (fun z265_2 ez265_2 => ?_)
                          have tz265_2 : z265_2.toInt = wv_3.toInt + 1 := by rw [ez265_2]; exact xadd rfl (by decide) (by omega) (by omega)
                          refine va_put (D := D) (ci := 6) (v := .int z265_2) (ty := .int) (C := RX6) (T := TX6) (N := 14) hx hb htg inX6 tyX6 tyX6_ok nmX6 hown hK.1 hP hD hS 0 rfl rfl 5 (by decide) (htg _ kw_100) (fun _ h9 => h9) rfl (by decide +kernel) rfl rfl (Nat.le_of_ble_eq_true rfl) dX6_advance_266 (fun H locs hP hD hS => ?_)
                          obtain ⟨hP, hD⟩ := (show xPD D A [((a 0), .inr (6, [.ref (a 1), .ref (ex 0), .int (vi 0), .int (vi 1), .int (vi 2), .int z265_2, .int (vi 4), .int wv, .long wv_1, .int wv_2, .int ((fi 0) wv.toNatClampNeg), .int (vi 8), .int (vi 9), .int (vi 10)])), ((a 1), .inl (T 0, 940, .inl (fi 0)))] H from ⟨hP, hD⟩)
                          refine lv_aload_n hx hb dX6_advance_269 rfl (lv_at hl 3 rfl) ?_
                          refine lv_aload_n hx hb dX6_advance_270 rfl (lv_at hl 3 rfl) ?_
                          refine va_get (D := D) (ci := 6) (v := .int ((fi 0) wv.toNatClampNeg)) (C := RX6) (T := TX6) (N := 14) hx hb htg inX6 hown hK.1 hP 0 rfl rfl 10 (by decide) (htg _ kw_111) (fun _ h9 => h9) rfl dX6_advance_271 ?_
                          refine lv_bipush (v := 59) hx hb dX6_advance_274 (by decide) ?_
                          refine lv_icmp_eq (tgt := 315) hx hb dX6_advance_276 (by decide) (fun c276_2 => ?_) (fun c276_2 => ?_)
                          · have c276_2 := xeq (k := 59) (by decide) c276_2
                            refine lv_iconst (v := 3) hx hb dX6_advance_315 (by decide) ?_
                            refine lv_goto (tgt := 320) hx hb dX6_advance_316 (by decide) ?_
                            refine va_put (D := D) (ci := 6) (v := .int 3) (ty := .int) (C := RX6) (T := TX6) (N := 14) hx hb htg inX6 tyX6 tyX6_ok nmX6 hown hK.1 hP hD hS 0 rfl rfl 6 (by decide) (htg _ kw_104) (fun _ h9 => h9) rfl (by decide +kernel) rfl rfl (Nat.le_of_ble_eq_true rfl) dX6_advance_320 (fun H locs hP hD hS => ?_)
                            obtain ⟨hP, hD⟩ := (show xPD D A [((a 0), .inr (6, [.ref (a 1), .ref (ex 0), .int (vi 0), .int (vi 1), .int (vi 2), .int z265_2, .int 3, .int wv, .long wv_1, .int wv_2, .int ((fi 0) wv.toNatClampNeg), .int (vi 8), .int (vi 9), .int (vi 10)])), ((a 1), .inl (T 0, 940, .inl (fi 0)))] H from ⟨hP, hD⟩)
                            refine lv_goto (tgt := 366) hx hb dX6_advance_323 (by decide) ?_
                            have hP9 := hP.sub (ws' := [((a 0), .inr (6, [.ref (a 1), .ref (ex 0), .int (vi 0), .int (vi 1), .int (vi 2), .int z265_2, .int 3, .int wv, .long wv_1, .int wv_2, .int ((fi 0) wv.toNatClampNeg), .int (vi 8), .int (vi 9), .int (vi 10)])), ((a 1), .inl (T 0, 940, .inl (fi 0)))]) [0, 1] rfl
                            have hD9 := hD.sub (ws' := [((a 0), .inr (6, [.ref (a 1), .ref (ex 0), .int (vi 0), .int (vi 1), .int (vi 2), .int z265_2, .int 3, .int wv, .long wv_1, .int wv_2, .int ((fi 0) wv.toNatClampNeg), .int (vi 8), .int (vi 9), .int (vi 10)])), ((a 1), .inl (T 0, 940, .inl (fi 0)))]) [0, 1] (by decide +kernel) rfl
                            rw [hQ]
                            exact W.vret hx hb hr (fun t ht hW => ⟨⟨(0 : Int32), rfl, trivial, xf [], xh [], xv [3, wv, ((fi 0) wv.toNatClampNeg), wv_2, z265_2], xl [wv_1], by rw [ht]; exact hP9, hD9, ⟨(by show 0 ≤ z265_2.toInt ∧ z265_2.toInt ≤ 940; omega), trivial⟩⟩, hS.F ht⟩) hS.2.2 dX6_advance_366
                          · have c276_2 := xne (k := 59) (by decide) c276_2
                            refine lv_aload_n hx hb dX6_advance_279 rfl (lv_at hl 3 rfl) ?_
                            refine va_get (D := D) (ci := 6) (v := .int ((fi 0) wv.toNatClampNeg)) (C := RX6) (T := TX6) (N := 14) hx hb htg inX6 hown hK.1 hP 0 rfl rfl 10 (by decide) (htg _ kw_111) (fun _ h9 => h9) rfl dX6_advance_280 ?_
                            refine lv_bipush (v := 40) hx hb dX6_advance_283 (by decide) ?_
                            refine lv_icmp_eq (tgt := 315) hx hb dX6_advance_285 (by decide) (fun c285_2 => ?_) (fun c285_2 => ?_)
                            · have c285_2 := xeq (k := 40) (by decide) c285_2
                              refine lv_iconst (v := 3) hx hb dX6_advance_315 (by decide) ?_
                              refine lv_goto (tgt := 320) hx hb dX6_advance_316 (by decide) ?_
                              refine va_put (D := D) (ci := 6) (v := .int 3) (ty := .int) (C := RX6) (T := TX6) (N := 14) hx hb htg inX6 tyX6 tyX6_ok nmX6 hown hK.1 hP hD hS 0 rfl rfl 6 (by decide) (htg _ kw_104) (fun _ h9 => h9) rfl (by decide +kernel) rfl rfl (Nat.le_of_ble_eq_true rfl) dX6_advance_320 (fun H locs hP hD hS => ?_)
                              obtain ⟨hP, hD⟩ := (show xPD D A [((a 0), .inr (6, [.ref (a 1), .ref (ex 0), .int (vi 0), .int (vi 1), .int (vi 2), .int z265_2, .int 3, .int wv, .long wv_1, .int wv_2, .int ((fi 0) wv.toNatClampNeg), .int (vi 8), .int (vi 9), .int (vi 10)])), ((a 1), .inl (T 0, 940, .inl (fi 0)))] H from ⟨hP, hD⟩)
                              refine lv_goto (tgt := 366) hx hb dX6_advance_323 (by decide) ?_
                              have hP9 := hP.sub (ws' := [((a 0), .inr (6, [.ref (a 1), .ref (ex 0), .int (vi 0), .int (vi 1), .int (vi 2), .int z265_2, .int 3, .int wv, .long wv_1, .int wv_2, .int ((fi 0) wv.toNatClampNeg), .int (vi 8), .int (vi 9), .int (vi 10)])), ((a 1), .inl (T 0, 940, .inl (fi 0)))]) [0, 1] rfl
                              have hD9 := hD.sub (ws' := [((a 0), .inr (6, [.ref (a 1), .ref (ex 0), .int (vi 0), .int (vi 1), .int (vi 2), .int z265_2, .int 3, .int wv, .long wv_1, .int wv_2, .int ((fi 0) wv.toNatClampNeg), .int (vi 8), .int (vi 9), .int (vi 10)])), ((a 1), .inl (T 0, 940, .inl (fi 0)))]) [0, 1] (by decide +kernel) rfl
                              rw [hQ]
                              exact W.vret hx hb hr (fun t ht hW => ⟨⟨(0 : Int32), rfl, trivial, xf [], xh [], xv [3, wv, ((fi 0) wv.toNatClampNeg), wv_2, z265_2], xl [wv_1], by rw [ht]; exact hP9, hD9, ⟨(by show 0 ≤ z265_2.toInt ∧ z265_2.toInt ≤ 940; omega), trivial⟩⟩, hS.F ht⟩) hS.2.2 dX6_advance_366
                            · have c285_2 := xne (k := 40) (by decide) c285_2
                              refine lv_aload_n hx hb dX6_advance_288 rfl (lv_at hl 3 rfl) ?_
                              refine va_get (D := D) (ci := 6) (v := .int ((fi 0) wv.toNatClampNeg)) (C := RX6) (T := TX6) (N := 14) hx hb htg inX6 hown hK.1 hP 0 rfl rfl 10 (by decide) (htg _ kw_111) (fun _ h9 => h9) rfl dX6_advance_289 ?_
                              refine lv_bipush (v := 41) hx hb dX6_advance_292 (by decide) ?_
                              refine lv_icmp_eq (tgt := 315) hx hb dX6_advance_294 (by decide) (fun c294_2 => ?_) (fun c294_2 => ?_)
                              · have c294_2 := xeq (k := 41) (by decide) c294_2
                                refine lv_iconst (v := 3) hx hb dX6_advance_315 (by decide) ?_
                                refine lv_goto (tgt := 320) hx hb dX6_advance_316 (by decide) ?_
                                refine va_put (D := D) (ci := 6) (v := .int 3) (ty := .int) (C := RX6) (T := TX6) (N := 14) hx hb htg inX6 tyX6 tyX6_ok nmX6 hown hK.1 hP hD hS 0 rfl rfl 6 (by decide) (htg _ kw_104) (fun _ h9 => h9) rfl (by decide +kernel) rfl rfl (Nat.le_of_ble_eq_true rfl) dX6_advance_320 (fun H locs hP hD hS => ?_)
                                obtain ⟨hP, hD⟩ := (show xPD D A [((a 0), .inr (6, [.ref (a 1), .ref (ex 0), .int (vi 0), .int (vi 1), .int (vi 2), .int z265_2, .int 3, .int wv, .long wv_1, .int wv_2, .int ((fi 0) wv.toNatClampNeg), .int (vi 8), .int (vi 9), .int (vi 10)])), ((a 1), .inl (T 0, 940, .inl (fi 0)))] H from ⟨hP, hD⟩)
                                refine lv_goto (tgt := 366) hx hb dX6_advance_323 (by decide) ?_
                                have hP9 := hP.sub (ws' := [((a 0), .inr (6, [.ref (a 1), .ref (ex 0), .int (vi 0), .int (vi 1), .int (vi 2), .int z265_2, .int 3, .int wv, .long wv_1, .int wv_2, .int ((fi 0) wv.toNatClampNeg), .int (vi 8), .int (vi 9), .int (vi 10)])), ((a 1), .inl (T 0, 940, .inl (fi 0)))]) [0, 1] rfl
                                have hD9 := hD.sub (ws' := [((a 0), .inr (6, [.ref (a 1), .ref (ex 0), .int (vi 0), .int (vi 1), .int (vi 2), .int z265_2, .int 3, .int wv, .long wv_1, .int wv_2, .int ((fi 0) wv.toNatClampNeg), .int (vi 8), .int (vi 9), .int (vi 10)])), ((a 1), .inl (T 0, 940, .inl (fi 0)))]) [0, 1] (by decide +kernel) rfl
                                rw [hQ]
                                exact W.vret hx hb hr (fun t ht hW => ⟨⟨(0 : Int32), rfl, trivial, xf [], xh [], xv [3, wv, ((fi 0) wv.toNatClampNeg), wv_2, z265_2], xl [wv_1], by rw [ht]; exact hP9, hD9, ⟨(by show 0 ≤ z265_2.toInt ∧ z265_2.toInt ≤ 940; omega), trivial⟩⟩, hS.F ht⟩) hS.2.2 dX6_advance_366
                              · have c294_2 := xne (k := 41) (by decide) c294_2
                                refine lv_aload_n hx hb dX6_advance_297 rfl (lv_at hl 3 rfl) ?_
                                refine va_get (D := D) (ci := 6) (v := .int ((fi 0) wv.toNatClampNeg)) (C := RX6) (T := TX6) (N := 14) hx hb htg inX6 hown hK.1 hP 0 rfl rfl 10 (by decide) (htg _ kw_111) (fun _ h9 => h9) rfl dX6_advance_298 ?_
                                refine lv_bipush (v := 60) hx hb dX6_advance_301 (by decide) ?_
                                refine lv_icmp_lt (tgt := 319) hx hb dX6_advance_303 (by decide) (fun c303_2 => ?_) (fun c303_2 => ?_)
                                · have c303_2 := xlt (k := 60) (by decide) c303_2
                                  refine lv_iconst (v := 4) hx hb dX6_advance_319 (by decide) ?_
                                  refine va_put (D := D) (ci := 6) (v := .int 4) (ty := .int) (C := RX6) (T := TX6) (N := 14) hx hb htg inX6 tyX6 tyX6_ok nmX6 hown hK.1 hP hD hS 0 rfl rfl 6 (by decide) (htg _ kw_104) (fun _ h9 => h9) rfl (by decide +kernel) rfl rfl (Nat.le_of_ble_eq_true rfl) dX6_advance_320 (fun H locs hP hD hS => ?_)
                                  obtain ⟨hP, hD⟩ := (show xPD D A [((a 0), .inr (6, [.ref (a 1), .ref (ex 0), .int (vi 0), .int (vi 1), .int (vi 2), .int z265_2, .int 4, .int wv, .long wv_1, .int wv_2, .int ((fi 0) wv.toNatClampNeg), .int (vi 8), .int (vi 9), .int (vi 10)])), ((a 1), .inl (T 0, 940, .inl (fi 0)))] H from ⟨hP, hD⟩)
                                  refine lv_goto (tgt := 366) hx hb dX6_advance_323 (by decide) ?_
                                  have hP9 := hP.sub (ws' := [((a 0), .inr (6, [.ref (a 1), .ref (ex 0), .int (vi 0), .int (vi 1), .int (vi 2), .int z265_2, .int 4, .int wv, .long wv_1, .int wv_2, .int ((fi 0) wv.toNatClampNeg), .int (vi 8), .int (vi 9), .int (vi 10)])), ((a 1), .inl (T 0, 940, .inl (fi 0)))]) [0, 1] rfl
                                  have hD9 := hD.sub (ws' := [((a 0), .inr (6, [.ref (a 1), .ref (ex 0), .int (vi 0), .int (vi 1), .int (vi 2), .int z265_2, .int 4, .int wv, .long wv_1, .int wv_2, .int ((fi 0) wv.toNatClampNeg), .int (vi 8), .int (vi 9), .int (vi 10)])), ((a 1), .inl (T 0, 940, .inl (fi 0)))]) [0, 1] (by decide +kernel) rfl
                                  rw [hQ]
                                  exact W.vret hx hb hr (fun t ht hW => ⟨⟨(0 : Int32), rfl, trivial, xf [], xh [], xv [4, wv, ((fi 0) wv.toNatClampNeg), wv_2, z265_2], xl [wv_1], by rw [ht]; exact hP9, hD9, ⟨(by show 0 ≤ z265_2.toInt ∧ z265_2.toInt ≤ 940; omega), trivial⟩⟩, hS.F ht⟩) hS.2.2 dX6_advance_366
                                · have c303_2 := xnlt (k := 60) (by decide) c303_2
                                  refine lv_aload_n hx hb dX6_advance_306 rfl (lv_at hl 3 rfl) ?_
                                  refine va_get (D := D) (ci := 6) (v := .int ((fi 0) wv.toNatClampNeg)) (C := RX6) (T := TX6) (N := 14) hx hb htg inX6 hown hK.1 hP 0 rfl rfl 10 (by decide) (htg _ kw_111) (fun _ h9 => h9) rfl dX6_advance_307 ?_
                                  refine lv_bipush (v := 62) hx hb dX6_advance_310 (by decide) ?_
                                  refine lv_icmp_gt (tgt := 319) hx hb dX6_advance_312 (by decide) (fun c312_2 => ?_) (fun c312_2 => ?_)
                                  · have c312_2 := xgt (k := 62) (by decide) c312_2
                                    refine lv_iconst (v := 4) hx hb dX6_advance_319 (by decide) ?_
                                    refine va_put (D := D) (ci := 6) (v := .int 4) (ty := .int) (C := RX6) (T := TX6) (N := 14) hx hb htg inX6 tyX6 tyX6_ok nmX6 hown hK.1 hP hD hS 0 rfl rfl 6 (by decide) (htg _ kw_104) (fun _ h9 => h9) rfl (by decide +kernel) rfl rfl (Nat.le_of_ble_eq_true rfl) dX6_advance_320 (fun H locs hP hD hS => ?_)
                                    obtain ⟨hP, hD⟩ := (show xPD D A [((a 0), .inr (6, [.ref (a 1), .ref (ex 0), .int (vi 0), .int (vi 1), .int (vi 2), .int z265_2, .int 4, .int wv, .long wv_1, .int wv_2, .int ((fi 0) wv.toNatClampNeg), .int (vi 8), .int (vi 9), .int (vi 10)])), ((a 1), .inl (T 0, 940, .inl (fi 0)))] H from ⟨hP, hD⟩)
                                    refine lv_goto (tgt := 366) hx hb dX6_advance_323 (by decide) ?_
                                    have hP9 := hP.sub (ws' := [((a 0), .inr (6, [.ref (a 1), .ref (ex 0), .int (vi 0), .int (vi 1), .int (vi 2), .int z265_2, .int 4, .int wv, .long wv_1, .int wv_2, .int ((fi 0) wv.toNatClampNeg), .int (vi 8), .int (vi 9), .int (vi 10)])), ((a 1), .inl (T 0, 940, .inl (fi 0)))]) [0, 1] rfl
                                    have hD9 := hD.sub (ws' := [((a 0), .inr (6, [.ref (a 1), .ref (ex 0), .int (vi 0), .int (vi 1), .int (vi 2), .int z265_2, .int 4, .int wv, .long wv_1, .int wv_2, .int ((fi 0) wv.toNatClampNeg), .int (vi 8), .int (vi 9), .int (vi 10)])), ((a 1), .inl (T 0, 940, .inl (fi 0)))]) [0, 1] (by decide +kernel) rfl
                                    rw [hQ]
                                    exact W.vret hx hb hr (fun t ht hW => ⟨⟨(0 : Int32), rfl, trivial, xf [], xh [], xv [4, wv, ((fi 0) wv.toNatClampNeg), wv_2, z265_2], xl [wv_1], by rw [ht]; exact hP9, hD9, ⟨(by show 0 ≤ z265_2.toInt ∧ z265_2.toInt ≤ 940; omega), trivial⟩⟩, hS.F ht⟩) hS.2.2 dX6_advance_366
                                  · have c312_2 := xngt (k := 62) (by decide) c312_2
                                    refine lv_iconst (v := 3) hx hb dX6_advance_315 (by decide) ?_
                                    refine lv_goto (tgt := 320) hx hb dX6_advance_316 (by decide) ?_
                                    refine va_put (D := D) (ci := 6) (v := .int 3) (ty := .int) (C := RX6) (T := TX6) (N := 14) hx hb htg inX6 tyX6 tyX6_ok nmX6 hown hK.1 hP hD hS 0 rfl rfl 6 (by decide) (htg _ kw_104) (fun _ h9 => h9) rfl (by decide +kernel) rfl rfl (Nat.le_of_ble_eq_true rfl) dX6_advance_320 (fun H locs hP hD hS => ?_)
                                    obtain ⟨hP, hD⟩ := (show xPD D A [((a 0), .inr (6, [.ref (a 1), .ref (ex 0), .int (vi 0), .int (vi 1), .int (vi 2), .int z265_2, .int 3, .int wv, .long wv_1, .int wv_2, .int ((fi 0) wv.toNatClampNeg), .int (vi 8), .int (vi 9), .int (vi 10)])), ((a 1), .inl (T 0, 940, .inl (fi 0)))] H from ⟨hP, hD⟩)
                                    refine lv_goto (tgt := 366) hx hb dX6_advance_323 (by decide) ?_
                                    have hP9 := hP.sub (ws' := [((a 0), .inr (6, [.ref (a 1), .ref (ex 0), .int (vi 0), .int (vi 1), .int (vi 2), .int z265_2, .int 3, .int wv, .long wv_1, .int wv_2, .int ((fi 0) wv.toNatClampNeg), .int (vi 8), .int (vi 9), .int (vi 10)])), ((a 1), .inl (T 0, 940, .inl (fi 0)))]) [0, 1] rfl
                                    have hD9 := hD.sub (ws' := [((a 0), .inr (6, [.ref (a 1), .ref (ex 0), .int (vi 0), .int (vi 1), .int (vi 2), .int z265_2, .int 3, .int wv, .long wv_1, .int wv_2, .int ((fi 0) wv.toNatClampNeg), .int (vi 8), .int (vi 9), .int (vi 10)])), ((a 1), .inl (T 0, 940, .inl (fi 0)))]) [0, 1] (by decide +kernel) rfl
                                    rw [hQ]
                                    exact W.vret hx hb hr (fun t ht hW => ⟨⟨(0 : Int32), rfl, trivial, xf [], xh [], xv [3, wv, ((fi 0) wv.toNatClampNeg), wv_2, z265_2], xl [wv_1], by rw [ht]; exact hP9, hD9, ⟨(by show 0 ≤ z265_2.toInt ∧ z265_2.toInt ≤ 940; omega), trivial⟩⟩, hS.F ht⟩) hS.2.2 dX6_advance_366
                      · have c218 := xngt (k := 57) (by decide) c218
                        obtain ⟨i221, ei221⟩ : ∃ z : Int32, w2 + Int32.ofInt 1 = z := ⟨_, rfl⟩
                        have ti221 : i221.toInt = w2.toInt + 1 := by rw [← ei221]; have h79 := xrng w2; exact xadd rfl (by decide) (by omega) (by omega)
                        refine lv_iinc (v := i221) (lv' := [(2, .int i221), (3, .int ((fi 0) wv_3.toNatClampNeg)), (1, .int w1), (0, .ref (a 0))]) hx hb dX6_advance_221 hl (k := 1) rfl ei221 (by decide) rfl (fun ls hl => ?_)
                        refine lv_aload_n hx hb dX6_advance_224 rfl (lv_at hl 3 rfl) ?_
                        refine lv_aload_n hx hb dX6_advance_225 rfl (lv_at hl 3 rfl) ?_
                        refine va_get (D := D) (ci := 6) (v := .int wv_2) (C := RX6) (T := TX6) (N := 14) hx hb htg inX6 hown hK.1 hP 0 rfl rfl 9 (by decide) (htg _ kw_110) (fun _ h9 => h9) rfl dX6_advance_226 ?_
                        refine lv_bipush (v := 10) hx hb dX6_advance_229 (by decide) ?_
                        refine lv_imul hx hb dX6_advance_231 ?_
                        refine lv_topi (fun z231 ez231 => ?_)
                        refine lv_iload_n hx hb dX6_advance_232 rfl (lv_at hl 1 rfl) ?_
                        refine lv_iadd hx hb dX6_advance_233 ?_
                        refine lv_topi (fun z233 ez233 => ?_)
                        refine lv_bipush (v := 48) hx hb dX6_advance_234 (by decide) ?_
                        refine lv_isub hx hb dX6_advance_236 ?_
                        refine lv_topi (fun z236 ez236 => ?_)
                        refine va_put (D := D) (ci := 6) (v := .int z236) (ty := .int) (C := RX6) (T := TX6) (N := 14) hx hb htg inX6 tyX6 tyX6_ok nmX6 hown hK.1 hP hD hS 0 rfl rfl 9 (by decide) (htg _ kw_110) (fun _ h9 => h9) rfl (by decide +kernel) rfl rfl (Nat.le_of_ble_eq_true rfl) dX6_advance_237 (fun H locs hP hD hS => ?_)
                        obtain ⟨hP, hD⟩ := (show xPD D A [((a 0), .inr (6, [.ref (a 1), .ref (ex 0), .int (vi 0), .int (vi 1), .int (vi 2), .int wv_3, .int (vi 4), .int wv, .long wv_1, .int z236, .int ((fi 0) wv.toNatClampNeg), .int (vi 8), .int (vi 9), .int (vi 10)])), ((a 1), .inl (T 0, 940, .inl (fi 0)))] H from ⟨hP, hD⟩)
                        refine lv_aload_n hx hb dX6_advance_240 rfl (lv_at hl 3 rfl) ?_
                        refine lv_dup hx hb dX6_advance_241 rfl ?_
                        refine va_get (D := D) (ci := 6) (v := .int wv_3) (C := RX6) (T := TX6) (N := 14) hx hb htg inX6 hown hK.1 hP 0 rfl rfl 5 (by decide) (htg _ kw_100) (fun _ h9 => h9) rfl dX6_advance_242 ?_
                        refine lv_iconst (v := 1) hx hb dX6_advance_245 (by decide) ?_
                        refine lv_iadd hx hb dX6_advance_246 ?_
                        refine lv_topi (fun z246 ez246 => ?_)
                        have tz246 : z246.toInt = wv_3.toInt + 1 := by rw [ez246]; exact xadd rfl (by decide) (by omega) (by omega)
                        refine va_put (D := D) (ci := 6) (v := .int z246) (ty := .int) (C := RX6) (T := TX6) (N := 14) hx hb htg inX6 tyX6 tyX6_ok nmX6 hown hK.1 hP hD hS 0 rfl rfl 5 (by decide) (htg _ kw_100) (fun _ h9 => h9) rfl (by decide +kernel) rfl rfl (Nat.le_of_ble_eq_true rfl) dX6_advance_247 (fun H locs hP hD hS => ?_)
                        obtain ⟨hP, hD⟩ := (show xPD D A [((a 0), .inr (6, [.ref (a 1), .ref (ex 0), .int (vi 0), .int (vi 1), .int (vi 2), .int z246, .int (vi 4), .int wv, .long wv_1, .int z236, .int ((fi 0) wv.toNatClampNeg), .int (vi 8), .int (vi 9), .int (vi 10)])), ((a 1), .inl (T 0, 940, .inl (fi 0)))] H from ⟨hP, hD⟩)
                        refine lv_goto (tgt := 156) hx hb dX6_advance_250 (by decide) ?_
                        exact ih_1 _ (by omega) i221 w1 wv_1 z236 z246 _ _ _ (by show 0 ≤ i221.toInt ∧ i221.toInt ≤ 940; omega) hi_2 (by show 0 ≤ z246.toInt ∧ z246.toInt ≤ 940; omega) (by show (z246).toInt = (wv).toInt + w1.toInt + i221.toInt; first | omega | assumption) rfl (hP.sub [0, 1] rfl) (hD.sub [0, 1] (by decide) rfl) hS (lv_sub hl [0, 2, 3] rfl)
                  · have c180 := xnlt (k := 97) (by decide) c180
                    refine lv_iload_n hx hb dX6_advance_183 rfl (lv_at hl 0 rfl) ?_
                    refine lv_bipush (v := 122) hx hb dX6_advance_184 (by decide) ?_
                    refine lv_icmp_gt (tgt := 209) hx hb dX6_advance_186 (by decide) (fun c186 => ?_) (fun c186 => ?_)
                    · have c186 := xgt (k := 122) (by decide) c186
                      refine lv_iload_n hx hb dX6_advance_209 rfl (lv_at hl 0 rfl) ?_
                      refine lv_bipush (v := 48) hx hb dX6_advance_210 (by decide) ?_
                      refine lv_icmp_lt (tgt := 253) hx hb dX6_advance_212 (by decide) (fun c => by exfalso; have h9 := xlt (k := 48) (by decide) c; have h7 := xrng ((fi 0) wv_3.toNatClampNeg); omega) (fun _ => ?_)
                      refine lv_iload_n hx hb dX6_advance_215 rfl (lv_at hl 0 rfl) ?_
                      refine lv_bipush (v := 57) hx hb dX6_advance_216 (by decide) ?_
                      refine lv_icmp_gt (tgt := 253) hx hb dX6_advance_218 (by decide) (fun _ => ?_) (fun c => by exfalso; have h9 := xngt (k := 57) (by decide) c; have h7 := xrng ((fi 0) wv_3.toNatClampNeg); omega)
                      refine lv_iload_n hx hb dX6_advance_253 rfl (lv_at hl 2 rfl) ?_
                      refine lv_iload_n hx hb dX6_advance_254 rfl (lv_at hl 1 rfl) ?_
                      refine lv_iadd hx hb dX6_advance_255 ?_
                      refine lv_topi (fun z255_3 ez255_3 => ?_)
                      have tz255_3 : z255_3.toInt = w1.toInt + w2.toInt := by rw [ez255_3]; exact xadd rfl rfl (by omega) (by omega)
                      refine lv_if_ne (tgt := 326) hx hb dX6_advance_256 (by decide) (fun c256_3 => ?_) (fun c256_3 => ?_)
                      · have c256_3 := xne (k := 0) (by decide) c256_3
                        refine lv_iload_n hx hb dX6_advance_326 rfl (lv_at hl 1 rfl) ?_
                        refine lv_if_ne (tgt := 348) hx hb dX6_advance_327 (by decide) (fun c327_3 => ?_) (fun c327_3 => ?_)
                        · have c327_3 := xne (k := 0) (by decide) c327_3
                          refine lv_aload_n hx hb dX6_advance_348 rfl (lv_at hl 3 rfl) ?_
                          refine lv_iload_n hx hb dX6_advance_349 rfl (lv_at hl 2 rfl) ?_
                          refine lv_if_ne (tgt := 362) hx hb dX6_advance_350 (by decide) (fun c350_3 => ?_) (fun c350_3 => ?_)
                          · have c350_3 := xne (k := 0) (by decide) c350_3
                            refine lv_iconst (v := 4) hx hb dX6_advance_362 (by decide) ?_
                            refine va_put (D := D) (ci := 6) (v := .int 4) (ty := .int) (C := RX6) (T := TX6) (N := 14) hx hb htg inX6 tyX6 tyX6_ok nmX6 hown hK.1 hP hD hS 0 rfl rfl 6 (by decide) (htg _ kw_104) (fun _ h9 => h9) rfl (by decide +kernel) rfl rfl (Nat.le_of_ble_eq_true rfl) dX6_advance_363 (fun H locs hP hD hS => ?_)
                            obtain ⟨hP, hD⟩ := (show xPD D A [((a 0), .inr (6, [.ref (a 1), .ref (ex 0), .int (vi 0), .int (vi 1), .int (vi 2), .int wv_3, .int 4, .int wv, .long wv_1, .int wv_2, .int ((fi 0) wv.toNatClampNeg), .int (vi 8), .int (vi 9), .int (vi 10)])), ((a 1), .inl (T 0, 940, .inl (fi 0)))] H from ⟨hP, hD⟩)
                            have hP9 := hP.sub (ws' := [((a 0), .inr (6, [.ref (a 1), .ref (ex 0), .int (vi 0), .int (vi 1), .int (vi 2), .int wv_3, .int 4, .int wv, .long wv_1, .int wv_2, .int ((fi 0) wv.toNatClampNeg), .int (vi 8), .int (vi 9), .int (vi 10)])), ((a 1), .inl (T 0, 940, .inl (fi 0)))]) [0, 1] rfl
                            have hD9 := hD.sub (ws' := [((a 0), .inr (6, [.ref (a 1), .ref (ex 0), .int (vi 0), .int (vi 1), .int (vi 2), .int wv_3, .int 4, .int wv, .long wv_1, .int wv_2, .int ((fi 0) wv.toNatClampNeg), .int (vi 8), .int (vi 9), .int (vi 10)])), ((a 1), .inl (T 0, 940, .inl (fi 0)))]) [0, 1] (by decide +kernel) rfl
                            rw [hQ]
                            exact W.vret hx hb hr (fun t ht hW => ⟨⟨(0 : Int32), rfl, trivial, xf [], xh [], xv [4, wv, ((fi 0) wv.toNatClampNeg), wv_2, wv_3], xl [wv_1], by rw [ht]; exact hP9, hD9, ⟨hi_3, trivial⟩⟩, hS.F ht⟩) hS.2.2 dX6_advance_366
                          · have c350_3 := xeq (k := 0) (by decide) c350_3
                            refine lv_iload_n hx hb dX6_advance_353 rfl (lv_at hl 1 rfl) ?_
                            refine lv_iconst (v := 3) hx hb dX6_advance_354 (by decide) ?_
                            refine lv_icmp_gt (tgt := 362) hx hb dX6_advance_355 (by decide) (fun c355_3 => ?_) (fun c355_3 => ?_)
                            · have c355_3 := xgt (k := 3) (by decide) c355_3
                              refine lv_iconst (v := 4) hx hb dX6_advance_362 (by decide) ?_
                              refine va_put (D := D) (ci := 6) (v := .int 4) (ty := .int) (C := RX6) (T := TX6) (N := 14) hx hb htg inX6 tyX6 tyX6_ok nmX6 hown hK.1 hP hD hS 0 rfl rfl 6 (by decide) (htg _ kw_104) (fun _ h9 => h9) rfl (by decide +kernel) rfl rfl (Nat.le_of_ble_eq_true rfl) dX6_advance_363 (fun H locs hP hD hS => ?_)
                              obtain ⟨hP, hD⟩ := (show xPD D A [((a 0), .inr (6, [.ref (a 1), .ref (ex 0), .int (vi 0), .int (vi 1), .int (vi 2), .int wv_3, .int 4, .int wv, .long wv_1, .int wv_2, .int ((fi 0) wv.toNatClampNeg), .int (vi 8), .int (vi 9), .int (vi 10)])), ((a 1), .inl (T 0, 940, .inl (fi 0)))] H from ⟨hP, hD⟩)
                              have hP9 := hP.sub (ws' := [((a 0), .inr (6, [.ref (a 1), .ref (ex 0), .int (vi 0), .int (vi 1), .int (vi 2), .int wv_3, .int 4, .int wv, .long wv_1, .int wv_2, .int ((fi 0) wv.toNatClampNeg), .int (vi 8), .int (vi 9), .int (vi 10)])), ((a 1), .inl (T 0, 940, .inl (fi 0)))]) [0, 1] rfl
                              have hD9 := hD.sub (ws' := [((a 0), .inr (6, [.ref (a 1), .ref (ex 0), .int (vi 0), .int (vi 1), .int (vi 2), .int wv_3, .int 4, .int wv, .long wv_1, .int wv_2, .int ((fi 0) wv.toNatClampNeg), .int (vi 8), .int (vi 9), .int (vi 10)])), ((a 1), .inl (T 0, 940, .inl (fi 0)))]) [0, 1] (by decide +kernel) rfl
                              rw [hQ]
                              exact W.vret hx hb hr (fun t ht hW => ⟨⟨(0 : Int32), rfl, trivial, xf [], xh [], xv [4, wv, ((fi 0) wv.toNatClampNeg), wv_2, wv_3], xl [wv_1], by rw [ht]; exact hP9, hD9, ⟨hi_3, trivial⟩⟩, hS.F ht⟩) hS.2.2 dX6_advance_366
                            · have c355_3 := xngt (k := 3) (by decide) c355_3
                              refine lv_iconst (v := 2) hx hb dX6_advance_358 (by decide) ?_
                              refine lv_goto (tgt := 363) hx hb dX6_advance_359 (by decide) ?_
                              refine va_put (D := D) (ci := 6) (v := .int 2) (ty := .int) (C := RX6) (T := TX6) (N := 14) hx hb htg inX6 tyX6 tyX6_ok nmX6 hown hK.1 hP hD hS 0 rfl rfl 6 (by decide) (htg _ kw_104) (fun _ h9 => h9) rfl (by decide +kernel) rfl rfl (Nat.le_of_ble_eq_true rfl) dX6_advance_363 (fun H locs hP hD hS => ?_)
                              obtain ⟨hP, hD⟩ := (show xPD D A [((a 0), .inr (6, [.ref (a 1), .ref (ex 0), .int (vi 0), .int (vi 1), .int (vi 2), .int wv_3, .int 2, .int wv, .long wv_1, .int wv_2, .int ((fi 0) wv.toNatClampNeg), .int (vi 8), .int (vi 9), .int (vi 10)])), ((a 1), .inl (T 0, 940, .inl (fi 0)))] H from ⟨hP, hD⟩)
                              have hP9 := hP.sub (ws' := [((a 0), .inr (6, [.ref (a 1), .ref (ex 0), .int (vi 0), .int (vi 1), .int (vi 2), .int wv_3, .int 2, .int wv, .long wv_1, .int wv_2, .int ((fi 0) wv.toNatClampNeg), .int (vi 8), .int (vi 9), .int (vi 10)])), ((a 1), .inl (T 0, 940, .inl (fi 0)))]) [0, 1] rfl
                              have hD9 := hD.sub (ws' := [((a 0), .inr (6, [.ref (a 1), .ref (ex 0), .int (vi 0), .int (vi 1), .int (vi 2), .int wv_3, .int 2, .int wv, .long wv_1, .int wv_2, .int ((fi 0) wv.toNatClampNeg), .int (vi 8), .int (vi 9), .int (vi 10)])), ((a 1), .inl (T 0, 940, .inl (fi 0)))]) [0, 1] (by decide +kernel) rfl
                              rw [hQ]
                              exact W.vret hx hb hr (fun t ht hW => ⟨⟨(0 : Int32), rfl, trivial, xf [], xh [], xv [2, wv, ((fi 0) wv.toNatClampNeg), wv_2, wv_3], xl [wv_1], by rw [ht]; exact hP9, hD9, ⟨hi_3, trivial⟩⟩, hS.F ht⟩) hS.2.2 dX6_advance_366
                        · have c327_3 := xeq (k := 0) (by decide) c327_3
                          refine lv_aload_n hx hb dX6_advance_330 rfl (lv_at hl 3 rfl) ?_
                          refine lv_iload_n hx hb dX6_advance_331 rfl (lv_at hl 2 rfl) ?_
                          refine lv_bipush (v := 7) hx hb dX6_advance_332 (by decide) ?_
                          refine lv_icmp_gt (tgt := 341) hx hb dX6_advance_334 (by decide) (fun c334_3 => ?_) (fun c334_3 => ?_)
                          · have c334_3 := xgt (k := 7) (by decide) c334_3
                            refine lv_iconst (v := 4) hx hb dX6_advance_341 (by decide) ?_
                            refine va_put (D := D) (ci := 6) (v := .int 4) (ty := .int) (C := RX6) (T := TX6) (N := 14) hx hb htg inX6 tyX6 tyX6_ok nmX6 hown hK.1 hP hD hS 0 rfl rfl 6 (by decide) (htg _ kw_104) (fun _ h9 => h9) rfl (by decide +kernel) rfl rfl (Nat.le_of_ble_eq_true rfl) dX6_advance_342 (fun H locs hP hD hS => ?_)
                            obtain ⟨hP, hD⟩ := (show xPD D A [((a 0), .inr (6, [.ref (a 1), .ref (ex 0), .int (vi 0), .int (vi 1), .int (vi 2), .int wv_3, .int 4, .int wv, .long wv_1, .int wv_2, .int ((fi 0) wv.toNatClampNeg), .int (vi 8), .int (vi 9), .int (vi 10)])), ((a 1), .inl (T 0, 940, .inl (fi 0)))] H from ⟨hP, hD⟩)
                            refine lv_goto (tgt := 366) hx hb dX6_advance_345 (by decide) ?_
                            have hP9 := hP.sub (ws' := [((a 0), .inr (6, [.ref (a 1), .ref (ex 0), .int (vi 0), .int (vi 1), .int (vi 2), .int wv_3, .int 4, .int wv, .long wv_1, .int wv_2, .int ((fi 0) wv.toNatClampNeg), .int (vi 8), .int (vi 9), .int (vi 10)])), ((a 1), .inl (T 0, 940, .inl (fi 0)))]) [0, 1] rfl
                            have hD9 := hD.sub (ws' := [((a 0), .inr (6, [.ref (a 1), .ref (ex 0), .int (vi 0), .int (vi 1), .int (vi 2), .int wv_3, .int 4, .int wv, .long wv_1, .int wv_2, .int ((fi 0) wv.toNatClampNeg), .int (vi 8), .int (vi 9), .int (vi 10)])), ((a 1), .inl (T 0, 940, .inl (fi 0)))]) [0, 1] (by decide +kernel) rfl
                            rw [hQ]
                            exact W.vret hx hb hr (fun t ht hW => ⟨⟨(0 : Int32), rfl, trivial, xf [], xh [], xv [4, wv, ((fi 0) wv.toNatClampNeg), wv_2, wv_3], xl [wv_1], by rw [ht]; exact hP9, hD9, ⟨hi_3, trivial⟩⟩, hS.F ht⟩) hS.2.2 dX6_advance_366
                          · have c334_3 := xngt (k := 7) (by decide) c334_3
                            refine lv_iconst (v := 1) hx hb dX6_advance_337 (by decide) ?_
                            refine lv_goto (tgt := 342) hx hb dX6_advance_338 (by decide) ?_
                            refine va_put (D := D) (ci := 6) (v := .int 1) (ty := .int) (C := RX6) (T := TX6) (N := 14) hx hb htg inX6 tyX6 tyX6_ok nmX6 hown hK.1 hP hD hS 0 rfl rfl 6 (by decide) (htg _ kw_104) (fun _ h9 => h9) rfl (by decide +kernel) rfl rfl (Nat.le_of_ble_eq_true rfl) dX6_advance_342 (fun H locs hP hD hS => ?_)
                            obtain ⟨hP, hD⟩ := (show xPD D A [((a 0), .inr (6, [.ref (a 1), .ref (ex 0), .int (vi 0), .int (vi 1), .int (vi 2), .int wv_3, .int 1, .int wv, .long wv_1, .int wv_2, .int ((fi 0) wv.toNatClampNeg), .int (vi 8), .int (vi 9), .int (vi 10)])), ((a 1), .inl (T 0, 940, .inl (fi 0)))] H from ⟨hP, hD⟩)
                            refine lv_goto (tgt := 366) hx hb dX6_advance_345 (by decide) ?_
                            have hP9 := hP.sub (ws' := [((a 0), .inr (6, [.ref (a 1), .ref (ex 0), .int (vi 0), .int (vi 1), .int (vi 2), .int wv_3, .int 1, .int wv, .long wv_1, .int wv_2, .int ((fi 0) wv.toNatClampNeg), .int (vi 8), .int (vi 9), .int (vi 10)])), ((a 1), .inl (T 0, 940, .inl (fi 0)))]) [0, 1] rfl
                            have hD9 := hD.sub (ws' := [((a 0), .inr (6, [.ref (a 1), .ref (ex 0), .int (vi 0), .int (vi 1), .int (vi 2), .int wv_3, .int 1, .int wv, .long wv_1, .int wv_2, .int ((fi 0) wv.toNatClampNeg), .int (vi 8), .int (vi 9), .int (vi 10)])), ((a 1), .inl (T 0, 940, .inl (fi 0)))]) [0, 1] (by decide +kernel) rfl
                            rw [hQ]
                            exact W.vret hx hb hr (fun t ht hW => ⟨⟨(0 : Int32), rfl, trivial, xf [], xh [], xv [1, wv, ((fi 0) wv.toNatClampNeg), wv_2, wv_3], xl [wv_1], by rw [ht]; exact hP9, hD9, ⟨hi_3, trivial⟩⟩, hS.F ht⟩) hS.2.2 dX6_advance_366
                      · have c256_3 := xeq (k := 0) (by decide) c256_3
                        refine lv_aload_n hx hb dX6_advance_259 rfl (lv_at hl 3 rfl) ?_
                        refine lv_dup hx hb dX6_advance_260 rfl ?_
                        refine va_get (D := D) (ci := 6) (v := .int wv_3) (C := RX6) (T := TX6) (N := 14) hx hb htg inX6 hown hK.1 hP 0 rfl rfl 5 (by decide) (htg _ kw_100) (fun _ h9 => h9) rfl dX6_advance_261 ?_
                        refine lv_iconst (v := 1) hx hb dX6_advance_264 (by decide) ?_
                        refine lv_iadd hx hb dX6_advance_265 ?_
                        refine lv_topi (fun z265_3 ez265_3 => ?_)
                        have tz265_3 : z265_3.toInt = wv_3.toInt + 1 := by rw [ez265_3]; exact xadd rfl (by decide) (by omega) (by omega)
                        refine va_put (D := D) (ci := 6) (v := .int z265_3) (ty := .int) (C := RX6) (T := TX6) (N := 14) hx hb htg inX6 tyX6 tyX6_ok nmX6 hown hK.1 hP hD hS 0 rfl rfl 5 (by decide) (htg _ kw_100) (fun _ h9 => h9) rfl (by decide +kernel) rfl rfl (Nat.le_of_ble_eq_true rfl) dX6_advance_266 (fun H locs hP hD hS => ?_)
                        obtain ⟨hP, hD⟩ := (show xPD D A [((a 0), .inr (6, [.ref (a 1), .ref (ex 0), .int (vi 0), .int (vi 1), .int (vi 2), .int z265_3, .int (vi 4), .int wv, .long wv_1, .int wv_2, .int ((fi 0) wv.toNatClampNeg), .int (vi 8), .int (vi 9), .int (vi 10)])), ((a 1), .inl (T 0, 940, .inl (fi 0)))] H from ⟨hP, hD⟩)
                        refine lv_aload_n hx hb dX6_advance_269 rfl (lv_at hl 3 rfl) ?_
                        refine lv_aload_n hx hb dX6_advance_270 rfl (lv_at hl 3 rfl) ?_
                        refine va_get (D := D) (ci := 6) (v := .int ((fi 0) wv.toNatClampNeg)) (C := RX6) (T := TX6) (N := 14) hx hb htg inX6 hown hK.1 hP 0 rfl rfl 10 (by decide) (htg _ kw_111) (fun _ h9 => h9) rfl dX6_advance_271 ?_
                        refine lv_bipush (v := 59) hx hb dX6_advance_274 (by decide) ?_
                        refine lv_icmp_eq (tgt := 315) hx hb dX6_advance_276 (by decide) (fun c276_3 => ?_) (fun c276_3 => ?_)
                        · have c276_3 := xeq (k := 59) (by decide) c276_3
                          refine lv_iconst (v := 3) hx hb dX6_advance_315 (by decide) ?_
                          refine lv_goto (tgt := 320) hx hb dX6_advance_316 (by decide) ?_
                          refine va_put (D := D) (ci := 6) (v := .int 3) (ty := .int) (C := RX6) (T := TX6) (N := 14) hx hb htg inX6 tyX6 tyX6_ok nmX6 hown hK.1 hP hD hS 0 rfl rfl 6 (by decide) (htg _ kw_104) (fun _ h9 => h9) rfl (by decide +kernel) rfl rfl (Nat.le_of_ble_eq_true rfl) dX6_advance_320 (fun H locs hP hD hS => ?_)
                          obtain ⟨hP, hD⟩ := (show xPD D A [((a 0), .inr (6, [.ref (a 1), .ref (ex 0), .int (vi 0), .int (vi 1), .int (vi 2), .int z265_3, .int 3, .int wv, .long wv_1, .int wv_2, .int ((fi 0) wv.toNatClampNeg), .int (vi 8), .int (vi 9), .int (vi 10)])), ((a 1), .inl (T 0, 940, .inl (fi 0)))] H from ⟨hP, hD⟩)
                          refine lv_goto (tgt := 366) hx hb dX6_advance_323 (by decide) ?_
                          have hP9 := hP.sub (ws' := [((a 0), .inr (6, [.ref (a 1), .ref (ex 0), .int (vi 0), .int (vi 1), .int (vi 2), .int z265_3, .int 3, .int wv, .long wv_1, .int wv_2, .int ((fi 0) wv.toNatClampNeg), .int (vi 8), .int (vi 9), .int (vi 10)])), ((a 1), .inl (T 0, 940, .inl (fi 0)))]) [0, 1] rfl
                          have hD9 := hD.sub (ws' := [((a 0), .inr (6, [.ref (a 1), .ref (ex 0), .int (vi 0), .int (vi 1), .int (vi 2), .int z265_3, .int 3, .int wv, .long wv_1, .int wv_2, .int ((fi 0) wv.toNatClampNeg), .int (vi 8), .int (vi 9), .int (vi 10)])), ((a 1), .inl (T 0, 940, .inl (fi 0)))]) [0, 1] (by decide +kernel) rfl
                          rw [hQ]
                          exact W.vret hx hb hr (fun t ht hW => ⟨⟨(0 : Int32), rfl, trivial, xf [], xh [], xv [3, wv, ((fi 0) wv.toNatClampNeg), wv_2, z265_3], xl [wv_1], by rw [ht]; exact hP9, hD9, ⟨(by show 0 ≤ z265_3.toInt ∧ z265_3.toInt ≤ 940; omega), trivial⟩⟩, hS.F ht⟩) hS.2.2 dX6_advance_366
                        · have c276_3 := xne (k := 59) (by decide) c276_3
                          refine lv_aload_n hx hb dX6_advance_279 rfl (lv_at hl 3 rfl) ?_
                          refine va_get (D := D) (ci := 6) (v := .int ((fi 0) wv.toNatClampNeg)) (C := RX6) (T := TX6) (N := 14) hx hb htg inX6 hown hK.1 hP 0 rfl rfl 10 (by decide) (htg _ kw_111) (fun _ h9 => h9) rfl dX6_advance_280 ?_
                          refine lv_bipush (v := 40) hx hb dX6_advance_283 (by decide) ?_
                          refine lv_icmp_eq (tgt := 315) hx hb dX6_advance_285 (by decide) (fun c285_3 => ?_) (fun c285_3 => ?_)
                          · have c285_3 := xeq (k := 40) (by decide) c285_3
                            refine lv_iconst (v := 3) hx hb dX6_advance_315 (by decide) ?_
                            refine lv_goto (tgt := 320) hx hb dX6_advance_316 (by decide) ?_
                            refine va_put (D := D) (ci := 6) (v := .int 3) (ty := .int) (C := RX6) (T := TX6) (N := 14) hx hb htg inX6 tyX6 tyX6_ok nmX6 hown hK.1 hP hD hS 0 rfl rfl 6 (by decide) (htg _ kw_104) (fun _ h9 => h9) rfl (by decide +kernel) rfl rfl (Nat.le_of_ble_eq_true rfl) dX6_advance_320 (fun H locs hP hD hS => ?_)
                            obtain ⟨hP, hD⟩ := (show xPD D A [((a 0), .inr (6, [.ref (a 1), .ref (ex 0), .int (vi 0), .int (vi 1), .int (vi 2), .int z265_3, .int 3, .int wv, .long wv_1, .int wv_2, .int ((fi 0) wv.toNatClampNeg), .int (vi 8), .int (vi 9), .int (vi 10)])), ((a 1), .inl (T 0, 940, .inl (fi 0)))] H from ⟨hP, hD⟩)
                            refine lv_goto (tgt := 366) hx hb dX6_advance_323 (by decide) ?_
                            have hP9 := hP.sub (ws' := [((a 0), .inr (6, [.ref (a 1), .ref (ex 0), .int (vi 0), .int (vi 1), .int (vi 2), .int z265_3, .int 3, .int wv, .long wv_1, .int wv_2, .int ((fi 0) wv.toNatClampNeg), .int (vi 8), .int (vi 9), .int (vi 10)])), ((a 1), .inl (T 0, 940, .inl (fi 0)))]) [0, 1] rfl
                            have hD9 := hD.sub (ws' := [((a 0), .inr (6, [.ref (a 1), .ref (ex 0), .int (vi 0), .int (vi 1), .int (vi 2), .int z265_3, .int 3, .int wv, .long wv_1, .int wv_2, .int ((fi 0) wv.toNatClampNeg), .int (vi 8), .int (vi 9), .int (vi 10)])), ((a 1), .inl (T 0, 940, .inl (fi 0)))]) [0, 1] (by decide +kernel) rfl
                            rw [hQ]
                            exact W.vret hx hb hr (fun t ht hW => ⟨⟨(0 : Int32), rfl, trivial, xf [], xh [], xv [3, wv, ((fi 0) wv.toNatClampNeg), wv_2, z265_3], xl [wv_1], by rw [ht]; exact hP9, hD9, ⟨(by show 0 ≤ z265_3.toInt ∧ z265_3.toInt ≤ 940; omega), trivial⟩⟩, hS.F ht⟩) hS.2.2 dX6_advance_366
                          · have c285_3 := xne (k := 40) (by decide) c285_3
                            refine lv_aload_n hx hb dX6_advance_288 rfl (lv_at hl 3 rfl) ?_
                            refine va_get (D := D) (ci := 6) (v := .int ((fi 0) wv.toNatClampNeg)) (C := RX6) (T := TX6) (N := 14) hx hb htg inX6 hown hK.1 hP 0 rfl rfl 10 (by decide) (htg _ kw_111) (fun _ h9 => h9) rfl dX6_advance_289 ?_
                            refine lv_bipush (v := 41) hx hb dX6_advance_292 (by decide) ?_
                            refine lv_icmp_eq (tgt := 315) hx hb dX6_advance_294 (by decide) (fun c294_3 => ?_) (fun c294_3 => ?_)
                            · have c294_3 := xeq (k := 41) (by decide) c294_3
                              refine lv_iconst (v := 3) hx hb dX6_advance_315 (by decide) ?_
                              refine lv_goto (tgt := 320) hx hb dX6_advance_316 (by decide) ?_
                              refine va_put (D := D) (ci := 6) (v := .int 3) (ty := .int) (C := RX6) (T := TX6) (N := 14) hx hb htg inX6 tyX6 tyX6_ok nmX6 hown hK.1 hP hD hS 0 rfl rfl 6 (by decide) (htg _ kw_104) (fun _ h9 => h9) rfl (by decide +kernel) rfl rfl (Nat.le_of_ble_eq_true rfl) dX6_advance_320 (fun H locs hP hD hS => ?_)
                              obtain ⟨hP, hD⟩ := (show xPD D A [((a 0), .inr (6, [.ref (a 1), .ref (ex 0), .int (vi 0), .int (vi 1), .int (vi 2), .int z265_3, .int 3, .int wv, .long wv_1, .int wv_2, .int ((fi 0) wv.toNatClampNeg), .int (vi 8), .int (vi 9), .int (vi 10)])), ((a 1), .inl (T 0, 940, .inl (fi 0)))] H from ⟨hP, hD⟩)
                              refine lv_goto (tgt := 366) hx hb dX6_advance_323 (by decide) ?_
                              have hP9 := hP.sub (ws' := [((a 0), .inr (6, [.ref (a 1), .ref (ex 0), .int (vi 0), .int (vi 1), .int (vi 2), .int z265_3, .int 3, .int wv, .long wv_1, .int wv_2, .int ((fi 0) wv.toNatClampNeg), .int (vi 8), .int (vi 9), .int (vi 10)])), ((a 1), .inl (T 0, 940, .inl (fi 0)))]) [0, 1] rfl
                              have hD9 := hD.sub (ws' := [((a 0), .inr (6, [.ref (a 1), .ref (ex 0), .int (vi 0), .int (vi 1), .int (vi 2), .int z265_3, .int 3, .int wv, .long wv_1, .int wv_2, .int ((fi 0) wv.toNatClampNeg), .int (vi 8), .int (vi 9), .int (vi 10)])), ((a 1), .inl (T 0, 940, .inl (fi 0)))]) [0, 1] (by decide +kernel) rfl
                              rw [hQ]
                              exact W.vret hx hb hr (fun t ht hW => ⟨⟨(0 : Int32), rfl, trivial, xf [], xh [], xv [3, wv, ((fi 0) wv.toNatClampNeg), wv_2, z265_3], xl [wv_1], by rw [ht]; exact hP9, hD9, ⟨(by show 0 ≤ z265_3.toInt ∧ z265_3.toInt ≤ 940; omega), trivial⟩⟩, hS.F ht⟩) hS.2.2 dX6_advance_366
                            · have c294_3 := xne (k := 41) (by decide) c294_3
                              refine lv_aload_n hx hb dX6_advance_297 rfl (lv_at hl 3 rfl) ?_
                              refine va_get (D := D) (ci := 6) (v := .int ((fi 0) wv.toNatClampNeg)) (C := RX6) (T := TX6) (N := 14) hx hb htg inX6 hown hK.1 hP 0 rfl rfl 10 (by decide) (htg _ kw_111) (fun _ h9 => h9) rfl dX6_advance_298 ?_
                              refine lv_bipush (v := 60) hx hb dX6_advance_301 (by decide) ?_
                              refine lv_icmp_lt (tgt := 319) hx hb dX6_advance_303 (by decide) (fun c303_3 => ?_) (fun c303_3 => ?_)
                              · have c303_3 := xlt (k := 60) (by decide) c303_3
                                refine lv_iconst (v := 4) hx hb dX6_advance_319 (by decide) ?_
                                refine va_put (D := D) (ci := 6) (v := .int 4) (ty := .int) (C := RX6) (T := TX6) (N := 14) hx hb htg inX6 tyX6 tyX6_ok nmX6 hown hK.1 hP hD hS 0 rfl rfl 6 (by decide) (htg _ kw_104) (fun _ h9 => h9) rfl (by decide +kernel) rfl rfl (Nat.le_of_ble_eq_true rfl) dX6_advance_320 (fun H locs hP hD hS => ?_)
                                obtain ⟨hP, hD⟩ := (show xPD D A [((a 0), .inr (6, [.ref (a 1), .ref (ex 0), .int (vi 0), .int (vi 1), .int (vi 2), .int z265_3, .int 4, .int wv, .long wv_1, .int wv_2, .int ((fi 0) wv.toNatClampNeg), .int (vi 8), .int (vi 9), .int (vi 10)])), ((a 1), .inl (T 0, 940, .inl (fi 0)))] H from ⟨hP, hD⟩)
                                refine lv_goto (tgt := 366) hx hb dX6_advance_323 (by decide) ?_
                                have hP9 := hP.sub (ws' := [((a 0), .inr (6, [.ref (a 1), .ref (ex 0), .int (vi 0), .int (vi 1), .int (vi 2), .int z265_3, .int 4, .int wv, .long wv_1, .int wv_2, .int ((fi 0) wv.toNatClampNeg), .int (vi 8), .int (vi 9), .int (vi 10)])), ((a 1), .inl (T 0, 940, .inl (fi 0)))]) [0, 1] rfl
                                have hD9 := hD.sub (ws' := [((a 0), .inr (6, [.ref (a 1), .ref (ex 0), .int (vi 0), .int (vi 1), .int (vi 2), .int z265_3, .int 4, .int wv, .long wv_1, .int wv_2, .int ((fi 0) wv.toNatClampNeg), .int (vi 8), .int (vi 9), .int (vi 10)])), ((a 1), .inl (T 0, 940, .inl (fi 0)))]) [0, 1] (by decide +kernel) rfl
                                rw [hQ]
                                exact W.vret hx hb hr (fun t ht hW => ⟨⟨(0 : Int32), rfl, trivial, xf [], xh [], xv [4, wv, ((fi 0) wv.toNatClampNeg), wv_2, z265_3], xl [wv_1], by rw [ht]; exact hP9, hD9, ⟨(by show 0 ≤ z265_3.toInt ∧ z265_3.toInt ≤ 940; omega), trivial⟩⟩, hS.F ht⟩) hS.2.2 dX6_advance_366
                              · have c303_3 := xnlt (k := 60) (by decide) c303_3
                                refine lv_aload_n hx hb dX6_advance_306 rfl (lv_at hl 3 rfl) ?_
                                refine va_get (D := D) (ci := 6) (v := .int ((fi 0) wv.toNatClampNeg)) (C := RX6) (T := TX6) (N := 14) hx hb htg inX6 hown hK.1 hP 0 rfl rfl 10 (by decide) (htg _ kw_111) (fun _ h9 => h9) rfl dX6_advance_307 ?_
                                refine lv_bipush (v := 62) hx hb dX6_advance_310 (by decide) ?_
                                refine lv_icmp_gt (tgt := 319) hx hb dX6_advance_312 (by decide) (fun c312_3 => ?_) (fun c312_3 => ?_)
                                · have c312_3 := xgt (k := 62) (by decide) c312_3
                                  refine lv_iconst (v := 4) hx hb dX6_advance_319 (by decide) ?_
                                  refine va_put (D := D) (ci := 6) (v := .int 4) (ty := .int) (C := RX6) (T := TX6) (N := 14) hx hb htg inX6 tyX6 tyX6_ok nmX6 hown hK.1 hP hD hS 0 rfl rfl 6 (by decide) (htg _ kw_104) (fun _ h9 => h9) rfl (by decide +kernel) rfl rfl (Nat.le_of_ble_eq_true rfl) dX6_advance_320 (fun H locs hP hD hS => ?_)
                                  obtain ⟨hP, hD⟩ := (show xPD D A [((a 0), .inr (6, [.ref (a 1), .ref (ex 0), .int (vi 0), .int (vi 1), .int (vi 2), .int z265_3, .int 4, .int wv, .long wv_1, .int wv_2, .int ((fi 0) wv.toNatClampNeg), .int (vi 8), .int (vi 9), .int (vi 10)])), ((a 1), .inl (T 0, 940, .inl (fi 0)))] H from ⟨hP, hD⟩)
                                  refine lv_goto (tgt := 366) hx hb dX6_advance_323 (by decide) ?_
                                  have hP9 := hP.sub (ws' := [((a 0), .inr (6, [.ref (a 1), .ref (ex 0), .int (vi 0), .int (vi 1), .int (vi 2), .int z265_3, .int 4, .int wv, .long wv_1, .int wv_2, .int ((fi 0) wv.toNatClampNeg), .int (vi 8), .int (vi 9), .int (vi 10)])), ((a 1), .inl (T 0, 940, .inl (fi 0)))]) [0, 1] rfl
                                  have hD9 := hD.sub (ws' := [((a 0), .inr (6, [.ref (a 1), .ref (ex 0), .int (vi 0), .int (vi 1), .int (vi 2), .int z265_3, .int 4, .int wv, .long wv_1, .int wv_2, .int ((fi 0) wv.toNatClampNeg), .int (vi 8), .int (vi 9), .int (vi 10)])), ((a 1), .inl (T 0, 940, .inl (fi 0)))]) [0, 1] (by decide +kernel) rfl
                                  rw [hQ]
                                  exact W.vret hx hb hr (fun t ht hW => ⟨⟨(0 : Int32), rfl, trivial, xf [], xh [], xv [4, wv, ((fi 0) wv.toNatClampNeg), wv_2, z265_3], xl [wv_1], by rw [ht]; exact hP9, hD9, ⟨(by show 0 ≤ z265_3.toInt ∧ z265_3.toInt ≤ 940; omega), trivial⟩⟩, hS.F ht⟩) hS.2.2 dX6_advance_366
                                · have c312_3 := xngt (k := 62) (by decide) c312_3
                                  refine lv_iconst (v := 3) hx hb dX6_advance_315 (by decide) ?_
                                  refine lv_goto (tgt := 320) hx hb dX6_advance_316 (by decide) ?_
                                  refine va_put (D := D) (ci := 6) (v := .int 3) (ty := .int) (C := RX6) (T := TX6) (N := 14) hx hb htg inX6 tyX6 tyX6_ok nmX6 hown hK.1 hP hD hS 0 rfl rfl 6 (by decide) (htg _ kw_104) (fun _ h9 => h9) rfl (by decide +kernel) rfl rfl (Nat.le_of_ble_eq_true rfl) dX6_advance_320 (fun H locs hP hD hS => ?_)
                                  obtain ⟨hP, hD⟩ := (show xPD D A [((a 0), .inr (6, [.ref (a 1), .ref (ex 0), .int (vi 0), .int (vi 1), .int (vi 2), .int z265_3, .int 3, .int wv, .long wv_1, .int wv_2, .int ((fi 0) wv.toNatClampNeg), .int (vi 8), .int (vi 9), .int (vi 10)])), ((a 1), .inl (T 0, 940, .inl (fi 0)))] H from ⟨hP, hD⟩)
                                  refine lv_goto (tgt := 366) hx hb dX6_advance_323 (by decide) ?_
                                  have hP9 := hP.sub (ws' := [((a 0), .inr (6, [.ref (a 1), .ref (ex 0), .int (vi 0), .int (vi 1), .int (vi 2), .int z265_3, .int 3, .int wv, .long wv_1, .int wv_2, .int ((fi 0) wv.toNatClampNeg), .int (vi 8), .int (vi 9), .int (vi 10)])), ((a 1), .inl (T 0, 940, .inl (fi 0)))]) [0, 1] rfl
                                  have hD9 := hD.sub (ws' := [((a 0), .inr (6, [.ref (a 1), .ref (ex 0), .int (vi 0), .int (vi 1), .int (vi 2), .int z265_3, .int 3, .int wv, .long wv_1, .int wv_2, .int ((fi 0) wv.toNatClampNeg), .int (vi 8), .int (vi 9), .int (vi 10)])), ((a 1), .inl (T 0, 940, .inl (fi 0)))]) [0, 1] (by decide +kernel) rfl
                                  rw [hQ]
                                  exact W.vret hx hb hr (fun t ht hW => ⟨⟨(0 : Int32), rfl, trivial, xf [], xh [], xv [3, wv, ((fi 0) wv.toNatClampNeg), wv_2, z265_3], xl [wv_1], by rw [ht]; exact hP9, hD9, ⟨(by show 0 ≤ z265_3.toInt ∧ z265_3.toInt ≤ 940; omega), trivial⟩⟩, hS.F ht⟩) hS.2.2 dX6_advance_366
                    · have c186 := xngt (k := 122) (by decide) c186
                      obtain ⟨i189, ei189⟩ : ∃ z : Int32, w1 + Int32.ofInt 1 = z := ⟨_, rfl⟩
                      have ti189 : i189.toInt = w1.toInt + 1 := by rw [← ei189]; have h79 := xrng w1; exact xadd rfl (by decide) (by omega) (by omega)
                      refine lv_iinc (v := i189) (lv' := [(1, .int i189), (3, .int ((fi 0) wv_3.toNatClampNeg)), (2, .int w2), (0, .ref (a 0))]) hx hb dX6_advance_189 hl (k := 2) rfl ei189 (by decide) rfl (fun ls hl => ?_)
                      refine lv_aload_n hx hb dX6_advance_192 rfl (lv_at hl 3 rfl) ?_
                      refine lv_aload_n hx hb dX6_advance_193 rfl (lv_at hl 3 rfl) ?_
                      refine va_get (D := D) (ci := 6) (v := .long wv_1) (C := RX6) (T := TX6) (N := 14) hx hb htg inX6 hown hK.1 hP 0 rfl rfl 8 (by decide) (htg _ kw_108) (fun _ h9 => h9) rfl dX6_advance_194 ?_
                      refine lv_bipush (v := 8) hx hb dX6_advance_197 (by decide) ?_
                      refine lv_lshl hx hb dX6_advance_199 rfl ?_
                      refine lv_topl (fun z199 ez199 => ?_)
                      refine lv_iload_n hx hb dX6_advance_200 rfl (lv_at hl 1 rfl) ?_
                      refine lv_i2l hx hb dX6_advance_201 rfl ?_
                      refine lv_topl (fun z201 ez201 => ?_)
                      refine lv_lor hx hb dX6_advance_202 ?_
                      refine lv_topl (fun z202 ez202 => ?_)
                      refine va_put (D := D) (ci := 6) (v := .long z202) (ty := .long) (C := RX6) (T := TX6) (N := 14) hx hb htg inX6 tyX6 tyX6_ok nmX6 hown hK.1 hP hD hS 0 rfl rfl 8 (by decide) (htg _ kw_108) (fun _ h9 => h9) rfl (by decide +kernel) rfl rfl (Nat.le_of_ble_eq_true rfl) dX6_advance_203 (fun H locs hP hD hS => ?_)
                      obtain ⟨hP, hD⟩ := (show xPD D A [((a 0), .inr (6, [.ref (a 1), .ref (ex 0), .int (vi 0), .int (vi 1), .int (vi 2), .int wv_3, .int (vi 4), .int wv, .long z202, .int wv_2, .int ((fi 0) wv.toNatClampNeg), .int (vi 8), .int (vi 9), .int (vi 10)])), ((a 1), .inl (T 0, 940, .inl (fi 0)))] H from ⟨hP, hD⟩)
                      refine lv_goto (tgt := 240) hx hb dX6_advance_206 (by decide) ?_
                      refine lv_aload_n hx hb dX6_advance_240 rfl (lv_at hl 3 rfl) ?_
                      refine lv_dup hx hb dX6_advance_241 rfl ?_
                      refine va_get (D := D) (ci := 6) (v := .int wv_3) (C := RX6) (T := TX6) (N := 14) hx hb htg inX6 hown hK.1 hP 0 rfl rfl 5 (by decide) (htg _ kw_100) (fun _ h9 => h9) rfl dX6_advance_242 ?_
                      refine lv_iconst (v := 1) hx hb dX6_advance_245 (by decide) ?_
                      refine lv_iadd hx hb dX6_advance_246 ?_
                      refine lv_topi (fun z246_1 ez246_1 => ?_)
                      have tz246_1 : z246_1.toInt = wv_3.toInt + 1 := by rw [ez246_1]; exact xadd rfl (by decide) (by omega) (by omega)
                      refine va_put (D := D) (ci := 6) (v := .int z246_1) (ty := .int) (C := RX6) (T := TX6) (N := 14) hx hb htg inX6 tyX6 tyX6_ok nmX6 hown hK.1 hP hD hS 0 rfl rfl 5 (by decide) (htg _ kw_100) (fun _ h9 => h9) rfl (by decide +kernel) rfl rfl (Nat.le_of_ble_eq_true rfl) dX6_advance_247 (fun H locs hP hD hS => ?_)
                      obtain ⟨hP, hD⟩ := (show xPD D A [((a 0), .inr (6, [.ref (a 1), .ref (ex 0), .int (vi 0), .int (vi 1), .int (vi 2), .int z246_1, .int (vi 4), .int wv, .long z202, .int wv_2, .int ((fi 0) wv.toNatClampNeg), .int (vi 8), .int (vi 9), .int (vi 10)])), ((a 1), .inl (T 0, 940, .inl (fi 0)))] H from ⟨hP, hD⟩)
                      refine lv_goto (tgt := 156) hx hb dX6_advance_250 (by decide) ?_
                      exact ih_1 _ (by omega) w2 i189 z202 wv_2 z246_1 _ _ _ hi_1 (by show 0 ≤ i189.toInt ∧ i189.toInt ≤ 940; omega) (by show 0 ≤ z246_1.toInt ∧ z246_1.toInt ≤ 940; omega) (by show (z246_1).toInt = (wv).toInt + i189.toInt + w2.toInt; first | omega | assumption) rfl (hP.sub [0, 1] rfl) (hD.sub [0, 1] (by decide) rfl) hS (lv_sub hl [2, 0, 3] rfl)
            exact lp_1 _ (0 : Int32) (0 : Int32) (0 : Int64) (0 : Int32) wv _ _ _ (show 0 ≤ (0 : Int32).toInt ∧ (0 : Int32).toInt ≤ 940 by decide) (show 0 ≤ (0 : Int32).toInt ∧ (0 : Int32).toInt ≤ 940 by decide) hi (by show (wv).toInt = (wv).toInt + (0 : Int32).toInt + (0 : Int32).toInt; have k9_0 : (0 : Int32).toInt = 0 := (by decide); first | omega | assumption) rfl hP hD hS hl
          · have c71 := (mt Int32.lt_iff_toInt_lt.mpr c71)
            have rc71 := xrng wv; have qc71 := xrng (vi 2)
            refine lv_aload_n hx hb dX6_advance_74 rfl (lv_at hl 0 rfl) ?_
            refine lv_aload_n hx hb dX6_advance_75 rfl (lv_at hl 0 rfl) ?_
            refine va_get (D := D) (ci := 6) (v := .int (vi 1)) (C := RX6) (T := TX6) (N := 14) hx hb htg inX6 hown hK.1 hP 0 rfl rfl 3 (by decide) (htg _ kw_98) (fun _ h9 => h9) rfl dX6_advance_76 ?_
            refine lv_aload_n hx hb dX6_advance_79 rfl (lv_at hl 0 rfl) ?_
            refine va_get (D := D) (ci := 6) (v := .int (vi 2)) (C := RX6) (T := TX6) (N := 14) hx hb htg inX6 hown hK.1 hP 0 rfl rfl 4 (by decide) (htg _ kw_99) (fun _ h9 => h9) rfl dX6_advance_80 ?_
            refine lv_icmp_le (tgt := 90) hx hb dX6_advance_83 (by decide) (fun c83_1 => ?_) (fun c83_1 => ?_)
            · have c83_1 := Int32.le_iff_toInt_le.mp c83_1
              have rc83_1 := xrng (vi 1); have qc83_1 := xrng (vi 2)
              refine lv_iconst (v := 0) hx hb dX6_advance_90 (by decide) ?_
              refine va_put (D := D) (ci := 6) (v := .int 0) (ty := .int) (C := RX6) (T := TX6) (N := 14) hx hb htg inX6 tyX6 tyX6_ok nmX6 hown hK.1 hP hD hS 0 rfl rfl 6 (by decide) (htg _ kw_104) (fun _ h9 => h9) rfl (by decide +kernel) rfl rfl (Nat.le_of_ble_eq_true rfl) dX6_advance_91 (fun H locs hP hD hS => ?_)
              obtain ⟨hP, hD⟩ := (show xPD D A [((a 0), .inr (6, [.ref (a 1), .ref (ex 0), .int (vi 0), .int (vi 1), .int (vi 2), .int wv, .int 0, .int (vi 5), .long (vl 0), .int (vi 6), .int (vi 7), .int (vi 8), .int (vi 9), .int (vi 10)])), ((a 1), .inl (T 0, 940, .inl (fi 0)))] H from ⟨hP, hD⟩)
              refine lv_aload_n hx hb dX6_advance_94 rfl (lv_at hl 0 rfl) ?_
              refine lv_aload_n hx hb dX6_advance_95 rfl (lv_at hl 0 rfl) ?_
              refine va_get (D := D) (ci := 6) (v := .int (vi 1)) (C := RX6) (T := TX6) (N := 14) hx hb htg inX6 hown hK.1 hP 0 rfl rfl 3 (by decide) (htg _ kw_98) (fun _ h9 => h9) rfl dX6_advance_96 ?_
              refine lv_aload_n hx hb dX6_advance_99 rfl (lv_at hl 0 rfl) ?_
              refine va_get (D := D) (ci := 6) (v := .int (vi 2)) (C := RX6) (T := TX6) (N := 14) hx hb htg inX6 hown hK.1 hP 0 rfl rfl 4 (by decide) (htg _ kw_99) (fun _ h9 => h9) rfl dX6_advance_100 ?_
              refine lv_icmp_le (tgt := 113) hx hb dX6_advance_103 (by decide) (fun c103_2 => ?_) (fun c103_2 => ?_)
              · have c103_2 := Int32.le_iff_toInt_le.mp c103_2
                have rc103_2 := xrng (vi 1); have qc103_2 := xrng (vi 2)
                refine lv_aload_n hx hb dX6_advance_113 rfl (lv_at hl 0 rfl) ?_
                refine va_get (D := D) (ci := 6) (v := .int (vi 1)) (C := RX6) (T := TX6) (N := 14) hx hb htg inX6 hown hK.1 hP 0 rfl rfl 3 (by decide) (htg _ kw_98) (fun _ h9 => h9) rfl dX6_advance_114 ?_
                refine va_put (D := D) (ci := 6) (v := .int (vi 1)) (ty := .int) (C := RX6) (T := TX6) (N := 14) hx hb htg inX6 tyX6 tyX6_ok nmX6 hown hK.1 hP hD hS 0 rfl rfl 7 (by decide) (htg _ kw_105) (fun _ h9 => h9) rfl (by decide +kernel) rfl rfl (Nat.le_of_ble_eq_true rfl) dX6_advance_117 (fun H locs hP hD hS => ?_)
                obtain ⟨hP, hD⟩ := (show xPD D A [((a 0), .inr (6, [.ref (a 1), .ref (ex 0), .int (vi 0), .int (vi 1), .int (vi 2), .int wv, .int 0, .int (vi 1), .long (vl 0), .int (vi 6), .int (vi 7), .int (vi 8), .int (vi 9), .int (vi 10)])), ((a 1), .inl (T 0, 940, .inl (fi 0)))] H from ⟨hP, hD⟩)
                have hP9 := hP.sub (ws' := [((a 0), .inr (6, [.ref (a 1), .ref (ex 0), .int (vi 0), .int (vi 1), .int (vi 2), .int wv, .int 0, .int (vi 1), .long (vl 0), .int (vi 6), .int (vi 7), .int (vi 8), .int (vi 9), .int (vi 10)])), ((a 1), .inl (T 0, 940, .inl (fi 0)))]) [0, 1] rfl
                have hD9 := hD.sub (ws' := [((a 0), .inr (6, [.ref (a 1), .ref (ex 0), .int (vi 0), .int (vi 1), .int (vi 2), .int wv, .int 0, .int (vi 1), .long (vl 0), .int (vi 6), .int (vi 7), .int (vi 8), .int (vi 9), .int (vi 10)])), ((a 1), .inl (T 0, 940, .inl (fi 0)))]) [0, 1] (by decide +kernel) rfl
                rw [hQ]
                exact W.vret hx hb hr (fun t ht hW => ⟨⟨(0 : Int32), rfl, trivial, xf [], xh [], xv [0, (vi 1), (vi 7), (vi 6), wv], xl [(vl 0)], by rw [ht]; exact hP9, hD9, ⟨hi, trivial⟩⟩, hS.F ht⟩) hS.2.2 dX6_advance_120
              · have c103_2 := (mt Int32.le_iff_toInt_le.mpr c103_2)
                have rc103_2 := xrng (vi 1); have qc103_2 := xrng (vi 2)
                refine lv_aload_n hx hb dX6_advance_106 rfl (lv_at hl 0 rfl) ?_
                refine va_get (D := D) (ci := 6) (v := .int (vi 2)) (C := RX6) (T := TX6) (N := 14) hx hb htg inX6 hown hK.1 hP 0 rfl rfl 4 (by decide) (htg _ kw_99) (fun _ h9 => h9) rfl dX6_advance_107 ?_
                refine lv_goto (tgt := 117) hx hb dX6_advance_110 (by decide) ?_
                refine va_put (D := D) (ci := 6) (v := .int (vi 2)) (ty := .int) (C := RX6) (T := TX6) (N := 14) hx hb htg inX6 tyX6 tyX6_ok nmX6 hown hK.1 hP hD hS 0 rfl rfl 7 (by decide) (htg _ kw_105) (fun _ h9 => h9) rfl (by decide +kernel) rfl rfl (Nat.le_of_ble_eq_true rfl) dX6_advance_117 (fun H locs hP hD hS => ?_)
                obtain ⟨hP, hD⟩ := (show xPD D A [((a 0), .inr (6, [.ref (a 1), .ref (ex 0), .int (vi 0), .int (vi 1), .int (vi 2), .int wv, .int 0, .int (vi 2), .long (vl 0), .int (vi 6), .int (vi 7), .int (vi 8), .int (vi 9), .int (vi 10)])), ((a 1), .inl (T 0, 940, .inl (fi 0)))] H from ⟨hP, hD⟩)
                have hP9 := hP.sub (ws' := [((a 0), .inr (6, [.ref (a 1), .ref (ex 0), .int (vi 0), .int (vi 1), .int (vi 2), .int wv, .int 0, .int (vi 2), .long (vl 0), .int (vi 6), .int (vi 7), .int (vi 8), .int (vi 9), .int (vi 10)])), ((a 1), .inl (T 0, 940, .inl (fi 0)))]) [0, 1] rfl
                have hD9 := hD.sub (ws' := [((a 0), .inr (6, [.ref (a 1), .ref (ex 0), .int (vi 0), .int (vi 1), .int (vi 2), .int wv, .int 0, .int (vi 2), .long (vl 0), .int (vi 6), .int (vi 7), .int (vi 8), .int (vi 9), .int (vi 10)])), ((a 1), .inl (T 0, 940, .inl (fi 0)))]) [0, 1] (by decide +kernel) rfl
                rw [hQ]
                exact W.vret hx hb hr (fun t ht hW => ⟨⟨(0 : Int32), rfl, trivial, xf [], xh [], xv [0, (vi 2), (vi 7), (vi 6), wv], xl [(vl 0)], by rw [ht]; exact hP9, hD9, ⟨hi, trivial⟩⟩, hS.F ht⟩) hS.2.2 dX6_advance_120
            · have c83_1 := (mt Int32.le_iff_toInt_le.mpr c83_1)
              have rc83_1 := xrng (vi 1); have qc83_1 := xrng (vi 2)
              refine lv_iconst (v := 4) hx hb dX6_advance_86 (by decide) ?_
              refine lv_goto (tgt := 91) hx hb dX6_advance_87 (by decide) ?_
              refine va_put (D := D) (ci := 6) (v := .int 4) (ty := .int) (C := RX6) (T := TX6) (N := 14) hx hb htg inX6 tyX6 tyX6_ok nmX6 hown hK.1 hP hD hS 0 rfl rfl 6 (by decide) (htg _ kw_104) (fun _ h9 => h9) rfl (by decide +kernel) rfl rfl (Nat.le_of_ble_eq_true rfl) dX6_advance_91 (fun H locs hP hD hS => ?_)
              obtain ⟨hP, hD⟩ := (show xPD D A [((a 0), .inr (6, [.ref (a 1), .ref (ex 0), .int (vi 0), .int (vi 1), .int (vi 2), .int wv, .int 4, .int (vi 5), .long (vl 0), .int (vi 6), .int (vi 7), .int (vi 8), .int (vi 9), .int (vi 10)])), ((a 1), .inl (T 0, 940, .inl (fi 0)))] H from ⟨hP, hD⟩)
              refine lv_aload_n hx hb dX6_advance_94 rfl (lv_at hl 0 rfl) ?_
              refine lv_aload_n hx hb dX6_advance_95 rfl (lv_at hl 0 rfl) ?_
              refine va_get (D := D) (ci := 6) (v := .int (vi 1)) (C := RX6) (T := TX6) (N := 14) hx hb htg inX6 hown hK.1 hP 0 rfl rfl 3 (by decide) (htg _ kw_98) (fun _ h9 => h9) rfl dX6_advance_96 ?_
              refine lv_aload_n hx hb dX6_advance_99 rfl (lv_at hl 0 rfl) ?_
              refine va_get (D := D) (ci := 6) (v := .int (vi 2)) (C := RX6) (T := TX6) (N := 14) hx hb htg inX6 hown hK.1 hP 0 rfl rfl 4 (by decide) (htg _ kw_99) (fun _ h9 => h9) rfl dX6_advance_100 ?_
              refine lv_icmp_le (tgt := 113) hx hb dX6_advance_103 (by decide) (fun c103_3 => ?_) (fun c103_3 => ?_)
              · have c103_3 := Int32.le_iff_toInt_le.mp c103_3
                have rc103_3 := xrng (vi 1); have qc103_3 := xrng (vi 2)
                refine lv_aload_n hx hb dX6_advance_113 rfl (lv_at hl 0 rfl) ?_
                refine va_get (D := D) (ci := 6) (v := .int (vi 1)) (C := RX6) (T := TX6) (N := 14) hx hb htg inX6 hown hK.1 hP 0 rfl rfl 3 (by decide) (htg _ kw_98) (fun _ h9 => h9) rfl dX6_advance_114 ?_
                refine va_put (D := D) (ci := 6) (v := .int (vi 1)) (ty := .int) (C := RX6) (T := TX6) (N := 14) hx hb htg inX6 tyX6 tyX6_ok nmX6 hown hK.1 hP hD hS 0 rfl rfl 7 (by decide) (htg _ kw_105) (fun _ h9 => h9) rfl (by decide +kernel) rfl rfl (Nat.le_of_ble_eq_true rfl) dX6_advance_117 (fun H locs hP hD hS => ?_)
                obtain ⟨hP, hD⟩ := (show xPD D A [((a 0), .inr (6, [.ref (a 1), .ref (ex 0), .int (vi 0), .int (vi 1), .int (vi 2), .int wv, .int 4, .int (vi 1), .long (vl 0), .int (vi 6), .int (vi 7), .int (vi 8), .int (vi 9), .int (vi 10)])), ((a 1), .inl (T 0, 940, .inl (fi 0)))] H from ⟨hP, hD⟩)
                have hP9 := hP.sub (ws' := [((a 0), .inr (6, [.ref (a 1), .ref (ex 0), .int (vi 0), .int (vi 1), .int (vi 2), .int wv, .int 4, .int (vi 1), .long (vl 0), .int (vi 6), .int (vi 7), .int (vi 8), .int (vi 9), .int (vi 10)])), ((a 1), .inl (T 0, 940, .inl (fi 0)))]) [0, 1] rfl
                have hD9 := hD.sub (ws' := [((a 0), .inr (6, [.ref (a 1), .ref (ex 0), .int (vi 0), .int (vi 1), .int (vi 2), .int wv, .int 4, .int (vi 1), .long (vl 0), .int (vi 6), .int (vi 7), .int (vi 8), .int (vi 9), .int (vi 10)])), ((a 1), .inl (T 0, 940, .inl (fi 0)))]) [0, 1] (by decide +kernel) rfl
                rw [hQ]
                exact W.vret hx hb hr (fun t ht hW => ⟨⟨(0 : Int32), rfl, trivial, xf [], xh [], xv [4, (vi 1), (vi 7), (vi 6), wv], xl [(vl 0)], by rw [ht]; exact hP9, hD9, ⟨hi, trivial⟩⟩, hS.F ht⟩) hS.2.2 dX6_advance_120
              · have c103_3 := (mt Int32.le_iff_toInt_le.mpr c103_3)
                have rc103_3 := xrng (vi 1); have qc103_3 := xrng (vi 2)
                refine lv_aload_n hx hb dX6_advance_106 rfl (lv_at hl 0 rfl) ?_
                refine va_get (D := D) (ci := 6) (v := .int (vi 2)) (C := RX6) (T := TX6) (N := 14) hx hb htg inX6 hown hK.1 hP 0 rfl rfl 4 (by decide) (htg _ kw_99) (fun _ h9 => h9) rfl dX6_advance_107 ?_
                refine lv_goto (tgt := 117) hx hb dX6_advance_110 (by decide) ?_
                refine va_put (D := D) (ci := 6) (v := .int (vi 2)) (ty := .int) (C := RX6) (T := TX6) (N := 14) hx hb htg inX6 tyX6 tyX6_ok nmX6 hown hK.1 hP hD hS 0 rfl rfl 7 (by decide) (htg _ kw_105) (fun _ h9 => h9) rfl (by decide +kernel) rfl rfl (Nat.le_of_ble_eq_true rfl) dX6_advance_117 (fun H locs hP hD hS => ?_)
                obtain ⟨hP, hD⟩ := (show xPD D A [((a 0), .inr (6, [.ref (a 1), .ref (ex 0), .int (vi 0), .int (vi 1), .int (vi 2), .int wv, .int 4, .int (vi 2), .long (vl 0), .int (vi 6), .int (vi 7), .int (vi 8), .int (vi 9), .int (vi 10)])), ((a 1), .inl (T 0, 940, .inl (fi 0)))] H from ⟨hP, hD⟩)
                have hP9 := hP.sub (ws' := [((a 0), .inr (6, [.ref (a 1), .ref (ex 0), .int (vi 0), .int (vi 1), .int (vi 2), .int wv, .int 4, .int (vi 2), .long (vl 0), .int (vi 6), .int (vi 7), .int (vi 8), .int (vi 9), .int (vi 10)])), ((a 1), .inl (T 0, 940, .inl (fi 0)))]) [0, 1] rfl
                have hD9 := hD.sub (ws' := [((a 0), .inr (6, [.ref (a 1), .ref (ex 0), .int (vi 0), .int (vi 1), .int (vi 2), .int wv, .int 4, .int (vi 2), .long (vl 0), .int (vi 6), .int (vi 7), .int (vi 8), .int (vi 9), .int (vi 10)])), ((a 1), .inl (T 0, 940, .inl (fi 0)))]) [0, 1] (by decide +kernel) rfl
                rw [hQ]
                exact W.vret hx hb hr (fun t ht hW => ⟨⟨(0 : Int32), rfl, trivial, xf [], xh [], xv [4, (vi 2), (vi 7), (vi 6), wv], xl [(vl 0)], by rw [ht]; exact hP9, hD9, ⟨hi, trivial⟩⟩, hS.F ht⟩) hS.2.2 dX6_advance_120
      · have c8 := (mt Int32.le_iff_toInt_le.mpr c8)
        have rc8 := xrng wv; have qc8 := xrng (vi 1)
        refine lv_aload_n hx hb dX6_advance_11 rfl (lv_at hl 0 rfl) ?_
        refine va_get (D := D) (ci := 6) (v := .ref (a 1)) (C := RX6) (T := TX6) (N := 14) hx hb htg inX6 hown hK.1 hP 0 rfl rfl 0 (by decide) (htg _ kw_94) (fun _ h9 => h9) rfl dX6_advance_12 ?_
        refine lv_aload_n hx hb dX6_advance_15 rfl (lv_at hl 0 rfl) ?_
        refine va_get (D := D) (ci := 6) (v := .int wv) (C := RX6) (T := TX6) (N := 14) hx hb htg inX6 hown hK.1 hP 0 rfl rfl 5 (by decide) (htg _ kw_100) (fun _ h9 => h9) rfl dX6_advance_16 ?_
        refine va_bald hx hb hK.1 hP 1 0 rfl rfl (vp_in_iff.mpr (by omega)) dX6_advance_19 ?_
        refine lv_bipush (v := 32) hx hb dX6_advance_20 (by decide) ?_
        refine lv_icmp_eq (tgt := 39) hx hb dX6_advance_22 (by decide) (fun c22 => ?_) (fun c22 => ?_)
        · have c22 := xeq (k := 32) (by decide) c22
          refine lv_aload_n hx hb dX6_advance_39 rfl (lv_at hl 0 rfl) ?_
          refine lv_dup hx hb dX6_advance_40 rfl ?_
          refine va_get (D := D) (ci := 6) (v := .int wv) (C := RX6) (T := TX6) (N := 14) hx hb htg inX6 hown hK.1 hP 0 rfl rfl 5 (by decide) (htg _ kw_100) (fun _ h9 => h9) rfl dX6_advance_41 ?_
          refine lv_iconst (v := 1) hx hb dX6_advance_44 (by decide) ?_
          refine lv_iadd hx hb dX6_advance_45 ?_
          refine lv_topi (fun z45 ez45 => ?_)
          have tz45 : z45.toInt = wv.toInt + 1 := by rw [ez45]; exact xadd rfl (by decide) (by omega) (by omega)
          refine va_put (D := D) (ci := 6) (v := .int z45) (ty := .int) (C := RX6) (T := TX6) (N := 14) hx hb htg inX6 tyX6 tyX6_ok nmX6 hown hK.1 hP hD hS 0 rfl rfl 5 (by decide) (htg _ kw_100) (fun _ h9 => h9) rfl (by decide +kernel) rfl rfl (Nat.le_of_ble_eq_true rfl) dX6_advance_46 (fun H locs hP hD hS => ?_)
          obtain ⟨hP, hD⟩ := (show xPD D A [((a 0), .inr (6, [.ref (a 1), .ref (ex 0), .int (vi 0), .int (vi 1), .int (vi 2), .int z45, .int (vi 4), .int (vi 5), .long (vl 0), .int (vi 6), .int (vi 7), .int (vi 8), .int (vi 9), .int (vi 10)])), ((a 1), .inl (T 0, 940, .inl (fi 0)))] H from ⟨hP, hD⟩)
          refine lv_goto (tgt := 0) hx hb dX6_advance_49 (by decide) ?_
          exact ih _ (by omega) z45 _ _ _ (by show 0 ≤ z45.toInt ∧ z45.toInt ≤ 940; omega) rfl (hP.sub [0, 1] rfl) (hD.sub [0, 1] (by decide) rfl) hS (lv_sub hl [0] rfl)
        · have c22 := xne (k := 32) (by decide) c22
          refine lv_aload_n hx hb dX6_advance_25 rfl (lv_at hl 0 rfl) ?_
          refine va_get (D := D) (ci := 6) (v := .ref (a 1)) (C := RX6) (T := TX6) (N := 14) hx hb htg inX6 hown hK.1 hP 0 rfl rfl 0 (by decide) (htg _ kw_94) (fun _ h9 => h9) rfl dX6_advance_26 ?_
          refine lv_aload_n hx hb dX6_advance_29 rfl (lv_at hl 0 rfl) ?_
          refine va_get (D := D) (ci := 6) (v := .int wv) (C := RX6) (T := TX6) (N := 14) hx hb htg inX6 hown hK.1 hP 0 rfl rfl 5 (by decide) (htg _ kw_100) (fun _ h9 => h9) rfl dX6_advance_30 ?_
          refine va_bald hx hb hK.1 hP 1 0 rfl rfl (vp_in_iff.mpr (by omega)) dX6_advance_33 ?_
          refine lv_bipush (v := 10) hx hb dX6_advance_34 (by decide) ?_
          refine lv_icmp_ne (tgt := 52) hx hb dX6_advance_36 (by decide) (fun c36 => ?_) (fun c36 => ?_)
          · have c36 := xne (k := 10) (by decide) c36
            refine lv_aload_n hx hb dX6_advance_52 rfl (lv_at hl 0 rfl) ?_
            refine va_get (D := D) (ci := 6) (v := .int wv) (C := RX6) (T := TX6) (N := 14) hx hb htg inX6 hown hK.1 hP 0 rfl rfl 5 (by decide) (htg _ kw_100) (fun _ h9 => h9) rfl dX6_advance_53 ?_
            refine lv_aload_n hx hb dX6_advance_56 rfl (lv_at hl 0 rfl) ?_
            refine va_get (D := D) (ci := 6) (v := .int (vi 1)) (C := RX6) (T := TX6) (N := 14) hx hb htg inX6 hown hK.1 hP 0 rfl rfl 3 (by decide) (htg _ kw_98) (fun _ h9 => h9) rfl dX6_advance_57 ?_
            refine lv_icmp_ge (tgt := 74) hx hb dX6_advance_60 (by decide) (fun c60_1 => ?_) (fun c60_1 => ?_)
            · have c60_1 := Int32.le_iff_toInt_le.mp c60_1
              have rc60_1 := xrng wv; have qc60_1 := xrng (vi 1)
              refine lv_aload_n hx hb dX6_advance_74 rfl (lv_at hl 0 rfl) ?_
              refine lv_aload_n hx hb dX6_advance_75 rfl (lv_at hl 0 rfl) ?_
              refine va_get (D := D) (ci := 6) (v := .int (vi 1)) (C := RX6) (T := TX6) (N := 14) hx hb htg inX6 hown hK.1 hP 0 rfl rfl 3 (by decide) (htg _ kw_98) (fun _ h9 => h9) rfl dX6_advance_76 ?_
              refine lv_aload_n hx hb dX6_advance_79 rfl (lv_at hl 0 rfl) ?_
              refine va_get (D := D) (ci := 6) (v := .int (vi 2)) (C := RX6) (T := TX6) (N := 14) hx hb htg inX6 hown hK.1 hP 0 rfl rfl 4 (by decide) (htg _ kw_99) (fun _ h9 => h9) rfl dX6_advance_80 ?_
              refine lv_icmp_le (tgt := 90) hx hb dX6_advance_83 (by decide) (fun c83_2 => ?_) (fun c83_2 => ?_)
              · have c83_2 := Int32.le_iff_toInt_le.mp c83_2
                have rc83_2 := xrng (vi 1); have qc83_2 := xrng (vi 2)
                refine lv_iconst (v := 0) hx hb dX6_advance_90 (by decide) ?_
                refine va_put (D := D) (ci := 6) (v := .int 0) (ty := .int) (C := RX6) (T := TX6) (N := 14) hx hb htg inX6 tyX6 tyX6_ok nmX6 hown hK.1 hP hD hS 0 rfl rfl 6 (by decide) (htg _ kw_104) (fun _ h9 => h9) rfl (by decide +kernel) rfl rfl (Nat.le_of_ble_eq_true rfl) dX6_advance_91 (fun H locs hP hD hS => ?_)
                obtain ⟨hP, hD⟩ := (show xPD D A [((a 0), .inr (6, [.ref (a 1), .ref (ex 0), .int (vi 0), .int (vi 1), .int (vi 2), .int wv, .int 0, .int (vi 5), .long (vl 0), .int (vi 6), .int (vi 7), .int (vi 8), .int (vi 9), .int (vi 10)])), ((a 1), .inl (T 0, 940, .inl (fi 0)))] H from ⟨hP, hD⟩)
                refine lv_aload_n hx hb dX6_advance_94 rfl (lv_at hl 0 rfl) ?_
                refine lv_aload_n hx hb dX6_advance_95 rfl (lv_at hl 0 rfl) ?_
                refine va_get (D := D) (ci := 6) (v := .int (vi 1)) (C := RX6) (T := TX6) (N := 14) hx hb htg inX6 hown hK.1 hP 0 rfl rfl 3 (by decide) (htg _ kw_98) (fun _ h9 => h9) rfl dX6_advance_96 ?_
                refine lv_aload_n hx hb dX6_advance_99 rfl (lv_at hl 0 rfl) ?_
                refine va_get (D := D) (ci := 6) (v := .int (vi 2)) (C := RX6) (T := TX6) (N := 14) hx hb htg inX6 hown hK.1 hP 0 rfl rfl 4 (by decide) (htg _ kw_99) (fun _ h9 => h9) rfl dX6_advance_100 ?_
                refine lv_icmp_le (tgt := 113) hx hb dX6_advance_103 (by decide) (fun c103_4 => ?_) (fun c103_4 => ?_)
                · have c103_4 := Int32.le_iff_toInt_le.mp c103_4
                  have rc103_4 := xrng (vi 1); have qc103_4 := xrng (vi 2)
                  refine lv_aload_n hx hb dX6_advance_113 rfl (lv_at hl 0 rfl) ?_
                  refine va_get (D := D) (ci := 6) (v := .int (vi 1)) (C := RX6) (T := TX6) (N := 14) hx hb htg inX6 hown hK.1 hP 0 rfl rfl 3 (by decide) (htg _ kw_98) (fun _ h9 => h9) rfl dX6_advance_114 ?_
                  refine va_put (D := D) (ci := 6) (v := .int (vi 1)) (ty := .int) (C := RX6) (T := TX6) (N := 14) hx hb htg inX6 tyX6 tyX6_ok nmX6 hown hK.1 hP hD hS 0 rfl rfl 7 (by decide) (htg _ kw_105) (fun _ h9 => h9) rfl (by decide +kernel) rfl rfl (Nat.le_of_ble_eq_true rfl) dX6_advance_117 (fun H locs hP hD hS => ?_)
                  obtain ⟨hP, hD⟩ := (show xPD D A [((a 0), .inr (6, [.ref (a 1), .ref (ex 0), .int (vi 0), .int (vi 1), .int (vi 2), .int wv, .int 0, .int (vi 1), .long (vl 0), .int (vi 6), .int (vi 7), .int (vi 8), .int (vi 9), .int (vi 10)])), ((a 1), .inl (T 0, 940, .inl (fi 0)))] H from ⟨hP, hD⟩)
                  have hP9 := hP.sub (ws' := [((a 0), .inr (6, [.ref (a 1), .ref (ex 0), .int (vi 0), .int (vi 1), .int (vi 2), .int wv, .int 0, .int (vi 1), .long (vl 0), .int (vi 6), .int (vi 7), .int (vi 8), .int (vi 9), .int (vi 10)])), ((a 1), .inl (T 0, 940, .inl (fi 0)))]) [0, 1] rfl
                  have hD9 := hD.sub (ws' := [((a 0), .inr (6, [.ref (a 1), .ref (ex 0), .int (vi 0), .int (vi 1), .int (vi 2), .int wv, .int 0, .int (vi 1), .long (vl 0), .int (vi 6), .int (vi 7), .int (vi 8), .int (vi 9), .int (vi 10)])), ((a 1), .inl (T 0, 940, .inl (fi 0)))]) [0, 1] (by decide +kernel) rfl
                  rw [hQ]
                  exact W.vret hx hb hr (fun t ht hW => ⟨⟨(0 : Int32), rfl, trivial, xf [], xh [], xv [0, (vi 1), (vi 7), (vi 6), wv], xl [(vl 0)], by rw [ht]; exact hP9, hD9, ⟨hi, trivial⟩⟩, hS.F ht⟩) hS.2.2 dX6_advance_120
                · have c103_4 := (mt Int32.le_iff_toInt_le.mpr c103_4)
                  have rc103_4 := xrng (vi 1); have qc103_4 := xrng (vi 2)
                  refine lv_aload_n hx hb dX6_advance_106 rfl (lv_at hl 0 rfl) ?_
                  refine va_get (D := D) (ci := 6) (v := .int (vi 2)) (C := RX6) (T := TX6) (N := 14) hx hb htg inX6 hown hK.1 hP 0 rfl rfl 4 (by decide) (htg _ kw_99) (fun _ h9 => h9) rfl dX6_advance_107 ?_
                  refine lv_goto (tgt := 117) hx hb dX6_advance_110 (by decide) ?_
                  refine va_put (D := D) (ci := 6) (v := .int (vi 2)) (ty := .int) (C := RX6) (T := TX6) (N := 14) hx hb htg inX6 tyX6 tyX6_ok nmX6 hown hK.1 hP hD hS 0 rfl rfl 7 (by decide) (htg _ kw_105) (fun _ h9 => h9) rfl (by decide +kernel) rfl rfl (Nat.le_of_ble_eq_true rfl) dX6_advance_117 (fun H locs hP hD hS => ?_)
                  obtain ⟨hP, hD⟩ := (show xPD D A [((a 0), .inr (6, [.ref (a 1), .ref (ex 0), .int (vi 0), .int (vi 1), .int (vi 2), .int wv, .int 0, .int (vi 2), .long (vl 0), .int (vi 6), .int (vi 7), .int (vi 8), .int (vi 9), .int (vi 10)])), ((a 1), .inl (T 0, 940, .inl (fi 0)))] H from ⟨hP, hD⟩)
                  have hP9 := hP.sub (ws' := [((a 0), .inr (6, [.ref (a 1), .ref (ex 0), .int (vi 0), .int (vi 1), .int (vi 2), .int wv, .int 0, .int (vi 2), .long (vl 0), .int (vi 6), .int (vi 7), .int (vi 8), .int (vi 9), .int (vi 10)])), ((a 1), .inl (T 0, 940, .inl (fi 0)))]) [0, 1] rfl
                  have hD9 := hD.sub (ws' := [((a 0), .inr (6, [.ref (a 1), .ref (ex 0), .int (vi 0), .int (vi 1), .int (vi 2), .int wv, .int 0, .int (vi 2), .long (vl 0), .int (vi 6), .int (vi 7), .int (vi 8), .int (vi 9), .int (vi 10)])), ((a 1), .inl (T 0, 940, .inl (fi 0)))]) [0, 1] (by decide +kernel) rfl
                  rw [hQ]
                  exact W.vret hx hb hr (fun t ht hW => ⟨⟨(0 : Int32), rfl, trivial, xf [], xh [], xv [0, (vi 2), (vi 7), (vi 6), wv], xl [(vl 0)], by rw [ht]; exact hP9, hD9, ⟨hi, trivial⟩⟩, hS.F ht⟩) hS.2.2 dX6_advance_120
              · have c83_2 := (mt Int32.le_iff_toInt_le.mpr c83_2)
                have rc83_2 := xrng (vi 1); have qc83_2 := xrng (vi 2)
                refine lv_iconst (v := 4) hx hb dX6_advance_86 (by decide) ?_
                refine lv_goto (tgt := 91) hx hb dX6_advance_87 (by decide) ?_
                refine va_put (D := D) (ci := 6) (v := .int 4) (ty := .int) (C := RX6) (T := TX6) (N := 14) hx hb htg inX6 tyX6 tyX6_ok nmX6 hown hK.1 hP hD hS 0 rfl rfl 6 (by decide) (htg _ kw_104) (fun _ h9 => h9) rfl (by decide +kernel) rfl rfl (Nat.le_of_ble_eq_true rfl) dX6_advance_91 (fun H locs hP hD hS => ?_)
                obtain ⟨hP, hD⟩ := (show xPD D A [((a 0), .inr (6, [.ref (a 1), .ref (ex 0), .int (vi 0), .int (vi 1), .int (vi 2), .int wv, .int 4, .int (vi 5), .long (vl 0), .int (vi 6), .int (vi 7), .int (vi 8), .int (vi 9), .int (vi 10)])), ((a 1), .inl (T 0, 940, .inl (fi 0)))] H from ⟨hP, hD⟩)
                refine lv_aload_n hx hb dX6_advance_94 rfl (lv_at hl 0 rfl) ?_
                refine lv_aload_n hx hb dX6_advance_95 rfl (lv_at hl 0 rfl) ?_
                refine va_get (D := D) (ci := 6) (v := .int (vi 1)) (C := RX6) (T := TX6) (N := 14) hx hb htg inX6 hown hK.1 hP 0 rfl rfl 3 (by decide) (htg _ kw_98) (fun _ h9 => h9) rfl dX6_advance_96 ?_
                refine lv_aload_n hx hb dX6_advance_99 rfl (lv_at hl 0 rfl) ?_
                refine va_get (D := D) (ci := 6) (v := .int (vi 2)) (C := RX6) (T := TX6) (N := 14) hx hb htg inX6 hown hK.1 hP 0 rfl rfl 4 (by decide) (htg _ kw_99) (fun _ h9 => h9) rfl dX6_advance_100 ?_
                refine lv_icmp_le (tgt := 113) hx hb dX6_advance_103 (by decide) (fun c103_5 => ?_) (fun c103_5 => ?_)
                · have c103_5 := Int32.le_iff_toInt_le.mp c103_5
                  have rc103_5 := xrng (vi 1); have qc103_5 := xrng (vi 2)
                  refine lv_aload_n hx hb dX6_advance_113 rfl (lv_at hl 0 rfl) ?_
                  refine va_get (D := D) (ci := 6) (v := .int (vi 1)) (C := RX6) (T := TX6) (N := 14) hx hb htg inX6 hown hK.1 hP 0 rfl rfl 3 (by decide) (htg _ kw_98) (fun _ h9 => h9) rfl dX6_advance_114 ?_
                  refine va_put (D := D) (ci := 6) (v := .int (vi 1)) (ty := .int) (C := RX6) (T := TX6) (N := 14) hx hb htg inX6 tyX6 tyX6_ok nmX6 hown hK.1 hP hD hS 0 rfl rfl 7 (by decide) (htg _ kw_105) (fun _ h9 => h9) rfl (by decide +kernel) rfl rfl (Nat.le_of_ble_eq_true rfl) dX6_advance_117 (fun H locs hP hD hS => ?_)
                  obtain ⟨hP, hD⟩ := (show xPD D A [((a 0), .inr (6, [.ref (a 1), .ref (ex 0), .int (vi 0), .int (vi 1), .int (vi 2), .int wv, .int 4, .int (vi 1), .long (vl 0), .int (vi 6), .int (vi 7), .int (vi 8), .int (vi 9), .int (vi 10)])), ((a 1), .inl (T 0, 940, .inl (fi 0)))] H from ⟨hP, hD⟩)
                  have hP9 := hP.sub (ws' := [((a 0), .inr (6, [.ref (a 1), .ref (ex 0), .int (vi 0), .int (vi 1), .int (vi 2), .int wv, .int 4, .int (vi 1), .long (vl 0), .int (vi 6), .int (vi 7), .int (vi 8), .int (vi 9), .int (vi 10)])), ((a 1), .inl (T 0, 940, .inl (fi 0)))]) [0, 1] rfl
                  have hD9 := hD.sub (ws' := [((a 0), .inr (6, [.ref (a 1), .ref (ex 0), .int (vi 0), .int (vi 1), .int (vi 2), .int wv, .int 4, .int (vi 1), .long (vl 0), .int (vi 6), .int (vi 7), .int (vi 8), .int (vi 9), .int (vi 10)])), ((a 1), .inl (T 0, 940, .inl (fi 0)))]) [0, 1] (by decide +kernel) rfl
                  rw [hQ]
                  exact W.vret hx hb hr (fun t ht hW => ⟨⟨(0 : Int32), rfl, trivial, xf [], xh [], xv [4, (vi 1), (vi 7), (vi 6), wv], xl [(vl 0)], by rw [ht]; exact hP9, hD9, ⟨hi, trivial⟩⟩, hS.F ht⟩) hS.2.2 dX6_advance_120
                · have c103_5 := (mt Int32.le_iff_toInt_le.mpr c103_5)
                  have rc103_5 := xrng (vi 1); have qc103_5 := xrng (vi 2)
                  refine lv_aload_n hx hb dX6_advance_106 rfl (lv_at hl 0 rfl) ?_
                  refine va_get (D := D) (ci := 6) (v := .int (vi 2)) (C := RX6) (T := TX6) (N := 14) hx hb htg inX6 hown hK.1 hP 0 rfl rfl 4 (by decide) (htg _ kw_99) (fun _ h9 => h9) rfl dX6_advance_107 ?_
                  refine lv_goto (tgt := 117) hx hb dX6_advance_110 (by decide) ?_
                  refine va_put (D := D) (ci := 6) (v := .int (vi 2)) (ty := .int) (C := RX6) (T := TX6) (N := 14) hx hb htg inX6 tyX6 tyX6_ok nmX6 hown hK.1 hP hD hS 0 rfl rfl 7 (by decide) (htg _ kw_105) (fun _ h9 => h9) rfl (by decide +kernel) rfl rfl (Nat.le_of_ble_eq_true rfl) dX6_advance_117 (fun H locs hP hD hS => ?_)
                  obtain ⟨hP, hD⟩ := (show xPD D A [((a 0), .inr (6, [.ref (a 1), .ref (ex 0), .int (vi 0), .int (vi 1), .int (vi 2), .int wv, .int 4, .int (vi 2), .long (vl 0), .int (vi 6), .int (vi 7), .int (vi 8), .int (vi 9), .int (vi 10)])), ((a 1), .inl (T 0, 940, .inl (fi 0)))] H from ⟨hP, hD⟩)
                  have hP9 := hP.sub (ws' := [((a 0), .inr (6, [.ref (a 1), .ref (ex 0), .int (vi 0), .int (vi 1), .int (vi 2), .int wv, .int 4, .int (vi 2), .long (vl 0), .int (vi 6), .int (vi 7), .int (vi 8), .int (vi 9), .int (vi 10)])), ((a 1), .inl (T 0, 940, .inl (fi 0)))]) [0, 1] rfl
                  have hD9 := hD.sub (ws' := [((a 0), .inr (6, [.ref (a 1), .ref (ex 0), .int (vi 0), .int (vi 1), .int (vi 2), .int wv, .int 4, .int (vi 2), .long (vl 0), .int (vi 6), .int (vi 7), .int (vi 8), .int (vi 9), .int (vi 10)])), ((a 1), .inl (T 0, 940, .inl (fi 0)))]) [0, 1] (by decide +kernel) rfl
                  rw [hQ]
                  exact W.vret hx hb hr (fun t ht hW => ⟨⟨(0 : Int32), rfl, trivial, xf [], xh [], xv [4, (vi 2), (vi 7), (vi 6), wv], xl [(vl 0)], by rw [ht]; exact hP9, hD9, ⟨hi, trivial⟩⟩, hS.F ht⟩) hS.2.2 dX6_advance_120
            · have c60_1 := (mt Int32.le_iff_toInt_le.mpr c60_1)
              have rc60_1 := xrng wv; have qc60_1 := xrng (vi 1)
              refine lv_aload_n hx hb dX6_advance_63 rfl (lv_at hl 0 rfl) ?_
              refine va_get (D := D) (ci := 6) (v := .int wv) (C := RX6) (T := TX6) (N := 14) hx hb htg inX6 hown hK.1 hP 0 rfl rfl 5 (by decide) (htg _ kw_100) (fun _ h9 => h9) rfl dX6_advance_64 ?_
              refine lv_aload_n hx hb dX6_advance_67 rfl (lv_at hl 0 rfl) ?_
              refine va_get (D := D) (ci := 6) (v := .int (vi 2)) (C := RX6) (T := TX6) (N := 14) hx hb htg inX6 hown hK.1 hP 0 rfl rfl 4 (by decide) (htg _ kw_99) (fun _ h9 => h9) rfl dX6_advance_68 ?_
              refine lv_icmp_lt (tgt := 121) hx hb dX6_advance_71 (by decide) (fun c71_1 => ?_) (fun c71_1 => ?_)
              · have c71_1 := Int32.lt_iff_toInt_lt.mp c71_1
                have rc71_1 := xrng wv; have qc71_1 := xrng (vi 2)
                refine lv_aload_n hx hb dX6_advance_121 rfl (lv_at hl 0 rfl) ?_
                refine lv_aload_n hx hb dX6_advance_122 rfl (lv_at hl 0 rfl) ?_
                refine va_get (D := D) (ci := 6) (v := .int wv) (C := RX6) (T := TX6) (N := 14) hx hb htg inX6 hown hK.1 hP 0 rfl rfl 5 (by decide) (htg _ kw_100) (fun _ h9 => h9) rfl dX6_advance_123 ?_
                refine va_put (D := D) (ci := 6) (v := .int wv) (ty := .int) (C := RX6) (T := TX6) (N := 14) hx hb htg inX6 tyX6 tyX6_ok nmX6 hown hK.1 hP hD hS 0 rfl rfl 7 (by decide) (htg _ kw_105) (fun _ h9 => h9) rfl (by decide +kernel) rfl rfl (Nat.le_of_ble_eq_true rfl) dX6_advance_126 (fun H locs hP hD hS => ?_)
                obtain ⟨hP, hD⟩ := (show xPD D A [((a 0), .inr (6, [.ref (a 1), .ref (ex 0), .int (vi 0), .int (vi 1), .int (vi 2), .int wv, .int (vi 4), .int wv, .long (vl 0), .int (vi 6), .int (vi 7), .int (vi 8), .int (vi 9), .int (vi 10)])), ((a 1), .inl (T 0, 940, .inl (fi 0)))] H from ⟨hP, hD⟩)
                refine lv_aload_n hx hb dX6_advance_129 rfl (lv_at hl 0 rfl) ?_
                refine lv_aload_n hx hb dX6_advance_130 rfl (lv_at hl 0 rfl) ?_
                refine va_get (D := D) (ci := 6) (v := .ref (a 1)) (C := RX6) (T := TX6) (N := 14) hx hb htg inX6 hown hK.1 hP 0 rfl rfl 0 (by decide) (htg _ kw_94) (fun _ h9 => h9) rfl dX6_advance_131 ?_
                refine lv_aload_n hx hb dX6_advance_134 rfl (lv_at hl 0 rfl) ?_
                refine va_get (D := D) (ci := 6) (v := .int wv) (C := RX6) (T := TX6) (N := 14) hx hb htg inX6 hown hK.1 hP 0 rfl rfl 5 (by decide) (htg _ kw_100) (fun _ h9 => h9) rfl dX6_advance_135 ?_
                refine va_bald hx hb hK.1 hP 1 0 rfl rfl (vp_in_iff.mpr (by omega)) dX6_advance_138 ?_
                refine va_put (D := D) (ci := 6) (v := .int ((fi 0) wv.toNatClampNeg)) (ty := .int) (C := RX6) (T := TX6) (N := 14) hx hb htg inX6 tyX6 tyX6_ok nmX6 hown hK.1 hP hD hS 0 rfl rfl 10 (by decide) (htg _ kw_111) (fun _ h9 => h9) rfl (by decide +kernel) rfl rfl (Nat.le_of_ble_eq_true rfl) dX6_advance_139 (fun H locs hP hD hS => ?_)
                obtain ⟨hP, hD⟩ := (show xPD D A [((a 0), .inr (6, [.ref (a 1), .ref (ex 0), .int (vi 0), .int (vi 1), .int (vi 2), .int wv, .int (vi 4), .int wv, .long (vl 0), .int (vi 6), .int ((fi 0) wv.toNatClampNeg), .int (vi 8), .int (vi 9), .int (vi 10)])), ((a 1), .inl (T 0, 940, .inl (fi 0)))] H from ⟨hP, hD⟩)
                refine lv_aload_n hx hb dX6_advance_142 rfl (lv_at hl 0 rfl) ?_
                refine lv_lconst (v := 0) hx hb dX6_advance_143 (by decide) ?_
                refine va_put (D := D) (ci := 6) (v := .long 0) (ty := .long) (C := RX6) (T := TX6) (N := 14) hx hb htg inX6 tyX6 tyX6_ok nmX6 hown hK.1 hP hD hS 0 rfl rfl 8 (by decide) (htg _ kw_108) (fun _ h9 => h9) rfl (by decide +kernel) rfl rfl (Nat.le_of_ble_eq_true rfl) dX6_advance_144 (fun H locs hP hD hS => ?_)
                obtain ⟨hP, hD⟩ := (show xPD D A [((a 0), .inr (6, [.ref (a 1), .ref (ex 0), .int (vi 0), .int (vi 1), .int (vi 2), .int wv, .int (vi 4), .int wv, .long 0, .int (vi 6), .int ((fi 0) wv.toNatClampNeg), .int (vi 8), .int (vi 9), .int (vi 10)])), ((a 1), .inl (T 0, 940, .inl (fi 0)))] H from ⟨hP, hD⟩)
                refine lv_aload_n hx hb dX6_advance_147 rfl (lv_at hl 0 rfl) ?_
                refine lv_iconst (v := 0) hx hb dX6_advance_148 (by decide) ?_
                refine va_put (D := D) (ci := 6) (v := .int 0) (ty := .int) (C := RX6) (T := TX6) (N := 14) hx hb htg inX6 tyX6 tyX6_ok nmX6 hown hK.1 hP hD hS 0 rfl rfl 9 (by decide) (htg _ kw_110) (fun _ h9 => h9) rfl (by decide +kernel) rfl rfl (Nat.le_of_ble_eq_true rfl) dX6_advance_149 (fun H locs hP hD hS => ?_)
                obtain ⟨hP, hD⟩ := (show xPD D A [((a 0), .inr (6, [.ref (a 1), .ref (ex 0), .int (vi 0), .int (vi 1), .int (vi 2), .int wv, .int (vi 4), .int wv, .long 0, .int 0, .int ((fi 0) wv.toNatClampNeg), .int (vi 8), .int (vi 9), .int (vi 10)])), ((a 1), .inl (T 0, 940, .inl (fi 0)))] H from ⟨hP, hD⟩)
                refine lv_iconst (v := 0) hx hb dX6_advance_152 (by decide) ?_
                refine lv_istore_n (lv' := [(1, .int 0), (0, .ref (a 0))]) hx hb dX6_advance_153 rfl hl (by decide) rfl (fun ls hl => ?_)
                refine lv_iconst (v := 0) hx hb dX6_advance_154 (by decide) ?_
                refine lv_istore_n (lv' := [(2, .int 0), (1, .int 0), (0, .ref (a 0))]) hx hb dX6_advance_155 rfl hl (by decide) rfl (fun ls hl => ?_)
                have lp_2 : ∀ (kn_2 : Nat) (w2_1 : Int32) (w1_1 : Int32) (wv_4 : Int64) (wv_5 : Int32) (wv_6 : Int32) (H : Heap) (locs : List Loc) (ls : Array Slot), (0 ≤ w2_1.toInt ∧ w2_1.toInt ≤ 940) → (0 ≤ w1_1.toInt ∧ w1_1.toInt ≤ 940) → (0 ≤ wv_6.toInt ∧ wv_6.toInt ≤ 940) → ((wv_6).toInt = (wv).toInt + w1_1.toInt + w2_1.toInt) → (2147483648 - (wv_6).toInt).toNat = kn_2 → va_P D vwCl [((a 0), .inr (6, [.ref (a 1), .ref (ex 0), .int (vi 0), .int (vi 1), .int (vi 2), .int wv_6, .int (vi 4), .int wv, .long wv_4, .int wv_5, .int ((fi 0) wv.toNatClampNeg), .int (vi 8), .int (vi 9), .int (vi 10)])), ((a 1), .inl (T 0, 940, .inl (fi 0)))] H → va_D A [((a 0), .inr (6, [.ref (a 1), .ref (ex 0), .int (vi 0), .int (vi 1), .int (vi 2), .int wv_6, .int (vi 4), .int wv, .long wv_4, .int wv_5, .int ((fi 0) wv.toNatClampNeg), .int (vi 8), .int (vi 9), .int (vi 10)])), ((a 1), .inl (T 0, 940, .inl (fi 0)))] → va_S A s.heap H locs → lv_has ls 4 [(2, .int w2_1), (1, .int w1_1), (0, .ref (a 0))] → W p l e R s m ([.ref (a 0)] : List Value).toArray below meth c H locs 0 0 Q (F0 m 156 ls []) := by
                  intro kn_2
                  induction kn_2 using Nat.strongRecOn with
                  | _ kn_2 ih_2 =>
                    intro w2_1 w1_1 wv_4 wv_5 wv_6 H locs ls hi_5 hi_6 hi_7 hi_8 hm_2 hP hD hS hl
                    refine lv_aload_n hx hb dX6_advance_156 rfl (lv_at hl 2 rfl) ?_
                    refine va_get (D := D) (ci := 6) (v := .int wv_6) (C := RX6) (T := TX6) (N := 14) hx hb htg inX6 hown hK.1 hP 0 rfl rfl 5 (by decide) (htg _ kw_100) (fun _ h9 => h9) rfl dX6_advance_157 ?_
                    refine lv_aload_n hx hb dX6_advance_160 rfl (lv_at hl 2 rfl) ?_
                    refine va_get (D := D) (ci := 6) (v := .int (vi 1)) (C := RX6) (T := TX6) (N := 14) hx hb htg inX6 hown hK.1 hP 0 rfl rfl 3 (by decide) (htg _ kw_98) (fun _ h9 => h9) rfl dX6_advance_161 ?_
                    refine lv_icmp_ge (tgt := 253) hx hb dX6_advance_164 (by decide) (fun c164_1 => ?_) (fun c164_1 => ?_)
                    · have c164_1 := Int32.le_iff_toInt_le.mp c164_1
                      have rc164_1 := xrng wv_6; have qc164_1 := xrng (vi 1)
                      refine lv_iload_n hx hb dX6_advance_253 rfl (lv_at hl 1 rfl) ?_
                      refine lv_iload_n hx hb dX6_advance_254 rfl (lv_at hl 0 rfl) ?_
                      refine lv_iadd hx hb dX6_advance_255 ?_
                      refine lv_topi (fun z255_4 ez255_4 => ?_)
                      have tz255_4 : z255_4.toInt = w1_1.toInt + w2_1.toInt := by rw [ez255_4]; exact xadd rfl rfl (by omega) (by omega)
                      refine lv_if_ne (tgt := 326) hx hb dX6_advance_256 (by decide) (fun c256_4 => ?_) (fun c256_4 => ?_)
                      · have c256_4 := xne (k := 0) (by decide) c256_4
                        refine lv_iload_n hx hb dX6_advance_326 rfl (lv_at hl 0 rfl) ?_
                        refine lv_if_ne (tgt := 348) hx hb dX6_advance_327 (by decide) (fun c327_4 => ?_) (fun c327_4 => ?_)
                        · have c327_4 := xne (k := 0) (by decide) c327_4
                          refine lv_aload_n hx hb dX6_advance_348 rfl (lv_at hl 2 rfl) ?_
                          refine lv_iload_n hx hb dX6_advance_349 rfl (lv_at hl 1 rfl) ?_
                          refine lv_if_ne (tgt := 362) hx hb dX6_advance_350 (by decide) (fun c350_4 => ?_) (fun c350_4 => ?_)
                          · have c350_4 := xne (k := 0) (by decide) c350_4
                            refine lv_iconst (v := 4) hx hb dX6_advance_362 (by decide) ?_
                            refine va_put (D := D) (ci := 6) (v := .int 4) (ty := .int) (C := RX6) (T := TX6) (N := 14) hx hb htg inX6 tyX6 tyX6_ok nmX6 hown hK.1 hP hD hS 0 rfl rfl 6 (by decide) (htg _ kw_104) (fun _ h9 => h9) rfl (by decide +kernel) rfl rfl (Nat.le_of_ble_eq_true rfl) dX6_advance_363 (fun H locs hP hD hS => ?_)
                            obtain ⟨hP, hD⟩ := (show xPD D A [((a 0), .inr (6, [.ref (a 1), .ref (ex 0), .int (vi 0), .int (vi 1), .int (vi 2), .int wv_6, .int 4, .int wv, .long wv_4, .int wv_5, .int ((fi 0) wv.toNatClampNeg), .int (vi 8), .int (vi 9), .int (vi 10)])), ((a 1), .inl (T 0, 940, .inl (fi 0)))] H from ⟨hP, hD⟩)
                            have hP9 := hP.sub (ws' := [((a 0), .inr (6, [.ref (a 1), .ref (ex 0), .int (vi 0), .int (vi 1), .int (vi 2), .int wv_6, .int 4, .int wv, .long wv_4, .int wv_5, .int ((fi 0) wv.toNatClampNeg), .int (vi 8), .int (vi 9), .int (vi 10)])), ((a 1), .inl (T 0, 940, .inl (fi 0)))]) [0, 1] rfl
                            have hD9 := hD.sub (ws' := [((a 0), .inr (6, [.ref (a 1), .ref (ex 0), .int (vi 0), .int (vi 1), .int (vi 2), .int wv_6, .int 4, .int wv, .long wv_4, .int wv_5, .int ((fi 0) wv.toNatClampNeg), .int (vi 8), .int (vi 9), .int (vi 10)])), ((a 1), .inl (T 0, 940, .inl (fi 0)))]) [0, 1] (by decide +kernel) rfl
                            rw [hQ]
                            exact W.vret hx hb hr (fun t ht hW => ⟨⟨(0 : Int32), rfl, trivial, xf [], xh [], xv [4, wv, ((fi 0) wv.toNatClampNeg), wv_5, wv_6], xl [wv_4], by rw [ht]; exact hP9, hD9, ⟨hi_7, trivial⟩⟩, hS.F ht⟩) hS.2.2 dX6_advance_366
                          · have c350_4 := xeq (k := 0) (by decide) c350_4
                            refine lv_iload_n hx hb dX6_advance_353 rfl (lv_at hl 0 rfl) ?_
                            refine lv_iconst (v := 3) hx hb dX6_advance_354 (by decide) ?_
                            refine lv_icmp_gt (tgt := 362) hx hb dX6_advance_355 (by decide) (fun c355_4 => ?_) (fun c355_4 => ?_)
                            · have c355_4 := xgt (k := 3) (by decide) c355_4
                              refine lv_iconst (v := 4) hx hb dX6_advance_362 (by decide) ?_
                              refine va_put (D := D) (ci := 6) (v := .int 4) (ty := .int) (C := RX6) (T := TX6) (N := 14) hx hb htg inX6 tyX6 tyX6_ok nmX6 hown hK.1 hP hD hS 0 rfl rfl 6 (by decide) (htg _ kw_104) (fun _ h9 => h9) rfl (by decide +kernel) rfl rfl (Nat.le_of_ble_eq_true rfl) dX6_advance_363 (fun H locs hP hD hS => ?_)
                              obtain ⟨hP, hD⟩ := (show xPD D A [((a 0), .inr (6, [.ref (a 1), .ref (ex 0), .int (vi 0), .int (vi 1), .int (vi 2), .int wv_6, .int 4, .int wv, .long wv_4, .int wv_5, .int ((fi 0) wv.toNatClampNeg), .int (vi 8), .int (vi 9), .int (vi 10)])), ((a 1), .inl (T 0, 940, .inl (fi 0)))] H from ⟨hP, hD⟩)
                              have hP9 := hP.sub (ws' := [((a 0), .inr (6, [.ref (a 1), .ref (ex 0), .int (vi 0), .int (vi 1), .int (vi 2), .int wv_6, .int 4, .int wv, .long wv_4, .int wv_5, .int ((fi 0) wv.toNatClampNeg), .int (vi 8), .int (vi 9), .int (vi 10)])), ((a 1), .inl (T 0, 940, .inl (fi 0)))]) [0, 1] rfl
                              have hD9 := hD.sub (ws' := [((a 0), .inr (6, [.ref (a 1), .ref (ex 0), .int (vi 0), .int (vi 1), .int (vi 2), .int wv_6, .int 4, .int wv, .long wv_4, .int wv_5, .int ((fi 0) wv.toNatClampNeg), .int (vi 8), .int (vi 9), .int (vi 10)])), ((a 1), .inl (T 0, 940, .inl (fi 0)))]) [0, 1] (by decide +kernel) rfl
                              rw [hQ]
                              exact W.vret hx hb hr (fun t ht hW => ⟨⟨(0 : Int32), rfl, trivial, xf [], xh [], xv [4, wv, ((fi 0) wv.toNatClampNeg), wv_5, wv_6], xl [wv_4], by rw [ht]; exact hP9, hD9, ⟨hi_7, trivial⟩⟩, hS.F ht⟩) hS.2.2 dX6_advance_366
                            · have c355_4 := xngt (k := 3) (by decide) c355_4
                              refine lv_iconst (v := 2) hx hb dX6_advance_358 (by decide) ?_
                              refine lv_goto (tgt := 363) hx hb dX6_advance_359 (by decide) ?_
                              refine va_put (D := D) (ci := 6) (v := .int 2) (ty := .int) (C := RX6) (T := TX6) (N := 14) hx hb htg inX6 tyX6 tyX6_ok nmX6 hown hK.1 hP hD hS 0 rfl rfl 6 (by decide) (htg _ kw_104) (fun _ h9 => h9) rfl (by decide +kernel) rfl rfl (Nat.le_of_ble_eq_true rfl) dX6_advance_363 (fun H locs hP hD hS => ?_)
                              obtain ⟨hP, hD⟩ := (show xPD D A [((a 0), .inr (6, [.ref (a 1), .ref (ex 0), .int (vi 0), .int (vi 1), .int (vi 2), .int wv_6, .int 2, .int wv, .long wv_4, .int wv_5, .int ((fi 0) wv.toNatClampNeg), .int (vi 8), .int (vi 9), .int (vi 10)])), ((a 1), .inl (T 0, 940, .inl (fi 0)))] H from ⟨hP, hD⟩)
                              have hP9 := hP.sub (ws' := [((a 0), .inr (6, [.ref (a 1), .ref (ex 0), .int (vi 0), .int (vi 1), .int (vi 2), .int wv_6, .int 2, .int wv, .long wv_4, .int wv_5, .int ((fi 0) wv.toNatClampNeg), .int (vi 8), .int (vi 9), .int (vi 10)])), ((a 1), .inl (T 0, 940, .inl (fi 0)))]) [0, 1] rfl
                              have hD9 := hD.sub (ws' := [((a 0), .inr (6, [.ref (a 1), .ref (ex 0), .int (vi 0), .int (vi 1), .int (vi 2), .int wv_6, .int 2, .int wv, .long wv_4, .int wv_5, .int ((fi 0) wv.toNatClampNeg), .int (vi 8), .int (vi 9), .int (vi 10)])), ((a 1), .inl (T 0, 940, .inl (fi 0)))]) [0, 1] (by decide +kernel) rfl
                              rw [hQ]
                              exact W.vret hx hb hr (fun t ht hW => ⟨⟨(0 : Int32), rfl, trivial, xf [], xh [], xv [2, wv, ((fi 0) wv.toNatClampNeg), wv_5, wv_6], xl [wv_4], by rw [ht]; exact hP9, hD9, ⟨hi_7, trivial⟩⟩, hS.F ht⟩) hS.2.2 dX6_advance_366
                        · have c327_4 := xeq (k := 0) (by decide) c327_4
                          refine lv_aload_n hx hb dX6_advance_330 rfl (lv_at hl 2 rfl) ?_
                          refine lv_iload_n hx hb dX6_advance_331 rfl (lv_at hl 1 rfl) ?_
                          refine lv_bipush (v := 7) hx hb dX6_advance_332 (by decide) ?_
                          refine lv_icmp_gt (tgt := 341) hx hb dX6_advance_334 (by decide) (fun c334_4 => ?_) (fun c334_4 => ?_)
                          · have c334_4 := xgt (k := 7) (by decide) c334_4
                            refine lv_iconst (v := 4) hx hb dX6_advance_341 (by decide) ?_
                            refine va_put (D := D) (ci := 6) (v := .int 4) (ty := .int) (C := RX6) (T := TX6) (N := 14) hx hb htg inX6 tyX6 tyX6_ok nmX6 hown hK.1 hP hD hS 0 rfl rfl 6 (by decide) (htg _ kw_104) (fun _ h9 => h9) rfl (by decide +kernel) rfl rfl (Nat.le_of_ble_eq_true rfl) dX6_advance_342 (fun H locs hP hD hS => ?_)
                            obtain ⟨hP, hD⟩ := (show xPD D A [((a 0), .inr (6, [.ref (a 1), .ref (ex 0), .int (vi 0), .int (vi 1), .int (vi 2), .int wv_6, .int 4, .int wv, .long wv_4, .int wv_5, .int ((fi 0) wv.toNatClampNeg), .int (vi 8), .int (vi 9), .int (vi 10)])), ((a 1), .inl (T 0, 940, .inl (fi 0)))] H from ⟨hP, hD⟩)
                            refine lv_goto (tgt := 366) hx hb dX6_advance_345 (by decide) ?_
                            have hP9 := hP.sub (ws' := [((a 0), .inr (6, [.ref (a 1), .ref (ex 0), .int (vi 0), .int (vi 1), .int (vi 2), .int wv_6, .int 4, .int wv, .long wv_4, .int wv_5, .int ((fi 0) wv.toNatClampNeg), .int (vi 8), .int (vi 9), .int (vi 10)])), ((a 1), .inl (T 0, 940, .inl (fi 0)))]) [0, 1] rfl
                            have hD9 := hD.sub (ws' := [((a 0), .inr (6, [.ref (a 1), .ref (ex 0), .int (vi 0), .int (vi 1), .int (vi 2), .int wv_6, .int 4, .int wv, .long wv_4, .int wv_5, .int ((fi 0) wv.toNatClampNeg), .int (vi 8), .int (vi 9), .int (vi 10)])), ((a 1), .inl (T 0, 940, .inl (fi 0)))]) [0, 1] (by decide +kernel) rfl
                            rw [hQ]
                            exact W.vret hx hb hr (fun t ht hW => ⟨⟨(0 : Int32), rfl, trivial, xf [], xh [], xv [4, wv, ((fi 0) wv.toNatClampNeg), wv_5, wv_6], xl [wv_4], by rw [ht]; exact hP9, hD9, ⟨hi_7, trivial⟩⟩, hS.F ht⟩) hS.2.2 dX6_advance_366
                          · have c334_4 := xngt (k := 7) (by decide) c334_4
                            refine lv_iconst (v := 1) hx hb dX6_advance_337 (by decide) ?_
                            refine lv_goto (tgt := 342) hx hb dX6_advance_338 (by decide) ?_
                            refine va_put (D := D) (ci := 6) (v := .int 1) (ty := .int) (C := RX6) (T := TX6) (N := 14) hx hb htg inX6 tyX6 tyX6_ok nmX6 hown hK.1 hP hD hS 0 rfl rfl 6 (by decide) (htg _ kw_104) (fun _ h9 => h9) rfl (by decide +kernel) rfl rfl (Nat.le_of_ble_eq_true rfl) dX6_advance_342 (fun H locs hP hD hS => ?_)
                            obtain ⟨hP, hD⟩ := (show xPD D A [((a 0), .inr (6, [.ref (a 1), .ref (ex 0), .int (vi 0), .int (vi 1), .int (vi 2), .int wv_6, .int 1, .int wv, .long wv_4, .int wv_5, .int ((fi 0) wv.toNatClampNeg), .int (vi 8), .int (vi 9), .int (vi 10)])), ((a 1), .inl (T 0, 940, .inl (fi 0)))] H from ⟨hP, hD⟩)
                            refine lv_goto (tgt := 366) hx hb dX6_advance_345 (by decide) ?_
                            have hP9 := hP.sub (ws' := [((a 0), .inr (6, [.ref (a 1), .ref (ex 0), .int (vi 0), .int (vi 1), .int (vi 2), .int wv_6, .int 1, .int wv, .long wv_4, .int wv_5, .int ((fi 0) wv.toNatClampNeg), .int (vi 8), .int (vi 9), .int (vi 10)])), ((a 1), .inl (T 0, 940, .inl (fi 0)))]) [0, 1] rfl
                            have hD9 := hD.sub (ws' := [((a 0), .inr (6, [.ref (a 1), .ref (ex 0), .int (vi 0), .int (vi 1), .int (vi 2), .int wv_6, .int 1, .int wv, .long wv_4, .int wv_5, .int ((fi 0) wv.toNatClampNeg), .int (vi 8), .int (vi 9), .int (vi 10)])), ((a 1), .inl (T 0, 940, .inl (fi 0)))]) [0, 1] (by decide +kernel) rfl
                            rw [hQ]
                            exact W.vret hx hb hr (fun t ht hW => ⟨⟨(0 : Int32), rfl, trivial, xf [], xh [], xv [1, wv, ((fi 0) wv.toNatClampNeg), wv_5, wv_6], xl [wv_4], by rw [ht]; exact hP9, hD9, ⟨hi_7, trivial⟩⟩, hS.F ht⟩) hS.2.2 dX6_advance_366
                      · have c256_4 := xeq (k := 0) (by decide) c256_4
                        refine lv_aload_n hx hb dX6_advance_259 rfl (lv_at hl 2 rfl) ?_
                        refine lv_dup hx hb dX6_advance_260 rfl ?_
                        refine va_get (D := D) (ci := 6) (v := .int wv_6) (C := RX6) (T := TX6) (N := 14) hx hb htg inX6 hown hK.1 hP 0 rfl rfl 5 (by decide) (htg _ kw_100) (fun _ h9 => h9) rfl dX6_advance_261 ?_
                        refine lv_iconst (v := 1) hx hb dX6_advance_264 (by decide) ?_
                        refine lv_iadd hx hb dX6_advance_265 ?_
                        refine lv_topi (fun z265_4 ez265_4 => ?_)
                        have tz265_4 : z265_4.toInt = wv_6.toInt + 1 := by rw [ez265_4]; exact xadd rfl (by decide) (by omega) (by omega)
                        refine va_put (D := D) (ci := 6) (v := .int z265_4) (ty := .int) (C := RX6) (T := TX6) (N := 14) hx hb htg inX6 tyX6 tyX6_ok nmX6 hown hK.1 hP hD hS 0 rfl rfl 5 (by decide) (htg _ kw_100) (fun _ h9 => h9) rfl (by decide +kernel) rfl rfl (Nat.le_of_ble_eq_true rfl) dX6_advance_266 (fun H locs hP hD hS => ?_)
                        obtain ⟨hP, hD⟩ := (show xPD D A [((a 0), .inr (6, [.ref (a 1), .ref (ex 0), .int (vi 0), .int (vi 1), .int (vi 2), .int z265_4, .int (vi 4), .int wv, .long wv_4, .int wv_5, .int ((fi 0) wv.toNatClampNeg), .int (vi 8), .int (vi 9), .int (vi 10)])), ((a 1), .inl (T 0, 940, .inl (fi 0)))] H from ⟨hP, hD⟩)
                        refine lv_aload_n hx hb dX6_advance_269 rfl (lv_at hl 2 rfl) ?_
                        refine lv_aload_n hx hb dX6_advance_270 rfl (lv_at hl 2 rfl) ?_
                        refine va_get (D := D) (ci := 6) (v := .int ((fi 0) wv.toNatClampNeg)) (C := RX6) (T := TX6) (N := 14) hx hb htg inX6 hown hK.1 hP 0 rfl rfl 10 (by decide) (htg _ kw_111) (fun _ h9 => h9) rfl dX6_advance_271 ?_
                        refine lv_bipush (v := 59) hx hb dX6_advance_274 (by decide) ?_
                        refine lv_icmp_eq (tgt := 315) hx hb dX6_advance_276 (by decide) (fun c276_4 => ?_) (fun c276_4 => ?_)
                        · have c276_4 := xeq (k := 59) (by decide) c276_4
                          refine lv_iconst (v := 3) hx hb dX6_advance_315 (by decide) ?_
                          refine lv_goto (tgt := 320) hx hb dX6_advance_316 (by decide) ?_
                          refine va_put (D := D) (ci := 6) (v := .int 3) (ty := .int) (C := RX6) (T := TX6) (N := 14) hx hb htg inX6 tyX6 tyX6_ok nmX6 hown hK.1 hP hD hS 0 rfl rfl 6 (by decide) (htg _ kw_104) (fun _ h9 => h9) rfl (by decide +kernel) rfl rfl (Nat.le_of_ble_eq_true rfl) dX6_advance_320 (fun H locs hP hD hS => ?_)
                          obtain ⟨hP, hD⟩ := (show xPD D A [((a 0), .inr (6, [.ref (a 1), .ref (ex 0), .int (vi 0), .int (vi 1), .int (vi 2), .int z265_4, .int 3, .int wv, .long wv_4, .int wv_5, .int ((fi 0) wv.toNatClampNeg), .int (vi 8), .int (vi 9), .int (vi 10)])), ((a 1), .inl (T 0, 940, .inl (fi 0)))] H from ⟨hP, hD⟩)
                          refine lv_goto (tgt := 366) hx hb dX6_advance_323 (by decide) ?_
                          have hP9 := hP.sub (ws' := [((a 0), .inr (6, [.ref (a 1), .ref (ex 0), .int (vi 0), .int (vi 1), .int (vi 2), .int z265_4, .int 3, .int wv, .long wv_4, .int wv_5, .int ((fi 0) wv.toNatClampNeg), .int (vi 8), .int (vi 9), .int (vi 10)])), ((a 1), .inl (T 0, 940, .inl (fi 0)))]) [0, 1] rfl
                          have hD9 := hD.sub (ws' := [((a 0), .inr (6, [.ref (a 1), .ref (ex 0), .int (vi 0), .int (vi 1), .int (vi 2), .int z265_4, .int 3, .int wv, .long wv_4, .int wv_5, .int ((fi 0) wv.toNatClampNeg), .int (vi 8), .int (vi 9), .int (vi 10)])), ((a 1), .inl (T 0, 940, .inl (fi 0)))]) [0, 1] (by decide +kernel) rfl
                          rw [hQ]
                          exact W.vret hx hb hr (fun t ht hW => ⟨⟨(0 : Int32), rfl, trivial, xf [], xh [], xv [3, wv, ((fi 0) wv.toNatClampNeg), wv_5, z265_4], xl [wv_4], by rw [ht]; exact hP9, hD9, ⟨(by show 0 ≤ z265_4.toInt ∧ z265_4.toInt ≤ 940; omega), trivial⟩⟩, hS.F ht⟩) hS.2.2 dX6_advance_366
                        · have c276_4 := xne (k := 59) (by decide) c276_4
                          refine lv_aload_n hx hb dX6_advance_279 rfl (lv_at hl 2 rfl) ?_
                          refine va_get (D := D) (ci := 6) (v := .int ((fi 0) wv.toNatClampNeg)) (C := RX6) (T := TX6) (N := 14) hx hb htg inX6 hown hK.1 hP 0 rfl rfl 10 (by decide) (htg _ kw_111) (fun _ h9 => h9) rfl dX6_advance_280 ?_
                          refine lv_bipush (v := 40) hx hb dX6_advance_283 (by decide) ?_
                          refine lv_icmp_eq (tgt := 315) hx hb dX6_advance_285 (by decide) (fun c285_4 => ?_) (fun c285_4 => ?_)
                          · have c285_4 := xeq (k := 40) (by decide) c285_4
                            refine lv_iconst (v := 3) hx hb dX6_advance_315 (by decide) ?_
                            refine lv_goto (tgt := 320) hx hb dX6_advance_316 (by decide) ?_
                            refine va_put (D := D) (ci := 6) (v := .int 3) (ty := .int) (C := RX6) (T := TX6) (N := 14) hx hb htg inX6 tyX6 tyX6_ok nmX6 hown hK.1 hP hD hS 0 rfl rfl 6 (by decide) (htg _ kw_104) (fun _ h9 => h9) rfl (by decide +kernel) rfl rfl (Nat.le_of_ble_eq_true rfl) dX6_advance_320 (fun H locs hP hD hS => ?_)
                            obtain ⟨hP, hD⟩ := (show xPD D A [((a 0), .inr (6, [.ref (a 1), .ref (ex 0), .int (vi 0), .int (vi 1), .int (vi 2), .int z265_4, .int 3, .int wv, .long wv_4, .int wv_5, .int ((fi 0) wv.toNatClampNeg), .int (vi 8), .int (vi 9), .int (vi 10)])), ((a 1), .inl (T 0, 940, .inl (fi 0)))] H from ⟨hP, hD⟩)
                            refine lv_goto (tgt := 366) hx hb dX6_advance_323 (by decide) ?_
                            have hP9 := hP.sub (ws' := [((a 0), .inr (6, [.ref (a 1), .ref (ex 0), .int (vi 0), .int (vi 1), .int (vi 2), .int z265_4, .int 3, .int wv, .long wv_4, .int wv_5, .int ((fi 0) wv.toNatClampNeg), .int (vi 8), .int (vi 9), .int (vi 10)])), ((a 1), .inl (T 0, 940, .inl (fi 0)))]) [0, 1] rfl
                            have hD9 := hD.sub (ws' := [((a 0), .inr (6, [.ref (a 1), .ref (ex 0), .int (vi 0), .int (vi 1), .int (vi 2), .int z265_4, .int 3, .int wv, .long wv_4, .int wv_5, .int ((fi 0) wv.toNatClampNeg), .int (vi 8), .int (vi 9), .int (vi 10)])), ((a 1), .inl (T 0, 940, .inl (fi 0)))]) [0, 1] (by decide +kernel) rfl
                            rw [hQ]
                            exact W.vret hx hb hr (fun t ht hW => ⟨⟨(0 : Int32), rfl, trivial, xf [], xh [], xv [3, wv, ((fi 0) wv.toNatClampNeg), wv_5, z265_4], xl [wv_4], by rw [ht]; exact hP9, hD9, ⟨(by show 0 ≤ z265_4.toInt ∧ z265_4.toInt ≤ 940; omega), trivial⟩⟩, hS.F ht⟩) hS.2.2 dX6_advance_366
                          · have c285_4 := xne (k := 40) (by decide) c285_4
                            refine lv_aload_n hx hb dX6_advance_288 rfl (lv_at hl 2 rfl) ?_
                            refine va_get (D := D) (ci := 6) (v := .int ((fi 0) wv.toNatClampNeg)) (C := RX6) (T := TX6) (N := 14) hx hb htg inX6 hown hK.1 hP 0 rfl rfl 10 (by decide) (htg _ kw_111) (fun _ h9 => h9) rfl dX6_advance_289 ?_
                            refine lv_bipush (v := 41) hx hb dX6_advance_292 (by decide) ?_
                            refine lv_icmp_eq (tgt := 315) hx hb dX6_advance_294 (by decide) (fun c294_4 => ?_) (fun c294_4 => ?_)
                            · have c294_4 := xeq (k := 41) (by decide) c294_4
                              refine lv_iconst (v := 3) hx hb dX6_advance_315 (by decide) ?_
                              refine lv_goto (tgt := 320) hx hb dX6_advance_316 (by decide) ?_
                              refine va_put (D := D) (ci := 6) (v := .int 3) (ty := .int) (C := RX6) (T := TX6) (N := 14) hx hb htg inX6 tyX6 tyX6_ok nmX6 hown hK.1 hP hD hS 0 rfl rfl 6 (by decide) (htg _ kw_104) (fun _ h9 => h9) rfl (by decide +kernel) rfl rfl (Nat.le_of_ble_eq_true rfl) dX6_advance_320 (fun H locs hP hD hS => ?_)
                              obtain ⟨hP, hD⟩ := (show xPD D A [((a 0), .inr (6, [.ref (a 1), .ref (ex 0), .int (vi 0), .int (vi 1), .int (vi 2), .int z265_4, .int 3, .int wv, .long wv_4, .int wv_5, .int ((fi 0) wv.toNatClampNeg), .int (vi 8), .int (vi 9), .int (vi 10)])), ((a 1), .inl (T 0, 940, .inl (fi 0)))] H from ⟨hP, hD⟩)
                              refine lv_goto (tgt := 366) hx hb dX6_advance_323 (by decide) ?_
                              have hP9 := hP.sub (ws' := [((a 0), .inr (6, [.ref (a 1), .ref (ex 0), .int (vi 0), .int (vi 1), .int (vi 2), .int z265_4, .int 3, .int wv, .long wv_4, .int wv_5, .int ((fi 0) wv.toNatClampNeg), .int (vi 8), .int (vi 9), .int (vi 10)])), ((a 1), .inl (T 0, 940, .inl (fi 0)))]) [0, 1] rfl
                              have hD9 := hD.sub (ws' := [((a 0), .inr (6, [.ref (a 1), .ref (ex 0), .int (vi 0), .int (vi 1), .int (vi 2), .int z265_4, .int 3, .int wv, .long wv_4, .int wv_5, .int ((fi 0) wv.toNatClampNeg), .int (vi 8), .int (vi 9), .int (vi 10)])), ((a 1), .inl (T 0, 940, .inl (fi 0)))]) [0, 1] (by decide +kernel) rfl
                              rw [hQ]
                              exact W.vret hx hb hr (fun t ht hW => ⟨⟨(0 : Int32), rfl, trivial, xf [], xh [], xv [3, wv, ((fi 0) wv.toNatClampNeg), wv_5, z265_4], xl [wv_4], by rw [ht]; exact hP9, hD9, ⟨(by show 0 ≤ z265_4.toInt ∧ z265_4.toInt ≤ 940; omega), trivial⟩⟩, hS.F ht⟩) hS.2.2 dX6_advance_366
                            · have c294_4 := xne (k := 41) (by decide) c294_4
                              refine lv_aload_n hx hb dX6_advance_297 rfl (lv_at hl 2 rfl) ?_
                              refine va_get (D := D) (ci := 6) (v := .int ((fi 0) wv.toNatClampNeg)) (C := RX6) (T := TX6) (N := 14) hx hb htg inX6 hown hK.1 hP 0 rfl rfl 10 (by decide) (htg _ kw_111) (fun _ h9 => h9) rfl dX6_advance_298 ?_
                              refine lv_bipush (v := 60) hx hb dX6_advance_301 (by decide) ?_
                              refine lv_icmp_lt (tgt := 319) hx hb dX6_advance_303 (by decide) (fun c303_4 => ?_) (fun c303_4 => ?_)
                              · have c303_4 := xlt (k := 60) (by decide) c303_4
                                refine lv_iconst (v := 4) hx hb dX6_advance_319 (by decide) ?_
                                refine va_put (D := D) (ci := 6) (v := .int 4) (ty := .int) (C := RX6) (T := TX6) (N := 14) hx hb htg inX6 tyX6 tyX6_ok nmX6 hown hK.1 hP hD hS 0 rfl rfl 6 (by decide) (htg _ kw_104) (fun _ h9 => h9) rfl (by decide +kernel) rfl rfl (Nat.le_of_ble_eq_true rfl) dX6_advance_320 (fun H locs hP hD hS => ?_)
                                obtain ⟨hP, hD⟩ := (show xPD D A [((a 0), .inr (6, [.ref (a 1), .ref (ex 0), .int (vi 0), .int (vi 1), .int (vi 2), .int z265_4, .int 4, .int wv, .long wv_4, .int wv_5, .int ((fi 0) wv.toNatClampNeg), .int (vi 8), .int (vi 9), .int (vi 10)])), ((a 1), .inl (T 0, 940, .inl (fi 0)))] H from ⟨hP, hD⟩)
                                refine lv_goto (tgt := 366) hx hb dX6_advance_323 (by decide) ?_
                                have hP9 := hP.sub (ws' := [((a 0), .inr (6, [.ref (a 1), .ref (ex 0), .int (vi 0), .int (vi 1), .int (vi 2), .int z265_4, .int 4, .int wv, .long wv_4, .int wv_5, .int ((fi 0) wv.toNatClampNeg), .int (vi 8), .int (vi 9), .int (vi 10)])), ((a 1), .inl (T 0, 940, .inl (fi 0)))]) [0, 1] rfl
                                have hD9 := hD.sub (ws' := [((a 0), .inr (6, [.ref (a 1), .ref (ex 0), .int (vi 0), .int (vi 1), .int (vi 2), .int z265_4, .int 4, .int wv, .long wv_4, .int wv_5, .int ((fi 0) wv.toNatClampNeg), .int (vi 8), .int (vi 9), .int (vi 10)])), ((a 1), .inl (T 0, 940, .inl (fi 0)))]) [0, 1] (by decide +kernel) rfl
                                rw [hQ]
                                exact W.vret hx hb hr (fun t ht hW => ⟨⟨(0 : Int32), rfl, trivial, xf [], xh [], xv [4, wv, ((fi 0) wv.toNatClampNeg), wv_5, z265_4], xl [wv_4], by rw [ht]; exact hP9, hD9, ⟨(by show 0 ≤ z265_4.toInt ∧ z265_4.toInt ≤ 940; omega), trivial⟩⟩, hS.F ht⟩) hS.2.2 dX6_advance_366
                              · have c303_4 := xnlt (k := 60) (by decide) c303_4
                                refine lv_aload_n hx hb dX6_advance_306 rfl (lv_at hl 2 rfl) ?_
                                refine va_get (D := D) (ci := 6) (v := .int ((fi 0) wv.toNatClampNeg)) (C := RX6) (T := TX6) (N := 14) hx hb htg inX6 hown hK.1 hP 0 rfl rfl 10 (by decide) (htg _ kw_111) (fun _ h9 => h9) rfl dX6_advance_307 ?_
                                refine lv_bipush (v := 62) hx hb dX6_advance_310 (by decide) ?_
                                refine lv_icmp_gt (tgt := 319) hx hb dX6_advance_312 (by decide) (fun c312_4 => ?_) (fun c312_4 => ?_)
                                · have c312_4 := xgt (k := 62) (by decide) c312_4
                                  refine lv_iconst (v := 4) hx hb dX6_advance_319 (by decide) ?_
                                  refine va_put (D := D) (ci := 6) (v := .int 4) (ty := .int) (C := RX6) (T := TX6) (N := 14) hx hb htg inX6 tyX6 tyX6_ok nmX6 hown hK.1 hP hD hS 0 rfl rfl 6 (by decide) (htg _ kw_104) (fun _ h9 => h9) rfl (by decide +kernel) rfl rfl (Nat.le_of_ble_eq_true rfl) dX6_advance_320 (fun H locs hP hD hS => ?_)
                                  obtain ⟨hP, hD⟩ := (show xPD D A [((a 0), .inr (6, [.ref (a 1), .ref (ex 0), .int (vi 0), .int (vi 1), .int (vi 2), .int z265_4, .int 4, .int wv, .long wv_4, .int wv_5, .int ((fi 0) wv.toNatClampNeg), .int (vi 8), .int (vi 9), .int (vi 10)])), ((a 1), .inl (T 0, 940, .inl (fi 0)))] H from ⟨hP, hD⟩)
                                  refine lv_goto (tgt := 366) hx hb dX6_advance_323 (by decide) ?_
                                  have hP9 := hP.sub (ws' := [((a 0), .inr (6, [.ref (a 1), .ref (ex 0), .int (vi 0), .int (vi 1), .int (vi 2), .int z265_4, .int 4, .int wv, .long wv_4, .int wv_5, .int ((fi 0) wv.toNatClampNeg), .int (vi 8), .int (vi 9), .int (vi 10)])), ((a 1), .inl (T 0, 940, .inl (fi 0)))]) [0, 1] rfl
                                  have hD9 := hD.sub (ws' := [((a 0), .inr (6, [.ref (a 1), .ref (ex 0), .int (vi 0), .int (vi 1), .int (vi 2), .int z265_4, .int 4, .int wv, .long wv_4, .int wv_5, .int ((fi 0) wv.toNatClampNeg), .int (vi 8), .int (vi 9), .int (vi 10)])), ((a 1), .inl (T 0, 940, .inl (fi 0)))]) [0, 1] (by decide +kernel) rfl
                                  rw [hQ]
                                  exact W.vret hx hb hr (fun t ht hW => ⟨⟨(0 : Int32), rfl, trivial, xf [], xh [], xv [4, wv, ((fi 0) wv.toNatClampNeg), wv_5, z265_4], xl [wv_4], by rw [ht]; exact hP9, hD9, ⟨(by show 0 ≤ z265_4.toInt ∧ z265_4.toInt ≤ 940; omega), trivial⟩⟩, hS.F ht⟩) hS.2.2 dX6_advance_366
                                · have c312_4 := xngt (k := 62) (by decide) c312_4
                                  refine lv_iconst (v := 3) hx hb dX6_advance_315 (by decide) ?_
                                  refine lv_goto (tgt := 320) hx hb dX6_advance_316 (by decide) ?_
                                  refine va_put (D := D) (ci := 6) (v := .int 3) (ty := .int) (C := RX6) (T := TX6) (N := 14) hx hb htg inX6 tyX6 tyX6_ok nmX6 hown hK.1 hP hD hS 0 rfl rfl 6 (by decide) (htg _ kw_104) (fun _ h9 => h9) rfl (by decide +kernel) rfl rfl (Nat.le_of_ble_eq_true rfl) dX6_advance_320 (fun H locs hP hD hS => ?_)
                                  obtain ⟨hP, hD⟩ := (show xPD D A [((a 0), .inr (6, [.ref (a 1), .ref (ex 0), .int (vi 0), .int (vi 1), .int (vi 2), .int z265_4, .int 3, .int wv, .long wv_4, .int wv_5, .int ((fi 0) wv.toNatClampNeg), .int (vi 8), .int (vi 9), .int (vi 10)])), ((a 1), .inl (T 0, 940, .inl (fi 0)))] H from ⟨hP, hD⟩)
                                  refine lv_goto (tgt := 366) hx hb dX6_advance_323 (by decide) ?_
                                  have hP9 := hP.sub (ws' := [((a 0), .inr (6, [.ref (a 1), .ref (ex 0), .int (vi 0), .int (vi 1), .int (vi 2), .int z265_4, .int 3, .int wv, .long wv_4, .int wv_5, .int ((fi 0) wv.toNatClampNeg), .int (vi 8), .int (vi 9), .int (vi 10)])), ((a 1), .inl (T 0, 940, .inl (fi 0)))]) [0, 1] rfl
                                  have hD9 := hD.sub (ws' := [((a 0), .inr (6, [.ref (a 1), .ref (ex 0), .int (vi 0), .int (vi 1), .int (vi 2), .int z265_4, .int 3, .int wv, .long wv_4, .int wv_5, .int ((fi 0) wv.toNatClampNeg), .int (vi 8), .int (vi 9), .int (vi 10)])), ((a 1), .inl (T 0, 940, .inl (fi 0)))]) [0, 1] (by decide +kernel) rfl
                                  rw [hQ]
                                  exact W.vret hx hb hr (fun t ht hW => ⟨⟨(0 : Int32), rfl, trivial, xf [], xh [], xv [3, wv, ((fi 0) wv.toNatClampNeg), wv_5, z265_4], xl [wv_4], by rw [ht]; exact hP9, hD9, ⟨(by show 0 ≤ z265_4.toInt ∧ z265_4.toInt ≤ 940; omega), trivial⟩⟩, hS.F ht⟩) hS.2.2 dX6_advance_366
                    · have c164_1 := (mt Int32.le_iff_toInt_le.mpr c164_1)
                      have rc164_1 := xrng wv_6; have qc164_1 := xrng (vi 1)
                      refine lv_aload_n hx hb dX6_advance_167 rfl (lv_at hl 2 rfl) ?_
                      refine va_get (D := D) (ci := 6) (v := .ref (a 1)) (C := RX6) (T := TX6) (N := 14) hx hb htg inX6 hown hK.1 hP 0 rfl rfl 0 (by decide) (htg _ kw_94) (fun _ h9 => h9) rfl dX6_advance_168 ?_
                      refine lv_aload_n hx hb dX6_advance_171 rfl (lv_at hl 2 rfl) ?_
                      refine va_get (D := D) (ci := 6) (v := .int wv_6) (C := RX6) (T := TX6) (N := 14) hx hb htg inX6 hown hK.1 hP 0 rfl rfl 5 (by decide) (htg _ kw_100) (fun _ h9 => h9) rfl dX6_advance_172 ?_
                      refine va_bald hx hb hK.1 hP 1 0 rfl rfl (vp_in_iff.mpr (by omega)) dX6_advance_175 ?_
                      refine lv_istore_n (lv' := [(3, .int ((fi 0) wv_6.toNatClampNeg)), (2, .int w2_1), (1, .int w1_1), (0, .ref (a 0))]) hx hb dX6_advance_176 rfl hl (by decide) rfl (fun ls hl => ?_)
                      refine lv_iload_n hx hb dX6_advance_177 rfl (lv_at hl 0 rfl) ?_
                      refine lv_bipush (v := 97) hx hb dX6_advance_178 (by decide) ?_
                      refine lv_icmp_lt (tgt := 209) hx hb dX6_advance_180 (by decide) (fun c180_1 => ?_) (fun c180_1 => ?_)
                      · have c180_1 := xlt (k := 97) (by decide) c180_1
                        refine lv_iload_n hx hb dX6_advance_209 rfl (lv_at hl 0 rfl) ?_
                        refine lv_bipush (v := 48) hx hb dX6_advance_210 (by decide) ?_
                        refine lv_icmp_lt (tgt := 253) hx hb dX6_advance_212 (by decide) (fun c212_1 => ?_) (fun c212_1 => ?_)
                        · have c212_1 := xlt (k := 48) (by decide) c212_1
                          refine lv_iload_n hx hb dX6_advance_253 rfl (lv_at hl 2 rfl) ?_
                          refine lv_iload_n hx hb dX6_advance_254 rfl (lv_at hl 1 rfl) ?_
                          refine lv_iadd hx hb dX6_advance_255 ?_
                          refine lv_topi (fun z255_5 ez255_5 => ?_)
                          have tz255_5 : z255_5.toInt = w1_1.toInt + w2_1.toInt := by rw [ez255_5]; exact xadd rfl rfl (by omega) (by omega)
                          refine lv_if_ne (tgt := 326) hx hb dX6_advance_256 (by decide) (fun c256_5 => ?_) (fun c256_5 => ?_)
                          · have c256_5 := xne (k := 0) (by decide) c256_5
                            refine lv_iload_n hx hb dX6_advance_326 rfl (lv_at hl 1 rfl) ?_
                            refine lv_if_ne (tgt := 348) hx hb dX6_advance_327 (by decide) (fun c327_5 => ?_) (fun c327_5 => ?_)
                            · have c327_5 := xne (k := 0) (by decide) c327_5
                              refine lv_aload_n hx hb dX6_advance_348 rfl (lv_at hl 3 rfl) ?_
                              refine lv_iload_n hx hb dX6_advance_349 rfl (lv_at hl 2 rfl) ?_
                              refine lv_if_ne (tgt := 362) hx hb dX6_advance_350 (by decide) (fun c350_5 => ?_) (fun c350_5 => ?_)
                              · have c350_5 := xne (k := 0) (by decide) c350_5
                                refine lv_iconst (v := 4) hx hb dX6_advance_362 (by decide) ?_
                                refine va_put (D := D) (ci := 6) (v := .int 4) (ty := .int) (C := RX6) (T := TX6) (N := 14) hx hb htg inX6 tyX6 tyX6_ok nmX6 hown hK.1 hP hD hS 0 rfl rfl 6 (by decide) (htg _ kw_104) (fun _ h9 => h9) rfl (by decide +kernel) rfl rfl (Nat.le_of_ble_eq_true rfl) dX6_advance_363 (fun H locs hP hD hS => ?_)
                                obtain ⟨hP, hD⟩ := (show xPD D A [((a 0), .inr (6, [.ref (a 1), .ref (ex 0), .int (vi 0), .int (vi 1), .int (vi 2), .int wv_6, .int 4, .int wv, .long wv_4, .int wv_5, .int ((fi 0) wv.toNatClampNeg), .int (vi 8), .int (vi 9), .int (vi 10)])), ((a 1), .inl (T 0, 940, .inl (fi 0)))] H from ⟨hP, hD⟩)
                                have hP9 := hP.sub (ws' := [((a 0), .inr (6, [.ref (a 1), .ref (ex 0), .int (vi 0), .int (vi 1), .int (vi 2), .int wv_6, .int 4, .int wv, .long wv_4, .int wv_5, .int ((fi 0) wv.toNatClampNeg), .int (vi 8), .int (vi 9), .int (vi 10)])), ((a 1), .inl (T 0, 940, .inl (fi 0)))]) [0, 1] rfl
                                have hD9 := hD.sub (ws' := [((a 0), .inr (6, [.ref (a 1), .ref (ex 0), .int (vi 0), .int (vi 1), .int (vi 2), .int wv_6, .int 4, .int wv, .long wv_4, .int wv_5, .int ((fi 0) wv.toNatClampNeg), .int (vi 8), .int (vi 9), .int (vi 10)])), ((a 1), .inl (T 0, 940, .inl (fi 0)))]) [0, 1] (by decide +kernel) rfl
                                rw [hQ]
                                exact W.vret hx hb hr (fun t ht hW => ⟨⟨(0 : Int32), rfl, trivial, xf [], xh [], xv [4, wv, ((fi 0) wv.toNatClampNeg), wv_5, wv_6], xl [wv_4], by rw [ht]; exact hP9, hD9, ⟨hi_7, trivial⟩⟩, hS.F ht⟩) hS.2.2 dX6_advance_366
                              · have c350_5 := xeq (k := 0) (by decide) c350_5
                                refine lv_iload_n hx hb dX6_advance_353 rfl (lv_at hl 1 rfl) ?_
                                refine lv_iconst (v := 3) hx hb dX6_advance_354 (by decide) ?_
                                refine lv_icmp_gt (tgt := 362) hx hb dX6_advance_355 (by decide) (fun c355_5 => ?_) (fun c355_5 => ?_)
                                · have c355_5 := xgt (k := 3) (by decide) c355_5
                                  refine lv_iconst (v := 4) hx hb dX6_advance_362 (by decide) ?_
                                  refine va_put (D := D) (ci := 6) (v := .int 4) (ty := .int) (C := RX6) (T := TX6) (N := 14) hx hb htg inX6 tyX6 tyX6_ok nmX6 hown hK.1 hP hD hS 0 rfl rfl 6 (by decide) (htg _ kw_104) (fun _ h9 => h9) rfl (by decide +kernel) rfl rfl (Nat.le_of_ble_eq_true rfl) dX6_advance_363 (fun H locs hP hD hS => ?_)
                                  obtain ⟨hP, hD⟩ := (show xPD D A [((a 0), .inr (6, [.ref (a 1), .ref (ex 0), .int (vi 0), .int (vi 1), .int (vi 2), .int wv_6, .int 4, .int wv, .long wv_4, .int wv_5, .int ((fi 0) wv.toNatClampNeg), .int (vi 8), .int (vi 9), .int (vi 10)])), ((a 1), .inl (T 0, 940, .inl (fi 0)))] H from ⟨hP, hD⟩)
                                  have hP9 := hP.sub (ws' := [((a 0), .inr (6, [.ref (a 1), .ref (ex 0), .int (vi 0), .int (vi 1), .int (vi 2), .int wv_6, .int 4, .int wv, .long wv_4, .int wv_5, .int ((fi 0) wv.toNatClampNeg), .int (vi 8), .int (vi 9), .int (vi 10)])), ((a 1), .inl (T 0, 940, .inl (fi 0)))]) [0, 1] rfl
                                  have hD9 := hD.sub (ws' := [((a 0), .inr (6, [.ref (a 1), .ref (ex 0), .int (vi 0), .int (vi 1), .int (vi 2), .int wv_6, .int 4, .int wv, .long wv_4, .int wv_5, .int ((fi 0) wv.toNatClampNeg), .int (vi 8), .int (vi 9), .int (vi 10)])), ((a 1), .inl (T 0, 940, .inl (fi 0)))]) [0, 1] (by decide +kernel) rfl
                                  rw [hQ]
                                  exact W.vret hx hb hr (fun t ht hW => ⟨⟨(0 : Int32), rfl, trivial, xf [], xh [], xv [4, wv, ((fi 0) wv.toNatClampNeg), wv_5, wv_6], xl [wv_4], by rw [ht]; exact hP9, hD9, ⟨hi_7, trivial⟩⟩, hS.F ht⟩) hS.2.2 dX6_advance_366
                                · have c355_5 := xngt (k := 3) (by decide) c355_5
                                  refine lv_iconst (v := 2) hx hb dX6_advance_358 (by decide) ?_
                                  refine lv_goto (tgt := 363) hx hb dX6_advance_359 (by decide) ?_
                                  refine va_put (D := D) (ci := 6) (v := .int 2) (ty := .int) (C := RX6) (T := TX6) (N := 14) hx hb htg inX6 tyX6 tyX6_ok nmX6 hown hK.1 hP hD hS 0 rfl rfl 6 (by decide) (htg _ kw_104) (fun _ h9 => h9) rfl (by decide +kernel) rfl rfl (Nat.le_of_ble_eq_true rfl) dX6_advance_363 (fun H locs hP hD hS => ?_)
                                  obtain ⟨hP, hD⟩ := (show xPD D A [((a 0), .inr (6, [.ref (a 1), .ref (ex 0), .int (vi 0), .int (vi 1), .int (vi 2), .int wv_6, .int 2, .int wv, .long wv_4, .int wv_5, .int ((fi 0) wv.toNatClampNeg), .int (vi 8), .int (vi 9), .int (vi 10)])), ((a 1), .inl (T 0, 940, .inl (fi 0)))] H from ⟨hP, hD⟩)
                                  have hP9 := hP.sub (ws' := [((a 0), .inr (6, [.ref (a 1), .ref (ex 0), .int (vi 0), .int (vi 1), .int (vi 2), .int wv_6, .int 2, .int wv, .long wv_4, .int wv_5, .int ((fi 0) wv.toNatClampNeg), .int (vi 8), .int (vi 9), .int (vi 10)])), ((a 1), .inl (T 0, 940, .inl (fi 0)))]) [0, 1] rfl
                                  have hD9 := hD.sub (ws' := [((a 0), .inr (6, [.ref (a 1), .ref (ex 0), .int (vi 0), .int (vi 1), .int (vi 2), .int wv_6, .int 2, .int wv, .long wv_4, .int wv_5, .int ((fi 0) wv.toNatClampNeg), .int (vi 8), .int (vi 9), .int (vi 10)])), ((a 1), .inl (T 0, 940, .inl (fi 0)))]) [0, 1] (by decide +kernel) rfl
                                  rw [hQ]
                                  exact W.vret hx hb hr (fun t ht hW => ⟨⟨(0 : Int32), rfl, trivial, xf [], xh [], xv [2, wv, ((fi 0) wv.toNatClampNeg), wv_5, wv_6], xl [wv_4], by rw [ht]; exact hP9, hD9, ⟨hi_7, trivial⟩⟩, hS.F ht⟩) hS.2.2 dX6_advance_366
                            · have c327_5 := xeq (k := 0) (by decide) c327_5
                              refine lv_aload_n hx hb dX6_advance_330 rfl (lv_at hl 3 rfl) ?_
                              refine lv_iload_n hx hb dX6_advance_331 rfl (lv_at hl 2 rfl) ?_
                              refine lv_bipush (v := 7) hx hb dX6_advance_332 (by decide) ?_
                              refine lv_icmp_gt (tgt := 341) hx hb dX6_advance_334 (by decide) (fun c334_5 => ?_) (fun c334_5 => ?_)
                              · have c334_5 := xgt (k := 7) (by decide) c334_5
                                refine lv_iconst (v := 4) hx hb dX6_advance_341 (by decide) ?_
                                refine va_put (D := D) (ci := 6) (v := .int 4) (ty := .int) (C := RX6) (T := TX6) (N := 14) hx hb htg inX6 tyX6 tyX6_ok nmX6 hown hK.1 hP hD hS 0 rfl rfl 6 (by decide) (htg _ kw_104) (fun _ h9 => h9) rfl (by decide +kernel) rfl rfl (Nat.le_of_ble_eq_true rfl) dX6_advance_342 (fun H locs hP hD hS => ?_)
                                obtain ⟨hP, hD⟩ := (show xPD D A [((a 0), .inr (6, [.ref (a 1), .ref (ex 0), .int (vi 0), .int (vi 1), .int (vi 2), .int wv_6, .int 4, .int wv, .long wv_4, .int wv_5, .int ((fi 0) wv.toNatClampNeg), .int (vi 8), .int (vi 9), .int (vi 10)])), ((a 1), .inl (T 0, 940, .inl (fi 0)))] H from ⟨hP, hD⟩)
                                refine lv_goto (tgt := 366) hx hb dX6_advance_345 (by decide) ?_
                                have hP9 := hP.sub (ws' := [((a 0), .inr (6, [.ref (a 1), .ref (ex 0), .int (vi 0), .int (vi 1), .int (vi 2), .int wv_6, .int 4, .int wv, .long wv_4, .int wv_5, .int ((fi 0) wv.toNatClampNeg), .int (vi 8), .int (vi 9), .int (vi 10)])), ((a 1), .inl (T 0, 940, .inl (fi 0)))]) [0, 1] rfl
                                have hD9 := hD.sub (ws' := [((a 0), .inr (6, [.ref (a 1), .ref (ex 0), .int (vi 0), .int (vi 1), .int (vi 2), .int wv_6, .int 4, .int wv, .long wv_4, .int wv_5, .int ((fi 0) wv.toNatClampNeg), .int (vi 8), .int (vi 9), .int (vi 10)])), ((a 1), .inl (T 0, 940, .inl (fi 0)))]) [0, 1] (by decide +kernel) rfl
                                rw [hQ]
                                exact W.vret hx hb hr (fun t ht hW => ⟨⟨(0 : Int32), rfl, trivial, xf [], xh [], xv [4, wv, ((fi 0) wv.toNatClampNeg), wv_5, wv_6], xl [wv_4], by rw [ht]; exact hP9, hD9, ⟨hi_7, trivial⟩⟩, hS.F ht⟩) hS.2.2 dX6_advance_366
                              · have c334_5 := xngt (k := 7) (by decide) c334_5
                                refine lv_iconst (v := 1) hx hb dX6_advance_337 (by decide) ?_
                                refine lv_goto (tgt := 342) hx hb dX6_advance_338 (by decide) ?_
                                refine va_put (D := D) (ci := 6) (v := .int 1) (ty := .int) (C := RX6) (T := TX6) (N := 14) hx hb htg inX6 tyX6 tyX6_ok nmX6 hown hK.1 hP hD hS 0 rfl rfl 6 (by decide) (htg _ kw_104) (fun _ h9 => h9) rfl (by decide +kernel) rfl rfl (Nat.le_of_ble_eq_true rfl) dX6_advance_342 (fun H locs hP hD hS => ?_)
                                obtain ⟨hP, hD⟩ := (show xPD D A [((a 0), .inr (6, [.ref (a 1), .ref (ex 0), .int (vi 0), .int (vi 1), .int (vi 2), .int wv_6, .int 1, .int wv, .long wv_4, .int wv_5, .int ((fi 0) wv.toNatClampNeg), .int (vi 8), .int (vi 9), .int (vi 10)])), ((a 1), .inl (T 0, 940, .inl (fi 0)))] H from ⟨hP, hD⟩)
                                refine lv_goto (tgt := 366) hx hb dX6_advance_345 (by decide) ?_
                                have hP9 := hP.sub (ws' := [((a 0), .inr (6, [.ref (a 1), .ref (ex 0), .int (vi 0), .int (vi 1), .int (vi 2), .int wv_6, .int 1, .int wv, .long wv_4, .int wv_5, .int ((fi 0) wv.toNatClampNeg), .int (vi 8), .int (vi 9), .int (vi 10)])), ((a 1), .inl (T 0, 940, .inl (fi 0)))]) [0, 1] rfl
                                have hD9 := hD.sub (ws' := [((a 0), .inr (6, [.ref (a 1), .ref (ex 0), .int (vi 0), .int (vi 1), .int (vi 2), .int wv_6, .int 1, .int wv, .long wv_4, .int wv_5, .int ((fi 0) wv.toNatClampNeg), .int (vi 8), .int (vi 9), .int (vi 10)])), ((a 1), .inl (T 0, 940, .inl (fi 0)))]) [0, 1] (by decide +kernel) rfl
                                rw [hQ]
                                exact W.vret hx hb hr (fun t ht hW => ⟨⟨(0 : Int32), rfl, trivial, xf [], xh [], xv [1, wv, ((fi 0) wv.toNatClampNeg), wv_5, wv_6], xl [wv_4], by rw [ht]; exact hP9, hD9, ⟨hi_7, trivial⟩⟩, hS.F ht⟩) hS.2.2 dX6_advance_366
                          · have c256_5 := xeq (k := 0) (by decide) c256_5
                            refine lv_aload_n hx hb dX6_advance_259 rfl (lv_at hl 3 rfl) ?_
                            refine lv_dup hx hb dX6_advance_260 rfl ?_
                            refine va_get (D := D) (ci := 6) (v := .int wv_6) (C := RX6) (T := TX6) (N := 14) hx hb htg inX6 hown hK.1 hP 0 rfl rfl 5 (by decide) (htg _ kw_100) (fun _ h9 => h9) rfl dX6_advance_261 ?_
                            refine lv_iconst (v := 1) hx hb dX6_advance_264 (by decide) ?_
                            refine lv_iadd hx hb dX6_advance_265 ?_
                            refine lv_topi (fun z265_5 ez265_5 => ?_)
                            have tz265_5 : z265_5.toInt = wv_6.toInt + 1 := by rw [ez265_5]; exact xadd rfl (by decide) (by omega) (by omega)
                            refine va_put (D := D) (ci := 6) (v := .int z265_5) (ty := .int) (C := RX6) (T := TX6) (N := 14) hx hb htg inX6 tyX6 tyX6_ok nmX6 hown hK.1 hP hD hS 0 rfl rfl 5 (by decide) (htg _ kw_100) (fun _ h9 => h9) rfl (by decide +kernel) rfl rfl (Nat.le_of_ble_eq_true rfl) dX6_advance_266 (fun H locs hP hD hS => ?_)
                            obtain ⟨hP, hD⟩ := (show xPD D A [((a 0), .inr (6, [.ref (a 1), .ref (ex 0), .int (vi 0), .int (vi 1), .int (vi 2), .int z265_5, .int (vi 4), .int wv, .long wv_4, .int wv_5, .int ((fi 0) wv.toNatClampNeg), .int (vi 8), .int (vi 9), .int (vi 10)])), ((a 1), .inl (T 0, 940, .inl (fi 0)))] H from ⟨hP, hD⟩)
                            refine lv_aload_n hx hb dX6_advance_269 rfl (lv_at hl 3 rfl) ?_
                            refine lv_aload_n hx hb dX6_advance_270 rfl (lv_at hl 3 rfl) ?_
                            refine va_get (D := D) (ci := 6) (v := .int ((fi 0) wv.toNatClampNeg)) (C := RX6) (T := TX6) (N := 14) hx hb htg inX6 hown hK.1 hP 0 rfl rfl 10 (by decide) (htg _ kw_111) (fun _ h9 => h9) rfl dX6_advance_271 ?_
                            refine lv_bipush (v := 59) hx hb dX6_advance_274 (by decide) ?_
                            refine lv_icmp_eq (tgt := 315) hx hb dX6_advance_276 (by decide) (fun c276_5 => ?_) (fun c276_5 => ?_)
                            · have c276_5 := xeq (k := 59) (by decide) c276_5
                              refine lv_iconst (v := 3) hx hb dX6_advance_315 (by decide) ?_
                              refine lv_goto (tgt := 320) hx hb dX6_advance_316 (by decide) ?_
                              refine va_put (D := D) (ci := 6) (v := .int 3) (ty := .int) (C := RX6) (T := TX6) (N := 14) hx hb htg inX6 tyX6 tyX6_ok nmX6 hown hK.1 hP hD hS 0 rfl rfl 6 (by decide) (htg _ kw_104) (fun _ h9 => h9) rfl (by decide +kernel) rfl rfl (Nat.le_of_ble_eq_true rfl) dX6_advance_320 (fun H locs hP hD hS => ?_)
                              obtain ⟨hP, hD⟩ := (show xPD D A [((a 0), .inr (6, [.ref (a 1), .ref (ex 0), .int (vi 0), .int (vi 1), .int (vi 2), .int z265_5, .int 3, .int wv, .long wv_4, .int wv_5, .int ((fi 0) wv.toNatClampNeg), .int (vi 8), .int (vi 9), .int (vi 10)])), ((a 1), .inl (T 0, 940, .inl (fi 0)))] H from ⟨hP, hD⟩)
                              refine lv_goto (tgt := 366) hx hb dX6_advance_323 (by decide) ?_
                              have hP9 := hP.sub (ws' := [((a 0), .inr (6, [.ref (a 1), .ref (ex 0), .int (vi 0), .int (vi 1), .int (vi 2), .int z265_5, .int 3, .int wv, .long wv_4, .int wv_5, .int ((fi 0) wv.toNatClampNeg), .int (vi 8), .int (vi 9), .int (vi 10)])), ((a 1), .inl (T 0, 940, .inl (fi 0)))]) [0, 1] rfl
                              have hD9 := hD.sub (ws' := [((a 0), .inr (6, [.ref (a 1), .ref (ex 0), .int (vi 0), .int (vi 1), .int (vi 2), .int z265_5, .int 3, .int wv, .long wv_4, .int wv_5, .int ((fi 0) wv.toNatClampNeg), .int (vi 8), .int (vi 9), .int (vi 10)])), ((a 1), .inl (T 0, 940, .inl (fi 0)))]) [0, 1] (by decide +kernel) rfl
                              rw [hQ]
                              exact W.vret hx hb hr (fun t ht hW => ⟨⟨(0 : Int32), rfl, trivial, xf [], xh [], xv [3, wv, ((fi 0) wv.toNatClampNeg), wv_5, z265_5], xl [wv_4], by rw [ht]; exact hP9, hD9, ⟨(by show 0 ≤ z265_5.toInt ∧ z265_5.toInt ≤ 940; omega), trivial⟩⟩, hS.F ht⟩) hS.2.2 dX6_advance_366
                            · have c276_5 := xne (k := 59) (by decide) c276_5
                              refine lv_aload_n hx hb dX6_advance_279 rfl (lv_at hl 3 rfl) ?_
                              refine va_get (D := D) (ci := 6) (v := .int ((fi 0) wv.toNatClampNeg)) (C := RX6) (T := TX6) (N := 14) hx hb htg inX6 hown hK.1 hP 0 rfl rfl 10 (by decide) (htg _ kw_111) (fun _ h9 => h9) rfl dX6_advance_280 ?_
                              refine lv_bipush (v := 40) hx hb dX6_advance_283 (by decide) ?_
                              refine lv_icmp_eq (tgt := 315) hx hb dX6_advance_285 (by decide) (fun c285_5 => ?_) (fun c285_5 => ?_)
                              · have c285_5 := xeq (k := 40) (by decide) c285_5
                                refine lv_iconst (v := 3) hx hb dX6_advance_315 (by decide) ?_
                                refine lv_goto (tgt := 320) hx hb dX6_advance_316 (by decide) ?_
                                refine va_put (D := D) (ci := 6) (v := .int 3) (ty := .int) (C := RX6) (T := TX6) (N := 14) hx hb htg inX6 tyX6 tyX6_ok nmX6 hown hK.1 hP hD hS 0 rfl rfl 6 (by decide) (htg _ kw_104) (fun _ h9 => h9) rfl (by decide +kernel) rfl rfl (Nat.le_of_ble_eq_true rfl) dX6_advance_320 (fun H locs hP hD hS => ?_)
                                obtain ⟨hP, hD⟩ := (show xPD D A [((a 0), .inr (6, [.ref (a 1), .ref (ex 0), .int (vi 0), .int (vi 1), .int (vi 2), .int z265_5, .int 3, .int wv, .long wv_4, .int wv_5, .int ((fi 0) wv.toNatClampNeg), .int (vi 8), .int (vi 9), .int (vi 10)])), ((a 1), .inl (T 0, 940, .inl (fi 0)))] H from ⟨hP, hD⟩)
                                refine lv_goto (tgt := 366) hx hb dX6_advance_323 (by decide) ?_
                                have hP9 := hP.sub (ws' := [((a 0), .inr (6, [.ref (a 1), .ref (ex 0), .int (vi 0), .int (vi 1), .int (vi 2), .int z265_5, .int 3, .int wv, .long wv_4, .int wv_5, .int ((fi 0) wv.toNatClampNeg), .int (vi 8), .int (vi 9), .int (vi 10)])), ((a 1), .inl (T 0, 940, .inl (fi 0)))]) [0, 1] rfl
                                have hD9 := hD.sub (ws' := [((a 0), .inr (6, [.ref (a 1), .ref (ex 0), .int (vi 0), .int (vi 1), .int (vi 2), .int z265_5, .int 3, .int wv, .long wv_4, .int wv_5, .int ((fi 0) wv.toNatClampNeg), .int (vi 8), .int (vi 9), .int (vi 10)])), ((a 1), .inl (T 0, 940, .inl (fi 0)))]) [0, 1] (by decide +kernel) rfl
                                rw [hQ]
                                exact W.vret hx hb hr (fun t ht hW => ⟨⟨(0 : Int32), rfl, trivial, xf [], xh [], xv [3, wv, ((fi 0) wv.toNatClampNeg), wv_5, z265_5], xl [wv_4], by rw [ht]; exact hP9, hD9, ⟨(by show 0 ≤ z265_5.toInt ∧ z265_5.toInt ≤ 940; omega), trivial⟩⟩, hS.F ht⟩) hS.2.2 dX6_advance_366
                              · have c285_5 := xne (k := 40) (by decide) c285_5
                                refine lv_aload_n hx hb dX6_advance_288 rfl (lv_at hl 3 rfl) ?_
                                refine va_get (D := D) (ci := 6) (v := .int ((fi 0) wv.toNatClampNeg)) (C := RX6) (T := TX6) (N := 14) hx hb htg inX6 hown hK.1 hP 0 rfl rfl 10 (by decide) (htg _ kw_111) (fun _ h9 => h9) rfl dX6_advance_289 ?_
                                refine lv_bipush (v := 41) hx hb dX6_advance_292 (by decide) ?_
                                refine lv_icmp_eq (tgt := 315) hx hb dX6_advance_294 (by decide) (fun c294_5 => ?_) (fun c294_5 => ?_)
                                · have c294_5 := xeq (k := 41) (by decide) c294_5
                                  refine lv_iconst (v := 3) hx hb dX6_advance_315 (by decide) ?_
                                  refine lv_goto (tgt := 320) hx hb dX6_advance_316 (by decide) ?_
                                  refine va_put (D := D) (ci := 6) (v := .int 3) (ty := .int) (C := RX6) (T := TX6) (N := 14) hx hb htg inX6 tyX6 tyX6_ok nmX6 hown hK.1 hP hD hS 0 rfl rfl 6 (by decide) (htg _ kw_104) (fun _ h9 => h9) rfl (by decide +kernel) rfl rfl (Nat.le_of_ble_eq_true rfl) dX6_advance_320 (fun H locs hP hD hS => ?_)
                                  obtain ⟨hP, hD⟩ := (show xPD D A [((a 0), .inr (6, [.ref (a 1), .ref (ex 0), .int (vi 0), .int (vi 1), .int (vi 2), .int z265_5, .int 3, .int wv, .long wv_4, .int wv_5, .int ((fi 0) wv.toNatClampNeg), .int (vi 8), .int (vi 9), .int (vi 10)])), ((a 1), .inl (T 0, 940, .inl (fi 0)))] H from ⟨hP, hD⟩)
                                  refine lv_goto (tgt := 366) hx hb dX6_advance_323 (by decide) ?_
                                  have hP9 := hP.sub (ws' := [((a 0), .inr (6, [.ref (a 1), .ref (ex 0), .int (vi 0), .int (vi 1), .int (vi 2), .int z265_5, .int 3, .int wv, .long wv_4, .int wv_5, .int ((fi 0) wv.toNatClampNeg), .int (vi 8), .int (vi 9), .int (vi 10)])), ((a 1), .inl (T 0, 940, .inl (fi 0)))]) [0, 1] rfl
                                  have hD9 := hD.sub (ws' := [((a 0), .inr (6, [.ref (a 1), .ref (ex 0), .int (vi 0), .int (vi 1), .int (vi 2), .int z265_5, .int 3, .int wv, .long wv_4, .int wv_5, .int ((fi 0) wv.toNatClampNeg), .int (vi 8), .int (vi 9), .int (vi 10)])), ((a 1), .inl (T 0, 940, .inl (fi 0)))]) [0, 1] (by decide +kernel) rfl
                                  rw [hQ]
                                  exact W.vret hx hb hr (fun t ht hW => ⟨⟨(0 : Int32), rfl, trivial, xf [], xh [], xv [3, wv, ((fi 0) wv.toNatClampNeg), wv_5, z265_5], xl [wv_4], by rw [ht]; exact hP9, hD9, ⟨(by show 0 ≤ z265_5.toInt ∧ z265_5.toInt ≤ 940; omega), trivial⟩⟩, hS.F ht⟩) hS.2.2 dX6_advance_366
                                · have c294_5 := xne (k := 41) (by decide) c294_5
                                  refine lv_aload_n hx hb dX6_advance_297 rfl (lv_at hl 3 rfl) ?_
                                  refine va_get (D := D) (ci := 6) (v := .int ((fi 0) wv.toNatClampNeg)) (C := RX6) (T := TX6) (N := 14) hx hb htg inX6 hown hK.1 hP 0 rfl rfl 10 (by decide) (htg _ kw_111) (fun _ h9 => h9) rfl dX6_advance_298 ?_
                                  refine lv_bipush (v := 60) hx hb dX6_advance_301 (by decide) ?_
                                  refine lv_icmp_lt (tgt := 319) hx hb dX6_advance_303 (by decide) (fun c303_5 => ?_) (fun c303_5 => ?_)
                                  · have c303_5 := xlt (k := 60) (by decide) c303_5
                                    refine lv_iconst (v := 4) hx hb dX6_advance_319 (by decide) ?_
                                    refine va_put (D := D) (ci := 6) (v := .int 4) (ty := .int) (C := RX6) (T := TX6) (N := 14) hx hb htg inX6 tyX6 tyX6_ok nmX6 hown hK.1 hP hD hS 0 rfl rfl 6 (by decide) (htg _ kw_104) (fun _ h9 => h9) rfl (by decide +kernel) rfl rfl (Nat.le_of_ble_eq_true rfl) dX6_advance_320 (fun H locs hP hD hS => ?_)
                                    obtain ⟨hP, hD⟩ := (show xPD D A [((a 0), .inr (6, [.ref (a 1), .ref (ex 0), .int (vi 0), .int (vi 1), .int (vi 2), .int z265_5, .int 4, .int wv, .long wv_4, .int wv_5, .int ((fi 0) wv.toNatClampNeg), .int (vi 8), .int (vi 9), .int (vi 10)])), ((a 1), .inl (T 0, 940, .inl (fi 0)))] H from ⟨hP, hD⟩)
                                    refine lv_goto (tgt := 366) hx hb dX6_advance_323 (by decide) ?_
                                    have hP9 := hP.sub (ws' := [((a 0), .inr (6, [.ref (a 1), .ref (ex 0), .int (vi 0), .int (vi 1), .int (vi 2), .int z265_5, .int 4, .int wv, .long wv_4, .int wv_5, .int ((fi 0) wv.toNatClampNeg), .int (vi 8), .int (vi 9), .int (vi 10)])), ((a 1), .inl (T 0, 940, .inl (fi 0)))]) [0, 1] rfl
                                    have hD9 := hD.sub (ws' := [((a 0), .inr (6, [.ref (a 1), .ref (ex 0), .int (vi 0), .int (vi 1), .int (vi 2), .int z265_5, .int 4, .int wv, .long wv_4, .int wv_5, .int ((fi 0) wv.toNatClampNeg), .int (vi 8), .int (vi 9), .int (vi 10)])), ((a 1), .inl (T 0, 940, .inl (fi 0)))]) [0, 1] (by decide +kernel) rfl
                                    rw [hQ]
                                    exact W.vret hx hb hr (fun t ht hW => ⟨⟨(0 : Int32), rfl, trivial, xf [], xh [], xv [4, wv, ((fi 0) wv.toNatClampNeg), wv_5, z265_5], xl [wv_4], by rw [ht]; exact hP9, hD9, ⟨(by show 0 ≤ z265_5.toInt ∧ z265_5.toInt ≤ 940; omega), trivial⟩⟩, hS.F ht⟩) hS.2.2 dX6_advance_366
                                  · have c303_5 := xnlt (k := 60) (by decide) c303_5
                                    refine lv_aload_n hx hb dX6_advance_306 rfl (lv_at hl 3 rfl) ?_
                                    refine va_get (D := D) (ci := 6) (v := .int ((fi 0) wv.toNatClampNeg)) (C := RX6) (T := TX6) (N := 14) hx hb htg inX6 hown hK.1 hP 0 rfl rfl 10 (by decide) (htg _ kw_111) (fun _ h9 => h9) rfl dX6_advance_307 ?_
                                    refine lv_bipush (v := 62) hx hb dX6_advance_310 (by decide) ?_
                                    refine lv_icmp_gt (tgt := 319) hx hb dX6_advance_312 (by decide) (fun c312_5 => ?_) (fun c312_5 => ?_)
                                    · have c312_5 := xgt (k := 62) (by decide) c312_5
                                      refine lv_iconst (v := 4) hx hb dX6_advance_319 (by decide) ?_
                                      refine va_put (D := D) (ci := 6) (v := .int 4) (ty := .int) (C := RX6) (T := TX6) (N := 14) hx hb htg inX6 tyX6 tyX6_ok nmX6 hown hK.1 hP hD hS 0 rfl rfl 6 (by decide) (htg _ kw_104) (fun _ h9 => h9) rfl (by decide +kernel) rfl rfl (Nat.le_of_ble_eq_true rfl) dX6_advance_320 (fun H locs hP hD hS => ?_)
                                      obtain ⟨hP, hD⟩ := (show xPD D A [((a 0), .inr (6, [.ref (a 1), .ref (ex 0), .int (vi 0), .int (vi 1), .int (vi 2), .int z265_5, .int 4, .int wv, .long wv_4, .int wv_5, .int ((fi 0) wv.toNatClampNeg), .int (vi 8), .int (vi 9), .int (vi 10)])), ((a 1), .inl (T 0, 940, .inl (fi 0)))] H from ⟨hP, hD⟩)
                                      refine lv_goto (tgt := 366) hx hb dX6_advance_323 (by decide) ?_
                                      have hP9 := hP.sub (ws' := [((a 0), .inr (6, [.ref (a 1), .ref (ex 0), .int (vi 0), .int (vi 1), .int (vi 2), .int z265_5, .int 4, .int wv, .long wv_4, .int wv_5, .int ((fi 0) wv.toNatClampNeg), .int (vi 8), .int (vi 9), .int (vi 10)])), ((a 1), .inl (T 0, 940, .inl (fi 0)))]) [0, 1] rfl
                                      have hD9 := hD.sub (ws' := [((a 0), .inr (6, [.ref (a 1), .ref (ex 0), .int (vi 0), .int (vi 1), .int (vi 2), .int z265_5, .int 4, .int wv, .long wv_4, .int wv_5, .int ((fi 0) wv.toNatClampNeg), .int (vi 8), .int (vi 9), .int (vi 10)])), ((a 1), .inl (T 0, 940, .inl (fi 0)))]) [0, 1] (by decide +kernel) rfl
                                      rw [hQ]
                                      exact W.vret hx hb hr (fun t ht hW => ⟨⟨(0 : Int32), rfl, trivial, xf [], xh [], xv [4, wv, ((fi 0) wv.toNatClampNeg), wv_5, z265_5], xl [wv_4], by rw [ht]; exact hP9, hD9, ⟨(by show 0 ≤ z265_5.toInt ∧ z265_5.toInt ≤ 940; omega), trivial⟩⟩, hS.F ht⟩) hS.2.2 dX6_advance_366
                                    · have c312_5 := xngt (k := 62) (by decide) c312_5
                                      refine lv_iconst (v := 3) hx hb dX6_advance_315 (by decide) ?_
                                      refine lv_goto (tgt := 320) hx hb dX6_advance_316 (by decide) ?_
                                      refine va_put (D := D) (ci := 6) (v := .int 3) (ty := .int) (C := RX6) (T := TX6) (N := 14) hx hb htg inX6 tyX6 tyX6_ok nmX6 hown hK.1 hP hD hS 0 rfl rfl 6 (by decide) (htg _ kw_104) (fun _ h9 => h9) rfl (by decide +kernel) rfl rfl (Nat.le_of_ble_eq_true rfl) dX6_advance_320 (fun H locs hP hD hS => ?_)
                                      obtain ⟨hP, hD⟩ := (show xPD D A [((a 0), .inr (6, [.ref (a 1), .ref (ex 0), .int (vi 0), .int (vi 1), .int (vi 2), .int z265_5, .int 3, .int wv, .long wv_4, .int wv_5, .int ((fi 0) wv.toNatClampNeg), .int (vi 8), .int (vi 9), .int (vi 10)])), ((a 1), .inl (T 0, 940, .inl (fi 0)))] H from ⟨hP, hD⟩)
                                      refine lv_goto (tgt := 366) hx hb dX6_advance_323 (by decide) ?_
                                      have hP9 := hP.sub (ws' := [((a 0), .inr (6, [.ref (a 1), .ref (ex 0), .int (vi 0), .int (vi 1), .int (vi 2), .int z265_5, .int 3, .int wv, .long wv_4, .int wv_5, .int ((fi 0) wv.toNatClampNeg), .int (vi 8), .int (vi 9), .int (vi 10)])), ((a 1), .inl (T 0, 940, .inl (fi 0)))]) [0, 1] rfl
                                      have hD9 := hD.sub (ws' := [((a 0), .inr (6, [.ref (a 1), .ref (ex 0), .int (vi 0), .int (vi 1), .int (vi 2), .int z265_5, .int 3, .int wv, .long wv_4, .int wv_5, .int ((fi 0) wv.toNatClampNeg), .int (vi 8), .int (vi 9), .int (vi 10)])), ((a 1), .inl (T 0, 940, .inl (fi 0)))]) [0, 1] (by decide +kernel) rfl
                                      rw [hQ]
                                      exact W.vret hx hb hr (fun t ht hW => ⟨⟨(0 : Int32), rfl, trivial, xf [], xh [], xv [3, wv, ((fi 0) wv.toNatClampNeg), wv_5, z265_5], xl [wv_4], by rw [ht]; exact hP9, hD9, ⟨(by show 0 ≤ z265_5.toInt ∧ z265_5.toInt ≤ 940; omega), trivial⟩⟩, hS.F ht⟩) hS.2.2 dX6_advance_366
                        · have c212_1 := xnlt (k := 48) (by decide) c212_1
                          refine lv_iload_n hx hb dX6_advance_215 rfl (lv_at hl 0 rfl) ?_
                          refine lv_bipush (v := 57) hx hb dX6_advance_216 (by decide) ?_
                          refine lv_icmp_gt (tgt := 253) hx hb dX6_advance_218 (by decide) (fun c218_1 => ?_) (fun c218_1 => ?_)
                          · have c218_1 := xgt (k := 57) (by decide) c218_1
                            refine lv_iload_n hx hb dX6_advance_253 rfl (lv_at hl 2 rfl) ?_
                            refine lv_iload_n hx hb dX6_advance_254 rfl (lv_at hl 1 rfl) ?_
                            refine lv_iadd hx hb dX6_advance_255 ?_
                            refine lv_topi (fun z255_6 ez255_6 => ?_)
                            have tz255_6 : z255_6.toInt = w1_1.toInt + w2_1.toInt := by rw [ez255_6]; exact xadd rfl rfl (by omega) (by omega)
                            refine lv_if_ne (tgt := 326) hx hb dX6_advance_256 (by decide) (fun c256_6 => ?_) (fun c256_6 => ?_)
                            · have c256_6 := xne (k := 0) (by decide) c256_6
                              refine lv_iload_n hx hb dX6_advance_326 rfl (lv_at hl 1 rfl) ?_
                              refine lv_if_ne (tgt := 348) hx hb dX6_advance_327 (by decide) (fun c327_6 => ?_) (fun c327_6 => ?_)
                              · have c327_6 := xne (k := 0) (by decide) c327_6
                                refine lv_aload_n hx hb dX6_advance_348 rfl (lv_at hl 3 rfl) ?_
                                refine lv_iload_n hx hb dX6_advance_349 rfl (lv_at hl 2 rfl) ?_
                                refine lv_if_ne (tgt := 362) hx hb dX6_advance_350 (by decide) (fun c350_6 => ?_) (fun c350_6 => ?_)
                                · have c350_6 := xne (k := 0) (by decide) c350_6
                                  refine lv_iconst (v := 4) hx hb dX6_advance_362 (by decide) ?_
                                  refine va_put (D := D) (ci := 6) (v := .int 4) (ty := .int) (C := RX6) (T := TX6) (N := 14) hx hb htg inX6 tyX6 tyX6_ok nmX6 hown hK.1 hP hD hS 0 rfl rfl 6 (by decide) (htg _ kw_104) (fun _ h9 => h9) rfl (by decide +kernel) rfl rfl (Nat.le_of_ble_eq_true rfl) dX6_advance_363 (fun H locs hP hD hS => ?_)
                                  obtain ⟨hP, hD⟩ := (show xPD D A [((a 0), .inr (6, [.ref (a 1), .ref (ex 0), .int (vi 0), .int (vi 1), .int (vi 2), .int wv_6, .int 4, .int wv, .long wv_4, .int wv_5, .int ((fi 0) wv.toNatClampNeg), .int (vi 8), .int (vi 9), .int (vi 10)])), ((a 1), .inl (T 0, 940, .inl (fi 0)))] H from ⟨hP, hD⟩)
                                  have hP9 := hP.sub (ws' := [((a 0), .inr (6, [.ref (a 1), .ref (ex 0), .int (vi 0), .int (vi 1), .int (vi 2), .int wv_6, .int 4, .int wv, .long wv_4, .int wv_5, .int ((fi 0) wv.toNatClampNeg), .int (vi 8), .int (vi 9), .int (vi 10)])), ((a 1), .inl (T 0, 940, .inl (fi 0)))]) [0, 1] rfl
                                  have hD9 := hD.sub (ws' := [((a 0), .inr (6, [.ref (a 1), .ref (ex 0), .int (vi 0), .int (vi 1), .int (vi 2), .int wv_6, .int 4, .int wv, .long wv_4, .int wv_5, .int ((fi 0) wv.toNatClampNeg), .int (vi 8), .int (vi 9), .int (vi 10)])), ((a 1), .inl (T 0, 940, .inl (fi 0)))]) [0, 1] (by decide +kernel) rfl
                                  rw [hQ]
                                  exact W.vret hx hb hr (fun t ht hW => ⟨⟨(0 : Int32), rfl, trivial, xf [], xh [], xv [4, wv, ((fi 0) wv.toNatClampNeg), wv_5, wv_6], xl [wv_4], by rw [ht]; exact hP9, hD9, ⟨hi_7, trivial⟩⟩, hS.F ht⟩) hS.2.2 dX6_advance_366
                                · have c350_6 := xeq (k := 0) (by decide) c350_6
                                  refine lv_iload_n hx hb dX6_advance_353 rfl (lv_at hl 1 rfl) ?_
                                  refine lv_iconst (v := 3) hx hb dX6_advance_354 (by decide) ?_
                                  refine lv_icmp_gt (tgt := 362) hx hb dX6_advance_355 (by decide) (fun c355_6 => ?_) (fun c355_6 => ?_)
                                  · have c355_6 := xgt (k := 3) (by decide) c355_6
                                    refine lv_iconst (v := 4) hx hb dX6_advance_362 (by decide) ?_
                                    refine va_put (D := D) (ci := 6) (v := .int 4) (ty := .int) (C := RX6) (T := TX6) (N := 14) hx hb htg inX6 tyX6 tyX6_ok nmX6 hown hK.1 hP hD hS 0 rfl rfl 6 (by decide) (htg _ kw_104) (fun _ h9 => h9) rfl (by decide +kernel) rfl rfl (Nat.le_of_ble_eq_true rfl) dX6_advance_363 (fun H locs hP hD hS => ?_)
                                    obtain ⟨hP, hD⟩ := (show xPD D A [((a 0), .inr (6, [.ref (a 1), .ref (ex 0), .int (vi 0), .int (vi 1), .int (vi 2), .int wv_6, .int 4, .int wv, .long wv_4, .int wv_5, .int ((fi 0) wv.toNatClampNeg), .int (vi 8), .int (vi 9), .int (vi 10)])), ((a 1), .inl (T 0, 940, .inl (fi 0)))] H from ⟨hP, hD⟩)
                                    have hP9 := hP.sub (ws' := [((a 0), .inr (6, [.ref (a 1), .ref (ex 0), .int (vi 0), .int (vi 1), .int (vi 2), .int wv_6, .int 4, .int wv, .long wv_4, .int wv_5, .int ((fi 0) wv.toNatClampNeg), .int (vi 8), .int (vi 9), .int (vi 10)])), ((a 1), .inl (T 0, 940, .inl (fi 0)))]) [0, 1] rfl
                                    have hD9 := hD.sub (ws' := [((a 0), .inr (6, [.ref (a 1), .ref (ex 0), .int (vi 0), .int (vi 1), .int (vi 2), .int wv_6, .int 4, .int wv, .long wv_4, .int wv_5, .int ((fi 0) wv.toNatClampNeg), .int (vi 8), .int (vi 9), .int (vi 10)])), ((a 1), .inl (T 0, 940, .inl (fi 0)))]) [0, 1] (by decide +kernel) rfl
                                    rw [hQ]
                                    exact W.vret hx hb hr (fun t ht hW => ⟨⟨(0 : Int32), rfl, trivial, xf [], xh [], xv [4, wv, ((fi 0) wv.toNatClampNeg), wv_5, wv_6], xl [wv_4], by rw [ht]; exact hP9, hD9, ⟨hi_7, trivial⟩⟩, hS.F ht⟩) hS.2.2 dX6_advance_366
                                  · have c355_6 := xngt (k := 3) (by decide) c355_6
                                    refine lv_iconst (v := 2) hx hb dX6_advance_358 (by decide) ?_
                                    refine lv_goto (tgt := 363) hx hb dX6_advance_359 (by decide) ?_
                                    refine va_put (D := D) (ci := 6) (v := .int 2) (ty := .int) (C := RX6) (T := TX6) (N := 14) hx hb htg inX6 tyX6 tyX6_ok nmX6 hown hK.1 hP hD hS 0 rfl rfl 6 (by decide) (htg _ kw_104) (fun _ h9 => h9) rfl (by decide +kernel) rfl rfl (Nat.le_of_ble_eq_true rfl) dX6_advance_363 (fun H locs hP hD hS => ?_)
                                    obtain ⟨hP, hD⟩ := (show xPD D A [((a 0), .inr (6, [.ref (a 1), .ref (ex 0), .int (vi 0), .int (vi 1), .int (vi 2), .int wv_6, .int 2, .int wv, .long wv_4, .int wv_5, .int ((fi 0) wv.toNatClampNeg), .int (vi 8), .int (vi 9), .int (vi 10)])), ((a 1), .inl (T 0, 940, .inl (fi 0)))] H from ⟨hP, hD⟩)
                                    have hP9 := hP.sub (ws' := [((a 0), .inr (6, [.ref (a 1), .ref (ex 0), .int (vi 0), .int (vi 1), .int (vi 2), .int wv_6, .int 2, .int wv, .long wv_4, .int wv_5, .int ((fi 0) wv.toNatClampNeg), .int (vi 8), .int (vi 9), .int (vi 10)])), ((a 1), .inl (T 0, 940, .inl (fi 0)))]) [0, 1] rfl
                                    have hD9 := hD.sub (ws' := [((a 0), .inr (6, [.ref (a 1), .ref (ex 0), .int (vi 0), .int (vi 1), .int (vi 2), .int wv_6, .int 2, .int wv, .long wv_4, .int wv_5, .int ((fi 0) wv.toNatClampNeg), .int (vi 8), .int (vi 9), .int (vi 10)])), ((a 1), .inl (T 0, 940, .inl (fi 0)))]) [0, 1] (by decide +kernel) rfl
                                    rw [hQ]
                                    exact W.vret hx hb hr (fun t ht hW => ⟨⟨(0 : Int32), rfl, trivial, xf [], xh [], xv [2, wv, ((fi 0) wv.toNatClampNeg), wv_5, wv_6], xl [wv_4], by rw [ht]; exact hP9, hD9, ⟨hi_7, trivial⟩⟩, hS.F ht⟩) hS.2.2 dX6_advance_366
                              · have c327_6 := xeq (k := 0) (by decide) c327_6
                                refine lv_aload_n hx hb dX6_advance_330 rfl (lv_at hl 3 rfl) ?_
                                refine lv_iload_n hx hb dX6_advance_331 rfl (lv_at hl 2 rfl) ?_
                                refine lv_bipush (v := 7) hx hb dX6_advance_332 (by decide) ?_
                                refine lv_icmp_gt (tgt := 341) hx hb dX6_advance_334 (by decide) (fun c334_6 => ?_) (fun c334_6 => ?_)
                                · have c334_6 := xgt (k := 7) (by decide) c334_6
                                  refine lv_iconst (v := 4) hx hb dX6_advance_341 (by decide) ?_
                                  refine va_put (D := D) (ci := 6) (v := .int 4) (ty := .int) (C := RX6) (T := TX6) (N := 14) hx hb htg inX6 tyX6 tyX6_ok nmX6 hown hK.1 hP hD hS 0 rfl rfl 6 (by decide) (htg _ kw_104) (fun _ h9 => h9) rfl (by decide +kernel) rfl rfl (Nat.le_of_ble_eq_true rfl) dX6_advance_342 (fun H locs hP hD hS => ?_)
                                  obtain ⟨hP, hD⟩ := (show xPD D A [((a 0), .inr (6, [.ref (a 1), .ref (ex 0), .int (vi 0), .int (vi 1), .int (vi 2), .int wv_6, .int 4, .int wv, .long wv_4, .int wv_5, .int ((fi 0) wv.toNatClampNeg), .int (vi 8), .int (vi 9), .int (vi 10)])), ((a 1), .inl (T 0, 940, .inl (fi 0)))] H from ⟨hP, hD⟩)
                                  refine lv_goto (tgt := 366) hx hb dX6_advance_345 (by decide) ?_
                                  have hP9 := hP.sub (ws' := [((a 0), .inr (6, [.ref (a 1), .ref (ex 0), .int (vi 0), .int (vi 1), .int (vi 2), .int wv_6, .int 4, .int wv, .long wv_4, .int wv_5, .int ((fi 0) wv.toNatClampNeg), .int (vi 8), .int (vi 9), .int (vi 10)])), ((a 1), .inl (T 0, 940, .inl (fi 0)))]) [0, 1] rfl
                                  have hD9 := hD.sub (ws' := [((a 0), .inr (6, [.ref (a 1), .ref (ex 0), .int (vi 0), .int (vi 1), .int (vi 2), .int wv_6, .int 4, .int wv, .long wv_4, .int wv_5, .int ((fi 0) wv.toNatClampNeg), .int (vi 8), .int (vi 9), .int (vi 10)])), ((a 1), .inl (T 0, 940, .inl (fi 0)))]) [0, 1] (by decide +kernel) rfl
                                  rw [hQ]
                                  exact W.vret hx hb hr (fun t ht hW => ⟨⟨(0 : Int32), rfl, trivial, xf [], xh [], xv [4, wv, ((fi 0) wv.toNatClampNeg), wv_5, wv_6], xl [wv_4], by rw [ht]; exact hP9, hD9, ⟨hi_7, trivial⟩⟩, hS.F ht⟩) hS.2.2 dX6_advance_366
                                · have c334_6 := xngt (k := 7) (by decide) c334_6
                                  refine lv_iconst (v := 1) hx hb dX6_advance_337 (by decide) ?_
                                  refine lv_goto (tgt := 342) hx hb dX6_advance_338 (by decide) ?_
                                  refine va_put (D := D) (ci := 6) (v := .int 1) (ty := .int) (C := RX6) (T := TX6) (N := 14) hx hb htg inX6 tyX6 tyX6_ok nmX6 hown hK.1 hP hD hS 0 rfl rfl 6 (by decide) (htg _ kw_104) (fun _ h9 => h9) rfl (by decide +kernel) rfl rfl (Nat.le_of_ble_eq_true rfl) dX6_advance_342 (fun H locs hP hD hS => ?_)
                                  obtain ⟨hP, hD⟩ := (show xPD D A [((a 0), .inr (6, [.ref (a 1), .ref (ex 0), .int (vi 0), .int (vi 1), .int (vi 2), .int wv_6, .int 1, .int wv, .long wv_4, .int wv_5, .int ((fi 0) wv.toNatClampNeg), .int (vi 8), .int (vi 9), .int (vi 10)])), ((a 1), .inl (T 0, 940, .inl (fi 0)))] H from ⟨hP, hD⟩)
                                  refine lv_goto (tgt := 366) hx hb dX6_advance_345 (by decide) ?_
                                  have hP9 := hP.sub (ws' := [((a 0), .inr (6, [.ref (a 1), .ref (ex 0), .int (vi 0), .int (vi 1), .int (vi 2), .int wv_6, .int 1, .int wv, .long wv_4, .int wv_5, .int ((fi 0) wv.toNatClampNeg), .int (vi 8), .int (vi 9), .int (vi 10)])), ((a 1), .inl (T 0, 940, .inl (fi 0)))]) [0, 1] rfl
                                  have hD9 := hD.sub (ws' := [((a 0), .inr (6, [.ref (a 1), .ref (ex 0), .int (vi 0), .int (vi 1), .int (vi 2), .int wv_6, .int 1, .int wv, .long wv_4, .int wv_5, .int ((fi 0) wv.toNatClampNeg), .int (vi 8), .int (vi 9), .int (vi 10)])), ((a 1), .inl (T 0, 940, .inl (fi 0)))]) [0, 1] (by decide +kernel) rfl
                                  rw [hQ]
                                  exact W.vret hx hb hr (fun t ht hW => ⟨⟨(0 : Int32), rfl, trivial, xf [], xh [], xv [1, wv, ((fi 0) wv.toNatClampNeg), wv_5, wv_6], xl [wv_4], by rw [ht]; exact hP9, hD9, ⟨hi_7, trivial⟩⟩, hS.F ht⟩) hS.2.2 dX6_advance_366
                            · have c256_6 := xeq (k := 0) (by decide) c256_6
                              refine lv_aload_n hx hb dX6_advance_259 rfl (lv_at hl 3 rfl) ?_
                              refine lv_dup hx hb dX6_advance_260 rfl ?_
                              refine va_get (D := D) (ci := 6) (v := .int wv_6) (C := RX6) (T := TX6) (N := 14) hx hb htg inX6 hown hK.1 hP 0 rfl rfl 5 (by decide) (htg _ kw_100) (fun _ h9 => h9) rfl dX6_advance_261 ?_
                              refine lv_iconst (v := 1) hx hb dX6_advance_264 (by decide) ?_
                              refine lv_iadd hx hb dX6_advance_265 ?_
                              refine lv_topi (fun z265_6 ez265_6 => ?_)
                              have tz265_6 : z265_6.toInt = wv_6.toInt + 1 := by rw [ez265_6]; exact xadd rfl (by decide) (by omega) (by omega)
                              refine va_put (D := D) (ci := 6) (v := .int z265_6) (ty := .int) (C := RX6) (T := TX6) (N := 14) hx hb htg inX6 tyX6 tyX6_ok nmX6 hown hK.1 hP hD hS 0 rfl rfl 5 (by decide) (htg _ kw_100) (fun _ h9 => h9) rfl (by decide +kernel) rfl rfl (Nat.le_of_ble_eq_true rfl) dX6_advance_266 (fun H locs hP hD hS => ?_)
                              obtain ⟨hP, hD⟩ := (show xPD D A [((a 0), .inr (6, [.ref (a 1), .ref (ex 0), .int (vi 0), .int (vi 1), .int (vi 2), .int z265_6, .int (vi 4), .int wv, .long wv_4, .int wv_5, .int ((fi 0) wv.toNatClampNeg), .int (vi 8), .int (vi 9), .int (vi 10)])), ((a 1), .inl (T 0, 940, .inl (fi 0)))] H from ⟨hP, hD⟩)
                              refine lv_aload_n hx hb dX6_advance_269 rfl (lv_at hl 3 rfl) ?_
                              refine lv_aload_n hx hb dX6_advance_270 rfl (lv_at hl 3 rfl) ?_
                              refine va_get (D := D) (ci := 6) (v := .int ((fi 0) wv.toNatClampNeg)) (C := RX6) (T := TX6) (N := 14) hx hb htg inX6 hown hK.1 hP 0 rfl rfl 10 (by decide) (htg _ kw_111) (fun _ h9 => h9) rfl dX6_advance_271 ?_
                              refine lv_bipush (v := 59) hx hb dX6_advance_274 (by decide) ?_
                              refine lv_icmp_eq (tgt := 315) hx hb dX6_advance_276 (by decide) (fun c276_6 => ?_) (fun c276_6 => ?_)
                              · have c276_6 := xeq (k := 59) (by decide) c276_6
                                refine lv_iconst (v := 3) hx hb dX6_advance_315 (by decide) ?_
                                refine lv_goto (tgt := 320) hx hb dX6_advance_316 (by decide) ?_
                                refine va_put (D := D) (ci := 6) (v := .int 3) (ty := .int) (C := RX6) (T := TX6) (N := 14) hx hb htg inX6 tyX6 tyX6_ok nmX6 hown hK.1 hP hD hS 0 rfl rfl 6 (by decide) (htg _ kw_104) (fun _ h9 => h9) rfl (by decide +kernel) rfl rfl (Nat.le_of_ble_eq_true rfl) dX6_advance_320 (fun H locs hP hD hS => ?_)
                                obtain ⟨hP, hD⟩ := (show xPD D A [((a 0), .inr (6, [.ref (a 1), .ref (ex 0), .int (vi 0), .int (vi 1), .int (vi 2), .int z265_6, .int 3, .int wv, .long wv_4, .int wv_5, .int ((fi 0) wv.toNatClampNeg), .int (vi 8), .int (vi 9), .int (vi 10)])), ((a 1), .inl (T 0, 940, .inl (fi 0)))] H from ⟨hP, hD⟩)
                                refine lv_goto (tgt := 366) hx hb dX6_advance_323 (by decide) ?_
                                have hP9 := hP.sub (ws' := [((a 0), .inr (6, [.ref (a 1), .ref (ex 0), .int (vi 0), .int (vi 1), .int (vi 2), .int z265_6, .int 3, .int wv, .long wv_4, .int wv_5, .int ((fi 0) wv.toNatClampNeg), .int (vi 8), .int (vi 9), .int (vi 10)])), ((a 1), .inl (T 0, 940, .inl (fi 0)))]) [0, 1] rfl
                                have hD9 := hD.sub (ws' := [((a 0), .inr (6, [.ref (a 1), .ref (ex 0), .int (vi 0), .int (vi 1), .int (vi 2), .int z265_6, .int 3, .int wv, .long wv_4, .int wv_5, .int ((fi 0) wv.toNatClampNeg), .int (vi 8), .int (vi 9), .int (vi 10)])), ((a 1), .inl (T 0, 940, .inl (fi 0)))]) [0, 1] (by decide +kernel) rfl
                                rw [hQ]
                                exact W.vret hx hb hr (fun t ht hW => ⟨⟨(0 : Int32), rfl, trivial, xf [], xh [], xv [3, wv, ((fi 0) wv.toNatClampNeg), wv_5, z265_6], xl [wv_4], by rw [ht]; exact hP9, hD9, ⟨(by show 0 ≤ z265_6.toInt ∧ z265_6.toInt ≤ 940; omega), trivial⟩⟩, hS.F ht⟩) hS.2.2 dX6_advance_366
                              · have c276_6 := xne (k := 59) (by decide) c276_6
                                refine lv_aload_n hx hb dX6_advance_279 rfl (lv_at hl 3 rfl) ?_
                                refine va_get (D := D) (ci := 6) (v := .int ((fi 0) wv.toNatClampNeg)) (C := RX6) (T := TX6) (N := 14) hx hb htg inX6 hown hK.1 hP 0 rfl rfl 10 (by decide) (htg _ kw_111) (fun _ h9 => h9) rfl dX6_advance_280 ?_
                                refine lv_bipush (v := 40) hx hb dX6_advance_283 (by decide) ?_
                                refine lv_icmp_eq (tgt := 315) hx hb dX6_advance_285 (by decide) (fun c285_6 => ?_) (fun c285_6 => ?_)
                                · have c285_6 := xeq (k := 40) (by decide) c285_6
                                  refine lv_iconst (v := 3) hx hb dX6_advance_315 (by decide) ?_
                                  refine lv_goto (tgt := 320) hx hb dX6_advance_316 (by decide) ?_
                                  refine va_put (D := D) (ci := 6) (v := .int 3) (ty := .int) (C := RX6) (T := TX6) (N := 14) hx hb htg inX6 tyX6 tyX6_ok nmX6 hown hK.1 hP hD hS 0 rfl rfl 6 (by decide) (htg _ kw_104) (fun _ h9 => h9) rfl (by decide +kernel) rfl rfl (Nat.le_of_ble_eq_true rfl) dX6_advance_320 (fun H locs hP hD hS => ?_)
                                  obtain ⟨hP, hD⟩ := (show xPD D A [((a 0), .inr (6, [.ref (a 1), .ref (ex 0), .int (vi 0), .int (vi 1), .int (vi 2), .int z265_6, .int 3, .int wv, .long wv_4, .int wv_5, .int ((fi 0) wv.toNatClampNeg), .int (vi 8), .int (vi 9), .int (vi 10)])), ((a 1), .inl (T 0, 940, .inl (fi 0)))] H from ⟨hP, hD⟩)
                                  refine lv_goto (tgt := 366) hx hb dX6_advance_323 (by decide) ?_
                                  have hP9 := hP.sub (ws' := [((a 0), .inr (6, [.ref (a 1), .ref (ex 0), .int (vi 0), .int (vi 1), .int (vi 2), .int z265_6, .int 3, .int wv, .long wv_4, .int wv_5, .int ((fi 0) wv.toNatClampNeg), .int (vi 8), .int (vi 9), .int (vi 10)])), ((a 1), .inl (T 0, 940, .inl (fi 0)))]) [0, 1] rfl
                                  have hD9 := hD.sub (ws' := [((a 0), .inr (6, [.ref (a 1), .ref (ex 0), .int (vi 0), .int (vi 1), .int (vi 2), .int z265_6, .int 3, .int wv, .long wv_4, .int wv_5, .int ((fi 0) wv.toNatClampNeg), .int (vi 8), .int (vi 9), .int (vi 10)])), ((a 1), .inl (T 0, 940, .inl (fi 0)))]) [0, 1] (by decide +kernel) rfl
                                  rw [hQ]
                                  exact W.vret hx hb hr (fun t ht hW => ⟨⟨(0 : Int32), rfl, trivial, xf [], xh [], xv [3, wv, ((fi 0) wv.toNatClampNeg), wv_5, z265_6], xl [wv_4], by rw [ht]; exact hP9, hD9, ⟨(by show 0 ≤ z265_6.toInt ∧ z265_6.toInt ≤ 940; omega), trivial⟩⟩, hS.F ht⟩) hS.2.2 dX6_advance_366
                                · have c285_6 := xne (k := 40) (by decide) c285_6
                                  refine lv_aload_n hx hb dX6_advance_288 rfl (lv_at hl 3 rfl) ?_
                                  refine va_get (D := D) (ci := 6) (v := .int ((fi 0) wv.toNatClampNeg)) (C := RX6) (T := TX6) (N := 14) hx hb htg inX6 hown hK.1 hP 0 rfl rfl 10 (by decide) (htg _ kw_111) (fun _ h9 => h9) rfl dX6_advance_289 ?_
                                  refine lv_bipush (v := 41) hx hb dX6_advance_292 (by decide) ?_
                                  refine lv_icmp_eq (tgt := 315) hx hb dX6_advance_294 (by decide) (fun c294_6 => ?_) (fun c294_6 => ?_)
                                  · have c294_6 := xeq (k := 41) (by decide) c294_6
                                    refine lv_iconst (v := 3) hx hb dX6_advance_315 (by decide) ?_
                                    refine lv_goto (tgt := 320) hx hb dX6_advance_316 (by decide) ?_
                                    refine va_put (D := D) (ci := 6) (v := .int 3) (ty := .int) (C := RX6) (T := TX6) (N := 14) hx hb htg inX6 tyX6 tyX6_ok nmX6 hown hK.1 hP hD hS 0 rfl rfl 6 (by decide) (htg _ kw_104) (fun _ h9 => h9) rfl (by decide +kernel) rfl rfl (Nat.le_of_ble_eq_true rfl) dX6_advance_320 (fun H locs hP hD hS => ?_)
                                    obtain ⟨hP, hD⟩ := (show xPD D A [((a 0), .inr (6, [.ref (a 1), .ref (ex 0), .int (vi 0), .int (vi 1), .int (vi 2), .int z265_6, .int 3, .int wv, .long wv_4, .int wv_5, .int ((fi 0) wv.toNatClampNeg), .int (vi 8), .int (vi 9), .int (vi 10)])), ((a 1), .inl (T 0, 940, .inl (fi 0)))] H from ⟨hP, hD⟩)
                                    refine lv_goto (tgt := 366) hx hb dX6_advance_323 (by decide) ?_
                                    have hP9 := hP.sub (ws' := [((a 0), .inr (6, [.ref (a 1), .ref (ex 0), .int (vi 0), .int (vi 1), .int (vi 2), .int z265_6, .int 3, .int wv, .long wv_4, .int wv_5, .int ((fi 0) wv.toNatClampNeg), .int (vi 8), .int (vi 9), .int (vi 10)])), ((a 1), .inl (T 0, 940, .inl (fi 0)))]) [0, 1] rfl
                                    have hD9 := hD.sub (ws' := [((a 0), .inr (6, [.ref (a 1), .ref (ex 0), .int (vi 0), .int (vi 1), .int (vi 2), .int z265_6, .int 3, .int wv, .long wv_4, .int wv_5, .int ((fi 0) wv.toNatClampNeg), .int (vi 8), .int (vi 9), .int (vi 10)])), ((a 1), .inl (T 0, 940, .inl (fi 0)))]) [0, 1] (by decide +kernel) rfl
                                    rw [hQ]
                                    exact W.vret hx hb hr (fun t ht hW => ⟨⟨(0 : Int32), rfl, trivial, xf [], xh [], xv [3, wv, ((fi 0) wv.toNatClampNeg), wv_5, z265_6], xl [wv_4], by rw [ht]; exact hP9, hD9, ⟨(by show 0 ≤ z265_6.toInt ∧ z265_6.toInt ≤ 940; omega), trivial⟩⟩, hS.F ht⟩) hS.2.2 dX6_advance_366
                                  · have c294_6 := xne (k := 41) (by decide) c294_6
                                    refine lv_aload_n hx hb dX6_advance_297 rfl (lv_at hl 3 rfl) ?_
                                    refine va_get (D := D) (ci := 6) (v := .int ((fi 0) wv.toNatClampNeg)) (C := RX6) (T := TX6) (N := 14) hx hb htg inX6 hown hK.1 hP 0 rfl rfl 10 (by decide) (htg _ kw_111) (fun _ h9 => h9) rfl dX6_advance_298 ?_
                                    refine lv_bipush (v := 60) hx hb dX6_advance_301 (by decide) ?_
                                    refine lv_icmp_lt (tgt := 319) hx hb dX6_advance_303 (by decide) (fun c303_6 => ?_) (fun c303_6 => ?_)
                                    · have c303_6 := xlt (k := 60) (by decide) c303_6
                                      refine lv_iconst (v := 4) hx hb dX6_advance_319 (by decide) ?_
                                      refine va_put (D := D) (ci := 6) (v := .int 4) (ty := .int) (C := RX6) (T := TX6) (N := 14) hx hb htg inX6 tyX6 tyX6_ok nmX6 hown hK.1 hP hD hS 0 rfl rfl 6 (by decide) (htg _ kw_104) (fun _ h9 => h9) rfl (by decide +kernel) rfl rfl (Nat.le_of_ble_eq_true rfl) dX6_advance_320 (fun H locs hP hD hS => ?_)
                                      obtain ⟨hP, hD⟩ := (show xPD D A [((a 0), .inr (6, [.ref (a 1), .ref (ex 0), .int (vi 0), .int (vi 1), .int (vi 2), .int z265_6, .int 4, .int wv, .long wv_4, .int wv_5, .int ((fi 0) wv.toNatClampNeg), .int (vi 8), .int (vi 9), .int (vi 10)])), ((a 1), .inl (T 0, 940, .inl (fi 0)))] H from ⟨hP, hD⟩)
                                      refine lv_goto (tgt := 366) hx hb dX6_advance_323 (by decide) ?_
                                      have hP9 := hP.sub (ws' := [((a 0), .inr (6, [.ref (a 1), .ref (ex 0), .int (vi 0), .int (vi 1), .int (vi 2), .int z265_6, .int 4, .int wv, .long wv_4, .int wv_5, .int ((fi 0) wv.toNatClampNeg), .int (vi 8), .int (vi 9), .int (vi 10)])), ((a 1), .inl (T 0, 940, .inl (fi 0)))]) [0, 1] rfl
                                      have hD9 := hD.sub (ws' := [((a 0), .inr (6, [.ref (a 1), .ref (ex 0), .int (vi 0), .int (vi 1), .int (vi 2), .int z265_6, .int 4, .int wv, .long wv_4, .int wv_5, .int ((fi 0) wv.toNatClampNeg), .int (vi 8), .int (vi 9), .int (vi 10)])), ((a 1), .inl (T 0, 940, .inl (fi 0)))]) [0, 1] (by decide +kernel) rfl
                                      rw [hQ]
                                      exact W.vret hx hb hr (fun t ht hW => ⟨⟨(0 : Int32), rfl, trivial, xf [], xh [], xv [4, wv, ((fi 0) wv.toNatClampNeg), wv_5, z265_6], xl [wv_4], by rw [ht]; exact hP9, hD9, ⟨(by show 0 ≤ z265_6.toInt ∧ z265_6.toInt ≤ 940; omega), trivial⟩⟩, hS.F ht⟩) hS.2.2 dX6_advance_366
                                    · have c303_6 := xnlt (k := 60) (by decide) c303_6
                                      refine lv_aload_n hx hb dX6_advance_306 rfl (lv_at hl 3 rfl) ?_
                                      refine va_get (D := D) (ci := 6) (v := .int ((fi 0) wv.toNatClampNeg)) (C := RX6) (T := TX6) (N := 14) hx hb htg inX6 hown hK.1 hP 0 rfl rfl 10 (by decide) (htg _ kw_111) (fun _ h9 => h9) rfl dX6_advance_307 ?_
                                      refine lv_bipush (v := 62) hx hb dX6_advance_310 (by decide) ?_
                                      refine lv_icmp_gt (tgt := 319) hx hb dX6_advance_312 (by decide) (fun c312_6 => ?_) (fun c312_6 => ?_)
                                      · have c312_6 := xgt (k := 62) (by decide) c312_6
                                        refine lv_iconst (v := 4) hx hb dX6_advance_319 (by decide) ?_
                                        refine va_put (D := D) (ci := 6) (v := .int 4) (ty := .int) (C := RX6) (T := TX6) (N := 14) hx hb htg inX6 tyX6 tyX6_ok nmX6 hown hK.1 hP hD hS 0 rfl rfl 6 (by decide) (htg _ kw_104) (fun _ h9 => h9) rfl (by decide +kernel) rfl rfl (Nat.le_of_ble_eq_true rfl) dX6_advance_320 (fun H locs hP hD hS => ?_)
                                        obtain ⟨hP, hD⟩ := (show xPD D A [((a 0), .inr (6, [.ref (a 1), .ref (ex 0), .int (vi 0), .int (vi 1), .int (vi 2), .int z265_6, .int 4, .int wv, .long wv_4, .int wv_5, .int ((fi 0) wv.toNatClampNeg), .int (vi 8), .int (vi 9), .int (vi 10)])), ((a 1), .inl (T 0, 940, .inl (fi 0)))] H from ⟨hP, hD⟩)
                                        refine lv_goto (tgt := 366) hx hb dX6_advance_323 (by decide) ?_
                                        have hP9 := hP.sub (ws' := [((a 0), .inr (6, [.ref (a 1), .ref (ex 0), .int (vi 0), .int (vi 1), .int (vi 2), .int z265_6, .int 4, .int wv, .long wv_4, .int wv_5, .int ((fi 0) wv.toNatClampNeg), .int (vi 8), .int (vi 9), .int (vi 10)])), ((a 1), .inl (T 0, 940, .inl (fi 0)))]) [0, 1] rfl
                                        have hD9 := hD.sub (ws' := [((a 0), .inr (6, [.ref (a 1), .ref (ex 0), .int (vi 0), .int (vi 1), .int (vi 2), .int z265_6, .int 4, .int wv, .long wv_4, .int wv_5, .int ((fi 0) wv.toNatClampNeg), .int (vi 8), .int (vi 9), .int (vi 10)])), ((a 1), .inl (T 0, 940, .inl (fi 0)))]) [0, 1] (by decide +kernel) rfl
                                        rw [hQ]
                                        exact W.vret hx hb hr (fun t ht hW => ⟨⟨(0 : Int32), rfl, trivial, xf [], xh [], xv [4, wv, ((fi 0) wv.toNatClampNeg), wv_5, z265_6], xl [wv_4], by rw [ht]; exact hP9, hD9, ⟨(by show 0 ≤ z265_6.toInt ∧ z265_6.toInt ≤ 940; omega), trivial⟩⟩, hS.F ht⟩) hS.2.2 dX6_advance_366
                                      · have c312_6 := xngt (k := 62) (by decide) c312_6
                                        refine lv_iconst (v := 3) hx hb dX6_advance_315 (by decide) ?_
                                        refine lv_goto (tgt := 320) hx hb dX6_advance_316 (by decide) ?_
                                        refine va_put (D := D) (ci := 6) (v := .int 3) (ty := .int) (C := RX6) (T := TX6) (N := 14) hx hb htg inX6 tyX6 tyX6_ok nmX6 hown hK.1 hP hD hS 0 rfl rfl 6 (by decide) (htg _ kw_104) (fun _ h9 => h9) rfl (by decide +kernel) rfl rfl (Nat.le_of_ble_eq_true rfl) dX6_advance_320 (fun H locs hP hD hS => ?_)
                                        obtain ⟨hP, hD⟩ := (show xPD D A [((a 0), .inr (6, [.ref (a 1), .ref (ex 0), .int (vi 0), .int (vi 1), .int (vi 2), .int z265_6, .int 3, .int wv, .long wv_4, .int wv_5, .int ((fi 0) wv.toNatClampNeg), .int (vi 8), .int (vi 9), .int (vi 10)])), ((a 1), .inl (T 0, 940, .inl (fi 0)))] H from ⟨hP, hD⟩)
                                        refine lv_goto (tgt := 366) hx hb dX6_advance_323 (by decide) ?_
                                        have hP9 := hP.sub (ws' := [((a 0), .inr (6, [.ref (a 1), .ref (ex 0), .int (vi 0), .int (vi 1), .int (vi 2), .int z265_6, .int 3, .int wv, .long wv_4, .int wv_5, .int ((fi 0) wv.toNatClampNeg), .int (vi 8), .int (vi 9), .int (vi 10)])), ((a 1), .inl (T 0, 940, .inl (fi 0)))]) [0, 1] rfl
                                        have hD9 := hD.sub (ws' := [((a 0), .inr (6, [.ref (a 1), .ref (ex 0), .int (vi 0), .int (vi 1), .int (vi 2), .int z265_6, .int 3, .int wv, .long wv_4, .int wv_5, .int ((fi 0) wv.toNatClampNeg), .int (vi 8), .int (vi 9), .int (vi 10)])), ((a 1), .inl (T 0, 940, .inl (fi 0)))]) [0, 1] (by decide +kernel) rfl
                                        rw [hQ]
                                        exact W.vret hx hb hr (fun t ht hW => ⟨⟨(0 : Int32), rfl, trivial, xf [], xh [], xv [3, wv, ((fi 0) wv.toNatClampNeg), wv_5, z265_6], xl [wv_4], by rw [ht]; exact hP9, hD9, ⟨(by show 0 ≤ z265_6.toInt ∧ z265_6.toInt ≤ 940; omega), trivial⟩⟩, hS.F ht⟩) hS.2.2 dX6_advance_366
                          · have c218_1 := xngt (k := 57) (by decide) c218_1
                            obtain ⟨i221_1, ei221_1⟩ : ∃ z : Int32, w2_1 + Int32.ofInt 1 = z := ⟨_, rfl⟩
                            have ti221_1 : i221_1.toInt = w2_1.toInt + 1 := by rw [← ei221_1]; have h79 := xrng w2_1; exact xadd rfl (by decide) (by omega) (by omega)
                            refine lv_iinc (v := i221_1) (lv' := [(2, .int i221_1), (3, .int ((fi 0) wv_6.toNatClampNeg)), (1, .int w1_1), (0, .ref (a 0))]) hx hb dX6_advance_221 hl (k := 1) rfl ei221_1 (by decide) rfl (fun ls hl => ?_)
                            refine lv_aload_n hx hb dX6_advance_224 rfl (lv_at hl 3 rfl) ?_
                            refine lv_aload_n hx hb dX6_advance_225 rfl (lv_at hl 3 rfl) ?_
                            refine va_get (D := D) (ci := 6) (v := .int wv_5) (C := RX6) (T := TX6) (N := 14) hx hb htg inX6 hown hK.1 hP 0 rfl rfl 9 (by decide) (htg _ kw_110) (fun _ h9 => h9) rfl dX6_advance_226 ?_
                            refine lv_bipush (v := 10) hx hb dX6_advance_229 (by decide) ?_
                            refine lv_imul hx hb dX6_advance_231 ?_
                            refine lv_topi (fun z231_1 ez231_1 => ?_)
                            refine lv_iload_n hx hb dX6_advance_232 rfl (lv_at hl 1 rfl) ?_
                            refine lv_iadd hx hb dX6_advance_233 ?_
                            refine lv_topi (fun z233_1 ez233_1 => ?_)
                            refine lv_bipush (v := 48) hx hb dX6_advance_234 (by decide) ?_
                            refine lv_isub hx hb dX6_advance_236 ?_
                            refine lv_topi (fun z236_1 ez236_1 => ?_)
                            refine va_put (D := D) (ci := 6) (v := .int z236_1) (ty := .int) (C := RX6) (T := TX6) (N := 14) hx hb htg inX6 tyX6 tyX6_ok nmX6 hown hK.1 hP hD hS 0 rfl rfl 9 (by decide) (htg _ kw_110) (fun _ h9 => h9) rfl (by decide +kernel) rfl rfl (Nat.le_of_ble_eq_true rfl) dX6_advance_237 (fun H locs hP hD hS => ?_)
                            obtain ⟨hP, hD⟩ := (show xPD D A [((a 0), .inr (6, [.ref (a 1), .ref (ex 0), .int (vi 0), .int (vi 1), .int (vi 2), .int wv_6, .int (vi 4), .int wv, .long wv_4, .int z236_1, .int ((fi 0) wv.toNatClampNeg), .int (vi 8), .int (vi 9), .int (vi 10)])), ((a 1), .inl (T 0, 940, .inl (fi 0)))] H from ⟨hP, hD⟩)
                            refine lv_aload_n hx hb dX6_advance_240 rfl (lv_at hl 3 rfl) ?_
                            refine lv_dup hx hb dX6_advance_241 rfl ?_
                            refine va_get (D := D) (ci := 6) (v := .int wv_6) (C := RX6) (T := TX6) (N := 14) hx hb htg inX6 hown hK.1 hP 0 rfl rfl 5 (by decide) (htg _ kw_100) (fun _ h9 => h9) rfl dX6_advance_242 ?_
                            refine lv_iconst (v := 1) hx hb dX6_advance_245 (by decide) ?_
                            refine lv_iadd hx hb dX6_advance_246 ?_
                            refine lv_topi (fun z246_2 ez246_2 => ?_)
                            have tz246_2 : z246_2.toInt = wv_6.toInt + 1 := by rw [ez246_2]; exact xadd rfl (by decide) (by omega) (by omega)
                            refine va_put (D := D) (ci := 6) (v := .int z246_2) (ty := .int) (C := RX6) (T := TX6) (N := 14) hx hb htg inX6 tyX6 tyX6_ok nmX6 hown hK.1 hP hD hS 0 rfl rfl 5 (by decide) (htg _ kw_100) (fun _ h9 => h9) rfl (by decide +kernel) rfl rfl (Nat.le_of_ble_eq_true rfl) dX6_advance_247 (fun H locs hP hD hS => ?_)
                            obtain ⟨hP, hD⟩ := (show xPD D A [((a 0), .inr (6, [.ref (a 1), .ref (ex 0), .int (vi 0), .int (vi 1), .int (vi 2), .int z246_2, .int (vi 4), .int wv, .long wv_4, .int z236_1, .int ((fi 0) wv.toNatClampNeg), .int (vi 8), .int (vi 9), .int (vi 10)])), ((a 1), .inl (T 0, 940, .inl (fi 0)))] H from ⟨hP, hD⟩)
                            refine lv_goto (tgt := 156) hx hb dX6_advance_250 (by decide) ?_
                            exact ih_2 _ (by omega) i221_1 w1_1 wv_4 z236_1 z246_2 _ _ _ (by show 0 ≤ i221_1.toInt ∧ i221_1.toInt ≤ 940; omega) hi_6 (by show 0 ≤ z246_2.toInt ∧ z246_2.toInt ≤ 940; omega) (by show (z246_2).toInt = (wv).toInt + w1_1.toInt + i221_1.toInt; first | omega | assumption) rfl (hP.sub [0, 1] rfl) (hD.sub [0, 1] (by decide) rfl) hS (lv_sub hl [0, 2, 3] rfl)
                      · have c180_1 := xnlt (k := 97) (by decide) c180_1
                        refine lv_iload_n hx hb dX6_advance_183 rfl (lv_at hl 0 rfl) ?_
                        refine lv_bipush (v := 122) hx hb dX6_advance_184 (by decide) ?_
                        refine lv_icmp_gt (tgt := 209) hx hb dX6_advance_186 (by decide) (fun c186_1 => ?_) (fun c186_1 => ?_)
                        · have c186_1 := xgt (k := 122) (by decide) c186_1
                          refine lv_iload_n hx hb dX6_advance_209 rfl (lv_at hl 0 rfl) ?_
                          refine lv_bipush (v := 48) hx hb dX6_advance_210 (by decide) ?_
                          refine lv_icmp_lt (tgt := 253) hx hb dX6_advance_212 (by decide) (fun c => by exfalso; have h9 := xlt (k := 48) (by decide) c; have h7 := xrng ((fi 0) wv_6.toNatClampNeg); omega) (fun _ => ?_)
                          refine lv_iload_n hx hb dX6_advance_215 rfl (lv_at hl 0 rfl) ?_
                          refine lv_bipush (v := 57) hx hb dX6_advance_216 (by decide) ?_
                          refine lv_icmp_gt (tgt := 253) hx hb dX6_advance_218 (by decide) (fun _ => ?_) (fun c => by exfalso; have h9 := xngt (k := 57) (by decide) c; have h7 := xrng ((fi 0) wv_6.toNatClampNeg); omega)
                          refine lv_iload_n hx hb dX6_advance_253 rfl (lv_at hl 2 rfl) ?_
                          refine lv_iload_n hx hb dX6_advance_254 rfl (lv_at hl 1 rfl) ?_
                          refine lv_iadd hx hb dX6_advance_255 ?_
                          refine lv_topi (fun z255_7 ez255_7 => ?_)
                          have tz255_7 : z255_7.toInt = w1_1.toInt + w2_1.toInt := by rw [ez255_7]; exact xadd rfl rfl (by omega) (by omega)
                          refine lv_if_ne (tgt := 326) hx hb dX6_advance_256 (by decide) (fun c256_7 => ?_) (fun c256_7 => ?_)
                          · have c256_7 := xne (k := 0) (by decide) c256_7
                            refine lv_iload_n hx hb dX6_advance_326 rfl (lv_at hl 1 rfl) ?_
                            refine lv_if_ne (tgt := 348) hx hb dX6_advance_327 (by decide) (fun c327_7 => ?_) (fun c327_7 => ?_)
                            · have c327_7 := xne (k := 0) (by decide) c327_7
                              refine lv_aload_n hx hb dX6_advance_348 rfl (lv_at hl 3 rfl) ?_
                              refine lv_iload_n hx hb dX6_advance_349 rfl (lv_at hl 2 rfl) ?_
                              refine lv_if_ne (tgt := 362) hx hb dX6_advance_350 (by decide) (fun c350_7 => ?_) (fun c350_7 => ?_)
                              · have c350_7 := xne (k := 0) (by decide) c350_7
                                refine lv_iconst (v := 4) hx hb dX6_advance_362 (by decide) ?_
                                refine va_put (D := D) (ci := 6) (v := .int 4) (ty := .int) (C := RX6) (T := TX6) (N := 14) hx hb htg inX6 tyX6 tyX6_ok nmX6 hown hK.1 hP hD hS 0 rfl rfl 6 (by decide) (htg _ kw_104) (fun _ h9 => h9) rfl (by decide +kernel) rfl rfl (Nat.le_of_ble_eq_true rfl) dX6_advance_363 (fun H locs hP hD hS => ?_)
                                obtain ⟨hP, hD⟩ := (show xPD D A [((a 0), .inr (6, [.ref (a 1), .ref (ex 0), .int (vi 0), .int (vi 1), .int (vi 2), .int wv_6, .int 4, .int wv, .long wv_4, .int wv_5, .int ((fi 0) wv.toNatClampNeg), .int (vi 8), .int (vi 9), .int (vi 10)])), ((a 1), .inl (T 0, 940, .inl (fi 0)))] H from ⟨hP, hD⟩)
                                have hP9 := hP.sub (ws' := [((a 0), .inr (6, [.ref (a 1), .ref (ex 0), .int (vi 0), .int (vi 1), .int (vi 2), .int wv_6, .int 4, .int wv, .long wv_4, .int wv_5, .int ((fi 0) wv.toNatClampNeg), .int (vi 8), .int (vi 9), .int (vi 10)])), ((a 1), .inl (T 0, 940, .inl (fi 0)))]) [0, 1] rfl
                                have hD9 := hD.sub (ws' := [((a 0), .inr (6, [.ref (a 1), .ref (ex 0), .int (vi 0), .int (vi 1), .int (vi 2), .int wv_6, .int 4, .int wv, .long wv_4, .int wv_5, .int ((fi 0) wv.toNatClampNeg), .int (vi 8), .int (vi 9), .int (vi 10)])), ((a 1), .inl (T 0, 940, .inl (fi 0)))]) [0, 1] (by decide +kernel) rfl
                                rw [hQ]
                                exact W.vret hx hb hr (fun t ht hW => ⟨⟨(0 : Int32), rfl, trivial, xf [], xh [], xv [4, wv, ((fi 0) wv.toNatClampNeg), wv_5, wv_6], xl [wv_4], by rw [ht]; exact hP9, hD9, ⟨hi_7, trivial⟩⟩, hS.F ht⟩) hS.2.2 dX6_advance_366
                              · have c350_7 := xeq (k := 0) (by decide) c350_7
                                refine lv_iload_n hx hb dX6_advance_353 rfl (lv_at hl 1 rfl) ?_
                                refine lv_iconst (v := 3) hx hb dX6_advance_354 (by decide) ?_
                                refine lv_icmp_gt (tgt := 362) hx hb dX6_advance_355 (by decide) (fun c355_7 => ?_) (fun c355_7 => ?_)
                                · have c355_7 := xgt (k := 3) (by decide) c355_7
                                  refine lv_iconst (v := 4) hx hb dX6_advance_362 (by decide) ?_
                                  refine va_put (D := D) (ci := 6) (v := .int 4) (ty := .int) (C := RX6) (T := TX6) (N := 14) hx hb htg inX6 tyX6 tyX6_ok nmX6 hown hK.1 hP hD hS 0 rfl rfl 6 (by decide) (htg _ kw_104) (fun _ h9 => h9) rfl (by decide +kernel) rfl rfl (Nat.le_of_ble_eq_true rfl) dX6_advance_363 (fun H locs hP hD hS => ?_)
                                  obtain ⟨hP, hD⟩ := (show xPD D A [((a 0), .inr (6, [.ref (a 1), .ref (ex 0), .int (vi 0), .int (vi 1), .int (vi 2), .int wv_6, .int 4, .int wv, .long wv_4, .int wv_5, .int ((fi 0) wv.toNatClampNeg), .int (vi 8), .int (vi 9), .int (vi 10)])), ((a 1), .inl (T 0, 940, .inl (fi 0)))] H from ⟨hP, hD⟩)
                                  have hP9 := hP.sub (ws' := [((a 0), .inr (6, [.ref (a 1), .ref (ex 0), .int (vi 0), .int (vi 1), .int (vi 2), .int wv_6, .int 4, .int wv, .long wv_4, .int wv_5, .int ((fi 0) wv.toNatClampNeg), .int (vi 8), .int (vi 9), .int (vi 10)])), ((a 1), .inl (T 0, 940, .inl (fi 0)))]) [0, 1] rfl
                                  have hD9 := hD.sub (ws' := [((a 0), .inr (6, [.ref (a 1), .ref (ex 0), .int (vi 0), .int (vi 1), .int (vi 2), .int wv_6, .int 4, .int wv, .long wv_4, .int wv_5, .int ((fi 0) wv.toNatClampNeg), .int (vi 8), .int (vi 9), .int (vi 10)])), ((a 1), .inl (T 0, 940, .inl (fi 0)))]) [0, 1] (by decide +kernel) rfl
                                  rw [hQ]
                                  exact W.vret hx hb hr (fun t ht hW => ⟨⟨(0 : Int32), rfl, trivial, xf [], xh [], xv [4, wv, ((fi 0) wv.toNatClampNeg), wv_5, wv_6], xl [wv_4], by rw [ht]; exact hP9, hD9, ⟨hi_7, trivial⟩⟩, hS.F ht⟩) hS.2.2 dX6_advance_366
                                · have c355_7 := xngt (k := 3) (by decide) c355_7
                                  refine lv_iconst (v := 2) hx hb dX6_advance_358 (by decide) ?_
                                  refine lv_goto (tgt := 363) hx hb dX6_advance_359 (by decide) ?_
                                  refine va_put (D := D) (ci := 6) (v := .int 2) (ty := .int) (C := RX6) (T := TX6) (N := 14) hx hb htg inX6 tyX6 tyX6_ok nmX6 hown hK.1 hP hD hS 0 rfl rfl 6 (by decide) (htg _ kw_104) (fun _ h9 => h9) rfl (by decide +kernel) rfl rfl (Nat.le_of_ble_eq_true rfl) dX6_advance_363 (fun H locs hP hD hS => ?_)
                                  obtain ⟨hP, hD⟩ := (show xPD D A [((a 0), .inr (6, [.ref (a 1), .ref (ex 0), .int (vi 0), .int (vi 1), .int (vi 2), .int wv_6, .int 2, .int wv, .long wv_4, .int wv_5, .int ((fi 0) wv.toNatClampNeg), .int (vi 8), .int (vi 9), .int (vi 10)])), ((a 1), .inl (T 0, 940, .inl (fi 0)))] H from ⟨hP, hD⟩)
                                  have hP9 := hP.sub (ws' := [((a 0), .inr (6, [.ref (a 1), .ref (ex 0), .int (vi 0), .int (vi 1), .int (vi 2), .int wv_6, .int 2, .int wv, .long wv_4, .int wv_5, .int ((fi 0) wv.toNatClampNeg), .int (vi 8), .int (vi 9), .int (vi 10)])), ((a 1), .inl (T 0, 940, .inl (fi 0)))]) [0, 1] rfl
                                  have hD9 := hD.sub (ws' := [((a 0), .inr (6, [.ref (a 1), .ref (ex 0), .int (vi 0), .int (vi 1), .int (vi 2), .int wv_6, .int 2, .int wv, .long wv_4, .int wv_5, .int ((fi 0) wv.toNatClampNeg), .int (vi 8), .int (vi 9), .int (vi 10)])), ((a 1), .inl (T 0, 940, .inl (fi 0)))]) [0, 1] (by decide +kernel) rfl
                                  rw [hQ]
                                  exact W.vret hx hb hr (fun t ht hW => ⟨⟨(0 : Int32), rfl, trivial, xf [], xh [], xv [2, wv, ((fi 0) wv.toNatClampNeg), wv_5, wv_6], xl [wv_4], by rw [ht]; exact hP9, hD9, ⟨hi_7, trivial⟩⟩, hS.F ht⟩) hS.2.2 dX6_advance_366
                            · have c327_7 := xeq (k := 0) (by decide) c327_7
                              refine lv_aload_n hx hb dX6_advance_330 rfl (lv_at hl 3 rfl) ?_
                              refine lv_iload_n hx hb dX6_advance_331 rfl (lv_at hl 2 rfl) ?_
                              refine lv_bipush (v := 7) hx hb dX6_advance_332 (by decide) ?_
                              refine lv_icmp_gt (tgt := 341) hx hb dX6_advance_334 (by decide) (fun c334_7 => ?_) (fun c334_7 => ?_)
                              · have c334_7 := xgt (k := 7) (by decide) c334_7
                                refine lv_iconst (v := 4) hx hb dX6_advance_341 (by decide) ?_
                                refine va_put (D := D) (ci := 6) (v := .int 4) (ty := .int) (C := RX6) (T := TX6) (N := 14) hx hb htg inX6 tyX6 tyX6_ok nmX6 hown hK.1 hP hD hS 0 rfl rfl 6 (by decide) (htg _ kw_104) (fun _ h9 => h9) rfl (by decide +kernel) rfl rfl (Nat.le_of_ble_eq_true rfl) dX6_advance_342 (fun H locs hP hD hS => ?_)
                                obtain ⟨hP, hD⟩ := (show xPD D A [((a 0), .inr (6, [.ref (a 1), .ref (ex 0), .int (vi 0), .int (vi 1), .int (vi 2), .int wv_6, .int 4, .int wv, .long wv_4, .int wv_5, .int ((fi 0) wv.toNatClampNeg), .int (vi 8), .int (vi 9), .int (vi 10)])), ((a 1), .inl (T 0, 940, .inl (fi 0)))] H from ⟨hP, hD⟩)
                                refine lv_goto (tgt := 366) hx hb dX6_advance_345 (by decide) ?_
                                have hP9 := hP.sub (ws' := [((a 0), .inr (6, [.ref (a 1), .ref (ex 0), .int (vi 0), .int (vi 1), .int (vi 2), .int wv_6, .int 4, .int wv, .long wv_4, .int wv_5, .int ((fi 0) wv.toNatClampNeg), .int (vi 8), .int (vi 9), .int (vi 10)])), ((a 1), .inl (T 0, 940, .inl (fi 0)))]) [0, 1] rfl
                                have hD9 := hD.sub (ws' := [((a 0), .inr (6, [.ref (a 1), .ref (ex 0), .int (vi 0), .int (vi 1), .int (vi 2), .int wv_6, .int 4, .int wv, .long wv_4, .int wv_5, .int ((fi 0) wv.toNatClampNeg), .int (vi 8), .int (vi 9), .int (vi 10)])), ((a 1), .inl (T 0, 940, .inl (fi 0)))]) [0, 1] (by decide +kernel) rfl
                                rw [hQ]
                                exact W.vret hx hb hr (fun t ht hW => ⟨⟨(0 : Int32), rfl, trivial, xf [], xh [], xv [4, wv, ((fi 0) wv.toNatClampNeg), wv_5, wv_6], xl [wv_4], by rw [ht]; exact hP9, hD9, ⟨hi_7, trivial⟩⟩, hS.F ht⟩) hS.2.2 dX6_advance_366
                              · have c334_7 := xngt (k := 7) (by decide) c334_7
                                refine lv_iconst (v := 1) hx hb dX6_advance_337 (by decide) ?_
                                refine lv_goto (tgt := 342) hx hb dX6_advance_338 (by decide) ?_
                                refine va_put (D := D) (ci := 6) (v := .int 1) (ty := .int) (C := RX6) (T := TX6) (N := 14) hx hb htg inX6 tyX6 tyX6_ok nmX6 hown hK.1 hP hD hS 0 rfl rfl 6 (by decide) (htg _ kw_104) (fun _ h9 => h9) rfl (by decide +kernel) rfl rfl (Nat.le_of_ble_eq_true rfl) dX6_advance_342 (fun H locs hP hD hS => ?_)
                                obtain ⟨hP, hD⟩ := (show xPD D A [((a 0), .inr (6, [.ref (a 1), .ref (ex 0), .int (vi 0), .int (vi 1), .int (vi 2), .int wv_6, .int 1, .int wv, .long wv_4, .int wv_5, .int ((fi 0) wv.toNatClampNeg), .int (vi 8), .int (vi 9), .int (vi 10)])), ((a 1), .inl (T 0, 940, .inl (fi 0)))] H from ⟨hP, hD⟩)
                                refine lv_goto (tgt := 366) hx hb dX6_advance_345 (by decide) ?_
                                have hP9 := hP.sub (ws' := [((a 0), .inr (6, [.ref (a 1), .ref (ex 0), .int (vi 0), .int (vi 1), .int (vi 2), .int wv_6, .int 1, .int wv, .long wv_4, .int wv_5, .int ((fi 0) wv.toNatClampNeg), .int (vi 8), .int (vi 9), .int (vi 10)])), ((a 1), .inl (T 0, 940, .inl (fi 0)))]) [0, 1] rfl
                                have hD9 := hD.sub (ws' := [((a 0), .inr (6, [.ref (a 1), .ref (ex 0), .int (vi 0), .int (vi 1), .int (vi 2), .int wv_6, .int 1, .int wv, .long wv_4, .int wv_5, .int ((fi 0) wv.toNatClampNeg), .int (vi 8), .int (vi 9), .int (vi 10)])), ((a 1), .inl (T 0, 940, .inl (fi 0)))]) [0, 1] (by decide +kernel) rfl
                                rw [hQ]
                                exact W.vret hx hb hr (fun t ht hW => ⟨⟨(0 : Int32), rfl, trivial, xf [], xh [], xv [1, wv, ((fi 0) wv.toNatClampNeg), wv_5, wv_6], xl [wv_4], by rw [ht]; exact hP9, hD9, ⟨hi_7, trivial⟩⟩, hS.F ht⟩) hS.2.2 dX6_advance_366
                          · have c256_7 := xeq (k := 0) (by decide) c256_7
                            refine lv_aload_n hx hb dX6_advance_259 rfl (lv_at hl 3 rfl) ?_
                            refine lv_dup hx hb dX6_advance_260 rfl ?_
                            refine va_get (D := D) (ci := 6) (v := .int wv_6) (C := RX6) (T := TX6) (N := 14) hx hb htg inX6 hown hK.1 hP 0 rfl rfl 5 (by decide) (htg _ kw_100) (fun _ h9 => h9) rfl dX6_advance_261 ?_
                            refine lv_iconst (v := 1) hx hb dX6_advance_264 (by decide) ?_
                            refine lv_iadd hx hb dX6_advance_265 ?_
                            refine lv_topi (fun z265_7 ez265_7 => ?_)
                            have tz265_7 : z265_7.toInt = wv_6.toInt + 1 := by rw [ez265_7]; exact xadd rfl (by decide) (by omega) (by omega)
                            refine va_put (D := D) (ci := 6) (v := .int z265_7) (ty := .int) (C := RX6) (T := TX6) (N := 14) hx hb htg inX6 tyX6 tyX6_ok nmX6 hown hK.1 hP hD hS 0 rfl rfl 5 (by decide) (htg _ kw_100) (fun _ h9 => h9) rfl (by decide +kernel) rfl rfl (Nat.le_of_ble_eq_true rfl) dX6_advance_266 (fun H locs hP hD hS => ?_)
                            obtain ⟨hP, hD⟩ := (show xPD D A [((a 0), .inr (6, [.ref (a 1), .ref (ex 0), .int (vi 0), .int (vi 1), .int (vi 2), .int z265_7, .int (vi 4), .int wv, .long wv_4, .int wv_5, .int ((fi 0) wv.toNatClampNeg), .int (vi 8), .int (vi 9), .int (vi 10)])), ((a 1), .inl (T 0, 940, .inl (fi 0)))] H from ⟨hP, hD⟩)
                            refine lv_aload_n hx hb dX6_advance_269 rfl (lv_at hl 3 rfl) ?_
                            refine lv_aload_n hx hb dX6_advance_270 rfl (lv_at hl 3 rfl) ?_
                            refine va_get (D := D) (ci := 6) (v := .int ((fi 0) wv.toNatClampNeg)) (C := RX6) (T := TX6) (N := 14) hx hb htg inX6 hown hK.1 hP 0 rfl rfl 10 (by decide) (htg _ kw_111) (fun _ h9 => h9) rfl dX6_advance_271 ?_
                            refine lv_bipush (v := 59) hx hb dX6_advance_274 (by decide) ?_
                            refine lv_icmp_eq (tgt := 315) hx hb dX6_advance_276 (by decide) (fun c276_7 => ?_) (fun c276_7 => ?_)
                            · have c276_7 := xeq (k := 59) (by decide) c276_7
                              refine lv_iconst (v := 3) hx hb dX6_advance_315 (by decide) ?_
                              refine lv_goto (tgt := 320) hx hb dX6_advance_316 (by decide) ?_
                              refine va_put (D := D) (ci := 6) (v := .int 3) (ty := .int) (C := RX6) (T := TX6) (N := 14) hx hb htg inX6 tyX6 tyX6_ok nmX6 hown hK.1 hP hD hS 0 rfl rfl 6 (by decide) (htg _ kw_104) (fun _ h9 => h9) rfl (by decide +kernel) rfl rfl (Nat.le_of_ble_eq_true rfl) dX6_advance_320 (fun H locs hP hD hS => ?_)
                              obtain ⟨hP, hD⟩ := (show xPD D A [((a 0), .inr (6, [.ref (a 1), .ref (ex 0), .int (vi 0), .int (vi 1), .int (vi 2), .int z265_7, .int 3, .int wv, .long wv_4, .int wv_5, .int ((fi 0) wv.toNatClampNeg), .int (vi 8), .int (vi 9), .int (vi 10)])), ((a 1), .inl (T 0, 940, .inl (fi 0)))] H from ⟨hP, hD⟩)
                              refine lv_goto (tgt := 366) hx hb dX6_advance_323 (by decide) ?_
                              have hP9 := hP.sub (ws' := [((a 0), .inr (6, [.ref (a 1), .ref (ex 0), .int (vi 0), .int (vi 1), .int (vi 2), .int z265_7, .int 3, .int wv, .long wv_4, .int wv_5, .int ((fi 0) wv.toNatClampNeg), .int (vi 8), .int (vi 9), .int (vi 10)])), ((a 1), .inl (T 0, 940, .inl (fi 0)))]) [0, 1] rfl
                              have hD9 := hD.sub (ws' := [((a 0), .inr (6, [.ref (a 1), .ref (ex 0), .int (vi 0), .int (vi 1), .int (vi 2), .int z265_7, .int 3, .int wv, .long wv_4, .int wv_5, .int ((fi 0) wv.toNatClampNeg), .int (vi 8), .int (vi 9), .int (vi 10)])), ((a 1), .inl (T 0, 940, .inl (fi 0)))]) [0, 1] (by decide +kernel) rfl
                              rw [hQ]
                              exact W.vret hx hb hr (fun t ht hW => ⟨⟨(0 : Int32), rfl, trivial, xf [], xh [], xv [3, wv, ((fi 0) wv.toNatClampNeg), wv_5, z265_7], xl [wv_4], by rw [ht]; exact hP9, hD9, ⟨(by show 0 ≤ z265_7.toInt ∧ z265_7.toInt ≤ 940; omega), trivial⟩⟩, hS.F ht⟩) hS.2.2 dX6_advance_366
                            · have c276_7 := xne (k := 59) (by decide) c276_7
                              refine lv_aload_n hx hb dX6_advance_279 rfl (lv_at hl 3 rfl) ?_
                              refine va_get (D := D) (ci := 6) (v := .int ((fi 0) wv.toNatClampNeg)) (C := RX6) (T := TX6) (N := 14) hx hb htg inX6 hown hK.1 hP 0 rfl rfl 10 (by decide) (htg _ kw_111) (fun _ h9 => h9) rfl dX6_advance_280 ?_
                              refine lv_bipush (v := 40) hx hb dX6_advance_283 (by decide) ?_
                              refine lv_icmp_eq (tgt := 315) hx hb dX6_advance_285 (by decide) (fun c285_7 => ?_) (fun c285_7 => ?_)
                              · have c285_7 := xeq (k := 40) (by decide) c285_7
                                refine lv_iconst (v := 3) hx hb dX6_advance_315 (by decide) ?_
                                refine lv_goto (tgt := 320) hx hb dX6_advance_316 (by decide) ?_
                                refine va_put (D := D) (ci := 6) (v := .int 3) (ty := .int) (C := RX6) (T := TX6) (N := 14) hx hb htg inX6 tyX6 tyX6_ok nmX6 hown hK.1 hP hD hS 0 rfl rfl 6 (by decide) (htg _ kw_104) (fun _ h9 => h9) rfl (by decide +kernel) rfl rfl (Nat.le_of_ble_eq_true rfl) dX6_advance_320 (fun H locs hP hD hS => ?_)
                                obtain ⟨hP, hD⟩ := (show xPD D A [((a 0), .inr (6, [.ref (a 1), .ref (ex 0), .int (vi 0), .int (vi 1), .int (vi 2), .int z265_7, .int 3, .int wv, .long wv_4, .int wv_5, .int ((fi 0) wv.toNatClampNeg), .int (vi 8), .int (vi 9), .int (vi 10)])), ((a 1), .inl (T 0, 940, .inl (fi 0)))] H from ⟨hP, hD⟩)
                                refine lv_goto (tgt := 366) hx hb dX6_advance_323 (by decide) ?_
                                have hP9 := hP.sub (ws' := [((a 0), .inr (6, [.ref (a 1), .ref (ex 0), .int (vi 0), .int (vi 1), .int (vi 2), .int z265_7, .int 3, .int wv, .long wv_4, .int wv_5, .int ((fi 0) wv.toNatClampNeg), .int (vi 8), .int (vi 9), .int (vi 10)])), ((a 1), .inl (T 0, 940, .inl (fi 0)))]) [0, 1] rfl
                                have hD9 := hD.sub (ws' := [((a 0), .inr (6, [.ref (a 1), .ref (ex 0), .int (vi 0), .int (vi 1), .int (vi 2), .int z265_7, .int 3, .int wv, .long wv_4, .int wv_5, .int ((fi 0) wv.toNatClampNeg), .int (vi 8), .int (vi 9), .int (vi 10)])), ((a 1), .inl (T 0, 940, .inl (fi 0)))]) [0, 1] (by decide +kernel) rfl
                                rw [hQ]
                                exact W.vret hx hb hr (fun t ht hW => ⟨⟨(0 : Int32), rfl, trivial, xf [], xh [], xv [3, wv, ((fi 0) wv.toNatClampNeg), wv_5, z265_7], xl [wv_4], by rw [ht]; exact hP9, hD9, ⟨(by show 0 ≤ z265_7.toInt ∧ z265_7.toInt ≤ 940; omega), trivial⟩⟩, hS.F ht⟩) hS.2.2 dX6_advance_366
                              · have c285_7 := xne (k := 40) (by decide) c285_7
                                refine lv_aload_n hx hb dX6_advance_288 rfl (lv_at hl 3 rfl) ?_
                                refine va_get (D := D) (ci := 6) (v := .int ((fi 0) wv.toNatClampNeg)) (C := RX6) (T := TX6) (N := 14) hx hb htg inX6 hown hK.1 hP 0 rfl rfl 10 (by decide) (htg _ kw_111) (fun _ h9 => h9) rfl dX6_advance_289 ?_
                                refine lv_bipush (v := 41) hx hb dX6_advance_292 (by decide) ?_
                                refine lv_icmp_eq (tgt := 315) hx hb dX6_advance_294 (by decide) (fun c294_7 => ?_) (fun c294_7 => ?_)
                                · have c294_7 := xeq (k := 41) (by decide) c294_7
                                  refine lv_iconst (v := 3) hx hb dX6_advance_315 (by decide) ?_
                                  refine lv_goto (tgt := 320) hx hb dX6_advance_316 (by decide) ?_
                                  refine va_put (D := D) (ci := 6) (v := .int 3) (ty := .int) (C := RX6) (T := TX6) (N := 14) hx hb htg inX6 tyX6 tyX6_ok nmX6 hown hK.1 hP hD hS 0 rfl rfl 6 (by decide) (htg _ kw_104) (fun _ h9 => h9) rfl (by decide +kernel) rfl rfl (Nat.le_of_ble_eq_true rfl) dX6_advance_320 (fun H locs hP hD hS => ?_)
                                  obtain ⟨hP, hD⟩ := (show xPD D A [((a 0), .inr (6, [.ref (a 1), .ref (ex 0), .int (vi 0), .int (vi 1), .int (vi 2), .int z265_7, .int 3, .int wv, .long wv_4, .int wv_5, .int ((fi 0) wv.toNatClampNeg), .int (vi 8), .int (vi 9), .int (vi 10)])), ((a 1), .inl (T 0, 940, .inl (fi 0)))] H from ⟨hP, hD⟩)
                                  refine lv_goto (tgt := 366) hx hb dX6_advance_323 (by decide) ?_
                                  have hP9 := hP.sub (ws' := [((a 0), .inr (6, [.ref (a 1), .ref (ex 0), .int (vi 0), .int (vi 1), .int (vi 2), .int z265_7, .int 3, .int wv, .long wv_4, .int wv_5, .int ((fi 0) wv.toNatClampNeg), .int (vi 8), .int (vi 9), .int (vi 10)])), ((a 1), .inl (T 0, 940, .inl (fi 0)))]) [0, 1] rfl
                                  have hD9 := hD.sub (ws' := [((a 0), .inr (6, [.ref (a 1), .ref (ex 0), .int (vi 0), .int (vi 1), .int (vi 2), .int z265_7, .int 3, .int wv, .long wv_4, .int wv_5, .int ((fi 0) wv.toNatClampNeg), .int (vi 8), .int (vi 9), .int (vi 10)])), ((a 1), .inl (T 0, 940, .inl (fi 0)))]) [0, 1] (by decide +kernel) rfl
                                  rw [hQ]
                                  exact W.vret hx hb hr (fun t ht hW => ⟨⟨(0 : Int32), rfl, trivial, xf [], xh [], xv [3, wv, ((fi 0) wv.toNatClampNeg), wv_5, z265_7], xl [wv_4], by rw [ht]; exact hP9, hD9, ⟨(by show 0 ≤ z265_7.toInt ∧ z265_7.toInt ≤ 940; omega), trivial⟩⟩, hS.F ht⟩) hS.2.2 dX6_advance_366
                                · have c294_7 := xne (k := 41) (by decide) c294_7
                                  refine lv_aload_n hx hb dX6_advance_297 rfl (lv_at hl 3 rfl) ?_
                                  refine va_get (D := D) (ci := 6) (v := .int ((fi 0) wv.toNatClampNeg)) (C := RX6) (T := TX6) (N := 14) hx hb htg inX6 hown hK.1 hP 0 rfl rfl 10 (by decide) (htg _ kw_111) (fun _ h9 => h9) rfl dX6_advance_298 ?_
                                  refine lv_bipush (v := 60) hx hb dX6_advance_301 (by decide) ?_
                                  refine lv_icmp_lt (tgt := 319) hx hb dX6_advance_303 (by decide) (fun c303_7 => ?_) (fun c303_7 => ?_)
                                  · have c303_7 := xlt (k := 60) (by decide) c303_7
                                    refine lv_iconst (v := 4) hx hb dX6_advance_319 (by decide) ?_
                                    refine va_put (D := D) (ci := 6) (v := .int 4) (ty := .int) (C := RX6) (T := TX6) (N := 14) hx hb htg inX6 tyX6 tyX6_ok nmX6 hown hK.1 hP hD hS 0 rfl rfl 6 (by decide) (htg _ kw_104) (fun _ h9 => h9) rfl (by decide +kernel) rfl rfl (Nat.le_of_ble_eq_true rfl) dX6_advance_320 (fun H locs hP hD hS => ?_)
                                    obtain ⟨hP, hD⟩ := (show xPD D A [((a 0), .inr (6, [.ref (a 1), .ref (ex 0), .int (vi 0), .int (vi 1), .int (vi 2), .int z265_7, .int 4, .int wv, .long wv_4, .int wv_5, .int ((fi 0) wv.toNatClampNeg), .int (vi 8), .int (vi 9), .int (vi 10)])), ((a 1), .inl (T 0, 940, .inl (fi 0)))] H from ⟨hP, hD⟩)
                                    refine lv_goto (tgt := 366) hx hb dX6_advance_323 (by decide) ?_
                                    have hP9 := hP.sub (ws' := [((a 0), .inr (6, [.ref (a 1), .ref (ex 0), .int (vi 0), .int (vi 1), .int (vi 2), .int z265_7, .int 4, .int wv, .long wv_4, .int wv_5, .int ((fi 0) wv.toNatClampNeg), .int (vi 8), .int (vi 9), .int (vi 10)])), ((a 1), .inl (T 0, 940, .inl (fi 0)))]) [0, 1] rfl
                                    have hD9 := hD.sub (ws' := [((a 0), .inr (6, [.ref (a 1), .ref (ex 0), .int (vi 0), .int (vi 1), .int (vi 2), .int z265_7, .int 4, .int wv, .long wv_4, .int wv_5, .int ((fi 0) wv.toNatClampNeg), .int (vi 8), .int (vi 9), .int (vi 10)])), ((a 1), .inl (T 0, 940, .inl (fi 0)))]) [0, 1] (by decide +kernel) rfl
                                    rw [hQ]
                                    exact W.vret hx hb hr (fun t ht hW => ⟨⟨(0 : Int32), rfl, trivial, xf [], xh [], xv [4, wv, ((fi 0) wv.toNatClampNeg), wv_5, z265_7], xl [wv_4], by rw [ht]; exact hP9, hD9, ⟨(by show 0 ≤ z265_7.toInt ∧ z265_7.toInt ≤ 940; omega), trivial⟩⟩, hS.F ht⟩) hS.2.2 dX6_advance_366
                                  · have c303_7 := xnlt (k := 60) (by decide) c303_7
                                    refine lv_aload_n hx hb dX6_advance_306 rfl (lv_at hl 3 rfl) ?_
                                    refine va_get (D := D) (ci := 6) (v := .int ((fi 0) wv.toNatClampNeg)) (C := RX6) (T := TX6) (N := 14) hx hb htg inX6 hown hK.1 hP 0 rfl rfl 10 (by decide) (htg _ kw_111) (fun _ h9 => h9) rfl dX6_advance_307 ?_
                                    refine lv_bipush (v := 62) hx hb dX6_advance_310 (by decide) ?_
                                    refine lv_icmp_gt (tgt := 319) hx hb dX6_advance_312 (by decide) (fun c312_7 => ?_) (fun c312_7 => ?_)
                                    · have c312_7 := xgt (k := 62) (by decide) c312_7
                                      refine lv_iconst (v := 4) hx hb dX6_advance_319 (by decide) ?_
                                      refine va_put (D := D) (ci := 6) (v := .int 4) (ty := .int) (C := RX6) (T := TX6) (N := 14) hx hb htg inX6 tyX6 tyX6_ok nmX6 hown hK.1 hP hD hS 0 rfl rfl 6 (by decide) (htg _ kw_104) (fun _ h9 => h9) rfl (by decide +kernel) rfl rfl (Nat.le_of_ble_eq_true rfl) dX6_advance_320 (fun H locs hP hD hS => ?_)
                                      obtain ⟨hP, hD⟩ := (show xPD D A [((a 0), .inr (6, [.ref (a 1), .ref (ex 0), .int (vi 0), .int (vi 1), .int (vi 2), .int z265_7, .int 4, .int wv, .long wv_4, .int wv_5, .int ((fi 0) wv.toNatClampNeg), .int (vi 8), .int (vi 9), .int (vi 10)])), ((a 1), .inl (T 0, 940, .inl (fi 0)))] H from ⟨hP, hD⟩)
                                      refine lv_goto (tgt := 366) hx hb dX6_advance_323 (by decide) ?_
                                      have hP9 := hP.sub (ws' := [((a 0), .inr (6, [.ref (a 1), .ref (ex 0), .int (vi 0), .int (vi 1), .int (vi 2), .int z265_7, .int 4, .int wv, .long wv_4, .int wv_5, .int ((fi 0) wv.toNatClampNeg), .int (vi 8), .int (vi 9), .int (vi 10)])), ((a 1), .inl (T 0, 940, .inl (fi 0)))]) [0, 1] rfl
                                      have hD9 := hD.sub (ws' := [((a 0), .inr (6, [.ref (a 1), .ref (ex 0), .int (vi 0), .int (vi 1), .int (vi 2), .int z265_7, .int 4, .int wv, .long wv_4, .int wv_5, .int ((fi 0) wv.toNatClampNeg), .int (vi 8), .int (vi 9), .int (vi 10)])), ((a 1), .inl (T 0, 940, .inl (fi 0)))]) [0, 1] (by decide +kernel) rfl
                                      rw [hQ]
                                      exact W.vret hx hb hr (fun t ht hW => ⟨⟨(0 : Int32), rfl, trivial, xf [], xh [], xv [4, wv, ((fi 0) wv.toNatClampNeg), wv_5, z265_7], xl [wv_4], by rw [ht]; exact hP9, hD9, ⟨(by show 0 ≤ z265_7.toInt ∧ z265_7.toInt ≤ 940; omega), trivial⟩⟩, hS.F ht⟩) hS.2.2 dX6_advance_366
                                    · have c312_7 := xngt (k := 62) (by decide) c312_7
                                      refine lv_iconst (v := 3) hx hb dX6_advance_315 (by decide) ?_
                                      refine lv_goto (tgt := 320) hx hb dX6_advance_316 (by decide) ?_
                                      refine va_put (D := D) (ci := 6) (v := .int 3) (ty := .int) (C := RX6) (T := TX6) (N := 14) hx hb htg inX6 tyX6 tyX6_ok nmX6 hown hK.1 hP hD hS 0 rfl rfl 6 (by decide) (htg _ kw_104) (fun _ h9 => h9) rfl (by decide +kernel) rfl rfl (Nat.le_of_ble_eq_true rfl) dX6_advance_320 (fun H locs hP hD hS => ?_)
                                      obtain ⟨hP, hD⟩ := (show xPD D A [((a 0), .inr (6, [.ref (a 1), .ref (ex 0), .int (vi 0), .int (vi 1), .int (vi 2), .int z265_7, .int 3, .int wv, .long wv_4, .int wv_5, .int ((fi 0) wv.toNatClampNeg), .int (vi 8), .int (vi 9), .int (vi 10)])), ((a 1), .inl (T 0, 940, .inl (fi 0)))] H from ⟨hP, hD⟩)
                                      refine lv_goto (tgt := 366) hx hb dX6_advance_323 (by decide) ?_
                                      have hP9 := hP.sub (ws' := [((a 0), .inr (6, [.ref (a 1), .ref (ex 0), .int (vi 0), .int (vi 1), .int (vi 2), .int z265_7, .int 3, .int wv, .long wv_4, .int wv_5, .int ((fi 0) wv.toNatClampNeg), .int (vi 8), .int (vi 9), .int (vi 10)])), ((a 1), .inl (T 0, 940, .inl (fi 0)))]) [0, 1] rfl
                                      have hD9 := hD.sub (ws' := [((a 0), .inr (6, [.ref (a 1), .ref (ex 0), .int (vi 0), .int (vi 1), .int (vi 2), .int z265_7, .int 3, .int wv, .long wv_4, .int wv_5, .int ((fi 0) wv.toNatClampNeg), .int (vi 8), .int (vi 9), .int (vi 10)])), ((a 1), .inl (T 0, 940, .inl (fi 0)))]) [0, 1] (by decide +kernel) rfl
                                      rw [hQ]
                                      exact W.vret hx hb hr (fun t ht hW => ⟨⟨(0 : Int32), rfl, trivial, xf [], xh [], xv [3, wv, ((fi 0) wv.toNatClampNeg), wv_5, z265_7], xl [wv_4], by rw [ht]; exact hP9, hD9, ⟨(by show 0 ≤ z265_7.toInt ∧ z265_7.toInt ≤ 940; omega), trivial⟩⟩, hS.F ht⟩) hS.2.2 dX6_advance_366
                        · have c186_1 := xngt (k := 122) (by decide) c186_1
                          obtain ⟨i189_1, ei189_1⟩ : ∃ z : Int32, w1_1 + Int32.ofInt 1 = z := ⟨_, rfl⟩
                          have ti189_1 : i189_1.toInt = w1_1.toInt + 1 := by rw [← ei189_1]; have h79 := xrng w1_1; exact xadd rfl (by decide) (by omega) (by omega)
                          refine lv_iinc (v := i189_1) (lv' := [(1, .int i189_1), (3, .int ((fi 0) wv_6.toNatClampNeg)), (2, .int w2_1), (0, .ref (a 0))]) hx hb dX6_advance_189 hl (k := 2) rfl ei189_1 (by decide) rfl (fun ls hl => ?_)
                          refine lv_aload_n hx hb dX6_advance_192 rfl (lv_at hl 3 rfl) ?_
                          refine lv_aload_n hx hb dX6_advance_193 rfl (lv_at hl 3 rfl) ?_
                          refine va_get (D := D) (ci := 6) (v := .long wv_4) (C := RX6) (T := TX6) (N := 14) hx hb htg inX6 hown hK.1 hP 0 rfl rfl 8 (by decide) (htg _ kw_108) (fun _ h9 => h9) rfl dX6_advance_194 ?_
                          refine lv_bipush (v := 8) hx hb dX6_advance_197 (by decide) ?_
                          refine lv_lshl hx hb dX6_advance_199 rfl ?_
                          refine lv_topl (fun z199_1 ez199_1 => ?_)
                          refine lv_iload_n hx hb dX6_advance_200 rfl (lv_at hl 1 rfl) ?_
                          refine lv_i2l hx hb dX6_advance_201 rfl ?_
                          refine lv_topl (fun z201_1 ez201_1 => ?_)
                          refine lv_lor hx hb dX6_advance_202 ?_
                          refine lv_topl (fun z202_1 ez202_1 => ?_)
                          refine va_put (D := D) (ci := 6) (v := .long z202_1) (ty := .long) (C := RX6) (T := TX6) (N := 14) hx hb htg inX6 tyX6 tyX6_ok nmX6 hown hK.1 hP hD hS 0 rfl rfl 8 (by decide) (htg _ kw_108) (fun _ h9 => h9) rfl (by decide +kernel) rfl rfl (Nat.le_of_ble_eq_true rfl) dX6_advance_203 (fun H locs hP hD hS => ?_)
                          obtain ⟨hP, hD⟩ := (show xPD D A [((a 0), .inr (6, [.ref (a 1), .ref (ex 0), .int (vi 0), .int (vi 1), .int (vi 2), .int wv_6, .int (vi 4), .int wv, .long z202_1, .int wv_5, .int ((fi 0) wv.toNatClampNeg), .int (vi 8), .int (vi 9), .int (vi 10)])), ((a 1), .inl (T 0, 940, .inl (fi 0)))] H from ⟨hP, hD⟩)
                          refine lv_goto (tgt := 240) hx hb dX6_advance_206 (by decide) ?_
                          refine lv_aload_n hx hb dX6_advance_240 rfl (lv_at hl 3 rfl) ?_
                          refine lv_dup hx hb dX6_advance_241 rfl ?_
                          refine va_get (D := D) (ci := 6) (v := .int wv_6) (C := RX6) (T := TX6) (N := 14) hx hb htg inX6 hown hK.1 hP 0 rfl rfl 5 (by decide) (htg _ kw_100) (fun _ h9 => h9) rfl dX6_advance_242 ?_
                          refine lv_iconst (v := 1) hx hb dX6_advance_245 (by decide) ?_
                          refine lv_iadd hx hb dX6_advance_246 ?_
                          refine lv_topi (fun z246_3 ez246_3 => ?_)
                          have tz246_3 : z246_3.toInt = wv_6.toInt + 1 := by rw [ez246_3]; exact xadd rfl (by decide) (by omega) (by omega)
                          refine va_put (D := D) (ci := 6) (v := .int z246_3) (ty := .int) (C := RX6) (T := TX6) (N := 14) hx hb htg inX6 tyX6 tyX6_ok nmX6 hown hK.1 hP hD hS 0 rfl rfl 5 (by decide) (htg _ kw_100) (fun _ h9 => h9) rfl (by decide +kernel) rfl rfl (Nat.le_of_ble_eq_true rfl) dX6_advance_247 (fun H locs hP hD hS => ?_)
                          obtain ⟨hP, hD⟩ := (show xPD D A [((a 0), .inr (6, [.ref (a 1), .ref (ex 0), .int (vi 0), .int (vi 1), .int (vi 2), .int z246_3, .int (vi 4), .int wv, .long z202_1, .int wv_5, .int ((fi 0) wv.toNatClampNeg), .int (vi 8), .int (vi 9), .int (vi 10)])), ((a 1), .inl (T 0, 940, .inl (fi 0)))] H from ⟨hP, hD⟩)
                          refine lv_goto (tgt := 156) hx hb dX6_advance_250 (by decide) ?_
                          exact ih_2 _ (by omega) w2_1 i189_1 z202_1 wv_5 z246_3 _ _ _ hi_5 (by show 0 ≤ i189_1.toInt ∧ i189_1.toInt ≤ 940; omega) (by show 0 ≤ z246_3.toInt ∧ z246_3.toInt ≤ 940; omega) (by show (z246_3).toInt = (wv).toInt + i189_1.toInt + w2_1.toInt; first | omega | assumption) rfl (hP.sub [0, 1] rfl) (hD.sub [0, 1] (by decide) rfl) hS (lv_sub hl [2, 0, 3] rfl)
                exact lp_2 _ (0 : Int32) (0 : Int32) (0 : Int64) (0 : Int32) wv _ _ _ (show 0 ≤ (0 : Int32).toInt ∧ (0 : Int32).toInt ≤ 940 by decide) (show 0 ≤ (0 : Int32).toInt ∧ (0 : Int32).toInt ≤ 940 by decide) hi (by show (wv).toInt = (wv).toInt + (0 : Int32).toInt + (0 : Int32).toInt; have k9_0 : (0 : Int32).toInt = 0 := (by decide); first | omega | assumption) rfl hP hD hS hl
              · have c71_1 := (mt Int32.lt_iff_toInt_lt.mpr c71_1)
                have rc71_1 := xrng wv; have qc71_1 := xrng (vi 2)
                refine lv_aload_n hx hb dX6_advance_74 rfl (lv_at hl 0 rfl) ?_
                refine lv_aload_n hx hb dX6_advance_75 rfl (lv_at hl 0 rfl) ?_
                refine va_get (D := D) (ci := 6) (v := .int (vi 1)) (C := RX6) (T := TX6) (N := 14) hx hb htg inX6 hown hK.1 hP 0 rfl rfl 3 (by decide) (htg _ kw_98) (fun _ h9 => h9) rfl dX6_advance_76 ?_
                refine lv_aload_n hx hb dX6_advance_79 rfl (lv_at hl 0 rfl) ?_
                refine va_get (D := D) (ci := 6) (v := .int (vi 2)) (C := RX6) (T := TX6) (N := 14) hx hb htg inX6 hown hK.1 hP 0 rfl rfl 4 (by decide) (htg _ kw_99) (fun _ h9 => h9) rfl dX6_advance_80 ?_
                refine lv_icmp_le (tgt := 90) hx hb dX6_advance_83 (by decide) (fun c83_3 => ?_) (fun c83_3 => ?_)
                · have c83_3 := Int32.le_iff_toInt_le.mp c83_3
                  have rc83_3 := xrng (vi 1); have qc83_3 := xrng (vi 2)
                  refine lv_iconst (v := 0) hx hb dX6_advance_90 (by decide) ?_
                  refine va_put (D := D) (ci := 6) (v := .int 0) (ty := .int) (C := RX6) (T := TX6) (N := 14) hx hb htg inX6 tyX6 tyX6_ok nmX6 hown hK.1 hP hD hS 0 rfl rfl 6 (by decide) (htg _ kw_104) (fun _ h9 => h9) rfl (by decide +kernel) rfl rfl (Nat.le_of_ble_eq_true rfl) dX6_advance_91 (fun H locs hP hD hS => ?_)
                  obtain ⟨hP, hD⟩ := (show xPD D A [((a 0), .inr (6, [.ref (a 1), .ref (ex 0), .int (vi 0), .int (vi 1), .int (vi 2), .int wv, .int 0, .int (vi 5), .long (vl 0), .int (vi 6), .int (vi 7), .int (vi 8), .int (vi 9), .int (vi 10)])), ((a 1), .inl (T 0, 940, .inl (fi 0)))] H from ⟨hP, hD⟩)
                  refine lv_aload_n hx hb dX6_advance_94 rfl (lv_at hl 0 rfl) ?_
                  refine lv_aload_n hx hb dX6_advance_95 rfl (lv_at hl 0 rfl) ?_
                  refine va_get (D := D) (ci := 6) (v := .int (vi 1)) (C := RX6) (T := TX6) (N := 14) hx hb htg inX6 hown hK.1 hP 0 rfl rfl 3 (by decide) (htg _ kw_98) (fun _ h9 => h9) rfl dX6_advance_96 ?_
                  refine lv_aload_n hx hb dX6_advance_99 rfl (lv_at hl 0 rfl) ?_
                  refine va_get (D := D) (ci := 6) (v := .int (vi 2)) (C := RX6) (T := TX6) (N := 14) hx hb htg inX6 hown hK.1 hP 0 rfl rfl 4 (by decide) (htg _ kw_99) (fun _ h9 => h9) rfl dX6_advance_100 ?_
                  refine lv_icmp_le (tgt := 113) hx hb dX6_advance_103 (by decide) (fun c103_6 => ?_) (fun c103_6 => ?_)
                  · have c103_6 := Int32.le_iff_toInt_le.mp c103_6
                    have rc103_6 := xrng (vi 1); have qc103_6 := xrng (vi 2)
                    refine lv_aload_n hx hb dX6_advance_113 rfl (lv_at hl 0 rfl) ?_
                    refine va_get (D := D) (ci := 6) (v := .int (vi 1)) (C := RX6) (T := TX6) (N := 14) hx hb htg inX6 hown hK.1 hP 0 rfl rfl 3 (by decide) (htg _ kw_98) (fun _ h9 => h9) rfl dX6_advance_114 ?_
                    refine va_put (D := D) (ci := 6) (v := .int (vi 1)) (ty := .int) (C := RX6) (T := TX6) (N := 14) hx hb htg inX6 tyX6 tyX6_ok nmX6 hown hK.1 hP hD hS 0 rfl rfl 7 (by decide) (htg _ kw_105) (fun _ h9 => h9) rfl (by decide +kernel) rfl rfl (Nat.le_of_ble_eq_true rfl) dX6_advance_117 (fun H locs hP hD hS => ?_)
                    obtain ⟨hP, hD⟩ := (show xPD D A [((a 0), .inr (6, [.ref (a 1), .ref (ex 0), .int (vi 0), .int (vi 1), .int (vi 2), .int wv, .int 0, .int (vi 1), .long (vl 0), .int (vi 6), .int (vi 7), .int (vi 8), .int (vi 9), .int (vi 10)])), ((a 1), .inl (T 0, 940, .inl (fi 0)))] H from ⟨hP, hD⟩)
                    have hP9 := hP.sub (ws' := [((a 0), .inr (6, [.ref (a 1), .ref (ex 0), .int (vi 0), .int (vi 1), .int (vi 2), .int wv, .int 0, .int (vi 1), .long (vl 0), .int (vi 6), .int (vi 7), .int (vi 8), .int (vi 9), .int (vi 10)])), ((a 1), .inl (T 0, 940, .inl (fi 0)))]) [0, 1] rfl
                    have hD9 := hD.sub (ws' := [((a 0), .inr (6, [.ref (a 1), .ref (ex 0), .int (vi 0), .int (vi 1), .int (vi 2), .int wv, .int 0, .int (vi 1), .long (vl 0), .int (vi 6), .int (vi 7), .int (vi 8), .int (vi 9), .int (vi 10)])), ((a 1), .inl (T 0, 940, .inl (fi 0)))]) [0, 1] (by decide +kernel) rfl
                    rw [hQ]
                    exact W.vret hx hb hr (fun t ht hW => ⟨⟨(0 : Int32), rfl, trivial, xf [], xh [], xv [0, (vi 1), (vi 7), (vi 6), wv], xl [(vl 0)], by rw [ht]; exact hP9, hD9, ⟨hi, trivial⟩⟩, hS.F ht⟩) hS.2.2 dX6_advance_120
                  · have c103_6 := (mt Int32.le_iff_toInt_le.mpr c103_6)
                    have rc103_6 := xrng (vi 1); have qc103_6 := xrng (vi 2)
                    refine lv_aload_n hx hb dX6_advance_106 rfl (lv_at hl 0 rfl) ?_
                    refine va_get (D := D) (ci := 6) (v := .int (vi 2)) (C := RX6) (T := TX6) (N := 14) hx hb htg inX6 hown hK.1 hP 0 rfl rfl 4 (by decide) (htg _ kw_99) (fun _ h9 => h9) rfl dX6_advance_107 ?_
                    refine lv_goto (tgt := 117) hx hb dX6_advance_110 (by decide) ?_
                    refine va_put (D := D) (ci := 6) (v := .int (vi 2)) (ty := .int) (C := RX6) (T := TX6) (N := 14) hx hb htg inX6 tyX6 tyX6_ok nmX6 hown hK.1 hP hD hS 0 rfl rfl 7 (by decide) (htg _ kw_105) (fun _ h9 => h9) rfl (by decide +kernel) rfl rfl (Nat.le_of_ble_eq_true rfl) dX6_advance_117 (fun H locs hP hD hS => ?_)
                    obtain ⟨hP, hD⟩ := (show xPD D A [((a 0), .inr (6, [.ref (a 1), .ref (ex 0), .int (vi 0), .int (vi 1), .int (vi 2), .int wv, .int 0, .int (vi 2), .long (vl 0), .int (vi 6), .int (vi 7), .int (vi 8), .int (vi 9), .int (vi 10)])), ((a 1), .inl (T 0, 940, .inl (fi 0)))] H from ⟨hP, hD⟩)
                    have hP9 := hP.sub (ws' := [((a 0), .inr (6, [.ref (a 1), .ref (ex 0), .int (vi 0), .int (vi 1), .int (vi 2), .int wv, .int 0, .int (vi 2), .long (vl 0), .int (vi 6), .int (vi 7), .int (vi 8), .int (vi 9), .int (vi 10)])), ((a 1), .inl (T 0, 940, .inl (fi 0)))]) [0, 1] rfl
                    have hD9 := hD.sub (ws' := [((a 0), .inr (6, [.ref (a 1), .ref (ex 0), .int (vi 0), .int (vi 1), .int (vi 2), .int wv, .int 0, .int (vi 2), .long (vl 0), .int (vi 6), .int (vi 7), .int (vi 8), .int (vi 9), .int (vi 10)])), ((a 1), .inl (T 0, 940, .inl (fi 0)))]) [0, 1] (by decide +kernel) rfl
                    rw [hQ]
                    exact W.vret hx hb hr (fun t ht hW => ⟨⟨(0 : Int32), rfl, trivial, xf [], xh [], xv [0, (vi 2), (vi 7), (vi 6), wv], xl [(vl 0)], by rw [ht]; exact hP9, hD9, ⟨hi, trivial⟩⟩, hS.F ht⟩) hS.2.2 dX6_advance_120
                · have c83_3 := (mt Int32.le_iff_toInt_le.mpr c83_3)
                  have rc83_3 := xrng (vi 1); have qc83_3 := xrng (vi 2)
                  refine lv_iconst (v := 4) hx hb dX6_advance_86 (by decide) ?_
                  refine lv_goto (tgt := 91) hx hb dX6_advance_87 (by decide) ?_
                  refine va_put (D := D) (ci := 6) (v := .int 4) (ty := .int) (C := RX6) (T := TX6) (N := 14) hx hb htg inX6 tyX6 tyX6_ok nmX6 hown hK.1 hP hD hS 0 rfl rfl 6 (by decide) (htg _ kw_104) (fun _ h9 => h9) rfl (by decide +kernel) rfl rfl (Nat.le_of_ble_eq_true rfl) dX6_advance_91 (fun H locs hP hD hS => ?_)
                  obtain ⟨hP, hD⟩ := (show xPD D A [((a 0), .inr (6, [.ref (a 1), .ref (ex 0), .int (vi 0), .int (vi 1), .int (vi 2), .int wv, .int 4, .int (vi 5), .long (vl 0), .int (vi 6), .int (vi 7), .int (vi 8), .int (vi 9), .int (vi 10)])), ((a 1), .inl (T 0, 940, .inl (fi 0)))] H from ⟨hP, hD⟩)
                  refine lv_aload_n hx hb dX6_advance_94 rfl (lv_at hl 0 rfl) ?_
                  refine lv_aload_n hx hb dX6_advance_95 rfl (lv_at hl 0 rfl) ?_
                  refine va_get (D := D) (ci := 6) (v := .int (vi 1)) (C := RX6) (T := TX6) (N := 14) hx hb htg inX6 hown hK.1 hP 0 rfl rfl 3 (by decide) (htg _ kw_98) (fun _ h9 => h9) rfl dX6_advance_96 ?_
                  refine lv_aload_n hx hb dX6_advance_99 rfl (lv_at hl 0 rfl) ?_
                  refine va_get (D := D) (ci := 6) (v := .int (vi 2)) (C := RX6) (T := TX6) (N := 14) hx hb htg inX6 hown hK.1 hP 0 rfl rfl 4 (by decide) (htg _ kw_99) (fun _ h9 => h9) rfl dX6_advance_100 ?_
                  refine lv_icmp_le (tgt := 113) hx hb dX6_advance_103 (by decide) (fun c103_7 => ?_) (fun c103_7 => ?_)
                  · have c103_7 := Int32.le_iff_toInt_le.mp c103_7
                    have rc103_7 := xrng (vi 1); have qc103_7 := xrng (vi 2)
                    refine lv_aload_n hx hb dX6_advance_113 rfl (lv_at hl 0 rfl) ?_
                    refine va_get (D := D) (ci := 6) (v := .int (vi 1)) (C := RX6) (T := TX6) (N := 14) hx hb htg inX6 hown hK.1 hP 0 rfl rfl 3 (by decide) (htg _ kw_98) (fun _ h9 => h9) rfl dX6_advance_114 ?_
                    refine va_put (D := D) (ci := 6) (v := .int (vi 1)) (ty := .int) (C := RX6) (T := TX6) (N := 14) hx hb htg inX6 tyX6 tyX6_ok nmX6 hown hK.1 hP hD hS 0 rfl rfl 7 (by decide) (htg _ kw_105) (fun _ h9 => h9) rfl (by decide +kernel) rfl rfl (Nat.le_of_ble_eq_true rfl) dX6_advance_117 (fun H locs hP hD hS => ?_)
                    obtain ⟨hP, hD⟩ := (show xPD D A [((a 0), .inr (6, [.ref (a 1), .ref (ex 0), .int (vi 0), .int (vi 1), .int (vi 2), .int wv, .int 4, .int (vi 1), .long (vl 0), .int (vi 6), .int (vi 7), .int (vi 8), .int (vi 9), .int (vi 10)])), ((a 1), .inl (T 0, 940, .inl (fi 0)))] H from ⟨hP, hD⟩)
                    have hP9 := hP.sub (ws' := [((a 0), .inr (6, [.ref (a 1), .ref (ex 0), .int (vi 0), .int (vi 1), .int (vi 2), .int wv, .int 4, .int (vi 1), .long (vl 0), .int (vi 6), .int (vi 7), .int (vi 8), .int (vi 9), .int (vi 10)])), ((a 1), .inl (T 0, 940, .inl (fi 0)))]) [0, 1] rfl
                    have hD9 := hD.sub (ws' := [((a 0), .inr (6, [.ref (a 1), .ref (ex 0), .int (vi 0), .int (vi 1), .int (vi 2), .int wv, .int 4, .int (vi 1), .long (vl 0), .int (vi 6), .int (vi 7), .int (vi 8), .int (vi 9), .int (vi 10)])), ((a 1), .inl (T 0, 940, .inl (fi 0)))]) [0, 1] (by decide +kernel) rfl
                    rw [hQ]
                    exact W.vret hx hb hr (fun t ht hW => ⟨⟨(0 : Int32), rfl, trivial, xf [], xh [], xv [4, (vi 1), (vi 7), (vi 6), wv], xl [(vl 0)], by rw [ht]; exact hP9, hD9, ⟨hi, trivial⟩⟩, hS.F ht⟩) hS.2.2 dX6_advance_120
                  · have c103_7 := (mt Int32.le_iff_toInt_le.mpr c103_7)
                    have rc103_7 := xrng (vi 1); have qc103_7 := xrng (vi 2)
                    refine lv_aload_n hx hb dX6_advance_106 rfl (lv_at hl 0 rfl) ?_
                    refine va_get (D := D) (ci := 6) (v := .int (vi 2)) (C := RX6) (T := TX6) (N := 14) hx hb htg inX6 hown hK.1 hP 0 rfl rfl 4 (by decide) (htg _ kw_99) (fun _ h9 => h9) rfl dX6_advance_107 ?_
                    refine lv_goto (tgt := 117) hx hb dX6_advance_110 (by decide) ?_
                    refine va_put (D := D) (ci := 6) (v := .int (vi 2)) (ty := .int) (C := RX6) (T := TX6) (N := 14) hx hb htg inX6 tyX6 tyX6_ok nmX6 hown hK.1 hP hD hS 0 rfl rfl 7 (by decide) (htg _ kw_105) (fun _ h9 => h9) rfl (by decide +kernel) rfl rfl (Nat.le_of_ble_eq_true rfl) dX6_advance_117 (fun H locs hP hD hS => ?_)
                    obtain ⟨hP, hD⟩ := (show xPD D A [((a 0), .inr (6, [.ref (a 1), .ref (ex 0), .int (vi 0), .int (vi 1), .int (vi 2), .int wv, .int 4, .int (vi 2), .long (vl 0), .int (vi 6), .int (vi 7), .int (vi 8), .int (vi 9), .int (vi 10)])), ((a 1), .inl (T 0, 940, .inl (fi 0)))] H from ⟨hP, hD⟩)
                    have hP9 := hP.sub (ws' := [((a 0), .inr (6, [.ref (a 1), .ref (ex 0), .int (vi 0), .int (vi 1), .int (vi 2), .int wv, .int 4, .int (vi 2), .long (vl 0), .int (vi 6), .int (vi 7), .int (vi 8), .int (vi 9), .int (vi 10)])), ((a 1), .inl (T 0, 940, .inl (fi 0)))]) [0, 1] rfl
                    have hD9 := hD.sub (ws' := [((a 0), .inr (6, [.ref (a 1), .ref (ex 0), .int (vi 0), .int (vi 1), .int (vi 2), .int wv, .int 4, .int (vi 2), .long (vl 0), .int (vi 6), .int (vi 7), .int (vi 8), .int (vi 9), .int (vi 10)])), ((a 1), .inl (T 0, 940, .inl (fi 0)))]) [0, 1] (by decide +kernel) rfl
                    rw [hQ]
                    exact W.vret hx hb hr (fun t ht hW => ⟨⟨(0 : Int32), rfl, trivial, xf [], xh [], xv [4, (vi 2), (vi 7), (vi 6), wv], xl [(vl 0)], by rw [ht]; exact hP9, hD9, ⟨hi, trivial⟩⟩, hS.F ht⟩) hS.2.2 dX6_advance_120
          · have c36 := xeq (k := 10) (by decide) c36
            refine lv_aload_n hx hb dX6_advance_39 rfl (lv_at hl 0 rfl) ?_
            refine lv_dup hx hb dX6_advance_40 rfl ?_
            refine va_get (D := D) (ci := 6) (v := .int wv) (C := RX6) (T := TX6) (N := 14) hx hb htg inX6 hown hK.1 hP 0 rfl rfl 5 (by decide) (htg _ kw_100) (fun _ h9 => h9) rfl dX6_advance_41 ?_
            refine lv_iconst (v := 1) hx hb dX6_advance_44 (by decide) ?_
            refine lv_iadd hx hb dX6_advance_45 ?_
            refine lv_topi (fun z45_1 ez45_1 => ?_)
            have tz45_1 : z45_1.toInt = wv.toInt + 1 := by rw [ez45_1]; exact xadd rfl (by decide) (by omega) (by omega)
            refine va_put (D := D) (ci := 6) (v := .int z45_1) (ty := .int) (C := RX6) (T := TX6) (N := 14) hx hb htg inX6 tyX6 tyX6_ok nmX6 hown hK.1 hP hD hS 0 rfl rfl 5 (by decide) (htg _ kw_100) (fun _ h9 => h9) rfl (by decide +kernel) rfl rfl (Nat.le_of_ble_eq_true rfl) dX6_advance_46 (fun H locs hP hD hS => ?_)
            obtain ⟨hP, hD⟩ := (show xPD D A [((a 0), .inr (6, [.ref (a 1), .ref (ex 0), .int (vi 0), .int (vi 1), .int (vi 2), .int z45_1, .int (vi 4), .int (vi 5), .long (vl 0), .int (vi 6), .int (vi 7), .int (vi 8), .int (vi 9), .int (vi 10)])), ((a 1), .inl (T 0, 940, .inl (fi 0)))] H from ⟨hP, hD⟩)
            refine lv_goto (tgt := 0) hx hb dX6_advance_49 (by decide) ?_
            exact ih _ (by omega) z45_1 _ _ _ (by show 0 ≤ z45_1.toInt ∧ z45_1.toInt ≤ 940; omega) rfl (hP.sub [0, 1] rfl) (hD.sub [0, 1] (by decide) rfl) hS (lv_sub hl [0] rfl)
  exact lp _ (vi 3) _ _ _ hp1 rfl hP hD hS hl
