abbrev pre1_X6_keepOwn (T : Nat → ClassId) (a ex : Nat → Nat) (fi : Nat → Nat → Int32) (fl : Nat → Nat → Int64) (vi : Nat → Int32) : va_W := [((a 0), .inr (6, [.ref (ex 0), .ref (a 1), .int 0, .int 0, .int 0, .int 0, .int 0, .int 0, .long 0, .int 0, .int 0, .int 0, .int 0, .int 0])), ((a 1), .inl (T 2, 27, .inr (.inl (fun _ => 0))))]
set_option maxHeartbeats 4000000 in
set_option maxRecDepth 100000 in
theorem c1_X6_keepOwn (l : Launch) (D : va_G) (T : Nat → ClassId) (a ex : Nat → Nat) (fi : Nat → Nat → Int32) (fl : Nat → Nat → Int64) (vi : Nat → Int32) (kK kV : Nat → Nat) (sz : Nat) : Met l yX6_keepOwn (xw yX6_keepOwn cX6_keepOwn 5 none) ({ frames := 4, cells := 0, slots := 0, locals := 101 }) (xPs D T kK kV [.ref (a 0), .ref (kK 0)] sz (pre1_X6_keepOwn T a ex fi fl vi)) (va_Qv (fun _ : Unit => True) (xB D (va_A (pre1_X6_keepOwn T a ex fi fl vi) sz) (fun vj => ((0 ≤ (vj 0).toInt ∧ (vj 0).toInt ≤ 27)) ∧ True) (fun b fj fm vj => [((a 0), .inr (6, [.ref (ex 0), .ref (a 1), .int (vj 0), .int 0, .int 0, .int 0, .int 0, .int 0, .long 0, .int 0, .int 0, .int 0, .int 0, .int 0])), ((a 1), .inl (T 2, 27, .inr (.inl (fm 0))))])) (va_A (pre1_X6_keepOwn T a ex fi fl vi) sz)) 0 0 (va_A (pre1_X6_keepOwn T a ex fi fl vi) sz) := by
  refine xofW (cc := cX6_keepOwn) (maxL := 5) (ret := none) (by decide) rfl ?_
  intro p e s m args below meth c s₁ R Q hR hQ B hml hv
  obtain ⟨rfl, hsz, hP, hK, hD0, hT⟩ := hv
  have hx := B.exec
  have hb := B.bytes
  have hr := B.returns
  have hts := atoms_spec (ws := xw yX6_keepOwn cX6_keepOwn 5 none) B.pre
  have htg : ∀ w ∈ xg, w.before _ s = true := fun w h => hts w (List.mem_cons_of_mem _ h)
  have hown : s.vm.findClass RX6 = some m.cls := findClass_of_methodNamed B.named
  have hlocks := B.notSynchronized
  subst hsz
  have hD := hD0.self (sz := s.heap.size)
  generalize hAe : va_A (pre1_X6_keepOwn T a ex fi fl vi) s.heap.size = A at hD hQ hT
  have hA : ∀ q : Nat, s.heap.size ≤ q → A q := fun q h => by rw [← hAe]; exact Or.inr h
  have hS : va_S A s.heap s.heap [] := va_S.rf
  replace hP : va_P D vwCl [((a 0), .inr (6, [.ref (ex 0), .ref (a 1), .int 0, .int 0, .int 0, .int 0, .int 0, .int 0, .long 0, .int 0, .int 0, .int 0, .int 0, .int 0])), ((a 1), .inl (T 2, 27, .inr (.inl (fun _ => 0))))] s.heap := hP
  replace hD : va_D A [((a 0), .inr (6, [.ref (ex 0), .ref (a 1), .int 0, .int 0, .int 0, .int 0, .int 0, .int 0, .long 0, .int 0, .int 0, .int 0, .int 0, .int 0])), ((a 1), .inl (T 2, 27, .inr (.inl (fun _ => 0))))] := hD
  have hl := lv_entry ([.ref (a 0), .ref (kK 0)]) (n := 5) (Nat.le_of_ble_eq_true rfl)
  rw [lg_entry_eq]
  generalize (lg_sl ([.ref (a 0), .ref (kK 0)]) ++ List.replicate (5 - (lg_sl ([.ref (a 0), .ref (kK 0)])).length) Slot.unset).toArray = ls at hl ⊢
  replace hl : lv_has ls 5 [(0, .ref (a 0)), (1, .ref (kK 0))] := hl
  refine lv_lconst (v := 0) hx hb dX6_keepOwn_0 (by decide) ?_
  refine lv_lstore_n (lv' := [(2, .long 0), (0, .ref (a 0)), (1, .ref (kK 0))]) hx hb dX6_keepOwn_1 rfl hl (by decide) rfl (fun ls hl => ?_)
  refine lv_iconst (v := 0) hx hb dX6_keepOwn_2 (by decide) ?_
  refine lv_istore (lv' := [(4, .int 0), (2, .long 0), (0, .ref (a 0)), (1, .ref (kK 0))]) hx hb dX6_keepOwn_3 hl (by decide) rfl (fun ls hl => ?_)
  have lp : ∀ (n i : Nat) (pk : Int64) (cv : Nat) (fw : Nat → Int64) (H : Heap) (locs : List Loc) (ls : Array Slot), i + n = 43 → cv ≤ 27 → va_P D vwCl [((a 0), .inr (6, [.ref (ex 0), .ref (a 1), .int (nI cv), .int 0, .int 0, .int 0, .int 0, .int 0, .long 0, .int 0, .int 0, .int 0, .int 0, .int 0])), ((a 1), .inl (T 2, 27, .inr (.inl fw)))] H → va_D A [((a 0), .inr (6, [.ref (ex 0), .ref (a 1), .int (nI cv), .int 0, .int 0, .int 0, .int 0, .int 0, .long 0, .int 0, .int 0, .int 0, .int 0, .int 0])), ((a 1), .inl (T 2, 27, .inr (.inl fw)))] → va_S A s.heap H locs → lv_has ls 5 [(4, .int (nI i)), (2, .long pk), (0, .ref (a 0)), (1, .ref (kK 0))] → W p l e R s m ([.ref (a 0), .ref (kK 0)] : List Value).toArray below meth c H locs 0 0 Q (F0 m 5 ls []) := by
    intro n
    induction n with
    | zero =>
      intro i pk cv fw H locs ls hin hcv hP hD hS hl
      obtain rfl : i = 43 := by omega
      replace hl : lv_has ls 5 [(4, .int 43), (2, .long pk), (0, .ref (a 0)), (1, .ref (kK 0))] := hl
      refine lv_iload hx hb dX6_keepOwn_5 (lv_at hl 0 rfl) ?_
      refine lv_aload_n hx hb dX6_keepOwn_7 rfl (lv_at hl 3 rfl) ?_
      have hPc := hP.sub (ws' := (pre1_J0_length_8abf5 T (xa []) (xa []) (xf []) (xh []) (xv []))) [] rfl
      have hDc := hD.sub (ws' := (pre1_J0_length_8abf5 T (xa []) (xa []) (xf []) (xh []) (xv []))) [] (by decide) rfl
      have hFc := va_free (wc := (pre1_J0_length_8abf5 T (xa []) (xa []) (xf []) (xh []) (xv []))) hD hS hA [] rfl
      refine va_calli (va_runV (As := []) (rest := [.int 43]) ⟨hx, hb, hml, hown, htg⟩ (c1_J0_length_8abf5 l D T (xa []) (xa []) (xf []) (xh []) (xv []) kK kV H.size) ⟨callB_of 0 htg (xg_ok kw_47) rfl rfl rfl (htg _ kw_3) (htg _ kw_44) (by decide +kernel) ⟨by rw [hR]; exact Nat.le_of_ble_eq_true rfl, by rw [hR]; exact Nat.le_of_ble_eq_true rfl⟩, htg _ kw_45, htg _ kw_46⟩ (xpreVs hK hPc hDc hT hFc hS (xT.recv hT 0 (by decide) hS)) rfl rfl hl.1 rfl (lv_room (Nat.le_of_ble_eq_true rfl)) dX6_keepOwn_8 ⟨by rw [hR]; exact Nat.le_of_ble_eq_true rfl, by rw [hR]; exact Nat.le_of_ble_eq_true rfl⟩) hS (fun q _ h => hFc q h) hFc (fun r9 u t H1 locs ht hvm hw hB hz1 hk1 hS => ?_)
      obtain ⟨bk, fik, flk, vik, hP1, hD1, hGk⟩ := hB
      rw [ht] at hP1
      obtain ⟨hP, hD⟩ := va_join (wr := [((a 0), .inr (6, [.ref (ex 0), .ref (a 1), .int (nI cv), .int 0, .int 0, .int 0, .int 0, .int 0, .long 0, .int 0, .int 0, .int 0, .int 0, .int 0])), ((a 1), .inl (T 2, 27, .inr (.inl fw)))]) (w1 := []) hP hD [] [0, 1] rfl rfl (by decide) (by decide) hk1 hFc hP1 hD1
      subst hw
      clear hPc hDc hFc hP1 hD1 hk1 hz1 hvm ht
      generalize H1 = H at hP hS ⊢
      replace hP : va_P D vwCl [((a 0), .inr (6, [.ref (ex 0), .ref (a 1), .int (nI cv), .int 0, .int 0, .int 0, .int 0, .int 0, .long 0, .int 0, .int 0, .int 0, .int 0, .int 0])), ((a 1), .inl (T 2, 27, .inr (.inl fw)))] H := hP
      replace hD : va_D A [((a 0), .inr (6, [.ref (ex 0), .ref (a 1), .int (nI cv), .int 0, .int 0, .int 0, .int 0, .int 0, .long 0, .int 0, .int 0, .int 0, .int 0, .int 0])), ((a 1), .inl (T 2, 27, .inr (.inl fw)))] := hD
      refine lv_icmp_ge (tgt := 78) hx hb dX6_keepOwn_11 (by decide) (fun _ => ?_) (fun c => absurd (by decide) c)
      have hP9 := hP.sub (ws' := [((a 0), .inr (6, [.ref (ex 0), .ref (a 1), .int (nI cv), .int 0, .int 0, .int 0, .int 0, .int 0, .long 0, .int 0, .int 0, .int 0, .int 0, .int 0])), ((a 1), .inl (T 2, 27, .inr (.inl fw)))]) [0, 1] rfl
      have hD9 := hD.sub (ws' := [((a 0), .inr (6, [.ref (ex 0), .ref (a 1), .int (nI cv), .int 0, .int 0, .int 0, .int 0, .int 0, .long 0, .int 0, .int 0, .int 0, .int 0, .int 0])), ((a 1), .inl (T 2, 27, .inr (.inl fw)))]) [0, 1] (by decide +kernel) rfl
      rw [hQ]
      exact W.vret hx hb hr (fun t ht hW => ⟨⟨(), rfl, trivial, ⟨xa [], xf [], xh [fw], xv [(nI cv)], by rw [ht]; exact hP9, hD9, ⟨by show (0 ≤ ((nI cv) : Int32).toInt ∧ ((nI cv) : Int32).toInt ≤ 27); have h8 := nI_toInt (n := cv) (by omega); omega, trivial⟩⟩⟩, hS.F ht⟩) hS.2.2 dX6_keepOwn_78
    | succ n ih =>
      intro i pk cv fw H locs ls hin hcv hP hD hS hl
      refine lv_iload hx hb dX6_keepOwn_5 (lv_at hl 0 rfl) ?_
      refine lv_aload_n hx hb dX6_keepOwn_7 rfl (lv_at hl 3 rfl) ?_
      have hPc := hP.sub (ws' := (pre1_J0_length_8abf5 T (xa []) (xa []) (xf []) (xh []) (xv []))) [] rfl
      have hDc := hD.sub (ws' := (pre1_J0_length_8abf5 T (xa []) (xa []) (xf []) (xh []) (xv []))) [] (by decide) rfl
      have hFc := va_free (wc := (pre1_J0_length_8abf5 T (xa []) (xa []) (xf []) (xh []) (xv []))) hD hS hA [] rfl
      refine va_calli (va_runV (As := []) (rest := [.int (nI i)]) ⟨hx, hb, hml, hown, htg⟩ (c1_J0_length_8abf5 l D T (xa []) (xa []) (xf []) (xh []) (xv []) kK kV H.size) ⟨callB_of 0 htg (xg_ok kw_47) rfl rfl rfl (htg _ kw_3) (htg _ kw_44) (by decide +kernel) ⟨by rw [hR]; exact Nat.le_of_ble_eq_true rfl, by rw [hR]; exact Nat.le_of_ble_eq_true rfl⟩, htg _ kw_45, htg _ kw_46⟩ (xpreVs hK hPc hDc hT hFc hS (xT.recv hT 0 (by decide) hS)) rfl rfl hl.1 rfl (lv_room (Nat.le_of_ble_eq_true rfl)) dX6_keepOwn_8 ⟨by rw [hR]; exact Nat.le_of_ble_eq_true rfl, by rw [hR]; exact Nat.le_of_ble_eq_true rfl⟩) hS (fun q _ h => hFc q h) hFc (fun r9 u t H1 locs ht hvm hw hB hz1 hk1 hS => ?_)
      obtain ⟨bk_1, fik_1, flk_1, vik_1, hP1, hD1, hGk_1⟩ := hB
      rw [ht] at hP1
      obtain ⟨hP, hD⟩ := va_join (wr := [((a 0), .inr (6, [.ref (ex 0), .ref (a 1), .int (nI cv), .int 0, .int 0, .int 0, .int 0, .int 0, .long 0, .int 0, .int 0, .int 0, .int 0, .int 0])), ((a 1), .inl (T 2, 27, .inr (.inl fw)))]) (w1 := []) hP hD [] [0, 1] rfl rfl (by decide) (by decide) hk1 hFc hP1 hD1
      subst hw
      clear hPc hDc hFc hP1 hD1 hk1 hz1 hvm ht
      generalize H1 = H at hP hS ⊢
      replace hP : va_P D vwCl [((a 0), .inr (6, [.ref (ex 0), .ref (a 1), .int (nI cv), .int 0, .int 0, .int 0, .int 0, .int 0, .long 0, .int 0, .int 0, .int 0, .int 0, .int 0])), ((a 1), .inl (T 2, 27, .inr (.inl fw)))] H := hP
      replace hD : va_D A [((a 0), .inr (6, [.ref (ex 0), .ref (a 1), .int (nI cv), .int 0, .int 0, .int 0, .int 0, .int 0, .long 0, .int 0, .int 0, .int 0, .int 0, .int 0])), ((a 1), .inl (T 2, 27, .inr (.inl fw)))] := hD
      refine lv_icmp_ge (tgt := 78) hx hb dX6_keepOwn_11 (by decide) (fun c => by exfalso; have h9 := xge (k := 43) (by decide) c; have h8 := nI_toInt (n := i) (by omega); omega) (fun _ => ?_)
      refine lv_aload_n hx hb dX6_keepOwn_14 rfl (lv_at hl 2 rfl) ?_
      refine va_get (D := D) (ci := 6) (v := .int (nI cv)) (C := RX6) (T := TX6) (N := 14) hx hb htg inX6 hown hK.1 hP 0 rfl rfl 2 (by decide) (htg _ kw_96) (fun _ h9 => h9) rfl dX6_keepOwn_15 ?_
      refine lv_bipush (v := 27) hx hb dX6_keepOwn_18 (by decide) ?_
      refine lv_icmp_ge (tgt := 78) hx hb dX6_keepOwn_20 (by decide) (fun c20 => ?_) (fun c20 => ?_)
      · have c20 := xge (k := 27) (by decide) c20
        have h8 := nI_toInt (n := cv) (by omega)
        have hP9 := hP.sub (ws' := [((a 0), .inr (6, [.ref (ex 0), .ref (a 1), .int (nI cv), .int 0, .int 0, .int 0, .int 0, .int 0, .long 0, .int 0, .int 0, .int 0, .int 0, .int 0])), ((a 1), .inl (T 2, 27, .inr (.inl fw)))]) [0, 1] rfl
        have hD9 := hD.sub (ws' := [((a 0), .inr (6, [.ref (ex 0), .ref (a 1), .int (nI cv), .int 0, .int 0, .int 0, .int 0, .int 0, .long 0, .int 0, .int 0, .int 0, .int 0, .int 0])), ((a 1), .inl (T 2, 27, .inr (.inl fw)))]) [0, 1] (by decide +kernel) rfl
        rw [hQ]
        exact W.vret hx hb hr (fun t ht hW => ⟨⟨(), rfl, trivial, ⟨xa [], xf [], xh [fw], xv [(nI cv)], by rw [ht]; exact hP9, hD9, ⟨by show (0 ≤ ((nI cv) : Int32).toInt ∧ ((nI cv) : Int32).toInt ≤ 27); have h8 := nI_toInt (n := cv) (by omega); omega, trivial⟩⟩⟩, hS.F ht⟩) hS.2.2 dX6_keepOwn_78
      · have c20 := xnge (k := 27) (by decide) c20
        have h8 := nI_toInt (n := cv) (by omega)
        refine lv_aload_n hx hb dX6_keepOwn_23 rfl (lv_at hl 3 rfl) ?_
        refine lv_iload hx hb dX6_keepOwn_24 (lv_at hl 0 rfl) ?_
        have hPc := hP.sub (ws' := (pre1_J0_charAt_5068e T (xa []) (xa []) (xf []) (xh []) (xv [(nI i)]))) [] rfl
        have hDc := hD.sub (ws' := (pre1_J0_charAt_5068e T (xa []) (xa []) (xf []) (xh []) (xv [(nI i)]))) [] (by decide) rfl
        have hFc := va_free (wc := (pre1_J0_charAt_5068e T (xa []) (xa []) (xf []) (xh []) (xv [(nI i)]))) hD hS hA [] rfl
        refine va_calli (va_runV (As := [.int (nI i)]) (rest := []) ⟨hx, hb, hml, hown, htg⟩ (c1_J0_charAt_5068e l D T (xa []) (xa []) (xf []) (xh []) (xv [(nI i)]) kK kV H.size (by show (0 ≤ ((nI i) : Int32).toInt ∧ ((nI i) : Int32).toInt ≤ 42); have h8 := nI_toInt (n := i) (by omega); omega)) ⟨callB_of 1 htg (xg_ok kw_57) rfl rfl rfl (htg _ kw_3) (htg _ kw_54) (by decide +kernel) ⟨by rw [hR]; exact Nat.le_of_ble_eq_true rfl, by rw [hR]; exact Nat.le_of_ble_eq_true rfl⟩, htg _ kw_55, htg _ kw_56⟩ (xpreVs hK hPc hDc hT hFc hS (xT.recv hT 0 (by decide) hS)) rfl rfl hl.1 rfl (lv_room (Nat.le_of_ble_eq_true rfl)) dX6_keepOwn_26 ⟨by rw [hR]; exact Nat.le_of_ble_eq_true rfl, by rw [hR]; exact Nat.le_of_ble_eq_true rfl⟩) hS (fun q _ h => hFc q h) hFc (fun r9 u t H1 locs ht hvm hw hB hz1 hk1 hS => ?_)
        obtain ⟨bk_2, fik_2, flk_2, vik_2, hP1, hD1, hGk_2⟩ := hB
        rw [ht] at hP1
        obtain ⟨hP, hD⟩ := va_join (wr := [((a 0), .inr (6, [.ref (ex 0), .ref (a 1), .int (nI cv), .int 0, .int 0, .int 0, .int 0, .int 0, .long 0, .int 0, .int 0, .int 0, .int 0, .int 0])), ((a 1), .inl (T 2, 27, .inr (.inl fw)))]) (w1 := []) hP hD [] [0, 1] rfl rfl (by decide) (by decide) hk1 hFc hP1 hD1
        obtain ⟨rk_2, er9⟩ : ∃ z, z = r9 := ⟨_, rfl⟩
        subst er9
        have nrk_2 := hw
        clear hPc hDc hFc hP1 hD1 hk1 hz1 hvm ht
        generalize H1 = H at hP hS ⊢
        replace hP : va_P D vwCl [((a 0), .inr (6, [.ref (ex 0), .ref (a 1), .int (nI cv), .int 0, .int 0, .int 0, .int 0, .int 0, .long 0, .int 0, .int 0, .int 0, .int 0, .int 0])), ((a 1), .inl (T 2, 27, .inr (.inl fw)))] H := hP
        replace hD : va_D A [((a 0), .inr (6, [.ref (ex 0), .ref (a 1), .int (nI cv), .int 0, .int 0, .int 0, .int 0, .int 0, .long 0, .int 0, .int 0, .int 0, .int 0, .int 0])), ((a 1), .inl (T 2, 27, .inr (.inl fw)))] := hD
        refine lv_bipush (v := 32) hx hb dX6_keepOwn_29 (by decide) ?_
        refine lv_icmp_ne (tgt := 59) hx hb dX6_keepOwn_31 (by decide) (fun c31 => ?_) (fun c31 => ?_)
        · have c31 := xne (k := 32) (by decide) c31
          refine lv_lload_n hx hb dX6_keepOwn_59 rfl (lv_at hl 1 rfl) ?_
          refine lv_bipush (v := 8) hx hb dX6_keepOwn_60 (by decide) ?_
          refine lv_lshl hx hb dX6_keepOwn_62 rfl ?_
          refine lv_topl (fun z62 ez62 => ?_)
          refine lv_aload_n hx hb dX6_keepOwn_63 rfl (lv_at hl 3 rfl) ?_
          refine lv_iload hx hb dX6_keepOwn_64 (lv_at hl 0 rfl) ?_
          have hPc := hP.sub (ws' := (pre1_J0_charAt_5068e T (xa []) (xa []) (xf []) (xh []) (xv [(nI i)]))) [] rfl
          have hDc := hD.sub (ws' := (pre1_J0_charAt_5068e T (xa []) (xa []) (xf []) (xh []) (xv [(nI i)]))) [] (by decide) rfl
          have hFc := va_free (wc := (pre1_J0_charAt_5068e T (xa []) (xa []) (xf []) (xh []) (xv [(nI i)]))) hD hS hA [] rfl
          refine va_calli (va_runV (As := [.int (nI i)]) (rest := [.long z62]) ⟨hx, hb, hml, hown, htg⟩ (c1_J0_charAt_5068e l D T (xa []) (xa []) (xf []) (xh []) (xv [(nI i)]) kK kV H.size (by show (0 ≤ ((nI i) : Int32).toInt ∧ ((nI i) : Int32).toInt ≤ 42); have h8 := nI_toInt (n := i) (by omega); omega)) ⟨callB_of 1 htg (xg_ok kw_57) rfl rfl rfl (htg _ kw_3) (htg _ kw_54) (by decide +kernel) ⟨by rw [hR]; exact Nat.le_of_ble_eq_true rfl, by rw [hR]; exact Nat.le_of_ble_eq_true rfl⟩, htg _ kw_55, htg _ kw_56⟩ (xpreVs hK hPc hDc hT hFc hS (xT.recv hT 0 (by decide) hS)) rfl rfl hl.1 rfl (lv_room (Nat.le_of_ble_eq_true rfl)) dX6_keepOwn_66 ⟨by rw [hR]; exact Nat.le_of_ble_eq_true rfl, by rw [hR]; exact Nat.le_of_ble_eq_true rfl⟩) hS (fun q _ h => hFc q h) hFc (fun r9 u t H1 locs ht hvm hw hB hz1 hk1 hS => ?_)
          obtain ⟨bk_3, fik_3, flk_3, vik_3, hP1, hD1, hGk_3⟩ := hB
          rw [ht] at hP1
          obtain ⟨hP, hD⟩ := va_join (wr := [((a 0), .inr (6, [.ref (ex 0), .ref (a 1), .int (nI cv), .int 0, .int 0, .int 0, .int 0, .int 0, .long 0, .int 0, .int 0, .int 0, .int 0, .int 0])), ((a 1), .inl (T 2, 27, .inr (.inl fw)))]) (w1 := []) hP hD [] [0, 1] rfl rfl (by decide) (by decide) hk1 hFc hP1 hD1
          obtain ⟨rk_3, er9⟩ : ∃ z, z = r9 := ⟨_, rfl⟩
          subst er9
          have nrk_3 := hw
          clear hPc hDc hFc hP1 hD1 hk1 hz1 hvm ht
          generalize H1 = H at hP hS ⊢
          replace hP : va_P D vwCl [((a 0), .inr (6, [.ref (ex 0), .ref (a 1), .int (nI cv), .int 0, .int 0, .int 0, .int 0, .int 0, .long 0, .int 0, .int 0, .int 0, .int 0, .int 0])), ((a 1), .inl (T 2, 27, .inr (.inl fw)))] H := hP
          replace hD : va_D A [((a 0), .inr (6, [.ref (ex 0), .ref (a 1), .int (nI cv), .int 0, .int 0, .int 0, .int 0, .int 0, .long 0, .int 0, .int 0, .int 0, .int 0, .int 0])), ((a 1), .inl (T 2, 27, .inr (.inl fw)))] := hD
          refine lv_i2l hx hb dX6_keepOwn_69 rfl ?_
          refine lv_topl (fun z69 ez69 => ?_)
          refine lv_lor hx hb dX6_keepOwn_70 ?_
          refine lv_topl (fun z70 ez70 => ?_)
          refine lv_lstore_n (lv' := [(2, .long z70), (4, .int (nI i)), (0, .ref (a 0)), (1, .ref (kK 0))]) hx hb dX6_keepOwn_71 rfl hl (by decide) rfl (fun ls hl => ?_)
          refine lv_iinc (v := (nI (i + 1))) (lv' := [(4, .int (nI (i + 1))), (2, .long z70), (0, .ref (a 0)), (1, .ref (kK 0))]) hx hb dX6_keepOwn_72 hl (k := 1) rfl (nI_add (i) 1) (by decide) rfl (fun ls hl => ?_)
          refine lv_goto (tgt := 5) hx hb dX6_keepOwn_75 (by decide) ?_
          exact ih (i + 1) z70 (cv) fw _ _ _ (by omega) (by omega) (hP.sub [0, 1] rfl) (hD.sub [0, 1] (by decide) rfl) hS (lv_sub hl [0, 1, 2, 3] rfl)
        · have c31 := xeq (k := 32) (by decide) c31
          refine lv_aload_n hx hb dX6_keepOwn_34 rfl (lv_at hl 2 rfl) ?_
          refine va_get (D := D) (ci := 6) (v := .ref (a 1)) (C := RX6) (T := TX6) (N := 14) hx hb htg inX6 hown hK.1 hP 0 rfl rfl 1 (by decide) (htg _ kw_95) (fun _ h9 => h9) rfl dX6_keepOwn_35 ?_
          refine lv_aload_n hx hb dX6_keepOwn_38 rfl (lv_at hl 2 rfl) ?_
          refine va_get (D := D) (ci := 6) (v := .int (nI cv)) (C := RX6) (T := TX6) (N := 14) hx hb htg inX6 hown hK.1 hP 0 rfl rfl 2 (by decide) (htg _ kw_96) (fun _ h9 => h9) rfl dX6_keepOwn_39 ?_
          refine lv_lload_n hx hb dX6_keepOwn_42 rfl (lv_at hl 1 rfl) ?_
          refine va_last hx hb hK.1 hP hD hS 1 2 rfl rfl (vp_in_nI (n := cv) (by omega) (by decide)) dX6_keepOwn_43 (fun H locs hP hD hS => ?_)
          obtain ⟨f43, hP, hD⟩ : ∃ f43 : Nat → Int64, va_P D vwCl [((a 0), .inr (6, [.ref (ex 0), .ref (a 1), .int (nI cv), .int 0, .int 0, .int 0, .int 0, .int 0, .long 0, .int 0, .int 0, .int 0, .int 0, .int 0])), ((a 1), .inl (T 2, 27, .inr (.inl f43)))] H ∧ va_D A [((a 0), .inr (6, [.ref (ex 0), .ref (a 1), .int (nI cv), .int 0, .int 0, .int 0, .int 0, .int 0, .long 0, .int 0, .int 0, .int 0, .int 0, .int 0])), ((a 1), .inl (T 2, 27, .inr (.inl f43)))] := ⟨vp_updL fw ((nI cv) : Int32).toNatClampNeg (pk : Int64), hP, hD⟩
          refine lv_aload_n hx hb dX6_keepOwn_44 rfl (lv_at hl 2 rfl) ?_
          refine lv_dup hx hb dX6_keepOwn_45 rfl ?_
          refine va_get (D := D) (ci := 6) (v := .int (nI cv)) (C := RX6) (T := TX6) (N := 14) hx hb htg inX6 hown hK.1 hP 0 rfl rfl 2 (by decide) (htg _ kw_96) (fun _ h9 => h9) rfl dX6_keepOwn_46 ?_
          refine lv_iconst (v := 1) hx hb dX6_keepOwn_49 (by decide) ?_
          refine lv_iadd hx hb dX6_keepOwn_50 ?_
          refine xz_i (nI (cv + 1)) (nI_add (cv) (1)) ?_
          refine va_put (D := D) (ci := 6) (v := .int (nI (cv + 1))) (ty := .int) (C := RX6) (T := TX6) (N := 14) hx hb htg inX6 tyX6 tyX6_ok nmX6 hown hK.1 hP hD hS 0 rfl rfl 2 (by decide) (htg _ kw_96) (fun _ h9 => h9) rfl (by decide +kernel) rfl rfl (Nat.le_of_ble_eq_true rfl) dX6_keepOwn_51 (fun H locs hP hD hS => ?_)
          replace hP : va_P D vwCl [((a 0), .inr (6, [.ref (ex 0), .ref (a 1), .int (nI (cv + 1)), .int 0, .int 0, .int 0, .int 0, .int 0, .long 0, .int 0, .int 0, .int 0, .int 0, .int 0])), ((a 1), .inl (T 2, 27, .inr (.inl f43)))] H := hP
          replace hD : va_D A [((a 0), .inr (6, [.ref (ex 0), .ref (a 1), .int (nI (cv + 1)), .int 0, .int 0, .int 0, .int 0, .int 0, .long 0, .int 0, .int 0, .int 0, .int 0, .int 0])), ((a 1), .inl (T 2, 27, .inr (.inl f43)))] := hD
          refine lv_lconst (v := 0) hx hb dX6_keepOwn_54 (by decide) ?_
          refine lv_lstore_n (lv' := [(2, .long 0), (4, .int (nI i)), (0, .ref (a 0)), (1, .ref (kK 0))]) hx hb dX6_keepOwn_55 rfl hl (by decide) rfl (fun ls hl => ?_)
          refine lv_goto (tgt := 72) hx hb dX6_keepOwn_56 (by decide) ?_
          refine lv_iinc (v := (nI (i + 1))) (lv' := [(4, .int (nI (i + 1))), (2, .long 0), (0, .ref (a 0)), (1, .ref (kK 0))]) hx hb dX6_keepOwn_72 hl (k := 1) rfl (nI_add (i) 1) (by decide) rfl (fun ls hl => ?_)
          refine lv_goto (tgt := 5) hx hb dX6_keepOwn_75 (by decide) ?_
          exact ih (i + 1) 0 (cv + 1) f43 _ _ _ (by omega) (by omega) (hP.sub [0, 1] rfl) (hD.sub [0, 1] (by decide) rfl) hS (lv_sub hl [0, 1, 2, 3] rfl)
  exact lp 43 0 _ 0 _ _ _ _ (by omega) (by decide) hP hD hS hl
abbrev pre1_J0_coder_7d493_2 (T : Nat → ClassId) (a ex : Nat → Nat) (fi : Nat → Nat → Int32) (fl : Nat → Nat → Int64) (vi : Nat → Int32) : va_W := []
set_option maxHeartbeats 4000000 in
set_option maxRecDepth 100000 in
theorem c1_J0_coder_7d493_2 (l : Launch) (D : va_G) (T : Nat → ClassId) (a ex : Nat → Nat) (fi : Nat → Nat → Int32) (fl : Nat → Nat → Int64) (vi : Nat → Int32) (kK kV : Nat → Nat) (sz : Nat) : Met l yJ0_coder_7d493 (xw yJ0_coder_7d493 cJ0_coder_7d493 1 (some .byte)) ({ frames := 0, cells := 0, slots := 0, locals := 0 }) (xPs D T kK kV [.ref (kK 1)] sz (pre1_J0_coder_7d493_2 T a ex fi fl vi)) (va_Qi (fun r (_ : Unit) => r = 0) (xB D (va_A (pre1_J0_coder_7d493_2 T a ex fi fl vi) sz) (fun _ => True) (fun b fj fm vj => [])) (va_A (pre1_J0_coder_7d493_2 T a ex fi fl vi) sz)) 0 0 (va_A (pre1_J0_coder_7d493_2 T a ex fi fl vi) sz) := by
  refine xofW (cc := cJ0_coder_7d493) (maxL := 1) (ret := (some .byte)) (by decide) rfl ?_
  intro p e s m args below meth c s₁ R Q hR hQ B hml hv
  obtain ⟨rfl, hsz, hP, hK, hD0, hT⟩ := hv
  have hx := B.exec
  have hb := B.bytes
  have hr := B.returns
  have hts := atoms_spec (ws := xw yJ0_coder_7d493 cJ0_coder_7d493 1 (some .byte)) B.pre
  have htg : ∀ w ∈ xg, w.before _ s = true := fun w h => hts w (List.mem_cons_of_mem _ h)
  have hown : s.vm.findClass RJ0 = some m.cls := findClass_of_methodNamed B.named
  have hlocks := B.notSynchronized
  subst hsz
  have hD := hD0.self (sz := s.heap.size)
  generalize hAe : va_A (pre1_J0_coder_7d493_2 T a ex fi fl vi) s.heap.size = A at hD hQ hT
  have hA : ∀ q : Nat, s.heap.size ≤ q → A q := fun q h => by rw [← hAe]; exact Or.inr h
  have hS : va_S A s.heap s.heap [] := va_S.rf
  replace hP : va_P D vwCl [] s.heap := hP
  replace hD : va_D A [] := hD
  have hl := lv_entry ([.ref (kK 1)]) (n := 1) (Nat.le_of_ble_eq_true rfl)
  rw [lg_entry_eq]
  generalize (lg_sl ([.ref (kK 1)]) ++ List.replicate (1 - (lg_sl ([.ref (kK 1)])).length) Slot.unset).toArray = ls at hl ⊢
  replace hl : lv_has ls 1 [(0, .ref (kK 1))] := hl
  refine va_gets hx hb hT.2.2.1 hS hown (htg _ kw_52) (fun _ h9 => h9) dJ0_coder_7d493_0 ?_
  refine lv_if_eq (tgt := 13) hx hb dJ0_coder_7d493_3 (by decide) (fun c => absurd c (by decide)) (fun _ => ?_)
  refine lv_aload_n hx hb dJ0_coder_7d493_6 rfl (lv_at hl 0 rfl) ?_
  refine vk_getf hx hb (hT.2.1 1 (by decide)).2.1 hS hown (htg _ kw_2031) (fun _ h9 => h9) dJ0_coder_7d493_7 ?_
  refine lv_goto (tgt := 14) hx hb dJ0_coder_7d493_10 (by decide) ?_
  have hP9 := hP.sub (ws' := []) [] rfl
  have hD9 := hD.sub (ws' := []) [] (by decide +kernel) rfl
  rw [hQ]
  exact W.zret (v := 0) hx hb hr rfl (fun t ht hW => ⟨⟨0, (), rfl, rfl, ⟨xa [], xf [], xh [], xv [], by rw [ht]; exact hP9, hD9, trivial⟩⟩, hS.F ht⟩) hS.2.2 dJ0_coder_7d493_14
abbrev pre1_J0_length_8abf5_2 (T : Nat → ClassId) (a ex : Nat → Nat) (fi : Nat → Nat → Int32) (fl : Nat → Nat → Int64) (vi : Nat → Int32) : va_W := []
set_option maxHeartbeats 4000000 in
set_option maxRecDepth 100000 in
theorem c1_J0_length_8abf5_2 (l : Launch) (D : va_G) (T : Nat → ClassId) (a ex : Nat → Nat) (fi : Nat → Nat → Int32) (fl : Nat → Nat → Int64) (vi : Nat → Int32) (kK kV : Nat → Nat) (sz : Nat) : Met l yJ0_length_8abf5 (xw yJ0_length_8abf5 cJ0_length_8abf5 1 (some .int)) ({ frames := 1, cells := 0, slots := 0, locals := 24 }) (xPs D T kK kV [.ref (kK 1)] sz (pre1_J0_length_8abf5_2 T a ex fi fl vi)) (va_Qi (fun r (_ : Unit) => r = 47) (xB D (va_A (pre1_J0_length_8abf5_2 T a ex fi fl vi) sz) (fun _ => True) (fun b fj fm vj => [])) (va_A (pre1_J0_length_8abf5_2 T a ex fi fl vi) sz)) 0 0 (va_A (pre1_J0_length_8abf5_2 T a ex fi fl vi) sz) := by
  refine xofW (cc := cJ0_length_8abf5) (maxL := 1) (ret := (some .int)) (by decide) rfl ?_
  intro p e s m args below meth c s₁ R Q hR hQ B hml hv
  obtain ⟨rfl, hsz, hP, hK, hD0, hT⟩ := hv
  have hx := B.exec
  have hb := B.bytes
  have hr := B.returns
  have hts := atoms_spec (ws := xw yJ0_length_8abf5 cJ0_length_8abf5 1 (some .int)) B.pre
  have htg : ∀ w ∈ xg, w.before _ s = true := fun w h => hts w (List.mem_cons_of_mem _ h)
  have hown : s.vm.findClass RJ0 = some m.cls := findClass_of_methodNamed B.named
  have hlocks := B.notSynchronized
  subst hsz
  have hD := hD0.self (sz := s.heap.size)
  generalize hAe : va_A (pre1_J0_length_8abf5_2 T a ex fi fl vi) s.heap.size = A at hD hQ hT
  have hA : ∀ q : Nat, s.heap.size ≤ q → A q := fun q h => by rw [← hAe]; exact Or.inr h
  have hS : va_S A s.heap s.heap [] := va_S.rf
  replace hP : va_P D vwCl [] s.heap := hP
  replace hD : va_D A [] := hD
  have hl := lv_entry ([.ref (kK 1)]) (n := 1) (Nat.le_of_ble_eq_true rfl)
  rw [lg_entry_eq]
  generalize (lg_sl ([.ref (kK 1)]) ++ List.replicate (1 - (lg_sl ([.ref (kK 1)])).length) Slot.unset).toArray = ls at hl ⊢
  replace hl : lv_has ls 1 [(0, .ref (kK 1))] := hl
  refine lv_aload_n hx hb dJ0_length_8abf5_0 rfl (lv_at hl 0 rfl) ?_
  refine vk_getf hx hb (hT.2.1 1 (by decide)).2.2.1 hS hown (htg _ kw_2030) (fun _ h9 => h9) dJ0_length_8abf5_1 ?_
  refine va_tlen (v := 47) hx hb (hT.2.1 1 (by decide)).2.2.2 hS (by decide) dJ0_length_8abf5_4 ?_
  refine lv_aload_n hx hb dJ0_length_8abf5_5 rfl (lv_at hl 0 rfl) ?_
  have hPc := hP.sub (ws' := (pre1_J0_coder_7d493_2 T (xa []) (xa []) (xf []) (xh []) (xv []))) [] rfl
  have hDc := hD.sub (ws' := (pre1_J0_coder_7d493_2 T (xa []) (xa []) (xf []) (xh []) (xv []))) [] (by decide) rfl
  have hFc := va_free (wc := (pre1_J0_coder_7d493_2 T (xa []) (xa []) (xf []) (xh []) (xv []))) hD hS hA [] rfl
  refine va_calli (va_runV (As := []) (rest := [.int 47]) ⟨hx, hb, hml, hown, htg⟩ (c1_J0_coder_7d493_2 l D T (xa []) (xa []) (xf []) (xh []) (xv []) kK kV s.heap.size) ⟨callB_of 0 htg (xg_ok kw_51) rfl rfl rfl (htg _ kw_3) (htg _ kw_48) (by decide +kernel) ⟨by rw [hR]; exact Nat.le_of_ble_eq_true rfl, by rw [hR]; exact Nat.le_of_ble_eq_true rfl⟩, htg _ kw_49, htg _ kw_50⟩ (xpreVs hK hPc hDc hT hFc hS (xT.recv hT 1 (by decide) hS)) rfl rfl hl.1 rfl (lv_room (Nat.le_of_ble_eq_true rfl)) dJ0_length_8abf5_6 ⟨by rw [hR]; exact Nat.le_of_ble_eq_true rfl, by rw [hR]; exact Nat.le_of_ble_eq_true rfl⟩) hS (fun q _ h => hFc q h) hFc (fun r9 u t H1 locs ht hvm hw hB hz1 hk1 hS => ?_)
  obtain ⟨bk, fik, flk, vik, hP1, hD1, hGk⟩ := hB
  rw [ht] at hP1
  obtain ⟨hP, hD⟩ := va_join (wr := []) (w1 := []) hP hD [] [] rfl rfl (by decide) (by decide) hk1 hFc hP1 hD1
  subst hw
  clear hPc hDc hFc hP1 hD1 hk1 hz1 hvm ht
  generalize H1 = H at hP hS ⊢
  replace hP : va_P D vwCl [] H := hP
  replace hD : va_D A [] := hD
  refine lv_ishr hx hb dJ0_length_8abf5_9 ?_
  refine xz_i 47 (by decide) ?_
  have hP9 := hP.sub (ws' := []) [] rfl
  have hD9 := hD.sub (ws' := []) [] (by decide +kernel) rfl
  rw [hQ]
  exact W.iret (v := 47) hx hb hr (fun t ht hW => ⟨⟨47, (), rfl, rfl, ⟨xa [], xf [], xh [], xv [], by rw [ht]; exact hP9, hD9, trivial⟩⟩, hS.F ht⟩) hS.2.2 dJ0_length_8abf5_10
abbrev pre1_J0_isLatin1_aae02_2 (T : Nat → ClassId) (a ex : Nat → Nat) (fi : Nat → Nat → Int32) (fl : Nat → Nat → Int64) (vi : Nat → Int32) : va_W := []
set_option maxHeartbeats 4000000 in
set_option maxRecDepth 100000 in
theorem c1_J0_isLatin1_aae02_2 (l : Launch) (D : va_G) (T : Nat → ClassId) (a ex : Nat → Nat) (fi : Nat → Nat → Int32) (fl : Nat → Nat → Int64) (vi : Nat → Int32) (kK kV : Nat → Nat) (sz : Nat) : Met l yJ0_isLatin1_aae02 (xw yJ0_isLatin1_aae02 cJ0_isLatin1_aae02 1 (some .boolean)) ({ frames := 0, cells := 0, slots := 0, locals := 0 }) (xPs D T kK kV [.ref (kK 1)] sz (pre1_J0_isLatin1_aae02_2 T a ex fi fl vi)) (va_Qi (fun r (_ : Unit) => r = 1) (xB D (va_A (pre1_J0_isLatin1_aae02_2 T a ex fi fl vi) sz) (fun _ => True) (fun b fj fm vj => [])) (va_A (pre1_J0_isLatin1_aae02_2 T a ex fi fl vi) sz)) 0 0 (va_A (pre1_J0_isLatin1_aae02_2 T a ex fi fl vi) sz) := by
  refine xofW (cc := cJ0_isLatin1_aae02) (maxL := 1) (ret := (some .boolean)) (by decide) rfl ?_
  intro p e s m args below meth c s₁ R Q hR hQ B hml hv
  obtain ⟨rfl, hsz, hP, hK, hD0, hT⟩ := hv
  have hx := B.exec
  have hb := B.bytes
  have hr := B.returns
  have hts := atoms_spec (ws := xw yJ0_isLatin1_aae02 cJ0_isLatin1_aae02 1 (some .boolean)) B.pre
  have htg : ∀ w ∈ xg, w.before _ s = true := fun w h => hts w (List.mem_cons_of_mem _ h)
  have hown : s.vm.findClass RJ0 = some m.cls := findClass_of_methodNamed B.named
  have hlocks := B.notSynchronized
  subst hsz
  have hD := hD0.self (sz := s.heap.size)
  generalize hAe : va_A (pre1_J0_isLatin1_aae02_2 T a ex fi fl vi) s.heap.size = A at hD hQ hT
  have hA : ∀ q : Nat, s.heap.size ≤ q → A q := fun q h => by rw [← hAe]; exact Or.inr h
  have hS : va_S A s.heap s.heap [] := va_S.rf
  replace hP : va_P D vwCl [] s.heap := hP
  replace hD : va_D A [] := hD
  have hl := lv_entry ([.ref (kK 1)]) (n := 1) (Nat.le_of_ble_eq_true rfl)
  rw [lg_entry_eq]
  generalize (lg_sl ([.ref (kK 1)]) ++ List.replicate (1 - (lg_sl ([.ref (kK 1)])).length) Slot.unset).toArray = ls at hl ⊢
  replace hl : lv_has ls 1 [(0, .ref (kK 1))] := hl
  refine va_gets hx hb hT.2.2.1 hS hown (htg _ kw_52) (fun _ h9 => h9) dJ0_isLatin1_aae02_0 ?_
  refine lv_if_eq (tgt := 17) hx hb dJ0_isLatin1_aae02_3 (by decide) (fun c => absurd c (by decide)) (fun _ => ?_)
  refine lv_aload_n hx hb dJ0_isLatin1_aae02_6 rfl (lv_at hl 0 rfl) ?_
  refine vk_getf hx hb (hT.2.1 1 (by decide)).2.1 hS hown (htg _ kw_2031) (fun _ h9 => h9) dJ0_isLatin1_aae02_7 ?_
  refine lv_if_ne (tgt := 17) hx hb dJ0_isLatin1_aae02_10 (by decide) (fun c => absurd (by decide) c) (fun _ => ?_)
  refine lv_iconst (v := 1) hx hb dJ0_isLatin1_aae02_13 (by decide) ?_
  refine lv_goto (tgt := 18) hx hb dJ0_isLatin1_aae02_14 (by decide) ?_
  have hP9 := hP.sub (ws' := []) [] rfl
  have hD9 := hD.sub (ws' := []) [] (by decide +kernel) rfl
  rw [hQ]
  exact W.zret (v := 1) hx hb hr rfl (fun t ht hW => ⟨⟨1, (), rfl, rfl, ⟨xa [], xf [], xh [], xv [], by rw [ht]; exact hP9, hD9, trivial⟩⟩, hS.F ht⟩) hS.2.2 dJ0_isLatin1_aae02_18
abbrev pre1_J3_checkIndex_8e157_3 (T : Nat → ClassId) (a ex : Nat → Nat) (fi : Nat → Nat → Int32) (fl : Nat → Nat → Int64) (vi : Nat → Int32) : va_W := []
set_option maxHeartbeats 4000000 in
set_option maxRecDepth 100000 in
theorem c1_J3_checkIndex_8e157_3 (l : Launch) (D : va_G) (T : Nat → ClassId) (a ex : Nat → Nat) (fi : Nat → Nat → Int32) (fl : Nat → Nat → Int64) (vi : Nat → Int32) (sz : Nat) (hd0 : (0 ≤ (vi 0).toInt ∧ (vi 0).toInt ≤ 46)) : Met l yJ3_checkIndex_8e157 (xw yJ3_checkIndex_8e157 cJ3_checkIndex_8e157 3 (some .int)) ({ frames := 0, cells := 0, slots := 0, locals := 0 }) (xP D T [.int (vi 0), .int 47, .null] sz (pre1_J3_checkIndex_8e157_3 T a ex fi fl vi)) (va_Qi (fun r (_ : Unit) => r = (vi 0)) (xB D (va_A (pre1_J3_checkIndex_8e157_3 T a ex fi fl vi) sz) (fun _ => True) (fun b fj fm vj => [])) (va_A (pre1_J3_checkIndex_8e157_3 T a ex fi fl vi) sz)) 0 0 (va_A (pre1_J3_checkIndex_8e157_3 T a ex fi fl vi) sz) := by
  refine xofW (cc := cJ3_checkIndex_8e157) (maxL := 3) (ret := (some .int)) (by decide) rfl ?_
  intro p e s m args below meth c s₁ R Q hR hQ B hml hv
  obtain ⟨rfl, hsz, hP, hK, hD0⟩ := hv
  have hx := B.exec
  have hb := B.bytes
  have hr := B.returns
  have hts := atoms_spec (ws := xw yJ3_checkIndex_8e157 cJ3_checkIndex_8e157 3 (some .int)) B.pre
  have htg : ∀ w ∈ xg, w.before _ s = true := fun w h => hts w (List.mem_cons_of_mem _ h)
  have hown : s.vm.findClass RJ3 = some m.cls := findClass_of_methodNamed B.named
  have hlocks := B.notSynchronized
  subst hsz
  have hD := hD0.self (sz := s.heap.size)
  generalize hAe : va_A (pre1_J3_checkIndex_8e157_3 T a ex fi fl vi) s.heap.size = A at hD hQ
  have hA : ∀ q : Nat, s.heap.size ≤ q → A q := fun q h => by rw [← hAe]; exact Or.inr h
  have hS : va_S A s.heap s.heap [] := va_S.rf
  replace hP : va_P D vwCl [] s.heap := hP
  replace hD : va_D A [] := hD
  have hl := lv_entry ([.int (vi 0), .int 47, .null]) (n := 3) (Nat.le_of_ble_eq_true rfl)
  rw [lg_entry_eq]
  generalize (lg_sl ([.int (vi 0), .int 47, .null]) ++ List.replicate (3 - (lg_sl ([.int (vi 0), .int 47, .null])).length) Slot.unset).toArray = ls at hl ⊢
  replace hl : lv_has ls 3 [(0, .int (vi 0)), (1, .int 47), (2, .null)] := hl
  refine lv_iload_n hx hb dJ3_checkIndex_8e157_0 rfl (lv_at hl 0 rfl) ?_
  refine lv_if_lt (tgt := 9) hx hb dJ3_checkIndex_8e157_1 (by decide) (fun c => by exfalso; have h9 := xlt (k := 0) (by decide) c; omega) (fun _ => ?_)
  refine lv_iload_n hx hb dJ3_checkIndex_8e157_4 rfl (lv_at hl 0 rfl) ?_
  refine lv_iload_n hx hb dJ3_checkIndex_8e157_5 rfl (lv_at hl 1 rfl) ?_
  refine lv_icmp_lt (tgt := 16) hx hb dJ3_checkIndex_8e157_6 (by decide) (fun _ => ?_) (fun c => by exfalso; have h9 := xnlt (k := 47) (by decide) c; omega)
  refine lv_iload_n hx hb dJ3_checkIndex_8e157_16 rfl (lv_at hl 0 rfl) ?_
  have hP9 := hP.sub (ws' := []) [] rfl
  have hD9 := hD.sub (ws' := []) [] (by decide +kernel) rfl
  rw [hQ]
  exact W.iret (v := (vi 0)) hx hb hr (fun t ht hW => ⟨⟨(vi 0), (), rfl, rfl, ⟨xa [], xf [], xh [], xv [], by rw [ht]; exact hP9, hD9, trivial⟩⟩, hS.F ht⟩) hS.2.2 dJ3_checkIndex_8e157_17
abbrev pre1_J3_checkIndex_8e157_4 (T : Nat → ClassId) (a ex : Nat → Nat) (fi : Nat → Nat → Int32) (fl : Nat → Nat → Int64) (vi : Nat → Int32) : va_W := []
set_option maxHeartbeats 4000000 in
set_option maxRecDepth 100000 in
theorem c1_J3_checkIndex_8e157_4 (l : Launch) (D : va_G) (T : Nat → ClassId) (a ex : Nat → Nat) (fi : Nat → Nat → Int32) (fl : Nat → Nat → Int64) (vi : Nat → Int32) (sz : Nat) (hd0 : (0 ≤ (vi 0).toInt ∧ (vi 0).toInt ≤ 46)) : Met l yJ3_checkIndex_8e157 (xw yJ3_checkIndex_8e157 cJ3_checkIndex_8e157 3 (some .int)) ({ frames := 0, cells := 0, slots := 0, locals := 0 }) (xP D T [.int (vi 0), .int 47, .ref (ex 0)] sz (pre1_J3_checkIndex_8e157_4 T a ex fi fl vi)) (va_Qi (fun r (_ : Unit) => r = (vi 0)) (xB D (va_A (pre1_J3_checkIndex_8e157_4 T a ex fi fl vi) sz) (fun _ => True) (fun b fj fm vj => [])) (va_A (pre1_J3_checkIndex_8e157_4 T a ex fi fl vi) sz)) 0 0 (va_A (pre1_J3_checkIndex_8e157_4 T a ex fi fl vi) sz) := by
  refine xofW (cc := cJ3_checkIndex_8e157) (maxL := 3) (ret := (some .int)) (by decide) rfl ?_
  intro p e s m args below meth c s₁ R Q hR hQ B hml hv
  obtain ⟨rfl, hsz, hP, hK, hD0⟩ := hv
  have hx := B.exec
  have hb := B.bytes
  have hr := B.returns
  have hts := atoms_spec (ws := xw yJ3_checkIndex_8e157 cJ3_checkIndex_8e157 3 (some .int)) B.pre
  have htg : ∀ w ∈ xg, w.before _ s = true := fun w h => hts w (List.mem_cons_of_mem _ h)
  have hown : s.vm.findClass RJ3 = some m.cls := findClass_of_methodNamed B.named
  have hlocks := B.notSynchronized
  subst hsz
  have hD := hD0.self (sz := s.heap.size)
  generalize hAe : va_A (pre1_J3_checkIndex_8e157_4 T a ex fi fl vi) s.heap.size = A at hD hQ
  have hA : ∀ q : Nat, s.heap.size ≤ q → A q := fun q h => by rw [← hAe]; exact Or.inr h
  have hS : va_S A s.heap s.heap [] := va_S.rf
  replace hP : va_P D vwCl [] s.heap := hP
  replace hD : va_D A [] := hD
  have hl := lv_entry ([.int (vi 0), .int 47, .ref (ex 0)]) (n := 3) (Nat.le_of_ble_eq_true rfl)
  rw [lg_entry_eq]
  generalize (lg_sl ([.int (vi 0), .int 47, .ref (ex 0)]) ++ List.replicate (3 - (lg_sl ([.int (vi 0), .int 47, .ref (ex 0)])).length) Slot.unset).toArray = ls at hl ⊢
  replace hl : lv_has ls 3 [(0, .int (vi 0)), (1, .int 47), (2, .ref (ex 0))] := hl
  refine lv_iload_n hx hb dJ3_checkIndex_8e157_0 rfl (lv_at hl 0 rfl) ?_
  refine lv_if_lt (tgt := 9) hx hb dJ3_checkIndex_8e157_1 (by decide) (fun c => by exfalso; have h9 := xlt (k := 0) (by decide) c; omega) (fun _ => ?_)
  refine lv_iload_n hx hb dJ3_checkIndex_8e157_4 rfl (lv_at hl 0 rfl) ?_
  refine lv_iload_n hx hb dJ3_checkIndex_8e157_5 rfl (lv_at hl 1 rfl) ?_
  refine lv_icmp_lt (tgt := 16) hx hb dJ3_checkIndex_8e157_6 (by decide) (fun _ => ?_) (fun c => by exfalso; have h9 := xnlt (k := 47) (by decide) c; omega)
  refine lv_iload_n hx hb dJ3_checkIndex_8e157_16 rfl (lv_at hl 0 rfl) ?_
  have hP9 := hP.sub (ws' := []) [] rfl
  have hD9 := hD.sub (ws' := []) [] (by decide +kernel) rfl
  rw [hQ]
  exact W.iret (v := (vi 0)) hx hb hr (fun t ht hW => ⟨⟨(vi 0), (), rfl, rfl, ⟨xa [], xf [], xh [], xv [], by rw [ht]; exact hP9, hD9, trivial⟩⟩, hS.F ht⟩) hS.2.2 dJ3_checkIndex_8e157_17
abbrev pre1_J0_checkIndex_df160_2 (T : Nat → ClassId) (a ex : Nat → Nat) (fi : Nat → Nat → Int32) (fl : Nat → Nat → Int64) (vi : Nat → Int32) : va_W := []
set_option maxHeartbeats 4000000 in
set_option maxRecDepth 100000 in
theorem c1_J0_checkIndex_df160_2 (l : Launch) (D : va_G) (T : Nat → ClassId) (a ex : Nat → Nat) (fi : Nat → Nat → Int32) (fl : Nat → Nat → Int64) (vi : Nat → Int32) (kK kV : Nat → Nat) (sz : Nat) (hd0 : (0 ≤ (vi 0).toInt ∧ (vi 0).toInt ≤ 46)) : Met l yJ0_checkIndex_df160 (xw yJ0_checkIndex_df160 cJ0_checkIndex_df160 2 none) ({ frames := 1, cells := 0, slots := 0, locals := 26 }) (xPs D T kK kV [.int (vi 0), .int 47] sz (pre1_J0_checkIndex_df160_2 T a ex fi fl vi)) (va_Qv (fun _ : Unit => True) (xB D (va_A (pre1_J0_checkIndex_df160_2 T a ex fi fl vi) sz) (fun _ => True) (fun b fj fm vj => [])) (va_A (pre1_J0_checkIndex_df160_2 T a ex fi fl vi) sz)) 0 0 (va_A (pre1_J0_checkIndex_df160_2 T a ex fi fl vi) sz) := by
  refine xofW (cc := cJ0_checkIndex_df160) (maxL := 2) (ret := none) (by decide) rfl ?_
  intro p e s m args below meth c s₁ R Q hR hQ B hml hv
  obtain ⟨rfl, hsz, hP, hK, hD0, hT⟩ := hv
  have hx := B.exec
  have hb := B.bytes
  have hr := B.returns
  have hts := atoms_spec (ws := xw yJ0_checkIndex_df160 cJ0_checkIndex_df160 2 none) B.pre
  have htg : ∀ w ∈ xg, w.before _ s = true := fun w h => hts w (List.mem_cons_of_mem _ h)
  have hown : s.vm.findClass RJ0 = some m.cls := findClass_of_methodNamed B.named
  have hlocks := B.notSynchronized
  subst hsz
  have hD := hD0.self (sz := s.heap.size)
  generalize hAe : va_A (pre1_J0_checkIndex_df160_2 T a ex fi fl vi) s.heap.size = A at hD hQ hT
  have hA : ∀ q : Nat, s.heap.size ≤ q → A q := fun q h => by rw [← hAe]; exact Or.inr h
  have hS : va_S A s.heap s.heap [] := va_S.rf
  replace hP : va_P D vwCl [] s.heap := hP
  replace hD : va_D A [] := hD
  have hl := lv_entry ([.int (vi 0), .int 47]) (n := 2) (Nat.le_of_ble_eq_true rfl)
  rw [lg_entry_eq]
  generalize (lg_sl ([.int (vi 0), .int 47]) ++ List.replicate (2 - (lg_sl ([.int (vi 0), .int 47])).length) Slot.unset).toArray = ls at hl ⊢
  replace hl : lv_has ls 2 [(0, .int (vi 0)), (1, .int 47)] := hl
  refine lv_iload_n hx hb dJ0_checkIndex_df160_0 rfl (lv_at hl 0 rfl) ?_
  refine lv_iload_n hx hb dJ0_checkIndex_df160_1 rfl (lv_at hl 1 rfl) ?_
  rcases hT.2.2.2 with hz9 | ⟨z9, hz9⟩
  · refine va_gets hx hb hz9 hS hown (htg _ kw_68) (fun _ h9 => h9) dJ0_checkIndex_df160_2 ?_
    have hPc := hP.sub (ws' := (pre1_J3_checkIndex_8e157_3 T (xa []) (xa []) (xf []) (xh []) (xv [(vi 0)]))) [] rfl
    have hDc := hD.sub (ws' := (pre1_J3_checkIndex_8e157_3 T (xa []) (xa []) (xf []) (xh []) (xv [(vi 0)]))) [] (by decide) rfl
    have hFc := va_free (wc := (pre1_J3_checkIndex_8e157_3 T (xa []) (xa []) (xf []) (xh []) (xv [(vi 0)]))) hD hS hA [] rfl
    refine va_calli (va_runS (As := [.int (vi 0), .int 47, .null]) (rest := []) ⟨hx, hb, hml, hown, htg⟩ (c1_J3_checkIndex_8e157_3 l D T (xa []) (xa []) (xf []) (xh []) (xv [(vi 0)]) s.heap.size (by show (0 ≤ ((vi 0) : Int32).toInt ∧ ((vi 0) : Int32).toInt ≤ 46); omega)) ⟨callB_of 3 htg (xg_ok kw_72) rfl rfl rfl (htg _ kw_5) (htg _ kw_70) (by decide +kernel) ⟨by rw [hR]; exact Nat.le_of_ble_eq_true rfl, by rw [hR]; exact Nat.le_of_ble_eq_true rfl⟩, htg _ kw_71⟩ (xpreS hK hPc hDc) rfl rfl hl.1 rfl (lv_room (Nat.le_of_ble_eq_true rfl)) dJ0_checkIndex_df160_5 ⟨by rw [hR]; exact Nat.le_of_ble_eq_true rfl, by rw [hR]; exact Nat.le_of_ble_eq_true rfl⟩) hS (fun q _ h => hFc q h) hFc (fun r9 u t H1 locs ht hvm hw hB hz1 hk1 hS => ?_)
    obtain ⟨bk, fik, flk, vik, hP1, hD1, hGk⟩ := hB
    rw [ht] at hP1
    obtain ⟨hP, hD⟩ := va_join (wr := []) (w1 := []) hP hD [] [] rfl rfl (by decide) (by decide) hk1 hFc hP1 hD1
    subst hw
    clear hPc hDc hFc hP1 hD1 hk1 hz1 hvm ht
    generalize H1 = H at hP hS ⊢
    replace hP : va_P D vwCl [] H := hP
    replace hD : va_D A [] := hD
    refine lv_pop hx hb dJ0_checkIndex_df160_8 rfl ?_
    have hP9 := hP.sub (ws' := []) [] rfl
    have hD9 := hD.sub (ws' := []) [] (by decide +kernel) rfl
    rw [hQ]
    exact W.vret hx hb hr (fun t ht hW => ⟨⟨(), rfl, trivial, ⟨xa [], xf [], xh [], xv [], by rw [ht]; exact hP9, hD9, trivial⟩⟩, hS.F ht⟩) hS.2.2 dJ0_checkIndex_df160_9
  · refine va_gets hx hb hz9 hS hown (htg _ kw_68) (fun _ h9 => h9) dJ0_checkIndex_df160_2 ?_
    have hPc := hP.sub (ws' := (pre1_J3_checkIndex_8e157_4 T (xa []) (xa [z9]) (xf []) (xh []) (xv [(vi 0)]))) [] rfl
    have hDc := hD.sub (ws' := (pre1_J3_checkIndex_8e157_4 T (xa []) (xa [z9]) (xf []) (xh []) (xv [(vi 0)]))) [] (by decide) rfl
    have hFc := va_free (wc := (pre1_J3_checkIndex_8e157_4 T (xa []) (xa [z9]) (xf []) (xh []) (xv [(vi 0)]))) hD hS hA [] rfl
    refine va_calli (va_runS (As := [.int (vi 0), .int 47, .ref z9]) (rest := []) ⟨hx, hb, hml, hown, htg⟩ (c1_J3_checkIndex_8e157_4 l D T (xa []) (xa [z9]) (xf []) (xh []) (xv [(vi 0)]) s.heap.size (by show (0 ≤ ((vi 0) : Int32).toInt ∧ ((vi 0) : Int32).toInt ≤ 46); omega)) ⟨callB_of 3 htg (xg_ok kw_72) rfl rfl rfl (htg _ kw_5) (htg _ kw_70) (by decide +kernel) ⟨by rw [hR]; exact Nat.le_of_ble_eq_true rfl, by rw [hR]; exact Nat.le_of_ble_eq_true rfl⟩, htg _ kw_71⟩ (xpreS hK hPc hDc) rfl rfl hl.1 rfl (lv_room (Nat.le_of_ble_eq_true rfl)) dJ0_checkIndex_df160_5 ⟨by rw [hR]; exact Nat.le_of_ble_eq_true rfl, by rw [hR]; exact Nat.le_of_ble_eq_true rfl⟩) hS (fun q _ h => hFc q h) hFc (fun r9 u t H1 locs ht hvm hw hB hz1 hk1 hS => ?_)
    obtain ⟨bk_1, fik_1, flk_1, vik_1, hP1, hD1, hGk_1⟩ := hB
    rw [ht] at hP1
    obtain ⟨hP, hD⟩ := va_join (wr := []) (w1 := []) hP hD [] [] rfl rfl (by decide) (by decide) hk1 hFc hP1 hD1
    subst hw
    clear hPc hDc hFc hP1 hD1 hk1 hz1 hvm ht
    generalize H1 = H at hP hS ⊢
    replace hP : va_P D vwCl [] H := hP
    replace hD : va_D A [] := hD
    refine lv_pop hx hb dJ0_checkIndex_df160_8 rfl ?_
    have hP9 := hP.sub (ws' := []) [] rfl
    have hD9 := hD.sub (ws' := []) [] (by decide +kernel) rfl
    rw [hQ]
    exact W.vret hx hb hr (fun t ht hW => ⟨⟨(), rfl, trivial, ⟨xa [], xf [], xh [], xv [], by rw [ht]; exact hP9, hD9, trivial⟩⟩, hS.F ht⟩) hS.2.2 dJ0_checkIndex_df160_9
abbrev pre1_J1_charAt_3b067_2 (T : Nat → ClassId) (a ex : Nat → Nat) (fi : Nat → Nat → Int32) (fl : Nat → Nat → Int64) (vi : Nat → Int32) : va_W := []
set_option maxHeartbeats 4000000 in
set_option maxRecDepth 100000 in
theorem c1_J1_charAt_3b067_2 (l : Launch) (D : va_G) (T : Nat → ClassId) (a ex : Nat → Nat) (fi : Nat → Nat → Int32) (fl : Nat → Nat → Int64) (vi : Nat → Int32) (kK kV : Nat → Nat) (sz : Nat) (hd0 : (0 ≤ (vi 0).toInt ∧ (vi 0).toInt ≤ 46)) : Met l yJ1_charAt_3b067 (xw yJ1_charAt_3b067 cJ1_charAt_3b067 2 (some .char)) ({ frames := 2, cells := 0, slots := 0, locals := 51 }) (xPs D T kK kV [.ref (kV 1), .int (vi 0)] sz (pre1_J1_charAt_3b067_2 T a ex fi fl vi)) (va_Qi (fun r (_ : Unit) => narrow .char (.int r) = .int r) (xB D (va_A (pre1_J1_charAt_3b067_2 T a ex fi fl vi) sz) (fun _ => True) (fun b fj fm vj => [])) (va_A (pre1_J1_charAt_3b067_2 T a ex fi fl vi) sz)) 0 0 (va_A (pre1_J1_charAt_3b067_2 T a ex fi fl vi) sz) := by
  refine xofW (cc := cJ1_charAt_3b067) (maxL := 2) (ret := (some .char)) (by decide) rfl ?_
  intro p e s m args below meth c s₁ R Q hR hQ B hml hv
  obtain ⟨rfl, hsz, hP, hK, hD0, hT⟩ := hv
  have hx := B.exec
  have hb := B.bytes
  have hr := B.returns
  have hts := atoms_spec (ws := xw yJ1_charAt_3b067 cJ1_charAt_3b067 2 (some .char)) B.pre
  have htg : ∀ w ∈ xg, w.before _ s = true := fun w h => hts w (List.mem_cons_of_mem _ h)
  have hown : s.vm.findClass RJ1 = some m.cls := findClass_of_methodNamed B.named
  have hlocks := B.notSynchronized
  subst hsz
  have hD := hD0.self (sz := s.heap.size)
  generalize hAe : va_A (pre1_J1_charAt_3b067_2 T a ex fi fl vi) s.heap.size = A at hD hQ hT
  have hA : ∀ q : Nat, s.heap.size ≤ q → A q := fun q h => by rw [← hAe]; exact Or.inr h
  have hS : va_S A s.heap s.heap [] := va_S.rf
  replace hP : va_P D vwCl [] s.heap := hP
  replace hD : va_D A [] := hD
  have hl := lv_entry ([.ref (kV 1), .int (vi 0)]) (n := 2) (Nat.le_of_ble_eq_true rfl)
  rw [lg_entry_eq]
  generalize (lg_sl ([.ref (kV 1), .int (vi 0)]) ++ List.replicate (2 - (lg_sl ([.ref (kV 1), .int (vi 0)])).length) Slot.unset).toArray = ls at hl ⊢
  replace hl : lv_has ls 2 [(0, .ref (kV 1)), (1, .int (vi 0))] := hl
  refine lv_iload_n hx hb dJ1_charAt_3b067_0 rfl (lv_at hl 1 rfl) ?_
  refine lv_aload_n hx hb dJ1_charAt_3b067_1 rfl (lv_at hl 0 rfl) ?_
  refine va_tlen (v := 47) hx hb (hT.2.1 1 (by decide)).2.2.2 hS (by decide) dJ1_charAt_3b067_2 ?_
  have hPc := hP.sub (ws' := (pre1_J0_checkIndex_df160_2 T (xa []) (xa []) (xf []) (xh []) (xv [(vi 0)]))) [] rfl
  have hDc := hD.sub (ws' := (pre1_J0_checkIndex_df160_2 T (xa []) (xa []) (xf []) (xh []) (xv [(vi 0)]))) [] (by decide) rfl
  have hFc := va_free (wc := (pre1_J0_checkIndex_df160_2 T (xa []) (xa []) (xf []) (xh []) (xv [(vi 0)]))) hD hS hA [] rfl
  refine va_callv (va_runS (As := [.int (vi 0), .int 47]) (rest := []) ⟨hx, hb, hml, hown, htg⟩ (c1_J0_checkIndex_df160_2 l D T (xa []) (xa []) (xf []) (xh []) (xv [(vi 0)]) kK kV s.heap.size (by show (0 ≤ ((vi 0) : Int32).toInt ∧ ((vi 0) : Int32).toInt ≤ 46); omega)) ⟨callB_of 2 htg (xg_ok kw_67) rfl rfl rfl (htg _ kw_3) (htg _ kw_65) (by decide +kernel) ⟨by rw [hR]; exact Nat.le_of_ble_eq_true rfl, by rw [hR]; exact Nat.le_of_ble_eq_true rfl⟩, htg _ kw_66⟩ (xpreSs hK hPc hDc hT hFc hS) rfl rfl hl.1 rfl (lv_room (Nat.le_of_ble_eq_true rfl)) dJ1_charAt_3b067_3 ⟨by rw [hR]; exact Nat.le_of_ble_eq_true rfl, by rw [hR]; exact Nat.le_of_ble_eq_true rfl⟩) hS (fun q _ h => hFc q h) hFc (fun u t H1 locs ht hvm hw hB hz1 hk1 hS => ?_)
  obtain ⟨bk, fik, flk, vik, hP1, hD1, hGk⟩ := hB
  rw [ht] at hP1
  obtain ⟨hP, hD⟩ := va_join (wr := []) (w1 := []) hP hD [] [] rfl rfl (by decide) (by decide) hk1 hFc hP1 hD1
  clear hPc hDc hFc hP1 hD1 hk1 hz1 hvm ht hw
  generalize H1 = H at hP hS ⊢
  replace hP : va_P D vwCl [] H := hP
  replace hD : va_D A [] := hD
  refine lv_aload_n hx hb dJ1_charAt_3b067_6 rfl (lv_at hl 0 rfl) ?_
  refine lv_iload_n hx hb dJ1_charAt_3b067_7 rfl (lv_at hl 1 rfl) ?_
  refine va_tb hx hb (hT.2.1 1 (by decide)).2.2.2 hS (show vp_in (vi 0) 47 from (vp_in_iff.mpr (by omega))) rfl dJ1_charAt_3b067_8 ?_
  refine lv_topi (fun z8 _ => ?_)
  refine lv_sipush (v := 255) hx hb dJ1_charAt_3b067_9 (by decide) ?_
  refine lv_iand hx hb dJ1_charAt_3b067_12 ?_
  refine lv_topi (fun z12 _ => ?_)
  refine lv_i2c hx hb dJ1_charAt_3b067_13 rfl ?_
  refine lv_topi (fun z13 ez13 => ?_)
  have nz13 : narrow .char (.int z13) = .int z13 := by rw [ez13]; exact pk_nc _
  have hP9 := hP.sub (ws' := []) [] rfl
  have hD9 := hD.sub (ws' := []) [] (by decide +kernel) rfl
  rw [hQ]
  exact W.zret (v := z13) hx hb hr nz13 (fun t ht hW => ⟨⟨z13, (), rfl, nz13, ⟨xa [], xf [], xh [], xv [], by rw [ht]; exact hP9, hD9, trivial⟩⟩, hS.F ht⟩) hS.2.2 dJ1_charAt_3b067_14
abbrev pre1_J0_charAt_5068e_2 (T : Nat → ClassId) (a ex : Nat → Nat) (fi : Nat → Nat → Int32) (fl : Nat → Nat → Int64) (vi : Nat → Int32) : va_W := []
set_option maxHeartbeats 4000000 in
set_option maxRecDepth 100000 in
theorem c1_J0_charAt_5068e_2 (l : Launch) (D : va_G) (T : Nat → ClassId) (a ex : Nat → Nat) (fi : Nat → Nat → Int32) (fl : Nat → Nat → Int64) (vi : Nat → Int32) (kK kV : Nat → Nat) (sz : Nat) (hd0 : (0 ≤ (vi 0).toInt ∧ (vi 0).toInt ≤ 46)) : Met l yJ0_charAt_5068e (xw yJ0_charAt_5068e cJ0_charAt_5068e 2 (some .char)) ({ frames := 3, cells := 0, slots := 0, locals := 76 }) (xPs D T kK kV [.ref (kK 1), .int (vi 0)] sz (pre1_J0_charAt_5068e_2 T a ex fi fl vi)) (va_Qi (fun r (_ : Unit) => narrow .char (.int r) = .int r) (xB D (va_A (pre1_J0_charAt_5068e_2 T a ex fi fl vi) sz) (fun _ => True) (fun b fj fm vj => [])) (va_A (pre1_J0_charAt_5068e_2 T a ex fi fl vi) sz)) 0 0 (va_A (pre1_J0_charAt_5068e_2 T a ex fi fl vi) sz) := by
  refine xofW (cc := cJ0_charAt_5068e) (maxL := 2) (ret := (some .char)) (by decide) rfl ?_
  intro p e s m args below meth c s₁ R Q hR hQ B hml hv
  obtain ⟨rfl, hsz, hP, hK, hD0, hT⟩ := hv
  have hx := B.exec
  have hb := B.bytes
  have hr := B.returns
  have hts := atoms_spec (ws := xw yJ0_charAt_5068e cJ0_charAt_5068e 2 (some .char)) B.pre
  have htg : ∀ w ∈ xg, w.before _ s = true := fun w h => hts w (List.mem_cons_of_mem _ h)
  have hown : s.vm.findClass RJ0 = some m.cls := findClass_of_methodNamed B.named
  have hlocks := B.notSynchronized
  subst hsz
  have hD := hD0.self (sz := s.heap.size)
  generalize hAe : va_A (pre1_J0_charAt_5068e_2 T a ex fi fl vi) s.heap.size = A at hD hQ hT
  have hA : ∀ q : Nat, s.heap.size ≤ q → A q := fun q h => by rw [← hAe]; exact Or.inr h
  have hS : va_S A s.heap s.heap [] := va_S.rf
  replace hP : va_P D vwCl [] s.heap := hP
  replace hD : va_D A [] := hD
  have hl := lv_entry ([.ref (kK 1), .int (vi 0)]) (n := 2) (Nat.le_of_ble_eq_true rfl)
  rw [lg_entry_eq]
  generalize (lg_sl ([.ref (kK 1), .int (vi 0)]) ++ List.replicate (2 - (lg_sl ([.ref (kK 1), .int (vi 0)])).length) Slot.unset).toArray = ls at hl ⊢
  replace hl : lv_has ls 2 [(0, .ref (kK 1)), (1, .int (vi 0))] := hl
  refine lv_aload_n hx hb dJ0_charAt_5068e_0 rfl (lv_at hl 0 rfl) ?_
  have hPc := hP.sub (ws' := (pre1_J0_isLatin1_aae02_2 T (xa []) (xa []) (xf []) (xh []) (xv []))) [] rfl
  have hDc := hD.sub (ws' := (pre1_J0_isLatin1_aae02_2 T (xa []) (xa []) (xf []) (xh []) (xv []))) [] (by decide) rfl
  have hFc := va_free (wc := (pre1_J0_isLatin1_aae02_2 T (xa []) (xa []) (xf []) (xh []) (xv []))) hD hS hA [] rfl
  refine va_calli (va_runV (As := []) (rest := []) ⟨hx, hb, hml, hown, htg⟩ (c1_J0_isLatin1_aae02_2 l D T (xa []) (xa []) (xf []) (xh []) (xv []) kK kV s.heap.size) ⟨callB_of 0 htg (xg_ok kw_61) rfl rfl rfl (htg _ kw_3) (htg _ kw_58) (by decide +kernel) ⟨by rw [hR]; exact Nat.le_of_ble_eq_true rfl, by rw [hR]; exact Nat.le_of_ble_eq_true rfl⟩, htg _ kw_59, htg _ kw_60⟩ (xpreVs hK hPc hDc hT hFc hS (xT.recv hT 1 (by decide) hS)) rfl rfl hl.1 rfl (lv_room (Nat.le_of_ble_eq_true rfl)) dJ0_charAt_5068e_1 ⟨by rw [hR]; exact Nat.le_of_ble_eq_true rfl, by rw [hR]; exact Nat.le_of_ble_eq_true rfl⟩) hS (fun q _ h => hFc q h) hFc (fun r9 u t H1 locs ht hvm hw hB hz1 hk1 hS => ?_)
  obtain ⟨bk, fik, flk, vik, hP1, hD1, hGk⟩ := hB
  rw [ht] at hP1
  obtain ⟨hP, hD⟩ := va_join (wr := []) (w1 := []) hP hD [] [] rfl rfl (by decide) (by decide) hk1 hFc hP1 hD1
  subst hw
  clear hPc hDc hFc hP1 hD1 hk1 hz1 hvm ht
  generalize H1 = H at hP hS ⊢
  replace hP : va_P D vwCl [] H := hP
  replace hD : va_D A [] := hD
  refine lv_if_eq (tgt := 16) hx hb dJ0_charAt_5068e_4 (by decide) (fun c => absurd c (by decide)) (fun _ => ?_)
  refine lv_aload_n hx hb dJ0_charAt_5068e_7 rfl (lv_at hl 0 rfl) ?_
  refine vk_getf hx hb (hT.2.1 1 (by decide)).2.2.1 hS hown (htg _ kw_2030) (fun _ h9 => h9) dJ0_charAt_5068e_8 ?_
  refine lv_iload_n hx hb dJ0_charAt_5068e_11 rfl (lv_at hl 1 rfl) ?_
  have hPc := hP.sub (ws' := (pre1_J1_charAt_3b067_2 T (xa []) (xa []) (xf []) (xh []) (xv [(vi 0)]))) [] rfl
  have hDc := hD.sub (ws' := (pre1_J1_charAt_3b067_2 T (xa []) (xa []) (xf []) (xh []) (xv [(vi 0)]))) [] (by decide) rfl
  have hFc := va_free (wc := (pre1_J1_charAt_3b067_2 T (xa []) (xa []) (xf []) (xh []) (xv [(vi 0)]))) hD hS hA [] rfl
  refine va_calli (va_runS (As := [.ref (kV 1), .int (vi 0)]) (rest := []) ⟨hx, hb, hml, hown, htg⟩ (c1_J1_charAt_3b067_2 l D T (xa []) (xa []) (xf []) (xh []) (xv [(vi 0)]) kK kV H.size (by show (0 ≤ ((vi 0) : Int32).toInt ∧ ((vi 0) : Int32).toInt ≤ 46); omega)) ⟨callB_of 2 htg (xg_ok kw_64) rfl rfl rfl (htg _ kw_4) (htg _ kw_62) (by decide +kernel) ⟨by rw [hR]; exact Nat.le_of_ble_eq_true rfl, by rw [hR]; exact Nat.le_of_ble_eq_true rfl⟩, htg _ kw_63⟩ (xpreSs hK hPc hDc hT hFc hS) rfl rfl hl.1 rfl (lv_room (Nat.le_of_ble_eq_true rfl)) dJ0_charAt_5068e_12 ⟨by rw [hR]; exact Nat.le_of_ble_eq_true rfl, by rw [hR]; exact Nat.le_of_ble_eq_true rfl⟩) hS (fun q _ h => hFc q h) hFc (fun r9 u t H1 locs ht hvm hw hB hz1 hk1 hS => ?_)
  obtain ⟨bk_1, fik_1, flk_1, vik_1, hP1, hD1, hGk_1⟩ := hB
  rw [ht] at hP1
  obtain ⟨hP, hD⟩ := va_join (wr := []) (w1 := []) hP hD [] [] rfl rfl (by decide) (by decide) hk1 hFc hP1 hD1
  obtain ⟨rk_1, er9⟩ : ∃ z, z = r9 := ⟨_, rfl⟩
  subst er9
  have nrk_1 := hw
  clear hPc hDc hFc hP1 hD1 hk1 hz1 hvm ht
  generalize H1 = H at hP hS ⊢
  replace hP : va_P D vwCl [] H := hP
  replace hD : va_D A [] := hD
  have hP9 := hP.sub (ws' := []) [] rfl
  have hD9 := hD.sub (ws' := []) [] (by decide +kernel) rfl
  rw [hQ]
  exact W.zret (v := rk_1) hx hb hr nrk_1 (fun t ht hW => ⟨⟨rk_1, (), rfl, nrk_1, ⟨xa [], xf [], xh [], xv [], by rw [ht]; exact hP9, hD9, trivial⟩⟩, hS.F ht⟩) hS.2.2 dJ0_charAt_5068e_15
abbrev pre1_X6_keepOwn_2 (T : Nat → ClassId) (a ex : Nat → Nat) (fi : Nat → Nat → Int32) (fl : Nat → Nat → Int64) (vi : Nat → Int32) : va_W := [((a 0), .inr (6, [.ref (ex 0), .ref (a 1), .int (vi 0), .int 0, .int 0, .int 0, .int 0, .int 0, .long 0, .int 0, .int 0, .int 0, .int 0, .int 0])), ((a 1), .inl (T 2, 27, .inr (.inl (fl 0))))]
set_option maxHeartbeats 4000000 in
set_option maxRecDepth 100000 in
theorem c1_X6_keepOwn_2 (l : Launch) (D : va_G) (T : Nat → ClassId) (a ex : Nat → Nat) (fi : Nat → Nat → Int32) (fl : Nat → Nat → Int64) (vi : Nat → Int32) (kK kV : Nat → Nat) (sz : Nat) (hd0 : (0 ≤ (vi 0).toInt ∧ (vi 0).toInt ≤ 27)) : Met l yX6_keepOwn (xw yX6_keepOwn cX6_keepOwn 5 none) ({ frames := 4, cells := 0, slots := 0, locals := 101 }) (xPs D T kK kV [.ref (a 0), .ref (kK 1)] sz (pre1_X6_keepOwn_2 T a ex fi fl vi)) (va_Qv (fun _ : Unit => True) (xB D (va_A (pre1_X6_keepOwn_2 T a ex fi fl vi) sz) (fun vj => ((0 ≤ (vj 0).toInt ∧ (vj 0).toInt ≤ 27)) ∧ True) (fun b fj fm vj => [((a 0), .inr (6, [.ref (ex 0), .ref (a 1), .int (vj 0), .int 0, .int 0, .int 0, .int 0, .int 0, .long 0, .int 0, .int 0, .int 0, .int 0, .int 0])), ((a 1), .inl (T 2, 27, .inr (.inl (fm 0))))])) (va_A (pre1_X6_keepOwn_2 T a ex fi fl vi) sz)) 0 0 (va_A (pre1_X6_keepOwn_2 T a ex fi fl vi) sz) := by
  refine xofW (cc := cX6_keepOwn) (maxL := 5) (ret := none) (by decide) rfl ?_
  intro p e s m args below meth c s₁ R Q hR hQ B hml hv
  obtain ⟨rfl, hsz, hP, hK, hD0, hT⟩ := hv
  have hx := B.exec
  have hb := B.bytes
  have hr := B.returns
  have hts := atoms_spec (ws := xw yX6_keepOwn cX6_keepOwn 5 none) B.pre
  have htg : ∀ w ∈ xg, w.before _ s = true := fun w h => hts w (List.mem_cons_of_mem _ h)
  have hown : s.vm.findClass RX6 = some m.cls := findClass_of_methodNamed B.named
  have hlocks := B.notSynchronized
  subst hsz
  have hD := hD0.self (sz := s.heap.size)
  generalize hAe : va_A (pre1_X6_keepOwn_2 T a ex fi fl vi) s.heap.size = A at hD hQ hT
  have hA : ∀ q : Nat, s.heap.size ≤ q → A q := fun q h => by rw [← hAe]; exact Or.inr h
  have hS : va_S A s.heap s.heap [] := va_S.rf
  replace hP : va_P D vwCl [((a 0), .inr (6, [.ref (ex 0), .ref (a 1), .int (vi 0), .int 0, .int 0, .int 0, .int 0, .int 0, .long 0, .int 0, .int 0, .int 0, .int 0, .int 0])), ((a 1), .inl (T 2, 27, .inr (.inl (fl 0))))] s.heap := hP
  replace hD : va_D A [((a 0), .inr (6, [.ref (ex 0), .ref (a 1), .int (vi 0), .int 0, .int 0, .int 0, .int 0, .int 0, .long 0, .int 0, .int 0, .int 0, .int 0, .int 0])), ((a 1), .inl (T 2, 27, .inr (.inl (fl 0))))] := hD
  have hl := lv_entry ([.ref (a 0), .ref (kK 1)]) (n := 5) (Nat.le_of_ble_eq_true rfl)
  rw [lg_entry_eq]
  generalize (lg_sl ([.ref (a 0), .ref (kK 1)]) ++ List.replicate (5 - (lg_sl ([.ref (a 0), .ref (kK 1)])).length) Slot.unset).toArray = ls at hl ⊢
  replace hl : lv_has ls 5 [(0, .ref (a 0)), (1, .ref (kK 1))] := hl
  refine lv_lconst (v := 0) hx hb dX6_keepOwn_0 (by decide) ?_
  refine lv_lstore_n (lv' := [(2, .long 0), (0, .ref (a 0)), (1, .ref (kK 1))]) hx hb dX6_keepOwn_1 rfl hl (by decide) rfl (fun ls hl => ?_)
  refine lv_iconst (v := 0) hx hb dX6_keepOwn_2 (by decide) ?_
  refine lv_istore (lv' := [(4, .int 0), (2, .long 0), (0, .ref (a 0)), (1, .ref (kK 1))]) hx hb dX6_keepOwn_3 hl (by decide) rfl (fun ls hl => ?_)
  obtain ⟨c0, hc0, ec0⟩ := nI_of2 (x := (vi 0)) (M := 27) (n := 27) (by decide) (fun c => by have h9 := xlt (k := 0) (by decide) c; omega) (Int32.le_iff_toInt_le.mpr (by show (vi 0).toInt ≤ 27; omega))
  rw [ec0] at hP hD
  have lp : ∀ (n i : Nat) (pk : Int64) (cv : Nat) (fw : Nat → Int64) (H : Heap) (locs : List Loc) (ls : Array Slot), i + n = 47 → cv ≤ 27 → va_P D vwCl [((a 0), .inr (6, [.ref (ex 0), .ref (a 1), .int (nI cv), .int 0, .int 0, .int 0, .int 0, .int 0, .long 0, .int 0, .int 0, .int 0, .int 0, .int 0])), ((a 1), .inl (T 2, 27, .inr (.inl fw)))] H → va_D A [((a 0), .inr (6, [.ref (ex 0), .ref (a 1), .int (nI cv), .int 0, .int 0, .int 0, .int 0, .int 0, .long 0, .int 0, .int 0, .int 0, .int 0, .int 0])), ((a 1), .inl (T 2, 27, .inr (.inl fw)))] → va_S A s.heap H locs → lv_has ls 5 [(4, .int (nI i)), (2, .long pk), (0, .ref (a 0)), (1, .ref (kK 1))] → W p l e R s m ([.ref (a 0), .ref (kK 1)] : List Value).toArray below meth c H locs 0 0 Q (F0 m 5 ls []) := by
    intro n
    induction n with
    | zero =>
      intro i pk cv fw H locs ls hin hcv hP hD hS hl
      obtain rfl : i = 47 := by omega
      replace hl : lv_has ls 5 [(4, .int 47), (2, .long pk), (0, .ref (a 0)), (1, .ref (kK 1))] := hl
      refine lv_iload hx hb dX6_keepOwn_5 (lv_at hl 0 rfl) ?_
      refine lv_aload_n hx hb dX6_keepOwn_7 rfl (lv_at hl 3 rfl) ?_
      have hPc := hP.sub (ws' := (pre1_J0_length_8abf5_2 T (xa []) (xa []) (xf []) (xh []) (xv []))) [] rfl
      have hDc := hD.sub (ws' := (pre1_J0_length_8abf5_2 T (xa []) (xa []) (xf []) (xh []) (xv []))) [] (by decide) rfl
      have hFc := va_free (wc := (pre1_J0_length_8abf5_2 T (xa []) (xa []) (xf []) (xh []) (xv []))) hD hS hA [] rfl
      refine va_calli (va_runV (As := []) (rest := [.int 47]) ⟨hx, hb, hml, hown, htg⟩ (c1_J0_length_8abf5_2 l D T (xa []) (xa []) (xf []) (xh []) (xv []) kK kV H.size) ⟨callB_of 0 htg (xg_ok kw_47) rfl rfl rfl (htg _ kw_3) (htg _ kw_44) (by decide +kernel) ⟨by rw [hR]; exact Nat.le_of_ble_eq_true rfl, by rw [hR]; exact Nat.le_of_ble_eq_true rfl⟩, htg _ kw_45, htg _ kw_46⟩ (xpreVs hK hPc hDc hT hFc hS (xT.recv hT 1 (by decide) hS)) rfl rfl hl.1 rfl (lv_room (Nat.le_of_ble_eq_true rfl)) dX6_keepOwn_8 ⟨by rw [hR]; exact Nat.le_of_ble_eq_true rfl, by rw [hR]; exact Nat.le_of_ble_eq_true rfl⟩) hS (fun q _ h => hFc q h) hFc (fun r9 u t H1 locs ht hvm hw hB hz1 hk1 hS => ?_)
      obtain ⟨bk, fik, flk, vik, hP1, hD1, hGk⟩ := hB
      rw [ht] at hP1
      obtain ⟨hP, hD⟩ := va_join (wr := [((a 0), .inr (6, [.ref (ex 0), .ref (a 1), .int (nI cv), .int 0, .int 0, .int 0, .int 0, .int 0, .long 0, .int 0, .int 0, .int 0, .int 0, .int 0])), ((a 1), .inl (T 2, 27, .inr (.inl fw)))]) (w1 := []) hP hD [] [0, 1] rfl rfl (by decide) (by decide) hk1 hFc hP1 hD1
      subst hw
      clear hPc hDc hFc hP1 hD1 hk1 hz1 hvm ht
      generalize H1 = H at hP hS ⊢
      replace hP : va_P D vwCl [((a 0), .inr (6, [.ref (ex 0), .ref (a 1), .int (nI cv), .int 0, .int 0, .int 0, .int 0, .int 0, .long 0, .int 0, .int 0, .int 0, .int 0, .int 0])), ((a 1), .inl (T 2, 27, .inr (.inl fw)))] H := hP
      replace hD : va_D A [((a 0), .inr (6, [.ref (ex 0), .ref (a 1), .int (nI cv), .int 0, .int 0, .int 0, .int 0, .int 0, .long 0, .int 0, .int 0, .int 0, .int 0, .int 0])), ((a 1), .inl (T 2, 27, .inr (.inl fw)))] := hD
      refine lv_icmp_ge (tgt := 78) hx hb dX6_keepOwn_11 (by decide) (fun _ => ?_) (fun c => absurd (by decide) c)
      have hP9 := hP.sub (ws' := [((a 0), .inr (6, [.ref (ex 0), .ref (a 1), .int (nI cv), .int 0, .int 0, .int 0, .int 0, .int 0, .long 0, .int 0, .int 0, .int 0, .int 0, .int 0])), ((a 1), .inl (T 2, 27, .inr (.inl fw)))]) [0, 1] rfl
      have hD9 := hD.sub (ws' := [((a 0), .inr (6, [.ref (ex 0), .ref (a 1), .int (nI cv), .int 0, .int 0, .int 0, .int 0, .int 0, .long 0, .int 0, .int 0, .int 0, .int 0, .int 0])), ((a 1), .inl (T 2, 27, .inr (.inl fw)))]) [0, 1] (by decide +kernel) rfl
      rw [hQ]
      exact W.vret hx hb hr (fun t ht hW => ⟨⟨(), rfl, trivial, ⟨xa [], xf [], xh [fw], xv [(nI cv)], by rw [ht]; exact hP9, hD9, ⟨by show (0 ≤ ((nI cv) : Int32).toInt ∧ ((nI cv) : Int32).toInt ≤ 27); have h8 := nI_toInt (n := cv) (by omega); omega, trivial⟩⟩⟩, hS.F ht⟩) hS.2.2 dX6_keepOwn_78
    | succ n ih =>
      intro i pk cv fw H locs ls hin hcv hP hD hS hl
      refine lv_iload hx hb dX6_keepOwn_5 (lv_at hl 0 rfl) ?_
      refine lv_aload_n hx hb dX6_keepOwn_7 rfl (lv_at hl 3 rfl) ?_
      have hPc := hP.sub (ws' := (pre1_J0_length_8abf5_2 T (xa []) (xa []) (xf []) (xh []) (xv []))) [] rfl
      have hDc := hD.sub (ws' := (pre1_J0_length_8abf5_2 T (xa []) (xa []) (xf []) (xh []) (xv []))) [] (by decide) rfl
      have hFc := va_free (wc := (pre1_J0_length_8abf5_2 T (xa []) (xa []) (xf []) (xh []) (xv []))) hD hS hA [] rfl
      refine va_calli (va_runV (As := []) (rest := [.int (nI i)]) ⟨hx, hb, hml, hown, htg⟩ (c1_J0_length_8abf5_2 l D T (xa []) (xa []) (xf []) (xh []) (xv []) kK kV H.size) ⟨callB_of 0 htg (xg_ok kw_47) rfl rfl rfl (htg _ kw_3) (htg _ kw_44) (by decide +kernel) ⟨by rw [hR]; exact Nat.le_of_ble_eq_true rfl, by rw [hR]; exact Nat.le_of_ble_eq_true rfl⟩, htg _ kw_45, htg _ kw_46⟩ (xpreVs hK hPc hDc hT hFc hS (xT.recv hT 1 (by decide) hS)) rfl rfl hl.1 rfl (lv_room (Nat.le_of_ble_eq_true rfl)) dX6_keepOwn_8 ⟨by rw [hR]; exact Nat.le_of_ble_eq_true rfl, by rw [hR]; exact Nat.le_of_ble_eq_true rfl⟩) hS (fun q _ h => hFc q h) hFc (fun r9 u t H1 locs ht hvm hw hB hz1 hk1 hS => ?_)
      obtain ⟨bk_1, fik_1, flk_1, vik_1, hP1, hD1, hGk_1⟩ := hB
      rw [ht] at hP1
      obtain ⟨hP, hD⟩ := va_join (wr := [((a 0), .inr (6, [.ref (ex 0), .ref (a 1), .int (nI cv), .int 0, .int 0, .int 0, .int 0, .int 0, .long 0, .int 0, .int 0, .int 0, .int 0, .int 0])), ((a 1), .inl (T 2, 27, .inr (.inl fw)))]) (w1 := []) hP hD [] [0, 1] rfl rfl (by decide) (by decide) hk1 hFc hP1 hD1
      subst hw
      clear hPc hDc hFc hP1 hD1 hk1 hz1 hvm ht
      generalize H1 = H at hP hS ⊢
      replace hP : va_P D vwCl [((a 0), .inr (6, [.ref (ex 0), .ref (a 1), .int (nI cv), .int 0, .int 0, .int 0, .int 0, .int 0, .long 0, .int 0, .int 0, .int 0, .int 0, .int 0])), ((a 1), .inl (T 2, 27, .inr (.inl fw)))] H := hP
      replace hD : va_D A [((a 0), .inr (6, [.ref (ex 0), .ref (a 1), .int (nI cv), .int 0, .int 0, .int 0, .int 0, .int 0, .long 0, .int 0, .int 0, .int 0, .int 0, .int 0])), ((a 1), .inl (T 2, 27, .inr (.inl fw)))] := hD
      refine lv_icmp_ge (tgt := 78) hx hb dX6_keepOwn_11 (by decide) (fun c => by exfalso; have h9 := xge (k := 47) (by decide) c; have h8 := nI_toInt (n := i) (by omega); omega) (fun _ => ?_)
      refine lv_aload_n hx hb dX6_keepOwn_14 rfl (lv_at hl 2 rfl) ?_
      refine va_get (D := D) (ci := 6) (v := .int (nI cv)) (C := RX6) (T := TX6) (N := 14) hx hb htg inX6 hown hK.1 hP 0 rfl rfl 2 (by decide) (htg _ kw_96) (fun _ h9 => h9) rfl dX6_keepOwn_15 ?_
      refine lv_bipush (v := 27) hx hb dX6_keepOwn_18 (by decide) ?_
      refine lv_icmp_ge (tgt := 78) hx hb dX6_keepOwn_20 (by decide) (fun c20 => ?_) (fun c20 => ?_)
      · have c20 := xge (k := 27) (by decide) c20
        have h8 := nI_toInt (n := cv) (by omega)
        have hP9 := hP.sub (ws' := [((a 0), .inr (6, [.ref (ex 0), .ref (a 1), .int (nI cv), .int 0, .int 0, .int 0, .int 0, .int 0, .long 0, .int 0, .int 0, .int 0, .int 0, .int 0])), ((a 1), .inl (T 2, 27, .inr (.inl fw)))]) [0, 1] rfl
        have hD9 := hD.sub (ws' := [((a 0), .inr (6, [.ref (ex 0), .ref (a 1), .int (nI cv), .int 0, .int 0, .int 0, .int 0, .int 0, .long 0, .int 0, .int 0, .int 0, .int 0, .int 0])), ((a 1), .inl (T 2, 27, .inr (.inl fw)))]) [0, 1] (by decide +kernel) rfl
        rw [hQ]
        exact W.vret hx hb hr (fun t ht hW => ⟨⟨(), rfl, trivial, ⟨xa [], xf [], xh [fw], xv [(nI cv)], by rw [ht]; exact hP9, hD9, ⟨by show (0 ≤ ((nI cv) : Int32).toInt ∧ ((nI cv) : Int32).toInt ≤ 27); have h8 := nI_toInt (n := cv) (by omega); omega, trivial⟩⟩⟩, hS.F ht⟩) hS.2.2 dX6_keepOwn_78
      · have c20 := xnge (k := 27) (by decide) c20
        have h8 := nI_toInt (n := cv) (by omega)
        refine lv_aload_n hx hb dX6_keepOwn_23 rfl (lv_at hl 3 rfl) ?_
        refine lv_iload hx hb dX6_keepOwn_24 (lv_at hl 0 rfl) ?_
        have hPc := hP.sub (ws' := (pre1_J0_charAt_5068e_2 T (xa []) (xa []) (xf []) (xh []) (xv [(nI i)]))) [] rfl
        have hDc := hD.sub (ws' := (pre1_J0_charAt_5068e_2 T (xa []) (xa []) (xf []) (xh []) (xv [(nI i)]))) [] (by decide) rfl
        have hFc := va_free (wc := (pre1_J0_charAt_5068e_2 T (xa []) (xa []) (xf []) (xh []) (xv [(nI i)]))) hD hS hA [] rfl
        refine va_calli (va_runV (As := [.int (nI i)]) (rest := []) ⟨hx, hb, hml, hown, htg⟩ (c1_J0_charAt_5068e_2 l D T (xa []) (xa []) (xf []) (xh []) (xv [(nI i)]) kK kV H.size (by show (0 ≤ ((nI i) : Int32).toInt ∧ ((nI i) : Int32).toInt ≤ 46); have h8 := nI_toInt (n := i) (by omega); omega)) ⟨callB_of 1 htg (xg_ok kw_57) rfl rfl rfl (htg _ kw_3) (htg _ kw_54) (by decide +kernel) ⟨by rw [hR]; exact Nat.le_of_ble_eq_true rfl, by rw [hR]; exact Nat.le_of_ble_eq_true rfl⟩, htg _ kw_55, htg _ kw_56⟩ (xpreVs hK hPc hDc hT hFc hS (xT.recv hT 1 (by decide) hS)) rfl rfl hl.1 rfl (lv_room (Nat.le_of_ble_eq_true rfl)) dX6_keepOwn_26 ⟨by rw [hR]; exact Nat.le_of_ble_eq_true rfl, by rw [hR]; exact Nat.le_of_ble_eq_true rfl⟩) hS (fun q _ h => hFc q h) hFc (fun r9 u t H1 locs ht hvm hw hB hz1 hk1 hS => ?_)
        obtain ⟨bk_2, fik_2, flk_2, vik_2, hP1, hD1, hGk_2⟩ := hB
        rw [ht] at hP1
        obtain ⟨hP, hD⟩ := va_join (wr := [((a 0), .inr (6, [.ref (ex 0), .ref (a 1), .int (nI cv), .int 0, .int 0, .int 0, .int 0, .int 0, .long 0, .int 0, .int 0, .int 0, .int 0, .int 0])), ((a 1), .inl (T 2, 27, .inr (.inl fw)))]) (w1 := []) hP hD [] [0, 1] rfl rfl (by decide) (by decide) hk1 hFc hP1 hD1
        obtain ⟨rk_2, er9⟩ : ∃ z, z = r9 := ⟨_, rfl⟩
        subst er9
        have nrk_2 := hw
        clear hPc hDc hFc hP1 hD1 hk1 hz1 hvm ht
        generalize H1 = H at hP hS ⊢
        replace hP : va_P D vwCl [((a 0), .inr (6, [.ref (ex 0), .ref (a 1), .int (nI cv), .int 0, .int 0, .int 0, .int 0, .int 0, .long 0, .int 0, .int 0, .int 0, .int 0, .int 0])), ((a 1), .inl (T 2, 27, .inr (.inl fw)))] H := hP
        replace hD : va_D A [((a 0), .inr (6, [.ref (ex 0), .ref (a 1), .int (nI cv), .int 0, .int 0, .int 0, .int 0, .int 0, .long 0, .int 0, .int 0, .int 0, .int 0, .int 0])), ((a 1), .inl (T 2, 27, .inr (.inl fw)))] := hD
        refine lv_bipush (v := 32) hx hb dX6_keepOwn_29 (by decide) ?_
        refine lv_icmp_ne (tgt := 59) hx hb dX6_keepOwn_31 (by decide) (fun c31 => ?_) (fun c31 => ?_)
        · have c31 := xne (k := 32) (by decide) c31
          refine lv_lload_n hx hb dX6_keepOwn_59 rfl (lv_at hl 1 rfl) ?_
          refine lv_bipush (v := 8) hx hb dX6_keepOwn_60 (by decide) ?_
          refine lv_lshl hx hb dX6_keepOwn_62 rfl ?_
          refine lv_topl (fun z62 ez62 => ?_)
          refine lv_aload_n hx hb dX6_keepOwn_63 rfl (lv_at hl 3 rfl) ?_
          refine lv_iload hx hb dX6_keepOwn_64 (lv_at hl 0 rfl) ?_
          have hPc := hP.sub (ws' := (pre1_J0_charAt_5068e_2 T (xa []) (xa []) (xf []) (xh []) (xv [(nI i)]))) [] rfl
          have hDc := hD.sub (ws' := (pre1_J0_charAt_5068e_2 T (xa []) (xa []) (xf []) (xh []) (xv [(nI i)]))) [] (by decide) rfl
          have hFc := va_free (wc := (pre1_J0_charAt_5068e_2 T (xa []) (xa []) (xf []) (xh []) (xv [(nI i)]))) hD hS hA [] rfl
          refine va_calli (va_runV (As := [.int (nI i)]) (rest := [.long z62]) ⟨hx, hb, hml, hown, htg⟩ (c1_J0_charAt_5068e_2 l D T (xa []) (xa []) (xf []) (xh []) (xv [(nI i)]) kK kV H.size (by show (0 ≤ ((nI i) : Int32).toInt ∧ ((nI i) : Int32).toInt ≤ 46); have h8 := nI_toInt (n := i) (by omega); omega)) ⟨callB_of 1 htg (xg_ok kw_57) rfl rfl rfl (htg _ kw_3) (htg _ kw_54) (by decide +kernel) ⟨by rw [hR]; exact Nat.le_of_ble_eq_true rfl, by rw [hR]; exact Nat.le_of_ble_eq_true rfl⟩, htg _ kw_55, htg _ kw_56⟩ (xpreVs hK hPc hDc hT hFc hS (xT.recv hT 1 (by decide) hS)) rfl rfl hl.1 rfl (lv_room (Nat.le_of_ble_eq_true rfl)) dX6_keepOwn_66 ⟨by rw [hR]; exact Nat.le_of_ble_eq_true rfl, by rw [hR]; exact Nat.le_of_ble_eq_true rfl⟩) hS (fun q _ h => hFc q h) hFc (fun r9 u t H1 locs ht hvm hw hB hz1 hk1 hS => ?_)
          obtain ⟨bk_3, fik_3, flk_3, vik_3, hP1, hD1, hGk_3⟩ := hB
          rw [ht] at hP1
          obtain ⟨hP, hD⟩ := va_join (wr := [((a 0), .inr (6, [.ref (ex 0), .ref (a 1), .int (nI cv), .int 0, .int 0, .int 0, .int 0, .int 0, .long 0, .int 0, .int 0, .int 0, .int 0, .int 0])), ((a 1), .inl (T 2, 27, .inr (.inl fw)))]) (w1 := []) hP hD [] [0, 1] rfl rfl (by decide) (by decide) hk1 hFc hP1 hD1
          obtain ⟨rk_3, er9⟩ : ∃ z, z = r9 := ⟨_, rfl⟩
          subst er9
          have nrk_3 := hw
          clear hPc hDc hFc hP1 hD1 hk1 hz1 hvm ht
          generalize H1 = H at hP hS ⊢
          replace hP : va_P D vwCl [((a 0), .inr (6, [.ref (ex 0), .ref (a 1), .int (nI cv), .int 0, .int 0, .int 0, .int 0, .int 0, .long 0, .int 0, .int 0, .int 0, .int 0, .int 0])), ((a 1), .inl (T 2, 27, .inr (.inl fw)))] H := hP
          replace hD : va_D A [((a 0), .inr (6, [.ref (ex 0), .ref (a 1), .int (nI cv), .int 0, .int 0, .int 0, .int 0, .int 0, .long 0, .int 0, .int 0, .int 0, .int 0, .int 0])), ((a 1), .inl (T 2, 27, .inr (.inl fw)))] := hD
          refine lv_i2l hx hb dX6_keepOwn_69 rfl ?_
          refine lv_topl (fun z69 ez69 => ?_)
          refine lv_lor hx hb dX6_keepOwn_70 ?_
          refine lv_topl (fun z70 ez70 => ?_)
          refine lv_lstore_n (lv' := [(2, .long z70), (4, .int (nI i)), (0, .ref (a 0)), (1, .ref (kK 1))]) hx hb dX6_keepOwn_71 rfl hl (by decide) rfl (fun ls hl => ?_)
          refine lv_iinc (v := (nI (i + 1))) (lv' := [(4, .int (nI (i + 1))), (2, .long z70), (0, .ref (a 0)), (1, .ref (kK 1))]) hx hb dX6_keepOwn_72 hl (k := 1) rfl (nI_add (i) 1) (by decide) rfl (fun ls hl => ?_)
          refine lv_goto (tgt := 5) hx hb dX6_keepOwn_75 (by decide) ?_
          exact ih (i + 1) z70 (cv) fw _ _ _ (by omega) (by omega) (hP.sub [0, 1] rfl) (hD.sub [0, 1] (by decide) rfl) hS (lv_sub hl [0, 1, 2, 3] rfl)
        · have c31 := xeq (k := 32) (by decide) c31
          refine lv_aload_n hx hb dX6_keepOwn_34 rfl (lv_at hl 2 rfl) ?_
          refine va_get (D := D) (ci := 6) (v := .ref (a 1)) (C := RX6) (T := TX6) (N := 14) hx hb htg inX6 hown hK.1 hP 0 rfl rfl 1 (by decide) (htg _ kw_95) (fun _ h9 => h9) rfl dX6_keepOwn_35 ?_
          refine lv_aload_n hx hb dX6_keepOwn_38 rfl (lv_at hl 2 rfl) ?_
          refine va_get (D := D) (ci := 6) (v := .int (nI cv)) (C := RX6) (T := TX6) (N := 14) hx hb htg inX6 hown hK.1 hP 0 rfl rfl 2 (by decide) (htg _ kw_96) (fun _ h9 => h9) rfl dX6_keepOwn_39 ?_
          refine lv_lload_n hx hb dX6_keepOwn_42 rfl (lv_at hl 1 rfl) ?_
          refine va_last hx hb hK.1 hP hD hS 1 2 rfl rfl (vp_in_nI (n := cv) (by omega) (by decide)) dX6_keepOwn_43 (fun H locs hP hD hS => ?_)
          obtain ⟨f43, hP, hD⟩ : ∃ f43 : Nat → Int64, va_P D vwCl [((a 0), .inr (6, [.ref (ex 0), .ref (a 1), .int (nI cv), .int 0, .int 0, .int 0, .int 0, .int 0, .long 0, .int 0, .int 0, .int 0, .int 0, .int 0])), ((a 1), .inl (T 2, 27, .inr (.inl f43)))] H ∧ va_D A [((a 0), .inr (6, [.ref (ex 0), .ref (a 1), .int (nI cv), .int 0, .int 0, .int 0, .int 0, .int 0, .long 0, .int 0, .int 0, .int 0, .int 0, .int 0])), ((a 1), .inl (T 2, 27, .inr (.inl f43)))] := ⟨vp_updL fw ((nI cv) : Int32).toNatClampNeg (pk : Int64), hP, hD⟩
          refine lv_aload_n hx hb dX6_keepOwn_44 rfl (lv_at hl 2 rfl) ?_
          refine lv_dup hx hb dX6_keepOwn_45 rfl ?_
          refine va_get (D := D) (ci := 6) (v := .int (nI cv)) (C := RX6) (T := TX6) (N := 14) hx hb htg inX6 hown hK.1 hP 0 rfl rfl 2 (by decide) (htg _ kw_96) (fun _ h9 => h9) rfl dX6_keepOwn_46 ?_
          refine lv_iconst (v := 1) hx hb dX6_keepOwn_49 (by decide) ?_
          refine lv_iadd hx hb dX6_keepOwn_50 ?_
          refine xz_i (nI (cv + 1)) (nI_add (cv) (1)) ?_
          refine va_put (D := D) (ci := 6) (v := .int (nI (cv + 1))) (ty := .int) (C := RX6) (T := TX6) (N := 14) hx hb htg inX6 tyX6 tyX6_ok nmX6 hown hK.1 hP hD hS 0 rfl rfl 2 (by decide) (htg _ kw_96) (fun _ h9 => h9) rfl (by decide +kernel) rfl rfl (Nat.le_of_ble_eq_true rfl) dX6_keepOwn_51 (fun H locs hP hD hS => ?_)
          replace hP : va_P D vwCl [((a 0), .inr (6, [.ref (ex 0), .ref (a 1), .int (nI (cv + 1)), .int 0, .int 0, .int 0, .int 0, .int 0, .long 0, .int 0, .int 0, .int 0, .int 0, .int 0])), ((a 1), .inl (T 2, 27, .inr (.inl f43)))] H := hP
          replace hD : va_D A [((a 0), .inr (6, [.ref (ex 0), .ref (a 1), .int (nI (cv + 1)), .int 0, .int 0, .int 0, .int 0, .int 0, .long 0, .int 0, .int 0, .int 0, .int 0, .int 0])), ((a 1), .inl (T 2, 27, .inr (.inl f43)))] := hD
          refine lv_lconst (v := 0) hx hb dX6_keepOwn_54 (by decide) ?_
          refine lv_lstore_n (lv' := [(2, .long 0), (4, .int (nI i)), (0, .ref (a 0)), (1, .ref (kK 1))]) hx hb dX6_keepOwn_55 rfl hl (by decide) rfl (fun ls hl => ?_)
          refine lv_goto (tgt := 72) hx hb dX6_keepOwn_56 (by decide) ?_
          refine lv_iinc (v := (nI (i + 1))) (lv' := [(4, .int (nI (i + 1))), (2, .long 0), (0, .ref (a 0)), (1, .ref (kK 1))]) hx hb dX6_keepOwn_72 hl (k := 1) rfl (nI_add (i) 1) (by decide) rfl (fun ls hl => ?_)
          refine lv_goto (tgt := 5) hx hb dX6_keepOwn_75 (by decide) ?_
          exact ih (i + 1) 0 (cv + 1) f43 _ _ _ (by omega) (by omega) (hP.sub [0, 1] rfl) (hD.sub [0, 1] (by decide) rfl) hS (lv_sub hl [0, 1, 2, 3] rfl)
  exact lp 47 0 _ c0 _ _ _ _ (by omega) hc0 hP hD hS hl
abbrev pre1_J0_coder_7d493_3 (T : Nat → ClassId) (a ex : Nat → Nat) (fi : Nat → Nat → Int32) (fl : Nat → Nat → Int64) (vi : Nat → Int32) : va_W := []
set_option maxHeartbeats 4000000 in
set_option maxRecDepth 100000 in
theorem c1_J0_coder_7d493_3 (l : Launch) (D : va_G) (T : Nat → ClassId) (a ex : Nat → Nat) (fi : Nat → Nat → Int32) (fl : Nat → Nat → Int64) (vi : Nat → Int32) (kK kV : Nat → Nat) (sz : Nat) : Met l yJ0_coder_7d493 (xw yJ0_coder_7d493 cJ0_coder_7d493 1 (some .byte)) ({ frames := 0, cells := 0, slots := 0, locals := 0 }) (xPs D T kK kV [.ref (kK 2)] sz (pre1_J0_coder_7d493_3 T a ex fi fl vi)) (va_Qi (fun r (_ : Unit) => r = 0) (xB D (va_A (pre1_J0_coder_7d493_3 T a ex fi fl vi) sz) (fun _ => True) (fun b fj fm vj => [])) (va_A (pre1_J0_coder_7d493_3 T a ex fi fl vi) sz)) 0 0 (va_A (pre1_J0_coder_7d493_3 T a ex fi fl vi) sz) := by
  refine xofW (cc := cJ0_coder_7d493) (maxL := 1) (ret := (some .byte)) (by decide) rfl ?_
  intro p e s m args below meth c s₁ R Q hR hQ B hml hv
  obtain ⟨rfl, hsz, hP, hK, hD0, hT⟩ := hv
  have hx := B.exec
  have hb := B.bytes
  have hr := B.returns
  have hts := atoms_spec (ws := xw yJ0_coder_7d493 cJ0_coder_7d493 1 (some .byte)) B.pre
  have htg : ∀ w ∈ xg, w.before _ s = true := fun w h => hts w (List.mem_cons_of_mem _ h)
  have hown : s.vm.findClass RJ0 = some m.cls := findClass_of_methodNamed B.named
  have hlocks := B.notSynchronized
  subst hsz
  have hD := hD0.self (sz := s.heap.size)
  generalize hAe : va_A (pre1_J0_coder_7d493_3 T a ex fi fl vi) s.heap.size = A at hD hQ hT
  have hA : ∀ q : Nat, s.heap.size ≤ q → A q := fun q h => by rw [← hAe]; exact Or.inr h
  have hS : va_S A s.heap s.heap [] := va_S.rf
  replace hP : va_P D vwCl [] s.heap := hP
  replace hD : va_D A [] := hD
  have hl := lv_entry ([.ref (kK 2)]) (n := 1) (Nat.le_of_ble_eq_true rfl)
  rw [lg_entry_eq]
  generalize (lg_sl ([.ref (kK 2)]) ++ List.replicate (1 - (lg_sl ([.ref (kK 2)])).length) Slot.unset).toArray = ls at hl ⊢
  replace hl : lv_has ls 1 [(0, .ref (kK 2))] := hl
  refine va_gets hx hb hT.2.2.1 hS hown (htg _ kw_52) (fun _ h9 => h9) dJ0_coder_7d493_0 ?_
  refine lv_if_eq (tgt := 13) hx hb dJ0_coder_7d493_3 (by decide) (fun c => absurd c (by decide)) (fun _ => ?_)
  refine lv_aload_n hx hb dJ0_coder_7d493_6 rfl (lv_at hl 0 rfl) ?_
  refine vk_getf hx hb (hT.2.1 2 (by decide)).2.1 hS hown (htg _ kw_2031) (fun _ h9 => h9) dJ0_coder_7d493_7 ?_
  refine lv_goto (tgt := 14) hx hb dJ0_coder_7d493_10 (by decide) ?_
  have hP9 := hP.sub (ws' := []) [] rfl
  have hD9 := hD.sub (ws' := []) [] (by decide +kernel) rfl
  rw [hQ]
  exact W.zret (v := 0) hx hb hr rfl (fun t ht hW => ⟨⟨0, (), rfl, rfl, ⟨xa [], xf [], xh [], xv [], by rw [ht]; exact hP9, hD9, trivial⟩⟩, hS.F ht⟩) hS.2.2 dJ0_coder_7d493_14
abbrev pre1_J0_length_8abf5_3 (T : Nat → ClassId) (a ex : Nat → Nat) (fi : Nat → Nat → Int32) (fl : Nat → Nat → Int64) (vi : Nat → Int32) : va_W := []
set_option maxHeartbeats 4000000 in
set_option maxRecDepth 100000 in
theorem c1_J0_length_8abf5_3 (l : Launch) (D : va_G) (T : Nat → ClassId) (a ex : Nat → Nat) (fi : Nat → Nat → Int32) (fl : Nat → Nat → Int64) (vi : Nat → Int32) (kK kV : Nat → Nat) (sz : Nat) : Met l yJ0_length_8abf5 (xw yJ0_length_8abf5 cJ0_length_8abf5 1 (some .int)) ({ frames := 1, cells := 0, slots := 0, locals := 24 }) (xPs D T kK kV [.ref (kK 2)] sz (pre1_J0_length_8abf5_3 T a ex fi fl vi)) (va_Qi (fun r (_ : Unit) => r = 58) (xB D (va_A (pre1_J0_length_8abf5_3 T a ex fi fl vi) sz) (fun _ => True) (fun b fj fm vj => [])) (va_A (pre1_J0_length_8abf5_3 T a ex fi fl vi) sz)) 0 0 (va_A (pre1_J0_length_8abf5_3 T a ex fi fl vi) sz) := by
  refine xofW (cc := cJ0_length_8abf5) (maxL := 1) (ret := (some .int)) (by decide) rfl ?_
  intro p e s m args below meth c s₁ R Q hR hQ B hml hv
  obtain ⟨rfl, hsz, hP, hK, hD0, hT⟩ := hv
  have hx := B.exec
  have hb := B.bytes
  have hr := B.returns
  have hts := atoms_spec (ws := xw yJ0_length_8abf5 cJ0_length_8abf5 1 (some .int)) B.pre
  have htg : ∀ w ∈ xg, w.before _ s = true := fun w h => hts w (List.mem_cons_of_mem _ h)
  have hown : s.vm.findClass RJ0 = some m.cls := findClass_of_methodNamed B.named
  have hlocks := B.notSynchronized
  subst hsz
  have hD := hD0.self (sz := s.heap.size)
  generalize hAe : va_A (pre1_J0_length_8abf5_3 T a ex fi fl vi) s.heap.size = A at hD hQ hT
  have hA : ∀ q : Nat, s.heap.size ≤ q → A q := fun q h => by rw [← hAe]; exact Or.inr h
  have hS : va_S A s.heap s.heap [] := va_S.rf
  replace hP : va_P D vwCl [] s.heap := hP
  replace hD : va_D A [] := hD
  have hl := lv_entry ([.ref (kK 2)]) (n := 1) (Nat.le_of_ble_eq_true rfl)
  rw [lg_entry_eq]
  generalize (lg_sl ([.ref (kK 2)]) ++ List.replicate (1 - (lg_sl ([.ref (kK 2)])).length) Slot.unset).toArray = ls at hl ⊢
  replace hl : lv_has ls 1 [(0, .ref (kK 2))] := hl
  refine lv_aload_n hx hb dJ0_length_8abf5_0 rfl (lv_at hl 0 rfl) ?_
  refine vk_getf hx hb (hT.2.1 2 (by decide)).2.2.1 hS hown (htg _ kw_2030) (fun _ h9 => h9) dJ0_length_8abf5_1 ?_
  refine va_tlen (v := 58) hx hb (hT.2.1 2 (by decide)).2.2.2 hS (by decide) dJ0_length_8abf5_4 ?_
  refine lv_aload_n hx hb dJ0_length_8abf5_5 rfl (lv_at hl 0 rfl) ?_
  have hPc := hP.sub (ws' := (pre1_J0_coder_7d493_3 T (xa []) (xa []) (xf []) (xh []) (xv []))) [] rfl
  have hDc := hD.sub (ws' := (pre1_J0_coder_7d493_3 T (xa []) (xa []) (xf []) (xh []) (xv []))) [] (by decide) rfl
  have hFc := va_free (wc := (pre1_J0_coder_7d493_3 T (xa []) (xa []) (xf []) (xh []) (xv []))) hD hS hA [] rfl
  refine va_calli (va_runV (As := []) (rest := [.int 58]) ⟨hx, hb, hml, hown, htg⟩ (c1_J0_coder_7d493_3 l D T (xa []) (xa []) (xf []) (xh []) (xv []) kK kV s.heap.size) ⟨callB_of 0 htg (xg_ok kw_51) rfl rfl rfl (htg _ kw_3) (htg _ kw_48) (by decide +kernel) ⟨by rw [hR]; exact Nat.le_of_ble_eq_true rfl, by rw [hR]; exact Nat.le_of_ble_eq_true rfl⟩, htg _ kw_49, htg _ kw_50⟩ (xpreVs hK hPc hDc hT hFc hS (xT.recv hT 2 (by decide) hS)) rfl rfl hl.1 rfl (lv_room (Nat.le_of_ble_eq_true rfl)) dJ0_length_8abf5_6 ⟨by rw [hR]; exact Nat.le_of_ble_eq_true rfl, by rw [hR]; exact Nat.le_of_ble_eq_true rfl⟩) hS (fun q _ h => hFc q h) hFc (fun r9 u t H1 locs ht hvm hw hB hz1 hk1 hS => ?_)
  obtain ⟨bk, fik, flk, vik, hP1, hD1, hGk⟩ := hB
  rw [ht] at hP1
  obtain ⟨hP, hD⟩ := va_join (wr := []) (w1 := []) hP hD [] [] rfl rfl (by decide) (by decide) hk1 hFc hP1 hD1
  subst hw
  clear hPc hDc hFc hP1 hD1 hk1 hz1 hvm ht
  generalize H1 = H at hP hS ⊢
  replace hP : va_P D vwCl [] H := hP
  replace hD : va_D A [] := hD
  refine lv_ishr hx hb dJ0_length_8abf5_9 ?_
  refine xz_i 58 (by decide) ?_
  have hP9 := hP.sub (ws' := []) [] rfl
  have hD9 := hD.sub (ws' := []) [] (by decide +kernel) rfl
  rw [hQ]
  exact W.iret (v := 58) hx hb hr (fun t ht hW => ⟨⟨58, (), rfl, rfl, ⟨xa [], xf [], xh [], xv [], by rw [ht]; exact hP9, hD9, trivial⟩⟩, hS.F ht⟩) hS.2.2 dJ0_length_8abf5_10
abbrev pre1_J0_isLatin1_aae02_3 (T : Nat → ClassId) (a ex : Nat → Nat) (fi : Nat → Nat → Int32) (fl : Nat → Nat → Int64) (vi : Nat → Int32) : va_W := []
set_option maxHeartbeats 4000000 in
set_option maxRecDepth 100000 in
theorem c1_J0_isLatin1_aae02_3 (l : Launch) (D : va_G) (T : Nat → ClassId) (a ex : Nat → Nat) (fi : Nat → Nat → Int32) (fl : Nat → Nat → Int64) (vi : Nat → Int32) (kK kV : Nat → Nat) (sz : Nat) : Met l yJ0_isLatin1_aae02 (xw yJ0_isLatin1_aae02 cJ0_isLatin1_aae02 1 (some .boolean)) ({ frames := 0, cells := 0, slots := 0, locals := 0 }) (xPs D T kK kV [.ref (kK 2)] sz (pre1_J0_isLatin1_aae02_3 T a ex fi fl vi)) (va_Qi (fun r (_ : Unit) => r = 1) (xB D (va_A (pre1_J0_isLatin1_aae02_3 T a ex fi fl vi) sz) (fun _ => True) (fun b fj fm vj => [])) (va_A (pre1_J0_isLatin1_aae02_3 T a ex fi fl vi) sz)) 0 0 (va_A (pre1_J0_isLatin1_aae02_3 T a ex fi fl vi) sz) := by
  refine xofW (cc := cJ0_isLatin1_aae02) (maxL := 1) (ret := (some .boolean)) (by decide) rfl ?_
  intro p e s m args below meth c s₁ R Q hR hQ B hml hv
  obtain ⟨rfl, hsz, hP, hK, hD0, hT⟩ := hv
  have hx := B.exec
  have hb := B.bytes
  have hr := B.returns
  have hts := atoms_spec (ws := xw yJ0_isLatin1_aae02 cJ0_isLatin1_aae02 1 (some .boolean)) B.pre
  have htg : ∀ w ∈ xg, w.before _ s = true := fun w h => hts w (List.mem_cons_of_mem _ h)
  have hown : s.vm.findClass RJ0 = some m.cls := findClass_of_methodNamed B.named
  have hlocks := B.notSynchronized
  subst hsz
  have hD := hD0.self (sz := s.heap.size)
  generalize hAe : va_A (pre1_J0_isLatin1_aae02_3 T a ex fi fl vi) s.heap.size = A at hD hQ hT
  have hA : ∀ q : Nat, s.heap.size ≤ q → A q := fun q h => by rw [← hAe]; exact Or.inr h
  have hS : va_S A s.heap s.heap [] := va_S.rf
  replace hP : va_P D vwCl [] s.heap := hP
  replace hD : va_D A [] := hD
  have hl := lv_entry ([.ref (kK 2)]) (n := 1) (Nat.le_of_ble_eq_true rfl)
  rw [lg_entry_eq]
  generalize (lg_sl ([.ref (kK 2)]) ++ List.replicate (1 - (lg_sl ([.ref (kK 2)])).length) Slot.unset).toArray = ls at hl ⊢
  replace hl : lv_has ls 1 [(0, .ref (kK 2))] := hl
  refine va_gets hx hb hT.2.2.1 hS hown (htg _ kw_52) (fun _ h9 => h9) dJ0_isLatin1_aae02_0 ?_
  refine lv_if_eq (tgt := 17) hx hb dJ0_isLatin1_aae02_3 (by decide) (fun c => absurd c (by decide)) (fun _ => ?_)
  refine lv_aload_n hx hb dJ0_isLatin1_aae02_6 rfl (lv_at hl 0 rfl) ?_
  refine vk_getf hx hb (hT.2.1 2 (by decide)).2.1 hS hown (htg _ kw_2031) (fun _ h9 => h9) dJ0_isLatin1_aae02_7 ?_
  refine lv_if_ne (tgt := 17) hx hb dJ0_isLatin1_aae02_10 (by decide) (fun c => absurd (by decide) c) (fun _ => ?_)
  refine lv_iconst (v := 1) hx hb dJ0_isLatin1_aae02_13 (by decide) ?_
  refine lv_goto (tgt := 18) hx hb dJ0_isLatin1_aae02_14 (by decide) ?_
  have hP9 := hP.sub (ws' := []) [] rfl
  have hD9 := hD.sub (ws' := []) [] (by decide +kernel) rfl
  rw [hQ]
  exact W.zret (v := 1) hx hb hr rfl (fun t ht hW => ⟨⟨1, (), rfl, rfl, ⟨xa [], xf [], xh [], xv [], by rw [ht]; exact hP9, hD9, trivial⟩⟩, hS.F ht⟩) hS.2.2 dJ0_isLatin1_aae02_18
abbrev pre1_J3_checkIndex_8e157_5 (T : Nat → ClassId) (a ex : Nat → Nat) (fi : Nat → Nat → Int32) (fl : Nat → Nat → Int64) (vi : Nat → Int32) : va_W := []
set_option maxHeartbeats 4000000 in
set_option maxRecDepth 100000 in
theorem c1_J3_checkIndex_8e157_5 (l : Launch) (D : va_G) (T : Nat → ClassId) (a ex : Nat → Nat) (fi : Nat → Nat → Int32) (fl : Nat → Nat → Int64) (vi : Nat → Int32) (sz : Nat) (hd0 : (0 ≤ (vi 0).toInt ∧ (vi 0).toInt ≤ 57)) : Met l yJ3_checkIndex_8e157 (xw yJ3_checkIndex_8e157 cJ3_checkIndex_8e157 3 (some .int)) ({ frames := 0, cells := 0, slots := 0, locals := 0 }) (xP D T [.int (vi 0), .int 58, .null] sz (pre1_J3_checkIndex_8e157_5 T a ex fi fl vi)) (va_Qi (fun r (_ : Unit) => r = (vi 0)) (xB D (va_A (pre1_J3_checkIndex_8e157_5 T a ex fi fl vi) sz) (fun _ => True) (fun b fj fm vj => [])) (va_A (pre1_J3_checkIndex_8e157_5 T a ex fi fl vi) sz)) 0 0 (va_A (pre1_J3_checkIndex_8e157_5 T a ex fi fl vi) sz) := by
  refine xofW (cc := cJ3_checkIndex_8e157) (maxL := 3) (ret := (some .int)) (by decide) rfl ?_
  intro p e s m args below meth c s₁ R Q hR hQ B hml hv
  obtain ⟨rfl, hsz, hP, hK, hD0⟩ := hv
  have hx := B.exec
  have hb := B.bytes
  have hr := B.returns
  have hts := atoms_spec (ws := xw yJ3_checkIndex_8e157 cJ3_checkIndex_8e157 3 (some .int)) B.pre
  have htg : ∀ w ∈ xg, w.before _ s = true := fun w h => hts w (List.mem_cons_of_mem _ h)
  have hown : s.vm.findClass RJ3 = some m.cls := findClass_of_methodNamed B.named
  have hlocks := B.notSynchronized
  subst hsz
  have hD := hD0.self (sz := s.heap.size)
  generalize hAe : va_A (pre1_J3_checkIndex_8e157_5 T a ex fi fl vi) s.heap.size = A at hD hQ
  have hA : ∀ q : Nat, s.heap.size ≤ q → A q := fun q h => by rw [← hAe]; exact Or.inr h
  have hS : va_S A s.heap s.heap [] := va_S.rf
  replace hP : va_P D vwCl [] s.heap := hP
  replace hD : va_D A [] := hD
  have hl := lv_entry ([.int (vi 0), .int 58, .null]) (n := 3) (Nat.le_of_ble_eq_true rfl)
  rw [lg_entry_eq]
  generalize (lg_sl ([.int (vi 0), .int 58, .null]) ++ List.replicate (3 - (lg_sl ([.int (vi 0), .int 58, .null])).length) Slot.unset).toArray = ls at hl ⊢
  replace hl : lv_has ls 3 [(0, .int (vi 0)), (1, .int 58), (2, .null)] := hl
  refine lv_iload_n hx hb dJ3_checkIndex_8e157_0 rfl (lv_at hl 0 rfl) ?_
  refine lv_if_lt (tgt := 9) hx hb dJ3_checkIndex_8e157_1 (by decide) (fun c => by exfalso; have h9 := xlt (k := 0) (by decide) c; omega) (fun _ => ?_)
  refine lv_iload_n hx hb dJ3_checkIndex_8e157_4 rfl (lv_at hl 0 rfl) ?_
  refine lv_iload_n hx hb dJ3_checkIndex_8e157_5 rfl (lv_at hl 1 rfl) ?_
  refine lv_icmp_lt (tgt := 16) hx hb dJ3_checkIndex_8e157_6 (by decide) (fun _ => ?_) (fun c => by exfalso; have h9 := xnlt (k := 58) (by decide) c; omega)
  refine lv_iload_n hx hb dJ3_checkIndex_8e157_16 rfl (lv_at hl 0 rfl) ?_
  have hP9 := hP.sub (ws' := []) [] rfl
  have hD9 := hD.sub (ws' := []) [] (by decide +kernel) rfl
  rw [hQ]
  exact W.iret (v := (vi 0)) hx hb hr (fun t ht hW => ⟨⟨(vi 0), (), rfl, rfl, ⟨xa [], xf [], xh [], xv [], by rw [ht]; exact hP9, hD9, trivial⟩⟩, hS.F ht⟩) hS.2.2 dJ3_checkIndex_8e157_17
abbrev pre1_J3_checkIndex_8e157_6 (T : Nat → ClassId) (a ex : Nat → Nat) (fi : Nat → Nat → Int32) (fl : Nat → Nat → Int64) (vi : Nat → Int32) : va_W := []
set_option maxHeartbeats 4000000 in
set_option maxRecDepth 100000 in
theorem c1_J3_checkIndex_8e157_6 (l : Launch) (D : va_G) (T : Nat → ClassId) (a ex : Nat → Nat) (fi : Nat → Nat → Int32) (fl : Nat → Nat → Int64) (vi : Nat → Int32) (sz : Nat) (hd0 : (0 ≤ (vi 0).toInt ∧ (vi 0).toInt ≤ 57)) : Met l yJ3_checkIndex_8e157 (xw yJ3_checkIndex_8e157 cJ3_checkIndex_8e157 3 (some .int)) ({ frames := 0, cells := 0, slots := 0, locals := 0 }) (xP D T [.int (vi 0), .int 58, .ref (ex 0)] sz (pre1_J3_checkIndex_8e157_6 T a ex fi fl vi)) (va_Qi (fun r (_ : Unit) => r = (vi 0)) (xB D (va_A (pre1_J3_checkIndex_8e157_6 T a ex fi fl vi) sz) (fun _ => True) (fun b fj fm vj => [])) (va_A (pre1_J3_checkIndex_8e157_6 T a ex fi fl vi) sz)) 0 0 (va_A (pre1_J3_checkIndex_8e157_6 T a ex fi fl vi) sz) := by
  refine xofW (cc := cJ3_checkIndex_8e157) (maxL := 3) (ret := (some .int)) (by decide) rfl ?_
  intro p e s m args below meth c s₁ R Q hR hQ B hml hv
  obtain ⟨rfl, hsz, hP, hK, hD0⟩ := hv
  have hx := B.exec
  have hb := B.bytes
  have hr := B.returns
  have hts := atoms_spec (ws := xw yJ3_checkIndex_8e157 cJ3_checkIndex_8e157 3 (some .int)) B.pre
  have htg : ∀ w ∈ xg, w.before _ s = true := fun w h => hts w (List.mem_cons_of_mem _ h)
  have hown : s.vm.findClass RJ3 = some m.cls := findClass_of_methodNamed B.named
  have hlocks := B.notSynchronized
  subst hsz
  have hD := hD0.self (sz := s.heap.size)
  generalize hAe : va_A (pre1_J3_checkIndex_8e157_6 T a ex fi fl vi) s.heap.size = A at hD hQ
  have hA : ∀ q : Nat, s.heap.size ≤ q → A q := fun q h => by rw [← hAe]; exact Or.inr h
  have hS : va_S A s.heap s.heap [] := va_S.rf
  replace hP : va_P D vwCl [] s.heap := hP
  replace hD : va_D A [] := hD
  have hl := lv_entry ([.int (vi 0), .int 58, .ref (ex 0)]) (n := 3) (Nat.le_of_ble_eq_true rfl)
  rw [lg_entry_eq]
  generalize (lg_sl ([.int (vi 0), .int 58, .ref (ex 0)]) ++ List.replicate (3 - (lg_sl ([.int (vi 0), .int 58, .ref (ex 0)])).length) Slot.unset).toArray = ls at hl ⊢
  replace hl : lv_has ls 3 [(0, .int (vi 0)), (1, .int 58), (2, .ref (ex 0))] := hl
  refine lv_iload_n hx hb dJ3_checkIndex_8e157_0 rfl (lv_at hl 0 rfl) ?_
  refine lv_if_lt (tgt := 9) hx hb dJ3_checkIndex_8e157_1 (by decide) (fun c => by exfalso; have h9 := xlt (k := 0) (by decide) c; omega) (fun _ => ?_)
  refine lv_iload_n hx hb dJ3_checkIndex_8e157_4 rfl (lv_at hl 0 rfl) ?_
  refine lv_iload_n hx hb dJ3_checkIndex_8e157_5 rfl (lv_at hl 1 rfl) ?_
  refine lv_icmp_lt (tgt := 16) hx hb dJ3_checkIndex_8e157_6 (by decide) (fun _ => ?_) (fun c => by exfalso; have h9 := xnlt (k := 58) (by decide) c; omega)
  refine lv_iload_n hx hb dJ3_checkIndex_8e157_16 rfl (lv_at hl 0 rfl) ?_
  have hP9 := hP.sub (ws' := []) [] rfl
  have hD9 := hD.sub (ws' := []) [] (by decide +kernel) rfl
  rw [hQ]
  exact W.iret (v := (vi 0)) hx hb hr (fun t ht hW => ⟨⟨(vi 0), (), rfl, rfl, ⟨xa [], xf [], xh [], xv [], by rw [ht]; exact hP9, hD9, trivial⟩⟩, hS.F ht⟩) hS.2.2 dJ3_checkIndex_8e157_17
abbrev pre1_J0_checkIndex_df160_3 (T : Nat → ClassId) (a ex : Nat → Nat) (fi : Nat → Nat → Int32) (fl : Nat → Nat → Int64) (vi : Nat → Int32) : va_W := []
set_option maxHeartbeats 4000000 in
set_option maxRecDepth 100000 in
theorem c1_J0_checkIndex_df160_3 (l : Launch) (D : va_G) (T : Nat → ClassId) (a ex : Nat → Nat) (fi : Nat → Nat → Int32) (fl : Nat → Nat → Int64) (vi : Nat → Int32) (kK kV : Nat → Nat) (sz : Nat) (hd0 : (0 ≤ (vi 0).toInt ∧ (vi 0).toInt ≤ 57)) : Met l yJ0_checkIndex_df160 (xw yJ0_checkIndex_df160 cJ0_checkIndex_df160 2 none) ({ frames := 1, cells := 0, slots := 0, locals := 26 }) (xPs D T kK kV [.int (vi 0), .int 58] sz (pre1_J0_checkIndex_df160_3 T a ex fi fl vi)) (va_Qv (fun _ : Unit => True) (xB D (va_A (pre1_J0_checkIndex_df160_3 T a ex fi fl vi) sz) (fun _ => True) (fun b fj fm vj => [])) (va_A (pre1_J0_checkIndex_df160_3 T a ex fi fl vi) sz)) 0 0 (va_A (pre1_J0_checkIndex_df160_3 T a ex fi fl vi) sz) := by
  refine xofW (cc := cJ0_checkIndex_df160) (maxL := 2) (ret := none) (by decide) rfl ?_
  intro p e s m args below meth c s₁ R Q hR hQ B hml hv
  obtain ⟨rfl, hsz, hP, hK, hD0, hT⟩ := hv
  have hx := B.exec
  have hb := B.bytes
  have hr := B.returns
  have hts := atoms_spec (ws := xw yJ0_checkIndex_df160 cJ0_checkIndex_df160 2 none) B.pre
  have htg : ∀ w ∈ xg, w.before _ s = true := fun w h => hts w (List.mem_cons_of_mem _ h)
  have hown : s.vm.findClass RJ0 = some m.cls := findClass_of_methodNamed B.named
  have hlocks := B.notSynchronized
  subst hsz
  have hD := hD0.self (sz := s.heap.size)
  generalize hAe : va_A (pre1_J0_checkIndex_df160_3 T a ex fi fl vi) s.heap.size = A at hD hQ hT
  have hA : ∀ q : Nat, s.heap.size ≤ q → A q := fun q h => by rw [← hAe]; exact Or.inr h
  have hS : va_S A s.heap s.heap [] := va_S.rf
  replace hP : va_P D vwCl [] s.heap := hP
  replace hD : va_D A [] := hD
  have hl := lv_entry ([.int (vi 0), .int 58]) (n := 2) (Nat.le_of_ble_eq_true rfl)
  rw [lg_entry_eq]
  generalize (lg_sl ([.int (vi 0), .int 58]) ++ List.replicate (2 - (lg_sl ([.int (vi 0), .int 58])).length) Slot.unset).toArray = ls at hl ⊢
  replace hl : lv_has ls 2 [(0, .int (vi 0)), (1, .int 58)] := hl
  refine lv_iload_n hx hb dJ0_checkIndex_df160_0 rfl (lv_at hl 0 rfl) ?_
  refine lv_iload_n hx hb dJ0_checkIndex_df160_1 rfl (lv_at hl 1 rfl) ?_
  rcases hT.2.2.2 with hz9 | ⟨z9, hz9⟩
  · refine va_gets hx hb hz9 hS hown (htg _ kw_68) (fun _ h9 => h9) dJ0_checkIndex_df160_2 ?_
    have hPc := hP.sub (ws' := (pre1_J3_checkIndex_8e157_5 T (xa []) (xa []) (xf []) (xh []) (xv [(vi 0)]))) [] rfl
    have hDc := hD.sub (ws' := (pre1_J3_checkIndex_8e157_5 T (xa []) (xa []) (xf []) (xh []) (xv [(vi 0)]))) [] (by decide) rfl
    have hFc := va_free (wc := (pre1_J3_checkIndex_8e157_5 T (xa []) (xa []) (xf []) (xh []) (xv [(vi 0)]))) hD hS hA [] rfl
    refine va_calli (va_runS (As := [.int (vi 0), .int 58, .null]) (rest := []) ⟨hx, hb, hml, hown, htg⟩ (c1_J3_checkIndex_8e157_5 l D T (xa []) (xa []) (xf []) (xh []) (xv [(vi 0)]) s.heap.size (by show (0 ≤ ((vi 0) : Int32).toInt ∧ ((vi 0) : Int32).toInt ≤ 57); omega)) ⟨callB_of 3 htg (xg_ok kw_72) rfl rfl rfl (htg _ kw_5) (htg _ kw_70) (by decide +kernel) ⟨by rw [hR]; exact Nat.le_of_ble_eq_true rfl, by rw [hR]; exact Nat.le_of_ble_eq_true rfl⟩, htg _ kw_71⟩ (xpreS hK hPc hDc) rfl rfl hl.1 rfl (lv_room (Nat.le_of_ble_eq_true rfl)) dJ0_checkIndex_df160_5 ⟨by rw [hR]; exact Nat.le_of_ble_eq_true rfl, by rw [hR]; exact Nat.le_of_ble_eq_true rfl⟩) hS (fun q _ h => hFc q h) hFc (fun r9 u t H1 locs ht hvm hw hB hz1 hk1 hS => ?_)
    obtain ⟨bk, fik, flk, vik, hP1, hD1, hGk⟩ := hB
    rw [ht] at hP1
    obtain ⟨hP, hD⟩ := va_join (wr := []) (w1 := []) hP hD [] [] rfl rfl (by decide) (by decide) hk1 hFc hP1 hD1
    subst hw
    clear hPc hDc hFc hP1 hD1 hk1 hz1 hvm ht
    generalize H1 = H at hP hS ⊢
    replace hP : va_P D vwCl [] H := hP
    replace hD : va_D A [] := hD
    refine lv_pop hx hb dJ0_checkIndex_df160_8 rfl ?_
    have hP9 := hP.sub (ws' := []) [] rfl
    have hD9 := hD.sub (ws' := []) [] (by decide +kernel) rfl
    rw [hQ]
    exact W.vret hx hb hr (fun t ht hW => ⟨⟨(), rfl, trivial, ⟨xa [], xf [], xh [], xv [], by rw [ht]; exact hP9, hD9, trivial⟩⟩, hS.F ht⟩) hS.2.2 dJ0_checkIndex_df160_9
  · refine va_gets hx hb hz9 hS hown (htg _ kw_68) (fun _ h9 => h9) dJ0_checkIndex_df160_2 ?_
    have hPc := hP.sub (ws' := (pre1_J3_checkIndex_8e157_6 T (xa []) (xa [z9]) (xf []) (xh []) (xv [(vi 0)]))) [] rfl
    have hDc := hD.sub (ws' := (pre1_J3_checkIndex_8e157_6 T (xa []) (xa [z9]) (xf []) (xh []) (xv [(vi 0)]))) [] (by decide) rfl
    have hFc := va_free (wc := (pre1_J3_checkIndex_8e157_6 T (xa []) (xa [z9]) (xf []) (xh []) (xv [(vi 0)]))) hD hS hA [] rfl
    refine va_calli (va_runS (As := [.int (vi 0), .int 58, .ref z9]) (rest := []) ⟨hx, hb, hml, hown, htg⟩ (c1_J3_checkIndex_8e157_6 l D T (xa []) (xa [z9]) (xf []) (xh []) (xv [(vi 0)]) s.heap.size (by show (0 ≤ ((vi 0) : Int32).toInt ∧ ((vi 0) : Int32).toInt ≤ 57); omega)) ⟨callB_of 3 htg (xg_ok kw_72) rfl rfl rfl (htg _ kw_5) (htg _ kw_70) (by decide +kernel) ⟨by rw [hR]; exact Nat.le_of_ble_eq_true rfl, by rw [hR]; exact Nat.le_of_ble_eq_true rfl⟩, htg _ kw_71⟩ (xpreS hK hPc hDc) rfl rfl hl.1 rfl (lv_room (Nat.le_of_ble_eq_true rfl)) dJ0_checkIndex_df160_5 ⟨by rw [hR]; exact Nat.le_of_ble_eq_true rfl, by rw [hR]; exact Nat.le_of_ble_eq_true rfl⟩) hS (fun q _ h => hFc q h) hFc (fun r9 u t H1 locs ht hvm hw hB hz1 hk1 hS => ?_)
    obtain ⟨bk_1, fik_1, flk_1, vik_1, hP1, hD1, hGk_1⟩ := hB
    rw [ht] at hP1
    obtain ⟨hP, hD⟩ := va_join (wr := []) (w1 := []) hP hD [] [] rfl rfl (by decide) (by decide) hk1 hFc hP1 hD1
    subst hw
    clear hPc hDc hFc hP1 hD1 hk1 hz1 hvm ht
    generalize H1 = H at hP hS ⊢
    replace hP : va_P D vwCl [] H := hP
    replace hD : va_D A [] := hD
    refine lv_pop hx hb dJ0_checkIndex_df160_8 rfl ?_
    have hP9 := hP.sub (ws' := []) [] rfl
    have hD9 := hD.sub (ws' := []) [] (by decide +kernel) rfl
    rw [hQ]
    exact W.vret hx hb hr (fun t ht hW => ⟨⟨(), rfl, trivial, ⟨xa [], xf [], xh [], xv [], by rw [ht]; exact hP9, hD9, trivial⟩⟩, hS.F ht⟩) hS.2.2 dJ0_checkIndex_df160_9
abbrev pre1_J1_charAt_3b067_3 (T : Nat → ClassId) (a ex : Nat → Nat) (fi : Nat → Nat → Int32) (fl : Nat → Nat → Int64) (vi : Nat → Int32) : va_W := []
set_option maxHeartbeats 4000000 in
set_option maxRecDepth 100000 in
theorem c1_J1_charAt_3b067_3 (l : Launch) (D : va_G) (T : Nat → ClassId) (a ex : Nat → Nat) (fi : Nat → Nat → Int32) (fl : Nat → Nat → Int64) (vi : Nat → Int32) (kK kV : Nat → Nat) (sz : Nat) (hd0 : (0 ≤ (vi 0).toInt ∧ (vi 0).toInt ≤ 57)) : Met l yJ1_charAt_3b067 (xw yJ1_charAt_3b067 cJ1_charAt_3b067 2 (some .char)) ({ frames := 2, cells := 0, slots := 0, locals := 51 }) (xPs D T kK kV [.ref (kV 2), .int (vi 0)] sz (pre1_J1_charAt_3b067_3 T a ex fi fl vi)) (va_Qi (fun r (_ : Unit) => narrow .char (.int r) = .int r) (xB D (va_A (pre1_J1_charAt_3b067_3 T a ex fi fl vi) sz) (fun _ => True) (fun b fj fm vj => [])) (va_A (pre1_J1_charAt_3b067_3 T a ex fi fl vi) sz)) 0 0 (va_A (pre1_J1_charAt_3b067_3 T a ex fi fl vi) sz) := by
  refine xofW (cc := cJ1_charAt_3b067) (maxL := 2) (ret := (some .char)) (by decide) rfl ?_
  intro p e s m args below meth c s₁ R Q hR hQ B hml hv
  obtain ⟨rfl, hsz, hP, hK, hD0, hT⟩ := hv
  have hx := B.exec
  have hb := B.bytes
  have hr := B.returns
  have hts := atoms_spec (ws := xw yJ1_charAt_3b067 cJ1_charAt_3b067 2 (some .char)) B.pre
  have htg : ∀ w ∈ xg, w.before _ s = true := fun w h => hts w (List.mem_cons_of_mem _ h)
  have hown : s.vm.findClass RJ1 = some m.cls := findClass_of_methodNamed B.named
  have hlocks := B.notSynchronized
  subst hsz
  have hD := hD0.self (sz := s.heap.size)
  generalize hAe : va_A (pre1_J1_charAt_3b067_3 T a ex fi fl vi) s.heap.size = A at hD hQ hT
  have hA : ∀ q : Nat, s.heap.size ≤ q → A q := fun q h => by rw [← hAe]; exact Or.inr h
  have hS : va_S A s.heap s.heap [] := va_S.rf
  replace hP : va_P D vwCl [] s.heap := hP
  replace hD : va_D A [] := hD
  have hl := lv_entry ([.ref (kV 2), .int (vi 0)]) (n := 2) (Nat.le_of_ble_eq_true rfl)
  rw [lg_entry_eq]
  generalize (lg_sl ([.ref (kV 2), .int (vi 0)]) ++ List.replicate (2 - (lg_sl ([.ref (kV 2), .int (vi 0)])).length) Slot.unset).toArray = ls at hl ⊢
  replace hl : lv_has ls 2 [(0, .ref (kV 2)), (1, .int (vi 0))] := hl
  refine lv_iload_n hx hb dJ1_charAt_3b067_0 rfl (lv_at hl 1 rfl) ?_
  refine lv_aload_n hx hb dJ1_charAt_3b067_1 rfl (lv_at hl 0 rfl) ?_
  refine va_tlen (v := 58) hx hb (hT.2.1 2 (by decide)).2.2.2 hS (by decide) dJ1_charAt_3b067_2 ?_
  have hPc := hP.sub (ws' := (pre1_J0_checkIndex_df160_3 T (xa []) (xa []) (xf []) (xh []) (xv [(vi 0)]))) [] rfl
  have hDc := hD.sub (ws' := (pre1_J0_checkIndex_df160_3 T (xa []) (xa []) (xf []) (xh []) (xv [(vi 0)]))) [] (by decide) rfl
  have hFc := va_free (wc := (pre1_J0_checkIndex_df160_3 T (xa []) (xa []) (xf []) (xh []) (xv [(vi 0)]))) hD hS hA [] rfl
  refine va_callv (va_runS (As := [.int (vi 0), .int 58]) (rest := []) ⟨hx, hb, hml, hown, htg⟩ (c1_J0_checkIndex_df160_3 l D T (xa []) (xa []) (xf []) (xh []) (xv [(vi 0)]) kK kV s.heap.size (by show (0 ≤ ((vi 0) : Int32).toInt ∧ ((vi 0) : Int32).toInt ≤ 57); omega)) ⟨callB_of 2 htg (xg_ok kw_67) rfl rfl rfl (htg _ kw_3) (htg _ kw_65) (by decide +kernel) ⟨by rw [hR]; exact Nat.le_of_ble_eq_true rfl, by rw [hR]; exact Nat.le_of_ble_eq_true rfl⟩, htg _ kw_66⟩ (xpreSs hK hPc hDc hT hFc hS) rfl rfl hl.1 rfl (lv_room (Nat.le_of_ble_eq_true rfl)) dJ1_charAt_3b067_3 ⟨by rw [hR]; exact Nat.le_of_ble_eq_true rfl, by rw [hR]; exact Nat.le_of_ble_eq_true rfl⟩) hS (fun q _ h => hFc q h) hFc (fun u t H1 locs ht hvm hw hB hz1 hk1 hS => ?_)
  obtain ⟨bk, fik, flk, vik, hP1, hD1, hGk⟩ := hB
  rw [ht] at hP1
  obtain ⟨hP, hD⟩ := va_join (wr := []) (w1 := []) hP hD [] [] rfl rfl (by decide) (by decide) hk1 hFc hP1 hD1
  clear hPc hDc hFc hP1 hD1 hk1 hz1 hvm ht hw
  generalize H1 = H at hP hS ⊢
  replace hP : va_P D vwCl [] H := hP
  replace hD : va_D A [] := hD
  refine lv_aload_n hx hb dJ1_charAt_3b067_6 rfl (lv_at hl 0 rfl) ?_
  refine lv_iload_n hx hb dJ1_charAt_3b067_7 rfl (lv_at hl 1 rfl) ?_
  refine va_tb hx hb (hT.2.1 2 (by decide)).2.2.2 hS (show vp_in (vi 0) 58 from (vp_in_iff.mpr (by omega))) rfl dJ1_charAt_3b067_8 ?_
  refine lv_topi (fun z8 _ => ?_)
  refine lv_sipush (v := 255) hx hb dJ1_charAt_3b067_9 (by decide) ?_
  refine lv_iand hx hb dJ1_charAt_3b067_12 ?_
  refine lv_topi (fun z12 _ => ?_)
  refine lv_i2c hx hb dJ1_charAt_3b067_13 rfl ?_
  refine lv_topi (fun z13 ez13 => ?_)
  have nz13 : narrow .char (.int z13) = .int z13 := by rw [ez13]; exact pk_nc _
  have hP9 := hP.sub (ws' := []) [] rfl
  have hD9 := hD.sub (ws' := []) [] (by decide +kernel) rfl
  rw [hQ]
  exact W.zret (v := z13) hx hb hr nz13 (fun t ht hW => ⟨⟨z13, (), rfl, nz13, ⟨xa [], xf [], xh [], xv [], by rw [ht]; exact hP9, hD9, trivial⟩⟩, hS.F ht⟩) hS.2.2 dJ1_charAt_3b067_14
abbrev pre1_J0_charAt_5068e_3 (T : Nat → ClassId) (a ex : Nat → Nat) (fi : Nat → Nat → Int32) (fl : Nat → Nat → Int64) (vi : Nat → Int32) : va_W := []
set_option maxHeartbeats 4000000 in
set_option maxRecDepth 100000 in
theorem c1_J0_charAt_5068e_3 (l : Launch) (D : va_G) (T : Nat → ClassId) (a ex : Nat → Nat) (fi : Nat → Nat → Int32) (fl : Nat → Nat → Int64) (vi : Nat → Int32) (kK kV : Nat → Nat) (sz : Nat) (hd0 : (0 ≤ (vi 0).toInt ∧ (vi 0).toInt ≤ 57)) : Met l yJ0_charAt_5068e (xw yJ0_charAt_5068e cJ0_charAt_5068e 2 (some .char)) ({ frames := 3, cells := 0, slots := 0, locals := 76 }) (xPs D T kK kV [.ref (kK 2), .int (vi 0)] sz (pre1_J0_charAt_5068e_3 T a ex fi fl vi)) (va_Qi (fun r (_ : Unit) => narrow .char (.int r) = .int r) (xB D (va_A (pre1_J0_charAt_5068e_3 T a ex fi fl vi) sz) (fun _ => True) (fun b fj fm vj => [])) (va_A (pre1_J0_charAt_5068e_3 T a ex fi fl vi) sz)) 0 0 (va_A (pre1_J0_charAt_5068e_3 T a ex fi fl vi) sz) := by
  refine xofW (cc := cJ0_charAt_5068e) (maxL := 2) (ret := (some .char)) (by decide) rfl ?_
  intro p e s m args below meth c s₁ R Q hR hQ B hml hv
  obtain ⟨rfl, hsz, hP, hK, hD0, hT⟩ := hv
  have hx := B.exec
  have hb := B.bytes
  have hr := B.returns
  have hts := atoms_spec (ws := xw yJ0_charAt_5068e cJ0_charAt_5068e 2 (some .char)) B.pre
  have htg : ∀ w ∈ xg, w.before _ s = true := fun w h => hts w (List.mem_cons_of_mem _ h)
  have hown : s.vm.findClass RJ0 = some m.cls := findClass_of_methodNamed B.named
  have hlocks := B.notSynchronized
  subst hsz
  have hD := hD0.self (sz := s.heap.size)
  generalize hAe : va_A (pre1_J0_charAt_5068e_3 T a ex fi fl vi) s.heap.size = A at hD hQ hT
  have hA : ∀ q : Nat, s.heap.size ≤ q → A q := fun q h => by rw [← hAe]; exact Or.inr h
  have hS : va_S A s.heap s.heap [] := va_S.rf
  replace hP : va_P D vwCl [] s.heap := hP
  replace hD : va_D A [] := hD
  have hl := lv_entry ([.ref (kK 2), .int (vi 0)]) (n := 2) (Nat.le_of_ble_eq_true rfl)
  rw [lg_entry_eq]
  generalize (lg_sl ([.ref (kK 2), .int (vi 0)]) ++ List.replicate (2 - (lg_sl ([.ref (kK 2), .int (vi 0)])).length) Slot.unset).toArray = ls at hl ⊢
  replace hl : lv_has ls 2 [(0, .ref (kK 2)), (1, .int (vi 0))] := hl
  refine lv_aload_n hx hb dJ0_charAt_5068e_0 rfl (lv_at hl 0 rfl) ?_
  have hPc := hP.sub (ws' := (pre1_J0_isLatin1_aae02_3 T (xa []) (xa []) (xf []) (xh []) (xv []))) [] rfl
  have hDc := hD.sub (ws' := (pre1_J0_isLatin1_aae02_3 T (xa []) (xa []) (xf []) (xh []) (xv []))) [] (by decide) rfl
  have hFc := va_free (wc := (pre1_J0_isLatin1_aae02_3 T (xa []) (xa []) (xf []) (xh []) (xv []))) hD hS hA [] rfl
  refine va_calli (va_runV (As := []) (rest := []) ⟨hx, hb, hml, hown, htg⟩ (c1_J0_isLatin1_aae02_3 l D T (xa []) (xa []) (xf []) (xh []) (xv []) kK kV s.heap.size) ⟨callB_of 0 htg (xg_ok kw_61) rfl rfl rfl (htg _ kw_3) (htg _ kw_58) (by decide +kernel) ⟨by rw [hR]; exact Nat.le_of_ble_eq_true rfl, by rw [hR]; exact Nat.le_of_ble_eq_true rfl⟩, htg _ kw_59, htg _ kw_60⟩ (xpreVs hK hPc hDc hT hFc hS (xT.recv hT 2 (by decide) hS)) rfl rfl hl.1 rfl (lv_room (Nat.le_of_ble_eq_true rfl)) dJ0_charAt_5068e_1 ⟨by rw [hR]; exact Nat.le_of_ble_eq_true rfl, by rw [hR]; exact Nat.le_of_ble_eq_true rfl⟩) hS (fun q _ h => hFc q h) hFc (fun r9 u t H1 locs ht hvm hw hB hz1 hk1 hS => ?_)
  obtain ⟨bk, fik, flk, vik, hP1, hD1, hGk⟩ := hB
  rw [ht] at hP1
  obtain ⟨hP, hD⟩ := va_join (wr := []) (w1 := []) hP hD [] [] rfl rfl (by decide) (by decide) hk1 hFc hP1 hD1
  subst hw
  clear hPc hDc hFc hP1 hD1 hk1 hz1 hvm ht
  generalize H1 = H at hP hS ⊢
  replace hP : va_P D vwCl [] H := hP
  replace hD : va_D A [] := hD
  refine lv_if_eq (tgt := 16) hx hb dJ0_charAt_5068e_4 (by decide) (fun c => absurd c (by decide)) (fun _ => ?_)
  refine lv_aload_n hx hb dJ0_charAt_5068e_7 rfl (lv_at hl 0 rfl) ?_
  refine vk_getf hx hb (hT.2.1 2 (by decide)).2.2.1 hS hown (htg _ kw_2030) (fun _ h9 => h9) dJ0_charAt_5068e_8 ?_
  refine lv_iload_n hx hb dJ0_charAt_5068e_11 rfl (lv_at hl 1 rfl) ?_
  have hPc := hP.sub (ws' := (pre1_J1_charAt_3b067_3 T (xa []) (xa []) (xf []) (xh []) (xv [(vi 0)]))) [] rfl
  have hDc := hD.sub (ws' := (pre1_J1_charAt_3b067_3 T (xa []) (xa []) (xf []) (xh []) (xv [(vi 0)]))) [] (by decide) rfl
  have hFc := va_free (wc := (pre1_J1_charAt_3b067_3 T (xa []) (xa []) (xf []) (xh []) (xv [(vi 0)]))) hD hS hA [] rfl
  refine va_calli (va_runS (As := [.ref (kV 2), .int (vi 0)]) (rest := []) ⟨hx, hb, hml, hown, htg⟩ (c1_J1_charAt_3b067_3 l D T (xa []) (xa []) (xf []) (xh []) (xv [(vi 0)]) kK kV H.size (by show (0 ≤ ((vi 0) : Int32).toInt ∧ ((vi 0) : Int32).toInt ≤ 57); omega)) ⟨callB_of 2 htg (xg_ok kw_64) rfl rfl rfl (htg _ kw_4) (htg _ kw_62) (by decide +kernel) ⟨by rw [hR]; exact Nat.le_of_ble_eq_true rfl, by rw [hR]; exact Nat.le_of_ble_eq_true rfl⟩, htg _ kw_63⟩ (xpreSs hK hPc hDc hT hFc hS) rfl rfl hl.1 rfl (lv_room (Nat.le_of_ble_eq_true rfl)) dJ0_charAt_5068e_12 ⟨by rw [hR]; exact Nat.le_of_ble_eq_true rfl, by rw [hR]; exact Nat.le_of_ble_eq_true rfl⟩) hS (fun q _ h => hFc q h) hFc (fun r9 u t H1 locs ht hvm hw hB hz1 hk1 hS => ?_)
  obtain ⟨bk_1, fik_1, flk_1, vik_1, hP1, hD1, hGk_1⟩ := hB
  rw [ht] at hP1
  obtain ⟨hP, hD⟩ := va_join (wr := []) (w1 := []) hP hD [] [] rfl rfl (by decide) (by decide) hk1 hFc hP1 hD1
  obtain ⟨rk_1, er9⟩ : ∃ z, z = r9 := ⟨_, rfl⟩
  subst er9
  have nrk_1 := hw
  clear hPc hDc hFc hP1 hD1 hk1 hz1 hvm ht
  generalize H1 = H at hP hS ⊢
  replace hP : va_P D vwCl [] H := hP
  replace hD : va_D A [] := hD
  have hP9 := hP.sub (ws' := []) [] rfl
  have hD9 := hD.sub (ws' := []) [] (by decide +kernel) rfl
  rw [hQ]
  exact W.zret (v := rk_1) hx hb hr nrk_1 (fun t ht hW => ⟨⟨rk_1, (), rfl, nrk_1, ⟨xa [], xf [], xh [], xv [], by rw [ht]; exact hP9, hD9, trivial⟩⟩, hS.F ht⟩) hS.2.2 dJ0_charAt_5068e_15
abbrev pre1_X6_keepOwn_3 (T : Nat → ClassId) (a ex : Nat → Nat) (fi : Nat → Nat → Int32) (fl : Nat → Nat → Int64) (vi : Nat → Int32) : va_W := [((a 0), .inr (6, [.ref (ex 0), .ref (a 1), .int (vi 0), .int 0, .int 0, .int 0, .int 0, .int 0, .long 0, .int 0, .int 0, .int 0, .int 0, .int 0])), ((a 1), .inl (T 2, 27, .inr (.inl (fl 0))))]
set_option maxHeartbeats 4000000 in
set_option maxRecDepth 100000 in
theorem c1_X6_keepOwn_3 (l : Launch) (D : va_G) (T : Nat → ClassId) (a ex : Nat → Nat) (fi : Nat → Nat → Int32) (fl : Nat → Nat → Int64) (vi : Nat → Int32) (kK kV : Nat → Nat) (sz : Nat) (hd0 : (0 ≤ (vi 0).toInt ∧ (vi 0).toInt ≤ 27)) : Met l yX6_keepOwn (xw yX6_keepOwn cX6_keepOwn 5 none) ({ frames := 4, cells := 0, slots := 0, locals := 101 }) (xPs D T kK kV [.ref (a 0), .ref (kK 2)] sz (pre1_X6_keepOwn_3 T a ex fi fl vi)) (va_Qv (fun _ : Unit => True) (xB D (va_A (pre1_X6_keepOwn_3 T a ex fi fl vi) sz) (fun vj => ((0 ≤ (vj 0).toInt ∧ (vj 0).toInt ≤ 27)) ∧ True) (fun b fj fm vj => [((a 0), .inr (6, [.ref (ex 0), .ref (a 1), .int (vj 0), .int 0, .int 0, .int 0, .int 0, .int 0, .long 0, .int 0, .int 0, .int 0, .int 0, .int 0])), ((a 1), .inl (T 2, 27, .inr (.inl (fm 0))))])) (va_A (pre1_X6_keepOwn_3 T a ex fi fl vi) sz)) 0 0 (va_A (pre1_X6_keepOwn_3 T a ex fi fl vi) sz) := by
  refine xofW (cc := cX6_keepOwn) (maxL := 5) (ret := none) (by decide) rfl ?_
  intro p e s m args below meth c s₁ R Q hR hQ B hml hv
  obtain ⟨rfl, hsz, hP, hK, hD0, hT⟩ := hv
  have hx := B.exec
  have hb := B.bytes
  have hr := B.returns
  have hts := atoms_spec (ws := xw yX6_keepOwn cX6_keepOwn 5 none) B.pre
  have htg : ∀ w ∈ xg, w.before _ s = true := fun w h => hts w (List.mem_cons_of_mem _ h)
  have hown : s.vm.findClass RX6 = some m.cls := findClass_of_methodNamed B.named
  have hlocks := B.notSynchronized
  subst hsz
  have hD := hD0.self (sz := s.heap.size)
  generalize hAe : va_A (pre1_X6_keepOwn_3 T a ex fi fl vi) s.heap.size = A at hD hQ hT
  have hA : ∀ q : Nat, s.heap.size ≤ q → A q := fun q h => by rw [← hAe]; exact Or.inr h
  have hS : va_S A s.heap s.heap [] := va_S.rf
  replace hP : va_P D vwCl [((a 0), .inr (6, [.ref (ex 0), .ref (a 1), .int (vi 0), .int 0, .int 0, .int 0, .int 0, .int 0, .long 0, .int 0, .int 0, .int 0, .int 0, .int 0])), ((a 1), .inl (T 2, 27, .inr (.inl (fl 0))))] s.heap := hP
  replace hD : va_D A [((a 0), .inr (6, [.ref (ex 0), .ref (a 1), .int (vi 0), .int 0, .int 0, .int 0, .int 0, .int 0, .long 0, .int 0, .int 0, .int 0, .int 0, .int 0])), ((a 1), .inl (T 2, 27, .inr (.inl (fl 0))))] := hD
  have hl := lv_entry ([.ref (a 0), .ref (kK 2)]) (n := 5) (Nat.le_of_ble_eq_true rfl)
  rw [lg_entry_eq]
  generalize (lg_sl ([.ref (a 0), .ref (kK 2)]) ++ List.replicate (5 - (lg_sl ([.ref (a 0), .ref (kK 2)])).length) Slot.unset).toArray = ls at hl ⊢
  replace hl : lv_has ls 5 [(0, .ref (a 0)), (1, .ref (kK 2))] := hl
  refine lv_lconst (v := 0) hx hb dX6_keepOwn_0 (by decide) ?_
  refine lv_lstore_n (lv' := [(2, .long 0), (0, .ref (a 0)), (1, .ref (kK 2))]) hx hb dX6_keepOwn_1 rfl hl (by decide) rfl (fun ls hl => ?_)
  refine lv_iconst (v := 0) hx hb dX6_keepOwn_2 (by decide) ?_
  refine lv_istore (lv' := [(4, .int 0), (2, .long 0), (0, .ref (a 0)), (1, .ref (kK 2))]) hx hb dX6_keepOwn_3 hl (by decide) rfl (fun ls hl => ?_)
  obtain ⟨c0, hc0, ec0⟩ := nI_of2 (x := (vi 0)) (M := 27) (n := 27) (by decide) (fun c => by have h9 := xlt (k := 0) (by decide) c; omega) (Int32.le_iff_toInt_le.mpr (by show (vi 0).toInt ≤ 27; omega))
  rw [ec0] at hP hD
  have lp : ∀ (n i : Nat) (pk : Int64) (cv : Nat) (fw : Nat → Int64) (H : Heap) (locs : List Loc) (ls : Array Slot), i + n = 58 → cv ≤ 27 → va_P D vwCl [((a 0), .inr (6, [.ref (ex 0), .ref (a 1), .int (nI cv), .int 0, .int 0, .int 0, .int 0, .int 0, .long 0, .int 0, .int 0, .int 0, .int 0, .int 0])), ((a 1), .inl (T 2, 27, .inr (.inl fw)))] H → va_D A [((a 0), .inr (6, [.ref (ex 0), .ref (a 1), .int (nI cv), .int 0, .int 0, .int 0, .int 0, .int 0, .long 0, .int 0, .int 0, .int 0, .int 0, .int 0])), ((a 1), .inl (T 2, 27, .inr (.inl fw)))] → va_S A s.heap H locs → lv_has ls 5 [(4, .int (nI i)), (2, .long pk), (0, .ref (a 0)), (1, .ref (kK 2))] → W p l e R s m ([.ref (a 0), .ref (kK 2)] : List Value).toArray below meth c H locs 0 0 Q (F0 m 5 ls []) := by
    intro n
    induction n with
    | zero =>
      intro i pk cv fw H locs ls hin hcv hP hD hS hl
      obtain rfl : i = 58 := by omega
      replace hl : lv_has ls 5 [(4, .int 58), (2, .long pk), (0, .ref (a 0)), (1, .ref (kK 2))] := hl
      refine lv_iload hx hb dX6_keepOwn_5 (lv_at hl 0 rfl) ?_
      refine lv_aload_n hx hb dX6_keepOwn_7 rfl (lv_at hl 3 rfl) ?_
      have hPc := hP.sub (ws' := (pre1_J0_length_8abf5_3 T (xa []) (xa []) (xf []) (xh []) (xv []))) [] rfl
      have hDc := hD.sub (ws' := (pre1_J0_length_8abf5_3 T (xa []) (xa []) (xf []) (xh []) (xv []))) [] (by decide) rfl
      have hFc := va_free (wc := (pre1_J0_length_8abf5_3 T (xa []) (xa []) (xf []) (xh []) (xv []))) hD hS hA [] rfl
      refine va_calli (va_runV (As := []) (rest := [.int 58]) ⟨hx, hb, hml, hown, htg⟩ (c1_J0_length_8abf5_3 l D T (xa []) (xa []) (xf []) (xh []) (xv []) kK kV H.size) ⟨callB_of 0 htg (xg_ok kw_47) rfl rfl rfl (htg _ kw_3) (htg _ kw_44) (by decide +kernel) ⟨by rw [hR]; exact Nat.le_of_ble_eq_true rfl, by rw [hR]; exact Nat.le_of_ble_eq_true rfl⟩, htg _ kw_45, htg _ kw_46⟩ (xpreVs hK hPc hDc hT hFc hS (xT.recv hT 2 (by decide) hS)) rfl rfl hl.1 rfl (lv_room (Nat.le_of_ble_eq_true rfl)) dX6_keepOwn_8 ⟨by rw [hR]; exact Nat.le_of_ble_eq_true rfl, by rw [hR]; exact Nat.le_of_ble_eq_true rfl⟩) hS (fun q _ h => hFc q h) hFc (fun r9 u t H1 locs ht hvm hw hB hz1 hk1 hS => ?_)
      obtain ⟨bk, fik, flk, vik, hP1, hD1, hGk⟩ := hB
      rw [ht] at hP1
      obtain ⟨hP, hD⟩ := va_join (wr := [((a 0), .inr (6, [.ref (ex 0), .ref (a 1), .int (nI cv), .int 0, .int 0, .int 0, .int 0, .int 0, .long 0, .int 0, .int 0, .int 0, .int 0, .int 0])), ((a 1), .inl (T 2, 27, .inr (.inl fw)))]) (w1 := []) hP hD [] [0, 1] rfl rfl (by decide) (by decide) hk1 hFc hP1 hD1
      subst hw
      clear hPc hDc hFc hP1 hD1 hk1 hz1 hvm ht
      generalize H1 = H at hP hS ⊢
      replace hP : va_P D vwCl [((a 0), .inr (6, [.ref (ex 0), .ref (a 1), .int (nI cv), .int 0, .int 0, .int 0, .int 0, .int 0, .long 0, .int 0, .int 0, .int 0, .int 0, .int 0])), ((a 1), .inl (T 2, 27, .inr (.inl fw)))] H := hP
      replace hD : va_D A [((a 0), .inr (6, [.ref (ex 0), .ref (a 1), .int (nI cv), .int 0, .int 0, .int 0, .int 0, .int 0, .long 0, .int 0, .int 0, .int 0, .int 0, .int 0])), ((a 1), .inl (T 2, 27, .inr (.inl fw)))] := hD
      refine lv_icmp_ge (tgt := 78) hx hb dX6_keepOwn_11 (by decide) (fun _ => ?_) (fun c => absurd (by decide) c)
      have hP9 := hP.sub (ws' := [((a 0), .inr (6, [.ref (ex 0), .ref (a 1), .int (nI cv), .int 0, .int 0, .int 0, .int 0, .int 0, .long 0, .int 0, .int 0, .int 0, .int 0, .int 0])), ((a 1), .inl (T 2, 27, .inr (.inl fw)))]) [0, 1] rfl
      have hD9 := hD.sub (ws' := [((a 0), .inr (6, [.ref (ex 0), .ref (a 1), .int (nI cv), .int 0, .int 0, .int 0, .int 0, .int 0, .long 0, .int 0, .int 0, .int 0, .int 0, .int 0])), ((a 1), .inl (T 2, 27, .inr (.inl fw)))]) [0, 1] (by decide +kernel) rfl
      rw [hQ]
      exact W.vret hx hb hr (fun t ht hW => ⟨⟨(), rfl, trivial, ⟨xa [], xf [], xh [fw], xv [(nI cv)], by rw [ht]; exact hP9, hD9, ⟨by show (0 ≤ ((nI cv) : Int32).toInt ∧ ((nI cv) : Int32).toInt ≤ 27); have h8 := nI_toInt (n := cv) (by omega); omega, trivial⟩⟩⟩, hS.F ht⟩) hS.2.2 dX6_keepOwn_78
    | succ n ih =>
      intro i pk cv fw H locs ls hin hcv hP hD hS hl
      refine lv_iload hx hb dX6_keepOwn_5 (lv_at hl 0 rfl) ?_
      refine lv_aload_n hx hb dX6_keepOwn_7 rfl (lv_at hl 3 rfl) ?_
      have hPc := hP.sub (ws' := (pre1_J0_length_8abf5_3 T (xa []) (xa []) (xf []) (xh []) (xv []))) [] rfl
      have hDc := hD.sub (ws' := (pre1_J0_length_8abf5_3 T (xa []) (xa []) (xf []) (xh []) (xv []))) [] (by decide) rfl
      have hFc := va_free (wc := (pre1_J0_length_8abf5_3 T (xa []) (xa []) (xf []) (xh []) (xv []))) hD hS hA [] rfl
      refine va_calli (va_runV (As := []) (rest := [.int (nI i)]) ⟨hx, hb, hml, hown, htg⟩ (c1_J0_length_8abf5_3 l D T (xa []) (xa []) (xf []) (xh []) (xv []) kK kV H.size) ⟨callB_of 0 htg (xg_ok kw_47) rfl rfl rfl (htg _ kw_3) (htg _ kw_44) (by decide +kernel) ⟨by rw [hR]; exact Nat.le_of_ble_eq_true rfl, by rw [hR]; exact Nat.le_of_ble_eq_true rfl⟩, htg _ kw_45, htg _ kw_46⟩ (xpreVs hK hPc hDc hT hFc hS (xT.recv hT 2 (by decide) hS)) rfl rfl hl.1 rfl (lv_room (Nat.le_of_ble_eq_true rfl)) dX6_keepOwn_8 ⟨by rw [hR]; exact Nat.le_of_ble_eq_true rfl, by rw [hR]; exact Nat.le_of_ble_eq_true rfl⟩) hS (fun q _ h => hFc q h) hFc (fun r9 u t H1 locs ht hvm hw hB hz1 hk1 hS => ?_)
      obtain ⟨bk_1, fik_1, flk_1, vik_1, hP1, hD1, hGk_1⟩ := hB
      rw [ht] at hP1
      obtain ⟨hP, hD⟩ := va_join (wr := [((a 0), .inr (6, [.ref (ex 0), .ref (a 1), .int (nI cv), .int 0, .int 0, .int 0, .int 0, .int 0, .long 0, .int 0, .int 0, .int 0, .int 0, .int 0])), ((a 1), .inl (T 2, 27, .inr (.inl fw)))]) (w1 := []) hP hD [] [0, 1] rfl rfl (by decide) (by decide) hk1 hFc hP1 hD1
      subst hw
      clear hPc hDc hFc hP1 hD1 hk1 hz1 hvm ht
      generalize H1 = H at hP hS ⊢
      replace hP : va_P D vwCl [((a 0), .inr (6, [.ref (ex 0), .ref (a 1), .int (nI cv), .int 0, .int 0, .int 0, .int 0, .int 0, .long 0, .int 0, .int 0, .int 0, .int 0, .int 0])), ((a 1), .inl (T 2, 27, .inr (.inl fw)))] H := hP
      replace hD : va_D A [((a 0), .inr (6, [.ref (ex 0), .ref (a 1), .int (nI cv), .int 0, .int 0, .int 0, .int 0, .int 0, .long 0, .int 0, .int 0, .int 0, .int 0, .int 0])), ((a 1), .inl (T 2, 27, .inr (.inl fw)))] := hD
      refine lv_icmp_ge (tgt := 78) hx hb dX6_keepOwn_11 (by decide) (fun c => by exfalso; have h9 := xge (k := 58) (by decide) c; have h8 := nI_toInt (n := i) (by omega); omega) (fun _ => ?_)
      refine lv_aload_n hx hb dX6_keepOwn_14 rfl (lv_at hl 2 rfl) ?_
      refine va_get (D := D) (ci := 6) (v := .int (nI cv)) (C := RX6) (T := TX6) (N := 14) hx hb htg inX6 hown hK.1 hP 0 rfl rfl 2 (by decide) (htg _ kw_96) (fun _ h9 => h9) rfl dX6_keepOwn_15 ?_
      refine lv_bipush (v := 27) hx hb dX6_keepOwn_18 (by decide) ?_
      refine lv_icmp_ge (tgt := 78) hx hb dX6_keepOwn_20 (by decide) (fun c20 => ?_) (fun c20 => ?_)
      · have c20 := xge (k := 27) (by decide) c20
        have h8 := nI_toInt (n := cv) (by omega)
        have hP9 := hP.sub (ws' := [((a 0), .inr (6, [.ref (ex 0), .ref (a 1), .int (nI cv), .int 0, .int 0, .int 0, .int 0, .int 0, .long 0, .int 0, .int 0, .int 0, .int 0, .int 0])), ((a 1), .inl (T 2, 27, .inr (.inl fw)))]) [0, 1] rfl
        have hD9 := hD.sub (ws' := [((a 0), .inr (6, [.ref (ex 0), .ref (a 1), .int (nI cv), .int 0, .int 0, .int 0, .int 0, .int 0, .long 0, .int 0, .int 0, .int 0, .int 0, .int 0])), ((a 1), .inl (T 2, 27, .inr (.inl fw)))]) [0, 1] (by decide +kernel) rfl
        rw [hQ]
        exact W.vret hx hb hr (fun t ht hW => ⟨⟨(), rfl, trivial, ⟨xa [], xf [], xh [fw], xv [(nI cv)], by rw [ht]; exact hP9, hD9, ⟨by show (0 ≤ ((nI cv) : Int32).toInt ∧ ((nI cv) : Int32).toInt ≤ 27); have h8 := nI_toInt (n := cv) (by omega); omega, trivial⟩⟩⟩, hS.F ht⟩) hS.2.2 dX6_keepOwn_78
      · have c20 := xnge (k := 27) (by decide) c20
        have h8 := nI_toInt (n := cv) (by omega)
        refine lv_aload_n hx hb dX6_keepOwn_23 rfl (lv_at hl 3 rfl) ?_
        refine lv_iload hx hb dX6_keepOwn_24 (lv_at hl 0 rfl) ?_
        have hPc := hP.sub (ws' := (pre1_J0_charAt_5068e_3 T (xa []) (xa []) (xf []) (xh []) (xv [(nI i)]))) [] rfl
        have hDc := hD.sub (ws' := (pre1_J0_charAt_5068e_3 T (xa []) (xa []) (xf []) (xh []) (xv [(nI i)]))) [] (by decide) rfl
        have hFc := va_free (wc := (pre1_J0_charAt_5068e_3 T (xa []) (xa []) (xf []) (xh []) (xv [(nI i)]))) hD hS hA [] rfl
        refine va_calli (va_runV (As := [.int (nI i)]) (rest := []) ⟨hx, hb, hml, hown, htg⟩ (c1_J0_charAt_5068e_3 l D T (xa []) (xa []) (xf []) (xh []) (xv [(nI i)]) kK kV H.size (by show (0 ≤ ((nI i) : Int32).toInt ∧ ((nI i) : Int32).toInt ≤ 57); have h8 := nI_toInt (n := i) (by omega); omega)) ⟨callB_of 1 htg (xg_ok kw_57) rfl rfl rfl (htg _ kw_3) (htg _ kw_54) (by decide +kernel) ⟨by rw [hR]; exact Nat.le_of_ble_eq_true rfl, by rw [hR]; exact Nat.le_of_ble_eq_true rfl⟩, htg _ kw_55, htg _ kw_56⟩ (xpreVs hK hPc hDc hT hFc hS (xT.recv hT 2 (by decide) hS)) rfl rfl hl.1 rfl (lv_room (Nat.le_of_ble_eq_true rfl)) dX6_keepOwn_26 ⟨by rw [hR]; exact Nat.le_of_ble_eq_true rfl, by rw [hR]; exact Nat.le_of_ble_eq_true rfl⟩) hS (fun q _ h => hFc q h) hFc (fun r9 u t H1 locs ht hvm hw hB hz1 hk1 hS => ?_)
        obtain ⟨bk_2, fik_2, flk_2, vik_2, hP1, hD1, hGk_2⟩ := hB
        rw [ht] at hP1
        obtain ⟨hP, hD⟩ := va_join (wr := [((a 0), .inr (6, [.ref (ex 0), .ref (a 1), .int (nI cv), .int 0, .int 0, .int 0, .int 0, .int 0, .long 0, .int 0, .int 0, .int 0, .int 0, .int 0])), ((a 1), .inl (T 2, 27, .inr (.inl fw)))]) (w1 := []) hP hD [] [0, 1] rfl rfl (by decide) (by decide) hk1 hFc hP1 hD1
        obtain ⟨rk_2, er9⟩ : ∃ z, z = r9 := ⟨_, rfl⟩
        subst er9
        have nrk_2 := hw
        clear hPc hDc hFc hP1 hD1 hk1 hz1 hvm ht
        generalize H1 = H at hP hS ⊢
        replace hP : va_P D vwCl [((a 0), .inr (6, [.ref (ex 0), .ref (a 1), .int (nI cv), .int 0, .int 0, .int 0, .int 0, .int 0, .long 0, .int 0, .int 0, .int 0, .int 0, .int 0])), ((a 1), .inl (T 2, 27, .inr (.inl fw)))] H := hP
        replace hD : va_D A [((a 0), .inr (6, [.ref (ex 0), .ref (a 1), .int (nI cv), .int 0, .int 0, .int 0, .int 0, .int 0, .long 0, .int 0, .int 0, .int 0, .int 0, .int 0])), ((a 1), .inl (T 2, 27, .inr (.inl fw)))] := hD
        refine lv_bipush (v := 32) hx hb dX6_keepOwn_29 (by decide) ?_
        refine lv_icmp_ne (tgt := 59) hx hb dX6_keepOwn_31 (by decide) (fun c31 => ?_) (fun c31 => ?_)
        · have c31 := xne (k := 32) (by decide) c31
          refine lv_lload_n hx hb dX6_keepOwn_59 rfl (lv_at hl 1 rfl) ?_
          refine lv_bipush (v := 8) hx hb dX6_keepOwn_60 (by decide) ?_
          refine lv_lshl hx hb dX6_keepOwn_62 rfl ?_
          refine lv_topl (fun z62 ez62 => ?_)
          refine lv_aload_n hx hb dX6_keepOwn_63 rfl (lv_at hl 3 rfl) ?_
          refine lv_iload hx hb dX6_keepOwn_64 (lv_at hl 0 rfl) ?_
          have hPc := hP.sub (ws' := (pre1_J0_charAt_5068e_3 T (xa []) (xa []) (xf []) (xh []) (xv [(nI i)]))) [] rfl
          have hDc := hD.sub (ws' := (pre1_J0_charAt_5068e_3 T (xa []) (xa []) (xf []) (xh []) (xv [(nI i)]))) [] (by decide) rfl
          have hFc := va_free (wc := (pre1_J0_charAt_5068e_3 T (xa []) (xa []) (xf []) (xh []) (xv [(nI i)]))) hD hS hA [] rfl
          refine va_calli (va_runV (As := [.int (nI i)]) (rest := [.long z62]) ⟨hx, hb, hml, hown, htg⟩ (c1_J0_charAt_5068e_3 l D T (xa []) (xa []) (xf []) (xh []) (xv [(nI i)]) kK kV H.size (by show (0 ≤ ((nI i) : Int32).toInt ∧ ((nI i) : Int32).toInt ≤ 57); have h8 := nI_toInt (n := i) (by omega); omega)) ⟨callB_of 1 htg (xg_ok kw_57) rfl rfl rfl (htg _ kw_3) (htg _ kw_54) (by decide +kernel) ⟨by rw [hR]; exact Nat.le_of_ble_eq_true rfl, by rw [hR]; exact Nat.le_of_ble_eq_true rfl⟩, htg _ kw_55, htg _ kw_56⟩ (xpreVs hK hPc hDc hT hFc hS (xT.recv hT 2 (by decide) hS)) rfl rfl hl.1 rfl (lv_room (Nat.le_of_ble_eq_true rfl)) dX6_keepOwn_66 ⟨by rw [hR]; exact Nat.le_of_ble_eq_true rfl, by rw [hR]; exact Nat.le_of_ble_eq_true rfl⟩) hS (fun q _ h => hFc q h) hFc (fun r9 u t H1 locs ht hvm hw hB hz1 hk1 hS => ?_)
          obtain ⟨bk_3, fik_3, flk_3, vik_3, hP1, hD1, hGk_3⟩ := hB
          rw [ht] at hP1
          obtain ⟨hP, hD⟩ := va_join (wr := [((a 0), .inr (6, [.ref (ex 0), .ref (a 1), .int (nI cv), .int 0, .int 0, .int 0, .int 0, .int 0, .long 0, .int 0, .int 0, .int 0, .int 0, .int 0])), ((a 1), .inl (T 2, 27, .inr (.inl fw)))]) (w1 := []) hP hD [] [0, 1] rfl rfl (by decide) (by decide) hk1 hFc hP1 hD1
          obtain ⟨rk_3, er9⟩ : ∃ z, z = r9 := ⟨_, rfl⟩
          subst er9
          have nrk_3 := hw
          clear hPc hDc hFc hP1 hD1 hk1 hz1 hvm ht
          generalize H1 = H at hP hS ⊢
          replace hP : va_P D vwCl [((a 0), .inr (6, [.ref (ex 0), .ref (a 1), .int (nI cv), .int 0, .int 0, .int 0, .int 0, .int 0, .long 0, .int 0, .int 0, .int 0, .int 0, .int 0])), ((a 1), .inl (T 2, 27, .inr (.inl fw)))] H := hP
          replace hD : va_D A [((a 0), .inr (6, [.ref (ex 0), .ref (a 1), .int (nI cv), .int 0, .int 0, .int 0, .int 0, .int 0, .long 0, .int 0, .int 0, .int 0, .int 0, .int 0])), ((a 1), .inl (T 2, 27, .inr (.inl fw)))] := hD
          refine lv_i2l hx hb dX6_keepOwn_69 rfl ?_
          refine lv_topl (fun z69 ez69 => ?_)
          refine lv_lor hx hb dX6_keepOwn_70 ?_
          refine lv_topl (fun z70 ez70 => ?_)
          refine lv_lstore_n (lv' := [(2, .long z70), (4, .int (nI i)), (0, .ref (a 0)), (1, .ref (kK 2))]) hx hb dX6_keepOwn_71 rfl hl (by decide) rfl (fun ls hl => ?_)
          refine lv_iinc (v := (nI (i + 1))) (lv' := [(4, .int (nI (i + 1))), (2, .long z70), (0, .ref (a 0)), (1, .ref (kK 2))]) hx hb dX6_keepOwn_72 hl (k := 1) rfl (nI_add (i) 1) (by decide) rfl (fun ls hl => ?_)
          refine lv_goto (tgt := 5) hx hb dX6_keepOwn_75 (by decide) ?_
          exact ih (i + 1) z70 (cv) fw _ _ _ (by omega) (by omega) (hP.sub [0, 1] rfl) (hD.sub [0, 1] (by decide) rfl) hS (lv_sub hl [0, 1, 2, 3] rfl)
        · have c31 := xeq (k := 32) (by decide) c31
          refine lv_aload_n hx hb dX6_keepOwn_34 rfl (lv_at hl 2 rfl) ?_
          refine va_get (D := D) (ci := 6) (v := .ref (a 1)) (C := RX6) (T := TX6) (N := 14) hx hb htg inX6 hown hK.1 hP 0 rfl rfl 1 (by decide) (htg _ kw_95) (fun _ h9 => h9) rfl dX6_keepOwn_35 ?_
          refine lv_aload_n hx hb dX6_keepOwn_38 rfl (lv_at hl 2 rfl) ?_
          refine va_get (D := D) (ci := 6) (v := .int (nI cv)) (C := RX6) (T := TX6) (N := 14) hx hb htg inX6 hown hK.1 hP 0 rfl rfl 2 (by decide) (htg _ kw_96) (fun _ h9 => h9) rfl dX6_keepOwn_39 ?_
          refine lv_lload_n hx hb dX6_keepOwn_42 rfl (lv_at hl 1 rfl) ?_
          refine va_last hx hb hK.1 hP hD hS 1 2 rfl rfl (vp_in_nI (n := cv) (by omega) (by decide)) dX6_keepOwn_43 (fun H locs hP hD hS => ?_)
          obtain ⟨f43, hP, hD⟩ : ∃ f43 : Nat → Int64, va_P D vwCl [((a 0), .inr (6, [.ref (ex 0), .ref (a 1), .int (nI cv), .int 0, .int 0, .int 0, .int 0, .int 0, .long 0, .int 0, .int 0, .int 0, .int 0, .int 0])), ((a 1), .inl (T 2, 27, .inr (.inl f43)))] H ∧ va_D A [((a 0), .inr (6, [.ref (ex 0), .ref (a 1), .int (nI cv), .int 0, .int 0, .int 0, .int 0, .int 0, .long 0, .int 0, .int 0, .int 0, .int 0, .int 0])), ((a 1), .inl (T 2, 27, .inr (.inl f43)))] := ⟨vp_updL fw ((nI cv) : Int32).toNatClampNeg (pk : Int64), hP, hD⟩
          refine lv_aload_n hx hb dX6_keepOwn_44 rfl (lv_at hl 2 rfl) ?_
          refine lv_dup hx hb dX6_keepOwn_45 rfl ?_
          refine va_get (D := D) (ci := 6) (v := .int (nI cv)) (C := RX6) (T := TX6) (N := 14) hx hb htg inX6 hown hK.1 hP 0 rfl rfl 2 (by decide) (htg _ kw_96) (fun _ h9 => h9) rfl dX6_keepOwn_46 ?_
          refine lv_iconst (v := 1) hx hb dX6_keepOwn_49 (by decide) ?_
          refine lv_iadd hx hb dX6_keepOwn_50 ?_
          refine xz_i (nI (cv + 1)) (nI_add (cv) (1)) ?_
          refine va_put (D := D) (ci := 6) (v := .int (nI (cv + 1))) (ty := .int) (C := RX6) (T := TX6) (N := 14) hx hb htg inX6 tyX6 tyX6_ok nmX6 hown hK.1 hP hD hS 0 rfl rfl 2 (by decide) (htg _ kw_96) (fun _ h9 => h9) rfl (by decide +kernel) rfl rfl (Nat.le_of_ble_eq_true rfl) dX6_keepOwn_51 (fun H locs hP hD hS => ?_)
          replace hP : va_P D vwCl [((a 0), .inr (6, [.ref (ex 0), .ref (a 1), .int (nI (cv + 1)), .int 0, .int 0, .int 0, .int 0, .int 0, .long 0, .int 0, .int 0, .int 0, .int 0, .int 0])), ((a 1), .inl (T 2, 27, .inr (.inl f43)))] H := hP
          replace hD : va_D A [((a 0), .inr (6, [.ref (ex 0), .ref (a 1), .int (nI (cv + 1)), .int 0, .int 0, .int 0, .int 0, .int 0, .long 0, .int 0, .int 0, .int 0, .int 0, .int 0])), ((a 1), .inl (T 2, 27, .inr (.inl f43)))] := hD
          refine lv_lconst (v := 0) hx hb dX6_keepOwn_54 (by decide) ?_
          refine lv_lstore_n (lv' := [(2, .long 0), (4, .int (nI i)), (0, .ref (a 0)), (1, .ref (kK 2))]) hx hb dX6_keepOwn_55 rfl hl (by decide) rfl (fun ls hl => ?_)
          refine lv_goto (tgt := 72) hx hb dX6_keepOwn_56 (by decide) ?_
          refine lv_iinc (v := (nI (i + 1))) (lv' := [(4, .int (nI (i + 1))), (2, .long 0), (0, .ref (a 0)), (1, .ref (kK 2))]) hx hb dX6_keepOwn_72 hl (k := 1) rfl (nI_add (i) 1) (by decide) rfl (fun ls hl => ?_)
          refine lv_goto (tgt := 5) hx hb dX6_keepOwn_75 (by decide) ?_
          exact ih (i + 1) 0 (cv + 1) f43 _ _ _ (by omega) (by omega) (hP.sub [0, 1] rfl) (hD.sub [0, 1] (by decide) rfl) hS (lv_sub hl [0, 1, 2, 3] rfl)
  exact lp 58 0 _ c0 _ _ _ _ (by omega) hc0 hP hD hS hl
abbrev pre1_X6_init (T : Nat → ClassId) (a ex : Nat → Nat) (fi : Nat → Nat → Int32) (fl : Nat → Nat → Int64) (vi : Nat → Int32) : va_W := [((a 0), .inr (6, [.null, .null, .int 0, .int 0, .int 0, .int 0, .int 0, .int 0, .long 0, .int 0, .int 0, .int 0, .int 0, .int 0]))]
set_option maxHeartbeats 4000000 in
set_option maxRecDepth 100000 in
theorem c1_X6_init (l : Launch) (D : va_G) (T : Nat → ClassId) (a ex : Nat → Nat) (fi : Nat → Nat → Int32) (fl : Nat → Nat → Int64) (vi : Nat → Int32) (kK kV : Nat → Nat) (sz : Nat) : Met l yX6_init (xw yX6_init cX6_init 1 none) ({ frames := 5, cells := 2, slots := 967, locals := 129 }) (xPs D T kK kV [.ref (a 0)] sz (pre1_X6_init T a ex fi fl vi)) (va_Qv (fun _ : Unit => True) (xB D (va_A (pre1_X6_init T a ex fi fl vi) sz) (fun _ => True) (fun b fj fm vj => [((a 0), .inr (6, [.ref (b 0), .ref (b 1), .int (vj 0), .int 0, .int 0, .int 0, .int 0, .int 0, .long 0, .int 0, .int 0, .int 0, .int 0, .int 0])), ((b 0), .inl (T 0, 940, .inl (fun _ => 0))), ((b 1), .inl (T 2, 27, .inr (.inl (fm 0))))])) (va_A (pre1_X6_init T a ex fi fl vi) sz)) 2 967 (va_A (pre1_X6_init T a ex fi fl vi) sz) := by
  refine xofW (cc := cX6_init) (maxL := 1) (ret := none) (by decide) rfl ?_
  intro p e s m args below meth c s₁ R Q hR hQ B hml hv
  obtain ⟨rfl, hsz, hP, hK, hD0, hT⟩ := hv
  have hx := B.exec
  have hb := B.bytes
  have hr := B.returns
  have hts := atoms_spec (ws := xw yX6_init cX6_init 1 none) B.pre
  have htg : ∀ w ∈ xg, w.before _ s = true := fun w h => hts w (List.mem_cons_of_mem _ h)
  have hown : s.vm.findClass RX6 = some m.cls := findClass_of_methodNamed B.named
  have hlocks := B.notSynchronized
  have hin : meth.name = "<init>" := (name_of_methodNamed B.named B.method).1
  subst hsz
  have hD := hD0.self (sz := s.heap.size)
  generalize hAe : va_A (pre1_X6_init T a ex fi fl vi) s.heap.size = A at hD hQ hT
  have hA : ∀ q : Nat, s.heap.size ≤ q → A q := fun q h => by rw [← hAe]; exact Or.inr h
  have hS : va_S A s.heap s.heap [] := va_S.rf
  replace hP : va_P D vwCl [((a 0), .inr (6, [.null, .null, .int 0, .int 0, .int 0, .int 0, .int 0, .int 0, .long 0, .int 0, .int 0, .int 0, .int 0, .int 0]))] s.heap := hP
  replace hD : va_D A [((a 0), .inr (6, [.null, .null, .int 0, .int 0, .int 0, .int 0, .int 0, .int 0, .long 0, .int 0, .int 0, .int 0, .int 0, .int 0]))] := hD
  have hl := lv_entry ([.ref (a 0)]) (n := 1) (Nat.le_of_ble_eq_true rfl)
  rw [lg_entry_eq]
  generalize (lg_sl ([.ref (a 0)]) ++ List.replicate (1 - (lg_sl ([.ref (a 0)])).length) Slot.unset).toArray = ls at hl ⊢
  replace hl : lv_has ls 1 [(0, .ref (a 0))] := hl
  refine lv_aload_n hx hb dX6_init_0 rfl (lv_at hl 0 rfl) ?_
  refine W.objInit hx hb hown (htg _ kw_38) (htg _ kw_31) (htg _ kw_32) rfl (by rw [hml]; exact hl.1) rfl dX6_init_1 (by rw [hR]; exact Nat.le_of_ble_eq_true rfl) (by rw [hR]; exact Nat.le_of_ble_eq_true rfl) ?_
  refine W.eq (g2 := F0 m 4 ls []) rfl ?_
  refine lv_aload_n hx hb dX6_init_4 rfl (lv_at hl 0 rfl) ?_
  refine lv_sipush (v := 940) hx hb dX6_init_5 (by decide) ?_
  refine va_newa (atype := .byte) (a0 := (940, .inl (fun _ => 0))) (N' := 940) hx hb (htg _ kw_150) rfl hK.1 hP hD hS hA (fun _ => rfl) (by decide) (by decide) (Nat.le_of_ble_eq_true rfl) (by rw [hR]; exact Nat.le_of_ble_eq_true rfl) (by rw [hR]; exact Nat.le_of_ble_eq_true rfl) dX6_init_8 (fun q8 cA H hK9 hP hD hS => ?_)
  obtain rfl : cA = T 0 := xRA_eq (hK9.2 6 _ rfl).2 (hK.1.2 0 _ rfl).2
  clear hK9
  replace hP : va_P D vwCl [((a 0), .inr (6, [.null, .null, .int 0, .int 0, .int 0, .int 0, .int 0, .int 0, .long 0, .int 0, .int 0, .int 0, .int 0, .int 0])), (q8, .inl (T 0, 940, .inl (fun _ => 0)))] H := hP
  replace hD : va_D A [((a 0), .inr (6, [.null, .null, .int 0, .int 0, .int 0, .int 0, .int 0, .int 0, .long 0, .int 0, .int 0, .int 0, .int 0, .int 0])), (q8, .inl (T 0, 940, .inl (fun _ => 0)))] := hD
  refine va_putF (D := D) (ci := 6) (v := .ref q8) (ty := .array .byte) (C := RX6) (T := TX6) (N := 14) hx hb htg inX6 tyX6 tyX6_ok nmX6 hown hK.1 hP hD hS 0 rfl rfl 0 (by decide) (htg _ kw_94) (fun _ h9 => h9) rfl hin rfl (by decide +kernel) rfl rfl (Nat.le_of_ble_eq_true rfl) dX6_init_10 (fun H locs hP hD hS => ?_)
  replace hP : va_P D vwCl [((a 0), .inr (6, [.ref q8, .null, .int 0, .int 0, .int 0, .int 0, .int 0, .int 0, .long 0, .int 0, .int 0, .int 0, .int 0, .int 0])), (q8, .inl (T 0, 940, .inl (fun _ => 0)))] H := hP
  replace hD : va_D A [((a 0), .inr (6, [.ref q8, .null, .int 0, .int 0, .int 0, .int 0, .int 0, .int 0, .long 0, .int 0, .int 0, .int 0, .int 0, .int 0])), (q8, .inl (T 0, 940, .inl (fun _ => 0)))] := hD
  refine lv_aload_n hx hb dX6_init_13 rfl (lv_at hl 0 rfl) ?_
  refine lv_bipush (v := 27) hx hb dX6_init_14 (by decide) ?_
  refine va_newa (atype := .long) (a0 := (27, .inr (.inl (fun _ => 0)))) (N' := 27) hx hb (htg _ kw_151) rfl hK.1 hP hD hS hA (fun _ => rfl) (by decide) (by decide) (Nat.le_of_ble_eq_true rfl) (by rw [hR]; exact Nat.le_of_ble_eq_true rfl) (by rw [hR]; exact Nat.le_of_ble_eq_true rfl) dX6_init_16 (fun q16 cA H hK9 hP hD hS => ?_)
  obtain rfl : cA = T 2 := xRA_eq (hK9.2 6 _ rfl).2 (hK.1.2 2 _ rfl).2
  clear hK9
  replace hP : va_P D vwCl [((a 0), .inr (6, [.ref q8, .null, .int 0, .int 0, .int 0, .int 0, .int 0, .int 0, .long 0, .int 0, .int 0, .int 0, .int 0, .int 0])), (q8, .inl (T 0, 940, .inl (fun _ => 0))), (q16, .inl (T 2, 27, .inr (.inl (fun _ => 0))))] H := hP
  replace hD : va_D A [((a 0), .inr (6, [.ref q8, .null, .int 0, .int 0, .int 0, .int 0, .int 0, .int 0, .long 0, .int 0, .int 0, .int 0, .int 0, .int 0])), (q8, .inl (T 0, 940, .inl (fun _ => 0))), (q16, .inl (T 2, 27, .inr (.inl (fun _ => 0))))] := hD
  refine va_putF (D := D) (ci := 6) (v := .ref q16) (ty := .array .long) (C := RX6) (T := TX6) (N := 14) hx hb htg inX6 tyX6 tyX6_ok nmX6 hown hK.1 hP hD hS 0 rfl rfl 1 (by decide) (htg _ kw_95) (fun _ h9 => h9) rfl hin rfl (by decide +kernel) rfl rfl (Nat.le_of_ble_eq_true rfl) dX6_init_18 (fun H locs hP hD hS => ?_)
  replace hP : va_P D vwCl [((a 0), .inr (6, [.ref q8, .ref q16, .int 0, .int 0, .int 0, .int 0, .int 0, .int 0, .long 0, .int 0, .int 0, .int 0, .int 0, .int 0])), (q8, .inl (T 0, 940, .inl (fun _ => 0))), (q16, .inl (T 2, 27, .inr (.inl (fun _ => 0))))] H := hP
  replace hD : va_D A [((a 0), .inr (6, [.ref q8, .ref q16, .int 0, .int 0, .int 0, .int 0, .int 0, .int 0, .long 0, .int 0, .int 0, .int 0, .int 0, .int 0])), (q8, .inl (T 0, 940, .inl (fun _ => 0))), (q16, .inl (T 2, 27, .inr (.inl (fun _ => 0))))] := hD
  refine lv_aload_n hx hb dX6_init_21 rfl (lv_at hl 0 rfl) ?_
  refine va_ldcS hx hb hown (hT.1 0 (by decide)) dX6_init_22 ?_
  have hPc := hP.sub (ws' := (pre1_X6_keepOwn T (xa [(a 0), q16]) (xa [q8]) (xf []) (xh []) (xv []))) [0, 2] rfl
  have hDc := hD.sub (ws' := (pre1_X6_keepOwn T (xa [(a 0), q16]) (xa [q8]) (xf []) (xh []) (xv []))) [0, 2] (by decide) rfl
  have hFc := va_free (wc := (pre1_X6_keepOwn T (xa [(a 0), q16]) (xa [q8]) (xf []) (xh []) (xv []))) hD hS hA [0, 2] rfl
  refine va_callv (va_runV (As := [.ref (kK 0)]) (rest := []) ⟨hx, hb, hml, hown, htg⟩ (c1_X6_keepOwn l D T (xa [(a 0), q16]) (xa [q8]) (xf []) (xh []) (xv []) kK kV H.size) ⟨callB_of 1 htg (xg_ok kw_43) rfl rfl rfl (htg _ kw_2) (htg _ kw_40) (by decide +kernel) ⟨by rw [hR]; exact Nat.le_of_ble_eq_true rfl, by rw [hR]; exact Nat.le_of_ble_eq_true rfl⟩, htg _ kw_42, htg _ ks_0⟩ (xpreVs hK hPc hDc hT hFc hS (va_recv hK.1 hPc (ci := 6) (q0 := 0) rfl rfl)) rfl rfl hl.1 rfl (lv_room (Nat.le_of_ble_eq_true rfl)) dX6_init_24 ⟨by rw [hR]; exact Nat.le_of_ble_eq_true rfl, by rw [hR]; exact Nat.le_of_ble_eq_true rfl⟩) hS (fun q _ h => hFc q h) hFc (fun u t H1 locs ht hvm hw hB hz1 hk1 hS => ?_)
  obtain ⟨bk, fik, flk, vik, hP1, hD1, hGk⟩ := hB
  have hgk0 : (0 ≤ (vik 0).toInt ∧ (vik 0).toInt ≤ 27) := hGk.1
  rw [ht] at hP1
  obtain ⟨hP, hD⟩ := va_join (wr := [(q8, .inl (T 0, 940, .inl (fun _ => 0)))]) (w1 := [((a 0), .inr (6, [.ref q8, .ref q16, .int (vik 0), .int 0, .int 0, .int 0, .int 0, .int 0, .long 0, .int 0, .int 0, .int 0, .int 0, .int 0])), (q16, .inl (T 2, 27, .inr (.inl (flk 0))))]) hP hD [0, 2] [1] rfl rfl (by decide) (by decide) hk1 hFc hP1 hD1
  clear hPc hDc hFc hP1 hD1 hk1 hz1 hvm ht hw
  generalize H1 = H at hP hS ⊢
  replace hP : va_P D vwCl [(q8, .inl (T 0, 940, .inl (fun _ => 0))), ((a 0), .inr (6, [.ref q8, .ref q16, .int (vik 0), .int 0, .int 0, .int 0, .int 0, .int 0, .long 0, .int 0, .int 0, .int 0, .int 0, .int 0])), (q16, .inl (T 2, 27, .inr (.inl (flk 0))))] H := hP
  replace hD : va_D A [(q8, .inl (T 0, 940, .inl (fun _ => 0))), ((a 0), .inr (6, [.ref q8, .ref q16, .int (vik 0), .int 0, .int 0, .int 0, .int 0, .int 0, .long 0, .int 0, .int 0, .int 0, .int 0, .int 0])), (q16, .inl (T 2, 27, .inr (.inl (flk 0))))] := hD
  refine lv_aload_n hx hb dX6_init_27 rfl (lv_at hl 0 rfl) ?_
  refine va_ldcS hx hb hown (hT.1 1 (by decide)) dX6_init_28 ?_
  have hPc := hP.sub (ws' := (pre1_X6_keepOwn_2 T (xa [(a 0), q16]) (xa [q8]) (xf []) (xh [(flk 0)]) (xv [(vik 0)]))) [1, 2] rfl
  have hDc := hD.sub (ws' := (pre1_X6_keepOwn_2 T (xa [(a 0), q16]) (xa [q8]) (xf []) (xh [(flk 0)]) (xv [(vik 0)]))) [1, 2] (by decide) rfl
  have hFc := va_free (wc := (pre1_X6_keepOwn_2 T (xa [(a 0), q16]) (xa [q8]) (xf []) (xh [(flk 0)]) (xv [(vik 0)]))) hD hS hA [1, 2] rfl
  refine va_callv (va_runV (As := [.ref (kK 1)]) (rest := []) ⟨hx, hb, hml, hown, htg⟩ (c1_X6_keepOwn_2 l D T (xa [(a 0), q16]) (xa [q8]) (xf []) (xh [(flk 0)]) (xv [(vik 0)]) kK kV H.size (by show (0 ≤ ((vik 0) : Int32).toInt ∧ ((vik 0) : Int32).toInt ≤ 27); omega)) ⟨callB_of 1 htg (xg_ok kw_43) rfl rfl rfl (htg _ kw_2) (htg _ kw_40) (by decide +kernel) ⟨by rw [hR]; exact Nat.le_of_ble_eq_true rfl, by rw [hR]; exact Nat.le_of_ble_eq_true rfl⟩, htg _ kw_42, htg _ ks_0⟩ (xpreVs hK hPc hDc hT hFc hS (va_recv hK.1 hPc (ci := 6) (q0 := 0) rfl rfl)) rfl rfl hl.1 rfl (lv_room (Nat.le_of_ble_eq_true rfl)) dX6_init_30 ⟨by rw [hR]; exact Nat.le_of_ble_eq_true rfl, by rw [hR]; exact Nat.le_of_ble_eq_true rfl⟩) hS (fun q _ h => hFc q h) hFc (fun u t H1 locs ht hvm hw hB hz1 hk1 hS => ?_)
  obtain ⟨bk_1, fik_1, flk_1, vik_1, hP1, hD1, hGk_1⟩ := hB
  have hgk_10 : (0 ≤ (vik_1 0).toInt ∧ (vik_1 0).toInt ≤ 27) := hGk_1.1
  rw [ht] at hP1
  obtain ⟨hP, hD⟩ := va_join (wr := [(q8, .inl (T 0, 940, .inl (fun _ => 0)))]) (w1 := [((a 0), .inr (6, [.ref q8, .ref q16, .int (vik_1 0), .int 0, .int 0, .int 0, .int 0, .int 0, .long 0, .int 0, .int 0, .int 0, .int 0, .int 0])), (q16, .inl (T 2, 27, .inr (.inl (flk_1 0))))]) hP hD [1, 2] [0] rfl rfl (by decide) (by decide) hk1 hFc hP1 hD1
  clear hPc hDc hFc hP1 hD1 hk1 hz1 hvm ht hw
  generalize H1 = H at hP hS ⊢
  replace hP : va_P D vwCl [(q8, .inl (T 0, 940, .inl (fun _ => 0))), ((a 0), .inr (6, [.ref q8, .ref q16, .int (vik_1 0), .int 0, .int 0, .int 0, .int 0, .int 0, .long 0, .int 0, .int 0, .int 0, .int 0, .int 0])), (q16, .inl (T 2, 27, .inr (.inl (flk_1 0))))] H := hP
  replace hD : va_D A [(q8, .inl (T 0, 940, .inl (fun _ => 0))), ((a 0), .inr (6, [.ref q8, .ref q16, .int (vik_1 0), .int 0, .int 0, .int 0, .int 0, .int 0, .long 0, .int 0, .int 0, .int 0, .int 0, .int 0])), (q16, .inl (T 2, 27, .inr (.inl (flk_1 0))))] := hD
  refine lv_aload_n hx hb dX6_init_33 rfl (lv_at hl 0 rfl) ?_
  refine va_ldcS hx hb hown (hT.1 2 (by decide)) dX6_init_34 ?_
  have hPc := hP.sub (ws' := (pre1_X6_keepOwn_3 T (xa [(a 0), q16]) (xa [q8]) (xf []) (xh [(flk_1 0)]) (xv [(vik_1 0)]))) [1, 2] rfl
  have hDc := hD.sub (ws' := (pre1_X6_keepOwn_3 T (xa [(a 0), q16]) (xa [q8]) (xf []) (xh [(flk_1 0)]) (xv [(vik_1 0)]))) [1, 2] (by decide) rfl
  have hFc := va_free (wc := (pre1_X6_keepOwn_3 T (xa [(a 0), q16]) (xa [q8]) (xf []) (xh [(flk_1 0)]) (xv [(vik_1 0)]))) hD hS hA [1, 2] rfl
  refine va_callv (va_runV (As := [.ref (kK 2)]) (rest := []) ⟨hx, hb, hml, hown, htg⟩ (c1_X6_keepOwn_3 l D T (xa [(a 0), q16]) (xa [q8]) (xf []) (xh [(flk_1 0)]) (xv [(vik_1 0)]) kK kV H.size (by show (0 ≤ ((vik_1 0) : Int32).toInt ∧ ((vik_1 0) : Int32).toInt ≤ 27); omega)) ⟨callB_of 1 htg (xg_ok kw_43) rfl rfl rfl (htg _ kw_2) (htg _ kw_40) (by decide +kernel) ⟨by rw [hR]; exact Nat.le_of_ble_eq_true rfl, by rw [hR]; exact Nat.le_of_ble_eq_true rfl⟩, htg _ kw_42, htg _ ks_0⟩ (xpreVs hK hPc hDc hT hFc hS (va_recv hK.1 hPc (ci := 6) (q0 := 0) rfl rfl)) rfl rfl hl.1 rfl (lv_room (Nat.le_of_ble_eq_true rfl)) dX6_init_36 ⟨by rw [hR]; exact Nat.le_of_ble_eq_true rfl, by rw [hR]; exact Nat.le_of_ble_eq_true rfl⟩) hS (fun q _ h => hFc q h) hFc (fun u t H1 locs ht hvm hw hB hz1 hk1 hS => ?_)
  obtain ⟨bk_2, fik_2, flk_2, vik_2, hP1, hD1, hGk_2⟩ := hB
  have hgk_20 : (0 ≤ (vik_2 0).toInt ∧ (vik_2 0).toInt ≤ 27) := hGk_2.1
  rw [ht] at hP1
  obtain ⟨hP, hD⟩ := va_join (wr := [(q8, .inl (T 0, 940, .inl (fun _ => 0)))]) (w1 := [((a 0), .inr (6, [.ref q8, .ref q16, .int (vik_2 0), .int 0, .int 0, .int 0, .int 0, .int 0, .long 0, .int 0, .int 0, .int 0, .int 0, .int 0])), (q16, .inl (T 2, 27, .inr (.inl (flk_2 0))))]) hP hD [1, 2] [0] rfl rfl (by decide) (by decide) hk1 hFc hP1 hD1
  clear hPc hDc hFc hP1 hD1 hk1 hz1 hvm ht hw
  generalize H1 = H at hP hS ⊢
  replace hP : va_P D vwCl [(q8, .inl (T 0, 940, .inl (fun _ => 0))), ((a 0), .inr (6, [.ref q8, .ref q16, .int (vik_2 0), .int 0, .int 0, .int 0, .int 0, .int 0, .long 0, .int 0, .int 0, .int 0, .int 0, .int 0])), (q16, .inl (T 2, 27, .inr (.inl (flk_2 0))))] H := hP
  replace hD : va_D A [(q8, .inl (T 0, 940, .inl (fun _ => 0))), ((a 0), .inr (6, [.ref q8, .ref q16, .int (vik_2 0), .int 0, .int 0, .int 0, .int 0, .int 0, .long 0, .int 0, .int 0, .int 0, .int 0, .int 0])), (q16, .inl (T 2, 27, .inr (.inl (flk_2 0))))] := hD
  have hP9 := hP.sub (ws' := [((a 0), .inr (6, [.ref q8, .ref q16, .int (vik_2 0), .int 0, .int 0, .int 0, .int 0, .int 0, .long 0, .int 0, .int 0, .int 0, .int 0, .int 0])), (q8, .inl (T 0, 940, .inl (fun _ => 0))), (q16, .inl (T 2, 27, .inr (.inl (flk_2 0))))]) [1, 0, 2] rfl
  have hD9 := hD.sub (ws' := [((a 0), .inr (6, [.ref q8, .ref q16, .int (vik_2 0), .int 0, .int 0, .int 0, .int 0, .int 0, .long 0, .int 0, .int 0, .int 0, .int 0, .int 0])), (q8, .inl (T 0, 940, .inl (fun _ => 0))), (q16, .inl (T 2, 27, .inr (.inl (flk_2 0))))]) [1, 0, 2] (by decide +kernel) rfl
  refine W.widen (k := 2) (n := 967) (Nat.le_of_ble_eq_true rfl) (Nat.le_of_ble_eq_true rfl) ?_
  rw [hQ]
  exact W.vret hx hb hr (fun t ht hW => ⟨⟨(), rfl, trivial, ⟨xa [q8, q16], xf [], xh [(flk_2 0)], xv [(vik_2 0)], by rw [ht]; exact hP9, hD9, trivial⟩⟩, hS.F ht⟩) hS.2.2 dX6_init_39
abbrev pre1_X7_init (T : Nat → ClassId) (a ex : Nat → Nat) (fi : Nat → Nat → Int32) (fl : Nat → Nat → Int64) (vi : Nat → Int32) : va_W := [((a 0), .inr (7, [.int 0, .int 0, .null, .null, .null, .null, .null, .null, .null, .null, .null, .null]))]
set_option maxHeartbeats 4000000 in
set_option maxRecDepth 100000 in
theorem c1_X7_init (l : Launch) (D : va_G) (T : Nat → ClassId) (a ex : Nat → Nat) (fi : Nat → Nat → Int32) (fl : Nat → Nat → Int64) (vi : Nat → Int32) (sz : Nat) : Met l yX7_init (xw yX7_init cX7_init 1 none) ({ frames := 1, cells := 10, slots := 162, locals := 40 }) (xP D T [.ref (a 0)] sz (pre1_X7_init T a ex fi fl vi)) (va_Qv (fun _ : Unit => True) (xB D (va_A (pre1_X7_init T a ex fi fl vi) sz) (fun _ => True) (fun b fj fm vj => [((a 0), .inr (7, [.int 0, .int 0, .ref (b 0), .ref (b 1), .ref (b 2), .ref (b 3), .ref (b 4), .ref (b 5), .ref (b 6), .ref (b 7), .ref (b 8), .ref (b 9)])), ((b 0), .inl (T 2, 9, .inr (.inl (fun _ => 0)))), ((b 1), .inl (T 1, 9, .inl (fun _ => 0))), ((b 2), .inl (T 1, 9, .inl (fun _ => 0))), ((b 3), .inl (T 1, 9, .inl (fun _ => 0))), ((b 4), .inl (T 2, 9, .inr (.inl (fun _ => 0)))), ((b 5), .inl (T 1, 9, .inl (fun _ => 0))), ((b 6), .inl (T 1, 9, .inl (fun _ => 0))), ((b 7), .inl (T 1, 9, .inl (fun _ => 0))), ((b 8), .inl (T 1, 9, .inl (fun _ => 0))), ((b 9), .inl (T 1, 81, .inl (fun _ => 0)))])) (va_A (pre1_X7_init T a ex fi fl vi) sz)) 10 162 (va_A (pre1_X7_init T a ex fi fl vi) sz) := by
  refine xofW (cc := cX7_init) (maxL := 1) (ret := none) (by decide) rfl ?_
  intro p e s m args below meth c s₁ R Q hR hQ B hml hv
  obtain ⟨rfl, hsz, hP, hK, hD0⟩ := hv
  have hx := B.exec
  have hb := B.bytes
  have hr := B.returns
  have hts := atoms_spec (ws := xw yX7_init cX7_init 1 none) B.pre
  have htg : ∀ w ∈ xg, w.before _ s = true := fun w h => hts w (List.mem_cons_of_mem _ h)
  have hown : s.vm.findClass RX7 = some m.cls := findClass_of_methodNamed B.named
  have hlocks := B.notSynchronized
  have hin : meth.name = "<init>" := (name_of_methodNamed B.named B.method).1
  subst hsz
  have hD := hD0.self (sz := s.heap.size)
  generalize hAe : va_A (pre1_X7_init T a ex fi fl vi) s.heap.size = A at hD hQ
  have hA : ∀ q : Nat, s.heap.size ≤ q → A q := fun q h => by rw [← hAe]; exact Or.inr h
  have hS : va_S A s.heap s.heap [] := va_S.rf
  replace hP : va_P D vwCl [((a 0), .inr (7, [.int 0, .int 0, .null, .null, .null, .null, .null, .null, .null, .null, .null, .null]))] s.heap := hP
  replace hD : va_D A [((a 0), .inr (7, [.int 0, .int 0, .null, .null, .null, .null, .null, .null, .null, .null, .null, .null]))] := hD
  have hl := lv_entry ([.ref (a 0)]) (n := 1) (Nat.le_of_ble_eq_true rfl)
  rw [lg_entry_eq]
  generalize (lg_sl ([.ref (a 0)]) ++ List.replicate (1 - (lg_sl ([.ref (a 0)])).length) Slot.unset).toArray = ls at hl ⊢
  replace hl : lv_has ls 1 [(0, .ref (a 0))] := hl
  refine lv_aload_n hx hb dX7_init_0 rfl (lv_at hl 0 rfl) ?_
  refine W.objInit hx hb hown (htg _ kw_157) (htg _ kw_31) (htg _ kw_32) rfl (by rw [hml]; exact hl.1) rfl dX7_init_1 (by rw [hR]; exact Nat.le_of_ble_eq_true rfl) (by rw [hR]; exact Nat.le_of_ble_eq_true rfl) ?_
  refine W.eq (g2 := F0 m 4 ls []) rfl ?_
  refine lv_aload_n hx hb dX7_init_4 rfl (lv_at hl 0 rfl) ?_
  refine lv_bipush (v := 9) hx hb dX7_init_5 (by decide) ?_
  refine va_newa (atype := .long) (a0 := (9, .inr (.inl (fun _ => 0)))) (N' := 9) hx hb (htg _ kw_151) rfl hK.1 hP hD hS hA (fun _ => rfl) (by decide) (by decide) (Nat.le_of_ble_eq_true rfl) (by rw [hR]; exact Nat.le_of_ble_eq_true rfl) (by rw [hR]; exact Nat.le_of_ble_eq_true rfl) dX7_init_7 (fun q7 cA H hK9 hP hD hS => ?_)
  obtain rfl : cA = T 2 := xRA_eq (hK9.2 6 _ rfl).2 (hK.1.2 2 _ rfl).2
  clear hK9
  replace hP : va_P D vwCl [((a 0), .inr (7, [.int 0, .int 0, .null, .null, .null, .null, .null, .null, .null, .null, .null, .null])), (q7, .inl (T 2, 9, .inr (.inl (fun _ => 0))))] H := hP
  replace hD : va_D A [((a 0), .inr (7, [.int 0, .int 0, .null, .null, .null, .null, .null, .null, .null, .null, .null, .null])), (q7, .inl (T 2, 9, .inr (.inl (fun _ => 0))))] := hD
  refine va_putF (D := D) (ci := 7) (v := .ref q7) (ty := .array .long) (C := RX7) (T := TX7) (N := 12) hx hb htg inX7 tyX7 tyX7_ok nmX7 hown hK.1 hP hD hS 0 rfl rfl 2 (by decide) (htg _ kw_169) (fun _ h9 => h9) rfl hin rfl (by decide +kernel) rfl rfl (Nat.le_of_ble_eq_true rfl) dX7_init_9 (fun H locs hP hD hS => ?_)
  replace hP : va_P D vwCl [((a 0), .inr (7, [.int 0, .int 0, .ref q7, .null, .null, .null, .null, .null, .null, .null, .null, .null])), (q7, .inl (T 2, 9, .inr (.inl (fun _ => 0))))] H := hP
  replace hD : va_D A [((a 0), .inr (7, [.int 0, .int 0, .ref q7, .null, .null, .null, .null, .null, .null, .null, .null, .null])), (q7, .inl (T 2, 9, .inr (.inl (fun _ => 0))))] := hD
  refine lv_aload_n hx hb dX7_init_12 rfl (lv_at hl 0 rfl) ?_
  refine lv_bipush (v := 9) hx hb dX7_init_13 (by decide) ?_
  refine va_newa (atype := .int) (a0 := (9, .inl (fun _ => 0))) (N' := 9) hx hb (htg _ kw_221) rfl hK.1 hP hD hS hA (fun _ => rfl) (by decide) (by decide) (Nat.le_of_ble_eq_true rfl) (by rw [hR]; exact Nat.le_of_ble_eq_true rfl) (by rw [hR]; exact Nat.le_of_ble_eq_true rfl) dX7_init_15 (fun q15 cA H hK9 hP hD hS => ?_)
  obtain rfl : cA = T 1 := xRA_eq (hK9.2 6 _ rfl).2 (hK.1.2 1 _ rfl).2
  clear hK9
  replace hP : va_P D vwCl [((a 0), .inr (7, [.int 0, .int 0, .ref q7, .null, .null, .null, .null, .null, .null, .null, .null, .null])), (q7, .inl (T 2, 9, .inr (.inl (fun _ => 0)))), (q15, .inl (T 1, 9, .inl (fun _ => 0)))] H := hP
  replace hD : va_D A [((a 0), .inr (7, [.int 0, .int 0, .ref q7, .null, .null, .null, .null, .null, .null, .null, .null, .null])), (q7, .inl (T 2, 9, .inr (.inl (fun _ => 0)))), (q15, .inl (T 1, 9, .inl (fun _ => 0)))] := hD
  refine va_putF (D := D) (ci := 7) (v := .ref q15) (ty := .array .int) (C := RX7) (T := TX7) (N := 12) hx hb htg inX7 tyX7 tyX7_ok nmX7 hown hK.1 hP hD hS 0 rfl rfl 3 (by decide) (htg _ kw_170) (fun _ h9 => h9) rfl hin rfl (by decide +kernel) rfl rfl (Nat.le_of_ble_eq_true rfl) dX7_init_17 (fun H locs hP hD hS => ?_)
  replace hP : va_P D vwCl [((a 0), .inr (7, [.int 0, .int 0, .ref q7, .ref q15, .null, .null, .null, .null, .null, .null, .null, .null])), (q7, .inl (T 2, 9, .inr (.inl (fun _ => 0)))), (q15, .inl (T 1, 9, .inl (fun _ => 0)))] H := hP
  replace hD : va_D A [((a 0), .inr (7, [.int 0, .int 0, .ref q7, .ref q15, .null, .null, .null, .null, .null, .null, .null, .null])), (q7, .inl (T 2, 9, .inr (.inl (fun _ => 0)))), (q15, .inl (T 1, 9, .inl (fun _ => 0)))] := hD
  refine lv_aload_n hx hb dX7_init_20 rfl (lv_at hl 0 rfl) ?_
  refine lv_bipush (v := 9) hx hb dX7_init_21 (by decide) ?_
  refine va_newa (atype := .int) (a0 := (9, .inl (fun _ => 0))) (N' := 9) hx hb (htg _ kw_221) rfl hK.1 hP hD hS hA (fun _ => rfl) (by decide) (by decide) (Nat.le_of_ble_eq_true rfl) (by rw [hR]; exact Nat.le_of_ble_eq_true rfl) (by rw [hR]; exact Nat.le_of_ble_eq_true rfl) dX7_init_23 (fun q23 cA H hK9 hP hD hS => ?_)
  obtain rfl : cA = T 1 := xRA_eq (hK9.2 6 _ rfl).2 (hK.1.2 1 _ rfl).2
  clear hK9
  replace hP : va_P D vwCl [((a 0), .inr (7, [.int 0, .int 0, .ref q7, .ref q15, .null, .null, .null, .null, .null, .null, .null, .null])), (q7, .inl (T 2, 9, .inr (.inl (fun _ => 0)))), (q15, .inl (T 1, 9, .inl (fun _ => 0))), (q23, .inl (T 1, 9, .inl (fun _ => 0)))] H := hP
  replace hD : va_D A [((a 0), .inr (7, [.int 0, .int 0, .ref q7, .ref q15, .null, .null, .null, .null, .null, .null, .null, .null])), (q7, .inl (T 2, 9, .inr (.inl (fun _ => 0)))), (q15, .inl (T 1, 9, .inl (fun _ => 0))), (q23, .inl (T 1, 9, .inl (fun _ => 0)))] := hD
  refine va_putF (D := D) (ci := 7) (v := .ref q23) (ty := .array .int) (C := RX7) (T := TX7) (N := 12) hx hb htg inX7 tyX7 tyX7_ok nmX7 hown hK.1 hP hD hS 0 rfl rfl 4 (by decide) (htg _ kw_174) (fun _ h9 => h9) rfl hin rfl (by decide +kernel) rfl rfl (Nat.le_of_ble_eq_true rfl) dX7_init_25 (fun H locs hP hD hS => ?_)
  replace hP : va_P D vwCl [((a 0), .inr (7, [.int 0, .int 0, .ref q7, .ref q15, .ref q23, .null, .null, .null, .null, .null, .null, .null])), (q7, .inl (T 2, 9, .inr (.inl (fun _ => 0)))), (q15, .inl (T 1, 9, .inl (fun _ => 0))), (q23, .inl (T 1, 9, .inl (fun _ => 0)))] H := hP
  replace hD : va_D A [((a 0), .inr (7, [.int 0, .int 0, .ref q7, .ref q15, .ref q23, .null, .null, .null, .null, .null, .null, .null])), (q7, .inl (T 2, 9, .inr (.inl (fun _ => 0)))), (q15, .inl (T 1, 9, .inl (fun _ => 0))), (q23, .inl (T 1, 9, .inl (fun _ => 0)))] := hD
  refine lv_aload_n hx hb dX7_init_28 rfl (lv_at hl 0 rfl) ?_
  refine lv_bipush (v := 9) hx hb dX7_init_29 (by decide) ?_
  refine va_newa (atype := .int) (a0 := (9, .inl (fun _ => 0))) (N' := 9) hx hb (htg _ kw_221) rfl hK.1 hP hD hS hA (fun _ => rfl) (by decide) (by decide) (Nat.le_of_ble_eq_true rfl) (by rw [hR]; exact Nat.le_of_ble_eq_true rfl) (by rw [hR]; exact Nat.le_of_ble_eq_true rfl) dX7_init_31 (fun q31 cA H hK9 hP hD hS => ?_)
  obtain rfl : cA = T 1 := xRA_eq (hK9.2 6 _ rfl).2 (hK.1.2 1 _ rfl).2
  clear hK9
  replace hP : va_P D vwCl [((a 0), .inr (7, [.int 0, .int 0, .ref q7, .ref q15, .ref q23, .null, .null, .null, .null, .null, .null, .null])), (q7, .inl (T 2, 9, .inr (.inl (fun _ => 0)))), (q15, .inl (T 1, 9, .inl (fun _ => 0))), (q23, .inl (T 1, 9, .inl (fun _ => 0))), (q31, .inl (T 1, 9, .inl (fun _ => 0)))] H := hP
  replace hD : va_D A [((a 0), .inr (7, [.int 0, .int 0, .ref q7, .ref q15, .ref q23, .null, .null, .null, .null, .null, .null, .null])), (q7, .inl (T 2, 9, .inr (.inl (fun _ => 0)))), (q15, .inl (T 1, 9, .inl (fun _ => 0))), (q23, .inl (T 1, 9, .inl (fun _ => 0))), (q31, .inl (T 1, 9, .inl (fun _ => 0)))] := hD
  refine va_putF (D := D) (ci := 7) (v := .ref q31) (ty := .array .int) (C := RX7) (T := TX7) (N := 12) hx hb htg inX7 tyX7 tyX7_ok nmX7 hown hK.1 hP hD hS 0 rfl rfl 5 (by decide) (htg _ kw_177) (fun _ h9 => h9) rfl hin rfl (by decide +kernel) rfl rfl (Nat.le_of_ble_eq_true rfl) dX7_init_33 (fun H locs hP hD hS => ?_)
  replace hP : va_P D vwCl [((a 0), .inr (7, [.int 0, .int 0, .ref q7, .ref q15, .ref q23, .ref q31, .null, .null, .null, .null, .null, .null])), (q7, .inl (T 2, 9, .inr (.inl (fun _ => 0)))), (q15, .inl (T 1, 9, .inl (fun _ => 0))), (q23, .inl (T 1, 9, .inl (fun _ => 0))), (q31, .inl (T 1, 9, .inl (fun _ => 0)))] H := hP
  replace hD : va_D A [((a 0), .inr (7, [.int 0, .int 0, .ref q7, .ref q15, .ref q23, .ref q31, .null, .null, .null, .null, .null, .null])), (q7, .inl (T 2, 9, .inr (.inl (fun _ => 0)))), (q15, .inl (T 1, 9, .inl (fun _ => 0))), (q23, .inl (T 1, 9, .inl (fun _ => 0))), (q31, .inl (T 1, 9, .inl (fun _ => 0)))] := hD
  refine lv_aload_n hx hb dX7_init_36 rfl (lv_at hl 0 rfl) ?_
  refine lv_bipush (v := 9) hx hb dX7_init_37 (by decide) ?_
  refine va_newa (atype := .long) (a0 := (9, .inr (.inl (fun _ => 0)))) (N' := 9) hx hb (htg _ kw_151) rfl hK.1 hP hD hS hA (fun _ => rfl) (by decide) (by decide) (Nat.le_of_ble_eq_true rfl) (by rw [hR]; exact Nat.le_of_ble_eq_true rfl) (by rw [hR]; exact Nat.le_of_ble_eq_true rfl) dX7_init_39 (fun q39 cA H hK9 hP hD hS => ?_)
  obtain rfl : cA = T 2 := xRA_eq (hK9.2 6 _ rfl).2 (hK.1.2 2 _ rfl).2
  clear hK9
  replace hP : va_P D vwCl [((a 0), .inr (7, [.int 0, .int 0, .ref q7, .ref q15, .ref q23, .ref q31, .null, .null, .null, .null, .null, .null])), (q7, .inl (T 2, 9, .inr (.inl (fun _ => 0)))), (q15, .inl (T 1, 9, .inl (fun _ => 0))), (q23, .inl (T 1, 9, .inl (fun _ => 0))), (q31, .inl (T 1, 9, .inl (fun _ => 0))), (q39, .inl (T 2, 9, .inr (.inl (fun _ => 0))))] H := hP
  replace hD : va_D A [((a 0), .inr (7, [.int 0, .int 0, .ref q7, .ref q15, .ref q23, .ref q31, .null, .null, .null, .null, .null, .null])), (q7, .inl (T 2, 9, .inr (.inl (fun _ => 0)))), (q15, .inl (T 1, 9, .inl (fun _ => 0))), (q23, .inl (T 1, 9, .inl (fun _ => 0))), (q31, .inl (T 1, 9, .inl (fun _ => 0))), (q39, .inl (T 2, 9, .inr (.inl (fun _ => 0))))] := hD
  refine va_putF (D := D) (ci := 7) (v := .ref q39) (ty := .array .long) (C := RX7) (T := TX7) (N := 12) hx hb htg inX7 tyX7 tyX7_ok nmX7 hown hK.1 hP hD hS 0 rfl rfl 6 (by decide) (htg _ kw_180) (fun _ h9 => h9) rfl hin rfl (by decide +kernel) rfl rfl (Nat.le_of_ble_eq_true rfl) dX7_init_41 (fun H locs hP hD hS => ?_)
  replace hP : va_P D vwCl [((a 0), .inr (7, [.int 0, .int 0, .ref q7, .ref q15, .ref q23, .ref q31, .ref q39, .null, .null, .null, .null, .null])), (q7, .inl (T 2, 9, .inr (.inl (fun _ => 0)))), (q15, .inl (T 1, 9, .inl (fun _ => 0))), (q23, .inl (T 1, 9, .inl (fun _ => 0))), (q31, .inl (T 1, 9, .inl (fun _ => 0))), (q39, .inl (T 2, 9, .inr (.inl (fun _ => 0))))] H := hP
  replace hD : va_D A [((a 0), .inr (7, [.int 0, .int 0, .ref q7, .ref q15, .ref q23, .ref q31, .ref q39, .null, .null, .null, .null, .null])), (q7, .inl (T 2, 9, .inr (.inl (fun _ => 0)))), (q15, .inl (T 1, 9, .inl (fun _ => 0))), (q23, .inl (T 1, 9, .inl (fun _ => 0))), (q31, .inl (T 1, 9, .inl (fun _ => 0))), (q39, .inl (T 2, 9, .inr (.inl (fun _ => 0))))] := hD
  refine lv_aload_n hx hb dX7_init_44 rfl (lv_at hl 0 rfl) ?_
  refine lv_bipush (v := 9) hx hb dX7_init_45 (by decide) ?_
  refine va_newa (atype := .int) (a0 := (9, .inl (fun _ => 0))) (N' := 9) hx hb (htg _ kw_221) rfl hK.1 hP hD hS hA (fun _ => rfl) (by decide) (by decide) (Nat.le_of_ble_eq_true rfl) (by rw [hR]; exact Nat.le_of_ble_eq_true rfl) (by rw [hR]; exact Nat.le_of_ble_eq_true rfl) dX7_init_47 (fun q47 cA H hK9 hP hD hS => ?_)
  obtain rfl : cA = T 1 := xRA_eq (hK9.2 6 _ rfl).2 (hK.1.2 1 _ rfl).2
  clear hK9
  replace hP : va_P D vwCl [((a 0), .inr (7, [.int 0, .int 0, .ref q7, .ref q15, .ref q23, .ref q31, .ref q39, .null, .null, .null, .null, .null])), (q7, .inl (T 2, 9, .inr (.inl (fun _ => 0)))), (q15, .inl (T 1, 9, .inl (fun _ => 0))), (q23, .inl (T 1, 9, .inl (fun _ => 0))), (q31, .inl (T 1, 9, .inl (fun _ => 0))), (q39, .inl (T 2, 9, .inr (.inl (fun _ => 0)))), (q47, .inl (T 1, 9, .inl (fun _ => 0)))] H := hP
  replace hD : va_D A [((a 0), .inr (7, [.int 0, .int 0, .ref q7, .ref q15, .ref q23, .ref q31, .ref q39, .null, .null, .null, .null, .null])), (q7, .inl (T 2, 9, .inr (.inl (fun _ => 0)))), (q15, .inl (T 1, 9, .inl (fun _ => 0))), (q23, .inl (T 1, 9, .inl (fun _ => 0))), (q31, .inl (T 1, 9, .inl (fun _ => 0))), (q39, .inl (T 2, 9, .inr (.inl (fun _ => 0)))), (q47, .inl (T 1, 9, .inl (fun _ => 0)))] := hD
  refine va_putF (D := D) (ci := 7) (v := .ref q47) (ty := .array .int) (C := RX7) (T := TX7) (N := 12) hx hb htg inX7 tyX7 tyX7_ok nmX7 hown hK.1 hP hD hS 0 rfl rfl 7 (by decide) (htg _ kw_181) (fun _ h9 => h9) rfl hin rfl (by decide +kernel) rfl rfl (Nat.le_of_ble_eq_true rfl) dX7_init_49 (fun H locs hP hD hS => ?_)
  replace hP : va_P D vwCl [((a 0), .inr (7, [.int 0, .int 0, .ref q7, .ref q15, .ref q23, .ref q31, .ref q39, .ref q47, .null, .null, .null, .null])), (q7, .inl (T 2, 9, .inr (.inl (fun _ => 0)))), (q15, .inl (T 1, 9, .inl (fun _ => 0))), (q23, .inl (T 1, 9, .inl (fun _ => 0))), (q31, .inl (T 1, 9, .inl (fun _ => 0))), (q39, .inl (T 2, 9, .inr (.inl (fun _ => 0)))), (q47, .inl (T 1, 9, .inl (fun _ => 0)))] H := hP
  replace hD : va_D A [((a 0), .inr (7, [.int 0, .int 0, .ref q7, .ref q15, .ref q23, .ref q31, .ref q39, .ref q47, .null, .null, .null, .null])), (q7, .inl (T 2, 9, .inr (.inl (fun _ => 0)))), (q15, .inl (T 1, 9, .inl (fun _ => 0))), (q23, .inl (T 1, 9, .inl (fun _ => 0))), (q31, .inl (T 1, 9, .inl (fun _ => 0))), (q39, .inl (T 2, 9, .inr (.inl (fun _ => 0)))), (q47, .inl (T 1, 9, .inl (fun _ => 0)))] := hD
  refine lv_aload_n hx hb dX7_init_52 rfl (lv_at hl 0 rfl) ?_
  refine lv_bipush (v := 9) hx hb dX7_init_53 (by decide) ?_
  refine va_newa (atype := .int) (a0 := (9, .inl (fun _ => 0))) (N' := 9) hx hb (htg _ kw_221) rfl hK.1 hP hD hS hA (fun _ => rfl) (by decide) (by decide) (Nat.le_of_ble_eq_true rfl) (by rw [hR]; exact Nat.le_of_ble_eq_true rfl) (by rw [hR]; exact Nat.le_of_ble_eq_true rfl) dX7_init_55 (fun q55 cA H hK9 hP hD hS => ?_)
  obtain rfl : cA = T 1 := xRA_eq (hK9.2 6 _ rfl).2 (hK.1.2 1 _ rfl).2
  clear hK9
  replace hP : va_P D vwCl [((a 0), .inr (7, [.int 0, .int 0, .ref q7, .ref q15, .ref q23, .ref q31, .ref q39, .ref q47, .null, .null, .null, .null])), (q7, .inl (T 2, 9, .inr (.inl (fun _ => 0)))), (q15, .inl (T 1, 9, .inl (fun _ => 0))), (q23, .inl (T 1, 9, .inl (fun _ => 0))), (q31, .inl (T 1, 9, .inl (fun _ => 0))), (q39, .inl (T 2, 9, .inr (.inl (fun _ => 0)))), (q47, .inl (T 1, 9, .inl (fun _ => 0))), (q55, .inl (T 1, 9, .inl (fun _ => 0)))] H := hP
  replace hD : va_D A [((a 0), .inr (7, [.int 0, .int 0, .ref q7, .ref q15, .ref q23, .ref q31, .ref q39, .ref q47, .null, .null, .null, .null])), (q7, .inl (T 2, 9, .inr (.inl (fun _ => 0)))), (q15, .inl (T 1, 9, .inl (fun _ => 0))), (q23, .inl (T 1, 9, .inl (fun _ => 0))), (q31, .inl (T 1, 9, .inl (fun _ => 0))), (q39, .inl (T 2, 9, .inr (.inl (fun _ => 0)))), (q47, .inl (T 1, 9, .inl (fun _ => 0))), (q55, .inl (T 1, 9, .inl (fun _ => 0)))] := hD
  refine va_putF (D := D) (ci := 7) (v := .ref q55) (ty := .array .int) (C := RX7) (T := TX7) (N := 12) hx hb htg inX7 tyX7 tyX7_ok nmX7 hown hK.1 hP hD hS 0 rfl rfl 8 (by decide) (htg _ kw_183) (fun _ h9 => h9) rfl hin rfl (by decide +kernel) rfl rfl (Nat.le_of_ble_eq_true rfl) dX7_init_57 (fun H locs hP hD hS => ?_)
  replace hP : va_P D vwCl [((a 0), .inr (7, [.int 0, .int 0, .ref q7, .ref q15, .ref q23, .ref q31, .ref q39, .ref q47, .ref q55, .null, .null, .null])), (q7, .inl (T 2, 9, .inr (.inl (fun _ => 0)))), (q15, .inl (T 1, 9, .inl (fun _ => 0))), (q23, .inl (T 1, 9, .inl (fun _ => 0))), (q31, .inl (T 1, 9, .inl (fun _ => 0))), (q39, .inl (T 2, 9, .inr (.inl (fun _ => 0)))), (q47, .inl (T 1, 9, .inl (fun _ => 0))), (q55, .inl (T 1, 9, .inl (fun _ => 0)))] H := hP
  replace hD : va_D A [((a 0), .inr (7, [.int 0, .int 0, .ref q7, .ref q15, .ref q23, .ref q31, .ref q39, .ref q47, .ref q55, .null, .null, .null])), (q7, .inl (T 2, 9, .inr (.inl (fun _ => 0)))), (q15, .inl (T 1, 9, .inl (fun _ => 0))), (q23, .inl (T 1, 9, .inl (fun _ => 0))), (q31, .inl (T 1, 9, .inl (fun _ => 0))), (q39, .inl (T 2, 9, .inr (.inl (fun _ => 0)))), (q47, .inl (T 1, 9, .inl (fun _ => 0))), (q55, .inl (T 1, 9, .inl (fun _ => 0)))] := hD
  refine lv_aload_n hx hb dX7_init_60 rfl (lv_at hl 0 rfl) ?_
  refine lv_bipush (v := 9) hx hb dX7_init_61 (by decide) ?_
  refine va_newa (atype := .int) (a0 := (9, .inl (fun _ => 0))) (N' := 9) hx hb (htg _ kw_221) rfl hK.1 hP hD hS hA (fun _ => rfl) (by decide) (by decide) (Nat.le_of_ble_eq_true rfl) (by rw [hR]; exact Nat.le_of_ble_eq_true rfl) (by rw [hR]; exact Nat.le_of_ble_eq_true rfl) dX7_init_63 (fun q63 cA H hK9 hP hD hS => ?_)
  obtain rfl : cA = T 1 := xRA_eq (hK9.2 6 _ rfl).2 (hK.1.2 1 _ rfl).2
  clear hK9
  replace hP : va_P D vwCl [((a 0), .inr (7, [.int 0, .int 0, .ref q7, .ref q15, .ref q23, .ref q31, .ref q39, .ref q47, .ref q55, .null, .null, .null])), (q7, .inl (T 2, 9, .inr (.inl (fun _ => 0)))), (q15, .inl (T 1, 9, .inl (fun _ => 0))), (q23, .inl (T 1, 9, .inl (fun _ => 0))), (q31, .inl (T 1, 9, .inl (fun _ => 0))), (q39, .inl (T 2, 9, .inr (.inl (fun _ => 0)))), (q47, .inl (T 1, 9, .inl (fun _ => 0))), (q55, .inl (T 1, 9, .inl (fun _ => 0))), (q63, .inl (T 1, 9, .inl (fun _ => 0)))] H := hP
  replace hD : va_D A [((a 0), .inr (7, [.int 0, .int 0, .ref q7, .ref q15, .ref q23, .ref q31, .ref q39, .ref q47, .ref q55, .null, .null, .null])), (q7, .inl (T 2, 9, .inr (.inl (fun _ => 0)))), (q15, .inl (T 1, 9, .inl (fun _ => 0))), (q23, .inl (T 1, 9, .inl (fun _ => 0))), (q31, .inl (T 1, 9, .inl (fun _ => 0))), (q39, .inl (T 2, 9, .inr (.inl (fun _ => 0)))), (q47, .inl (T 1, 9, .inl (fun _ => 0))), (q55, .inl (T 1, 9, .inl (fun _ => 0))), (q63, .inl (T 1, 9, .inl (fun _ => 0)))] := hD
  refine va_putF (D := D) (ci := 7) (v := .ref q63) (ty := .array .int) (C := RX7) (T := TX7) (N := 12) hx hb htg inX7 tyX7 tyX7_ok nmX7 hown hK.1 hP hD hS 0 rfl rfl 9 (by decide) (htg _ kw_186) (fun _ h9 => h9) rfl hin rfl (by decide +kernel) rfl rfl (Nat.le_of_ble_eq_true rfl) dX7_init_65 (fun H locs hP hD hS => ?_)
  replace hP : va_P D vwCl [((a 0), .inr (7, [.int 0, .int 0, .ref q7, .ref q15, .ref q23, .ref q31, .ref q39, .ref q47, .ref q55, .ref q63, .null, .null])), (q7, .inl (T 2, 9, .inr (.inl (fun _ => 0)))), (q15, .inl (T 1, 9, .inl (fun _ => 0))), (q23, .inl (T 1, 9, .inl (fun _ => 0))), (q31, .inl (T 1, 9, .inl (fun _ => 0))), (q39, .inl (T 2, 9, .inr (.inl (fun _ => 0)))), (q47, .inl (T 1, 9, .inl (fun _ => 0))), (q55, .inl (T 1, 9, .inl (fun _ => 0))), (q63, .inl (T 1, 9, .inl (fun _ => 0)))] H := hP
  replace hD : va_D A [((a 0), .inr (7, [.int 0, .int 0, .ref q7, .ref q15, .ref q23, .ref q31, .ref q39, .ref q47, .ref q55, .ref q63, .null, .null])), (q7, .inl (T 2, 9, .inr (.inl (fun _ => 0)))), (q15, .inl (T 1, 9, .inl (fun _ => 0))), (q23, .inl (T 1, 9, .inl (fun _ => 0))), (q31, .inl (T 1, 9, .inl (fun _ => 0))), (q39, .inl (T 2, 9, .inr (.inl (fun _ => 0)))), (q47, .inl (T 1, 9, .inl (fun _ => 0))), (q55, .inl (T 1, 9, .inl (fun _ => 0))), (q63, .inl (T 1, 9, .inl (fun _ => 0)))] := hD
  refine lv_aload_n hx hb dX7_init_68 rfl (lv_at hl 0 rfl) ?_
  refine lv_bipush (v := 9) hx hb dX7_init_69 (by decide) ?_
  refine va_newa (atype := .int) (a0 := (9, .inl (fun _ => 0))) (N' := 9) hx hb (htg _ kw_221) rfl hK.1 hP hD hS hA (fun _ => rfl) (by decide) (by decide) (Nat.le_of_ble_eq_true rfl) (by rw [hR]; exact Nat.le_of_ble_eq_true rfl) (by rw [hR]; exact Nat.le_of_ble_eq_true rfl) dX7_init_71 (fun q71 cA H hK9 hP hD hS => ?_)
  obtain rfl : cA = T 1 := xRA_eq (hK9.2 6 _ rfl).2 (hK.1.2 1 _ rfl).2
  clear hK9
  replace hP : va_P D vwCl [((a 0), .inr (7, [.int 0, .int 0, .ref q7, .ref q15, .ref q23, .ref q31, .ref q39, .ref q47, .ref q55, .ref q63, .null, .null])), (q7, .inl (T 2, 9, .inr (.inl (fun _ => 0)))), (q15, .inl (T 1, 9, .inl (fun _ => 0))), (q23, .inl (T 1, 9, .inl (fun _ => 0))), (q31, .inl (T 1, 9, .inl (fun _ => 0))), (q39, .inl (T 2, 9, .inr (.inl (fun _ => 0)))), (q47, .inl (T 1, 9, .inl (fun _ => 0))), (q55, .inl (T 1, 9, .inl (fun _ => 0))), (q63, .inl (T 1, 9, .inl (fun _ => 0))), (q71, .inl (T 1, 9, .inl (fun _ => 0)))] H := hP
  replace hD : va_D A [((a 0), .inr (7, [.int 0, .int 0, .ref q7, .ref q15, .ref q23, .ref q31, .ref q39, .ref q47, .ref q55, .ref q63, .null, .null])), (q7, .inl (T 2, 9, .inr (.inl (fun _ => 0)))), (q15, .inl (T 1, 9, .inl (fun _ => 0))), (q23, .inl (T 1, 9, .inl (fun _ => 0))), (q31, .inl (T 1, 9, .inl (fun _ => 0))), (q39, .inl (T 2, 9, .inr (.inl (fun _ => 0)))), (q47, .inl (T 1, 9, .inl (fun _ => 0))), (q55, .inl (T 1, 9, .inl (fun _ => 0))), (q63, .inl (T 1, 9, .inl (fun _ => 0))), (q71, .inl (T 1, 9, .inl (fun _ => 0)))] := hD
  refine va_putF (D := D) (ci := 7) (v := .ref q71) (ty := .array .int) (C := RX7) (T := TX7) (N := 12) hx hb htg inX7 tyX7 tyX7_ok nmX7 hown hK.1 hP hD hS 0 rfl rfl 10 (by decide) (htg _ kw_191) (fun _ h9 => h9) rfl hin rfl (by decide +kernel) rfl rfl (Nat.le_of_ble_eq_true rfl) dX7_init_73 (fun H locs hP hD hS => ?_)
  replace hP : va_P D vwCl [((a 0), .inr (7, [.int 0, .int 0, .ref q7, .ref q15, .ref q23, .ref q31, .ref q39, .ref q47, .ref q55, .ref q63, .ref q71, .null])), (q7, .inl (T 2, 9, .inr (.inl (fun _ => 0)))), (q15, .inl (T 1, 9, .inl (fun _ => 0))), (q23, .inl (T 1, 9, .inl (fun _ => 0))), (q31, .inl (T 1, 9, .inl (fun _ => 0))), (q39, .inl (T 2, 9, .inr (.inl (fun _ => 0)))), (q47, .inl (T 1, 9, .inl (fun _ => 0))), (q55, .inl (T 1, 9, .inl (fun _ => 0))), (q63, .inl (T 1, 9, .inl (fun _ => 0))), (q71, .inl (T 1, 9, .inl (fun _ => 0)))] H := hP
  replace hD : va_D A [((a 0), .inr (7, [.int 0, .int 0, .ref q7, .ref q15, .ref q23, .ref q31, .ref q39, .ref q47, .ref q55, .ref q63, .ref q71, .null])), (q7, .inl (T 2, 9, .inr (.inl (fun _ => 0)))), (q15, .inl (T 1, 9, .inl (fun _ => 0))), (q23, .inl (T 1, 9, .inl (fun _ => 0))), (q31, .inl (T 1, 9, .inl (fun _ => 0))), (q39, .inl (T 2, 9, .inr (.inl (fun _ => 0)))), (q47, .inl (T 1, 9, .inl (fun _ => 0))), (q55, .inl (T 1, 9, .inl (fun _ => 0))), (q63, .inl (T 1, 9, .inl (fun _ => 0))), (q71, .inl (T 1, 9, .inl (fun _ => 0)))] := hD
  refine lv_aload_n hx hb dX7_init_76 rfl (lv_at hl 0 rfl) ?_
  refine lv_bipush (v := 81) hx hb dX7_init_77 (by decide) ?_
  refine va_newa (atype := .int) (a0 := (81, .inl (fun _ => 0))) (N' := 81) hx hb (htg _ kw_221) rfl hK.1 hP hD hS hA (fun _ => rfl) (by decide) (by decide) (Nat.le_of_ble_eq_true rfl) (by rw [hR]; exact Nat.le_of_ble_eq_true rfl) (by rw [hR]; exact Nat.le_of_ble_eq_true rfl) dX7_init_79 (fun q79 cA H hK9 hP hD hS => ?_)
  obtain rfl : cA = T 1 := xRA_eq (hK9.2 6 _ rfl).2 (hK.1.2 1 _ rfl).2
  clear hK9
  replace hP : va_P D vwCl [((a 0), .inr (7, [.int 0, .int 0, .ref q7, .ref q15, .ref q23, .ref q31, .ref q39, .ref q47, .ref q55, .ref q63, .ref q71, .null])), (q7, .inl (T 2, 9, .inr (.inl (fun _ => 0)))), (q15, .inl (T 1, 9, .inl (fun _ => 0))), (q23, .inl (T 1, 9, .inl (fun _ => 0))), (q31, .inl (T 1, 9, .inl (fun _ => 0))), (q39, .inl (T 2, 9, .inr (.inl (fun _ => 0)))), (q47, .inl (T 1, 9, .inl (fun _ => 0))), (q55, .inl (T 1, 9, .inl (fun _ => 0))), (q63, .inl (T 1, 9, .inl (fun _ => 0))), (q71, .inl (T 1, 9, .inl (fun _ => 0))), (q79, .inl (T 1, 81, .inl (fun _ => 0)))] H := hP
  replace hD : va_D A [((a 0), .inr (7, [.int 0, .int 0, .ref q7, .ref q15, .ref q23, .ref q31, .ref q39, .ref q47, .ref q55, .ref q63, .ref q71, .null])), (q7, .inl (T 2, 9, .inr (.inl (fun _ => 0)))), (q15, .inl (T 1, 9, .inl (fun _ => 0))), (q23, .inl (T 1, 9, .inl (fun _ => 0))), (q31, .inl (T 1, 9, .inl (fun _ => 0))), (q39, .inl (T 2, 9, .inr (.inl (fun _ => 0)))), (q47, .inl (T 1, 9, .inl (fun _ => 0))), (q55, .inl (T 1, 9, .inl (fun _ => 0))), (q63, .inl (T 1, 9, .inl (fun _ => 0))), (q71, .inl (T 1, 9, .inl (fun _ => 0))), (q79, .inl (T 1, 81, .inl (fun _ => 0)))] := hD
  refine va_putF (D := D) (ci := 7) (v := .ref q79) (ty := .array .int) (C := RX7) (T := TX7) (N := 12) hx hb htg inX7 tyX7 tyX7_ok nmX7 hown hK.1 hP hD hS 0 rfl rfl 11 (by decide) (htg _ kw_194) (fun _ h9 => h9) rfl hin rfl (by decide +kernel) rfl rfl (Nat.le_of_ble_eq_true rfl) dX7_init_81 (fun H locs hP hD hS => ?_)
  replace hP : va_P D vwCl [((a 0), .inr (7, [.int 0, .int 0, .ref q7, .ref q15, .ref q23, .ref q31, .ref q39, .ref q47, .ref q55, .ref q63, .ref q71, .ref q79])), (q7, .inl (T 2, 9, .inr (.inl (fun _ => 0)))), (q15, .inl (T 1, 9, .inl (fun _ => 0))), (q23, .inl (T 1, 9, .inl (fun _ => 0))), (q31, .inl (T 1, 9, .inl (fun _ => 0))), (q39, .inl (T 2, 9, .inr (.inl (fun _ => 0)))), (q47, .inl (T 1, 9, .inl (fun _ => 0))), (q55, .inl (T 1, 9, .inl (fun _ => 0))), (q63, .inl (T 1, 9, .inl (fun _ => 0))), (q71, .inl (T 1, 9, .inl (fun _ => 0))), (q79, .inl (T 1, 81, .inl (fun _ => 0)))] H := hP
  replace hD : va_D A [((a 0), .inr (7, [.int 0, .int 0, .ref q7, .ref q15, .ref q23, .ref q31, .ref q39, .ref q47, .ref q55, .ref q63, .ref q71, .ref q79])), (q7, .inl (T 2, 9, .inr (.inl (fun _ => 0)))), (q15, .inl (T 1, 9, .inl (fun _ => 0))), (q23, .inl (T 1, 9, .inl (fun _ => 0))), (q31, .inl (T 1, 9, .inl (fun _ => 0))), (q39, .inl (T 2, 9, .inr (.inl (fun _ => 0)))), (q47, .inl (T 1, 9, .inl (fun _ => 0))), (q55, .inl (T 1, 9, .inl (fun _ => 0))), (q63, .inl (T 1, 9, .inl (fun _ => 0))), (q71, .inl (T 1, 9, .inl (fun _ => 0))), (q79, .inl (T 1, 81, .inl (fun _ => 0)))] := hD
  have hP9 := hP.sub (ws' := [((a 0), .inr (7, [.int 0, .int 0, .ref q7, .ref q15, .ref q23, .ref q31, .ref q39, .ref q47, .ref q55, .ref q63, .ref q71, .ref q79])), (q7, .inl (T 2, 9, .inr (.inl (fun _ => 0)))), (q15, .inl (T 1, 9, .inl (fun _ => 0))), (q23, .inl (T 1, 9, .inl (fun _ => 0))), (q31, .inl (T 1, 9, .inl (fun _ => 0))), (q39, .inl (T 2, 9, .inr (.inl (fun _ => 0)))), (q47, .inl (T 1, 9, .inl (fun _ => 0))), (q55, .inl (T 1, 9, .inl (fun _ => 0))), (q63, .inl (T 1, 9, .inl (fun _ => 0))), (q71, .inl (T 1, 9, .inl (fun _ => 0))), (q79, .inl (T 1, 81, .inl (fun _ => 0)))]) [0, 1, 2, 3, 4, 5, 6, 7, 8, 9, 10] rfl
  have hD9 := hD.sub (ws' := [((a 0), .inr (7, [.int 0, .int 0, .ref q7, .ref q15, .ref q23, .ref q31, .ref q39, .ref q47, .ref q55, .ref q63, .ref q71, .ref q79])), (q7, .inl (T 2, 9, .inr (.inl (fun _ => 0)))), (q15, .inl (T 1, 9, .inl (fun _ => 0))), (q23, .inl (T 1, 9, .inl (fun _ => 0))), (q31, .inl (T 1, 9, .inl (fun _ => 0))), (q39, .inl (T 2, 9, .inr (.inl (fun _ => 0)))), (q47, .inl (T 1, 9, .inl (fun _ => 0))), (q55, .inl (T 1, 9, .inl (fun _ => 0))), (q63, .inl (T 1, 9, .inl (fun _ => 0))), (q71, .inl (T 1, 9, .inl (fun _ => 0))), (q79, .inl (T 1, 81, .inl (fun _ => 0)))]) [0, 1, 2, 3, 4, 5, 6, 7, 8, 9, 10] (by decide +kernel) rfl
  refine W.widen (k := 10) (n := 162) (Nat.le_of_ble_eq_true rfl) (Nat.le_of_ble_eq_true rfl) ?_
  rw [hQ]
  exact W.vret hx hb hr (fun t ht hW => ⟨⟨(), rfl, trivial, ⟨xa [q7, q15, q23, q31, q39, q47, q55, q63, q71, q79], xf [], xh [], xv [], by rw [ht]; exact hP9, hD9, trivial⟩⟩, hS.F ht⟩) hS.2.2 dX7_init_84
abbrev pre1_X8_init (T : Nat → ClassId) (a ex : Nat → Nat) (fi : Nat → Nat → Int32) (fl : Nat → Nat → Int64) (vi : Nat → Int32) : va_W := [((a 0), .inr (8, [.null, .null, .int 0]))]
set_option maxHeartbeats 4000000 in
set_option maxRecDepth 100000 in
theorem c1_X8_init (l : Launch) (D : va_G) (T : Nat → ClassId) (a ex : Nat → Nat) (fi : Nat → Nat → Int32) (fl : Nat → Nat → Int64) (vi : Nat → Int32) (sz : Nat) : Met l yX8_init (xw yX8_init cX8_init 3 none) ({ frames := 1, cells := 0, slots := 0, locals := 40 }) (xP D T [.ref (a 0), .ref (ex 0), .ref (ex 1)] sz (pre1_X8_init T a ex fi fl vi)) (va_Qv (fun _ : Unit => True) (xB D (va_A (pre1_X8_init T a ex fi fl vi) sz) (fun _ => True) (fun b fj fm vj => [((a 0), .inr (8, [.ref (ex 0), .ref (ex 1), .int 0]))])) (va_A (pre1_X8_init T a ex fi fl vi) sz)) 0 0 (va_A (pre1_X8_init T a ex fi fl vi) sz) := by
  refine xofW (cc := cX8_init) (maxL := 3) (ret := none) (by decide) rfl ?_
  intro p e s m args below meth c s₁ R Q hR hQ B hml hv
  obtain ⟨rfl, hsz, hP, hK, hD0⟩ := hv
  have hx := B.exec
  have hb := B.bytes
  have hr := B.returns
  have hts := atoms_spec (ws := xw yX8_init cX8_init 3 none) B.pre
  have htg : ∀ w ∈ xg, w.before _ s = true := fun w h => hts w (List.mem_cons_of_mem _ h)
  have hown : s.vm.findClass RX8 = some m.cls := findClass_of_methodNamed B.named
  have hlocks := B.notSynchronized
  have hin : meth.name = "<init>" := (name_of_methodNamed B.named B.method).1
  subst hsz
  have hD := hD0.self (sz := s.heap.size)
  generalize hAe : va_A (pre1_X8_init T a ex fi fl vi) s.heap.size = A at hD hQ
  have hA : ∀ q : Nat, s.heap.size ≤ q → A q := fun q h => by rw [← hAe]; exact Or.inr h
  have hS : va_S A s.heap s.heap [] := va_S.rf
  replace hP : va_P D vwCl [((a 0), .inr (8, [.null, .null, .int 0]))] s.heap := hP
  replace hD : va_D A [((a 0), .inr (8, [.null, .null, .int 0]))] := hD
  have hl := lv_entry ([.ref (a 0), .ref (ex 0), .ref (ex 1)]) (n := 3) (Nat.le_of_ble_eq_true rfl)
  rw [lg_entry_eq]
  generalize (lg_sl ([.ref (a 0), .ref (ex 0), .ref (ex 1)]) ++ List.replicate (3 - (lg_sl ([.ref (a 0), .ref (ex 0), .ref (ex 1)])).length) Slot.unset).toArray = ls at hl ⊢
  replace hl : lv_has ls 3 [(0, .ref (a 0)), (1, .ref (ex 0)), (2, .ref (ex 1))] := hl
  refine lv_aload_n hx hb dX8_init_0 rfl (lv_at hl 0 rfl) ?_
  refine W.objInit hx hb hown (htg _ kw_227) (htg _ kw_31) (htg _ kw_32) rfl (by rw [hml]; exact hl.1) rfl dX8_init_1 (by rw [hR]; exact Nat.le_of_ble_eq_true rfl) (by rw [hR]; exact Nat.le_of_ble_eq_true rfl) ?_
  refine W.eq (g2 := F0 m 4 ls []) rfl ?_
  refine lv_aload_n hx hb dX8_init_4 rfl (lv_at hl 0 rfl) ?_
  refine lv_aload_n hx hb dX8_init_5 rfl (lv_at hl 1 rfl) ?_
  refine va_putF (D := D) (ci := 8) (v := .ref (ex 0)) (ty := .object "NamesAgain$Tape") (C := RX8) (T := TX8) (N := 3) hx hb htg inX8 tyX8 tyX8_ok nmX8 hown hK.1 hP hD hS 0 rfl rfl 0 (by decide) (htg _ kw_228) (fun _ h9 => h9) rfl hin rfl (by decide +kernel) rfl rfl (Nat.le_of_ble_eq_true rfl) dX8_init_6 (fun H locs hP hD hS => ?_)
  replace hP : va_P D vwCl [((a 0), .inr (8, [.ref (ex 0), .null, .int 0]))] H := hP
  replace hD : va_D A [((a 0), .inr (8, [.ref (ex 0), .null, .int 0]))] := hD
  refine lv_aload_n hx hb dX8_init_9 rfl (lv_at hl 0 rfl) ?_
  refine lv_aload_n hx hb dX8_init_10 rfl (lv_at hl 2 rfl) ?_
  refine va_putF (D := D) (ci := 8) (v := .ref (ex 1)) (ty := .object "NamesAgain$Told") (C := RX8) (T := TX8) (N := 3) hx hb htg inX8 tyX8 tyX8_ok nmX8 hown hK.1 hP hD hS 0 rfl rfl 1 (by decide) (htg _ kw_229) (fun _ h9 => h9) rfl hin rfl (by decide +kernel) rfl rfl (Nat.le_of_ble_eq_true rfl) dX8_init_11 (fun H locs hP hD hS => ?_)
  replace hP : va_P D vwCl [((a 0), .inr (8, [.ref (ex 0), .ref (ex 1), .int 0]))] H := hP
  replace hD : va_D A [((a 0), .inr (8, [.ref (ex 0), .ref (ex 1), .int 0]))] := hD
  have hP9 := hP.sub (ws' := [((a 0), .inr (8, [.ref (ex 0), .ref (ex 1), .int 0]))]) [0] rfl
  have hD9 := hD.sub (ws' := [((a 0), .inr (8, [.ref (ex 0), .ref (ex 1), .int 0]))]) [0] (by decide +kernel) rfl
  rw [hQ]
  exact W.vret hx hb hr (fun t ht hW => ⟨⟨(), rfl, trivial, ⟨xa [], xf [], xh [], xv [], by rw [ht]; exact hP9, hD9, trivial⟩⟩, hS.F ht⟩) hS.2.2 dX8_init_14
abbrev pre1_X2_init (T : Nat → ClassId) (a ex : Nat → Nat) (fi : Nat → Nat → Int32) (fl : Nat → Nat → Int64) (vi : Nat → Int32) : va_W := [((a 0), .inr (2, [.null, .int 0, .int 0, .int 0, .int 0, .int 0, .int 0, .null, .null, .null, .null, .null, .null, .null, .null]))]
set_option maxHeartbeats 4000000 in
set_option maxRecDepth 100000 in
theorem c1_X2_init (l : Launch) (D : va_G) (T : Nat → ClassId) (a ex : Nat → Nat) (fi : Nat → Nat → Int32) (fl : Nat → Nat → Int64) (vi : Nat → Int32) (sz : Nat) : Met l yX2_init (xw yX2_init cX2_init 2 none) ({ frames := 1, cells := 8, slots := 263, locals := 40 }) (xP D T [.ref (a 0), .ref (ex 0)] sz (pre1_X2_init T a ex fi fl vi)) (va_Qv (fun _ : Unit => True) (xB D (va_A (pre1_X2_init T a ex fi fl vi) sz) (fun _ => True) (fun b fj fm vj => [((a 0), .inr (2, [.ref (ex 0), .int 0, .int 0, .int 0, .int 0, .int 0, .int 0, .ref (b 0), .ref (b 1), .ref (b 2), .ref (b 3), .ref (b 4), .ref (b 5), .ref (b 6), .ref (b 7)])), ((b 0), .inl (T 1, 9, .inl (fun _ => 0))), ((b 1), .inl (T 1, 9, .inl (fun _ => 0))), ((b 2), .inl (T 1, 9, .inl (fun _ => 0))), ((b 3), .inl (T 1, 9, .inl (fun _ => 0))), ((b 4), .inl (T 1, 9, .inl (fun _ => 0))), ((b 5), .inl (T 1, 9, .inl (fun _ => 0))), ((b 6), .inl (T 1, 9, .inl (fun _ => 0))), ((b 7), .inl (T 2, 200, .inr (.inl (fun _ => 0))))])) (va_A (pre1_X2_init T a ex fi fl vi) sz)) 8 263 (va_A (pre1_X2_init T a ex fi fl vi) sz) := by
  refine xofW (cc := cX2_init) (maxL := 2) (ret := none) (by decide) rfl ?_
  intro p e s m args below meth c s₁ R Q hR hQ B hml hv
  obtain ⟨rfl, hsz, hP, hK, hD0⟩ := hv
  have hx := B.exec
  have hb := B.bytes
  have hr := B.returns
  have hts := atoms_spec (ws := xw yX2_init cX2_init 2 none) B.pre
  have htg : ∀ w ∈ xg, w.before _ s = true := fun w h => hts w (List.mem_cons_of_mem _ h)
  have hown : s.vm.findClass RX2 = some m.cls := findClass_of_methodNamed B.named
  have hlocks := B.notSynchronized
  have hin : meth.name = "<init>" := (name_of_methodNamed B.named B.method).1
  subst hsz
  have hD := hD0.self (sz := s.heap.size)
  generalize hAe : va_A (pre1_X2_init T a ex fi fl vi) s.heap.size = A at hD hQ
  have hA : ∀ q : Nat, s.heap.size ≤ q → A q := fun q h => by rw [← hAe]; exact Or.inr h
  have hS : va_S A s.heap s.heap [] := va_S.rf
  replace hP : va_P D vwCl [((a 0), .inr (2, [.null, .int 0, .int 0, .int 0, .int 0, .int 0, .int 0, .null, .null, .null, .null, .null, .null, .null, .null]))] s.heap := hP
  replace hD : va_D A [((a 0), .inr (2, [.null, .int 0, .int 0, .int 0, .int 0, .int 0, .int 0, .null, .null, .null, .null, .null, .null, .null, .null]))] := hD
  have hl := lv_entry ([.ref (a 0), .ref (ex 0)]) (n := 2) (Nat.le_of_ble_eq_true rfl)
  rw [lg_entry_eq]
  generalize (lg_sl ([.ref (a 0), .ref (ex 0)]) ++ List.replicate (2 - (lg_sl ([.ref (a 0), .ref (ex 0)])).length) Slot.unset).toArray = ls at hl ⊢
  replace hl : lv_has ls 2 [(0, .ref (a 0)), (1, .ref (ex 0))] := hl
  refine lv_aload_n hx hb dX2_init_0 rfl (lv_at hl 0 rfl) ?_
  refine W.objInit hx hb hown (htg _ kw_244) (htg _ kw_31) (htg _ kw_32) rfl (by rw [hml]; exact hl.1) rfl dX2_init_1 (by rw [hR]; exact Nat.le_of_ble_eq_true rfl) (by rw [hR]; exact Nat.le_of_ble_eq_true rfl) ?_
  refine W.eq (g2 := F0 m 4 ls []) rfl ?_
  refine lv_aload_n hx hb dX2_init_4 rfl (lv_at hl 0 rfl) ?_
  refine lv_bipush (v := 9) hx hb dX2_init_5 (by decide) ?_
  refine va_newa (atype := .int) (a0 := (9, .inl (fun _ => 0))) (N' := 9) hx hb (htg _ kw_221) rfl hK.1 hP hD hS hA (fun _ => rfl) (by decide) (by decide) (Nat.le_of_ble_eq_true rfl) (by rw [hR]; exact Nat.le_of_ble_eq_true rfl) (by rw [hR]; exact Nat.le_of_ble_eq_true rfl) dX2_init_7 (fun q7 cA H hK9 hP hD hS => ?_)
  obtain rfl : cA = T 1 := xRA_eq (hK9.2 6 _ rfl).2 (hK.1.2 1 _ rfl).2
  clear hK9
  replace hP : va_P D vwCl [((a 0), .inr (2, [.null, .int 0, .int 0, .int 0, .int 0, .int 0, .int 0, .null, .null, .null, .null, .null, .null, .null, .null])), (q7, .inl (T 1, 9, .inl (fun _ => 0)))] H := hP
  replace hD : va_D A [((a 0), .inr (2, [.null, .int 0, .int 0, .int 0, .int 0, .int 0, .int 0, .null, .null, .null, .null, .null, .null, .null, .null])), (q7, .inl (T 1, 9, .inl (fun _ => 0)))] := hD
  refine va_putF (D := D) (ci := 2) (v := .ref q7) (ty := .array .int) (C := RX2) (T := TX2) (N := 15) hx hb htg inX2 tyX2 tyX2_ok nmX2 hown hK.1 hP hD hS 0 rfl rfl 7 (by decide) (htg _ kw_260) (fun _ h9 => h9) rfl hin rfl (by decide +kernel) rfl rfl (Nat.le_of_ble_eq_true rfl) dX2_init_9 (fun H locs hP hD hS => ?_)
  replace hP : va_P D vwCl [((a 0), .inr (2, [.null, .int 0, .int 0, .int 0, .int 0, .int 0, .int 0, .ref q7, .null, .null, .null, .null, .null, .null, .null])), (q7, .inl (T 1, 9, .inl (fun _ => 0)))] H := hP
  replace hD : va_D A [((a 0), .inr (2, [.null, .int 0, .int 0, .int 0, .int 0, .int 0, .int 0, .ref q7, .null, .null, .null, .null, .null, .null, .null])), (q7, .inl (T 1, 9, .inl (fun _ => 0)))] := hD
  refine lv_aload_n hx hb dX2_init_12 rfl (lv_at hl 0 rfl) ?_
  refine lv_bipush (v := 9) hx hb dX2_init_13 (by decide) ?_
  refine va_newa (atype := .int) (a0 := (9, .inl (fun _ => 0))) (N' := 9) hx hb (htg _ kw_221) rfl hK.1 hP hD hS hA (fun _ => rfl) (by decide) (by decide) (Nat.le_of_ble_eq_true rfl) (by rw [hR]; exact Nat.le_of_ble_eq_true rfl) (by rw [hR]; exact Nat.le_of_ble_eq_true rfl) dX2_init_15 (fun q15 cA H hK9 hP hD hS => ?_)
  obtain rfl : cA = T 1 := xRA_eq (hK9.2 6 _ rfl).2 (hK.1.2 1 _ rfl).2
  clear hK9
  replace hP : va_P D vwCl [((a 0), .inr (2, [.null, .int 0, .int 0, .int 0, .int 0, .int 0, .int 0, .ref q7, .null, .null, .null, .null, .null, .null, .null])), (q7, .inl (T 1, 9, .inl (fun _ => 0))), (q15, .inl (T 1, 9, .inl (fun _ => 0)))] H := hP
  replace hD : va_D A [((a 0), .inr (2, [.null, .int 0, .int 0, .int 0, .int 0, .int 0, .int 0, .ref q7, .null, .null, .null, .null, .null, .null, .null])), (q7, .inl (T 1, 9, .inl (fun _ => 0))), (q15, .inl (T 1, 9, .inl (fun _ => 0)))] := hD
  refine va_putF (D := D) (ci := 2) (v := .ref q15) (ty := .array .int) (C := RX2) (T := TX2) (N := 15) hx hb htg inX2 tyX2 tyX2_ok nmX2 hown hK.1 hP hD hS 0 rfl rfl 8 (by decide) (htg _ kw_264) (fun _ h9 => h9) rfl hin rfl (by decide +kernel) rfl rfl (Nat.le_of_ble_eq_true rfl) dX2_init_17 (fun H locs hP hD hS => ?_)
  replace hP : va_P D vwCl [((a 0), .inr (2, [.null, .int 0, .int 0, .int 0, .int 0, .int 0, .int 0, .ref q7, .ref q15, .null, .null, .null, .null, .null, .null])), (q7, .inl (T 1, 9, .inl (fun _ => 0))), (q15, .inl (T 1, 9, .inl (fun _ => 0)))] H := hP
  replace hD : va_D A [((a 0), .inr (2, [.null, .int 0, .int 0, .int 0, .int 0, .int 0, .int 0, .ref q7, .ref q15, .null, .null, .null, .null, .null, .null])), (q7, .inl (T 1, 9, .inl (fun _ => 0))), (q15, .inl (T 1, 9, .inl (fun _ => 0)))] := hD
  refine lv_aload_n hx hb dX2_init_20 rfl (lv_at hl 0 rfl) ?_
  refine lv_bipush (v := 9) hx hb dX2_init_21 (by decide) ?_
  refine va_newa (atype := .int) (a0 := (9, .inl (fun _ => 0))) (N' := 9) hx hb (htg _ kw_221) rfl hK.1 hP hD hS hA (fun _ => rfl) (by decide) (by decide) (Nat.le_of_ble_eq_true rfl) (by rw [hR]; exact Nat.le_of_ble_eq_true rfl) (by rw [hR]; exact Nat.le_of_ble_eq_true rfl) dX2_init_23 (fun q23 cA H hK9 hP hD hS => ?_)
  obtain rfl : cA = T 1 := xRA_eq (hK9.2 6 _ rfl).2 (hK.1.2 1 _ rfl).2
  clear hK9
  replace hP : va_P D vwCl [((a 0), .inr (2, [.null, .int 0, .int 0, .int 0, .int 0, .int 0, .int 0, .ref q7, .ref q15, .null, .null, .null, .null, .null, .null])), (q7, .inl (T 1, 9, .inl (fun _ => 0))), (q15, .inl (T 1, 9, .inl (fun _ => 0))), (q23, .inl (T 1, 9, .inl (fun _ => 0)))] H := hP
  replace hD : va_D A [((a 0), .inr (2, [.null, .int 0, .int 0, .int 0, .int 0, .int 0, .int 0, .ref q7, .ref q15, .null, .null, .null, .null, .null, .null])), (q7, .inl (T 1, 9, .inl (fun _ => 0))), (q15, .inl (T 1, 9, .inl (fun _ => 0))), (q23, .inl (T 1, 9, .inl (fun _ => 0)))] := hD
  refine va_putF (D := D) (ci := 2) (v := .ref q23) (ty := .array .int) (C := RX2) (T := TX2) (N := 15) hx hb htg inX2 tyX2 tyX2_ok nmX2 hown hK.1 hP hD hS 0 rfl rfl 9 (by decide) (htg _ kw_266) (fun _ h9 => h9) rfl hin rfl (by decide +kernel) rfl rfl (Nat.le_of_ble_eq_true rfl) dX2_init_25 (fun H locs hP hD hS => ?_)
  replace hP : va_P D vwCl [((a 0), .inr (2, [.null, .int 0, .int 0, .int 0, .int 0, .int 0, .int 0, .ref q7, .ref q15, .ref q23, .null, .null, .null, .null, .null])), (q7, .inl (T 1, 9, .inl (fun _ => 0))), (q15, .inl (T 1, 9, .inl (fun _ => 0))), (q23, .inl (T 1, 9, .inl (fun _ => 0)))] H := hP
  replace hD : va_D A [((a 0), .inr (2, [.null, .int 0, .int 0, .int 0, .int 0, .int 0, .int 0, .ref q7, .ref q15, .ref q23, .null, .null, .null, .null, .null])), (q7, .inl (T 1, 9, .inl (fun _ => 0))), (q15, .inl (T 1, 9, .inl (fun _ => 0))), (q23, .inl (T 1, 9, .inl (fun _ => 0)))] := hD
  refine lv_aload_n hx hb dX2_init_28 rfl (lv_at hl 0 rfl) ?_
  refine lv_bipush (v := 9) hx hb dX2_init_29 (by decide) ?_
  refine va_newa (atype := .int) (a0 := (9, .inl (fun _ => 0))) (N' := 9) hx hb (htg _ kw_221) rfl hK.1 hP hD hS hA (fun _ => rfl) (by decide) (by decide) (Nat.le_of_ble_eq_true rfl) (by rw [hR]; exact Nat.le_of_ble_eq_true rfl) (by rw [hR]; exact Nat.le_of_ble_eq_true rfl) dX2_init_31 (fun q31 cA H hK9 hP hD hS => ?_)
  obtain rfl : cA = T 1 := xRA_eq (hK9.2 6 _ rfl).2 (hK.1.2 1 _ rfl).2
  clear hK9
  replace hP : va_P D vwCl [((a 0), .inr (2, [.null, .int 0, .int 0, .int 0, .int 0, .int 0, .int 0, .ref q7, .ref q15, .ref q23, .null, .null, .null, .null, .null])), (q7, .inl (T 1, 9, .inl (fun _ => 0))), (q15, .inl (T 1, 9, .inl (fun _ => 0))), (q23, .inl (T 1, 9, .inl (fun _ => 0))), (q31, .inl (T 1, 9, .inl (fun _ => 0)))] H := hP
  replace hD : va_D A [((a 0), .inr (2, [.null, .int 0, .int 0, .int 0, .int 0, .int 0, .int 0, .ref q7, .ref q15, .ref q23, .null, .null, .null, .null, .null])), (q7, .inl (T 1, 9, .inl (fun _ => 0))), (q15, .inl (T 1, 9, .inl (fun _ => 0))), (q23, .inl (T 1, 9, .inl (fun _ => 0))), (q31, .inl (T 1, 9, .inl (fun _ => 0)))] := hD
  refine va_putF (D := D) (ci := 2) (v := .ref q31) (ty := .array .int) (C := RX2) (T := TX2) (N := 15) hx hb htg inX2 tyX2 tyX2_ok nmX2 hown hK.1 hP hD hS 0 rfl rfl 10 (by decide) (htg _ kw_267) (fun _ h9 => h9) rfl hin rfl (by decide +kernel) rfl rfl (Nat.le_of_ble_eq_true rfl) dX2_init_33 (fun H locs hP hD hS => ?_)
  replace hP : va_P D vwCl [((a 0), .inr (2, [.null, .int 0, .int 0, .int 0, .int 0, .int 0, .int 0, .ref q7, .ref q15, .ref q23, .ref q31, .null, .null, .null, .null])), (q7, .inl (T 1, 9, .inl (fun _ => 0))), (q15, .inl (T 1, 9, .inl (fun _ => 0))), (q23, .inl (T 1, 9, .inl (fun _ => 0))), (q31, .inl (T 1, 9, .inl (fun _ => 0)))] H := hP
  replace hD : va_D A [((a 0), .inr (2, [.null, .int 0, .int 0, .int 0, .int 0, .int 0, .int 0, .ref q7, .ref q15, .ref q23, .ref q31, .null, .null, .null, .null])), (q7, .inl (T 1, 9, .inl (fun _ => 0))), (q15, .inl (T 1, 9, .inl (fun _ => 0))), (q23, .inl (T 1, 9, .inl (fun _ => 0))), (q31, .inl (T 1, 9, .inl (fun _ => 0)))] := hD
  refine lv_aload_n hx hb dX2_init_36 rfl (lv_at hl 0 rfl) ?_
  refine lv_bipush (v := 9) hx hb dX2_init_37 (by decide) ?_
  refine va_newa (atype := .int) (a0 := (9, .inl (fun _ => 0))) (N' := 9) hx hb (htg _ kw_221) rfl hK.1 hP hD hS hA (fun _ => rfl) (by decide) (by decide) (Nat.le_of_ble_eq_true rfl) (by rw [hR]; exact Nat.le_of_ble_eq_true rfl) (by rw [hR]; exact Nat.le_of_ble_eq_true rfl) dX2_init_39 (fun q39 cA H hK9 hP hD hS => ?_)
  obtain rfl : cA = T 1 := xRA_eq (hK9.2 6 _ rfl).2 (hK.1.2 1 _ rfl).2
  clear hK9
  replace hP : va_P D vwCl [((a 0), .inr (2, [.null, .int 0, .int 0, .int 0, .int 0, .int 0, .int 0, .ref q7, .ref q15, .ref q23, .ref q31, .null, .null, .null, .null])), (q7, .inl (T 1, 9, .inl (fun _ => 0))), (q15, .inl (T 1, 9, .inl (fun _ => 0))), (q23, .inl (T 1, 9, .inl (fun _ => 0))), (q31, .inl (T 1, 9, .inl (fun _ => 0))), (q39, .inl (T 1, 9, .inl (fun _ => 0)))] H := hP
  replace hD : va_D A [((a 0), .inr (2, [.null, .int 0, .int 0, .int 0, .int 0, .int 0, .int 0, .ref q7, .ref q15, .ref q23, .ref q31, .null, .null, .null, .null])), (q7, .inl (T 1, 9, .inl (fun _ => 0))), (q15, .inl (T 1, 9, .inl (fun _ => 0))), (q23, .inl (T 1, 9, .inl (fun _ => 0))), (q31, .inl (T 1, 9, .inl (fun _ => 0))), (q39, .inl (T 1, 9, .inl (fun _ => 0)))] := hD
  refine va_putF (D := D) (ci := 2) (v := .ref q39) (ty := .array .int) (C := RX2) (T := TX2) (N := 15) hx hb htg inX2 tyX2 tyX2_ok nmX2 hown hK.1 hP hD hS 0 rfl rfl 11 (by decide) (htg _ kw_271) (fun _ h9 => h9) rfl hin rfl (by decide +kernel) rfl rfl (Nat.le_of_ble_eq_true rfl) dX2_init_41 (fun H locs hP hD hS => ?_)
  replace hP : va_P D vwCl [((a 0), .inr (2, [.null, .int 0, .int 0, .int 0, .int 0, .int 0, .int 0, .ref q7, .ref q15, .ref q23, .ref q31, .ref q39, .null, .null, .null])), (q7, .inl (T 1, 9, .inl (fun _ => 0))), (q15, .inl (T 1, 9, .inl (fun _ => 0))), (q23, .inl (T 1, 9, .inl (fun _ => 0))), (q31, .inl (T 1, 9, .inl (fun _ => 0))), (q39, .inl (T 1, 9, .inl (fun _ => 0)))] H := hP
  replace hD : va_D A [((a 0), .inr (2, [.null, .int 0, .int 0, .int 0, .int 0, .int 0, .int 0, .ref q7, .ref q15, .ref q23, .ref q31, .ref q39, .null, .null, .null])), (q7, .inl (T 1, 9, .inl (fun _ => 0))), (q15, .inl (T 1, 9, .inl (fun _ => 0))), (q23, .inl (T 1, 9, .inl (fun _ => 0))), (q31, .inl (T 1, 9, .inl (fun _ => 0))), (q39, .inl (T 1, 9, .inl (fun _ => 0)))] := hD
  refine lv_aload_n hx hb dX2_init_44 rfl (lv_at hl 0 rfl) ?_
  refine lv_bipush (v := 9) hx hb dX2_init_45 (by decide) ?_
  refine va_newa (atype := .int) (a0 := (9, .inl (fun _ => 0))) (N' := 9) hx hb (htg _ kw_221) rfl hK.1 hP hD hS hA (fun _ => rfl) (by decide) (by decide) (Nat.le_of_ble_eq_true rfl) (by rw [hR]; exact Nat.le_of_ble_eq_true rfl) (by rw [hR]; exact Nat.le_of_ble_eq_true rfl) dX2_init_47 (fun q47 cA H hK9 hP hD hS => ?_)
  obtain rfl : cA = T 1 := xRA_eq (hK9.2 6 _ rfl).2 (hK.1.2 1 _ rfl).2
  clear hK9
  replace hP : va_P D vwCl [((a 0), .inr (2, [.null, .int 0, .int 0, .int 0, .int 0, .int 0, .int 0, .ref q7, .ref q15, .ref q23, .ref q31, .ref q39, .null, .null, .null])), (q7, .inl (T 1, 9, .inl (fun _ => 0))), (q15, .inl (T 1, 9, .inl (fun _ => 0))), (q23, .inl (T 1, 9, .inl (fun _ => 0))), (q31, .inl (T 1, 9, .inl (fun _ => 0))), (q39, .inl (T 1, 9, .inl (fun _ => 0))), (q47, .inl (T 1, 9, .inl (fun _ => 0)))] H := hP
  replace hD : va_D A [((a 0), .inr (2, [.null, .int 0, .int 0, .int 0, .int 0, .int 0, .int 0, .ref q7, .ref q15, .ref q23, .ref q31, .ref q39, .null, .null, .null])), (q7, .inl (T 1, 9, .inl (fun _ => 0))), (q15, .inl (T 1, 9, .inl (fun _ => 0))), (q23, .inl (T 1, 9, .inl (fun _ => 0))), (q31, .inl (T 1, 9, .inl (fun _ => 0))), (q39, .inl (T 1, 9, .inl (fun _ => 0))), (q47, .inl (T 1, 9, .inl (fun _ => 0)))] := hD
  refine va_putF (D := D) (ci := 2) (v := .ref q47) (ty := .array .int) (C := RX2) (T := TX2) (N := 15) hx hb htg inX2 tyX2 tyX2_ok nmX2 hown hK.1 hP hD hS 0 rfl rfl 12 (by decide) (htg _ kw_275) (fun _ h9 => h9) rfl hin rfl (by decide +kernel) rfl rfl (Nat.le_of_ble_eq_true rfl) dX2_init_49 (fun H locs hP hD hS => ?_)
  replace hP : va_P D vwCl [((a 0), .inr (2, [.null, .int 0, .int 0, .int 0, .int 0, .int 0, .int 0, .ref q7, .ref q15, .ref q23, .ref q31, .ref q39, .ref q47, .null, .null])), (q7, .inl (T 1, 9, .inl (fun _ => 0))), (q15, .inl (T 1, 9, .inl (fun _ => 0))), (q23, .inl (T 1, 9, .inl (fun _ => 0))), (q31, .inl (T 1, 9, .inl (fun _ => 0))), (q39, .inl (T 1, 9, .inl (fun _ => 0))), (q47, .inl (T 1, 9, .inl (fun _ => 0)))] H := hP
  replace hD : va_D A [((a 0), .inr (2, [.null, .int 0, .int 0, .int 0, .int 0, .int 0, .int 0, .ref q7, .ref q15, .ref q23, .ref q31, .ref q39, .ref q47, .null, .null])), (q7, .inl (T 1, 9, .inl (fun _ => 0))), (q15, .inl (T 1, 9, .inl (fun _ => 0))), (q23, .inl (T 1, 9, .inl (fun _ => 0))), (q31, .inl (T 1, 9, .inl (fun _ => 0))), (q39, .inl (T 1, 9, .inl (fun _ => 0))), (q47, .inl (T 1, 9, .inl (fun _ => 0)))] := hD
  refine lv_aload_n hx hb dX2_init_52 rfl (lv_at hl 0 rfl) ?_
  refine lv_bipush (v := 9) hx hb dX2_init_53 (by decide) ?_
  refine va_newa (atype := .int) (a0 := (9, .inl (fun _ => 0))) (N' := 9) hx hb (htg _ kw_221) rfl hK.1 hP hD hS hA (fun _ => rfl) (by decide) (by decide) (Nat.le_of_ble_eq_true rfl) (by rw [hR]; exact Nat.le_of_ble_eq_true rfl) (by rw [hR]; exact Nat.le_of_ble_eq_true rfl) dX2_init_55 (fun q55 cA H hK9 hP hD hS => ?_)
  obtain rfl : cA = T 1 := xRA_eq (hK9.2 6 _ rfl).2 (hK.1.2 1 _ rfl).2
  clear hK9
  replace hP : va_P D vwCl [((a 0), .inr (2, [.null, .int 0, .int 0, .int 0, .int 0, .int 0, .int 0, .ref q7, .ref q15, .ref q23, .ref q31, .ref q39, .ref q47, .null, .null])), (q7, .inl (T 1, 9, .inl (fun _ => 0))), (q15, .inl (T 1, 9, .inl (fun _ => 0))), (q23, .inl (T 1, 9, .inl (fun _ => 0))), (q31, .inl (T 1, 9, .inl (fun _ => 0))), (q39, .inl (T 1, 9, .inl (fun _ => 0))), (q47, .inl (T 1, 9, .inl (fun _ => 0))), (q55, .inl (T 1, 9, .inl (fun _ => 0)))] H := hP
  replace hD : va_D A [((a 0), .inr (2, [.null, .int 0, .int 0, .int 0, .int 0, .int 0, .int 0, .ref q7, .ref q15, .ref q23, .ref q31, .ref q39, .ref q47, .null, .null])), (q7, .inl (T 1, 9, .inl (fun _ => 0))), (q15, .inl (T 1, 9, .inl (fun _ => 0))), (q23, .inl (T 1, 9, .inl (fun _ => 0))), (q31, .inl (T 1, 9, .inl (fun _ => 0))), (q39, .inl (T 1, 9, .inl (fun _ => 0))), (q47, .inl (T 1, 9, .inl (fun _ => 0))), (q55, .inl (T 1, 9, .inl (fun _ => 0)))] := hD
  refine va_putF (D := D) (ci := 2) (v := .ref q55) (ty := .array .int) (C := RX2) (T := TX2) (N := 15) hx hb htg inX2 tyX2 tyX2_ok nmX2 hown hK.1 hP hD hS 0 rfl rfl 13 (by decide) (htg _ kw_278) (fun _ h9 => h9) rfl hin rfl (by decide +kernel) rfl rfl (Nat.le_of_ble_eq_true rfl) dX2_init_57 (fun H locs hP hD hS => ?_)
  replace hP : va_P D vwCl [((a 0), .inr (2, [.null, .int 0, .int 0, .int 0, .int 0, .int 0, .int 0, .ref q7, .ref q15, .ref q23, .ref q31, .ref q39, .ref q47, .ref q55, .null])), (q7, .inl (T 1, 9, .inl (fun _ => 0))), (q15, .inl (T 1, 9, .inl (fun _ => 0))), (q23, .inl (T 1, 9, .inl (fun _ => 0))), (q31, .inl (T 1, 9, .inl (fun _ => 0))), (q39, .inl (T 1, 9, .inl (fun _ => 0))), (q47, .inl (T 1, 9, .inl (fun _ => 0))), (q55, .inl (T 1, 9, .inl (fun _ => 0)))] H := hP
  replace hD : va_D A [((a 0), .inr (2, [.null, .int 0, .int 0, .int 0, .int 0, .int 0, .int 0, .ref q7, .ref q15, .ref q23, .ref q31, .ref q39, .ref q47, .ref q55, .null])), (q7, .inl (T 1, 9, .inl (fun _ => 0))), (q15, .inl (T 1, 9, .inl (fun _ => 0))), (q23, .inl (T 1, 9, .inl (fun _ => 0))), (q31, .inl (T 1, 9, .inl (fun _ => 0))), (q39, .inl (T 1, 9, .inl (fun _ => 0))), (q47, .inl (T 1, 9, .inl (fun _ => 0))), (q55, .inl (T 1, 9, .inl (fun _ => 0)))] := hD
  refine lv_aload_n hx hb dX2_init_60 rfl (lv_at hl 0 rfl) ?_
  refine lv_sipush (v := 200) hx hb dX2_init_61 (by decide) ?_
  refine va_newa (atype := .long) (a0 := (200, .inr (.inl (fun _ => 0)))) (N' := 200) hx hb (htg _ kw_151) rfl hK.1 hP hD hS hA (fun _ => rfl) (by decide) (by decide) (Nat.le_of_ble_eq_true rfl) (by rw [hR]; exact Nat.le_of_ble_eq_true rfl) (by rw [hR]; exact Nat.le_of_ble_eq_true rfl) dX2_init_64 (fun q64 cA H hK9 hP hD hS => ?_)
  obtain rfl : cA = T 2 := xRA_eq (hK9.2 6 _ rfl).2 (hK.1.2 2 _ rfl).2
  clear hK9
  replace hP : va_P D vwCl [((a 0), .inr (2, [.null, .int 0, .int 0, .int 0, .int 0, .int 0, .int 0, .ref q7, .ref q15, .ref q23, .ref q31, .ref q39, .ref q47, .ref q55, .null])), (q7, .inl (T 1, 9, .inl (fun _ => 0))), (q15, .inl (T 1, 9, .inl (fun _ => 0))), (q23, .inl (T 1, 9, .inl (fun _ => 0))), (q31, .inl (T 1, 9, .inl (fun _ => 0))), (q39, .inl (T 1, 9, .inl (fun _ => 0))), (q47, .inl (T 1, 9, .inl (fun _ => 0))), (q55, .inl (T 1, 9, .inl (fun _ => 0))), (q64, .inl (T 2, 200, .inr (.inl (fun _ => 0))))] H := hP
  replace hD : va_D A [((a 0), .inr (2, [.null, .int 0, .int 0, .int 0, .int 0, .int 0, .int 0, .ref q7, .ref q15, .ref q23, .ref q31, .ref q39, .ref q47, .ref q55, .null])), (q7, .inl (T 1, 9, .inl (fun _ => 0))), (q15, .inl (T 1, 9, .inl (fun _ => 0))), (q23, .inl (T 1, 9, .inl (fun _ => 0))), (q31, .inl (T 1, 9, .inl (fun _ => 0))), (q39, .inl (T 1, 9, .inl (fun _ => 0))), (q47, .inl (T 1, 9, .inl (fun _ => 0))), (q55, .inl (T 1, 9, .inl (fun _ => 0))), (q64, .inl (T 2, 200, .inr (.inl (fun _ => 0))))] := hD
  refine va_putF (D := D) (ci := 2) (v := .ref q64) (ty := .array .long) (C := RX2) (T := TX2) (N := 15) hx hb htg inX2 tyX2 tyX2_ok nmX2 hown hK.1 hP hD hS 0 rfl rfl 14 (by decide) (htg _ kw_281) (fun _ h9 => h9) rfl hin rfl (by decide +kernel) rfl rfl (Nat.le_of_ble_eq_true rfl) dX2_init_66 (fun H locs hP hD hS => ?_)
  replace hP : va_P D vwCl [((a 0), .inr (2, [.null, .int 0, .int 0, .int 0, .int 0, .int 0, .int 0, .ref q7, .ref q15, .ref q23, .ref q31, .ref q39, .ref q47, .ref q55, .ref q64])), (q7, .inl (T 1, 9, .inl (fun _ => 0))), (q15, .inl (T 1, 9, .inl (fun _ => 0))), (q23, .inl (T 1, 9, .inl (fun _ => 0))), (q31, .inl (T 1, 9, .inl (fun _ => 0))), (q39, .inl (T 1, 9, .inl (fun _ => 0))), (q47, .inl (T 1, 9, .inl (fun _ => 0))), (q55, .inl (T 1, 9, .inl (fun _ => 0))), (q64, .inl (T 2, 200, .inr (.inl (fun _ => 0))))] H := hP
  replace hD : va_D A [((a 0), .inr (2, [.null, .int 0, .int 0, .int 0, .int 0, .int 0, .int 0, .ref q7, .ref q15, .ref q23, .ref q31, .ref q39, .ref q47, .ref q55, .ref q64])), (q7, .inl (T 1, 9, .inl (fun _ => 0))), (q15, .inl (T 1, 9, .inl (fun _ => 0))), (q23, .inl (T 1, 9, .inl (fun _ => 0))), (q31, .inl (T 1, 9, .inl (fun _ => 0))), (q39, .inl (T 1, 9, .inl (fun _ => 0))), (q47, .inl (T 1, 9, .inl (fun _ => 0))), (q55, .inl (T 1, 9, .inl (fun _ => 0))), (q64, .inl (T 2, 200, .inr (.inl (fun _ => 0))))] := hD
  refine lv_aload_n hx hb dX2_init_69 rfl (lv_at hl 0 rfl) ?_
  refine lv_aload_n hx hb dX2_init_70 rfl (lv_at hl 1 rfl) ?_
  refine va_putF (D := D) (ci := 2) (v := .ref (ex 0)) (ty := .object "NamesAgain$Told") (C := RX2) (T := TX2) (N := 15) hx hb htg inX2 tyX2 tyX2_ok nmX2 hown hK.1 hP hD hS 0 rfl rfl 0 (by decide) (htg _ kw_245) (fun _ h9 => h9) rfl hin rfl (by decide +kernel) rfl rfl (Nat.le_of_ble_eq_true rfl) dX2_init_71 (fun H locs hP hD hS => ?_)
  replace hP : va_P D vwCl [((a 0), .inr (2, [.ref (ex 0), .int 0, .int 0, .int 0, .int 0, .int 0, .int 0, .ref q7, .ref q15, .ref q23, .ref q31, .ref q39, .ref q47, .ref q55, .ref q64])), (q7, .inl (T 1, 9, .inl (fun _ => 0))), (q15, .inl (T 1, 9, .inl (fun _ => 0))), (q23, .inl (T 1, 9, .inl (fun _ => 0))), (q31, .inl (T 1, 9, .inl (fun _ => 0))), (q39, .inl (T 1, 9, .inl (fun _ => 0))), (q47, .inl (T 1, 9, .inl (fun _ => 0))), (q55, .inl (T 1, 9, .inl (fun _ => 0))), (q64, .inl (T 2, 200, .inr (.inl (fun _ => 0))))] H := hP
  replace hD : va_D A [((a 0), .inr (2, [.ref (ex 0), .int 0, .int 0, .int 0, .int 0, .int 0, .int 0, .ref q7, .ref q15, .ref q23, .ref q31, .ref q39, .ref q47, .ref q55, .ref q64])), (q7, .inl (T 1, 9, .inl (fun _ => 0))), (q15, .inl (T 1, 9, .inl (fun _ => 0))), (q23, .inl (T 1, 9, .inl (fun _ => 0))), (q31, .inl (T 1, 9, .inl (fun _ => 0))), (q39, .inl (T 1, 9, .inl (fun _ => 0))), (q47, .inl (T 1, 9, .inl (fun _ => 0))), (q55, .inl (T 1, 9, .inl (fun _ => 0))), (q64, .inl (T 2, 200, .inr (.inl (fun _ => 0))))] := hD
  have hP9 := hP.sub (ws' := [((a 0), .inr (2, [.ref (ex 0), .int 0, .int 0, .int 0, .int 0, .int 0, .int 0, .ref q7, .ref q15, .ref q23, .ref q31, .ref q39, .ref q47, .ref q55, .ref q64])), (q7, .inl (T 1, 9, .inl (fun _ => 0))), (q15, .inl (T 1, 9, .inl (fun _ => 0))), (q23, .inl (T 1, 9, .inl (fun _ => 0))), (q31, .inl (T 1, 9, .inl (fun _ => 0))), (q39, .inl (T 1, 9, .inl (fun _ => 0))), (q47, .inl (T 1, 9, .inl (fun _ => 0))), (q55, .inl (T 1, 9, .inl (fun _ => 0))), (q64, .inl (T 2, 200, .inr (.inl (fun _ => 0))))]) [0, 1, 2, 3, 4, 5, 6, 7, 8] rfl
  have hD9 := hD.sub (ws' := [((a 0), .inr (2, [.ref (ex 0), .int 0, .int 0, .int 0, .int 0, .int 0, .int 0, .ref q7, .ref q15, .ref q23, .ref q31, .ref q39, .ref q47, .ref q55, .ref q64])), (q7, .inl (T 1, 9, .inl (fun _ => 0))), (q15, .inl (T 1, 9, .inl (fun _ => 0))), (q23, .inl (T 1, 9, .inl (fun _ => 0))), (q31, .inl (T 1, 9, .inl (fun _ => 0))), (q39, .inl (T 1, 9, .inl (fun _ => 0))), (q47, .inl (T 1, 9, .inl (fun _ => 0))), (q55, .inl (T 1, 9, .inl (fun _ => 0))), (q64, .inl (T 2, 200, .inr (.inl (fun _ => 0))))]) [0, 1, 2, 3, 4, 5, 6, 7, 8] (by decide +kernel) rfl
  refine W.widen (k := 8) (n := 263) (Nat.le_of_ble_eq_true rfl) (Nat.le_of_ble_eq_true rfl) ?_
  rw [hQ]
  exact W.vret hx hb hr (fun t ht hW => ⟨⟨(), rfl, trivial, ⟨xa [q7, q15, q23, q31, q39, q47, q55, q64], xf [], xh [], xv [], by rw [ht]; exact hP9, hD9, trivial⟩⟩, hS.F ht⟩) hS.2.2 dX2_init_74
