abbrev pre_X6_isWord_21 (T : Nat → ClassId) (a ex : Nat → Nat) (fi : Nat → Nat → Int32) (fl : Nat → Nat → Int64) (vi : Nat → Int32) (vl : Nat → Int64) : va_W := [((a 0), .inr (6, [.ref (ex 0), .ref (ex 1), .int (vi 0), .int (vi 1), .int (vi 2), .int (vi 3), .int (vi 4), .int (vi 5), .long (vl 0), .int (vi 6), .int (vi 7), .int (vi 8), .int (vi 9), .int (vi 10)]))]
set_option maxHeartbeats 8000000 in
set_option maxRecDepth 100000 in
theorem c_X6_isWord_21 (l : Launch) (D : va_G) (T : Nat → ClassId) (a ex : Nat → Nat) (fi : Nat → Nat → Int32) (fl : Nat → Nat → Int64) (vi : Nat → Int32) (vl : Nat → Int64) (kK kV : Nat → Nat) (sz : Nat) (hp0 : 0 ≤ (vi 1).toInt ∧ (vi 1).toInt ≤ 940) (hp1 : 0 ≤ (vi 2).toInt ∧ (vi 2).toInt ≤ 940) (hp2 : 0 ≤ (vi 3).toInt ∧ (vi 3).toInt ≤ 940) (hp3 : 0 ≤ (vi 5).toInt ∧ (vi 5).toInt ≤ 940) (hp4 : 0 ≤ (vi 10).toInt ∧ (vi 10).toInt ≤ 940) : Met l yX6_isWord (xw yX6_isWord cX6_isWord 5 (some .boolean)) ({ frames := 4, cells := 0, slots := 0, locals := 101 }) (xPs D T kK kV [.ref (a 0), .ref (kK 3)] sz (pre_X6_isWord_21 T a ex fi fl vi vl)) (va_Qi (fun r u => r = u) (xC D (va_A (pre_X6_isWord_21 T a ex fi fl vi vl) sz) (fun fj fm vj vm => [((a 0), .inr (6, [.ref (ex 0), .ref (ex 1), .int (vi 0), .int (vi 1), .int (vi 2), .int (vi 3), .int (vi 4), .int (vi 5), .long (vl 0), .int (vi 6), .int (vi 7), .int (vi 8), .int (vi 9), .int (vi 10)]))]) (fun (r : Int32) (fj : Nat → Nat → Int32) (fm : Nat → Nat → Int64) (vj : Nat → Int32) (vm : Nat → Int64) => ((r = 1 ∧ (True)) ∨ (r = 0 ∧ (True))) ∧ R_X6_isWord_21 fi fl vi vl r fj fm vj vm ∧ True)) (va_A (pre_X6_isWord_21 T a ex fi fl vi vl) sz)) 0 0 (va_A (pre_X6_isWord_21 T a ex fi fl vi vl) sz) := by
  refine xofW (cc := cX6_isWord) (maxL := 5) (ret := (some .boolean)) (by decide) rfl ?_
  intro p e s m args below meth c s₁ R Q hR hQ B hml hv
  obtain ⟨rfl, hsz, hP, hK, hD0, hT⟩ := hv
  have hx := B.exec
  have hb := B.bytes
  have hr := B.returns
  have hts := atoms_spec (ws := xw yX6_isWord cX6_isWord 5 (some .boolean)) B.pre
  have htg : ∀ w ∈ xg, w.before _ s = true := fun w h => hts w (List.mem_cons_of_mem _ h)
  have hown : s.vm.findClass RX6 = some m.cls := findClass_of_methodNamed B.named
  have hlocks := B.notSynchronized
  subst hsz
  have hD := hD0.self (sz := s.heap.size)
  generalize hAe : va_A (pre_X6_isWord_21 T a ex fi fl vi vl) s.heap.size = A at hD hQ hT
  have hA : ∀ q : Nat, s.heap.size ≤ q → A q := fun q h => by rw [← hAe]; exact Or.inr h
  have hS : va_S A s.heap s.heap [] := va_S.rf
  replace hP : va_P D vwCl [((a 0), .inr (6, [.ref (ex 0), .ref (ex 1), .int (vi 0), .int (vi 1), .int (vi 2), .int (vi 3), .int (vi 4), .int (vi 5), .long (vl 0), .int (vi 6), .int (vi 7), .int (vi 8), .int (vi 9), .int (vi 10)]))] s.heap := hP
  replace hD : va_D A [((a 0), .inr (6, [.ref (ex 0), .ref (ex 1), .int (vi 0), .int (vi 1), .int (vi 2), .int (vi 3), .int (vi 4), .int (vi 5), .long (vl 0), .int (vi 6), .int (vi 7), .int (vi 8), .int (vi 9), .int (vi 10)]))] := hD
  have hl := lv_entry ([.ref (a 0), .ref (kK 3)]) (n := 5) (Nat.le_of_ble_eq_true rfl)
  rw [lg_entry_eq]
  generalize (lg_sl ([.ref (a 0), .ref (kK 3)]) ++ List.replicate (5 - (lg_sl ([.ref (a 0), .ref (kK 3)])).length) Slot.unset).toArray = ls at hl ⊢
  replace hl : lv_has ls 5 [(0, .ref (a 0)), (1, .ref (kK 3))] := hl
  refine lv_lconst (v := 0) hx hb dX6_isWord_0 (by decide) ?_
  refine lv_lstore_n (lv' := [(2, .long 0), (0, .ref (a 0)), (1, .ref (kK 3))]) hx hb dX6_isWord_1 rfl hl (by decide) rfl (fun ls hl => ?_)
  refine lv_iconst (v := 0) hx hb dX6_isWord_2 (by decide) ?_
  refine lv_istore (lv' := [(4, .int 0), (2, .long 0), (0, .ref (a 0)), (1, .ref (kK 3))]) hx hb dX6_isWord_3 hl (by decide) rfl (fun ls hl => ?_)
  have lp : ∀ (kn : Nat) (w4 : Int32) (w2 : Int64) (H : Heap) (locs : List Loc) (ls : Array Slot), (0 ≤ w4.toInt ∧ w4.toInt ≤ 4) → (w2 = pkw (sBy.getD 3 []) (w4.toInt).toNat) → (2147483648 - w4.toInt).toNat = kn → va_P D vwCl [((a 0), .inr (6, [.ref (ex 0), .ref (ex 1), .int (vi 0), .int (vi 1), .int (vi 2), .int (vi 3), .int (vi 4), .int (vi 5), .long (vl 0), .int (vi 6), .int (vi 7), .int (vi 8), .int (vi 9), .int (vi 10)]))] H → va_D A [((a 0), .inr (6, [.ref (ex 0), .ref (ex 1), .int (vi 0), .int (vi 1), .int (vi 2), .int (vi 3), .int (vi 4), .int (vi 5), .long (vl 0), .int (vi 6), .int (vi 7), .int (vi 8), .int (vi 9), .int (vi 10)]))] → va_S A s.heap H locs → lv_has ls 5 [(4, .int w4), (2, .long w2), (0, .ref (a 0)), (1, .ref (kK 3))] → W p l e R s m ([.ref (a 0), .ref (kK 3)] : List Value).toArray below meth c H locs 0 0 Q (F0 m 5 ls []) := by
    intro kn
    induction kn using Nat.strongRecOn with
    | _ kn ih =>
      intro w4 w2 H locs ls hi hpk9 hm hP hD hS hl
      refine lv_iload hx hb dX6_isWord_5 (lv_at hl 0 rfl) ?_
      refine lv_aload_n hx hb dX6_isWord_7 rfl (lv_at hl 3 rfl) ?_
      obtain ⟨hC9, hPc, hDc, hFc⟩ := xcut (wc := (pre_J0_length_8abf5_21 T (xa []) (xa []) (xf []) (xh []) (xv []) (xl []))) hP hD hS hA [] (by decide) rfl
      refine va_calli (va_runV (As := []) (rest := [.int w4]) ⟨hx, hb, hml, hown, htg⟩ (c_J0_length_8abf5_21 l D T (xa []) (xa []) (xf []) (xh []) (xv []) (xl []) kK kV H.size) ⟨callB_of 0 htg (xg_ok kw_47) rfl rfl rfl (htg _ kw_3) (htg _ kw_44) (by decide +kernel) ⟨by rw [hR]; exact Nat.le_of_ble_eq_true rfl, by rw [hR]; exact Nat.le_of_ble_eq_true rfl⟩, htg _ kw_45, htg _ kw_46⟩ (xpreVs hK hPc hDc hT hFc hS (xT.recv hT 3 (by decide) hS)) rfl rfl hl.1 rfl (lv_room (Nat.le_of_ble_eq_true rfl)) dX6_isWord_8 ⟨by rw [hR]; exact Nat.le_of_ble_eq_true rfl, by rw [hR]; exact Nat.le_of_ble_eq_true rfl⟩) hS (fun q _ h => hFc q h) hFc (fun r9 u9 t H1 locs ht hvm hw hB hz1 hk1 hS => ?_)
      subst hw
      obtain ⟨fik, flk, vik, vlk, hP1, hD1, hG⟩ := hB
      rw [ht] at hP1
      obtain ⟨hP, hD⟩ := va_join (wr := [((a 0), .inr (6, [.ref (ex 0), .ref (ex 1), .int (vi 0), .int (vi 1), .int (vi 2), .int (vi 3), .int (vi 4), .int (vi 5), .long (vl 0), .int (vi 6), .int (vi 7), .int (vi 8), .int (vi 9), .int (vi 10)]))]) (w1 := []) hP hD [] [0] hC9 rfl (by decide) (by decide) hk1 hFc hP1 hD1
      obtain ⟨rk, er9⟩ : ∃ z, z = r9 := ⟨_, rfl⟩
      subst er9
      clear hPc hDc hFc hP1 hD1 hk1 hz1 hvm ht hC9
      generalize H1 = H at hP hS ⊢
      obtain ⟨hP, hD⟩ := (show xPD D A [((a 0), .inr (6, [.ref (ex 0), .ref (ex 1), .int (vi 0), .int (vi 1), .int (vi 2), .int (vi 3), .int (vi 4), .int (vi 5), .long (vl 0), .int (vi 6), .int (vi 7), .int (vi 8), .int (vi 9), .int (vi 10)]))] H from ⟨hP, hD⟩)
      obtain ⟨gk_0, -⟩ := hG
      replace gk_0 : rk = 4 := gk_0
      refine xz_i 4 gk_0 ?_
      refine lv_icmp_ge (tgt := 33) hx hb dX6_isWord_11 (by decide) (fun c11 => ?_) (fun c11 => ?_)
      · have c11 := xge (k := 4) (by decide) c11
        refine lv_aload_n hx hb dX6_isWord_33 rfl (lv_at hl 2 rfl) ?_
        refine va_get (D := D) (ci := 6) (v := .int (vi 4)) (C := RX6) (T := TX6) (N := 14) hx hb htg inX6 hown hK.1 hP 0 rfl rfl 6 (by decide) (htg _ kw_104) (fun _ h9 => h9) rfl dX6_isWord_34 ?_
        refine lv_iconst (v := 1) hx hb dX6_isWord_37 (by decide) ?_
        refine lv_icmp_ne (tgt := 54) hx hb dX6_isWord_38 (by decide) (fun c38 => ?_) (fun c38 => ?_)
        · have c38 := xne (k := 1) (by decide) c38
          refine lv_iconst (v := 0) hx hb dX6_isWord_54 (by decide) ?_
          have hP9 := hP.sub (ws' := [((a 0), .inr (6, [.ref (ex 0), .ref (ex 1), .int (vi 0), .int (vi 1), .int (vi 2), .int (vi 3), .int (vi 4), .int (vi 5), .long (vl 0), .int (vi 6), .int (vi 7), .int (vi 8), .int (vi 9), .int (vi 10)]))]) [0] rfl
          have hD9 := hD.sub (ws' := [((a 0), .inr (6, [.ref (ex 0), .ref (ex 1), .int (vi 0), .int (vi 1), .int (vi 2), .int (vi 3), .int (vi 4), .int (vi 5), .long (vl 0), .int (vi 6), .int (vi 7), .int (vi 8), .int (vi 9), .int (vi 10)]))]) [0] (by decide +kernel) rfl
          rw [hQ]
          exact W.zret (v := 0) hx hb hr rfl (fun t ht hW => ⟨⟨0, 0, rfl, rfl, xf [], xh [], xv [], xl [], by rw [ht]; exact hP9, hD9, ⟨(Or.inr ⟨rfl, by show True; first | trivial | omega | assumption⟩), (by unfold R_X6_isWord_21; exact (fun Q9 k9_0 k9_1 k9_2 => k9_0 hp0 hp1 hp2 hp3 hp4 w4 w2 hi hpk9 fik flk vik vlk rk gk_0 c11 c38 rfl)), trivial⟩⟩, hS.F ht⟩) hS.2.2 dX6_isWord_55
        · have c38 := xeq (k := 1) (by decide) c38
          refine lv_lload_n hx hb dX6_isWord_41 rfl (lv_at hl 1 rfl) ?_
          refine lv_aload_n hx hb dX6_isWord_42 rfl (lv_at hl 2 rfl) ?_
          refine va_get (D := D) (ci := 6) (v := .long (vl 0)) (C := RX6) (T := TX6) (N := 14) hx hb htg inX6 hown hK.1 hP 0 rfl rfl 8 (by decide) (htg _ kw_108) (fun _ h9 => h9) rfl dX6_isWord_43 ?_
          refine W.lcmp hx hb dX6_isWord_46 ?_
          refine lv_topi (fun z46 ez46 => ?_)
          refine lv_if_ne (tgt := 54) hx hb dX6_isWord_47 (by decide) (fun c47 => ?_) (fun c47 => ?_)
          · have c47 := xne (k := 0) (by decide) c47
            refine lv_iconst (v := 0) hx hb dX6_isWord_54 (by decide) ?_
            have hP9 := hP.sub (ws' := [((a 0), .inr (6, [.ref (ex 0), .ref (ex 1), .int (vi 0), .int (vi 1), .int (vi 2), .int (vi 3), .int (vi 4), .int (vi 5), .long (vl 0), .int (vi 6), .int (vi 7), .int (vi 8), .int (vi 9), .int (vi 10)]))]) [0] rfl
            have hD9 := hD.sub (ws' := [((a 0), .inr (6, [.ref (ex 0), .ref (ex 1), .int (vi 0), .int (vi 1), .int (vi 2), .int (vi 3), .int (vi 4), .int (vi 5), .long (vl 0), .int (vi 6), .int (vi 7), .int (vi 8), .int (vi 9), .int (vi 10)]))]) [0] (by decide +kernel) rfl
            rw [hQ]
            exact W.zret (v := 0) hx hb hr rfl (fun t ht hW => ⟨⟨0, 0, rfl, rfl, xf [], xh [], xv [], xl [], by rw [ht]; exact hP9, hD9, ⟨(Or.inr ⟨rfl, by show True; first | trivial | omega | assumption⟩), (by unfold R_X6_isWord_21; exact (fun Q9 k9_0 k9_1 k9_2 => k9_1 hp0 hp1 hp2 hp3 hp4 w4 w2 hi hpk9 fik flk vik vlk rk gk_0 c11 c38 z46 ez46 c47 rfl)), trivial⟩⟩, hS.F ht⟩) hS.2.2 dX6_isWord_55
          · have c47 := xeq (k := 0) (by decide) c47
            refine lv_iconst (v := 1) hx hb dX6_isWord_50 (by decide) ?_
            refine lv_goto (tgt := 55) hx hb dX6_isWord_51 (by decide) ?_
            have hP9 := hP.sub (ws' := [((a 0), .inr (6, [.ref (ex 0), .ref (ex 1), .int (vi 0), .int (vi 1), .int (vi 2), .int (vi 3), .int (vi 4), .int (vi 5), .long (vl 0), .int (vi 6), .int (vi 7), .int (vi 8), .int (vi 9), .int (vi 10)]))]) [0] rfl
            have hD9 := hD.sub (ws' := [((a 0), .inr (6, [.ref (ex 0), .ref (ex 1), .int (vi 0), .int (vi 1), .int (vi 2), .int (vi 3), .int (vi 4), .int (vi 5), .long (vl 0), .int (vi 6), .int (vi 7), .int (vi 8), .int (vi 9), .int (vi 10)]))]) [0] (by decide +kernel) rfl
            rw [hQ]
            exact W.zret (v := 1) hx hb hr rfl (fun t ht hW => ⟨⟨1, 1, rfl, rfl, xf [], xh [], xv [], xl [], by rw [ht]; exact hP9, hD9, ⟨(Or.inl ⟨rfl, by show True; first | trivial | omega | assumption⟩), (by unfold R_X6_isWord_21; exact (fun Q9 k9_0 k9_1 k9_2 => k9_2 hp0 hp1 hp2 hp3 hp4 w4 w2 hi hpk9 fik flk vik vlk rk gk_0 c11 c38 z46 ez46 c47 rfl)), trivial⟩⟩, hS.F ht⟩) hS.2.2 dX6_isWord_55
      · have c11 := xnge (k := 4) (by decide) c11
        refine lv_lload_n hx hb dX6_isWord_14 rfl (lv_at hl 1 rfl) ?_
        refine lv_bipush (v := 8) hx hb dX6_isWord_15 (by decide) ?_
        refine lv_lshl hx hb dX6_isWord_17 rfl ?_
        refine lv_topl (fun z17 ez17 => ?_)
        refine lv_aload_n hx hb dX6_isWord_18 rfl (lv_at hl 3 rfl) ?_
        refine lv_iload hx hb dX6_isWord_19 (lv_at hl 0 rfl) ?_
        obtain ⟨hC9, hPc, hDc, hFc⟩ := xcut (wc := (pre_J0_charAt_5068e_21 T (xa []) (xa []) (xf []) (xh []) (xv [w4]) (xl []))) hP hD hS hA [] (by decide) rfl
        refine va_calli (va_runV (As := [.int w4]) (rest := [.long z17]) ⟨hx, hb, hml, hown, htg⟩ (c_J0_charAt_5068e_21 l D T (xa []) (xa []) (xf []) (xh []) (xv [w4]) (xl []) kK kV H.size (by show 0 ≤ w4.toInt ∧ w4.toInt ≤ 3; omega)) ⟨callB_of 1 htg (xg_ok kw_57) rfl rfl rfl (htg _ kw_3) (htg _ kw_54) (by decide +kernel) ⟨by rw [hR]; exact Nat.le_of_ble_eq_true rfl, by rw [hR]; exact Nat.le_of_ble_eq_true rfl⟩, htg _ kw_55, htg _ kw_56⟩ (xpreVs hK hPc hDc hT hFc hS (xT.recv hT 3 (by decide) hS)) rfl rfl hl.1 rfl (lv_room (Nat.le_of_ble_eq_true rfl)) dX6_isWord_21 ⟨by rw [hR]; exact Nat.le_of_ble_eq_true rfl, by rw [hR]; exact Nat.le_of_ble_eq_true rfl⟩) hS (fun q _ h => hFc q h) hFc (fun r9 u9 t H1 locs ht hvm hw hB hz1 hk1 hS => ?_)
        subst hw
        obtain ⟨fik_1, flk_1, vik_1, vlk_1, hP1, hD1, hG⟩ := hB
        rw [ht] at hP1
        obtain ⟨hP, hD⟩ := va_join (wr := [((a 0), .inr (6, [.ref (ex 0), .ref (ex 1), .int (vi 0), .int (vi 1), .int (vi 2), .int (vi 3), .int (vi 4), .int (vi 5), .long (vl 0), .int (vi 6), .int (vi 7), .int (vi 8), .int (vi 9), .int (vi 10)]))]) (w1 := []) hP hD [] [0] hC9 rfl (by decide) (by decide) hk1 hFc hP1 hD1
        obtain ⟨rk_1, er9⟩ : ∃ z, z = r9 := ⟨_, rfl⟩
        subst er9
        clear hPc hDc hFc hP1 hD1 hk1 hz1 hvm ht hC9
        generalize H1 = H at hP hS ⊢
        obtain ⟨hP, hD⟩ := (show xPD D A [((a 0), .inr (6, [.ref (ex 0), .ref (ex 1), .int (vi 0), .int (vi 1), .int (vi 2), .int (vi 3), .int (vi 4), .int (vi 5), .long (vl 0), .int (vi 6), .int (vi 7), .int (vi 8), .int (vi 9), .int (vi 10)]))] H from ⟨hP, hD⟩)
        obtain ⟨gk_1_0, gk_1_1, -⟩ := hG
        replace gk_1_1 : rk_1 = (sBy.getD 3 []).getD (w4.toInt).toNat 0 := (P_J0_charAt_5068e_21 gk_1_1 : _)
        replace gk_1_0 : narrow .char (.int rk_1) = .int rk_1 := gk_1_0
        refine lv_i2l hx hb dX6_isWord_24 rfl ?_
        refine lv_topl (fun z24 ez24 => ?_)
        refine lv_lor hx hb dX6_isWord_25 ?_
        refine lv_topl (fun z25 ez25 => ?_)
        refine lv_lstore_n (lv' := [(2, .long z25), (4, .int w4), (0, .ref (a 0)), (1, .ref (kK 3))]) hx hb dX6_isWord_26 rfl hl (by decide) rfl (fun ls hl => ?_)
        obtain ⟨i27, ei27⟩ : ∃ z : Int32, w4 + Int32.ofInt 1 = z := ⟨_, rfl⟩
        have ti27 : i27.toInt = w4.toInt + 1 := by rw [← ei27]; have h79 := xrng w4; exact xadd rfl (by decide) (by omega) (by omega)
        refine lv_iinc (v := i27) (lv' := [(4, .int i27), (2, .long z25), (0, .ref (a 0)), (1, .ref (kK 3))]) hx hb dX6_isWord_27 hl (k := 1) rfl ei27 (by decide) rfl (fun ls hl => ?_)
        refine lv_goto (tgt := 5) hx hb dX6_isWord_30 (by decide) ?_
        exact ih _ (by omega) i27 z25 _ _ _ (by show 0 ≤ i27.toInt ∧ i27.toInt ≤ 4; omega) (by show z25 = pkw (sBy.getD 3 []) (i27.toInt).toNat; rw [ez25, ez17, ez24]; exact pkw_s hpk9 (by omega) (by omega) (by assumption)) rfl (hP.sub [0] rfl) (hD.sub [0] (by decide) rfl) hS (lv_sub hl [0, 1, 2, 3] rfl)
  exact lp _ (0 : Int32) (0 : Int64) _ _ _ (show 0 ≤ (0 : Int32).toInt ∧ (0 : Int32).toInt ≤ 4 by decide) (by show (0 : Int64) = pkw (sBy.getD 3 []) ((0 : Int32).toInt).toNat; have k9_0 : (0 : Int32).toInt = 0 := (by decide); rw [show (0 : Int32).toInt.toNat = 0 by decide]; rfl) rfl hP hD hS hl
abbrev pre_X8_passNewWord (T : Nat → ClassId) (a ex : Nat → Nat) (fi : Nat → Nat → Int32) (fl : Nat → Nat → Int64) (vi : Nat → Int32) (vl : Nat → Int64) : va_W := [((a 0), .inr (8, [.ref (a 1), .ref (a 3), .int (vi 0)])), ((a 1), .inr (6, [.ref (a 6), .ref (a 2), .int (vi 1), .int (vi 2), .int (vi 3), .int (vi 4), .int (vi 5), .int (vi 6), .long (vl 0), .int (vi 7), .int (vi 8), .int (vi 9), .int (vi 10), .int (vi 11)])), ((a 2), .inl (T 2, 27, .inr (.inl (fl 0)))), ((a 3), .inr (7, [.int (vi 12), .int (vi 13), .ref (a 4), .ref (ex 0), .ref (ex 1), .ref (ex 2), .ref (a 5), .ref (ex 3), .ref (ex 4), .ref (ex 5), .ref (ex 6), .ref (ex 7)])), ((a 4), .inl (T 2, 9, .inr (.inl (fl 1)))), ((a 5), .inl (T 2, 9, .inr (.inl (fl 2)))), ((a 6), .inl (T 0, 940, .inl (fi 0)))]
set_option maxHeartbeats 8000000 in
set_option maxRecDepth 100000 in
theorem c_X8_passNewWord (l : Launch) (D : va_G) (T : Nat → ClassId) (a ex : Nat → Nat) (fi : Nat → Nat → Int32) (fl : Nat → Nat → Int64) (vi : Nat → Int32) (vl : Nat → Int64) (sz : Nat) (hp0 : 0 ≤ (vi 2).toInt ∧ (vi 2).toInt ≤ 940) (hp1 : 0 ≤ (vi 3).toInt ∧ (vi 3).toInt ≤ 940) (hp2 : 0 ≤ (vi 4).toInt ∧ (vi 4).toInt ≤ 940) (hp3 : 0 ≤ (vi 6).toInt ∧ (vi 6).toInt ≤ 940) (hp4 : 0 ≤ (vi 11).toInt ∧ (vi 11).toInt ≤ 940) (hp5 : 0 ≤ (vi 12).toInt ∧ (vi 12).toInt ≤ 9) (hp6 : 0 ≤ (vi 13).toInt ∧ (vi 13).toInt ≤ 9) : Met l yX8_passNewWord (xw yX8_passNewWord cX8_passNewWord 2 (some .boolean)) ({ frames := 2, cells := 0, slots := 0, locals := 54 }) (xP D T [.ref (a 0)] sz (pre_X8_passNewWord T a ex fi fl vi vl)) (va_Qi (fun r u => r = u) (xC D (va_A (pre_X8_passNewWord T a ex fi fl vi vl) sz) (fun fj fm vj vm => [((a 0), .inr (8, [.ref (a 1), .ref (a 3), .int (vi 0)])), ((a 1), .inr (6, [.ref (a 6), .ref (a 2), .int (vi 1), .int (vi 2), .int (vi 3), .int (vj 6), .int (vj 2), .int (vj 3), .long (vm 0), .int (vj 5), .int (vj 4), .int (vi 9), .int (vj 0), .int (vj 1)])), ((a 2), .inl (T 2, 27, .inr (.inl (fl 0)))), ((a 3), .inr (7, [.int (vi 12), .int (vi 13), .ref (a 4), .ref (ex 0), .ref (ex 1), .ref (ex 2), .ref (a 5), .ref (ex 3), .ref (ex 4), .ref (ex 5), .ref (ex 6), .ref (ex 7)])), ((a 4), .inl (T 2, 9, .inr (.inl (fl 1)))), ((a 5), .inl (T 2, 9, .inr (.inl (fl 2)))), ((a 6), .inl (T 0, 940, .inl (fi 0)))]) (fun (r : Int32) (fj : Nat → Nat → Int32) (fm : Nat → Nat → Int64) (vj : Nat → Int32) (vm : Nat → Int64) => ((r = 1 ∧ (True)) ∨ (r = 0 ∧ (True))) ∧ (0 ≤ (vj 6).toInt ∧ (vj 6).toInt ≤ 940) ∧ (0 ≤ (vj 3).toInt ∧ (vj 3).toInt ≤ 940) ∧ (0 ≤ (vj 1).toInt ∧ (vj 1).toInt ≤ 940) ∧ (r.toInt = 1 → (vj 0).toInt = (vi 10).toInt) ∧ R_X8_passNewWord fi fl vi vl r fj fm vj vm ∧ True)) (va_A (pre_X8_passNewWord T a ex fi fl vi vl) sz)) 0 0 (va_A (pre_X8_passNewWord T a ex fi fl vi vl) sz) := by
  refine xofW (cc := cX8_passNewWord) (maxL := 2) (ret := (some .boolean)) (by decide) rfl ?_
  intro p e s m args below meth c s₁ R Q hR hQ B hml hv
  obtain ⟨rfl, hsz, hP, hK, hD0⟩ := hv
  have hx := B.exec
  have hb := B.bytes
  have hr := B.returns
  have hts := atoms_spec (ws := xw yX8_passNewWord cX8_passNewWord 2 (some .boolean)) B.pre
  have htg : ∀ w ∈ xg, w.before _ s = true := fun w h => hts w (List.mem_cons_of_mem _ h)
  have hown : s.vm.findClass RX8 = some m.cls := findClass_of_methodNamed B.named
  have hlocks := B.notSynchronized
  subst hsz
  have hD := hD0.self (sz := s.heap.size)
  generalize hAe : va_A (pre_X8_passNewWord T a ex fi fl vi vl) s.heap.size = A at hD hQ
  have hA : ∀ q : Nat, s.heap.size ≤ q → A q := fun q h => by rw [← hAe]; exact Or.inr h
  have hS : va_S A s.heap s.heap [] := va_S.rf
  replace hP : va_P D vwCl [((a 0), .inr (8, [.ref (a 1), .ref (a 3), .int (vi 0)])), ((a 1), .inr (6, [.ref (a 6), .ref (a 2), .int (vi 1), .int (vi 2), .int (vi 3), .int (vi 4), .int (vi 5), .int (vi 6), .long (vl 0), .int (vi 7), .int (vi 8), .int (vi 9), .int (vi 10), .int (vi 11)])), ((a 2), .inl (T 2, 27, .inr (.inl (fl 0)))), ((a 3), .inr (7, [.int (vi 12), .int (vi 13), .ref (a 4), .ref (ex 0), .ref (ex 1), .ref (ex 2), .ref (a 5), .ref (ex 3), .ref (ex 4), .ref (ex 5), .ref (ex 6), .ref (ex 7)])), ((a 4), .inl (T 2, 9, .inr (.inl (fl 1)))), ((a 5), .inl (T 2, 9, .inr (.inl (fl 2)))), ((a 6), .inl (T 0, 940, .inl (fi 0)))] s.heap := hP
  replace hD : va_D A [((a 0), .inr (8, [.ref (a 1), .ref (a 3), .int (vi 0)])), ((a 1), .inr (6, [.ref (a 6), .ref (a 2), .int (vi 1), .int (vi 2), .int (vi 3), .int (vi 4), .int (vi 5), .int (vi 6), .long (vl 0), .int (vi 7), .int (vi 8), .int (vi 9), .int (vi 10), .int (vi 11)])), ((a 2), .inl (T 2, 27, .inr (.inl (fl 0)))), ((a 3), .inr (7, [.int (vi 12), .int (vi 13), .ref (a 4), .ref (ex 0), .ref (ex 1), .ref (ex 2), .ref (a 5), .ref (ex 3), .ref (ex 4), .ref (ex 5), .ref (ex 6), .ref (ex 7)])), ((a 4), .inl (T 2, 9, .inr (.inl (fl 1)))), ((a 5), .inl (T 2, 9, .inr (.inl (fl 2)))), ((a 6), .inl (T 0, 940, .inl (fi 0)))] := hD
  have hl := lv_entry ([.ref (a 0)]) (n := 2) (Nat.le_of_ble_eq_true rfl)
  rw [lg_entry_eq]
  generalize (lg_sl ([.ref (a 0)]) ++ List.replicate (2 - (lg_sl ([.ref (a 0)])).length) Slot.unset).toArray = ls at hl ⊢
  replace hl : lv_has ls 2 [(0, .ref (a 0))] := hl
  refine lv_aload_n hx hb dX8_passNewWord_0 rfl (lv_at hl 0 rfl) ?_
  refine va_get (D := D) (ci := 8) (v := .ref (a 1)) (C := RX8) (T := TX8) (N := 3) hx hb htg inX8 hown hK.1 hP 0 rfl rfl 0 (by decide) (htg _ kw_228) (fun _ h9 => h9) rfl dX8_passNewWord_1 ?_
  obtain ⟨hC9, hPc, hDc, hFc⟩ := xcut (wc := (pre_X6_canBeNameOrSoul T (xa [(a 1), (a 2)]) (xa [(a 6)]) (xf []) (xh [(fl 0)]) (xv [(vi 1), (vi 2), (vi 3), (vi 4), (vi 5), (vi 6), (vi 7), (vi 8), (vi 9), (vi 10), (vi 11)]) (xl [(vl 0)]))) hP hD hS hA [1, 2] (by decide) rfl
  refine va_calli (va_runVN (As := []) (rest := []) ⟨hx, hb, hml, hown, htg⟩ (c_X6_canBeNameOrSoul l D T (xa [(a 1), (a 2)]) (xa [(a 6)]) (xf []) (xh [(fl 0)]) (xv [(vi 1), (vi 2), (vi 3), (vi 4), (vi 5), (vi 6), (vi 7), (vi 8), (vi 9), (vi 10), (vi 11)]) (xl [(vl 0)]) s.heap.size hp0 hp1 hp2 hp3 hp4) ⟨va_cnB 0 htg (xg_ok kw_603) rfl rfl rfl (hK.2.1 _ kn_600) (htg _ kw_2) (by decide +kernel) ⟨by rw [hR]; exact Nat.le_of_ble_eq_true rfl, by rw [hR]; exact Nat.le_of_ble_eq_true rfl⟩, htg _ kw_602, htg _ ks_12⟩ (xpreV hK hPc hDc (va_recv hK.1 hPc (ci := 6) (q0 := 0) rfl rfl)) rfl rfl hl.1 rfl (lv_room (Nat.le_of_ble_eq_true rfl)) dX8_passNewWord_4 ⟨by rw [hR]; exact Nat.le_of_ble_eq_true rfl, by rw [hR]; exact Nat.le_of_ble_eq_true rfl⟩) hS (fun q _ h => hFc q h) hFc (fun r9 u9 t H1 locs ht hvm hw hB hz1 hk1 hS => ?_)
  subst hw
  obtain ⟨fik, flk, vik, vlk, hP1, hD1, hG⟩ := hB
  rw [ht] at hP1
  obtain ⟨hP, hD⟩ := va_join (wr := [((a 0), .inr (8, [.ref (a 1), .ref (a 3), .int (vi 0)])), ((a 3), .inr (7, [.int (vi 12), .int (vi 13), .ref (a 4), .ref (ex 0), .ref (ex 1), .ref (ex 2), .ref (a 5), .ref (ex 3), .ref (ex 4), .ref (ex 5), .ref (ex 6), .ref (ex 7)])), ((a 4), .inl (T 2, 9, .inr (.inl (fl 1)))), ((a 5), .inl (T 2, 9, .inr (.inl (fl 2)))), ((a 6), .inl (T 0, 940, .inl (fi 0)))]) (w1 := [((a 1), .inr (6, [.ref (a 6), .ref (a 2), .int (vi 1), .int (vi 2), .int (vi 3), .int (vi 4), .int (vi 5), .int (vi 6), .long (vl 0), .int (vi 7), .int (vi 8), .int (vi 9), .int (vi 10), .int (vi 11)])), ((a 2), .inl (T 2, 27, .inr (.inl (fl 0))))]) hP hD [1, 2] [0, 3, 4, 5, 6] hC9 rfl (by decide) (by decide) hk1 hFc hP1 hD1
  obtain ⟨rk, er9⟩ : ∃ z, z = r9 := ⟨_, rfl⟩
  subst er9
  clear hPc hDc hFc hP1 hD1 hk1 hz1 hvm ht hC9
  generalize H1 = H at hP hS ⊢
  obtain ⟨hP, hD⟩ := (show xPD D A [((a 0), .inr (8, [.ref (a 1), .ref (a 3), .int (vi 0)])), ((a 3), .inr (7, [.int (vi 12), .int (vi 13), .ref (a 4), .ref (ex 0), .ref (ex 1), .ref (ex 2), .ref (a 5), .ref (ex 3), .ref (ex 4), .ref (ex 5), .ref (ex 6), .ref (ex 7)])), ((a 4), .inl (T 2, 9, .inr (.inl (fl 1)))), ((a 5), .inl (T 2, 9, .inr (.inl (fl 2)))), ((a 6), .inl (T 0, 940, .inl (fi 0))), ((a 1), .inr (6, [.ref (a 6), .ref (a 2), .int (vi 1), .int (vi 2), .int (vi 3), .int (vi 4), .int (vi 5), .int (vi 6), .long (vl 0), .int (vi 7), .int (vi 8), .int (vi 9), .int (vi 10), .int (vi 11)])), ((a 2), .inl (T 2, 27, .inr (.inl (fl 0))))] H from ⟨hP, hD⟩)
  obtain ⟨gk_0, gk_1, -⟩ := hG
  replace gk_1 : DJ (rk.toInt = 1 ∧ (vi 5).toInt = 1 ∧ ownB (fl 0) (vl 0) = false) (rk.toInt = 0 ∧ (¬ (vi 5).toInt = 1 ∨ ownB (fl 0) (vl 0) = true)) := (P_X6_canBeNameOrSoul gk_1 : _)
  rcases (show (rk = 1 ∧ (True)) ∨ (rk = 0 ∧ (True)) from gk_0) with ⟨er9, gk_0⟩ | ⟨er9, gk_0⟩
  · refine xz_i 1 er9 ?_
    have tb : rk.toInt = 1 := by rw [er9]; decide
    refine lv_if_ne (tgt := 19) hx hb dX8_passNewWord_7 (by decide) (fun _ => ?_) (fun c => absurd c (by decide))
    refine lv_aload_n hx hb dX8_passNewWord_19 rfl (lv_at hl 0 rfl) ?_
    refine va_get (D := D) (ci := 8) (v := .ref (a 3)) (C := RX8) (T := TX8) (N := 3) hx hb htg inX8 hown hK.1 hP 0 rfl rfl 1 (by decide) (htg _ kw_229) (fun _ h9 => h9) rfl dX8_passNewWord_20 ?_
    refine lv_aload_n hx hb dX8_passNewWord_23 rfl (lv_at hl 0 rfl) ?_
    refine va_get (D := D) (ci := 8) (v := .ref (a 1)) (C := RX8) (T := TX8) (N := 3) hx hb htg inX8 hown hK.1 hP 0 rfl rfl 0 (by decide) (htg _ kw_228) (fun _ h9 => h9) rfl dX8_passNewWord_24 ?_
    refine va_getN (D := D) (ci := 6) (v := .long (vl 0)) (C := RX6) (T := TX6) (N := 14) hx hb htg inX6 hown hK.1 hP 5 rfl rfl 8 (by decide) (va_Nw.use rfl (hK.2.1 _ kn_107)) (fun _ h9 => h9) rfl dX8_passNewWord_27 ?_
    obtain ⟨hC9, hPc, hDc, hFc⟩ := xcut (wc := (pre_X7_findName T (xa [(a 3), (a 4)]) (xa [(ex 0), (ex 1), (ex 2), (a 5), (ex 3), (ex 4), (ex 5), (ex 6), (ex 7)]) (xf []) (xh [(fl 1)]) (xv [(vi 12), (vi 13)]) (xl [(vl 0)]))) hP hD hS hA [1, 2] (by decide) rfl
    refine va_calli (va_runVN (As := [.long (vl 0)]) (rest := []) ⟨hx, hb, hml, hown, htg⟩ (c_X7_findName l D T (xa [(a 3), (a 4)]) (xa [(ex 0), (ex 1), (ex 2), (a 5), (ex 3), (ex 4), (ex 5), (ex 6), (ex 7)]) (xf []) (xh [(fl 1)]) (xv [(vi 12), (vi 13)]) (xl [(vl 0)]) H.size hp5 hp6) ⟨va_cnB 1 htg (xg_ok kw_607) rfl rfl rfl (hK.2.1 _ kn_604) (htg _ kw_7) (by decide +kernel) ⟨by rw [hR]; exact Nat.le_of_ble_eq_true rfl, by rw [hR]; exact Nat.le_of_ble_eq_true rfl⟩, htg _ kw_606, htg _ ks_13⟩ (xpreV hK hPc hDc (va_recv hK.1 hPc (ci := 7) (q0 := 0) rfl rfl)) rfl rfl hl.1 rfl (lv_room (Nat.le_of_ble_eq_true rfl)) dX8_passNewWord_30 ⟨by rw [hR]; exact Nat.le_of_ble_eq_true rfl, by rw [hR]; exact Nat.le_of_ble_eq_true rfl⟩) hS (fun q _ h => hFc q h) hFc (fun r9 u9 t H1 locs ht hvm hw hB hz1 hk1 hS => ?_)
    subst hw
    obtain ⟨fik_1, flk_1, vik_1, vlk_1, hP1, hD1, hG⟩ := hB
    rw [ht] at hP1
    obtain ⟨hP, hD⟩ := va_join (wr := [((a 0), .inr (8, [.ref (a 1), .ref (a 3), .int (vi 0)])), ((a 5), .inl (T 2, 9, .inr (.inl (fl 2)))), ((a 6), .inl (T 0, 940, .inl (fi 0))), ((a 1), .inr (6, [.ref (a 6), .ref (a 2), .int (vi 1), .int (vi 2), .int (vi 3), .int (vi 4), .int (vi 5), .int (vi 6), .long (vl 0), .int (vi 7), .int (vi 8), .int (vi 9), .int (vi 10), .int (vi 11)])), ((a 2), .inl (T 2, 27, .inr (.inl (fl 0))))]) (w1 := [((a 3), .inr (7, [.int (vi 12), .int (vi 13), .ref (a 4), .ref (ex 0), .ref (ex 1), .ref (ex 2), .ref (a 5), .ref (ex 3), .ref (ex 4), .ref (ex 5), .ref (ex 6), .ref (ex 7)])), ((a 4), .inl (T 2, 9, .inr (.inl (fl 1))))]) hP hD [1, 2] [0, 3, 4, 5, 6] hC9 rfl (by decide) (by decide) hk1 hFc hP1 hD1
    obtain ⟨rk_1, er9⟩ : ∃ z, z = r9 := ⟨_, rfl⟩
    subst er9
    clear hPc hDc hFc hP1 hD1 hk1 hz1 hvm ht hC9
    generalize H1 = H at hP hS ⊢
    obtain ⟨hP, hD⟩ := (show xPD D A [((a 0), .inr (8, [.ref (a 1), .ref (a 3), .int (vi 0)])), ((a 5), .inl (T 2, 9, .inr (.inl (fl 2)))), ((a 6), .inl (T 0, 940, .inl (fi 0))), ((a 1), .inr (6, [.ref (a 6), .ref (a 2), .int (vi 1), .int (vi 2), .int (vi 3), .int (vi 4), .int (vi 5), .int (vi 6), .long (vl 0), .int (vi 7), .int (vi 8), .int (vi 9), .int (vi 10), .int (vi 11)])), ((a 2), .inl (T 2, 27, .inr (.inl (fl 0)))), ((a 3), .inr (7, [.int (vi 12), .int (vi 13), .ref (a 4), .ref (ex 0), .ref (ex 1), .ref (ex 2), .ref (a 5), .ref (ex 3), .ref (ex 4), .ref (ex 5), .ref (ex 6), .ref (ex 7)])), ((a 4), .inl (T 2, 9, .inr (.inl (fl 1))))] H from ⟨hP, hD⟩)
    obtain ⟨gk_1_0, gk_1_1, -⟩ := hG
    replace gk_1_1 : rk_1.toInt = fdx (fl 1) 0 (vl 0) ((vi 12).toInt).toNat := (P_X7_findName gk_1_1 : _)
    replace gk_1_0 : -1 ≤ rk_1.toInt ∧ rk_1.toInt ≤ 8 := gk_1_0
    refine lv_iconst (v := (-1)) hx hb dX8_passNewWord_33 (by decide) ?_
    refine lv_icmp_ne (tgt := 55) hx hb dX8_passNewWord_34 (by decide) (fun c34 => ?_) (fun c34 => ?_)
    · have c34 := xne (k := (-1)) (by decide) c34
      refine lv_iconst (v := 1) hx hb dX8_passNewWord_55 (by decide) ?_
      refine lv_goto (tgt := 60) hx hb dX8_passNewWord_56 (by decide) ?_
      refine lv_istore_n (lv' := [(1, .int 1), (0, .ref (a 0))]) hx hb dX8_passNewWord_60 rfl hl (by decide) rfl (fun ls hl => ?_)
      refine lv_iload_n hx hb dX8_passNewWord_61 rfl (lv_at hl 0 rfl) ?_
      refine lv_if_eq (tgt := 76) hx hb dX8_passNewWord_62 (by decide) (fun c => absurd c (by decide)) (fun _ => ?_)
      refine lv_aload_n hx hb dX8_passNewWord_65 rfl (lv_at hl 1 rfl) ?_
      refine va_get (D := D) (ci := 8) (v := .ref (a 1)) (C := RX8) (T := TX8) (N := 3) hx hb htg inX8 hown hK.1 hP 0 rfl rfl 0 (by decide) (htg _ kw_228) (fun _ h9 => h9) rfl dX8_passNewWord_66 ?_
      refine lv_iconst (v := 3) hx hb dX8_passNewWord_69 (by decide) ?_
      obtain ⟨hC9, hPc, hDc, hFc⟩ := xcut (wc := (pre_X6_refuse T (xa [(a 1)]) (xa [(a 6), (a 2)]) (xf []) (xh []) (xv [3, (vi 1), (vi 2), (vi 3), (vi 4), (vi 5), (vi 6), (vi 7), (vi 8), (vi 9), (vi 10), (vi 11)]) (xl [(vl 0)]))) hP hD hS hA [3] (by decide) rfl
      refine va_calli (va_runVN (As := [.int 3]) (rest := []) ⟨hx, hb, hml, hown, htg⟩ (c_X6_refuse l D T (xa [(a 1)]) (xa [(a 6), (a 2)]) (xf []) (xh []) (xv [3, (vi 1), (vi 2), (vi 3), (vi 4), (vi 5), (vi 6), (vi 7), (vi 8), (vi 9), (vi 10), (vi 11)]) (xl [(vl 0)]) H.size hp0 hp1 hp2 hp3 hp4) ⟨va_cnB 1 htg (xg_ok kw_594) rfl rfl rfl (hK.2.1 _ kn_591) (htg _ kw_2) (by decide +kernel) ⟨by rw [hR]; exact Nat.le_of_ble_eq_true rfl, by rw [hR]; exact Nat.le_of_ble_eq_true rfl⟩, htg _ kw_593, htg _ ks_10⟩ (xpreV hK hPc hDc (va_recv hK.1 hPc (ci := 6) (q0 := 0) rfl rfl)) rfl rfl hl.1 rfl (lv_room (Nat.le_of_ble_eq_true rfl)) dX8_passNewWord_70 ⟨by rw [hR]; exact Nat.le_of_ble_eq_true rfl, by rw [hR]; exact Nat.le_of_ble_eq_true rfl⟩) hS (fun q _ h => hFc q h) hFc (fun r9 u9 t H1 locs ht hvm hw hB hz1 hk1 hS => ?_)
      subst hw
      obtain ⟨fik_2, flk_2, vik_2, vlk_2, hP1, hD1, hG⟩ := hB
      rw [ht] at hP1
      obtain ⟨hP, hD⟩ := va_join (wr := [((a 0), .inr (8, [.ref (a 1), .ref (a 3), .int (vi 0)])), ((a 5), .inl (T 2, 9, .inr (.inl (fl 2)))), ((a 6), .inl (T 0, 940, .inl (fi 0))), ((a 2), .inl (T 2, 27, .inr (.inl (fl 0)))), ((a 3), .inr (7, [.int (vi 12), .int (vi 13), .ref (a 4), .ref (ex 0), .ref (ex 1), .ref (ex 2), .ref (a 5), .ref (ex 3), .ref (ex 4), .ref (ex 5), .ref (ex 6), .ref (ex 7)])), ((a 4), .inl (T 2, 9, .inr (.inl (fl 1))))]) (w1 := [((a 1), .inr (6, [.ref (a 6), .ref (a 2), .int (vi 1), .int (vi 2), .int (vi 3), .int (vi 4), .int (vi 5), .int (vi 6), .long (vl 0), .int (vi 7), .int (vi 8), .int (vi 9), .int (vik_2 0), .int (vik_2 1)]))]) hP hD [3] [0, 1, 2, 4, 5, 6] hC9 rfl (by decide) (by decide) hk1 hFc hP1 hD1
      obtain ⟨rk_2, er9⟩ : ∃ z, z = r9 := ⟨_, rfl⟩
      subst er9
      clear hPc hDc hFc hP1 hD1 hk1 hz1 hvm ht hC9
      generalize H1 = H at hP hS ⊢
      obtain ⟨hP, hD⟩ := (show xPD D A [((a 0), .inr (8, [.ref (a 1), .ref (a 3), .int (vi 0)])), ((a 5), .inl (T 2, 9, .inr (.inl (fl 2)))), ((a 6), .inl (T 0, 940, .inl (fi 0))), ((a 2), .inl (T 2, 27, .inr (.inl (fl 0)))), ((a 3), .inr (7, [.int (vi 12), .int (vi 13), .ref (a 4), .ref (ex 0), .ref (ex 1), .ref (ex 2), .ref (a 5), .ref (ex 3), .ref (ex 4), .ref (ex 5), .ref (ex 6), .ref (ex 7)])), ((a 4), .inl (T 2, 9, .inr (.inl (fl 1)))), ((a 1), .inr (6, [.ref (a 6), .ref (a 2), .int (vi 1), .int (vi 2), .int (vi 3), .int (vi 4), .int (vi 5), .int (vi 6), .long (vl 0), .int (vi 7), .int (vi 8), .int (vi 9), .int (vik_2 0), .int (vik_2 1)]))] H from ⟨hP, hD⟩)
      obtain ⟨gk_2_0, gk_2_1, gk_2_2, -⟩ := hG
      replace gk_2_1 : 0 ≤ (vik_2 1).toInt ∧ (vik_2 1).toInt ≤ 940 := gk_2_1
      replace gk_2_2 : (vik_2 0).toInt = (3 : Int32).toInt ∧ (vik_2 1).toInt = (vi 6).toInt := gk_2_2
      replace gk_2_0 : rk_2 = 0 := gk_2_0
      refine xz_i 0 gk_2_0 ?_
      refine lv_goto (tgt := 83) hx hb dX8_passNewWord_73 (by decide) ?_
      have hP9 := hP.sub (ws' := [((a 0), .inr (8, [.ref (a 1), .ref (a 3), .int (vi 0)])), ((a 1), .inr (6, [.ref (a 6), .ref (a 2), .int (vi 1), .int (vi 2), .int (vi 3), .int (vi 4), .int (vi 5), .int (vi 6), .long (vl 0), .int (vi 7), .int (vi 8), .int (vi 9), .int (vik_2 0), .int (vik_2 1)])), ((a 2), .inl (T 2, 27, .inr (.inl (fl 0)))), ((a 3), .inr (7, [.int (vi 12), .int (vi 13), .ref (a 4), .ref (ex 0), .ref (ex 1), .ref (ex 2), .ref (a 5), .ref (ex 3), .ref (ex 4), .ref (ex 5), .ref (ex 6), .ref (ex 7)])), ((a 4), .inl (T 2, 9, .inr (.inl (fl 1)))), ((a 5), .inl (T 2, 9, .inr (.inl (fl 2)))), ((a 6), .inl (T 0, 940, .inl (fi 0)))]) [0, 6, 3, 4, 5, 1, 2] rfl
      have hD9 := hD.sub (ws' := [((a 0), .inr (8, [.ref (a 1), .ref (a 3), .int (vi 0)])), ((a 1), .inr (6, [.ref (a 6), .ref (a 2), .int (vi 1), .int (vi 2), .int (vi 3), .int (vi 4), .int (vi 5), .int (vi 6), .long (vl 0), .int (vi 7), .int (vi 8), .int (vi 9), .int (vik_2 0), .int (vik_2 1)])), ((a 2), .inl (T 2, 27, .inr (.inl (fl 0)))), ((a 3), .inr (7, [.int (vi 12), .int (vi 13), .ref (a 4), .ref (ex 0), .ref (ex 1), .ref (ex 2), .ref (a 5), .ref (ex 3), .ref (ex 4), .ref (ex 5), .ref (ex 6), .ref (ex 7)])), ((a 4), .inl (T 2, 9, .inr (.inl (fl 1)))), ((a 5), .inl (T 2, 9, .inr (.inl (fl 2)))), ((a 6), .inl (T 0, 940, .inl (fi 0)))]) [0, 6, 3, 4, 5, 1, 2] (by decide +kernel) rfl
      rw [hQ]
      exact W.zret (v := 0) hx hb hr rfl (fun t ht hW => ⟨⟨0, 0, rfl, rfl, xf [], xh [], xv [(vik_2 0), (vik_2 1), (vi 5), (vi 6), (vi 8), (vi 7), (vi 4)], xl [(vl 0)], by rw [ht]; exact hP9, hD9, ⟨(Or.inr ⟨rfl, by show True; first | trivial | omega | assumption⟩), hp2, hp3, gk_2_1, (by show (0 : Int32).toInt = 1 → (vik_2 0).toInt = (vi 10).toInt; have k9_0 : (0 : Int32).toInt = 0 := (by decide); exact fun h9 => absurd h9 (by decide)), (by unfold R_X8_passNewWord; exact (fun Q9 k9_0 k9_1 k9_2 k9_3 => k9_0 hp5 hp6 fik flk vik vlk rk gk_1 tb gk_0 fik_1 flk_1 vik_1 vlk_1 rk_1 gk_1_0 gk_1_1 c34 fik_2 flk_2 vik_2 vlk_2 rk_2 gk_2_0 gk_2_2 rfl rfl rfl rfl rfl rfl rfl rfl rfl)), trivial⟩⟩, hS.F ht⟩) hS.2.2 dX8_passNewWord_83
    · have c34 := xeq (k := (-1)) (by decide) c34
      refine lv_aload_n hx hb dX8_passNewWord_37 rfl (lv_at hl 0 rfl) ?_
      refine va_get (D := D) (ci := 8) (v := .ref (a 3)) (C := RX8) (T := TX8) (N := 3) hx hb htg inX8 hown hK.1 hP 0 rfl rfl 1 (by decide) (htg _ kw_229) (fun _ h9 => h9) rfl dX8_passNewWord_38 ?_
      refine lv_aload_n hx hb dX8_passNewWord_41 rfl (lv_at hl 0 rfl) ?_
      refine va_get (D := D) (ci := 8) (v := .ref (a 1)) (C := RX8) (T := TX8) (N := 3) hx hb htg inX8 hown hK.1 hP 0 rfl rfl 0 (by decide) (htg _ kw_228) (fun _ h9 => h9) rfl dX8_passNewWord_42 ?_
      refine va_getN (D := D) (ci := 6) (v := .long (vl 0)) (C := RX6) (T := TX6) (N := 14) hx hb htg inX6 hown hK.1 hP 3 rfl rfl 8 (by decide) (va_Nw.use rfl (hK.2.1 _ kn_107)) (fun _ h9 => h9) rfl dX8_passNewWord_45 ?_
      obtain ⟨hC9, hPc, hDc, hFc⟩ := xcut (wc := (pre_X7_findSoul T (xa [(a 3), (a 5)]) (xa [(a 4), (ex 0), (ex 1), (ex 2), (ex 3), (ex 4), (ex 5), (ex 6), (ex 7)]) (xf []) (xh [(fl 2)]) (xv [(vi 12), (vi 13)]) (xl [(vl 0)]))) hP hD hS hA [5, 1] (by decide) rfl
      refine va_calli (va_runVN (As := [.long (vl 0)]) (rest := []) ⟨hx, hb, hml, hown, htg⟩ (c_X7_findSoul l D T (xa [(a 3), (a 5)]) (xa [(a 4), (ex 0), (ex 1), (ex 2), (ex 3), (ex 4), (ex 5), (ex 6), (ex 7)]) (xf []) (xh [(fl 2)]) (xv [(vi 12), (vi 13)]) (xl [(vl 0)]) H.size hp5 hp6) ⟨va_cnB 1 htg (xg_ok kw_614) rfl rfl rfl (hK.2.1 _ kn_611) (htg _ kw_7) (by decide +kernel) ⟨by rw [hR]; exact Nat.le_of_ble_eq_true rfl, by rw [hR]; exact Nat.le_of_ble_eq_true rfl⟩, htg _ kw_613, htg _ ks_14⟩ (xpreV hK hPc hDc (va_recv hK.1 hPc (ci := 7) (q0 := 0) rfl rfl)) rfl rfl hl.1 rfl (lv_room (Nat.le_of_ble_eq_true rfl)) dX8_passNewWord_48 ⟨by rw [hR]; exact Nat.le_of_ble_eq_true rfl, by rw [hR]; exact Nat.le_of_ble_eq_true rfl⟩) hS (fun q _ h => hFc q h) hFc (fun r9 u9 t H1 locs ht hvm hw hB hz1 hk1 hS => ?_)
      subst hw
      obtain ⟨fik_3, flk_3, vik_3, vlk_3, hP1, hD1, hG⟩ := hB
      rw [ht] at hP1
      obtain ⟨hP, hD⟩ := va_join (wr := [((a 0), .inr (8, [.ref (a 1), .ref (a 3), .int (vi 0)])), ((a 6), .inl (T 0, 940, .inl (fi 0))), ((a 1), .inr (6, [.ref (a 6), .ref (a 2), .int (vi 1), .int (vi 2), .int (vi 3), .int (vi 4), .int (vi 5), .int (vi 6), .long (vl 0), .int (vi 7), .int (vi 8), .int (vi 9), .int (vi 10), .int (vi 11)])), ((a 2), .inl (T 2, 27, .inr (.inl (fl 0)))), ((a 4), .inl (T 2, 9, .inr (.inl (fl 1))))]) (w1 := [((a 3), .inr (7, [.int (vi 12), .int (vi 13), .ref (a 4), .ref (ex 0), .ref (ex 1), .ref (ex 2), .ref (a 5), .ref (ex 3), .ref (ex 4), .ref (ex 5), .ref (ex 6), .ref (ex 7)])), ((a 5), .inl (T 2, 9, .inr (.inl (fl 2))))]) hP hD [5, 1] [0, 2, 3, 4, 6] hC9 rfl (by decide) (by decide) hk1 hFc hP1 hD1
      obtain ⟨rk_3, er9⟩ : ∃ z, z = r9 := ⟨_, rfl⟩
      subst er9
      clear hPc hDc hFc hP1 hD1 hk1 hz1 hvm ht hC9
      generalize H1 = H at hP hS ⊢
      obtain ⟨hP, hD⟩ := (show xPD D A [((a 0), .inr (8, [.ref (a 1), .ref (a 3), .int (vi 0)])), ((a 6), .inl (T 0, 940, .inl (fi 0))), ((a 1), .inr (6, [.ref (a 6), .ref (a 2), .int (vi 1), .int (vi 2), .int (vi 3), .int (vi 4), .int (vi 5), .int (vi 6), .long (vl 0), .int (vi 7), .int (vi 8), .int (vi 9), .int (vi 10), .int (vi 11)])), ((a 2), .inl (T 2, 27, .inr (.inl (fl 0)))), ((a 4), .inl (T 2, 9, .inr (.inl (fl 1)))), ((a 3), .inr (7, [.int (vi 12), .int (vi 13), .ref (a 4), .ref (ex 0), .ref (ex 1), .ref (ex 2), .ref (a 5), .ref (ex 3), .ref (ex 4), .ref (ex 5), .ref (ex 6), .ref (ex 7)])), ((a 5), .inl (T 2, 9, .inr (.inl (fl 2))))] H from ⟨hP, hD⟩)
      obtain ⟨gk_3_0, gk_3_1, -⟩ := hG
      replace gk_3_1 : rk_3.toInt = fdx (fl 2) 0 (vl 0) ((vi 13).toInt).toNat := (P_X7_findSoul gk_3_1 : _)
      replace gk_3_0 : -1 ≤ rk_3.toInt ∧ rk_3.toInt ≤ 8 := gk_3_0
      refine lv_iconst (v := (-1)) hx hb dX8_passNewWord_51 (by decide) ?_
      refine lv_icmp_eq (tgt := 59) hx hb dX8_passNewWord_52 (by decide) (fun c52 => ?_) (fun c52 => ?_)
      · have c52 := xeq (k := (-1)) (by decide) c52
        refine lv_iconst (v := 0) hx hb dX8_passNewWord_59 (by decide) ?_
        refine lv_istore_n (lv' := [(1, .int 0), (0, .ref (a 0))]) hx hb dX8_passNewWord_60 rfl hl (by decide) rfl (fun ls hl => ?_)
        refine lv_iload_n hx hb dX8_passNewWord_61 rfl (lv_at hl 0 rfl) ?_
        refine lv_if_eq (tgt := 76) hx hb dX8_passNewWord_62 (by decide) (fun _ => ?_) (fun c => absurd (by decide) c)
        refine lv_aload_n hx hb dX8_passNewWord_76 rfl (lv_at hl 1 rfl) ?_
        refine va_get (D := D) (ci := 8) (v := .ref (a 1)) (C := RX8) (T := TX8) (N := 3) hx hb htg inX8 hown hK.1 hP 0 rfl rfl 0 (by decide) (htg _ kw_228) (fun _ h9 => h9) rfl dX8_passNewWord_77 ?_
        obtain ⟨hC9, hPc, hDc, hFc⟩ := xcut (wc := (pre_X6_pass T (xa [(a 1), (a 6)]) (xa [(a 2)]) (xf [(fi 0)]) (xh []) (xv [(vi 1), (vi 2), (vi 3), (vi 4), (vi 5), (vi 6), (vi 7), (vi 8), (vi 9), (vi 10), (vi 11)]) (xl [(vl 0)]))) hP hD hS hA [2, 1] (by decide) rfl
        refine va_calli (va_runVN (As := []) (rest := []) ⟨hx, hb, hml, hown, htg⟩ (c_X6_pass l D T (xa [(a 1), (a 6)]) (xa [(a 2)]) (xf [(fi 0)]) (xh []) (xv [(vi 1), (vi 2), (vi 3), (vi 4), (vi 5), (vi 6), (vi 7), (vi 8), (vi 9), (vi 10), (vi 11)]) (xl [(vl 0)]) H.size hp0 hp1 hp2 hp3 hp4) ⟨va_cnB 0 htg (xg_ok kw_618) rfl rfl rfl (hK.2.1 _ kn_615) (htg _ kw_2) (by decide +kernel) ⟨by rw [hR]; exact Nat.le_of_ble_eq_true rfl, by rw [hR]; exact Nat.le_of_ble_eq_true rfl⟩, htg _ kw_617, htg _ ks_15⟩ (xpreV hK hPc hDc (va_recv hK.1 hPc (ci := 6) (q0 := 0) rfl rfl)) rfl rfl hl.1 rfl (lv_room (Nat.le_of_ble_eq_true rfl)) dX8_passNewWord_80 ⟨by rw [hR]; exact Nat.le_of_ble_eq_true rfl, by rw [hR]; exact Nat.le_of_ble_eq_true rfl⟩) hS (fun q _ h => hFc q h) hFc (fun r9 u9 t H1 locs ht hvm hw hB hz1 hk1 hS => ?_)
        subst hw
        obtain ⟨fik_4, flk_4, vik_4, vlk_4, hP1, hD1, hG⟩ := hB
        rw [ht] at hP1
        obtain ⟨hP, hD⟩ := va_join (wr := [((a 0), .inr (8, [.ref (a 1), .ref (a 3), .int (vi 0)])), ((a 2), .inl (T 2, 27, .inr (.inl (fl 0)))), ((a 4), .inl (T 2, 9, .inr (.inl (fl 1)))), ((a 3), .inr (7, [.int (vi 12), .int (vi 13), .ref (a 4), .ref (ex 0), .ref (ex 1), .ref (ex 2), .ref (a 5), .ref (ex 3), .ref (ex 4), .ref (ex 5), .ref (ex 6), .ref (ex 7)])), ((a 5), .inl (T 2, 9, .inr (.inl (fl 2))))]) (w1 := [((a 1), .inr (6, [.ref (a 6), .ref (a 2), .int (vi 1), .int (vi 2), .int (vi 3), .int (vik_4 4), .int (vik_4 0), .int (vik_4 1), .long (vlk_4 0), .int (vik_4 3), .int (vik_4 2), .int (vi 9), .int (vi 10), .int (vi 11)])), ((a 6), .inl (T 0, 940, .inl (fi 0)))]) hP hD [2, 1] [0, 3, 4, 5, 6] hC9 rfl (by decide) (by decide) hk1 hFc hP1 hD1
        obtain ⟨rk_4, er9⟩ : ∃ z, z = r9 := ⟨_, rfl⟩
        subst er9
        clear hPc hDc hFc hP1 hD1 hk1 hz1 hvm ht hC9
        generalize H1 = H at hP hS ⊢
        obtain ⟨hP, hD⟩ := (show xPD D A [((a 0), .inr (8, [.ref (a 1), .ref (a 3), .int (vi 0)])), ((a 2), .inl (T 2, 27, .inr (.inl (fl 0)))), ((a 4), .inl (T 2, 9, .inr (.inl (fl 1)))), ((a 3), .inr (7, [.int (vi 12), .int (vi 13), .ref (a 4), .ref (ex 0), .ref (ex 1), .ref (ex 2), .ref (a 5), .ref (ex 3), .ref (ex 4), .ref (ex 5), .ref (ex 6), .ref (ex 7)])), ((a 5), .inl (T 2, 9, .inr (.inl (fl 2)))), ((a 1), .inr (6, [.ref (a 6), .ref (a 2), .int (vi 1), .int (vi 2), .int (vi 3), .int (vik_4 4), .int (vik_4 0), .int (vik_4 1), .long (vlk_4 0), .int (vik_4 3), .int (vik_4 2), .int (vi 9), .int (vi 10), .int (vi 11)])), ((a 6), .inl (T 0, 940, .inl (fi 0)))] H from ⟨hP, hD⟩)
        obtain ⟨gk_4_0, gk_4_1, gk_4_2, gk_4_3, -⟩ := hG
        replace gk_4_3 : ∀ n m : Nat, (vi 2).toInt = (n : Int) → (vi 3).toInt = (m : Int) → (vi 4).toInt ≤ (vi 2).toInt → CC (trn (fi 0) n) n m ((vi 4).toInt).toNat (vi 2) (vi 3) (vik_4 0) (vik_4 1) (vik_4 4) (vlk_4 0) (vik_4 3) (vik_4 2) := (P_X6_pass gk_4_3 : _)
        replace gk_4_1 : 0 ≤ (vik_4 4).toInt ∧ (vik_4 4).toInt ≤ 940 := gk_4_1
        replace gk_4_2 : 0 ≤ (vik_4 1).toInt ∧ (vik_4 1).toInt ≤ 940 := gk_4_2
        replace gk_4_0 : rk_4 = 1 := gk_4_0
        refine xz_i 1 gk_4_0 ?_
        have hP9 := hP.sub (ws' := [((a 0), .inr (8, [.ref (a 1), .ref (a 3), .int (vi 0)])), ((a 1), .inr (6, [.ref (a 6), .ref (a 2), .int (vi 1), .int (vi 2), .int (vi 3), .int (vik_4 4), .int (vik_4 0), .int (vik_4 1), .long (vlk_4 0), .int (vik_4 3), .int (vik_4 2), .int (vi 9), .int (vi 10), .int (vi 11)])), ((a 2), .inl (T 2, 27, .inr (.inl (fl 0)))), ((a 3), .inr (7, [.int (vi 12), .int (vi 13), .ref (a 4), .ref (ex 0), .ref (ex 1), .ref (ex 2), .ref (a 5), .ref (ex 3), .ref (ex 4), .ref (ex 5), .ref (ex 6), .ref (ex 7)])), ((a 4), .inl (T 2, 9, .inr (.inl (fl 1)))), ((a 5), .inl (T 2, 9, .inr (.inl (fl 2)))), ((a 6), .inl (T 0, 940, .inl (fi 0)))]) [0, 5, 1, 3, 2, 4, 6] rfl
        have hD9 := hD.sub (ws' := [((a 0), .inr (8, [.ref (a 1), .ref (a 3), .int (vi 0)])), ((a 1), .inr (6, [.ref (a 6), .ref (a 2), .int (vi 1), .int (vi 2), .int (vi 3), .int (vik_4 4), .int (vik_4 0), .int (vik_4 1), .long (vlk_4 0), .int (vik_4 3), .int (vik_4 2), .int (vi 9), .int (vi 10), .int (vi 11)])), ((a 2), .inl (T 2, 27, .inr (.inl (fl 0)))), ((a 3), .inr (7, [.int (vi 12), .int (vi 13), .ref (a 4), .ref (ex 0), .ref (ex 1), .ref (ex 2), .ref (a 5), .ref (ex 3), .ref (ex 4), .ref (ex 5), .ref (ex 6), .ref (ex 7)])), ((a 4), .inl (T 2, 9, .inr (.inl (fl 1)))), ((a 5), .inl (T 2, 9, .inr (.inl (fl 2)))), ((a 6), .inl (T 0, 940, .inl (fi 0)))]) [0, 5, 1, 3, 2, 4, 6] (by decide +kernel) rfl
        rw [hQ]
        exact W.zret (v := 1) hx hb hr rfl (fun t ht hW => ⟨⟨1, 1, rfl, rfl, xf [], xh [], xv [(vi 10), (vi 11), (vik_4 0), (vik_4 1), (vik_4 2), (vik_4 3), (vik_4 4)], xl [(vlk_4 0)], by rw [ht]; exact hP9, hD9, ⟨(Or.inl ⟨rfl, by show True; first | trivial | omega | assumption⟩), gk_4_1, gk_4_2, hp4, (by show (1 : Int32).toInt = 1 → (vi 10).toInt = (vi 10).toInt; have k9_0 : (1 : Int32).toInt = 1 := (by decide); exact fun _ => rfl), (by unfold R_X8_passNewWord; exact (fun Q9 k9_0 k9_1 k9_2 k9_3 => k9_1 hp5 hp6 fik flk vik vlk rk gk_1 tb gk_0 fik_1 flk_1 vik_1 vlk_1 rk_1 gk_1_0 gk_1_1 c34 fik_3 flk_3 vik_3 vlk_3 rk_3 gk_3_0 gk_3_1 c52 fik_4 flk_4 vik_4 vlk_4 rk_4 gk_4_0 gk_4_3 rfl rfl rfl rfl rfl rfl rfl rfl rfl)), trivial⟩⟩, hS.F ht⟩) hS.2.2 dX8_passNewWord_83
      · have c52 := xne (k := (-1)) (by decide) c52
        refine lv_iconst (v := 1) hx hb dX8_passNewWord_55 (by decide) ?_
        refine lv_goto (tgt := 60) hx hb dX8_passNewWord_56 (by decide) ?_
        refine lv_istore_n (lv' := [(1, .int 1), (0, .ref (a 0))]) hx hb dX8_passNewWord_60 rfl hl (by decide) rfl (fun ls hl => ?_)
        refine lv_iload_n hx hb dX8_passNewWord_61 rfl (lv_at hl 0 rfl) ?_
        refine lv_if_eq (tgt := 76) hx hb dX8_passNewWord_62 (by decide) (fun c => absurd c (by decide)) (fun _ => ?_)
        refine lv_aload_n hx hb dX8_passNewWord_65 rfl (lv_at hl 1 rfl) ?_
        refine va_get (D := D) (ci := 8) (v := .ref (a 1)) (C := RX8) (T := TX8) (N := 3) hx hb htg inX8 hown hK.1 hP 0 rfl rfl 0 (by decide) (htg _ kw_228) (fun _ h9 => h9) rfl dX8_passNewWord_66 ?_
        refine lv_iconst (v := 3) hx hb dX8_passNewWord_69 (by decide) ?_
        obtain ⟨hC9, hPc, hDc, hFc⟩ := xcut (wc := (pre_X6_refuse T (xa [(a 1)]) (xa [(a 6), (a 2)]) (xf []) (xh []) (xv [3, (vi 1), (vi 2), (vi 3), (vi 4), (vi 5), (vi 6), (vi 7), (vi 8), (vi 9), (vi 10), (vi 11)]) (xl [(vl 0)]))) hP hD hS hA [2] (by decide) rfl
        refine va_calli (va_runVN (As := [.int 3]) (rest := []) ⟨hx, hb, hml, hown, htg⟩ (c_X6_refuse l D T (xa [(a 1)]) (xa [(a 6), (a 2)]) (xf []) (xh []) (xv [3, (vi 1), (vi 2), (vi 3), (vi 4), (vi 5), (vi 6), (vi 7), (vi 8), (vi 9), (vi 10), (vi 11)]) (xl [(vl 0)]) H.size hp0 hp1 hp2 hp3 hp4) ⟨va_cnB 1 htg (xg_ok kw_594) rfl rfl rfl (hK.2.1 _ kn_591) (htg _ kw_2) (by decide +kernel) ⟨by rw [hR]; exact Nat.le_of_ble_eq_true rfl, by rw [hR]; exact Nat.le_of_ble_eq_true rfl⟩, htg _ kw_593, htg _ ks_10⟩ (xpreV hK hPc hDc (va_recv hK.1 hPc (ci := 6) (q0 := 0) rfl rfl)) rfl rfl hl.1 rfl (lv_room (Nat.le_of_ble_eq_true rfl)) dX8_passNewWord_70 ⟨by rw [hR]; exact Nat.le_of_ble_eq_true rfl, by rw [hR]; exact Nat.le_of_ble_eq_true rfl⟩) hS (fun q _ h => hFc q h) hFc (fun r9 u9 t H1 locs ht hvm hw hB hz1 hk1 hS => ?_)
        subst hw
        obtain ⟨fik_5, flk_5, vik_5, vlk_5, hP1, hD1, hG⟩ := hB
        rw [ht] at hP1
        obtain ⟨hP, hD⟩ := va_join (wr := [((a 0), .inr (8, [.ref (a 1), .ref (a 3), .int (vi 0)])), ((a 6), .inl (T 0, 940, .inl (fi 0))), ((a 2), .inl (T 2, 27, .inr (.inl (fl 0)))), ((a 4), .inl (T 2, 9, .inr (.inl (fl 1)))), ((a 3), .inr (7, [.int (vi 12), .int (vi 13), .ref (a 4), .ref (ex 0), .ref (ex 1), .ref (ex 2), .ref (a 5), .ref (ex 3), .ref (ex 4), .ref (ex 5), .ref (ex 6), .ref (ex 7)])), ((a 5), .inl (T 2, 9, .inr (.inl (fl 2))))]) (w1 := [((a 1), .inr (6, [.ref (a 6), .ref (a 2), .int (vi 1), .int (vi 2), .int (vi 3), .int (vi 4), .int (vi 5), .int (vi 6), .long (vl 0), .int (vi 7), .int (vi 8), .int (vi 9), .int (vik_5 0), .int (vik_5 1)]))]) hP hD [2] [0, 1, 3, 4, 5, 6] hC9 rfl (by decide) (by decide) hk1 hFc hP1 hD1
        obtain ⟨rk_5, er9⟩ : ∃ z, z = r9 := ⟨_, rfl⟩
        subst er9
        clear hPc hDc hFc hP1 hD1 hk1 hz1 hvm ht hC9
        generalize H1 = H at hP hS ⊢
        obtain ⟨hP, hD⟩ := (show xPD D A [((a 0), .inr (8, [.ref (a 1), .ref (a 3), .int (vi 0)])), ((a 6), .inl (T 0, 940, .inl (fi 0))), ((a 2), .inl (T 2, 27, .inr (.inl (fl 0)))), ((a 4), .inl (T 2, 9, .inr (.inl (fl 1)))), ((a 3), .inr (7, [.int (vi 12), .int (vi 13), .ref (a 4), .ref (ex 0), .ref (ex 1), .ref (ex 2), .ref (a 5), .ref (ex 3), .ref (ex 4), .ref (ex 5), .ref (ex 6), .ref (ex 7)])), ((a 5), .inl (T 2, 9, .inr (.inl (fl 2)))), ((a 1), .inr (6, [.ref (a 6), .ref (a 2), .int (vi 1), .int (vi 2), .int (vi 3), .int (vi 4), .int (vi 5), .int (vi 6), .long (vl 0), .int (vi 7), .int (vi 8), .int (vi 9), .int (vik_5 0), .int (vik_5 1)]))] H from ⟨hP, hD⟩)
        obtain ⟨gk_5_0, gk_5_1, gk_5_2, -⟩ := hG
        replace gk_5_1 : 0 ≤ (vik_5 1).toInt ∧ (vik_5 1).toInt ≤ 940 := gk_5_1
        replace gk_5_2 : (vik_5 0).toInt = (3 : Int32).toInt ∧ (vik_5 1).toInt = (vi 6).toInt := gk_5_2
        replace gk_5_0 : rk_5 = 0 := gk_5_0
        refine xz_i 0 gk_5_0 ?_
        refine lv_goto (tgt := 83) hx hb dX8_passNewWord_73 (by decide) ?_
        have hP9 := hP.sub (ws' := [((a 0), .inr (8, [.ref (a 1), .ref (a 3), .int (vi 0)])), ((a 1), .inr (6, [.ref (a 6), .ref (a 2), .int (vi 1), .int (vi 2), .int (vi 3), .int (vi 4), .int (vi 5), .int (vi 6), .long (vl 0), .int (vi 7), .int (vi 8), .int (vi 9), .int (vik_5 0), .int (vik_5 1)])), ((a 2), .inl (T 2, 27, .inr (.inl (fl 0)))), ((a 3), .inr (7, [.int (vi 12), .int (vi 13), .ref (a 4), .ref (ex 0), .ref (ex 1), .ref (ex 2), .ref (a 5), .ref (ex 3), .ref (ex 4), .ref (ex 5), .ref (ex 6), .ref (ex 7)])), ((a 4), .inl (T 2, 9, .inr (.inl (fl 1)))), ((a 5), .inl (T 2, 9, .inr (.inl (fl 2)))), ((a 6), .inl (T 0, 940, .inl (fi 0)))]) [0, 6, 2, 4, 3, 5, 1] rfl
        have hD9 := hD.sub (ws' := [((a 0), .inr (8, [.ref (a 1), .ref (a 3), .int (vi 0)])), ((a 1), .inr (6, [.ref (a 6), .ref (a 2), .int (vi 1), .int (vi 2), .int (vi 3), .int (vi 4), .int (vi 5), .int (vi 6), .long (vl 0), .int (vi 7), .int (vi 8), .int (vi 9), .int (vik_5 0), .int (vik_5 1)])), ((a 2), .inl (T 2, 27, .inr (.inl (fl 0)))), ((a 3), .inr (7, [.int (vi 12), .int (vi 13), .ref (a 4), .ref (ex 0), .ref (ex 1), .ref (ex 2), .ref (a 5), .ref (ex 3), .ref (ex 4), .ref (ex 5), .ref (ex 6), .ref (ex 7)])), ((a 4), .inl (T 2, 9, .inr (.inl (fl 1)))), ((a 5), .inl (T 2, 9, .inr (.inl (fl 2)))), ((a 6), .inl (T 0, 940, .inl (fi 0)))]) [0, 6, 2, 4, 3, 5, 1] (by decide +kernel) rfl
        rw [hQ]
        exact W.zret (v := 0) hx hb hr rfl (fun t ht hW => ⟨⟨0, 0, rfl, rfl, xf [], xh [], xv [(vik_5 0), (vik_5 1), (vi 5), (vi 6), (vi 8), (vi 7), (vi 4)], xl [(vl 0)], by rw [ht]; exact hP9, hD9, ⟨(Or.inr ⟨rfl, by show True; first | trivial | omega | assumption⟩), hp2, hp3, gk_5_1, (by show (0 : Int32).toInt = 1 → (vik_5 0).toInt = (vi 10).toInt; have k9_0 : (0 : Int32).toInt = 0 := (by decide); exact fun h9 => absurd h9 (by decide)), (by unfold R_X8_passNewWord; exact (fun Q9 k9_0 k9_1 k9_2 k9_3 => k9_2 hp5 hp6 fik flk vik vlk rk gk_1 tb gk_0 fik_1 flk_1 vik_1 vlk_1 rk_1 gk_1_0 gk_1_1 c34 fik_3 flk_3 vik_3 vlk_3 rk_3 gk_3_0 gk_3_1 c52 fik_5 flk_5 vik_5 vlk_5 rk_5 gk_5_0 gk_5_2 rfl rfl rfl rfl rfl rfl rfl rfl rfl)), trivial⟩⟩, hS.F ht⟩) hS.2.2 dX8_passNewWord_83
  · refine xz_i 0 er9 ?_
    have tb : rk.toInt = 0 := by rw [er9]; decide
    refine lv_if_ne (tgt := 19) hx hb dX8_passNewWord_7 (by decide) (fun c => absurd (by decide) c) (fun _ => ?_)
    refine lv_aload_n hx hb dX8_passNewWord_10 rfl (lv_at hl 0 rfl) ?_
    refine va_get (D := D) (ci := 8) (v := .ref (a 1)) (C := RX8) (T := TX8) (N := 3) hx hb htg inX8 hown hK.1 hP 0 rfl rfl 0 (by decide) (htg _ kw_228) (fun _ h9 => h9) rfl dX8_passNewWord_11 ?_
    refine lv_iconst (v := 1) hx hb dX8_passNewWord_14 (by decide) ?_
    obtain ⟨hC9, hPc, hDc, hFc⟩ := xcut (wc := (pre_X6_refuse T (xa [(a 1)]) (xa [(a 6), (a 2)]) (xf []) (xh []) (xv [1, (vi 1), (vi 2), (vi 3), (vi 4), (vi 5), (vi 6), (vi 7), (vi 8), (vi 9), (vi 10), (vi 11)]) (xl [(vl 0)]))) hP hD hS hA [5] (by decide) rfl
    refine va_calli (va_runVN (As := [.int 1]) (rest := []) ⟨hx, hb, hml, hown, htg⟩ (c_X6_refuse l D T (xa [(a 1)]) (xa [(a 6), (a 2)]) (xf []) (xh []) (xv [1, (vi 1), (vi 2), (vi 3), (vi 4), (vi 5), (vi 6), (vi 7), (vi 8), (vi 9), (vi 10), (vi 11)]) (xl [(vl 0)]) H.size hp0 hp1 hp2 hp3 hp4) ⟨va_cnB 1 htg (xg_ok kw_594) rfl rfl rfl (hK.2.1 _ kn_591) (htg _ kw_2) (by decide +kernel) ⟨by rw [hR]; exact Nat.le_of_ble_eq_true rfl, by rw [hR]; exact Nat.le_of_ble_eq_true rfl⟩, htg _ kw_593, htg _ ks_10⟩ (xpreV hK hPc hDc (va_recv hK.1 hPc (ci := 6) (q0 := 0) rfl rfl)) rfl rfl hl.1 rfl (lv_room (Nat.le_of_ble_eq_true rfl)) dX8_passNewWord_15 ⟨by rw [hR]; exact Nat.le_of_ble_eq_true rfl, by rw [hR]; exact Nat.le_of_ble_eq_true rfl⟩) hS (fun q _ h => hFc q h) hFc (fun r9 u9 t H1 locs ht hvm hw hB hz1 hk1 hS => ?_)
    subst hw
    obtain ⟨fik_6, flk_6, vik_6, vlk_6, hP1, hD1, hG⟩ := hB
    rw [ht] at hP1
    obtain ⟨hP, hD⟩ := va_join (wr := [((a 0), .inr (8, [.ref (a 1), .ref (a 3), .int (vi 0)])), ((a 3), .inr (7, [.int (vi 12), .int (vi 13), .ref (a 4), .ref (ex 0), .ref (ex 1), .ref (ex 2), .ref (a 5), .ref (ex 3), .ref (ex 4), .ref (ex 5), .ref (ex 6), .ref (ex 7)])), ((a 4), .inl (T 2, 9, .inr (.inl (fl 1)))), ((a 5), .inl (T 2, 9, .inr (.inl (fl 2)))), ((a 6), .inl (T 0, 940, .inl (fi 0))), ((a 2), .inl (T 2, 27, .inr (.inl (fl 0))))]) (w1 := [((a 1), .inr (6, [.ref (a 6), .ref (a 2), .int (vi 1), .int (vi 2), .int (vi 3), .int (vi 4), .int (vi 5), .int (vi 6), .long (vl 0), .int (vi 7), .int (vi 8), .int (vi 9), .int (vik_6 0), .int (vik_6 1)]))]) hP hD [5] [0, 1, 2, 3, 4, 6] hC9 rfl (by decide) (by decide) hk1 hFc hP1 hD1
    obtain ⟨rk_6, er9⟩ : ∃ z, z = r9 := ⟨_, rfl⟩
    subst er9
    clear hPc hDc hFc hP1 hD1 hk1 hz1 hvm ht hC9
    generalize H1 = H at hP hS ⊢
    obtain ⟨hP, hD⟩ := (show xPD D A [((a 0), .inr (8, [.ref (a 1), .ref (a 3), .int (vi 0)])), ((a 3), .inr (7, [.int (vi 12), .int (vi 13), .ref (a 4), .ref (ex 0), .ref (ex 1), .ref (ex 2), .ref (a 5), .ref (ex 3), .ref (ex 4), .ref (ex 5), .ref (ex 6), .ref (ex 7)])), ((a 4), .inl (T 2, 9, .inr (.inl (fl 1)))), ((a 5), .inl (T 2, 9, .inr (.inl (fl 2)))), ((a 6), .inl (T 0, 940, .inl (fi 0))), ((a 2), .inl (T 2, 27, .inr (.inl (fl 0)))), ((a 1), .inr (6, [.ref (a 6), .ref (a 2), .int (vi 1), .int (vi 2), .int (vi 3), .int (vi 4), .int (vi 5), .int (vi 6), .long (vl 0), .int (vi 7), .int (vi 8), .int (vi 9), .int (vik_6 0), .int (vik_6 1)]))] H from ⟨hP, hD⟩)
    obtain ⟨gk_6_0, gk_6_1, gk_6_2, -⟩ := hG
    replace gk_6_1 : 0 ≤ (vik_6 1).toInt ∧ (vik_6 1).toInt ≤ 940 := gk_6_1
    replace gk_6_2 : (vik_6 0).toInt = (1 : Int32).toInt ∧ (vik_6 1).toInt = (vi 6).toInt := gk_6_2
    replace gk_6_0 : rk_6 = 0 := gk_6_0
    refine xz_i 0 gk_6_0 ?_
    have hP9 := hP.sub (ws' := [((a 0), .inr (8, [.ref (a 1), .ref (a 3), .int (vi 0)])), ((a 1), .inr (6, [.ref (a 6), .ref (a 2), .int (vi 1), .int (vi 2), .int (vi 3), .int (vi 4), .int (vi 5), .int (vi 6), .long (vl 0), .int (vi 7), .int (vi 8), .int (vi 9), .int (vik_6 0), .int (vik_6 1)])), ((a 2), .inl (T 2, 27, .inr (.inl (fl 0)))), ((a 3), .inr (7, [.int (vi 12), .int (vi 13), .ref (a 4), .ref (ex 0), .ref (ex 1), .ref (ex 2), .ref (a 5), .ref (ex 3), .ref (ex 4), .ref (ex 5), .ref (ex 6), .ref (ex 7)])), ((a 4), .inl (T 2, 9, .inr (.inl (fl 1)))), ((a 5), .inl (T 2, 9, .inr (.inl (fl 2)))), ((a 6), .inl (T 0, 940, .inl (fi 0)))]) [0, 6, 5, 1, 2, 3, 4] rfl
    have hD9 := hD.sub (ws' := [((a 0), .inr (8, [.ref (a 1), .ref (a 3), .int (vi 0)])), ((a 1), .inr (6, [.ref (a 6), .ref (a 2), .int (vi 1), .int (vi 2), .int (vi 3), .int (vi 4), .int (vi 5), .int (vi 6), .long (vl 0), .int (vi 7), .int (vi 8), .int (vi 9), .int (vik_6 0), .int (vik_6 1)])), ((a 2), .inl (T 2, 27, .inr (.inl (fl 0)))), ((a 3), .inr (7, [.int (vi 12), .int (vi 13), .ref (a 4), .ref (ex 0), .ref (ex 1), .ref (ex 2), .ref (a 5), .ref (ex 3), .ref (ex 4), .ref (ex 5), .ref (ex 6), .ref (ex 7)])), ((a 4), .inl (T 2, 9, .inr (.inl (fl 1)))), ((a 5), .inl (T 2, 9, .inr (.inl (fl 2)))), ((a 6), .inl (T 0, 940, .inl (fi 0)))]) [0, 6, 5, 1, 2, 3, 4] (by decide +kernel) rfl
    rw [hQ]
    exact W.zret (v := 0) hx hb hr rfl (fun t ht hW => ⟨⟨0, 0, rfl, rfl, xf [], xh [], xv [(vik_6 0), (vik_6 1), (vi 5), (vi 6), (vi 8), (vi 7), (vi 4)], xl [(vl 0)], by rw [ht]; exact hP9, hD9, ⟨(Or.inr ⟨rfl, by show True; first | trivial | omega | assumption⟩), hp2, hp3, gk_6_1, (by show (0 : Int32).toInt = 1 → (vik_6 0).toInt = (vi 10).toInt; have k9_0 : (0 : Int32).toInt = 0 := (by decide); exact fun h9 => absurd h9 (by decide)), (by unfold R_X8_passNewWord; exact (fun Q9 k9_0 k9_1 k9_2 k9_3 => k9_3 hp5 hp6 fik flk vik vlk rk gk_1 tb gk_0 fik_6 flk_6 vik_6 vlk_6 rk_6 gk_6_0 gk_6_2 rfl rfl rfl rfl rfl rfl rfl rfl rfl)), trivial⟩⟩, hS.F ht⟩) hS.2.2 dX8_passNewWord_18
abbrev pre_X7_addName (T : Nat → ClassId) (a ex : Nat → Nat) (fi : Nat → Nat → Int32) (fl : Nat → Nat → Int64) (vi : Nat → Int32) (vl : Nat → Int64) : va_W := [((a 0), .inr (7, [.int (vi 1), .int (vi 2), .ref (a 1), .ref (a 2), .ref (a 3), .ref (a 4), .ref (ex 0), .ref (ex 1), .ref (ex 2), .ref (ex 3), .ref (ex 4), .ref (ex 5)])), ((a 1), .inl (T 2, 9, .inr (.inl (fl 0)))), ((a 2), .inl (T 1, 9, .inl (fi 0))), ((a 3), .inl (T 1, 9, .inl (fi 1))), ((a 4), .inl (T 1, 9, .inl (fi 2)))]
set_option maxHeartbeats 8000000 in
set_option maxRecDepth 100000 in
theorem c_X7_addName (l : Launch) (D : va_G) (T : Nat → ClassId) (a ex : Nat → Nat) (fi : Nat → Nat → Int32) (fl : Nat → Nat → Int64) (vi : Nat → Int32) (vl : Nat → Int64) (sz : Nat) (hp0 : 0 ≤ (vi 1).toInt ∧ (vi 1).toInt ≤ 9) (hp1 : 0 ≤ (vi 2).toInt ∧ (vi 2).toInt ≤ 9) : Met l yX7_addName (xw yX7_addName cX7_addName 4 none) ({ frames := 0, cells := 0, slots := 0, locals := 0 }) (xP D T [.ref (a 0), .long (vl 0), .int (vi 0)] sz (pre_X7_addName T a ex fi fl vi vl)) (va_Qv (fun _ : Int32 => True) (xC D (va_A (pre_X7_addName T a ex fi fl vi vl) sz) (fun fj fm vj vm => [((a 0), .inr (7, [.int (vj 0), .int (vi 2), .ref (a 1), .ref (a 2), .ref (a 3), .ref (a 4), .ref (ex 0), .ref (ex 1), .ref (ex 2), .ref (ex 3), .ref (ex 4), .ref (ex 5)])), ((a 1), .inl (T 2, 9, .inr (.inl (fm 0)))), ((a 2), .inl (T 1, 9, .inl (fj 0))), ((a 3), .inl (T 1, 9, .inl (fj 1))), ((a 4), .inl (T 1, 9, .inl (fj 2)))]) (fun (r : Int32) (fj : Nat → Nat → Int32) (fm : Nat → Nat → Int64) (vj : Nat → Int32) (vm : Nat → Int64) => (0 ≤ (vj 0).toInt ∧ (vj 0).toInt ≤ 9) ∧ R_X7_addName fi fl vi vl r fj fm vj vm ∧ True)) (va_A (pre_X7_addName T a ex fi fl vi vl) sz)) 0 0 (va_A (pre_X7_addName T a ex fi fl vi vl) sz) := by
  refine xofW (cc := cX7_addName) (maxL := 4) (ret := none) (by decide) rfl ?_
  intro p e s m args below meth c s₁ R Q hR hQ B hml hv
  obtain ⟨rfl, hsz, hP, hK, hD0⟩ := hv
  have hx := B.exec
  have hb := B.bytes
  have hr := B.returns
  have hts := atoms_spec (ws := xw yX7_addName cX7_addName 4 none) B.pre
  have htg : ∀ w ∈ xg, w.before _ s = true := fun w h => hts w (List.mem_cons_of_mem _ h)
  have hown : s.vm.findClass RX7 = some m.cls := findClass_of_methodNamed B.named
  have hlocks := B.notSynchronized
  subst hsz
  have hD := hD0.self (sz := s.heap.size)
  generalize hAe : va_A (pre_X7_addName T a ex fi fl vi vl) s.heap.size = A at hD hQ
  have hA : ∀ q : Nat, s.heap.size ≤ q → A q := fun q h => by rw [← hAe]; exact Or.inr h
  have hS : va_S A s.heap s.heap [] := va_S.rf
  replace hP : va_P D vwCl [((a 0), .inr (7, [.int (vi 1), .int (vi 2), .ref (a 1), .ref (a 2), .ref (a 3), .ref (a 4), .ref (ex 0), .ref (ex 1), .ref (ex 2), .ref (ex 3), .ref (ex 4), .ref (ex 5)])), ((a 1), .inl (T 2, 9, .inr (.inl (fl 0)))), ((a 2), .inl (T 1, 9, .inl (fi 0))), ((a 3), .inl (T 1, 9, .inl (fi 1))), ((a 4), .inl (T 1, 9, .inl (fi 2)))] s.heap := hP
  replace hD : va_D A [((a 0), .inr (7, [.int (vi 1), .int (vi 2), .ref (a 1), .ref (a 2), .ref (a 3), .ref (a 4), .ref (ex 0), .ref (ex 1), .ref (ex 2), .ref (ex 3), .ref (ex 4), .ref (ex 5)])), ((a 1), .inl (T 2, 9, .inr (.inl (fl 0)))), ((a 2), .inl (T 1, 9, .inl (fi 0))), ((a 3), .inl (T 1, 9, .inl (fi 1))), ((a 4), .inl (T 1, 9, .inl (fi 2)))] := hD
  have hl := lv_entry ([.ref (a 0), .long (vl 0), .int (vi 0)]) (n := 4) (Nat.le_of_ble_eq_true rfl)
  rw [lg_entry_eq]
  generalize (lg_sl ([.ref (a 0), .long (vl 0), .int (vi 0)]) ++ List.replicate (4 - (lg_sl ([.ref (a 0), .long (vl 0), .int (vi 0)])).length) Slot.unset).toArray = ls at hl ⊢
  replace hl : lv_has ls 4 [(0, .ref (a 0)), (1, .long (vl 0)), (3, .int (vi 0))] := hl
  refine lv_aload_n hx hb dX7_addName_0 rfl (lv_at hl 0 rfl) ?_
  refine va_get (D := D) (ci := 7) (v := .int (vi 1)) (C := RX7) (T := TX7) (N := 12) hx hb htg inX7 hown hK.1 hP 0 rfl rfl 0 (by decide) (htg _ kw_158) (fun _ h9 => h9) rfl dX7_addName_1 ?_
  refine lv_bipush (v := 9) hx hb dX7_addName_4 (by decide) ?_
  refine lv_icmp_ge (tgt := 59) hx hb dX7_addName_6 (by decide) (fun c6 => ?_) (fun c6 => ?_)
  · have c6 := xge (k := 9) (by decide) c6
    have hP9 := hP.sub (ws' := [((a 0), .inr (7, [.int (vi 1), .int (vi 2), .ref (a 1), .ref (a 2), .ref (a 3), .ref (a 4), .ref (ex 0), .ref (ex 1), .ref (ex 2), .ref (ex 3), .ref (ex 4), .ref (ex 5)])), ((a 1), .inl (T 2, 9, .inr (.inl (fl 0)))), ((a 2), .inl (T 1, 9, .inl (fi 0))), ((a 3), .inl (T 1, 9, .inl (fi 1))), ((a 4), .inl (T 1, 9, .inl (fi 2)))]) [0, 1, 2, 3, 4] rfl
    have hD9 := hD.sub (ws' := [((a 0), .inr (7, [.int (vi 1), .int (vi 2), .ref (a 1), .ref (a 2), .ref (a 3), .ref (a 4), .ref (ex 0), .ref (ex 1), .ref (ex 2), .ref (ex 3), .ref (ex 4), .ref (ex 5)])), ((a 1), .inl (T 2, 9, .inr (.inl (fl 0)))), ((a 2), .inl (T 1, 9, .inl (fi 0))), ((a 3), .inl (T 1, 9, .inl (fi 1))), ((a 4), .inl (T 1, 9, .inl (fi 2)))]) [0, 1, 2, 3, 4] (by decide +kernel) rfl
    rw [hQ]
    exact W.vret hx hb hr (fun t ht hW => ⟨⟨(0 : Int32), rfl, trivial, xf [(fi 0), (fi 1), (fi 2)], xh [(fl 0)], xv [(vi 1)], xl [], by rw [ht]; exact hP9, hD9, ⟨hp0, (by unfold R_X7_addName; exact (fun Q9 k9_0 k9_1 => k9_0 hp0 hp1 c6 rfl rfl rfl rfl rfl)), trivial⟩⟩, hS.F ht⟩) hS.2.2 dX7_addName_59
  · have c6 := xnge (k := 9) (by decide) c6
    refine lv_aload_n hx hb dX7_addName_9 rfl (lv_at hl 0 rfl) ?_
    refine va_get (D := D) (ci := 7) (v := .ref (a 1)) (C := RX7) (T := TX7) (N := 12) hx hb htg inX7 hown hK.1 hP 0 rfl rfl 2 (by decide) (htg _ kw_169) (fun _ h9 => h9) rfl dX7_addName_10 ?_
    refine lv_aload_n hx hb dX7_addName_13 rfl (lv_at hl 0 rfl) ?_
    refine va_get (D := D) (ci := 7) (v := .int (vi 1)) (C := RX7) (T := TX7) (N := 12) hx hb htg inX7 hown hK.1 hP 0 rfl rfl 0 (by decide) (htg _ kw_158) (fun _ h9 => h9) rfl dX7_addName_14 ?_
    refine lv_lload_n hx hb dX7_addName_17 rfl (lv_at hl 1 rfl) ?_
    refine va_last hx hb hK.1 hP hD hS 1 2 rfl rfl (vp_in_iff.mpr (by omega)) dX7_addName_18 (fun H locs hP hD hS => ?_)
    obtain ⟨f18, ef18, hP, hD⟩ : ∃ f7 : Nat → Int64, f7 = vp_updL (fl 0) (vi 1).toNatClampNeg ((vl 0) : Int64) ∧ va_P D vwCl [((a 0), .inr (7, [.int (vi 1), .int (vi 2), .ref (a 1), .ref (a 2), .ref (a 3), .ref (a 4), .ref (ex 0), .ref (ex 1), .ref (ex 2), .ref (ex 3), .ref (ex 4), .ref (ex 5)])), ((a 1), .inl (T 2, 9, .inr (.inl f7))), ((a 2), .inl (T 1, 9, .inl (fi 0))), ((a 3), .inl (T 1, 9, .inl (fi 1))), ((a 4), .inl (T 1, 9, .inl (fi 2)))] H ∧ va_D A [((a 0), .inr (7, [.int (vi 1), .int (vi 2), .ref (a 1), .ref (a 2), .ref (a 3), .ref (a 4), .ref (ex 0), .ref (ex 1), .ref (ex 2), .ref (ex 3), .ref (ex 4), .ref (ex 5)])), ((a 1), .inl (T 2, 9, .inr (.inl f7))), ((a 2), .inl (T 1, 9, .inl (fi 0))), ((a 3), .inl (T 1, 9, .inl (fi 1))), ((a 4), .inl (T 1, 9, .inl (fi 2)))] := ⟨_, rfl, hP, hD⟩
    refine lv_aload_n hx hb dX7_addName_19 rfl (lv_at hl 0 rfl) ?_
    refine va_get (D := D) (ci := 7) (v := .ref (a 2)) (C := RX7) (T := TX7) (N := 12) hx hb htg inX7 hown hK.1 hP 0 rfl rfl 3 (by decide) (htg _ kw_170) (fun _ h9 => h9) rfl dX7_addName_20 ?_
    refine lv_aload_n hx hb dX7_addName_23 rfl (lv_at hl 0 rfl) ?_
    refine va_get (D := D) (ci := 7) (v := .int (vi 1)) (C := RX7) (T := TX7) (N := 12) hx hb htg inX7 hown hK.1 hP 0 rfl rfl 0 (by decide) (htg _ kw_158) (fun _ h9 => h9) rfl dX7_addName_24 ?_
    refine lv_iload_n hx hb dX7_addName_27 rfl (lv_at hl 2 rfl) ?_
    refine va_iast hx hb hK.1 hP hD hS 2 1 rfl rfl (vp_in_iff.mpr (by omega)) dX7_addName_28 (fun H locs hP hD hS => ?_)
    obtain ⟨f28, ef28, hP, hD⟩ : ∃ f7 : Nat → Int32, f7 = upd (fi 0) (vi 1).toNatClampNeg ((vi 0) : Int32) ∧ va_P D vwCl [((a 0), .inr (7, [.int (vi 1), .int (vi 2), .ref (a 1), .ref (a 2), .ref (a 3), .ref (a 4), .ref (ex 0), .ref (ex 1), .ref (ex 2), .ref (ex 3), .ref (ex 4), .ref (ex 5)])), ((a 1), .inl (T 2, 9, .inr (.inl f18))), ((a 2), .inl (T 1, 9, .inl f7)), ((a 3), .inl (T 1, 9, .inl (fi 1))), ((a 4), .inl (T 1, 9, .inl (fi 2)))] H ∧ va_D A [((a 0), .inr (7, [.int (vi 1), .int (vi 2), .ref (a 1), .ref (a 2), .ref (a 3), .ref (a 4), .ref (ex 0), .ref (ex 1), .ref (ex 2), .ref (ex 3), .ref (ex 4), .ref (ex 5)])), ((a 1), .inl (T 2, 9, .inr (.inl f18))), ((a 2), .inl (T 1, 9, .inl f7)), ((a 3), .inl (T 1, 9, .inl (fi 1))), ((a 4), .inl (T 1, 9, .inl (fi 2)))] := ⟨_, rfl, hP, hD⟩
    refine lv_aload_n hx hb dX7_addName_29 rfl (lv_at hl 0 rfl) ?_
    refine va_get (D := D) (ci := 7) (v := .ref (a 3)) (C := RX7) (T := TX7) (N := 12) hx hb htg inX7 hown hK.1 hP 0 rfl rfl 4 (by decide) (htg _ kw_174) (fun _ h9 => h9) rfl dX7_addName_30 ?_
    refine lv_aload_n hx hb dX7_addName_33 rfl (lv_at hl 0 rfl) ?_
    refine va_get (D := D) (ci := 7) (v := .int (vi 1)) (C := RX7) (T := TX7) (N := 12) hx hb htg inX7 hown hK.1 hP 0 rfl rfl 0 (by decide) (htg _ kw_158) (fun _ h9 => h9) rfl dX7_addName_34 ?_
    refine lv_iconst (v := (-1)) hx hb dX7_addName_37 (by decide) ?_
    refine va_iast hx hb hK.1 hP hD hS 3 1 rfl rfl (vp_in_iff.mpr (by omega)) dX7_addName_38 (fun H locs hP hD hS => ?_)
    obtain ⟨f38, ef38, hP, hD⟩ : ∃ f7 : Nat → Int32, f7 = upd (fi 1) (vi 1).toNatClampNeg ((-1) : Int32) ∧ va_P D vwCl [((a 0), .inr (7, [.int (vi 1), .int (vi 2), .ref (a 1), .ref (a 2), .ref (a 3), .ref (a 4), .ref (ex 0), .ref (ex 1), .ref (ex 2), .ref (ex 3), .ref (ex 4), .ref (ex 5)])), ((a 1), .inl (T 2, 9, .inr (.inl f18))), ((a 2), .inl (T 1, 9, .inl f28)), ((a 3), .inl (T 1, 9, .inl f7)), ((a 4), .inl (T 1, 9, .inl (fi 2)))] H ∧ va_D A [((a 0), .inr (7, [.int (vi 1), .int (vi 2), .ref (a 1), .ref (a 2), .ref (a 3), .ref (a 4), .ref (ex 0), .ref (ex 1), .ref (ex 2), .ref (ex 3), .ref (ex 4), .ref (ex 5)])), ((a 1), .inl (T 2, 9, .inr (.inl f18))), ((a 2), .inl (T 1, 9, .inl f28)), ((a 3), .inl (T 1, 9, .inl f7)), ((a 4), .inl (T 1, 9, .inl (fi 2)))] := ⟨_, rfl, hP, hD⟩
    refine lv_aload_n hx hb dX7_addName_39 rfl (lv_at hl 0 rfl) ?_
    refine va_get (D := D) (ci := 7) (v := .ref (a 4)) (C := RX7) (T := TX7) (N := 12) hx hb htg inX7 hown hK.1 hP 0 rfl rfl 5 (by decide) (htg _ kw_177) (fun _ h9 => h9) rfl dX7_addName_40 ?_
    refine lv_aload_n hx hb dX7_addName_43 rfl (lv_at hl 0 rfl) ?_
    refine va_get (D := D) (ci := 7) (v := .int (vi 1)) (C := RX7) (T := TX7) (N := 12) hx hb htg inX7 hown hK.1 hP 0 rfl rfl 0 (by decide) (htg _ kw_158) (fun _ h9 => h9) rfl dX7_addName_44 ?_
    refine lv_iconst (v := (-1)) hx hb dX7_addName_47 (by decide) ?_
    refine va_iast hx hb hK.1 hP hD hS 4 1 rfl rfl (vp_in_iff.mpr (by omega)) dX7_addName_48 (fun H locs hP hD hS => ?_)
    obtain ⟨f48, ef48, hP, hD⟩ : ∃ f7 : Nat → Int32, f7 = upd (fi 2) (vi 1).toNatClampNeg ((-1) : Int32) ∧ va_P D vwCl [((a 0), .inr (7, [.int (vi 1), .int (vi 2), .ref (a 1), .ref (a 2), .ref (a 3), .ref (a 4), .ref (ex 0), .ref (ex 1), .ref (ex 2), .ref (ex 3), .ref (ex 4), .ref (ex 5)])), ((a 1), .inl (T 2, 9, .inr (.inl f18))), ((a 2), .inl (T 1, 9, .inl f28)), ((a 3), .inl (T 1, 9, .inl f38)), ((a 4), .inl (T 1, 9, .inl f7))] H ∧ va_D A [((a 0), .inr (7, [.int (vi 1), .int (vi 2), .ref (a 1), .ref (a 2), .ref (a 3), .ref (a 4), .ref (ex 0), .ref (ex 1), .ref (ex 2), .ref (ex 3), .ref (ex 4), .ref (ex 5)])), ((a 1), .inl (T 2, 9, .inr (.inl f18))), ((a 2), .inl (T 1, 9, .inl f28)), ((a 3), .inl (T 1, 9, .inl f38)), ((a 4), .inl (T 1, 9, .inl f7))] := ⟨_, rfl, hP, hD⟩
    refine lv_aload_n hx hb dX7_addName_49 rfl (lv_at hl 0 rfl) ?_
    refine lv_dup hx hb dX7_addName_50 rfl ?_
    refine va_get (D := D) (ci := 7) (v := .int (vi 1)) (C := RX7) (T := TX7) (N := 12) hx hb htg inX7 hown hK.1 hP 0 rfl rfl 0 (by decide) (htg _ kw_158) (fun _ h9 => h9) rfl dX7_addName_51 ?_
    refine lv_iconst (v := 1) hx hb dX7_addName_54 (by decide) ?_
    refine lv_iadd hx hb dX7_addName_55 ?_
    refine lv_topi (fun z55 ez55 => ?_)
    have tz55 : z55.toInt = (vi 1).toInt + 1 := by rw [ez55]; exact xadd rfl (by decide) (by omega) (by omega)
    refine va_put (D := D) (ci := 7) (v := .int z55) (ty := .int) (C := RX7) (T := TX7) (N := 12) hx hb htg inX7 tyX7 tyX7_ok nmX7 hown hK.1 hP hD hS 0 rfl rfl 0 (by decide) (htg _ kw_158) (fun _ h9 => h9) rfl (by decide +kernel) rfl rfl (Nat.le_of_ble_eq_true rfl) dX7_addName_56 (fun H locs hP hD hS => ?_)
    obtain ⟨hP, hD⟩ := (show xPD D A [((a 0), .inr (7, [.int z55, .int (vi 2), .ref (a 1), .ref (a 2), .ref (a 3), .ref (a 4), .ref (ex 0), .ref (ex 1), .ref (ex 2), .ref (ex 3), .ref (ex 4), .ref (ex 5)])), ((a 1), .inl (T 2, 9, .inr (.inl f18))), ((a 2), .inl (T 1, 9, .inl f28)), ((a 3), .inl (T 1, 9, .inl f38)), ((a 4), .inl (T 1, 9, .inl f48))] H from ⟨hP, hD⟩)
    have hP9 := hP.sub (ws' := [((a 0), .inr (7, [.int z55, .int (vi 2), .ref (a 1), .ref (a 2), .ref (a 3), .ref (a 4), .ref (ex 0), .ref (ex 1), .ref (ex 2), .ref (ex 3), .ref (ex 4), .ref (ex 5)])), ((a 1), .inl (T 2, 9, .inr (.inl f18))), ((a 2), .inl (T 1, 9, .inl f28)), ((a 3), .inl (T 1, 9, .inl f38)), ((a 4), .inl (T 1, 9, .inl f48))]) [0, 1, 2, 3, 4] rfl
    have hD9 := hD.sub (ws' := [((a 0), .inr (7, [.int z55, .int (vi 2), .ref (a 1), .ref (a 2), .ref (a 3), .ref (a 4), .ref (ex 0), .ref (ex 1), .ref (ex 2), .ref (ex 3), .ref (ex 4), .ref (ex 5)])), ((a 1), .inl (T 2, 9, .inr (.inl f18))), ((a 2), .inl (T 1, 9, .inl f28)), ((a 3), .inl (T 1, 9, .inl f38)), ((a 4), .inl (T 1, 9, .inl f48))]) [0, 1, 2, 3, 4] (by decide +kernel) rfl
    rw [hQ]
    exact W.vret hx hb hr (fun t ht hW => ⟨⟨(0 : Int32), rfl, trivial, xf [f28, f38, f48], xh [f18], xv [z55], xl [], by rw [ht]; exact hP9, hD9, ⟨(by show 0 ≤ z55.toInt ∧ z55.toInt ≤ 9; omega), (by unfold R_X7_addName; exact (fun Q9 k9_0 k9_1 => k9_1 hp0 hp1 c6 f18 ef18 f28 ef28 f38 ef38 f48 ef48 z55 ez55 tz55 rfl rfl rfl rfl rfl)), trivial⟩⟩, hS.F ht⟩) hS.2.2 dX7_addName_59
abbrev pre_X8_readNameLine (T : Nat → ClassId) (a ex : Nat → Nat) (fi : Nat → Nat → Int32) (fl : Nat → Nat → Int64) (vi : Nat → Int32) (vl : Nat → Int64) : va_W := [((a 0), .inr (8, [.ref (a 2), .ref (a 1), .int (vi 0)])), ((a 1), .inr (7, [.int (vi 1), .int (vi 2), .ref (a 5), .ref (a 7), .ref (a 8), .ref (a 9), .ref (a 6), .ref (ex 0), .ref (ex 1), .ref (ex 2), .ref (ex 3), .ref (ex 4)])), ((a 2), .inr (6, [.ref (a 3), .ref (a 4), .int (vi 3), .int (vi 4), .int (vi 5), .int (vi 6), .int (vi 7), .int (vi 8), .long (vl 0), .int (vi 9), .int (vi 10), .int (vi 11), .int (vi 12), .int (vi 13)])), ((a 3), .inl (T 0, 940, .inl (fi 0))), ((a 4), .inl (T 2, 27, .inr (.inl (fl 0)))), ((a 5), .inl (T 2, 9, .inr (.inl (fl 1)))), ((a 6), .inl (T 2, 9, .inr (.inl (fl 2)))), ((a 7), .inl (T 1, 9, .inl (fi 1))), ((a 8), .inl (T 1, 9, .inl (fi 2))), ((a 9), .inl (T 1, 9, .inl (fi 3)))]
set_option maxHeartbeats 8000000 in
set_option maxRecDepth 100000 in
theorem c_X8_readNameLine (l : Launch) (D : va_G) (T : Nat → ClassId) (a ex : Nat → Nat) (fi : Nat → Nat → Int32) (fl : Nat → Nat → Int64) (vi : Nat → Int32) (vl : Nat → Int64) (sz : Nat) (hp0 : 0 ≤ (vi 1).toInt ∧ (vi 1).toInt ≤ 9) (hp1 : 0 ≤ (vi 2).toInt ∧ (vi 2).toInt ≤ 9) (hp2 : 0 ≤ (vi 4).toInt ∧ (vi 4).toInt ≤ 940) (hp3 : 0 ≤ (vi 5).toInt ∧ (vi 5).toInt ≤ 940) (hp4 : 0 ≤ (vi 6).toInt ∧ (vi 6).toInt ≤ 940) (hp5 : 0 ≤ (vi 8).toInt ∧ (vi 8).toInt ≤ 940) (hp6 : 0 ≤ (vi 13).toInt ∧ (vi 13).toInt ≤ 940) : Met l yX8_readNameLine (xw yX8_readNameLine cX8_readNameLine 3 (some .boolean)) ({ frames := 3, cells := 0, slots := 0, locals := 79 }) (xP D T [.ref (a 0)] sz (pre_X8_readNameLine T a ex fi fl vi vl)) (va_Qi (fun r u => r = u) (xC D (va_A (pre_X8_readNameLine T a ex fi fl vi vl) sz) (fun fj fm vj vm => [((a 0), .inr (8, [.ref (a 2), .ref (a 1), .int (vi 0)])), ((a 1), .inr (7, [.int (vj 8), .int (vi 2), .ref (a 5), .ref (a 7), .ref (a 8), .ref (a 9), .ref (a 6), .ref (ex 0), .ref (ex 1), .ref (ex 2), .ref (ex 3), .ref (ex 4)])), ((a 2), .inr (6, [.ref (a 3), .ref (a 4), .int (vi 3), .int (vi 4), .int (vi 5), .int (vj 4), .int (vj 0), .int (vj 1), .long (vm 0), .int (vj 3), .int (vj 2), .int (vj 7), .int (vj 5), .int (vj 6)])), ((a 3), .inl (T 0, 940, .inl (fi 0))), ((a 4), .inl (T 2, 27, .inr (.inl (fl 0)))), ((a 5), .inl (T 2, 9, .inr (.inl (fm 0)))), ((a 6), .inl (T 2, 9, .inr (.inl (fl 2)))), ((a 7), .inl (T 1, 9, .inl (fj 0))), ((a 8), .inl (T 1, 9, .inl (fj 1))), ((a 9), .inl (T 1, 9, .inl (fj 2)))]) (fun (r : Int32) (fj : Nat → Nat → Int32) (fm : Nat → Nat → Int64) (vj : Nat → Int32) (vm : Nat → Int64) => ((r = 1 ∧ (True)) ∨ (r = 0 ∧ (True))) ∧ (0 ≤ (vj 8).toInt ∧ (vj 8).toInt ≤ 9) ∧ (0 ≤ (vj 4).toInt ∧ (vj 4).toInt ≤ 940) ∧ (0 ≤ (vj 1).toInt ∧ (vj 1).toInt ≤ 940) ∧ (0 ≤ (vj 6).toInt ∧ (vj 6).toInt ≤ 940) ∧ (r.toInt = 1 → (vj 5).toInt = (vi 12).toInt) ∧ R_X8_readNameLine fi fl vi vl r fj fm vj vm ∧ True)) (va_A (pre_X8_readNameLine T a ex fi fl vi vl) sz)) 0 0 (va_A (pre_X8_readNameLine T a ex fi fl vi vl) sz) := by
  refine xofW (cc := cX8_readNameLine) (maxL := 3) (ret := (some .boolean)) (by decide) rfl ?_
  intro p e s m args below meth c s₁ R Q hR hQ B hml hv
  obtain ⟨rfl, hsz, hP, hK, hD0⟩ := hv
  have hx := B.exec
  have hb := B.bytes
  have hr := B.returns
  have hts := atoms_spec (ws := xw yX8_readNameLine cX8_readNameLine 3 (some .boolean)) B.pre
  have htg : ∀ w ∈ xg, w.before _ s = true := fun w h => hts w (List.mem_cons_of_mem _ h)
  have hown : s.vm.findClass RX8 = some m.cls := findClass_of_methodNamed B.named
  have hlocks := B.notSynchronized
  subst hsz
  have hD := hD0.self (sz := s.heap.size)
  generalize hAe : va_A (pre_X8_readNameLine T a ex fi fl vi vl) s.heap.size = A at hD hQ
  have hA : ∀ q : Nat, s.heap.size ≤ q → A q := fun q h => by rw [← hAe]; exact Or.inr h
  have hS : va_S A s.heap s.heap [] := va_S.rf
  replace hP : va_P D vwCl [((a 0), .inr (8, [.ref (a 2), .ref (a 1), .int (vi 0)])), ((a 1), .inr (7, [.int (vi 1), .int (vi 2), .ref (a 5), .ref (a 7), .ref (a 8), .ref (a 9), .ref (a 6), .ref (ex 0), .ref (ex 1), .ref (ex 2), .ref (ex 3), .ref (ex 4)])), ((a 2), .inr (6, [.ref (a 3), .ref (a 4), .int (vi 3), .int (vi 4), .int (vi 5), .int (vi 6), .int (vi 7), .int (vi 8), .long (vl 0), .int (vi 9), .int (vi 10), .int (vi 11), .int (vi 12), .int (vi 13)])), ((a 3), .inl (T 0, 940, .inl (fi 0))), ((a 4), .inl (T 2, 27, .inr (.inl (fl 0)))), ((a 5), .inl (T 2, 9, .inr (.inl (fl 1)))), ((a 6), .inl (T 2, 9, .inr (.inl (fl 2)))), ((a 7), .inl (T 1, 9, .inl (fi 1))), ((a 8), .inl (T 1, 9, .inl (fi 2))), ((a 9), .inl (T 1, 9, .inl (fi 3)))] s.heap := hP
  replace hD : va_D A [((a 0), .inr (8, [.ref (a 2), .ref (a 1), .int (vi 0)])), ((a 1), .inr (7, [.int (vi 1), .int (vi 2), .ref (a 5), .ref (a 7), .ref (a 8), .ref (a 9), .ref (a 6), .ref (ex 0), .ref (ex 1), .ref (ex 2), .ref (ex 3), .ref (ex 4)])), ((a 2), .inr (6, [.ref (a 3), .ref (a 4), .int (vi 3), .int (vi 4), .int (vi 5), .int (vi 6), .int (vi 7), .int (vi 8), .long (vl 0), .int (vi 9), .int (vi 10), .int (vi 11), .int (vi 12), .int (vi 13)])), ((a 3), .inl (T 0, 940, .inl (fi 0))), ((a 4), .inl (T 2, 27, .inr (.inl (fl 0)))), ((a 5), .inl (T 2, 9, .inr (.inl (fl 1)))), ((a 6), .inl (T 2, 9, .inr (.inl (fl 2)))), ((a 7), .inl (T 1, 9, .inl (fi 1))), ((a 8), .inl (T 1, 9, .inl (fi 2))), ((a 9), .inl (T 1, 9, .inl (fi 3)))] := hD
  have hl := lv_entry ([.ref (a 0)]) (n := 3) (Nat.le_of_ble_eq_true rfl)
  rw [lg_entry_eq]
  generalize (lg_sl ([.ref (a 0)]) ++ List.replicate (3 - (lg_sl ([.ref (a 0)])).length) Slot.unset).toArray = ls at hl ⊢
  replace hl : lv_has ls 3 [(0, .ref (a 0))] := hl
  refine lv_aload_n hx hb dX8_readNameLine_0 rfl (lv_at hl 0 rfl) ?_
  refine va_get (D := D) (ci := 8) (v := .ref (a 1)) (C := RX8) (T := TX8) (N := 3) hx hb htg inX8 hown hK.1 hP 0 rfl rfl 1 (by decide) (htg _ kw_229) (fun _ h9 => h9) rfl dX8_readNameLine_1 ?_
  refine va_getN (D := D) (ci := 7) (v := .int (vi 1)) (C := RX7) (T := TX7) (N := 12) hx hb htg inX7 hown hK.1 hP 1 rfl rfl 0 (by decide) (va_Nw.use rfl (hK.2.1 _ kn_161)) (fun _ h9 => h9) rfl dX8_readNameLine_4 ?_
  refine lv_bipush (v := 9) hx hb dX8_readNameLine_7 (by decide) ?_
  refine lv_icmp_lt (tgt := 21) hx hb dX8_readNameLine_9 (by decide) (fun c9 => ?_) (fun c9 => ?_)
  · have c9 := xlt (k := 9) (by decide) c9
    refine lv_aload_n hx hb dX8_readNameLine_21 rfl (lv_at hl 0 rfl) ?_
    refine va_get (D := D) (ci := 8) (v := .ref (a 2)) (C := RX8) (T := TX8) (N := 3) hx hb htg inX8 hown hK.1 hP 0 rfl rfl 0 (by decide) (htg _ kw_228) (fun _ h9 => h9) rfl dX8_readNameLine_22 ?_
    obtain ⟨hC9, hPc, hDc, hFc⟩ := xcut (wc := (pre_X6_advance T (xa [(a 2), (a 3)]) (xa [(a 4)]) (xf [(fi 0)]) (xh []) (xv [(vi 3), (vi 4), (vi 5), (vi 6), (vi 7), (vi 8), (vi 9), (vi 10), (vi 11), (vi 12), (vi 13)]) (xl [(vl 0)]))) hP hD hS hA [2, 3] (by decide) rfl
    refine va_callv (va_runVN (As := []) (rest := []) ⟨hx, hb, hml, hown, htg⟩ (c_X6_advance l D T (xa [(a 2), (a 3)]) (xa [(a 4)]) (xf [(fi 0)]) (xh []) (xv [(vi 3), (vi 4), (vi 5), (vi 6), (vi 7), (vi 8), (vi 9), (vi 10), (vi 11), (vi 12), (vi 13)]) (xl [(vl 0)]) s.heap.size hp2 hp3 hp4 hp5 hp6) ⟨va_cnB 0 htg (xg_ok kw_577) rfl rfl rfl (hK.2.1 _ kn_595) (htg _ kw_2) (by decide +kernel) ⟨by rw [hR]; exact Nat.le_of_ble_eq_true rfl, by rw [hR]; exact Nat.le_of_ble_eq_true rfl⟩, htg _ kw_576, htg _ ks_6⟩ (xpreV hK hPc hDc (va_recv hK.1 hPc (ci := 6) (q0 := 0) rfl rfl)) rfl rfl hl.1 rfl (lv_room (Nat.le_of_ble_eq_true rfl)) dX8_readNameLine_25 ⟨by rw [hR]; exact Nat.le_of_ble_eq_true rfl, by rw [hR]; exact Nat.le_of_ble_eq_true rfl⟩) hS (fun q _ h => hFc q h) hFc (fun u9 t H1 locs ht hvm hw hB hz1 hk1 hS => ?_)
    obtain ⟨fik, flk, vik, vlk, hP1, hD1, hG⟩ := hB
    rw [ht] at hP1
    obtain ⟨hP, hD⟩ := va_join (wr := [((a 0), .inr (8, [.ref (a 2), .ref (a 1), .int (vi 0)])), ((a 1), .inr (7, [.int (vi 1), .int (vi 2), .ref (a 5), .ref (a 7), .ref (a 8), .ref (a 9), .ref (a 6), .ref (ex 0), .ref (ex 1), .ref (ex 2), .ref (ex 3), .ref (ex 4)])), ((a 4), .inl (T 2, 27, .inr (.inl (fl 0)))), ((a 5), .inl (T 2, 9, .inr (.inl (fl 1)))), ((a 6), .inl (T 2, 9, .inr (.inl (fl 2)))), ((a 7), .inl (T 1, 9, .inl (fi 1))), ((a 8), .inl (T 1, 9, .inl (fi 2))), ((a 9), .inl (T 1, 9, .inl (fi 3)))]) (w1 := [((a 2), .inr (6, [.ref (a 3), .ref (a 4), .int (vi 3), .int (vi 4), .int (vi 5), .int (vik 4), .int (vik 0), .int (vik 1), .long (vlk 0), .int (vik 3), .int (vik 2), .int (vi 11), .int (vi 12), .int (vi 13)])), ((a 3), .inl (T 0, 940, .inl (fi 0)))]) hP hD [2, 3] [0, 1, 4, 5, 6, 7, 8, 9] hC9 rfl (by decide) (by decide) hk1 hFc hP1 hD1
    clear hPc hDc hFc hP1 hD1 hk1 hz1 hvm ht hC9
    generalize H1 = H at hP hS ⊢
    obtain ⟨hP, hD⟩ := (show xPD D A [((a 0), .inr (8, [.ref (a 2), .ref (a 1), .int (vi 0)])), ((a 1), .inr (7, [.int (vi 1), .int (vi 2), .ref (a 5), .ref (a 7), .ref (a 8), .ref (a 9), .ref (a 6), .ref (ex 0), .ref (ex 1), .ref (ex 2), .ref (ex 3), .ref (ex 4)])), ((a 4), .inl (T 2, 27, .inr (.inl (fl 0)))), ((a 5), .inl (T 2, 9, .inr (.inl (fl 1)))), ((a 6), .inl (T 2, 9, .inr (.inl (fl 2)))), ((a 7), .inl (T 1, 9, .inl (fi 1))), ((a 8), .inl (T 1, 9, .inl (fi 2))), ((a 9), .inl (T 1, 9, .inl (fi 3))), ((a 2), .inr (6, [.ref (a 3), .ref (a 4), .int (vi 3), .int (vi 4), .int (vi 5), .int (vik 4), .int (vik 0), .int (vik 1), .long (vlk 0), .int (vik 3), .int (vik 2), .int (vi 11), .int (vi 12), .int (vi 13)])), ((a 3), .inl (T 0, 940, .inl (fi 0)))] H from ⟨hP, hD⟩)
    obtain ⟨uk, eu9⟩ : ∃ z, z = u9 := ⟨_, rfl⟩
    subst eu9
    obtain ⟨gk_0, gk_1, gk_2, -⟩ := hG
    replace gk_2 : ∀ n m : Nat, (vi 4).toInt = (n : Int) → (vi 5).toInt = (m : Int) → (vi 6).toInt ≤ (vi 4).toInt → CC (trn (fi 0) n) n m ((vi 6).toInt).toNat (vi 4) (vi 5) (vik 0) (vik 1) (vik 4) (vlk 0) (vik 3) (vik 2) := (P_X6_advance gk_2 : _)
    replace gk_0 : 0 ≤ (vik 4).toInt ∧ (vik 4).toInt ≤ 940 := gk_0
    replace gk_1 : 0 ≤ (vik 1).toInt ∧ (vik 1).toInt ≤ 940 := gk_1
    refine lv_aload_n hx hb dX8_readNameLine_28 rfl (lv_at hl 0 rfl) ?_
    refine va_get (D := D) (ci := 8) (v := .ref (a 2)) (C := RX8) (T := TX8) (N := 3) hx hb htg inX8 hown hK.1 hP 0 rfl rfl 0 (by decide) (htg _ kw_228) (fun _ h9 => h9) rfl dX8_readNameLine_29 ?_
    refine va_getN (D := D) (ci := 6) (v := .long (vlk 0)) (C := RX6) (T := TX6) (N := 14) hx hb htg inX6 hown hK.1 hP 8 rfl rfl 8 (by decide) (va_Nw.use rfl (hK.2.1 _ kn_107)) (fun _ h9 => h9) rfl dX8_readNameLine_32 ?_
    refine lv_lstore_n (lv' := [(1, .long (vlk 0)), (0, .ref (a 0))]) hx hb dX8_readNameLine_35 rfl hl (by decide) rfl (fun ls hl => ?_)
    refine lv_aload_n hx hb dX8_readNameLine_36 rfl (lv_at hl 1 rfl) ?_
    obtain ⟨hC9, hPc, hDc, hFc⟩ := xcut (wc := (pre_X8_passNewWord T (xa [(a 0), (a 2), (a 4), (a 1), (a 5), (a 6), (a 3)]) (xa [(a 7), (a 8), (a 9), (ex 0), (ex 1), (ex 2), (ex 3), (ex 4)]) (xf [(fi 0)]) (xh [(fl 0), (fl 1), (fl 2)]) (xv [(vi 0), (vi 3), (vi 4), (vi 5), (vik 4), (vik 0), (vik 1), (vik 3), (vik 2), (vi 11), (vi 12), (vi 13), (vi 1), (vi 2)]) (xl [(vlk 0)]))) hP hD hS hA [0, 8, 2, 1, 3, 4, 9] (by decide) rfl
    refine va_calli (va_runV (As := []) (rest := []) ⟨hx, hb, hml, hown, htg⟩ (c_X8_passNewWord l D T (xa [(a 0), (a 2), (a 4), (a 1), (a 5), (a 6), (a 3)]) (xa [(a 7), (a 8), (a 9), (ex 0), (ex 1), (ex 2), (ex 3), (ex 4)]) (xf [(fi 0)]) (xh [(fl 0), (fl 1), (fl 2)]) (xv [(vi 0), (vi 3), (vi 4), (vi 5), (vik 4), (vik 0), (vik 1), (vik 3), (vik 2), (vi 11), (vi 12), (vi 13), (vi 1), (vi 2)]) (xl [(vlk 0)]) H.size hp2 hp3 gk_0 gk_1 hp6 hp0 hp1) ⟨callB_of 0 htg (xg_ok kw_599) rfl rfl rfl (htg _ kw_8) (htg _ kw_596) (by decide +kernel) ⟨by rw [hR]; exact Nat.le_of_ble_eq_true rfl, by rw [hR]; exact Nat.le_of_ble_eq_true rfl⟩, htg _ kw_598, htg _ ks_11⟩ (xpreV hK hPc hDc (va_recv hK.1 hPc (ci := 8) (q0 := 0) rfl rfl)) rfl rfl hl.1 rfl (lv_room (Nat.le_of_ble_eq_true rfl)) dX8_readNameLine_37 ⟨by rw [hR]; exact Nat.le_of_ble_eq_true rfl, by rw [hR]; exact Nat.le_of_ble_eq_true rfl⟩) hS (fun q _ h => hFc q h) hFc (fun r9 u9 t H1 locs ht hvm hw hB hz1 hk1 hS => ?_)
    subst hw
    obtain ⟨fik_1, flk_1, vik_1, vlk_1, hP1, hD1, hG⟩ := hB
    rw [ht] at hP1
    obtain ⟨hP, hD⟩ := va_join (wr := [((a 7), .inl (T 1, 9, .inl (fi 1))), ((a 8), .inl (T 1, 9, .inl (fi 2))), ((a 9), .inl (T 1, 9, .inl (fi 3)))]) (w1 := [((a 0), .inr (8, [.ref (a 2), .ref (a 1), .int (vi 0)])), ((a 2), .inr (6, [.ref (a 3), .ref (a 4), .int (vi 3), .int (vi 4), .int (vi 5), .int (vik_1 6), .int (vik_1 2), .int (vik_1 3), .long (vlk_1 0), .int (vik_1 5), .int (vik_1 4), .int (vi 11), .int (vik_1 0), .int (vik_1 1)])), ((a 4), .inl (T 2, 27, .inr (.inl (fl 0)))), ((a 1), .inr (7, [.int (vi 1), .int (vi 2), .ref (a 5), .ref (a 7), .ref (a 8), .ref (a 9), .ref (a 6), .ref (ex 0), .ref (ex 1), .ref (ex 2), .ref (ex 3), .ref (ex 4)])), ((a 5), .inl (T 2, 9, .inr (.inl (fl 1)))), ((a 6), .inl (T 2, 9, .inr (.inl (fl 2)))), ((a 3), .inl (T 0, 940, .inl (fi 0)))]) hP hD [0, 8, 2, 1, 3, 4, 9] [5, 6, 7] hC9 rfl (by decide) (by decide) hk1 hFc hP1 hD1
    obtain ⟨rk_1, er9⟩ : ∃ z, z = r9 := ⟨_, rfl⟩
    subst er9
    clear hPc hDc hFc hP1 hD1 hk1 hz1 hvm ht hC9
    generalize H1 = H at hP hS ⊢
    obtain ⟨hP, hD⟩ := (show xPD D A [((a 7), .inl (T 1, 9, .inl (fi 1))), ((a 8), .inl (T 1, 9, .inl (fi 2))), ((a 9), .inl (T 1, 9, .inl (fi 3))), ((a 0), .inr (8, [.ref (a 2), .ref (a 1), .int (vi 0)])), ((a 2), .inr (6, [.ref (a 3), .ref (a 4), .int (vi 3), .int (vi 4), .int (vi 5), .int (vik_1 6), .int (vik_1 2), .int (vik_1 3), .long (vlk_1 0), .int (vik_1 5), .int (vik_1 4), .int (vi 11), .int (vik_1 0), .int (vik_1 1)])), ((a 4), .inl (T 2, 27, .inr (.inl (fl 0)))), ((a 1), .inr (7, [.int (vi 1), .int (vi 2), .ref (a 5), .ref (a 7), .ref (a 8), .ref (a 9), .ref (a 6), .ref (ex 0), .ref (ex 1), .ref (ex 2), .ref (ex 3), .ref (ex 4)])), ((a 5), .inl (T 2, 9, .inr (.inl (fl 1)))), ((a 6), .inl (T 2, 9, .inr (.inl (fl 2)))), ((a 3), .inl (T 0, 940, .inl (fi 0)))] H from ⟨hP, hD⟩)
    obtain ⟨gk_1_0, gk_1_1, gk_1_2, gk_1_3, gk_1_4, gk_1_5, -⟩ := hG
    replace gk_1_5 : ∀ n m t : Nat, CC (trn (fi 0) n) n m t (vi 4) (vi 5) (vik 0) (vik 1) (vik 4) (vlk 0) (vik 3) (vik 2) → ∀ (H : Nat → Int) (N : Nat → Int64), (RWn (ownB (fl 0)) (vi 1) (fl 1) H N) → (RWs (ownB (fl 0)) (vi 2) (fl 2) H N) → (rk_1.toInt = 1 ∧ (fNew (trn (fi 0) n) n m (ownB (fl 0)) H N t) = 0 ∧ (wMay (trn (fi 0) n) n m (ownB (fl 0)) t) ∧ CC (trn (fi 0) n) n m (sX (trn (fi 0) n) n m t) (vi 4) (vi 5) (vik_1 2) (vik_1 3) (vik_1 6) (vlk_1 0) (vik_1 5) (vik_1 4)) ∨ (rk_1.toInt = 0 ∧ ¬ (fNew (trn (fi 0) n) n m (ownB (fl 0)) H N t) = 0 ∧ (vik_1 0).toInt = (fNew (trn (fi 0) n) n m (ownB (fl 0)) H N t) ∧ (vik_1 1).toInt = ((sPn (trn (fi 0) n) n m t) : Int)) := (P_X8_passNewWord gk_1_5 : _)
    replace gk_1_1 : 0 ≤ (vik_1 6).toInt ∧ (vik_1 6).toInt ≤ 940 := gk_1_1
    replace gk_1_2 : 0 ≤ (vik_1 3).toInt ∧ (vik_1 3).toInt ≤ 940 := gk_1_2
    replace gk_1_3 : 0 ≤ (vik_1 1).toInt ∧ (vik_1 1).toInt ≤ 940 := gk_1_3
    replace gk_1_4 : rk_1.toInt = 1 → (vik_1 0).toInt = (vi 12).toInt := gk_1_4
    rcases (show (rk_1 = 1 ∧ (True)) ∨ (rk_1 = 0 ∧ (True)) from gk_1_0) with ⟨er9, gk_1_0⟩ | ⟨er9, gk_1_0⟩
    · refine xz_i 1 er9 ?_
      have tb : rk_1.toInt = 1 := by rw [er9]; decide
      refine lv_if_eq (tgt := 56) hx hb dX8_readNameLine_40 (by decide) (fun c => absurd c (by decide)) (fun _ => ?_)
      refine lv_aload_n hx hb dX8_readNameLine_43 rfl (lv_at hl 1 rfl) ?_
      refine va_get (D := D) (ci := 8) (v := .ref (a 2)) (C := RX8) (T := TX8) (N := 3) hx hb htg inX8 hown hK.1 hP 3 rfl rfl 0 (by decide) (htg _ kw_228) (fun _ h9 => h9) rfl dX8_readNameLine_44 ?_
      refine lv_iconst (v := 0) hx hb dX8_readNameLine_47 (by decide) ?_
      refine lv_bipush (v := 99) hx hb dX8_readNameLine_48 (by decide) ?_
      obtain ⟨hC9, hPc, hDc, hFc⟩ := xcut (wc := (pre_X6_passNumber T (xa [(a 2), (a 3)]) (xa [(a 4)]) (xf [(fi 0)]) (xh []) (xv [0, 99, (vi 3), (vi 4), (vi 5), (vik_1 6), (vik_1 2), (vik_1 3), (vik_1 5), (vik_1 4), (vi 11), (vik_1 0), (vik_1 1)]) (xl [(vlk_1 0)]))) hP hD hS hA [4, 9] (by decide) rfl
      refine va_calli (va_runVN (As := [.int 0, .int 99]) (rest := []) ⟨hx, hb, hml, hown, htg⟩ (c_X6_passNumber l D T (xa [(a 2), (a 3)]) (xa [(a 4)]) (xf [(fi 0)]) (xh []) (xv [0, 99, (vi 3), (vi 4), (vi 5), (vik_1 6), (vik_1 2), (vik_1 3), (vik_1 5), (vik_1 4), (vi 11), (vik_1 0), (vik_1 1)]) (xl [(vlk_1 0)]) H.size hp2 hp3 gk_1_1 gk_1_2 gk_1_3) ⟨va_cnB 2 htg (xg_ok kw_622) rfl rfl rfl (hK.2.1 _ kn_619) (htg _ kw_2) (by decide +kernel) ⟨by rw [hR]; exact Nat.le_of_ble_eq_true rfl, by rw [hR]; exact Nat.le_of_ble_eq_true rfl⟩, htg _ kw_621, htg _ ks_16⟩ (xpreV hK hPc hDc (va_recv hK.1 hPc (ci := 6) (q0 := 0) rfl rfl)) rfl rfl hl.1 rfl (lv_room (Nat.le_of_ble_eq_true rfl)) dX8_readNameLine_50 ⟨by rw [hR]; exact Nat.le_of_ble_eq_true rfl, by rw [hR]; exact Nat.le_of_ble_eq_true rfl⟩) hS (fun q _ h => hFc q h) hFc (fun r9 u9 t H1 locs ht hvm hw hB hz1 hk1 hS => ?_)
      subst hw
      obtain ⟨fik_2, flk_2, vik_2, vlk_2, hP1, hD1, hG⟩ := hB
      rw [ht] at hP1
      obtain ⟨hP, hD⟩ := va_join (wr := [((a 7), .inl (T 1, 9, .inl (fi 1))), ((a 8), .inl (T 1, 9, .inl (fi 2))), ((a 9), .inl (T 1, 9, .inl (fi 3))), ((a 0), .inr (8, [.ref (a 2), .ref (a 1), .int (vi 0)])), ((a 4), .inl (T 2, 27, .inr (.inl (fl 0)))), ((a 1), .inr (7, [.int (vi 1), .int (vi 2), .ref (a 5), .ref (a 7), .ref (a 8), .ref (a 9), .ref (a 6), .ref (ex 0), .ref (ex 1), .ref (ex 2), .ref (ex 3), .ref (ex 4)])), ((a 5), .inl (T 2, 9, .inr (.inl (fl 1)))), ((a 6), .inl (T 2, 9, .inr (.inl (fl 2))))]) (w1 := [((a 2), .inr (6, [.ref (a 3), .ref (a 4), .int (vi 3), .int (vi 4), .int (vi 5), .int (vik_2 7), .int (vik_2 3), .int (vik_2 4), .long (vlk_2 0), .int (vik_2 6), .int (vik_2 5), .int (vik_2 2), .int (vik_2 0), .int (vik_2 1)])), ((a 3), .inl (T 0, 940, .inl (fi 0)))]) hP hD [4, 9] [0, 1, 2, 3, 5, 6, 7, 8] hC9 rfl (by decide) (by decide) hk1 hFc hP1 hD1
      obtain ⟨rk_2, er9⟩ : ∃ z, z = r9 := ⟨_, rfl⟩
      subst er9
      clear hPc hDc hFc hP1 hD1 hk1 hz1 hvm ht hC9
      generalize H1 = H at hP hS ⊢
      obtain ⟨hP, hD⟩ := (show xPD D A [((a 7), .inl (T 1, 9, .inl (fi 1))), ((a 8), .inl (T 1, 9, .inl (fi 2))), ((a 9), .inl (T 1, 9, .inl (fi 3))), ((a 0), .inr (8, [.ref (a 2), .ref (a 1), .int (vi 0)])), ((a 4), .inl (T 2, 27, .inr (.inl (fl 0)))), ((a 1), .inr (7, [.int (vi 1), .int (vi 2), .ref (a 5), .ref (a 7), .ref (a 8), .ref (a 9), .ref (a 6), .ref (ex 0), .ref (ex 1), .ref (ex 2), .ref (ex 3), .ref (ex 4)])), ((a 5), .inl (T 2, 9, .inr (.inl (fl 1)))), ((a 6), .inl (T 2, 9, .inr (.inl (fl 2)))), ((a 2), .inr (6, [.ref (a 3), .ref (a 4), .int (vi 3), .int (vi 4), .int (vi 5), .int (vik_2 7), .int (vik_2 3), .int (vik_2 4), .long (vlk_2 0), .int (vik_2 6), .int (vik_2 5), .int (vik_2 2), .int (vik_2 0), .int (vik_2 1)])), ((a 3), .inl (T 0, 940, .inl (fi 0)))] H from ⟨hP, hD⟩)
      obtain ⟨gk_2_0, gk_2_1, gk_2_2, gk_2_3, gk_2_4, gk_2_5, -⟩ := hG
      replace gk_2_5 : ∀ n m t : Nat, CC (trn (fi 0) n) n m t (vi 4) (vi 5) (vik_1 2) (vik_1 3) (vik_1 6) (vlk_1 0) (vik_1 5) (vik_1 4) → (rk_2.toInt = 1 ∧ (fNum (trn (fi 0) n) n m (0 : Int32).toInt (99 : Int32).toInt t) = 0 ∧ (vik_2 2).toInt = (sU (trn (fi 0) n) n m t) ∧ (sK (trn (fi 0) n) n m t) = 2 ∧ (0 : Int32).toInt ≤ (sU (trn (fi 0) n) n m t) ∧ (sU (trn (fi 0) n) n m t) ≤ (99 : Int32).toInt ∧ CC (trn (fi 0) n) n m (sX (trn (fi 0) n) n m t) (vi 4) (vi 5) (vik_2 3) (vik_2 4) (vik_2 7) (vlk_2 0) (vik_2 6) (vik_2 5)) ∨ (rk_2.toInt = 0 ∧ ¬ (fNum (trn (fi 0) n) n m (0 : Int32).toInt (99 : Int32).toInt t) = 0 ∧ (vik_2 0).toInt = (fNum (trn (fi 0) n) n m (0 : Int32).toInt (99 : Int32).toInt t) ∧ (vik_2 1).toInt = ((sPn (trn (fi 0) n) n m t) : Int)) := (P_X6_passNumber gk_2_5 : _)
      rw [show (0 : Int32).toInt = (0 : Int) by decide] at gk_2_5
      rw [show (99 : Int32).toInt = (99 : Int) by decide] at gk_2_5
      replace gk_2_1 : 0 ≤ (vik_2 7).toInt ∧ (vik_2 7).toInt ≤ 940 := gk_2_1
      replace gk_2_2 : 0 ≤ (vik_2 4).toInt ∧ (vik_2 4).toInt ≤ 940 := gk_2_2
      replace gk_2_3 : 0 ≤ (vik_2 1).toInt ∧ (vik_2 1).toInt ≤ 940 := gk_2_3
      replace gk_2_4 : rk_2.toInt = 1 → (vik_2 0).toInt = (vik_1 0).toInt := gk_2_4
      rcases (show (rk_2 = 1 ∧ (True)) ∨ (rk_2 = 0 ∧ (True)) from gk_2_0) with ⟨er9, gk_2_0⟩ | ⟨er9, gk_2_0⟩
      · refine xz_i 1 er9 ?_
        have tb_1 : rk_2.toInt = 1 := by rw [er9]; decide
        refine lv_if_ne (tgt := 58) hx hb dX8_readNameLine_53 (by decide) (fun _ => ?_) (fun c => absurd c (by decide))
        refine lv_aload_n hx hb dX8_readNameLine_58 rfl (lv_at hl 1 rfl) ?_
        refine va_get (D := D) (ci := 8) (v := .ref (a 1)) (C := RX8) (T := TX8) (N := 3) hx hb htg inX8 hown hK.1 hP 3 rfl rfl 1 (by decide) (htg _ kw_229) (fun _ h9 => h9) rfl dX8_readNameLine_59 ?_
        refine lv_lload_n hx hb dX8_readNameLine_62 rfl (lv_at hl 0 rfl) ?_
        refine lv_aload_n hx hb dX8_readNameLine_63 rfl (lv_at hl 1 rfl) ?_
        refine va_get (D := D) (ci := 8) (v := .ref (a 2)) (C := RX8) (T := TX8) (N := 3) hx hb htg inX8 hown hK.1 hP 3 rfl rfl 0 (by decide) (htg _ kw_228) (fun _ h9 => h9) rfl dX8_readNameLine_64 ?_
        refine va_getN (D := D) (ci := 6) (v := .int (vik_2 2)) (C := RX6) (T := TX6) (N := 14) hx hb htg inX6 hown hK.1 hP 8 rfl rfl 11 (by decide) (va_Nw.use rfl (hK.2.1 _ kn_114)) (fun _ h9 => h9) rfl dX8_readNameLine_67 ?_
        obtain ⟨hC9, hPc, hDc, hFc⟩ := xcut (wc := (pre_X7_addName T (xa [(a 1), (a 5), (a 7), (a 8), (a 9)]) (xa [(a 6), (ex 0), (ex 1), (ex 2), (ex 3), (ex 4)]) (xf [(fi 1), (fi 2), (fi 3)]) (xh [(fl 1)]) (xv [(vik_2 2), (vi 1), (vi 2)]) (xl [(vlk 0)]))) hP hD hS hA [5, 6, 0, 1, 2] (by decide) rfl
        refine va_callv (va_runVN (As := [.long (vlk 0), .int (vik_2 2)]) (rest := []) ⟨hx, hb, hml, hown, htg⟩ (c_X7_addName l D T (xa [(a 1), (a 5), (a 7), (a 8), (a 9)]) (xa [(a 6), (ex 0), (ex 1), (ex 2), (ex 3), (ex 4)]) (xf [(fi 1), (fi 2), (fi 3)]) (xh [(fl 1)]) (xv [(vik_2 2), (vi 1), (vi 2)]) (xl [(vlk 0)]) H.size hp0 hp1) ⟨va_cnB 2 htg (xg_ok kw_627) rfl rfl rfl (hK.2.1 _ kn_624) (htg _ kw_7) (by decide +kernel) ⟨by rw [hR]; exact Nat.le_of_ble_eq_true rfl, by rw [hR]; exact Nat.le_of_ble_eq_true rfl⟩, htg _ kw_626, htg _ ks_17⟩ (xpreV hK hPc hDc (va_recv hK.1 hPc (ci := 7) (q0 := 0) rfl rfl)) rfl rfl hl.1 rfl (lv_room (Nat.le_of_ble_eq_true rfl)) dX8_readNameLine_70 ⟨by rw [hR]; exact Nat.le_of_ble_eq_true rfl, by rw [hR]; exact Nat.le_of_ble_eq_true rfl⟩) hS (fun q _ h => hFc q h) hFc (fun u9 t H1 locs ht hvm hw hB hz1 hk1 hS => ?_)
        obtain ⟨fik_3, flk_3, vik_3, vlk_3, hP1, hD1, hG⟩ := hB
        rw [ht] at hP1
        obtain ⟨hP, hD⟩ := va_join (wr := [((a 0), .inr (8, [.ref (a 2), .ref (a 1), .int (vi 0)])), ((a 4), .inl (T 2, 27, .inr (.inl (fl 0)))), ((a 6), .inl (T 2, 9, .inr (.inl (fl 2)))), ((a 2), .inr (6, [.ref (a 3), .ref (a 4), .int (vi 3), .int (vi 4), .int (vi 5), .int (vik_2 7), .int (vik_2 3), .int (vik_2 4), .long (vlk_2 0), .int (vik_2 6), .int (vik_2 5), .int (vik_2 2), .int (vik_2 0), .int (vik_2 1)])), ((a 3), .inl (T 0, 940, .inl (fi 0)))]) (w1 := [((a 1), .inr (7, [.int (vik_3 0), .int (vi 2), .ref (a 5), .ref (a 7), .ref (a 8), .ref (a 9), .ref (a 6), .ref (ex 0), .ref (ex 1), .ref (ex 2), .ref (ex 3), .ref (ex 4)])), ((a 5), .inl (T 2, 9, .inr (.inl (flk_3 0)))), ((a 7), .inl (T 1, 9, .inl (fik_3 0))), ((a 8), .inl (T 1, 9, .inl (fik_3 1))), ((a 9), .inl (T 1, 9, .inl (fik_3 2)))]) hP hD [5, 6, 0, 1, 2] [3, 4, 7, 8, 9] hC9 rfl (by decide) (by decide) hk1 hFc hP1 hD1
        clear hPc hDc hFc hP1 hD1 hk1 hz1 hvm ht hC9
        generalize H1 = H at hP hS ⊢
        obtain ⟨hP, hD⟩ := (show xPD D A [((a 0), .inr (8, [.ref (a 2), .ref (a 1), .int (vi 0)])), ((a 4), .inl (T 2, 27, .inr (.inl (fl 0)))), ((a 6), .inl (T 2, 9, .inr (.inl (fl 2)))), ((a 2), .inr (6, [.ref (a 3), .ref (a 4), .int (vi 3), .int (vi 4), .int (vi 5), .int (vik_2 7), .int (vik_2 3), .int (vik_2 4), .long (vlk_2 0), .int (vik_2 6), .int (vik_2 5), .int (vik_2 2), .int (vik_2 0), .int (vik_2 1)])), ((a 3), .inl (T 0, 940, .inl (fi 0))), ((a 1), .inr (7, [.int (vik_3 0), .int (vi 2), .ref (a 5), .ref (a 7), .ref (a 8), .ref (a 9), .ref (a 6), .ref (ex 0), .ref (ex 1), .ref (ex 2), .ref (ex 3), .ref (ex 4)])), ((a 5), .inl (T 2, 9, .inr (.inl (flk_3 0)))), ((a 7), .inl (T 1, 9, .inl (fik_3 0))), ((a 8), .inl (T 1, 9, .inl (fik_3 1))), ((a 9), .inl (T 1, 9, .inl (fik_3 2)))] H from ⟨hP, hD⟩)
        obtain ⟨uk_3, eu9⟩ : ∃ z, z = u9 := ⟨_, rfl⟩
        subst eu9
        obtain ⟨gk_3_0, gk_3_1, -⟩ := hG
        replace gk_3_1 : (vi 1).toInt < 9 → (flk_3 0) = vp_updL (fl 1) ((vi 1)).toNatClampNeg (vlk 0) ∧ (fik_3 1) = upd (fi 2) ((vi 1)).toNatClampNeg (-1) ∧ (fik_3 2) = upd (fi 3) ((vi 1)).toNatClampNeg (-1) ∧ (vik_3 0).toInt = (vi 1).toInt + 1 := (P_X7_addName gk_3_1 : _)
        replace gk_3_0 : 0 ≤ (vik_3 0).toInt ∧ (vik_3 0).toInt ≤ 9 := gk_3_0
        refine lv_iconst (v := 1) hx hb dX8_readNameLine_73 (by decide) ?_
        have hP9 := hP.sub (ws' := [((a 0), .inr (8, [.ref (a 2), .ref (a 1), .int (vi 0)])), ((a 1), .inr (7, [.int (vik_3 0), .int (vi 2), .ref (a 5), .ref (a 7), .ref (a 8), .ref (a 9), .ref (a 6), .ref (ex 0), .ref (ex 1), .ref (ex 2), .ref (ex 3), .ref (ex 4)])), ((a 2), .inr (6, [.ref (a 3), .ref (a 4), .int (vi 3), .int (vi 4), .int (vi 5), .int (vik_2 7), .int (vik_2 3), .int (vik_2 4), .long (vlk_2 0), .int (vik_2 6), .int (vik_2 5), .int (vik_2 2), .int (vik_2 0), .int (vik_2 1)])), ((a 3), .inl (T 0, 940, .inl (fi 0))), ((a 4), .inl (T 2, 27, .inr (.inl (fl 0)))), ((a 5), .inl (T 2, 9, .inr (.inl (flk_3 0)))), ((a 6), .inl (T 2, 9, .inr (.inl (fl 2)))), ((a 7), .inl (T 1, 9, .inl (fik_3 0))), ((a 8), .inl (T 1, 9, .inl (fik_3 1))), ((a 9), .inl (T 1, 9, .inl (fik_3 2)))]) [0, 5, 3, 4, 1, 6, 2, 7, 8, 9] rfl
        have hD9 := hD.sub (ws' := [((a 0), .inr (8, [.ref (a 2), .ref (a 1), .int (vi 0)])), ((a 1), .inr (7, [.int (vik_3 0), .int (vi 2), .ref (a 5), .ref (a 7), .ref (a 8), .ref (a 9), .ref (a 6), .ref (ex 0), .ref (ex 1), .ref (ex 2), .ref (ex 3), .ref (ex 4)])), ((a 2), .inr (6, [.ref (a 3), .ref (a 4), .int (vi 3), .int (vi 4), .int (vi 5), .int (vik_2 7), .int (vik_2 3), .int (vik_2 4), .long (vlk_2 0), .int (vik_2 6), .int (vik_2 5), .int (vik_2 2), .int (vik_2 0), .int (vik_2 1)])), ((a 3), .inl (T 0, 940, .inl (fi 0))), ((a 4), .inl (T 2, 27, .inr (.inl (fl 0)))), ((a 5), .inl (T 2, 9, .inr (.inl (flk_3 0)))), ((a 6), .inl (T 2, 9, .inr (.inl (fl 2)))), ((a 7), .inl (T 1, 9, .inl (fik_3 0))), ((a 8), .inl (T 1, 9, .inl (fik_3 1))), ((a 9), .inl (T 1, 9, .inl (fik_3 2)))]) [0, 5, 3, 4, 1, 6, 2, 7, 8, 9] (by decide +kernel) rfl
        rw [hQ]
        exact W.zret (v := 1) hx hb hr rfl (fun t ht hW => ⟨⟨1, 1, rfl, rfl, xf [(fik_3 0), (fik_3 1), (fik_3 2)], xh [(flk_3 0)], xv [(vik_2 3), (vik_2 4), (vik_2 5), (vik_2 6), (vik_2 7), (vik_2 0), (vik_2 1), (vik_2 2), (vik_3 0)], xl [(vlk_2 0)], by rw [ht]; exact hP9, hD9, ⟨(Or.inl ⟨rfl, by show True; first | trivial | omega | assumption⟩), gk_3_0, gk_2_1, gk_2_2, gk_2_3, (by show (1 : Int32).toInt = 1 → (vik_2 0).toInt = (vi 12).toInt; have k9_0 : (1 : Int32).toInt = 1 := (by decide); exact fun _ => ((gk_2_4 tb_1).trans (gk_1_4 tb))), (by unfold R_X8_readNameLine; exact (fun Q9 k9_0 k9_1 k9_2 k9_3 => k9_0 hp0 hp1 c9 fik flk vik vlk uk gk_2 fik_1 flk_1 vik_1 vlk_1 rk_1 gk_1_5 tb gk_1_0 fik_2 flk_2 vik_2 vlk_2 rk_2 gk_2_5 tb_1 gk_2_0 fik_3 flk_3 vik_3 vlk_3 uk_3 gk_3_1 rfl rfl rfl rfl rfl rfl rfl rfl rfl rfl rfl rfl rfl rfl rfl)), trivial⟩⟩, hS.F ht⟩) hS.2.2 dX8_readNameLine_74
      · refine xz_i 0 er9 ?_
        have tb_1 : rk_2.toInt = 0 := by rw [er9]; decide
        refine lv_if_ne (tgt := 58) hx hb dX8_readNameLine_53 (by decide) (fun c => absurd (by decide) c) (fun _ => ?_)
        refine lv_iconst (v := 0) hx hb dX8_readNameLine_56 (by decide) ?_
        have hP9 := hP.sub (ws' := [((a 0), .inr (8, [.ref (a 2), .ref (a 1), .int (vi 0)])), ((a 1), .inr (7, [.int (vi 1), .int (vi 2), .ref (a 5), .ref (a 7), .ref (a 8), .ref (a 9), .ref (a 6), .ref (ex 0), .ref (ex 1), .ref (ex 2), .ref (ex 3), .ref (ex 4)])), ((a 2), .inr (6, [.ref (a 3), .ref (a 4), .int (vi 3), .int (vi 4), .int (vi 5), .int (vik_2 7), .int (vik_2 3), .int (vik_2 4), .long (vlk_2 0), .int (vik_2 6), .int (vik_2 5), .int (vik_2 2), .int (vik_2 0), .int (vik_2 1)])), ((a 3), .inl (T 0, 940, .inl (fi 0))), ((a 4), .inl (T 2, 27, .inr (.inl (fl 0)))), ((a 5), .inl (T 2, 9, .inr (.inl (fl 1)))), ((a 6), .inl (T 2, 9, .inr (.inl (fl 2)))), ((a 7), .inl (T 1, 9, .inl (fi 1))), ((a 8), .inl (T 1, 9, .inl (fi 2))), ((a 9), .inl (T 1, 9, .inl (fi 3)))]) [3, 5, 8, 9, 4, 6, 7, 0, 1, 2] rfl
        have hD9 := hD.sub (ws' := [((a 0), .inr (8, [.ref (a 2), .ref (a 1), .int (vi 0)])), ((a 1), .inr (7, [.int (vi 1), .int (vi 2), .ref (a 5), .ref (a 7), .ref (a 8), .ref (a 9), .ref (a 6), .ref (ex 0), .ref (ex 1), .ref (ex 2), .ref (ex 3), .ref (ex 4)])), ((a 2), .inr (6, [.ref (a 3), .ref (a 4), .int (vi 3), .int (vi 4), .int (vi 5), .int (vik_2 7), .int (vik_2 3), .int (vik_2 4), .long (vlk_2 0), .int (vik_2 6), .int (vik_2 5), .int (vik_2 2), .int (vik_2 0), .int (vik_2 1)])), ((a 3), .inl (T 0, 940, .inl (fi 0))), ((a 4), .inl (T 2, 27, .inr (.inl (fl 0)))), ((a 5), .inl (T 2, 9, .inr (.inl (fl 1)))), ((a 6), .inl (T 2, 9, .inr (.inl (fl 2)))), ((a 7), .inl (T 1, 9, .inl (fi 1))), ((a 8), .inl (T 1, 9, .inl (fi 2))), ((a 9), .inl (T 1, 9, .inl (fi 3)))]) [3, 5, 8, 9, 4, 6, 7, 0, 1, 2] (by decide +kernel) rfl
        rw [hQ]
        exact W.zret (v := 0) hx hb hr rfl (fun t ht hW => ⟨⟨0, 0, rfl, rfl, xf [(fi 1), (fi 2), (fi 3)], xh [(fl 1)], xv [(vik_2 3), (vik_2 4), (vik_2 5), (vik_2 6), (vik_2 7), (vik_2 0), (vik_2 1), (vik_2 2), (vi 1)], xl [(vlk_2 0)], by rw [ht]; exact hP9, hD9, ⟨(Or.inr ⟨rfl, by show True; first | trivial | omega | assumption⟩), hp0, gk_2_1, gk_2_2, gk_2_3, (by show (0 : Int32).toInt = 1 → (vik_2 0).toInt = (vi 12).toInt; have k9_0 : (0 : Int32).toInt = 0 := (by decide); exact fun h9 => absurd h9 (by decide)), (by unfold R_X8_readNameLine; exact (fun Q9 k9_0 k9_1 k9_2 k9_3 => k9_1 hp0 hp1 c9 fik flk vik vlk uk gk_2 fik_1 flk_1 vik_1 vlk_1 rk_1 gk_1_5 tb gk_1_0 fik_2 flk_2 vik_2 vlk_2 rk_2 gk_2_5 tb_1 gk_2_0 rfl rfl rfl rfl rfl rfl rfl rfl rfl rfl rfl rfl rfl rfl rfl)), trivial⟩⟩, hS.F ht⟩) hS.2.2 dX8_readNameLine_57
    · refine xz_i 0 er9 ?_
      have tb : rk_1.toInt = 0 := by rw [er9]; decide
      refine lv_if_eq (tgt := 56) hx hb dX8_readNameLine_40 (by decide) (fun _ => ?_) (fun c => absurd (by decide) c)
      refine lv_iconst (v := 0) hx hb dX8_readNameLine_56 (by decide) ?_
      have hP9 := hP.sub (ws' := [((a 0), .inr (8, [.ref (a 2), .ref (a 1), .int (vi 0)])), ((a 1), .inr (7, [.int (vi 1), .int (vi 2), .ref (a 5), .ref (a 7), .ref (a 8), .ref (a 9), .ref (a 6), .ref (ex 0), .ref (ex 1), .ref (ex 2), .ref (ex 3), .ref (ex 4)])), ((a 2), .inr (6, [.ref (a 3), .ref (a 4), .int (vi 3), .int (vi 4), .int (vi 5), .int (vik_1 6), .int (vik_1 2), .int (vik_1 3), .long (vlk_1 0), .int (vik_1 5), .int (vik_1 4), .int (vi 11), .int (vik_1 0), .int (vik_1 1)])), ((a 3), .inl (T 0, 940, .inl (fi 0))), ((a 4), .inl (T 2, 27, .inr (.inl (fl 0)))), ((a 5), .inl (T 2, 9, .inr (.inl (fl 1)))), ((a 6), .inl (T 2, 9, .inr (.inl (fl 2)))), ((a 7), .inl (T 1, 9, .inl (fi 1))), ((a 8), .inl (T 1, 9, .inl (fi 2))), ((a 9), .inl (T 1, 9, .inl (fi 3)))]) [3, 6, 4, 9, 5, 7, 8, 0, 1, 2] rfl
      have hD9 := hD.sub (ws' := [((a 0), .inr (8, [.ref (a 2), .ref (a 1), .int (vi 0)])), ((a 1), .inr (7, [.int (vi 1), .int (vi 2), .ref (a 5), .ref (a 7), .ref (a 8), .ref (a 9), .ref (a 6), .ref (ex 0), .ref (ex 1), .ref (ex 2), .ref (ex 3), .ref (ex 4)])), ((a 2), .inr (6, [.ref (a 3), .ref (a 4), .int (vi 3), .int (vi 4), .int (vi 5), .int (vik_1 6), .int (vik_1 2), .int (vik_1 3), .long (vlk_1 0), .int (vik_1 5), .int (vik_1 4), .int (vi 11), .int (vik_1 0), .int (vik_1 1)])), ((a 3), .inl (T 0, 940, .inl (fi 0))), ((a 4), .inl (T 2, 27, .inr (.inl (fl 0)))), ((a 5), .inl (T 2, 9, .inr (.inl (fl 1)))), ((a 6), .inl (T 2, 9, .inr (.inl (fl 2)))), ((a 7), .inl (T 1, 9, .inl (fi 1))), ((a 8), .inl (T 1, 9, .inl (fi 2))), ((a 9), .inl (T 1, 9, .inl (fi 3)))]) [3, 6, 4, 9, 5, 7, 8, 0, 1, 2] (by decide +kernel) rfl
      rw [hQ]
      exact W.zret (v := 0) hx hb hr rfl (fun t ht hW => ⟨⟨0, 0, rfl, rfl, xf [(fi 1), (fi 2), (fi 3)], xh [(fl 1)], xv [(vik_1 2), (vik_1 3), (vik_1 4), (vik_1 5), (vik_1 6), (vik_1 0), (vik_1 1), (vi 11), (vi 1)], xl [(vlk_1 0)], by rw [ht]; exact hP9, hD9, ⟨(Or.inr ⟨rfl, by show True; first | trivial | omega | assumption⟩), hp0, gk_1_1, gk_1_2, gk_1_3, (by show (0 : Int32).toInt = 1 → (vik_1 0).toInt = (vi 12).toInt; have k9_0 : (0 : Int32).toInt = 0 := (by decide); exact fun h9 => absurd h9 (by decide)), (by unfold R_X8_readNameLine; exact (fun Q9 k9_0 k9_1 k9_2 k9_3 => k9_2 hp0 hp1 c9 fik flk vik vlk uk gk_2 fik_1 flk_1 vik_1 vlk_1 rk_1 gk_1_5 tb gk_1_0 rfl rfl rfl rfl rfl rfl rfl rfl rfl rfl rfl rfl rfl rfl rfl)), trivial⟩⟩, hS.F ht⟩) hS.2.2 dX8_readNameLine_57
  · have c9 := xnlt (k := 9) (by decide) c9
    refine lv_aload_n hx hb dX8_readNameLine_12 rfl (lv_at hl 0 rfl) ?_
    refine va_get (D := D) (ci := 8) (v := .ref (a 2)) (C := RX8) (T := TX8) (N := 3) hx hb htg inX8 hown hK.1 hP 0 rfl rfl 0 (by decide) (htg _ kw_228) (fun _ h9 => h9) rfl dX8_readNameLine_13 ?_
    refine lv_iconst (v := 4) hx hb dX8_readNameLine_16 (by decide) ?_
    obtain ⟨hC9, hPc, hDc, hFc⟩ := xcut (wc := (pre_X6_refuse T (xa [(a 2)]) (xa [(a 3), (a 4)]) (xf []) (xh []) (xv [4, (vi 3), (vi 4), (vi 5), (vi 6), (vi 7), (vi 8), (vi 9), (vi 10), (vi 11), (vi 12), (vi 13)]) (xl [(vl 0)]))) hP hD hS hA [2] (by decide) rfl
    refine va_calli (va_runVN (As := [.int 4]) (rest := []) ⟨hx, hb, hml, hown, htg⟩ (c_X6_refuse l D T (xa [(a 2)]) (xa [(a 3), (a 4)]) (xf []) (xh []) (xv [4, (vi 3), (vi 4), (vi 5), (vi 6), (vi 7), (vi 8), (vi 9), (vi 10), (vi 11), (vi 12), (vi 13)]) (xl [(vl 0)]) s.heap.size hp2 hp3 hp4 hp5 hp6) ⟨va_cnB 1 htg (xg_ok kw_594) rfl rfl rfl (hK.2.1 _ kn_591) (htg _ kw_2) (by decide +kernel) ⟨by rw [hR]; exact Nat.le_of_ble_eq_true rfl, by rw [hR]; exact Nat.le_of_ble_eq_true rfl⟩, htg _ kw_593, htg _ ks_10⟩ (xpreV hK hPc hDc (va_recv hK.1 hPc (ci := 6) (q0 := 0) rfl rfl)) rfl rfl hl.1 rfl (lv_room (Nat.le_of_ble_eq_true rfl)) dX8_readNameLine_17 ⟨by rw [hR]; exact Nat.le_of_ble_eq_true rfl, by rw [hR]; exact Nat.le_of_ble_eq_true rfl⟩) hS (fun q _ h => hFc q h) hFc (fun r9 u9 t H1 locs ht hvm hw hB hz1 hk1 hS => ?_)
    subst hw
    obtain ⟨fik_4, flk_4, vik_4, vlk_4, hP1, hD1, hG⟩ := hB
    rw [ht] at hP1
    obtain ⟨hP, hD⟩ := va_join (wr := [((a 0), .inr (8, [.ref (a 2), .ref (a 1), .int (vi 0)])), ((a 1), .inr (7, [.int (vi 1), .int (vi 2), .ref (a 5), .ref (a 7), .ref (a 8), .ref (a 9), .ref (a 6), .ref (ex 0), .ref (ex 1), .ref (ex 2), .ref (ex 3), .ref (ex 4)])), ((a 3), .inl (T 0, 940, .inl (fi 0))), ((a 4), .inl (T 2, 27, .inr (.inl (fl 0)))), ((a 5), .inl (T 2, 9, .inr (.inl (fl 1)))), ((a 6), .inl (T 2, 9, .inr (.inl (fl 2)))), ((a 7), .inl (T 1, 9, .inl (fi 1))), ((a 8), .inl (T 1, 9, .inl (fi 2))), ((a 9), .inl (T 1, 9, .inl (fi 3)))]) (w1 := [((a 2), .inr (6, [.ref (a 3), .ref (a 4), .int (vi 3), .int (vi 4), .int (vi 5), .int (vi 6), .int (vi 7), .int (vi 8), .long (vl 0), .int (vi 9), .int (vi 10), .int (vi 11), .int (vik_4 0), .int (vik_4 1)]))]) hP hD [2] [0, 1, 3, 4, 5, 6, 7, 8, 9] hC9 rfl (by decide) (by decide) hk1 hFc hP1 hD1
    obtain ⟨rk_4, er9⟩ : ∃ z, z = r9 := ⟨_, rfl⟩
    subst er9
    clear hPc hDc hFc hP1 hD1 hk1 hz1 hvm ht hC9
    generalize H1 = H at hP hS ⊢
    obtain ⟨hP, hD⟩ := (show xPD D A [((a 0), .inr (8, [.ref (a 2), .ref (a 1), .int (vi 0)])), ((a 1), .inr (7, [.int (vi 1), .int (vi 2), .ref (a 5), .ref (a 7), .ref (a 8), .ref (a 9), .ref (a 6), .ref (ex 0), .ref (ex 1), .ref (ex 2), .ref (ex 3), .ref (ex 4)])), ((a 3), .inl (T 0, 940, .inl (fi 0))), ((a 4), .inl (T 2, 27, .inr (.inl (fl 0)))), ((a 5), .inl (T 2, 9, .inr (.inl (fl 1)))), ((a 6), .inl (T 2, 9, .inr (.inl (fl 2)))), ((a 7), .inl (T 1, 9, .inl (fi 1))), ((a 8), .inl (T 1, 9, .inl (fi 2))), ((a 9), .inl (T 1, 9, .inl (fi 3))), ((a 2), .inr (6, [.ref (a 3), .ref (a 4), .int (vi 3), .int (vi 4), .int (vi 5), .int (vi 6), .int (vi 7), .int (vi 8), .long (vl 0), .int (vi 9), .int (vi 10), .int (vi 11), .int (vik_4 0), .int (vik_4 1)]))] H from ⟨hP, hD⟩)
    obtain ⟨gk_4_0, gk_4_1, gk_4_2, -⟩ := hG
    replace gk_4_1 : 0 ≤ (vik_4 1).toInt ∧ (vik_4 1).toInt ≤ 940 := gk_4_1
    replace gk_4_2 : (vik_4 0).toInt = (4 : Int32).toInt ∧ (vik_4 1).toInt = (vi 8).toInt := gk_4_2
    replace gk_4_0 : rk_4 = 0 := gk_4_0
    refine xz_i 0 gk_4_0 ?_
    have hP9 := hP.sub (ws' := [((a 0), .inr (8, [.ref (a 2), .ref (a 1), .int (vi 0)])), ((a 1), .inr (7, [.int (vi 1), .int (vi 2), .ref (a 5), .ref (a 7), .ref (a 8), .ref (a 9), .ref (a 6), .ref (ex 0), .ref (ex 1), .ref (ex 2), .ref (ex 3), .ref (ex 4)])), ((a 2), .inr (6, [.ref (a 3), .ref (a 4), .int (vi 3), .int (vi 4), .int (vi 5), .int (vi 6), .int (vi 7), .int (vi 8), .long (vl 0), .int (vi 9), .int (vi 10), .int (vi 11), .int (vik_4 0), .int (vik_4 1)])), ((a 3), .inl (T 0, 940, .inl (fi 0))), ((a 4), .inl (T 2, 27, .inr (.inl (fl 0)))), ((a 5), .inl (T 2, 9, .inr (.inl (fl 1)))), ((a 6), .inl (T 2, 9, .inr (.inl (fl 2)))), ((a 7), .inl (T 1, 9, .inl (fi 1))), ((a 8), .inl (T 1, 9, .inl (fi 2))), ((a 9), .inl (T 1, 9, .inl (fi 3)))]) [0, 1, 9, 2, 3, 4, 5, 6, 7, 8] rfl
    have hD9 := hD.sub (ws' := [((a 0), .inr (8, [.ref (a 2), .ref (a 1), .int (vi 0)])), ((a 1), .inr (7, [.int (vi 1), .int (vi 2), .ref (a 5), .ref (a 7), .ref (a 8), .ref (a 9), .ref (a 6), .ref (ex 0), .ref (ex 1), .ref (ex 2), .ref (ex 3), .ref (ex 4)])), ((a 2), .inr (6, [.ref (a 3), .ref (a 4), .int (vi 3), .int (vi 4), .int (vi 5), .int (vi 6), .int (vi 7), .int (vi 8), .long (vl 0), .int (vi 9), .int (vi 10), .int (vi 11), .int (vik_4 0), .int (vik_4 1)])), ((a 3), .inl (T 0, 940, .inl (fi 0))), ((a 4), .inl (T 2, 27, .inr (.inl (fl 0)))), ((a 5), .inl (T 2, 9, .inr (.inl (fl 1)))), ((a 6), .inl (T 2, 9, .inr (.inl (fl 2)))), ((a 7), .inl (T 1, 9, .inl (fi 1))), ((a 8), .inl (T 1, 9, .inl (fi 2))), ((a 9), .inl (T 1, 9, .inl (fi 3)))]) [0, 1, 9, 2, 3, 4, 5, 6, 7, 8] (by decide +kernel) rfl
    rw [hQ]
    exact W.zret (v := 0) hx hb hr rfl (fun t ht hW => ⟨⟨0, 0, rfl, rfl, xf [(fi 1), (fi 2), (fi 3)], xh [(fl 1)], xv [(vi 7), (vi 8), (vi 10), (vi 9), (vi 6), (vik_4 0), (vik_4 1), (vi 11), (vi 1)], xl [(vl 0)], by rw [ht]; exact hP9, hD9, ⟨(Or.inr ⟨rfl, by show True; first | trivial | omega | assumption⟩), hp0, hp4, hp5, gk_4_1, (by show (0 : Int32).toInt = 1 → (vik_4 0).toInt = (vi 12).toInt; have k9_0 : (0 : Int32).toInt = 0 := (by decide); exact fun h9 => absurd h9 (by decide)), (by unfold R_X8_readNameLine; exact (fun Q9 k9_0 k9_1 k9_2 k9_3 => k9_3 hp0 hp1 c9 fik_4 flk_4 vik_4 vlk_4 rk_4 gk_4_0 gk_4_2 rfl rfl rfl rfl rfl rfl rfl rfl rfl rfl rfl rfl rfl rfl rfl)), trivial⟩⟩, hS.F ht⟩) hS.2.2 dX8_readNameLine_20
abbrev pre_J0_coder_7d493_22 (T : Nat → ClassId) (a ex : Nat → Nat) (fi : Nat → Nat → Int32) (fl : Nat → Nat → Int64) (vi : Nat → Int32) (vl : Nat → Int64) : va_W := []
set_option maxHeartbeats 8000000 in
set_option maxRecDepth 100000 in
theorem c_J0_coder_7d493_22 (l : Launch) (D : va_G) (T : Nat → ClassId) (a ex : Nat → Nat) (fi : Nat → Nat → Int32) (fl : Nat → Nat → Int64) (vi : Nat → Int32) (vl : Nat → Int64) (kK kV : Nat → Nat) (sz : Nat) : Met l yJ0_coder_7d493 (xw yJ0_coder_7d493 cJ0_coder_7d493 1 (some .byte)) ({ frames := 0, cells := 0, slots := 0, locals := 0 }) (xPs D T kK kV [.ref (kK 4)] sz (pre_J0_coder_7d493_22 T a ex fi fl vi vl)) (va_Qi (fun r u => r = u) (xC D (va_A (pre_J0_coder_7d493_22 T a ex fi fl vi vl) sz) (fun fj fm vj vm => []) (fun (r : Int32) (fj : Nat → Nat → Int32) (fm : Nat → Nat → Int64) (vj : Nat → Int32) (vm : Nat → Int64) => r = 0 ∧ True)) (va_A (pre_J0_coder_7d493_22 T a ex fi fl vi vl) sz)) 0 0 (va_A (pre_J0_coder_7d493_22 T a ex fi fl vi vl) sz) := by
  refine xofW (cc := cJ0_coder_7d493) (maxL := 1) (ret := (some .byte)) (by decide) rfl ?_
  intro p e s m args below meth c s₁ R Q hR hQ B hml hv
  obtain ⟨rfl, hsz, hP, hK, hD0, hT⟩ := hv
  have hx := B.exec
  have hb := B.bytes
  have hr := B.returns
  have hts := atoms_spec (ws := xw yJ0_coder_7d493 cJ0_coder_7d493 1 (some .byte)) B.pre
  have htg : ∀ w ∈ xg, w.before _ s = true := fun w h => hts w (List.mem_cons_of_mem _ h)
  have hown : s.vm.findClass RJ0 = some m.cls := findClass_of_methodNamed B.named
  have hlocks := B.notSynchronized
  subst hsz
  have hD := hD0.self (sz := s.heap.size)
  generalize hAe : va_A (pre_J0_coder_7d493_22 T a ex fi fl vi vl) s.heap.size = A at hD hQ hT
  have hA : ∀ q : Nat, s.heap.size ≤ q → A q := fun q h => by rw [← hAe]; exact Or.inr h
  have hS : va_S A s.heap s.heap [] := va_S.rf
  replace hP : va_P D vwCl [] s.heap := hP
  replace hD : va_D A [] := hD
  have hl := lv_entry ([.ref (kK 4)]) (n := 1) (Nat.le_of_ble_eq_true rfl)
  rw [lg_entry_eq]
  generalize (lg_sl ([.ref (kK 4)]) ++ List.replicate (1 - (lg_sl ([.ref (kK 4)])).length) Slot.unset).toArray = ls at hl ⊢
  replace hl : lv_has ls 1 [(0, .ref (kK 4))] := hl
  refine va_gets hx hb hT.2.2.1 hS hown (htg _ kw_52) (fun _ h9 => h9) dJ0_coder_7d493_0 ?_
  refine lv_if_eq (tgt := 13) hx hb dJ0_coder_7d493_3 (by decide) (fun c => absurd c (by decide)) (fun _ => ?_)
  refine lv_aload_n hx hb dJ0_coder_7d493_6 rfl (lv_at hl 0 rfl) ?_
  refine vk_getf hx hb (hT.2.1 4 (by decide)).2.1 hS hown (htg _ kw_2031) (fun _ h9 => h9) dJ0_coder_7d493_7 ?_
  refine lv_goto (tgt := 14) hx hb dJ0_coder_7d493_10 (by decide) ?_
  have hP9 := hP.sub (ws' := []) [] rfl
  have hD9 := hD.sub (ws' := []) [] (by decide +kernel) rfl
  rw [hQ]
  exact W.zret (v := 0) hx hb hr rfl (fun t ht hW => ⟨⟨0, 0, rfl, rfl, xf [], xh [], xv [], xl [], by rw [ht]; exact hP9, hD9, ⟨rfl, trivial⟩⟩, hS.F ht⟩) hS.2.2 dJ0_coder_7d493_14
abbrev pre_J0_length_8abf5_22 (T : Nat → ClassId) (a ex : Nat → Nat) (fi : Nat → Nat → Int32) (fl : Nat → Nat → Int64) (vi : Nat → Int32) (vl : Nat → Int64) : va_W := []
set_option maxHeartbeats 8000000 in
set_option maxRecDepth 100000 in
theorem c_J0_length_8abf5_22 (l : Launch) (D : va_G) (T : Nat → ClassId) (a ex : Nat → Nat) (fi : Nat → Nat → Int32) (fl : Nat → Nat → Int64) (vi : Nat → Int32) (vl : Nat → Int64) (kK kV : Nat → Nat) (sz : Nat) : Met l yJ0_length_8abf5 (xw yJ0_length_8abf5 cJ0_length_8abf5 1 (some .int)) ({ frames := 1, cells := 0, slots := 0, locals := 24 }) (xPs D T kK kV [.ref (kK 4)] sz (pre_J0_length_8abf5_22 T a ex fi fl vi vl)) (va_Qi (fun r u => r = u) (xC D (va_A (pre_J0_length_8abf5_22 T a ex fi fl vi vl) sz) (fun fj fm vj vm => []) (fun (r : Int32) (fj : Nat → Nat → Int32) (fm : Nat → Nat → Int64) (vj : Nat → Int32) (vm : Nat → Int64) => r = 4 ∧ True)) (va_A (pre_J0_length_8abf5_22 T a ex fi fl vi vl) sz)) 0 0 (va_A (pre_J0_length_8abf5_22 T a ex fi fl vi vl) sz) := by
  refine xofW (cc := cJ0_length_8abf5) (maxL := 1) (ret := (some .int)) (by decide) rfl ?_
  intro p e s m args below meth c s₁ R Q hR hQ B hml hv
  obtain ⟨rfl, hsz, hP, hK, hD0, hT⟩ := hv
  have hx := B.exec
  have hb := B.bytes
  have hr := B.returns
  have hts := atoms_spec (ws := xw yJ0_length_8abf5 cJ0_length_8abf5 1 (some .int)) B.pre
  have htg : ∀ w ∈ xg, w.before _ s = true := fun w h => hts w (List.mem_cons_of_mem _ h)
  have hown : s.vm.findClass RJ0 = some m.cls := findClass_of_methodNamed B.named
  have hlocks := B.notSynchronized
  subst hsz
  have hD := hD0.self (sz := s.heap.size)
  generalize hAe : va_A (pre_J0_length_8abf5_22 T a ex fi fl vi vl) s.heap.size = A at hD hQ hT
  have hA : ∀ q : Nat, s.heap.size ≤ q → A q := fun q h => by rw [← hAe]; exact Or.inr h
  have hS : va_S A s.heap s.heap [] := va_S.rf
  replace hP : va_P D vwCl [] s.heap := hP
  replace hD : va_D A [] := hD
  have hl := lv_entry ([.ref (kK 4)]) (n := 1) (Nat.le_of_ble_eq_true rfl)
  rw [lg_entry_eq]
  generalize (lg_sl ([.ref (kK 4)]) ++ List.replicate (1 - (lg_sl ([.ref (kK 4)])).length) Slot.unset).toArray = ls at hl ⊢
  replace hl : lv_has ls 1 [(0, .ref (kK 4))] := hl
  refine lv_aload_n hx hb dJ0_length_8abf5_0 rfl (lv_at hl 0 rfl) ?_
  refine vk_getf hx hb (hT.2.1 4 (by decide)).2.2.1 hS hown (htg _ kw_2030) (fun _ h9 => h9) dJ0_length_8abf5_1 ?_
  refine va_tlen (v := 4) hx hb (hT.2.1 4 (by decide)).2.2.2 hS (by decide) dJ0_length_8abf5_4 ?_
  refine lv_aload_n hx hb dJ0_length_8abf5_5 rfl (lv_at hl 0 rfl) ?_
  obtain ⟨hC9, hPc, hDc, hFc⟩ := xcut (wc := (pre_J0_coder_7d493_22 T (xa []) (xa []) (xf []) (xh []) (xv []) (xl []))) hP hD hS hA [] (by decide) rfl
  refine va_calli (va_runV (As := []) (rest := [.int 4]) ⟨hx, hb, hml, hown, htg⟩ (c_J0_coder_7d493_22 l D T (xa []) (xa []) (xf []) (xh []) (xv []) (xl []) kK kV s.heap.size) ⟨callB_of 0 htg (xg_ok kw_51) rfl rfl rfl (htg _ kw_3) (htg _ kw_48) (by decide +kernel) ⟨by rw [hR]; exact Nat.le_of_ble_eq_true rfl, by rw [hR]; exact Nat.le_of_ble_eq_true rfl⟩, htg _ kw_49, htg _ kw_50⟩ (xpreVs hK hPc hDc hT hFc hS (xT.recv hT 4 (by decide) hS)) rfl rfl hl.1 rfl (lv_room (Nat.le_of_ble_eq_true rfl)) dJ0_length_8abf5_6 ⟨by rw [hR]; exact Nat.le_of_ble_eq_true rfl, by rw [hR]; exact Nat.le_of_ble_eq_true rfl⟩) hS (fun q _ h => hFc q h) hFc (fun r9 u9 t H1 locs ht hvm hw hB hz1 hk1 hS => ?_)
  subst hw
  obtain ⟨fik, flk, vik, vlk, hP1, hD1, hG⟩ := hB
  rw [ht] at hP1
  obtain ⟨hP, hD⟩ := va_join (wr := []) (w1 := []) hP hD [] [] hC9 rfl (by decide) (by decide) hk1 hFc hP1 hD1
  obtain ⟨rk, er9⟩ : ∃ z, z = r9 := ⟨_, rfl⟩
  subst er9
  clear hPc hDc hFc hP1 hD1 hk1 hz1 hvm ht hC9
  generalize H1 = H at hP hS ⊢
  obtain ⟨hP, hD⟩ := (show xPD D A [] H from ⟨hP, hD⟩)
  obtain ⟨gk_0, -⟩ := hG
  replace gk_0 : rk = 0 := gk_0
  refine xz_i 0 gk_0 ?_
  refine lv_ishr hx hb dJ0_length_8abf5_9 ?_
  refine xz_i 4 (by decide) ?_
  have hP9 := hP.sub (ws' := []) [] rfl
  have hD9 := hD.sub (ws' := []) [] (by decide +kernel) rfl
  rw [hQ]
  exact W.iret (v := 4) hx hb hr (fun t ht hW => ⟨⟨4, 4, rfl, rfl, xf [], xh [], xv [], xl [], by rw [ht]; exact hP9, hD9, ⟨rfl, trivial⟩⟩, hS.F ht⟩) hS.2.2 dJ0_length_8abf5_10
abbrev pre_J0_isLatin1_aae02_22 (T : Nat → ClassId) (a ex : Nat → Nat) (fi : Nat → Nat → Int32) (fl : Nat → Nat → Int64) (vi : Nat → Int32) (vl : Nat → Int64) : va_W := []
set_option maxHeartbeats 8000000 in
set_option maxRecDepth 100000 in
theorem c_J0_isLatin1_aae02_22 (l : Launch) (D : va_G) (T : Nat → ClassId) (a ex : Nat → Nat) (fi : Nat → Nat → Int32) (fl : Nat → Nat → Int64) (vi : Nat → Int32) (vl : Nat → Int64) (kK kV : Nat → Nat) (sz : Nat) : Met l yJ0_isLatin1_aae02 (xw yJ0_isLatin1_aae02 cJ0_isLatin1_aae02 1 (some .boolean)) ({ frames := 0, cells := 0, slots := 0, locals := 0 }) (xPs D T kK kV [.ref (kK 4)] sz (pre_J0_isLatin1_aae02_22 T a ex fi fl vi vl)) (va_Qi (fun r u => r = u) (xC D (va_A (pre_J0_isLatin1_aae02_22 T a ex fi fl vi vl) sz) (fun fj fm vj vm => []) (fun (r : Int32) (fj : Nat → Nat → Int32) (fm : Nat → Nat → Int64) (vj : Nat → Int32) (vm : Nat → Int64) => r = 1 ∧ True)) (va_A (pre_J0_isLatin1_aae02_22 T a ex fi fl vi vl) sz)) 0 0 (va_A (pre_J0_isLatin1_aae02_22 T a ex fi fl vi vl) sz) := by
  refine xofW (cc := cJ0_isLatin1_aae02) (maxL := 1) (ret := (some .boolean)) (by decide) rfl ?_
  intro p e s m args below meth c s₁ R Q hR hQ B hml hv
  obtain ⟨rfl, hsz, hP, hK, hD0, hT⟩ := hv
  have hx := B.exec
  have hb := B.bytes
  have hr := B.returns
  have hts := atoms_spec (ws := xw yJ0_isLatin1_aae02 cJ0_isLatin1_aae02 1 (some .boolean)) B.pre
  have htg : ∀ w ∈ xg, w.before _ s = true := fun w h => hts w (List.mem_cons_of_mem _ h)
  have hown : s.vm.findClass RJ0 = some m.cls := findClass_of_methodNamed B.named
  have hlocks := B.notSynchronized
  subst hsz
  have hD := hD0.self (sz := s.heap.size)
  generalize hAe : va_A (pre_J0_isLatin1_aae02_22 T a ex fi fl vi vl) s.heap.size = A at hD hQ hT
  have hA : ∀ q : Nat, s.heap.size ≤ q → A q := fun q h => by rw [← hAe]; exact Or.inr h
  have hS : va_S A s.heap s.heap [] := va_S.rf
  replace hP : va_P D vwCl [] s.heap := hP
  replace hD : va_D A [] := hD
  have hl := lv_entry ([.ref (kK 4)]) (n := 1) (Nat.le_of_ble_eq_true rfl)
  rw [lg_entry_eq]
  generalize (lg_sl ([.ref (kK 4)]) ++ List.replicate (1 - (lg_sl ([.ref (kK 4)])).length) Slot.unset).toArray = ls at hl ⊢
  replace hl : lv_has ls 1 [(0, .ref (kK 4))] := hl
  refine va_gets hx hb hT.2.2.1 hS hown (htg _ kw_52) (fun _ h9 => h9) dJ0_isLatin1_aae02_0 ?_
  refine lv_if_eq (tgt := 17) hx hb dJ0_isLatin1_aae02_3 (by decide) (fun c => absurd c (by decide)) (fun _ => ?_)
  refine lv_aload_n hx hb dJ0_isLatin1_aae02_6 rfl (lv_at hl 0 rfl) ?_
  refine vk_getf hx hb (hT.2.1 4 (by decide)).2.1 hS hown (htg _ kw_2031) (fun _ h9 => h9) dJ0_isLatin1_aae02_7 ?_
  refine lv_if_ne (tgt := 17) hx hb dJ0_isLatin1_aae02_10 (by decide) (fun c => absurd (by decide) c) (fun _ => ?_)
  refine lv_iconst (v := 1) hx hb dJ0_isLatin1_aae02_13 (by decide) ?_
  refine lv_goto (tgt := 18) hx hb dJ0_isLatin1_aae02_14 (by decide) ?_
  have hP9 := hP.sub (ws' := []) [] rfl
  have hD9 := hD.sub (ws' := []) [] (by decide +kernel) rfl
  rw [hQ]
  exact W.zret (v := 1) hx hb hr rfl (fun t ht hW => ⟨⟨1, 1, rfl, rfl, xf [], xh [], xv [], xl [], by rw [ht]; exact hP9, hD9, ⟨rfl, trivial⟩⟩, hS.F ht⟩) hS.2.2 dJ0_isLatin1_aae02_18
abbrev pre_J1_charAt_3b067_22 (T : Nat → ClassId) (a ex : Nat → Nat) (fi : Nat → Nat → Int32) (fl : Nat → Nat → Int64) (vi : Nat → Int32) (vl : Nat → Int64) : va_W := []
set_option maxHeartbeats 8000000 in
set_option maxRecDepth 100000 in
theorem c_J1_charAt_3b067_22 (l : Launch) (D : va_G) (T : Nat → ClassId) (a ex : Nat → Nat) (fi : Nat → Nat → Int32) (fl : Nat → Nat → Int64) (vi : Nat → Int32) (vl : Nat → Int64) (kK kV : Nat → Nat) (sz : Nat) (hp0 : 0 ≤ (vi 0).toInt ∧ (vi 0).toInt ≤ 3) : Met l yJ1_charAt_3b067 (xw yJ1_charAt_3b067 cJ1_charAt_3b067 2 (some .char)) ({ frames := 2, cells := 0, slots := 0, locals := 51 }) (xPs D T kK kV [.ref (kV 4), .int (vi 0)] sz (pre_J1_charAt_3b067_22 T a ex fi fl vi vl)) (va_Qi (fun r u => r = u) (xC D (va_A (pre_J1_charAt_3b067_22 T a ex fi fl vi vl) sz) (fun fj fm vj vm => []) (fun (r : Int32) (fj : Nat → Nat → Int32) (fm : Nat → Nat → Int64) (vj : Nat → Int32) (vm : Nat → Int64) => narrow .char (.int r) = .int r ∧ R_J1_charAt_3b067_22 fi fl vi vl r fj fm vj vm ∧ True)) (va_A (pre_J1_charAt_3b067_22 T a ex fi fl vi vl) sz)) 0 0 (va_A (pre_J1_charAt_3b067_22 T a ex fi fl vi vl) sz) := by
  refine xofW (cc := cJ1_charAt_3b067) (maxL := 2) (ret := (some .char)) (by decide) rfl ?_
  intro p e s m args below meth c s₁ R Q hR hQ B hml hv
  obtain ⟨rfl, hsz, hP, hK, hD0, hT⟩ := hv
  have hx := B.exec
  have hb := B.bytes
  have hr := B.returns
  have hts := atoms_spec (ws := xw yJ1_charAt_3b067 cJ1_charAt_3b067 2 (some .char)) B.pre
  have htg : ∀ w ∈ xg, w.before _ s = true := fun w h => hts w (List.mem_cons_of_mem _ h)
  have hown : s.vm.findClass RJ1 = some m.cls := findClass_of_methodNamed B.named
  have hlocks := B.notSynchronized
  subst hsz
  have hD := hD0.self (sz := s.heap.size)
  generalize hAe : va_A (pre_J1_charAt_3b067_22 T a ex fi fl vi vl) s.heap.size = A at hD hQ hT
  have hA : ∀ q : Nat, s.heap.size ≤ q → A q := fun q h => by rw [← hAe]; exact Or.inr h
  have hS : va_S A s.heap s.heap [] := va_S.rf
  replace hP : va_P D vwCl [] s.heap := hP
  replace hD : va_D A [] := hD
  have hl := lv_entry ([.ref (kV 4), .int (vi 0)]) (n := 2) (Nat.le_of_ble_eq_true rfl)
  rw [lg_entry_eq]
  generalize (lg_sl ([.ref (kV 4), .int (vi 0)]) ++ List.replicate (2 - (lg_sl ([.ref (kV 4), .int (vi 0)])).length) Slot.unset).toArray = ls at hl ⊢
  replace hl : lv_has ls 2 [(0, .ref (kV 4)), (1, .int (vi 0))] := hl
  refine lv_iload_n hx hb dJ1_charAt_3b067_0 rfl (lv_at hl 1 rfl) ?_
  refine lv_aload_n hx hb dJ1_charAt_3b067_1 rfl (lv_at hl 0 rfl) ?_
  refine va_tlen (v := 4) hx hb (hT.2.1 4 (by decide)).2.2.2 hS (by decide) dJ1_charAt_3b067_2 ?_
  obtain ⟨hC9, hPc, hDc, hFc⟩ := xcut (wc := (pre_J0_checkIndex_df160_3 T (xa []) (xa []) (xf []) (xh []) (xv [(vi 0)]) (xl []))) hP hD hS hA [] (by decide) rfl
  refine va_callv (va_runS (As := [.int (vi 0), .int 4]) (rest := []) ⟨hx, hb, hml, hown, htg⟩ (c_J0_checkIndex_df160_3 l D T (xa []) (xa []) (xf []) (xh []) (xv [(vi 0)]) (xl []) kK kV s.heap.size hp0) ⟨callB_of 2 htg (xg_ok kw_67) rfl rfl rfl (htg _ kw_3) (htg _ kw_65) (by decide +kernel) ⟨by rw [hR]; exact Nat.le_of_ble_eq_true rfl, by rw [hR]; exact Nat.le_of_ble_eq_true rfl⟩, htg _ kw_66⟩ (xpreSs hK hPc hDc hT hFc hS) rfl rfl hl.1 rfl (lv_room (Nat.le_of_ble_eq_true rfl)) dJ1_charAt_3b067_3 ⟨by rw [hR]; exact Nat.le_of_ble_eq_true rfl, by rw [hR]; exact Nat.le_of_ble_eq_true rfl⟩) hS (fun q _ h => hFc q h) hFc (fun u9 t H1 locs ht hvm hw hB hz1 hk1 hS => ?_)
  obtain ⟨fik, flk, vik, vlk, hP1, hD1, hG⟩ := hB
  rw [ht] at hP1
  obtain ⟨hP, hD⟩ := va_join (wr := []) (w1 := []) hP hD [] [] hC9 rfl (by decide) (by decide) hk1 hFc hP1 hD1
  clear hPc hDc hFc hP1 hD1 hk1 hz1 hvm ht hC9
  generalize H1 = H at hP hS ⊢
  obtain ⟨hP, hD⟩ := (show xPD D A [] H from ⟨hP, hD⟩)
  obtain ⟨uk, eu9⟩ : ∃ z, z = u9 := ⟨_, rfl⟩
  subst eu9
  clear hG
  refine lv_aload_n hx hb dJ1_charAt_3b067_6 rfl (lv_at hl 0 rfl) ?_
  refine lv_iload_n hx hb dJ1_charAt_3b067_7 rfl (lv_at hl 1 rfl) ?_
  refine va_tb hx hb (hT.2.1 4 (by decide)).2.2.2 hS (show vp_in (vi 0) 4 from (vp_in_iff.mpr (by omega))) rfl dJ1_charAt_3b067_8 ?_
  refine lv_topi (fun z8 ez8 => ?_)
  refine lv_sipush (v := 255) hx hb dJ1_charAt_3b067_9 (by decide) ?_
  refine lv_iand hx hb dJ1_charAt_3b067_12 ?_
  refine lv_topi (fun z12 ez12 => ?_)
  have tz12 : 0 ≤ z12.toInt ∧ z12.toInt ≤ 255 := by rw [ez12]; exact xand255 _
  refine lv_i2c hx hb dJ1_charAt_3b067_13 rfl ?_
  refine lv_topi (fun z13 ez13 => ?_)
  have nz13 : narrow .char (.int z13) = .int z13 := by rw [ez13]; exact pk_nc _
  have hP9 := hP.sub (ws' := []) [] rfl
  have hD9 := hD.sub (ws' := []) [] (by decide +kernel) rfl
  rw [hQ]
  exact W.zret (v := z13) hx hb hr nz13 (fun t ht hW => ⟨⟨z13, z13, rfl, rfl, xf [], xh [], xv [], xl [], by rw [ht]; exact hP9, hD9, ⟨nz13, (by unfold R_J1_charAt_3b067_22; exact (fun Q9 k9_0 => k9_0 hp0 fik flk vik vlk uk z8 ez8 z12 ez12 z13 ez13 rfl)), trivial⟩⟩, hS.F ht⟩) hS.2.2 dJ1_charAt_3b067_14
abbrev pre_J0_charAt_5068e_22 (T : Nat → ClassId) (a ex : Nat → Nat) (fi : Nat → Nat → Int32) (fl : Nat → Nat → Int64) (vi : Nat → Int32) (vl : Nat → Int64) : va_W := []
set_option maxHeartbeats 8000000 in
set_option maxRecDepth 100000 in
theorem c_J0_charAt_5068e_22 (l : Launch) (D : va_G) (T : Nat → ClassId) (a ex : Nat → Nat) (fi : Nat → Nat → Int32) (fl : Nat → Nat → Int64) (vi : Nat → Int32) (vl : Nat → Int64) (kK kV : Nat → Nat) (sz : Nat) (hp0 : 0 ≤ (vi 0).toInt ∧ (vi 0).toInt ≤ 3) : Met l yJ0_charAt_5068e (xw yJ0_charAt_5068e cJ0_charAt_5068e 2 (some .char)) ({ frames := 3, cells := 0, slots := 0, locals := 76 }) (xPs D T kK kV [.ref (kK 4), .int (vi 0)] sz (pre_J0_charAt_5068e_22 T a ex fi fl vi vl)) (va_Qi (fun r u => r = u) (xC D (va_A (pre_J0_charAt_5068e_22 T a ex fi fl vi vl) sz) (fun fj fm vj vm => []) (fun (r : Int32) (fj : Nat → Nat → Int32) (fm : Nat → Nat → Int64) (vj : Nat → Int32) (vm : Nat → Int64) => narrow .char (.int r) = .int r ∧ R_J0_charAt_5068e_22 fi fl vi vl r fj fm vj vm ∧ True)) (va_A (pre_J0_charAt_5068e_22 T a ex fi fl vi vl) sz)) 0 0 (va_A (pre_J0_charAt_5068e_22 T a ex fi fl vi vl) sz) := by
  refine xofW (cc := cJ0_charAt_5068e) (maxL := 2) (ret := (some .char)) (by decide) rfl ?_
  intro p e s m args below meth c s₁ R Q hR hQ B hml hv
  obtain ⟨rfl, hsz, hP, hK, hD0, hT⟩ := hv
  have hx := B.exec
  have hb := B.bytes
  have hr := B.returns
  have hts := atoms_spec (ws := xw yJ0_charAt_5068e cJ0_charAt_5068e 2 (some .char)) B.pre
  have htg : ∀ w ∈ xg, w.before _ s = true := fun w h => hts w (List.mem_cons_of_mem _ h)
  have hown : s.vm.findClass RJ0 = some m.cls := findClass_of_methodNamed B.named
  have hlocks := B.notSynchronized
  subst hsz
  have hD := hD0.self (sz := s.heap.size)
  generalize hAe : va_A (pre_J0_charAt_5068e_22 T a ex fi fl vi vl) s.heap.size = A at hD hQ hT
  have hA : ∀ q : Nat, s.heap.size ≤ q → A q := fun q h => by rw [← hAe]; exact Or.inr h
  have hS : va_S A s.heap s.heap [] := va_S.rf
  replace hP : va_P D vwCl [] s.heap := hP
  replace hD : va_D A [] := hD
  have hl := lv_entry ([.ref (kK 4), .int (vi 0)]) (n := 2) (Nat.le_of_ble_eq_true rfl)
  rw [lg_entry_eq]
  generalize (lg_sl ([.ref (kK 4), .int (vi 0)]) ++ List.replicate (2 - (lg_sl ([.ref (kK 4), .int (vi 0)])).length) Slot.unset).toArray = ls at hl ⊢
  replace hl : lv_has ls 2 [(0, .ref (kK 4)), (1, .int (vi 0))] := hl
  refine lv_aload_n hx hb dJ0_charAt_5068e_0 rfl (lv_at hl 0 rfl) ?_
  obtain ⟨hC9, hPc, hDc, hFc⟩ := xcut (wc := (pre_J0_isLatin1_aae02_22 T (xa []) (xa []) (xf []) (xh []) (xv []) (xl []))) hP hD hS hA [] (by decide) rfl
  refine va_calli (va_runV (As := []) (rest := []) ⟨hx, hb, hml, hown, htg⟩ (c_J0_isLatin1_aae02_22 l D T (xa []) (xa []) (xf []) (xh []) (xv []) (xl []) kK kV s.heap.size) ⟨callB_of 0 htg (xg_ok kw_61) rfl rfl rfl (htg _ kw_3) (htg _ kw_58) (by decide +kernel) ⟨by rw [hR]; exact Nat.le_of_ble_eq_true rfl, by rw [hR]; exact Nat.le_of_ble_eq_true rfl⟩, htg _ kw_59, htg _ kw_60⟩ (xpreVs hK hPc hDc hT hFc hS (xT.recv hT 4 (by decide) hS)) rfl rfl hl.1 rfl (lv_room (Nat.le_of_ble_eq_true rfl)) dJ0_charAt_5068e_1 ⟨by rw [hR]; exact Nat.le_of_ble_eq_true rfl, by rw [hR]; exact Nat.le_of_ble_eq_true rfl⟩) hS (fun q _ h => hFc q h) hFc (fun r9 u9 t H1 locs ht hvm hw hB hz1 hk1 hS => ?_)
  subst hw
  obtain ⟨fik, flk, vik, vlk, hP1, hD1, hG⟩ := hB
  rw [ht] at hP1
  obtain ⟨hP, hD⟩ := va_join (wr := []) (w1 := []) hP hD [] [] hC9 rfl (by decide) (by decide) hk1 hFc hP1 hD1
  obtain ⟨rk, er9⟩ : ∃ z, z = r9 := ⟨_, rfl⟩
  subst er9
  clear hPc hDc hFc hP1 hD1 hk1 hz1 hvm ht hC9
  generalize H1 = H at hP hS ⊢
  obtain ⟨hP, hD⟩ := (show xPD D A [] H from ⟨hP, hD⟩)
  obtain ⟨gk_0, -⟩ := hG
  replace gk_0 : rk = 1 := gk_0
  refine xz_i 1 gk_0 ?_
  refine lv_if_eq (tgt := 16) hx hb dJ0_charAt_5068e_4 (by decide) (fun c => absurd c (by decide)) (fun _ => ?_)
  refine lv_aload_n hx hb dJ0_charAt_5068e_7 rfl (lv_at hl 0 rfl) ?_
  refine vk_getf hx hb (hT.2.1 4 (by decide)).2.2.1 hS hown (htg _ kw_2030) (fun _ h9 => h9) dJ0_charAt_5068e_8 ?_
  refine lv_iload_n hx hb dJ0_charAt_5068e_11 rfl (lv_at hl 1 rfl) ?_
  obtain ⟨hC9, hPc, hDc, hFc⟩ := xcut (wc := (pre_J1_charAt_3b067_22 T (xa []) (xa []) (xf []) (xh []) (xv [(vi 0)]) (xl []))) hP hD hS hA [] (by decide) rfl
  refine va_calli (va_runS (As := [.ref (kV 4), .int (vi 0)]) (rest := []) ⟨hx, hb, hml, hown, htg⟩ (c_J1_charAt_3b067_22 l D T (xa []) (xa []) (xf []) (xh []) (xv [(vi 0)]) (xl []) kK kV H.size hp0) ⟨callB_of 2 htg (xg_ok kw_64) rfl rfl rfl (htg _ kw_4) (htg _ kw_62) (by decide +kernel) ⟨by rw [hR]; exact Nat.le_of_ble_eq_true rfl, by rw [hR]; exact Nat.le_of_ble_eq_true rfl⟩, htg _ kw_63⟩ (xpreSs hK hPc hDc hT hFc hS) rfl rfl hl.1 rfl (lv_room (Nat.le_of_ble_eq_true rfl)) dJ0_charAt_5068e_12 ⟨by rw [hR]; exact Nat.le_of_ble_eq_true rfl, by rw [hR]; exact Nat.le_of_ble_eq_true rfl⟩) hS (fun q _ h => hFc q h) hFc (fun r9 u9 t H1 locs ht hvm hw hB hz1 hk1 hS => ?_)
  subst hw
  obtain ⟨fik_1, flk_1, vik_1, vlk_1, hP1, hD1, hG⟩ := hB
  rw [ht] at hP1
  obtain ⟨hP, hD⟩ := va_join (wr := []) (w1 := []) hP hD [] [] hC9 rfl (by decide) (by decide) hk1 hFc hP1 hD1
  obtain ⟨rk_1, er9⟩ : ∃ z, z = r9 := ⟨_, rfl⟩
  subst er9
  clear hPc hDc hFc hP1 hD1 hk1 hz1 hvm ht hC9
  generalize H1 = H at hP hS ⊢
  obtain ⟨hP, hD⟩ := (show xPD D A [] H from ⟨hP, hD⟩)
  obtain ⟨gk_1_0, gk_1_1, -⟩ := hG
  replace gk_1_1 : rk_1 = (sBy.getD 4 []).getD ((vi 0).toInt).toNat 0 := (P_J1_charAt_3b067_22 gk_1_1 : _)
  replace gk_1_0 : narrow .char (.int rk_1) = .int rk_1 := gk_1_0
  have hP9 := hP.sub (ws' := []) [] rfl
  have hD9 := hD.sub (ws' := []) [] (by decide +kernel) rfl
  rw [hQ]
  exact W.zret (v := rk_1) hx hb hr gk_1_0 (fun t ht hW => ⟨⟨rk_1, rk_1, rfl, rfl, xf [], xh [], xv [], xl [], by rw [ht]; exact hP9, hD9, ⟨gk_1_0, (by unfold R_J0_charAt_5068e_22; exact (fun Q9 k9_0 => k9_0 hp0 fik flk vik vlk rk gk_0 fik_1 flk_1 vik_1 vlk_1 rk_1 gk_1_1 rfl)), trivial⟩⟩, hS.F ht⟩) hS.2.2 dJ0_charAt_5068e_15
abbrev pre_X6_isWord_22 (T : Nat → ClassId) (a ex : Nat → Nat) (fi : Nat → Nat → Int32) (fl : Nat → Nat → Int64) (vi : Nat → Int32) (vl : Nat → Int64) : va_W := [((a 0), .inr (6, [.ref (ex 0), .ref (ex 1), .int (vi 0), .int (vi 1), .int (vi 2), .int (vi 3), .int (vi 4), .int (vi 5), .long (vl 0), .int (vi 6), .int (vi 7), .int (vi 8), .int (vi 9), .int (vi 10)]))]
set_option maxHeartbeats 8000000 in
set_option maxRecDepth 100000 in
theorem c_X6_isWord_22 (l : Launch) (D : va_G) (T : Nat → ClassId) (a ex : Nat → Nat) (fi : Nat → Nat → Int32) (fl : Nat → Nat → Int64) (vi : Nat → Int32) (vl : Nat → Int64) (kK kV : Nat → Nat) (sz : Nat) (hp0 : 0 ≤ (vi 1).toInt ∧ (vi 1).toInt ≤ 940) (hp1 : 0 ≤ (vi 2).toInt ∧ (vi 2).toInt ≤ 940) (hp2 : 0 ≤ (vi 3).toInt ∧ (vi 3).toInt ≤ 940) (hp3 : 0 ≤ (vi 5).toInt ∧ (vi 5).toInt ≤ 940) (hp4 : 0 ≤ (vi 10).toInt ∧ (vi 10).toInt ≤ 940) : Met l yX6_isWord (xw yX6_isWord cX6_isWord 5 (some .boolean)) ({ frames := 4, cells := 0, slots := 0, locals := 101 }) (xPs D T kK kV [.ref (a 0), .ref (kK 4)] sz (pre_X6_isWord_22 T a ex fi fl vi vl)) (va_Qi (fun r u => r = u) (xC D (va_A (pre_X6_isWord_22 T a ex fi fl vi vl) sz) (fun fj fm vj vm => [((a 0), .inr (6, [.ref (ex 0), .ref (ex 1), .int (vi 0), .int (vi 1), .int (vi 2), .int (vi 3), .int (vi 4), .int (vi 5), .long (vl 0), .int (vi 6), .int (vi 7), .int (vi 8), .int (vi 9), .int (vi 10)]))]) (fun (r : Int32) (fj : Nat → Nat → Int32) (fm : Nat → Nat → Int64) (vj : Nat → Int32) (vm : Nat → Int64) => ((r = 1 ∧ (True)) ∨ (r = 0 ∧ (True))) ∧ R_X6_isWord_22 fi fl vi vl r fj fm vj vm ∧ True)) (va_A (pre_X6_isWord_22 T a ex fi fl vi vl) sz)) 0 0 (va_A (pre_X6_isWord_22 T a ex fi fl vi vl) sz) := by
  refine xofW (cc := cX6_isWord) (maxL := 5) (ret := (some .boolean)) (by decide) rfl ?_
  intro p e s m args below meth c s₁ R Q hR hQ B hml hv
  obtain ⟨rfl, hsz, hP, hK, hD0, hT⟩ := hv
  have hx := B.exec
  have hb := B.bytes
  have hr := B.returns
  have hts := atoms_spec (ws := xw yX6_isWord cX6_isWord 5 (some .boolean)) B.pre
  have htg : ∀ w ∈ xg, w.before _ s = true := fun w h => hts w (List.mem_cons_of_mem _ h)
  have hown : s.vm.findClass RX6 = some m.cls := findClass_of_methodNamed B.named
  have hlocks := B.notSynchronized
  subst hsz
  have hD := hD0.self (sz := s.heap.size)
  generalize hAe : va_A (pre_X6_isWord_22 T a ex fi fl vi vl) s.heap.size = A at hD hQ hT
  have hA : ∀ q : Nat, s.heap.size ≤ q → A q := fun q h => by rw [← hAe]; exact Or.inr h
  have hS : va_S A s.heap s.heap [] := va_S.rf
  replace hP : va_P D vwCl [((a 0), .inr (6, [.ref (ex 0), .ref (ex 1), .int (vi 0), .int (vi 1), .int (vi 2), .int (vi 3), .int (vi 4), .int (vi 5), .long (vl 0), .int (vi 6), .int (vi 7), .int (vi 8), .int (vi 9), .int (vi 10)]))] s.heap := hP
  replace hD : va_D A [((a 0), .inr (6, [.ref (ex 0), .ref (ex 1), .int (vi 0), .int (vi 1), .int (vi 2), .int (vi 3), .int (vi 4), .int (vi 5), .long (vl 0), .int (vi 6), .int (vi 7), .int (vi 8), .int (vi 9), .int (vi 10)]))] := hD
  have hl := lv_entry ([.ref (a 0), .ref (kK 4)]) (n := 5) (Nat.le_of_ble_eq_true rfl)
  rw [lg_entry_eq]
  generalize (lg_sl ([.ref (a 0), .ref (kK 4)]) ++ List.replicate (5 - (lg_sl ([.ref (a 0), .ref (kK 4)])).length) Slot.unset).toArray = ls at hl ⊢
  replace hl : lv_has ls 5 [(0, .ref (a 0)), (1, .ref (kK 4))] := hl
  refine lv_lconst (v := 0) hx hb dX6_isWord_0 (by decide) ?_
  refine lv_lstore_n (lv' := [(2, .long 0), (0, .ref (a 0)), (1, .ref (kK 4))]) hx hb dX6_isWord_1 rfl hl (by decide) rfl (fun ls hl => ?_)
  refine lv_iconst (v := 0) hx hb dX6_isWord_2 (by decide) ?_
  refine lv_istore (lv' := [(4, .int 0), (2, .long 0), (0, .ref (a 0)), (1, .ref (kK 4))]) hx hb dX6_isWord_3 hl (by decide) rfl (fun ls hl => ?_)
  have lp : ∀ (kn : Nat) (w4 : Int32) (w2 : Int64) (H : Heap) (locs : List Loc) (ls : Array Slot), (0 ≤ w4.toInt ∧ w4.toInt ≤ 4) → (w2 = pkw (sBy.getD 4 []) (w4.toInt).toNat) → (2147483648 - w4.toInt).toNat = kn → va_P D vwCl [((a 0), .inr (6, [.ref (ex 0), .ref (ex 1), .int (vi 0), .int (vi 1), .int (vi 2), .int (vi 3), .int (vi 4), .int (vi 5), .long (vl 0), .int (vi 6), .int (vi 7), .int (vi 8), .int (vi 9), .int (vi 10)]))] H → va_D A [((a 0), .inr (6, [.ref (ex 0), .ref (ex 1), .int (vi 0), .int (vi 1), .int (vi 2), .int (vi 3), .int (vi 4), .int (vi 5), .long (vl 0), .int (vi 6), .int (vi 7), .int (vi 8), .int (vi 9), .int (vi 10)]))] → va_S A s.heap H locs → lv_has ls 5 [(4, .int w4), (2, .long w2), (0, .ref (a 0)), (1, .ref (kK 4))] → W p l e R s m ([.ref (a 0), .ref (kK 4)] : List Value).toArray below meth c H locs 0 0 Q (F0 m 5 ls []) := by
    intro kn
    induction kn using Nat.strongRecOn with
    | _ kn ih =>
      intro w4 w2 H locs ls hi hpk9 hm hP hD hS hl
      refine lv_iload hx hb dX6_isWord_5 (lv_at hl 0 rfl) ?_
      refine lv_aload_n hx hb dX6_isWord_7 rfl (lv_at hl 3 rfl) ?_
      obtain ⟨hC9, hPc, hDc, hFc⟩ := xcut (wc := (pre_J0_length_8abf5_22 T (xa []) (xa []) (xf []) (xh []) (xv []) (xl []))) hP hD hS hA [] (by decide) rfl
      refine va_calli (va_runV (As := []) (rest := [.int w4]) ⟨hx, hb, hml, hown, htg⟩ (c_J0_length_8abf5_22 l D T (xa []) (xa []) (xf []) (xh []) (xv []) (xl []) kK kV H.size) ⟨callB_of 0 htg (xg_ok kw_47) rfl rfl rfl (htg _ kw_3) (htg _ kw_44) (by decide +kernel) ⟨by rw [hR]; exact Nat.le_of_ble_eq_true rfl, by rw [hR]; exact Nat.le_of_ble_eq_true rfl⟩, htg _ kw_45, htg _ kw_46⟩ (xpreVs hK hPc hDc hT hFc hS (xT.recv hT 4 (by decide) hS)) rfl rfl hl.1 rfl (lv_room (Nat.le_of_ble_eq_true rfl)) dX6_isWord_8 ⟨by rw [hR]; exact Nat.le_of_ble_eq_true rfl, by rw [hR]; exact Nat.le_of_ble_eq_true rfl⟩) hS (fun q _ h => hFc q h) hFc (fun r9 u9 t H1 locs ht hvm hw hB hz1 hk1 hS => ?_)
      subst hw
      obtain ⟨fik, flk, vik, vlk, hP1, hD1, hG⟩ := hB
      rw [ht] at hP1
      obtain ⟨hP, hD⟩ := va_join (wr := [((a 0), .inr (6, [.ref (ex 0), .ref (ex 1), .int (vi 0), .int (vi 1), .int (vi 2), .int (vi 3), .int (vi 4), .int (vi 5), .long (vl 0), .int (vi 6), .int (vi 7), .int (vi 8), .int (vi 9), .int (vi 10)]))]) (w1 := []) hP hD [] [0] hC9 rfl (by decide) (by decide) hk1 hFc hP1 hD1
      obtain ⟨rk, er9⟩ : ∃ z, z = r9 := ⟨_, rfl⟩
      subst er9
      clear hPc hDc hFc hP1 hD1 hk1 hz1 hvm ht hC9
      generalize H1 = H at hP hS ⊢
      obtain ⟨hP, hD⟩ := (show xPD D A [((a 0), .inr (6, [.ref (ex 0), .ref (ex 1), .int (vi 0), .int (vi 1), .int (vi 2), .int (vi 3), .int (vi 4), .int (vi 5), .long (vl 0), .int (vi 6), .int (vi 7), .int (vi 8), .int (vi 9), .int (vi 10)]))] H from ⟨hP, hD⟩)
      obtain ⟨gk_0, -⟩ := hG
      replace gk_0 : rk = 4 := gk_0
      refine xz_i 4 gk_0 ?_
      refine lv_icmp_ge (tgt := 33) hx hb dX6_isWord_11 (by decide) (fun c11 => ?_) (fun c11 => ?_)
      · have c11 := xge (k := 4) (by decide) c11
        refine lv_aload_n hx hb dX6_isWord_33 rfl (lv_at hl 2 rfl) ?_
        refine va_get (D := D) (ci := 6) (v := .int (vi 4)) (C := RX6) (T := TX6) (N := 14) hx hb htg inX6 hown hK.1 hP 0 rfl rfl 6 (by decide) (htg _ kw_104) (fun _ h9 => h9) rfl dX6_isWord_34 ?_
        refine lv_iconst (v := 1) hx hb dX6_isWord_37 (by decide) ?_
        refine lv_icmp_ne (tgt := 54) hx hb dX6_isWord_38 (by decide) (fun c38 => ?_) (fun c38 => ?_)
        · have c38 := xne (k := 1) (by decide) c38
          refine lv_iconst (v := 0) hx hb dX6_isWord_54 (by decide) ?_
          have hP9 := hP.sub (ws' := [((a 0), .inr (6, [.ref (ex 0), .ref (ex 1), .int (vi 0), .int (vi 1), .int (vi 2), .int (vi 3), .int (vi 4), .int (vi 5), .long (vl 0), .int (vi 6), .int (vi 7), .int (vi 8), .int (vi 9), .int (vi 10)]))]) [0] rfl
          have hD9 := hD.sub (ws' := [((a 0), .inr (6, [.ref (ex 0), .ref (ex 1), .int (vi 0), .int (vi 1), .int (vi 2), .int (vi 3), .int (vi 4), .int (vi 5), .long (vl 0), .int (vi 6), .int (vi 7), .int (vi 8), .int (vi 9), .int (vi 10)]))]) [0] (by decide +kernel) rfl
          rw [hQ]
          exact W.zret (v := 0) hx hb hr rfl (fun t ht hW => ⟨⟨0, 0, rfl, rfl, xf [], xh [], xv [], xl [], by rw [ht]; exact hP9, hD9, ⟨(Or.inr ⟨rfl, by show True; first | trivial | omega | assumption⟩), (by unfold R_X6_isWord_22; exact (fun Q9 k9_0 k9_1 k9_2 => k9_0 hp0 hp1 hp2 hp3 hp4 w4 w2 hi hpk9 fik flk vik vlk rk gk_0 c11 c38 rfl)), trivial⟩⟩, hS.F ht⟩) hS.2.2 dX6_isWord_55
        · have c38 := xeq (k := 1) (by decide) c38
          refine lv_lload_n hx hb dX6_isWord_41 rfl (lv_at hl 1 rfl) ?_
          refine lv_aload_n hx hb dX6_isWord_42 rfl (lv_at hl 2 rfl) ?_
          refine va_get (D := D) (ci := 6) (v := .long (vl 0)) (C := RX6) (T := TX6) (N := 14) hx hb htg inX6 hown hK.1 hP 0 rfl rfl 8 (by decide) (htg _ kw_108) (fun _ h9 => h9) rfl dX6_isWord_43 ?_
          refine W.lcmp hx hb dX6_isWord_46 ?_
          refine lv_topi (fun z46 ez46 => ?_)
          refine lv_if_ne (tgt := 54) hx hb dX6_isWord_47 (by decide) (fun c47 => ?_) (fun c47 => ?_)
          · have c47 := xne (k := 0) (by decide) c47
            refine lv_iconst (v := 0) hx hb dX6_isWord_54 (by decide) ?_
            have hP9 := hP.sub (ws' := [((a 0), .inr (6, [.ref (ex 0), .ref (ex 1), .int (vi 0), .int (vi 1), .int (vi 2), .int (vi 3), .int (vi 4), .int (vi 5), .long (vl 0), .int (vi 6), .int (vi 7), .int (vi 8), .int (vi 9), .int (vi 10)]))]) [0] rfl
            have hD9 := hD.sub (ws' := [((a 0), .inr (6, [.ref (ex 0), .ref (ex 1), .int (vi 0), .int (vi 1), .int (vi 2), .int (vi 3), .int (vi 4), .int (vi 5), .long (vl 0), .int (vi 6), .int (vi 7), .int (vi 8), .int (vi 9), .int (vi 10)]))]) [0] (by decide +kernel) rfl
            rw [hQ]
            exact W.zret (v := 0) hx hb hr rfl (fun t ht hW => ⟨⟨0, 0, rfl, rfl, xf [], xh [], xv [], xl [], by rw [ht]; exact hP9, hD9, ⟨(Or.inr ⟨rfl, by show True; first | trivial | omega | assumption⟩), (by unfold R_X6_isWord_22; exact (fun Q9 k9_0 k9_1 k9_2 => k9_1 hp0 hp1 hp2 hp3 hp4 w4 w2 hi hpk9 fik flk vik vlk rk gk_0 c11 c38 z46 ez46 c47 rfl)), trivial⟩⟩, hS.F ht⟩) hS.2.2 dX6_isWord_55
          · have c47 := xeq (k := 0) (by decide) c47
            refine lv_iconst (v := 1) hx hb dX6_isWord_50 (by decide) ?_
            refine lv_goto (tgt := 55) hx hb dX6_isWord_51 (by decide) ?_
            have hP9 := hP.sub (ws' := [((a 0), .inr (6, [.ref (ex 0), .ref (ex 1), .int (vi 0), .int (vi 1), .int (vi 2), .int (vi 3), .int (vi 4), .int (vi 5), .long (vl 0), .int (vi 6), .int (vi 7), .int (vi 8), .int (vi 9), .int (vi 10)]))]) [0] rfl
            have hD9 := hD.sub (ws' := [((a 0), .inr (6, [.ref (ex 0), .ref (ex 1), .int (vi 0), .int (vi 1), .int (vi 2), .int (vi 3), .int (vi 4), .int (vi 5), .long (vl 0), .int (vi 6), .int (vi 7), .int (vi 8), .int (vi 9), .int (vi 10)]))]) [0] (by decide +kernel) rfl
            rw [hQ]
            exact W.zret (v := 1) hx hb hr rfl (fun t ht hW => ⟨⟨1, 1, rfl, rfl, xf [], xh [], xv [], xl [], by rw [ht]; exact hP9, hD9, ⟨(Or.inl ⟨rfl, by show True; first | trivial | omega | assumption⟩), (by unfold R_X6_isWord_22; exact (fun Q9 k9_0 k9_1 k9_2 => k9_2 hp0 hp1 hp2 hp3 hp4 w4 w2 hi hpk9 fik flk vik vlk rk gk_0 c11 c38 z46 ez46 c47 rfl)), trivial⟩⟩, hS.F ht⟩) hS.2.2 dX6_isWord_55
      · have c11 := xnge (k := 4) (by decide) c11
        refine lv_lload_n hx hb dX6_isWord_14 rfl (lv_at hl 1 rfl) ?_
        refine lv_bipush (v := 8) hx hb dX6_isWord_15 (by decide) ?_
        refine lv_lshl hx hb dX6_isWord_17 rfl ?_
        refine lv_topl (fun z17 ez17 => ?_)
        refine lv_aload_n hx hb dX6_isWord_18 rfl (lv_at hl 3 rfl) ?_
        refine lv_iload hx hb dX6_isWord_19 (lv_at hl 0 rfl) ?_
        obtain ⟨hC9, hPc, hDc, hFc⟩ := xcut (wc := (pre_J0_charAt_5068e_22 T (xa []) (xa []) (xf []) (xh []) (xv [w4]) (xl []))) hP hD hS hA [] (by decide) rfl
        refine va_calli (va_runV (As := [.int w4]) (rest := [.long z17]) ⟨hx, hb, hml, hown, htg⟩ (c_J0_charAt_5068e_22 l D T (xa []) (xa []) (xf []) (xh []) (xv [w4]) (xl []) kK kV H.size (by show 0 ≤ w4.toInt ∧ w4.toInt ≤ 3; omega)) ⟨callB_of 1 htg (xg_ok kw_57) rfl rfl rfl (htg _ kw_3) (htg _ kw_54) (by decide +kernel) ⟨by rw [hR]; exact Nat.le_of_ble_eq_true rfl, by rw [hR]; exact Nat.le_of_ble_eq_true rfl⟩, htg _ kw_55, htg _ kw_56⟩ (xpreVs hK hPc hDc hT hFc hS (xT.recv hT 4 (by decide) hS)) rfl rfl hl.1 rfl (lv_room (Nat.le_of_ble_eq_true rfl)) dX6_isWord_21 ⟨by rw [hR]; exact Nat.le_of_ble_eq_true rfl, by rw [hR]; exact Nat.le_of_ble_eq_true rfl⟩) hS (fun q _ h => hFc q h) hFc (fun r9 u9 t H1 locs ht hvm hw hB hz1 hk1 hS => ?_)
        subst hw
        obtain ⟨fik_1, flk_1, vik_1, vlk_1, hP1, hD1, hG⟩ := hB
        rw [ht] at hP1
        obtain ⟨hP, hD⟩ := va_join (wr := [((a 0), .inr (6, [.ref (ex 0), .ref (ex 1), .int (vi 0), .int (vi 1), .int (vi 2), .int (vi 3), .int (vi 4), .int (vi 5), .long (vl 0), .int (vi 6), .int (vi 7), .int (vi 8), .int (vi 9), .int (vi 10)]))]) (w1 := []) hP hD [] [0] hC9 rfl (by decide) (by decide) hk1 hFc hP1 hD1
        obtain ⟨rk_1, er9⟩ : ∃ z, z = r9 := ⟨_, rfl⟩
        subst er9
        clear hPc hDc hFc hP1 hD1 hk1 hz1 hvm ht hC9
        generalize H1 = H at hP hS ⊢
        obtain ⟨hP, hD⟩ := (show xPD D A [((a 0), .inr (6, [.ref (ex 0), .ref (ex 1), .int (vi 0), .int (vi 1), .int (vi 2), .int (vi 3), .int (vi 4), .int (vi 5), .long (vl 0), .int (vi 6), .int (vi 7), .int (vi 8), .int (vi 9), .int (vi 10)]))] H from ⟨hP, hD⟩)
        obtain ⟨gk_1_0, gk_1_1, -⟩ := hG
        replace gk_1_1 : rk_1 = (sBy.getD 4 []).getD (w4.toInt).toNat 0 := (P_J0_charAt_5068e_22 gk_1_1 : _)
        replace gk_1_0 : narrow .char (.int rk_1) = .int rk_1 := gk_1_0
        refine lv_i2l hx hb dX6_isWord_24 rfl ?_
        refine lv_topl (fun z24 ez24 => ?_)
        refine lv_lor hx hb dX6_isWord_25 ?_
        refine lv_topl (fun z25 ez25 => ?_)
        refine lv_lstore_n (lv' := [(2, .long z25), (4, .int w4), (0, .ref (a 0)), (1, .ref (kK 4))]) hx hb dX6_isWord_26 rfl hl (by decide) rfl (fun ls hl => ?_)
        obtain ⟨i27, ei27⟩ : ∃ z : Int32, w4 + Int32.ofInt 1 = z := ⟨_, rfl⟩
        have ti27 : i27.toInt = w4.toInt + 1 := by rw [← ei27]; have h79 := xrng w4; exact xadd rfl (by decide) (by omega) (by omega)
        refine lv_iinc (v := i27) (lv' := [(4, .int i27), (2, .long z25), (0, .ref (a 0)), (1, .ref (kK 4))]) hx hb dX6_isWord_27 hl (k := 1) rfl ei27 (by decide) rfl (fun ls hl => ?_)
        refine lv_goto (tgt := 5) hx hb dX6_isWord_30 (by decide) ?_
        exact ih _ (by omega) i27 z25 _ _ _ (by show 0 ≤ i27.toInt ∧ i27.toInt ≤ 4; omega) (by show z25 = pkw (sBy.getD 4 []) (i27.toInt).toNat; rw [ez25, ez17, ez24]; exact pkw_s hpk9 (by omega) (by omega) (by assumption)) rfl (hP.sub [0] rfl) (hD.sub [0] (by decide) rfl) hS (lv_sub hl [0, 1, 2, 3] rfl)
  exact lp _ (0 : Int32) (0 : Int64) _ _ _ (show 0 ≤ (0 : Int32).toInt ∧ (0 : Int32).toInt ≤ 4 by decide) (by show (0 : Int64) = pkw (sBy.getD 4 []) ((0 : Int32).toInt).toNat; have k9_0 : (0 : Int32).toInt = 0 := (by decide); rw [show (0 : Int32).toInt.toNat = 0 by decide]; rfl) rfl hP hD hS hl
abbrev pre_X8_passOnce (T : Nat → ClassId) (a ex : Nat → Nat) (fi : Nat → Nat → Int32) (fl : Nat → Nat → Int64) (vi : Nat → Int32) (vl : Nat → Int64) : va_W := [((a 0), .inr (8, [.ref (a 1), .ref (ex 0), .int (vi 1)])), ((a 1), .inr (6, [.ref (a 3), .ref (a 2), .int (vi 2), .int (vi 3), .int (vi 4), .int (vi 5), .int (vi 6), .int (vi 7), .long (vl 0), .int (vi 8), .int (vi 9), .int (vi 10), .int (vi 11), .int (vi 12)])), ((a 2), .inl (T 2, 27, .inr (.inl (fl 0)))), ((a 3), .inl (T 0, 940, .inl (fi 0))), ((a 4), .inl (T 1, 9, .inl (fi 1)))]
set_option maxHeartbeats 8000000 in
set_option maxRecDepth 100000 in
theorem c_X8_passOnce (l : Launch) (D : va_G) (T : Nat → ClassId) (a ex : Nat → Nat) (fi : Nat → Nat → Int32) (fl : Nat → Nat → Int64) (vi : Nat → Int32) (vl : Nat → Int64) (sz : Nat) (hp0 : 0 ≤ (vi 3).toInt ∧ (vi 3).toInt ≤ 940) (hp1 : 0 ≤ (vi 4).toInt ∧ (vi 4).toInt ≤ 940) (hp2 : 0 ≤ (vi 5).toInt ∧ (vi 5).toInt ≤ 940) (hp3 : 0 ≤ (vi 7).toInt ∧ (vi 7).toInt ≤ 940) (hp4 : 0 ≤ (vi 12).toInt ∧ (vi 12).toInt ≤ 940) : Met l yX8_passOnce (xw yX8_passOnce cX8_passOnce 4 (some .boolean)) ({ frames := 2, cells := 0, slots := 0, locals := 52 }) (xP D T [.ref (a 0), .int (vi 0), .ref (a 4)] sz (pre_X8_passOnce T a ex fi fl vi vl)) (va_Qi (fun r u => r = u) (xC D (va_A (pre_X8_passOnce T a ex fi fl vi vl) sz) (fun fj fm vj vm => [((a 0), .inr (8, [.ref (a 1), .ref (ex 0), .int (vi 1)])), ((a 1), .inr (6, [.ref (a 3), .ref (a 2), .int (vi 2), .int (vi 3), .int (vi 4), .int (vj 5), .int (vj 1), .int (vj 2), .long (vm 0), .int (vj 4), .int (vj 3), .int (vj 0), .int (vj 6), .int (vj 7)])), ((a 2), .inl (T 2, 27, .inr (.inl (fl 0)))), ((a 3), .inl (T 0, 940, .inl (fi 0))), ((a 4), .inl (T 1, 9, .inl (fi 1)))]) (fun (r : Int32) (fj : Nat → Nat → Int32) (fm : Nat → Nat → Int64) (vj : Nat → Int32) (vm : Nat → Int64) => ((r = 1 ∧ ((vj 0).toInt = (vi 0).toInt ∧ ¬ (vi 0).toInt = -1)) ∨ (r = 0 ∧ (True))) ∧ (0 ≤ (vj 5).toInt ∧ (vj 5).toInt ≤ 940) ∧ (0 ≤ (vj 2).toInt ∧ (vj 2).toInt ≤ 940) ∧ (0 ≤ (vj 7).toInt ∧ (vj 7).toInt ≤ 940) ∧ (r.toInt = 1 → (vj 6).toInt = (vi 11).toInt) ∧ R_X8_passOnce fi fl vi vl r fj fm vj vm ∧ True)) (va_A (pre_X8_passOnce T a ex fi fl vi vl) sz)) 0 0 (va_A (pre_X8_passOnce T a ex fi fl vi vl) sz) := by
  refine xofW (cc := cX8_passOnce) (maxL := 4) (ret := (some .boolean)) (by decide) rfl ?_
  intro p e s m args below meth c s₁ R Q hR hQ B hml hv
  obtain ⟨rfl, hsz, hP, hK, hD0⟩ := hv
  have hx := B.exec
  have hb := B.bytes
  have hr := B.returns
  have hts := atoms_spec (ws := xw yX8_passOnce cX8_passOnce 4 (some .boolean)) B.pre
  have htg : ∀ w ∈ xg, w.before _ s = true := fun w h => hts w (List.mem_cons_of_mem _ h)
  have hown : s.vm.findClass RX8 = some m.cls := findClass_of_methodNamed B.named
  have hlocks := B.notSynchronized
  subst hsz
  have hD := hD0.self (sz := s.heap.size)
  generalize hAe : va_A (pre_X8_passOnce T a ex fi fl vi vl) s.heap.size = A at hD hQ
  have hA : ∀ q : Nat, s.heap.size ≤ q → A q := fun q h => by rw [← hAe]; exact Or.inr h
  have hS : va_S A s.heap s.heap [] := va_S.rf
  replace hP : va_P D vwCl [((a 0), .inr (8, [.ref (a 1), .ref (ex 0), .int (vi 1)])), ((a 1), .inr (6, [.ref (a 3), .ref (a 2), .int (vi 2), .int (vi 3), .int (vi 4), .int (vi 5), .int (vi 6), .int (vi 7), .long (vl 0), .int (vi 8), .int (vi 9), .int (vi 10), .int (vi 11), .int (vi 12)])), ((a 2), .inl (T 2, 27, .inr (.inl (fl 0)))), ((a 3), .inl (T 0, 940, .inl (fi 0))), ((a 4), .inl (T 1, 9, .inl (fi 1)))] s.heap := hP
  replace hD : va_D A [((a 0), .inr (8, [.ref (a 1), .ref (ex 0), .int (vi 1)])), ((a 1), .inr (6, [.ref (a 3), .ref (a 2), .int (vi 2), .int (vi 3), .int (vi 4), .int (vi 5), .int (vi 6), .int (vi 7), .long (vl 0), .int (vi 8), .int (vi 9), .int (vi 10), .int (vi 11), .int (vi 12)])), ((a 2), .inl (T 2, 27, .inr (.inl (fl 0)))), ((a 3), .inl (T 0, 940, .inl (fi 0))), ((a 4), .inl (T 1, 9, .inl (fi 1)))] := hD
  have hl := lv_entry ([.ref (a 0), .int (vi 0), .ref (a 4)]) (n := 4) (Nat.le_of_ble_eq_true rfl)
  rw [lg_entry_eq]
  generalize (lg_sl ([.ref (a 0), .int (vi 0), .ref (a 4)]) ++ List.replicate (4 - (lg_sl ([.ref (a 0), .int (vi 0), .ref (a 4)])).length) Slot.unset).toArray = ls at hl ⊢
  replace hl : lv_has ls 4 [(0, .ref (a 0)), (1, .int (vi 0)), (2, .ref (a 4))] := hl
  refine lv_aload_n hx hb dX8_passOnce_0 rfl (lv_at hl 0 rfl) ?_
  refine va_get (D := D) (ci := 8) (v := .ref (a 1)) (C := RX8) (T := TX8) (N := 3) hx hb htg inX8 hown hK.1 hP 0 rfl rfl 0 (by decide) (htg _ kw_228) (fun _ h9 => h9) rfl dX8_passOnce_1 ?_
  refine va_getN (D := D) (ci := 6) (v := .int (vi 6)) (C := RX6) (T := TX6) (N := 14) hx hb htg inX6 hown hK.1 hP 1 rfl rfl 6 (by decide) (va_Nw.use rfl (hK.2.1 _ kn_102)) (fun _ h9 => h9) rfl dX8_passOnce_4 ?_
  refine lv_iconst (v := 1) hx hb dX8_passOnce_7 (by decide) ?_
  refine lv_icmp_ne (tgt := 25) hx hb dX8_passOnce_8 (by decide) (fun c8 => ?_) (fun c8 => ?_)
  · have c8 := xne (k := 1) (by decide) c8
    refine lv_iconst (v := 0) hx hb dX8_passOnce_25 (by decide) ?_
    refine lv_istore_n (lv' := [(3, .int 0), (0, .ref (a 0)), (1, .int (vi 0)), (2, .ref (a 4))]) hx hb dX8_passOnce_26 rfl hl (by decide) rfl (fun ls hl => ?_)
    refine lv_iload_n hx hb dX8_passOnce_27 rfl (lv_at hl 0 rfl) ?_
    refine lv_if_eq (tgt := 47) hx hb dX8_passOnce_28 (by decide) (fun _ => ?_) (fun c => absurd (by decide) c)
    refine lv_aload_n hx hb dX8_passOnce_47 rfl (lv_at hl 1 rfl) ?_
    refine va_get (D := D) (ci := 8) (v := .ref (a 1)) (C := RX8) (T := TX8) (N := 3) hx hb htg inX8 hown hK.1 hP 0 rfl rfl 0 (by decide) (htg _ kw_228) (fun _ h9 => h9) rfl dX8_passOnce_48 ?_
    refine lv_iload_n hx hb dX8_passOnce_51 rfl (lv_at hl 2 rfl) ?_
    obtain ⟨hC9, hPc, hDc, hFc⟩ := xcut (wc := (pre_X6_passKnown T (xa [(a 1), (a 2), (a 3)]) (xa []) (xf [(fi 0)]) (xh [(fl 0)]) (xv [(vi 0), (vi 2), (vi 3), (vi 4), (vi 5), (vi 6), (vi 7), (vi 8), (vi 9), (vi 10), (vi 11), (vi 12)]) (xl [(vl 0)]))) hP hD hS hA [1, 2, 3] (by decide) rfl
    refine va_calli (va_runVN (As := [.int (vi 0)]) (rest := []) ⟨hx, hb, hml, hown, htg⟩ (c_X6_passKnown l D T (xa [(a 1), (a 2), (a 3)]) (xa []) (xf [(fi 0)]) (xh [(fl 0)]) (xv [(vi 0), (vi 2), (vi 3), (vi 4), (vi 5), (vi 6), (vi 7), (vi 8), (vi 9), (vi 10), (vi 11), (vi 12)]) (xl [(vl 0)]) s.heap.size hp0 hp1 hp2 hp3 hp4) ⟨va_cnB 1 htg (xg_ok kw_640) rfl rfl rfl (hK.2.1 _ kn_637) (htg _ kw_2) (by decide +kernel) ⟨by rw [hR]; exact Nat.le_of_ble_eq_true rfl, by rw [hR]; exact Nat.le_of_ble_eq_true rfl⟩, htg _ kw_639, htg _ ks_20⟩ (xpreV hK hPc hDc (va_recv hK.1 hPc (ci := 6) (q0 := 0) rfl rfl)) rfl rfl hl.1 rfl (lv_room (Nat.le_of_ble_eq_true rfl)) dX8_passOnce_52 ⟨by rw [hR]; exact Nat.le_of_ble_eq_true rfl, by rw [hR]; exact Nat.le_of_ble_eq_true rfl⟩) hS (fun q _ h => hFc q h) hFc (fun r9 u9 t H1 locs ht hvm hw hB hz1 hk1 hS => ?_)
    subst hw
    obtain ⟨fik, flk, vik, vlk, hP1, hD1, hG⟩ := hB
    rw [ht] at hP1
    obtain ⟨hP, hD⟩ := va_join (wr := [((a 0), .inr (8, [.ref (a 1), .ref (ex 0), .int (vi 1)])), ((a 4), .inl (T 1, 9, .inl (fi 1)))]) (w1 := [((a 1), .inr (6, [.ref (a 3), .ref (a 2), .int (vi 2), .int (vi 3), .int (vi 4), .int (vik 5), .int (vik 1), .int (vik 2), .long (vlk 0), .int (vik 4), .int (vik 3), .int (vik 0), .int (vik 6), .int (vik 7)])), ((a 2), .inl (T 2, 27, .inr (.inl (fl 0)))), ((a 3), .inl (T 0, 940, .inl (fi 0)))]) hP hD [1, 2, 3] [0, 4] hC9 rfl (by decide) (by decide) hk1 hFc hP1 hD1
    obtain ⟨rk, er9⟩ : ∃ z, z = r9 := ⟨_, rfl⟩
    subst er9
    clear hPc hDc hFc hP1 hD1 hk1 hz1 hvm ht hC9
    generalize H1 = H at hP hS ⊢
    obtain ⟨hP, hD⟩ := (show xPD D A [((a 0), .inr (8, [.ref (a 1), .ref (ex 0), .int (vi 1)])), ((a 4), .inl (T 1, 9, .inl (fi 1))), ((a 1), .inr (6, [.ref (a 3), .ref (a 2), .int (vi 2), .int (vi 3), .int (vi 4), .int (vik 5), .int (vik 1), .int (vik 2), .long (vlk 0), .int (vik 4), .int (vik 3), .int (vik 0), .int (vik 6), .int (vik 7)])), ((a 2), .inl (T 2, 27, .inr (.inl (fl 0)))), ((a 3), .inl (T 0, 940, .inl (fi 0)))] H from ⟨hP, hD⟩)
    obtain ⟨gk_0, gk_1, gk_2, gk_3, gk_4, gk_5, -⟩ := hG
    replace gk_5 : ∀ n m t : Nat, CC (trn (fi 0) n) n m t (vi 3) (vi 4) (vi 6) (vi 7) (vi 5) (vl 0) (vi 8) (vi 9) → (rk.toInt = 1 ∧ (wMay (trn (fi 0) n) n m (ownB (fl 0)) t) ∧ ¬ (vi 0).toInt = -1 ∧ (vik 0).toInt = (vi 0).toInt ∧ CC (trn (fi 0) n) n m (sX (trn (fi 0) n) n m t) (vi 3) (vi 4) (vik 1) (vik 2) (vik 5) (vlk 0) (vik 4) (vik 3)) ∨ (rk.toInt = 0 ∧ ¬ (wMay (trn (fi 0) n) n m (ownB (fl 0)) t) ∧ (vik 6).toInt = 1 ∧ (vik 7).toInt = ((sPn (trn (fi 0) n) n m t) : Int)) ∨ (rk.toInt = 0 ∧ (wMay (trn (fi 0) n) n m (ownB (fl 0)) t) ∧ (vi 0).toInt = -1 ∧ (vik 6).toInt = 3 ∧ (vik 7).toInt = ((sPn (trn (fi 0) n) n m t) : Int)) := (P_X6_passKnown gk_5 : _)
    replace gk_1 : 0 ≤ (vik 5).toInt ∧ (vik 5).toInt ≤ 940 := gk_1
    replace gk_2 : 0 ≤ (vik 2).toInt ∧ (vik 2).toInt ≤ 940 := gk_2
    replace gk_3 : 0 ≤ (vik 7).toInt ∧ (vik 7).toInt ≤ 940 := gk_3
    replace gk_4 : rk.toInt = 1 → (vik 6).toInt = (vi 11).toInt := gk_4
    rcases (show (rk = 1 ∧ ((vik 0).toInt = (vi 0).toInt ∧ ¬ (vi 0).toInt = -1 ∧ (vi 6).toInt = 1)) ∨ (rk = 0 ∧ (True)) from gk_0) with ⟨er9, gk_0⟩ | ⟨er9, gk_0⟩
    · refine xz_i 1 er9 ?_
      have tb : rk.toInt = 1 := by rw [er9]; decide
      have hP9 := hP.sub (ws' := [((a 0), .inr (8, [.ref (a 1), .ref (ex 0), .int (vi 1)])), ((a 1), .inr (6, [.ref (a 3), .ref (a 2), .int (vi 2), .int (vi 3), .int (vi 4), .int (vik 5), .int (vik 1), .int (vik 2), .long (vlk 0), .int (vik 4), .int (vik 3), .int (vik 0), .int (vik 6), .int (vik 7)])), ((a 2), .inl (T 2, 27, .inr (.inl (fl 0)))), ((a 3), .inl (T 0, 940, .inl (fi 0))), ((a 4), .inl (T 1, 9, .inl (fi 1)))]) [0, 2, 3, 4, 1] rfl
      have hD9 := hD.sub (ws' := [((a 0), .inr (8, [.ref (a 1), .ref (ex 0), .int (vi 1)])), ((a 1), .inr (6, [.ref (a 3), .ref (a 2), .int (vi 2), .int (vi 3), .int (vi 4), .int (vik 5), .int (vik 1), .int (vik 2), .long (vlk 0), .int (vik 4), .int (vik 3), .int (vik 0), .int (vik 6), .int (vik 7)])), ((a 2), .inl (T 2, 27, .inr (.inl (fl 0)))), ((a 3), .inl (T 0, 940, .inl (fi 0))), ((a 4), .inl (T 1, 9, .inl (fi 1)))]) [0, 2, 3, 4, 1] (by decide +kernel) rfl
      rw [hQ]
      exact W.zret (v := 1) hx hb hr rfl (fun t ht hW => ⟨⟨1, 1, rfl, rfl, xf [], xh [], xv [(vik 0), (vik 1), (vik 2), (vik 3), (vik 4), (vik 5), (vik 6), (vik 7)], xl [(vlk 0)], by rw [ht]; exact hP9, hD9, ⟨(Or.inl ⟨rfl, by show (vik 0).toInt = (vi 0).toInt ∧ ¬ (vi 0).toInt = -1; first | trivial | omega | assumption⟩), gk_1, gk_2, gk_3, (by show (1 : Int32).toInt = 1 → (vik 6).toInt = (vi 11).toInt; have k9_0 : (1 : Int32).toInt = 1 := (by decide); exact fun _ => (gk_4 tb)), (by unfold R_X8_passOnce; exact (fun Q9 k9_0 k9_1 k9_2 k9_3 k9_4 k9_5 k9_6 k9_7 k9_8 => k9_0 c8 fik flk vik vlk rk gk_5 tb gk_0 rfl rfl rfl rfl rfl rfl rfl rfl rfl rfl)), trivial⟩⟩, hS.F ht⟩) hS.2.2 dX8_passOnce_55
    · refine xz_i 0 er9 ?_
      have tb : rk.toInt = 0 := by rw [er9]; decide
      have hP9 := hP.sub (ws' := [((a 0), .inr (8, [.ref (a 1), .ref (ex 0), .int (vi 1)])), ((a 1), .inr (6, [.ref (a 3), .ref (a 2), .int (vi 2), .int (vi 3), .int (vi 4), .int (vik 5), .int (vik 1), .int (vik 2), .long (vlk 0), .int (vik 4), .int (vik 3), .int (vik 0), .int (vik 6), .int (vik 7)])), ((a 2), .inl (T 2, 27, .inr (.inl (fl 0)))), ((a 3), .inl (T 0, 940, .inl (fi 0))), ((a 4), .inl (T 1, 9, .inl (fi 1)))]) [0, 2, 3, 4, 1] rfl
      have hD9 := hD.sub (ws' := [((a 0), .inr (8, [.ref (a 1), .ref (ex 0), .int (vi 1)])), ((a 1), .inr (6, [.ref (a 3), .ref (a 2), .int (vi 2), .int (vi 3), .int (vi 4), .int (vik 5), .int (vik 1), .int (vik 2), .long (vlk 0), .int (vik 4), .int (vik 3), .int (vik 0), .int (vik 6), .int (vik 7)])), ((a 2), .inl (T 2, 27, .inr (.inl (fl 0)))), ((a 3), .inl (T 0, 940, .inl (fi 0))), ((a 4), .inl (T 1, 9, .inl (fi 1)))]) [0, 2, 3, 4, 1] (by decide +kernel) rfl
      rw [hQ]
      exact W.zret (v := 0) hx hb hr rfl (fun t ht hW => ⟨⟨0, 0, rfl, rfl, xf [], xh [], xv [(vik 0), (vik 1), (vik 2), (vik 3), (vik 4), (vik 5), (vik 6), (vik 7)], xl [(vlk 0)], by rw [ht]; exact hP9, hD9, ⟨(Or.inr ⟨rfl, by show True; first | trivial | omega | assumption⟩), gk_1, gk_2, gk_3, (by show (0 : Int32).toInt = 1 → (vik 6).toInt = (vi 11).toInt; have k9_0 : (0 : Int32).toInt = 0 := (by decide); exact fun h9 => absurd h9 (by decide)), (by unfold R_X8_passOnce; exact (fun Q9 k9_0 k9_1 k9_2 k9_3 k9_4 k9_5 k9_6 k9_7 k9_8 => k9_1 c8 fik flk vik vlk rk gk_5 tb gk_0 rfl rfl rfl rfl rfl rfl rfl rfl rfl rfl)), trivial⟩⟩, hS.F ht⟩) hS.2.2 dX8_passOnce_55
  · have c8 := xeq (k := 1) (by decide) c8
    refine lv_iload_n hx hb dX8_passOnce_11 rfl (lv_at hl 1 rfl) ?_
    refine lv_if_lt (tgt := 25) hx hb dX8_passOnce_12 (by decide) (fun c12 => ?_) (fun c12 => ?_)
    · have c12 := xlt (k := 0) (by decide) c12
      refine lv_iconst (v := 0) hx hb dX8_passOnce_25 (by decide) ?_
      refine lv_istore_n (lv' := [(3, .int 0), (0, .ref (a 0)), (1, .int (vi 0)), (2, .ref (a 4))]) hx hb dX8_passOnce_26 rfl hl (by decide) rfl (fun ls hl => ?_)
      refine lv_iload_n hx hb dX8_passOnce_27 rfl (lv_at hl 0 rfl) ?_
      refine lv_if_eq (tgt := 47) hx hb dX8_passOnce_28 (by decide) (fun _ => ?_) (fun c => absurd (by decide) c)
      refine lv_aload_n hx hb dX8_passOnce_47 rfl (lv_at hl 1 rfl) ?_
      refine va_get (D := D) (ci := 8) (v := .ref (a 1)) (C := RX8) (T := TX8) (N := 3) hx hb htg inX8 hown hK.1 hP 0 rfl rfl 0 (by decide) (htg _ kw_228) (fun _ h9 => h9) rfl dX8_passOnce_48 ?_
      refine lv_iload_n hx hb dX8_passOnce_51 rfl (lv_at hl 2 rfl) ?_
      obtain ⟨hC9, hPc, hDc, hFc⟩ := xcut (wc := (pre_X6_passKnown T (xa [(a 1), (a 2), (a 3)]) (xa []) (xf [(fi 0)]) (xh [(fl 0)]) (xv [(vi 0), (vi 2), (vi 3), (vi 4), (vi 5), (vi 6), (vi 7), (vi 8), (vi 9), (vi 10), (vi 11), (vi 12)]) (xl [(vl 0)]))) hP hD hS hA [1, 2, 3] (by decide) rfl
      refine va_calli (va_runVN (As := [.int (vi 0)]) (rest := []) ⟨hx, hb, hml, hown, htg⟩ (c_X6_passKnown l D T (xa [(a 1), (a 2), (a 3)]) (xa []) (xf [(fi 0)]) (xh [(fl 0)]) (xv [(vi 0), (vi 2), (vi 3), (vi 4), (vi 5), (vi 6), (vi 7), (vi 8), (vi 9), (vi 10), (vi 11), (vi 12)]) (xl [(vl 0)]) s.heap.size hp0 hp1 hp2 hp3 hp4) ⟨va_cnB 1 htg (xg_ok kw_640) rfl rfl rfl (hK.2.1 _ kn_637) (htg _ kw_2) (by decide +kernel) ⟨by rw [hR]; exact Nat.le_of_ble_eq_true rfl, by rw [hR]; exact Nat.le_of_ble_eq_true rfl⟩, htg _ kw_639, htg _ ks_20⟩ (xpreV hK hPc hDc (va_recv hK.1 hPc (ci := 6) (q0 := 0) rfl rfl)) rfl rfl hl.1 rfl (lv_room (Nat.le_of_ble_eq_true rfl)) dX8_passOnce_52 ⟨by rw [hR]; exact Nat.le_of_ble_eq_true rfl, by rw [hR]; exact Nat.le_of_ble_eq_true rfl⟩) hS (fun q _ h => hFc q h) hFc (fun r9 u9 t H1 locs ht hvm hw hB hz1 hk1 hS => ?_)
      subst hw
      obtain ⟨fik_1, flk_1, vik_1, vlk_1, hP1, hD1, hG⟩ := hB
      rw [ht] at hP1
      obtain ⟨hP, hD⟩ := va_join (wr := [((a 0), .inr (8, [.ref (a 1), .ref (ex 0), .int (vi 1)])), ((a 4), .inl (T 1, 9, .inl (fi 1)))]) (w1 := [((a 1), .inr (6, [.ref (a 3), .ref (a 2), .int (vi 2), .int (vi 3), .int (vi 4), .int (vik_1 5), .int (vik_1 1), .int (vik_1 2), .long (vlk_1 0), .int (vik_1 4), .int (vik_1 3), .int (vik_1 0), .int (vik_1 6), .int (vik_1 7)])), ((a 2), .inl (T 2, 27, .inr (.inl (fl 0)))), ((a 3), .inl (T 0, 940, .inl (fi 0)))]) hP hD [1, 2, 3] [0, 4] hC9 rfl (by decide) (by decide) hk1 hFc hP1 hD1
      obtain ⟨rk_1, er9⟩ : ∃ z, z = r9 := ⟨_, rfl⟩
      subst er9
      clear hPc hDc hFc hP1 hD1 hk1 hz1 hvm ht hC9
      generalize H1 = H at hP hS ⊢
      obtain ⟨hP, hD⟩ := (show xPD D A [((a 0), .inr (8, [.ref (a 1), .ref (ex 0), .int (vi 1)])), ((a 4), .inl (T 1, 9, .inl (fi 1))), ((a 1), .inr (6, [.ref (a 3), .ref (a 2), .int (vi 2), .int (vi 3), .int (vi 4), .int (vik_1 5), .int (vik_1 1), .int (vik_1 2), .long (vlk_1 0), .int (vik_1 4), .int (vik_1 3), .int (vik_1 0), .int (vik_1 6), .int (vik_1 7)])), ((a 2), .inl (T 2, 27, .inr (.inl (fl 0)))), ((a 3), .inl (T 0, 940, .inl (fi 0)))] H from ⟨hP, hD⟩)
      obtain ⟨gk_1_0, gk_1_1, gk_1_2, gk_1_3, gk_1_4, gk_1_5, -⟩ := hG
      replace gk_1_5 : ∀ n m t : Nat, CC (trn (fi 0) n) n m t (vi 3) (vi 4) (vi 6) (vi 7) (vi 5) (vl 0) (vi 8) (vi 9) → (rk_1.toInt = 1 ∧ (wMay (trn (fi 0) n) n m (ownB (fl 0)) t) ∧ ¬ (vi 0).toInt = -1 ∧ (vik_1 0).toInt = (vi 0).toInt ∧ CC (trn (fi 0) n) n m (sX (trn (fi 0) n) n m t) (vi 3) (vi 4) (vik_1 1) (vik_1 2) (vik_1 5) (vlk_1 0) (vik_1 4) (vik_1 3)) ∨ (rk_1.toInt = 0 ∧ ¬ (wMay (trn (fi 0) n) n m (ownB (fl 0)) t) ∧ (vik_1 6).toInt = 1 ∧ (vik_1 7).toInt = ((sPn (trn (fi 0) n) n m t) : Int)) ∨ (rk_1.toInt = 0 ∧ (wMay (trn (fi 0) n) n m (ownB (fl 0)) t) ∧ (vi 0).toInt = -1 ∧ (vik_1 6).toInt = 3 ∧ (vik_1 7).toInt = ((sPn (trn (fi 0) n) n m t) : Int)) := (P_X6_passKnown gk_1_5 : _)
      replace gk_1_1 : 0 ≤ (vik_1 5).toInt ∧ (vik_1 5).toInt ≤ 940 := gk_1_1
      replace gk_1_2 : 0 ≤ (vik_1 2).toInt ∧ (vik_1 2).toInt ≤ 940 := gk_1_2
      replace gk_1_3 : 0 ≤ (vik_1 7).toInt ∧ (vik_1 7).toInt ≤ 940 := gk_1_3
      replace gk_1_4 : rk_1.toInt = 1 → (vik_1 6).toInt = (vi 11).toInt := gk_1_4
      rcases (show (rk_1 = 1 ∧ ((vik_1 0).toInt = (vi 0).toInt ∧ ¬ (vi 0).toInt = -1 ∧ (vi 6).toInt = 1)) ∨ (rk_1 = 0 ∧ (True)) from gk_1_0) with ⟨er9, gk_1_0⟩ | ⟨er9, gk_1_0⟩
      · refine xz_i 1 er9 ?_
        have tb_1 : rk_1.toInt = 1 := by rw [er9]; decide
        have hP9 := hP.sub (ws' := [((a 0), .inr (8, [.ref (a 1), .ref (ex 0), .int (vi 1)])), ((a 1), .inr (6, [.ref (a 3), .ref (a 2), .int (vi 2), .int (vi 3), .int (vi 4), .int (vik_1 5), .int (vik_1 1), .int (vik_1 2), .long (vlk_1 0), .int (vik_1 4), .int (vik_1 3), .int (vik_1 0), .int (vik_1 6), .int (vik_1 7)])), ((a 2), .inl (T 2, 27, .inr (.inl (fl 0)))), ((a 3), .inl (T 0, 940, .inl (fi 0))), ((a 4), .inl (T 1, 9, .inl (fi 1)))]) [0, 2, 3, 4, 1] rfl
        have hD9 := hD.sub (ws' := [((a 0), .inr (8, [.ref (a 1), .ref (ex 0), .int (vi 1)])), ((a 1), .inr (6, [.ref (a 3), .ref (a 2), .int (vi 2), .int (vi 3), .int (vi 4), .int (vik_1 5), .int (vik_1 1), .int (vik_1 2), .long (vlk_1 0), .int (vik_1 4), .int (vik_1 3), .int (vik_1 0), .int (vik_1 6), .int (vik_1 7)])), ((a 2), .inl (T 2, 27, .inr (.inl (fl 0)))), ((a 3), .inl (T 0, 940, .inl (fi 0))), ((a 4), .inl (T 1, 9, .inl (fi 1)))]) [0, 2, 3, 4, 1] (by decide +kernel) rfl
        rw [hQ]
        exact W.zret (v := 1) hx hb hr rfl (fun t ht hW => ⟨⟨1, 1, rfl, rfl, xf [], xh [], xv [(vik_1 0), (vik_1 1), (vik_1 2), (vik_1 3), (vik_1 4), (vik_1 5), (vik_1 6), (vik_1 7)], xl [(vlk_1 0)], by rw [ht]; exact hP9, hD9, ⟨(Or.inl ⟨rfl, by show (vik_1 0).toInt = (vi 0).toInt ∧ ¬ (vi 0).toInt = -1; first | trivial | omega | assumption⟩), gk_1_1, gk_1_2, gk_1_3, (by show (1 : Int32).toInt = 1 → (vik_1 6).toInt = (vi 11).toInt; have k9_0 : (1 : Int32).toInt = 1 := (by decide); exact fun _ => (gk_1_4 tb_1)), (by unfold R_X8_passOnce; exact (fun Q9 k9_0 k9_1 k9_2 k9_3 k9_4 k9_5 k9_6 k9_7 k9_8 => k9_2 c8 c12 fik_1 flk_1 vik_1 vlk_1 rk_1 gk_1_5 tb_1 gk_1_0 rfl rfl rfl rfl rfl rfl rfl rfl rfl rfl)), trivial⟩⟩, hS.F ht⟩) hS.2.2 dX8_passOnce_55
      · refine xz_i 0 er9 ?_
        have tb_1 : rk_1.toInt = 0 := by rw [er9]; decide
        have hP9 := hP.sub (ws' := [((a 0), .inr (8, [.ref (a 1), .ref (ex 0), .int (vi 1)])), ((a 1), .inr (6, [.ref (a 3), .ref (a 2), .int (vi 2), .int (vi 3), .int (vi 4), .int (vik_1 5), .int (vik_1 1), .int (vik_1 2), .long (vlk_1 0), .int (vik_1 4), .int (vik_1 3), .int (vik_1 0), .int (vik_1 6), .int (vik_1 7)])), ((a 2), .inl (T 2, 27, .inr (.inl (fl 0)))), ((a 3), .inl (T 0, 940, .inl (fi 0))), ((a 4), .inl (T 1, 9, .inl (fi 1)))]) [0, 2, 3, 4, 1] rfl
        have hD9 := hD.sub (ws' := [((a 0), .inr (8, [.ref (a 1), .ref (ex 0), .int (vi 1)])), ((a 1), .inr (6, [.ref (a 3), .ref (a 2), .int (vi 2), .int (vi 3), .int (vi 4), .int (vik_1 5), .int (vik_1 1), .int (vik_1 2), .long (vlk_1 0), .int (vik_1 4), .int (vik_1 3), .int (vik_1 0), .int (vik_1 6), .int (vik_1 7)])), ((a 2), .inl (T 2, 27, .inr (.inl (fl 0)))), ((a 3), .inl (T 0, 940, .inl (fi 0))), ((a 4), .inl (T 1, 9, .inl (fi 1)))]) [0, 2, 3, 4, 1] (by decide +kernel) rfl
        rw [hQ]
        exact W.zret (v := 0) hx hb hr rfl (fun t ht hW => ⟨⟨0, 0, rfl, rfl, xf [], xh [], xv [(vik_1 0), (vik_1 1), (vik_1 2), (vik_1 3), (vik_1 4), (vik_1 5), (vik_1 6), (vik_1 7)], xl [(vlk_1 0)], by rw [ht]; exact hP9, hD9, ⟨(Or.inr ⟨rfl, by show True; first | trivial | omega | assumption⟩), gk_1_1, gk_1_2, gk_1_3, (by show (0 : Int32).toInt = 1 → (vik_1 6).toInt = (vi 11).toInt; have k9_0 : (0 : Int32).toInt = 0 := (by decide); exact fun h9 => absurd h9 (by decide)), (by unfold R_X8_passOnce; exact (fun Q9 k9_0 k9_1 k9_2 k9_3 k9_4 k9_5 k9_6 k9_7 k9_8 => k9_3 c8 c12 fik_1 flk_1 vik_1 vlk_1 rk_1 gk_1_5 tb_1 gk_1_0 rfl rfl rfl rfl rfl rfl rfl rfl rfl rfl)), trivial⟩⟩, hS.F ht⟩) hS.2.2 dX8_passOnce_55
    · have c12 := xnlt (k := 0) (by decide) c12
      refine lv_iload_n hx hb dX8_passOnce_15 rfl (lv_at hl 1 rfl) ?_
      refine lv_aload_n hx hb dX8_passOnce_16 rfl (lv_at hl 2 rfl) ?_
      refine va_alen (v := 9) hx hb hK.1 hP 4 1 rfl rfl (show Int32.ofNat 9 = 9 by decide) dX8_passOnce_17 ?_
      refine lv_icmp_ge (tgt := 25) hx hb dX8_passOnce_18 (by decide) (fun c18 => ?_) (fun c18 => ?_)
      · have c18 := xge (k := 9) (by decide) c18
        refine lv_iconst (v := 0) hx hb dX8_passOnce_25 (by decide) ?_
        refine lv_istore_n (lv' := [(3, .int 0), (0, .ref (a 0)), (1, .int (vi 0)), (2, .ref (a 4))]) hx hb dX8_passOnce_26 rfl hl (by decide) rfl (fun ls hl => ?_)
        refine lv_iload_n hx hb dX8_passOnce_27 rfl (lv_at hl 0 rfl) ?_
        refine lv_if_eq (tgt := 47) hx hb dX8_passOnce_28 (by decide) (fun _ => ?_) (fun c => absurd (by decide) c)
        refine lv_aload_n hx hb dX8_passOnce_47 rfl (lv_at hl 1 rfl) ?_
        refine va_get (D := D) (ci := 8) (v := .ref (a 1)) (C := RX8) (T := TX8) (N := 3) hx hb htg inX8 hown hK.1 hP 0 rfl rfl 0 (by decide) (htg _ kw_228) (fun _ h9 => h9) rfl dX8_passOnce_48 ?_
        refine lv_iload_n hx hb dX8_passOnce_51 rfl (lv_at hl 2 rfl) ?_
        obtain ⟨hC9, hPc, hDc, hFc⟩ := xcut (wc := (pre_X6_passKnown T (xa [(a 1), (a 2), (a 3)]) (xa []) (xf [(fi 0)]) (xh [(fl 0)]) (xv [(vi 0), (vi 2), (vi 3), (vi 4), (vi 5), (vi 6), (vi 7), (vi 8), (vi 9), (vi 10), (vi 11), (vi 12)]) (xl [(vl 0)]))) hP hD hS hA [1, 2, 3] (by decide) rfl
        refine va_calli (va_runVN (As := [.int (vi 0)]) (rest := []) ⟨hx, hb, hml, hown, htg⟩ (c_X6_passKnown l D T (xa [(a 1), (a 2), (a 3)]) (xa []) (xf [(fi 0)]) (xh [(fl 0)]) (xv [(vi 0), (vi 2), (vi 3), (vi 4), (vi 5), (vi 6), (vi 7), (vi 8), (vi 9), (vi 10), (vi 11), (vi 12)]) (xl [(vl 0)]) s.heap.size hp0 hp1 hp2 hp3 hp4) ⟨va_cnB 1 htg (xg_ok kw_640) rfl rfl rfl (hK.2.1 _ kn_637) (htg _ kw_2) (by decide +kernel) ⟨by rw [hR]; exact Nat.le_of_ble_eq_true rfl, by rw [hR]; exact Nat.le_of_ble_eq_true rfl⟩, htg _ kw_639, htg _ ks_20⟩ (xpreV hK hPc hDc (va_recv hK.1 hPc (ci := 6) (q0 := 0) rfl rfl)) rfl rfl hl.1 rfl (lv_room (Nat.le_of_ble_eq_true rfl)) dX8_passOnce_52 ⟨by rw [hR]; exact Nat.le_of_ble_eq_true rfl, by rw [hR]; exact Nat.le_of_ble_eq_true rfl⟩) hS (fun q _ h => hFc q h) hFc (fun r9 u9 t H1 locs ht hvm hw hB hz1 hk1 hS => ?_)
        subst hw
        obtain ⟨fik_2, flk_2, vik_2, vlk_2, hP1, hD1, hG⟩ := hB
        rw [ht] at hP1
        obtain ⟨hP, hD⟩ := va_join (wr := [((a 0), .inr (8, [.ref (a 1), .ref (ex 0), .int (vi 1)])), ((a 4), .inl (T 1, 9, .inl (fi 1)))]) (w1 := [((a 1), .inr (6, [.ref (a 3), .ref (a 2), .int (vi 2), .int (vi 3), .int (vi 4), .int (vik_2 5), .int (vik_2 1), .int (vik_2 2), .long (vlk_2 0), .int (vik_2 4), .int (vik_2 3), .int (vik_2 0), .int (vik_2 6), .int (vik_2 7)])), ((a 2), .inl (T 2, 27, .inr (.inl (fl 0)))), ((a 3), .inl (T 0, 940, .inl (fi 0)))]) hP hD [1, 2, 3] [0, 4] hC9 rfl (by decide) (by decide) hk1 hFc hP1 hD1
        obtain ⟨rk_2, er9⟩ : ∃ z, z = r9 := ⟨_, rfl⟩
        subst er9
        clear hPc hDc hFc hP1 hD1 hk1 hz1 hvm ht hC9
        generalize H1 = H at hP hS ⊢
        obtain ⟨hP, hD⟩ := (show xPD D A [((a 0), .inr (8, [.ref (a 1), .ref (ex 0), .int (vi 1)])), ((a 4), .inl (T 1, 9, .inl (fi 1))), ((a 1), .inr (6, [.ref (a 3), .ref (a 2), .int (vi 2), .int (vi 3), .int (vi 4), .int (vik_2 5), .int (vik_2 1), .int (vik_2 2), .long (vlk_2 0), .int (vik_2 4), .int (vik_2 3), .int (vik_2 0), .int (vik_2 6), .int (vik_2 7)])), ((a 2), .inl (T 2, 27, .inr (.inl (fl 0)))), ((a 3), .inl (T 0, 940, .inl (fi 0)))] H from ⟨hP, hD⟩)
        obtain ⟨gk_2_0, gk_2_1, gk_2_2, gk_2_3, gk_2_4, gk_2_5, -⟩ := hG
        replace gk_2_5 : ∀ n m t : Nat, CC (trn (fi 0) n) n m t (vi 3) (vi 4) (vi 6) (vi 7) (vi 5) (vl 0) (vi 8) (vi 9) → (rk_2.toInt = 1 ∧ (wMay (trn (fi 0) n) n m (ownB (fl 0)) t) ∧ ¬ (vi 0).toInt = -1 ∧ (vik_2 0).toInt = (vi 0).toInt ∧ CC (trn (fi 0) n) n m (sX (trn (fi 0) n) n m t) (vi 3) (vi 4) (vik_2 1) (vik_2 2) (vik_2 5) (vlk_2 0) (vik_2 4) (vik_2 3)) ∨ (rk_2.toInt = 0 ∧ ¬ (wMay (trn (fi 0) n) n m (ownB (fl 0)) t) ∧ (vik_2 6).toInt = 1 ∧ (vik_2 7).toInt = ((sPn (trn (fi 0) n) n m t) : Int)) ∨ (rk_2.toInt = 0 ∧ (wMay (trn (fi 0) n) n m (ownB (fl 0)) t) ∧ (vi 0).toInt = -1 ∧ (vik_2 6).toInt = 3 ∧ (vik_2 7).toInt = ((sPn (trn (fi 0) n) n m t) : Int)) := (P_X6_passKnown gk_2_5 : _)
        replace gk_2_1 : 0 ≤ (vik_2 5).toInt ∧ (vik_2 5).toInt ≤ 940 := gk_2_1
        replace gk_2_2 : 0 ≤ (vik_2 2).toInt ∧ (vik_2 2).toInt ≤ 940 := gk_2_2
        replace gk_2_3 : 0 ≤ (vik_2 7).toInt ∧ (vik_2 7).toInt ≤ 940 := gk_2_3
        replace gk_2_4 : rk_2.toInt = 1 → (vik_2 6).toInt = (vi 11).toInt := gk_2_4
        rcases (show (rk_2 = 1 ∧ ((vik_2 0).toInt = (vi 0).toInt ∧ ¬ (vi 0).toInt = -1 ∧ (vi 6).toInt = 1)) ∨ (rk_2 = 0 ∧ (True)) from gk_2_0) with ⟨er9, gk_2_0⟩ | ⟨er9, gk_2_0⟩
        · refine xz_i 1 er9 ?_
          have tb_2 : rk_2.toInt = 1 := by rw [er9]; decide
          have hP9 := hP.sub (ws' := [((a 0), .inr (8, [.ref (a 1), .ref (ex 0), .int (vi 1)])), ((a 1), .inr (6, [.ref (a 3), .ref (a 2), .int (vi 2), .int (vi 3), .int (vi 4), .int (vik_2 5), .int (vik_2 1), .int (vik_2 2), .long (vlk_2 0), .int (vik_2 4), .int (vik_2 3), .int (vik_2 0), .int (vik_2 6), .int (vik_2 7)])), ((a 2), .inl (T 2, 27, .inr (.inl (fl 0)))), ((a 3), .inl (T 0, 940, .inl (fi 0))), ((a 4), .inl (T 1, 9, .inl (fi 1)))]) [0, 2, 3, 4, 1] rfl
          have hD9 := hD.sub (ws' := [((a 0), .inr (8, [.ref (a 1), .ref (ex 0), .int (vi 1)])), ((a 1), .inr (6, [.ref (a 3), .ref (a 2), .int (vi 2), .int (vi 3), .int (vi 4), .int (vik_2 5), .int (vik_2 1), .int (vik_2 2), .long (vlk_2 0), .int (vik_2 4), .int (vik_2 3), .int (vik_2 0), .int (vik_2 6), .int (vik_2 7)])), ((a 2), .inl (T 2, 27, .inr (.inl (fl 0)))), ((a 3), .inl (T 0, 940, .inl (fi 0))), ((a 4), .inl (T 1, 9, .inl (fi 1)))]) [0, 2, 3, 4, 1] (by decide +kernel) rfl
          rw [hQ]
          exact W.zret (v := 1) hx hb hr rfl (fun t ht hW => ⟨⟨1, 1, rfl, rfl, xf [], xh [], xv [(vik_2 0), (vik_2 1), (vik_2 2), (vik_2 3), (vik_2 4), (vik_2 5), (vik_2 6), (vik_2 7)], xl [(vlk_2 0)], by rw [ht]; exact hP9, hD9, ⟨(Or.inl ⟨rfl, by show (vik_2 0).toInt = (vi 0).toInt ∧ ¬ (vi 0).toInt = -1; first | trivial | omega | assumption⟩), gk_2_1, gk_2_2, gk_2_3, (by show (1 : Int32).toInt = 1 → (vik_2 6).toInt = (vi 11).toInt; have k9_0 : (1 : Int32).toInt = 1 := (by decide); exact fun _ => (gk_2_4 tb_2)), (by unfold R_X8_passOnce; exact (fun Q9 k9_0 k9_1 k9_2 k9_3 k9_4 k9_5 k9_6 k9_7 k9_8 => k9_4 c8 c12 c18 fik_2 flk_2 vik_2 vlk_2 rk_2 gk_2_5 tb_2 gk_2_0 rfl rfl rfl rfl rfl rfl rfl rfl rfl rfl)), trivial⟩⟩, hS.F ht⟩) hS.2.2 dX8_passOnce_55
        · refine xz_i 0 er9 ?_
          have tb_2 : rk_2.toInt = 0 := by rw [er9]; decide
          have hP9 := hP.sub (ws' := [((a 0), .inr (8, [.ref (a 1), .ref (ex 0), .int (vi 1)])), ((a 1), .inr (6, [.ref (a 3), .ref (a 2), .int (vi 2), .int (vi 3), .int (vi 4), .int (vik_2 5), .int (vik_2 1), .int (vik_2 2), .long (vlk_2 0), .int (vik_2 4), .int (vik_2 3), .int (vik_2 0), .int (vik_2 6), .int (vik_2 7)])), ((a 2), .inl (T 2, 27, .inr (.inl (fl 0)))), ((a 3), .inl (T 0, 940, .inl (fi 0))), ((a 4), .inl (T 1, 9, .inl (fi 1)))]) [0, 2, 3, 4, 1] rfl
          have hD9 := hD.sub (ws' := [((a 0), .inr (8, [.ref (a 1), .ref (ex 0), .int (vi 1)])), ((a 1), .inr (6, [.ref (a 3), .ref (a 2), .int (vi 2), .int (vi 3), .int (vi 4), .int (vik_2 5), .int (vik_2 1), .int (vik_2 2), .long (vlk_2 0), .int (vik_2 4), .int (vik_2 3), .int (vik_2 0), .int (vik_2 6), .int (vik_2 7)])), ((a 2), .inl (T 2, 27, .inr (.inl (fl 0)))), ((a 3), .inl (T 0, 940, .inl (fi 0))), ((a 4), .inl (T 1, 9, .inl (fi 1)))]) [0, 2, 3, 4, 1] (by decide +kernel) rfl
          rw [hQ]
          exact W.zret (v := 0) hx hb hr rfl (fun t ht hW => ⟨⟨0, 0, rfl, rfl, xf [], xh [], xv [(vik_2 0), (vik_2 1), (vik_2 2), (vik_2 3), (vik_2 4), (vik_2 5), (vik_2 6), (vik_2 7)], xl [(vlk_2 0)], by rw [ht]; exact hP9, hD9, ⟨(Or.inr ⟨rfl, by show True; first | trivial | omega | assumption⟩), gk_2_1, gk_2_2, gk_2_3, (by show (0 : Int32).toInt = 1 → (vik_2 6).toInt = (vi 11).toInt; have k9_0 : (0 : Int32).toInt = 0 := (by decide); exact fun h9 => absurd h9 (by decide)), (by unfold R_X8_passOnce; exact (fun Q9 k9_0 k9_1 k9_2 k9_3 k9_4 k9_5 k9_6 k9_7 k9_8 => k9_5 c8 c12 c18 fik_2 flk_2 vik_2 vlk_2 rk_2 gk_2_5 tb_2 gk_2_0 rfl rfl rfl rfl rfl rfl rfl rfl rfl rfl)), trivial⟩⟩, hS.F ht⟩) hS.2.2 dX8_passOnce_55
      · have c18 := xnge (k := 9) (by decide) c18
        refine lv_iconst (v := 1) hx hb dX8_passOnce_21 (by decide) ?_
        refine lv_goto (tgt := 26) hx hb dX8_passOnce_22 (by decide) ?_
        refine lv_istore_n (lv' := [(3, .int 1), (0, .ref (a 0)), (1, .int (vi 0)), (2, .ref (a 4))]) hx hb dX8_passOnce_26 rfl hl (by decide) rfl (fun ls hl => ?_)
        refine lv_iload_n hx hb dX8_passOnce_27 rfl (lv_at hl 0 rfl) ?_
        refine lv_if_eq (tgt := 47) hx hb dX8_passOnce_28 (by decide) (fun c => absurd c (by decide)) (fun _ => ?_)
        refine lv_aload_n hx hb dX8_passOnce_31 rfl (lv_at hl 3 rfl) ?_
        refine lv_iload_n hx hb dX8_passOnce_32 rfl (lv_at hl 2 rfl) ?_
        refine va_iald hx hb hK.1 hP 4 1 rfl rfl (vp_in_iff.mpr (by omega)) dX8_passOnce_33 ?_
        refine lv_iconst (v := (-1)) hx hb dX8_passOnce_34 (by decide) ?_
        refine lv_icmp_eq (tgt := 47) hx hb dX8_passOnce_35 (by decide) (fun c35 => ?_) (fun c35 => ?_)
        · have c35 := xeq (k := (-1)) (by decide) c35
          refine lv_aload_n hx hb dX8_passOnce_47 rfl (lv_at hl 1 rfl) ?_
          refine va_get (D := D) (ci := 8) (v := .ref (a 1)) (C := RX8) (T := TX8) (N := 3) hx hb htg inX8 hown hK.1 hP 0 rfl rfl 0 (by decide) (htg _ kw_228) (fun _ h9 => h9) rfl dX8_passOnce_48 ?_
          refine lv_iload_n hx hb dX8_passOnce_51 rfl (lv_at hl 2 rfl) ?_
          obtain ⟨hC9, hPc, hDc, hFc⟩ := xcut (wc := (pre_X6_passKnown T (xa [(a 1), (a 2), (a 3)]) (xa []) (xf [(fi 0)]) (xh [(fl 0)]) (xv [(vi 0), (vi 2), (vi 3), (vi 4), (vi 5), (vi 6), (vi 7), (vi 8), (vi 9), (vi 10), (vi 11), (vi 12)]) (xl [(vl 0)]))) hP hD hS hA [1, 2, 3] (by decide) rfl
          refine va_calli (va_runVN (As := [.int (vi 0)]) (rest := []) ⟨hx, hb, hml, hown, htg⟩ (c_X6_passKnown l D T (xa [(a 1), (a 2), (a 3)]) (xa []) (xf [(fi 0)]) (xh [(fl 0)]) (xv [(vi 0), (vi 2), (vi 3), (vi 4), (vi 5), (vi 6), (vi 7), (vi 8), (vi 9), (vi 10), (vi 11), (vi 12)]) (xl [(vl 0)]) s.heap.size hp0 hp1 hp2 hp3 hp4) ⟨va_cnB 1 htg (xg_ok kw_640) rfl rfl rfl (hK.2.1 _ kn_637) (htg _ kw_2) (by decide +kernel) ⟨by rw [hR]; exact Nat.le_of_ble_eq_true rfl, by rw [hR]; exact Nat.le_of_ble_eq_true rfl⟩, htg _ kw_639, htg _ ks_20⟩ (xpreV hK hPc hDc (va_recv hK.1 hPc (ci := 6) (q0 := 0) rfl rfl)) rfl rfl hl.1 rfl (lv_room (Nat.le_of_ble_eq_true rfl)) dX8_passOnce_52 ⟨by rw [hR]; exact Nat.le_of_ble_eq_true rfl, by rw [hR]; exact Nat.le_of_ble_eq_true rfl⟩) hS (fun q _ h => hFc q h) hFc (fun r9 u9 t H1 locs ht hvm hw hB hz1 hk1 hS => ?_)
          subst hw
          obtain ⟨fik_3, flk_3, vik_3, vlk_3, hP1, hD1, hG⟩ := hB
          rw [ht] at hP1
          obtain ⟨hP, hD⟩ := va_join (wr := [((a 0), .inr (8, [.ref (a 1), .ref (ex 0), .int (vi 1)])), ((a 4), .inl (T 1, 9, .inl (fi 1)))]) (w1 := [((a 1), .inr (6, [.ref (a 3), .ref (a 2), .int (vi 2), .int (vi 3), .int (vi 4), .int (vik_3 5), .int (vik_3 1), .int (vik_3 2), .long (vlk_3 0), .int (vik_3 4), .int (vik_3 3), .int (vik_3 0), .int (vik_3 6), .int (vik_3 7)])), ((a 2), .inl (T 2, 27, .inr (.inl (fl 0)))), ((a 3), .inl (T 0, 940, .inl (fi 0)))]) hP hD [1, 2, 3] [0, 4] hC9 rfl (by decide) (by decide) hk1 hFc hP1 hD1
          obtain ⟨rk_3, er9⟩ : ∃ z, z = r9 := ⟨_, rfl⟩
          subst er9
          clear hPc hDc hFc hP1 hD1 hk1 hz1 hvm ht hC9
          generalize H1 = H at hP hS ⊢
          obtain ⟨hP, hD⟩ := (show xPD D A [((a 0), .inr (8, [.ref (a 1), .ref (ex 0), .int (vi 1)])), ((a 4), .inl (T 1, 9, .inl (fi 1))), ((a 1), .inr (6, [.ref (a 3), .ref (a 2), .int (vi 2), .int (vi 3), .int (vi 4), .int (vik_3 5), .int (vik_3 1), .int (vik_3 2), .long (vlk_3 0), .int (vik_3 4), .int (vik_3 3), .int (vik_3 0), .int (vik_3 6), .int (vik_3 7)])), ((a 2), .inl (T 2, 27, .inr (.inl (fl 0)))), ((a 3), .inl (T 0, 940, .inl (fi 0)))] H from ⟨hP, hD⟩)
          obtain ⟨gk_3_0, gk_3_1, gk_3_2, gk_3_3, gk_3_4, gk_3_5, -⟩ := hG
          replace gk_3_5 : ∀ n m t : Nat, CC (trn (fi 0) n) n m t (vi 3) (vi 4) (vi 6) (vi 7) (vi 5) (vl 0) (vi 8) (vi 9) → (rk_3.toInt = 1 ∧ (wMay (trn (fi 0) n) n m (ownB (fl 0)) t) ∧ ¬ (vi 0).toInt = -1 ∧ (vik_3 0).toInt = (vi 0).toInt ∧ CC (trn (fi 0) n) n m (sX (trn (fi 0) n) n m t) (vi 3) (vi 4) (vik_3 1) (vik_3 2) (vik_3 5) (vlk_3 0) (vik_3 4) (vik_3 3)) ∨ (rk_3.toInt = 0 ∧ ¬ (wMay (trn (fi 0) n) n m (ownB (fl 0)) t) ∧ (vik_3 6).toInt = 1 ∧ (vik_3 7).toInt = ((sPn (trn (fi 0) n) n m t) : Int)) ∨ (rk_3.toInt = 0 ∧ (wMay (trn (fi 0) n) n m (ownB (fl 0)) t) ∧ (vi 0).toInt = -1 ∧ (vik_3 6).toInt = 3 ∧ (vik_3 7).toInt = ((sPn (trn (fi 0) n) n m t) : Int)) := (P_X6_passKnown gk_3_5 : _)
          replace gk_3_1 : 0 ≤ (vik_3 5).toInt ∧ (vik_3 5).toInt ≤ 940 := gk_3_1
          replace gk_3_2 : 0 ≤ (vik_3 2).toInt ∧ (vik_3 2).toInt ≤ 940 := gk_3_2
          replace gk_3_3 : 0 ≤ (vik_3 7).toInt ∧ (vik_3 7).toInt ≤ 940 := gk_3_3
          replace gk_3_4 : rk_3.toInt = 1 → (vik_3 6).toInt = (vi 11).toInt := gk_3_4
          rcases (show (rk_3 = 1 ∧ ((vik_3 0).toInt = (vi 0).toInt ∧ ¬ (vi 0).toInt = -1 ∧ (vi 6).toInt = 1)) ∨ (rk_3 = 0 ∧ (True)) from gk_3_0) with ⟨er9, gk_3_0⟩ | ⟨er9, gk_3_0⟩
          · refine xz_i 1 er9 ?_
            have tb_3 : rk_3.toInt = 1 := by rw [er9]; decide
            have hP9 := hP.sub (ws' := [((a 0), .inr (8, [.ref (a 1), .ref (ex 0), .int (vi 1)])), ((a 1), .inr (6, [.ref (a 3), .ref (a 2), .int (vi 2), .int (vi 3), .int (vi 4), .int (vik_3 5), .int (vik_3 1), .int (vik_3 2), .long (vlk_3 0), .int (vik_3 4), .int (vik_3 3), .int (vik_3 0), .int (vik_3 6), .int (vik_3 7)])), ((a 2), .inl (T 2, 27, .inr (.inl (fl 0)))), ((a 3), .inl (T 0, 940, .inl (fi 0))), ((a 4), .inl (T 1, 9, .inl (fi 1)))]) [0, 2, 3, 4, 1] rfl
            have hD9 := hD.sub (ws' := [((a 0), .inr (8, [.ref (a 1), .ref (ex 0), .int (vi 1)])), ((a 1), .inr (6, [.ref (a 3), .ref (a 2), .int (vi 2), .int (vi 3), .int (vi 4), .int (vik_3 5), .int (vik_3 1), .int (vik_3 2), .long (vlk_3 0), .int (vik_3 4), .int (vik_3 3), .int (vik_3 0), .int (vik_3 6), .int (vik_3 7)])), ((a 2), .inl (T 2, 27, .inr (.inl (fl 0)))), ((a 3), .inl (T 0, 940, .inl (fi 0))), ((a 4), .inl (T 1, 9, .inl (fi 1)))]) [0, 2, 3, 4, 1] (by decide +kernel) rfl
            rw [hQ]
            exact W.zret (v := 1) hx hb hr rfl (fun t ht hW => ⟨⟨1, 1, rfl, rfl, xf [], xh [], xv [(vik_3 0), (vik_3 1), (vik_3 2), (vik_3 3), (vik_3 4), (vik_3 5), (vik_3 6), (vik_3 7)], xl [(vlk_3 0)], by rw [ht]; exact hP9, hD9, ⟨(Or.inl ⟨rfl, by show (vik_3 0).toInt = (vi 0).toInt ∧ ¬ (vi 0).toInt = -1; first | trivial | omega | assumption⟩), gk_3_1, gk_3_2, gk_3_3, (by show (1 : Int32).toInt = 1 → (vik_3 6).toInt = (vi 11).toInt; have k9_0 : (1 : Int32).toInt = 1 := (by decide); exact fun _ => (gk_3_4 tb_3)), (by unfold R_X8_passOnce; exact (fun Q9 k9_0 k9_1 k9_2 k9_3 k9_4 k9_5 k9_6 k9_7 k9_8 => k9_6 c8 c12 c18 c35 fik_3 flk_3 vik_3 vlk_3 rk_3 gk_3_5 tb_3 gk_3_0 rfl rfl rfl rfl rfl rfl rfl rfl rfl rfl)), trivial⟩⟩, hS.F ht⟩) hS.2.2 dX8_passOnce_55
          · refine xz_i 0 er9 ?_
            have tb_3 : rk_3.toInt = 0 := by rw [er9]; decide
            have hP9 := hP.sub (ws' := [((a 0), .inr (8, [.ref (a 1), .ref (ex 0), .int (vi 1)])), ((a 1), .inr (6, [.ref (a 3), .ref (a 2), .int (vi 2), .int (vi 3), .int (vi 4), .int (vik_3 5), .int (vik_3 1), .int (vik_3 2), .long (vlk_3 0), .int (vik_3 4), .int (vik_3 3), .int (vik_3 0), .int (vik_3 6), .int (vik_3 7)])), ((a 2), .inl (T 2, 27, .inr (.inl (fl 0)))), ((a 3), .inl (T 0, 940, .inl (fi 0))), ((a 4), .inl (T 1, 9, .inl (fi 1)))]) [0, 2, 3, 4, 1] rfl
            have hD9 := hD.sub (ws' := [((a 0), .inr (8, [.ref (a 1), .ref (ex 0), .int (vi 1)])), ((a 1), .inr (6, [.ref (a 3), .ref (a 2), .int (vi 2), .int (vi 3), .int (vi 4), .int (vik_3 5), .int (vik_3 1), .int (vik_3 2), .long (vlk_3 0), .int (vik_3 4), .int (vik_3 3), .int (vik_3 0), .int (vik_3 6), .int (vik_3 7)])), ((a 2), .inl (T 2, 27, .inr (.inl (fl 0)))), ((a 3), .inl (T 0, 940, .inl (fi 0))), ((a 4), .inl (T 1, 9, .inl (fi 1)))]) [0, 2, 3, 4, 1] (by decide +kernel) rfl
            rw [hQ]
            exact W.zret (v := 0) hx hb hr rfl (fun t ht hW => ⟨⟨0, 0, rfl, rfl, xf [], xh [], xv [(vik_3 0), (vik_3 1), (vik_3 2), (vik_3 3), (vik_3 4), (vik_3 5), (vik_3 6), (vik_3 7)], xl [(vlk_3 0)], by rw [ht]; exact hP9, hD9, ⟨(Or.inr ⟨rfl, by show True; first | trivial | omega | assumption⟩), gk_3_1, gk_3_2, gk_3_3, (by show (0 : Int32).toInt = 1 → (vik_3 6).toInt = (vi 11).toInt; have k9_0 : (0 : Int32).toInt = 0 := (by decide); exact fun h9 => absurd h9 (by decide)), (by unfold R_X8_passOnce; exact (fun Q9 k9_0 k9_1 k9_2 k9_3 k9_4 k9_5 k9_6 k9_7 k9_8 => k9_7 c8 c12 c18 c35 fik_3 flk_3 vik_3 vlk_3 rk_3 gk_3_5 tb_3 gk_3_0 rfl rfl rfl rfl rfl rfl rfl rfl rfl rfl)), trivial⟩⟩, hS.F ht⟩) hS.2.2 dX8_passOnce_55
        · have c35 := xne (k := (-1)) (by decide) c35
          refine lv_aload_n hx hb dX8_passOnce_38 rfl (lv_at hl 1 rfl) ?_
          refine va_get (D := D) (ci := 8) (v := .ref (a 1)) (C := RX8) (T := TX8) (N := 3) hx hb htg inX8 hown hK.1 hP 0 rfl rfl 0 (by decide) (htg _ kw_228) (fun _ h9 => h9) rfl dX8_passOnce_39 ?_
          refine lv_iconst (v := 3) hx hb dX8_passOnce_42 (by decide) ?_
          obtain ⟨hC9, hPc, hDc, hFc⟩ := xcut (wc := (pre_X6_refuse T (xa [(a 1)]) (xa [(a 3), (a 2)]) (xf []) (xh []) (xv [3, (vi 2), (vi 3), (vi 4), (vi 5), (vi 6), (vi 7), (vi 8), (vi 9), (vi 10), (vi 11), (vi 12)]) (xl [(vl 0)]))) hP hD hS hA [1] (by decide) rfl
          refine va_calli (va_runVN (As := [.int 3]) (rest := []) ⟨hx, hb, hml, hown, htg⟩ (c_X6_refuse l D T (xa [(a 1)]) (xa [(a 3), (a 2)]) (xf []) (xh []) (xv [3, (vi 2), (vi 3), (vi 4), (vi 5), (vi 6), (vi 7), (vi 8), (vi 9), (vi 10), (vi 11), (vi 12)]) (xl [(vl 0)]) s.heap.size hp0 hp1 hp2 hp3 hp4) ⟨va_cnB 1 htg (xg_ok kw_594) rfl rfl rfl (hK.2.1 _ kn_591) (htg _ kw_2) (by decide +kernel) ⟨by rw [hR]; exact Nat.le_of_ble_eq_true rfl, by rw [hR]; exact Nat.le_of_ble_eq_true rfl⟩, htg _ kw_593, htg _ ks_10⟩ (xpreV hK hPc hDc (va_recv hK.1 hPc (ci := 6) (q0 := 0) rfl rfl)) rfl rfl hl.1 rfl (lv_room (Nat.le_of_ble_eq_true rfl)) dX8_passOnce_43 ⟨by rw [hR]; exact Nat.le_of_ble_eq_true rfl, by rw [hR]; exact Nat.le_of_ble_eq_true rfl⟩) hS (fun q _ h => hFc q h) hFc (fun r9 u9 t H1 locs ht hvm hw hB hz1 hk1 hS => ?_)
          subst hw
          obtain ⟨fik_4, flk_4, vik_4, vlk_4, hP1, hD1, hG⟩ := hB
          rw [ht] at hP1
          obtain ⟨hP, hD⟩ := va_join (wr := [((a 0), .inr (8, [.ref (a 1), .ref (ex 0), .int (vi 1)])), ((a 2), .inl (T 2, 27, .inr (.inl (fl 0)))), ((a 3), .inl (T 0, 940, .inl (fi 0))), ((a 4), .inl (T 1, 9, .inl (fi 1)))]) (w1 := [((a 1), .inr (6, [.ref (a 3), .ref (a 2), .int (vi 2), .int (vi 3), .int (vi 4), .int (vi 5), .int (vi 6), .int (vi 7), .long (vl 0), .int (vi 8), .int (vi 9), .int (vi 10), .int (vik_4 0), .int (vik_4 1)]))]) hP hD [1] [0, 2, 3, 4] hC9 rfl (by decide) (by decide) hk1 hFc hP1 hD1
          obtain ⟨rk_4, er9⟩ : ∃ z, z = r9 := ⟨_, rfl⟩
          subst er9
          clear hPc hDc hFc hP1 hD1 hk1 hz1 hvm ht hC9
          generalize H1 = H at hP hS ⊢
          obtain ⟨hP, hD⟩ := (show xPD D A [((a 0), .inr (8, [.ref (a 1), .ref (ex 0), .int (vi 1)])), ((a 2), .inl (T 2, 27, .inr (.inl (fl 0)))), ((a 3), .inl (T 0, 940, .inl (fi 0))), ((a 4), .inl (T 1, 9, .inl (fi 1))), ((a 1), .inr (6, [.ref (a 3), .ref (a 2), .int (vi 2), .int (vi 3), .int (vi 4), .int (vi 5), .int (vi 6), .int (vi 7), .long (vl 0), .int (vi 8), .int (vi 9), .int (vi 10), .int (vik_4 0), .int (vik_4 1)]))] H from ⟨hP, hD⟩)
          obtain ⟨gk_4_0, gk_4_1, gk_4_2, -⟩ := hG
          replace gk_4_1 : 0 ≤ (vik_4 1).toInt ∧ (vik_4 1).toInt ≤ 940 := gk_4_1
          replace gk_4_2 : (vik_4 0).toInt = (3 : Int32).toInt ∧ (vik_4 1).toInt = (vi 7).toInt := gk_4_2
          replace gk_4_0 : rk_4 = 0 := gk_4_0
          refine xz_i 0 gk_4_0 ?_
          have hP9 := hP.sub (ws' := [((a 0), .inr (8, [.ref (a 1), .ref (ex 0), .int (vi 1)])), ((a 1), .inr (6, [.ref (a 3), .ref (a 2), .int (vi 2), .int (vi 3), .int (vi 4), .int (vi 5), .int (vi 6), .int (vi 7), .long (vl 0), .int (vi 8), .int (vi 9), .int (vi 10), .int (vik_4 0), .int (vik_4 1)])), ((a 2), .inl (T 2, 27, .inr (.inl (fl 0)))), ((a 3), .inl (T 0, 940, .inl (fi 0))), ((a 4), .inl (T 1, 9, .inl (fi 1)))]) [0, 4, 1, 2, 3] rfl
          have hD9 := hD.sub (ws' := [((a 0), .inr (8, [.ref (a 1), .ref (ex 0), .int (vi 1)])), ((a 1), .inr (6, [.ref (a 3), .ref (a 2), .int (vi 2), .int (vi 3), .int (vi 4), .int (vi 5), .int (vi 6), .int (vi 7), .long (vl 0), .int (vi 8), .int (vi 9), .int (vi 10), .int (vik_4 0), .int (vik_4 1)])), ((a 2), .inl (T 2, 27, .inr (.inl (fl 0)))), ((a 3), .inl (T 0, 940, .inl (fi 0))), ((a 4), .inl (T 1, 9, .inl (fi 1)))]) [0, 4, 1, 2, 3] (by decide +kernel) rfl
          rw [hQ]
          exact W.zret (v := 0) hx hb hr rfl (fun t ht hW => ⟨⟨0, 0, rfl, rfl, xf [], xh [], xv [(vi 10), (vi 6), (vi 7), (vi 9), (vi 8), (vi 5), (vik_4 0), (vik_4 1)], xl [(vl 0)], by rw [ht]; exact hP9, hD9, ⟨(Or.inr ⟨rfl, by show True; first | trivial | omega | assumption⟩), hp2, hp3, gk_4_1, (by show (0 : Int32).toInt = 1 → (vik_4 0).toInt = (vi 11).toInt; have k9_0 : (0 : Int32).toInt = 0 := (by decide); exact fun h9 => absurd h9 (by decide)), (by unfold R_X8_passOnce; exact (fun Q9 k9_0 k9_1 k9_2 k9_3 k9_4 k9_5 k9_6 k9_7 k9_8 => k9_8 c8 c12 c18 c35 fik_4 flk_4 vik_4 vlk_4 rk_4 gk_4_0 gk_4_2 rfl rfl rfl rfl rfl rfl rfl rfl rfl rfl)), trivial⟩⟩, hS.F ht⟩) hS.2.2 dX8_passOnce_46
