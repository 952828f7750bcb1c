abbrev pre_X2_hasVotes (T : Nat → ClassId) (a ex : Nat → Nat) (fi : Nat → Nat → Int32) (fl : Nat → Nat → Int64) (vi : Nat → Int32) (vl : Nat → Int64) : va_W := [((a 0), .inr (2, [.ref (a 1), .int (vi 1), .int (vi 2), .int (vi 3), .int (vi 4), .int (vi 5), .int (vi 6), .ref (ex 0), .ref (ex 1), .ref (ex 2), .ref (a 2), .ref (ex 3), .ref (ex 4), .ref (ex 5), .ref (ex 6)])), ((a 1), .inr (7, [.int (vi 7), .int (vi 8), .ref (ex 7), .ref (ex 8), .ref (ex 9), .ref (ex 10), .ref (ex 11), .ref (ex 12), .ref (ex 13), .ref (ex 14), .ref (ex 15), .ref (ex 16)])), ((a 2), .inl (T 1, 9, .inl (fi 0)))]
set_option maxHeartbeats 8000000 in
set_option maxRecDepth 100000 in
theorem c_X2_hasVotes (l : Launch) (D : va_G) (T : Nat → ClassId) (a ex : Nat → Nat) (fi : Nat → Nat → Int32) (fl : Nat → Nat → Int64) (vi : Nat → Int32) (vl : Nat → Int64) (sz : Nat) (hp0 : 0 ≤ (vi 1).toInt ∧ (vi 1).toInt ≤ 200) (hp1 : 0 ≤ (vi 6).toInt ∧ (vi 6).toInt ≤ 9) (hp2 : 0 ≤ (vi 7).toInt ∧ (vi 7).toInt ≤ 9) (hp3 : 0 ≤ (vi 8).toInt ∧ (vi 8).toInt ≤ 9) (hp4 : rg (fi 0) 0 9 (-1) 8) : Met l yX2_hasVotes (xw yX2_hasVotes cX2_hasVotes 6 (some .boolean)) ({ frames := 3, cells := 0, slots := 0, locals := 75 }) (xP D T [.ref (a 0), .int (vi 0)] sz (pre_X2_hasVotes T a ex fi fl vi vl)) (va_Qi (fun r u => r = u) (xC D (va_A (pre_X2_hasVotes T a ex fi fl vi vl) sz) (fun fj fm vj vm => [((a 0), .inr (2, [.ref (a 1), .int (vi 1), .int (vi 2), .int (vi 3), .int (vi 4), .int (vi 5), .int (vi 6), .ref (ex 0), .ref (ex 1), .ref (ex 2), .ref (a 2), .ref (ex 3), .ref (ex 4), .ref (ex 5), .ref (ex 6)])), ((a 1), .inr (7, [.int (vi 7), .int (vi 8), .ref (ex 7), .ref (ex 8), .ref (ex 9), .ref (ex 10), .ref (ex 11), .ref (ex 12), .ref (ex 13), .ref (ex 14), .ref (ex 15), .ref (ex 16)])), ((a 2), .inl (T 1, 9, .inl (fi 0)))]) (fun (r : Int32) (fj : Nat → Nat → Int32) (fm : Nat → Nat → Int64) (vj : Nat → Int32) (vm : Nat → Int64) => ((r = 1 ∧ (True)) ∨ (r = 0 ∧ (True))) ∧ True)) (va_A (pre_X2_hasVotes T a ex fi fl vi vl) sz)) 0 0 (va_A (pre_X2_hasVotes T a ex fi fl vi vl) sz) := by
  refine xofW (cc := cX2_hasVotes) (maxL := 6) (ret := (some .boolean)) (by decide) rfl ?_
  intro p e s m args below meth c s₁ R Q hR hQ B hml hv
  obtain ⟨rfl, hsz, hP, hK, hD0⟩ := hv
  have hx := B.exec
  have hb := B.bytes
  have hr := B.returns
  have hts := atoms_spec (ws := xw yX2_hasVotes cX2_hasVotes 6 (some .boolean)) B.pre
  have htg : ∀ w ∈ xg, w.before _ s = true := fun w h => hts w (List.mem_cons_of_mem _ h)
  have hown : s.vm.findClass RX2 = some m.cls := findClass_of_methodNamed B.named
  have hlocks := B.notSynchronized
  subst hsz
  have hD := hD0.self (sz := s.heap.size)
  generalize hAe : va_A (pre_X2_hasVotes T a ex fi fl vi vl) s.heap.size = A at hD hQ
  have hA : ∀ q : Nat, s.heap.size ≤ q → A q := fun q h => by rw [← hAe]; exact Or.inr h
  have hS : va_S A s.heap s.heap [] := va_S.rf
  replace hP : va_P D vwCl [((a 0), .inr (2, [.ref (a 1), .int (vi 1), .int (vi 2), .int (vi 3), .int (vi 4), .int (vi 5), .int (vi 6), .ref (ex 0), .ref (ex 1), .ref (ex 2), .ref (a 2), .ref (ex 3), .ref (ex 4), .ref (ex 5), .ref (ex 6)])), ((a 1), .inr (7, [.int (vi 7), .int (vi 8), .ref (ex 7), .ref (ex 8), .ref (ex 9), .ref (ex 10), .ref (ex 11), .ref (ex 12), .ref (ex 13), .ref (ex 14), .ref (ex 15), .ref (ex 16)])), ((a 2), .inl (T 1, 9, .inl (fi 0)))] s.heap := hP
  replace hD : va_D A [((a 0), .inr (2, [.ref (a 1), .int (vi 1), .int (vi 2), .int (vi 3), .int (vi 4), .int (vi 5), .int (vi 6), .ref (ex 0), .ref (ex 1), .ref (ex 2), .ref (a 2), .ref (ex 3), .ref (ex 4), .ref (ex 5), .ref (ex 6)])), ((a 1), .inr (7, [.int (vi 7), .int (vi 8), .ref (ex 7), .ref (ex 8), .ref (ex 9), .ref (ex 10), .ref (ex 11), .ref (ex 12), .ref (ex 13), .ref (ex 14), .ref (ex 15), .ref (ex 16)])), ((a 2), .inl (T 1, 9, .inl (fi 0)))] := hD
  have hl := lv_entry ([.ref (a 0), .int (vi 0)]) (n := 6) (Nat.le_of_ble_eq_true rfl)
  rw [lg_entry_eq]
  generalize (lg_sl ([.ref (a 0), .int (vi 0)]) ++ List.replicate (6 - (lg_sl ([.ref (a 0), .int (vi 0)])).length) Slot.unset).toArray = ls at hl ⊢
  replace hl : lv_has ls 6 [(0, .ref (a 0)), (1, .int (vi 0))] := hl
  refine lv_iconst (v := 0) hx hb dX2_hasVotes_0 (by decide) ?_
  refine lv_istore_n (lv' := [(2, .int 0), (0, .ref (a 0)), (1, .int (vi 0))]) hx hb dX2_hasVotes_1 rfl hl (by decide) rfl (fun ls hl => ?_)
  refine lv_iconst (v := 0) hx hb dX2_hasVotes_2 (by decide) ?_
  refine lv_istore_n (lv' := [(3, .int 0), (2, .int 0), (0, .ref (a 0)), (1, .int (vi 0))]) hx hb dX2_hasVotes_3 rfl hl (by decide) rfl (fun ls hl => ?_)
  refine lv_iconst (v := 1) hx hb dX2_hasVotes_4 (by decide) ?_
  refine lv_istore (lv' := [(4, .int 1), (3, .int 0), (2, .int 0), (0, .ref (a 0)), (1, .int (vi 0))]) hx hb dX2_hasVotes_5 hl (by decide) rfl (fun ls hl => ?_)
  refine lv_iconst (v := 0) hx hb dX2_hasVotes_7 (by decide) ?_
  refine lv_istore (lv' := [(5, .int 0), (4, .int 1), (3, .int 0), (2, .int 0), (0, .ref (a 0)), (1, .int (vi 0))]) hx hb dX2_hasVotes_8 hl (by decide) rfl (fun ls hl => ?_)
  have lp : ∀ (kn : Nat) (w5 : Int32) (w4 : Int32) (w3 : Int32) (w2 : Int32) (H : Heap) (locs : List Loc) (ls : Array Slot), (0 ≤ w5.toInt) → (2147483648 - w5.toInt).toNat = kn → va_P D vwCl [((a 0), .inr (2, [.ref (a 1), .int (vi 1), .int (vi 2), .int (vi 3), .int (vi 4), .int (vi 5), .int (vi 6), .ref (ex 0), .ref (ex 1), .ref (ex 2), .ref (a 2), .ref (ex 3), .ref (ex 4), .ref (ex 5), .ref (ex 6)])), ((a 1), .inr (7, [.int (vi 7), .int (vi 8), .ref (ex 7), .ref (ex 8), .ref (ex 9), .ref (ex 10), .ref (ex 11), .ref (ex 12), .ref (ex 13), .ref (ex 14), .ref (ex 15), .ref (ex 16)])), ((a 2), .inl (T 1, 9, .inl (fi 0)))] H → va_D A [((a 0), .inr (2, [.ref (a 1), .int (vi 1), .int (vi 2), .int (vi 3), .int (vi 4), .int (vi 5), .int (vi 6), .ref (ex 0), .ref (ex 1), .ref (ex 2), .ref (a 2), .ref (ex 3), .ref (ex 4), .ref (ex 5), .ref (ex 6)])), ((a 1), .inr (7, [.int (vi 7), .int (vi 8), .ref (ex 7), .ref (ex 8), .ref (ex 9), .ref (ex 10), .ref (ex 11), .ref (ex 12), .ref (ex 13), .ref (ex 14), .ref (ex 15), .ref (ex 16)])), ((a 2), .inl (T 1, 9, .inl (fi 0)))] → va_S A s.heap H locs → lv_has ls 6 [(5, .int w5), (4, .int w4), (3, .int w3), (2, .int w2), (0, .ref (a 0)), (1, .int (vi 0))] → W p l e R s m ([.ref (a 0), .int (vi 0)] : List Value).toArray below meth c H locs 0 0 Q (F0 m 10 ls []) := by
    intro kn
    induction kn using Nat.strongRecOn with
    | _ kn ih =>
      intro w5 w4 w3 w2 H locs ls hi hm hP hD hS hl
      refine lv_iload hx hb dX2_hasVotes_10 (lv_at hl 0 rfl) ?_
      refine lv_aload_n hx hb dX2_hasVotes_12 rfl (lv_at hl 4 rfl) ?_
      refine va_get (D := D) (ci := 2) (v := .ref (a 1)) (C := RX2) (T := TX2) (N := 15) hx hb htg inX2 hown hK.1 hP 0 rfl rfl 0 (by decide) (htg _ kw_245) (fun _ h9 => h9) rfl dX2_hasVotes_13 ?_
      refine va_getN (D := D) (ci := 7) (v := .int (vi 8)) (C := RX7) (T := TX7) (N := 12) hx hb htg inX7 hown hK.1 hP 1 rfl rfl 1 (by decide) (va_Nw.use rfl (hK.2.1 _ kn_164)) (fun _ h9 => h9) rfl dX2_hasVotes_16 ?_
      refine lv_icmp_ge (tgt := 82) hx hb dX2_hasVotes_19 (by decide) (fun c19 => ?_) (fun c19 => ?_)
      · have c19 := Int32.le_iff_toInt_le.mp c19
        have rc19 := xrng w5; have qc19 := xrng (vi 8)
        refine lv_aload_n hx hb dX2_hasVotes_82 rfl (lv_at hl 4 rfl) ?_
        refine va_get (D := D) (ci := 2) (v := .int (vi 6)) (C := RX2) (T := TX2) (N := 15) hx hb htg inX2 hown hK.1 hP 0 rfl rfl 6 (by decide) (htg _ kw_257) (fun _ h9 => h9) rfl dX2_hasVotes_83 ?_
        refine lv_if_le (tgt := 105) hx hb dX2_hasVotes_86 (by decide) (fun c86 => ?_) (fun c86 => ?_)
        · have c86 := xle (k := 0) (by decide) c86
          refine lv_iconst (v := 2) hx hb dX2_hasVotes_105 (by decide) ?_
          refine lv_iload_n hx hb dX2_hasVotes_106 rfl (lv_at hl 2 rfl) ?_
          refine lv_imul hx hb dX2_hasVotes_107 ?_
          refine lv_topi (fun z107 ez107 => ?_)
          refine lv_iload_n hx hb dX2_hasVotes_108 rfl (lv_at hl 3 rfl) ?_
          refine lv_icmp_le (tgt := 116) hx hb dX2_hasVotes_109 (by decide) (fun c109 => ?_) (fun c109 => ?_)
          · have c109 := Int32.le_iff_toInt_le.mp c109
            have rc109 := xrng z107; have qc109 := xrng w2
            refine lv_iconst (v := 0) hx hb dX2_hasVotes_116 (by decide) ?_
            have hP9 := hP.sub (ws' := [((a 0), .inr (2, [.ref (a 1), .int (vi 1), .int (vi 2), .int (vi 3), .int (vi 4), .int (vi 5), .int (vi 6), .ref (ex 0), .ref (ex 1), .ref (ex 2), .ref (a 2), .ref (ex 3), .ref (ex 4), .ref (ex 5), .ref (ex 6)])), ((a 1), .inr (7, [.int (vi 7), .int (vi 8), .ref (ex 7), .ref (ex 8), .ref (ex 9), .ref (ex 10), .ref (ex 11), .ref (ex 12), .ref (ex 13), .ref (ex 14), .ref (ex 15), .ref (ex 16)])), ((a 2), .inl (T 1, 9, .inl (fi 0)))]) [0, 1, 2] rfl
            have hD9 := hD.sub (ws' := [((a 0), .inr (2, [.ref (a 1), .int (vi 1), .int (vi 2), .int (vi 3), .int (vi 4), .int (vi 5), .int (vi 6), .ref (ex 0), .ref (ex 1), .ref (ex 2), .ref (a 2), .ref (ex 3), .ref (ex 4), .ref (ex 5), .ref (ex 6)])), ((a 1), .inr (7, [.int (vi 7), .int (vi 8), .ref (ex 7), .ref (ex 8), .ref (ex 9), .ref (ex 10), .ref (ex 11), .ref (ex 12), .ref (ex 13), .ref (ex 14), .ref (ex 15), .ref (ex 16)])), ((a 2), .inl (T 1, 9, .inl (fi 0)))]) [0, 1, 2] (by decide +kernel) rfl
            rw [hQ]
            exact W.zret (v := 0) hx hb hr rfl (fun t ht hW => ⟨⟨0, 0, rfl, rfl, xf [], xh [], xv [], xl [], by rw [ht]; exact hP9, hD9, ⟨(Or.inr ⟨rfl, by show True; first | trivial | omega | assumption⟩), trivial⟩⟩, hS.F ht⟩) hS.2.2 dX2_hasVotes_117
          · have c109 := (mt Int32.le_iff_toInt_le.mpr c109)
            have rc109 := xrng z107; have qc109 := xrng w2
            refine lv_iconst (v := 1) hx hb dX2_hasVotes_112 (by decide) ?_
            refine lv_goto (tgt := 117) hx hb dX2_hasVotes_113 (by decide) ?_
            have hP9 := hP.sub (ws' := [((a 0), .inr (2, [.ref (a 1), .int (vi 1), .int (vi 2), .int (vi 3), .int (vi 4), .int (vi 5), .int (vi 6), .ref (ex 0), .ref (ex 1), .ref (ex 2), .ref (a 2), .ref (ex 3), .ref (ex 4), .ref (ex 5), .ref (ex 6)])), ((a 1), .inr (7, [.int (vi 7), .int (vi 8), .ref (ex 7), .ref (ex 8), .ref (ex 9), .ref (ex 10), .ref (ex 11), .ref (ex 12), .ref (ex 13), .ref (ex 14), .ref (ex 15), .ref (ex 16)])), ((a 2), .inl (T 1, 9, .inl (fi 0)))]) [0, 1, 2] rfl
            have hD9 := hD.sub (ws' := [((a 0), .inr (2, [.ref (a 1), .int (vi 1), .int (vi 2), .int (vi 3), .int (vi 4), .int (vi 5), .int (vi 6), .ref (ex 0), .ref (ex 1), .ref (ex 2), .ref (a 2), .ref (ex 3), .ref (ex 4), .ref (ex 5), .ref (ex 6)])), ((a 1), .inr (7, [.int (vi 7), .int (vi 8), .ref (ex 7), .ref (ex 8), .ref (ex 9), .ref (ex 10), .ref (ex 11), .ref (ex 12), .ref (ex 13), .ref (ex 14), .ref (ex 15), .ref (ex 16)])), ((a 2), .inl (T 1, 9, .inl (fi 0)))]) [0, 1, 2] (by decide +kernel) rfl
            rw [hQ]
            exact W.zret (v := 1) hx hb hr rfl (fun t ht hW => ⟨⟨1, 1, rfl, rfl, xf [], xh [], xv [], xl [], by rw [ht]; exact hP9, hD9, ⟨(Or.inl ⟨rfl, by show True; first | trivial | omega | assumption⟩), trivial⟩⟩, hS.F ht⟩) hS.2.2 dX2_hasVotes_117
        · have c86 := xnle (k := 0) (by decide) c86
          obtain ⟨i89, ei89⟩ : ∃ z : Int32, w2 + Int32.ofInt 1 = z := ⟨_, rfl⟩
          refine lv_iinc (v := i89) (lv' := [(2, .int i89), (5, .int w5), (4, .int w4), (3, .int w3), (0, .ref (a 0)), (1, .int (vi 0))]) hx hb dX2_hasVotes_89 hl (k := 3) rfl ei89 (by decide) rfl (fun ls hl => ?_)
          refine lv_iload_n hx hb dX2_hasVotes_92 rfl (lv_at hl 3 rfl) ?_
          refine lv_iload hx hb dX2_hasVotes_93 (lv_at hl 2 rfl) ?_
          refine lv_if_eq (tgt := 102) hx hb dX2_hasVotes_95 (by decide) (fun c95 => ?_) (fun c95 => ?_)
          · have c95 := xeq (k := 0) (by decide) c95
            refine lv_iconst (v := 0) hx hb dX2_hasVotes_102 (by decide) ?_
            refine lv_iadd hx hb dX2_hasVotes_103 ?_
            refine lv_topi (fun z103 ez103 => ?_)
            have tz103 : z103.toInt = w3.toInt + 0 := by rw [ez103]; have h79 := xrng w3; exact xadd rfl (by decide) (by omega) (by omega)
            refine lv_istore_n (lv' := [(3, .int z103), (2, .int i89), (5, .int w5), (4, .int w4), (0, .ref (a 0)), (1, .int (vi 0))]) hx hb dX2_hasVotes_104 rfl hl (by decide) rfl (fun ls hl => ?_)
            refine lv_iconst (v := 2) hx hb dX2_hasVotes_105 (by decide) ?_
            refine lv_iload_n hx hb dX2_hasVotes_106 rfl (lv_at hl 0 rfl) ?_
            refine lv_imul hx hb dX2_hasVotes_107 ?_
            refine lv_topi (fun z107_1 ez107_1 => ?_)
            refine lv_iload_n hx hb dX2_hasVotes_108 rfl (lv_at hl 1 rfl) ?_
            refine lv_icmp_le (tgt := 116) hx hb dX2_hasVotes_109 (by decide) (fun c109_1 => ?_) (fun c109_1 => ?_)
            · have c109_1 := Int32.le_iff_toInt_le.mp c109_1
              have rc109_1 := xrng z107_1; have qc109_1 := xrng i89
              refine lv_iconst (v := 0) hx hb dX2_hasVotes_116 (by decide) ?_
              have hP9 := hP.sub (ws' := [((a 0), .inr (2, [.ref (a 1), .int (vi 1), .int (vi 2), .int (vi 3), .int (vi 4), .int (vi 5), .int (vi 6), .ref (ex 0), .ref (ex 1), .ref (ex 2), .ref (a 2), .ref (ex 3), .ref (ex 4), .ref (ex 5), .ref (ex 6)])), ((a 1), .inr (7, [.int (vi 7), .int (vi 8), .ref (ex 7), .ref (ex 8), .ref (ex 9), .ref (ex 10), .ref (ex 11), .ref (ex 12), .ref (ex 13), .ref (ex 14), .ref (ex 15), .ref (ex 16)])), ((a 2), .inl (T 1, 9, .inl (fi 0)))]) [0, 1, 2] rfl
              have hD9 := hD.sub (ws' := [((a 0), .inr (2, [.ref (a 1), .int (vi 1), .int (vi 2), .int (vi 3), .int (vi 4), .int (vi 5), .int (vi 6), .ref (ex 0), .ref (ex 1), .ref (ex 2), .ref (a 2), .ref (ex 3), .ref (ex 4), .ref (ex 5), .ref (ex 6)])), ((a 1), .inr (7, [.int (vi 7), .int (vi 8), .ref (ex 7), .ref (ex 8), .ref (ex 9), .ref (ex 10), .ref (ex 11), .ref (ex 12), .ref (ex 13), .ref (ex 14), .ref (ex 15), .ref (ex 16)])), ((a 2), .inl (T 1, 9, .inl (fi 0)))]) [0, 1, 2] (by decide +kernel) rfl
              rw [hQ]
              exact W.zret (v := 0) hx hb hr rfl (fun t ht hW => ⟨⟨0, 0, rfl, rfl, xf [], xh [], xv [], xl [], by rw [ht]; exact hP9, hD9, ⟨(Or.inr ⟨rfl, by show True; first | trivial | omega | assumption⟩), trivial⟩⟩, hS.F ht⟩) hS.2.2 dX2_hasVotes_117
            · have c109_1 := (mt Int32.le_iff_toInt_le.mpr c109_1)
              have rc109_1 := xrng z107_1; have qc109_1 := xrng i89
              refine lv_iconst (v := 1) hx hb dX2_hasVotes_112 (by decide) ?_
              refine lv_goto (tgt := 117) hx hb dX2_hasVotes_113 (by decide) ?_
              have hP9 := hP.sub (ws' := [((a 0), .inr (2, [.ref (a 1), .int (vi 1), .int (vi 2), .int (vi 3), .int (vi 4), .int (vi 5), .int (vi 6), .ref (ex 0), .ref (ex 1), .ref (ex 2), .ref (a 2), .ref (ex 3), .ref (ex 4), .ref (ex 5), .ref (ex 6)])), ((a 1), .inr (7, [.int (vi 7), .int (vi 8), .ref (ex 7), .ref (ex 8), .ref (ex 9), .ref (ex 10), .ref (ex 11), .ref (ex 12), .ref (ex 13), .ref (ex 14), .ref (ex 15), .ref (ex 16)])), ((a 2), .inl (T 1, 9, .inl (fi 0)))]) [0, 1, 2] rfl
              have hD9 := hD.sub (ws' := [((a 0), .inr (2, [.ref (a 1), .int (vi 1), .int (vi 2), .int (vi 3), .int (vi 4), .int (vi 5), .int (vi 6), .ref (ex 0), .ref (ex 1), .ref (ex 2), .ref (a 2), .ref (ex 3), .ref (ex 4), .ref (ex 5), .ref (ex 6)])), ((a 1), .inr (7, [.int (vi 7), .int (vi 8), .ref (ex 7), .ref (ex 8), .ref (ex 9), .ref (ex 10), .ref (ex 11), .ref (ex 12), .ref (ex 13), .ref (ex 14), .ref (ex 15), .ref (ex 16)])), ((a 2), .inl (T 1, 9, .inl (fi 0)))]) [0, 1, 2] (by decide +kernel) rfl
              rw [hQ]
              exact W.zret (v := 1) hx hb hr rfl (fun t ht hW => ⟨⟨1, 1, rfl, rfl, xf [], xh [], xv [], xl [], by rw [ht]; exact hP9, hD9, ⟨(Or.inl ⟨rfl, by show True; first | trivial | omega | assumption⟩), trivial⟩⟩, hS.F ht⟩) hS.2.2 dX2_hasVotes_117
          · have c95 := xne (k := 0) (by decide) c95
            refine lv_iconst (v := 1) hx hb dX2_hasVotes_98 (by decide) ?_
            refine lv_goto (tgt := 103) hx hb dX2_hasVotes_99 (by decide) ?_
            refine lv_iadd hx hb dX2_hasVotes_103 ?_
            refine lv_topi (fun z103_1 ez103_1 => ?_)
            refine lv_istore_n (lv' := [(3, .int z103_1), (2, .int i89), (5, .int w5), (4, .int w4), (0, .ref (a 0)), (1, .int (vi 0))]) hx hb dX2_hasVotes_104 rfl hl (by decide) rfl (fun ls hl => ?_)
            refine lv_iconst (v := 2) hx hb dX2_hasVotes_105 (by decide) ?_
            refine lv_iload_n hx hb dX2_hasVotes_106 rfl (lv_at hl 0 rfl) ?_
            refine lv_imul hx hb dX2_hasVotes_107 ?_
            refine lv_topi (fun z107_2 ez107_2 => ?_)
            refine lv_iload_n hx hb dX2_hasVotes_108 rfl (lv_at hl 1 rfl) ?_
            refine lv_icmp_le (tgt := 116) hx hb dX2_hasVotes_109 (by decide) (fun c109_2 => ?_) (fun c109_2 => ?_)
            · have c109_2 := Int32.le_iff_toInt_le.mp c109_2
              have rc109_2 := xrng z107_2; have qc109_2 := xrng i89
              refine lv_iconst (v := 0) hx hb dX2_hasVotes_116 (by decide) ?_
              have hP9 := hP.sub (ws' := [((a 0), .inr (2, [.ref (a 1), .int (vi 1), .int (vi 2), .int (vi 3), .int (vi 4), .int (vi 5), .int (vi 6), .ref (ex 0), .ref (ex 1), .ref (ex 2), .ref (a 2), .ref (ex 3), .ref (ex 4), .ref (ex 5), .ref (ex 6)])), ((a 1), .inr (7, [.int (vi 7), .int (vi 8), .ref (ex 7), .ref (ex 8), .ref (ex 9), .ref (ex 10), .ref (ex 11), .ref (ex 12), .ref (ex 13), .ref (ex 14), .ref (ex 15), .ref (ex 16)])), ((a 2), .inl (T 1, 9, .inl (fi 0)))]) [0, 1, 2] rfl
              have hD9 := hD.sub (ws' := [((a 0), .inr (2, [.ref (a 1), .int (vi 1), .int (vi 2), .int (vi 3), .int (vi 4), .int (vi 5), .int (vi 6), .ref (ex 0), .ref (ex 1), .ref (ex 2), .ref (a 2), .ref (ex 3), .ref (ex 4), .ref (ex 5), .ref (ex 6)])), ((a 1), .inr (7, [.int (vi 7), .int (vi 8), .ref (ex 7), .ref (ex 8), .ref (ex 9), .ref (ex 10), .ref (ex 11), .ref (ex 12), .ref (ex 13), .ref (ex 14), .ref (ex 15), .ref (ex 16)])), ((a 2), .inl (T 1, 9, .inl (fi 0)))]) [0, 1, 2] (by decide +kernel) rfl
              rw [hQ]
              exact W.zret (v := 0) hx hb hr rfl (fun t ht hW => ⟨⟨0, 0, rfl, rfl, xf [], xh [], xv [], xl [], by rw [ht]; exact hP9, hD9, ⟨(Or.inr ⟨rfl, by show True; first | trivial | omega | assumption⟩), trivial⟩⟩, hS.F ht⟩) hS.2.2 dX2_hasVotes_117
            · have c109_2 := (mt Int32.le_iff_toInt_le.mpr c109_2)
              have rc109_2 := xrng z107_2; have qc109_2 := xrng i89
              refine lv_iconst (v := 1) hx hb dX2_hasVotes_112 (by decide) ?_
              refine lv_goto (tgt := 117) hx hb dX2_hasVotes_113 (by decide) ?_
              have hP9 := hP.sub (ws' := [((a 0), .inr (2, [.ref (a 1), .int (vi 1), .int (vi 2), .int (vi 3), .int (vi 4), .int (vi 5), .int (vi 6), .ref (ex 0), .ref (ex 1), .ref (ex 2), .ref (a 2), .ref (ex 3), .ref (ex 4), .ref (ex 5), .ref (ex 6)])), ((a 1), .inr (7, [.int (vi 7), .int (vi 8), .ref (ex 7), .ref (ex 8), .ref (ex 9), .ref (ex 10), .ref (ex 11), .ref (ex 12), .ref (ex 13), .ref (ex 14), .ref (ex 15), .ref (ex 16)])), ((a 2), .inl (T 1, 9, .inl (fi 0)))]) [0, 1, 2] rfl
              have hD9 := hD.sub (ws' := [((a 0), .inr (2, [.ref (a 1), .int (vi 1), .int (vi 2), .int (vi 3), .int (vi 4), .int (vi 5), .int (vi 6), .ref (ex 0), .ref (ex 1), .ref (ex 2), .ref (a 2), .ref (ex 3), .ref (ex 4), .ref (ex 5), .ref (ex 6)])), ((a 1), .inr (7, [.int (vi 7), .int (vi 8), .ref (ex 7), .ref (ex 8), .ref (ex 9), .ref (ex 10), .ref (ex 11), .ref (ex 12), .ref (ex 13), .ref (ex 14), .ref (ex 15), .ref (ex 16)])), ((a 2), .inl (T 1, 9, .inl (fi 0)))]) [0, 1, 2] (by decide +kernel) rfl
              rw [hQ]
              exact W.zret (v := 1) hx hb hr rfl (fun t ht hW => ⟨⟨1, 1, rfl, rfl, xf [], xh [], xv [], xl [], by rw [ht]; exact hP9, hD9, ⟨(Or.inl ⟨rfl, by show True; first | trivial | omega | assumption⟩), trivial⟩⟩, hS.F ht⟩) hS.2.2 dX2_hasVotes_117
      · have c19 := (mt Int32.le_iff_toInt_le.mpr c19)
        have rc19 := xrng w5; have qc19 := xrng (vi 8)
        refine lv_aload_n hx hb dX2_hasVotes_22 rfl (lv_at hl 4 rfl) ?_
        refine lv_iload hx hb dX2_hasVotes_23 (lv_at hl 0 rfl) ?_
        obtain ⟨hC9, hPc, hDc, hFc⟩ := xcut (wc := (pre_X2_doesWait T (xa [(a 0), (a 2)]) (xa [(a 1), (ex 0), (ex 1), (ex 2), (ex 3), (ex 4), (ex 5), (ex 6)]) (xf [(fi 0)]) (xh []) (xv [w5, (vi 1), (vi 2), (vi 3), (vi 4), (vi 5), (vi 6)]) (xl []))) hP hD hS hA [0, 2] (by decide) rfl
        refine va_calli (va_runV (As := [.int w5]) (rest := []) ⟨hx, hb, hml, hown, htg⟩ (c_X2_doesWait l D T (xa [(a 0), (a 2)]) (xa [(a 1), (ex 0), (ex 1), (ex 2), (ex 3), (ex 4), (ex 5), (ex 6)]) (xf [(fi 0)]) (xh []) (xv [w5, (vi 1), (vi 2), (vi 3), (vi 4), (vi 5), (vi 6)]) (xl []) H.size (by show 0 ≤ w5.toInt ∧ w5.toInt ≤ 8; omega) hp0 hp1 (show rg (fi 0) 0 9 (-1) 8 from hp4)) ⟨callB_of 1 htg (xg_ok kw_1066) rfl rfl rfl (htg _ kw_9) (htg _ kw_1063) (by decide +kernel) ⟨by rw [hR]; exact Nat.le_of_ble_eq_true rfl, by rw [hR]; exact Nat.le_of_ble_eq_true rfl⟩, htg _ kw_1065, htg _ ks_88⟩ (xpreV hK hPc hDc (va_recv hK.1 hPc (ci := 2) (q0 := 0) rfl rfl)) rfl rfl hl.1 rfl (lv_room (Nat.le_of_ble_eq_true rfl)) dX2_hasVotes_25 ⟨by rw [hR]; exact Nat.le_of_ble_eq_true rfl, by rw [hR]; exact Nat.le_of_ble_eq_true rfl⟩) hS (fun q _ h => hFc q h) hFc (fun r9 u9 t H1 locs ht hvm hw hB hz1 hk1 hS => ?_)
        subst hw
        obtain ⟨fik, flk, vik, vlk, hP1, hD1, hG⟩ := hB
        rw [ht] at hP1
        obtain ⟨hP, hD⟩ := va_join (wr := [((a 1), .inr (7, [.int (vi 7), .int (vi 8), .ref (ex 7), .ref (ex 8), .ref (ex 9), .ref (ex 10), .ref (ex 11), .ref (ex 12), .ref (ex 13), .ref (ex 14), .ref (ex 15), .ref (ex 16)]))]) (w1 := [((a 0), .inr (2, [.ref (a 1), .int (vi 1), .int (vi 2), .int (vi 3), .int (vi 4), .int (vi 5), .int (vi 6), .ref (ex 0), .ref (ex 1), .ref (ex 2), .ref (a 2), .ref (ex 3), .ref (ex 4), .ref (ex 5), .ref (ex 6)])), ((a 2), .inl (T 1, 9, .inl (fi 0)))]) hP hD [0, 2] [1] hC9 rfl (by decide) (by decide) hk1 hFc hP1 hD1
        obtain ⟨rk, er9⟩ : ∃ z, z = r9 := ⟨_, rfl⟩
        subst er9
        clear hPc hDc hFc hP1 hD1 hk1 hz1 hvm ht hC9
        generalize H1 = H at hP hS ⊢
        obtain ⟨hP, hD⟩ := (show xPD D A [((a 1), .inr (7, [.int (vi 7), .int (vi 8), .ref (ex 7), .ref (ex 8), .ref (ex 9), .ref (ex 10), .ref (ex 11), .ref (ex 12), .ref (ex 13), .ref (ex 14), .ref (ex 15), .ref (ex 16)])), ((a 0), .inr (2, [.ref (a 1), .int (vi 1), .int (vi 2), .int (vi 3), .int (vi 4), .int (vi 5), .int (vi 6), .ref (ex 0), .ref (ex 1), .ref (ex 2), .ref (a 2), .ref (ex 3), .ref (ex 4), .ref (ex 5), .ref (ex 6)])), ((a 2), .inl (T 1, 9, .inl (fi 0)))] H from ⟨hP, hD⟩)
        obtain ⟨gk_0, -⟩ := hG
        rcases (show (rk = 1 ∧ (True)) ∨ (rk = 0 ∧ (True)) from gk_0) with ⟨er9, gk_0⟩ | ⟨er9, gk_0⟩
        · refine xz_i 1 er9 ?_
          refine lv_if_eq (tgt := 55) hx hb dX2_hasVotes_28 (by decide) (fun c => absurd c (by decide)) (fun _ => ?_)
          refine lv_iload hx hb dX2_hasVotes_31 (lv_at hl 1 rfl) ?_
          refine lv_if_eq (tgt := 49) hx hb dX2_hasVotes_33 (by decide) (fun c33 => ?_) (fun c33 => ?_)
          · have c33 := xeq (k := 0) (by decide) c33
            refine lv_iconst (v := 0) hx hb dX2_hasVotes_49 (by decide) ?_
            refine lv_istore (lv' := [(4, .int 0), (5, .int w5), (3, .int w3), (2, .int w2), (0, .ref (a 0)), (1, .int (vi 0))]) hx hb dX2_hasVotes_50 hl (by decide) rfl (fun ls hl => ?_)
            refine lv_goto (tgt := 76) hx hb dX2_hasVotes_52 (by decide) ?_
            obtain ⟨i76, ei76⟩ : ∃ z : Int32, w5 + Int32.ofInt 1 = z := ⟨_, rfl⟩
            have ti76 : i76.toInt = w5.toInt + 1 := by rw [← ei76]; have h79 := xrng w5; exact xadd rfl (by decide) (by omega) (by omega)
            refine lv_iinc (v := i76) (lv' := [(5, .int i76), (4, .int 0), (3, .int w3), (2, .int w2), (0, .ref (a 0)), (1, .int (vi 0))]) hx hb dX2_hasVotes_76 hl (k := 1) rfl ei76 (by decide) rfl (fun ls hl => ?_)
            refine lv_goto (tgt := 10) hx hb dX2_hasVotes_79 (by decide) ?_
            exact ih _ (by omega) i76 (0 : Int32) w3 w2 _ _ _ (by show 0 ≤ i76.toInt; omega) rfl (hP.sub [1, 0, 2] rfl) (hD.sub [1, 0, 2] (by decide) rfl) hS (lv_sub hl [0, 1, 2, 3, 4, 5] rfl)
          · have c33 := xne (k := 0) (by decide) c33
            refine lv_iload_n hx hb dX2_hasVotes_36 rfl (lv_at hl 5 rfl) ?_
            refine lv_iload hx hb dX2_hasVotes_37 (lv_at hl 0 rfl) ?_
            obtain ⟨hC9, hPc, hDc, hFc⟩ := xcut (wc := (pre_X11_hasBit T (xa []) (xa []) (xf []) (xh []) (xv [(vi 0), w5]) (xl []))) hP hD hS hA [] (by decide) rfl
            refine va_calli (va_runSN (As := [.int (vi 0), .int w5]) (rest := []) ⟨hx, hb, hml, hown, htg⟩ (c_X11_hasBit l D T (xa []) (xa []) (xf []) (xh []) (xv [(vi 0), w5]) (xl []) H.size) ⟨va_cnB 2 htg (xg_ok kw_758) rfl rfl rfl (hK.2.1 _ kn_756) (htg _ kw_1) (by decide +kernel) ⟨by rw [hR]; exact Nat.le_of_ble_eq_true rfl, by rw [hR]; exact Nat.le_of_ble_eq_true rfl⟩, htg _ kw_757, trivial⟩ (xpreS hK hPc hDc) rfl rfl hl.1 rfl (lv_room (Nat.le_of_ble_eq_true rfl)) dX2_hasVotes_39 ⟨by rw [hR]; exact Nat.le_of_ble_eq_true rfl, by rw [hR]; exact Nat.le_of_ble_eq_true rfl⟩) hS (fun q _ h => hFc q h) hFc (fun r9 u9 t H1 locs ht hvm hw hB hz1 hk1 hS => ?_)
            subst hw
            obtain ⟨fik_1, flk_1, vik_1, vlk_1, hP1, hD1, hG⟩ := hB
            rw [ht] at hP1
            obtain ⟨hP, hD⟩ := va_join (wr := [((a 1), .inr (7, [.int (vi 7), .int (vi 8), .ref (ex 7), .ref (ex 8), .ref (ex 9), .ref (ex 10), .ref (ex 11), .ref (ex 12), .ref (ex 13), .ref (ex 14), .ref (ex 15), .ref (ex 16)])), ((a 0), .inr (2, [.ref (a 1), .int (vi 1), .int (vi 2), .int (vi 3), .int (vi 4), .int (vi 5), .int (vi 6), .ref (ex 0), .ref (ex 1), .ref (ex 2), .ref (a 2), .ref (ex 3), .ref (ex 4), .ref (ex 5), .ref (ex 6)])), ((a 2), .inl (T 1, 9, .inl (fi 0)))]) (w1 := []) hP hD [] [0, 1, 2] hC9 rfl (by decide) (by decide) hk1 hFc hP1 hD1
            obtain ⟨rk_1, er9⟩ : ∃ z, z = r9 := ⟨_, rfl⟩
            subst er9
            clear hPc hDc hFc hP1 hD1 hk1 hz1 hvm ht hC9
            generalize H1 = H at hP hS ⊢
            obtain ⟨hP, hD⟩ := (show xPD D A [((a 1), .inr (7, [.int (vi 7), .int (vi 8), .ref (ex 7), .ref (ex 8), .ref (ex 9), .ref (ex 10), .ref (ex 11), .ref (ex 12), .ref (ex 13), .ref (ex 14), .ref (ex 15), .ref (ex 16)])), ((a 0), .inr (2, [.ref (a 1), .int (vi 1), .int (vi 2), .int (vi 3), .int (vi 4), .int (vi 5), .int (vi 6), .ref (ex 0), .ref (ex 1), .ref (ex 2), .ref (a 2), .ref (ex 3), .ref (ex 4), .ref (ex 5), .ref (ex 6)])), ((a 2), .inl (T 1, 9, .inl (fi 0)))] H from ⟨hP, hD⟩)
            obtain ⟨gk_1_0, -⟩ := hG
            rcases (show (rk_1 = 1 ∧ (True)) ∨ (rk_1 = 0 ∧ (True)) from gk_1_0) with ⟨er9, gk_1_0⟩ | ⟨er9, gk_1_0⟩
            · refine xz_i 1 er9 ?_
              refine lv_if_eq (tgt := 49) hx hb dX2_hasVotes_42 (by decide) (fun c => absurd c (by decide)) (fun _ => ?_)
              refine lv_iconst (v := 1) hx hb dX2_hasVotes_45 (by decide) ?_
              refine lv_goto (tgt := 50) hx hb dX2_hasVotes_46 (by decide) ?_
              refine lv_istore (lv' := [(4, .int 1), (5, .int w5), (3, .int w3), (2, .int w2), (0, .ref (a 0)), (1, .int (vi 0))]) hx hb dX2_hasVotes_50 hl (by decide) rfl (fun ls hl => ?_)
              refine lv_goto (tgt := 76) hx hb dX2_hasVotes_52 (by decide) ?_
              obtain ⟨i76_1, ei76_1⟩ : ∃ z : Int32, w5 + Int32.ofInt 1 = z := ⟨_, rfl⟩
              have ti76_1 : i76_1.toInt = w5.toInt + 1 := by rw [← ei76_1]; have h79 := xrng w5; exact xadd rfl (by decide) (by omega) (by omega)
              refine lv_iinc (v := i76_1) (lv' := [(5, .int i76_1), (4, .int 1), (3, .int w3), (2, .int w2), (0, .ref (a 0)), (1, .int (vi 0))]) hx hb dX2_hasVotes_76 hl (k := 1) rfl ei76_1 (by decide) rfl (fun ls hl => ?_)
              refine lv_goto (tgt := 10) hx hb dX2_hasVotes_79 (by decide) ?_
              exact ih _ (by omega) i76_1 (1 : Int32) w3 w2 _ _ _ (by show 0 ≤ i76_1.toInt; omega) rfl (hP.sub [1, 0, 2] rfl) (hD.sub [1, 0, 2] (by decide) rfl) hS (lv_sub hl [0, 1, 2, 3, 4, 5] rfl)
            · refine xz_i 0 er9 ?_
              refine lv_if_eq (tgt := 49) hx hb dX2_hasVotes_42 (by decide) (fun _ => ?_) (fun c => absurd (by decide) c)
              refine lv_iconst (v := 0) hx hb dX2_hasVotes_49 (by decide) ?_
              refine lv_istore (lv' := [(4, .int 0), (5, .int w5), (3, .int w3), (2, .int w2), (0, .ref (a 0)), (1, .int (vi 0))]) hx hb dX2_hasVotes_50 hl (by decide) rfl (fun ls hl => ?_)
              refine lv_goto (tgt := 76) hx hb dX2_hasVotes_52 (by decide) ?_
              obtain ⟨i76_2, ei76_2⟩ : ∃ z : Int32, w5 + Int32.ofInt 1 = z := ⟨_, rfl⟩
              have ti76_2 : i76_2.toInt = w5.toInt + 1 := by rw [← ei76_2]; have h79 := xrng w5; exact xadd rfl (by decide) (by omega) (by omega)
              refine lv_iinc (v := i76_2) (lv' := [(5, .int i76_2), (4, .int 0), (3, .int w3), (2, .int w2), (0, .ref (a 0)), (1, .int (vi 0))]) hx hb dX2_hasVotes_76 hl (k := 1) rfl ei76_2 (by decide) rfl (fun ls hl => ?_)
              refine lv_goto (tgt := 10) hx hb dX2_hasVotes_79 (by decide) ?_
              exact ih _ (by omega) i76_2 (0 : Int32) w3 w2 _ _ _ (by show 0 ≤ i76_2.toInt; omega) rfl (hP.sub [1, 0, 2] rfl) (hD.sub [1, 0, 2] (by decide) rfl) hS (lv_sub hl [0, 1, 2, 3, 4, 5] rfl)
        · refine xz_i 0 er9 ?_
          refine lv_if_eq (tgt := 55) hx hb dX2_hasVotes_28 (by decide) (fun _ => ?_) (fun c => absurd (by decide) c)
          refine lv_aload_n hx hb dX2_hasVotes_55 rfl (lv_at hl 4 rfl) ?_
          refine lv_iload hx hb dX2_hasVotes_56 (lv_at hl 0 rfl) ?_
          obtain ⟨hC9, hPc, hDc, hFc⟩ := xcut (wc := (pre_X2_isAlive T (xa [(a 0)]) (xa [(a 1), (ex 0), (ex 1), (ex 2), (a 2), (ex 3), (ex 4), (ex 5), (ex 6)]) (xf []) (xh []) (xv [w5, (vi 1), (vi 2), (vi 3), (vi 4), (vi 5), (vi 6)]) (xl []))) hP hD hS hA [1] (by decide) rfl
          refine va_calli (va_runV (As := [.int w5]) (rest := []) ⟨hx, hb, hml, hown, htg⟩ (c_X2_isAlive l D T (xa [(a 0)]) (xa [(a 1), (ex 0), (ex 1), (ex 2), (a 2), (ex 3), (ex 4), (ex 5), (ex 6)]) (xf []) (xh []) (xv [w5, (vi 1), (vi 2), (vi 3), (vi 4), (vi 5), (vi 6)]) (xl []) H.size hp0 hp1) ⟨callB_of 1 htg (xg_ok kw_796) rfl rfl rfl (htg _ kw_9) (htg _ kw_793) (by decide +kernel) ⟨by rw [hR]; exact Nat.le_of_ble_eq_true rfl, by rw [hR]; exact Nat.le_of_ble_eq_true rfl⟩, htg _ kw_795, htg _ ks_45⟩ (xpreV hK hPc hDc (va_recv hK.1 hPc (ci := 2) (q0 := 0) rfl rfl)) rfl rfl hl.1 rfl (lv_room (Nat.le_of_ble_eq_true rfl)) dX2_hasVotes_58 ⟨by rw [hR]; exact Nat.le_of_ble_eq_true rfl, by rw [hR]; exact Nat.le_of_ble_eq_true rfl⟩) hS (fun q _ h => hFc q h) hFc (fun r9 u9 t H1 locs ht hvm hw hB hz1 hk1 hS => ?_)
          subst hw
          obtain ⟨fik_2, flk_2, vik_2, vlk_2, hP1, hD1, hG⟩ := hB
          rw [ht] at hP1
          obtain ⟨hP, hD⟩ := va_join (wr := [((a 1), .inr (7, [.int (vi 7), .int (vi 8), .ref (ex 7), .ref (ex 8), .ref (ex 9), .ref (ex 10), .ref (ex 11), .ref (ex 12), .ref (ex 13), .ref (ex 14), .ref (ex 15), .ref (ex 16)])), ((a 2), .inl (T 1, 9, .inl (fi 0)))]) (w1 := [((a 0), .inr (2, [.ref (a 1), .int (vi 1), .int (vi 2), .int (vi 3), .int (vi 4), .int (vi 5), .int (vi 6), .ref (ex 0), .ref (ex 1), .ref (ex 2), .ref (a 2), .ref (ex 3), .ref (ex 4), .ref (ex 5), .ref (ex 6)]))]) hP hD [1] [0, 2] hC9 rfl (by decide) (by decide) hk1 hFc hP1 hD1
          obtain ⟨rk_2, er9⟩ : ∃ z, z = r9 := ⟨_, rfl⟩
          subst er9
          clear hPc hDc hFc hP1 hD1 hk1 hz1 hvm ht hC9
          generalize H1 = H at hP hS ⊢
          obtain ⟨hP, hD⟩ := (show xPD D A [((a 1), .inr (7, [.int (vi 7), .int (vi 8), .ref (ex 7), .ref (ex 8), .ref (ex 9), .ref (ex 10), .ref (ex 11), .ref (ex 12), .ref (ex 13), .ref (ex 14), .ref (ex 15), .ref (ex 16)])), ((a 2), .inl (T 1, 9, .inl (fi 0))), ((a 0), .inr (2, [.ref (a 1), .int (vi 1), .int (vi 2), .int (vi 3), .int (vi 4), .int (vi 5), .int (vi 6), .ref (ex 0), .ref (ex 1), .ref (ex 2), .ref (a 2), .ref (ex 3), .ref (ex 4), .ref (ex 5), .ref (ex 6)]))] H from ⟨hP, hD⟩)
          obtain ⟨gk_2_0, -⟩ := hG
          rcases (show (rk_2 = 1 ∧ (True)) ∨ (rk_2 = 0 ∧ (True)) from gk_2_0) with ⟨er9, gk_2_0⟩ | ⟨er9, gk_2_0⟩
          · refine xz_i 1 er9 ?_
            refine lv_if_eq (tgt := 76) hx hb dX2_hasVotes_61 (by decide) (fun c => absurd c (by decide)) (fun _ => ?_)
            obtain ⟨i64, ei64⟩ : ∃ z : Int32, w2 + Int32.ofInt 1 = z := ⟨_, rfl⟩
            refine lv_iinc (v := i64) (lv' := [(2, .int i64), (5, .int w5), (4, .int w4), (3, .int w3), (0, .ref (a 0)), (1, .int (vi 0))]) hx hb dX2_hasVotes_64 hl (k := 3) rfl ei64 (by decide) rfl (fun ls hl => ?_)
            refine lv_iload_n hx hb dX2_hasVotes_67 rfl (lv_at hl 3 rfl) ?_
            refine lv_iload_n hx hb dX2_hasVotes_68 rfl (lv_at hl 5 rfl) ?_
            refine lv_iload hx hb dX2_hasVotes_69 (lv_at hl 1 rfl) ?_
            refine lv_ishr hx hb dX2_hasVotes_71 ?_
            refine lv_topi (fun z71 ez71 => ?_)
            refine lv_iconst (v := 1) hx hb dX2_hasVotes_72 (by decide) ?_
            refine lv_iand hx hb dX2_hasVotes_73 ?_
            refine lv_topi (fun z73 ez73 => ?_)
            have tz73 : 0 ≤ z73.toInt ∧ z73.toInt ≤ 1 := by rw [ez73]; exact xand1 _
            refine lv_iadd hx hb dX2_hasVotes_74 ?_
            refine lv_topi (fun z74 ez74 => ?_)
            refine lv_istore_n (lv' := [(3, .int z74), (2, .int i64), (5, .int w5), (4, .int w4), (0, .ref (a 0)), (1, .int (vi 0))]) hx hb dX2_hasVotes_75 rfl hl (by decide) rfl (fun ls hl => ?_)
            obtain ⟨i76_3, ei76_3⟩ : ∃ z : Int32, w5 + Int32.ofInt 1 = z := ⟨_, rfl⟩
            have ti76_3 : i76_3.toInt = w5.toInt + 1 := by rw [← ei76_3]; have h79 := xrng w5; exact xadd rfl (by decide) (by omega) (by omega)
            refine lv_iinc (v := i76_3) (lv' := [(5, .int i76_3), (3, .int z74), (2, .int i64), (4, .int w4), (0, .ref (a 0)), (1, .int (vi 0))]) hx hb dX2_hasVotes_76 hl (k := 2) rfl ei76_3 (by decide) rfl (fun ls hl => ?_)
            refine lv_goto (tgt := 10) hx hb dX2_hasVotes_79 (by decide) ?_
            exact ih _ (by omega) i76_3 w4 z74 i64 _ _ _ (by show 0 ≤ i76_3.toInt; omega) rfl (hP.sub [2, 0, 1] rfl) (hD.sub [2, 0, 1] (by decide) rfl) hS (lv_sub hl [0, 3, 1, 2, 4, 5] rfl)
          · refine xz_i 0 er9 ?_
            refine lv_if_eq (tgt := 76) hx hb dX2_hasVotes_61 (by decide) (fun _ => ?_) (fun c => absurd (by decide) c)
            obtain ⟨i76_4, ei76_4⟩ : ∃ z : Int32, w5 + Int32.ofInt 1 = z := ⟨_, rfl⟩
            have ti76_4 : i76_4.toInt = w5.toInt + 1 := by rw [← ei76_4]; have h79 := xrng w5; exact xadd rfl (by decide) (by omega) (by omega)
            refine lv_iinc (v := i76_4) (lv' := [(5, .int i76_4), (4, .int w4), (3, .int w3), (2, .int w2), (0, .ref (a 0)), (1, .int (vi 0))]) hx hb dX2_hasVotes_76 hl (k := 0) rfl ei76_4 (by decide) rfl (fun ls hl => ?_)
            refine lv_goto (tgt := 10) hx hb dX2_hasVotes_79 (by decide) ?_
            exact ih _ (by omega) i76_4 w4 w3 w2 _ _ _ (by show 0 ≤ i76_4.toInt; omega) rfl (hP.sub [2, 0, 1] rfl) (hD.sub [2, 0, 1] (by decide) rfl) hS (lv_sub hl [0, 1, 2, 3, 4, 5] rfl)
  exact lp _ (0 : Int32) (1 : Int32) (0 : Int32) (0 : Int32) _ _ _ (show 0 ≤ (0 : Int32).toInt by decide) rfl hP hD hS hl
abbrev pre_X11_votes (T : Nat → ClassId) (a ex : Nat → Nat) (fi : Nat → Nat → Int32) (fl : Nat → Nat → Int64) (vi : Nat → Int32) (vl : Nat → Int64) : va_W := [((a 0), .inr (11, [.ref (ex 0), .ref (a 1), .ref (ex 1), .ref (ex 2), .ref (a 2), .ref (ex 3), .ref (ex 4), .ref (ex 5), .ref (ex 6), .ref (ex 7), .ref (ex 8), .ref (ex 9), .ref (ex 10), .ref (ex 11), .int (vi 1)])), ((a 1), .inr (7, [.int (vi 2), .int (vi 3), .ref (ex 12), .ref (ex 13), .ref (ex 14), .ref (ex 15), .ref (ex 16), .ref (ex 17), .ref (ex 18), .ref (ex 19), .ref (ex 20), .ref (ex 21)])), ((a 2), .inr (2, [.ref (a 1), .int (vi 4), .int (vi 5), .int (vi 6), .int (vi 7), .int (vi 8), .int (vi 9), .ref (ex 22), .ref (ex 23), .ref (ex 24), .ref (a 3), .ref (ex 25), .ref (ex 26), .ref (ex 27), .ref (ex 28)])), ((a 3), .inl (T 1, 9, .inl (fi 0)))]
set_option maxHeartbeats 8000000 in
set_option maxRecDepth 100000 in
theorem c_X11_votes (l : Launch) (D : va_G) (T : Nat → ClassId) (a ex : Nat → Nat) (fi : Nat → Nat → Int32) (fl : Nat → Nat → Int64) (vi : Nat → Int32) (vl : Nat → Int64) (sz : Nat) (hp0 : 0 ≤ (vi 2).toInt ∧ (vi 2).toInt ≤ 9) (hp1 : 0 ≤ (vi 3).toInt ∧ (vi 3).toInt ≤ 9) (hp2 : 0 ≤ (vi 4).toInt ∧ (vi 4).toInt ≤ 200) (hp3 : 0 ≤ (vi 9).toInt ∧ (vi 9).toInt ≤ 9) (hp4 : rg (fi 0) 0 9 (-1) 8) : Met l yX11_votes (xw yX11_votes cX11_votes 2 (some .int)) ({ frames := 4, cells := 0, slots := 0, locals := 104 }) (xP D T [.ref (a 0), .int (vi 0)] sz (pre_X11_votes T a ex fi fl vi vl)) (va_Qi (fun r u => r = u) (xC D (va_A (pre_X11_votes T a ex fi fl vi vl) sz) (fun fj fm vj vm => [((a 0), .inr (11, [.ref (ex 0), .ref (a 1), .ref (ex 1), .ref (ex 2), .ref (a 2), .ref (ex 3), .ref (ex 4), .ref (ex 5), .ref (ex 6), .ref (ex 7), .ref (ex 8), .ref (ex 9), .ref (ex 10), .ref (ex 11), .int (vi 1)])), ((a 1), .inr (7, [.int (vi 2), .int (vi 3), .ref (ex 12), .ref (ex 13), .ref (ex 14), .ref (ex 15), .ref (ex 16), .ref (ex 17), .ref (ex 18), .ref (ex 19), .ref (ex 20), .ref (ex 21)])), ((a 2), .inr (2, [.ref (a 1), .int (vi 4), .int (vi 5), .int (vi 6), .int (vi 7), .int (vi 8), .int (vi 9), .ref (ex 22), .ref (ex 23), .ref (ex 24), .ref (a 3), .ref (ex 25), .ref (ex 26), .ref (ex 27), .ref (ex 28)])), ((a 3), .inl (T 1, 9, .inl (fi 0)))]) (fun (r : Int32) (fj : Nat → Nat → Int32) (fm : Nat → Nat → Int64) (vj : Nat → Int32) (vm : Nat → Int64) => True)) (va_A (pre_X11_votes T a ex fi fl vi vl) sz)) 0 0 (va_A (pre_X11_votes T a ex fi fl vi vl) sz) := by
  refine xofW (cc := cX11_votes) (maxL := 2) (ret := (some .int)) (by decide) rfl ?_
  intro p e s m args below meth c s₁ R Q hR hQ B hml hv
  obtain ⟨rfl, hsz, hP, hK, hD0⟩ := hv
  have hx := B.exec
  have hb := B.bytes
  have hr := B.returns
  have hts := atoms_spec (ws := xw yX11_votes cX11_votes 2 (some .int)) B.pre
  have htg : ∀ w ∈ xg, w.before _ s = true := fun w h => hts w (List.mem_cons_of_mem _ h)
  have hown : s.vm.findClass RX11 = some m.cls := findClass_of_methodNamed B.named
  have hlocks := B.notSynchronized
  subst hsz
  have hD := hD0.self (sz := s.heap.size)
  generalize hAe : va_A (pre_X11_votes T a ex fi fl vi vl) s.heap.size = A at hD hQ
  have hA : ∀ q : Nat, s.heap.size ≤ q → A q := fun q h => by rw [← hAe]; exact Or.inr h
  have hS : va_S A s.heap s.heap [] := va_S.rf
  replace hP : va_P D vwCl [((a 0), .inr (11, [.ref (ex 0), .ref (a 1), .ref (ex 1), .ref (ex 2), .ref (a 2), .ref (ex 3), .ref (ex 4), .ref (ex 5), .ref (ex 6), .ref (ex 7), .ref (ex 8), .ref (ex 9), .ref (ex 10), .ref (ex 11), .int (vi 1)])), ((a 1), .inr (7, [.int (vi 2), .int (vi 3), .ref (ex 12), .ref (ex 13), .ref (ex 14), .ref (ex 15), .ref (ex 16), .ref (ex 17), .ref (ex 18), .ref (ex 19), .ref (ex 20), .ref (ex 21)])), ((a 2), .inr (2, [.ref (a 1), .int (vi 4), .int (vi 5), .int (vi 6), .int (vi 7), .int (vi 8), .int (vi 9), .ref (ex 22), .ref (ex 23), .ref (ex 24), .ref (a 3), .ref (ex 25), .ref (ex 26), .ref (ex 27), .ref (ex 28)])), ((a 3), .inl (T 1, 9, .inl (fi 0)))] s.heap := hP
  replace hD : va_D A [((a 0), .inr (11, [.ref (ex 0), .ref (a 1), .ref (ex 1), .ref (ex 2), .ref (a 2), .ref (ex 3), .ref (ex 4), .ref (ex 5), .ref (ex 6), .ref (ex 7), .ref (ex 8), .ref (ex 9), .ref (ex 10), .ref (ex 11), .int (vi 1)])), ((a 1), .inr (7, [.int (vi 2), .int (vi 3), .ref (ex 12), .ref (ex 13), .ref (ex 14), .ref (ex 15), .ref (ex 16), .ref (ex 17), .ref (ex 18), .ref (ex 19), .ref (ex 20), .ref (ex 21)])), ((a 2), .inr (2, [.ref (a 1), .int (vi 4), .int (vi 5), .int (vi 6), .int (vi 7), .int (vi 8), .int (vi 9), .ref (ex 22), .ref (ex 23), .ref (ex 24), .ref (a 3), .ref (ex 25), .ref (ex 26), .ref (ex 27), .ref (ex 28)])), ((a 3), .inl (T 1, 9, .inl (fi 0)))] := hD
  have hl := lv_entry ([.ref (a 0), .int (vi 0)]) (n := 2) (Nat.le_of_ble_eq_true rfl)
  rw [lg_entry_eq]
  generalize (lg_sl ([.ref (a 0), .int (vi 0)]) ++ List.replicate (2 - (lg_sl ([.ref (a 0), .int (vi 0)])).length) Slot.unset).toArray = ls at hl ⊢
  replace hl : lv_has ls 2 [(0, .ref (a 0)), (1, .int (vi 0))] := hl
  refine lv_iload_n hx hb dX11_votes_0 rfl (lv_at hl 1 rfl) ?_
  refine lv_if_lt (tgt := 17) hx hb dX11_votes_1 (by decide) (fun c1 => ?_) (fun c1 => ?_)
  · have c1 := xlt (k := 0) (by decide) c1
    refine lv_iconst (v := (-1)) hx hb dX11_votes_17 (by decide) ?_
    have hP9 := hP.sub (ws' := [((a 0), .inr (11, [.ref (ex 0), .ref (a 1), .ref (ex 1), .ref (ex 2), .ref (a 2), .ref (ex 3), .ref (ex 4), .ref (ex 5), .ref (ex 6), .ref (ex 7), .ref (ex 8), .ref (ex 9), .ref (ex 10), .ref (ex 11), .int (vi 1)])), ((a 1), .inr (7, [.int (vi 2), .int (vi 3), .ref (ex 12), .ref (ex 13), .ref (ex 14), .ref (ex 15), .ref (ex 16), .ref (ex 17), .ref (ex 18), .ref (ex 19), .ref (ex 20), .ref (ex 21)])), ((a 2), .inr (2, [.ref (a 1), .int (vi 4), .int (vi 5), .int (vi 6), .int (vi 7), .int (vi 8), .int (vi 9), .ref (ex 22), .ref (ex 23), .ref (ex 24), .ref (a 3), .ref (ex 25), .ref (ex 26), .ref (ex 27), .ref (ex 28)])), ((a 3), .inl (T 1, 9, .inl (fi 0)))]) [0, 1, 2, 3] rfl
    have hD9 := hD.sub (ws' := [((a 0), .inr (11, [.ref (ex 0), .ref (a 1), .ref (ex 1), .ref (ex 2), .ref (a 2), .ref (ex 3), .ref (ex 4), .ref (ex 5), .ref (ex 6), .ref (ex 7), .ref (ex 8), .ref (ex 9), .ref (ex 10), .ref (ex 11), .int (vi 1)])), ((a 1), .inr (7, [.int (vi 2), .int (vi 3), .ref (ex 12), .ref (ex 13), .ref (ex 14), .ref (ex 15), .ref (ex 16), .ref (ex 17), .ref (ex 18), .ref (ex 19), .ref (ex 20), .ref (ex 21)])), ((a 2), .inr (2, [.ref (a 1), .int (vi 4), .int (vi 5), .int (vi 6), .int (vi 7), .int (vi 8), .int (vi 9), .ref (ex 22), .ref (ex 23), .ref (ex 24), .ref (a 3), .ref (ex 25), .ref (ex 26), .ref (ex 27), .ref (ex 28)])), ((a 3), .inl (T 1, 9, .inl (fi 0)))]) [0, 1, 2, 3] (by decide +kernel) rfl
    rw [hQ]
    exact W.iret (v := (-1)) hx hb hr (fun t ht hW => ⟨⟨(-1), (-1), rfl, rfl, xf [], xh [], xv [], xl [], by rw [ht]; exact hP9, hD9, trivial⟩, hS.F ht⟩) hS.2.2 dX11_votes_18
  · have c1 := xnlt (k := 0) (by decide) c1
    refine lv_iload_n hx hb dX11_votes_4 rfl (lv_at hl 1 rfl) ?_
    refine lv_iconst (v := 1) hx hb dX11_votes_5 (by decide) ?_
    refine lv_aload_n hx hb dX11_votes_6 rfl (lv_at hl 0 rfl) ?_
    refine va_get (D := D) (ci := 11) (v := .ref (a 1)) (C := RX11) (T := TX11) (N := 15) hx hb htg inX11 hown hK.1 hP 0 rfl rfl 1 (by decide) (htg _ kw_497) (fun _ h9 => h9) rfl dX11_votes_7 ?_
    refine va_getN (D := D) (ci := 7) (v := .int (vi 3)) (C := RX7) (T := TX7) (N := 12) hx hb htg inX7 hown hK.1 hP 1 rfl rfl 1 (by decide) (va_Nw.use rfl (hK.2.1 _ kn_167)) (fun _ h9 => h9) rfl dX11_votes_10 ?_
    refine lv_ishl hx hb dX11_votes_13 ?_
    refine lv_topi (fun z13 ez13 => ?_)
    refine lv_icmp_lt (tgt := 19) hx hb dX11_votes_14 (by decide) (fun c14 => ?_) (fun c14 => ?_)
    · have c14 := Int32.lt_iff_toInt_lt.mp c14
      have rc14 := xrng (vi 0); have qc14 := xrng z13
      refine lv_aload_n hx hb dX11_votes_19 rfl (lv_at hl 0 rfl) ?_
      refine va_get (D := D) (ci := 11) (v := .ref (a 2)) (C := RX11) (T := TX11) (N := 15) hx hb htg inX11 hown hK.1 hP 0 rfl rfl 4 (by decide) (htg _ kw_500) (fun _ h9 => h9) rfl dX11_votes_20 ?_
      refine lv_iload_n hx hb dX11_votes_23 rfl (lv_at hl 1 rfl) ?_
      obtain ⟨hC9, hPc, hDc, hFc⟩ := xcut (wc := (pre_X2_hasVotes T (xa [(a 2), (a 1), (a 3)]) (xa [(ex 22), (ex 23), (ex 24), (ex 25), (ex 26), (ex 27), (ex 28), (ex 12), (ex 13), (ex 14), (ex 15), (ex 16), (ex 17), (ex 18), (ex 19), (ex 20), (ex 21)]) (xf [(fi 0)]) (xh []) (xv [(vi 0), (vi 4), (vi 5), (vi 6), (vi 7), (vi 8), (vi 9), (vi 2), (vi 3)]) (xl []))) hP hD hS hA [2, 1, 3] (by decide) rfl
      refine va_calli (va_runVN (As := [.int (vi 0)]) (rest := []) ⟨hx, hb, hml, hown, htg⟩ (c_X2_hasVotes l D T (xa [(a 2), (a 1), (a 3)]) (xa [(ex 22), (ex 23), (ex 24), (ex 25), (ex 26), (ex 27), (ex 28), (ex 12), (ex 13), (ex 14), (ex 15), (ex 16), (ex 17), (ex 18), (ex 19), (ex 20), (ex 21)]) (xf [(fi 0)]) (xh []) (xv [(vi 0), (vi 4), (vi 5), (vi 6), (vi 7), (vi 8), (vi 9), (vi 2), (vi 3)]) (xl []) s.heap.size hp2 hp3 hp0 hp1 (show rg (fi 0) 0 9 (-1) 8 from hp4)) ⟨va_cnB 1 htg (xg_ok kw_1062) rfl rfl rfl (hK.2.1 _ kn_1059) (htg _ kw_9) (by decide +kernel) ⟨by rw [hR]; exact Nat.le_of_ble_eq_true rfl, by rw [hR]; exact Nat.le_of_ble_eq_true rfl⟩, htg _ kw_1061, htg _ ks_87⟩ (xpreV hK hPc hDc (va_recv hK.1 hPc (ci := 2) (q0 := 0) rfl rfl)) rfl rfl hl.1 rfl (lv_room (Nat.le_of_ble_eq_true rfl)) dX11_votes_24 ⟨by rw [hR]; exact Nat.le_of_ble_eq_true rfl, by rw [hR]; exact Nat.le_of_ble_eq_true rfl⟩) hS (fun q _ h => hFc q h) hFc (fun r9 u9 t H1 locs ht hvm hw hB hz1 hk1 hS => ?_)
      subst hw
      obtain ⟨fik, flk, vik, vlk, hP1, hD1, hG⟩ := hB
      rw [ht] at hP1
      obtain ⟨hP, hD⟩ := va_join (wr := [((a 0), .inr (11, [.ref (ex 0), .ref (a 1), .ref (ex 1), .ref (ex 2), .ref (a 2), .ref (ex 3), .ref (ex 4), .ref (ex 5), .ref (ex 6), .ref (ex 7), .ref (ex 8), .ref (ex 9), .ref (ex 10), .ref (ex 11), .int (vi 1)]))]) (w1 := [((a 2), .inr (2, [.ref (a 1), .int (vi 4), .int (vi 5), .int (vi 6), .int (vi 7), .int (vi 8), .int (vi 9), .ref (ex 22), .ref (ex 23), .ref (ex 24), .ref (a 3), .ref (ex 25), .ref (ex 26), .ref (ex 27), .ref (ex 28)])), ((a 1), .inr (7, [.int (vi 2), .int (vi 3), .ref (ex 12), .ref (ex 13), .ref (ex 14), .ref (ex 15), .ref (ex 16), .ref (ex 17), .ref (ex 18), .ref (ex 19), .ref (ex 20), .ref (ex 21)])), ((a 3), .inl (T 1, 9, .inl (fi 0)))]) hP hD [2, 1, 3] [0] hC9 rfl (by decide) (by decide) hk1 hFc hP1 hD1
      obtain ⟨rk, er9⟩ : ∃ z, z = r9 := ⟨_, rfl⟩
      subst er9
      clear hPc hDc hFc hP1 hD1 hk1 hz1 hvm ht hC9
      generalize H1 = H at hP hS ⊢
      obtain ⟨hP, hD⟩ := (show xPD D A [((a 0), .inr (11, [.ref (ex 0), .ref (a 1), .ref (ex 1), .ref (ex 2), .ref (a 2), .ref (ex 3), .ref (ex 4), .ref (ex 5), .ref (ex 6), .ref (ex 7), .ref (ex 8), .ref (ex 9), .ref (ex 10), .ref (ex 11), .int (vi 1)])), ((a 2), .inr (2, [.ref (a 1), .int (vi 4), .int (vi 5), .int (vi 6), .int (vi 7), .int (vi 8), .int (vi 9), .ref (ex 22), .ref (ex 23), .ref (ex 24), .ref (a 3), .ref (ex 25), .ref (ex 26), .ref (ex 27), .ref (ex 28)])), ((a 1), .inr (7, [.int (vi 2), .int (vi 3), .ref (ex 12), .ref (ex 13), .ref (ex 14), .ref (ex 15), .ref (ex 16), .ref (ex 17), .ref (ex 18), .ref (ex 19), .ref (ex 20), .ref (ex 21)])), ((a 3), .inl (T 1, 9, .inl (fi 0)))] H from ⟨hP, hD⟩)
      obtain ⟨gk_0, -⟩ := hG
      rcases (show (rk = 1 ∧ (True)) ∨ (rk = 0 ∧ (True)) from gk_0) with ⟨er9, gk_0⟩ | ⟨er9, gk_0⟩
      · refine xz_i 1 er9 ?_
        refine lv_if_eq (tgt := 34) hx hb dX11_votes_27 (by decide) (fun c => absurd c (by decide)) (fun _ => ?_)
        refine lv_iconst (v := 1) hx hb dX11_votes_30 (by decide) ?_
        refine lv_goto (tgt := 35) hx hb dX11_votes_31 (by decide) ?_
        have hP9 := hP.sub (ws' := [((a 0), .inr (11, [.ref (ex 0), .ref (a 1), .ref (ex 1), .ref (ex 2), .ref (a 2), .ref (ex 3), .ref (ex 4), .ref (ex 5), .ref (ex 6), .ref (ex 7), .ref (ex 8), .ref (ex 9), .ref (ex 10), .ref (ex 11), .int (vi 1)])), ((a 1), .inr (7, [.int (vi 2), .int (vi 3), .ref (ex 12), .ref (ex 13), .ref (ex 14), .ref (ex 15), .ref (ex 16), .ref (ex 17), .ref (ex 18), .ref (ex 19), .ref (ex 20), .ref (ex 21)])), ((a 2), .inr (2, [.ref (a 1), .int (vi 4), .int (vi 5), .int (vi 6), .int (vi 7), .int (vi 8), .int (vi 9), .ref (ex 22), .ref (ex 23), .ref (ex 24), .ref (a 3), .ref (ex 25), .ref (ex 26), .ref (ex 27), .ref (ex 28)])), ((a 3), .inl (T 1, 9, .inl (fi 0)))]) [0, 2, 1, 3] rfl
        have hD9 := hD.sub (ws' := [((a 0), .inr (11, [.ref (ex 0), .ref (a 1), .ref (ex 1), .ref (ex 2), .ref (a 2), .ref (ex 3), .ref (ex 4), .ref (ex 5), .ref (ex 6), .ref (ex 7), .ref (ex 8), .ref (ex 9), .ref (ex 10), .ref (ex 11), .int (vi 1)])), ((a 1), .inr (7, [.int (vi 2), .int (vi 3), .ref (ex 12), .ref (ex 13), .ref (ex 14), .ref (ex 15), .ref (ex 16), .ref (ex 17), .ref (ex 18), .ref (ex 19), .ref (ex 20), .ref (ex 21)])), ((a 2), .inr (2, [.ref (a 1), .int (vi 4), .int (vi 5), .int (vi 6), .int (vi 7), .int (vi 8), .int (vi 9), .ref (ex 22), .ref (ex 23), .ref (ex 24), .ref (a 3), .ref (ex 25), .ref (ex 26), .ref (ex 27), .ref (ex 28)])), ((a 3), .inl (T 1, 9, .inl (fi 0)))]) [0, 2, 1, 3] (by decide +kernel) rfl
        rw [hQ]
        exact W.iret (v := 1) hx hb hr (fun t ht hW => ⟨⟨1, 1, rfl, rfl, xf [], xh [], xv [], xl [], by rw [ht]; exact hP9, hD9, trivial⟩, hS.F ht⟩) hS.2.2 dX11_votes_35
      · refine xz_i 0 er9 ?_
        refine lv_if_eq (tgt := 34) hx hb dX11_votes_27 (by decide) (fun _ => ?_) (fun c => absurd (by decide) c)
        refine lv_iconst (v := 0) hx hb dX11_votes_34 (by decide) ?_
        have hP9 := hP.sub (ws' := [((a 0), .inr (11, [.ref (ex 0), .ref (a 1), .ref (ex 1), .ref (ex 2), .ref (a 2), .ref (ex 3), .ref (ex 4), .ref (ex 5), .ref (ex 6), .ref (ex 7), .ref (ex 8), .ref (ex 9), .ref (ex 10), .ref (ex 11), .int (vi 1)])), ((a 1), .inr (7, [.int (vi 2), .int (vi 3), .ref (ex 12), .ref (ex 13), .ref (ex 14), .ref (ex 15), .ref (ex 16), .ref (ex 17), .ref (ex 18), .ref (ex 19), .ref (ex 20), .ref (ex 21)])), ((a 2), .inr (2, [.ref (a 1), .int (vi 4), .int (vi 5), .int (vi 6), .int (vi 7), .int (vi 8), .int (vi 9), .ref (ex 22), .ref (ex 23), .ref (ex 24), .ref (a 3), .ref (ex 25), .ref (ex 26), .ref (ex 27), .ref (ex 28)])), ((a 3), .inl (T 1, 9, .inl (fi 0)))]) [0, 2, 1, 3] rfl
        have hD9 := hD.sub (ws' := [((a 0), .inr (11, [.ref (ex 0), .ref (a 1), .ref (ex 1), .ref (ex 2), .ref (a 2), .ref (ex 3), .ref (ex 4), .ref (ex 5), .ref (ex 6), .ref (ex 7), .ref (ex 8), .ref (ex 9), .ref (ex 10), .ref (ex 11), .int (vi 1)])), ((a 1), .inr (7, [.int (vi 2), .int (vi 3), .ref (ex 12), .ref (ex 13), .ref (ex 14), .ref (ex 15), .ref (ex 16), .ref (ex 17), .ref (ex 18), .ref (ex 19), .ref (ex 20), .ref (ex 21)])), ((a 2), .inr (2, [.ref (a 1), .int (vi 4), .int (vi 5), .int (vi 6), .int (vi 7), .int (vi 8), .int (vi 9), .ref (ex 22), .ref (ex 23), .ref (ex 24), .ref (a 3), .ref (ex 25), .ref (ex 26), .ref (ex 27), .ref (ex 28)])), ((a 3), .inl (T 1, 9, .inl (fi 0)))]) [0, 2, 1, 3] (by decide +kernel) rfl
        rw [hQ]
        exact W.iret (v := 0) hx hb hr (fun t ht hW => ⟨⟨0, 0, rfl, rfl, xf [], xh [], xv [], xl [], by rw [ht]; exact hP9, hD9, trivial⟩, hS.F ht⟩) hS.2.2 dX11_votes_35
    · have c14 := (mt Int32.lt_iff_toInt_lt.mpr c14)
      have rc14 := xrng (vi 0); have qc14 := xrng z13
      refine lv_iconst (v := (-1)) hx hb dX11_votes_17 (by decide) ?_
      have hP9 := hP.sub (ws' := [((a 0), .inr (11, [.ref (ex 0), .ref (a 1), .ref (ex 1), .ref (ex 2), .ref (a 2), .ref (ex 3), .ref (ex 4), .ref (ex 5), .ref (ex 6), .ref (ex 7), .ref (ex 8), .ref (ex 9), .ref (ex 10), .ref (ex 11), .int (vi 1)])), ((a 1), .inr (7, [.int (vi 2), .int (vi 3), .ref (ex 12), .ref (ex 13), .ref (ex 14), .ref (ex 15), .ref (ex 16), .ref (ex 17), .ref (ex 18), .ref (ex 19), .ref (ex 20), .ref (ex 21)])), ((a 2), .inr (2, [.ref (a 1), .int (vi 4), .int (vi 5), .int (vi 6), .int (vi 7), .int (vi 8), .int (vi 9), .ref (ex 22), .ref (ex 23), .ref (ex 24), .ref (a 3), .ref (ex 25), .ref (ex 26), .ref (ex 27), .ref (ex 28)])), ((a 3), .inl (T 1, 9, .inl (fi 0)))]) [0, 1, 2, 3] rfl
      have hD9 := hD.sub (ws' := [((a 0), .inr (11, [.ref (ex 0), .ref (a 1), .ref (ex 1), .ref (ex 2), .ref (a 2), .ref (ex 3), .ref (ex 4), .ref (ex 5), .ref (ex 6), .ref (ex 7), .ref (ex 8), .ref (ex 9), .ref (ex 10), .ref (ex 11), .int (vi 1)])), ((a 1), .inr (7, [.int (vi 2), .int (vi 3), .ref (ex 12), .ref (ex 13), .ref (ex 14), .ref (ex 15), .ref (ex 16), .ref (ex 17), .ref (ex 18), .ref (ex 19), .ref (ex 20), .ref (ex 21)])), ((a 2), .inr (2, [.ref (a 1), .int (vi 4), .int (vi 5), .int (vi 6), .int (vi 7), .int (vi 8), .int (vi 9), .ref (ex 22), .ref (ex 23), .ref (ex 24), .ref (a 3), .ref (ex 25), .ref (ex 26), .ref (ex 27), .ref (ex 28)])), ((a 3), .inl (T 1, 9, .inl (fi 0)))]) [0, 1, 2, 3] (by decide +kernel) rfl
      rw [hQ]
      exact W.iret (v := (-1)) hx hb hr (fun t ht hW => ⟨⟨(-1), (-1), rfl, rfl, xf [], xh [], xv [], xl [], by rw [ht]; exact hP9, hD9, trivial⟩, hS.F ht⟩) hS.2.2 dX11_votes_18
abbrev pre_J6_bitCount_0f7a4 (T : Nat → ClassId) (a ex : Nat → Nat) (fi : Nat → Nat → Int32) (fl : Nat → Nat → Int64) (vi : Nat → Int32) (vl : Nat → Int64) : va_W := []
set_option maxHeartbeats 8000000 in
set_option maxRecDepth 100000 in
theorem c_J6_bitCount_0f7a4 (l : Launch) (D : va_G) (T : Nat → ClassId) (a ex : Nat → Nat) (fi : Nat → Nat → Int32) (fl : Nat → Nat → Int64) (vi : Nat → Int32) (vl : Nat → Int64) (sz : Nat) : Met l yJ6_bitCount_0f7a4 (xw yJ6_bitCount_0f7a4 cJ6_bitCount_0f7a4 1 (some .int)) ({ frames := 0, cells := 0, slots := 0, locals := 0 }) (xP D T [.int (vi 0)] sz (pre_J6_bitCount_0f7a4 T a ex fi fl vi vl)) (va_Qi (fun r u => r = u) (xC D (va_A (pre_J6_bitCount_0f7a4 T a ex fi fl vi vl) sz) (fun fj fm vj vm => []) (fun (r : Int32) (fj : Nat → Nat → Int32) (fm : Nat → Nat → Int64) (vj : Nat → Int32) (vm : Nat → Int64) => True)) (va_A (pre_J6_bitCount_0f7a4 T a ex fi fl vi vl) sz)) 0 0 (va_A (pre_J6_bitCount_0f7a4 T a ex fi fl vi vl) sz) := by
  refine xofW (cc := cJ6_bitCount_0f7a4) (maxL := 1) (ret := (some .int)) (by decide) rfl ?_
  intro p e s m args below meth c s₁ R Q hR hQ B hml hv
  obtain ⟨rfl, hsz, hP, hK, hD0⟩ := hv
  have hx := B.exec
  have hb := B.bytes
  have hr := B.returns
  have hts := atoms_spec (ws := xw yJ6_bitCount_0f7a4 cJ6_bitCount_0f7a4 1 (some .int)) B.pre
  have htg : ∀ w ∈ xg, w.before _ s = true := fun w h => hts w (List.mem_cons_of_mem _ h)
  have hown : s.vm.findClass RJ6 = some m.cls := findClass_of_methodNamed B.named
  have hlocks := B.notSynchronized
  subst hsz
  have hD := hD0.self (sz := s.heap.size)
  generalize hAe : va_A (pre_J6_bitCount_0f7a4 T a ex fi fl vi vl) s.heap.size = A at hD hQ
  have hA : ∀ q : Nat, s.heap.size ≤ q → A q := fun q h => by rw [← hAe]; exact Or.inr h
  have hS : va_S A s.heap s.heap [] := va_S.rf
  replace hP : va_P D vwCl [] s.heap := hP
  replace hD : va_D A [] := hD
  have hl := lv_entry ([.int (vi 0)]) (n := 1) (Nat.le_of_ble_eq_true rfl)
  rw [lg_entry_eq]
  generalize (lg_sl ([.int (vi 0)]) ++ List.replicate (1 - (lg_sl ([.int (vi 0)])).length) Slot.unset).toArray = ls at hl ⊢
  replace hl : lv_has ls 1 [(0, .int (vi 0))] := hl
  refine lv_iload_n hx hb dJ6_bitCount_0f7a4_0 rfl (lv_at hl 0 rfl) ?_
  refine lv_iload_n hx hb dJ6_bitCount_0f7a4_1 rfl (lv_at hl 0 rfl) ?_
  refine lv_iconst (v := 1) hx hb dJ6_bitCount_0f7a4_2 (by decide) ?_
  refine lv_iushr hx hb dJ6_bitCount_0f7a4_3 rfl ?_
  refine lv_topi (fun z3 ez3 => ?_)
  refine lv_ldcw (v := 1431655765) hx hb hown (htg _ kw_1074) dJ6_bitCount_0f7a4_4 ?_
  refine lv_iand hx hb dJ6_bitCount_0f7a4_7 ?_
  refine lv_topi (fun z7 ez7 => ?_)
  refine lv_isub hx hb dJ6_bitCount_0f7a4_8 ?_
  refine lv_topi (fun z8 ez8 => ?_)
  refine lv_istore_n (lv' := [(0, .int z8)]) hx hb dJ6_bitCount_0f7a4_9 rfl hl (by decide) rfl (fun ls hl => ?_)
  refine lv_iload_n hx hb dJ6_bitCount_0f7a4_10 rfl (lv_at hl 0 rfl) ?_
  refine lv_ldcw (v := 858993459) hx hb hown (htg _ kw_1075) dJ6_bitCount_0f7a4_11 ?_
  refine lv_iand hx hb dJ6_bitCount_0f7a4_14 ?_
  refine lv_topi (fun z14 ez14 => ?_)
  refine lv_iload_n hx hb dJ6_bitCount_0f7a4_15 rfl (lv_at hl 0 rfl) ?_
  refine lv_iconst (v := 2) hx hb dJ6_bitCount_0f7a4_16 (by decide) ?_
  refine lv_iushr hx hb dJ6_bitCount_0f7a4_17 rfl ?_
  refine lv_topi (fun z17 ez17 => ?_)
  refine lv_ldcw (v := 858993459) hx hb hown (htg _ kw_1075) dJ6_bitCount_0f7a4_18 ?_
  refine lv_iand hx hb dJ6_bitCount_0f7a4_21 ?_
  refine lv_topi (fun z21 ez21 => ?_)
  refine lv_iadd hx hb dJ6_bitCount_0f7a4_22 ?_
  refine lv_topi (fun z22 ez22 => ?_)
  refine lv_istore_n (lv' := [(0, .int z22)]) hx hb dJ6_bitCount_0f7a4_23 rfl hl (by decide) rfl (fun ls hl => ?_)
  refine lv_iload_n hx hb dJ6_bitCount_0f7a4_24 rfl (lv_at hl 0 rfl) ?_
  refine lv_iload_n hx hb dJ6_bitCount_0f7a4_25 rfl (lv_at hl 0 rfl) ?_
  refine lv_iconst (v := 4) hx hb dJ6_bitCount_0f7a4_26 (by decide) ?_
  refine lv_iushr hx hb dJ6_bitCount_0f7a4_27 rfl ?_
  refine lv_topi (fun z27 ez27 => ?_)
  refine lv_iadd hx hb dJ6_bitCount_0f7a4_28 ?_
  refine lv_topi (fun z28 ez28 => ?_)
  refine lv_ldcw (v := 252645135) hx hb hown (htg _ kw_1076) dJ6_bitCount_0f7a4_29 ?_
  refine lv_iand hx hb dJ6_bitCount_0f7a4_32 ?_
  refine lv_topi (fun z32 ez32 => ?_)
  refine lv_istore_n (lv' := [(0, .int z32)]) hx hb dJ6_bitCount_0f7a4_33 rfl hl (by decide) rfl (fun ls hl => ?_)
  refine lv_iload_n hx hb dJ6_bitCount_0f7a4_34 rfl (lv_at hl 0 rfl) ?_
  refine lv_iload_n hx hb dJ6_bitCount_0f7a4_35 rfl (lv_at hl 0 rfl) ?_
  refine lv_bipush (v := 8) hx hb dJ6_bitCount_0f7a4_36 (by decide) ?_
  refine lv_iushr hx hb dJ6_bitCount_0f7a4_38 rfl ?_
  refine lv_topi (fun z38 ez38 => ?_)
  have tz38 : 0 ≤ z38.toInt ∧ z38.toInt ≤ 16777215 := by rw [ez38]; exact xush8 _
  refine lv_iadd hx hb dJ6_bitCount_0f7a4_39 ?_
  refine lv_topi (fun z39 ez39 => ?_)
  refine lv_istore_n (lv' := [(0, .int z39)]) hx hb dJ6_bitCount_0f7a4_40 rfl hl (by decide) rfl (fun ls hl => ?_)
  refine lv_iload_n hx hb dJ6_bitCount_0f7a4_41 rfl (lv_at hl 0 rfl) ?_
  refine lv_iload_n hx hb dJ6_bitCount_0f7a4_42 rfl (lv_at hl 0 rfl) ?_
  refine lv_bipush (v := 16) hx hb dJ6_bitCount_0f7a4_43 (by decide) ?_
  refine lv_iushr hx hb dJ6_bitCount_0f7a4_45 rfl ?_
  refine lv_topi (fun z45 ez45 => ?_)
  refine lv_iadd hx hb dJ6_bitCount_0f7a4_46 ?_
  refine lv_topi (fun z46 ez46 => ?_)
  refine lv_istore_n (lv' := [(0, .int z46)]) hx hb dJ6_bitCount_0f7a4_47 rfl hl (by decide) rfl (fun ls hl => ?_)
  refine lv_iload_n hx hb dJ6_bitCount_0f7a4_48 rfl (lv_at hl 0 rfl) ?_
  refine lv_bipush (v := 63) hx hb dJ6_bitCount_0f7a4_49 (by decide) ?_
  refine lv_iand hx hb dJ6_bitCount_0f7a4_51 ?_
  refine lv_topi (fun z51 ez51 => ?_)
  have hP9 := hP.sub (ws' := []) [] rfl
  have hD9 := hD.sub (ws' := []) [] (by decide +kernel) rfl
  rw [hQ]
  exact W.iret (v := z51) hx hb hr (fun t ht hW => ⟨⟨z51, z51, rfl, rfl, xf [], xh [], xv [], xl [], by rw [ht]; exact hP9, hD9, trivial⟩, hS.F ht⟩) hS.2.2 dJ6_bitCount_0f7a4_52
abbrev pre_X11_party (T : Nat → ClassId) (a ex : Nat → Nat) (fi : Nat → Nat → Int32) (fl : Nat → Nat → Int64) (vi : Nat → Int32) (vl : Nat → Int64) : va_W := [((a 0), .inr (11, [.ref (ex 0), .ref (a 1), .ref (ex 1), .ref (ex 2), .ref (a 2), .ref (ex 3), .ref (ex 4), .ref (ex 5), .ref (ex 6), .ref (ex 7), .ref (ex 8), .ref (ex 9), .ref (ex 10), .ref (ex 11), .int (vi 0)])), ((a 1), .inr (7, [.int (vi 1), .int (vi 2), .ref (ex 12), .ref (ex 13), .ref (ex 14), .ref (ex 15), .ref (ex 16), .ref (ex 17), .ref (ex 18), .ref (ex 19), .ref (ex 20), .ref (ex 21)])), ((a 2), .inr (2, [.ref (a 1), .int (vi 3), .int (vi 4), .int (vi 5), .int (vi 6), .int (vi 7), .int (vi 8), .ref (ex 22), .ref (ex 23), .ref (ex 24), .ref (a 3), .ref (ex 25), .ref (ex 26), .ref (ex 27), .ref (ex 28)])), ((a 3), .inl (T 1, 9, .inl (fi 0)))]
set_option maxHeartbeats 8000000 in
set_option maxRecDepth 100000 in
theorem c_X11_party (l : Launch) (D : va_G) (T : Nat → ClassId) (a ex : Nat → Nat) (fi : Nat → Nat → Int32) (fl : Nat → Nat → Int64) (vi : Nat → Int32) (vl : Nat → Int64) (sz : Nat) (hp0 : 0 ≤ (vi 1).toInt ∧ (vi 1).toInt ≤ 9) (hp1 : 0 ≤ (vi 2).toInt ∧ (vi 2).toInt ≤ 9) (hp2 : 0 ≤ (vi 3).toInt ∧ (vi 3).toInt ≤ 200) (hp3 : 0 ≤ (vi 8).toInt ∧ (vi 8).toInt ≤ 9) (hp4 : rg (fi 0) 0 9 (-1) 8) : Met l yX11_party (xw yX11_party cX11_party 5 (some .int)) ({ frames := 4, cells := 0, slots := 0, locals := 104 }) (xP D T [.ref (a 0)] sz (pre_X11_party T a ex fi fl vi vl)) (va_Qi (fun r u => r = u) (xC D (va_A (pre_X11_party T a ex fi fl vi vl) sz) (fun fj fm vj vm => [((a 0), .inr (11, [.ref (ex 0), .ref (a 1), .ref (ex 1), .ref (ex 2), .ref (a 2), .ref (ex 3), .ref (ex 4), .ref (ex 5), .ref (ex 6), .ref (ex 7), .ref (ex 8), .ref (ex 9), .ref (ex 10), .ref (ex 11), .int (vi 0)])), ((a 1), .inr (7, [.int (vi 1), .int (vi 2), .ref (ex 12), .ref (ex 13), .ref (ex 14), .ref (ex 15), .ref (ex 16), .ref (ex 17), .ref (ex 18), .ref (ex 19), .ref (ex 20), .ref (ex 21)])), ((a 2), .inr (2, [.ref (a 1), .int (vi 3), .int (vi 4), .int (vi 5), .int (vi 6), .int (vi 7), .int (vi 8), .ref (ex 22), .ref (ex 23), .ref (ex 24), .ref (a 3), .ref (ex 25), .ref (ex 26), .ref (ex 27), .ref (ex 28)])), ((a 3), .inl (T 1, 9, .inl (fi 0)))]) (fun (r : Int32) (fj : Nat → Nat → Int32) (fm : Nat → Nat → Int64) (vj : Nat → Int32) (vm : Nat → Int64) => True)) (va_A (pre_X11_party T a ex fi fl vi vl) sz)) 0 0 (va_A (pre_X11_party T a ex fi fl vi vl) sz) := by
  refine xofW (cc := cX11_party) (maxL := 5) (ret := (some .int)) (by decide) rfl ?_
  intro p e s m args below meth c s₁ R Q hR hQ B hml hv
  obtain ⟨rfl, hsz, hP, hK, hD0⟩ := hv
  have hx := B.exec
  have hb := B.bytes
  have hr := B.returns
  have hts := atoms_spec (ws := xw yX11_party cX11_party 5 (some .int)) B.pre
  have htg : ∀ w ∈ xg, w.before _ s = true := fun w h => hts w (List.mem_cons_of_mem _ h)
  have hown : s.vm.findClass RX11 = some m.cls := findClass_of_methodNamed B.named
  have hlocks := B.notSynchronized
  subst hsz
  have hD := hD0.self (sz := s.heap.size)
  generalize hAe : va_A (pre_X11_party T a ex fi fl vi vl) s.heap.size = A at hD hQ
  have hA : ∀ q : Nat, s.heap.size ≤ q → A q := fun q h => by rw [← hAe]; exact Or.inr h
  have hS : va_S A s.heap s.heap [] := va_S.rf
  replace hP : va_P D vwCl [((a 0), .inr (11, [.ref (ex 0), .ref (a 1), .ref (ex 1), .ref (ex 2), .ref (a 2), .ref (ex 3), .ref (ex 4), .ref (ex 5), .ref (ex 6), .ref (ex 7), .ref (ex 8), .ref (ex 9), .ref (ex 10), .ref (ex 11), .int (vi 0)])), ((a 1), .inr (7, [.int (vi 1), .int (vi 2), .ref (ex 12), .ref (ex 13), .ref (ex 14), .ref (ex 15), .ref (ex 16), .ref (ex 17), .ref (ex 18), .ref (ex 19), .ref (ex 20), .ref (ex 21)])), ((a 2), .inr (2, [.ref (a 1), .int (vi 3), .int (vi 4), .int (vi 5), .int (vi 6), .int (vi 7), .int (vi 8), .ref (ex 22), .ref (ex 23), .ref (ex 24), .ref (a 3), .ref (ex 25), .ref (ex 26), .ref (ex 27), .ref (ex 28)])), ((a 3), .inl (T 1, 9, .inl (fi 0)))] s.heap := hP
  replace hD : va_D A [((a 0), .inr (11, [.ref (ex 0), .ref (a 1), .ref (ex 1), .ref (ex 2), .ref (a 2), .ref (ex 3), .ref (ex 4), .ref (ex 5), .ref (ex 6), .ref (ex 7), .ref (ex 8), .ref (ex 9), .ref (ex 10), .ref (ex 11), .int (vi 0)])), ((a 1), .inr (7, [.int (vi 1), .int (vi 2), .ref (ex 12), .ref (ex 13), .ref (ex 14), .ref (ex 15), .ref (ex 16), .ref (ex 17), .ref (ex 18), .ref (ex 19), .ref (ex 20), .ref (ex 21)])), ((a 2), .inr (2, [.ref (a 1), .int (vi 3), .int (vi 4), .int (vi 5), .int (vi 6), .int (vi 7), .int (vi 8), .ref (ex 22), .ref (ex 23), .ref (ex 24), .ref (a 3), .ref (ex 25), .ref (ex 26), .ref (ex 27), .ref (ex 28)])), ((a 3), .inl (T 1, 9, .inl (fi 0)))] := hD
  have hl := lv_entry ([.ref (a 0)]) (n := 5) (Nat.le_of_ble_eq_true rfl)
  rw [lg_entry_eq]
  generalize (lg_sl ([.ref (a 0)]) ++ List.replicate (5 - (lg_sl ([.ref (a 0)])).length) Slot.unset).toArray = ls at hl ⊢
  replace hl : lv_has ls 5 [(0, .ref (a 0))] := hl
  refine lv_iconst (v := (-1)) hx hb dX11_party_0 (by decide) ?_
  refine lv_istore_n (lv' := [(1, .int (-1)), (0, .ref (a 0))]) hx hb dX11_party_1 rfl hl (by decide) rfl (fun ls hl => ?_)
  refine lv_iconst (v := 0) hx hb dX11_party_2 (by decide) ?_
  refine lv_istore_n (lv' := [(2, .int 0), (1, .int (-1)), (0, .ref (a 0))]) hx hb dX11_party_3 rfl hl (by decide) rfl (fun ls hl => ?_)
  have lp : ∀ (kn : Nat) (w2 : Int32) (w1 : Int32) (H : Heap) (locs : List Loc) (ls : Array Slot), (0 ≤ w2.toInt) → (2147483648 - w2.toInt).toNat = kn → va_P D vwCl [((a 0), .inr (11, [.ref (ex 0), .ref (a 1), .ref (ex 1), .ref (ex 2), .ref (a 2), .ref (ex 3), .ref (ex 4), .ref (ex 5), .ref (ex 6), .ref (ex 7), .ref (ex 8), .ref (ex 9), .ref (ex 10), .ref (ex 11), .int (vi 0)])), ((a 1), .inr (7, [.int (vi 1), .int (vi 2), .ref (ex 12), .ref (ex 13), .ref (ex 14), .ref (ex 15), .ref (ex 16), .ref (ex 17), .ref (ex 18), .ref (ex 19), .ref (ex 20), .ref (ex 21)])), ((a 2), .inr (2, [.ref (a 1), .int (vi 3), .int (vi 4), .int (vi 5), .int (vi 6), .int (vi 7), .int (vi 8), .ref (ex 22), .ref (ex 23), .ref (ex 24), .ref (a 3), .ref (ex 25), .ref (ex 26), .ref (ex 27), .ref (ex 28)])), ((a 3), .inl (T 1, 9, .inl (fi 0)))] H → va_D A [((a 0), .inr (11, [.ref (ex 0), .ref (a 1), .ref (ex 1), .ref (ex 2), .ref (a 2), .ref (ex 3), .ref (ex 4), .ref (ex 5), .ref (ex 6), .ref (ex 7), .ref (ex 8), .ref (ex 9), .ref (ex 10), .ref (ex 11), .int (vi 0)])), ((a 1), .inr (7, [.int (vi 1), .int (vi 2), .ref (ex 12), .ref (ex 13), .ref (ex 14), .ref (ex 15), .ref (ex 16), .ref (ex 17), .ref (ex 18), .ref (ex 19), .ref (ex 20), .ref (ex 21)])), ((a 2), .inr (2, [.ref (a 1), .int (vi 3), .int (vi 4), .int (vi 5), .int (vi 6), .int (vi 7), .int (vi 8), .ref (ex 22), .ref (ex 23), .ref (ex 24), .ref (a 3), .ref (ex 25), .ref (ex 26), .ref (ex 27), .ref (ex 28)])), ((a 3), .inl (T 1, 9, .inl (fi 0)))] → va_S A s.heap H locs → lv_has ls 5 [(2, .int w2), (1, .int w1), (0, .ref (a 0))] → W p l e R s m ([.ref (a 0)] : List Value).toArray below meth c H locs 0 0 Q (F0 m 4 ls []) := by
    intro kn
    induction kn using Nat.strongRecOn with
    | _ kn ih =>
      intro w2 w1 H locs ls hi hm hP hD hS hl
      refine lv_iload_n hx hb dX11_party_4 rfl (lv_at hl 0 rfl) ?_
      refine lv_iconst (v := 1) hx hb dX11_party_5 (by decide) ?_
      refine lv_aload_n hx hb dX11_party_6 rfl (lv_at hl 2 rfl) ?_
      refine va_get (D := D) (ci := 11) (v := .ref (a 1)) (C := RX11) (T := TX11) (N := 15) hx hb htg inX11 hown hK.1 hP 0 rfl rfl 1 (by decide) (htg _ kw_497) (fun _ h9 => h9) rfl dX11_party_7 ?_
      refine va_getN (D := D) (ci := 7) (v := .int (vi 2)) (C := RX7) (T := TX7) (N := 12) hx hb htg inX7 hown hK.1 hP 1 rfl rfl 1 (by decide) (va_Nw.use rfl (hK.2.1 _ kn_167)) (fun _ h9 => h9) rfl dX11_party_10 ?_
      refine lv_ishl hx hb dX11_party_13 ?_
      refine lv_topi (fun z13 ez13 => ?_)
      refine lv_icmp_ge (tgt := 88) hx hb dX11_party_14 (by decide) (fun c14 => ?_) (fun c14 => ?_)
      · have c14 := Int32.le_iff_toInt_le.mp c14
        have rc14 := xrng w2; have qc14 := xrng z13
        refine lv_iload_n hx hb dX11_party_88 rfl (lv_at hl 1 rfl) ?_
        have hP9 := hP.sub (ws' := [((a 0), .inr (11, [.ref (ex 0), .ref (a 1), .ref (ex 1), .ref (ex 2), .ref (a 2), .ref (ex 3), .ref (ex 4), .ref (ex 5), .ref (ex 6), .ref (ex 7), .ref (ex 8), .ref (ex 9), .ref (ex 10), .ref (ex 11), .int (vi 0)])), ((a 1), .inr (7, [.int (vi 1), .int (vi 2), .ref (ex 12), .ref (ex 13), .ref (ex 14), .ref (ex 15), .ref (ex 16), .ref (ex 17), .ref (ex 18), .ref (ex 19), .ref (ex 20), .ref (ex 21)])), ((a 2), .inr (2, [.ref (a 1), .int (vi 3), .int (vi 4), .int (vi 5), .int (vi 6), .int (vi 7), .int (vi 8), .ref (ex 22), .ref (ex 23), .ref (ex 24), .ref (a 3), .ref (ex 25), .ref (ex 26), .ref (ex 27), .ref (ex 28)])), ((a 3), .inl (T 1, 9, .inl (fi 0)))]) [0, 1, 2, 3] rfl
        have hD9 := hD.sub (ws' := [((a 0), .inr (11, [.ref (ex 0), .ref (a 1), .ref (ex 1), .ref (ex 2), .ref (a 2), .ref (ex 3), .ref (ex 4), .ref (ex 5), .ref (ex 6), .ref (ex 7), .ref (ex 8), .ref (ex 9), .ref (ex 10), .ref (ex 11), .int (vi 0)])), ((a 1), .inr (7, [.int (vi 1), .int (vi 2), .ref (ex 12), .ref (ex 13), .ref (ex 14), .ref (ex 15), .ref (ex 16), .ref (ex 17), .ref (ex 18), .ref (ex 19), .ref (ex 20), .ref (ex 21)])), ((a 2), .inr (2, [.ref (a 1), .int (vi 3), .int (vi 4), .int (vi 5), .int (vi 6), .int (vi 7), .int (vi 8), .ref (ex 22), .ref (ex 23), .ref (ex 24), .ref (a 3), .ref (ex 25), .ref (ex 26), .ref (ex 27), .ref (ex 28)])), ((a 3), .inl (T 1, 9, .inl (fi 0)))]) [0, 1, 2, 3] (by decide +kernel) rfl
        rw [hQ]
        exact W.iret (v := w1) hx hb hr (fun t ht hW => ⟨⟨w1, w1, rfl, rfl, xf [], xh [], xv [], xl [], by rw [ht]; exact hP9, hD9, trivial⟩, hS.F ht⟩) hS.2.2 dX11_party_89
      · have c14 := (mt Int32.le_iff_toInt_le.mpr c14)
        have rc14 := xrng w2; have qc14 := xrng z13
        refine lv_iload_n hx hb dX11_party_17 rfl (lv_at hl 0 rfl) ?_
        refine lv_aload_n hx hb dX11_party_18 rfl (lv_at hl 2 rfl) ?_
        refine va_get (D := D) (ci := 11) (v := .ref (a 2)) (C := RX11) (T := TX11) (N := 15) hx hb htg inX11 hown hK.1 hP 0 rfl rfl 4 (by decide) (htg _ kw_500) (fun _ h9 => h9) rfl dX11_party_19 ?_
        refine va_getN (D := D) (ci := 2) (v := .int (vi 4)) (C := RX2) (T := TX2) (N := 15) hx hb htg inX2 hown hK.1 hP 2 rfl rfl 2 (by decide) (va_Nw.use rfl (hK.2.1 _ kn_251)) (fun _ h9 => h9) rfl dX11_party_22 ?_
        refine lv_iconst (v := (-1)) hx hb dX11_party_25 (by decide) ?_
        refine lv_ixor hx hb dX11_party_26 ?_
        refine lv_topi (fun z26 ez26 => ?_)
        refine lv_iand hx hb dX11_party_27 ?_
        refine lv_topi (fun z27 ez27 => ?_)
        refine lv_if_ne (tgt := 35) hx hb dX11_party_28 (by decide) (fun c28 => ?_) (fun c28 => ?_)
        · have c28 := xne (k := 0) (by decide) c28
          refine lv_iconst (v := 0) hx hb dX11_party_35 (by decide) ?_
          refine lv_istore_n (lv' := [(3, .int 0), (2, .int w2), (1, .int w1), (0, .ref (a 0))]) hx hb dX11_party_36 rfl hl (by decide) rfl (fun ls hl => ?_)
          refine lv_iload_n hx hb dX11_party_37 rfl (lv_at hl 2 rfl) ?_
          refine lv_iconst (v := (-1)) hx hb dX11_party_38 (by decide) ?_
          refine lv_icmp_eq (tgt := 53) hx hb dX11_party_39 (by decide) (fun c39 => ?_) (fun c39 => ?_)
          · have c39 := xeq (k := (-1)) (by decide) c39
            refine lv_iconst (v := 1) hx hb dX11_party_53 (by decide) ?_
            refine lv_goto (tgt := 58) hx hb dX11_party_54 (by decide) ?_
            refine lv_istore (lv' := [(4, .int 1), (3, .int 0), (2, .int w2), (1, .int w1), (0, .ref (a 0))]) hx hb dX11_party_58 hl (by decide) rfl (fun ls hl => ?_)
            refine lv_iload_n hx hb dX11_party_60 rfl (lv_at hl 1 rfl) ?_
            refine lv_if_eq (tgt := 82) hx hb dX11_party_61 (by decide) (fun _ => ?_) (fun c => absurd (by decide) c)
            obtain ⟨i82, ei82⟩ : ∃ z : Int32, w2 + Int32.ofInt 1 = z := ⟨_, rfl⟩
            have ti82 : i82.toInt = w2.toInt + 1 := by rw [← ei82]; have h79 := xrng w2; exact xadd rfl (by decide) (by omega) (by omega)
            refine lv_iinc (v := i82) (lv' := [(2, .int i82), (4, .int 1), (3, .int 0), (1, .int w1), (0, .ref (a 0))]) hx hb dX11_party_82 hl (k := 2) rfl ei82 (by decide) rfl (fun ls hl => ?_)
            refine lv_goto (tgt := 4) hx hb dX11_party_85 (by decide) ?_
            exact ih _ (by omega) i82 w1 _ _ _ (by show 0 ≤ i82.toInt; omega) rfl (hP.sub [0, 1, 2, 3] rfl) (hD.sub [0, 1, 2, 3] (by decide) rfl) hS (lv_sub hl [0, 3, 4] rfl)
          · have c39 := xne (k := (-1)) (by decide) c39
            refine lv_iload_n hx hb dX11_party_42 rfl (lv_at hl 1 rfl) ?_
            obtain ⟨hC9, hPc, hDc, hFc⟩ := xcut (wc := (pre_J6_bitCount_0f7a4 T (xa []) (xa []) (xf []) (xh []) (xv [w2]) (xl []))) hP hD hS hA [] (by decide) rfl
            refine va_calli (va_runS (As := [.int w2]) (rest := []) ⟨hx, hb, hml, hown, htg⟩ (c_J6_bitCount_0f7a4 l D T (xa []) (xa []) (xf []) (xh []) (xv [w2]) (xl []) H.size) ⟨callB_of 1 htg (xg_ok kw_1073) rfl rfl rfl (htg _ kw_24) (htg _ kw_1071) (by decide +kernel) ⟨by rw [hR]; exact Nat.le_of_ble_eq_true rfl, by rw [hR]; exact Nat.le_of_ble_eq_true rfl⟩, htg _ kw_1072⟩ (xpreS hK hPc hDc) rfl rfl hl.1 rfl (lv_room (Nat.le_of_ble_eq_true rfl)) dX11_party_43 ⟨by rw [hR]; exact Nat.le_of_ble_eq_true rfl, by rw [hR]; exact Nat.le_of_ble_eq_true rfl⟩) hS (fun q _ h => hFc q h) hFc (fun r9 u9 t H1 locs ht hvm hw hB hz1 hk1 hS => ?_)
            subst hw
            obtain ⟨fik, flk, vik, vlk, hP1, hD1, hG⟩ := hB
            rw [ht] at hP1
            obtain ⟨hP, hD⟩ := va_join (wr := [((a 0), .inr (11, [.ref (ex 0), .ref (a 1), .ref (ex 1), .ref (ex 2), .ref (a 2), .ref (ex 3), .ref (ex 4), .ref (ex 5), .ref (ex 6), .ref (ex 7), .ref (ex 8), .ref (ex 9), .ref (ex 10), .ref (ex 11), .int (vi 0)])), ((a 1), .inr (7, [.int (vi 1), .int (vi 2), .ref (ex 12), .ref (ex 13), .ref (ex 14), .ref (ex 15), .ref (ex 16), .ref (ex 17), .ref (ex 18), .ref (ex 19), .ref (ex 20), .ref (ex 21)])), ((a 2), .inr (2, [.ref (a 1), .int (vi 3), .int (vi 4), .int (vi 5), .int (vi 6), .int (vi 7), .int (vi 8), .ref (ex 22), .ref (ex 23), .ref (ex 24), .ref (a 3), .ref (ex 25), .ref (ex 26), .ref (ex 27), .ref (ex 28)])), ((a 3), .inl (T 1, 9, .inl (fi 0)))]) (w1 := []) hP hD [] [0, 1, 2, 3] hC9 rfl (by decide) (by decide) hk1 hFc hP1 hD1
            obtain ⟨rk, er9⟩ : ∃ z, z = r9 := ⟨_, rfl⟩
            subst er9
            clear hPc hDc hFc hP1 hD1 hk1 hz1 hvm ht hC9
            generalize H1 = H at hP hS ⊢
            obtain ⟨hP, hD⟩ := (show xPD D A [((a 0), .inr (11, [.ref (ex 0), .ref (a 1), .ref (ex 1), .ref (ex 2), .ref (a 2), .ref (ex 3), .ref (ex 4), .ref (ex 5), .ref (ex 6), .ref (ex 7), .ref (ex 8), .ref (ex 9), .ref (ex 10), .ref (ex 11), .int (vi 0)])), ((a 1), .inr (7, [.int (vi 1), .int (vi 2), .ref (ex 12), .ref (ex 13), .ref (ex 14), .ref (ex 15), .ref (ex 16), .ref (ex 17), .ref (ex 18), .ref (ex 19), .ref (ex 20), .ref (ex 21)])), ((a 2), .inr (2, [.ref (a 1), .int (vi 3), .int (vi 4), .int (vi 5), .int (vi 6), .int (vi 7), .int (vi 8), .ref (ex 22), .ref (ex 23), .ref (ex 24), .ref (a 3), .ref (ex 25), .ref (ex 26), .ref (ex 27), .ref (ex 28)])), ((a 3), .inl (T 1, 9, .inl (fi 0)))] H from ⟨hP, hD⟩)
            clear hG
            refine lv_iload_n hx hb dX11_party_46 rfl (lv_at hl 2 rfl) ?_
            obtain ⟨hC9, hPc, hDc, hFc⟩ := xcut (wc := (pre_J6_bitCount_0f7a4 T (xa []) (xa []) (xf []) (xh []) (xv [w1]) (xl []))) hP hD hS hA [] (by decide) rfl
            refine va_calli (va_runS (As := [.int w1]) (rest := [.int rk]) ⟨hx, hb, hml, hown, htg⟩ (c_J6_bitCount_0f7a4 l D T (xa []) (xa []) (xf []) (xh []) (xv [w1]) (xl []) H.size) ⟨callB_of 1 htg (xg_ok kw_1073) rfl rfl rfl (htg _ kw_24) (htg _ kw_1071) (by decide +kernel) ⟨by rw [hR]; exact Nat.le_of_ble_eq_true rfl, by rw [hR]; exact Nat.le_of_ble_eq_true rfl⟩, htg _ kw_1072⟩ (xpreS hK hPc hDc) rfl rfl hl.1 rfl (lv_room (Nat.le_of_ble_eq_true rfl)) dX11_party_47 ⟨by rw [hR]; exact Nat.le_of_ble_eq_true rfl, by rw [hR]; exact Nat.le_of_ble_eq_true rfl⟩) hS (fun q _ h => hFc q h) hFc (fun r9 u9 t H1 locs ht hvm hw hB hz1 hk1 hS => ?_)
            subst hw
            obtain ⟨fik_1, flk_1, vik_1, vlk_1, hP1, hD1, hG⟩ := hB
            rw [ht] at hP1
            obtain ⟨hP, hD⟩ := va_join (wr := [((a 0), .inr (11, [.ref (ex 0), .ref (a 1), .ref (ex 1), .ref (ex 2), .ref (a 2), .ref (ex 3), .ref (ex 4), .ref (ex 5), .ref (ex 6), .ref (ex 7), .ref (ex 8), .ref (ex 9), .ref (ex 10), .ref (ex 11), .int (vi 0)])), ((a 1), .inr (7, [.int (vi 1), .int (vi 2), .ref (ex 12), .ref (ex 13), .ref (ex 14), .ref (ex 15), .ref (ex 16), .ref (ex 17), .ref (ex 18), .ref (ex 19), .ref (ex 20), .ref (ex 21)])), ((a 2), .inr (2, [.ref (a 1), .int (vi 3), .int (vi 4), .int (vi 5), .int (vi 6), .int (vi 7), .int (vi 8), .ref (ex 22), .ref (ex 23), .ref (ex 24), .ref (a 3), .ref (ex 25), .ref (ex 26), .ref (ex 27), .ref (ex 28)])), ((a 3), .inl (T 1, 9, .inl (fi 0)))]) (w1 := []) hP hD [] [0, 1, 2, 3] hC9 rfl (by decide) (by decide) hk1 hFc hP1 hD1
            obtain ⟨rk_1, er9⟩ : ∃ z, z = r9 := ⟨_, rfl⟩
            subst er9
            clear hPc hDc hFc hP1 hD1 hk1 hz1 hvm ht hC9
            generalize H1 = H at hP hS ⊢
            obtain ⟨hP, hD⟩ := (show xPD D A [((a 0), .inr (11, [.ref (ex 0), .ref (a 1), .ref (ex 1), .ref (ex 2), .ref (a 2), .ref (ex 3), .ref (ex 4), .ref (ex 5), .ref (ex 6), .ref (ex 7), .ref (ex 8), .ref (ex 9), .ref (ex 10), .ref (ex 11), .int (vi 0)])), ((a 1), .inr (7, [.int (vi 1), .int (vi 2), .ref (ex 12), .ref (ex 13), .ref (ex 14), .ref (ex 15), .ref (ex 16), .ref (ex 17), .ref (ex 18), .ref (ex 19), .ref (ex 20), .ref (ex 21)])), ((a 2), .inr (2, [.ref (a 1), .int (vi 3), .int (vi 4), .int (vi 5), .int (vi 6), .int (vi 7), .int (vi 8), .ref (ex 22), .ref (ex 23), .ref (ex 24), .ref (a 3), .ref (ex 25), .ref (ex 26), .ref (ex 27), .ref (ex 28)])), ((a 3), .inl (T 1, 9, .inl (fi 0)))] H from ⟨hP, hD⟩)
            clear hG
            refine lv_icmp_ge (tgt := 57) hx hb dX11_party_50 (by decide) (fun c50 => ?_) (fun c50 => ?_)
            · have c50 := Int32.le_iff_toInt_le.mp c50
              have rc50 := xrng rk; have qc50 := xrng rk_1
              refine lv_iconst (v := 0) hx hb dX11_party_57 (by decide) ?_
              refine lv_istore (lv' := [(4, .int 0), (3, .int 0), (2, .int w2), (1, .int w1), (0, .ref (a 0))]) hx hb dX11_party_58 hl (by decide) rfl (fun ls hl => ?_)
              refine lv_iload_n hx hb dX11_party_60 rfl (lv_at hl 1 rfl) ?_
              refine lv_if_eq (tgt := 82) hx hb dX11_party_61 (by decide) (fun _ => ?_) (fun c => absurd (by decide) c)
              obtain ⟨i82_1, ei82_1⟩ : ∃ z : Int32, w2 + Int32.ofInt 1 = z := ⟨_, rfl⟩
              have ti82_1 : i82_1.toInt = w2.toInt + 1 := by rw [← ei82_1]; have h79 := xrng w2; exact xadd rfl (by decide) (by omega) (by omega)
              refine lv_iinc (v := i82_1) (lv' := [(2, .int i82_1), (4, .int 0), (3, .int 0), (1, .int w1), (0, .ref (a 0))]) hx hb dX11_party_82 hl (k := 2) rfl ei82_1 (by decide) rfl (fun ls hl => ?_)
              refine lv_goto (tgt := 4) hx hb dX11_party_85 (by decide) ?_
              exact ih _ (by omega) i82_1 w1 _ _ _ (by show 0 ≤ i82_1.toInt; omega) rfl (hP.sub [0, 1, 2, 3] rfl) (hD.sub [0, 1, 2, 3] (by decide) rfl) hS (lv_sub hl [0, 3, 4] rfl)
            · have c50 := (mt Int32.le_iff_toInt_le.mpr c50)
              have rc50 := xrng rk; have qc50 := xrng rk_1
              refine lv_iconst (v := 1) hx hb dX11_party_53 (by decide) ?_
              refine lv_goto (tgt := 58) hx hb dX11_party_54 (by decide) ?_
              refine lv_istore (lv' := [(4, .int 1), (3, .int 0), (2, .int w2), (1, .int w1), (0, .ref (a 0))]) hx hb dX11_party_58 hl (by decide) rfl (fun ls hl => ?_)
              refine lv_iload_n hx hb dX11_party_60 rfl (lv_at hl 1 rfl) ?_
              refine lv_if_eq (tgt := 82) hx hb dX11_party_61 (by decide) (fun _ => ?_) (fun c => absurd (by decide) c)
              obtain ⟨i82_2, ei82_2⟩ : ∃ z : Int32, w2 + Int32.ofInt 1 = z := ⟨_, rfl⟩
              have ti82_2 : i82_2.toInt = w2.toInt + 1 := by rw [← ei82_2]; have h79 := xrng w2; exact xadd rfl (by decide) (by omega) (by omega)
              refine lv_iinc (v := i82_2) (lv' := [(2, .int i82_2), (4, .int 1), (3, .int 0), (1, .int w1), (0, .ref (a 0))]) hx hb dX11_party_82 hl (k := 2) rfl ei82_2 (by decide) rfl (fun ls hl => ?_)
              refine lv_goto (tgt := 4) hx hb dX11_party_85 (by decide) ?_
              exact ih _ (by omega) i82_2 w1 _ _ _ (by show 0 ≤ i82_2.toInt; omega) rfl (hP.sub [0, 1, 2, 3] rfl) (hD.sub [0, 1, 2, 3] (by decide) rfl) hS (lv_sub hl [0, 3, 4] rfl)
        · have c28 := xeq (k := 0) (by decide) c28
          refine lv_iconst (v := 1) hx hb dX11_party_31 (by decide) ?_
          refine lv_goto (tgt := 36) hx hb dX11_party_32 (by decide) ?_
          refine lv_istore_n (lv' := [(3, .int 1), (2, .int w2), (1, .int w1), (0, .ref (a 0))]) hx hb dX11_party_36 rfl hl (by decide) rfl (fun ls hl => ?_)
          refine lv_iload_n hx hb dX11_party_37 rfl (lv_at hl 2 rfl) ?_
          refine lv_iconst (v := (-1)) hx hb dX11_party_38 (by decide) ?_
          refine lv_icmp_eq (tgt := 53) hx hb dX11_party_39 (by decide) (fun c39_1 => ?_) (fun c39_1 => ?_)
          · have c39_1 := xeq (k := (-1)) (by decide) c39_1
            refine lv_iconst (v := 1) hx hb dX11_party_53 (by decide) ?_
            refine lv_goto (tgt := 58) hx hb dX11_party_54 (by decide) ?_
            refine lv_istore (lv' := [(4, .int 1), (3, .int 1), (2, .int w2), (1, .int w1), (0, .ref (a 0))]) hx hb dX11_party_58 hl (by decide) rfl (fun ls hl => ?_)
            refine lv_iload_n hx hb dX11_party_60 rfl (lv_at hl 1 rfl) ?_
            refine lv_if_eq (tgt := 82) hx hb dX11_party_61 (by decide) (fun c => absurd c (by decide)) (fun _ => ?_)
            refine lv_iload hx hb dX11_party_64 (lv_at hl 0 rfl) ?_
            refine lv_if_eq (tgt := 82) hx hb dX11_party_66 (by decide) (fun c => absurd c (by decide)) (fun _ => ?_)
            refine lv_aload_n hx hb dX11_party_69 rfl (lv_at hl 4 rfl) ?_
            refine va_get (D := D) (ci := 11) (v := .ref (a 2)) (C := RX11) (T := TX11) (N := 15) hx hb htg inX11 hown hK.1 hP 0 rfl rfl 4 (by decide) (htg _ kw_500) (fun _ h9 => h9) rfl dX11_party_70 ?_
            refine lv_iload_n hx hb dX11_party_73 rfl (lv_at hl 2 rfl) ?_
            obtain ⟨hC9, hPc, hDc, hFc⟩ := xcut (wc := (pre_X2_hasVotes T (xa [(a 2), (a 1), (a 3)]) (xa [(ex 22), (ex 23), (ex 24), (ex 25), (ex 26), (ex 27), (ex 28), (ex 12), (ex 13), (ex 14), (ex 15), (ex 16), (ex 17), (ex 18), (ex 19), (ex 20), (ex 21)]) (xf [(fi 0)]) (xh []) (xv [w2, (vi 3), (vi 4), (vi 5), (vi 6), (vi 7), (vi 8), (vi 1), (vi 2)]) (xl []))) hP hD hS hA [2, 1, 3] (by decide) rfl
            refine va_calli (va_runVN (As := [.int w2]) (rest := []) ⟨hx, hb, hml, hown, htg⟩ (c_X2_hasVotes l D T (xa [(a 2), (a 1), (a 3)]) (xa [(ex 22), (ex 23), (ex 24), (ex 25), (ex 26), (ex 27), (ex 28), (ex 12), (ex 13), (ex 14), (ex 15), (ex 16), (ex 17), (ex 18), (ex 19), (ex 20), (ex 21)]) (xf [(fi 0)]) (xh []) (xv [w2, (vi 3), (vi 4), (vi 5), (vi 6), (vi 7), (vi 8), (vi 1), (vi 2)]) (xl []) H.size hp2 hp3 hp0 hp1 (show rg (fi 0) 0 9 (-1) 8 from hp4)) ⟨va_cnB 1 htg (xg_ok kw_1062) rfl rfl rfl (hK.2.1 _ kn_1059) (htg _ kw_9) (by decide +kernel) ⟨by rw [hR]; exact Nat.le_of_ble_eq_true rfl, by rw [hR]; exact Nat.le_of_ble_eq_true rfl⟩, htg _ kw_1061, htg _ ks_87⟩ (xpreV hK hPc hDc (va_recv hK.1 hPc (ci := 2) (q0 := 0) rfl rfl)) rfl rfl hl.1 rfl (lv_room (Nat.le_of_ble_eq_true rfl)) dX11_party_74 ⟨by rw [hR]; exact Nat.le_of_ble_eq_true rfl, by rw [hR]; exact Nat.le_of_ble_eq_true rfl⟩) hS (fun q _ h => hFc q h) hFc (fun r9 u9 t H1 locs ht hvm hw hB hz1 hk1 hS => ?_)
            subst hw
            obtain ⟨fik_2, flk_2, vik_2, vlk_2, hP1, hD1, hG⟩ := hB
            rw [ht] at hP1
            obtain ⟨hP, hD⟩ := va_join (wr := [((a 0), .inr (11, [.ref (ex 0), .ref (a 1), .ref (ex 1), .ref (ex 2), .ref (a 2), .ref (ex 3), .ref (ex 4), .ref (ex 5), .ref (ex 6), .ref (ex 7), .ref (ex 8), .ref (ex 9), .ref (ex 10), .ref (ex 11), .int (vi 0)]))]) (w1 := [((a 2), .inr (2, [.ref (a 1), .int (vi 3), .int (vi 4), .int (vi 5), .int (vi 6), .int (vi 7), .int (vi 8), .ref (ex 22), .ref (ex 23), .ref (ex 24), .ref (a 3), .ref (ex 25), .ref (ex 26), .ref (ex 27), .ref (ex 28)])), ((a 1), .inr (7, [.int (vi 1), .int (vi 2), .ref (ex 12), .ref (ex 13), .ref (ex 14), .ref (ex 15), .ref (ex 16), .ref (ex 17), .ref (ex 18), .ref (ex 19), .ref (ex 20), .ref (ex 21)])), ((a 3), .inl (T 1, 9, .inl (fi 0)))]) hP hD [2, 1, 3] [0] hC9 rfl (by decide) (by decide) hk1 hFc hP1 hD1
            obtain ⟨rk_2, er9⟩ : ∃ z, z = r9 := ⟨_, rfl⟩
            subst er9
            clear hPc hDc hFc hP1 hD1 hk1 hz1 hvm ht hC9
            generalize H1 = H at hP hS ⊢
            obtain ⟨hP, hD⟩ := (show xPD D A [((a 0), .inr (11, [.ref (ex 0), .ref (a 1), .ref (ex 1), .ref (ex 2), .ref (a 2), .ref (ex 3), .ref (ex 4), .ref (ex 5), .ref (ex 6), .ref (ex 7), .ref (ex 8), .ref (ex 9), .ref (ex 10), .ref (ex 11), .int (vi 0)])), ((a 2), .inr (2, [.ref (a 1), .int (vi 3), .int (vi 4), .int (vi 5), .int (vi 6), .int (vi 7), .int (vi 8), .ref (ex 22), .ref (ex 23), .ref (ex 24), .ref (a 3), .ref (ex 25), .ref (ex 26), .ref (ex 27), .ref (ex 28)])), ((a 1), .inr (7, [.int (vi 1), .int (vi 2), .ref (ex 12), .ref (ex 13), .ref (ex 14), .ref (ex 15), .ref (ex 16), .ref (ex 17), .ref (ex 18), .ref (ex 19), .ref (ex 20), .ref (ex 21)])), ((a 3), .inl (T 1, 9, .inl (fi 0)))] H from ⟨hP, hD⟩)
            obtain ⟨gk_2_0, -⟩ := hG
            rcases (show (rk_2 = 1 ∧ (True)) ∨ (rk_2 = 0 ∧ (True)) from gk_2_0) with ⟨er9, gk_2_0⟩ | ⟨er9, gk_2_0⟩
            · refine xz_i 1 er9 ?_
              refine lv_if_eq (tgt := 82) hx hb dX11_party_77 (by decide) (fun c => absurd c (by decide)) (fun _ => ?_)
              refine lv_iload_n hx hb dX11_party_80 rfl (lv_at hl 2 rfl) ?_
              refine lv_istore_n (lv' := [(1, .int w2), (4, .int 1), (3, .int 1), (2, .int w2), (0, .ref (a 0))]) hx hb dX11_party_81 rfl hl (by decide) rfl (fun ls hl => ?_)
              obtain ⟨i82_3, ei82_3⟩ : ∃ z : Int32, w2 + Int32.ofInt 1 = z := ⟨_, rfl⟩
              have ti82_3 : i82_3.toInt = w2.toInt + 1 := by rw [← ei82_3]; have h79 := xrng w2; exact xadd rfl (by decide) (by omega) (by omega)
              refine lv_iinc (v := i82_3) (lv' := [(2, .int i82_3), (1, .int w2), (4, .int 1), (3, .int 1), (0, .ref (a 0))]) hx hb dX11_party_82 hl (k := 3) rfl ei82_3 (by decide) rfl (fun ls hl => ?_)
              refine lv_goto (tgt := 4) hx hb dX11_party_85 (by decide) ?_
              exact ih _ (by omega) i82_3 w2 _ _ _ (by show 0 ≤ i82_3.toInt; omega) rfl (hP.sub [0, 2, 1, 3] rfl) (hD.sub [0, 2, 1, 3] (by decide) rfl) hS (lv_sub hl [0, 1, 4] rfl)
            · refine xz_i 0 er9 ?_
              refine lv_if_eq (tgt := 82) hx hb dX11_party_77 (by decide) (fun _ => ?_) (fun c => absurd (by decide) c)
              obtain ⟨i82_4, ei82_4⟩ : ∃ z : Int32, w2 + Int32.ofInt 1 = z := ⟨_, rfl⟩
              have ti82_4 : i82_4.toInt = w2.toInt + 1 := by rw [← ei82_4]; have h79 := xrng w2; exact xadd rfl (by decide) (by omega) (by omega)
              refine lv_iinc (v := i82_4) (lv' := [(2, .int i82_4), (4, .int 1), (3, .int 1), (1, .int w1), (0, .ref (a 0))]) hx hb dX11_party_82 hl (k := 2) rfl ei82_4 (by decide) rfl (fun ls hl => ?_)
              refine lv_goto (tgt := 4) hx hb dX11_party_85 (by decide) ?_
              exact ih _ (by omega) i82_4 w1 _ _ _ (by show 0 ≤ i82_4.toInt; omega) rfl (hP.sub [0, 2, 1, 3] rfl) (hD.sub [0, 2, 1, 3] (by decide) rfl) hS (lv_sub hl [0, 3, 4] rfl)
          · have c39_1 := xne (k := (-1)) (by decide) c39_1
            refine lv_iload_n hx hb dX11_party_42 rfl (lv_at hl 1 rfl) ?_
            obtain ⟨hC9, hPc, hDc, hFc⟩ := xcut (wc := (pre_J6_bitCount_0f7a4 T (xa []) (xa []) (xf []) (xh []) (xv [w2]) (xl []))) hP hD hS hA [] (by decide) rfl
            refine va_calli (va_runS (As := [.int w2]) (rest := []) ⟨hx, hb, hml, hown, htg⟩ (c_J6_bitCount_0f7a4 l D T (xa []) (xa []) (xf []) (xh []) (xv [w2]) (xl []) H.size) ⟨callB_of 1 htg (xg_ok kw_1073) rfl rfl rfl (htg _ kw_24) (htg _ kw_1071) (by decide +kernel) ⟨by rw [hR]; exact Nat.le_of_ble_eq_true rfl, by rw [hR]; exact Nat.le_of_ble_eq_true rfl⟩, htg _ kw_1072⟩ (xpreS hK hPc hDc) rfl rfl hl.1 rfl (lv_room (Nat.le_of_ble_eq_true rfl)) dX11_party_43 ⟨by rw [hR]; exact Nat.le_of_ble_eq_true rfl, by rw [hR]; exact Nat.le_of_ble_eq_true rfl⟩) hS (fun q _ h => hFc q h) hFc (fun r9 u9 t H1 locs ht hvm hw hB hz1 hk1 hS => ?_)
            subst hw
            obtain ⟨fik_3, flk_3, vik_3, vlk_3, hP1, hD1, hG⟩ := hB
            rw [ht] at hP1
            obtain ⟨hP, hD⟩ := va_join (wr := [((a 0), .inr (11, [.ref (ex 0), .ref (a 1), .ref (ex 1), .ref (ex 2), .ref (a 2), .ref (ex 3), .ref (ex 4), .ref (ex 5), .ref (ex 6), .ref (ex 7), .ref (ex 8), .ref (ex 9), .ref (ex 10), .ref (ex 11), .int (vi 0)])), ((a 1), .inr (7, [.int (vi 1), .int (vi 2), .ref (ex 12), .ref (ex 13), .ref (ex 14), .ref (ex 15), .ref (ex 16), .ref (ex 17), .ref (ex 18), .ref (ex 19), .ref (ex 20), .ref (ex 21)])), ((a 2), .inr (2, [.ref (a 1), .int (vi 3), .int (vi 4), .int (vi 5), .int (vi 6), .int (vi 7), .int (vi 8), .ref (ex 22), .ref (ex 23), .ref (ex 24), .ref (a 3), .ref (ex 25), .ref (ex 26), .ref (ex 27), .ref (ex 28)])), ((a 3), .inl (T 1, 9, .inl (fi 0)))]) (w1 := []) hP hD [] [0, 1, 2, 3] hC9 rfl (by decide) (by decide) hk1 hFc hP1 hD1
            obtain ⟨rk_3, er9⟩ : ∃ z, z = r9 := ⟨_, rfl⟩
            subst er9
            clear hPc hDc hFc hP1 hD1 hk1 hz1 hvm ht hC9
            generalize H1 = H at hP hS ⊢
            obtain ⟨hP, hD⟩ := (show xPD D A [((a 0), .inr (11, [.ref (ex 0), .ref (a 1), .ref (ex 1), .ref (ex 2), .ref (a 2), .ref (ex 3), .ref (ex 4), .ref (ex 5), .ref (ex 6), .ref (ex 7), .ref (ex 8), .ref (ex 9), .ref (ex 10), .ref (ex 11), .int (vi 0)])), ((a 1), .inr (7, [.int (vi 1), .int (vi 2), .ref (ex 12), .ref (ex 13), .ref (ex 14), .ref (ex 15), .ref (ex 16), .ref (ex 17), .ref (ex 18), .ref (ex 19), .ref (ex 20), .ref (ex 21)])), ((a 2), .inr (2, [.ref (a 1), .int (vi 3), .int (vi 4), .int (vi 5), .int (vi 6), .int (vi 7), .int (vi 8), .ref (ex 22), .ref (ex 23), .ref (ex 24), .ref (a 3), .ref (ex 25), .ref (ex 26), .ref (ex 27), .ref (ex 28)])), ((a 3), .inl (T 1, 9, .inl (fi 0)))] H from ⟨hP, hD⟩)
            clear hG
            refine lv_iload_n hx hb dX11_party_46 rfl (lv_at hl 2 rfl) ?_
            obtain ⟨hC9, hPc, hDc, hFc⟩ := xcut (wc := (pre_J6_bitCount_0f7a4 T (xa []) (xa []) (xf []) (xh []) (xv [w1]) (xl []))) hP hD hS hA [] (by decide) rfl
            refine va_calli (va_runS (As := [.int w1]) (rest := [.int rk_3]) ⟨hx, hb, hml, hown, htg⟩ (c_J6_bitCount_0f7a4 l D T (xa []) (xa []) (xf []) (xh []) (xv [w1]) (xl []) H.size) ⟨callB_of 1 htg (xg_ok kw_1073) rfl rfl rfl (htg _ kw_24) (htg _ kw_1071) (by decide +kernel) ⟨by rw [hR]; exact Nat.le_of_ble_eq_true rfl, by rw [hR]; exact Nat.le_of_ble_eq_true rfl⟩, htg _ kw_1072⟩ (xpreS hK hPc hDc) rfl rfl hl.1 rfl (lv_room (Nat.le_of_ble_eq_true rfl)) dX11_party_47 ⟨by rw [hR]; exact Nat.le_of_ble_eq_true rfl, by rw [hR]; exact Nat.le_of_ble_eq_true rfl⟩) hS (fun q _ h => hFc q h) hFc (fun r9 u9 t H1 locs ht hvm hw hB hz1 hk1 hS => ?_)
            subst hw
            obtain ⟨fik_4, flk_4, vik_4, vlk_4, hP1, hD1, hG⟩ := hB
            rw [ht] at hP1
            obtain ⟨hP, hD⟩ := va_join (wr := [((a 0), .inr (11, [.ref (ex 0), .ref (a 1), .ref (ex 1), .ref (ex 2), .ref (a 2), .ref (ex 3), .ref (ex 4), .ref (ex 5), .ref (ex 6), .ref (ex 7), .ref (ex 8), .ref (ex 9), .ref (ex 10), .ref (ex 11), .int (vi 0)])), ((a 1), .inr (7, [.int (vi 1), .int (vi 2), .ref (ex 12), .ref (ex 13), .ref (ex 14), .ref (ex 15), .ref (ex 16), .ref (ex 17), .ref (ex 18), .ref (ex 19), .ref (ex 20), .ref (ex 21)])), ((a 2), .inr (2, [.ref (a 1), .int (vi 3), .int (vi 4), .int (vi 5), .int (vi 6), .int (vi 7), .int (vi 8), .ref (ex 22), .ref (ex 23), .ref (ex 24), .ref (a 3), .ref (ex 25), .ref (ex 26), .ref (ex 27), .ref (ex 28)])), ((a 3), .inl (T 1, 9, .inl (fi 0)))]) (w1 := []) hP hD [] [0, 1, 2, 3] hC9 rfl (by decide) (by decide) hk1 hFc hP1 hD1
            obtain ⟨rk_4, er9⟩ : ∃ z, z = r9 := ⟨_, rfl⟩
            subst er9
            clear hPc hDc hFc hP1 hD1 hk1 hz1 hvm ht hC9
            generalize H1 = H at hP hS ⊢
            obtain ⟨hP, hD⟩ := (show xPD D A [((a 0), .inr (11, [.ref (ex 0), .ref (a 1), .ref (ex 1), .ref (ex 2), .ref (a 2), .ref (ex 3), .ref (ex 4), .ref (ex 5), .ref (ex 6), .ref (ex 7), .ref (ex 8), .ref (ex 9), .ref (ex 10), .ref (ex 11), .int (vi 0)])), ((a 1), .inr (7, [.int (vi 1), .int (vi 2), .ref (ex 12), .ref (ex 13), .ref (ex 14), .ref (ex 15), .ref (ex 16), .ref (ex 17), .ref (ex 18), .ref (ex 19), .ref (ex 20), .ref (ex 21)])), ((a 2), .inr (2, [.ref (a 1), .int (vi 3), .int (vi 4), .int (vi 5), .int (vi 6), .int (vi 7), .int (vi 8), .ref (ex 22), .ref (ex 23), .ref (ex 24), .ref (a 3), .ref (ex 25), .ref (ex 26), .ref (ex 27), .ref (ex 28)])), ((a 3), .inl (T 1, 9, .inl (fi 0)))] H from ⟨hP, hD⟩)
            clear hG
            refine lv_icmp_ge (tgt := 57) hx hb dX11_party_50 (by decide) (fun c50_1 => ?_) (fun c50_1 => ?_)
            · have c50_1 := Int32.le_iff_toInt_le.mp c50_1
              have rc50_1 := xrng rk_3; have qc50_1 := xrng rk_4
              refine lv_iconst (v := 0) hx hb dX11_party_57 (by decide) ?_
              refine lv_istore (lv' := [(4, .int 0), (3, .int 1), (2, .int w2), (1, .int w1), (0, .ref (a 0))]) hx hb dX11_party_58 hl (by decide) rfl (fun ls hl => ?_)
              refine lv_iload_n hx hb dX11_party_60 rfl (lv_at hl 1 rfl) ?_
              refine lv_if_eq (tgt := 82) hx hb dX11_party_61 (by decide) (fun c => absurd c (by decide)) (fun _ => ?_)
              refine lv_iload hx hb dX11_party_64 (lv_at hl 0 rfl) ?_
              refine lv_if_eq (tgt := 82) hx hb dX11_party_66 (by decide) (fun _ => ?_) (fun c => absurd (by decide) c)
              obtain ⟨i82_5, ei82_5⟩ : ∃ z : Int32, w2 + Int32.ofInt 1 = z := ⟨_, rfl⟩
              have ti82_5 : i82_5.toInt = w2.toInt + 1 := by rw [← ei82_5]; have h79 := xrng w2; exact xadd rfl (by decide) (by omega) (by omega)
              refine lv_iinc (v := i82_5) (lv' := [(2, .int i82_5), (4, .int 0), (3, .int 1), (1, .int w1), (0, .ref (a 0))]) hx hb dX11_party_82 hl (k := 2) rfl ei82_5 (by decide) rfl (fun ls hl => ?_)
              refine lv_goto (tgt := 4) hx hb dX11_party_85 (by decide) ?_
              exact ih _ (by omega) i82_5 w1 _ _ _ (by show 0 ≤ i82_5.toInt; omega) rfl (hP.sub [0, 1, 2, 3] rfl) (hD.sub [0, 1, 2, 3] (by decide) rfl) hS (lv_sub hl [0, 3, 4] rfl)
            · have c50_1 := (mt Int32.le_iff_toInt_le.mpr c50_1)
              have rc50_1 := xrng rk_3; have qc50_1 := xrng rk_4
              refine lv_iconst (v := 1) hx hb dX11_party_53 (by decide) ?_
              refine lv_goto (tgt := 58) hx hb dX11_party_54 (by decide) ?_
              refine lv_istore (lv' := [(4, .int 1), (3, .int 1), (2, .int w2), (1, .int w1), (0, .ref (a 0))]) hx hb dX11_party_58 hl (by decide) rfl (fun ls hl => ?_)
              refine lv_iload_n hx hb dX11_party_60 rfl (lv_at hl 1 rfl) ?_
              refine lv_if_eq (tgt := 82) hx hb dX11_party_61 (by decide) (fun c => absurd c (by decide)) (fun _ => ?_)
              refine lv_iload hx hb dX11_party_64 (lv_at hl 0 rfl) ?_
              refine lv_if_eq (tgt := 82) hx hb dX11_party_66 (by decide) (fun c => absurd c (by decide)) (fun _ => ?_)
              refine lv_aload_n hx hb dX11_party_69 rfl (lv_at hl 4 rfl) ?_
              refine va_get (D := D) (ci := 11) (v := .ref (a 2)) (C := RX11) (T := TX11) (N := 15) hx hb htg inX11 hown hK.1 hP 0 rfl rfl 4 (by decide) (htg _ kw_500) (fun _ h9 => h9) rfl dX11_party_70 ?_
              refine lv_iload_n hx hb dX11_party_73 rfl (lv_at hl 2 rfl) ?_
              obtain ⟨hC9, hPc, hDc, hFc⟩ := xcut (wc := (pre_X2_hasVotes T (xa [(a 2), (a 1), (a 3)]) (xa [(ex 22), (ex 23), (ex 24), (ex 25), (ex 26), (ex 27), (ex 28), (ex 12), (ex 13), (ex 14), (ex 15), (ex 16), (ex 17), (ex 18), (ex 19), (ex 20), (ex 21)]) (xf [(fi 0)]) (xh []) (xv [w2, (vi 3), (vi 4), (vi 5), (vi 6), (vi 7), (vi 8), (vi 1), (vi 2)]) (xl []))) hP hD hS hA [2, 1, 3] (by decide) rfl
              refine va_calli (va_runVN (As := [.int w2]) (rest := []) ⟨hx, hb, hml, hown, htg⟩ (c_X2_hasVotes l D T (xa [(a 2), (a 1), (a 3)]) (xa [(ex 22), (ex 23), (ex 24), (ex 25), (ex 26), (ex 27), (ex 28), (ex 12), (ex 13), (ex 14), (ex 15), (ex 16), (ex 17), (ex 18), (ex 19), (ex 20), (ex 21)]) (xf [(fi 0)]) (xh []) (xv [w2, (vi 3), (vi 4), (vi 5), (vi 6), (vi 7), (vi 8), (vi 1), (vi 2)]) (xl []) H.size hp2 hp3 hp0 hp1 (show rg (fi 0) 0 9 (-1) 8 from hp4)) ⟨va_cnB 1 htg (xg_ok kw_1062) rfl rfl rfl (hK.2.1 _ kn_1059) (htg _ kw_9) (by decide +kernel) ⟨by rw [hR]; exact Nat.le_of_ble_eq_true rfl, by rw [hR]; exact Nat.le_of_ble_eq_true rfl⟩, htg _ kw_1061, htg _ ks_87⟩ (xpreV hK hPc hDc (va_recv hK.1 hPc (ci := 2) (q0 := 0) rfl rfl)) rfl rfl hl.1 rfl (lv_room (Nat.le_of_ble_eq_true rfl)) dX11_party_74 ⟨by rw [hR]; exact Nat.le_of_ble_eq_true rfl, by rw [hR]; exact Nat.le_of_ble_eq_true rfl⟩) hS (fun q _ h => hFc q h) hFc (fun r9 u9 t H1 locs ht hvm hw hB hz1 hk1 hS => ?_)
              subst hw
              obtain ⟨fik_5, flk_5, vik_5, vlk_5, hP1, hD1, hG⟩ := hB
              rw [ht] at hP1
              obtain ⟨hP, hD⟩ := va_join (wr := [((a 0), .inr (11, [.ref (ex 0), .ref (a 1), .ref (ex 1), .ref (ex 2), .ref (a 2), .ref (ex 3), .ref (ex 4), .ref (ex 5), .ref (ex 6), .ref (ex 7), .ref (ex 8), .ref (ex 9), .ref (ex 10), .ref (ex 11), .int (vi 0)]))]) (w1 := [((a 2), .inr (2, [.ref (a 1), .int (vi 3), .int (vi 4), .int (vi 5), .int (vi 6), .int (vi 7), .int (vi 8), .ref (ex 22), .ref (ex 23), .ref (ex 24), .ref (a 3), .ref (ex 25), .ref (ex 26), .ref (ex 27), .ref (ex 28)])), ((a 1), .inr (7, [.int (vi 1), .int (vi 2), .ref (ex 12), .ref (ex 13), .ref (ex 14), .ref (ex 15), .ref (ex 16), .ref (ex 17), .ref (ex 18), .ref (ex 19), .ref (ex 20), .ref (ex 21)])), ((a 3), .inl (T 1, 9, .inl (fi 0)))]) hP hD [2, 1, 3] [0] hC9 rfl (by decide) (by decide) hk1 hFc hP1 hD1
              obtain ⟨rk_5, er9⟩ : ∃ z, z = r9 := ⟨_, rfl⟩
              subst er9
              clear hPc hDc hFc hP1 hD1 hk1 hz1 hvm ht hC9
              generalize H1 = H at hP hS ⊢
              obtain ⟨hP, hD⟩ := (show xPD D A [((a 0), .inr (11, [.ref (ex 0), .ref (a 1), .ref (ex 1), .ref (ex 2), .ref (a 2), .ref (ex 3), .ref (ex 4), .ref (ex 5), .ref (ex 6), .ref (ex 7), .ref (ex 8), .ref (ex 9), .ref (ex 10), .ref (ex 11), .int (vi 0)])), ((a 2), .inr (2, [.ref (a 1), .int (vi 3), .int (vi 4), .int (vi 5), .int (vi 6), .int (vi 7), .int (vi 8), .ref (ex 22), .ref (ex 23), .ref (ex 24), .ref (a 3), .ref (ex 25), .ref (ex 26), .ref (ex 27), .ref (ex 28)])), ((a 1), .inr (7, [.int (vi 1), .int (vi 2), .ref (ex 12), .ref (ex 13), .ref (ex 14), .ref (ex 15), .ref (ex 16), .ref (ex 17), .ref (ex 18), .ref (ex 19), .ref (ex 20), .ref (ex 21)])), ((a 3), .inl (T 1, 9, .inl (fi 0)))] H from ⟨hP, hD⟩)
              obtain ⟨gk_5_0, -⟩ := hG
              rcases (show (rk_5 = 1 ∧ (True)) ∨ (rk_5 = 0 ∧ (True)) from gk_5_0) with ⟨er9, gk_5_0⟩ | ⟨er9, gk_5_0⟩
              · refine xz_i 1 er9 ?_
                refine lv_if_eq (tgt := 82) hx hb dX11_party_77 (by decide) (fun c => absurd c (by decide)) (fun _ => ?_)
                refine lv_iload_n hx hb dX11_party_80 rfl (lv_at hl 2 rfl) ?_
                refine lv_istore_n (lv' := [(1, .int w2), (4, .int 1), (3, .int 1), (2, .int w2), (0, .ref (a 0))]) hx hb dX11_party_81 rfl hl (by decide) rfl (fun ls hl => ?_)
                obtain ⟨i82_6, ei82_6⟩ : ∃ z : Int32, w2 + Int32.ofInt 1 = z := ⟨_, rfl⟩
                have ti82_6 : i82_6.toInt = w2.toInt + 1 := by rw [← ei82_6]; have h79 := xrng w2; exact xadd rfl (by decide) (by omega) (by omega)
                refine lv_iinc (v := i82_6) (lv' := [(2, .int i82_6), (1, .int w2), (4, .int 1), (3, .int 1), (0, .ref (a 0))]) hx hb dX11_party_82 hl (k := 3) rfl ei82_6 (by decide) rfl (fun ls hl => ?_)
                refine lv_goto (tgt := 4) hx hb dX11_party_85 (by decide) ?_
                exact ih _ (by omega) i82_6 w2 _ _ _ (by show 0 ≤ i82_6.toInt; omega) rfl (hP.sub [0, 2, 1, 3] rfl) (hD.sub [0, 2, 1, 3] (by decide) rfl) hS (lv_sub hl [0, 1, 4] rfl)
              · refine xz_i 0 er9 ?_
                refine lv_if_eq (tgt := 82) hx hb dX11_party_77 (by decide) (fun _ => ?_) (fun c => absurd (by decide) c)
                obtain ⟨i82_7, ei82_7⟩ : ∃ z : Int32, w2 + Int32.ofInt 1 = z := ⟨_, rfl⟩
                have ti82_7 : i82_7.toInt = w2.toInt + 1 := by rw [← ei82_7]; have h79 := xrng w2; exact xadd rfl (by decide) (by omega) (by omega)
                refine lv_iinc (v := i82_7) (lv' := [(2, .int i82_7), (4, .int 1), (3, .int 1), (1, .int w1), (0, .ref (a 0))]) hx hb dX11_party_82 hl (k := 2) rfl ei82_7 (by decide) rfl (fun ls hl => ?_)
                refine lv_goto (tgt := 4) hx hb dX11_party_85 (by decide) ?_
                exact ih _ (by omega) i82_7 w1 _ _ _ (by show 0 ≤ i82_7.toInt; omega) rfl (hP.sub [0, 2, 1, 3] rfl) (hD.sub [0, 2, 1, 3] (by decide) rfl) hS (lv_sub hl [0, 3, 4] rfl)
  exact lp _ (0 : Int32) ((-1) : Int32) _ _ _ (show 0 ≤ (0 : Int32).toInt by decide) rfl hP hD hS hl
abbrev pre_X3_coinFor (T : Nat → ClassId) (a ex : Nat → Nat) (fi : Nat → Nat → Int32) (fl : Nat → Nat → Int64) (vi : Nat → Int32) (vl : Nat → Int64) : va_W := [((a 0), .inr (3, [.ref (a 3), .ref (a 1), .int (vi 2), .int (vi 3), .int (vi 4)])), ((a 1), .inr (2, [.ref (a 3), .int (vi 5), .int (vi 6), .int (vi 7), .int (vi 8), .int (vi 9), .int (vi 10), .ref (a 2), .ref (ex 0), .ref (a 5), .ref (ex 1), .ref (ex 2), .ref (ex 3), .ref (ex 4), .ref (ex 5)])), ((a 2), .inl (T 1, 9, .inl (fi 0))), ((a 3), .inr (7, [.int (vi 11), .int (vi 12), .ref (ex 6), .ref (a 4), .ref (ex 7), .ref (ex 8), .ref (ex 9), .ref (ex 10), .ref (ex 11), .ref (ex 12), .ref (ex 13), .ref (ex 14)])), ((a 4), .inl (T 1, 9, .inl (fi 1))), ((a 5), .inl (T 1, 9, .inl (fi 2)))]
set_option maxHeartbeats 8000000 in
set_option maxRecDepth 100000 in
theorem c_X3_coinFor (l : Launch) (D : va_G) (T : Nat → ClassId) (a ex : Nat → Nat) (fi : Nat → Nat → Int32) (fl : Nat → Nat → Int64) (vi : Nat → Int32) (vl : Nat → Int64) (sz : Nat) (hp0 : 0 ≤ (vi 0).toInt ∧ (vi 0).toInt ≤ 8) (hp1 : 0 ≤ (vi 1).toInt ∧ (vi 1).toInt ≤ 8) (hp2 : 0 ≤ (vi 5).toInt ∧ (vi 5).toInt ≤ 200) (hp3 : 0 ≤ (vi 10).toInt ∧ (vi 10).toInt ≤ 9) (hp4 : rg (fi 0) 0 9 (-1) 8) (hp5 : 0 ≤ (vi 11).toInt ∧ (vi 11).toInt ≤ 9) (hp6 : 0 ≤ (vi 12).toInt ∧ (vi 12).toInt ≤ 9) : Met l yX3_coinFor (xw yX3_coinFor cX3_coinFor 4 (some .int)) ({ frames := 2, cells := 0, slots := 0, locals := 50 }) (xP D T [.ref (a 0), .int (vi 0), .int (vi 1)] sz (pre_X3_coinFor T a ex fi fl vi vl)) (va_Qi (fun r u => r = u) (xC D (va_A (pre_X3_coinFor T a ex fi fl vi vl) sz) (fun fj fm vj vm => [((a 0), .inr (3, [.ref (a 3), .ref (a 1), .int (vi 2), .int (vi 3), .int (vi 4)])), ((a 1), .inr (2, [.ref (a 3), .int (vi 5), .int (vi 6), .int (vi 7), .int (vi 8), .int (vi 9), .int (vi 10), .ref (a 2), .ref (ex 0), .ref (a 5), .ref (ex 1), .ref (ex 2), .ref (ex 3), .ref (ex 4), .ref (ex 5)])), ((a 2), .inl (T 1, 9, .inl (fi 0))), ((a 3), .inr (7, [.int (vi 11), .int (vi 12), .ref (ex 6), .ref (a 4), .ref (ex 7), .ref (ex 8), .ref (ex 9), .ref (ex 10), .ref (ex 11), .ref (ex 12), .ref (ex 13), .ref (ex 14)])), ((a 4), .inl (T 1, 9, .inl (fi 1))), ((a 5), .inl (T 1, 9, .inl (fi 2)))]) (fun (r : Int32) (fj : Nat → Nat → Int32) (fm : Nat → Nat → Int64) (vj : Nat → Int32) (vm : Nat → Int64) => True)) (va_A (pre_X3_coinFor T a ex fi fl vi vl) sz)) 0 0 (va_A (pre_X3_coinFor T a ex fi fl vi vl) sz) := by
  refine xofW (cc := cX3_coinFor) (maxL := 4) (ret := (some .int)) (by decide) rfl ?_
  intro p e s m args below meth c s₁ R Q hR hQ B hml hv
  obtain ⟨rfl, hsz, hP, hK, hD0⟩ := hv
  have hx := B.exec
  have hb := B.bytes
  have hr := B.returns
  have hts := atoms_spec (ws := xw yX3_coinFor cX3_coinFor 4 (some .int)) B.pre
  have htg : ∀ w ∈ xg, w.before _ s = true := fun w h => hts w (List.mem_cons_of_mem _ h)
  have hown : s.vm.findClass RX3 = some m.cls := findClass_of_methodNamed B.named
  have hlocks := B.notSynchronized
  subst hsz
  have hD := hD0.self (sz := s.heap.size)
  generalize hAe : va_A (pre_X3_coinFor T a ex fi fl vi vl) s.heap.size = A at hD hQ
  have hA : ∀ q : Nat, s.heap.size ≤ q → A q := fun q h => by rw [← hAe]; exact Or.inr h
  have hS : va_S A s.heap s.heap [] := va_S.rf
  replace hP : va_P D vwCl [((a 0), .inr (3, [.ref (a 3), .ref (a 1), .int (vi 2), .int (vi 3), .int (vi 4)])), ((a 1), .inr (2, [.ref (a 3), .int (vi 5), .int (vi 6), .int (vi 7), .int (vi 8), .int (vi 9), .int (vi 10), .ref (a 2), .ref (ex 0), .ref (a 5), .ref (ex 1), .ref (ex 2), .ref (ex 3), .ref (ex 4), .ref (ex 5)])), ((a 2), .inl (T 1, 9, .inl (fi 0))), ((a 3), .inr (7, [.int (vi 11), .int (vi 12), .ref (ex 6), .ref (a 4), .ref (ex 7), .ref (ex 8), .ref (ex 9), .ref (ex 10), .ref (ex 11), .ref (ex 12), .ref (ex 13), .ref (ex 14)])), ((a 4), .inl (T 1, 9, .inl (fi 1))), ((a 5), .inl (T 1, 9, .inl (fi 2)))] s.heap := hP
  replace hD : va_D A [((a 0), .inr (3, [.ref (a 3), .ref (a 1), .int (vi 2), .int (vi 3), .int (vi 4)])), ((a 1), .inr (2, [.ref (a 3), .int (vi 5), .int (vi 6), .int (vi 7), .int (vi 8), .int (vi 9), .int (vi 10), .ref (a 2), .ref (ex 0), .ref (a 5), .ref (ex 1), .ref (ex 2), .ref (ex 3), .ref (ex 4), .ref (ex 5)])), ((a 2), .inl (T 1, 9, .inl (fi 0))), ((a 3), .inr (7, [.int (vi 11), .int (vi 12), .ref (ex 6), .ref (a 4), .ref (ex 7), .ref (ex 8), .ref (ex 9), .ref (ex 10), .ref (ex 11), .ref (ex 12), .ref (ex 13), .ref (ex 14)])), ((a 4), .inl (T 1, 9, .inl (fi 1))), ((a 5), .inl (T 1, 9, .inl (fi 2)))] := hD
  have hl := lv_entry ([.ref (a 0), .int (vi 0), .int (vi 1)]) (n := 4) (Nat.le_of_ble_eq_true rfl)
  rw [lg_entry_eq]
  generalize (lg_sl ([.ref (a 0), .int (vi 0), .int (vi 1)]) ++ List.replicate (4 - (lg_sl ([.ref (a 0), .int (vi 0), .int (vi 1)])).length) Slot.unset).toArray = ls at hl ⊢
  replace hl : lv_has ls 4 [(0, .ref (a 0)), (1, .int (vi 0)), (2, .int (vi 1))] := hl
  refine lv_aload_n hx hb dX3_coinFor_0 rfl (lv_at hl 0 rfl) ?_
  refine va_get (D := D) (ci := 3) (v := .ref (a 1)) (C := RX3) (T := TX3) (N := 5) hx hb htg inX3 hown hK.1 hP 0 rfl rfl 1 (by decide) (htg _ kw_439) (fun _ h9 => h9) rfl dX3_coinFor_1 ?_
  refine va_getN (D := D) (ci := 2) (v := .ref (a 2)) (C := RX2) (T := TX2) (N := 15) hx hb htg inX2 hown hK.1 hP 1 rfl rfl 7 (by decide) (va_Nw.use rfl (hK.2.1 _ kn_261)) (fun _ h9 => h9) rfl dX3_coinFor_4 ?_
  refine lv_iload_n hx hb dX3_coinFor_7 rfl (lv_at hl 2 rfl) ?_
  refine va_iald hx hb hK.1 hP 2 1 rfl rfl (vp_in_iff.mpr (by omega)) dX3_coinFor_8 ?_
  have hv := rg_at hp4 (i := (vi 1)) (by omega) (by omega)
  refine lv_istore_n (lv' := [(3, .int ((fi 0) (vi 1).toNatClampNeg)), (0, .ref (a 0)), (1, .int (vi 0)), (2, .int (vi 1))]) hx hb dX3_coinFor_9 rfl hl (by decide) rfl (fun ls hl => ?_)
  refine lv_iload_n hx hb dX3_coinFor_10 rfl (lv_at hl 0 rfl) ?_
  refine lv_iconst (v := (-1)) hx hb dX3_coinFor_11 (by decide) ?_
  refine lv_icmp_ne (tgt := 39) hx hb dX3_coinFor_12 (by decide) (fun c12 => ?_) (fun c12 => ?_)
  · have c12 := xne (k := (-1)) (by decide) c12
    refine lv_aload_n hx hb dX3_coinFor_39 rfl (lv_at hl 1 rfl) ?_
    refine va_get (D := D) (ci := 3) (v := .ref (a 1)) (C := RX3) (T := TX3) (N := 5) hx hb htg inX3 hown hK.1 hP 0 rfl rfl 1 (by decide) (htg _ kw_439) (fun _ h9 => h9) rfl dX3_coinFor_40 ?_
    refine lv_iload_n hx hb dX3_coinFor_43 rfl (lv_at hl 2 rfl) ?_
    obtain ⟨hC9, hPc, hDc, hFc⟩ := xcut (wc := (pre_X2_hasChanged T (xa [(a 1)]) (xa [(a 3), (a 2), (ex 0), (a 5), (ex 1), (ex 2), (ex 3), (ex 4), (ex 5)]) (xf []) (xh []) (xv [(vi 0), (vi 5), (vi 6), (vi 7), (vi 8), (vi 9), (vi 10)]) (xl []))) hP hD hS hA [1] (by decide) rfl
    refine va_calli (va_runVN (As := [.int (vi 0)]) (rest := []) ⟨hx, hb, hml, hown, htg⟩ (c_X2_hasChanged l D T (xa [(a 1)]) (xa [(a 3), (a 2), (ex 0), (a 5), (ex 1), (ex 2), (ex 3), (ex 4), (ex 5)]) (xf []) (xh []) (xv [(vi 0), (vi 5), (vi 6), (vi 7), (vi 8), (vi 9), (vi 10)]) (xl []) s.heap.size hp2 hp3) ⟨va_cnB 1 htg (xg_ok kw_810) rfl rfl rfl (hK.2.1 _ kn_1092) (htg _ kw_9) (by decide +kernel) ⟨by rw [hR]; exact Nat.le_of_ble_eq_true rfl, by rw [hR]; exact Nat.le_of_ble_eq_true rfl⟩, htg _ kw_809, htg _ ks_48⟩ (xpreV hK hPc hDc (va_recv hK.1 hPc (ci := 2) (q0 := 0) rfl rfl)) rfl rfl hl.1 rfl (lv_room (Nat.le_of_ble_eq_true rfl)) dX3_coinFor_44 ⟨by rw [hR]; exact Nat.le_of_ble_eq_true rfl, by rw [hR]; exact Nat.le_of_ble_eq_true rfl⟩) hS (fun q _ h => hFc q h) hFc (fun r9 u9 t H1 locs ht hvm hw hB hz1 hk1 hS => ?_)
    subst hw
    obtain ⟨fik, flk, vik, vlk, hP1, hD1, hG⟩ := hB
    rw [ht] at hP1
    obtain ⟨hP, hD⟩ := va_join (wr := [((a 0), .inr (3, [.ref (a 3), .ref (a 1), .int (vi 2), .int (vi 3), .int (vi 4)])), ((a 2), .inl (T 1, 9, .inl (fi 0))), ((a 3), .inr (7, [.int (vi 11), .int (vi 12), .ref (ex 6), .ref (a 4), .ref (ex 7), .ref (ex 8), .ref (ex 9), .ref (ex 10), .ref (ex 11), .ref (ex 12), .ref (ex 13), .ref (ex 14)])), ((a 4), .inl (T 1, 9, .inl (fi 1))), ((a 5), .inl (T 1, 9, .inl (fi 2)))]) (w1 := [((a 1), .inr (2, [.ref (a 3), .int (vi 5), .int (vi 6), .int (vi 7), .int (vi 8), .int (vi 9), .int (vi 10), .ref (a 2), .ref (ex 0), .ref (a 5), .ref (ex 1), .ref (ex 2), .ref (ex 3), .ref (ex 4), .ref (ex 5)]))]) hP hD [1] [0, 2, 3, 4, 5] hC9 rfl (by decide) (by decide) hk1 hFc hP1 hD1
    obtain ⟨rk, er9⟩ : ∃ z, z = r9 := ⟨_, rfl⟩
    subst er9
    clear hPc hDc hFc hP1 hD1 hk1 hz1 hvm ht hC9
    generalize H1 = H at hP hS ⊢
    obtain ⟨hP, hD⟩ := (show xPD D A [((a 0), .inr (3, [.ref (a 3), .ref (a 1), .int (vi 2), .int (vi 3), .int (vi 4)])), ((a 2), .inl (T 1, 9, .inl (fi 0))), ((a 3), .inr (7, [.int (vi 11), .int (vi 12), .ref (ex 6), .ref (a 4), .ref (ex 7), .ref (ex 8), .ref (ex 9), .ref (ex 10), .ref (ex 11), .ref (ex 12), .ref (ex 13), .ref (ex 14)])), ((a 4), .inl (T 1, 9, .inl (fi 1))), ((a 5), .inl (T 1, 9, .inl (fi 2))), ((a 1), .inr (2, [.ref (a 3), .int (vi 5), .int (vi 6), .int (vi 7), .int (vi 8), .int (vi 9), .int (vi 10), .ref (a 2), .ref (ex 0), .ref (a 5), .ref (ex 1), .ref (ex 2), .ref (ex 3), .ref (ex 4), .ref (ex 5)]))] H from ⟨hP, hD⟩)
    obtain ⟨gk_0, -⟩ := hG
    rcases (show (rk = 1 ∧ (True)) ∨ (rk = 0 ∧ (True)) from gk_0) with ⟨er9, gk_0⟩ | ⟨er9, gk_0⟩
    · refine xz_i 1 er9 ?_
      refine lv_if_ne (tgt := 61) hx hb dX3_coinFor_47 (by decide) (fun _ => ?_) (fun c => absurd c (by decide))
      refine lv_iconst (v := (-1)) hx hb dX3_coinFor_61 (by decide) ?_
      refine lv_goto (tgt := 74) hx hb dX3_coinFor_62 (by decide) ?_
      have hP9 := hP.sub (ws' := [((a 0), .inr (3, [.ref (a 3), .ref (a 1), .int (vi 2), .int (vi 3), .int (vi 4)])), ((a 1), .inr (2, [.ref (a 3), .int (vi 5), .int (vi 6), .int (vi 7), .int (vi 8), .int (vi 9), .int (vi 10), .ref (a 2), .ref (ex 0), .ref (a 5), .ref (ex 1), .ref (ex 2), .ref (ex 3), .ref (ex 4), .ref (ex 5)])), ((a 2), .inl (T 1, 9, .inl (fi 0))), ((a 3), .inr (7, [.int (vi 11), .int (vi 12), .ref (ex 6), .ref (a 4), .ref (ex 7), .ref (ex 8), .ref (ex 9), .ref (ex 10), .ref (ex 11), .ref (ex 12), .ref (ex 13), .ref (ex 14)])), ((a 4), .inl (T 1, 9, .inl (fi 1))), ((a 5), .inl (T 1, 9, .inl (fi 2)))]) [0, 5, 1, 2, 3, 4] rfl
      have hD9 := hD.sub (ws' := [((a 0), .inr (3, [.ref (a 3), .ref (a 1), .int (vi 2), .int (vi 3), .int (vi 4)])), ((a 1), .inr (2, [.ref (a 3), .int (vi 5), .int (vi 6), .int (vi 7), .int (vi 8), .int (vi 9), .int (vi 10), .ref (a 2), .ref (ex 0), .ref (a 5), .ref (ex 1), .ref (ex 2), .ref (ex 3), .ref (ex 4), .ref (ex 5)])), ((a 2), .inl (T 1, 9, .inl (fi 0))), ((a 3), .inr (7, [.int (vi 11), .int (vi 12), .ref (ex 6), .ref (a 4), .ref (ex 7), .ref (ex 8), .ref (ex 9), .ref (ex 10), .ref (ex 11), .ref (ex 12), .ref (ex 13), .ref (ex 14)])), ((a 4), .inl (T 1, 9, .inl (fi 1))), ((a 5), .inl (T 1, 9, .inl (fi 2)))]) [0, 5, 1, 2, 3, 4] (by decide +kernel) rfl
      rw [hQ]
      exact W.iret (v := (-1)) hx hb hr (fun t ht hW => ⟨⟨(-1), (-1), rfl, rfl, xf [], xh [], xv [], xl [], by rw [ht]; exact hP9, hD9, trivial⟩, hS.F ht⟩) hS.2.2 dX3_coinFor_74
    · refine xz_i 0 er9 ?_
      refine lv_if_ne (tgt := 61) hx hb dX3_coinFor_47 (by decide) (fun c => absurd (by decide) c) (fun _ => ?_)
      refine lv_aload_n hx hb dX3_coinFor_50 rfl (lv_at hl 1 rfl) ?_
      refine va_get (D := D) (ci := 3) (v := .ref (a 1)) (C := RX3) (T := TX3) (N := 5) hx hb htg inX3 hown hK.1 hP 0 rfl rfl 1 (by decide) (htg _ kw_439) (fun _ h9 => h9) rfl dX3_coinFor_51 ?_
      refine lv_iload_n hx hb dX3_coinFor_54 rfl (lv_at hl 0 rfl) ?_
      obtain ⟨hC9, hPc, hDc, hFc⟩ := xcut (wc := (pre_X2_hasChanged T (xa [(a 1)]) (xa [(a 3), (a 2), (ex 0), (a 5), (ex 1), (ex 2), (ex 3), (ex 4), (ex 5)]) (xf []) (xh []) (xv [((fi 0) (vi 1).toNatClampNeg), (vi 5), (vi 6), (vi 7), (vi 8), (vi 9), (vi 10)]) (xl []))) hP hD hS hA [5] (by decide) rfl
      refine va_calli (va_runVN (As := [.int ((fi 0) (vi 1).toNatClampNeg)]) (rest := []) ⟨hx, hb, hml, hown, htg⟩ (c_X2_hasChanged l D T (xa [(a 1)]) (xa [(a 3), (a 2), (ex 0), (a 5), (ex 1), (ex 2), (ex 3), (ex 4), (ex 5)]) (xf []) (xh []) (xv [((fi 0) (vi 1).toNatClampNeg), (vi 5), (vi 6), (vi 7), (vi 8), (vi 9), (vi 10)]) (xl []) H.size hp2 hp3) ⟨va_cnB 1 htg (xg_ok kw_810) rfl rfl rfl (hK.2.1 _ kn_1092) (htg _ kw_9) (by decide +kernel) ⟨by rw [hR]; exact Nat.le_of_ble_eq_true rfl, by rw [hR]; exact Nat.le_of_ble_eq_true rfl⟩, htg _ kw_809, htg _ ks_48⟩ (xpreV hK hPc hDc (va_recv hK.1 hPc (ci := 2) (q0 := 0) rfl rfl)) rfl rfl hl.1 rfl (lv_room (Nat.le_of_ble_eq_true rfl)) dX3_coinFor_55 ⟨by rw [hR]; exact Nat.le_of_ble_eq_true rfl, by rw [hR]; exact Nat.le_of_ble_eq_true rfl⟩) hS (fun q _ h => hFc q h) hFc (fun r9 u9 t H1 locs ht hvm hw hB hz1 hk1 hS => ?_)
      subst hw
      obtain ⟨fik_1, flk_1, vik_1, vlk_1, hP1, hD1, hG⟩ := hB
      rw [ht] at hP1
      obtain ⟨hP, hD⟩ := va_join (wr := [((a 0), .inr (3, [.ref (a 3), .ref (a 1), .int (vi 2), .int (vi 3), .int (vi 4)])), ((a 2), .inl (T 1, 9, .inl (fi 0))), ((a 3), .inr (7, [.int (vi 11), .int (vi 12), .ref (ex 6), .ref (a 4), .ref (ex 7), .ref (ex 8), .ref (ex 9), .ref (ex 10), .ref (ex 11), .ref (ex 12), .ref (ex 13), .ref (ex 14)])), ((a 4), .inl (T 1, 9, .inl (fi 1))), ((a 5), .inl (T 1, 9, .inl (fi 2)))]) (w1 := [((a 1), .inr (2, [.ref (a 3), .int (vi 5), .int (vi 6), .int (vi 7), .int (vi 8), .int (vi 9), .int (vi 10), .ref (a 2), .ref (ex 0), .ref (a 5), .ref (ex 1), .ref (ex 2), .ref (ex 3), .ref (ex 4), .ref (ex 5)]))]) hP hD [5] [0, 1, 2, 3, 4] hC9 rfl (by decide) (by decide) hk1 hFc hP1 hD1
      obtain ⟨rk_1, er9⟩ : ∃ z, z = r9 := ⟨_, rfl⟩
      subst er9
      clear hPc hDc hFc hP1 hD1 hk1 hz1 hvm ht hC9
      generalize H1 = H at hP hS ⊢
      obtain ⟨hP, hD⟩ := (show xPD D A [((a 0), .inr (3, [.ref (a 3), .ref (a 1), .int (vi 2), .int (vi 3), .int (vi 4)])), ((a 2), .inl (T 1, 9, .inl (fi 0))), ((a 3), .inr (7, [.int (vi 11), .int (vi 12), .ref (ex 6), .ref (a 4), .ref (ex 7), .ref (ex 8), .ref (ex 9), .ref (ex 10), .ref (ex 11), .ref (ex 12), .ref (ex 13), .ref (ex 14)])), ((a 4), .inl (T 1, 9, .inl (fi 1))), ((a 5), .inl (T 1, 9, .inl (fi 2))), ((a 1), .inr (2, [.ref (a 3), .int (vi 5), .int (vi 6), .int (vi 7), .int (vi 8), .int (vi 9), .int (vi 10), .ref (a 2), .ref (ex 0), .ref (a 5), .ref (ex 1), .ref (ex 2), .ref (ex 3), .ref (ex 4), .ref (ex 5)]))] H from ⟨hP, hD⟩)
      obtain ⟨gk_1_0, -⟩ := hG
      rcases (show (rk_1 = 1 ∧ (True)) ∨ (rk_1 = 0 ∧ (True)) from gk_1_0) with ⟨er9, gk_1_0⟩ | ⟨er9, gk_1_0⟩
      · refine xz_i 1 er9 ?_
        refine lv_if_eq (tgt := 65) hx hb dX3_coinFor_58 (by decide) (fun c => absurd c (by decide)) (fun _ => ?_)
        refine lv_iconst (v := (-1)) hx hb dX3_coinFor_61 (by decide) ?_
        refine lv_goto (tgt := 74) hx hb dX3_coinFor_62 (by decide) ?_
        have hP9 := hP.sub (ws' := [((a 0), .inr (3, [.ref (a 3), .ref (a 1), .int (vi 2), .int (vi 3), .int (vi 4)])), ((a 1), .inr (2, [.ref (a 3), .int (vi 5), .int (vi 6), .int (vi 7), .int (vi 8), .int (vi 9), .int (vi 10), .ref (a 2), .ref (ex 0), .ref (a 5), .ref (ex 1), .ref (ex 2), .ref (ex 3), .ref (ex 4), .ref (ex 5)])), ((a 2), .inl (T 1, 9, .inl (fi 0))), ((a 3), .inr (7, [.int (vi 11), .int (vi 12), .ref (ex 6), .ref (a 4), .ref (ex 7), .ref (ex 8), .ref (ex 9), .ref (ex 10), .ref (ex 11), .ref (ex 12), .ref (ex 13), .ref (ex 14)])), ((a 4), .inl (T 1, 9, .inl (fi 1))), ((a 5), .inl (T 1, 9, .inl (fi 2)))]) [0, 5, 1, 2, 3, 4] rfl
        have hD9 := hD.sub (ws' := [((a 0), .inr (3, [.ref (a 3), .ref (a 1), .int (vi 2), .int (vi 3), .int (vi 4)])), ((a 1), .inr (2, [.ref (a 3), .int (vi 5), .int (vi 6), .int (vi 7), .int (vi 8), .int (vi 9), .int (vi 10), .ref (a 2), .ref (ex 0), .ref (a 5), .ref (ex 1), .ref (ex 2), .ref (ex 3), .ref (ex 4), .ref (ex 5)])), ((a 2), .inl (T 1, 9, .inl (fi 0))), ((a 3), .inr (7, [.int (vi 11), .int (vi 12), .ref (ex 6), .ref (a 4), .ref (ex 7), .ref (ex 8), .ref (ex 9), .ref (ex 10), .ref (ex 11), .ref (ex 12), .ref (ex 13), .ref (ex 14)])), ((a 4), .inl (T 1, 9, .inl (fi 1))), ((a 5), .inl (T 1, 9, .inl (fi 2)))]) [0, 5, 1, 2, 3, 4] (by decide +kernel) rfl
        rw [hQ]
        exact W.iret (v := (-1)) hx hb hr (fun t ht hW => ⟨⟨(-1), (-1), rfl, rfl, xf [], xh [], xv [], xl [], by rw [ht]; exact hP9, hD9, trivial⟩, hS.F ht⟩) hS.2.2 dX3_coinFor_74
      · refine xz_i 0 er9 ?_
        refine lv_if_eq (tgt := 65) hx hb dX3_coinFor_58 (by decide) (fun _ => ?_) (fun c => absurd (by decide) c)
        refine lv_aload_n hx hb dX3_coinFor_65 rfl (lv_at hl 1 rfl) ?_
        refine va_get (D := D) (ci := 3) (v := .ref (a 3)) (C := RX3) (T := TX3) (N := 5) hx hb htg inX3 hown hK.1 hP 0 rfl rfl 0 (by decide) (htg _ kw_438) (fun _ h9 => h9) rfl dX3_coinFor_66 ?_
        refine va_getN (D := D) (ci := 7) (v := .ref (a 4)) (C := RX7) (T := TX7) (N := 12) hx hb htg inX7 hown hK.1 hP 2 rfl rfl 3 (by decide) (va_Nw.use rfl (hK.2.1 _ kn_171)) (fun _ h9 => h9) rfl dX3_coinFor_69 ?_
        refine lv_iload_n hx hb dX3_coinFor_72 rfl (lv_at hl 3 rfl) ?_
        refine va_iald hx hb hK.1 hP 3 1 rfl rfl (vp_in_iff.mpr (by omega)) dX3_coinFor_73 ?_
        have hP9 := hP.sub (ws' := [((a 0), .inr (3, [.ref (a 3), .ref (a 1), .int (vi 2), .int (vi 3), .int (vi 4)])), ((a 1), .inr (2, [.ref (a 3), .int (vi 5), .int (vi 6), .int (vi 7), .int (vi 8), .int (vi 9), .int (vi 10), .ref (a 2), .ref (ex 0), .ref (a 5), .ref (ex 1), .ref (ex 2), .ref (ex 3), .ref (ex 4), .ref (ex 5)])), ((a 2), .inl (T 1, 9, .inl (fi 0))), ((a 3), .inr (7, [.int (vi 11), .int (vi 12), .ref (ex 6), .ref (a 4), .ref (ex 7), .ref (ex 8), .ref (ex 9), .ref (ex 10), .ref (ex 11), .ref (ex 12), .ref (ex 13), .ref (ex 14)])), ((a 4), .inl (T 1, 9, .inl (fi 1))), ((a 5), .inl (T 1, 9, .inl (fi 2)))]) [0, 5, 1, 2, 3, 4] rfl
        have hD9 := hD.sub (ws' := [((a 0), .inr (3, [.ref (a 3), .ref (a 1), .int (vi 2), .int (vi 3), .int (vi 4)])), ((a 1), .inr (2, [.ref (a 3), .int (vi 5), .int (vi 6), .int (vi 7), .int (vi 8), .int (vi 9), .int (vi 10), .ref (a 2), .ref (ex 0), .ref (a 5), .ref (ex 1), .ref (ex 2), .ref (ex 3), .ref (ex 4), .ref (ex 5)])), ((a 2), .inl (T 1, 9, .inl (fi 0))), ((a 3), .inr (7, [.int (vi 11), .int (vi 12), .ref (ex 6), .ref (a 4), .ref (ex 7), .ref (ex 8), .ref (ex 9), .ref (ex 10), .ref (ex 11), .ref (ex 12), .ref (ex 13), .ref (ex 14)])), ((a 4), .inl (T 1, 9, .inl (fi 1))), ((a 5), .inl (T 1, 9, .inl (fi 2)))]) [0, 5, 1, 2, 3, 4] (by decide +kernel) rfl
        rw [hQ]
        exact W.iret (v := ((fi 1) (vi 1).toNatClampNeg)) hx hb hr (fun t ht hW => ⟨⟨((fi 1) (vi 1).toNatClampNeg), ((fi 1) (vi 1).toNatClampNeg), rfl, rfl, xf [], xh [], xv [], xl [], by rw [ht]; exact hP9, hD9, trivial⟩, hS.F ht⟩) hS.2.2 dX3_coinFor_74
  · have c12 := xeq (k := (-1)) (by decide) c12
    refine lv_aload_n hx hb dX3_coinFor_15 rfl (lv_at hl 1 rfl) ?_
    refine va_get (D := D) (ci := 3) (v := .ref (a 1)) (C := RX3) (T := TX3) (N := 5) hx hb htg inX3 hown hK.1 hP 0 rfl rfl 1 (by decide) (htg _ kw_439) (fun _ h9 => h9) rfl dX3_coinFor_16 ?_
    refine lv_iload_n hx hb dX3_coinFor_19 rfl (lv_at hl 3 rfl) ?_
    obtain ⟨hC9, hPc, hDc, hFc⟩ := xcut (wc := (pre_X2_isSour T (xa [(a 1)]) (xa [(a 3), (a 2), (ex 0), (a 5), (ex 1), (ex 2), (ex 3), (ex 4), (ex 5)]) (xf []) (xh []) (xv [(vi 1), (vi 5), (vi 6), (vi 7), (vi 8), (vi 9), (vi 10)]) (xl []))) hP hD hS hA [1] (by decide) rfl
    refine va_calli (va_runVN (As := [.int (vi 1)]) (rest := []) ⟨hx, hb, hml, hown, htg⟩ (c_X2_isSour l D T (xa [(a 1)]) (xa [(a 3), (a 2), (ex 0), (a 5), (ex 1), (ex 2), (ex 3), (ex 4), (ex 5)]) (xf []) (xh []) (xv [(vi 1), (vi 5), (vi 6), (vi 7), (vi 8), (vi 9), (vi 10)]) (xl []) s.heap.size hp2 hp3) ⟨va_cnB 1 htg (xg_ok kw_755) rfl rfl rfl (hK.2.1 _ kn_1090) (htg _ kw_9) (by decide +kernel) ⟨by rw [hR]; exact Nat.le_of_ble_eq_true rfl, by rw [hR]; exact Nat.le_of_ble_eq_true rfl⟩, htg _ kw_754, htg _ ks_40⟩ (xpreV hK hPc hDc (va_recv hK.1 hPc (ci := 2) (q0 := 0) rfl rfl)) rfl rfl hl.1 rfl (lv_room (Nat.le_of_ble_eq_true rfl)) dX3_coinFor_20 ⟨by rw [hR]; exact Nat.le_of_ble_eq_true rfl, by rw [hR]; exact Nat.le_of_ble_eq_true rfl⟩) hS (fun q _ h => hFc q h) hFc (fun r9 u9 t H1 locs ht hvm hw hB hz1 hk1 hS => ?_)
    subst hw
    obtain ⟨fik_2, flk_2, vik_2, vlk_2, hP1, hD1, hG⟩ := hB
    rw [ht] at hP1
    obtain ⟨hP, hD⟩ := va_join (wr := [((a 0), .inr (3, [.ref (a 3), .ref (a 1), .int (vi 2), .int (vi 3), .int (vi 4)])), ((a 2), .inl (T 1, 9, .inl (fi 0))), ((a 3), .inr (7, [.int (vi 11), .int (vi 12), .ref (ex 6), .ref (a 4), .ref (ex 7), .ref (ex 8), .ref (ex 9), .ref (ex 10), .ref (ex 11), .ref (ex 12), .ref (ex 13), .ref (ex 14)])), ((a 4), .inl (T 1, 9, .inl (fi 1))), ((a 5), .inl (T 1, 9, .inl (fi 2)))]) (w1 := [((a 1), .inr (2, [.ref (a 3), .int (vi 5), .int (vi 6), .int (vi 7), .int (vi 8), .int (vi 9), .int (vi 10), .ref (a 2), .ref (ex 0), .ref (a 5), .ref (ex 1), .ref (ex 2), .ref (ex 3), .ref (ex 4), .ref (ex 5)]))]) hP hD [1] [0, 2, 3, 4, 5] hC9 rfl (by decide) (by decide) hk1 hFc hP1 hD1
    obtain ⟨rk_2, er9⟩ : ∃ z, z = r9 := ⟨_, rfl⟩
    subst er9
    clear hPc hDc hFc hP1 hD1 hk1 hz1 hvm ht hC9
    generalize H1 = H at hP hS ⊢
    obtain ⟨hP, hD⟩ := (show xPD D A [((a 0), .inr (3, [.ref (a 3), .ref (a 1), .int (vi 2), .int (vi 3), .int (vi 4)])), ((a 2), .inl (T 1, 9, .inl (fi 0))), ((a 3), .inr (7, [.int (vi 11), .int (vi 12), .ref (ex 6), .ref (a 4), .ref (ex 7), .ref (ex 8), .ref (ex 9), .ref (ex 10), .ref (ex 11), .ref (ex 12), .ref (ex 13), .ref (ex 14)])), ((a 4), .inl (T 1, 9, .inl (fi 1))), ((a 5), .inl (T 1, 9, .inl (fi 2))), ((a 1), .inr (2, [.ref (a 3), .int (vi 5), .int (vi 6), .int (vi 7), .int (vi 8), .int (vi 9), .int (vi 10), .ref (a 2), .ref (ex 0), .ref (a 5), .ref (ex 1), .ref (ex 2), .ref (ex 3), .ref (ex 4), .ref (ex 5)]))] H from ⟨hP, hD⟩)
    obtain ⟨gk_2_0, -⟩ := hG
    rcases (show (rk_2 = 1 ∧ (True)) ∨ (rk_2 = 0 ∧ (True)) from gk_2_0) with ⟨er9, gk_2_0⟩ | ⟨er9, gk_2_0⟩
    · refine xz_i 1 er9 ?_
      refine lv_if_eq (tgt := 30) hx hb dX3_coinFor_23 (by decide) (fun c => absurd c (by decide)) (fun _ => ?_)
      refine lv_iconst (v := (-1)) hx hb dX3_coinFor_26 (by decide) ?_
      refine lv_goto (tgt := 38) hx hb dX3_coinFor_27 (by decide) ?_
      have hP9 := hP.sub (ws' := [((a 0), .inr (3, [.ref (a 3), .ref (a 1), .int (vi 2), .int (vi 3), .int (vi 4)])), ((a 1), .inr (2, [.ref (a 3), .int (vi 5), .int (vi 6), .int (vi 7), .int (vi 8), .int (vi 9), .int (vi 10), .ref (a 2), .ref (ex 0), .ref (a 5), .ref (ex 1), .ref (ex 2), .ref (ex 3), .ref (ex 4), .ref (ex 5)])), ((a 2), .inl (T 1, 9, .inl (fi 0))), ((a 3), .inr (7, [.int (vi 11), .int (vi 12), .ref (ex 6), .ref (a 4), .ref (ex 7), .ref (ex 8), .ref (ex 9), .ref (ex 10), .ref (ex 11), .ref (ex 12), .ref (ex 13), .ref (ex 14)])), ((a 4), .inl (T 1, 9, .inl (fi 1))), ((a 5), .inl (T 1, 9, .inl (fi 2)))]) [0, 5, 1, 2, 3, 4] rfl
      have hD9 := hD.sub (ws' := [((a 0), .inr (3, [.ref (a 3), .ref (a 1), .int (vi 2), .int (vi 3), .int (vi 4)])), ((a 1), .inr (2, [.ref (a 3), .int (vi 5), .int (vi 6), .int (vi 7), .int (vi 8), .int (vi 9), .int (vi 10), .ref (a 2), .ref (ex 0), .ref (a 5), .ref (ex 1), .ref (ex 2), .ref (ex 3), .ref (ex 4), .ref (ex 5)])), ((a 2), .inl (T 1, 9, .inl (fi 0))), ((a 3), .inr (7, [.int (vi 11), .int (vi 12), .ref (ex 6), .ref (a 4), .ref (ex 7), .ref (ex 8), .ref (ex 9), .ref (ex 10), .ref (ex 11), .ref (ex 12), .ref (ex 13), .ref (ex 14)])), ((a 4), .inl (T 1, 9, .inl (fi 1))), ((a 5), .inl (T 1, 9, .inl (fi 2)))]) [0, 5, 1, 2, 3, 4] (by decide +kernel) rfl
      rw [hQ]
      exact W.iret (v := (-1)) hx hb hr (fun t ht hW => ⟨⟨(-1), (-1), rfl, rfl, xf [], xh [], xv [], xl [], by rw [ht]; exact hP9, hD9, trivial⟩, hS.F ht⟩) hS.2.2 dX3_coinFor_38
    · refine xz_i 0 er9 ?_
      refine lv_if_eq (tgt := 30) hx hb dX3_coinFor_23 (by decide) (fun _ => ?_) (fun c => absurd (by decide) c)
      refine lv_aload_n hx hb dX3_coinFor_30 rfl (lv_at hl 1 rfl) ?_
      refine va_get (D := D) (ci := 3) (v := .ref (a 1)) (C := RX3) (T := TX3) (N := 5) hx hb htg inX3 hown hK.1 hP 0 rfl rfl 1 (by decide) (htg _ kw_439) (fun _ h9 => h9) rfl dX3_coinFor_31 ?_
      refine lv_iload_n hx hb dX3_coinFor_34 rfl (lv_at hl 3 rfl) ?_
      obtain ⟨hC9, hPc, hDc, hFc⟩ := xcut (wc := (pre_X2_cost T (xa [(a 1), (a 5), (a 3), (a 4)]) (xa [(a 2), (ex 0), (ex 1), (ex 2), (ex 3), (ex 4), (ex 5), (ex 6), (ex 7), (ex 8), (ex 9), (ex 10), (ex 11), (ex 12), (ex 13), (ex 14)]) (xf [(fi 2), (fi 1)]) (xh []) (xv [(vi 1), (vi 5), (vi 6), (vi 7), (vi 8), (vi 9), (vi 10), (vi 11), (vi 12)]) (xl []))) hP hD hS hA [5, 4, 2, 3] (by decide) rfl
      refine va_calli (va_runVN (As := [.int (vi 1)]) (rest := []) ⟨hx, hb, hml, hown, htg⟩ (c_X2_cost l D T (xa [(a 1), (a 5), (a 3), (a 4)]) (xa [(a 2), (ex 0), (ex 1), (ex 2), (ex 3), (ex 4), (ex 5), (ex 6), (ex 7), (ex 8), (ex 9), (ex 10), (ex 11), (ex 12), (ex 13), (ex 14)]) (xf [(fi 2), (fi 1)]) (xh []) (xv [(vi 1), (vi 5), (vi 6), (vi 7), (vi 8), (vi 9), (vi 10), (vi 11), (vi 12)]) (xl []) H.size hp1 hp2 hp3 hp5 hp6) ⟨va_cnB 1 htg (xg_ok kw_747) rfl rfl rfl (hK.2.1 _ kn_1091) (htg _ kw_9) (by decide +kernel) ⟨by rw [hR]; exact Nat.le_of_ble_eq_true rfl, by rw [hR]; exact Nat.le_of_ble_eq_true rfl⟩, htg _ kw_746, htg _ ks_38⟩ (xpreV hK hPc hDc (va_recv hK.1 hPc (ci := 2) (q0 := 0) rfl rfl)) rfl rfl hl.1 rfl (lv_room (Nat.le_of_ble_eq_true rfl)) dX3_coinFor_35 ⟨by rw [hR]; exact Nat.le_of_ble_eq_true rfl, by rw [hR]; exact Nat.le_of_ble_eq_true rfl⟩) hS (fun q _ h => hFc q h) hFc (fun r9 u9 t H1 locs ht hvm hw hB hz1 hk1 hS => ?_)
      subst hw
      obtain ⟨fik_3, flk_3, vik_3, vlk_3, hP1, hD1, hG⟩ := hB
      rw [ht] at hP1
      obtain ⟨hP, hD⟩ := va_join (wr := [((a 0), .inr (3, [.ref (a 3), .ref (a 1), .int (vi 2), .int (vi 3), .int (vi 4)])), ((a 2), .inl (T 1, 9, .inl (fi 0)))]) (w1 := [((a 1), .inr (2, [.ref (a 3), .int (vi 5), .int (vi 6), .int (vi 7), .int (vi 8), .int (vi 9), .int (vi 10), .ref (a 2), .ref (ex 0), .ref (a 5), .ref (ex 1), .ref (ex 2), .ref (ex 3), .ref (ex 4), .ref (ex 5)])), ((a 5), .inl (T 1, 9, .inl (fi 2))), ((a 3), .inr (7, [.int (vi 11), .int (vi 12), .ref (ex 6), .ref (a 4), .ref (ex 7), .ref (ex 8), .ref (ex 9), .ref (ex 10), .ref (ex 11), .ref (ex 12), .ref (ex 13), .ref (ex 14)])), ((a 4), .inl (T 1, 9, .inl (fi 1)))]) hP hD [5, 4, 2, 3] [0, 1] hC9 rfl (by decide) (by decide) hk1 hFc hP1 hD1
      obtain ⟨rk_3, er9⟩ : ∃ z, z = r9 := ⟨_, rfl⟩
      subst er9
      clear hPc hDc hFc hP1 hD1 hk1 hz1 hvm ht hC9
      generalize H1 = H at hP hS ⊢
      obtain ⟨hP, hD⟩ := (show xPD D A [((a 0), .inr (3, [.ref (a 3), .ref (a 1), .int (vi 2), .int (vi 3), .int (vi 4)])), ((a 2), .inl (T 1, 9, .inl (fi 0))), ((a 1), .inr (2, [.ref (a 3), .int (vi 5), .int (vi 6), .int (vi 7), .int (vi 8), .int (vi 9), .int (vi 10), .ref (a 2), .ref (ex 0), .ref (a 5), .ref (ex 1), .ref (ex 2), .ref (ex 3), .ref (ex 4), .ref (ex 5)])), ((a 5), .inl (T 1, 9, .inl (fi 2))), ((a 3), .inr (7, [.int (vi 11), .int (vi 12), .ref (ex 6), .ref (a 4), .ref (ex 7), .ref (ex 8), .ref (ex 9), .ref (ex 10), .ref (ex 11), .ref (ex 12), .ref (ex 13), .ref (ex 14)])), ((a 4), .inl (T 1, 9, .inl (fi 1)))] H from ⟨hP, hD⟩)
      clear hG
      have hP9 := hP.sub (ws' := [((a 0), .inr (3, [.ref (a 3), .ref (a 1), .int (vi 2), .int (vi 3), .int (vi 4)])), ((a 1), .inr (2, [.ref (a 3), .int (vi 5), .int (vi 6), .int (vi 7), .int (vi 8), .int (vi 9), .int (vi 10), .ref (a 2), .ref (ex 0), .ref (a 5), .ref (ex 1), .ref (ex 2), .ref (ex 3), .ref (ex 4), .ref (ex 5)])), ((a 2), .inl (T 1, 9, .inl (fi 0))), ((a 3), .inr (7, [.int (vi 11), .int (vi 12), .ref (ex 6), .ref (a 4), .ref (ex 7), .ref (ex 8), .ref (ex 9), .ref (ex 10), .ref (ex 11), .ref (ex 12), .ref (ex 13), .ref (ex 14)])), ((a 4), .inl (T 1, 9, .inl (fi 1))), ((a 5), .inl (T 1, 9, .inl (fi 2)))]) [0, 2, 1, 4, 5, 3] rfl
      have hD9 := hD.sub (ws' := [((a 0), .inr (3, [.ref (a 3), .ref (a 1), .int (vi 2), .int (vi 3), .int (vi 4)])), ((a 1), .inr (2, [.ref (a 3), .int (vi 5), .int (vi 6), .int (vi 7), .int (vi 8), .int (vi 9), .int (vi 10), .ref (a 2), .ref (ex 0), .ref (a 5), .ref (ex 1), .ref (ex 2), .ref (ex 3), .ref (ex 4), .ref (ex 5)])), ((a 2), .inl (T 1, 9, .inl (fi 0))), ((a 3), .inr (7, [.int (vi 11), .int (vi 12), .ref (ex 6), .ref (a 4), .ref (ex 7), .ref (ex 8), .ref (ex 9), .ref (ex 10), .ref (ex 11), .ref (ex 12), .ref (ex 13), .ref (ex 14)])), ((a 4), .inl (T 1, 9, .inl (fi 1))), ((a 5), .inl (T 1, 9, .inl (fi 2)))]) [0, 2, 1, 4, 5, 3] (by decide +kernel) rfl
      rw [hQ]
      exact W.iret (v := rk_3) hx hb hr (fun t ht hW => ⟨⟨rk_3, rk_3, rfl, rfl, xf [], xh [], xv [], xl [], by rw [ht]; exact hP9, hD9, trivial⟩, hS.F ht⟩) hS.2.2 dX3_coinFor_38
abbrev pre_X3_findLeast (T : Nat → ClassId) (a ex : Nat → Nat) (fi : Nat → Nat → Int32) (fl : Nat → Nat → Int64) (vi : Nat → Int32) (vl : Nat → Int64) : va_W := [((a 0), .inr (3, [.ref (a 1), .ref (a 2), .int (vi 1), .int (vi 2), .int (vi 3)])), ((a 1), .inr (7, [.int (vi 4), .int (vi 5), .ref (ex 0), .ref (a 4), .ref (ex 1), .ref (ex 2), .ref (ex 3), .ref (ex 4), .ref (ex 5), .ref (ex 6), .ref (ex 7), .ref (ex 8)])), ((a 2), .inr (2, [.ref (a 1), .int (vi 6), .int (vi 7), .int (vi 8), .int (vi 9), .int (vi 10), .int (vi 11), .ref (a 3), .ref (ex 9), .ref (a 5), .ref (ex 10), .ref (ex 11), .ref (ex 12), .ref (ex 13), .ref (ex 14)])), ((a 3), .inl (T 1, 9, .inl (fi 0))), ((a 4), .inl (T 1, 9, .inl (fi 1))), ((a 5), .inl (T 1, 9, .inl (fi 2)))]
set_option maxHeartbeats 8000000 in
set_option maxRecDepth 100000 in
theorem c_X3_findLeast (l : Launch) (D : va_G) (T : Nat → ClassId) (a ex : Nat → Nat) (fi : Nat → Nat → Int32) (fl : Nat → Nat → Int64) (vi : Nat → Int32) (vl : Nat → Int64) (sz : Nat) (hp0 : 0 ≤ (vi 0).toInt ∧ (vi 0).toInt ≤ 8) (hp1 : 0 ≤ (vi 4).toInt ∧ (vi 4).toInt ≤ 9) (hp2 : 0 ≤ (vi 5).toInt ∧ (vi 5).toInt ≤ 9) (hp3 : 0 ≤ (vi 6).toInt ∧ (vi 6).toInt ≤ 200) (hp4 : 0 ≤ (vi 11).toInt ∧ (vi 11).toInt ≤ 9) (hp5 : rg (fi 0) 0 9 (-1) 8) : Met l yX3_findLeast (xw yX3_findLeast cX3_findLeast 5 (some .int)) ({ frames := 3, cells := 0, slots := 0, locals := 77 }) (xP D T [.ref (a 0), .int (vi 0)] sz (pre_X3_findLeast T a ex fi fl vi vl)) (va_Qi (fun r u => r = u) (xC D (va_A (pre_X3_findLeast T a ex fi fl vi vl) sz) (fun fj fm vj vm => [((a 0), .inr (3, [.ref (a 1), .ref (a 2), .int (vi 1), .int (vj 1), .int (vj 0)])), ((a 1), .inr (7, [.int (vi 4), .int (vi 5), .ref (ex 0), .ref (a 4), .ref (ex 1), .ref (ex 2), .ref (ex 3), .ref (ex 4), .ref (ex 5), .ref (ex 6), .ref (ex 7), .ref (ex 8)])), ((a 2), .inr (2, [.ref (a 1), .int (vi 6), .int (vi 7), .int (vi 8), .int (vi 9), .int (vi 10), .int (vi 11), .ref (a 3), .ref (ex 9), .ref (a 5), .ref (ex 10), .ref (ex 11), .ref (ex 12), .ref (ex 13), .ref (ex 14)])), ((a 3), .inl (T 1, 9, .inl (fi 0))), ((a 4), .inl (T 1, 9, .inl (fi 1))), ((a 5), .inl (T 1, 9, .inl (fi 2)))]) (fun (r : Int32) (fj : Nat → Nat → Int32) (fm : Nat → Nat → Int64) (vj : Nat → Int32) (vm : Nat → Int64) => True)) (va_A (pre_X3_findLeast T a ex fi fl vi vl) sz)) 0 0 (va_A (pre_X3_findLeast T a ex fi fl vi vl) sz) := by
  refine xofW (cc := cX3_findLeast) (maxL := 5) (ret := (some .int)) (by decide) rfl ?_
  intro p e s m args below meth c s₁ R Q hR hQ B hml hv
  obtain ⟨rfl, hsz, hP, hK, hD0⟩ := hv
  have hx := B.exec
  have hb := B.bytes
  have hr := B.returns
  have hts := atoms_spec (ws := xw yX3_findLeast cX3_findLeast 5 (some .int)) B.pre
  have htg : ∀ w ∈ xg, w.before _ s = true := fun w h => hts w (List.mem_cons_of_mem _ h)
  have hown : s.vm.findClass RX3 = some m.cls := findClass_of_methodNamed B.named
  have hlocks := B.notSynchronized
  subst hsz
  have hD := hD0.self (sz := s.heap.size)
  generalize hAe : va_A (pre_X3_findLeast T a ex fi fl vi vl) s.heap.size = A at hD hQ
  have hA : ∀ q : Nat, s.heap.size ≤ q → A q := fun q h => by rw [← hAe]; exact Or.inr h
  have hS : va_S A s.heap s.heap [] := va_S.rf
  replace hP : va_P D vwCl [((a 0), .inr (3, [.ref (a 1), .ref (a 2), .int (vi 1), .int (vi 2), .int (vi 3)])), ((a 1), .inr (7, [.int (vi 4), .int (vi 5), .ref (ex 0), .ref (a 4), .ref (ex 1), .ref (ex 2), .ref (ex 3), .ref (ex 4), .ref (ex 5), .ref (ex 6), .ref (ex 7), .ref (ex 8)])), ((a 2), .inr (2, [.ref (a 1), .int (vi 6), .int (vi 7), .int (vi 8), .int (vi 9), .int (vi 10), .int (vi 11), .ref (a 3), .ref (ex 9), .ref (a 5), .ref (ex 10), .ref (ex 11), .ref (ex 12), .ref (ex 13), .ref (ex 14)])), ((a 3), .inl (T 1, 9, .inl (fi 0))), ((a 4), .inl (T 1, 9, .inl (fi 1))), ((a 5), .inl (T 1, 9, .inl (fi 2)))] s.heap := hP
  replace hD : va_D A [((a 0), .inr (3, [.ref (a 1), .ref (a 2), .int (vi 1), .int (vi 2), .int (vi 3)])), ((a 1), .inr (7, [.int (vi 4), .int (vi 5), .ref (ex 0), .ref (a 4), .ref (ex 1), .ref (ex 2), .ref (ex 3), .ref (ex 4), .ref (ex 5), .ref (ex 6), .ref (ex 7), .ref (ex 8)])), ((a 2), .inr (2, [.ref (a 1), .int (vi 6), .int (vi 7), .int (vi 8), .int (vi 9), .int (vi 10), .int (vi 11), .ref (a 3), .ref (ex 9), .ref (a 5), .ref (ex 10), .ref (ex 11), .ref (ex 12), .ref (ex 13), .ref (ex 14)])), ((a 3), .inl (T 1, 9, .inl (fi 0))), ((a 4), .inl (T 1, 9, .inl (fi 1))), ((a 5), .inl (T 1, 9, .inl (fi 2)))] := hD
  have hl := lv_entry ([.ref (a 0), .int (vi 0)]) (n := 5) (Nat.le_of_ble_eq_true rfl)
  rw [lg_entry_eq]
  generalize (lg_sl ([.ref (a 0), .int (vi 0)]) ++ List.replicate (5 - (lg_sl ([.ref (a 0), .int (vi 0)])).length) Slot.unset).toArray = ls at hl ⊢
  replace hl : lv_has ls 5 [(0, .ref (a 0)), (1, .int (vi 0))] := hl
  refine lv_iconst (v := (-1)) hx hb dX3_findLeast_0 (by decide) ?_
  refine lv_istore_n (lv' := [(2, .int (-1)), (0, .ref (a 0)), (1, .int (vi 0))]) hx hb dX3_findLeast_1 rfl hl (by decide) rfl (fun ls hl => ?_)
  refine lv_iconst (v := 0) hx hb dX3_findLeast_2 (by decide) ?_
  refine lv_istore_n (lv' := [(3, .int 0), (2, .int (-1)), (0, .ref (a 0)), (1, .int (vi 0))]) hx hb dX3_findLeast_3 rfl hl (by decide) rfl (fun ls hl => ?_)
  have lp : ∀ (kn : Nat) (w3 : Int32) (w2 : Int32) (wv : Int32) (H : Heap) (locs : List Loc) (ls : Array Slot), (0 ≤ w3.toInt) → (2147483648 - w3.toInt).toNat = kn → va_P D vwCl [((a 0), .inr (3, [.ref (a 1), .ref (a 2), .int (vi 1), .int wv, .int (vi 3)])), ((a 1), .inr (7, [.int (vi 4), .int (vi 5), .ref (ex 0), .ref (a 4), .ref (ex 1), .ref (ex 2), .ref (ex 3), .ref (ex 4), .ref (ex 5), .ref (ex 6), .ref (ex 7), .ref (ex 8)])), ((a 2), .inr (2, [.ref (a 1), .int (vi 6), .int (vi 7), .int (vi 8), .int (vi 9), .int (vi 10), .int (vi 11), .ref (a 3), .ref (ex 9), .ref (a 5), .ref (ex 10), .ref (ex 11), .ref (ex 12), .ref (ex 13), .ref (ex 14)])), ((a 3), .inl (T 1, 9, .inl (fi 0))), ((a 4), .inl (T 1, 9, .inl (fi 1))), ((a 5), .inl (T 1, 9, .inl (fi 2)))] H → va_D A [((a 0), .inr (3, [.ref (a 1), .ref (a 2), .int (vi 1), .int wv, .int (vi 3)])), ((a 1), .inr (7, [.int (vi 4), .int (vi 5), .ref (ex 0), .ref (a 4), .ref (ex 1), .ref (ex 2), .ref (ex 3), .ref (ex 4), .ref (ex 5), .ref (ex 6), .ref (ex 7), .ref (ex 8)])), ((a 2), .inr (2, [.ref (a 1), .int (vi 6), .int (vi 7), .int (vi 8), .int (vi 9), .int (vi 10), .int (vi 11), .ref (a 3), .ref (ex 9), .ref (a 5), .ref (ex 10), .ref (ex 11), .ref (ex 12), .ref (ex 13), .ref (ex 14)])), ((a 3), .inl (T 1, 9, .inl (fi 0))), ((a 4), .inl (T 1, 9, .inl (fi 1))), ((a 5), .inl (T 1, 9, .inl (fi 2)))] → va_S A s.heap H locs → lv_has ls 5 [(3, .int w3), (2, .int w2), (0, .ref (a 0)), (1, .int (vi 0))] → W p l e R s m ([.ref (a 0), .int (vi 0)] : List Value).toArray below meth c H locs 0 0 Q (F0 m 4 ls []) := by
    intro kn
    induction kn using Nat.strongRecOn with
    | _ kn ih =>
      intro w3 w2 wv H locs ls hi hm hP hD hS hl
      refine lv_iload_n hx hb dX3_findLeast_4 rfl (lv_at hl 0 rfl) ?_
      refine lv_aload_n hx hb dX3_findLeast_5 rfl (lv_at hl 2 rfl) ?_
      refine va_get (D := D) (ci := 3) (v := .ref (a 1)) (C := RX3) (T := TX3) (N := 5) hx hb htg inX3 hown hK.1 hP 0 rfl rfl 0 (by decide) (htg _ kw_438) (fun _ h9 => h9) rfl dX3_findLeast_6 ?_
      refine va_getN (D := D) (ci := 7) (v := .int (vi 4)) (C := RX7) (T := TX7) (N := 12) hx hb htg inX7 hown hK.1 hP 1 rfl rfl 0 (by decide) (va_Nw.use rfl (hK.2.1 _ kn_160)) (fun _ h9 => h9) rfl dX3_findLeast_9 ?_
      refine lv_icmp_ge (tgt := 57) hx hb dX3_findLeast_12 (by decide) (fun c12 => ?_) (fun c12 => ?_)
      · have c12 := Int32.le_iff_toInt_le.mp c12
        have rc12 := xrng w3; have qc12 := xrng (vi 4)
        refine lv_iload_n hx hb dX3_findLeast_57 rfl (lv_at hl 1 rfl) ?_
        refine lv_iconst (v := (-1)) hx hb dX3_findLeast_58 (by decide) ?_
        refine lv_icmp_ne (tgt := 64) hx hb dX3_findLeast_59 (by decide) (fun c59 => ?_) (fun c59 => ?_)
        · have c59 := xne (k := (-1)) (by decide) c59
          refine lv_aload_n hx hb dX3_findLeast_64 rfl (lv_at hl 2 rfl) ?_
          refine lv_iload_n hx hb dX3_findLeast_65 rfl (lv_at hl 1 rfl) ?_
          refine va_put (D := D) (ci := 3) (v := .int w2) (ty := .int) (C := RX3) (T := TX3) (N := 5) hx hb htg inX3 tyX3 tyX3_ok nmX3 hown hK.1 hP hD hS 0 rfl rfl 4 (by decide) (htg _ kw_443) (fun _ h9 => h9) rfl (by decide +kernel) rfl rfl (Nat.le_of_ble_eq_true rfl) dX3_findLeast_66 (fun H locs hP hD hS => ?_)
          obtain ⟨hP, hD⟩ := (show xPD D A [((a 0), .inr (3, [.ref (a 1), .ref (a 2), .int (vi 1), .int wv, .int w2])), ((a 1), .inr (7, [.int (vi 4), .int (vi 5), .ref (ex 0), .ref (a 4), .ref (ex 1), .ref (ex 2), .ref (ex 3), .ref (ex 4), .ref (ex 5), .ref (ex 6), .ref (ex 7), .ref (ex 8)])), ((a 2), .inr (2, [.ref (a 1), .int (vi 6), .int (vi 7), .int (vi 8), .int (vi 9), .int (vi 10), .int (vi 11), .ref (a 3), .ref (ex 9), .ref (a 5), .ref (ex 10), .ref (ex 11), .ref (ex 12), .ref (ex 13), .ref (ex 14)])), ((a 3), .inl (T 1, 9, .inl (fi 0))), ((a 4), .inl (T 1, 9, .inl (fi 1))), ((a 5), .inl (T 1, 9, .inl (fi 2)))] H from ⟨hP, hD⟩)
          refine lv_aload_n hx hb dX3_findLeast_69 rfl (lv_at hl 2 rfl) ?_
          refine va_get (D := D) (ci := 3) (v := .int wv) (C := RX3) (T := TX3) (N := 5) hx hb htg inX3 hown hK.1 hP 0 rfl rfl 3 (by decide) (htg _ kw_442) (fun _ h9 => h9) rfl dX3_findLeast_70 ?_
          have hP9 := hP.sub (ws' := [((a 0), .inr (3, [.ref (a 1), .ref (a 2), .int (vi 1), .int wv, .int w2])), ((a 1), .inr (7, [.int (vi 4), .int (vi 5), .ref (ex 0), .ref (a 4), .ref (ex 1), .ref (ex 2), .ref (ex 3), .ref (ex 4), .ref (ex 5), .ref (ex 6), .ref (ex 7), .ref (ex 8)])), ((a 2), .inr (2, [.ref (a 1), .int (vi 6), .int (vi 7), .int (vi 8), .int (vi 9), .int (vi 10), .int (vi 11), .ref (a 3), .ref (ex 9), .ref (a 5), .ref (ex 10), .ref (ex 11), .ref (ex 12), .ref (ex 13), .ref (ex 14)])), ((a 3), .inl (T 1, 9, .inl (fi 0))), ((a 4), .inl (T 1, 9, .inl (fi 1))), ((a 5), .inl (T 1, 9, .inl (fi 2)))]) [0, 1, 2, 3, 4, 5] rfl
          have hD9 := hD.sub (ws' := [((a 0), .inr (3, [.ref (a 1), .ref (a 2), .int (vi 1), .int wv, .int w2])), ((a 1), .inr (7, [.int (vi 4), .int (vi 5), .ref (ex 0), .ref (a 4), .ref (ex 1), .ref (ex 2), .ref (ex 3), .ref (ex 4), .ref (ex 5), .ref (ex 6), .ref (ex 7), .ref (ex 8)])), ((a 2), .inr (2, [.ref (a 1), .int (vi 6), .int (vi 7), .int (vi 8), .int (vi 9), .int (vi 10), .int (vi 11), .ref (a 3), .ref (ex 9), .ref (a 5), .ref (ex 10), .ref (ex 11), .ref (ex 12), .ref (ex 13), .ref (ex 14)])), ((a 3), .inl (T 1, 9, .inl (fi 0))), ((a 4), .inl (T 1, 9, .inl (fi 1))), ((a 5), .inl (T 1, 9, .inl (fi 2)))]) [0, 1, 2, 3, 4, 5] (by decide +kernel) rfl
          rw [hQ]
          exact W.iret (v := wv) hx hb hr (fun t ht hW => ⟨⟨wv, wv, rfl, rfl, xf [], xh [], xv [w2, wv], xl [], by rw [ht]; exact hP9, hD9, trivial⟩, hS.F ht⟩) hS.2.2 dX3_findLeast_73
        · have c59 := xeq (k := (-1)) (by decide) c59
          refine lv_iconst (v := (-1)) hx hb dX3_findLeast_62 (by decide) ?_
          have hP9 := hP.sub (ws' := [((a 0), .inr (3, [.ref (a 1), .ref (a 2), .int (vi 1), .int wv, .int (vi 3)])), ((a 1), .inr (7, [.int (vi 4), .int (vi 5), .ref (ex 0), .ref (a 4), .ref (ex 1), .ref (ex 2), .ref (ex 3), .ref (ex 4), .ref (ex 5), .ref (ex 6), .ref (ex 7), .ref (ex 8)])), ((a 2), .inr (2, [.ref (a 1), .int (vi 6), .int (vi 7), .int (vi 8), .int (vi 9), .int (vi 10), .int (vi 11), .ref (a 3), .ref (ex 9), .ref (a 5), .ref (ex 10), .ref (ex 11), .ref (ex 12), .ref (ex 13), .ref (ex 14)])), ((a 3), .inl (T 1, 9, .inl (fi 0))), ((a 4), .inl (T 1, 9, .inl (fi 1))), ((a 5), .inl (T 1, 9, .inl (fi 2)))]) [0, 1, 2, 3, 4, 5] rfl
          have hD9 := hD.sub (ws' := [((a 0), .inr (3, [.ref (a 1), .ref (a 2), .int (vi 1), .int wv, .int (vi 3)])), ((a 1), .inr (7, [.int (vi 4), .int (vi 5), .ref (ex 0), .ref (a 4), .ref (ex 1), .ref (ex 2), .ref (ex 3), .ref (ex 4), .ref (ex 5), .ref (ex 6), .ref (ex 7), .ref (ex 8)])), ((a 2), .inr (2, [.ref (a 1), .int (vi 6), .int (vi 7), .int (vi 8), .int (vi 9), .int (vi 10), .int (vi 11), .ref (a 3), .ref (ex 9), .ref (a 5), .ref (ex 10), .ref (ex 11), .ref (ex 12), .ref (ex 13), .ref (ex 14)])), ((a 3), .inl (T 1, 9, .inl (fi 0))), ((a 4), .inl (T 1, 9, .inl (fi 1))), ((a 5), .inl (T 1, 9, .inl (fi 2)))]) [0, 1, 2, 3, 4, 5] (by decide +kernel) rfl
          rw [hQ]
          exact W.iret (v := (-1)) hx hb hr (fun t ht hW => ⟨⟨(-1), (-1), rfl, rfl, xf [], xh [], xv [(vi 3), wv], xl [], by rw [ht]; exact hP9, hD9, trivial⟩, hS.F ht⟩) hS.2.2 dX3_findLeast_63
      · have c12 := (mt Int32.le_iff_toInt_le.mpr c12)
        have rc12 := xrng w3; have qc12 := xrng (vi 4)
        refine lv_aload_n hx hb dX3_findLeast_15 rfl (lv_at hl 2 rfl) ?_
        refine lv_iload_n hx hb dX3_findLeast_16 rfl (lv_at hl 3 rfl) ?_
        refine lv_iload_n hx hb dX3_findLeast_17 rfl (lv_at hl 0 rfl) ?_
        obtain ⟨hC9, hPc, hDc, hFc⟩ := xcut (wc := (pre_X3_coinFor T (xa [(a 0), (a 2), (a 3), (a 1), (a 4), (a 5)]) (xa [(ex 9), (ex 10), (ex 11), (ex 12), (ex 13), (ex 14), (ex 0), (ex 1), (ex 2), (ex 3), (ex 4), (ex 5), (ex 6), (ex 7), (ex 8)]) (xf [(fi 0), (fi 1), (fi 2)]) (xh []) (xv [(vi 0), w3, (vi 1), wv, (vi 3), (vi 6), (vi 7), (vi 8), (vi 9), (vi 10), (vi 11), (vi 4), (vi 5)]) (xl []))) hP hD hS hA [0, 2, 3, 1, 4, 5] (by decide) rfl
        refine va_calli (va_runV (As := [.int (vi 0), .int w3]) (rest := []) ⟨hx, hb, hml, hown, htg⟩ (c_X3_coinFor l D T (xa [(a 0), (a 2), (a 3), (a 1), (a 4), (a 5)]) (xa [(ex 9), (ex 10), (ex 11), (ex 12), (ex 13), (ex 14), (ex 0), (ex 1), (ex 2), (ex 3), (ex 4), (ex 5), (ex 6), (ex 7), (ex 8)]) (xf [(fi 0), (fi 1), (fi 2)]) (xh []) (xv [(vi 0), w3, (vi 1), wv, (vi 3), (vi 6), (vi 7), (vi 8), (vi 9), (vi 10), (vi 11), (vi 4), (vi 5)]) (xl []) H.size hp0 (by show 0 ≤ w3.toInt ∧ w3.toInt ≤ 8; omega) hp3 hp4 (show rg (fi 0) 0 9 (-1) 8 from hp5) hp1 hp2) ⟨callB_of 2 htg (xg_ok kw_1089) rfl rfl rfl (htg _ kw_14) (htg _ kw_1086) (by decide +kernel) ⟨by rw [hR]; exact Nat.le_of_ble_eq_true rfl, by rw [hR]; exact Nat.le_of_ble_eq_true rfl⟩, htg _ kw_1088, htg _ ks_90⟩ (xpreV hK hPc hDc (va_recv hK.1 hPc (ci := 3) (q0 := 0) rfl rfl)) rfl rfl hl.1 rfl (lv_room (Nat.le_of_ble_eq_true rfl)) dX3_findLeast_18 ⟨by rw [hR]; exact Nat.le_of_ble_eq_true rfl, by rw [hR]; exact Nat.le_of_ble_eq_true rfl⟩) hS (fun q _ h => hFc q h) hFc (fun r9 u9 t H1 locs ht hvm hw hB hz1 hk1 hS => ?_)
        subst hw
        obtain ⟨fik, flk, vik, vlk, hP1, hD1, hG⟩ := hB
        rw [ht] at hP1
        obtain ⟨hP, hD⟩ := va_join (wr := []) (w1 := [((a 0), .inr (3, [.ref (a 1), .ref (a 2), .int (vi 1), .int wv, .int (vi 3)])), ((a 2), .inr (2, [.ref (a 1), .int (vi 6), .int (vi 7), .int (vi 8), .int (vi 9), .int (vi 10), .int (vi 11), .ref (a 3), .ref (ex 9), .ref (a 5), .ref (ex 10), .ref (ex 11), .ref (ex 12), .ref (ex 13), .ref (ex 14)])), ((a 3), .inl (T 1, 9, .inl (fi 0))), ((a 1), .inr (7, [.int (vi 4), .int (vi 5), .ref (ex 0), .ref (a 4), .ref (ex 1), .ref (ex 2), .ref (ex 3), .ref (ex 4), .ref (ex 5), .ref (ex 6), .ref (ex 7), .ref (ex 8)])), ((a 4), .inl (T 1, 9, .inl (fi 1))), ((a 5), .inl (T 1, 9, .inl (fi 2)))]) hP hD [0, 2, 3, 1, 4, 5] [] hC9 rfl (by decide) (by decide) hk1 hFc hP1 hD1
        obtain ⟨rk, er9⟩ : ∃ z, z = r9 := ⟨_, rfl⟩
        subst er9
        clear hPc hDc hFc hP1 hD1 hk1 hz1 hvm ht hC9
        generalize H1 = H at hP hS ⊢
        obtain ⟨hP, hD⟩ := (show xPD D A [((a 0), .inr (3, [.ref (a 1), .ref (a 2), .int (vi 1), .int wv, .int (vi 3)])), ((a 2), .inr (2, [.ref (a 1), .int (vi 6), .int (vi 7), .int (vi 8), .int (vi 9), .int (vi 10), .int (vi 11), .ref (a 3), .ref (ex 9), .ref (a 5), .ref (ex 10), .ref (ex 11), .ref (ex 12), .ref (ex 13), .ref (ex 14)])), ((a 3), .inl (T 1, 9, .inl (fi 0))), ((a 1), .inr (7, [.int (vi 4), .int (vi 5), .ref (ex 0), .ref (a 4), .ref (ex 1), .ref (ex 2), .ref (ex 3), .ref (ex 4), .ref (ex 5), .ref (ex 6), .ref (ex 7), .ref (ex 8)])), ((a 4), .inl (T 1, 9, .inl (fi 1))), ((a 5), .inl (T 1, 9, .inl (fi 2)))] H from ⟨hP, hD⟩)
        clear hG
        refine lv_istore (lv' := [(4, .int rk), (3, .int w3), (2, .int w2), (0, .ref (a 0)), (1, .int (vi 0))]) hx hb dX3_findLeast_21 hl (by decide) rfl (fun ls hl => ?_)
        refine lv_iload hx hb dX3_findLeast_23 (lv_at hl 0 rfl) ?_
        refine lv_iconst (v := (-1)) hx hb dX3_findLeast_25 (by decide) ?_
        refine lv_icmp_eq (tgt := 51) hx hb dX3_findLeast_26 (by decide) (fun c26 => ?_) (fun c26 => ?_)
        · have c26 := xeq (k := (-1)) (by decide) c26
          obtain ⟨i51, ei51⟩ : ∃ z : Int32, w3 + Int32.ofInt 1 = z := ⟨_, rfl⟩
          have ti51 : i51.toInt = w3.toInt + 1 := by rw [← ei51]; have h79 := xrng w3; exact xadd rfl (by decide) (by omega) (by omega)
          refine lv_iinc (v := i51) (lv' := [(3, .int i51), (4, .int rk), (2, .int w2), (0, .ref (a 0)), (1, .int (vi 0))]) hx hb dX3_findLeast_51 hl (k := 1) rfl ei51 (by decide) rfl (fun ls hl => ?_)
          refine lv_goto (tgt := 4) hx hb dX3_findLeast_54 (by decide) ?_
          exact ih _ (by omega) i51 w2 wv _ _ _ (by show 0 ≤ i51.toInt; omega) rfl (hP.sub [0, 3, 1, 2, 4, 5] rfl) (hD.sub [0, 3, 1, 2, 4, 5] (by decide) rfl) hS (lv_sub hl [0, 2, 3, 4] rfl)
        · have c26 := xne (k := (-1)) (by decide) c26
          refine lv_iload_n hx hb dX3_findLeast_29 rfl (lv_at hl 2 rfl) ?_
          refine lv_iconst (v := (-1)) hx hb dX3_findLeast_30 (by decide) ?_
          refine lv_icmp_eq (tgt := 43) hx hb dX3_findLeast_31 (by decide) (fun c31 => ?_) (fun c31 => ?_)
          · have c31 := xeq (k := (-1)) (by decide) c31
            refine lv_aload_n hx hb dX3_findLeast_43 rfl (lv_at hl 3 rfl) ?_
            refine lv_iload hx hb dX3_findLeast_44 (lv_at hl 0 rfl) ?_
            refine va_put (D := D) (ci := 3) (v := .int rk) (ty := .int) (C := RX3) (T := TX3) (N := 5) hx hb htg inX3 tyX3 tyX3_ok nmX3 hown hK.1 hP hD hS 0 rfl rfl 3 (by decide) (htg _ kw_442) (fun _ h9 => h9) rfl (by decide +kernel) rfl rfl (Nat.le_of_ble_eq_true rfl) dX3_findLeast_46 (fun H locs hP hD hS => ?_)
            obtain ⟨hP, hD⟩ := (show xPD D A [((a 0), .inr (3, [.ref (a 1), .ref (a 2), .int (vi 1), .int rk, .int (vi 3)])), ((a 2), .inr (2, [.ref (a 1), .int (vi 6), .int (vi 7), .int (vi 8), .int (vi 9), .int (vi 10), .int (vi 11), .ref (a 3), .ref (ex 9), .ref (a 5), .ref (ex 10), .ref (ex 11), .ref (ex 12), .ref (ex 13), .ref (ex 14)])), ((a 3), .inl (T 1, 9, .inl (fi 0))), ((a 1), .inr (7, [.int (vi 4), .int (vi 5), .ref (ex 0), .ref (a 4), .ref (ex 1), .ref (ex 2), .ref (ex 3), .ref (ex 4), .ref (ex 5), .ref (ex 6), .ref (ex 7), .ref (ex 8)])), ((a 4), .inl (T 1, 9, .inl (fi 1))), ((a 5), .inl (T 1, 9, .inl (fi 2)))] H from ⟨hP, hD⟩)
            refine lv_iload_n hx hb dX3_findLeast_49 rfl (lv_at hl 1 rfl) ?_
            refine lv_istore_n (lv' := [(2, .int w3), (4, .int rk), (3, .int w3), (0, .ref (a 0)), (1, .int (vi 0))]) hx hb dX3_findLeast_50 rfl hl (by decide) rfl (fun ls hl => ?_)
            obtain ⟨i51_1, ei51_1⟩ : ∃ z : Int32, w3 + Int32.ofInt 1 = z := ⟨_, rfl⟩
            have ti51_1 : i51_1.toInt = w3.toInt + 1 := by rw [← ei51_1]; have h79 := xrng w3; exact xadd rfl (by decide) (by omega) (by omega)
            refine lv_iinc (v := i51_1) (lv' := [(3, .int i51_1), (2, .int w3), (4, .int rk), (0, .ref (a 0)), (1, .int (vi 0))]) hx hb dX3_findLeast_51 hl (k := 2) rfl ei51_1 (by decide) rfl (fun ls hl => ?_)
            refine lv_goto (tgt := 4) hx hb dX3_findLeast_54 (by decide) ?_
            exact ih _ (by omega) i51_1 w3 rk _ _ _ (by show 0 ≤ i51_1.toInt; omega) rfl (hP.sub [0, 3, 1, 2, 4, 5] rfl) (hD.sub [0, 3, 1, 2, 4, 5] (by decide) rfl) hS (lv_sub hl [0, 1, 3, 4] rfl)
          · have c31 := xne (k := (-1)) (by decide) c31
            refine lv_iload hx hb dX3_findLeast_34 (lv_at hl 0 rfl) ?_
            refine lv_aload_n hx hb dX3_findLeast_36 rfl (lv_at hl 3 rfl) ?_
            refine va_get (D := D) (ci := 3) (v := .int wv) (C := RX3) (T := TX3) (N := 5) hx hb htg inX3 hown hK.1 hP 0 rfl rfl 3 (by decide) (htg _ kw_442) (fun _ h9 => h9) rfl dX3_findLeast_37 ?_
            refine lv_icmp_ge (tgt := 51) hx hb dX3_findLeast_40 (by decide) (fun c40 => ?_) (fun c40 => ?_)
            · have c40 := Int32.le_iff_toInt_le.mp c40
              have rc40 := xrng rk; have qc40 := xrng wv
              obtain ⟨i51_2, ei51_2⟩ : ∃ z : Int32, w3 + Int32.ofInt 1 = z := ⟨_, rfl⟩
              have ti51_2 : i51_2.toInt = w3.toInt + 1 := by rw [← ei51_2]; have h79 := xrng w3; exact xadd rfl (by decide) (by omega) (by omega)
              refine lv_iinc (v := i51_2) (lv' := [(3, .int i51_2), (4, .int rk), (2, .int w2), (0, .ref (a 0)), (1, .int (vi 0))]) hx hb dX3_findLeast_51 hl (k := 1) rfl ei51_2 (by decide) rfl (fun ls hl => ?_)
              refine lv_goto (tgt := 4) hx hb dX3_findLeast_54 (by decide) ?_
              exact ih _ (by omega) i51_2 w2 wv _ _ _ (by show 0 ≤ i51_2.toInt; omega) rfl (hP.sub [0, 3, 1, 2, 4, 5] rfl) (hD.sub [0, 3, 1, 2, 4, 5] (by decide) rfl) hS (lv_sub hl [0, 2, 3, 4] rfl)
            · have c40 := (mt Int32.le_iff_toInt_le.mpr c40)
              have rc40 := xrng rk; have qc40 := xrng wv
              refine lv_aload_n hx hb dX3_findLeast_43 rfl (lv_at hl 3 rfl) ?_
              refine lv_iload hx hb dX3_findLeast_44 (lv_at hl 0 rfl) ?_
              refine va_put (D := D) (ci := 3) (v := .int rk) (ty := .int) (C := RX3) (T := TX3) (N := 5) hx hb htg inX3 tyX3 tyX3_ok nmX3 hown hK.1 hP hD hS 0 rfl rfl 3 (by decide) (htg _ kw_442) (fun _ h9 => h9) rfl (by decide +kernel) rfl rfl (Nat.le_of_ble_eq_true rfl) dX3_findLeast_46 (fun H locs hP hD hS => ?_)
              obtain ⟨hP, hD⟩ := (show xPD D A [((a 0), .inr (3, [.ref (a 1), .ref (a 2), .int (vi 1), .int rk, .int (vi 3)])), ((a 2), .inr (2, [.ref (a 1), .int (vi 6), .int (vi 7), .int (vi 8), .int (vi 9), .int (vi 10), .int (vi 11), .ref (a 3), .ref (ex 9), .ref (a 5), .ref (ex 10), .ref (ex 11), .ref (ex 12), .ref (ex 13), .ref (ex 14)])), ((a 3), .inl (T 1, 9, .inl (fi 0))), ((a 1), .inr (7, [.int (vi 4), .int (vi 5), .ref (ex 0), .ref (a 4), .ref (ex 1), .ref (ex 2), .ref (ex 3), .ref (ex 4), .ref (ex 5), .ref (ex 6), .ref (ex 7), .ref (ex 8)])), ((a 4), .inl (T 1, 9, .inl (fi 1))), ((a 5), .inl (T 1, 9, .inl (fi 2)))] H from ⟨hP, hD⟩)
              refine lv_iload_n hx hb dX3_findLeast_49 rfl (lv_at hl 1 rfl) ?_
              refine lv_istore_n (lv' := [(2, .int w3), (4, .int rk), (3, .int w3), (0, .ref (a 0)), (1, .int (vi 0))]) hx hb dX3_findLeast_50 rfl hl (by decide) rfl (fun ls hl => ?_)
              obtain ⟨i51_3, ei51_3⟩ : ∃ z : Int32, w3 + Int32.ofInt 1 = z := ⟨_, rfl⟩
              have ti51_3 : i51_3.toInt = w3.toInt + 1 := by rw [← ei51_3]; have h79 := xrng w3; exact xadd rfl (by decide) (by omega) (by omega)
              refine lv_iinc (v := i51_3) (lv' := [(3, .int i51_3), (2, .int w3), (4, .int rk), (0, .ref (a 0)), (1, .int (vi 0))]) hx hb dX3_findLeast_51 hl (k := 2) rfl ei51_3 (by decide) rfl (fun ls hl => ?_)
              refine lv_goto (tgt := 4) hx hb dX3_findLeast_54 (by decide) ?_
              exact ih _ (by omega) i51_3 w3 rk _ _ _ (by show 0 ≤ i51_3.toInt; omega) rfl (hP.sub [0, 3, 1, 2, 4, 5] rfl) (hD.sub [0, 3, 1, 2, 4, 5] (by decide) rfl) hS (lv_sub hl [0, 1, 3, 4] rfl)
  exact lp _ (0 : Int32) ((-1) : Int32) (vi 2) _ _ _ (show 0 ≤ (0 : Int32).toInt by decide) rfl hP hD hS hl
abbrev pre_X11_least (T : Nat → ClassId) (a ex : Nat → Nat) (fi : Nat → Nat → Int32) (fl : Nat → Nat → Int64) (vi : Nat → Int32) (vl : Nat → Int64) : va_W := [((a 0), .inr (11, [.ref (ex 0), .ref (a 1), .ref (ex 1), .ref (ex 2), .ref (a 2), .ref (ex 3), .ref (ex 4), .ref (ex 5), .ref (ex 6), .ref (ex 7), .ref (ex 8), .ref (a 4), .ref (ex 9), .ref (ex 10), .int (vi 1)])), ((a 1), .inr (7, [.int (vi 2), .int (vi 3), .ref (ex 11), .ref (a 6), .ref (ex 12), .ref (ex 13), .ref (ex 14), .ref (ex 15), .ref (ex 16), .ref (ex 17), .ref (ex 18), .ref (ex 19)])), ((a 2), .inr (2, [.ref (a 1), .int (vi 4), .int (vi 5), .int (vi 6), .int (vi 7), .int (vi 8), .int (vi 9), .ref (a 5), .ref (ex 20), .ref (a 7), .ref (a 3), .ref (ex 21), .ref (ex 22), .ref (ex 23), .ref (ex 24)])), ((a 3), .inl (T 1, 9, .inl (fi 0))), ((a 4), .inr (3, [.ref (a 1), .ref (a 2), .int (vi 10), .int (vi 11), .int (vi 12)])), ((a 5), .inl (T 1, 9, .inl (fi 1))), ((a 6), .inl (T 1, 9, .inl (fi 2))), ((a 7), .inl (T 1, 9, .inl (fi 3)))]
set_option maxHeartbeats 8000000 in
set_option maxRecDepth 100000 in
theorem c_X11_least (l : Launch) (D : va_G) (T : Nat → ClassId) (a ex : Nat → Nat) (fi : Nat → Nat → Int32) (fl : Nat → Nat → Int64) (vi : Nat → Int32) (vl : Nat → Int64) (sz : Nat) (hp0 : 0 ≤ (vi 2).toInt ∧ (vi 2).toInt ≤ 9) (hp1 : 0 ≤ (vi 3).toInt ∧ (vi 3).toInt ≤ 9) (hp2 : 0 ≤ (vi 4).toInt ∧ (vi 4).toInt ≤ 200) (hp3 : 0 ≤ (vi 9).toInt ∧ (vi 9).toInt ≤ 9) (hp4 : rg (fi 0) 0 9 (-1) 8) (hp5 : rg (fi 1) 0 9 (-1) 8) : Met l yX11_least (xw yX11_least cX11_least 2 (some .int)) ({ frames := 4, cells := 0, slots := 0, locals := 105 }) (xP D T [.ref (a 0), .int (vi 0)] sz (pre_X11_least T a ex fi fl vi vl)) (va_Qi (fun r u => r = u) (xC D (va_A (pre_X11_least T a ex fi fl vi vl) sz) (fun fj fm vj vm => [((a 0), .inr (11, [.ref (ex 0), .ref (a 1), .ref (ex 1), .ref (ex 2), .ref (a 2), .ref (ex 3), .ref (ex 4), .ref (ex 5), .ref (ex 6), .ref (ex 7), .ref (ex 8), .ref (a 4), .ref (ex 9), .ref (ex 10), .int (vi 1)])), ((a 1), .inr (7, [.int (vi 2), .int (vi 3), .ref (ex 11), .ref (a 6), .ref (ex 12), .ref (ex 13), .ref (ex 14), .ref (ex 15), .ref (ex 16), .ref (ex 17), .ref (ex 18), .ref (ex 19)])), ((a 2), .inr (2, [.ref (a 1), .int (vi 4), .int (vi 5), .int (vi 6), .int (vi 7), .int (vi 8), .int (vi 9), .ref (a 5), .ref (ex 20), .ref (a 7), .ref (a 3), .ref (ex 21), .ref (ex 22), .ref (ex 23), .ref (ex 24)])), ((a 3), .inl (T 1, 9, .inl (fi 0))), ((a 4), .inr (3, [.ref (a 1), .ref (a 2), .int (vi 10), .int (vj 1), .int (vj 0)])), ((a 5), .inl (T 1, 9, .inl (fi 1))), ((a 6), .inl (T 1, 9, .inl (fi 2))), ((a 7), .inl (T 1, 9, .inl (fi 3)))]) (fun (r : Int32) (fj : Nat → Nat → Int32) (fm : Nat → Nat → Int64) (vj : Nat → Int32) (vm : Nat → Int64) => True)) (va_A (pre_X11_least T a ex fi fl vi vl) sz)) 0 0 (va_A (pre_X11_least T a ex fi fl vi vl) sz) := by
  refine xofW (cc := cX11_least) (maxL := 2) (ret := (some .int)) (by decide) rfl ?_
  intro p e s m args below meth c s₁ R Q hR hQ B hml hv
  obtain ⟨rfl, hsz, hP, hK, hD0⟩ := hv
  have hx := B.exec
  have hb := B.bytes
  have hr := B.returns
  have hts := atoms_spec (ws := xw yX11_least cX11_least 2 (some .int)) B.pre
  have htg : ∀ w ∈ xg, w.before _ s = true := fun w h => hts w (List.mem_cons_of_mem _ h)
  have hown : s.vm.findClass RX11 = some m.cls := findClass_of_methodNamed B.named
  have hlocks := B.notSynchronized
  subst hsz
  have hD := hD0.self (sz := s.heap.size)
  generalize hAe : va_A (pre_X11_least T a ex fi fl vi vl) s.heap.size = A at hD hQ
  have hA : ∀ q : Nat, s.heap.size ≤ q → A q := fun q h => by rw [← hAe]; exact Or.inr h
  have hS : va_S A s.heap s.heap [] := va_S.rf
  replace hP : va_P D vwCl [((a 0), .inr (11, [.ref (ex 0), .ref (a 1), .ref (ex 1), .ref (ex 2), .ref (a 2), .ref (ex 3), .ref (ex 4), .ref (ex 5), .ref (ex 6), .ref (ex 7), .ref (ex 8), .ref (a 4), .ref (ex 9), .ref (ex 10), .int (vi 1)])), ((a 1), .inr (7, [.int (vi 2), .int (vi 3), .ref (ex 11), .ref (a 6), .ref (ex 12), .ref (ex 13), .ref (ex 14), .ref (ex 15), .ref (ex 16), .ref (ex 17), .ref (ex 18), .ref (ex 19)])), ((a 2), .inr (2, [.ref (a 1), .int (vi 4), .int (vi 5), .int (vi 6), .int (vi 7), .int (vi 8), .int (vi 9), .ref (a 5), .ref (ex 20), .ref (a 7), .ref (a 3), .ref (ex 21), .ref (ex 22), .ref (ex 23), .ref (ex 24)])), ((a 3), .inl (T 1, 9, .inl (fi 0))), ((a 4), .inr (3, [.ref (a 1), .ref (a 2), .int (vi 10), .int (vi 11), .int (vi 12)])), ((a 5), .inl (T 1, 9, .inl (fi 1))), ((a 6), .inl (T 1, 9, .inl (fi 2))), ((a 7), .inl (T 1, 9, .inl (fi 3)))] s.heap := hP
  replace hD : va_D A [((a 0), .inr (11, [.ref (ex 0), .ref (a 1), .ref (ex 1), .ref (ex 2), .ref (a 2), .ref (ex 3), .ref (ex 4), .ref (ex 5), .ref (ex 6), .ref (ex 7), .ref (ex 8), .ref (a 4), .ref (ex 9), .ref (ex 10), .int (vi 1)])), ((a 1), .inr (7, [.int (vi 2), .int (vi 3), .ref (ex 11), .ref (a 6), .ref (ex 12), .ref (ex 13), .ref (ex 14), .ref (ex 15), .ref (ex 16), .ref (ex 17), .ref (ex 18), .ref (ex 19)])), ((a 2), .inr (2, [.ref (a 1), .int (vi 4), .int (vi 5), .int (vi 6), .int (vi 7), .int (vi 8), .int (vi 9), .ref (a 5), .ref (ex 20), .ref (a 7), .ref (a 3), .ref (ex 21), .ref (ex 22), .ref (ex 23), .ref (ex 24)])), ((a 3), .inl (T 1, 9, .inl (fi 0))), ((a 4), .inr (3, [.ref (a 1), .ref (a 2), .int (vi 10), .int (vi 11), .int (vi 12)])), ((a 5), .inl (T 1, 9, .inl (fi 1))), ((a 6), .inl (T 1, 9, .inl (fi 2))), ((a 7), .inl (T 1, 9, .inl (fi 3)))] := hD
  have hl := lv_entry ([.ref (a 0), .int (vi 0)]) (n := 2) (Nat.le_of_ble_eq_true rfl)
  rw [lg_entry_eq]
  generalize (lg_sl ([.ref (a 0), .int (vi 0)]) ++ List.replicate (2 - (lg_sl ([.ref (a 0), .int (vi 0)])).length) Slot.unset).toArray = ls at hl ⊢
  replace hl : lv_has ls 2 [(0, .ref (a 0)), (1, .int (vi 0))] := hl
  refine lv_aload_n hx hb dX11_least_0 rfl (lv_at hl 0 rfl) ?_
  refine va_get (D := D) (ci := 11) (v := .ref (a 1)) (C := RX11) (T := TX11) (N := 15) hx hb htg inX11 hown hK.1 hP 0 rfl rfl 1 (by decide) (htg _ kw_497) (fun _ h9 => h9) rfl dX11_least_1 ?_
  refine lv_iload_n hx hb dX11_least_4 rfl (lv_at hl 1 rfl) ?_
  obtain ⟨hC9, hPc, hDc, hFc⟩ := xcut (wc := (pre_X7_isSoul T (xa [(a 1)]) (xa [(ex 11), (a 6), (ex 12), (ex 13), (ex 14), (ex 15), (ex 16), (ex 17), (ex 18), (ex 19)]) (xf []) (xh []) (xv [(vi 0), (vi 2), (vi 3)]) (xl []))) hP hD hS hA [1] (by decide) rfl
  refine va_calli (va_runVN (As := [.int (vi 0)]) (rest := []) ⟨hx, hb, hml, hown, htg⟩ (c_X7_isSoul l D T (xa [(a 1)]) (xa [(ex 11), (a 6), (ex 12), (ex 13), (ex 14), (ex 15), (ex 16), (ex 17), (ex 18), (ex 19)]) (xf []) (xh []) (xv [(vi 0), (vi 2), (vi 3)]) (xl []) s.heap.size hp0 hp1) ⟨va_cnB 1 htg (xg_ok kw_664) rfl rfl rfl (hK.2.1 _ kn_764) (htg _ kw_7) (by decide +kernel) ⟨by rw [hR]; exact Nat.le_of_ble_eq_true rfl, by rw [hR]; exact Nat.le_of_ble_eq_true rfl⟩, htg _ kw_663, htg _ ks_25⟩ (xpreV hK hPc hDc (va_recv hK.1 hPc (ci := 7) (q0 := 0) rfl rfl)) rfl rfl hl.1 rfl (lv_room (Nat.le_of_ble_eq_true rfl)) dX11_least_5 ⟨by rw [hR]; exact Nat.le_of_ble_eq_true rfl, by rw [hR]; exact Nat.le_of_ble_eq_true rfl⟩) hS (fun q _ h => hFc q h) hFc (fun r9 u9 t H1 locs ht hvm hw hB hz1 hk1 hS => ?_)
  subst hw
  obtain ⟨fik, flk, vik, vlk, hP1, hD1, hG⟩ := hB
  rw [ht] at hP1
  obtain ⟨hP, hD⟩ := va_join (wr := [((a 0), .inr (11, [.ref (ex 0), .ref (a 1), .ref (ex 1), .ref (ex 2), .ref (a 2), .ref (ex 3), .ref (ex 4), .ref (ex 5), .ref (ex 6), .ref (ex 7), .ref (ex 8), .ref (a 4), .ref (ex 9), .ref (ex 10), .int (vi 1)])), ((a 2), .inr (2, [.ref (a 1), .int (vi 4), .int (vi 5), .int (vi 6), .int (vi 7), .int (vi 8), .int (vi 9), .ref (a 5), .ref (ex 20), .ref (a 7), .ref (a 3), .ref (ex 21), .ref (ex 22), .ref (ex 23), .ref (ex 24)])), ((a 3), .inl (T 1, 9, .inl (fi 0))), ((a 4), .inr (3, [.ref (a 1), .ref (a 2), .int (vi 10), .int (vi 11), .int (vi 12)])), ((a 5), .inl (T 1, 9, .inl (fi 1))), ((a 6), .inl (T 1, 9, .inl (fi 2))), ((a 7), .inl (T 1, 9, .inl (fi 3)))]) (w1 := [((a 1), .inr (7, [.int (vi 2), .int (vi 3), .ref (ex 11), .ref (a 6), .ref (ex 12), .ref (ex 13), .ref (ex 14), .ref (ex 15), .ref (ex 16), .ref (ex 17), .ref (ex 18), .ref (ex 19)]))]) hP hD [1] [0, 2, 3, 4, 5, 6, 7] hC9 rfl (by decide) (by decide) hk1 hFc hP1 hD1
  obtain ⟨rk, er9⟩ : ∃ z, z = r9 := ⟨_, rfl⟩
  subst er9
  clear hPc hDc hFc hP1 hD1 hk1 hz1 hvm ht hC9
  generalize H1 = H at hP hS ⊢
  obtain ⟨hP, hD⟩ := (show xPD D A [((a 0), .inr (11, [.ref (ex 0), .ref (a 1), .ref (ex 1), .ref (ex 2), .ref (a 2), .ref (ex 3), .ref (ex 4), .ref (ex 5), .ref (ex 6), .ref (ex 7), .ref (ex 8), .ref (a 4), .ref (ex 9), .ref (ex 10), .int (vi 1)])), ((a 2), .inr (2, [.ref (a 1), .int (vi 4), .int (vi 5), .int (vi 6), .int (vi 7), .int (vi 8), .int (vi 9), .ref (a 5), .ref (ex 20), .ref (a 7), .ref (a 3), .ref (ex 21), .ref (ex 22), .ref (ex 23), .ref (ex 24)])), ((a 3), .inl (T 1, 9, .inl (fi 0))), ((a 4), .inr (3, [.ref (a 1), .ref (a 2), .int (vi 10), .int (vi 11), .int (vi 12)])), ((a 5), .inl (T 1, 9, .inl (fi 1))), ((a 6), .inl (T 1, 9, .inl (fi 2))), ((a 7), .inl (T 1, 9, .inl (fi 3))), ((a 1), .inr (7, [.int (vi 2), .int (vi 3), .ref (ex 11), .ref (a 6), .ref (ex 12), .ref (ex 13), .ref (ex 14), .ref (ex 15), .ref (ex 16), .ref (ex 17), .ref (ex 18), .ref (ex 19)]))] H from ⟨hP, hD⟩)
  obtain ⟨gk_0, -⟩ := hG
  rcases (show (rk = 1 ∧ (0 ≤ (vi 0).toInt ∧ (vi 0).toInt < (vi 3).toInt)) ∨ (rk = 0 ∧ (¬ (0 ≤ (vi 0).toInt ∧ (vi 0).toInt < (vi 3).toInt))) from gk_0) with ⟨er9, gk_0⟩ | ⟨er9, gk_0⟩
  · refine xz_i 1 er9 ?_
    refine lv_if_eq (tgt := 33) hx hb dX11_least_8 (by decide) (fun c => absurd c (by decide)) (fun _ => ?_)
    refine lv_aload_n hx hb dX11_least_11 rfl (lv_at hl 0 rfl) ?_
    refine va_get (D := D) (ci := 11) (v := .ref (a 2)) (C := RX11) (T := TX11) (N := 15) hx hb htg inX11 hown hK.1 hP 0 rfl rfl 4 (by decide) (htg _ kw_500) (fun _ h9 => h9) rfl dX11_least_12 ?_
    refine lv_iload_n hx hb dX11_least_15 rfl (lv_at hl 1 rfl) ?_
    obtain ⟨hC9, hPc, hDc, hFc⟩ := xcut (wc := (pre_X2_doesWait T (xa [(a 2), (a 3)]) (xa [(a 1), (a 5), (ex 20), (a 7), (ex 21), (ex 22), (ex 23), (ex 24)]) (xf [(fi 0)]) (xh []) (xv [(vi 0), (vi 4), (vi 5), (vi 6), (vi 7), (vi 8), (vi 9)]) (xl []))) hP hD hS hA [1, 2] (by decide) rfl
    refine va_calli (va_runVN (As := [.int (vi 0)]) (rest := []) ⟨hx, hb, hml, hown, htg⟩ (c_X2_doesWait l D T (xa [(a 2), (a 3)]) (xa [(a 1), (a 5), (ex 20), (a 7), (ex 21), (ex 22), (ex 23), (ex 24)]) (xf [(fi 0)]) (xh []) (xv [(vi 0), (vi 4), (vi 5), (vi 6), (vi 7), (vi 8), (vi 9)]) (xl []) H.size (by show 0 ≤ (vi 0).toInt ∧ (vi 0).toInt ≤ 8; omega) hp2 hp3 (show rg (fi 0) 0 9 (-1) 8 from hp4)) ⟨va_cnB 1 htg (xg_ok kw_1066) rfl rfl rfl (hK.2.1 _ kn_1081) (htg _ kw_9) (by decide +kernel) ⟨by rw [hR]; exact Nat.le_of_ble_eq_true rfl, by rw [hR]; exact Nat.le_of_ble_eq_true rfl⟩, htg _ kw_1065, htg _ ks_88⟩ (xpreV hK hPc hDc (va_recv hK.1 hPc (ci := 2) (q0 := 0) rfl rfl)) rfl rfl hl.1 rfl (lv_room (Nat.le_of_ble_eq_true rfl)) dX11_least_16 ⟨by rw [hR]; exact Nat.le_of_ble_eq_true rfl, by rw [hR]; exact Nat.le_of_ble_eq_true rfl⟩) hS (fun q _ h => hFc q h) hFc (fun r9 u9 t H1 locs ht hvm hw hB hz1 hk1 hS => ?_)
    subst hw
    obtain ⟨fik_1, flk_1, vik_1, vlk_1, hP1, hD1, hG⟩ := hB
    rw [ht] at hP1
    obtain ⟨hP, hD⟩ := va_join (wr := [((a 0), .inr (11, [.ref (ex 0), .ref (a 1), .ref (ex 1), .ref (ex 2), .ref (a 2), .ref (ex 3), .ref (ex 4), .ref (ex 5), .ref (ex 6), .ref (ex 7), .ref (ex 8), .ref (a 4), .ref (ex 9), .ref (ex 10), .int (vi 1)])), ((a 4), .inr (3, [.ref (a 1), .ref (a 2), .int (vi 10), .int (vi 11), .int (vi 12)])), ((a 5), .inl (T 1, 9, .inl (fi 1))), ((a 6), .inl (T 1, 9, .inl (fi 2))), ((a 7), .inl (T 1, 9, .inl (fi 3))), ((a 1), .inr (7, [.int (vi 2), .int (vi 3), .ref (ex 11), .ref (a 6), .ref (ex 12), .ref (ex 13), .ref (ex 14), .ref (ex 15), .ref (ex 16), .ref (ex 17), .ref (ex 18), .ref (ex 19)]))]) (w1 := [((a 2), .inr (2, [.ref (a 1), .int (vi 4), .int (vi 5), .int (vi 6), .int (vi 7), .int (vi 8), .int (vi 9), .ref (a 5), .ref (ex 20), .ref (a 7), .ref (a 3), .ref (ex 21), .ref (ex 22), .ref (ex 23), .ref (ex 24)])), ((a 3), .inl (T 1, 9, .inl (fi 0)))]) hP hD [1, 2] [0, 3, 4, 5, 6, 7] hC9 rfl (by decide) (by decide) hk1 hFc hP1 hD1
    obtain ⟨rk_1, er9⟩ : ∃ z, z = r9 := ⟨_, rfl⟩
    subst er9
    clear hPc hDc hFc hP1 hD1 hk1 hz1 hvm ht hC9
    generalize H1 = H at hP hS ⊢
    obtain ⟨hP, hD⟩ := (show xPD D A [((a 0), .inr (11, [.ref (ex 0), .ref (a 1), .ref (ex 1), .ref (ex 2), .ref (a 2), .ref (ex 3), .ref (ex 4), .ref (ex 5), .ref (ex 6), .ref (ex 7), .ref (ex 8), .ref (a 4), .ref (ex 9), .ref (ex 10), .int (vi 1)])), ((a 4), .inr (3, [.ref (a 1), .ref (a 2), .int (vi 10), .int (vi 11), .int (vi 12)])), ((a 5), .inl (T 1, 9, .inl (fi 1))), ((a 6), .inl (T 1, 9, .inl (fi 2))), ((a 7), .inl (T 1, 9, .inl (fi 3))), ((a 1), .inr (7, [.int (vi 2), .int (vi 3), .ref (ex 11), .ref (a 6), .ref (ex 12), .ref (ex 13), .ref (ex 14), .ref (ex 15), .ref (ex 16), .ref (ex 17), .ref (ex 18), .ref (ex 19)])), ((a 2), .inr (2, [.ref (a 1), .int (vi 4), .int (vi 5), .int (vi 6), .int (vi 7), .int (vi 8), .int (vi 9), .ref (a 5), .ref (ex 20), .ref (a 7), .ref (a 3), .ref (ex 21), .ref (ex 22), .ref (ex 23), .ref (ex 24)])), ((a 3), .inl (T 1, 9, .inl (fi 0)))] H from ⟨hP, hD⟩)
    obtain ⟨gk_1_0, -⟩ := hG
    rcases (show (rk_1 = 1 ∧ (True)) ∨ (rk_1 = 0 ∧ (True)) from gk_1_0) with ⟨er9, gk_1_0⟩ | ⟨er9, gk_1_0⟩
    · refine xz_i 1 er9 ?_
      refine lv_if_eq (tgt := 33) hx hb dX11_least_19 (by decide) (fun c => absurd c (by decide)) (fun _ => ?_)
      refine lv_aload_n hx hb dX11_least_22 rfl (lv_at hl 0 rfl) ?_
      refine va_get (D := D) (ci := 11) (v := .ref (a 4)) (C := RX11) (T := TX11) (N := 15) hx hb htg inX11 hown hK.1 hP 0 rfl rfl 11 (by decide) (htg _ kw_507) (fun _ h9 => h9) rfl dX11_least_23 ?_
      refine lv_iload_n hx hb dX11_least_26 rfl (lv_at hl 1 rfl) ?_
      obtain ⟨hC9, hPc, hDc, hFc⟩ := xcut (wc := (pre_X3_findLeast T (xa [(a 4), (a 1), (a 2), (a 5), (a 6), (a 7)]) (xa [(ex 11), (ex 12), (ex 13), (ex 14), (ex 15), (ex 16), (ex 17), (ex 18), (ex 19), (ex 20), (a 3), (ex 21), (ex 22), (ex 23), (ex 24)]) (xf [(fi 1), (fi 2), (fi 3)]) (xh []) (xv [(vi 0), (vi 10), (vi 11), (vi 12), (vi 2), (vi 3), (vi 4), (vi 5), (vi 6), (vi 7), (vi 8), (vi 9)]) (xl []))) hP hD hS hA [1, 5, 6, 2, 3, 4] (by decide) rfl
      refine va_calli (va_runVN (As := [.int (vi 0)]) (rest := []) ⟨hx, hb, hml, hown, htg⟩ (c_X3_findLeast l D T (xa [(a 4), (a 1), (a 2), (a 5), (a 6), (a 7)]) (xa [(ex 11), (ex 12), (ex 13), (ex 14), (ex 15), (ex 16), (ex 17), (ex 18), (ex 19), (ex 20), (a 3), (ex 21), (ex 22), (ex 23), (ex 24)]) (xf [(fi 1), (fi 2), (fi 3)]) (xh []) (xv [(vi 0), (vi 10), (vi 11), (vi 12), (vi 2), (vi 3), (vi 4), (vi 5), (vi 6), (vi 7), (vi 8), (vi 9)]) (xl []) H.size (by show 0 ≤ (vi 0).toInt ∧ (vi 0).toInt ≤ 8; omega) hp0 hp1 hp2 hp3 (show rg (fi 1) 0 9 (-1) 8 from hp5)) ⟨va_cnB 1 htg (xg_ok kw_1085) rfl rfl rfl (hK.2.1 _ kn_1082) (htg _ kw_14) (by decide +kernel) ⟨by rw [hR]; exact Nat.le_of_ble_eq_true rfl, by rw [hR]; exact Nat.le_of_ble_eq_true rfl⟩, htg _ kw_1084, htg _ ks_89⟩ (xpreV hK hPc hDc (va_recv hK.1 hPc (ci := 3) (q0 := 0) rfl rfl)) rfl rfl hl.1 rfl (lv_room (Nat.le_of_ble_eq_true rfl)) dX11_least_27 ⟨by rw [hR]; exact Nat.le_of_ble_eq_true rfl, by rw [hR]; exact Nat.le_of_ble_eq_true rfl⟩) hS (fun q _ h => hFc q h) hFc (fun r9 u9 t H1 locs ht hvm hw hB hz1 hk1 hS => ?_)
      subst hw
      obtain ⟨fik_2, flk_2, vik_2, vlk_2, hP1, hD1, hG⟩ := hB
      rw [ht] at hP1
      obtain ⟨hP, hD⟩ := va_join (wr := [((a 0), .inr (11, [.ref (ex 0), .ref (a 1), .ref (ex 1), .ref (ex 2), .ref (a 2), .ref (ex 3), .ref (ex 4), .ref (ex 5), .ref (ex 6), .ref (ex 7), .ref (ex 8), .ref (a 4), .ref (ex 9), .ref (ex 10), .int (vi 1)])), ((a 3), .inl (T 1, 9, .inl (fi 0)))]) (w1 := [((a 4), .inr (3, [.ref (a 1), .ref (a 2), .int (vi 10), .int (vik_2 1), .int (vik_2 0)])), ((a 1), .inr (7, [.int (vi 2), .int (vi 3), .ref (ex 11), .ref (a 6), .ref (ex 12), .ref (ex 13), .ref (ex 14), .ref (ex 15), .ref (ex 16), .ref (ex 17), .ref (ex 18), .ref (ex 19)])), ((a 2), .inr (2, [.ref (a 1), .int (vi 4), .int (vi 5), .int (vi 6), .int (vi 7), .int (vi 8), .int (vi 9), .ref (a 5), .ref (ex 20), .ref (a 7), .ref (a 3), .ref (ex 21), .ref (ex 22), .ref (ex 23), .ref (ex 24)])), ((a 5), .inl (T 1, 9, .inl (fi 1))), ((a 6), .inl (T 1, 9, .inl (fi 2))), ((a 7), .inl (T 1, 9, .inl (fi 3)))]) hP hD [1, 5, 6, 2, 3, 4] [0, 7] hC9 rfl (by decide) (by decide) hk1 hFc hP1 hD1
      obtain ⟨rk_2, er9⟩ : ∃ z, z = r9 := ⟨_, rfl⟩
      subst er9
      clear hPc hDc hFc hP1 hD1 hk1 hz1 hvm ht hC9
      generalize H1 = H at hP hS ⊢
      obtain ⟨hP, hD⟩ := (show xPD D A [((a 0), .inr (11, [.ref (ex 0), .ref (a 1), .ref (ex 1), .ref (ex 2), .ref (a 2), .ref (ex 3), .ref (ex 4), .ref (ex 5), .ref (ex 6), .ref (ex 7), .ref (ex 8), .ref (a 4), .ref (ex 9), .ref (ex 10), .int (vi 1)])), ((a 3), .inl (T 1, 9, .inl (fi 0))), ((a 4), .inr (3, [.ref (a 1), .ref (a 2), .int (vi 10), .int (vik_2 1), .int (vik_2 0)])), ((a 1), .inr (7, [.int (vi 2), .int (vi 3), .ref (ex 11), .ref (a 6), .ref (ex 12), .ref (ex 13), .ref (ex 14), .ref (ex 15), .ref (ex 16), .ref (ex 17), .ref (ex 18), .ref (ex 19)])), ((a 2), .inr (2, [.ref (a 1), .int (vi 4), .int (vi 5), .int (vi 6), .int (vi 7), .int (vi 8), .int (vi 9), .ref (a 5), .ref (ex 20), .ref (a 7), .ref (a 3), .ref (ex 21), .ref (ex 22), .ref (ex 23), .ref (ex 24)])), ((a 5), .inl (T 1, 9, .inl (fi 1))), ((a 6), .inl (T 1, 9, .inl (fi 2))), ((a 7), .inl (T 1, 9, .inl (fi 3)))] H from ⟨hP, hD⟩)
      clear hG
      refine lv_goto (tgt := 34) hx hb dX11_least_30 (by decide) ?_
      have hP9 := hP.sub (ws' := [((a 0), .inr (11, [.ref (ex 0), .ref (a 1), .ref (ex 1), .ref (ex 2), .ref (a 2), .ref (ex 3), .ref (ex 4), .ref (ex 5), .ref (ex 6), .ref (ex 7), .ref (ex 8), .ref (a 4), .ref (ex 9), .ref (ex 10), .int (vi 1)])), ((a 1), .inr (7, [.int (vi 2), .int (vi 3), .ref (ex 11), .ref (a 6), .ref (ex 12), .ref (ex 13), .ref (ex 14), .ref (ex 15), .ref (ex 16), .ref (ex 17), .ref (ex 18), .ref (ex 19)])), ((a 2), .inr (2, [.ref (a 1), .int (vi 4), .int (vi 5), .int (vi 6), .int (vi 7), .int (vi 8), .int (vi 9), .ref (a 5), .ref (ex 20), .ref (a 7), .ref (a 3), .ref (ex 21), .ref (ex 22), .ref (ex 23), .ref (ex 24)])), ((a 3), .inl (T 1, 9, .inl (fi 0))), ((a 4), .inr (3, [.ref (a 1), .ref (a 2), .int (vi 10), .int (vik_2 1), .int (vik_2 0)])), ((a 5), .inl (T 1, 9, .inl (fi 1))), ((a 6), .inl (T 1, 9, .inl (fi 2))), ((a 7), .inl (T 1, 9, .inl (fi 3)))]) [0, 3, 4, 1, 2, 5, 6, 7] rfl
      have hD9 := hD.sub (ws' := [((a 0), .inr (11, [.ref (ex 0), .ref (a 1), .ref (ex 1), .ref (ex 2), .ref (a 2), .ref (ex 3), .ref (ex 4), .ref (ex 5), .ref (ex 6), .ref (ex 7), .ref (ex 8), .ref (a 4), .ref (ex 9), .ref (ex 10), .int (vi 1)])), ((a 1), .inr (7, [.int (vi 2), .int (vi 3), .ref (ex 11), .ref (a 6), .ref (ex 12), .ref (ex 13), .ref (ex 14), .ref (ex 15), .ref (ex 16), .ref (ex 17), .ref (ex 18), .ref (ex 19)])), ((a 2), .inr (2, [.ref (a 1), .int (vi 4), .int (vi 5), .int (vi 6), .int (vi 7), .int (vi 8), .int (vi 9), .ref (a 5), .ref (ex 20), .ref (a 7), .ref (a 3), .ref (ex 21), .ref (ex 22), .ref (ex 23), .ref (ex 24)])), ((a 3), .inl (T 1, 9, .inl (fi 0))), ((a 4), .inr (3, [.ref (a 1), .ref (a 2), .int (vi 10), .int (vik_2 1), .int (vik_2 0)])), ((a 5), .inl (T 1, 9, .inl (fi 1))), ((a 6), .inl (T 1, 9, .inl (fi 2))), ((a 7), .inl (T 1, 9, .inl (fi 3)))]) [0, 3, 4, 1, 2, 5, 6, 7] (by decide +kernel) rfl
      rw [hQ]
      exact W.iret (v := rk_2) hx hb hr (fun t ht hW => ⟨⟨rk_2, rk_2, rfl, rfl, xf [], xh [], xv [(vik_2 0), (vik_2 1)], xl [], by rw [ht]; exact hP9, hD9, trivial⟩, hS.F ht⟩) hS.2.2 dX11_least_34
    · refine xz_i 0 er9 ?_
      refine lv_if_eq (tgt := 33) hx hb dX11_least_19 (by decide) (fun _ => ?_) (fun c => absurd (by decide) c)
      refine lv_iconst (v := (-1)) hx hb dX11_least_33 (by decide) ?_
      have hP9 := hP.sub (ws' := [((a 0), .inr (11, [.ref (ex 0), .ref (a 1), .ref (ex 1), .ref (ex 2), .ref (a 2), .ref (ex 3), .ref (ex 4), .ref (ex 5), .ref (ex 6), .ref (ex 7), .ref (ex 8), .ref (a 4), .ref (ex 9), .ref (ex 10), .int (vi 1)])), ((a 1), .inr (7, [.int (vi 2), .int (vi 3), .ref (ex 11), .ref (a 6), .ref (ex 12), .ref (ex 13), .ref (ex 14), .ref (ex 15), .ref (ex 16), .ref (ex 17), .ref (ex 18), .ref (ex 19)])), ((a 2), .inr (2, [.ref (a 1), .int (vi 4), .int (vi 5), .int (vi 6), .int (vi 7), .int (vi 8), .int (vi 9), .ref (a 5), .ref (ex 20), .ref (a 7), .ref (a 3), .ref (ex 21), .ref (ex 22), .ref (ex 23), .ref (ex 24)])), ((a 3), .inl (T 1, 9, .inl (fi 0))), ((a 4), .inr (3, [.ref (a 1), .ref (a 2), .int (vi 10), .int (vi 11), .int (vi 12)])), ((a 5), .inl (T 1, 9, .inl (fi 1))), ((a 6), .inl (T 1, 9, .inl (fi 2))), ((a 7), .inl (T 1, 9, .inl (fi 3)))]) [0, 5, 6, 7, 1, 2, 3, 4] rfl
      have hD9 := hD.sub (ws' := [((a 0), .inr (11, [.ref (ex 0), .ref (a 1), .ref (ex 1), .ref (ex 2), .ref (a 2), .ref (ex 3), .ref (ex 4), .ref (ex 5), .ref (ex 6), .ref (ex 7), .ref (ex 8), .ref (a 4), .ref (ex 9), .ref (ex 10), .int (vi 1)])), ((a 1), .inr (7, [.int (vi 2), .int (vi 3), .ref (ex 11), .ref (a 6), .ref (ex 12), .ref (ex 13), .ref (ex 14), .ref (ex 15), .ref (ex 16), .ref (ex 17), .ref (ex 18), .ref (ex 19)])), ((a 2), .inr (2, [.ref (a 1), .int (vi 4), .int (vi 5), .int (vi 6), .int (vi 7), .int (vi 8), .int (vi 9), .ref (a 5), .ref (ex 20), .ref (a 7), .ref (a 3), .ref (ex 21), .ref (ex 22), .ref (ex 23), .ref (ex 24)])), ((a 3), .inl (T 1, 9, .inl (fi 0))), ((a 4), .inr (3, [.ref (a 1), .ref (a 2), .int (vi 10), .int (vi 11), .int (vi 12)])), ((a 5), .inl (T 1, 9, .inl (fi 1))), ((a 6), .inl (T 1, 9, .inl (fi 2))), ((a 7), .inl (T 1, 9, .inl (fi 3)))]) [0, 5, 6, 7, 1, 2, 3, 4] (by decide +kernel) rfl
      rw [hQ]
      exact W.iret (v := (-1)) hx hb hr (fun t ht hW => ⟨⟨(-1), (-1), rfl, rfl, xf [], xh [], xv [(vi 12), (vi 11)], xl [], by rw [ht]; exact hP9, hD9, trivial⟩, hS.F ht⟩) hS.2.2 dX11_least_34
  · refine xz_i 0 er9 ?_
    refine lv_if_eq (tgt := 33) hx hb dX11_least_8 (by decide) (fun _ => ?_) (fun c => absurd (by decide) c)
    refine lv_iconst (v := (-1)) hx hb dX11_least_33 (by decide) ?_
    have hP9 := hP.sub (ws' := [((a 0), .inr (11, [.ref (ex 0), .ref (a 1), .ref (ex 1), .ref (ex 2), .ref (a 2), .ref (ex 3), .ref (ex 4), .ref (ex 5), .ref (ex 6), .ref (ex 7), .ref (ex 8), .ref (a 4), .ref (ex 9), .ref (ex 10), .int (vi 1)])), ((a 1), .inr (7, [.int (vi 2), .int (vi 3), .ref (ex 11), .ref (a 6), .ref (ex 12), .ref (ex 13), .ref (ex 14), .ref (ex 15), .ref (ex 16), .ref (ex 17), .ref (ex 18), .ref (ex 19)])), ((a 2), .inr (2, [.ref (a 1), .int (vi 4), .int (vi 5), .int (vi 6), .int (vi 7), .int (vi 8), .int (vi 9), .ref (a 5), .ref (ex 20), .ref (a 7), .ref (a 3), .ref (ex 21), .ref (ex 22), .ref (ex 23), .ref (ex 24)])), ((a 3), .inl (T 1, 9, .inl (fi 0))), ((a 4), .inr (3, [.ref (a 1), .ref (a 2), .int (vi 10), .int (vi 11), .int (vi 12)])), ((a 5), .inl (T 1, 9, .inl (fi 1))), ((a 6), .inl (T 1, 9, .inl (fi 2))), ((a 7), .inl (T 1, 9, .inl (fi 3)))]) [0, 7, 1, 2, 3, 4, 5, 6] rfl
    have hD9 := hD.sub (ws' := [((a 0), .inr (11, [.ref (ex 0), .ref (a 1), .ref (ex 1), .ref (ex 2), .ref (a 2), .ref (ex 3), .ref (ex 4), .ref (ex 5), .ref (ex 6), .ref (ex 7), .ref (ex 8), .ref (a 4), .ref (ex 9), .ref (ex 10), .int (vi 1)])), ((a 1), .inr (7, [.int (vi 2), .int (vi 3), .ref (ex 11), .ref (a 6), .ref (ex 12), .ref (ex 13), .ref (ex 14), .ref (ex 15), .ref (ex 16), .ref (ex 17), .ref (ex 18), .ref (ex 19)])), ((a 2), .inr (2, [.ref (a 1), .int (vi 4), .int (vi 5), .int (vi 6), .int (vi 7), .int (vi 8), .int (vi 9), .ref (a 5), .ref (ex 20), .ref (a 7), .ref (a 3), .ref (ex 21), .ref (ex 22), .ref (ex 23), .ref (ex 24)])), ((a 3), .inl (T 1, 9, .inl (fi 0))), ((a 4), .inr (3, [.ref (a 1), .ref (a 2), .int (vi 10), .int (vi 11), .int (vi 12)])), ((a 5), .inl (T 1, 9, .inl (fi 1))), ((a 6), .inl (T 1, 9, .inl (fi 2))), ((a 7), .inl (T 1, 9, .inl (fi 3)))]) [0, 7, 1, 2, 3, 4, 5, 6] (by decide +kernel) rfl
    rw [hQ]
    exact W.iret (v := (-1)) hx hb hr (fun t ht hW => ⟨⟨(-1), (-1), rfl, rfl, xf [], xh [], xv [(vi 12), (vi 11)], xl [], by rw [ht]; exact hP9, hD9, trivial⟩, hS.F ht⟩) hS.2.2 dX11_least_34
abbrev pre_X11_cheapest (T : Nat → ClassId) (a ex : Nat → Nat) (fi : Nat → Nat → Int32) (fl : Nat → Nat → Int64) (vi : Nat → Int32) (vl : Nat → Int64) : va_W := [((a 0), .inr (11, [.ref (ex 0), .ref (ex 1), .ref (ex 2), .ref (ex 3), .ref (ex 4), .ref (ex 5), .ref (ex 6), .ref (ex 7), .ref (ex 8), .ref (ex 9), .ref (ex 10), .ref (a 1), .ref (ex 11), .ref (ex 12), .int (vi 0)])), ((a 1), .inr (3, [.ref (ex 1), .ref (ex 4), .int (vi 1), .int (vi 2), .int (vi 3)]))]
set_option maxHeartbeats 8000000 in
set_option maxRecDepth 100000 in
theorem c_X11_cheapest (l : Launch) (D : va_G) (T : Nat → ClassId) (a ex : Nat → Nat) (fi : Nat → Nat → Int32) (fl : Nat → Nat → Int64) (vi : Nat → Int32) (vl : Nat → Int64) (sz : Nat) : Met l yX11_cheapest (xw yX11_cheapest cX11_cheapest 1 (some .int)) ({ frames := 0, cells := 0, slots := 0, locals := 0 }) (xP D T [.ref (a 0)] sz (pre_X11_cheapest T a ex fi fl vi vl)) (va_Qi (fun r u => r = u) (xC D (va_A (pre_X11_cheapest T a ex fi fl vi vl) sz) (fun fj fm vj vm => [((a 0), .inr (11, [.ref (ex 0), .ref (ex 1), .ref (ex 2), .ref (ex 3), .ref (ex 4), .ref (ex 5), .ref (ex 6), .ref (ex 7), .ref (ex 8), .ref (ex 9), .ref (ex 10), .ref (a 1), .ref (ex 11), .ref (ex 12), .int (vi 0)])), ((a 1), .inr (3, [.ref (ex 1), .ref (ex 4), .int (vi 1), .int (vi 2), .int (vi 3)]))]) (fun (r : Int32) (fj : Nat → Nat → Int32) (fm : Nat → Nat → Int64) (vj : Nat → Int32) (vm : Nat → Int64) => True)) (va_A (pre_X11_cheapest T a ex fi fl vi vl) sz)) 0 0 (va_A (pre_X11_cheapest T a ex fi fl vi vl) sz) := by
  refine xofW (cc := cX11_cheapest) (maxL := 1) (ret := (some .int)) (by decide) rfl ?_
  intro p e s m args below meth c s₁ R Q hR hQ B hml hv
  obtain ⟨rfl, hsz, hP, hK, hD0⟩ := hv
  have hx := B.exec
  have hb := B.bytes
  have hr := B.returns
  have hts := atoms_spec (ws := xw yX11_cheapest cX11_cheapest 1 (some .int)) B.pre
  have htg : ∀ w ∈ xg, w.before _ s = true := fun w h => hts w (List.mem_cons_of_mem _ h)
  have hown : s.vm.findClass RX11 = some m.cls := findClass_of_methodNamed B.named
  have hlocks := B.notSynchronized
  subst hsz
  have hD := hD0.self (sz := s.heap.size)
  generalize hAe : va_A (pre_X11_cheapest T a ex fi fl vi vl) s.heap.size = A at hD hQ
  have hA : ∀ q : Nat, s.heap.size ≤ q → A q := fun q h => by rw [← hAe]; exact Or.inr h
  have hS : va_S A s.heap s.heap [] := va_S.rf
  replace hP : va_P D vwCl [((a 0), .inr (11, [.ref (ex 0), .ref (ex 1), .ref (ex 2), .ref (ex 3), .ref (ex 4), .ref (ex 5), .ref (ex 6), .ref (ex 7), .ref (ex 8), .ref (ex 9), .ref (ex 10), .ref (a 1), .ref (ex 11), .ref (ex 12), .int (vi 0)])), ((a 1), .inr (3, [.ref (ex 1), .ref (ex 4), .int (vi 1), .int (vi 2), .int (vi 3)]))] s.heap := hP
  replace hD : va_D A [((a 0), .inr (11, [.ref (ex 0), .ref (ex 1), .ref (ex 2), .ref (ex 3), .ref (ex 4), .ref (ex 5), .ref (ex 6), .ref (ex 7), .ref (ex 8), .ref (ex 9), .ref (ex 10), .ref (a 1), .ref (ex 11), .ref (ex 12), .int (vi 0)])), ((a 1), .inr (3, [.ref (ex 1), .ref (ex 4), .int (vi 1), .int (vi 2), .int (vi 3)]))] := hD
  have hl := lv_entry ([.ref (a 0)]) (n := 1) (Nat.le_of_ble_eq_true rfl)
  rw [lg_entry_eq]
  generalize (lg_sl ([.ref (a 0)]) ++ List.replicate (1 - (lg_sl ([.ref (a 0)])).length) Slot.unset).toArray = ls at hl ⊢
  replace hl : lv_has ls 1 [(0, .ref (a 0))] := hl
  refine lv_aload_n hx hb dX11_cheapest_0 rfl (lv_at hl 0 rfl) ?_
  refine va_get (D := D) (ci := 11) (v := .ref (a 1)) (C := RX11) (T := TX11) (N := 15) hx hb htg inX11 hown hK.1 hP 0 rfl rfl 11 (by decide) (htg _ kw_507) (fun _ h9 => h9) rfl dX11_cheapest_1 ?_
  refine va_getN (D := D) (ci := 3) (v := .int (vi 3)) (C := RX3) (T := TX3) (N := 5) hx hb htg inX3 hown hK.1 hP 1 rfl rfl 4 (by decide) (va_Nw.use rfl (hK.2.1 _ kn_444)) (fun _ h9 => h9) rfl dX11_cheapest_4 ?_
  have hP9 := hP.sub (ws' := [((a 0), .inr (11, [.ref (ex 0), .ref (ex 1), .ref (ex 2), .ref (ex 3), .ref (ex 4), .ref (ex 5), .ref (ex 6), .ref (ex 7), .ref (ex 8), .ref (ex 9), .ref (ex 10), .ref (a 1), .ref (ex 11), .ref (ex 12), .int (vi 0)])), ((a 1), .inr (3, [.ref (ex 1), .ref (ex 4), .int (vi 1), .int (vi 2), .int (vi 3)]))]) [0, 1] rfl
  have hD9 := hD.sub (ws' := [((a 0), .inr (11, [.ref (ex 0), .ref (ex 1), .ref (ex 2), .ref (ex 3), .ref (ex 4), .ref (ex 5), .ref (ex 6), .ref (ex 7), .ref (ex 8), .ref (ex 9), .ref (ex 10), .ref (a 1), .ref (ex 11), .ref (ex 12), .int (vi 0)])), ((a 1), .inr (3, [.ref (ex 1), .ref (ex 4), .int (vi 1), .int (vi 2), .int (vi 3)]))]) [0, 1] (by decide +kernel) rfl
  rw [hQ]
  exact W.iret (v := (vi 3)) hx hb hr (fun t ht hW => ⟨⟨(vi 3), (vi 3), rfl, rfl, xf [], xh [], xv [], xl [], by rw [ht]; exact hP9, hD9, trivial⟩, hS.F ht⟩) hS.2.2 dX11_cheapest_7
