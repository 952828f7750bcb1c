abbrev pre_X12_sum_2 (T : Nat → ClassId) (a ex : Nat → Nat) (fi : Nat → Nat → Int32) (fl : Nat → Nat → Int64) (vi : Nat → Int32) : va_W := [((a 0), .inr (12, ((.int 0) :: (.ref (ex 0)) :: (.int 0) :: (.int 0) :: (.int 0) :: (.int 0) :: (.ref (a 1)) :: (.ref (ex 1)) :: (.ref (ex 2)) :: (.ref (ex 3)) :: (.ref (ex 4)) :: (.int 0) :: (.int 0) :: (.int 0) :: (.int 0) :: (.int 0) :: (.int 0) :: (.long 0) :: (.int 0) :: (.int 0) :: (.int 0) :: (.ref (ex 5)) :: (.ref (ex 6)) :: (.int 0) :: (.ref (ex 7)) :: (.int (-1)) :: (.int 0) :: (.int 0) :: (.int 0) :: (.int 0) :: (.int 0) :: (.int 0) :: (.ref (ex 8)) :: (.int 0) :: (.ref (ex 9)) :: (.int 0) :: (.int 0) :: (.int 0) :: (.int 0) :: (.int 0) :: (.ref (ex 10)) :: (.ref (ex 11)) :: (.ref (ex 12)) :: (.ref (ex 13)) :: []))), ((a 1), .inl (T 1, 2187, .inl (fun _ => 0)))]
set_option maxHeartbeats 4000000 in
set_option maxRecDepth 100000 in
theorem c_X12_sum_2 (l : Launch) (D : va_G) (T : Nat → ClassId) (a ex : Nat → Nat) (fi : Nat → Nat → Int32) (fl : Nat → Nat → Int64) (vi : Nat → Int32) (sz : Nat) : Met l yX12_sum (xw yX12_sum cX12_sum 4 (some .int)) ({ frames := 0, cells := 0, slots := 0, locals := 0 }) (xP D T [.ref (a 0), .int 188] sz (pre_X12_sum_2 T a ex fi fl vi)) (va_Qi (fun r (_ : Unit) => r = 0) (xB D (va_A (pre_X12_sum_2 T a ex fi fl vi) sz) (fun _ => True) (fun b fj fm vj => [((a 0), .inr (12, ((.int 0) :: (.ref (ex 0)) :: (.int 0) :: (.int 0) :: (.int 0) :: (.int 0) :: (.ref (a 1)) :: (.ref (ex 1)) :: (.ref (ex 2)) :: (.ref (ex 3)) :: (.ref (ex 4)) :: (.int 0) :: (.int 0) :: (.int 0) :: (.int 0) :: (.int 0) :: (.int 0) :: (.long 0) :: (.int 0) :: (.int 0) :: (.int 0) :: (.ref (ex 5)) :: (.ref (ex 6)) :: (.int 0) :: (.ref (ex 7)) :: (.int (-1)) :: (.int 0) :: (.int 0) :: (.int 0) :: (.int 0) :: (.int 0) :: (.int 0) :: (.ref (ex 8)) :: (.int 0) :: (.ref (ex 9)) :: (.int 0) :: (.int 0) :: (.int 0) :: (.int 0) :: (.int 0) :: (.ref (ex 10)) :: (.ref (ex 11)) :: (.ref (ex 12)) :: (.ref (ex 13)) :: []))), ((a 1), .inl (T 1, 2187, .inl (fun _ => 0)))])) (va_A (pre_X12_sum_2 T a ex fi fl vi) sz)) 0 0 (va_A (pre_X12_sum_2 T a ex fi fl vi) sz) := by
  refine xofW (cc := cX12_sum) (maxL := 4) (ret := (some .int)) (by decide) rfl ?_
  intro p e s m args below meth c s₁ R Q hR hQ B hml hv
  obtain ⟨rfl, hsz, hP, hK, hD0⟩ := hv
  have hx := B.exec
  have hb := B.bytes
  have hr := B.returns
  have hts := atoms_spec (ws := xw yX12_sum cX12_sum 4 (some .int)) B.pre
  have htg : ∀ w ∈ xg, w.before _ s = true := fun w h => hts w (List.mem_cons_of_mem _ h)
  have hown : s.vm.findClass RX12 = some m.cls := findClass_of_methodNamed B.named
  have hlocks := B.notSynchronized
  subst hsz
  have hD := hD0.self (sz := s.heap.size)
  generalize hAe : va_A (pre_X12_sum_2 T a ex fi fl vi) s.heap.size = A at hD hQ
  have hA : ∀ q : Nat, s.heap.size ≤ q → A q := fun q h => by rw [← hAe]; exact Or.inr h
  have hS : va_S A s.heap s.heap [] := va_S.rf
  replace hP : va_P D vwCl [((a 0), .inr (12, ((.int 0) :: (.ref (ex 0)) :: (.int 0) :: (.int 0) :: (.int 0) :: (.int 0) :: (.ref (a 1)) :: (.ref (ex 1)) :: (.ref (ex 2)) :: (.ref (ex 3)) :: (.ref (ex 4)) :: (.int 0) :: (.int 0) :: (.int 0) :: (.int 0) :: (.int 0) :: (.int 0) :: (.long 0) :: (.int 0) :: (.int 0) :: (.int 0) :: (.ref (ex 5)) :: (.ref (ex 6)) :: (.int 0) :: (.ref (ex 7)) :: (.int (-1)) :: (.int 0) :: (.int 0) :: (.int 0) :: (.int 0) :: (.int 0) :: (.int 0) :: (.ref (ex 8)) :: (.int 0) :: (.ref (ex 9)) :: (.int 0) :: (.int 0) :: (.int 0) :: (.int 0) :: (.int 0) :: (.ref (ex 10)) :: (.ref (ex 11)) :: (.ref (ex 12)) :: (.ref (ex 13)) :: []))), ((a 1), .inl (T 1, 2187, .inl (fun _ => 0)))] s.heap := hP
  replace hD : va_D A [((a 0), .inr (12, ((.int 0) :: (.ref (ex 0)) :: (.int 0) :: (.int 0) :: (.int 0) :: (.int 0) :: (.ref (a 1)) :: (.ref (ex 1)) :: (.ref (ex 2)) :: (.ref (ex 3)) :: (.ref (ex 4)) :: (.int 0) :: (.int 0) :: (.int 0) :: (.int 0) :: (.int 0) :: (.int 0) :: (.long 0) :: (.int 0) :: (.int 0) :: (.int 0) :: (.ref (ex 5)) :: (.ref (ex 6)) :: (.int 0) :: (.ref (ex 7)) :: (.int (-1)) :: (.int 0) :: (.int 0) :: (.int 0) :: (.int 0) :: (.int 0) :: (.int 0) :: (.ref (ex 8)) :: (.int 0) :: (.ref (ex 9)) :: (.int 0) :: (.int 0) :: (.int 0) :: (.int 0) :: (.int 0) :: (.ref (ex 10)) :: (.ref (ex 11)) :: (.ref (ex 12)) :: (.ref (ex 13)) :: []))), ((a 1), .inl (T 1, 2187, .inl (fun _ => 0)))] := hD
  have hl := lv_entry ([.ref (a 0), .int 188]) (n := 4) (Nat.le_of_ble_eq_true rfl)
  rw [lg_entry_eq]
  generalize (lg_sl ([.ref (a 0), .int 188]) ++ List.replicate (4 - (lg_sl ([.ref (a 0), .int 188])).length) Slot.unset).toArray = ls at hl ⊢
  replace hl : lv_has ls 4 [(0, .ref (a 0)), (1, .int 188)] := hl
  refine lv_iconst (v := 0) hx hb dX12_sum_0 (by decide) ?_
  refine lv_istore_n (lv' := [(2, .int 0), (0, .ref (a 0)), (1, .int 188)]) hx hb dX12_sum_1 rfl hl (by decide) rfl (fun ls hl => ?_)
  refine lv_iconst (v := 0) hx hb dX12_sum_2 (by decide) ?_
  refine lv_istore_n (lv' := [(3, .int 0), (2, .int 0), (0, .ref (a 0)), (1, .int 188)]) hx hb dX12_sum_3 rfl hl (by decide) rfl (fun ls hl => ?_)
  have lp : ∀ (n i : Nat) (H : Heap) (locs : List Loc) (ls : Array Slot), i + n = 9 → va_P D vwCl [((a 0), .inr (12, ((.int 0) :: (.ref (ex 0)) :: (.int 0) :: (.int 0) :: (.int 0) :: (.int 0) :: (.ref (a 1)) :: (.ref (ex 1)) :: (.ref (ex 2)) :: (.ref (ex 3)) :: (.ref (ex 4)) :: (.int 0) :: (.int 0) :: (.int 0) :: (.int 0) :: (.int 0) :: (.int 0) :: (.long 0) :: (.int 0) :: (.int 0) :: (.int 0) :: (.ref (ex 5)) :: (.ref (ex 6)) :: (.int 0) :: (.ref (ex 7)) :: (.int (-1)) :: (.int 0) :: (.int 0) :: (.int 0) :: (.int 0) :: (.int 0) :: (.int 0) :: (.ref (ex 8)) :: (.int 0) :: (.ref (ex 9)) :: (.int 0) :: (.int 0) :: (.int 0) :: (.int 0) :: (.int 0) :: (.ref (ex 10)) :: (.ref (ex 11)) :: (.ref (ex 12)) :: (.ref (ex 13)) :: []))), ((a 1), .inl (T 1, 2187, .inl (fun _ => 0)))] H → va_D A [((a 0), .inr (12, ((.int 0) :: (.ref (ex 0)) :: (.int 0) :: (.int 0) :: (.int 0) :: (.int 0) :: (.ref (a 1)) :: (.ref (ex 1)) :: (.ref (ex 2)) :: (.ref (ex 3)) :: (.ref (ex 4)) :: (.int 0) :: (.int 0) :: (.int 0) :: (.int 0) :: (.int 0) :: (.int 0) :: (.long 0) :: (.int 0) :: (.int 0) :: (.int 0) :: (.ref (ex 5)) :: (.ref (ex 6)) :: (.int 0) :: (.ref (ex 7)) :: (.int (-1)) :: (.int 0) :: (.int 0) :: (.int 0) :: (.int 0) :: (.int 0) :: (.int 0) :: (.ref (ex 8)) :: (.int 0) :: (.ref (ex 9)) :: (.int 0) :: (.int 0) :: (.int 0) :: (.int 0) :: (.int 0) :: (.ref (ex 10)) :: (.ref (ex 11)) :: (.ref (ex 12)) :: (.ref (ex 13)) :: []))), ((a 1), .inl (T 1, 2187, .inl (fun _ => 0)))] → va_S A s.heap H locs → lv_has ls 4 [(3, .int (nI i)), (2, .int 0), (0, .ref (a 0)), (1, .int 188)] → W p l e R s m ([.ref (a 0), .int 188] : List Value).toArray below meth c H locs 0 0 Q (F0 m 4 ls []) := by
    intro n
    induction n with
    | zero =>
      intro i H locs ls hin hP hD hS hl
      obtain rfl : i = 9 := by omega
      replace hl : lv_has ls 4 [(3, .int 9), (2, .int 0), (0, .ref (a 0)), (1, .int 188)] := hl
      refine lv_iload_n hx hb dX12_sum_4 rfl (lv_at hl 0 rfl) ?_
      refine lv_bipush (v := 9) hx hb dX12_sum_5 (by decide) ?_
      refine lv_icmp_ge (tgt := 27) hx hb dX12_sum_7 (by decide) (fun _ => ?_) (fun c => absurd (by decide) c)
      refine lv_iload_n hx hb dX12_sum_27 rfl (lv_at hl 1 rfl) ?_
      have hP9 := hP.sub (ws' := [((a 0), .inr (12, ((.int 0) :: (.ref (ex 0)) :: (.int 0) :: (.int 0) :: (.int 0) :: (.int 0) :: (.ref (a 1)) :: (.ref (ex 1)) :: (.ref (ex 2)) :: (.ref (ex 3)) :: (.ref (ex 4)) :: (.int 0) :: (.int 0) :: (.int 0) :: (.int 0) :: (.int 0) :: (.int 0) :: (.long 0) :: (.int 0) :: (.int 0) :: (.int 0) :: (.ref (ex 5)) :: (.ref (ex 6)) :: (.int 0) :: (.ref (ex 7)) :: (.int (-1)) :: (.int 0) :: (.int 0) :: (.int 0) :: (.int 0) :: (.int 0) :: (.int 0) :: (.ref (ex 8)) :: (.int 0) :: (.ref (ex 9)) :: (.int 0) :: (.int 0) :: (.int 0) :: (.int 0) :: (.int 0) :: (.ref (ex 10)) :: (.ref (ex 11)) :: (.ref (ex 12)) :: (.ref (ex 13)) :: []))), ((a 1), .inl (T 1, 2187, .inl (fun _ => 0)))]) [0, 1] rfl
      have hD9 := hD.sub (ws' := [((a 0), .inr (12, ((.int 0) :: (.ref (ex 0)) :: (.int 0) :: (.int 0) :: (.int 0) :: (.int 0) :: (.ref (a 1)) :: (.ref (ex 1)) :: (.ref (ex 2)) :: (.ref (ex 3)) :: (.ref (ex 4)) :: (.int 0) :: (.int 0) :: (.int 0) :: (.int 0) :: (.int 0) :: (.int 0) :: (.long 0) :: (.int 0) :: (.int 0) :: (.int 0) :: (.ref (ex 5)) :: (.ref (ex 6)) :: (.int 0) :: (.ref (ex 7)) :: (.int (-1)) :: (.int 0) :: (.int 0) :: (.int 0) :: (.int 0) :: (.int 0) :: (.int 0) :: (.ref (ex 8)) :: (.int 0) :: (.ref (ex 9)) :: (.int 0) :: (.int 0) :: (.int 0) :: (.int 0) :: (.int 0) :: (.ref (ex 10)) :: (.ref (ex 11)) :: (.ref (ex 12)) :: (.ref (ex 13)) :: []))), ((a 1), .inl (T 1, 2187, .inl (fun _ => 0)))]) [0, 1] (by decide +kernel) rfl
      rw [hQ]
      exact W.iret (v := 0) hx hb hr (fun t ht hW => ⟨⟨0, (), rfl, rfl, ⟨xa [], xf [], xh [], xv [], by rw [ht]; exact hP9, hD9, trivial⟩⟩, hS.F ht⟩) hS.2.2 dX12_sum_28
    | succ n ih =>
      intro i H locs ls hin hP hD hS hl
      refine lv_iload_n hx hb dX12_sum_4 rfl (lv_at hl 0 rfl) ?_
      refine lv_bipush (v := 9) hx hb dX12_sum_5 (by decide) ?_
      refine lv_icmp_ge (tgt := 27) hx hb dX12_sum_7 (by decide) (fun c => by exfalso; have h9 := xge (k := 9) (by decide) c; have h8 := nI_toInt (n := i) (by omega); omega) (fun _ => ?_)
      refine lv_iload_n hx hb dX12_sum_10 rfl (lv_at hl 1 rfl) ?_
      refine lv_aload_n hx hb dX12_sum_11 rfl (lv_at hl 2 rfl) ?_
      refine va_get (D := D) (ci := 12) (v := .ref (a 1)) (C := RX12) (T := TX12) (N := 44) hx hb htg inX12 hown hK.1 hP 0 rfl rfl 6 (by decide) (htg _ kw_1413) (fun _ h9 => h9) rfl dX12_sum_12 ?_
      refine lv_iload_n hx hb dX12_sum_15 rfl (lv_at hl 3 rfl) ?_
      refine lv_iload_n hx hb dX12_sum_16 rfl (lv_at hl 0 rfl) ?_
      refine lv_iadd hx hb dX12_sum_17 ?_
      refine xz_i (nI (188 + i)) (nI_add (188) (i)) ?_
      refine va_iald hx hb hK.1 hP 1 1 rfl rfl (vp_in_nI (n := 188 + i) (by omega) (by decide)) dX12_sum_18 ?_
      refine xz_i 0 rfl ?_
      refine lv_iadd hx hb dX12_sum_19 ?_
      refine xz_i 0 (by decide) ?_
      refine lv_istore_n (lv' := [(2, .int 0), (3, .int (nI i)), (0, .ref (a 0)), (1, .int 188)]) hx hb dX12_sum_20 rfl hl (by decide) rfl (fun ls hl => ?_)
      refine lv_iinc (v := (nI (i + 1))) (lv' := [(3, .int (nI (i + 1))), (2, .int 0), (0, .ref (a 0)), (1, .int 188)]) hx hb dX12_sum_21 hl (k := 1) rfl (nI_add (i) 1) (by decide) rfl (fun ls hl => ?_)
      refine lv_goto (tgt := 4) hx hb dX12_sum_24 (by decide) ?_
      exact ih (i + 1) _ _ _ (by omega) (hP.sub [0, 1] rfl) (hD.sub [0, 1] (by decide) rfl) hS (lv_sub hl [0, 1, 2, 3] rfl)
  exact lp 9 0 _ _ _ (by omega) hP hD hS hl
abbrev pre_X12_now_6 (T : Nat → ClassId) (a ex : Nat → Nat) (fi : Nat → Nat → Int32) (fl : Nat → Nat → Int64) (vi : Nat → Int32) : va_W := [((a 0), .inr (12, ((.int 0) :: (.ref (ex 0)) :: (.int 0) :: (.int 0) :: (.int 0) :: (.int 0) :: (.ref (a 1)) :: (.ref (ex 1)) :: (.ref (ex 2)) :: (.ref (ex 3)) :: (.ref (ex 4)) :: (.int 0) :: (.int 0) :: (.int 0) :: (.int 0) :: (.int 0) :: (.int 0) :: (.long 0) :: (.int 0) :: (.int 0) :: (.int 0) :: (.ref (ex 5)) :: (.ref (ex 6)) :: (.int 0) :: (.ref (ex 7)) :: (.int (-1)) :: (.int 0) :: (.int 0) :: (.int 0) :: (.int 0) :: (.int 0) :: (.int 0) :: (.ref (ex 8)) :: (.int 0) :: (.ref (ex 9)) :: (.int 0) :: (.int 0) :: (.int 0) :: (.int 0) :: (.int 0) :: (.ref (ex 10)) :: (.ref (ex 11)) :: (.ref (ex 12)) :: (.ref (ex 13)) :: []))), ((a 1), .inl (T 1, 2187, .inl (fun _ => 0)))]
set_option maxHeartbeats 4000000 in
set_option maxRecDepth 100000 in
theorem c_X12_now_6 (l : Launch) (D : va_G) (T : Nat → ClassId) (a ex : Nat → Nat) (fi : Nat → Nat → Int32) (fl : Nat → Nat → Int64) (vi : Nat → Int32) (sz : Nat) : Met l yX12_now (xw yX12_now cX12_now 2 (some .int)) ({ frames := 1, cells := 0, slots := 0, locals := 27 }) (xP D T [.ref (a 0), .int 5] sz (pre_X12_now_6 T a ex fi fl vi)) (va_Qi (fun r (_ : Unit) => r = 0) (xB D (va_A (pre_X12_now_6 T a ex fi fl vi) sz) (fun _ => True) (fun b fj fm vj => [])) (va_A (pre_X12_now_6 T a ex fi fl vi) sz)) 0 0 (va_A (pre_X12_now_6 T a ex fi fl vi) sz) := by
  refine xofW (cc := cX12_now) (maxL := 2) (ret := (some .int)) (by decide) rfl ?_
  intro p e s m args below meth c s₁ R Q hR hQ B hml hv
  obtain ⟨rfl, hsz, hP, hK, hD0⟩ := hv
  have hx := B.exec
  have hb := B.bytes
  have hr := B.returns
  have hts := atoms_spec (ws := xw yX12_now cX12_now 2 (some .int)) B.pre
  have htg : ∀ w ∈ xg, w.before _ s = true := fun w h => hts w (List.mem_cons_of_mem _ h)
  have hown : s.vm.findClass RX12 = some m.cls := findClass_of_methodNamed B.named
  have hlocks := B.notSynchronized
  subst hsz
  have hD := hD0.self (sz := s.heap.size)
  generalize hAe : va_A (pre_X12_now_6 T a ex fi fl vi) s.heap.size = A at hD hQ
  have hA : ∀ q : Nat, s.heap.size ≤ q → A q := fun q h => by rw [← hAe]; exact Or.inr h
  have hS : va_S A s.heap s.heap [] := va_S.rf
  replace hP : va_P D vwCl [((a 0), .inr (12, ((.int 0) :: (.ref (ex 0)) :: (.int 0) :: (.int 0) :: (.int 0) :: (.int 0) :: (.ref (a 1)) :: (.ref (ex 1)) :: (.ref (ex 2)) :: (.ref (ex 3)) :: (.ref (ex 4)) :: (.int 0) :: (.int 0) :: (.int 0) :: (.int 0) :: (.int 0) :: (.int 0) :: (.long 0) :: (.int 0) :: (.int 0) :: (.int 0) :: (.ref (ex 5)) :: (.ref (ex 6)) :: (.int 0) :: (.ref (ex 7)) :: (.int (-1)) :: (.int 0) :: (.int 0) :: (.int 0) :: (.int 0) :: (.int 0) :: (.int 0) :: (.ref (ex 8)) :: (.int 0) :: (.ref (ex 9)) :: (.int 0) :: (.int 0) :: (.int 0) :: (.int 0) :: (.int 0) :: (.ref (ex 10)) :: (.ref (ex 11)) :: (.ref (ex 12)) :: (.ref (ex 13)) :: []))), ((a 1), .inl (T 1, 2187, .inl (fun _ => 0)))] s.heap := hP
  replace hD : va_D A [((a 0), .inr (12, ((.int 0) :: (.ref (ex 0)) :: (.int 0) :: (.int 0) :: (.int 0) :: (.int 0) :: (.ref (a 1)) :: (.ref (ex 1)) :: (.ref (ex 2)) :: (.ref (ex 3)) :: (.ref (ex 4)) :: (.int 0) :: (.int 0) :: (.int 0) :: (.int 0) :: (.int 0) :: (.int 0) :: (.long 0) :: (.int 0) :: (.int 0) :: (.int 0) :: (.ref (ex 5)) :: (.ref (ex 6)) :: (.int 0) :: (.ref (ex 7)) :: (.int (-1)) :: (.int 0) :: (.int 0) :: (.int 0) :: (.int 0) :: (.int 0) :: (.int 0) :: (.ref (ex 8)) :: (.int 0) :: (.ref (ex 9)) :: (.int 0) :: (.int 0) :: (.int 0) :: (.int 0) :: (.int 0) :: (.ref (ex 10)) :: (.ref (ex 11)) :: (.ref (ex 12)) :: (.ref (ex 13)) :: []))), ((a 1), .inl (T 1, 2187, .inl (fun _ => 0)))] := hD
  have hl := lv_entry ([.ref (a 0), .int 5]) (n := 2) (Nat.le_of_ble_eq_true rfl)
  rw [lg_entry_eq]
  generalize (lg_sl ([.ref (a 0), .int 5]) ++ List.replicate (2 - (lg_sl ([.ref (a 0), .int 5])).length) Slot.unset).toArray = ls at hl ⊢
  replace hl : lv_has ls 2 [(0, .ref (a 0)), (1, .int 5)] := hl
  refine lv_aload_n hx hb dX12_now_0 rfl (lv_at hl 0 rfl) ?_
  refine lv_iconst (v := 0) hx hb dX12_now_1 (by decide) ?_
  refine va_put (D := D) (ci := 12) (v := .int 0) (ty := .int) (C := RX12) (T := TX12) (N := 44) hx hb htg inX12 tyX12 tyX12_ok nmX12 hown hK.1 hP hD hS 0 rfl rfl 0 (by decide) (htg _ kw_1407) (fun _ h9 => h9) rfl (by decide +kernel) rfl rfl (Nat.le_of_ble_eq_true rfl) dX12_now_2 (fun H locs hP hD hS => ?_)
  replace hP : va_P D vwCl [((a 0), .inr (12, ((.int 0) :: (.ref (ex 0)) :: (.int 0) :: (.int 0) :: (.int 0) :: (.int 0) :: (.ref (a 1)) :: (.ref (ex 1)) :: (.ref (ex 2)) :: (.ref (ex 3)) :: (.ref (ex 4)) :: (.int 0) :: (.int 0) :: (.int 0) :: (.int 0) :: (.int 0) :: (.int 0) :: (.long 0) :: (.int 0) :: (.int 0) :: (.int 0) :: (.ref (ex 5)) :: (.ref (ex 6)) :: (.int 0) :: (.ref (ex 7)) :: (.int (-1)) :: (.int 0) :: (.int 0) :: (.int 0) :: (.int 0) :: (.int 0) :: (.int 0) :: (.ref (ex 8)) :: (.int 0) :: (.ref (ex 9)) :: (.int 0) :: (.int 0) :: (.int 0) :: (.int 0) :: (.int 0) :: (.ref (ex 10)) :: (.ref (ex 11)) :: (.ref (ex 12)) :: (.ref (ex 13)) :: []))), ((a 1), .inl (T 1, 2187, .inl (fun _ => 0)))] H := hP
  replace hD : va_D A [((a 0), .inr (12, ((.int 0) :: (.ref (ex 0)) :: (.int 0) :: (.int 0) :: (.int 0) :: (.int 0) :: (.ref (a 1)) :: (.ref (ex 1)) :: (.ref (ex 2)) :: (.ref (ex 3)) :: (.ref (ex 4)) :: (.int 0) :: (.int 0) :: (.int 0) :: (.int 0) :: (.int 0) :: (.int 0) :: (.long 0) :: (.int 0) :: (.int 0) :: (.int 0) :: (.ref (ex 5)) :: (.ref (ex 6)) :: (.int 0) :: (.ref (ex 7)) :: (.int (-1)) :: (.int 0) :: (.int 0) :: (.int 0) :: (.int 0) :: (.int 0) :: (.int 0) :: (.ref (ex 8)) :: (.int 0) :: (.ref (ex 9)) :: (.int 0) :: (.int 0) :: (.int 0) :: (.int 0) :: (.int 0) :: (.ref (ex 10)) :: (.ref (ex 11)) :: (.ref (ex 12)) :: (.ref (ex 13)) :: []))), ((a 1), .inl (T 1, 2187, .inl (fun _ => 0)))] := hD
  refine lv_iload_n hx hb dX12_now_5 rfl (lv_at hl 1 rfl) ?_
  refine lv_tableIn (off := 95) (tgt := 101) hx hb dX12_now_6 (by decide) (by decide) (by decide) (by decide) ?_
  refine lv_aload_n hx hb dX12_now_101 rfl (lv_at hl 0 rfl) ?_
  refine lv_sipush (v := 188) hx hb dX12_now_102 (by decide) ?_
  have hPc := hP.sub (ws' := (pre_X12_sum_2 T (xa [(a 0), (a 1)]) (xa [(ex 0), (ex 1), (ex 2), (ex 3), (ex 4), (ex 5), (ex 6), (ex 7), (ex 8), (ex 9), (ex 10), (ex 11), (ex 12), (ex 13)]) (xf []) (xh []) (xv []))) [0, 1] rfl
  have hDc := hD.sub (ws' := (pre_X12_sum_2 T (xa [(a 0), (a 1)]) (xa [(ex 0), (ex 1), (ex 2), (ex 3), (ex 4), (ex 5), (ex 6), (ex 7), (ex 8), (ex 9), (ex 10), (ex 11), (ex 12), (ex 13)]) (xf []) (xh []) (xv []))) [0, 1] (by decide) rfl
  have hFc := va_free (wc := (pre_X12_sum_2 T (xa [(a 0), (a 1)]) (xa [(ex 0), (ex 1), (ex 2), (ex 3), (ex 4), (ex 5), (ex 6), (ex 7), (ex 8), (ex 9), (ex 10), (ex 11), (ex 12), (ex 13)]) (xf []) (xh []) (xv []))) hD hS hA [0, 1] rfl
  refine va_calli (va_runV (As := [.int 188]) (rest := []) ⟨hx, hb, hml, hown, htg⟩ (c_X12_sum_2 l D T (xa [(a 0), (a 1)]) (xa [(ex 0), (ex 1), (ex 2), (ex 3), (ex 4), (ex 5), (ex 6), (ex 7), (ex 8), (ex 9), (ex 10), (ex 11), (ex 12), (ex 13)]) (xf []) (xh []) (xv []) H.size) ⟨callB_of 1 htg (xg_ok kw_1680) rfl rfl rfl (htg _ kw_17) (htg _ kw_1677) (by decide +kernel) ⟨by rw [hR]; exact Nat.le_of_ble_eq_true rfl, by rw [hR]; exact Nat.le_of_ble_eq_true rfl⟩, htg _ kw_1679, htg _ ks_140⟩ (xpreV hK hPc hDc (va_recv hK.1 hPc (ci := 12) (q0 := 0) rfl rfl)) rfl rfl hl.1 rfl (lv_room (Nat.le_of_ble_eq_true rfl)) dX12_now_105 ⟨by rw [hR]; exact Nat.le_of_ble_eq_true rfl, by rw [hR]; exact Nat.le_of_ble_eq_true rfl⟩) hS (fun q _ h => hFc q h) hFc (fun r9 u t H1 locs ht hvm hw hB hz1 hk1 hS => ?_)
  obtain ⟨bk, fik, flk, vik, hP1, hD1, hGk⟩ := hB
  rw [ht] at hP1
  obtain ⟨hP, hD⟩ := va_join (wr := []) (w1 := [((a 0), .inr (12, ((.int 0) :: (.ref (ex 0)) :: (.int 0) :: (.int 0) :: (.int 0) :: (.int 0) :: (.ref (a 1)) :: (.ref (ex 1)) :: (.ref (ex 2)) :: (.ref (ex 3)) :: (.ref (ex 4)) :: (.int 0) :: (.int 0) :: (.int 0) :: (.int 0) :: (.int 0) :: (.int 0) :: (.long 0) :: (.int 0) :: (.int 0) :: (.int 0) :: (.ref (ex 5)) :: (.ref (ex 6)) :: (.int 0) :: (.ref (ex 7)) :: (.int (-1)) :: (.int 0) :: (.int 0) :: (.int 0) :: (.int 0) :: (.int 0) :: (.int 0) :: (.ref (ex 8)) :: (.int 0) :: (.ref (ex 9)) :: (.int 0) :: (.int 0) :: (.int 0) :: (.int 0) :: (.int 0) :: (.ref (ex 10)) :: (.ref (ex 11)) :: (.ref (ex 12)) :: (.ref (ex 13)) :: []))), ((a 1), .inl (T 1, 2187, .inl (fun _ => 0)))]) hP hD [0, 1] [] rfl rfl (by decide) (by decide) hk1 hFc hP1 hD1
  subst hw
  clear hPc hDc hFc hP1 hD1 hk1 hz1 hvm ht
  generalize H1 = H at hP hS ⊢
  replace hP : va_P D vwCl [((a 0), .inr (12, ((.int 0) :: (.ref (ex 0)) :: (.int 0) :: (.int 0) :: (.int 0) :: (.int 0) :: (.ref (a 1)) :: (.ref (ex 1)) :: (.ref (ex 2)) :: (.ref (ex 3)) :: (.ref (ex 4)) :: (.int 0) :: (.int 0) :: (.int 0) :: (.int 0) :: (.int 0) :: (.int 0) :: (.long 0) :: (.int 0) :: (.int 0) :: (.int 0) :: (.ref (ex 5)) :: (.ref (ex 6)) :: (.int 0) :: (.ref (ex 7)) :: (.int (-1)) :: (.int 0) :: (.int 0) :: (.int 0) :: (.int 0) :: (.int 0) :: (.int 0) :: (.ref (ex 8)) :: (.int 0) :: (.ref (ex 9)) :: (.int 0) :: (.int 0) :: (.int 0) :: (.int 0) :: (.int 0) :: (.ref (ex 10)) :: (.ref (ex 11)) :: (.ref (ex 12)) :: (.ref (ex 13)) :: []))), ((a 1), .inl (T 1, 2187, .inl (fun _ => 0)))] H := hP
  replace hD : va_D A [((a 0), .inr (12, ((.int 0) :: (.ref (ex 0)) :: (.int 0) :: (.int 0) :: (.int 0) :: (.int 0) :: (.ref (a 1)) :: (.ref (ex 1)) :: (.ref (ex 2)) :: (.ref (ex 3)) :: (.ref (ex 4)) :: (.int 0) :: (.int 0) :: (.int 0) :: (.int 0) :: (.int 0) :: (.int 0) :: (.long 0) :: (.int 0) :: (.int 0) :: (.int 0) :: (.ref (ex 5)) :: (.ref (ex 6)) :: (.int 0) :: (.ref (ex 7)) :: (.int (-1)) :: (.int 0) :: (.int 0) :: (.int 0) :: (.int 0) :: (.int 0) :: (.int 0) :: (.ref (ex 8)) :: (.int 0) :: (.ref (ex 9)) :: (.int 0) :: (.int 0) :: (.int 0) :: (.int 0) :: (.int 0) :: (.ref (ex 10)) :: (.ref (ex 11)) :: (.ref (ex 12)) :: (.ref (ex 13)) :: []))), ((a 1), .inl (T 1, 2187, .inl (fun _ => 0)))] := hD
  have hP9 := hP.sub (ws' := []) [] rfl
  have hD9 := hD.sub (ws' := []) [] (by decide) rfl
  rw [hQ]
  exact W.iret (v := 0) hx hb hr (fun t ht hW => ⟨⟨0, (), rfl, rfl, ⟨xa [], xf [], xh [], xv [], by rw [ht]; exact hP9, hD9, trivial⟩⟩, hS.F ht⟩) hS.2.2 dX12_now_108
abbrev pre_X12_now_7 (T : Nat → ClassId) (a ex : Nat → Nat) (fi : Nat → Nat → Int32) (fl : Nat → Nat → Int64) (vi : Nat → Int32) : va_W := [((a 0), .inr (12, ((.int 0) :: (.ref (ex 0)) :: (.int 0) :: (.int 0) :: (.int 0) :: (.int 0) :: (.ref (a 1)) :: (.ref (ex 1)) :: (.ref (ex 2)) :: (.ref (ex 3)) :: (.ref (ex 4)) :: (.int 0) :: (.int 0) :: (.int 0) :: (.int 0) :: (.int 0) :: (.int 0) :: (.long 0) :: (.int 0) :: (.int 0) :: (.int 0) :: (.ref (ex 5)) :: (.ref (ex 6)) :: (.int 0) :: (.ref (ex 7)) :: (.int (-1)) :: (.int 0) :: (.int 0) :: (.int 0) :: (.int 0) :: (.int 0) :: (.int 0) :: (.ref (ex 8)) :: (.int 0) :: (.ref (ex 9)) :: (.int 0) :: (.int 0) :: (.int 0) :: (.int 0) :: (.int 0) :: (.ref (ex 10)) :: (.ref (ex 11)) :: (.ref (ex 12)) :: (.ref (ex 13)) :: []))), ((a 1), .inl (T 1, 2187, .inl (fun _ => 0)))]
set_option maxHeartbeats 4000000 in
set_option maxRecDepth 100000 in
theorem c_X12_now_7 (l : Launch) (D : va_G) (T : Nat → ClassId) (a ex : Nat → Nat) (fi : Nat → Nat → Int32) (fl : Nat → Nat → Int64) (vi : Nat → Int32) (sz : Nat) : Met l yX12_now (xw yX12_now cX12_now 2 (some .int)) ({ frames := 0, cells := 0, slots := 0, locals := 0 }) (xP D T [.ref (a 0), .int 6] sz (pre_X12_now_7 T a ex fi fl vi)) (va_Qi (fun r (_ : Unit) => r = 0) (xB D (va_A (pre_X12_now_7 T a ex fi fl vi) sz) (fun _ => True) (fun b fj fm vj => [])) (va_A (pre_X12_now_7 T a ex fi fl vi) sz)) 0 0 (va_A (pre_X12_now_7 T a ex fi fl vi) sz) := by
  refine xofW (cc := cX12_now) (maxL := 2) (ret := (some .int)) (by decide) rfl ?_
  intro p e s m args below meth c s₁ R Q hR hQ B hml hv
  obtain ⟨rfl, hsz, hP, hK, hD0⟩ := hv
  have hx := B.exec
  have hb := B.bytes
  have hr := B.returns
  have hts := atoms_spec (ws := xw yX12_now cX12_now 2 (some .int)) B.pre
  have htg : ∀ w ∈ xg, w.before _ s = true := fun w h => hts w (List.mem_cons_of_mem _ h)
  have hown : s.vm.findClass RX12 = some m.cls := findClass_of_methodNamed B.named
  have hlocks := B.notSynchronized
  subst hsz
  have hD := hD0.self (sz := s.heap.size)
  generalize hAe : va_A (pre_X12_now_7 T a ex fi fl vi) s.heap.size = A at hD hQ
  have hA : ∀ q : Nat, s.heap.size ≤ q → A q := fun q h => by rw [← hAe]; exact Or.inr h
  have hS : va_S A s.heap s.heap [] := va_S.rf
  replace hP : va_P D vwCl [((a 0), .inr (12, ((.int 0) :: (.ref (ex 0)) :: (.int 0) :: (.int 0) :: (.int 0) :: (.int 0) :: (.ref (a 1)) :: (.ref (ex 1)) :: (.ref (ex 2)) :: (.ref (ex 3)) :: (.ref (ex 4)) :: (.int 0) :: (.int 0) :: (.int 0) :: (.int 0) :: (.int 0) :: (.int 0) :: (.long 0) :: (.int 0) :: (.int 0) :: (.int 0) :: (.ref (ex 5)) :: (.ref (ex 6)) :: (.int 0) :: (.ref (ex 7)) :: (.int (-1)) :: (.int 0) :: (.int 0) :: (.int 0) :: (.int 0) :: (.int 0) :: (.int 0) :: (.ref (ex 8)) :: (.int 0) :: (.ref (ex 9)) :: (.int 0) :: (.int 0) :: (.int 0) :: (.int 0) :: (.int 0) :: (.ref (ex 10)) :: (.ref (ex 11)) :: (.ref (ex 12)) :: (.ref (ex 13)) :: []))), ((a 1), .inl (T 1, 2187, .inl (fun _ => 0)))] s.heap := hP
  replace hD : va_D A [((a 0), .inr (12, ((.int 0) :: (.ref (ex 0)) :: (.int 0) :: (.int 0) :: (.int 0) :: (.int 0) :: (.ref (a 1)) :: (.ref (ex 1)) :: (.ref (ex 2)) :: (.ref (ex 3)) :: (.ref (ex 4)) :: (.int 0) :: (.int 0) :: (.int 0) :: (.int 0) :: (.int 0) :: (.int 0) :: (.long 0) :: (.int 0) :: (.int 0) :: (.int 0) :: (.ref (ex 5)) :: (.ref (ex 6)) :: (.int 0) :: (.ref (ex 7)) :: (.int (-1)) :: (.int 0) :: (.int 0) :: (.int 0) :: (.int 0) :: (.int 0) :: (.int 0) :: (.ref (ex 8)) :: (.int 0) :: (.ref (ex 9)) :: (.int 0) :: (.int 0) :: (.int 0) :: (.int 0) :: (.int 0) :: (.ref (ex 10)) :: (.ref (ex 11)) :: (.ref (ex 12)) :: (.ref (ex 13)) :: []))), ((a 1), .inl (T 1, 2187, .inl (fun _ => 0)))] := hD
  have hl := lv_entry ([.ref (a 0), .int 6]) (n := 2) (Nat.le_of_ble_eq_true rfl)
  rw [lg_entry_eq]
  generalize (lg_sl ([.ref (a 0), .int 6]) ++ List.replicate (2 - (lg_sl ([.ref (a 0), .int 6])).length) Slot.unset).toArray = ls at hl ⊢
  replace hl : lv_has ls 2 [(0, .ref (a 0)), (1, .int 6)] := hl
  refine lv_aload_n hx hb dX12_now_0 rfl (lv_at hl 0 rfl) ?_
  refine lv_iconst (v := 0) hx hb dX12_now_1 (by decide) ?_
  refine va_put (D := D) (ci := 12) (v := .int 0) (ty := .int) (C := RX12) (T := TX12) (N := 44) hx hb htg inX12 tyX12 tyX12_ok nmX12 hown hK.1 hP hD hS 0 rfl rfl 0 (by decide) (htg _ kw_1407) (fun _ h9 => h9) rfl (by decide +kernel) rfl rfl (Nat.le_of_ble_eq_true rfl) dX12_now_2 (fun H locs hP hD hS => ?_)
  replace hP : va_P D vwCl [((a 0), .inr (12, ((.int 0) :: (.ref (ex 0)) :: (.int 0) :: (.int 0) :: (.int 0) :: (.int 0) :: (.ref (a 1)) :: (.ref (ex 1)) :: (.ref (ex 2)) :: (.ref (ex 3)) :: (.ref (ex 4)) :: (.int 0) :: (.int 0) :: (.int 0) :: (.int 0) :: (.int 0) :: (.int 0) :: (.long 0) :: (.int 0) :: (.int 0) :: (.int 0) :: (.ref (ex 5)) :: (.ref (ex 6)) :: (.int 0) :: (.ref (ex 7)) :: (.int (-1)) :: (.int 0) :: (.int 0) :: (.int 0) :: (.int 0) :: (.int 0) :: (.int 0) :: (.ref (ex 8)) :: (.int 0) :: (.ref (ex 9)) :: (.int 0) :: (.int 0) :: (.int 0) :: (.int 0) :: (.int 0) :: (.ref (ex 10)) :: (.ref (ex 11)) :: (.ref (ex 12)) :: (.ref (ex 13)) :: []))), ((a 1), .inl (T 1, 2187, .inl (fun _ => 0)))] H := hP
  replace hD : va_D A [((a 0), .inr (12, ((.int 0) :: (.ref (ex 0)) :: (.int 0) :: (.int 0) :: (.int 0) :: (.int 0) :: (.ref (a 1)) :: (.ref (ex 1)) :: (.ref (ex 2)) :: (.ref (ex 3)) :: (.ref (ex 4)) :: (.int 0) :: (.int 0) :: (.int 0) :: (.int 0) :: (.int 0) :: (.int 0) :: (.long 0) :: (.int 0) :: (.int 0) :: (.int 0) :: (.ref (ex 5)) :: (.ref (ex 6)) :: (.int 0) :: (.ref (ex 7)) :: (.int (-1)) :: (.int 0) :: (.int 0) :: (.int 0) :: (.int 0) :: (.int 0) :: (.int 0) :: (.ref (ex 8)) :: (.int 0) :: (.ref (ex 9)) :: (.int 0) :: (.int 0) :: (.int 0) :: (.int 0) :: (.int 0) :: (.ref (ex 10)) :: (.ref (ex 11)) :: (.ref (ex 12)) :: (.ref (ex 13)) :: []))), ((a 1), .inl (T 1, 2187, .inl (fun _ => 0)))] := hD
  refine lv_iload_n hx hb dX12_now_5 rfl (lv_at hl 1 rfl) ?_
  refine lv_tableIn (off := 103) (tgt := 109) hx hb dX12_now_6 (by decide) (by decide) (by decide) (by decide) ?_
  refine lv_aload_n hx hb dX12_now_109 rfl (lv_at hl 0 rfl) ?_
  refine va_get (D := D) (ci := 12) (v := .ref (a 1)) (C := RX12) (T := TX12) (N := 44) hx hb htg inX12 hown hK.1 hP 0 rfl rfl 6 (by decide) (htg _ kw_1413) (fun _ h9 => h9) rfl dX12_now_110 ?_
  refine lv_sipush (v := 150) hx hb dX12_now_113 (by decide) ?_
  refine va_iald hx hb hK.1 hP 1 1 rfl rfl (vp_in_nI (n := 150) (by decide) (by decide)) dX12_now_116 ?_
  refine xz_i 0 rfl ?_
  have hP9 := hP.sub (ws' := []) [] rfl
  have hD9 := hD.sub (ws' := []) [] (by decide) rfl
  rw [hQ]
  exact W.iret (v := 0) hx hb hr (fun t ht hW => ⟨⟨0, (), rfl, rfl, ⟨xa [], xf [], xh [], xv [], by rw [ht]; exact hP9, hD9, trivial⟩⟩, hS.F ht⟩) hS.2.2 dX12_now_117
abbrev pre_X12_now_8 (T : Nat → ClassId) (a ex : Nat → Nat) (fi : Nat → Nat → Int32) (fl : Nat → Nat → Int64) (vi : Nat → Int32) : va_W := [((a 0), .inr (12, ((.int 0) :: (.ref (ex 0)) :: (.int 0) :: (.int 0) :: (.int 0) :: (.int 0) :: (.ref (ex 1)) :: (.ref (ex 2)) :: (.ref (ex 3)) :: (.ref (ex 4)) :: (.ref (ex 5)) :: (.int 0) :: (.int 0) :: (.int 0) :: (.int 0) :: (.int 0) :: (.int 0) :: (.long 0) :: (.int 0) :: (.int 0) :: (.int 0) :: (.ref (ex 6)) :: (.ref (ex 7)) :: (.int 0) :: (.ref (ex 8)) :: (.int (-1)) :: (.int 0) :: (.int 0) :: (.int 0) :: (.int 0) :: (.int 0) :: (.int 0) :: (.ref (ex 9)) :: (.int 0) :: (.ref (ex 10)) :: (.int 0) :: (.int 0) :: (.int 0) :: (.int 0) :: (.int 0) :: (.ref (ex 11)) :: (.ref (ex 12)) :: (.ref (ex 13)) :: (.ref (ex 14)) :: [])))]
set_option maxHeartbeats 4000000 in
set_option maxRecDepth 100000 in
theorem c_X12_now_8 (l : Launch) (D : va_G) (T : Nat → ClassId) (a ex : Nat → Nat) (fi : Nat → Nat → Int32) (fl : Nat → Nat → Int64) (vi : Nat → Int32) (sz : Nat) (hd0 : (vi 0).toInt ≤ -1 ∨ 7 ≤ (vi 0).toInt) : Met l yX12_now (xw yX12_now cX12_now 2 (some .int)) ({ frames := 0, cells := 0, slots := 0, locals := 0 }) (xP D T [.ref (a 0), .int (vi 0)] sz (pre_X12_now_8 T a ex fi fl vi)) (va_Qi (fun r (_ : Unit) => r = (-1)) (xB D (va_A (pre_X12_now_8 T a ex fi fl vi) sz) (fun _ => True) (fun b fj fm vj => [])) (va_A (pre_X12_now_8 T a ex fi fl vi) sz)) 0 0 (va_A (pre_X12_now_8 T a ex fi fl vi) sz) := by
  refine xofW (cc := cX12_now) (maxL := 2) (ret := (some .int)) (by decide) rfl ?_
  intro p e s m args below meth c s₁ R Q hR hQ B hml hv
  obtain ⟨rfl, hsz, hP, hK, hD0⟩ := hv
  have hx := B.exec
  have hb := B.bytes
  have hr := B.returns
  have hts := atoms_spec (ws := xw yX12_now cX12_now 2 (some .int)) B.pre
  have htg : ∀ w ∈ xg, w.before _ s = true := fun w h => hts w (List.mem_cons_of_mem _ h)
  have hown : s.vm.findClass RX12 = some m.cls := findClass_of_methodNamed B.named
  have hlocks := B.notSynchronized
  subst hsz
  have hD := hD0.self (sz := s.heap.size)
  generalize hAe : va_A (pre_X12_now_8 T a ex fi fl vi) s.heap.size = A at hD hQ
  have hA : ∀ q : Nat, s.heap.size ≤ q → A q := fun q h => by rw [← hAe]; exact Or.inr h
  have hS : va_S A s.heap s.heap [] := va_S.rf
  replace hP : va_P D vwCl [((a 0), .inr (12, ((.int 0) :: (.ref (ex 0)) :: (.int 0) :: (.int 0) :: (.int 0) :: (.int 0) :: (.ref (ex 1)) :: (.ref (ex 2)) :: (.ref (ex 3)) :: (.ref (ex 4)) :: (.ref (ex 5)) :: (.int 0) :: (.int 0) :: (.int 0) :: (.int 0) :: (.int 0) :: (.int 0) :: (.long 0) :: (.int 0) :: (.int 0) :: (.int 0) :: (.ref (ex 6)) :: (.ref (ex 7)) :: (.int 0) :: (.ref (ex 8)) :: (.int (-1)) :: (.int 0) :: (.int 0) :: (.int 0) :: (.int 0) :: (.int 0) :: (.int 0) :: (.ref (ex 9)) :: (.int 0) :: (.ref (ex 10)) :: (.int 0) :: (.int 0) :: (.int 0) :: (.int 0) :: (.int 0) :: (.ref (ex 11)) :: (.ref (ex 12)) :: (.ref (ex 13)) :: (.ref (ex 14)) :: [])))] s.heap := hP
  replace hD : va_D A [((a 0), .inr (12, ((.int 0) :: (.ref (ex 0)) :: (.int 0) :: (.int 0) :: (.int 0) :: (.int 0) :: (.ref (ex 1)) :: (.ref (ex 2)) :: (.ref (ex 3)) :: (.ref (ex 4)) :: (.ref (ex 5)) :: (.int 0) :: (.int 0) :: (.int 0) :: (.int 0) :: (.int 0) :: (.int 0) :: (.long 0) :: (.int 0) :: (.int 0) :: (.int 0) :: (.ref (ex 6)) :: (.ref (ex 7)) :: (.int 0) :: (.ref (ex 8)) :: (.int (-1)) :: (.int 0) :: (.int 0) :: (.int 0) :: (.int 0) :: (.int 0) :: (.int 0) :: (.ref (ex 9)) :: (.int 0) :: (.ref (ex 10)) :: (.int 0) :: (.int 0) :: (.int 0) :: (.int 0) :: (.int 0) :: (.ref (ex 11)) :: (.ref (ex 12)) :: (.ref (ex 13)) :: (.ref (ex 14)) :: [])))] := hD
  have hl := lv_entry ([.ref (a 0), .int (vi 0)]) (n := 2) (Nat.le_of_ble_eq_true rfl)
  rw [lg_entry_eq]
  generalize (lg_sl ([.ref (a 0), .int (vi 0)]) ++ List.replicate (2 - (lg_sl ([.ref (a 0), .int (vi 0)])).length) Slot.unset).toArray = ls at hl ⊢
  replace hl : lv_has ls 2 [(0, .ref (a 0)), (1, .int (vi 0))] := hl
  refine lv_aload_n hx hb dX12_now_0 rfl (lv_at hl 0 rfl) ?_
  refine lv_iconst (v := 0) hx hb dX12_now_1 (by decide) ?_
  refine va_put (D := D) (ci := 12) (v := .int 0) (ty := .int) (C := RX12) (T := TX12) (N := 44) hx hb htg inX12 tyX12 tyX12_ok nmX12 hown hK.1 hP hD hS 0 rfl rfl 0 (by decide) (htg _ kw_1407) (fun _ h9 => h9) rfl (by decide +kernel) rfl rfl (Nat.le_of_ble_eq_true rfl) dX12_now_2 (fun H locs hP hD hS => ?_)
  replace hP : va_P D vwCl [((a 0), .inr (12, ((.int 0) :: (.ref (ex 0)) :: (.int 0) :: (.int 0) :: (.int 0) :: (.int 0) :: (.ref (ex 1)) :: (.ref (ex 2)) :: (.ref (ex 3)) :: (.ref (ex 4)) :: (.ref (ex 5)) :: (.int 0) :: (.int 0) :: (.int 0) :: (.int 0) :: (.int 0) :: (.int 0) :: (.long 0) :: (.int 0) :: (.int 0) :: (.int 0) :: (.ref (ex 6)) :: (.ref (ex 7)) :: (.int 0) :: (.ref (ex 8)) :: (.int (-1)) :: (.int 0) :: (.int 0) :: (.int 0) :: (.int 0) :: (.int 0) :: (.int 0) :: (.ref (ex 9)) :: (.int 0) :: (.ref (ex 10)) :: (.int 0) :: (.int 0) :: (.int 0) :: (.int 0) :: (.int 0) :: (.ref (ex 11)) :: (.ref (ex 12)) :: (.ref (ex 13)) :: (.ref (ex 14)) :: [])))] H := hP
  replace hD : va_D A [((a 0), .inr (12, ((.int 0) :: (.ref (ex 0)) :: (.int 0) :: (.int 0) :: (.int 0) :: (.int 0) :: (.ref (ex 1)) :: (.ref (ex 2)) :: (.ref (ex 3)) :: (.ref (ex 4)) :: (.ref (ex 5)) :: (.int 0) :: (.int 0) :: (.int 0) :: (.int 0) :: (.int 0) :: (.int 0) :: (.long 0) :: (.int 0) :: (.int 0) :: (.int 0) :: (.ref (ex 6)) :: (.ref (ex 7)) :: (.int 0) :: (.ref (ex 8)) :: (.int (-1)) :: (.int 0) :: (.int 0) :: (.int 0) :: (.int 0) :: (.int 0) :: (.int 0) :: (.ref (ex 9)) :: (.int 0) :: (.ref (ex 10)) :: (.int 0) :: (.int 0) :: (.int 0) :: (.int 0) :: (.int 0) :: (.ref (ex 11)) :: (.ref (ex 12)) :: (.ref (ex 13)) :: (.ref (ex 14)) :: [])))] := hD
  refine lv_iload_n hx hb dX12_now_5 rfl (lv_at hl 1 rfl) ?_
  refine lv_tableOut (tgt := 118) hx hb dX12_now_6 (by omega) (by decide) ?_
  refine lv_iconst (v := (-1)) hx hb dX12_now_118 (by decide) ?_
  have hP9 := hP.sub (ws' := []) [] rfl
  have hD9 := hD.sub (ws' := []) [] (by decide) rfl
  rw [hQ]
  exact W.iret (v := (-1)) hx hb hr (fun t ht hW => ⟨⟨(-1), (), rfl, rfl, ⟨xa [], xf [], xh [], xv [], by rw [ht]; exact hP9, hD9, trivial⟩⟩, hS.F ht⟩) hS.2.2 dX12_now_119
abbrev pre_X12_take (T : Nat → ClassId) (a ex : Nat → Nat) (fi : Nat → Nat → Int32) (fl : Nat → Nat → Int64) (vi : Nat → Int32) : va_W := [((a 0), .inr (12, ((.int 0) :: (.ref (ex 0)) :: (.int 0) :: (.int 0) :: (.int 0) :: (.int 0) :: (.ref (a 1)) :: (.ref (ex 1)) :: (.ref (ex 2)) :: (.ref (ex 3)) :: (.ref (ex 4)) :: (.int 0) :: (.int 0) :: (.int 0) :: (.int 0) :: (.int 0) :: (.int 0) :: (.long 0) :: (.int 0) :: (.int 0) :: (.int 0) :: (.ref (ex 5)) :: (.ref (ex 6)) :: (.int 0) :: (.ref (ex 7)) :: (.int (-1)) :: (.int 0) :: (.int 0) :: (.int 0) :: (.int 0) :: (.int 0) :: (.int 0) :: (.ref (ex 8)) :: (.int 0) :: (.ref (ex 9)) :: (.int 0) :: (.int 0) :: (.int 0) :: (.int 0) :: (.int 0) :: (.ref (ex 10)) :: (.ref (ex 11)) :: (.ref (ex 12)) :: (.ref (ex 13)) :: []))), ((a 1), .inl (T 1, 2187, .inl (fun _ => 0)))]
set_option maxHeartbeats 4000000 in
set_option maxRecDepth 100000 in
theorem c_X12_take (l : Launch) (D : va_G) (T : Nat → ClassId) (a ex : Nat → Nat) (fi : Nat → Nat → Int32) (fl : Nat → Nat → Int64) (vi : Nat → Int32) (sz : Nat) : Met l yX12_take (xw yX12_take cX12_take 4 (some .int)) ({ frames := 2, cells := 0, slots := 0, locals := 51 }) (xP D T [.ref (a 0), .int (vi 0), .int (vi 1)] sz (pre_X12_take T a ex fi fl vi)) (va_Qi (fun r (_ : Unit) => r = (-1)) (xB D (va_A (pre_X12_take T a ex fi fl vi) sz) (fun _ => True) (fun b fj fm vj => [])) (va_A (pre_X12_take T a ex fi fl vi) sz)) 0 0 (va_A (pre_X12_take T a ex fi fl vi) sz) := by
  refine xofW (cc := cX12_take) (maxL := 4) (ret := (some .int)) (by decide) rfl ?_
  intro p e s m args below meth c s₁ R Q hR hQ B hml hv
  obtain ⟨rfl, hsz, hP, hK, hD0⟩ := hv
  have hx := B.exec
  have hb := B.bytes
  have hr := B.returns
  have hts := atoms_spec (ws := xw yX12_take cX12_take 4 (some .int)) B.pre
  have htg : ∀ w ∈ xg, w.before _ s = true := fun w h => hts w (List.mem_cons_of_mem _ h)
  have hown : s.vm.findClass RX12 = some m.cls := findClass_of_methodNamed B.named
  have hlocks := B.notSynchronized
  subst hsz
  have hD := hD0.self (sz := s.heap.size)
  generalize hAe : va_A (pre_X12_take T a ex fi fl vi) s.heap.size = A at hD hQ
  have hA : ∀ q : Nat, s.heap.size ≤ q → A q := fun q h => by rw [← hAe]; exact Or.inr h
  have hS : va_S A s.heap s.heap [] := va_S.rf
  replace hP : va_P D vwCl [((a 0), .inr (12, ((.int 0) :: (.ref (ex 0)) :: (.int 0) :: (.int 0) :: (.int 0) :: (.int 0) :: (.ref (a 1)) :: (.ref (ex 1)) :: (.ref (ex 2)) :: (.ref (ex 3)) :: (.ref (ex 4)) :: (.int 0) :: (.int 0) :: (.int 0) :: (.int 0) :: (.int 0) :: (.int 0) :: (.long 0) :: (.int 0) :: (.int 0) :: (.int 0) :: (.ref (ex 5)) :: (.ref (ex 6)) :: (.int 0) :: (.ref (ex 7)) :: (.int (-1)) :: (.int 0) :: (.int 0) :: (.int 0) :: (.int 0) :: (.int 0) :: (.int 0) :: (.ref (ex 8)) :: (.int 0) :: (.ref (ex 9)) :: (.int 0) :: (.int 0) :: (.int 0) :: (.int 0) :: (.int 0) :: (.ref (ex 10)) :: (.ref (ex 11)) :: (.ref (ex 12)) :: (.ref (ex 13)) :: []))), ((a 1), .inl (T 1, 2187, .inl (fun _ => 0)))] s.heap := hP
  replace hD : va_D A [((a 0), .inr (12, ((.int 0) :: (.ref (ex 0)) :: (.int 0) :: (.int 0) :: (.int 0) :: (.int 0) :: (.ref (a 1)) :: (.ref (ex 1)) :: (.ref (ex 2)) :: (.ref (ex 3)) :: (.ref (ex 4)) :: (.int 0) :: (.int 0) :: (.int 0) :: (.int 0) :: (.int 0) :: (.int 0) :: (.long 0) :: (.int 0) :: (.int 0) :: (.int 0) :: (.ref (ex 5)) :: (.ref (ex 6)) :: (.int 0) :: (.ref (ex 7)) :: (.int (-1)) :: (.int 0) :: (.int 0) :: (.int 0) :: (.int 0) :: (.int 0) :: (.int 0) :: (.ref (ex 8)) :: (.int 0) :: (.ref (ex 9)) :: (.int 0) :: (.int 0) :: (.int 0) :: (.int 0) :: (.int 0) :: (.ref (ex 10)) :: (.ref (ex 11)) :: (.ref (ex 12)) :: (.ref (ex 13)) :: []))), ((a 1), .inl (T 1, 2187, .inl (fun _ => 0)))] := hD
  have hl := lv_entry ([.ref (a 0), .int (vi 0), .int (vi 1)]) (n := 4) (Nat.le_of_ble_eq_true rfl)
  rw [lg_entry_eq]
  generalize (lg_sl ([.ref (a 0), .int (vi 0), .int (vi 1)]) ++ List.replicate (4 - (lg_sl ([.ref (a 0), .int (vi 0), .int (vi 1)])).length) Slot.unset).toArray = ls at hl ⊢
  replace hl : lv_has ls 4 [(0, .ref (a 0)), (1, .int (vi 0)), (2, .int (vi 1))] := hl
  refine lv_aload_n hx hb dX12_take_0 rfl (lv_at hl 0 rfl) ?_
  refine lv_iconst (v := 0) hx hb dX12_take_1 (by decide) ?_
  refine va_put (D := D) (ci := 12) (v := .int 0) (ty := .int) (C := RX12) (T := TX12) (N := 44) hx hb htg inX12 tyX12 tyX12_ok nmX12 hown hK.1 hP hD hS 0 rfl rfl 0 (by decide) (htg _ kw_1407) (fun _ h9 => h9) rfl (by decide +kernel) rfl rfl (Nat.le_of_ble_eq_true rfl) dX12_take_2 (fun H locs hP hD hS => ?_)
  replace hP : va_P D vwCl [((a 0), .inr (12, ((.int 0) :: (.ref (ex 0)) :: (.int 0) :: (.int 0) :: (.int 0) :: (.int 0) :: (.ref (a 1)) :: (.ref (ex 1)) :: (.ref (ex 2)) :: (.ref (ex 3)) :: (.ref (ex 4)) :: (.int 0) :: (.int 0) :: (.int 0) :: (.int 0) :: (.int 0) :: (.int 0) :: (.long 0) :: (.int 0) :: (.int 0) :: (.int 0) :: (.ref (ex 5)) :: (.ref (ex 6)) :: (.int 0) :: (.ref (ex 7)) :: (.int (-1)) :: (.int 0) :: (.int 0) :: (.int 0) :: (.int 0) :: (.int 0) :: (.int 0) :: (.ref (ex 8)) :: (.int 0) :: (.ref (ex 9)) :: (.int 0) :: (.int 0) :: (.int 0) :: (.int 0) :: (.int 0) :: (.ref (ex 10)) :: (.ref (ex 11)) :: (.ref (ex 12)) :: (.ref (ex 13)) :: []))), ((a 1), .inl (T 1, 2187, .inl (fun _ => 0)))] H := hP
  replace hD : va_D A [((a 0), .inr (12, ((.int 0) :: (.ref (ex 0)) :: (.int 0) :: (.int 0) :: (.int 0) :: (.int 0) :: (.ref (a 1)) :: (.ref (ex 1)) :: (.ref (ex 2)) :: (.ref (ex 3)) :: (.ref (ex 4)) :: (.int 0) :: (.int 0) :: (.int 0) :: (.int 0) :: (.int 0) :: (.int 0) :: (.long 0) :: (.int 0) :: (.int 0) :: (.int 0) :: (.ref (ex 5)) :: (.ref (ex 6)) :: (.int 0) :: (.ref (ex 7)) :: (.int (-1)) :: (.int 0) :: (.int 0) :: (.int 0) :: (.int 0) :: (.int 0) :: (.int 0) :: (.ref (ex 8)) :: (.int 0) :: (.ref (ex 9)) :: (.int 0) :: (.int 0) :: (.int 0) :: (.int 0) :: (.int 0) :: (.ref (ex 10)) :: (.ref (ex 11)) :: (.ref (ex 12)) :: (.ref (ex 13)) :: []))), ((a 1), .inl (T 1, 2187, .inl (fun _ => 0)))] := hD
  refine lv_aload_n hx hb dX12_take_5 rfl (lv_at hl 0 rfl) ?_
  refine lv_iload_n hx hb dX12_take_6 rfl (lv_at hl 1 rfl) ?_
  have hPc := hP.sub (ws' := (pre_X12_isSoul T (xa [(a 0), (a 1)]) (xa [(ex 0), (ex 1), (ex 2), (ex 3), (ex 4), (ex 5), (ex 6), (ex 7), (ex 8), (ex 9), (ex 10), (ex 11), (ex 12), (ex 13)]) (xf []) (xh []) (xv [(vi 0)]))) [0, 1] rfl
  have hDc := hD.sub (ws' := (pre_X12_isSoul T (xa [(a 0), (a 1)]) (xa [(ex 0), (ex 1), (ex 2), (ex 3), (ex 4), (ex 5), (ex 6), (ex 7), (ex 8), (ex 9), (ex 10), (ex 11), (ex 12), (ex 13)]) (xf []) (xh []) (xv [(vi 0)]))) [0, 1] (by decide) rfl
  have hFc := va_free (wc := (pre_X12_isSoul T (xa [(a 0), (a 1)]) (xa [(ex 0), (ex 1), (ex 2), (ex 3), (ex 4), (ex 5), (ex 6), (ex 7), (ex 8), (ex 9), (ex 10), (ex 11), (ex 12), (ex 13)]) (xf []) (xh []) (xv [(vi 0)]))) hD hS hA [0, 1] rfl
  refine va_calli (va_runV (As := [.int (vi 0)]) (rest := []) ⟨hx, hb, hml, hown, htg⟩ (c_X12_isSoul l D T (xa [(a 0), (a 1)]) (xa [(ex 0), (ex 1), (ex 2), (ex 3), (ex 4), (ex 5), (ex 6), (ex 7), (ex 8), (ex 9), (ex 10), (ex 11), (ex 12), (ex 13)]) (xf []) (xh []) (xv [(vi 0)]) H.size) ⟨callB_of 1 htg (xg_ok kw_1652) rfl rfl rfl (htg _ kw_17) (htg _ kw_1649) (by decide +kernel) ⟨by rw [hR]; exact Nat.le_of_ble_eq_true rfl, by rw [hR]; exact Nat.le_of_ble_eq_true rfl⟩, htg _ kw_1651, htg _ ks_135⟩ (xpreV hK hPc hDc (va_recv hK.1 hPc (ci := 12) (q0 := 0) rfl rfl)) rfl rfl hl.1 rfl (lv_room (Nat.le_of_ble_eq_true rfl)) dX12_take_7 ⟨by rw [hR]; exact Nat.le_of_ble_eq_true rfl, by rw [hR]; exact Nat.le_of_ble_eq_true rfl⟩) hS (fun q _ h => hFc q h) hFc (fun r9 u t H1 locs ht hvm hw hB hz1 hk1 hS => ?_)
  obtain ⟨bk, fik, flk, vik, hP1, hD1, hGk⟩ := hB
  rw [ht] at hP1
  obtain ⟨hP, hD⟩ := va_join (wr := []) (w1 := [((a 0), .inr (12, ((.int 0) :: (.ref (ex 0)) :: (.int 0) :: (.int 0) :: (.int 0) :: (.int 0) :: (.ref (a 1)) :: (.ref (ex 1)) :: (.ref (ex 2)) :: (.ref (ex 3)) :: (.ref (ex 4)) :: (.int 0) :: (.int 0) :: (.int 0) :: (.int 0) :: (.int 0) :: (.int 0) :: (.long 0) :: (.int 0) :: (.int 0) :: (.int 0) :: (.ref (ex 5)) :: (.ref (ex 6)) :: (.int 0) :: (.ref (ex 7)) :: (.int (-1)) :: (.int 0) :: (.int 0) :: (.int 0) :: (.int 0) :: (.int 0) :: (.int 0) :: (.ref (ex 8)) :: (.int 0) :: (.ref (ex 9)) :: (.int 0) :: (.int 0) :: (.int 0) :: (.int 0) :: (.int 0) :: (.ref (ex 10)) :: (.ref (ex 11)) :: (.ref (ex 12)) :: (.ref (ex 13)) :: []))), ((a 1), .inl (T 1, 2187, .inl (fun _ => 0)))]) hP hD [0, 1] [] rfl rfl (by decide) (by decide) hk1 hFc hP1 hD1
  subst hw
  clear hPc hDc hFc hP1 hD1 hk1 hz1 hvm ht
  generalize H1 = H at hP hS ⊢
  replace hP : va_P D vwCl [((a 0), .inr (12, ((.int 0) :: (.ref (ex 0)) :: (.int 0) :: (.int 0) :: (.int 0) :: (.int 0) :: (.ref (a 1)) :: (.ref (ex 1)) :: (.ref (ex 2)) :: (.ref (ex 3)) :: (.ref (ex 4)) :: (.int 0) :: (.int 0) :: (.int 0) :: (.int 0) :: (.int 0) :: (.int 0) :: (.long 0) :: (.int 0) :: (.int 0) :: (.int 0) :: (.ref (ex 5)) :: (.ref (ex 6)) :: (.int 0) :: (.ref (ex 7)) :: (.int (-1)) :: (.int 0) :: (.int 0) :: (.int 0) :: (.int 0) :: (.int 0) :: (.int 0) :: (.ref (ex 8)) :: (.int 0) :: (.ref (ex 9)) :: (.int 0) :: (.int 0) :: (.int 0) :: (.int 0) :: (.int 0) :: (.ref (ex 10)) :: (.ref (ex 11)) :: (.ref (ex 12)) :: (.ref (ex 13)) :: []))), ((a 1), .inl (T 1, 2187, .inl (fun _ => 0)))] H := hP
  replace hD : va_D A [((a 0), .inr (12, ((.int 0) :: (.ref (ex 0)) :: (.int 0) :: (.int 0) :: (.int 0) :: (.int 0) :: (.ref (a 1)) :: (.ref (ex 1)) :: (.ref (ex 2)) :: (.ref (ex 3)) :: (.ref (ex 4)) :: (.int 0) :: (.int 0) :: (.int 0) :: (.int 0) :: (.int 0) :: (.int 0) :: (.long 0) :: (.int 0) :: (.int 0) :: (.int 0) :: (.ref (ex 5)) :: (.ref (ex 6)) :: (.int 0) :: (.ref (ex 7)) :: (.int (-1)) :: (.int 0) :: (.int 0) :: (.int 0) :: (.int 0) :: (.int 0) :: (.int 0) :: (.ref (ex 8)) :: (.int 0) :: (.ref (ex 9)) :: (.int 0) :: (.int 0) :: (.int 0) :: (.int 0) :: (.int 0) :: (.ref (ex 10)) :: (.ref (ex 11)) :: (.ref (ex 12)) :: (.ref (ex 13)) :: []))), ((a 1), .inl (T 1, 2187, .inl (fun _ => 0)))] := hD
  refine lv_if_eq (tgt := 21) hx hb dX12_take_10 (by decide) (fun _ => ?_) (fun c => absurd (by decide) c)
  refine lv_iconst (v := (-1)) hx hb dX12_take_21 (by decide) ?_
  have hP9 := hP.sub (ws' := []) [] rfl
  have hD9 := hD.sub (ws' := []) [] (by decide) rfl
  rw [hQ]
  exact W.iret (v := (-1)) hx hb hr (fun t ht hW => ⟨⟨(-1), (), rfl, rfl, ⟨xa [], xf [], xh [], xv [], by rw [ht]; exact hP9, hD9, trivial⟩⟩, hS.F ht⟩) hS.2.2 dX12_take_22
abbrev pre_X12_areTwo (T : Nat → ClassId) (a ex : Nat → Nat) (fi : Nat → Nat → Int32) (fl : Nat → Nat → Int64) (vi : Nat → Int32) : va_W := [((a 0), .inr (12, ((.int 0) :: (.ref (ex 0)) :: (.int 0) :: (.int 0) :: (.int 0) :: (.int 0) :: (.ref (a 1)) :: (.ref (ex 1)) :: (.ref (ex 2)) :: (.ref (ex 3)) :: (.ref (ex 4)) :: (.int 0) :: (.int 0) :: (.int 0) :: (.int 0) :: (.int 0) :: (.int 0) :: (.long 0) :: (.int 0) :: (.int 0) :: (.int 0) :: (.ref (ex 5)) :: (.ref (ex 6)) :: (.int 0) :: (.ref (ex 7)) :: (.int (-1)) :: (.int 0) :: (.int 0) :: (.int 0) :: (.int 0) :: (.int 0) :: (.int 0) :: (.ref (ex 8)) :: (.int 0) :: (.ref (ex 9)) :: (.int 0) :: (.int 0) :: (.int 0) :: (.int 0) :: (.int 0) :: (.ref (ex 10)) :: (.ref (ex 11)) :: (.ref (ex 12)) :: (.ref (ex 13)) :: []))), ((a 1), .inl (T 1, 2187, .inl (fun _ => 0)))]
set_option maxHeartbeats 4000000 in
set_option maxRecDepth 100000 in
theorem c_X12_areTwo (l : Launch) (D : va_G) (T : Nat → ClassId) (a ex : Nat → Nat) (fi : Nat → Nat → Int32) (fl : Nat → Nat → Int64) (vi : Nat → Int32) (sz : Nat) : Met l yX12_areTwo (xw yX12_areTwo cX12_areTwo 3 (some .boolean)) ({ frames := 2, cells := 0, slots := 0, locals := 51 }) (xP D T [.ref (a 0), .int (vi 0), .int (vi 1)] sz (pre_X12_areTwo T a ex fi fl vi)) (va_Qi (fun r (_ : Unit) => r = 0) (xB D (va_A (pre_X12_areTwo T a ex fi fl vi) sz) (fun _ => True) (fun b fj fm vj => [((a 0), .inr (12, ((.int 0) :: (.ref (ex 0)) :: (.int 0) :: (.int 0) :: (.int 0) :: (.int 0) :: (.ref (a 1)) :: (.ref (ex 1)) :: (.ref (ex 2)) :: (.ref (ex 3)) :: (.ref (ex 4)) :: (.int 0) :: (.int 0) :: (.int 0) :: (.int 0) :: (.int 0) :: (.int 0) :: (.long 0) :: (.int 0) :: (.int 0) :: (.int 0) :: (.ref (ex 5)) :: (.ref (ex 6)) :: (.int 0) :: (.ref (ex 7)) :: (.int (-1)) :: (.int 0) :: (.int 0) :: (.int 0) :: (.int 0) :: (.int 0) :: (.int 0) :: (.ref (ex 8)) :: (.int 0) :: (.ref (ex 9)) :: (.int 0) :: (.int 0) :: (.int 0) :: (.int 0) :: (.int 0) :: (.ref (ex 10)) :: (.ref (ex 11)) :: (.ref (ex 12)) :: (.ref (ex 13)) :: []))), ((a 1), .inl (T 1, 2187, .inl (fun _ => 0)))])) (va_A (pre_X12_areTwo T a ex fi fl vi) sz)) 0 0 (va_A (pre_X12_areTwo T a ex fi fl vi) sz) := by
  refine xofW (cc := cX12_areTwo) (maxL := 3) (ret := (some .boolean)) (by decide) rfl ?_
  intro p e s m args below meth c s₁ R Q hR hQ B hml hv
  obtain ⟨rfl, hsz, hP, hK, hD0⟩ := hv
  have hx := B.exec
  have hb := B.bytes
  have hr := B.returns
  have hts := atoms_spec (ws := xw yX12_areTwo cX12_areTwo 3 (some .boolean)) B.pre
  have htg : ∀ w ∈ xg, w.before _ s = true := fun w h => hts w (List.mem_cons_of_mem _ h)
  have hown : s.vm.findClass RX12 = some m.cls := findClass_of_methodNamed B.named
  have hlocks := B.notSynchronized
  subst hsz
  have hD := hD0.self (sz := s.heap.size)
  generalize hAe : va_A (pre_X12_areTwo T a ex fi fl vi) s.heap.size = A at hD hQ
  have hA : ∀ q : Nat, s.heap.size ≤ q → A q := fun q h => by rw [← hAe]; exact Or.inr h
  have hS : va_S A s.heap s.heap [] := va_S.rf
  replace hP : va_P D vwCl [((a 0), .inr (12, ((.int 0) :: (.ref (ex 0)) :: (.int 0) :: (.int 0) :: (.int 0) :: (.int 0) :: (.ref (a 1)) :: (.ref (ex 1)) :: (.ref (ex 2)) :: (.ref (ex 3)) :: (.ref (ex 4)) :: (.int 0) :: (.int 0) :: (.int 0) :: (.int 0) :: (.int 0) :: (.int 0) :: (.long 0) :: (.int 0) :: (.int 0) :: (.int 0) :: (.ref (ex 5)) :: (.ref (ex 6)) :: (.int 0) :: (.ref (ex 7)) :: (.int (-1)) :: (.int 0) :: (.int 0) :: (.int 0) :: (.int 0) :: (.int 0) :: (.int 0) :: (.ref (ex 8)) :: (.int 0) :: (.ref (ex 9)) :: (.int 0) :: (.int 0) :: (.int 0) :: (.int 0) :: (.int 0) :: (.ref (ex 10)) :: (.ref (ex 11)) :: (.ref (ex 12)) :: (.ref (ex 13)) :: []))), ((a 1), .inl (T 1, 2187, .inl (fun _ => 0)))] s.heap := hP
  replace hD : va_D A [((a 0), .inr (12, ((.int 0) :: (.ref (ex 0)) :: (.int 0) :: (.int 0) :: (.int 0) :: (.int 0) :: (.ref (a 1)) :: (.ref (ex 1)) :: (.ref (ex 2)) :: (.ref (ex 3)) :: (.ref (ex 4)) :: (.int 0) :: (.int 0) :: (.int 0) :: (.int 0) :: (.int 0) :: (.int 0) :: (.long 0) :: (.int 0) :: (.int 0) :: (.int 0) :: (.ref (ex 5)) :: (.ref (ex 6)) :: (.int 0) :: (.ref (ex 7)) :: (.int (-1)) :: (.int 0) :: (.int 0) :: (.int 0) :: (.int 0) :: (.int 0) :: (.int 0) :: (.ref (ex 8)) :: (.int 0) :: (.ref (ex 9)) :: (.int 0) :: (.int 0) :: (.int 0) :: (.int 0) :: (.int 0) :: (.ref (ex 10)) :: (.ref (ex 11)) :: (.ref (ex 12)) :: (.ref (ex 13)) :: []))), ((a 1), .inl (T 1, 2187, .inl (fun _ => 0)))] := hD
  have hl := lv_entry ([.ref (a 0), .int (vi 0), .int (vi 1)]) (n := 3) (Nat.le_of_ble_eq_true rfl)
  rw [lg_entry_eq]
  generalize (lg_sl ([.ref (a 0), .int (vi 0), .int (vi 1)]) ++ List.replicate (3 - (lg_sl ([.ref (a 0), .int (vi 0), .int (vi 1)])).length) Slot.unset).toArray = ls at hl ⊢
  replace hl : lv_has ls 3 [(0, .ref (a 0)), (1, .int (vi 0)), (2, .int (vi 1))] := hl
  refine lv_aload_n hx hb dX12_areTwo_0 rfl (lv_at hl 0 rfl) ?_
  refine lv_iload_n hx hb dX12_areTwo_1 rfl (lv_at hl 1 rfl) ?_
  have hPc := hP.sub (ws' := (pre_X12_isSoul T (xa [(a 0), (a 1)]) (xa [(ex 0), (ex 1), (ex 2), (ex 3), (ex 4), (ex 5), (ex 6), (ex 7), (ex 8), (ex 9), (ex 10), (ex 11), (ex 12), (ex 13)]) (xf []) (xh []) (xv [(vi 0)]))) [0, 1] rfl
  have hDc := hD.sub (ws' := (pre_X12_isSoul T (xa [(a 0), (a 1)]) (xa [(ex 0), (ex 1), (ex 2), (ex 3), (ex 4), (ex 5), (ex 6), (ex 7), (ex 8), (ex 9), (ex 10), (ex 11), (ex 12), (ex 13)]) (xf []) (xh []) (xv [(vi 0)]))) [0, 1] (by decide) rfl
  have hFc := va_free (wc := (pre_X12_isSoul T (xa [(a 0), (a 1)]) (xa [(ex 0), (ex 1), (ex 2), (ex 3), (ex 4), (ex 5), (ex 6), (ex 7), (ex 8), (ex 9), (ex 10), (ex 11), (ex 12), (ex 13)]) (xf []) (xh []) (xv [(vi 0)]))) hD hS hA [0, 1] rfl
  refine va_calli (va_runV (As := [.int (vi 0)]) (rest := []) ⟨hx, hb, hml, hown, htg⟩ (c_X12_isSoul l D T (xa [(a 0), (a 1)]) (xa [(ex 0), (ex 1), (ex 2), (ex 3), (ex 4), (ex 5), (ex 6), (ex 7), (ex 8), (ex 9), (ex 10), (ex 11), (ex 12), (ex 13)]) (xf []) (xh []) (xv [(vi 0)]) s.heap.size) ⟨callB_of 1 htg (xg_ok kw_1652) rfl rfl rfl (htg _ kw_17) (htg _ kw_1649) (by decide +kernel) ⟨by rw [hR]; exact Nat.le_of_ble_eq_true rfl, by rw [hR]; exact Nat.le_of_ble_eq_true rfl⟩, htg _ kw_1651, htg _ ks_135⟩ (xpreV hK hPc hDc (va_recv hK.1 hPc (ci := 12) (q0 := 0) rfl rfl)) rfl rfl hl.1 rfl (lv_room (Nat.le_of_ble_eq_true rfl)) dX12_areTwo_2 ⟨by rw [hR]; exact Nat.le_of_ble_eq_true rfl, by rw [hR]; exact Nat.le_of_ble_eq_true rfl⟩) hS (fun q _ h => hFc q h) hFc (fun r9 u t H1 locs ht hvm hw hB hz1 hk1 hS => ?_)
  obtain ⟨bk, fik, flk, vik, hP1, hD1, hGk⟩ := hB
  rw [ht] at hP1
  obtain ⟨hP, hD⟩ := va_join (wr := []) (w1 := [((a 0), .inr (12, ((.int 0) :: (.ref (ex 0)) :: (.int 0) :: (.int 0) :: (.int 0) :: (.int 0) :: (.ref (a 1)) :: (.ref (ex 1)) :: (.ref (ex 2)) :: (.ref (ex 3)) :: (.ref (ex 4)) :: (.int 0) :: (.int 0) :: (.int 0) :: (.int 0) :: (.int 0) :: (.int 0) :: (.long 0) :: (.int 0) :: (.int 0) :: (.int 0) :: (.ref (ex 5)) :: (.ref (ex 6)) :: (.int 0) :: (.ref (ex 7)) :: (.int (-1)) :: (.int 0) :: (.int 0) :: (.int 0) :: (.int 0) :: (.int 0) :: (.int 0) :: (.ref (ex 8)) :: (.int 0) :: (.ref (ex 9)) :: (.int 0) :: (.int 0) :: (.int 0) :: (.int 0) :: (.int 0) :: (.ref (ex 10)) :: (.ref (ex 11)) :: (.ref (ex 12)) :: (.ref (ex 13)) :: []))), ((a 1), .inl (T 1, 2187, .inl (fun _ => 0)))]) hP hD [0, 1] [] rfl rfl (by decide) (by decide) hk1 hFc hP1 hD1
  subst hw
  clear hPc hDc hFc hP1 hD1 hk1 hz1 hvm ht
  generalize H1 = H at hP hS ⊢
  replace hP : va_P D vwCl [((a 0), .inr (12, ((.int 0) :: (.ref (ex 0)) :: (.int 0) :: (.int 0) :: (.int 0) :: (.int 0) :: (.ref (a 1)) :: (.ref (ex 1)) :: (.ref (ex 2)) :: (.ref (ex 3)) :: (.ref (ex 4)) :: (.int 0) :: (.int 0) :: (.int 0) :: (.int 0) :: (.int 0) :: (.int 0) :: (.long 0) :: (.int 0) :: (.int 0) :: (.int 0) :: (.ref (ex 5)) :: (.ref (ex 6)) :: (.int 0) :: (.ref (ex 7)) :: (.int (-1)) :: (.int 0) :: (.int 0) :: (.int 0) :: (.int 0) :: (.int 0) :: (.int 0) :: (.ref (ex 8)) :: (.int 0) :: (.ref (ex 9)) :: (.int 0) :: (.int 0) :: (.int 0) :: (.int 0) :: (.int 0) :: (.ref (ex 10)) :: (.ref (ex 11)) :: (.ref (ex 12)) :: (.ref (ex 13)) :: []))), ((a 1), .inl (T 1, 2187, .inl (fun _ => 0)))] H := hP
  replace hD : va_D A [((a 0), .inr (12, ((.int 0) :: (.ref (ex 0)) :: (.int 0) :: (.int 0) :: (.int 0) :: (.int 0) :: (.ref (a 1)) :: (.ref (ex 1)) :: (.ref (ex 2)) :: (.ref (ex 3)) :: (.ref (ex 4)) :: (.int 0) :: (.int 0) :: (.int 0) :: (.int 0) :: (.int 0) :: (.int 0) :: (.long 0) :: (.int 0) :: (.int 0) :: (.int 0) :: (.ref (ex 5)) :: (.ref (ex 6)) :: (.int 0) :: (.ref (ex 7)) :: (.int (-1)) :: (.int 0) :: (.int 0) :: (.int 0) :: (.int 0) :: (.int 0) :: (.int 0) :: (.ref (ex 8)) :: (.int 0) :: (.ref (ex 9)) :: (.int 0) :: (.int 0) :: (.int 0) :: (.int 0) :: (.int 0) :: (.ref (ex 10)) :: (.ref (ex 11)) :: (.ref (ex 12)) :: (.ref (ex 13)) :: []))), ((a 1), .inl (T 1, 2187, .inl (fun _ => 0)))] := hD
  refine lv_if_eq (tgt := 25) hx hb dX12_areTwo_5 (by decide) (fun _ => ?_) (fun c => absurd (by decide) c)
  refine lv_iconst (v := 0) hx hb dX12_areTwo_25 (by decide) ?_
  have hP9 := hP.sub (ws' := [((a 0), .inr (12, ((.int 0) :: (.ref (ex 0)) :: (.int 0) :: (.int 0) :: (.int 0) :: (.int 0) :: (.ref (a 1)) :: (.ref (ex 1)) :: (.ref (ex 2)) :: (.ref (ex 3)) :: (.ref (ex 4)) :: (.int 0) :: (.int 0) :: (.int 0) :: (.int 0) :: (.int 0) :: (.int 0) :: (.long 0) :: (.int 0) :: (.int 0) :: (.int 0) :: (.ref (ex 5)) :: (.ref (ex 6)) :: (.int 0) :: (.ref (ex 7)) :: (.int (-1)) :: (.int 0) :: (.int 0) :: (.int 0) :: (.int 0) :: (.int 0) :: (.int 0) :: (.ref (ex 8)) :: (.int 0) :: (.ref (ex 9)) :: (.int 0) :: (.int 0) :: (.int 0) :: (.int 0) :: (.int 0) :: (.ref (ex 10)) :: (.ref (ex 11)) :: (.ref (ex 12)) :: (.ref (ex 13)) :: []))), ((a 1), .inl (T 1, 2187, .inl (fun _ => 0)))]) [0, 1] rfl
  have hD9 := hD.sub (ws' := [((a 0), .inr (12, ((.int 0) :: (.ref (ex 0)) :: (.int 0) :: (.int 0) :: (.int 0) :: (.int 0) :: (.ref (a 1)) :: (.ref (ex 1)) :: (.ref (ex 2)) :: (.ref (ex 3)) :: (.ref (ex 4)) :: (.int 0) :: (.int 0) :: (.int 0) :: (.int 0) :: (.int 0) :: (.int 0) :: (.long 0) :: (.int 0) :: (.int 0) :: (.int 0) :: (.ref (ex 5)) :: (.ref (ex 6)) :: (.int 0) :: (.ref (ex 7)) :: (.int (-1)) :: (.int 0) :: (.int 0) :: (.int 0) :: (.int 0) :: (.int 0) :: (.int 0) :: (.ref (ex 8)) :: (.int 0) :: (.ref (ex 9)) :: (.int 0) :: (.int 0) :: (.int 0) :: (.int 0) :: (.int 0) :: (.ref (ex 10)) :: (.ref (ex 11)) :: (.ref (ex 12)) :: (.ref (ex 13)) :: []))), ((a 1), .inl (T 1, 2187, .inl (fun _ => 0)))]) [0, 1] (by decide +kernel) rfl
  rw [hQ]
  exact W.zret (v := 0) hx hb hr rfl (fun t ht hW => ⟨⟨0, (), rfl, rfl, ⟨xa [], xf [], xh [], xv [], by rw [ht]; exact hP9, hD9, trivial⟩⟩, hS.F ht⟩) hS.2.2 dX12_areTwo_26
abbrev pre_X12_swap (T : Nat → ClassId) (a ex : Nat → Nat) (fi : Nat → Nat → Int32) (fl : Nat → Nat → Int64) (vi : Nat → Int32) : va_W := [((a 0), .inr (12, ((.int 0) :: (.ref (ex 0)) :: (.int 0) :: (.int 0) :: (.int 0) :: (.int 0) :: (.ref (a 1)) :: (.ref (ex 1)) :: (.ref (ex 2)) :: (.ref (ex 3)) :: (.ref (ex 4)) :: (.int 0) :: (.int 0) :: (.int 0) :: (.int 0) :: (.int 0) :: (.int 0) :: (.long 0) :: (.int 0) :: (.int 0) :: (.int 0) :: (.ref (ex 5)) :: (.ref (ex 6)) :: (.int 0) :: (.ref (ex 7)) :: (.int (-1)) :: (.int 0) :: (.int 0) :: (.int 0) :: (.int 0) :: (.int 0) :: (.int 0) :: (.ref (ex 8)) :: (.int 0) :: (.ref (ex 9)) :: (.int 0) :: (.int 0) :: (.int 0) :: (.int 0) :: (.int 0) :: (.ref (ex 10)) :: (.ref (ex 11)) :: (.ref (ex 12)) :: (.ref (ex 13)) :: []))), ((a 1), .inl (T 1, 2187, .inl (fun _ => 0)))]
set_option maxHeartbeats 4000000 in
set_option maxRecDepth 100000 in
theorem c_X12_swap (l : Launch) (D : va_G) (T : Nat → ClassId) (a ex : Nat → Nat) (fi : Nat → Nat → Int32) (fl : Nat → Nat → Int64) (vi : Nat → Int32) (sz : Nat) : Met l yX12_swap (xw yX12_swap cX12_swap 4 (some .int)) ({ frames := 3, cells := 0, slots := 0, locals := 77 }) (xP D T [.ref (a 0), .int (vi 0), .int (vi 1)] sz (pre_X12_swap T a ex fi fl vi)) (va_Qi (fun r (_ : Unit) => r = (-1)) (xB D (va_A (pre_X12_swap T a ex fi fl vi) sz) (fun _ => True) (fun b fj fm vj => [])) (va_A (pre_X12_swap T a ex fi fl vi) sz)) 0 0 (va_A (pre_X12_swap T a ex fi fl vi) sz) := by
  refine xofW (cc := cX12_swap) (maxL := 4) (ret := (some .int)) (by decide) rfl ?_
  intro p e s m args below meth c s₁ R Q hR hQ B hml hv
  obtain ⟨rfl, hsz, hP, hK, hD0⟩ := hv
  have hx := B.exec
  have hb := B.bytes
  have hr := B.returns
  have hts := atoms_spec (ws := xw yX12_swap cX12_swap 4 (some .int)) B.pre
  have htg : ∀ w ∈ xg, w.before _ s = true := fun w h => hts w (List.mem_cons_of_mem _ h)
  have hown : s.vm.findClass RX12 = some m.cls := findClass_of_methodNamed B.named
  have hlocks := B.notSynchronized
  subst hsz
  have hD := hD0.self (sz := s.heap.size)
  generalize hAe : va_A (pre_X12_swap T a ex fi fl vi) s.heap.size = A at hD hQ
  have hA : ∀ q : Nat, s.heap.size ≤ q → A q := fun q h => by rw [← hAe]; exact Or.inr h
  have hS : va_S A s.heap s.heap [] := va_S.rf
  replace hP : va_P D vwCl [((a 0), .inr (12, ((.int 0) :: (.ref (ex 0)) :: (.int 0) :: (.int 0) :: (.int 0) :: (.int 0) :: (.ref (a 1)) :: (.ref (ex 1)) :: (.ref (ex 2)) :: (.ref (ex 3)) :: (.ref (ex 4)) :: (.int 0) :: (.int 0) :: (.int 0) :: (.int 0) :: (.int 0) :: (.int 0) :: (.long 0) :: (.int 0) :: (.int 0) :: (.int 0) :: (.ref (ex 5)) :: (.ref (ex 6)) :: (.int 0) :: (.ref (ex 7)) :: (.int (-1)) :: (.int 0) :: (.int 0) :: (.int 0) :: (.int 0) :: (.int 0) :: (.int 0) :: (.ref (ex 8)) :: (.int 0) :: (.ref (ex 9)) :: (.int 0) :: (.int 0) :: (.int 0) :: (.int 0) :: (.int 0) :: (.ref (ex 10)) :: (.ref (ex 11)) :: (.ref (ex 12)) :: (.ref (ex 13)) :: []))), ((a 1), .inl (T 1, 2187, .inl (fun _ => 0)))] s.heap := hP
  replace hD : va_D A [((a 0), .inr (12, ((.int 0) :: (.ref (ex 0)) :: (.int 0) :: (.int 0) :: (.int 0) :: (.int 0) :: (.ref (a 1)) :: (.ref (ex 1)) :: (.ref (ex 2)) :: (.ref (ex 3)) :: (.ref (ex 4)) :: (.int 0) :: (.int 0) :: (.int 0) :: (.int 0) :: (.int 0) :: (.int 0) :: (.long 0) :: (.int 0) :: (.int 0) :: (.int 0) :: (.ref (ex 5)) :: (.ref (ex 6)) :: (.int 0) :: (.ref (ex 7)) :: (.int (-1)) :: (.int 0) :: (.int 0) :: (.int 0) :: (.int 0) :: (.int 0) :: (.int 0) :: (.ref (ex 8)) :: (.int 0) :: (.ref (ex 9)) :: (.int 0) :: (.int 0) :: (.int 0) :: (.int 0) :: (.int 0) :: (.ref (ex 10)) :: (.ref (ex 11)) :: (.ref (ex 12)) :: (.ref (ex 13)) :: []))), ((a 1), .inl (T 1, 2187, .inl (fun _ => 0)))] := hD
  have hl := lv_entry ([.ref (a 0), .int (vi 0), .int (vi 1)]) (n := 4) (Nat.le_of_ble_eq_true rfl)
  rw [lg_entry_eq]
  generalize (lg_sl ([.ref (a 0), .int (vi 0), .int (vi 1)]) ++ List.replicate (4 - (lg_sl ([.ref (a 0), .int (vi 0), .int (vi 1)])).length) Slot.unset).toArray = ls at hl ⊢
  replace hl : lv_has ls 4 [(0, .ref (a 0)), (1, .int (vi 0)), (2, .int (vi 1))] := hl
  refine lv_aload_n hx hb dX12_swap_0 rfl (lv_at hl 0 rfl) ?_
  refine lv_iconst (v := 0) hx hb dX12_swap_1 (by decide) ?_
  refine va_put (D := D) (ci := 12) (v := .int 0) (ty := .int) (C := RX12) (T := TX12) (N := 44) hx hb htg inX12 tyX12 tyX12_ok nmX12 hown hK.1 hP hD hS 0 rfl rfl 0 (by decide) (htg _ kw_1407) (fun _ h9 => h9) rfl (by decide +kernel) rfl rfl (Nat.le_of_ble_eq_true rfl) dX12_swap_2 (fun H locs hP hD hS => ?_)
  replace hP : va_P D vwCl [((a 0), .inr (12, ((.int 0) :: (.ref (ex 0)) :: (.int 0) :: (.int 0) :: (.int 0) :: (.int 0) :: (.ref (a 1)) :: (.ref (ex 1)) :: (.ref (ex 2)) :: (.ref (ex 3)) :: (.ref (ex 4)) :: (.int 0) :: (.int 0) :: (.int 0) :: (.int 0) :: (.int 0) :: (.int 0) :: (.long 0) :: (.int 0) :: (.int 0) :: (.int 0) :: (.ref (ex 5)) :: (.ref (ex 6)) :: (.int 0) :: (.ref (ex 7)) :: (.int (-1)) :: (.int 0) :: (.int 0) :: (.int 0) :: (.int 0) :: (.int 0) :: (.int 0) :: (.ref (ex 8)) :: (.int 0) :: (.ref (ex 9)) :: (.int 0) :: (.int 0) :: (.int 0) :: (.int 0) :: (.int 0) :: (.ref (ex 10)) :: (.ref (ex 11)) :: (.ref (ex 12)) :: (.ref (ex 13)) :: []))), ((a 1), .inl (T 1, 2187, .inl (fun _ => 0)))] H := hP
  replace hD : va_D A [((a 0), .inr (12, ((.int 0) :: (.ref (ex 0)) :: (.int 0) :: (.int 0) :: (.int 0) :: (.int 0) :: (.ref (a 1)) :: (.ref (ex 1)) :: (.ref (ex 2)) :: (.ref (ex 3)) :: (.ref (ex 4)) :: (.int 0) :: (.int 0) :: (.int 0) :: (.int 0) :: (.int 0) :: (.int 0) :: (.long 0) :: (.int 0) :: (.int 0) :: (.int 0) :: (.ref (ex 5)) :: (.ref (ex 6)) :: (.int 0) :: (.ref (ex 7)) :: (.int (-1)) :: (.int 0) :: (.int 0) :: (.int 0) :: (.int 0) :: (.int 0) :: (.int 0) :: (.ref (ex 8)) :: (.int 0) :: (.ref (ex 9)) :: (.int 0) :: (.int 0) :: (.int 0) :: (.int 0) :: (.int 0) :: (.ref (ex 10)) :: (.ref (ex 11)) :: (.ref (ex 12)) :: (.ref (ex 13)) :: []))), ((a 1), .inl (T 1, 2187, .inl (fun _ => 0)))] := hD
  refine lv_aload_n hx hb dX12_swap_5 rfl (lv_at hl 0 rfl) ?_
  refine lv_iload_n hx hb dX12_swap_6 rfl (lv_at hl 1 rfl) ?_
  refine lv_iload_n hx hb dX12_swap_7 rfl (lv_at hl 2 rfl) ?_
  have hPc := hP.sub (ws' := (pre_X12_areTwo T (xa [(a 0), (a 1)]) (xa [(ex 0), (ex 1), (ex 2), (ex 3), (ex 4), (ex 5), (ex 6), (ex 7), (ex 8), (ex 9), (ex 10), (ex 11), (ex 12), (ex 13)]) (xf []) (xh []) (xv [(vi 0), (vi 1)]))) [0, 1] rfl
  have hDc := hD.sub (ws' := (pre_X12_areTwo T (xa [(a 0), (a 1)]) (xa [(ex 0), (ex 1), (ex 2), (ex 3), (ex 4), (ex 5), (ex 6), (ex 7), (ex 8), (ex 9), (ex 10), (ex 11), (ex 12), (ex 13)]) (xf []) (xh []) (xv [(vi 0), (vi 1)]))) [0, 1] (by decide) rfl
  have hFc := va_free (wc := (pre_X12_areTwo T (xa [(a 0), (a 1)]) (xa [(ex 0), (ex 1), (ex 2), (ex 3), (ex 4), (ex 5), (ex 6), (ex 7), (ex 8), (ex 9), (ex 10), (ex 11), (ex 12), (ex 13)]) (xf []) (xh []) (xv [(vi 0), (vi 1)]))) hD hS hA [0, 1] rfl
  refine va_calli (va_runV (As := [.int (vi 0), .int (vi 1)]) (rest := []) ⟨hx, hb, hml, hown, htg⟩ (c_X12_areTwo l D T (xa [(a 0), (a 1)]) (xa [(ex 0), (ex 1), (ex 2), (ex 3), (ex 4), (ex 5), (ex 6), (ex 7), (ex 8), (ex 9), (ex 10), (ex 11), (ex 12), (ex 13)]) (xf []) (xh []) (xv [(vi 0), (vi 1)]) H.size) ⟨callB_of 2 htg (xg_ok kw_1712) rfl rfl rfl (htg _ kw_17) (htg _ kw_1709) (by decide +kernel) ⟨by rw [hR]; exact Nat.le_of_ble_eq_true rfl, by rw [hR]; exact Nat.le_of_ble_eq_true rfl⟩, htg _ kw_1711, htg _ ks_146⟩ (xpreV hK hPc hDc (va_recv hK.1 hPc (ci := 12) (q0 := 0) rfl rfl)) rfl rfl hl.1 rfl (lv_room (Nat.le_of_ble_eq_true rfl)) dX12_swap_8 ⟨by rw [hR]; exact Nat.le_of_ble_eq_true rfl, by rw [hR]; exact Nat.le_of_ble_eq_true rfl⟩) hS (fun q _ h => hFc q h) hFc (fun r9 u t H1 locs ht hvm hw hB hz1 hk1 hS => ?_)
  obtain ⟨bk, fik, flk, vik, hP1, hD1, hGk⟩ := hB
  rw [ht] at hP1
  obtain ⟨hP, hD⟩ := va_join (wr := []) (w1 := [((a 0), .inr (12, ((.int 0) :: (.ref (ex 0)) :: (.int 0) :: (.int 0) :: (.int 0) :: (.int 0) :: (.ref (a 1)) :: (.ref (ex 1)) :: (.ref (ex 2)) :: (.ref (ex 3)) :: (.ref (ex 4)) :: (.int 0) :: (.int 0) :: (.int 0) :: (.int 0) :: (.int 0) :: (.int 0) :: (.long 0) :: (.int 0) :: (.int 0) :: (.int 0) :: (.ref (ex 5)) :: (.ref (ex 6)) :: (.int 0) :: (.ref (ex 7)) :: (.int (-1)) :: (.int 0) :: (.int 0) :: (.int 0) :: (.int 0) :: (.int 0) :: (.int 0) :: (.ref (ex 8)) :: (.int 0) :: (.ref (ex 9)) :: (.int 0) :: (.int 0) :: (.int 0) :: (.int 0) :: (.int 0) :: (.ref (ex 10)) :: (.ref (ex 11)) :: (.ref (ex 12)) :: (.ref (ex 13)) :: []))), ((a 1), .inl (T 1, 2187, .inl (fun _ => 0)))]) hP hD [0, 1] [] rfl rfl (by decide) (by decide) hk1 hFc hP1 hD1
  subst hw
  clear hPc hDc hFc hP1 hD1 hk1 hz1 hvm ht
  generalize H1 = H at hP hS ⊢
  replace hP : va_P D vwCl [((a 0), .inr (12, ((.int 0) :: (.ref (ex 0)) :: (.int 0) :: (.int 0) :: (.int 0) :: (.int 0) :: (.ref (a 1)) :: (.ref (ex 1)) :: (.ref (ex 2)) :: (.ref (ex 3)) :: (.ref (ex 4)) :: (.int 0) :: (.int 0) :: (.int 0) :: (.int 0) :: (.int 0) :: (.int 0) :: (.long 0) :: (.int 0) :: (.int 0) :: (.int 0) :: (.ref (ex 5)) :: (.ref (ex 6)) :: (.int 0) :: (.ref (ex 7)) :: (.int (-1)) :: (.int 0) :: (.int 0) :: (.int 0) :: (.int 0) :: (.int 0) :: (.int 0) :: (.ref (ex 8)) :: (.int 0) :: (.ref (ex 9)) :: (.int 0) :: (.int 0) :: (.int 0) :: (.int 0) :: (.int 0) :: (.ref (ex 10)) :: (.ref (ex 11)) :: (.ref (ex 12)) :: (.ref (ex 13)) :: []))), ((a 1), .inl (T 1, 2187, .inl (fun _ => 0)))] H := hP
  replace hD : va_D A [((a 0), .inr (12, ((.int 0) :: (.ref (ex 0)) :: (.int 0) :: (.int 0) :: (.int 0) :: (.int 0) :: (.ref (a 1)) :: (.ref (ex 1)) :: (.ref (ex 2)) :: (.ref (ex 3)) :: (.ref (ex 4)) :: (.int 0) :: (.int 0) :: (.int 0) :: (.int 0) :: (.int 0) :: (.int 0) :: (.long 0) :: (.int 0) :: (.int 0) :: (.int 0) :: (.ref (ex 5)) :: (.ref (ex 6)) :: (.int 0) :: (.ref (ex 7)) :: (.int (-1)) :: (.int 0) :: (.int 0) :: (.int 0) :: (.int 0) :: (.int 0) :: (.int 0) :: (.ref (ex 8)) :: (.int 0) :: (.ref (ex 9)) :: (.int 0) :: (.int 0) :: (.int 0) :: (.int 0) :: (.int 0) :: (.ref (ex 10)) :: (.ref (ex 11)) :: (.ref (ex 12)) :: (.ref (ex 13)) :: []))), ((a 1), .inl (T 1, 2187, .inl (fun _ => 0)))] := hD
  refine lv_if_ne (tgt := 16) hx hb dX12_swap_11 (by decide) (fun c => absurd (by decide) c) (fun _ => ?_)
  refine lv_iconst (v := (-1)) hx hb dX12_swap_14 (by decide) ?_
  have hP9 := hP.sub (ws' := []) [] rfl
  have hD9 := hD.sub (ws' := []) [] (by decide) rfl
  rw [hQ]
  exact W.iret (v := (-1)) hx hb hr (fun t ht hW => ⟨⟨(-1), (), rfl, rfl, ⟨xa [], xf [], xh [], xv [], by rw [ht]; exact hP9, hD9, trivial⟩⟩, hS.F ht⟩) hS.2.2 dX12_swap_15
abbrev pre_X12_sell (T : Nat → ClassId) (a ex : Nat → Nat) (fi : Nat → Nat → Int32) (fl : Nat → Nat → Int64) (vi : Nat → Int32) : va_W := [((a 0), .inr (12, ((.int 0) :: (.ref (ex 0)) :: (.int 0) :: (.int 0) :: (.int 0) :: (.int 0) :: (.ref (a 1)) :: (.ref (ex 1)) :: (.ref (ex 2)) :: (.ref (ex 3)) :: (.ref (ex 4)) :: (.int 0) :: (.int 0) :: (.int 0) :: (.int 0) :: (.int 0) :: (.int 0) :: (.long 0) :: (.int 0) :: (.int 0) :: (.int 0) :: (.ref (ex 5)) :: (.ref (ex 6)) :: (.int 0) :: (.ref (ex 7)) :: (.int (-1)) :: (.int 0) :: (.int 0) :: (.int 0) :: (.int 0) :: (.int 0) :: (.int 0) :: (.ref (ex 8)) :: (.int 0) :: (.ref (ex 9)) :: (.int 0) :: (.int 0) :: (.int 0) :: (.int 0) :: (.int 0) :: (.ref (ex 10)) :: (.ref (ex 11)) :: (.ref (ex 12)) :: (.ref (ex 13)) :: []))), ((a 1), .inl (T 1, 2187, .inl (fun _ => 0)))]
set_option maxHeartbeats 4000000 in
set_option maxRecDepth 100000 in
theorem c_X12_sell (l : Launch) (D : va_G) (T : Nat → ClassId) (a ex : Nat → Nat) (fi : Nat → Nat → Int32) (fl : Nat → Nat → Int64) (vi : Nat → Int32) (sz : Nat) : Met l yX12_sell (xw yX12_sell cX12_sell 4 (some .int)) ({ frames := 3, cells := 0, slots := 0, locals := 77 }) (xP D T [.ref (a 0), .int (vi 0), .int (vi 1)] sz (pre_X12_sell T a ex fi fl vi)) (va_Qi (fun r (_ : Unit) => r = (-1)) (xB D (va_A (pre_X12_sell T a ex fi fl vi) sz) (fun _ => True) (fun b fj fm vj => [])) (va_A (pre_X12_sell T a ex fi fl vi) sz)) 0 0 (va_A (pre_X12_sell T a ex fi fl vi) sz) := by
  refine xofW (cc := cX12_sell) (maxL := 4) (ret := (some .int)) (by decide) rfl ?_
  intro p e s m args below meth c s₁ R Q hR hQ B hml hv
  obtain ⟨rfl, hsz, hP, hK, hD0⟩ := hv
  have hx := B.exec
  have hb := B.bytes
  have hr := B.returns
  have hts := atoms_spec (ws := xw yX12_sell cX12_sell 4 (some .int)) B.pre
  have htg : ∀ w ∈ xg, w.before _ s = true := fun w h => hts w (List.mem_cons_of_mem _ h)
  have hown : s.vm.findClass RX12 = some m.cls := findClass_of_methodNamed B.named
  have hlocks := B.notSynchronized
  subst hsz
  have hD := hD0.self (sz := s.heap.size)
  generalize hAe : va_A (pre_X12_sell T a ex fi fl vi) s.heap.size = A at hD hQ
  have hA : ∀ q : Nat, s.heap.size ≤ q → A q := fun q h => by rw [← hAe]; exact Or.inr h
  have hS : va_S A s.heap s.heap [] := va_S.rf
  replace hP : va_P D vwCl [((a 0), .inr (12, ((.int 0) :: (.ref (ex 0)) :: (.int 0) :: (.int 0) :: (.int 0) :: (.int 0) :: (.ref (a 1)) :: (.ref (ex 1)) :: (.ref (ex 2)) :: (.ref (ex 3)) :: (.ref (ex 4)) :: (.int 0) :: (.int 0) :: (.int 0) :: (.int 0) :: (.int 0) :: (.int 0) :: (.long 0) :: (.int 0) :: (.int 0) :: (.int 0) :: (.ref (ex 5)) :: (.ref (ex 6)) :: (.int 0) :: (.ref (ex 7)) :: (.int (-1)) :: (.int 0) :: (.int 0) :: (.int 0) :: (.int 0) :: (.int 0) :: (.int 0) :: (.ref (ex 8)) :: (.int 0) :: (.ref (ex 9)) :: (.int 0) :: (.int 0) :: (.int 0) :: (.int 0) :: (.int 0) :: (.ref (ex 10)) :: (.ref (ex 11)) :: (.ref (ex 12)) :: (.ref (ex 13)) :: []))), ((a 1), .inl (T 1, 2187, .inl (fun _ => 0)))] s.heap := hP
  replace hD : va_D A [((a 0), .inr (12, ((.int 0) :: (.ref (ex 0)) :: (.int 0) :: (.int 0) :: (.int 0) :: (.int 0) :: (.ref (a 1)) :: (.ref (ex 1)) :: (.ref (ex 2)) :: (.ref (ex 3)) :: (.ref (ex 4)) :: (.int 0) :: (.int 0) :: (.int 0) :: (.int 0) :: (.int 0) :: (.int 0) :: (.long 0) :: (.int 0) :: (.int 0) :: (.int 0) :: (.ref (ex 5)) :: (.ref (ex 6)) :: (.int 0) :: (.ref (ex 7)) :: (.int (-1)) :: (.int 0) :: (.int 0) :: (.int 0) :: (.int 0) :: (.int 0) :: (.int 0) :: (.ref (ex 8)) :: (.int 0) :: (.ref (ex 9)) :: (.int 0) :: (.int 0) :: (.int 0) :: (.int 0) :: (.int 0) :: (.ref (ex 10)) :: (.ref (ex 11)) :: (.ref (ex 12)) :: (.ref (ex 13)) :: []))), ((a 1), .inl (T 1, 2187, .inl (fun _ => 0)))] := hD
  have hl := lv_entry ([.ref (a 0), .int (vi 0), .int (vi 1)]) (n := 4) (Nat.le_of_ble_eq_true rfl)
  rw [lg_entry_eq]
  generalize (lg_sl ([.ref (a 0), .int (vi 0), .int (vi 1)]) ++ List.replicate (4 - (lg_sl ([.ref (a 0), .int (vi 0), .int (vi 1)])).length) Slot.unset).toArray = ls at hl ⊢
  replace hl : lv_has ls 4 [(0, .ref (a 0)), (1, .int (vi 0)), (2, .int (vi 1))] := hl
  refine lv_aload_n hx hb dX12_sell_0 rfl (lv_at hl 0 rfl) ?_
  refine lv_iconst (v := 0) hx hb dX12_sell_1 (by decide) ?_
  refine va_put (D := D) (ci := 12) (v := .int 0) (ty := .int) (C := RX12) (T := TX12) (N := 44) hx hb htg inX12 tyX12 tyX12_ok nmX12 hown hK.1 hP hD hS 0 rfl rfl 0 (by decide) (htg _ kw_1407) (fun _ h9 => h9) rfl (by decide +kernel) rfl rfl (Nat.le_of_ble_eq_true rfl) dX12_sell_2 (fun H locs hP hD hS => ?_)
  replace hP : va_P D vwCl [((a 0), .inr (12, ((.int 0) :: (.ref (ex 0)) :: (.int 0) :: (.int 0) :: (.int 0) :: (.int 0) :: (.ref (a 1)) :: (.ref (ex 1)) :: (.ref (ex 2)) :: (.ref (ex 3)) :: (.ref (ex 4)) :: (.int 0) :: (.int 0) :: (.int 0) :: (.int 0) :: (.int 0) :: (.int 0) :: (.long 0) :: (.int 0) :: (.int 0) :: (.int 0) :: (.ref (ex 5)) :: (.ref (ex 6)) :: (.int 0) :: (.ref (ex 7)) :: (.int (-1)) :: (.int 0) :: (.int 0) :: (.int 0) :: (.int 0) :: (.int 0) :: (.int 0) :: (.ref (ex 8)) :: (.int 0) :: (.ref (ex 9)) :: (.int 0) :: (.int 0) :: (.int 0) :: (.int 0) :: (.int 0) :: (.ref (ex 10)) :: (.ref (ex 11)) :: (.ref (ex 12)) :: (.ref (ex 13)) :: []))), ((a 1), .inl (T 1, 2187, .inl (fun _ => 0)))] H := hP
  replace hD : va_D A [((a 0), .inr (12, ((.int 0) :: (.ref (ex 0)) :: (.int 0) :: (.int 0) :: (.int 0) :: (.int 0) :: (.ref (a 1)) :: (.ref (ex 1)) :: (.ref (ex 2)) :: (.ref (ex 3)) :: (.ref (ex 4)) :: (.int 0) :: (.int 0) :: (.int 0) :: (.int 0) :: (.int 0) :: (.int 0) :: (.long 0) :: (.int 0) :: (.int 0) :: (.int 0) :: (.ref (ex 5)) :: (.ref (ex 6)) :: (.int 0) :: (.ref (ex 7)) :: (.int (-1)) :: (.int 0) :: (.int 0) :: (.int 0) :: (.int 0) :: (.int 0) :: (.int 0) :: (.ref (ex 8)) :: (.int 0) :: (.ref (ex 9)) :: (.int 0) :: (.int 0) :: (.int 0) :: (.int 0) :: (.int 0) :: (.ref (ex 10)) :: (.ref (ex 11)) :: (.ref (ex 12)) :: (.ref (ex 13)) :: []))), ((a 1), .inl (T 1, 2187, .inl (fun _ => 0)))] := hD
  refine lv_aload_n hx hb dX12_sell_5 rfl (lv_at hl 0 rfl) ?_
  refine lv_iload_n hx hb dX12_sell_6 rfl (lv_at hl 1 rfl) ?_
  refine lv_iload_n hx hb dX12_sell_7 rfl (lv_at hl 2 rfl) ?_
  have hPc := hP.sub (ws' := (pre_X12_areTwo T (xa [(a 0), (a 1)]) (xa [(ex 0), (ex 1), (ex 2), (ex 3), (ex 4), (ex 5), (ex 6), (ex 7), (ex 8), (ex 9), (ex 10), (ex 11), (ex 12), (ex 13)]) (xf []) (xh []) (xv [(vi 0), (vi 1)]))) [0, 1] rfl
  have hDc := hD.sub (ws' := (pre_X12_areTwo T (xa [(a 0), (a 1)]) (xa [(ex 0), (ex 1), (ex 2), (ex 3), (ex 4), (ex 5), (ex 6), (ex 7), (ex 8), (ex 9), (ex 10), (ex 11), (ex 12), (ex 13)]) (xf []) (xh []) (xv [(vi 0), (vi 1)]))) [0, 1] (by decide) rfl
  have hFc := va_free (wc := (pre_X12_areTwo T (xa [(a 0), (a 1)]) (xa [(ex 0), (ex 1), (ex 2), (ex 3), (ex 4), (ex 5), (ex 6), (ex 7), (ex 8), (ex 9), (ex 10), (ex 11), (ex 12), (ex 13)]) (xf []) (xh []) (xv [(vi 0), (vi 1)]))) hD hS hA [0, 1] rfl
  refine va_calli (va_runV (As := [.int (vi 0), .int (vi 1)]) (rest := []) ⟨hx, hb, hml, hown, htg⟩ (c_X12_areTwo l D T (xa [(a 0), (a 1)]) (xa [(ex 0), (ex 1), (ex 2), (ex 3), (ex 4), (ex 5), (ex 6), (ex 7), (ex 8), (ex 9), (ex 10), (ex 11), (ex 12), (ex 13)]) (xf []) (xh []) (xv [(vi 0), (vi 1)]) H.size) ⟨callB_of 2 htg (xg_ok kw_1712) rfl rfl rfl (htg _ kw_17) (htg _ kw_1709) (by decide +kernel) ⟨by rw [hR]; exact Nat.le_of_ble_eq_true rfl, by rw [hR]; exact Nat.le_of_ble_eq_true rfl⟩, htg _ kw_1711, htg _ ks_146⟩ (xpreV hK hPc hDc (va_recv hK.1 hPc (ci := 12) (q0 := 0) rfl rfl)) rfl rfl hl.1 rfl (lv_room (Nat.le_of_ble_eq_true rfl)) dX12_sell_8 ⟨by rw [hR]; exact Nat.le_of_ble_eq_true rfl, by rw [hR]; exact Nat.le_of_ble_eq_true rfl⟩) hS (fun q _ h => hFc q h) hFc (fun r9 u t H1 locs ht hvm hw hB hz1 hk1 hS => ?_)
  obtain ⟨bk, fik, flk, vik, hP1, hD1, hGk⟩ := hB
  rw [ht] at hP1
  obtain ⟨hP, hD⟩ := va_join (wr := []) (w1 := [((a 0), .inr (12, ((.int 0) :: (.ref (ex 0)) :: (.int 0) :: (.int 0) :: (.int 0) :: (.int 0) :: (.ref (a 1)) :: (.ref (ex 1)) :: (.ref (ex 2)) :: (.ref (ex 3)) :: (.ref (ex 4)) :: (.int 0) :: (.int 0) :: (.int 0) :: (.int 0) :: (.int 0) :: (.int 0) :: (.long 0) :: (.int 0) :: (.int 0) :: (.int 0) :: (.ref (ex 5)) :: (.ref (ex 6)) :: (.int 0) :: (.ref (ex 7)) :: (.int (-1)) :: (.int 0) :: (.int 0) :: (.int 0) :: (.int 0) :: (.int 0) :: (.int 0) :: (.ref (ex 8)) :: (.int 0) :: (.ref (ex 9)) :: (.int 0) :: (.int 0) :: (.int 0) :: (.int 0) :: (.int 0) :: (.ref (ex 10)) :: (.ref (ex 11)) :: (.ref (ex 12)) :: (.ref (ex 13)) :: []))), ((a 1), .inl (T 1, 2187, .inl (fun _ => 0)))]) hP hD [0, 1] [] rfl rfl (by decide) (by decide) hk1 hFc hP1 hD1
  subst hw
  clear hPc hDc hFc hP1 hD1 hk1 hz1 hvm ht
  generalize H1 = H at hP hS ⊢
  replace hP : va_P D vwCl [((a 0), .inr (12, ((.int 0) :: (.ref (ex 0)) :: (.int 0) :: (.int 0) :: (.int 0) :: (.int 0) :: (.ref (a 1)) :: (.ref (ex 1)) :: (.ref (ex 2)) :: (.ref (ex 3)) :: (.ref (ex 4)) :: (.int 0) :: (.int 0) :: (.int 0) :: (.int 0) :: (.int 0) :: (.int 0) :: (.long 0) :: (.int 0) :: (.int 0) :: (.int 0) :: (.ref (ex 5)) :: (.ref (ex 6)) :: (.int 0) :: (.ref (ex 7)) :: (.int (-1)) :: (.int 0) :: (.int 0) :: (.int 0) :: (.int 0) :: (.int 0) :: (.int 0) :: (.ref (ex 8)) :: (.int 0) :: (.ref (ex 9)) :: (.int 0) :: (.int 0) :: (.int 0) :: (.int 0) :: (.int 0) :: (.ref (ex 10)) :: (.ref (ex 11)) :: (.ref (ex 12)) :: (.ref (ex 13)) :: []))), ((a 1), .inl (T 1, 2187, .inl (fun _ => 0)))] H := hP
  replace hD : va_D A [((a 0), .inr (12, ((.int 0) :: (.ref (ex 0)) :: (.int 0) :: (.int 0) :: (.int 0) :: (.int 0) :: (.ref (a 1)) :: (.ref (ex 1)) :: (.ref (ex 2)) :: (.ref (ex 3)) :: (.ref (ex 4)) :: (.int 0) :: (.int 0) :: (.int 0) :: (.int 0) :: (.int 0) :: (.int 0) :: (.long 0) :: (.int 0) :: (.int 0) :: (.int 0) :: (.ref (ex 5)) :: (.ref (ex 6)) :: (.int 0) :: (.ref (ex 7)) :: (.int (-1)) :: (.int 0) :: (.int 0) :: (.int 0) :: (.int 0) :: (.int 0) :: (.int 0) :: (.ref (ex 8)) :: (.int 0) :: (.ref (ex 9)) :: (.int 0) :: (.int 0) :: (.int 0) :: (.int 0) :: (.int 0) :: (.ref (ex 10)) :: (.ref (ex 11)) :: (.ref (ex 12)) :: (.ref (ex 13)) :: []))), ((a 1), .inl (T 1, 2187, .inl (fun _ => 0)))] := hD
  refine lv_if_ne (tgt := 16) hx hb dX12_sell_11 (by decide) (fun c => absurd (by decide) c) (fun _ => ?_)
  refine lv_iconst (v := (-1)) hx hb dX12_sell_14 (by decide) ?_
  have hP9 := hP.sub (ws' := []) [] rfl
  have hD9 := hD.sub (ws' := []) [] (by decide) rfl
  rw [hQ]
  exact W.iret (v := (-1)) hx hb hr (fun t ht hW => ⟨⟨(-1), (), rfl, rfl, ⟨xa [], xf [], xh [], xv [], by rw [ht]; exact hP9, hD9, trivial⟩⟩, hS.F ht⟩) hS.2.2 dX12_sell_15
abbrev pre_X12_die (T : Nat → ClassId) (a ex : Nat → Nat) (fi : Nat → Nat → Int32) (fl : Nat → Nat → Int64) (vi : Nat → Int32) : va_W := [((a 0), .inr (12, ((.int 0) :: (.ref (ex 0)) :: (.int 0) :: (.int 0) :: (.int 0) :: (.int 0) :: (.ref (a 1)) :: (.ref (ex 1)) :: (.ref (ex 2)) :: (.ref (ex 3)) :: (.ref (ex 4)) :: (.int 0) :: (.int 0) :: (.int 0) :: (.int 0) :: (.int 0) :: (.int 0) :: (.long 0) :: (.int 0) :: (.int 0) :: (.int 0) :: (.ref (ex 5)) :: (.ref (ex 6)) :: (.int 0) :: (.ref (ex 7)) :: (.int (-1)) :: (.int 0) :: (.int 0) :: (.int 0) :: (.int 0) :: (.int 0) :: (.int 0) :: (.ref (ex 8)) :: (.int 0) :: (.ref (ex 9)) :: (.int 0) :: (.int 0) :: (.int 0) :: (.int 0) :: (.int 0) :: (.ref (ex 10)) :: (.ref (ex 11)) :: (.ref (ex 12)) :: (.ref (ex 13)) :: []))), ((a 1), .inl (T 1, 2187, .inl (fun _ => 0)))]
set_option maxHeartbeats 4000000 in
set_option maxRecDepth 100000 in
theorem c_X12_die (l : Launch) (D : va_G) (T : Nat → ClassId) (a ex : Nat → Nat) (fi : Nat → Nat → Int32) (fl : Nat → Nat → Int64) (vi : Nat → Int32) (sz : Nat) : Met l yX12_die (xw yX12_die cX12_die 3 (some .int)) ({ frames := 2, cells := 0, slots := 0, locals := 51 }) (xP D T [.ref (a 0), .int (vi 0), .int (vi 1)] sz (pre_X12_die T a ex fi fl vi)) (va_Qi (fun r (_ : Unit) => r = (-1)) (xB D (va_A (pre_X12_die T a ex fi fl vi) sz) (fun _ => True) (fun b fj fm vj => [])) (va_A (pre_X12_die T a ex fi fl vi) sz)) 0 0 (va_A (pre_X12_die T a ex fi fl vi) sz) := by
  refine xofW (cc := cX12_die) (maxL := 3) (ret := (some .int)) (by decide) rfl ?_
  intro p e s m args below meth c s₁ R Q hR hQ B hml hv
  obtain ⟨rfl, hsz, hP, hK, hD0⟩ := hv
  have hx := B.exec
  have hb := B.bytes
  have hr := B.returns
  have hts := atoms_spec (ws := xw yX12_die cX12_die 3 (some .int)) B.pre
  have htg : ∀ w ∈ xg, w.before _ s = true := fun w h => hts w (List.mem_cons_of_mem _ h)
  have hown : s.vm.findClass RX12 = some m.cls := findClass_of_methodNamed B.named
  have hlocks := B.notSynchronized
  subst hsz
  have hD := hD0.self (sz := s.heap.size)
  generalize hAe : va_A (pre_X12_die T a ex fi fl vi) s.heap.size = A at hD hQ
  have hA : ∀ q : Nat, s.heap.size ≤ q → A q := fun q h => by rw [← hAe]; exact Or.inr h
  have hS : va_S A s.heap s.heap [] := va_S.rf
  replace hP : va_P D vwCl [((a 0), .inr (12, ((.int 0) :: (.ref (ex 0)) :: (.int 0) :: (.int 0) :: (.int 0) :: (.int 0) :: (.ref (a 1)) :: (.ref (ex 1)) :: (.ref (ex 2)) :: (.ref (ex 3)) :: (.ref (ex 4)) :: (.int 0) :: (.int 0) :: (.int 0) :: (.int 0) :: (.int 0) :: (.int 0) :: (.long 0) :: (.int 0) :: (.int 0) :: (.int 0) :: (.ref (ex 5)) :: (.ref (ex 6)) :: (.int 0) :: (.ref (ex 7)) :: (.int (-1)) :: (.int 0) :: (.int 0) :: (.int 0) :: (.int 0) :: (.int 0) :: (.int 0) :: (.ref (ex 8)) :: (.int 0) :: (.ref (ex 9)) :: (.int 0) :: (.int 0) :: (.int 0) :: (.int 0) :: (.int 0) :: (.ref (ex 10)) :: (.ref (ex 11)) :: (.ref (ex 12)) :: (.ref (ex 13)) :: []))), ((a 1), .inl (T 1, 2187, .inl (fun _ => 0)))] s.heap := hP
  replace hD : va_D A [((a 0), .inr (12, ((.int 0) :: (.ref (ex 0)) :: (.int 0) :: (.int 0) :: (.int 0) :: (.int 0) :: (.ref (a 1)) :: (.ref (ex 1)) :: (.ref (ex 2)) :: (.ref (ex 3)) :: (.ref (ex 4)) :: (.int 0) :: (.int 0) :: (.int 0) :: (.int 0) :: (.int 0) :: (.int 0) :: (.long 0) :: (.int 0) :: (.int 0) :: (.int 0) :: (.ref (ex 5)) :: (.ref (ex 6)) :: (.int 0) :: (.ref (ex 7)) :: (.int (-1)) :: (.int 0) :: (.int 0) :: (.int 0) :: (.int 0) :: (.int 0) :: (.int 0) :: (.ref (ex 8)) :: (.int 0) :: (.ref (ex 9)) :: (.int 0) :: (.int 0) :: (.int 0) :: (.int 0) :: (.int 0) :: (.ref (ex 10)) :: (.ref (ex 11)) :: (.ref (ex 12)) :: (.ref (ex 13)) :: []))), ((a 1), .inl (T 1, 2187, .inl (fun _ => 0)))] := hD
  have hl := lv_entry ([.ref (a 0), .int (vi 0), .int (vi 1)]) (n := 3) (Nat.le_of_ble_eq_true rfl)
  rw [lg_entry_eq]
  generalize (lg_sl ([.ref (a 0), .int (vi 0), .int (vi 1)]) ++ List.replicate (3 - (lg_sl ([.ref (a 0), .int (vi 0), .int (vi 1)])).length) Slot.unset).toArray = ls at hl ⊢
  replace hl : lv_has ls 3 [(0, .ref (a 0)), (1, .int (vi 0)), (2, .int (vi 1))] := hl
  refine lv_aload_n hx hb dX12_die_0 rfl (lv_at hl 0 rfl) ?_
  refine lv_iconst (v := 0) hx hb dX12_die_1 (by decide) ?_
  refine va_put (D := D) (ci := 12) (v := .int 0) (ty := .int) (C := RX12) (T := TX12) (N := 44) hx hb htg inX12 tyX12 tyX12_ok nmX12 hown hK.1 hP hD hS 0 rfl rfl 0 (by decide) (htg _ kw_1407) (fun _ h9 => h9) rfl (by decide +kernel) rfl rfl (Nat.le_of_ble_eq_true rfl) dX12_die_2 (fun H locs hP hD hS => ?_)
  replace hP : va_P D vwCl [((a 0), .inr (12, ((.int 0) :: (.ref (ex 0)) :: (.int 0) :: (.int 0) :: (.int 0) :: (.int 0) :: (.ref (a 1)) :: (.ref (ex 1)) :: (.ref (ex 2)) :: (.ref (ex 3)) :: (.ref (ex 4)) :: (.int 0) :: (.int 0) :: (.int 0) :: (.int 0) :: (.int 0) :: (.int 0) :: (.long 0) :: (.int 0) :: (.int 0) :: (.int 0) :: (.ref (ex 5)) :: (.ref (ex 6)) :: (.int 0) :: (.ref (ex 7)) :: (.int (-1)) :: (.int 0) :: (.int 0) :: (.int 0) :: (.int 0) :: (.int 0) :: (.int 0) :: (.ref (ex 8)) :: (.int 0) :: (.ref (ex 9)) :: (.int 0) :: (.int 0) :: (.int 0) :: (.int 0) :: (.int 0) :: (.ref (ex 10)) :: (.ref (ex 11)) :: (.ref (ex 12)) :: (.ref (ex 13)) :: []))), ((a 1), .inl (T 1, 2187, .inl (fun _ => 0)))] H := hP
  replace hD : va_D A [((a 0), .inr (12, ((.int 0) :: (.ref (ex 0)) :: (.int 0) :: (.int 0) :: (.int 0) :: (.int 0) :: (.ref (a 1)) :: (.ref (ex 1)) :: (.ref (ex 2)) :: (.ref (ex 3)) :: (.ref (ex 4)) :: (.int 0) :: (.int 0) :: (.int 0) :: (.int 0) :: (.int 0) :: (.int 0) :: (.long 0) :: (.int 0) :: (.int 0) :: (.int 0) :: (.ref (ex 5)) :: (.ref (ex 6)) :: (.int 0) :: (.ref (ex 7)) :: (.int (-1)) :: (.int 0) :: (.int 0) :: (.int 0) :: (.int 0) :: (.int 0) :: (.int 0) :: (.ref (ex 8)) :: (.int 0) :: (.ref (ex 9)) :: (.int 0) :: (.int 0) :: (.int 0) :: (.int 0) :: (.int 0) :: (.ref (ex 10)) :: (.ref (ex 11)) :: (.ref (ex 12)) :: (.ref (ex 13)) :: []))), ((a 1), .inl (T 1, 2187, .inl (fun _ => 0)))] := hD
  refine lv_aload_n hx hb dX12_die_5 rfl (lv_at hl 0 rfl) ?_
  refine lv_iload_n hx hb dX12_die_6 rfl (lv_at hl 1 rfl) ?_
  have hPc := hP.sub (ws' := (pre_X12_isSoul T (xa [(a 0), (a 1)]) (xa [(ex 0), (ex 1), (ex 2), (ex 3), (ex 4), (ex 5), (ex 6), (ex 7), (ex 8), (ex 9), (ex 10), (ex 11), (ex 12), (ex 13)]) (xf []) (xh []) (xv [(vi 0)]))) [0, 1] rfl
  have hDc := hD.sub (ws' := (pre_X12_isSoul T (xa [(a 0), (a 1)]) (xa [(ex 0), (ex 1), (ex 2), (ex 3), (ex 4), (ex 5), (ex 6), (ex 7), (ex 8), (ex 9), (ex 10), (ex 11), (ex 12), (ex 13)]) (xf []) (xh []) (xv [(vi 0)]))) [0, 1] (by decide) rfl
  have hFc := va_free (wc := (pre_X12_isSoul T (xa [(a 0), (a 1)]) (xa [(ex 0), (ex 1), (ex 2), (ex 3), (ex 4), (ex 5), (ex 6), (ex 7), (ex 8), (ex 9), (ex 10), (ex 11), (ex 12), (ex 13)]) (xf []) (xh []) (xv [(vi 0)]))) hD hS hA [0, 1] rfl
  refine va_calli (va_runV (As := [.int (vi 0)]) (rest := []) ⟨hx, hb, hml, hown, htg⟩ (c_X12_isSoul l D T (xa [(a 0), (a 1)]) (xa [(ex 0), (ex 1), (ex 2), (ex 3), (ex 4), (ex 5), (ex 6), (ex 7), (ex 8), (ex 9), (ex 10), (ex 11), (ex 12), (ex 13)]) (xf []) (xh []) (xv [(vi 0)]) H.size) ⟨callB_of 1 htg (xg_ok kw_1652) rfl rfl rfl (htg _ kw_17) (htg _ kw_1649) (by decide +kernel) ⟨by rw [hR]; exact Nat.le_of_ble_eq_true rfl, by rw [hR]; exact Nat.le_of_ble_eq_true rfl⟩, htg _ kw_1651, htg _ ks_135⟩ (xpreV hK hPc hDc (va_recv hK.1 hPc (ci := 12) (q0 := 0) rfl rfl)) rfl rfl hl.1 rfl (lv_room (Nat.le_of_ble_eq_true rfl)) dX12_die_7 ⟨by rw [hR]; exact Nat.le_of_ble_eq_true rfl, by rw [hR]; exact Nat.le_of_ble_eq_true rfl⟩) hS (fun q _ h => hFc q h) hFc (fun r9 u t H1 locs ht hvm hw hB hz1 hk1 hS => ?_)
  obtain ⟨bk, fik, flk, vik, hP1, hD1, hGk⟩ := hB
  rw [ht] at hP1
  obtain ⟨hP, hD⟩ := va_join (wr := []) (w1 := [((a 0), .inr (12, ((.int 0) :: (.ref (ex 0)) :: (.int 0) :: (.int 0) :: (.int 0) :: (.int 0) :: (.ref (a 1)) :: (.ref (ex 1)) :: (.ref (ex 2)) :: (.ref (ex 3)) :: (.ref (ex 4)) :: (.int 0) :: (.int 0) :: (.int 0) :: (.int 0) :: (.int 0) :: (.int 0) :: (.long 0) :: (.int 0) :: (.int 0) :: (.int 0) :: (.ref (ex 5)) :: (.ref (ex 6)) :: (.int 0) :: (.ref (ex 7)) :: (.int (-1)) :: (.int 0) :: (.int 0) :: (.int 0) :: (.int 0) :: (.int 0) :: (.int 0) :: (.ref (ex 8)) :: (.int 0) :: (.ref (ex 9)) :: (.int 0) :: (.int 0) :: (.int 0) :: (.int 0) :: (.int 0) :: (.ref (ex 10)) :: (.ref (ex 11)) :: (.ref (ex 12)) :: (.ref (ex 13)) :: []))), ((a 1), .inl (T 1, 2187, .inl (fun _ => 0)))]) hP hD [0, 1] [] rfl rfl (by decide) (by decide) hk1 hFc hP1 hD1
  subst hw
  clear hPc hDc hFc hP1 hD1 hk1 hz1 hvm ht
  generalize H1 = H at hP hS ⊢
  replace hP : va_P D vwCl [((a 0), .inr (12, ((.int 0) :: (.ref (ex 0)) :: (.int 0) :: (.int 0) :: (.int 0) :: (.int 0) :: (.ref (a 1)) :: (.ref (ex 1)) :: (.ref (ex 2)) :: (.ref (ex 3)) :: (.ref (ex 4)) :: (.int 0) :: (.int 0) :: (.int 0) :: (.int 0) :: (.int 0) :: (.int 0) :: (.long 0) :: (.int 0) :: (.int 0) :: (.int 0) :: (.ref (ex 5)) :: (.ref (ex 6)) :: (.int 0) :: (.ref (ex 7)) :: (.int (-1)) :: (.int 0) :: (.int 0) :: (.int 0) :: (.int 0) :: (.int 0) :: (.int 0) :: (.ref (ex 8)) :: (.int 0) :: (.ref (ex 9)) :: (.int 0) :: (.int 0) :: (.int 0) :: (.int 0) :: (.int 0) :: (.ref (ex 10)) :: (.ref (ex 11)) :: (.ref (ex 12)) :: (.ref (ex 13)) :: []))), ((a 1), .inl (T 1, 2187, .inl (fun _ => 0)))] H := hP
  replace hD : va_D A [((a 0), .inr (12, ((.int 0) :: (.ref (ex 0)) :: (.int 0) :: (.int 0) :: (.int 0) :: (.int 0) :: (.ref (a 1)) :: (.ref (ex 1)) :: (.ref (ex 2)) :: (.ref (ex 3)) :: (.ref (ex 4)) :: (.int 0) :: (.int 0) :: (.int 0) :: (.int 0) :: (.int 0) :: (.int 0) :: (.long 0) :: (.int 0) :: (.int 0) :: (.int 0) :: (.ref (ex 5)) :: (.ref (ex 6)) :: (.int 0) :: (.ref (ex 7)) :: (.int (-1)) :: (.int 0) :: (.int 0) :: (.int 0) :: (.int 0) :: (.int 0) :: (.int 0) :: (.ref (ex 8)) :: (.int 0) :: (.ref (ex 9)) :: (.int 0) :: (.int 0) :: (.int 0) :: (.int 0) :: (.int 0) :: (.ref (ex 10)) :: (.ref (ex 11)) :: (.ref (ex 12)) :: (.ref (ex 13)) :: []))), ((a 1), .inl (T 1, 2187, .inl (fun _ => 0)))] := hD
  refine lv_if_eq (tgt := 22) hx hb dX12_die_10 (by decide) (fun _ => ?_) (fun c => absurd (by decide) c)
  refine lv_iconst (v := (-1)) hx hb dX12_die_22 (by decide) ?_
  have hP9 := hP.sub (ws' := []) [] rfl
  have hD9 := hD.sub (ws' := []) [] (by decide) rfl
  rw [hQ]
  exact W.iret (v := (-1)) hx hb hr (fun t ht hW => ⟨⟨(-1), (), rfl, rfl, ⟨xa [], xf [], xh [], xv [], by rw [ht]; exact hP9, hD9, trivial⟩⟩, hS.F ht⟩) hS.2.2 dX12_die_23
abbrev pre_X12_flee (T : Nat → ClassId) (a ex : Nat → Nat) (fi : Nat → Nat → Int32) (fl : Nat → Nat → Int64) (vi : Nat → Int32) : va_W := [((a 0), .inr (12, ((.int 0) :: (.ref (ex 0)) :: (.int 0) :: (.int 0) :: (.int 0) :: (.int 0) :: (.ref (a 1)) :: (.ref (ex 1)) :: (.ref (ex 2)) :: (.ref (ex 3)) :: (.ref (ex 4)) :: (.int 0) :: (.int 0) :: (.int 0) :: (.int 0) :: (.int 0) :: (.int 0) :: (.long 0) :: (.int 0) :: (.int 0) :: (.int 0) :: (.ref (ex 5)) :: (.ref (ex 6)) :: (.int 0) :: (.ref (ex 7)) :: (.int (-1)) :: (.int 0) :: (.int 0) :: (.int 0) :: (.int 0) :: (.int 0) :: (.int 0) :: (.ref (ex 8)) :: (.int 0) :: (.ref (ex 9)) :: (.int 0) :: (.int 0) :: (.int 0) :: (.int 0) :: (.int 0) :: (.ref (ex 10)) :: (.ref (ex 11)) :: (.ref (ex 12)) :: (.ref (ex 13)) :: []))), ((a 1), .inl (T 1, 2187, .inl (fun _ => 0)))]
set_option maxHeartbeats 4000000 in
set_option maxRecDepth 100000 in
theorem c_X12_flee (l : Launch) (D : va_G) (T : Nat → ClassId) (a ex : Nat → Nat) (fi : Nat → Nat → Int32) (fl : Nat → Nat → Int64) (vi : Nat → Int32) (sz : Nat) : Met l yX12_flee (xw yX12_flee cX12_flee 3 (some .int)) ({ frames := 2, cells := 0, slots := 0, locals := 51 }) (xP D T [.ref (a 0), .int (vi 0)] sz (pre_X12_flee T a ex fi fl vi)) (va_Qi (fun r (_ : Unit) => r = (-1)) (xB D (va_A (pre_X12_flee T a ex fi fl vi) sz) (fun _ => True) (fun b fj fm vj => [])) (va_A (pre_X12_flee T a ex fi fl vi) sz)) 0 0 (va_A (pre_X12_flee T a ex fi fl vi) sz) := by
  refine xofW (cc := cX12_flee) (maxL := 3) (ret := (some .int)) (by decide) rfl ?_
  intro p e s m args below meth c s₁ R Q hR hQ B hml hv
  obtain ⟨rfl, hsz, hP, hK, hD0⟩ := hv
  have hx := B.exec
  have hb := B.bytes
  have hr := B.returns
  have hts := atoms_spec (ws := xw yX12_flee cX12_flee 3 (some .int)) B.pre
  have htg : ∀ w ∈ xg, w.before _ s = true := fun w h => hts w (List.mem_cons_of_mem _ h)
  have hown : s.vm.findClass RX12 = some m.cls := findClass_of_methodNamed B.named
  have hlocks := B.notSynchronized
  subst hsz
  have hD := hD0.self (sz := s.heap.size)
  generalize hAe : va_A (pre_X12_flee T a ex fi fl vi) s.heap.size = A at hD hQ
  have hA : ∀ q : Nat, s.heap.size ≤ q → A q := fun q h => by rw [← hAe]; exact Or.inr h
  have hS : va_S A s.heap s.heap [] := va_S.rf
  replace hP : va_P D vwCl [((a 0), .inr (12, ((.int 0) :: (.ref (ex 0)) :: (.int 0) :: (.int 0) :: (.int 0) :: (.int 0) :: (.ref (a 1)) :: (.ref (ex 1)) :: (.ref (ex 2)) :: (.ref (ex 3)) :: (.ref (ex 4)) :: (.int 0) :: (.int 0) :: (.int 0) :: (.int 0) :: (.int 0) :: (.int 0) :: (.long 0) :: (.int 0) :: (.int 0) :: (.int 0) :: (.ref (ex 5)) :: (.ref (ex 6)) :: (.int 0) :: (.ref (ex 7)) :: (.int (-1)) :: (.int 0) :: (.int 0) :: (.int 0) :: (.int 0) :: (.int 0) :: (.int 0) :: (.ref (ex 8)) :: (.int 0) :: (.ref (ex 9)) :: (.int 0) :: (.int 0) :: (.int 0) :: (.int 0) :: (.int 0) :: (.ref (ex 10)) :: (.ref (ex 11)) :: (.ref (ex 12)) :: (.ref (ex 13)) :: []))), ((a 1), .inl (T 1, 2187, .inl (fun _ => 0)))] s.heap := hP
  replace hD : va_D A [((a 0), .inr (12, ((.int 0) :: (.ref (ex 0)) :: (.int 0) :: (.int 0) :: (.int 0) :: (.int 0) :: (.ref (a 1)) :: (.ref (ex 1)) :: (.ref (ex 2)) :: (.ref (ex 3)) :: (.ref (ex 4)) :: (.int 0) :: (.int 0) :: (.int 0) :: (.int 0) :: (.int 0) :: (.int 0) :: (.long 0) :: (.int 0) :: (.int 0) :: (.int 0) :: (.ref (ex 5)) :: (.ref (ex 6)) :: (.int 0) :: (.ref (ex 7)) :: (.int (-1)) :: (.int 0) :: (.int 0) :: (.int 0) :: (.int 0) :: (.int 0) :: (.int 0) :: (.ref (ex 8)) :: (.int 0) :: (.ref (ex 9)) :: (.int 0) :: (.int 0) :: (.int 0) :: (.int 0) :: (.int 0) :: (.ref (ex 10)) :: (.ref (ex 11)) :: (.ref (ex 12)) :: (.ref (ex 13)) :: []))), ((a 1), .inl (T 1, 2187, .inl (fun _ => 0)))] := hD
  have hl := lv_entry ([.ref (a 0), .int (vi 0)]) (n := 3) (Nat.le_of_ble_eq_true rfl)
  rw [lg_entry_eq]
  generalize (lg_sl ([.ref (a 0), .int (vi 0)]) ++ List.replicate (3 - (lg_sl ([.ref (a 0), .int (vi 0)])).length) Slot.unset).toArray = ls at hl ⊢
  replace hl : lv_has ls 3 [(0, .ref (a 0)), (1, .int (vi 0))] := hl
  refine lv_aload_n hx hb dX12_flee_0 rfl (lv_at hl 0 rfl) ?_
  refine lv_iconst (v := 0) hx hb dX12_flee_1 (by decide) ?_
  refine va_put (D := D) (ci := 12) (v := .int 0) (ty := .int) (C := RX12) (T := TX12) (N := 44) hx hb htg inX12 tyX12 tyX12_ok nmX12 hown hK.1 hP hD hS 0 rfl rfl 0 (by decide) (htg _ kw_1407) (fun _ h9 => h9) rfl (by decide +kernel) rfl rfl (Nat.le_of_ble_eq_true rfl) dX12_flee_2 (fun H locs hP hD hS => ?_)
  replace hP : va_P D vwCl [((a 0), .inr (12, ((.int 0) :: (.ref (ex 0)) :: (.int 0) :: (.int 0) :: (.int 0) :: (.int 0) :: (.ref (a 1)) :: (.ref (ex 1)) :: (.ref (ex 2)) :: (.ref (ex 3)) :: (.ref (ex 4)) :: (.int 0) :: (.int 0) :: (.int 0) :: (.int 0) :: (.int 0) :: (.int 0) :: (.long 0) :: (.int 0) :: (.int 0) :: (.int 0) :: (.ref (ex 5)) :: (.ref (ex 6)) :: (.int 0) :: (.ref (ex 7)) :: (.int (-1)) :: (.int 0) :: (.int 0) :: (.int 0) :: (.int 0) :: (.int 0) :: (.int 0) :: (.ref (ex 8)) :: (.int 0) :: (.ref (ex 9)) :: (.int 0) :: (.int 0) :: (.int 0) :: (.int 0) :: (.int 0) :: (.ref (ex 10)) :: (.ref (ex 11)) :: (.ref (ex 12)) :: (.ref (ex 13)) :: []))), ((a 1), .inl (T 1, 2187, .inl (fun _ => 0)))] H := hP
  replace hD : va_D A [((a 0), .inr (12, ((.int 0) :: (.ref (ex 0)) :: (.int 0) :: (.int 0) :: (.int 0) :: (.int 0) :: (.ref (a 1)) :: (.ref (ex 1)) :: (.ref (ex 2)) :: (.ref (ex 3)) :: (.ref (ex 4)) :: (.int 0) :: (.int 0) :: (.int 0) :: (.int 0) :: (.int 0) :: (.int 0) :: (.long 0) :: (.int 0) :: (.int 0) :: (.int 0) :: (.ref (ex 5)) :: (.ref (ex 6)) :: (.int 0) :: (.ref (ex 7)) :: (.int (-1)) :: (.int 0) :: (.int 0) :: (.int 0) :: (.int 0) :: (.int 0) :: (.int 0) :: (.ref (ex 8)) :: (.int 0) :: (.ref (ex 9)) :: (.int 0) :: (.int 0) :: (.int 0) :: (.int 0) :: (.int 0) :: (.ref (ex 10)) :: (.ref (ex 11)) :: (.ref (ex 12)) :: (.ref (ex 13)) :: []))), ((a 1), .inl (T 1, 2187, .inl (fun _ => 0)))] := hD
  refine lv_aload_n hx hb dX12_flee_5 rfl (lv_at hl 0 rfl) ?_
  refine lv_iload_n hx hb dX12_flee_6 rfl (lv_at hl 1 rfl) ?_
  have hPc := hP.sub (ws' := (pre_X12_isSoul T (xa [(a 0), (a 1)]) (xa [(ex 0), (ex 1), (ex 2), (ex 3), (ex 4), (ex 5), (ex 6), (ex 7), (ex 8), (ex 9), (ex 10), (ex 11), (ex 12), (ex 13)]) (xf []) (xh []) (xv [(vi 0)]))) [0, 1] rfl
  have hDc := hD.sub (ws' := (pre_X12_isSoul T (xa [(a 0), (a 1)]) (xa [(ex 0), (ex 1), (ex 2), (ex 3), (ex 4), (ex 5), (ex 6), (ex 7), (ex 8), (ex 9), (ex 10), (ex 11), (ex 12), (ex 13)]) (xf []) (xh []) (xv [(vi 0)]))) [0, 1] (by decide) rfl
  have hFc := va_free (wc := (pre_X12_isSoul T (xa [(a 0), (a 1)]) (xa [(ex 0), (ex 1), (ex 2), (ex 3), (ex 4), (ex 5), (ex 6), (ex 7), (ex 8), (ex 9), (ex 10), (ex 11), (ex 12), (ex 13)]) (xf []) (xh []) (xv [(vi 0)]))) hD hS hA [0, 1] rfl
  refine va_calli (va_runV (As := [.int (vi 0)]) (rest := []) ⟨hx, hb, hml, hown, htg⟩ (c_X12_isSoul l D T (xa [(a 0), (a 1)]) (xa [(ex 0), (ex 1), (ex 2), (ex 3), (ex 4), (ex 5), (ex 6), (ex 7), (ex 8), (ex 9), (ex 10), (ex 11), (ex 12), (ex 13)]) (xf []) (xh []) (xv [(vi 0)]) H.size) ⟨callB_of 1 htg (xg_ok kw_1652) rfl rfl rfl (htg _ kw_17) (htg _ kw_1649) (by decide +kernel) ⟨by rw [hR]; exact Nat.le_of_ble_eq_true rfl, by rw [hR]; exact Nat.le_of_ble_eq_true rfl⟩, htg _ kw_1651, htg _ ks_135⟩ (xpreV hK hPc hDc (va_recv hK.1 hPc (ci := 12) (q0 := 0) rfl rfl)) rfl rfl hl.1 rfl (lv_room (Nat.le_of_ble_eq_true rfl)) dX12_flee_7 ⟨by rw [hR]; exact Nat.le_of_ble_eq_true rfl, by rw [hR]; exact Nat.le_of_ble_eq_true rfl⟩) hS (fun q _ h => hFc q h) hFc (fun r9 u t H1 locs ht hvm hw hB hz1 hk1 hS => ?_)
  obtain ⟨bk, fik, flk, vik, hP1, hD1, hGk⟩ := hB
  rw [ht] at hP1
  obtain ⟨hP, hD⟩ := va_join (wr := []) (w1 := [((a 0), .inr (12, ((.int 0) :: (.ref (ex 0)) :: (.int 0) :: (.int 0) :: (.int 0) :: (.int 0) :: (.ref (a 1)) :: (.ref (ex 1)) :: (.ref (ex 2)) :: (.ref (ex 3)) :: (.ref (ex 4)) :: (.int 0) :: (.int 0) :: (.int 0) :: (.int 0) :: (.int 0) :: (.int 0) :: (.long 0) :: (.int 0) :: (.int 0) :: (.int 0) :: (.ref (ex 5)) :: (.ref (ex 6)) :: (.int 0) :: (.ref (ex 7)) :: (.int (-1)) :: (.int 0) :: (.int 0) :: (.int 0) :: (.int 0) :: (.int 0) :: (.int 0) :: (.ref (ex 8)) :: (.int 0) :: (.ref (ex 9)) :: (.int 0) :: (.int 0) :: (.int 0) :: (.int 0) :: (.int 0) :: (.ref (ex 10)) :: (.ref (ex 11)) :: (.ref (ex 12)) :: (.ref (ex 13)) :: []))), ((a 1), .inl (T 1, 2187, .inl (fun _ => 0)))]) hP hD [0, 1] [] rfl rfl (by decide) (by decide) hk1 hFc hP1 hD1
  subst hw
  clear hPc hDc hFc hP1 hD1 hk1 hz1 hvm ht
  generalize H1 = H at hP hS ⊢
  replace hP : va_P D vwCl [((a 0), .inr (12, ((.int 0) :: (.ref (ex 0)) :: (.int 0) :: (.int 0) :: (.int 0) :: (.int 0) :: (.ref (a 1)) :: (.ref (ex 1)) :: (.ref (ex 2)) :: (.ref (ex 3)) :: (.ref (ex 4)) :: (.int 0) :: (.int 0) :: (.int 0) :: (.int 0) :: (.int 0) :: (.int 0) :: (.long 0) :: (.int 0) :: (.int 0) :: (.int 0) :: (.ref (ex 5)) :: (.ref (ex 6)) :: (.int 0) :: (.ref (ex 7)) :: (.int (-1)) :: (.int 0) :: (.int 0) :: (.int 0) :: (.int 0) :: (.int 0) :: (.int 0) :: (.ref (ex 8)) :: (.int 0) :: (.ref (ex 9)) :: (.int 0) :: (.int 0) :: (.int 0) :: (.int 0) :: (.int 0) :: (.ref (ex 10)) :: (.ref (ex 11)) :: (.ref (ex 12)) :: (.ref (ex 13)) :: []))), ((a 1), .inl (T 1, 2187, .inl (fun _ => 0)))] H := hP
  replace hD : va_D A [((a 0), .inr (12, ((.int 0) :: (.ref (ex 0)) :: (.int 0) :: (.int 0) :: (.int 0) :: (.int 0) :: (.ref (a 1)) :: (.ref (ex 1)) :: (.ref (ex 2)) :: (.ref (ex 3)) :: (.ref (ex 4)) :: (.int 0) :: (.int 0) :: (.int 0) :: (.int 0) :: (.int 0) :: (.int 0) :: (.long 0) :: (.int 0) :: (.int 0) :: (.int 0) :: (.ref (ex 5)) :: (.ref (ex 6)) :: (.int 0) :: (.ref (ex 7)) :: (.int (-1)) :: (.int 0) :: (.int 0) :: (.int 0) :: (.int 0) :: (.int 0) :: (.int 0) :: (.ref (ex 8)) :: (.int 0) :: (.ref (ex 9)) :: (.int 0) :: (.int 0) :: (.int 0) :: (.int 0) :: (.int 0) :: (.ref (ex 10)) :: (.ref (ex 11)) :: (.ref (ex 12)) :: (.ref (ex 13)) :: []))), ((a 1), .inl (T 1, 2187, .inl (fun _ => 0)))] := hD
  refine lv_if_ne (tgt := 15) hx hb dX12_flee_10 (by decide) (fun c => absurd (by decide) c) (fun _ => ?_)
  refine lv_iconst (v := (-1)) hx hb dX12_flee_13 (by decide) ?_
  have hP9 := hP.sub (ws' := []) [] rfl
  have hD9 := hD.sub (ws' := []) [] (by decide) rfl
  rw [hQ]
  exact W.iret (v := (-1)) hx hb hr (fun t ht hW => ⟨⟨(-1), (), rfl, rfl, ⟨xa [], xf [], xh [], xv [], by rw [ht]; exact hP9, hD9, trivial⟩⟩, hS.F ht⟩) hS.2.2 dX12_flee_14
abbrev pre_X12_pay (T : Nat → ClassId) (a ex : Nat → Nat) (fi : Nat → Nat → Int32) (fl : Nat → Nat → Int64) (vi : Nat → Int32) : va_W := [((a 0), .inr (12, ((.int 0) :: (.ref (ex 0)) :: (.int 0) :: (.int 0) :: (.int 0) :: (.int 0) :: (.ref (a 1)) :: (.ref (ex 1)) :: (.ref (ex 2)) :: (.ref (ex 3)) :: (.ref (ex 4)) :: (.int 0) :: (.int 0) :: (.int 0) :: (.int 0) :: (.int 0) :: (.int 0) :: (.long 0) :: (.int 0) :: (.int 0) :: (.int 0) :: (.ref (ex 5)) :: (.ref (ex 6)) :: (.int 0) :: (.ref (ex 7)) :: (.int (-1)) :: (.int 0) :: (.int 0) :: (.int 0) :: (.int 0) :: (.int 0) :: (.int 0) :: (.ref (ex 8)) :: (.int 0) :: (.ref (ex 9)) :: (.int 0) :: (.int 0) :: (.int 0) :: (.int 0) :: (.int 0) :: (.ref (ex 10)) :: (.ref (ex 11)) :: (.ref (ex 12)) :: (.ref (ex 13)) :: []))), ((a 1), .inl (T 1, 2187, .inl (fun _ => 0)))]
set_option maxHeartbeats 4000000 in
set_option maxRecDepth 100000 in
theorem c_X12_pay (l : Launch) (D : va_G) (T : Nat → ClassId) (a ex : Nat → Nat) (fi : Nat → Nat → Int32) (fl : Nat → Nat → Int64) (vi : Nat → Int32) (sz : Nat) : Met l yX12_pay (xw yX12_pay cX12_pay 4 (some .int)) ({ frames := 2, cells := 0, slots := 0, locals := 51 }) (xP D T [.ref (a 0), .int (vi 0), .int (vi 1)] sz (pre_X12_pay T a ex fi fl vi)) (va_Qi (fun r (_ : Unit) => r = (-1)) (xB D (va_A (pre_X12_pay T a ex fi fl vi) sz) (fun _ => True) (fun b fj fm vj => [])) (va_A (pre_X12_pay T a ex fi fl vi) sz)) 0 0 (va_A (pre_X12_pay T a ex fi fl vi) sz) := by
  refine xofW (cc := cX12_pay) (maxL := 4) (ret := (some .int)) (by decide) rfl ?_
  intro p e s m args below meth c s₁ R Q hR hQ B hml hv
  obtain ⟨rfl, hsz, hP, hK, hD0⟩ := hv
  have hx := B.exec
  have hb := B.bytes
  have hr := B.returns
  have hts := atoms_spec (ws := xw yX12_pay cX12_pay 4 (some .int)) B.pre
  have htg : ∀ w ∈ xg, w.before _ s = true := fun w h => hts w (List.mem_cons_of_mem _ h)
  have hown : s.vm.findClass RX12 = some m.cls := findClass_of_methodNamed B.named
  have hlocks := B.notSynchronized
  subst hsz
  have hD := hD0.self (sz := s.heap.size)
  generalize hAe : va_A (pre_X12_pay T a ex fi fl vi) s.heap.size = A at hD hQ
  have hA : ∀ q : Nat, s.heap.size ≤ q → A q := fun q h => by rw [← hAe]; exact Or.inr h
  have hS : va_S A s.heap s.heap [] := va_S.rf
  replace hP : va_P D vwCl [((a 0), .inr (12, ((.int 0) :: (.ref (ex 0)) :: (.int 0) :: (.int 0) :: (.int 0) :: (.int 0) :: (.ref (a 1)) :: (.ref (ex 1)) :: (.ref (ex 2)) :: (.ref (ex 3)) :: (.ref (ex 4)) :: (.int 0) :: (.int 0) :: (.int 0) :: (.int 0) :: (.int 0) :: (.int 0) :: (.long 0) :: (.int 0) :: (.int 0) :: (.int 0) :: (.ref (ex 5)) :: (.ref (ex 6)) :: (.int 0) :: (.ref (ex 7)) :: (.int (-1)) :: (.int 0) :: (.int 0) :: (.int 0) :: (.int 0) :: (.int 0) :: (.int 0) :: (.ref (ex 8)) :: (.int 0) :: (.ref (ex 9)) :: (.int 0) :: (.int 0) :: (.int 0) :: (.int 0) :: (.int 0) :: (.ref (ex 10)) :: (.ref (ex 11)) :: (.ref (ex 12)) :: (.ref (ex 13)) :: []))), ((a 1), .inl (T 1, 2187, .inl (fun _ => 0)))] s.heap := hP
  replace hD : va_D A [((a 0), .inr (12, ((.int 0) :: (.ref (ex 0)) :: (.int 0) :: (.int 0) :: (.int 0) :: (.int 0) :: (.ref (a 1)) :: (.ref (ex 1)) :: (.ref (ex 2)) :: (.ref (ex 3)) :: (.ref (ex 4)) :: (.int 0) :: (.int 0) :: (.int 0) :: (.int 0) :: (.int 0) :: (.int 0) :: (.long 0) :: (.int 0) :: (.int 0) :: (.int 0) :: (.ref (ex 5)) :: (.ref (ex 6)) :: (.int 0) :: (.ref (ex 7)) :: (.int (-1)) :: (.int 0) :: (.int 0) :: (.int 0) :: (.int 0) :: (.int 0) :: (.int 0) :: (.ref (ex 8)) :: (.int 0) :: (.ref (ex 9)) :: (.int 0) :: (.int 0) :: (.int 0) :: (.int 0) :: (.int 0) :: (.ref (ex 10)) :: (.ref (ex 11)) :: (.ref (ex 12)) :: (.ref (ex 13)) :: []))), ((a 1), .inl (T 1, 2187, .inl (fun _ => 0)))] := hD
  have hl := lv_entry ([.ref (a 0), .int (vi 0), .int (vi 1)]) (n := 4) (Nat.le_of_ble_eq_true rfl)
  rw [lg_entry_eq]
  generalize (lg_sl ([.ref (a 0), .int (vi 0), .int (vi 1)]) ++ List.replicate (4 - (lg_sl ([.ref (a 0), .int (vi 0), .int (vi 1)])).length) Slot.unset).toArray = ls at hl ⊢
  replace hl : lv_has ls 4 [(0, .ref (a 0)), (1, .int (vi 0)), (2, .int (vi 1))] := hl
  refine lv_aload_n hx hb dX12_pay_0 rfl (lv_at hl 0 rfl) ?_
  refine lv_iconst (v := 0) hx hb dX12_pay_1 (by decide) ?_
  refine va_put (D := D) (ci := 12) (v := .int 0) (ty := .int) (C := RX12) (T := TX12) (N := 44) hx hb htg inX12 tyX12 tyX12_ok nmX12 hown hK.1 hP hD hS 0 rfl rfl 0 (by decide) (htg _ kw_1407) (fun _ h9 => h9) rfl (by decide +kernel) rfl rfl (Nat.le_of_ble_eq_true rfl) dX12_pay_2 (fun H locs hP hD hS => ?_)
  replace hP : va_P D vwCl [((a 0), .inr (12, ((.int 0) :: (.ref (ex 0)) :: (.int 0) :: (.int 0) :: (.int 0) :: (.int 0) :: (.ref (a 1)) :: (.ref (ex 1)) :: (.ref (ex 2)) :: (.ref (ex 3)) :: (.ref (ex 4)) :: (.int 0) :: (.int 0) :: (.int 0) :: (.int 0) :: (.int 0) :: (.int 0) :: (.long 0) :: (.int 0) :: (.int 0) :: (.int 0) :: (.ref (ex 5)) :: (.ref (ex 6)) :: (.int 0) :: (.ref (ex 7)) :: (.int (-1)) :: (.int 0) :: (.int 0) :: (.int 0) :: (.int 0) :: (.int 0) :: (.int 0) :: (.ref (ex 8)) :: (.int 0) :: (.ref (ex 9)) :: (.int 0) :: (.int 0) :: (.int 0) :: (.int 0) :: (.int 0) :: (.ref (ex 10)) :: (.ref (ex 11)) :: (.ref (ex 12)) :: (.ref (ex 13)) :: []))), ((a 1), .inl (T 1, 2187, .inl (fun _ => 0)))] H := hP
  replace hD : va_D A [((a 0), .inr (12, ((.int 0) :: (.ref (ex 0)) :: (.int 0) :: (.int 0) :: (.int 0) :: (.int 0) :: (.ref (a 1)) :: (.ref (ex 1)) :: (.ref (ex 2)) :: (.ref (ex 3)) :: (.ref (ex 4)) :: (.int 0) :: (.int 0) :: (.int 0) :: (.int 0) :: (.int 0) :: (.int 0) :: (.long 0) :: (.int 0) :: (.int 0) :: (.int 0) :: (.ref (ex 5)) :: (.ref (ex 6)) :: (.int 0) :: (.ref (ex 7)) :: (.int (-1)) :: (.int 0) :: (.int 0) :: (.int 0) :: (.int 0) :: (.int 0) :: (.int 0) :: (.ref (ex 8)) :: (.int 0) :: (.ref (ex 9)) :: (.int 0) :: (.int 0) :: (.int 0) :: (.int 0) :: (.int 0) :: (.ref (ex 10)) :: (.ref (ex 11)) :: (.ref (ex 12)) :: (.ref (ex 13)) :: []))), ((a 1), .inl (T 1, 2187, .inl (fun _ => 0)))] := hD
  refine lv_aload_n hx hb dX12_pay_5 rfl (lv_at hl 0 rfl) ?_
  refine lv_iload_n hx hb dX12_pay_6 rfl (lv_at hl 1 rfl) ?_
  have hPc := hP.sub (ws' := (pre_X12_isSoul T (xa [(a 0), (a 1)]) (xa [(ex 0), (ex 1), (ex 2), (ex 3), (ex 4), (ex 5), (ex 6), (ex 7), (ex 8), (ex 9), (ex 10), (ex 11), (ex 12), (ex 13)]) (xf []) (xh []) (xv [(vi 0)]))) [0, 1] rfl
  have hDc := hD.sub (ws' := (pre_X12_isSoul T (xa [(a 0), (a 1)]) (xa [(ex 0), (ex 1), (ex 2), (ex 3), (ex 4), (ex 5), (ex 6), (ex 7), (ex 8), (ex 9), (ex 10), (ex 11), (ex 12), (ex 13)]) (xf []) (xh []) (xv [(vi 0)]))) [0, 1] (by decide) rfl
  have hFc := va_free (wc := (pre_X12_isSoul T (xa [(a 0), (a 1)]) (xa [(ex 0), (ex 1), (ex 2), (ex 3), (ex 4), (ex 5), (ex 6), (ex 7), (ex 8), (ex 9), (ex 10), (ex 11), (ex 12), (ex 13)]) (xf []) (xh []) (xv [(vi 0)]))) hD hS hA [0, 1] rfl
  refine va_calli (va_runV (As := [.int (vi 0)]) (rest := []) ⟨hx, hb, hml, hown, htg⟩ (c_X12_isSoul l D T (xa [(a 0), (a 1)]) (xa [(ex 0), (ex 1), (ex 2), (ex 3), (ex 4), (ex 5), (ex 6), (ex 7), (ex 8), (ex 9), (ex 10), (ex 11), (ex 12), (ex 13)]) (xf []) (xh []) (xv [(vi 0)]) H.size) ⟨callB_of 1 htg (xg_ok kw_1652) rfl rfl rfl (htg _ kw_17) (htg _ kw_1649) (by decide +kernel) ⟨by rw [hR]; exact Nat.le_of_ble_eq_true rfl, by rw [hR]; exact Nat.le_of_ble_eq_true rfl⟩, htg _ kw_1651, htg _ ks_135⟩ (xpreV hK hPc hDc (va_recv hK.1 hPc (ci := 12) (q0 := 0) rfl rfl)) rfl rfl hl.1 rfl (lv_room (Nat.le_of_ble_eq_true rfl)) dX12_pay_7 ⟨by rw [hR]; exact Nat.le_of_ble_eq_true rfl, by rw [hR]; exact Nat.le_of_ble_eq_true rfl⟩) hS (fun q _ h => hFc q h) hFc (fun r9 u t H1 locs ht hvm hw hB hz1 hk1 hS => ?_)
  obtain ⟨bk, fik, flk, vik, hP1, hD1, hGk⟩ := hB
  rw [ht] at hP1
  obtain ⟨hP, hD⟩ := va_join (wr := []) (w1 := [((a 0), .inr (12, ((.int 0) :: (.ref (ex 0)) :: (.int 0) :: (.int 0) :: (.int 0) :: (.int 0) :: (.ref (a 1)) :: (.ref (ex 1)) :: (.ref (ex 2)) :: (.ref (ex 3)) :: (.ref (ex 4)) :: (.int 0) :: (.int 0) :: (.int 0) :: (.int 0) :: (.int 0) :: (.int 0) :: (.long 0) :: (.int 0) :: (.int 0) :: (.int 0) :: (.ref (ex 5)) :: (.ref (ex 6)) :: (.int 0) :: (.ref (ex 7)) :: (.int (-1)) :: (.int 0) :: (.int 0) :: (.int 0) :: (.int 0) :: (.int 0) :: (.int 0) :: (.ref (ex 8)) :: (.int 0) :: (.ref (ex 9)) :: (.int 0) :: (.int 0) :: (.int 0) :: (.int 0) :: (.int 0) :: (.ref (ex 10)) :: (.ref (ex 11)) :: (.ref (ex 12)) :: (.ref (ex 13)) :: []))), ((a 1), .inl (T 1, 2187, .inl (fun _ => 0)))]) hP hD [0, 1] [] rfl rfl (by decide) (by decide) hk1 hFc hP1 hD1
  subst hw
  clear hPc hDc hFc hP1 hD1 hk1 hz1 hvm ht
  generalize H1 = H at hP hS ⊢
  replace hP : va_P D vwCl [((a 0), .inr (12, ((.int 0) :: (.ref (ex 0)) :: (.int 0) :: (.int 0) :: (.int 0) :: (.int 0) :: (.ref (a 1)) :: (.ref (ex 1)) :: (.ref (ex 2)) :: (.ref (ex 3)) :: (.ref (ex 4)) :: (.int 0) :: (.int 0) :: (.int 0) :: (.int 0) :: (.int 0) :: (.int 0) :: (.long 0) :: (.int 0) :: (.int 0) :: (.int 0) :: (.ref (ex 5)) :: (.ref (ex 6)) :: (.int 0) :: (.ref (ex 7)) :: (.int (-1)) :: (.int 0) :: (.int 0) :: (.int 0) :: (.int 0) :: (.int 0) :: (.int 0) :: (.ref (ex 8)) :: (.int 0) :: (.ref (ex 9)) :: (.int 0) :: (.int 0) :: (.int 0) :: (.int 0) :: (.int 0) :: (.ref (ex 10)) :: (.ref (ex 11)) :: (.ref (ex 12)) :: (.ref (ex 13)) :: []))), ((a 1), .inl (T 1, 2187, .inl (fun _ => 0)))] H := hP
  replace hD : va_D A [((a 0), .inr (12, ((.int 0) :: (.ref (ex 0)) :: (.int 0) :: (.int 0) :: (.int 0) :: (.int 0) :: (.ref (a 1)) :: (.ref (ex 1)) :: (.ref (ex 2)) :: (.ref (ex 3)) :: (.ref (ex 4)) :: (.int 0) :: (.int 0) :: (.int 0) :: (.int 0) :: (.int 0) :: (.int 0) :: (.long 0) :: (.int 0) :: (.int 0) :: (.int 0) :: (.ref (ex 5)) :: (.ref (ex 6)) :: (.int 0) :: (.ref (ex 7)) :: (.int (-1)) :: (.int 0) :: (.int 0) :: (.int 0) :: (.int 0) :: (.int 0) :: (.int 0) :: (.ref (ex 8)) :: (.int 0) :: (.ref (ex 9)) :: (.int 0) :: (.int 0) :: (.int 0) :: (.int 0) :: (.int 0) :: (.ref (ex 10)) :: (.ref (ex 11)) :: (.ref (ex 12)) :: (.ref (ex 13)) :: []))), ((a 1), .inl (T 1, 2187, .inl (fun _ => 0)))] := hD
  refine lv_if_eq (tgt := 23) hx hb dX12_pay_10 (by decide) (fun _ => ?_) (fun c => absurd (by decide) c)
  refine lv_iconst (v := (-1)) hx hb dX12_pay_23 (by decide) ?_
  have hP9 := hP.sub (ws' := []) [] rfl
  have hD9 := hD.sub (ws' := []) [] (by decide) rfl
  rw [hQ]
  exact W.iret (v := (-1)) hx hb hr (fun t ht hW => ⟨⟨(-1), (), rfl, rfl, ⟨xa [], xf [], xh [], xv [], by rw [ht]; exact hP9, hD9, trivial⟩⟩, hS.F ht⟩) hS.2.2 dX12_pay_24
abbrev pre_X12_lot (T : Nat → ClassId) (a ex : Nat → Nat) (fi : Nat → Nat → Int32) (fl : Nat → Nat → Int64) (vi : Nat → Int32) : va_W := [((a 0), .inr (12, ((.int 0) :: (.ref (ex 0)) :: (.int 0) :: (.int 0) :: (.int 0) :: (.int 0) :: (.ref (a 1)) :: (.ref (ex 1)) :: (.ref (ex 2)) :: (.ref (ex 3)) :: (.ref (ex 4)) :: (.int 0) :: (.int 0) :: (.int 0) :: (.int 0) :: (.int 0) :: (.int 0) :: (.long 0) :: (.int 0) :: (.int 0) :: (.int 0) :: (.ref (ex 5)) :: (.ref (ex 6)) :: (.int 0) :: (.ref (ex 7)) :: (.int (-1)) :: (.int 0) :: (.int 0) :: (.int 0) :: (.int 0) :: (.int 0) :: (.int 0) :: (.ref (ex 8)) :: (.int 0) :: (.ref (ex 9)) :: (.int 0) :: (.int 0) :: (.int 0) :: (.int 0) :: (.int 0) :: (.ref (ex 10)) :: (.ref (ex 11)) :: (.ref (ex 12)) :: (.ref (ex 13)) :: []))), ((a 1), .inl (T 1, 2187, .inl (fun _ => 0)))]
set_option maxHeartbeats 4000000 in
set_option maxRecDepth 100000 in
theorem c_X12_lot (l : Launch) (D : va_G) (T : Nat → ClassId) (a ex : Nat → Nat) (fi : Nat → Nat → Int32) (fl : Nat → Nat → Int64) (vi : Nat → Int32) (sz : Nat) : Met l yX12_lot (xw yX12_lot cX12_lot 4 (some .int)) ({ frames := 2, cells := 0, slots := 0, locals := 51 }) (xP D T [.ref (a 0), .int (vi 0), .int (vi 1)] sz (pre_X12_lot T a ex fi fl vi)) (va_Qi (fun r (_ : Unit) => r = (-1)) (xB D (va_A (pre_X12_lot T a ex fi fl vi) sz) (fun _ => True) (fun b fj fm vj => [])) (va_A (pre_X12_lot T a ex fi fl vi) sz)) 0 0 (va_A (pre_X12_lot T a ex fi fl vi) sz) := by
  refine xofW (cc := cX12_lot) (maxL := 4) (ret := (some .int)) (by decide) rfl ?_
  intro p e s m args below meth c s₁ R Q hR hQ B hml hv
  obtain ⟨rfl, hsz, hP, hK, hD0⟩ := hv
  have hx := B.exec
  have hb := B.bytes
  have hr := B.returns
  have hts := atoms_spec (ws := xw yX12_lot cX12_lot 4 (some .int)) B.pre
  have htg : ∀ w ∈ xg, w.before _ s = true := fun w h => hts w (List.mem_cons_of_mem _ h)
  have hown : s.vm.findClass RX12 = some m.cls := findClass_of_methodNamed B.named
  have hlocks := B.notSynchronized
  subst hsz
  have hD := hD0.self (sz := s.heap.size)
  generalize hAe : va_A (pre_X12_lot T a ex fi fl vi) s.heap.size = A at hD hQ
  have hA : ∀ q : Nat, s.heap.size ≤ q → A q := fun q h => by rw [← hAe]; exact Or.inr h
  have hS : va_S A s.heap s.heap [] := va_S.rf
  replace hP : va_P D vwCl [((a 0), .inr (12, ((.int 0) :: (.ref (ex 0)) :: (.int 0) :: (.int 0) :: (.int 0) :: (.int 0) :: (.ref (a 1)) :: (.ref (ex 1)) :: (.ref (ex 2)) :: (.ref (ex 3)) :: (.ref (ex 4)) :: (.int 0) :: (.int 0) :: (.int 0) :: (.int 0) :: (.int 0) :: (.int 0) :: (.long 0) :: (.int 0) :: (.int 0) :: (.int 0) :: (.ref (ex 5)) :: (.ref (ex 6)) :: (.int 0) :: (.ref (ex 7)) :: (.int (-1)) :: (.int 0) :: (.int 0) :: (.int 0) :: (.int 0) :: (.int 0) :: (.int 0) :: (.ref (ex 8)) :: (.int 0) :: (.ref (ex 9)) :: (.int 0) :: (.int 0) :: (.int 0) :: (.int 0) :: (.int 0) :: (.ref (ex 10)) :: (.ref (ex 11)) :: (.ref (ex 12)) :: (.ref (ex 13)) :: []))), ((a 1), .inl (T 1, 2187, .inl (fun _ => 0)))] s.heap := hP
  replace hD : va_D A [((a 0), .inr (12, ((.int 0) :: (.ref (ex 0)) :: (.int 0) :: (.int 0) :: (.int 0) :: (.int 0) :: (.ref (a 1)) :: (.ref (ex 1)) :: (.ref (ex 2)) :: (.ref (ex 3)) :: (.ref (ex 4)) :: (.int 0) :: (.int 0) :: (.int 0) :: (.int 0) :: (.int 0) :: (.int 0) :: (.long 0) :: (.int 0) :: (.int 0) :: (.int 0) :: (.ref (ex 5)) :: (.ref (ex 6)) :: (.int 0) :: (.ref (ex 7)) :: (.int (-1)) :: (.int 0) :: (.int 0) :: (.int 0) :: (.int 0) :: (.int 0) :: (.int 0) :: (.ref (ex 8)) :: (.int 0) :: (.ref (ex 9)) :: (.int 0) :: (.int 0) :: (.int 0) :: (.int 0) :: (.int 0) :: (.ref (ex 10)) :: (.ref (ex 11)) :: (.ref (ex 12)) :: (.ref (ex 13)) :: []))), ((a 1), .inl (T 1, 2187, .inl (fun _ => 0)))] := hD
  have hl := lv_entry ([.ref (a 0), .int (vi 0), .int (vi 1)]) (n := 4) (Nat.le_of_ble_eq_true rfl)
  rw [lg_entry_eq]
  generalize (lg_sl ([.ref (a 0), .int (vi 0), .int (vi 1)]) ++ List.replicate (4 - (lg_sl ([.ref (a 0), .int (vi 0), .int (vi 1)])).length) Slot.unset).toArray = ls at hl ⊢
  replace hl : lv_has ls 4 [(0, .ref (a 0)), (1, .int (vi 0)), (2, .int (vi 1))] := hl
  refine lv_aload_n hx hb dX12_lot_0 rfl (lv_at hl 0 rfl) ?_
  refine lv_iconst (v := 0) hx hb dX12_lot_1 (by decide) ?_
  refine va_put (D := D) (ci := 12) (v := .int 0) (ty := .int) (C := RX12) (T := TX12) (N := 44) hx hb htg inX12 tyX12 tyX12_ok nmX12 hown hK.1 hP hD hS 0 rfl rfl 0 (by decide) (htg _ kw_1407) (fun _ h9 => h9) rfl (by decide +kernel) rfl rfl (Nat.le_of_ble_eq_true rfl) dX12_lot_2 (fun H locs hP hD hS => ?_)
  replace hP : va_P D vwCl [((a 0), .inr (12, ((.int 0) :: (.ref (ex 0)) :: (.int 0) :: (.int 0) :: (.int 0) :: (.int 0) :: (.ref (a 1)) :: (.ref (ex 1)) :: (.ref (ex 2)) :: (.ref (ex 3)) :: (.ref (ex 4)) :: (.int 0) :: (.int 0) :: (.int 0) :: (.int 0) :: (.int 0) :: (.int 0) :: (.long 0) :: (.int 0) :: (.int 0) :: (.int 0) :: (.ref (ex 5)) :: (.ref (ex 6)) :: (.int 0) :: (.ref (ex 7)) :: (.int (-1)) :: (.int 0) :: (.int 0) :: (.int 0) :: (.int 0) :: (.int 0) :: (.int 0) :: (.ref (ex 8)) :: (.int 0) :: (.ref (ex 9)) :: (.int 0) :: (.int 0) :: (.int 0) :: (.int 0) :: (.int 0) :: (.ref (ex 10)) :: (.ref (ex 11)) :: (.ref (ex 12)) :: (.ref (ex 13)) :: []))), ((a 1), .inl (T 1, 2187, .inl (fun _ => 0)))] H := hP
  replace hD : va_D A [((a 0), .inr (12, ((.int 0) :: (.ref (ex 0)) :: (.int 0) :: (.int 0) :: (.int 0) :: (.int 0) :: (.ref (a 1)) :: (.ref (ex 1)) :: (.ref (ex 2)) :: (.ref (ex 3)) :: (.ref (ex 4)) :: (.int 0) :: (.int 0) :: (.int 0) :: (.int 0) :: (.int 0) :: (.int 0) :: (.long 0) :: (.int 0) :: (.int 0) :: (.int 0) :: (.ref (ex 5)) :: (.ref (ex 6)) :: (.int 0) :: (.ref (ex 7)) :: (.int (-1)) :: (.int 0) :: (.int 0) :: (.int 0) :: (.int 0) :: (.int 0) :: (.int 0) :: (.ref (ex 8)) :: (.int 0) :: (.ref (ex 9)) :: (.int 0) :: (.int 0) :: (.int 0) :: (.int 0) :: (.int 0) :: (.ref (ex 10)) :: (.ref (ex 11)) :: (.ref (ex 12)) :: (.ref (ex 13)) :: []))), ((a 1), .inl (T 1, 2187, .inl (fun _ => 0)))] := hD
  refine lv_aload_n hx hb dX12_lot_5 rfl (lv_at hl 0 rfl) ?_
  refine lv_iload_n hx hb dX12_lot_6 rfl (lv_at hl 1 rfl) ?_
  have hPc := hP.sub (ws' := (pre_X12_isNameOf T (xa [(a 0), (a 1)]) (xa [(ex 0), (ex 1), (ex 2), (ex 3), (ex 4), (ex 5), (ex 6), (ex 7), (ex 8), (ex 9), (ex 10), (ex 11), (ex 12), (ex 13)]) (xf []) (xh []) (xv [(vi 0)]))) [0, 1] rfl
  have hDc := hD.sub (ws' := (pre_X12_isNameOf T (xa [(a 0), (a 1)]) (xa [(ex 0), (ex 1), (ex 2), (ex 3), (ex 4), (ex 5), (ex 6), (ex 7), (ex 8), (ex 9), (ex 10), (ex 11), (ex 12), (ex 13)]) (xf []) (xh []) (xv [(vi 0)]))) [0, 1] (by decide) rfl
  have hFc := va_free (wc := (pre_X12_isNameOf T (xa [(a 0), (a 1)]) (xa [(ex 0), (ex 1), (ex 2), (ex 3), (ex 4), (ex 5), (ex 6), (ex 7), (ex 8), (ex 9), (ex 10), (ex 11), (ex 12), (ex 13)]) (xf []) (xh []) (xv [(vi 0)]))) hD hS hA [0, 1] rfl
  refine va_calli (va_runV (As := [.int (vi 0)]) (rest := []) ⟨hx, hb, hml, hown, htg⟩ (c_X12_isNameOf l D T (xa [(a 0), (a 1)]) (xa [(ex 0), (ex 1), (ex 2), (ex 3), (ex 4), (ex 5), (ex 6), (ex 7), (ex 8), (ex 9), (ex 10), (ex 11), (ex 12), (ex 13)]) (xf []) (xh []) (xv [(vi 0)]) H.size) ⟨callB_of 1 htg (xg_ok kw_1632) rfl rfl rfl (htg _ kw_17) (htg _ kw_1629) (by decide +kernel) ⟨by rw [hR]; exact Nat.le_of_ble_eq_true rfl, by rw [hR]; exact Nat.le_of_ble_eq_true rfl⟩, htg _ kw_1631, htg _ ks_131⟩ (xpreV hK hPc hDc (va_recv hK.1 hPc (ci := 12) (q0 := 0) rfl rfl)) rfl rfl hl.1 rfl (lv_room (Nat.le_of_ble_eq_true rfl)) dX12_lot_7 ⟨by rw [hR]; exact Nat.le_of_ble_eq_true rfl, by rw [hR]; exact Nat.le_of_ble_eq_true rfl⟩) hS (fun q _ h => hFc q h) hFc (fun r9 u t H1 locs ht hvm hw hB hz1 hk1 hS => ?_)
  obtain ⟨bk, fik, flk, vik, hP1, hD1, hGk⟩ := hB
  rw [ht] at hP1
  obtain ⟨hP, hD⟩ := va_join (wr := []) (w1 := [((a 0), .inr (12, ((.int 0) :: (.ref (ex 0)) :: (.int 0) :: (.int 0) :: (.int 0) :: (.int 0) :: (.ref (a 1)) :: (.ref (ex 1)) :: (.ref (ex 2)) :: (.ref (ex 3)) :: (.ref (ex 4)) :: (.int 0) :: (.int 0) :: (.int 0) :: (.int 0) :: (.int 0) :: (.int 0) :: (.long 0) :: (.int 0) :: (.int 0) :: (.int 0) :: (.ref (ex 5)) :: (.ref (ex 6)) :: (.int 0) :: (.ref (ex 7)) :: (.int (-1)) :: (.int 0) :: (.int 0) :: (.int 0) :: (.int 0) :: (.int 0) :: (.int 0) :: (.ref (ex 8)) :: (.int 0) :: (.ref (ex 9)) :: (.int 0) :: (.int 0) :: (.int 0) :: (.int 0) :: (.int 0) :: (.ref (ex 10)) :: (.ref (ex 11)) :: (.ref (ex 12)) :: (.ref (ex 13)) :: []))), ((a 1), .inl (T 1, 2187, .inl (fun _ => 0)))]) hP hD [0, 1] [] rfl rfl (by decide) (by decide) hk1 hFc hP1 hD1
  subst hw
  clear hPc hDc hFc hP1 hD1 hk1 hz1 hvm ht
  generalize H1 = H at hP hS ⊢
  replace hP : va_P D vwCl [((a 0), .inr (12, ((.int 0) :: (.ref (ex 0)) :: (.int 0) :: (.int 0) :: (.int 0) :: (.int 0) :: (.ref (a 1)) :: (.ref (ex 1)) :: (.ref (ex 2)) :: (.ref (ex 3)) :: (.ref (ex 4)) :: (.int 0) :: (.int 0) :: (.int 0) :: (.int 0) :: (.int 0) :: (.int 0) :: (.long 0) :: (.int 0) :: (.int 0) :: (.int 0) :: (.ref (ex 5)) :: (.ref (ex 6)) :: (.int 0) :: (.ref (ex 7)) :: (.int (-1)) :: (.int 0) :: (.int 0) :: (.int 0) :: (.int 0) :: (.int 0) :: (.int 0) :: (.ref (ex 8)) :: (.int 0) :: (.ref (ex 9)) :: (.int 0) :: (.int 0) :: (.int 0) :: (.int 0) :: (.int 0) :: (.ref (ex 10)) :: (.ref (ex 11)) :: (.ref (ex 12)) :: (.ref (ex 13)) :: []))), ((a 1), .inl (T 1, 2187, .inl (fun _ => 0)))] H := hP
  replace hD : va_D A [((a 0), .inr (12, ((.int 0) :: (.ref (ex 0)) :: (.int 0) :: (.int 0) :: (.int 0) :: (.int 0) :: (.ref (a 1)) :: (.ref (ex 1)) :: (.ref (ex 2)) :: (.ref (ex 3)) :: (.ref (ex 4)) :: (.int 0) :: (.int 0) :: (.int 0) :: (.int 0) :: (.int 0) :: (.int 0) :: (.long 0) :: (.int 0) :: (.int 0) :: (.int 0) :: (.ref (ex 5)) :: (.ref (ex 6)) :: (.int 0) :: (.ref (ex 7)) :: (.int (-1)) :: (.int 0) :: (.int 0) :: (.int 0) :: (.int 0) :: (.int 0) :: (.int 0) :: (.ref (ex 8)) :: (.int 0) :: (.ref (ex 9)) :: (.int 0) :: (.int 0) :: (.int 0) :: (.int 0) :: (.int 0) :: (.ref (ex 10)) :: (.ref (ex 11)) :: (.ref (ex 12)) :: (.ref (ex 13)) :: []))), ((a 1), .inl (T 1, 2187, .inl (fun _ => 0)))] := hD
  refine lv_if_ne (tgt := 15) hx hb dX12_lot_10 (by decide) (fun c => absurd (by decide) c) (fun _ => ?_)
  refine lv_iconst (v := (-1)) hx hb dX12_lot_13 (by decide) ?_
  have hP9 := hP.sub (ws' := []) [] rfl
  have hD9 := hD.sub (ws' := []) [] (by decide) rfl
  rw [hQ]
  exact W.iret (v := (-1)) hx hb hr (fun t ht hW => ⟨⟨(-1), (), rfl, rfl, ⟨xa [], xf [], xh [], xv [], by rw [ht]; exact hP9, hD9, trivial⟩⟩, hS.F ht⟩) hS.2.2 dX12_lot_14
abbrev pre_X12_isIn_2 (T : Nat → ClassId) (a ex : Nat → Nat) (fi : Nat → Nat → Int32) (fl : Nat → Nat → Int64) (vi : Nat → Int32) : va_W := []
set_option maxHeartbeats 4000000 in
set_option maxRecDepth 100000 in
theorem c_X12_isIn_2 (l : Launch) (D : va_G) (T : Nat → ClassId) (a ex : Nat → Nat) (fi : Nat → Nat → Int32) (fl : Nat → Nat → Int64) (vi : Nat → Int32) (sz : Nat) (hd0 : (1 ≤ (vi 0).toInt ∧ (vi 0).toInt ≤ 60)) : Met l yX12_isIn (xw yX12_isIn cX12_isIn 3 (some .boolean)) ({ frames := 0, cells := 0, slots := 0, locals := 0 }) (xP D T [.int (vi 0), .int 1, .int 60] sz (pre_X12_isIn_2 T a ex fi fl vi)) (va_Qi (fun r (_ : Unit) => r = 1) (xB D (va_A (pre_X12_isIn_2 T a ex fi fl vi) sz) (fun _ => True) (fun b fj fm vj => [])) (va_A (pre_X12_isIn_2 T a ex fi fl vi) sz)) 0 0 (va_A (pre_X12_isIn_2 T a ex fi fl vi) sz) := by
  refine xofW (cc := cX12_isIn) (maxL := 3) (ret := (some .boolean)) (by decide) rfl ?_
  intro p e s m args below meth c s₁ R Q hR hQ B hml hv
  obtain ⟨rfl, hsz, hP, hK, hD0⟩ := hv
  have hx := B.exec
  have hb := B.bytes
  have hr := B.returns
  have hts := atoms_spec (ws := xw yX12_isIn cX12_isIn 3 (some .boolean)) B.pre
  have htg : ∀ w ∈ xg, w.before _ s = true := fun w h => hts w (List.mem_cons_of_mem _ h)
  have hown : s.vm.findClass RX12 = some m.cls := findClass_of_methodNamed B.named
  have hlocks := B.notSynchronized
  subst hsz
  have hD := hD0.self (sz := s.heap.size)
  generalize hAe : va_A (pre_X12_isIn_2 T a ex fi fl vi) s.heap.size = A at hD hQ
  have hA : ∀ q : Nat, s.heap.size ≤ q → A q := fun q h => by rw [← hAe]; exact Or.inr h
  have hS : va_S A s.heap s.heap [] := va_S.rf
  replace hP : va_P D vwCl [] s.heap := hP
  replace hD : va_D A [] := hD
  have hl := lv_entry ([.int (vi 0), .int 1, .int 60]) (n := 3) (Nat.le_of_ble_eq_true rfl)
  rw [lg_entry_eq]
  generalize (lg_sl ([.int (vi 0), .int 1, .int 60]) ++ List.replicate (3 - (lg_sl ([.int (vi 0), .int 1, .int 60])).length) Slot.unset).toArray = ls at hl ⊢
  replace hl : lv_has ls 3 [(0, .int (vi 0)), (1, .int 1), (2, .int 60)] := hl
  refine lv_iload_n hx hb dX12_isIn_0 rfl (lv_at hl 0 rfl) ?_
  refine lv_iload_n hx hb dX12_isIn_1 rfl (lv_at hl 1 rfl) ?_
  refine lv_icmp_lt (tgt := 14) hx hb dX12_isIn_2 (by decide) (fun c => by exfalso; have h9 := xlt (k := 1) (by decide) c; omega) (fun _ => ?_)
  refine lv_iload_n hx hb dX12_isIn_5 rfl (lv_at hl 0 rfl) ?_
  refine lv_iload_n hx hb dX12_isIn_6 rfl (lv_at hl 2 rfl) ?_
  refine lv_icmp_gt (tgt := 14) hx hb dX12_isIn_7 (by decide) (fun c => by exfalso; have h9 := xgt (k := 60) (by decide) c; omega) (fun _ => ?_)
  refine lv_iconst (v := 1) hx hb dX12_isIn_10 (by decide) ?_
  refine lv_goto (tgt := 15) hx hb dX12_isIn_11 (by decide) ?_
  have hP9 := hP.sub (ws' := []) [] rfl
  have hD9 := hD.sub (ws' := []) [] (by decide +kernel) rfl
  rw [hQ]
  exact W.zret (v := 1) hx hb hr rfl (fun t ht hW => ⟨⟨1, (), rfl, rfl, ⟨xa [], xf [], xh [], xv [], by rw [ht]; exact hP9, hD9, trivial⟩⟩, hS.F ht⟩) hS.2.2 dX12_isIn_15
abbrev pre_X12_keep (T : Nat → ClassId) (a ex : Nat → Nat) (fi : Nat → Nat → Int32) (fl : Nat → Nat → Int64) (vi : Nat → Int32) : va_W := [((a 0), .inr (12, ((.int 0) :: (.ref (ex 0)) :: (.int 0) :: (.int 0) :: (.int 0) :: (.int 0) :: (.ref (a 1)) :: (.ref (ex 1)) :: (.ref (ex 2)) :: (.ref (ex 3)) :: (.ref (ex 4)) :: (.int 0) :: (.int 0) :: (.int 0) :: (.int 0) :: (.int 0) :: (.int 0) :: (.long 0) :: (.int 0) :: (.int 0) :: (.int 0) :: (.ref (a 2)) :: (.ref (ex 5)) :: (.int 0) :: (.ref (ex 6)) :: (.int (-1)) :: (.int 0) :: (.int 0) :: (.int 0) :: (.int 0) :: (.int 0) :: (.int 0) :: (.ref (ex 7)) :: (.int 0) :: (.ref (ex 8)) :: (.int 0) :: (.int 0) :: (.int 0) :: (.int 0) :: (.int 0) :: (.ref (ex 9)) :: (.ref (ex 10)) :: (.ref (ex 11)) :: (.ref (ex 12)) :: []))), ((a 1), .inl (T 1, 2187, .inl (fun _ => 0))), ((a 2), .inl (T 1, 7440, .inl (fun _ => 0)))]
set_option maxHeartbeats 4000000 in
set_option maxRecDepth 100000 in
theorem c_X12_keep (l : Launch) (D : va_G) (T : Nat → ClassId) (a ex : Nat → Nat) (fi : Nat → Nat → Int32) (fl : Nat → Nat → Int64) (vi : Nat → Int32) (sz : Nat) : Met l yX12_keep (xw yX12_keep cX12_keep 2 none) ({ frames := 0, cells := 0, slots := 0, locals := 0 }) (xP D T [.ref (a 0)] sz (pre_X12_keep T a ex fi fl vi)) (va_Qv (fun _ : Unit => True) (xB D (va_A (pre_X12_keep T a ex fi fl vi) sz) (fun _ => True) (fun b fj fm vj => [((a 0), .inr (12, ((.int 0) :: (.ref (ex 0)) :: (.int 0) :: (.int 0) :: (.int 0) :: (.int 0) :: (.ref (a 1)) :: (.ref (ex 1)) :: (.ref (ex 2)) :: (.ref (ex 3)) :: (.ref (ex 4)) :: (.int 0) :: (.int 0) :: (.int 0) :: (.int 0) :: (.int 0) :: (.int 0) :: (.long 0) :: (.int 0) :: (.int 0) :: (.int 0) :: (.ref (a 2)) :: (.ref (ex 5)) :: (.int 1) :: (.ref (ex 6)) :: (.int (-1)) :: (.int 0) :: (.int 0) :: (.int 0) :: (.int 0) :: (.int 0) :: (.int 0) :: (.ref (ex 7)) :: (.int 0) :: (.ref (ex 8)) :: (.int 0) :: (.int 0) :: (.int 0) :: (.int 0) :: (.int 0) :: (.ref (ex 9)) :: (.ref (ex 10)) :: (.ref (ex 11)) :: (.ref (ex 12)) :: []))), ((a 1), .inl (T 1, 2187, .inl (fun _ => 0))), ((a 2), .inl (T 1, 7440, .inl (fun _ => 0)))])) (va_A (pre_X12_keep T a ex fi fl vi) sz)) 0 0 (va_A (pre_X12_keep T a ex fi fl vi) sz) := by
  refine xofW (cc := cX12_keep) (maxL := 2) (ret := none) (by decide) rfl ?_
  intro p e s m args below meth c s₁ R Q hR hQ B hml hv
  obtain ⟨rfl, hsz, hP, hK, hD0⟩ := hv
  have hx := B.exec
  have hb := B.bytes
  have hr := B.returns
  have hts := atoms_spec (ws := xw yX12_keep cX12_keep 2 none) B.pre
  have htg : ∀ w ∈ xg, w.before _ s = true := fun w h => hts w (List.mem_cons_of_mem _ h)
  have hown : s.vm.findClass RX12 = some m.cls := findClass_of_methodNamed B.named
  have hlocks := B.notSynchronized
  subst hsz
  have hD := hD0.self (sz := s.heap.size)
  generalize hAe : va_A (pre_X12_keep T a ex fi fl vi) s.heap.size = A at hD hQ
  have hA : ∀ q : Nat, s.heap.size ≤ q → A q := fun q h => by rw [← hAe]; exact Or.inr h
  have hS : va_S A s.heap s.heap [] := va_S.rf
  replace hP : va_P D vwCl [((a 0), .inr (12, ((.int 0) :: (.ref (ex 0)) :: (.int 0) :: (.int 0) :: (.int 0) :: (.int 0) :: (.ref (a 1)) :: (.ref (ex 1)) :: (.ref (ex 2)) :: (.ref (ex 3)) :: (.ref (ex 4)) :: (.int 0) :: (.int 0) :: (.int 0) :: (.int 0) :: (.int 0) :: (.int 0) :: (.long 0) :: (.int 0) :: (.int 0) :: (.int 0) :: (.ref (a 2)) :: (.ref (ex 5)) :: (.int 0) :: (.ref (ex 6)) :: (.int (-1)) :: (.int 0) :: (.int 0) :: (.int 0) :: (.int 0) :: (.int 0) :: (.int 0) :: (.ref (ex 7)) :: (.int 0) :: (.ref (ex 8)) :: (.int 0) :: (.int 0) :: (.int 0) :: (.int 0) :: (.int 0) :: (.ref (ex 9)) :: (.ref (ex 10)) :: (.ref (ex 11)) :: (.ref (ex 12)) :: []))), ((a 1), .inl (T 1, 2187, .inl (fun _ => 0))), ((a 2), .inl (T 1, 7440, .inl (fun _ => 0)))] s.heap := hP
  replace hD : va_D A [((a 0), .inr (12, ((.int 0) :: (.ref (ex 0)) :: (.int 0) :: (.int 0) :: (.int 0) :: (.int 0) :: (.ref (a 1)) :: (.ref (ex 1)) :: (.ref (ex 2)) :: (.ref (ex 3)) :: (.ref (ex 4)) :: (.int 0) :: (.int 0) :: (.int 0) :: (.int 0) :: (.int 0) :: (.int 0) :: (.long 0) :: (.int 0) :: (.int 0) :: (.int 0) :: (.ref (a 2)) :: (.ref (ex 5)) :: (.int 0) :: (.ref (ex 6)) :: (.int (-1)) :: (.int 0) :: (.int 0) :: (.int 0) :: (.int 0) :: (.int 0) :: (.int 0) :: (.ref (ex 7)) :: (.int 0) :: (.ref (ex 8)) :: (.int 0) :: (.int 0) :: (.int 0) :: (.int 0) :: (.int 0) :: (.ref (ex 9)) :: (.ref (ex 10)) :: (.ref (ex 11)) :: (.ref (ex 12)) :: []))), ((a 1), .inl (T 1, 2187, .inl (fun _ => 0))), ((a 2), .inl (T 1, 7440, .inl (fun _ => 0)))] := hD
  have hl := lv_entry ([.ref (a 0)]) (n := 2) (Nat.le_of_ble_eq_true rfl)
  rw [lg_entry_eq]
  generalize (lg_sl ([.ref (a 0)]) ++ List.replicate (2 - (lg_sl ([.ref (a 0)])).length) Slot.unset).toArray = ls at hl ⊢
  replace hl : lv_has ls 2 [(0, .ref (a 0))] := hl
  refine lv_aload_n hx hb dX12_keep_0 rfl (lv_at hl 0 rfl) ?_
  refine va_get (D := D) (ci := 12) (v := .int 0) (C := RX12) (T := TX12) (N := 44) hx hb htg inX12 hown hK.1 hP 0 rfl rfl 23 (by decide) (htg _ kw_1430) (fun _ h9 => h9) rfl dX12_keep_1 ?_
  refine lv_iconst (v := 4) hx hb dX12_keep_4 (by decide) ?_
  refine lv_icmp_ne (tgt := 44) hx hb dX12_keep_5 (by decide) (fun _ => ?_) (fun c => absurd c (by decide))
  refine lv_iconst (v := 0) hx hb dX12_keep_44 (by decide) ?_
  refine lv_istore_n (lv' := [(1, .int 0), (0, .ref (a 0))]) hx hb dX12_keep_45 rfl hl (by decide) rfl (fun ls hl => ?_)
  have lp : ∀ (n i : Nat) (H : Heap) (locs : List Loc) (ls : Array Slot), i + n = 1860 → va_P D vwCl [((a 0), .inr (12, ((.int 0) :: (.ref (ex 0)) :: (.int 0) :: (.int 0) :: (.int 0) :: (.int 0) :: (.ref (a 1)) :: (.ref (ex 1)) :: (.ref (ex 2)) :: (.ref (ex 3)) :: (.ref (ex 4)) :: (.int 0) :: (.int 0) :: (.int 0) :: (.int 0) :: (.int 0) :: (.int 0) :: (.long 0) :: (.int 0) :: (.int 0) :: (.int 0) :: (.ref (a 2)) :: (.ref (ex 5)) :: (.int 0) :: (.ref (ex 6)) :: (.int (-1)) :: (.int 0) :: (.int 0) :: (.int 0) :: (.int 0) :: (.int 0) :: (.int 0) :: (.ref (ex 7)) :: (.int 0) :: (.ref (ex 8)) :: (.int 0) :: (.int 0) :: (.int 0) :: (.int 0) :: (.int 0) :: (.ref (ex 9)) :: (.ref (ex 10)) :: (.ref (ex 11)) :: (.ref (ex 12)) :: []))), ((a 1), .inl (T 1, 2187, .inl (fun _ => 0))), ((a 2), .inl (T 1, 7440, .inl (fun _ => 0)))] H → va_D A [((a 0), .inr (12, ((.int 0) :: (.ref (ex 0)) :: (.int 0) :: (.int 0) :: (.int 0) :: (.int 0) :: (.ref (a 1)) :: (.ref (ex 1)) :: (.ref (ex 2)) :: (.ref (ex 3)) :: (.ref (ex 4)) :: (.int 0) :: (.int 0) :: (.int 0) :: (.int 0) :: (.int 0) :: (.int 0) :: (.long 0) :: (.int 0) :: (.int 0) :: (.int 0) :: (.ref (a 2)) :: (.ref (ex 5)) :: (.int 0) :: (.ref (ex 6)) :: (.int (-1)) :: (.int 0) :: (.int 0) :: (.int 0) :: (.int 0) :: (.int 0) :: (.int 0) :: (.ref (ex 7)) :: (.int 0) :: (.ref (ex 8)) :: (.int 0) :: (.int 0) :: (.int 0) :: (.int 0) :: (.int 0) :: (.ref (ex 9)) :: (.ref (ex 10)) :: (.ref (ex 11)) :: (.ref (ex 12)) :: []))), ((a 1), .inl (T 1, 2187, .inl (fun _ => 0))), ((a 2), .inl (T 1, 7440, .inl (fun _ => 0)))] → va_S A s.heap H locs → lv_has ls 2 [(1, .int (nI i)), (0, .ref (a 0))] → W p l e R s m ([.ref (a 0)] : List Value).toArray below meth c H locs 0 0 Q (F0 m 46 ls []) := by
    intro n
    induction n with
    | zero =>
      intro i H locs ls hin hP hD hS hl
      obtain rfl : i = 1860 := by omega
      replace hl : lv_has ls 2 [(1, .int 1860), (0, .ref (a 0))] := hl
      refine lv_iload_n hx hb dX12_keep_46 rfl (lv_at hl 0 rfl) ?_
      refine lv_sipush (v := 1860) hx hb dX12_keep_47 (by decide) ?_
      refine lv_icmp_ge (tgt := 84) hx hb dX12_keep_50 (by decide) (fun _ => ?_) (fun c => absurd (by decide) c)
      refine lv_aload_n hx hb dX12_keep_84 rfl (lv_at hl 1 rfl) ?_
      refine lv_dup hx hb dX12_keep_85 rfl ?_
      refine va_get (D := D) (ci := 12) (v := .int 0) (C := RX12) (T := TX12) (N := 44) hx hb htg inX12 hown hK.1 hP 0 rfl rfl 23 (by decide) (htg _ kw_1430) (fun _ h9 => h9) rfl dX12_keep_86 ?_
      refine lv_iconst (v := 1) hx hb dX12_keep_89 (by decide) ?_
      refine lv_iadd hx hb dX12_keep_90 ?_
      refine xz_i 1 (by decide) ?_
      refine va_put (D := D) (ci := 12) (v := .int 1) (ty := .int) (C := RX12) (T := TX12) (N := 44) hx hb htg inX12 tyX12 tyX12_ok nmX12 hown hK.1 hP hD hS 0 rfl rfl 23 (by decide) (htg _ kw_1430) (fun _ h9 => h9) rfl (by decide +kernel) rfl rfl (Nat.le_of_ble_eq_true rfl) dX12_keep_91 (fun H locs hP hD hS => ?_)
      replace hP : va_P D vwCl [((a 0), .inr (12, ((.int 0) :: (.ref (ex 0)) :: (.int 0) :: (.int 0) :: (.int 0) :: (.int 0) :: (.ref (a 1)) :: (.ref (ex 1)) :: (.ref (ex 2)) :: (.ref (ex 3)) :: (.ref (ex 4)) :: (.int 0) :: (.int 0) :: (.int 0) :: (.int 0) :: (.int 0) :: (.int 0) :: (.long 0) :: (.int 0) :: (.int 0) :: (.int 0) :: (.ref (a 2)) :: (.ref (ex 5)) :: (.int 1) :: (.ref (ex 6)) :: (.int (-1)) :: (.int 0) :: (.int 0) :: (.int 0) :: (.int 0) :: (.int 0) :: (.int 0) :: (.ref (ex 7)) :: (.int 0) :: (.ref (ex 8)) :: (.int 0) :: (.int 0) :: (.int 0) :: (.int 0) :: (.int 0) :: (.ref (ex 9)) :: (.ref (ex 10)) :: (.ref (ex 11)) :: (.ref (ex 12)) :: []))), ((a 1), .inl (T 1, 2187, .inl (fun _ => 0))), ((a 2), .inl (T 1, 7440, .inl (fun _ => 0)))] H := hP
      replace hD : va_D A [((a 0), .inr (12, ((.int 0) :: (.ref (ex 0)) :: (.int 0) :: (.int 0) :: (.int 0) :: (.int 0) :: (.ref (a 1)) :: (.ref (ex 1)) :: (.ref (ex 2)) :: (.ref (ex 3)) :: (.ref (ex 4)) :: (.int 0) :: (.int 0) :: (.int 0) :: (.int 0) :: (.int 0) :: (.int 0) :: (.long 0) :: (.int 0) :: (.int 0) :: (.int 0) :: (.ref (a 2)) :: (.ref (ex 5)) :: (.int 1) :: (.ref (ex 6)) :: (.int (-1)) :: (.int 0) :: (.int 0) :: (.int 0) :: (.int 0) :: (.int 0) :: (.int 0) :: (.ref (ex 7)) :: (.int 0) :: (.ref (ex 8)) :: (.int 0) :: (.int 0) :: (.int 0) :: (.int 0) :: (.int 0) :: (.ref (ex 9)) :: (.ref (ex 10)) :: (.ref (ex 11)) :: (.ref (ex 12)) :: []))), ((a 1), .inl (T 1, 2187, .inl (fun _ => 0))), ((a 2), .inl (T 1, 7440, .inl (fun _ => 0)))] := hD
      have hP9 := hP.sub (ws' := [((a 0), .inr (12, ((.int 0) :: (.ref (ex 0)) :: (.int 0) :: (.int 0) :: (.int 0) :: (.int 0) :: (.ref (a 1)) :: (.ref (ex 1)) :: (.ref (ex 2)) :: (.ref (ex 3)) :: (.ref (ex 4)) :: (.int 0) :: (.int 0) :: (.int 0) :: (.int 0) :: (.int 0) :: (.int 0) :: (.long 0) :: (.int 0) :: (.int 0) :: (.int 0) :: (.ref (a 2)) :: (.ref (ex 5)) :: (.int 1) :: (.ref (ex 6)) :: (.int (-1)) :: (.int 0) :: (.int 0) :: (.int 0) :: (.int 0) :: (.int 0) :: (.int 0) :: (.ref (ex 7)) :: (.int 0) :: (.ref (ex 8)) :: (.int 0) :: (.int 0) :: (.int 0) :: (.int 0) :: (.int 0) :: (.ref (ex 9)) :: (.ref (ex 10)) :: (.ref (ex 11)) :: (.ref (ex 12)) :: []))), ((a 1), .inl (T 1, 2187, .inl (fun _ => 0))), ((a 2), .inl (T 1, 7440, .inl (fun _ => 0)))]) [0, 1, 2] rfl
      have hD9 := hD.sub (ws' := [((a 0), .inr (12, ((.int 0) :: (.ref (ex 0)) :: (.int 0) :: (.int 0) :: (.int 0) :: (.int 0) :: (.ref (a 1)) :: (.ref (ex 1)) :: (.ref (ex 2)) :: (.ref (ex 3)) :: (.ref (ex 4)) :: (.int 0) :: (.int 0) :: (.int 0) :: (.int 0) :: (.int 0) :: (.int 0) :: (.long 0) :: (.int 0) :: (.int 0) :: (.int 0) :: (.ref (a 2)) :: (.ref (ex 5)) :: (.int 1) :: (.ref (ex 6)) :: (.int (-1)) :: (.int 0) :: (.int 0) :: (.int 0) :: (.int 0) :: (.int 0) :: (.int 0) :: (.ref (ex 7)) :: (.int 0) :: (.ref (ex 8)) :: (.int 0) :: (.int 0) :: (.int 0) :: (.int 0) :: (.int 0) :: (.ref (ex 9)) :: (.ref (ex 10)) :: (.ref (ex 11)) :: (.ref (ex 12)) :: []))), ((a 1), .inl (T 1, 2187, .inl (fun _ => 0))), ((a 2), .inl (T 1, 7440, .inl (fun _ => 0)))]) [0, 1, 2] (by decide +kernel) rfl
      rw [hQ]
      exact W.vret hx hb hr (fun t ht hW => ⟨⟨(), rfl, trivial, ⟨xa [], xf [], xh [], xv [], by rw [ht]; exact hP9, hD9, trivial⟩⟩, hS.F ht⟩) hS.2.2 dX12_keep_94
    | succ n ih =>
      intro i H locs ls hin hP hD hS hl
      refine lv_iload_n hx hb dX12_keep_46 rfl (lv_at hl 0 rfl) ?_
      refine lv_sipush (v := 1860) hx hb dX12_keep_47 (by decide) ?_
      refine lv_icmp_ge (tgt := 84) hx hb dX12_keep_50 (by decide) (fun c => by exfalso; have h9 := xge (k := 1860) (by decide) c; have h8 := nI_toInt (n := i) (by omega); omega) (fun _ => ?_)
      refine lv_aload_n hx hb dX12_keep_53 rfl (lv_at hl 1 rfl) ?_
      refine va_get (D := D) (ci := 12) (v := .ref (a 2)) (C := RX12) (T := TX12) (N := 44) hx hb htg inX12 hown hK.1 hP 0 rfl rfl 21 (by decide) (htg _ kw_1428) (fun _ h9 => h9) rfl dX12_keep_54 ?_
      refine lv_sipush (v := 1860) hx hb dX12_keep_57 (by decide) ?_
      refine lv_aload_n hx hb dX12_keep_60 rfl (lv_at hl 1 rfl) ?_
      refine va_get (D := D) (ci := 12) (v := .int 0) (C := RX12) (T := TX12) (N := 44) hx hb htg inX12 hown hK.1 hP 0 rfl rfl 23 (by decide) (htg _ kw_1430) (fun _ h9 => h9) rfl dX12_keep_61 ?_
      refine lv_imul hx hb dX12_keep_64 ?_
      refine xz_i 0 (by decide) ?_
      refine lv_iload_n hx hb dX12_keep_65 rfl (lv_at hl 0 rfl) ?_
      refine lv_iadd hx hb dX12_keep_66 ?_
      refine xz_i (nI (0 + i)) (nI_add (0) (i)) ?_
      refine lv_aload_n hx hb dX12_keep_67 rfl (lv_at hl 1 rfl) ?_
      refine va_get (D := D) (ci := 12) (v := .ref (a 1)) (C := RX12) (T := TX12) (N := 44) hx hb htg inX12 hown hK.1 hP 0 rfl rfl 6 (by decide) (htg _ kw_1413) (fun _ h9 => h9) rfl dX12_keep_68 ?_
      refine lv_sipush (v := 146) hx hb dX12_keep_71 (by decide) ?_
      refine lv_iload_n hx hb dX12_keep_74 rfl (lv_at hl 0 rfl) ?_
      refine lv_iadd hx hb dX12_keep_75 ?_
      refine xz_i (nI (146 + i)) (nI_add (146) (i)) ?_
      refine va_iald hx hb hK.1 hP 1 1 rfl rfl (vp_in_nI (n := 146 + i) (by omega) (by decide)) dX12_keep_76 ?_
      refine xz_i 0 rfl ?_
      refine va_iast hx hb hK.1 hP hD hS 2 1 rfl rfl (vp_in_nI (n := 0 + i) (by omega) (by decide)) dX12_keep_77 (fun H locs hP hD hS => ?_)
      obtain ⟨f7, ⟨i7, rfl⟩, hP, hD⟩ : ∃ f7 : Nat → Int32, (∃ i7, f7 = upd (fun _ => 0) i7 0) ∧ va_P D vwCl [((a 0), .inr (12, ((.int 0) :: (.ref (ex 0)) :: (.int 0) :: (.int 0) :: (.int 0) :: (.int 0) :: (.ref (a 1)) :: (.ref (ex 1)) :: (.ref (ex 2)) :: (.ref (ex 3)) :: (.ref (ex 4)) :: (.int 0) :: (.int 0) :: (.int 0) :: (.int 0) :: (.int 0) :: (.int 0) :: (.long 0) :: (.int 0) :: (.int 0) :: (.int 0) :: (.ref (a 2)) :: (.ref (ex 5)) :: (.int 0) :: (.ref (ex 6)) :: (.int (-1)) :: (.int 0) :: (.int 0) :: (.int 0) :: (.int 0) :: (.int 0) :: (.int 0) :: (.ref (ex 7)) :: (.int 0) :: (.ref (ex 8)) :: (.int 0) :: (.int 0) :: (.int 0) :: (.int 0) :: (.int 0) :: (.ref (ex 9)) :: (.ref (ex 10)) :: (.ref (ex 11)) :: (.ref (ex 12)) :: []))), ((a 1), .inl (T 1, 2187, .inl (fun _ => 0))), ((a 2), .inl (T 1, 7440, .inl f7))] H ∧ va_D A [((a 0), .inr (12, ((.int 0) :: (.ref (ex 0)) :: (.int 0) :: (.int 0) :: (.int 0) :: (.int 0) :: (.ref (a 1)) :: (.ref (ex 1)) :: (.ref (ex 2)) :: (.ref (ex 3)) :: (.ref (ex 4)) :: (.int 0) :: (.int 0) :: (.int 0) :: (.int 0) :: (.int 0) :: (.int 0) :: (.long 0) :: (.int 0) :: (.int 0) :: (.int 0) :: (.ref (a 2)) :: (.ref (ex 5)) :: (.int 0) :: (.ref (ex 6)) :: (.int (-1)) :: (.int 0) :: (.int 0) :: (.int 0) :: (.int 0) :: (.int 0) :: (.int 0) :: (.ref (ex 7)) :: (.int 0) :: (.ref (ex 8)) :: (.int 0) :: (.int 0) :: (.int 0) :: (.int 0) :: (.int 0) :: (.ref (ex 9)) :: (.ref (ex 10)) :: (.ref (ex 11)) :: (.ref (ex 12)) :: []))), ((a 1), .inl (T 1, 2187, .inl (fun _ => 0))), ((a 2), .inl (T 1, 7440, .inl f7))] := ⟨_, ⟨_, rfl⟩, hP, hD⟩
      rw [xu0] at hP hD
      refine lv_iinc (v := (nI (i + 1))) (lv' := [(1, .int (nI (i + 1))), (0, .ref (a 0))]) hx hb dX12_keep_78 hl (k := 0) rfl (nI_add (i) 1) (by decide) rfl (fun ls hl => ?_)
      refine lv_goto (tgt := 46) hx hb dX12_keep_81 (by decide) ?_
      exact ih (i + 1) _ _ _ (by omega) (hP.sub [0, 1, 2] rfl) (hD.sub [0, 1, 2] (by decide) rfl) hS (lv_sub hl [0, 1] rfl)
  exact lp 1860 0 _ _ _ (by omega) hP hD hS hl
abbrev pre_X12_monday (T : Nat → ClassId) (a ex : Nat → Nat) (fi : Nat → Nat → Int32) (fl : Nat → Nat → Int64) (vi : Nat → Int32) : va_W := [((a 0), .inr (12, ((.int 0) :: (.ref (ex 0)) :: (.int 0) :: (.int 0) :: (.int 0) :: (.int 0) :: (.ref (a 1)) :: (.ref (ex 1)) :: (.ref (ex 2)) :: (.ref (ex 3)) :: (.ref (ex 4)) :: (.int 0) :: (.int 0) :: (.int 0) :: (.int 0) :: (.int 0) :: (.int 0) :: (.long 0) :: (.int 0) :: (.int 0) :: (.int 0) :: (.ref (ex 5)) :: (.ref (ex 6)) :: (.int 1) :: (.ref (ex 7)) :: (.int (-1)) :: (.int 0) :: (.int 0) :: (.int 0) :: (.int 0) :: (.int 0) :: (.int 0) :: (.ref (ex 8)) :: (.int 0) :: (.ref (ex 9)) :: (.int 0) :: (.int 0) :: (.int 0) :: (.int 0) :: (.int 0) :: (.ref (ex 10)) :: (.ref (ex 11)) :: (.ref (ex 12)) :: (.ref (ex 13)) :: []))), ((a 1), .inl (T 1, 2187, .inl (xm (vi 0))))]
set_option maxHeartbeats 4000000 in
set_option maxRecDepth 100000 in
theorem c_X12_monday (l : Launch) (D : va_G) (T : Nat → ClassId) (a ex : Nat → Nat) (fi : Nat → Nat → Int32) (fl : Nat → Nat → Int64) (vi : Nat → Int32) (sz : Nat) (hd0 : (0 ≤ (vi 0).toInt ∧ (vi 0).toInt ≤ 59)) : Met l yX12_monday (xw yX12_monday cX12_monday 3 none) ({ frames := 0, cells := 0, slots := 0, locals := 0 }) (xP D T [.ref (a 0)] sz (pre_X12_monday T a ex fi fl vi)) (va_Qv (fun _ : Unit => True) (xB D (va_A (pre_X12_monday T a ex fi fl vi) sz) (fun _ => True) (fun b fj fm vj => [((a 0), .inr (12, ((.int 0) :: (.ref (ex 0)) :: (.int 0) :: (.int 0) :: (.int 0) :: (.int 0) :: (.ref (a 1)) :: (.ref (ex 1)) :: (.ref (ex 2)) :: (.ref (ex 3)) :: (.ref (ex 4)) :: (.int 0) :: (.int 0) :: (.int 0) :: (.int 0) :: (.int 0) :: (.int 0) :: (.long 0) :: (.int 0) :: (.int 0) :: (.int 0) :: (.ref (ex 5)) :: (.ref (ex 6)) :: (.int 1) :: (.ref (ex 7)) :: (.int (-1)) :: (.int 0) :: (.int 0) :: (.int 0) :: (.int 0) :: (.int 0) :: (.int 0) :: (.ref (ex 8)) :: (.int 0) :: (.ref (ex 9)) :: (.int 0) :: (.int 0) :: (.int 0) :: (.int 0) :: (.int 0) :: (.ref (ex 10)) :: (.ref (ex 11)) :: (.ref (ex 12)) :: (.ref (ex 13)) :: []))), ((a 1), .inl (T 1, 2187, .inl (xm ((vi 0) + 1))))])) (va_A (pre_X12_monday T a ex fi fl vi) sz)) 0 0 (va_A (pre_X12_monday T a ex fi fl vi) sz) := by
  refine xofW (cc := cX12_monday) (maxL := 3) (ret := none) (by decide) rfl ?_
  intro p e s m args below meth c s₁ R Q hR hQ B hml hv
  obtain ⟨rfl, hsz, hP, hK, hD0⟩ := hv
  have hx := B.exec
  have hb := B.bytes
  have hr := B.returns
  have hts := atoms_spec (ws := xw yX12_monday cX12_monday 3 none) B.pre
  have htg : ∀ w ∈ xg, w.before _ s = true := fun w h => hts w (List.mem_cons_of_mem _ h)
  have hown : s.vm.findClass RX12 = some m.cls := findClass_of_methodNamed B.named
  have hlocks := B.notSynchronized
  subst hsz
  have hD := hD0.self (sz := s.heap.size)
  generalize hAe : va_A (pre_X12_monday T a ex fi fl vi) s.heap.size = A at hD hQ
  have hA : ∀ q : Nat, s.heap.size ≤ q → A q := fun q h => by rw [← hAe]; exact Or.inr h
  have hS : va_S A s.heap s.heap [] := va_S.rf
  replace hP : va_P D vwCl [((a 0), .inr (12, ((.int 0) :: (.ref (ex 0)) :: (.int 0) :: (.int 0) :: (.int 0) :: (.int 0) :: (.ref (a 1)) :: (.ref (ex 1)) :: (.ref (ex 2)) :: (.ref (ex 3)) :: (.ref (ex 4)) :: (.int 0) :: (.int 0) :: (.int 0) :: (.int 0) :: (.int 0) :: (.int 0) :: (.long 0) :: (.int 0) :: (.int 0) :: (.int 0) :: (.ref (ex 5)) :: (.ref (ex 6)) :: (.int 1) :: (.ref (ex 7)) :: (.int (-1)) :: (.int 0) :: (.int 0) :: (.int 0) :: (.int 0) :: (.int 0) :: (.int 0) :: (.ref (ex 8)) :: (.int 0) :: (.ref (ex 9)) :: (.int 0) :: (.int 0) :: (.int 0) :: (.int 0) :: (.int 0) :: (.ref (ex 10)) :: (.ref (ex 11)) :: (.ref (ex 12)) :: (.ref (ex 13)) :: []))), ((a 1), .inl (T 1, 2187, .inl (xm (vi 0))))] s.heap := hP
  replace hD : va_D A [((a 0), .inr (12, ((.int 0) :: (.ref (ex 0)) :: (.int 0) :: (.int 0) :: (.int 0) :: (.int 0) :: (.ref (a 1)) :: (.ref (ex 1)) :: (.ref (ex 2)) :: (.ref (ex 3)) :: (.ref (ex 4)) :: (.int 0) :: (.int 0) :: (.int 0) :: (.int 0) :: (.int 0) :: (.int 0) :: (.long 0) :: (.int 0) :: (.int 0) :: (.int 0) :: (.ref (ex 5)) :: (.ref (ex 6)) :: (.int 1) :: (.ref (ex 7)) :: (.int (-1)) :: (.int 0) :: (.int 0) :: (.int 0) :: (.int 0) :: (.int 0) :: (.int 0) :: (.ref (ex 8)) :: (.int 0) :: (.ref (ex 9)) :: (.int 0) :: (.int 0) :: (.int 0) :: (.int 0) :: (.int 0) :: (.ref (ex 10)) :: (.ref (ex 11)) :: (.ref (ex 12)) :: (.ref (ex 13)) :: []))), ((a 1), .inl (T 1, 2187, .inl (xm (vi 0))))] := hD
  have hl := lv_entry ([.ref (a 0)]) (n := 3) (Nat.le_of_ble_eq_true rfl)
  rw [lg_entry_eq]
  generalize (lg_sl ([.ref (a 0)]) ++ List.replicate (3 - (lg_sl ([.ref (a 0)])).length) Slot.unset).toArray = ls at hl ⊢
  replace hl : lv_has ls 3 [(0, .ref (a 0))] := hl
  obtain ⟨d0, hd0, ed0⟩ := nI_of2 (x := (vi 0)) (M := 59) (n := 59) (by decide) (fun c => by have h9 := xlt (k := 0) (by decide) c; omega) (Int32.le_iff_toInt_le.mpr (by show (vi 0).toInt ≤ 59; omega))
  rw [ed0] at hP hD
  refine lv_iconst (v := 0) hx hb dX12_monday_0 (by decide) ?_
  refine lv_istore_n (lv' := [(1, .int 0), (0, .ref (a 0))]) hx hb dX12_monday_1 rfl hl (by decide) rfl (fun ls hl => ?_)
  have lp : ∀ (n i : Nat) (H : Heap) (locs : List Loc) (ls : Array Slot), i + n = 9 → va_P D vwCl [((a 0), .inr (12, ((.int 0) :: (.ref (ex 0)) :: (.int 0) :: (.int 0) :: (.int 0) :: (.int 0) :: (.ref (a 1)) :: (.ref (ex 1)) :: (.ref (ex 2)) :: (.ref (ex 3)) :: (.ref (ex 4)) :: (.int 0) :: (.int 0) :: (.int 0) :: (.int 0) :: (.int 0) :: (.int 0) :: (.long 0) :: (.int 0) :: (.int 0) :: (.int 0) :: (.ref (ex 5)) :: (.ref (ex 6)) :: (.int 1) :: (.ref (ex 7)) :: (.int (-1)) :: (.int 0) :: (.int 0) :: (.int 0) :: (.int 0) :: (.int 0) :: (.int 0) :: (.ref (ex 8)) :: (.int 0) :: (.ref (ex 9)) :: (.int 0) :: (.int 0) :: (.int 0) :: (.int 0) :: (.int 0) :: (.ref (ex 10)) :: (.ref (ex 11)) :: (.ref (ex 12)) :: (.ref (ex 13)) :: []))), ((a 1), .inl (T 1, 2187, .inl (xm (nI d0))))] H → va_D A [((a 0), .inr (12, ((.int 0) :: (.ref (ex 0)) :: (.int 0) :: (.int 0) :: (.int 0) :: (.int 0) :: (.ref (a 1)) :: (.ref (ex 1)) :: (.ref (ex 2)) :: (.ref (ex 3)) :: (.ref (ex 4)) :: (.int 0) :: (.int 0) :: (.int 0) :: (.int 0) :: (.int 0) :: (.int 0) :: (.long 0) :: (.int 0) :: (.int 0) :: (.int 0) :: (.ref (ex 5)) :: (.ref (ex 6)) :: (.int 1) :: (.ref (ex 7)) :: (.int (-1)) :: (.int 0) :: (.int 0) :: (.int 0) :: (.int 0) :: (.int 0) :: (.int 0) :: (.ref (ex 8)) :: (.int 0) :: (.ref (ex 9)) :: (.int 0) :: (.int 0) :: (.int 0) :: (.int 0) :: (.int 0) :: (.ref (ex 10)) :: (.ref (ex 11)) :: (.ref (ex 12)) :: (.ref (ex 13)) :: []))), ((a 1), .inl (T 1, 2187, .inl (xm (nI d0))))] → va_S A s.heap H locs → lv_has ls 3 [(1, .int (nI i)), (0, .ref (a 0))] → W p l e R s m ([.ref (a 0)] : List Value).toArray below meth c H locs 0 0 Q (F0 m 2 ls []) := by
    intro n
    induction n with
    | zero =>
      intro i H locs ls hin hP hD hS hl
      obtain rfl : i = 9 := by omega
      replace hl : lv_has ls 3 [(1, .int 9), (0, .ref (a 0))] := hl
      refine lv_iload_n hx hb dX12_monday_2 rfl (lv_at hl 0 rfl) ?_
      refine lv_bipush (v := 9) hx hb dX12_monday_3 (by decide) ?_
      refine lv_icmp_ge (tgt := 47) hx hb dX12_monday_5 (by decide) (fun _ => ?_) (fun c => absurd (by decide) c)
      refine lv_iconst (v := 0) hx hb dX12_monday_47 (by decide) ?_
      refine lv_istore_n (lv' := [(1, .int 0), (0, .ref (a 0))]) hx hb dX12_monday_48 rfl hl (by decide) rfl (fun ls hl => ?_)
      refine lv_iload_n hx hb dX12_monday_49 rfl (lv_at hl 0 rfl) ?_
      refine lv_aload_n hx hb dX12_monday_50 rfl (lv_at hl 1 rfl) ?_
      refine va_get (D := D) (ci := 12) (v := .ref (a 1)) (C := RX12) (T := TX12) (N := 44) hx hb htg inX12 hown hK.1 hP 0 rfl rfl 6 (by decide) (htg _ kw_1413) (fun _ h9 => h9) rfl dX12_monday_51 ?_
      refine lv_iconst (v := 0) hx hb dX12_monday_54 (by decide) ?_
      refine va_iald hx hb hK.1 hP 1 1 rfl rfl (vp_in_nI (n := 0) (by decide) (by decide)) dX12_monday_55 ?_
      refine xz_i 0 (xm_ne (by decide)) ?_
      refine lv_icmp_ge (tgt := 165) hx hb dX12_monday_56 (by decide) (fun _ => ?_) (fun c => absurd (by decide) c)
      refine lv_aload_n hx hb dX12_monday_165 rfl (lv_at hl 1 rfl) ?_
      refine va_get (D := D) (ci := 12) (v := .ref (a 1)) (C := RX12) (T := TX12) (N := 44) hx hb htg inX12 hown hK.1 hP 0 rfl rfl 6 (by decide) (htg _ kw_1413) (fun _ h9 => h9) rfl dX12_monday_166 ?_
      refine lv_sipush (v := 146) hx hb dX12_monday_169 (by decide) ?_
      refine lv_dup2_11 hx hb dX12_monday_172 rfl rfl ?_
      refine va_iald hx hb hK.1 hP 1 1 rfl rfl (vp_in_nI (n := 146) (by decide) (by decide)) dX12_monday_173 ?_
      refine xz_i (nI d0) (xm_at _) ?_
      refine lv_iconst (v := 1) hx hb dX12_monday_174 (by decide) ?_
      refine lv_iadd hx hb dX12_monday_175 ?_
      refine xz_i (nI (d0 + 1)) (nI_add (d0) (1)) ?_
      refine va_iast hx hb hK.1 hP hD hS 1 1 rfl rfl (vp_in_nI (n := 146) (by decide) (by decide)) dX12_monday_176 (fun H locs hP hD hS => ?_)
      obtain ⟨f7, e7, hP, hD⟩ : ∃ f7 : Nat → Int32, f7 = xm (nI (d0 + 1)) ∧ va_P D vwCl [((a 0), .inr (12, ((.int 0) :: (.ref (ex 0)) :: (.int 0) :: (.int 0) :: (.int 0) :: (.int 0) :: (.ref (a 1)) :: (.ref (ex 1)) :: (.ref (ex 2)) :: (.ref (ex 3)) :: (.ref (ex 4)) :: (.int 0) :: (.int 0) :: (.int 0) :: (.int 0) :: (.int 0) :: (.int 0) :: (.long 0) :: (.int 0) :: (.int 0) :: (.int 0) :: (.ref (ex 5)) :: (.ref (ex 6)) :: (.int 1) :: (.ref (ex 7)) :: (.int (-1)) :: (.int 0) :: (.int 0) :: (.int 0) :: (.int 0) :: (.int 0) :: (.int 0) :: (.ref (ex 8)) :: (.int 0) :: (.ref (ex 9)) :: (.int 0) :: (.int 0) :: (.int 0) :: (.int 0) :: (.int 0) :: (.ref (ex 10)) :: (.ref (ex 11)) :: (.ref (ex 12)) :: (.ref (ex 13)) :: []))), ((a 1), .inl (T 1, 2187, .inl f7))] H ∧ va_D A [((a 0), .inr (12, ((.int 0) :: (.ref (ex 0)) :: (.int 0) :: (.int 0) :: (.int 0) :: (.int 0) :: (.ref (a 1)) :: (.ref (ex 1)) :: (.ref (ex 2)) :: (.ref (ex 3)) :: (.ref (ex 4)) :: (.int 0) :: (.int 0) :: (.int 0) :: (.int 0) :: (.int 0) :: (.int 0) :: (.long 0) :: (.int 0) :: (.int 0) :: (.int 0) :: (.ref (ex 5)) :: (.ref (ex 6)) :: (.int 1) :: (.ref (ex 7)) :: (.int (-1)) :: (.int 0) :: (.int 0) :: (.int 0) :: (.int 0) :: (.int 0) :: (.int 0) :: (.ref (ex 8)) :: (.int 0) :: (.ref (ex 9)) :: (.int 0) :: (.int 0) :: (.int 0) :: (.int 0) :: (.int 0) :: (.ref (ex 10)) :: (.ref (ex 11)) :: (.ref (ex 12)) :: (.ref (ex 13)) :: []))), ((a 1), .inl (T 1, 2187, .inl f7))] := ⟨upd (xm (nI d0)) (146 : Int32).toNatClampNeg (nI (d0 + 1)), (xm_up _ _), hP, hD⟩
      subst e7
      refine lv_aload_n hx hb dX12_monday_177 rfl (lv_at hl 1 rfl) ?_
      refine va_get (D := D) (ci := 12) (v := .ref (a 1)) (C := RX12) (T := TX12) (N := 44) hx hb htg inX12 hown hK.1 hP 0 rfl rfl 6 (by decide) (htg _ kw_1413) (fun _ h9 => h9) rfl dX12_monday_178 ?_
      refine lv_sipush (v := 149) hx hb dX12_monday_181 (by decide) ?_
      refine lv_iconst (v := 0) hx hb dX12_monday_184 (by decide) ?_
      refine va_iast hx hb hK.1 hP hD hS 1 1 rfl rfl (vp_in_nI (n := 149) (by decide) (by decide)) dX12_monday_185 (fun H locs hP hD hS => ?_)
      obtain ⟨f7, e7, hP, hD⟩ : ∃ f7 : Nat → Int32, f7 = xm (nI (d0 + 1)) ∧ va_P D vwCl [((a 0), .inr (12, ((.int 0) :: (.ref (ex 0)) :: (.int 0) :: (.int 0) :: (.int 0) :: (.int 0) :: (.ref (a 1)) :: (.ref (ex 1)) :: (.ref (ex 2)) :: (.ref (ex 3)) :: (.ref (ex 4)) :: (.int 0) :: (.int 0) :: (.int 0) :: (.int 0) :: (.int 0) :: (.int 0) :: (.long 0) :: (.int 0) :: (.int 0) :: (.int 0) :: (.ref (ex 5)) :: (.ref (ex 6)) :: (.int 1) :: (.ref (ex 7)) :: (.int (-1)) :: (.int 0) :: (.int 0) :: (.int 0) :: (.int 0) :: (.int 0) :: (.int 0) :: (.ref (ex 8)) :: (.int 0) :: (.ref (ex 9)) :: (.int 0) :: (.int 0) :: (.int 0) :: (.int 0) :: (.int 0) :: (.ref (ex 10)) :: (.ref (ex 11)) :: (.ref (ex 12)) :: (.ref (ex 13)) :: []))), ((a 1), .inl (T 1, 2187, .inl f7))] H ∧ va_D A [((a 0), .inr (12, ((.int 0) :: (.ref (ex 0)) :: (.int 0) :: (.int 0) :: (.int 0) :: (.int 0) :: (.ref (a 1)) :: (.ref (ex 1)) :: (.ref (ex 2)) :: (.ref (ex 3)) :: (.ref (ex 4)) :: (.int 0) :: (.int 0) :: (.int 0) :: (.int 0) :: (.int 0) :: (.int 0) :: (.long 0) :: (.int 0) :: (.int 0) :: (.int 0) :: (.ref (ex 5)) :: (.ref (ex 6)) :: (.int 1) :: (.ref (ex 7)) :: (.int (-1)) :: (.int 0) :: (.int 0) :: (.int 0) :: (.int 0) :: (.int 0) :: (.int 0) :: (.ref (ex 8)) :: (.int 0) :: (.ref (ex 9)) :: (.int 0) :: (.int 0) :: (.int 0) :: (.int 0) :: (.int 0) :: (.ref (ex 10)) :: (.ref (ex 11)) :: (.ref (ex 12)) :: (.ref (ex 13)) :: []))), ((a 1), .inl (T 1, 2187, .inl f7))] := ⟨upd (xm (nI (d0 + 1))) (149 : Int32).toNatClampNeg 0, (xm_up0 (by decide)), hP, hD⟩
      subst e7
      rw [← nI_1, ← ed0] at hP hD
      have hP9 := hP.sub (ws' := [((a 0), .inr (12, ((.int 0) :: (.ref (ex 0)) :: (.int 0) :: (.int 0) :: (.int 0) :: (.int 0) :: (.ref (a 1)) :: (.ref (ex 1)) :: (.ref (ex 2)) :: (.ref (ex 3)) :: (.ref (ex 4)) :: (.int 0) :: (.int 0) :: (.int 0) :: (.int 0) :: (.int 0) :: (.int 0) :: (.long 0) :: (.int 0) :: (.int 0) :: (.int 0) :: (.ref (ex 5)) :: (.ref (ex 6)) :: (.int 1) :: (.ref (ex 7)) :: (.int (-1)) :: (.int 0) :: (.int 0) :: (.int 0) :: (.int 0) :: (.int 0) :: (.int 0) :: (.ref (ex 8)) :: (.int 0) :: (.ref (ex 9)) :: (.int 0) :: (.int 0) :: (.int 0) :: (.int 0) :: (.int 0) :: (.ref (ex 10)) :: (.ref (ex 11)) :: (.ref (ex 12)) :: (.ref (ex 13)) :: []))), ((a 1), .inl (T 1, 2187, .inl (xm ((vi 0) + 1))))]) [0, 1] rfl
      have hD9 := hD.sub (ws' := [((a 0), .inr (12, ((.int 0) :: (.ref (ex 0)) :: (.int 0) :: (.int 0) :: (.int 0) :: (.int 0) :: (.ref (a 1)) :: (.ref (ex 1)) :: (.ref (ex 2)) :: (.ref (ex 3)) :: (.ref (ex 4)) :: (.int 0) :: (.int 0) :: (.int 0) :: (.int 0) :: (.int 0) :: (.int 0) :: (.long 0) :: (.int 0) :: (.int 0) :: (.int 0) :: (.ref (ex 5)) :: (.ref (ex 6)) :: (.int 1) :: (.ref (ex 7)) :: (.int (-1)) :: (.int 0) :: (.int 0) :: (.int 0) :: (.int 0) :: (.int 0) :: (.int 0) :: (.ref (ex 8)) :: (.int 0) :: (.ref (ex 9)) :: (.int 0) :: (.int 0) :: (.int 0) :: (.int 0) :: (.int 0) :: (.ref (ex 10)) :: (.ref (ex 11)) :: (.ref (ex 12)) :: (.ref (ex 13)) :: []))), ((a 1), .inl (T 1, 2187, .inl (xm ((vi 0) + 1))))]) [0, 1] (by decide +kernel) rfl
      rw [hQ]
      exact W.vret hx hb hr (fun t ht hW => ⟨⟨(), rfl, trivial, ⟨xa [], xf [], xh [], xv [], by rw [ht]; exact hP9, hD9, trivial⟩⟩, hS.F ht⟩) hS.2.2 dX12_monday_186
    | succ n ih =>
      intro i H locs ls hin hP hD hS hl
      refine lv_iload_n hx hb dX12_monday_2 rfl (lv_at hl 0 rfl) ?_
      refine lv_bipush (v := 9) hx hb dX12_monday_3 (by decide) ?_
      refine lv_icmp_ge (tgt := 47) hx hb dX12_monday_5 (by decide) (fun c => by exfalso; have h9 := xge (k := 9) (by decide) c; have h8 := nI_toInt (n := i) (by omega); omega) (fun _ => ?_)
      refine lv_aload_n hx hb dX12_monday_8 rfl (lv_at hl 1 rfl) ?_
      refine va_get (D := D) (ci := 12) (v := .ref (a 1)) (C := RX12) (T := TX12) (N := 44) hx hb htg inX12 hown hK.1 hP 0 rfl rfl 6 (by decide) (htg _ kw_1413) (fun _ h9 => h9) rfl dX12_monday_9 ?_
      refine lv_sipush (v := 206) hx hb dX12_monday_12 (by decide) ?_
      refine lv_sipush (v := 200) hx hb dX12_monday_15 (by decide) ?_
      refine lv_iload_n hx hb dX12_monday_18 rfl (lv_at hl 0 rfl) ?_
      refine lv_imul hx hb dX12_monday_19 ?_
      refine xz_i (nI ((200) * (i))) (pk_mul (200) (i)) ?_
      refine lv_iadd hx hb dX12_monday_20 ?_
      refine xz_i (nI (206 + ((200) * (i)))) (nI_add (206) ((200) * (i))) ?_
      refine lv_aload_n hx hb dX12_monday_21 rfl (lv_at hl 1 rfl) ?_
      refine va_get (D := D) (ci := 12) (v := .ref (a 1)) (C := RX12) (T := TX12) (N := 44) hx hb htg inX12 hown hK.1 hP 0 rfl rfl 6 (by decide) (htg _ kw_1413) (fun _ h9 => h9) rfl dX12_monday_22 ?_
      refine lv_sipush (v := 146) hx hb dX12_monday_25 (by decide) ?_
      refine va_iald hx hb hK.1 hP 1 1 rfl rfl (vp_in_nI (n := 146) (by decide) (by decide)) dX12_monday_28 ?_
      refine xz_i (nI d0) (xm_at _) ?_
      refine lv_iadd hx hb dX12_monday_29 ?_
      refine xz_i (nI (206 + ((200) * (i)) + d0)) (nI_add (206 + ((200) * (i))) (d0)) ?_
      refine lv_aload_n hx hb dX12_monday_30 rfl (lv_at hl 1 rfl) ?_
      refine va_get (D := D) (ci := 12) (v := .ref (a 1)) (C := RX12) (T := TX12) (N := 44) hx hb htg inX12 hown hK.1 hP 0 rfl rfl 6 (by decide) (htg _ kw_1413) (fun _ h9 => h9) rfl dX12_monday_31 ?_
      refine lv_sipush (v := 161) hx hb dX12_monday_34 (by decide) ?_
      refine lv_iload_n hx hb dX12_monday_37 rfl (lv_at hl 0 rfl) ?_
      refine lv_iadd hx hb dX12_monday_38 ?_
      refine xz_i (nI (161 + i)) (nI_add (161) (i)) ?_
      refine va_iald hx hb hK.1 hP 1 1 rfl rfl (vp_in_nI (n := 161 + i) (by omega) (by decide)) dX12_monday_39 ?_
      refine xz_i 0 (xm_neN (n := 161 + i) (by omega) (by omega)) ?_
      refine va_iast hx hb hK.1 hP hD hS 1 1 rfl rfl (vp_in_nI (n := 206 + ((200) * (i)) + d0) (by omega) (by decide)) dX12_monday_40 (fun H locs hP hD hS => ?_)
      obtain ⟨f7, e7, hP, hD⟩ : ∃ f7 : Nat → Int32, f7 = xm (nI d0) ∧ va_P D vwCl [((a 0), .inr (12, ((.int 0) :: (.ref (ex 0)) :: (.int 0) :: (.int 0) :: (.int 0) :: (.int 0) :: (.ref (a 1)) :: (.ref (ex 1)) :: (.ref (ex 2)) :: (.ref (ex 3)) :: (.ref (ex 4)) :: (.int 0) :: (.int 0) :: (.int 0) :: (.int 0) :: (.int 0) :: (.int 0) :: (.long 0) :: (.int 0) :: (.int 0) :: (.int 0) :: (.ref (ex 5)) :: (.ref (ex 6)) :: (.int 1) :: (.ref (ex 7)) :: (.int (-1)) :: (.int 0) :: (.int 0) :: (.int 0) :: (.int 0) :: (.int 0) :: (.int 0) :: (.ref (ex 8)) :: (.int 0) :: (.ref (ex 9)) :: (.int 0) :: (.int 0) :: (.int 0) :: (.int 0) :: (.int 0) :: (.ref (ex 10)) :: (.ref (ex 11)) :: (.ref (ex 12)) :: (.ref (ex 13)) :: []))), ((a 1), .inl (T 1, 2187, .inl f7))] H ∧ va_D A [((a 0), .inr (12, ((.int 0) :: (.ref (ex 0)) :: (.int 0) :: (.int 0) :: (.int 0) :: (.int 0) :: (.ref (a 1)) :: (.ref (ex 1)) :: (.ref (ex 2)) :: (.ref (ex 3)) :: (.ref (ex 4)) :: (.int 0) :: (.int 0) :: (.int 0) :: (.int 0) :: (.int 0) :: (.int 0) :: (.long 0) :: (.int 0) :: (.int 0) :: (.int 0) :: (.ref (ex 5)) :: (.ref (ex 6)) :: (.int 1) :: (.ref (ex 7)) :: (.int (-1)) :: (.int 0) :: (.int 0) :: (.int 0) :: (.int 0) :: (.int 0) :: (.int 0) :: (.ref (ex 8)) :: (.int 0) :: (.ref (ex 9)) :: (.int 0) :: (.int 0) :: (.int 0) :: (.int 0) :: (.int 0) :: (.ref (ex 10)) :: (.ref (ex 11)) :: (.ref (ex 12)) :: (.ref (ex 13)) :: []))), ((a 1), .inl (T 1, 2187, .inl f7))] := ⟨upd (xm (nI d0)) ((nI (206 + ((200) * (i)) + d0)) : Int32).toNatClampNeg 0, (xm_up0N (n := 206 + ((200) * (i)) + d0) (by omega) (by omega)), hP, hD⟩
      subst e7
      refine lv_iinc (v := (nI (i + 1))) (lv' := [(1, .int (nI (i + 1))), (0, .ref (a 0))]) hx hb dX12_monday_41 hl (k := 0) rfl (nI_add (i) 1) (by decide) rfl (fun ls hl => ?_)
      refine lv_goto (tgt := 2) hx hb dX12_monday_44 (by decide) ?_
      exact ih (i + 1) _ _ _ (by omega) (hP.sub [0, 1] rfl) (hD.sub [0, 1] (by decide) rfl) hS (lv_sub hl [0, 1] rfl)
  exact lp 9 0 _ _ _ (by omega) hP hD hS hl
abbrev pre_X12_goes (T : Nat → ClassId) (a ex : Nat → Nat) (fi : Nat → Nat → Int32) (fl : Nat → Nat → Int64) (vi : Nat → Int32) : va_W := [((a 0), .inr (12, ((.int 0) :: (.ref (ex 0)) :: (.int 0) :: (.int 0) :: (.int 0) :: (.int 0) :: (.ref (a 1)) :: (.ref (ex 1)) :: (.ref (ex 2)) :: (.ref (ex 3)) :: (.ref (ex 4)) :: (.int 0) :: (.int 0) :: (.int 0) :: (.int 0) :: (.int 0) :: (.int 0) :: (.long 0) :: (.int 0) :: (.int 0) :: (.int 0) :: (.ref (ex 5)) :: (.ref (ex 6)) :: (.int 1) :: (.ref (ex 7)) :: (.int (-1)) :: (.int 0) :: (.int 0) :: (.int 0) :: (.int 0) :: (.int 0) :: (.int 0) :: (.ref (ex 8)) :: (.int 0) :: (.ref (ex 9)) :: (.int 0) :: (.int 0) :: (.int 0) :: (.int 0) :: (.int 0) :: (.ref (ex 10)) :: (.ref (ex 11)) :: (.ref (ex 12)) :: (.ref (ex 13)) :: []))), ((a 1), .inl (T 1, 2187, .inl (fun _ => 0)))]
set_option maxHeartbeats 4000000 in
set_option maxRecDepth 100000 in
theorem c_X12_goes (l : Launch) (D : va_G) (T : Nat → ClassId) (a ex : Nat → Nat) (fi : Nat → Nat → Int32) (fl : Nat → Nat → Int64) (vi : Nat → Int32) (sz : Nat) (hd0 : (1 ≤ (vi 0).toInt ∧ (vi 0).toInt ≤ 60)) : Met l yX12_goes (xw yX12_goes cX12_goes 3 (some .int)) ({ frames := 1, cells := 0, slots := 0, locals := 26 }) (xP D T [.ref (a 0), .int (vi 0)] sz (pre_X12_goes T a ex fi fl vi)) (va_Qi (fun r (_ : Unit) => r = (vi 0)) (xB D (va_A (pre_X12_goes T a ex fi fl vi) sz) (fun _ => True) (fun b fj fm vj => [((a 0), .inr (12, ((.int 0) :: (.ref (ex 0)) :: (.int 0) :: (.int 0) :: (.int 0) :: (.int 0) :: (.ref (a 1)) :: (.ref (ex 1)) :: (.ref (ex 2)) :: (.ref (ex 3)) :: (.ref (ex 4)) :: (.int 0) :: (.int 0) :: (.int 0) :: (.int 0) :: (.int 0) :: (.int 0) :: (.long 0) :: (.int 0) :: (.int 0) :: (.int 0) :: (.ref (ex 5)) :: (.ref (ex 6)) :: (.int 1) :: (.ref (ex 7)) :: (.int (-1)) :: (.int 0) :: (.int 0) :: (.int 0) :: (.int 0) :: (.int 0) :: (.int 0) :: (.ref (ex 8)) :: (.int 0) :: (.ref (ex 9)) :: (.int 0) :: (.int 0) :: (.int 0) :: (.int 0) :: (.int 0) :: (.ref (ex 10)) :: (.ref (ex 11)) :: (.ref (ex 12)) :: (.ref (ex 13)) :: []))), ((a 1), .inl (T 1, 2187, .inl (fj 0)))])) (va_A (pre_X12_goes T a ex fi fl vi) sz)) 0 0 (va_A (pre_X12_goes T a ex fi fl vi) sz) := by
  refine xofW (cc := cX12_goes) (maxL := 3) (ret := (some .int)) (by decide) rfl ?_
  intro p e s m args below meth c s₁ R Q hR hQ B hml hv
  obtain ⟨rfl, hsz, hP, hK, hD0⟩ := hv
  have hx := B.exec
  have hb := B.bytes
  have hr := B.returns
  have hts := atoms_spec (ws := xw yX12_goes cX12_goes 3 (some .int)) B.pre
  have htg : ∀ w ∈ xg, w.before _ s = true := fun w h => hts w (List.mem_cons_of_mem _ h)
  have hown : s.vm.findClass RX12 = some m.cls := findClass_of_methodNamed B.named
  have hlocks := B.notSynchronized
  subst hsz
  have hD := hD0.self (sz := s.heap.size)
  generalize hAe : va_A (pre_X12_goes T a ex fi fl vi) s.heap.size = A at hD hQ
  have hA : ∀ q : Nat, s.heap.size ≤ q → A q := fun q h => by rw [← hAe]; exact Or.inr h
  have hS : va_S A s.heap s.heap [] := va_S.rf
  replace hP : va_P D vwCl [((a 0), .inr (12, ((.int 0) :: (.ref (ex 0)) :: (.int 0) :: (.int 0) :: (.int 0) :: (.int 0) :: (.ref (a 1)) :: (.ref (ex 1)) :: (.ref (ex 2)) :: (.ref (ex 3)) :: (.ref (ex 4)) :: (.int 0) :: (.int 0) :: (.int 0) :: (.int 0) :: (.int 0) :: (.int 0) :: (.long 0) :: (.int 0) :: (.int 0) :: (.int 0) :: (.ref (ex 5)) :: (.ref (ex 6)) :: (.int 1) :: (.ref (ex 7)) :: (.int (-1)) :: (.int 0) :: (.int 0) :: (.int 0) :: (.int 0) :: (.int 0) :: (.int 0) :: (.ref (ex 8)) :: (.int 0) :: (.ref (ex 9)) :: (.int 0) :: (.int 0) :: (.int 0) :: (.int 0) :: (.int 0) :: (.ref (ex 10)) :: (.ref (ex 11)) :: (.ref (ex 12)) :: (.ref (ex 13)) :: []))), ((a 1), .inl (T 1, 2187, .inl (fun _ => 0)))] s.heap := hP
  replace hD : va_D A [((a 0), .inr (12, ((.int 0) :: (.ref (ex 0)) :: (.int 0) :: (.int 0) :: (.int 0) :: (.int 0) :: (.ref (a 1)) :: (.ref (ex 1)) :: (.ref (ex 2)) :: (.ref (ex 3)) :: (.ref (ex 4)) :: (.int 0) :: (.int 0) :: (.int 0) :: (.int 0) :: (.int 0) :: (.int 0) :: (.long 0) :: (.int 0) :: (.int 0) :: (.int 0) :: (.ref (ex 5)) :: (.ref (ex 6)) :: (.int 1) :: (.ref (ex 7)) :: (.int (-1)) :: (.int 0) :: (.int 0) :: (.int 0) :: (.int 0) :: (.int 0) :: (.int 0) :: (.ref (ex 8)) :: (.int 0) :: (.ref (ex 9)) :: (.int 0) :: (.int 0) :: (.int 0) :: (.int 0) :: (.int 0) :: (.ref (ex 10)) :: (.ref (ex 11)) :: (.ref (ex 12)) :: (.ref (ex 13)) :: []))), ((a 1), .inl (T 1, 2187, .inl (fun _ => 0)))] := hD
  have hl := lv_entry ([.ref (a 0), .int (vi 0)]) (n := 3) (Nat.le_of_ble_eq_true rfl)
  rw [lg_entry_eq]
  generalize (lg_sl ([.ref (a 0), .int (vi 0)]) ++ List.replicate (3 - (lg_sl ([.ref (a 0), .int (vi 0)])).length) Slot.unset).toArray = ls at hl ⊢
  replace hl : lv_has ls 3 [(0, .ref (a 0)), (1, .int (vi 0))] := hl
  refine lv_iconst (v := 0) hx hb dX12_goes_0 (by decide) ?_
  refine lv_istore_n (lv' := [(2, .int 0), (0, .ref (a 0)), (1, .int (vi 0))]) hx hb dX12_goes_1 rfl hl (by decide) rfl (fun ls hl => ?_)
  obtain ⟨nn, hnn, enn⟩ := nI_of2 (x := (vi 0)) (M := 60) (n := 60) (by decide) (fun c => by have h9 := xlt (k := 0) (by decide) c; omega) (Int32.le_iff_toInt_le.mpr (by show (vi 0).toInt ≤ 60; omega))
  rw [enn] at hl
  rw [xm_0] at hP hD
  have lp : ∀ (n iv : Nat) (H : Heap) (locs : List Loc) (ls : Array Slot), iv + n = nn → va_P D vwCl [((a 0), .inr (12, ((.int 0) :: (.ref (ex 0)) :: (.int 0) :: (.int 0) :: (.int 0) :: (.int 0) :: (.ref (a 1)) :: (.ref (ex 1)) :: (.ref (ex 2)) :: (.ref (ex 3)) :: (.ref (ex 4)) :: (.int 0) :: (.int 0) :: (.int 0) :: (.int 0) :: (.int 0) :: (.int 0) :: (.long 0) :: (.int 0) :: (.int 0) :: (.int 0) :: (.ref (ex 5)) :: (.ref (ex 6)) :: (.int 1) :: (.ref (ex 7)) :: (.int (-1)) :: (.int 0) :: (.int 0) :: (.int 0) :: (.int 0) :: (.int 0) :: (.int 0) :: (.ref (ex 8)) :: (.int 0) :: (.ref (ex 9)) :: (.int 0) :: (.int 0) :: (.int 0) :: (.int 0) :: (.int 0) :: (.ref (ex 10)) :: (.ref (ex 11)) :: (.ref (ex 12)) :: (.ref (ex 13)) :: []))), ((a 1), .inl (T 1, 2187, .inl (xm (nI iv))))] H → va_D A [((a 0), .inr (12, ((.int 0) :: (.ref (ex 0)) :: (.int 0) :: (.int 0) :: (.int 0) :: (.int 0) :: (.ref (a 1)) :: (.ref (ex 1)) :: (.ref (ex 2)) :: (.ref (ex 3)) :: (.ref (ex 4)) :: (.int 0) :: (.int 0) :: (.int 0) :: (.int 0) :: (.int 0) :: (.int 0) :: (.long 0) :: (.int 0) :: (.int 0) :: (.int 0) :: (.ref (ex 5)) :: (.ref (ex 6)) :: (.int 1) :: (.ref (ex 7)) :: (.int (-1)) :: (.int 0) :: (.int 0) :: (.int 0) :: (.int 0) :: (.int 0) :: (.int 0) :: (.ref (ex 8)) :: (.int 0) :: (.ref (ex 9)) :: (.int 0) :: (.int 0) :: (.int 0) :: (.int 0) :: (.int 0) :: (.ref (ex 10)) :: (.ref (ex 11)) :: (.ref (ex 12)) :: (.ref (ex 13)) :: []))), ((a 1), .inl (T 1, 2187, .inl (xm (nI iv))))] → va_S A s.heap H locs → lv_has ls 3 [(2, .int (nI iv)), (0, .ref (a 0)), (1, .int (nI nn))] → W p l e R s m ([.ref (a 0), .int (vi 0)] : List Value).toArray below meth c H locs 0 0 Q (F0 m 2 ls []) := by
    intro n
    induction n with
    | zero =>
      intro iv H locs ls hin hP hD hS hl
      obtain rfl : iv = nn := by omega
      refine lv_iload_n hx hb dX12_goes_2 rfl (lv_at hl 0 rfl) ?_
      refine lv_iload_n hx hb dX12_goes_3 rfl (lv_at hl 2 rfl) ?_
      refine lv_icmp_ge (tgt := 31) hx hb dX12_goes_4 (by decide) (fun _ => ?_) (fun c => by exfalso; have h9 := mt Int32.le_iff_toInt_le.mpr c; have h7 := nI_toInt (n := iv) (by omega); have h8 := nI_toInt (n := iv) (by omega); omega)
      refine lv_iload_n hx hb dX12_goes_31 rfl (lv_at hl 0 rfl) ?_
      have hP9 := hP.sub (ws' := [((a 0), .inr (12, ((.int 0) :: (.ref (ex 0)) :: (.int 0) :: (.int 0) :: (.int 0) :: (.int 0) :: (.ref (a 1)) :: (.ref (ex 1)) :: (.ref (ex 2)) :: (.ref (ex 3)) :: (.ref (ex 4)) :: (.int 0) :: (.int 0) :: (.int 0) :: (.int 0) :: (.int 0) :: (.int 0) :: (.long 0) :: (.int 0) :: (.int 0) :: (.int 0) :: (.ref (ex 5)) :: (.ref (ex 6)) :: (.int 1) :: (.ref (ex 7)) :: (.int (-1)) :: (.int 0) :: (.int 0) :: (.int 0) :: (.int 0) :: (.int 0) :: (.int 0) :: (.ref (ex 8)) :: (.int 0) :: (.ref (ex 9)) :: (.int 0) :: (.int 0) :: (.int 0) :: (.int 0) :: (.int 0) :: (.ref (ex 10)) :: (.ref (ex 11)) :: (.ref (ex 12)) :: (.ref (ex 13)) :: []))), ((a 1), .inl (T 1, 2187, .inl (xm (nI iv))))]) [0, 1] rfl
      have hD9 := hD.sub (ws' := [((a 0), .inr (12, ((.int 0) :: (.ref (ex 0)) :: (.int 0) :: (.int 0) :: (.int 0) :: (.int 0) :: (.ref (a 1)) :: (.ref (ex 1)) :: (.ref (ex 2)) :: (.ref (ex 3)) :: (.ref (ex 4)) :: (.int 0) :: (.int 0) :: (.int 0) :: (.int 0) :: (.int 0) :: (.int 0) :: (.long 0) :: (.int 0) :: (.int 0) :: (.int 0) :: (.ref (ex 5)) :: (.ref (ex 6)) :: (.int 1) :: (.ref (ex 7)) :: (.int (-1)) :: (.int 0) :: (.int 0) :: (.int 0) :: (.int 0) :: (.int 0) :: (.int 0) :: (.ref (ex 8)) :: (.int 0) :: (.ref (ex 9)) :: (.int 0) :: (.int 0) :: (.int 0) :: (.int 0) :: (.int 0) :: (.ref (ex 10)) :: (.ref (ex 11)) :: (.ref (ex 12)) :: (.ref (ex 13)) :: []))), ((a 1), .inl (T 1, 2187, .inl (xm (nI iv))))]) [0, 1] (by decide +kernel) rfl
      rw [hQ]
      refine xz_i (vi 0) enn.symm ?_
      exact W.iret (v := (vi 0)) hx hb hr (fun t ht hW => ⟨⟨(vi 0), (), rfl, rfl, ⟨xa [], xf [(xm (nI iv))], xh [], xv [], by rw [ht]; exact hP9, hD9, trivial⟩⟩, hS.F ht⟩) hS.2.2 dX12_goes_32
    | succ n ih =>
      intro iv H locs ls hin hP hD hS hl
      refine lv_iload_n hx hb dX12_goes_2 rfl (lv_at hl 0 rfl) ?_
      refine lv_iload_n hx hb dX12_goes_3 rfl (lv_at hl 2 rfl) ?_
      refine lv_icmp_ge (tgt := 31) hx hb dX12_goes_4 (by decide) (fun c => by exfalso; have h9 := Int32.le_iff_toInt_le.mp c; have h7 := nI_toInt (n := iv) (by omega); have h8 := nI_toInt (n := nn) (by omega); omega) (fun _ => ?_)
      refine lv_aload_n hx hb dX12_goes_7 rfl (lv_at hl 1 rfl) ?_
      refine va_get (D := D) (ci := 12) (v := .ref (a 1)) (C := RX12) (T := TX12) (N := 44) hx hb htg inX12 hown hK.1 hP 0 rfl rfl 6 (by decide) (htg _ kw_1413) (fun _ h9 => h9) rfl dX12_goes_8 ?_
      refine lv_sipush (v := 146) hx hb dX12_goes_11 (by decide) ?_
      refine va_iald hx hb hK.1 hP 1 1 rfl rfl (vp_in_nI (n := 146) (by decide) (by decide)) dX12_goes_14 ?_
      refine xz_i (nI iv) (xm_at _) ?_
      refine lv_sipush (v := 200) hx hb dX12_goes_15 (by decide) ?_
      refine lv_icmp_ge (tgt := 31) hx hb dX12_goes_18 (by decide) (fun c => by exfalso; have h9 := xge (k := 200) (by decide) c; have h8 := nI_toInt (n := iv) (by omega); omega) (fun _ => ?_)
      refine lv_aload_n hx hb dX12_goes_21 rfl (lv_at hl 1 rfl) ?_
      have hPc := hP.sub (ws' := (pre_X12_monday T (xa [(a 0), (a 1)]) (xa [(ex 0), (ex 1), (ex 2), (ex 3), (ex 4), (ex 5), (ex 6), (ex 7), (ex 8), (ex 9), (ex 10), (ex 11), (ex 12), (ex 13)]) (xf []) (xh []) (xv [(nI iv)]))) [0, 1] rfl
      have hDc := hD.sub (ws' := (pre_X12_monday T (xa [(a 0), (a 1)]) (xa [(ex 0), (ex 1), (ex 2), (ex 3), (ex 4), (ex 5), (ex 6), (ex 7), (ex 8), (ex 9), (ex 10), (ex 11), (ex 12), (ex 13)]) (xf []) (xh []) (xv [(nI iv)]))) [0, 1] (by decide) rfl
      have hFc := va_free (wc := (pre_X12_monday T (xa [(a 0), (a 1)]) (xa [(ex 0), (ex 1), (ex 2), (ex 3), (ex 4), (ex 5), (ex 6), (ex 7), (ex 8), (ex 9), (ex 10), (ex 11), (ex 12), (ex 13)]) (xf []) (xh []) (xv [(nI iv)]))) hD hS hA [0, 1] rfl
      refine va_callv (va_runV (As := []) (rest := []) ⟨hx, hb, hml, hown, htg⟩ (c_X12_monday l D T (xa [(a 0), (a 1)]) (xa [(ex 0), (ex 1), (ex 2), (ex 3), (ex 4), (ex 5), (ex 6), (ex 7), (ex 8), (ex 9), (ex 10), (ex 11), (ex 12), (ex 13)]) (xf []) (xh []) (xv [(nI iv)]) H.size (by show (0 ≤ ((nI iv) : Int32).toInt ∧ ((nI iv) : Int32).toInt ≤ 59); have h8 := nI_toInt (n := iv) (by omega); omega)) ⟨callB_of 0 htg (xg_ok kw_1789) rfl rfl rfl (htg _ kw_17) (htg _ kw_1786) (by decide +kernel) ⟨by rw [hR]; exact Nat.le_of_ble_eq_true rfl, by rw [hR]; exact Nat.le_of_ble_eq_true rfl⟩, htg _ kw_1788, htg _ ks_159⟩ (xpreV hK hPc hDc (va_recv hK.1 hPc (ci := 12) (q0 := 0) rfl rfl)) rfl rfl hl.1 rfl (lv_room (Nat.le_of_ble_eq_true rfl)) dX12_goes_22 ⟨by rw [hR]; exact Nat.le_of_ble_eq_true rfl, by rw [hR]; exact Nat.le_of_ble_eq_true rfl⟩) hS (fun q _ h => hFc q h) hFc (fun u t H1 locs ht hvm hw hB hz1 hk1 hS => ?_)
      obtain ⟨bk, fik, flk, vik, hP1, hD1, hGk⟩ := hB
      rw [ht] at hP1
      obtain ⟨hP, hD⟩ := va_join (wr := []) (w1 := [((a 0), .inr (12, ((.int 0) :: (.ref (ex 0)) :: (.int 0) :: (.int 0) :: (.int 0) :: (.int 0) :: (.ref (a 1)) :: (.ref (ex 1)) :: (.ref (ex 2)) :: (.ref (ex 3)) :: (.ref (ex 4)) :: (.int 0) :: (.int 0) :: (.int 0) :: (.int 0) :: (.int 0) :: (.int 0) :: (.long 0) :: (.int 0) :: (.int 0) :: (.int 0) :: (.ref (ex 5)) :: (.ref (ex 6)) :: (.int 1) :: (.ref (ex 7)) :: (.int (-1)) :: (.int 0) :: (.int 0) :: (.int 0) :: (.int 0) :: (.int 0) :: (.int 0) :: (.ref (ex 8)) :: (.int 0) :: (.ref (ex 9)) :: (.int 0) :: (.int 0) :: (.int 0) :: (.int 0) :: (.int 0) :: (.ref (ex 10)) :: (.ref (ex 11)) :: (.ref (ex 12)) :: (.ref (ex 13)) :: []))), ((a 1), .inl (T 1, 2187, .inl (xm ((nI iv) + 1))))]) hP hD [0, 1] [] rfl rfl (by decide) (by decide) hk1 hFc hP1 hD1
      clear hPc hDc hFc hP1 hD1 hk1 hz1 hvm ht hw
      generalize H1 = H at hP hS ⊢
      replace hP : va_P D vwCl [((a 0), .inr (12, ((.int 0) :: (.ref (ex 0)) :: (.int 0) :: (.int 0) :: (.int 0) :: (.int 0) :: (.ref (a 1)) :: (.ref (ex 1)) :: (.ref (ex 2)) :: (.ref (ex 3)) :: (.ref (ex 4)) :: (.int 0) :: (.int 0) :: (.int 0) :: (.int 0) :: (.int 0) :: (.int 0) :: (.long 0) :: (.int 0) :: (.int 0) :: (.int 0) :: (.ref (ex 5)) :: (.ref (ex 6)) :: (.int 1) :: (.ref (ex 7)) :: (.int (-1)) :: (.int 0) :: (.int 0) :: (.int 0) :: (.int 0) :: (.int 0) :: (.int 0) :: (.ref (ex 8)) :: (.int 0) :: (.ref (ex 9)) :: (.int 0) :: (.int 0) :: (.int 0) :: (.int 0) :: (.int 0) :: (.ref (ex 10)) :: (.ref (ex 11)) :: (.ref (ex 12)) :: (.ref (ex 13)) :: []))), ((a 1), .inl (T 1, 2187, .inl (xm ((nI iv) + 1))))] H := hP
      replace hD : va_D A [((a 0), .inr (12, ((.int 0) :: (.ref (ex 0)) :: (.int 0) :: (.int 0) :: (.int 0) :: (.int 0) :: (.ref (a 1)) :: (.ref (ex 1)) :: (.ref (ex 2)) :: (.ref (ex 3)) :: (.ref (ex 4)) :: (.int 0) :: (.int 0) :: (.int 0) :: (.int 0) :: (.int 0) :: (.int 0) :: (.long 0) :: (.int 0) :: (.int 0) :: (.int 0) :: (.ref (ex 5)) :: (.ref (ex 6)) :: (.int 1) :: (.ref (ex 7)) :: (.int (-1)) :: (.int 0) :: (.int 0) :: (.int 0) :: (.int 0) :: (.int 0) :: (.int 0) :: (.ref (ex 8)) :: (.int 0) :: (.ref (ex 9)) :: (.int 0) :: (.int 0) :: (.int 0) :: (.int 0) :: (.int 0) :: (.ref (ex 10)) :: (.ref (ex 11)) :: (.ref (ex 12)) :: (.ref (ex 13)) :: []))), ((a 1), .inl (T 1, 2187, .inl (xm ((nI iv) + 1))))] := hD
      refine lv_iinc (v := (nI (iv + 1))) (lv' := [(2, .int (nI (iv + 1))), (0, .ref (a 0)), (1, .int (nI nn))]) hx hb dX12_goes_25 hl (k := 0) rfl (nI_add (iv) 1) (by decide) rfl (fun ls hl => ?_)
      refine lv_goto (tgt := 2) hx hb dX12_goes_28 (by decide) ?_
      rw [nI_1] at hP hD
      exact ih (iv + 1) _ _ _ (by omega) (hP.sub [0, 1] rfl) (hD.sub [0, 1] (by decide) rfl) hS (lv_sub hl [0, 1, 2] rfl)
  exact lp nn 0 _ _ _ (by omega) hP hD hS hl
abbrev pre_X12_mondays (T : Nat → ClassId) (a ex : Nat → Nat) (fi : Nat → Nat → Int32) (fl : Nat → Nat → Int64) (vi : Nat → Int32) : va_W := [((a 0), .inr (12, ((.int 0) :: (.ref (ex 0)) :: (.int 0) :: (.int 0) :: (.int 0) :: (.int 0) :: (.ref (a 1)) :: (.ref (ex 1)) :: (.ref (ex 2)) :: (.ref (ex 3)) :: (.ref (ex 4)) :: (.int 0) :: (.int 0) :: (.int 0) :: (.int 0) :: (.int 0) :: (.int 0) :: (.long 0) :: (.int 0) :: (.int 0) :: (.int 0) :: (.ref (a 2)) :: (.ref (ex 5)) :: (.int 0) :: (.ref (ex 6)) :: (.int (-1)) :: (.int 0) :: (.int 0) :: (.int 0) :: (.int 0) :: (.int 0) :: (.int 0) :: (.ref (ex 7)) :: (.int 0) :: (.ref (ex 8)) :: (.int 0) :: (.int 0) :: (.int 0) :: (.int 0) :: (.int 0) :: (.ref (ex 9)) :: (.ref (ex 10)) :: (.ref (ex 11)) :: (.ref (ex 12)) :: []))), ((a 1), .inl (T 1, 2187, .inl (fun _ => 0))), ((a 2), .inl (T 1, 7440, .inl (fun _ => 0)))]
set_option maxHeartbeats 4000000 in
set_option maxRecDepth 100000 in
theorem c_X12_mondays (l : Launch) (D : va_G) (T : Nat → ClassId) (a ex : Nat → Nat) (fi : Nat → Nat → Int32) (fl : Nat → Nat → Int64) (vi : Nat → Int32) (sz : Nat) (hd0 : (1 ≤ (vi 0).toInt ∧ (vi 0).toInt ≤ 60)) : Met l yX12_mondays (xw yX12_mondays cX12_mondays 2 (some .int)) ({ frames := 2, cells := 0, slots := 0, locals := 52 }) (xP D T [.ref (a 0), .int (vi 0)] sz (pre_X12_mondays T a ex fi fl vi)) (va_Qi (fun r (_ : Unit) => r = (vi 0)) (xB D (va_A (pre_X12_mondays T a ex fi fl vi) sz) (fun _ => True) (fun b fj fm vj => [])) (va_A (pre_X12_mondays T a ex fi fl vi) sz)) 0 0 (va_A (pre_X12_mondays T a ex fi fl vi) sz) := by
  refine xofW (cc := cX12_mondays) (maxL := 2) (ret := (some .int)) (by decide) rfl ?_
  intro p e s m args below meth c s₁ R Q hR hQ B hml hv
  obtain ⟨rfl, hsz, hP, hK, hD0⟩ := hv
  have hx := B.exec
  have hb := B.bytes
  have hr := B.returns
  have hts := atoms_spec (ws := xw yX12_mondays cX12_mondays 2 (some .int)) B.pre
  have htg : ∀ w ∈ xg, w.before _ s = true := fun w h => hts w (List.mem_cons_of_mem _ h)
  have hown : s.vm.findClass RX12 = some m.cls := findClass_of_methodNamed B.named
  have hlocks := B.notSynchronized
  subst hsz
  have hD := hD0.self (sz := s.heap.size)
  generalize hAe : va_A (pre_X12_mondays T a ex fi fl vi) s.heap.size = A at hD hQ
  have hA : ∀ q : Nat, s.heap.size ≤ q → A q := fun q h => by rw [← hAe]; exact Or.inr h
  have hS : va_S A s.heap s.heap [] := va_S.rf
  replace hP : va_P D vwCl [((a 0), .inr (12, ((.int 0) :: (.ref (ex 0)) :: (.int 0) :: (.int 0) :: (.int 0) :: (.int 0) :: (.ref (a 1)) :: (.ref (ex 1)) :: (.ref (ex 2)) :: (.ref (ex 3)) :: (.ref (ex 4)) :: (.int 0) :: (.int 0) :: (.int 0) :: (.int 0) :: (.int 0) :: (.int 0) :: (.long 0) :: (.int 0) :: (.int 0) :: (.int 0) :: (.ref (a 2)) :: (.ref (ex 5)) :: (.int 0) :: (.ref (ex 6)) :: (.int (-1)) :: (.int 0) :: (.int 0) :: (.int 0) :: (.int 0) :: (.int 0) :: (.int 0) :: (.ref (ex 7)) :: (.int 0) :: (.ref (ex 8)) :: (.int 0) :: (.int 0) :: (.int 0) :: (.int 0) :: (.int 0) :: (.ref (ex 9)) :: (.ref (ex 10)) :: (.ref (ex 11)) :: (.ref (ex 12)) :: []))), ((a 1), .inl (T 1, 2187, .inl (fun _ => 0))), ((a 2), .inl (T 1, 7440, .inl (fun _ => 0)))] s.heap := hP
  replace hD : va_D A [((a 0), .inr (12, ((.int 0) :: (.ref (ex 0)) :: (.int 0) :: (.int 0) :: (.int 0) :: (.int 0) :: (.ref (a 1)) :: (.ref (ex 1)) :: (.ref (ex 2)) :: (.ref (ex 3)) :: (.ref (ex 4)) :: (.int 0) :: (.int 0) :: (.int 0) :: (.int 0) :: (.int 0) :: (.int 0) :: (.long 0) :: (.int 0) :: (.int 0) :: (.int 0) :: (.ref (a 2)) :: (.ref (ex 5)) :: (.int 0) :: (.ref (ex 6)) :: (.int (-1)) :: (.int 0) :: (.int 0) :: (.int 0) :: (.int 0) :: (.int 0) :: (.int 0) :: (.ref (ex 7)) :: (.int 0) :: (.ref (ex 8)) :: (.int 0) :: (.int 0) :: (.int 0) :: (.int 0) :: (.int 0) :: (.ref (ex 9)) :: (.ref (ex 10)) :: (.ref (ex 11)) :: (.ref (ex 12)) :: []))), ((a 1), .inl (T 1, 2187, .inl (fun _ => 0))), ((a 2), .inl (T 1, 7440, .inl (fun _ => 0)))] := hD
  have hl := lv_entry ([.ref (a 0), .int (vi 0)]) (n := 2) (Nat.le_of_ble_eq_true rfl)
  rw [lg_entry_eq]
  generalize (lg_sl ([.ref (a 0), .int (vi 0)]) ++ List.replicate (2 - (lg_sl ([.ref (a 0), .int (vi 0)])).length) Slot.unset).toArray = ls at hl ⊢
  replace hl : lv_has ls 2 [(0, .ref (a 0)), (1, .int (vi 0))] := hl
  refine lv_aload_n hx hb dX12_mondays_0 rfl (lv_at hl 0 rfl) ?_
  refine lv_iconst (v := 0) hx hb dX12_mondays_1 (by decide) ?_
  refine va_put (D := D) (ci := 12) (v := .int 0) (ty := .int) (C := RX12) (T := TX12) (N := 44) hx hb htg inX12 tyX12 tyX12_ok nmX12 hown hK.1 hP hD hS 0 rfl rfl 0 (by decide) (htg _ kw_1407) (fun _ h9 => h9) rfl (by decide +kernel) rfl rfl (Nat.le_of_ble_eq_true rfl) dX12_mondays_2 (fun H locs hP hD hS => ?_)
  replace hP : va_P D vwCl [((a 0), .inr (12, ((.int 0) :: (.ref (ex 0)) :: (.int 0) :: (.int 0) :: (.int 0) :: (.int 0) :: (.ref (a 1)) :: (.ref (ex 1)) :: (.ref (ex 2)) :: (.ref (ex 3)) :: (.ref (ex 4)) :: (.int 0) :: (.int 0) :: (.int 0) :: (.int 0) :: (.int 0) :: (.int 0) :: (.long 0) :: (.int 0) :: (.int 0) :: (.int 0) :: (.ref (a 2)) :: (.ref (ex 5)) :: (.int 0) :: (.ref (ex 6)) :: (.int (-1)) :: (.int 0) :: (.int 0) :: (.int 0) :: (.int 0) :: (.int 0) :: (.int 0) :: (.ref (ex 7)) :: (.int 0) :: (.ref (ex 8)) :: (.int 0) :: (.int 0) :: (.int 0) :: (.int 0) :: (.int 0) :: (.ref (ex 9)) :: (.ref (ex 10)) :: (.ref (ex 11)) :: (.ref (ex 12)) :: []))), ((a 1), .inl (T 1, 2187, .inl (fun _ => 0))), ((a 2), .inl (T 1, 7440, .inl (fun _ => 0)))] H := hP
  replace hD : va_D A [((a 0), .inr (12, ((.int 0) :: (.ref (ex 0)) :: (.int 0) :: (.int 0) :: (.int 0) :: (.int 0) :: (.ref (a 1)) :: (.ref (ex 1)) :: (.ref (ex 2)) :: (.ref (ex 3)) :: (.ref (ex 4)) :: (.int 0) :: (.int 0) :: (.int 0) :: (.int 0) :: (.int 0) :: (.int 0) :: (.long 0) :: (.int 0) :: (.int 0) :: (.int 0) :: (.ref (a 2)) :: (.ref (ex 5)) :: (.int 0) :: (.ref (ex 6)) :: (.int (-1)) :: (.int 0) :: (.int 0) :: (.int 0) :: (.int 0) :: (.int 0) :: (.int 0) :: (.ref (ex 7)) :: (.int 0) :: (.ref (ex 8)) :: (.int 0) :: (.int 0) :: (.int 0) :: (.int 0) :: (.int 0) :: (.ref (ex 9)) :: (.ref (ex 10)) :: (.ref (ex 11)) :: (.ref (ex 12)) :: []))), ((a 1), .inl (T 1, 2187, .inl (fun _ => 0))), ((a 2), .inl (T 1, 7440, .inl (fun _ => 0)))] := hD
  refine lv_iload_n hx hb dX12_mondays_5 rfl (lv_at hl 1 rfl) ?_
  refine lv_iconst (v := 1) hx hb dX12_mondays_6 (by decide) ?_
  refine lv_bipush (v := 60) hx hb dX12_mondays_7 (by decide) ?_
  have hPc := hP.sub (ws' := (pre_X12_isIn_2 T (xa []) (xa []) (xf []) (xh []) (xv [(vi 0)]))) [] rfl
  have hDc := hD.sub (ws' := (pre_X12_isIn_2 T (xa []) (xa []) (xf []) (xh []) (xv [(vi 0)]))) [] (by decide) rfl
  have hFc := va_free (wc := (pre_X12_isIn_2 T (xa []) (xa []) (xf []) (xh []) (xv [(vi 0)]))) hD hS hA [] rfl
  refine va_calli (va_runS (As := [.int (vi 0), .int 1, .int 60]) (rest := []) ⟨hx, hb, hml, hown, htg⟩ (c_X12_isIn_2 l D T (xa []) (xa []) (xf []) (xh []) (xv [(vi 0)]) H.size (by show (1 ≤ ((vi 0) : Int32).toInt ∧ ((vi 0) : Int32).toInt ≤ 60); omega)) ⟨callB_of 3 htg (xg_ok kw_1597) rfl rfl rfl (htg _ kw_17) (htg _ kw_1595) (by decide +kernel) ⟨by rw [hR]; exact Nat.le_of_ble_eq_true rfl, by rw [hR]; exact Nat.le_of_ble_eq_true rfl⟩, htg _ kw_1596⟩ (xpreS hK hPc hDc) rfl rfl hl.1 rfl (lv_room (Nat.le_of_ble_eq_true rfl)) dX12_mondays_9 ⟨by rw [hR]; exact Nat.le_of_ble_eq_true rfl, by rw [hR]; exact Nat.le_of_ble_eq_true rfl⟩) hS (fun q _ h => hFc q h) hFc (fun r9 u t H1 locs ht hvm hw hB hz1 hk1 hS => ?_)
  obtain ⟨bk, fik, flk, vik, hP1, hD1, hGk⟩ := hB
  rw [ht] at hP1
  obtain ⟨hP, hD⟩ := va_join (wr := [((a 0), .inr (12, ((.int 0) :: (.ref (ex 0)) :: (.int 0) :: (.int 0) :: (.int 0) :: (.int 0) :: (.ref (a 1)) :: (.ref (ex 1)) :: (.ref (ex 2)) :: (.ref (ex 3)) :: (.ref (ex 4)) :: (.int 0) :: (.int 0) :: (.int 0) :: (.int 0) :: (.int 0) :: (.int 0) :: (.long 0) :: (.int 0) :: (.int 0) :: (.int 0) :: (.ref (a 2)) :: (.ref (ex 5)) :: (.int 0) :: (.ref (ex 6)) :: (.int (-1)) :: (.int 0) :: (.int 0) :: (.int 0) :: (.int 0) :: (.int 0) :: (.int 0) :: (.ref (ex 7)) :: (.int 0) :: (.ref (ex 8)) :: (.int 0) :: (.int 0) :: (.int 0) :: (.int 0) :: (.int 0) :: (.ref (ex 9)) :: (.ref (ex 10)) :: (.ref (ex 11)) :: (.ref (ex 12)) :: []))), ((a 1), .inl (T 1, 2187, .inl (fun _ => 0))), ((a 2), .inl (T 1, 7440, .inl (fun _ => 0)))]) (w1 := []) hP hD [] [0, 1, 2] rfl rfl (by decide) (by decide) hk1 hFc hP1 hD1
  subst hw
  clear hPc hDc hFc hP1 hD1 hk1 hz1 hvm ht
  generalize H1 = H at hP hS ⊢
  replace hP : va_P D vwCl [((a 0), .inr (12, ((.int 0) :: (.ref (ex 0)) :: (.int 0) :: (.int 0) :: (.int 0) :: (.int 0) :: (.ref (a 1)) :: (.ref (ex 1)) :: (.ref (ex 2)) :: (.ref (ex 3)) :: (.ref (ex 4)) :: (.int 0) :: (.int 0) :: (.int 0) :: (.int 0) :: (.int 0) :: (.int 0) :: (.long 0) :: (.int 0) :: (.int 0) :: (.int 0) :: (.ref (a 2)) :: (.ref (ex 5)) :: (.int 0) :: (.ref (ex 6)) :: (.int (-1)) :: (.int 0) :: (.int 0) :: (.int 0) :: (.int 0) :: (.int 0) :: (.int 0) :: (.ref (ex 7)) :: (.int 0) :: (.ref (ex 8)) :: (.int 0) :: (.int 0) :: (.int 0) :: (.int 0) :: (.int 0) :: (.ref (ex 9)) :: (.ref (ex 10)) :: (.ref (ex 11)) :: (.ref (ex 12)) :: []))), ((a 1), .inl (T 1, 2187, .inl (fun _ => 0))), ((a 2), .inl (T 1, 7440, .inl (fun _ => 0)))] H := hP
  replace hD : va_D A [((a 0), .inr (12, ((.int 0) :: (.ref (ex 0)) :: (.int 0) :: (.int 0) :: (.int 0) :: (.int 0) :: (.ref (a 1)) :: (.ref (ex 1)) :: (.ref (ex 2)) :: (.ref (ex 3)) :: (.ref (ex 4)) :: (.int 0) :: (.int 0) :: (.int 0) :: (.int 0) :: (.int 0) :: (.int 0) :: (.long 0) :: (.int 0) :: (.int 0) :: (.int 0) :: (.ref (a 2)) :: (.ref (ex 5)) :: (.int 0) :: (.ref (ex 6)) :: (.int (-1)) :: (.int 0) :: (.int 0) :: (.int 0) :: (.int 0) :: (.int 0) :: (.int 0) :: (.ref (ex 7)) :: (.int 0) :: (.ref (ex 8)) :: (.int 0) :: (.int 0) :: (.int 0) :: (.int 0) :: (.int 0) :: (.ref (ex 9)) :: (.ref (ex 10)) :: (.ref (ex 11)) :: (.ref (ex 12)) :: []))), ((a 1), .inl (T 1, 2187, .inl (fun _ => 0))), ((a 2), .inl (T 1, 7440, .inl (fun _ => 0)))] := hD
  refine lv_if_ne (tgt := 17) hx hb dX12_mondays_12 (by decide) (fun _ => ?_) (fun c => absurd c (by decide))
  refine lv_aload_n hx hb dX12_mondays_17 rfl (lv_at hl 0 rfl) ?_
  refine va_get (D := D) (ci := 12) (v := .ref (a 1)) (C := RX12) (T := TX12) (N := 44) hx hb htg inX12 hown hK.1 hP 0 rfl rfl 6 (by decide) (htg _ kw_1413) (fun _ h9 => h9) rfl dX12_mondays_18 ?_
  refine lv_sipush (v := 146) hx hb dX12_mondays_21 (by decide) ?_
  refine va_iald hx hb hK.1 hP 1 1 rfl rfl (vp_in_nI (n := 146) (by decide) (by decide)) dX12_mondays_24 ?_
  refine xz_i 0 rfl ?_
  refine lv_sipush (v := 200) hx hb dX12_mondays_25 (by decide) ?_
  refine lv_icmp_ne (tgt := 33) hx hb dX12_mondays_28 (by decide) (fun _ => ?_) (fun c => absurd c (by decide))
  refine lv_aload_n hx hb dX12_mondays_33 rfl (lv_at hl 0 rfl) ?_
  have hPc := hP.sub (ws' := (pre_X12_keep T (xa [(a 0), (a 1), (a 2)]) (xa [(ex 0), (ex 1), (ex 2), (ex 3), (ex 4), (ex 5), (ex 6), (ex 7), (ex 8), (ex 9), (ex 10), (ex 11), (ex 12)]) (xf []) (xh []) (xv []))) [0, 1, 2] rfl
  have hDc := hD.sub (ws' := (pre_X12_keep T (xa [(a 0), (a 1), (a 2)]) (xa [(ex 0), (ex 1), (ex 2), (ex 3), (ex 4), (ex 5), (ex 6), (ex 7), (ex 8), (ex 9), (ex 10), (ex 11), (ex 12)]) (xf []) (xh []) (xv []))) [0, 1, 2] (by decide) rfl
  have hFc := va_free (wc := (pre_X12_keep T (xa [(a 0), (a 1), (a 2)]) (xa [(ex 0), (ex 1), (ex 2), (ex 3), (ex 4), (ex 5), (ex 6), (ex 7), (ex 8), (ex 9), (ex 10), (ex 11), (ex 12)]) (xf []) (xh []) (xv []))) hD hS hA [0, 1, 2] rfl
  refine va_callv (va_runV (As := []) (rest := []) ⟨hx, hb, hml, hown, htg⟩ (c_X12_keep l D T (xa [(a 0), (a 1), (a 2)]) (xa [(ex 0), (ex 1), (ex 2), (ex 3), (ex 4), (ex 5), (ex 6), (ex 7), (ex 8), (ex 9), (ex 10), (ex 11), (ex 12)]) (xf []) (xh []) (xv []) H.size) ⟨callB_of 0 htg (xg_ok kw_1692) rfl rfl rfl (htg _ kw_17) (htg _ kw_1689) (by decide +kernel) ⟨by rw [hR]; exact Nat.le_of_ble_eq_true rfl, by rw [hR]; exact Nat.le_of_ble_eq_true rfl⟩, htg _ kw_1691, htg _ ks_142⟩ (xpreV hK hPc hDc (va_recv hK.1 hPc (ci := 12) (q0 := 0) rfl rfl)) rfl rfl hl.1 rfl (lv_room (Nat.le_of_ble_eq_true rfl)) dX12_mondays_34 ⟨by rw [hR]; exact Nat.le_of_ble_eq_true rfl, by rw [hR]; exact Nat.le_of_ble_eq_true rfl⟩) hS (fun q _ h => hFc q h) hFc (fun u t H1 locs ht hvm hw hB hz1 hk1 hS => ?_)
  obtain ⟨bk_1, fik_1, flk_1, vik_1, hP1, hD1, hGk_1⟩ := hB
  rw [ht] at hP1
  obtain ⟨hP, hD⟩ := va_join (wr := []) (w1 := [((a 0), .inr (12, ((.int 0) :: (.ref (ex 0)) :: (.int 0) :: (.int 0) :: (.int 0) :: (.int 0) :: (.ref (a 1)) :: (.ref (ex 1)) :: (.ref (ex 2)) :: (.ref (ex 3)) :: (.ref (ex 4)) :: (.int 0) :: (.int 0) :: (.int 0) :: (.int 0) :: (.int 0) :: (.int 0) :: (.long 0) :: (.int 0) :: (.int 0) :: (.int 0) :: (.ref (a 2)) :: (.ref (ex 5)) :: (.int 1) :: (.ref (ex 6)) :: (.int (-1)) :: (.int 0) :: (.int 0) :: (.int 0) :: (.int 0) :: (.int 0) :: (.int 0) :: (.ref (ex 7)) :: (.int 0) :: (.ref (ex 8)) :: (.int 0) :: (.int 0) :: (.int 0) :: (.int 0) :: (.int 0) :: (.ref (ex 9)) :: (.ref (ex 10)) :: (.ref (ex 11)) :: (.ref (ex 12)) :: []))), ((a 1), .inl (T 1, 2187, .inl (fun _ => 0))), ((a 2), .inl (T 1, 7440, .inl (fun _ => 0)))]) hP hD [0, 1, 2] [] rfl rfl (by decide) (by decide) hk1 hFc hP1 hD1
  clear hPc hDc hFc hP1 hD1 hk1 hz1 hvm ht hw
  generalize H1 = H at hP hS ⊢
  replace hP : va_P D vwCl [((a 0), .inr (12, ((.int 0) :: (.ref (ex 0)) :: (.int 0) :: (.int 0) :: (.int 0) :: (.int 0) :: (.ref (a 1)) :: (.ref (ex 1)) :: (.ref (ex 2)) :: (.ref (ex 3)) :: (.ref (ex 4)) :: (.int 0) :: (.int 0) :: (.int 0) :: (.int 0) :: (.int 0) :: (.int 0) :: (.long 0) :: (.int 0) :: (.int 0) :: (.int 0) :: (.ref (a 2)) :: (.ref (ex 5)) :: (.int 1) :: (.ref (ex 6)) :: (.int (-1)) :: (.int 0) :: (.int 0) :: (.int 0) :: (.int 0) :: (.int 0) :: (.int 0) :: (.ref (ex 7)) :: (.int 0) :: (.ref (ex 8)) :: (.int 0) :: (.int 0) :: (.int 0) :: (.int 0) :: (.int 0) :: (.ref (ex 9)) :: (.ref (ex 10)) :: (.ref (ex 11)) :: (.ref (ex 12)) :: []))), ((a 1), .inl (T 1, 2187, .inl (fun _ => 0))), ((a 2), .inl (T 1, 7440, .inl (fun _ => 0)))] H := hP
  replace hD : va_D A [((a 0), .inr (12, ((.int 0) :: (.ref (ex 0)) :: (.int 0) :: (.int 0) :: (.int 0) :: (.int 0) :: (.ref (a 1)) :: (.ref (ex 1)) :: (.ref (ex 2)) :: (.ref (ex 3)) :: (.ref (ex 4)) :: (.int 0) :: (.int 0) :: (.int 0) :: (.int 0) :: (.int 0) :: (.int 0) :: (.long 0) :: (.int 0) :: (.int 0) :: (.int 0) :: (.ref (a 2)) :: (.ref (ex 5)) :: (.int 1) :: (.ref (ex 6)) :: (.int (-1)) :: (.int 0) :: (.int 0) :: (.int 0) :: (.int 0) :: (.int 0) :: (.int 0) :: (.ref (ex 7)) :: (.int 0) :: (.ref (ex 8)) :: (.int 0) :: (.int 0) :: (.int 0) :: (.int 0) :: (.int 0) :: (.ref (ex 9)) :: (.ref (ex 10)) :: (.ref (ex 11)) :: (.ref (ex 12)) :: []))), ((a 1), .inl (T 1, 2187, .inl (fun _ => 0))), ((a 2), .inl (T 1, 7440, .inl (fun _ => 0)))] := hD
  refine lv_aload_n hx hb dX12_mondays_37 rfl (lv_at hl 0 rfl) ?_
  refine lv_iload_n hx hb dX12_mondays_38 rfl (lv_at hl 1 rfl) ?_
  have hPc := hP.sub (ws' := (pre_X12_goes T (xa [(a 0), (a 1)]) (xa [(ex 0), (ex 1), (ex 2), (ex 3), (ex 4), (a 2), (ex 5), (ex 6), (ex 7), (ex 8), (ex 9), (ex 10), (ex 11), (ex 12)]) (xf []) (xh []) (xv [(vi 0)]))) [0, 1] rfl
  have hDc := hD.sub (ws' := (pre_X12_goes T (xa [(a 0), (a 1)]) (xa [(ex 0), (ex 1), (ex 2), (ex 3), (ex 4), (a 2), (ex 5), (ex 6), (ex 7), (ex 8), (ex 9), (ex 10), (ex 11), (ex 12)]) (xf []) (xh []) (xv [(vi 0)]))) [0, 1] (by decide) rfl
  have hFc := va_free (wc := (pre_X12_goes T (xa [(a 0), (a 1)]) (xa [(ex 0), (ex 1), (ex 2), (ex 3), (ex 4), (a 2), (ex 5), (ex 6), (ex 7), (ex 8), (ex 9), (ex 10), (ex 11), (ex 12)]) (xf []) (xh []) (xv [(vi 0)]))) hD hS hA [0, 1] rfl
  refine va_calli (va_runV (As := [.int (vi 0)]) (rest := []) ⟨hx, hb, hml, hown, htg⟩ (c_X12_goes l D T (xa [(a 0), (a 1)]) (xa [(ex 0), (ex 1), (ex 2), (ex 3), (ex 4), (a 2), (ex 5), (ex 6), (ex 7), (ex 8), (ex 9), (ex 10), (ex 11), (ex 12)]) (xf []) (xh []) (xv [(vi 0)]) H.size (by show (1 ≤ ((vi 0) : Int32).toInt ∧ ((vi 0) : Int32).toInt ≤ 60); omega)) ⟨callB_of 1 htg (xg_ok kw_1785) rfl rfl rfl (htg _ kw_17) (htg _ kw_1782) (by decide +kernel) ⟨by rw [hR]; exact Nat.le_of_ble_eq_true rfl, by rw [hR]; exact Nat.le_of_ble_eq_true rfl⟩, htg _ kw_1784, htg _ ks_158⟩ (xpreV hK hPc hDc (va_recv hK.1 hPc (ci := 12) (q0 := 0) rfl rfl)) rfl rfl hl.1 rfl (lv_room (Nat.le_of_ble_eq_true rfl)) dX12_mondays_39 ⟨by rw [hR]; exact Nat.le_of_ble_eq_true rfl, by rw [hR]; exact Nat.le_of_ble_eq_true rfl⟩) hS (fun q _ h => hFc q h) hFc (fun r9 u t H1 locs ht hvm hw hB hz1 hk1 hS => ?_)
  obtain ⟨bk_2, fik_2, flk_2, vik_2, hP1, hD1, hGk_2⟩ := hB
  rw [ht] at hP1
  obtain ⟨hP, hD⟩ := va_join (wr := [((a 2), .inl (T 1, 7440, .inl (fun _ => 0)))]) (w1 := [((a 0), .inr (12, ((.int 0) :: (.ref (ex 0)) :: (.int 0) :: (.int 0) :: (.int 0) :: (.int 0) :: (.ref (a 1)) :: (.ref (ex 1)) :: (.ref (ex 2)) :: (.ref (ex 3)) :: (.ref (ex 4)) :: (.int 0) :: (.int 0) :: (.int 0) :: (.int 0) :: (.int 0) :: (.int 0) :: (.long 0) :: (.int 0) :: (.int 0) :: (.int 0) :: (.ref (a 2)) :: (.ref (ex 5)) :: (.int 1) :: (.ref (ex 6)) :: (.int (-1)) :: (.int 0) :: (.int 0) :: (.int 0) :: (.int 0) :: (.int 0) :: (.int 0) :: (.ref (ex 7)) :: (.int 0) :: (.ref (ex 8)) :: (.int 0) :: (.int 0) :: (.int 0) :: (.int 0) :: (.int 0) :: (.ref (ex 9)) :: (.ref (ex 10)) :: (.ref (ex 11)) :: (.ref (ex 12)) :: []))), ((a 1), .inl (T 1, 2187, .inl (fik_2 0)))]) hP hD [0, 1] [2] rfl rfl (by decide) (by decide) hk1 hFc hP1 hD1
  subst hw
  clear hPc hDc hFc hP1 hD1 hk1 hz1 hvm ht
  generalize H1 = H at hP hS ⊢
  replace hP : va_P D vwCl [((a 2), .inl (T 1, 7440, .inl (fun _ => 0))), ((a 0), .inr (12, ((.int 0) :: (.ref (ex 0)) :: (.int 0) :: (.int 0) :: (.int 0) :: (.int 0) :: (.ref (a 1)) :: (.ref (ex 1)) :: (.ref (ex 2)) :: (.ref (ex 3)) :: (.ref (ex 4)) :: (.int 0) :: (.int 0) :: (.int 0) :: (.int 0) :: (.int 0) :: (.int 0) :: (.long 0) :: (.int 0) :: (.int 0) :: (.int 0) :: (.ref (a 2)) :: (.ref (ex 5)) :: (.int 1) :: (.ref (ex 6)) :: (.int (-1)) :: (.int 0) :: (.int 0) :: (.int 0) :: (.int 0) :: (.int 0) :: (.int 0) :: (.ref (ex 7)) :: (.int 0) :: (.ref (ex 8)) :: (.int 0) :: (.int 0) :: (.int 0) :: (.int 0) :: (.int 0) :: (.ref (ex 9)) :: (.ref (ex 10)) :: (.ref (ex 11)) :: (.ref (ex 12)) :: []))), ((a 1), .inl (T 1, 2187, .inl (fik_2 0)))] H := hP
  replace hD : va_D A [((a 2), .inl (T 1, 7440, .inl (fun _ => 0))), ((a 0), .inr (12, ((.int 0) :: (.ref (ex 0)) :: (.int 0) :: (.int 0) :: (.int 0) :: (.int 0) :: (.ref (a 1)) :: (.ref (ex 1)) :: (.ref (ex 2)) :: (.ref (ex 3)) :: (.ref (ex 4)) :: (.int 0) :: (.int 0) :: (.int 0) :: (.int 0) :: (.int 0) :: (.int 0) :: (.long 0) :: (.int 0) :: (.int 0) :: (.int 0) :: (.ref (a 2)) :: (.ref (ex 5)) :: (.int 1) :: (.ref (ex 6)) :: (.int (-1)) :: (.int 0) :: (.int 0) :: (.int 0) :: (.int 0) :: (.int 0) :: (.int 0) :: (.ref (ex 7)) :: (.int 0) :: (.ref (ex 8)) :: (.int 0) :: (.int 0) :: (.int 0) :: (.int 0) :: (.int 0) :: (.ref (ex 9)) :: (.ref (ex 10)) :: (.ref (ex 11)) :: (.ref (ex 12)) :: []))), ((a 1), .inl (T 1, 2187, .inl (fik_2 0)))] := hD
  have hP9 := hP.sub (ws' := []) [] rfl
  have hD9 := hD.sub (ws' := []) [] (by decide) rfl
  rw [hQ]
  exact W.iret (v := (vi 0)) hx hb hr (fun t ht hW => ⟨⟨(vi 0), (), rfl, rfl, ⟨xa [], xf [], xh [], xv [], by rw [ht]; exact hP9, hD9, trivial⟩⟩, hS.F ht⟩) hS.2.2 dX12_mondays_42
abbrev pre_X12_isIn_3 (T : Nat → ClassId) (a ex : Nat → Nat) (fi : Nat → Nat → Int32) (fl : Nat → Nat → Int64) (vi : Nat → Int32) : va_W := []
set_option maxHeartbeats 4000000 in
set_option maxRecDepth 100000 in
theorem c_X12_isIn_3 (l : Launch) (D : va_G) (T : Nat → ClassId) (a ex : Nat → Nat) (fi : Nat → Nat → Int32) (fl : Nat → Nat → Int64) (vi : Nat → Int32) (sz : Nat) (hd0 : (vi 0).toInt ≤ 0 ∨ 61 ≤ (vi 0).toInt) : Met l yX12_isIn (xw yX12_isIn cX12_isIn 3 (some .boolean)) ({ frames := 0, cells := 0, slots := 0, locals := 0 }) (xP D T [.int (vi 0), .int 1, .int 60] sz (pre_X12_isIn_3 T a ex fi fl vi)) (va_Qi (fun r (_ : Unit) => r = 0) (xB D (va_A (pre_X12_isIn_3 T a ex fi fl vi) sz) (fun _ => True) (fun b fj fm vj => [])) (va_A (pre_X12_isIn_3 T a ex fi fl vi) sz)) 0 0 (va_A (pre_X12_isIn_3 T a ex fi fl vi) sz) := by
  refine xofW (cc := cX12_isIn) (maxL := 3) (ret := (some .boolean)) (by decide) rfl ?_
  intro p e s m args below meth c s₁ R Q hR hQ B hml hv
  obtain ⟨rfl, hsz, hP, hK, hD0⟩ := hv
  have hx := B.exec
  have hb := B.bytes
  have hr := B.returns
  have hts := atoms_spec (ws := xw yX12_isIn cX12_isIn 3 (some .boolean)) B.pre
  have htg : ∀ w ∈ xg, w.before _ s = true := fun w h => hts w (List.mem_cons_of_mem _ h)
  have hown : s.vm.findClass RX12 = some m.cls := findClass_of_methodNamed B.named
  have hlocks := B.notSynchronized
  subst hsz
  have hD := hD0.self (sz := s.heap.size)
  generalize hAe : va_A (pre_X12_isIn_3 T a ex fi fl vi) s.heap.size = A at hD hQ
  have hA : ∀ q : Nat, s.heap.size ≤ q → A q := fun q h => by rw [← hAe]; exact Or.inr h
  have hS : va_S A s.heap s.heap [] := va_S.rf
  replace hP : va_P D vwCl [] s.heap := hP
  replace hD : va_D A [] := hD
  have hl := lv_entry ([.int (vi 0), .int 1, .int 60]) (n := 3) (Nat.le_of_ble_eq_true rfl)
  rw [lg_entry_eq]
  generalize (lg_sl ([.int (vi 0), .int 1, .int 60]) ++ List.replicate (3 - (lg_sl ([.int (vi 0), .int 1, .int 60])).length) Slot.unset).toArray = ls at hl ⊢
  replace hl : lv_has ls 3 [(0, .int (vi 0)), (1, .int 1), (2, .int 60)] := hl
  refine lv_iload_n hx hb dX12_isIn_0 rfl (lv_at hl 0 rfl) ?_
  refine lv_iload_n hx hb dX12_isIn_1 rfl (lv_at hl 1 rfl) ?_
  refine lv_icmp_lt (tgt := 14) hx hb dX12_isIn_2 (by decide) (fun c2 => ?_) (fun c2 => ?_)
  · have c2 := xlt (k := 1) (by decide) c2
    refine lv_iconst (v := 0) hx hb dX12_isIn_14 (by decide) ?_
    have hP9 := hP.sub (ws' := []) [] rfl
    have hD9 := hD.sub (ws' := []) [] (by decide +kernel) rfl
    rw [hQ]
    exact W.zret (v := 0) hx hb hr rfl (fun t ht hW => ⟨⟨0, (), rfl, rfl, ⟨xa [], xf [], xh [], xv [], by rw [ht]; exact hP9, hD9, trivial⟩⟩, hS.F ht⟩) hS.2.2 dX12_isIn_15
  · have c2 := xnlt (k := 1) (by decide) c2
    refine lv_iload_n hx hb dX12_isIn_5 rfl (lv_at hl 0 rfl) ?_
    refine lv_iload_n hx hb dX12_isIn_6 rfl (lv_at hl 2 rfl) ?_
    refine lv_icmp_gt (tgt := 14) hx hb dX12_isIn_7 (by decide) (fun _ => ?_) (fun c => by exfalso; have h9 := xngt (k := 60) (by decide) c; omega)
    refine lv_iconst (v := 0) hx hb dX12_isIn_14 (by decide) ?_
    have hP9 := hP.sub (ws' := []) [] rfl
    have hD9 := hD.sub (ws' := []) [] (by decide +kernel) rfl
    rw [hQ]
    exact W.zret (v := 0) hx hb hr rfl (fun t ht hW => ⟨⟨0, (), rfl, rfl, ⟨xa [], xf [], xh [], xv [], by rw [ht]; exact hP9, hD9, trivial⟩⟩, hS.F ht⟩) hS.2.2 dX12_isIn_15
