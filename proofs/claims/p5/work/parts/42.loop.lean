set_option maxHeartbeats 8000000 in
set_option maxRecDepth 100000 in
theorem law_loop {p : Program} {e : Env} {s : State} {m : MethodId} {below : List Frame} {meth : Method} {c : Code} (l : Launch) (hlt : l.stackTraces = false) {b L : Nat} {xs : Nat → Int32} (D : va_G) (T : Nat → ClassId) (a : Nat → Nat) (kK kV : Nat → Nat) (R : Room) (Q : State → Prop) (A : Nat → Prop) (hQ : Q = lw_Z below #[Value.ref b] s) (hr : meth.sig.returnType = ret) (hlocks : meth.locks = false) (hAe : A = fun q => s.heap.size ≤ q) (hR : R = room_1) (hx : p.tables.exec = Jvm.exec) (hb : c.code = code) (hml : c.maxLocals = 7) (hown : s.vm.findClass RL = some m.cls) (htg : ∀ w ∈ xg, w.before #[Value.ref b] s = true) (hbl : b < s.heap.size) (hbA : ¬ A b) (hK : xK D T s) (hA : ∀ q : Nat, s.heap.size ≤ q → A q) (hT : xT kK kV A s s.heap) (hZt : xZ2 A s s.heap) (hL : L ≤ 3072) (hX : va_X b L xs s s.heap) : ∀ (n : Nat) (fi : Nat → Nat → Int32) (fl : Nat → Nat → Int64) (vi : Nat → Int32) (vl : Nat → Int64) (H : Heap) (locs : List Loc) (ls : Array Slot) (i0 : Int32) (C0 S0 : Nat), (4000 - i0.toInt).toNat = n → 0 ≤ i0.toInt → i0.toInt ≤ 3078 → (C0 : Int) ≤ 200 + i0.toInt → (S0 : Int) ≤ 30000 + 6 * i0.toInt → IV fi fl vi → va_P D vwCl (wall T a fi fl vi vl) H → va_D A (wall T a fi fl vi vl) → va_S A s.heap H locs → lv_has ls 7 [(4, .int i0), (3, .ref (a 171)), (2, .ref (a 155)), (1, .ref (a 0)), (0, .ref b)] → W p l e R s m #[Value.ref b] below meth c H locs C0 S0 Q (F0 m 23 ls []) := by
  intro n
  induction n using Nat.strongRecOn with
  | _ n ih =>
    intro fi fl vi vl H locs ls i0 C0 S0 hn h0 h3 hC hS9 hI hP hD hS hl
    have hC0 : C0 ≤ 10000 := by omega
    have hS0 : S0 ≤ 100000 := by omega
    refine lv_iload hx hb dL_law_23 (lv_at hl 0 rfl) ?_
    refine lv_aload_n hx hb dL_law_25 rfl (lv_at hl 4 rfl) ?_
    refine va_slen hx hb hX hbl hbA hS dL_law_26 ?_
    refine lv_bipush (v := 6) hx hb dL_law_27 (by decide) ?_
    refine lv_isub hx hb dL_law_29 ?_
    refine lv_topi (fun z29 ez29 => ?_)
    have tz29 : z29.toInt = (L : Int) - 6 := by rw [ez29]; exact xsub (nI_toInt (n := L) (by omega)) (by decide) (by omega) (by omega)
    refine lv_icmp_gt (tgt := 1444) hx hb dL_law_30 (by decide) (fun c30 => ?_) (fun c30 => ?_)
    · refine lv_iconst (v := 1) hx hb dL_law_1444 (by decide) ?_
      refine va_forget (fun q hq => by have h9 := hS.2.2 q hq; rw [hAe] at h9; exact h9) ?_
      refine W.widen (k := 601024) (n := 7293034) (Nat.le_trans hC0 (Nat.le_of_ble_eq_true rfl)) (Nat.le_trans hS0 (Nat.le_of_ble_eq_true rfl)) ?_
      subst hR
      rw [hQ]
      exact lw_ret hx hb hr hlocks dL_law_1445
    have c30 := (mt Int32.lt_iff_toInt_lt.mpr c30)
    have hi0 : 0 ≤ i0.toInt ∧ i0.toInt + 6 ≤ (L : Int) := by omega
    refine lv_aload_n hx hb dL_law_33 rfl (lv_at hl 4 rfl) ?_
    refine lv_iload hx hb dL_law_34 (lv_at hl 0 rfl) ?_
    refine va_sld hx hb hX hbl hbA hS (vp_in_iff.mpr (by omega)) dL_law_36 ?_
    refine lv_bipush (v := 63) hx hb dL_law_37 (by decide) ?_
    refine lv_iand hx hb dL_law_39 ?_
    obtain ⟨k, hk, ek⟩ := pk_andE (xs i0.toNatClampNeg) (m := 63) 6 (by decide)
    refine xz_i (nI k) ek ?_
    have hk9 : k = 0 ∨ k = 1 ∨ k = 2 ∨ k = 3 ∨ k = 4 ∨ k = 5 ∨ k = 6 ∨ k = 7 ∨ k = 8 ∨ k = 9 ∨ k = 10 ∨ k = 11 ∨ k = 12 ∨ k = 13 ∨ k = 14 ∨ k = 15 ∨ k = 16 ∨ k = 17 ∨ k = 18 ∨ k = 19 ∨ k = 20 ∨ k = 21 ∨ k = 22 ∨ k = 23 ∨ k = 24 ∨ k = 25 ∨ k = 26 ∨ k = 27 ∨ k = 28 ∨ k = 29 ∨ k = 30 ∨ k = 31 ∨ k = 32 ∨ k = 33 ∨ k = 34 ∨ k = 35 ∨ k = 36 ∨ k = 37 ∨ k = 38 ∨ k = 39 ∨ k = 40 ∨ k = 41 ∨ k = 42 ∨ 43 ≤ k := by omega
    rcases hk9 with rfl | rfl | rfl | rfl | rfl | rfl | rfl | rfl | rfl | rfl | rfl | rfl | rfl | rfl | rfl | rfl | rfl | rfl | rfl | rfl | rfl | rfl | rfl | rfl | rfl | rfl | rfl | rfl | rfl | rfl | rfl | rfl | rfl | rfl | rfl | rfl | rfl | rfl | rfl | rfl | rfl | rfl | rfl | hk9
    · refine lv_tableIn (off := 188) (tgt := 228) hx hb dL_law_40 (by decide) (by decide) (by decide) (by decide) ?_
      exact ls_0 l hlt D T a fi fl vi vl kK kV R Q A hR hx hb hml hown htg hbl hbA hK hA hT hZt hL hX C0 S0 hC0 hS0 i0 hi0 hI H locs ls hP hD hS hl (fun fi fl vi vl H1 locs1 ls1 i1 C1 S1 hC1 hS1 hi1 hI hP hD hS hl => ih _ (by omega) fi fl vi vl H1 locs1 ls1 i1 C1 S1 rfl (by omega) (by omega) (by omega) (by omega) hI hP hD hS hl)
    · refine lv_tableIn (off := 261) (tgt := 301) hx hb dL_law_40 (by decide) (by decide) (by decide) (by decide) ?_
      exact ls_1 l hlt D T a fi fl vi vl kK kV R Q A hR hx hb hml hown htg hbl hbA hK hA hT hZt hL hX C0 S0 hC0 hS0 i0 hi0 hI H locs ls hP hD hS hl (fun fi fl vi vl H1 locs1 ls1 i1 C1 S1 hC1 hS1 hi1 hI hP hD hS hl => ih _ (by omega) fi fl vi vl H1 locs1 ls1 i1 C1 S1 rfl (by omega) (by omega) (by omega) (by omega) hI hP hD hS hl)
    · refine lv_tableIn (off := 286) (tgt := 326) hx hb dL_law_40 (by decide) (by decide) (by decide) (by decide) ?_
      exact ls_2 l hlt D T a fi fl vi vl kK kV R Q A hR hx hb hml hown htg hbl hbA hK hA hT hZt hL hX C0 S0 hC0 hS0 i0 hi0 hI H locs ls hP hD hS hl (fun fi fl vi vl H1 locs1 ls1 i1 C1 S1 hC1 hS1 hi1 hI hP hD hS hl => ih _ (by omega) fi fl vi vl H1 locs1 ls1 i1 C1 S1 rfl (by omega) (by omega) (by omega) (by omega) hI hP hD hS hl)
    · refine lv_tableIn (off := 299) (tgt := 339) hx hb dL_law_40 (by decide) (by decide) (by decide) (by decide) ?_
      exact ls_3 l hlt D T a fi fl vi vl kK kV R Q A hR hx hb hml hown htg hbl hbA hK hA hT hZt hL hX C0 S0 hC0 hS0 i0 hi0 hI H locs ls hP hD hS hl (fun fi fl vi vl H1 locs1 ls1 i1 C1 S1 hC1 hS1 hi1 hI hP hD hS hl => ih _ (by omega) fi fl vi vl H1 locs1 ls1 i1 C1 S1 rfl (by omega) (by omega) (by omega) (by omega) hI hP hD hS hl)
    · refine lv_tableIn (off := 312) (tgt := 352) hx hb dL_law_40 (by decide) (by decide) (by decide) (by decide) ?_
      exact ls_4 l hlt D T a fi fl vi vl kK kV R Q A hR hx hb hml hown htg hbl hbA hK hA hT hZt hL hX C0 S0 hC0 hS0 i0 hi0 hI H locs ls hP hD hS hl (fun fi fl vi vl H1 locs1 ls1 i1 C1 S1 hC1 hS1 hi1 hI hP hD hS hl => ih _ (by omega) fi fl vi vl H1 locs1 ls1 i1 C1 S1 rfl (by omega) (by omega) (by omega) (by omega) hI hP hD hS hl)
    · refine lv_tableIn (off := 349) (tgt := 389) hx hb dL_law_40 (by decide) (by decide) (by decide) (by decide) ?_
      exact ls_5 l hlt D T a fi fl vi vl kK kV R Q A hR hx hb hml hown htg hbl hbA hK hA hT hZt hL hX C0 S0 hC0 hS0 i0 hi0 hI H locs ls hP hD hS hl (fun fi fl vi vl H1 locs1 ls1 i1 C1 S1 hC1 hS1 hi1 hI hP hD hS hl => ih _ (by omega) fi fl vi vl H1 locs1 ls1 i1 C1 S1 rfl (by omega) (by omega) (by omega) (by omega) hI hP hD hS hl)
    · refine lv_tableIn (off := 389) (tgt := 429) hx hb dL_law_40 (by decide) (by decide) (by decide) (by decide) ?_
      exact ls_6 l hlt D T a fi fl vi vl kK kV R Q A hR hx hb hml hown htg hbl hbA hK hA hT hZt hL hX C0 S0 hC0 hS0 i0 hi0 hI H locs ls hP hD hS hl (fun fi fl vi vl H1 locs1 ls1 i1 C1 S1 hC1 hS1 hi1 hI hP hD hS hl => ih _ (by omega) fi fl vi vl H1 locs1 ls1 i1 C1 S1 rfl (by omega) (by omega) (by omega) (by omega) hI hP hD hS hl)
    · refine lv_tableIn (off := 426) (tgt := 466) hx hb dL_law_40 (by decide) (by decide) (by decide) (by decide) ?_
      exact ls_7 l hlt D T a fi fl vi vl kK kV R Q A hR hx hb hml hown htg hbl hbA hK hA hT hZt hL hX C0 S0 hC0 hS0 i0 hi0 hI H locs ls hP hD hS hl (fun fi fl vi vl H1 locs1 ls1 i1 C1 S1 hC1 hS1 hi1 hI hP hD hS hl => ih _ (by omega) fi fl vi vl H1 locs1 ls1 i1 C1 S1 rfl (by omega) (by omega) (by omega) (by omega) hI hP hD hS hl)
    · refine lv_tableIn (off := 451) (tgt := 491) hx hb dL_law_40 (by decide) (by decide) (by decide) (by decide) ?_
      exact ls_8 l hlt D T a fi fl vi vl kK kV R Q A hR hx hb hml hown htg hbl hbA hK hA hT hZt hL hX C0 S0 hC0 hS0 i0 hi0 hI H locs ls hP hD hS hl (fun fi fl vi vl H1 locs1 ls1 i1 C1 S1 hC1 hS1 hi1 hI hP hD hS hl => ih _ (by omega) fi fl vi vl H1 locs1 ls1 i1 C1 S1 rfl (by omega) (by omega) (by omega) (by omega) hI hP hD hS hl)
    · refine lv_tableIn (off := 488) (tgt := 528) hx hb dL_law_40 (by decide) (by decide) (by decide) (by decide) ?_
      exact ls_9 l hlt D T a fi fl vi vl kK kV R Q A hR hx hb hml hown htg hbl hbA hK hA hT hZt hL hX C0 S0 hC0 hS0 i0 hi0 hI H locs ls hP hD hS hl (fun fi fl vi vl H1 locs1 ls1 i1 C1 S1 hC1 hS1 hi1 hI hP hD hS hl => ih _ (by omega) fi fl vi vl H1 locs1 ls1 i1 C1 S1 rfl (by omega) (by omega) (by omega) (by omega) hI hP hD hS hl)
    · refine lv_tableIn (off := 525) (tgt := 565) hx hb dL_law_40 (by decide) (by decide) (by decide) (by decide) ?_
      exact ls_10 l hlt D T a fi fl vi vl kK kV R Q A hR hx hb hml hown htg hbl hbA hK hA hT hZt hL hX C0 S0 hC0 hS0 i0 hi0 hI H locs ls hP hD hS hl (fun fi fl vi vl H1 locs1 ls1 i1 C1 S1 hC1 hS1 hi1 hI hP hD hS hl => ih _ (by omega) fi fl vi vl H1 locs1 ls1 i1 C1 S1 rfl (by omega) (by omega) (by omega) (by omega) hI hP hD hS hl)
    · refine lv_tableIn (off := 562) (tgt := 602) hx hb dL_law_40 (by decide) (by decide) (by decide) (by decide) ?_
      exact ls_11 l hlt D T a fi fl vi vl kK kV R Q A hR hx hb hml hown htg hbl hbA hK hA hT hZt hL hX C0 S0 hC0 hS0 i0 hi0 hI H locs ls hP hD hS hl (fun fi fl vi vl H1 locs1 ls1 i1 C1 S1 hC1 hS1 hi1 hI hP hD hS hl => ih _ (by omega) fi fl vi vl H1 locs1 ls1 i1 C1 S1 rfl (by omega) (by omega) (by omega) (by omega) hI hP hD hS hl)
    · refine lv_tableIn (off := 599) (tgt := 639) hx hb dL_law_40 (by decide) (by decide) (by decide) (by decide) ?_
      exact ls_12 l hlt D T a fi fl vi vl kK kV R Q A hR hx hb hml hown htg hbl hbA hK hA hT hZt hL hX C0 S0 hC0 hS0 i0 hi0 hI H locs ls hP hD hS hl (fun fi fl vi vl H1 locs1 ls1 i1 C1 S1 hC1 hS1 hi1 hI hP hD hS hl => ih _ (by omega) fi fl vi vl H1 locs1 ls1 i1 C1 S1 rfl (by omega) (by omega) (by omega) (by omega) hI hP hD hS hl)
    · refine lv_tableIn (off := 624) (tgt := 664) hx hb dL_law_40 (by decide) (by decide) (by decide) (by decide) ?_
      exact ls_13 l hlt D T a fi fl vi vl kK kV R Q A hR hx hb hml hown htg hbl hbA hK hA hT hZt hL hX C0 S0 hC0 hS0 i0 hi0 hI H locs ls hP hD hS hl (fun fi fl vi vl H1 locs1 ls1 i1 C1 S1 hC1 hS1 hi1 hI hP hD hS hl => ih _ (by omega) fi fl vi vl H1 locs1 ls1 i1 C1 S1 rfl (by omega) (by omega) (by omega) (by omega) hI hP hD hS hl)
    · refine lv_tableIn (off := 661) (tgt := 701) hx hb dL_law_40 (by decide) (by decide) (by decide) (by decide) ?_
      exact ls_14 l hlt D T a fi fl vi vl kK kV R Q A hR hx hb hml hown htg hbl hbA hK hA hT hZt hL hX C0 S0 hC0 hS0 i0 hi0 hI H locs ls hP hD hS hl (fun fi fl vi vl H1 locs1 ls1 i1 C1 S1 hC1 hS1 hi1 hI hP hD hS hl => ih _ (by omega) fi fl vi vl H1 locs1 ls1 i1 C1 S1 rfl (by omega) (by omega) (by omega) (by omega) hI hP hD hS hl)
    · refine lv_tableIn (off := 698) (tgt := 738) hx hb dL_law_40 (by decide) (by decide) (by decide) (by decide) ?_
      exact ls_15 l hlt D T a fi fl vi vl kK kV R Q A hR hx hb hml hown htg hbl hbA hK hA hT hZt hL hX C0 S0 hC0 hS0 i0 hi0 hI H locs ls hP hD hS hl (fun fi fl vi vl H1 locs1 ls1 i1 C1 S1 hC1 hS1 hi1 hI hP hD hS hl => ih _ (by omega) fi fl vi vl H1 locs1 ls1 i1 C1 S1 rfl (by omega) (by omega) (by omega) (by omega) hI hP hD hS hl)
    · refine lv_tableIn (off := 723) (tgt := 763) hx hb dL_law_40 (by decide) (by decide) (by decide) (by decide) ?_
      exact ls_16 l hlt D T a fi fl vi vl kK kV R Q A hR hx hb hml hown htg hbl hbA hK hA hT hZt hL hX C0 S0 hC0 hS0 i0 hi0 hI H locs ls hP hD hS hl (fun fi fl vi vl H1 locs1 ls1 i1 C1 S1 hC1 hS1 hi1 hI hP hD hS hl => ih _ (by omega) fi fl vi vl H1 locs1 ls1 i1 C1 S1 rfl (by omega) (by omega) (by omega) (by omega) hI hP hD hS hl)
    · refine lv_tableIn (off := 736) (tgt := 776) hx hb dL_law_40 (by decide) (by decide) (by decide) (by decide) ?_
      exact ls_17 l hlt D T a fi fl vi vl kK kV R Q A hR hx hb hml hown htg hbl hbA hK hA hT hZt hL hX C0 S0 hC0 hS0 i0 hi0 hI H locs ls hP hD hS hl (fun fi fl vi vl H1 locs1 ls1 i1 C1 S1 hC1 hS1 hi1 hI hP hD hS hl => ih _ (by omega) fi fl vi vl H1 locs1 ls1 i1 C1 S1 rfl (by omega) (by omega) (by omega) (by omega) hI hP hD hS hl)
    · refine lv_tableIn (off := 773) (tgt := 813) hx hb dL_law_40 (by decide) (by decide) (by decide) (by decide) ?_
      exact ls_18 l hlt D T a fi fl vi vl kK kV R Q A hR hx hb hml hown htg hbl hbA hK hA hT hZt hL hX C0 S0 hC0 hS0 i0 hi0 hI H locs ls hP hD hS hl (fun fi fl vi vl H1 locs1 ls1 i1 C1 S1 hC1 hS1 hi1 hI hP hD hS hl => ih _ (by omega) fi fl vi vl H1 locs1 ls1 i1 C1 S1 rfl (by omega) (by omega) (by omega) (by omega) hI hP hD hS hl)
    · refine lv_tableIn (off := 810) (tgt := 850) hx hb dL_law_40 (by decide) (by decide) (by decide) (by decide) ?_
      exact ls_19 l hlt D T a fi fl vi vl kK kV R Q A hR hx hb hml hown htg hbl hbA hK hA hT hZt hL hX C0 S0 hC0 hS0 i0 hi0 hI H locs ls hP hD hS hl (fun fi fl vi vl H1 locs1 ls1 i1 C1 S1 hC1 hS1 hi1 hI hP hD hS hl => ih _ (by omega) fi fl vi vl H1 locs1 ls1 i1 C1 S1 rfl (by omega) (by omega) (by omega) (by omega) hI hP hD hS hl)
    · refine lv_tableIn (off := 835) (tgt := 875) hx hb dL_law_40 (by decide) (by decide) (by decide) (by decide) ?_
      exact ls_20 l hlt D T a fi fl vi vl kK kV R Q A hR hx hb hml hown htg hbl hbA hK hA hT hZt hL hX C0 S0 hC0 hS0 i0 hi0 hI H locs ls hP hD hS hl (fun fi fl vi vl H1 locs1 ls1 i1 C1 S1 hC1 hS1 hi1 hI hP hD hS hl => ih _ (by omega) fi fl vi vl H1 locs1 ls1 i1 C1 S1 rfl (by omega) (by omega) (by omega) (by omega) hI hP hD hS hl)
    · refine lv_tableIn (off := 872) (tgt := 912) hx hb dL_law_40 (by decide) (by decide) (by decide) (by decide) ?_
      exact ls_21 l hlt D T a fi fl vi vl kK kV R Q A hR hx hb hml hown htg hbl hbA hK hA hT hZt hL hX C0 S0 hC0 hS0 i0 hi0 hI H locs ls hP hD hS hl (fun fi fl vi vl H1 locs1 ls1 i1 C1 S1 hC1 hS1 hi1 hI hP hD hS hl => ih _ (by omega) fi fl vi vl H1 locs1 ls1 i1 C1 S1 rfl (by omega) (by omega) (by omega) (by omega) hI hP hD hS hl)
    · refine lv_tableIn (off := 885) (tgt := 925) hx hb dL_law_40 (by decide) (by decide) (by decide) (by decide) ?_
      exact ls_22 l hlt D T a fi fl vi vl kK kV R Q A hR hx hb hml hown htg hbl hbA hK hA hT hZt hL hX C0 S0 hC0 hS0 i0 hi0 hI H locs ls hP hD hS hl (fun fi fl vi vl H1 locs1 ls1 i1 C1 S1 hC1 hS1 hi1 hI hP hD hS hl => ih _ (by omega) fi fl vi vl H1 locs1 ls1 i1 C1 S1 rfl (by omega) (by omega) (by omega) (by omega) hI hP hD hS hl)
    · refine lv_tableIn (off := 898) (tgt := 938) hx hb dL_law_40 (by decide) (by decide) (by decide) (by decide) ?_
      exact ls_23 l hlt D T a fi fl vi vl kK kV R Q A hR hx hb hml hown htg hbl hbA hK hA hT hZt hL hX C0 S0 hC0 hS0 i0 hi0 hI H locs ls hP hD hS hl (fun fi fl vi vl H1 locs1 ls1 i1 C1 S1 hC1 hS1 hi1 hI hP hD hS hl => ih _ (by omega) fi fl vi vl H1 locs1 ls1 i1 C1 S1 rfl (by omega) (by omega) (by omega) (by omega) hI hP hD hS hl)
    · refine lv_tableIn (off := 923) (tgt := 963) hx hb dL_law_40 (by decide) (by decide) (by decide) (by decide) ?_
      exact ls_24 l hlt D T a fi fl vi vl kK kV R Q A hR hx hb hml hown htg hbl hbA hK hA hT hZt hL hX C0 S0 hC0 hS0 i0 hi0 hI H locs ls hP hD hS hl (fun fi fl vi vl H1 locs1 ls1 i1 C1 S1 hC1 hS1 hi1 hI hP hD hS hl => ih _ (by omega) fi fl vi vl H1 locs1 ls1 i1 C1 S1 rfl (by omega) (by omega) (by omega) (by omega) hI hP hD hS hl)
    · refine lv_tableIn (off := 948) (tgt := 988) hx hb dL_law_40 (by decide) (by decide) (by decide) (by decide) ?_
      exact ls_25 l hlt D T a fi fl vi vl kK kV R Q A hR hx hb hml hown htg hbl hbA hK hA hT hZt hL hX C0 S0 hC0 hS0 i0 hi0 hI H locs ls hP hD hS hl (fun fi fl vi vl H1 locs1 ls1 i1 C1 S1 hC1 hS1 hi1 hI hP hD hS hl => ih _ (by omega) fi fl vi vl H1 locs1 ls1 i1 C1 S1 rfl (by omega) (by omega) (by omega) (by omega) hI hP hD hS hl)
    · refine lv_tableIn (off := 973) (tgt := 1013) hx hb dL_law_40 (by decide) (by decide) (by decide) (by decide) ?_
      exact ls_26 l hlt D T a fi fl vi vl kK kV R Q A hR hx hb hml hown htg hbl hbA hK hA hT hZt hL hX C0 S0 hC0 hS0 i0 hi0 hI H locs ls hP hD hS hl (fun fi fl vi vl H1 locs1 ls1 i1 C1 S1 hC1 hS1 hi1 hI hP hD hS hl => ih _ (by omega) fi fl vi vl H1 locs1 ls1 i1 C1 S1 rfl (by omega) (by omega) (by omega) (by omega) hI hP hD hS hl)
    · refine lv_tableIn (off := 998) (tgt := 1038) hx hb dL_law_40 (by decide) (by decide) (by decide) (by decide) ?_
      exact ls_27 l hlt D T a fi fl vi vl kK kV R Q A hR hx hb hml hown htg hbl hbA hK hA hT hZt hL hX C0 S0 hC0 hS0 i0 hi0 hI H locs ls hP hD hS hl (fun fi fl vi vl H1 locs1 ls1 i1 C1 S1 hC1 hS1 hi1 hI hP hD hS hl => ih _ (by omega) fi fl vi vl H1 locs1 ls1 i1 C1 S1 rfl (by omega) (by omega) (by omega) (by omega) hI hP hD hS hl)
    · refine lv_tableIn (off := 1011) (tgt := 1051) hx hb dL_law_40 (by decide) (by decide) (by decide) (by decide) ?_
      exact ls_28 l hlt D T a fi fl vi vl kK kV R Q A hR hx hb hml hown htg hbl hbA hK hA hT hZt hL hX C0 S0 hC0 hS0 i0 hi0 hI H locs ls hP hD hS hl (fun fi fl vi vl H1 locs1 ls1 i1 C1 S1 hC1 hS1 hi1 hI hP hD hS hl => ih _ (by omega) fi fl vi vl H1 locs1 ls1 i1 C1 S1 rfl (by omega) (by omega) (by omega) (by omega) hI hP hD hS hl)
    · refine lv_tableIn (off := 1036) (tgt := 1076) hx hb dL_law_40 (by decide) (by decide) (by decide) (by decide) ?_
      exact ls_29 l hlt D T a fi fl vi vl kK kV R Q A hR hx hb hml hown htg hbl hbA hK hA hT hZt hL hX C0 S0 hC0 hS0 i0 hi0 hI H locs ls hP hD hS hl (fun fi fl vi vl H1 locs1 ls1 i1 C1 S1 hC1 hS1 hi1 hI hP hD hS hl => ih _ (by omega) fi fl vi vl H1 locs1 ls1 i1 C1 S1 rfl (by omega) (by omega) (by omega) (by omega) hI hP hD hS hl)
    · refine lv_tableIn (off := 1049) (tgt := 1089) hx hb dL_law_40 (by decide) (by decide) (by decide) (by decide) ?_
      exact ls_30 l hlt D T a fi fl vi vl kK kV R Q A hR hx hb hml hown htg hbl hbA hK hA hT hZt hL hX C0 S0 hC0 hS0 i0 hi0 hI H locs ls hP hD hS hl (fun fi fl vi vl H1 locs1 ls1 i1 C1 S1 hC1 hS1 hi1 hI hP hD hS hl => ih _ (by omega) fi fl vi vl H1 locs1 ls1 i1 C1 S1 rfl (by omega) (by omega) (by omega) (by omega) hI hP hD hS hl)
    · refine lv_tableIn (off := 1074) (tgt := 1114) hx hb dL_law_40 (by decide) (by decide) (by decide) (by decide) ?_
      exact ls_31 l hlt D T a fi fl vi vl kK kV R Q A hR hx hb hml hown htg hbl hbA hK hA hT hZt hL hX C0 S0 hC0 hS0 i0 hi0 hI H locs ls hP hD hS hl (fun fi fl vi vl H1 locs1 ls1 i1 C1 S1 hC1 hS1 hi1 hI hP hD hS hl => ih _ (by omega) fi fl vi vl H1 locs1 ls1 i1 C1 S1 rfl (by omega) (by omega) (by omega) (by omega) hI hP hD hS hl)
    · refine lv_tableIn (off := 1087) (tgt := 1127) hx hb dL_law_40 (by decide) (by decide) (by decide) (by decide) ?_
      exact ls_32 l hlt D T a fi fl vi vl kK kV R Q A hR hx hb hml hown htg hbl hbA hK hA hT hZt hL hX C0 S0 hC0 hS0 i0 hi0 hI H locs ls hP hD hS hl (fun fi fl vi vl H1 locs1 ls1 i1 C1 S1 hC1 hS1 hi1 hI hP hD hS hl => ih _ (by omega) fi fl vi vl H1 locs1 ls1 i1 C1 S1 rfl (by omega) (by omega) (by omega) (by omega) hI hP hD hS hl)
    · refine lv_tableIn (off := 1124) (tgt := 1164) hx hb dL_law_40 (by decide) (by decide) (by decide) (by decide) ?_
      exact ls_33 l hlt D T a fi fl vi vl kK kV R Q A hR hx hb hml hown htg hbl hbA hK hA hT hZt hL hX C0 S0 hC0 hS0 i0 hi0 hI H locs ls hP hD hS hl (fun fi fl vi vl H1 locs1 ls1 i1 C1 S1 hC1 hS1 hi1 hI hP hD hS hl => ih _ (by omega) fi fl vi vl H1 locs1 ls1 i1 C1 S1 rfl (by omega) (by omega) (by omega) (by omega) hI hP hD hS hl)
    · refine lv_tableIn (off := 1149) (tgt := 1189) hx hb dL_law_40 (by decide) (by decide) (by decide) (by decide) ?_
      exact ls_34 l hlt D T a fi fl vi vl kK kV R Q A hR hx hb hml hown htg hbl hbA hK hA hT hZt hL hX C0 S0 hC0 hS0 i0 hi0 hI H locs ls hP hD hS hl (fun fi fl vi vl H1 locs1 ls1 i1 C1 S1 hC1 hS1 hi1 hI hP hD hS hl => ih _ (by omega) fi fl vi vl H1 locs1 ls1 i1 C1 S1 rfl (by omega) (by omega) (by omega) (by omega) hI hP hD hS hl)
    · refine lv_tableIn (off := 1186) (tgt := 1226) hx hb dL_law_40 (by decide) (by decide) (by decide) (by decide) ?_
      exact ls_35 l hlt D T a fi fl vi vl kK kV R Q A hR hx hb hml hown htg hbl hbA hK hA hT hZt hL hX C0 S0 hC0 hS0 i0 hi0 hI H locs ls hP hD hS hl (fun fi fl vi vl H1 locs1 ls1 i1 C1 S1 hC1 hS1 hi1 hI hP hD hS hl => ih _ (by omega) fi fl vi vl H1 locs1 ls1 i1 C1 S1 rfl (by omega) (by omega) (by omega) (by omega) hI hP hD hS hl)
    · refine lv_tableIn (off := 1235) (tgt := 1275) hx hb dL_law_40 (by decide) (by decide) (by decide) (by decide) ?_
      exact ls_36 l hlt D T a fi fl vi vl kK kV R Q A hR hx hb hml hown htg hbl hbA hK hA hT hZt hL hX C0 S0 hC0 hS0 i0 hi0 hI H locs ls hP hD hS hl (fun fi fl vi vl H1 locs1 ls1 i1 C1 S1 hC1 hS1 hi1 hI hP hD hS hl => ih _ (by omega) fi fl vi vl H1 locs1 ls1 i1 C1 S1 rfl (by omega) (by omega) (by omega) (by omega) hI hP hD hS hl)
    · refine lv_tableIn (off := 1260) (tgt := 1300) hx hb dL_law_40 (by decide) (by decide) (by decide) (by decide) ?_
      exact ls_37 l hlt D T a fi fl vi vl kK kV R Q A hR hx hb hml hown htg hbl hbA hK hA hT hZt hL hX C0 S0 hC0 hS0 i0 hi0 hI H locs ls hP hD hS hl (fun fi fl vi vl H1 locs1 ls1 i1 C1 S1 hC1 hS1 hi1 hI hP hD hS hl => ih _ (by omega) fi fl vi vl H1 locs1 ls1 i1 C1 S1 rfl (by omega) (by omega) (by omega) (by omega) hI hP hD hS hl)
    · refine lv_tableIn (off := 1285) (tgt := 1325) hx hb dL_law_40 (by decide) (by decide) (by decide) (by decide) ?_
      exact ls_38 l hlt D T a fi fl vi vl kK kV R Q A hR hx hb hml hown htg hbl hbA hK hA hT hZt hL hX C0 S0 hC0 hS0 i0 hi0 hI H locs ls hP hD hS hl (fun fi fl vi vl H1 locs1 ls1 i1 C1 S1 hC1 hS1 hi1 hI hP hD hS hl => ih _ (by omega) fi fl vi vl H1 locs1 ls1 i1 C1 S1 rfl (by omega) (by omega) (by omega) (by omega) hI hP hD hS hl)
    · refine lv_tableIn (off := 1298) (tgt := 1338) hx hb dL_law_40 (by decide) (by decide) (by decide) (by decide) ?_
      exact ls_39 l hlt D T a fi fl vi vl kK kV R Q A hR hx hb hml hown htg hbl hbA hK hA hT hZt hL hX C0 S0 hC0 hS0 i0 hi0 hI H locs ls hP hD hS hl (fun fi fl vi vl H1 locs1 ls1 i1 C1 S1 hC1 hS1 hi1 hI hP hD hS hl => ih _ (by omega) fi fl vi vl H1 locs1 ls1 i1 C1 S1 rfl (by omega) (by omega) (by omega) (by omega) hI hP hD hS hl)
    · refine lv_tableIn (off := 1323) (tgt := 1363) hx hb dL_law_40 (by decide) (by decide) (by decide) (by decide) ?_
      exact ls_40 l hlt D T a fi fl vi vl kK kV R Q A hR hx hb hml hown htg hbl hbA hK hA hT hZt hL hX C0 S0 hC0 hS0 i0 hi0 hI H locs ls hP hD hS hl (fun fi fl vi vl H1 locs1 ls1 i1 C1 S1 hC1 hS1 hi1 hI hP hD hS hl => ih _ (by omega) fi fl vi vl H1 locs1 ls1 i1 C1 S1 rfl (by omega) (by omega) (by omega) (by omega) hI hP hD hS hl)
    · refine lv_tableIn (off := 1348) (tgt := 1388) hx hb dL_law_40 (by decide) (by decide) (by decide) (by decide) ?_
      exact ls_41 l hlt D T a fi fl vi vl kK kV R Q A hR hx hb hml hown htg hbl hbA hK hA hT hZt hL hX C0 S0 hC0 hS0 i0 hi0 hI H locs ls hP hD hS hl (fun fi fl vi vl H1 locs1 ls1 i1 C1 S1 hC1 hS1 hi1 hI hP hD hS hl => ih _ (by omega) fi fl vi vl H1 locs1 ls1 i1 C1 S1 rfl (by omega) (by omega) (by omega) (by omega) hI hP hD hS hl)
    · refine lv_tableIn (off := 1373) (tgt := 1413) hx hb dL_law_40 (by decide) (by decide) (by decide) (by decide) ?_
      exact ls_42 l hlt D T a fi fl vi vl kK kV R Q A hR hx hb hml hown htg hbl hbA hK hA hT hZt hL hX C0 S0 hC0 hS0 i0 hi0 hI H locs ls hP hD hS hl (fun fi fl vi vl H1 locs1 ls1 i1 C1 S1 hC1 hS1 hi1 hI hP hD hS hl => ih _ (by omega) fi fl vi vl H1 locs1 ls1 i1 C1 S1 rfl (by omega) (by omega) (by omega) (by omega) hI hP hD hS hl)
    · refine lv_tableOut (tgt := 1438) hx hb dL_law_40 (Or.inr (by have h8 := nI_toInt (n := k) (by omega); omega)) (by decide) ?_
      obtain ⟨i9, ei9⟩ : ∃ z : Int32, i0 + Int32.ofInt 6 = z := ⟨_, rfl⟩
      have ti9 : i9.toInt = i0.toInt + 6 := by rw [← ei9]; exact xadd rfl (by decide) (by omega) (by omega)
      refine lv_iinc (v := i9) (lv' := [(4, .int i9), (3, .ref (a 171)), (2, .ref (a 155)), (1, .ref (a 0)), (0, .ref b)]) hx hb dL_law_1438 hl (k := 0) rfl ei9 (by decide) rfl (fun ls hl => ?_)
      refine lv_goto (tgt := 23) hx hb dL_law_1441 (by decide) ?_
      exact ih _ (by omega) fi fl vi vl H locs ls i9 C0 S0 rfl (by omega) (by omega) (by omega) (by omega) hI hP hD hS hl
