set_option maxHeartbeats 4000000 in
theorem PL_X8_readLine_13 {fi : Nat → Nat → Int32} {fl : Nat → Nat → Int64} {vi : Nat → Int32} {vl : Nat → Int64} {r : Int32} {fj : Nat → Nat → Int32} {fm : Nat → Nat → Int64} {vj : Nat → Int32} {vm : Nat → Int64} : RL_X8_readLine_13 fi fl vi vl r fj fm vj vm (PS_X8_readLine fi fl vi vl r fj fm vj vm) := by
  unfold RL_X8_readLine_13
  intro hp5 hp6 fik flk vik vlk rk gk_1 tb gk_0 fik_2 flk_2 vik_2 vlk_2 rk_2 gk_2_1 tb_2 gk_2_0 fik_5 flk_5 vik_5 vlk_5 rk_5 gk_5_1 tb_4 gk_5_0 fik_8 flk_8 vik_8 vlk_8 rk_8 gk_8_1 tb_6 gk_8_0 fik_10 flk_10 vik_10 vlk_10 rk_10 gk_10_1 tb_8 gk_10_0 fik_13 flk_13 vik_13 vlk_13 rk_13 gk_13_1 tb_10 gk_13_0 fik_16 flk_16 vik_16 vlk_16 rk_16 gk_16_1 tb_12 gk_16_0 fik_17 flk_17 vik_17 vlk_17 rk_17 gk_17_0 gk_17_3 fik_18 flk_18 vik_18 vlk_18 rk_18 gk_18_4 tb_13 gk_18_0 q0 q1 q2 q3 q4 q5 q6 q7 q8 q9 q10 q11 q12 q13 q14 q15 q16 q17 q18 q19 q20 q21; subst q0
  unfold PS_X8_readLine
  intro n m t hc H N O hR
  (try simp only [q1, q2, q3, q4, q5, q6, q7, q8, q9, q10, q11, q12, q13, q14, q15, q16, q17, q18, q19, q20, q21]); have k9_0 : (0 : Int32).toInt = 0 := (by decide); have k9_1 : (1 : Int32).toInt = 1 := (by decide)
  have hc0 := hc
  obtain ⟨hn, hm, ht, ck, cp, ce, cw, cu, cg⟩ := hc0
  obtain ⟨hW, hd, he, hf, hi, ho, hv, hz⟩ := id hR
  have hN := RW_hn hW; have hS := RW_hs hW; have hW9 := hW.1
  have n_name : ¬ isW (trn (fi 0) n) n m t 1851878757 := by
    rcases gk_1 with ⟨z1, z2, z3⟩ | ⟨z1, z2⟩
    · exact absurd (z1.symm.trans tb) (by decide)
    · exact fun c => z2 ⟨ck.trans c.1, by rw [cw c.1]; exact c.2⟩
  have n_soul : ¬ isW (trn (fi 0) n) n m t 1936684396 := by
    rcases gk_8_1 with ⟨z1, z2, z3⟩ | ⟨z1, z2⟩
    · exact absurd (z1.symm.trans tb_6) (by decide)
    · exact fun c => z2 ⟨ck.trans c.1, by rw [cw c.1]; exact c.2⟩
  have n_debt : ¬ isW (trn (fi 0) n) n m t 1684365940 := by
    rcases gk_2_1 with ⟨z1, z2, z3⟩ | ⟨z1, z2⟩
    · exact absurd (z1.symm.trans tb_2) (by decide)
    · exact fun c => z2 ⟨ck.trans c.1, by rw [cw c.1]; exact c.2⟩
  have n_feast : ¬ isW (trn (fi 0) n) n m t 439787549556 := by
    rcases gk_5_1 with ⟨z1, z2, z3⟩ | ⟨z1, z2⟩
    · exact absurd (z1.symm.trans tb_4) (by decide)
    · exact fun c => z2 ⟨ck.trans c.1, by rw [cw c.1]; exact c.2⟩
  have n_wish : ¬ isW (trn (fi 0) n) n m t 2003399528 := by
    rcases gk_10_1 with ⟨z1, z2, z3⟩ | ⟨z1, z2⟩
    · exact absurd (z1.symm.trans tb_8) (by decide)
    · exact fun c => z2 ⟨ck.trans c.1, by rw [cw c.1]; exact c.2⟩
  have n_worth : ¬ isW (trn (fi 0) n) n m t 512970880104 := by
    rcases gk_13_1 with ⟨z1, z2, z3⟩ | ⟨z1, z2⟩
    · exact absurd (z1.symm.trans tb_10) (by decide)
    · exact fun c => z2 ⟨ck.trans c.1, by rw [cw c.1]; exact c.2⟩
  have y_old : isW (trn (fi 0) n) n m t 7302244 := by
    rcases gk_16_1 with ⟨z1, z2, z3⟩ | ⟨z1, z2⟩
    · exact ⟨ck.symm.trans z2, by rw [← cw (ck.symm.trans z2)]; exact z3⟩
    · exact absurd (z1.symm.trans tb_12) (by decide)
  have e9 : LN (trn (fi 0) n) n m (ownB (fl 0)) H N O t = lnOld (trn (fi 0) n) n m (ownB (fl 0)) H N O (sX (trn (fi 0) n) n m t) := by unfold LN; rw [if_neg n_name, if_neg n_soul, if_neg n_debt, if_neg n_feast, if_neg n_wish, if_neg n_worth, if_pos y_old]
  rw [e9]
  have hc1 := CC_nx hc gk_17_3
  refine LO_weak (LO_r (gk_18_4 n m _ hc1 H N O hS ho) (by omega)) (fun t9 H9 N9 O9 g9 => ?_)
  obtain ⟨u1, k9, x9, u2, u3, u4, u5, u6, u7, u8⟩ := g9
  subst u4 u5 u6
  exact ⟨u1, RC_ol hR u2 u7 u8 u3⟩
set_option maxHeartbeats 4000000 in
theorem PL_X8_readLine_14 {fi : Nat → Nat → Int32} {fl : Nat → Nat → Int64} {vi : Nat → Int32} {vl : Nat → Int64} {r : Int32} {fj : Nat → Nat → Int32} {fm : Nat → Nat → Int64} {vj : Nat → Int32} {vm : Nat → Int64} : RL_X8_readLine_14 fi fl vi vl r fj fm vj vm (PS_X8_readLine fi fl vi vl r fj fm vj vm) := by
  unfold RL_X8_readLine_14
  intro hp5 hp6 fik flk vik vlk rk gk_1 tb gk_0 fik_2 flk_2 vik_2 vlk_2 rk_2 gk_2_1 tb_2 gk_2_0 fik_5 flk_5 vik_5 vlk_5 rk_5 gk_5_1 tb_4 gk_5_0 fik_8 flk_8 vik_8 vlk_8 rk_8 gk_8_1 tb_6 gk_8_0 fik_10 flk_10 vik_10 vlk_10 rk_10 gk_10_1 tb_8 gk_10_0 fik_13 flk_13 vik_13 vlk_13 rk_13 gk_13_1 tb_10 gk_13_0 fik_16 flk_16 vik_16 vlk_16 rk_16 gk_16_1 tb_12 gk_16_0 fik_19 flk_19 vik_19 vlk_19 rk_19 gk_19_0 gk_19_2 q0 q1 q2 q3 q4 q5 q6 q7 q8 q9 q10 q11 q12 q13 q14 q15 q16 q17 q18 q19 q20 q21; subst q0
  unfold PS_X8_readLine
  intro n m t hc H N O hR
  (try simp only [q1, q2, q3, q4, q5, q6, q7, q8, q9, q10, q11, q12, q13, q14, q15, q16, q17, q18, q19, q20, q21]); have k9_0 : (0 : Int32).toInt = 0 := (by decide); have k9_1 : (1 : Int32).toInt = 1 := (by decide)
  have hc0 := hc
  obtain ⟨hn, hm, ht, ck, cp, ce, cw, cu, cg⟩ := hc0
  obtain ⟨hW, hd, he, hf, hi, ho, hv, hz⟩ := id hR
  have hN := RW_hn hW; have hS := RW_hs hW; have hW9 := hW.1
  have n_name : ¬ isW (trn (fi 0) n) n m t 1851878757 := by
    rcases gk_1 with ⟨z1, z2, z3⟩ | ⟨z1, z2⟩
    · exact absurd (z1.symm.trans tb) (by decide)
    · exact fun c => z2 ⟨ck.trans c.1, by rw [cw c.1]; exact c.2⟩
  have n_soul : ¬ isW (trn (fi 0) n) n m t 1936684396 := by
    rcases gk_8_1 with ⟨z1, z2, z3⟩ | ⟨z1, z2⟩
    · exact absurd (z1.symm.trans tb_6) (by decide)
    · exact fun c => z2 ⟨ck.trans c.1, by rw [cw c.1]; exact c.2⟩
  have n_debt : ¬ isW (trn (fi 0) n) n m t 1684365940 := by
    rcases gk_2_1 with ⟨z1, z2, z3⟩ | ⟨z1, z2⟩
    · exact absurd (z1.symm.trans tb_2) (by decide)
    · exact fun c => z2 ⟨ck.trans c.1, by rw [cw c.1]; exact c.2⟩
  have n_feast : ¬ isW (trn (fi 0) n) n m t 439787549556 := by
    rcases gk_5_1 with ⟨z1, z2, z3⟩ | ⟨z1, z2⟩
    · exact absurd (z1.symm.trans tb_4) (by decide)
    · exact fun c => z2 ⟨ck.trans c.1, by rw [cw c.1]; exact c.2⟩
  have n_wish : ¬ isW (trn (fi 0) n) n m t 2003399528 := by
    rcases gk_10_1 with ⟨z1, z2, z3⟩ | ⟨z1, z2⟩
    · exact absurd (z1.symm.trans tb_8) (by decide)
    · exact fun c => z2 ⟨ck.trans c.1, by rw [cw c.1]; exact c.2⟩
  have n_worth : ¬ isW (trn (fi 0) n) n m t 512970880104 := by
    rcases gk_13_1 with ⟨z1, z2, z3⟩ | ⟨z1, z2⟩
    · exact absurd (z1.symm.trans tb_10) (by decide)
    · exact fun c => z2 ⟨ck.trans c.1, by rw [cw c.1]; exact c.2⟩
  have n_old : ¬ isW (trn (fi 0) n) n m t 7302244 := by
    rcases gk_16_1 with ⟨z1, z2, z3⟩ | ⟨z1, z2⟩
    · exact absurd (z1.symm.trans tb_12) (by decide)
    · exact fun c => z2 ⟨ck.trans c.1, by rw [cw c.1]; exact c.2⟩
  have e9 : LN (trn (fi 0) n) n m (ownB (fl 0)) H N O t = bad (trn (fi 0) n) n m 1 t := by unfold LN; rw [if_neg n_name, if_neg n_soul, if_neg n_debt, if_neg n_feast, if_neg n_wish, if_neg n_worth, if_neg n_old]
  exact LO_bad e9 (by decide) (by omega) (by omega)
theorem P_X8_readLine {fi : Nat → Nat → Int32} {fl : Nat → Nat → Int64} {vi : Nat → Int32} {vl : Nat → Int64} {r : Int32} {fj : Nat → Nat → Int32} {fm : Nat → Nat → Int64} {vj : Nat → Int32} {vm : Nat → Int64} (h : R_X8_readLine fi fl vi vl r fj fm vj vm) : ∀ n m t : Nat, CC (trn (fi 0) n) n m t (vi 2) (vi 3) (vi 5) (vi 6) (vi 4) (vl 0) (vi 7) (vi 8) → ∀ (H : Nat → Int) (N : Nat → Int64) (O : Nat → Bool), (RC (ownB (fl 0)) (vi 12) (vi 13) (fl 1) (fl 2) (fi 2) (fi 3) (fi 5) (fi 6) (fi 7) (fi 8) H N O) → LO (LN (trn (fi 0) n) n m (ownB (fl 0)) H N O t) r (vj 5) (vj 6) (fun t' H' N' O' => CC (trn (fi 0) n) n m t' (vi 2) (vi 3) (vj 0) (vj 1) (vj 4) (vm 0) (vj 3) (vj 2) ∧ (RC (ownB (fl 0)) (vj 8) (vj 9) (fm 0) (fm 1) (fj 1) (fj 2) (fj 4) (fj 5) (fj 6) (fj 7) H' N' O')) := h (PS_X8_readLine fi fl vi vl r fj fm vj vm) PL_X8_readLine_0 PL_X8_readLine_1 PL_X8_readLine_2 PL_X8_readLine_3 PL_X8_readLine_4 PL_X8_readLine_5 PL_X8_readLine_6 PL_X8_readLine_7 PL_X8_readLine_8 PL_X8_readLine_9 PL_X8_readLine_10 PL_X8_readLine_11 PL_X8_readLine_12 PL_X8_readLine_13 PL_X8_readLine_14
def RL_X8_read_0 (fi : Nat → Nat → Int32) (fl : Nat → Nat → Int64) (vi : Nat → Int32) (vl : Nat → Int64) (r : Int32) (fj : Nat → Nat → Int32) (fm : Nat → Nat → Int64) (vj : Nat → Int32) (vm : Nat → Int64) (Q9 : Prop) : Prop :=
  (0 ≤ (vi 1).toInt ∧ (vi 1).toInt ≤ 9) → (0 ≤ (vi 2).toInt ∧ (vi 2).toInt ≤ 9) → (0 ≤ (vi 4).toInt ∧ (vi 4).toInt ≤ 940) → (0 ≤ (vi 5).toInt ∧ (vi 5).toInt ≤ 940) → (0 ≤ (vi 6).toInt ∧ (vi 6).toInt ≤ 940) → (0 ≤ (vi 8).toInt ∧ (vi 8).toInt ≤ 940) → (0 ≤ (vi 13).toInt ∧ (vi 13).toInt ≤ 940) → ∀ (fik : Nat → Nat → Int32), ∀ (flk : Nat → Nat → Int64), ∀ (vik : Nat → Int32), ∀ (vlk : Nat → Int64), ∀ (uk : Int32), (0 ≤ (vik 0).toInt ∧ (vik 0).toInt ≤ 9) → (0 ≤ (vik 1).toInt ∧ (vik 1).toInt ≤ 9) → ((vik 0).toInt = 0 ∧ (vik 1).toInt = 0) → ∀ (fik_1 : Nat → Nat → Int32), ∀ (flk_1 : Nat → Nat → Int64), ∀ (vik_1 : Nat → Int32), ∀ (vlk_1 : Nat → Int64), ∀ (uk_1 : Int32), (0 ≤ (vik_1 0).toInt ∧ (vik_1 0).toInt ≤ 940) → (0 ≤ (vik_1 1).toInt ∧ (vik_1 1).toInt ≤ 940) → (0 ≤ (vik_1 5).toInt ∧ (vik_1 5).toInt ≤ 940) → (0 ≤ (vik_1 3).toInt ∧ (vik_1 3).toInt ≤ 940) → (∀ n m : Nat, (vi 4).toInt = (n : Int) → (900 : Int) = (m : Int) → (vik_1 0).toInt = (900 : Int) ∧ (vik_1 2).toInt = 0 ∧ CC (trn (fi 0) n) n m 0 (vi 4) (vik_1 0) (vik_1 4) (vik_1 5) (vik_1 1) (vlk_1 0) (vik_1 7) (vik_1 6)) → ∀ (wv : Int32), ∀ (wv_1 : Int32), ∀ (wv_2 : Int32), ∀ (wv_3 : Int32), ∀ (wv_4 : Int32), ∀ (wv_5 : Int32), ∀ (wv_6 : Int32), ∀ (wv_7 : Int32), ∀ (wv_8 : Int64), ∀ (wv_9 : Int32), ∀ (wv_10 : Int32), ∀ (wv_11 : Int32), ∀ (wf : Nat → Int64), ∀ (wf_1 : Nat → Int32), ∀ (wf_2 : Nat → Int32), ∀ (wf_3 : Nat → Int32), ∀ (wf_4 : Nat → Int64), ∀ (wf_5 : Nat → Int32), ∀ (wf_6 : Nat → Int32), ∀ (wf_7 : Nat → Int32), ∀ (wf_8 : Nat → Int32), ∀ (wf_9 : Nat → Int32), (0 ≤ wv.toInt ∧ wv.toInt ≤ 9) → (0 ≤ wv_1.toInt ∧ wv_1.toInt ≤ 9) → (0 ≤ wv_2.toInt ∧ wv_2.toInt ≤ 940) → (0 ≤ wv_4.toInt ∧ wv_4.toInt ≤ 940) → (0 ≤ wv_6.toInt ∧ wv_6.toInt ≤ 940) → (0 ≤ wv_10.toInt ∧ wv_10.toInt ≤ 900) → (TI (fi 0) (ownB (fl 0)) (vi 4) (vik_1 0) wv_5 wv_6 wv_2 wv_8 wv_9 wv_7 wv wv_1 wf wf_4 wf_2 wf_3 wf_6 wf_7 wf_8 wf_9 wv_10) → (900 ≤ wv_10.toInt) → (r = (1 : Int32)) → (fj 0 = wf_1) → (fj 1 = wf_2) → (fj 2 = wf_3) → (fj 3 = wf_5) → (fj 4 = wf_6) → (fj 5 = wf_7) → (fj 6 = wf_8) → (fj 7 = wf_9) → (fm 0 = wf) → (fm 1 = wf_4) → (vj 0 = wv) → (vj 1 = wv_1) → (vj 2 = (vik_1 0)) → (vj 3 = wv_2) → (vj 4 = wv_3) → (vj 5 = wv_4) → (vj 6 = wv_5) → (vj 7 = wv_6) → (vj 8 = wv_7) → (vj 9 = wv_9) → (vj 10 = wv_10) → (vj 11 = wv_11) → (vm 0 = wv_8) → Q9
def RL_X8_read_1 (fi : Nat → Nat → Int32) (fl : Nat → Nat → Int64) (vi : Nat → Int32) (vl : Nat → Int64) (r : Int32) (fj : Nat → Nat → Int32) (fm : Nat → Nat → Int64) (vj : Nat → Int32) (vm : Nat → Int64) (Q9 : Prop) : Prop :=
  (0 ≤ (vi 1).toInt ∧ (vi 1).toInt ≤ 9) → (0 ≤ (vi 2).toInt ∧ (vi 2).toInt ≤ 9) → (0 ≤ (vi 4).toInt ∧ (vi 4).toInt ≤ 940) → (0 ≤ (vi 5).toInt ∧ (vi 5).toInt ≤ 940) → (0 ≤ (vi 6).toInt ∧ (vi 6).toInt ≤ 940) → (0 ≤ (vi 8).toInt ∧ (vi 8).toInt ≤ 940) → (0 ≤ (vi 13).toInt ∧ (vi 13).toInt ≤ 940) → ∀ (fik : Nat → Nat → Int32), ∀ (flk : Nat → Nat → Int64), ∀ (vik : Nat → Int32), ∀ (vlk : Nat → Int64), ∀ (uk : Int32), (0 ≤ (vik 0).toInt ∧ (vik 0).toInt ≤ 9) → (0 ≤ (vik 1).toInt ∧ (vik 1).toInt ≤ 9) → ((vik 0).toInt = 0 ∧ (vik 1).toInt = 0) → ∀ (fik_1 : Nat → Nat → Int32), ∀ (flk_1 : Nat → Nat → Int64), ∀ (vik_1 : Nat → Int32), ∀ (vlk_1 : Nat → Int64), ∀ (uk_1 : Int32), (0 ≤ (vik_1 0).toInt ∧ (vik_1 0).toInt ≤ 940) → (0 ≤ (vik_1 1).toInt ∧ (vik_1 1).toInt ≤ 940) → (0 ≤ (vik_1 5).toInt ∧ (vik_1 5).toInt ≤ 940) → (0 ≤ (vik_1 3).toInt ∧ (vik_1 3).toInt ≤ 940) → (∀ n m : Nat, (vi 4).toInt = (n : Int) → (900 : Int) = (m : Int) → (vik_1 0).toInt = (900 : Int) ∧ (vik_1 2).toInt = 0 ∧ CC (trn (fi 0) n) n m 0 (vi 4) (vik_1 0) (vik_1 4) (vik_1 5) (vik_1 1) (vlk_1 0) (vik_1 7) (vik_1 6)) → ∀ (wv : Int32), ∀ (wv_1 : Int32), ∀ (wv_2 : Int32), ∀ (wv_3 : Int32), ∀ (wv_4 : Int32), ∀ (wv_5 : Int32), ∀ (wv_6 : Int32), ∀ (wv_7 : Int32), ∀ (wv_8 : Int64), ∀ (wv_9 : Int32), ∀ (wv_10 : Int32), ∀ (wv_11 : Int32), ∀ (wf : Nat → Int64), ∀ (wf_1 : Nat → Int32), ∀ (wf_2 : Nat → Int32), ∀ (wf_3 : Nat → Int32), ∀ (wf_4 : Nat → Int64), ∀ (wf_5 : Nat → Int32), ∀ (wf_6 : Nat → Int32), ∀ (wf_7 : Nat → Int32), ∀ (wf_8 : Nat → Int32), ∀ (wf_9 : Nat → Int32), (0 ≤ wv.toInt ∧ wv.toInt ≤ 9) → (0 ≤ wv_1.toInt ∧ wv_1.toInt ≤ 9) → (0 ≤ wv_2.toInt ∧ wv_2.toInt ≤ 940) → (0 ≤ wv_4.toInt ∧ wv_4.toInt ≤ 940) → (0 ≤ wv_6.toInt ∧ wv_6.toInt ≤ 940) → (0 ≤ wv_10.toInt ∧ wv_10.toInt ≤ 900) → (TI (fi 0) (ownB (fl 0)) (vi 4) (vik_1 0) wv_5 wv_6 wv_2 wv_8 wv_9 wv_7 wv wv_1 wf wf_4 wf_2 wf_3 wf_6 wf_7 wf_8 wf_9 wv_10) → (wv_10.toInt < 900) → (wv_5.toInt = 0) → (r = (1 : Int32)) → (fj 0 = wf_1) → (fj 1 = wf_2) → (fj 2 = wf_3) → (fj 3 = wf_5) → (fj 4 = wf_6) → (fj 5 = wf_7) → (fj 6 = wf_8) → (fj 7 = wf_9) → (fm 0 = wf) → (fm 1 = wf_4) → (vj 0 = wv) → (vj 1 = wv_1) → (vj 2 = (vik_1 0)) → (vj 3 = wv_2) → (vj 4 = wv_3) → (vj 5 = wv_4) → (vj 6 = wv_5) → (vj 7 = wv_6) → (vj 8 = wv_7) → (vj 9 = wv_9) → (vj 10 = wv_10) → (vj 11 = wv_11) → (vm 0 = wv_8) → Q9
def RL_X8_read_2 (fi : Nat → Nat → Int32) (fl : Nat → Nat → Int64) (vi : Nat → Int32) (vl : Nat → Int64) (r : Int32) (fj : Nat → Nat → Int32) (fm : Nat → Nat → Int64) (vj : Nat → Int32) (vm : Nat → Int64) (Q9 : Prop) : Prop :=
  (0 ≤ (vi 1).toInt ∧ (vi 1).toInt ≤ 9) → (0 ≤ (vi 2).toInt ∧ (vi 2).toInt ≤ 9) → (0 ≤ (vi 4).toInt ∧ (vi 4).toInt ≤ 940) → (0 ≤ (vi 5).toInt ∧ (vi 5).toInt ≤ 940) → (0 ≤ (vi 6).toInt ∧ (vi 6).toInt ≤ 940) → (0 ≤ (vi 8).toInt ∧ (vi 8).toInt ≤ 940) → (0 ≤ (vi 13).toInt ∧ (vi 13).toInt ≤ 940) → ∀ (fik : Nat → Nat → Int32), ∀ (flk : Nat → Nat → Int64), ∀ (vik : Nat → Int32), ∀ (vlk : Nat → Int64), ∀ (uk : Int32), (0 ≤ (vik 0).toInt ∧ (vik 0).toInt ≤ 9) → (0 ≤ (vik 1).toInt ∧ (vik 1).toInt ≤ 9) → ((vik 0).toInt = 0 ∧ (vik 1).toInt = 0) → ∀ (fik_1 : Nat → Nat → Int32), ∀ (flk_1 : Nat → Nat → Int64), ∀ (vik_1 : Nat → Int32), ∀ (vlk_1 : Nat → Int64), ∀ (uk_1 : Int32), (0 ≤ (vik_1 0).toInt ∧ (vik_1 0).toInt ≤ 940) → (0 ≤ (vik_1 1).toInt ∧ (vik_1 1).toInt ≤ 940) → (0 ≤ (vik_1 5).toInt ∧ (vik_1 5).toInt ≤ 940) → (0 ≤ (vik_1 3).toInt ∧ (vik_1 3).toInt ≤ 940) → (∀ n m : Nat, (vi 4).toInt = (n : Int) → (900 : Int) = (m : Int) → (vik_1 0).toInt = (900 : Int) ∧ (vik_1 2).toInt = 0 ∧ CC (trn (fi 0) n) n m 0 (vi 4) (vik_1 0) (vik_1 4) (vik_1 5) (vik_1 1) (vlk_1 0) (vik_1 7) (vik_1 6)) → ∀ (wv : Int32), ∀ (wv_1 : Int32), ∀ (wv_2 : Int32), ∀ (wv_3 : Int32), ∀ (wv_4 : Int32), ∀ (wv_5 : Int32), ∀ (wv_6 : Int32), ∀ (wv_7 : Int32), ∀ (wv_8 : Int64), ∀ (wv_9 : Int32), ∀ (wv_10 : Int32), ∀ (wv_11 : Int32), ∀ (wf : Nat → Int64), ∀ (wf_1 : Nat → Int32), ∀ (wf_2 : Nat → Int32), ∀ (wf_3 : Nat → Int32), ∀ (wf_4 : Nat → Int64), ∀ (wf_5 : Nat → Int32), ∀ (wf_6 : Nat → Int32), ∀ (wf_7 : Nat → Int32), ∀ (wf_8 : Nat → Int32), ∀ (wf_9 : Nat → Int32), (0 ≤ wv.toInt ∧ wv.toInt ≤ 9) → (0 ≤ wv_1.toInt ∧ wv_1.toInt ≤ 9) → (0 ≤ wv_2.toInt ∧ wv_2.toInt ≤ 940) → (0 ≤ wv_4.toInt ∧ wv_4.toInt ≤ 940) → (0 ≤ wv_6.toInt ∧ wv_6.toInt ≤ 940) → (0 ≤ wv_10.toInt ∧ wv_10.toInt ≤ 900) → (TI (fi 0) (ownB (fl 0)) (vi 4) (vik_1 0) wv_5 wv_6 wv_2 wv_8 wv_9 wv_7 wv wv_1 wf wf_4 wf_2 wf_3 wf_6 wf_7 wf_8 wf_9 wv_10) → (wv_10.toInt < 900) → (¬ wv_5.toInt = 0) → ∀ (fik_2 : Nat → Nat → Int32), ∀ (flk_2 : Nat → Nat → Int64), ∀ (vik_2 : Nat → Int32), ∀ (vlk_2 : Nat → Int64), ∀ (rk_2 : Int32), (0 ≤ (vik_2 4).toInt ∧ (vik_2 4).toInt ≤ 940) → (0 ≤ (vik_2 1).toInt ∧ (vik_2 1).toInt ≤ 940) → (0 ≤ (vik_2 6).toInt ∧ (vik_2 6).toInt ≤ 940) → (0 ≤ (vik_2 8).toInt ∧ (vik_2 8).toInt ≤ 9) → (0 ≤ (vik_2 9).toInt ∧ (vik_2 9).toInt ≤ 9) → (∀ n m t : Nat, CC (trn (fi 0) n) n m t (vi 4) (vik_1 0) wv_5 wv_6 wv_2 wv_8 wv_9 wv_7 → ∀ (H : Nat → Int) (N : Nat → Int64) (O : Nat → Bool), (RC (ownB (fl 0)) wv wv_1 wf wf_4 wf_2 wf_3 wf_6 wf_7 wf_8 wf_9 H N O) → LO (LN (trn (fi 0) n) n m (ownB (fl 0)) H N O t) rk_2 (vik_2 5) (vik_2 6) (fun t' H' N' O' => CC (trn (fi 0) n) n m t' (vi 4) (vik_1 0) (vik_2 0) (vik_2 1) (vik_2 4) (vlk_2 0) (vik_2 3) (vik_2 2) ∧ (RC (ownB (fl 0)) (vik_2 8) (vik_2 9) (flk_2 0) (flk_2 1) (fik_2 1) (fik_2 2) (fik_2 4) (fik_2 5) (fik_2 6) (fik_2 7) H' N' O'))) → (rk_2.toInt = 1) → (True) → ∀ (fik_3 : Nat → Nat → Int32), ∀ (flk_3 : Nat → Nat → Int64), ∀ (vik_3 : Nat → Int32), ∀ (vlk_3 : Nat → Int64), ∀ (rk_3 : Int32), (0 ≤ (vik_3 4).toInt ∧ (vik_3 4).toInt ≤ 940) → (0 ≤ (vik_3 1).toInt ∧ (vik_3 1).toInt ≤ 940) → (0 ≤ (vik_3 6).toInt ∧ (vik_3 6).toInt ≤ 940) → (∀ n m t : Nat, CC (trn (fi 0) n) n m t (vi 4) (vik_1 0) (vik_2 0) (vik_2 1) (vik_2 4) (vlk_2 0) (vik_2 3) (vik_2 2) → (rk_3.toInt = 1 ∧ (sK (trn (fi 0) n) n m t) = 3 ∧ (sG (trn (fi 0) n) n m t) = (59 : Int) ∧ CC (trn (fi 0) n) n m (sX (trn (fi 0) n) n m t) (vi 4) (vik_1 0) (vik_3 0) (vik_3 1) (vik_3 4) (vlk_3 0) (vik_3 3) (vik_3 2)) ∨ (rk_3.toInt = 0 ∧ ¬ ((sK (trn (fi 0) n) n m t) = 3 ∧ (sG (trn (fi 0) n) n m t) = (59 : Int)) ∧ (vik_3 5).toInt = 1 ∧ (vik_3 6).toInt = ((sPn (trn (fi 0) n) n m t) : Int))) → (rk_3.toInt = 0) → (True) → (r = (0 : Int32)) → (fj 0 = (fik_2 0)) → (fj 1 = (fik_2 1)) → (fj 2 = (fik_2 2)) → (fj 3 = (fik_2 3)) → (fj 4 = (fik_2 4)) → (fj 5 = (fik_2 5)) → (fj 6 = (fik_2 6)) → (fj 7 = (fik_2 7)) → (fm 0 = (flk_2 0)) → (fm 1 = (flk_2 1)) → (vj 0 = (vik_2 8)) → (vj 1 = (vik_2 9)) → (vj 2 = (vik_1 0)) → (vj 3 = (vik_3 4)) → (vj 4 = (vik_3 5)) → (vj 5 = (vik_3 6)) → (vj 6 = (vik_3 0)) → (vj 7 = (vik_3 1)) → (vj 8 = (vik_3 2)) → (vj 9 = (vik_3 3)) → (vj 10 = wv_10) → (vj 11 = (vik_2 7)) → (vm 0 = (vlk_3 0)) → Q9
