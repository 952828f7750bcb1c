def PS_X8_readLine (fi : Nat → Nat → Int32) (fl : Nat → Nat → Int64) (vi : Nat → Int32) (vl : Nat → Int64) (r : Int32) (fj : Nat → Nat → Int32) (fm : Nat → Nat → Int64) (vj : Nat → Int32) (vm : Nat → Int64) : Prop :=
  ∀ n m t : Nat, CC (trn (fi 0) n) n m t (vi 2) (vi 3) (vi 5) (vi 6) (vi 4) (vl 0) (vi 7) (vi 8) → ∀ (H : Nat → Int) (N : Nat → Int64) (O : Nat → Bool), (RC (ownB (fl 0)) (vi 12) (vi 13) (fl 1) (fl 2) (fi 2) (fi 3) (fi 5) (fi 6) (fi 7) (fi 8) H N O) → LO (LN (trn (fi 0) n) n m (ownB (fl 0)) H N O t) r (vj 5) (vj 6) (fun t' H' N' O' => CC (trn (fi 0) n) n m t' (vi 2) (vi 3) (vj 0) (vj 1) (vj 4) (vm 0) (vj 3) (vj 2) ∧ (RC (ownB (fl 0)) (vj 8) (vj 9) (fm 0) (fm 1) (fj 1) (fj 2) (fj 4) (fj 5) (fj 6) (fj 7) H' N' O'))
set_option maxHeartbeats 4000000 in
theorem PL_X8_readLine_0 {fi : Nat → Nat → Int32} {fl : Nat → Nat → Int64} {vi : Nat → Int32} {vl : Nat → Int64} {r : Int32} {fj : Nat → Nat → Int32} {fm : Nat → Nat → Int64} {vj : Nat → Int32} {vm : Nat → Int64} : RL_X8_readLine_0 fi fl vi vl r fj fm vj vm (PS_X8_readLine fi fl vi vl r fj fm vj vm) := by
  unfold RL_X8_readLine_0
  intro hp5 hp6 fik flk vik vlk rk gk_1 tb gk_0 fik_1 flk_1 vik_1 vlk_1 rk_1 gk_1_6 tb_1 gk_1_0 q0 q1 q2 q3 q4 q5 q6 q7 q8 q9 q10 q11 q12 q13 q14 q15 q16 q17 q18 q19 q20 q21; subst q0
  unfold PS_X8_readLine
  intro n m t hc H N O hR
  (try simp only [q1, q2, q3, q4, q5, q6, q7, q8, q9, q10, q11, q12, q13, q14, q15, q16, q17, q18, q19, q20, q21]); have k9_0 : (0 : Int32).toInt = 0 := (by decide); have k9_1 : (1 : Int32).toInt = 1 := (by decide)
  have hc0 := hc
  obtain ⟨hn, hm, ht, ck, cp, ce, cw, cu, cg⟩ := hc0
  obtain ⟨hW, hd, he, hf, hi, ho, hv, hz⟩ := id hR
  have hN := RW_hn hW; have hS := RW_hs hW; have hW9 := hW.1
  have y_name : isW (trn (fi 0) n) n m t 1851878757 := by
    rcases gk_1 with ⟨z1, z2, z3⟩ | ⟨z1, z2⟩
    · exact ⟨ck.symm.trans z2, by rw [← cw (ck.symm.trans z2)]; exact z3⟩
    · exact absurd (z1.symm.trans tb) (by decide)
  have e9 : LN (trn (fi 0) n) n m (ownB (fl 0)) H N O t = lnName (trn (fi 0) n) n m (ownB (fl 0)) H N O t := by unfold LN; rw [if_pos y_name]
  rw [e9]
  refine LO_weak (LO_r (gk_1_6 n m t hc H N O hN hS) (by omega)) (fun t9 H9 N9 O9 g9 => ?_)
  obtain ⟨u1, w9, x9, u2, u3, u4, u5, u6, u7, u8, u9, u10⟩ := g9
  subst u4 u5 u6
  exact ⟨u1, RC_name hR u3 u2 u7 u8 u9 u10⟩
set_option maxHeartbeats 4000000 in
theorem PL_X8_readLine_1 {fi : Nat → Nat → Int32} {fl : Nat → Nat → Int64} {vi : Nat → Int32} {vl : Nat → Int64} {r : Int32} {fj : Nat → Nat → Int32} {fm : Nat → Nat → Int64} {vj : Nat → Int32} {vm : Nat → Int64} : RL_X8_readLine_1 fi fl vi vl r fj fm vj vm (PS_X8_readLine fi fl vi vl r fj fm vj vm) := by
  unfold RL_X8_readLine_1
  intro hp5 hp6 fik flk vik vlk rk gk_1 tb gk_0 fik_1 flk_1 vik_1 vlk_1 rk_1 gk_1_6 tb_1 gk_1_0 q0 q1 q2 q3 q4 q5 q6 q7 q8 q9 q10 q11 q12 q13 q14 q15 q16 q17 q18 q19 q20 q21; subst q0
  unfold PS_X8_readLine
  intro n m t hc H N O hR
  (try simp only [q1, q2, q3, q4, q5, q6, q7, q8, q9, q10, q11, q12, q13, q14, q15, q16, q17, q18, q19, q20, q21]); have k9_0 : (0 : Int32).toInt = 0 := (by decide); have k9_1 : (1 : Int32).toInt = 1 := (by decide)
  have hc0 := hc
  obtain ⟨hn, hm, ht, ck, cp, ce, cw, cu, cg⟩ := hc0
  obtain ⟨hW, hd, he, hf, hi, ho, hv, hz⟩ := id hR
  have hN := RW_hn hW; have hS := RW_hs hW; have hW9 := hW.1
  have y_name : isW (trn (fi 0) n) n m t 1851878757 := by
    rcases gk_1 with ⟨z1, z2, z3⟩ | ⟨z1, z2⟩
    · exact ⟨ck.symm.trans z2, by rw [← cw (ck.symm.trans z2)]; exact z3⟩
    · exact absurd (z1.symm.trans tb) (by decide)
  have e9 : LN (trn (fi 0) n) n m (ownB (fl 0)) H N O t = lnName (trn (fi 0) n) n m (ownB (fl 0)) H N O t := by unfold LN; rw [if_pos y_name]
  rw [e9]
  refine LO_weak (LO_r (gk_1_6 n m t hc H N O hN hS) (by omega)) (fun t9 H9 N9 O9 g9 => ?_)
  obtain ⟨u1, w9, x9, u2, u3, u4, u5, u6, u7, u8, u9, u10⟩ := g9
  subst u4 u5 u6
  exact ⟨u1, RC_name hR u3 u2 u7 u8 u9 u10⟩
set_option maxHeartbeats 4000000 in
theorem PL_X8_readLine_2 {fi : Nat → Nat → Int32} {fl : Nat → Nat → Int64} {vi : Nat → Int32} {vl : Nat → Int64} {r : Int32} {fj : Nat → Nat → Int32} {fm : Nat → Nat → Int64} {vj : Nat → Int32} {vm : Nat → Int64} : RL_X8_readLine_2 fi fl vi vl r fj fm vj vm (PS_X8_readLine fi fl vi vl r fj fm vj vm) := by
  unfold RL_X8_readLine_2
  intro hp5 hp6 fik flk vik vlk rk gk_1 tb gk_0 fik_2 flk_2 vik_2 vlk_2 rk_2 gk_2_1 tb_2 gk_2_0 fik_3 flk_3 vik_3 vlk_3 rk_3 gk_3_0 gk_3_3 fik_4 flk_4 vik_4 vlk_4 rk_4 gk_4_5 tb_3 gk_4_0 q0 q1 q2 q3 q4 q5 q6 q7 q8 q9 q10 q11 q12 q13 q14 q15 q16 q17 q18 q19 q20 q21; subst q0
  unfold PS_X8_readLine
  intro n m t hc H N O hR
  (try simp only [q1, q2, q3, q4, q5, q6, q7, q8, q9, q10, q11, q12, q13, q14, q15, q16, q17, q18, q19, q20, q21]); have k9_0 : (0 : Int32).toInt = 0 := (by decide); have k9_1 : (1 : Int32).toInt = 1 := (by decide)
  have hc0 := hc
  obtain ⟨hn, hm, ht, ck, cp, ce, cw, cu, cg⟩ := hc0
  obtain ⟨hW, hd, he, hf, hi, ho, hv, hz⟩ := id hR
  have hN := RW_hn hW; have hS := RW_hs hW; have hW9 := hW.1
  have n_name : ¬ isW (trn (fi 0) n) n m t 1851878757 := by
    rcases gk_1 with ⟨z1, z2, z3⟩ | ⟨z1, z2⟩
    · exact absurd (z1.symm.trans tb) (by decide)
    · exact fun c => z2 ⟨ck.trans c.1, by rw [cw c.1]; exact c.2⟩
  have y_debt : isW (trn (fi 0) n) n m t 1684365940 := by
    rcases gk_2_1 with ⟨z1, z2, z3⟩ | ⟨z1, z2⟩
    · exact ⟨ck.symm.trans z2, by rw [← cw (ck.symm.trans z2)]; exact z3⟩
    · exact absurd (z1.symm.trans tb_2) (by decide)
  have n_soul : ¬ isW (trn (fi 0) n) n m t 1936684396 := fun c => absurd (c.2.symm.trans y_debt.2) (by decide)
  have e9 : LN (trn (fi 0) n) n m (ownB (fl 0)) H N O t = lnOf (trn (fi 0) n) n m (ownB (fl 0)) 0 11 0 99 H N O (sX (trn (fi 0) n) n m t) := by unfold LN; rw [if_neg n_name, if_neg n_soul, if_pos y_debt]
  rw [e9]
  have hc1 := CC_nx hc gk_3_3
  refine LO_weak (LO_r (gk_4_5 n m _ hc1 H N O 0 11 hN hd (by omega)) (by omega)) (fun t9 H9 N9 O9 g9 => ?_)
  obtain ⟨u1, k9, x9, u2, u3, u4, u5, u6, u7⟩ := g9
  subst u3 u4 u5
  exact ⟨u1, RC_fd hR u2 u6 u7⟩
set_option maxHeartbeats 4000000 in
theorem PL_X8_readLine_3 {fi : Nat → Nat → Int32} {fl : Nat → Nat → Int64} {vi : Nat → Int32} {vl : Nat → Int64} {r : Int32} {fj : Nat → Nat → Int32} {fm : Nat → Nat → Int64} {vj : Nat → Int32} {vm : Nat → Int64} : RL_X8_readLine_3 fi fl vi vl r fj fm vj vm (PS_X8_readLine fi fl vi vl r fj fm vj vm) := by
  unfold RL_X8_readLine_3
  intro hp5 hp6 fik flk vik vlk rk gk_1 tb gk_0 fik_2 flk_2 vik_2 vlk_2 rk_2 gk_2_1 tb_2 gk_2_0 fik_3 flk_3 vik_3 vlk_3 rk_3 gk_3_0 gk_3_3 fik_4 flk_4 vik_4 vlk_4 rk_4 gk_4_5 tb_3 gk_4_0 q0 q1 q2 q3 q4 q5 q6 q7 q8 q9 q10 q11 q12 q13 q14 q15 q16 q17 q18 q19 q20 q21; subst q0
  unfold PS_X8_readLine
  intro n m t hc H N O hR
  (try simp only [q1, q2, q3, q4, q5, q6, q7, q8, q9, q10, q11, q12, q13, q14, q15, q16, q17, q18, q19, q20, q21]); have k9_0 : (0 : Int32).toInt = 0 := (by decide); have k9_1 : (1 : Int32).toInt = 1 := (by decide)
  have hc0 := hc
  obtain ⟨hn, hm, ht, ck, cp, ce, cw, cu, cg⟩ := hc0
  obtain ⟨hW, hd, he, hf, hi, ho, hv, hz⟩ := id hR
  have hN := RW_hn hW; have hS := RW_hs hW; have hW9 := hW.1
  have n_name : ¬ isW (trn (fi 0) n) n m t 1851878757 := by
    rcases gk_1 with ⟨z1, z2, z3⟩ | ⟨z1, z2⟩
    · exact absurd (z1.symm.trans tb) (by decide)
    · exact fun c => z2 ⟨ck.trans c.1, by rw [cw c.1]; exact c.2⟩
  have y_debt : isW (trn (fi 0) n) n m t 1684365940 := by
    rcases gk_2_1 with ⟨z1, z2, z3⟩ | ⟨z1, z2⟩
    · exact ⟨ck.symm.trans z2, by rw [← cw (ck.symm.trans z2)]; exact z3⟩
    · exact absurd (z1.symm.trans tb_2) (by decide)
  have n_soul : ¬ isW (trn (fi 0) n) n m t 1936684396 := fun c => absurd (c.2.symm.trans y_debt.2) (by decide)
  have e9 : LN (trn (fi 0) n) n m (ownB (fl 0)) H N O t = lnOf (trn (fi 0) n) n m (ownB (fl 0)) 0 11 0 99 H N O (sX (trn (fi 0) n) n m t) := by unfold LN; rw [if_neg n_name, if_neg n_soul, if_pos y_debt]
  rw [e9]
  have hc1 := CC_nx hc gk_3_3
  refine LO_weak (LO_r (gk_4_5 n m _ hc1 H N O 0 11 hN hd (by omega)) (by omega)) (fun t9 H9 N9 O9 g9 => ?_)
  obtain ⟨u1, k9, x9, u2, u3, u4, u5, u6, u7⟩ := g9
  subst u3 u4 u5
  exact ⟨u1, RC_fd hR u2 u6 u7⟩
set_option maxHeartbeats 4000000 in
theorem PL_X8_readLine_4 {fi : Nat → Nat → Int32} {fl : Nat → Nat → Int64} {vi : Nat → Int32} {vl : Nat → Int64} {r : Int32} {fj : Nat → Nat → Int32} {fm : Nat → Nat → Int64} {vj : Nat → Int32} {vm : Nat → Int64} : RL_X8_readLine_4 fi fl vi vl r fj fm vj vm (PS_X8_readLine fi fl vi vl r fj fm vj vm) := by
  unfold RL_X8_readLine_4
  intro hp5 hp6 fik flk vik vlk rk gk_1 tb gk_0 fik_2 flk_2 vik_2 vlk_2 rk_2 gk_2_1 tb_2 gk_2_0 fik_5 flk_5 vik_5 vlk_5 rk_5 gk_5_1 tb_4 gk_5_0 fik_6 flk_6 vik_6 vlk_6 rk_6 gk_6_0 gk_6_3 fik_7 flk_7 vik_7 vlk_7 rk_7 gk_7_5 tb_5 gk_7_0 q0 q1 q2 q3 q4 q5 q6 q7 q8 q9 q10 q11 q12 q13 q14 q15 q16 q17 q18 q19 q20 q21; subst q0
  unfold PS_X8_readLine
  intro n m t hc H N O hR
  (try simp only [q1, q2, q3, q4, q5, q6, q7, q8, q9, q10, q11, q12, q13, q14, q15, q16, q17, q18, q19, q20, q21]); have k9_0 : (0 : Int32).toInt = 0 := (by decide); have k9_1 : (1 : Int32).toInt = 1 := (by decide)
  have hc0 := hc
  obtain ⟨hn, hm, ht, ck, cp, ce, cw, cu, cg⟩ := hc0
  obtain ⟨hW, hd, he, hf, hi, ho, hv, hz⟩ := id hR
  have hN := RW_hn hW; have hS := RW_hs hW; have hW9 := hW.1
  have n_name : ¬ isW (trn (fi 0) n) n m t 1851878757 := by
    rcases gk_1 with ⟨z1, z2, z3⟩ | ⟨z1, z2⟩
    · exact absurd (z1.symm.trans tb) (by decide)
    · exact fun c => z2 ⟨ck.trans c.1, by rw [cw c.1]; exact c.2⟩
  have n_debt : ¬ isW (trn (fi 0) n) n m t 1684365940 := by
    rcases gk_2_1 with ⟨z1, z2, z3⟩ | ⟨z1, z2⟩
    · exact absurd (z1.symm.trans tb_2) (by decide)
    · exact fun c => z2 ⟨ck.trans c.1, by rw [cw c.1]; exact c.2⟩
  have y_feast : isW (trn (fi 0) n) n m t 439787549556 := by
    rcases gk_5_1 with ⟨z1, z2, z3⟩ | ⟨z1, z2⟩
    · exact ⟨ck.symm.trans z2, by rw [← cw (ck.symm.trans z2)]; exact z3⟩
    · exact absurd (z1.symm.trans tb_4) (by decide)
  have n_soul : ¬ isW (trn (fi 0) n) n m t 1936684396 := fun c => absurd (c.2.symm.trans y_feast.2) (by decide)
  have e9 : LN (trn (fi 0) n) n m (ownB (fl 0)) H N O t = lnOf (trn (fi 0) n) n m (ownB (fl 0)) 9 20 1 9 H N O (sX (trn (fi 0) n) n m t) := by unfold LN; rw [if_neg n_name, if_neg n_soul, if_neg n_debt, if_pos y_feast]
  rw [e9]
  have hc1 := CC_nx hc gk_6_3
  refine LO_weak (LO_r (gk_7_5 n m _ hc1 H N O 9 20 hN he (by omega)) (by omega)) (fun t9 H9 N9 O9 g9 => ?_)
  obtain ⟨u1, k9, x9, u2, u3, u4, u5, u6, u7⟩ := g9
  subst u3 u4 u5
  exact ⟨u1, RC_ev hR u2 u6 u7⟩
set_option maxHeartbeats 4000000 in
theorem PL_X8_readLine_5 {fi : Nat → Nat → Int32} {fl : Nat → Nat → Int64} {vi : Nat → Int32} {vl : Nat → Int64} {r : Int32} {fj : Nat → Nat → Int32} {fm : Nat → Nat → Int64} {vj : Nat → Int32} {vm : Nat → Int64} : RL_X8_readLine_5 fi fl vi vl r fj fm vj vm (PS_X8_readLine fi fl vi vl r fj fm vj vm) := by
  unfold RL_X8_readLine_5
  intro hp5 hp6 fik flk vik vlk rk gk_1 tb gk_0 fik_2 flk_2 vik_2 vlk_2 rk_2 gk_2_1 tb_2 gk_2_0 fik_5 flk_5 vik_5 vlk_5 rk_5 gk_5_1 tb_4 gk_5_0 fik_6 flk_6 vik_6 vlk_6 rk_6 gk_6_0 gk_6_3 fik_7 flk_7 vik_7 vlk_7 rk_7 gk_7_5 tb_5 gk_7_0 q0 q1 q2 q3 q4 q5 q6 q7 q8 q9 q10 q11 q12 q13 q14 q15 q16 q17 q18 q19 q20 q21; subst q0
  unfold PS_X8_readLine
  intro n m t hc H N O hR
  (try simp only [q1, q2, q3, q4, q5, q6, q7, q8, q9, q10, q11, q12, q13, q14, q15, q16, q17, q18, q19, q20, q21]); have k9_0 : (0 : Int32).toInt = 0 := (by decide); have k9_1 : (1 : Int32).toInt = 1 := (by decide)
  have hc0 := hc
  obtain ⟨hn, hm, ht, ck, cp, ce, cw, cu, cg⟩ := hc0
  obtain ⟨hW, hd, he, hf, hi, ho, hv, hz⟩ := id hR
  have hN := RW_hn hW; have hS := RW_hs hW; have hW9 := hW.1
  have n_name : ¬ isW (trn (fi 0) n) n m t 1851878757 := by
    rcases gk_1 with ⟨z1, z2, z3⟩ | ⟨z1, z2⟩
    · exact absurd (z1.symm.trans tb) (by decide)
    · exact fun c => z2 ⟨ck.trans c.1, by rw [cw c.1]; exact c.2⟩
  have n_debt : ¬ isW (trn (fi 0) n) n m t 1684365940 := by
    rcases gk_2_1 with ⟨z1, z2, z3⟩ | ⟨z1, z2⟩
    · exact absurd (z1.symm.trans tb_2) (by decide)
    · exact fun c => z2 ⟨ck.trans c.1, by rw [cw c.1]; exact c.2⟩
  have y_feast : isW (trn (fi 0) n) n m t 439787549556 := by
    rcases gk_5_1 with ⟨z1, z2, z3⟩ | ⟨z1, z2⟩
    · exact ⟨ck.symm.trans z2, by rw [← cw (ck.symm.trans z2)]; exact z3⟩
    · exact absurd (z1.symm.trans tb_4) (by decide)
  have n_soul : ¬ isW (trn (fi 0) n) n m t 1936684396 := fun c => absurd (c.2.symm.trans y_feast.2) (by decide)
  have e9 : LN (trn (fi 0) n) n m (ownB (fl 0)) H N O t = lnOf (trn (fi 0) n) n m (ownB (fl 0)) 9 20 1 9 H N O (sX (trn (fi 0) n) n m t) := by unfold LN; rw [if_neg n_name, if_neg n_soul, if_neg n_debt, if_pos y_feast]
  rw [e9]
  have hc1 := CC_nx hc gk_6_3
  refine LO_weak (LO_r (gk_7_5 n m _ hc1 H N O 9 20 hN he (by omega)) (by omega)) (fun t9 H9 N9 O9 g9 => ?_)
  obtain ⟨u1, k9, x9, u2, u3, u4, u5, u6, u7⟩ := g9
  subst u3 u4 u5
  exact ⟨u1, RC_ev hR u2 u6 u7⟩
set_option maxHeartbeats 4000000 in
theorem PL_X8_readLine_6 {fi : Nat → Nat → Int32} {fl : Nat → Nat → Int64} {vi : Nat → Int32} {vl : Nat → Int64} {r : Int32} {fj : Nat → Nat → Int32} {fm : Nat → Nat → Int64} {vj : Nat → Int32} {vm : Nat → Int64} : RL_X8_readLine_6 fi fl vi vl r fj fm vj vm (PS_X8_readLine fi fl vi vl r fj fm vj vm) := by
  unfold RL_X8_readLine_6
  intro hp5 hp6 fik flk vik vlk rk gk_1 tb gk_0 fik_2 flk_2 vik_2 vlk_2 rk_2 gk_2_1 tb_2 gk_2_0 fik_5 flk_5 vik_5 vlk_5 rk_5 gk_5_1 tb_4 gk_5_0 fik_8 flk_8 vik_8 vlk_8 rk_8 gk_8_1 tb_6 gk_8_0 fik_9 flk_9 vik_9 vlk_9 rk_9 gk_9_6 tb_7 gk_9_0 q0 q1 q2 q3 q4 q5 q6 q7 q8 q9 q10 q11 q12 q13 q14 q15 q16 q17 q18 q19 q20 q21; subst q0
  unfold PS_X8_readLine
  intro n m t hc H N O hR
  (try simp only [q1, q2, q3, q4, q5, q6, q7, q8, q9, q10, q11, q12, q13, q14, q15, q16, q17, q18, q19, q20, q21]); have k9_0 : (0 : Int32).toInt = 0 := (by decide); have k9_1 : (1 : Int32).toInt = 1 := (by decide)
  have hc0 := hc
  obtain ⟨hn, hm, ht, ck, cp, ce, cw, cu, cg⟩ := hc0
  obtain ⟨hW, hd, he, hf, hi, ho, hv, hz⟩ := id hR
  have hN := RW_hn hW; have hS := RW_hs hW; have hW9 := hW.1
  have n_name : ¬ isW (trn (fi 0) n) n m t 1851878757 := by
    rcases gk_1 with ⟨z1, z2, z3⟩ | ⟨z1, z2⟩
    · exact absurd (z1.symm.trans tb) (by decide)
    · exact fun c => z2 ⟨ck.trans c.1, by rw [cw c.1]; exact c.2⟩
  have y_soul : isW (trn (fi 0) n) n m t 1936684396 := by
    rcases gk_8_1 with ⟨z1, z2, z3⟩ | ⟨z1, z2⟩
    · exact ⟨ck.symm.trans z2, by rw [← cw (ck.symm.trans z2)]; exact z3⟩
    · exact absurd (z1.symm.trans tb_6) (by decide)
  have n_debt : ¬ isW (trn (fi 0) n) n m t 1684365940 := by
    rcases gk_2_1 with ⟨z1, z2, z3⟩ | ⟨z1, z2⟩
    · exact absurd (z1.symm.trans tb_2) (by decide)
    · exact fun c => z2 ⟨ck.trans c.1, by rw [cw c.1]; exact c.2⟩
  have n_feast : ¬ isW (trn (fi 0) n) n m t 439787549556 := by
    rcases gk_5_1 with ⟨z1, z2, z3⟩ | ⟨z1, z2⟩
    · exact absurd (z1.symm.trans tb_4) (by decide)
    · exact fun c => z2 ⟨ck.trans c.1, by rw [cw c.1]; exact c.2⟩
  have e9 : LN (trn (fi 0) n) n m (ownB (fl 0)) H N O t = lnSoul (trn (fi 0) n) n m (ownB (fl 0)) H N O t := by unfold LN; rw [if_neg n_name, if_pos y_soul]
  rw [e9]
  refine LO_weak (LO_r (gk_9_6 n m t hc H N O hN hS hf) (by omega)) (fun t9 H9 N9 O9 g9 => ?_)
  obtain ⟨u1, w9, u2, u3, u4, u5, u6, u7, u8, u9, u10, u11, u12, u13, u14⟩ := g9
  subst u4 u5
  exact ⟨u1, RC_soul hR u3 u2 u10 u11 u12 u14 u13 u8 u9 u6 u7⟩
set_option maxHeartbeats 4000000 in
theorem PL_X8_readLine_7 {fi : Nat → Nat → Int32} {fl : Nat → Nat → Int64} {vi : Nat → Int32} {vl : Nat → Int64} {r : Int32} {fj : Nat → Nat → Int32} {fm : Nat → Nat → Int64} {vj : Nat → Int32} {vm : Nat → Int64} : RL_X8_readLine_7 fi fl vi vl r fj fm vj vm (PS_X8_readLine fi fl vi vl r fj fm vj vm) := by
  unfold RL_X8_readLine_7
  intro hp5 hp6 fik flk vik vlk rk gk_1 tb gk_0 fik_2 flk_2 vik_2 vlk_2 rk_2 gk_2_1 tb_2 gk_2_0 fik_5 flk_5 vik_5 vlk_5 rk_5 gk_5_1 tb_4 gk_5_0 fik_8 flk_8 vik_8 vlk_8 rk_8 gk_8_1 tb_6 gk_8_0 fik_9 flk_9 vik_9 vlk_9 rk_9 gk_9_6 tb_7 gk_9_0 q0 q1 q2 q3 q4 q5 q6 q7 q8 q9 q10 q11 q12 q13 q14 q15 q16 q17 q18 q19 q20 q21; subst q0
  unfold PS_X8_readLine
  intro n m t hc H N O hR
  (try simp only [q1, q2, q3, q4, q5, q6, q7, q8, q9, q10, q11, q12, q13, q14, q15, q16, q17, q18, q19, q20, q21]); have k9_0 : (0 : Int32).toInt = 0 := (by decide); have k9_1 : (1 : Int32).toInt = 1 := (by decide)
  have hc0 := hc
  obtain ⟨hn, hm, ht, ck, cp, ce, cw, cu, cg⟩ := hc0
  obtain ⟨hW, hd, he, hf, hi, ho, hv, hz⟩ := id hR
  have hN := RW_hn hW; have hS := RW_hs hW; have hW9 := hW.1
  have n_name : ¬ isW (trn (fi 0) n) n m t 1851878757 := by
    rcases gk_1 with ⟨z1, z2, z3⟩ | ⟨z1, z2⟩
    · exact absurd (z1.symm.trans tb) (by decide)
    · exact fun c => z2 ⟨ck.trans c.1, by rw [cw c.1]; exact c.2⟩
  have y_soul : isW (trn (fi 0) n) n m t 1936684396 := by
    rcases gk_8_1 with ⟨z1, z2, z3⟩ | ⟨z1, z2⟩
    · exact ⟨ck.symm.trans z2, by rw [← cw (ck.symm.trans z2)]; exact z3⟩
    · exact absurd (z1.symm.trans tb_6) (by decide)
  have n_debt : ¬ isW (trn (fi 0) n) n m t 1684365940 := by
    rcases gk_2_1 with ⟨z1, z2, z3⟩ | ⟨z1, z2⟩
    · exact absurd (z1.symm.trans tb_2) (by decide)
    · exact fun c => z2 ⟨ck.trans c.1, by rw [cw c.1]; exact c.2⟩
  have n_feast : ¬ isW (trn (fi 0) n) n m t 439787549556 := by
    rcases gk_5_1 with ⟨z1, z2, z3⟩ | ⟨z1, z2⟩
    · exact absurd (z1.symm.trans tb_4) (by decide)
    · exact fun c => z2 ⟨ck.trans c.1, by rw [cw c.1]; exact c.2⟩
  have e9 : LN (trn (fi 0) n) n m (ownB (fl 0)) H N O t = lnSoul (trn (fi 0) n) n m (ownB (fl 0)) H N O t := by unfold LN; rw [if_neg n_name, if_pos y_soul]
  rw [e9]
  refine LO_weak (LO_r (gk_9_6 n m t hc H N O hN hS hf) (by omega)) (fun t9 H9 N9 O9 g9 => ?_)
  obtain ⟨u1, w9, u2, u3, u4, u5, u6, u7, u8, u9, u10, u11, u12, u13, u14⟩ := g9
  subst u4 u5
  exact ⟨u1, RC_soul hR u3 u2 u10 u11 u12 u14 u13 u8 u9 u6 u7⟩
