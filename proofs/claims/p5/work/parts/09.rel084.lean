set_option maxHeartbeats 4000000 in
theorem PL_X8_readLine_8 {fi : Nat → Nat → Int32} {fl : Nat → Nat → Int64} {vi : Nat → Int32} {vl : Nat → Int64} {r : Int32} {fj : Nat → Nat → Int32} {fm : Nat → Nat → Int64} {vj : Nat → Int32} {vm : Nat → Int64} : RL_X8_readLine_8 fi fl vi vl r fj fm vj vm (PS_X8_readLine fi fl vi vl r fj fm vj vm) := by
  unfold RL_X8_readLine_8
  intro hp5 hp6 fik flk vik vlk rk gk_1 tb gk_0 fik_2 flk_2 vik_2 vlk_2 rk_2 gk_2_1 tb_2 gk_2_0 fik_5 flk_5 vik_5 vlk_5 rk_5 gk_5_1 tb_4 gk_5_0 fik_8 flk_8 vik_8 vlk_8 rk_8 gk_8_1 tb_6 gk_8_0 fik_10 flk_10 vik_10 vlk_10 rk_10 gk_10_1 tb_8 gk_10_0 fik_11 flk_11 vik_11 vlk_11 rk_11 gk_11_0 gk_11_3 fik_12 flk_12 vik_12 vlk_12 rk_12 gk_12_5 tb_9 gk_12_0 q0 q1 q2 q3 q4 q5 q6 q7 q8 q9 q10 q11 q12 q13 q14 q15 q16 q17 q18 q19 q20 q21; subst q0
  unfold PS_X8_readLine
  intro n m t hc H N O hR
  (try simp only [q1, q2, q3, q4, q5, q6, q7, q8, q9, q10, q11, q12, q13, q14, q15, q16, q17, q18, q19, q20, q21]); have k9_0 : (0 : Int32).toInt = 0 := (by decide); have k9_1 : (1 : Int32).toInt = 1 := (by decide)
  have hc0 := hc
  obtain ⟨hn, hm, ht, ck, cp, ce, cw, cu, cg⟩ := hc0
  obtain ⟨hW, hd, he, hf, hi, ho, hv, hz⟩ := id hR
  have hN := RW_hn hW; have hS := RW_hs hW; have hW9 := hW.1
  have n_name : ¬ isW (trn (fi 0) n) n m t 1851878757 := by
    rcases gk_1 with ⟨z1, z2, z3⟩ | ⟨z1, z2⟩
    · exact absurd (z1.symm.trans tb) (by decide)
    · exact fun c => z2 ⟨ck.trans c.1, by rw [cw c.1]; exact c.2⟩
  have n_soul : ¬ isW (trn (fi 0) n) n m t 1936684396 := by
    rcases gk_8_1 with ⟨z1, z2, z3⟩ | ⟨z1, z2⟩
    · exact absurd (z1.symm.trans tb_6) (by decide)
    · exact fun c => z2 ⟨ck.trans c.1, by rw [cw c.1]; exact c.2⟩
  have n_debt : ¬ isW (trn (fi 0) n) n m t 1684365940 := by
    rcases gk_2_1 with ⟨z1, z2, z3⟩ | ⟨z1, z2⟩
    · exact absurd (z1.symm.trans tb_2) (by decide)
    · exact fun c => z2 ⟨ck.trans c.1, by rw [cw c.1]; exact c.2⟩
  have n_feast : ¬ isW (trn (fi 0) n) n m t 439787549556 := by
    rcases gk_5_1 with ⟨z1, z2, z3⟩ | ⟨z1, z2⟩
    · exact absurd (z1.symm.trans tb_4) (by decide)
    · exact fun c => z2 ⟨ck.trans c.1, by rw [cw c.1]; exact c.2⟩
  have y_wish : isW (trn (fi 0) n) n m t 2003399528 := by
    rcases gk_10_1 with ⟨z1, z2, z3⟩ | ⟨z1, z2⟩
    · exact ⟨ck.symm.trans z2, by rw [← cw (ck.symm.trans z2)]; exact z3⟩
    · exact absurd (z1.symm.trans tb_8) (by decide)
  have e9 : LN (trn (fi 0) n) n m (ownB (fl 0)) H N O t = lnWish (trn (fi 0) n) n m (ownB (fl 0)) H N O (sX (trn (fi 0) n) n m t) := by unfold LN; rw [if_neg n_name, if_neg n_soul, if_neg n_debt, if_neg n_feast, if_pos y_wish]
  rw [e9]
  have hc1 := CC_nx hc gk_11_3
  refine LO_weak (LO_r (gk_12_5 n m _ hc1 H N O hN hS hi) (by omega)) (fun t9 H9 N9 O9 g9 => ?_)
  obtain ⟨u1, k9, x9, u2, u3, u4, u5, u6, u7, u8⟩ := g9
  subst u4 u5 u6
  exact ⟨u1, RC_wi hR u2 u7 u8 u3⟩
set_option maxHeartbeats 4000000 in
theorem PL_X8_readLine_9 {fi : Nat → Nat → Int32} {fl : Nat → Nat → Int64} {vi : Nat → Int32} {vl : Nat → Int64} {r : Int32} {fj : Nat → Nat → Int32} {fm : Nat → Nat → Int64} {vj : Nat → Int32} {vm : Nat → Int64} : RL_X8_readLine_9 fi fl vi vl r fj fm vj vm (PS_X8_readLine fi fl vi vl r fj fm vj vm) := by
  unfold RL_X8_readLine_9
  intro hp5 hp6 fik flk vik vlk rk gk_1 tb gk_0 fik_2 flk_2 vik_2 vlk_2 rk_2 gk_2_1 tb_2 gk_2_0 fik_5 flk_5 vik_5 vlk_5 rk_5 gk_5_1 tb_4 gk_5_0 fik_8 flk_8 vik_8 vlk_8 rk_8 gk_8_1 tb_6 gk_8_0 fik_10 flk_10 vik_10 vlk_10 rk_10 gk_10_1 tb_8 gk_10_0 fik_11 flk_11 vik_11 vlk_11 rk_11 gk_11_0 gk_11_3 fik_12 flk_12 vik_12 vlk_12 rk_12 gk_12_5 tb_9 gk_12_0 q0 q1 q2 q3 q4 q5 q6 q7 q8 q9 q10 q11 q12 q13 q14 q15 q16 q17 q18 q19 q20 q21; subst q0
  unfold PS_X8_readLine
  intro n m t hc H N O hR
  (try simp only [q1, q2, q3, q4, q5, q6, q7, q8, q9, q10, q11, q12, q13, q14, q15, q16, q17, q18, q19, q20, q21]); have k9_0 : (0 : Int32).toInt = 0 := (by decide); have k9_1 : (1 : Int32).toInt = 1 := (by decide)
  have hc0 := hc
  obtain ⟨hn, hm, ht, ck, cp, ce, cw, cu, cg⟩ := hc0
  obtain ⟨hW, hd, he, hf, hi, ho, hv, hz⟩ := id hR
  have hN := RW_hn hW; have hS := RW_hs hW; have hW9 := hW.1
  have n_name : ¬ isW (trn (fi 0) n) n m t 1851878757 := by
    rcases gk_1 with ⟨z1, z2, z3⟩ | ⟨z1, z2⟩
    · exact absurd (z1.symm.trans tb) (by decide)
    · exact fun c => z2 ⟨ck.trans c.1, by rw [cw c.1]; exact c.2⟩
  have n_soul : ¬ isW (trn (fi 0) n) n m t 1936684396 := by
    rcases gk_8_1 with ⟨z1, z2, z3⟩ | ⟨z1, z2⟩
    · exact absurd (z1.symm.trans tb_6) (by decide)
    · exact fun c => z2 ⟨ck.trans c.1, by rw [cw c.1]; exact c.2⟩
  have n_debt : ¬ isW (trn (fi 0) n) n m t 1684365940 := by
    rcases gk_2_1 with ⟨z1, z2, z3⟩ | ⟨z1, z2⟩
    · exact absurd (z1.symm.trans tb_2) (by decide)
    · exact fun c => z2 ⟨ck.trans c.1, by rw [cw c.1]; exact c.2⟩
  have n_feast : ¬ isW (trn (fi 0) n) n m t 439787549556 := by
    rcases gk_5_1 with ⟨z1, z2, z3⟩ | ⟨z1, z2⟩
    · exact absurd (z1.symm.trans tb_4) (by decide)
    · exact fun c => z2 ⟨ck.trans c.1, by rw [cw c.1]; exact c.2⟩
  have y_wish : isW (trn (fi 0) n) n m t 2003399528 := by
    rcases gk_10_1 with ⟨z1, z2, z3⟩ | ⟨z1, z2⟩
    · exact ⟨ck.symm.trans z2, by rw [← cw (ck.symm.trans z2)]; exact z3⟩
    · exact absurd (z1.symm.trans tb_8) (by decide)
  have e9 : LN (trn (fi 0) n) n m (ownB (fl 0)) H N O t = lnWish (trn (fi 0) n) n m (ownB (fl 0)) H N O (sX (trn (fi 0) n) n m t) := by unfold LN; rw [if_neg n_name, if_neg n_soul, if_neg n_debt, if_neg n_feast, if_pos y_wish]
  rw [e9]
  have hc1 := CC_nx hc gk_11_3
  refine LO_weak (LO_r (gk_12_5 n m _ hc1 H N O hN hS hi) (by omega)) (fun t9 H9 N9 O9 g9 => ?_)
  obtain ⟨u1, k9, x9, u2, u3, u4, u5, u6, u7, u8⟩ := g9
  subst u4 u5 u6
  exact ⟨u1, RC_wi hR u2 u7 u8 u3⟩
set_option maxHeartbeats 4000000 in
theorem PL_X8_readLine_10 {fi : Nat → Nat → Int32} {fl : Nat → Nat → Int64} {vi : Nat → Int32} {vl : Nat → Int64} {r : Int32} {fj : Nat → Nat → Int32} {fm : Nat → Nat → Int64} {vj : Nat → Int32} {vm : Nat → Int64} : RL_X8_readLine_10 fi fl vi vl r fj fm vj vm (PS_X8_readLine fi fl vi vl r fj fm vj vm) := by
  unfold RL_X8_readLine_10
  intro hp5 hp6 fik flk vik vlk rk gk_1 tb gk_0 fik_2 flk_2 vik_2 vlk_2 rk_2 gk_2_1 tb_2 gk_2_0 fik_5 flk_5 vik_5 vlk_5 rk_5 gk_5_1 tb_4 gk_5_0 fik_8 flk_8 vik_8 vlk_8 rk_8 gk_8_1 tb_6 gk_8_0 fik_10 flk_10 vik_10 vlk_10 rk_10 gk_10_1 tb_8 gk_10_0 fik_13 flk_13 vik_13 vlk_13 rk_13 gk_13_1 tb_10 gk_13_0 fik_14 flk_14 vik_14 vlk_14 rk_14 gk_14_0 gk_14_3 fik_15 flk_15 vik_15 vlk_15 rk_15 gk_15_5 tb_11 gk_15_0 q0 q1 q2 q3 q4 q5 q6 q7 q8 q9 q10 q11 q12 q13 q14 q15 q16 q17 q18 q19 q20 q21; subst q0
  unfold PS_X8_readLine
  intro n m t hc H N O hR
  (try simp only [q1, q2, q3, q4, q5, q6, q7, q8, q9, q10, q11, q12, q13, q14, q15, q16, q17, q18, q19, q20, q21]); have k9_0 : (0 : Int32).toInt = 0 := (by decide); have k9_1 : (1 : Int32).toInt = 1 := (by decide)
  have hc0 := hc
  obtain ⟨hn, hm, ht, ck, cp, ce, cw, cu, cg⟩ := hc0
  obtain ⟨hW, hd, he, hf, hi, ho, hv, hz⟩ := id hR
  have hN := RW_hn hW; have hS := RW_hs hW; have hW9 := hW.1
  have n_name : ¬ isW (trn (fi 0) n) n m t 1851878757 := by
    rcases gk_1 with ⟨z1, z2, z3⟩ | ⟨z1, z2⟩
    · exact absurd (z1.symm.trans tb) (by decide)
    · exact fun c => z2 ⟨ck.trans c.1, by rw [cw c.1]; exact c.2⟩
  have n_soul : ¬ isW (trn (fi 0) n) n m t 1936684396 := by
    rcases gk_8_1 with ⟨z1, z2, z3⟩ | ⟨z1, z2⟩
    · exact absurd (z1.symm.trans tb_6) (by decide)
    · exact fun c => z2 ⟨ck.trans c.1, by rw [cw c.1]; exact c.2⟩
  have n_debt : ¬ isW (trn (fi 0) n) n m t 1684365940 := by
    rcases gk_2_1 with ⟨z1, z2, z3⟩ | ⟨z1, z2⟩
    · exact absurd (z1.symm.trans tb_2) (by decide)
    · exact fun c => z2 ⟨ck.trans c.1, by rw [cw c.1]; exact c.2⟩
  have n_feast : ¬ isW (trn (fi 0) n) n m t 439787549556 := by
    rcases gk_5_1 with ⟨z1, z2, z3⟩ | ⟨z1, z2⟩
    · exact absurd (z1.symm.trans tb_4) (by decide)
    · exact fun c => z2 ⟨ck.trans c.1, by rw [cw c.1]; exact c.2⟩
  have n_wish : ¬ isW (trn (fi 0) n) n m t 2003399528 := by
    rcases gk_10_1 with ⟨z1, z2, z3⟩ | ⟨z1, z2⟩
    · exact absurd (z1.symm.trans tb_8) (by decide)
    · exact fun c => z2 ⟨ck.trans c.1, by rw [cw c.1]; exact c.2⟩
  have y_worth : isW (trn (fi 0) n) n m t 512970880104 := by
    rcases gk_13_1 with ⟨z1, z2, z3⟩ | ⟨z1, z2⟩
    · exact ⟨ck.symm.trans z2, by rw [← cw (ck.symm.trans z2)]; exact z3⟩
    · exact absurd (z1.symm.trans tb_10) (by decide)
  have e9 : LN (trn (fi 0) n) n m (ownB (fl 0)) H N O t = lnWorth (trn (fi 0) n) n m (ownB (fl 0)) H N O (sX (trn (fi 0) n) n m t) := by unfold LN; rw [if_neg n_name, if_neg n_soul, if_neg n_debt, if_neg n_feast, if_neg n_wish, if_pos y_worth]
  rw [e9]
  have hc1 := CC_nx hc gk_14_3
  refine LO_weak (LO_r (gk_15_5 n m _ hc1 H N O hN hS hv) (by omega)) (fun t9 H9 N9 O9 g9 => ?_)
  obtain ⟨u1, k9, i9, x9, u2, u3, u4, u5, u6, u7, u8, u9⟩ := g9
  subst u5 u6 u7
  exact ⟨u1, RC_wr hR u2 u3 u8 u9 u4⟩
set_option maxHeartbeats 4000000 in
theorem PL_X8_readLine_11 {fi : Nat → Nat → Int32} {fl : Nat → Nat → Int64} {vi : Nat → Int32} {vl : Nat → Int64} {r : Int32} {fj : Nat → Nat → Int32} {fm : Nat → Nat → Int64} {vj : Nat → Int32} {vm : Nat → Int64} : RL_X8_readLine_11 fi fl vi vl r fj fm vj vm (PS_X8_readLine fi fl vi vl r fj fm vj vm) := by
  unfold RL_X8_readLine_11
  intro hp5 hp6 fik flk vik vlk rk gk_1 tb gk_0 fik_2 flk_2 vik_2 vlk_2 rk_2 gk_2_1 tb_2 gk_2_0 fik_5 flk_5 vik_5 vlk_5 rk_5 gk_5_1 tb_4 gk_5_0 fik_8 flk_8 vik_8 vlk_8 rk_8 gk_8_1 tb_6 gk_8_0 fik_10 flk_10 vik_10 vlk_10 rk_10 gk_10_1 tb_8 gk_10_0 fik_13 flk_13 vik_13 vlk_13 rk_13 gk_13_1 tb_10 gk_13_0 fik_14 flk_14 vik_14 vlk_14 rk_14 gk_14_0 gk_14_3 fik_15 flk_15 vik_15 vlk_15 rk_15 gk_15_5 tb_11 gk_15_0 q0 q1 q2 q3 q4 q5 q6 q7 q8 q9 q10 q11 q12 q13 q14 q15 q16 q17 q18 q19 q20 q21; subst q0
  unfold PS_X8_readLine
  intro n m t hc H N O hR
  (try simp only [q1, q2, q3, q4, q5, q6, q7, q8, q9, q10, q11, q12, q13, q14, q15, q16, q17, q18, q19, q20, q21]); have k9_0 : (0 : Int32).toInt = 0 := (by decide); have k9_1 : (1 : Int32).toInt = 1 := (by decide)
  have hc0 := hc
  obtain ⟨hn, hm, ht, ck, cp, ce, cw, cu, cg⟩ := hc0
  obtain ⟨hW, hd, he, hf, hi, ho, hv, hz⟩ := id hR
  have hN := RW_hn hW; have hS := RW_hs hW; have hW9 := hW.1
  have n_name : ¬ isW (trn (fi 0) n) n m t 1851878757 := by
    rcases gk_1 with ⟨z1, z2, z3⟩ | ⟨z1, z2⟩
    · exact absurd (z1.symm.trans tb) (by decide)
    · exact fun c => z2 ⟨ck.trans c.1, by rw [cw c.1]; exact c.2⟩
  have n_soul : ¬ isW (trn (fi 0) n) n m t 1936684396 := by
    rcases gk_8_1 with ⟨z1, z2, z3⟩ | ⟨z1, z2⟩
    · exact absurd (z1.symm.trans tb_6) (by decide)
    · exact fun c => z2 ⟨ck.trans c.1, by rw [cw c.1]; exact c.2⟩
  have n_debt : ¬ isW (trn (fi 0) n) n m t 1684365940 := by
    rcases gk_2_1 with ⟨z1, z2, z3⟩ | ⟨z1, z2⟩
    · exact absurd (z1.symm.trans tb_2) (by decide)
    · exact fun c => z2 ⟨ck.trans c.1, by rw [cw c.1]; exact c.2⟩
  have n_feast : ¬ isW (trn (fi 0) n) n m t 439787549556 := by
    rcases gk_5_1 with ⟨z1, z2, z3⟩ | ⟨z1, z2⟩
    · exact absurd (z1.symm.trans tb_4) (by decide)
    · exact fun c => z2 ⟨ck.trans c.1, by rw [cw c.1]; exact c.2⟩
  have n_wish : ¬ isW (trn (fi 0) n) n m t 2003399528 := by
    rcases gk_10_1 with ⟨z1, z2, z3⟩ | ⟨z1, z2⟩
    · exact absurd (z1.symm.trans tb_8) (by decide)
    · exact fun c => z2 ⟨ck.trans c.1, by rw [cw c.1]; exact c.2⟩
  have y_worth : isW (trn (fi 0) n) n m t 512970880104 := by
    rcases gk_13_1 with ⟨z1, z2, z3⟩ | ⟨z1, z2⟩
    · exact ⟨ck.symm.trans z2, by rw [← cw (ck.symm.trans z2)]; exact z3⟩
    · exact absurd (z1.symm.trans tb_10) (by decide)
  have e9 : LN (trn (fi 0) n) n m (ownB (fl 0)) H N O t = lnWorth (trn (fi 0) n) n m (ownB (fl 0)) H N O (sX (trn (fi 0) n) n m t) := by unfold LN; rw [if_neg n_name, if_neg n_soul, if_neg n_debt, if_neg n_feast, if_neg n_wish, if_pos y_worth]
  rw [e9]
  have hc1 := CC_nx hc gk_14_3
  refine LO_weak (LO_r (gk_15_5 n m _ hc1 H N O hN hS hv) (by omega)) (fun t9 H9 N9 O9 g9 => ?_)
  obtain ⟨u1, k9, i9, x9, u2, u3, u4, u5, u6, u7, u8, u9⟩ := g9
  subst u5 u6 u7
  exact ⟨u1, RC_wr hR u2 u3 u8 u9 u4⟩
set_option maxHeartbeats 4000000 in
theorem PL_X8_readLine_12 {fi : Nat → Nat → Int32} {fl : Nat → Nat → Int64} {vi : Nat → Int32} {vl : Nat → Int64} {r : Int32} {fj : Nat → Nat → Int32} {fm : Nat → Nat → Int64} {vj : Nat → Int32} {vm : Nat → Int64} : RL_X8_readLine_12 fi fl vi vl r fj fm vj vm (PS_X8_readLine fi fl vi vl r fj fm vj vm) := by
  unfold RL_X8_readLine_12
  intro hp5 hp6 fik flk vik vlk rk gk_1 tb gk_0 fik_2 flk_2 vik_2 vlk_2 rk_2 gk_2_1 tb_2 gk_2_0 fik_5 flk_5 vik_5 vlk_5 rk_5 gk_5_1 tb_4 gk_5_0 fik_8 flk_8 vik_8 vlk_8 rk_8 gk_8_1 tb_6 gk_8_0 fik_10 flk_10 vik_10 vlk_10 rk_10 gk_10_1 tb_8 gk_10_0 fik_13 flk_13 vik_13 vlk_13 rk_13 gk_13_1 tb_10 gk_13_0 fik_16 flk_16 vik_16 vlk_16 rk_16 gk_16_1 tb_12 gk_16_0 fik_17 flk_17 vik_17 vlk_17 rk_17 gk_17_0 gk_17_3 fik_18 flk_18 vik_18 vlk_18 rk_18 gk_18_5 tb_13 gk_18_0 q0 q1 q2 q3 q4 q5 q6 q7 q8 q9 q10 q11 q12 q13 q14 q15 q16 q17 q18 q19 q20 q21; subst q0
  unfold PS_X8_readLine
  intro n m t hc H N O hR
  (try simp only [q1, q2, q3, q4, q5, q6, q7, q8, q9, q10, q11, q12, q13, q14, q15, q16, q17, q18, q19, q20, q21]); have k9_0 : (0 : Int32).toInt = 0 := (by decide); have k9_1 : (1 : Int32).toInt = 1 := (by decide)
  have hc0 := hc
  obtain ⟨hn, hm, ht, ck, cp, ce, cw, cu, cg⟩ := hc0
  obtain ⟨hW, hd, he, hf, hi, ho, hv, hz⟩ := id hR
  have hN := RW_hn hW; have hS := RW_hs hW; have hW9 := hW.1
  have n_name : ¬ isW (trn (fi 0) n) n m t 1851878757 := by
    rcases gk_1 with ⟨z1, z2, z3⟩ | ⟨z1, z2⟩
    · exact absurd (z1.symm.trans tb) (by decide)
    · exact fun c => z2 ⟨ck.trans c.1, by rw [cw c.1]; exact c.2⟩
  have n_soul : ¬ isW (trn (fi 0) n) n m t 1936684396 := by
    rcases gk_8_1 with ⟨z1, z2, z3⟩ | ⟨z1, z2⟩
    · exact absurd (z1.symm.trans tb_6) (by decide)
    · exact fun c => z2 ⟨ck.trans c.1, by rw [cw c.1]; exact c.2⟩
  have n_debt : ¬ isW (trn (fi 0) n) n m t 1684365940 := by
    rcases gk_2_1 with ⟨z1, z2, z3⟩ | ⟨z1, z2⟩
    · exact absurd (z1.symm.trans tb_2) (by decide)
    · exact fun c => z2 ⟨ck.trans c.1, by rw [cw c.1]; exact c.2⟩
  have n_feast : ¬ isW (trn (fi 0) n) n m t 439787549556 := by
    rcases gk_5_1 with ⟨z1, z2, z3⟩ | ⟨z1, z2⟩
    · exact absurd (z1.symm.trans tb_4) (by decide)
    · exact fun c => z2 ⟨ck.trans c.1, by rw [cw c.1]; exact c.2⟩
  have n_wish : ¬ isW (trn (fi 0) n) n m t 2003399528 := by
    rcases gk_10_1 with ⟨z1, z2, z3⟩ | ⟨z1, z2⟩
    · exact absurd (z1.symm.trans tb_8) (by decide)
    · exact fun c => z2 ⟨ck.trans c.1, by rw [cw c.1]; exact c.2⟩
  have n_worth : ¬ isW (trn (fi 0) n) n m t 512970880104 := by
    rcases gk_13_1 with ⟨z1, z2, z3⟩ | ⟨z1, z2⟩
    · exact absurd (z1.symm.trans tb_10) (by decide)
    · exact fun c => z2 ⟨ck.trans c.1, by rw [cw c.1]; exact c.2⟩
  have y_old : isW (trn (fi 0) n) n m t 7302244 := by
    rcases gk_16_1 with ⟨z1, z2, z3⟩ | ⟨z1, z2⟩
    · exact ⟨ck.symm.trans z2, by rw [← cw (ck.symm.trans z2)]; exact z3⟩
    · exact absurd (z1.symm.trans tb_12) (by decide)
  have e9 : LN (trn (fi 0) n) n m (ownB (fl 0)) H N O t = lnOld (trn (fi 0) n) n m (ownB (fl 0)) H N O (sX (trn (fi 0) n) n m t) := by unfold LN; rw [if_neg n_name, if_neg n_soul, if_neg n_debt, if_neg n_feast, if_neg n_wish, if_neg n_worth, if_pos y_old]
  rw [e9]
  have hc1 := CC_nx hc gk_17_3
  refine LO_weak (LO_r (gk_18_5 n m _ hc1 H N O hS ho) (by omega)) (fun t9 H9 N9 O9 g9 => ?_)
  obtain ⟨u1, k9, x9, u2, u3, u4, u5, u6, u7, u8⟩ := g9
  subst u4 u5 u6
  exact ⟨u1, RC_ol hR u2 u7 u8 u3⟩
set_option maxHeartbeats 4000000 in
theorem PL_X8_readLine_13 {fi : Nat → Nat → Int32} {fl : Nat → Nat → Int64} {vi : Nat → Int32} {vl : Nat → Int64} {r : Int32} {fj : Nat → Nat → Int32} {fm : Nat → Nat → Int64} {vj : Nat → Int32} {vm : Nat → Int64} : RL_X8_readLine_13 fi fl vi vl r fj fm vj vm (PS_X8_readLine fi fl vi vl r fj fm vj vm) := by
  unfold RL_X8_readLine_13
  intro hp5 hp6 fik flk vik vlk rk gk_1 tb gk_0 fik_2 flk_2 vik_2 vlk_2 rk_2 gk_2_1 tb_2 gk_2_0 fik_5 flk_5 vik_5 vlk_5 rk_5 gk_5_1 tb_4 gk_5_0 fik_8 flk_8 vik_8 vlk_8 rk_8 gk_8_1 tb_6 gk_8_0 fik_10 flk_10 vik_10 vlk_10 rk_10 gk_10_1 tb_8 gk_10_0 fik_13 flk_13 vik_13 vlk_13 rk_13 gk_13_1 tb_10 gk_13_0 fik_16 flk_16 vik_16 vlk_16 rk_16 gk_16_1 tb_12 gk_16_0 fik_17 flk_17 vik_17 vlk_17 rk_17 gk_17_0 gk_17_3 fik_18 flk_18 vik_18 vlk_18 rk_18 gk_18_5 tb_13 gk_18_0 q0 q1 q2 q3 q4 q5 q6 q7 q8 q9 q10 q11 q12 q13 q14 q15 q16 q17 q18 q19 q20 q21; subst q0
  unfold PS_X8_readLine
  intro n m t hc H N O hR
  (try simp only [q1, q2, q3, q4, q5, q6, q7, q8, q9, q10, q11, q12, q13, q14, q15, q16, q17, q18, q19, q20, q21]); have k9_0 : (0 : Int32).toInt = 0 := (by decide); have k9_1 : (1 : Int32).toInt = 1 := (by decide)
  have hc0 := hc
  obtain ⟨hn, hm, ht, ck, cp, ce, cw, cu, cg⟩ := hc0
  obtain ⟨hW, hd, he, hf, hi, ho, hv, hz⟩ := id hR
  have hN := RW_hn hW; have hS := RW_hs hW; have hW9 := hW.1
  have n_name : ¬ isW (trn (fi 0) n) n m t 1851878757 := by
    rcases gk_1 with ⟨z1, z2, z3⟩ | ⟨z1, z2⟩
    · exact absurd (z1.symm.trans tb) (by decide)
    · exact fun c => z2 ⟨ck.trans c.1, by rw [cw c.1]; exact c.2⟩
  have n_soul : ¬ isW (trn (fi 0) n) n m t 1936684396 := by
    rcases gk_8_1 with ⟨z1, z2, z3⟩ | ⟨z1, z2⟩
    · exact absurd (z1.symm.trans tb_6) (by decide)
    · exact fun c => z2 ⟨ck.trans c.1, by rw [cw c.1]; exact c.2⟩
  have n_debt : ¬ isW (trn (fi 0) n) n m t 1684365940 := by
    rcases gk_2_1 with ⟨z1, z2, z3⟩ | ⟨z1, z2⟩
    · exact absurd (z1.symm.trans tb_2) (by decide)
    · exact fun c => z2 ⟨ck.trans c.1, by rw [cw c.1]; exact c.2⟩
  have n_feast : ¬ isW (trn (fi 0) n) n m t 439787549556 := by
    rcases gk_5_1 with ⟨z1, z2, z3⟩ | ⟨z1, z2⟩
    · exact absurd (z1.symm.trans tb_4) (by decide)
    · exact fun c => z2 ⟨ck.trans c.1, by rw [cw c.1]; exact c.2⟩
  have n_wish : ¬ isW (trn (fi 0) n) n m t 2003399528 := by
    rcases gk_10_1 with ⟨z1, z2, z3⟩ | ⟨z1, z2⟩
    · exact absurd (z1.symm.trans tb_8) (by decide)
    · exact fun c => z2 ⟨ck.trans c.1, by rw [cw c.1]; exact c.2⟩
  have n_worth : ¬ isW (trn (fi 0) n) n m t 512970880104 := by
    rcases gk_13_1 with ⟨z1, z2, z3⟩ | ⟨z1, z2⟩
    · exact absurd (z1.symm.trans tb_10) (by decide)
    · exact fun c => z2 ⟨ck.trans c.1, by rw [cw c.1]; exact c.2⟩
  have y_old : isW (trn (fi 0) n) n m t 7302244 := by
    rcases gk_16_1 with ⟨z1, z2, z3⟩ | ⟨z1, z2⟩
    · exact ⟨ck.symm.trans z2, by rw [← cw (ck.symm.trans z2)]; exact z3⟩
    · exact absurd (z1.symm.trans tb_12) (by decide)
  have e9 : LN (trn (fi 0) n) n m (ownB (fl 0)) H N O t = lnOld (trn (fi 0) n) n m (ownB (fl 0)) H N O (sX (trn (fi 0) n) n m t) := by unfold LN; rw [if_neg n_name, if_neg n_soul, if_neg n_debt, if_neg n_feast, if_neg n_wish, if_neg n_worth, if_pos y_old]
  rw [e9]
  have hc1 := CC_nx hc gk_17_3
  refine LO_weak (LO_r (gk_18_5 n m _ hc1 H N O hS ho) (by omega)) (fun t9 H9 N9 O9 g9 => ?_)
  obtain ⟨u1, k9, x9, u2, u3, u4, u5, u6, u7, u8⟩ := g9
  subst u4 u5 u6
  exact ⟨u1, RC_ol hR u2 u7 u8 u3⟩
