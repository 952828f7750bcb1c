set_option maxHeartbeats 4000000 in
theorem PL_X12_line_8 {fi : Nat → Nat → Int32} {fl : Nat → Nat → Int64} {vi : Nat → Int32} {vl : Nat → Int64} {r : Int32} {fj : Nat → Nat → Int32} {fm : Nat → Nat → Int64} {vj : Nat → Int32} {vm : Nat → Int64} : RL_X12_line_8 fi fl vi vl r fj fm vj vm (PS_X12_line fi fl vi vl r fj fm vj vm) := by
  unfold RL_X12_line_8
  intro hp14 hp15 hp16 hp17 hp18 fik flk vik vlk rk gk_1 tb_1 gk_0 fik_5 flk_5 vik_5 vlk_5 rk_5 gk_5_1 tb_7 gk_5_0 fik_7 flk_7 vik_7 vlk_7 rk_7 gk_7_1 tb_11 gk_7_0 fik_8 flk_8 vik_8 vlk_8 uk_8 gk_8_5 fik_9 flk_9 vik_9 vlk_9 rk_9 gk_9_3 tb_13 gk_9_0 fik_10 flk_10 vik_10 vlk_10 rk_10 gk_10_1 tb_15 gk_10_0 z180 ez180 z181 ez181 fik_12 flk_12 vik_12 vlk_12 uk_12 gk_12_5 tt_3 fik_13 flk_13 vik_13 vlk_13 rk_13 gk_13_11 tb_17 gk_13_0 q0 q1 q2 q3 q4 q5 q6 q7 q8 q9 q10 q11 q12; subst q0
  unfold PS_X12_line
  intro n m t hc
  (try simp only [q1, q2, q3, q4, q5, q6, q7, q8, q9, q10, q11, q12]); have k9_0 : (0 : Int32).toInt = 0 := (by decide); have k9_1 : (1 : Int32).toInt = 1 := (by decide)
  have hc0 := hc
  obtain ⟨hn, hm, ht, ck, cp, ce, cw, cu, cg⟩ := hc0
  have hh0 := hp14 0 (by decide) (by decide)
  have hh1 := hp15 1 (by decide) (by decide)
  have n_name : ¬ isW (trn (fi 1) n) n m t 1851878757 := fun c => dj0 gk_1 tb_1 ⟨ck.trans c.1, by rw [cw c.1]; exact c.2⟩
  have n_soul : ¬ isW (trn (fi 1) n) n m t 1936684396 := fun c => dj0 gk_5_1 tb_7 ⟨ck.trans c.1, by rw [cw c.1]; exact c.2⟩
  have y_debt : isW (trn (fi 1) n) n m t 1684365940 := ⟨ck.symm.trans (dj1 gk_7_1 tb_11).1, by rw [← cw (ck.symm.trans (dj1 gk_7_1 tb_11).1)]; exact (dj1 gk_7_1 tb_11).2⟩
  have e9 : LN (trn (fi 1) n) n m (ownB (fl 0)) (gi (fi 0)) (fl 1) (ob (vi 13)) t = lnOf (trn (fi 1) n) n m (ownB (fl 0)) 0 11 0 99 (gi (fi 0)) (fl 1) (ob (vi 13)) (sX (trn (fi 1) n) n m t) := by unfold LN; rw [if_neg n_name, if_neg n_soul, if_pos y_debt]
  rw [e9]
  have hc1 := CC_nx hc gk_8_5
  obtain ⟨d2, d3, d4⟩ := or1 (gk_9_3 (trn (fi 1) n) n m _ hc1) tb_13
  replace d2 : fKn (trn (fi 1) n) n m (ownB (fl 0)) (fl 1) 18 (gi (fi 0) 0) (sX (trn (fi 1) n) n m t) = 0 := d2
  replace d4 : (vik_9 0).toInt = fdx (fl 1) 18 (sW (trn (fi 1) n) n m (sX (trn (fi 1) n) n m t)) (gi (fi 0) 0).toNat := d4
  have o1 := or0 (gk_10_1 (by omega) (by omega)) tb_15
  have hO9 : ¬ ob (vi 13) (0 + (fdx (fl 1) 18 (sW (trn (fi 1) n) n m (sX (trn (fi 1) n) n m t)) (gi (fi 0) 0).toNat).toNat) = true := by rw [show 0 + (fdx (fl 1) 18 (sW (trn (fi 1) n) n m (sX (trn (fi 1) n) n m t)) (gi (fi 0) 0).toNat).toNat = ((vik_9 0).toInt).toNat by omega, o1]; decide
  have hc2 := CC_nx hc1 gk_12_5
  obtain ⟨c2, c3, c4⟩ := or0 (gk_13_11 n m _ hc2) tb_17
  exact LO_bad (by unfold lnOf; rw [if_neg (fun c => c d2), if_neg hO9, if_pos c2]) (by decide) c3 c4
set_option maxHeartbeats 4000000 in
theorem PL_X12_line_9 {fi : Nat → Nat → Int32} {fl : Nat → Nat → Int64} {vi : Nat → Int32} {vl : Nat → Int64} {r : Int32} {fj : Nat → Nat → Int32} {fm : Nat → Nat → Int64} {vj : Nat → Int32} {vm : Nat → Int64} : RL_X12_line_9 fi fl vi vl r fj fm vj vm (PS_X12_line fi fl vi vl r fj fm vj vm) := by
  unfold RL_X12_line_9
  intro hp14 hp15 hp16 hp17 hp18 fik flk vik vlk rk gk_1 tb_1 gk_0 fik_5 flk_5 vik_5 vlk_5 rk_5 gk_5_1 tb_7 gk_5_0 fik_7 flk_7 vik_7 vlk_7 rk_7 gk_7_1 tb_11 gk_7_0 fik_8 flk_8 vik_8 vlk_8 uk_8 gk_8_5 fik_9 flk_9 vik_9 vlk_9 rk_9 gk_9_3 tb_13 gk_9_0 q0 q1 q2 q3 q4 q5 q6 q7 q8 q9 q10 q11 q12; subst q0
  unfold PS_X12_line
  intro n m t hc
  (try simp only [q1, q2, q3, q4, q5, q6, q7, q8, q9, q10, q11, q12]); have k9_0 : (0 : Int32).toInt = 0 := (by decide); have k9_1 : (1 : Int32).toInt = 1 := (by decide)
  have hc0 := hc
  obtain ⟨hn, hm, ht, ck, cp, ce, cw, cu, cg⟩ := hc0
  have hh0 := hp14 0 (by decide) (by decide)
  have hh1 := hp15 1 (by decide) (by decide)
  have n_name : ¬ isW (trn (fi 1) n) n m t 1851878757 := fun c => dj0 gk_1 tb_1 ⟨ck.trans c.1, by rw [cw c.1]; exact c.2⟩
  have n_soul : ¬ isW (trn (fi 1) n) n m t 1936684396 := fun c => dj0 gk_5_1 tb_7 ⟨ck.trans c.1, by rw [cw c.1]; exact c.2⟩
  have y_debt : isW (trn (fi 1) n) n m t 1684365940 := ⟨ck.symm.trans (dj1 gk_7_1 tb_11).1, by rw [← cw (ck.symm.trans (dj1 gk_7_1 tb_11).1)]; exact (dj1 gk_7_1 tb_11).2⟩
  have e9 : LN (trn (fi 1) n) n m (ownB (fl 0)) (gi (fi 0)) (fl 1) (ob (vi 13)) t = lnOf (trn (fi 1) n) n m (ownB (fl 0)) 0 11 0 99 (gi (fi 0)) (fl 1) (ob (vi 13)) (sX (trn (fi 1) n) n m t) := by unfold LN; rw [if_neg n_name, if_neg n_soul, if_pos y_debt]
  rw [e9]
  have hc1 := CC_nx hc gk_8_5
  obtain ⟨d2, d3, d4⟩ := or0 (gk_9_3 (trn (fi 1) n) n m _ hc1) tb_13
  replace d2 : ¬ fKn (trn (fi 1) n) n m (ownB (fl 0)) (fl 1) 18 (gi (fi 0) 0) (sX (trn (fi 1) n) n m t) = 0 := d2
  replace d3 : _ = fKn (trn (fi 1) n) n m (ownB (fl 0)) (fl 1) 18 (gi (fi 0) 0) (sX (trn (fi 1) n) n m t) := d3
  exact LO_bad (by unfold lnOf; rw [if_pos d2]) (by decide) d3 d4
set_option maxHeartbeats 4000000 in
theorem PL_X12_line_10 {fi : Nat → Nat → Int32} {fl : Nat → Nat → Int64} {vi : Nat → Int32} {vl : Nat → Int64} {r : Int32} {fj : Nat → Nat → Int32} {fm : Nat → Nat → Int64} {vj : Nat → Int32} {vm : Nat → Int64} : RL_X12_line_10 fi fl vi vl r fj fm vj vm (PS_X12_line fi fl vi vl r fj fm vj vm) := by
  unfold RL_X12_line_10
  intro hp14 hp15 hp16 hp17 hp18 fik flk vik vlk rk gk_1 tb_1 gk_0 fik_5 flk_5 vik_5 vlk_5 rk_5 gk_5_1 tb_7 gk_5_0 fik_7 flk_7 vik_7 vlk_7 rk_7 gk_7_1 tb_11 gk_7_0 fik_14 flk_14 vik_14 vlk_14 rk_14 gk_14_1 tb_19 gk_14_0 fik_15 flk_15 vik_15 vlk_15 uk_15 gk_15_5 fik_16 flk_16 vik_16 vlk_16 rk_16 gk_16_3 tb_21 gk_16_0 tt_4 fik_17 flk_17 vik_17 vlk_17 rk_17 gk_17_1 tb_23 gk_17_0 fik_18 flk_18 vik_18 vlk_18 rk_18 gk_18_0 gk_18_2 q0 q1 q2 q3 q4 q5 q6 q7 q8 q9 q10 q11 q12; subst q0
  unfold PS_X12_line
  intro n m t hc
  (try simp only [q1, q2, q3, q4, q5, q6, q7, q8, q9, q10, q11, q12]); have k9_0 : (0 : Int32).toInt = 0 := (by decide); have k9_1 : (1 : Int32).toInt = 1 := (by decide); have k9_2 : (3 : Int32).toInt = 3 := (by decide)
  have hc0 := hc
  obtain ⟨hn, hm, ht, ck, cp, ce, cw, cu, cg⟩ := hc0
  have hh0 := hp14 0 (by decide) (by decide)
  have hh1 := hp15 1 (by decide) (by decide)
  have n_name : ¬ isW (trn (fi 1) n) n m t 1851878757 := fun c => dj0 gk_1 tb_1 ⟨ck.trans c.1, by rw [cw c.1]; exact c.2⟩
  have n_soul : ¬ isW (trn (fi 1) n) n m t 1936684396 := fun c => dj0 gk_5_1 tb_7 ⟨ck.trans c.1, by rw [cw c.1]; exact c.2⟩
  have n_debt : ¬ isW (trn (fi 1) n) n m t 1684365940 := fun c => dj0 gk_7_1 tb_11 ⟨ck.trans c.1, by rw [cw c.1]; exact c.2⟩
  have y_feast : isW (trn (fi 1) n) n m t 439787549556 := ⟨ck.symm.trans (dj1 gk_14_1 tb_19).1, by rw [← cw (ck.symm.trans (dj1 gk_14_1 tb_19).1)]; exact (dj1 gk_14_1 tb_19).2⟩
  have e9 : LN (trn (fi 1) n) n m (ownB (fl 0)) (gi (fi 0)) (fl 1) (ob (vi 13)) t = lnOf (trn (fi 1) n) n m (ownB (fl 0)) 9 20 1 9 (gi (fi 0)) (fl 1) (ob (vi 13)) (sX (trn (fi 1) n) n m t) := by unfold LN; rw [if_neg n_name, if_neg n_soul, if_neg n_debt, if_pos y_feast]
  rw [e9]
  have hc1 := CC_nx hc gk_15_5
  obtain ⟨d2, d3, d4⟩ := or1 (gk_16_3 (trn (fi 1) n) n m _ hc1) tb_21
  replace d2 : fKn (trn (fi 1) n) n m (ownB (fl 0)) (fl 1) 18 (gi (fi 0) 0) (sX (trn (fi 1) n) n m t) = 0 := d2
  replace d4 : (vik_16 0).toInt = fdx (fl 1) 18 (sW (trn (fi 1) n) n m (sX (trn (fi 1) n) n m t)) (gi (fi 0) 0).toNat := d4
  have o1 := or1 (gk_17_1 (by omega) (by omega)) tb_23
  have hO9 : ob (vi 13) (9 + (fdx (fl 1) 18 (sW (trn (fi 1) n) n m (sX (trn (fi 1) n) n m t)) (gi (fi 0) 0).toNat).toNat) = true := by rw [show 9 + (fdx (fl 1) 18 (sW (trn (fi 1) n) n m (sX (trn (fi 1) n) n m t)) (gi (fi 0) 0).toNat).toNat = ((9 + (vik_16 0)).toInt).toNat by omega]; exact o1
  have hp9 := hc1.2.2.2.2.1
  exact LO_bad (by unfold lnOf; rw [if_neg (fun c => c d2), if_pos hO9]) (by decide) (by omega) (by omega)
set_option maxHeartbeats 4000000 in
theorem PL_X12_line_11 {fi : Nat → Nat → Int32} {fl : Nat → Nat → Int64} {vi : Nat → Int32} {vl : Nat → Int64} {r : Int32} {fj : Nat → Nat → Int32} {fm : Nat → Nat → Int64} {vj : Nat → Int32} {vm : Nat → Int64} : RL_X12_line_11 fi fl vi vl r fj fm vj vm (PS_X12_line fi fl vi vl r fj fm vj vm) := by
  unfold RL_X12_line_11
  intro hp14 hp15 hp16 hp17 hp18 fik flk vik vlk rk gk_1 tb_1 gk_0 fik_5 flk_5 vik_5 vlk_5 rk_5 gk_5_1 tb_7 gk_5_0 fik_7 flk_7 vik_7 vlk_7 rk_7 gk_7_1 tb_11 gk_7_0 fik_14 flk_14 vik_14 vlk_14 rk_14 gk_14_1 tb_19 gk_14_0 fik_15 flk_15 vik_15 vlk_15 uk_15 gk_15_5 fik_16 flk_16 vik_16 vlk_16 rk_16 gk_16_3 tb_21 gk_16_0 tt_4 fik_17 flk_17 vik_17 vlk_17 rk_17 gk_17_1 tb_23 gk_17_0 z180_1 ez180_1 z181_1 ez181_1 fik_19 flk_19 vik_19 vlk_19 uk_19 gk_19_5 tt_5 fik_20 flk_20 vik_20 vlk_20 rk_20 gk_20_11 tb_25 gk_20_0 q0 q1 q2 q3 q4 q5 q6 q7 q8 q9 q10 q11 q12; subst q0
  unfold PS_X12_line
  intro n m t hc
  (try simp only [q1, q2, q3, q4, q5, q6, q7, q8, q9, q10, q11, q12]); have k9_0 : (0 : Int32).toInt = 0 := (by decide); have k9_1 : (1 : Int32).toInt = 1 := (by decide)
  have hc0 := hc
  obtain ⟨hn, hm, ht, ck, cp, ce, cw, cu, cg⟩ := hc0
  have hh0 := hp14 0 (by decide) (by decide)
  have hh1 := hp15 1 (by decide) (by decide)
  have n_name : ¬ isW (trn (fi 1) n) n m t 1851878757 := fun c => dj0 gk_1 tb_1 ⟨ck.trans c.1, by rw [cw c.1]; exact c.2⟩
  have n_soul : ¬ isW (trn (fi 1) n) n m t 1936684396 := fun c => dj0 gk_5_1 tb_7 ⟨ck.trans c.1, by rw [cw c.1]; exact c.2⟩
  have n_debt : ¬ isW (trn (fi 1) n) n m t 1684365940 := fun c => dj0 gk_7_1 tb_11 ⟨ck.trans c.1, by rw [cw c.1]; exact c.2⟩
  have y_feast : isW (trn (fi 1) n) n m t 439787549556 := ⟨ck.symm.trans (dj1 gk_14_1 tb_19).1, by rw [← cw (ck.symm.trans (dj1 gk_14_1 tb_19).1)]; exact (dj1 gk_14_1 tb_19).2⟩
  have e9 : LN (trn (fi 1) n) n m (ownB (fl 0)) (gi (fi 0)) (fl 1) (ob (vi 13)) t = lnOf (trn (fi 1) n) n m (ownB (fl 0)) 9 20 1 9 (gi (fi 0)) (fl 1) (ob (vi 13)) (sX (trn (fi 1) n) n m t) := by unfold LN; rw [if_neg n_name, if_neg n_soul, if_neg n_debt, if_pos y_feast]
  rw [e9]
  have hc1 := CC_nx hc gk_15_5
  obtain ⟨d2, d3, d4⟩ := or1 (gk_16_3 (trn (fi 1) n) n m _ hc1) tb_21
  replace d2 : fKn (trn (fi 1) n) n m (ownB (fl 0)) (fl 1) 18 (gi (fi 0) 0) (sX (trn (fi 1) n) n m t) = 0 := d2
  replace d4 : (vik_16 0).toInt = fdx (fl 1) 18 (sW (trn (fi 1) n) n m (sX (trn (fi 1) n) n m t)) (gi (fi 0) 0).toNat := d4
  have o1 := or0 (gk_17_1 (by omega) (by omega)) tb_23
  have hO9 : ¬ ob (vi 13) (9 + (fdx (fl 1) 18 (sW (trn (fi 1) n) n m (sX (trn (fi 1) n) n m t)) (gi (fi 0) 0).toNat).toNat) = true := by rw [show 9 + (fdx (fl 1) 18 (sW (trn (fi 1) n) n m (sX (trn (fi 1) n) n m t)) (gi (fi 0) 0).toNat).toNat = ((9 + (vik_16 0)).toInt).toNat by omega, o1]; decide
  have hc2 := CC_nx hc1 gk_19_5
  obtain ⟨c2, v9, c3, c4, c5, c6, c7, c8⟩ := or1 (gk_20_11 n m _ hc2) tb_25
  exact LO_good (by unfold lnOf; rw [if_neg (fun c => c d2), if_neg hO9, if_neg (fun c => c c2)]) (by decide) ⟨c8, gi_updk c4 (by omega) c3, rfl, ob_set (q := 9 + (fdx (fl 1) 18 (sW (trn (fi 1) n) n m (sX (trn (fi 1) n) n m t)) (gi (fi 0) 0).toNat).toNat) (by omega) (by omega) ez180_1 ez181_1⟩
set_option maxHeartbeats 4000000 in
theorem PL_X12_line_12 {fi : Nat → Nat → Int32} {fl : Nat → Nat → Int64} {vi : Nat → Int32} {vl : Nat → Int64} {r : Int32} {fj : Nat → Nat → Int32} {fm : Nat → Nat → Int64} {vj : Nat → Int32} {vm : Nat → Int64} : RL_X12_line_12 fi fl vi vl r fj fm vj vm (PS_X12_line fi fl vi vl r fj fm vj vm) := by
  unfold RL_X12_line_12
  intro hp14 hp15 hp16 hp17 hp18 fik flk vik vlk rk gk_1 tb_1 gk_0 fik_5 flk_5 vik_5 vlk_5 rk_5 gk_5_1 tb_7 gk_5_0 fik_7 flk_7 vik_7 vlk_7 rk_7 gk_7_1 tb_11 gk_7_0 fik_14 flk_14 vik_14 vlk_14 rk_14 gk_14_1 tb_19 gk_14_0 fik_15 flk_15 vik_15 vlk_15 uk_15 gk_15_5 fik_16 flk_16 vik_16 vlk_16 rk_16 gk_16_3 tb_21 gk_16_0 tt_4 fik_17 flk_17 vik_17 vlk_17 rk_17 gk_17_1 tb_23 gk_17_0 z180_1 ez180_1 z181_1 ez181_1 fik_19 flk_19 vik_19 vlk_19 uk_19 gk_19_5 tt_5 fik_20 flk_20 vik_20 vlk_20 rk_20 gk_20_11 tb_25 gk_20_0 q0 q1 q2 q3 q4 q5 q6 q7 q8 q9 q10 q11 q12; subst q0
  unfold PS_X12_line
  intro n m t hc
  (try simp only [q1, q2, q3, q4, q5, q6, q7, q8, q9, q10, q11, q12]); have k9_0 : (0 : Int32).toInt = 0 := (by decide); have k9_1 : (1 : Int32).toInt = 1 := (by decide)
  have hc0 := hc
  obtain ⟨hn, hm, ht, ck, cp, ce, cw, cu, cg⟩ := hc0
  have hh0 := hp14 0 (by decide) (by decide)
  have hh1 := hp15 1 (by decide) (by decide)
  have n_name : ¬ isW (trn (fi 1) n) n m t 1851878757 := fun c => dj0 gk_1 tb_1 ⟨ck.trans c.1, by rw [cw c.1]; exact c.2⟩
  have n_soul : ¬ isW (trn (fi 1) n) n m t 1936684396 := fun c => dj0 gk_5_1 tb_7 ⟨ck.trans c.1, by rw [cw c.1]; exact c.2⟩
  have n_debt : ¬ isW (trn (fi 1) n) n m t 1684365940 := fun c => dj0 gk_7_1 tb_11 ⟨ck.trans c.1, by rw [cw c.1]; exact c.2⟩
  have y_feast : isW (trn (fi 1) n) n m t 439787549556 := ⟨ck.symm.trans (dj1 gk_14_1 tb_19).1, by rw [← cw (ck.symm.trans (dj1 gk_14_1 tb_19).1)]; exact (dj1 gk_14_1 tb_19).2⟩
  have e9 : LN (trn (fi 1) n) n m (ownB (fl 0)) (gi (fi 0)) (fl 1) (ob (vi 13)) t = lnOf (trn (fi 1) n) n m (ownB (fl 0)) 9 20 1 9 (gi (fi 0)) (fl 1) (ob (vi 13)) (sX (trn (fi 1) n) n m t) := by unfold LN; rw [if_neg n_name, if_neg n_soul, if_neg n_debt, if_pos y_feast]
  rw [e9]
  have hc1 := CC_nx hc gk_15_5
  obtain ⟨d2, d3, d4⟩ := or1 (gk_16_3 (trn (fi 1) n) n m _ hc1) tb_21
  replace d2 : fKn (trn (fi 1) n) n m (ownB (fl 0)) (fl 1) 18 (gi (fi 0) 0) (sX (trn (fi 1) n) n m t) = 0 := d2
  replace d4 : (vik_16 0).toInt = fdx (fl 1) 18 (sW (trn (fi 1) n) n m (sX (trn (fi 1) n) n m t)) (gi (fi 0) 0).toNat := d4
  have o1 := or0 (gk_17_1 (by omega) (by omega)) tb_23
  have hO9 : ¬ ob (vi 13) (9 + (fdx (fl 1) 18 (sW (trn (fi 1) n) n m (sX (trn (fi 1) n) n m t)) (gi (fi 0) 0).toNat).toNat) = true := by rw [show 9 + (fdx (fl 1) 18 (sW (trn (fi 1) n) n m (sX (trn (fi 1) n) n m t)) (gi (fi 0) 0).toNat).toNat = ((9 + (vik_16 0)).toInt).toNat by omega, o1]; decide
  have hc2 := CC_nx hc1 gk_19_5
  obtain ⟨c2, c3, c4⟩ := or0 (gk_20_11 n m _ hc2) tb_25
  exact LO_bad (by unfold lnOf; rw [if_neg (fun c => c d2), if_neg hO9, if_pos c2]) (by decide) c3 c4
set_option maxHeartbeats 4000000 in
theorem PL_X12_line_13 {fi : Nat → Nat → Int32} {fl : Nat → Nat → Int64} {vi : Nat → Int32} {vl : Nat → Int64} {r : Int32} {fj : Nat → Nat → Int32} {fm : Nat → Nat → Int64} {vj : Nat → Int32} {vm : Nat → Int64} : RL_X12_line_13 fi fl vi vl r fj fm vj vm (PS_X12_line fi fl vi vl r fj fm vj vm) := by
  unfold RL_X12_line_13
  intro hp14 hp15 hp16 hp17 hp18 fik flk vik vlk rk gk_1 tb_1 gk_0 fik_5 flk_5 vik_5 vlk_5 rk_5 gk_5_1 tb_7 gk_5_0 fik_7 flk_7 vik_7 vlk_7 rk_7 gk_7_1 tb_11 gk_7_0 fik_14 flk_14 vik_14 vlk_14 rk_14 gk_14_1 tb_19 gk_14_0 fik_15 flk_15 vik_15 vlk_15 uk_15 gk_15_5 fik_16 flk_16 vik_16 vlk_16 rk_16 gk_16_3 tb_21 gk_16_0 q0 q1 q2 q3 q4 q5 q6 q7 q8 q9 q10 q11 q12; subst q0
  unfold PS_X12_line
  intro n m t hc
  (try simp only [q1, q2, q3, q4, q5, q6, q7, q8, q9, q10, q11, q12]); have k9_0 : (0 : Int32).toInt = 0 := (by decide); have k9_1 : (1 : Int32).toInt = 1 := (by decide)
  have hc0 := hc
  obtain ⟨hn, hm, ht, ck, cp, ce, cw, cu, cg⟩ := hc0
  have hh0 := hp14 0 (by decide) (by decide)
  have hh1 := hp15 1 (by decide) (by decide)
  have n_name : ¬ isW (trn (fi 1) n) n m t 1851878757 := fun c => dj0 gk_1 tb_1 ⟨ck.trans c.1, by rw [cw c.1]; exact c.2⟩
  have n_soul : ¬ isW (trn (fi 1) n) n m t 1936684396 := fun c => dj0 gk_5_1 tb_7 ⟨ck.trans c.1, by rw [cw c.1]; exact c.2⟩
  have n_debt : ¬ isW (trn (fi 1) n) n m t 1684365940 := fun c => dj0 gk_7_1 tb_11 ⟨ck.trans c.1, by rw [cw c.1]; exact c.2⟩
  have y_feast : isW (trn (fi 1) n) n m t 439787549556 := ⟨ck.symm.trans (dj1 gk_14_1 tb_19).1, by rw [← cw (ck.symm.trans (dj1 gk_14_1 tb_19).1)]; exact (dj1 gk_14_1 tb_19).2⟩
  have e9 : LN (trn (fi 1) n) n m (ownB (fl 0)) (gi (fi 0)) (fl 1) (ob (vi 13)) t = lnOf (trn (fi 1) n) n m (ownB (fl 0)) 9 20 1 9 (gi (fi 0)) (fl 1) (ob (vi 13)) (sX (trn (fi 1) n) n m t) := by unfold LN; rw [if_neg n_name, if_neg n_soul, if_neg n_debt, if_pos y_feast]
  rw [e9]
  have hc1 := CC_nx hc gk_15_5
  obtain ⟨d2, d3, d4⟩ := or0 (gk_16_3 (trn (fi 1) n) n m _ hc1) tb_21
  replace d2 : ¬ fKn (trn (fi 1) n) n m (ownB (fl 0)) (fl 1) 18 (gi (fi 0) 0) (sX (trn (fi 1) n) n m t) = 0 := d2
  replace d3 : _ = fKn (trn (fi 1) n) n m (ownB (fl 0)) (fl 1) 18 (gi (fi 0) 0) (sX (trn (fi 1) n) n m t) := d3
  exact LO_bad (by unfold lnOf; rw [if_pos d2]) (by decide) d3 d4
