def R_X12_line (fi : Nat → Nat → Int32) (fl : Nat → Nat → Int64) (vi : Nat → Int32) (vl : Nat → Int64) (r : Int32) (fj : Nat → Nat → Int32) (fm : Nat → Nat → Int64) (vj : Nat → Int32) (vm : Nat → Int64) : Prop :=
  ∀ Q9 : Prop, RL_X12_line_0 fi fl vi vl r fj fm vj vm Q9 → RL_X12_line_1 fi fl vi vl r fj fm vj vm Q9 → RL_X12_line_2 fi fl vi vl r fj fm vj vm Q9 → RL_X12_line_3 fi fl vi vl r fj fm vj vm Q9 → RL_X12_line_4 fi fl vi vl r fj fm vj vm Q9 → RL_X12_line_5 fi fl vi vl r fj fm vj vm Q9 → RL_X12_line_6 fi fl vi vl r fj fm vj vm Q9 → RL_X12_line_7 fi fl vi vl r fj fm vj vm Q9 → RL_X12_line_8 fi fl vi vl r fj fm vj vm Q9 → RL_X12_line_9 fi fl vi vl r fj fm vj vm Q9 → RL_X12_line_10 fi fl vi vl r fj fm vj vm Q9 → RL_X12_line_11 fi fl vi vl r fj fm vj vm Q9 → RL_X12_line_12 fi fl vi vl r fj fm vj vm Q9 → RL_X12_line_13 fi fl vi vl r fj fm vj vm Q9 → RL_X12_line_14 fi fl vi vl r fj fm vj vm Q9 → RL_X12_line_15 fi fl vi vl r fj fm vj vm Q9 → RL_X12_line_16 fi fl vi vl r fj fm vj vm Q9 → RL_X12_line_17 fi fl vi vl r fj fm vj vm Q9 → RL_X12_line_18 fi fl vi vl r fj fm vj vm Q9 → RL_X12_line_19 fi fl vi vl r fj fm vj vm Q9 → RL_X12_line_20 fi fl vi vl r fj fm vj vm Q9 → RL_X12_line_21 fi fl vi vl r fj fm vj vm Q9 → RL_X12_line_22 fi fl vi vl r fj fm vj vm Q9 → RL_X12_line_23 fi fl vi vl r fj fm vj vm Q9 → RL_X12_line_24 fi fl vi vl r fj fm vj vm Q9 → RL_X12_line_25 fi fl vi vl r fj fm vj vm Q9 → Q9
def PS_X12_line (fi : Nat → Nat → Int32) (fl : Nat → Nat → Int64) (vi : Nat → Int32) (vl : Nat → Int64) (r : Int32) (fj : Nat → Nat → Int32) (fm : Nat → Nat → Int64) (vj : Nat → Int32) (vm : Nat → Int64) : Prop :=
  ∀ n m t : Nat, CC (trn (fi 1) n) n m t (vi 2) (vi 4) (vi 5) (vi 6) (vi 3) (vl 0) (vi 8) (vi 8) → LO (LN (trn (fi 1) n) n m (ownB (fl 0)) (gi (fi 0)) (fl 1) (ob (vi 13)) t) r (vj 5) (vj 6) (fun t' H' N' O' => CC (trn (fi 1) n) n m t' (vi 2) (vi 4) (vj 4) (vj 1) (vj 0) (vm 0) (vj 3) (vj 3) ∧ gi (fj 0) = H' ∧ (fm 0) = N' ∧ ob (vj 8) = O')
set_option maxHeartbeats 4000000 in
theorem PL_X12_line_0 {fi : Nat → Nat → Int32} {fl : Nat → Nat → Int64} {vi : Nat → Int32} {vl : Nat → Int64} {r : Int32} {fj : Nat → Nat → Int32} {fm : Nat → Nat → Int64} {vj : Nat → Int32} {vm : Nat → Int64} : RL_X12_line_0 fi fl vi vl r fj fm vj vm (PS_X12_line fi fl vi vl r fj fm vj vm) := by
  unfold RL_X12_line_0
  intro hp14 hp15 hp16 hp17 hp18 fik flk vik vlk rk gk_1 tb_1 gk_0 c20 fik_1 flk_1 vik_1 vlk_1 uk_1 gk_1_5 tt fik_2 flk_2 vik_2 vlk_2 rk_2 gk_2_7 tb_3 gk_2_0 tt_1 fik_3 flk_3 vik_3 vlk_3 rk_3 gk_3_11 tb_5 gk_3_0 tt_2 f68 ef68 q0 q1 q2 q3 q4 q5 q6 q7 q8 q9 q10 q11 q12; subst q0
  unfold PS_X12_line
  intro n m t hc
  (try simp only [q1, q2, q3, q4, q5, q6, q7, q8, q9, q10, q11, q12]); have k9_0 : (0 : Int32).toInt = 0 := (by decide); have k9_1 : (1 : Int32).toInt = 1 := (by decide)
  have hc0 := hc
  obtain ⟨hn, hm, ht, ck, cp, ce, cw, cu, cg⟩ := hc0
  have hh0 := hp14 0 (by decide) (by decide)
  have hh1 := hp15 1 (by decide) (by decide)
  have y_name : isW (trn (fi 1) n) n m t 1851878757 := ⟨ck.symm.trans (dj1 gk_1 tb_1).1, by rw [← cw (ck.symm.trans (dj1 gk_1 tb_1).1)]; exact (dj1 gk_1 tb_1).2⟩
  have e9 : LN (trn (fi 1) n) n m (ownB (fl 0)) (gi (fi 0)) (fl 1) (ob (vi 13)) t = lnName (trn (fi 1) n) n m (ownB (fl 0)) (gi (fi 0)) (fl 1) (ob (vi 13)) t := by unfold LN; rw [if_pos y_name]
  rw [e9]
  have hH9 : ¬ gi (fi 0) 0 = 9 := (by show ¬ ((fi 0) 0).toInt = 9; omega)
  have hc1 := CC_nx hc gk_1_5
  obtain ⟨b2, b3, b4, b5⟩ := or1 (gk_2_7 n m _ hc1) tb_3
  obtain ⟨c2, v9, c3, c4, c5, c6, c7, c8⟩ := or1 (gk_3_11 n m _ b5) tb_5
  have hN2 : (flk_2 0) = setW (fl 1) (18 + (gi (fi 0) 0).toNat) (sW (trn (fi 1) n) n m (sX (trn (fi 1) n) n m t)) := by rw [b4, updL_W, show (18 + ((fi 0) 0)).toNatClampNeg = 18 + (gi (fi 0) 0).toNat from (show (18 + ((fi 0) 0)).toInt.toNat = 18 + ((fi 0) 0).toInt.toNat by omega)]
  exact LO_good (by unfold lnName; rw [if_neg hH9, if_neg (fun c => c b2), if_neg (fun c => c c2)]) (by decide) ⟨c8, gi_name hh0 (by omega) c4 ef68 c3 (by omega), hN2, rfl⟩
set_option maxHeartbeats 4000000 in
theorem PL_X12_line_1 {fi : Nat → Nat → Int32} {fl : Nat → Nat → Int64} {vi : Nat → Int32} {vl : Nat → Int64} {r : Int32} {fj : Nat → Nat → Int32} {fm : Nat → Nat → Int64} {vj : Nat → Int32} {vm : Nat → Int64} : RL_X12_line_1 fi fl vi vl r fj fm vj vm (PS_X12_line fi fl vi vl r fj fm vj vm) := by
  unfold RL_X12_line_1
  intro hp14 hp15 hp16 hp17 hp18 fik flk vik vlk rk gk_1 tb_1 gk_0 c20 fik_1 flk_1 vik_1 vlk_1 uk_1 gk_1_5 tt fik_2 flk_2 vik_2 vlk_2 rk_2 gk_2_7 tb_3 gk_2_0 tt_1 fik_3 flk_3 vik_3 vlk_3 rk_3 gk_3_11 tb_5 gk_3_0 q0 q1 q2 q3 q4 q5 q6 q7 q8 q9 q10 q11 q12; subst q0
  unfold PS_X12_line
  intro n m t hc
  (try simp only [q1, q2, q3, q4, q5, q6, q7, q8, q9, q10, q11, q12]); have k9_0 : (0 : Int32).toInt = 0 := (by decide); have k9_1 : (1 : Int32).toInt = 1 := (by decide)
  have hc0 := hc
  obtain ⟨hn, hm, ht, ck, cp, ce, cw, cu, cg⟩ := hc0
  have hh0 := hp14 0 (by decide) (by decide)
  have hh1 := hp15 1 (by decide) (by decide)
  have y_name : isW (trn (fi 1) n) n m t 1851878757 := ⟨ck.symm.trans (dj1 gk_1 tb_1).1, by rw [← cw (ck.symm.trans (dj1 gk_1 tb_1).1)]; exact (dj1 gk_1 tb_1).2⟩
  have e9 : LN (trn (fi 1) n) n m (ownB (fl 0)) (gi (fi 0)) (fl 1) (ob (vi 13)) t = lnName (trn (fi 1) n) n m (ownB (fl 0)) (gi (fi 0)) (fl 1) (ob (vi 13)) t := by unfold LN; rw [if_pos y_name]
  rw [e9]
  have hH9 : ¬ gi (fi 0) 0 = 9 := (by show ¬ ((fi 0) 0).toInt = 9; omega)
  have hc1 := CC_nx hc gk_1_5
  obtain ⟨b2, b3, b4, b5⟩ := or1 (gk_2_7 n m _ hc1) tb_3
  obtain ⟨c2, c3, c4⟩ := or0 (gk_3_11 n m _ b5) tb_5
  exact LO_bad (by unfold lnName; rw [if_neg hH9, if_neg (fun c => c b2), if_pos c2]) (by decide) c3 c4
set_option maxHeartbeats 4000000 in
theorem PL_X12_line_2 {fi : Nat → Nat → Int32} {fl : Nat → Nat → Int64} {vi : Nat → Int32} {vl : Nat → Int64} {r : Int32} {fj : Nat → Nat → Int32} {fm : Nat → Nat → Int64} {vj : Nat → Int32} {vm : Nat → Int64} : RL_X12_line_2 fi fl vi vl r fj fm vj vm (PS_X12_line fi fl vi vl r fj fm vj vm) := by
  unfold RL_X12_line_2
  intro hp14 hp15 hp16 hp17 hp18 fik flk vik vlk rk gk_1 tb_1 gk_0 c20 fik_1 flk_1 vik_1 vlk_1 uk_1 gk_1_5 tt fik_2 flk_2 vik_2 vlk_2 rk_2 gk_2_7 tb_3 gk_2_0 q0 q1 q2 q3 q4 q5 q6 q7 q8 q9 q10 q11 q12; subst q0
  unfold PS_X12_line
  intro n m t hc
  (try simp only [q1, q2, q3, q4, q5, q6, q7, q8, q9, q10, q11, q12]); have k9_0 : (0 : Int32).toInt = 0 := (by decide); have k9_1 : (1 : Int32).toInt = 1 := (by decide)
  have hc0 := hc
  obtain ⟨hn, hm, ht, ck, cp, ce, cw, cu, cg⟩ := hc0
  have hh0 := hp14 0 (by decide) (by decide)
  have hh1 := hp15 1 (by decide) (by decide)
  have y_name : isW (trn (fi 1) n) n m t 1851878757 := ⟨ck.symm.trans (dj1 gk_1 tb_1).1, by rw [← cw (ck.symm.trans (dj1 gk_1 tb_1).1)]; exact (dj1 gk_1 tb_1).2⟩
  have e9 : LN (trn (fi 1) n) n m (ownB (fl 0)) (gi (fi 0)) (fl 1) (ob (vi 13)) t = lnName (trn (fi 1) n) n m (ownB (fl 0)) (gi (fi 0)) (fl 1) (ob (vi 13)) t := by unfold LN; rw [if_pos y_name]
  rw [e9]
  have hH9 : ¬ gi (fi 0) 0 = 9 := (by show ¬ ((fi 0) 0).toInt = 9; omega)
  have hc1 := CC_nx hc gk_1_5
  obtain ⟨b2, b3, b4⟩ := or0 (gk_2_7 n m _ hc1) tb_3
  exact LO_bad (by unfold lnName; rw [if_neg hH9, if_pos b2]) (by decide) b3 b4
set_option maxHeartbeats 4000000 in
theorem PL_X12_line_3 {fi : Nat → Nat → Int32} {fl : Nat → Nat → Int64} {vi : Nat → Int32} {vl : Nat → Int64} {r : Int32} {fj : Nat → Nat → Int32} {fm : Nat → Nat → Int64} {vj : Nat → Int32} {vm : Nat → Int64} : RL_X12_line_3 fi fl vi vl r fj fm vj vm (PS_X12_line fi fl vi vl r fj fm vj vm) := by
  unfold RL_X12_line_3
  intro hp14 hp15 hp16 hp17 hp18 fik flk vik vlk rk gk_1 tb_1 gk_0 c20 fik_4 flk_4 vik_4 vlk_4 rk_4 gk_4_0 gk_4_2 q0 q1 q2 q3 q4 q5 q6 q7 q8 q9 q10 q11 q12; subst q0
  unfold PS_X12_line
  intro n m t hc
  (try simp only [q1, q2, q3, q4, q5, q6, q7, q8, q9, q10, q11, q12]); have k9_0 : (0 : Int32).toInt = 0 := (by decide); have k9_1 : (1 : Int32).toInt = 1 := (by decide); have k9_2 : (4 : Int32).toInt = 4 := (by decide)
  have hc0 := hc
  obtain ⟨hn, hm, ht, ck, cp, ce, cw, cu, cg⟩ := hc0
  have hh0 := hp14 0 (by decide) (by decide)
  have hh1 := hp15 1 (by decide) (by decide)
  have y_name : isW (trn (fi 1) n) n m t 1851878757 := ⟨ck.symm.trans (dj1 gk_1 tb_1).1, by rw [← cw (ck.symm.trans (dj1 gk_1 tb_1).1)]; exact (dj1 gk_1 tb_1).2⟩
  have e9 : LN (trn (fi 1) n) n m (ownB (fl 0)) (gi (fi 0)) (fl 1) (ob (vi 13)) t = lnName (trn (fi 1) n) n m (ownB (fl 0)) (gi (fi 0)) (fl 1) (ob (vi 13)) t := by unfold LN; rw [if_pos y_name]
  rw [e9]
  exact LO_bad (by unfold lnName; rw [if_pos (show gi (fi 0) 0 = 9 by show ((fi 0) 0).toInt = 9; omega)]) (by decide) (by omega) (by omega)
set_option maxHeartbeats 4000000 in
theorem PL_X12_line_4 {fi : Nat → Nat → Int32} {fl : Nat → Nat → Int64} {vi : Nat → Int32} {vl : Nat → Int64} {r : Int32} {fj : Nat → Nat → Int32} {fm : Nat → Nat → Int64} {vj : Nat → Int32} {vm : Nat → Int64} : RL_X12_line_4 fi fl vi vl r fj fm vj vm (PS_X12_line fi fl vi vl r fj fm vj vm) := by
  unfold RL_X12_line_4
  intro hp14 hp15 hp16 hp17 hp18 fik flk vik vlk rk gk_1 tb_1 gk_0 fik_5 flk_5 vik_5 vlk_5 rk_5 gk_5_1 tb_7 gk_5_0 fik_6 flk_6 vik_6 vlk_6 rk_6 gk_6_11 tb_9 gk_6_0 q0 q1 q2 q3 q4 q5 q6 q7 q8 q9 q10 q11 q12; subst q0
  unfold PS_X12_line
  intro n m t hc
  (try simp only [q1, q2, q3, q4, q5, q6, q7, q8, q9, q10, q11, q12]); have k9_0 : (0 : Int32).toInt = 0 := (by decide); have k9_1 : (1 : Int32).toInt = 1 := (by decide)
  have hc0 := hc
  obtain ⟨hn, hm, ht, ck, cp, ce, cw, cu, cg⟩ := hc0
  have hh0 := hp14 0 (by decide) (by decide)
  have hh1 := hp15 1 (by decide) (by decide)
  have n_name : ¬ isW (trn (fi 1) n) n m t 1851878757 := fun c => dj0 gk_1 tb_1 ⟨ck.trans c.1, by rw [cw c.1]; exact c.2⟩
  have y_soul : isW (trn (fi 1) n) n m t 1936684396 := ⟨ck.symm.trans (dj1 gk_5_1 tb_7).1, by rw [← cw (ck.symm.trans (dj1 gk_5_1 tb_7).1)]; exact (dj1 gk_5_1 tb_7).2⟩
  have e9 : LN (trn (fi 1) n) n m (ownB (fl 0)) (gi (fi 0)) (fl 1) (ob (vi 13)) t = lnSoul (trn (fi 1) n) n m (ownB (fl 0)) (gi (fi 0)) (fl 1) (ob (vi 13)) t := by unfold LN; rw [if_neg n_name, if_pos y_soul]
  rw [e9]
  refine LO_weak (LO_r (gk_6_11 n m t hc (ob (vi 13))) (by omega)) (fun t9 H9 N9 O9 g9 => ⟨g9.1, g9.2.1, g9.2.2.1, g9.2.2.2.symm⟩)
set_option maxHeartbeats 4000000 in
theorem PL_X12_line_5 {fi : Nat → Nat → Int32} {fl : Nat → Nat → Int64} {vi : Nat → Int32} {vl : Nat → Int64} {r : Int32} {fj : Nat → Nat → Int32} {fm : Nat → Nat → Int64} {vj : Nat → Int32} {vm : Nat → Int64} : RL_X12_line_5 fi fl vi vl r fj fm vj vm (PS_X12_line fi fl vi vl r fj fm vj vm) := by
  unfold RL_X12_line_5
  intro hp14 hp15 hp16 hp17 hp18 fik flk vik vlk rk gk_1 tb_1 gk_0 fik_5 flk_5 vik_5 vlk_5 rk_5 gk_5_1 tb_7 gk_5_0 fik_6 flk_6 vik_6 vlk_6 rk_6 gk_6_11 tb_9 gk_6_0 q0 q1 q2 q3 q4 q5 q6 q7 q8 q9 q10 q11 q12; subst q0
  unfold PS_X12_line
  intro n m t hc
  (try simp only [q1, q2, q3, q4, q5, q6, q7, q8, q9, q10, q11, q12]); have k9_0 : (0 : Int32).toInt = 0 := (by decide); have k9_1 : (1 : Int32).toInt = 1 := (by decide)
  have hc0 := hc
  obtain ⟨hn, hm, ht, ck, cp, ce, cw, cu, cg⟩ := hc0
  have hh0 := hp14 0 (by decide) (by decide)
  have hh1 := hp15 1 (by decide) (by decide)
  have n_name : ¬ isW (trn (fi 1) n) n m t 1851878757 := fun c => dj0 gk_1 tb_1 ⟨ck.trans c.1, by rw [cw c.1]; exact c.2⟩
  have y_soul : isW (trn (fi 1) n) n m t 1936684396 := ⟨ck.symm.trans (dj1 gk_5_1 tb_7).1, by rw [← cw (ck.symm.trans (dj1 gk_5_1 tb_7).1)]; exact (dj1 gk_5_1 tb_7).2⟩
  have e9 : LN (trn (fi 1) n) n m (ownB (fl 0)) (gi (fi 0)) (fl 1) (ob (vi 13)) t = lnSoul (trn (fi 1) n) n m (ownB (fl 0)) (gi (fi 0)) (fl 1) (ob (vi 13)) t := by unfold LN; rw [if_neg n_name, if_pos y_soul]
  rw [e9]
  refine LO_weak (LO_r (gk_6_11 n m t hc (ob (vi 13))) (by omega)) (fun t9 H9 N9 O9 g9 => ⟨g9.1, g9.2.1, g9.2.2.1, g9.2.2.2.symm⟩)
set_option maxHeartbeats 4000000 in
theorem PL_X12_line_6 {fi : Nat → Nat → Int32} {fl : Nat → Nat → Int64} {vi : Nat → Int32} {vl : Nat → Int64} {r : Int32} {fj : Nat → Nat → Int32} {fm : Nat → Nat → Int64} {vj : Nat → Int32} {vm : Nat → Int64} : RL_X12_line_6 fi fl vi vl r fj fm vj vm (PS_X12_line fi fl vi vl r fj fm vj vm) := by
  unfold RL_X12_line_6
  intro hp14 hp15 hp16 hp17 hp18 fik flk vik vlk rk gk_1 tb_1 gk_0 fik_5 flk_5 vik_5 vlk_5 rk_5 gk_5_1 tb_7 gk_5_0 fik_7 flk_7 vik_7 vlk_7 rk_7 gk_7_1 tb_11 gk_7_0 fik_8 flk_8 vik_8 vlk_8 uk_8 gk_8_5 fik_9 flk_9 vik_9 vlk_9 rk_9 gk_9_3 tb_13 gk_9_0 fik_10 flk_10 vik_10 vlk_10 rk_10 gk_10_1 tb_15 gk_10_0 fik_11 flk_11 vik_11 vlk_11 rk_11 gk_11_0 gk_11_2 q0 q1 q2 q3 q4 q5 q6 q7 q8 q9 q10 q11 q12; subst q0
  unfold PS_X12_line
  intro n m t hc
  (try simp only [q1, q2, q3, q4, q5, q6, q7, q8, q9, q10, q11, q12]); have k9_0 : (0 : Int32).toInt = 0 := (by decide); have k9_1 : (1 : Int32).toInt = 1 := (by decide); have k9_2 : (3 : Int32).toInt = 3 := (by decide)
  have hc0 := hc
  obtain ⟨hn, hm, ht, ck, cp, ce, cw, cu, cg⟩ := hc0
  have hh0 := hp14 0 (by decide) (by decide)
  have hh1 := hp15 1 (by decide) (by decide)
  have n_name : ¬ isW (trn (fi 1) n) n m t 1851878757 := fun c => dj0 gk_1 tb_1 ⟨ck.trans c.1, by rw [cw c.1]; exact c.2⟩
  have n_soul : ¬ isW (trn (fi 1) n) n m t 1936684396 := fun c => dj0 gk_5_1 tb_7 ⟨ck.trans c.1, by rw [cw c.1]; exact c.2⟩
  have y_debt : isW (trn (fi 1) n) n m t 1684365940 := ⟨ck.symm.trans (dj1 gk_7_1 tb_11).1, by rw [← cw (ck.symm.trans (dj1 gk_7_1 tb_11).1)]; exact (dj1 gk_7_1 tb_11).2⟩
  have e9 : LN (trn (fi 1) n) n m (ownB (fl 0)) (gi (fi 0)) (fl 1) (ob (vi 13)) t = lnOf (trn (fi 1) n) n m (ownB (fl 0)) 0 11 0 99 (gi (fi 0)) (fl 1) (ob (vi 13)) (sX (trn (fi 1) n) n m t) := by unfold LN; rw [if_neg n_name, if_neg n_soul, if_pos y_debt]
  rw [e9]
  have hc1 := CC_nx hc gk_8_5
  obtain ⟨d2, d3, d4⟩ := or1 (gk_9_3 (trn (fi 1) n) n m _ hc1) tb_13
  replace d2 : fKn (trn (fi 1) n) n m (ownB (fl 0)) (fl 1) 18 (gi (fi 0) 0) (sX (trn (fi 1) n) n m t) = 0 := d2
  replace d4 : (vik_9 0).toInt = fdx (fl 1) 18 (sW (trn (fi 1) n) n m (sX (trn (fi 1) n) n m t)) (gi (fi 0) 0).toNat := d4
  have o1 := or1 (gk_10_1 (by omega) (by omega)) tb_15
  have hO9 : ob (vi 13) (0 + (fdx (fl 1) 18 (sW (trn (fi 1) n) n m (sX (trn (fi 1) n) n m t)) (gi (fi 0) 0).toNat).toNat) = true := by rw [show 0 + (fdx (fl 1) 18 (sW (trn (fi 1) n) n m (sX (trn (fi 1) n) n m t)) (gi (fi 0) 0).toNat).toNat = ((vik_9 0).toInt).toNat by omega]; exact o1
  have hp9 := hc1.2.2.2.2.1
  exact LO_bad (by unfold lnOf; rw [if_neg (fun c => c d2), if_pos hO9]) (by decide) (by omega) (by omega)
set_option maxHeartbeats 4000000 in
theorem PL_X12_line_7 {fi : Nat → Nat → Int32} {fl : Nat → Nat → Int64} {vi : Nat → Int32} {vl : Nat → Int64} {r : Int32} {fj : Nat → Nat → Int32} {fm : Nat → Nat → Int64} {vj : Nat → Int32} {vm : Nat → Int64} : RL_X12_line_7 fi fl vi vl r fj fm vj vm (PS_X12_line fi fl vi vl r fj fm vj vm) := by
  unfold RL_X12_line_7
  intro hp14 hp15 hp16 hp17 hp18 fik flk vik vlk rk gk_1 tb_1 gk_0 fik_5 flk_5 vik_5 vlk_5 rk_5 gk_5_1 tb_7 gk_5_0 fik_7 flk_7 vik_7 vlk_7 rk_7 gk_7_1 tb_11 gk_7_0 fik_8 flk_8 vik_8 vlk_8 uk_8 gk_8_5 fik_9 flk_9 vik_9 vlk_9 rk_9 gk_9_3 tb_13 gk_9_0 fik_10 flk_10 vik_10 vlk_10 rk_10 gk_10_1 tb_15 gk_10_0 z180 ez180 z181 ez181 fik_12 flk_12 vik_12 vlk_12 uk_12 gk_12_5 tt_3 fik_13 flk_13 vik_13 vlk_13 rk_13 gk_13_11 tb_17 gk_13_0 q0 q1 q2 q3 q4 q5 q6 q7 q8 q9 q10 q11 q12; subst q0
  unfold PS_X12_line
  intro n m t hc
  (try simp only [q1, q2, q3, q4, q5, q6, q7, q8, q9, q10, q11, q12]); have k9_0 : (0 : Int32).toInt = 0 := (by decide); have k9_1 : (1 : Int32).toInt = 1 := (by decide)
  have hc0 := hc
  obtain ⟨hn, hm, ht, ck, cp, ce, cw, cu, cg⟩ := hc0
  have hh0 := hp14 0 (by decide) (by decide)
  have hh1 := hp15 1 (by decide) (by decide)
  have n_name : ¬ isW (trn (fi 1) n) n m t 1851878757 := fun c => dj0 gk_1 tb_1 ⟨ck.trans c.1, by rw [cw c.1]; exact c.2⟩
  have n_soul : ¬ isW (trn (fi 1) n) n m t 1936684396 := fun c => dj0 gk_5_1 tb_7 ⟨ck.trans c.1, by rw [cw c.1]; exact c.2⟩
  have y_debt : isW (trn (fi 1) n) n m t 1684365940 := ⟨ck.symm.trans (dj1 gk_7_1 tb_11).1, by rw [← cw (ck.symm.trans (dj1 gk_7_1 tb_11).1)]; exact (dj1 gk_7_1 tb_11).2⟩
  have e9 : LN (trn (fi 1) n) n m (ownB (fl 0)) (gi (fi 0)) (fl 1) (ob (vi 13)) t = lnOf (trn (fi 1) n) n m (ownB (fl 0)) 0 11 0 99 (gi (fi 0)) (fl 1) (ob (vi 13)) (sX (trn (fi 1) n) n m t) := by unfold LN; rw [if_neg n_name, if_neg n_soul, if_pos y_debt]
  rw [e9]
  have hc1 := CC_nx hc gk_8_5
  obtain ⟨d2, d3, d4⟩ := or1 (gk_9_3 (trn (fi 1) n) n m _ hc1) tb_13
  replace d2 : fKn (trn (fi 1) n) n m (ownB (fl 0)) (fl 1) 18 (gi (fi 0) 0) (sX (trn (fi 1) n) n m t) = 0 := d2
  replace d4 : (vik_9 0).toInt = fdx (fl 1) 18 (sW (trn (fi 1) n) n m (sX (trn (fi 1) n) n m t)) (gi (fi 0) 0).toNat := d4
  have o1 := or0 (gk_10_1 (by omega) (by omega)) tb_15
  have hO9 : ¬ ob (vi 13) (0 + (fdx (fl 1) 18 (sW (trn (fi 1) n) n m (sX (trn (fi 1) n) n m t)) (gi (fi 0) 0).toNat).toNat) = true := by rw [show 0 + (fdx (fl 1) 18 (sW (trn (fi 1) n) n m (sX (trn (fi 1) n) n m t)) (gi (fi 0) 0).toNat).toNat = ((vik_9 0).toInt).toNat by omega, o1]; decide
  have hc2 := CC_nx hc1 gk_12_5
  obtain ⟨c2, v9, c3, c4, c5, c6, c7, c8⟩ := or1 (gk_13_11 n m _ hc2) tb_17
  exact LO_good (by unfold lnOf; rw [if_neg (fun c => c d2), if_neg hO9, if_neg (fun c => c c2)]) (by decide) ⟨c8, gi_updk c4 (by omega) c3, rfl, ob_set (q := 0 + (fdx (fl 1) 18 (sW (trn (fi 1) n) n m (sX (trn (fi 1) n) n m t)) (gi (fi 0) 0).toNat).toNat) (by omega) (by omega) ez180 ez181⟩
