set_option maxHeartbeats 4000000 in
theorem PL_X12_line_14 {fi : Nat → Nat → Int32} {fl : Nat → Nat → Int64} {vi : Nat → Int32} {vl : Nat → Int64} {r : Int32} {fj : Nat → Nat → Int32} {fm : Nat → Nat → Int64} {vj : Nat → Int32} {vm : Nat → Int64} : RL_X12_line_14 fi fl vi vl r fj fm vj vm (PS_X12_line fi fl vi vl r fj fm vj vm) := by
  unfold RL_X12_line_14
  intro hp14 hp15 hp16 hp17 hp18 fik flk vik vlk rk gk_1 tb_1 gk_0 fik_5 flk_5 vik_5 vlk_5 rk_5 gk_5_1 tb_7 gk_5_0 fik_7 flk_7 vik_7 vlk_7 rk_7 gk_7_1 tb_11 gk_7_0 fik_14 flk_14 vik_14 vlk_14 rk_14 gk_14_1 tb_19 gk_14_0 w2 hj hjw9 c264 fik_21 flk_21 vik_21 vlk_21 uk_21 gk_21_5 fik_22 flk_22 vik_22 vlk_22 rk_22 gk_22_3 tb_27 gk_22_0 c300 c317 fik_23 flk_23 vik_23 vlk_23 uk_23 gk_23_5 fik_24 flk_24 vik_24 vlk_24 rk_24 gk_24_3 tb_29 gk_24_0 tt_6 tt_7 z420 ez420 tz420 c422 fik_25 flk_25 vik_25 vlk_25 uk_25 gk_25_5 z450 ez450 tz450 fik_26 flk_26 vik_26 vlk_26 rk_26 gk_26_11 tb_31 gk_26_0 q0 q1 q2 q3 q4 q5 q6 q7 q8 q9 q10 q11 q12; subst q0
  unfold PS_X12_line
  intro n m t hc
  (try simp only [q1, q2, q3, q4, q5, q6, q7, q8, q9, q10, q11, q12]); have k9_0 : (0 : Int32).toInt = 0 := (by decide); have k9_1 : (1 : Int32).toInt = 1 := (by decide)
  have hc0 := hc
  obtain ⟨hn, hm, ht, ck, cp, ce, cw, cu, cg⟩ := hc0
  have hh0 := hp14 0 (by decide) (by decide)
  have hh1 := hp15 1 (by decide) (by decide)
  have n_name : ¬ isW (trn (fi 1) n) n m t 1851878757 := fun c => dj0 gk_1 tb_1 ⟨ck.trans c.1, by rw [cw c.1]; exact c.2⟩
  have n_soul : ¬ isW (trn (fi 1) n) n m t 1936684396 := fun c => dj0 gk_5_1 tb_7 ⟨ck.trans c.1, by rw [cw c.1]; exact c.2⟩
  have n_debt : ¬ isW (trn (fi 1) n) n m t 1684365940 := fun c => dj0 gk_7_1 tb_11 ⟨ck.trans c.1, by rw [cw c.1]; exact c.2⟩
  have n_feast : ¬ isW (trn (fi 1) n) n m t 439787549556 := fun c => dj0 gk_14_1 tb_19 ⟨ck.trans c.1, by rw [cw c.1]; exact c.2⟩
  rcases hjw9 with ⟨j1, j2, j3⟩ | ⟨j1, j2, j3⟩ | ⟨j1, j2, j3⟩ | ⟨j1, j2, j3, j4⟩
  · exfalso; omega
  · have y_worth : isW (trn (fi 1) n) n m t 512970880104 := ⟨ck.symm.trans j2, by rw [← cw (ck.symm.trans j2)]; exact j3⟩
    have n_wish : ¬ isW (trn (fi 1) n) n m t 2003399528 := fun c => absurd (c.2.symm.trans y_worth.2) (by decide)
    have e9 : LN (trn (fi 1) n) n m (ownB (fl 0)) (gi (fi 0)) (fl 1) (ob (vi 13)) t = lnWorth (trn (fi 1) n) n m (ownB (fl 0)) (gi (fi 0)) (fl 1) (ob (vi 13)) (sX (trn (fi 1) n) n m t) := by unfold LN; rw [if_neg n_name, if_neg n_soul, if_neg n_debt, if_neg n_feast, if_neg n_wish, if_pos y_worth]
    rw [e9]
    have hc1 := CC_nx hc gk_21_5
    obtain ⟨d2, d3, d4⟩ := or1 (gk_22_3 (trn (fi 1) n) n m _ hc1) tb_27
    replace d2 : fKn (trn (fi 1) n) n m (ownB (fl 0)) (fl 1) 27 (gi (fi 0) 1) (sX (trn (fi 1) n) n m t) = 0 := d2
    replace d4 : (vik_22 0).toInt = fdx (fl 1) 27 (sW (trn (fi 1) n) n m (sX (trn (fi 1) n) n m t)) (gi (fi 0) 1).toNat := d4
    have hc2 := CC_nx hc1 gk_23_5
    obtain ⟨g2, g3, g4⟩ := or1 (gk_24_3 (trn (fi 1) n) n m _ hc2) tb_29
    replace g2 : fKn (trn (fi 1) n) n m (ownB (fl 0)) (fl 1) 18 (gi (fi 0) 0) (sX (trn (fi 1) n) n m (sX (trn (fi 1) n) n m t)) = 0 := g2
    replace g4 : (vik_24 0).toInt = fdx (fl 1) 18 (sW (trn (fi 1) n) n m (sX (trn (fi 1) n) n m (sX (trn (fi 1) n) n m t))) (gi (fi 0) 0).toNat := g4
    have hz9 : gi (fi 0) (56 + 9 * (fdx (fl 1) 27 (sW (trn (fi 1) n) n m (sX (trn (fi 1) n) n m t)) (gi (fi 0) 1).toNat).toNat + (fdx (fl 1) 18 (sW (trn (fi 1) n) n m (sX (trn (fi 1) n) n m (sX (trn (fi 1) n) n m t))) (gi (fi 0) 0).toNat).toNat) = ((fi 0) z420.toNatClampNeg).toInt := by rw [show z420.toNatClampNeg = 56 + 9 * (fdx (fl 1) 27 (sW (trn (fi 1) n) n m (sX (trn (fi 1) n) n m t)) (gi (fi 0) 1).toNat).toNat + (fdx (fl 1) 18 (sW (trn (fi 1) n) n m (sX (trn (fi 1) n) n m (sX (trn (fi 1) n) n m t))) (gi (fi 0) 0).toNat).toNat from (show z420.toInt.toNat = 56 + 9 * (fdx (fl 1) 27 (sW (trn (fi 1) n) n m (sX (trn (fi 1) n) n m t)) (gi (fi 0) 1).toNat).toNat + (fdx (fl 1) 18 (sW (trn (fi 1) n) n m (sX (trn (fi 1) n) n m (sX (trn (fi 1) n) n m t))) (gi (fi 0) 0).toNat).toNat by omega)]
    have hc3 := CC_nx hc2 gk_25_5
    obtain ⟨c2, v9, c3, c4, c5, c6, c7, c8⟩ := or1 (gk_26_11 n m _ hc3) tb_31
    exact LO_good (by unfold lnWorth; rw [if_neg (fun c => c d2), if_neg (fun c => c g2), if_neg (by omega), if_neg (fun c => c c2)]) (by decide) ⟨c8, gi_updk c4 (by omega) c3, rfl, rfl⟩
  · exfalso; omega
  · exfalso; omega
set_option maxHeartbeats 4000000 in
theorem PL_X12_line_15 {fi : Nat → Nat → Int32} {fl : Nat → Nat → Int64} {vi : Nat → Int32} {vl : Nat → Int64} {r : Int32} {fj : Nat → Nat → Int32} {fm : Nat → Nat → Int64} {vj : Nat → Int32} {vm : Nat → Int64} : RL_X12_line_15 fi fl vi vl r fj fm vj vm (PS_X12_line fi fl vi vl r fj fm vj vm) := by
  unfold RL_X12_line_15
  intro hp14 hp15 hp16 hp17 hp18 fik flk vik vlk rk gk_1 tb_1 gk_0 fik_5 flk_5 vik_5 vlk_5 rk_5 gk_5_1 tb_7 gk_5_0 fik_7 flk_7 vik_7 vlk_7 rk_7 gk_7_1 tb_11 gk_7_0 fik_14 flk_14 vik_14 vlk_14 rk_14 gk_14_1 tb_19 gk_14_0 w2 hj hjw9 c264 fik_21 flk_21 vik_21 vlk_21 uk_21 gk_21_5 fik_22 flk_22 vik_22 vlk_22 rk_22 gk_22_3 tb_27 gk_22_0 c300 c317 fik_23 flk_23 vik_23 vlk_23 uk_23 gk_23_5 fik_24 flk_24 vik_24 vlk_24 rk_24 gk_24_3 tb_29 gk_24_0 tt_6 tt_7 z420 ez420 tz420 c422 fik_25 flk_25 vik_25 vlk_25 uk_25 gk_25_5 z450 ez450 tz450 fik_26 flk_26 vik_26 vlk_26 rk_26 gk_26_11 tb_31 gk_26_0 q0 q1 q2 q3 q4 q5 q6 q7 q8 q9 q10 q11 q12; subst q0
  unfold PS_X12_line
  intro n m t hc
  (try simp only [q1, q2, q3, q4, q5, q6, q7, q8, q9, q10, q11, q12]); have k9_0 : (0 : Int32).toInt = 0 := (by decide); have k9_1 : (1 : Int32).toInt = 1 := (by decide)
  have hc0 := hc
  obtain ⟨hn, hm, ht, ck, cp, ce, cw, cu, cg⟩ := hc0
  have hh0 := hp14 0 (by decide) (by decide)
  have hh1 := hp15 1 (by decide) (by decide)
  have n_name : ¬ isW (trn (fi 1) n) n m t 1851878757 := fun c => dj0 gk_1 tb_1 ⟨ck.trans c.1, by rw [cw c.1]; exact c.2⟩
  have n_soul : ¬ isW (trn (fi 1) n) n m t 1936684396 := fun c => dj0 gk_5_1 tb_7 ⟨ck.trans c.1, by rw [cw c.1]; exact c.2⟩
  have n_debt : ¬ isW (trn (fi 1) n) n m t 1684365940 := fun c => dj0 gk_7_1 tb_11 ⟨ck.trans c.1, by rw [cw c.1]; exact c.2⟩
  have n_feast : ¬ isW (trn (fi 1) n) n m t 439787549556 := fun c => dj0 gk_14_1 tb_19 ⟨ck.trans c.1, by rw [cw c.1]; exact c.2⟩
  rcases hjw9 with ⟨j1, j2, j3⟩ | ⟨j1, j2, j3⟩ | ⟨j1, j2, j3⟩ | ⟨j1, j2, j3, j4⟩
  · exfalso; omega
  · have y_worth : isW (trn (fi 1) n) n m t 512970880104 := ⟨ck.symm.trans j2, by rw [← cw (ck.symm.trans j2)]; exact j3⟩
    have n_wish : ¬ isW (trn (fi 1) n) n m t 2003399528 := fun c => absurd (c.2.symm.trans y_worth.2) (by decide)
    have e9 : LN (trn (fi 1) n) n m (ownB (fl 0)) (gi (fi 0)) (fl 1) (ob (vi 13)) t = lnWorth (trn (fi 1) n) n m (ownB (fl 0)) (gi (fi 0)) (fl 1) (ob (vi 13)) (sX (trn (fi 1) n) n m t) := by unfold LN; rw [if_neg n_name, if_neg n_soul, if_neg n_debt, if_neg n_feast, if_neg n_wish, if_pos y_worth]
    rw [e9]
    have hc1 := CC_nx hc gk_21_5
    obtain ⟨d2, d3, d4⟩ := or1 (gk_22_3 (trn (fi 1) n) n m _ hc1) tb_27
    replace d2 : fKn (trn (fi 1) n) n m (ownB (fl 0)) (fl 1) 27 (gi (fi 0) 1) (sX (trn (fi 1) n) n m t) = 0 := d2
    replace d4 : (vik_22 0).toInt = fdx (fl 1) 27 (sW (trn (fi 1) n) n m (sX (trn (fi 1) n) n m t)) (gi (fi 0) 1).toNat := d4
    have hc2 := CC_nx hc1 gk_23_5
    obtain ⟨g2, g3, g4⟩ := or1 (gk_24_3 (trn (fi 1) n) n m _ hc2) tb_29
    replace g2 : fKn (trn (fi 1) n) n m (ownB (fl 0)) (fl 1) 18 (gi (fi 0) 0) (sX (trn (fi 1) n) n m (sX (trn (fi 1) n) n m t)) = 0 := g2
    replace g4 : (vik_24 0).toInt = fdx (fl 1) 18 (sW (trn (fi 1) n) n m (sX (trn (fi 1) n) n m (sX (trn (fi 1) n) n m t))) (gi (fi 0) 0).toNat := g4
    have hz9 : gi (fi 0) (56 + 9 * (fdx (fl 1) 27 (sW (trn (fi 1) n) n m (sX (trn (fi 1) n) n m t)) (gi (fi 0) 1).toNat).toNat + (fdx (fl 1) 18 (sW (trn (fi 1) n) n m (sX (trn (fi 1) n) n m (sX (trn (fi 1) n) n m t))) (gi (fi 0) 0).toNat).toNat) = ((fi 0) z420.toNatClampNeg).toInt := by rw [show z420.toNatClampNeg = 56 + 9 * (fdx (fl 1) 27 (sW (trn (fi 1) n) n m (sX (trn (fi 1) n) n m t)) (gi (fi 0) 1).toNat).toNat + (fdx (fl 1) 18 (sW (trn (fi 1) n) n m (sX (trn (fi 1) n) n m (sX (trn (fi 1) n) n m t))) (gi (fi 0) 0).toNat).toNat from (show z420.toInt.toNat = 56 + 9 * (fdx (fl 1) 27 (sW (trn (fi 1) n) n m (sX (trn (fi 1) n) n m t)) (gi (fi 0) 1).toNat).toNat + (fdx (fl 1) 18 (sW (trn (fi 1) n) n m (sX (trn (fi 1) n) n m (sX (trn (fi 1) n) n m t))) (gi (fi 0) 0).toNat).toNat by omega)]
    have hc3 := CC_nx hc2 gk_25_5
    obtain ⟨c2, c3, c4⟩ := or0 (gk_26_11 n m _ hc3) tb_31
    exact LO_bad (by unfold lnWorth; rw [if_neg (fun c => c d2), if_neg (fun c => c g2), if_neg (by omega), if_pos c2]) (by decide) c3 c4
  · exfalso; omega
  · exfalso; omega
set_option maxHeartbeats 4000000 in
theorem PL_X12_line_16 {fi : Nat → Nat → Int32} {fl : Nat → Nat → Int64} {vi : Nat → Int32} {vl : Nat → Int64} {r : Int32} {fj : Nat → Nat → Int32} {fm : Nat → Nat → Int64} {vj : Nat → Int32} {vm : Nat → Int64} : RL_X12_line_16 fi fl vi vl r fj fm vj vm (PS_X12_line fi fl vi vl r fj fm vj vm) := by
  unfold RL_X12_line_16
  intro hp14 hp15 hp16 hp17 hp18 fik flk vik vlk rk gk_1 tb_1 gk_0 fik_5 flk_5 vik_5 vlk_5 rk_5 gk_5_1 tb_7 gk_5_0 fik_7 flk_7 vik_7 vlk_7 rk_7 gk_7_1 tb_11 gk_7_0 fik_14 flk_14 vik_14 vlk_14 rk_14 gk_14_1 tb_19 gk_14_0 w2 hj hjw9 c264 fik_21 flk_21 vik_21 vlk_21 uk_21 gk_21_5 fik_22 flk_22 vik_22 vlk_22 rk_22 gk_22_3 tb_27 gk_22_0 c300 c317 fik_23 flk_23 vik_23 vlk_23 uk_23 gk_23_5 fik_24 flk_24 vik_24 vlk_24 rk_24 gk_24_3 tb_29 gk_24_0 tt_6 tt_7 z420 ez420 tz420 c422 fik_27 flk_27 vik_27 vlk_27 rk_27 gk_27_0 gk_27_2 q0 q1 q2 q3 q4 q5 q6 q7 q8 q9 q10 q11 q12; subst q0
  unfold PS_X12_line
  intro n m t hc
  (try simp only [q1, q2, q3, q4, q5, q6, q7, q8, q9, q10, q11, q12]); have k9_0 : (0 : Int32).toInt = 0 := (by decide); have k9_1 : (1 : Int32).toInt = 1 := (by decide); have k9_2 : (3 : Int32).toInt = 3 := (by decide)
  have hc0 := hc
  obtain ⟨hn, hm, ht, ck, cp, ce, cw, cu, cg⟩ := hc0
  have hh0 := hp14 0 (by decide) (by decide)
  have hh1 := hp15 1 (by decide) (by decide)
  have n_name : ¬ isW (trn (fi 1) n) n m t 1851878757 := fun c => dj0 gk_1 tb_1 ⟨ck.trans c.1, by rw [cw c.1]; exact c.2⟩
  have n_soul : ¬ isW (trn (fi 1) n) n m t 1936684396 := fun c => dj0 gk_5_1 tb_7 ⟨ck.trans c.1, by rw [cw c.1]; exact c.2⟩
  have n_debt : ¬ isW (trn (fi 1) n) n m t 1684365940 := fun c => dj0 gk_7_1 tb_11 ⟨ck.trans c.1, by rw [cw c.1]; exact c.2⟩
  have n_feast : ¬ isW (trn (fi 1) n) n m t 439787549556 := fun c => dj0 gk_14_1 tb_19 ⟨ck.trans c.1, by rw [cw c.1]; exact c.2⟩
  rcases hjw9 with ⟨j1, j2, j3⟩ | ⟨j1, j2, j3⟩ | ⟨j1, j2, j3⟩ | ⟨j1, j2, j3, j4⟩
  · exfalso; omega
  · have y_worth : isW (trn (fi 1) n) n m t 512970880104 := ⟨ck.symm.trans j2, by rw [← cw (ck.symm.trans j2)]; exact j3⟩
    have n_wish : ¬ isW (trn (fi 1) n) n m t 2003399528 := fun c => absurd (c.2.symm.trans y_worth.2) (by decide)
    have e9 : LN (trn (fi 1) n) n m (ownB (fl 0)) (gi (fi 0)) (fl 1) (ob (vi 13)) t = lnWorth (trn (fi 1) n) n m (ownB (fl 0)) (gi (fi 0)) (fl 1) (ob (vi 13)) (sX (trn (fi 1) n) n m t) := by unfold LN; rw [if_neg n_name, if_neg n_soul, if_neg n_debt, if_neg n_feast, if_neg n_wish, if_pos y_worth]
    rw [e9]
    have hc1 := CC_nx hc gk_21_5
    obtain ⟨d2, d3, d4⟩ := or1 (gk_22_3 (trn (fi 1) n) n m _ hc1) tb_27
    replace d2 : fKn (trn (fi 1) n) n m (ownB (fl 0)) (fl 1) 27 (gi (fi 0) 1) (sX (trn (fi 1) n) n m t) = 0 := d2
    replace d4 : (vik_22 0).toInt = fdx (fl 1) 27 (sW (trn (fi 1) n) n m (sX (trn (fi 1) n) n m t)) (gi (fi 0) 1).toNat := d4
    have hc2 := CC_nx hc1 gk_23_5
    obtain ⟨g2, g3, g4⟩ := or1 (gk_24_3 (trn (fi 1) n) n m _ hc2) tb_29
    replace g2 : fKn (trn (fi 1) n) n m (ownB (fl 0)) (fl 1) 18 (gi (fi 0) 0) (sX (trn (fi 1) n) n m (sX (trn (fi 1) n) n m t)) = 0 := g2
    replace g4 : (vik_24 0).toInt = fdx (fl 1) 18 (sW (trn (fi 1) n) n m (sX (trn (fi 1) n) n m (sX (trn (fi 1) n) n m t))) (gi (fi 0) 0).toNat := g4
    have hz9 : gi (fi 0) (56 + 9 * (fdx (fl 1) 27 (sW (trn (fi 1) n) n m (sX (trn (fi 1) n) n m t)) (gi (fi 0) 1).toNat).toNat + (fdx (fl 1) 18 (sW (trn (fi 1) n) n m (sX (trn (fi 1) n) n m (sX (trn (fi 1) n) n m t))) (gi (fi 0) 0).toNat).toNat) = ((fi 0) z420.toNatClampNeg).toInt := by rw [show z420.toNatClampNeg = 56 + 9 * (fdx (fl 1) 27 (sW (trn (fi 1) n) n m (sX (trn (fi 1) n) n m t)) (gi (fi 0) 1).toNat).toNat + (fdx (fl 1) 18 (sW (trn (fi 1) n) n m (sX (trn (fi 1) n) n m (sX (trn (fi 1) n) n m t))) (gi (fi 0) 0).toNat).toNat from (show z420.toInt.toNat = 56 + 9 * (fdx (fl 1) 27 (sW (trn (fi 1) n) n m (sX (trn (fi 1) n) n m t)) (gi (fi 0) 1).toNat).toNat + (fdx (fl 1) 18 (sW (trn (fi 1) n) n m (sX (trn (fi 1) n) n m (sX (trn (fi 1) n) n m t))) (gi (fi 0) 0).toNat).toNat by omega)]
    have hp9 := hc2.2.2.2.2.1
    exact LO_bad (by unfold lnWorth; rw [if_neg (fun c => c d2), if_neg (fun c => c g2), if_pos (by omega)]) (by decide) (by omega) (by omega)
  · exfalso; omega
  · exfalso; omega
set_option maxHeartbeats 4000000 in
theorem PL_X12_line_17 {fi : Nat → Nat → Int32} {fl : Nat → Nat → Int64} {vi : Nat → Int32} {vl : Nat → Int64} {r : Int32} {fj : Nat → Nat → Int32} {fm : Nat → Nat → Int64} {vj : Nat → Int32} {vm : Nat → Int64} : RL_X12_line_17 fi fl vi vl r fj fm vj vm (PS_X12_line fi fl vi vl r fj fm vj vm) := by
  unfold RL_X12_line_17
  intro hp14 hp15 hp16 hp17 hp18 fik flk vik vlk rk gk_1 tb_1 gk_0 fik_5 flk_5 vik_5 vlk_5 rk_5 gk_5_1 tb_7 gk_5_0 fik_7 flk_7 vik_7 vlk_7 rk_7 gk_7_1 tb_11 gk_7_0 fik_14 flk_14 vik_14 vlk_14 rk_14 gk_14_1 tb_19 gk_14_0 w2 hj hjw9 c264 fik_21 flk_21 vik_21 vlk_21 uk_21 gk_21_5 fik_22 flk_22 vik_22 vlk_22 rk_22 gk_22_3 tb_27 gk_22_0 c300 c317 fik_23 flk_23 vik_23 vlk_23 uk_23 gk_23_5 fik_24 flk_24 vik_24 vlk_24 rk_24 gk_24_3 tb_29 gk_24_0 q0 q1 q2 q3 q4 q5 q6 q7 q8 q9 q10 q11 q12; subst q0
  unfold PS_X12_line
  intro n m t hc
  (try simp only [q1, q2, q3, q4, q5, q6, q7, q8, q9, q10, q11, q12]); have k9_0 : (0 : Int32).toInt = 0 := (by decide); have k9_1 : (1 : Int32).toInt = 1 := (by decide)
  have hc0 := hc
  obtain ⟨hn, hm, ht, ck, cp, ce, cw, cu, cg⟩ := hc0
  have hh0 := hp14 0 (by decide) (by decide)
  have hh1 := hp15 1 (by decide) (by decide)
  have n_name : ¬ isW (trn (fi 1) n) n m t 1851878757 := fun c => dj0 gk_1 tb_1 ⟨ck.trans c.1, by rw [cw c.1]; exact c.2⟩
  have n_soul : ¬ isW (trn (fi 1) n) n m t 1936684396 := fun c => dj0 gk_5_1 tb_7 ⟨ck.trans c.1, by rw [cw c.1]; exact c.2⟩
  have n_debt : ¬ isW (trn (fi 1) n) n m t 1684365940 := fun c => dj0 gk_7_1 tb_11 ⟨ck.trans c.1, by rw [cw c.1]; exact c.2⟩
  have n_feast : ¬ isW (trn (fi 1) n) n m t 439787549556 := fun c => dj0 gk_14_1 tb_19 ⟨ck.trans c.1, by rw [cw c.1]; exact c.2⟩
  rcases hjw9 with ⟨j1, j2, j3⟩ | ⟨j1, j2, j3⟩ | ⟨j1, j2, j3⟩ | ⟨j1, j2, j3, j4⟩
  · exfalso; omega
  · have y_worth : isW (trn (fi 1) n) n m t 512970880104 := ⟨ck.symm.trans j2, by rw [← cw (ck.symm.trans j2)]; exact j3⟩
    have n_wish : ¬ isW (trn (fi 1) n) n m t 2003399528 := fun c => absurd (c.2.symm.trans y_worth.2) (by decide)
    have e9 : LN (trn (fi 1) n) n m (ownB (fl 0)) (gi (fi 0)) (fl 1) (ob (vi 13)) t = lnWorth (trn (fi 1) n) n m (ownB (fl 0)) (gi (fi 0)) (fl 1) (ob (vi 13)) (sX (trn (fi 1) n) n m t) := by unfold LN; rw [if_neg n_name, if_neg n_soul, if_neg n_debt, if_neg n_feast, if_neg n_wish, if_pos y_worth]
    rw [e9]
    have hc1 := CC_nx hc gk_21_5
    obtain ⟨d2, d3, d4⟩ := or1 (gk_22_3 (trn (fi 1) n) n m _ hc1) tb_27
    replace d2 : fKn (trn (fi 1) n) n m (ownB (fl 0)) (fl 1) 27 (gi (fi 0) 1) (sX (trn (fi 1) n) n m t) = 0 := d2
    replace d4 : (vik_22 0).toInt = fdx (fl 1) 27 (sW (trn (fi 1) n) n m (sX (trn (fi 1) n) n m t)) (gi (fi 0) 1).toNat := d4
    have hc2 := CC_nx hc1 gk_23_5
    obtain ⟨g2, g3, g4⟩ := or0 (gk_24_3 (trn (fi 1) n) n m _ hc2) tb_29
    replace g2 : ¬ fKn (trn (fi 1) n) n m (ownB (fl 0)) (fl 1) 18 (gi (fi 0) 0) (sX (trn (fi 1) n) n m (sX (trn (fi 1) n) n m t)) = 0 := g2
    replace g3 : _ = fKn (trn (fi 1) n) n m (ownB (fl 0)) (fl 1) 18 (gi (fi 0) 0) (sX (trn (fi 1) n) n m (sX (trn (fi 1) n) n m t)) := g3
    exact LO_bad (by unfold lnWorth; rw [if_neg (fun c => c d2), if_pos g2]) (by decide) g3 g4
  · exfalso; omega
  · exfalso; omega
set_option maxHeartbeats 4000000 in
theorem PL_X12_line_18 {fi : Nat → Nat → Int32} {fl : Nat → Nat → Int64} {vi : Nat → Int32} {vl : Nat → Int64} {r : Int32} {fj : Nat → Nat → Int32} {fm : Nat → Nat → Int64} {vj : Nat → Int32} {vm : Nat → Int64} : RL_X12_line_18 fi fl vi vl r fj fm vj vm (PS_X12_line fi fl vi vl r fj fm vj vm) := by
  unfold RL_X12_line_18
  intro hp14 hp15 hp16 hp17 hp18 fik flk vik vlk rk gk_1 tb_1 gk_0 fik_5 flk_5 vik_5 vlk_5 rk_5 gk_5_1 tb_7 gk_5_0 fik_7 flk_7 vik_7 vlk_7 rk_7 gk_7_1 tb_11 gk_7_0 fik_14 flk_14 vik_14 vlk_14 rk_14 gk_14_1 tb_19 gk_14_0 w2 hj hjw9 c264 fik_21 flk_21 vik_21 vlk_21 uk_21 gk_21_5 fik_22 flk_22 vik_22 vlk_22 rk_22 gk_22_3 tb_27 gk_22_0 c300 c317 tt_8 c330 fik_28 flk_28 vik_28 vlk_28 uk_28 gk_28_5 fik_29 flk_29 vik_29 vlk_29 rk_29 gk_29_6 tb_33 gk_29_0 tt_9 f376 ef376 q0 q1 q2 q3 q4 q5 q6 q7 q8 q9 q10 q11 q12; subst q0
  unfold PS_X12_line
  intro n m t hc
  (try simp only [q1, q2, q3, q4, q5, q6, q7, q8, q9, q10, q11, q12]); have k9_0 : (0 : Int32).toInt = 0 := (by decide); have k9_1 : (1 : Int32).toInt = 1 := (by decide); have k9_2 : (199 : Int32).toInt = 199 := (by decide)
  have hc0 := hc
  obtain ⟨hn, hm, ht, ck, cp, ce, cw, cu, cg⟩ := hc0
  have hh0 := hp14 0 (by decide) (by decide)
  have hh1 := hp15 1 (by decide) (by decide)
  have n_name : ¬ isW (trn (fi 1) n) n m t 1851878757 := fun c => dj0 gk_1 tb_1 ⟨ck.trans c.1, by rw [cw c.1]; exact c.2⟩
  have n_soul : ¬ isW (trn (fi 1) n) n m t 1936684396 := fun c => dj0 gk_5_1 tb_7 ⟨ck.trans c.1, by rw [cw c.1]; exact c.2⟩
  have n_debt : ¬ isW (trn (fi 1) n) n m t 1684365940 := fun c => dj0 gk_7_1 tb_11 ⟨ck.trans c.1, by rw [cw c.1]; exact c.2⟩
  have n_feast : ¬ isW (trn (fi 1) n) n m t 439787549556 := fun c => dj0 gk_14_1 tb_19 ⟨ck.trans c.1, by rw [cw c.1]; exact c.2⟩
  rcases hjw9 with ⟨j1, j2, j3⟩ | ⟨j1, j2, j3⟩ | ⟨j1, j2, j3⟩ | ⟨j1, j2, j3, j4⟩
  · exfalso; omega
  · exfalso; omega
  · have y_old : isW (trn (fi 1) n) n m t 7302244 := ⟨ck.symm.trans j2, by rw [← cw (ck.symm.trans j2)]; exact j3⟩
    have n_wish : ¬ isW (trn (fi 1) n) n m t 2003399528 := fun c => absurd (c.2.symm.trans y_old.2) (by decide)
    have n_worth : ¬ isW (trn (fi 1) n) n m t 512970880104 := fun c => absurd (c.2.symm.trans y_old.2) (by decide)
    have e9 : LN (trn (fi 1) n) n m (ownB (fl 0)) (gi (fi 0)) (fl 1) (ob (vi 13)) t = lnOld (trn (fi 1) n) n m (ownB (fl 0)) (gi (fi 0)) (fl 1) (ob (vi 13)) (sX (trn (fi 1) n) n m t) := by unfold LN; rw [if_neg n_name, if_neg n_soul, if_neg n_debt, if_neg n_feast, if_neg n_wish, if_neg n_worth, if_pos y_old]
    rw [e9]
    have hc1 := CC_nx hc gk_21_5
    obtain ⟨d2, d3, d4⟩ := or1 (gk_22_3 (trn (fi 1) n) n m _ hc1) tb_27
    replace d2 : fKn (trn (fi 1) n) n m (ownB (fl 0)) (fl 1) 27 (gi (fi 0) 1) (sX (trn (fi 1) n) n m t) = 0 := d2
    replace d4 : (vik_22 0).toInt = fdx (fl 1) 27 (sW (trn (fi 1) n) n m (sX (trn (fi 1) n) n m t)) (gi (fi 0) 1).toNat := d4
    have hz9 : gi (fi 0) (137 + (fdx (fl 1) 27 (sW (trn (fi 1) n) n m (sX (trn (fi 1) n) n m t)) (gi (fi 0) 1).toNat).toNat) = ((fi 0) (137 + (vik_22 0)).toNatClampNeg).toInt := by rw [show (137 + (vik_22 0)).toNatClampNeg = 137 + (fdx (fl 1) 27 (sW (trn (fi 1) n) n m (sX (trn (fi 1) n) n m t)) (gi (fi 0) 1).toNat).toNat from (show (137 + (vik_22 0)).toInt.toNat = 137 + (fdx (fl 1) 27 (sW (trn (fi 1) n) n m (sX (trn (fi 1) n) n m t)) (gi (fi 0) 1).toNat).toNat by omega)]
    have hc2 := CC_nx hc1 gk_28_5
    obtain ⟨c2, c3, c4, c5, c6, c7⟩ := or1 (gk_29_6 n m _ hc2) tb_33
    exact LO_good (by unfold lnOld; rw [if_neg (fun c => c d2), if_neg (by omega), if_neg (fun c => c c2)]) (by decide) ⟨c7, gi_updk ef376 (by omega) (by omega), rfl, rfl⟩
  · exfalso; omega
