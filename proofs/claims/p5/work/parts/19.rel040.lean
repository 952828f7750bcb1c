set_option maxHeartbeats 4000000 in
theorem PL_X12_operand_1 {fi : Nat → Nat → Int32} {fl : Nat → Nat → Int64} {vi : Nat → Int32} {vl : Nat → Int64} {r : Int32} {fj : Nat → Nat → Int32} {fm : Nat → Nat → Int64} {vj : Nat → Int32} {vm : Nat → Int64} : RL_X12_operand_1 fi fl vi vl r fj fm vj vm (PS_X12_operand fi fl vi vl r fj fm vj vm) := by
  unfold RL_X12_operand_1
  intro hp0 hp1 hp2 hp3 hp4 hp5 hp6 hp7 hp8 hp9 hp10 hp11 hp12 hp13 hp14 hp15 hp16 hp17 hp18 hp19 hp20 hp21 hp22 hp23 hp24 hp25 hp26 w3 w2 w1 hj hj_1 hj_2 hop9 c21 c44 c53 tt fik_1 flk_1 vik_1 vlk_1 uk_1 gk_1_0 gk_1_1 gk_1_2 gk_1_3 gk_1_4 gk_1_5 f103 ef103 tt_1 tt_2 q0 q1 q2 q3 q4 q5 q6 q7 q8 q9 q10 q11 q12 q13 q14 q15 q16; subst q0
  unfold PS_X12_operand
  intro n m t hc hs hd
  (try simp only [q1, q2, q3, q4, q5, q6, q7, q8, q9, q10, q11, q12, q13, q14, q15, q16]); have k9_0 : (0 : Int32).toInt = 0 := (by decide); have k9_1 : (1 : Int32).toInt = 1 := (by decide)
  have hc0 := hc
  obtain ⟨hn, hm, ht, ck, cp, ce, cw, cu, cg⟩ := hc0
  have hoj := hop9 n m t hc
  obtain ⟨j1, j2, j3, j4⟩ := OPJ_n hoj
  have j5 := hoj.2.2
  have hc1 := CC_nx hc gk_1_5
  have hl9 := flt_len (q := (fi 1)) ((vi 25).toInt).toNat
  have hF := flt_up ef103 (y := ((vi 25) + 1)) hp12.1 tt_1
  rw [show (20 : Int32).toInt = 20 by decide, if_pos rfl] at hF
  have hZ := dp_up (z := ((vi 26) + 1)) rfl hd (dp_40 hd c53)
  refine Or.inl ⟨by decide, _, hc1, nsk_up ef103 hp12.1 tt_1 hs (by decide) (Or.inl (by decide)), by rw [hF, List.length_cons]; exact dp_u2 hZ, Or.inl ⟨hp26, ?_⟩⟩
  rw [hF]
  exact sg_not ht (j1 (op_1 c21 hj_2)) c44 (dp_7 hd c53) tt
set_option maxHeartbeats 4000000 in
theorem PL_X12_operand_2 {fi : Nat → Nat → Int32} {fl : Nat → Nat → Int64} {vi : Nat → Int32} {vl : Nat → Int64} {r : Int32} {fj : Nat → Nat → Int32} {fm : Nat → Nat → Int64} {vj : Nat → Int32} {vm : Nat → Int64} : RL_X12_operand_2 fi fl vi vl r fj fm vj vm (PS_X12_operand fi fl vi vl r fj fm vj vm) := by
  unfold RL_X12_operand_2
  intro hp0 hp1 hp2 hp3 hp4 hp5 hp6 hp7 hp8 hp9 hp10 hp11 hp12 hp13 hp14 hp15 hp16 hp17 hp18 hp19 hp20 hp21 hp22 hp23 hp24 hp25 hp26 w3 w2 w1 hj hj_1 hj_2 hop9 c21 c44 c53 fik_2 flk_2 vik_2 vlk_2 rk_2 gk_2_0 gk_2_1 gk_2_2 q0 q1 q2 q3 q4 q5 q6 q7 q8 q9 q10 q11 q12 q13 q14 q15 q16; subst q0
  unfold PS_X12_operand
  intro n m t hc hs hd
  (try simp only [q1, q2, q3, q4, q5, q6, q7, q8, q9, q10, q11, q12, q13, q14, q15, q16]); have k9_0 : (0 : Int32).toInt = 0 := (by decide); have k9_1 : (1 : Int32).toInt = 1 := (by decide); have k9_2 : (4 : Int32).toInt = 4 := (by decide)
  have hc0 := hc
  obtain ⟨hn, hm, ht, ck, cp, ce, cw, cu, cg⟩ := hc0
  have hoj := hop9 n m t hc
  obtain ⟨j1, j2, j3, j4⟩ := OPJ_n hoj
  have j5 := hoj.2.2
  exact Or.inr ⟨by decide, gfa_c (sg_four ht (Or.inr (Or.inl (j1 (op_1 c21 hj_2)))) (Or.inr (dp_8 hd c53))) (gk_2_2.1.trans (by decide)) (gk_2_2.2.trans cp)⟩
set_option maxHeartbeats 4000000 in
theorem PL_X12_operand_3 {fi : Nat → Nat → Int32} {fl : Nat → Nat → Int64} {vi : Nat → Int32} {vl : Nat → Int64} {r : Int32} {fj : Nat → Nat → Int32} {fm : Nat → Nat → Int64} {vj : Nat → Int32} {vm : Nat → Int64} : RL_X12_operand_3 fi fl vi vl r fj fm vj vm (PS_X12_operand fi fl vi vl r fj fm vj vm) := by
  unfold RL_X12_operand_3
  intro hp0 hp1 hp2 hp3 hp4 hp5 hp6 hp7 hp8 hp9 hp10 hp11 hp12 hp13 hp14 hp15 hp16 hp17 hp18 hp19 hp20 hp21 hp22 hp23 hp24 hp25 hp26 w3 w2 w1 hj hj_1 hj_2 hop9 c21 c25 c44_1 fik_3 flk_3 vik_3 vlk_3 rk_3 gk_3_0 gk_3_1 gk_3_2 q0 q1 q2 q3 q4 q5 q6 q7 q8 q9 q10 q11 q12 q13 q14 q15 q16; subst q0
  unfold PS_X12_operand
  intro n m t hc hs hd
  (try simp only [q1, q2, q3, q4, q5, q6, q7, q8, q9, q10, q11, q12, q13, q14, q15, q16]); have k9_0 : (0 : Int32).toInt = 0 := (by decide); have k9_1 : (1 : Int32).toInt = 1 := (by decide); have k9_2 : (4 : Int32).toInt = 4 := (by decide)
  have hc0 := hc
  obtain ⟨hn, hm, ht, ck, cp, ce, cw, cu, cg⟩ := hc0
  have hoj := hop9 n m t hc
  obtain ⟨j1, j2, j3, j4⟩ := OPJ_n hoj
  have j5 := hoj.2.2
  exact Or.inr ⟨by decide, gfa_c (sg_four ht (Or.inr (Or.inr (j3 (op_1 c25 hj_1)))) (Or.inl c44_1)) (gk_3_2.1.trans (by decide)) (gk_3_2.2.trans cp)⟩
set_option maxHeartbeats 4000000 in
theorem PL_X12_operand_4 {fi : Nat → Nat → Int32} {fl : Nat → Nat → Int64} {vi : Nat → Int32} {vl : Nat → Int64} {r : Int32} {fj : Nat → Nat → Int32} {fm : Nat → Nat → Int64} {vj : Nat → Int32} {vm : Nat → Int64} : RL_X12_operand_4 fi fl vi vl r fj fm vj vm (PS_X12_operand fi fl vi vl r fj fm vj vm) := by
  unfold RL_X12_operand_4
  intro hp0 hp1 hp2 hp3 hp4 hp5 hp6 hp7 hp8 hp9 hp10 hp11 hp12 hp13 hp14 hp15 hp16 hp17 hp18 hp19 hp20 hp21 hp22 hp23 hp24 hp25 hp26 w3 w2 w1 hj hj_1 hj_2 hop9 c21 c25 c44_1 c53_1 tt_3 fik_4 flk_4 vik_4 vlk_4 uk_4 gk_4_0 gk_4_1 gk_4_2 gk_4_3 gk_4_4 gk_4_5 f103_1 ef103_1 tt_4 tt_5 q0 q1 q2 q3 q4 q5 q6 q7 q8 q9 q10 q11 q12 q13 q14 q15 q16; subst q0
  unfold PS_X12_operand
  intro n m t hc hs hd
  (try simp only [q1, q2, q3, q4, q5, q6, q7, q8, q9, q10, q11, q12, q13, q14, q15, q16]); have k9_0 : (0 : Int32).toInt = 0 := (by decide); have k9_1 : (1 : Int32).toInt = 1 := (by decide)
  have hc0 := hc
  obtain ⟨hn, hm, ht, ck, cp, ce, cw, cu, cg⟩ := hc0
  have hoj := hop9 n m t hc
  obtain ⟨j1, j2, j3, j4⟩ := OPJ_n hoj
  have j5 := hoj.2.2
  have hc1 := CC_nx hc gk_4_5
  have hl9 := flt_len (q := (fi 1)) ((vi 25).toInt).toNat
  have hF := flt_up ef103_1 (y := ((vi 25) + 1)) hp12.1 tt_4
  rw [show (23 : Int32).toInt = 23 by decide, if_neg (by decide), if_pos rfl] at hF
  have hZ := dp_up (z := ((vi 26) + 1)) rfl hd (dp_40 hd c53_1)
  refine Or.inl ⟨by decide, _, hc1, nsk_up ef103_1 hp12.1 tt_4 hs (by decide) (Or.inr <| Or.inl (by decide)), by rw [hF, List.length_cons]; exact dp_u2 hZ, Or.inl ⟨hp26, ?_⟩⟩
  rw [hF]
  exact sg_open ht (j3 (op_1 c25 hj_1)) c44_1 (dp_7 hd c53_1) tt_3
set_option maxHeartbeats 4000000 in
theorem PL_X12_operand_5 {fi : Nat → Nat → Int32} {fl : Nat → Nat → Int64} {vi : Nat → Int32} {vl : Nat → Int64} {r : Int32} {fj : Nat → Nat → Int32} {fm : Nat → Nat → Int64} {vj : Nat → Int32} {vm : Nat → Int64} : RL_X12_operand_5 fi fl vi vl r fj fm vj vm (PS_X12_operand fi fl vi vl r fj fm vj vm) := by
  unfold RL_X12_operand_5
  intro hp0 hp1 hp2 hp3 hp4 hp5 hp6 hp7 hp8 hp9 hp10 hp11 hp12 hp13 hp14 hp15 hp16 hp17 hp18 hp19 hp20 hp21 hp22 hp23 hp24 hp25 hp26 w3 w2 w1 hj hj_1 hj_2 hop9 c21 c25 c44_1 c53_1 fik_5 flk_5 vik_5 vlk_5 rk_5 gk_5_0 gk_5_1 gk_5_2 q0 q1 q2 q3 q4 q5 q6 q7 q8 q9 q10 q11 q12 q13 q14 q15 q16; subst q0
  unfold PS_X12_operand
  intro n m t hc hs hd
  (try simp only [q1, q2, q3, q4, q5, q6, q7, q8, q9, q10, q11, q12, q13, q14, q15, q16]); have k9_0 : (0 : Int32).toInt = 0 := (by decide); have k9_1 : (1 : Int32).toInt = 1 := (by decide); have k9_2 : (4 : Int32).toInt = 4 := (by decide)
  have hc0 := hc
  obtain ⟨hn, hm, ht, ck, cp, ce, cw, cu, cg⟩ := hc0
  have hoj := hop9 n m t hc
  obtain ⟨j1, j2, j3, j4⟩ := OPJ_n hoj
  have j5 := hoj.2.2
  exact Or.inr ⟨by decide, gfa_c (sg_four ht (Or.inr (Or.inr (j3 (op_1 c25 hj_1)))) (Or.inr (dp_8 hd c53_1))) (gk_5_2.1.trans (by decide)) (gk_5_2.2.trans cp)⟩
set_option maxHeartbeats 4000000 in
theorem PL_X12_operand_6 {fi : Nat → Nat → Int32} {fl : Nat → Nat → Int64} {vi : Nat → Int32} {vl : Nat → Int64} {r : Int32} {fj : Nat → Nat → Int32} {fm : Nat → Nat → Int64} {vj : Nat → Int32} {vm : Nat → Int64} : RL_X12_operand_6 fi fl vi vl r fj fm vj vm (PS_X12_operand fi fl vi vl r fj fm vj vm) := by
  unfold RL_X12_operand_6
  intro hp0 hp1 hp2 hp3 hp4 hp5 hp6 hp7 hp8 hp9 hp10 hp11 hp12 hp13 hp14 hp15 hp16 hp17 hp18 hp19 hp20 hp21 hp22 hp23 hp24 hp25 hp26 w3 w2 w1 hj hj_1 hj_2 hop9 c21 c25 c29 c44_2 fik_6 flk_6 vik_6 vlk_6 rk_6 gk_6_0 gk_6_1 gk_6_2 q0 q1 q2 q3 q4 q5 q6 q7 q8 q9 q10 q11 q12 q13 q14 q15 q16; subst q0
  unfold PS_X12_operand
  intro n m t hc hs hd
  (try simp only [q1, q2, q3, q4, q5, q6, q7, q8, q9, q10, q11, q12, q13, q14, q15, q16]); have k9_0 : (0 : Int32).toInt = 0 := (by decide); have k9_1 : (1 : Int32).toInt = 1 := (by decide); have k9_2 : (4 : Int32).toInt = 4 := (by decide)
  have hc0 := hc
  obtain ⟨hn, hm, ht, ck, cp, ce, cw, cu, cg⟩ := hc0
  have hoj := hop9 n m t hc
  obtain ⟨j1, j2, j3, j4⟩ := OPJ_n hoj
  have j5 := hoj.2.2
  exact Or.inr ⟨by decide, gfa_c (sg_four ht (Or.inl (op_nm j5 c29)) (Or.inl c44_2)) (gk_6_2.1.trans (by decide)) (gk_6_2.2.trans cp)⟩
set_option maxHeartbeats 4000000 in
theorem PL_X12_operand_7 {fi : Nat → Nat → Int32} {fl : Nat → Nat → Int64} {vi : Nat → Int32} {vl : Nat → Int64} {r : Int32} {fj : Nat → Nat → Int32} {fm : Nat → Nat → Int64} {vj : Nat → Int32} {vm : Nat → Int64} : RL_X12_operand_7 fi fl vi vl r fj fm vj vm (PS_X12_operand fi fl vi vl r fj fm vj vm) := by
  unfold RL_X12_operand_7
  intro hp0 hp1 hp2 hp3 hp4 hp5 hp6 hp7 hp8 hp9 hp10 hp11 hp12 hp13 hp14 hp15 hp16 hp17 hp18 hp19 hp20 hp21 hp22 hp23 hp24 hp25 hp26 w3 w2 w1 hj hj_1 hj_2 hop9 c21 c25 c29 c44_2 c53_2 tt_6 fik_7 flk_7 vik_7 vlk_7 uk_7 gk_7_0 gk_7_1 gk_7_2 gk_7_3 gk_7_4 gk_7_5 c133 c147 c187 fik_8 flk_8 vik_8 vlk_8 rk_8 gk_8_0 gk_8_1 gk_8_2 q0 q1 q2 q3 q4 q5 q6 q7 q8 q9 q10 q11 q12 q13 q14 q15 q16; subst q0
  unfold PS_X12_operand
  intro n m t hc hs hd
  (try simp only [q1, q2, q3, q4, q5, q6, q7, q8, q9, q10, q11, q12, q13, q14, q15, q16]); have k9_0 : (0 : Int32).toInt = 0 := (by decide); have k9_1 : (1 : Int32).toInt = 1 := (by decide)
  have hc0 := hc
  obtain ⟨hn, hm, ht, ck, cp, ce, cw, cu, cg⟩ := hc0
  have hoj := hop9 n m t hc
  obtain ⟨j1, j2, j3, j4⟩ := OPJ_n hoj
  have j5 := hoj.2.2
  have hc1 := CC_nx hc gk_7_5
  have hne : ¬ lfi (trn (fi 0) n) n m t = -1 := op_nm j5 c29
  obtain ⟨hn1, hm1, ht1, dk, dp, de, dw, du, dg⟩ := id hc1
  exact Or.inr ⟨by decide, sg_leafb ht hne c44_2 (dp_7 hd c53_2) (lfa_s1 (op_ge j5 c133 c147) (fun c => c187 (dk.trans c.1)) (gk_8_2.1.trans (by decide)) (gk_8_2.2.trans dp))⟩
set_option maxHeartbeats 4000000 in
theorem PL_X12_operand_8 {fi : Nat → Nat → Int32} {fl : Nat → Nat → Int64} {vi : Nat → Int32} {vl : Nat → Int64} {r : Int32} {fj : Nat → Nat → Int32} {fm : Nat → Nat → Int64} {vj : Nat → Int32} {vm : Nat → Int64} : RL_X12_operand_8 fi fl vi vl r fj fm vj vm (PS_X12_operand fi fl vi vl r fj fm vj vm) := by
  unfold RL_X12_operand_8
  intro hp0 hp1 hp2 hp3 hp4 hp5 hp6 hp7 hp8 hp9 hp10 hp11 hp12 hp13 hp14 hp15 hp16 hp17 hp18 hp19 hp20 hp21 hp22 hp23 hp24 hp25 hp26 w3 w2 w1 hj hj_1 hj_2 hop9 c21 c25 c29 c44_2 c53_2 tt_6 fik_7 flk_7 vik_7 vlk_7 uk_7 gk_7_0 gk_7_1 gk_7_2 gk_7_3 gk_7_4 gk_7_5 c133 c147 c187 c196 fik_9 flk_9 vik_9 vlk_9 rk_9 gk_9_0 gk_9_1 gk_9_2 q0 q1 q2 q3 q4 q5 q6 q7 q8 q9 q10 q11 q12 q13 q14 q15 q16; subst q0
  unfold PS_X12_operand
  intro n m t hc hs hd
  (try simp only [q1, q2, q3, q4, q5, q6, q7, q8, q9, q10, q11, q12, q13, q14, q15, q16]); have k9_0 : (0 : Int32).toInt = 0 := (by decide); have k9_1 : (1 : Int32).toInt = 1 := (by decide)
  have hc0 := hc
  obtain ⟨hn, hm, ht, ck, cp, ce, cw, cu, cg⟩ := hc0
  have hoj := hop9 n m t hc
  obtain ⟨j1, j2, j3, j4⟩ := OPJ_n hoj
  have j5 := hoj.2.2
  have hc1 := CC_nx hc gk_7_5
  have hne : ¬ lfi (trn (fi 0) n) n m t = -1 := op_nm j5 c29
  obtain ⟨hn1, hm1, ht1, dk, dp, de, dw, du, dg⟩ := id hc1
  exact Or.inr ⟨by decide, sg_leafb ht hne c44_2 (dp_7 hd c53_2) (lfa_s1 (op_ge j5 c133 c147) (fun c => op_l1 (dg c.1) c196 c.2.1) (gk_9_2.1.trans (by decide)) (gk_9_2.2.trans dp))⟩
set_option maxHeartbeats 4000000 in
theorem PL_X12_operand_9 {fi : Nat → Nat → Int32} {fl : Nat → Nat → Int64} {vi : Nat → Int32} {vl : Nat → Int64} {r : Int32} {fj : Nat → Nat → Int32} {fm : Nat → Nat → Int64} {vj : Nat → Int32} {vm : Nat → Int64} : RL_X12_operand_9 fi fl vi vl r fj fm vj vm (PS_X12_operand fi fl vi vl r fj fm vj vm) := by
  unfold RL_X12_operand_9
  intro hp0 hp1 hp2 hp3 hp4 hp5 hp6 hp7 hp8 hp9 hp10 hp11 hp12 hp13 hp14 hp15 hp16 hp17 hp18 hp19 hp20 hp21 hp22 hp23 hp24 hp25 hp26 w3 w2 w1 hj hj_1 hj_2 hop9 c21 c25 c29 c44_2 c53_2 tt_6 fik_7 flk_7 vik_7 vlk_7 uk_7 gk_7_0 gk_7_1 gk_7_2 gk_7_3 gk_7_4 gk_7_5 c133 c147 c187 c196 c205 fik_10 flk_10 vik_10 vlk_10 uk_10 gk_10_0 gk_10_1 gk_10_2 gk_10_3 gk_10_4 gk_10_5 c229 fik_11 flk_11 vik_11 vlk_11 uk_11 gk_11_0 gk_11_1 gk_11_2 gk_11_3 fik_12 flk_12 vik_12 vlk_12 uk_12 gk_12_0 gk_12_1 gk_12_2 gk_12_3 gk_12_4 gk_12_5 q0 q1 q2 q3 q4 q5 q6 q7 q8 q9 q10 q11 q12 q13 q14 q15 q16; subst q0
  unfold PS_X12_operand
  intro n m t hc hs hd
  (try simp only [q1, q2, q3, q4, q5, q6, q7, q8, q9, q10, q11, q12, q13, q14, q15, q16]); have k9_0 : (0 : Int32).toInt = 0 := (by decide); have k9_1 : (1 : Int32).toInt = 1 := (by decide)
  have hc0 := hc
  obtain ⟨hn, hm, ht, ck, cp, ce, cw, cu, cg⟩ := hc0
  have hoj := hop9 n m t hc
  obtain ⟨j1, j2, j3, j4⟩ := OPJ_n hoj
  have j5 := hoj.2.2
  have hc1 := CC_nx hc gk_7_5
  have hne : ¬ lfi (trn (fi 0) n) n m t = -1 := op_nm j5 c29
  obtain ⟨hn1, hm1, ht1, dk, dp, de, dw, du, dg⟩ := id hc1
  have h9 := dg (dk.symm.trans c187)
  have hc2 := CC_nx hc1 gk_10_5
  obtain ⟨hn2, hm2, ht2, ek, ep, ee, ew, eu, eg⟩ := id hc2
  have hc3 := CC_nx hc2 gk_12_5
  refine Or.inl ⟨by decide, _, hc3, hs, hd, Or.inr ⟨by first | decide | omega, sg_leaf ht hne c44_2 (dp_7 hd c53_2) (lfa_sg (op_ge j5 c133 c147) (op_sg (dk.symm.trans c187) h9 c196 c205) (ek.symm.trans c229)) tt_6⟩⟩
set_option maxHeartbeats 4000000 in
theorem PL_X12_operand_10 {fi : Nat → Nat → Int32} {fl : Nat → Nat → Int64} {vi : Nat → Int32} {vl : Nat → Int64} {r : Int32} {fj : Nat → Nat → Int32} {fm : Nat → Nat → Int64} {vj : Nat → Int32} {vm : Nat → Int64} : RL_X12_operand_10 fi fl vi vl r fj fm vj vm (PS_X12_operand fi fl vi vl r fj fm vj vm) := by
  unfold RL_X12_operand_10
  intro hp0 hp1 hp2 hp3 hp4 hp5 hp6 hp7 hp8 hp9 hp10 hp11 hp12 hp13 hp14 hp15 hp16 hp17 hp18 hp19 hp20 hp21 hp22 hp23 hp24 hp25 hp26 w3 w2 w1 hj hj_1 hj_2 hop9 c21 c25 c29 c44_2 c53_2 tt_6 fik_7 flk_7 vik_7 vlk_7 uk_7 gk_7_0 gk_7_1 gk_7_2 gk_7_3 gk_7_4 gk_7_5 c133 c147 c187 c196 c205 fik_10 flk_10 vik_10 vlk_10 uk_10 gk_10_0 gk_10_1 gk_10_2 gk_10_3 gk_10_4 gk_10_5 c229 fik_13 flk_13 vik_13 vlk_13 rk_13 gk_13_0 gk_13_1 gk_13_2 q0 q1 q2 q3 q4 q5 q6 q7 q8 q9 q10 q11 q12 q13 q14 q15 q16; subst q0
  unfold PS_X12_operand
  intro n m t hc hs hd
  (try simp only [q1, q2, q3, q4, q5, q6, q7, q8, q9, q10, q11, q12, q13, q14, q15, q16]); have k9_0 : (0 : Int32).toInt = 0 := (by decide); have k9_1 : (1 : Int32).toInt = 1 := (by decide)
  have hc0 := hc
  obtain ⟨hn, hm, ht, ck, cp, ce, cw, cu, cg⟩ := hc0
  have hoj := hop9 n m t hc
  obtain ⟨j1, j2, j3, j4⟩ := OPJ_n hoj
  have j5 := hoj.2.2
  have hc1 := CC_nx hc gk_7_5
  have hne : ¬ lfi (trn (fi 0) n) n m t = -1 := op_nm j5 c29
  obtain ⟨hn1, hm1, ht1, dk, dp, de, dw, du, dg⟩ := id hc1
  have h9 := dg (dk.symm.trans c187)
  have hc2 := CC_nx hc1 gk_10_5
  obtain ⟨hn2, hm2, ht2, ek, ep, ee, ew, eu, eg⟩ := id hc2
  exact Or.inr ⟨by decide, sg_leafb ht hne c44_2 (dp_7 hd c53_2) (lfa_s2 (op_ge j5 c133 c147) (op_sg (dk.symm.trans c187) h9 c196 c205) (fun c => c229 (ek.trans c)) (gk_13_2.1.trans (by decide)) (gk_13_2.2.trans ep))⟩
set_option maxHeartbeats 4000000 in
theorem PL_X12_operand_11 {fi : Nat → Nat → Int32} {fl : Nat → Nat → Int64} {vi : Nat → Int32} {vl : Nat → Int64} {r : Int32} {fj : Nat → Nat → Int32} {fm : Nat → Nat → Int64} {vj : Nat → Int32} {vm : Nat → Int64} : RL_X12_operand_11 fi fl vi vl r fj fm vj vm (PS_X12_operand fi fl vi vl r fj fm vj vm) := by
  unfold RL_X12_operand_11
  intro hp0 hp1 hp2 hp3 hp4 hp5 hp6 hp7 hp8 hp9 hp10 hp11 hp12 hp13 hp14 hp15 hp16 hp17 hp18 hp19 hp20 hp21 hp22 hp23 hp24 hp25 hp26 w3 w2 w1 hj hj_1 hj_2 hop9 c21 c25 c29 c44_2 c53_2 tt_6 fik_7 flk_7 vik_7 vlk_7 uk_7 gk_7_0 gk_7_1 gk_7_2 gk_7_3 gk_7_4 gk_7_5 c133 c147 c187 c196 c205 fik_14 flk_14 vik_14 vlk_14 rk_14 gk_14_0 gk_14_1 gk_14_2 q0 q1 q2 q3 q4 q5 q6 q7 q8 q9 q10 q11 q12 q13 q14 q15 q16; subst q0
  unfold PS_X12_operand
  intro n m t hc hs hd
  (try simp only [q1, q2, q3, q4, q5, q6, q7, q8, q9, q10, q11, q12, q13, q14, q15, q16]); have k9_0 : (0 : Int32).toInt = 0 := (by decide); have k9_1 : (1 : Int32).toInt = 1 := (by decide)
  have hc0 := hc
  obtain ⟨hn, hm, ht, ck, cp, ce, cw, cu, cg⟩ := hc0
  have hoj := hop9 n m t hc
  obtain ⟨j1, j2, j3, j4⟩ := OPJ_n hoj
  have j5 := hoj.2.2
  have hc1 := CC_nx hc gk_7_5
  have hne : ¬ lfi (trn (fi 0) n) n m t = -1 := op_nm j5 c29
  obtain ⟨hn1, hm1, ht1, dk, dp, de, dw, du, dg⟩ := id hc1
  exact Or.inr ⟨by decide, sg_leafb ht hne c44_2 (dp_7 hd c53_2) (lfa_s1 (op_ge j5 c133 c147) (fun c => op_l2 (dg c.1) c205 c.2.2) (gk_14_2.1.trans (by decide)) (gk_14_2.2.trans dp))⟩
set_option maxHeartbeats 4000000 in
theorem PL_X12_operand_12 {fi : Nat → Nat → Int32} {fl : Nat → Nat → Int64} {vi : Nat → Int32} {vl : Nat → Int64} {r : Int32} {fj : Nat → Nat → Int32} {fm : Nat → Nat → Int64} {vj : Nat → Int32} {vm : Nat → Int64} : RL_X12_operand_12 fi fl vi vl r fj fm vj vm (PS_X12_operand fi fl vi vl r fj fm vj vm) := by
  unfold RL_X12_operand_12
  intro hp0 hp1 hp2 hp3 hp4 hp5 hp6 hp7 hp8 hp9 hp10 hp11 hp12 hp13 hp14 hp15 hp16 hp17 hp18 hp19 hp20 hp21 hp22 hp23 hp24 hp25 hp26 w3 w2 w1 hj hj_1 hj_2 hop9 c21 c25 c29 c44_2 c53_2 tt_6 fik_7 flk_7 vik_7 vlk_7 uk_7 gk_7_0 gk_7_1 gk_7_2 gk_7_3 gk_7_4 gk_7_5 c133 c147 fik_15 flk_15 vik_15 vlk_15 rk_15 gk_15_1 gk_15_2 gk_15_3 tb_1 gk_15_0 fik_16 flk_16 vik_16 vlk_16 uk_16 gk_16_0 gk_16_1 gk_16_2 gk_16_3 fik_17 flk_17 vik_17 vlk_17 uk_17 gk_17_0 gk_17_1 gk_17_2 gk_17_3 gk_17_4 gk_17_5 q0 q1 q2 q3 q4 q5 q6 q7 q8 q9 q10 q11 q12 q13 q14 q15 q16; subst q0
  unfold PS_X12_operand
  intro n m t hc hs hd
  (try simp only [q1, q2, q3, q4, q5, q6, q7, q8, q9, q10, q11, q12, q13, q14, q15, q16]); have k9_0 : (0 : Int32).toInt = 0 := (by decide); have k9_1 : (1 : Int32).toInt = 1 := (by decide)
  have hc0 := hc
  obtain ⟨hn, hm, ht, ck, cp, ce, cw, cu, cg⟩ := hc0
  have hoj := hop9 n m t hc
  obtain ⟨j1, j2, j3, j4⟩ := OPJ_n hoj
  have j5 := hoj.2.2
  have hc1 := CC_nx hc gk_7_5
  have hne : ¬ lfi (trn (fi 0) n) n m t = -1 := op_nm j5 c29
  have hl8 := gk_15_3 (trn (fi 0) n) n m _ hc1
  rw [show (0 : Int).toNat = 0 from rfl] at hl8
  obtain ⟨d2, d3, d4⟩ := or1 hl8 tb_1
  have hc2 := CC_nx hc1 gk_17_5
  refine Or.inl ⟨by decide, _, hc2, hs, hd, Or.inr ⟨by first | decide | omega, sg_leaf ht hne c44_2 (dp_7 hd c53_2) (lfa_4g (j5.symm.trans c147) d2) tt_6⟩⟩
set_option maxHeartbeats 4000000 in
theorem PL_X12_operand_13 {fi : Nat → Nat → Int32} {fl : Nat → Nat → Int64} {vi : Nat → Int32} {vl : Nat → Int64} {r : Int32} {fj : Nat → Nat → Int32} {fm : Nat → Nat → Int64} {vj : Nat → Int32} {vm : Nat → Int64} : RL_X12_operand_13 fi fl vi vl r fj fm vj vm (PS_X12_operand fi fl vi vl r fj fm vj vm) := by
  unfold RL_X12_operand_13
  intro hp0 hp1 hp2 hp3 hp4 hp5 hp6 hp7 hp8 hp9 hp10 hp11 hp12 hp13 hp14 hp15 hp16 hp17 hp18 hp19 hp20 hp21 hp22 hp23 hp24 hp25 hp26 w3 w2 w1 hj hj_1 hj_2 hop9 c21 c25 c29 c44_2 c53_2 tt_6 fik_7 flk_7 vik_7 vlk_7 uk_7 gk_7_0 gk_7_1 gk_7_2 gk_7_3 gk_7_4 gk_7_5 c133 c147 fik_15 flk_15 vik_15 vlk_15 rk_15 gk_15_1 gk_15_2 gk_15_3 tb_1 gk_15_0 q0 q1 q2 q3 q4 q5 q6 q7 q8 q9 q10 q11 q12 q13 q14 q15 q16; subst q0
  unfold PS_X12_operand
  intro n m t hc hs hd
  (try simp only [q1, q2, q3, q4, q5, q6, q7, q8, q9, q10, q11, q12, q13, q14, q15, q16]); have k9_0 : (0 : Int32).toInt = 0 := (by decide); have k9_1 : (1 : Int32).toInt = 1 := (by decide)
  have hc0 := hc
  obtain ⟨hn, hm, ht, ck, cp, ce, cw, cu, cg⟩ := hc0
  have hoj := hop9 n m t hc
  obtain ⟨j1, j2, j3, j4⟩ := OPJ_n hoj
  have j5 := hoj.2.2
  have hc1 := CC_nx hc gk_7_5
  have hne : ¬ lfi (trn (fi 0) n) n m t = -1 := op_nm j5 c29
  have hl8 := gk_15_3 (trn (fi 0) n) n m _ hc1
  rw [show (0 : Int).toNat = 0 from rfl] at hl8
  obtain ⟨d2, d3, d4⟩ := or0 hl8 tb_1
  exact Or.inr ⟨by decide, sg_leafb ht hne c44_2 (dp_7 hd c53_2) (lfa_4b (j5.symm.trans c147) (rfl : fKn (trn (fi 0) n) n m (ownB (fl 0)) (fl 1) 0 ((fi 3) 0).toInt (sX (trn (fi 0) n) n m t) = fKn (trn (fi 0) n) n m (ownB (fl 0)) (fl 1) 0 ((fi 3) 0).toInt (sX (trn (fi 0) n) n m t)) d2 d3 d4)⟩
