set_option maxHeartbeats 4000000 in
theorem PL_X12_sentence_2 {fi : Nat → Nat → Int32} {fl : Nat → Nat → Int64} {vi : Nat → Int32} {vl : Nat → Int64} {r : Int32} {fj : Nat → Nat → Int32} {fm : Nat → Nat → Int64} {vj : Nat → Int32} {vm : Nat → Int64} : RL_X12_sentence_2 fi fl vi vl r fj fm vj vm (PS_X12_sentence fi fl vi vl r fj fm vj vm) := by
  unfold RL_X12_sentence_2
  intro hp0 hp1 hp2 hp3 hp4 hp5 hp6 hp7 hp8 hp9 hp10 hp11 hp12 hp13 hp14 hp15 hp16 hp17 hp18 hp19 hp20 hp21 hp22 hp23 fik flk vik vlk uk gk_0 gk_1 gk_2 gk_3 gk_4 gk_5 fik_1 flk_1 vik_1 vlk_1 uk_1 gk_1_0 gk_1_1 gk_1_2 gk_1_3 gk_1_4 gk_1_5 w1 wv wv_1 wv_2 wv_3 wv_4 wv_5 wv_6 wv_7 wv_8 wv_9 wv_10 wv_11 wv_12 wf wf_1 wv_13 hi hi_1 hi_2 hi_3 hi_4 hi_5 hi_6 hi_7 hi_8 hsj9 hjj9 hse9 hff9 c49 c56 c63 fik_3 flk_3 vik_3 vlk_3 rk_3 gk_3_1 gk_3_2 gk_3_3 gk_3_4 gk_3_5 gk_3_6 gk_3_7 gk_3_8 gk_3_9 gk_3_10 gk_3_11 gk_3_12 tb_3 gk_3_0 tt_3 q0 q1 q2 q3 q4 q5 q6 q7 q8 q9 q10 q11 q12 q13 q14 q15 q16 q17 q18 q19 q20 q21; subst q0
  unfold PS_X12_sentence
  intro n hn h9
  (try simp only [q1, q2, q3, q4, q5, q6, q7, q8, q9, q10, q11, q12, q13, q14, q15, q16, q17, q18, q19, q20, q21]); have k9_0 : (0 : Int32).toInt = 0 := (by decide); have k9_1 : (1 : Int32).toInt = 1 := (by decide); have k9_2 : (200 : Int32).toInt = 200 := (by decide)
  have hK := SEP_bf hse9 (op_1 c49 hi) (op_1 c56 hi_5) gk_3_12 tb_3 n (by omega) h9
  rw [hK.1]
set_option maxHeartbeats 4000000 in
theorem PL_X12_sentence_3 {fi : Nat → Nat → Int32} {fl : Nat → Nat → Int64} {vi : Nat → Int32} {vl : Nat → Int64} {r : Int32} {fj : Nat → Nat → Int32} {fm : Nat → Nat → Int64} {vj : Nat → Int32} {vm : Nat → Int64} : RL_X12_sentence_3 fi fl vi vl r fj fm vj vm (PS_X12_sentence fi fl vi vl r fj fm vj vm) := by
  unfold RL_X12_sentence_3
  intro hp0 hp1 hp2 hp3 hp4 hp5 hp6 hp7 hp8 hp9 hp10 hp11 hp12 hp13 hp14 hp15 hp16 hp17 hp18 hp19 hp20 hp21 hp22 hp23 fik flk vik vlk uk gk_0 gk_1 gk_2 gk_3 gk_4 gk_5 fik_1 flk_1 vik_1 vlk_1 uk_1 gk_1_0 gk_1_1 gk_1_2 gk_1_3 gk_1_4 gk_1_5 w1 wv wv_1 wv_2 wv_3 wv_4 wv_5 wv_6 wv_7 wv_8 wv_9 wv_10 wv_11 wv_12 wf wf_1 wv_13 hi hi_1 hi_2 hi_3 hi_4 hi_5 hi_6 hi_7 hi_8 hsj9 hjj9 hse9 hff9 c49 c56 c63 fik_4 flk_4 vik_4 vlk_4 uk_4 gk_4_0 gk_4_1 gk_4_2 gk_4_3 gk_4_4 gk_4_5 fik_5 flk_5 vik_5 vlk_5 uk_5 gk_5_0 gk_5_1 gk_5_2 gk_5_3 gk_5_4 gk_5_5 gk_5_6 c80 fik_6 flk_6 vik_6 vlk_6 rk_6 gk_6_0 gk_6_1 gk_6_2 tt_4 q0 q1 q2 q3 q4 q5 q6 q7 q8 q9 q10 q11 q12 q13 q14 q15 q16 q17 q18 q19 q20 q21; subst q0
  unfold PS_X12_sentence
  intro n hn h9
  (try simp only [q1, q2, q3, q4, q5, q6, q7, q8, q9, q10, q11, q12, q13, q14, q15, q16, q17, q18, q19, q20, q21]); have k9_0 : (0 : Int32).toInt = 0 := (by decide); have k9_1 : (1 : Int32).toInt = 1 := (by decide); have k9_2 : (200 : Int32).toInt = 200 := (by decide); have k9_3 : (22 : Int32).toInt = 22 := (by decide)
  have hK := SEP_x hse9 (op_1 c49 hi) (op_1 c56 hi_5) c63 gk_4_5 gk_5_6 (op_o3 gk_5_5 (by omega) (by decide)) (by omega) (fk := (vik_6 0)) (fp := (vik_6 1)) (gk_6_2.1.trans (by decide)) gk_6_2.2 n (by omega) h9
  rw [hK.1]
theorem P_X12_sentence {fi : Nat → Nat → Int32} {fl : Nat → Nat → Int64} {vi : Nat → Int32} {vl : Nat → Int64} {r : Int32} {fj : Nat → Nat → Int32} {fm : Nat → Nat → Int64} {vj : Nat → Int32} {vm : Nat → Int64} (h : R_X12_sentence fi fl vi vl r fj fm vj vm) : ∀ n : Nat, (vi 1).toInt = (n : Int) → n ≤ 940 → (SR0 (trn (fi 0) n) n (ownB (fl 0)) (fl 1) ((fi 1) 0).toInt).1 = (vj 5).toInt := h (PS_X12_sentence fi fl vi vl r fj fm vj vm) PL_X12_sentence_0 PL_X12_sentence_1 PL_X12_sentence_2 PL_X12_sentence_3
