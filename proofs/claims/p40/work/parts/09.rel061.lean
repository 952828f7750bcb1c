set_option maxHeartbeats 4000000 in
theorem PL_X8_readFirstName_1 {fi : Nat → Nat → Int32} {fl : Nat → Nat → Int64} {vi : Nat → Int32} {vl : Nat → Int64} {r : Int32} {fj : Nat → Nat → Int32} {fm : Nat → Nat → Int64} {vj : Nat → Int32} {vm : Nat → Int64} : RL_X8_readFirstName_1 fi fl vi vl r fj fm vj vm (PS_X8_readFirstName fi fl vi vl r fj fm vj vm) := by
  unfold RL_X8_readFirstName_1
  intro hp5 hp6 fik flk vik vlk rk gk_0 gk_1 c23 fik_1 flk_1 vik_1 vlk_1 rk_1 gk_1_4 tb gk_1_0 fik_2 flk_2 vik_2 vlk_2 rk_2 tb_1 gk_2_0 q0 q1 q2 q3 q4 q5 q6 q7 q8 q9 q10; subst q0
  unfold PS_X8_readFirstName
  intro n m t hc H N O K hN hk1 hs9 hF hF9
  (try simp only [q1, q2, q3, q4, q5, q6, q7, q8, q9, q10]); have k9_0 : (0 : Int32).toInt = 0 := (by decide); have k9_1 : (1 : Int32).toInt = 1 := (by decide)
  have hc0 := hc
  obtain ⟨hn, hm, ht, ck, cp, ce, cw, cu, cg⟩ := hc0
  have hN9 := hN.1
  rw [RWn_f hN] at gk_1
  rcases gk_1_4 n m t hc with ⟨a1, a2, a3, a4, a5⟩ | ⟨a1, a2, a3, a4⟩ | ⟨a1, a2, a3, a4, a5⟩
  · have h5 := a2.1
    have hfo := kn_of cw gk_1 a2
    have hr8 := RWn_o hN (w := sW (trn (fi 0) n) n m t) (by omega)
    have hk0 : (fKn (trn (fi 0) n) n m (ownB (fl 1)) N 18 (H 0) t) = 0 := fKn_0 a2 (by omega)
    exfalso; omega
  · exact absurd (a1.symm.trans tb) (by decide)
  · exact absurd (a1.symm.trans tb) (by decide)
set_option maxHeartbeats 4000000 in
theorem PL_X8_readFirstName_2 {fi : Nat → Nat → Int32} {fl : Nat → Nat → Int64} {vi : Nat → Int32} {vl : Nat → Int64} {r : Int32} {fj : Nat → Nat → Int32} {fm : Nat → Nat → Int64} {vj : Nat → Int32} {vm : Nat → Int64} : RL_X8_readFirstName_2 fi fl vi vl r fj fm vj vm (PS_X8_readFirstName fi fl vi vl r fj fm vj vm) := by
  unfold RL_X8_readFirstName_2
  intro hp5 hp6 fik flk vik vlk rk gk_0 gk_1 c23 fik_1 flk_1 vik_1 vlk_1 rk_1 gk_1_4 tb gk_1_0 q0 q1 q2 q3 q4 q5 q6 q7 q8 q9 q10; subst q0
  unfold PS_X8_readFirstName
  intro n m t hc H N O K hN hk1 hs9 hF hF9
  (try simp only [q1, q2, q3, q4, q5, q6, q7, q8, q9, q10]); have k9_0 : (0 : Int32).toInt = 0 := (by decide); have k9_1 : (1 : Int32).toInt = 1 := (by decide)
  have hc0 := hc
  obtain ⟨hn, hm, ht, ck, cp, ce, cw, cu, cg⟩ := hc0
  have hN9 := hN.1
  rw [RWn_f hN] at gk_1
  rcases gk_1_4 n m t hc with ⟨a1, a2, a3, a4, a5⟩ | ⟨a1, a2, a3, a4⟩ | ⟨a1, a2, a3, a4, a5⟩
  · exact absurd (a1.symm.trans tb) (by decide)
  · have hk1 : (fKn (trn (fi 0) n) n m (ownB (fl 1)) N 18 (H 0) t) = 1 := fKn_1 a2
    exact LO_bad (by unfold lnCalled; rw [if_pos (by omega)]) (by decide) (by omega) a4
  · have hfo := kn_of cw gk_1 a2
    have hk3 : (fKn (trn (fi 0) n) n m (ownB (fl 1)) N 18 (H 0) t) = 3 := fKn_3 a2 (by omega)
    exact LO_bad (by unfold lnCalled; rw [if_pos (by omega)]) (by decide) (by omega) a5
set_option maxHeartbeats 4000000 in
theorem PL_X8_readFirstName_3 {fi : Nat → Nat → Int32} {fl : Nat → Nat → Int64} {vi : Nat → Int32} {vl : Nat → Int64} {r : Int32} {fj : Nat → Nat → Int32} {fm : Nat → Nat → Int64} {vj : Nat → Int32} {vm : Nat → Int64} : RL_X8_readFirstName_3 fi fl vi vl r fj fm vj vm (PS_X8_readFirstName fi fl vi vl r fj fm vj vm) := by
  unfold RL_X8_readFirstName_3
  intro hp5 hp6 fik flk vik vlk rk gk_0 gk_1 c23 c28 fik_3 flk_3 vik_3 vlk_3 rk_3 gk_3_4 tb_2 gk_3_0 fik_4 flk_4 vik_4 vlk_4 rk_4 tb_3 gk_4_0 f90_1 ef90_1 q0 q1 q2 q3 q4 q5 q6 q7 q8 q9 q10; subst q0
  unfold PS_X8_readFirstName
  intro n m t hc H N O K hN hk1 hs9 hF hF9
  (try simp only [q1, q2, q3, q4, q5, q6, q7, q8, q9, q10]); have k9_0 : (0 : Int32).toInt = 0 := (by decide); have k9_1 : (1 : Int32).toInt = 1 := (by decide)
  have hc0 := hc
  obtain ⟨hn, hm, ht, ck, cp, ce, cw, cu, cg⟩ := hc0
  have hN9 := hN.1
  rw [RWn_f hN] at gk_1
  rcases gk_3_4 n m t hc with ⟨a1, a2, a3, a4, a5⟩ | ⟨a1, a2, a3, a4⟩ | ⟨a1, a2, a3, a4, a5⟩
  · have h5 := a2.1
    have hfo := kn_of cw gk_1 a2
    have hr8 := RWn_o hN (w := sW (trn (fi 0) n) n m t) (by omega)
    have hk0 : (fKn (trn (fi 0) n) n m (ownB (fl 1)) N 18 (H 0) t) = 0 := fKn_0 a2 (by omega)
    exfalso; omega
  · exact absurd (a1.symm.trans tb_2) (by decide)
  · exact absurd (a1.symm.trans tb_2) (by decide)
set_option maxHeartbeats 4000000 in
theorem PL_X8_readFirstName_4 {fi : Nat → Nat → Int32} {fl : Nat → Nat → Int64} {vi : Nat → Int32} {vl : Nat → Int64} {r : Int32} {fj : Nat → Nat → Int32} {fm : Nat → Nat → Int64} {vj : Nat → Int32} {vm : Nat → Int64} : RL_X8_readFirstName_4 fi fl vi vl r fj fm vj vm (PS_X8_readFirstName fi fl vi vl r fj fm vj vm) := by
  unfold RL_X8_readFirstName_4
  intro hp5 hp6 fik flk vik vlk rk gk_0 gk_1 c23 c28 fik_3 flk_3 vik_3 vlk_3 rk_3 gk_3_4 tb_2 gk_3_0 fik_4 flk_4 vik_4 vlk_4 rk_4 tb_3 gk_4_0 q0 q1 q2 q3 q4 q5 q6 q7 q8 q9 q10; subst q0
  unfold PS_X8_readFirstName
  intro n m t hc H N O K hN hk1 hs9 hF hF9
  (try simp only [q1, q2, q3, q4, q5, q6, q7, q8, q9, q10]); have k9_0 : (0 : Int32).toInt = 0 := (by decide); have k9_1 : (1 : Int32).toInt = 1 := (by decide)
  have hc0 := hc
  obtain ⟨hn, hm, ht, ck, cp, ce, cw, cu, cg⟩ := hc0
  have hN9 := hN.1
  rw [RWn_f hN] at gk_1
  rcases gk_3_4 n m t hc with ⟨a1, a2, a3, a4, a5⟩ | ⟨a1, a2, a3, a4⟩ | ⟨a1, a2, a3, a4, a5⟩
  · have h5 := a2.1
    have hfo := kn_of cw gk_1 a2
    have hr8 := RWn_o hN (w := sW (trn (fi 0) n) n m t) (by omega)
    have hk0 : (fKn (trn (fi 0) n) n m (ownB (fl 1)) N 18 (H 0) t) = 0 := fKn_0 a2 (by omega)
    exfalso; omega
  · exact absurd (a1.symm.trans tb_2) (by decide)
  · exact absurd (a1.symm.trans tb_2) (by decide)
set_option maxHeartbeats 4000000 in
theorem PL_X8_readFirstName_5 {fi : Nat → Nat → Int32} {fl : Nat → Nat → Int64} {vi : Nat → Int32} {vl : Nat → Int64} {r : Int32} {fj : Nat → Nat → Int32} {fm : Nat → Nat → Int64} {vj : Nat → Int32} {vm : Nat → Int64} : RL_X8_readFirstName_5 fi fl vi vl r fj fm vj vm (PS_X8_readFirstName fi fl vi vl r fj fm vj vm) := by
  unfold RL_X8_readFirstName_5
  intro hp5 hp6 fik flk vik vlk rk gk_0 gk_1 c23 c28 fik_3 flk_3 vik_3 vlk_3 rk_3 gk_3_4 tb_2 gk_3_0 q0 q1 q2 q3 q4 q5 q6 q7 q8 q9 q10; subst q0
  unfold PS_X8_readFirstName
  intro n m t hc H N O K hN hk1 hs9 hF hF9
  (try simp only [q1, q2, q3, q4, q5, q6, q7, q8, q9, q10]); have k9_0 : (0 : Int32).toInt = 0 := (by decide); have k9_1 : (1 : Int32).toInt = 1 := (by decide)
  have hc0 := hc
  obtain ⟨hn, hm, ht, ck, cp, ce, cw, cu, cg⟩ := hc0
  have hN9 := hN.1
  rw [RWn_f hN] at gk_1
  rcases gk_3_4 n m t hc with ⟨a1, a2, a3, a4, a5⟩ | ⟨a1, a2, a3, a4⟩ | ⟨a1, a2, a3, a4, a5⟩
  · exact absurd (a1.symm.trans tb_2) (by decide)
  · have hk1 : (fKn (trn (fi 0) n) n m (ownB (fl 1)) N 18 (H 0) t) = 1 := fKn_1 a2
    exact LO_bad (by unfold lnCalled; rw [if_pos (by omega)]) (by decide) (by omega) a4
  · have hfo := kn_of cw gk_1 a2
    have hk3 : (fKn (trn (fi 0) n) n m (ownB (fl 1)) N 18 (H 0) t) = 3 := fKn_3 a2 (by omega)
    exact LO_bad (by unfold lnCalled; rw [if_pos (by omega)]) (by decide) (by omega) a5
set_option maxHeartbeats 4000000 in
theorem PL_X8_readFirstName_6 {fi : Nat → Nat → Int32} {fl : Nat → Nat → Int64} {vi : Nat → Int32} {vl : Nat → Int64} {r : Int32} {fj : Nat → Nat → Int32} {fm : Nat → Nat → Int64} {vj : Nat → Int32} {vm : Nat → Int64} : RL_X8_readFirstName_6 fi fl vi vl r fj fm vj vm (PS_X8_readFirstName fi fl vi vl r fj fm vj vm) := by
  unfold RL_X8_readFirstName_6
  intro hp5 hp6 fik flk vik vlk rk gk_0 gk_1 c23 c28 fik_5 flk_5 vik_5 vlk_5 rk_5 gk_5_1 tb_4 gk_5_0 fik_6 flk_6 vik_6 vlk_6 rk_6 gk_6_0 gk_6_2 q0 q1 q2 q3 q4 q5 q6 q7 q8 q9 q10; subst q0
  unfold PS_X8_readFirstName
  intro n m t hc H N O K hN hk1 hs9 hF hF9
  (try simp only [q1, q2, q3, q4, q5, q6, q7, q8, q9, q10]); have k9_0 : (0 : Int32).toInt = 0 := (by decide); have k9_1 : (1 : Int32).toInt = 1 := (by decide); have k9_2 : (3 : Int32).toInt = 3 := (by decide)
  have hc0 := hc
  obtain ⟨hn, hm, ht, ck, cp, ce, cw, cu, cg⟩ := hc0
  have hN9 := hN.1
  rw [RWn_f hN] at gk_1
  rw [cw (by omega)] at gk_1
  have hr8 := RWn_o hN (w := sW (trn (fi 0) n) n m t) (by omega)
  have hk0 : (fKn (trn (fi 0) n) n m (ownB (fl 1)) N 18 (H 0) t) = 0 := fKn_0 ⟨by omega, hr8.1⟩ (by omega)
  rcases gk_5_1 with ⟨v1, j, v2, v3⟩ | ⟨v1, v2⟩
  · have hj : ¬ j = K := (fun c => by rw [c] at v3; omega)
    have hb : borne H (fdx N 18 (sW (trn (fi 0) n) n m t) (H 0).toNat) K = true := (borne_t K).mpr ⟨j, by omega, by have h5 := hF j (by omega); omega⟩
    exact LO_bad (by unfold lnCalled; rw [if_neg (fun c => c hk0), if_pos hb]) (by decide) (by omega) (by omega)
  · exact absurd (v1.symm.trans tb_4) (by decide)
set_option maxHeartbeats 4000000 in
theorem PL_X8_readFirstName_7 {fi : Nat → Nat → Int32} {fl : Nat → Nat → Int64} {vi : Nat → Int32} {vl : Nat → Int64} {r : Int32} {fj : Nat → Nat → Int32} {fm : Nat → Nat → Int64} {vj : Nat → Int32} {vm : Nat → Int64} : RL_X8_readFirstName_7 fi fl vi vl r fj fm vj vm (PS_X8_readFirstName fi fl vi vl r fj fm vj vm) := by
  unfold RL_X8_readFirstName_7
  intro hp5 hp6 fik flk vik vlk rk gk_0 gk_1 c23 c28 fik_5 flk_5 vik_5 vlk_5 rk_5 gk_5_1 tb_4 gk_5_0 fik_7 flk_7 vik_7 vlk_7 rk_7 gk_7_4 tb_5 gk_7_0 fik_8 flk_8 vik_8 vlk_8 rk_8 tb_6 gk_8_0 f90_2 ef90_2 q0 q1 q2 q3 q4 q5 q6 q7 q8 q9 q10; subst q0
  unfold PS_X8_readFirstName
  intro n m t hc H N O K hN hk1 hs9 hF hF9
  (try simp only [q1, q2, q3, q4, q5, q6, q7, q8, q9, q10]); have k9_0 : (0 : Int32).toInt = 0 := (by decide); have k9_1 : (1 : Int32).toInt = 1 := (by decide)
  have hc0 := hc
  obtain ⟨hn, hm, ht, ck, cp, ce, cw, cu, cg⟩ := hc0
  have hN9 := hN.1
  rw [RWn_f hN] at gk_1
  rcases gk_7_4 n m t hc with ⟨a1, a2, a3, a4, a5⟩ | ⟨a1, a2, a3, a4⟩ | ⟨a1, a2, a3, a4, a5⟩
  · have h5 := a2.1
    have hfo := kn_of cw gk_1 a2
    have hr8 := RWn_o hN (w := sW (trn (fi 0) n) n m t) (by omega)
    have hk0 : (fKn (trn (fi 0) n) n m (ownB (fl 1)) N 18 (H 0) t) = 0 := fKn_0 a2 (by omega)
    have hb : ¬ borne H (fdx N 18 (sW (trn (fi 0) n) n m t) (H 0).toNat) K = true := (fun c => by
      obtain ⟨j, v2, v3⟩ := (borne_t K).mp c
      rcases gk_5_1 with ⟨v1, v4⟩ | ⟨v1, v4⟩
      · omega
      · have h6 := hF j v2
        exact v4 j (by omega) (by omega))
    exact LO_good (by unfold lnCalled; rw [if_neg (fun c => c hk0), if_neg hb]) (by decide) ⟨a5, _, rfl, rfl, rfl, (fun j hj => by rw [ef90_2]; exact if_neg (fun c => hj (c.trans (show (vi 0).toInt.toNat = _ by omega)))), (by rw [ef90_2, show K = (vi 0).toNatClampNeg from (show _ = (vi 0).toInt.toNat by omega), upd_eq]; omega)⟩
  · exact absurd (a1.symm.trans tb_5) (by decide)
  · exact absurd (a1.symm.trans tb_5) (by decide)
set_option maxHeartbeats 4000000 in
theorem PL_X8_readFirstName_8 {fi : Nat → Nat → Int32} {fl : Nat → Nat → Int64} {vi : Nat → Int32} {vl : Nat → Int64} {r : Int32} {fj : Nat → Nat → Int32} {fm : Nat → Nat → Int64} {vj : Nat → Int32} {vm : Nat → Int64} : RL_X8_readFirstName_8 fi fl vi vl r fj fm vj vm (PS_X8_readFirstName fi fl vi vl r fj fm vj vm) := by
  unfold RL_X8_readFirstName_8
  intro hp5 hp6 fik flk vik vlk rk gk_0 gk_1 c23 c28 fik_5 flk_5 vik_5 vlk_5 rk_5 gk_5_1 tb_4 gk_5_0 fik_7 flk_7 vik_7 vlk_7 rk_7 gk_7_4 tb_5 gk_7_0 fik_8 flk_8 vik_8 vlk_8 rk_8 tb_6 gk_8_0 q0 q1 q2 q3 q4 q5 q6 q7 q8 q9 q10; subst q0
  unfold PS_X8_readFirstName
  intro n m t hc H N O K hN hk1 hs9 hF hF9
  (try simp only [q1, q2, q3, q4, q5, q6, q7, q8, q9, q10]); have k9_0 : (0 : Int32).toInt = 0 := (by decide); have k9_1 : (1 : Int32).toInt = 1 := (by decide)
  have hc0 := hc
  obtain ⟨hn, hm, ht, ck, cp, ce, cw, cu, cg⟩ := hc0
  have hN9 := hN.1
  rw [RWn_f hN] at gk_1
  rcases gk_7_4 n m t hc with ⟨a1, a2, a3, a4, a5⟩ | ⟨a1, a2, a3, a4⟩ | ⟨a1, a2, a3, a4, a5⟩
  · have h5 := a2.1
    have hfo := kn_of cw gk_1 a2
    have hr8 := RWn_o hN (w := sW (trn (fi 0) n) n m t) (by omega)
    have hk0 : (fKn (trn (fi 0) n) n m (ownB (fl 1)) N 18 (H 0) t) = 0 := fKn_0 a2 (by omega)
    exfalso; omega
  · exact absurd (a1.symm.trans tb_5) (by decide)
  · exact absurd (a1.symm.trans tb_5) (by decide)
set_option maxHeartbeats 4000000 in
theorem PL_X8_readFirstName_9 {fi : Nat → Nat → Int32} {fl : Nat → Nat → Int64} {vi : Nat → Int32} {vl : Nat → Int64} {r : Int32} {fj : Nat → Nat → Int32} {fm : Nat → Nat → Int64} {vj : Nat → Int32} {vm : Nat → Int64} : RL_X8_readFirstName_9 fi fl vi vl r fj fm vj vm (PS_X8_readFirstName fi fl vi vl r fj fm vj vm) := by
  unfold RL_X8_readFirstName_9
  intro hp5 hp6 fik flk vik vlk rk gk_0 gk_1 c23 c28 fik_5 flk_5 vik_5 vlk_5 rk_5 gk_5_1 tb_4 gk_5_0 fik_7 flk_7 vik_7 vlk_7 rk_7 gk_7_4 tb_5 gk_7_0 q0 q1 q2 q3 q4 q5 q6 q7 q8 q9 q10; subst q0
  unfold PS_X8_readFirstName
  intro n m t hc H N O K hN hk1 hs9 hF hF9
  (try simp only [q1, q2, q3, q4, q5, q6, q7, q8, q9, q10]); have k9_0 : (0 : Int32).toInt = 0 := (by decide); have k9_1 : (1 : Int32).toInt = 1 := (by decide)
  have hc0 := hc
  obtain ⟨hn, hm, ht, ck, cp, ce, cw, cu, cg⟩ := hc0
  have hN9 := hN.1
  rw [RWn_f hN] at gk_1
  rcases gk_7_4 n m t hc with ⟨a1, a2, a3, a4, a5⟩ | ⟨a1, a2, a3, a4⟩ | ⟨a1, a2, a3, a4, a5⟩
  · exact absurd (a1.symm.trans tb_5) (by decide)
  · have hk1 : (fKn (trn (fi 0) n) n m (ownB (fl 1)) N 18 (H 0) t) = 1 := fKn_1 a2
    exact LO_bad (by unfold lnCalled; rw [if_pos (by omega)]) (by decide) (by omega) a4
  · have hfo := kn_of cw gk_1 a2
    have hk3 : (fKn (trn (fi 0) n) n m (ownB (fl 1)) N 18 (H 0) t) = 3 := fKn_3 a2 (by omega)
    exact LO_bad (by unfold lnCalled; rw [if_pos (by omega)]) (by decide) (by omega) a5
theorem P_X8_readFirstName {fi : Nat → Nat → Int32} {fl : Nat → Nat → Int64} {vi : Nat → Int32} {vl : Nat → Int64} {r : Int32} {fj : Nat → Nat → Int32} {fm : Nat → Nat → Int64} {vj : Nat → Int32} {vm : Nat → Int64} (h : R_X8_readFirstName fi fl vi vl r fj fm vj vm) : ∀ n m t : Nat, CC (trn (fi 0) n) n m t (vi 3) (vi 4) (vi 6) (vi 7) (vi 5) (vl 0) (vi 8) (vi 9) → ∀ (H : Nat → Int) (N : Nat → Int64) (O : Nat → Bool) (K : Nat), (RWn (ownB (fl 1)) (vi 13) (fl 0) H N) → (vi 0).toInt = (K : Int) → (vi 14).toInt = (K : Int) + 1 → (∀ q : Nat, q < K → ((fi 1) q).toInt + 1 = H (38 + q)) → ((fi 1) K).toInt = -1 → LO (lnCalled (trn (fi 0) n) n m (ownB (fl 1)) H N O K t) r (vj 6) (vj 7) (fun t' H' N' O' => CC (trn (fi 0) n) n m t' (vi 3) (vi 4) (vj 1) (vj 2) (vj 5) (vm 0) (vj 4) (vj 3) ∧ ∃ i : Int, H' = setI (setI H (38 + K) (i + 1)) 1 ((K : Int) + 1) ∧ N' = N ∧ O' = O ∧ (∀ j : Nat, ¬ j = K → (fj 0) j = (fi 1) j) ∧ ((fj 0) K).toInt = i) := h (PS_X8_readFirstName fi fl vi vl r fj fm vj vm) PL_X8_readFirstName_0 PL_X8_readFirstName_1 PL_X8_readFirstName_2 PL_X8_readFirstName_3 PL_X8_readFirstName_4 PL_X8_readFirstName_5 PL_X8_readFirstName_6 PL_X8_readFirstName_7 PL_X8_readFirstName_8 PL_X8_readFirstName_9
def RL_X8_readSoulLine_0 (fi : Nat → Nat → Int32) (fl : Nat → Nat → Int64) (vi : Nat → Int32) (vl : Nat → Int64) (r : Int32) (fj : Nat → Nat → Int32) (fm : Nat → Nat → Int64) (vj : Nat → Int32) (vm : Nat → Int64) (Q9 : Prop) : Prop :=
  (0 ≤ (vi 1).toInt ∧ (vi 1).toInt ≤ 9) → (0 ≤ (vi 2).toInt ∧ (vi 2).toInt ≤ 9) → ((vi 2).toInt < 9) → ∀ (fik : Nat → Nat → Int32), ∀ (flk : Nat → Nat → Int64), ∀ (vik : Nat → Int32), ∀ (vlk : Nat → Int64), ∀ (uk : Int32), (∀ n m : Nat, (vi 4).toInt = (n : Int) → (vi 5).toInt = (m : Int) → (vi 6).toInt ≤ (vi 4).toInt → CC (trn (fi 0) n) n m ((vi 6).toInt).toNat (vi 4) (vi 5) (vik 0) (vik 1) (vik 4) (vlk 0) (vik 3) (vik 2)) → ∀ (fik_1 : Nat → Nat → Int32), ∀ (flk_1 : Nat → Nat → Int64), ∀ (vik_1 : Nat → Int32), ∀ (vlk_1 : Nat → Int64), ∀ (rk_1 : Int32), (∀ n m t : Nat, CC (trn (fi 0) n) n m t (vi 4) (vi 5) (vik 0) (vik 1) (vik 4) (vlk 0) (vik 3) (vik 2) → ∀ (H : Nat → Int) (N : Nat → Int64), (RWn (ownB (fl 0)) (vi 1) (fl 1) H N) → (RWs (ownB (fl 0)) (vi 2) (fl 2) H N) → (rk_1.toInt = 1 ∧ (fNew (trn (fi 0) n) n m (ownB (fl 0)) H N t) = 0 ∧ (wMay (trn (fi 0) n) n m (ownB (fl 0)) t) ∧ CC (trn (fi 0) n) n m (sX (trn (fi 0) n) n m t) (vi 4) (vi 5) (vik_1 2) (vik_1 3) (vik_1 6) (vlk_1 0) (vik_1 5) (vik_1 4)) ∨ (rk_1.toInt = 0 ∧ ¬ (fNew (trn (fi 0) n) n m (ownB (fl 0)) H N t) = 0 ∧ (vik_1 0).toInt = (fNew (trn (fi 0) n) n m (ownB (fl 0)) H N t) ∧ (vik_1 1).toInt = ((sPn (trn (fi 0) n) n m t) : Int))) → (rk_1.toInt = 1) → (True) → ∀ (fik_2 : Nat → Nat → Int32), ∀ (flk_2 : Nat → Nat → Int64), ∀ (vik_2 : Nat → Int32), ∀ (vlk_2 : Nat → Int64), ∀ (rk_2 : Int32), (∀ n m t : Nat, CC (trn (fi 0) n) n m t (vi 4) (vi 5) (vik_1 2) (vik_1 3) (vik_1 6) (vlk_1 0) (vik_1 5) (vik_1 4) → (rk_2.toInt = 1 ∧ (fNum (trn (fi 0) n) n m (0 : Int) (999 : Int) t) = 0 ∧ (vik_2 2).toInt = (sU (trn (fi 0) n) n m t) ∧ (sK (trn (fi 0) n) n m t) = 2 ∧ (0 : Int) ≤ (sU (trn (fi 0) n) n m t) ∧ (sU (trn (fi 0) n) n m t) ≤ (999 : Int) ∧ CC (trn (fi 0) n) n m (sX (trn (fi 0) n) n m t) (vi 4) (vi 5) (vik_2 3) (vik_2 4) (vik_2 7) (vlk_2 0) (vik_2 6) (vik_2 5)) ∨ (rk_2.toInt = 0 ∧ ¬ (fNum (trn (fi 0) n) n m (0 : Int) (999 : Int) t) = 0 ∧ (vik_2 0).toInt = (fNum (trn (fi 0) n) n m (0 : Int) (999 : Int) t) ∧ (vik_2 1).toInt = ((sPn (trn (fi 0) n) n m t) : Int))) → (rk_2.toInt = 1) → (True) → ∀ (fik_3 : Nat → Nat → Int32), ∀ (flk_3 : Nat → Nat → Int64), ∀ (vik_3 : Nat → Int32), ∀ (vlk_3 : Nat → Int64), ∀ (uk_3 : Int32), ((vi 2).toInt < 9 → (flk_3 0) = vp_updL (fl 2) ((vi 2)).toNatClampNeg (vlk 0) ∧ (fik_3 1) = upd (fi 2) ((vi 2)).toNatClampNeg (-1) ∧ (fik_3 2) = upd (fi 3) ((vi 2)).toNatClampNeg (-1) ∧ (fik_3 3) = upd (fi 4) ((vi 2)).toNatClampNeg (-1) ∧ (vik_3 0).toInt = (vi 2).toInt + 1 ∧ ∀ j : Nat, (fik_3 4) j = if 9 * (vi 2).toInt ≤ (j : Int) ∧ (j : Int) < 9 * (vi 2).toInt + 9 then 0 else (fi 5) j) → ∀ (fik_4 : Nat → Nat → Int32), ∀ (flk_4 : Nat → Nat → Int64), ∀ (vik_4 : Nat → Int32), ∀ (vlk_4 : Nat → Int64), ∀ (rk_4 : Int32), (DJ (rk_4.toInt = 1 ∧ (vik_2 3).toInt = 1 ∧ (vlk_2 0) = (109270082020708 : Int64)) (rk_4.toInt = 0 ∧ ¬ ((vik_2 3).toInt = 1 ∧ (vlk_2 0) = (109270082020708 : Int64)))) → (rk_4.toInt = 1) → (True) → ∀ (fik_5 : Nat → Nat → Int32), ∀ (flk_5 : Nat → Nat → Int64), ∀ (vik_5 : Nat → Int32), ∀ (vlk_5 : Nat → Int64), ∀ (uk_5 : Int32), (∀ n m : Nat, (vi 4).toInt = (n : Int) → (vi 5).toInt = (m : Int) → (vik_2 7).toInt ≤ (vi 4).toInt → CC (trn (fi 0) n) n m ((vik_2 7).toInt).toNat (vi 4) (vi 5) (vik_5 0) (vik_5 1) (vik_5 4) (vlk_5 0) (vik_5 3) (vik_5 2)) → ∀ (z104 : Int32), (z104 = (vik_3 0) - (1 : Int32)) → (z104.toInt = (vik_3 0).toInt - 1) → ∀ (fik_6 : Nat → Nat → Int32), ∀ (flk_6 : Nat → Nat → Int64), ∀ (vik_6 : Nat → Int32), ∀ (vlk_6 : Nat → Int64), ∀ (rk_6 : Int32), (∀ n m t : Nat, CC (trn (fi 0) n) n m t (vi 4) (vi 5) (vik_5 0) (vik_5 1) (vik_5 4) (vlk_5 0) (vik_5 3) (vik_5 2) → ∀ (H : Nat → Int) (N : Nat → Int64) (O : Nat → Bool) (K : Nat), (RWn (ownB (fl 0)) (vi 1) (fl 1) H N) → z104.toInt = (K : Int) → (vik_3 0).toInt = (K : Int) + 1 → (∀ q : Nat, q < K → ((fik_3 1) q).toInt + 1 = H (38 + q)) → ((fik_3 1) K).toInt = -1 → LO (lnCalled (trn (fi 0) n) n m (ownB (fl 0)) H N O K t) rk_6 (vik_6 6) (vik_6 7) (fun t' H' N' O' => CC (trn (fi 0) n) n m t' (vi 4) (vi 5) (vik_6 1) (vik_6 2) (vik_6 5) (vlk_6 0) (vik_6 4) (vik_6 3) ∧ ∃ i : Int, H' = setI (setI H (38 + K) (i + 1)) 1 ((K : Int) + 1) ∧ N' = N ∧ O' = O ∧ (∀ j : Nat, ¬ j = K → (fik_6 0) j = (fik_3 1) j) ∧ ((fik_6 0) K).toInt = i)) → (rk_6.toInt = 1) → (True) → (r = (1 : Int32)) → (fj 0 = (fik_3 0)) → (fj 1 = (fik_6 0)) → (fj 2 = (fik_3 2)) → (fj 3 = (fik_3 3)) → (fj 4 = (fik_3 4)) → (fm 0 = (flk_3 0)) → (vj 0 = (vik_6 1)) → (vj 1 = (vik_6 2)) → (vj 2 = (vik_6 3)) → (vj 3 = (vik_6 4)) → (vj 4 = (vik_6 5)) → (vj 5 = (vik_6 6)) → (vj 6 = (vik_6 7)) → (vj 7 = (vik_6 0)) → (vj 8 = (vik_3 0)) → (vm 0 = (vlk_6 0)) → Q9
