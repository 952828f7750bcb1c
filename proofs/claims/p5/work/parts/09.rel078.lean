set_option maxHeartbeats 4000000 in
theorem PL_X8_readWorth_7 {fi : Nat → Nat → Int32} {fl : Nat → Nat → Int64} {vi : Nat → Int32} {vl : Nat → Int64} {r : Int32} {fj : Nat → Nat → Int32} {fm : Nat → Nat → Int64} {vj : Nat → Int32} {vm : Nat → Int64} : RL_X8_readWorth_7 fi fl vi vl r fj fm vj vm (PS_X8_readWorth fi fl vi vl r fj fm vj vm) := by
  unfold RL_X8_readWorth_7
  intro hp5 hp6 fik flk vik vlk rk gk_0 gk_1 fik_1 flk_1 vik_1 vlk_1 rk_1 gk_1_5 tb gk_1_0 c42 fik_7 flk_7 vik_7 vlk_7 rk_7 gk_7_0 gk_7_1 fik_8 flk_8 vik_8 vlk_8 rk_8 gk_8_0 c67 fik_9 flk_9 vik_9 vlk_9 rk_9 gk_9_0 gk_9_1 fik_10 flk_10 vik_10 vlk_10 rk_10 gk_10_5 tb_5 gk_10_0 fik_11 flk_11 vik_11 vlk_11 rk_11 gk_11_5 tb_6 gk_11_0 fik_12 flk_12 vik_12 vlk_12 rk_12 tb_7 gk_12_0 q0 q1 q2 q3 q4 q5 q6 q7 q8 q9 q10; subst q0
  unfold PS_X8_readWorth
  intro n m t hc H N O hN hS hV
  (try simp only [q1, q2, q3, q4, q5, q6, q7, q8, q9, q10]); have k9_0 : (0 : Int32).toInt = 0 := (by decide); have k9_1 : (1 : Int32).toInt = 1 := (by decide)
  have hc0 := hc
  obtain ⟨hn, hm, ht, ck, cp, ce, cw, cu, cg⟩ := hc0
  have hN9 := hN.1; have hS9 := hS.1
  rw [RWs_f hS] at gk_1
  rcases gk_1_5 n m t hc with ⟨a1, a2, a3, a4, a5⟩ | ⟨a1, a2, a3, a4⟩ | ⟨a1, a2, a3, a4, a5⟩
  · have hfo := kn_of cw gk_1 a2
    have hr9 := RWs_o hS (w := sW (trn (fi 0) n) n m t) (fun c => a3 (hfo.trans c))
    have hk0 : (fKn (trn (fi 0) n) n m (ownB (fl 1)) N 27 (H 1) t) = 0 := fKn_0 a2 (fun c => a3 (hfo.trans c))
    have hd0 := a5
    obtain ⟨dn, dm, dt, dk, dp, de, dw, du, dg⟩ := hd0
    rw [RWn_f hN] at gk_7_1
    rw [RWn_f hN] at gk_9_1
    rcases gk_10_5 n m _ a5 with ⟨b1, b2, b3, b4, b5⟩ | ⟨b1, b2, b3, b4⟩ | ⟨b1, b2, b3, b4, b5⟩
    · have hfo2 := kn_of dw gk_9_1 b2
      have hk2 : (fKn (trn (fi 0) n) n m (ownB (fl 1)) N 18 (H 0) (sX (trn (fi 0) n) n m t)) = 0 := fKn_0 b2 (fun c => b3 (hfo2.trans c))
      have hr8 := RWn_o hN (w := sW (trn (fi 0) n) n m (sX (trn (fi 0) n) n m t)) (fun c => b3 (hfo2.trans c))
      have hV9 := hV (fdx N 27 (sW (trn (fi 0) n) n m t) (H 1).toNat).toNat (by omega) (fdx N 18 (sW (trn (fi 0) n) n m (sX (trn (fi 0) n) n m t)) (H 0).toNat).toNat (by omega)
      rw [dw b2.1] at gk_7_1
      have hz9 : ((fi 1) (9 * (fdx N 27 (sW (trn (fi 0) n) n m t) (H 1).toNat).toNat + (fdx N 18 (sW (trn (fi 0) n) n m (sX (trn (fi 0) n) n m t)) (H 0).toNat).toNat)).toInt = 0 := by
        rcases gk_8_0 with ⟨v1, v2, v3, v4, v5⟩ | ⟨v1, v2⟩
        · rw [show (vik_1 0).toInt = fdx N 27 (sW (trn (fi 0) n) n m t) (H 1).toNat from a4.trans hfo, show rk_7.toInt = fdx N 18 (sW (trn (fi 0) n) n m (sX (trn (fi 0) n) n m t)) (H 0).toNat from gk_7_1] at v5
          have h5 := congrArg Int32.toInt v5
          omega
        · exfalso; omega
      rcases gk_11_5 n m _ b5 with ⟨c1, c2, c3, c4, c5, c6, c7⟩ | ⟨c1, c2, c3, c4⟩
      · exfalso; omega
      · exact absurd (c1.symm.trans tb_6) (by decide)
    · exact absurd (b1.symm.trans tb_5) (by decide)
    · exact absurd (b1.symm.trans tb_5) (by decide)
  · exact absurd (a1.symm.trans tb) (by decide)
  · exact absurd (a1.symm.trans tb) (by decide)
set_option maxHeartbeats 4000000 in
theorem PL_X8_readWorth_8 {fi : Nat → Nat → Int32} {fl : Nat → Nat → Int64} {vi : Nat → Int32} {vl : Nat → Int64} {r : Int32} {fj : Nat → Nat → Int32} {fm : Nat → Nat → Int64} {vj : Nat → Int32} {vm : Nat → Int64} : RL_X8_readWorth_8 fi fl vi vl r fj fm vj vm (PS_X8_readWorth fi fl vi vl r fj fm vj vm) := by
  unfold RL_X8_readWorth_8
  intro hp5 hp6 fik flk vik vlk rk gk_0 gk_1 fik_1 flk_1 vik_1 vlk_1 rk_1 gk_1_5 tb gk_1_0 c42 fik_7 flk_7 vik_7 vlk_7 rk_7 gk_7_0 gk_7_1 fik_8 flk_8 vik_8 vlk_8 rk_8 gk_8_0 c67 fik_9 flk_9 vik_9 vlk_9 rk_9 gk_9_0 gk_9_1 fik_10 flk_10 vik_10 vlk_10 rk_10 gk_10_5 tb_5 gk_10_0 fik_11 flk_11 vik_11 vlk_11 rk_11 gk_11_5 tb_6 gk_11_0 q0 q1 q2 q3 q4 q5 q6 q7 q8 q9 q10; subst q0
  unfold PS_X8_readWorth
  intro n m t hc H N O hN hS hV
  (try simp only [q1, q2, q3, q4, q5, q6, q7, q8, q9, q10]); have k9_0 : (0 : Int32).toInt = 0 := (by decide); have k9_1 : (1 : Int32).toInt = 1 := (by decide)
  have hc0 := hc
  obtain ⟨hn, hm, ht, ck, cp, ce, cw, cu, cg⟩ := hc0
  have hN9 := hN.1; have hS9 := hS.1
  rw [RWs_f hS] at gk_1
  rcases gk_1_5 n m t hc with ⟨a1, a2, a3, a4, a5⟩ | ⟨a1, a2, a3, a4⟩ | ⟨a1, a2, a3, a4, a5⟩
  · have hfo := kn_of cw gk_1 a2
    have hr9 := RWs_o hS (w := sW (trn (fi 0) n) n m t) (fun c => a3 (hfo.trans c))
    have hk0 : (fKn (trn (fi 0) n) n m (ownB (fl 1)) N 27 (H 1) t) = 0 := fKn_0 a2 (fun c => a3 (hfo.trans c))
    have hd0 := a5
    obtain ⟨dn, dm, dt, dk, dp, de, dw, du, dg⟩ := hd0
    rw [RWn_f hN] at gk_7_1
    rw [RWn_f hN] at gk_9_1
    rcases gk_10_5 n m _ a5 with ⟨b1, b2, b3, b4, b5⟩ | ⟨b1, b2, b3, b4⟩ | ⟨b1, b2, b3, b4, b5⟩
    · have hfo2 := kn_of dw gk_9_1 b2
      have hk2 : (fKn (trn (fi 0) n) n m (ownB (fl 1)) N 18 (H 0) (sX (trn (fi 0) n) n m t)) = 0 := fKn_0 b2 (fun c => b3 (hfo2.trans c))
      have hr8 := RWn_o hN (w := sW (trn (fi 0) n) n m (sX (trn (fi 0) n) n m t)) (fun c => b3 (hfo2.trans c))
      have hV9 := hV (fdx N 27 (sW (trn (fi 0) n) n m t) (H 1).toNat).toNat (by omega) (fdx N 18 (sW (trn (fi 0) n) n m (sX (trn (fi 0) n) n m t)) (H 0).toNat).toNat (by omega)
      rw [dw b2.1] at gk_7_1
      have hz9 : ((fi 1) (9 * (fdx N 27 (sW (trn (fi 0) n) n m t) (H 1).toNat).toNat + (fdx N 18 (sW (trn (fi 0) n) n m (sX (trn (fi 0) n) n m t)) (H 0).toNat).toNat)).toInt = 0 := by
        rcases gk_8_0 with ⟨v1, v2, v3, v4, v5⟩ | ⟨v1, v2⟩
        · rw [show (vik_1 0).toInt = fdx N 27 (sW (trn (fi 0) n) n m t) (H 1).toNat from a4.trans hfo, show rk_7.toInt = fdx N 18 (sW (trn (fi 0) n) n m (sX (trn (fi 0) n) n m t)) (H 0).toNat from gk_7_1] at v5
          have h5 := congrArg Int32.toInt v5
          omega
        · exfalso; omega
      rcases gk_11_5 n m _ b5 with ⟨c1, c2, c3, c4, c5, c6, c7⟩ | ⟨c1, c2, c3, c4⟩
      · exact absurd (c1.symm.trans tb_6) (by decide)
      · exact LO_bad (by unfold lnWorth; rw [if_neg (fun c => c hk0), if_neg (fun c => c hk2), if_neg (by omega), if_pos c2]) (by decide) c3 c4
    · exact absurd (b1.symm.trans tb_5) (by decide)
    · exact absurd (b1.symm.trans tb_5) (by decide)
  · exact absurd (a1.symm.trans tb) (by decide)
  · exact absurd (a1.symm.trans tb) (by decide)
set_option maxHeartbeats 4000000 in
theorem PL_X8_readWorth_9 {fi : Nat → Nat → Int32} {fl : Nat → Nat → Int64} {vi : Nat → Int32} {vl : Nat → Int64} {r : Int32} {fj : Nat → Nat → Int32} {fm : Nat → Nat → Int64} {vj : Nat → Int32} {vm : Nat → Int64} : RL_X8_readWorth_9 fi fl vi vl r fj fm vj vm (PS_X8_readWorth fi fl vi vl r fj fm vj vm) := by
  unfold RL_X8_readWorth_9
  intro hp5 hp6 fik flk vik vlk rk gk_0 gk_1 fik_1 flk_1 vik_1 vlk_1 rk_1 gk_1_5 tb gk_1_0 c42 fik_7 flk_7 vik_7 vlk_7 rk_7 gk_7_0 gk_7_1 fik_8 flk_8 vik_8 vlk_8 rk_8 gk_8_0 c67 fik_9 flk_9 vik_9 vlk_9 rk_9 gk_9_0 gk_9_1 fik_10 flk_10 vik_10 vlk_10 rk_10 gk_10_5 tb_5 gk_10_0 q0 q1 q2 q3 q4 q5 q6 q7 q8 q9 q10; subst q0
  unfold PS_X8_readWorth
  intro n m t hc H N O hN hS hV
  (try simp only [q1, q2, q3, q4, q5, q6, q7, q8, q9, q10]); have k9_0 : (0 : Int32).toInt = 0 := (by decide); have k9_1 : (1 : Int32).toInt = 1 := (by decide)
  have hc0 := hc
  obtain ⟨hn, hm, ht, ck, cp, ce, cw, cu, cg⟩ := hc0
  have hN9 := hN.1; have hS9 := hS.1
  rw [RWs_f hS] at gk_1
  rcases gk_1_5 n m t hc with ⟨a1, a2, a3, a4, a5⟩ | ⟨a1, a2, a3, a4⟩ | ⟨a1, a2, a3, a4, a5⟩
  · have hfo := kn_of cw gk_1 a2
    have hr9 := RWs_o hS (w := sW (trn (fi 0) n) n m t) (fun c => a3 (hfo.trans c))
    have hk0 : (fKn (trn (fi 0) n) n m (ownB (fl 1)) N 27 (H 1) t) = 0 := fKn_0 a2 (fun c => a3 (hfo.trans c))
    have hd0 := a5
    obtain ⟨dn, dm, dt, dk, dp, de, dw, du, dg⟩ := hd0
    rw [RWn_f hN] at gk_7_1
    rw [RWn_f hN] at gk_9_1
    rcases gk_10_5 n m _ a5 with ⟨b1, b2, b3, b4, b5⟩ | ⟨b1, b2, b3, b4⟩ | ⟨b1, b2, b3, b4, b5⟩
    · exact absurd (b1.symm.trans tb_5) (by decide)
    · have hk1 : (fKn (trn (fi 0) n) n m (ownB (fl 1)) N 18 (H 0) (sX (trn (fi 0) n) n m t)) = 1 := fKn_1 b2
      exact LO_bad (by unfold lnWorth; rw [if_neg (fun c => c hk0), if_pos (by rw [hk1]; decide)]) (by decide) (b3.trans hk1.symm) b4
    · have hfo2 := kn_of dw gk_9_1 b2
      have hk3 : (fKn (trn (fi 0) n) n m (ownB (fl 1)) N 18 (H 0) (sX (trn (fi 0) n) n m t)) = 3 := fKn_3 b2 (hfo2.symm.trans b3)
      exact LO_bad (by unfold lnWorth; rw [if_neg (fun c => c hk0), if_pos (by rw [hk3]; decide)]) (by decide) (b4.trans hk3.symm) b5
  · exact absurd (a1.symm.trans tb) (by decide)
  · exact absurd (a1.symm.trans tb) (by decide)
set_option maxHeartbeats 4000000 in
theorem PL_X8_readWorth_10 {fi : Nat → Nat → Int32} {fl : Nat → Nat → Int64} {vi : Nat → Int32} {vl : Nat → Int64} {r : Int32} {fj : Nat → Nat → Int32} {fm : Nat → Nat → Int64} {vj : Nat → Int32} {vm : Nat → Int64} : RL_X8_readWorth_10 fi fl vi vl r fj fm vj vm (PS_X8_readWorth fi fl vi vl r fj fm vj vm) := by
  unfold RL_X8_readWorth_10
  intro hp5 hp6 fik flk vik vlk rk gk_0 gk_1 fik_1 flk_1 vik_1 vlk_1 rk_1 gk_1_5 tb gk_1_0 c42 fik_7 flk_7 vik_7 vlk_7 rk_7 gk_7_0 gk_7_1 fik_8 flk_8 vik_8 vlk_8 rk_8 gk_8_0 c67 fik_14 flk_14 vik_14 vlk_14 rk_14 gk_14_0 gk_14_2 q0 q1 q2 q3 q4 q5 q6 q7 q8 q9 q10; subst q0
  unfold PS_X8_readWorth
  intro n m t hc H N O hN hS hV
  (try simp only [q1, q2, q3, q4, q5, q6, q7, q8, q9, q10]); have k9_0 : (0 : Int32).toInt = 0 := (by decide); have k9_1 : (1 : Int32).toInt = 1 := (by decide); have k9_2 : (3 : Int32).toInt = 3 := (by decide)
  have hc0 := hc
  obtain ⟨hn, hm, ht, ck, cp, ce, cw, cu, cg⟩ := hc0
  have hN9 := hN.1; have hS9 := hS.1
  rw [RWs_f hS] at gk_1
  rcases gk_1_5 n m t hc with ⟨a1, a2, a3, a4, a5⟩ | ⟨a1, a2, a3, a4⟩ | ⟨a1, a2, a3, a4, a5⟩
  · have hfo := kn_of cw gk_1 a2
    have hr9 := RWs_o hS (w := sW (trn (fi 0) n) n m t) (fun c => a3 (hfo.trans c))
    have hk0 : (fKn (trn (fi 0) n) n m (ownB (fl 1)) N 27 (H 1) t) = 0 := fKn_0 a2 (fun c => a3 (hfo.trans c))
    have hd0 := a5
    obtain ⟨dn, dm, dt, dk, dp, de, dw, du, dg⟩ := hd0
    rw [RWn_f hN] at gk_7_1
    rw [dw (by omega)] at gk_7_1
    rcases gk_8_0 with ⟨v1, v2, v3, v4, v5⟩ | ⟨v1, v2⟩
    · have hr8 := RWn_o hN (w := sW (trn (fi 0) n) n m (sX (trn (fi 0) n) n m t)) (by omega)
      have hV9 := hV (fdx N 27 (sW (trn (fi 0) n) n m t) (H 1).toNat).toNat (by omega) (fdx N 18 (sW (trn (fi 0) n) n m (sX (trn (fi 0) n) n m t)) (H 0).toNat).toNat (by omega)
      rw [show (vik_1 0).toInt = fdx N 27 (sW (trn (fi 0) n) n m t) (H 1).toNat from a4.trans hfo, show rk_7.toInt = fdx N 18 (sW (trn (fi 0) n) n m (sX (trn (fi 0) n) n m t)) (H 0).toNat from gk_7_1] at v5
      have h5 := congrArg Int32.toInt v5
      have hk2 : (fKn (trn (fi 0) n) n m (ownB (fl 1)) N 18 (H 0) (sX (trn (fi 0) n) n m t)) = 0 := fKn_0 ⟨by omega, hr8.1⟩ (by omega)
      exact LO_bad (by unfold lnWorth; rw [if_neg (fun c => c hk0), if_neg (fun c => c hk2), if_pos (by omega)]) (by decide) (by omega) (by omega)
    · exfalso; omega
  · exact absurd (a1.symm.trans tb) (by decide)
  · exact absurd (a1.symm.trans tb) (by decide)
set_option maxHeartbeats 4000000 in
theorem PL_X8_readWorth_11 {fi : Nat → Nat → Int32} {fl : Nat → Nat → Int64} {vi : Nat → Int32} {vl : Nat → Int64} {r : Int32} {fj : Nat → Nat → Int32} {fm : Nat → Nat → Int64} {vj : Nat → Int32} {vm : Nat → Int64} : RL_X8_readWorth_11 fi fl vi vl r fj fm vj vm (PS_X8_readWorth fi fl vi vl r fj fm vj vm) := by
  unfold RL_X8_readWorth_11
  intro hp5 hp6 fik flk vik vlk rk gk_0 gk_1 fik_1 flk_1 vik_1 vlk_1 rk_1 gk_1_5 tb gk_1_0 q0 q1 q2 q3 q4 q5 q6 q7 q8 q9 q10; subst q0
  unfold PS_X8_readWorth
  intro n m t hc H N O hN hS hV
  (try simp only [q1, q2, q3, q4, q5, q6, q7, q8, q9, q10]); have k9_0 : (0 : Int32).toInt = 0 := (by decide); have k9_1 : (1 : Int32).toInt = 1 := (by decide)
  have hc0 := hc
  obtain ⟨hn, hm, ht, ck, cp, ce, cw, cu, cg⟩ := hc0
  have hN9 := hN.1; have hS9 := hS.1
  rw [RWs_f hS] at gk_1
  rcases gk_1_5 n m t hc with ⟨a1, a2, a3, a4, a5⟩ | ⟨a1, a2, a3, a4⟩ | ⟨a1, a2, a3, a4, a5⟩
  · exact absurd (a1.symm.trans tb) (by decide)
  · have hk1 : (fKn (trn (fi 0) n) n m (ownB (fl 1)) N 27 (H 1) t) = 1 := fKn_1 a2
    exact LO_bad (by unfold lnWorth; rw [if_pos (by rw [hk1]; decide)]) (by decide) (a3.trans hk1.symm) a4
  · have hfo := kn_of cw gk_1 a2
    have hk3 : (fKn (trn (fi 0) n) n m (ownB (fl 1)) N 27 (H 1) t) = 3 := fKn_3 a2 (hfo.symm.trans a3)
    exact LO_bad (by unfold lnWorth; rw [if_pos (by rw [hk3]; decide)]) (by decide) (a4.trans hk3.symm) a5
theorem P_X8_readWorth {fi : Nat → Nat → Int32} {fl : Nat → Nat → Int64} {vi : Nat → Int32} {vl : Nat → Int64} {r : Int32} {fj : Nat → Nat → Int32} {fm : Nat → Nat → Int64} {vj : Nat → Int32} {vm : Nat → Int64} (h : R_X8_readWorth fi fl vi vl r fj fm vj vm) : ∀ n m t : Nat, CC (trn (fi 0) n) n m t (vi 2) (vi 3) (vi 5) (vi 6) (vi 4) (vl 0) (vi 7) (vi 8) → ∀ (H : Nat → Int) (N : Nat → Int64) (O : Nat → Bool), (RWn (ownB (fl 1)) (vi 12) (fl 2) H N) → (RWs (ownB (fl 1)) (vi 13) (fl 0) H N) → RV (fi 1) H → LO (lnWorth (trn (fi 0) n) n m (ownB (fl 1)) H N O t) r (vj 6) (vj 7) (fun t' H' N' O' => CC (trn (fi 0) n) n m t' (vi 2) (vi 3) (vj 1) (vj 2) (vj 5) (vm 0) (vj 4) (vj 3) ∧ ∃ (k i : Nat) (u : Int), (k : Int) < H 1 ∧ i < 9 ∧ 0 ≤ u ∧ H' = setI H (56 + 9 * k + i) u ∧ N' = N ∧ O' = O ∧ (∀ j : Nat, ¬ j = 9 * k + i → (fj 0) j = (fi 1) j) ∧ ((fj 0) (9 * k + i)).toInt = u) := h (PS_X8_readWorth fi fl vi vl r fj fm vj vm) PL_X8_readWorth_0 PL_X8_readWorth_1 PL_X8_readWorth_2 PL_X8_readWorth_3 PL_X8_readWorth_4 PL_X8_readWorth_5 PL_X8_readWorth_6 PL_X8_readWorth_7 PL_X8_readWorth_8 PL_X8_readWorth_9 PL_X8_readWorth_10 PL_X8_readWorth_11
def RL_J1_charAt_3b067_28_0 (fi : Nat → Nat → Int32) (fl : Nat → Nat → Int64) (vi : Nat → Int32) (vl : Nat → Int64) (r : Int32) (fj : Nat → Nat → Int32) (fm : Nat → Nat → Int64) (vj : Nat → Int32) (vm : Nat → Int64) (Q9 : Prop) : Prop :=
  (0 ≤ (vi 0).toInt ∧ (vi 0).toInt ≤ 2) → ∀ (fik : Nat → Nat → Int32), ∀ (flk : Nat → Nat → Int64), ∀ (vik : Nat → Int32), ∀ (vlk : Nat → Int64), ∀ (uk : Int32), ∀ (z8 : Int32), (z8 = (sBy.getD 10 []).getD (vi 0).toNatClampNeg 0) → ∀ (z12 : Int32), (z12 = z8 &&& (255 : Int32)) → ∀ (z13 : Int32), (z13 = (z12.toUInt32 % 65536).toInt32) → (r = z13) → Q9
def R_J1_charAt_3b067_28 (fi : Nat → Nat → Int32) (fl : Nat → Nat → Int64) (vi : Nat → Int32) (vl : Nat → Int64) (r : Int32) (fj : Nat → Nat → Int32) (fm : Nat → Nat → Int64) (vj : Nat → Int32) (vm : Nat → Int64) : Prop :=
  ∀ Q9 : Prop, RL_J1_charAt_3b067_28_0 fi fl vi vl r fj fm vj vm Q9 → Q9
def PS_J1_charAt_3b067_28 (fi : Nat → Nat → Int32) (fl : Nat → Nat → Int64) (vi : Nat → Int32) (vl : Nat → Int64) (r : Int32) (fj : Nat → Nat → Int32) (fm : Nat → Nat → Int64) (vj : Nat → Int32) (vm : Nat → Int64) : Prop :=
  r = (sBy.getD 10 []).getD ((vi 0).toInt).toNat 0
set_option maxHeartbeats 4000000 in
theorem PL_J1_charAt_3b067_28_0 {fi : Nat → Nat → Int32} {fl : Nat → Nat → Int64} {vi : Nat → Int32} {vl : Nat → Int64} {r : Int32} {fj : Nat → Nat → Int32} {fm : Nat → Nat → Int64} {vj : Nat → Int32} {vm : Nat → Int64} : RL_J1_charAt_3b067_28_0 fi fl vi vl r fj fm vj vm (PS_J1_charAt_3b067_28 fi fl vi vl r fj fm vj vm) := by
  unfold RL_J1_charAt_3b067_28_0
  intro hp0 fik flk vik vlk uk z8 ez8 z12 ez12 z13 ez13 q0; subst q0
  unfold PS_J1_charAt_3b067_28
  first | exact by assumption | exact char_of (by assumption) (by assumption) (by assumption)
theorem P_J1_charAt_3b067_28 {fi : Nat → Nat → Int32} {fl : Nat → Nat → Int64} {vi : Nat → Int32} {vl : Nat → Int64} {r : Int32} {fj : Nat → Nat → Int32} {fm : Nat → Nat → Int64} {vj : Nat → Int32} {vm : Nat → Int64} (h : R_J1_charAt_3b067_28 fi fl vi vl r fj fm vj vm) : r = (sBy.getD 10 []).getD ((vi 0).toInt).toNat 0 := h (PS_J1_charAt_3b067_28 fi fl vi vl r fj fm vj vm) PL_J1_charAt_3b067_28_0
def RL_J0_charAt_5068e_28_0 (fi : Nat → Nat → Int32) (fl : Nat → Nat → Int64) (vi : Nat → Int32) (vl : Nat → Int64) (r : Int32) (fj : Nat → Nat → Int32) (fm : Nat → Nat → Int64) (vj : Nat → Int32) (vm : Nat → Int64) (Q9 : Prop) : Prop :=
  (0 ≤ (vi 0).toInt ∧ (vi 0).toInt ≤ 2) → ∀ (fik : Nat → Nat → Int32), ∀ (flk : Nat → Nat → Int64), ∀ (vik : Nat → Int32), ∀ (vlk : Nat → Int64), ∀ (rk : Int32), (rk = 1) → ∀ (fik_1 : Nat → Nat → Int32), ∀ (flk_1 : Nat → Nat → Int64), ∀ (vik_1 : Nat → Int32), ∀ (vlk_1 : Nat → Int64), ∀ (rk_1 : Int32), (rk_1 = (sBy.getD 10 []).getD ((vi 0).toInt).toNat 0) → (r = rk_1) → Q9
def R_J0_charAt_5068e_28 (fi : Nat → Nat → Int32) (fl : Nat → Nat → Int64) (vi : Nat → Int32) (vl : Nat → Int64) (r : Int32) (fj : Nat → Nat → Int32) (fm : Nat → Nat → Int64) (vj : Nat → Int32) (vm : Nat → Int64) : Prop :=
  ∀ Q9 : Prop, RL_J0_charAt_5068e_28_0 fi fl vi vl r fj fm vj vm Q9 → Q9
def PS_J0_charAt_5068e_28 (fi : Nat → Nat → Int32) (fl : Nat → Nat → Int64) (vi : Nat → Int32) (vl : Nat → Int64) (r : Int32) (fj : Nat → Nat → Int32) (fm : Nat → Nat → Int64) (vj : Nat → Int32) (vm : Nat → Int64) : Prop :=
  r = (sBy.getD 10 []).getD ((vi 0).toInt).toNat 0
set_option maxHeartbeats 4000000 in
theorem PL_J0_charAt_5068e_28_0 {fi : Nat → Nat → Int32} {fl : Nat → Nat → Int64} {vi : Nat → Int32} {vl : Nat → Int64} {r : Int32} {fj : Nat → Nat → Int32} {fm : Nat → Nat → Int64} {vj : Nat → Int32} {vm : Nat → Int64} : RL_J0_charAt_5068e_28_0 fi fl vi vl r fj fm vj vm (PS_J0_charAt_5068e_28 fi fl vi vl r fj fm vj vm) := by
  unfold RL_J0_charAt_5068e_28_0
  intro hp0 fik flk vik vlk rk gk_0 fik_1 flk_1 vik_1 vlk_1 rk_1 gk_1_1 q0; subst q0
  unfold PS_J0_charAt_5068e_28
  first | exact by assumption | exact char_of (by assumption) (by assumption) (by assumption)
theorem P_J0_charAt_5068e_28 {fi : Nat → Nat → Int32} {fl : Nat → Nat → Int64} {vi : Nat → Int32} {vl : Nat → Int64} {r : Int32} {fj : Nat → Nat → Int32} {fm : Nat → Nat → Int64} {vj : Nat → Int32} {vm : Nat → Int64} (h : R_J0_charAt_5068e_28 fi fl vi vl r fj fm vj vm) : r = (sBy.getD 10 []).getD ((vi 0).toInt).toNat 0 := h (PS_J0_charAt_5068e_28 fi fl vi vl r fj fm vj vm) PL_J0_charAt_5068e_28_0
def RL_X6_isWord_28_0 (fi : Nat → Nat → Int32) (fl : Nat → Nat → Int64) (vi : Nat → Int32) (vl : Nat → Int64) (r : Int32) (fj : Nat → Nat → Int32) (fm : Nat → Nat → Int64) (vj : Nat → Int32) (vm : Nat → Int64) (Q9 : Prop) : Prop :=
  (0 ≤ (vi 1).toInt ∧ (vi 1).toInt ≤ 940) → (0 ≤ (vi 2).toInt ∧ (vi 2).toInt ≤ 940) → (0 ≤ (vi 3).toInt ∧ (vi 3).toInt ≤ 940) → (0 ≤ (vi 5).toInt ∧ (vi 5).toInt ≤ 940) → (0 ≤ (vi 10).toInt ∧ (vi 10).toInt ≤ 940) → ∀ (w4 : Int32), ∀ (w2 : Int64), (0 ≤ w4.toInt ∧ w4.toInt ≤ 3) → (w2 = pkw (sBy.getD 10 []) (w4.toInt).toNat) → ∀ (fik : Nat → Nat → Int32), ∀ (flk : Nat → Nat → Int64), ∀ (vik : Nat → Int32), ∀ (vlk : Nat → Int64), ∀ (rk : Int32), (rk = 3) → (3 ≤ w4.toInt) → (¬ (vi 4).toInt = 1) → (r = (0 : Int32)) → Q9
def RL_X6_isWord_28_1 (fi : Nat → Nat → Int32) (fl : Nat → Nat → Int64) (vi : Nat → Int32) (vl : Nat → Int64) (r : Int32) (fj : Nat → Nat → Int32) (fm : Nat → Nat → Int64) (vj : Nat → Int32) (vm : Nat → Int64) (Q9 : Prop) : Prop :=
  (0 ≤ (vi 1).toInt ∧ (vi 1).toInt ≤ 940) → (0 ≤ (vi 2).toInt ∧ (vi 2).toInt ≤ 940) → (0 ≤ (vi 3).toInt ∧ (vi 3).toInt ≤ 940) → (0 ≤ (vi 5).toInt ∧ (vi 5).toInt ≤ 940) → (0 ≤ (vi 10).toInt ∧ (vi 10).toInt ≤ 940) → ∀ (w4 : Int32), ∀ (w2 : Int64), (0 ≤ w4.toInt ∧ w4.toInt ≤ 3) → (w2 = pkw (sBy.getD 10 []) (w4.toInt).toNat) → ∀ (fik : Nat → Nat → Int32), ∀ (flk : Nat → Nat → Int64), ∀ (vik : Nat → Int32), ∀ (vlk : Nat → Int64), ∀ (rk : Int32), (rk = 3) → (3 ≤ w4.toInt) → ((vi 4).toInt = 1) → ∀ (z46 : Int32), (z46 = lg_cmp w2 (vl 0)) → (¬ z46.toInt = 0) → (r = (0 : Int32)) → Q9
