def RL_X8_readWorth_11 (fi : Nat → Nat → Int32) (fl : Nat → Nat → Int64) (vi : Nat → Int32) (vl : Nat → Int64) (r : Int32) (fj : Nat → Nat → Int32) (fm : Nat → Nat → Int64) (vj : Nat → Int32) (vm : Nat → Int64) (Q9 : Prop) : Prop :=
  (0 ≤ (vi 12).toInt ∧ (vi 12).toInt ≤ 9) → (0 ≤ (vi 13).toInt ∧ (vi 13).toInt ≤ 9) → ∀ (fik : Nat → Nat → Int32), ∀ (flk : Nat → Nat → Int64), ∀ (vik : Nat → Int32), ∀ (vlk : Nat → Int64), ∀ (rk : Int32), (-1 ≤ rk.toInt ∧ rk.toInt ≤ 8) → (rk.toInt = fdx (fl 0) 0 (vl 0) ((vi 13).toInt).toNat) → ∀ (fik_1 : Nat → Nat → Int32), ∀ (flk_1 : Nat → Nat → Int64), ∀ (vik_1 : Nat → Int32), ∀ (vlk_1 : Nat → Int64), ∀ (rk_1 : Int32), (∀ n m t : Nat, CC (trn (fi 0) n) n m t (vi 2) (vi 3) (vi 5) (vi 6) (vi 4) (vl 0) (vi 7) (vi 8) → (rk_1.toInt = 1 ∧ (wMay (trn (fi 0) n) n m (ownB (fl 1)) t) ∧ ¬ rk.toInt = -1 ∧ (vik_1 0).toInt = rk.toInt ∧ CC (trn (fi 0) n) n m (sX (trn (fi 0) n) n m t) (vi 2) (vi 3) (vik_1 1) (vik_1 2) (vik_1 5) (vlk_1 0) (vik_1 4) (vik_1 3)) ∨ (rk_1.toInt = 0 ∧ ¬ (wMay (trn (fi 0) n) n m (ownB (fl 1)) t) ∧ (vik_1 6).toInt = 1 ∧ (vik_1 7).toInt = ((sPn (trn (fi 0) n) n m t) : Int)) ∨ (rk_1.toInt = 0 ∧ (wMay (trn (fi 0) n) n m (ownB (fl 1)) t) ∧ rk.toInt = -1 ∧ (vik_1 6).toInt = 3 ∧ (vik_1 7).toInt = ((sPn (trn (fi 0) n) n m t) : Int))) → (rk_1.toInt = 0) → (True) → (r = (0 : Int32)) → (fj 0 = (fi 1)) → (vj 0 = (vik_1 0)) → (vj 1 = (vik_1 1)) → (vj 2 = (vik_1 2)) → (vj 3 = (vik_1 3)) → (vj 4 = (vik_1 4)) → (vj 5 = (vik_1 5)) → (vj 6 = (vik_1 6)) → (vj 7 = (vik_1 7)) → (vm 0 = (vlk_1 0)) → Q9
def R_X8_readWorth (fi : Nat → Nat → Int32) (fl : Nat → Nat → Int64) (vi : Nat → Int32) (vl : Nat → Int64) (r : Int32) (fj : Nat → Nat → Int32) (fm : Nat → Nat → Int64) (vj : Nat → Int32) (vm : Nat → Int64) : Prop :=
  ∀ Q9 : Prop, RL_X8_readWorth_0 fi fl vi vl r fj fm vj vm Q9 → RL_X8_readWorth_1 fi fl vi vl r fj fm vj vm Q9 → RL_X8_readWorth_2 fi fl vi vl r fj fm vj vm Q9 → RL_X8_readWorth_3 fi fl vi vl r fj fm vj vm Q9 → RL_X8_readWorth_4 fi fl vi vl r fj fm vj vm Q9 → RL_X8_readWorth_5 fi fl vi vl r fj fm vj vm Q9 → RL_X8_readWorth_6 fi fl vi vl r fj fm vj vm Q9 → RL_X8_readWorth_7 fi fl vi vl r fj fm vj vm Q9 → RL_X8_readWorth_8 fi fl vi vl r fj fm vj vm Q9 → RL_X8_readWorth_9 fi fl vi vl r fj fm vj vm Q9 → RL_X8_readWorth_10 fi fl vi vl r fj fm vj vm Q9 → RL_X8_readWorth_11 fi fl vi vl r fj fm vj vm Q9 → Q9
def PS_X8_readWorth (fi : Nat → Nat → Int32) (fl : Nat → Nat → Int64) (vi : Nat → Int32) (vl : Nat → Int64) (r : Int32) (fj : Nat → Nat → Int32) (fm : Nat → Nat → Int64) (vj : Nat → Int32) (vm : Nat → Int64) : Prop :=
  ∀ n m t : Nat, CC (trn (fi 0) n) n m t (vi 2) (vi 3) (vi 5) (vi 6) (vi 4) (vl 0) (vi 7) (vi 8) → ∀ (H : Nat → Int) (N : Nat → Int64) (O : Nat → Bool), (RWn (ownB (fl 1)) (vi 12) (fl 2) H N) → (RWs (ownB (fl 1)) (vi 13) (fl 0) H N) → RV (fi 1) H → LO (lnWorth (trn (fi 0) n) n m (ownB (fl 1)) H N O t) r (vj 6) (vj 7) (fun t' H' N' O' => CC (trn (fi 0) n) n m t' (vi 2) (vi 3) (vj 1) (vj 2) (vj 5) (vm 0) (vj 4) (vj 3) ∧ ∃ (k i : Nat) (u : Int), (k : Int) < H 1 ∧ i < 9 ∧ 0 ≤ u ∧ H' = setI H (56 + 9 * k + i) u ∧ N' = N ∧ O' = O ∧ (∀ j : Nat, ¬ j = 9 * k + i → (fj 0) j = (fi 1) j) ∧ ((fj 0) (9 * k + i)).toInt = u)
set_option maxHeartbeats 4000000 in
theorem PL_X8_readWorth_0 {fi : Nat → Nat → Int32} {fl : Nat → Nat → Int64} {vi : Nat → Int32} {vl : Nat → Int64} {r : Int32} {fj : Nat → Nat → Int32} {fm : Nat → Nat → Int64} {vj : Nat → Int32} {vm : Nat → Int64} : RL_X8_readWorth_0 fi fl vi vl r fj fm vj vm (PS_X8_readWorth fi fl vi vl r fj fm vj vm) := by
  unfold RL_X8_readWorth_0
  intro hp5 hp6 fik flk vik vlk rk gk_0 gk_1 fik_1 flk_1 vik_1 vlk_1 rk_1 gk_1_5 tb gk_1_0 c42 fik_2 flk_2 vik_2 vlk_2 rk_2 gk_2_0 gk_2_1 fik_3 flk_3 vik_3 vlk_3 rk_3 gk_3_5 tb_1 gk_3_0 fik_4 flk_4 vik_4 vlk_4 rk_4 gk_4_5 tb_2 gk_4_0 fik_5 flk_5 vik_5 vlk_5 rk_5 tb_3 gk_5_0 fik_6 flk_6 vik_6 vlk_6 rk_6 tb_4 gk_6_0 z160 ez160 tz160 z162 ez162 tz162 f170 ef170 q0 q1 q2 q3 q4 q5 q6 q7 q8 q9 q10; subst q0
  unfold PS_X8_readWorth
  intro n m t hc H N O hN hS hV
  (try simp only [q1, q2, q3, q4, q5, q6, q7, q8, q9, q10]); have k9_0 : (0 : Int32).toInt = 0 := (by decide); have k9_1 : (1 : Int32).toInt = 1 := (by decide)
  have hc0 := hc
  obtain ⟨hn, hm, ht, ck, cp, ce, cw, cu, cg⟩ := hc0
  have hN9 := hN.1; have hS9 := hS.1
  rw [RWs_f hS] at gk_1
  rcases gk_1_5 n m t hc with ⟨a1, a2, a3, a4, a5⟩ | ⟨a1, a2, a3, a4⟩ | ⟨a1, a2, a3, a4, a5⟩
  · have hfo := kn_of cw gk_1 a2
    have hr9 := RWs_o hS (w := sW (trn (fi 0) n) n m t) (fun c => a3 (hfo.trans c))
    have hk0 : (fKn (trn (fi 0) n) n m (ownB (fl 1)) N 27 (H 1) t) = 0 := fKn_0 a2 (fun c => a3 (hfo.trans c))
    have hd0 := a5
    obtain ⟨dn, dm, dt, dk, dp, de, dw, du, dg⟩ := hd0
    rw [RWn_f hN] at gk_2_1
    rcases gk_3_5 n m _ a5 with ⟨b1, b2, b3, b4, b5⟩ | ⟨b1, b2, b3, b4⟩ | ⟨b1, b2, b3, b4, b5⟩
    · exact absurd (dk.trans b2.1) (by assumption)
    · exact absurd (b1.symm.trans tb_1) (by decide)
    · exact absurd (b1.symm.trans tb_1) (by decide)
  · exact absurd (a1.symm.trans tb) (by decide)
  · exact absurd (a1.symm.trans tb) (by decide)
set_option maxHeartbeats 4000000 in
theorem PL_X8_readWorth_1 {fi : Nat → Nat → Int32} {fl : Nat → Nat → Int64} {vi : Nat → Int32} {vl : Nat → Int64} {r : Int32} {fj : Nat → Nat → Int32} {fm : Nat → Nat → Int64} {vj : Nat → Int32} {vm : Nat → Int64} : RL_X8_readWorth_1 fi fl vi vl r fj fm vj vm (PS_X8_readWorth fi fl vi vl r fj fm vj vm) := by
  unfold RL_X8_readWorth_1
  intro hp5 hp6 fik flk vik vlk rk gk_0 gk_1 fik_1 flk_1 vik_1 vlk_1 rk_1 gk_1_5 tb gk_1_0 c42 fik_2 flk_2 vik_2 vlk_2 rk_2 gk_2_0 gk_2_1 fik_3 flk_3 vik_3 vlk_3 rk_3 gk_3_5 tb_1 gk_3_0 fik_4 flk_4 vik_4 vlk_4 rk_4 gk_4_5 tb_2 gk_4_0 fik_5 flk_5 vik_5 vlk_5 rk_5 tb_3 gk_5_0 fik_6 flk_6 vik_6 vlk_6 rk_6 tb_4 gk_6_0 q0 q1 q2 q3 q4 q5 q6 q7 q8 q9 q10; subst q0
  unfold PS_X8_readWorth
  intro n m t hc H N O hN hS hV
  (try simp only [q1, q2, q3, q4, q5, q6, q7, q8, q9, q10]); have k9_0 : (0 : Int32).toInt = 0 := (by decide); have k9_1 : (1 : Int32).toInt = 1 := (by decide)
  have hc0 := hc
  obtain ⟨hn, hm, ht, ck, cp, ce, cw, cu, cg⟩ := hc0
  have hN9 := hN.1; have hS9 := hS.1
  rw [RWs_f hS] at gk_1
  rcases gk_1_5 n m t hc with ⟨a1, a2, a3, a4, a5⟩ | ⟨a1, a2, a3, a4⟩ | ⟨a1, a2, a3, a4, a5⟩
  · have hfo := kn_of cw gk_1 a2
    have hr9 := RWs_o hS (w := sW (trn (fi 0) n) n m t) (fun c => a3 (hfo.trans c))
    have hk0 : (fKn (trn (fi 0) n) n m (ownB (fl 1)) N 27 (H 1) t) = 0 := fKn_0 a2 (fun c => a3 (hfo.trans c))
    have hd0 := a5
    obtain ⟨dn, dm, dt, dk, dp, de, dw, du, dg⟩ := hd0
    rw [RWn_f hN] at gk_2_1
    rcases gk_3_5 n m _ a5 with ⟨b1, b2, b3, b4, b5⟩ | ⟨b1, b2, b3, b4⟩ | ⟨b1, b2, b3, b4, b5⟩
    · exact absurd (dk.trans b2.1) (by assumption)
    · exact absurd (b1.symm.trans tb_1) (by decide)
    · exact absurd (b1.symm.trans tb_1) (by decide)
  · exact absurd (a1.symm.trans tb) (by decide)
  · exact absurd (a1.symm.trans tb) (by decide)
set_option maxHeartbeats 4000000 in
theorem PL_X8_readWorth_2 {fi : Nat → Nat → Int32} {fl : Nat → Nat → Int64} {vi : Nat → Int32} {vl : Nat → Int64} {r : Int32} {fj : Nat → Nat → Int32} {fm : Nat → Nat → Int64} {vj : Nat → Int32} {vm : Nat → Int64} : RL_X8_readWorth_2 fi fl vi vl r fj fm vj vm (PS_X8_readWorth fi fl vi vl r fj fm vj vm) := by
  unfold RL_X8_readWorth_2
  intro hp5 hp6 fik flk vik vlk rk gk_0 gk_1 fik_1 flk_1 vik_1 vlk_1 rk_1 gk_1_5 tb gk_1_0 c42 fik_2 flk_2 vik_2 vlk_2 rk_2 gk_2_0 gk_2_1 fik_3 flk_3 vik_3 vlk_3 rk_3 gk_3_5 tb_1 gk_3_0 fik_4 flk_4 vik_4 vlk_4 rk_4 gk_4_5 tb_2 gk_4_0 fik_5 flk_5 vik_5 vlk_5 rk_5 tb_3 gk_5_0 q0 q1 q2 q3 q4 q5 q6 q7 q8 q9 q10; subst q0
  unfold PS_X8_readWorth
  intro n m t hc H N O hN hS hV
  (try simp only [q1, q2, q3, q4, q5, q6, q7, q8, q9, q10]); have k9_0 : (0 : Int32).toInt = 0 := (by decide); have k9_1 : (1 : Int32).toInt = 1 := (by decide)
  have hc0 := hc
  obtain ⟨hn, hm, ht, ck, cp, ce, cw, cu, cg⟩ := hc0
  have hN9 := hN.1; have hS9 := hS.1
  rw [RWs_f hS] at gk_1
  rcases gk_1_5 n m t hc with ⟨a1, a2, a3, a4, a5⟩ | ⟨a1, a2, a3, a4⟩ | ⟨a1, a2, a3, a4, a5⟩
  · have hfo := kn_of cw gk_1 a2
    have hr9 := RWs_o hS (w := sW (trn (fi 0) n) n m t) (fun c => a3 (hfo.trans c))
    have hk0 : (fKn (trn (fi 0) n) n m (ownB (fl 1)) N 27 (H 1) t) = 0 := fKn_0 a2 (fun c => a3 (hfo.trans c))
    have hd0 := a5
    obtain ⟨dn, dm, dt, dk, dp, de, dw, du, dg⟩ := hd0
    rw [RWn_f hN] at gk_2_1
    rcases gk_3_5 n m _ a5 with ⟨b1, b2, b3, b4, b5⟩ | ⟨b1, b2, b3, b4⟩ | ⟨b1, b2, b3, b4, b5⟩
    · exact absurd (dk.trans b2.1) (by assumption)
    · exact absurd (b1.symm.trans tb_1) (by decide)
    · exact absurd (b1.symm.trans tb_1) (by decide)
  · exact absurd (a1.symm.trans tb) (by decide)
  · exact absurd (a1.symm.trans tb) (by decide)
set_option maxHeartbeats 4000000 in
theorem PL_X8_readWorth_3 {fi : Nat → Nat → Int32} {fl : Nat → Nat → Int64} {vi : Nat → Int32} {vl : Nat → Int64} {r : Int32} {fj : Nat → Nat → Int32} {fm : Nat → Nat → Int64} {vj : Nat → Int32} {vm : Nat → Int64} : RL_X8_readWorth_3 fi fl vi vl r fj fm vj vm (PS_X8_readWorth fi fl vi vl r fj fm vj vm) := by
  unfold RL_X8_readWorth_3
  intro hp5 hp6 fik flk vik vlk rk gk_0 gk_1 fik_1 flk_1 vik_1 vlk_1 rk_1 gk_1_5 tb gk_1_0 c42 fik_2 flk_2 vik_2 vlk_2 rk_2 gk_2_0 gk_2_1 fik_3 flk_3 vik_3 vlk_3 rk_3 gk_3_5 tb_1 gk_3_0 fik_4 flk_4 vik_4 vlk_4 rk_4 gk_4_5 tb_2 gk_4_0 q0 q1 q2 q3 q4 q5 q6 q7 q8 q9 q10; subst q0
  unfold PS_X8_readWorth
  intro n m t hc H N O hN hS hV
  (try simp only [q1, q2, q3, q4, q5, q6, q7, q8, q9, q10]); have k9_0 : (0 : Int32).toInt = 0 := (by decide); have k9_1 : (1 : Int32).toInt = 1 := (by decide)
  have hc0 := hc
  obtain ⟨hn, hm, ht, ck, cp, ce, cw, cu, cg⟩ := hc0
  have hN9 := hN.1; have hS9 := hS.1
  rw [RWs_f hS] at gk_1
  rcases gk_1_5 n m t hc with ⟨a1, a2, a3, a4, a5⟩ | ⟨a1, a2, a3, a4⟩ | ⟨a1, a2, a3, a4, a5⟩
  · have hfo := kn_of cw gk_1 a2
    have hr9 := RWs_o hS (w := sW (trn (fi 0) n) n m t) (fun c => a3 (hfo.trans c))
    have hk0 : (fKn (trn (fi 0) n) n m (ownB (fl 1)) N 27 (H 1) t) = 0 := fKn_0 a2 (fun c => a3 (hfo.trans c))
    have hd0 := a5
    obtain ⟨dn, dm, dt, dk, dp, de, dw, du, dg⟩ := hd0
    rw [RWn_f hN] at gk_2_1
    rcases gk_3_5 n m _ a5 with ⟨b1, b2, b3, b4, b5⟩ | ⟨b1, b2, b3, b4⟩ | ⟨b1, b2, b3, b4, b5⟩
    · exact absurd (dk.trans b2.1) (by assumption)
    · exact absurd (b1.symm.trans tb_1) (by decide)
    · exact absurd (b1.symm.trans tb_1) (by decide)
  · exact absurd (a1.symm.trans tb) (by decide)
  · exact absurd (a1.symm.trans tb) (by decide)
set_option maxHeartbeats 4000000 in
theorem PL_X8_readWorth_4 {fi : Nat → Nat → Int32} {fl : Nat → Nat → Int64} {vi : Nat → Int32} {vl : Nat → Int64} {r : Int32} {fj : Nat → Nat → Int32} {fm : Nat → Nat → Int64} {vj : Nat → Int32} {vm : Nat → Int64} : RL_X8_readWorth_4 fi fl vi vl r fj fm vj vm (PS_X8_readWorth fi fl vi vl r fj fm vj vm) := by
  unfold RL_X8_readWorth_4
  intro hp5 hp6 fik flk vik vlk rk gk_0 gk_1 fik_1 flk_1 vik_1 vlk_1 rk_1 gk_1_5 tb gk_1_0 c42 fik_2 flk_2 vik_2 vlk_2 rk_2 gk_2_0 gk_2_1 fik_3 flk_3 vik_3 vlk_3 rk_3 gk_3_5 tb_1 gk_3_0 q0 q1 q2 q3 q4 q5 q6 q7 q8 q9 q10; subst q0
  unfold PS_X8_readWorth
  intro n m t hc H N O hN hS hV
  (try simp only [q1, q2, q3, q4, q5, q6, q7, q8, q9, q10]); have k9_0 : (0 : Int32).toInt = 0 := (by decide); have k9_1 : (1 : Int32).toInt = 1 := (by decide)
  have hc0 := hc
  obtain ⟨hn, hm, ht, ck, cp, ce, cw, cu, cg⟩ := hc0
  have hN9 := hN.1; have hS9 := hS.1
  rw [RWs_f hS] at gk_1
  rcases gk_1_5 n m t hc with ⟨a1, a2, a3, a4, a5⟩ | ⟨a1, a2, a3, a4⟩ | ⟨a1, a2, a3, a4, a5⟩
  · have hfo := kn_of cw gk_1 a2
    have hr9 := RWs_o hS (w := sW (trn (fi 0) n) n m t) (fun c => a3 (hfo.trans c))
    have hk0 : (fKn (trn (fi 0) n) n m (ownB (fl 1)) N 27 (H 1) t) = 0 := fKn_0 a2 (fun c => a3 (hfo.trans c))
    have hd0 := a5
    obtain ⟨dn, dm, dt, dk, dp, de, dw, du, dg⟩ := hd0
    rw [RWn_f hN] at gk_2_1
    rcases gk_3_5 n m _ a5 with ⟨b1, b2, b3, b4, b5⟩ | ⟨b1, b2, b3, b4⟩ | ⟨b1, b2, b3, b4, b5⟩
    · exact absurd (b1.symm.trans tb_1) (by decide)
    · have hk1 : (fKn (trn (fi 0) n) n m (ownB (fl 1)) N 18 (H 0) (sX (trn (fi 0) n) n m t)) = 1 := fKn_1 b2
      exact LO_bad (by unfold lnWorth; rw [if_neg (fun c => c hk0), if_pos (by rw [hk1]; decide)]) (by decide) (b3.trans hk1.symm) b4
    · have hfo2 := kn_of dw gk_2_1 b2
      have hk3 : (fKn (trn (fi 0) n) n m (ownB (fl 1)) N 18 (H 0) (sX (trn (fi 0) n) n m t)) = 3 := fKn_3 b2 (hfo2.symm.trans b3)
      exact LO_bad (by unfold lnWorth; rw [if_neg (fun c => c hk0), if_pos (by rw [hk3]; decide)]) (by decide) (b4.trans hk3.symm) b5
  · exact absurd (a1.symm.trans tb) (by decide)
  · exact absurd (a1.symm.trans tb) (by decide)
set_option maxHeartbeats 4000000 in
theorem PL_X8_readWorth_5 {fi : Nat → Nat → Int32} {fl : Nat → Nat → Int64} {vi : Nat → Int32} {vl : Nat → Int64} {r : Int32} {fj : Nat → Nat → Int32} {fm : Nat → Nat → Int64} {vj : Nat → Int32} {vm : Nat → Int64} : RL_X8_readWorth_5 fi fl vi vl r fj fm vj vm (PS_X8_readWorth fi fl vi vl r fj fm vj vm) := by
  unfold RL_X8_readWorth_5
  intro hp5 hp6 fik flk vik vlk rk gk_0 gk_1 fik_1 flk_1 vik_1 vlk_1 rk_1 gk_1_5 tb gk_1_0 c42 fik_7 flk_7 vik_7 vlk_7 rk_7 gk_7_0 gk_7_1 fik_8 flk_8 vik_8 vlk_8 rk_8 gk_8_0 c67 fik_9 flk_9 vik_9 vlk_9 rk_9 gk_9_0 gk_9_1 fik_10 flk_10 vik_10 vlk_10 rk_10 gk_10_5 tb_5 gk_10_0 fik_11 flk_11 vik_11 vlk_11 rk_11 gk_11_5 tb_6 gk_11_0 fik_12 flk_12 vik_12 vlk_12 rk_12 tb_7 gk_12_0 fik_13 flk_13 vik_13 vlk_13 rk_13 tb_8 gk_13_0 z160_1 ez160_1 tz160_1 z162_1 ez162_1 tz162_1 f170_1 ef170_1 q0 q1 q2 q3 q4 q5 q6 q7 q8 q9 q10; subst q0
  unfold PS_X8_readWorth
  intro n m t hc H N O hN hS hV
  (try simp only [q1, q2, q3, q4, q5, q6, q7, q8, q9, q10]); have k9_0 : (0 : Int32).toInt = 0 := (by decide); have k9_1 : (1 : Int32).toInt = 1 := (by decide)
  have hc0 := hc
  obtain ⟨hn, hm, ht, ck, cp, ce, cw, cu, cg⟩ := hc0
  have hN9 := hN.1; have hS9 := hS.1
  rw [RWs_f hS] at gk_1
  rcases gk_1_5 n m t hc with ⟨a1, a2, a3, a4, a5⟩ | ⟨a1, a2, a3, a4⟩ | ⟨a1, a2, a3, a4, a5⟩
  · have hfo := kn_of cw gk_1 a2
    have hr9 := RWs_o hS (w := sW (trn (fi 0) n) n m t) (fun c => a3 (hfo.trans c))
    have hk0 : (fKn (trn (fi 0) n) n m (ownB (fl 1)) N 27 (H 1) t) = 0 := fKn_0 a2 (fun c => a3 (hfo.trans c))
    have hd0 := a5
    obtain ⟨dn, dm, dt, dk, dp, de, dw, du, dg⟩ := hd0
    rw [RWn_f hN] at gk_7_1
    rw [RWn_f hN] at gk_9_1
    rcases gk_10_5 n m _ a5 with ⟨b1, b2, b3, b4, b5⟩ | ⟨b1, b2, b3, b4⟩ | ⟨b1, b2, b3, b4, b5⟩
    · have hfo2 := kn_of dw gk_9_1 b2
      have hk2 : (fKn (trn (fi 0) n) n m (ownB (fl 1)) N 18 (H 0) (sX (trn (fi 0) n) n m t)) = 0 := fKn_0 b2 (fun c => b3 (hfo2.trans c))
      have hr8 := RWn_o hN (w := sW (trn (fi 0) n) n m (sX (trn (fi 0) n) n m t)) (fun c => b3 (hfo2.trans c))
      have hV9 := hV (fdx N 27 (sW (trn (fi 0) n) n m t) (H 1).toNat).toNat (by omega) (fdx N 18 (sW (trn (fi 0) n) n m (sX (trn (fi 0) n) n m t)) (H 0).toNat).toNat (by omega)
      rw [dw b2.1] at gk_7_1
      have hz9 : ((fi 1) (9 * (fdx N 27 (sW (trn (fi 0) n) n m t) (H 1).toNat).toNat + (fdx N 18 (sW (trn (fi 0) n) n m (sX (trn (fi 0) n) n m t)) (H 0).toNat).toNat)).toInt = 0 := by
        rcases gk_8_0 with ⟨v1, v2, v3, v4, v5⟩ | ⟨v1, v2⟩
        · rw [show (vik_1 0).toInt = fdx N 27 (sW (trn (fi 0) n) n m t) (H 1).toNat from a4.trans hfo, show rk_7.toInt = fdx N 18 (sW (trn (fi 0) n) n m (sX (trn (fi 0) n) n m t)) (H 0).toNat from gk_7_1] at v5
          have h5 := congrArg Int32.toInt v5
          omega
        · exfalso; omega
      rcases gk_11_5 n m _ b5 with ⟨c1, c2, c3, c4, c5, c6, c7⟩ | ⟨c1, c2, c3, c4⟩
      · exact wo_good hk0 hk2 (by omega) c2 hr9.2 hr8.2 hN9.2.2 (by omega) c3 c5 ef170_1 (by decide) c7
      · exact absurd (c1.symm.trans tb_6) (by decide)
    · exact absurd (b1.symm.trans tb_5) (by decide)
    · exact absurd (b1.symm.trans tb_5) (by decide)
  · exact absurd (a1.symm.trans tb) (by decide)
  · exact absurd (a1.symm.trans tb) (by decide)
set_option maxHeartbeats 4000000 in
theorem PL_X8_readWorth_6 {fi : Nat → Nat → Int32} {fl : Nat → Nat → Int64} {vi : Nat → Int32} {vl : Nat → Int64} {r : Int32} {fj : Nat → Nat → Int32} {fm : Nat → Nat → Int64} {vj : Nat → Int32} {vm : Nat → Int64} : RL_X8_readWorth_6 fi fl vi vl r fj fm vj vm (PS_X8_readWorth fi fl vi vl r fj fm vj vm) := by
  unfold RL_X8_readWorth_6
  intro hp5 hp6 fik flk vik vlk rk gk_0 gk_1 fik_1 flk_1 vik_1 vlk_1 rk_1 gk_1_5 tb gk_1_0 c42 fik_7 flk_7 vik_7 vlk_7 rk_7 gk_7_0 gk_7_1 fik_8 flk_8 vik_8 vlk_8 rk_8 gk_8_0 c67 fik_9 flk_9 vik_9 vlk_9 rk_9 gk_9_0 gk_9_1 fik_10 flk_10 vik_10 vlk_10 rk_10 gk_10_5 tb_5 gk_10_0 fik_11 flk_11 vik_11 vlk_11 rk_11 gk_11_5 tb_6 gk_11_0 fik_12 flk_12 vik_12 vlk_12 rk_12 tb_7 gk_12_0 fik_13 flk_13 vik_13 vlk_13 rk_13 tb_8 gk_13_0 q0 q1 q2 q3 q4 q5 q6 q7 q8 q9 q10; subst q0
  unfold PS_X8_readWorth
  intro n m t hc H N O hN hS hV
  (try simp only [q1, q2, q3, q4, q5, q6, q7, q8, q9, q10]); have k9_0 : (0 : Int32).toInt = 0 := (by decide); have k9_1 : (1 : Int32).toInt = 1 := (by decide)
  have hc0 := hc
  obtain ⟨hn, hm, ht, ck, cp, ce, cw, cu, cg⟩ := hc0
  have hN9 := hN.1; have hS9 := hS.1
  rw [RWs_f hS] at gk_1
  rcases gk_1_5 n m t hc with ⟨a1, a2, a3, a4, a5⟩ | ⟨a1, a2, a3, a4⟩ | ⟨a1, a2, a3, a4, a5⟩
  · have hfo := kn_of cw gk_1 a2
    have hr9 := RWs_o hS (w := sW (trn (fi 0) n) n m t) (fun c => a3 (hfo.trans c))
    have hk0 : (fKn (trn (fi 0) n) n m (ownB (fl 1)) N 27 (H 1) t) = 0 := fKn_0 a2 (fun c => a3 (hfo.trans c))
    have hd0 := a5
    obtain ⟨dn, dm, dt, dk, dp, de, dw, du, dg⟩ := hd0
    rw [RWn_f hN] at gk_7_1
    rw [RWn_f hN] at gk_9_1
    rcases gk_10_5 n m _ a5 with ⟨b1, b2, b3, b4, b5⟩ | ⟨b1, b2, b3, b4⟩ | ⟨b1, b2, b3, b4, b5⟩
    · have hfo2 := kn_of dw gk_9_1 b2
      have hk2 : (fKn (trn (fi 0) n) n m (ownB (fl 1)) N 18 (H 0) (sX (trn (fi 0) n) n m t)) = 0 := fKn_0 b2 (fun c => b3 (hfo2.trans c))
      have hr8 := RWn_o hN (w := sW (trn (fi 0) n) n m (sX (trn (fi 0) n) n m t)) (fun c => b3 (hfo2.trans c))
      have hV9 := hV (fdx N 27 (sW (trn (fi 0) n) n m t) (H 1).toNat).toNat (by omega) (fdx N 18 (sW (trn (fi 0) n) n m (sX (trn (fi 0) n) n m t)) (H 0).toNat).toNat (by omega)
      rw [dw b2.1] at gk_7_1
      have hz9 : ((fi 1) (9 * (fdx N 27 (sW (trn (fi 0) n) n m t) (H 1).toNat).toNat + (fdx N 18 (sW (trn (fi 0) n) n m (sX (trn (fi 0) n) n m t)) (H 0).toNat).toNat)).toInt = 0 := by
        rcases gk_8_0 with ⟨v1, v2, v3, v4, v5⟩ | ⟨v1, v2⟩
        · rw [show (vik_1 0).toInt = fdx N 27 (sW (trn (fi 0) n) n m t) (H 1).toNat from a4.trans hfo, show rk_7.toInt = fdx N 18 (sW (trn (fi 0) n) n m (sX (trn (fi 0) n) n m t)) (H 0).toNat from gk_7_1] at v5
          have h5 := congrArg Int32.toInt v5
          omega
        · exfalso; omega
      rcases gk_11_5 n m _ b5 with ⟨c1, c2, c3, c4, c5, c6, c7⟩ | ⟨c1, c2, c3, c4⟩
      · exfalso; omega
      · exact absurd (c1.symm.trans tb_6) (by decide)
    · exact absurd (b1.symm.trans tb_5) (by decide)
    · exact absurd (b1.symm.trans tb_5) (by decide)
  · exact absurd (a1.symm.trans tb) (by decide)
  · exact absurd (a1.symm.trans tb) (by decide)
