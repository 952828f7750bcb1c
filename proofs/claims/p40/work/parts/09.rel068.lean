def RL_X8_readWorth_9 (fi : Nat → Nat → Int32) (fl : Nat → Nat → Int64) (vi : Nat → Int32) (vl : Nat → Int64) (r : Int32) (fj : Nat → Nat → Int32) (fm : Nat → Nat → Int64) (vj : Nat → Int32) (vm : Nat → Int64) (Q9 : Prop) : Prop :=
  (0 ≤ (vi 12).toInt ∧ (vi 12).toInt ≤ 9) → (0 ≤ (vi 13).toInt ∧ (vi 13).toInt ≤ 9) → ∀ (fik : Nat → Nat → Int32), ∀ (flk : Nat → Nat → Int64), ∀ (vik : Nat → Int32), ∀ (vlk : Nat → Int64), ∀ (rk : Int32), (-1 ≤ rk.toInt ∧ rk.toInt ≤ 8) → (rk.toInt = fdx (fl 0) 0 (vl 0) ((vi 13).toInt).toNat) → ∀ (fik_1 : Nat → Nat → Int32), ∀ (flk_1 : Nat → Nat → Int64), ∀ (vik_1 : Nat → Int32), ∀ (vlk_1 : Nat → Int64), ∀ (rk_1 : Int32), (∀ n m t : Nat, CC (trn (fi 0) n) n m t (vi 2) (vi 3) (vi 5) (vi 6) (vi 4) (vl 0) (vi 7) (vi 8) → (rk_1.toInt = 1 ∧ (wMay (trn (fi 0) n) n m (ownB (fl 1)) t) ∧ ¬ rk.toInt = -1 ∧ (vik_1 0).toInt = rk.toInt ∧ CC (trn (fi 0) n) n m (sX (trn (fi 0) n) n m t) (vi 2) (vi 3) (vik_1 1) (vik_1 2) (vik_1 5) (vlk_1 0) (vik_1 4) (vik_1 3)) ∨ (rk_1.toInt = 0 ∧ ¬ (wMay (trn (fi 0) n) n m (ownB (fl 1)) t) ∧ (vik_1 6).toInt = 1 ∧ (vik_1 7).toInt = ((sPn (trn (fi 0) n) n m t) : Int)) ∨ (rk_1.toInt = 0 ∧ (wMay (trn (fi 0) n) n m (ownB (fl 1)) t) ∧ rk.toInt = -1 ∧ (vik_1 6).toInt = 3 ∧ (vik_1 7).toInt = ((sPn (trn (fi 0) n) n m t) : Int))) → (rk_1.toInt = 1) → ((vik_1 0).toInt = rk.toInt ∧ ¬ rk.toInt = -1) → ((vik_1 1).toInt = 1) → ∀ (fik_7 : Nat → Nat → Int32), ∀ (flk_7 : Nat → Nat → Int64), ∀ (vik_7 : Nat → Int32), ∀ (vlk_7 : Nat → Int64), ∀ (rk_7 : Int32), (-1 ≤ rk_7.toInt ∧ rk_7.toInt ≤ 8) → (rk_7.toInt = fdx (fl 2) 0 (vlk_1 0) ((vi 12).toInt).toNat) → ∀ (fik_8 : Nat → Nat → Int32), ∀ (flk_8 : Nat → Nat → Int64), ∀ (vik_8 : Nat → Int32), ∀ (vlk_8 : Nat → Int64), ∀ (rk_8 : Int32), (DJ (0 ≤ (vik_1 0).toInt ∧ (vik_1 0).toInt < (vi 13).toInt ∧ 0 ≤ rk_7.toInt ∧ rk_7.toInt < (vi 12).toInt ∧ rk_8 = (fi 1) (9 * ((vik_1 0).toInt).toNat + (rk_7.toInt).toNat)) (¬ (0 ≤ (vik_1 0).toInt ∧ (vik_1 0).toInt < (vi 13).toInt ∧ 0 ≤ rk_7.toInt ∧ rk_7.toInt < (vi 12).toInt) ∧ rk_8.toInt = 0)) → (rk_8.toInt = 0) → ∀ (fik_9 : Nat → Nat → Int32), ∀ (flk_9 : Nat → Nat → Int64), ∀ (vik_9 : Nat → Int32), ∀ (vlk_9 : Nat → Int64), ∀ (rk_9 : Int32), (-1 ≤ rk_9.toInt ∧ rk_9.toInt ≤ 8) → (rk_9.toInt = fdx (fl 2) 0 (vlk_1 0) ((vi 12).toInt).toNat) → ∀ (fik_10 : Nat → Nat → Int32), ∀ (flk_10 : Nat → Nat → Int64), ∀ (vik_10 : Nat → Int32), ∀ (vlk_10 : Nat → Int64), ∀ (rk_10 : Int32), (∀ n m t : Nat, CC (trn (fi 0) n) n m t (vi 2) (vi 3) (vik_1 1) (vik_1 2) (vik_1 5) (vlk_1 0) (vik_1 4) (vik_1 3) → (rk_10.toInt = 1 ∧ (wMay (trn (fi 0) n) n m (ownB (fl 1)) t) ∧ ¬ rk_9.toInt = -1 ∧ (vik_10 0).toInt = rk_9.toInt ∧ CC (trn (fi 0) n) n m (sX (trn (fi 0) n) n m t) (vi 2) (vi 3) (vik_10 1) (vik_10 2) (vik_10 5) (vlk_10 0) (vik_10 4) (vik_10 3)) ∨ (rk_10.toInt = 0 ∧ ¬ (wMay (trn (fi 0) n) n m (ownB (fl 1)) t) ∧ (vik_10 6).toInt = 1 ∧ (vik_10 7).toInt = ((sPn (trn (fi 0) n) n m t) : Int)) ∨ (rk_10.toInt = 0 ∧ (wMay (trn (fi 0) n) n m (ownB (fl 1)) t) ∧ rk_9.toInt = -1 ∧ (vik_10 6).toInt = 3 ∧ (vik_10 7).toInt = ((sPn (trn (fi 0) n) n m t) : Int))) → (rk_10.toInt = 0) → (True) → (r = (0 : Int32)) → (fj 0 = (fi 1)) → (vj 0 = (vik_10 0)) → (vj 1 = (vik_10 1)) → (vj 2 = (vik_10 2)) → (vj 3 = (vik_10 3)) → (vj 4 = (vik_10 4)) → (vj 5 = (vik_10 5)) → (vj 6 = (vik_10 6)) → (vj 7 = (vik_10 7)) → (vm 0 = (vlk_10 0)) → Q9
def RL_X8_readWorth_10 (fi : Nat → Nat → Int32) (fl : Nat → Nat → Int64) (vi : Nat → Int32) (vl : Nat → Int64) (r : Int32) (fj : Nat → Nat → Int32) (fm : Nat → Nat → Int64) (vj : Nat → Int32) (vm : Nat → Int64) (Q9 : Prop) : Prop :=
  (0 ≤ (vi 12).toInt ∧ (vi 12).toInt ≤ 9) → (0 ≤ (vi 13).toInt ∧ (vi 13).toInt ≤ 9) → ∀ (fik : Nat → Nat → Int32), ∀ (flk : Nat → Nat → Int64), ∀ (vik : Nat → Int32), ∀ (vlk : Nat → Int64), ∀ (rk : Int32), (-1 ≤ rk.toInt ∧ rk.toInt ≤ 8) → (rk.toInt = fdx (fl 0) 0 (vl 0) ((vi 13).toInt).toNat) → ∀ (fik_1 : Nat → Nat → Int32), ∀ (flk_1 : Nat → Nat → Int64), ∀ (vik_1 : Nat → Int32), ∀ (vlk_1 : Nat → Int64), ∀ (rk_1 : Int32), (∀ n m t : Nat, CC (trn (fi 0) n) n m t (vi 2) (vi 3) (vi 5) (vi 6) (vi 4) (vl 0) (vi 7) (vi 8) → (rk_1.toInt = 1 ∧ (wMay (trn (fi 0) n) n m (ownB (fl 1)) t) ∧ ¬ rk.toInt = -1 ∧ (vik_1 0).toInt = rk.toInt ∧ CC (trn (fi 0) n) n m (sX (trn (fi 0) n) n m t) (vi 2) (vi 3) (vik_1 1) (vik_1 2) (vik_1 5) (vlk_1 0) (vik_1 4) (vik_1 3)) ∨ (rk_1.toInt = 0 ∧ ¬ (wMay (trn (fi 0) n) n m (ownB (fl 1)) t) ∧ (vik_1 6).toInt = 1 ∧ (vik_1 7).toInt = ((sPn (trn (fi 0) n) n m t) : Int)) ∨ (rk_1.toInt = 0 ∧ (wMay (trn (fi 0) n) n m (ownB (fl 1)) t) ∧ rk.toInt = -1 ∧ (vik_1 6).toInt = 3 ∧ (vik_1 7).toInt = ((sPn (trn (fi 0) n) n m t) : Int))) → (rk_1.toInt = 1) → ((vik_1 0).toInt = rk.toInt ∧ ¬ rk.toInt = -1) → ((vik_1 1).toInt = 1) → ∀ (fik_7 : Nat → Nat → Int32), ∀ (flk_7 : Nat → Nat → Int64), ∀ (vik_7 : Nat → Int32), ∀ (vlk_7 : Nat → Int64), ∀ (rk_7 : Int32), (-1 ≤ rk_7.toInt ∧ rk_7.toInt ≤ 8) → (rk_7.toInt = fdx (fl 2) 0 (vlk_1 0) ((vi 12).toInt).toNat) → ∀ (fik_8 : Nat → Nat → Int32), ∀ (flk_8 : Nat → Nat → Int64), ∀ (vik_8 : Nat → Int32), ∀ (vlk_8 : Nat → Int64), ∀ (rk_8 : Int32), (DJ (0 ≤ (vik_1 0).toInt ∧ (vik_1 0).toInt < (vi 13).toInt ∧ 0 ≤ rk_7.toInt ∧ rk_7.toInt < (vi 12).toInt ∧ rk_8 = (fi 1) (9 * ((vik_1 0).toInt).toNat + (rk_7.toInt).toNat)) (¬ (0 ≤ (vik_1 0).toInt ∧ (vik_1 0).toInt < (vi 13).toInt ∧ 0 ≤ rk_7.toInt ∧ rk_7.toInt < (vi 12).toInt) ∧ rk_8.toInt = 0)) → (¬ rk_8.toInt = 0) → ∀ (fik_14 : Nat → Nat → Int32), ∀ (flk_14 : Nat → Nat → Int64), ∀ (vik_14 : Nat → Int32), ∀ (vlk_14 : Nat → Int64), ∀ (rk_14 : Int32), (rk_14 = 0) → ((vik_14 0).toInt = (3 : Int32).toInt ∧ (vik_14 1).toInt = (vik_1 2).toInt) → (r = (0 : Int32)) → (fj 0 = (fi 1)) → (vj 0 = (vik_1 0)) → (vj 1 = (vik_1 1)) → (vj 2 = (vik_1 2)) → (vj 3 = (vik_1 3)) → (vj 4 = (vik_1 4)) → (vj 5 = (vik_1 5)) → (vj 6 = (vik_14 0)) → (vj 7 = (vik_14 1)) → (vm 0 = (vlk_1 0)) → Q9
def RL_X8_readWorth_11 (fi : Nat → Nat → Int32) (fl : Nat → Nat → Int64) (vi : Nat → Int32) (vl : Nat → Int64) (r : Int32) (fj : Nat → Nat → Int32) (fm : Nat → Nat → Int64) (vj : Nat → Int32) (vm : Nat → Int64) (Q9 : Prop) : Prop :=
  (0 ≤ (vi 12).toInt ∧ (vi 12).toInt ≤ 9) → (0 ≤ (vi 13).toInt ∧ (vi 13).toInt ≤ 9) → ∀ (fik : Nat → Nat → Int32), ∀ (flk : Nat → Nat → Int64), ∀ (vik : Nat → Int32), ∀ (vlk : Nat → Int64), ∀ (rk : Int32), (-1 ≤ rk.toInt ∧ rk.toInt ≤ 8) → (rk.toInt = fdx (fl 0) 0 (vl 0) ((vi 13).toInt).toNat) → ∀ (fik_1 : Nat → Nat → Int32), ∀ (flk_1 : Nat → Nat → Int64), ∀ (vik_1 : Nat → Int32), ∀ (vlk_1 : Nat → Int64), ∀ (rk_1 : Int32), (∀ n m t : Nat, CC (trn (fi 0) n) n m t (vi 2) (vi 3) (vi 5) (vi 6) (vi 4) (vl 0) (vi 7) (vi 8) → (rk_1.toInt = 1 ∧ (wMay (trn (fi 0) n) n m (ownB (fl 1)) t) ∧ ¬ rk.toInt = -1 ∧ (vik_1 0).toInt = rk.toInt ∧ CC (trn (fi 0) n) n m (sX (trn (fi 0) n) n m t) (vi 2) (vi 3) (vik_1 1) (vik_1 2) (vik_1 5) (vlk_1 0) (vik_1 4) (vik_1 3)) ∨ (rk_1.toInt = 0 ∧ ¬ (wMay (trn (fi 0) n) n m (ownB (fl 1)) t) ∧ (vik_1 6).toInt = 1 ∧ (vik_1 7).toInt = ((sPn (trn (fi 0) n) n m t) : Int)) ∨ (rk_1.toInt = 0 ∧ (wMay (trn (fi 0) n) n m (ownB (fl 1)) t) ∧ rk.toInt = -1 ∧ (vik_1 6).toInt = 3 ∧ (vik_1 7).toInt = ((sPn (trn (fi 0) n) n m t) : Int))) → (rk_1.toInt = 0) → (True) → (r = (0 : Int32)) → (fj 0 = (fi 1)) → (vj 0 = (vik_1 0)) → (vj 1 = (vik_1 1)) → (vj 2 = (vik_1 2)) → (vj 3 = (vik_1 3)) → (vj 4 = (vik_1 4)) → (vj 5 = (vik_1 5)) → (vj 6 = (vik_1 6)) → (vj 7 = (vik_1 7)) → (vm 0 = (vlk_1 0)) → Q9
def R_X8_readWorth (fi : Nat → Nat → Int32) (fl : Nat → Nat → Int64) (vi : Nat → Int32) (vl : Nat → Int64) (r : Int32) (fj : Nat → Nat → Int32) (fm : Nat → Nat → Int64) (vj : Nat → Int32) (vm : Nat → Int64) : Prop :=
  ∀ Q9 : Prop, RL_X8_readWorth_0 fi fl vi vl r fj fm vj vm Q9 → RL_X8_readWorth_1 fi fl vi vl r fj fm vj vm Q9 → RL_X8_readWorth_2 fi fl vi vl r fj fm vj vm Q9 → RL_X8_readWorth_3 fi fl vi vl r fj fm vj vm Q9 → RL_X8_readWorth_4 fi fl vi vl r fj fm vj vm Q9 → RL_X8_readWorth_5 fi fl vi vl r fj fm vj vm Q9 → RL_X8_readWorth_6 fi fl vi vl r fj fm vj vm Q9 → RL_X8_readWorth_7 fi fl vi vl r fj fm vj vm Q9 → RL_X8_readWorth_8 fi fl vi vl r fj fm vj vm Q9 → RL_X8_readWorth_9 fi fl vi vl r fj fm vj vm Q9 → RL_X8_readWorth_10 fi fl vi vl r fj fm vj vm Q9 → RL_X8_readWorth_11 fi fl vi vl r fj fm vj vm Q9 → Q9
def PS_X8_readWorth (fi : Nat → Nat → Int32) (fl : Nat → Nat → Int64) (vi : Nat → Int32) (vl : Nat → Int64) (r : Int32) (fj : Nat → Nat → Int32) (fm : Nat → Nat → Int64) (vj : Nat → Int32) (vm : Nat → Int64) : Prop :=
  ∀ n m t : Nat, CC (trn (fi 0) n) n m t (vi 2) (vi 3) (vi 5) (vi 6) (vi 4) (vl 0) (vi 7) (vi 8) → ∀ (H : Nat → Int) (N : Nat → Int64) (O : Nat → Bool), (RWn (ownB (fl 1)) (vi 12) (fl 2) H N) → (RWs (ownB (fl 1)) (vi 13) (fl 0) H N) → RV (fi 1) H → LO (lnWorth (trn (fi 0) n) n m (ownB (fl 1)) H N O t) r (vj 6) (vj 7) (fun t' H' N' O' => CC (trn (fi 0) n) n m t' (vi 2) (vi 3) (vj 1) (vj 2) (vj 5) (vm 0) (vj 4) (vj 3) ∧ ∃ (k i : Nat) (u : Int), (k : Int) < H 1 ∧ i < 9 ∧ 0 ≤ u ∧ H' = setI H (56 + 9 * k + i) u ∧ N' = N ∧ O' = O ∧ (∀ j : Nat, ¬ j = 9 * k + i → (fj 0) j = (fi 1) j) ∧ ((fj 0) (9 * k + i)).toInt = u)
set_option maxHeartbeats 4000000 in
theorem PL_X8_readWorth_0 {fi : Nat → Nat → Int32} {fl : Nat → Nat → Int64} {vi : Nat → Int32} {vl : Nat → Int64} {r : Int32} {fj : Nat → Nat → Int32} {fm : Nat → Nat → Int64} {vj : Nat → Int32} {vm : Nat → Int64} : RL_X8_readWorth_0 fi fl vi vl r fj fm vj vm (PS_X8_readWorth fi fl vi vl r fj fm vj vm) := by
  unfold RL_X8_readWorth_0
  intro hp5 hp6 fik flk vik vlk rk gk_0 gk_1 fik_1 flk_1 vik_1 vlk_1 rk_1 gk_1_4 tb gk_1_0 c42 fik_2 flk_2 vik_2 vlk_2 rk_2 gk_2_0 gk_2_1 fik_3 flk_3 vik_3 vlk_3 rk_3 gk_3_4 tb_1 gk_3_0 fik_4 flk_4 vik_4 vlk_4 rk_4 gk_4_4 tb_2 gk_4_0 fik_5 flk_5 vik_5 vlk_5 rk_5 tb_3 gk_5_0 fik_6 flk_6 vik_6 vlk_6 rk_6 tb_4 gk_6_0 z160 ez160 tz160 z162 ez162 tz162 f170 ef170 q0 q1 q2 q3 q4 q5 q6 q7 q8 q9 q10; subst q0
  unfold PS_X8_readWorth
  intro n m t hc H N O hN hS hV
  (try simp only [q1, q2, q3, q4, q5, q6, q7, q8, q9, q10]); have k9_0 : (0 : Int32).toInt = 0 := (by decide); have k9_1 : (1 : Int32).toInt = 1 := (by decide)
  have hc0 := hc
  obtain ⟨hn, hm, ht, ck, cp, ce, cw, cu, cg⟩ := hc0
  have hN9 := hN.1; have hS9 := hS.1
  rw [RWs_f hS] at gk_1
  rcases gk_1_4 n m t hc with ⟨a1, a2, a3, a4, a5⟩ | ⟨a1, a2, a3, a4⟩ | ⟨a1, a2, a3, a4, a5⟩
  · have hfo := kn_of cw gk_1 a2
    have hr9 := RWs_o hS (w := sW (trn (fi 0) n) n m t) (fun c => a3 (hfo.trans c))
    have hk0 : (fKn (trn (fi 0) n) n m (ownB (fl 1)) N 27 (H 1) t) = 0 := fKn_0 a2 (fun c => a3 (hfo.trans c))
    have hd0 := a5
    obtain ⟨dn, dm, dt, dk, dp, de, dw, du, dg⟩ := hd0
    rw [RWn_f hN] at gk_2_1
    rcases gk_3_4 n m _ a5 with ⟨b1, b2, b3, b4, b5⟩ | ⟨b1, b2, b3, b4⟩ | ⟨b1, b2, b3, b4, b5⟩
    · exact absurd (dk.trans b2.1) (by assumption)
    · exact absurd (b1.symm.trans tb_1) (by decide)
    · exact absurd (b1.symm.trans tb_1) (by decide)
  · exact absurd (a1.symm.trans tb) (by decide)
  · exact absurd (a1.symm.trans tb) (by decide)
set_option maxHeartbeats 4000000 in
theorem PL_X8_readWorth_1 {fi : Nat → Nat → Int32} {fl : Nat → Nat → Int64} {vi : Nat → Int32} {vl : Nat → Int64} {r : Int32} {fj : Nat → Nat → Int32} {fm : Nat → Nat → Int64} {vj : Nat → Int32} {vm : Nat → Int64} : RL_X8_readWorth_1 fi fl vi vl r fj fm vj vm (PS_X8_readWorth fi fl vi vl r fj fm vj vm) := by
  unfold RL_X8_readWorth_1
  intro hp5 hp6 fik flk vik vlk rk gk_0 gk_1 fik_1 flk_1 vik_1 vlk_1 rk_1 gk_1_4 tb gk_1_0 c42 fik_2 flk_2 vik_2 vlk_2 rk_2 gk_2_0 gk_2_1 fik_3 flk_3 vik_3 vlk_3 rk_3 gk_3_4 tb_1 gk_3_0 fik_4 flk_4 vik_4 vlk_4 rk_4 gk_4_4 tb_2 gk_4_0 fik_5 flk_5 vik_5 vlk_5 rk_5 tb_3 gk_5_0 fik_6 flk_6 vik_6 vlk_6 rk_6 tb_4 gk_6_0 q0 q1 q2 q3 q4 q5 q6 q7 q8 q9 q10; subst q0
  unfold PS_X8_readWorth
  intro n m t hc H N O hN hS hV
  (try simp only [q1, q2, q3, q4, q5, q6, q7, q8, q9, q10]); have k9_0 : (0 : Int32).toInt = 0 := (by decide); have k9_1 : (1 : Int32).toInt = 1 := (by decide)
  have hc0 := hc
  obtain ⟨hn, hm, ht, ck, cp, ce, cw, cu, cg⟩ := hc0
  have hN9 := hN.1; have hS9 := hS.1
  rw [RWs_f hS] at gk_1
  rcases gk_1_4 n m t hc with ⟨a1, a2, a3, a4, a5⟩ | ⟨a1, a2, a3, a4⟩ | ⟨a1, a2, a3, a4, a5⟩
  · have hfo := kn_of cw gk_1 a2
    have hr9 := RWs_o hS (w := sW (trn (fi 0) n) n m t) (fun c => a3 (hfo.trans c))
    have hk0 : (fKn (trn (fi 0) n) n m (ownB (fl 1)) N 27 (H 1) t) = 0 := fKn_0 a2 (fun c => a3 (hfo.trans c))
    have hd0 := a5
    obtain ⟨dn, dm, dt, dk, dp, de, dw, du, dg⟩ := hd0
    rw [RWn_f hN] at gk_2_1
    rcases gk_3_4 n m _ a5 with ⟨b1, b2, b3, b4, b5⟩ | ⟨b1, b2, b3, b4⟩ | ⟨b1, b2, b3, b4, b5⟩
    · exact absurd (dk.trans b2.1) (by assumption)
    · exact absurd (b1.symm.trans tb_1) (by decide)
    · exact absurd (b1.symm.trans tb_1) (by decide)
  · exact absurd (a1.symm.trans tb) (by decide)
  · exact absurd (a1.symm.trans tb) (by decide)
set_option maxHeartbeats 4000000 in
theorem PL_X8_readWorth_2 {fi : Nat → Nat → Int32} {fl : Nat → Nat → Int64} {vi : Nat → Int32} {vl : Nat → Int64} {r : Int32} {fj : Nat → Nat → Int32} {fm : Nat → Nat → Int64} {vj : Nat → Int32} {vm : Nat → Int64} : RL_X8_readWorth_2 fi fl vi vl r fj fm vj vm (PS_X8_readWorth fi fl vi vl r fj fm vj vm) := by
  unfold RL_X8_readWorth_2
  intro hp5 hp6 fik flk vik vlk rk gk_0 gk_1 fik_1 flk_1 vik_1 vlk_1 rk_1 gk_1_4 tb gk_1_0 c42 fik_2 flk_2 vik_2 vlk_2 rk_2 gk_2_0 gk_2_1 fik_3 flk_3 vik_3 vlk_3 rk_3 gk_3_4 tb_1 gk_3_0 fik_4 flk_4 vik_4 vlk_4 rk_4 gk_4_4 tb_2 gk_4_0 fik_5 flk_5 vik_5 vlk_5 rk_5 tb_3 gk_5_0 q0 q1 q2 q3 q4 q5 q6 q7 q8 q9 q10; subst q0
  unfold PS_X8_readWorth
  intro n m t hc H N O hN hS hV
  (try simp only [q1, q2, q3, q4, q5, q6, q7, q8, q9, q10]); have k9_0 : (0 : Int32).toInt = 0 := (by decide); have k9_1 : (1 : Int32).toInt = 1 := (by decide)
  have hc0 := hc
  obtain ⟨hn, hm, ht, ck, cp, ce, cw, cu, cg⟩ := hc0
  have hN9 := hN.1; have hS9 := hS.1
  rw [RWs_f hS] at gk_1
  rcases gk_1_4 n m t hc with ⟨a1, a2, a3, a4, a5⟩ | ⟨a1, a2, a3, a4⟩ | ⟨a1, a2, a3, a4, a5⟩
  · have hfo := kn_of cw gk_1 a2
    have hr9 := RWs_o hS (w := sW (trn (fi 0) n) n m t) (fun c => a3 (hfo.trans c))
    have hk0 : (fKn (trn (fi 0) n) n m (ownB (fl 1)) N 27 (H 1) t) = 0 := fKn_0 a2 (fun c => a3 (hfo.trans c))
    have hd0 := a5
    obtain ⟨dn, dm, dt, dk, dp, de, dw, du, dg⟩ := hd0
    rw [RWn_f hN] at gk_2_1
    rcases gk_3_4 n m _ a5 with ⟨b1, b2, b3, b4, b5⟩ | ⟨b1, b2, b3, b4⟩ | ⟨b1, b2, b3, b4, b5⟩
    · exact absurd (dk.trans b2.1) (by assumption)
    · exact absurd (b1.symm.trans tb_1) (by decide)
    · exact absurd (b1.symm.trans tb_1) (by decide)
  · exact absurd (a1.symm.trans tb) (by decide)
  · exact absurd (a1.symm.trans tb) (by decide)
set_option maxHeartbeats 4000000 in
theorem PL_X8_readWorth_3 {fi : Nat → Nat → Int32} {fl : Nat → Nat → Int64} {vi : Nat → Int32} {vl : Nat → Int64} {r : Int32} {fj : Nat → Nat → Int32} {fm : Nat → Nat → Int64} {vj : Nat → Int32} {vm : Nat → Int64} : RL_X8_readWorth_3 fi fl vi vl r fj fm vj vm (PS_X8_readWorth fi fl vi vl r fj fm vj vm) := by
  unfold RL_X8_readWorth_3
  intro hp5 hp6 fik flk vik vlk rk gk_0 gk_1 fik_1 flk_1 vik_1 vlk_1 rk_1 gk_1_4 tb gk_1_0 c42 fik_2 flk_2 vik_2 vlk_2 rk_2 gk_2_0 gk_2_1 fik_3 flk_3 vik_3 vlk_3 rk_3 gk_3_4 tb_1 gk_3_0 fik_4 flk_4 vik_4 vlk_4 rk_4 gk_4_4 tb_2 gk_4_0 q0 q1 q2 q3 q4 q5 q6 q7 q8 q9 q10; subst q0
  unfold PS_X8_readWorth
  intro n m t hc H N O hN hS hV
  (try simp only [q1, q2, q3, q4, q5, q6, q7, q8, q9, q10]); have k9_0 : (0 : Int32).toInt = 0 := (by decide); have k9_1 : (1 : Int32).toInt = 1 := (by decide)
  have hc0 := hc
  obtain ⟨hn, hm, ht, ck, cp, ce, cw, cu, cg⟩ := hc0
  have hN9 := hN.1; have hS9 := hS.1
  rw [RWs_f hS] at gk_1
  rcases gk_1_4 n m t hc with ⟨a1, a2, a3, a4, a5⟩ | ⟨a1, a2, a3, a4⟩ | ⟨a1, a2, a3, a4, a5⟩
  · have hfo := kn_of cw gk_1 a2
    have hr9 := RWs_o hS (w := sW (trn (fi 0) n) n m t) (fun c => a3 (hfo.trans c))
    have hk0 : (fKn (trn (fi 0) n) n m (ownB (fl 1)) N 27 (H 1) t) = 0 := fKn_0 a2 (fun c => a3 (hfo.trans c))
    have hd0 := a5
    obtain ⟨dn, dm, dt, dk, dp, de, dw, du, dg⟩ := hd0
    rw [RWn_f hN] at gk_2_1
    rcases gk_3_4 n m _ a5 with ⟨b1, b2, b3, b4, b5⟩ | ⟨b1, b2, b3, b4⟩ | ⟨b1, b2, b3, b4, b5⟩
    · exact absurd (dk.trans b2.1) (by assumption)
    · exact absurd (b1.symm.trans tb_1) (by decide)
    · exact absurd (b1.symm.trans tb_1) (by decide)
  · exact absurd (a1.symm.trans tb) (by decide)
  · exact absurd (a1.symm.trans tb) (by decide)
set_option maxHeartbeats 4000000 in
theorem PL_X8_readWorth_4 {fi : Nat → Nat → Int32} {fl : Nat → Nat → Int64} {vi : Nat → Int32} {vl : Nat → Int64} {r : Int32} {fj : Nat → Nat → Int32} {fm : Nat → Nat → Int64} {vj : Nat → Int32} {vm : Nat → Int64} : RL_X8_readWorth_4 fi fl vi vl r fj fm vj vm (PS_X8_readWorth fi fl vi vl r fj fm vj vm) := by
  unfold RL_X8_readWorth_4
  intro hp5 hp6 fik flk vik vlk rk gk_0 gk_1 fik_1 flk_1 vik_1 vlk_1 rk_1 gk_1_4 tb gk_1_0 c42 fik_2 flk_2 vik_2 vlk_2 rk_2 gk_2_0 gk_2_1 fik_3 flk_3 vik_3 vlk_3 rk_3 gk_3_4 tb_1 gk_3_0 q0 q1 q2 q3 q4 q5 q6 q7 q8 q9 q10; subst q0
  unfold PS_X8_readWorth
  intro n m t hc H N O hN hS hV
  (try simp only [q1, q2, q3, q4, q5, q6, q7, q8, q9, q10]); have k9_0 : (0 : Int32).toInt = 0 := (by decide); have k9_1 : (1 : Int32).toInt = 1 := (by decide)
  have hc0 := hc
  obtain ⟨hn, hm, ht, ck, cp, ce, cw, cu, cg⟩ := hc0
  have hN9 := hN.1; have hS9 := hS.1
  rw [RWs_f hS] at gk_1
  rcases gk_1_4 n m t hc with ⟨a1, a2, a3, a4, a5⟩ | ⟨a1, a2, a3, a4⟩ | ⟨a1, a2, a3, a4, a5⟩
  · have hfo := kn_of cw gk_1 a2
    have hr9 := RWs_o hS (w := sW (trn (fi 0) n) n m t) (fun c => a3 (hfo.trans c))
    have hk0 : (fKn (trn (fi 0) n) n m (ownB (fl 1)) N 27 (H 1) t) = 0 := fKn_0 a2 (fun c => a3 (hfo.trans c))
    have hd0 := a5
    obtain ⟨dn, dm, dt, dk, dp, de, dw, du, dg⟩ := hd0
    rw [RWn_f hN] at gk_2_1
    rcases gk_3_4 n m _ a5 with ⟨b1, b2, b3, b4, b5⟩ | ⟨b1, b2, b3, b4⟩ | ⟨b1, b2, b3, b4, b5⟩
    · exact absurd (b1.symm.trans tb_1) (by decide)
    · have hk1 : (fKn (trn (fi 0) n) n m (ownB (fl 1)) N 18 (H 0) (sX (trn (fi 0) n) n m t)) = 1 := fKn_1 b2
      exact LO_bad (by unfold lnWorth; rw [if_neg (fun c => c hk0), if_pos (by rw [hk1]; decide)]) (by decide) (b3.trans hk1.symm) b4
    · have hfo2 := kn_of dw gk_2_1 b2
      have hk3 : (fKn (trn (fi 0) n) n m (ownB (fl 1)) N 18 (H 0) (sX (trn (fi 0) n) n m t)) = 3 := fKn_3 b2 (hfo2.symm.trans b3)
      exact LO_bad (by unfold lnWorth; rw [if_neg (fun c => c hk0), if_pos (by rw [hk3]; decide)]) (by decide) (b4.trans hk3.symm) b5
  · exact absurd (a1.symm.trans tb) (by decide)
  · exact absurd (a1.symm.trans tb) (by decide)
