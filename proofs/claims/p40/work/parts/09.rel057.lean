def RL_X8_readOfName_3 (fi : Nat → Nat → Int32) (fl : Nat → Nat → Int64) (vi : Nat → Int32) (vl : Nat → Int64) (r : Int32) (fj : Nat → Nat → Int32) (fm : Nat → Nat → Int64) (vj : Nat → Int32) (vm : Nat → Int64) (Q9 : Prop) : Prop :=
  (0 ≤ (vi 14).toInt ∧ (vi 14).toInt ≤ 9) → (0 ≤ (vi 15).toInt ∧ (vi 15).toInt ≤ 9) → ∀ (fik : Nat → Nat → Int32), ∀ (flk : Nat → Nat → Int64), ∀ (vik : Nat → Int32), ∀ (vlk : Nat → Int64), ∀ (rk : Int32), (-1 ≤ rk.toInt ∧ rk.toInt ≤ 8) → (rk.toInt = fdx (fl 0) 0 (vl 0) ((vi 14).toInt).toNat) → ∀ (fik_1 : Nat → Nat → Int32), ∀ (flk_1 : Nat → Nat → Int64), ∀ (vik_1 : Nat → Int32), ∀ (vlk_1 : Nat → Int64), ∀ (rk_1 : Int32), (∀ n m t : Nat, CC (trn (fi 0) n) n m t (vi 4) (vi 5) (vi 7) (vi 8) (vi 6) (vl 0) (vi 9) (vi 10) → (rk_1.toInt = 1 ∧ (wMay (trn (fi 0) n) n m (ownB (fl 1)) t) ∧ ¬ rk.toInt = -1 ∧ (vik_1 0).toInt = rk.toInt ∧ (0 ≤ rk.toInt → rk.toInt < 9 → ((fi 1) (rk).toNatClampNeg).toInt = -1) ∧ CC (trn (fi 0) n) n m (sX (trn (fi 0) n) n m t) (vi 4) (vi 5) (vik_1 1) (vik_1 2) (vik_1 5) (vlk_1 0) (vik_1 4) (vik_1 3)) ∨ (rk_1.toInt = 0 ∧ ¬ (wMay (trn (fi 0) n) n m (ownB (fl 1)) t) ∧ (vik_1 6).toInt = 1 ∧ (vik_1 7).toInt = ((sPn (trn (fi 0) n) n m t) : Int)) ∨ (rk_1.toInt = 0 ∧ (wMay (trn (fi 0) n) n m (ownB (fl 1)) t) ∧ rk.toInt = -1 ∧ (vik_1 6).toInt = 3 ∧ (vik_1 7).toInt = ((sPn (trn (fi 0) n) n m t) : Int)) ∨ (rk_1.toInt = 0 ∧ (sK (trn (fi 0) n) n m t) = 1 ∧ 0 ≤ rk.toInt ∧ rk.toInt < 9 ∧ ¬ ((fi 1) (rk).toNatClampNeg).toInt = -1 ∧ (vik_1 6).toInt = 3 ∧ (vik_1 7).toInt = ((sPn (trn (fi 0) n) n m t) : Int))) → (rk_1.toInt = 1) → ((vik_1 0).toInt = rk.toInt ∧ ¬ rk.toInt = -1) → ∀ (fik_2 : Nat → Nat → Int32), ∀ (flk_2 : Nat → Nat → Int64), ∀ (vik_2 : Nat → Int32), ∀ (vlk_2 : Nat → Int64), ∀ (rk_2 : Int32), (∀ n m t : Nat, CC (trn (fi 0) n) n m t (vi 4) (vi 5) (vik_1 1) (vik_1 2) (vik_1 5) (vlk_1 0) (vik_1 4) (vik_1 3) → (rk_2.toInt = 1 ∧ (fNum (trn (fi 0) n) n m (vi 0).toInt (vi 1).toInt t) = 0 ∧ (vik_2 2).toInt = (sU (trn (fi 0) n) n m t) ∧ (sK (trn (fi 0) n) n m t) = 2 ∧ (vi 0).toInt ≤ (sU (trn (fi 0) n) n m t) ∧ (sU (trn (fi 0) n) n m t) ≤ (vi 1).toInt ∧ CC (trn (fi 0) n) n m (sX (trn (fi 0) n) n m t) (vi 4) (vi 5) (vik_2 3) (vik_2 4) (vik_2 7) (vlk_2 0) (vik_2 6) (vik_2 5)) ∨ (rk_2.toInt = 0 ∧ ¬ (fNum (trn (fi 0) n) n m (vi 0).toInt (vi 1).toInt t) = 0 ∧ (vik_2 0).toInt = (fNum (trn (fi 0) n) n m (vi 0).toInt (vi 1).toInt t) ∧ (vik_2 1).toInt = ((sPn (trn (fi 0) n) n m t) : Int))) → (rk_2.toInt = 0) → (True) → (r = (0 : Int32)) → (fj 0 = (fi 1)) → (vj 0 = (vik_2 2)) → (vj 1 = (vik_2 3)) → (vj 2 = (vik_2 4)) → (vj 3 = (vik_2 5)) → (vj 4 = (vik_2 6)) → (vj 5 = (vik_2 7)) → (vj 6 = (vik_2 0)) → (vj 7 = (vik_2 1)) → (vm 0 = (vlk_2 0)) → Q9
def RL_X8_readOfName_4 (fi : Nat → Nat → Int32) (fl : Nat → Nat → Int64) (vi : Nat → Int32) (vl : Nat → Int64) (r : Int32) (fj : Nat → Nat → Int32) (fm : Nat → Nat → Int64) (vj : Nat → Int32) (vm : Nat → Int64) (Q9 : Prop) : Prop :=
  (0 ≤ (vi 14).toInt ∧ (vi 14).toInt ≤ 9) → (0 ≤ (vi 15).toInt ∧ (vi 15).toInt ≤ 9) → ∀ (fik : Nat → Nat → Int32), ∀ (flk : Nat → Nat → Int64), ∀ (vik : Nat → Int32), ∀ (vlk : Nat → Int64), ∀ (rk : Int32), (-1 ≤ rk.toInt ∧ rk.toInt ≤ 8) → (rk.toInt = fdx (fl 0) 0 (vl 0) ((vi 14).toInt).toNat) → ∀ (fik_1 : Nat → Nat → Int32), ∀ (flk_1 : Nat → Nat → Int64), ∀ (vik_1 : Nat → Int32), ∀ (vlk_1 : Nat → Int64), ∀ (rk_1 : Int32), (∀ n m t : Nat, CC (trn (fi 0) n) n m t (vi 4) (vi 5) (vi 7) (vi 8) (vi 6) (vl 0) (vi 9) (vi 10) → (rk_1.toInt = 1 ∧ (wMay (trn (fi 0) n) n m (ownB (fl 1)) t) ∧ ¬ rk.toInt = -1 ∧ (vik_1 0).toInt = rk.toInt ∧ (0 ≤ rk.toInt → rk.toInt < 9 → ((fi 1) (rk).toNatClampNeg).toInt = -1) ∧ CC (trn (fi 0) n) n m (sX (trn (fi 0) n) n m t) (vi 4) (vi 5) (vik_1 1) (vik_1 2) (vik_1 5) (vlk_1 0) (vik_1 4) (vik_1 3)) ∨ (rk_1.toInt = 0 ∧ ¬ (wMay (trn (fi 0) n) n m (ownB (fl 1)) t) ∧ (vik_1 6).toInt = 1 ∧ (vik_1 7).toInt = ((sPn (trn (fi 0) n) n m t) : Int)) ∨ (rk_1.toInt = 0 ∧ (wMay (trn (fi 0) n) n m (ownB (fl 1)) t) ∧ rk.toInt = -1 ∧ (vik_1 6).toInt = 3 ∧ (vik_1 7).toInt = ((sPn (trn (fi 0) n) n m t) : Int)) ∨ (rk_1.toInt = 0 ∧ (sK (trn (fi 0) n) n m t) = 1 ∧ 0 ≤ rk.toInt ∧ rk.toInt < 9 ∧ ¬ ((fi 1) (rk).toNatClampNeg).toInt = -1 ∧ (vik_1 6).toInt = 3 ∧ (vik_1 7).toInt = ((sPn (trn (fi 0) n) n m t) : Int))) → (rk_1.toInt = 0) → (True) → (r = (0 : Int32)) → (fj 0 = (fi 1)) → (vj 0 = (vik_1 0)) → (vj 1 = (vik_1 1)) → (vj 2 = (vik_1 2)) → (vj 3 = (vik_1 3)) → (vj 4 = (vik_1 4)) → (vj 5 = (vik_1 5)) → (vj 6 = (vik_1 6)) → (vj 7 = (vik_1 7)) → (vm 0 = (vlk_1 0)) → Q9
def R_X8_readOfName (fi : Nat → Nat → Int32) (fl : Nat → Nat → Int64) (vi : Nat → Int32) (vl : Nat → Int64) (r : Int32) (fj : Nat → Nat → Int32) (fm : Nat → Nat → Int64) (vj : Nat → Int32) (vm : Nat → Int64) : Prop :=
  ∀ Q9 : Prop, RL_X8_readOfName_0 fi fl vi vl r fj fm vj vm Q9 → RL_X8_readOfName_1 fi fl vi vl r fj fm vj vm Q9 → RL_X8_readOfName_2 fi fl vi vl r fj fm vj vm Q9 → RL_X8_readOfName_3 fi fl vi vl r fj fm vj vm Q9 → RL_X8_readOfName_4 fi fl vi vl r fj fm vj vm Q9 → Q9
def PS_X8_readOfName (fi : Nat → Nat → Int32) (fl : Nat → Nat → Int64) (vi : Nat → Int32) (vl : Nat → Int64) (r : Int32) (fj : Nat → Nat → Int32) (fm : Nat → Nat → Int64) (vj : Nat → Int32) (vm : Nat → Int64) : Prop :=
  ∀ n m t : Nat, CC (trn (fi 0) n) n m t (vi 4) (vi 5) (vi 7) (vi 8) (vi 6) (vl 0) (vi 9) (vi 10) → ∀ (H : Nat → Int) (N : Nat → Int64) (O : Nat → Bool) (b to : Nat), (RWn (ownB (fl 1)) (vi 14) (fl 0) H N) → RO (fi 1) b H O → 0 ≤ (vi 0).toInt → LO (lnOf (trn (fi 0) n) n m (ownB (fl 1)) b to (vi 0).toInt (vi 1).toInt H N O t) r (vj 6) (vj 7) (fun t' H' N' O' => CC (trn (fi 0) n) n m t' (vi 4) (vi 5) (vj 1) (vj 2) (vj 5) (vm 0) (vj 4) (vj 3) ∧ ∃ (k : Nat) (u : Int), (k : Int) < H 0 ∧ H' = setI H (to + k) u ∧ N' = N ∧ O' = setB O (b + k) ∧ (∀ j : Nat, ¬ j = k → (fj 0) j = (fi 1) j) ∧ ¬ ((fj 0) k).toInt = -1)
set_option maxHeartbeats 4000000 in
theorem PL_X8_readOfName_0 {fi : Nat → Nat → Int32} {fl : Nat → Nat → Int64} {vi : Nat → Int32} {vl : Nat → Int64} {r : Int32} {fj : Nat → Nat → Int32} {fm : Nat → Nat → Int64} {vj : Nat → Int32} {vm : Nat → Int64} : RL_X8_readOfName_0 fi fl vi vl r fj fm vj vm (PS_X8_readOfName fi fl vi vl r fj fm vj vm) := by
  unfold RL_X8_readOfName_0
  intro hp5 hp6 fik flk vik vlk rk gk_0 gk_1 fik_1 flk_1 vik_1 vlk_1 rk_1 gk_1_4 tb gk_1_0 fik_2 flk_2 vik_2 vlk_2 rk_2 gk_2_4 tb_1 gk_2_0 c47 q0 q1 q2 q3 q4 q5 q6 q7 q8 q9 q10; subst q0
  unfold PS_X8_readOfName
  intro n m t hc H N O b to hN hO hlo
  (try simp only [q1, q2, q3, q4, q5, q6, q7, q8, q9, q10]); have k9_0 : (0 : Int32).toInt = 0 := (by decide); have k9_1 : (1 : Int32).toInt = 1 := (by decide)
  have hc0 := hc
  obtain ⟨hn, hm, ht, ck, cp, ce, cw, cu, cg⟩ := hc0
  have hN9 := hN.1
  rw [RWn_f hN] at gk_1
  rcases gk_1_4 n m t hc with ⟨a1, a2, a3, a4, a5, a6⟩ | ⟨a1, a2, a3, a4⟩ | ⟨a1, a2, a3, a4, a5⟩ | ⟨a1, a2, a3, a4, a5, a6, a7⟩
  · have hfo := kn_of cw gk_1 a2
    have hr9 := RWn_o hN (w := sW (trn (fi 0) n) n m t) (by omega)
    have hk0 : (fKn (trn (fi 0) n) n m (ownB (fl 1)) N 18 (H 0) t) = 0 := fKn_0 a2 (by omega)
    have hrow := a5 (by omega) (by omega)
    have hO9 : O (b + (fdx N 18 (sW (trn (fi 0) n) n m t) (H 0).toNat).toNat) = false := (hO _ (by omega)).mp (by rw [show (fdx N 18 (sW (trn (fi 0) n) n m t) (H 0).toNat).toNat = rk.toNatClampNeg from (show _ = rk.toInt.toNat by omega)]; exact hrow)
    rcases gk_2_4 n m _ a6 with ⟨b1, b2, b3, b4, b5, b6, b7⟩ | ⟨b1, b2, b3, b4⟩
    · exfalso; omega
    · exact absurd (b1.symm.trans tb_1) (by decide)
  · exact absurd (a1.symm.trans tb) (by decide)
  · exact absurd (a1.symm.trans tb) (by decide)
  · exact absurd (a1.symm.trans tb) (by decide)
set_option maxHeartbeats 4000000 in
theorem PL_X8_readOfName_1 {fi : Nat → Nat → Int32} {fl : Nat → Nat → Int64} {vi : Nat → Int32} {vl : Nat → Int64} {r : Int32} {fj : Nat → Nat → Int32} {fm : Nat → Nat → Int64} {vj : Nat → Int32} {vm : Nat → Int64} : RL_X8_readOfName_1 fi fl vi vl r fj fm vj vm (PS_X8_readOfName fi fl vi vl r fj fm vj vm) := by
  unfold RL_X8_readOfName_1
  intro hp5 hp6 fik flk vik vlk rk gk_0 gk_1 fik_1 flk_1 vik_1 vlk_1 rk_1 gk_1_4 tb gk_1_0 fik_2 flk_2 vik_2 vlk_2 rk_2 gk_2_4 tb_1 gk_2_0 c47 c54 f69 ef69 q0 q1 q2 q3 q4 q5 q6 q7 q8 q9 q10; subst q0
  unfold PS_X8_readOfName
  intro n m t hc H N O b to hN hO hlo
  (try simp only [q1, q2, q3, q4, q5, q6, q7, q8, q9, q10]); have k9_0 : (0 : Int32).toInt = 0 := (by decide); have k9_1 : (1 : Int32).toInt = 1 := (by decide)
  have hc0 := hc
  obtain ⟨hn, hm, ht, ck, cp, ce, cw, cu, cg⟩ := hc0
  have hN9 := hN.1
  rw [RWn_f hN] at gk_1
  rcases gk_1_4 n m t hc with ⟨a1, a2, a3, a4, a5, a6⟩ | ⟨a1, a2, a3, a4⟩ | ⟨a1, a2, a3, a4, a5⟩ | ⟨a1, a2, a3, a4, a5, a6, a7⟩
  · have hfo := kn_of cw gk_1 a2
    have hr9 := RWn_o hN (w := sW (trn (fi 0) n) n m t) (by omega)
    have hk0 : (fKn (trn (fi 0) n) n m (ownB (fl 1)) N 18 (H 0) t) = 0 := fKn_0 a2 (by omega)
    have hrow := a5 (by omega) (by omega)
    have hO9 : O (b + (fdx N 18 (sW (trn (fi 0) n) n m t) (H 0).toNat).toNat) = false := (hO _ (by omega)).mp (by rw [show (fdx N 18 (sW (trn (fi 0) n) n m t) (H 0).toNat).toNat = rk.toNatClampNeg from (show _ = rk.toInt.toNat by omega)]; exact hrow)
    rcases gk_2_4 n m _ a6 with ⟨b1, b2, b3, b4, b5, b6, b7⟩ | ⟨b1, b2, b3, b4⟩
    · exact LO_good (by unfold lnOf; rw [if_neg (fun c => c hk0), if_neg (by rw [hO9]; decide), if_neg (fun c => c b2)]) (by decide) ⟨b7, (fdx N 18 (sW (trn (fi 0) n) n m t) (H 0).toNat).toNat, _, by omega, rfl, rfl, rfl, (fun j hj => by rw [ef69]; exact if_neg (fun c => hj (c.trans (show (vik_1 0).toInt.toNat = _ by omega)))), (by rw [ef69, show (fdx N 18 (sW (trn (fi 0) n) n m t) (H 0).toNat).toNat = (vik_1 0).toNatClampNeg from (show _ = (vik_1 0).toInt.toNat by omega), upd_eq]; omega)⟩
    · exact absurd (b1.symm.trans tb_1) (by decide)
  · exact absurd (a1.symm.trans tb) (by decide)
  · exact absurd (a1.symm.trans tb) (by decide)
  · exact absurd (a1.symm.trans tb) (by decide)
set_option maxHeartbeats 4000000 in
theorem PL_X8_readOfName_2 {fi : Nat → Nat → Int32} {fl : Nat → Nat → Int64} {vi : Nat → Int32} {vl : Nat → Int64} {r : Int32} {fj : Nat → Nat → Int32} {fm : Nat → Nat → Int64} {vj : Nat → Int32} {vm : Nat → Int64} : RL_X8_readOfName_2 fi fl vi vl r fj fm vj vm (PS_X8_readOfName fi fl vi vl r fj fm vj vm) := by
  unfold RL_X8_readOfName_2
  intro hp5 hp6 fik flk vik vlk rk gk_0 gk_1 fik_1 flk_1 vik_1 vlk_1 rk_1 gk_1_4 tb gk_1_0 fik_2 flk_2 vik_2 vlk_2 rk_2 gk_2_4 tb_1 gk_2_0 c47 c54 q0 q1 q2 q3 q4 q5 q6 q7 q8 q9 q10; subst q0
  unfold PS_X8_readOfName
  intro n m t hc H N O b to hN hO hlo
  (try simp only [q1, q2, q3, q4, q5, q6, q7, q8, q9, q10]); have k9_0 : (0 : Int32).toInt = 0 := (by decide); have k9_1 : (1 : Int32).toInt = 1 := (by decide)
  have hc0 := hc
  obtain ⟨hn, hm, ht, ck, cp, ce, cw, cu, cg⟩ := hc0
  have hN9 := hN.1
  rw [RWn_f hN] at gk_1
  rcases gk_1_4 n m t hc with ⟨a1, a2, a3, a4, a5, a6⟩ | ⟨a1, a2, a3, a4⟩ | ⟨a1, a2, a3, a4, a5⟩ | ⟨a1, a2, a3, a4, a5, a6, a7⟩
  · have hfo := kn_of cw gk_1 a2
    have hr9 := RWn_o hN (w := sW (trn (fi 0) n) n m t) (by omega)
    have hk0 : (fKn (trn (fi 0) n) n m (ownB (fl 1)) N 18 (H 0) t) = 0 := fKn_0 a2 (by omega)
    have hrow := a5 (by omega) (by omega)
    have hO9 : O (b + (fdx N 18 (sW (trn (fi 0) n) n m t) (H 0).toNat).toNat) = false := (hO _ (by omega)).mp (by rw [show (fdx N 18 (sW (trn (fi 0) n) n m t) (H 0).toNat).toNat = rk.toNatClampNeg from (show _ = rk.toInt.toNat by omega)]; exact hrow)
    rcases gk_2_4 n m _ a6 with ⟨b1, b2, b3, b4, b5, b6, b7⟩ | ⟨b1, b2, b3, b4⟩
    · exfalso; omega
    · exact absurd (b1.symm.trans tb_1) (by decide)
  · exact absurd (a1.symm.trans tb) (by decide)
  · exact absurd (a1.symm.trans tb) (by decide)
  · exact absurd (a1.symm.trans tb) (by decide)
set_option maxHeartbeats 4000000 in
theorem PL_X8_readOfName_3 {fi : Nat → Nat → Int32} {fl : Nat → Nat → Int64} {vi : Nat → Int32} {vl : Nat → Int64} {r : Int32} {fj : Nat → Nat → Int32} {fm : Nat → Nat → Int64} {vj : Nat → Int32} {vm : Nat → Int64} : RL_X8_readOfName_3 fi fl vi vl r fj fm vj vm (PS_X8_readOfName fi fl vi vl r fj fm vj vm) := by
  unfold RL_X8_readOfName_3
  intro hp5 hp6 fik flk vik vlk rk gk_0 gk_1 fik_1 flk_1 vik_1 vlk_1 rk_1 gk_1_4 tb gk_1_0 fik_2 flk_2 vik_2 vlk_2 rk_2 gk_2_4 tb_1 gk_2_0 q0 q1 q2 q3 q4 q5 q6 q7 q8 q9 q10; subst q0
  unfold PS_X8_readOfName
  intro n m t hc H N O b to hN hO hlo
  (try simp only [q1, q2, q3, q4, q5, q6, q7, q8, q9, q10]); have k9_0 : (0 : Int32).toInt = 0 := (by decide); have k9_1 : (1 : Int32).toInt = 1 := (by decide)
  have hc0 := hc
  obtain ⟨hn, hm, ht, ck, cp, ce, cw, cu, cg⟩ := hc0
  have hN9 := hN.1
  rw [RWn_f hN] at gk_1
  rcases gk_1_4 n m t hc with ⟨a1, a2, a3, a4, a5, a6⟩ | ⟨a1, a2, a3, a4⟩ | ⟨a1, a2, a3, a4, a5⟩ | ⟨a1, a2, a3, a4, a5, a6, a7⟩
  · have hfo := kn_of cw gk_1 a2
    have hr9 := RWn_o hN (w := sW (trn (fi 0) n) n m t) (by omega)
    have hk0 : (fKn (trn (fi 0) n) n m (ownB (fl 1)) N 18 (H 0) t) = 0 := fKn_0 a2 (by omega)
    have hrow := a5 (by omega) (by omega)
    have hO9 : O (b + (fdx N 18 (sW (trn (fi 0) n) n m t) (H 0).toNat).toNat) = false := (hO _ (by omega)).mp (by rw [show (fdx N 18 (sW (trn (fi 0) n) n m t) (H 0).toNat).toNat = rk.toNatClampNeg from (show _ = rk.toInt.toNat by omega)]; exact hrow)
    rcases gk_2_4 n m _ a6 with ⟨b1, b2, b3, b4, b5, b6, b7⟩ | ⟨b1, b2, b3, b4⟩
    · exact absurd (b1.symm.trans tb_1) (by decide)
    · exact LO_bad (by unfold lnOf; rw [if_neg (fun c => c hk0), if_neg (by rw [hO9]; decide), if_pos b2]) (by decide) b3 b4
  · exact absurd (a1.symm.trans tb) (by decide)
  · exact absurd (a1.symm.trans tb) (by decide)
  · exact absurd (a1.symm.trans tb) (by decide)
set_option maxHeartbeats 4000000 in
theorem PL_X8_readOfName_4 {fi : Nat → Nat → Int32} {fl : Nat → Nat → Int64} {vi : Nat → Int32} {vl : Nat → Int64} {r : Int32} {fj : Nat → Nat → Int32} {fm : Nat → Nat → Int64} {vj : Nat → Int32} {vm : Nat → Int64} : RL_X8_readOfName_4 fi fl vi vl r fj fm vj vm (PS_X8_readOfName fi fl vi vl r fj fm vj vm) := by
  unfold RL_X8_readOfName_4
  intro hp5 hp6 fik flk vik vlk rk gk_0 gk_1 fik_1 flk_1 vik_1 vlk_1 rk_1 gk_1_4 tb gk_1_0 q0 q1 q2 q3 q4 q5 q6 q7 q8 q9 q10; subst q0
  unfold PS_X8_readOfName
  intro n m t hc H N O b to hN hO hlo
  (try simp only [q1, q2, q3, q4, q5, q6, q7, q8, q9, q10]); have k9_0 : (0 : Int32).toInt = 0 := (by decide); have k9_1 : (1 : Int32).toInt = 1 := (by decide)
  have hc0 := hc
  obtain ⟨hn, hm, ht, ck, cp, ce, cw, cu, cg⟩ := hc0
  have hN9 := hN.1
  rw [RWn_f hN] at gk_1
  rcases gk_1_4 n m t hc with ⟨a1, a2, a3, a4, a5, a6⟩ | ⟨a1, a2, a3, a4⟩ | ⟨a1, a2, a3, a4, a5⟩ | ⟨a1, a2, a3, a4, a5, a6, a7⟩
  · exact absurd (a1.symm.trans tb) (by decide)
  · have hk1 : (fKn (trn (fi 0) n) n m (ownB (fl 1)) N 18 (H 0) t) = 1 := fKn_1 a2
    exact LO_bad (by unfold lnOf; rw [if_pos (by omega)]) (by decide) (by omega) a4
  · have hfo := kn_of cw gk_1 a2
    have hk3 : (fKn (trn (fi 0) n) n m (ownB (fl 1)) N 18 (H 0) t) = 3 := fKn_3 a2 (by omega)
    exact LO_bad (by unfold lnOf; rw [if_pos (by omega)]) (by decide) (by omega) a5
  · rw [cw a2] at gk_1
    have hr9 := RWn_o hN (w := sW (trn (fi 0) n) n m t) (by omega)
    have hk0 : (fKn (trn (fi 0) n) n m (ownB (fl 1)) N 18 (H 0) t) = 0 := fKn_0 ⟨a2, hr9.1⟩ (by omega)
    have hO9 : ¬ O (b + (fdx N 18 (sW (trn (fi 0) n) n m t) (H 0).toNat).toNat) = false := fun c => a5 (by have h5 := (hO _ (by omega)).mpr c; rw [show (fdx N 18 (sW (trn (fi 0) n) n m t) (H 0).toNat).toNat = rk.toNatClampNeg from (show _ = rk.toInt.toNat by omega)] at h5; exact h5)
    exact LO_bad (by unfold lnOf; rw [if_neg (fun c => c hk0), if_pos (by simpa using hO9)]) (by decide) a6 a7
theorem P_X8_readOfName {fi : Nat → Nat → Int32} {fl : Nat → Nat → Int64} {vi : Nat → Int32} {vl : Nat → Int64} {r : Int32} {fj : Nat → Nat → Int32} {fm : Nat → Nat → Int64} {vj : Nat → Int32} {vm : Nat → Int64} (h : R_X8_readOfName fi fl vi vl r fj fm vj vm) : ∀ n m t : Nat, CC (trn (fi 0) n) n m t (vi 4) (vi 5) (vi 7) (vi 8) (vi 6) (vl 0) (vi 9) (vi 10) → ∀ (H : Nat → Int) (N : Nat → Int64) (O : Nat → Bool) (b to : Nat), (RWn (ownB (fl 1)) (vi 14) (fl 0) H N) → RO (fi 1) b H O → 0 ≤ (vi 0).toInt → LO (lnOf (trn (fi 0) n) n m (ownB (fl 1)) b to (vi 0).toInt (vi 1).toInt H N O t) r (vj 6) (vj 7) (fun t' H' N' O' => CC (trn (fi 0) n) n m t' (vi 4) (vi 5) (vj 1) (vj 2) (vj 5) (vm 0) (vj 4) (vj 3) ∧ ∃ (k : Nat) (u : Int), (k : Int) < H 0 ∧ H' = setI H (to + k) u ∧ N' = N ∧ O' = setB O (b + k) ∧ (∀ j : Nat, ¬ j = k → (fj 0) j = (fi 1) j) ∧ ¬ ((fj 0) k).toInt = -1) := h (PS_X8_readOfName fi fl vi vl r fj fm vj vm) PL_X8_readOfName_0 PL_X8_readOfName_1 PL_X8_readOfName_2 PL_X8_readOfName_3 PL_X8_readOfName_4
def RL_J1_charAt_3b067_23_0 (fi : Nat → Nat → Int32) (fl : Nat → Nat → Int64) (vi : Nat → Int32) (vl : Nat → Int64) (r : Int32) (fj : Nat → Nat → Int32) (fm : Nat → Nat → Int64) (vj : Nat → Int32) (vm : Nat → Int64) (Q9 : Prop) : Prop :=
  (0 ≤ (vi 0).toInt ∧ (vi 0).toInt ≤ 4) → ∀ (fik : Nat → Nat → Int32), ∀ (flk : Nat → Nat → Int64), ∀ (vik : Nat → Int32), ∀ (vlk : Nat → Int64), ∀ (uk : Int32), ∀ (z8 : Int32), (z8 = (sBy.getD 5 []).getD (vi 0).toNatClampNeg 0) → ∀ (z12 : Int32), (z12 = z8 &&& (255 : Int32)) → ∀ (z13 : Int32), (z13 = (z12.toUInt32 % 65536).toInt32) → (r = z13) → Q9
def R_J1_charAt_3b067_23 (fi : Nat → Nat → Int32) (fl : Nat → Nat → Int64) (vi : Nat → Int32) (vl : Nat → Int64) (r : Int32) (fj : Nat → Nat → Int32) (fm : Nat → Nat → Int64) (vj : Nat → Int32) (vm : Nat → Int64) : Prop :=
  ∀ Q9 : Prop, RL_J1_charAt_3b067_23_0 fi fl vi vl r fj fm vj vm Q9 → Q9
def PS_J1_charAt_3b067_23 (fi : Nat → Nat → Int32) (fl : Nat → Nat → Int64) (vi : Nat → Int32) (vl : Nat → Int64) (r : Int32) (fj : Nat → Nat → Int32) (fm : Nat → Nat → Int64) (vj : Nat → Int32) (vm : Nat → Int64) : Prop :=
  r = (sBy.getD 5 []).getD ((vi 0).toInt).toNat 0
set_option maxHeartbeats 4000000 in
theorem PL_J1_charAt_3b067_23_0 {fi : Nat → Nat → Int32} {fl : Nat → Nat → Int64} {vi : Nat → Int32} {vl : Nat → Int64} {r : Int32} {fj : Nat → Nat → Int32} {fm : Nat → Nat → Int64} {vj : Nat → Int32} {vm : Nat → Int64} : RL_J1_charAt_3b067_23_0 fi fl vi vl r fj fm vj vm (PS_J1_charAt_3b067_23 fi fl vi vl r fj fm vj vm) := by
  unfold RL_J1_charAt_3b067_23_0
  intro hp0 fik flk vik vlk uk z8 ez8 z12 ez12 z13 ez13 q0; subst q0
  unfold PS_J1_charAt_3b067_23
  first | exact by assumption | exact char_of (by assumption) (by assumption) (by assumption)
theorem P_J1_charAt_3b067_23 {fi : Nat → Nat → Int32} {fl : Nat → Nat → Int64} {vi : Nat → Int32} {vl : Nat → Int64} {r : Int32} {fj : Nat → Nat → Int32} {fm : Nat → Nat → Int64} {vj : Nat → Int32} {vm : Nat → Int64} (h : R_J1_charAt_3b067_23 fi fl vi vl r fj fm vj vm) : r = (sBy.getD 5 []).getD ((vi 0).toInt).toNat 0 := h (PS_J1_charAt_3b067_23 fi fl vi vl r fj fm vj vm) PL_J1_charAt_3b067_23_0
def RL_J0_charAt_5068e_23_0 (fi : Nat → Nat → Int32) (fl : Nat → Nat → Int64) (vi : Nat → Int32) (vl : Nat → Int64) (r : Int32) (fj : Nat → Nat → Int32) (fm : Nat → Nat → Int64) (vj : Nat → Int32) (vm : Nat → Int64) (Q9 : Prop) : Prop :=
  (0 ≤ (vi 0).toInt ∧ (vi 0).toInt ≤ 4) → ∀ (fik : Nat → Nat → Int32), ∀ (flk : Nat → Nat → Int64), ∀ (vik : Nat → Int32), ∀ (vlk : Nat → Int64), ∀ (rk : Int32), (rk = 1) → ∀ (fik_1 : Nat → Nat → Int32), ∀ (flk_1 : Nat → Nat → Int64), ∀ (vik_1 : Nat → Int32), ∀ (vlk_1 : Nat → Int64), ∀ (rk_1 : Int32), (rk_1 = (sBy.getD 5 []).getD ((vi 0).toInt).toNat 0) → (r = rk_1) → Q9
def R_J0_charAt_5068e_23 (fi : Nat → Nat → Int32) (fl : Nat → Nat → Int64) (vi : Nat → Int32) (vl : Nat → Int64) (r : Int32) (fj : Nat → Nat → Int32) (fm : Nat → Nat → Int64) (vj : Nat → Int32) (vm : Nat → Int64) : Prop :=
  ∀ Q9 : Prop, RL_J0_charAt_5068e_23_0 fi fl vi vl r fj fm vj vm Q9 → Q9
