set_option maxHeartbeats 4000000 in
theorem PL_X8_readOfName_1 {fi : Nat → Nat → Int32} {fl : Nat → Nat → Int64} {vi : Nat → Int32} {vl : Nat → Int64} {r : Int32} {fj : Nat → Nat → Int32} {fm : Nat → Nat → Int64} {vj : Nat → Int32} {vm : Nat → Int64} : RL_X8_readOfName_1 fi fl vi vl r fj fm vj vm (PS_X8_readOfName fi fl vi vl r fj fm vj vm) := by
  unfold RL_X8_readOfName_1
  intro hp5 hp6 fik flk vik vlk rk gk_0 gk_1 fik_1 flk_1 vik_1 vlk_1 rk_1 gk_1_5 tb gk_1_0 fik_2 flk_2 vik_2 vlk_2 rk_2 gk_2_5 tb_1 gk_2_0 c47 c54 f69 ef69 q0 q1 q2 q3 q4 q5 q6 q7 q8 q9 q10; subst q0
  unfold PS_X8_readOfName
  intro n m t hc H N O b to hN hO hlo
  (try simp only [q1, q2, q3, q4, q5, q6, q7, q8, q9, q10]); have k9_0 : (0 : Int32).toInt = 0 := (by decide); have k9_1 : (1 : Int32).toInt = 1 := (by decide)
  have hc0 := hc
  obtain ⟨hn, hm, ht, ck, cp, ce, cw, cu, cg⟩ := hc0
  have hN9 := hN.1
  rw [RWn_f hN] at gk_1
  rcases gk_1_5 n m t hc with ⟨a1, a2, a3, a4, a5, a6⟩ | ⟨a1, a2, a3, a4⟩ | ⟨a1, a2, a3, a4, a5⟩ | ⟨a1, a2, a3, a4, a5, a6, a7⟩
  · have hfo := kn_of cw gk_1 a2
    have hr9 := RWn_o hN (w := sW (trn (fi 0) n) n m t) (by omega)
    have hk0 : (fKn (trn (fi 0) n) n m (ownB (fl 1)) N 18 (H 0) t) = 0 := fKn_0 a2 (by omega)
    have hrow := a5 (by omega) (by omega)
    have hO9 : O (b + (fdx N 18 (sW (trn (fi 0) n) n m t) (H 0).toNat).toNat) = false := (hO _ (by omega)).mp (by rw [show (fdx N 18 (sW (trn (fi 0) n) n m t) (H 0).toNat).toNat = rk.toNatClampNeg from (show _ = rk.toInt.toNat by omega)]; exact hrow)
    rcases gk_2_5 n m _ a6 with ⟨b1, b2, b3, b4, b5, b6, b7⟩ | ⟨b1, b2, b3, b4⟩
    · exact LO_good (by unfold lnOf; rw [if_neg (fun c => c hk0), if_neg (by rw [hO9]; decide), if_neg (fun c => c b2)]) (by decide) ⟨b7, (fdx N 18 (sW (trn (fi 0) n) n m t) (H 0).toNat).toNat, _, by omega, rfl, rfl, rfl, (fun j hj => by rw [ef69]; exact if_neg (fun c => hj (c.trans (show (vik_1 0).toInt.toNat = _ by omega)))), (by rw [ef69, show (fdx N 18 (sW (trn (fi 0) n) n m t) (H 0).toNat).toNat = (vik_1 0).toNatClampNeg from (show _ = (vik_1 0).toInt.toNat by omega), upd_eq]; omega)⟩
    · exact absurd (b1.symm.trans tb_1) (by decide)
  · exact absurd (a1.symm.trans tb) (by decide)
  · exact absurd (a1.symm.trans tb) (by decide)
  · exact absurd (a1.symm.trans tb) (by decide)
set_option maxHeartbeats 4000000 in
theorem PL_X8_readOfName_2 {fi : Nat → Nat → Int32} {fl : Nat → Nat → Int64} {vi : Nat → Int32} {vl : Nat → Int64} {r : Int32} {fj : Nat → Nat → Int32} {fm : Nat → Nat → Int64} {vj : Nat → Int32} {vm : Nat → Int64} : RL_X8_readOfName_2 fi fl vi vl r fj fm vj vm (PS_X8_readOfName fi fl vi vl r fj fm vj vm) := by
  unfold RL_X8_readOfName_2
  intro hp5 hp6 fik flk vik vlk rk gk_0 gk_1 fik_1 flk_1 vik_1 vlk_1 rk_1 gk_1_5 tb gk_1_0 fik_2 flk_2 vik_2 vlk_2 rk_2 gk_2_5 tb_1 gk_2_0 c47 c54 q0 q1 q2 q3 q4 q5 q6 q7 q8 q9 q10; subst q0
  unfold PS_X8_readOfName
  intro n m t hc H N O b to hN hO hlo
  (try simp only [q1, q2, q3, q4, q5, q6, q7, q8, q9, q10]); have k9_0 : (0 : Int32).toInt = 0 := (by decide); have k9_1 : (1 : Int32).toInt = 1 := (by decide)
  have hc0 := hc
  obtain ⟨hn, hm, ht, ck, cp, ce, cw, cu, cg⟩ := hc0
  have hN9 := hN.1
  rw [RWn_f hN] at gk_1
  rcases gk_1_5 n m t hc with ⟨a1, a2, a3, a4, a5, a6⟩ | ⟨a1, a2, a3, a4⟩ | ⟨a1, a2, a3, a4, a5⟩ | ⟨a1, a2, a3, a4, a5, a6, a7⟩
  · have hfo := kn_of cw gk_1 a2
    have hr9 := RWn_o hN (w := sW (trn (fi 0) n) n m t) (by omega)
    have hk0 : (fKn (trn (fi 0) n) n m (ownB (fl 1)) N 18 (H 0) t) = 0 := fKn_0 a2 (by omega)
    have hrow := a5 (by omega) (by omega)
    have hO9 : O (b + (fdx N 18 (sW (trn (fi 0) n) n m t) (H 0).toNat).toNat) = false := (hO _ (by omega)).mp (by rw [show (fdx N 18 (sW (trn (fi 0) n) n m t) (H 0).toNat).toNat = rk.toNatClampNeg from (show _ = rk.toInt.toNat by omega)]; exact hrow)
    rcases gk_2_5 n m _ a6 with ⟨b1, b2, b3, b4, b5, b6, b7⟩ | ⟨b1, b2, b3, b4⟩
    · exfalso; omega
    · exact absurd (b1.symm.trans tb_1) (by decide)
  · exact absurd (a1.symm.trans tb) (by decide)
  · exact absurd (a1.symm.trans tb) (by decide)
  · exact absurd (a1.symm.trans tb) (by decide)
set_option maxHeartbeats 4000000 in
theorem PL_X8_readOfName_3 {fi : Nat → Nat → Int32} {fl : Nat → Nat → Int64} {vi : Nat → Int32} {vl : Nat → Int64} {r : Int32} {fj : Nat → Nat → Int32} {fm : Nat → Nat → Int64} {vj : Nat → Int32} {vm : Nat → Int64} : RL_X8_readOfName_3 fi fl vi vl r fj fm vj vm (PS_X8_readOfName fi fl vi vl r fj fm vj vm) := by
  unfold RL_X8_readOfName_3
  intro hp5 hp6 fik flk vik vlk rk gk_0 gk_1 fik_1 flk_1 vik_1 vlk_1 rk_1 gk_1_5 tb gk_1_0 fik_2 flk_2 vik_2 vlk_2 rk_2 gk_2_5 tb_1 gk_2_0 q0 q1 q2 q3 q4 q5 q6 q7 q8 q9 q10; subst q0
  unfold PS_X8_readOfName
  intro n m t hc H N O b to hN hO hlo
  (try simp only [q1, q2, q3, q4, q5, q6, q7, q8, q9, q10]); have k9_0 : (0 : Int32).toInt = 0 := (by decide); have k9_1 : (1 : Int32).toInt = 1 := (by decide)
  have hc0 := hc
  obtain ⟨hn, hm, ht, ck, cp, ce, cw, cu, cg⟩ := hc0
  have hN9 := hN.1
  rw [RWn_f hN] at gk_1
  rcases gk_1_5 n m t hc with ⟨a1, a2, a3, a4, a5, a6⟩ | ⟨a1, a2, a3, a4⟩ | ⟨a1, a2, a3, a4, a5⟩ | ⟨a1, a2, a3, a4, a5, a6, a7⟩
  · have hfo := kn_of cw gk_1 a2
    have hr9 := RWn_o hN (w := sW (trn (fi 0) n) n m t) (by omega)
    have hk0 : (fKn (trn (fi 0) n) n m (ownB (fl 1)) N 18 (H 0) t) = 0 := fKn_0 a2 (by omega)
    have hrow := a5 (by omega) (by omega)
    have hO9 : O (b + (fdx N 18 (sW (trn (fi 0) n) n m t) (H 0).toNat).toNat) = false := (hO _ (by omega)).mp (by rw [show (fdx N 18 (sW (trn (fi 0) n) n m t) (H 0).toNat).toNat = rk.toNatClampNeg from (show _ = rk.toInt.toNat by omega)]; exact hrow)
    rcases gk_2_5 n m _ a6 with ⟨b1, b2, b3, b4, b5, b6, b7⟩ | ⟨b1, b2, b3, b4⟩
    · exact absurd (b1.symm.trans tb_1) (by decide)
    · exact LO_bad (by unfold lnOf; rw [if_neg (fun c => c hk0), if_neg (by rw [hO9]; decide), if_pos b2]) (by decide) b3 b4
  · exact absurd (a1.symm.trans tb) (by decide)
  · exact absurd (a1.symm.trans tb) (by decide)
  · exact absurd (a1.symm.trans tb) (by decide)
set_option maxHeartbeats 4000000 in
theorem PL_X8_readOfName_4 {fi : Nat → Nat → Int32} {fl : Nat → Nat → Int64} {vi : Nat → Int32} {vl : Nat → Int64} {r : Int32} {fj : Nat → Nat → Int32} {fm : Nat → Nat → Int64} {vj : Nat → Int32} {vm : Nat → Int64} : RL_X8_readOfName_4 fi fl vi vl r fj fm vj vm (PS_X8_readOfName fi fl vi vl r fj fm vj vm) := by
  unfold RL_X8_readOfName_4
  intro hp5 hp6 fik flk vik vlk rk gk_0 gk_1 fik_1 flk_1 vik_1 vlk_1 rk_1 gk_1_5 tb gk_1_0 q0 q1 q2 q3 q4 q5 q6 q7 q8 q9 q10; subst q0
  unfold PS_X8_readOfName
  intro n m t hc H N O b to hN hO hlo
  (try simp only [q1, q2, q3, q4, q5, q6, q7, q8, q9, q10]); have k9_0 : (0 : Int32).toInt = 0 := (by decide); have k9_1 : (1 : Int32).toInt = 1 := (by decide)
  have hc0 := hc
  obtain ⟨hn, hm, ht, ck, cp, ce, cw, cu, cg⟩ := hc0
  have hN9 := hN.1
  rw [RWn_f hN] at gk_1
  rcases gk_1_5 n m t hc with ⟨a1, a2, a3, a4, a5, a6⟩ | ⟨a1, a2, a3, a4⟩ | ⟨a1, a2, a3, a4, a5⟩ | ⟨a1, a2, a3, a4, a5, a6, a7⟩
  · exact absurd (a1.symm.trans tb) (by decide)
  · have hk1 : (fKn (trn (fi 0) n) n m (ownB (fl 1)) N 18 (H 0) t) = 1 := fKn_1 a2
    exact LO_bad (by unfold lnOf; rw [if_pos (by omega)]) (by decide) (by omega) a4
  · have hfo := kn_of cw gk_1 a2
    have hk3 : (fKn (trn (fi 0) n) n m (ownB (fl 1)) N 18 (H 0) t) = 3 := fKn_3 a2 (by omega)
    exact LO_bad (by unfold lnOf; rw [if_pos (by omega)]) (by decide) (by omega) a5
  · rw [cw a2] at gk_1
    have hr9 := RWn_o hN (w := sW (trn (fi 0) n) n m t) (by omega)
    have hk0 : (fKn (trn (fi 0) n) n m (ownB (fl 1)) N 18 (H 0) t) = 0 := fKn_0 ⟨a2, hr9.1⟩ (by omega)
    have hO9 : ¬ O (b + (fdx N 18 (sW (trn (fi 0) n) n m t) (H 0).toNat).toNat) = false := fun c => a5 (by have h5 := (hO _ (by omega)).mpr c; rw [show (fdx N 18 (sW (trn (fi 0) n) n m t) (H 0).toNat).toNat = rk.toNatClampNeg from (show _ = rk.toInt.toNat by omega)] at h5; exact h5)
    exact LO_bad (by unfold lnOf; rw [if_neg (fun c => c hk0), if_pos (by simpa using hO9)]) (by decide) a6 a7
theorem P_X8_readOfName {fi : Nat → Nat → Int32} {fl : Nat → Nat → Int64} {vi : Nat → Int32} {vl : Nat → Int64} {r : Int32} {fj : Nat → Nat → Int32} {fm : Nat → Nat → Int64} {vj : Nat → Int32} {vm : Nat → Int64} (h : R_X8_readOfName fi fl vi vl r fj fm vj vm) : ∀ n m t : Nat, CC (trn (fi 0) n) n m t (vi 4) (vi 5) (vi 7) (vi 8) (vi 6) (vl 0) (vi 9) (vi 10) → ∀ (H : Nat → Int) (N : Nat → Int64) (O : Nat → Bool) (b to : Nat), (RWn (ownB (fl 1)) (vi 14) (fl 0) H N) → RO (fi 1) b H O → 0 ≤ (vi 0).toInt → LO (lnOf (trn (fi 0) n) n m (ownB (fl 1)) b to (vi 0).toInt (vi 1).toInt H N O t) r (vj 6) (vj 7) (fun t' H' N' O' => CC (trn (fi 0) n) n m t' (vi 4) (vi 5) (vj 1) (vj 2) (vj 5) (vm 0) (vj 4) (vj 3) ∧ ∃ (k : Nat) (u : Int), (k : Int) < H 0 ∧ H' = setI H (to + k) u ∧ N' = N ∧ O' = setB O (b + k) ∧ (∀ j : Nat, ¬ j = k → (fj 0) j = (fi 1) j) ∧ ¬ ((fj 0) k).toInt = -1) := h (PS_X8_readOfName fi fl vi vl r fj fm vj vm) PL_X8_readOfName_0 PL_X8_readOfName_1 PL_X8_readOfName_2 PL_X8_readOfName_3 PL_X8_readOfName_4
def RL_J1_charAt_3b067_23_0 (fi : Nat → Nat → Int32) (fl : Nat → Nat → Int64) (vi : Nat → Int32) (vl : Nat → Int64) (r : Int32) (fj : Nat → Nat → Int32) (fm : Nat → Nat → Int64) (vj : Nat → Int32) (vm : Nat → Int64) (Q9 : Prop) : Prop :=
  (0 ≤ (vi 0).toInt ∧ (vi 0).toInt ≤ 4) → ∀ (fik : Nat → Nat → Int32), ∀ (flk : Nat → Nat → Int64), ∀ (vik : Nat → Int32), ∀ (vlk : Nat → Int64), ∀ (uk : Int32), ∀ (z8 : Int32), (z8 = (sBy.getD 5 []).getD (vi 0).toNatClampNeg 0) → ∀ (z12 : Int32), (z12 = z8 &&& (255 : Int32)) → ∀ (z13 : Int32), (z13 = (z12.toUInt32 % 65536).toInt32) → (r = z13) → Q9
def R_J1_charAt_3b067_23 (fi : Nat → Nat → Int32) (fl : Nat → Nat → Int64) (vi : Nat → Int32) (vl : Nat → Int64) (r : Int32) (fj : Nat → Nat → Int32) (fm : Nat → Nat → Int64) (vj : Nat → Int32) (vm : Nat → Int64) : Prop :=
  ∀ Q9 : Prop, RL_J1_charAt_3b067_23_0 fi fl vi vl r fj fm vj vm Q9 → Q9
def PS_J1_charAt_3b067_23 (fi : Nat → Nat → Int32) (fl : Nat → Nat → Int64) (vi : Nat → Int32) (vl : Nat → Int64) (r : Int32) (fj : Nat → Nat → Int32) (fm : Nat → Nat → Int64) (vj : Nat → Int32) (vm : Nat → Int64) : Prop :=
  r = (sBy.getD 5 []).getD ((vi 0).toInt).toNat 0
set_option maxHeartbeats 4000000 in
theorem PL_J1_charAt_3b067_23_0 {fi : Nat → Nat → Int32} {fl : Nat → Nat → Int64} {vi : Nat → Int32} {vl : Nat → Int64} {r : Int32} {fj : Nat → Nat → Int32} {fm : Nat → Nat → Int64} {vj : Nat → Int32} {vm : Nat → Int64} : RL_J1_charAt_3b067_23_0 fi fl vi vl r fj fm vj vm (PS_J1_charAt_3b067_23 fi fl vi vl r fj fm vj vm) := by
  unfold RL_J1_charAt_3b067_23_0
  intro hp0 fik flk vik vlk uk z8 ez8 z12 ez12 z13 ez13 q0; subst q0
  unfold PS_J1_charAt_3b067_23
  first | exact by assumption | exact char_of (by assumption) (by assumption) (by assumption)
theorem P_J1_charAt_3b067_23 {fi : Nat → Nat → Int32} {fl : Nat → Nat → Int64} {vi : Nat → Int32} {vl : Nat → Int64} {r : Int32} {fj : Nat → Nat → Int32} {fm : Nat → Nat → Int64} {vj : Nat → Int32} {vm : Nat → Int64} (h : R_J1_charAt_3b067_23 fi fl vi vl r fj fm vj vm) : r = (sBy.getD 5 []).getD ((vi 0).toInt).toNat 0 := h (PS_J1_charAt_3b067_23 fi fl vi vl r fj fm vj vm) PL_J1_charAt_3b067_23_0
def RL_J0_charAt_5068e_23_0 (fi : Nat → Nat → Int32) (fl : Nat → Nat → Int64) (vi : Nat → Int32) (vl : Nat → Int64) (r : Int32) (fj : Nat → Nat → Int32) (fm : Nat → Nat → Int64) (vj : Nat → Int32) (vm : Nat → Int64) (Q9 : Prop) : Prop :=
  (0 ≤ (vi 0).toInt ∧ (vi 0).toInt ≤ 4) → ∀ (fik : Nat → Nat → Int32), ∀ (flk : Nat → Nat → Int64), ∀ (vik : Nat → Int32), ∀ (vlk : Nat → Int64), ∀ (rk : Int32), (rk = 1) → ∀ (fik_1 : Nat → Nat → Int32), ∀ (flk_1 : Nat → Nat → Int64), ∀ (vik_1 : Nat → Int32), ∀ (vlk_1 : Nat → Int64), ∀ (rk_1 : Int32), (rk_1 = (sBy.getD 5 []).getD ((vi 0).toInt).toNat 0) → (r = rk_1) → Q9
def R_J0_charAt_5068e_23 (fi : Nat → Nat → Int32) (fl : Nat → Nat → Int64) (vi : Nat → Int32) (vl : Nat → Int64) (r : Int32) (fj : Nat → Nat → Int32) (fm : Nat → Nat → Int64) (vj : Nat → Int32) (vm : Nat → Int64) : Prop :=
  ∀ Q9 : Prop, RL_J0_charAt_5068e_23_0 fi fl vi vl r fj fm vj vm Q9 → Q9
def PS_J0_charAt_5068e_23 (fi : Nat → Nat → Int32) (fl : Nat → Nat → Int64) (vi : Nat → Int32) (vl : Nat → Int64) (r : Int32) (fj : Nat → Nat → Int32) (fm : Nat → Nat → Int64) (vj : Nat → Int32) (vm : Nat → Int64) : Prop :=
  r = (sBy.getD 5 []).getD ((vi 0).toInt).toNat 0
set_option maxHeartbeats 4000000 in
theorem PL_J0_charAt_5068e_23_0 {fi : Nat → Nat → Int32} {fl : Nat → Nat → Int64} {vi : Nat → Int32} {vl : Nat → Int64} {r : Int32} {fj : Nat → Nat → Int32} {fm : Nat → Nat → Int64} {vj : Nat → Int32} {vm : Nat → Int64} : RL_J0_charAt_5068e_23_0 fi fl vi vl r fj fm vj vm (PS_J0_charAt_5068e_23 fi fl vi vl r fj fm vj vm) := by
  unfold RL_J0_charAt_5068e_23_0
  intro hp0 fik flk vik vlk rk gk_0 fik_1 flk_1 vik_1 vlk_1 rk_1 gk_1_1 q0; subst q0
  unfold PS_J0_charAt_5068e_23
  first | exact by assumption | exact char_of (by assumption) (by assumption) (by assumption)
theorem P_J0_charAt_5068e_23 {fi : Nat → Nat → Int32} {fl : Nat → Nat → Int64} {vi : Nat → Int32} {vl : Nat → Int64} {r : Int32} {fj : Nat → Nat → Int32} {fm : Nat → Nat → Int64} {vj : Nat → Int32} {vm : Nat → Int64} (h : R_J0_charAt_5068e_23 fi fl vi vl r fj fm vj vm) : r = (sBy.getD 5 []).getD ((vi 0).toInt).toNat 0 := h (PS_J0_charAt_5068e_23 fi fl vi vl r fj fm vj vm) PL_J0_charAt_5068e_23_0
def RL_X6_isWord_23_0 (fi : Nat → Nat → Int32) (fl : Nat → Nat → Int64) (vi : Nat → Int32) (vl : Nat → Int64) (r : Int32) (fj : Nat → Nat → Int32) (fm : Nat → Nat → Int64) (vj : Nat → Int32) (vm : Nat → Int64) (Q9 : Prop) : Prop :=
  (0 ≤ (vi 1).toInt ∧ (vi 1).toInt ≤ 940) → (0 ≤ (vi 2).toInt ∧ (vi 2).toInt ≤ 940) → (0 ≤ (vi 3).toInt ∧ (vi 3).toInt ≤ 940) → (0 ≤ (vi 5).toInt ∧ (vi 5).toInt ≤ 940) → (0 ≤ (vi 10).toInt ∧ (vi 10).toInt ≤ 940) → ∀ (w4 : Int32), ∀ (w2 : Int64), (0 ≤ w4.toInt ∧ w4.toInt ≤ 5) → (w2 = pkw (sBy.getD 5 []) (w4.toInt).toNat) → ∀ (fik : Nat → Nat → Int32), ∀ (flk : Nat → Nat → Int64), ∀ (vik : Nat → Int32), ∀ (vlk : Nat → Int64), ∀ (rk : Int32), (rk = 5) → (5 ≤ w4.toInt) → (¬ (vi 4).toInt = 1) → (r = (0 : Int32)) → Q9
def RL_X6_isWord_23_1 (fi : Nat → Nat → Int32) (fl : Nat → Nat → Int64) (vi : Nat → Int32) (vl : Nat → Int64) (r : Int32) (fj : Nat → Nat → Int32) (fm : Nat → Nat → Int64) (vj : Nat → Int32) (vm : Nat → Int64) (Q9 : Prop) : Prop :=
  (0 ≤ (vi 1).toInt ∧ (vi 1).toInt ≤ 940) → (0 ≤ (vi 2).toInt ∧ (vi 2).toInt ≤ 940) → (0 ≤ (vi 3).toInt ∧ (vi 3).toInt ≤ 940) → (0 ≤ (vi 5).toInt ∧ (vi 5).toInt ≤ 940) → (0 ≤ (vi 10).toInt ∧ (vi 10).toInt ≤ 940) → ∀ (w4 : Int32), ∀ (w2 : Int64), (0 ≤ w4.toInt ∧ w4.toInt ≤ 5) → (w2 = pkw (sBy.getD 5 []) (w4.toInt).toNat) → ∀ (fik : Nat → Nat → Int32), ∀ (flk : Nat → Nat → Int64), ∀ (vik : Nat → Int32), ∀ (vlk : Nat → Int64), ∀ (rk : Int32), (rk = 5) → (5 ≤ w4.toInt) → ((vi 4).toInt = 1) → ∀ (z46 : Int32), (z46 = lg_cmp w2 (vl 0)) → (¬ z46.toInt = 0) → (r = (0 : Int32)) → Q9
def RL_X6_isWord_23_2 (fi : Nat → Nat → Int32) (fl : Nat → Nat → Int64) (vi : Nat → Int32) (vl : Nat → Int64) (r : Int32) (fj : Nat → Nat → Int32) (fm : Nat → Nat → Int64) (vj : Nat → Int32) (vm : Nat → Int64) (Q9 : Prop) : Prop :=
  (0 ≤ (vi 1).toInt ∧ (vi 1).toInt ≤ 940) → (0 ≤ (vi 2).toInt ∧ (vi 2).toInt ≤ 940) → (0 ≤ (vi 3).toInt ∧ (vi 3).toInt ≤ 940) → (0 ≤ (vi 5).toInt ∧ (vi 5).toInt ≤ 940) → (0 ≤ (vi 10).toInt ∧ (vi 10).toInt ≤ 940) → ∀ (w4 : Int32), ∀ (w2 : Int64), (0 ≤ w4.toInt ∧ w4.toInt ≤ 5) → (w2 = pkw (sBy.getD 5 []) (w4.toInt).toNat) → ∀ (fik : Nat → Nat → Int32), ∀ (flk : Nat → Nat → Int64), ∀ (vik : Nat → Int32), ∀ (vlk : Nat → Int64), ∀ (rk : Int32), (rk = 5) → (5 ≤ w4.toInt) → ((vi 4).toInt = 1) → ∀ (z46 : Int32), (z46 = lg_cmp w2 (vl 0)) → (z46.toInt = 0) → (r = (1 : Int32)) → Q9
def R_X6_isWord_23 (fi : Nat → Nat → Int32) (fl : Nat → Nat → Int64) (vi : Nat → Int32) (vl : Nat → Int64) (r : Int32) (fj : Nat → Nat → Int32) (fm : Nat → Nat → Int64) (vj : Nat → Int32) (vm : Nat → Int64) : Prop :=
  ∀ Q9 : Prop, RL_X6_isWord_23_0 fi fl vi vl r fj fm vj vm Q9 → RL_X6_isWord_23_1 fi fl vi vl r fj fm vj vm Q9 → RL_X6_isWord_23_2 fi fl vi vl r fj fm vj vm Q9 → Q9
def PS_X6_isWord_23 (fi : Nat → Nat → Int32) (fl : Nat → Nat → Int64) (vi : Nat → Int32) (vl : Nat → Int64) (r : Int32) (fj : Nat → Nat → Int32) (fm : Nat → Nat → Int64) (vj : Nat → Int32) (vm : Nat → Int64) : Prop :=
  DJ (r.toInt = 1 ∧ (vi 4).toInt = 1 ∧ (vl 0) = (439787549556 : Int64)) (r.toInt = 0 ∧ ¬ ((vi 4).toInt = 1 ∧ (vl 0) = (439787549556 : Int64)))
set_option maxHeartbeats 4000000 in
theorem PL_X6_isWord_23_0 {fi : Nat → Nat → Int32} {fl : Nat → Nat → Int64} {vi : Nat → Int32} {vl : Nat → Int64} {r : Int32} {fj : Nat → Nat → Int32} {fm : Nat → Nat → Int64} {vj : Nat → Int32} {vm : Nat → Int64} : RL_X6_isWord_23_0 fi fl vi vl r fj fm vj vm (PS_X6_isWord_23 fi fl vi vl r fj fm vj vm) := by
  unfold RL_X6_isWord_23_0
  intro hp0 hp1 hp2 hp3 hp4 w4 w2 hi hpk9 fik flk vik vlk rk gk_0 c11 c38 q0; subst q0
  unfold PS_X6_isWord_23
  have e9 : w2 = (439787549556 : Int64) := by rw [hpk9, show w4.toInt.toNat = 5 by omega]; decide
  first | exact Or.inl ⟨by decide, by omega, by rw [← e9]; exact (cmp_eq (by assumption) (by omega)).symm⟩ | exact Or.inr ⟨by decide, fun c => by omega⟩ | exact Or.inr ⟨by decide, fun c => cmp_ne (by assumption) (by omega) (by rw [e9]; exact c.2.symm)⟩
set_option maxHeartbeats 4000000 in
theorem PL_X6_isWord_23_1 {fi : Nat → Nat → Int32} {fl : Nat → Nat → Int64} {vi : Nat → Int32} {vl : Nat → Int64} {r : Int32} {fj : Nat → Nat → Int32} {fm : Nat → Nat → Int64} {vj : Nat → Int32} {vm : Nat → Int64} : RL_X6_isWord_23_1 fi fl vi vl r fj fm vj vm (PS_X6_isWord_23 fi fl vi vl r fj fm vj vm) := by
  unfold RL_X6_isWord_23_1
  intro hp0 hp1 hp2 hp3 hp4 w4 w2 hi hpk9 fik flk vik vlk rk gk_0 c11 c38 z46 ez46 c47 q0; subst q0
  unfold PS_X6_isWord_23
  have e9 : w2 = (439787549556 : Int64) := by rw [hpk9, show w4.toInt.toNat = 5 by omega]; decide
  first | exact Or.inl ⟨by decide, by omega, by rw [← e9]; exact (cmp_eq (by assumption) (by omega)).symm⟩ | exact Or.inr ⟨by decide, fun c => by omega⟩ | exact Or.inr ⟨by decide, fun c => cmp_ne (by assumption) (by omega) (by rw [e9]; exact c.2.symm)⟩
set_option maxHeartbeats 4000000 in
theorem PL_X6_isWord_23_2 {fi : Nat → Nat → Int32} {fl : Nat → Nat → Int64} {vi : Nat → Int32} {vl : Nat → Int64} {r : Int32} {fj : Nat → Nat → Int32} {fm : Nat → Nat → Int64} {vj : Nat → Int32} {vm : Nat → Int64} : RL_X6_isWord_23_2 fi fl vi vl r fj fm vj vm (PS_X6_isWord_23 fi fl vi vl r fj fm vj vm) := by
  unfold RL_X6_isWord_23_2
  intro hp0 hp1 hp2 hp3 hp4 w4 w2 hi hpk9 fik flk vik vlk rk gk_0 c11 c38 z46 ez46 c47 q0; subst q0
  unfold PS_X6_isWord_23
  have e9 : w2 = (439787549556 : Int64) := by rw [hpk9, show w4.toInt.toNat = 5 by omega]; decide
  first | exact Or.inl ⟨by decide, by omega, by rw [← e9]; exact (cmp_eq (by assumption) (by omega)).symm⟩ | exact Or.inr ⟨by decide, fun c => by omega⟩ | exact Or.inr ⟨by decide, fun c => cmp_ne (by assumption) (by omega) (by rw [e9]; exact c.2.symm)⟩
theorem P_X6_isWord_23 {fi : Nat → Nat → Int32} {fl : Nat → Nat → Int64} {vi : Nat → Int32} {vl : Nat → Int64} {r : Int32} {fj : Nat → Nat → Int32} {fm : Nat → Nat → Int64} {vj : Nat → Int32} {vm : Nat → Int64} (h : R_X6_isWord_23 fi fl vi vl r fj fm vj vm) : DJ (r.toInt = 1 ∧ (vi 4).toInt = 1 ∧ (vl 0) = (439787549556 : Int64)) (r.toInt = 0 ∧ ¬ ((vi 4).toInt = 1 ∧ (vl 0) = (439787549556 : Int64))) := h (PS_X6_isWord_23 fi fl vi vl r fj fm vj vm) PL_X6_isWord_23_0 PL_X6_isWord_23_1 PL_X6_isWord_23_2
