def PS_X8_readNameLine (fi : Nat → Nat → Int32) (fl : Nat → Nat → Int64) (vi : Nat → Int32) (vl : Nat → Int64) (r : Int32) (fj : Nat → Nat → Int32) (fm : Nat → Nat → Int64) (vj : Nat → Int32) (vm : Nat → Int64) : Prop :=
  ∀ n m t : Nat, CC (trn (fi 0) n) n m t (vi 4) (vi 5) (vi 7) (vi 8) (vi 6) (vl 0) (vi 9) (vi 10) → ∀ (H : Nat → Int) (N : Nat → Int64) (O : Nat → Bool), (RWn (ownB (fl 0)) (vi 1) (fl 1) H N) → (RWs (ownB (fl 0)) (vi 2) (fl 2) H N) → LO (lnName (trn (fi 0) n) n m (ownB (fl 0)) H N O t) r (vj 5) (vj 6) (fun t' H' N' O' => CC (trn (fi 0) n) n m t' (vi 4) (vi 5) (vj 0) (vj 1) (vj 4) (vm 0) (vj 3) (vj 2) ∧ ∃ (w : Int64) (u : Int), (ownB (fl 0)) w = false ∧ H 0 < 9 ∧ H' = setI (setI H (2 + (H 0).toNat) u) 0 (H 0 + 1) ∧ N' = setW N (18 + (H 0).toNat) w ∧ O' = O ∧ (fm 0) = vp_updL (fl 1) ((vi 1)).toNatClampNeg w ∧ (fj 1) = upd (fi 2) ((vi 1)).toNatClampNeg (-1) ∧ (fj 2) = upd (fi 3) ((vi 1)).toNatClampNeg (-1) ∧ (vj 8).toInt = (vi 1).toInt + 1)
set_option maxHeartbeats 4000000 in
theorem PL_X8_readNameLine_0 {fi : Nat → Nat → Int32} {fl : Nat → Nat → Int64} {vi : Nat → Int32} {vl : Nat → Int64} {r : Int32} {fj : Nat → Nat → Int32} {fm : Nat → Nat → Int64} {vj : Nat → Int32} {vm : Nat → Int64} : RL_X8_readNameLine_0 fi fl vi vl r fj fm vj vm (PS_X8_readNameLine fi fl vi vl r fj fm vj vm) := by
  unfold RL_X8_readNameLine_0
  intro hp0 hp1 c9 fik flk vik vlk uk gk_2 fik_1 flk_1 vik_1 vlk_1 rk_1 gk_1_5 tb gk_1_0 fik_2 flk_2 vik_2 vlk_2 rk_2 gk_2_5 tb_1 gk_2_0 fik_3 flk_3 vik_3 vlk_3 uk_3 gk_3_1 q0 q1 q2 q3 q4 q5 q6 q7 q8 q9 q10 q11 q12 q13 q14; subst q0
  unfold PS_X8_readNameLine
  intro n m t hc H N O hN hS
  (try simp only [q1, q2, q3, q4, q5, q6, q7, q8, q9, q10, q11, q12, q13, q14]); have k9_0 : (0 : Int32).toInt = 0 := (by decide); have k9_1 : (1 : Int32).toInt = 1 := (by decide)
  have hc0 := hc
  obtain ⟨hn, hm, ht, ck, cp, ce, cw, cu, cg⟩ := hc0
  have hN9 := hN.1; have hS9 := hS.1
  have hc1 := CC_nx hc gk_2
  have hd0 := hc1
  obtain ⟨dn, dm, dt, dk, dp, de, dw, du, dg⟩ := hd0
  rcases gk_1_5 n m _ hc1 H N hN hS with ⟨b1, b2, b3, b4⟩ | ⟨b1, b2, b3, b4⟩
  · rcases gk_2_5 n m _ b4 with ⟨c1, c2, c3, c4, c5, c6, c7⟩ | ⟨c1, c2, c3, c4⟩
    · have hw9 := dw b3.1
      obtain ⟨y1, y2, y3, y4⟩ := gk_3_1 (by omega)
      rw [hw9] at y1
      exact LO_good (by unfold lnName; rw [if_neg (by omega), if_neg (fun c => c b2), if_neg (fun c => c c2)]) (by decide) ⟨c7, _, _, b3.2, by omega, rfl, rfl, rfl, y1, y2, y3, y4⟩
    · exact absurd (c1.symm.trans tb_1) (by decide)
  · exact absurd (b1.symm.trans tb) (by decide)
set_option maxHeartbeats 4000000 in
theorem PL_X8_readNameLine_1 {fi : Nat → Nat → Int32} {fl : Nat → Nat → Int64} {vi : Nat → Int32} {vl : Nat → Int64} {r : Int32} {fj : Nat → Nat → Int32} {fm : Nat → Nat → Int64} {vj : Nat → Int32} {vm : Nat → Int64} : RL_X8_readNameLine_1 fi fl vi vl r fj fm vj vm (PS_X8_readNameLine fi fl vi vl r fj fm vj vm) := by
  unfold RL_X8_readNameLine_1
  intro hp0 hp1 c9 fik flk vik vlk uk gk_2 fik_1 flk_1 vik_1 vlk_1 rk_1 gk_1_5 tb gk_1_0 fik_2 flk_2 vik_2 vlk_2 rk_2 gk_2_5 tb_1 gk_2_0 q0 q1 q2 q3 q4 q5 q6 q7 q8 q9 q10 q11 q12 q13 q14; subst q0
  unfold PS_X8_readNameLine
  intro n m t hc H N O hN hS
  (try simp only [q1, q2, q3, q4, q5, q6, q7, q8, q9, q10, q11, q12, q13, q14]); have k9_0 : (0 : Int32).toInt = 0 := (by decide); have k9_1 : (1 : Int32).toInt = 1 := (by decide)
  have hc0 := hc
  obtain ⟨hn, hm, ht, ck, cp, ce, cw, cu, cg⟩ := hc0
  have hN9 := hN.1; have hS9 := hS.1
  have hc1 := CC_nx hc gk_2
  have hd0 := hc1
  obtain ⟨dn, dm, dt, dk, dp, de, dw, du, dg⟩ := hd0
  rcases gk_1_5 n m _ hc1 H N hN hS with ⟨b1, b2, b3, b4⟩ | ⟨b1, b2, b3, b4⟩
  · rcases gk_2_5 n m _ b4 with ⟨c1, c2, c3, c4, c5, c6, c7⟩ | ⟨c1, c2, c3, c4⟩
    · exact absurd (c1.symm.trans tb_1) (by decide)
    · exact LO_bad (by unfold lnName; rw [if_neg (by omega), if_neg (fun c => c b2), if_pos c2]) (by decide) c3 c4
  · exact absurd (b1.symm.trans tb) (by decide)
set_option maxHeartbeats 4000000 in
theorem PL_X8_readNameLine_2 {fi : Nat → Nat → Int32} {fl : Nat → Nat → Int64} {vi : Nat → Int32} {vl : Nat → Int64} {r : Int32} {fj : Nat → Nat → Int32} {fm : Nat → Nat → Int64} {vj : Nat → Int32} {vm : Nat → Int64} : RL_X8_readNameLine_2 fi fl vi vl r fj fm vj vm (PS_X8_readNameLine fi fl vi vl r fj fm vj vm) := by
  unfold RL_X8_readNameLine_2
  intro hp0 hp1 c9 fik flk vik vlk uk gk_2 fik_1 flk_1 vik_1 vlk_1 rk_1 gk_1_5 tb gk_1_0 q0 q1 q2 q3 q4 q5 q6 q7 q8 q9 q10 q11 q12 q13 q14; subst q0
  unfold PS_X8_readNameLine
  intro n m t hc H N O hN hS
  (try simp only [q1, q2, q3, q4, q5, q6, q7, q8, q9, q10, q11, q12, q13, q14]); have k9_0 : (0 : Int32).toInt = 0 := (by decide); have k9_1 : (1 : Int32).toInt = 1 := (by decide)
  have hc0 := hc
  obtain ⟨hn, hm, ht, ck, cp, ce, cw, cu, cg⟩ := hc0
  have hN9 := hN.1; have hS9 := hS.1
  have hc1 := CC_nx hc gk_2
  have hd0 := hc1
  obtain ⟨dn, dm, dt, dk, dp, de, dw, du, dg⟩ := hd0
  rcases gk_1_5 n m _ hc1 H N hN hS with ⟨b1, b2, b3, b4⟩ | ⟨b1, b2, b3, b4⟩
  · exact absurd (b1.symm.trans tb) (by decide)
  · exact LO_bad (by unfold lnName; rw [if_neg (by omega), if_pos b2]) (by decide) b3 b4
set_option maxHeartbeats 4000000 in
theorem PL_X8_readNameLine_3 {fi : Nat → Nat → Int32} {fl : Nat → Nat → Int64} {vi : Nat → Int32} {vl : Nat → Int64} {r : Int32} {fj : Nat → Nat → Int32} {fm : Nat → Nat → Int64} {vj : Nat → Int32} {vm : Nat → Int64} : RL_X8_readNameLine_3 fi fl vi vl r fj fm vj vm (PS_X8_readNameLine fi fl vi vl r fj fm vj vm) := by
  unfold RL_X8_readNameLine_3
  intro hp0 hp1 c9 fik_4 flk_4 vik_4 vlk_4 rk_4 gk_4_0 gk_4_2 q0 q1 q2 q3 q4 q5 q6 q7 q8 q9 q10 q11 q12 q13 q14; subst q0
  unfold PS_X8_readNameLine
  intro n m t hc H N O hN hS
  (try simp only [q1, q2, q3, q4, q5, q6, q7, q8, q9, q10, q11, q12, q13, q14]); have k9_0 : (0 : Int32).toInt = 0 := (by decide); have k9_1 : (1 : Int32).toInt = 1 := (by decide); have k9_2 : (4 : Int32).toInt = 4 := (by decide)
  have hc0 := hc
  obtain ⟨hn, hm, ht, ck, cp, ce, cw, cu, cg⟩ := hc0
  have hN9 := hN.1; have hS9 := hS.1
  exact LO_bad (by unfold lnName; rw [if_pos (by omega)]) (by decide) (by omega) (by omega)
theorem P_X8_readNameLine {fi : Nat → Nat → Int32} {fl : Nat → Nat → Int64} {vi : Nat → Int32} {vl : Nat → Int64} {r : Int32} {fj : Nat → Nat → Int32} {fm : Nat → Nat → Int64} {vj : Nat → Int32} {vm : Nat → Int64} (h : R_X8_readNameLine fi fl vi vl r fj fm vj vm) : ∀ n m t : Nat, CC (trn (fi 0) n) n m t (vi 4) (vi 5) (vi 7) (vi 8) (vi 6) (vl 0) (vi 9) (vi 10) → ∀ (H : Nat → Int) (N : Nat → Int64) (O : Nat → Bool), (RWn (ownB (fl 0)) (vi 1) (fl 1) H N) → (RWs (ownB (fl 0)) (vi 2) (fl 2) H N) → LO (lnName (trn (fi 0) n) n m (ownB (fl 0)) H N O t) r (vj 5) (vj 6) (fun t' H' N' O' => CC (trn (fi 0) n) n m t' (vi 4) (vi 5) (vj 0) (vj 1) (vj 4) (vm 0) (vj 3) (vj 2) ∧ ∃ (w : Int64) (u : Int), (ownB (fl 0)) w = false ∧ H 0 < 9 ∧ H' = setI (setI H (2 + (H 0).toNat) u) 0 (H 0 + 1) ∧ N' = setW N (18 + (H 0).toNat) w ∧ O' = O ∧ (fm 0) = vp_updL (fl 1) ((vi 1)).toNatClampNeg w ∧ (fj 1) = upd (fi 2) ((vi 1)).toNatClampNeg (-1) ∧ (fj 2) = upd (fi 3) ((vi 1)).toNatClampNeg (-1) ∧ (vj 8).toInt = (vi 1).toInt + 1) := h (PS_X8_readNameLine fi fl vi vl r fj fm vj vm) PL_X8_readNameLine_0 PL_X8_readNameLine_1 PL_X8_readNameLine_2 PL_X8_readNameLine_3
def RL_J1_charAt_3b067_22_0 (fi : Nat → Nat → Int32) (fl : Nat → Nat → Int64) (vi : Nat → Int32) (vl : Nat → Int64) (r : Int32) (fj : Nat → Nat → Int32) (fm : Nat → Nat → Int64) (vj : Nat → Int32) (vm : Nat → Int64) (Q9 : Prop) : Prop :=
  (0 ≤ (vi 0).toInt ∧ (vi 0).toInt ≤ 3) → ∀ (fik : Nat → Nat → Int32), ∀ (flk : Nat → Nat → Int64), ∀ (vik : Nat → Int32), ∀ (vlk : Nat → Int64), ∀ (uk : Int32), ∀ (z8 : Int32), (z8 = (sBy.getD 4 []).getD (vi 0).toNatClampNeg 0) → ∀ (z12 : Int32), (z12 = z8 &&& (255 : Int32)) → ∀ (z13 : Int32), (z13 = (z12.toUInt32 % 65536).toInt32) → (r = z13) → Q9
def R_J1_charAt_3b067_22 (fi : Nat → Nat → Int32) (fl : Nat → Nat → Int64) (vi : Nat → Int32) (vl : Nat → Int64) (r : Int32) (fj : Nat → Nat → Int32) (fm : Nat → Nat → Int64) (vj : Nat → Int32) (vm : Nat → Int64) : Prop :=
  ∀ Q9 : Prop, RL_J1_charAt_3b067_22_0 fi fl vi vl r fj fm vj vm Q9 → Q9
def PS_J1_charAt_3b067_22 (fi : Nat → Nat → Int32) (fl : Nat → Nat → Int64) (vi : Nat → Int32) (vl : Nat → Int64) (r : Int32) (fj : Nat → Nat → Int32) (fm : Nat → Nat → Int64) (vj : Nat → Int32) (vm : Nat → Int64) : Prop :=
  r = (sBy.getD 4 []).getD ((vi 0).toInt).toNat 0
set_option maxHeartbeats 4000000 in
theorem PL_J1_charAt_3b067_22_0 {fi : Nat → Nat → Int32} {fl : Nat → Nat → Int64} {vi : Nat → Int32} {vl : Nat → Int64} {r : Int32} {fj : Nat → Nat → Int32} {fm : Nat → Nat → Int64} {vj : Nat → Int32} {vm : Nat → Int64} : RL_J1_charAt_3b067_22_0 fi fl vi vl r fj fm vj vm (PS_J1_charAt_3b067_22 fi fl vi vl r fj fm vj vm) := by
  unfold RL_J1_charAt_3b067_22_0
  intro hp0 fik flk vik vlk uk z8 ez8 z12 ez12 z13 ez13 q0; subst q0
  unfold PS_J1_charAt_3b067_22
  first | exact by assumption | exact char_of (by assumption) (by assumption) (by assumption)
theorem P_J1_charAt_3b067_22 {fi : Nat → Nat → Int32} {fl : Nat → Nat → Int64} {vi : Nat → Int32} {vl : Nat → Int64} {r : Int32} {fj : Nat → Nat → Int32} {fm : Nat → Nat → Int64} {vj : Nat → Int32} {vm : Nat → Int64} (h : R_J1_charAt_3b067_22 fi fl vi vl r fj fm vj vm) : r = (sBy.getD 4 []).getD ((vi 0).toInt).toNat 0 := h (PS_J1_charAt_3b067_22 fi fl vi vl r fj fm vj vm) PL_J1_charAt_3b067_22_0
def RL_J0_charAt_5068e_22_0 (fi : Nat → Nat → Int32) (fl : Nat → Nat → Int64) (vi : Nat → Int32) (vl : Nat → Int64) (r : Int32) (fj : Nat → Nat → Int32) (fm : Nat → Nat → Int64) (vj : Nat → Int32) (vm : Nat → Int64) (Q9 : Prop) : Prop :=
  (0 ≤ (vi 0).toInt ∧ (vi 0).toInt ≤ 3) → ∀ (fik : Nat → Nat → Int32), ∀ (flk : Nat → Nat → Int64), ∀ (vik : Nat → Int32), ∀ (vlk : Nat → Int64), ∀ (rk : Int32), (rk = 1) → ∀ (fik_1 : Nat → Nat → Int32), ∀ (flk_1 : Nat → Nat → Int64), ∀ (vik_1 : Nat → Int32), ∀ (vlk_1 : Nat → Int64), ∀ (rk_1 : Int32), (rk_1 = (sBy.getD 4 []).getD ((vi 0).toInt).toNat 0) → (r = rk_1) → Q9
def R_J0_charAt_5068e_22 (fi : Nat → Nat → Int32) (fl : Nat → Nat → Int64) (vi : Nat → Int32) (vl : Nat → Int64) (r : Int32) (fj : Nat → Nat → Int32) (fm : Nat → Nat → Int64) (vj : Nat → Int32) (vm : Nat → Int64) : Prop :=
  ∀ Q9 : Prop, RL_J0_charAt_5068e_22_0 fi fl vi vl r fj fm vj vm Q9 → Q9
def PS_J0_charAt_5068e_22 (fi : Nat → Nat → Int32) (fl : Nat → Nat → Int64) (vi : Nat → Int32) (vl : Nat → Int64) (r : Int32) (fj : Nat → Nat → Int32) (fm : Nat → Nat → Int64) (vj : Nat → Int32) (vm : Nat → Int64) : Prop :=
  r = (sBy.getD 4 []).getD ((vi 0).toInt).toNat 0
set_option maxHeartbeats 4000000 in
theorem PL_J0_charAt_5068e_22_0 {fi : Nat → Nat → Int32} {fl : Nat → Nat → Int64} {vi : Nat → Int32} {vl : Nat → Int64} {r : Int32} {fj : Nat → Nat → Int32} {fm : Nat → Nat → Int64} {vj : Nat → Int32} {vm : Nat → Int64} : RL_J0_charAt_5068e_22_0 fi fl vi vl r fj fm vj vm (PS_J0_charAt_5068e_22 fi fl vi vl r fj fm vj vm) := by
  unfold RL_J0_charAt_5068e_22_0
  intro hp0 fik flk vik vlk rk gk_0 fik_1 flk_1 vik_1 vlk_1 rk_1 gk_1_1 q0; subst q0
  unfold PS_J0_charAt_5068e_22
  first | exact by assumption | exact char_of (by assumption) (by assumption) (by assumption)
theorem P_J0_charAt_5068e_22 {fi : Nat → Nat → Int32} {fl : Nat → Nat → Int64} {vi : Nat → Int32} {vl : Nat → Int64} {r : Int32} {fj : Nat → Nat → Int32} {fm : Nat → Nat → Int64} {vj : Nat → Int32} {vm : Nat → Int64} (h : R_J0_charAt_5068e_22 fi fl vi vl r fj fm vj vm) : r = (sBy.getD 4 []).getD ((vi 0).toInt).toNat 0 := h (PS_J0_charAt_5068e_22 fi fl vi vl r fj fm vj vm) PL_J0_charAt_5068e_22_0
def RL_X6_isWord_22_0 (fi : Nat → Nat → Int32) (fl : Nat → Nat → Int64) (vi : Nat → Int32) (vl : Nat → Int64) (r : Int32) (fj : Nat → Nat → Int32) (fm : Nat → Nat → Int64) (vj : Nat → Int32) (vm : Nat → Int64) (Q9 : Prop) : Prop :=
  (0 ≤ (vi 1).toInt ∧ (vi 1).toInt ≤ 940) → (0 ≤ (vi 2).toInt ∧ (vi 2).toInt ≤ 940) → (0 ≤ (vi 3).toInt ∧ (vi 3).toInt ≤ 940) → (0 ≤ (vi 5).toInt ∧ (vi 5).toInt ≤ 940) → (0 ≤ (vi 10).toInt ∧ (vi 10).toInt ≤ 940) → ∀ (w4 : Int32), ∀ (w2 : Int64), (0 ≤ w4.toInt ∧ w4.toInt ≤ 4) → (w2 = pkw (sBy.getD 4 []) (w4.toInt).toNat) → ∀ (fik : Nat → Nat → Int32), ∀ (flk : Nat → Nat → Int64), ∀ (vik : Nat → Int32), ∀ (vlk : Nat → Int64), ∀ (rk : Int32), (rk = 4) → (4 ≤ w4.toInt) → (¬ (vi 4).toInt = 1) → (r = (0 : Int32)) → Q9
def RL_X6_isWord_22_1 (fi : Nat → Nat → Int32) (fl : Nat → Nat → Int64) (vi : Nat → Int32) (vl : Nat → Int64) (r : Int32) (fj : Nat → Nat → Int32) (fm : Nat → Nat → Int64) (vj : Nat → Int32) (vm : Nat → Int64) (Q9 : Prop) : Prop :=
  (0 ≤ (vi 1).toInt ∧ (vi 1).toInt ≤ 940) → (0 ≤ (vi 2).toInt ∧ (vi 2).toInt ≤ 940) → (0 ≤ (vi 3).toInt ∧ (vi 3).toInt ≤ 940) → (0 ≤ (vi 5).toInt ∧ (vi 5).toInt ≤ 940) → (0 ≤ (vi 10).toInt ∧ (vi 10).toInt ≤ 940) → ∀ (w4 : Int32), ∀ (w2 : Int64), (0 ≤ w4.toInt ∧ w4.toInt ≤ 4) → (w2 = pkw (sBy.getD 4 []) (w4.toInt).toNat) → ∀ (fik : Nat → Nat → Int32), ∀ (flk : Nat → Nat → Int64), ∀ (vik : Nat → Int32), ∀ (vlk : Nat → Int64), ∀ (rk : Int32), (rk = 4) → (4 ≤ w4.toInt) → ((vi 4).toInt = 1) → ∀ (z46 : Int32), (z46 = lg_cmp w2 (vl 0)) → (¬ z46.toInt = 0) → (r = (0 : Int32)) → Q9
def RL_X6_isWord_22_2 (fi : Nat → Nat → Int32) (fl : Nat → Nat → Int64) (vi : Nat → Int32) (vl : Nat → Int64) (r : Int32) (fj : Nat → Nat → Int32) (fm : Nat → Nat → Int64) (vj : Nat → Int32) (vm : Nat → Int64) (Q9 : Prop) : Prop :=
  (0 ≤ (vi 1).toInt ∧ (vi 1).toInt ≤ 940) → (0 ≤ (vi 2).toInt ∧ (vi 2).toInt ≤ 940) → (0 ≤ (vi 3).toInt ∧ (vi 3).toInt ≤ 940) → (0 ≤ (vi 5).toInt ∧ (vi 5).toInt ≤ 940) → (0 ≤ (vi 10).toInt ∧ (vi 10).toInt ≤ 940) → ∀ (w4 : Int32), ∀ (w2 : Int64), (0 ≤ w4.toInt ∧ w4.toInt ≤ 4) → (w2 = pkw (sBy.getD 4 []) (w4.toInt).toNat) → ∀ (fik : Nat → Nat → Int32), ∀ (flk : Nat → Nat → Int64), ∀ (vik : Nat → Int32), ∀ (vlk : Nat → Int64), ∀ (rk : Int32), (rk = 4) → (4 ≤ w4.toInt) → ((vi 4).toInt = 1) → ∀ (z46 : Int32), (z46 = lg_cmp w2 (vl 0)) → (z46.toInt = 0) → (r = (1 : Int32)) → Q9
def R_X6_isWord_22 (fi : Nat → Nat → Int32) (fl : Nat → Nat → Int64) (vi : Nat → Int32) (vl : Nat → Int64) (r : Int32) (fj : Nat → Nat → Int32) (fm : Nat → Nat → Int64) (vj : Nat → Int32) (vm : Nat → Int64) : Prop :=
  ∀ Q9 : Prop, RL_X6_isWord_22_0 fi fl vi vl r fj fm vj vm Q9 → RL_X6_isWord_22_1 fi fl vi vl r fj fm vj vm Q9 → RL_X6_isWord_22_2 fi fl vi vl r fj fm vj vm Q9 → Q9
def PS_X6_isWord_22 (fi : Nat → Nat → Int32) (fl : Nat → Nat → Int64) (vi : Nat → Int32) (vl : Nat → Int64) (r : Int32) (fj : Nat → Nat → Int32) (fm : Nat → Nat → Int64) (vj : Nat → Int32) (vm : Nat → Int64) : Prop :=
  DJ (r.toInt = 1 ∧ (vi 4).toInt = 1 ∧ (vl 0) = (1684365940 : Int64)) (r.toInt = 0 ∧ ¬ ((vi 4).toInt = 1 ∧ (vl 0) = (1684365940 : Int64)))
set_option maxHeartbeats 4000000 in
theorem PL_X6_isWord_22_0 {fi : Nat → Nat → Int32} {fl : Nat → Nat → Int64} {vi : Nat → Int32} {vl : Nat → Int64} {r : Int32} {fj : Nat → Nat → Int32} {fm : Nat → Nat → Int64} {vj : Nat → Int32} {vm : Nat → Int64} : RL_X6_isWord_22_0 fi fl vi vl r fj fm vj vm (PS_X6_isWord_22 fi fl vi vl r fj fm vj vm) := by
  unfold RL_X6_isWord_22_0
  intro hp0 hp1 hp2 hp3 hp4 w4 w2 hi hpk9 fik flk vik vlk rk gk_0 c11 c38 q0; subst q0
  unfold PS_X6_isWord_22
  have e9 : w2 = (1684365940 : Int64) := by rw [hpk9, show w4.toInt.toNat = 4 by omega]; decide
  first | exact Or.inl ⟨by decide, by omega, by rw [← e9]; exact (cmp_eq (by assumption) (by omega)).symm⟩ | exact Or.inr ⟨by decide, fun c => by omega⟩ | exact Or.inr ⟨by decide, fun c => cmp_ne (by assumption) (by omega) (by rw [e9]; exact c.2.symm)⟩
set_option maxHeartbeats 4000000 in
theorem PL_X6_isWord_22_1 {fi : Nat → Nat → Int32} {fl : Nat → Nat → Int64} {vi : Nat → Int32} {vl : Nat → Int64} {r : Int32} {fj : Nat → Nat → Int32} {fm : Nat → Nat → Int64} {vj : Nat → Int32} {vm : Nat → Int64} : RL_X6_isWord_22_1 fi fl vi vl r fj fm vj vm (PS_X6_isWord_22 fi fl vi vl r fj fm vj vm) := by
  unfold RL_X6_isWord_22_1
  intro hp0 hp1 hp2 hp3 hp4 w4 w2 hi hpk9 fik flk vik vlk rk gk_0 c11 c38 z46 ez46 c47 q0; subst q0
  unfold PS_X6_isWord_22
  have e9 : w2 = (1684365940 : Int64) := by rw [hpk9, show w4.toInt.toNat = 4 by omega]; decide
  first | exact Or.inl ⟨by decide, by omega, by rw [← e9]; exact (cmp_eq (by assumption) (by omega)).symm⟩ | exact Or.inr ⟨by decide, fun c => by omega⟩ | exact Or.inr ⟨by decide, fun c => cmp_ne (by assumption) (by omega) (by rw [e9]; exact c.2.symm)⟩
set_option maxHeartbeats 4000000 in
theorem PL_X6_isWord_22_2 {fi : Nat → Nat → Int32} {fl : Nat → Nat → Int64} {vi : Nat → Int32} {vl : Nat → Int64} {r : Int32} {fj : Nat → Nat → Int32} {fm : Nat → Nat → Int64} {vj : Nat → Int32} {vm : Nat → Int64} : RL_X6_isWord_22_2 fi fl vi vl r fj fm vj vm (PS_X6_isWord_22 fi fl vi vl r fj fm vj vm) := by
  unfold RL_X6_isWord_22_2
  intro hp0 hp1 hp2 hp3 hp4 w4 w2 hi hpk9 fik flk vik vlk rk gk_0 c11 c38 z46 ez46 c47 q0; subst q0
  unfold PS_X6_isWord_22
  have e9 : w2 = (1684365940 : Int64) := by rw [hpk9, show w4.toInt.toNat = 4 by omega]; decide
  first | exact Or.inl ⟨by decide, by omega, by rw [← e9]; exact (cmp_eq (by assumption) (by omega)).symm⟩ | exact Or.inr ⟨by decide, fun c => by omega⟩ | exact Or.inr ⟨by decide, fun c => cmp_ne (by assumption) (by omega) (by rw [e9]; exact c.2.symm)⟩
theorem P_X6_isWord_22 {fi : Nat → Nat → Int32} {fl : Nat → Nat → Int64} {vi : Nat → Int32} {vl : Nat → Int64} {r : Int32} {fj : Nat → Nat → Int32} {fm : Nat → Nat → Int64} {vj : Nat → Int32} {vm : Nat → Int64} (h : R_X6_isWord_22 fi fl vi vl r fj fm vj vm) : DJ (r.toInt = 1 ∧ (vi 4).toInt = 1 ∧ (vl 0) = (1684365940 : Int64)) (r.toInt = 0 ∧ ¬ ((vi 4).toInt = 1 ∧ (vl 0) = (1684365940 : Int64))) := h (PS_X6_isWord_22 fi fl vi vl r fj fm vj vm) PL_X6_isWord_22_0 PL_X6_isWord_22_1 PL_X6_isWord_22_2
def RL_X8_passOnce_0 (fi : Nat → Nat → Int32) (fl : Nat → Nat → Int64) (vi : Nat → Int32) (vl : Nat → Int64) (r : Int32) (fj : Nat → Nat → Int32) (fm : Nat → Nat → Int64) (vj : Nat → Int32) (vm : Nat → Int64) (Q9 : Prop) : Prop :=
  (¬ (vi 6).toInt = 1) → ∀ (fik : Nat → Nat → Int32), ∀ (flk : Nat → Nat → Int64), ∀ (vik : Nat → Int32), ∀ (vlk : Nat → Int64), ∀ (rk : Int32), (∀ n m t : Nat, CC (trn (fi 0) n) n m t (vi 3) (vi 4) (vi 6) (vi 7) (vi 5) (vl 0) (vi 8) (vi 9) → (rk.toInt = 1 ∧ (wMay (trn (fi 0) n) n m (ownB (fl 0)) t) ∧ ¬ (vi 0).toInt = -1 ∧ (vik 0).toInt = (vi 0).toInt ∧ CC (trn (fi 0) n) n m (sX (trn (fi 0) n) n m t) (vi 3) (vi 4) (vik 1) (vik 2) (vik 5) (vlk 0) (vik 4) (vik 3)) ∨ (rk.toInt = 0 ∧ ¬ (wMay (trn (fi 0) n) n m (ownB (fl 0)) t) ∧ (vik 6).toInt = 1 ∧ (vik 7).toInt = ((sPn (trn (fi 0) n) n m t) : Int)) ∨ (rk.toInt = 0 ∧ (wMay (trn (fi 0) n) n m (ownB (fl 0)) t) ∧ (vi 0).toInt = -1 ∧ (vik 6).toInt = 3 ∧ (vik 7).toInt = ((sPn (trn (fi 0) n) n m t) : Int))) → (rk.toInt = 1) → ((vik 0).toInt = (vi 0).toInt ∧ ¬ (vi 0).toInt = -1 ∧ (vi 6).toInt = 1) → (r = (1 : Int32)) → (vj 0 = (vik 0)) → (vj 1 = (vik 1)) → (vj 2 = (vik 2)) → (vj 3 = (vik 3)) → (vj 4 = (vik 4)) → (vj 5 = (vik 5)) → (vj 6 = (vik 6)) → (vj 7 = (vik 7)) → (vm 0 = (vlk 0)) → Q9
