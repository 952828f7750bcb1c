def RL_X8_readNameLine_0 (fi : Nat → Nat → Int32) (fl : Nat → Nat → Int64) (vi : Nat → Int32) (vl : Nat → Int64) (r : Int32) (fj : Nat → Nat → Int32) (fm : Nat → Nat → Int64) (vj : Nat → Int32) (vm : Nat → Int64) (Q9 : Prop) : Prop :=
  (0 ≤ (vi 1).toInt ∧ (vi 1).toInt ≤ 9) → (0 ≤ (vi 2).toInt ∧ (vi 2).toInt ≤ 9) → ((vi 1).toInt < 9) → ∀ (fik : Nat → Nat → Int32), ∀ (flk : Nat → Nat → Int64), ∀ (vik : Nat → Int32), ∀ (vlk : Nat → Int64), ∀ (uk : Int32), (∀ n m : Nat, (vi 4).toInt = (n : Int) → (vi 5).toInt = (m : Int) → (vi 6).toInt ≤ (vi 4).toInt → CC (trn (fi 0) n) n m ((vi 6).toInt).toNat (vi 4) (vi 5) (vik 0) (vik 1) (vik 4) (vlk 0) (vik 3) (vik 2)) → ∀ (fik_1 : Nat → Nat → Int32), ∀ (flk_1 : Nat → Nat → Int64), ∀ (vik_1 : Nat → Int32), ∀ (vlk_1 : Nat → Int64), ∀ (rk_1 : Int32), (∀ n m t : Nat, CC (trn (fi 0) n) n m t (vi 4) (vi 5) (vik 0) (vik 1) (vik 4) (vlk 0) (vik 3) (vik 2) → ∀ (H : Nat → Int) (N : Nat → Int64), (RWn (ownB (fl 0)) (vi 1) (fl 1) H N) → (RWs (ownB (fl 0)) (vi 2) (fl 2) H N) → (rk_1.toInt = 1 ∧ (fNew (trn (fi 0) n) n m (ownB (fl 0)) H N t) = 0 ∧ (wMay (trn (fi 0) n) n m (ownB (fl 0)) t) ∧ CC (trn (fi 0) n) n m (sX (trn (fi 0) n) n m t) (vi 4) (vi 5) (vik_1 2) (vik_1 3) (vik_1 6) (vlk_1 0) (vik_1 5) (vik_1 4)) ∨ (rk_1.toInt = 0 ∧ ¬ (fNew (trn (fi 0) n) n m (ownB (fl 0)) H N t) = 0 ∧ (vik_1 0).toInt = (fNew (trn (fi 0) n) n m (ownB (fl 0)) H N t) ∧ (vik_1 1).toInt = ((sPn (trn (fi 0) n) n m t) : Int))) → (rk_1.toInt = 1) → (True) → ∀ (fik_2 : Nat → Nat → Int32), ∀ (flk_2 : Nat → Nat → Int64), ∀ (vik_2 : Nat → Int32), ∀ (vlk_2 : Nat → Int64), ∀ (rk_2 : Int32), (∀ n m t : Nat, CC (trn (fi 0) n) n m t (vi 4) (vi 5) (vik_1 2) (vik_1 3) (vik_1 6) (vlk_1 0) (vik_1 5) (vik_1 4) → (rk_2.toInt = 1 ∧ (fNum (trn (fi 0) n) n m (0 : Int) (99 : Int) t) = 0 ∧ (vik_2 2).toInt = (sU (trn (fi 0) n) n m t) ∧ (sK (trn (fi 0) n) n m t) = 2 ∧ (0 : Int) ≤ (sU (trn (fi 0) n) n m t) ∧ (sU (trn (fi 0) n) n m t) ≤ (99 : Int) ∧ CC (trn (fi 0) n) n m (sX (trn (fi 0) n) n m t) (vi 4) (vi 5) (vik_2 3) (vik_2 4) (vik_2 7) (vlk_2 0) (vik_2 6) (vik_2 5)) ∨ (rk_2.toInt = 0 ∧ ¬ (fNum (trn (fi 0) n) n m (0 : Int) (99 : Int) t) = 0 ∧ (vik_2 0).toInt = (fNum (trn (fi 0) n) n m (0 : Int) (99 : Int) t) ∧ (vik_2 1).toInt = ((sPn (trn (fi 0) n) n m t) : Int))) → (rk_2.toInt = 1) → (True) → ∀ (fik_3 : Nat → Nat → Int32), ∀ (flk_3 : Nat → Nat → Int64), ∀ (vik_3 : Nat → Int32), ∀ (vlk_3 : Nat → Int64), ∀ (uk_3 : Int32), ((vi 1).toInt < 9 → (flk_3 0) = vp_updL (fl 1) ((vi 1)).toNatClampNeg (vlk 0) ∧ (fik_3 1) = upd (fi 2) ((vi 1)).toNatClampNeg (-1) ∧ (fik_3 2) = upd (fi 3) ((vi 1)).toNatClampNeg (-1) ∧ (vik_3 0).toInt = (vi 1).toInt + 1) → (r = (1 : Int32)) → (fj 0 = (fik_3 0)) → (fj 1 = (fik_3 1)) → (fj 2 = (fik_3 2)) → (fm 0 = (flk_3 0)) → (vj 0 = (vik_2 3)) → (vj 1 = (vik_2 4)) → (vj 2 = (vik_2 5)) → (vj 3 = (vik_2 6)) → (vj 4 = (vik_2 7)) → (vj 5 = (vik_2 0)) → (vj 6 = (vik_2 1)) → (vj 7 = (vik_2 2)) → (vj 8 = (vik_3 0)) → (vm 0 = (vlk_2 0)) → Q9
def RL_X8_readNameLine_1 (fi : Nat → Nat → Int32) (fl : Nat → Nat → Int64) (vi : Nat → Int32) (vl : Nat → Int64) (r : Int32) (fj : Nat → Nat → Int32) (fm : Nat → Nat → Int64) (vj : Nat → Int32) (vm : Nat → Int64) (Q9 : Prop) : Prop :=
  (0 ≤ (vi 1).toInt ∧ (vi 1).toInt ≤ 9) → (0 ≤ (vi 2).toInt ∧ (vi 2).toInt ≤ 9) → ((vi 1).toInt < 9) → ∀ (fik : Nat → Nat → Int32), ∀ (flk : Nat → Nat → Int64), ∀ (vik : Nat → Int32), ∀ (vlk : Nat → Int64), ∀ (uk : Int32), (∀ n m : Nat, (vi 4).toInt = (n : Int) → (vi 5).toInt = (m : Int) → (vi 6).toInt ≤ (vi 4).toInt → CC (trn (fi 0) n) n m ((vi 6).toInt).toNat (vi 4) (vi 5) (vik 0) (vik 1) (vik 4) (vlk 0) (vik 3) (vik 2)) → ∀ (fik_1 : Nat → Nat → Int32), ∀ (flk_1 : Nat → Nat → Int64), ∀ (vik_1 : Nat → Int32), ∀ (vlk_1 : Nat → Int64), ∀ (rk_1 : Int32), (∀ n m t : Nat, CC (trn (fi 0) n) n m t (vi 4) (vi 5) (vik 0) (vik 1) (vik 4) (vlk 0) (vik 3) (vik 2) → ∀ (H : Nat → Int) (N : Nat → Int64), (RWn (ownB (fl 0)) (vi 1) (fl 1) H N) → (RWs (ownB (fl 0)) (vi 2) (fl 2) H N) → (rk_1.toInt = 1 ∧ (fNew (trn (fi 0) n) n m (ownB (fl 0)) H N t) = 0 ∧ (wMay (trn (fi 0) n) n m (ownB (fl 0)) t) ∧ CC (trn (fi 0) n) n m (sX (trn (fi 0) n) n m t) (vi 4) (vi 5) (vik_1 2) (vik_1 3) (vik_1 6) (vlk_1 0) (vik_1 5) (vik_1 4)) ∨ (rk_1.toInt = 0 ∧ ¬ (fNew (trn (fi 0) n) n m (ownB (fl 0)) H N t) = 0 ∧ (vik_1 0).toInt = (fNew (trn (fi 0) n) n m (ownB (fl 0)) H N t) ∧ (vik_1 1).toInt = ((sPn (trn (fi 0) n) n m t) : Int))) → (rk_1.toInt = 1) → (True) → ∀ (fik_2 : Nat → Nat → Int32), ∀ (flk_2 : Nat → Nat → Int64), ∀ (vik_2 : Nat → Int32), ∀ (vlk_2 : Nat → Int64), ∀ (rk_2 : Int32), (∀ n m t : Nat, CC (trn (fi 0) n) n m t (vi 4) (vi 5) (vik_1 2) (vik_1 3) (vik_1 6) (vlk_1 0) (vik_1 5) (vik_1 4) → (rk_2.toInt = 1 ∧ (fNum (trn (fi 0) n) n m (0 : Int) (99 : Int) t) = 0 ∧ (vik_2 2).toInt = (sU (trn (fi 0) n) n m t) ∧ (sK (trn (fi 0) n) n m t) = 2 ∧ (0 : Int) ≤ (sU (trn (fi 0) n) n m t) ∧ (sU (trn (fi 0) n) n m t) ≤ (99 : Int) ∧ CC (trn (fi 0) n) n m (sX (trn (fi 0) n) n m t) (vi 4) (vi 5) (vik_2 3) (vik_2 4) (vik_2 7) (vlk_2 0) (vik_2 6) (vik_2 5)) ∨ (rk_2.toInt = 0 ∧ ¬ (fNum (trn (fi 0) n) n m (0 : Int) (99 : Int) t) = 0 ∧ (vik_2 0).toInt = (fNum (trn (fi 0) n) n m (0 : Int) (99 : Int) t) ∧ (vik_2 1).toInt = ((sPn (trn (fi 0) n) n m t) : Int))) → (rk_2.toInt = 0) → (True) → (r = (0 : Int32)) → (fj 0 = (fi 1)) → (fj 1 = (fi 2)) → (fj 2 = (fi 3)) → (fm 0 = (fl 1)) → (vj 0 = (vik_2 3)) → (vj 1 = (vik_2 4)) → (vj 2 = (vik_2 5)) → (vj 3 = (vik_2 6)) → (vj 4 = (vik_2 7)) → (vj 5 = (vik_2 0)) → (vj 6 = (vik_2 1)) → (vj 7 = (vik_2 2)) → (vj 8 = (vi 1)) → (vm 0 = (vlk_2 0)) → Q9
def RL_X8_readNameLine_2 (fi : Nat → Nat → Int32) (fl : Nat → Nat → Int64) (vi : Nat → Int32) (vl : Nat → Int64) (r : Int32) (fj : Nat → Nat → Int32) (fm : Nat → Nat → Int64) (vj : Nat → Int32) (vm : Nat → Int64) (Q9 : Prop) : Prop :=
  (0 ≤ (vi 1).toInt ∧ (vi 1).toInt ≤ 9) → (0 ≤ (vi 2).toInt ∧ (vi 2).toInt ≤ 9) → ((vi 1).toInt < 9) → ∀ (fik : Nat → Nat → Int32), ∀ (flk : Nat → Nat → Int64), ∀ (vik : Nat → Int32), ∀ (vlk : Nat → Int64), ∀ (uk : Int32), (∀ n m : Nat, (vi 4).toInt = (n : Int) → (vi 5).toInt = (m : Int) → (vi 6).toInt ≤ (vi 4).toInt → CC (trn (fi 0) n) n m ((vi 6).toInt).toNat (vi 4) (vi 5) (vik 0) (vik 1) (vik 4) (vlk 0) (vik 3) (vik 2)) → ∀ (fik_1 : Nat → Nat → Int32), ∀ (flk_1 : Nat → Nat → Int64), ∀ (vik_1 : Nat → Int32), ∀ (vlk_1 : Nat → Int64), ∀ (rk_1 : Int32), (∀ n m t : Nat, CC (trn (fi 0) n) n m t (vi 4) (vi 5) (vik 0) (vik 1) (vik 4) (vlk 0) (vik 3) (vik 2) → ∀ (H : Nat → Int) (N : Nat → Int64), (RWn (ownB (fl 0)) (vi 1) (fl 1) H N) → (RWs (ownB (fl 0)) (vi 2) (fl 2) H N) → (rk_1.toInt = 1 ∧ (fNew (trn (fi 0) n) n m (ownB (fl 0)) H N t) = 0 ∧ (wMay (trn (fi 0) n) n m (ownB (fl 0)) t) ∧ CC (trn (fi 0) n) n m (sX (trn (fi 0) n) n m t) (vi 4) (vi 5) (vik_1 2) (vik_1 3) (vik_1 6) (vlk_1 0) (vik_1 5) (vik_1 4)) ∨ (rk_1.toInt = 0 ∧ ¬ (fNew (trn (fi 0) n) n m (ownB (fl 0)) H N t) = 0 ∧ (vik_1 0).toInt = (fNew (trn (fi 0) n) n m (ownB (fl 0)) H N t) ∧ (vik_1 1).toInt = ((sPn (trn (fi 0) n) n m t) : Int))) → (rk_1.toInt = 0) → (True) → (r = (0 : Int32)) → (fj 0 = (fi 1)) → (fj 1 = (fi 2)) → (fj 2 = (fi 3)) → (fm 0 = (fl 1)) → (vj 0 = (vik_1 2)) → (vj 1 = (vik_1 3)) → (vj 2 = (vik_1 4)) → (vj 3 = (vik_1 5)) → (vj 4 = (vik_1 6)) → (vj 5 = (vik_1 0)) → (vj 6 = (vik_1 1)) → (vj 7 = (vi 11)) → (vj 8 = (vi 1)) → (vm 0 = (vlk_1 0)) → Q9
def RL_X8_readNameLine_3 (fi : Nat → Nat → Int32) (fl : Nat → Nat → Int64) (vi : Nat → Int32) (vl : Nat → Int64) (r : Int32) (fj : Nat → Nat → Int32) (fm : Nat → Nat → Int64) (vj : Nat → Int32) (vm : Nat → Int64) (Q9 : Prop) : Prop :=
  (0 ≤ (vi 1).toInt ∧ (vi 1).toInt ≤ 9) → (0 ≤ (vi 2).toInt ∧ (vi 2).toInt ≤ 9) → (9 ≤ (vi 1).toInt) → ∀ (fik_4 : Nat → Nat → Int32), ∀ (flk_4 : Nat → Nat → Int64), ∀ (vik_4 : Nat → Int32), ∀ (vlk_4 : Nat → Int64), ∀ (rk_4 : Int32), (rk_4 = 0) → ((vik_4 0).toInt = (4 : Int32).toInt ∧ (vik_4 1).toInt = (vi 8).toInt) → (r = (0 : Int32)) → (fj 0 = (fi 1)) → (fj 1 = (fi 2)) → (fj 2 = (fi 3)) → (fm 0 = (fl 1)) → (vj 0 = (vi 7)) → (vj 1 = (vi 8)) → (vj 2 = (vi 10)) → (vj 3 = (vi 9)) → (vj 4 = (vi 6)) → (vj 5 = (vik_4 0)) → (vj 6 = (vik_4 1)) → (vj 7 = (vi 11)) → (vj 8 = (vi 1)) → (vm 0 = (vl 0)) → Q9
def R_X8_readNameLine (fi : Nat → Nat → Int32) (fl : Nat → Nat → Int64) (vi : Nat → Int32) (vl : Nat → Int64) (r : Int32) (fj : Nat → Nat → Int32) (fm : Nat → Nat → Int64) (vj : Nat → Int32) (vm : Nat → Int64) : Prop :=
  ∀ Q9 : Prop, RL_X8_readNameLine_0 fi fl vi vl r fj fm vj vm Q9 → RL_X8_readNameLine_1 fi fl vi vl r fj fm vj vm Q9 → RL_X8_readNameLine_2 fi fl vi vl r fj fm vj vm Q9 → RL_X8_readNameLine_3 fi fl vi vl r fj fm vj vm Q9 → Q9
def PS_X8_readNameLine (fi : Nat → Nat → Int32) (fl : Nat → Nat → Int64) (vi : Nat → Int32) (vl : Nat → Int64) (r : Int32) (fj : Nat → Nat → Int32) (fm : Nat → Nat → Int64) (vj : Nat → Int32) (vm : Nat → Int64) : Prop :=
  ∀ n m t : Nat, CC (trn (fi 0) n) n m t (vi 4) (vi 5) (vi 7) (vi 8) (vi 6) (vl 0) (vi 9) (vi 10) → ∀ (H : Nat → Int) (N : Nat → Int64) (O : Nat → Bool), (RWn (ownB (fl 0)) (vi 1) (fl 1) H N) → (RWs (ownB (fl 0)) (vi 2) (fl 2) H N) → LO (lnName (trn (fi 0) n) n m (ownB (fl 0)) H N O t) r (vj 5) (vj 6) (fun t' H' N' O' => CC (trn (fi 0) n) n m t' (vi 4) (vi 5) (vj 0) (vj 1) (vj 4) (vm 0) (vj 3) (vj 2) ∧ ∃ (w : Int64) (u : Int), (ownB (fl 0)) w = false ∧ H 0 < 9 ∧ H' = setI (setI H (2 + (H 0).toNat) u) 0 (H 0 + 1) ∧ N' = setW N (18 + (H 0).toNat) w ∧ O' = O ∧ (fm 0) = vp_updL (fl 1) ((vi 1)).toNatClampNeg w ∧ (fj 1) = upd (fi 2) ((vi 1)).toNatClampNeg (-1) ∧ (fj 2) = upd (fi 3) ((vi 1)).toNatClampNeg (-1) ∧ (vj 8).toInt = (vi 1).toInt + 1)
set_option maxHeartbeats 4000000 in
theorem PL_X8_readNameLine_0 {fi : Nat → Nat → Int32} {fl : Nat → Nat → Int64} {vi : Nat → Int32} {vl : Nat → Int64} {r : Int32} {fj : Nat → Nat → Int32} {fm : Nat → Nat → Int64} {vj : Nat → Int32} {vm : Nat → Int64} : RL_X8_readNameLine_0 fi fl vi vl r fj fm vj vm (PS_X8_readNameLine fi fl vi vl r fj fm vj vm) := by
  unfold RL_X8_readNameLine_0
  intro hp0 hp1 c9 fik flk vik vlk uk gk_2 fik_1 flk_1 vik_1 vlk_1 rk_1 gk_1_4 tb gk_1_0 fik_2 flk_2 vik_2 vlk_2 rk_2 gk_2_4 tb_1 gk_2_0 fik_3 flk_3 vik_3 vlk_3 uk_3 gk_3_1 q0 q1 q2 q3 q4 q5 q6 q7 q8 q9 q10 q11 q12 q13 q14; subst q0
  unfold PS_X8_readNameLine
  intro n m t hc H N O hN hS
  (try simp only [q1, q2, q3, q4, q5, q6, q7, q8, q9, q10, q11, q12, q13, q14]); have k9_0 : (0 : Int32).toInt = 0 := (by decide); have k9_1 : (1 : Int32).toInt = 1 := (by decide)
  have hc0 := hc
  obtain ⟨hn, hm, ht, ck, cp, ce, cw, cu, cg⟩ := hc0
  have hN9 := hN.1; have hS9 := hS.1
  have hc1 := CC_nx hc gk_2
  have hd0 := hc1
  obtain ⟨dn, dm, dt, dk, dp, de, dw, du, dg⟩ := hd0
  rcases gk_1_4 n m _ hc1 H N hN hS with ⟨b1, b2, b3, b4⟩ | ⟨b1, b2, b3, b4⟩
  · rcases gk_2_4 n m _ b4 with ⟨c1, c2, c3, c4, c5, c6, c7⟩ | ⟨c1, c2, c3, c4⟩
    · have hw9 := dw b3.1
      obtain ⟨y1, y2, y3, y4⟩ := gk_3_1 (by omega)
      rw [hw9] at y1
      exact LO_good (by unfold lnName; rw [if_neg (by omega), if_neg (fun c => c b2), if_neg (fun c => c c2)]) (by decide) ⟨c7, _, _, b3.2, by omega, rfl, rfl, rfl, y1, y2, y3, y4⟩
    · exact absurd (c1.symm.trans tb_1) (by decide)
  · exact absurd (b1.symm.trans tb) (by decide)
set_option maxHeartbeats 4000000 in
theorem PL_X8_readNameLine_1 {fi : Nat → Nat → Int32} {fl : Nat → Nat → Int64} {vi : Nat → Int32} {vl : Nat → Int64} {r : Int32} {fj : Nat → Nat → Int32} {fm : Nat → Nat → Int64} {vj : Nat → Int32} {vm : Nat → Int64} : RL_X8_readNameLine_1 fi fl vi vl r fj fm vj vm (PS_X8_readNameLine fi fl vi vl r fj fm vj vm) := by
  unfold RL_X8_readNameLine_1
  intro hp0 hp1 c9 fik flk vik vlk uk gk_2 fik_1 flk_1 vik_1 vlk_1 rk_1 gk_1_4 tb gk_1_0 fik_2 flk_2 vik_2 vlk_2 rk_2 gk_2_4 tb_1 gk_2_0 q0 q1 q2 q3 q4 q5 q6 q7 q8 q9 q10 q11 q12 q13 q14; subst q0
  unfold PS_X8_readNameLine
  intro n m t hc H N O hN hS
  (try simp only [q1, q2, q3, q4, q5, q6, q7, q8, q9, q10, q11, q12, q13, q14]); have k9_0 : (0 : Int32).toInt = 0 := (by decide); have k9_1 : (1 : Int32).toInt = 1 := (by decide)
  have hc0 := hc
  obtain ⟨hn, hm, ht, ck, cp, ce, cw, cu, cg⟩ := hc0
  have hN9 := hN.1; have hS9 := hS.1
  have hc1 := CC_nx hc gk_2
  have hd0 := hc1
  obtain ⟨dn, dm, dt, dk, dp, de, dw, du, dg⟩ := hd0
  rcases gk_1_4 n m _ hc1 H N hN hS with ⟨b1, b2, b3, b4⟩ | ⟨b1, b2, b3, b4⟩
  · rcases gk_2_4 n m _ b4 with ⟨c1, c2, c3, c4, c5, c6, c7⟩ | ⟨c1, c2, c3, c4⟩
    · exact absurd (c1.symm.trans tb_1) (by decide)
    · exact LO_bad (by unfold lnName; rw [if_neg (by omega), if_neg (fun c => c b2), if_pos c2]) (by decide) c3 c4
  · exact absurd (b1.symm.trans tb) (by decide)
set_option maxHeartbeats 4000000 in
theorem PL_X8_readNameLine_2 {fi : Nat → Nat → Int32} {fl : Nat → Nat → Int64} {vi : Nat → Int32} {vl : Nat → Int64} {r : Int32} {fj : Nat → Nat → Int32} {fm : Nat → Nat → Int64} {vj : Nat → Int32} {vm : Nat → Int64} : RL_X8_readNameLine_2 fi fl vi vl r fj fm vj vm (PS_X8_readNameLine fi fl vi vl r fj fm vj vm) := by
  unfold RL_X8_readNameLine_2
  intro hp0 hp1 c9 fik flk vik vlk uk gk_2 fik_1 flk_1 vik_1 vlk_1 rk_1 gk_1_4 tb gk_1_0 q0 q1 q2 q3 q4 q5 q6 q7 q8 q9 q10 q11 q12 q13 q14; subst q0
  unfold PS_X8_readNameLine
  intro n m t hc H N O hN hS
  (try simp only [q1, q2, q3, q4, q5, q6, q7, q8, q9, q10, q11, q12, q13, q14]); have k9_0 : (0 : Int32).toInt = 0 := (by decide); have k9_1 : (1 : Int32).toInt = 1 := (by decide)
  have hc0 := hc
  obtain ⟨hn, hm, ht, ck, cp, ce, cw, cu, cg⟩ := hc0
  have hN9 := hN.1; have hS9 := hS.1
  have hc1 := CC_nx hc gk_2
  have hd0 := hc1
  obtain ⟨dn, dm, dt, dk, dp, de, dw, du, dg⟩ := hd0
  rcases gk_1_4 n m _ hc1 H N hN hS with ⟨b1, b2, b3, b4⟩ | ⟨b1, b2, b3, b4⟩
  · exact absurd (b1.symm.trans tb) (by decide)
  · exact LO_bad (by unfold lnName; rw [if_neg (by omega), if_pos b2]) (by decide) b3 b4
set_option maxHeartbeats 4000000 in
theorem PL_X8_readNameLine_3 {fi : Nat → Nat → Int32} {fl : Nat → Nat → Int64} {vi : Nat → Int32} {vl : Nat → Int64} {r : Int32} {fj : Nat → Nat → Int32} {fm : Nat → Nat → Int64} {vj : Nat → Int32} {vm : Nat → Int64} : RL_X8_readNameLine_3 fi fl vi vl r fj fm vj vm (PS_X8_readNameLine fi fl vi vl r fj fm vj vm) := by
  unfold RL_X8_readNameLine_3
  intro hp0 hp1 c9 fik_4 flk_4 vik_4 vlk_4 rk_4 gk_4_0 gk_4_2 q0 q1 q2 q3 q4 q5 q6 q7 q8 q9 q10 q11 q12 q13 q14; subst q0
  unfold PS_X8_readNameLine
  intro n m t hc H N O hN hS
  (try simp only [q1, q2, q3, q4, q5, q6, q7, q8, q9, q10, q11, q12, q13, q14]); have k9_0 : (0 : Int32).toInt = 0 := (by decide); have k9_1 : (1 : Int32).toInt = 1 := (by decide); have k9_2 : (4 : Int32).toInt = 4 := (by decide)
  have hc0 := hc
  obtain ⟨hn, hm, ht, ck, cp, ce, cw, cu, cg⟩ := hc0
  have hN9 := hN.1; have hS9 := hS.1
  exact LO_bad (by unfold lnName; rw [if_pos (by omega)]) (by decide) (by omega) (by omega)
theorem P_X8_readNameLine {fi : Nat → Nat → Int32} {fl : Nat → Nat → Int64} {vi : Nat → Int32} {vl : Nat → Int64} {r : Int32} {fj : Nat → Nat → Int32} {fm : Nat → Nat → Int64} {vj : Nat → Int32} {vm : Nat → Int64} (h : R_X8_readNameLine fi fl vi vl r fj fm vj vm) : ∀ n m t : Nat, CC (trn (fi 0) n) n m t (vi 4) (vi 5) (vi 7) (vi 8) (vi 6) (vl 0) (vi 9) (vi 10) → ∀ (H : Nat → Int) (N : Nat → Int64) (O : Nat → Bool), (RWn (ownB (fl 0)) (vi 1) (fl 1) H N) → (RWs (ownB (fl 0)) (vi 2) (fl 2) H N) → LO (lnName (trn (fi 0) n) n m (ownB (fl 0)) H N O t) r (vj 5) (vj 6) (fun t' H' N' O' => CC (trn (fi 0) n) n m t' (vi 4) (vi 5) (vj 0) (vj 1) (vj 4) (vm 0) (vj 3) (vj 2) ∧ ∃ (w : Int64) (u : Int), (ownB (fl 0)) w = false ∧ H 0 < 9 ∧ H' = setI (setI H (2 + (H 0).toNat) u) 0 (H 0 + 1) ∧ N' = setW N (18 + (H 0).toNat) w ∧ O' = O ∧ (fm 0) = vp_updL (fl 1) ((vi 1)).toNatClampNeg w ∧ (fj 1) = upd (fi 2) ((vi 1)).toNatClampNeg (-1) ∧ (fj 2) = upd (fi 3) ((vi 1)).toNatClampNeg (-1) ∧ (vj 8).toInt = (vi 1).toInt + 1) := h (PS_X8_readNameLine fi fl vi vl r fj fm vj vm) PL_X8_readNameLine_0 PL_X8_readNameLine_1 PL_X8_readNameLine_2 PL_X8_readNameLine_3
def RL_J1_charAt_3b067_22_0 (fi : Nat → Nat → Int32) (fl : Nat → Nat → Int64) (vi : Nat → Int32) (vl : Nat → Int64) (r : Int32) (fj : Nat → Nat → Int32) (fm : Nat → Nat → Int64) (vj : Nat → Int32) (vm : Nat → Int64) (Q9 : Prop) : Prop :=
  (0 ≤ (vi 0).toInt ∧ (vi 0).toInt ≤ 3) → ∀ (fik : Nat → Nat → Int32), ∀ (flk : Nat → Nat → Int64), ∀ (vik : Nat → Int32), ∀ (vlk : Nat → Int64), ∀ (uk : Int32), ∀ (z8 : Int32), (z8 = (sBy.getD 4 []).getD (vi 0).toNatClampNeg 0) → ∀ (z12 : Int32), (z12 = z8 &&& (255 : Int32)) → ∀ (z13 : Int32), (z13 = (z12.toUInt32 % 65536).toInt32) → (r = z13) → Q9
def R_J1_charAt_3b067_22 (fi : Nat → Nat → Int32) (fl : Nat → Nat → Int64) (vi : Nat → Int32) (vl : Nat → Int64) (r : Int32) (fj : Nat → Nat → Int32) (fm : Nat → Nat → Int64) (vj : Nat → Int32) (vm : Nat → Int64) : Prop :=
  ∀ Q9 : Prop, RL_J1_charAt_3b067_22_0 fi fl vi vl r fj fm vj vm Q9 → Q9
def PS_J1_charAt_3b067_22 (fi : Nat → Nat → Int32) (fl : Nat → Nat → Int64) (vi : Nat → Int32) (vl : Nat → Int64) (r : Int32) (fj : Nat → Nat → Int32) (fm : Nat → Nat → Int64) (vj : Nat → Int32) (vm : Nat → Int64) : Prop :=
  r = (sBy.getD 4 []).getD ((vi 0).toInt).toNat 0
set_option maxHeartbeats 4000000 in
theorem PL_J1_charAt_3b067_22_0 {fi : Nat → Nat → Int32} {fl : Nat → Nat → Int64} {vi : Nat → Int32} {vl : Nat → Int64} {r : Int32} {fj : Nat → Nat → Int32} {fm : Nat → Nat → Int64} {vj : Nat → Int32} {vm : Nat → Int64} : RL_J1_charAt_3b067_22_0 fi fl vi vl r fj fm vj vm (PS_J1_charAt_3b067_22 fi fl vi vl r fj fm vj vm) := by
  unfold RL_J1_charAt_3b067_22_0
  intro hp0 fik flk vik vlk uk z8 ez8 z12 ez12 z13 ez13 q0; subst q0
  unfold PS_J1_charAt_3b067_22
  first | exact by assumption | exact char_of (by assumption) (by assumption) (by assumption)
theorem P_J1_charAt_3b067_22 {fi : Nat → Nat → Int32} {fl : Nat → Nat → Int64} {vi : Nat → Int32} {vl : Nat → Int64} {r : Int32} {fj : Nat → Nat → Int32} {fm : Nat → Nat → Int64} {vj : Nat → Int32} {vm : Nat → Int64} (h : R_J1_charAt_3b067_22 fi fl vi vl r fj fm vj vm) : r = (sBy.getD 4 []).getD ((vi 0).toInt).toNat 0 := h (PS_J1_charAt_3b067_22 fi fl vi vl r fj fm vj vm) PL_J1_charAt_3b067_22_0
def RL_J0_charAt_5068e_22_0 (fi : Nat → Nat → Int32) (fl : Nat → Nat → Int64) (vi : Nat → Int32) (vl : Nat → Int64) (r : Int32) (fj : Nat → Nat → Int32) (fm : Nat → Nat → Int64) (vj : Nat → Int32) (vm : Nat → Int64) (Q9 : Prop) : Prop :=
  (0 ≤ (vi 0).toInt ∧ (vi 0).toInt ≤ 3) → ∀ (fik : Nat → Nat → Int32), ∀ (flk : Nat → Nat → Int64), ∀ (vik : Nat → Int32), ∀ (vlk : Nat → Int64), ∀ (rk : Int32), (rk = 1) → ∀ (fik_1 : Nat → Nat → Int32), ∀ (flk_1 : Nat → Nat → Int64), ∀ (vik_1 : Nat → Int32), ∀ (vlk_1 : Nat → Int64), ∀ (rk_1 : Int32), (rk_1 = (sBy.getD 4 []).getD ((vi 0).toInt).toNat 0) → (r = rk_1) → Q9
def R_J0_charAt_5068e_22 (fi : Nat → Nat → Int32) (fl : Nat → Nat → Int64) (vi : Nat → Int32) (vl : Nat → Int64) (r : Int32) (fj : Nat → Nat → Int32) (fm : Nat → Nat → Int64) (vj : Nat → Int32) (vm : Nat → Int64) : Prop :=
  ∀ Q9 : Prop, RL_J0_charAt_5068e_22_0 fi fl vi vl r fj fm vj vm Q9 → Q9
def PS_J0_charAt_5068e_22 (fi : Nat → Nat → Int32) (fl : Nat → Nat → Int64) (vi : Nat → Int32) (vl : Nat → Int64) (r : Int32) (fj : Nat → Nat → Int32) (fm : Nat → Nat → Int64) (vj : Nat → Int32) (vm : Nat → Int64) : Prop :=
  r = (sBy.getD 4 []).getD ((vi 0).toInt).toNat 0
set_option maxHeartbeats 4000000 in
theorem PL_J0_charAt_5068e_22_0 {fi : Nat → Nat → Int32} {fl : Nat → Nat → Int64} {vi : Nat → Int32} {vl : Nat → Int64} {r : Int32} {fj : Nat → Nat → Int32} {fm : Nat → Nat → Int64} {vj : Nat → Int32} {vm : Nat → Int64} : RL_J0_charAt_5068e_22_0 fi fl vi vl r fj fm vj vm (PS_J0_charAt_5068e_22 fi fl vi vl r fj fm vj vm) := by
  unfold RL_J0_charAt_5068e_22_0
  intro hp0 fik flk vik vlk rk gk_0 fik_1 flk_1 vik_1 vlk_1 rk_1 gk_1_1 q0; subst q0
  unfold PS_J0_charAt_5068e_22
  first | exact by assumption | exact char_of (by assumption) (by assumption) (by assumption)
