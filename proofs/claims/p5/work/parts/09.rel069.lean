def RL_X8_readFirstName_5 (fi : Nat → Nat → Int32) (fl : Nat → Nat → Int64) (vi : Nat → Int32) (vl : Nat → Int64) (r : Int32) (fj : Nat → Nat → Int32) (fm : Nat → Nat → Int64) (vj : Nat → Int32) (vm : Nat → Int64) (Q9 : Prop) : Prop :=
  (0 ≤ (vi 13).toInt ∧ (vi 13).toInt ≤ 9) → (0 ≤ (vi 14).toInt ∧ (vi 14).toInt ≤ 9) → ∀ (fik : Nat → Nat → Int32), ∀ (flk : Nat → Nat → Int64), ∀ (vik : Nat → Int32), ∀ (vlk : Nat → Int64), ∀ (rk : Int32), (-1 ≤ rk.toInt ∧ rk.toInt ≤ 8) → (rk.toInt = fdx (fl 0) 0 (vl 0) ((vi 13).toInt).toNat) → ((vi 6).toInt = 1) → (rk.toInt = (-1)) → ∀ (fik_3 : Nat → Nat → Int32), ∀ (flk_3 : Nat → Nat → Int64), ∀ (vik_3 : Nat → Int32), ∀ (vlk_3 : Nat → Int64), ∀ (rk_3 : Int32), (∀ n m t : Nat, CC (trn (fi 0) n) n m t (vi 3) (vi 4) (vi 6) (vi 7) (vi 5) (vl 0) (vi 8) (vi 9) → (rk_3.toInt = 1 ∧ (wMay (trn (fi 0) n) n m (ownB (fl 1)) t) ∧ ¬ rk.toInt = -1 ∧ (vik_3 0).toInt = rk.toInt ∧ CC (trn (fi 0) n) n m (sX (trn (fi 0) n) n m t) (vi 3) (vi 4) (vik_3 1) (vik_3 2) (vik_3 5) (vlk_3 0) (vik_3 4) (vik_3 3)) ∨ (rk_3.toInt = 0 ∧ ¬ (wMay (trn (fi 0) n) n m (ownB (fl 1)) t) ∧ (vik_3 6).toInt = 1 ∧ (vik_3 7).toInt = ((sPn (trn (fi 0) n) n m t) : Int)) ∨ (rk_3.toInt = 0 ∧ (wMay (trn (fi 0) n) n m (ownB (fl 1)) t) ∧ rk.toInt = -1 ∧ (vik_3 6).toInt = 3 ∧ (vik_3 7).toInt = ((sPn (trn (fi 0) n) n m t) : Int))) → (rk_3.toInt = 0) → (True) → (r = (0 : Int32)) → (fj 0 = (fi 1)) → (vj 0 = (vik_3 0)) → (vj 1 = (vik_3 1)) → (vj 2 = (vik_3 2)) → (vj 3 = (vik_3 3)) → (vj 4 = (vik_3 4)) → (vj 5 = (vik_3 5)) → (vj 6 = (vik_3 6)) → (vj 7 = (vik_3 7)) → (vm 0 = (vlk_3 0)) → Q9
def RL_X8_readFirstName_6 (fi : Nat → Nat → Int32) (fl : Nat → Nat → Int64) (vi : Nat → Int32) (vl : Nat → Int64) (r : Int32) (fj : Nat → Nat → Int32) (fm : Nat → Nat → Int64) (vj : Nat → Int32) (vm : Nat → Int64) (Q9 : Prop) : Prop :=
  (0 ≤ (vi 13).toInt ∧ (vi 13).toInt ≤ 9) → (0 ≤ (vi 14).toInt ∧ (vi 14).toInt ≤ 9) → ∀ (fik : Nat → Nat → Int32), ∀ (flk : Nat → Nat → Int64), ∀ (vik : Nat → Int32), ∀ (vlk : Nat → Int64), ∀ (rk : Int32), (-1 ≤ rk.toInt ∧ rk.toInt ≤ 8) → (rk.toInt = fdx (fl 0) 0 (vl 0) ((vi 13).toInt).toNat) → ((vi 6).toInt = 1) → (¬ rk.toInt = (-1)) → ∀ (fik_5 : Nat → Nat → Int32), ∀ (flk_5 : Nat → Nat → Int64), ∀ (vik_5 : Nat → Int32), ∀ (vlk_5 : Nat → Int64), ∀ (rk_5 : Int32), (DJ (rk_5.toInt = 1 ∧ bo1 (fi 1) (vi 14).toInt rk.toInt) (rk_5.toInt = 0 ∧ bo0 (fi 1) (vi 14).toInt rk.toInt)) → (rk_5.toInt = 1) → (True) → ∀ (fik_6 : Nat → Nat → Int32), ∀ (flk_6 : Nat → Nat → Int64), ∀ (vik_6 : Nat → Int32), ∀ (vlk_6 : Nat → Int64), ∀ (rk_6 : Int32), (rk_6 = 0) → ((vik_6 0).toInt = (3 : Int32).toInt ∧ (vik_6 1).toInt = (vi 7).toInt) → (r = (0 : Int32)) → (fj 0 = (fi 1)) → (vj 0 = (vi 10)) → (vj 1 = (vi 6)) → (vj 2 = (vi 7)) → (vj 3 = (vi 9)) → (vj 4 = (vi 8)) → (vj 5 = (vi 5)) → (vj 6 = (vik_6 0)) → (vj 7 = (vik_6 1)) → (vm 0 = (vl 0)) → Q9
def RL_X8_readFirstName_7 (fi : Nat → Nat → Int32) (fl : Nat → Nat → Int64) (vi : Nat → Int32) (vl : Nat → Int64) (r : Int32) (fj : Nat → Nat → Int32) (fm : Nat → Nat → Int64) (vj : Nat → Int32) (vm : Nat → Int64) (Q9 : Prop) : Prop :=
  (0 ≤ (vi 13).toInt ∧ (vi 13).toInt ≤ 9) → (0 ≤ (vi 14).toInt ∧ (vi 14).toInt ≤ 9) → ∀ (fik : Nat → Nat → Int32), ∀ (flk : Nat → Nat → Int64), ∀ (vik : Nat → Int32), ∀ (vlk : Nat → Int64), ∀ (rk : Int32), (-1 ≤ rk.toInt ∧ rk.toInt ≤ 8) → (rk.toInt = fdx (fl 0) 0 (vl 0) ((vi 13).toInt).toNat) → ((vi 6).toInt = 1) → (¬ rk.toInt = (-1)) → ∀ (fik_5 : Nat → Nat → Int32), ∀ (flk_5 : Nat → Nat → Int64), ∀ (vik_5 : Nat → Int32), ∀ (vlk_5 : Nat → Int64), ∀ (rk_5 : Int32), (DJ (rk_5.toInt = 1 ∧ bo1 (fi 1) (vi 14).toInt rk.toInt) (rk_5.toInt = 0 ∧ bo0 (fi 1) (vi 14).toInt rk.toInt)) → (rk_5.toInt = 0) → (True) → ∀ (fik_7 : Nat → Nat → Int32), ∀ (flk_7 : Nat → Nat → Int64), ∀ (vik_7 : Nat → Int32), ∀ (vlk_7 : Nat → Int64), ∀ (rk_7 : Int32), (∀ n m t : Nat, CC (trn (fi 0) n) n m t (vi 3) (vi 4) (vi 6) (vi 7) (vi 5) (vl 0) (vi 8) (vi 9) → (rk_7.toInt = 1 ∧ (wMay (trn (fi 0) n) n m (ownB (fl 1)) t) ∧ ¬ rk.toInt = -1 ∧ (vik_7 0).toInt = rk.toInt ∧ CC (trn (fi 0) n) n m (sX (trn (fi 0) n) n m t) (vi 3) (vi 4) (vik_7 1) (vik_7 2) (vik_7 5) (vlk_7 0) (vik_7 4) (vik_7 3)) ∨ (rk_7.toInt = 0 ∧ ¬ (wMay (trn (fi 0) n) n m (ownB (fl 1)) t) ∧ (vik_7 6).toInt = 1 ∧ (vik_7 7).toInt = ((sPn (trn (fi 0) n) n m t) : Int)) ∨ (rk_7.toInt = 0 ∧ (wMay (trn (fi 0) n) n m (ownB (fl 1)) t) ∧ rk.toInt = -1 ∧ (vik_7 6).toInt = 3 ∧ (vik_7 7).toInt = ((sPn (trn (fi 0) n) n m t) : Int))) → (rk_7.toInt = 1) → ((vik_7 0).toInt = rk.toInt ∧ ¬ rk.toInt = -1 ∧ (vi 6).toInt = 1) → ∀ (fik_8 : Nat → Nat → Int32), ∀ (flk_8 : Nat → Nat → Int64), ∀ (vik_8 : Nat → Int32), ∀ (vlk_8 : Nat → Int64), ∀ (rk_8 : Int32), (rk_8.toInt = 1) → (0 ≤ (vi 0).toInt ∧ (vi 0).toInt < (vi 14).toInt) → ∀ (f90_2 : Nat → Int32), (f90_2 = upd (fi 1) (vi 0).toNatClampNeg ((vik_7 0) : Int32)) → (r = (1 : Int32)) → (fj 0 = f90_2) → (vj 0 = (vik_7 0)) → (vj 1 = (vik_7 1)) → (vj 2 = (vik_7 2)) → (vj 3 = (vik_7 3)) → (vj 4 = (vik_7 4)) → (vj 5 = (vik_7 5)) → (vj 6 = (vik_7 6)) → (vj 7 = (vik_7 7)) → (vm 0 = (vlk_7 0)) → Q9
def RL_X8_readFirstName_8 (fi : Nat → Nat → Int32) (fl : Nat → Nat → Int64) (vi : Nat → Int32) (vl : Nat → Int64) (r : Int32) (fj : Nat → Nat → Int32) (fm : Nat → Nat → Int64) (vj : Nat → Int32) (vm : Nat → Int64) (Q9 : Prop) : Prop :=
  (0 ≤ (vi 13).toInt ∧ (vi 13).toInt ≤ 9) → (0 ≤ (vi 14).toInt ∧ (vi 14).toInt ≤ 9) → ∀ (fik : Nat → Nat → Int32), ∀ (flk : Nat → Nat → Int64), ∀ (vik : Nat → Int32), ∀ (vlk : Nat → Int64), ∀ (rk : Int32), (-1 ≤ rk.toInt ∧ rk.toInt ≤ 8) → (rk.toInt = fdx (fl 0) 0 (vl 0) ((vi 13).toInt).toNat) → ((vi 6).toInt = 1) → (¬ rk.toInt = (-1)) → ∀ (fik_5 : Nat → Nat → Int32), ∀ (flk_5 : Nat → Nat → Int64), ∀ (vik_5 : Nat → Int32), ∀ (vlk_5 : Nat → Int64), ∀ (rk_5 : Int32), (DJ (rk_5.toInt = 1 ∧ bo1 (fi 1) (vi 14).toInt rk.toInt) (rk_5.toInt = 0 ∧ bo0 (fi 1) (vi 14).toInt rk.toInt)) → (rk_5.toInt = 0) → (True) → ∀ (fik_7 : Nat → Nat → Int32), ∀ (flk_7 : Nat → Nat → Int64), ∀ (vik_7 : Nat → Int32), ∀ (vlk_7 : Nat → Int64), ∀ (rk_7 : Int32), (∀ n m t : Nat, CC (trn (fi 0) n) n m t (vi 3) (vi 4) (vi 6) (vi 7) (vi 5) (vl 0) (vi 8) (vi 9) → (rk_7.toInt = 1 ∧ (wMay (trn (fi 0) n) n m (ownB (fl 1)) t) ∧ ¬ rk.toInt = -1 ∧ (vik_7 0).toInt = rk.toInt ∧ CC (trn (fi 0) n) n m (sX (trn (fi 0) n) n m t) (vi 3) (vi 4) (vik_7 1) (vik_7 2) (vik_7 5) (vlk_7 0) (vik_7 4) (vik_7 3)) ∨ (rk_7.toInt = 0 ∧ ¬ (wMay (trn (fi 0) n) n m (ownB (fl 1)) t) ∧ (vik_7 6).toInt = 1 ∧ (vik_7 7).toInt = ((sPn (trn (fi 0) n) n m t) : Int)) ∨ (rk_7.toInt = 0 ∧ (wMay (trn (fi 0) n) n m (ownB (fl 1)) t) ∧ rk.toInt = -1 ∧ (vik_7 6).toInt = 3 ∧ (vik_7 7).toInt = ((sPn (trn (fi 0) n) n m t) : Int))) → (rk_7.toInt = 1) → ((vik_7 0).toInt = rk.toInt ∧ ¬ rk.toInt = -1 ∧ (vi 6).toInt = 1) → ∀ (fik_8 : Nat → Nat → Int32), ∀ (flk_8 : Nat → Nat → Int64), ∀ (vik_8 : Nat → Int32), ∀ (vlk_8 : Nat → Int64), ∀ (rk_8 : Int32), (rk_8.toInt = 0) → (¬ (0 ≤ (vi 0).toInt ∧ (vi 0).toInt < (vi 14).toInt)) → (r = (0 : Int32)) → (fj 0 = (fi 1)) → (vj 0 = (vik_7 0)) → (vj 1 = (vik_7 1)) → (vj 2 = (vik_7 2)) → (vj 3 = (vik_7 3)) → (vj 4 = (vik_7 4)) → (vj 5 = (vik_7 5)) → (vj 6 = (vik_7 6)) → (vj 7 = (vik_7 7)) → (vm 0 = (vlk_7 0)) → Q9
def RL_X8_readFirstName_9 (fi : Nat → Nat → Int32) (fl : Nat → Nat → Int64) (vi : Nat → Int32) (vl : Nat → Int64) (r : Int32) (fj : Nat → Nat → Int32) (fm : Nat → Nat → Int64) (vj : Nat → Int32) (vm : Nat → Int64) (Q9 : Prop) : Prop :=
  (0 ≤ (vi 13).toInt ∧ (vi 13).toInt ≤ 9) → (0 ≤ (vi 14).toInt ∧ (vi 14).toInt ≤ 9) → ∀ (fik : Nat → Nat → Int32), ∀ (flk : Nat → Nat → Int64), ∀ (vik : Nat → Int32), ∀ (vlk : Nat → Int64), ∀ (rk : Int32), (-1 ≤ rk.toInt ∧ rk.toInt ≤ 8) → (rk.toInt = fdx (fl 0) 0 (vl 0) ((vi 13).toInt).toNat) → ((vi 6).toInt = 1) → (¬ rk.toInt = (-1)) → ∀ (fik_5 : Nat → Nat → Int32), ∀ (flk_5 : Nat → Nat → Int64), ∀ (vik_5 : Nat → Int32), ∀ (vlk_5 : Nat → Int64), ∀ (rk_5 : Int32), (DJ (rk_5.toInt = 1 ∧ bo1 (fi 1) (vi 14).toInt rk.toInt) (rk_5.toInt = 0 ∧ bo0 (fi 1) (vi 14).toInt rk.toInt)) → (rk_5.toInt = 0) → (True) → ∀ (fik_7 : Nat → Nat → Int32), ∀ (flk_7 : Nat → Nat → Int64), ∀ (vik_7 : Nat → Int32), ∀ (vlk_7 : Nat → Int64), ∀ (rk_7 : Int32), (∀ n m t : Nat, CC (trn (fi 0) n) n m t (vi 3) (vi 4) (vi 6) (vi 7) (vi 5) (vl 0) (vi 8) (vi 9) → (rk_7.toInt = 1 ∧ (wMay (trn (fi 0) n) n m (ownB (fl 1)) t) ∧ ¬ rk.toInt = -1 ∧ (vik_7 0).toInt = rk.toInt ∧ CC (trn (fi 0) n) n m (sX (trn (fi 0) n) n m t) (vi 3) (vi 4) (vik_7 1) (vik_7 2) (vik_7 5) (vlk_7 0) (vik_7 4) (vik_7 3)) ∨ (rk_7.toInt = 0 ∧ ¬ (wMay (trn (fi 0) n) n m (ownB (fl 1)) t) ∧ (vik_7 6).toInt = 1 ∧ (vik_7 7).toInt = ((sPn (trn (fi 0) n) n m t) : Int)) ∨ (rk_7.toInt = 0 ∧ (wMay (trn (fi 0) n) n m (ownB (fl 1)) t) ∧ rk.toInt = -1 ∧ (vik_7 6).toInt = 3 ∧ (vik_7 7).toInt = ((sPn (trn (fi 0) n) n m t) : Int))) → (rk_7.toInt = 0) → (True) → (r = (0 : Int32)) → (fj 0 = (fi 1)) → (vj 0 = (vik_7 0)) → (vj 1 = (vik_7 1)) → (vj 2 = (vik_7 2)) → (vj 3 = (vik_7 3)) → (vj 4 = (vik_7 4)) → (vj 5 = (vik_7 5)) → (vj 6 = (vik_7 6)) → (vj 7 = (vik_7 7)) → (vm 0 = (vlk_7 0)) → Q9
def R_X8_readFirstName (fi : Nat → Nat → Int32) (fl : Nat → Nat → Int64) (vi : Nat → Int32) (vl : Nat → Int64) (r : Int32) (fj : Nat → Nat → Int32) (fm : Nat → Nat → Int64) (vj : Nat → Int32) (vm : Nat → Int64) : Prop :=
  ∀ Q9 : Prop, RL_X8_readFirstName_0 fi fl vi vl r fj fm vj vm Q9 → RL_X8_readFirstName_1 fi fl vi vl r fj fm vj vm Q9 → RL_X8_readFirstName_2 fi fl vi vl r fj fm vj vm Q9 → RL_X8_readFirstName_3 fi fl vi vl r fj fm vj vm Q9 → RL_X8_readFirstName_4 fi fl vi vl r fj fm vj vm Q9 → RL_X8_readFirstName_5 fi fl vi vl r fj fm vj vm Q9 → RL_X8_readFirstName_6 fi fl vi vl r fj fm vj vm Q9 → RL_X8_readFirstName_7 fi fl vi vl r fj fm vj vm Q9 → RL_X8_readFirstName_8 fi fl vi vl r fj fm vj vm Q9 → RL_X8_readFirstName_9 fi fl vi vl r fj fm vj vm Q9 → Q9
def PS_X8_readFirstName (fi : Nat → Nat → Int32) (fl : Nat → Nat → Int64) (vi : Nat → Int32) (vl : Nat → Int64) (r : Int32) (fj : Nat → Nat → Int32) (fm : Nat → Nat → Int64) (vj : Nat → Int32) (vm : Nat → Int64) : Prop :=
  ∀ n m t : Nat, CC (trn (fi 0) n) n m t (vi 3) (vi 4) (vi 6) (vi 7) (vi 5) (vl 0) (vi 8) (vi 9) → ∀ (H : Nat → Int) (N : Nat → Int64) (O : Nat → Bool) (K : Nat), (RWn (ownB (fl 1)) (vi 13) (fl 0) H N) → (vi 0).toInt = (K : Int) → (vi 14).toInt = (K : Int) + 1 → (∀ q : Nat, q < K → ((fi 1) q).toInt + 1 = H (38 + q)) → ((fi 1) K).toInt = -1 → LO (lnCalled (trn (fi 0) n) n m (ownB (fl 1)) H N O K t) r (vj 6) (vj 7) (fun t' H' N' O' => CC (trn (fi 0) n) n m t' (vi 3) (vi 4) (vj 1) (vj 2) (vj 5) (vm 0) (vj 4) (vj 3) ∧ ∃ i : Int, H' = setI (setI H (38 + K) (i + 1)) 1 ((K : Int) + 1) ∧ N' = N ∧ O' = O ∧ (∀ j : Nat, ¬ j = K → (fj 0) j = (fi 1) j) ∧ ((fj 0) K).toInt = i)
set_option maxHeartbeats 4000000 in
theorem PL_X8_readFirstName_0 {fi : Nat → Nat → Int32} {fl : Nat → Nat → Int64} {vi : Nat → Int32} {vl : Nat → Int64} {r : Int32} {fj : Nat → Nat → Int32} {fm : Nat → Nat → Int64} {vj : Nat → Int32} {vm : Nat → Int64} : RL_X8_readFirstName_0 fi fl vi vl r fj fm vj vm (PS_X8_readFirstName fi fl vi vl r fj fm vj vm) := by
  unfold RL_X8_readFirstName_0
  intro hp5 hp6 fik flk vik vlk rk gk_0 gk_1 c23 fik_1 flk_1 vik_1 vlk_1 rk_1 gk_1_5 tb gk_1_0 fik_2 flk_2 vik_2 vlk_2 rk_2 tb_1 gk_2_0 f90 ef90 q0 q1 q2 q3 q4 q5 q6 q7 q8 q9 q10; subst q0
  unfold PS_X8_readFirstName
  intro n m t hc H N O K hN hk1 hs9 hF hF9
  (try simp only [q1, q2, q3, q4, q5, q6, q7, q8, q9, q10]); have k9_0 : (0 : Int32).toInt = 0 := (by decide); have k9_1 : (1 : Int32).toInt = 1 := (by decide)
  have hc0 := hc
  obtain ⟨hn, hm, ht, ck, cp, ce, cw, cu, cg⟩ := hc0
  have hN9 := hN.1
  rw [RWn_f hN] at gk_1
  rcases gk_1_5 n m t hc with ⟨a1, a2, a3, a4, a5⟩ | ⟨a1, a2, a3, a4⟩ | ⟨a1, a2, a3, a4, a5⟩
  · have h5 := a2.1
    have hfo := kn_of cw gk_1 a2
    have hr8 := RWn_o hN (w := sW (trn (fi 0) n) n m t) (by omega)
    have hk0 : (fKn (trn (fi 0) n) n m (ownB (fl 1)) N 18 (H 0) t) = 0 := fKn_0 a2 (by omega)
    exfalso; omega
  · exact absurd (a1.symm.trans tb) (by decide)
  · exact absurd (a1.symm.trans tb) (by decide)
set_option maxHeartbeats 4000000 in
theorem PL_X8_readFirstName_1 {fi : Nat → Nat → Int32} {fl : Nat → Nat → Int64} {vi : Nat → Int32} {vl : Nat → Int64} {r : Int32} {fj : Nat → Nat → Int32} {fm : Nat → Nat → Int64} {vj : Nat → Int32} {vm : Nat → Int64} : RL_X8_readFirstName_1 fi fl vi vl r fj fm vj vm (PS_X8_readFirstName fi fl vi vl r fj fm vj vm) := by
  unfold RL_X8_readFirstName_1
  intro hp5 hp6 fik flk vik vlk rk gk_0 gk_1 c23 fik_1 flk_1 vik_1 vlk_1 rk_1 gk_1_5 tb gk_1_0 fik_2 flk_2 vik_2 vlk_2 rk_2 tb_1 gk_2_0 q0 q1 q2 q3 q4 q5 q6 q7 q8 q9 q10; subst q0
  unfold PS_X8_readFirstName
  intro n m t hc H N O K hN hk1 hs9 hF hF9
  (try simp only [q1, q2, q3, q4, q5, q6, q7, q8, q9, q10]); have k9_0 : (0 : Int32).toInt = 0 := (by decide); have k9_1 : (1 : Int32).toInt = 1 := (by decide)
  have hc0 := hc
  obtain ⟨hn, hm, ht, ck, cp, ce, cw, cu, cg⟩ := hc0
  have hN9 := hN.1
  rw [RWn_f hN] at gk_1
  rcases gk_1_5 n m t hc with ⟨a1, a2, a3, a4, a5⟩ | ⟨a1, a2, a3, a4⟩ | ⟨a1, a2, a3, a4, a5⟩
  · have h5 := a2.1
    have hfo := kn_of cw gk_1 a2
    have hr8 := RWn_o hN (w := sW (trn (fi 0) n) n m t) (by omega)
    have hk0 : (fKn (trn (fi 0) n) n m (ownB (fl 1)) N 18 (H 0) t) = 0 := fKn_0 a2 (by omega)
    exfalso; omega
  · exact absurd (a1.symm.trans tb) (by decide)
  · exact absurd (a1.symm.trans tb) (by decide)
set_option maxHeartbeats 4000000 in
theorem PL_X8_readFirstName_2 {fi : Nat → Nat → Int32} {fl : Nat → Nat → Int64} {vi : Nat → Int32} {vl : Nat → Int64} {r : Int32} {fj : Nat → Nat → Int32} {fm : Nat → Nat → Int64} {vj : Nat → Int32} {vm : Nat → Int64} : RL_X8_readFirstName_2 fi fl vi vl r fj fm vj vm (PS_X8_readFirstName fi fl vi vl r fj fm vj vm) := by
  unfold RL_X8_readFirstName_2
  intro hp5 hp6 fik flk vik vlk rk gk_0 gk_1 c23 fik_1 flk_1 vik_1 vlk_1 rk_1 gk_1_5 tb gk_1_0 q0 q1 q2 q3 q4 q5 q6 q7 q8 q9 q10; subst q0
  unfold PS_X8_readFirstName
  intro n m t hc H N O K hN hk1 hs9 hF hF9
  (try simp only [q1, q2, q3, q4, q5, q6, q7, q8, q9, q10]); have k9_0 : (0 : Int32).toInt = 0 := (by decide); have k9_1 : (1 : Int32).toInt = 1 := (by decide)
  have hc0 := hc
  obtain ⟨hn, hm, ht, ck, cp, ce, cw, cu, cg⟩ := hc0
  have hN9 := hN.1
  rw [RWn_f hN] at gk_1
  rcases gk_1_5 n m t hc with ⟨a1, a2, a3, a4, a5⟩ | ⟨a1, a2, a3, a4⟩ | ⟨a1, a2, a3, a4, a5⟩
  · exact absurd (a1.symm.trans tb) (by decide)
  · have hk1 : (fKn (trn (fi 0) n) n m (ownB (fl 1)) N 18 (H 0) t) = 1 := fKn_1 a2
    exact LO_bad (by unfold lnCalled; rw [if_pos (by omega)]) (by decide) (by omega) a4
  · have hfo := kn_of cw gk_1 a2
    have hk3 : (fKn (trn (fi 0) n) n m (ownB (fl 1)) N 18 (H 0) t) = 3 := fKn_3 a2 (by omega)
    exact LO_bad (by unfold lnCalled; rw [if_pos (by omega)]) (by decide) (by omega) a5
set_option maxHeartbeats 4000000 in
theorem PL_X8_readFirstName_3 {fi : Nat → Nat → Int32} {fl : Nat → Nat → Int64} {vi : Nat → Int32} {vl : Nat → Int64} {r : Int32} {fj : Nat → Nat → Int32} {fm : Nat → Nat → Int64} {vj : Nat → Int32} {vm : Nat → Int64} : RL_X8_readFirstName_3 fi fl vi vl r fj fm vj vm (PS_X8_readFirstName fi fl vi vl r fj fm vj vm) := by
  unfold RL_X8_readFirstName_3
  intro hp5 hp6 fik flk vik vlk rk gk_0 gk_1 c23 c28 fik_3 flk_3 vik_3 vlk_3 rk_3 gk_3_5 tb_2 gk_3_0 fik_4 flk_4 vik_4 vlk_4 rk_4 tb_3 gk_4_0 f90_1 ef90_1 q0 q1 q2 q3 q4 q5 q6 q7 q8 q9 q10; subst q0
  unfold PS_X8_readFirstName
  intro n m t hc H N O K hN hk1 hs9 hF hF9
  (try simp only [q1, q2, q3, q4, q5, q6, q7, q8, q9, q10]); have k9_0 : (0 : Int32).toInt = 0 := (by decide); have k9_1 : (1 : Int32).toInt = 1 := (by decide)
  have hc0 := hc
  obtain ⟨hn, hm, ht, ck, cp, ce, cw, cu, cg⟩ := hc0
  have hN9 := hN.1
  rw [RWn_f hN] at gk_1
  rcases gk_3_5 n m t hc with ⟨a1, a2, a3, a4, a5⟩ | ⟨a1, a2, a3, a4⟩ | ⟨a1, a2, a3, a4, a5⟩
  · have h5 := a2.1
    have hfo := kn_of cw gk_1 a2
    have hr8 := RWn_o hN (w := sW (trn (fi 0) n) n m t) (by omega)
    have hk0 : (fKn (trn (fi 0) n) n m (ownB (fl 1)) N 18 (H 0) t) = 0 := fKn_0 a2 (by omega)
    exfalso; omega
  · exact absurd (a1.symm.trans tb_2) (by decide)
  · exact absurd (a1.symm.trans tb_2) (by decide)
set_option maxHeartbeats 4000000 in
theorem PL_X8_readFirstName_4 {fi : Nat → Nat → Int32} {fl : Nat → Nat → Int64} {vi : Nat → Int32} {vl : Nat → Int64} {r : Int32} {fj : Nat → Nat → Int32} {fm : Nat → Nat → Int64} {vj : Nat → Int32} {vm : Nat → Int64} : RL_X8_readFirstName_4 fi fl vi vl r fj fm vj vm (PS_X8_readFirstName fi fl vi vl r fj fm vj vm) := by
  unfold RL_X8_readFirstName_4
  intro hp5 hp6 fik flk vik vlk rk gk_0 gk_1 c23 c28 fik_3 flk_3 vik_3 vlk_3 rk_3 gk_3_5 tb_2 gk_3_0 fik_4 flk_4 vik_4 vlk_4 rk_4 tb_3 gk_4_0 q0 q1 q2 q3 q4 q5 q6 q7 q8 q9 q10; subst q0
  unfold PS_X8_readFirstName
  intro n m t hc H N O K hN hk1 hs9 hF hF9
  (try simp only [q1, q2, q3, q4, q5, q6, q7, q8, q9, q10]); have k9_0 : (0 : Int32).toInt = 0 := (by decide); have k9_1 : (1 : Int32).toInt = 1 := (by decide)
  have hc0 := hc
  obtain ⟨hn, hm, ht, ck, cp, ce, cw, cu, cg⟩ := hc0
  have hN9 := hN.1
  rw [RWn_f hN] at gk_1
  rcases gk_3_5 n m t hc with ⟨a1, a2, a3, a4, a5⟩ | ⟨a1, a2, a3, a4⟩ | ⟨a1, a2, a3, a4, a5⟩
  · have h5 := a2.1
    have hfo := kn_of cw gk_1 a2
    have hr8 := RWn_o hN (w := sW (trn (fi 0) n) n m t) (by omega)
    have hk0 : (fKn (trn (fi 0) n) n m (ownB (fl 1)) N 18 (H 0) t) = 0 := fKn_0 a2 (by omega)
    exfalso; omega
  · exact absurd (a1.symm.trans tb_2) (by decide)
  · exact absurd (a1.symm.trans tb_2) (by decide)
set_option maxHeartbeats 4000000 in
theorem PL_X8_readFirstName_5 {fi : Nat → Nat → Int32} {fl : Nat → Nat → Int64} {vi : Nat → Int32} {vl : Nat → Int64} {r : Int32} {fj : Nat → Nat → Int32} {fm : Nat → Nat → Int64} {vj : Nat → Int32} {vm : Nat → Int64} : RL_X8_readFirstName_5 fi fl vi vl r fj fm vj vm (PS_X8_readFirstName fi fl vi vl r fj fm vj vm) := by
  unfold RL_X8_readFirstName_5
  intro hp5 hp6 fik flk vik vlk rk gk_0 gk_1 c23 c28 fik_3 flk_3 vik_3 vlk_3 rk_3 gk_3_5 tb_2 gk_3_0 q0 q1 q2 q3 q4 q5 q6 q7 q8 q9 q10; subst q0
  unfold PS_X8_readFirstName
  intro n m t hc H N O K hN hk1 hs9 hF hF9
  (try simp only [q1, q2, q3, q4, q5, q6, q7, q8, q9, q10]); have k9_0 : (0 : Int32).toInt = 0 := (by decide); have k9_1 : (1 : Int32).toInt = 1 := (by decide)
  have hc0 := hc
  obtain ⟨hn, hm, ht, ck, cp, ce, cw, cu, cg⟩ := hc0
  have hN9 := hN.1
  rw [RWn_f hN] at gk_1
  rcases gk_3_5 n m t hc with ⟨a1, a2, a3, a4, a5⟩ | ⟨a1, a2, a3, a4⟩ | ⟨a1, a2, a3, a4, a5⟩
  · exact absurd (a1.symm.trans tb_2) (by decide)
  · have hk1 : (fKn (trn (fi 0) n) n m (ownB (fl 1)) N 18 (H 0) t) = 1 := fKn_1 a2
    exact LO_bad (by unfold lnCalled; rw [if_pos (by omega)]) (by decide) (by omega) a4
  · have hfo := kn_of cw gk_1 a2
    have hk3 : (fKn (trn (fi 0) n) n m (ownB (fl 1)) N 18 (H 0) t) = 3 := fKn_3 a2 (by omega)
    exact LO_bad (by unfold lnCalled; rw [if_pos (by omega)]) (by decide) (by omega) a5
