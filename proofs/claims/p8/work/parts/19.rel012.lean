set_option maxHeartbeats 4000000 in
theorem PL_X12_readSoul_2 {fi : Nat → Nat → Int32} {fl : Nat → Nat → Int64} {vi : Nat → Int32} {vl : Nat → Int64} {r : Int32} {fj : Nat → Nat → Int32} {fm : Nat → Nat → Int64} {vj : Nat → Int32} {vm : Nat → Int64} : RL_X12_readSoul_2 fi fl vi vl r fj fm vj vm (PS_X12_readSoul fi fl vi vl r fj fm vj vm) := by
  unfold RL_X12_readSoul_2
  intro hp14 hp15 hp16 hp17 hp18 c10 fik flk vik vlk uk gk_5 tt fik_1 flk_1 vik_1 vlk_1 rk_1 gk_1_6 tb_1 gk_1_0 tt_1 fik_2 flk_2 vik_2 vlk_2 rk_2 gk_2_10 tb_3 gk_2_0 tt_2 f60 ef60 fik_3 flk_3 vik_3 vlk_3 rk_3 gk_3_1 tb_5 gk_3_0 fik_4 flk_4 vik_4 vlk_4 uk_4 gk_4_5 fik_5 flk_5 vik_5 vlk_5 rk_5 gk_5_2 tb_7 gk_5_0 q0 q1 q2 q3 q4 q5 q6 q7 q8 q9 q10 q11; subst q0
  unfold PS_X12_readSoul
  intro n m t hc O
  (try simp only [q1, q2, q3, q4, q5, q6, q7, q8, q9, q10, q11]); have k9_0 : (0 : Int32).toInt = 0 := (by decide); have k9_1 : (1 : Int32).toInt = 1 := (by decide)
  have hc0 := hc
  obtain ⟨hn, hm, ht, ck, cp, ce, cw, cu, cg⟩ := hc0
  have hh9 := hp15 1 (by decide) (by decide)
  have hH9 : ¬ gi (fi 0) 1 = 9 := (by show ¬ ((fi 0) 1).toInt = 9; omega)
  have hc1 := CC_nx hc gk_5
  rcases gk_1_6 n m _ hc1 with ⟨b1, b2, b3, b4, b5⟩ | ⟨b1, b2, b3, b4⟩
  · rcases gk_2_10 n m _ b5 with ⟨c1, c2, v9, c3, c4, c5, c6, c7, c8⟩ | ⟨c1, c2, c3, c4⟩
    · have he0 := c8
      obtain ⟨en, em, et, ek, ep, ee, ew, eu, eg⟩ := he0
      have hN2 : (flk_1 0) = (setW (fl 1) (27 + (gi (fi 0) 1).toNat) (sW (trn (fi 1) n) n m (sX (trn (fi 1) n) n m t))) := by rw [b4, updL_W, show (27 + ((fi 0) 1)).toNatClampNeg = 27 + (gi (fi 0) 1).toNat from (show (27 + ((fi 0) 1)).toInt.toNat = 27 + ((fi 0) 1).toInt.toNat by omega)]
      rcases gk_3_1 with ⟨z1, z2, z3⟩ | ⟨z1, z2⟩
      · have hyes : isW (trn (fi 1) n) n m (sX (trn (fi 1) n) n m (sX (trn (fi 1) n) n m (sX (trn (fi 1) n) n m t))) 0x63616c6c6564 := ⟨ek.symm.trans z2, by rw [← ew (ek.symm.trans z2)]; exact z3⟩
        have hc2 := CC_nx c8 gk_4_5
        have hg2 : gi f60 = (setI (setI (gi (fi 0)) (29 + (gi (fi 0) 1).toNat) (sU (trn (fi 1) n) n m (sX (trn (fi 1) n) n m (sX (trn (fi 1) n) n m t)))) (38 + (gi (fi 0) 1).toNat) 0) := soul_38 hh9 (by omega) (by omega) c4 ef60 c3
        have e9 : lnSoul (trn (fi 1) n) n m (ownB (fl 0)) (gi (fi 0)) (fl 1) O t = lnCalled (trn (fi 1) n) n m (ownB (fl 0)) (setI (setI (gi (fi 0)) (29 + (gi (fi 0) 1).toNat) (sU (trn (fi 1) n) n m (sX (trn (fi 1) n) n m (sX (trn (fi 1) n) n m t)))) (38 + (gi (fi 0) 1).toNat) 0) (setW (fl 1) (27 + (gi (fi 0) 1).toNat) (sW (trn (fi 1) n) n m (sX (trn (fi 1) n) n m t))) O (gi (fi 0) 1).toNat (sX (trn (fi 1) n) n m (sX (trn (fi 1) n) n m (sX (trn (fi 1) n) n m (sX (trn (fi 1) n) n m t)))) := by unfold lnSoul; rw [if_neg hH9, if_neg (fun c => c b2), if_neg (fun c => c c2), if_pos hyes]
        rw [e9]
        have e0 : (f60 0).toInt = (setI (setI (gi (fi 0)) (29 + (gi (fi 0) 1).toNat) (sU (trn (fi 1) n) n m (sX (trn (fi 1) n) n m (sX (trn (fi 1) n) n m t)))) (38 + (gi (fi 0) 1).toNat) 0) 0 := congrFun hg2 0
        have e38 : ∀ q : Nat, (f60 (38 + q)).toInt = (setI (setI (gi (fi 0)) (29 + (gi (fi 0) 1).toNat) (sU (trn (fi 1) n) n m (sX (trn (fi 1) n) n m (sX (trn (fi 1) n) n m t)))) (38 + (gi (fi 0) 1).toNat) 0) (38 + q) := fun q => congrFun hg2 (38 + q)
        have hl9 := gk_5_2 (trn (fi 1) n) n m _ hc2
        rw [hN2, e0, show (18 : Int).toNat = 18 from rfl] at hl9
        rcases hl9 with ⟨d1, d2, d3, d4⟩ | ⟨d1, d2, d3, d4⟩
        · exact absurd (d1.symm.trans tb_7) (by decide)
        · exact LO_bad (by unfold lnCalled; rw [if_pos d2]) (by decide) d3 d4
      · exact absurd (z1.symm.trans tb_5) (by decide)
    · exact absurd (c1.symm.trans tb_3) (by decide)
  · exact absurd (b1.symm.trans tb_1) (by decide)
set_option maxHeartbeats 4000000 in
theorem PL_X12_readSoul_3 {fi : Nat → Nat → Int32} {fl : Nat → Nat → Int64} {vi : Nat → Int32} {vl : Nat → Int64} {r : Int32} {fj : Nat → Nat → Int32} {fm : Nat → Nat → Int64} {vj : Nat → Int32} {vm : Nat → Int64} : RL_X12_readSoul_3 fi fl vi vl r fj fm vj vm (PS_X12_readSoul fi fl vi vl r fj fm vj vm) := by
  unfold RL_X12_readSoul_3
  intro hp14 hp15 hp16 hp17 hp18 c10 fik flk vik vlk uk gk_5 tt fik_1 flk_1 vik_1 vlk_1 rk_1 gk_1_6 tb_1 gk_1_0 tt_1 fik_2 flk_2 vik_2 vlk_2 rk_2 gk_2_10 tb_3 gk_2_0 tt_2 f60 ef60 fik_3 flk_3 vik_3 vlk_3 rk_3 gk_3_1 tb_5 gk_3_0 tt_7 f157_1 ef157_1 q0 q1 q2 q3 q4 q5 q6 q7 q8 q9 q10 q11; subst q0
  unfold PS_X12_readSoul
  intro n m t hc O
  (try simp only [q1, q2, q3, q4, q5, q6, q7, q8, q9, q10, q11]); have k9_0 : (0 : Int32).toInt = 0 := (by decide); have k9_1 : (1 : Int32).toInt = 1 := (by decide)
  have hc0 := hc
  obtain ⟨hn, hm, ht, ck, cp, ce, cw, cu, cg⟩ := hc0
  have hh9 := hp15 1 (by decide) (by decide)
  have hH9 : ¬ gi (fi 0) 1 = 9 := (by show ¬ ((fi 0) 1).toInt = 9; omega)
  have hc1 := CC_nx hc gk_5
  rcases gk_1_6 n m _ hc1 with ⟨b1, b2, b3, b4, b5⟩ | ⟨b1, b2, b3, b4⟩
  · rcases gk_2_10 n m _ b5 with ⟨c1, c2, v9, c3, c4, c5, c6, c7, c8⟩ | ⟨c1, c2, c3, c4⟩
    · have he0 := c8
      obtain ⟨en, em, et, ek, ep, ee, ew, eu, eg⟩ := he0
      have hN2 : (flk_1 0) = (setW (fl 1) (27 + (gi (fi 0) 1).toNat) (sW (trn (fi 1) n) n m (sX (trn (fi 1) n) n m t))) := by rw [b4, updL_W, show (27 + ((fi 0) 1)).toNatClampNeg = 27 + (gi (fi 0) 1).toNat from (show (27 + ((fi 0) 1)).toInt.toNat = 27 + ((fi 0) 1).toInt.toNat by omega)]
      rcases gk_3_1 with ⟨z1, z2, z3⟩ | ⟨z1, z2⟩
      · exact absurd (z1.symm.trans tb_5) (by decide)
      · have hno : ¬ isW (trn (fi 1) n) n m (sX (trn (fi 1) n) n m (sX (trn (fi 1) n) n m (sX (trn (fi 1) n) n m t))) 0x63616c6c6564 := (fun c => z2 ⟨ek.trans c.1, by rw [ew c.1]; exact c.2⟩)
        exact LO_good (by unfold lnSoul; rw [if_neg hH9, if_neg (fun c => c b2), if_neg (fun c => c c2), if_neg hno]) (by decide) ⟨c8, gi_soul4 hh9 (by omega) (by omega) c4 ef60 ef157_1 c3 (by omega), hN2, rfl⟩
    · exact absurd (c1.symm.trans tb_3) (by decide)
  · exact absurd (b1.symm.trans tb_1) (by decide)
set_option maxHeartbeats 4000000 in
theorem PL_X12_readSoul_4 {fi : Nat → Nat → Int32} {fl : Nat → Nat → Int64} {vi : Nat → Int32} {vl : Nat → Int64} {r : Int32} {fj : Nat → Nat → Int32} {fm : Nat → Nat → Int64} {vj : Nat → Int32} {vm : Nat → Int64} : RL_X12_readSoul_4 fi fl vi vl r fj fm vj vm (PS_X12_readSoul fi fl vi vl r fj fm vj vm) := by
  unfold RL_X12_readSoul_4
  intro hp14 hp15 hp16 hp17 hp18 c10 fik flk vik vlk uk gk_5 tt fik_1 flk_1 vik_1 vlk_1 rk_1 gk_1_6 tb_1 gk_1_0 tt_1 fik_2 flk_2 vik_2 vlk_2 rk_2 gk_2_10 tb_3 gk_2_0 q0 q1 q2 q3 q4 q5 q6 q7 q8 q9 q10 q11; subst q0
  unfold PS_X12_readSoul
  intro n m t hc O
  (try simp only [q1, q2, q3, q4, q5, q6, q7, q8, q9, q10, q11]); have k9_0 : (0 : Int32).toInt = 0 := (by decide); have k9_1 : (1 : Int32).toInt = 1 := (by decide)
  have hc0 := hc
  obtain ⟨hn, hm, ht, ck, cp, ce, cw, cu, cg⟩ := hc0
  have hh9 := hp15 1 (by decide) (by decide)
  have hH9 : ¬ gi (fi 0) 1 = 9 := (by show ¬ ((fi 0) 1).toInt = 9; omega)
  have hc1 := CC_nx hc gk_5
  rcases gk_1_6 n m _ hc1 with ⟨b1, b2, b3, b4, b5⟩ | ⟨b1, b2, b3, b4⟩
  · rcases gk_2_10 n m _ b5 with ⟨c1, c2, v9, c3, c4, c5, c6, c7, c8⟩ | ⟨c1, c2, c3, c4⟩
    · exact absurd (c1.symm.trans tb_3) (by decide)
    · exact LO_bad (by unfold lnSoul; rw [if_neg hH9, if_neg (fun c => c b2), if_pos c2]) (by decide) c3 c4
  · exact absurd (b1.symm.trans tb_1) (by decide)
set_option maxHeartbeats 4000000 in
theorem PL_X12_readSoul_5 {fi : Nat → Nat → Int32} {fl : Nat → Nat → Int64} {vi : Nat → Int32} {vl : Nat → Int64} {r : Int32} {fj : Nat → Nat → Int32} {fm : Nat → Nat → Int64} {vj : Nat → Int32} {vm : Nat → Int64} : RL_X12_readSoul_5 fi fl vi vl r fj fm vj vm (PS_X12_readSoul fi fl vi vl r fj fm vj vm) := by
  unfold RL_X12_readSoul_5
  intro hp14 hp15 hp16 hp17 hp18 c10 fik flk vik vlk uk gk_5 tt fik_1 flk_1 vik_1 vlk_1 rk_1 gk_1_6 tb_1 gk_1_0 q0 q1 q2 q3 q4 q5 q6 q7 q8 q9 q10 q11; subst q0
  unfold PS_X12_readSoul
  intro n m t hc O
  (try simp only [q1, q2, q3, q4, q5, q6, q7, q8, q9, q10, q11]); have k9_0 : (0 : Int32).toInt = 0 := (by decide); have k9_1 : (1 : Int32).toInt = 1 := (by decide)
  have hc0 := hc
  obtain ⟨hn, hm, ht, ck, cp, ce, cw, cu, cg⟩ := hc0
  have hh9 := hp15 1 (by decide) (by decide)
  have hH9 : ¬ gi (fi 0) 1 = 9 := (by show ¬ ((fi 0) 1).toInt = 9; omega)
  have hc1 := CC_nx hc gk_5
  rcases gk_1_6 n m _ hc1 with ⟨b1, b2, b3, b4, b5⟩ | ⟨b1, b2, b3, b4⟩
  · exact absurd (b1.symm.trans tb_1) (by decide)
  · exact LO_bad (by unfold lnSoul; rw [if_neg hH9, if_pos b2]) (by decide) b3 b4
set_option maxHeartbeats 4000000 in
theorem PL_X12_readSoul_6 {fi : Nat → Nat → Int32} {fl : Nat → Nat → Int64} {vi : Nat → Int32} {vl : Nat → Int64} {r : Int32} {fj : Nat → Nat → Int32} {fm : Nat → Nat → Int64} {vj : Nat → Int32} {vm : Nat → Int64} : RL_X12_readSoul_6 fi fl vi vl r fj fm vj vm (PS_X12_readSoul fi fl vi vl r fj fm vj vm) := by
  unfold RL_X12_readSoul_6
  intro hp14 hp15 hp16 hp17 hp18 c10 fik_8 flk_8 vik_8 vlk_8 rk_8 gk_8_0 gk_8_2 q0 q1 q2 q3 q4 q5 q6 q7 q8 q9 q10 q11; subst q0
  unfold PS_X12_readSoul
  intro n m t hc O
  (try simp only [q1, q2, q3, q4, q5, q6, q7, q8, q9, q10, q11]); have k9_0 : (0 : Int32).toInt = 0 := (by decide); have k9_1 : (1 : Int32).toInt = 1 := (by decide); have k9_2 : (4 : Int32).toInt = 4 := (by decide)
  have hc0 := hc
  obtain ⟨hn, hm, ht, ck, cp, ce, cw, cu, cg⟩ := hc0
  have hh9 := hp15 1 (by decide) (by decide)
  exact LO_bad (by unfold lnSoul; rw [if_pos (show gi (fi 0) 1 = 9 by show ((fi 0) 1).toInt = 9; omega)]) (by decide) (by omega) (by omega)
theorem P_X12_readSoul {fi : Nat → Nat → Int32} {fl : Nat → Nat → Int64} {vi : Nat → Int32} {vl : Nat → Int64} {r : Int32} {fj : Nat → Nat → Int32} {fm : Nat → Nat → Int64} {vj : Nat → Int32} {vm : Nat → Int64} (h : R_X12_readSoul fi fl vi vl r fj fm vj vm) : ∀ n m t : Nat, CC (trn (fi 1) n) n m t (vi 2) (vi 4) (vi 5) (vi 6) (vi 3) (vl 0) (vi 8) (vi 8) → ∀ O : Nat → Bool, LO (lnSoul (trn (fi 1) n) n m (ownB (fl 0)) (gi (fi 0)) (fl 1) O t) r (vj 5) (vj 6) (fun t' H' N' O' => CC (trn (fi 1) n) n m t' (vi 2) (vi 4) (vj 4) (vj 1) (vj 0) (vm 0) (vj 3) (vj 3) ∧ gi (fj 0) = H' ∧ (fm 0) = N' ∧ O' = O) := h (PS_X12_readSoul fi fl vi vl r fj fm vj vm) PL_X12_readSoul_0 PL_X12_readSoul_1 PL_X12_readSoul_2 PL_X12_readSoul_3 PL_X12_readSoul_4 PL_X12_readSoul_5 PL_X12_readSoul_6
def RL_X12_line_0 (fi : Nat → Nat → Int32) (fl : Nat → Nat → Int64) (vi : Nat → Int32) (vl : Nat → Int64) (r : Int32) (fj : Nat → Nat → Int32) (fm : Nat → Nat → Int64) (vj : Nat → Int32) (vm : Nat → Int64) (Q9 : Prop) : Prop :=
  (rg (fi 0) 0 1 0 9) → (rg (fi 0) 1 2 0 9) → (rg (fi 0) 38 47 0 9) → (rg (fi 0) 47 56 0 9) → (rg (fi 1) 0 940 (-128) 127) → ∀ (fik : Nat → Nat → Int32), ∀ (flk : Nat → Nat → Int64), ∀ (vik : Nat → Int32), ∀ (vlk : Nat → Int64), ∀ (rk : Int32), (DJ (rk.toInt = 1 ∧ (vi 5).toInt = 1 ∧ (vl 0) = (1851878757 : Int64)) (rk.toInt = 0 ∧ ¬ ((vi 5).toInt = 1 ∧ (vl 0) = (1851878757 : Int64)))) → (rk.toInt = 1) → ((vi 5).toInt = 1) → (¬ ((fi 0) 0).toInt = 9) → ∀ (fik_1 : Nat → Nat → Int32), ∀ (flk_1 : Nat → Nat → Int64), ∀ (vik_1 : Nat → Int32), ∀ (vlk_1 : Nat → Int64), ∀ (uk_1 : Int32), (∀ n m : Nat, (vi 2).toInt = (n : Int) → (vi 4).toInt = (m : Int) → (vi 3).toInt ≤ (vi 2).toInt → CC (trn (fi 1) n) n m ((vi 3).toInt).toNat (vi 2) (vi 4) (vik_1 4) (vik_1 1) (vik_1 0) (vlk_1 0) (vik_1 3) (vik_1 3)) → ((18 + ((fi 0) 0)).toInt = 18 + ((fi 0) 0).toInt) → ∀ (fik_2 : Nat → Nat → Int32), ∀ (flk_2 : Nat → Nat → Int64), ∀ (vik_2 : Nat → Int32), ∀ (vlk_2 : Nat → Int64), ∀ (rk_2 : Int32), (∀ n m t : Nat, CC (trn (fi 1) n) n m t (vi 2) (vi 4) (vik_1 4) (vik_1 1) (vik_1 0) (vlk_1 0) (vik_1 3) (vik_1 3) → (rk_2.toInt = 1 ∧ (fNew (trn (fi 1) n) n m (ownB (fl 0)) (gi (fi 0)) (fl 1) t) = 0 ∧ (wMay (trn (fi 1) n) n m (ownB (fl 0)) t) ∧ (flk_2 0) = vp_updL (fl 1) ((18 + ((fi 0) 0))).toNatClampNeg (sW (trn (fi 1) n) n m t) ∧ CC (trn (fi 1) n) n m (sX (trn (fi 1) n) n m t) (vi 2) (vi 4) (vik_2 6) (vik_2 3) (vik_2 2) (vlk_2 0) (vik_2 5) (vik_2 5)) ∨ (rk_2.toInt = 0 ∧ ¬ (fNew (trn (fi 1) n) n m (ownB (fl 0)) (gi (fi 0)) (fl 1) t) = 0 ∧ (vik_2 0).toInt = (fNew (trn (fi 1) n) n m (ownB (fl 0)) (gi (fi 0)) (fl 1) t) ∧ (vik_2 1).toInt = ((sPn (trn (fi 1) n) n m t) : Int))) → (rk_2.toInt = 1) → ((vik_1 4).toInt = 1 ∧ (vik_1 0).toInt ≤ (vik_2 2).toInt) → ((2 + ((fi 0) 0)).toInt = 2 + ((fi 0) 0).toInt) → ∀ (fik_3 : Nat → Nat → Int32), ∀ (flk_3 : Nat → Nat → Int64), ∀ (vik_3 : Nat → Int32), ∀ (vlk_3 : Nat → Int64), ∀ (rk_3 : Int32), (∀ n m t : Nat, CC (trn (fi 1) n) n m t (vi 2) (vi 4) (vik_2 6) (vik_2 3) (vik_2 2) (vlk_2 0) (vik_2 5) (vik_2 5) → (rk_3.toInt = 1 ∧ (fNum (trn (fi 1) n) n m (0 : Int) (99 : Int) t) = 0 ∧ ∃ v : Int32, v.toInt = (sU (trn (fi 1) n) n m t) ∧ (fik_3 0) = upd (fi 0) ((2 + ((fi 0) 0))).toNatClampNeg v ∧ (sK (trn (fi 1) n) n m t) = 2 ∧ (0 : Int) ≤ (sU (trn (fi 1) n) n m t) ∧ (sU (trn (fi 1) n) n m t) ≤ (99 : Int) ∧ CC (trn (fi 1) n) n m (sX (trn (fi 1) n) n m t) (vi 2) (vi 4) (vik_3 5) (vik_3 2) (vik_3 1) (vlk_3 0) (vik_3 4) (vik_3 4)) ∨ (rk_3.toInt = 0 ∧ ¬ (fNum (trn (fi 1) n) n m (0 : Int) (99 : Int) t) = 0 ∧ (vik_3 6).toInt = (fNum (trn (fi 1) n) n m (0 : Int) (99 : Int) t) ∧ (vik_3 7).toInt = ((sPn (trn (fi 1) n) n m t) : Int))) → (rk_3.toInt = 1) → ((vik_2 6).toInt = 2 ∧ (vik_2 2).toInt ≤ (vik_3 1).toInt) → ((((fik_3 0) 0) + 1).toInt = ((fik_3 0) 0).toInt + 1) → ∀ (f68 : Nat → Int32), (f68 = upd (fik_3 0) (0 : Int32).toNatClampNeg ((((fik_3 0) 0) + 1) : Int32)) → (r = (1 : Int32)) → (fj 0 = f68) → (fm 0 = (flk_2 0)) → (vj 0 = (vik_3 1)) → (vj 1 = (vik_3 2)) → (vj 2 = (vik_3 3)) → (vj 3 = (vik_3 4)) → (vj 4 = (vik_3 5)) → (vj 5 = (vik_3 6)) → (vj 6 = (vik_3 7)) → (vj 7 = (vik_3 0)) → (vj 8 = (vi 13)) → (vm 0 = (vlk_3 0)) → Q9
def RL_X12_line_1 (fi : Nat → Nat → Int32) (fl : Nat → Nat → Int64) (vi : Nat → Int32) (vl : Nat → Int64) (r : Int32) (fj : Nat → Nat → Int32) (fm : Nat → Nat → Int64) (vj : Nat → Int32) (vm : Nat → Int64) (Q9 : Prop) : Prop :=
  (rg (fi 0) 0 1 0 9) → (rg (fi 0) 1 2 0 9) → (rg (fi 0) 38 47 0 9) → (rg (fi 0) 47 56 0 9) → (rg (fi 1) 0 940 (-128) 127) → ∀ (fik : Nat → Nat → Int32), ∀ (flk : Nat → Nat → Int64), ∀ (vik : Nat → Int32), ∀ (vlk : Nat → Int64), ∀ (rk : Int32), (DJ (rk.toInt = 1 ∧ (vi 5).toInt = 1 ∧ (vl 0) = (1851878757 : Int64)) (rk.toInt = 0 ∧ ¬ ((vi 5).toInt = 1 ∧ (vl 0) = (1851878757 : Int64)))) → (rk.toInt = 1) → ((vi 5).toInt = 1) → (¬ ((fi 0) 0).toInt = 9) → ∀ (fik_1 : Nat → Nat → Int32), ∀ (flk_1 : Nat → Nat → Int64), ∀ (vik_1 : Nat → Int32), ∀ (vlk_1 : Nat → Int64), ∀ (uk_1 : Int32), (∀ n m : Nat, (vi 2).toInt = (n : Int) → (vi 4).toInt = (m : Int) → (vi 3).toInt ≤ (vi 2).toInt → CC (trn (fi 1) n) n m ((vi 3).toInt).toNat (vi 2) (vi 4) (vik_1 4) (vik_1 1) (vik_1 0) (vlk_1 0) (vik_1 3) (vik_1 3)) → ((18 + ((fi 0) 0)).toInt = 18 + ((fi 0) 0).toInt) → ∀ (fik_2 : Nat → Nat → Int32), ∀ (flk_2 : Nat → Nat → Int64), ∀ (vik_2 : Nat → Int32), ∀ (vlk_2 : Nat → Int64), ∀ (rk_2 : Int32), (∀ n m t : Nat, CC (trn (fi 1) n) n m t (vi 2) (vi 4) (vik_1 4) (vik_1 1) (vik_1 0) (vlk_1 0) (vik_1 3) (vik_1 3) → (rk_2.toInt = 1 ∧ (fNew (trn (fi 1) n) n m (ownB (fl 0)) (gi (fi 0)) (fl 1) t) = 0 ∧ (wMay (trn (fi 1) n) n m (ownB (fl 0)) t) ∧ (flk_2 0) = vp_updL (fl 1) ((18 + ((fi 0) 0))).toNatClampNeg (sW (trn (fi 1) n) n m t) ∧ CC (trn (fi 1) n) n m (sX (trn (fi 1) n) n m t) (vi 2) (vi 4) (vik_2 6) (vik_2 3) (vik_2 2) (vlk_2 0) (vik_2 5) (vik_2 5)) ∨ (rk_2.toInt = 0 ∧ ¬ (fNew (trn (fi 1) n) n m (ownB (fl 0)) (gi (fi 0)) (fl 1) t) = 0 ∧ (vik_2 0).toInt = (fNew (trn (fi 1) n) n m (ownB (fl 0)) (gi (fi 0)) (fl 1) t) ∧ (vik_2 1).toInt = ((sPn (trn (fi 1) n) n m t) : Int))) → (rk_2.toInt = 1) → ((vik_1 4).toInt = 1 ∧ (vik_1 0).toInt ≤ (vik_2 2).toInt) → ((2 + ((fi 0) 0)).toInt = 2 + ((fi 0) 0).toInt) → ∀ (fik_3 : Nat → Nat → Int32), ∀ (flk_3 : Nat → Nat → Int64), ∀ (vik_3 : Nat → Int32), ∀ (vlk_3 : Nat → Int64), ∀ (rk_3 : Int32), (∀ n m t : Nat, CC (trn (fi 1) n) n m t (vi 2) (vi 4) (vik_2 6) (vik_2 3) (vik_2 2) (vlk_2 0) (vik_2 5) (vik_2 5) → (rk_3.toInt = 1 ∧ (fNum (trn (fi 1) n) n m (0 : Int) (99 : Int) t) = 0 ∧ ∃ v : Int32, v.toInt = (sU (trn (fi 1) n) n m t) ∧ (fik_3 0) = upd (fi 0) ((2 + ((fi 0) 0))).toNatClampNeg v ∧ (sK (trn (fi 1) n) n m t) = 2 ∧ (0 : Int) ≤ (sU (trn (fi 1) n) n m t) ∧ (sU (trn (fi 1) n) n m t) ≤ (99 : Int) ∧ CC (trn (fi 1) n) n m (sX (trn (fi 1) n) n m t) (vi 2) (vi 4) (vik_3 5) (vik_3 2) (vik_3 1) (vlk_3 0) (vik_3 4) (vik_3 4)) ∨ (rk_3.toInt = 0 ∧ ¬ (fNum (trn (fi 1) n) n m (0 : Int) (99 : Int) t) = 0 ∧ (vik_3 6).toInt = (fNum (trn (fi 1) n) n m (0 : Int) (99 : Int) t) ∧ (vik_3 7).toInt = ((sPn (trn (fi 1) n) n m t) : Int))) → (rk_3.toInt = 0) → (True) → (r = (0 : Int32)) → (fj 0 = (fik_3 0)) → (fm 0 = (flk_2 0)) → (vj 0 = (vik_3 1)) → (vj 1 = (vik_3 2)) → (vj 2 = (vik_3 3)) → (vj 3 = (vik_3 4)) → (vj 4 = (vik_3 5)) → (vj 5 = (vik_3 6)) → (vj 6 = (vik_3 7)) → (vj 7 = (vik_3 0)) → (vj 8 = (vi 13)) → (vm 0 = (vlk_3 0)) → Q9
def RL_X12_line_2 (fi : Nat → Nat → Int32) (fl : Nat → Nat → Int64) (vi : Nat → Int32) (vl : Nat → Int64) (r : Int32) (fj : Nat → Nat → Int32) (fm : Nat → Nat → Int64) (vj : Nat → Int32) (vm : Nat → Int64) (Q9 : Prop) : Prop :=
  (rg (fi 0) 0 1 0 9) → (rg (fi 0) 1 2 0 9) → (rg (fi 0) 38 47 0 9) → (rg (fi 0) 47 56 0 9) → (rg (fi 1) 0 940 (-128) 127) → ∀ (fik : Nat → Nat → Int32), ∀ (flk : Nat → Nat → Int64), ∀ (vik : Nat → Int32), ∀ (vlk : Nat → Int64), ∀ (rk : Int32), (DJ (rk.toInt = 1 ∧ (vi 5).toInt = 1 ∧ (vl 0) = (1851878757 : Int64)) (rk.toInt = 0 ∧ ¬ ((vi 5).toInt = 1 ∧ (vl 0) = (1851878757 : Int64)))) → (rk.toInt = 1) → ((vi 5).toInt = 1) → (¬ ((fi 0) 0).toInt = 9) → ∀ (fik_1 : Nat → Nat → Int32), ∀ (flk_1 : Nat → Nat → Int64), ∀ (vik_1 : Nat → Int32), ∀ (vlk_1 : Nat → Int64), ∀ (uk_1 : Int32), (∀ n m : Nat, (vi 2).toInt = (n : Int) → (vi 4).toInt = (m : Int) → (vi 3).toInt ≤ (vi 2).toInt → CC (trn (fi 1) n) n m ((vi 3).toInt).toNat (vi 2) (vi 4) (vik_1 4) (vik_1 1) (vik_1 0) (vlk_1 0) (vik_1 3) (vik_1 3)) → ((18 + ((fi 0) 0)).toInt = 18 + ((fi 0) 0).toInt) → ∀ (fik_2 : Nat → Nat → Int32), ∀ (flk_2 : Nat → Nat → Int64), ∀ (vik_2 : Nat → Int32), ∀ (vlk_2 : Nat → Int64), ∀ (rk_2 : Int32), (∀ n m t : Nat, CC (trn (fi 1) n) n m t (vi 2) (vi 4) (vik_1 4) (vik_1 1) (vik_1 0) (vlk_1 0) (vik_1 3) (vik_1 3) → (rk_2.toInt = 1 ∧ (fNew (trn (fi 1) n) n m (ownB (fl 0)) (gi (fi 0)) (fl 1) t) = 0 ∧ (wMay (trn (fi 1) n) n m (ownB (fl 0)) t) ∧ (flk_2 0) = vp_updL (fl 1) ((18 + ((fi 0) 0))).toNatClampNeg (sW (trn (fi 1) n) n m t) ∧ CC (trn (fi 1) n) n m (sX (trn (fi 1) n) n m t) (vi 2) (vi 4) (vik_2 6) (vik_2 3) (vik_2 2) (vlk_2 0) (vik_2 5) (vik_2 5)) ∨ (rk_2.toInt = 0 ∧ ¬ (fNew (trn (fi 1) n) n m (ownB (fl 0)) (gi (fi 0)) (fl 1) t) = 0 ∧ (vik_2 0).toInt = (fNew (trn (fi 1) n) n m (ownB (fl 0)) (gi (fi 0)) (fl 1) t) ∧ (vik_2 1).toInt = ((sPn (trn (fi 1) n) n m t) : Int))) → (rk_2.toInt = 0) → (True) → (r = (0 : Int32)) → (fj 0 = (fi 0)) → (fm 0 = (flk_2 0)) → (vj 0 = (vik_2 2)) → (vj 1 = (vik_2 3)) → (vj 2 = (vik_2 4)) → (vj 3 = (vik_2 5)) → (vj 4 = (vik_2 6)) → (vj 5 = (vik_2 0)) → (vj 6 = (vik_2 1)) → (vj 7 = (vi 11)) → (vj 8 = (vi 13)) → (vm 0 = (vlk_2 0)) → Q9
