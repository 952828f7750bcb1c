def RL_X12_readSoul_4 (fi : Nat → Nat → Int32) (fl : Nat → Nat → Int64) (vi : Nat → Int32) (vl : Nat → Int64) (r : Int32) (fj : Nat → Nat → Int32) (fm : Nat → Nat → Int64) (vj : Nat → Int32) (vm : Nat → Int64) (Q9 : Prop) : Prop :=
  (rg (fi 0) 0 1 0 9) → (rg (fi 0) 1 2 0 9) → (rg (fi 0) 38 47 0 9) → (rg (fi 0) 47 56 0 9) → (rg (fi 1) 0 940 (-128) 127) → (¬ ((fi 0) 1).toInt = 9) → ∀ (fik : Nat → Nat → Int32), ∀ (flk : Nat → Nat → Int64), ∀ (vik : Nat → Int32), ∀ (vlk : Nat → Int64), ∀ (uk : Int32), (∀ n m : Nat, (vi 2).toInt = (n : Int) → (vi 4).toInt = (m : Int) → (vi 3).toInt ≤ (vi 2).toInt → CC (trn (fi 1) n) n m ((vi 3).toInt).toNat (vi 2) (vi 4) (vik 4) (vik 1) (vik 0) (vlk 0) (vik 3) (vik 3)) → ((27 + ((fi 0) 1)).toInt = 27 + ((fi 0) 1).toInt) → ∀ (fik_1 : Nat → Nat → Int32), ∀ (flk_1 : Nat → Nat → Int64), ∀ (vik_1 : Nat → Int32), ∀ (vlk_1 : Nat → Int64), ∀ (rk_1 : Int32), (∀ n m t : Nat, CC (trn (fi 1) n) n m t (vi 2) (vi 4) (vik 4) (vik 1) (vik 0) (vlk 0) (vik 3) (vik 3) → (rk_1.toInt = 1 ∧ (fNew (trn (fi 1) n) n m (ownB (fl 0)) (gi (fi 0)) (fl 1) t) = 0 ∧ (wMay (trn (fi 1) n) n m (ownB (fl 0)) t) ∧ (flk_1 0) = vp_updL (fl 1) ((27 + ((fi 0) 1))).toNatClampNeg (sW (trn (fi 1) n) n m t) ∧ CC (trn (fi 1) n) n m (sX (trn (fi 1) n) n m t) (vi 2) (vi 4) (vik_1 6) (vik_1 3) (vik_1 2) (vlk_1 0) (vik_1 5) (vik_1 5)) ∨ (rk_1.toInt = 0 ∧ ¬ (fNew (trn (fi 1) n) n m (ownB (fl 0)) (gi (fi 0)) (fl 1) t) = 0 ∧ (vik_1 0).toInt = (fNew (trn (fi 1) n) n m (ownB (fl 0)) (gi (fi 0)) (fl 1) t) ∧ (vik_1 1).toInt = ((sPn (trn (fi 1) n) n m t) : Int))) → (rk_1.toInt = 1) → ((vik 4).toInt = 1 ∧ (vik 0).toInt ≤ (vik_1 2).toInt) → ((29 + ((fi 0) 1)).toInt = 29 + ((fi 0) 1).toInt) → ∀ (fik_2 : Nat → Nat → Int32), ∀ (flk_2 : Nat → Nat → Int64), ∀ (vik_2 : Nat → Int32), ∀ (vlk_2 : Nat → Int64), ∀ (rk_2 : Int32), (∀ n m t : Nat, CC (trn (fi 1) n) n m t (vi 2) (vi 4) (vik_1 6) (vik_1 3) (vik_1 2) (vlk_1 0) (vik_1 5) (vik_1 5) → (rk_2.toInt = 1 ∧ (fNum (trn (fi 1) n) n m (0 : Int) (999 : Int) t) = 0 ∧ ∃ v : Int32, v.toInt = (sU (trn (fi 1) n) n m t) ∧ (fik_2 0) = upd (fi 0) ((29 + ((fi 0) 1))).toNatClampNeg v ∧ (sK (trn (fi 1) n) n m t) = 2 ∧ (0 : Int) ≤ (sU (trn (fi 1) n) n m t) ∧ (sU (trn (fi 1) n) n m t) ≤ (999 : Int) ∧ CC (trn (fi 1) n) n m (sX (trn (fi 1) n) n m t) (vi 2) (vi 4) (vik_2 5) (vik_2 2) (vik_2 1) (vlk_2 0) (vik_2 4) (vik_2 4)) ∨ (rk_2.toInt = 0 ∧ ¬ (fNum (trn (fi 1) n) n m (0 : Int) (999 : Int) t) = 0 ∧ (vik_2 6).toInt = (fNum (trn (fi 1) n) n m (0 : Int) (999 : Int) t) ∧ (vik_2 7).toInt = ((sPn (trn (fi 1) n) n m t) : Int))) → (rk_2.toInt = 0) → (True) → (r = (0 : Int32)) → (fj 0 = (fik_2 0)) → (fm 0 = (flk_1 0)) → (vj 0 = (vik_2 1)) → (vj 1 = (vik_2 2)) → (vj 2 = (vik_2 3)) → (vj 3 = (vik_2 4)) → (vj 4 = (vik_2 5)) → (vj 5 = (vik_2 6)) → (vj 6 = (vik_2 7)) → (vj 7 = (vik_2 0)) → (vm 0 = (vlk_2 0)) → Q9
def RL_X12_readSoul_5 (fi : Nat → Nat → Int32) (fl : Nat → Nat → Int64) (vi : Nat → Int32) (vl : Nat → Int64) (r : Int32) (fj : Nat → Nat → Int32) (fm : Nat → Nat → Int64) (vj : Nat → Int32) (vm : Nat → Int64) (Q9 : Prop) : Prop :=
  (rg (fi 0) 0 1 0 9) → (rg (fi 0) 1 2 0 9) → (rg (fi 0) 38 47 0 9) → (rg (fi 0) 47 56 0 9) → (rg (fi 1) 0 940 (-128) 127) → (¬ ((fi 0) 1).toInt = 9) → ∀ (fik : Nat → Nat → Int32), ∀ (flk : Nat → Nat → Int64), ∀ (vik : Nat → Int32), ∀ (vlk : Nat → Int64), ∀ (uk : Int32), (∀ n m : Nat, (vi 2).toInt = (n : Int) → (vi 4).toInt = (m : Int) → (vi 3).toInt ≤ (vi 2).toInt → CC (trn (fi 1) n) n m ((vi 3).toInt).toNat (vi 2) (vi 4) (vik 4) (vik 1) (vik 0) (vlk 0) (vik 3) (vik 3)) → ((27 + ((fi 0) 1)).toInt = 27 + ((fi 0) 1).toInt) → ∀ (fik_1 : Nat → Nat → Int32), ∀ (flk_1 : Nat → Nat → Int64), ∀ (vik_1 : Nat → Int32), ∀ (vlk_1 : Nat → Int64), ∀ (rk_1 : Int32), (∀ n m t : Nat, CC (trn (fi 1) n) n m t (vi 2) (vi 4) (vik 4) (vik 1) (vik 0) (vlk 0) (vik 3) (vik 3) → (rk_1.toInt = 1 ∧ (fNew (trn (fi 1) n) n m (ownB (fl 0)) (gi (fi 0)) (fl 1) t) = 0 ∧ (wMay (trn (fi 1) n) n m (ownB (fl 0)) t) ∧ (flk_1 0) = vp_updL (fl 1) ((27 + ((fi 0) 1))).toNatClampNeg (sW (trn (fi 1) n) n m t) ∧ CC (trn (fi 1) n) n m (sX (trn (fi 1) n) n m t) (vi 2) (vi 4) (vik_1 6) (vik_1 3) (vik_1 2) (vlk_1 0) (vik_1 5) (vik_1 5)) ∨ (rk_1.toInt = 0 ∧ ¬ (fNew (trn (fi 1) n) n m (ownB (fl 0)) (gi (fi 0)) (fl 1) t) = 0 ∧ (vik_1 0).toInt = (fNew (trn (fi 1) n) n m (ownB (fl 0)) (gi (fi 0)) (fl 1) t) ∧ (vik_1 1).toInt = ((sPn (trn (fi 1) n) n m t) : Int))) → (rk_1.toInt = 0) → (True) → (r = (0 : Int32)) → (fj 0 = (fi 0)) → (fm 0 = (flk_1 0)) → (vj 0 = (vik_1 2)) → (vj 1 = (vik_1 3)) → (vj 2 = (vik_1 4)) → (vj 3 = (vik_1 5)) → (vj 4 = (vik_1 6)) → (vj 5 = (vik_1 0)) → (vj 6 = (vik_1 1)) → (vj 7 = (vi 11)) → (vm 0 = (vlk_1 0)) → Q9
def RL_X12_readSoul_6 (fi : Nat → Nat → Int32) (fl : Nat → Nat → Int64) (vi : Nat → Int32) (vl : Nat → Int64) (r : Int32) (fj : Nat → Nat → Int32) (fm : Nat → Nat → Int64) (vj : Nat → Int32) (vm : Nat → Int64) (Q9 : Prop) : Prop :=
  (rg (fi 0) 0 1 0 9) → (rg (fi 0) 1 2 0 9) → (rg (fi 0) 38 47 0 9) → (rg (fi 0) 47 56 0 9) → (rg (fi 1) 0 940 (-128) 127) → (((fi 0) 1).toInt = 9) → ∀ (fik_8 : Nat → Nat → Int32), ∀ (flk_8 : Nat → Nat → Int64), ∀ (vik_8 : Nat → Int32), ∀ (vlk_8 : Nat → Int64), ∀ (rk_8 : Int32), (rk_8 = 0) → ((vik_8 0).toInt = (4 : Int32).toInt ∧ (vik_8 1).toInt = (vi 6).toInt) → (r = (0 : Int32)) → (fj 0 = (fi 0)) → (fm 0 = (fl 1)) → (vj 0 = (vi 3)) → (vj 1 = (vi 6)) → (vj 2 = (vi 7)) → (vj 3 = (vi 8)) → (vj 4 = (vi 5)) → (vj 5 = (vik_8 0)) → (vj 6 = (vik_8 1)) → (vj 7 = (vi 11)) → (vm 0 = (vl 0)) → Q9
def R_X12_readSoul (fi : Nat → Nat → Int32) (fl : Nat → Nat → Int64) (vi : Nat → Int32) (vl : Nat → Int64) (r : Int32) (fj : Nat → Nat → Int32) (fm : Nat → Nat → Int64) (vj : Nat → Int32) (vm : Nat → Int64) : Prop :=
  ∀ Q9 : Prop, RL_X12_readSoul_0 fi fl vi vl r fj fm vj vm Q9 → RL_X12_readSoul_1 fi fl vi vl r fj fm vj vm Q9 → RL_X12_readSoul_2 fi fl vi vl r fj fm vj vm Q9 → RL_X12_readSoul_3 fi fl vi vl r fj fm vj vm Q9 → RL_X12_readSoul_4 fi fl vi vl r fj fm vj vm Q9 → RL_X12_readSoul_5 fi fl vi vl r fj fm vj vm Q9 → RL_X12_readSoul_6 fi fl vi vl r fj fm vj vm Q9 → Q9
def PS_X12_readSoul (fi : Nat → Nat → Int32) (fl : Nat → Nat → Int64) (vi : Nat → Int32) (vl : Nat → Int64) (r : Int32) (fj : Nat → Nat → Int32) (fm : Nat → Nat → Int64) (vj : Nat → Int32) (vm : Nat → Int64) : Prop :=
  ∀ n m t : Nat, CC (trn (fi 1) n) n m t (vi 2) (vi 4) (vi 5) (vi 6) (vi 3) (vl 0) (vi 8) (vi 8) → ∀ O : Nat → Bool, LO (lnSoul (trn (fi 1) n) n m (ownB (fl 0)) (gi (fi 0)) (fl 1) O t) r (vj 5) (vj 6) (fun t' H' N' O' => CC (trn (fi 1) n) n m t' (vi 2) (vi 4) (vj 4) (vj 1) (vj 0) (vm 0) (vj 3) (vj 3) ∧ gi (fj 0) = H' ∧ (fm 0) = N' ∧ O' = O)
set_option maxHeartbeats 4000000 in
theorem PL_X12_readSoul_0 {fi : Nat → Nat → Int32} {fl : Nat → Nat → Int64} {vi : Nat → Int32} {vl : Nat → Int64} {r : Int32} {fj : Nat → Nat → Int32} {fm : Nat → Nat → Int64} {vj : Nat → Int32} {vm : Nat → Int64} : RL_X12_readSoul_0 fi fl vi vl r fj fm vj vm (PS_X12_readSoul fi fl vi vl r fj fm vj vm) := by
  unfold RL_X12_readSoul_0
  intro hp14 hp15 hp16 hp17 hp18 c10 fik flk vik vlk uk gk_5 tt fik_1 flk_1 vik_1 vlk_1 rk_1 gk_1_7 tb_1 gk_1_0 tt_1 fik_2 flk_2 vik_2 vlk_2 rk_2 gk_2_11 tb_3 gk_2_0 tt_2 f60 ef60 fik_3 flk_3 vik_3 vlk_3 rk_3 gk_3_1 tb_5 gk_3_0 fik_4 flk_4 vik_4 vlk_4 uk_4 gk_4_5 fik_5 flk_5 vik_5 vlk_5 rk_5 gk_5_3 tb_7 gk_5_0 w2 wv wv_1 hi hi_1 hbo9 hff9 c96 tt_3 f143 ef143 fik_6 flk_6 vik_6 vlk_6 uk_6 gk_6_5 tt_4 f157 ef157 q0 q1 q2 q3 q4 q5 q6 q7 q8 q9 q10 q11; subst q0
  unfold PS_X12_readSoul
  intro n m t hc O
  (try simp only [q1, q2, q3, q4, q5, q6, q7, q8, q9, q10, q11]); have k9_0 : (0 : Int32).toInt = 0 := (by decide); have k9_1 : (1 : Int32).toInt = 1 := (by decide)
  have hc0 := hc
  obtain ⟨hn, hm, ht, ck, cp, ce, cw, cu, cg⟩ := hc0
  have hh9 := hp15 1 (by decide) (by decide)
  have hH9 : ¬ gi (fi 0) 1 = 9 := (by show ¬ ((fi 0) 1).toInt = 9; omega)
  have hc1 := CC_nx hc gk_5
  rcases gk_1_7 n m _ hc1 with ⟨b1, b2, b3, b4, b5⟩ | ⟨b1, b2, b3, b4⟩
  · rcases gk_2_11 n m _ b5 with ⟨c1, c2, v9, c3, c4, c5, c6, c7, c8⟩ | ⟨c1, c2, c3, c4⟩
    · have he0 := c8
      obtain ⟨en, em, et, ek, ep, ee, ew, eu, eg⟩ := he0
      have hN2 : (flk_1 0) = (setW (fl 1) (27 + (gi (fi 0) 1).toNat) (sW (trn (fi 1) n) n m (sX (trn (fi 1) n) n m t))) := by rw [b4, updL_W, show (27 + ((fi 0) 1)).toNatClampNeg = 27 + (gi (fi 0) 1).toNat from (show (27 + ((fi 0) 1)).toInt.toNat = 27 + ((fi 0) 1).toInt.toNat by omega)]
      rcases gk_3_1 with ⟨z1, z2, z3⟩ | ⟨z1, z2⟩
      · have hyes : isW (trn (fi 1) n) n m (sX (trn (fi 1) n) n m (sX (trn (fi 1) n) n m (sX (trn (fi 1) n) n m t))) 0x63616c6c6564 := ⟨ek.symm.trans z2, by rw [← ew (ek.symm.trans z2)]; exact z3⟩
        have hc2 := CC_nx c8 gk_4_5
        have hg2 : gi f60 = (setI (setI (gi (fi 0)) (29 + (gi (fi 0) 1).toNat) (sU (trn (fi 1) n) n m (sX (trn (fi 1) n) n m (sX (trn (fi 1) n) n m t)))) (38 + (gi (fi 0) 1).toNat) 0) := soul_38 hh9 (by omega) (by omega) c4 ef60 c3
        have e9 : lnSoul (trn (fi 1) n) n m (ownB (fl 0)) (gi (fi 0)) (fl 1) O t = lnCalled (trn (fi 1) n) n m (ownB (fl 0)) (setI (setI (gi (fi 0)) (29 + (gi (fi 0) 1).toNat) (sU (trn (fi 1) n) n m (sX (trn (fi 1) n) n m (sX (trn (fi 1) n) n m t)))) (38 + (gi (fi 0) 1).toNat) 0) (setW (fl 1) (27 + (gi (fi 0) 1).toNat) (sW (trn (fi 1) n) n m (sX (trn (fi 1) n) n m t))) O (gi (fi 0) 1).toNat (sX (trn (fi 1) n) n m (sX (trn (fi 1) n) n m (sX (trn (fi 1) n) n m (sX (trn (fi 1) n) n m t)))) := by unfold lnSoul; rw [if_neg hH9, if_neg (fun c => c b2), if_neg (fun c => c c2), if_pos hyes]
        rw [e9]
        have e0 : (f60 0).toInt = (setI (setI (gi (fi 0)) (29 + (gi (fi 0) 1).toNat) (sU (trn (fi 1) n) n m (sX (trn (fi 1) n) n m (sX (trn (fi 1) n) n m t)))) (38 + (gi (fi 0) 1).toNat) 0) 0 := congrFun hg2 0
        have e38 : ∀ q : Nat, (f60 (38 + q)).toInt = (setI (setI (gi (fi 0)) (29 + (gi (fi 0) 1).toNat) (sU (trn (fi 1) n) n m (sX (trn (fi 1) n) n m (sX (trn (fi 1) n) n m t)))) (38 + (gi (fi 0) 1).toNat) 0) (38 + q) := fun q => congrFun hg2 (38 + q)
        have hl9 := gk_5_3 (trn (fi 1) n) n m _ hc2
        rw [hN2, e0, show (18 : Int).toNat = 18 from rfl] at hl9
        rcases hl9 with ⟨d1, d2, d3, d4⟩ | ⟨d1, d2, d3, d4⟩
        · have hb : ¬ borne (setI (setI (gi (fi 0)) (29 + (gi (fi 0) 1).toNat) (sU (trn (fi 1) n) n m (sX (trn (fi 1) n) n m (sX (trn (fi 1) n) n m t)))) (38 + (gi (fi 0) 1).toNat) 0) (fdx (setW (fl 1) (27 + (gi (fi 0) 1).toNat) (sW (trn (fi 1) n) n m (sX (trn (fi 1) n) n m t))) 18 (sW (trn (fi 1) n) n m (sX (trn (fi 1) n) n m (sX (trn (fi 1) n) n m (sX (trn (fi 1) n) n m (sX (trn (fi 1) n) n m t))))) ((setI (setI (gi (fi 0)) (29 + (gi (fi 0) 1).toNat) (sU (trn (fi 1) n) n m (sX (trn (fi 1) n) n m (sX (trn (fi 1) n) n m t)))) (38 + (gi (fi 0) 1).toNat) 0) 0).toNat) (gi (fi 0) 1).toNat = true := (fun c => by
            obtain ⟨j, v2, v3⟩ := (borne_t _).mp c
            have v4 : ((fi 0) 1).toInt.toNat = (gi (fi 0) 1).toNat := rfl
            exact hbo9 j (by omega) (by rw [e38 j, v3, d4]))
          have hc3 := CC_nx hc2 gk_6_5
          exact LO_good (by unfold lnCalled; rw [if_neg (fun c => c d2), if_neg hb]) (by decide) ⟨hc3, gi_soul1 hh9 (by omega) (by omega) c4 ef60 ef143 ef157 c3 (by rw [← d4]; omega) (by omega), hN2, rfl⟩
        · exact absurd (d1.symm.trans tb_7) (by decide)
      · exact absurd (z1.symm.trans tb_5) (by decide)
    · exact absurd (c1.symm.trans tb_3) (by decide)
  · exact absurd (b1.symm.trans tb_1) (by decide)
set_option maxHeartbeats 4000000 in
theorem PL_X12_readSoul_1 {fi : Nat → Nat → Int32} {fl : Nat → Nat → Int64} {vi : Nat → Int32} {vl : Nat → Int64} {r : Int32} {fj : Nat → Nat → Int32} {fm : Nat → Nat → Int64} {vj : Nat → Int32} {vm : Nat → Int64} : RL_X12_readSoul_1 fi fl vi vl r fj fm vj vm (PS_X12_readSoul fi fl vi vl r fj fm vj vm) := by
  unfold RL_X12_readSoul_1
  intro hp14 hp15 hp16 hp17 hp18 c10 fik flk vik vlk uk gk_5 tt fik_1 flk_1 vik_1 vlk_1 rk_1 gk_1_7 tb_1 gk_1_0 tt_1 fik_2 flk_2 vik_2 vlk_2 rk_2 gk_2_11 tb_3 gk_2_0 tt_2 f60 ef60 fik_3 flk_3 vik_3 vlk_3 rk_3 gk_3_1 tb_5 gk_3_0 fik_4 flk_4 vik_4 vlk_4 uk_4 gk_4_5 fik_5 flk_5 vik_5 vlk_5 rk_5 gk_5_3 tb_7 gk_5_0 w2 wv wv_1 hi hi_1 hbo9 hff9 c96 tt_5 tt_6 c114 fik_7 flk_7 vik_7 vlk_7 rk_7 gk_7_0 gk_7_2 q0 q1 q2 q3 q4 q5 q6 q7 q8 q9 q10 q11; subst q0
  unfold PS_X12_readSoul
  intro n m t hc O
  (try simp only [q1, q2, q3, q4, q5, q6, q7, q8, q9, q10, q11]); have k9_0 : (0 : Int32).toInt = 0 := (by decide); have k9_1 : (1 : Int32).toInt = 1 := (by decide); have k9_2 : (3 : Int32).toInt = 3 := (by decide)
  have hc0 := hc
  obtain ⟨hn, hm, ht, ck, cp, ce, cw, cu, cg⟩ := hc0
  have hh9 := hp15 1 (by decide) (by decide)
  have hH9 : ¬ gi (fi 0) 1 = 9 := (by show ¬ ((fi 0) 1).toInt = 9; omega)
  have hc1 := CC_nx hc gk_5
  rcases gk_1_7 n m _ hc1 with ⟨b1, b2, b3, b4, b5⟩ | ⟨b1, b2, b3, b4⟩
  · rcases gk_2_11 n m _ b5 with ⟨c1, c2, v9, c3, c4, c5, c6, c7, c8⟩ | ⟨c1, c2, c3, c4⟩
    · have he0 := c8
      obtain ⟨en, em, et, ek, ep, ee, ew, eu, eg⟩ := he0
      have hN2 : (flk_1 0) = (setW (fl 1) (27 + (gi (fi 0) 1).toNat) (sW (trn (fi 1) n) n m (sX (trn (fi 1) n) n m t))) := by rw [b4, updL_W, show (27 + ((fi 0) 1)).toNatClampNeg = 27 + (gi (fi 0) 1).toNat from (show (27 + ((fi 0) 1)).toInt.toNat = 27 + ((fi 0) 1).toInt.toNat by omega)]
      rcases gk_3_1 with ⟨z1, z2, z3⟩ | ⟨z1, z2⟩
      · have hyes : isW (trn (fi 1) n) n m (sX (trn (fi 1) n) n m (sX (trn (fi 1) n) n m (sX (trn (fi 1) n) n m t))) 0x63616c6c6564 := ⟨ek.symm.trans z2, by rw [← ew (ek.symm.trans z2)]; exact z3⟩
        have hc2 := CC_nx c8 gk_4_5
        have hg2 : gi f60 = (setI (setI (gi (fi 0)) (29 + (gi (fi 0) 1).toNat) (sU (trn (fi 1) n) n m (sX (trn (fi 1) n) n m (sX (trn (fi 1) n) n m t)))) (38 + (gi (fi 0) 1).toNat) 0) := soul_38 hh9 (by omega) (by omega) c4 ef60 c3
        have e9 : lnSoul (trn (fi 1) n) n m (ownB (fl 0)) (gi (fi 0)) (fl 1) O t = lnCalled (trn (fi 1) n) n m (ownB (fl 0)) (setI (setI (gi (fi 0)) (29 + (gi (fi 0) 1).toNat) (sU (trn (fi 1) n) n m (sX (trn (fi 1) n) n m (sX (trn (fi 1) n) n m t)))) (38 + (gi (fi 0) 1).toNat) 0) (setW (fl 1) (27 + (gi (fi 0) 1).toNat) (sW (trn (fi 1) n) n m (sX (trn (fi 1) n) n m t))) O (gi (fi 0) 1).toNat (sX (trn (fi 1) n) n m (sX (trn (fi 1) n) n m (sX (trn (fi 1) n) n m (sX (trn (fi 1) n) n m t)))) := by unfold lnSoul; rw [if_neg hH9, if_neg (fun c => c b2), if_neg (fun c => c c2), if_pos hyes]
        rw [e9]
        have e0 : (f60 0).toInt = (setI (setI (gi (fi 0)) (29 + (gi (fi 0) 1).toNat) (sU (trn (fi 1) n) n m (sX (trn (fi 1) n) n m (sX (trn (fi 1) n) n m t)))) (38 + (gi (fi 0) 1).toNat) 0) 0 := congrFun hg2 0
        have e38 : ∀ q : Nat, (f60 (38 + q)).toInt = (setI (setI (gi (fi 0)) (29 + (gi (fi 0) 1).toNat) (sU (trn (fi 1) n) n m (sX (trn (fi 1) n) n m (sX (trn (fi 1) n) n m t)))) (38 + (gi (fi 0) 1).toNat) 0) (38 + q) := fun q => congrFun hg2 (38 + q)
        have hl9 := gk_5_3 (trn (fi 1) n) n m _ hc2
        rw [hN2, e0, show (18 : Int).toNat = 18 from rfl] at hl9
        rcases hl9 with ⟨d1, d2, d3, d4⟩ | ⟨d1, d2, d3, d4⟩
        · have v4 : ((fi 0) 1).toInt.toNat = (gi (fi 0) 1).toNat := rfl
          have hb : borne (setI (setI (gi (fi 0)) (29 + (gi (fi 0) 1).toNat) (sU (trn (fi 1) n) n m (sX (trn (fi 1) n) n m (sX (trn (fi 1) n) n m t)))) (38 + (gi (fi 0) 1).toNat) 0) (fdx (setW (fl 1) (27 + (gi (fi 0) 1).toNat) (sW (trn (fi 1) n) n m (sX (trn (fi 1) n) n m t))) 18 (sW (trn (fi 1) n) n m (sX (trn (fi 1) n) n m (sX (trn (fi 1) n) n m (sX (trn (fi 1) n) n m (sX (trn (fi 1) n) n m t))))) ((setI (setI (gi (fi 0)) (29 + (gi (fi 0) 1).toNat) (sU (trn (fi 1) n) n m (sX (trn (fi 1) n) n m (sX (trn (fi 1) n) n m t)))) (38 + (gi (fi 0) 1).toNat) 0) 0).toNat) (gi (fi 0) 1).toNat = true := (borne_t _).mpr ⟨w2.toInt.toNat, by omega, by rw [← e38, show 38 + w2.toInt.toNat = (38 + w2).toNatClampNeg from (show _ = (38 + w2).toInt.toNat by omega)]; omega⟩
          exact LO_bad (by unfold lnCalled; rw [if_neg (fun c => c d2), if_pos hb]) (by decide) (by omega) (by have h8 := hc2.2.2.2.2.1; omega)
        · exact absurd (d1.symm.trans tb_7) (by decide)
      · exact absurd (z1.symm.trans tb_5) (by decide)
    · exact absurd (c1.symm.trans tb_3) (by decide)
  · exact absurd (b1.symm.trans tb_1) (by decide)
set_option maxHeartbeats 4000000 in
theorem PL_X12_readSoul_2 {fi : Nat → Nat → Int32} {fl : Nat → Nat → Int64} {vi : Nat → Int32} {vl : Nat → Int64} {r : Int32} {fj : Nat → Nat → Int32} {fm : Nat → Nat → Int64} {vj : Nat → Int32} {vm : Nat → Int64} : RL_X12_readSoul_2 fi fl vi vl r fj fm vj vm (PS_X12_readSoul fi fl vi vl r fj fm vj vm) := by
  unfold RL_X12_readSoul_2
  intro hp14 hp15 hp16 hp17 hp18 c10 fik flk vik vlk uk gk_5 tt fik_1 flk_1 vik_1 vlk_1 rk_1 gk_1_7 tb_1 gk_1_0 tt_1 fik_2 flk_2 vik_2 vlk_2 rk_2 gk_2_11 tb_3 gk_2_0 tt_2 f60 ef60 fik_3 flk_3 vik_3 vlk_3 rk_3 gk_3_1 tb_5 gk_3_0 fik_4 flk_4 vik_4 vlk_4 uk_4 gk_4_5 fik_5 flk_5 vik_5 vlk_5 rk_5 gk_5_3 tb_7 gk_5_0 q0 q1 q2 q3 q4 q5 q6 q7 q8 q9 q10 q11; subst q0
  unfold PS_X12_readSoul
  intro n m t hc O
  (try simp only [q1, q2, q3, q4, q5, q6, q7, q8, q9, q10, q11]); have k9_0 : (0 : Int32).toInt = 0 := (by decide); have k9_1 : (1 : Int32).toInt = 1 := (by decide)
  have hc0 := hc
  obtain ⟨hn, hm, ht, ck, cp, ce, cw, cu, cg⟩ := hc0
  have hh9 := hp15 1 (by decide) (by decide)
  have hH9 : ¬ gi (fi 0) 1 = 9 := (by show ¬ ((fi 0) 1).toInt = 9; omega)
  have hc1 := CC_nx hc gk_5
  rcases gk_1_7 n m _ hc1 with ⟨b1, b2, b3, b4, b5⟩ | ⟨b1, b2, b3, b4⟩
  · rcases gk_2_11 n m _ b5 with ⟨c1, c2, v9, c3, c4, c5, c6, c7, c8⟩ | ⟨c1, c2, c3, c4⟩
    · have he0 := c8
      obtain ⟨en, em, et, ek, ep, ee, ew, eu, eg⟩ := he0
      have hN2 : (flk_1 0) = (setW (fl 1) (27 + (gi (fi 0) 1).toNat) (sW (trn (fi 1) n) n m (sX (trn (fi 1) n) n m t))) := by rw [b4, updL_W, show (27 + ((fi 0) 1)).toNatClampNeg = 27 + (gi (fi 0) 1).toNat from (show (27 + ((fi 0) 1)).toInt.toNat = 27 + ((fi 0) 1).toInt.toNat by omega)]
      rcases gk_3_1 with ⟨z1, z2, z3⟩ | ⟨z1, z2⟩
      · have hyes : isW (trn (fi 1) n) n m (sX (trn (fi 1) n) n m (sX (trn (fi 1) n) n m (sX (trn (fi 1) n) n m t))) 0x63616c6c6564 := ⟨ek.symm.trans z2, by rw [← ew (ek.symm.trans z2)]; exact z3⟩
        have hc2 := CC_nx c8 gk_4_5
        have hg2 : gi f60 = (setI (setI (gi (fi 0)) (29 + (gi (fi 0) 1).toNat) (sU (trn (fi 1) n) n m (sX (trn (fi 1) n) n m (sX (trn (fi 1) n) n m t)))) (38 + (gi (fi 0) 1).toNat) 0) := soul_38 hh9 (by omega) (by omega) c4 ef60 c3
        have e9 : lnSoul (trn (fi 1) n) n m (ownB (fl 0)) (gi (fi 0)) (fl 1) O t = lnCalled (trn (fi 1) n) n m (ownB (fl 0)) (setI (setI (gi (fi 0)) (29 + (gi (fi 0) 1).toNat) (sU (trn (fi 1) n) n m (sX (trn (fi 1) n) n m (sX (trn (fi 1) n) n m t)))) (38 + (gi (fi 0) 1).toNat) 0) (setW (fl 1) (27 + (gi (fi 0) 1).toNat) (sW (trn (fi 1) n) n m (sX (trn (fi 1) n) n m t))) O (gi (fi 0) 1).toNat (sX (trn (fi 1) n) n m (sX (trn (fi 1) n) n m (sX (trn (fi 1) n) n m (sX (trn (fi 1) n) n m t)))) := by unfold lnSoul; rw [if_neg hH9, if_neg (fun c => c b2), if_neg (fun c => c c2), if_pos hyes]
        rw [e9]
        have e0 : (f60 0).toInt = (setI (setI (gi (fi 0)) (29 + (gi (fi 0) 1).toNat) (sU (trn (fi 1) n) n m (sX (trn (fi 1) n) n m (sX (trn (fi 1) n) n m t)))) (38 + (gi (fi 0) 1).toNat) 0) 0 := congrFun hg2 0
        have e38 : ∀ q : Nat, (f60 (38 + q)).toInt = (setI (setI (gi (fi 0)) (29 + (gi (fi 0) 1).toNat) (sU (trn (fi 1) n) n m (sX (trn (fi 1) n) n m (sX (trn (fi 1) n) n m t)))) (38 + (gi (fi 0) 1).toNat) 0) (38 + q) := fun q => congrFun hg2 (38 + q)
        have hl9 := gk_5_3 (trn (fi 1) n) n m _ hc2
        rw [hN2, e0, show (18 : Int).toNat = 18 from rfl] at hl9
        rcases hl9 with ⟨d1, d2, d3, d4⟩ | ⟨d1, d2, d3, d4⟩
        · exact absurd (d1.symm.trans tb_7) (by decide)
        · exact LO_bad (by unfold lnCalled; rw [if_pos d2]) (by decide) d3 d4
      · exact absurd (z1.symm.trans tb_5) (by decide)
    · exact absurd (c1.symm.trans tb_3) (by decide)
  · exact absurd (b1.symm.trans tb_1) (by decide)
