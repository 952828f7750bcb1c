set_option maxHeartbeats 4000000 in
theorem PL_X5_leafAhead_7 {fi : Nat → Nat → Int32} {fl : Nat → Nat → Int64} {vi : Nat → Int32} {vl : Nat → Int64} {r : Int32} {fj : Nat → Nat → Int32} {fm : Nat → Nat → Int64} {vj : Nat → Int32} {vm : Nat → Int64} : RL_X5_leafAhead_7 fi fl vi vl r fj fm vj vm (PS_X5_leafAhead fi fl vi vl r fj fm vj vm) := by
  unfold RL_X5_leafAhead_7
  intro hp0 hp1 hp2 hp3 hp4 hp5 hp6 fik flk vik vlk rk gk_1 tb gk_0 fik_1 flk_1 vik_1 vlk_1 rk_1 gk_1_1 tb_1 gk_1_0 fik_2 flk_2 vik_2 vlk_2 rk_2 gk_2_1 tb_2 gk_2_0 fik_3 flk_3 vik_3 vlk_3 rk_3 gk_3_1 tb_3 gk_3_0 fik_4 flk_4 vik_4 vlk_4 rk_4 gk_4_1 tb_4 gk_4_0 fik_5 flk_5 vik_5 vlk_5 rk_5 gk_5_1 tb_5 gk_5_0 fik_6 flk_6 vik_6 vlk_6 rk_6 gk_6_1 tb_6 gk_6_0 fik_7 flk_7 vik_7 vlk_7 rk_7 gk_7_1 tb_7 gk_7_0 q0; subst q0
  unfold PS_X5_leafAhead
  intro n m t hc
  skip; have k9_0 : (0 : Int32).toInt = 0 := (by decide); have k9_1 : (1 : Int32).toInt = 1 := (by decide); have k9_2 : (10 : Int32).toInt = 10 := (by decide)
  have hc0 := hc
  obtain ⟨hn, hm, ht, ck, cp, ce, cw, cu, cg⟩ := hc0
  have n_alive : ¬ isW (trn (fi 0) n) n m t 418430678629 := by
    rcases gk_1 with ⟨z1, z2, z3⟩ | ⟨z1, z2⟩
    · exact absurd (z1.symm.trans tb) (by decide)
    · exact fun c => z2 ⟨ck.trans c.1, by rw [cw c.1]; exact c.2⟩
  have n_waits : ¬ isW (trn (fi 0) n) n m t 512735409267 := by
    rcases gk_1_1 with ⟨z1, z2, z3⟩ | ⟨z1, z2⟩
    · exact absurd (z1.symm.trans tb_1) (by decide)
    · exact fun c => z2 ⟨ck.trans c.1, by rw [cw c.1]; exact c.2⟩
  have n_fled : ¬ isW (trn (fi 0) n) n m t 1718379876 := by
    rcases gk_3_1 with ⟨z1, z2, z3⟩ | ⟨z1, z2⟩
    · exact absurd (z1.symm.trans tb_3) (by decide)
    · exact fun c => z2 ⟨ck.trans c.1, by rw [cw c.1]; exact c.2⟩
  have n_glad : ¬ isW (trn (fi 0) n) n m t 1735156068 := by
    rcases gk_4_1 with ⟨z1, z2, z3⟩ | ⟨z1, z2⟩
    · exact absurd (z1.symm.trans tb_4) (by decide)
    · exact fun c => z2 ⟨ck.trans c.1, by rw [cw c.1]; exact c.2⟩
  have n_called : ¬ isW (trn (fi 0) n) n m t 109270082020708 := by
    rcases gk_2_1 with ⟨z1, z2, z3⟩ | ⟨z1, z2⟩
    · exact absurd (z1.symm.trans tb_2) (by decide)
    · exact fun c => z2 ⟨ck.trans c.1, by rw [cw c.1]; exact c.2⟩
  have n_purse : ¬ isW (trn (fi 0) n) n m t 483006772069 := by
    rcases gk_5_1 with ⟨z1, z2, z3⟩ | ⟨z1, z2⟩
    · exact absurd (z1.symm.trans tb_5) (by decide)
    · exact fun c => z2 ⟨ck.trans c.1, by rw [cw c.1]; exact c.2⟩
  have n_owes : ¬ isW (trn (fi 0) n) n m t 1870095731 := by
    rcases gk_6_1 with ⟨z1, z2, z3⟩ | ⟨z1, z2⟩
    · exact absurd (z1.symm.trans tb_6) (by decide)
    · exact fun c => z2 ⟨ck.trans c.1, by rw [cw c.1]; exact c.2⟩
  have y_feasts : isW (trn (fi 0) n) n m t 112585612686451 := by
    rcases gk_7_1 with ⟨z1, z2, z3⟩ | ⟨z1, z2⟩
    · exact ⟨ck.symm.trans z2, by rw [← cw (ck.symm.trans z2)]; exact z3⟩
    · exact absurd (z1.symm.trans tb_7) (by decide)
  have e9 : lfi (trn (fi 0) n) n m t = 7 := by unfold lfi; rw [if_neg n_alive, if_neg n_waits, if_neg n_fled, if_neg n_glad, if_neg n_called, if_neg n_purse, if_neg n_owes, if_pos y_feasts]
  rw [e9]
  unfold LFR
  omega
set_option maxHeartbeats 4000000 in
theorem PL_X5_leafAhead_8 {fi : Nat → Nat → Int32} {fl : Nat → Nat → Int64} {vi : Nat → Int32} {vl : Nat → Int64} {r : Int32} {fj : Nat → Nat → Int32} {fm : Nat → Nat → Int64} {vj : Nat → Int32} {vm : Nat → Int64} : RL_X5_leafAhead_8 fi fl vi vl r fj fm vj vm (PS_X5_leafAhead fi fl vi vl r fj fm vj vm) := by
  unfold RL_X5_leafAhead_8
  intro hp0 hp1 hp2 hp3 hp4 hp5 hp6 fik flk vik vlk rk gk_1 tb gk_0 fik_1 flk_1 vik_1 vlk_1 rk_1 gk_1_1 tb_1 gk_1_0 fik_2 flk_2 vik_2 vlk_2 rk_2 gk_2_1 tb_2 gk_2_0 fik_3 flk_3 vik_3 vlk_3 rk_3 gk_3_1 tb_3 gk_3_0 fik_4 flk_4 vik_4 vlk_4 rk_4 gk_4_1 tb_4 gk_4_0 fik_5 flk_5 vik_5 vlk_5 rk_5 gk_5_1 tb_5 gk_5_0 fik_6 flk_6 vik_6 vlk_6 rk_6 gk_6_1 tb_6 gk_6_0 fik_7 flk_7 vik_7 vlk_7 rk_7 gk_7_1 tb_7 gk_7_0 fik_8 flk_8 vik_8 vlk_8 rk_8 gk_8_1 tb_8 gk_8_0 q0; subst q0
  unfold PS_X5_leafAhead
  intro n m t hc
  skip; have k9_0 : (0 : Int32).toInt = 0 := (by decide); have k9_1 : (1 : Int32).toInt = 1 := (by decide); have k9_2 : (11 : Int32).toInt = 11 := (by decide)
  have hc0 := hc
  obtain ⟨hn, hm, ht, ck, cp, ce, cw, cu, cg⟩ := hc0
  have n_alive : ¬ isW (trn (fi 0) n) n m t 418430678629 := by
    rcases gk_1 with ⟨z1, z2, z3⟩ | ⟨z1, z2⟩
    · exact absurd (z1.symm.trans tb) (by decide)
    · exact fun c => z2 ⟨ck.trans c.1, by rw [cw c.1]; exact c.2⟩
  have n_waits : ¬ isW (trn (fi 0) n) n m t 512735409267 := by
    rcases gk_1_1 with ⟨z1, z2, z3⟩ | ⟨z1, z2⟩
    · exact absurd (z1.symm.trans tb_1) (by decide)
    · exact fun c => z2 ⟨ck.trans c.1, by rw [cw c.1]; exact c.2⟩
  have n_fled : ¬ isW (trn (fi 0) n) n m t 1718379876 := by
    rcases gk_3_1 with ⟨z1, z2, z3⟩ | ⟨z1, z2⟩
    · exact absurd (z1.symm.trans tb_3) (by decide)
    · exact fun c => z2 ⟨ck.trans c.1, by rw [cw c.1]; exact c.2⟩
  have n_glad : ¬ isW (trn (fi 0) n) n m t 1735156068 := by
    rcases gk_4_1 with ⟨z1, z2, z3⟩ | ⟨z1, z2⟩
    · exact absurd (z1.symm.trans tb_4) (by decide)
    · exact fun c => z2 ⟨ck.trans c.1, by rw [cw c.1]; exact c.2⟩
  have n_called : ¬ isW (trn (fi 0) n) n m t 109270082020708 := by
    rcases gk_2_1 with ⟨z1, z2, z3⟩ | ⟨z1, z2⟩
    · exact absurd (z1.symm.trans tb_2) (by decide)
    · exact fun c => z2 ⟨ck.trans c.1, by rw [cw c.1]; exact c.2⟩
  have n_purse : ¬ isW (trn (fi 0) n) n m t 483006772069 := by
    rcases gk_5_1 with ⟨z1, z2, z3⟩ | ⟨z1, z2⟩
    · exact absurd (z1.symm.trans tb_5) (by decide)
    · exact fun c => z2 ⟨ck.trans c.1, by rw [cw c.1]; exact c.2⟩
  have n_owes : ¬ isW (trn (fi 0) n) n m t 1870095731 := by
    rcases gk_6_1 with ⟨z1, z2, z3⟩ | ⟨z1, z2⟩
    · exact absurd (z1.symm.trans tb_6) (by decide)
    · exact fun c => z2 ⟨ck.trans c.1, by rw [cw c.1]; exact c.2⟩
  have n_feasts : ¬ isW (trn (fi 0) n) n m t 112585612686451 := by
    rcases gk_7_1 with ⟨z1, z2, z3⟩ | ⟨z1, z2⟩
    · exact absurd (z1.symm.trans tb_7) (by decide)
    · exact fun c => z2 ⟨ck.trans c.1, by rw [cw c.1]; exact c.2⟩
  have y_number : isW (trn (fi 0) n) n m t 121450625394034 := by
    rcases gk_8_1 with ⟨z1, z2, z3⟩ | ⟨z1, z2⟩
    · exact ⟨ck.symm.trans z2, by rw [← cw (ck.symm.trans z2)]; exact z3⟩
    · exact absurd (z1.symm.trans tb_8) (by decide)
  have e9 : lfi (trn (fi 0) n) n m t = 8 := by unfold lfi; rw [if_neg n_alive, if_neg n_waits, if_neg n_fled, if_neg n_glad, if_neg n_called, if_neg n_purse, if_neg n_owes, if_neg n_feasts, if_pos y_number]
  rw [e9]
  unfold LFR
  omega
set_option maxHeartbeats 4000000 in
theorem PL_X5_leafAhead_9 {fi : Nat → Nat → Int32} {fl : Nat → Nat → Int64} {vi : Nat → Int32} {vl : Nat → Int64} {r : Int32} {fj : Nat → Nat → Int32} {fm : Nat → Nat → Int64} {vj : Nat → Int32} {vm : Nat → Int64} : RL_X5_leafAhead_9 fi fl vi vl r fj fm vj vm (PS_X5_leafAhead fi fl vi vl r fj fm vj vm) := by
  unfold RL_X5_leafAhead_9
  intro hp0 hp1 hp2 hp3 hp4 hp5 hp6 fik flk vik vlk rk gk_1 tb gk_0 fik_1 flk_1 vik_1 vlk_1 rk_1 gk_1_1 tb_1 gk_1_0 fik_2 flk_2 vik_2 vlk_2 rk_2 gk_2_1 tb_2 gk_2_0 fik_3 flk_3 vik_3 vlk_3 rk_3 gk_3_1 tb_3 gk_3_0 fik_4 flk_4 vik_4 vlk_4 rk_4 gk_4_1 tb_4 gk_4_0 fik_5 flk_5 vik_5 vlk_5 rk_5 gk_5_1 tb_5 gk_5_0 fik_6 flk_6 vik_6 vlk_6 rk_6 gk_6_1 tb_6 gk_6_0 fik_7 flk_7 vik_7 vlk_7 rk_7 gk_7_1 tb_7 gk_7_0 fik_8 flk_8 vik_8 vlk_8 rk_8 gk_8_1 tb_8 gk_8_0 q0; subst q0
  unfold PS_X5_leafAhead
  intro n m t hc
  skip; have k9_0 : ((-1) : Int32).toInt = (-1) := (by decide); have k9_1 : (0 : Int32).toInt = 0 := (by decide); have k9_2 : (1 : Int32).toInt = 1 := (by decide)
  have hc0 := hc
  obtain ⟨hn, hm, ht, ck, cp, ce, cw, cu, cg⟩ := hc0
  have n_alive : ¬ isW (trn (fi 0) n) n m t 418430678629 := by
    rcases gk_1 with ⟨z1, z2, z3⟩ | ⟨z1, z2⟩
    · exact absurd (z1.symm.trans tb) (by decide)
    · exact fun c => z2 ⟨ck.trans c.1, by rw [cw c.1]; exact c.2⟩
  have n_waits : ¬ isW (trn (fi 0) n) n m t 512735409267 := by
    rcases gk_1_1 with ⟨z1, z2, z3⟩ | ⟨z1, z2⟩
    · exact absurd (z1.symm.trans tb_1) (by decide)
    · exact fun c => z2 ⟨ck.trans c.1, by rw [cw c.1]; exact c.2⟩
  have n_fled : ¬ isW (trn (fi 0) n) n m t 1718379876 := by
    rcases gk_3_1 with ⟨z1, z2, z3⟩ | ⟨z1, z2⟩
    · exact absurd (z1.symm.trans tb_3) (by decide)
    · exact fun c => z2 ⟨ck.trans c.1, by rw [cw c.1]; exact c.2⟩
  have n_glad : ¬ isW (trn (fi 0) n) n m t 1735156068 := by
    rcases gk_4_1 with ⟨z1, z2, z3⟩ | ⟨z1, z2⟩
    · exact absurd (z1.symm.trans tb_4) (by decide)
    · exact fun c => z2 ⟨ck.trans c.1, by rw [cw c.1]; exact c.2⟩
  have n_called : ¬ isW (trn (fi 0) n) n m t 109270082020708 := by
    rcases gk_2_1 with ⟨z1, z2, z3⟩ | ⟨z1, z2⟩
    · exact absurd (z1.symm.trans tb_2) (by decide)
    · exact fun c => z2 ⟨ck.trans c.1, by rw [cw c.1]; exact c.2⟩
  have n_purse : ¬ isW (trn (fi 0) n) n m t 483006772069 := by
    rcases gk_5_1 with ⟨z1, z2, z3⟩ | ⟨z1, z2⟩
    · exact absurd (z1.symm.trans tb_5) (by decide)
    · exact fun c => z2 ⟨ck.trans c.1, by rw [cw c.1]; exact c.2⟩
  have n_owes : ¬ isW (trn (fi 0) n) n m t 1870095731 := by
    rcases gk_6_1 with ⟨z1, z2, z3⟩ | ⟨z1, z2⟩
    · exact absurd (z1.symm.trans tb_6) (by decide)
    · exact fun c => z2 ⟨ck.trans c.1, by rw [cw c.1]; exact c.2⟩
  have n_feasts : ¬ isW (trn (fi 0) n) n m t 112585612686451 := by
    rcases gk_7_1 with ⟨z1, z2, z3⟩ | ⟨z1, z2⟩
    · exact absurd (z1.symm.trans tb_7) (by decide)
    · exact fun c => z2 ⟨ck.trans c.1, by rw [cw c.1]; exact c.2⟩
  have n_number : ¬ isW (trn (fi 0) n) n m t 121450625394034 := by
    rcases gk_8_1 with ⟨z1, z2, z3⟩ | ⟨z1, z2⟩
    · exact absurd (z1.symm.trans tb_8) (by decide)
    · exact fun c => z2 ⟨ck.trans c.1, by rw [cw c.1]; exact c.2⟩
  have e9 : lfi (trn (fi 0) n) n m t = -1 := by unfold lfi; rw [if_neg n_alive, if_neg n_waits, if_neg n_fled, if_neg n_glad, if_neg n_called, if_neg n_purse, if_neg n_owes, if_neg n_feasts, if_neg n_number]
  rw [e9]
  unfold LFR
  omega
theorem P_X5_leafAhead {fi : Nat → Nat → Int32} {fl : Nat → Nat → Int64} {vi : Nat → Int32} {vl : Nat → Int64} {r : Int32} {fj : Nat → Nat → Int32} {fm : Nat → Nat → Int64} {vj : Nat → Int32} {vm : Nat → Int64} (h : R_X5_leafAhead fi fl vi vl r fj fm vj vm) : ∀ n m t : Nat, CC (trn (fi 0) n) n m t (vi 3) (vi 4) (vi 6) (vi 7) (vi 5) (vl 0) (vi 8) (vi 9) → LFR r.toInt (lfi (trn (fi 0) n) n m t) := h (PS_X5_leafAhead fi fl vi vl r fj fm vj vm) PL_X5_leafAhead_0 PL_X5_leafAhead_1 PL_X5_leafAhead_2 PL_X5_leafAhead_3 PL_X5_leafAhead_4 PL_X5_leafAhead_5 PL_X5_leafAhead_6 PL_X5_leafAhead_7 PL_X5_leafAhead_8 PL_X5_leafAhead_9
def RL_J1_charAt_3b067_18_0 (fi : Nat → Nat → Int32) (fl : Nat → Nat → Int64) (vi : Nat → Int32) (vl : Nat → Int64) (r : Int32) (fj : Nat → Nat → Int32) (fm : Nat → Nat → Int64) (vj : Nat → Int32) (vm : Nat → Int64) (Q9 : Prop) : Prop :=
  (0 ≤ (vi 0).toInt ∧ (vi 0).toInt ≤ 2) → ∀ (fik : Nat → Nat → Int32), ∀ (flk : Nat → Nat → Int64), ∀ (vik : Nat → Int32), ∀ (vlk : Nat → Int64), ∀ (uk : Int32), ∀ (z8 : Int32), (z8 = (sBy.getD 28 []).getD (vi 0).toNatClampNeg 0) → ∀ (z12 : Int32), (z12 = z8 &&& (255 : Int32)) → ∀ (z13 : Int32), (z13 = (z12.toUInt32 % 65536).toInt32) → (r = z13) → Q9
def R_J1_charAt_3b067_18 (fi : Nat → Nat → Int32) (fl : Nat → Nat → Int64) (vi : Nat → Int32) (vl : Nat → Int64) (r : Int32) (fj : Nat → Nat → Int32) (fm : Nat → Nat → Int64) (vj : Nat → Int32) (vm : Nat → Int64) : Prop :=
  ∀ Q9 : Prop, RL_J1_charAt_3b067_18_0 fi fl vi vl r fj fm vj vm Q9 → Q9
def PS_J1_charAt_3b067_18 (fi : Nat → Nat → Int32) (fl : Nat → Nat → Int64) (vi : Nat → Int32) (vl : Nat → Int64) (r : Int32) (fj : Nat → Nat → Int32) (fm : Nat → Nat → Int64) (vj : Nat → Int32) (vm : Nat → Int64) : Prop :=
  r = (sBy.getD 28 []).getD ((vi 0).toInt).toNat 0
set_option maxHeartbeats 4000000 in
theorem PL_J1_charAt_3b067_18_0 {fi : Nat → Nat → Int32} {fl : Nat → Nat → Int64} {vi : Nat → Int32} {vl : Nat → Int64} {r : Int32} {fj : Nat → Nat → Int32} {fm : Nat → Nat → Int64} {vj : Nat → Int32} {vm : Nat → Int64} : RL_J1_charAt_3b067_18_0 fi fl vi vl r fj fm vj vm (PS_J1_charAt_3b067_18 fi fl vi vl r fj fm vj vm) := by
  unfold RL_J1_charAt_3b067_18_0
  intro hp0 fik flk vik vlk uk z8 ez8 z12 ez12 z13 ez13 q0; subst q0
  unfold PS_J1_charAt_3b067_18
  first | exact by assumption | exact char_of (by assumption) (by assumption) (by assumption)
theorem P_J1_charAt_3b067_18 {fi : Nat → Nat → Int32} {fl : Nat → Nat → Int64} {vi : Nat → Int32} {vl : Nat → Int64} {r : Int32} {fj : Nat → Nat → Int32} {fm : Nat → Nat → Int64} {vj : Nat → Int32} {vm : Nat → Int64} (h : R_J1_charAt_3b067_18 fi fl vi vl r fj fm vj vm) : r = (sBy.getD 28 []).getD ((vi 0).toInt).toNat 0 := h (PS_J1_charAt_3b067_18 fi fl vi vl r fj fm vj vm) PL_J1_charAt_3b067_18_0
def RL_J0_charAt_5068e_18_0 (fi : Nat → Nat → Int32) (fl : Nat → Nat → Int64) (vi : Nat → Int32) (vl : Nat → Int64) (r : Int32) (fj : Nat → Nat → Int32) (fm : Nat → Nat → Int64) (vj : Nat → Int32) (vm : Nat → Int64) (Q9 : Prop) : Prop :=
  (0 ≤ (vi 0).toInt ∧ (vi 0).toInt ≤ 2) → ∀ (fik : Nat → Nat → Int32), ∀ (flk : Nat → Nat → Int64), ∀ (vik : Nat → Int32), ∀ (vlk : Nat → Int64), ∀ (rk : Int32), (rk = 1) → ∀ (fik_1 : Nat → Nat → Int32), ∀ (flk_1 : Nat → Nat → Int64), ∀ (vik_1 : Nat → Int32), ∀ (vlk_1 : Nat → Int64), ∀ (rk_1 : Int32), (rk_1 = (sBy.getD 28 []).getD ((vi 0).toInt).toNat 0) → (r = rk_1) → Q9
def R_J0_charAt_5068e_18 (fi : Nat → Nat → Int32) (fl : Nat → Nat → Int64) (vi : Nat → Int32) (vl : Nat → Int64) (r : Int32) (fj : Nat → Nat → Int32) (fm : Nat → Nat → Int64) (vj : Nat → Int32) (vm : Nat → Int64) : Prop :=
  ∀ Q9 : Prop, RL_J0_charAt_5068e_18_0 fi fl vi vl r fj fm vj vm Q9 → Q9
def PS_J0_charAt_5068e_18 (fi : Nat → Nat → Int32) (fl : Nat → Nat → Int64) (vi : Nat → Int32) (vl : Nat → Int64) (r : Int32) (fj : Nat → Nat → Int32) (fm : Nat → Nat → Int64) (vj : Nat → Int32) (vm : Nat → Int64) : Prop :=
  r = (sBy.getD 28 []).getD ((vi 0).toInt).toNat 0
set_option maxHeartbeats 4000000 in
theorem PL_J0_charAt_5068e_18_0 {fi : Nat → Nat → Int32} {fl : Nat → Nat → Int64} {vi : Nat → Int32} {vl : Nat → Int64} {r : Int32} {fj : Nat → Nat → Int32} {fm : Nat → Nat → Int64} {vj : Nat → Int32} {vm : Nat → Int64} : RL_J0_charAt_5068e_18_0 fi fl vi vl r fj fm vj vm (PS_J0_charAt_5068e_18 fi fl vi vl r fj fm vj vm) := by
  unfold RL_J0_charAt_5068e_18_0
  intro hp0 fik flk vik vlk rk gk_0 fik_1 flk_1 vik_1 vlk_1 rk_1 gk_1_1 q0; subst q0
  unfold PS_J0_charAt_5068e_18
  first | exact by assumption | exact char_of (by assumption) (by assumption) (by assumption)
theorem P_J0_charAt_5068e_18 {fi : Nat → Nat → Int32} {fl : Nat → Nat → Int64} {vi : Nat → Int32} {vl : Nat → Int64} {r : Int32} {fj : Nat → Nat → Int32} {fm : Nat → Nat → Int64} {vj : Nat → Int32} {vm : Nat → Int64} (h : R_J0_charAt_5068e_18 fi fl vi vl r fj fm vj vm) : r = (sBy.getD 28 []).getD ((vi 0).toInt).toNat 0 := h (PS_J0_charAt_5068e_18 fi fl vi vl r fj fm vj vm) PL_J0_charAt_5068e_18_0
def RL_X6_isWord_18_0 (fi : Nat → Nat → Int32) (fl : Nat → Nat → Int64) (vi : Nat → Int32) (vl : Nat → Int64) (r : Int32) (fj : Nat → Nat → Int32) (fm : Nat → Nat → Int64) (vj : Nat → Int32) (vm : Nat → Int64) (Q9 : Prop) : Prop :=
  (0 ≤ (vi 1).toInt ∧ (vi 1).toInt ≤ 940) → (0 ≤ (vi 2).toInt ∧ (vi 2).toInt ≤ 940) → (0 ≤ (vi 3).toInt ∧ (vi 3).toInt ≤ 940) → (0 ≤ (vi 5).toInt ∧ (vi 5).toInt ≤ 940) → (0 ≤ (vi 10).toInt ∧ (vi 10).toInt ≤ 940) → ∀ (w4 : Int32), ∀ (w2 : Int64), (0 ≤ w4.toInt ∧ w4.toInt ≤ 3) → (w2 = pkw (sBy.getD 28 []) (w4.toInt).toNat) → ∀ (fik : Nat → Nat → Int32), ∀ (flk : Nat → Nat → Int64), ∀ (vik : Nat → Int32), ∀ (vlk : Nat → Int64), ∀ (rk : Int32), (rk = 3) → (3 ≤ w4.toInt) → (¬ (vi 4).toInt = 1) → (r = (0 : Int32)) → Q9
def RL_X6_isWord_18_1 (fi : Nat → Nat → Int32) (fl : Nat → Nat → Int64) (vi : Nat → Int32) (vl : Nat → Int64) (r : Int32) (fj : Nat → Nat → Int32) (fm : Nat → Nat → Int64) (vj : Nat → Int32) (vm : Nat → Int64) (Q9 : Prop) : Prop :=
  (0 ≤ (vi 1).toInt ∧ (vi 1).toInt ≤ 940) → (0 ≤ (vi 2).toInt ∧ (vi 2).toInt ≤ 940) → (0 ≤ (vi 3).toInt ∧ (vi 3).toInt ≤ 940) → (0 ≤ (vi 5).toInt ∧ (vi 5).toInt ≤ 940) → (0 ≤ (vi 10).toInt ∧ (vi 10).toInt ≤ 940) → ∀ (w4 : Int32), ∀ (w2 : Int64), (0 ≤ w4.toInt ∧ w4.toInt ≤ 3) → (w2 = pkw (sBy.getD 28 []) (w4.toInt).toNat) → ∀ (fik : Nat → Nat → Int32), ∀ (flk : Nat → Nat → Int64), ∀ (vik : Nat → Int32), ∀ (vlk : Nat → Int64), ∀ (rk : Int32), (rk = 3) → (3 ≤ w4.toInt) → ((vi 4).toInt = 1) → ∀ (z46 : Int32), (z46 = lg_cmp w2 (vl 0)) → (¬ z46.toInt = 0) → (r = (0 : Int32)) → Q9
def RL_X6_isWord_18_2 (fi : Nat → Nat → Int32) (fl : Nat → Nat → Int64) (vi : Nat → Int32) (vl : Nat → Int64) (r : Int32) (fj : Nat → Nat → Int32) (fm : Nat → Nat → Int64) (vj : Nat → Int32) (vm : Nat → Int64) (Q9 : Prop) : Prop :=
  (0 ≤ (vi 1).toInt ∧ (vi 1).toInt ≤ 940) → (0 ≤ (vi 2).toInt ∧ (vi 2).toInt ≤ 940) → (0 ≤ (vi 3).toInt ∧ (vi 3).toInt ≤ 940) → (0 ≤ (vi 5).toInt ∧ (vi 5).toInt ≤ 940) → (0 ≤ (vi 10).toInt ∧ (vi 10).toInt ≤ 940) → ∀ (w4 : Int32), ∀ (w2 : Int64), (0 ≤ w4.toInt ∧ w4.toInt ≤ 3) → (w2 = pkw (sBy.getD 28 []) (w4.toInt).toNat) → ∀ (fik : Nat → Nat → Int32), ∀ (flk : Nat → Nat → Int64), ∀ (vik : Nat → Int32), ∀ (vlk : Nat → Int64), ∀ (rk : Int32), (rk = 3) → (3 ≤ w4.toInt) → ((vi 4).toInt = 1) → ∀ (z46 : Int32), (z46 = lg_cmp w2 (vl 0)) → (z46.toInt = 0) → (r = (1 : Int32)) → Q9
def R_X6_isWord_18 (fi : Nat → Nat → Int32) (fl : Nat → Nat → Int64) (vi : Nat → Int32) (vl : Nat → Int64) (r : Int32) (fj : Nat → Nat → Int32) (fm : Nat → Nat → Int64) (vj : Nat → Int32) (vm : Nat → Int64) : Prop :=
  ∀ Q9 : Prop, RL_X6_isWord_18_0 fi fl vi vl r fj fm vj vm Q9 → RL_X6_isWord_18_1 fi fl vi vl r fj fm vj vm Q9 → RL_X6_isWord_18_2 fi fl vi vl r fj fm vj vm Q9 → Q9
def PS_X6_isWord_18 (fi : Nat → Nat → Int32) (fl : Nat → Nat → Int64) (vi : Nat → Int32) (vl : Nat → Int64) (r : Int32) (fj : Nat → Nat → Int32) (fm : Nat → Nat → Int64) (vj : Nat → Int32) (vm : Nat → Int64) : Prop :=
  DJ (r.toInt = 1 ∧ (vi 4).toInt = 1 ∧ (vl 0) = (7237492 : Int64)) (r.toInt = 0 ∧ ¬ ((vi 4).toInt = 1 ∧ (vl 0) = (7237492 : Int64)))
set_option maxHeartbeats 4000000 in
theorem PL_X6_isWord_18_0 {fi : Nat → Nat → Int32} {fl : Nat → Nat → Int64} {vi : Nat → Int32} {vl : Nat → Int64} {r : Int32} {fj : Nat → Nat → Int32} {fm : Nat → Nat → Int64} {vj : Nat → Int32} {vm : Nat → Int64} : RL_X6_isWord_18_0 fi fl vi vl r fj fm vj vm (PS_X6_isWord_18 fi fl vi vl r fj fm vj vm) := by
  unfold RL_X6_isWord_18_0
  intro hp0 hp1 hp2 hp3 hp4 w4 w2 hi hpk9 fik flk vik vlk rk gk_0 c11 c38 q0; subst q0
  unfold PS_X6_isWord_18
  have e9 : w2 = (7237492 : Int64) := by rw [hpk9, show w4.toInt.toNat = 3 by omega]; decide
  first | exact Or.inl ⟨by decide, by omega, by rw [← e9]; exact (cmp_eq (by assumption) (by omega)).symm⟩ | exact Or.inr ⟨by decide, fun c => by omega⟩ | exact Or.inr ⟨by decide, fun c => cmp_ne (by assumption) (by omega) (by rw [e9]; exact c.2.symm)⟩
set_option maxHeartbeats 4000000 in
theorem PL_X6_isWord_18_1 {fi : Nat → Nat → Int32} {fl : Nat → Nat → Int64} {vi : Nat → Int32} {vl : Nat → Int64} {r : Int32} {fj : Nat → Nat → Int32} {fm : Nat → Nat → Int64} {vj : Nat → Int32} {vm : Nat → Int64} : RL_X6_isWord_18_1 fi fl vi vl r fj fm vj vm (PS_X6_isWord_18 fi fl vi vl r fj fm vj vm) := by
  unfold RL_X6_isWord_18_1
  intro hp0 hp1 hp2 hp3 hp4 w4 w2 hi hpk9 fik flk vik vlk rk gk_0 c11 c38 z46 ez46 c47 q0; subst q0
  unfold PS_X6_isWord_18
  have e9 : w2 = (7237492 : Int64) := by rw [hpk9, show w4.toInt.toNat = 3 by omega]; decide
  first | exact Or.inl ⟨by decide, by omega, by rw [← e9]; exact (cmp_eq (by assumption) (by omega)).symm⟩ | exact Or.inr ⟨by decide, fun c => by omega⟩ | exact Or.inr ⟨by decide, fun c => cmp_ne (by assumption) (by omega) (by rw [e9]; exact c.2.symm)⟩
