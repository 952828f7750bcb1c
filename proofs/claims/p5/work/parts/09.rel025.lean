def RL_X5_leafAhead_9 (fi : Nat → Nat → Int32) (fl : Nat → Nat → Int64) (vi : Nat → Int32) (vl : Nat → Int64) (r : Int32) (fj : Nat → Nat → Int32) (fm : Nat → Nat → Int64) (vj : Nat → Int32) (vm : Nat → Int64) (Q9 : Prop) : Prop :=
  (0 ≤ (vi 0).toInt ∧ (vi 0).toInt ≤ 40) → (0 ≤ (vi 1).toInt ∧ (vi 1).toInt ≤ 20) → (0 ≤ (vi 3).toInt ∧ (vi 3).toInt ≤ 940) → (0 ≤ (vi 4).toInt ∧ (vi 4).toInt ≤ 940) → (0 ≤ (vi 5).toInt ∧ (vi 5).toInt ≤ 940) → (0 ≤ (vi 7).toInt ∧ (vi 7).toInt ≤ 940) → (0 ≤ (vi 12).toInt ∧ (vi 12).toInt ≤ 940) → ∀ (fik : Nat → Nat → Int32), ∀ (flk : Nat → Nat → Int64), ∀ (vik : Nat → Int32), ∀ (vlk : Nat → Int64), ∀ (rk : Int32), (DJ (rk.toInt = 1 ∧ (vi 6).toInt = 1 ∧ (vl 0) = (418430678629 : Int64)) (rk.toInt = 0 ∧ ¬ ((vi 6).toInt = 1 ∧ (vl 0) = (418430678629 : Int64)))) → (rk.toInt = 0) → (True) → ∀ (fik_1 : Nat → Nat → Int32), ∀ (flk_1 : Nat → Nat → Int64), ∀ (vik_1 : Nat → Int32), ∀ (vlk_1 : Nat → Int64), ∀ (rk_1 : Int32), (DJ (rk_1.toInt = 1 ∧ (vi 6).toInt = 1 ∧ (vl 0) = (512735409267 : Int64)) (rk_1.toInt = 0 ∧ ¬ ((vi 6).toInt = 1 ∧ (vl 0) = (512735409267 : Int64)))) → (rk_1.toInt = 0) → (True) → ∀ (fik_2 : Nat → Nat → Int32), ∀ (flk_2 : Nat → Nat → Int64), ∀ (vik_2 : Nat → Int32), ∀ (vlk_2 : Nat → Int64), ∀ (rk_2 : Int32), (DJ (rk_2.toInt = 1 ∧ (vi 6).toInt = 1 ∧ (vl 0) = (109270082020708 : Int64)) (rk_2.toInt = 0 ∧ ¬ ((vi 6).toInt = 1 ∧ (vl 0) = (109270082020708 : Int64)))) → (rk_2.toInt = 0) → (True) → ∀ (fik_3 : Nat → Nat → Int32), ∀ (flk_3 : Nat → Nat → Int64), ∀ (vik_3 : Nat → Int32), ∀ (vlk_3 : Nat → Int64), ∀ (rk_3 : Int32), (DJ (rk_3.toInt = 1 ∧ (vi 6).toInt = 1 ∧ (vl 0) = (1718379876 : Int64)) (rk_3.toInt = 0 ∧ ¬ ((vi 6).toInt = 1 ∧ (vl 0) = (1718379876 : Int64)))) → (rk_3.toInt = 0) → (True) → ∀ (fik_4 : Nat → Nat → Int32), ∀ (flk_4 : Nat → Nat → Int64), ∀ (vik_4 : Nat → Int32), ∀ (vlk_4 : Nat → Int64), ∀ (rk_4 : Int32), (DJ (rk_4.toInt = 1 ∧ (vi 6).toInt = 1 ∧ (vl 0) = (1735156068 : Int64)) (rk_4.toInt = 0 ∧ ¬ ((vi 6).toInt = 1 ∧ (vl 0) = (1735156068 : Int64)))) → (rk_4.toInt = 0) → (True) → ∀ (fik_5 : Nat → Nat → Int32), ∀ (flk_5 : Nat → Nat → Int64), ∀ (vik_5 : Nat → Int32), ∀ (vlk_5 : Nat → Int64), ∀ (rk_5 : Int32), (DJ (rk_5.toInt = 1 ∧ (vi 6).toInt = 1 ∧ (vl 0) = (483006772069 : Int64)) (rk_5.toInt = 0 ∧ ¬ ((vi 6).toInt = 1 ∧ (vl 0) = (483006772069 : Int64)))) → (rk_5.toInt = 0) → (True) → ∀ (fik_6 : Nat → Nat → Int32), ∀ (flk_6 : Nat → Nat → Int64), ∀ (vik_6 : Nat → Int32), ∀ (vlk_6 : Nat → Int64), ∀ (rk_6 : Int32), (DJ (rk_6.toInt = 1 ∧ (vi 6).toInt = 1 ∧ (vl 0) = (1870095731 : Int64)) (rk_6.toInt = 0 ∧ ¬ ((vi 6).toInt = 1 ∧ (vl 0) = (1870095731 : Int64)))) → (rk_6.toInt = 0) → (True) → ∀ (fik_7 : Nat → Nat → Int32), ∀ (flk_7 : Nat → Nat → Int64), ∀ (vik_7 : Nat → Int32), ∀ (vlk_7 : Nat → Int64), ∀ (rk_7 : Int32), (DJ (rk_7.toInt = 1 ∧ (vi 6).toInt = 1 ∧ (vl 0) = (112585612686451 : Int64)) (rk_7.toInt = 0 ∧ ¬ ((vi 6).toInt = 1 ∧ (vl 0) = (112585612686451 : Int64)))) → (rk_7.toInt = 0) → (True) → ∀ (fik_8 : Nat → Nat → Int32), ∀ (flk_8 : Nat → Nat → Int64), ∀ (vik_8 : Nat → Int32), ∀ (vlk_8 : Nat → Int64), ∀ (rk_8 : Int32), (DJ (rk_8.toInt = 1 ∧ (vi 6).toInt = 1 ∧ (vl 0) = (121450625394034 : Int64)) (rk_8.toInt = 0 ∧ ¬ ((vi 6).toInt = 1 ∧ (vl 0) = (121450625394034 : Int64)))) → (rk_8.toInt = 0) → (True) → (r = ((-1) : Int32)) → Q9
def R_X5_leafAhead (fi : Nat → Nat → Int32) (fl : Nat → Nat → Int64) (vi : Nat → Int32) (vl : Nat → Int64) (r : Int32) (fj : Nat → Nat → Int32) (fm : Nat → Nat → Int64) (vj : Nat → Int32) (vm : Nat → Int64) : Prop :=
  ∀ Q9 : Prop, RL_X5_leafAhead_0 fi fl vi vl r fj fm vj vm Q9 → RL_X5_leafAhead_1 fi fl vi vl r fj fm vj vm Q9 → RL_X5_leafAhead_2 fi fl vi vl r fj fm vj vm Q9 → RL_X5_leafAhead_3 fi fl vi vl r fj fm vj vm Q9 → RL_X5_leafAhead_4 fi fl vi vl r fj fm vj vm Q9 → RL_X5_leafAhead_5 fi fl vi vl r fj fm vj vm Q9 → RL_X5_leafAhead_6 fi fl vi vl r fj fm vj vm Q9 → RL_X5_leafAhead_7 fi fl vi vl r fj fm vj vm Q9 → RL_X5_leafAhead_8 fi fl vi vl r fj fm vj vm Q9 → RL_X5_leafAhead_9 fi fl vi vl r fj fm vj vm Q9 → Q9
def PS_X5_leafAhead (fi : Nat → Nat → Int32) (fl : Nat → Nat → Int64) (vi : Nat → Int32) (vl : Nat → Int64) (r : Int32) (fj : Nat → Nat → Int32) (fm : Nat → Nat → Int64) (vj : Nat → Int32) (vm : Nat → Int64) : Prop :=
  ∀ n m t : Nat, CC (trn (fi 0) n) n m t (vi 3) (vi 4) (vi 6) (vi 7) (vi 5) (vl 0) (vi 8) (vi 9) → LFR r.toInt (lfi (trn (fi 0) n) n m t)
set_option maxHeartbeats 4000000 in
theorem PL_X5_leafAhead_0 {fi : Nat → Nat → Int32} {fl : Nat → Nat → Int64} {vi : Nat → Int32} {vl : Nat → Int64} {r : Int32} {fj : Nat → Nat → Int32} {fm : Nat → Nat → Int64} {vj : Nat → Int32} {vm : Nat → Int64} : RL_X5_leafAhead_0 fi fl vi vl r fj fm vj vm (PS_X5_leafAhead fi fl vi vl r fj fm vj vm) := by
  unfold RL_X5_leafAhead_0
  intro hp0 hp1 hp2 hp3 hp4 hp5 hp6 fik flk vik vlk rk gk_1 tb gk_0 q0; subst q0
  unfold PS_X5_leafAhead
  intro n m t hc
  skip; have k9_0 : (0 : Int32).toInt = 0 := (by decide); have k9_1 : (1 : Int32).toInt = 1 := (by decide); have k9_2 : (3 : Int32).toInt = 3 := (by decide)
  have hc0 := hc
  obtain ⟨hn, hm, ht, ck, cp, ce, cw, cu, cg⟩ := hc0
  have y_alive : isW (trn (fi 0) n) n m t 418430678629 := by
    rcases gk_1 with ⟨z1, z2, z3⟩ | ⟨z1, z2⟩
    · exact ⟨ck.symm.trans z2, by rw [← cw (ck.symm.trans z2)]; exact z3⟩
    · exact absurd (z1.symm.trans tb) (by decide)
  have e9 : lfi (trn (fi 0) n) n m t = 0 := by unfold lfi; rw [if_pos y_alive]
  rw [e9]
  unfold LFR
  omega
set_option maxHeartbeats 4000000 in
theorem PL_X5_leafAhead_1 {fi : Nat → Nat → Int32} {fl : Nat → Nat → Int64} {vi : Nat → Int32} {vl : Nat → Int64} {r : Int32} {fj : Nat → Nat → Int32} {fm : Nat → Nat → Int64} {vj : Nat → Int32} {vm : Nat → Int64} : RL_X5_leafAhead_1 fi fl vi vl r fj fm vj vm (PS_X5_leafAhead fi fl vi vl r fj fm vj vm) := by
  unfold RL_X5_leafAhead_1
  intro hp0 hp1 hp2 hp3 hp4 hp5 hp6 fik flk vik vlk rk gk_1 tb gk_0 fik_1 flk_1 vik_1 vlk_1 rk_1 gk_1_1 tb_1 gk_1_0 q0; subst q0
  unfold PS_X5_leafAhead
  intro n m t hc
  skip; have k9_0 : (0 : Int32).toInt = 0 := (by decide); have k9_1 : (1 : Int32).toInt = 1 := (by decide); have k9_2 : (4 : Int32).toInt = 4 := (by decide)
  have hc0 := hc
  obtain ⟨hn, hm, ht, ck, cp, ce, cw, cu, cg⟩ := hc0
  have n_alive : ¬ isW (trn (fi 0) n) n m t 418430678629 := by
    rcases gk_1 with ⟨z1, z2, z3⟩ | ⟨z1, z2⟩
    · exact absurd (z1.symm.trans tb) (by decide)
    · exact fun c => z2 ⟨ck.trans c.1, by rw [cw c.1]; exact c.2⟩
  have y_waits : isW (trn (fi 0) n) n m t 512735409267 := by
    rcases gk_1_1 with ⟨z1, z2, z3⟩ | ⟨z1, z2⟩
    · exact ⟨ck.symm.trans z2, by rw [← cw (ck.symm.trans z2)]; exact z3⟩
    · exact absurd (z1.symm.trans tb_1) (by decide)
  have e9 : lfi (trn (fi 0) n) n m t = 1 := by unfold lfi; rw [if_neg n_alive, if_pos y_waits]
  rw [e9]
  unfold LFR
  omega
set_option maxHeartbeats 4000000 in
theorem PL_X5_leafAhead_2 {fi : Nat → Nat → Int32} {fl : Nat → Nat → Int64} {vi : Nat → Int32} {vl : Nat → Int64} {r : Int32} {fj : Nat → Nat → Int32} {fm : Nat → Nat → Int64} {vj : Nat → Int32} {vm : Nat → Int64} : RL_X5_leafAhead_2 fi fl vi vl r fj fm vj vm (PS_X5_leafAhead fi fl vi vl r fj fm vj vm) := by
  unfold RL_X5_leafAhead_2
  intro hp0 hp1 hp2 hp3 hp4 hp5 hp6 fik flk vik vlk rk gk_1 tb gk_0 fik_1 flk_1 vik_1 vlk_1 rk_1 gk_1_1 tb_1 gk_1_0 fik_2 flk_2 vik_2 vlk_2 rk_2 gk_2_1 tb_2 gk_2_0 q0; subst q0
  unfold PS_X5_leafAhead
  intro n m t hc
  skip; have k9_0 : (0 : Int32).toInt = 0 := (by decide); have k9_1 : (1 : Int32).toInt = 1 := (by decide); have k9_2 : (5 : Int32).toInt = 5 := (by decide)
  have hc0 := hc
  obtain ⟨hn, hm, ht, ck, cp, ce, cw, cu, cg⟩ := hc0
  have n_alive : ¬ isW (trn (fi 0) n) n m t 418430678629 := by
    rcases gk_1 with ⟨z1, z2, z3⟩ | ⟨z1, z2⟩
    · exact absurd (z1.symm.trans tb) (by decide)
    · exact fun c => z2 ⟨ck.trans c.1, by rw [cw c.1]; exact c.2⟩
  have n_waits : ¬ isW (trn (fi 0) n) n m t 512735409267 := by
    rcases gk_1_1 with ⟨z1, z2, z3⟩ | ⟨z1, z2⟩
    · exact absurd (z1.symm.trans tb_1) (by decide)
    · exact fun c => z2 ⟨ck.trans c.1, by rw [cw c.1]; exact c.2⟩
  have y_called : isW (trn (fi 0) n) n m t 109270082020708 := by
    rcases gk_2_1 with ⟨z1, z2, z3⟩ | ⟨z1, z2⟩
    · exact ⟨ck.symm.trans z2, by rw [← cw (ck.symm.trans z2)]; exact z3⟩
    · exact absurd (z1.symm.trans tb_2) (by decide)
  have n_fled : ¬ isW (trn (fi 0) n) n m t 1718379876 := fun c => absurd (c.2.symm.trans y_called.2) (by decide)
  have n_glad : ¬ isW (trn (fi 0) n) n m t 1735156068 := fun c => absurd (c.2.symm.trans y_called.2) (by decide)
  have e9 : lfi (trn (fi 0) n) n m t = 4 := by unfold lfi; rw [if_neg n_alive, if_neg n_waits, if_neg n_fled, if_neg n_glad, if_pos y_called]
  rw [e9]
  unfold LFR
  omega
set_option maxHeartbeats 4000000 in
theorem PL_X5_leafAhead_3 {fi : Nat → Nat → Int32} {fl : Nat → Nat → Int64} {vi : Nat → Int32} {vl : Nat → Int64} {r : Int32} {fj : Nat → Nat → Int32} {fm : Nat → Nat → Int64} {vj : Nat → Int32} {vm : Nat → Int64} : RL_X5_leafAhead_3 fi fl vi vl r fj fm vj vm (PS_X5_leafAhead fi fl vi vl r fj fm vj vm) := by
  unfold RL_X5_leafAhead_3
  intro hp0 hp1 hp2 hp3 hp4 hp5 hp6 fik flk vik vlk rk gk_1 tb gk_0 fik_1 flk_1 vik_1 vlk_1 rk_1 gk_1_1 tb_1 gk_1_0 fik_2 flk_2 vik_2 vlk_2 rk_2 gk_2_1 tb_2 gk_2_0 fik_3 flk_3 vik_3 vlk_3 rk_3 gk_3_1 tb_3 gk_3_0 q0; subst q0
  unfold PS_X5_leafAhead
  intro n m t hc
  skip; have k9_0 : (0 : Int32).toInt = 0 := (by decide); have k9_1 : (1 : Int32).toInt = 1 := (by decide); have k9_2 : (6 : Int32).toInt = 6 := (by decide)
  have hc0 := hc
  obtain ⟨hn, hm, ht, ck, cp, ce, cw, cu, cg⟩ := hc0
  have n_alive : ¬ isW (trn (fi 0) n) n m t 418430678629 := by
    rcases gk_1 with ⟨z1, z2, z3⟩ | ⟨z1, z2⟩
    · exact absurd (z1.symm.trans tb) (by decide)
    · exact fun c => z2 ⟨ck.trans c.1, by rw [cw c.1]; exact c.2⟩
  have n_waits : ¬ isW (trn (fi 0) n) n m t 512735409267 := by
    rcases gk_1_1 with ⟨z1, z2, z3⟩ | ⟨z1, z2⟩
    · exact absurd (z1.symm.trans tb_1) (by decide)
    · exact fun c => z2 ⟨ck.trans c.1, by rw [cw c.1]; exact c.2⟩
  have y_fled : isW (trn (fi 0) n) n m t 1718379876 := by
    rcases gk_3_1 with ⟨z1, z2, z3⟩ | ⟨z1, z2⟩
    · exact ⟨ck.symm.trans z2, by rw [← cw (ck.symm.trans z2)]; exact z3⟩
    · exact absurd (z1.symm.trans tb_3) (by decide)
  have n_called : ¬ isW (trn (fi 0) n) n m t 109270082020708 := by
    rcases gk_2_1 with ⟨z1, z2, z3⟩ | ⟨z1, z2⟩
    · exact absurd (z1.symm.trans tb_2) (by decide)
    · exact fun c => z2 ⟨ck.trans c.1, by rw [cw c.1]; exact c.2⟩
  have e9 : lfi (trn (fi 0) n) n m t = 2 := by unfold lfi; rw [if_neg n_alive, if_neg n_waits, if_pos y_fled]
  rw [e9]
  unfold LFR
  omega
set_option maxHeartbeats 4000000 in
theorem PL_X5_leafAhead_4 {fi : Nat → Nat → Int32} {fl : Nat → Nat → Int64} {vi : Nat → Int32} {vl : Nat → Int64} {r : Int32} {fj : Nat → Nat → Int32} {fm : Nat → Nat → Int64} {vj : Nat → Int32} {vm : Nat → Int64} : RL_X5_leafAhead_4 fi fl vi vl r fj fm vj vm (PS_X5_leafAhead fi fl vi vl r fj fm vj vm) := by
  unfold RL_X5_leafAhead_4
  intro hp0 hp1 hp2 hp3 hp4 hp5 hp6 fik flk vik vlk rk gk_1 tb gk_0 fik_1 flk_1 vik_1 vlk_1 rk_1 gk_1_1 tb_1 gk_1_0 fik_2 flk_2 vik_2 vlk_2 rk_2 gk_2_1 tb_2 gk_2_0 fik_3 flk_3 vik_3 vlk_3 rk_3 gk_3_1 tb_3 gk_3_0 fik_4 flk_4 vik_4 vlk_4 rk_4 gk_4_1 tb_4 gk_4_0 q0; subst q0
  unfold PS_X5_leafAhead
  intro n m t hc
  skip; have k9_0 : (0 : Int32).toInt = 0 := (by decide); have k9_1 : (1 : Int32).toInt = 1 := (by decide); have k9_2 : (7 : Int32).toInt = 7 := (by decide)
  have hc0 := hc
  obtain ⟨hn, hm, ht, ck, cp, ce, cw, cu, cg⟩ := hc0
  have n_alive : ¬ isW (trn (fi 0) n) n m t 418430678629 := by
    rcases gk_1 with ⟨z1, z2, z3⟩ | ⟨z1, z2⟩
    · exact absurd (z1.symm.trans tb) (by decide)
    · exact fun c => z2 ⟨ck.trans c.1, by rw [cw c.1]; exact c.2⟩
  have n_waits : ¬ isW (trn (fi 0) n) n m t 512735409267 := by
    rcases gk_1_1 with ⟨z1, z2, z3⟩ | ⟨z1, z2⟩
    · exact absurd (z1.symm.trans tb_1) (by decide)
    · exact fun c => z2 ⟨ck.trans c.1, by rw [cw c.1]; exact c.2⟩
  have n_fled : ¬ isW (trn (fi 0) n) n m t 1718379876 := by
    rcases gk_3_1 with ⟨z1, z2, z3⟩ | ⟨z1, z2⟩
    · exact absurd (z1.symm.trans tb_3) (by decide)
    · exact fun c => z2 ⟨ck.trans c.1, by rw [cw c.1]; exact c.2⟩
  have y_glad : isW (trn (fi 0) n) n m t 1735156068 := by
    rcases gk_4_1 with ⟨z1, z2, z3⟩ | ⟨z1, z2⟩
    · exact ⟨ck.symm.trans z2, by rw [← cw (ck.symm.trans z2)]; exact z3⟩
    · exact absurd (z1.symm.trans tb_4) (by decide)
  have n_called : ¬ isW (trn (fi 0) n) n m t 109270082020708 := by
    rcases gk_2_1 with ⟨z1, z2, z3⟩ | ⟨z1, z2⟩
    · exact absurd (z1.symm.trans tb_2) (by decide)
    · exact fun c => z2 ⟨ck.trans c.1, by rw [cw c.1]; exact c.2⟩
  have e9 : lfi (trn (fi 0) n) n m t = 3 := by unfold lfi; rw [if_neg n_alive, if_neg n_waits, if_neg n_fled, if_pos y_glad]
  rw [e9]
  unfold LFR
  omega
set_option maxHeartbeats 4000000 in
theorem PL_X5_leafAhead_5 {fi : Nat → Nat → Int32} {fl : Nat → Nat → Int64} {vi : Nat → Int32} {vl : Nat → Int64} {r : Int32} {fj : Nat → Nat → Int32} {fm : Nat → Nat → Int64} {vj : Nat → Int32} {vm : Nat → Int64} : RL_X5_leafAhead_5 fi fl vi vl r fj fm vj vm (PS_X5_leafAhead fi fl vi vl r fj fm vj vm) := by
  unfold RL_X5_leafAhead_5
  intro hp0 hp1 hp2 hp3 hp4 hp5 hp6 fik flk vik vlk rk gk_1 tb gk_0 fik_1 flk_1 vik_1 vlk_1 rk_1 gk_1_1 tb_1 gk_1_0 fik_2 flk_2 vik_2 vlk_2 rk_2 gk_2_1 tb_2 gk_2_0 fik_3 flk_3 vik_3 vlk_3 rk_3 gk_3_1 tb_3 gk_3_0 fik_4 flk_4 vik_4 vlk_4 rk_4 gk_4_1 tb_4 gk_4_0 fik_5 flk_5 vik_5 vlk_5 rk_5 gk_5_1 tb_5 gk_5_0 q0; subst q0
  unfold PS_X5_leafAhead
  intro n m t hc
  skip; have k9_0 : (0 : Int32).toInt = 0 := (by decide); have k9_1 : (1 : Int32).toInt = 1 := (by decide); have k9_2 : (8 : Int32).toInt = 8 := (by decide)
  have hc0 := hc
  obtain ⟨hn, hm, ht, ck, cp, ce, cw, cu, cg⟩ := hc0
  have n_alive : ¬ isW (trn (fi 0) n) n m t 418430678629 := by
    rcases gk_1 with ⟨z1, z2, z3⟩ | ⟨z1, z2⟩
    · exact absurd (z1.symm.trans tb) (by decide)
    · exact fun c => z2 ⟨ck.trans c.1, by rw [cw c.1]; exact c.2⟩
  have n_waits : ¬ isW (trn (fi 0) n) n m t 512735409267 := by
    rcases gk_1_1 with ⟨z1, z2, z3⟩ | ⟨z1, z2⟩
    · exact absurd (z1.symm.trans tb_1) (by decide)
    · exact fun c => z2 ⟨ck.trans c.1, by rw [cw c.1]; exact c.2⟩
  have n_fled : ¬ isW (trn (fi 0) n) n m t 1718379876 := by
    rcases gk_3_1 with ⟨z1, z2, z3⟩ | ⟨z1, z2⟩
    · exact absurd (z1.symm.trans tb_3) (by decide)
    · exact fun c => z2 ⟨ck.trans c.1, by rw [cw c.1]; exact c.2⟩
  have n_glad : ¬ isW (trn (fi 0) n) n m t 1735156068 := by
    rcases gk_4_1 with ⟨z1, z2, z3⟩ | ⟨z1, z2⟩
    · exact absurd (z1.symm.trans tb_4) (by decide)
    · exact fun c => z2 ⟨ck.trans c.1, by rw [cw c.1]; exact c.2⟩
  have n_called : ¬ isW (trn (fi 0) n) n m t 109270082020708 := by
    rcases gk_2_1 with ⟨z1, z2, z3⟩ | ⟨z1, z2⟩
    · exact absurd (z1.symm.trans tb_2) (by decide)
    · exact fun c => z2 ⟨ck.trans c.1, by rw [cw c.1]; exact c.2⟩
  have y_purse : isW (trn (fi 0) n) n m t 483006772069 := by
    rcases gk_5_1 with ⟨z1, z2, z3⟩ | ⟨z1, z2⟩
    · exact ⟨ck.symm.trans z2, by rw [← cw (ck.symm.trans z2)]; exact z3⟩
    · exact absurd (z1.symm.trans tb_5) (by decide)
  have e9 : lfi (trn (fi 0) n) n m t = 5 := by unfold lfi; rw [if_neg n_alive, if_neg n_waits, if_neg n_fled, if_neg n_glad, if_neg n_called, if_pos y_purse]
  rw [e9]
  unfold LFR
  omega
set_option maxHeartbeats 4000000 in
theorem PL_X5_leafAhead_6 {fi : Nat → Nat → Int32} {fl : Nat → Nat → Int64} {vi : Nat → Int32} {vl : Nat → Int64} {r : Int32} {fj : Nat → Nat → Int32} {fm : Nat → Nat → Int64} {vj : Nat → Int32} {vm : Nat → Int64} : RL_X5_leafAhead_6 fi fl vi vl r fj fm vj vm (PS_X5_leafAhead fi fl vi vl r fj fm vj vm) := by
  unfold RL_X5_leafAhead_6
  intro hp0 hp1 hp2 hp3 hp4 hp5 hp6 fik flk vik vlk rk gk_1 tb gk_0 fik_1 flk_1 vik_1 vlk_1 rk_1 gk_1_1 tb_1 gk_1_0 fik_2 flk_2 vik_2 vlk_2 rk_2 gk_2_1 tb_2 gk_2_0 fik_3 flk_3 vik_3 vlk_3 rk_3 gk_3_1 tb_3 gk_3_0 fik_4 flk_4 vik_4 vlk_4 rk_4 gk_4_1 tb_4 gk_4_0 fik_5 flk_5 vik_5 vlk_5 rk_5 gk_5_1 tb_5 gk_5_0 fik_6 flk_6 vik_6 vlk_6 rk_6 gk_6_1 tb_6 gk_6_0 q0; subst q0
  unfold PS_X5_leafAhead
  intro n m t hc
  skip; have k9_0 : (0 : Int32).toInt = 0 := (by decide); have k9_1 : (1 : Int32).toInt = 1 := (by decide); have k9_2 : (9 : Int32).toInt = 9 := (by decide)
  have hc0 := hc
  obtain ⟨hn, hm, ht, ck, cp, ce, cw, cu, cg⟩ := hc0
  have n_alive : ¬ isW (trn (fi 0) n) n m t 418430678629 := by
    rcases gk_1 with ⟨z1, z2, z3⟩ | ⟨z1, z2⟩
    · exact absurd (z1.symm.trans tb) (by decide)
    · exact fun c => z2 ⟨ck.trans c.1, by rw [cw c.1]; exact c.2⟩
  have n_waits : ¬ isW (trn (fi 0) n) n m t 512735409267 := by
    rcases gk_1_1 with ⟨z1, z2, z3⟩ | ⟨z1, z2⟩
    · exact absurd (z1.symm.trans tb_1) (by decide)
    · exact fun c => z2 ⟨ck.trans c.1, by rw [cw c.1]; exact c.2⟩
  have n_fled : ¬ isW (trn (fi 0) n) n m t 1718379876 := by
    rcases gk_3_1 with ⟨z1, z2, z3⟩ | ⟨z1, z2⟩
    · exact absurd (z1.symm.trans tb_3) (by decide)
    · exact fun c => z2 ⟨ck.trans c.1, by rw [cw c.1]; exact c.2⟩
  have n_glad : ¬ isW (trn (fi 0) n) n m t 1735156068 := by
    rcases gk_4_1 with ⟨z1, z2, z3⟩ | ⟨z1, z2⟩
    · exact absurd (z1.symm.trans tb_4) (by decide)
    · exact fun c => z2 ⟨ck.trans c.1, by rw [cw c.1]; exact c.2⟩
  have n_called : ¬ isW (trn (fi 0) n) n m t 109270082020708 := by
    rcases gk_2_1 with ⟨z1, z2, z3⟩ | ⟨z1, z2⟩
    · exact absurd (z1.symm.trans tb_2) (by decide)
    · exact fun c => z2 ⟨ck.trans c.1, by rw [cw c.1]; exact c.2⟩
  have n_purse : ¬ isW (trn (fi 0) n) n m t 483006772069 := by
    rcases gk_5_1 with ⟨z1, z2, z3⟩ | ⟨z1, z2⟩
    · exact absurd (z1.symm.trans tb_5) (by decide)
    · exact fun c => z2 ⟨ck.trans c.1, by rw [cw c.1]; exact c.2⟩
  have y_owes : isW (trn (fi 0) n) n m t 1870095731 := by
    rcases gk_6_1 with ⟨z1, z2, z3⟩ | ⟨z1, z2⟩
    · exact ⟨ck.symm.trans z2, by rw [← cw (ck.symm.trans z2)]; exact z3⟩
    · exact absurd (z1.symm.trans tb_6) (by decide)
  have e9 : lfi (trn (fi 0) n) n m t = 6 := by unfold lfi; rw [if_neg n_alive, if_neg n_waits, if_neg n_fled, if_neg n_glad, if_neg n_called, if_neg n_purse, if_pos y_owes]
  rw [e9]
  unfold LFR
  omega
