set_option maxHeartbeats 4000000 in
theorem PL_X12_leafOf_2 {fi : Nat → Nat → Int32} {fl : Nat → Nat → Int64} {vi : Nat → Int32} {vl : Nat → Int64} {r : Int32} {fj : Nat → Nat → Int32} {fm : Nat → Nat → Int64} {vj : Nat → Int32} {vm : Nat → Int64} : RL_X12_leafOf_2 fi fl vi vl r fj fm vj vm (PS_X12_leafOf fi fl vi vl r fj fm vj vm) := by
  unfold RL_X12_leafOf_2
  intro hp0 hp1 hp2 hp3 hp4 hp5 hp6 hp7 hp8 hp9 hp10 hp11 hp12 hp13 fik flk vik vlk rk gk_1 tb_1 gk_0 fik_1 flk_1 vik_1 vlk_1 rk_1 gk_1_1 tb_3 gk_1_0 fik_2 flk_2 vik_2 vlk_2 rk_2 gk_2_1 tb_5 gk_2_0 q0; subst q0
  unfold PS_X12_leafOf
  intro n m t hc
  skip; have k9_0 : (0 : Int32).toInt = 0 := (by decide); have k9_1 : (1 : Int32).toInt = 1 := (by decide); have k9_2 : (2 : Int32).toInt = 2 := (by decide)
  have hc0 := hc
  obtain ⟨hn, hm, ht, ck, cp, ce, cw, cu, cg⟩ := hc0
  have n_alive : ¬ isW (trn (fi 0) n) n m t 418430678629 := by
    rcases gk_1 with ⟨z1, z2, z3⟩ | ⟨z1, z2⟩
    · exact absurd (z1.symm.trans tb_1) (by decide)
    · exact fun c => z2 ⟨ck.trans c.1, by rw [cw c.1]; exact c.2⟩
  have n_waits : ¬ isW (trn (fi 0) n) n m t 512735409267 := by
    rcases gk_1_1 with ⟨z1, z2, z3⟩ | ⟨z1, z2⟩
    · exact absurd (z1.symm.trans tb_3) (by decide)
    · exact fun c => z2 ⟨ck.trans c.1, by rw [cw c.1]; exact c.2⟩
  have y_fled : isW (trn (fi 0) n) n m t 1718379876 := by
    rcases gk_2_1 with ⟨z1, z2, z3⟩ | ⟨z1, z2⟩
    · exact ⟨ck.symm.trans z2, by rw [← cw (ck.symm.trans z2)]; exact z3⟩
    · exact absurd (z1.symm.trans tb_5) (by decide)
  have e9 : lfi (trn (fi 0) n) n m t = 2 := by unfold lfi; rw [if_neg n_alive, if_neg n_waits, if_pos y_fled]
  rw [e9]
  first | decide | omega
set_option maxHeartbeats 4000000 in
theorem PL_X12_leafOf_3 {fi : Nat → Nat → Int32} {fl : Nat → Nat → Int64} {vi : Nat → Int32} {vl : Nat → Int64} {r : Int32} {fj : Nat → Nat → Int32} {fm : Nat → Nat → Int64} {vj : Nat → Int32} {vm : Nat → Int64} : RL_X12_leafOf_3 fi fl vi vl r fj fm vj vm (PS_X12_leafOf fi fl vi vl r fj fm vj vm) := by
  unfold RL_X12_leafOf_3
  intro hp0 hp1 hp2 hp3 hp4 hp5 hp6 hp7 hp8 hp9 hp10 hp11 hp12 hp13 fik flk vik vlk rk gk_1 tb_1 gk_0 fik_1 flk_1 vik_1 vlk_1 rk_1 gk_1_1 tb_3 gk_1_0 fik_2 flk_2 vik_2 vlk_2 rk_2 gk_2_1 tb_5 gk_2_0 fik_3 flk_3 vik_3 vlk_3 rk_3 gk_3_1 tb_7 gk_3_0 q0; subst q0
  unfold PS_X12_leafOf
  intro n m t hc
  skip; have k9_0 : (0 : Int32).toInt = 0 := (by decide); have k9_1 : (1 : Int32).toInt = 1 := (by decide); have k9_2 : (3 : Int32).toInt = 3 := (by decide)
  have hc0 := hc
  obtain ⟨hn, hm, ht, ck, cp, ce, cw, cu, cg⟩ := hc0
  have n_alive : ¬ isW (trn (fi 0) n) n m t 418430678629 := by
    rcases gk_1 with ⟨z1, z2, z3⟩ | ⟨z1, z2⟩
    · exact absurd (z1.symm.trans tb_1) (by decide)
    · exact fun c => z2 ⟨ck.trans c.1, by rw [cw c.1]; exact c.2⟩
  have n_waits : ¬ isW (trn (fi 0) n) n m t 512735409267 := by
    rcases gk_1_1 with ⟨z1, z2, z3⟩ | ⟨z1, z2⟩
    · exact absurd (z1.symm.trans tb_3) (by decide)
    · exact fun c => z2 ⟨ck.trans c.1, by rw [cw c.1]; exact c.2⟩
  have n_fled : ¬ isW (trn (fi 0) n) n m t 1718379876 := by
    rcases gk_2_1 with ⟨z1, z2, z3⟩ | ⟨z1, z2⟩
    · exact absurd (z1.symm.trans tb_5) (by decide)
    · exact fun c => z2 ⟨ck.trans c.1, by rw [cw c.1]; exact c.2⟩
  have y_glad : isW (trn (fi 0) n) n m t 1735156068 := by
    rcases gk_3_1 with ⟨z1, z2, z3⟩ | ⟨z1, z2⟩
    · exact ⟨ck.symm.trans z2, by rw [← cw (ck.symm.trans z2)]; exact z3⟩
    · exact absurd (z1.symm.trans tb_7) (by decide)
  have e9 : lfi (trn (fi 0) n) n m t = 3 := by unfold lfi; rw [if_neg n_alive, if_neg n_waits, if_neg n_fled, if_pos y_glad]
  rw [e9]
  first | decide | omega
set_option maxHeartbeats 4000000 in
theorem PL_X12_leafOf_4 {fi : Nat → Nat → Int32} {fl : Nat → Nat → Int64} {vi : Nat → Int32} {vl : Nat → Int64} {r : Int32} {fj : Nat → Nat → Int32} {fm : Nat → Nat → Int64} {vj : Nat → Int32} {vm : Nat → Int64} : RL_X12_leafOf_4 fi fl vi vl r fj fm vj vm (PS_X12_leafOf fi fl vi vl r fj fm vj vm) := by
  unfold RL_X12_leafOf_4
  intro hp0 hp1 hp2 hp3 hp4 hp5 hp6 hp7 hp8 hp9 hp10 hp11 hp12 hp13 fik flk vik vlk rk gk_1 tb_1 gk_0 fik_1 flk_1 vik_1 vlk_1 rk_1 gk_1_1 tb_3 gk_1_0 fik_2 flk_2 vik_2 vlk_2 rk_2 gk_2_1 tb_5 gk_2_0 fik_3 flk_3 vik_3 vlk_3 rk_3 gk_3_1 tb_7 gk_3_0 fik_4 flk_4 vik_4 vlk_4 rk_4 gk_4_1 tb_9 gk_4_0 q0; subst q0
  unfold PS_X12_leafOf
  intro n m t hc
  skip; have k9_0 : (0 : Int32).toInt = 0 := (by decide); have k9_1 : (1 : Int32).toInt = 1 := (by decide); have k9_2 : (4 : Int32).toInt = 4 := (by decide)
  have hc0 := hc
  obtain ⟨hn, hm, ht, ck, cp, ce, cw, cu, cg⟩ := hc0
  have n_alive : ¬ isW (trn (fi 0) n) n m t 418430678629 := by
    rcases gk_1 with ⟨z1, z2, z3⟩ | ⟨z1, z2⟩
    · exact absurd (z1.symm.trans tb_1) (by decide)
    · exact fun c => z2 ⟨ck.trans c.1, by rw [cw c.1]; exact c.2⟩
  have n_waits : ¬ isW (trn (fi 0) n) n m t 512735409267 := by
    rcases gk_1_1 with ⟨z1, z2, z3⟩ | ⟨z1, z2⟩
    · exact absurd (z1.symm.trans tb_3) (by decide)
    · exact fun c => z2 ⟨ck.trans c.1, by rw [cw c.1]; exact c.2⟩
  have n_fled : ¬ isW (trn (fi 0) n) n m t 1718379876 := by
    rcases gk_2_1 with ⟨z1, z2, z3⟩ | ⟨z1, z2⟩
    · exact absurd (z1.symm.trans tb_5) (by decide)
    · exact fun c => z2 ⟨ck.trans c.1, by rw [cw c.1]; exact c.2⟩
  have n_glad : ¬ isW (trn (fi 0) n) n m t 1735156068 := by
    rcases gk_3_1 with ⟨z1, z2, z3⟩ | ⟨z1, z2⟩
    · exact absurd (z1.symm.trans tb_7) (by decide)
    · exact fun c => z2 ⟨ck.trans c.1, by rw [cw c.1]; exact c.2⟩
  have y_called : isW (trn (fi 0) n) n m t 109270082020708 := by
    rcases gk_4_1 with ⟨z1, z2, z3⟩ | ⟨z1, z2⟩
    · exact ⟨ck.symm.trans z2, by rw [← cw (ck.symm.trans z2)]; exact z3⟩
    · exact absurd (z1.symm.trans tb_9) (by decide)
  have e9 : lfi (trn (fi 0) n) n m t = 4 := by unfold lfi; rw [if_neg n_alive, if_neg n_waits, if_neg n_fled, if_neg n_glad, if_pos y_called]
  rw [e9]
  first | decide | omega
set_option maxHeartbeats 4000000 in
theorem PL_X12_leafOf_5 {fi : Nat → Nat → Int32} {fl : Nat → Nat → Int64} {vi : Nat → Int32} {vl : Nat → Int64} {r : Int32} {fj : Nat → Nat → Int32} {fm : Nat → Nat → Int64} {vj : Nat → Int32} {vm : Nat → Int64} : RL_X12_leafOf_5 fi fl vi vl r fj fm vj vm (PS_X12_leafOf fi fl vi vl r fj fm vj vm) := by
  unfold RL_X12_leafOf_5
  intro hp0 hp1 hp2 hp3 hp4 hp5 hp6 hp7 hp8 hp9 hp10 hp11 hp12 hp13 fik flk vik vlk rk gk_1 tb_1 gk_0 fik_1 flk_1 vik_1 vlk_1 rk_1 gk_1_1 tb_3 gk_1_0 fik_2 flk_2 vik_2 vlk_2 rk_2 gk_2_1 tb_5 gk_2_0 fik_3 flk_3 vik_3 vlk_3 rk_3 gk_3_1 tb_7 gk_3_0 fik_4 flk_4 vik_4 vlk_4 rk_4 gk_4_1 tb_9 gk_4_0 fik_5 flk_5 vik_5 vlk_5 rk_5 gk_5_1 tb_11 gk_5_0 q0; subst q0
  unfold PS_X12_leafOf
  intro n m t hc
  skip; have k9_0 : (0 : Int32).toInt = 0 := (by decide); have k9_1 : (1 : Int32).toInt = 1 := (by decide); have k9_2 : (5 : Int32).toInt = 5 := (by decide)
  have hc0 := hc
  obtain ⟨hn, hm, ht, ck, cp, ce, cw, cu, cg⟩ := hc0
  have n_alive : ¬ isW (trn (fi 0) n) n m t 418430678629 := by
    rcases gk_1 with ⟨z1, z2, z3⟩ | ⟨z1, z2⟩
    · exact absurd (z1.symm.trans tb_1) (by decide)
    · exact fun c => z2 ⟨ck.trans c.1, by rw [cw c.1]; exact c.2⟩
  have n_waits : ¬ isW (trn (fi 0) n) n m t 512735409267 := by
    rcases gk_1_1 with ⟨z1, z2, z3⟩ | ⟨z1, z2⟩
    · exact absurd (z1.symm.trans tb_3) (by decide)
    · exact fun c => z2 ⟨ck.trans c.1, by rw [cw c.1]; exact c.2⟩
  have n_fled : ¬ isW (trn (fi 0) n) n m t 1718379876 := by
    rcases gk_2_1 with ⟨z1, z2, z3⟩ | ⟨z1, z2⟩
    · exact absurd (z1.symm.trans tb_5) (by decide)
    · exact fun c => z2 ⟨ck.trans c.1, by rw [cw c.1]; exact c.2⟩
  have n_glad : ¬ isW (trn (fi 0) n) n m t 1735156068 := by
    rcases gk_3_1 with ⟨z1, z2, z3⟩ | ⟨z1, z2⟩
    · exact absurd (z1.symm.trans tb_7) (by decide)
    · exact fun c => z2 ⟨ck.trans c.1, by rw [cw c.1]; exact c.2⟩
  have n_called : ¬ isW (trn (fi 0) n) n m t 109270082020708 := by
    rcases gk_4_1 with ⟨z1, z2, z3⟩ | ⟨z1, z2⟩
    · exact absurd (z1.symm.trans tb_9) (by decide)
    · exact fun c => z2 ⟨ck.trans c.1, by rw [cw c.1]; exact c.2⟩
  have y_purse : isW (trn (fi 0) n) n m t 483006772069 := by
    rcases gk_5_1 with ⟨z1, z2, z3⟩ | ⟨z1, z2⟩
    · exact ⟨ck.symm.trans z2, by rw [← cw (ck.symm.trans z2)]; exact z3⟩
    · exact absurd (z1.symm.trans tb_11) (by decide)
  have e9 : lfi (trn (fi 0) n) n m t = 5 := by unfold lfi; rw [if_neg n_alive, if_neg n_waits, if_neg n_fled, if_neg n_glad, if_neg n_called, if_pos y_purse]
  rw [e9]
  first | decide | omega
set_option maxHeartbeats 4000000 in
theorem PL_X12_leafOf_6 {fi : Nat → Nat → Int32} {fl : Nat → Nat → Int64} {vi : Nat → Int32} {vl : Nat → Int64} {r : Int32} {fj : Nat → Nat → Int32} {fm : Nat → Nat → Int64} {vj : Nat → Int32} {vm : Nat → Int64} : RL_X12_leafOf_6 fi fl vi vl r fj fm vj vm (PS_X12_leafOf fi fl vi vl r fj fm vj vm) := by
  unfold RL_X12_leafOf_6
  intro hp0 hp1 hp2 hp3 hp4 hp5 hp6 hp7 hp8 hp9 hp10 hp11 hp12 hp13 fik flk vik vlk rk gk_1 tb_1 gk_0 fik_1 flk_1 vik_1 vlk_1 rk_1 gk_1_1 tb_3 gk_1_0 fik_2 flk_2 vik_2 vlk_2 rk_2 gk_2_1 tb_5 gk_2_0 fik_3 flk_3 vik_3 vlk_3 rk_3 gk_3_1 tb_7 gk_3_0 fik_4 flk_4 vik_4 vlk_4 rk_4 gk_4_1 tb_9 gk_4_0 fik_5 flk_5 vik_5 vlk_5 rk_5 gk_5_1 tb_11 gk_5_0 fik_6 flk_6 vik_6 vlk_6 rk_6 gk_6_1 tb_13 gk_6_0 q0; subst q0
  unfold PS_X12_leafOf
  intro n m t hc
  skip; have k9_0 : (0 : Int32).toInt = 0 := (by decide); have k9_1 : (1 : Int32).toInt = 1 := (by decide); have k9_2 : (6 : Int32).toInt = 6 := (by decide)
  have hc0 := hc
  obtain ⟨hn, hm, ht, ck, cp, ce, cw, cu, cg⟩ := hc0
  have n_alive : ¬ isW (trn (fi 0) n) n m t 418430678629 := by
    rcases gk_1 with ⟨z1, z2, z3⟩ | ⟨z1, z2⟩
    · exact absurd (z1.symm.trans tb_1) (by decide)
    · exact fun c => z2 ⟨ck.trans c.1, by rw [cw c.1]; exact c.2⟩
  have n_waits : ¬ isW (trn (fi 0) n) n m t 512735409267 := by
    rcases gk_1_1 with ⟨z1, z2, z3⟩ | ⟨z1, z2⟩
    · exact absurd (z1.symm.trans tb_3) (by decide)
    · exact fun c => z2 ⟨ck.trans c.1, by rw [cw c.1]; exact c.2⟩
  have n_fled : ¬ isW (trn (fi 0) n) n m t 1718379876 := by
    rcases gk_2_1 with ⟨z1, z2, z3⟩ | ⟨z1, z2⟩
    · exact absurd (z1.symm.trans tb_5) (by decide)
    · exact fun c => z2 ⟨ck.trans c.1, by rw [cw c.1]; exact c.2⟩
  have n_glad : ¬ isW (trn (fi 0) n) n m t 1735156068 := by
    rcases gk_3_1 with ⟨z1, z2, z3⟩ | ⟨z1, z2⟩
    · exact absurd (z1.symm.trans tb_7) (by decide)
    · exact fun c => z2 ⟨ck.trans c.1, by rw [cw c.1]; exact c.2⟩
  have n_called : ¬ isW (trn (fi 0) n) n m t 109270082020708 := by
    rcases gk_4_1 with ⟨z1, z2, z3⟩ | ⟨z1, z2⟩
    · exact absurd (z1.symm.trans tb_9) (by decide)
    · exact fun c => z2 ⟨ck.trans c.1, by rw [cw c.1]; exact c.2⟩
  have n_purse : ¬ isW (trn (fi 0) n) n m t 483006772069 := by
    rcases gk_5_1 with ⟨z1, z2, z3⟩ | ⟨z1, z2⟩
    · exact absurd (z1.symm.trans tb_11) (by decide)
    · exact fun c => z2 ⟨ck.trans c.1, by rw [cw c.1]; exact c.2⟩
  have y_owes : isW (trn (fi 0) n) n m t 1870095731 := by
    rcases gk_6_1 with ⟨z1, z2, z3⟩ | ⟨z1, z2⟩
    · exact ⟨ck.symm.trans z2, by rw [← cw (ck.symm.trans z2)]; exact z3⟩
    · exact absurd (z1.symm.trans tb_13) (by decide)
  have e9 : lfi (trn (fi 0) n) n m t = 6 := by unfold lfi; rw [if_neg n_alive, if_neg n_waits, if_neg n_fled, if_neg n_glad, if_neg n_called, if_neg n_purse, if_pos y_owes]
  rw [e9]
  first | decide | omega
set_option maxHeartbeats 4000000 in
theorem PL_X12_leafOf_7 {fi : Nat → Nat → Int32} {fl : Nat → Nat → Int64} {vi : Nat → Int32} {vl : Nat → Int64} {r : Int32} {fj : Nat → Nat → Int32} {fm : Nat → Nat → Int64} {vj : Nat → Int32} {vm : Nat → Int64} : RL_X12_leafOf_7 fi fl vi vl r fj fm vj vm (PS_X12_leafOf fi fl vi vl r fj fm vj vm) := by
  unfold RL_X12_leafOf_7
  intro hp0 hp1 hp2 hp3 hp4 hp5 hp6 hp7 hp8 hp9 hp10 hp11 hp12 hp13 fik flk vik vlk rk gk_1 tb_1 gk_0 fik_1 flk_1 vik_1 vlk_1 rk_1 gk_1_1 tb_3 gk_1_0 fik_2 flk_2 vik_2 vlk_2 rk_2 gk_2_1 tb_5 gk_2_0 fik_3 flk_3 vik_3 vlk_3 rk_3 gk_3_1 tb_7 gk_3_0 fik_4 flk_4 vik_4 vlk_4 rk_4 gk_4_1 tb_9 gk_4_0 fik_5 flk_5 vik_5 vlk_5 rk_5 gk_5_1 tb_11 gk_5_0 fik_6 flk_6 vik_6 vlk_6 rk_6 gk_6_1 tb_13 gk_6_0 fik_7 flk_7 vik_7 vlk_7 rk_7 gk_7_1 tb_15 gk_7_0 q0; subst q0
  unfold PS_X12_leafOf
  intro n m t hc
  skip; have k9_0 : (0 : Int32).toInt = 0 := (by decide); have k9_1 : (1 : Int32).toInt = 1 := (by decide); have k9_2 : (7 : Int32).toInt = 7 := (by decide)
  have hc0 := hc
  obtain ⟨hn, hm, ht, ck, cp, ce, cw, cu, cg⟩ := hc0
  have n_alive : ¬ isW (trn (fi 0) n) n m t 418430678629 := by
    rcases gk_1 with ⟨z1, z2, z3⟩ | ⟨z1, z2⟩
    · exact absurd (z1.symm.trans tb_1) (by decide)
    · exact fun c => z2 ⟨ck.trans c.1, by rw [cw c.1]; exact c.2⟩
  have n_waits : ¬ isW (trn (fi 0) n) n m t 512735409267 := by
    rcases gk_1_1 with ⟨z1, z2, z3⟩ | ⟨z1, z2⟩
    · exact absurd (z1.symm.trans tb_3) (by decide)
    · exact fun c => z2 ⟨ck.trans c.1, by rw [cw c.1]; exact c.2⟩
  have n_fled : ¬ isW (trn (fi 0) n) n m t 1718379876 := by
    rcases gk_2_1 with ⟨z1, z2, z3⟩ | ⟨z1, z2⟩
    · exact absurd (z1.symm.trans tb_5) (by decide)
    · exact fun c => z2 ⟨ck.trans c.1, by rw [cw c.1]; exact c.2⟩
  have n_glad : ¬ isW (trn (fi 0) n) n m t 1735156068 := by
    rcases gk_3_1 with ⟨z1, z2, z3⟩ | ⟨z1, z2⟩
    · exact absurd (z1.symm.trans tb_7) (by decide)
    · exact fun c => z2 ⟨ck.trans c.1, by rw [cw c.1]; exact c.2⟩
  have n_called : ¬ isW (trn (fi 0) n) n m t 109270082020708 := by
    rcases gk_4_1 with ⟨z1, z2, z3⟩ | ⟨z1, z2⟩
    · exact absurd (z1.symm.trans tb_9) (by decide)
    · exact fun c => z2 ⟨ck.trans c.1, by rw [cw c.1]; exact c.2⟩
  have n_purse : ¬ isW (trn (fi 0) n) n m t 483006772069 := by
    rcases gk_5_1 with ⟨z1, z2, z3⟩ | ⟨z1, z2⟩
    · exact absurd (z1.symm.trans tb_11) (by decide)
    · exact fun c => z2 ⟨ck.trans c.1, by rw [cw c.1]; exact c.2⟩
  have n_owes : ¬ isW (trn (fi 0) n) n m t 1870095731 := by
    rcases gk_6_1 with ⟨z1, z2, z3⟩ | ⟨z1, z2⟩
    · exact absurd (z1.symm.trans tb_13) (by decide)
    · exact fun c => z2 ⟨ck.trans c.1, by rw [cw c.1]; exact c.2⟩
  have y_feasts : isW (trn (fi 0) n) n m t 112585612686451 := by
    rcases gk_7_1 with ⟨z1, z2, z3⟩ | ⟨z1, z2⟩
    · exact ⟨ck.symm.trans z2, by rw [← cw (ck.symm.trans z2)]; exact z3⟩
    · exact absurd (z1.symm.trans tb_15) (by decide)
  have e9 : lfi (trn (fi 0) n) n m t = 7 := by unfold lfi; rw [if_neg n_alive, if_neg n_waits, if_neg n_fled, if_neg n_glad, if_neg n_called, if_neg n_purse, if_neg n_owes, if_pos y_feasts]
  rw [e9]
  first | decide | omega
set_option maxHeartbeats 4000000 in
theorem PL_X12_leafOf_8 {fi : Nat → Nat → Int32} {fl : Nat → Nat → Int64} {vi : Nat → Int32} {vl : Nat → Int64} {r : Int32} {fj : Nat → Nat → Int32} {fm : Nat → Nat → Int64} {vj : Nat → Int32} {vm : Nat → Int64} : RL_X12_leafOf_8 fi fl vi vl r fj fm vj vm (PS_X12_leafOf fi fl vi vl r fj fm vj vm) := by
  unfold RL_X12_leafOf_8
  intro hp0 hp1 hp2 hp3 hp4 hp5 hp6 hp7 hp8 hp9 hp10 hp11 hp12 hp13 fik flk vik vlk rk gk_1 tb_1 gk_0 fik_1 flk_1 vik_1 vlk_1 rk_1 gk_1_1 tb_3 gk_1_0 fik_2 flk_2 vik_2 vlk_2 rk_2 gk_2_1 tb_5 gk_2_0 fik_3 flk_3 vik_3 vlk_3 rk_3 gk_3_1 tb_7 gk_3_0 fik_4 flk_4 vik_4 vlk_4 rk_4 gk_4_1 tb_9 gk_4_0 fik_5 flk_5 vik_5 vlk_5 rk_5 gk_5_1 tb_11 gk_5_0 fik_6 flk_6 vik_6 vlk_6 rk_6 gk_6_1 tb_13 gk_6_0 fik_7 flk_7 vik_7 vlk_7 rk_7 gk_7_1 tb_15 gk_7_0 fik_8 flk_8 vik_8 vlk_8 rk_8 gk_8_1 tb_17 gk_8_0 q0; subst q0
  unfold PS_X12_leafOf
  intro n m t hc
  skip; have k9_0 : (0 : Int32).toInt = 0 := (by decide); have k9_1 : (1 : Int32).toInt = 1 := (by decide); have k9_2 : (8 : Int32).toInt = 8 := (by decide)
  have hc0 := hc
  obtain ⟨hn, hm, ht, ck, cp, ce, cw, cu, cg⟩ := hc0
  have n_alive : ¬ isW (trn (fi 0) n) n m t 418430678629 := by
    rcases gk_1 with ⟨z1, z2, z3⟩ | ⟨z1, z2⟩
    · exact absurd (z1.symm.trans tb_1) (by decide)
    · exact fun c => z2 ⟨ck.trans c.1, by rw [cw c.1]; exact c.2⟩
  have n_waits : ¬ isW (trn (fi 0) n) n m t 512735409267 := by
    rcases gk_1_1 with ⟨z1, z2, z3⟩ | ⟨z1, z2⟩
    · exact absurd (z1.symm.trans tb_3) (by decide)
    · exact fun c => z2 ⟨ck.trans c.1, by rw [cw c.1]; exact c.2⟩
  have n_fled : ¬ isW (trn (fi 0) n) n m t 1718379876 := by
    rcases gk_2_1 with ⟨z1, z2, z3⟩ | ⟨z1, z2⟩
    · exact absurd (z1.symm.trans tb_5) (by decide)
    · exact fun c => z2 ⟨ck.trans c.1, by rw [cw c.1]; exact c.2⟩
  have n_glad : ¬ isW (trn (fi 0) n) n m t 1735156068 := by
    rcases gk_3_1 with ⟨z1, z2, z3⟩ | ⟨z1, z2⟩
    · exact absurd (z1.symm.trans tb_7) (by decide)
    · exact fun c => z2 ⟨ck.trans c.1, by rw [cw c.1]; exact c.2⟩
  have n_called : ¬ isW (trn (fi 0) n) n m t 109270082020708 := by
    rcases gk_4_1 with ⟨z1, z2, z3⟩ | ⟨z1, z2⟩
    · exact absurd (z1.symm.trans tb_9) (by decide)
    · exact fun c => z2 ⟨ck.trans c.1, by rw [cw c.1]; exact c.2⟩
  have n_purse : ¬ isW (trn (fi 0) n) n m t 483006772069 := by
    rcases gk_5_1 with ⟨z1, z2, z3⟩ | ⟨z1, z2⟩
    · exact absurd (z1.symm.trans tb_11) (by decide)
    · exact fun c => z2 ⟨ck.trans c.1, by rw [cw c.1]; exact c.2⟩
  have n_owes : ¬ isW (trn (fi 0) n) n m t 1870095731 := by
    rcases gk_6_1 with ⟨z1, z2, z3⟩ | ⟨z1, z2⟩
    · exact absurd (z1.symm.trans tb_13) (by decide)
    · exact fun c => z2 ⟨ck.trans c.1, by rw [cw c.1]; exact c.2⟩
  have n_feasts : ¬ isW (trn (fi 0) n) n m t 112585612686451 := by
    rcases gk_7_1 with ⟨z1, z2, z3⟩ | ⟨z1, z2⟩
    · exact absurd (z1.symm.trans tb_15) (by decide)
    · exact fun c => z2 ⟨ck.trans c.1, by rw [cw c.1]; exact c.2⟩
  have y_number : isW (trn (fi 0) n) n m t 121450625394034 := by
    rcases gk_8_1 with ⟨z1, z2, z3⟩ | ⟨z1, z2⟩
    · exact ⟨ck.symm.trans z2, by rw [← cw (ck.symm.trans z2)]; exact z3⟩
    · exact absurd (z1.symm.trans tb_17) (by decide)
  have e9 : lfi (trn (fi 0) n) n m t = 8 := by unfold lfi; rw [if_neg n_alive, if_neg n_waits, if_neg n_fled, if_neg n_glad, if_neg n_called, if_neg n_purse, if_neg n_owes, if_neg n_feasts, if_pos y_number]
  rw [e9]
  first | decide | omega
