def RL_X12_next_18 (fi : Nat → Nat → Int32) (fl : Nat → Nat → Int64) (vi : Nat → Int32) (vl : Nat → Int64) (r : Int32) (fj : Nat → Nat → Int32) (fm : Nat → Nat → Int64) (vj : Nat → Int32) (vm : Nat → Int64) (Q9 : Prop) : Prop :=
  (0 ≤ (vi 1).toInt ∧ (vi 1).toInt ≤ 940) → (0 ≤ (vi 2).toInt ∧ (vi 2).toInt ≤ 940) → (0 ≤ (vi 3).toInt ∧ (vi 3).toInt ≤ 940) → (0 ≤ (vi 4).toInt ∧ (vi 4).toInt ≤ 940) → (0 ≤ (vi 5).toInt ∧ (vi 5).toInt ≤ 4) → (0 ≤ (vi 6).toInt ∧ (vi 6).toInt ≤ 940) → (0 ≤ (vi 10).toInt ∧ (vi 10).toInt ≤ 940) → (0 ≤ (vi 14).toInt ∧ (vi 14).toInt ≤ 4) → (-1 ≤ (vi 15).toInt ∧ (vi 15).toInt ≤ 9) → (0 ≤ (vi 21).toInt ∧ (vi 21).toInt ≤ 40) → (0 ≤ (vi 23).toInt ∧ (vi 23).toInt ≤ 40) → (0 ≤ (vi 24).toInt ∧ (vi 24).toInt ≤ 20) → (0 ≤ (vi 25).toInt ∧ (vi 25).toInt ≤ 40) → (0 ≤ (vi 27).toInt ∧ (vi 27).toInt ≤ 1) → (rg (fi 0) 0 940 (-128) 127) → ∀ (wv : Int32), (0 ≤ wv.toInt ∧ wv.toInt ≤ 940) → ((vi 3).toInt ≤ (wv).toInt) → (skp (fi 0) (vi 2).toInt (vi 3).toInt (wv).toInt) → ∀ (fik : Nat → Nat → Int32), ∀ (flk : Nat → Nat → Int64), ∀ (vik : Nat → Int32), ∀ (vlk : Nat → Int64), ∀ (rk : Int32), (-1 ≤ rk.toInt ∧ rk.toInt ≤ 255 ∧ (rk.toInt = -1 ∨ (wv).toInt < (vi 2).toInt)) → (rk.toInt = (pk (fi 0) wv (vi 2)).toInt) → (¬ rk.toInt = 32) → ∀ (fik_1 : Nat → Nat → Int32), ∀ (flk_1 : Nat → Nat → Int64), ∀ (vik_1 : Nat → Int32), ∀ (vlk_1 : Nat → Int64), ∀ (rk_1 : Int32), (-1 ≤ rk_1.toInt ∧ rk_1.toInt ≤ 255 ∧ (rk_1.toInt = -1 ∨ (wv).toInt < (vi 2).toInt)) → (rk_1.toInt = (pk (fi 0) wv (vi 2)).toInt) → (¬ rk_1.toInt = 10) → (¬ (vi 2).toInt ≤ (vi 4).toInt) → (wv.toInt < (vi 4).toInt) → ∀ (fik_17 : Nat → Nat → Int32), ∀ (flk_17 : Nat → Nat → Int64), ∀ (vik_17 : Nat → Int32), ∀ (vlk_17 : Nat → Int64), ∀ (rk_17 : Int32), (-1 ≤ rk_17.toInt ∧ rk_17.toInt ≤ 255 ∧ (rk_17.toInt = -1 ∨ (wv).toInt < (vi 2).toInt)) → (rk_17.toInt = (pk (fi 0) wv (vi 2)).toInt) → (rk_17.toInt < 0) → (vj 0 = wv) → (vj 1 = wv) → (vj 2 = (0 : Int32)) → (vj 3 = (vi 8)) → (vj 4 = (0 : Int32)) → (vm 0 = (vl 0)) → Q9
def RL_X12_next_19 (fi : Nat → Nat → Int32) (fl : Nat → Nat → Int64) (vi : Nat → Int32) (vl : Nat → Int64) (r : Int32) (fj : Nat → Nat → Int32) (fm : Nat → Nat → Int64) (vj : Nat → Int32) (vm : Nat → Int64) (Q9 : Prop) : Prop :=
  (0 ≤ (vi 1).toInt ∧ (vi 1).toInt ≤ 940) → (0 ≤ (vi 2).toInt ∧ (vi 2).toInt ≤ 940) → (0 ≤ (vi 3).toInt ∧ (vi 3).toInt ≤ 940) → (0 ≤ (vi 4).toInt ∧ (vi 4).toInt ≤ 940) → (0 ≤ (vi 5).toInt ∧ (vi 5).toInt ≤ 4) → (0 ≤ (vi 6).toInt ∧ (vi 6).toInt ≤ 940) → (0 ≤ (vi 10).toInt ∧ (vi 10).toInt ≤ 940) → (0 ≤ (vi 14).toInt ∧ (vi 14).toInt ≤ 4) → (-1 ≤ (vi 15).toInt ∧ (vi 15).toInt ≤ 9) → (0 ≤ (vi 21).toInt ∧ (vi 21).toInt ≤ 40) → (0 ≤ (vi 23).toInt ∧ (vi 23).toInt ≤ 40) → (0 ≤ (vi 24).toInt ∧ (vi 24).toInt ≤ 20) → (0 ≤ (vi 25).toInt ∧ (vi 25).toInt ≤ 40) → (0 ≤ (vi 27).toInt ∧ (vi 27).toInt ≤ 1) → (rg (fi 0) 0 940 (-128) 127) → ∀ (wv : Int32), (0 ≤ wv.toInt ∧ wv.toInt ≤ 940) → ((vi 3).toInt ≤ (wv).toInt) → (skp (fi 0) (vi 2).toInt (vi 3).toInt (wv).toInt) → ∀ (fik : Nat → Nat → Int32), ∀ (flk : Nat → Nat → Int64), ∀ (vik : Nat → Int32), ∀ (vlk : Nat → Int64), ∀ (rk : Int32), (-1 ≤ rk.toInt ∧ rk.toInt ≤ 255 ∧ (rk.toInt = -1 ∨ (wv).toInt < (vi 2).toInt)) → (rk.toInt = (pk (fi 0) wv (vi 2)).toInt) → (¬ rk.toInt = 32) → ∀ (fik_1 : Nat → Nat → Int32), ∀ (flk_1 : Nat → Nat → Int64), ∀ (vik_1 : Nat → Int32), ∀ (vlk_1 : Nat → Int64), ∀ (rk_1 : Int32), (-1 ≤ rk_1.toInt ∧ rk_1.toInt ≤ 255 ∧ (rk_1.toInt = -1 ∨ (wv).toInt < (vi 2).toInt)) → (rk_1.toInt = (pk (fi 0) wv (vi 2)).toInt) → (¬ rk_1.toInt = 10) → (¬ (vi 2).toInt ≤ (vi 4).toInt) → (¬ wv.toInt < (vi 4).toInt) → (vj 0 = wv) → (vj 1 = (vi 4)) → (vj 2 = (0 : Int32)) → (vj 3 = (vi 8)) → (vj 4 = (4 : Int32)) → (vm 0 = (vl 0)) → Q9
def R_X12_next (fi : Nat → Nat → Int32) (fl : Nat → Nat → Int64) (vi : Nat → Int32) (vl : Nat → Int64) (r : Int32) (fj : Nat → Nat → Int32) (fm : Nat → Nat → Int64) (vj : Nat → Int32) (vm : Nat → Int64) : Prop :=
  ∀ Q9 : Prop, RL_X12_next_0 fi fl vi vl r fj fm vj vm Q9 → RL_X12_next_1 fi fl vi vl r fj fm vj vm Q9 → RL_X12_next_2 fi fl vi vl r fj fm vj vm Q9 → RL_X12_next_3 fi fl vi vl r fj fm vj vm Q9 → RL_X12_next_4 fi fl vi vl r fj fm vj vm Q9 → RL_X12_next_5 fi fl vi vl r fj fm vj vm Q9 → RL_X12_next_6 fi fl vi vl r fj fm vj vm Q9 → RL_X12_next_7 fi fl vi vl r fj fm vj vm Q9 → RL_X12_next_8 fi fl vi vl r fj fm vj vm Q9 → RL_X12_next_9 fi fl vi vl r fj fm vj vm Q9 → RL_X12_next_10 fi fl vi vl r fj fm vj vm Q9 → RL_X12_next_11 fi fl vi vl r fj fm vj vm Q9 → RL_X12_next_12 fi fl vi vl r fj fm vj vm Q9 → RL_X12_next_13 fi fl vi vl r fj fm vj vm Q9 → RL_X12_next_14 fi fl vi vl r fj fm vj vm Q9 → RL_X12_next_15 fi fl vi vl r fj fm vj vm Q9 → RL_X12_next_16 fi fl vi vl r fj fm vj vm Q9 → RL_X12_next_17 fi fl vi vl r fj fm vj vm Q9 → RL_X12_next_18 fi fl vi vl r fj fm vj vm Q9 → RL_X12_next_19 fi fl vi vl r fj fm vj vm Q9 → Q9
def PS_X12_next (fi : Nat → Nat → Int32) (fl : Nat → Nat → Int64) (vi : Nat → Int32) (vl : Nat → Int64) (r : Int32) (fj : Nat → Nat → Int32) (fm : Nat → Nat → Int64) (vj : Nat → Int32) (vm : Nat → Int64) : Prop :=
  ∀ n m : Nat, (vi 2).toInt = (n : Int) → (vi 4).toInt = (m : Int) → (vi 3).toInt ≤ (vi 2).toInt → CC (trn (fi 0) n) n m ((vi 3).toInt).toNat (vi 2) (vi 4) (vj 4) (vj 1) (vj 0) (vm 0) (vj 3) (vj 3)
set_option maxHeartbeats 4000000 in
theorem PL_X12_next_0 {fi : Nat → Nat → Int32} {fl : Nat → Nat → Int64} {vi : Nat → Int32} {vl : Nat → Int64} {r : Int32} {fj : Nat → Nat → Int32} {fm : Nat → Nat → Int64} {vj : Nat → Int32} {vm : Nat → Int64} : RL_X12_next_0 fi fl vi vl r fj fm vj vm (PS_X12_next fi fl vi vl r fj fm vj vm) := by
  unfold RL_X12_next_0
  intro hp0 hp1 hp2 hp3 hp4 hp5 hp6 hp7 hp8 hp9 hp10 hp11 hp12 hp13 hp14 wv hi hpl9 hsk9 fik flk vik vlk rk gk_0 gk_1 c6 fik_1 flk_1 vik_1 vlk_1 rk_1 gk_1_0 gk_1_1 c15 w3 w2 wv_1 wv_2 wv_3 wv_4 wv_5 wv_6 hi_1 hi_2 hi_3 hi_4 hi_5 hi_6 hx1 hx2 hx3 hnv9 hska9 hnb9 hlm9 hps9 fik_4 flk_4 vik_4 vlk_4 rk_4 gk_4_0 gk_4_1 fik_5 flk_5 vik_5 vlk_5 rk_5 tb_1 gk_5_0 fik_8 flk_8 vik_8 vlk_8 rk_8 gk_8_0 gk_8_1 fik_9 flk_9 vik_9 vlk_9 rk_9 tb_5 gk_9_0 c300 q0 q1 q2 q3 q4 q5
  unfold PS_X12_next
  intro n m hn hm hal
  (try simp only [q0, q1, q2, q3, q4, q5]); have k9_0 : (0 : Int32).toInt = 0 := (by decide); have k9_1 : (1 : Int32).toInt = 1 := (by decide); have k9_2 : (4 : Int32).toInt = 4 := (by decide)
  refine CC_ot hn hm ?_
  exact CTa_nv hska9 (by omega) hal (by omega) hnb9 hlm9 hnv9 (tal_m (by omega) (by omega) hp14 ⟨by omega, by omega⟩) (by omega)
set_option maxHeartbeats 4000000 in
theorem PL_X12_next_1 {fi : Nat → Nat → Int32} {fl : Nat → Nat → Int64} {vi : Nat → Int32} {vl : Nat → Int64} {r : Int32} {fj : Nat → Nat → Int32} {fm : Nat → Nat → Int64} {vj : Nat → Int32} {vm : Nat → Int64} : RL_X12_next_1 fi fl vi vl r fj fm vj vm (PS_X12_next fi fl vi vl r fj fm vj vm) := by
  unfold RL_X12_next_1
  intro hp0 hp1 hp2 hp3 hp4 hp5 hp6 hp7 hp8 hp9 hp10 hp11 hp12 hp13 hp14 wv hi hpl9 hsk9 fik flk vik vlk rk gk_0 gk_1 c6 fik_1 flk_1 vik_1 vlk_1 rk_1 gk_1_0 gk_1_1 c15 w3 w2 wv_1 wv_2 wv_3 wv_4 wv_5 wv_6 hi_1 hi_2 hi_3 hi_4 hi_5 hi_6 hx1 hx2 hx3 hnv9 hska9 hnb9 hlm9 hps9 fik_4 flk_4 vik_4 vlk_4 rk_4 gk_4_0 gk_4_1 fik_5 flk_5 vik_5 vlk_5 rk_5 tb_1 gk_5_0 fik_8 flk_8 vik_8 vlk_8 rk_8 gk_8_0 gk_8_1 fik_9 flk_9 vik_9 vlk_9 rk_9 tb_5 gk_9_0 c300 c308 c317 q0 q1 q2 q3 q4 q5
  unfold PS_X12_next
  intro n m hn hm hal
  (try simp only [q0, q1, q2, q3, q4, q5]); have k9_0 : (0 : Int32).toInt = 0 := (by decide); have k9_1 : (1 : Int32).toInt = 1 := (by decide); have k9_2 : (2 : Int32).toInt = 2 := (by decide)
  refine CC_ot hn hm ?_
  exact CTa_nv hska9 (by omega) hal (by omega) hnb9 hlm9 hnv9 (tal_m (by omega) (by omega) hp14 ⟨by omega, by omega⟩) (by omega)
set_option maxHeartbeats 4000000 in
theorem PL_X12_next_2 {fi : Nat → Nat → Int32} {fl : Nat → Nat → Int64} {vi : Nat → Int32} {vl : Nat → Int64} {r : Int32} {fj : Nat → Nat → Int32} {fm : Nat → Nat → Int64} {vj : Nat → Int32} {vm : Nat → Int64} : RL_X12_next_2 fi fl vi vl r fj fm vj vm (PS_X12_next fi fl vi vl r fj fm vj vm) := by
  unfold RL_X12_next_2
  intro hp0 hp1 hp2 hp3 hp4 hp5 hp6 hp7 hp8 hp9 hp10 hp11 hp12 hp13 hp14 wv hi hpl9 hsk9 fik flk vik vlk rk gk_0 gk_1 c6 fik_1 flk_1 vik_1 vlk_1 rk_1 gk_1_0 gk_1_1 c15 w3 w2 wv_1 wv_2 wv_3 wv_4 wv_5 wv_6 hi_1 hi_2 hi_3 hi_4 hi_5 hi_6 hx1 hx2 hx3 hnv9 hska9 hnb9 hlm9 hps9 fik_4 flk_4 vik_4 vlk_4 rk_4 gk_4_0 gk_4_1 fik_5 flk_5 vik_5 vlk_5 rk_5 tb_1 gk_5_0 fik_8 flk_8 vik_8 vlk_8 rk_8 gk_8_0 gk_8_1 fik_9 flk_9 vik_9 vlk_9 rk_9 tb_5 gk_9_0 c300 c308 c317 q0 q1 q2 q3 q4 q5
  unfold PS_X12_next
  intro n m hn hm hal
  (try simp only [q0, q1, q2, q3, q4, q5]); have k9_0 : (0 : Int32).toInt = 0 := (by decide); have k9_1 : (1 : Int32).toInt = 1 := (by decide); have k9_2 : (4 : Int32).toInt = 4 := (by decide)
  refine CC_ot hn hm ?_
  exact CTa_nv hska9 (by omega) hal (by omega) hnb9 hlm9 hnv9 (tal_m (by omega) (by omega) hp14 ⟨by omega, by omega⟩) (by omega)
set_option maxHeartbeats 4000000 in
theorem PL_X12_next_3 {fi : Nat → Nat → Int32} {fl : Nat → Nat → Int64} {vi : Nat → Int32} {vl : Nat → Int64} {r : Int32} {fj : Nat → Nat → Int32} {fm : Nat → Nat → Int64} {vj : Nat → Int32} {vm : Nat → Int64} : RL_X12_next_3 fi fl vi vl r fj fm vj vm (PS_X12_next fi fl vi vl r fj fm vj vm) := by
  unfold RL_X12_next_3
  intro hp0 hp1 hp2 hp3 hp4 hp5 hp6 hp7 hp8 hp9 hp10 hp11 hp12 hp13 hp14 wv hi hpl9 hsk9 fik flk vik vlk rk gk_0 gk_1 c6 fik_1 flk_1 vik_1 vlk_1 rk_1 gk_1_0 gk_1_1 c15 w3 w2 wv_1 wv_2 wv_3 wv_4 wv_5 wv_6 hi_1 hi_2 hi_3 hi_4 hi_5 hi_6 hx1 hx2 hx3 hnv9 hska9 hnb9 hlm9 hps9 fik_4 flk_4 vik_4 vlk_4 rk_4 gk_4_0 gk_4_1 fik_5 flk_5 vik_5 vlk_5 rk_5 tb_1 gk_5_0 fik_8 flk_8 vik_8 vlk_8 rk_8 gk_8_0 gk_8_1 fik_9 flk_9 vik_9 vlk_9 rk_9 tb_5 gk_9_0 c300 c308 c317_1 q0 q1 q2 q3 q4 q5
  unfold PS_X12_next
  intro n m hn hm hal
  (try simp only [q0, q1, q2, q3, q4, q5]); have k9_0 : (0 : Int32).toInt = 0 := (by decide); have k9_1 : (1 : Int32).toInt = 1 := (by decide)
  refine CC_ot hn hm ?_
  exact CTa_nv hska9 (by omega) hal (by omega) hnb9 hlm9 hnv9 (tal_m (by omega) (by omega) hp14 ⟨by omega, by omega⟩) (by omega)
set_option maxHeartbeats 4000000 in
theorem PL_X12_next_4 {fi : Nat → Nat → Int32} {fl : Nat → Nat → Int64} {vi : Nat → Int32} {vl : Nat → Int64} {r : Int32} {fj : Nat → Nat → Int32} {fm : Nat → Nat → Int64} {vj : Nat → Int32} {vm : Nat → Int64} : RL_X12_next_4 fi fl vi vl r fj fm vj vm (PS_X12_next fi fl vi vl r fj fm vj vm) := by
  unfold RL_X12_next_4
  intro hp0 hp1 hp2 hp3 hp4 hp5 hp6 hp7 hp8 hp9 hp10 hp11 hp12 hp13 hp14 wv hi hpl9 hsk9 fik flk vik vlk rk gk_0 gk_1 c6 fik_1 flk_1 vik_1 vlk_1 rk_1 gk_1_0 gk_1_1 c15 w3 w2 wv_1 wv_2 wv_3 wv_4 wv_5 wv_6 hi_1 hi_2 hi_3 hi_4 hi_5 hi_6 hx1 hx2 hx3 hnv9 hska9 hnb9 hlm9 hps9 fik_4 flk_4 vik_4 vlk_4 rk_4 gk_4_0 gk_4_1 fik_5 flk_5 vik_5 vlk_5 rk_5 tb_1 gk_5_0 fik_8 flk_8 vik_8 vlk_8 rk_8 gk_8_0 gk_8_1 fik_9 flk_9 vik_9 vlk_9 rk_9 tb_5 gk_9_0 c300 c308 c317_1 q0 q1 q2 q3 q4 q5
  unfold PS_X12_next
  intro n m hn hm hal
  (try simp only [q0, q1, q2, q3, q4, q5]); have k9_0 : (0 : Int32).toInt = 0 := (by decide); have k9_1 : (1 : Int32).toInt = 1 := (by decide); have k9_2 : (4 : Int32).toInt = 4 := (by decide)
  refine CC_ot hn hm ?_
  exact CTa_nv hska9 (by omega) hal (by omega) hnb9 hlm9 hnv9 (tal_m (by omega) (by omega) hp14 ⟨by omega, by omega⟩) (by omega)
set_option maxHeartbeats 4000000 in
theorem PL_X12_next_5 {fi : Nat → Nat → Int32} {fl : Nat → Nat → Int64} {vi : Nat → Int32} {vl : Nat → Int64} {r : Int32} {fj : Nat → Nat → Int32} {fm : Nat → Nat → Int64} {vj : Nat → Int32} {vm : Nat → Int64} : RL_X12_next_5 fi fl vi vl r fj fm vj vm (PS_X12_next fi fl vi vl r fj fm vj vm) := by
  unfold RL_X12_next_5
  intro hp0 hp1 hp2 hp3 hp4 hp5 hp6 hp7 hp8 hp9 hp10 hp11 hp12 hp13 hp14 wv hi hpl9 hsk9 fik flk vik vlk rk gk_0 gk_1 c6 fik_1 flk_1 vik_1 vlk_1 rk_1 gk_1_0 gk_1_1 c15 c52 fik_12 flk_12 vik_12 vlk_12 rk_12 gk_12_0 gk_12_1 c86 fik_13 flk_13 vik_13 vlk_13 rk_13 tb_9 gk_13_0 fik_15 flk_15 vik_15 vlk_15 rk_15 tb_13 gk_15_0 c113 tt_3 q0 q1 q2 q3 q4 q5
  unfold PS_X12_next
  intro n m hn hm hal
  (try simp only [q0, q1, q2, q3, q4, q5]); have k9_0 : (0 : Int32).toInt = 0 := (by decide); have k9_1 : (1 : Int32).toInt = 1 := (by decide); have k9_2 : (3 : Int32).toInt = 3 := (by decide)
  refine CC_ot hn hm ?_
  have h7 := skp_le hsk9 hal
  have h8 := pkb_c (f := (fi 0)) (p := wv) (n := (vi 2)) (by omega) (by omega) hp14
  have h6 := tbl_m (f := (fi 0)) (i := wv) (n := (vi 2)) (by omega) (by omega) hp14 ⟨by omega, by omega⟩
  first | exact CTa_end hsk9 (by omega) hal (by omega) h6 (by omega) (by omega) | exact CTa_sign hsk9 (by omega) hal (by omega) h6 (by omega) (by omega) (by omega) (by omega) (by omega)
set_option maxHeartbeats 4000000 in
theorem PL_X12_next_6 {fi : Nat → Nat → Int32} {fl : Nat → Nat → Int64} {vi : Nat → Int32} {vl : Nat → Int64} {r : Int32} {fj : Nat → Nat → Int32} {fm : Nat → Nat → Int64} {vj : Nat → Int32} {vm : Nat → Int64} : RL_X12_next_6 fi fl vi vl r fj fm vj vm (PS_X12_next fi fl vi vl r fj fm vj vm) := by
  unfold RL_X12_next_6
  intro hp0 hp1 hp2 hp3 hp4 hp5 hp6 hp7 hp8 hp9 hp10 hp11 hp12 hp13 hp14 wv hi hpl9 hsk9 fik flk vik vlk rk gk_0 gk_1 c6 fik_1 flk_1 vik_1 vlk_1 rk_1 gk_1_0 gk_1_1 c15 c52 fik_12 flk_12 vik_12 vlk_12 rk_12 gk_12_0 gk_12_1 c86 fik_13 flk_13 vik_13 vlk_13 rk_13 tb_9 gk_13_0 fik_15 flk_15 vik_15 vlk_15 rk_15 tb_13 gk_15_0 c113 c119 tt_4 q0 q1 q2 q3 q4 q5
  unfold PS_X12_next
  intro n m hn hm hal
  (try simp only [q0, q1, q2, q3, q4, q5]); have k9_0 : (0 : Int32).toInt = 0 := (by decide); have k9_1 : (1 : Int32).toInt = 1 := (by decide); have k9_2 : (3 : Int32).toInt = 3 := (by decide)
  refine CC_ot hn hm ?_
  have h7 := skp_le hsk9 hal
  have h8 := pkb_c (f := (fi 0)) (p := wv) (n := (vi 2)) (by omega) (by omega) hp14
  have h6 := tbl_m (f := (fi 0)) (i := wv) (n := (vi 2)) (by omega) (by omega) hp14 ⟨by omega, by omega⟩
  first | exact CTa_end hsk9 (by omega) hal (by omega) h6 (by omega) (by omega) | exact CTa_sign hsk9 (by omega) hal (by omega) h6 (by omega) (by omega) (by omega) (by omega) (by omega)
set_option maxHeartbeats 4000000 in
theorem PL_X12_next_7 {fi : Nat → Nat → Int32} {fl : Nat → Nat → Int64} {vi : Nat → Int32} {vl : Nat → Int64} {r : Int32} {fj : Nat → Nat → Int32} {fm : Nat → Nat → Int64} {vj : Nat → Int32} {vm : Nat → Int64} : RL_X12_next_7 fi fl vi vl r fj fm vj vm (PS_X12_next fi fl vi vl r fj fm vj vm) := by
  unfold RL_X12_next_7
  intro hp0 hp1 hp2 hp3 hp4 hp5 hp6 hp7 hp8 hp9 hp10 hp11 hp12 hp13 hp14 wv hi hpl9 hsk9 fik flk vik vlk rk gk_0 gk_1 c6 fik_1 flk_1 vik_1 vlk_1 rk_1 gk_1_0 gk_1_1 c15 c52 fik_12 flk_12 vik_12 vlk_12 rk_12 gk_12_0 gk_12_1 c86 fik_13 flk_13 vik_13 vlk_13 rk_13 tb_9 gk_13_0 fik_15 flk_15 vik_15 vlk_15 rk_15 tb_13 gk_15_0 c113 c119 c125 tt_5 q0 q1 q2 q3 q4 q5
  unfold PS_X12_next
  intro n m hn hm hal
  (try simp only [q0, q1, q2, q3, q4, q5]); have k9_0 : (0 : Int32).toInt = 0 := (by decide); have k9_1 : (1 : Int32).toInt = 1 := (by decide); have k9_2 : (3 : Int32).toInt = 3 := (by decide)
  refine CC_ot hn hm ?_
  have h7 := skp_le hsk9 hal
  have h8 := pkb_c (f := (fi 0)) (p := wv) (n := (vi 2)) (by omega) (by omega) hp14
  have h6 := tbl_m (f := (fi 0)) (i := wv) (n := (vi 2)) (by omega) (by omega) hp14 ⟨by omega, by omega⟩
  first | exact CTa_end hsk9 (by omega) hal (by omega) h6 (by omega) (by omega) | exact CTa_sign hsk9 (by omega) hal (by omega) h6 (by omega) (by omega) (by omega) (by omega) (by omega)
set_option maxHeartbeats 4000000 in
theorem PL_X12_next_8 {fi : Nat → Nat → Int32} {fl : Nat → Nat → Int64} {vi : Nat → Int32} {vl : Nat → Int64} {r : Int32} {fj : Nat → Nat → Int32} {fm : Nat → Nat → Int64} {vj : Nat → Int32} {vm : Nat → Int64} : RL_X12_next_8 fi fl vi vl r fj fm vj vm (PS_X12_next fi fl vi vl r fj fm vj vm) := by
  unfold RL_X12_next_8
  intro hp0 hp1 hp2 hp3 hp4 hp5 hp6 hp7 hp8 hp9 hp10 hp11 hp12 hp13 hp14 wv hi hpl9 hsk9 fik flk vik vlk rk gk_0 gk_1 c6 fik_1 flk_1 vik_1 vlk_1 rk_1 gk_1_0 gk_1_1 c15 c52 fik_12 flk_12 vik_12 vlk_12 rk_12 gk_12_0 gk_12_1 c86 fik_13 flk_13 vik_13 vlk_13 rk_13 tb_9 gk_13_0 fik_15 flk_15 vik_15 vlk_15 rk_15 tb_13 gk_15_0 c113 c119 c125 c131 tt_6 q0 q1 q2 q3 q4 q5
  unfold PS_X12_next
  intro n m hn hm hal
  (try simp only [q0, q1, q2, q3, q4, q5]); have k9_0 : (0 : Int32).toInt = 0 := (by decide); have k9_1 : (1 : Int32).toInt = 1 := (by decide); have k9_2 : (4 : Int32).toInt = 4 := (by decide)
  refine CC_ot hn hm ?_
  have h7 := skp_le hsk9 hal
  have h8 := pkb_c (f := (fi 0)) (p := wv) (n := (vi 2)) (by omega) (by omega) hp14
  have h6 := tbl_m (f := (fi 0)) (i := wv) (n := (vi 2)) (by omega) (by omega) hp14 ⟨by omega, by omega⟩
  first | exact CTa_end hsk9 (by omega) hal (by omega) h6 (by omega) (by omega) | exact CTa_sign hsk9 (by omega) hal (by omega) h6 (by omega) (by omega) (by omega) (by omega) (by omega)
set_option maxHeartbeats 4000000 in
theorem PL_X12_next_9 {fi : Nat → Nat → Int32} {fl : Nat → Nat → Int64} {vi : Nat → Int32} {vl : Nat → Int64} {r : Int32} {fj : Nat → Nat → Int32} {fm : Nat → Nat → Int64} {vj : Nat → Int32} {vm : Nat → Int64} : RL_X12_next_9 fi fl vi vl r fj fm vj vm (PS_X12_next fi fl vi vl r fj fm vj vm) := by
  unfold RL_X12_next_9
  intro hp0 hp1 hp2 hp3 hp4 hp5 hp6 hp7 hp8 hp9 hp10 hp11 hp12 hp13 hp14 wv hi hpl9 hsk9 fik flk vik vlk rk gk_0 gk_1 c6 fik_1 flk_1 vik_1 vlk_1 rk_1 gk_1_0 gk_1_1 c15 c52 fik_12 flk_12 vik_12 vlk_12 rk_12 gk_12_0 gk_12_1 c86 fik_13 flk_13 vik_13 vlk_13 rk_13 tb_9 gk_13_0 fik_15 flk_15 vik_15 vlk_15 rk_15 tb_13 gk_15_0 c113 c119 c125 c131 c137 tt_7 q0 q1 q2 q3 q4 q5
  unfold PS_X12_next
  intro n m hn hm hal
  (try simp only [q0, q1, q2, q3, q4, q5]); have k9_0 : (0 : Int32).toInt = 0 := (by decide); have k9_1 : (1 : Int32).toInt = 1 := (by decide); have k9_2 : (4 : Int32).toInt = 4 := (by decide)
  refine CC_ot hn hm ?_
  have h7 := skp_le hsk9 hal
  have h8 := pkb_c (f := (fi 0)) (p := wv) (n := (vi 2)) (by omega) (by omega) hp14
  have h6 := tbl_m (f := (fi 0)) (i := wv) (n := (vi 2)) (by omega) (by omega) hp14 ⟨by omega, by omega⟩
  first | exact CTa_end hsk9 (by omega) hal (by omega) h6 (by omega) (by omega) | exact CTa_sign hsk9 (by omega) hal (by omega) h6 (by omega) (by omega) (by omega) (by omega) (by omega)
set_option maxHeartbeats 4000000 in
theorem PL_X12_next_10 {fi : Nat → Nat → Int32} {fl : Nat → Nat → Int64} {vi : Nat → Int32} {vl : Nat → Int64} {r : Int32} {fj : Nat → Nat → Int32} {fm : Nat → Nat → Int64} {vj : Nat → Int32} {vm : Nat → Int64} : RL_X12_next_10 fi fl vi vl r fj fm vj vm (PS_X12_next fi fl vi vl r fj fm vj vm) := by
  unfold RL_X12_next_10
  intro hp0 hp1 hp2 hp3 hp4 hp5 hp6 hp7 hp8 hp9 hp10 hp11 hp12 hp13 hp14 wv hi hpl9 hsk9 fik flk vik vlk rk gk_0 gk_1 c6 fik_1 flk_1 vik_1 vlk_1 rk_1 gk_1_0 gk_1_1 c15 c52 fik_12 flk_12 vik_12 vlk_12 rk_12 gk_12_0 gk_12_1 c86 fik_13 flk_13 vik_13 vlk_13 rk_13 tb_9 gk_13_0 fik_15 flk_15 vik_15 vlk_15 rk_15 tb_13 gk_15_0 c113 c119 c125 c131 c137 tt_8 q0 q1 q2 q3 q4 q5
  unfold PS_X12_next
  intro n m hn hm hal
  (try simp only [q0, q1, q2, q3, q4, q5]); have k9_0 : (0 : Int32).toInt = 0 := (by decide); have k9_1 : (1 : Int32).toInt = 1 := (by decide); have k9_2 : (3 : Int32).toInt = 3 := (by decide)
  refine CC_ot hn hm ?_
  have h7 := skp_le hsk9 hal
  have h8 := pkb_c (f := (fi 0)) (p := wv) (n := (vi 2)) (by omega) (by omega) hp14
  have h6 := tbl_m (f := (fi 0)) (i := wv) (n := (vi 2)) (by omega) (by omega) hp14 ⟨by omega, by omega⟩
  first | exact CTa_end hsk9 (by omega) hal (by omega) h6 (by omega) (by omega) | exact CTa_sign hsk9 (by omega) hal (by omega) h6 (by omega) (by omega) (by omega) (by omega) (by omega)
