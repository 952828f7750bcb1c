set_option maxHeartbeats 4000000 in
theorem PL_X12_next_11 {fi : Nat → Nat → Int32} {fl : Nat → Nat → Int64} {vi : Nat → Int32} {vl : Nat → Int64} {r : Int32} {fj : Nat → Nat → Int32} {fm : Nat → Nat → Int64} {vj : Nat → Int32} {vm : Nat → Int64} : RL_X12_next_11 fi fl vi vl r fj fm vj vm (PS_X12_next fi fl vi vl r fj fm vj vm) := by
  unfold RL_X12_next_11
  intro hp0 hp1 hp2 hp3 hp4 hp5 hp6 hp7 hp8 hp9 hp10 hp11 hp12 hp13 hp14 wv hi hpl9 hsk9 fik flk vik vlk rk gk_0 gk_1 c6 fik_1 flk_1 vik_1 vlk_1 rk_1 gk_1_0 gk_1_1 c15 c52 fik_12 flk_12 vik_12 vlk_12 rk_12 gk_12_0 gk_12_1 c86 q0 q1 q2 q3 q4 q5
  unfold PS_X12_next
  intro n m hn hm hal
  (try simp only [q0, q1, q2, q3, q4, q5]); have k9_0 : (0 : Int32).toInt = 0 := (by decide); have k9_1 : (1 : Int32).toInt = 1 := (by decide)
  refine CC_ot hn hm ?_
  have h7 := skp_le hsk9 hal
  have h8 := pkb_c (f := (fi 0)) (p := wv) (n := (vi 2)) (by omega) (by omega) hp14
  have h6 := tbl_m (f := (fi 0)) (i := wv) (n := (vi 2)) (by omega) (by omega) hp14 ⟨by omega, by omega⟩
  first | exact CTa_end hsk9 (by omega) hal (by omega) h6 (by omega) (by omega) | exact CTa_sign hsk9 (by omega) hal (by omega) h6 (by omega) (by omega) (by omega) (by omega) (by omega)
set_option maxHeartbeats 4000000 in
theorem PL_X12_next_12 {fi : Nat → Nat → Int32} {fl : Nat → Nat → Int64} {vi : Nat → Int32} {vl : Nat → Int64} {r : Int32} {fj : Nat → Nat → Int32} {fm : Nat → Nat → Int64} {vj : Nat → Int32} {vm : Nat → Int64} : RL_X12_next_12 fi fl vi vl r fj fm vj vm (PS_X12_next fi fl vi vl r fj fm vj vm) := by
  unfold RL_X12_next_12
  intro hp0 hp1 hp2 hp3 hp4 hp5 hp6 hp7 hp8 hp9 hp10 hp11 hp12 hp13 hp14 wv hi hpl9 hsk9 fik flk vik vlk rk gk_0 gk_1 c6 fik_1 flk_1 vik_1 vlk_1 rk_1 gk_1_0 gk_1_1 c15 c52 c63 fik_17 flk_17 vik_17 vlk_17 rk_17 gk_17_0 gk_17_1 c86_1 fik_18 flk_18 vik_18 vlk_18 rk_18 tb_17 gk_18_0 fik_20 flk_20 vik_20 vlk_20 rk_20 tb_21 gk_20_0 c113_1 tt_9 q0 q1 q2 q3 q4 q5
  unfold PS_X12_next
  intro n m hn hm hal
  (try simp only [q0, q1, q2, q3, q4, q5]); have k9_0 : (0 : Int32).toInt = 0 := (by decide); have k9_1 : (1 : Int32).toInt = 1 := (by decide); have k9_2 : (3 : Int32).toInt = 3 := (by decide)
  refine CC_ot hn hm ?_
  have h7 := skp_le hsk9 hal
  have h8 := pkb_c (f := (fi 0)) (p := wv) (n := (vi 2)) (by omega) (by omega) hp14
  have h6 := tbl_m (f := (fi 0)) (i := wv) (n := (vi 2)) (by omega) (by omega) hp14 ⟨by omega, by omega⟩
  first | exact CTa_end hsk9 (by omega) hal (by omega) h6 (by omega) (by omega) | exact CTa_sign hsk9 (by omega) hal (by omega) h6 (by omega) (by omega) (by omega) (by omega) (by omega)
set_option maxHeartbeats 4000000 in
theorem PL_X12_next_13 {fi : Nat → Nat → Int32} {fl : Nat → Nat → Int64} {vi : Nat → Int32} {vl : Nat → Int64} {r : Int32} {fj : Nat → Nat → Int32} {fm : Nat → Nat → Int64} {vj : Nat → Int32} {vm : Nat → Int64} : RL_X12_next_13 fi fl vi vl r fj fm vj vm (PS_X12_next fi fl vi vl r fj fm vj vm) := by
  unfold RL_X12_next_13
  intro hp0 hp1 hp2 hp3 hp4 hp5 hp6 hp7 hp8 hp9 hp10 hp11 hp12 hp13 hp14 wv hi hpl9 hsk9 fik flk vik vlk rk gk_0 gk_1 c6 fik_1 flk_1 vik_1 vlk_1 rk_1 gk_1_0 gk_1_1 c15 c52 c63 fik_17 flk_17 vik_17 vlk_17 rk_17 gk_17_0 gk_17_1 c86_1 fik_18 flk_18 vik_18 vlk_18 rk_18 tb_17 gk_18_0 fik_20 flk_20 vik_20 vlk_20 rk_20 tb_21 gk_20_0 c113_1 c119_1 tt_10 q0 q1 q2 q3 q4 q5
  unfold PS_X12_next
  intro n m hn hm hal
  (try simp only [q0, q1, q2, q3, q4, q5]); have k9_0 : (0 : Int32).toInt = 0 := (by decide); have k9_1 : (1 : Int32).toInt = 1 := (by decide); have k9_2 : (3 : Int32).toInt = 3 := (by decide)
  refine CC_ot hn hm ?_
  have h7 := skp_le hsk9 hal
  have h8 := pkb_c (f := (fi 0)) (p := wv) (n := (vi 2)) (by omega) (by omega) hp14
  have h6 := tbl_m (f := (fi 0)) (i := wv) (n := (vi 2)) (by omega) (by omega) hp14 ⟨by omega, by omega⟩
  first | exact CTa_end hsk9 (by omega) hal (by omega) h6 (by omega) (by omega) | exact CTa_sign hsk9 (by omega) hal (by omega) h6 (by omega) (by omega) (by omega) (by omega) (by omega)
set_option maxHeartbeats 4000000 in
theorem PL_X12_next_14 {fi : Nat → Nat → Int32} {fl : Nat → Nat → Int64} {vi : Nat → Int32} {vl : Nat → Int64} {r : Int32} {fj : Nat → Nat → Int32} {fm : Nat → Nat → Int64} {vj : Nat → Int32} {vm : Nat → Int64} : RL_X12_next_14 fi fl vi vl r fj fm vj vm (PS_X12_next fi fl vi vl r fj fm vj vm) := by
  unfold RL_X12_next_14
  intro hp0 hp1 hp2 hp3 hp4 hp5 hp6 hp7 hp8 hp9 hp10 hp11 hp12 hp13 hp14 wv hi hpl9 hsk9 fik flk vik vlk rk gk_0 gk_1 c6 fik_1 flk_1 vik_1 vlk_1 rk_1 gk_1_0 gk_1_1 c15 c52 c63 fik_17 flk_17 vik_17 vlk_17 rk_17 gk_17_0 gk_17_1 c86_1 fik_18 flk_18 vik_18 vlk_18 rk_18 tb_17 gk_18_0 fik_20 flk_20 vik_20 vlk_20 rk_20 tb_21 gk_20_0 c113_1 c119_1 c125_1 tt_11 q0 q1 q2 q3 q4 q5
  unfold PS_X12_next
  intro n m hn hm hal
  (try simp only [q0, q1, q2, q3, q4, q5]); have k9_0 : (0 : Int32).toInt = 0 := (by decide); have k9_1 : (1 : Int32).toInt = 1 := (by decide); have k9_2 : (3 : Int32).toInt = 3 := (by decide)
  refine CC_ot hn hm ?_
  have h7 := skp_le hsk9 hal
  have h8 := pkb_c (f := (fi 0)) (p := wv) (n := (vi 2)) (by omega) (by omega) hp14
  have h6 := tbl_m (f := (fi 0)) (i := wv) (n := (vi 2)) (by omega) (by omega) hp14 ⟨by omega, by omega⟩
  first | exact CTa_end hsk9 (by omega) hal (by omega) h6 (by omega) (by omega) | exact CTa_sign hsk9 (by omega) hal (by omega) h6 (by omega) (by omega) (by omega) (by omega) (by omega)
set_option maxHeartbeats 4000000 in
theorem PL_X12_next_15 {fi : Nat → Nat → Int32} {fl : Nat → Nat → Int64} {vi : Nat → Int32} {vl : Nat → Int64} {r : Int32} {fj : Nat → Nat → Int32} {fm : Nat → Nat → Int64} {vj : Nat → Int32} {vm : Nat → Int64} : RL_X12_next_15 fi fl vi vl r fj fm vj vm (PS_X12_next fi fl vi vl r fj fm vj vm) := by
  unfold RL_X12_next_15
  intro hp0 hp1 hp2 hp3 hp4 hp5 hp6 hp7 hp8 hp9 hp10 hp11 hp12 hp13 hp14 wv hi hpl9 hsk9 fik flk vik vlk rk gk_0 gk_1 c6 fik_1 flk_1 vik_1 vlk_1 rk_1 gk_1_0 gk_1_1 c15 c52 c63 fik_17 flk_17 vik_17 vlk_17 rk_17 gk_17_0 gk_17_1 c86_1 fik_18 flk_18 vik_18 vlk_18 rk_18 tb_17 gk_18_0 fik_20 flk_20 vik_20 vlk_20 rk_20 tb_21 gk_20_0 c113_1 c119_1 c125_1 c131_1 tt_12 q0 q1 q2 q3 q4 q5
  unfold PS_X12_next
  intro n m hn hm hal
  (try simp only [q0, q1, q2, q3, q4, q5]); have k9_0 : (0 : Int32).toInt = 0 := (by decide); have k9_1 : (1 : Int32).toInt = 1 := (by decide); have k9_2 : (4 : Int32).toInt = 4 := (by decide)
  refine CC_ot hn hm ?_
  have h7 := skp_le hsk9 hal
  have h8 := pkb_c (f := (fi 0)) (p := wv) (n := (vi 2)) (by omega) (by omega) hp14
  have h6 := tbl_m (f := (fi 0)) (i := wv) (n := (vi 2)) (by omega) (by omega) hp14 ⟨by omega, by omega⟩
  first | exact CTa_end hsk9 (by omega) hal (by omega) h6 (by omega) (by omega) | exact CTa_sign hsk9 (by omega) hal (by omega) h6 (by omega) (by omega) (by omega) (by omega) (by omega)
set_option maxHeartbeats 4000000 in
theorem PL_X12_next_16 {fi : Nat → Nat → Int32} {fl : Nat → Nat → Int64} {vi : Nat → Int32} {vl : Nat → Int64} {r : Int32} {fj : Nat → Nat → Int32} {fm : Nat → Nat → Int64} {vj : Nat → Int32} {vm : Nat → Int64} : RL_X12_next_16 fi fl vi vl r fj fm vj vm (PS_X12_next fi fl vi vl r fj fm vj vm) := by
  unfold RL_X12_next_16
  intro hp0 hp1 hp2 hp3 hp4 hp5 hp6 hp7 hp8 hp9 hp10 hp11 hp12 hp13 hp14 wv hi hpl9 hsk9 fik flk vik vlk rk gk_0 gk_1 c6 fik_1 flk_1 vik_1 vlk_1 rk_1 gk_1_0 gk_1_1 c15 c52 c63 fik_17 flk_17 vik_17 vlk_17 rk_17 gk_17_0 gk_17_1 c86_1 fik_18 flk_18 vik_18 vlk_18 rk_18 tb_17 gk_18_0 fik_20 flk_20 vik_20 vlk_20 rk_20 tb_21 gk_20_0 c113_1 c119_1 c125_1 c131_1 c137_1 tt_13 q0 q1 q2 q3 q4 q5
  unfold PS_X12_next
  intro n m hn hm hal
  (try simp only [q0, q1, q2, q3, q4, q5]); have k9_0 : (0 : Int32).toInt = 0 := (by decide); have k9_1 : (1 : Int32).toInt = 1 := (by decide); have k9_2 : (4 : Int32).toInt = 4 := (by decide)
  refine CC_ot hn hm ?_
  have h7 := skp_le hsk9 hal
  have h8 := pkb_c (f := (fi 0)) (p := wv) (n := (vi 2)) (by omega) (by omega) hp14
  have h6 := tbl_m (f := (fi 0)) (i := wv) (n := (vi 2)) (by omega) (by omega) hp14 ⟨by omega, by omega⟩
  first | exact CTa_end hsk9 (by omega) hal (by omega) h6 (by omega) (by omega) | exact CTa_sign hsk9 (by omega) hal (by omega) h6 (by omega) (by omega) (by omega) (by omega) (by omega)
set_option maxHeartbeats 4000000 in
theorem PL_X12_next_17 {fi : Nat → Nat → Int32} {fl : Nat → Nat → Int64} {vi : Nat → Int32} {vl : Nat → Int64} {r : Int32} {fj : Nat → Nat → Int32} {fm : Nat → Nat → Int64} {vj : Nat → Int32} {vm : Nat → Int64} : RL_X12_next_17 fi fl vi vl r fj fm vj vm (PS_X12_next fi fl vi vl r fj fm vj vm) := by
  unfold RL_X12_next_17
  intro hp0 hp1 hp2 hp3 hp4 hp5 hp6 hp7 hp8 hp9 hp10 hp11 hp12 hp13 hp14 wv hi hpl9 hsk9 fik flk vik vlk rk gk_0 gk_1 c6 fik_1 flk_1 vik_1 vlk_1 rk_1 gk_1_0 gk_1_1 c15 c52 c63 fik_17 flk_17 vik_17 vlk_17 rk_17 gk_17_0 gk_17_1 c86_1 fik_18 flk_18 vik_18 vlk_18 rk_18 tb_17 gk_18_0 fik_20 flk_20 vik_20 vlk_20 rk_20 tb_21 gk_20_0 c113_1 c119_1 c125_1 c131_1 c137_1 tt_14 q0 q1 q2 q3 q4 q5
  unfold PS_X12_next
  intro n m hn hm hal
  (try simp only [q0, q1, q2, q3, q4, q5]); have k9_0 : (0 : Int32).toInt = 0 := (by decide); have k9_1 : (1 : Int32).toInt = 1 := (by decide); have k9_2 : (3 : Int32).toInt = 3 := (by decide)
  refine CC_ot hn hm ?_
  have h7 := skp_le hsk9 hal
  have h8 := pkb_c (f := (fi 0)) (p := wv) (n := (vi 2)) (by omega) (by omega) hp14
  have h6 := tbl_m (f := (fi 0)) (i := wv) (n := (vi 2)) (by omega) (by omega) hp14 ⟨by omega, by omega⟩
  first | exact CTa_end hsk9 (by omega) hal (by omega) h6 (by omega) (by omega) | exact CTa_sign hsk9 (by omega) hal (by omega) h6 (by omega) (by omega) (by omega) (by omega) (by omega)
set_option maxHeartbeats 4000000 in
theorem PL_X12_next_18 {fi : Nat → Nat → Int32} {fl : Nat → Nat → Int64} {vi : Nat → Int32} {vl : Nat → Int64} {r : Int32} {fj : Nat → Nat → Int32} {fm : Nat → Nat → Int64} {vj : Nat → Int32} {vm : Nat → Int64} : RL_X12_next_18 fi fl vi vl r fj fm vj vm (PS_X12_next fi fl vi vl r fj fm vj vm) := by
  unfold RL_X12_next_18
  intro hp0 hp1 hp2 hp3 hp4 hp5 hp6 hp7 hp8 hp9 hp10 hp11 hp12 hp13 hp14 wv hi hpl9 hsk9 fik flk vik vlk rk gk_0 gk_1 c6 fik_1 flk_1 vik_1 vlk_1 rk_1 gk_1_0 gk_1_1 c15 c52 c63 fik_17 flk_17 vik_17 vlk_17 rk_17 gk_17_0 gk_17_1 c86_1 q0 q1 q2 q3 q4 q5
  unfold PS_X12_next
  intro n m hn hm hal
  (try simp only [q0, q1, q2, q3, q4, q5]); have k9_0 : (0 : Int32).toInt = 0 := (by decide); have k9_1 : (1 : Int32).toInt = 1 := (by decide)
  refine CC_ot hn hm ?_
  have h7 := skp_le hsk9 hal
  have h8 := pkb_c (f := (fi 0)) (p := wv) (n := (vi 2)) (by omega) (by omega) hp14
  have h6 := tbl_m (f := (fi 0)) (i := wv) (n := (vi 2)) (by omega) (by omega) hp14 ⟨by omega, by omega⟩
  first | exact CTa_end hsk9 (by omega) hal (by omega) h6 (by omega) (by omega) | exact CTa_sign hsk9 (by omega) hal (by omega) h6 (by omega) (by omega) (by omega) (by omega) (by omega)
set_option maxHeartbeats 4000000 in
theorem PL_X12_next_19 {fi : Nat → Nat → Int32} {fl : Nat → Nat → Int64} {vi : Nat → Int32} {vl : Nat → Int64} {r : Int32} {fj : Nat → Nat → Int32} {fm : Nat → Nat → Int64} {vj : Nat → Int32} {vm : Nat → Int64} : RL_X12_next_19 fi fl vi vl r fj fm vj vm (PS_X12_next fi fl vi vl r fj fm vj vm) := by
  unfold RL_X12_next_19
  intro hp0 hp1 hp2 hp3 hp4 hp5 hp6 hp7 hp8 hp9 hp10 hp11 hp12 hp13 hp14 wv hi hpl9 hsk9 fik flk vik vlk rk gk_0 gk_1 c6 fik_1 flk_1 vik_1 vlk_1 rk_1 gk_1_0 gk_1_1 c15 c52 c63 q0 q1 q2 q3 q4 q5
  unfold PS_X12_next
  intro n m hn hm hal
  (try simp only [q0, q1, q2, q3, q4, q5]); have k9_0 : (0 : Int32).toInt = 0 := (by decide); have k9_1 : (1 : Int32).toInt = 1 := (by decide); have k9_2 : (4 : Int32).toInt = 4 := (by decide)
  refine CC_ot hn hm ?_
  have h7 := skp_le hsk9 hal
  have h8 := pkb_c (f := (fi 0)) (p := wv) (n := (vi 2)) (by omega) (by omega) hp14
  have h6 := tbl_m (f := (fi 0)) (i := wv) (n := (vi 2)) (by omega) (by omega) hp14 ⟨by omega, by omega⟩
  first | exact CTa_end hsk9 (by omega) hal (by omega) h6 (by omega) (by omega) | exact CTa_sign hsk9 (by omega) hal (by omega) h6 (by omega) (by omega) (by omega) (by omega) (by omega)
theorem P_X12_next {fi : Nat → Nat → Int32} {fl : Nat → Nat → Int64} {vi : Nat → Int32} {vl : Nat → Int64} {r : Int32} {fj : Nat → Nat → Int32} {fm : Nat → Nat → Int64} {vj : Nat → Int32} {vm : Nat → Int64} (h : R_X12_next fi fl vi vl r fj fm vj vm) : ∀ n m : Nat, (vi 2).toInt = (n : Int) → (vi 4).toInt = (m : Int) → (vi 3).toInt ≤ (vi 2).toInt → CC (trn (fi 0) n) n m ((vi 3).toInt).toNat (vi 2) (vi 4) (vj 4) (vj 1) (vj 0) (vm 0) (vj 3) (vj 3) := h (PS_X12_next fi fl vi vl r fj fm vj vm) PL_X12_next_0 PL_X12_next_1 PL_X12_next_2 PL_X12_next_3 PL_X12_next_4 PL_X12_next_5 PL_X12_next_6 PL_X12_next_7 PL_X12_next_8 PL_X12_next_9 PL_X12_next_10 PL_X12_next_11 PL_X12_next_12 PL_X12_next_13 PL_X12_next_14 PL_X12_next_15 PL_X12_next_16 PL_X12_next_17 PL_X12_next_18 PL_X12_next_19
def RL_X12_isSign_0 (fi : Nat → Nat → Int32) (fl : Nat → Nat → Int64) (vi : Nat → Int32) (vl : Nat → Int64) (r : Int32) (fj : Nat → Nat → Int32) (fm : Nat → Nat → Int64) (vj : Nat → Int32) (vm : Nat → Int64) (Q9 : Prop) : Prop :=
  (0 ≤ (vi 2).toInt ∧ (vi 2).toInt ≤ 940) → (0 ≤ (vi 3).toInt ∧ (vi 3).toInt ≤ 940) → (0 ≤ (vi 4).toInt ∧ (vi 4).toInt ≤ 940) → (0 ≤ (vi 5).toInt ∧ (vi 5).toInt ≤ 940) → (0 ≤ (vi 6).toInt ∧ (vi 6).toInt ≤ 4) → (0 ≤ (vi 7).toInt ∧ (vi 7).toInt ≤ 940) → (0 ≤ (vi 11).toInt ∧ (vi 11).toInt ≤ 940) → (0 ≤ (vi 15).toInt ∧ (vi 15).toInt ≤ 4) → (-1 ≤ (vi 16).toInt ∧ (vi 16).toInt ≤ 9) → (0 ≤ (vi 22).toInt ∧ (vi 22).toInt ≤ 40) → (0 ≤ (vi 24).toInt ∧ (vi 24).toInt ≤ 40) → (0 ≤ (vi 25).toInt ∧ (vi 25).toInt ≤ 20) → (0 ≤ (vi 26).toInt ∧ (vi 26).toInt ≤ 40) → (0 ≤ (vi 28).toInt ∧ (vi 28).toInt ≤ 1) → (¬ (vi 6).toInt = 3) → (r = (0 : Int32)) → Q9
def RL_X12_isSign_1 (fi : Nat → Nat → Int32) (fl : Nat → Nat → Int64) (vi : Nat → Int32) (vl : Nat → Int64) (r : Int32) (fj : Nat → Nat → Int32) (fm : Nat → Nat → Int64) (vj : Nat → Int32) (vm : Nat → Int64) (Q9 : Prop) : Prop :=
  (0 ≤ (vi 2).toInt ∧ (vi 2).toInt ≤ 940) → (0 ≤ (vi 3).toInt ∧ (vi 3).toInt ≤ 940) → (0 ≤ (vi 4).toInt ∧ (vi 4).toInt ≤ 940) → (0 ≤ (vi 5).toInt ∧ (vi 5).toInt ≤ 940) → (0 ≤ (vi 6).toInt ∧ (vi 6).toInt ≤ 4) → (0 ≤ (vi 7).toInt ∧ (vi 7).toInt ≤ 940) → (0 ≤ (vi 11).toInt ∧ (vi 11).toInt ≤ 940) → (0 ≤ (vi 15).toInt ∧ (vi 15).toInt ≤ 4) → (-1 ≤ (vi 16).toInt ∧ (vi 16).toInt ≤ 9) → (0 ≤ (vi 22).toInt ∧ (vi 22).toInt ≤ 40) → (0 ≤ (vi 24).toInt ∧ (vi 24).toInt ≤ 40) → (0 ≤ (vi 25).toInt ∧ (vi 25).toInt ≤ 20) → (0 ≤ (vi 26).toInt ∧ (vi 26).toInt ≤ 40) → (0 ≤ (vi 28).toInt ∧ (vi 28).toInt ≤ 1) → ((vi 6).toInt = 3) → (¬ (vi 9).toInt = (vi 0).toInt) → (r = (0 : Int32)) → Q9
def RL_X12_isSign_2 (fi : Nat → Nat → Int32) (fl : Nat → Nat → Int64) (vi : Nat → Int32) (vl : Nat → Int64) (r : Int32) (fj : Nat → Nat → Int32) (fm : Nat → Nat → Int64) (vj : Nat → Int32) (vm : Nat → Int64) (Q9 : Prop) : Prop :=
  (0 ≤ (vi 2).toInt ∧ (vi 2).toInt ≤ 940) → (0 ≤ (vi 3).toInt ∧ (vi 3).toInt ≤ 940) → (0 ≤ (vi 4).toInt ∧ (vi 4).toInt ≤ 940) → (0 ≤ (vi 5).toInt ∧ (vi 5).toInt ≤ 940) → (0 ≤ (vi 6).toInt ∧ (vi 6).toInt ≤ 4) → (0 ≤ (vi 7).toInt ∧ (vi 7).toInt ≤ 940) → (0 ≤ (vi 11).toInt ∧ (vi 11).toInt ≤ 940) → (0 ≤ (vi 15).toInt ∧ (vi 15).toInt ≤ 4) → (-1 ≤ (vi 16).toInt ∧ (vi 16).toInt ≤ 9) → (0 ≤ (vi 22).toInt ∧ (vi 22).toInt ≤ 40) → (0 ≤ (vi 24).toInt ∧ (vi 24).toInt ≤ 40) → (0 ≤ (vi 25).toInt ∧ (vi 25).toInt ≤ 20) → (0 ≤ (vi 26).toInt ∧ (vi 26).toInt ≤ 40) → (0 ≤ (vi 28).toInt ∧ (vi 28).toInt ≤ 1) → ((vi 6).toInt = 3) → ((vi 9).toInt = (vi 0).toInt) → (r = (1 : Int32)) → Q9
def R_X12_isSign (fi : Nat → Nat → Int32) (fl : Nat → Nat → Int64) (vi : Nat → Int32) (vl : Nat → Int64) (r : Int32) (fj : Nat → Nat → Int32) (fm : Nat → Nat → Int64) (vj : Nat → Int32) (vm : Nat → Int64) : Prop :=
  ∀ Q9 : Prop, RL_X12_isSign_0 fi fl vi vl r fj fm vj vm Q9 → RL_X12_isSign_1 fi fl vi vl r fj fm vj vm Q9 → RL_X12_isSign_2 fi fl vi vl r fj fm vj vm Q9 → Q9
def PS_X12_isSign (fi : Nat → Nat → Int32) (fl : Nat → Nat → Int64) (vi : Nat → Int32) (vl : Nat → Int64) (r : Int32) (fj : Nat → Nat → Int32) (fm : Nat → Nat → Int64) (vj : Nat → Int32) (vm : Nat → Int64) : Prop :=
  DJ (r.toInt = 1 ∧ (vi 6).toInt = 3 ∧ (vi 9).toInt = (vi 0).toInt) (r.toInt = 0 ∧ ¬ ((vi 6).toInt = 3 ∧ (vi 9).toInt = (vi 0).toInt))
set_option maxHeartbeats 4000000 in
theorem PL_X12_isSign_0 {fi : Nat → Nat → Int32} {fl : Nat → Nat → Int64} {vi : Nat → Int32} {vl : Nat → Int64} {r : Int32} {fj : Nat → Nat → Int32} {fm : Nat → Nat → Int64} {vj : Nat → Int32} {vm : Nat → Int64} : RL_X12_isSign_0 fi fl vi vl r fj fm vj vm (PS_X12_isSign fi fl vi vl r fj fm vj vm) := by
  unfold RL_X12_isSign_0
  intro hp0 hp1 hp2 hp3 hp4 hp5 hp6 hp7 hp8 hp9 hp10 hp11 hp12 hp13 c5 q0; subst q0
  unfold PS_X12_isSign
  first | exact Or.inl ⟨by decide, by omega, by omega⟩ | exact Or.inr ⟨by decide, fun c => by omega⟩
set_option maxHeartbeats 4000000 in
theorem PL_X12_isSign_1 {fi : Nat → Nat → Int32} {fl : Nat → Nat → Int64} {vi : Nat → Int32} {vl : Nat → Int64} {r : Int32} {fj : Nat → Nat → Int32} {fm : Nat → Nat → Int64} {vj : Nat → Int32} {vm : Nat → Int64} : RL_X12_isSign_1 fi fl vi vl r fj fm vj vm (PS_X12_isSign fi fl vi vl r fj fm vj vm) := by
  unfold RL_X12_isSign_1
  intro hp0 hp1 hp2 hp3 hp4 hp5 hp6 hp7 hp8 hp9 hp10 hp11 hp12 hp13 c5 c13 q0; subst q0
  unfold PS_X12_isSign
  first | exact Or.inl ⟨by decide, by omega, by omega⟩ | exact Or.inr ⟨by decide, fun c => by omega⟩
set_option maxHeartbeats 4000000 in
theorem PL_X12_isSign_2 {fi : Nat → Nat → Int32} {fl : Nat → Nat → Int64} {vi : Nat → Int32} {vl : Nat → Int64} {r : Int32} {fj : Nat → Nat → Int32} {fm : Nat → Nat → Int64} {vj : Nat → Int32} {vm : Nat → Int64} : RL_X12_isSign_2 fi fl vi vl r fj fm vj vm (PS_X12_isSign fi fl vi vl r fj fm vj vm) := by
  unfold RL_X12_isSign_2
  intro hp0 hp1 hp2 hp3 hp4 hp5 hp6 hp7 hp8 hp9 hp10 hp11 hp12 hp13 c5 c13 q0; subst q0
  unfold PS_X12_isSign
  first | exact Or.inl ⟨by decide, by omega, by omega⟩ | exact Or.inr ⟨by decide, fun c => by omega⟩
theorem P_X12_isSign {fi : Nat → Nat → Int32} {fl : Nat → Nat → Int64} {vi : Nat → Int32} {vl : Nat → Int64} {r : Int32} {fj : Nat → Nat → Int32} {fm : Nat → Nat → Int64} {vj : Nat → Int32} {vm : Nat → Int64} (h : R_X12_isSign fi fl vi vl r fj fm vj vm) : DJ (r.toInt = 1 ∧ (vi 6).toInt = 3 ∧ (vi 9).toInt = (vi 0).toInt) (r.toInt = 0 ∧ ¬ ((vi 6).toInt = 3 ∧ (vi 9).toInt = (vi 0).toInt)) := h (PS_X12_isSign fi fl vi vl r fj fm vj vm) PL_X12_isSign_0 PL_X12_isSign_1 PL_X12_isSign_2
