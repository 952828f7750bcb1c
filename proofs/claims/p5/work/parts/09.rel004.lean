set_option maxHeartbeats 4000000 in
theorem PL_X6_advance_11 {fi : Nat → Nat → Int32} {fl : Nat → Nat → Int64} {vi : Nat → Int32} {vl : Nat → Int64} {r : Int32} {fj : Nat → Nat → Int32} {fm : Nat → Nat → Int64} {vj : Nat → Int32} {vm : Nat → Int64} : RL_X6_advance_11 fi fl vi vl r fj fm vj vm (PS_X6_advance fi fl vi vl r fj fm vj vm) := by
  unfold RL_X6_advance_11
  intro hp0 hp1 hp2 hp3 hp4 wv hi hsk9 hj c60 c71 w2 w1 wv_1 wv_2 wv_3 hi_1 hi_2 hi_3 hat9 hav9 hj_1 z255 ez255 tz255 c256 z265 ez265 tz265 c276 c285 c294 q0 q1 q2 q3 q4 q5
  unfold PS_X6_advance
  intro n m hn hm hal
  (try simp only [q0, q1, q2, q3, q4, q5]); have k9_0 : (0 : Int32).toInt = 0 := (by decide); have k9_1 : (1 : Int32).toInt = 1 := (by decide); have k9_2 : (3 : Int32).toInt = 3 := (by decide)
  refine CC_ot hn hm ?_
  first | exact CTa_end hsk9 (by omega) (by omega) (by omega) hj (by omega) (by first | exact Or.inl ⟨by omega, by decide, by omega⟩ | exact Or.inr ⟨by omega, by decide, by omega⟩) | (exfalso; omega) | exact CTa_av hsk9 (by omega) (by omega) (by omega) hj (by omega) hav9 hj_1 (by omega) (by first | exact Or.inl ⟨by omega, Or.inl ⟨by omega, by decide⟩⟩ | exact Or.inl ⟨by omega, Or.inr ⟨by omega, by decide⟩⟩ | exact Or.inr (Or.inl ⟨by omega, by omega, Or.inl ⟨by omega, by decide⟩⟩) | exact Or.inr (Or.inl ⟨by omega, by omega, Or.inr ⟨by omega, by decide⟩⟩) | exact Or.inr (Or.inr ⟨by omega, by omega, by decide⟩)) | (have e9 : wv_3 = wv := Int32.toInt_inj.mp (by omega); rw [e9] at hj_1; exact CTa_sign hsk9 (by omega) (by omega) (by omega) hj (by omega) (by omega) (fun c => hj_1 ⟨by omega, c⟩) (by omega) (by first | exact Or.inl ⟨by omega, by decide, rfl⟩ | exact Or.inr ⟨by omega, by decide⟩))
set_option maxHeartbeats 4000000 in
theorem PL_X6_advance_12 {fi : Nat → Nat → Int32} {fl : Nat → Nat → Int64} {vi : Nat → Int32} {vl : Nat → Int64} {r : Int32} {fj : Nat → Nat → Int32} {fm : Nat → Nat → Int64} {vj : Nat → Int32} {vm : Nat → Int64} : RL_X6_advance_12 fi fl vi vl r fj fm vj vm (PS_X6_advance fi fl vi vl r fj fm vj vm) := by
  unfold RL_X6_advance_12
  intro hp0 hp1 hp2 hp3 hp4 wv hi hsk9 hj c60 c71 w2 w1 wv_1 wv_2 wv_3 hi_1 hi_2 hi_3 hat9 hav9 hj_1 z255 ez255 tz255 c256 z265 ez265 tz265 c276 c285 c294 c303 q0 q1 q2 q3 q4 q5
  unfold PS_X6_advance
  intro n m hn hm hal
  (try simp only [q0, q1, q2, q3, q4, q5]); have k9_0 : (0 : Int32).toInt = 0 := (by decide); have k9_1 : (1 : Int32).toInt = 1 := (by decide); have k9_2 : (4 : Int32).toInt = 4 := (by decide)
  refine CC_ot hn hm ?_
  first | exact CTa_end hsk9 (by omega) (by omega) (by omega) hj (by omega) (by first | exact Or.inl ⟨by omega, by decide, by omega⟩ | exact Or.inr ⟨by omega, by decide, by omega⟩) | (exfalso; omega) | exact CTa_av hsk9 (by omega) (by omega) (by omega) hj (by omega) hav9 hj_1 (by omega) (by first | exact Or.inl ⟨by omega, Or.inl ⟨by omega, by decide⟩⟩ | exact Or.inl ⟨by omega, Or.inr ⟨by omega, by decide⟩⟩ | exact Or.inr (Or.inl ⟨by omega, by omega, Or.inl ⟨by omega, by decide⟩⟩) | exact Or.inr (Or.inl ⟨by omega, by omega, Or.inr ⟨by omega, by decide⟩⟩) | exact Or.inr (Or.inr ⟨by omega, by omega, by decide⟩)) | (have e9 : wv_3 = wv := Int32.toInt_inj.mp (by omega); rw [e9] at hj_1; exact CTa_sign hsk9 (by omega) (by omega) (by omega) hj (by omega) (by omega) (fun c => hj_1 ⟨by omega, c⟩) (by omega) (by first | exact Or.inl ⟨by omega, by decide, rfl⟩ | exact Or.inr ⟨by omega, by decide⟩))
set_option maxHeartbeats 4000000 in
theorem PL_X6_advance_13 {fi : Nat → Nat → Int32} {fl : Nat → Nat → Int64} {vi : Nat → Int32} {vl : Nat → Int64} {r : Int32} {fj : Nat → Nat → Int32} {fm : Nat → Nat → Int64} {vj : Nat → Int32} {vm : Nat → Int64} : RL_X6_advance_13 fi fl vi vl r fj fm vj vm (PS_X6_advance fi fl vi vl r fj fm vj vm) := by
  unfold RL_X6_advance_13
  intro hp0 hp1 hp2 hp3 hp4 wv hi hsk9 hj c60 c71 w2 w1 wv_1 wv_2 wv_3 hi_1 hi_2 hi_3 hat9 hav9 hj_1 z255 ez255 tz255 c256 z265 ez265 tz265 c276 c285 c294 c303 c312 q0 q1 q2 q3 q4 q5
  unfold PS_X6_advance
  intro n m hn hm hal
  (try simp only [q0, q1, q2, q3, q4, q5]); have k9_0 : (0 : Int32).toInt = 0 := (by decide); have k9_1 : (1 : Int32).toInt = 1 := (by decide); have k9_2 : (4 : Int32).toInt = 4 := (by decide)
  refine CC_ot hn hm ?_
  first | exact CTa_end hsk9 (by omega) (by omega) (by omega) hj (by omega) (by first | exact Or.inl ⟨by omega, by decide, by omega⟩ | exact Or.inr ⟨by omega, by decide, by omega⟩) | (exfalso; omega) | exact CTa_av hsk9 (by omega) (by omega) (by omega) hj (by omega) hav9 hj_1 (by omega) (by first | exact Or.inl ⟨by omega, Or.inl ⟨by omega, by decide⟩⟩ | exact Or.inl ⟨by omega, Or.inr ⟨by omega, by decide⟩⟩ | exact Or.inr (Or.inl ⟨by omega, by omega, Or.inl ⟨by omega, by decide⟩⟩) | exact Or.inr (Or.inl ⟨by omega, by omega, Or.inr ⟨by omega, by decide⟩⟩) | exact Or.inr (Or.inr ⟨by omega, by omega, by decide⟩)) | (have e9 : wv_3 = wv := Int32.toInt_inj.mp (by omega); rw [e9] at hj_1; exact CTa_sign hsk9 (by omega) (by omega) (by omega) hj (by omega) (by omega) (fun c => hj_1 ⟨by omega, c⟩) (by omega) (by first | exact Or.inl ⟨by omega, by decide, rfl⟩ | exact Or.inr ⟨by omega, by decide⟩))
set_option maxHeartbeats 4000000 in
theorem PL_X6_advance_14 {fi : Nat → Nat → Int32} {fl : Nat → Nat → Int64} {vi : Nat → Int32} {vl : Nat → Int64} {r : Int32} {fj : Nat → Nat → Int32} {fm : Nat → Nat → Int64} {vj : Nat → Int32} {vm : Nat → Int64} : RL_X6_advance_14 fi fl vi vl r fj fm vj vm (PS_X6_advance fi fl vi vl r fj fm vj vm) := by
  unfold RL_X6_advance_14
  intro hp0 hp1 hp2 hp3 hp4 wv hi hsk9 hj c60 c71 w2 w1 wv_1 wv_2 wv_3 hi_1 hi_2 hi_3 hat9 hav9 hj_1 z255 ez255 tz255 c256 z265 ez265 tz265 c276 c285 c294 c303 c312 q0 q1 q2 q3 q4 q5
  unfold PS_X6_advance
  intro n m hn hm hal
  (try simp only [q0, q1, q2, q3, q4, q5]); have k9_0 : (0 : Int32).toInt = 0 := (by decide); have k9_1 : (1 : Int32).toInt = 1 := (by decide); have k9_2 : (3 : Int32).toInt = 3 := (by decide)
  refine CC_ot hn hm ?_
  first | exact CTa_end hsk9 (by omega) (by omega) (by omega) hj (by omega) (by first | exact Or.inl ⟨by omega, by decide, by omega⟩ | exact Or.inr ⟨by omega, by decide, by omega⟩) | (exfalso; omega) | exact CTa_av hsk9 (by omega) (by omega) (by omega) hj (by omega) hav9 hj_1 (by omega) (by first | exact Or.inl ⟨by omega, Or.inl ⟨by omega, by decide⟩⟩ | exact Or.inl ⟨by omega, Or.inr ⟨by omega, by decide⟩⟩ | exact Or.inr (Or.inl ⟨by omega, by omega, Or.inl ⟨by omega, by decide⟩⟩) | exact Or.inr (Or.inl ⟨by omega, by omega, Or.inr ⟨by omega, by decide⟩⟩) | exact Or.inr (Or.inr ⟨by omega, by omega, by decide⟩)) | (have e9 : wv_3 = wv := Int32.toInt_inj.mp (by omega); rw [e9] at hj_1; exact CTa_sign hsk9 (by omega) (by omega) (by omega) hj (by omega) (by omega) (fun c => hj_1 ⟨by omega, c⟩) (by omega) (by first | exact Or.inl ⟨by omega, by decide, rfl⟩ | exact Or.inr ⟨by omega, by decide⟩))
set_option maxHeartbeats 4000000 in
theorem PL_X6_advance_15 {fi : Nat → Nat → Int32} {fl : Nat → Nat → Int64} {vi : Nat → Int32} {vl : Nat → Int64} {r : Int32} {fj : Nat → Nat → Int32} {fm : Nat → Nat → Int64} {vj : Nat → Int32} {vm : Nat → Int64} : RL_X6_advance_15 fi fl vi vl r fj fm vj vm (PS_X6_advance fi fl vi vl r fj fm vj vm) := by
  unfold RL_X6_advance_15
  intro hp0 hp1 hp2 hp3 hp4 wv hi hsk9 hj c60 c71 c83_1 c103_2 q0 q1 q2 q3 q4 q5
  unfold PS_X6_advance
  intro n m hn hm hal
  (try simp only [q0, q1, q2, q3, q4, q5]); have k9_0 : (0 : Int32).toInt = 0 := (by decide); have k9_1 : (1 : Int32).toInt = 1 := (by decide)
  refine CC_ot hn hm ?_
  first | exact CTa_end hsk9 (by omega) (by omega) (by omega) hj (by omega) (by first | exact Or.inl ⟨by omega, by decide, by omega⟩ | exact Or.inr ⟨by omega, by decide, by omega⟩) | (exfalso; omega) | exact CTa_av hsk9 (by omega) (by omega) (by omega) hj (by omega) hav9 hj_1 (by omega) (by first | exact Or.inl ⟨by omega, Or.inl ⟨by omega, by decide⟩⟩ | exact Or.inl ⟨by omega, Or.inr ⟨by omega, by decide⟩⟩ | exact Or.inr (Or.inl ⟨by omega, by omega, Or.inl ⟨by omega, by decide⟩⟩) | exact Or.inr (Or.inl ⟨by omega, by omega, Or.inr ⟨by omega, by decide⟩⟩) | exact Or.inr (Or.inr ⟨by omega, by omega, by decide⟩)) | (have e9 : (0 : Int32) = (0 : Int32) := Int32.toInt_inj.mp (by omega); rw [e9] at hj_1; exact CTa_sign hsk9 (by omega) (by omega) (by omega) hj (by omega) (by omega) (fun c => hj_1 ⟨by omega, c⟩) (by omega) (by first | exact Or.inl ⟨by omega, by decide, rfl⟩ | exact Or.inr ⟨by omega, by decide⟩))
set_option maxHeartbeats 4000000 in
theorem PL_X6_advance_16 {fi : Nat → Nat → Int32} {fl : Nat → Nat → Int64} {vi : Nat → Int32} {vl : Nat → Int64} {r : Int32} {fj : Nat → Nat → Int32} {fm : Nat → Nat → Int64} {vj : Nat → Int32} {vm : Nat → Int64} : RL_X6_advance_16 fi fl vi vl r fj fm vj vm (PS_X6_advance fi fl vi vl r fj fm vj vm) := by
  unfold RL_X6_advance_16
  intro hp0 hp1 hp2 hp3 hp4 wv hi hsk9 hj c60 c71 c83_1 c103_2 q0 q1 q2 q3 q4 q5
  unfold PS_X6_advance
  intro n m hn hm hal
  (try simp only [q0, q1, q2, q3, q4, q5]); have k9_0 : (0 : Int32).toInt = 0 := (by decide); have k9_1 : (1 : Int32).toInt = 1 := (by decide)
  refine CC_ot hn hm ?_
  first | exact CTa_end hsk9 (by omega) (by omega) (by omega) hj (by omega) (by first | exact Or.inl ⟨by omega, by decide, by omega⟩ | exact Or.inr ⟨by omega, by decide, by omega⟩) | (exfalso; omega) | exact CTa_av hsk9 (by omega) (by omega) (by omega) hj (by omega) hav9 hj_1 (by omega) (by first | exact Or.inl ⟨by omega, Or.inl ⟨by omega, by decide⟩⟩ | exact Or.inl ⟨by omega, Or.inr ⟨by omega, by decide⟩⟩ | exact Or.inr (Or.inl ⟨by omega, by omega, Or.inl ⟨by omega, by decide⟩⟩) | exact Or.inr (Or.inl ⟨by omega, by omega, Or.inr ⟨by omega, by decide⟩⟩) | exact Or.inr (Or.inr ⟨by omega, by omega, by decide⟩)) | (have e9 : (0 : Int32) = (0 : Int32) := Int32.toInt_inj.mp (by omega); rw [e9] at hj_1; exact CTa_sign hsk9 (by omega) (by omega) (by omega) hj (by omega) (by omega) (fun c => hj_1 ⟨by omega, c⟩) (by omega) (by first | exact Or.inl ⟨by omega, by decide, rfl⟩ | exact Or.inr ⟨by omega, by decide⟩))
set_option maxHeartbeats 4000000 in
theorem PL_X6_advance_17 {fi : Nat → Nat → Int32} {fl : Nat → Nat → Int64} {vi : Nat → Int32} {vl : Nat → Int64} {r : Int32} {fj : Nat → Nat → Int32} {fm : Nat → Nat → Int64} {vj : Nat → Int32} {vm : Nat → Int64} : RL_X6_advance_17 fi fl vi vl r fj fm vj vm (PS_X6_advance fi fl vi vl r fj fm vj vm) := by
  unfold RL_X6_advance_17
  intro hp0 hp1 hp2 hp3 hp4 wv hi hsk9 hj c60 c71 c83_1 c103_3 q0 q1 q2 q3 q4 q5
  unfold PS_X6_advance
  intro n m hn hm hal
  (try simp only [q0, q1, q2, q3, q4, q5]); have k9_0 : (0 : Int32).toInt = 0 := (by decide); have k9_1 : (1 : Int32).toInt = 1 := (by decide); have k9_2 : (4 : Int32).toInt = 4 := (by decide)
  refine CC_ot hn hm ?_
  first | exact CTa_end hsk9 (by omega) (by omega) (by omega) hj (by omega) (by first | exact Or.inl ⟨by omega, by decide, by omega⟩ | exact Or.inr ⟨by omega, by decide, by omega⟩) | (exfalso; omega) | exact CTa_av hsk9 (by omega) (by omega) (by omega) hj (by omega) hav9 hj_1 (by omega) (by first | exact Or.inl ⟨by omega, Or.inl ⟨by omega, by decide⟩⟩ | exact Or.inl ⟨by omega, Or.inr ⟨by omega, by decide⟩⟩ | exact Or.inr (Or.inl ⟨by omega, by omega, Or.inl ⟨by omega, by decide⟩⟩) | exact Or.inr (Or.inl ⟨by omega, by omega, Or.inr ⟨by omega, by decide⟩⟩) | exact Or.inr (Or.inr ⟨by omega, by omega, by decide⟩)) | (have e9 : (0 : Int32) = (0 : Int32) := Int32.toInt_inj.mp (by omega); rw [e9] at hj_1; exact CTa_sign hsk9 (by omega) (by omega) (by omega) hj (by omega) (by omega) (fun c => hj_1 ⟨by omega, c⟩) (by omega) (by first | exact Or.inl ⟨by omega, by decide, rfl⟩ | exact Or.inr ⟨by omega, by decide⟩))
set_option maxHeartbeats 4000000 in
theorem PL_X6_advance_18 {fi : Nat → Nat → Int32} {fl : Nat → Nat → Int64} {vi : Nat → Int32} {vl : Nat → Int64} {r : Int32} {fj : Nat → Nat → Int32} {fm : Nat → Nat → Int64} {vj : Nat → Int32} {vm : Nat → Int64} : RL_X6_advance_18 fi fl vi vl r fj fm vj vm (PS_X6_advance fi fl vi vl r fj fm vj vm) := by
  unfold RL_X6_advance_18
  intro hp0 hp1 hp2 hp3 hp4 wv hi hsk9 hj c60 c71 c83_1 c103_3 q0 q1 q2 q3 q4 q5
  unfold PS_X6_advance
  intro n m hn hm hal
  (try simp only [q0, q1, q2, q3, q4, q5]); have k9_0 : (0 : Int32).toInt = 0 := (by decide); have k9_1 : (1 : Int32).toInt = 1 := (by decide); have k9_2 : (4 : Int32).toInt = 4 := (by decide)
  refine CC_ot hn hm ?_
  first | exact CTa_end hsk9 (by omega) (by omega) (by omega) hj (by omega) (by first | exact Or.inl ⟨by omega, by decide, by omega⟩ | exact Or.inr ⟨by omega, by decide, by omega⟩) | (exfalso; omega) | exact CTa_av hsk9 (by omega) (by omega) (by omega) hj (by omega) hav9 hj_1 (by omega) (by first | exact Or.inl ⟨by omega, Or.inl ⟨by omega, by decide⟩⟩ | exact Or.inl ⟨by omega, Or.inr ⟨by omega, by decide⟩⟩ | exact Or.inr (Or.inl ⟨by omega, by omega, Or.inl ⟨by omega, by decide⟩⟩) | exact Or.inr (Or.inl ⟨by omega, by omega, Or.inr ⟨by omega, by decide⟩⟩) | exact Or.inr (Or.inr ⟨by omega, by omega, by decide⟩)) | (have e9 : (0 : Int32) = (0 : Int32) := Int32.toInt_inj.mp (by omega); rw [e9] at hj_1; exact CTa_sign hsk9 (by omega) (by omega) (by omega) hj (by omega) (by omega) (fun c => hj_1 ⟨by omega, c⟩) (by omega) (by first | exact Or.inl ⟨by omega, by decide, rfl⟩ | exact Or.inr ⟨by omega, by decide⟩))
theorem P_X6_advance {fi : Nat → Nat → Int32} {fl : Nat → Nat → Int64} {vi : Nat → Int32} {vl : Nat → Int64} {r : Int32} {fj : Nat → Nat → Int32} {fm : Nat → Nat → Int64} {vj : Nat → Int32} {vm : Nat → Int64} (h : R_X6_advance fi fl vi vl r fj fm vj vm) : ∀ n m : Nat, (vi 1).toInt = (n : Int) → (vi 2).toInt = (m : Int) → (vi 3).toInt ≤ (vi 1).toInt → CC (trn (fi 0) n) n m ((vi 3).toInt).toNat (vi 1) (vi 2) (vj 0) (vj 1) (vj 4) (vm 0) (vj 3) (vj 2) := h (PS_X6_advance fi fl vi vl r fj fm vj vm) PL_X6_advance_0 PL_X6_advance_1 PL_X6_advance_2 PL_X6_advance_3 PL_X6_advance_4 PL_X6_advance_5 PL_X6_advance_6 PL_X6_advance_7 PL_X6_advance_8 PL_X6_advance_9 PL_X6_advance_10 PL_X6_advance_11 PL_X6_advance_12 PL_X6_advance_13 PL_X6_advance_14 PL_X6_advance_15 PL_X6_advance_16 PL_X6_advance_17 PL_X6_advance_18
def RL_X6_startText_0 (fi : Nat → Nat → Int32) (fl : Nat → Nat → Int64) (vi : Nat → Int32) (vl : Nat → Int64) (r : Int32) (fj : Nat → Nat → Int32) (fm : Nat → Nat → Int64) (vj : Nat → Int32) (vm : Nat → Int64) (Q9 : Prop) : Prop :=
  (0 ≤ (vi 0).toInt ∧ (vi 0).toInt ≤ 940) → (0 ≤ (vi 2).toInt ∧ (vi 2).toInt ≤ 940) → (0 ≤ (vi 3).toInt ∧ (vi 3).toInt ≤ 940) → (0 ≤ (vi 4).toInt ∧ (vi 4).toInt ≤ 940) → (0 ≤ (vi 6).toInt ∧ (vi 6).toInt ≤ 940) → (0 ≤ (vi 11).toInt ∧ (vi 11).toInt ≤ 940) → ∀ (fik : Nat → Nat → Int32), ∀ (flk : Nat → Nat → Int64), ∀ (vik : Nat → Int32), ∀ (vlk : Nat → Int64), ∀ (uk : Int32), (0 ≤ (vik 4).toInt ∧ (vik 4).toInt ≤ 940) → (0 ≤ (vik 1).toInt ∧ (vik 1).toInt ≤ 940) → (∀ n m : Nat, (vi 2).toInt = (n : Int) → (vi 0).toInt = (m : Int) → (0 : Int) ≤ (vi 2).toInt → CC (trn (fi 0) n) n m ((0 : Int)).toNat (vi 2) (vi 0) (vik 0) (vik 1) (vik 4) (vlk 0) (vik 3) (vik 2)) → (vj 0 = (vi 0)) → (vj 1 = (vik 4)) → (vj 2 = (0 : Int32)) → (vj 3 = (0 : Int32)) → (vj 4 = (vik 0)) → (vj 5 = (vik 1)) → (vj 6 = (vik 2)) → (vj 7 = (vik 3)) → (vm 0 = (vlk 0)) → Q9
def R_X6_startText (fi : Nat → Nat → Int32) (fl : Nat → Nat → Int64) (vi : Nat → Int32) (vl : Nat → Int64) (r : Int32) (fj : Nat → Nat → Int32) (fm : Nat → Nat → Int64) (vj : Nat → Int32) (vm : Nat → Int64) : Prop :=
  ∀ Q9 : Prop, RL_X6_startText_0 fi fl vi vl r fj fm vj vm Q9 → Q9
def PS_X6_startText (fi : Nat → Nat → Int32) (fl : Nat → Nat → Int64) (vi : Nat → Int32) (vl : Nat → Int64) (r : Int32) (fj : Nat → Nat → Int32) (fm : Nat → Nat → Int64) (vj : Nat → Int32) (vm : Nat → Int64) : Prop :=
  ∀ n m : Nat, (vi 2).toInt = (n : Int) → (vi 0).toInt = (m : Int) → (vj 0).toInt = (vi 0).toInt ∧ (vj 2).toInt = 0 ∧ CC (trn (fi 0) n) n m 0 (vi 2) (vj 0) (vj 4) (vj 5) (vj 1) (vm 0) (vj 7) (vj 6)
set_option maxHeartbeats 4000000 in
theorem PL_X6_startText_0 {fi : Nat → Nat → Int32} {fl : Nat → Nat → Int64} {vi : Nat → Int32} {vl : Nat → Int64} {r : Int32} {fj : Nat → Nat → Int32} {fm : Nat → Nat → Int64} {vj : Nat → Int32} {vm : Nat → Int64} : RL_X6_startText_0 fi fl vi vl r fj fm vj vm (PS_X6_startText fi fl vi vl r fj fm vj vm) := by
  unfold RL_X6_startText_0
  intro hp0 hp1 hp2 hp3 hp4 hp5 fik flk vik vlk uk gk_0 gk_1 gk_2 q0 q1 q2 q3 q4 q5 q6 q7 q8
  unfold PS_X6_startText
  intro n m hn hm
  (try simp only [q0, q1, q2, q3, q4, q5, q6, q7, q8]); have k9_0 : (0 : Int32).toInt = 0 := (by decide); have k9_1 : (1 : Int32).toInt = 1 := (by decide)
  exact ⟨by first | rfl | trivial, by first | decide | trivial, (gk_2 n m hn hm (by have k9 : (0 : Int32).toInt = 0 := (by decide); omega))⟩
theorem P_X6_startText {fi : Nat → Nat → Int32} {fl : Nat → Nat → Int64} {vi : Nat → Int32} {vl : Nat → Int64} {r : Int32} {fj : Nat → Nat → Int32} {fm : Nat → Nat → Int64} {vj : Nat → Int32} {vm : Nat → Int64} (h : R_X6_startText fi fl vi vl r fj fm vj vm) : ∀ n m : Nat, (vi 2).toInt = (n : Int) → (vi 0).toInt = (m : Int) → (vj 0).toInt = (vi 0).toInt ∧ (vj 2).toInt = 0 ∧ CC (trn (fi 0) n) n m 0 (vi 2) (vj 0) (vj 4) (vj 5) (vj 1) (vm 0) (vj 7) (vj 6) := h (PS_X6_startText fi fl vi vl r fj fm vj vm) PL_X6_startText_0
def RL_J1_charAt_3b067_0 (fi : Nat → Nat → Int32) (fl : Nat → Nat → Int64) (vi : Nat → Int32) (vl : Nat → Int64) (r : Int32) (fj : Nat → Nat → Int32) (fm : Nat → Nat → Int64) (vj : Nat → Int32) (vm : Nat → Int64) (Q9 : Prop) : Prop :=
  (0 ≤ (vi 0).toInt ∧ (vi 0).toInt ≤ 5) → ∀ (fik : Nat → Nat → Int32), ∀ (flk : Nat → Nat → Int64), ∀ (vik : Nat → Int32), ∀ (vlk : Nat → Int64), ∀ (uk : Int32), ∀ (z8 : Int32), (z8 = (sBy.getD 11 []).getD (vi 0).toNatClampNeg 0) → ∀ (z12 : Int32), (z12 = z8 &&& (255 : Int32)) → ∀ (z13 : Int32), (z13 = (z12.toUInt32 % 65536).toInt32) → (r = z13) → Q9
def R_J1_charAt_3b067 (fi : Nat → Nat → Int32) (fl : Nat → Nat → Int64) (vi : Nat → Int32) (vl : Nat → Int64) (r : Int32) (fj : Nat → Nat → Int32) (fm : Nat → Nat → Int64) (vj : Nat → Int32) (vm : Nat → Int64) : Prop :=
  ∀ Q9 : Prop, RL_J1_charAt_3b067_0 fi fl vi vl r fj fm vj vm Q9 → Q9
def PS_J1_charAt_3b067 (fi : Nat → Nat → Int32) (fl : Nat → Nat → Int64) (vi : Nat → Int32) (vl : Nat → Int64) (r : Int32) (fj : Nat → Nat → Int32) (fm : Nat → Nat → Int64) (vj : Nat → Int32) (vm : Nat → Int64) : Prop :=
  r = (sBy.getD 11 []).getD ((vi 0).toInt).toNat 0
set_option maxHeartbeats 4000000 in
theorem PL_J1_charAt_3b067_0 {fi : Nat → Nat → Int32} {fl : Nat → Nat → Int64} {vi : Nat → Int32} {vl : Nat → Int64} {r : Int32} {fj : Nat → Nat → Int32} {fm : Nat → Nat → Int64} {vj : Nat → Int32} {vm : Nat → Int64} : RL_J1_charAt_3b067_0 fi fl vi vl r fj fm vj vm (PS_J1_charAt_3b067 fi fl vi vl r fj fm vj vm) := by
  unfold RL_J1_charAt_3b067_0
  intro hp0 fik flk vik vlk uk z8 ez8 z12 ez12 z13 ez13 q0; subst q0
  unfold PS_J1_charAt_3b067
  first | exact by assumption | exact char_of (by assumption) (by assumption) (by assumption)
theorem P_J1_charAt_3b067 {fi : Nat → Nat → Int32} {fl : Nat → Nat → Int64} {vi : Nat → Int32} {vl : Nat → Int64} {r : Int32} {fj : Nat → Nat → Int32} {fm : Nat → Nat → Int64} {vj : Nat → Int32} {vm : Nat → Int64} (h : R_J1_charAt_3b067 fi fl vi vl r fj fm vj vm) : r = (sBy.getD 11 []).getD ((vi 0).toInt).toNat 0 := h (PS_J1_charAt_3b067 fi fl vi vl r fj fm vj vm) PL_J1_charAt_3b067_0
def RL_J0_charAt_5068e_0 (fi : Nat → Nat → Int32) (fl : Nat → Nat → Int64) (vi : Nat → Int32) (vl : Nat → Int64) (r : Int32) (fj : Nat → Nat → Int32) (fm : Nat → Nat → Int64) (vj : Nat → Int32) (vm : Nat → Int64) (Q9 : Prop) : Prop :=
  (0 ≤ (vi 0).toInt ∧ (vi 0).toInt ≤ 5) → ∀ (fik : Nat → Nat → Int32), ∀ (flk : Nat → Nat → Int64), ∀ (vik : Nat → Int32), ∀ (vlk : Nat → Int64), ∀ (rk : Int32), (rk = 1) → ∀ (fik_1 : Nat → Nat → Int32), ∀ (flk_1 : Nat → Nat → Int64), ∀ (vik_1 : Nat → Int32), ∀ (vlk_1 : Nat → Int64), ∀ (rk_1 : Int32), (rk_1 = (sBy.getD 11 []).getD ((vi 0).toInt).toNat 0) → (r = rk_1) → Q9
