def R_X6_advance (fi : Nat → Nat → Int32) (fl : Nat → Nat → Int64) (vi : Nat → Int32) (vl : Nat → Int64) (r : Int32) (fj : Nat → Nat → Int32) (fm : Nat → Nat → Int64) (vj : Nat → Int32) (vm : Nat → Int64) : Prop :=
  ∀ Q9 : Prop, RL_X6_advance_0 fi fl vi vl r fj fm vj vm Q9 → RL_X6_advance_1 fi fl vi vl r fj fm vj vm Q9 → RL_X6_advance_2 fi fl vi vl r fj fm vj vm Q9 → RL_X6_advance_3 fi fl vi vl r fj fm vj vm Q9 → RL_X6_advance_4 fi fl vi vl r fj fm vj vm Q9 → RL_X6_advance_5 fi fl vi vl r fj fm vj vm Q9 → RL_X6_advance_6 fi fl vi vl r fj fm vj vm Q9 → RL_X6_advance_7 fi fl vi vl r fj fm vj vm Q9 → RL_X6_advance_8 fi fl vi vl r fj fm vj vm Q9 → RL_X6_advance_9 fi fl vi vl r fj fm vj vm Q9 → RL_X6_advance_10 fi fl vi vl r fj fm vj vm Q9 → RL_X6_advance_11 fi fl vi vl r fj fm vj vm Q9 → RL_X6_advance_12 fi fl vi vl r fj fm vj vm Q9 → RL_X6_advance_13 fi fl vi vl r fj fm vj vm Q9 → RL_X6_advance_14 fi fl vi vl r fj fm vj vm Q9 → RL_X6_advance_15 fi fl vi vl r fj fm vj vm Q9 → RL_X6_advance_16 fi fl vi vl r fj fm vj vm Q9 → RL_X6_advance_17 fi fl vi vl r fj fm vj vm Q9 → RL_X6_advance_18 fi fl vi vl r fj fm vj vm Q9 → Q9
def PS_X6_advance (fi : Nat → Nat → Int32) (fl : Nat → Nat → Int64) (vi : Nat → Int32) (vl : Nat → Int64) (r : Int32) (fj : Nat → Nat → Int32) (fm : Nat → Nat → Int64) (vj : Nat → Int32) (vm : Nat → Int64) : Prop :=
  ∀ n m : Nat, (vi 1).toInt = (n : Int) → (vi 2).toInt = (m : Int) → (vi 3).toInt ≤ (vi 1).toInt → CC (trn (fi 0) n) n m ((vi 3).toInt).toNat (vi 1) (vi 2) (vj 0) (vj 1) (vj 4) (vm 0) (vj 3) (vj 2)
set_option maxHeartbeats 4000000 in
theorem PL_X6_advance_0 {fi : Nat → Nat → Int32} {fl : Nat → Nat → Int64} {vi : Nat → Int32} {vl : Nat → Int64} {r : Int32} {fj : Nat → Nat → Int32} {fm : Nat → Nat → Int64} {vj : Nat → Int32} {vm : Nat → Int64} : RL_X6_advance_0 fi fl vi vl r fj fm vj vm (PS_X6_advance fi fl vi vl r fj fm vj vm) := by
  unfold RL_X6_advance_0
  intro hp0 hp1 hp2 hp3 hp4 wv hi hsk9 hj c60 c83 c103 q0 q1 q2 q3 q4 q5
  unfold PS_X6_advance
  intro n m hn hm hal
  (try simp only [q0, q1, q2, q3, q4, q5]); have k9_0 : (0 : Int32).toInt = 0 := (by decide); have k9_1 : (1 : Int32).toInt = 1 := (by decide)
  refine CC_ot hn hm ?_
  first | exact CTa_end hsk9 (by omega) (by omega) (by omega) hj (by omega) (by first | exact Or.inl ⟨by omega, by decide, by omega⟩ | exact Or.inr ⟨by omega, by decide, by omega⟩) | (exfalso; omega) | exact CTa_av hsk9 (by omega) (by omega) (by omega) hj (by omega) hav9 hj_1 (by omega) (by first | exact Or.inl ⟨by omega, Or.inl ⟨by omega, by decide⟩⟩ | exact Or.inl ⟨by omega, Or.inr ⟨by omega, by decide⟩⟩ | exact Or.inr (Or.inl ⟨by omega, by omega, Or.inl ⟨by omega, by decide⟩⟩) | exact Or.inr (Or.inl ⟨by omega, by omega, Or.inr ⟨by omega, by decide⟩⟩) | exact Or.inr (Or.inr ⟨by omega, by omega, by decide⟩)) | (have e9 : (0 : Int32) = (0 : Int32) := Int32.toInt_inj.mp (by omega); rw [e9] at hj_1; exact CTa_sign hsk9 (by omega) (by omega) (by omega) hj (by omega) (by omega) (fun c => hj_1 ⟨by omega, c⟩) (by omega) (by first | exact Or.inl ⟨by omega, by decide, rfl⟩ | exact Or.inr ⟨by omega, by decide⟩))
set_option maxHeartbeats 4000000 in
theorem PL_X6_advance_1 {fi : Nat → Nat → Int32} {fl : Nat → Nat → Int64} {vi : Nat → Int32} {vl : Nat → Int64} {r : Int32} {fj : Nat → Nat → Int32} {fm : Nat → Nat → Int64} {vj : Nat → Int32} {vm : Nat → Int64} : RL_X6_advance_1 fi fl vi vl r fj fm vj vm (PS_X6_advance fi fl vi vl r fj fm vj vm) := by
  unfold RL_X6_advance_1
  intro hp0 hp1 hp2 hp3 hp4 wv hi hsk9 hj c60 c83 c103 q0 q1 q2 q3 q4 q5
  unfold PS_X6_advance
  intro n m hn hm hal
  (try simp only [q0, q1, q2, q3, q4, q5]); have k9_0 : (0 : Int32).toInt = 0 := (by decide); have k9_1 : (1 : Int32).toInt = 1 := (by decide)
  refine CC_ot hn hm ?_
  first | exact CTa_end hsk9 (by omega) (by omega) (by omega) hj (by omega) (by first | exact Or.inl ⟨by omega, by decide, by omega⟩ | exact Or.inr ⟨by omega, by decide, by omega⟩) | (exfalso; omega) | exact CTa_av hsk9 (by omega) (by omega) (by omega) hj (by omega) hav9 hj_1 (by omega) (by first | exact Or.inl ⟨by omega, Or.inl ⟨by omega, by decide⟩⟩ | exact Or.inl ⟨by omega, Or.inr ⟨by omega, by decide⟩⟩ | exact Or.inr (Or.inl ⟨by omega, by omega, Or.inl ⟨by omega, by decide⟩⟩) | exact Or.inr (Or.inl ⟨by omega, by omega, Or.inr ⟨by omega, by decide⟩⟩) | exact Or.inr (Or.inr ⟨by omega, by omega, by decide⟩)) | (have e9 : (0 : Int32) = (0 : Int32) := Int32.toInt_inj.mp (by omega); rw [e9] at hj_1; exact CTa_sign hsk9 (by omega) (by omega) (by omega) hj (by omega) (by omega) (fun c => hj_1 ⟨by omega, c⟩) (by omega) (by first | exact Or.inl ⟨by omega, by decide, rfl⟩ | exact Or.inr ⟨by omega, by decide⟩))
set_option maxHeartbeats 4000000 in
theorem PL_X6_advance_2 {fi : Nat → Nat → Int32} {fl : Nat → Nat → Int64} {vi : Nat → Int32} {vl : Nat → Int64} {r : Int32} {fj : Nat → Nat → Int32} {fm : Nat → Nat → Int64} {vj : Nat → Int32} {vm : Nat → Int64} : RL_X6_advance_2 fi fl vi vl r fj fm vj vm (PS_X6_advance fi fl vi vl r fj fm vj vm) := by
  unfold RL_X6_advance_2
  intro hp0 hp1 hp2 hp3 hp4 wv hi hsk9 hj c60 c83 c103_1 q0 q1 q2 q3 q4 q5
  unfold PS_X6_advance
  intro n m hn hm hal
  (try simp only [q0, q1, q2, q3, q4, q5]); have k9_0 : (0 : Int32).toInt = 0 := (by decide); have k9_1 : (1 : Int32).toInt = 1 := (by decide); have k9_2 : (4 : Int32).toInt = 4 := (by decide)
  refine CC_ot hn hm ?_
  first | exact CTa_end hsk9 (by omega) (by omega) (by omega) hj (by omega) (by first | exact Or.inl ⟨by omega, by decide, by omega⟩ | exact Or.inr ⟨by omega, by decide, by omega⟩) | (exfalso; omega) | exact CTa_av hsk9 (by omega) (by omega) (by omega) hj (by omega) hav9 hj_1 (by omega) (by first | exact Or.inl ⟨by omega, Or.inl ⟨by omega, by decide⟩⟩ | exact Or.inl ⟨by omega, Or.inr ⟨by omega, by decide⟩⟩ | exact Or.inr (Or.inl ⟨by omega, by omega, Or.inl ⟨by omega, by decide⟩⟩) | exact Or.inr (Or.inl ⟨by omega, by omega, Or.inr ⟨by omega, by decide⟩⟩) | exact Or.inr (Or.inr ⟨by omega, by omega, by decide⟩)) | (have e9 : (0 : Int32) = (0 : Int32) := Int32.toInt_inj.mp (by omega); rw [e9] at hj_1; exact CTa_sign hsk9 (by omega) (by omega) (by omega) hj (by omega) (by omega) (fun c => hj_1 ⟨by omega, c⟩) (by omega) (by first | exact Or.inl ⟨by omega, by decide, rfl⟩ | exact Or.inr ⟨by omega, by decide⟩))
set_option maxHeartbeats 4000000 in
theorem PL_X6_advance_3 {fi : Nat → Nat → Int32} {fl : Nat → Nat → Int64} {vi : Nat → Int32} {vl : Nat → Int64} {r : Int32} {fj : Nat → Nat → Int32} {fm : Nat → Nat → Int64} {vj : Nat → Int32} {vm : Nat → Int64} : RL_X6_advance_3 fi fl vi vl r fj fm vj vm (PS_X6_advance fi fl vi vl r fj fm vj vm) := by
  unfold RL_X6_advance_3
  intro hp0 hp1 hp2 hp3 hp4 wv hi hsk9 hj c60 c83 c103_1 q0 q1 q2 q3 q4 q5
  unfold PS_X6_advance
  intro n m hn hm hal
  (try simp only [q0, q1, q2, q3, q4, q5]); have k9_0 : (0 : Int32).toInt = 0 := (by decide); have k9_1 : (1 : Int32).toInt = 1 := (by decide); have k9_2 : (4 : Int32).toInt = 4 := (by decide)
  refine CC_ot hn hm ?_
  first | exact CTa_end hsk9 (by omega) (by omega) (by omega) hj (by omega) (by first | exact Or.inl ⟨by omega, by decide, by omega⟩ | exact Or.inr ⟨by omega, by decide, by omega⟩) | (exfalso; omega) | exact CTa_av hsk9 (by omega) (by omega) (by omega) hj (by omega) hav9 hj_1 (by omega) (by first | exact Or.inl ⟨by omega, Or.inl ⟨by omega, by decide⟩⟩ | exact Or.inl ⟨by omega, Or.inr ⟨by omega, by decide⟩⟩ | exact Or.inr (Or.inl ⟨by omega, by omega, Or.inl ⟨by omega, by decide⟩⟩) | exact Or.inr (Or.inl ⟨by omega, by omega, Or.inr ⟨by omega, by decide⟩⟩) | exact Or.inr (Or.inr ⟨by omega, by omega, by decide⟩)) | (have e9 : (0 : Int32) = (0 : Int32) := Int32.toInt_inj.mp (by omega); rw [e9] at hj_1; exact CTa_sign hsk9 (by omega) (by omega) (by omega) hj (by omega) (by omega) (fun c => hj_1 ⟨by omega, c⟩) (by omega) (by first | exact Or.inl ⟨by omega, by decide, rfl⟩ | exact Or.inr ⟨by omega, by decide⟩))
set_option maxHeartbeats 4000000 in
theorem PL_X6_advance_4 {fi : Nat → Nat → Int32} {fl : Nat → Nat → Int64} {vi : Nat → Int32} {vl : Nat → Int64} {r : Int32} {fj : Nat → Nat → Int32} {fm : Nat → Nat → Int64} {vj : Nat → Int32} {vm : Nat → Int64} : RL_X6_advance_4 fi fl vi vl r fj fm vj vm (PS_X6_advance fi fl vi vl r fj fm vj vm) := by
  unfold RL_X6_advance_4
  intro hp0 hp1 hp2 hp3 hp4 wv hi hsk9 hj c60 c71 w2 w1 wv_1 wv_2 wv_3 hi_1 hi_2 hi_3 hat9 hav9 hj_1 z255 ez255 tz255 c256 c327 c350 q0 q1 q2 q3 q4 q5
  unfold PS_X6_advance
  intro n m hn hm hal
  (try simp only [q0, q1, q2, q3, q4, q5]); have k9_0 : (0 : Int32).toInt = 0 := (by decide); have k9_1 : (1 : Int32).toInt = 1 := (by decide); have k9_2 : (4 : Int32).toInt = 4 := (by decide)
  refine CC_ot hn hm ?_
  first | exact CTa_end hsk9 (by omega) (by omega) (by omega) hj (by omega) (by first | exact Or.inl ⟨by omega, by decide, by omega⟩ | exact Or.inr ⟨by omega, by decide, by omega⟩) | (exfalso; omega) | exact CTa_av hsk9 (by omega) (by omega) (by omega) hj (by omega) hav9 hj_1 (by omega) (by first | exact Or.inl ⟨by omega, Or.inl ⟨by omega, by decide⟩⟩ | exact Or.inl ⟨by omega, Or.inr ⟨by omega, by decide⟩⟩ | exact Or.inr (Or.inl ⟨by omega, by omega, Or.inl ⟨by omega, by decide⟩⟩) | exact Or.inr (Or.inl ⟨by omega, by omega, Or.inr ⟨by omega, by decide⟩⟩) | exact Or.inr (Or.inr ⟨by omega, by omega, by decide⟩)) | (have e9 : wv_3 = wv := Int32.toInt_inj.mp (by omega); rw [e9] at hj_1; exact CTa_sign hsk9 (by omega) (by omega) (by omega) hj (by omega) (by omega) (fun c => hj_1 ⟨by omega, c⟩) (by omega) (by first | exact Or.inl ⟨by omega, by decide, rfl⟩ | exact Or.inr ⟨by omega, by decide⟩))
set_option maxHeartbeats 4000000 in
theorem PL_X6_advance_5 {fi : Nat → Nat → Int32} {fl : Nat → Nat → Int64} {vi : Nat → Int32} {vl : Nat → Int64} {r : Int32} {fj : Nat → Nat → Int32} {fm : Nat → Nat → Int64} {vj : Nat → Int32} {vm : Nat → Int64} : RL_X6_advance_5 fi fl vi vl r fj fm vj vm (PS_X6_advance fi fl vi vl r fj fm vj vm) := by
  unfold RL_X6_advance_5
  intro hp0 hp1 hp2 hp3 hp4 wv hi hsk9 hj c60 c71 w2 w1 wv_1 wv_2 wv_3 hi_1 hi_2 hi_3 hat9 hav9 hj_1 z255 ez255 tz255 c256 c327 c350 c355 q0 q1 q2 q3 q4 q5
  unfold PS_X6_advance
  intro n m hn hm hal
  (try simp only [q0, q1, q2, q3, q4, q5]); have k9_0 : (0 : Int32).toInt = 0 := (by decide); have k9_1 : (1 : Int32).toInt = 1 := (by decide); have k9_2 : (4 : Int32).toInt = 4 := (by decide)
  refine CC_ot hn hm ?_
  first | exact CTa_end hsk9 (by omega) (by omega) (by omega) hj (by omega) (by first | exact Or.inl ⟨by omega, by decide, by omega⟩ | exact Or.inr ⟨by omega, by decide, by omega⟩) | (exfalso; omega) | exact CTa_av hsk9 (by omega) (by omega) (by omega) hj (by omega) hav9 hj_1 (by omega) (by first | exact Or.inl ⟨by omega, Or.inl ⟨by omega, by decide⟩⟩ | exact Or.inl ⟨by omega, Or.inr ⟨by omega, by decide⟩⟩ | exact Or.inr (Or.inl ⟨by omega, by omega, Or.inl ⟨by omega, by decide⟩⟩) | exact Or.inr (Or.inl ⟨by omega, by omega, Or.inr ⟨by omega, by decide⟩⟩) | exact Or.inr (Or.inr ⟨by omega, by omega, by decide⟩)) | (have e9 : wv_3 = wv := Int32.toInt_inj.mp (by omega); rw [e9] at hj_1; exact CTa_sign hsk9 (by omega) (by omega) (by omega) hj (by omega) (by omega) (fun c => hj_1 ⟨by omega, c⟩) (by omega) (by first | exact Or.inl ⟨by omega, by decide, rfl⟩ | exact Or.inr ⟨by omega, by decide⟩))
set_option maxHeartbeats 4000000 in
theorem PL_X6_advance_6 {fi : Nat → Nat → Int32} {fl : Nat → Nat → Int64} {vi : Nat → Int32} {vl : Nat → Int64} {r : Int32} {fj : Nat → Nat → Int32} {fm : Nat → Nat → Int64} {vj : Nat → Int32} {vm : Nat → Int64} : RL_X6_advance_6 fi fl vi vl r fj fm vj vm (PS_X6_advance fi fl vi vl r fj fm vj vm) := by
  unfold RL_X6_advance_6
  intro hp0 hp1 hp2 hp3 hp4 wv hi hsk9 hj c60 c71 w2 w1 wv_1 wv_2 wv_3 hi_1 hi_2 hi_3 hat9 hav9 hj_1 z255 ez255 tz255 c256 c327 c350 c355 q0 q1 q2 q3 q4 q5
  unfold PS_X6_advance
  intro n m hn hm hal
  (try simp only [q0, q1, q2, q3, q4, q5]); have k9_0 : (0 : Int32).toInt = 0 := (by decide); have k9_1 : (1 : Int32).toInt = 1 := (by decide); have k9_2 : (2 : Int32).toInt = 2 := (by decide)
  refine CC_ot hn hm ?_
  first | exact CTa_end hsk9 (by omega) (by omega) (by omega) hj (by omega) (by first | exact Or.inl ⟨by omega, by decide, by omega⟩ | exact Or.inr ⟨by omega, by decide, by omega⟩) | (exfalso; omega) | exact CTa_av hsk9 (by omega) (by omega) (by omega) hj (by omega) hav9 hj_1 (by omega) (by first | exact Or.inl ⟨by omega, Or.inl ⟨by omega, by decide⟩⟩ | exact Or.inl ⟨by omega, Or.inr ⟨by omega, by decide⟩⟩ | exact Or.inr (Or.inl ⟨by omega, by omega, Or.inl ⟨by omega, by decide⟩⟩) | exact Or.inr (Or.inl ⟨by omega, by omega, Or.inr ⟨by omega, by decide⟩⟩) | exact Or.inr (Or.inr ⟨by omega, by omega, by decide⟩)) | (have e9 : wv_3 = wv := Int32.toInt_inj.mp (by omega); rw [e9] at hj_1; exact CTa_sign hsk9 (by omega) (by omega) (by omega) hj (by omega) (by omega) (fun c => hj_1 ⟨by omega, c⟩) (by omega) (by first | exact Or.inl ⟨by omega, by decide, rfl⟩ | exact Or.inr ⟨by omega, by decide⟩))
set_option maxHeartbeats 4000000 in
theorem PL_X6_advance_7 {fi : Nat → Nat → Int32} {fl : Nat → Nat → Int64} {vi : Nat → Int32} {vl : Nat → Int64} {r : Int32} {fj : Nat → Nat → Int32} {fm : Nat → Nat → Int64} {vj : Nat → Int32} {vm : Nat → Int64} : RL_X6_advance_7 fi fl vi vl r fj fm vj vm (PS_X6_advance fi fl vi vl r fj fm vj vm) := by
  unfold RL_X6_advance_7
  intro hp0 hp1 hp2 hp3 hp4 wv hi hsk9 hj c60 c71 w2 w1 wv_1 wv_2 wv_3 hi_1 hi_2 hi_3 hat9 hav9 hj_1 z255 ez255 tz255 c256 c327 c334 q0 q1 q2 q3 q4 q5
  unfold PS_X6_advance
  intro n m hn hm hal
  (try simp only [q0, q1, q2, q3, q4, q5]); have k9_0 : (0 : Int32).toInt = 0 := (by decide); have k9_1 : (1 : Int32).toInt = 1 := (by decide); have k9_2 : (4 : Int32).toInt = 4 := (by decide)
  refine CC_ot hn hm ?_
  first | exact CTa_end hsk9 (by omega) (by omega) (by omega) hj (by omega) (by first | exact Or.inl ⟨by omega, by decide, by omega⟩ | exact Or.inr ⟨by omega, by decide, by omega⟩) | (exfalso; omega) | exact CTa_av hsk9 (by omega) (by omega) (by omega) hj (by omega) hav9 hj_1 (by omega) (by first | exact Or.inl ⟨by omega, Or.inl ⟨by omega, by decide⟩⟩ | exact Or.inl ⟨by omega, Or.inr ⟨by omega, by decide⟩⟩ | exact Or.inr (Or.inl ⟨by omega, by omega, Or.inl ⟨by omega, by decide⟩⟩) | exact Or.inr (Or.inl ⟨by omega, by omega, Or.inr ⟨by omega, by decide⟩⟩) | exact Or.inr (Or.inr ⟨by omega, by omega, by decide⟩)) | (have e9 : wv_3 = wv := Int32.toInt_inj.mp (by omega); rw [e9] at hj_1; exact CTa_sign hsk9 (by omega) (by omega) (by omega) hj (by omega) (by omega) (fun c => hj_1 ⟨by omega, c⟩) (by omega) (by first | exact Or.inl ⟨by omega, by decide, rfl⟩ | exact Or.inr ⟨by omega, by decide⟩))
set_option maxHeartbeats 4000000 in
theorem PL_X6_advance_8 {fi : Nat → Nat → Int32} {fl : Nat → Nat → Int64} {vi : Nat → Int32} {vl : Nat → Int64} {r : Int32} {fj : Nat → Nat → Int32} {fm : Nat → Nat → Int64} {vj : Nat → Int32} {vm : Nat → Int64} : RL_X6_advance_8 fi fl vi vl r fj fm vj vm (PS_X6_advance fi fl vi vl r fj fm vj vm) := by
  unfold RL_X6_advance_8
  intro hp0 hp1 hp2 hp3 hp4 wv hi hsk9 hj c60 c71 w2 w1 wv_1 wv_2 wv_3 hi_1 hi_2 hi_3 hat9 hav9 hj_1 z255 ez255 tz255 c256 c327 c334 q0 q1 q2 q3 q4 q5
  unfold PS_X6_advance
  intro n m hn hm hal
  (try simp only [q0, q1, q2, q3, q4, q5]); have k9_0 : (0 : Int32).toInt = 0 := (by decide); have k9_1 : (1 : Int32).toInt = 1 := (by decide)
  refine CC_ot hn hm ?_
  first | exact CTa_end hsk9 (by omega) (by omega) (by omega) hj (by omega) (by first | exact Or.inl ⟨by omega, by decide, by omega⟩ | exact Or.inr ⟨by omega, by decide, by omega⟩) | (exfalso; omega) | exact CTa_av hsk9 (by omega) (by omega) (by omega) hj (by omega) hav9 hj_1 (by omega) (by first | exact Or.inl ⟨by omega, Or.inl ⟨by omega, by decide⟩⟩ | exact Or.inl ⟨by omega, Or.inr ⟨by omega, by decide⟩⟩ | exact Or.inr (Or.inl ⟨by omega, by omega, Or.inl ⟨by omega, by decide⟩⟩) | exact Or.inr (Or.inl ⟨by omega, by omega, Or.inr ⟨by omega, by decide⟩⟩) | exact Or.inr (Or.inr ⟨by omega, by omega, by decide⟩)) | (have e9 : wv_3 = wv := Int32.toInt_inj.mp (by omega); rw [e9] at hj_1; exact CTa_sign hsk9 (by omega) (by omega) (by omega) hj (by omega) (by omega) (fun c => hj_1 ⟨by omega, c⟩) (by omega) (by first | exact Or.inl ⟨by omega, by decide, rfl⟩ | exact Or.inr ⟨by omega, by decide⟩))
set_option maxHeartbeats 4000000 in
theorem PL_X6_advance_9 {fi : Nat → Nat → Int32} {fl : Nat → Nat → Int64} {vi : Nat → Int32} {vl : Nat → Int64} {r : Int32} {fj : Nat → Nat → Int32} {fm : Nat → Nat → Int64} {vj : Nat → Int32} {vm : Nat → Int64} : RL_X6_advance_9 fi fl vi vl r fj fm vj vm (PS_X6_advance fi fl vi vl r fj fm vj vm) := by
  unfold RL_X6_advance_9
  intro hp0 hp1 hp2 hp3 hp4 wv hi hsk9 hj c60 c71 w2 w1 wv_1 wv_2 wv_3 hi_1 hi_2 hi_3 hat9 hav9 hj_1 z255 ez255 tz255 c256 z265 ez265 tz265 c276 q0 q1 q2 q3 q4 q5
  unfold PS_X6_advance
  intro n m hn hm hal
  (try simp only [q0, q1, q2, q3, q4, q5]); have k9_0 : (0 : Int32).toInt = 0 := (by decide); have k9_1 : (1 : Int32).toInt = 1 := (by decide); have k9_2 : (3 : Int32).toInt = 3 := (by decide)
  refine CC_ot hn hm ?_
  first | exact CTa_end hsk9 (by omega) (by omega) (by omega) hj (by omega) (by first | exact Or.inl ⟨by omega, by decide, by omega⟩ | exact Or.inr ⟨by omega, by decide, by omega⟩) | (exfalso; omega) | exact CTa_av hsk9 (by omega) (by omega) (by omega) hj (by omega) hav9 hj_1 (by omega) (by first | exact Or.inl ⟨by omega, Or.inl ⟨by omega, by decide⟩⟩ | exact Or.inl ⟨by omega, Or.inr ⟨by omega, by decide⟩⟩ | exact Or.inr (Or.inl ⟨by omega, by omega, Or.inl ⟨by omega, by decide⟩⟩) | exact Or.inr (Or.inl ⟨by omega, by omega, Or.inr ⟨by omega, by decide⟩⟩) | exact Or.inr (Or.inr ⟨by omega, by omega, by decide⟩)) | (have e9 : wv_3 = wv := Int32.toInt_inj.mp (by omega); rw [e9] at hj_1; exact CTa_sign hsk9 (by omega) (by omega) (by omega) hj (by omega) (by omega) (fun c => hj_1 ⟨by omega, c⟩) (by omega) (by first | exact Or.inl ⟨by omega, by decide, rfl⟩ | exact Or.inr ⟨by omega, by decide⟩))
set_option maxHeartbeats 4000000 in
theorem PL_X6_advance_10 {fi : Nat → Nat → Int32} {fl : Nat → Nat → Int64} {vi : Nat → Int32} {vl : Nat → Int64} {r : Int32} {fj : Nat → Nat → Int32} {fm : Nat → Nat → Int64} {vj : Nat → Int32} {vm : Nat → Int64} : RL_X6_advance_10 fi fl vi vl r fj fm vj vm (PS_X6_advance fi fl vi vl r fj fm vj vm) := by
  unfold RL_X6_advance_10
  intro hp0 hp1 hp2 hp3 hp4 wv hi hsk9 hj c60 c71 w2 w1 wv_1 wv_2 wv_3 hi_1 hi_2 hi_3 hat9 hav9 hj_1 z255 ez255 tz255 c256 z265 ez265 tz265 c276 c285 q0 q1 q2 q3 q4 q5
  unfold PS_X6_advance
  intro n m hn hm hal
  (try simp only [q0, q1, q2, q3, q4, q5]); have k9_0 : (0 : Int32).toInt = 0 := (by decide); have k9_1 : (1 : Int32).toInt = 1 := (by decide); have k9_2 : (3 : Int32).toInt = 3 := (by decide)
  refine CC_ot hn hm ?_
  first | exact CTa_end hsk9 (by omega) (by omega) (by omega) hj (by omega) (by first | exact Or.inl ⟨by omega, by decide, by omega⟩ | exact Or.inr ⟨by omega, by decide, by omega⟩) | (exfalso; omega) | exact CTa_av hsk9 (by omega) (by omega) (by omega) hj (by omega) hav9 hj_1 (by omega) (by first | exact Or.inl ⟨by omega, Or.inl ⟨by omega, by decide⟩⟩ | exact Or.inl ⟨by omega, Or.inr ⟨by omega, by decide⟩⟩ | exact Or.inr (Or.inl ⟨by omega, by omega, Or.inl ⟨by omega, by decide⟩⟩) | exact Or.inr (Or.inl ⟨by omega, by omega, Or.inr ⟨by omega, by decide⟩⟩) | exact Or.inr (Or.inr ⟨by omega, by omega, by decide⟩)) | (have e9 : wv_3 = wv := Int32.toInt_inj.mp (by omega); rw [e9] at hj_1; exact CTa_sign hsk9 (by omega) (by omega) (by omega) hj (by omega) (by omega) (fun c => hj_1 ⟨by omega, c⟩) (by omega) (by first | exact Or.inl ⟨by omega, by decide, rfl⟩ | exact Or.inr ⟨by omega, by decide⟩))
