set_option maxHeartbeats 4000000 in
theorem PL_X5_read_2 {fi : Nat → Nat → Int32} {fl : Nat → Nat → Int64} {vi : Nat → Int32} {vl : Nat → Int64} {r : Int32} {fj : Nat → Nat → Int32} {fm : Nat → Nat → Int64} {vj : Nat → Int32} {vm : Nat → Int64} : RL_X5_read_2 fi fl vi vl r fj fm vj vm (PS_X5_read fi fl vi vl r fj fm vj vm) := by
  unfold RL_X5_read_2
  intro hp0 hp1 hp2 hp3 hp4 hp5 hp6 hp7 hp8 fik flk vik vlk uk gk_0 gk_1 gk_2 gk_3 gk_4 fik_1 flk_1 vik_1 vlk_1 rk_1 gk_1_1 gk_1_2 gk_1_3 gk_1_4 gk_1_5 gk_1_6 gk_1_7 tb gk_1_0 q0 q1 q2 q3 q4 q5 q6 q7 q8 q9 q10 q11 q12 q13 q14 q15; subst q0
  unfold PS_X5_read
  intro n hn h9
  (try simp only [q1, q2, q3, q4, q5, q6, q7, q8, q9, q10, q11, q12, q13, q14, q15]); have k9_0 : (0 : Int32).toInt = 0 := (by decide); have k9_1 : (1 : Int32).toInt = 1 := (by decide)
  obtain ⟨s1, s2, s3⟩ := gk_4 n 200 hn (by decide)
  rcases gk_1_7 n 200 0 s3 [] rfl rfl with ⟨b1, t9, b2, b3, b4, b5⟩ | ⟨b1, b2⟩
  · exact absurd (b1.symm.trans tb) (by decide)
  · exact Or.inr ⟨by decide, b2.1, b2.2 1000 (by omega)⟩
theorem P_X5_read {fi : Nat → Nat → Int32} {fl : Nat → Nat → Int64} {vi : Nat → Int32} {vl : Nat → Int64} {r : Int32} {fj : Nat → Nat → Int32} {fm : Nat → Nat → Int64} {vj : Nat → Int32} {vm : Nat → Int64} (h : R_X5_read fi fl vi vl r fj fm vj vm) : ∀ n : Nat, (vi 3).toInt = (n : Int) → n ≤ 940 → (r.toInt = 1 ∧ (SR0 (trn (fi 0) n) n (ownB (fl 0)) (fl 1) (vi 13).toInt) = (0, (vj 1).toInt)) ∨ (r.toInt = 0 ∧ ¬ (vj 4).toInt = 0 ∧ (SR0 (trn (fi 0) n) n (ownB (fl 0)) (fl 1) (vi 13).toInt) = ((vj 4).toInt, (vj 5).toInt)) := h (PS_X5_read fi fl vi vl r fj fm vj vm) PL_X5_read_0 PL_X5_read_1 PL_X5_read_2
def RL_X11_sentence_0 (fi : Nat → Nat → Int32) (fl : Nat → Nat → Int64) (vi : Nat → Int32) (vl : Nat → Int64) (r : Int32) (fj : Nat → Nat → Int32) (fm : Nat → Nat → Int64) (vj : Nat → Int32) (vm : Nat → Int64) (Q9 : Prop) : Prop :=
  (0 ≤ (vi 1).toInt ∧ (vi 1).toInt ≤ 40) → (0 ≤ (vi 2).toInt ∧ (vi 2).toInt ≤ 20) → (0 ≤ (vi 4).toInt ∧ (vi 4).toInt ≤ 940) → (0 ≤ (vi 5).toInt ∧ (vi 5).toInt ≤ 940) → (0 ≤ (vi 6).toInt ∧ (vi 6).toInt ≤ 940) → (0 ≤ (vi 8).toInt ∧ (vi 8).toInt ≤ 940) → (0 ≤ (vi 13).toInt ∧ (vi 13).toInt ≤ 940) → (0 ≤ (vi 14).toInt ∧ (vi 14).toInt ≤ 9) → (0 ≤ (vi 15).toInt ∧ (vi 15).toInt ≤ 9) → (0 ≤ (vi 16).toInt ∧ (vi 16).toInt ≤ 40) → (0 ≤ (vi 17).toInt ∧ (vi 17).toInt ≤ 20) → ∀ (fik : Nat → Nat → Int32), ∀ (flk : Nat → Nat → Int64), ∀ (vik : Nat → Int32), ∀ (vlk : Nat → Int64), ∀ (rk : Int32), (0 ≤ (vik 0).toInt ∧ (vik 0).toInt ≤ 40) → (0 ≤ (vik 1).toInt ∧ (vik 1).toInt ≤ 20) → (0 ≤ (vik 2).toInt ∧ (vik 2).toInt ≤ 940) → (0 ≤ (vik 3).toInt ∧ (vik 3).toInt ≤ 940) → (0 ≤ (vik 7).toInt ∧ (vik 7).toInt ≤ 940) → (0 ≤ (vik 5).toInt ∧ (vik 5).toInt ≤ 940) → (∀ n : Nat, (vi 4).toInt = (n : Int) → n ≤ 940 → (rk.toInt = 1 ∧ (SR0 (trn (fi 0) n) n (ownB (fl 0)) (fl 1) (vi 14).toInt) = (0, (vik 1).toInt)) ∨ (rk.toInt = 0 ∧ ¬ (vik 4).toInt = 0 ∧ (SR0 (trn (fi 0) n) n (ownB (fl 0)) (fl 1) (vi 14).toInt) = ((vik 4).toInt, (vik 5).toInt))) → (rk.toInt = 1) → (True) → ∀ (fik_1 : Nat → Nat → Int32), ∀ (flk_1 : Nat → Nat → Int64), ∀ (vik_1 : Nat → Int32), ∀ (vlk_1 : Nat → Int64), ∀ (uk_1 : Int32), (0 ≤ (vik_1 0).toInt ∧ (vik_1 0).toInt ≤ 40) → (0 ≤ (vik_1 1).toInt ∧ (vik_1 1).toInt ≤ 20) → ((vik_1 1).toInt = (vik 1).toInt) → (r = (vik_1 1)) → (fj 0 = (fik 0)) → (fj 1 = (fik 1)) → (fj 2 = (fik 2)) → (fj 3 = (fik_1 0)) → (fj 4 = (fik_1 1)) → (fj 5 = (fik_1 2)) → (vj 0 = (vik 0)) → (vj 1 = (vik 1)) → (vj 2 = (vik 2)) → (vj 3 = (vik 3)) → (vj 4 = (vik 4)) → (vj 5 = (vik 5)) → (vj 6 = (vik 6)) → (vj 7 = (vik 7)) → (vj 8 = (vik 8)) → (vj 9 = (vik 9)) → (vj 10 = (vik 10)) → (vj 11 = (0 : Int32)) → (vj 12 = (vik 4)) → (vj 13 = (vik_1 0)) → (vj 14 = (vik_1 1)) → (vm 0 = (vlk 0)) → Q9
def RL_X11_sentence_1 (fi : Nat → Nat → Int32) (fl : Nat → Nat → Int64) (vi : Nat → Int32) (vl : Nat → Int64) (r : Int32) (fj : Nat → Nat → Int32) (fm : Nat → Nat → Int64) (vj : Nat → Int32) (vm : Nat → Int64) (Q9 : Prop) : Prop :=
  (0 ≤ (vi 1).toInt ∧ (vi 1).toInt ≤ 40) → (0 ≤ (vi 2).toInt ∧ (vi 2).toInt ≤ 20) → (0 ≤ (vi 4).toInt ∧ (vi 4).toInt ≤ 940) → (0 ≤ (vi 5).toInt ∧ (vi 5).toInt ≤ 940) → (0 ≤ (vi 6).toInt ∧ (vi 6).toInt ≤ 940) → (0 ≤ (vi 8).toInt ∧ (vi 8).toInt ≤ 940) → (0 ≤ (vi 13).toInt ∧ (vi 13).toInt ≤ 940) → (0 ≤ (vi 14).toInt ∧ (vi 14).toInt ≤ 9) → (0 ≤ (vi 15).toInt ∧ (vi 15).toInt ≤ 9) → (0 ≤ (vi 16).toInt ∧ (vi 16).toInt ≤ 40) → (0 ≤ (vi 17).toInt ∧ (vi 17).toInt ≤ 20) → ∀ (fik : Nat → Nat → Int32), ∀ (flk : Nat → Nat → Int64), ∀ (vik : Nat → Int32), ∀ (vlk : Nat → Int64), ∀ (rk : Int32), (0 ≤ (vik 0).toInt ∧ (vik 0).toInt ≤ 40) → (0 ≤ (vik 1).toInt ∧ (vik 1).toInt ≤ 20) → (0 ≤ (vik 2).toInt ∧ (vik 2).toInt ≤ 940) → (0 ≤ (vik 3).toInt ∧ (vik 3).toInt ≤ 940) → (0 ≤ (vik 7).toInt ∧ (vik 7).toInt ≤ 940) → (0 ≤ (vik 5).toInt ∧ (vik 5).toInt ≤ 940) → (∀ n : Nat, (vi 4).toInt = (n : Int) → n ≤ 940 → (rk.toInt = 1 ∧ (SR0 (trn (fi 0) n) n (ownB (fl 0)) (fl 1) (vi 14).toInt) = (0, (vik 1).toInt)) ∨ (rk.toInt = 0 ∧ ¬ (vik 4).toInt = 0 ∧ (SR0 (trn (fi 0) n) n (ownB (fl 0)) (fl 1) (vi 14).toInt) = ((vik 4).toInt, (vik 5).toInt))) → (rk.toInt = 0) → (True) → ∀ (z39 : Int32), (z39 = ((-1) : Int32) - (vik 5)) → (z39.toInt = (-1) - (vik 5).toInt) → (r = z39) → (fj 0 = (fik 0)) → (fj 1 = (fik 1)) → (fj 2 = (fik 2)) → (fj 3 = (fi 4)) → (fj 4 = (fi 5)) → (fj 5 = (fi 6)) → (vj 0 = (vik 0)) → (vj 1 = (vik 1)) → (vj 2 = (vik 2)) → (vj 3 = (vik 3)) → (vj 4 = (vik 4)) → (vj 5 = (vik 5)) → (vj 6 = (vik 6)) → (vj 7 = (vik 7)) → (vj 8 = (vik 8)) → (vj 9 = (vik 9)) → (vj 10 = (vik 10)) → (vj 11 = (0 : Int32)) → (vj 12 = (vik 4)) → (vj 13 = (vi 16)) → (vj 14 = (vi 17)) → (vm 0 = (vlk 0)) → Q9
def R_X11_sentence (fi : Nat → Nat → Int32) (fl : Nat → Nat → Int64) (vi : Nat → Int32) (vl : Nat → Int64) (r : Int32) (fj : Nat → Nat → Int32) (fm : Nat → Nat → Int64) (vj : Nat → Int32) (vm : Nat → Int64) : Prop :=
  ∀ Q9 : Prop, RL_X11_sentence_0 fi fl vi vl r fj fm vj vm Q9 → RL_X11_sentence_1 fi fl vi vl r fj fm vj vm Q9 → Q9
def PS_X11_sentence (fi : Nat → Nat → Int32) (fl : Nat → Nat → Int64) (vi : Nat → Int32) (vl : Nat → Int64) (r : Int32) (fj : Nat → Nat → Int32) (fm : Nat → Nat → Int64) (vj : Nat → Int32) (vm : Nat → Int64) : Prop :=
  ∀ n : Nat, (vi 4).toInt = (n : Int) → n ≤ 940 → (SR0 (trn (fi 0) n) n (ownB (fl 0)) (fl 1) (vi 14).toInt) = (0, r.toInt) ∨ ∃ e : Int, ¬ e = 0 ∧ (SR0 (trn (fi 0) n) n (ownB (fl 0)) (fl 1) (vi 14).toInt) = (e, -1 - r.toInt)
set_option maxHeartbeats 4000000 in
theorem PL_X11_sentence_0 {fi : Nat → Nat → Int32} {fl : Nat → Nat → Int64} {vi : Nat → Int32} {vl : Nat → Int64} {r : Int32} {fj : Nat → Nat → Int32} {fm : Nat → Nat → Int64} {vj : Nat → Int32} {vm : Nat → Int64} : RL_X11_sentence_0 fi fl vi vl r fj fm vj vm (PS_X11_sentence fi fl vi vl r fj fm vj vm) := by
  unfold RL_X11_sentence_0
  intro hp0 hp1 hp2 hp3 hp4 hp5 hp6 hp7 hp8 hp9 hp10 fik flk vik vlk rk gk_1 gk_2 gk_3 gk_4 gk_5 gk_6 gk_7 tb gk_0 fik_1 flk_1 vik_1 vlk_1 uk_1 gk_1_0 gk_1_1 gk_1_2 q0 q1 q2 q3 q4 q5 q6 q7 q8 q9 q10 q11 q12 q13 q14 q15 q16 q17 q18 q19 q20 q21 q22; subst q0
  unfold PS_X11_sentence
  intro n hn h9
  (try simp only [q1, q2, q3, q4, q5, q6, q7, q8, q9, q10, q11, q12, q13, q14, q15, q16, q17, q18, q19, q20, q21, q22]); have k9_0 : (0 : Int32).toInt = 0 := (by decide); have k9_1 : (1 : Int32).toInt = 1 := (by decide)
  rcases gk_7 n hn h9 with ⟨a1, a2⟩ | ⟨a1, a2, a3⟩
  · first | (exfalso; omega) | exact Or.inl (by rw [a2]; congr 1; omega)
  · first | (exfalso; omega) | exact Or.inr ⟨_, a2, by rw [a3]; congr 1; omega⟩
set_option maxHeartbeats 4000000 in
theorem PL_X11_sentence_1 {fi : Nat → Nat → Int32} {fl : Nat → Nat → Int64} {vi : Nat → Int32} {vl : Nat → Int64} {r : Int32} {fj : Nat → Nat → Int32} {fm : Nat → Nat → Int64} {vj : Nat → Int32} {vm : Nat → Int64} : RL_X11_sentence_1 fi fl vi vl r fj fm vj vm (PS_X11_sentence fi fl vi vl r fj fm vj vm) := by
  unfold RL_X11_sentence_1
  intro hp0 hp1 hp2 hp3 hp4 hp5 hp6 hp7 hp8 hp9 hp10 fik flk vik vlk rk gk_1 gk_2 gk_3 gk_4 gk_5 gk_6 gk_7 tb gk_0 z39 ez39 tz39 q0 q1 q2 q3 q4 q5 q6 q7 q8 q9 q10 q11 q12 q13 q14 q15 q16 q17 q18 q19 q20 q21 q22; subst q0
  unfold PS_X11_sentence
  intro n hn h9
  (try simp only [q1, q2, q3, q4, q5, q6, q7, q8, q9, q10, q11, q12, q13, q14, q15, q16, q17, q18, q19, q20, q21, q22]); have k9_0 : (0 : Int32).toInt = 0 := (by decide); have k9_1 : (1 : Int32).toInt = 1 := (by decide)
  rcases gk_7 n hn h9 with ⟨a1, a2⟩ | ⟨a1, a2, a3⟩
  · first | (exfalso; omega) | exact Or.inl (by rw [a2]; congr 1; omega)
  · first | (exfalso; omega) | exact Or.inr ⟨_, a2, by rw [a3]; congr 1; omega⟩
theorem P_X11_sentence {fi : Nat → Nat → Int32} {fl : Nat → Nat → Int64} {vi : Nat → Int32} {vl : Nat → Int64} {r : Int32} {fj : Nat → Nat → Int32} {fm : Nat → Nat → Int64} {vj : Nat → Int32} {vm : Nat → Int64} (h : R_X11_sentence fi fl vi vl r fj fm vj vm) : ∀ n : Nat, (vi 4).toInt = (n : Int) → n ≤ 940 → (SR0 (trn (fi 0) n) n (ownB (fl 0)) (fl 1) (vi 14).toInt) = (0, r.toInt) ∨ ∃ e : Int, ¬ e = 0 ∧ (SR0 (trn (fi 0) n) n (ownB (fl 0)) (fl 1) (vi 14).toInt) = (e, -1 - r.toInt) := h (PS_X11_sentence fi fl vi vl r fj fm vj vm) PL_X11_sentence_0 PL_X11_sentence_1
def RL_J1_charAt_3b067_21_0 (fi : Nat → Nat → Int32) (fl : Nat → Nat → Int64) (vi : Nat → Int32) (vl : Nat → Int64) (r : Int32) (fj : Nat → Nat → Int32) (fm : Nat → Nat → Int64) (vj : Nat → Int32) (vm : Nat → Int64) (Q9 : Prop) : Prop :=
  (0 ≤ (vi 0).toInt ∧ (vi 0).toInt ≤ 3) → ∀ (fik : Nat → Nat → Int32), ∀ (flk : Nat → Nat → Int64), ∀ (vik : Nat → Int32), ∀ (vlk : Nat → Int64), ∀ (uk : Int32), ∀ (z8 : Int32), (z8 = (sBy.getD 3 []).getD (vi 0).toNatClampNeg 0) → ∀ (z12 : Int32), (z12 = z8 &&& (255 : Int32)) → ∀ (z13 : Int32), (z13 = (z12.toUInt32 % 65536).toInt32) → (r = z13) → Q9
def R_J1_charAt_3b067_21 (fi : Nat → Nat → Int32) (fl : Nat → Nat → Int64) (vi : Nat → Int32) (vl : Nat → Int64) (r : Int32) (fj : Nat → Nat → Int32) (fm : Nat → Nat → Int64) (vj : Nat → Int32) (vm : Nat → Int64) : Prop :=
  ∀ Q9 : Prop, RL_J1_charAt_3b067_21_0 fi fl vi vl r fj fm vj vm Q9 → Q9
def PS_J1_charAt_3b067_21 (fi : Nat → Nat → Int32) (fl : Nat → Nat → Int64) (vi : Nat → Int32) (vl : Nat → Int64) (r : Int32) (fj : Nat → Nat → Int32) (fm : Nat → Nat → Int64) (vj : Nat → Int32) (vm : Nat → Int64) : Prop :=
  r = (sBy.getD 3 []).getD ((vi 0).toInt).toNat 0
set_option maxHeartbeats 4000000 in
theorem PL_J1_charAt_3b067_21_0 {fi : Nat → Nat → Int32} {fl : Nat → Nat → Int64} {vi : Nat → Int32} {vl : Nat → Int64} {r : Int32} {fj : Nat → Nat → Int32} {fm : Nat → Nat → Int64} {vj : Nat → Int32} {vm : Nat → Int64} : RL_J1_charAt_3b067_21_0 fi fl vi vl r fj fm vj vm (PS_J1_charAt_3b067_21 fi fl vi vl r fj fm vj vm) := by
  unfold RL_J1_charAt_3b067_21_0
  intro hp0 fik flk vik vlk uk z8 ez8 z12 ez12 z13 ez13 q0; subst q0
  unfold PS_J1_charAt_3b067_21
  first | exact by assumption | exact char_of (by assumption) (by assumption) (by assumption)
theorem P_J1_charAt_3b067_21 {fi : Nat → Nat → Int32} {fl : Nat → Nat → Int64} {vi : Nat → Int32} {vl : Nat → Int64} {r : Int32} {fj : Nat → Nat → Int32} {fm : Nat → Nat → Int64} {vj : Nat → Int32} {vm : Nat → Int64} (h : R_J1_charAt_3b067_21 fi fl vi vl r fj fm vj vm) : r = (sBy.getD 3 []).getD ((vi 0).toInt).toNat 0 := h (PS_J1_charAt_3b067_21 fi fl vi vl r fj fm vj vm) PL_J1_charAt_3b067_21_0
def RL_J0_charAt_5068e_21_0 (fi : Nat → Nat → Int32) (fl : Nat → Nat → Int64) (vi : Nat → Int32) (vl : Nat → Int64) (r : Int32) (fj : Nat → Nat → Int32) (fm : Nat → Nat → Int64) (vj : Nat → Int32) (vm : Nat → Int64) (Q9 : Prop) : Prop :=
  (0 ≤ (vi 0).toInt ∧ (vi 0).toInt ≤ 3) → ∀ (fik : Nat → Nat → Int32), ∀ (flk : Nat → Nat → Int64), ∀ (vik : Nat → Int32), ∀ (vlk : Nat → Int64), ∀ (rk : Int32), (rk = 1) → ∀ (fik_1 : Nat → Nat → Int32), ∀ (flk_1 : Nat → Nat → Int64), ∀ (vik_1 : Nat → Int32), ∀ (vlk_1 : Nat → Int64), ∀ (rk_1 : Int32), (rk_1 = (sBy.getD 3 []).getD ((vi 0).toInt).toNat 0) → (r = rk_1) → Q9
def R_J0_charAt_5068e_21 (fi : Nat → Nat → Int32) (fl : Nat → Nat → Int64) (vi : Nat → Int32) (vl : Nat → Int64) (r : Int32) (fj : Nat → Nat → Int32) (fm : Nat → Nat → Int64) (vj : Nat → Int32) (vm : Nat → Int64) : Prop :=
  ∀ Q9 : Prop, RL_J0_charAt_5068e_21_0 fi fl vi vl r fj fm vj vm Q9 → Q9
def PS_J0_charAt_5068e_21 (fi : Nat → Nat → Int32) (fl : Nat → Nat → Int64) (vi : Nat → Int32) (vl : Nat → Int64) (r : Int32) (fj : Nat → Nat → Int32) (fm : Nat → Nat → Int64) (vj : Nat → Int32) (vm : Nat → Int64) : Prop :=
  r = (sBy.getD 3 []).getD ((vi 0).toInt).toNat 0
set_option maxHeartbeats 4000000 in
theorem PL_J0_charAt_5068e_21_0 {fi : Nat → Nat → Int32} {fl : Nat → Nat → Int64} {vi : Nat → Int32} {vl : Nat → Int64} {r : Int32} {fj : Nat → Nat → Int32} {fm : Nat → Nat → Int64} {vj : Nat → Int32} {vm : Nat → Int64} : RL_J0_charAt_5068e_21_0 fi fl vi vl r fj fm vj vm (PS_J0_charAt_5068e_21 fi fl vi vl r fj fm vj vm) := by
  unfold RL_J0_charAt_5068e_21_0
  intro hp0 fik flk vik vlk rk gk_0 fik_1 flk_1 vik_1 vlk_1 rk_1 gk_1_1 q0; subst q0
  unfold PS_J0_charAt_5068e_21
  first | exact by assumption | exact char_of (by assumption) (by assumption) (by assumption)
theorem P_J0_charAt_5068e_21 {fi : Nat → Nat → Int32} {fl : Nat → Nat → Int64} {vi : Nat → Int32} {vl : Nat → Int64} {r : Int32} {fj : Nat → Nat → Int32} {fm : Nat → Nat → Int64} {vj : Nat → Int32} {vm : Nat → Int64} (h : R_J0_charAt_5068e_21 fi fl vi vl r fj fm vj vm) : r = (sBy.getD 3 []).getD ((vi 0).toInt).toNat 0 := h (PS_J0_charAt_5068e_21 fi fl vi vl r fj fm vj vm) PL_J0_charAt_5068e_21_0
def RL_X6_isWord_21_0 (fi : Nat → Nat → Int32) (fl : Nat → Nat → Int64) (vi : Nat → Int32) (vl : Nat → Int64) (r : Int32) (fj : Nat → Nat → Int32) (fm : Nat → Nat → Int64) (vj : Nat → Int32) (vm : Nat → Int64) (Q9 : Prop) : Prop :=
  (0 ≤ (vi 1).toInt ∧ (vi 1).toInt ≤ 940) → (0 ≤ (vi 2).toInt ∧ (vi 2).toInt ≤ 940) → (0 ≤ (vi 3).toInt ∧ (vi 3).toInt ≤ 940) → (0 ≤ (vi 5).toInt ∧ (vi 5).toInt ≤ 940) → (0 ≤ (vi 10).toInt ∧ (vi 10).toInt ≤ 940) → ∀ (w4 : Int32), ∀ (w2 : Int64), (0 ≤ w4.toInt ∧ w4.toInt ≤ 4) → (w2 = pkw (sBy.getD 3 []) (w4.toInt).toNat) → ∀ (fik : Nat → Nat → Int32), ∀ (flk : Nat → Nat → Int64), ∀ (vik : Nat → Int32), ∀ (vlk : Nat → Int64), ∀ (rk : Int32), (rk = 4) → (4 ≤ w4.toInt) → (¬ (vi 4).toInt = 1) → (r = (0 : Int32)) → Q9
def RL_X6_isWord_21_1 (fi : Nat → Nat → Int32) (fl : Nat → Nat → Int64) (vi : Nat → Int32) (vl : Nat → Int64) (r : Int32) (fj : Nat → Nat → Int32) (fm : Nat → Nat → Int64) (vj : Nat → Int32) (vm : Nat → Int64) (Q9 : Prop) : Prop :=
  (0 ≤ (vi 1).toInt ∧ (vi 1).toInt ≤ 940) → (0 ≤ (vi 2).toInt ∧ (vi 2).toInt ≤ 940) → (0 ≤ (vi 3).toInt ∧ (vi 3).toInt ≤ 940) → (0 ≤ (vi 5).toInt ∧ (vi 5).toInt ≤ 940) → (0 ≤ (vi 10).toInt ∧ (vi 10).toInt ≤ 940) → ∀ (w4 : Int32), ∀ (w2 : Int64), (0 ≤ w4.toInt ∧ w4.toInt ≤ 4) → (w2 = pkw (sBy.getD 3 []) (w4.toInt).toNat) → ∀ (fik : Nat → Nat → Int32), ∀ (flk : Nat → Nat → Int64), ∀ (vik : Nat → Int32), ∀ (vlk : Nat → Int64), ∀ (rk : Int32), (rk = 4) → (4 ≤ w4.toInt) → ((vi 4).toInt = 1) → ∀ (z46 : Int32), (z46 = lg_cmp w2 (vl 0)) → (¬ z46.toInt = 0) → (r = (0 : Int32)) → Q9
def RL_X6_isWord_21_2 (fi : Nat → Nat → Int32) (fl : Nat → Nat → Int64) (vi : Nat → Int32) (vl : Nat → Int64) (r : Int32) (fj : Nat → Nat → Int32) (fm : Nat → Nat → Int64) (vj : Nat → Int32) (vm : Nat → Int64) (Q9 : Prop) : Prop :=
  (0 ≤ (vi 1).toInt ∧ (vi 1).toInt ≤ 940) → (0 ≤ (vi 2).toInt ∧ (vi 2).toInt ≤ 940) → (0 ≤ (vi 3).toInt ∧ (vi 3).toInt ≤ 940) → (0 ≤ (vi 5).toInt ∧ (vi 5).toInt ≤ 940) → (0 ≤ (vi 10).toInt ∧ (vi 10).toInt ≤ 940) → ∀ (w4 : Int32), ∀ (w2 : Int64), (0 ≤ w4.toInt ∧ w4.toInt ≤ 4) → (w2 = pkw (sBy.getD 3 []) (w4.toInt).toNat) → ∀ (fik : Nat → Nat → Int32), ∀ (flk : Nat → Nat → Int64), ∀ (vik : Nat → Int32), ∀ (vlk : Nat → Int64), ∀ (rk : Int32), (rk = 4) → (4 ≤ w4.toInt) → ((vi 4).toInt = 1) → ∀ (z46 : Int32), (z46 = lg_cmp w2 (vl 0)) → (z46.toInt = 0) → (r = (1 : Int32)) → Q9
def R_X6_isWord_21 (fi : Nat → Nat → Int32) (fl : Nat → Nat → Int64) (vi : Nat → Int32) (vl : Nat → Int64) (r : Int32) (fj : Nat → Nat → Int32) (fm : Nat → Nat → Int64) (vj : Nat → Int32) (vm : Nat → Int64) : Prop :=
  ∀ Q9 : Prop, RL_X6_isWord_21_0 fi fl vi vl r fj fm vj vm Q9 → RL_X6_isWord_21_1 fi fl vi vl r fj fm vj vm Q9 → RL_X6_isWord_21_2 fi fl vi vl r fj fm vj vm Q9 → Q9
def PS_X6_isWord_21 (fi : Nat → Nat → Int32) (fl : Nat → Nat → Int64) (vi : Nat → Int32) (vl : Nat → Int64) (r : Int32) (fj : Nat → Nat → Int32) (fm : Nat → Nat → Int64) (vj : Nat → Int32) (vm : Nat → Int64) : Prop :=
  DJ (r.toInt = 1 ∧ (vi 4).toInt = 1 ∧ (vl 0) = (1851878757 : Int64)) (r.toInt = 0 ∧ ¬ ((vi 4).toInt = 1 ∧ (vl 0) = (1851878757 : Int64)))
set_option maxHeartbeats 4000000 in
theorem PL_X6_isWord_21_0 {fi : Nat → Nat → Int32} {fl : Nat → Nat → Int64} {vi : Nat → Int32} {vl : Nat → Int64} {r : Int32} {fj : Nat → Nat → Int32} {fm : Nat → Nat → Int64} {vj : Nat → Int32} {vm : Nat → Int64} : RL_X6_isWord_21_0 fi fl vi vl r fj fm vj vm (PS_X6_isWord_21 fi fl vi vl r fj fm vj vm) := by
  unfold RL_X6_isWord_21_0
  intro hp0 hp1 hp2 hp3 hp4 w4 w2 hi hpk9 fik flk vik vlk rk gk_0 c11 c38 q0; subst q0
  unfold PS_X6_isWord_21
  have e9 : w2 = (1851878757 : Int64) := by rw [hpk9, show w4.toInt.toNat = 4 by omega]; decide
  first | exact Or.inl ⟨by decide, by omega, by rw [← e9]; exact (cmp_eq (by assumption) (by omega)).symm⟩ | exact Or.inr ⟨by decide, fun c => by omega⟩ | exact Or.inr ⟨by decide, fun c => cmp_ne (by assumption) (by omega) (by rw [e9]; exact c.2.symm)⟩
set_option maxHeartbeats 4000000 in
theorem PL_X6_isWord_21_1 {fi : Nat → Nat → Int32} {fl : Nat → Nat → Int64} {vi : Nat → Int32} {vl : Nat → Int64} {r : Int32} {fj : Nat → Nat → Int32} {fm : Nat → Nat → Int64} {vj : Nat → Int32} {vm : Nat → Int64} : RL_X6_isWord_21_1 fi fl vi vl r fj fm vj vm (PS_X6_isWord_21 fi fl vi vl r fj fm vj vm) := by
  unfold RL_X6_isWord_21_1
  intro hp0 hp1 hp2 hp3 hp4 w4 w2 hi hpk9 fik flk vik vlk rk gk_0 c11 c38 z46 ez46 c47 q0; subst q0
  unfold PS_X6_isWord_21
  have e9 : w2 = (1851878757 : Int64) := by rw [hpk9, show w4.toInt.toNat = 4 by omega]; decide
  first | exact Or.inl ⟨by decide, by omega, by rw [← e9]; exact (cmp_eq (by assumption) (by omega)).symm⟩ | exact Or.inr ⟨by decide, fun c => by omega⟩ | exact Or.inr ⟨by decide, fun c => cmp_ne (by assumption) (by omega) (by rw [e9]; exact c.2.symm)⟩
set_option maxHeartbeats 4000000 in
theorem PL_X6_isWord_21_2 {fi : Nat → Nat → Int32} {fl : Nat → Nat → Int64} {vi : Nat → Int32} {vl : Nat → Int64} {r : Int32} {fj : Nat → Nat → Int32} {fm : Nat → Nat → Int64} {vj : Nat → Int32} {vm : Nat → Int64} : RL_X6_isWord_21_2 fi fl vi vl r fj fm vj vm (PS_X6_isWord_21 fi fl vi vl r fj fm vj vm) := by
  unfold RL_X6_isWord_21_2
  intro hp0 hp1 hp2 hp3 hp4 w4 w2 hi hpk9 fik flk vik vlk rk gk_0 c11 c38 z46 ez46 c47 q0; subst q0
  unfold PS_X6_isWord_21
  have e9 : w2 = (1851878757 : Int64) := by rw [hpk9, show w4.toInt.toNat = 4 by omega]; decide
  first | exact Or.inl ⟨by decide, by omega, by rw [← e9]; exact (cmp_eq (by assumption) (by omega)).symm⟩ | exact Or.inr ⟨by decide, fun c => by omega⟩ | exact Or.inr ⟨by decide, fun c => cmp_ne (by assumption) (by omega) (by rw [e9]; exact c.2.symm)⟩
theorem P_X6_isWord_21 {fi : Nat → Nat → Int32} {fl : Nat → Nat → Int64} {vi : Nat → Int32} {vl : Nat → Int64} {r : Int32} {fj : Nat → Nat → Int32} {fm : Nat → Nat → Int64} {vj : Nat → Int32} {vm : Nat → Int64} (h : R_X6_isWord_21 fi fl vi vl r fj fm vj vm) : DJ (r.toInt = 1 ∧ (vi 4).toInt = 1 ∧ (vl 0) = (1851878757 : Int64)) (r.toInt = 0 ∧ ¬ ((vi 4).toInt = 1 ∧ (vl 0) = (1851878757 : Int64))) := h (PS_X6_isWord_21 fi fl vi vl r fj fm vj vm) PL_X6_isWord_21_0 PL_X6_isWord_21_1 PL_X6_isWord_21_2
