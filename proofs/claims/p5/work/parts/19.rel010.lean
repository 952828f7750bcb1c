def RL_X12_fresh_3 (fi : Nat → Nat → Int32) (fl : Nat → Nat → Int64) (vi : Nat → Int32) (vl : Nat → Int64) (r : Int32) (fj : Nat → Nat → Int32) (fm : Nat → Nat → Int64) (vj : Nat → Int32) (vm : Nat → Int64) (Q9 : Prop) : Prop :=
  (0 ≤ (vi 0).toInt ∧ (vi 0).toInt ≤ 35) → (0 ≤ (vi 2).toInt ∧ (vi 2).toInt ≤ 940) → (0 ≤ (vi 3).toInt ∧ (vi 3).toInt ≤ 940) → (0 ≤ (vi 4).toInt ∧ (vi 4).toInt ≤ 940) → (0 ≤ (vi 5).toInt ∧ (vi 5).toInt ≤ 940) → (0 ≤ (vi 6).toInt ∧ (vi 6).toInt ≤ 4) → (0 ≤ (vi 7).toInt ∧ (vi 7).toInt ≤ 940) → (0 ≤ (vi 11).toInt ∧ (vi 11).toInt ≤ 940) → (0 ≤ (vi 15).toInt ∧ (vi 15).toInt ≤ 4) → (-1 ≤ (vi 16).toInt ∧ (vi 16).toInt ≤ 9) → (0 ≤ (vi 22).toInt ∧ (vi 22).toInt ≤ 40) → (0 ≤ (vi 24).toInt ∧ (vi 24).toInt ≤ 40) → (0 ≤ (vi 25).toInt ∧ (vi 25).toInt ≤ 20) → (0 ≤ (vi 26).toInt ∧ (vi 26).toInt ≤ 40) → (0 ≤ (vi 28).toInt ∧ (vi 28).toInt ≤ 1) → (18 ≤ (vi 0).toInt) → ∀ (fik : Nat → Nat → Int32), ∀ (flk : Nat → Nat → Int64), ∀ (vik : Nat → Int32), ∀ (vlk : Nat → Int64), ∀ (rk : Int32), (DJ (rk.toInt = 1 ∧ (vi 6).toInt = 1 ∧ ownB (fl 0) (vl 0) = false) (rk.toInt = 0 ∧ (¬ (vi 6).toInt = 1 ∨ ownB (fl 0) (vl 0) = true))) → (rk.toInt = 0) → (True) → ∀ (fik_6 : Nat → Nat → Int32), ∀ (flk_6 : Nat → Nat → Int64), ∀ (vik_6 : Nat → Int32), ∀ (vlk_6 : Nat → Int64), ∀ (rk_6 : Int32), (rk_6 = 0) → (0 ≤ (vik_6 1).toInt ∧ (vik_6 1).toInt ≤ 940) → ((vik_6 0).toInt = (1 : Int32).toInt ∧ (vik_6 1).toInt = (vi 7).toInt) → (r = (0 : Int32)) → (fm 0 = (fl 1)) → (vj 0 = (vik_6 0)) → (vj 1 = (vik_6 1)) → (vj 2 = (vi 4)) → (vj 3 = (vi 7)) → (vj 4 = (vi 8)) → (vj 5 = (vi 9)) → (vj 6 = (vi 6)) → (vm 0 = (vl 0)) → Q9
def R_X12_fresh (fi : Nat → Nat → Int32) (fl : Nat → Nat → Int64) (vi : Nat → Int32) (vl : Nat → Int64) (r : Int32) (fj : Nat → Nat → Int32) (fm : Nat → Nat → Int64) (vj : Nat → Int32) (vm : Nat → Int64) : Prop :=
  ∀ Q9 : Prop, RL_X12_fresh_0 fi fl vi vl r fj fm vj vm Q9 → RL_X12_fresh_1 fi fl vi vl r fj fm vj vm Q9 → RL_X12_fresh_2 fi fl vi vl r fj fm vj vm Q9 → RL_X12_fresh_3 fi fl vi vl r fj fm vj vm Q9 → Q9
def PS_X12_fresh (fi : Nat → Nat → Int32) (fl : Nat → Nat → Int64) (vi : Nat → Int32) (vl : Nat → Int64) (r : Int32) (fj : Nat → Nat → Int32) (fm : Nat → Nat → Int64) (vj : Nat → Int32) (vm : Nat → Int64) : Prop :=
  ∀ n m t : Nat, CC (trn (fi 1) n) n m t (vi 3) (vi 5) (vi 6) (vi 7) (vi 4) (vl 0) (vi 9) (vi 9) → (r.toInt = 1 ∧ (fNew (trn (fi 1) n) n m (ownB (fl 0)) (gi (fi 0)) (fl 1) t) = 0 ∧ (wMay (trn (fi 1) n) n m (ownB (fl 0)) t) ∧ (fm 0) = vp_updL (fl 1) ((vi 0)).toNatClampNeg (sW (trn (fi 1) n) n m t) ∧ CC (trn (fi 1) n) n m (sX (trn (fi 1) n) n m t) (vi 3) (vi 5) (vj 6) (vj 3) (vj 2) (vm 0) (vj 5) (vj 5)) ∨ (r.toInt = 0 ∧ ¬ (fNew (trn (fi 1) n) n m (ownB (fl 0)) (gi (fi 0)) (fl 1) t) = 0 ∧ (vj 0).toInt = (fNew (trn (fi 1) n) n m (ownB (fl 0)) (gi (fi 0)) (fl 1) t) ∧ (vj 1).toInt = ((sPn (trn (fi 1) n) n m t) : Int))
set_option maxHeartbeats 4000000 in
theorem PL_X12_fresh_0 {fi : Nat → Nat → Int32} {fl : Nat → Nat → Int64} {vi : Nat → Int32} {vl : Nat → Int64} {r : Int32} {fj : Nat → Nat → Int32} {fm : Nat → Nat → Int64} {vj : Nat → Int32} {vm : Nat → Int64} : RL_X12_fresh_0 fi fl vi vl r fj fm vj vm (PS_X12_fresh fi fl vi vl r fj fm vj vm) := by
  unfold RL_X12_fresh_0
  intro hp0 hp1 hp2 hp3 hp4 hp5 hp6 hp7 hp8 hp9 hp10 hp11 hp12 hp13 hp14 hp20 fik flk vik vlk rk gk_1 tb_1 gk_0 fik_1 flk_1 vik_1 vlk_1 rk_1 gk_1_0 gk_1_1 c25 fik_2 flk_2 vik_2 vlk_2 rk_2 gk_2_0 gk_2_1 gk_2_2 q0 q1 q2 q3 q4 q5 q6 q7 q8 q9; subst q0
  unfold PS_X12_fresh
  intro n m t hc
  (try simp only [q1, q2, q3, q4, q5, q6, q7, q8, q9]); have k9_0 : (0 : Int32).toInt = 0 := (by decide); have k9_1 : (1 : Int32).toInt = 1 := (by decide); have k9_2 : (3 : Int32).toInt = 3 := (by decide)
  have hc0 := hc
  obtain ⟨hn, hm, ht, ck, cp, ce, cw, cu, cg⟩ := hc0
  rcases gk_1 with ⟨a1, a2, a3⟩ | ⟨a1, a2⟩
  · have h8 := cw (by omega)
    rw [h8] at a3
    have hm9 : (wMay (trn (fi 1) n) n m (ownB (fl 0)) t) := ⟨by omega, a3⟩
    rw [h8] at gk_1_1
    first | (have h7 : (fNew (trn (fi 1) n) n m (ownB (fl 0)) (gi (fi 0)) (fl 1) t) = 3 := fNew_3 hm9 (Or.inl (fun c9 => by have h6 := gk_1_1.trans c9; omega)); exact Or.inr ⟨by decide, by omega, by omega, by omega⟩) | (have h7 : (fNew (trn (fi 1) n) n m (ownB (fl 0)) (gi (fi 0)) (fl 1) t) = 3 := fNew_3 hm9 (Or.inr (fun c9 => by have h6 := gk_1_1.trans c9; omega)); exact Or.inr ⟨by decide, by omega, by omega, by omega⟩) | exact Or.inl ⟨by decide, fNew_0 hm9 (gk_1_1.symm.trans (by omega)) (gk_1_1.symm.trans (by omega)), hm9, (by rw [← h8]; assumption), CC_nx hc (by assumption)⟩
  · exact absurd (a1.symm.trans tb_1) (by decide)
set_option maxHeartbeats 4000000 in
theorem PL_X12_fresh_1 {fi : Nat → Nat → Int32} {fl : Nat → Nat → Int64} {vi : Nat → Int32} {vl : Nat → Int64} {r : Int32} {fj : Nat → Nat → Int32} {fm : Nat → Nat → Int64} {vj : Nat → Int32} {vm : Nat → Int64} : RL_X12_fresh_1 fi fl vi vl r fj fm vj vm (PS_X12_fresh fi fl vi vl r fj fm vj vm) := by
  unfold RL_X12_fresh_1
  intro hp0 hp1 hp2 hp3 hp4 hp5 hp6 hp7 hp8 hp9 hp10 hp11 hp12 hp13 hp14 hp20 fik flk vik vlk rk gk_1 tb_1 gk_0 fik_1 flk_1 vik_1 vlk_1 rk_1 gk_1_0 gk_1_1 c25 fik_3 flk_3 vik_3 vlk_3 rk_3 gk_3_0 gk_3_1 c40 f58 ef58 fik_4 flk_4 vik_4 vlk_4 uk_4 gk_4_0 gk_4_1 gk_4_2 gk_4_3 gk_4_4 gk_4_5 q0 q1 q2 q3 q4 q5 q6 q7 q8 q9; subst q0
  unfold PS_X12_fresh
  intro n m t hc
  (try simp only [q1, q2, q3, q4, q5, q6, q7, q8, q9]); have k9_0 : (0 : Int32).toInt = 0 := (by decide); have k9_1 : (1 : Int32).toInt = 1 := (by decide)
  have hc0 := hc
  obtain ⟨hn, hm, ht, ck, cp, ce, cw, cu, cg⟩ := hc0
  rcases gk_1 with ⟨a1, a2, a3⟩ | ⟨a1, a2⟩
  · have h8 := cw (by omega)
    rw [h8] at a3
    have hm9 : (wMay (trn (fi 1) n) n m (ownB (fl 0)) t) := ⟨by omega, a3⟩
    rw [h8] at gk_1_1
    rw [h8] at gk_3_1
    first | (have h7 : (fNew (trn (fi 1) n) n m (ownB (fl 0)) (gi (fi 0)) (fl 1) t) = 3 := fNew_3 hm9 (Or.inl (fun c9 => by have h6 := gk_1_1.trans c9; omega)); exact Or.inr ⟨by decide, by omega, by omega, by omega⟩) | (have h7 : (fNew (trn (fi 1) n) n m (ownB (fl 0)) (gi (fi 0)) (fl 1) t) = 3 := fNew_3 hm9 (Or.inr (fun c9 => by have h6 := gk_3_1.trans c9; omega)); exact Or.inr ⟨by decide, by omega, by omega, by omega⟩) | exact Or.inl ⟨by decide, fNew_0 hm9 (gk_1_1.symm.trans (by omega)) (gk_3_1.symm.trans (by omega)), hm9, (by rw [← h8]; assumption), CC_nx hc (by assumption)⟩
  · exact absurd (a1.symm.trans tb_1) (by decide)
set_option maxHeartbeats 4000000 in
theorem PL_X12_fresh_2 {fi : Nat → Nat → Int32} {fl : Nat → Nat → Int64} {vi : Nat → Int32} {vl : Nat → Int64} {r : Int32} {fj : Nat → Nat → Int32} {fm : Nat → Nat → Int64} {vj : Nat → Int32} {vm : Nat → Int64} : RL_X12_fresh_2 fi fl vi vl r fj fm vj vm (PS_X12_fresh fi fl vi vl r fj fm vj vm) := by
  unfold RL_X12_fresh_2
  intro hp0 hp1 hp2 hp3 hp4 hp5 hp6 hp7 hp8 hp9 hp10 hp11 hp12 hp13 hp14 hp20 fik flk vik vlk rk gk_1 tb_1 gk_0 fik_1 flk_1 vik_1 vlk_1 rk_1 gk_1_0 gk_1_1 c25 fik_3 flk_3 vik_3 vlk_3 rk_3 gk_3_0 gk_3_1 c40 fik_5 flk_5 vik_5 vlk_5 rk_5 gk_5_0 gk_5_1 gk_5_2 q0 q1 q2 q3 q4 q5 q6 q7 q8 q9; subst q0
  unfold PS_X12_fresh
  intro n m t hc
  (try simp only [q1, q2, q3, q4, q5, q6, q7, q8, q9]); have k9_0 : (0 : Int32).toInt = 0 := (by decide); have k9_1 : (1 : Int32).toInt = 1 := (by decide); have k9_2 : (3 : Int32).toInt = 3 := (by decide)
  have hc0 := hc
  obtain ⟨hn, hm, ht, ck, cp, ce, cw, cu, cg⟩ := hc0
  rcases gk_1 with ⟨a1, a2, a3⟩ | ⟨a1, a2⟩
  · have h8 := cw (by omega)
    rw [h8] at a3
    have hm9 : (wMay (trn (fi 1) n) n m (ownB (fl 0)) t) := ⟨by omega, a3⟩
    rw [h8] at gk_1_1
    rw [h8] at gk_3_1
    first | (have h7 : (fNew (trn (fi 1) n) n m (ownB (fl 0)) (gi (fi 0)) (fl 1) t) = 3 := fNew_3 hm9 (Or.inl (fun c9 => by have h6 := gk_1_1.trans c9; omega)); exact Or.inr ⟨by decide, by omega, by omega, by omega⟩) | (have h7 : (fNew (trn (fi 1) n) n m (ownB (fl 0)) (gi (fi 0)) (fl 1) t) = 3 := fNew_3 hm9 (Or.inr (fun c9 => by have h6 := gk_3_1.trans c9; omega)); exact Or.inr ⟨by decide, by omega, by omega, by omega⟩) | exact Or.inl ⟨by decide, fNew_0 hm9 (gk_1_1.symm.trans (by omega)) (gk_3_1.symm.trans (by omega)), hm9, (by rw [← h8]; assumption), CC_nx hc (by assumption)⟩
  · exact absurd (a1.symm.trans tb_1) (by decide)
set_option maxHeartbeats 4000000 in
theorem PL_X12_fresh_3 {fi : Nat → Nat → Int32} {fl : Nat → Nat → Int64} {vi : Nat → Int32} {vl : Nat → Int64} {r : Int32} {fj : Nat → Nat → Int32} {fm : Nat → Nat → Int64} {vj : Nat → Int32} {vm : Nat → Int64} : RL_X12_fresh_3 fi fl vi vl r fj fm vj vm (PS_X12_fresh fi fl vi vl r fj fm vj vm) := by
  unfold RL_X12_fresh_3
  intro hp0 hp1 hp2 hp3 hp4 hp5 hp6 hp7 hp8 hp9 hp10 hp11 hp12 hp13 hp14 hp20 fik flk vik vlk rk gk_1 tb_1 gk_0 fik_6 flk_6 vik_6 vlk_6 rk_6 gk_6_0 gk_6_1 gk_6_2 q0 q1 q2 q3 q4 q5 q6 q7 q8 q9; subst q0
  unfold PS_X12_fresh
  intro n m t hc
  (try simp only [q1, q2, q3, q4, q5, q6, q7, q8, q9]); have k9_0 : (0 : Int32).toInt = 0 := (by decide); have k9_1 : (1 : Int32).toInt = 1 := (by decide)
  have hc0 := hc
  obtain ⟨hn, hm, ht, ck, cp, ce, cw, cu, cg⟩ := hc0
  rcases gk_1 with ⟨a1, a2, a3⟩ | ⟨a1, a2⟩
  · exact absurd (a1.symm.trans tb_1) (by decide)
  · have h7 : (fNew (trn (fi 1) n) n m (ownB (fl 0)) (gi (fi 0)) (fl 1) t) = 1 := fNew_1 (fun c => by rcases a2 with a2 | a2; (· omega); (· rw [cw c.1, c.2] at a2; exact absurd a2 (by decide)))
    exact Or.inr ⟨by decide, by omega, by omega, by omega⟩
theorem P_X12_fresh {fi : Nat → Nat → Int32} {fl : Nat → Nat → Int64} {vi : Nat → Int32} {vl : Nat → Int64} {r : Int32} {fj : Nat → Nat → Int32} {fm : Nat → Nat → Int64} {vj : Nat → Int32} {vm : Nat → Int64} (h : R_X12_fresh fi fl vi vl r fj fm vj vm) : ∀ n m t : Nat, CC (trn (fi 1) n) n m t (vi 3) (vi 5) (vi 6) (vi 7) (vi 4) (vl 0) (vi 9) (vi 9) → (r.toInt = 1 ∧ (fNew (trn (fi 1) n) n m (ownB (fl 0)) (gi (fi 0)) (fl 1) t) = 0 ∧ (wMay (trn (fi 1) n) n m (ownB (fl 0)) t) ∧ (fm 0) = vp_updL (fl 1) ((vi 0)).toNatClampNeg (sW (trn (fi 1) n) n m t) ∧ CC (trn (fi 1) n) n m (sX (trn (fi 1) n) n m t) (vi 3) (vi 5) (vj 6) (vj 3) (vj 2) (vm 0) (vj 5) (vj 5)) ∨ (r.toInt = 0 ∧ ¬ (fNew (trn (fi 1) n) n m (ownB (fl 0)) (gi (fi 0)) (fl 1) t) = 0 ∧ (vj 0).toInt = (fNew (trn (fi 1) n) n m (ownB (fl 0)) (gi (fi 0)) (fl 1) t) ∧ (vj 1).toInt = ((sPn (trn (fi 1) n) n m t) : Int)) := h (PS_X12_fresh fi fl vi vl r fj fm vj vm) PL_X12_fresh_0 PL_X12_fresh_1 PL_X12_fresh_2 PL_X12_fresh_3
def RL_X12_isWord_0 (fi : Nat → Nat → Int32) (fl : Nat → Nat → Int64) (vi : Nat → Int32) (vl : Nat → Int64) (r : Int32) (fj : Nat → Nat → Int32) (fm : Nat → Nat → Int64) (vj : Nat → Int32) (vm : Nat → Int64) (Q9 : Prop) : Prop :=
  (0 ≤ (vi 1).toInt ∧ (vi 1).toInt ≤ 940) → (0 ≤ (vi 2).toInt ∧ (vi 2).toInt ≤ 940) → (0 ≤ (vi 3).toInt ∧ (vi 3).toInt ≤ 940) → (0 ≤ (vi 4).toInt ∧ (vi 4).toInt ≤ 940) → (0 ≤ (vi 5).toInt ∧ (vi 5).toInt ≤ 4) → (0 ≤ (vi 6).toInt ∧ (vi 6).toInt ≤ 940) → (0 ≤ (vi 10).toInt ∧ (vi 10).toInt ≤ 940) → (0 ≤ (vi 14).toInt ∧ (vi 14).toInt ≤ 4) → (-1 ≤ (vi 15).toInt ∧ (vi 15).toInt ≤ 9) → (0 ≤ (vi 21).toInt ∧ (vi 21).toInt ≤ 40) → (0 ≤ (vi 23).toInt ∧ (vi 23).toInt ≤ 40) → (0 ≤ (vi 24).toInt ∧ (vi 24).toInt ≤ 20) → (0 ≤ (vi 25).toInt ∧ (vi 25).toInt ≤ 40) → (0 ≤ (vi 27).toInt ∧ (vi 27).toInt ≤ 1) → (¬ (vi 5).toInt = 1) → (r = (0 : Int32)) → Q9
def RL_X12_isWord_1 (fi : Nat → Nat → Int32) (fl : Nat → Nat → Int64) (vi : Nat → Int32) (vl : Nat → Int64) (r : Int32) (fj : Nat → Nat → Int32) (fm : Nat → Nat → Int64) (vj : Nat → Int32) (vm : Nat → Int64) (Q9 : Prop) : Prop :=
  (0 ≤ (vi 1).toInt ∧ (vi 1).toInt ≤ 940) → (0 ≤ (vi 2).toInt ∧ (vi 2).toInt ≤ 940) → (0 ≤ (vi 3).toInt ∧ (vi 3).toInt ≤ 940) → (0 ≤ (vi 4).toInt ∧ (vi 4).toInt ≤ 940) → (0 ≤ (vi 5).toInt ∧ (vi 5).toInt ≤ 4) → (0 ≤ (vi 6).toInt ∧ (vi 6).toInt ≤ 940) → (0 ≤ (vi 10).toInt ∧ (vi 10).toInt ≤ 940) → (0 ≤ (vi 14).toInt ∧ (vi 14).toInt ≤ 4) → (-1 ≤ (vi 15).toInt ∧ (vi 15).toInt ≤ 9) → (0 ≤ (vi 21).toInt ∧ (vi 21).toInt ≤ 40) → (0 ≤ (vi 23).toInt ∧ (vi 23).toInt ≤ 40) → (0 ≤ (vi 24).toInt ∧ (vi 24).toInt ≤ 20) → (0 ≤ (vi 25).toInt ∧ (vi 25).toInt ≤ 40) → (0 ≤ (vi 27).toInt ∧ (vi 27).toInt ≤ 1) → ((vi 5).toInt = 1) → ∀ (z13 : Int32), (z13 = lg_cmp (vl 1) (vl 0)) → (¬ z13.toInt = 0) → (r = (0 : Int32)) → Q9
def RL_X12_isWord_2 (fi : Nat → Nat → Int32) (fl : Nat → Nat → Int64) (vi : Nat → Int32) (vl : Nat → Int64) (r : Int32) (fj : Nat → Nat → Int32) (fm : Nat → Nat → Int64) (vj : Nat → Int32) (vm : Nat → Int64) (Q9 : Prop) : Prop :=
  (0 ≤ (vi 1).toInt ∧ (vi 1).toInt ≤ 940) → (0 ≤ (vi 2).toInt ∧ (vi 2).toInt ≤ 940) → (0 ≤ (vi 3).toInt ∧ (vi 3).toInt ≤ 940) → (0 ≤ (vi 4).toInt ∧ (vi 4).toInt ≤ 940) → (0 ≤ (vi 5).toInt ∧ (vi 5).toInt ≤ 4) → (0 ≤ (vi 6).toInt ∧ (vi 6).toInt ≤ 940) → (0 ≤ (vi 10).toInt ∧ (vi 10).toInt ≤ 940) → (0 ≤ (vi 14).toInt ∧ (vi 14).toInt ≤ 4) → (-1 ≤ (vi 15).toInt ∧ (vi 15).toInt ≤ 9) → (0 ≤ (vi 21).toInt ∧ (vi 21).toInt ≤ 40) → (0 ≤ (vi 23).toInt ∧ (vi 23).toInt ≤ 40) → (0 ≤ (vi 24).toInt ∧ (vi 24).toInt ≤ 20) → (0 ≤ (vi 25).toInt ∧ (vi 25).toInt ≤ 40) → (0 ≤ (vi 27).toInt ∧ (vi 27).toInt ≤ 1) → ((vi 5).toInt = 1) → ∀ (z13 : Int32), (z13 = lg_cmp (vl 1) (vl 0)) → (z13.toInt = 0) → (r = (1 : Int32)) → Q9
def R_X12_isWord (fi : Nat → Nat → Int32) (fl : Nat → Nat → Int64) (vi : Nat → Int32) (vl : Nat → Int64) (r : Int32) (fj : Nat → Nat → Int32) (fm : Nat → Nat → Int64) (vj : Nat → Int32) (vm : Nat → Int64) : Prop :=
  ∀ Q9 : Prop, RL_X12_isWord_0 fi fl vi vl r fj fm vj vm Q9 → RL_X12_isWord_1 fi fl vi vl r fj fm vj vm Q9 → RL_X12_isWord_2 fi fl vi vl r fj fm vj vm Q9 → Q9
def PS_X12_isWord (fi : Nat → Nat → Int32) (fl : Nat → Nat → Int64) (vi : Nat → Int32) (vl : Nat → Int64) (r : Int32) (fj : Nat → Nat → Int32) (fm : Nat → Nat → Int64) (vj : Nat → Int32) (vm : Nat → Int64) : Prop :=
  DJ (r.toInt = 1 ∧ (vi 5).toInt = 1 ∧ (vl 1) = (vl 0)) (r.toInt = 0 ∧ ¬ ((vi 5).toInt = 1 ∧ (vl 1) = (vl 0)))
set_option maxHeartbeats 4000000 in
theorem PL_X12_isWord_0 {fi : Nat → Nat → Int32} {fl : Nat → Nat → Int64} {vi : Nat → Int32} {vl : Nat → Int64} {r : Int32} {fj : Nat → Nat → Int32} {fm : Nat → Nat → Int64} {vj : Nat → Int32} {vm : Nat → Int64} : RL_X12_isWord_0 fi fl vi vl r fj fm vj vm (PS_X12_isWord fi fl vi vl r fj fm vj vm) := by
  unfold RL_X12_isWord_0
  intro hp0 hp1 hp2 hp3 hp4 hp5 hp6 hp7 hp8 hp9 hp10 hp11 hp12 hp13 c5 q0; subst q0
  unfold PS_X12_isWord
  first | exact Or.inl ⟨by decide, by omega, cmp_eq (by assumption) (by omega)⟩ | exact Or.inr ⟨by decide, fun c => by omega⟩ | exact Or.inr ⟨by decide, fun c => cmp_ne (by assumption) (by omega) c.2⟩
set_option maxHeartbeats 4000000 in
theorem PL_X12_isWord_1 {fi : Nat → Nat → Int32} {fl : Nat → Nat → Int64} {vi : Nat → Int32} {vl : Nat → Int64} {r : Int32} {fj : Nat → Nat → Int32} {fm : Nat → Nat → Int64} {vj : Nat → Int32} {vm : Nat → Int64} : RL_X12_isWord_1 fi fl vi vl r fj fm vj vm (PS_X12_isWord fi fl vi vl r fj fm vj vm) := by
  unfold RL_X12_isWord_1
  intro hp0 hp1 hp2 hp3 hp4 hp5 hp6 hp7 hp8 hp9 hp10 hp11 hp12 hp13 c5 z13 ez13 c14 q0; subst q0
  unfold PS_X12_isWord
  first | exact Or.inl ⟨by decide, by omega, cmp_eq (by assumption) (by omega)⟩ | exact Or.inr ⟨by decide, fun c => by omega⟩ | exact Or.inr ⟨by decide, fun c => cmp_ne (by assumption) (by omega) c.2⟩
set_option maxHeartbeats 4000000 in
theorem PL_X12_isWord_2 {fi : Nat → Nat → Int32} {fl : Nat → Nat → Int64} {vi : Nat → Int32} {vl : Nat → Int64} {r : Int32} {fj : Nat → Nat → Int32} {fm : Nat → Nat → Int64} {vj : Nat → Int32} {vm : Nat → Int64} : RL_X12_isWord_2 fi fl vi vl r fj fm vj vm (PS_X12_isWord fi fl vi vl r fj fm vj vm) := by
  unfold RL_X12_isWord_2
  intro hp0 hp1 hp2 hp3 hp4 hp5 hp6 hp7 hp8 hp9 hp10 hp11 hp12 hp13 c5 z13 ez13 c14 q0; subst q0
  unfold PS_X12_isWord
  first | exact Or.inl ⟨by decide, by omega, cmp_eq (by assumption) (by omega)⟩ | exact Or.inr ⟨by decide, fun c => by omega⟩ | exact Or.inr ⟨by decide, fun c => cmp_ne (by assumption) (by omega) c.2⟩
theorem P_X12_isWord {fi : Nat → Nat → Int32} {fl : Nat → Nat → Int64} {vi : Nat → Int32} {vl : Nat → Int64} {r : Int32} {fj : Nat → Nat → Int32} {fm : Nat → Nat → Int64} {vj : Nat → Int32} {vm : Nat → Int64} (h : R_X12_isWord fi fl vi vl r fj fm vj vm) : DJ (r.toInt = 1 ∧ (vi 5).toInt = 1 ∧ (vl 1) = (vl 0)) (r.toInt = 0 ∧ ¬ ((vi 5).toInt = 1 ∧ (vl 1) = (vl 0))) := h (PS_X12_isWord fi fl vi vl r fj fm vj vm) PL_X12_isWord_0 PL_X12_isWord_1 PL_X12_isWord_2
