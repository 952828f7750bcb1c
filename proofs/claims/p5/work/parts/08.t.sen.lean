/-! what a SENTENCE's text says, TOKEN by TOKEN: brackets and nots that are open (true: a bracket), whether a ONE has just ended, how many ONES -/
def sps : List Bool → List Bool
  | [] => []
  | true :: σ => true :: σ
  | false :: σ => sps σ
theorem sps_sps : ∀ σ : List Bool, sps (sps σ) = sps σ := by
  intro σ
  induction σ with
  | nil => rfl
  | cons b σ ih =>
    cases b with
    | true => rfl
    | false => exact ih
theorem sps_len : ∀ σ : List Bool, (sps σ).length ≤ σ.length := by
  intro σ
  induction σ with
  | nil => exact Nat.le_refl _
  | cons b σ ih =>
    cases b with
    | true => exact Nat.le_refl _
    | false => exact Nat.le_trans ih (Nat.le_succ _)
section SN
variable (f : Nat → Int32) (n m : Nat) (ow : Int64 → Bool) (nr : Nat → Int64) (nc : Int)
def lfi (t : Nat) : Int :=
  if isW f n m t 0x616c697665 then 0 else
  if isW f n m t 0x7761697473 then 1 else
  if isW f n m t 0x666c6564 then 2 else
  if isW f n m t 0x676c6164 then 3 else
  if isW f n m t 0x63616c6c6564 then 4 else
  if isW f n m t 0x7075727365 then 5 else
  if isW f n m t 0x6f776573 then 6 else
  if isW f n m t 0x666561737473 then 7 else
  if isW f n m t 0x6e756d626572 then 8 else -1
def lfa (i : Int) (t : Nat) : (Int × Int) ⊕ Nat :=
  if i < 4 then .inr t else
  if i = 4 then (if ¬ fKn f n m ow nr 0 nc t = 0 then .inl (fKn f n m ow nr 0 nc t, (sPn f n m t : Int)) else .inr (sX f n m t)) else
  if ¬ (sK f n m t = 3 ∧ 60 ≤ sG f n m t ∧ sG f n m t ≤ 62) then .inl (1, (sPn f n m t : Int)) else
  if ¬ sK f n m (sX f n m t) = 2 then .inl (1, (sPn f n m (sX f n m t) : Int)) else .inr (sX f n m (sX f n m t))
def SR : Nat → List Bool → Bool → Int → Nat → Int × Int
  | 0, _, _, _, _ => (0, 0)
  | k + 1, σ, w, o, t =>
    if w = true then
      if sK f n m t = 0 then (if σ = [] then (0, o) else (1, (sPn f n m t : Int)))
      else if isW f n m t 0x616e64 ∨ isW f n m t 0x6f72 then SR k σ false o (sX f n m t)
      else if (sK f n m t = 3 ∧ sG f n m t = 41) ∧ ¬ σ = [] then SR k (sps σ.tail) true o (sX f n m t)
      else (1, (sPn f n m t : Int))
    else
      if lfi f n m t = -1 ∧ ¬ isW f n m t 0x6e6f74 ∧ ¬ (sK f n m t = 3 ∧ sG f n m t = 40) then (1, (sPn f n m t : Int))
      else if o = 20 ∨ 8 ≤ σ.length then (4, (sPn f n m t : Int))
      else if isW f n m t 0x6e6f74 then SR k (false :: σ) false (o + 1) (sX f n m t)
      else if sK f n m t = 3 ∧ sG f n m t = 40 then SR k (true :: σ) false (o + 1) (sX f n m t)
      else match lfa f n m ow nr nc (lfi f n m t) (sX f n m t) with
        | .inl e => e
        | .inr t' => SR k (sps σ) true (o + 1) t'
abbrev SF (σ : List Bool) (w : Bool) (o : Int) (t : Nat) : Nat → Int × Int := fun k => SR f n m ow nr nc k σ w o t
end SN
/-- from the place t on as from t' on, as long as there is fuel for the rest -/
def gto (n : Nat) (A : Nat → Int × Int) (t : Nat) (B : Nat → Int × Int) (t' : Nat) : Prop := ∀ k : Nat, n + 1 ≤ k + t → ∃ k' : Nat, n + 1 ≤ k' + t' ∧ A k = B k'
def gfa (n : Nat) (A : Nat → Int × Int) (t : Nat) (e p : Int) : Prop := ¬ e = 0 ∧ ∀ k : Nat, n + 1 ≤ k + t → A k = (e, p)
theorem gto_rf {n t : Nat} {A : Nat → Int × Int} : gto n A t A t := fun k hk => ⟨k, hk, rfl⟩
theorem gto_tr {n t t' t'' : Nat} {A B C : Nat → Int × Int} (h1 : gto n A t B t') (h2 : gto n B t' C t'') : gto n A t C t'' := fun k hk => by
  obtain ⟨k1, a1, a2⟩ := h1 k hk
  obtain ⟨k2, b1, b2⟩ := h2 k1 a1
  exact ⟨k2, b1, a2.trans b2⟩
theorem gto_fa {n t t' : Nat} {A B : Nat → Int × Int} {e p : Int} (h1 : gto n A t B t') (h2 : gfa n B t' e p) : gfa n A t e p := ⟨h2.1, fun k hk => by
  obtain ⟨k1, a1, a2⟩ := h1 k hk
  exact a2.trans (h2.2 k1 a1)⟩
theorem gto_s {n t t' : Nat} {A B : Nat → Int × Int} (ht : t ≤ n) (ht' : t < t') (h : ∀ k : Nat, A (k + 1) = B k) : gto n A t B t' := fun k hk => ⟨k - 1, by omega, by
  obtain ⟨j, rfl⟩ : ∃ j, k = j + 1 := ⟨k - 1, by omega⟩
  exact h j⟩
theorem gfa_s {n t : Nat} {A : Nat → Int × Int} {e p : Int} (ht : t ≤ n) (he : ¬ e = 0) (h : ∀ k : Nat, A (k + 1) = (e, p)) : gfa n A t e p := ⟨he, fun k hk => by
  obtain ⟨j, rfl⟩ : ∃ j, k = j + 1 := ⟨k - 1, by omega⟩
  exact h j⟩
theorem gfa_c {n t : Nat} {A : Nat → Int × Int} {e p e' p' : Int} (h : gfa n A t e p) (h1 : e' = e) (h2 : p' = p) : gfa n A t e' p' := by subst h1 h2; exact h
/-- from t on it ends with o ONES -/
def gok (n : Nat) (A : Nat → Int × Int) (t : Nat) (o : Int) : Prop := ∀ k : Nat, n + 1 ≤ k + t → A k = (0, o)
theorem gto_ok {n t t' : Nat} {A B : Nat → Int × Int} {o : Int} (h1 : gto n A t B t') (h2 : gok n B t' o) : gok n A t o := fun k hk => by
  obtain ⟨k1, a1, a2⟩ := h1 k hk
  exact a2.trans (h2 k1 a1)
section SNs
variable {f : Nat → Int32} {n m : Nat} {ow : Int64 → Bool} {nr : Nat → Int64} {nc : Int} {σ : List Bool} {o : Int} {t : Nat}
theorem SR_t (k : Nat) : SR f n m ow nr nc (k + 1) σ true o t = (if sK f n m t = 0 then (if σ = [] then (0, o) else (1, (sPn f n m t : Int)))
      else if isW f n m t 0x616e64 ∨ isW f n m t 0x6f72 then SR f n m ow nr nc k σ false o (sX f n m t)
      else if (sK f n m t = 3 ∧ sG f n m t = 41) ∧ ¬ σ = [] then SR f n m ow nr nc k (sps σ.tail) true o (sX f n m t)
      else (1, (sPn f n m t : Int))) := if_pos rfl
theorem SR_f (k : Nat) : SR f n m ow nr nc (k + 1) σ false o t = (if lfi f n m t = -1 ∧ ¬ isW f n m t 0x6e6f74 ∧ ¬ (sK f n m t = 3 ∧ sG f n m t = 40) then (1, (sPn f n m t : Int))
      else if o = 20 ∨ 8 ≤ σ.length then (4, (sPn f n m t : Int))
      else if isW f n m t 0x6e6f74 then SR f n m ow nr nc k (false :: σ) false (o + 1) (sX f n m t)
      else if sK f n m t = 3 ∧ sG f n m t = 40 then SR f n m ow nr nc k (true :: σ) false (o + 1) (sX f n m t)
      else match lfa f n m ow nr nc (lfi f n m t) (sX f n m t) with
        | .inl e => e
        | .inr t' => SR f n m ow nr nc k (sps σ) true (o + 1) t') := if_neg (by decide)
theorem lfi_w (h : ¬ lfi f n m t = -1) : sK f n m t = 1 := by
  apply Classical.byContradiction
  intro c
  apply h
  unfold lfi
  rw [if_neg (fun a => c a.1), if_neg (fun a => c a.1), if_neg (fun a => c a.1), if_neg (fun a => c a.1), if_neg (fun a => c a.1), if_neg (fun a => c a.1), if_neg (fun a => c a.1), if_neg (fun a => c a.1), if_neg (fun a => c a.1)]
theorem lfi_not (h : isW f n m t 0x6e6f74) : lfi f n m t = -1 := by
  unfold lfi
  rw [if_neg (fun c => absurd (c.2.symm.trans h.2) (by decide)), if_neg (fun c => absurd (c.2.symm.trans h.2) (by decide)), if_neg (fun c => absurd (c.2.symm.trans h.2) (by decide)), if_neg (fun c => absurd (c.2.symm.trans h.2) (by decide)), if_neg (fun c => absurd (c.2.symm.trans h.2) (by decide)), if_neg (fun c => absurd (c.2.symm.trans h.2) (by decide)), if_neg (fun c => absurd (c.2.symm.trans h.2) (by decide)), if_neg (fun c => absurd (c.2.symm.trans h.2) (by decide)), if_neg (fun c => absurd (c.2.symm.trans h.2) (by decide))]
theorem lfi_rng : -1 ≤ lfi f n m t ∧ lfi f n m t ≤ 8 := by
  unfold lfi
  repeat' split
  all_goals omega
/-- the steps -/
theorem sg_none (ht : t ≤ n) (h1 : lfi f n m t = -1) (h2 : ¬ isW f n m t 0x6e6f74) (h3 : ¬ (sK f n m t = 3 ∧ sG f n m t = 40)) : gfa n (SF f n m ow nr nc σ false o t) t 1 (sPn f n m t) :=
  gfa_s ht (by decide) (fun k => by show SR f n m ow nr nc (k + 1) σ false o t = _; rw [SR_f, if_pos ⟨h1, h2, h3⟩])
theorem sg_four (ht : t ≤ n) (h1 : ¬ lfi f n m t = -1 ∨ isW f n m t 0x6e6f74 ∨ (sK f n m t = 3 ∧ sG f n m t = 40)) (h : o = 20 ∨ 8 ≤ σ.length) : gfa n (SF f n m ow nr nc σ false o t) t 4 (sPn f n m t) :=
  gfa_s ht (by decide) (fun k => by
    show SR f n m ow nr nc (k + 1) σ false o t = _
    rw [SR_f, if_neg (fun c => by rcases h1 with h1 | h1 | h1; (· exact h1 c.1); (· exact c.2.1 h1); (· exact c.2.2 h1)), if_pos h])
theorem sg_not {o' : Int} (ht : t ≤ n) (h1 : isW f n m t 0x6e6f74) (h2 : ¬ o = 20) (h3 : ¬ 8 ≤ σ.length) (ho : o' = o + 1) : gto n (SF f n m ow nr nc σ false o t) t (SF f n m ow nr nc (false :: σ) false o' (sX f n m t)) (sX f n m t) :=
  gto_s ht (sX_gt ht (Or.inl h1.1)) (fun k => by
    subst ho
    show SR f n m ow nr nc (k + 1) σ false o t = _
    rw [SR_f, if_neg (fun c => c.2.1 h1), if_neg (fun c => by rcases c with c | c; (· exact h2 c); (· exact h3 c)), if_pos h1])
theorem sg_open {o' : Int} (ht : t ≤ n) (h1 : sK f n m t = 3 ∧ sG f n m t = 40) (h2 : ¬ o = 20) (h3 : ¬ 8 ≤ σ.length) (ho : o' = o + 1) : gto n (SF f n m ow nr nc σ false o t) t (SF f n m ow nr nc (true :: σ) false o' (sX f n m t)) (sX f n m t) :=
  gto_s ht (sX_gt ht (Or.inr (Or.inr h1.1))) (fun k => by
    subst ho
    show SR f n m ow nr nc (k + 1) σ false o t = _
    rw [SR_f, if_neg (fun c => c.2.2 h1), if_neg (fun c => by rcases c with c | c; (· exact h2 c); (· exact h3 c)), if_neg (fun c => by have e := c.1.symm.trans h1.1; omega), if_pos h1])
theorem lfa_ne {i e p : Int} {t : Nat} (h : lfa f n m ow nr nc i t = .inl (e, p)) : ¬ e = 0 := by
  unfold lfa at h
  split at h
  · cases h
  · split at h
    · split at h
      · next c => cases h; exact c
      · cases h
    · split at h
      · cases h; decide
      · split at h
        · cases h; decide
        · cases h
theorem sg_leafb {e p : Int} (ht : t ≤ n) (h1 : ¬ lfi f n m t = -1) (h2 : ¬ o = 20) (h3 : ¬ 8 ≤ σ.length) (h4 : lfa f n m ow nr nc (lfi f n m t) (sX f n m t) = .inl (e, p)) : gfa n (SF f n m ow nr nc σ false o t) t e p :=
  gfa_s ht (lfa_ne h4) (fun k => by
    have hw := lfi_w h1
    show SR f n m ow nr nc (k + 1) σ false o t = _
    rw [SR_f, if_neg (fun c => h1 c.1), if_neg (fun c => by rcases c with c | c; (· exact h2 c); (· exact h3 c)), if_neg (fun c => h1 (lfi_not c)), if_neg (fun c => by have e9 := hw.symm.trans c.1; omega), h4])
theorem lfa_le {i : Int} {t' : Nat} (ht : t ≤ n) (h : lfa f n m ow nr nc i t = .inr t') : t ≤ t' ∧ t' ≤ n := by
  have l1 := sX_le (f := f) (m := m) ht
  have l2 := sX_le (f := f) (m := m) l1.2
  unfold lfa at h
  split at h
  · cases h
    exact ⟨Nat.le_refl _, ht⟩
  · split at h
    · split at h
      · cases h
      · cases h
        exact ⟨l1.1, l1.2⟩
    · split at h
      · cases h
      · split at h
        · cases h
        · cases h
          exact ⟨by omega, l2.2⟩
theorem sg_leaf {t' : Nat} {o' : Int} (ht : t ≤ n) (h1 : ¬ lfi f n m t = -1) (h2 : ¬ o = 20) (h3 : ¬ 8 ≤ σ.length) (h4 : lfa f n m ow nr nc (lfi f n m t) (sX f n m t) = .inr t') (ho : o' = o + 1) : gto n (SF f n m ow nr nc σ false o t) t (SF f n m ow nr nc (sps σ) true o' t') t' := by
  subst ho
  have hw := lfi_w h1
  have l1 := sX_gt (f := f) (n := n) (m := m) ht (Or.inl hw)
  have l2 := lfa_le (sX_le (f := f) (m := m) ht).2 h4
  refine gto_s ht (by omega) (fun k => ?_)
  show SR f n m ow nr nc (k + 1) σ false o t = _
  rw [SR_f, if_neg (fun c => h1 c.1), if_neg (fun c => by rcases c with c | c; (· exact h2 c); (· exact h3 c)), if_neg (fun c => h1 (lfi_not c)), if_neg (fun c => by have e9 := hw.symm.trans c.1; omega), h4]
theorem sg_end (ht : t ≤ n) (h1 : sK f n m t = 0) : gok n (SF f n m ow nr nc [] true o t) t o := fun k hk => by
  obtain ⟨j, rfl⟩ : ∃ j, k = j + 1 := ⟨k - 1, by omega⟩
  show SR f n m ow nr nc (j + 1) [] true o t = _
  rw [SR_t, if_pos h1, if_pos rfl]
theorem sg_join (ht : t ≤ n) (h1 : isW f n m t 0x616e64 ∨ isW f n m t 0x6f72) : gto n (SF f n m ow nr nc σ true o t) t (SF f n m ow nr nc σ false o (sX f n m t)) (sX f n m t) := by
  have hk : sK f n m t = 1 := by rcases h1 with h1 | h1 <;> exact h1.1
  refine gto_s ht (sX_gt ht (Or.inl hk)) (fun k => ?_)
  show SR f n m ow nr nc (k + 1) σ true o t = _
  rw [SR_t, if_neg (by omega), if_pos h1]
theorem sg_close {b : Bool} (ht : t ≤ n) (h1 : sK f n m t = 3 ∧ sG f n m t = 41) : gto n (SF f n m ow nr nc (b :: σ) true o t) t (SF f n m ow nr nc (sps σ) true o (sX f n m t)) (sX f n m t) := by
  refine gto_s ht (sX_gt ht (Or.inr (Or.inr h1.1))) (fun k => ?_)
  show SR f n m ow nr nc (k + 1) (b :: σ) true o t = _
  rw [SR_t, if_neg (by omega), if_neg (fun c => by rcases c with c | c <;> (have e := c.1.symm.trans h1.1; omega)), if_pos ⟨h1, by simp⟩]
  rfl
theorem sg_cant (ht : t ≤ n) (h1 : ¬ isW f n m t 0x616e64) (h2 : ¬ isW f n m t 0x6f72) (h3 : (sK f n m t = 0 ∧ ¬ σ = []) ∨ (¬ sK f n m t = 0 ∧ (¬ (sK f n m t = 3 ∧ sG f n m t = 41) ∨ σ = []))) : gfa n (SF f n m ow nr nc σ true o t) t 1 (sPn f n m t) :=
  gfa_s ht (by decide) (fun k => by
    show SR f n m ow nr nc (k + 1) σ true o t = _
    rw [SR_t]
    rcases h3 with ⟨c, d⟩ | ⟨c, d⟩
    · rw [if_pos c, if_neg d]
    · rw [if_neg c, if_neg (fun a => by rcases a with a | a; (· exact h1 a); (· exact h2 a)), if_neg (fun a => by rcases d with d | d; (· exact d a.1); (· exact a.2 d))])
/-- a NUMBER is at most 999 -/
theorem ten_al {g : Nat → Int} : ∀ (k p j : Nat), p ≤ j → j < ten g n k p → tal (g j) := by
  intro k
  induction k with
  | zero => intro p j h1 h2; have e : j < p := h2; omega
  | succ k ih =>
    intro p j h1 h2
    have e : ten g n (k + 1) p = (if p < n ∧ tal (g p) then ten g n k (p + 1) else p) := rfl
    rw [e] at h2
    by_cases c : p < n ∧ tal (g p)
    · rw [if_pos c] at h2
      by_cases d : j = p
      · rw [d]; exact c.2
      · exact ih (p + 1) j (by omega) h2
    · rw [if_neg c] at h2
      omega
theorem tnl_z9 {g : Nat → Int} {q : Nat} : ∀ k : Nat, tnl g q k = 0 → ∀ j : Nat, j < k → ¬ tsm (g (q + j)) := by
  intro k
  induction k with
  | zero => intro _ j hj; omega
  | succ k ih =>
    intro h j hj
    have e : tnl g q (k + 1) = tnl g q k + (if tsm (g (q + k)) then 1 else 0) := rfl
    rw [e] at h
    by_cases c : tsm (g (q + k))
    · rw [if_pos c] at h; omega
    · rw [if_neg c] at h
      by_cases d : j = k
      · rw [d]; exact c
      · exact ih (by omega) j (by omega)
theorem tnv_r {f : Nat → Int32} {q : Nat} : ∀ k : Nat, k ≤ 3 → (∀ j : Nat, j < k → 48 ≤ (f (q + j)).toInt ∧ (f (q + j)).toInt ≤ 57) → 0 ≤ (tnv f q k).toInt ∧ (tnv f q k).toInt < 10 ^ k := by
  intro k
  induction k with
  | zero =>
    intro _ _
    show 0 ≤ (0 : Int32).toInt ∧ (0 : Int32).toInt < (10 : Int) ^ 0
    decide
  | succ k ih =>
    intro hk h
    have i := ih (by omega) (fun j hj => h j (by omega))
    have d := h k (by omega)
    have hp : (10 : Int) ^ k ≤ 100 := by
      rcases (show k = 0 ∨ k = 1 ∨ k = 2 by omega) with e | e | e <;> subst e <;> decide
    have hp2 : (10 : Int) ^ (k + 1) = 10 ^ k * 10 := Int.pow_succ 10 k
    have e1 : (tnv f q k * 10).toInt = (tnv f q k).toInt * 10 := xmul rfl (by decide) (by omega) (by omega)
    have e2 : (tnv f q k * 10 + f (q + k)).toInt = (tnv f q k).toInt * 10 + (f (q + k)).toInt := xadd e1 rfl (by omega) (by omega)
    have e3 : (tnv f q (k + 1)).toInt = (tnv f q k).toInt * 10 + (f (q + k)).toInt - 48 := xsub e2 (by decide) (by omega) (by omega)
    rw [e3, hp2]
    omega
theorem sU_rng (h : sK f n m t = 2) : 0 ≤ sU f n m t ∧ sU f n m t ≤ 999 := by
  have h0 : tkk (gi f) n m t = 2 := h
  unfold tkk at h0
  split at h0
  · omega
  · next c1 =>
    split at h0
    · omega
    · next c2 =>
      split at h0
      · next c3 =>
        have ep : sPn f n m t = tq (gi f) n t := by show tkp (gi f) n m t = _; unfold tkp; rw [if_neg c1]
        have ex : sX f n m t = te (gi f) n (tq (gi f) n t) := by show tke (gi f) n m t = _; unfold tke; rw [if_neg c1, if_neg c2, if_pos c3]
        unfold tkd at h0
        split at h0
        · split at h0 <;> omega
        · split at h0
          · next c4 =>
            split at h0
            · next c5 =>
              have hz := tnl_z9 _ c4
              show 0 ≤ (tnv f (sPn f n m t) (sX f n m t - sPn f n m t)).toInt ∧ (tnv f (sPn f n m t) (sX f n m t - sPn f n m t)).toInt ≤ 999
              rw [ep, ex]
              have r := tnv_r (f := f) (q := tq (gi f) n t) (te (gi f) n (tq (gi f) n t) - tq (gi f) n t) c5 (fun j hj => by
                have a := ten_al (g := gi f) (n := n) n (tq (gi f) n t) (tq (gi f) n t + j) (by omega) (by have e : te (gi f) n (tq (gi f) n t) = ten (gi f) n n (tq (gi f) n t) := rfl; omega)
                have b := hz j hj
                rcases a with a | a
                · exact absurd a b
                · exact a)
              have hp : (10 : Int) ^ (te (gi f) n (tq (gi f) n t) - tq (gi f) n t) ≤ 1000 := by
                rcases (show te (gi f) n (tq (gi f) n t) - tq (gi f) n t = 0 ∨ te (gi f) n (tq (gi f) n t) - tq (gi f) n t = 1 ∨ te (gi f) n (tq (gi f) n t) - tq (gi f) n t = 2 ∨ te (gi f) n (tq (gi f) n t) - tq (gi f) n t = 3 by omega) with e | e | e | e <;> rw [e] <;> decide
              omega
            · omega
          · omega
      · split at h0 <;> omega
theorem fNum_9 (h : sK f n m t = 2) : fNum f n m 0 999 t = 0 := fNum_0 h (sU_rng h).1 (sU_rng h).2
end SNs
/-- what the whole text says: (0, how many ONES) or a FAULT -/
abbrev SR0 (f : Nat → Int32) (n : Nat) (ow : Int64 → Bool) (nr : Nat → Int64) (nc : Int) : Int × Int := SR f n 200 ow nr nc 1000 [] false 0 0
theorem lfa_cong {f : Nat → Int32} {n m : Nat} {ow : Int64 → Bool} {nr nr' : Nat → Int64} {nc nc' : Int} (h : ∀ w : Int64, fdx nr 0 w nc.toNat = fdx nr' 0 w nc'.toNat) (i : Int) (t : Nat) : lfa f n m ow nr nc i t = lfa f n m ow nr' nc' i t := by
  have e : fKn f n m ow nr 0 nc t = fKn f n m ow nr' 0 nc' t := by unfold fKn; rw [h]
  unfold lfa
  rw [e]
theorem SR_cong {f : Nat → Int32} {n m : Nat} {ow : Int64 → Bool} {nr nr' : Nat → Int64} {nc nc' : Int} (h : ∀ w : Int64, fdx nr 0 w nc.toNat = fdx nr' 0 w nc'.toNat) : ∀ (k : Nat) (σ : List Bool) (w : Bool) (o : Int) (t : Nat), SR f n m ow nr nc k σ w o t = SR f n m ow nr' nc' k σ w o t := by
  intro k
  induction k with
  | zero => intro σ w o t; rfl
  | succ k ih =>
    intro σ w o t
    cases w with
    | true => rw [SR_t, SR_t, ih, ih]
    | false =>
      rw [SR_f, SR_f, ih, ih, lfa_cong h]
      split
      · rfl
      · split
        · rfl
        · split
          · rfl
          · split
            · rfl
            · split
              · rfl
              · exact ih _ _ _ _
/-- the class's number of a ONE's WORD -/
def LFR (r i : Int) : Prop := (r = -1 ∧ i = -1) ∨ (r = 3 ∧ i = 0) ∨ (r = 4 ∧ i = 1) ∨ (r = 5 ∧ i = 4) ∨ (r = 6 ∧ i = 2) ∨ (r = 7 ∧ i = 3) ∨ (r = 8 ∧ i = 5) ∨ (r = 9 ∧ i = 6) ∨ (r = 10 ∧ i = 7) ∨ (r = 11 ∧ i = 8)
theorem LFR_n {r i : Int} (h : LFR r i) (c : r = -1) : i = -1 := by unfold LFR at h; omega
theorem LFR_nn {r i : Int} (h : LFR r i) (c : ¬ r = -1) : ¬ i = -1 := by unfold LFR at h; omega
theorem LFR_5 {r i : Int} (h : LFR r i) (c : r = 5) : i = 4 := by unfold LFR at h; omega
theorem LFR_lt {r i : Int} (h : LFR r i) (c : ¬ r = 5) (d : r < 8) : i < 4 := by unfold LFR at h; omega
theorem LFR_ge {r i : Int} (h : LFR r i) (d : 8 ≤ r) : 4 < i := by unfold LFR at h; omega
theorem lfa_lt {f : Nat → Int32} {n m : Nat} {ow : Int64 → Bool} {nr : Nat → Int64} {nc i : Int} {t : Nat} (h : i < 4) : lfa f n m ow nr nc i t = .inr t := if_pos h
theorem lfa_4 {f : Nat → Int32} {n m : Nat} {ow : Int64 → Bool} {nr : Nat → Int64} {nc i : Int} {t : Nat} (h : i = 4) : lfa f n m ow nr nc i t = (if ¬ fKn f n m ow nr 0 nc t = 0 then .inl (fKn f n m ow nr 0 nc t, (sPn f n m t : Int)) else .inr (sX f n m t)) := by
  subst h
  unfold lfa
  rw [if_neg (by decide), if_pos rfl]
theorem lfa_ge {f : Nat → Int32} {n m : Nat} {ow : Int64 → Bool} {nr : Nat → Int64} {nc i : Int} {t : Nat} (h : 4 < i) : lfa f n m ow nr nc i t = (if ¬ (sK f n m t = 3 ∧ 60 ≤ sG f n m t ∧ sG f n m t ≤ 62) then .inl (1, (sPn f n m t : Int)) else
  if ¬ sK f n m (sX f n m t) = 2 then .inl (1, (sPn f n m (sX f n m t) : Int)) else .inr (sX f n m (sX f n m t))) := by
  unfold lfa
  rw [if_neg (by omega), if_neg (by omega)]
theorem lfa_4b {f : Nat → Int32} {n m : Nat} {ow : Int64 → Bool} {nr : Nat → Int64} {nc i e e' p : Int} {t : Nat} (h : i = 4) (hk : fKn f n m ow nr 0 nc t = e) (he : ¬ e = 0) (h1 : e' = e) (h2 : p = (sPn f n m t : Int)) : lfa f n m ow nr nc i t = .inl (e', p) := by
  subst h1 h2
  rw [lfa_4 h, hk, if_pos he]
theorem lfa_4g {f : Nat → Int32} {n m : Nat} {ow : Int64 → Bool} {nr : Nat → Int64} {nc i : Int} {t : Nat} (h : i = 4) (hk : fKn f n m ow nr 0 nc t = 0) : lfa f n m ow nr nc i t = .inr (sX f n m t) := by
  rw [lfa_4 h, if_neg (fun c => c hk)]
theorem lfa_s1 {f : Nat → Int32} {n m : Nat} {ow : Int64 → Bool} {nr : Nat → Int64} {nc i e p : Int} {t : Nat} (h : 4 < i) (hs : ¬ (sK f n m t = 3 ∧ 60 ≤ sG f n m t ∧ sG f n m t ≤ 62)) (h1 : e = 1) (h2 : p = (sPn f n m t : Int)) : lfa f n m ow nr nc i t = .inl (e, p) := by
  subst h1 h2
  rw [lfa_ge h, if_pos hs]
theorem lfa_s2 {f : Nat → Int32} {n m : Nat} {ow : Int64 → Bool} {nr : Nat → Int64} {nc i e p : Int} {t : Nat} (h : 4 < i) (hs : sK f n m t = 3 ∧ 60 ≤ sG f n m t ∧ sG f n m t ≤ 62) (hk : ¬ sK f n m (sX f n m t) = 2) (h1 : e = 1) (h2 : p = (sPn f n m (sX f n m t) : Int)) : lfa f n m ow nr nc i t = .inl (e, p) := by
  subst h1 h2
  rw [lfa_ge h, if_neg (fun c => c hs), if_pos hk]
theorem lfa_sg {f : Nat → Int32} {n m : Nat} {ow : Int64 → Bool} {nr : Nat → Int64} {nc i : Int} {t : Nat} (h : 4 < i) (hs : sK f n m t = 3 ∧ 60 ≤ sG f n m t ∧ sG f n m t ≤ 62) (hk : sK f n m (sX f n m t) = 2) : lfa f n m ow nr nc i t = .inr (sX f n m (sX f n m t)) := by
  rw [lfa_ge h, if_neg (fun c => c hs), if_neg (fun c => c hk)]
/-! the reference's stack: its NOTs (20) and brackets (23), ANDs (21) and ORs (22) left out -/
def flt (q : Nat → Int32) : Nat → List Bool
  | 0 => []
  | k + 1 => if (q k).toInt = 20 then false :: flt q k else if (q k).toInt = 23 then true :: flt q k else flt q k
def nsk (q : Nat → Int32) (n : Int) : Prop := ∀ j : Nat, (j : Int) < n → 20 ≤ (q j).toInt ∧ (q j).toInt ≤ 23 ∧ ((q j).toInt = 21 ∨ (q j).toInt = 22 → j = 0 ∨ ¬ (q (j - 1)).toInt = 20)
theorem flt_cong {q q' : Nat → Int32} : ∀ k : Nat, (∀ j : Nat, j < k → q j = q' j) → flt q k = flt q' k := by
  intro k
  induction k with
  | zero => intro _; rfl
  | succ k ih =>
    intro h
    show (if (q k).toInt = 20 then false :: flt q k else if (q k).toInt = 23 then true :: flt q k else flt q k) = (if (q' k).toInt = 20 then false :: flt q' k else if (q' k).toInt = 23 then true :: flt q' k else flt q' k)
    rw [h k (by omega), ih (fun j hj => h j (by omega))]
theorem flt_s {q : Nat → Int32} {k : Nat} : flt q (k + 1) = if (q k).toInt = 20 then false :: flt q k else if (q k).toInt = 23 then true :: flt q k else flt q k := rfl
theorem nsk_le {q : Nat → Int32} {n n' : Int} (h : nsk q n) (hl : n' ≤ n) : nsk q n' := fun j hj => h j (by omega)
theorem flt_nn {q : Nat → Int32} : ∀ k : Nat, nsk q k → (k = 0 ∨ ¬ (q (k - 1)).toInt = 20) → sps (flt q k) = flt q k := by
  intro k
  induction k with
  | zero => intro _ _; rfl
  | succ k ih =>
    intro h hk
    have h0 := h k (by omega)
    have h1 : ¬ (q k).toInt = 20 := by rcases hk with c | c; (· omega); (· exact c)
    rw [flt_s, if_neg h1]
    by_cases c : (q k).toInt = 23
    · rw [if_pos c]; rfl
    · rw [if_neg c]
      exact ih (nsk_le h (by omega)) (h0.2.2 (by omega))
theorem flt_0 {q : Nat → Int32} : flt q 0 = [] := rfl
theorem flt_top {q : Nat → Int32} {k : Nat} (h : nsk q k) (h0 : 0 < k) (hk : ¬ (q (k - 1)).toInt = 20 ∧ ¬ (q (k - 1)).toInt = 21 ∧ ¬ (q (k - 1)).toInt = 22) : flt q k = true :: flt q (k - 1) := by
  obtain ⟨j, rfl⟩ : ∃ j, k = j + 1 := ⟨k - 1, by omega⟩
  have h1 := h j (by omega)
  rw [Nat.add_sub_cancel] at hk ⊢
  rw [flt_s, if_neg hk.1, if_pos (by omega)]
theorem ixp {x : Int32} (h : 1 ≤ x.toInt) : (x - 1).toNatClampNeg = x.toInt.toNat - 1 := by
  have hr := xrng x
  have e : (x - 1).toInt = x.toInt - 1 := xsub rfl (by decide) (by omega) (by omega)
  show (x - 1).toInt.toNat = _
  omega
/-- the top of the stack is no NOT -/
def nnt (q : Nat → Int32) (k : Int) : Prop := k = 0 ∨ ¬ (q (k.toNat - 1)).toInt = 20
theorem nnt_of {q : Nat → Int32} {x : Int32} (h0 : 0 ≤ x.toInt) (h : x.toInt ≤ 0 ∨ ¬ (q (x - 1).toNatClampNeg).toInt = 20) : nnt q x.toInt := by
  rcases (show x.toInt = 0 ∨ 1 ≤ x.toInt by omega) with c | c
  · exact Or.inl c
  · rcases h with h | h
    · omega
    · rw [ixp c] at h
      exact Or.inr h
theorem flt_np {q : Nat → Int32} {x : Int32} (h : nsk q x.toInt) (h0 : 0 ≤ x.toInt) (hn : nnt q x.toInt) : sps (flt q x.toInt.toNat) = flt q x.toInt.toNat :=
  flt_nn x.toInt.toNat (nsk_le h (by omega)) (by rcases hn with c | c; (· exact Or.inl (by omega)); (· exact Or.inr c))
theorem flt_pop {q : Nat → Int32} {x y : Int32} (hy : y.toInt = x.toInt - 1) (h0 : 1 ≤ x.toInt) : flt q x.toInt.toNat = if (q y.toInt.toNat).toInt = 20 then false :: flt q y.toInt.toNat else if (q y.toInt.toNat).toInt = 23 then true :: flt q y.toInt.toNat else flt q y.toInt.toNat := by
  rw [show x.toInt.toNat = y.toInt.toNat + 1 by omega, flt_s]
theorem flt_len {q : Nat → Int32} : ∀ k : Nat, (flt q k).length ≤ k := by
  intro k
  induction k with
  | zero => exact Nat.le_refl _
  | succ k ih =>
    rw [flt_s]
    split
    · rw [List.length_cons]; omega
    · split
      · rw [List.length_cons]; omega
      · omega
theorem dp_up {z d : Int32} {l : Nat} (e : z = d + 1) (h : d.toInt = (l : Int) + 1) (hl : l ≤ 40) : z.toInt = (l : Int) + 2 := by
  rw [e, xadd (b := 1) h (by decide) (by omega) (by omega)]
  omega
theorem dp_dn {z d : Int32} {l : Nat} (e : z = d - 1) (h : d.toInt = (l : Int) + 2) (hl : l ≤ 40) : z.toInt = (l : Int) + 1 := by
  rw [e, xsub (b := 1) h (by decide) (by omega) (by omega)]
  omega
theorem no_s {q : Nat → Int32} {x y x0 d d' d0 : Int32} (h : d0.toInt = ((flt q x0.toInt.toNat).length : Int) + 1 → sps (flt q x.toInt.toNat) = sps (flt q x0.toInt.toNat) ∧ d.toInt = ((flt q x.toInt.toNat).length : Int) + 1) (hx : x.toInt ≤ 40) (hy : y.toInt = x.toInt - 1) (h0 : 1 ≤ x.toInt) (hc : (q (x - 1).toNatClampNeg).toInt = 20) (e : d' = d - 1) : d0.toInt = ((flt q x0.toInt.toNat).length : Int) + 1 → sps (flt q y.toInt.toNat) = sps (flt q x0.toInt.toNat) ∧ d'.toInt = ((flt q y.toInt.toNat).length : Int) + 1 := by
  intro hd
  have g := h hd
  rw [ixp h0, show x.toInt.toNat - 1 = y.toInt.toNat by omega] at hc
  have e2 := flt_pop (q := q) hy h0
  rw [if_pos hc] at e2
  rw [e2] at g
  refine ⟨g.1, ?_⟩
  have g2 := g.2
  rw [List.length_cons] at g2
  have hl := flt_len (q := q) y.toInt.toNat
  exact dp_dn e (by omega) (by omega)
theorem jn_s {q : Nat → Int32} {x y : Int32} {L : List Bool} (h : flt q x.toInt.toNat = L) (hy : y.toInt = x.toInt - 1) (h0 : 1 ≤ x.toInt) (hc : (q (x - 1).toNatClampNeg).toInt = 21 ∨ (q (x - 1).toNatClampNeg).toInt = 22) : flt q y.toInt.toNat = L := by
  rw [ixp h0, show x.toInt.toNat - 1 = y.toInt.toNat by omega] at hc
  have e := flt_pop (q := q) hy h0
  rw [if_neg (by omega), if_neg (by omega)] at e
  exact e.symm.trans h
theorem jn_n {q : Nat → Int32} {x y : Int32} {N : Int} (hs : nsk q N) (hN : x.toInt ≤ N) (hy : y.toInt = x.toInt - 1) (h0 : 1 ≤ x.toInt) (hc : (q (x - 1).toNatClampNeg).toInt = 21 ∨ (q (x - 1).toNatClampNeg).toInt = 22) : nnt q y.toInt := by
  rw [ixp h0, show x.toInt.toNat - 1 = y.toInt.toNat by omega] at hc
  rcases (hs y.toInt.toNat (by omega)).2.2 hc with c | c
  · exact Or.inl (by omega)
  · exact Or.inr c
/-- one more on the stack -/
theorem flt_up {q q' : Nat → Int32} {x y v : Int32} (e : q' = upd q x.toNatClampNeg v) (h0 : 0 ≤ x.toInt) (hy : y.toInt = x.toInt + 1) : flt q' y.toInt.toNat = if v.toInt = 20 then false :: flt q x.toInt.toNat else if v.toInt = 23 then true :: flt q x.toInt.toNat else flt q x.toInt.toNat := by
  have i : x.toNatClampNeg = x.toInt.toNat := rfl
  rw [show y.toInt.toNat = x.toInt.toNat + 1 by omega, flt_s, e, i, upd_eq, flt_cong (q := upd q x.toInt.toNat v) (q' := q) x.toInt.toNat (fun j hj => upd_ne (by omega))]
theorem nsk_up {q q' : Nat → Int32} {x y v : Int32} (e : q' = upd q x.toNatClampNeg v) (h0 : 0 ≤ x.toInt) (hy : y.toInt = x.toInt + 1) (h : nsk q x.toInt) (hv : 20 ≤ v.toInt ∧ v.toInt ≤ 23) (hn : v.toInt = 20 ∨ v.toInt = 23 ∨ nnt q x.toInt) : nsk q' y.toInt := by
  have i : x.toNatClampNeg = x.toInt.toNat := rfl
  intro j hj
  rw [e, i]
  by_cases c : j = x.toInt.toNat
  · rw [c, upd_eq]
    refine ⟨hv.1, hv.2, fun d => ?_⟩
    rcases hn with n1 | n1 | n1
    · omega
    · omega
    · rcases n1 with n2 | n2
      · exact Or.inl (by omega)
      · by_cases z : x.toInt.toNat = 0
        · exact Or.inl z
        · rw [upd_ne (by omega)]
          exact Or.inr n2
  · rw [upd_ne c]
    have g := h j (by omega)
    refine ⟨g.1, g.2.1, fun d => ?_⟩
    rcases g.2.2 d with g3 | g3
    · exact Or.inl g3
    · rw [upd_ne (by omega)]
      exact Or.inr g3
theorem flt_br {q : Nat → Int32} {x y : Int32} (h : nsk q x.toInt) (h0 : 1 ≤ x.toInt) (hy : y.toInt = x.toInt - 1) (hn : nnt q x.toInt) (hj : ¬ (q (x - 1).toNatClampNeg).toInt = 21 ∧ ¬ (q (x - 1).toNatClampNeg).toInt = 22) : flt q x.toInt.toNat = true :: flt q y.toInt.toNat := by
  rw [ixp h0] at hj
  have g := h (x.toInt.toNat - 1) (by omega)
  have n2 : ¬ (q (x.toInt.toNat - 1)).toInt = 20 := by
    rcases hn with c | c
    · omega
    · exact c
  have e := flt_pop (q := q) hy h0
  rw [show y.toInt.toNat = x.toInt.toNat - 1 by omega] at e ⊢
  rw [e, if_neg n2, if_pos (by omega)]
/-- what stands ahead of a ONE, as the reference holds it in numbers -/
def OPJ (f : Nat → Int32) (n m t : Nat) (a b c : Int) : Prop := ((a = 1 ∧ isW f n m t 0x6e6f74) ∨ (a = 0 ∧ ¬ isW f n m t 0x6e6f74)) ∧ ((b = 1 ∧ sK f n m t = 3 ∧ sG f n m t = 40) ∨ (b = 0 ∧ ¬ (sK f n m t = 3 ∧ sG f n m t = 40))) ∧ c = lfi f n m t
theorem OPJ_n {f : Nat → Int32} {n m t : Nat} {a b c : Int} (h : OPJ f n m t a b c) : (a = 1 → isW f n m t 0x6e6f74) ∧ (¬ a = 1 → ¬ isW f n m t 0x6e6f74) ∧ (b = 1 → sK f n m t = 3 ∧ sG f n m t = 40) ∧ (¬ b = 1 → ¬ (sK f n m t = 3 ∧ sG f n m t = 40)) := by
  obtain ⟨h1, h2, _⟩ := h
  refine ⟨fun e => ?_, fun e => ?_, fun e => ?_, fun e => ?_⟩
  · rcases h1 with g | g
    · exact g.2
    · omega
  · rcases h1 with g | g
    · exact absurd g.1 e
    · exact g.2
  · rcases h2 with g | g
    · exact g.2
    · omega
  · rcases h2 with g | g
    · exact absurd g.1 e
    · exact g.2
/-! small steps ahead of a ONE (by name: omega would part every 'or' of a long context) -/
theorem op_1 {w : Int} (c : ¬ w = 0) (h : 0 ≤ w ∧ w ≤ 1) : w = 1 := by omega
theorem op_n1 {w : Int} (h : w = 0) : ¬ w = 1 := by omega
theorem op_m1 {w i : Int} (e : w = i) (h : w < 0) (g : -1 ≤ i) : i = -1 := by omega
theorem op_nm {w i : Int} (e : w = i) (h : 0 ≤ w) : ¬ i = -1 := by omega
theorem op_lt {w i : Int} (e : w = i) (h : w < 4) : i < 4 := by omega
theorem op_ge {w i : Int} (e : w = i) (h : 4 ≤ w) (c : ¬ w = 4) : 4 < i := by omega
theorem op_sg {k g s : Int} (hk : k = 3) (e : s = g) (h1 : 60 ≤ s) (h2 : s ≤ 62) : k = 3 ∧ 60 ≤ g ∧ g ≤ 62 := by omega
theorem op_l1 {s g : Int} (e : s = g) (c : s < 60) (h : 60 ≤ g) : False := by omega
theorem op_l2 {s g : Int} (e : s = g) (c : 62 < s) (h : g ≤ 62) : False := by omega
theorem dp_8 {d : Int} {l : Nat} (h : d = (l : Int) + 1) (c : 8 < d) : 8 ≤ l := by omega
theorem dp_7 {d : Int} {l : Nat} (h : d = (l : Int) + 1) (c : d ≤ 8) : ¬ 8 ≤ l := by omega
theorem dp_40 {d : Int} {l : Nat} (h : d = (l : Int) + 1) (c : d ≤ 8) : l ≤ 40 := by omega
theorem dp_d2 {d : Int} {l : Nat} (h : d = ((l + 1 : Nat) : Int) + 1) : d = (l : Int) + 2 := by omega
theorem op_g1 {x : Int} (h : 0 ≤ x) (c : ¬ x = 0) : 1 ≤ x := by omega
theorem op_n0 {x : Int} (h : 1 ≤ x) : ¬ x ≤ 0 := by omega
theorem op_o3 {A B C : Prop} (h : A ∨ ¬ B ∨ C) (a : ¬ A) (b : B) : C := by
  rcases h with h | h | h
  · exact absurd h a
  · exact absurd b h
  · exact h
theorem flt_z {q : Nat → Int32} {x : Int32} (h : x.toInt ≤ 0) : flt q x.toInt.toNat = [] := by
  rw [show x.toInt.toNat = 0 by omega]
  rfl
theorem flt_40 {q : Nat → Int32} {x : Int32} (h : x.toInt ≤ 40) : (flt q x.toInt.toNat).length ≤ 40 := by
  have := flt_len (q := q) x.toInt.toNat
  omega
theorem dp_u2 {d : Int} {l : Nat} (h : d = (l : Int) + 2) : d = ((l + 1 : Nat) : Int) + 1 := by omega
/-- where the reference is in a SENTENCE's text -/
def SEP (f : Nat → Int32) (ow : Int64 → Bool) (nr : Nat → Int64) (nc : Int) (sz lim k pl e : Int32) (w : Int64) (nu : Int32) (q : Nat → Int32) (top deep whole ones : Int32) (L : Int) : Prop :=
  ∀ n : Nat, sz.toInt = (n : Int) → n ≤ 940 → DJ (L = 1 ∧ ∃ t' : Nat, CC (trn f n) n 200 t' sz lim k pl e w nu nu ∧ nsk q top.toInt ∧ deep.toInt = ((flt q top.toInt.toNat).length : Int) + 1 ∧ ((whole.toInt = 0 ∧ gto n (SF (trn f n) n 200 ow nr nc [] false 0 0) 0 (SF (trn f n) n 200 ow nr nc (flt q top.toInt.toNat) false ones.toInt t') t') ∨ (whole.toInt = 1 ∧ gto n (SF (trn f n) n 200 ow nr nc [] false 0 0) 0 (SF (trn f n) n 200 ow nr nc (sps (flt q top.toInt.toNat)) true ones.toInt t') t'))) (L = 0 ∧ gok n (SF (trn f n) n 200 ow nr nc [] false 0 0) 0 ones.toInt)
theorem SEP_0 {f : Nat → Int32} {ow : Int64 → Bool} {nr : Nat → Int64} {nc : Int} {sz lim p k pl e nu : Int32} {w : Int64} {q : Nat → Int32} {top deep whole ones : Int32} {L : Int} (g : ∀ n m : Nat, sz.toInt = (n : Int) → lim.toInt = (m : Int) → p.toInt ≤ sz.toInt → CC (trn f n) n m p.toInt.toNat sz lim k pl e w nu nu) (hl : lim.toInt = 200) (hp : p.toInt = 0) (hs : 0 ≤ sz.toInt) (ht : top.toInt = 0) (hd : deep.toInt = 1) (hw : whole.toInt = 0) (ho : ones.toInt = 0) (hL : L = 1) : SEP f ow nr nc sz lim k pl e w nu q top deep whole ones L := by
  intro n h1 _
  have h2 := g n 200 h1 hl (by omega)
  rw [show p.toInt.toNat = 0 by omega] at h2
  have e0 : top.toInt.toNat = 0 := by omega
  refine Or.inl ⟨hL, 0, h2, fun j hj => by omega, ?_, Or.inl ⟨hw, ?_⟩⟩
  · rw [e0, flt_0, hd]; rfl
  · rw [e0, flt_0, ho]; exact gto_rf
section SEPs
variable {f : Nat → Int32} {ow : Int64 → Bool} {nr : Nat → Int64} {nc : Int} {sz lim k pl e nu : Int32} {w : Int64} {q : Nat → Int32} {top deep whole ones : Int32} {L : Int}
variable {r fk fp k1 pl1 e1 nu1 top1 deep1 whole1 ones1 : Int32} {w1 : Int64} {q1 : Nat → Int32} {L1 : Int}
theorem SEP_o (h : SEP f ow nr nc sz lim k pl e w nu q top deep whole ones L) (hL : L = 1) (hw : whole.toInt = 0)
    (hO : ∀ n m t : Nat, CC (trn f n) n m t sz lim k pl e w nu nu → nsk q top.toInt → deep.toInt = ((flt q top.toInt.toNat).length : Int) + 1 → (r.toInt = 1 ∧ ∃ t' : Nat, CC (trn f n) n m t' sz lim k1 pl1 e1 w1 nu1 nu1 ∧ nsk q1 top1.toInt ∧ deep1.toInt = ((flt q1 top1.toInt.toNat).length : Int) + 1 ∧ ((whole1.toInt = 0 ∧ gto n (SF (trn f n) n m ow nr nc (flt q top.toInt.toNat) false ones.toInt t) t (SF (trn f n) n m ow nr nc (flt q1 top1.toInt.toNat) false ones1.toInt t') t') ∨ (whole1.toInt = 1 ∧ gto n (SF (trn f n) n m ow nr nc (flt q top.toInt.toNat) false ones.toInt t) t (SF (trn f n) n m ow nr nc (sps (flt q1 top1.toInt.toNat)) true ones1.toInt t') t'))) ∨ (r.toInt = 0 ∧ gfa n (SF (trn f n) n m ow nr nc (flt q top.toInt.toNat) false ones.toInt t) t fk.toInt fp.toInt)) (hr : r.toInt = 1) (hL1 : L1 = 1) : SEP f ow nr nc sz lim k1 pl1 e1 w1 nu1 q1 top1 deep1 whole1 ones1 L1 := by
  intro n hn h9
  rcases h n hn h9 with ⟨_, t, hc, hs, hd, hg⟩ | ⟨c, _⟩
  · rcases hg with ⟨_, hg⟩ | ⟨c, _⟩
    · rcases hO n 200 t hc hs hd with ⟨_, t', c1, c2, c3, c4⟩ | ⟨c, _⟩
      · refine Or.inl ⟨hL1, t', c1, c2, c3, ?_⟩
        rcases c4 with ⟨d1, d2⟩ | ⟨d1, d2⟩
        · exact Or.inl ⟨d1, gto_tr hg d2⟩
        · exact Or.inr ⟨d1, gto_tr hg d2⟩
      · omega
    · omega
  · omega
theorem SEP_of (h : SEP f ow nr nc sz lim k pl e w nu q top deep whole ones L) (hL : L = 1) (hw : whole.toInt = 0) {R : Nat → Nat → Nat → Nat → Prop}
    (hO : ∀ n m t : Nat, CC (trn f n) n m t sz lim k pl e w nu nu → nsk q top.toInt → deep.toInt = ((flt q top.toInt.toNat).length : Int) + 1 → (r.toInt = 1 ∧ ∃ t' : Nat, R n m t t') ∨ (r.toInt = 0 ∧ gfa n (SF (trn f n) n m ow nr nc (flt q top.toInt.toNat) false ones.toInt t) t fk.toInt fp.toInt)) (hr : r.toInt = 0) (n : Nat) (hn : sz.toInt = (n : Int)) (h9 : n ≤ 940) : SR0 (trn f n) n ow nr nc = (fk.toInt, fp.toInt) ∧ ¬ fk.toInt = 0 := by
  rcases h n hn h9 with ⟨_, t, hc, hs, hd, hg⟩ | ⟨c, _⟩
  · rcases hg with ⟨_, hg⟩ | ⟨c, _⟩
    · rcases hO n 200 t hc hs hd with ⟨c, _⟩ | ⟨_, c⟩
      · omega
      · have g := gto_fa hg c
        exact ⟨g.2 1000 (by omega), g.1⟩
    · omega
  · omega
theorem SEP_b (h : SEP f ow nr nc sz lim k pl e w nu q top deep whole ones L) (hL : L = 1) (hw : whole.toInt = 1)
    (hO : ∀ n m t : Nat, CC (trn f n) n m t sz lim k pl e w nu nu → nsk q top.toInt → deep.toInt = ((flt q top.toInt.toNat).length : Int) + 1 → (r.toInt = 1 ∧ ∃ t' : Nat, CC (trn f n) n m t' sz lim k1 pl1 e1 w1 nu1 nu1 ∧ nsk q1 top1.toInt ∧ deep1.toInt = ((flt q1 top1.toInt.toNat).length : Int) + 1 ∧ ((whole1.toInt = 0 ∧ gto n (SF (trn f n) n m ow nr nc (sps (flt q top.toInt.toNat)) true ones.toInt t) t (SF (trn f n) n m ow nr nc (flt q1 top1.toInt.toNat) false ones1.toInt t') t') ∨ (whole1.toInt = 1 ∧ gto n (SF (trn f n) n m ow nr nc (sps (flt q top.toInt.toNat)) true ones.toInt t) t (SF (trn f n) n m ow nr nc (sps (flt q1 top1.toInt.toNat)) true ones1.toInt t') t'))) ∨ (r.toInt = 0 ∧ gfa n (SF (trn f n) n m ow nr nc (sps (flt q top.toInt.toNat)) true ones.toInt t) t fk.toInt fp.toInt)) (hr : r.toInt = 1) (hL1 : L1 = 1) : SEP f ow nr nc sz lim k1 pl1 e1 w1 nu1 q1 top1 deep1 whole1 ones1 L1 := by
  intro n hn h9
  rcases h n hn h9 with ⟨_, t, hc, hs, hd, hg⟩ | ⟨c, _⟩
  · rcases hg with ⟨c, _⟩ | ⟨_, hg⟩
    · omega
    · rcases hO n 200 t hc hs hd with ⟨_, t', c1, c2, c3, c4⟩ | ⟨c, _⟩
      · refine Or.inl ⟨hL1, t', c1, c2, c3, ?_⟩
        rcases c4 with ⟨d1, d2⟩ | ⟨d1, d2⟩
        · exact Or.inl ⟨d1, gto_tr hg d2⟩
        · exact Or.inr ⟨d1, gto_tr hg d2⟩
      · omega
  · omega
theorem SEP_bf (h : SEP f ow nr nc sz lim k pl e w nu q top deep whole ones L) (hL : L = 1) (hw : whole.toInt = 1) {R : Nat → Nat → Nat → Nat → Prop}
    (hO : ∀ n m t : Nat, CC (trn f n) n m t sz lim k pl e w nu nu → nsk q top.toInt → deep.toInt = ((flt q top.toInt.toNat).length : Int) + 1 → (r.toInt = 1 ∧ ∃ t' : Nat, R n m t t') ∨ (r.toInt = 0 ∧ gfa n (SF (trn f n) n m ow nr nc (sps (flt q top.toInt.toNat)) true ones.toInt t) t fk.toInt fp.toInt)) (hr : r.toInt = 0) (n : Nat) (hn : sz.toInt = (n : Int)) (h9 : n ≤ 940) : SR0 (trn f n) n ow nr nc = (fk.toInt, fp.toInt) ∧ ¬ fk.toInt = 0 := by
  rcases h n hn h9 with ⟨_, t, hc, hs, hd, hg⟩ | ⟨c, _⟩
  · rcases hg with ⟨c, _⟩ | ⟨_, hg⟩
    · omega
    · rcases hO n 200 t hc hs hd with ⟨c, _⟩ | ⟨_, c⟩
      · omega
      · have g := gto_fa hg c
        exact ⟨g.2 1000 (by omega), g.1⟩
  · omega
theorem SEP_e {top2 deep2 : Int32} (h : SEP f ow nr nc sz lim k pl e w nu q top deep whole ones L) (hL : L = 1) (hw : whole.toInt = 1) (hk : k.toInt = 0)
    (hN : nsk q top.toInt → deep.toInt = ((flt q top.toInt.toNat).length : Int) + 1 → flt q top1.toInt.toNat = sps (flt q top.toInt.toNat) ∧ deep2.toInt = ((flt q top1.toInt.toNat).length : Int) + 1 ∧ nnt q top1.toInt ∧ 0 ≤ top1.toInt ∧ top1.toInt ≤ top.toInt)
    (hJ : flt q top2.toInt.toNat = flt q top1.toInt.toNat ∧ 0 ≤ top2.toInt ∧ top2.toInt ≤ top1.toInt ∧ (nsk q top1.toInt → nnt q top1.toInt → nnt q top2.toInt)) (h0 : top2.toInt ≤ 0) (hL1 : L1 = 0) {sz1 lim1 k2 pl2 e2 nu2 top3 deep3 whole2 : Int32} {w2 : Int64} {q2 : Nat → Int32} (hz : sz1.toInt = sz.toInt) : SEP f ow nr nc sz1 lim1 k2 pl2 e2 w2 nu2 q2 top3 deep3 whole2 ones L1 := by
  intro n hn h9
  rcases h n (hz.symm.trans hn) h9 with ⟨_, t, hc, hs, hd, hg⟩ | ⟨c, _⟩
  · rcases hg with ⟨c, _⟩ | ⟨_, hg⟩
    · omega
    · obtain ⟨n1, n2, n3, n4, n5⟩ := hN hs hd
      have e1 := hJ.1
      rw [n1, show top2.toInt.toNat = 0 by have := hJ.2.1; omega, flt_0] at e1
      rw [← e1] at hg
      have ht := hc.2.2.1
      have hk2 := hc.2.2.2.1
      exact Or.inr ⟨hL1, gto_ok hg (sg_end ht (hk2.symm.trans hk))⟩
  · omega
theorem SEP_x {top2 deep2 : Int32} (h : SEP f ow nr nc sz lim k pl e w nu q top deep whole ones L) (hL : L = 1) (hw : whole.toInt = 1) (hk : k.toInt = 0)
    (hN : nsk q top.toInt → deep.toInt = ((flt q top.toInt.toNat).length : Int) + 1 → flt q top1.toInt.toNat = sps (flt q top.toInt.toNat) ∧ deep2.toInt = ((flt q top1.toInt.toNat).length : Int) + 1 ∧ nnt q top1.toInt ∧ 0 ≤ top1.toInt ∧ top1.toInt ≤ top.toInt)
    (hJ : flt q top2.toInt.toNat = flt q top1.toInt.toNat ∧ 0 ≤ top2.toInt ∧ top2.toInt ≤ top1.toInt ∧ (nsk q top1.toInt → nnt q top1.toInt → nnt q top2.toInt)) (hX : ¬ (q (top2 - 1).toNatClampNeg).toInt = 21 ∧ ¬ (q (top2 - 1).toNatClampNeg).toInt = 22) (h0 : 1 ≤ top2.toInt) (hf : fk.toInt = 1) (hp : fp.toInt = pl.toInt) (n : Nat) (hn : sz.toInt = (n : Int)) (h9 : n ≤ 940) : SR0 (trn f n) n ow nr nc = (fk.toInt, fp.toInt) ∧ ¬ fk.toInt = 0 := by
  rcases h n hn h9 with ⟨_, t, hc, hs, hd, hg⟩ | ⟨c, _⟩
  · rcases hg with ⟨c, _⟩ | ⟨_, hg⟩
    · omega
    · obtain ⟨n1, n2, n3, n4, n5⟩ := hN hs hd
      obtain ⟨j1, j2, j3, j4⟩ := hJ
      have b := flt_br (q := q) (x := top2) (y := top2 - 1) (nsk_le hs (by omega)) h0 (by have hr := xrng top2; exact xsub rfl (by decide) (by omega) (by omega)) (j4 (nsk_le hs (by omega)) n3) hX
      rw [j1, n1] at b
      have ht := hc.2.2.1
      have hk2 := hc.2.2.2.1
      have hp2 := hc.2.2.2.2.1
      have k0 : sK (trn f n) n 200 t = 0 := hk2.symm.trans hk
      have g := gto_fa hg (gfa_c (sg_cant ht (fun c => by have e9 := c.1.symm.trans k0; omega) (fun c => by have e9 := c.1.symm.trans k0; omega) (Or.inl ⟨k0, by rw [b]; simp⟩)) hf (hp.trans hp2))
      exact ⟨g.2 1000 (by omega), g.1⟩
  · omega
theorem SEP_k (h : SEP f ow nr nc sz lim k pl e w nu q top deep whole ones L) (hL : L = 0) (n : Nat) (hn : sz.toInt = (n : Int)) (h9 : n ≤ 940) : SR0 (trn f n) n ow nr nc = (0, ones.toInt) := by
  rcases h n hn h9 with ⟨c, _⟩ | ⟨_, g⟩
  · omega
  · exact g 1000 (by omega)
end SEPs
/-- both answer alike -/
theorem sen_eq {f g : Nat → Int32} {q q' nw nm : Nat → Int64} {len len2 r r2 n sl : Int32} {sw : Nat → Int64} {wr s : Nat → Int32} (hl : len.toInt = len2.toInt) (h0 : 0 ≤ len.toInt ∧ len.toInt ≤ 940) (ht : tpe f g len.toInt) (ho : ∀ j : Nat, j < 27 → q j = q' j) (hT : TT n sl nw sw wr s 0 nm 0) (hn : 0 ≤ n.toInt)
    (h1 : ∀ m : Nat, len.toInt = (m : Int) → m ≤ 940 → SR0 (trn f m) m (ownB q) nw n.toInt = (0, r.toInt) ∨ ∃ e : Int, ¬ e = 0 ∧ SR0 (trn f m) m (ownB q) nw n.toInt = (e, -1 - r.toInt))
    (h2 : ∀ m : Nat, len2.toInt = (m : Int) → m ≤ 940 → SR0 (trn g m) m (ownB q') nm (s 0).toInt = (0, r2.toInt) ∨ ∃ e : Int, ¬ e = 0 ∧ SR0 (trn g m) m (ownB q') nm (s 0).toInt = (e, -1 - r2.toInt)) : r.toInt = r2.toInt := by
  obtain ⟨t1, t2, t3, t4, t5⟩ := hT
  have a := h1 len.toInt.toNat (by omega) (by omega)
  have b := h2 len.toInt.toNat (by omega) (by omega)
  have e : SR0 (trn f len.toInt.toNat) len.toInt.toNat (ownB q) nw n.toInt = SR0 (trn g len.toInt.toNat) len.toInt.toNat (ownB q') nm (s 0).toInt := by
    rw [ownB_cong ho, trn_eq (f := f) (f' := g) (n := len.toInt.toNat) (fun j hj => ht j (by omega))]
    refine SR_cong (fun w => ?_) _ _ _ _ _
    rw [← t1]
    exact fdx_cong _ (fun j hj => by rw [t3 (0 + j) (by omega)]; congr 1; omega)
  rw [e] at a
  rcases a with a | ⟨x, a0, a⟩ <;> rcases b with b | ⟨y, b0, b⟩ <;> (have c := a.symm.trans b; simp only [Prod.mk.injEq] at c; omega)
