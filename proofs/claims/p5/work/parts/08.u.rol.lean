/-! what a ROLL's text says, LINE by LINE; nr from nb on: nc NAMES, sr from sb on: sc SOULS -/
section RL
variable (f : Nat → Int32) (n m : Nat) (ow : Int64 → Bool) (nr : Nat → Int64) (nb : Nat) (nc : Int) (sr : Nat → Int64) (sb : Nat) (sc : Int)
def rkn (row : Nat → Int64) (b : Nat) (c : Int) (t : Nat) : (Int × Int) ⊕ Nat := if ¬ fKn f n m ow row b c t = 0 then .inl (fKn f n m ow row b c t, (sPn f n m t : Int)) else .inr (sX f n m t)
def rnu (lo hi : Int) (t : Nat) : (Int × Int) ⊕ Nat := if ¬ fNum f n m lo hi t = 0 then .inl (fNum f n m lo hi t, (sPn f n m t : Int)) else .inr (sX f n m t)
def rld (t : Nat) : (Int × Int) ⊕ Nat :=
  if isW f n m t 0x74616b6573 then rkn f n m ow nr nb nc (sX f n m t) else
  if isW f n m t 0x7377617073 then rkn f n m ow sr sb sc (sX f n m t) else
  if isW f n m t 0x73656c6c73 then rkn f n m ow sr sb sc (sX f n m t) else
  if isW f n m t 0x64696573 then .inr (sX f n m t) else
  if isW f n m t 0x68616e6773 then .inr (sX f n m t) else
  if isW f n m t 0x666c656573 then .inr (sX f n m t) else
  if isW f n m t 0x70617973 then rnu f n m 1 99 (sX f n m t) else .inl (1, (sPn f n m t : Int))
def rll (k : Int) (t : Nat) : (Int × Int) ⊕ Nat :=
  if isW f n m t 0x6d6f6e646179 then (if k = 40 then .inl (4, (sPn f n m t : Int)) else rnu f n m 1 60 (sX f n m t)) else
  if ¬ fKn f n m ow sr sb sc t = 0 then .inl (fKn f n m ow sr sb sc t, (sPn f n m t : Int)) else
  if k = 40 then .inl (4, (sPn f n m t : Int)) else rld f n m ow nr nb nc sr sb sc (sX f n m t)
def RZX : Nat → Int → Nat → Int × Int
  | 0, _, _ => (0, 0)
  | k + 1, o, t =>
    if sK f n m t = 0 then (0, 0) else
    match rll f n m ow nr nb nc sr sb sc o t with
    | .inl e => e
    | .inr t' => if sK f n m t' = 3 ∧ sG f n m t' = 59 then RZX k (o + 1) (sX f n m t') else (1, (sPn f n m t' : Int))
end RL
abbrev RZ0 (f : Nat → Int32) (n : Nat) (ow : Int64 → Bool) (nr : Nat → Int64) (nb : Nat) (nc : Int) (sr : Nat → Int64) (sb : Nat) (sc : Int) : Int × Int := RZX f n 400 ow nr nb nc sr sb sc 1000 0 0
section RLs
variable {f : Nat → Int32} {n m : Nat} {ow : Int64 → Bool} {nr : Nat → Int64} {nb : Nat} {nc : Int} {sr : Nat → Int64} {sb : Nat} {sc : Int} {t t' : Nat}
theorem rkn_le {row : Nat → Int64} {b : Nat} {c : Int} (ht : t ≤ n) (h : rkn f n m ow row b c t = .inr t') : t ≤ t' ∧ t' ≤ n := by
  unfold rkn at h
  split at h
  · cases h
  · cases h; exact sX_le ht
theorem rnu_le {lo hi : Int} (ht : t ≤ n) (h : rnu f n m lo hi t = .inr t') : t ≤ t' ∧ t' ≤ n := by
  unfold rnu at h
  split at h
  · cases h
  · cases h; exact sX_le ht
theorem rld_le (ht : t ≤ n) (h : rld f n m ow nr nb nc sr sb sc t = .inr t') : t ≤ t' ∧ t' ≤ n := by
  have l := sX_le (f := f) (m := m) ht
  unfold rld at h
  split at h
  · have := rkn_le l.2 h; omega
  · split at h
    · have := rkn_le l.2 h; omega
    · split at h
      · have := rkn_le l.2 h; omega
      · split at h
        · cases h; exact l
        · split at h
          · cases h; exact l
          · split at h
            · cases h; exact l
            · split at h
              · have := rnu_le l.2 h; omega
              · cases h
theorem rll_lt {k : Int} (ht : t ≤ n) (h : rll f n m ow nr nb nc sr sb sc k t = .inr t') : t < t' ∧ t' ≤ n := by
  have l := sX_le (f := f) (m := m) ht
  unfold rll at h
  split at h
  · next c =>
    split at h
    · cases h
    · have := rnu_le l.2 h
      have := sX_gt (f := f) (n := n) (m := m) ht (Or.inl c.1)
      omega
  · split at h
    · cases h
    · next c =>
      split at h
      · cases h
      · have hw : sK f n m t = 1 := by
          apply Classical.byContradiction
          intro d
          exact c (by rw [fKn_1 (fun a => d a.1)]; decide)
        have := rld_le l.2 h
        have := sX_gt (f := f) (n := n) (m := m) ht (Or.inl hw)
        omega
theorem rkn_b {row : Nat → Int64} {b : Nat} {c e e' p : Int} (hk : fKn f n m ow row b c t = e) (he : ¬ e = 0) (h1 : e' = e) (h2 : p = (sPn f n m t : Int)) : rkn f n m ow row b c t = .inl (e', p) := by
  subst h1 h2
  unfold rkn
  rw [hk, if_pos he]
theorem rkn_g {row : Nat → Int64} {b : Nat} {c : Int} (hk : fKn f n m ow row b c t = 0) : rkn f n m ow row b c t = .inr (sX f n m t) := if_neg (fun d => d hk)
theorem rnu_b {lo hi e p : Int} (hk : ¬ fNum f n m lo hi t = 0) (h1 : e = fNum f n m lo hi t) (h2 : p = (sPn f n m t : Int)) : rnu f n m lo hi t = .inl (e, p) := by
  subst h1 h2
  exact if_pos hk
theorem rnu_g {lo hi : Int} (hk : fNum f n m lo hi t = 0) : rnu f n m lo hi t = .inr (sX f n m t) := if_neg (fun d => d hk)
theorem rnu_ne {lo hi e p : Int} (h : rnu f n m lo hi t = .inl (e, p)) : ¬ e = 0 := by
  unfold rnu at h
  split at h
  · next c => cases h; exact c
  · cases h
theorem rkn_ne {row : Nat → Int64} {b : Nat} {c e p : Int} (h : rkn f n m ow row b c t = .inl (e, p)) : ¬ e = 0 := by
  unfold rkn at h
  split at h
  · next c => cases h; exact c
  · cases h
theorem rld_ne {e p : Int} (h : rld f n m ow nr nb nc sr sb sc t = .inl (e, p)) : ¬ e = 0 := by
  unfold rld at h
  split at h
  · exact rkn_ne h
  · split at h
    · exact rkn_ne h
    · split at h
      · exact rkn_ne h
      · split at h
        · cases h
        · split at h
          · cases h
          · split at h
            · cases h
            · split at h
              · exact rnu_ne h
              · cases h; decide
theorem rll_ne {k e p : Int} (h : rll f n m ow nr nb nc sr sb sc k t = .inl (e, p)) : ¬ e = 0 := by
  unfold rll at h
  split at h
  · split at h
    · cases h; decide
    · exact rnu_ne h
  · split at h
    · next c => cases h; exact c
    · split at h
      · cases h; decide
      · exact rld_ne h
theorem RX_end {k : Nat} {o : Int} (h : sK f n m t = 0) : RZX f n m ow nr nb nc sr sb sc (k + 1) o t = (0, 0) := if_pos h
theorem RX_bad {k : Nat} {o e p : Int} (h : ¬ sK f n m t = 0) (hl : rll f n m ow nr nb nc sr sb sc o t = .inl (e, p)) : RZX f n m ow nr nb nc sr sb sc (k + 1) o t = (e, p) := by
  show (if sK f n m t = 0 then (0, 0) else match rll f n m ow nr nb nc sr sb sc o t with
    | .inl e => e
    | .inr t' => if sK f n m t' = 3 ∧ sG f n m t' = 59 then RZX f n m ow nr nb nc sr sb sc k (o + 1) (sX f n m t') else (1, (sPn f n m t' : Int))) = _
  rw [if_neg h, hl]
theorem RX_sign {k : Nat} {o : Int} (h : ¬ sK f n m t = 0) (hl : rll f n m ow nr nb nc sr sb sc o t = .inr t') (hs : ¬ (sK f n m t' = 3 ∧ sG f n m t' = 59)) : RZX f n m ow nr nb nc sr sb sc (k + 1) o t = (1, (sPn f n m t' : Int)) := by
  show (if sK f n m t = 0 then (0, 0) else match rll f n m ow nr nb nc sr sb sc o t with
    | .inl e => e
    | .inr t' => if sK f n m t' = 3 ∧ sG f n m t' = 59 then RZX f n m ow nr nb nc sr sb sc k (o + 1) (sX f n m t') else (1, (sPn f n m t' : Int))) = _
  rw [if_neg h, hl]
  exact if_neg hs
theorem RX_next {k : Nat} {o : Int} (h : ¬ sK f n m t = 0) (hl : rll f n m ow nr nb nc sr sb sc o t = .inr t') (hs : sK f n m t' = 3 ∧ sG f n m t' = 59) : RZX f n m ow nr nb nc sr sb sc (k + 1) o t = RZX f n m ow nr nb nc sr sb sc k (o + 1) (sX f n m t') := by
  show (if sK f n m t = 0 then (0, 0) else match rll f n m ow nr nb nc sr sb sc o t with
    | .inl e => e
    | .inr t' => if sK f n m t' = 3 ∧ sG f n m t' = 59 then RZX f n m ow nr nb nc sr sb sc k (o + 1) (sX f n m t') else (1, (sPn f n m t' : Int))) = _
  rw [if_neg h, hl]
  exact if_pos hs
end RLs
/-- where a side is in a ROLL's text: sg is its number of a sign -/
def RP (f : Nat → Int32) (ow : Int64 → Bool) (nr : Nat → Int64) (nb : Nat) (nc : Int) (sr : Nat → Int64) (sb : Nat) (sc : Int) (sz lim k pl e : Int32) (w : Int64) (nu sg : Int32) (ln : Int) : Prop :=
  ∀ n : Nat, sz.toInt = (n : Int) → n ≤ 940 → ∃ t fu : Nat, CC (trn f n) n 400 t sz lim k pl e w nu sg ∧ (fu : Int) + ln = 1000 ∧ 2 * ln ≤ (t : Int) ∧ 0 ≤ ln ∧ RZ0 (trn f n) n ow nr nb nc sr sb sc = RZX (trn f n) n 400 ow nr nb nc sr sb sc fu ln t
section RPs
variable {f : Nat → Int32} {ow : Int64 → Bool} {nr : Nat → Int64} {nb : Nat} {nc : Int} {sr : Nat → Int64} {sb : Nat} {sc : Int} {sz lim k pl e nu sg : Int32} {w : Int64} {ln : Int}
variable {r r2 fk fp fk2 fp2 k1 pl1 e1 nu1 sg1 k2 pl2 e2 nu2 sg2 : Int32} {w1 w2 : Int64} {ln2 : Int}
theorem RP_0 {p : Int32} (g : ∀ n : Nat, sz.toInt = (n : Int) → CC (trn f n) n 400 p.toInt.toNat sz lim k pl e w nu sg) (hp : p.toInt = 0) (hn : ln = 0) : RP f ow nr nb nc sr sb sc sz lim k pl e w nu sg ln := by
  intro n h1 _
  have h2 := g n h1
  rw [show p.toInt.toNat = 0 by omega] at h2
  subst hn
  exact ⟨0, 1000, h2, by omega, by omega, by omega, rfl⟩
theorem RP_s (hT : RP f ow nr nb nc sr sb sc sz lim k pl e w nu sg ln) (hk : ¬ k.toInt = 0)
    (hL : ∀ n m t : Nat, CC (trn f n) n m t sz lim k pl e w nu sg → (r.toInt = 1 ∧ ∃ t' : Nat, rll (trn f n) n m ow nr nb nc sr sb sc ln t = .inr t' ∧ CC (trn f n) n m t' sz lim k1 pl1 e1 w1 nu1 sg1) ∨ (r.toInt = 0 ∧ rll (trn f n) n m ow nr nb nc sr sb sc ln t = .inl (fk.toInt, fp.toInt))) (hr : r.toInt = 1)
    (hS : ∀ n m t : Nat, CC (trn f n) n m t sz lim k1 pl1 e1 w1 nu1 sg1 → (r2.toInt = 1 ∧ sK (trn f n) n m t = 3 ∧ sG (trn f n) n m t = 59 ∧ CC (trn f n) n m (sX (trn f n) n m t) sz lim k2 pl2 e2 w2 nu2 sg2) ∨ (r2.toInt = 0 ∧ ¬ (sK (trn f n) n m t = 3 ∧ sG (trn f n) n m t = 59) ∧ fk2.toInt = 1 ∧ fp2.toInt = (sPn (trn f n) n m t : Int))) (hr2 : r2.toInt = 1) (hln : ln2 = ln + 1) :
    RP f ow nr nb nc sr sb sc sz lim k2 pl2 e2 w2 nu2 sg2 ln2 := by
  intro n hn h940
  obtain ⟨t, fu, hc, hf, ht, h0, hE⟩ := hT n hn h940
  have hck := hc.2.2.2.1
  have hct := hc.2.2.1
  rcases hL n 400 t hc with ⟨_, t', hx, hc'⟩ | ⟨c, _⟩
  · have hct' := hc'.2.2.1
    have hp := rll_lt hct hx
    rcases hS n 400 t' hc' with ⟨_, s1, s2, s3⟩ | ⟨s0, _⟩
    · have hg := sX_gt (f := trn f n) (n := n) (m := 400) (t := t') hct' (Or.inr (Or.inr s1))
      have h5 := s3.2.2.1
      refine ⟨_, fu - 1, s3, by omega, by omega, by omega, ?_⟩
      rw [hE, show fu = (fu - 1) + 1 by omega, RX_next (by omega) hx ⟨s1, s2⟩, hln]
      rfl
    · omega
  · omega
theorem RP_e (hT : RP f ow nr nb nc sr sb sc sz lim k pl e w nu sg ln) (hk : k.toInt = 0) (n : Nat) (hn : sz.toInt = (n : Int)) (h9 : n ≤ 940) : RZ0 (trn f n) n ow nr nb nc sr sb sc = (0, 0) := by
  obtain ⟨t, fu, hc, hf, ht, h0, hE⟩ := hT n hn h9
  have hck := hc.2.2.2.1
  have hct := hc.2.2.1
  rw [hE, show fu = (fu - 1) + 1 by omega, RX_end (by omega)]
theorem RP_b {R : Nat → Nat → Nat → Nat → Prop} (hT : RP f ow nr nb nc sr sb sc sz lim k pl e w nu sg ln) (hk : ¬ k.toInt = 0)
    (hL : ∀ n m t : Nat, CC (trn f n) n m t sz lim k pl e w nu sg → (r.toInt = 1 ∧ ∃ t' : Nat, R n m t t') ∨ (r.toInt = 0 ∧ rll (trn f n) n m ow nr nb nc sr sb sc ln t = .inl (fk.toInt, fp.toInt))) (hr : r.toInt = 0) (n : Nat) (hn : sz.toInt = (n : Int)) (h9 : n ≤ 940) : RZ0 (trn f n) n ow nr nb nc sr sb sc = (fk.toInt, fp.toInt) := by
  obtain ⟨t, fu, hc, hf, ht, h0, hE⟩ := hT n hn h9
  have hck := hc.2.2.2.1
  have hct := hc.2.2.1
  rcases hL n 400 t hc with ⟨c, _⟩ | ⟨_, hx⟩
  · omega
  · rw [hE, show fu = (fu - 1) + 1 by omega, RX_bad (by omega) hx]
theorem RP_g (hT : RP f ow nr nb nc sr sb sc sz lim k pl e w nu sg ln) (hk : ¬ k.toInt = 0)
    (hL : ∀ n m t : Nat, CC (trn f n) n m t sz lim k pl e w nu sg → (r.toInt = 1 ∧ ∃ t' : Nat, rll (trn f n) n m ow nr nb nc sr sb sc ln t = .inr t' ∧ CC (trn f n) n m t' sz lim k1 pl1 e1 w1 nu1 sg1) ∨ (r.toInt = 0 ∧ rll (trn f n) n m ow nr nb nc sr sb sc ln t = .inl (fk.toInt, fp.toInt))) (hr : r.toInt = 1) {R : Nat → Nat → Nat → Prop}
    (hS : ∀ n m t : Nat, CC (trn f n) n m t sz lim k1 pl1 e1 w1 nu1 sg1 → (r2.toInt = 1 ∧ R n m t) ∨ (r2.toInt = 0 ∧ ¬ (sK (trn f n) n m t = 3 ∧ sG (trn f n) n m t = 59) ∧ fk2.toInt = 1 ∧ fp2.toInt = (sPn (trn f n) n m t : Int))) (hr2 : r2.toInt = 0) (n : Nat) (hn : sz.toInt = (n : Int)) (h9 : n ≤ 940) : RZ0 (trn f n) n ow nr nb nc sr sb sc = (fk2.toInt, fp2.toInt) := by
  obtain ⟨t, fu, hc, hf, ht, h0, hE⟩ := hT n hn h9
  have hck := hc.2.2.2.1
  have hct := hc.2.2.1
  rcases hL n 400 t hc with ⟨_, t', hx, hc'⟩ | ⟨c, _⟩
  · rcases hS n 400 t' hc' with ⟨c, _⟩ | ⟨_, s1, s2, s3⟩
    · omega
    · rw [hE, show fu = (fu - 1) + 1 by omega, RX_sign (by omega) hx s1, s2, s3]
  · omega
theorem RP_room (hT : RP f ow nr nb nc sr sb sc sz lim k pl e w nu sg ln) (hs : 0 ≤ sz.toInt ∧ sz.toInt ≤ 940) : 0 ≤ ln ∧ ln ≤ 470 := by
  obtain ⟨t, fu, hc, hf, ht, h0, hE⟩ := hT sz.toInt.toNat (by omega) (by omega)
  have hct := hc.2.2.1
  omega
end RPs
theorem rkn_cong {f : Nat → Int32} {n m : Nat} {ow : Int64 → Bool} {row row' : Nat → Int64} {b b' : Nat} {c c' : Int} (h : ∀ w : Int64, fdx row b w c.toNat = fdx row' b' w c'.toNat) (t : Nat) : rkn f n m ow row b c t = rkn f n m ow row' b' c' t := by
  unfold rkn fKn
  rw [h]
theorem RX_cong {f : Nat → Int32} {n m : Nat} {ow : Int64 → Bool} {nr nr' : Nat → Int64} {nb nb' : Nat} {nc nc' : Int} {sr sr' : Nat → Int64} {sb sb' : Nat} {sc sc' : Int} (h1 : ∀ w : Int64, fdx nr nb w nc.toNat = fdx nr' nb' w nc'.toNat) (h2 : ∀ w : Int64, fdx sr sb w sc.toNat = fdx sr' sb' w sc'.toNat) : ∀ (k : Nat) (o : Int) (t : Nat), RZX f n m ow nr nb nc sr sb sc k o t = RZX f n m ow nr' nb' nc' sr' sb' sc' k o t := by
  have hl : ∀ (o : Int) (t : Nat), rll f n m ow nr nb nc sr sb sc o t = rll f n m ow nr' nb' nc' sr' sb' sc' o t := by
    intro o t
    have e1 : fKn f n m ow sr sb sc t = fKn f n m ow sr' sb' sc' t := by unfold fKn; rw [h2]
    have e2 : ∀ t : Nat, rld f n m ow nr nb nc sr sb sc t = rld f n m ow nr' nb' nc' sr' sb' sc' t := by
      intro t
      unfold rld
      rw [rkn_cong h1, rkn_cong h2]
    unfold rll
    rw [e1, e2]
  intro k
  induction k with
  | zero => intro o t; rfl
  | succ k ih =>
    intro o t
    show (if sK f n m t = 0 then (0, 0) else match rll f n m ow nr nb nc sr sb sc o t with
      | .inl e => e
      | .inr t' => if sK f n m t' = 3 ∧ sG f n m t' = 59 then RZX f n m ow nr nb nc sr sb sc k (o + 1) (sX f n m t') else (1, (sPn f n m t' : Int))) = (if sK f n m t = 0 then (0, 0) else match rll f n m ow nr' nb' nc' sr' sb' sc' o t with
      | .inl e => e
      | .inr t' => if sK f n m t' = 3 ∧ sG f n m t' = 59 then RZX f n m ow nr' nb' nc' sr' sb' sc' k (o + 1) (sX f n m t') else (1, (sPn f n m t' : Int)))
    rw [hl o t]
    split
    · rfl
    · split
      · rfl
      · rw [ih]
/-- the reference's number of what a SOUL does -/
def RWJ (k : Int) (w : Int64) (l : Int) : Prop :=
  (l = 0 ∧ k = 1 ∧ w = 0x74616b6573) ∨ (l = 1 ∧ k = 1 ∧ w = 0x7377617073) ∨ (l = 2 ∧ k = 1 ∧ w = 0x73656c6c73) ∨ (l = 3 ∧ k = 1 ∧ w = 0x64696573) ∨ (l = 3 ∧ k = 1 ∧ w = 0x68616e6773) ∨ (l = 4 ∧ k = 1 ∧ w = 0x666c656573) ∨ (l = 5 ∧ k = 1 ∧ w = 0x70617973) ∨
  (l = -1 ∧ ¬ (k = 1 ∧ w = 0x74616b6573) ∧ ¬ (k = 1 ∧ w = 0x7377617073) ∧ ¬ (k = 1 ∧ w = 0x73656c6c73) ∧ ¬ (k = 1 ∧ w = 0x64696573) ∧ ¬ (k = 1 ∧ w = 0x68616e6773) ∧ ¬ (k = 1 ∧ w = 0x666c656573) ∧ ¬ (k = 1 ∧ w = 0x70617973))
theorem il_eq {e p e' p' : Int} (h1 : e' = e) (h2 : p' = p) : (Sum.inl (e, p) : (Int × Int) ⊕ Nat) = .inl (e', p') := by rw [h1, h2]
/-! FAULTS of both sides -/
theorem OW_tq {q : Nat → Int64} {n sl n' sl' : Int32} {nw sw nw' sw' : Nat → Int64} {wr wr' : Nat → Int32} (h : ∀ j : Nat, (j : Int) < sl.toInt → ownB q (sw j) = false) (hC : TQ n' sl' nw' sw' wr' n sl nw sw wr) (h9 : sl.toInt ≤ 9) : ∀ j : Nat, (j : Int) < sl'.toInt → ownB q (sw' j) = false := by
  obtain ⟨c1, c2, c3, c4, c5⟩ := hC
  subst c2
  intro j hj
  rw [c4 j (by omega)]
  exact h j hj
theorem town_ow {f : Nat → Int32} {q : Nat → Int64} {len r n sl n' sl' lf : Int32} {nw sw nw' sw' : Nat → Int64} {wr wr' : Nat → Int32} (h0 : 0 ≤ len.toInt ∧ len.toInt ≤ 940) (hO : ∀ j : Nat, (j : Int) < sl.toInt → ownB q (sw j) = false) (h9 : sl.toInt ≤ 9)
    (h1 : ∀ (m : Nat) (H0 : Nat → Int) (N0 : Nat → Int64), len.toInt = (m : Int) → m ≤ 940 → HZ H0 → r.toInt = (TL0 (trn f m) m (ownB q) H0 N0).1 ∧ (0 ≤ r.toInt → ∃ (L e : Int) (H : Nat → Int) (N : Nat → Int64), TL0 (trn f m) m (ownB q) H0 N0 = (L, e, H, N) ∧ TD (ownB q) n' sl' nw' sw' wr' H N) ∧ (r.toInt < 0 → TQ n' sl' nw' sw' wr' n sl nw sw wr) ∧ lf.toInt = (TL0 (trn f m) m (ownB q) H0 N0).2.1) : ∀ j : Nat, (j : Int) < sl'.toInt → ownB q (sw' j) = false := by
  obtain ⟨a1, a2, a3, a4⟩ := h1 len.toInt.toNat (fun _ => 0) (fun _ => 0) (by omega) (by omega) (fun _ _ => rfl)
  by_cases c : 0 ≤ r.toInt
  · obtain ⟨L, e, H, N, e1, d1, d2, d3, d4, d5, d6, d7, d8⟩ := a2 c
    exact fun j hj => d8 j (by omega)
  · exact OW_tq hO (a3 (by omega)) h9
theorem town_lf {f g : Nat → Int32} {q q' nm : Nat → Int64} {len len2 lf lf2 : Int32} {A : Nat → (Nat → Int) → (Nat → Int64) → Prop} {B C : Nat → (Nat → Int) → (Nat → Int64) → Prop} {A' B' C' : Nat → (Nat → Int) → Prop} (hl : len.toInt = len2.toInt) (h0 : 0 ≤ len.toInt ∧ len.toInt ≤ 940) (ht : tpe f g len.toInt) (ho : ∀ j : Nat, j < 27 → q j = q' j)
    (h1 : ∀ (m : Nat) (H0 : Nat → Int) (N0 : Nat → Int64), len.toInt = (m : Int) → m ≤ 940 → HZ H0 → A m H0 N0 ∧ B m H0 N0 ∧ C m H0 N0 ∧ lf.toInt = (TL0 (trn f m) m (ownB q) H0 N0).2.1)
    (h2 : ∃ H0 : Nat → Int, HZ H0 ∧ ∀ m : Nat, len2.toInt = (m : Int) → m ≤ 940 → A' m H0 ∧ B' m H0 ∧ C' m H0 ∧ lf2.toInt = (TL0 (trn g m) m (ownB q') H0 nm).2.1) : lf.toInt = lf2.toInt := by
  obtain ⟨H0, hz, h2⟩ := h2
  have a := (h1 len.toInt.toNat H0 nm (by omega) (by omega) hz).2.2.2
  have b := (h2 len.toInt.toNat (by omega) (by omega)).2.2.2
  rw [a, b, ownB_cong ho, trn_eq (f := f) (f' := g) (n := len.toInt.toNat) (fun j hj => ht j (by omega))]
theorem roll_lf {f g : Nat → Int32} {q q' nw sw nm : Nat → Int64} {len len2 lf lf2 n sl : Int32} {wr s : Nat → Int32} (hl : len.toInt = len2.toInt) (h0 : 0 ≤ len.toInt ∧ len.toInt ≤ 940) (ht : tpe f g len.toInt) (ho : ∀ j : Nat, j < 27 → q j = q' j) (hT : TT n sl nw sw wr s 0 nm 0) (hn : 0 ≤ n.toInt ∧ 0 ≤ sl.toInt)
    (h1 : ∀ m : Nat, len.toInt = (m : Int) → m ≤ 940 → (RZ0 (trn f m) m (ownB q) nw 0 n.toInt sw 0 sl.toInt).1 = lf.toInt)
    (h2 : ∀ m : Nat, len2.toInt = (m : Int) → m ≤ 940 → (RZ0 (trn g m) m (ownB q') nm 0 (s 0).toInt nm 9 (s 1).toInt).1 = lf2.toInt) : lf.toInt = lf2.toInt := by
  obtain ⟨t1, t2, t3, t4, t5⟩ := hT
  rw [Nat.zero_add] at t2
  rw [← h1 len.toInt.toNat (by omega) (by omega), ← h2 len.toInt.toNat (by omega) (by omega), ownB_cong ho, trn_eq (f := f) (f' := g) (n := len.toInt.toNat) (fun j hj => ht j (by omega))]
  refine congrArg Prod.fst (RX_cong (fun w => ?_) (fun w => ?_) _ _ _)
  · rw [← t1]
    exact fdx_cong _ (fun j hj => by rw [t3 (0 + j) (by omega)]; congr 1; omega)
  · rw [← t2]
    exact fdx_cong _ (fun j hj => by rw [t4 (0 + j) (by omega)]; congr 1; omega)
theorem sen_lf {f g : Nat → Int32} {q q' nw nm : Nat → Int64} {len len2 lf lf2 n sl : Int32} {sw : Nat → Int64} {wr s : Nat → Int32} (hl : len.toInt = len2.toInt) (h0 : 0 ≤ len.toInt ∧ len.toInt ≤ 940) (ht : tpe f g len.toInt) (ho : ∀ j : Nat, j < 27 → q j = q' j) (hT : TT n sl nw sw wr s 0 nm 0) (hn : 0 ≤ n.toInt)
    (h1 : ∀ m : Nat, len.toInt = (m : Int) → m ≤ 940 → (SR0 (trn f m) m (ownB q) nw n.toInt).1 = lf.toInt)
    (h2 : ∀ m : Nat, len2.toInt = (m : Int) → m ≤ 940 → (SR0 (trn g m) m (ownB q') nm (s 0).toInt).1 = lf2.toInt) : lf.toInt = lf2.toInt := by
  obtain ⟨t1, t2, t3, t4, t5⟩ := hT
  rw [← h1 len.toInt.toNat (by omega) (by omega), ← h2 len.toInt.toNat (by omega) (by omega), ownB_cong ho, trn_eq (f := f) (f' := g) (n := len.toInt.toNat) (fun j hj => ht j (by omega))]
  refine congrArg Prod.fst (SR_cong (fun w => ?_) _ _ _ _ _)
  rw [← t1]
  exact fdx_cong _ (fun j hj => by rw [t3 (0 + j) (by omega)]; congr 1; omega)
