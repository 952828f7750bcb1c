/-! the class's own WORDS, as its texts tell them -/
def kC (l : List Int32) (c : Nat) : Nat → Nat
  | 0 => c
  | i + 1 => if l.getD i 0 = 32 then kC l c i + 1 else kC l c i
def kP (l : List Int32) : Nat → Int64
  | 0 => 0
  | i + 1 => if l.getD i 0 = 32 then 0 else (kP l i <<< ((8 : Int32).toInt64 &&& 63)) ||| (l.getD i 0).toInt64
def kF (l : List Int32) (c : Nat) (f : Nat → Int64) : Nat → Nat → Int64
  | 0 => f
  | i + 1 => if l.getD i 0 = 32 then vp_updL (kF l c f i) (kC l c i) (kP l i) else kF l c f i
theorem k_32 {r x : Int32} (hr : r = x) (hc : r.toInt = 32) : x = 32 := by
  rw [← hr]
  exact Int32.toInt_inj.mp (hc.trans (by decide))
theorem k_n32 {r x : Int32} (hr : r = x) (hc : ¬ r.toInt = 32) : ¬ x = 32 := fun e => hc (by rw [hr, e]; decide)
theorem kP_b {l : List Int32} {i i' r : Int32} (hc : r.toInt = 32) (hr : r = l.getD i.toInt.toNat 0) (h0 : 0 ≤ i.toInt) (h1 : i'.toInt = i.toInt + 1) : (0 : Int64) = kP l i'.toInt.toNat := by
  rw [show i'.toInt.toNat = i.toInt.toNat + 1 by omega]
  exact (if_pos (k_32 hr hc)).symm
theorem kP_l {l : List Int32} {w : Int64} {i i' r r2 : Int32} (hc : ¬ r.toInt = 32) (hr : r = l.getD i.toInt.toNat 0) (h0 : 0 ≤ i.toInt) (h1 : i'.toInt = i.toInt + 1) (hw : w = kP l i.toInt.toNat) (hr2 : r2 = l.getD i.toInt.toNat 0) : (w <<< ((8 : Int32).toInt64 &&& 63)) ||| r2.toInt64 = kP l i'.toInt.toNat := by
  rw [show i'.toInt.toNat = i.toInt.toNat + 1 by omega, hw, hr2]
  exact (if_neg (k_n32 hr hc)).symm
theorem kC_b {l : List Int32} {c : Nat} {i i' r n n' : Int32} (hc : r.toInt = 32) (hr : r = l.getD i.toInt.toNat 0) (h0 : 0 ≤ i.toInt) (h1 : i'.toInt = i.toInt + 1) (hn : n.toInt = ((kC l c i.toInt.toNat : Nat) : Int)) (hn' : n'.toInt = n.toInt + 1) : n'.toInt = ((kC l c i'.toInt.toNat : Nat) : Int) := by
  have e : kC l c (i.toInt.toNat + 1) = kC l c i.toInt.toNat + 1 := if_pos (k_32 hr hc)
  rw [show i'.toInt.toNat = i.toInt.toNat + 1 by omega, e]
  omega
theorem kC_l {l : List Int32} {c : Nat} {i i' r n : Int32} (hc : ¬ r.toInt = 32) (hr : r = l.getD i.toInt.toNat 0) (h0 : 0 ≤ i.toInt) (h1 : i'.toInt = i.toInt + 1) (hn : n.toInt = ((kC l c i.toInt.toNat : Nat) : Int)) : n.toInt = ((kC l c i'.toInt.toNat : Nat) : Int) := by
  have e : kC l c (i.toInt.toNat + 1) = kC l c i.toInt.toNat := if_neg (k_n32 hr hc)
  rw [show i'.toInt.toNat = i.toInt.toNat + 1 by omega, e]
  exact hn
theorem kF_b {l : List Int32} {c : Nat} {f g : Nat → Int64} {w : Int64} {i i' r n : Int32} (hc : r.toInt = 32) (hr : r = l.getD i.toInt.toNat 0) (h0 : 0 ≤ i.toInt) (h1 : i'.toInt = i.toInt + 1) (hn : n.toInt = ((kC l c i.toInt.toNat : Nat) : Int)) (hw : w = kP l i.toInt.toNat) (hg : g = kF l c f i.toInt.toNat) : vp_updL g n.toNatClampNeg w = kF l c f i'.toInt.toNat := by
  rw [show i'.toInt.toNat = i.toInt.toNat + 1 by omega, hg, hw, show n.toNatClampNeg = kC l c i.toInt.toNat from (show n.toInt.toNat = _ by omega)]
  exact (if_pos (k_32 hr hc)).symm
theorem kF_l {l : List Int32} {c : Nat} {f g : Nat → Int64} {i i' r : Int32} (hc : ¬ r.toInt = 32) (hr : r = l.getD i.toInt.toNat 0) (h0 : 0 ≤ i.toInt) (h1 : i'.toInt = i.toInt + 1) (hg : g = kF l c f i.toInt.toNat) : g = kF l c f i'.toInt.toNat := by
  rw [show i'.toInt.toNat = i.toInt.toNat + 1 by omega, hg]
  exact (if_neg (k_n32 hr hc)).symm
theorem kx_0 : ∀ i, i < 43 → kC (sBy.getD 0 []) 0 i < 27 := by decide +kernel
theorem ky_0 : kC (sBy.getD 0 []) 0 43 = 8 := by decide +kernel
theorem kx_1 : ∀ i, i < 47 → kC (sBy.getD 1 []) 8 i < 27 := by decide +kernel
theorem ky_1 : kC (sBy.getD 1 []) 8 47 = 16 := by decide +kernel
theorem kx_2 : ∀ i, i < 58 → kC (sBy.getD 2 []) 16 i < 27 := by decide +kernel
theorem ky_2 : kC (sBy.getD 2 []) 16 58 = 27 := by decide +kernel
def ow0 : Nat → Int64 := fun _ => 0
def ow1 : Nat → Int64 := kF (sBy.getD 0 []) 0 ow0 43
def ow2 : Nat → Int64 := kF (sBy.getD 1 []) 8 ow1 47
def ow3 : Nat → Int64 := kF (sBy.getD 2 []) 16 ow2 58
def rv0 : Nat → Int64 := fun _ => 0
def rv1 : Nat → Int64 := vp_updL rv0 (0 : Int32).toNatClampNeg (1851878757 : Int64)
def rv2 : Nat → Int64 := vp_updL rv1 (1 : Int32).toNatClampNeg (1684365940 : Int64)
def rv3 : Nat → Int64 := vp_updL rv2 (2 : Int32).toNatClampNeg (439787549556 : Int64)
def rv4 : Nat → Int64 := vp_updL rv3 (3 : Int32).toNatClampNeg (1936684396 : Int64)
def rv5 : Nat → Int64 := vp_updL rv4 (4 : Int32).toNatClampNeg (109270082020708 : Int64)
def rv6 : Nat → Int64 := vp_updL rv5 (5 : Int32).toNatClampNeg (2003399528 : Int64)
def rv7 : Nat → Int64 := vp_updL rv6 (6 : Int32).toNatClampNeg (512970880104 : Int64)
def rv8 : Nat → Int64 := vp_updL rv7 (7 : Int32).toNatClampNeg (7302244 : Int64)
def rv9 : Nat → Int64 := vp_updL rv8 (8 : Int32).toNatClampNeg (499850634611 : Int64)
def rv10 : Nat → Int64 := vp_updL rv9 (9 : Int32).toNatClampNeg (495924113523 : Int64)
def rv11 : Nat → Int64 := vp_updL rv10 (10 : Int32).toNatClampNeg (495622843507 : Int64)
def rv12 : Nat → Int64 := vp_updL rv11 (11 : Int32).toNatClampNeg (1684628851 : Int64)
def rv13 : Nat → Int64 := vp_updL rv12 (12 : Int32).toNatClampNeg (448311224179 : Int64)
def rv14 : Nat → Int64 := vp_updL rv13 (13 : Int32).toNatClampNeg (439905248627 : Int64)
def rv15 : Nat → Int64 := vp_updL rv14 (14 : Int32).toNatClampNeg (1885436275 : Int64)
def rv16 : Nat → Int64 := vp_updL rv15 (15 : Int32).toNatClampNeg (120325360869753 : Int64)
def rv17 : Nat → Int64 := vp_updL rv16 (16 : Int32).toNatClampNeg (28530 : Int64)
def rv18 : Nat → Int64 := vp_updL rv17 (17 : Int32).toNatClampNeg (6385252 : Int64)
def rv19 : Nat → Int64 := vp_updL rv18 (18 : Int32).toNatClampNeg (7237492 : Int64)
def rv20 : Nat → Int64 := vp_updL rv19 (19 : Int32).toNatClampNeg (418430678629 : Int64)
def rv21 : Nat → Int64 := vp_updL rv20 (20 : Int32).toNatClampNeg (512735409267 : Int64)
def rv22 : Nat → Int64 := vp_updL rv21 (21 : Int32).toNatClampNeg (1718379876 : Int64)
def rv23 : Nat → Int64 := vp_updL rv22 (22 : Int32).toNatClampNeg (1735156068 : Int64)
def rv24 : Nat → Int64 := vp_updL rv23 (23 : Int32).toNatClampNeg (483006772069 : Int64)
def rv25 : Nat → Int64 := vp_updL rv24 (24 : Int32).toNatClampNeg (1870095731 : Int64)
def rv26 : Nat → Int64 := vp_updL rv25 (25 : Int32).toNatClampNeg (112585612686451 : Int64)
def rv27 : Nat → Int64 := vp_updL rv26 (26 : Int32).toNatClampNeg (121450625394034 : Int64)
theorem own_eq : ∀ j : Nat, j < 27 → ow3 j = rv27 j := by decide +kernel
