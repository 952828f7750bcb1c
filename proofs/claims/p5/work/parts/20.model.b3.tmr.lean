theorem TM_room {f : Nat → Int32} {ow : Int64 → Bool} {H0 : Nat → Int} {N0 : Nat → Int64} {sz lim k pl e nu on ln : Int32} {w : Int64} {h : Nat → Int32} {nm : Nat → Int64} (hT : TM f ow H0 N0 sz lim k pl e w nu h nm on ln) (hs : 0 ≤ sz.toInt ∧ sz.toInt ≤ 940) : 0 ≤ ln.toInt ∧ ln.toInt ≤ 470 := by
  obtain ⟨t, fu, hc, hf, ht, h0, hE⟩ := hT sz.toInt.toNat (by omega) (by omega)
  have hct := hc.2.2.1
  omega
