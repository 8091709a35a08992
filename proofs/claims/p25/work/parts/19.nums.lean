theorem nlt_lit {k b : Nat} (h : k < b) (hb : b < 2147483648) : nI k < (OfNat.ofNat b : Int32) := nI_lt h hb
theorem nle_lit {k b : Nat} (h : k ≤ b) (hb : b < 2147483648) : ¬ (OfNat.ofNat b : Int32) < nI k := nI_nlt h (by omega)
theorem hupd_hupd {h : HF} {a : Nat} {x y : va_E} : hupd (hupd h a x) a y = hupd h a y := by
  funext q
  unfold hupd
  by_cases c : q = a
  · rw [if_pos c, if_pos c]
  · rw [if_neg c, if_neg c, if_neg c]
theorem fb_rng' (x : Int32) : -2147483648 ≤ x.toInt ∧ x.toInt < 2147483648 := ⟨Int32.le_toInt x, Int32.toInt_lt x⟩
