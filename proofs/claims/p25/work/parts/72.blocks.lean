/-! a block of cells that is being made: the object at b, n cells behind it -/
def gB (cf : Nat → va_E) (h : HF) (b n : Nat) : HF := fun q => if b ≤ q ∧ q < b + n then some (cf (q - b)) else h q
def gP (cf : Nat → va_E) (h : HF) (b : Nat) (o : va_E) (n : Nat) : HF := fun q => if q = b then some o else if b < q ∧ q ≤ b + n then some (cf (q - b)) else h q
theorem gP_b {cf : Nat → va_E} {h : HF} {b n : Nat} {o : va_E} : gP cf h b o n b = some o := if_pos rfl
theorem gP_0 {cf : Nat → va_E} {h : HF} {b : Nat} {o : va_E} (hb : h b = some o) : h = gP cf h b o 0 := by
  funext q
  unfold gP
  by_cases c : q = b
  · rw [if_pos c, c, hb]
  · rw [if_neg c, if_neg (by omega)]
/-- one more cell -/
theorem gP_s {cf : Nat → va_E} {h : HF} {b n z : Nat} {o o' x : va_E} (hz : z = b + n + 1) (hx : x = cf (n + 1)) : hupd (hupd (gP cf h b o n) z x) b o' = gP cf h b o' (n + 1) := by
  subst hz hx
  funext q
  by_cases c : q = b
  · subst c; rw [hupd_same, gP_b]
  rw [hupd_ne c]
  by_cases c2 : q = b + n + 1
  · subst c2
    rw [hupd_same]
    unfold gP
    rw [if_neg c, if_pos (by omega), show b + n + 1 - b = n + 1 by omega]
  · rw [hupd_ne c2]
    unfold gP
    rw [if_neg c, if_neg c]
    by_cases c3 : b < q ∧ q ≤ b + n
    · rw [if_pos c3, if_pos (by omega)]
    · rw [if_neg c3, if_neg (by omega)]
/-- one more block -/
theorem gP_c {cf cc : Nat → va_E} {h : HF} {b n m z : Nat} {o o' x : va_E} (hz : z = b + n + 1) (hc : ∀ j, j < m → cc j = cf (n + 1 + j)) (hm : 0 < m) : hupd (gB cc (hupd (gP cf h b o n) z x) z m) b o' = gP cf h b o' (n + m) := by
  subst hz
  funext q
  by_cases c : q = b
  · subst c; rw [hupd_same, gP_b]
  rw [hupd_ne c]
  unfold gB
  by_cases c2 : b + n + 1 ≤ q ∧ q < b + n + 1 + m
  · rw [if_pos c2, hc _ (by omega)]
    unfold gP
    rw [if_neg c, if_pos (by omega), show n + 1 + (q - (b + n + 1)) = q - b by omega]
  · rw [if_neg c2, hupd_ne (by omega)]
    unfold gP
    rw [if_neg c, if_neg c]
    by_cases c3 : b < q ∧ q ≤ b + n
    · rw [if_pos c3, if_pos (by omega)]
    · rw [if_neg c3, if_neg (by omega)]
theorem gP_e {cf : Nat → va_E} {h : HF} {b n : Nat} {o : va_E} (ho : o = cf 0) : gP cf h b o n = gB cf h b (n + 1) := by
  subst ho
  funext q
  unfold gP gB
  by_cases c : q = b
  · subst c; rw [if_pos rfl, if_pos (by omega), Nat.sub_self]
  rw [if_neg c]
  by_cases c3 : b < q ∧ q ≤ b + n
  · rw [if_pos c3, if_pos (by omega)]
  · rw [if_neg c3, if_neg (by omega)]
theorem gB_hput {D : DD} {h : HF} {a : Nat} {σ : St} : gB (stCell D a σ) h a 29 = hput D h a σ := rfl
def rowC (D : DD) (r N : Nat) : Nat → va_E
  | 0 => rowE (r + 1)
  | _ => arrE D N (fun _ => 0)
theorem gB_row {D : DD} {h : HF} {r N : Nat} : hupd (hupd h (r + 1) (arrE D N (fun _ => 0))) r (rowE (r + 1)) = gB (rowC D r N) h r 2 := by
  funext q
  unfold gB
  by_cases c : q = r
  · subst c; rw [hupd_same, if_pos (by omega), Nat.sub_self]; rfl
  rw [hupd_ne c]
  by_cases c2 : q = r + 1
  · subst c2; rw [hupd_same, if_pos (by omega), show r + 1 - r = 1 by omega]; rfl
  · rw [hupd_ne c2, if_neg (by omega)]
