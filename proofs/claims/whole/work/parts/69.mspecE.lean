/-! the reference is made -/
def mZ : Mo := (fun _ => 0, fun _ _ => 0)
def mI0 : Mo := setNow (setNow (setNow (setNow mZ 0 60) 1 30) 2 10) 3 4
def mI : Nat → Mo
  | 0 => mI0
  | k + 1 => mTo (mI k) (nI k) 0 1
def mP (D : DD) (h : HF) (b : Nat) (o : va_E) (n : Nat) : HF := fun q => if q = b then some o else if b < q ∧ q ≤ b + n then some (mCell D b mZ (q - b)) else h q
theorem mP_b {D : DD} {h : HF} {b n : Nat} {o : va_E} : mP D h b o n b = some o := if_pos rfl
theorem mP_0 {D : DD} {h : HF} {b : Nat} {o : va_E} (hb : h b = some o) : h = mP D h b o 0 := by
  funext q
  unfold mP
  by_cases c : q = b
  · rw [if_pos c, c, hb]
  · rw [if_neg c, if_neg (by omega)]
theorem mP_s {D : DD} {h : HF} {b n z : Nat} {o o' x : va_E} (hz : z = b + n + 1) (hx : x = mCell D b mZ (n + 1)) : hupd (hupd (mP D h b o n) z x) b o' = mP D h b o' (n + 1) := by
  subst hz hx
  funext q
  by_cases c : q = b
  · subst c; rw [hupd_same, mP_b]
  rw [hupd_ne c]
  by_cases c2 : q = b + n + 1
  · subst c2
    rw [hupd_same]
    unfold mP
    rw [if_neg c, if_pos (by omega), show b + n + 1 - b = n + 1 by omega]
  · rw [hupd_ne c2]
    unfold mP
    rw [if_neg c, if_neg c]
    by_cases c3 : b < q ∧ q ≤ b + n
    · rw [if_pos c3, if_pos (by omega)]
    · rw [if_neg c3, if_neg (by omega)]
theorem mP_end {D : DD} {h : HF} {b : Nat} : mP D h b (mCell D b mZ 0) 7 = mput D h b mZ := by
  funext q
  unfold mP mput
  by_cases c : q = b
  · subst c; rw [if_pos rfl, if_pos (by omega), Nat.sub_self]
  rw [if_neg c]
  by_cases c3 : b < q ∧ q ≤ b + 7
  · rw [if_pos c3, if_pos (by omega)]
  · rw [if_neg c3, if_neg (by omega)]
def mObj : va_E := .inr (10, [.null, .null, .int 0, .null, .int 0, .null, .int 0, .int 0, .null, .int 0, .null, .int 0, .int 0, .null])
