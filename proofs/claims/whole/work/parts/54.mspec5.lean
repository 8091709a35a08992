/-! the reference: the text -/
def ga (μ : Mo) (a : Nat) (i : Int32) : Int32 := μ.2 a i.toNatClampNeg
def setA (μ : Mo) (a : Nat) (i v : Int32) : Mo := mar μ a (upd (μ.2 a) i.toNatClampNeg v)
section JA
variable {p : Program} {l : Launch} {e : Env} {R : Room} {s : State} {m : MethodId} {args : Array Value} {below : List Frame} {meth : Method} {c : Code} {cc : ByteArray} {nL : Nat} {own : String} {D : DD} {B : Nat} {Q : State → Prop} {cells slots z : Nat} {h : HF} {L : List (Nat × Value)} {rest : List Value} {pc : Nat}
theorem j_ldA4 (X : Cx p s m args meth c cc nL own D B) {b : Nat} {μ : Mo} {i : Int32} (hin : vp_in i 320) (d : decode cc pc = .ok (.iaload, 1)) (kk : J p l e R s m args below meth c D B nL Q cells slots z (mput D h b μ) L (.int (ga μ 4 i) :: rest) (pc + 1)) : J p l e R s m args below meth c D B nL Q cells slots z (mput D h b μ) L (.int i :: .ref (b + 5) :: rest) pc :=
  j_iald X (mput_k 5 (by decide)) rfl hin d kk
theorem j_stA4 (X : Cx p s m args meth c cc nL own D B) {b : Nat} {μ : Mo} {i v : Int32} (hin : vp_in i 320) (d : decode cc pc = .ok (.iastore, 1)) (kk : J p l e R s m args below meth c D B nL Q cells slots z (mput D h b (setA μ 4 i v)) L rest (pc + 1)) : J p l e R s m args below meth c D B nL Q cells slots z (mput D h b μ) L (.int v :: .int i :: .ref (b + 5) :: rest) pc :=
  j_iast X (mput_k 5 (by decide)) rfl hin d (j_heap mput_a4 kk)
theorem j_ldA6 (X : Cx p s m args meth c cc nL own D B) {b : Nat} {μ : Mo} {i : Int32} (hin : vp_in i 56) (d : decode cc pc = .ok (.iaload, 1)) (kk : J p l e R s m args below meth c D B nL Q cells slots z (mput D h b μ) L (.int (ga μ 6 i) :: rest) (pc + 1)) : J p l e R s m args below meth c D B nL Q cells slots z (mput D h b μ) L (.int i :: .ref (b + 7) :: rest) pc :=
  j_iald X (mput_k 7 (by decide)) rfl hin d kk
theorem j_stA6 (X : Cx p s m args meth c cc nL own D B) {b : Nat} {μ : Mo} {i v : Int32} (hin : vp_in i 56) (d : decode cc pc = .ok (.iastore, 1)) (kk : J p l e R s m args below meth c D B nL Q cells slots z (mput D h b (setA μ 6 i v)) L rest (pc + 1)) : J p l e R s m args below meth c D B nL Q cells slots z (mput D h b μ) L (.int v :: .int i :: .ref (b + 7) :: rest) pc :=
  j_iast X (mput_k 7 (by decide)) rfl hin d (j_heap mput_a6 kk)
end JA
def TXv (μ : Mo) : Prop := ∃ m a : Nat, a ≤ m ∧ m ≤ 70 ∧ μ.1 4 = nI m ∧ μ.1 5 = nI a
theorem tx_in {μ : Mo} (h : TXv μ) (c : μ.1 5 < μ.1 4) : vp_in (μ.1 5) 70 := by
  obtain ⟨m, a, h1, h2, e1, e2⟩ := h
  rw [e1, e2, nI_ltI (by omega) (by omega)] at c
  rw [e2]; exact vp_in_nI (by omega) (by decide)
theorem tx_in2 {μ : Mo} (h : TXv μ) (c : ¬ μ.1 5 = μ.1 4) : vp_in (μ.1 5) 70 := by
  obtain ⟨m, a, h1, h2, e1, e2⟩ := h
  rw [e1, e2, nI_eq (by omega) (by omega)] at c
  rw [e2]; exact vp_in_nI (by omega) (by decide)
theorem tx_step {μ : Mo} (h : TXv μ) (c : μ.1 5 < μ.1 4) : TXv (msc μ 5 (μ.1 5 + 1)) := by
  obtain ⟨m, a, h1, h2, e1, e2⟩ := h
  have c' := c
  rw [e1, e2, nI_ltI (by omega) (by omega)] at c'
  refine ⟨m, a + 1, c', h2, e1, ?_⟩
  show μ.1 5 + 1 = _
  rw [e2, nI_succ]
def mTakes (μ : Mo) (c : Int32) : Int32 × Mo := if μ.1 5 < μ.1 4 then (if μ.2 5 (μ.1 5).toNatClampNeg = c then (1, msc μ 5 (μ.1 5 + 1)) else (0, μ)) else (0, μ)
def mDigit (μ : Mo) (lo hi : Int32) : Int32 × Mo :=
  if μ.1 5 < μ.1 4 then (if mIn (μ.2 5 (μ.1 5).toNatClampNeg) (48 + lo) (48 + hi) = 0 then (-4, μ) else (μ.2 5 (μ.1 5 + 1 - 1).toNatClampNeg - 48, msc μ 5 (μ.1 5 + 1))) else (-4, μ)
def mAddr (μ : Mo) : Int32 × Mo :=
  if (mDigit μ 1 9).1 = -4 then (-4, (mDigit μ 1 9).2) else if (mDigit (mDigit μ 1 9).2 0 9).1 = -4 then ((mDigit μ 1 9).1, (mDigit (mDigit μ 1 9).2 0 9).2) else (10 * (mDigit μ 1 9).1 + (mDigit (mDigit μ 1 9).2 0 9).1, (mDigit (mDigit μ 1 9).2 0 9).2)
theorem tx_takes {μ : Mo} {c : Int32} (h : TXv μ) : TXv (mTakes μ c).2 := by
  unfold mTakes
  by_cases c1 : μ.1 5 < μ.1 4
  · rw [if_pos c1]
    by_cases c2 : μ.2 5 (μ.1 5).toNatClampNeg = c
    · rw [if_pos c2]; exact tx_step h c1
    · rw [if_neg c2]; exact h
  · rw [if_neg c1]; exact h
theorem tx_digit {μ : Mo} {lo hi : Int32} (h : TXv μ) : TXv (mDigit μ lo hi).2 := by
  unfold mDigit
  by_cases c1 : μ.1 5 < μ.1 4
  · rw [if_pos c1]
    by_cases c2 : mIn (μ.2 5 (μ.1 5).toNatClampNeg) (48 + lo) (48 + hi) = 0
    · rw [if_pos c2]; exact h
    · rw [if_neg c2]; exact tx_step h c1
  · rw [if_neg c1]; exact h
theorem tx_addr {μ : Mo} (h : TXv μ) : TXv (mAddr μ).2 := by
  have h1 := tx_digit (lo := 1) (hi := 9) h
  have h2 := tx_digit (lo := 0) (hi := 9) h1
  unfold mAddr
  generalize mDigit μ 1 9 = T1 at *
  generalize mDigit T1.2 0 9 = T2 at *
  by_cases c1 : T1.1 = -4
  · rw [if_pos c1]; exact h1
  rw [if_neg c1]
  by_cases c2 : T2.1 = -4
  · rw [if_pos c2]; exact h2
  · rw [if_neg c2]; exact h2
theorem tx_setA {μ : Mo} {a : Nat} {i v : Int32} (h : TXv μ) : TXv (setA μ a i v) := h
theorem tx_msc6 {μ : Mo} {v : Int32} (h : TXv μ) : TXv (msc μ 6 v) := h
theorem in_rf {x : Int32} (j : Nat) (hj : j < 4) (hR : ∃ r : Nat, r ≤ 12 ∧ x = nI r) : vp_in (4 * x + nI j) 56 := by
  obtain ⟨r, hr, rfl⟩ := hR
  rw [show (4 : Int32) = nI 4 from rfl, pk_mul, nI_add]; exact vp_in_nI (by omega) (by decide)
theorem in_rf0 {x : Int32} (hR : ∃ r : Nat, r ≤ 12 ∧ x = nI r) : vp_in (4 * x) 56 := by
  obtain ⟨r, hr, rfl⟩ := hR
  rw [show (4 : Int32) = nI 4 from rfl, pk_mul]; exact vp_in_nI (by omega) (by decide)
def mR6 (ρ : Mo) : Int32 × Mo := if ρ.1 5 = ρ.1 4 then (1, ρ) else if ρ.2 5 (ρ.1 5).toNatClampNeg = 59 then (1, ρ) else (0, ρ)
def mR5 (ν : Mo) (c : Int32) : Int32 × Mo :=
  if ga (setA (mDigit ν 0 7).2 6 (c + 3) (mDigit ν 0 7).1) 6 (c + 3) = -4 then (0, setA (mDigit ν 0 7).2 6 (c + 3) (mDigit ν 0 7).1)
  else mR6 (msc (setA (mDigit ν 0 7).2 6 (c + 3) (mDigit ν 0 7).1) 6 ((setA (mDigit ν 0 7).2 6 (c + 3) (mDigit ν 0 7).1).1 6 + 1))
def mR4 (ν : Mo) (c : Int32) : Int32 × Mo := if ga ν 6 (c + 2) = -4 then (0, ν) else if (mTakes ν 64).1 = 0 then (0, (mTakes ν 64).2) else mR5 (mTakes ν 64).2 c
def mR3 (ν : Mo) (c : Int32) : Int32 × Mo :=
  if ga ν 6 (c + 1) = -4 then (0, ν) else if (mTakes ν 33).1 = 0 then mR4 (setA (mTakes ν 33).2 6 (c + 2) 0) c else mR4 (setA (mDigit (mTakes ν 33).2 0 3).2 6 (c + 2) (mDigit (mTakes ν 33).2 0 3).1) c
def mR2 (ν : Mo) (c : Int32) : Int32 × Mo := if (mTakes ν 42).1 = 0 then mR3 (setA (mAddr (mTakes ν 42).2).2 6 (c + 1) (mAddr (mTakes ν 42).2).1) c else mR3 (setA (mTakes ν 42).2 6 (c + 1) 0) c
def mR1 (ν : Mo) (c : Int32) : Int32 × Mo := if ga ν 6 c = -4 then (0, ν) else if (mTakes ν 62).1 = 0 then (0, (mTakes ν 62).2) else mR2 (mTakes ν 62).2 c
def mReads (μ : Mo) : Int32 × Mo := mR1 (setA (mAddr μ).2 6 (4 * μ.1 6) (mAddr μ).1) (4 * μ.1 6)
