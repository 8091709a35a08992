/-! what a state of the class is: a State of it (29 cells from its address on), and the whole (211 cells) -/
abbrev St : Type := (Nat → Nat → Int32) × (Nat → Int32)
def rput (σ : St) (r : Nat) (f : Nat → Int32) : St := (fun i => if i = r then f else σ.1 i, σ.2)
def sput (σ : St) (j : Nat) (v : Int32) : St := (σ.1, fun i => if i = j then v else σ.2 i)
abbrev rowE (c : Nat) : va_E := .inr (5, [.ref c])
abbrev arrE (D : DD) (n : Nat) (f : Nat → Int32) : va_E := .inl (D.2.1.1, (n, .inl f))
abbrev chrE (D : DD) (n : Nat) (f : Nat → Int32) : va_E := .inl (D.2.1.2.1, (n, .inl f))
def stCell (D : DD) (a : Nat) (σ : St) : Nat → va_E
  | 0 => .inr (6, [.ref (a + 1), .ref (a + 3), .ref (a + 16), .ref (a + 21), .ref (a + 26), .int (σ.2 0), .int (σ.2 1), .int (σ.2 2)])
  | 1 => rowE (a + 2)
  | 2 => arrE D 4 (σ.1 0)
  | 3 => .inr (3, [.ref (a + 4), .ref (a + 6), .ref (a + 8), .ref (a + 10), .ref (a + 12), .ref (a + 14)])
  | 4 => rowE (a + 5)
  | 5 => arrE D 8 (σ.1 1)
  | 6 => rowE (a + 7)
  | 7 => arrE D 8 (σ.1 2)
  | 8 => rowE (a + 9)
  | 9 => arrE D 8 (σ.1 3)
  | 10 => rowE (a + 11)
  | 11 => arrE D 8 (σ.1 4)
  | 12 => rowE (a + 13)
  | 13 => arrE D 8 (σ.1 5)
  | 14 => rowE (a + 15)
  | 15 => arrE D 88 (σ.1 6)
  | 16 => .inr (4, [.ref (a + 17), .ref (a + 19)])
  | 17 => rowE (a + 18)
  | 18 => arrE D 8 (σ.1 7)
  | 19 => rowE (a + 20)
  | 20 => arrE D 384 (σ.1 8)
  | 21 => .inr (7, [.ref (a + 22), .ref (a + 24), .int (σ.2 3)])
  | 22 => rowE (a + 23)
  | 23 => arrE D 100 (σ.1 9)
  | 24 => rowE (a + 25)
  | 25 => arrE D 100 (σ.1 10)
  | 26 => .inr (2, [.ref (a + 27)])
  | 27 => rowE (a + 28)
  | _ => arrE D 1000 (σ.1 11)
def hput (D : DD) (h : HF) (a : Nat) (σ : St) : HF := fun q => if a ≤ q ∧ q < a + 29 then some (stCell D a σ (q - a)) else h q
theorem hput_k {D : DD} {h : HF} {a : Nat} {σ : St} (k : Nat) (hk : k < 29) : hput D h a σ (a + k) = some (stCell D a σ k) := by
  unfold hput
  rw [if_pos ⟨by omega, by omega⟩, Nat.add_sub_cancel_left]
theorem hput_0 {D : DD} {h : HF} {a : Nat} {σ : St} : hput D h a σ a = some (stCell D a σ 0) := hput_k 0 (by decide)
theorem hput_out {D : DD} {h : HF} {a q : Nat} {σ : St} (hq : q < a ∨ a + 29 ≤ q) : hput D h a σ q = h q := if_neg (by omega)
theorem hput_put {D : DD} {h : HF} {a : Nat} {σ τ : St} : hput D (hput D h a σ) a τ = hput D h a τ := by
  funext q
  unfold hput
  by_cases c : a ≤ q ∧ q < a + 29
  · rw [if_pos c, if_pos c]
  · rw [if_neg c, if_neg c, if_neg c]
theorem hput_set {D : DD} {h : HF} {a k : Nat} {σ τ : St} {x : va_E} (hk : k < 29) (e : stCell D a τ k = x) (ho : ∀ j, j < 29 → j ≠ k → stCell D a τ j = stCell D a σ j) : hupd (hput D h a σ) (a + k) x = hput D h a τ := by
  funext q
  by_cases c : q = a + k
  · rw [c, hupd_same, hput_k k hk, e]
  · rw [hupd_ne c]
    unfold hput
    by_cases c2 : a ≤ q ∧ q < a + 29
    · rw [if_pos c2, if_pos c2, ho (q - a) (by omega) (by omega)]
    · rw [if_neg c2, if_neg c2]
theorem lt29 {P : Nat → Prop} (h0 : P 0) (h1 : P 1) (h2 : P 2) (h3 : P 3) (h4 : P 4) (h5 : P 5) (h6 : P 6) (h7 : P 7) (h8 : P 8) (h9 : P 9) (h10 : P 10) (h11 : P 11) (h12 : P 12) (h13 : P 13) (h14 : P 14) (h15 : P 15) (h16 : P 16) (h17 : P 17) (h18 : P 18) (h19 : P 19) (h20 : P 20) (h21 : P 21) (h22 : P 22) (h23 : P 23) (h24 : P 24) (h25 : P 25) (h26 : P 26) (h27 : P 27) (h28 : P 28) : ∀ j, j < 29 → P j := by
  intro j hj
  have c : j = 0 ∨ j = 1 ∨ j = 2 ∨ j = 3 ∨ j = 4 ∨ j = 5 ∨ j = 6 ∨ j = 7 ∨ j = 8 ∨ j = 9 ∨ j = 10 ∨ j = 11 ∨ j = 12 ∨ j = 13 ∨ j = 14 ∨ j = 15 ∨ j = 16 ∨ j = 17 ∨ j = 18 ∨ j = 19 ∨ j = 20 ∨ j = 21 ∨ j = 22 ∨ j = 23 ∨ j = 24 ∨ j = 25 ∨ j = 26 ∨ j = 27 ∨ j = 28 := by omega
  rcases c with rfl | rfl | rfl | rfl | rfl | rfl | rfl | rfl | rfl | rfl | rfl | rfl | rfl | rfl | rfl | rfl | rfl | rfl | rfl | rfl | rfl | rfl | rfl | rfl | rfl | rfl | rfl | rfl | rfl <;> assumption
theorem hput_r0 {D : DD} {h : HF} {a : Nat} {σ : St} {f : Nat → Int32} : hupd (hput D h a σ) (a + 2) (arrE D 4 f) = hput D h a (rput σ 0 f) := hput_set (by decide) rfl (lt29 (P := fun j => j ≠ 2 → stCell D a _ j = stCell D a _ j) (fun _ => rfl) (fun _ => rfl) (fun n => absurd rfl n) (fun _ => rfl) (fun _ => rfl) (fun _ => rfl) (fun _ => rfl) (fun _ => rfl) (fun _ => rfl) (fun _ => rfl) (fun _ => rfl) (fun _ => rfl) (fun _ => rfl) (fun _ => rfl) (fun _ => rfl) (fun _ => rfl) (fun _ => rfl) (fun _ => rfl) (fun _ => rfl) (fun _ => rfl) (fun _ => rfl) (fun _ => rfl) (fun _ => rfl) (fun _ => rfl) (fun _ => rfl) (fun _ => rfl) (fun _ => rfl) (fun _ => rfl) (fun _ => rfl))
theorem hput_r1 {D : DD} {h : HF} {a : Nat} {σ : St} {f : Nat → Int32} : hupd (hput D h a σ) (a + 5) (arrE D 8 f) = hput D h a (rput σ 1 f) := hput_set (by decide) rfl (lt29 (P := fun j => j ≠ 5 → stCell D a _ j = stCell D a _ j) (fun _ => rfl) (fun _ => rfl) (fun _ => rfl) (fun _ => rfl) (fun _ => rfl) (fun n => absurd rfl n) (fun _ => rfl) (fun _ => rfl) (fun _ => rfl) (fun _ => rfl) (fun _ => rfl) (fun _ => rfl) (fun _ => rfl) (fun _ => rfl) (fun _ => rfl) (fun _ => rfl) (fun _ => rfl) (fun _ => rfl) (fun _ => rfl) (fun _ => rfl) (fun _ => rfl) (fun _ => rfl) (fun _ => rfl) (fun _ => rfl) (fun _ => rfl) (fun _ => rfl) (fun _ => rfl) (fun _ => rfl) (fun _ => rfl))
theorem hput_r2 {D : DD} {h : HF} {a : Nat} {σ : St} {f : Nat → Int32} : hupd (hput D h a σ) (a + 7) (arrE D 8 f) = hput D h a (rput σ 2 f) := hput_set (by decide) rfl (lt29 (P := fun j => j ≠ 7 → stCell D a _ j = stCell D a _ j) (fun _ => rfl) (fun _ => rfl) (fun _ => rfl) (fun _ => rfl) (fun _ => rfl) (fun _ => rfl) (fun _ => rfl) (fun n => absurd rfl n) (fun _ => rfl) (fun _ => rfl) (fun _ => rfl) (fun _ => rfl) (fun _ => rfl) (fun _ => rfl) (fun _ => rfl) (fun _ => rfl) (fun _ => rfl) (fun _ => rfl) (fun _ => rfl) (fun _ => rfl) (fun _ => rfl) (fun _ => rfl) (fun _ => rfl) (fun _ => rfl) (fun _ => rfl) (fun _ => rfl) (fun _ => rfl) (fun _ => rfl) (fun _ => rfl))
theorem hput_r3 {D : DD} {h : HF} {a : Nat} {σ : St} {f : Nat → Int32} : hupd (hput D h a σ) (a + 9) (arrE D 8 f) = hput D h a (rput σ 3 f) := hput_set (by decide) rfl (lt29 (P := fun j => j ≠ 9 → stCell D a _ j = stCell D a _ j) (fun _ => rfl) (fun _ => rfl) (fun _ => rfl) (fun _ => rfl) (fun _ => rfl) (fun _ => rfl) (fun _ => rfl) (fun _ => rfl) (fun _ => rfl) (fun n => absurd rfl n) (fun _ => rfl) (fun _ => rfl) (fun _ => rfl) (fun _ => rfl) (fun _ => rfl) (fun _ => rfl) (fun _ => rfl) (fun _ => rfl) (fun _ => rfl) (fun _ => rfl) (fun _ => rfl) (fun _ => rfl) (fun _ => rfl) (fun _ => rfl) (fun _ => rfl) (fun _ => rfl) (fun _ => rfl) (fun _ => rfl) (fun _ => rfl))
theorem hput_r4 {D : DD} {h : HF} {a : Nat} {σ : St} {f : Nat → Int32} : hupd (hput D h a σ) (a + 11) (arrE D 8 f) = hput D h a (rput σ 4 f) := hput_set (by decide) rfl (lt29 (P := fun j => j ≠ 11 → stCell D a _ j = stCell D a _ j) (fun _ => rfl) (fun _ => rfl) (fun _ => rfl) (fun _ => rfl) (fun _ => rfl) (fun _ => rfl) (fun _ => rfl) (fun _ => rfl) (fun _ => rfl) (fun _ => rfl) (fun _ => rfl) (fun n => absurd rfl n) (fun _ => rfl) (fun _ => rfl) (fun _ => rfl) (fun _ => rfl) (fun _ => rfl) (fun _ => rfl) (fun _ => rfl) (fun _ => rfl) (fun _ => rfl) (fun _ => rfl) (fun _ => rfl) (fun _ => rfl) (fun _ => rfl) (fun _ => rfl) (fun _ => rfl) (fun _ => rfl) (fun _ => rfl))
theorem hput_r5 {D : DD} {h : HF} {a : Nat} {σ : St} {f : Nat → Int32} : hupd (hput D h a σ) (a + 13) (arrE D 8 f) = hput D h a (rput σ 5 f) := hput_set (by decide) rfl (lt29 (P := fun j => j ≠ 13 → stCell D a _ j = stCell D a _ j) (fun _ => rfl) (fun _ => rfl) (fun _ => rfl) (fun _ => rfl) (fun _ => rfl) (fun _ => rfl) (fun _ => rfl) (fun _ => rfl) (fun _ => rfl) (fun _ => rfl) (fun _ => rfl) (fun _ => rfl) (fun _ => rfl) (fun n => absurd rfl n) (fun _ => rfl) (fun _ => rfl) (fun _ => rfl) (fun _ => rfl) (fun _ => rfl) (fun _ => rfl) (fun _ => rfl) (fun _ => rfl) (fun _ => rfl) (fun _ => rfl) (fun _ => rfl) (fun _ => rfl) (fun _ => rfl) (fun _ => rfl) (fun _ => rfl))
theorem hput_r6 {D : DD} {h : HF} {a : Nat} {σ : St} {f : Nat → Int32} : hupd (hput D h a σ) (a + 15) (arrE D 88 f) = hput D h a (rput σ 6 f) := hput_set (by decide) rfl (lt29 (P := fun j => j ≠ 15 → stCell D a _ j = stCell D a _ j) (fun _ => rfl) (fun _ => rfl) (fun _ => rfl) (fun _ => rfl) (fun _ => rfl) (fun _ => rfl) (fun _ => rfl) (fun _ => rfl) (fun _ => rfl) (fun _ => rfl) (fun _ => rfl) (fun _ => rfl) (fun _ => rfl) (fun _ => rfl) (fun _ => rfl) (fun n => absurd rfl n) (fun _ => rfl) (fun _ => rfl) (fun _ => rfl) (fun _ => rfl) (fun _ => rfl) (fun _ => rfl) (fun _ => rfl) (fun _ => rfl) (fun _ => rfl) (fun _ => rfl) (fun _ => rfl) (fun _ => rfl) (fun _ => rfl))
theorem hput_r7 {D : DD} {h : HF} {a : Nat} {σ : St} {f : Nat → Int32} : hupd (hput D h a σ) (a + 18) (arrE D 8 f) = hput D h a (rput σ 7 f) := hput_set (by decide) rfl (lt29 (P := fun j => j ≠ 18 → stCell D a _ j = stCell D a _ j) (fun _ => rfl) (fun _ => rfl) (fun _ => rfl) (fun _ => rfl) (fun _ => rfl) (fun _ => rfl) (fun _ => rfl) (fun _ => rfl) (fun _ => rfl) (fun _ => rfl) (fun _ => rfl) (fun _ => rfl) (fun _ => rfl) (fun _ => rfl) (fun _ => rfl) (fun _ => rfl) (fun _ => rfl) (fun _ => rfl) (fun n => absurd rfl n) (fun _ => rfl) (fun _ => rfl) (fun _ => rfl) (fun _ => rfl) (fun _ => rfl) (fun _ => rfl) (fun _ => rfl) (fun _ => rfl) (fun _ => rfl) (fun _ => rfl))
theorem hput_r8 {D : DD} {h : HF} {a : Nat} {σ : St} {f : Nat → Int32} : hupd (hput D h a σ) (a + 20) (arrE D 384 f) = hput D h a (rput σ 8 f) := hput_set (by decide) rfl (lt29 (P := fun j => j ≠ 20 → stCell D a _ j = stCell D a _ j) (fun _ => rfl) (fun _ => rfl) (fun _ => rfl) (fun _ => rfl) (fun _ => rfl) (fun _ => rfl) (fun _ => rfl) (fun _ => rfl) (fun _ => rfl) (fun _ => rfl) (fun _ => rfl) (fun _ => rfl) (fun _ => rfl) (fun _ => rfl) (fun _ => rfl) (fun _ => rfl) (fun _ => rfl) (fun _ => rfl) (fun _ => rfl) (fun _ => rfl) (fun n => absurd rfl n) (fun _ => rfl) (fun _ => rfl) (fun _ => rfl) (fun _ => rfl) (fun _ => rfl) (fun _ => rfl) (fun _ => rfl) (fun _ => rfl))
theorem hput_r9 {D : DD} {h : HF} {a : Nat} {σ : St} {f : Nat → Int32} : hupd (hput D h a σ) (a + 23) (arrE D 100 f) = hput D h a (rput σ 9 f) := hput_set (by decide) rfl (lt29 (P := fun j => j ≠ 23 → stCell D a _ j = stCell D a _ j) (fun _ => rfl) (fun _ => rfl) (fun _ => rfl) (fun _ => rfl) (fun _ => rfl) (fun _ => rfl) (fun _ => rfl) (fun _ => rfl) (fun _ => rfl) (fun _ => rfl) (fun _ => rfl) (fun _ => rfl) (fun _ => rfl) (fun _ => rfl) (fun _ => rfl) (fun _ => rfl) (fun _ => rfl) (fun _ => rfl) (fun _ => rfl) (fun _ => rfl) (fun _ => rfl) (fun _ => rfl) (fun _ => rfl) (fun n => absurd rfl n) (fun _ => rfl) (fun _ => rfl) (fun _ => rfl) (fun _ => rfl) (fun _ => rfl))
theorem hput_r10 {D : DD} {h : HF} {a : Nat} {σ : St} {f : Nat → Int32} : hupd (hput D h a σ) (a + 25) (arrE D 100 f) = hput D h a (rput σ 10 f) := hput_set (by decide) rfl (lt29 (P := fun j => j ≠ 25 → stCell D a _ j = stCell D a _ j) (fun _ => rfl) (fun _ => rfl) (fun _ => rfl) (fun _ => rfl) (fun _ => rfl) (fun _ => rfl) (fun _ => rfl) (fun _ => rfl) (fun _ => rfl) (fun _ => rfl) (fun _ => rfl) (fun _ => rfl) (fun _ => rfl) (fun _ => rfl) (fun _ => rfl) (fun _ => rfl) (fun _ => rfl) (fun _ => rfl) (fun _ => rfl) (fun _ => rfl) (fun _ => rfl) (fun _ => rfl) (fun _ => rfl) (fun _ => rfl) (fun _ => rfl) (fun n => absurd rfl n) (fun _ => rfl) (fun _ => rfl) (fun _ => rfl))
theorem hput_r11 {D : DD} {h : HF} {a : Nat} {σ : St} {f : Nat → Int32} : hupd (hput D h a σ) (a + 28) (arrE D 1000 f) = hput D h a (rput σ 11 f) := hput_set (by decide) rfl (lt29 (P := fun j => j ≠ 28 → stCell D a _ j = stCell D a _ j) (fun _ => rfl) (fun _ => rfl) (fun _ => rfl) (fun _ => rfl) (fun _ => rfl) (fun _ => rfl) (fun _ => rfl) (fun _ => rfl) (fun _ => rfl) (fun _ => rfl) (fun _ => rfl) (fun _ => rfl) (fun _ => rfl) (fun _ => rfl) (fun _ => rfl) (fun _ => rfl) (fun _ => rfl) (fun _ => rfl) (fun _ => rfl) (fun _ => rfl) (fun _ => rfl) (fun _ => rfl) (fun _ => rfl) (fun _ => rfl) (fun _ => rfl) (fun _ => rfl) (fun _ => rfl) (fun _ => rfl) (fun n => absurd rfl n))
theorem hput_s0 {D : DD} {h : HF} {a : Nat} {σ : St} {v : Int32} : hupd (hput D h a σ) (a + 0) (.inr (6, [.ref (a + 1), .ref (a + 3), .ref (a + 16), .ref (a + 21), .ref (a + 26), .int v, .int (σ.2 1), .int (σ.2 2)])) = hput D h a (sput σ 0 v) := hput_set (by decide) rfl (lt29 (P := fun j => j ≠ 0 → stCell D a _ j = stCell D a _ j) (fun n => absurd rfl n) (fun _ => rfl) (fun _ => rfl) (fun _ => rfl) (fun _ => rfl) (fun _ => rfl) (fun _ => rfl) (fun _ => rfl) (fun _ => rfl) (fun _ => rfl) (fun _ => rfl) (fun _ => rfl) (fun _ => rfl) (fun _ => rfl) (fun _ => rfl) (fun _ => rfl) (fun _ => rfl) (fun _ => rfl) (fun _ => rfl) (fun _ => rfl) (fun _ => rfl) (fun _ => rfl) (fun _ => rfl) (fun _ => rfl) (fun _ => rfl) (fun _ => rfl) (fun _ => rfl) (fun _ => rfl) (fun _ => rfl))
theorem hput_s1 {D : DD} {h : HF} {a : Nat} {σ : St} {v : Int32} : hupd (hput D h a σ) (a + 0) (.inr (6, [.ref (a + 1), .ref (a + 3), .ref (a + 16), .ref (a + 21), .ref (a + 26), .int (σ.2 0), .int v, .int (σ.2 2)])) = hput D h a (sput σ 1 v) := hput_set (by decide) rfl (lt29 (P := fun j => j ≠ 0 → stCell D a _ j = stCell D a _ j) (fun n => absurd rfl n) (fun _ => rfl) (fun _ => rfl) (fun _ => rfl) (fun _ => rfl) (fun _ => rfl) (fun _ => rfl) (fun _ => rfl) (fun _ => rfl) (fun _ => rfl) (fun _ => rfl) (fun _ => rfl) (fun _ => rfl) (fun _ => rfl) (fun _ => rfl) (fun _ => rfl) (fun _ => rfl) (fun _ => rfl) (fun _ => rfl) (fun _ => rfl) (fun _ => rfl) (fun _ => rfl) (fun _ => rfl) (fun _ => rfl) (fun _ => rfl) (fun _ => rfl) (fun _ => rfl) (fun _ => rfl) (fun _ => rfl))
theorem hput_s2 {D : DD} {h : HF} {a : Nat} {σ : St} {v : Int32} : hupd (hput D h a σ) (a + 0) (.inr (6, [.ref (a + 1), .ref (a + 3), .ref (a + 16), .ref (a + 21), .ref (a + 26), .int (σ.2 0), .int (σ.2 1), .int v])) = hput D h a (sput σ 2 v) := hput_set (by decide) rfl (lt29 (P := fun j => j ≠ 0 → stCell D a _ j = stCell D a _ j) (fun n => absurd rfl n) (fun _ => rfl) (fun _ => rfl) (fun _ => rfl) (fun _ => rfl) (fun _ => rfl) (fun _ => rfl) (fun _ => rfl) (fun _ => rfl) (fun _ => rfl) (fun _ => rfl) (fun _ => rfl) (fun _ => rfl) (fun _ => rfl) (fun _ => rfl) (fun _ => rfl) (fun _ => rfl) (fun _ => rfl) (fun _ => rfl) (fun _ => rfl) (fun _ => rfl) (fun _ => rfl) (fun _ => rfl) (fun _ => rfl) (fun _ => rfl) (fun _ => rfl) (fun _ => rfl) (fun _ => rfl) (fun _ => rfl))
theorem hput_s3 {D : DD} {h : HF} {a : Nat} {σ : St} {v : Int32} : hupd (hput D h a σ) (a + 21) (.inr (7, [.ref (a + 22), .ref (a + 24), .int v])) = hput D h a (sput σ 3 v) := hput_set (by decide) rfl (lt29 (P := fun j => j ≠ 21 → stCell D a _ j = stCell D a _ j) (fun _ => rfl) (fun _ => rfl) (fun _ => rfl) (fun _ => rfl) (fun _ => rfl) (fun _ => rfl) (fun _ => rfl) (fun _ => rfl) (fun _ => rfl) (fun _ => rfl) (fun _ => rfl) (fun _ => rfl) (fun _ => rfl) (fun _ => rfl) (fun _ => rfl) (fun _ => rfl) (fun _ => rfl) (fun _ => rfl) (fun _ => rfl) (fun _ => rfl) (fun _ => rfl) (fun n => absurd rfl n) (fun _ => rfl) (fun _ => rfl) (fun _ => rfl) (fun _ => rfl) (fun _ => rfl) (fun _ => rfl) (fun _ => rfl))
abbrev Sy : Type := (Nat → St) × (Nat → Int32) × (Nat → Nat → Int32)
def xst (S : Sy) (i : Nat) (σ : St) : Sy := (fun j => if j = i then σ else S.1 j, S.2)
def xsc (S : Sy) (i : Nat) (v : Int32) : Sy := (S.1, fun j => if j = i then v else S.2.1 j, S.2.2)
def xar (S : Sy) (i : Nat) (f : Nat → Int32) : Sy := (S.1, S.2.1, fun j => if j = i then f else S.2.2 j)
/-- where the States lie: 0 present, 1 snapshot, 2 imagined, 3 to 6 the history's -/
def xoff : Nat → Nat
  | 0 => 1
  | 1 => 30
  | 2 => 59
  | 3 => 90
  | 4 => 119
  | 5 => 148
  | _ => 177
def xsf (b : Nat) : Nat → Option Nat
  | 0 => some (b + 90)
  | 1 => some (b + 119)
  | 2 => some (b + 148)
  | _ => some (b + 177)
def xCell (D : DD) (b : Nat) (S : Sy) (k : Nat) : va_E :=
  if k = 0 then .inr (9, [.ref (b + 1), .ref (b + 30), .ref (b + 59), .ref (b + 88), .ref (b + 206), .ref (b + 208), .int (S.2.1 0)])
  else if k < 30 then stCell D (b + 1) (S.1 0) (k - 1)
  else if k < 59 then stCell D (b + 30) (S.1 1) (k - 30)
  else if k < 88 then stCell D (b + 59) (S.1 2) (k - 59)
  else if k = 88 then .inr (1, [.ref (b + 89), .int (S.2.1 1), .int (S.2.1 2)])
  else if k = 89 then .inl (D.2.1.2.2, (4, .inr (.inr (.inr (.inr (xsf b))))))
  else if k < 119 then stCell D (b + 90) (S.1 3) (k - 90)
  else if k < 148 then stCell D (b + 119) (S.1 4) (k - 119)
  else if k < 177 then stCell D (b + 148) (S.1 5) (k - 148)
  else if k < 206 then stCell D (b + 177) (S.1 6) (k - 177)
  else if k = 206 then .inr (8, [.ref (b + 207), .int (S.2.1 3), .int (S.2.1 4)])
  else if k = 207 then chrE D 70 (S.2.2 0)
  else if k = 208 then .inr (0, [.ref (b + 209), .int (S.2.1 5)])
  else if k = 209 then rowE (b + 210)
  else arrE D 384 (S.2.2 1)
def xput (D : DD) (h : HF) (b : Nat) (S : Sy) : HF := fun q => if b ≤ q ∧ q < b + 211 then some (xCell D b S (q - b)) else h q
theorem xput_k {D : DD} {h : HF} {b : Nat} {S : Sy} (k : Nat) (hk : k < 211) : xput D h b S (b + k) = some (xCell D b S k) := by
  unfold xput
  rw [if_pos ⟨by omega, by omega⟩, Nat.add_sub_cancel_left]
theorem xput_0 {D : DD} {h : HF} {b : Nat} {S : Sy} : xput D h b S b = some (xCell D b S 0) := xput_k 0 (by decide)
theorem xput_out {D : DD} {h : HF} {b q : Nat} {S : Sy} (hq : q < b ∨ b + 211 ≤ q) : xput D h b S q = h q := if_neg (by omega)
theorem xput_set {D : DD} {h : HF} {b k : Nat} {S S' : Sy} {x : va_E} (hk : k < 211) (e : xCell D b S' k = x) (ho : ∀ j, j < 211 → j ≠ k → xCell D b S' j = xCell D b S j) : hupd (xput D h b S) (b + k) x = xput D h b S' := by
  funext q
  by_cases c : q = b + k
  · rw [c, hupd_same, xput_k k hk, e]
  · rw [hupd_ne c]
    unfold xput
    by_cases c2 : b ≤ q ∧ q < b + 211
    · rw [if_pos c2, if_pos c2, ho (q - b) (by omega) (by omega)]
    · rw [if_neg c2, if_neg c2]
theorem xput_in {D : DD} {h : HF} {b i : Nat} {S : Sy} (hi : i < 7) : ∀ k, k < 29 → xCell D b S (xoff i + k) = stCell D (b + xoff i) (S.1 i) k := by
  intro k hk
  have c : i = 0 ∨ i = 1 ∨ i = 2 ∨ i = 3 ∨ i = 4 ∨ i = 5 ∨ i = 6 := by omega
  rcases c with rfl | rfl | rfl | rfl | rfl | rfl | rfl <;> simp only [xoff, xCell]
  all_goals (repeat (first | rw [if_pos (by omega)] | rw [if_neg (by omega)]))
  all_goals (rw [Nat.add_sub_cancel_left])
theorem xput_st {D : DD} {h : HF} {b i : Nat} {S : Sy} (hi : i < 7) : xput D h b S = hput D (xput D h b S) (b + xoff i) (S.1 i) := by
  funext q
  unfold hput
  by_cases c : b + xoff i ≤ q ∧ q < b + xoff i + 29
  · rw [if_pos c]
    have hx : xoff i + 29 ≤ 211 := by
      have c : i = 0 ∨ i = 1 ∨ i = 2 ∨ i = 3 ∨ i = 4 ∨ i = 5 ∨ i = 6 := by omega
      rcases c with rfl | rfl | rfl | rfl | rfl | rfl | rfl <;> decide
    have e : q = b + (xoff i + (q - (b + xoff i))) := by omega
    rw [← xput_in (h := h) hi (q - (b + xoff i)) (by omega), ← xput_k (h := h) _ (by omega), ← e]
  · rw [if_neg c]
theorem xst_ne {D : DD} {b i : Nat} {S : Sy} {τ : St} (hi : i < 7) (j : Nat) (hj : j < 211) (c : j < xoff i ∨ xoff i + 29 ≤ j) : xCell D b (xst S i τ) j = xCell D b S j := by
  unfold xCell
  have c3 : i = 0 ∨ i = 1 ∨ i = 2 ∨ i = 3 ∨ i = 4 ∨ i = 5 ∨ i = 6 := by omega
  rcases c3 with rfl | rfl | rfl | rfl | rfl | rfl | rfl <;> simp only [xoff] at c
  · by_cases c0 : j = 0
    · rw [if_pos c0, if_pos c0] <;> first | (exfalso; omega) | rfl
    rw [if_neg c0, if_neg c0]
    by_cases c1 : j < 30
    · rw [if_pos c1, if_pos c1] <;> first | (exfalso; omega) | rfl
    rw [if_neg c1, if_neg c1]
    by_cases c2 : j < 59
    · rw [if_pos c2, if_pos c2] <;> first | (exfalso; omega) | rfl
    rw [if_neg c2, if_neg c2]
    by_cases c3 : j < 88
    · rw [if_pos c3, if_pos c3] <;> first | (exfalso; omega) | rfl
    rw [if_neg c3, if_neg c3]
    by_cases c4 : j = 88
    · rw [if_pos c4, if_pos c4] <;> first | (exfalso; omega) | rfl
    rw [if_neg c4, if_neg c4]
    by_cases c5 : j = 89
    · rw [if_pos c5, if_pos c5] <;> first | (exfalso; omega) | rfl
    rw [if_neg c5, if_neg c5]
    by_cases c6 : j < 119
    · rw [if_pos c6, if_pos c6] <;> first | (exfalso; omega) | rfl
    rw [if_neg c6, if_neg c6]
    by_cases c7 : j < 148
    · rw [if_pos c7, if_pos c7] <;> first | (exfalso; omega) | rfl
    rw [if_neg c7, if_neg c7]
    by_cases c8 : j < 177
    · rw [if_pos c8, if_pos c8] <;> first | (exfalso; omega) | rfl
    rw [if_neg c8, if_neg c8]
    by_cases c9 : j < 206
    · rw [if_pos c9, if_pos c9] <;> first | (exfalso; omega) | rfl
    rw [if_neg c9, if_neg c9]
    by_cases c10 : j = 206
    · rw [if_pos c10, if_pos c10] <;> first | (exfalso; omega) | rfl
    rw [if_neg c10, if_neg c10]
    by_cases c11 : j = 207
    · rw [if_pos c11, if_pos c11] <;> first | (exfalso; omega) | rfl
    rw [if_neg c11, if_neg c11]
    by_cases c12 : j = 208
    · rw [if_pos c12, if_pos c12] <;> first | (exfalso; omega) | rfl
    rw [if_neg c12, if_neg c12]
    by_cases c13 : j = 209
    · rw [if_pos c13, if_pos c13] <;> first | (exfalso; omega) | rfl
    rw [if_neg c13, if_neg c13]
    first | (exfalso; omega) | rfl
  · by_cases c0 : j = 0
    · rw [if_pos c0, if_pos c0] <;> first | (exfalso; omega) | rfl
    rw [if_neg c0, if_neg c0]
    by_cases c1 : j < 30
    · rw [if_pos c1, if_pos c1] <;> first | (exfalso; omega) | rfl
    rw [if_neg c1, if_neg c1]
    by_cases c2 : j < 59
    · rw [if_pos c2, if_pos c2] <;> first | (exfalso; omega) | rfl
    rw [if_neg c2, if_neg c2]
    by_cases c3 : j < 88
    · rw [if_pos c3, if_pos c3] <;> first | (exfalso; omega) | rfl
    rw [if_neg c3, if_neg c3]
    by_cases c4 : j = 88
    · rw [if_pos c4, if_pos c4] <;> first | (exfalso; omega) | rfl
    rw [if_neg c4, if_neg c4]
    by_cases c5 : j = 89
    · rw [if_pos c5, if_pos c5] <;> first | (exfalso; omega) | rfl
    rw [if_neg c5, if_neg c5]
    by_cases c6 : j < 119
    · rw [if_pos c6, if_pos c6] <;> first | (exfalso; omega) | rfl
    rw [if_neg c6, if_neg c6]
    by_cases c7 : j < 148
    · rw [if_pos c7, if_pos c7] <;> first | (exfalso; omega) | rfl
    rw [if_neg c7, if_neg c7]
    by_cases c8 : j < 177
    · rw [if_pos c8, if_pos c8] <;> first | (exfalso; omega) | rfl
    rw [if_neg c8, if_neg c8]
    by_cases c9 : j < 206
    · rw [if_pos c9, if_pos c9] <;> first | (exfalso; omega) | rfl
    rw [if_neg c9, if_neg c9]
    by_cases c10 : j = 206
    · rw [if_pos c10, if_pos c10] <;> first | (exfalso; omega) | rfl
    rw [if_neg c10, if_neg c10]
    by_cases c11 : j = 207
    · rw [if_pos c11, if_pos c11] <;> first | (exfalso; omega) | rfl
    rw [if_neg c11, if_neg c11]
    by_cases c12 : j = 208
    · rw [if_pos c12, if_pos c12] <;> first | (exfalso; omega) | rfl
    rw [if_neg c12, if_neg c12]
    by_cases c13 : j = 209
    · rw [if_pos c13, if_pos c13] <;> first | (exfalso; omega) | rfl
    rw [if_neg c13, if_neg c13]
    first | (exfalso; omega) | rfl
  · by_cases c0 : j = 0
    · rw [if_pos c0, if_pos c0] <;> first | (exfalso; omega) | rfl
    rw [if_neg c0, if_neg c0]
    by_cases c1 : j < 30
    · rw [if_pos c1, if_pos c1] <;> first | (exfalso; omega) | rfl
    rw [if_neg c1, if_neg c1]
    by_cases c2 : j < 59
    · rw [if_pos c2, if_pos c2] <;> first | (exfalso; omega) | rfl
    rw [if_neg c2, if_neg c2]
    by_cases c3 : j < 88
    · rw [if_pos c3, if_pos c3] <;> first | (exfalso; omega) | rfl
    rw [if_neg c3, if_neg c3]
    by_cases c4 : j = 88
    · rw [if_pos c4, if_pos c4] <;> first | (exfalso; omega) | rfl
    rw [if_neg c4, if_neg c4]
    by_cases c5 : j = 89
    · rw [if_pos c5, if_pos c5] <;> first | (exfalso; omega) | rfl
    rw [if_neg c5, if_neg c5]
    by_cases c6 : j < 119
    · rw [if_pos c6, if_pos c6] <;> first | (exfalso; omega) | rfl
    rw [if_neg c6, if_neg c6]
    by_cases c7 : j < 148
    · rw [if_pos c7, if_pos c7] <;> first | (exfalso; omega) | rfl
    rw [if_neg c7, if_neg c7]
    by_cases c8 : j < 177
    · rw [if_pos c8, if_pos c8] <;> first | (exfalso; omega) | rfl
    rw [if_neg c8, if_neg c8]
    by_cases c9 : j < 206
    · rw [if_pos c9, if_pos c9] <;> first | (exfalso; omega) | rfl
    rw [if_neg c9, if_neg c9]
    by_cases c10 : j = 206
    · rw [if_pos c10, if_pos c10] <;> first | (exfalso; omega) | rfl
    rw [if_neg c10, if_neg c10]
    by_cases c11 : j = 207
    · rw [if_pos c11, if_pos c11] <;> first | (exfalso; omega) | rfl
    rw [if_neg c11, if_neg c11]
    by_cases c12 : j = 208
    · rw [if_pos c12, if_pos c12] <;> first | (exfalso; omega) | rfl
    rw [if_neg c12, if_neg c12]
    by_cases c13 : j = 209
    · rw [if_pos c13, if_pos c13] <;> first | (exfalso; omega) | rfl
    rw [if_neg c13, if_neg c13]
    first | (exfalso; omega) | rfl
  · by_cases c0 : j = 0
    · rw [if_pos c0, if_pos c0] <;> first | (exfalso; omega) | rfl
    rw [if_neg c0, if_neg c0]
    by_cases c1 : j < 30
    · rw [if_pos c1, if_pos c1] <;> first | (exfalso; omega) | rfl
    rw [if_neg c1, if_neg c1]
    by_cases c2 : j < 59
    · rw [if_pos c2, if_pos c2] <;> first | (exfalso; omega) | rfl
    rw [if_neg c2, if_neg c2]
    by_cases c3 : j < 88
    · rw [if_pos c3, if_pos c3] <;> first | (exfalso; omega) | rfl
    rw [if_neg c3, if_neg c3]
    by_cases c4 : j = 88
    · rw [if_pos c4, if_pos c4] <;> first | (exfalso; omega) | rfl
    rw [if_neg c4, if_neg c4]
    by_cases c5 : j = 89
    · rw [if_pos c5, if_pos c5] <;> first | (exfalso; omega) | rfl
    rw [if_neg c5, if_neg c5]
    by_cases c6 : j < 119
    · rw [if_pos c6, if_pos c6] <;> first | (exfalso; omega) | rfl
    rw [if_neg c6, if_neg c6]
    by_cases c7 : j < 148
    · rw [if_pos c7, if_pos c7] <;> first | (exfalso; omega) | rfl
    rw [if_neg c7, if_neg c7]
    by_cases c8 : j < 177
    · rw [if_pos c8, if_pos c8] <;> first | (exfalso; omega) | rfl
    rw [if_neg c8, if_neg c8]
    by_cases c9 : j < 206
    · rw [if_pos c9, if_pos c9] <;> first | (exfalso; omega) | rfl
    rw [if_neg c9, if_neg c9]
    by_cases c10 : j = 206
    · rw [if_pos c10, if_pos c10] <;> first | (exfalso; omega) | rfl
    rw [if_neg c10, if_neg c10]
    by_cases c11 : j = 207
    · rw [if_pos c11, if_pos c11] <;> first | (exfalso; omega) | rfl
    rw [if_neg c11, if_neg c11]
    by_cases c12 : j = 208
    · rw [if_pos c12, if_pos c12] <;> first | (exfalso; omega) | rfl
    rw [if_neg c12, if_neg c12]
    by_cases c13 : j = 209
    · rw [if_pos c13, if_pos c13] <;> first | (exfalso; omega) | rfl
    rw [if_neg c13, if_neg c13]
    first | (exfalso; omega) | rfl
  · by_cases c0 : j = 0
    · rw [if_pos c0, if_pos c0] <;> first | (exfalso; omega) | rfl
    rw [if_neg c0, if_neg c0]
    by_cases c1 : j < 30
    · rw [if_pos c1, if_pos c1] <;> first | (exfalso; omega) | rfl
    rw [if_neg c1, if_neg c1]
    by_cases c2 : j < 59
    · rw [if_pos c2, if_pos c2] <;> first | (exfalso; omega) | rfl
    rw [if_neg c2, if_neg c2]
    by_cases c3 : j < 88
    · rw [if_pos c3, if_pos c3] <;> first | (exfalso; omega) | rfl
    rw [if_neg c3, if_neg c3]
    by_cases c4 : j = 88
    · rw [if_pos c4, if_pos c4] <;> first | (exfalso; omega) | rfl
    rw [if_neg c4, if_neg c4]
    by_cases c5 : j = 89
    · rw [if_pos c5, if_pos c5] <;> first | (exfalso; omega) | rfl
    rw [if_neg c5, if_neg c5]
    by_cases c6 : j < 119
    · rw [if_pos c6, if_pos c6] <;> first | (exfalso; omega) | rfl
    rw [if_neg c6, if_neg c6]
    by_cases c7 : j < 148
    · rw [if_pos c7, if_pos c7] <;> first | (exfalso; omega) | rfl
    rw [if_neg c7, if_neg c7]
    by_cases c8 : j < 177
    · rw [if_pos c8, if_pos c8] <;> first | (exfalso; omega) | rfl
    rw [if_neg c8, if_neg c8]
    by_cases c9 : j < 206
    · rw [if_pos c9, if_pos c9] <;> first | (exfalso; omega) | rfl
    rw [if_neg c9, if_neg c9]
    by_cases c10 : j = 206
    · rw [if_pos c10, if_pos c10] <;> first | (exfalso; omega) | rfl
    rw [if_neg c10, if_neg c10]
    by_cases c11 : j = 207
    · rw [if_pos c11, if_pos c11] <;> first | (exfalso; omega) | rfl
    rw [if_neg c11, if_neg c11]
    by_cases c12 : j = 208
    · rw [if_pos c12, if_pos c12] <;> first | (exfalso; omega) | rfl
    rw [if_neg c12, if_neg c12]
    by_cases c13 : j = 209
    · rw [if_pos c13, if_pos c13] <;> first | (exfalso; omega) | rfl
    rw [if_neg c13, if_neg c13]
    first | (exfalso; omega) | rfl
  · by_cases c0 : j = 0
    · rw [if_pos c0, if_pos c0] <;> first | (exfalso; omega) | rfl
    rw [if_neg c0, if_neg c0]
    by_cases c1 : j < 30
    · rw [if_pos c1, if_pos c1] <;> first | (exfalso; omega) | rfl
    rw [if_neg c1, if_neg c1]
    by_cases c2 : j < 59
    · rw [if_pos c2, if_pos c2] <;> first | (exfalso; omega) | rfl
    rw [if_neg c2, if_neg c2]
    by_cases c3 : j < 88
    · rw [if_pos c3, if_pos c3] <;> first | (exfalso; omega) | rfl
    rw [if_neg c3, if_neg c3]
    by_cases c4 : j = 88
    · rw [if_pos c4, if_pos c4] <;> first | (exfalso; omega) | rfl
    rw [if_neg c4, if_neg c4]
    by_cases c5 : j = 89
    · rw [if_pos c5, if_pos c5] <;> first | (exfalso; omega) | rfl
    rw [if_neg c5, if_neg c5]
    by_cases c6 : j < 119
    · rw [if_pos c6, if_pos c6] <;> first | (exfalso; omega) | rfl
    rw [if_neg c6, if_neg c6]
    by_cases c7 : j < 148
    · rw [if_pos c7, if_pos c7] <;> first | (exfalso; omega) | rfl
    rw [if_neg c7, if_neg c7]
    by_cases c8 : j < 177
    · rw [if_pos c8, if_pos c8] <;> first | (exfalso; omega) | rfl
    rw [if_neg c8, if_neg c8]
    by_cases c9 : j < 206
    · rw [if_pos c9, if_pos c9] <;> first | (exfalso; omega) | rfl
    rw [if_neg c9, if_neg c9]
    by_cases c10 : j = 206
    · rw [if_pos c10, if_pos c10] <;> first | (exfalso; omega) | rfl
    rw [if_neg c10, if_neg c10]
    by_cases c11 : j = 207
    · rw [if_pos c11, if_pos c11] <;> first | (exfalso; omega) | rfl
    rw [if_neg c11, if_neg c11]
    by_cases c12 : j = 208
    · rw [if_pos c12, if_pos c12] <;> first | (exfalso; omega) | rfl
    rw [if_neg c12, if_neg c12]
    by_cases c13 : j = 209
    · rw [if_pos c13, if_pos c13] <;> first | (exfalso; omega) | rfl
    rw [if_neg c13, if_neg c13]
    first | (exfalso; omega) | rfl
  · by_cases c0 : j = 0
    · rw [if_pos c0, if_pos c0] <;> first | (exfalso; omega) | rfl
    rw [if_neg c0, if_neg c0]
    by_cases c1 : j < 30
    · rw [if_pos c1, if_pos c1] <;> first | (exfalso; omega) | rfl
    rw [if_neg c1, if_neg c1]
    by_cases c2 : j < 59
    · rw [if_pos c2, if_pos c2] <;> first | (exfalso; omega) | rfl
    rw [if_neg c2, if_neg c2]
    by_cases c3 : j < 88
    · rw [if_pos c3, if_pos c3] <;> first | (exfalso; omega) | rfl
    rw [if_neg c3, if_neg c3]
    by_cases c4 : j = 88
    · rw [if_pos c4, if_pos c4] <;> first | (exfalso; omega) | rfl
    rw [if_neg c4, if_neg c4]
    by_cases c5 : j = 89
    · rw [if_pos c5, if_pos c5] <;> first | (exfalso; omega) | rfl
    rw [if_neg c5, if_neg c5]
    by_cases c6 : j < 119
    · rw [if_pos c6, if_pos c6] <;> first | (exfalso; omega) | rfl
    rw [if_neg c6, if_neg c6]
    by_cases c7 : j < 148
    · rw [if_pos c7, if_pos c7] <;> first | (exfalso; omega) | rfl
    rw [if_neg c7, if_neg c7]
    by_cases c8 : j < 177
    · rw [if_pos c8, if_pos c8] <;> first | (exfalso; omega) | rfl
    rw [if_neg c8, if_neg c8]
    by_cases c9 : j < 206
    · rw [if_pos c9, if_pos c9] <;> first | (exfalso; omega) | rfl
    rw [if_neg c9, if_neg c9]
    by_cases c10 : j = 206
    · rw [if_pos c10, if_pos c10] <;> first | (exfalso; omega) | rfl
    rw [if_neg c10, if_neg c10]
    by_cases c11 : j = 207
    · rw [if_pos c11, if_pos c11] <;> first | (exfalso; omega) | rfl
    rw [if_neg c11, if_neg c11]
    by_cases c12 : j = 208
    · rw [if_pos c12, if_pos c12] <;> first | (exfalso; omega) | rfl
    rw [if_neg c12, if_neg c12]
    by_cases c13 : j = 209
    · rw [if_pos c13, if_pos c13] <;> first | (exfalso; omega) | rfl
    rw [if_neg c13, if_neg c13]
    first | (exfalso; omega) | rfl
theorem xst_st {D : DD} {h : HF} {b i : Nat} {S : Sy} {τ : St} (hi : i < 7) : hput D (xput D h b S) (b + xoff i) τ = xput D h b (xst S i τ) := by
  funext q
  unfold hput
  have hx : xoff i + 29 ≤ 211 := by
    have c : i = 0 ∨ i = 1 ∨ i = 2 ∨ i = 3 ∨ i = 4 ∨ i = 5 ∨ i = 6 := by omega
    rcases c with rfl | rfl | rfl | rfl | rfl | rfl | rfl <;> decide
  by_cases c : b + xoff i ≤ q ∧ q < b + xoff i + 29
  · rw [if_pos c]
    have e : q = b + (xoff i + (q - (b + xoff i))) := by omega
    have e2 : τ = (xst S i τ).1 i := (if_pos rfl).symm
    conv => lhs; rw [e2]
    rw [← xput_in (h := h) hi (q - (b + xoff i)) (by omega), ← xput_k (h := h) _ (by omega), ← e]
  · rw [if_neg c]
    unfold xput
    by_cases c2 : b ≤ q ∧ q < b + 211
    · rw [if_pos c2, if_pos c2]
      exact congrArg some (xst_ne hi (q - b) (by omega) (by omega)).symm
    · rw [if_neg c2, if_neg c2]
theorem xput_s0 {D : DD} {h : HF} {b : Nat} {S : Sy} {v : Int32} : hupd (xput D h b S) (b + 0) (.inr (9, [.ref (b + 1), .ref (b + 30), .ref (b + 59), .ref (b + 88), .ref (b + 206), .ref (b + 208), (.int v)])) = xput D h b (xsc S 0 v) := by
  refine xput_set (by decide) rfl (fun j hj hne => ?_)
  unfold xCell
  by_cases c0 : j = 0
  · rw [if_pos c0, if_pos c0] <;> first | (exfalso; omega) | rfl
  rw [if_neg c0, if_neg c0]
  by_cases c1 : j < 30
  · rw [if_pos c1, if_pos c1] <;> first | (exfalso; omega) | rfl
  rw [if_neg c1, if_neg c1]
  by_cases c2 : j < 59
  · rw [if_pos c2, if_pos c2] <;> first | (exfalso; omega) | rfl
  rw [if_neg c2, if_neg c2]
  by_cases c3 : j < 88
  · rw [if_pos c3, if_pos c3] <;> first | (exfalso; omega) | rfl
  rw [if_neg c3, if_neg c3]
  by_cases c4 : j = 88
  · rw [if_pos c4, if_pos c4] <;> first | (exfalso; omega) | rfl
  rw [if_neg c4, if_neg c4]
  by_cases c5 : j = 89
  · rw [if_pos c5, if_pos c5] <;> first | (exfalso; omega) | rfl
  rw [if_neg c5, if_neg c5]
  by_cases c6 : j < 119
  · rw [if_pos c6, if_pos c6] <;> first | (exfalso; omega) | rfl
  rw [if_neg c6, if_neg c6]
  by_cases c7 : j < 148
  · rw [if_pos c7, if_pos c7] <;> first | (exfalso; omega) | rfl
  rw [if_neg c7, if_neg c7]
  by_cases c8 : j < 177
  · rw [if_pos c8, if_pos c8] <;> first | (exfalso; omega) | rfl
  rw [if_neg c8, if_neg c8]
  by_cases c9 : j < 206
  · rw [if_pos c9, if_pos c9] <;> first | (exfalso; omega) | rfl
  rw [if_neg c9, if_neg c9]
  by_cases c10 : j = 206
  · rw [if_pos c10, if_pos c10] <;> first | (exfalso; omega) | rfl
  rw [if_neg c10, if_neg c10]
  by_cases c11 : j = 207
  · rw [if_pos c11, if_pos c11] <;> first | (exfalso; omega) | rfl
  rw [if_neg c11, if_neg c11]
  by_cases c12 : j = 208
  · rw [if_pos c12, if_pos c12] <;> first | (exfalso; omega) | rfl
  rw [if_neg c12, if_neg c12]
  by_cases c13 : j = 209
  · rw [if_pos c13, if_pos c13] <;> first | (exfalso; omega) | rfl
  rw [if_neg c13, if_neg c13]
  first | (exfalso; omega) | rfl
theorem xput_s1 {D : DD} {h : HF} {b : Nat} {S : Sy} {v : Int32} : hupd (xput D h b S) (b + 88) (.inr (1, [.ref (b + 89), (.int v), .int (S.2.1 2)])) = xput D h b (xsc S 1 v) := by
  refine xput_set (by decide) rfl (fun j hj hne => ?_)
  unfold xCell
  by_cases c0 : j = 0
  · rw [if_pos c0, if_pos c0] <;> first | (exfalso; omega) | rfl
  rw [if_neg c0, if_neg c0]
  by_cases c1 : j < 30
  · rw [if_pos c1, if_pos c1] <;> first | (exfalso; omega) | rfl
  rw [if_neg c1, if_neg c1]
  by_cases c2 : j < 59
  · rw [if_pos c2, if_pos c2] <;> first | (exfalso; omega) | rfl
  rw [if_neg c2, if_neg c2]
  by_cases c3 : j < 88
  · rw [if_pos c3, if_pos c3] <;> first | (exfalso; omega) | rfl
  rw [if_neg c3, if_neg c3]
  by_cases c4 : j = 88
  · rw [if_pos c4, if_pos c4] <;> first | (exfalso; omega) | rfl
  rw [if_neg c4, if_neg c4]
  by_cases c5 : j = 89
  · rw [if_pos c5, if_pos c5] <;> first | (exfalso; omega) | rfl
  rw [if_neg c5, if_neg c5]
  by_cases c6 : j < 119
  · rw [if_pos c6, if_pos c6] <;> first | (exfalso; omega) | rfl
  rw [if_neg c6, if_neg c6]
  by_cases c7 : j < 148
  · rw [if_pos c7, if_pos c7] <;> first | (exfalso; omega) | rfl
  rw [if_neg c7, if_neg c7]
  by_cases c8 : j < 177
  · rw [if_pos c8, if_pos c8] <;> first | (exfalso; omega) | rfl
  rw [if_neg c8, if_neg c8]
  by_cases c9 : j < 206
  · rw [if_pos c9, if_pos c9] <;> first | (exfalso; omega) | rfl
  rw [if_neg c9, if_neg c9]
  by_cases c10 : j = 206
  · rw [if_pos c10, if_pos c10] <;> first | (exfalso; omega) | rfl
  rw [if_neg c10, if_neg c10]
  by_cases c11 : j = 207
  · rw [if_pos c11, if_pos c11] <;> first | (exfalso; omega) | rfl
  rw [if_neg c11, if_neg c11]
  by_cases c12 : j = 208
  · rw [if_pos c12, if_pos c12] <;> first | (exfalso; omega) | rfl
  rw [if_neg c12, if_neg c12]
  by_cases c13 : j = 209
  · rw [if_pos c13, if_pos c13] <;> first | (exfalso; omega) | rfl
  rw [if_neg c13, if_neg c13]
  first | (exfalso; omega) | rfl
theorem xput_s2 {D : DD} {h : HF} {b : Nat} {S : Sy} {v : Int32} : hupd (xput D h b S) (b + 88) (.inr (1, [.ref (b + 89), .int (S.2.1 1), (.int v)])) = xput D h b (xsc S 2 v) := by
  refine xput_set (by decide) rfl (fun j hj hne => ?_)
  unfold xCell
  by_cases c0 : j = 0
  · rw [if_pos c0, if_pos c0] <;> first | (exfalso; omega) | rfl
  rw [if_neg c0, if_neg c0]
  by_cases c1 : j < 30
  · rw [if_pos c1, if_pos c1] <;> first | (exfalso; omega) | rfl
  rw [if_neg c1, if_neg c1]
  by_cases c2 : j < 59
  · rw [if_pos c2, if_pos c2] <;> first | (exfalso; omega) | rfl
  rw [if_neg c2, if_neg c2]
  by_cases c3 : j < 88
  · rw [if_pos c3, if_pos c3] <;> first | (exfalso; omega) | rfl
  rw [if_neg c3, if_neg c3]
  by_cases c4 : j = 88
  · rw [if_pos c4, if_pos c4] <;> first | (exfalso; omega) | rfl
  rw [if_neg c4, if_neg c4]
  by_cases c5 : j = 89
  · rw [if_pos c5, if_pos c5] <;> first | (exfalso; omega) | rfl
  rw [if_neg c5, if_neg c5]
  by_cases c6 : j < 119
  · rw [if_pos c6, if_pos c6] <;> first | (exfalso; omega) | rfl
  rw [if_neg c6, if_neg c6]
  by_cases c7 : j < 148
  · rw [if_pos c7, if_pos c7] <;> first | (exfalso; omega) | rfl
  rw [if_neg c7, if_neg c7]
  by_cases c8 : j < 177
  · rw [if_pos c8, if_pos c8] <;> first | (exfalso; omega) | rfl
  rw [if_neg c8, if_neg c8]
  by_cases c9 : j < 206
  · rw [if_pos c9, if_pos c9] <;> first | (exfalso; omega) | rfl
  rw [if_neg c9, if_neg c9]
  by_cases c10 : j = 206
  · rw [if_pos c10, if_pos c10] <;> first | (exfalso; omega) | rfl
  rw [if_neg c10, if_neg c10]
  by_cases c11 : j = 207
  · rw [if_pos c11, if_pos c11] <;> first | (exfalso; omega) | rfl
  rw [if_neg c11, if_neg c11]
  by_cases c12 : j = 208
  · rw [if_pos c12, if_pos c12] <;> first | (exfalso; omega) | rfl
  rw [if_neg c12, if_neg c12]
  by_cases c13 : j = 209
  · rw [if_pos c13, if_pos c13] <;> first | (exfalso; omega) | rfl
  rw [if_neg c13, if_neg c13]
  first | (exfalso; omega) | rfl
theorem xput_s3 {D : DD} {h : HF} {b : Nat} {S : Sy} {v : Int32} : hupd (xput D h b S) (b + 206) (.inr (8, [.ref (b + 207), (.int v), .int (S.2.1 4)])) = xput D h b (xsc S 3 v) := by
  refine xput_set (by decide) rfl (fun j hj hne => ?_)
  unfold xCell
  by_cases c0 : j = 0
  · rw [if_pos c0, if_pos c0] <;> first | (exfalso; omega) | rfl
  rw [if_neg c0, if_neg c0]
  by_cases c1 : j < 30
  · rw [if_pos c1, if_pos c1] <;> first | (exfalso; omega) | rfl
  rw [if_neg c1, if_neg c1]
  by_cases c2 : j < 59
  · rw [if_pos c2, if_pos c2] <;> first | (exfalso; omega) | rfl
  rw [if_neg c2, if_neg c2]
  by_cases c3 : j < 88
  · rw [if_pos c3, if_pos c3] <;> first | (exfalso; omega) | rfl
  rw [if_neg c3, if_neg c3]
  by_cases c4 : j = 88
  · rw [if_pos c4, if_pos c4] <;> first | (exfalso; omega) | rfl
  rw [if_neg c4, if_neg c4]
  by_cases c5 : j = 89
  · rw [if_pos c5, if_pos c5] <;> first | (exfalso; omega) | rfl
  rw [if_neg c5, if_neg c5]
  by_cases c6 : j < 119
  · rw [if_pos c6, if_pos c6] <;> first | (exfalso; omega) | rfl
  rw [if_neg c6, if_neg c6]
  by_cases c7 : j < 148
  · rw [if_pos c7, if_pos c7] <;> first | (exfalso; omega) | rfl
  rw [if_neg c7, if_neg c7]
  by_cases c8 : j < 177
  · rw [if_pos c8, if_pos c8] <;> first | (exfalso; omega) | rfl
  rw [if_neg c8, if_neg c8]
  by_cases c9 : j < 206
  · rw [if_pos c9, if_pos c9] <;> first | (exfalso; omega) | rfl
  rw [if_neg c9, if_neg c9]
  by_cases c10 : j = 206
  · rw [if_pos c10, if_pos c10] <;> first | (exfalso; omega) | rfl
  rw [if_neg c10, if_neg c10]
  by_cases c11 : j = 207
  · rw [if_pos c11, if_pos c11] <;> first | (exfalso; omega) | rfl
  rw [if_neg c11, if_neg c11]
  by_cases c12 : j = 208
  · rw [if_pos c12, if_pos c12] <;> first | (exfalso; omega) | rfl
  rw [if_neg c12, if_neg c12]
  by_cases c13 : j = 209
  · rw [if_pos c13, if_pos c13] <;> first | (exfalso; omega) | rfl
  rw [if_neg c13, if_neg c13]
  first | (exfalso; omega) | rfl
theorem xput_s4 {D : DD} {h : HF} {b : Nat} {S : Sy} {v : Int32} : hupd (xput D h b S) (b + 206) (.inr (8, [.ref (b + 207), .int (S.2.1 3), (.int v)])) = xput D h b (xsc S 4 v) := by
  refine xput_set (by decide) rfl (fun j hj hne => ?_)
  unfold xCell
  by_cases c0 : j = 0
  · rw [if_pos c0, if_pos c0] <;> first | (exfalso; omega) | rfl
  rw [if_neg c0, if_neg c0]
  by_cases c1 : j < 30
  · rw [if_pos c1, if_pos c1] <;> first | (exfalso; omega) | rfl
  rw [if_neg c1, if_neg c1]
  by_cases c2 : j < 59
  · rw [if_pos c2, if_pos c2] <;> first | (exfalso; omega) | rfl
  rw [if_neg c2, if_neg c2]
  by_cases c3 : j < 88
  · rw [if_pos c3, if_pos c3] <;> first | (exfalso; omega) | rfl
  rw [if_neg c3, if_neg c3]
  by_cases c4 : j = 88
  · rw [if_pos c4, if_pos c4] <;> first | (exfalso; omega) | rfl
  rw [if_neg c4, if_neg c4]
  by_cases c5 : j = 89
  · rw [if_pos c5, if_pos c5] <;> first | (exfalso; omega) | rfl
  rw [if_neg c5, if_neg c5]
  by_cases c6 : j < 119
  · rw [if_pos c6, if_pos c6] <;> first | (exfalso; omega) | rfl
  rw [if_neg c6, if_neg c6]
  by_cases c7 : j < 148
  · rw [if_pos c7, if_pos c7] <;> first | (exfalso; omega) | rfl
  rw [if_neg c7, if_neg c7]
  by_cases c8 : j < 177
  · rw [if_pos c8, if_pos c8] <;> first | (exfalso; omega) | rfl
  rw [if_neg c8, if_neg c8]
  by_cases c9 : j < 206
  · rw [if_pos c9, if_pos c9] <;> first | (exfalso; omega) | rfl
  rw [if_neg c9, if_neg c9]
  by_cases c10 : j = 206
  · rw [if_pos c10, if_pos c10] <;> first | (exfalso; omega) | rfl
  rw [if_neg c10, if_neg c10]
  by_cases c11 : j = 207
  · rw [if_pos c11, if_pos c11] <;> first | (exfalso; omega) | rfl
  rw [if_neg c11, if_neg c11]
  by_cases c12 : j = 208
  · rw [if_pos c12, if_pos c12] <;> first | (exfalso; omega) | rfl
  rw [if_neg c12, if_neg c12]
  by_cases c13 : j = 209
  · rw [if_pos c13, if_pos c13] <;> first | (exfalso; omega) | rfl
  rw [if_neg c13, if_neg c13]
  first | (exfalso; omega) | rfl
theorem xput_s5 {D : DD} {h : HF} {b : Nat} {S : Sy} {v : Int32} : hupd (xput D h b S) (b + 208) (.inr (0, [.ref (b + 209), (.int v)])) = xput D h b (xsc S 5 v) := by
  refine xput_set (by decide) rfl (fun j hj hne => ?_)
  unfold xCell
  by_cases c0 : j = 0
  · rw [if_pos c0, if_pos c0] <;> first | (exfalso; omega) | rfl
  rw [if_neg c0, if_neg c0]
  by_cases c1 : j < 30
  · rw [if_pos c1, if_pos c1] <;> first | (exfalso; omega) | rfl
  rw [if_neg c1, if_neg c1]
  by_cases c2 : j < 59
  · rw [if_pos c2, if_pos c2] <;> first | (exfalso; omega) | rfl
  rw [if_neg c2, if_neg c2]
  by_cases c3 : j < 88
  · rw [if_pos c3, if_pos c3] <;> first | (exfalso; omega) | rfl
  rw [if_neg c3, if_neg c3]
  by_cases c4 : j = 88
  · rw [if_pos c4, if_pos c4] <;> first | (exfalso; omega) | rfl
  rw [if_neg c4, if_neg c4]
  by_cases c5 : j = 89
  · rw [if_pos c5, if_pos c5] <;> first | (exfalso; omega) | rfl
  rw [if_neg c5, if_neg c5]
  by_cases c6 : j < 119
  · rw [if_pos c6, if_pos c6] <;> first | (exfalso; omega) | rfl
  rw [if_neg c6, if_neg c6]
  by_cases c7 : j < 148
  · rw [if_pos c7, if_pos c7] <;> first | (exfalso; omega) | rfl
  rw [if_neg c7, if_neg c7]
  by_cases c8 : j < 177
  · rw [if_pos c8, if_pos c8] <;> first | (exfalso; omega) | rfl
  rw [if_neg c8, if_neg c8]
  by_cases c9 : j < 206
  · rw [if_pos c9, if_pos c9] <;> first | (exfalso; omega) | rfl
  rw [if_neg c9, if_neg c9]
  by_cases c10 : j = 206
  · rw [if_pos c10, if_pos c10] <;> first | (exfalso; omega) | rfl
  rw [if_neg c10, if_neg c10]
  by_cases c11 : j = 207
  · rw [if_pos c11, if_pos c11] <;> first | (exfalso; omega) | rfl
  rw [if_neg c11, if_neg c11]
  by_cases c12 : j = 208
  · rw [if_pos c12, if_pos c12] <;> first | (exfalso; omega) | rfl
  rw [if_neg c12, if_neg c12]
  by_cases c13 : j = 209
  · rw [if_pos c13, if_pos c13] <;> first | (exfalso; omega) | rfl
  rw [if_neg c13, if_neg c13]
  first | (exfalso; omega) | rfl
theorem xput_a0 {D : DD} {h : HF} {b : Nat} {S : Sy} {f : Nat → Int32} : hupd (xput D h b S) (b + 207) (chrE D 70 f) = xput D h b (xar S 0 f) := by
  refine xput_set (by decide) rfl (fun j hj hne => ?_)
  unfold xCell
  by_cases c0 : j = 0
  · rw [if_pos c0, if_pos c0] <;> first | (exfalso; omega) | rfl
  rw [if_neg c0, if_neg c0]
  by_cases c1 : j < 30
  · rw [if_pos c1, if_pos c1] <;> first | (exfalso; omega) | rfl
  rw [if_neg c1, if_neg c1]
  by_cases c2 : j < 59
  · rw [if_pos c2, if_pos c2] <;> first | (exfalso; omega) | rfl
  rw [if_neg c2, if_neg c2]
  by_cases c3 : j < 88
  · rw [if_pos c3, if_pos c3] <;> first | (exfalso; omega) | rfl
  rw [if_neg c3, if_neg c3]
  by_cases c4 : j = 88
  · rw [if_pos c4, if_pos c4] <;> first | (exfalso; omega) | rfl
  rw [if_neg c4, if_neg c4]
  by_cases c5 : j = 89
  · rw [if_pos c5, if_pos c5] <;> first | (exfalso; omega) | rfl
  rw [if_neg c5, if_neg c5]
  by_cases c6 : j < 119
  · rw [if_pos c6, if_pos c6] <;> first | (exfalso; omega) | rfl
  rw [if_neg c6, if_neg c6]
  by_cases c7 : j < 148
  · rw [if_pos c7, if_pos c7] <;> first | (exfalso; omega) | rfl
  rw [if_neg c7, if_neg c7]
  by_cases c8 : j < 177
  · rw [if_pos c8, if_pos c8] <;> first | (exfalso; omega) | rfl
  rw [if_neg c8, if_neg c8]
  by_cases c9 : j < 206
  · rw [if_pos c9, if_pos c9] <;> first | (exfalso; omega) | rfl
  rw [if_neg c9, if_neg c9]
  by_cases c10 : j = 206
  · rw [if_pos c10, if_pos c10] <;> first | (exfalso; omega) | rfl
  rw [if_neg c10, if_neg c10]
  by_cases c11 : j = 207
  · rw [if_pos c11, if_pos c11] <;> first | (exfalso; omega) | rfl
  rw [if_neg c11, if_neg c11]
  by_cases c12 : j = 208
  · rw [if_pos c12, if_pos c12] <;> first | (exfalso; omega) | rfl
  rw [if_neg c12, if_neg c12]
  by_cases c13 : j = 209
  · rw [if_pos c13, if_pos c13] <;> first | (exfalso; omega) | rfl
  rw [if_neg c13, if_neg c13]
  first | (exfalso; omega) | rfl
theorem xput_a1 {D : DD} {h : HF} {b : Nat} {S : Sy} {f : Nat → Int32} : hupd (xput D h b S) (b + 210) (arrE D 384 f) = xput D h b (xar S 1 f) := by
  refine xput_set (by decide) rfl (fun j hj hne => ?_)
  unfold xCell
  by_cases c0 : j = 0
  · rw [if_pos c0, if_pos c0] <;> first | (exfalso; omega) | rfl
  rw [if_neg c0, if_neg c0]
  by_cases c1 : j < 30
  · rw [if_pos c1, if_pos c1] <;> first | (exfalso; omega) | rfl
  rw [if_neg c1, if_neg c1]
  by_cases c2 : j < 59
  · rw [if_pos c2, if_pos c2] <;> first | (exfalso; omega) | rfl
  rw [if_neg c2, if_neg c2]
  by_cases c3 : j < 88
  · rw [if_pos c3, if_pos c3] <;> first | (exfalso; omega) | rfl
  rw [if_neg c3, if_neg c3]
  by_cases c4 : j = 88
  · rw [if_pos c4, if_pos c4] <;> first | (exfalso; omega) | rfl
  rw [if_neg c4, if_neg c4]
  by_cases c5 : j = 89
  · rw [if_pos c5, if_pos c5] <;> first | (exfalso; omega) | rfl
  rw [if_neg c5, if_neg c5]
  by_cases c6 : j < 119
  · rw [if_pos c6, if_pos c6] <;> first | (exfalso; omega) | rfl
  rw [if_neg c6, if_neg c6]
  by_cases c7 : j < 148
  · rw [if_pos c7, if_pos c7] <;> first | (exfalso; omega) | rfl
  rw [if_neg c7, if_neg c7]
  by_cases c8 : j < 177
  · rw [if_pos c8, if_pos c8] <;> first | (exfalso; omega) | rfl
  rw [if_neg c8, if_neg c8]
  by_cases c9 : j < 206
  · rw [if_pos c9, if_pos c9] <;> first | (exfalso; omega) | rfl
  rw [if_neg c9, if_neg c9]
  by_cases c10 : j = 206
  · rw [if_pos c10, if_pos c10] <;> first | (exfalso; omega) | rfl
  rw [if_neg c10, if_neg c10]
  by_cases c11 : j = 207
  · rw [if_pos c11, if_pos c11] <;> first | (exfalso; omega) | rfl
  rw [if_neg c11, if_neg c11]
  by_cases c12 : j = 208
  · rw [if_pos c12, if_pos c12] <;> first | (exfalso; omega) | rfl
  rw [if_neg c12, if_neg c12]
  by_cases c13 : j = 209
  · rw [if_pos c13, if_pos c13] <;> first | (exfalso; omega) | rfl
  rw [if_neg c13, if_neg c13]
  first | (exfalso; omega) | rfl
