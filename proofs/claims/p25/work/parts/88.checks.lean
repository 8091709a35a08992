/-! what the law asks of a system at rest: ports, table, sums -/
def aS (S : Sy) (p : Int32) : Nat → Int32
  | 0 => 0
  | j + 1 => aS S p j + xAccount S p (nI (j + 1))
def PQ (S : Sy) (p j : Int32) : Prop := (0 < j → ¬ xQueued S p (j - 1) 2 - xQueued S p j 2 < 0 ∧ (xQueued S p (j - 1) 2 - xQueued S p j 2 = 0 → xQueued S p (j - 1) 3 < xQueued S p j 3)) ∧ xQueued S p j 3 < xCount S 12
def PK (S : Sy) (k m : Nat) : Prop :=
  xPort S (nI k) 5 = nI m ∧ aS S (nI k) 6 = xAccount S (nI k) 0 ∧ ¬ xAccount S (nI k) 7 - xAccount S (nI k) 9 - nI m < 0 ∧ ¬ xAccount S (nI k) 8 < xAccount S (nI k) 7 - xAccount S (nI k) 9 - nI m ∧ ¬ (12 : Int32) < nI m ∧
  ¬ xAccount S (nI k) 9 < xAccount S (nI k) 10 ∧ xAccount S (nI k) 11 = -2 ∧ (xPort S (nI k) 1 = 1 ↔ xPort S (nI k) 0 = 1 ∧ xPort S (nI k) 2 = 0) ∧ (0 < xPort S (nI k) 2 → ¬ 0 < xPort S (nI k) 6) ∧ ¬ 50 < xPort S (nI k) 7 ∧ (∀ j, j < m → PQ S (nI k) (nI j)) ∧
  (¬ xPort S (nI k) 4 = -4 → ¬ xPort S (nI k) 4 = nI k ∧ xPort S (xPort S (nI k) 4) 4 = nI k) ∧ xQueued S (nI k) (nI m) 0 = -4 ∧ xQueued S (nI k) (-1) 0 = -2 ∧ m ≤ 12
theorem open_1 {σ : St} {k : Nat} (hk : k < 8) : (if pOpen σ (nI k) = 0 then (0 : Int32) else 1) = 1 ↔ σ.1 1 k = 1 ∧ σ.1 2 k = 0 := by
  constructor
  · intro h
    refine open_0 hk fun q => ?_
    rw [if_pos q] at h
    exact absurd h (by decide)
  · rintro ⟨h1, h2⟩
    have : ¬ pOpen σ (nI k) = 0 := by
      unfold pOpen
      rw [oAt_k hk (by decide), oAt_k hk (by decide), if_pos h1, if_pos h2]
      decide
    rw [if_neg this]
theorem up_1 {σ : St} {k : Nat} (hk : k < 8) : (if pUp σ (nI k) = 0 then (0 : Int32) else 1) = 1 ↔ σ.1 1 k = 1 := by
  unfold pUp
  rw [oAt_k hk (by decide)]
  by_cases c : σ.1 1 k = 1
  · rw [if_pos c, if_neg (show ¬ (1 : Int32) = 0 by decide)]
    exact ⟨fun _ => c, fun _ => rfl⟩
  · rw [if_neg c, if_pos rfl]
    exact ⟨fun q => absurd q (by decide), fun q => absurd q c⟩
theorem pk_k {C N K k : Nat} {S : Sy} (hK : K < 500000000) (hN : N < 500000000) (hk : k < 8) (h : IV C N K (S.1 0)) : ∃ m, PK S k m := by
  obtain ⟨h1, h2, h3, h4, h5, h6, h7, h8, h9, hA, hQ, hT, hW⟩ := h
  obtain ⟨m, g1, g2, g4, g5⟩ := hQ k hk
  obtain ⟨p, d, s, v, m', g, q1, q2, q3, q4, q5, q6, e1, e2, e3, e4, e5⟩ := hA k hk
  have em : m = m' := (nI_eq (by omega) (by omega)).mp (g2.symm.trans e5)
  subst em
  have gone : xAccount S (nI k) 7 - xAccount S (nI k) 9 - nI m = nI g := by
    rw [xa7 hk, xa9 hk, e1, e3, pk_sub (by omega), pk_sub (by omega)]
    congr 1
    omega
  obtain ⟨L, l1, l2, l3⟩ := h5 k hk
  refine ⟨m, (xp5 hk).trans g2, ?_, ?_, ?_, ?_, ?_, xa11 hk, ?_, ?_, ?_, fun j hj => ?_, ?_, xq4 hk g1 g2, xq2 hk, g1⟩
  · rw [xa0 hk, h9 k hk]
    unfold s6
    show 0 + xAccount S (nI k) (nI 1) + xAccount S (nI k) (nI 2) + xAccount S (nI k) (nI 3) + xAccount S (nI k) (nI 4) + xAccount S (nI k) (nI 5) + xAccount S (nI k) (nI 6) = _
    rw [xac hk (by decide), xac hk (by decide), xac hk (by decide), xac hk (by decide), xac hk (by decide), xac hk (by decide)]
  · rw [gone]; exact nI_pos (by omega)
  · rw [gone, xa8 hk, e2]; exact nI_nlt (by omega) (by omega)
  · exact nI_nlt (a := 12) (b := m) (by omega) (by omega)
  · rw [xa9 hk, xa10 hk, e3, e4]; exact nI_nlt (by omega) (by omega)
  · rw [xp1 hk, xp0 hk, xp2 hk, open_1 hk, up_1 hk]
  · rw [xp2 hk, xp6 hk, l2, tw_k 99 (Nat.le_refl 99)]
    intro q
    have : L ≠ 0 := fun z => by
      subst z
      exact absurd q (by decide)
    rw [tw_0 (l3 this) 99 (Nat.le_refl 99)]
    decide
  · rw [xp7 hk]
    obtain ⟨n, n1, n2⟩ := h8 k hk
    rw [n2]
    exact nI_nlt (a := 50) (b := n) (by omega) (by omega)
  · refine ⟨fun hj0 => ?_, ?_⟩
    · have j0 : 0 < j := (nI_ltI (a := 0) (b := j) (by omega) (by omega)).mp hj0
      obtain ⟨i, rfl⟩ : ∃ i, j = i + 1 := ⟨j - 1, by omega⟩
      rw [nI_pred]
      have x2 : xQueued S (nI k) (nI i) 2 = (S.1 0).1 8 (48 * k + 4 * i + 2) := xqu (w := 2) hk (by decide) g1 g2 (by omega)
      have x3 : xQueued S (nI k) (nI i) 3 = (S.1 0).1 8 (48 * k + 4 * i + 3) := xqu (w := 3) hk (by decide) g1 g2 (by omega)
      have y2 : xQueued S (nI k) (nI (i + 1)) 2 = (S.1 0).1 8 (48 * k + 4 * (i + 1) + 2) := xqu (w := 2) hk (by decide) g1 g2 hj
      have y3 : xQueued S (nI k) (nI (i + 1)) 3 = (S.1 0).1 8 (48 * k + 4 * (i + 1) + 3) := xqu (w := 3) hk (by decide) g1 g2 hj
      rw [x2, x3, y2, y3]
      have hb : Bf (qF ((S.1 0).1 8) k i) (qF ((S.1 0).1 8) k (i + 1)) := g4 i (i + 1) (by omega) hj
      obtain ⟨-, -, ⟨a1, b1, c1⟩, -⟩ := g5 i (by omega)
      obtain ⟨-, -, ⟨a2, b2, c2⟩, -⟩ := g5 (i + 1) hj
      unfold Bf at hb
      have c1 : (S.1 0).1 8 (48 * k + 4 * i + 2) = nI a1 := c1
      have c2 : (S.1 0).1 8 (48 * k + 4 * (i + 1) + 2) = nI a2 := c2
      have hb : ((S.1 0).1 8 (48 * k + 4 * (i + 1) + 2)).toInt < ((S.1 0).1 8 (48 * k + 4 * i + 2)).toInt ∨ ((S.1 0).1 8 (48 * k + 4 * i + 2)).toInt = ((S.1 0).1 8 (48 * k + 4 * (i + 1) + 2)).toInt ∧ ((S.1 0).1 8 (48 * k + 4 * i + 3)).toInt < ((S.1 0).1 8 (48 * k + 4 * (i + 1) + 3)).toInt := hb
      rw [c1, c2, nI_toInt (by omega), nI_toInt (by omega)] at hb
      rw [c1, c2, pk_sub (by omega)]
      refine ⟨nI_pos (by omega), fun z => ?_⟩
      have : a1 - a2 = 0 := (nI_eq (b := 0) (by omega) (by decide)).mp z
      rw [Int32.lt_iff_toInt_lt]
      omega
    · have y3 : xQueued S (nI k) (nI j) 3 = (S.1 0).1 8 (48 * k + 4 * j + 3) := xqu (w := 3) hk (by decide) g1 g2 hj
      obtain ⟨-, -, -, n, n1, n2⟩ := g5 j hj
      have n2 : (S.1 0).1 8 (48 * k + 4 * j + 3) = nI n := n2
      rw [y3, n2, show xCount S 12 = nI N from h2]
      exact nI_lt n1 (by omega)
  · intro hn
    rw [xp4 hk] at hn ⊢
    rcases h6 k hk with q | ⟨i, i1, i2, i3, i4⟩
    · exact absurd q hn
    · rw [i3, xp4 i1, i4]
      exact ⟨fun q => i2 ((nI_eq (by omega) (by omega)).mp q), rfl⟩
/-- the table's entries, counted by their ports -/
def wF (S : Sy) : Nat → Nat → Int32
  | 0 => fun _ => 0
  | j + 1 => upd (wF S j) (xEntry S (nI j) 1).toNatClampNeg (wF S j (xEntry S (nI j) 1).toNatClampNeg + 1)
def TE (S : Sy) (j : Nat) : Prop := ¬ xEntry S (nI j) 0 < 1 ∧ (0 < nI j → xEntry S (nI j - 1) 0 < xEntry S (nI j) 0) ∧ xWhere S (xEntry S (nI j) 0) = xEntry S (nI j) 1 ∧ ¬ xEntry S (nI j) 2 < 0 ∧ ¬ xEntry S (nI j) 3 < 0 ∧ vp_in (xEntry S (nI j) 1) 8
def TK (S : Sy) (n : Nat) : Prop := xCount S 5 = nI n ∧ (∀ j, j < n → TE S j) ∧ (∀ q, q < 8 → wF S n (nI q).toNatClampNeg = xPort S (nI q) 6) ∧ ¬ (20 : Int32) < nI n ∧ xEntry S (nI n) 0 = -4 ∧ xEntry S (-1) 0 = -2 ∧ xWhere S 0 = -2 ∧ xWhere S 100 = -2 ∧ n ≤ 20
theorem wf_k {C N K : Nat} {S : Sy} (h : IV C N K (S.1 0)) {q : Nat} (hq : q < 8) : ∀ A, A ≤ 99 → wF S (te ((S.1 0).1 9) A) q = nI (tw ((S.1 0).1 9) (nI q) A)
  | 0, _ => rfl
  | A + 1, hA => by
    have ih := wf_k h hq A (by omega)
    have e : te ((S.1 0).1 9) (A + 1) = te ((S.1 0).1 9) A + b4 ((S.1 0).1 9 (A + 1)) := rfl
    unfold tw
    by_cases c : (S.1 0).1 9 (A + 1) = -4
    · rw [e, c, b4_0, Nat.add_zero, if_neg (n4' (by omega))]
      exact ih
    · rw [b4_1 c] at e
      have hle := te_mono (f := (S.1 0).1 9) hA
      obtain ⟨a, p, a1, a2, hp, ep, a5, -, x1, -, -⟩ := ent_k (j := te ((S.1 0).1 9) A) h (by omega)
      have ea : a = A + 1 := te_uniq a1 (by omega) a5 (by rw [Nat.add_sub_cancel]) (by rw [ep]; exact n4 (by omega)) c
      subst ea
      rw [e]
      unfold wF
      rw [x1, nI_clamp (by omega), ep]
      by_cases c2 : q = p
      · subst c2
        rw [upd_s, if_pos rfl, ih, nI_succ]
      · rw [upd_n c2, if_neg (fun z => c2 ((nI_eq (by omega) (by omega)).mp z).symm)]
        exact ih
theorem tk_k {C N K : Nat} {S : Sy} (hC : C < 100000000) (hK : K < 100000000) (h : IV C N K (S.1 0)) : ∃ n, TK S n := by
  have hT := h.2.2.2.2.2.2.2.2.2.2.2.1
  refine ⟨te ((S.1 0).1 9) 99, hT.2.2.2.1, fun j hj => ?_, fun q hq => ?_, nI_nlt (a := 20) hT.2.2.2.2 (by omega), ?_, rfl, rfl, rfl, hT.2.2.2.2⟩
  · obtain ⟨a, q, a1, a2, hq, eq, a5, x0, x1, x2, x3⟩ := ent_k h hj
    have h20 := hT.2.2.2.2
    refine ⟨?_, fun hj0 => ?_, ?_, ?_, ?_, ?_⟩
    · rw [x0]; exact nI_nlt (b := 1) a1 (by omega)
    · have j0 : 0 < j := (nI_ltI (a := 0) (b := j) (by omega) (by omega)).mp hj0
      obtain ⟨i, rfl⟩ : ∃ i, j = i + 1 := ⟨j - 1, by omega⟩
      rw [nI_pred]
      obtain ⟨a', q', b1, b2, hq', eq', b5, y0, -⟩ := ent_k (j := i) h (by omega)
      rw [x0, y0]
      refine nI_lt ?_ (by omega)
      by_cases c : a' < a
      · exact c
      · have := te_mono (f := (S.1 0).1 9) (show a - 1 ≤ a' - 1 by omega)
        omega
    · rw [x0, x1, xwh a1 a2, eq]
    · obtain ⟨t, t1, t2⟩ := hT.2.2.1 a a2
      rw [x2, t2, h.1, pk_sub t1]
      exact nI_pos (by omega)
    · obtain ⟨y, y1, y2⟩ := late_k (σ := S.1 0) a2 h.2.2.2.2.2.2.2.2.2.2.2.2 10 (Nat.le_refl 10)
      rw [x3, y2]
      exact nI_pos (by omega)
    · rw [x1]; exact vp_in_nI hq (by decide)
  · rw [nI_clamp (by omega), xp6 hq, tw_k 99 (Nat.le_refl 99), wf_k h hq 99 (Nat.le_refl 99)]
  · have h20 := hT.2.2.2.2
    unfold xEntry
    rw [if_neg (nI_pos (by omega)), if_neg (show ¬ (0 : Int32) < 0 by decide), if_neg (show ¬ (3 : Int32) < 0 by decide), if_neg]
    rw [hT.2.2.2.1]
    exact nI_nlt (Nat.le_refl _) (by omega)
/-- the sums over the ports -/
def soO (S : Sy) : Nat → Int32
  | 0 => 0
  | j + 1 => soO S j + xPort S (nI j) 1
def soH (S : Sy) : Nat → Int32
  | 0 => 0
  | j + 1 => soH S j + (if 0 < xPort S (nI j) 2 then 1 else 0)
def soC (S : Sy) : Nat → Int32
  | 0 => 0
  | j + 1 => soC S j + (if xPort S (nI j) 4 < 0 then 0 else 1)
def soF (S : Sy) : Nat → Int32
  | 0 => 0
  | j + 1 => soF S j + xPort S (nI j) 5
def soA (S : Sy) : Nat → Int32
  | 0 => 0
  | j + 1 => soA S j + xAccount S (nI j) 0
def soL (S : Sy) : Nat → Int32
  | 0 => 0
  | j + 1 => soL S j ||| (if xPort S (nI j) 4 < 0 then 0 else if xPort S (nI j) 1 = 1 then (if xPort S (xPort S (nI j) 4) 1 = 1 then (1 : Int32) <<< (nI j &&& 31) else 0) else 0)
def SK (S : Sy) : Prop := xLoopK (S.1 0) 8 = soL S 8 ∧ xCount S 6 = soO S 8 ∧ xCount S 7 = soH S 8 ∧ 2 * xCount S 8 = soC S 8 ∧ xCount S 9 = soF S 8 ∧ xCount S 10 = soA S 8 ∧ xPort S 8 0 = -1 ∧ xCount S 15 = -2 ∧ (∃ n, TK S n) ∧ ∀ k, k < 8 → ∃ m, PK S k m
theorem xp1b {S : Sy} {k : Nat} (hk : k < 8) : xPort S (nI k) 1 = if ob (S.1 0) k = true then 1 else 0 := by
  rw [xp1 hk]
  by_cases c : pOpen (S.1 0) (nI k) = 0
  · rw [if_pos c, if_neg (fun q => ob_t.mp q c)]
  · rw [if_neg c, if_pos (ob_t.mpr c)]
theorem so_o (S : Sy) : xCount S 6 = soO S 8 := by
  have st : ∀ j, j < 8 → soO S (j + 1) = soO S j + (if ob (S.1 0) j = true then 1 else 0) := fun j hj => by
    show soO S j + xPort S (nI j) 1 = _
    rw [xp1b hj]
  rw [xc6, ones_b, wb_8, bitc8, st 7 (by decide), st 6 (by decide), st 5 (by decide), st 4 (by decide), st 3 (by decide), st 2 (by decide), st 1 (by decide), st 0 (by decide)]
  rfl
theorem so_h (S : Sy) : ∀ j, j ≤ 8 → pQuar (S.1 0) j = soH S j
  | 0, _ => rfl
  | j + 1, hj => by
    unfold pQuar soH
    rw [so_h S j (by omega), xp2 (by omega), oAt_k (by omega) (by decide)]
    by_cases c : 0 < (S.1 0).1 2 j
    · rw [if_pos c, if_pos c]
    · rw [if_neg c, if_neg c, Int32.add_zero]
theorem so_c {S : Sy} (hF : IvF ((S.1 0).1 4)) : ∀ j, j ≤ 8 → pCab (S.1 0) j = nI (fe ((S.1 0).1 4) j) ∧ soC S j = nI (fe ((S.1 0).1 4) j)
  | 0, _ => ⟨rfl, rfl⟩
  | j + 1, hj => by
    obtain ⟨i1, i2⟩ := so_c hF j (by omega)
    unfold pCab soC fe
    rw [i1, i2, xp4 (by omega), oAt_k (by omega) (by decide)]
    rcases hF j (by omega) with c | ⟨i, q1, q2, q3, q4⟩
    · rw [c, if_pos rfl, if_pos (show (-4 : Int32) < 0 by decide), b4_0, Int32.add_zero]
      exact ⟨rfl, rfl⟩
    · rw [q3, if_neg (n4 (by omega)), if_neg (nI_pos (by omega)), b4_n (by omega), nI_succ]
      exact ⟨rfl, rfl⟩
theorem so_f (S : Sy) : ∀ j, j ≤ 8 → rSum ((S.1 0).1 7) j = soF S j
  | 0, _ => rfl
  | j + 1, hj => by
    unfold rSum soF
    rw [so_f S j (by omega), xp5 (by omega)]
theorem so_a (S : Sy) : ∀ j, j ≤ 8 → pAll (S.1 0) j = soA S j
  | 0, _ => rfl
  | j + 1, hj => by
    unfold pAll soA
    rw [so_a S j (by omega)]
    unfold xAccount
    rw [if_neg (isP_k (by omega)), if_neg (show ¬ (0 : Int32) < 0 by decide), if_pos (show (0 : Int32) < 11 by decide)]
theorem so_l {S : Sy} (hF : IvF ((S.1 0).1 4)) : ∀ j, j ≤ 8 → xLoopK (S.1 0) j = soL S j
  | 0, _ => rfl
  | j + 1, hj => by
    unfold xLoopK soL
    have b1 := bit_k (b := ob (S.1 0)) (by omega : j < 8)
    have ef : pFar (S.1 0) (nI j) = (S.1 0).1 4 j := oAt_k (by omega) (by decide)
    rw [so_l hF j (by omega), xp4 (by omega), xp1b (by omega), ones_b, ef]
    rcases hF j (by omega) with c | ⟨i, q1, q2, q3, q4⟩
    · rw [c, if_pos rfl, if_pos (show (-4 : Int32) < 0 by decide), Int32.or_zero]
    · have b2 := bit_k (b := ob (S.1 0)) q1
      rw [q3, if_neg (n4 (by omega)), if_neg (nI_pos (by omega)), xp1b q1]
      by_cases c1 : ob (S.1 0) j = true
      · rw [if_pos (b1.mpr c1), if_pos c1, if_pos rfl]
        by_cases c2 : ob (S.1 0) i = true
        · rw [if_pos (b2.mpr c2), if_pos c2, if_pos rfl]
        · rw [if_neg (fun q => c2 (b2.mp q)), if_neg c2, if_neg (show ¬ (0 : Int32) = 1 by decide), Int32.or_zero]
      · rw [if_neg (fun q => c1 (b1.mp q)), if_neg c1, if_neg (show ¬ (0 : Int32) = 1 by decide), Int32.or_zero]
theorem sk_k {C N K : Nat} {S : Sy} (hC : C < 100000000) (hN : N < 100000000) (hK : K < 100000000) (h : IV C N K (S.1 0)) : SK S := by
  have hF := h.2.2.2.2.2.1
  have hE : fe ((S.1 0).1 4) 8 % 2 = 0 := h.2.2.2.2.2.2.1
  have hle := fe_le (f := (S.1 0).1 4) 8
  refine ⟨so_l hF 8 (Nat.le_refl 8), so_o S, (xc7).trans (so_h S 8 (Nat.le_refl 8)), ?_, (xc9).trans (so_f S 8 (Nat.le_refl 8)), (xc10).trans (so_a S 8 (Nat.le_refl 8)), rfl, rfl, tk_k hC hK h, fun k hk => pk_k (by omega) (by omega) hk h⟩
  obtain ⟨c1, c2⟩ := so_c hF 8 (Nat.le_refl 8)
  rw [xc8, c1, c2, show (2 : Int32) = nI 2 from rfl, pk_div (by omega) (by decide) (by decide), pk_mul]
  congr 1
  omega
