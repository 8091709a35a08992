/-! what is told, in numbers -/
theorem isP_k {k : Nat} (hk : k < 8) : ¬ isPort (nI k) = 0 := by
  unfold isPort
  rw [if_neg (nI_pos (by omega)), if_pos (nlt_lit (b := 8) hk (by decide))]
  decide
theorem isA_k {a : Nat} (h1 : 1 ≤ a) (h2 : a < 100) : ¬ isAddr (nI a) = 0 := by
  unfold isAddr
  rw [if_neg (show ¬ nI a < (1 : Int32) from nI_nlt (b := 1) h1 (by omega)), if_neg (show ¬ (99 : Int32) < nI a from nI_nlt (a := 99) (b := a) (by omega) (by omega))]
  decide
theorem isD_k {b : Nat} (hb : b < 100) : ¬ isDest (nI b) = 0 := by
  unfold isDest
  by_cases c : b = 0
  · subst c
    rw [if_pos (show nI 0 = (0 : Int32) from rfl)]
    decide
  · rw [if_neg (nI_ne0 (by omega) (by omega)), if_neg (isA_k (by omega) hb)]
    decide
section TOLD
variable {S : Sy} {k : Nat}
theorem xp0 (hk : k < 8) : xPort S (nI k) 0 = if pUp (S.1 0) (nI k) = 0 then 0 else 1 := by
  unfold xPort
  rw [if_neg (isP_k hk), if_pos rfl]
theorem xp1 (hk : k < 8) : xPort S (nI k) 1 = if pOpen (S.1 0) (nI k) = 0 then 0 else 1 := by
  unfold xPort
  rw [if_neg (isP_k hk), if_neg (show ¬ (1 : Int32) = 0 by decide), if_pos rfl]
theorem xp2 (hk : k < 8) : xPort S (nI k) 2 = (S.1 0).1 2 k := by
  unfold xPort
  rw [if_neg (isP_k hk), if_neg (show ¬ (2 : Int32) = 0 by decide), if_neg (show ¬ (2 : Int32) = 1 by decide), if_pos rfl, oAt_k hk (by decide)]
theorem xp3 (hk : k < 8) : xPort S (nI k) 3 = (S.1 0).1 3 k := by
  unfold xPort
  rw [if_neg (isP_k hk), if_neg (show ¬ (3 : Int32) = 0 by decide), if_neg (show ¬ (3 : Int32) = 1 by decide), if_neg (show ¬ (3 : Int32) = 2 by decide), if_pos rfl, oAt_k hk (by decide)]
theorem xp4 (hk : k < 8) : xPort S (nI k) 4 = (S.1 0).1 4 k := by
  unfold xPort
  rw [if_neg (isP_k hk), if_neg (show ¬ (4 : Int32) = 0 by decide), if_neg (show ¬ (4 : Int32) = 1 by decide), if_neg (show ¬ (4 : Int32) = 2 by decide), if_neg (show ¬ (4 : Int32) = 3 by decide), if_pos rfl]
  exact oAt_k hk (by decide)
theorem xp5 (hk : k < 8) : xPort S (nI k) 5 = (S.1 0).1 7 k := by
  unfold xPort
  rw [if_neg (isP_k hk), if_neg (show ¬ (5 : Int32) = 0 by decide), if_neg (show ¬ (5 : Int32) = 1 by decide), if_neg (show ¬ (5 : Int32) = 2 by decide), if_neg (show ¬ (5 : Int32) = 3 by decide), if_neg (show ¬ (5 : Int32) = 4 by decide), if_pos rfl, oAt_k hk (by decide)]
theorem xp6 (hk : k < 8) : xPort S (nI k) 6 = tWith (S.1 0) (nI k) 99 := by
  unfold xPort
  rw [if_neg (isP_k hk), if_neg (show ¬ (6 : Int32) = 0 by decide), if_neg (show ¬ (6 : Int32) = 1 by decide), if_neg (show ¬ (6 : Int32) = 2 by decide), if_neg (show ¬ (6 : Int32) = 3 by decide), if_neg (show ¬ (6 : Int32) = 4 by decide), if_neg (show ¬ (6 : Int32) = 5 by decide), if_pos rfl]
theorem xp7 (hk : k < 8) : xPort S (nI k) 7 = (S.1 0).1 5 k := by
  unfold xPort
  rw [if_neg (isP_k hk), if_neg (show ¬ (7 : Int32) = 0 by decide), if_neg (show ¬ (7 : Int32) = 1 by decide), if_neg (show ¬ (7 : Int32) = 2 by decide), if_neg (show ¬ (7 : Int32) = 3 by decide), if_neg (show ¬ (7 : Int32) = 4 by decide), if_neg (show ¬ (7 : Int32) = 5 by decide), if_neg (show ¬ (7 : Int32) = 6 by decide), if_pos rfl, oAt_k hk (by decide)]
theorem xac (hk : k < 8) {w : Nat} (hw : w < 11) : xAccount S (nI k) (nI w) = (S.1 0).1 6 (11 * k + w) := by
  unfold xAccount
  rw [if_neg (isP_k hk), if_neg (nI_pos (by omega)), if_pos (nlt_lit (b := 11) hw (by decide))]
  unfold pCredited
  rw [ix_cr, oAt_k (by omega) (by decide)]
theorem xa0 (hk : k < 8) : xAccount S (nI k) 0 = (S.1 0).1 6 (11 * k) := xac (w := 0) hk (by decide)
theorem xa7 (hk : k < 8) : xAccount S (nI k) 7 = (S.1 0).1 6 (11 * k + 7) := xac (w := 7) hk (by decide)
theorem xa8 (hk : k < 8) : xAccount S (nI k) 8 = (S.1 0).1 6 (11 * k + 8) := xac (w := 8) hk (by decide)
theorem xa9 (hk : k < 8) : xAccount S (nI k) 9 = (S.1 0).1 6 (11 * k + 9) := xac (w := 9) hk (by decide)
theorem xa10 (hk : k < 8) : xAccount S (nI k) 10 = (S.1 0).1 6 (11 * k + 10) := xac (w := 10) hk (by decide)
theorem xa11 (hk : k < 8) : xAccount S (nI k) 11 = -2 := by
  unfold xAccount
  rw [if_neg (isP_k hk), if_neg (show ¬ (11 : Int32) < 0 by decide), if_neg (show ¬ (11 : Int32) < 11 by decide)]
theorem xqu (hk : k < 8) {i w m : Nat} (hw : w < 4) (hm : m ≤ 12) (e7 : (S.1 0).1 7 k = nI m) (hi : i < m) : xQueued S (nI k) (nI i) (nI w) = (S.1 0).1 8 (48 * k + 4 * i + w) := by
  unfold xQueued
  rw [if_neg (isP_k hk), if_neg (nI_pos (by omega)), if_neg (nI_pos (by omega)), if_pos (nlt_lit (b := 4) hw (by decide)), oAt_k hk (by decide), e7, if_pos (nI_lt hi (by omega)), qPart_k hk (by omega) hw]
theorem xq4 (hk : k < 8) {m : Nat} (hm : m ≤ 12) (e7 : (S.1 0).1 7 k = nI m) : xQueued S (nI k) (nI m) 0 = -4 := by
  unfold xQueued
  rw [if_neg (isP_k hk), if_neg (nI_pos (by omega)), if_neg (show ¬ (0 : Int32) < 0 by decide), if_pos (show (0 : Int32) < 4 by decide), oAt_k hk (by decide), e7, if_neg (nI_nlt (Nat.le_refl m) (by omega))]
theorem xq2 (hk : k < 8) : xQueued S (nI k) (-1) 0 = -2 := by
  unfold xQueued
  rw [if_neg (isP_k hk), if_pos (show (-1 : Int32) < 0 by decide)]
theorem xwh {a : Nat} (h1 : 1 ≤ a) (h2 : a < 100) : xWhere S (nI a) = (S.1 0).1 9 a := by
  unfold xWhere
  rw [if_neg (isA_k h1 h2)]
  exact oAt_k h2 (by decide)
theorem xc0 {w : Nat} (hw : w < 4) : xCount S (nI w) = (S.1 0).1 0 w := by
  unfold xCount
  rcases (show w = 0 ∨ w = 1 ∨ w = 2 ∨ w = 3 by omega) with rfl | rfl | rfl | rfl
  · rw [if_pos (show nI 0 = (0 : Int32) from rfl)]; exact oAt_k hw (by decide)
  · rw [if_neg (show ¬ nI 1 = (0 : Int32) by decide), if_pos (show nI 1 = (1 : Int32) from rfl)]; exact oAt_k hw (by decide)
  · rw [if_neg (show ¬ nI 2 = (0 : Int32) by decide), if_neg (show ¬ nI 2 = (1 : Int32) by decide), if_pos (show nI 2 = (2 : Int32) from rfl)]; exact oAt_k hw (by decide)
  · rw [if_neg (show ¬ nI 3 = (0 : Int32) by decide), if_neg (show ¬ nI 3 = (1 : Int32) by decide), if_neg (show ¬ nI 3 = (2 : Int32) by decide), if_pos (show nI 3 = (3 : Int32) from rfl)]; exact oAt_k hw (by decide)
theorem xc4 : xCount S 4 = (S.1 0).2 0 := rfl
theorem xc5 : xCount S 5 = (S.1 0).2 3 := rfl
theorem xc6 : xCount S 6 = bitC (pOnes (S.1 0) 8) := by
  unfold xCount
  rw [if_neg (show ¬ (6 : Int32) = 0 by decide), if_neg (show ¬ (6 : Int32) = 1 by decide), if_neg (show ¬ (6 : Int32) = 2 by decide), if_neg (show ¬ (6 : Int32) = 3 by decide), if_neg (show ¬ (6 : Int32) = 4 by decide), if_neg (show ¬ (6 : Int32) = 5 by decide), if_pos rfl]
theorem xc7 : xCount S 7 = pQuar (S.1 0) 8 := by
  unfold xCount
  rw [if_neg (show ¬ (7 : Int32) = 0 by decide), if_neg (show ¬ (7 : Int32) = 1 by decide), if_neg (show ¬ (7 : Int32) = 2 by decide), if_neg (show ¬ (7 : Int32) = 3 by decide), if_neg (show ¬ (7 : Int32) = 4 by decide), if_neg (show ¬ (7 : Int32) = 5 by decide), if_neg (show ¬ (7 : Int32) = 6 by decide), if_pos rfl]
theorem xc8 : xCount S 8 = pCab (S.1 0) 8 / 2 := by
  unfold xCount
  rw [if_neg (show ¬ (8 : Int32) = 0 by decide), if_neg (show ¬ (8 : Int32) = 1 by decide), if_neg (show ¬ (8 : Int32) = 2 by decide), if_neg (show ¬ (8 : Int32) = 3 by decide), if_neg (show ¬ (8 : Int32) = 4 by decide), if_neg (show ¬ (8 : Int32) = 5 by decide), if_neg (show ¬ (8 : Int32) = 6 by decide), if_neg (show ¬ (8 : Int32) = 7 by decide), if_pos rfl]
theorem xc9 : xCount S 9 = rSum ((S.1 0).1 7) 8 := by
  unfold xCount
  rw [if_neg (show ¬ (9 : Int32) = 0 by decide), if_neg (show ¬ (9 : Int32) = 1 by decide), if_neg (show ¬ (9 : Int32) = 2 by decide), if_neg (show ¬ (9 : Int32) = 3 by decide), if_neg (show ¬ (9 : Int32) = 4 by decide), if_neg (show ¬ (9 : Int32) = 5 by decide), if_neg (show ¬ (9 : Int32) = 6 by decide), if_neg (show ¬ (9 : Int32) = 7 by decide), if_neg (show ¬ (9 : Int32) = 8 by decide), if_pos rfl]
theorem xc10 : xCount S 10 = pAll (S.1 0) 8 := by
  unfold xCount
  rw [if_neg (show ¬ (10 : Int32) = 0 by decide), if_neg (show ¬ (10 : Int32) = 1 by decide), if_neg (show ¬ (10 : Int32) = 2 by decide), if_neg (show ¬ (10 : Int32) = 3 by decide), if_neg (show ¬ (10 : Int32) = 4 by decide), if_neg (show ¬ (10 : Int32) = 5 by decide), if_neg (show ¬ (10 : Int32) = 6 by decide), if_neg (show ¬ (10 : Int32) = 7 by decide), if_neg (show ¬ (10 : Int32) = 8 by decide), if_neg (show ¬ (10 : Int32) = 9 by decide), if_pos rfl]
theorem xc11 : xCount S 11 = (S.1 0).2 2 := rfl
theorem xc12 : xCount S 12 = (S.1 0).2 1 := rfl
theorem xc13 : xCount S 13 = S.2.1 2 := rfl
theorem xc15 : xCount S 15 = -2 := rfl
/-- the first thirteen counts speak of the present State alone -/
theorem xc_cg {T : Sy} {w : Nat} (hw : w < 13) (e : T.1 0 = S.1 0) : xCount T (nI w) = xCount S (nI w) := by
  rcases (show w = 0 ∨ w = 1 ∨ w = 2 ∨ w = 3 ∨ w = 4 ∨ w = 5 ∨ w = 6 ∨ w = 7 ∨ w = 8 ∨ w = 9 ∨ w = 10 ∨ w = 11 ∨ w = 12 by omega) with rfl | rfl | rfl | rfl | rfl | rfl | rfl | rfl | rfl | rfl | rfl | rfl | rfl
  · rw [xc0 (w := 0) (by decide), xc0 (w := 0) (by decide), e]
  · rw [xc0 (w := 1) (by decide), xc0 (w := 1) (by decide), e]
  · rw [xc0 (w := 2) (by decide), xc0 (w := 2) (by decide), e]
  · rw [xc0 (w := 3) (by decide), xc0 (w := 3) (by decide), e]
  · exact (xc4 (S := T)).trans ((congrArg (fun σ : St => σ.2 0) e).trans (xc4 (S := S)).symm)
  · exact (xc5 (S := T)).trans ((congrArg (fun σ : St => σ.2 3) e).trans (xc5 (S := S)).symm)
  · exact (xc6 (S := T)).trans ((congrArg (fun σ : St => bitC (pOnes σ 8)) e).trans (xc6 (S := S)).symm)
  · exact (xc7 (S := T)).trans ((congrArg (fun σ : St => pQuar σ 8) e).trans (xc7 (S := S)).symm)
  · exact (xc8 (S := T)).trans ((congrArg (fun σ : St => pCab σ 8 / 2) e).trans (xc8 (S := S)).symm)
  · exact (xc9 (S := T)).trans ((congrArg (fun σ : St => rSum (σ.1 7) 8) e).trans (xc9 (S := S)).symm)
  · exact (xc10 (S := T)).trans ((congrArg (fun σ : St => pAll σ 8) e).trans (xc10 (S := S)).symm)
  · exact (xc11 (S := T)).trans ((congrArg (fun σ : St => σ.2 2) e).trans (xc11 (S := S)).symm)
  · exact (xc12 (S := T)).trans ((congrArg (fun σ : St => σ.2 1) e).trans (xc12 (S := S)).symm)
end TOLD
-- entries
theorem te_mono {f : Nat → Int32} : ∀ {a b : Nat}, a ≤ b → te f a ≤ te f b
  | a, 0, h => by
    obtain rfl : a = 0 := by omega
    exact Nat.le_refl _
  | a, b + 1, h => by
    by_cases c : a = b + 1
    · rw [c]; exact Nat.le_refl _
    · have := te_mono (f := f) (a := a) (b := b) (by omega)
      have e : te f (b + 1) = te f b + b4 (f (b + 1)) := rfl
      omega
theorem addr_k {σ : St} {j : Nat} (hj : j < te (σ.1 9) 99) (h20 : te (σ.1 9) 99 ≤ 20) : ∀ n k cc, k + n = 100 → 1 ≤ k → cc ≤ j → te (σ.1 9) (k - 1) = cc → ∃ a, 1 ≤ a ∧ a < 100 ∧ tAddr σ (nI j) n k (nI cc) = nI a ∧ ¬ σ.1 9 a = -4 ∧ te (σ.1 9) (a - 1) = j
  | 0, k, cc, h1, h2, h3, h4 => by
    rw [show k - 1 = 99 by omega] at h4
    omega
  | n + 1, k, cc, h1, h2, h3, h4 => by
    have ht : te (σ.1 9) k = cc + b4 (σ.1 9 k) := by
      obtain ⟨i, rfl⟩ : ∃ i, k = i + 1 := ⟨k - 1, by omega⟩
      rw [Nat.add_sub_cancel] at h4
      rw [← h4]
      rfl
    unfold tAddr
    rw [oAt_k (by omega) (by decide)]
    by_cases c : σ.1 9 k = -4
    · rw [if_pos c]
      rw [c, b4_0] at ht
      exact addr_k hj h20 n (k + 1) cc (by omega) (by omega) h3 (by rw [Nat.add_sub_cancel]; exact ht)
    · rw [if_neg c]
      rw [b4_1 c] at ht
      have hle := te_mono (f := σ.1 9) (show k ≤ 99 by omega)
      by_cases c2 : cc = j
      · rw [if_pos (by rw [c2])]
        exact ⟨k, h2, by omega, rfl, c, by rw [h4]; exact c2⟩
      · rw [if_neg (fun q => c2 ((nI_eq (by omega) (by omega)).mp q)), ← nI_succ]
        exact addr_k hj h20 n (k + 1) (cc + 1) (by omega) (by omega) (by omega) (by rw [Nat.add_sub_cancel]; exact ht)
theorem te_uniq {f : Nat → Int32} {a b j : Nat} (ha1 : 1 ≤ a) (hb1 : 1 ≤ b) (ha : te f (a - 1) = j) (hb : te f (b - 1) = j) (na : ¬ f a = -4) (nb : ¬ f b = -4) : a = b := by
  have sa : te f a = j + 1 := by
    obtain ⟨i, rfl⟩ : ∃ i, a = i + 1 := ⟨a - 1, by omega⟩
    rw [Nat.add_sub_cancel] at ha
    show te f i + b4 (f (i + 1)) = _
    rw [ha, b4_1 na]
  have sb : te f b = j + 1 := by
    obtain ⟨i, rfl⟩ : ∃ i, b = i + 1 := ⟨b - 1, by omega⟩
    rw [Nat.add_sub_cancel] at hb
    show te f i + b4 (f (i + 1)) = _
    rw [hb, b4_1 nb]
  by_cases c : a = b
  · exact c
  · exfalso
    by_cases c2 : a < b
    · have := te_mono (f := f) (show a ≤ b - 1 by omega)
      omega
    · have := te_mono (f := f) (show b ≤ a - 1 by omega)
      omega
/-- an entry of the table, by its place -/
theorem ent_k {C N K j : Nat} {S : Sy} (h : IV C N K (S.1 0)) (hj : j < te ((S.1 0).1 9) 99) : ∃ a q, 1 ≤ a ∧ a < 100 ∧ q < 8 ∧ (S.1 0).1 9 a = nI q ∧ te ((S.1 0).1 9) (a - 1) = j ∧ xEntry S (nI j) 0 = nI a ∧ xEntry S (nI j) 1 = nI q ∧ xEntry S (nI j) 2 = (S.1 0).2 0 - (S.1 0).1 10 a ∧ xEntry S (nI j) 3 = mLate (S.1 0) (nI a) 10 := by
  obtain ⟨t1, t2, t3, t4, t5⟩ := h.2.2.2.2.2.2.2.2.2.2.2.1
  obtain ⟨a, a1, a2, a3, a4, a5⟩ := addr_k hj t5 99 1 0 rfl (Nat.le_refl 1) (Nat.zero_le j) rfl
  have a3 : tAddr (S.1 0) (nI j) 99 1 0 = nI a := a3
  rcases t1 a a2 with q | ⟨q, hq, eq⟩
  · exact absurd q a4
  have l : ¬ nI j < (0 : Int32) := nI_pos (by omega)
  have lt : nI j < (S.1 0).2 3 := by rw [t4]; exact nI_lt hj (by omega)
  refine ⟨a, q, a1, a2, hq, eq, a5, ?_, ?_, ?_, ?_⟩
  · unfold xEntry
    rw [if_neg l, if_neg (show ¬ (0 : Int32) < 0 by decide), if_neg (show ¬ (3 : Int32) < 0 by decide), if_pos lt, if_pos rfl, a3]
  · unfold xEntry
    rw [if_neg l, if_neg (show ¬ (1 : Int32) < 0 by decide), if_neg (show ¬ (3 : Int32) < 1 by decide), if_pos lt, if_neg (show ¬ (1 : Int32) = 0 by decide), if_pos rfl, a3]
    exact (oAt_k a2 (by decide)).trans eq
  · unfold xEntry
    rw [if_neg l, if_neg (show ¬ (2 : Int32) < 0 by decide), if_neg (show ¬ (3 : Int32) < 2 by decide), if_pos lt, if_neg (show ¬ (2 : Int32) = 0 by decide), if_neg (show ¬ (2 : Int32) = 1 by decide), if_pos rfl, a3, oAt_k a2 (by decide)]
  · unfold xEntry
    rw [if_neg l, if_neg (show ¬ (3 : Int32) < 0 by decide), if_neg (show ¬ (3 : Int32) < 3 by decide), if_pos lt, if_neg (show ¬ (3 : Int32) = 0 by decide), if_neg (show ¬ (3 : Int32) = 1 by decide), if_neg (show ¬ (3 : Int32) = 2 by decide), a3]
theorem late_k {K a : Nat} {σ : St} (ha : a < 100) (hW : IvW K (σ.1 11)) : ∀ n, n ≤ 10 → nle (n * K) (mLate σ (nI a) n)
  | 0, _ => ⟨0, Nat.zero_le _, rfl⟩
  | n + 1, hn => by
    obtain ⟨x, x1, x2⟩ := late_k ha hW n (by omega)
    obtain ⟨y, y1, y2⟩ := hW (100 * n + a) (by omega)
    unfold mLate
    rw [x2, show (100 : Int32) = nI 100 from rfl, pk_mul, nI_add, oAt_k (by omega) (by decide), Nat.mul_comm n 100, y2, nI_add]
    exact ⟨x + y, by rw [Nat.succ_mul]; omega, rfl⟩
/-- entries with a port -/
def tw (t : Nat → Int32) (p : Int32) : Nat → Nat
  | 0 => 0
  | k + 1 => if t (k + 1) = p then tw t p k + 1 else tw t p k
theorem tw_k {σ : St} {p : Int32} : ∀ n, n ≤ 99 → tWith σ p n = nI (tw (σ.1 9) p n)
  | 0, _ => rfl
  | n + 1, hn => by
    unfold tWith tw
    rw [oAt_k (by omega) (by decide), tw_k n (by omega)]
    by_cases c : σ.1 9 (n + 1) = p
    · rw [if_pos c, if_pos c, nI_succ]
    · rw [if_neg c, if_neg c]
theorem tw_0 {t : Nat → Int32} {p : Int32} (h : ∀ a, a < 100 → t a ≠ p) : ∀ n, n ≤ 99 → tw t p n = 0
  | 0, _ => rfl
  | n + 1, hn => by
    unfold tw
    rw [if_neg (h (n + 1) (by omega)), tw_0 h n (by omega)]
