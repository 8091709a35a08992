/-! loops and counts, on both sides -/
theorem a_loops {C N : Nat} {σ : St} {μ : Mo} (hC : C + 600 < 2147483648) (h : RC C N σ (μ.2 0)) : ∀ n, n ≤ 8 → xLoopK σ n = mLoopK μ n
  | 0, _ => rfl
  | n + 1, hn => by
    unfold xLoopK mLoopK
    rw [a_loops hC h n (by omega), ones_b, ← open_k hC (by omega : n < 8) h]
    have b1 := bit_k (b := ob σ) (by omega : n < 8)
    rcases far_k (by omega : n < 8) h with ⟨q1, q2⟩ | ⟨j, q0, q1, q2⟩
    · rw [q1, q2, if_pos rfl, if_neg (show ¬ (0 : Int32) < 0 by decide), Int32.or_zero]
      by_cases c : pOpen σ (nI n) = 0
      · rw [if_pos c]
      · rw [if_neg c]
    · have n4 : ¬ nI j = (-4 : Int32) := fun q => absurd (by rw [q]; decide) (nI_pos (n := j) (by omega))
      have p0 : (0 : Int32) < nI (j + 1) := nI_lt (a := 0) (by omega) (by omega)
      have b2 := bit_k (b := ob σ) q0
      rw [q1, q2, if_neg n4, if_pos p0, nI_pred, ← open_k hC q0 h, Int32.or_zero]
      by_cases c : pOpen σ (nI n) = 0
      · rw [if_pos c, if_neg (fun q => ob_t.mp (b1.mp q) c)]
      · rw [if_neg c, if_pos (b1.mpr (ob_t.mpr c))]
        by_cases c2 : pOpen σ (nI j) = 0
        · rw [if_pos c2, if_neg (fun q => ob_t.mp (b2.mp q) c2)]
        · rw [if_neg c2, if_pos (b2.mpr (ob_t.mpr c2))]
theorem opens_s {C N k : Nat} {σ : St} {μ : Mo} (hC : C + 600 < 2147483648) (h : RC C N σ (μ.2 0)) (hk : k < 8) : mOpens μ (k + 1) = mOpens μ k + (if ob σ k = true then 1 else 0) := by
  show (if mOpen μ (nI k) = 0 then mOpens μ k + 0 else mOpens μ k + 1) = _
  rw [← open_k hC hk h]
  by_cases c : pOpen σ (nI k) = 0
  · rw [if_pos c, if_neg (fun q => ob_t.mp q c)]
  · rw [if_neg c, if_pos (ob_t.mpr c)]
theorem a_opens {C N : Nat} {σ : St} {μ : Mo} (hC : C + 600 < 2147483648) (h : RC C N σ (μ.2 0)) : bitC (pOnes σ 8) = mOpens μ 8 := by
  rw [ones_b, wb_8, bitc8, opens_s (k := 7) hC h (by decide), opens_s (k := 6) hC h (by decide), opens_s (k := 5) hC h (by decide), opens_s (k := 4) hC h (by decide), opens_s (k := 3) hC h (by decide), opens_s (k := 2) hC h (by decide), opens_s (k := 1) hC h (by decide), opens_s (k := 0) hC h (by decide)]
  rfl
theorem a_quar {C N : Nat} {σ : St} {μ : Mo} (hC : C + 600 < 2147483648) (h : RC C N σ (μ.2 0)) : ∀ n, n ≤ 8 → pQuar σ n = mHeld μ n
  | 0, _ => rfl
  | n + 1, hn => by
    obtain ⟨_, ⟨L, h1, h2, h3⟩, _⟩ := h.2.2.1 n (by omega)
    unfold pQuar mHeld
    rw [a_quar hC h n (by omega), oAt_k (by omega) (by decide), show mOf μ (nI n) 1 = μ.2 0 (8 + 20 * n + 1) from of_nI (w := 1) (by omega) (by decide), h2, h3]
    by_cases c : L = 0
    · subst c
      rw [if_neg (show ¬ (0 : Int32) < nI 0 by decide), if_pos rfl, if_neg (show ¬ (0 : Int32) < 0 by decide)]
      exact (Int32.add_zero _).symm
    · rw [if_pos (show (0 : Int32) < nI L from nI_lt (a := 0) (by omega) (by omega)), if_neg c, if_pos (show (0 : Int32) < nI (C + L) from nI_lt (a := 0) (by omega) (by omega))]
theorem a_cab {C N : Nat} {σ : St} {μ : Mo} (h : RC C N σ (μ.2 0)) : ∀ n, n ≤ 8 → pCab σ n = mCab μ n
  | 0, _ => rfl
  | n + 1, hn => by
    unfold pCab mCab
    rw [a_cab h n (by omega)]
    have e : oAt 4 8 σ (nI n) = pFar σ (nI n) := rfl
    rw [e]
    rcases far_k (by omega : n < 8) h with ⟨q1, q2⟩ | ⟨j, q0, q1, q2⟩
    · rw [q1, q2, if_pos rfl, if_neg (show ¬ (0 : Int32) < 0 by decide)]
      exact (Int32.add_zero _).symm
    · rw [q1, q2, if_neg (show ¬ nI j = (-4 : Int32) from fun q => absurd (by rw [q]; decide) (nI_pos (n := j) (by omega))), if_pos (show (0 : Int32) < nI (j + 1) from nI_lt (a := 0) (by omega) (by omega))]
theorem a_sum {C N : Nat} {σ : St} {μ : Mo} (h : RC C N σ (μ.2 0)) : ∀ n, n ≤ 8 → rSum (σ.1 7) n = mInAll μ 5 n
  | 0, _ => rfl
  | n + 1, hn => by
    unfold rSum mInAll
    rw [a_sum h n (by omega), ← size_k (by omega : n < 8) h, oAt_k (by omega) (by decide)]
theorem a_all {C N : Nat} {σ : St} {μ : Mo} (h : RC C N σ (μ.2 0)) : ∀ n, n ≤ 8 → pAll σ n = mInAll μ 6 n
  | 0, _ => rfl
  | n + 1, hn => by
    unfold pAll mInAll pCredited
    rw [a_all h n (by omega), show (0 : Int32) = nI 0 from rfl, ix_cr, oAt_k (by omega) (by decide), h.2.2.2.1 n (by omega) 0 (by decide), show (6 : Int32) = nI 6 from rfl, of_nI (by omega) (by decide)]
theorem a_count {C N : Nat} {S : Sy} {μ : Mo} {w : Int32} (hC : C + 600 < 2147483648) (h : RC C N (S.1 0) (μ.2 0)) (e13 : S.2.1 2 = μ.1 0) (e14 : S.2.1 3 = μ.1 4) : xCount S w = mCount μ w := by
  have es : ∀ i, i < 4 → oAt 0 4 (S.1 0) (nI i) = now μ (nI i) := fun i hi => by
    rw [oAt_k hi (by decide), now_nI (by omega)]
    exact (h.2.1 i hi).1
  have e4 : (S.1 0).2 0 = now μ 4 := by
    rw [show now μ 4 = nI C from (now_nI (n := 4) (by decide)).trans h.1.2.1]
    exact h.1.1
  have e5 : (S.1 0).2 3 = mEnt μ 99 := by rw [r_ent h 99 (Nat.le_refl 99)]; exact h.2.2.2.2.2.1.2.2.2.1
  have e11 : (S.1 0).2 2 = now μ 5 := by
    rw [show now μ 5 = μ.2 0 5 from now_nI (n := 5) (by decide)]
    exact h.1.2.2.2.2
  have e12 : (S.1 0).2 1 = now μ 6 := by
    rw [show now μ 6 = nI N from (now_nI (n := 6) (by decide)).trans h.1.2.2.2.1]
    exact h.1.2.2.1
  unfold xCount mCount
  rw [e4, e5, a_opens hC h, a_quar hC h 8 (Nat.le_refl 8), a_cab h 8 (Nat.le_refl 8), a_sum h 8 (Nat.le_refl 8), a_all h 8 (Nat.le_refl 8), e11, e12, e13, e14]
  by_cases c0 : w = 0
  · subst c0
    rw [if_pos rfl, if_pos rfl]; exact es 0 (by decide)
  rw [if_neg c0, if_neg c0]
  by_cases c1 : w = 1
  · subst c1
    rw [if_pos rfl, if_pos rfl]; exact es 1 (by decide)
  rw [if_neg c1, if_neg c1]
  by_cases c2 : w = 2
  · subst c2
    rw [if_pos rfl, if_pos rfl]; exact es 2 (by decide)
  rw [if_neg c2, if_neg c2]
  by_cases c3 : w = 3
  · subst c3
    rw [if_pos rfl, if_pos rfl]; exact es 3 (by decide)
  rw [if_neg c3, if_neg c3]
