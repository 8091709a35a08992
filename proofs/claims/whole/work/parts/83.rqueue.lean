/-! the queues on both sides -/
theorem qCell_k (k i : Nat) : qCell (nI k) (nI i) = nI (48 * k + 4 * i) := by
  unfold qCell
  rw [show (12 : Int32) = nI 12 from rfl, show (4 : Int32) = nI 4 from rfl, pk_mul, nI_add, pk_mul]
  congr 1
  omega
theorem qPart_k {σ : St} {k i w : Nat} (hk : k < 8) (hi : i < 12) (hw : w < 4) : qPart σ (nI k) (nI i) (nI w) = σ.1 8 (48 * k + 4 * i + w) := by
  unfold qPart
  rw [qCell_k, nI_add, oAt_k (by omega) (by decide)]
theorem fits_k {n a L : Nat} (h : a + L ≤ n) (hn : n < 1000000) : rFits n (nI a) (nI L) = 1 := by
  unfold rFits
  rw [if_neg (nI_pos (by omega)), if_neg (nI_pos (by omega)), pk_sub (by omega), if_neg (nI_nlt (by omega) (by omega))]
theorem slide_k {r n a c L : Nat} {σ : St} (h1 : a + L ≤ n) (h2 : c + L ≤ n) (hn : n < 1000000) : oSlide r n σ (nI a) (nI c) (nI L) = rput σ r (va_cpy (σ.1 r) (σ.1 r) a c L) := by
  unfold oSlide rSlide
  rw [fits_k h1 hn, fits_k h2 hn, if_neg (by decide), if_neg (by decide), nI_clamp (by omega), nI_clamp (by omega), nI_clamp (by omega)]
def insRow (f : Nat → Int32) (a L : Nat) (x : Fr) : Nat → Int32 := upd (upd (upd (upd (va_cpy f f a (a + 4) L) a x.1) (a + 1) x.2.1) (a + 2) x.2.2.1) (a + 3) x.2.2.2
theorem qIns_k {σ : St} {k m pl : Nat} {s d pr num : Int32} (hk : k < 8) (hm : m < 12) (hp : pl ≤ m) (e7 : σ.1 7 k = nI m) (ep : qPlace σ (nI k) pr = nI pl) : qIns σ (nI k) s d pr num = rput (rput σ 8 (insRow (σ.1 8) (48 * k + 4 * pl) (4 * (m - pl)) (s, d, pr, num))) 7 (upd (σ.1 7) k (nI (m + 1))) := by
  unfold qIns
  rw [ep, oAt_k hk (by decide), e7, qCell_k, pk_sub hp, show (4 : Int32) = nI 4 from rfl, pk_mul, nI_add, Nat.mul_comm (m - pl) 4, slide_k (by omega) (by omega) (by decide)]
  unfold qWrite
  rw [show (0 : Int32) = nI 0 from rfl, show (1 : Int32) = nI 1 from rfl, show (2 : Int32) = nI 2 from rfl, show (3 : Int32) = nI 3 from rfl, nI_add, nI_add, nI_add, nI_add, nI_add]
  rw [oPut_k (by omega) (by decide), oPut_k (by omega) (by decide), oPut_k (by omega) (by decide), oPut_k (by omega) (by decide), oPut_k (by omega) (by decide)]
  simp only [rput_rput, rput_at]
  rfl
theorem xF_ins {σ : St} {k m pl : Nat} {x : Fr} {g : Nat → Int32} (hk : k < 8) (hm : m < 12) (hp : pl ≤ m) : ∀ i, i < m + 1 → xF (rput (rput σ 8 (insRow (σ.1 8) (48 * k + 4 * pl) (4 * (m - pl)) x)) 7 g) k i = insF (xF σ k) pl x i := by
  intro i hi
  show (insRow (σ.1 8) (48 * k + 4 * pl) (4 * (m - pl)) x (48 * k + 4 * i), insRow (σ.1 8) (48 * k + 4 * pl) (4 * (m - pl)) x (48 * k + 4 * i + 1), insRow (σ.1 8) (48 * k + 4 * pl) (4 * (m - pl)) x (48 * k + 4 * i + 2), insRow (σ.1 8) (48 * k + 4 * pl) (4 * (m - pl)) x (48 * k + 4 * i + 3)) = _
  unfold insRow insF
  by_cases c : i < pl
  · rw [if_pos c]
    simp (disch := omega) only [upd_n, pk_cpy_out]
    rfl
  · rw [if_neg c]
    by_cases c2 : i = pl
    · rw [if_pos c2]
      subst c2
      simp (disch := omega) only [upd_s, upd_n]
    · rw [if_neg c2]
      simp (disch := omega) only [upd_n, pk_cpy_in]
      unfold xF
      rw [show 48 * k + 4 * pl + (48 * k + 4 * i - (48 * k + 4 * pl + 4)) = 48 * k + 4 * (i - 1) by omega, show 48 * k + 4 * pl + (48 * k + 4 * i + 1 - (48 * k + 4 * pl + 4)) = 48 * k + 4 * (i - 1) + 1 by omega, show 48 * k + 4 * pl + (48 * k + 4 * i + 2 - (48 * k + 4 * pl + 4)) = 48 * k + 4 * (i - 1) + 2 by omega, show 48 * k + 4 * pl + (48 * k + 4 * i + 3 - (48 * k + 4 * pl + 4)) = 48 * k + 4 * (i - 1) + 3 by omega]
theorem xF_ino {σ : St} {k j m pl : Nat} {x : Fr} {g : Nat → Int32} (hk : k < 8) (hj : j < 8) (hn : j ≠ k) (hm : m < 12) (hp : pl ≤ m) : ∀ i, i < 12 → xF (rput (rput σ 8 (insRow (σ.1 8) (48 * k + 4 * pl) (4 * (m - pl)) x)) 7 g) j i = xF σ j i := by
  intro i hi
  show (insRow (σ.1 8) (48 * k + 4 * pl) (4 * (m - pl)) x (48 * j + 4 * i), insRow (σ.1 8) (48 * k + 4 * pl) (4 * (m - pl)) x (48 * j + 4 * i + 1), insRow (σ.1 8) (48 * k + 4 * pl) (4 * (m - pl)) x (48 * j + 4 * i + 2), insRow (σ.1 8) (48 * k + 4 * pl) (4 * (m - pl)) x (48 * j + 4 * i + 3)) = _
  unfold insRow
  simp (disch := omega) only [upd_n, pk_cpy_out]
  rfl
theorem qSlot_k {σ : St} {k : Nat} {pr : Int32} (hk : k < 8) : ∀ n, n ≤ 12 → ∃ pl, pl ≤ n ∧ qSlot σ (nI k) pr n = nI pl ∧ (∀ i, pl ≤ i → i < n → (xF σ k i).2.2.1 < pr) ∧ (pl = 0 ∨ ¬ (xF σ k (pl - 1)).2.2.1 < pr)
  | 0, _ => ⟨0, Nat.le_refl 0, rfl, fun i _ h => absurd h (Nat.not_lt_zero i), Or.inl rfl⟩
  | n + 1, hn => by
    have e : qPart σ (nI k) (nI (n + 1) - 1) 2 = (xF σ k n).2.2.1 := by
      rw [nI_pred, show (2 : Int32) = nI 2 from rfl, qPart_k hk (by omega) (by decide)]
      rfl
    unfold qSlot
    rw [e]
    by_cases c : (xF σ k n).2.2.1 < pr
    · rw [if_pos c]
      obtain ⟨pl, h1, h2, h3, h4⟩ := qSlot_k (σ := σ) (pr := pr) hk n (by omega)
      refine ⟨pl, by omega, h2, fun i hi hi2 => ?_, h4⟩
      by_cases c2 : i = n
      · rw [c2]; exact c
      · exact h3 i hi (by omega)
    · rw [if_neg c]
      exact ⟨n + 1, Nat.le_refl _, rfl, fun i h1 h2 => absurd h2 (by omega), Or.inr c⟩
theorem qPlace_k {σ : St} {k m : Nat} {pr : Int32} (hk : k < 8) (hm : m ≤ 12) (e7 : σ.1 7 k = nI m) : ∃ pl, pl ≤ m ∧ qPlace σ (nI k) pr = nI pl ∧ (∀ i, pl ≤ i → i < m → (xF σ k i).2.2.1 < pr) ∧ (pl = 0 ∨ ¬ (xF σ k (pl - 1)).2.2.1 < pr) := by
  unfold qPlace
  rw [oAt_k hk (by decide), e7, nI_clamp (by omega)]
  cases m with
  | zero =>
    rw [if_neg (by decide)]
    exact ⟨0, Nat.le_refl 0, rfl, fun i _ h => absurd h (Nat.not_lt_zero i), Or.inl rfl⟩
  | succ m =>
    rw [if_pos (show (0 : Int32) < nI (m + 1) from nI_lt (a := 0) (b := m + 1) (by omega) (by omega))]
    exact qSlot_k hk (m + 1) hm
theorem go4_k {μ : Mo} {k m : Nat} {s d pr : Int32} (hk : k < 8) (hm : m < 12) : (mGo4 μ (mQc (nI k) (nI m)) s d pr).2 0 = upd (upd (upd (upd (μ.2 0) (168 + 48 * k + 4 * m) (μ.2 0 6)) (168 + 48 * k + 4 * m + 1) s) (168 + 48 * k + 4 * m + 2) d) (168 + 48 * k + 4 * m + 3) pr := by
  unfold mGo4
  rw [ix_qc0, show (1 : Int32) = nI 1 from rfl, show (2 : Int32) = nI 2 from rfl, show (3 : Int32) = nI 3 from rfl, show (6 : Int32) = nI 6 from rfl, nI_add, nI_add, nI_add, setNow_nI (by omega), setNow_nI (by omega), setNow_nI (by omega), setNow_nI (by omega), now_nI (by omega)]
/-- a frame is put behind the others, on both sides -/
theorem rq_put {N k m pl : Nat} {σ : St} {f : Nat → Int32} {s d pr : Int32} {v : Int32} (hN : N + 1 < 2147483648) (hk : k < 8) (hm : m < 12) (e7 : σ.1 7 k = nI m) (hp : pl ≤ m) (hg : ∀ i, pl ≤ i → i < m → (xF σ k i).2.2.1 < pr) (hl : pl = 0 ∨ ¬ (xF σ k (pl - 1)).2.2.1 < pr)
    (hs : AS s) (hd : AD d) (hr : WH pr 4) (h : RQ N σ f) (hv : v = nI N) :
    RQ (N + 1) (rput (rput σ 8 (insRow (σ.1 8) (48 * k + 4 * pl) (4 * (m - pl)) (s, d, pr, v))) 7 (upd (σ.1 7) k (nI (m + 1)))) (upd (upd (upd (upd (upd f (168 + 48 * k + 4 * m) v) (168 + 48 * k + 4 * m + 1) s) (168 + 48 * k + 4 * m + 2) d) (168 + 48 * k + 4 * m + 3) pr) (8 + 20 * k + 5) (nI (m + 1))) := by
  intro j hj
  obtain ⟨M, g1, g2, g3, g4, g5⟩ := h j hj
  by_cases c : j = k
  · subst c
    obtain rfl : M = m := (nI_eq (by omega) (by omega)).mp (g2.symm.trans e7)
    have mfe : ∀ i, i < M + 1 → mF (upd (upd (upd (upd (upd f (168 + 48 * j + 4 * M) v) (168 + 48 * j + 4 * M + 1) s) (168 + 48 * j + 4 * M + 2) d) (168 + 48 * j + 4 * M + 3) pr) (8 + 20 * j + 5) (nI (M + 1))) j i = insF (mF f j) M (s, d, pr, v) i := by
      intro i hi
      unfold insF
      by_cases ci : i < M
      · rw [if_pos ci]
        unfold mF
        simp (disch := omega) only [upd_n]
      · rw [if_neg ci, if_pos (by omega)]
        obtain rfl : i = M := by omega
        unfold mF
        simp (disch := omega) only [upd_s, upd_n]
    have okx : ∀ i, i < M → OKF N (xF σ j i) := fun i hi => by
      obtain ⟨q, h1, h2⟩ := ql_ex g4 hi
      rw [← h2]; exact g5 q h1
    refine ⟨M + 1, by omega, ?_, ?_, ql_cg (ql_put (x := (s, d, pr, v)) g4 hp ?_ ?_) (fun i hi => xF_ins hj hm hp i hi) mfe, fun i hi => ?_⟩
    · show upd (σ.1 7) j (nI (M + 1)) j = _
      rw [upd_s]
    · rw [upd_s]
    · intro i hi
      have h2 : (xF σ j (pl - 1)).2.2.1.toInt ≤ (xF σ j i).2.2.1.toInt := by
        by_cases ci : i = pl - 1
        · rw [ci]; exact Int.le_refl _
        · have hb := g4.2 i (pl - 1) (by omega) (by omega)
          unfold Bf at hb
          omega
      have h3 : ¬ (xF σ j (pl - 1)).2.2.1 < pr := by
        rcases hl with h0 | h0
        · omega
        · exact h0
      rw [Int32.lt_iff_toInt_lt] at h3
      obtain ⟨-, -, -, n, hn, en⟩ := okx i (by omega)
      show pr.toInt < (xF σ j i).2.2.1.toInt ∨ ((xF σ j i).2.2.1.toInt = pr.toInt ∧ (xF σ j i).2.2.2.toInt < v.toInt)
      rw [en, hv, nI_toInt (by omega), nI_toInt (by omega)]
      omega
    · intro i h1 h2
      have := hg i h1 h2
      rw [Int32.lt_iff_toInt_lt] at this
      exact Or.inl this
    · rw [mfe i hi]
      unfold insF
      by_cases ci : i < M
      · rw [if_pos ci]
        obtain ⟨q1, q2, q3, n, q4, q5⟩ := g5 i ci
        exact ⟨q1, q2, q3, n, by omega, q5⟩
      · rw [if_neg ci, if_pos (by omega)]
        exact ⟨hs, hd, hr, N, by omega, hv⟩
  · have mfe : ∀ i, i < 12 → mF (upd (upd (upd (upd (upd f (168 + 48 * k + 4 * m) v) (168 + 48 * k + 4 * m + 1) s) (168 + 48 * k + 4 * m + 2) d) (168 + 48 * k + 4 * m + 3) pr) (8 + 20 * k + 5) (nI (m + 1))) j i = mF f j i := by
      intro i hi
      unfold mF
      simp (disch := omega) only [upd_n]
    refine ⟨M, g1, ?_, ?_, ql_cg g4 (fun i hi => xF_ino hk hj c hm hp i (by omega)) (fun i hi => mfe i (by omega)), fun i hi => ?_⟩
    · show upd (σ.1 7) k (nI (m + 1)) j = _
      rw [upd_n c]; exact g2
    · simp (disch := omega) only [upd_n]; exact g3
    · rw [mfe i (by omega)]
      obtain ⟨q1, q2, q3, n, q4, q5⟩ := g5 i hi
      exact ⟨q1, q2, q3, n, by omega, q5⟩
