/-! a port sends, on both sides -/
theorem st_first {C N k j m M : Nat} {σ τ : St} {ν : Mo} (hk : k < 8) (hm : m ≤ 12) (hM : m - j = M + 1) (h : RC C N τ (ν.2 0)) (e7 : τ.1 7 k = nI (m - j)) (eF : xF τ k 0 = xF σ k j) : ∃ jj, jj < M + 1 ∧ mAt ν (nI k) 0 = nI jj ∧ mF (ν.2 0) k jj = xF σ k j ∧ ν.2 0 (8 + 20 * k + 5) = nI (M + 1) ∧ OKF N (xF σ k j) := by
  obtain ⟨m', g1, g2, g3, g4, g5⟩ := h.2.2.2.2.1 k hk
  obtain rfl : m' = m - j := (nI_eq (by omega) (by omega)).mp (g2.symm.trans e7)
  rcases mAt_k (w := 0) hk g1 g3 (fun i hi => (g5 i hi).2.2.1) g4 with ⟨jj, i, h1, h2, h3, h4, h5⟩ | ⟨_, h2⟩
  · obtain rfl : 0 = i := (nI_eq (a := 0) (by decide) (by omega)).mp h3
    have e := h5.trans eF
    refine ⟨jj, by omega, h4, e, by rw [g3, hM], ?_⟩
    rw [← e]
    exact g5 jj h1
  · exact absurd rfl (h2 0 (by omega))
theorem sw_3 {ν : Mo} {c p : Int32} : (mSW ν c p).1 3 = ν.1 3 + 1 := rfl
theorem now_more {ν : Mo} {k n : Nat} (hk : k < 8) (hn : n < 1752) (h : n ≠ 8 + 20 * k + 6 + 9) : now (mMore ν (nI k) 9) (nI n) = ν.2 0 n := by
  rw [show (9 : Int32) = nI 9 from rfl, now_nI (by omega), more_k hk (by decide), upd_n h]
theorem of_more3 {ν : Mo} {k : Nat} (hk : k < 8) : mOf (mMore ν (nI k) 9) (nI k) 3 = ν.2 0 (8 + 20 * k + 3) := by
  rw [show (9 : Int32) = nI 9 from rfl, show (3 : Int32) = nI 3 from rfl, of_nI hk (by decide), more_k hk (by decide), upd_n (by omega)]
/-- with a cable -/
theorem r_cab {C N k r m jq : Nat} {S : Sy} {x : Int32 × Mo} (hC : C + 600 < 2147483648) (hk : k < 8) (hm : m ≤ 12) (hq : jq < 8) (h : ZR C N r S x.2) (e7 : (S.1 0).1 7 k = nI m) (eq : (S.1 0).1 4 k = nI jq) (ho : ¬ pOpen (S.1 0) (nI k) = 0) : ∀ j, j ≤ m → r + j ≤ 80 →
    (mSr x (nI k) j).1 = x.1 + nI j ∧ RC C N (cA (S.1 0) k m j) ((mSr x (nI k) j).2.2 0) ∧ (xSL S (nI k) (nI jq) j).2.1 5 = nI (r + j) ∧ (mSr x (nI k) j).2.1 3 = nI (r + j) ∧ ∀ i, i < r + j → AR ((xSL S (nI k) (nI jq) j).2.2 1) ((mSr x (nI k) j).2.2 4) i
  | 0, _, _ => ⟨(Int32.add_zero _).symm, by rw [cA_0 e7]; exact h.1, h.2.1, h.2.2.1, h.2.2.2⟩
  | j + 1, hj, h80 => by
    obtain ⟨i1, i2, i3, i4, i5⟩ := r_cab hC hk hm hq h e7 eq ho j (by omega) (by omega)
    have hS : mSr x (nI k) (j + 1) = mS1 (mSr x (nI k) j) (nI k) := rfl
    have hL : xSL S (nI k) (nI jq) (j + 1) = xApp (xSL S (nI k) (nI jq) j) (nI jq) (qPart ((xSL S (nI k) (nI jq) j).1 0) (nI k) (nI j) 0) (qPart ((xSL S (nI k) (nI jq) j).1 0) (nI k) (nI j) 1) (qPart ((xSL S (nI k) (nI jq) j).1 0) (nI k) (nI j) 2) := rfl
    rw [hS, hL, sl_1]
    generalize mSr x (nI k) j = y at *
    generalize xSL S (nI k) (nI jq) j = T at *
    obtain ⟨M, hM⟩ : ∃ M, m - j = M + 1 := ⟨m - j - 1, by omega⟩
    have e7' : (cA (S.1 0) k m j).1 7 k = nI (m - j) := by
      show upd ((S.1 0).1 7) k (nI (m - j)) k = _
      rw [upd_s]
    have eF : xF (cA (S.1 0) k m j) k 0 = xF (S.1 0) k j := by
      show xF (qJ (S.1 0) k m j) k 0 = _
      rw [xF_qJ (by omega), Nat.zero_add]
    obtain ⟨jj, a1, a2, a3, a4, a5⟩ := st_first hk hm hM i2 e7' eF
    have hop : ¬ mOpen y.2 (nI k) = 0 := by
      rw [← open_k hC hk i2, open_eq (σ := S.1 0) (τ := cA (S.1 0) k m j) rfl rfl]
      exact ho
    have hpos : 0 < mOf y.2 (nI k) 5 := by
      rw [show (5 : Int32) = nI 5 from rfl, of_nI hk (by decide), a4]
      exact nI_lt (a := 0) (by omega) (by omega)
    have e3 : y.2.2 0 (8 + 20 * k + 3) = nI (jq + 1) := by
      rcases (i2.2.2.1 k hk).2.2.2.1 with ⟨q1, _⟩ | ⟨j2, _, q1, q2⟩
      · have q1 : (S.1 0).1 4 k = -4 := q1
        rw [eq] at q1
        exact absurd (by rw [q1]; decide) (nI_pos (n := jq) (by omega))
      · have q1 : (S.1 0).1 4 k = nI j2 := q1
        rw [eq] at q1
        rw [q2, (nI_eq (by omega) (by omega)).mp q1]
    have hc : 0 < y.2.2 0 (8 + 20 * k + 3) := by rw [e3]; exact nI_lt (a := 0) (by omega) (by omega)
    have hb : mSb y.2 (nI k) (mQc (nI k) (mAt y.2 (nI k) 0)) = mSW (mMore y.2 (nI k) 9) (nI (168 + 48 * k + 4 * jj)) (nI k) := by
      unfold mSb
      rw [a2, ix_qc0, of_more3 hk, if_pos hc]
    unfold mS1
    rw [if_neg hop, if_pos hpos]
    refine ⟨?_, ?_, ?_, ?_, ?_⟩
    · show y.1 + 1 = _
      rw [i1, add1]
    · show RC C N _ ((mSends y.2 (nI k)).2 0)
      rw [sends_0 hk (by omega) a1 a2 a4, sb_0 hk, if_pos hc]
      exact rc_sA hk hm hM a1 i2 a3
    · rw [app_5 (r := r + j) (by omega) i3]; rfl
    · show (mSends y.2 (nI k)).1 3 = _
      rw [sends_1, hb, sw_3]
      show y.2.1 3 + 1 = _
      rw [i4]
      exact (nI_succ (r + j)).symm
    · show ∀ i, i < r + (j + 1) → AR _ ((mSends y.2 (nI k)).2 4) i
      have i4' : (mMore y.2 (nI k) 9).1 3 = nI (r + j) := i4
      rw [sends_4, hb, sw_w i4' (by omega), of_more3 hk, e3, nI_pred, show (1 : Int32) = nI 1 from rfl, show (2 : Int32) = nI 2 from rfl, show (3 : Int32) = nI 3 from rfl, show (0 : Int32) = nI 0 from rfl, nI_add, nI_add, nI_add, now_more hk (by omega) (by omega), now_more hk (by omega) (by omega), now_more hk (by omega) (by omega), app_row (r := r + j) (by omega) i3, qPart_k hk (by omega) (by decide), qPart_k hk (by omega) (by decide), qPart_k hk (by omega) (by decide)]
      have q1 : y.2.2 0 (168 + 48 * k + 4 * jj + 1) = (S.1 0).1 8 (48 * k + 4 * j + 0) := congrArg (fun z : Fr => z.1) a3
      have q2 : y.2.2 0 (168 + 48 * k + 4 * jj + 2) = (S.1 0).1 8 (48 * k + 4 * j + 1) := congrArg (fun z : Fr => z.2.1) a3
      have q3 : y.2.2 0 (168 + 48 * k + 4 * jj + 3) = (S.1 0).1 8 (48 * k + 4 * j + 2) := congrArg (fun z : Fr => z.2.2.1) a3
      rw [q1, q2, q3]
      exact ar_put (r := r + j) i5 (po_nI hq) a5.1 a5.2.1 a5.2.2.1
/-- without one -/
theorem r_nocab {C N k r m : Nat} {S : Sy} {x : Int32 × Mo} (hC : C + 600 < 2147483648) (hk : k < 8) (hm : m ≤ 12) (h : ZR C N r S x.2) (e7 : (S.1 0).1 7 k = nI m) (eq : (S.1 0).1 4 k = -4) (ho : ¬ pOpen (S.1 0) (nI k) = 0) : ∀ j, j ≤ m →
    (mSr x (nI k) j).1 = x.1 + nI j ∧ RC C N (cB (S.1 0) k m j) ((mSr x (nI k) j).2.2 0) ∧ (mSr x (nI k) j).2.1 3 = nI r ∧ (mSr x (nI k) j).2.2 4 = x.2.2 4
  | 0, _ => ⟨(Int32.add_zero _).symm, by rw [cB_0 e7]; exact h.1, h.2.2.1, rfl⟩
  | j + 1, hj => by
    obtain ⟨i1, i2, i4, i5⟩ := r_nocab hC hk hm h e7 eq ho j (by omega)
    have hS : mSr x (nI k) (j + 1) = mS1 (mSr x (nI k) j) (nI k) := rfl
    rw [hS]
    generalize mSr x (nI k) j = y at *
    obtain ⟨M, hM⟩ : ∃ M, m - j = M + 1 := ⟨m - j - 1, by omega⟩
    have e7' : (cB (S.1 0) k m j).1 7 k = nI (m - j) := by
      show upd ((S.1 0).1 7) k (nI (m - j)) k = _
      rw [upd_s]
    have eF : xF (cB (S.1 0) k m j) k 0 = xF (S.1 0) k j := by
      show xF (qJ (S.1 0) k m j) k 0 = _
      rw [xF_qJ (by omega), Nat.zero_add]
    obtain ⟨jj, a1, a2, a3, a4, a5⟩ := st_first hk hm hM i2 e7' eF
    have hop : ¬ mOpen y.2 (nI k) = 0 := by
      rw [← open_k hC hk i2, open_eq (σ := S.1 0) (τ := cB (S.1 0) k m j) rfl rfl]
      exact ho
    have hpos : 0 < mOf y.2 (nI k) 5 := by
      rw [show (5 : Int32) = nI 5 from rfl, of_nI hk (by decide), a4]
      exact nI_lt (a := 0) (by omega) (by omega)
    have hc : ¬ 0 < y.2.2 0 (8 + 20 * k + 3) := by
      rcases (i2.2.2.1 k hk).2.2.2.1 with ⟨_, q1⟩ | ⟨j2, _, q1, _⟩
      · rw [q1]; decide
      · have q1 : (S.1 0).1 4 k = nI j2 := q1
        rw [eq] at q1
        exact absurd (by rw [← q1]; decide) (nI_pos (n := j2) (by omega))
    have hb : mSb y.2 (nI k) (mQc (nI k) (mAt y.2 (nI k) 0)) = mMore (mMore y.2 (nI k) 9) (nI k) 10 := by
      unfold mSb
      rw [of_more3 hk, if_neg hc]
    unfold mS1
    rw [if_neg hop, if_pos hpos]
    refine ⟨?_, ?_, ?_, ?_⟩
    · show y.1 + 1 = _
      rw [i1, add1]
    · show RC C N _ ((mSends y.2 (nI k)).2 0)
      rw [sends_0 hk (by omega) a1 a2 a4, sb_0 hk, if_neg hc]
      exact rc_sB hk hm hM a1 i2 a3
    · show (mSends y.2 (nI k)).1 3 = _
      rw [sends_1, hb]
      exact i4
    · show (mSends y.2 (nI k)).2 4 = _
      rw [sends_4, hb]
      exact i5
