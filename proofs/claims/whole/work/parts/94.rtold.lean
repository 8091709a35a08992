/-! what is told, on both sides -/
theorem up_k {C N k : Nat} {σ : St} {μ : Mo} (hk : k < 8) (h : RC C N σ (μ.2 0)) : pUp σ (nI k) = mOf μ (nI k) 0 ∧ (mOf μ (nI k) 0 = 0 ∨ mOf μ (nI k) 0 = 1) := by
  obtain ⟨⟨h1, h2⟩, _⟩ := h.2.2.1 k hk
  unfold pUp
  rw [oAt_k hk (by decide), show mOf μ (nI k) 0 = μ.2 0 (8 + 20 * k) from of_nI (w := 0) hk (by decide), h1]
  rcases h2 with q | q
  · rw [q]; exact ⟨rfl, Or.inl rfl⟩
  · rw [q]; exact ⟨rfl, Or.inr rfl⟩
theorem hold_k {C N k : Nat} {σ : St} {μ : Mo} (hC : C + 600 < 2147483648) (hk : k < 8) (h : RC C N σ (μ.2 0)) : oAt 2 8 σ (nI k) = mHold μ (nI k) ∧ (mOf μ (nI k) 1 = 0 ↔ oAt 2 8 σ (nI k) = 0) := by
  obtain ⟨_, ⟨L, h1, h2, h3⟩, _⟩ := h.2.2.1 k hk
  unfold mHold
  rw [oAt_k hk (by decide), show mOf μ (nI k) 1 = μ.2 0 (8 + 20 * k + 1) from of_nI (w := 1) hk (by decide), show now μ 4 = nI C from (now_nI (n := 4) (by decide)).trans h.1.2.1, h2, h3]
  by_cases c : L = 0
  · subst c
    exact ⟨rfl, fun _ => rfl, fun _ => rfl⟩
  · rw [if_neg c, if_neg (nI_ne0 (by omega) (by omega)), pk_sub (by omega), Nat.add_sub_cancel_left]
    exact ⟨rfl, fun q => absurd q (nI_ne0 (by omega) (by omega)), fun q => absurd q (nI_ne0 (by omega) (by omega))⟩
theorem far_k {C N k : Nat} {σ : St} {μ : Mo} (hk : k < 8) (h : RC C N σ (μ.2 0)) : CB (pFar σ (nI k)) (mOf μ (nI k) 3) := by
  unfold pFar
  rw [oAt_k hk (by decide), show mOf μ (nI k) 3 = μ.2 0 (8 + 20 * k + 3) from of_nI (w := 3) hk (by decide)]
  exact (h.2.2.1 k hk).2.2.2.1
theorem with_k {C N k : Nat} {σ : St} {μ : Mo} (hk : k < 8) (h : RC C N σ (μ.2 0)) : ∀ n, n ≤ 99 → tWith σ (nI k) n = mWith μ (nI k) n
  | 0, _ => rfl
  | n + 1, hn => by
    have hc := h.2.2.2.2.2.1.1 (n + 1) (by omega)
    unfold tWith mWith
    rw [with_k hk h n (by omega), oAt_k (by omega) (by decide), n552 (by omega), ← nI_succ]
    by_cases c : σ.1 9 (n + 1) = nI k
    · rw [if_pos c, if_pos ((cb_k hk hc).mp c)]
    · rw [if_neg c, if_neg (fun q => c ((cb_k hk hc).mpr q))]
      exact (Int32.add_zero _).symm
theorem size_k {C N k : Nat} {σ : St} {μ : Mo} (hk : k < 8) (h : RC C N σ (μ.2 0)) : oAt 7 8 σ (nI k) = mOf μ (nI k) 5 := by
  obtain ⟨m, _, g2, g3, _⟩ := h.2.2.2.2.1 k hk
  rw [oAt_k hk (by decide), show mOf μ (nI k) 5 = μ.2 0 (8 + 20 * k + 5) from of_nI (w := 5) hk (by decide), g2, g3]
theorem a_port {C N : Nat} {S : Sy} {μ : Mo} {p w : Int32} (hC : C + 600 < 2147483648) (h : RC C N (S.1 0) (μ.2 0)) : xPort S p w = mPort μ p w := by
  unfold xPort mPort
  rcases port_c p with ⟨h1, h2⟩ | ⟨k, hk, rfl, h3, h4⟩
  · rw [if_pos h1, if_neg h2]
  · rw [if_neg h3, if_pos h4, ← open_k hC hk h, (hold_k hC hk h).1, ← size_k hk h, with_k hk h 99 (Nat.le_refl 99)]
    rw [show mOf μ (nI k) 2 = μ.2 0 (8 + 20 * k + 2) from of_nI (w := 2) hk (by decide), show mOf μ (nI k) 4 = μ.2 0 (8 + 20 * k + 4) from of_nI (w := 4) hk (by decide), oAt_k (r := 3) hk (by decide), oAt_k (r := 5) hk (by decide), ← (h.2.2.1 k hk).2.2.1, ← (h.2.2.1 k hk).2.2.2.2]
    have e0 : (if pUp (S.1 0) (nI k) = 0 then (0 : Int32) else 1) = mOf μ (nI k) 0 := by
      rw [(up_k hk h).1]
      rcases (up_k hk h).2 with q | q
      · rw [q]; rfl
      · rw [q]; rfl
    have e4 : pFar (S.1 0) (nI k) = if mOf μ (nI k) 3 = 0 then -4 else mOf μ (nI k) 3 - 1 := by
      rcases far_k hk h with ⟨q1, q2⟩ | ⟨j, q0, q1, q2⟩
      · rw [q1, q2]; rfl
      · rw [q1, q2, if_neg (nI_ne0 (by omega) (by omega)), nI_pred]
    rw [e0, e4]
theorem a_account {C N : Nat} {S : Sy} {μ : Mo} {p w : Int32} (h : RC C N (S.1 0) (μ.2 0)) : xAccount S p w = mAccount μ p w := by
  unfold xAccount mAccount
  rcases port_c p with ⟨h1, h2⟩ | ⟨k, hk, rfl, h3, h4⟩
  · rw [if_pos h1, if_neg h2]
  · rw [if_neg h3, if_pos h4]
    rcases in_range (x := w) (l := 0) (u := 10) (by decide) (by decide) with ⟨q1, q2⟩ | ⟨n, _, q2, q3, q4⟩
    · have q1 : mIn w 0 10 = 0 := q1
      rw [if_pos q1]
      by_cases c : w < 0
      · rw [if_pos c]
      · rw [if_neg c, if_neg]
        intro c2
        obtain ⟨n, hn, e⟩ := nI_of c
        subst e
        exact q2 n (by omega) (by have := (nI_ltI (b := 11) hn (by decide)).mp c2; omega) rfl
    · have q4 : ¬ mIn w 0 10 = 0 := q4
      rw [if_neg q4, q3, if_neg (nI_pos (by omega)), if_pos (nlt_lit (b := 11) (by omega) (by decide)), show (6 : Int32) = nI 6 from rfl, nI_add, of_nI hk (by omega)]
      unfold pCredited
      rw [ix_cr, oAt_k (by omega) (by decide), h.2.2.2.1 k hk n (by omega), show 8 + 20 * k + 6 + n = 8 + 20 * k + (6 + n) by omega]
theorem tc_mono {f : Nat → Int32} : ∀ {a b : Nat}, a ≤ b → tc f a ≤ tc f b
  | a, 0, h => by
    obtain rfl : a = 0 := by omega
    exact Nat.le_refl _
  | a, b + 1, h => by
    by_cases c : a = b + 1
    · rw [c]; exact Nat.le_refl _
    · have := tc_mono (f := f) (a := a) (b := b) (by omega)
      have e : tc f (b + 1) = if f (552 + (b + 1)) = 0 then tc f b else tc f b + 1 := rfl
      rw [e]
      by_cases c2 : f (552 + (b + 1)) = 0
      · rw [if_pos c2]; exact this
      · rw [if_neg c2]; omega
theorem ent_k {C N xx : Nat} {σ : St} {μ : Mo} {w : Int32} (hx : xx < 2147483648) (h : RC C N σ (μ.2 0)) : ∀ n k cc, k + n = 100 → 1 ≤ k → cc ≤ xx → tc (μ.2 0) (k - 1) = cc →
    (xx < tc (μ.2 0) 99 ∧ ∃ a, 1 ≤ a ∧ a < 100 ∧ tAddr σ (nI xx) n k (nI cc) = nI a ∧ mEntK μ (nI xx) w n k (nI cc) = mVal μ w (nI a) ∧ ¬ μ.2 0 (552 + a) = 0) ∨ (tc (μ.2 0) 99 ≤ xx ∧ mEntK μ (nI xx) w n k (nI cc) = -4)
  | 0, k, cc, h1, h2, h3, h4 => by
    refine Or.inr ⟨?_, rfl⟩
    rw [show (99 : Nat) = k - 1 by omega, h4]
    exact h3
  | n + 1, k, cc, h1, h2, h3, h4 => by
    have hc := h.2.2.2.2.2.1.1 k (by omega)
    have hb := h.2.2.2.2.2.1.2.2.2.2
    have ht : tc (μ.2 0) k = if μ.2 0 (552 + k) = 0 then cc else cc + 1 := by
      obtain ⟨j, rfl⟩ : ∃ j, k = j + 1 := ⟨k - 1, by omega⟩
      rw [Nat.add_sub_cancel] at h4
      rw [← h4]
      rfl
    unfold tAddr mEntK
    rw [oAt_k (by omega) (by decide), n552 (by omega)]
    by_cases c : μ.2 0 (552 + k) = 0
    · rw [if_pos c] at ht
      rw [if_pos ((cb_0 hc).mpr c), if_neg (fun q => (cb_pos hc).mp q c)]
      exact ent_k hx h n (k + 1) cc (by omega) (by omega) h3 (by rw [Nat.add_sub_cancel]; exact ht)
    · rw [if_neg c] at ht
      rw [if_neg (fun q => c ((cb_0 hc).mp q)), if_pos ((cb_pos hc).mpr c)]
      have hle := tc_mono (f := μ.2 0) (show k ≤ 99 by omega)
      by_cases c2 : cc = xx
      · rw [if_pos (by rw [c2]), if_pos (by rw [c2])]
        exact Or.inl ⟨by omega, k, h2, by omega, rfl, rfl, c⟩
      · have ne : ¬ nI cc = nI xx := fun q => c2 ((nI_eq (by omega) hx).mp q)
        rw [if_neg ne, if_neg ne, ← nI_succ]
        exact ent_k hx h n (k + 1) (cc + 1) (by omega) (by omega) (by omega) (by rw [Nat.add_sub_cancel]; exact ht)
theorem a_entry {C N : Nat} {S : Sy} {μ : Mo} {x w : Int32} (h : RC C N (S.1 0) (μ.2 0)) : xEntry S x w = mEntry μ x w := by
  unfold xEntry mEntry
  by_cases c : x < 0
  · rw [if_pos c, if_pos c]
  · rw [if_neg c, if_neg c]
    obtain ⟨xx, hx, rfl⟩ := nI_of c
    have e : mIn w 0 3 = if w < 0 then 0 else if 3 < w then 0 else 1 := rfl
    by_cases c1 : w < 0
    · rw [if_pos c1, if_pos (show mIn w 0 3 = 0 by rw [e, if_pos c1])]
    · rw [if_neg c1]
      by_cases c2 : 3 < w
      · rw [if_pos c2, if_pos (show mIn w 0 3 = 0 by rw [e, if_neg c1, if_pos c2])]
      · rw [if_neg c2, if_neg (show ¬ mIn w 0 3 = 0 by rw [e, if_neg c1, if_neg c2]; decide), h.2.2.2.2.2.1.2.2.2.1]
        have hb := h.2.2.2.2.2.1.2.2.2.2
        rcases ent_k (w := w) hx h 99 1 0 rfl (Nat.le_refl 1) (Nat.zero_le xx) rfl with ⟨q1, a, q2, q3, q4, q5, q6⟩ | ⟨q1, q2⟩
        · have q4 : tAddr (S.1 0) (nI xx) 99 1 0 = nI a := q4
          have q5 : mEntK μ (nI xx) w 99 1 0 = mVal μ w (nI a) := q5
          rw [if_pos (nI_lt q1 (by omega)), q4, q5]
          unfold mVal
          have e1 : tPort (S.1 0) (nI a) = now μ (552 + nI a) - 1 := by
            unfold tPort
            rw [oAt_k q3 (by decide), n552 q3]
            rcases h.2.2.2.2.2.1.1 a q3 with ⟨_, q⟩ | ⟨j, _, z1, z2⟩
            · exact absurd q q6
            · rw [z1, z2, nI_pred]
          have e2 : (S.1 0).2 0 - oAt 10 100 (S.1 0) (nI a) = now μ 4 - now μ (652 + nI a) := by
            rw [oAt_k q3 (by decide), n652 q3, (h.2.2.2.2.2.1.2.2.1 a q3).1, h.1.1, show now μ 4 = nI C from (now_nI (n := 4) (by decide)).trans h.1.2.1]
          rw [e1, e2, r_late q2 q3 h 10 (Nat.le_refl 10)]
        · have q2 : mEntK μ (nI xx) w 99 1 0 = -4 := q2
          rw [if_neg (nI_nlt q1 hx), q2]
theorem a_where {C N : Nat} {S : Sy} {μ : Mo} {x : Int32} (h : RC C N (S.1 0) (μ.2 0)) : xWhere S x = mWhere μ x := by
  unfold xWhere mWhere
  rcases addr_c x with ⟨h1, h2⟩ | ⟨a, a1, a2, rfl, h3, h4⟩
  · rw [if_pos h1, if_neg h2]
  · rw [if_neg h3, if_pos h4, n552 a2]
    unfold tPort
    rw [oAt_k a2 (by decide)]
    rcases h.2.2.2.2.2.1.1 a a2 with ⟨z1, z2⟩ | ⟨j, z0, z1, z2⟩
    · rw [z1, z2]; rfl
    · rw [z1, z2, if_pos (show (0 : Int32) < nI (j + 1) from nI_lt (a := 0) (by omega) (by omega)), nI_pred]
theorem a_queued {C N : Nat} {S : Sy} {μ : Mo} {p x w : Int32} (h : RC C N (S.1 0) (μ.2 0)) : xQueued S p x w = mQueued μ p x w := by
  unfold xQueued mQueued
  rcases port_c p with ⟨h1, h2⟩ | ⟨k, hk, rfl, h3, h4⟩
  · rw [if_pos h1, if_neg h2]
  · rw [if_neg h3, if_pos h4]
    by_cases c : x < 0
    · rw [if_pos c, if_pos c]
    · rw [if_neg c, if_neg c]
      obtain ⟨xx, hx, rfl⟩ := nI_of c
      rcases in_range (x := w) (l := 0) (u := 3) (by decide) (by decide) with ⟨q1, q2⟩ | ⟨v, _, q2, q3, q4⟩
      · have q1 : mIn w 0 3 = 0 := q1
        rw [if_pos q1]
        by_cases c : w < 0
        · rw [if_pos c]
        · rw [if_neg c, if_neg]
          intro c2
          obtain ⟨n, hn, e⟩ := nI_of c
          subst e
          exact q2 n (by omega) (by have := (nI_ltI (b := 4) hn (by decide)).mp c2; omega) rfl
      · have q4 : ¬ mIn w 0 3 = 0 := q4
        subst q3
        rw [if_neg q4, if_neg (nI_pos (by omega)), if_pos (nlt_lit (b := 4) (by omega) (by decide))]
        obtain ⟨m, g1, g2, g3, g4, g5⟩ := h.2.2.2.2.1 k hk
        rw [oAt_k hk (by decide), g2]
        rcases mAt_k (w := nI xx) hk g1 g3 (fun i hi => (g5 i hi).2.2.1) g4 with ⟨jj, i, r1, r2, r3, r4, r5⟩ | ⟨r1, r2⟩
        · obtain rfl : xx = i := (nI_eq hx (by omega)).mp r3
          rw [if_pos (nI_lt r2 (by omega)), r4, if_neg (show ¬ nI jj = (-4 : Int32) from fun q => absurd (by rw [q]; decide) (nI_pos (n := jj) (by omega))), qPart_k hk (by omega) (by omega)]
          have s0 := congrArg (fun z : Fr => z.1) r5
          have s1 := congrArg (fun z : Fr => z.2.1) r5
          have s2 := congrArg (fun z : Fr => z.2.2.1) r5
          have s3 := congrArg (fun z : Fr => z.2.2.2) r5
          unfold mF xF at s0 s1 s2 s3
          dsimp only at s0 s1 s2 s3
          rcases (show v = 0 ∨ v = 1 ∨ v = 2 ∨ v = 3 by omega) with rfl | rfl | rfl | rfl
          · rw [if_neg (by decide), show (nI 0 + 1 : Int32) = nI 1 from rfl, ix_qc, now_nI (by omega)]
            exact s0.symm
          · rw [if_neg (by decide), show (nI 1 + 1 : Int32) = nI 2 from rfl, ix_qc, now_nI (by omega)]
            exact s1.symm
          · rw [if_neg (by decide), show (nI 2 + 1 : Int32) = nI 3 from rfl, ix_qc, now_nI (by omega)]
            exact s2.symm
          · rw [if_pos (by decide), show (0 : Int32) = nI 0 from rfl, ix_qc, now_nI (by omega)]
            exact s3.symm
        · rw [if_pos r1, if_neg]
          intro q
          have := (nI_ltI hx (by omega)).mp q
          exact r2 xx this rfl
