/-! all ports send; frames on their way come in; on both sides -/
theorem xst_1 {S : Sy} {σ : St} : (xst S 0 σ).1 0 = σ := rfl
theorem r_send {C N k r R : Nat} {S : Sy} {x : Int32 × Mo} (hC : C + 600 < 2147483648) (hk : k < 8) (h : ZR C N r S x.2) (eR : (S.1 0).1 0 3 = nI R) (hR : R ≤ 10) (h80 : r + R ≤ 80) (ho : ¬ pOpen (S.1 0) (nI k) = 0) :
    (∃ r', r' ≤ r + R ∧ ZR C N r' (xSend S (nI k)).2 (mSr x (nI k) R).2) ∧ (mSr x (nI k) R).1 = x.1 + (xSend S (nI k)).1 ∧ FS S (xSend S (nI k)).2 ∧ ((xSend S (nI k)).2.1 0).1 0 = (S.1 0).1 0 := by
  obtain ⟨m, hm, e7, -, -, -⟩ := h.1.2.2.2.2.1 k hk
  obtain ⟨F, hF1, hF2, hF3, hF⟩ : ∃ F, F ≤ m ∧ F ≤ R ∧ (F = m ∨ F = R) ∧ fFrames (S.1 0) (nI k) = nI F := by
    unfold fFrames
    rw [oAt_k hk (by decide), e7, show (3 : Int32) = nI 3 from rfl, oAt_k (by decide) (by decide), eR]
    by_cases c : m < R
    · rw [if_pos (nI_lt c (by omega))]
      exact ⟨m, Nat.le_refl m, by omega, Or.inl rfl, rfl⟩
    · rw [if_neg (nI_nlt (by omega) (by omega))]
      exact ⟨R, by omega, Nat.le_refl R, Or.inr rfl, rfl⟩
  have hq : pFar (S.1 0) (nI k) = (S.1 0).1 4 k := oAt_k hk (by decide)
  have stop : ∀ y : Int32 × Mo, F ≠ R → y.2.2 0 (8 + 20 * k + 5) = nI (m - F) → mS1 y (nI k) = y := by
    intro y hn he
    obtain rfl : F = m := by omega
    unfold mS1
    by_cases c : mOpen y.2 (nI k) = 0
    · rw [if_pos c]
    · rw [if_neg c, if_neg]
      rw [show (5 : Int32) = nI 5 from rfl, of_nI hk (by decide), he, Nat.sub_self]
      decide
  have m5 : ∀ (τ : St) (f : Nat → Int32), τ.1 7 k = nI (m - F) → RC C N τ f → f (8 + 20 * k + 5) = nI (m - F) := by
    intro τ f h1 h2
    obtain ⟨m', _, g2, g3, _⟩ := h2.2.2.2.2.1 k hk
    rw [g3, ← g2, h1]
  unfold xSend
  rw [hq, hF]
  rcases (h.1.2.2.1 k hk).2.2.2.1 with ⟨q1, _⟩ | ⟨jq, hj, q1, _⟩
  · have B := r_nocab hC hk hm h e7 q1 ho F hF1
    have eR2 : mSr x (nI k) R = mSr x (nI k) F := by
      by_cases c : F = R
      · rw [c]
      · exact sr_stop (stop _ c (m5 _ _ (by show upd ((S.1 0).1 7) k (nI (m - F)) k = _; rw [upd_s]) B.2.1)) R hF2
    have e : xS3 (xS2 (xS1 S (nI k) ((S.1 0).1 4 k) (nI F)) (nI k) (nI F)) (nI k) ((S.1 0).1 4 k) (nI F) = xst (xst S 0 (cA (S.1 0) k m F)) 0 (cB (S.1 0) k m F) := by
      rw [q1]
      unfold xS3 xS1 xSN
      rw [if_pos rfl, if_pos rfl]
      unfold xS2
      have e0 : (xSL S (nI k) (-4) 0) = S := rfl
      rw [e0, xst_1, ← cB_k hk hm hF1 e7, cA_k hk hm hF1 e7]
    show (∃ r', r' ≤ r + R ∧ ZR C N r' (xS3 _ _ _ _) _) ∧ _ = x.1 + nI F ∧ FS S (xS3 _ _ _ _) ∧ ((xS3 _ _ _ _).1 0).1 0 = _
    rw [e, eR2]
    refine ⟨⟨r, by omega, ?_, h.2.1, B.2.2.1, ?_⟩, B.1, fs_t fs_st fs_st, ?_⟩
    · rw [xst_1]; exact B.2.1
    · rw [B.2.2.2]; exact h.2.2.2
    · rw [xst_1]; rfl
  · have B := r_cab hC hk hm hj h e7 q1 ho F hF1 (by omega)
    have eR2 : mSr x (nI k) R = mSr x (nI k) F := by
      by_cases c : F = R
      · rw [c]
      · exact sr_stop (stop _ c (m5 _ _ (by show upd ((S.1 0).1 7) k (nI (m - F)) k = _; rw [upd_s]) B.2.1)) R hF2
    have n4 : ¬ nI jq = (-4 : Int32) := fun q => absurd (by rw [q]; decide) (nI_pos (n := jq) (by omega))
    have e : xS3 (xS2 (xS1 S (nI k) ((S.1 0).1 4 k) (nI F)) (nI k) (nI F)) (nI k) ((S.1 0).1 4 k) (nI F) = xst (xSL S (nI k) (nI jq) F) 0 (cA (S.1 0) k m F) := by
      rw [q1]
      unfold xS3 xS1 xSN
      rw [if_neg n4, if_neg n4, nI_clamp (by omega)]
      unfold xS2
      rw [sl_1, cA_k hk hm hF1 e7]
    show (∃ r', r' ≤ r + R ∧ ZR C N r' (xS3 _ _ _ _) _) ∧ _ = x.1 + nI F ∧ FS S (xS3 _ _ _ _) ∧ ((xS3 _ _ _ _).1 0).1 0 = _
    rw [e, eR2]
    refine ⟨⟨r + F, by omega, ?_, B.2.2.1, B.2.2.2.1, B.2.2.2.2⟩, B.1, fs_t (sl_fs F) fs_st, ?_⟩
    · rw [xst_1]; exact B.2.1
    · rw [xst_1]; rfl
theorem r_sendK {C N R : Nat} {S : Sy} {μ : Mo} (hC : C + 600 < 2147483648) (h : RC C N (S.1 0) (μ.2 0)) (eR : (S.1 0).1 0 3 = nI R) (hR : R ≤ 10) : ∀ k, k ≤ 8 →
    (∃ r, r ≤ R * k ∧ ZR C N r (xSendK S k).2 (mS8 μ R k).2) ∧ (mS8 μ R k).1 = (xSendK S k).1 ∧ FS S (xSendK S k).2 ∧ ((xSendK S k).2.1 0).1 0 = (S.1 0).1 0
  | 0, _ => ⟨⟨0, by omega, h, rfl, rfl, fun i hi => absurd hi (Nat.not_lt_zero i)⟩, rfl, ⟨fun _ _ => rfl, fun i h1 _ => if_neg h1, rfl⟩, rfl⟩
  | k + 1, hk => by
    obtain ⟨⟨r, r1, r2⟩, i1, i2, i3⟩ := r_sendK hC h eR hR k (by omega)
    have hM : mS8 μ R (k + 1) = mSr (mS8 μ R k) (nI k) R := rfl
    unfold xSendK
    rw [hM]
    generalize mS8 μ R k = y at *
    generalize xSendK S k = T at *
    by_cases c : pOpen (T.2.1 0) (nI k) = 0
    · rw [if_pos c]
      have e1 : mS1 (mSr y (nI k) 0) (nI k) = mSr y (nI k) 0 := by
        show mS1 y (nI k) = y
        unfold mS1
        rw [if_pos (by rw [← open_k hC (by omega) r2.1]; exact c)]
      rw [sr_stop e1 R (Nat.zero_le R)]
      exact ⟨⟨r, by rw [Nat.mul_succ]; omega, r2⟩, i1, i2, i3⟩
    · rw [if_neg c]
      have hb : R * k ≤ 10 * k := Nat.mul_le_mul_right k hR
      obtain ⟨⟨r', q1, q2⟩, q3, q4, q5⟩ := r_send hC (by omega : k < 8) r2 (by rw [i3]; exact eR) hR (by omega) c
      exact ⟨⟨r', by rw [Nat.mul_succ]; omega, q2⟩, by rw [q3, i1], fs_t i2 q4, q5.trans i3⟩
theorem come_fr {C N k : Nat} {σ : St} {μ : Mo} {s d pr : Int32} (hC : C < 2147483648) (hk : k < 8) (hs : AS s) (hd : AD d) (hr : WH pr 4) (h : RC C N σ (μ.2 0)) : (∀ j, j ≠ 2 → (mCome μ (nI k) s d pr).2.1 j = μ.1 j) ∧ ∀ j, j ≠ 0 → (mCome μ (nI k) s d pr).2.2 j = μ.2 j := by
  obtain ⟨R, _, hG⟩ := rc_gb hC h
  have := cl_come (cl_ga μ R C) (po_nI hk) (as_ad hs) hd hr (gb_ga hG)
  exact ⟨this.2.2.2.2.1, this.2.2.2.2.2⟩
theorem part_k {S : Sy} {k w : Nat} (hk : k < 96) (hw : w < 4) : xPart S (nI k) (nI w) = S.2.2 1 (4 * k + w) := by
  unfold xPart rAt
  rw [show (4 : Int32) = nI 4 from rfl, pk_mul, nI_add, Nat.mul_comm k 4, if_neg (nI_pos (by omega)), if_pos (nI_lt (by omega) (by omega)), nI_clamp (by omega)]
theorem ga_k {μ : Mo} {a n : Nat} (hn : n < 2147483648) : ga μ a (nI n) = μ.2 a n := by
  unfold ga
  rw [nI_clamp hn]
theorem x4k (k : Nat) : (4 : Int32) * nI k = nI (4 * k) := by rw [show (4 : Int32) = nI 4 from rfl, pk_mul]
theorem let_s (S : Sy) (k : Nat) : xLet S (k + 1) = (if (sCome (xLet S k).2 (xPart S (nI k) 3) (xPart S (nI k) 0) (xPart S (nI k) 1) (xPart S (nI k) 2)).1 = 0 then (xLet S k).1 else (xLet S k).1 + 1, (sCome (xLet S k).2 (xPart S (nI k) 3) (xPart S (nI k) 0) (xPart S (nI k) 1) (xPart S (nI k) 2)).2) := rfl
/-- those on their way -/
theorem r_arr {C N r : Nat} {S : Sy} {ν : Mo} (hC : C + 600 < 2147483648) (hN : N + 1000 < 2147483648) (hr : r ≤ 80) (h : ZR C N r S ν) : ∀ k, k ≤ r → (∃ N', N' ≤ N + 8 * k ∧ RC C N' (xLet S k).2 ((mArr ν k).2 0)) ∧ (∀ j, j ≠ 2 → (mArr ν k).1 j = ν.1 j) ∧ ∀ j, j ≠ 0 → (mArr ν k).2 j = ν.2 j
  | 0, _ => ⟨⟨N, by omega, h.1⟩, fun _ _ => rfl, fun _ _ => rfl⟩
  | k + 1, hk => by
    obtain ⟨⟨N', n1, n2⟩, f1, f2⟩ := r_arr hC hN hr h k (by omega)
    have hA : mArr ν (k + 1) = (mCome (mArr ν k) (ga (mArr ν k) 4 (4 * nI k)) (ga (mArr ν k) 4 (4 * nI k + 1)) (ga (mArr ν k) 4 (4 * nI k + 2)) (ga (mArr ν k) 4 (4 * nI k + 3))).2 := rfl
    obtain ⟨⟨a1, a2, a3, a4⟩, b1, b2, b3, b4⟩ := h.2.2.2 k (by omega)
    have a2' : S.2.2 1 (4 * k + 0) = ν.2 4 (4 * k + 1) := a2
    rw [hA, let_s, x4k, show (1 : Int32) = nI 1 from rfl, show (2 : Int32) = nI 2 from rfl, show (3 : Int32) = nI 3 from rfl, show (0 : Int32) = nI 0 from rfl, nI_add, nI_add, nI_add, ga_k (by omega), ga_k (by omega), ga_k (by omega), ga_k (by omega), part_k (by omega) (by decide), part_k (by omega) (by decide), part_k (by omega) (by decide), part_k (by omega) (by decide), f2 4 (by decide), a1, a2', a3, a4]
    obtain ⟨p, hp, ep⟩ := b1
    rw [ep]
    obtain ⟨-, ⟨N2, q1, q2⟩, -⟩ := r_come hC (by omega) hp b2 b3 b4 n2
    have fr := come_fr (by omega) hp b2 b3 b4 n2
    exact ⟨⟨N2, by omega, q2⟩, fun j hj => (fr.1 j hj).trans (f1 j hj), fun j hj => (fr.2 j hj).trans (f2 j hj)⟩
