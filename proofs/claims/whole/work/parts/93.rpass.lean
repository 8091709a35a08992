/-! seconds, on both sides -/
theorem letin_1 {S : Sy} : (xLetIn S).2.1 0 = (xLet S (S.2.1 5).toNatClampNeg).2 := rfl
theorem r_goes {C N : Nat} {S : Sy} {μ : Mo} (hC : C + 1000 < 1073741824) (hN : N + 2000 < 2147483648) (h : RC C N (S.1 0) (μ.2 0)) : (xSendK S 8).1 = (mGoes μ).1 ∧ (∃ N', N' ≤ N + 640 ∧ RC (C + 1) N' ((xSec S).1 0) ((mGoes μ).2.2 0)) ∧ FS S (xSec S) ∧ FR μ (mGoes μ).2 := by
  obtain ⟨R, hR, hG⟩ := rc_gb (by omega) h
  have eR : (S.1 0).1 0 3 = nI R := (h.2.1 3 (by decide)).1.trans hG.2.2.1
  have e3 : (now μ 3).toNatClampNeg = R := by
    rw [show (3 : Int32) = nI 3 from rfl, now_nI (by decide), hG.2.2.1, nI_clamp (by omega)]
  obtain ⟨⟨r, r1, r2⟩, i1, i2, i3⟩ := r_sendK (by omega) h eR hR 8 (Nat.le_refl 8)
  have gs := gs_8 hR hG 8 (Nat.le_refl 8)
  unfold mGoes mG2 xSec
  rw [e3, letin_1]
  have hr : r ≤ 80 := by omega
  have er : ((xSendK S 8).2.2.1 5).toNatClampNeg = r := by rw [r2.2.1, nI_clamp (by omega)]
  have em : ((mS8 μ R 8).2.1 3).toNatClampNeg = r := by rw [r2.2.2.1, nI_clamp (by omega)]
  obtain ⟨⟨N', n1, n2⟩, f1, f2⟩ := r_arr (by omega) (by omega) hr r2 r (Nat.le_refl r)
  obtain ⟨t1, t2, t3⟩ := r_end hC n2
  show _ = (mS8 μ R 8).1 ∧ (∃ N', N' ≤ N + 640 ∧ RC (C + 1) N' ((xst (xLetIn (xSendK S 8).2).2 0 _).1 0) ((mG5 (mG3 (mArr (mS8 μ R 8).2 ((mS8 μ R 8).2.1 3).toNatClampNeg))).2 0)) ∧ FS S _ ∧ FR μ (mG5 (mG3 (mArr (mS8 μ R 8).2 ((mS8 μ R 8).2.1 3).toNatClampNeg)))
  rw [em, er, xst_1]
  refine ⟨i1.symm, ⟨N', by omega, t1⟩, fs_t i2 (fs_t fs_st fs_st), ?_, ?_⟩
  · intro j h2 h3
    rw [t2, f1 j h2]
    exact gs.2.1.1 j h2 h3
  · intro j h0 h4
    rw [t3 j h0, f2 j h0]
    exact gs.2.1.2 j h0 h4
set_option maxRecDepth 100000 in
theorem r_ps {C N : Nat} {S : Sy} {μ : Mo} (hC : C + 2000 < 1073741824) (hN : N + 20000 < 2147483648) (h : RC C N (S.1 0) (μ.2 0)) : ∀ k, k ≤ 10 → (xPassK S k).1 = (mPs μ k).1 ∧ (∃ N', N' ≤ N + 640 * k ∧ RC (C + k) N' ((xPassK S k).2.1 0) ((mPs μ k).2.2 0)) ∧ FS S (xPassK S k).2 ∧ FR μ (mPs μ k).2
  | 0, _ => ⟨rfl, ⟨N, by omega, h⟩, fs_r S, fun _ _ _ => rfl, fun _ _ _ => rfl⟩
  | k + 1, hk => by
    obtain ⟨i1, ⟨N', n1, n2⟩, i3, i4⟩ := r_ps hC hN h k (by omega)
    obtain ⟨j1, ⟨N2, m1, m2⟩, j3, j4⟩ := r_goes (by omega) (by omega) n2
    have e1 : xPassK S (k + 1) = ((xPassK S k).1 + (xSendK (xPassK S k).2 8).1, xSec (xPassK S k).2) := rfl
    have e2 : mPs μ (k + 1) = ((mPs μ k).1 + (mGoes (mPs μ k).2).1, (mGoes (mPs μ k).2).2) := rfl
    rw [e1, e2]
    generalize xSec (xPassK S k).2 = T at *
    generalize mGoes (mPs μ k).2 = y at *
    have m3 : N2 ≤ N + 640 * (k + 1) := by
      clear m2 n2 j1 i1 j3 j4 i3 i4
      omega
    refine ⟨?_, ⟨N2, m3, m2⟩, fs_t i3 j3, ?_, ?_⟩
    · show (xPassK S k).1 + (xSendK (xPassK S k).2 8).1 = (mPs μ k).1 + y.1
      rw [i1, j1]
    · intro j h2 h3
      exact (j4.1 j h2 h3).trans (i4.1 j h2 h3)
    · intro j h2 h3
      exact (j4.2 j h2 h3).trans (i4.2 j h2 h3)
/-! places of arguments -/
theorem lt_8 {p : Int32} (h0 : ¬ p < 0) (h : p < 8) : ∃ k : Nat, k < 8 ∧ p = nI k := by
  obtain ⟨j, hj, e⟩ := nI_of h0
  refine ⟨j, ?_, e⟩
  rw [e] at h
  exact (nI_ltI (b := 8) hj (by decide)).mp h
theorem in_range {x : Int32} {l u : Nat} (hl : l < 1000000) (hu : u < 1000000) : (mIn x (nI l) (nI u) = 0 ∧ ∀ n, l ≤ n → n ≤ u → ¬ x = nI n) ∨ ∃ n, l ≤ n ∧ n ≤ u ∧ x = nI n ∧ ¬ mIn x (nI l) (nI u) = 0 := by
  unfold mIn
  by_cases c1 : x < nI l
  · rw [if_pos c1]
    exact Or.inl ⟨rfl, fun n h1 h2 e => nI_nlt h1 (by omega) (e ▸ c1)⟩
  · rw [if_neg c1]
    by_cases c2 : nI u < x
    · rw [if_pos c2]
      exact Or.inl ⟨rfl, fun n h1 h2 e => nI_nlt h2 (by omega) (e ▸ c2)⟩
    · rw [if_neg c2]
      have h0 : ¬ x < 0 := by
        intro q
        apply c1
        rw [Int32.lt_iff_toInt_lt] at *
        rw [nI_toInt (by omega)] at *
        have : (0 : Int32).toInt = 0 := rfl
        omega
      obtain ⟨n, hn, e⟩ := nI_of h0
      subst e
      refine Or.inr ⟨n, ?_, ?_, rfl, by decide⟩
      · exact Nat.le_of_not_lt fun q => c1 (nI_lt q (by omega))
      · exact Nat.le_of_not_lt fun q => c2 (nI_lt q hn)
theorem port_c (p : Int32) : (isPort p = 0 ∧ ¬ mNoPort p = 0) ∨ ∃ k, k < 8 ∧ p = nI k ∧ ¬ isPort p = 0 ∧ mNoPort p = 0 := by
  unfold mNoPort isPort
  rcases in_range (x := p) (l := 0) (u := 7) (by decide) (by decide) with ⟨h1, h2⟩ | ⟨n, _, h2, h3, h4⟩
  · refine Or.inl ⟨?_, ?_⟩
    · by_cases c : p < 0
      · rw [if_pos c]
      · rw [if_neg c]
        by_cases c2 : p < 8
        · obtain ⟨k, hk, e⟩ := lt_8 c c2
          exact absurd e (h2 k (by omega) (by omega))
        · rw [if_neg c2]
    · have h1 : mIn p 0 7 = 0 := h1
      rw [if_pos h1]; decide
  · refine Or.inr ⟨n, by omega, h3, ?_, ?_⟩
    · rw [h3, if_neg (nI_pos (by omega)), if_pos (nlt_lit (b := 8) (by omega) (by decide))]; decide
    · have h4 : ¬ mIn p 0 7 = 0 := h4
      rw [if_neg h4]
theorem addr_v {x : Int32} {n : Nat} (h1 : 1 ≤ n) (h2 : n ≤ 99) (e : x = nI n) : ¬ isAddr x = 0 := by
  unfold isAddr
  rw [e, if_neg (show ¬ nI n < 1 from nI_nlt (b := 1) h1 (by omega)), if_neg (nle_lit (b := 99) h2 (by decide))]
  decide
theorem addr_n {x : Int32} (h : ∀ n, 1 ≤ n → n ≤ 99 → ¬ x = nI n) : isAddr x = 0 := by
  unfold isAddr
  by_cases c : x < 1
  · rw [if_pos c]
  · rw [if_neg c]
    by_cases c2 : 99 < x
    · rw [if_pos c2]
    · rw [if_neg c2]
      exfalso
      rcases in_range (x := x) (l := 1) (u := 99) (by decide) (by decide) with ⟨h1, _⟩ | ⟨n, h1, h2, h3, _⟩
      · have h1 : mIn x 1 99 = 0 := h1
        unfold mIn at h1
        rw [if_neg c, if_neg c2] at h1
        exact absurd h1 (by decide)
      · exact h n h1 h2 h3
theorem addr_c (x : Int32) : (isAddr x = 0 ∧ ¬ mNoAddr x = 0) ∨ ∃ a, 1 ≤ a ∧ a < 100 ∧ x = nI a ∧ ¬ isAddr x = 0 ∧ mNoAddr x = 0 := by
  unfold mNoAddr
  rcases in_range (x := x) (l := 1) (u := 99) (by decide) (by decide) with ⟨h1, h2⟩ | ⟨n, h1, h2, h3, h4⟩
  · have h1 : mIn x 1 99 = 0 := h1
    exact Or.inl ⟨addr_n h2, by rw [if_pos h1]; decide⟩
  · have h4 : ¬ mIn x 1 99 = 0 := h4
    exact Or.inr ⟨n, h1, by omega, h3, addr_v h1 h2 h3, by rw [if_neg h4]⟩
theorem dest_c (x : Int32) : (isDest x = 0 ∧ mIn x 0 99 = 0) ∨ (AD x ∧ ¬ isDest x = 0 ∧ ¬ mIn x 0 99 = 0) := by
  unfold isDest
  rcases in_range (x := x) (l := 0) (u := 99) (by decide) (by decide) with ⟨h1, h2⟩ | ⟨n, h1, h2, h3, h4⟩
  · have h1 : mIn x 0 99 = 0 := h1
    refine Or.inl ⟨?_, h1⟩
    rw [if_neg (show ¬ x = 0 from h2 0 (by omega) (by omega)), if_pos (addr_n fun n q1 q2 => h2 n (by omega) q2)]
  · have h4 : ¬ mIn x 0 99 = 0 := h4
    refine Or.inr ⟨⟨n, by omega, h3⟩, ?_, h4⟩
    by_cases c : n = 0
    · subst c
      rw [h3, if_pos (show nI 0 = (0 : Int32) from rfl)]; decide
    · rw [if_neg (by rw [h3]; exact nI_ne0 (by omega) (by omega)), if_neg (addr_v (by omega) h2 h3)]; decide
