/-! a frame that comes in: what is learned and decided -/
def LDR (C N K k a b n : Nat) (σ τ : St) : Prop :=
  IV C N (K + 1) τ ∧ (τ.1 0 = σ.1 0 ∧ τ.1 1 = σ.1 1 ∧ τ.1 4 = σ.1 4 ∧ τ.1 6 = σ.1 6 ∧ τ.1 7 = σ.1 7 ∧ τ.1 8 = σ.1 8) ∧ n < 7 ∧ (n = 0 ↔ pOpen σ (nI k) = 0) ∧
  ((n = 4 ∨ n = 5) → τ.1 2 k = σ.1 0 1 ∧ τ.1 3 k = nI (n - 3) ∧ τ.2 2 = σ.2 2 + 1 ∧ ∀ x, x < 100 → τ.1 9 x ≠ nI k) ∧
  (n ≠ 4 → n ≠ 5 → τ.1 2 = σ.1 2 ∧ τ.2 2 = σ.2 2 ∧ (n ≠ 0 → τ.1 9 a = nI k)) ∧
  (n = 4 → ∃ j, j < 8 ∧ j ≠ k ∧ σ.1 9 a = nI j) ∧ (n = 5 → ¬ σ.1 5 k < σ.1 0 2) ∧ (n = 3 → τ.1 5 k = σ.1 5 k + 1) ∧
  (n = 2 → ∃ j, j < 8 ∧ j ≠ k ∧ τ.1 9 b = nI j ∧ ob σ j = true)
theorem open_0 {σ : St} {k : Nat} (hk : k < 8) (h : ¬ pOpen σ (nI k) = 0) : σ.1 1 k = 1 ∧ σ.1 2 k = 0 := by
  unfold pOpen at h
  rw [oAt_k hk (by decide), oAt_k hk (by decide)] at h
  by_cases c : σ.1 1 k = 1
  · rw [if_pos c] at h
    by_cases c2 : σ.1 2 k = 0
    · exact ⟨c, c2⟩
    · rw [if_neg c2] at h; exact absurd rfl h
  · rw [if_neg c] at h; exact absurd rfl h
theorem tab_iv {C N K : Nat} {σ : St} {t x : Nat → Int32} {z : Int32} (h : IV C N K σ) (hT : IvT C t x z) (hL : IvL (σ.1 2) t) : IV C N K (tabS σ t x z) := by
  obtain ⟨h1, h2, h3, h4, h5, h6, h7, h8, h9, hA, hQ, hT0, hW⟩ := h
  exact ⟨h1, h2, h3, h4, hL, h6, h7, h8, h9, hA, hQ, hT, hW⟩
theorem mv_k {τ : St} {C a : Nat} (hC : C < 2147483648) (ha : a < 100) : mAdd τ (nI a) (nI C) = rput τ 11 (upd (τ.1 11) (100 * (C % 10) + a) (τ.1 11 (100 * (C % 10) + a) + 1)) := by
  unfold mAdd mSec
  have hm : C % 10 < 10 := Nat.mod_lt _ (by decide)
  rw [show (10 : Int32) = nI 10 from rfl, pk_rem hC (by decide) (by decide), show (100 : Int32) = nI 100 from rfl, pk_mul, nI_add, oAdd_k (by omega) (by decide), Nat.mul_comm (C % 10) 100]
theorem mv_iv {C N K a : Nat} {τ : St} (hC : C < 2147483648) (ha : a < 100) (h : IV C N K τ) : IV C N (K + 1) (mAdd τ (nI a) (nI C)) := by
  rw [mv_k hC ha]
  obtain ⟨h1, h2, h3, h4, h5, h6, h7, h8, h9, hA, hQ, hT, hW⟩ := h
  refine ⟨h1, h2, h3, h4, h5, h6, h7, h8, h9, fun k hk => acq_mono (hA k hk) (by omega), hQ, hT, fun j hj => ?_⟩
  show nle (K + 1) (upd (τ.1 11) _ _ j)
  by_cases c : j = 100 * (C % 10) + a
  · obtain ⟨n, q1, q2⟩ := hW j hj
    rw [← c, upd_s, q2]
    exact ⟨n + 1, by omega, (nI_succ n).symm⟩
  · rw [upd_n c]; exact nle_mono (hW j hj) (by omega)
theorem qu_iv {C N K k : Nat} {τ : St} {why : Int32} (hk : k < 8) (h : IV C N K τ) : IV C N K (sQuar τ (nI k) why) ∧ ((sQuar τ (nI k) why).1 0 = τ.1 0 ∧ (sQuar τ (nI k) why).1 1 = τ.1 1 ∧ (sQuar τ (nI k) why).1 4 = τ.1 4 ∧ (sQuar τ (nI k) why).1 6 = τ.1 6 ∧ (sQuar τ (nI k) why).1 7 = τ.1 7 ∧ (sQuar τ (nI k) why).1 8 = τ.1 8) ∧
    ((sQuar τ (nI k) why).1 2 k = τ.1 0 1 ∧ (sQuar τ (nI k) why).1 3 k = why ∧ (sQuar τ (nI k) why).2 2 = τ.2 2 + 1 ∧ ∀ x, x < 100 → (sQuar τ (nI k) why).1 9 x ≠ nI k) := by
  obtain ⟨h1, h2, h3, h4, h5, h6, h7, h8, h9, hA, hQ, hT, hW⟩ := h
  obtain ⟨t, z, e, T1, L1, hn⟩ := quar_k (why := why) hk hT h5 h3
  rw [e]
  exact ⟨⟨h1, h2, h3, h4, L1, h6, h7, h8, h9, hA, hQ, T1, hW⟩, ⟨rfl, rfl, rfl, rfl, rfl, rfl⟩, upd_s, upd_s, rfl, hn⟩
theorem fl_iv {C N K k : Nat} {τ : St} (hk : k < 8) (hc : τ.1 5 k < τ.1 0 2) (h : IV C N K τ) : IV C N K (rput τ 5 (upd (τ.1 5) k (τ.1 5 k + 1))) := by
  obtain ⟨h1, h2, h3, h4, h5, h6, h7, h8, h9, hA, hQ, hT, hW⟩ := h
  refine ⟨h1, h2, h3, h4, h5, h6, h7, fun j hj => ?_, h9, hA, hQ, hT, hW⟩
  show nle 50 (upd (τ.1 5) k (τ.1 5 k + 1) j)
  by_cases c : j = k
  · subst c
    rw [upd_s]
    obtain ⟨n, q1, q2⟩ := h8 j hk
    obtain ⟨m, g1, g2, g3⟩ := h3 2 (by decide)
    have g2 : m ≤ 50 := g2
    rw [q2, g3] at hc
    have := (nI_ltI (by omega) (by omega)).mp hc
    rw [q2]
    exact ⟨n + 1, by omega, (nI_succ n).symm⟩
  · rw [upd_n c]; exact h8 j hj
/-- the decision, once the source is learned -/
theorem dec_k {C N K k a b : Nat} {σ τ : St} (hk : k < 8) (hb : b < 100) (h : IV C N K τ) (eR : τ.1 0 = σ.1 0 ∧ τ.1 1 = σ.1 1 ∧ τ.1 4 = σ.1 4 ∧ τ.1 6 = σ.1 6 ∧ τ.1 7 = σ.1 7 ∧ τ.1 8 = σ.1 8) (e5 : τ.1 5 = σ.1 5) (e2 : τ.1 2 = σ.1 2) (eb : τ.2 2 = σ.2 2) (e9 : τ.1 9 a = nI k) (ho : ¬ pOpen σ (nI k) = 0) (K' : Nat) (hK : K ≤ K' + 1) :
    ∃ n, (sDec τ (nI k) (nI b)).1 = nI n ∧ LDR C N K' k a b n σ (sDec τ (nI k) (nI b)).2 := by
  have et : tPort τ (nI b) = τ.1 9 b := oAt_k hb (by decide)
  have eo : ∀ q, ob τ q = ob σ q := fun q => by unfold ob; rw [open_eq eR.2.1 e2]
  unfold sDec
  rw [et]
  rcases h.2.2.2.2.2.2.2.2.2.2.2.1.1 b hb with c | ⟨j, hj, c⟩
  · rw [c, if_neg (n4' (n := k) (by omega)), if_pos rfl, oAt_k hk (by decide), show (2 : Int32) = nI 2 from rfl, oAt_k (by decide) (by decide)]
    by_cases c2 : τ.1 5 k < τ.1 0 2
    · rw [if_pos c2, oAdd_k hk (by decide)]
      refine ⟨3, rfl, (fl_iv hk c2 h).mono (by omega), eR, by decide, ⟨fun q => absurd q (by decide), fun q => absurd q ho⟩, fun q => by omega, fun _ _ => ⟨e2, eb, fun _ => e9⟩, fun q => absurd q (by decide), fun q => absurd q (by decide), fun _ => ?_, fun q => absurd q (by decide)⟩
      show upd (τ.1 5) k (τ.1 5 k + 1) k = _
      rw [upd_s, e5]
    · rw [if_neg c2]
      obtain ⟨q1, q2, q3⟩ := qu_iv (why := nI 2) hk h
      refine ⟨5, rfl, q1.mono (by omega), ?_, by decide, ⟨fun q => absurd q (by decide), fun q => absurd q ho⟩, fun _ => ⟨q3.1.trans (congrFun eR.1 1), q3.2.1, q3.2.2.1.trans (congrArg (· + 1) eb), q3.2.2.2⟩, fun _ q => absurd rfl q, fun q => absurd q (by decide), fun _ => by rw [← e5, ← eR.1]; exact c2, fun q => absurd q (by decide), fun q => absurd q (by decide)⟩
      obtain ⟨p0, p1, p4, p6, p7, p8⟩ := q2
      exact ⟨p0.trans eR.1, p1.trans eR.2.1, p4.trans eR.2.2.1, p6.trans eR.2.2.2.1, p7.trans eR.2.2.2.2.1, p8.trans eR.2.2.2.2.2⟩
  · rw [c]
    by_cases c1 : nI j = nI k
    · rw [if_pos c1]
      exact ⟨1, rfl, h.mono (by omega), eR, by decide, ⟨fun q => absurd q (by decide), fun q => absurd q ho⟩, fun q => by omega, fun _ _ => ⟨e2, eb, fun _ => e9⟩, fun q => absurd q (by decide), fun q => absurd q (by decide), fun q => absurd q (by decide), fun q => absurd q (by decide)⟩
    · rw [if_neg c1, if_neg (n4 (by omega))]
      by_cases c2 : pOpen τ (nI j) = 0
      · rw [if_pos c2]
        exact ⟨6, rfl, h.mono (by omega), eR, by decide, ⟨fun q => absurd q (by decide), fun q => absurd q ho⟩, fun q => by omega, fun _ _ => ⟨e2, eb, fun _ => e9⟩, fun q => absurd q (by decide), fun q => absurd q (by decide), fun q => absurd q (by decide), fun q => absurd q (by decide)⟩
      · rw [if_neg c2]
        refine ⟨2, rfl, h.mono (by omega), eR, by decide, ⟨fun q => absurd q (by decide), fun q => absurd q ho⟩, fun q => by omega, fun _ _ => ⟨e2, eb, fun _ => e9⟩, fun q => absurd q (by decide), fun q => absurd q (by decide), fun q => absurd q (by decide), fun _ => ⟨j, hj, fun q => c1 (by rw [q]), c, ?_⟩⟩
        rw [← eo]
        exact ob_t.mpr c2
theorem ld_k {C N K k a b : Nat} {σ : St} (hC : C < 2147483648) (hk : k < 8) (h1 : 1 ≤ a) (h2 : a < 100) (hb : b < 100) (h : IV C N K σ) : ∃ n, (sLD σ (nI k) (nI a) (nI b)).1 = nI n ∧ LDR C N K k a b n σ (sLD σ (nI k) (nI a) (nI b)).2 := by
  have eC : σ.2 0 = nI C := h.1
  have et : tPort σ (nI a) = σ.1 9 a := oAt_k h2 (by decide)
  unfold sLD
  rw [eC, et]
  by_cases c0 : pOpen σ (nI k) = 0
  · rw [if_pos c0]
    exact ⟨0, rfl, h.mono (by omega), ⟨rfl, rfl, rfl, rfl, rfl, rfl⟩, by decide, ⟨fun _ => c0, fun _ => rfl⟩, fun q => by omega, fun _ _ => ⟨rfl, rfl, fun q => absurd rfl q⟩, fun q => absurd q (by decide), fun q => absurd q (by decide), fun q => absurd q (by decide), fun q => absurd q (by decide)⟩
  · rw [if_neg c0]
    have l0 := (open_0 hk c0).2
    obtain ⟨t, x, z, e, T1, L1, et9⟩ := ln_k h1 h2 hk l0 h.2.2.2.2.2.2.2.2.2.2.2.1 h.2.2.2.2.1
    rw [e]
    have i1 := tab_iv h T1 L1
    have d1 := dec_k (a := a) (b := b) (σ := σ) hk hb i1 ⟨rfl, rfl, rfl, rfl, rfl, rfl⟩ rfl rfl rfl et9 c0 K (by omega)
    by_cases c1 : σ.1 9 a = -4
    · rw [if_pos c1]; exact d1
    · rw [if_neg c1]
      by_cases c2 : σ.1 9 a = nI k
      · rw [if_pos c2]; exact d1
      · rw [if_neg c2]
        have eC2 : (tabS σ t x z).2 0 = nI C := eC
        rw [eC2]
        have i2 := mv_iv (a := a) hC h2 i1
        have em := mv_k (τ := tabS σ t x z) (a := a) hC h2
        unfold sMoved
        by_cases c3 : mLate (mAdd (tabS σ t x z) (nI a) (nI C)) (nI a) 10 < 3
        · rw [if_pos c3]
          refine dec_k (a := a) (b := b) (σ := σ) hk hb i2 ?_ ?_ ?_ ?_ ?_ c0 K (by omega)
          · rw [em]; exact ⟨rfl, rfl, rfl, rfl, rfl, rfl⟩
          · rw [em]; rfl
          · rw [em]; rfl
          · rw [em]; rfl
          · rw [em]; exact et9
        · rw [if_neg c3]
          obtain ⟨q1, q2, q3⟩ := qu_iv (why := 1) hk i2
          have eR : (mAdd (tabS σ t x z) (nI a) (nI C)).1 0 = σ.1 0 ∧ (mAdd (tabS σ t x z) (nI a) (nI C)).1 1 = σ.1 1 ∧ (mAdd (tabS σ t x z) (nI a) (nI C)).1 4 = σ.1 4 ∧ (mAdd (tabS σ t x z) (nI a) (nI C)).1 6 = σ.1 6 ∧ (mAdd (tabS σ t x z) (nI a) (nI C)).1 7 = σ.1 7 ∧ (mAdd (tabS σ t x z) (nI a) (nI C)).1 8 = σ.1 8 := by
            rw [em]; exact ⟨rfl, rfl, rfl, rfl, rfl, rfl⟩
          have eb : (mAdd (tabS σ t x z) (nI a) (nI C)).2 2 = σ.2 2 := by rw [em]; rfl
          refine ⟨4, rfl, q1, ?_, by decide, ⟨fun q => absurd q (by decide), fun q => absurd q c0⟩, fun _ => ⟨q3.1.trans (congrFun eR.1 1), q3.2.1, q3.2.2.1.trans (congrArg (· + 1) eb), q3.2.2.2⟩, fun q => absurd rfl q, fun _ => ?_, fun q => absurd q (by decide), fun q => absurd q (by decide), fun q => absurd q (by decide)⟩
          · obtain ⟨p0, p1, p4, p6, p7, p8⟩ := q2
            exact ⟨p0.trans eR.1, p1.trans eR.2.1, p4.trans eR.2.2.1, p6.trans eR.2.2.2.1, p7.trans eR.2.2.2.2.1, p8.trans eR.2.2.2.2.2⟩
          · rcases h.2.2.2.2.2.2.2.2.2.2.2.1.1 a h2 with q | ⟨j, hj, q⟩
            · exact absurd q c1
            · exact ⟨j, hj, fun e => c2 (by rw [q, e]), q⟩
/-- the ways out, as bits -/
def WB (σ : St) (k n : Nat) (b : Nat → Bool) : Prop := (∀ q, q < 8 → b q = true → q ≠ k ∧ ob σ q = true) ∧ (n = 3 → ∀ q, b q = (ob σ q && !decide (q = k))) ∧ (n = 2 → ∃ j, j < 8 ∧ ∀ q, b q = decide (q = j)) ∧ (n ≠ 2 → n ≠ 3 → ∀ q, b q = false)
theorem ways_k {C N K k a b n : Nat} {σ τ : St} (hk : k < 8) (hb : b < 100) (h : LDR C N K k a b n σ τ) : ∃ B, sWaysOut τ (nI n) (nI k) (nI b) = wb B 8 ∧ WB σ k n B := by
  obtain ⟨-, eR, hn, -, -, h6, -, -, -, h2⟩ := h
  unfold sWaysOut
  by_cases c2 : n = 2
  · subst c2
    obtain ⟨j, hj, hne, e, ho⟩ := h2 rfl
    refine ⟨fun q => decide (q = j), ?_, fun q hq hd => ?_, fun q => absurd q (by decide), fun _ => ⟨j, hj, fun q => rfl⟩, fun q => absurd rfl q⟩
    · rw [if_pos (show nI 2 = (2 : Int32) from rfl), show tPort τ (nI b) = τ.1 9 b from oAt_k hb (by decide), e]
      exact one8 ⟨j, hj⟩
    · have := of_decide_eq_true hd
      subst this
      exact ⟨hne, ho⟩
  · rw [if_neg (show ¬ nI n = (2 : Int32) from fun q => c2 ((nI_eq (b := 2) (by omega) (by decide)).mp q))]
    by_cases c3 : n = 3
    · subst c3
      have eo : ob τ = ob σ := funext fun q => by unfold ob; rw [open_eq eR.2.1 (h6 (by decide) (by decide)).1]
      refine ⟨fun q => ob σ q && !decide (q = k), ?_, fun q hq hd => ?_, fun _ q => rfl, fun q => absurd q (by decide), fun _ q => absurd rfl q⟩
      · rw [if_pos (show nI 3 = (3 : Int32) from rfl), ones_b, mask_k hk, eo]
      · rcases Bool.and_eq_true_iff.mp hd with ⟨d1, d2⟩
        refine ⟨fun q => ?_, d1⟩
        rw [decide_eq_true q] at d2
        exact absurd d2 (by decide)
    · rw [if_neg (show ¬ nI n = (3 : Int32) from fun q => c3 ((nI_eq (b := 3) (by omega) (by decide)).mp q))]
      exact ⟨fun _ => false, rfl, fun q _ hd => absurd (show false = true from hd) (by decide), fun q => absurd q c3, fun q => absurd q c2, fun _ _ q => rfl⟩
