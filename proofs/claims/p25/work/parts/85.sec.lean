/-! the end of a second; seconds -/
theorem until_k {τ : St} {C : Nat} {t : Int32} (hT : IvT C (τ.1 9) (τ.1 10) (τ.2 3)) : ∀ n, n ≤ 99 → ∃ tt z, tUntil τ t n = sput (rput τ 9 tt) 3 z ∧ IvT C tt (τ.1 10) z ∧ ∀ a, a < 100 → (tt a = τ.1 9 a ∨ tt a = -4) ∧ (1 ≤ a → a ≤ n → ¬ tt a = -4 → t < τ.1 10 a)
  | 0, _ => ⟨τ.1 9, τ.2 3, by rw [rput_self]; exact (sput_self rfl).symm, hT, fun a ha => ⟨Or.inl rfl, fun q1 q2 => by omega⟩⟩
  | n + 1, hn => by
    obtain ⟨tt, z, e, T1, ha⟩ := until_k (t := t) hT n (by omega)
    unfold tUntil
    rw [e, oAt_k (by omega) (by decide), oAt_k (by omega) (by decide)]
    have e9 : (sput (rput τ 9 tt) 3 z).1 9 = tt := rfl
    have e10 : (sput (rput τ 9 tt) 3 z).1 10 = τ.1 10 := rfl
    rw [e9, e10]
    by_cases c : tt (n + 1) = -4
    · rw [if_pos c]
      refine ⟨tt, z, rfl, T1, fun a h => ⟨(ha a h).1, fun q1 q2 q3 => ?_⟩⟩
      by_cases c1 : a = n + 1
      · subst c1; exact absurd c q3
      · exact (ha a h).2 q1 (by omega) q3
    · rw [if_neg c]
      by_cases c2 : t < τ.1 10 (n + 1)
      · rw [if_pos c2]
        refine ⟨tt, z, rfl, T1, fun a h => ⟨(ha a h).1, fun q1 q2 q3 => ?_⟩⟩
        by_cases c1 : a = n + 1
        · subst c1; exact c2
        · exact (ha a h).2 q1 (by omega) q3
      · rw [if_neg c2, trem_k (by omega)]
        refine ⟨upd tt (n + 1) (-4), z - 1, ?_, ivt_rem (by omega) (by omega) c T1, fun a h => ?_⟩
        · show sput (rput (sput (rput τ 9 tt) 3 z) 9 _) 3 (z - 1) = _
          rw [sput_rput, sput_sput, rput_rput]
          rfl
        · by_cases c1 : a = n + 1
          · subst c1
            rw [upd_s]
            exact ⟨Or.inr rfl, fun _ _ q => absurd rfl q⟩
          · rw [upd_n c1]
            exact ⟨(ha a h).1, fun q1 q2 q3 => (ha a h).2 q1 (by omega) q3⟩
def YG (σ : St) : Prop := ∀ a, 1 ≤ a → a < 100 → ¬ σ.1 9 a = -4 → σ.2 0 - σ.1 10 a < σ.1 0 0
theorem tick_k {C N K : Nat} {σ : St} (h : IV C N K σ) : IV (C + 1) N K (sTick σ) ∧ (sTick σ).1 0 = σ.1 0 := by
  obtain ⟨h1, h2, h3, h4, h5, h6, h7, h8, h9, hA, hQ, hT, hW⟩ := h
  obtain ⟨d1, d2, d3⟩ := pDec_at (sput σ 0 (σ.2 0 + 1)) 8 (Nat.le_refl 8)
  have es : sTick σ = rput (pDec (sput σ 0 (σ.2 0 + 1)) 8) 5 (fillF ((pDec (sput σ 0 (σ.2 0 + 1)) 8).1 5) 0 (0 + 8) 0) := by
    unfold sTick pEndSec
    exact fill_k (a := 0) (L := 8) (by decide) (by decide)
  rw [es]
  generalize pDec (sput σ 0 (σ.2 0 + 1)) 8 = τ at *
  have c0 : τ.1 0 = σ.1 0 := d1 0 (by decide)
  have c1 : τ.1 1 = σ.1 1 := d1 1 (by decide)
  have c4 : τ.1 4 = σ.1 4 := d1 4 (by decide)
  have c6 : τ.1 6 = σ.1 6 := d1 6 (by decide)
  have c7 : τ.1 7 = σ.1 7 := d1 7 (by decide)
  have c8 : τ.1 8 = σ.1 8 := d1 8 (by decide)
  have c9 : τ.1 9 = σ.1 9 := d1 9 (by decide)
  have c10 : τ.1 10 = σ.1 10 := d1 10 (by decide)
  have c11 : τ.1 11 = σ.1 11 := d1 11 (by decide)
  have s0 : τ.2 0 = σ.2 0 + 1 := congrFun d2 0
  have s1 : τ.2 1 = σ.2 1 := congrFun d2 1
  have s3 : τ.2 3 = σ.2 3 := congrFun d2 3
  refine ⟨⟨?_, ?_, ?_, ?_, ?_, ?_, ?_, fun k hk => ?_, ?_, ?_, ?_, ?_, ?_⟩, c0⟩
  · show τ.2 0 = _
    rw [s0, h1, nI_succ]
  · show τ.2 1 = _
    rw [s1]; exact h2
  · show IvG (τ.1 0)
    rw [c0]; exact h3
  · show IvU (τ.1 1) (τ.1 7)
    rw [c1, c7]; exact h4
  · show IvL (τ.1 2) (τ.1 9)
    rw [c9]
    intro k hk
    obtain ⟨L, l1, l2, l3⟩ := h5 k hk
    have l2' : (sput σ 0 (σ.2 0 + 1)).1 2 k = nI L := l2
    rw [d3 k hk, if_pos hk, l2']
    cases L with
    | zero =>
      rw [if_neg (show ¬ (0 : Int32) < nI 0 by decide)]
      exact ⟨0, by omega, rfl, fun q => absurd rfl q⟩
    | succ L =>
      rw [if_pos (show (0 : Int32) < nI (L + 1) from nI_lt (a := 0) (by omega) (by omega)), pk_m1]
      exact ⟨L, by omega, rfl, fun _ => l3 (Nat.succ_ne_zero L)⟩
  · show IvF (τ.1 4)
    rw [c4]; exact h6
  · show IvE (τ.1 4)
    rw [c4]; exact h7
  · show nle 50 (fillF (τ.1 5) 0 (0 + 8) 0 k)
    have : fillF (τ.1 5) 0 (0 + 8) 0 k = 0 := if_pos ⟨Nat.zero_le k, by omega⟩
    rw [this]
    exact ⟨0, by decide, rfl⟩
  · show IvS (τ.1 6)
    rw [c6]; exact h9
  · show IvA K (τ.1 6) (τ.1 7)
    rw [c6, c7]; exact hA
  · show IvQ N (τ.1 7) (τ.1 8)
    rw [c7, c8]; exact hQ
  · show IvT (C + 1) (τ.1 9) (τ.1 10) (τ.2 3)
    rw [c9, c10, s3]; exact hT.mono (by omega)
  · show IvW K (τ.1 11)
    rw [c11]; exact hW
theorem end_k {C N K : Nat} {σ : St} (hC : C + 2000 < 1073741824) (h : IV C N K σ) : IV (C + 1) N K (sEnd σ) ∧ YG (sEnd σ) ∧ (sEnd σ).1 0 = σ.1 0 := by
  obtain ⟨t1, t2⟩ := tick_k h
  unfold sEnd
  generalize sTick σ = τ at *
  obtain ⟨h1, h2, h3, h4, h5, h6, h7, h8, h9, hA, hQ, hT, hW⟩ := t1
  obtain ⟨ag, g1, g2, g3⟩ := h3 0 (by decide)
  have g2 : ag ≤ 1000 := g2
  obtain ⟨tt, z, e, T1, ha⟩ := until_k (t := τ.2 0 - oAt 0 4 τ 0) hT 99 (Nat.le_refl 99)
  rw [e]
  have hm : (C + 1) % 10 < 10 := Nat.mod_lt _ (by decide)
  have e0 : (sput (rput τ 9 tt) 3 z).2 0 = nI (C + 1) := h1
  have eb : mBegin (sput (rput τ 9 tt) 3 z) ((sput (rput τ 9 tt) 3 z).2 0) = rput (sput (rput τ 9 tt) 3 z) 11 (fillF (τ.1 11) (100 * ((C + 1) % 10)) (100 * ((C + 1) % 10) + 100) 0) := by
    unfold mBegin mSec
    rw [e0, show (10 : Int32) = nI 10 from rfl, pk_rem (by omega) (by decide) (by decide), show (100 : Int32) = nI 100 from rfl, pk_mul, Nat.mul_comm ((C + 1) % 10) 100, fill_k (by omega) (by decide)]
    rfl
  rw [eb]
  refine ⟨⟨h1, h2, h3, h4, ivl_r h5 (fun a h => (ha a h).1), h6, h7, h8, h9, hA, hQ, T1, fun j hj => ?_⟩, fun a q1 q2 q3 => ?_, t2⟩
  · show nle K (fillF (τ.1 11) _ _ 0 j)
    unfold fillF
    by_cases c : 100 * ((C + 1) % 10) ≤ j ∧ j < 100 * ((C + 1) % 10) + 100
    · rw [if_pos c]; exact ⟨0, Nat.zero_le K, rfl⟩
    · rw [if_neg c]; exact hW j hj
  · have q := (ha a q2).2 q1 (by omega) q3
    obtain ⟨n, n1, n2⟩ := hT.2.2.1 a q2
    show τ.2 0 - τ.1 10 a < τ.1 0 0
    rw [show (0 : Int32) = nI 0 from rfl, oAt_k (by decide) (by decide)] at q
    rw [h1, n2, g3] at q ⊢
    rw [Int32.lt_iff_toInt_lt, pk_sub_toInt (by omega) (by omega), nI_toInt (by omega)] at q ⊢
    omega
theorem let_in {S : Sy} {r : Nat} (hr : r ≤ 96) (e : S.2.1 5 = nI r) : xLetIn S = ((xLet S r).1, xst S 0 (xLet S r).2) := by
  unfold xLetIn
  rw [e, nI_clamp (by omega)]
set_option maxRecDepth 100000 in
theorem sec_k {C N K : Nat} {S T : Sy} (hC : C + 2000 < 1073741824) (hN : N + 1000 < 1073741824) (hT : T.1 0 = S.1 0) (h : IV C N K (S.1 0)) :
    (xSendK T 8).1 = (xSendK S 8).1 ∧ (xSec T).1 0 = (xSec S).1 0 ∧ (∃ N', N' ≤ N + 768 ∧ IV (C + 1) N' (K + 864) ((xSec S).1 0)) ∧ YG ((xSec S).1 0) ∧ FS S (xSec S) := by
  obtain ⟨r, r1, r2, r3, r4⟩ := sendK_k hT h 8 (Nat.le_refl 8)
  refine ⟨r2, ?_⟩
  unfold xSec
  rw [let_in (by omega) r3.2.2.1, let_in (by omega) r3.2.2.2.1]
  obtain ⟨e, N', n1, i1⟩ := let_k (by omega) (by omega) (by omega) r3 r (Nat.le_refl r)
  dsimp only
  rw [xst_0, xst_0, xst_0, xst_0, e]
  obtain ⟨i2, y, -⟩ := end_k (by omega) i1
  exact ⟨rfl, ⟨N', by omega, i2.mono (by omega)⟩, y, fs_t r4 (fs_t fs_st fs_st)⟩
set_option maxRecDepth 100000 in
theorem pass_k {C N K : Nat} {S T : Sy} (hC : C + 3000 < 1073741824) (hN : N + 10000 < 1073741824) (hT : T.1 0 = S.1 0) (h : IV C N K (S.1 0)) : ∀ n, n ≤ 10 →
    (xPassK T n).1 = (xPassK S n).1 ∧ (xPassK T n).2.1 0 = (xPassK S n).2.1 0 ∧ (∃ N', N' ≤ N + 768 * n ∧ IV (C + n) N' (K + 864 * n) ((xPassK S n).2.1 0)) ∧ (n ≠ 0 → YG ((xPassK S n).2.1 0)) ∧ FS S (xPassK S n).2
  | 0, _ => ⟨rfl, hT, ⟨N, Nat.le_refl _, h⟩, fun q => absurd rfl q, fs_r S⟩
  | n + 1, hn => by
    obtain ⟨p1, p2, ⟨N', p3, p4⟩, -, p5⟩ := pass_k hC hN hT h n (by omega)
    obtain ⟨s1, s2, ⟨N2, s3, s4⟩, s5, s6⟩ := sec_k (by omega) (by omega) p2 p4
    unfold xPassK
    dsimp only
    rw [p1, s1]
    refine ⟨rfl, s2, ⟨N2, by omega, ?_⟩, fun _ => s5, fs_t p5 s6⟩
    exact s4.mono (by omega)
theorem pass_add (S : Sy) (a : Nat) : ∀ b, xPassK S (a + b) = ((xPassK S a).1 + (xPassK (xPassK S a).2 b).1, (xPassK (xPassK S a).2 b).2)
  | 0 => by
    show xPassK S a = ((xPassK S a).1 + 0, (xPassK S a).2)
    rw [Int32.add_zero]
  | b + 1 => by
    show ((xPassK S (a + b)).1 + (xSendK (xPassK S (a + b)).2 8).1, xSec (xPassK S (a + b)).2) = _
    rw [pass_add S a b]
    show ((xPassK S a).1 + (xPassK (xPassK S a).2 b).1 + (xSendK (xPassK (xPassK S a).2 b).2 8).1, xSec (xPassK (xPassK S a).2 b).2) = ((xPassK S a).1 + ((xPassK (xPassK S a).2 b).1 + (xSendK (xPassK (xPassK S a).2 b).2 8).1), xSec (xPassK (xPassK S a).2 b).2)
    rw [Int32.add_assoc]
