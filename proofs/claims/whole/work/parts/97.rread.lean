/-! the whole text, on both sides; the frames that it lets in -/
theorem into_s (n k : Nat) (S : Sy) : tInto (n + 1) k S = if S.2.1 3 < nI k then (S.2.1 4, S) else if (tFrame S).1 = 0 then ((tFrame S).2.2.1 4, (tFrame S).2) else if (tFrame S).2.2.1 4 = (tFrame S).2.2.1 3 then (-1, (tFrame S).2)
    else if (tSkip (tFrame S).2 59).1 = 0 then ((tSkip (tFrame S).2 59).2.2.1 4, (tSkip (tFrame S).2 59).2) else tInto n (k + 1) (tSkip (tFrame S).2 59).2 := rfl
theorem rf_s (n : Nat) (μ : Mo) : mRF (n + 1) μ = if (mReads μ).1 = 0 then (0, (mReads μ).2) else if (mReads μ).2.1 5 < (mReads μ).2.1 4 then mRF n (msc (mReads μ).2 5 ((mReads μ).2.1 5 + 1)) else (1, msc (mReads μ).2 5 ((mReads μ).2.1 5 + 0)) := rfl
theorem tt_in {m a k : Nat} {S : Sy} {ν : Mo} (h : TT m a k S ν) : IN ν m a k := by
  refine ⟨⟨h.2.1.1, h.1.1, h.1.2.2.1, h.2.1.2.2, h.2.2.1.2⟩, fun j hj => ?_⟩
  obtain ⟨_, q1, q2, q3, q4⟩ := h.2.2.2 j hj
  exact ⟨as_ad q1, q2, q3, q4⟩
def RE (S0 : Sy) (X : Int32 × Sy) (Y : Int32 × Mo) : Prop := FS S0 X.2 ∧ ((¬ X.1 = -1 ∧ Y.1 = 0 ∧ X.1 = Y.2.1 5) ∨ (X.1 = -1 ∧ ¬ Y.1 = 0 ∧ ∃ r, r ≤ 12 ∧ X.2.2.1 5 = nI r ∧ Y.2.1 6 = nI r ∧ ∀ i, i < r → AF (X.2.2.2 1) (Y.2.2 6) i))
theorem nI_m1 {a : Nat} (h : a < 1000) : ¬ nI a = (-1 : Int32) := fun q => absurd (by rw [q]; decide) (nI_pos (n := a) (by omega))
theorem re_loop : ∀ (n : Nat) {m a k : Nat} {S : Sy} {ν : Mo}, k + n = 13 → 6 * k ≤ a → TT m a k S ν → RE S (tInto (59 + n) k S) (mRF n ν)
  | 0, m, a, k, S, ν, h1, h2, h => by
    have := h.2.1.1
    have := h.1.1
    exfalso
    omega
  | n + 1, m, a, k, S, ν, h1, h2, h => by
    have ham := h.2.1.1
    have hm := h.1.1
    rw [show 59 + (n + 1) = (59 + n) + 1 from rfl, into_s, rf_s, h.1.2.1, if_neg (nI_nlt (by omega) (by omega))]
    have rs := rs_reads (by omega) (tt_in h)
    obtain ⟨fs, ⟨q1, q2, a', q3, q4, q5⟩ | ⟨q1, a', t, q2⟩⟩ := fe_frame (by omega) h
    · rw [if_pos q1, if_pos q2]
      refine ⟨fs, Or.inl ⟨?_, rfl, ?_⟩⟩
      · show ¬ (tFrame S).2.2.1 4 = -1
        rw [q4]; exact nI_m1 (by omega)
      · show (tFrame S).2.2.1 4 = (mReads ν).2.1 5
        rw [q4, q5]
    · rw [if_neg q1]
      generalize tFrame S = F at *
      generalize mReads ν = Y at *
      have far : ¬ Y.1 = 0 → a + 5 ≤ a' := by
        intro hy
        obtain ⟨a2, z1, z2⟩ := rs.2 hy
        have := z2.1.2.2.2.1.symm.trans t.2.1.2.2
        have := (nI_eq (by have := z2.1.1; omega) (by have := t.2.1.1; omega)).mp this
        omega
      have ha' := t.2.1.1
      rw [t.2.1.2.1, t.1.2.1, t.2.1.2.2, t.1.2.2.1]
      by_cases c : a' = m
      · rw [if_pos c] at q2
        have hy : ¬ Y.1 = 0 := by rw [q2]; decide
        have := far hy
        rw [if_pos (show nI a' = nI m by rw [c]), if_neg hy, if_neg (nI_nlt (by omega) (by omega))]
        exact ⟨fs, Or.inr ⟨rfl, show ¬ (1 : Int32) = 0 by decide, k + 1, by omega, t.2.2.1.1, t.2.2.1.2, t.2.2.2⟩⟩
      · rw [if_neg c] at q2
        rw [if_neg (show ¬ nI a' = nI m from fun z => c ((nI_eq (by omega) (by omega)).mp z)), if_pos (nI_lt (by omega) (by omega))]
        rcases sign_t t with ⟨_, ch, _, s2, s3, s4⟩ | ⟨s1, _, _⟩
        · rw [t.2.1.2.2, nI_clamp (by omega)] at s3
          rw [s3] at q2
          unfold tSkip
          rw [s2]
          by_cases e : nI ch = 59
          · rw [if_pos e] at q2
            have hy : ¬ Y.1 = 0 := by rw [q2]; decide
            have := far hy
            rw [if_pos e, if_neg (show ¬ (1 : Int32) = 0 by decide), if_neg hy]
            have st := tt_step t (by omega)
            rw [← t.2.1.2.2]
            have ih := re_loop n (k := k + 1) (by omega) (by omega) st
            exact ⟨fs_t fs (fs_t fs_4 ih.1), ih.2⟩
          · rw [if_neg e] at q2
            rw [if_neg e, if_pos rfl, if_pos q2]
            refine ⟨fs, Or.inl ⟨?_, rfl, ?_⟩⟩
            · show ¬ F.2.2.1 4 = -1
              rw [t.2.1.2.1]; exact nI_m1 (by omega)
            · show F.2.2.1 4 = Y.2.1 5
              rw [t.2.1.2.1, t.2.1.2.2]
        · exact absurd s1 c
theorem re_read {m : Nat} {S : Sy} {ν : Mo} (h : TC m S ν) : RE S (tRead S) (mRds ν) := by
  unfold tRead mRds
  have t : TT m 0 0 (xsc (xsc S 5 0) 4 0) (msc (msc ν 5 0) 6 0) := ⟨h, ⟨Nat.zero_le m, rfl, rfl⟩, ⟨rfl, rfl⟩, fun i hi => absurd hi (Nat.not_lt_zero i)⟩
  have r := re_loop 13 rfl (Nat.le_refl 0) t
  have f1 : FS S (xsc S 5 0) := ⟨fun _ _ => rfl, fun i h _ => if_neg h, rfl⟩
  exact ⟨fs_t f1 (fs_t fs_4 r.1), r.2⟩
theorem ins_s (ν : Mo) (k : Nat) : mIns ν (k + 1) = ((mIns ν k).1 + (if (mCome (mIns ν k).2 (ga (mIns ν k).2 6 (4 * nI k + 3)) (ga (mIns ν k).2 6 (4 * nI k)) (ga (mIns ν k).2 6 (4 * nI k + 1)) (ga (mIns ν k).2 6 (4 * nI k + 2))).1 = 0 then 0 else 1), (mCome (mIns ν k).2 (ga (mIns ν k).2 6 (4 * nI k + 3)) (ga (mIns ν k).2 6 (4 * nI k)) (ga (mIns ν k).2 6 (4 * nI k + 1)) (ga (mIns ν k).2 6 (4 * nI k + 2))).2) := rfl
theorem r_ins {C N r : Nat} {S : Sy} {ν : Mo} (hC : C + 600 < 2147483648) (hN : N + 1000 < 2147483648) (hr : r ≤ 12) (h : RC C N (S.1 0) (ν.2 0)) (hA : ∀ i, i < r → AF (S.2.2 1) (ν.2 6) i) : ∀ k, k ≤ r → (xLet S k).1 = (mIns ν k).1 ∧ (∃ N', N' ≤ N + 8 * k ∧ RC C N' (xLet S k).2 ((mIns ν k).2.2 0)) ∧ (∀ j, j ≠ 2 → (mIns ν k).2.1 j = ν.1 j) ∧ ∀ j, j ≠ 0 → (mIns ν k).2.2 j = ν.2 j
  | 0, _ => ⟨rfl, ⟨N, by omega, h⟩, fun _ _ => rfl, fun _ _ => rfl⟩
  | k + 1, hk => by
    obtain ⟨i1, ⟨N', n1, n2⟩, f1, f2⟩ := r_ins hC hN hr h hA k (by omega)
    obtain ⟨⟨a1, a2, a3, a4⟩, b1, b2, b3, b4⟩ := hA k (by omega)
    obtain ⟨p, hp, ep⟩ := b4
    have g0 : ga (mIns ν k).2 6 (4 * nI k) = ν.2 6 (4 * k) := by rw [x4k, ga_k (by omega), f2 6 (by decide)]
    have g1 : ga (mIns ν k).2 6 (4 * nI k + 1) = ν.2 6 (4 * k + 1) := by rw [x4k, c4_1, ga_k (by omega), f2 6 (by decide)]
    have g2 : ga (mIns ν k).2 6 (4 * nI k + 2) = ν.2 6 (4 * k + 2) := by rw [x4k, c4_2, ga_k (by omega), f2 6 (by decide)]
    have g3 : ga (mIns ν k).2 6 (4 * nI k + 3) = nI p := by rw [x4k, c4_3, ga_k (by omega), f2 6 (by decide), ep]
    have p0 : xPart S (nI k) 0 = ν.2 6 (4 * k) := (part_k (w := 0) (by omega) (by decide)).trans a1
    have p1 : xPart S (nI k) 1 = ν.2 6 (4 * k + 1) := (part_k (w := 1) (by omega) (by decide)).trans a2
    have p2 : xPart S (nI k) 2 = ν.2 6 (4 * k + 2) := (part_k (w := 2) (by omega) (by decide)).trans a3
    have p3 : xPart S (nI k) 3 = nI p := ((part_k (w := 3) (by omega) (by decide)).trans a4).trans ep
    rw [let_s, ins_s, g0, g1, g2, g3, p0, p1, p2, p3]
    obtain ⟨e1, ⟨N2, q1, q2⟩, -⟩ := r_come hC (by omega) hp b1 b2 b3 n2
    have fr := come_fr (by omega) hp b1 b2 b3 n2
    rw [e1, i1]
    refine ⟨?_, ⟨N2, by omega, q2⟩, fun j hj => (fr.1 j hj).trans (f1 j hj), fun j hj => (fr.2 j hj).trans (f2 j hj)⟩
    show (if _ then _ else _) = (mIns ν k).1 + _
    by_cases c : (mCome (mIns ν k).2 (nI p) (ν.2 6 (4 * k)) (ν.2 6 (4 * k + 1)) (ν.2 6 (4 * k + 2))).1 = 0
    · rw [if_pos c, if_pos c]; exact (Int32.add_zero _).symm
    · rw [if_neg c, if_neg c]
