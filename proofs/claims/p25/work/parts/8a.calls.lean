/-! the law's calls: sets, cables -/
theorem pup_k {S : Sy} {k : Nat} (hk : k < 8) : xPort S (nI k) 0 = pUp (S.1 0) (nI k) := by
  rw [xp0 hk]
  unfold pUp
  by_cases c : oAt 1 8 (S.1 0) (nI k) = 1
  · rw [if_pos c, if_neg (show ¬ (1 : Int32) = 0 by decide)]
  · rw [if_neg c, if_pos rfl]
def KS0 (M nx k : Nat) (up : Int32) (S : Sy) : Prop := ∃ told S' nx', xSetPort nx S (nI k) up = (told, S') ∧ XV M nx' S' ∧ Act nx S S' ∧ nx' = (if S'.2.1 1 = S.2.1 1 then nx else (nx + 1) % 4) ∧ (xPort S (nI k) 0 = up → told = -4) ∧ (¬ xPort S (nI k) 0 = up → told = xCount S' 6) ∧ xPort S' (nI k) 0 = up ∧ (¬ up = 1 → xPort S' (nI k) 5 = 0)
theorem nx_same {nx : Nat} {S : Sy} : nx = (if S.2.1 1 = S.2.1 1 then nx else (nx + 1) % 4) := (if_pos rfl).symm
theorem nx_next {M nx : Nat} {S : Sy} {τ : St} (h : XV M nx S) : (nx + 1) % 4 = (if (xst (xRec nx S) 0 τ).2.1 1 = S.2.1 1 then nx else (nx + 1) % 4) := by
  rw [if_neg]
  rw [xst_r, (xv_rec h).2.1.2, h.2.1.2]
  intro q
  have n1 := h.2.1.1
  have := (nI_eq (by omega) (by omega)).mp q
  omega
theorem ks0_k {M nx k : Nat} {up : Int32} {S : Sy} (hk : k < 8) (hu : up = 0 ∨ up = 1) (h : XV M nx S) : KS0 (M + 12) nx k up S := by
  obtain ⟨C, N, K, c1, c2, c3, i⟩ := h.1 0 (by decide)
  unfold KS0
  rw [pup_k hk]
  have e0 : xSetPort nx S (nI k) up = if pUp (S.1 0) (nI k) = up then (-4, S) else if up = 0 then (bitC (pOnes (sDrop (pTurn ((xRec nx S).1 0) (nI k) up) (nI k)) 8), xst (xRec nx S) 0 (sDrop (pTurn ((xRec nx S).1 0) (nI k) up) (nI k))) else (bitC (pOnes (pTurn ((xRec nx S).1 0) (nI k) up) 8), xst (xRec nx S) 0 (pTurn ((xRec nx S).1 0) (nI k) up)) := by
    unfold xSetPort
    rw [if_neg (isP_k hk)]
  rw [e0]
  by_cases c : pUp (S.1 0) (nI k) = up
  · rw [if_pos c]
    refine ⟨-4, S, nx, rfl, h.mono (by omega), Or.inl rfl, nx_same, fun _ => rfl, fun q => absurd c q, by rw [pup_k hk]; exact c, fun q => ?_⟩
    rcases hu with rfl | rfl
    · rw [xp5 hk]
      rcases i.2.2.2.1 k hk with u | ⟨-, u⟩
      · unfold pUp at c
        rw [oAt_k hk (by decide), if_pos u] at c
        exact absurd c (by decide)
      · exact u
    · exact absurd rfl q
  · rw [if_neg c, rec_x]
    rcases hu with rfl | rfl
    · rw [if_pos rfl]
      obtain ⟨d1, d2, d3⟩ := down_iv hk i
      generalize sDrop (pTurn (S.1 0) (nI k) 0) (nI k) = τ at *
      refine ⟨_, _, (nx + 1) % 4, rfl, act_xv (h.mono (by omega)) (im_of d1 (by omega) (by omega) (by omega)), Or.inr ⟨τ, rfl⟩, nx_next h, fun q => absurd q c, fun _ => (xc6 (S := xst (xRec nx S) 0 τ)).symm, ?_, fun _ => ?_⟩
      · rw [pup_k hk]
        unfold pUp
        rw [oAt_k hk (by decide), xst_0, d2, upd_s, if_neg (by decide)]
      · rw [xp5 hk]; exact d3
    · rw [if_neg (show ¬ (1 : Int32) = 0 by decide)]
      obtain ⟨d1, d2⟩ := up_iv hk i
      refine ⟨_, _, (nx + 1) % 4, rfl, act_xv (h.mono (by omega)) (im_of d1 (by omega) (by omega) (by omega)), Or.inr ⟨_, rfl⟩, nx_next h, fun q => absurd q c, fun _ => (xc6 (S := xst (xRec nx S) 0 (pTurn (S.1 0) (nI k) 1))).symm, ?_, fun q => absurd rfl q⟩
      rw [pup_k hk]
      unfold pUp
      rw [oAt_k hk (by decide), xst_0, d2]
      have : (rput (S.1 0) 1 (upd ((S.1 0).1 1) k 1)).1 1 k = 1 := upd_s
      rw [if_pos this]
def KS1 (M nx k : Nat) (S : Sy) : Prop := ∃ told S' nx', xRelease nx S (nI k) = (told, S') ∧ XV M nx' S' ∧ Act nx S S' ∧ nx' = (if S'.2.1 1 = S.2.1 1 then nx else (nx + 1) % 4) ∧ (xPort S (nI k) 2 = 0 → told = -4) ∧ (¬ xPort S (nI k) 2 = 0 → told = xPort S (nI k) 2) ∧ xPort S' (nI k) 2 = 0
theorem ks1_k {M nx k : Nat} {S : Sy} (hk : k < 8) (h : XV M nx S) : KS1 M nx k S := by
  obtain ⟨C, N, K, c1, c2, c3, i⟩ := h.1 0 (by decide)
  unfold KS1 xRelease
  rw [if_neg (isP_k hk), oAt_k hk (by decide), xp2 hk, rec_x]
  by_cases c : (S.1 0).1 2 k = 0
  · rw [if_pos c]
    exact ⟨-4, S, nx, rfl, h, Or.inl rfl, nx_same, fun _ => rfl, fun q => absurd c q, by rw [xp2 hk]; exact c⟩
  · rw [if_neg c]
    obtain ⟨d1, d2⟩ := rel_iv hk i
    exact ⟨_, _, (nx + 1) % 4, rfl, act_xv h (im_of d1 c1 c2 c3), Or.inr ⟨_, rfl⟩, nx_next h, fun q => absurd q c, fun _ => rfl, by rw [xp2 hk]; exact d2⟩
def KS2 (M nx w : Nat) (v : Int32) (S : Sy) : Prop := ∃ told S' nx', xSet nx S (nI w) v = (told, S') ∧ XV M nx' S' ∧ Act nx S S' ∧ nx' = (if S'.2.1 1 = S.2.1 1 then nx else (nx + 1) % 4) ∧ (xCount S (nI w) = v → told = -4) ∧ (¬ xCount S (nI w) = v → told = xCount S (nI w)) ∧ xCount S' (nI w) = v ∧ xSet nx' S' 3 11 = (-2, S') ∧ xSet nx' S' 4 1 = (-2, S')
theorem fsg_k {w : Nat} (hw : w < 4) : fsG w = nI (gst w) := by
  rcases (show w = 0 ∨ w = 1 ∨ w = 2 ∨ w = 3 by omega) with rfl | rfl | rfl | rfl <;> rfl
theorem gst_le {w : Nat} : gst w ≤ 1000 := by
  unfold gst
  by_cases c0 : w = 0
  · rw [if_pos c0]; omega
  · rw [if_neg c0]
    by_cases c1 : w = 1
    · rw [if_pos c1]; omega
    · rw [if_neg c1]
      by_cases c2 : w = 2
      · rw [if_pos c2]; omega
      · rw [if_neg c2]; omega
theorem ks2_k {M nx w v : Nat} {S : Sy} (hw : w < 4) (hv1 : 1 ≤ v) (hv : v ≤ gst w) (h : XV M nx S) : KS2 M nx w (nI v) S := by
  obtain ⟨C, N, K, c1, c2, c3, i⟩ := h.1 0 (by decide)
  have hg := gst_le (w := w)
  have bad : ∀ n T, xSet n T 3 11 = (-2, T) ∧ xSet n T 4 1 = (-2, T) := fun n T => by
    constructor
    · unfold xSet
      rw [if_neg (show ¬ isSet 3 = 0 by decide), if_neg (show ¬ (11 : Int32) < 1 by decide), if_pos (show fsG (3 : Int32).toNatClampNeg < 11 by decide)]
    · unfold xSet
      rw [if_pos (show isSet 4 = 0 by decide)]
  have is : ¬ isSet (nI w) = 0 := by
    unfold isSet
    rw [if_neg (nI_pos (by omega)), if_pos (nlt_lit (b := 4) hw (by decide))]
    decide
  have e0 : xSet nx S (nI w) (nI v) = if (S.1 0).1 0 w = nI v then (-4, S) else ((S.1 0).1 0 w, xst (xRec nx S) 0 (oPut 0 4 (S.1 0) (nI w) (nI v))) := by
    unfold xSet
    rw [if_neg is, if_neg (show ¬ nI v < (1 : Int32) from nI_nlt (b := 1) hv1 (by omega)), nI_clamp (by omega), fsg_k hw, if_neg (nI_nlt hv (by omega)), oAt_k hw (by decide), rec_x]
  unfold KS2
  rw [e0, xc0 hw]
  by_cases c : (S.1 0).1 0 w = nI v
  · rw [if_pos c]
    exact ⟨-4, S, nx, rfl, h, Or.inl rfl, nx_same, fun _ => rfl, fun q => absurd c q, by rw [xc0 hw]; exact c, bad nx S⟩
  · rw [if_neg c]
    obtain ⟨d1, d2⟩ := set_iv hw hv1 hv i
    exact ⟨_, _, (nx + 1) % 4, rfl, act_xv h (im_of d1 c1 c2 c3), Or.inr ⟨_, rfl⟩, nx_next h, fun q => absurd q c, fun _ => rfl, by rw [xc0 hw]; exact d2, bad _ _⟩
def KS3 (M nx a : Nat) (S : Sy) : Prop := ∃ told S' nx', xForget nx S (nI a) = (told, S') ∧ XV M nx' S' ∧ Act nx S S' ∧ nx' = (if S'.2.1 1 = S.2.1 1 then nx else (nx + 1) % 4) ∧ told = xWhere S (nI a) ∧ xWhere S' (nI a) = -4
theorem ks3_k {M nx a : Nat} {S : Sy} (h1 : 1 ≤ a) (h2 : a < 100) (h : XV M nx S) : KS3 M nx a S := by
  obtain ⟨C, N, K, c1, c2, c3, i⟩ := h.1 0 (by decide)
  have e0 : xForget nx S (nI a) = if (S.1 0).1 9 a = -4 then (-4, S) else ((S.1 0).1 9 a, xst (xRec nx S) 0 (tRemove (S.1 0) (nI a))) := by
    unfold xForget
    rw [if_neg (isA_k h1 h2), show tPort (S.1 0) (nI a) = (S.1 0).1 9 a from oAt_k h2 (by decide), rec_x]
  unfold KS3
  rw [e0, xwh h1 h2]
  by_cases c : (S.1 0).1 9 a = -4
  · rw [if_pos c]
    exact ⟨-4, S, nx, rfl, h, Or.inl rfl, nx_same, c.symm, by rw [xwh h1 h2]; exact c⟩
  · rw [if_neg c]
    obtain ⟨d1, d2⟩ := forget_iv h1 h2 c i
    exact ⟨_, _, (nx + 1) % 4, rfl, act_xv h (im_of d1 c1 c2 c3), Or.inr ⟨_, rfl⟩, nx_next h, rfl, by rw [xwh h1 h2]; exact d2⟩
def KJ (M nx k j : Nat) (S : Sy) : Prop := ∃ told S' nx', xJoin nx S (nI k) (nI j) = (told, S') ∧ XV M nx' S' ∧ Act nx S S' ∧ nx' = (if S'.2.1 1 = S.2.1 1 then nx else (nx + 1) % 4) ∧ (nI k = nI j → told = -2) ∧ (¬ nI k = nI j → xPort S (nI k) 4 = -4 → xPort S (nI j) 4 = -4 → told = xCount S 8 + 1 ∧ xPort S' (nI k) 4 = nI j) ∧ (¬ nI k = nI j → ¬ (xPort S (nI k) 4 = -4 ∧ xPort S (nI j) 4 = -4) → told = -3)
theorem cab_k {C N K : Nat} {σ : St} (h : IV C N K σ) : pCab σ 8 / 2 = nI (fe (σ.1 4) 8 / 2) := by
  have hle := fe_le (f := σ.1 4) 8
  have c1 := (so_c (S := (fun _ => σ, fun _ => 0, fun _ _ => 0)) h.2.2.2.2.2.1 8 (Nat.le_refl 8)).1
  have c1 : pCab σ 8 = nI (fe (σ.1 4) 8) := c1
  rw [c1, show (2 : Int32) = nI 2 from rfl, pk_div (by omega) (by decide) (by decide)]
theorem kj_k {M nx k j : Nat} {S : Sy} (hk : k < 8) (hj : j < 8) (h : XV M nx S) : KJ M nx k j S := by
  obtain ⟨C, N, K, c1, c2, c3, i⟩ := h.1 0 (by decide)
  have f1 : pFar (S.1 0) (nI k) = (S.1 0).1 4 k := oAt_k hk (by decide)
  have f2 : pFar (S.1 0) (nI j) = (S.1 0).1 4 j := oAt_k hj (by decide)
  have e0 : xJoin nx S (nI k) (nI j) = if nI k = nI j then (-2, S) else if (S.1 0).1 4 k = -4 then (if (S.1 0).1 4 j = -4 then (pCab (pTie (S.1 0) (nI k) (nI j)) 8 / 2, xst (xRec nx S) 0 (pTie (S.1 0) (nI k) (nI j))) else (-3, S)) else (-3, S) := by
    unfold xJoin
    rw [if_neg (isP_k hk), if_neg (isP_k hj), f1, f2, rec_x]
  unfold KJ
  rw [e0, xp4 hk, xp4 hj, xc8]
  by_cases c : nI k = nI j
  · rw [if_pos c]
    exact ⟨-2, S, nx, rfl, h, Or.inl rfl, nx_same, fun _ => rfl, fun q => absurd c q, fun q => absurd c q⟩
  · rw [if_neg c]
    by_cases d1 : (S.1 0).1 4 k = -4
    · rw [if_pos d1]
      by_cases d2 : (S.1 0).1 4 j = -4
      · rw [if_pos d2, tie_k hk hj]
        have hne : k ≠ j := fun q => c (by rw [q])
        have i2 := tie_iv hk hj hne d1 d2 i
        refine ⟨_, _, (nx + 1) % 4, rfl, act_xv h (im_of i2 c1 c2 c3), Or.inr ⟨_, rfl⟩, nx_next h, fun q => absurd q c, fun _ _ _ => ⟨?_, ?_⟩, fun _ q => absurd ⟨d1, d2⟩ q⟩
        · rw [cab_k i2, cab_k i, ← nI_succ]
          have : fe (tieF ((S.1 0).1 4) k j) 8 = fe ((S.1 0).1 4) 8 + 2 := tie_fe hk hj hne d1 d2
          show nI (fe (tieF ((S.1 0).1 4) k j) 8 / 2) = _
          rw [this]
          congr 1
          omega
        · rw [xp4 hk]
          exact (upd_n hne).trans upd_s
      · rw [if_neg d2]
        exact ⟨-3, S, nx, rfl, h, Or.inl rfl, nx_same, fun q => absurd q c, fun _ _ q => absurd q d2, fun _ _ => rfl⟩
    · rw [if_neg d1]
      exact ⟨-3, S, nx, rfl, h, Or.inl rfl, nx_same, fun q => absurd q c, fun _ q => absurd q d1, fun _ _ => rfl⟩
def KP (M nx k : Nat) (S : Sy) : Prop := ∃ told S' nx', xPartC nx S (nI k) = (told, S') ∧ XV M nx' S' ∧ Act nx S S' ∧ nx' = (if S'.2.1 1 = S.2.1 1 then nx else (nx + 1) % 4) ∧ told = xPort S (nI k) 4 ∧ xPort S' (nI k) 4 = -4 ∧ (¬ xPort S (nI k) 4 < 0 → xPort S' (xPort S (nI k) 4) 4 = -4)
theorem kp_k {M nx k : Nat} {S : Sy} (hk : k < 8) (h : XV M nx S) : KP M nx k S := by
  obtain ⟨C, N, K, c1, c2, c3, i⟩ := h.1 0 (by decide)
  have f1 : pFar (S.1 0) (nI k) = (S.1 0).1 4 k := oAt_k hk (by decide)
  have e0 : xPartC nx S (nI k) = if (S.1 0).1 4 k = -4 then (-4, S) else ((S.1 0).1 4 k, xst (xRec nx S) 0 (pUntie (S.1 0) (nI k) ((S.1 0).1 4 k))) := by
    unfold xPartC
    rw [if_neg (isP_k hk), f1, rec_x]
  unfold KP
  rw [e0, xp4 hk]
  rcases i.2.2.2.2.2.1 k hk with c | ⟨j, hj, hne, d1, d2⟩
  · rw [if_pos c]
    exact ⟨-4, S, nx, rfl, h, Or.inl rfl, nx_same, c.symm, by rw [xp4 hk]; exact c, fun q => absurd (by rw [c]; decide) q⟩
  · rw [d1, if_neg (n4 (by omega)), cut_k hk hj]
    have i2 := cut_iv hk hj hne.symm d1 d2 i
    refine ⟨_, _, (nx + 1) % 4, rfl, act_xv h (im_of i2 c1 c2 c3), Or.inr ⟨_, rfl⟩, nx_next h, rfl, ?_, fun _ => ?_⟩
    · rw [xp4 hk]
      exact (upd_n hne.symm).trans upd_s
    · rw [xp4 hj]
      exact upd_s
