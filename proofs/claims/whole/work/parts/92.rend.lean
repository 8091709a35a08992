/-! the end of a second, on both sides -/
theorem RA.e {σ τ : St} {f g : Nat → Int32} (h : RA σ f) (h6 : τ.1 6 = σ.1 6) (e : ∀ k, k < 8 → ∀ w, w < 11 → g (8 + 20 * k + 6 + w) = f (8 + 20 * k + 6 + w)) : RA τ g := by
  intro k hk w hw
  rw [h6, e k hk w hw]
  exact h k hk w hw
theorem RQ.e {N : Nat} {σ τ : St} {f g : Nat → Int32} (h : RQ N σ f) (h7 : τ.1 7 = σ.1 7) (h8 : τ.1 8 = σ.1 8) (e5 : ∀ k, k < 8 → g (8 + 20 * k + 5) = f (8 + 20 * k + 5)) (e : ∀ j, 168 ≤ j → j < 552 → g j = f j) : RQ N τ g := by
  intro k hk
  obtain ⟨m, g1, g2, g3, g4, g5⟩ := h k hk
  have em : ∀ i, i < 12 → mF g k i = mF f k i := fun i hi => by
    unfold mF
    rw [e _ (by omega) (by omega), e _ (by omega) (by omega), e _ (by omega) (by omega), e _ (by omega) (by omega)]
  have ex : ∀ i, xF τ k i = xF σ k i := fun i => by
    unfold xF
    rw [h8]
  exact ⟨m, g1, by rw [h7]; exact g2, by rw [e5 k hk]; exact g3, ql_cg g4 (fun i _ => ex i) (fun i hi => em i (by omega)), fun i hi => by rw [em i (by omega)]; exact g5 i hi⟩
theorem RT.e {C C' : Nat} {σ τ : St} {f g : Nat → Int32} (h : RT C σ f) (hC : C ≤ C') (h9 : τ.1 9 = σ.1 9) (h10 : τ.1 10 = σ.1 10) (hs : τ.2 3 = σ.2 3) (e : ∀ j, 552 ≤ j → j < 752 → g j = f j) : RT C' τ g := by
  obtain ⟨h1, h2, h3, h4, h5⟩ := h
  have et : tc g 99 = tc f 99 := tc_cg fun a _ _ => e _ (by omega) (by omega)
  refine ⟨fun a ha => ?_, by rw [h9]; exact h2, fun a ha => ?_, by rw [hs, et]; exact h4, by rw [et]; exact h5⟩
  · rw [h9, e _ (by omega) (by omega)]; exact h1 a ha
  · rw [h10, e _ (by omega) (by omega)]
    obtain ⟨q1, t, q2, q3⟩ := h3 a ha
    exact ⟨q1, t, by omega, q3⟩
theorem RV.e {σ τ : St} {f g : Nat → Int32} (h : RV σ f) (h11 : ∀ t, t < 10 → ∀ a, 1 ≤ a → a < 100 → τ.1 11 (100 * t + a) = σ.1 11 (100 * t + a)) (e : ∀ j, 752 ≤ j → j < 1752 → g j = f j) : RV τ g := by
  intro t ht a h1 h2
  rw [h11 t ht a h1 h2, e _ (by omega) (by omega)]
  exact h t ht a h1 h2
theorem fill_k {r n a L : Nat} {σ : St} {v : Int32} (h : a + L ≤ n) (hn : n < 1000000) : oFill r n σ (nI a) (nI L) v = rput σ r (fillF (σ.1 r) a (a + L) v) := by
  unfold oFill rFill
  rw [fits_k h hn, if_neg (by decide), nI_add, nI_clamp (by omega), nI_clamp (by omega)]
theorem pDec_at (σ : St) : ∀ n, n ≤ 8 → (∀ i, i ≠ 2 → (pDec σ n).1 i = σ.1 i) ∧ (pDec σ n).2 = σ.2 ∧ ∀ k, k < 8 → (pDec σ n).1 2 k = if k < n then (if 0 < σ.1 2 k then σ.1 2 k + (-1) else σ.1 2 k) else σ.1 2 k
  | 0, _ => ⟨fun _ _ => rfl, rfl, fun k _ => by rw [if_neg (Nat.not_lt_zero k)]; rfl⟩
  | n + 1, hn => by
    obtain ⟨h1, h2, h3⟩ := pDec_at σ n (by omega)
    have e := h3 n (by omega)
    rw [if_neg (Nat.lt_irrefl n)] at e
    unfold pDec
    rw [oAt_k (by omega) (by decide), e]
    by_cases c : 0 < σ.1 2 n
    · rw [if_pos c, oAdd_k (by omega) (by decide), e]
      refine ⟨fun i hi => (rput_ne hi).trans (h1 i hi), h2, fun k hk => ?_⟩
      show upd ((pDec σ n).1 2) n (σ.1 2 n + (-1)) k = _
      by_cases ck : k = n
      · subst ck
        rw [upd_s, if_pos (show k < k + 1 by omega), if_pos c]
      · rw [upd_n ck, h3 k hk]
        by_cases c2 : k < n
        · rw [if_pos c2, if_pos (show k < n + 1 by omega)]
        · rw [if_neg c2, if_neg (show ¬ k < n + 1 by omega)]
    · rw [if_neg c]
      refine ⟨h1, h2, fun k hk => ?_⟩
      rw [h3 k hk]
      by_cases ck : k = n
      · subst ck
        rw [if_neg (Nat.lt_irrefl k), if_pos (show k < k + 1 by omega), if_neg c]
      · by_cases c2 : k < n
        · rw [if_pos c2, if_pos (show k < n + 1 by omega)]
        · rw [if_neg c2, if_neg (show ¬ k < n + 1 by omega)]
theorem eq_at (ν : Mo) : ∀ n, n ≤ 8 → (∀ k, k < 8 → (mEQ ν n).2 0 (8 + 20 * k + 1) = if k < n then (if ν.2 0 4 < ν.2 0 (8 + 20 * k + 1) then ν.2 0 (8 + 20 * k + 1) else 0) else ν.2 0 (8 + 20 * k + 1)) ∧ (∀ k, k < 8 → (mEQ ν n).2 0 (8 + 20 * k + 4) = if k < n then 0 else ν.2 0 (8 + 20 * k + 4)) ∧ (∀ j, (∀ k, k < 8 → j ≠ 8 + 20 * k + 1 ∧ j ≠ 8 + 20 * k + 4) → (mEQ ν n).2 0 j = ν.2 0 j) ∧ (mEQ ν n).1 = ν.1 ∧ ∀ j, j ≠ 0 → (mEQ ν n).2 j = ν.2 j
  | 0, _ => ⟨fun k _ => by rw [if_neg (Nat.not_lt_zero k)]; rfl, fun k _ => by rw [if_neg (Nat.not_lt_zero k)]; rfl, fun _ _ => rfl, rfl, fun _ _ => rfl⟩
  | n + 1, hn => by
    obtain ⟨h1, h2, h3, h4, h5⟩ := eq_at ν n (by omega)
    have e1 := h1 n (by omega)
    rw [if_neg (Nat.lt_irrefl n)] at e1
    have e4 : (mEQ ν n).2 0 4 = ν.2 0 4 := h3 4 fun k hk => ⟨by omega, by omega⟩
    have key : (mEQ ν (n + 1)).2 0 = upd (upd ((mEQ ν n).2 0) (8 + 20 * n + 1) (if ν.2 0 4 < ν.2 0 (8 + 20 * n + 1) then ν.2 0 (8 + 20 * n + 1) else 0)) (8 + 20 * n + 4) 0 := by
      show (mTo (mTo (mEQ ν n) (nI n) 1 (if now (mEQ ν n) 4 < mOf (mEQ ν n) (nI n) 1 then mOf (mEQ ν n) (nI n) 1 else 0)) (nI n) 4 0).2 0 = _
      have q1 : mOf (mEQ ν n) (nI n) 1 = ν.2 0 (8 + 20 * n + 1) := by
        rw [show (1 : Int32) = nI 1 from rfl, of_nI (by omega) (by decide)]; exact e1
      have q2 : now (mEQ ν n) 4 = ν.2 0 4 := by
        rw [show (4 : Int32) = nI 4 from rfl, now_nI (by decide)]; exact e4
      rw [q1, q2]
      rw [show (4 : Int32) = nI 4 from rfl, to_k (by omega) (by decide), show (1 : Int32) = nI 1 from rfl, to_k (by omega) (by decide)]
    refine ⟨fun k hk => ?_, fun k hk => ?_, fun j hj => ?_, h4, fun j hj => (setNow_o hj).trans ((setNow_o hj).trans (h5 j hj))⟩
    · rw [key, upd_n (by omega)]
      by_cases ck : k = n
      · subst ck
        rw [upd_s, if_pos (show k < k + 1 by omega)]
      · rw [upd_n (by omega), h1 k hk]
        by_cases c2 : k < n
        · rw [if_pos c2, if_pos (show k < n + 1 by omega)]
        · rw [if_neg c2, if_neg (show ¬ k < n + 1 by omega)]
    · rw [key]
      by_cases ck : k = n
      · subst ck
        rw [upd_s, if_pos (show k < k + 1 by omega)]
      · rw [upd_n (by omega), upd_n (by omega), h2 k hk]
        by_cases c2 : k < n
        · rw [if_pos c2, if_pos (show k < n + 1 by omega)]
        · rw [if_neg c2, if_neg (show ¬ k < n + 1 by omega)]
    · have := hj n (by omega)
      rw [key, upd_n (by omega), upd_n (by omega)]
      exact h3 j hj
theorem g3_0 {ν : Mo} {C : Nat} (e : ν.2 0 4 = nI C) : (mG3 ν).2 0 = upd (ν.2 0) 4 (nI (C + 1)) := by
  unfold mG3
  rw [show (4 : Int32) = nI 4 from rfl, now_nI (by decide), setNow_nI (by decide), e, nI_succ]
theorem r_tick {C N : Nat} {σ : St} {ν : Mo} (hC : C + 1000 < 1073741824) (h : RC C N σ (ν.2 0)) : RC (C + 1) N (sTick σ) ((mEQ (mG3 ν) 8).2 0) := by
  obtain ⟨⟨w1, w2, w3, w4, w5⟩, h2, h3, h4, h5, h6, h7⟩ := h
  obtain ⟨e1, e4, eo, -, -⟩ := eq_at (mG3 ν) 8 (Nat.le_refl 8)
  rw [g3_0 w2] at e1 e4 eo
  have ef : ∀ j, (∀ k, k < 8 → j ≠ 8 + 20 * k + 1 ∧ j ≠ 8 + 20 * k + 4) → j ≠ 4 → (mEQ (mG3 ν) 8).2 0 j = ν.2 0 j := fun j hj h4 => by rw [eo j hj, upd_n h4]
  have e44 : (mEQ (mG3 ν) 8).2 0 4 = nI (C + 1) := by rw [eo 4 fun k hk => ⟨by omega, by omega⟩, upd_s]
  obtain ⟨d1, d2, d3⟩ := pDec_at (sput σ 0 (σ.2 0 + 1)) 8 (Nat.le_refl 8)
  have es : sTick σ = rput (pDec (sput σ 0 (σ.2 0 + 1)) 8) 5 (fillF ((pDec (sput σ 0 (σ.2 0 + 1)) 8).1 5) 0 (0 + 8) 0) := by
    unfold sTick pEndSec
    exact fill_k (a := 0) (L := 8) (by decide) (by decide)
  generalize (mEQ (mG3 ν) 8).2 0 = g at *
  rw [es]
  generalize pDec (sput σ 0 (σ.2 0 + 1)) 8 = τ at *
  refine ⟨⟨?_, e44, ?_, ?_, ?_⟩, fun i hi => ?_, fun k hk => ?_, ?_, ?_, ?_, ?_⟩
  · show τ.2 0 = _
    rw [d2]
    show σ.2 0 + 1 = _
    rw [w1, nI_succ]
  · show τ.2 1 = _
    rw [d2]; exact w3
  · rw [ef 6 (fun k hk => ⟨by omega, by omega⟩) (by decide)]; exact w4
  · rw [ef 5 (fun k hk => ⟨by omega, by omega⟩) (by decide)]
    show τ.2 2 = _
    rw [d2]; exact w5
  · rw [ef i (fun k hk => ⟨by omega, by omega⟩) (by omega)]
    show τ.1 0 i = _ ∧ _
    rw [d1 0 (by decide)]
    exact h2 i hi
  · obtain ⟨a1, ⟨L, b1, b2, b3⟩, a3, a4, a5⟩ := h3 k hk
    show Rp (C + 1) (τ.1 1 k) (τ.1 2 k) (τ.1 3 k) (τ.1 4 k) (fillF (τ.1 5) 0 (0 + 8) 0 k) _ _ _ _ _
    rw [d1 1 (by decide), d1 3 (by decide), d1 4 (by decide), d3 k hk, if_pos hk, e1 k hk, if_pos hk, e4 k hk, if_pos hk, ef (8 + 20 * k) (fun j hj => ⟨by omega, by omega⟩) (by omega), ef (8 + 20 * k + 2) (fun j hj => ⟨by omega, by omega⟩) (by omega), ef (8 + 20 * k + 3) (fun j hj => ⟨by omega, by omega⟩) (by omega)]
    refine ⟨a1, ?_, a3, a4, if_pos ⟨Nat.zero_le k, by omega⟩⟩
    have b2 : (sput σ 0 (σ.2 0 + 1)).1 2 k = nI L := b2
    rw [upd_s, upd_n (by omega), b2, b3]
    cases L with
    | zero =>
      refine ⟨0, by decide, by decide, ?_⟩
      rw [if_pos rfl, if_pos rfl, if_neg (nI_pos (by omega))]
    | succ L =>
      refine ⟨L, by omega, ?_, ?_⟩
      · rw [if_pos (show (0 : Int32) < nI (L + 1) from nI_lt (a := 0) (by omega) (by omega)), pk_m1]
      · rw [if_neg (Nat.succ_ne_zero L)]
        by_cases c : L = 0
        · subst c
          rw [if_neg (nI_nlt (by omega) (by omega)), if_pos rfl]
        · rw [if_pos (nI_lt (by omega) (by omega)), if_neg c, show C + (L + 1) = C + 1 + L by omega]
  · exact RA.e h4 (d1 6 (by decide)) fun k hk w hw => ef _ (fun j hj => ⟨by omega, by omega⟩) (by omega)
  · exact RQ.e h5 (d1 7 (by decide)) (d1 8 (by decide)) (fun k hk => ef _ (fun j hj => ⟨by omega, by omega⟩) (by omega)) fun j h1 h2 => ef j (fun k hk => ⟨by omega, by omega⟩) (by omega)
  · exact RT.e h6 (by omega) (d1 9 (by decide)) (d1 10 (by decide)) (congrFun d2 3) fun j h1 h2 => ef j (fun k hk => ⟨by omega, by omega⟩) (by omega)
  · exact RV.e h7 (fun t ht a h1 h2 => congrFun (d1 11 (by decide)) _) fun j h1 h2 => ef j (fun k hk => ⟨by omega, by omega⟩) (by omega)
def clr (f : Nat → Int32) (c : Nat) : Nat → Nat → Int32
  | 0 => f
  | n + 1 => upd (clr f c n) (100 * c + (n + 1)) 0
theorem clr_at {f : Nat → Int32} {c t a : Nat} (h1 : 1 ≤ a) (h2 : a < 100) : ∀ n, n ≤ 99 → clr f c n (100 * t + a) = if t = c ∧ a ≤ n then 0 else f (100 * t + a)
  | 0, _ => by
    rw [if_neg (by omega)]
    rfl
  | n + 1, hn => by
    have ih := clr_at (f := f) (c := c) (t := t) h1 h2 n (by omega)
    unfold clr
    by_cases e : 100 * t + a = 100 * c + (n + 1)
    · rw [e, upd_s, if_pos (by omega)]
    · rw [upd_n e, ih]
      by_cases q : t = c ∧ a ≤ n
      · rw [if_pos q, if_pos (by omega)]
      · rw [if_neg q, if_neg (by omega)]
theorem rc_movz {C N a t : Nat} {σ : St} {f g : Nat → Int32} (h1 : 1 ≤ a) (h2 : a < 100) (ht : t < 10) (h : RC C N (rput σ 11 g) f) : RC C N (rput σ 11 (upd g (100 * t + a) 0)) (upd f (752 + 10 * a + t) 0) := by
  obtain ⟨w1, w2, w3, w4, w5, w6, w7⟩ := h
  refine ⟨RW.u w1 (by omega), RG.u w2 (by omega), RP.u w3 (fun j hj => by omega), RA.u w4 (fun j hj => by omega), RQ.u w5 (by omega) (fun j hj => by omega), RT.u w6 (by omega), fun s hs b q1 q2 => ?_⟩
  show upd g (100 * t + a) 0 (100 * s + b) = _
  by_cases c : 100 * s + b = 100 * t + a
  · have e1 : s = t := by omega
    have e2 : b = a := by omega
    subst e1 e2
    rw [upd_s, upd_s]
  · rw [upd_n c, upd_n (by omega)]
    exact w7 s hs b q1 q2
theorem until_11 {σ : St} {t : Int32} : ∀ n, (tUntil σ t n).1 11 = σ.1 11 ∧ (tUntil σ t n).2 0 = σ.2 0
  | 0 => ⟨rfl, rfl⟩
  | n + 1 => by
    have ih := until_11 (σ := σ) (t := t) n
    unfold tUntil
    by_cases c : oAt 9 100 (tUntil σ t n) (nI (n + 1)) = -4
    · rw [if_pos c]; exact ih
    · rw [if_neg c]
      by_cases c2 : t < oAt 10 100 (tUntil σ t n) (nI (n + 1))
      · rw [if_pos c2]; exact ih
      · rw [if_neg c2]; exact ih
theorem rem_11 {σ : St} {a : Int32} {g : Nat → Int32} : tRemove (rput σ 11 g) a = rput (tRemove σ a) 11 g := by
  unfold tRemove oPut
  have e : rput (rput σ 11 g) 9 (rPut 100 ((rput σ 11 g).1 9) a (-4)) = rput (rput σ 9 (rPut 100 (σ.1 9) a (-4))) 11 g := rput_comm (by decide)
  rw [e]
  rfl
theorem r_age {C N ag : Nat} {σ : St} {ν : Mo} (hC : C < 1073741824) (hag : ag ≤ 1000) (e0 : ν.2 0 0 = nI ag) (h : RC C N σ (ν.2 0)) : ∀ n, n ≤ 99 → RC C N (rput (tUntil σ (nI C - nI ag) n) 11 (clr (σ.1 11) (C % 10) n)) ((mAge ν n).2 0) ∧ (mAge ν n).2 0 0 = nI ag ∧ (mAge ν n).1 = ν.1 ∧ ∀ j, j ≠ 0 → (mAge ν n).2 j = ν.2 j
  | 0, _ => ⟨by show RC C N (rput σ 11 (σ.1 11)) _; rw [rput_self]; exact h, e0, rfl, fun _ _ => rfl⟩
  | n + 1, hn => by
    obtain ⟨i1, i2, i3, i4⟩ := r_age hC hag e0 h n (by omega)
    have hA : mAge ν (n + 1) = mOB (mOA (mAge ν n) (nI (n + 1))) (nI (n + 1)) := rfl
    have hm : C % 10 < 10 := Nat.mod_lt _ (by decide)
    have hcb : CB ((tUntil σ (nI C - nI ag) n).1 9 (n + 1)) ((mAge ν n).2 0 (552 + (n + 1))) := i1.2.2.2.2.2.1.1 (n + 1) (by omega)
    obtain ⟨ht1, tt, ht2, ht3⟩ := i1.2.2.2.2.2.1.2.2.1 (n + 1) (by omega)
    have ht1 : (tUntil σ (nI C - nI ag) n).1 10 (n + 1) = (mAge ν n).2 0 (652 + (n + 1)) := ht1
    have ec : (mAge ν n).2 0 4 = nI C := i1.1.2.1
    rw [hA]
    have hU : tUntil σ (nI C - nI ag) (n + 1) = if oAt 9 100 (tUntil σ (nI C - nI ag) n) (nI (n + 1)) = -4 then tUntil σ (nI C - nI ag) n else if nI C - nI ag < oAt 10 100 (tUntil σ (nI C - nI ag) n) (nI (n + 1)) then tUntil σ (nI C - nI ag) n else tRemove (tUntil σ (nI C - nI ag) n) (nI (n + 1)) := rfl
    rw [hU, oAt_k (by omega) (by decide), oAt_k (by omega) (by decide)]
    generalize tUntil σ (nI C - nI ag) n = X at *
    generalize mAge ν n = ω at *
    have hB : ∀ ψ : Mo, ψ.2 0 4 = nI C → (mOB ψ (nI (n + 1))).2 0 = upd (ψ.2 0) (752 + 10 * (n + 1) + C % 10) 0 := by
      intro ψ e
      unfold mOB
      rw [show (4 : Int32) = nI 4 from rfl, now_nI (by decide), e, rem_c C (by omega), ix_752, setNow_nI (by omega)]
    have keep : RC C N (rput X 11 (clr (σ.1 11) (C % 10) (n + 1))) ((mOB ω (nI (n + 1))).2 0) ∧ (mOB ω (nI (n + 1))).2 0 0 = nI ag ∧ (mOB ω (nI (n + 1))).1 = ν.1 ∧ ∀ j, j ≠ 0 → (mOB ω (nI (n + 1))).2 j = ν.2 j := by
      refine ⟨?_, ?_, i3, fun j hj => (setNow_o hj).trans (i4 j hj)⟩
      · rw [hB ω ec]
        exact rc_movz (by omega) (by omega) hm i1
      · rw [hB ω ec, upd_n (by omega)]; exact i2
    have e4 : now ω 4 = nI C := by rw [show (4 : Int32) = nI 4 from rfl, now_nI (by decide)]; exact ec
    unfold mOA
    rw [n552 (by omega), n652 (by omega), show now ω 0 = nI ag from i2, e4, ht1, ht3]
    by_cases c : ω.2 0 (552 + (n + 1)) = 0
    · rw [if_pos ((cb_0 hcb).mpr c), if_neg (fun q => (cb_pos hcb).mp q c)]
      exact keep
    · rw [if_neg (fun q => c ((cb_0 hcb).mp q)), if_pos ((cb_pos hcb).mpr c)]
      have iff : nI C - nI ag < nI tt ↔ nI C - nI tt < nI ag := by
        rw [Int32.lt_iff_toInt_lt, Int32.lt_iff_toInt_lt, pk_sub_toInt (by omega) (by omega), pk_sub_toInt (by omega) (by omega), nI_toInt (by omega), nI_toInt (by omega)]
        omega
      by_cases c2 : nI C - nI tt < nI ag
      · rw [if_pos (iff.mpr c2), if_pos c2]
        exact keep
      · rw [if_neg (fun q => c2 (iff.mp q)), if_neg c2]
        have r1 := r_rem (a := n + 1) (by omega) (by omega) c i1
        rw [rem_11] at r1
        have s1 : (setNow ω (552 + nI (n + 1)) 0).2 0 = upd (ω.2 0) (552 + (n + 1)) 0 := s552 (by omega)
        have s4 : (setNow ω (552 + nI (n + 1)) 0).2 0 4 = nI C := by rw [s1, upd_n (by omega)]; exact ec
        refine ⟨?_, ?_, i3, fun j hj => (setNow_o hj).trans ((setNow_o hj).trans (i4 j hj))⟩
        · rw [hB _ s4, s1]
          exact rc_movz (by omega) (by omega) hm r1
        · rw [hB _ s4, s1, upd_n (by omega), upd_n (by omega)]; exact i2
theorem r_end {C N : Nat} {σ : St} {ν : Mo} (hC : C + 1000 < 1073741824) (h : RC C N σ (ν.2 0)) : RC (C + 1) N (sEnd σ) ((mG5 (mG3 ν)).2 0) ∧ (mG5 (mG3 ν)).1 = ν.1 ∧ ∀ j, j ≠ 0 → (mG5 (mG3 ν)).2 j = ν.2 j := by
  have t1 := r_tick hC h
  obtain ⟨-, -, -, q1, q2⟩ := eq_at (mG3 ν) 8 (Nat.le_refl 8)
  obtain ⟨a1, ag, a2, a3, a4⟩ := t1.2.1 0 (by decide)
  have hag : ag ≤ 1000 := a3
  obtain ⟨r1, r2, r3, r4⟩ := r_age (by omega) hag a4 t1 99 (Nat.le_refl 99)
  refine ⟨?_, r3.trans q1, fun j hj => (r4 j hj).trans ((q2 j hj).trans (setNow_o hj))⟩
  have ec : (sTick σ).2 0 = nI (C + 1) := t1.1.1
  have hm : (C + 1) % 10 < 10 := Nat.mod_lt _ (by decide)
  unfold sEnd mBegin
  rw [(until_11 99).2, ec, show (0 : Int32) = nI 0 from rfl, oAt_k (by decide) (by decide), a1, a4]
  unfold mSec
  rw [rem_c (C + 1) (by omega), show (100 : Int32) = nI 100 from rfl, pk_mul, fill_k (by omega) (by decide), (until_11 99).1]
  obtain ⟨w1, w2, w3, w4, w5, w6, w7⟩ := r1
  refine ⟨w1, w2, w3, w4, w5, w6, fun t ht a h1 h2 => ?_⟩
  have w := w7 t ht a h1 h2
  have w : clr ((sTick σ).1 11) ((C + 1) % 10) 99 (100 * t + a) = _ := w
  rw [← show (mAge (mEQ (mG3 ν) 8) 99).2 0 (752 + 10 * a + t) = (mG5 (mG3 ν)).2 0 (752 + 10 * a + t) from rfl, ← w, clr_at h1 h2 99 (Nat.le_refl 99)]
  show fillF ((sTick σ).1 11) ((C + 1) % 10 * 100) ((C + 1) % 10 * 100 + 100) (nI 0) (100 * t + a) = _
  unfold fillF
  by_cases c : t = (C + 1) % 10
  · rw [if_pos (by omega), if_pos (by omega)]; rfl
  · rw [if_neg (by omega), if_neg (by omega)]
