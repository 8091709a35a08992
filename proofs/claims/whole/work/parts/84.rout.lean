/-! a frame goes out of a port; the frame that is sent first -/
theorem go5_k {ν : Mo} {k : Nat} (hk : k < 8) : (mGo5 ν (nI k)).2 0 = upd (upd (upd (ν.2 0) (8 + 20 * k + 5) (ν.2 0 (8 + 20 * k + 5) + 1)) 6 (ν.2 0 6 + 1)) (8 + 20 * k + 6 + 7) (ν.2 0 (8 + 20 * k + 6 + 7) + 1) := by
  unfold mGo5
  rw [show (5 : Int32) = nI 5 from rfl, show (6 : Int32) = nI 6 from rfl, show (7 : Int32) = nI 7 from rfl]
  simp (disch := omega) only [more_k, setNow_nI, now_nI, to_k, of_nI, upd_n]
theorem rc_base {C N k m pl : Nat} {σ : St} {f : Nat → Int32} {s d pr : Int32} (hN : N + 1 < 2147483648) (hk : k < 8) (hm : m < 12) (e7 : σ.1 7 k = nI m) (hp : pl ≤ m) (hg : ∀ i, pl ≤ i → i < m → (xF σ k i).2.2.1 < pr) (hl : pl = 0 ∨ ¬ (xF σ k (pl - 1)).2.2.1 < pr)
    (hs : AS s) (hd : AD d) (hr : WH pr 4) (h : RC C N σ f) :
    RC C (N + 1) (sput (rput (rput σ 8 (insRow (σ.1 8) (48 * k + 4 * pl) (4 * (m - pl)) (s, d, pr, nI N))) 7 (upd (σ.1 7) k (nI (m + 1)))) 1 (nI N + 1)) (upd (upd (upd (upd (upd (upd f (168 + 48 * k + 4 * m) (nI N)) (168 + 48 * k + 4 * m + 1) s) (168 + 48 * k + 4 * m + 2) d) (168 + 48 * k + 4 * m + 3) pr) (8 + 20 * k + 5) (nI (m + 1))) 6 (nI N + 1)) := by
  obtain ⟨h1, h2, h3, h4, h5, h6, h7⟩ := h
  refine ⟨?_, ?_, ?_, ?_, ?_, ?_, ?_⟩
  · obtain ⟨a1, a2, a3, a4, a5⟩ := h1
    refine ⟨a1, ?_, (nI_succ N).symm, ?_, ?_⟩
    · simp (disch := omega) only [upd_n]; exact a2
    · rw [upd_s]; exact (nI_succ N).symm
    · simp (disch := omega) only [upd_n]; exact a5
  · exact RG.u (RG.u (RG.u (RG.u (RG.u (RG.u h2 (by omega)) (by omega)) (by omega)) (by omega)) (by omega)) (by omega)
  · exact RP.u (RP.u (RP.u (RP.u (RP.u (RP.u h3 (fun j hj => by omega)) (fun j hj => by omega)) (fun j hj => by omega)) (fun j hj => by omega)) (fun j hj => by omega)) (fun j hj => by omega)
  · exact RA.u (RA.u (RA.u (RA.u (RA.u (RA.u h4 (fun j hj => by omega)) (fun j hj => by omega)) (fun j hj => by omega)) (fun j hj => by omega)) (fun j hj => by omega)) (fun j hj => by omega)
  · exact RQ.u (rq_put hN hk hm e7 hp hg hl hs hd hr h5 rfl) (by omega) (fun j hj => by omega)
  · exact RT.u (RT.u (RT.u (RT.u (RT.u (RT.u h6 (by omega)) (by omega)) (by omega)) (by omega)) (by omega)) (by omega)
  · exact RV.u (RV.u (RV.u (RV.u (RV.u (RV.u h7 (by omega)) (by omega)) (by omega)) (by omega)) (by omega)) (by omega)
theorem rc_mono {C N N' : Nat} {σ : St} {f : Nat → Int32} (h : RC C N σ f) (e : N' = N) : RC C N' σ f := e ▸ h
theorem rc_out {C N k : Nat} {σ : St} {μ : Mo} {s d pr : Int32} (hN : N + 1 < 2147483648) (hk : k < 8) (hs : AS s) (hd : AD d) (hr : WH pr 4) (h : RC C N σ (μ.2 0)) : ∃ N', N' ≤ N + 1 ∧ RC C N' (sOut σ (nI k) s d pr) ((mGo μ (nI k) s d pr).2 0) := by
  obtain ⟨m, g1, g2, g3, g4, g5⟩ := h.2.2.2.2.1 k hk
  unfold sOut qFull mGo
  rw [show (5 : Int32) = nI 5 from rfl, of_nI hk (by decide), g3, oAt_k hk (by decide), g2]
  by_cases c : m = 12
  · subst c
    rw [if_neg (show ¬ nI 12 < (12 : Int32) by decide), if_neg (show ¬ ((1 : Int32) = 0) by decide), if_pos (show nI 12 = (12 : Int32) from rfl)]
    refine ⟨N, by omega, ?_⟩
    rw [show (8 : Int32) = nI 8 from rfl, cred_k hk (by decide), more_k hk (by decide)]
    exact rc_acc hk (by decide) h
  · rw [if_pos (nlt_lit (b := 12) (by omega) (by decide)), if_pos rfl, if_neg (show ¬ nI m = (12 : Int32) from fun q => c ((nI_eq (b := 12) (by omega) (by decide)).mp q))]
    refine ⟨N + 1, Nat.le_refl _, ?_⟩
    obtain ⟨pl, p1, p2, p3, p4⟩ := qPlace_k (pr := pr) hk g1 g2
    have b := rc_base (pl := pl) hN hk (by omega : m < 12) g2 p1 p3 p4 hs hd hr h
    rw [qIns_k hk (by omega) p1 g2 p2, show (7 : Int32) = nI 7 from rfl, cred_k hk (by decide), go5_k hk, go4_k hk (by omega), h.1.2.2.1, h.1.2.2.2.1]
    have e5 : (upd (upd (upd (upd (μ.2 0) (168 + 48 * k + 4 * m) (nI N)) (168 + 48 * k + 4 * m + 1) s) (168 + 48 * k + 4 * m + 2) d) (168 + 48 * k + 4 * m + 3) pr) (8 + 20 * k + 5) + 1 = nI (m + 1) := by
      simp (disch := omega) only [upd_n]
      rw [g3, nI_succ]
    have e6 : (upd (upd (upd (upd (μ.2 0) (168 + 48 * k + 4 * m) (nI N)) (168 + 48 * k + 4 * m + 1) s) (168 + 48 * k + 4 * m + 2) d) (168 + 48 * k + 4 * m + 3) pr) 6 + 1 = nI N + 1 := by
      simp (disch := omega) only [upd_n]
      rw [h.1.2.2.2.1]
    rw [e5, e6]
    have b2 := rc_acc (v := 1) (w := 7) hk (by decide) b
    have e7 : (upd (upd (upd (upd (upd (upd (μ.2 0) (168 + 48 * k + 4 * m) (nI N)) (168 + 48 * k + 4 * m + 1) s) (168 + 48 * k + 4 * m + 2) d) (168 + 48 * k + 4 * m + 3) pr) (8 + 20 * k + 5) (nI (m + 1))) 6 (nI N + 1)) (8 + 20 * k + 6 + 7) = (upd (upd (upd (upd (μ.2 0) (168 + 48 * k + 4 * m) (nI N)) (168 + 48 * k + 4 * m + 1) s) (168 + 48 * k + 4 * m + 2) d) (168 + 48 * k + 4 * m + 3) pr) (8 + 20 * k + 6 + 7) := by
      simp (disch := omega) only [upd_n]
    rw [e7] at b2
    have e8 : (rput (rput σ 8 (insRow (σ.1 8) (48 * k + 4 * pl) (4 * (m - pl)) (s, d, pr, nI N))) 7 (upd (σ.1 7) k (nI (m + 1)))).2 1 = nI N := h.1.2.2.1
    show RC C (N + 1) (sput (rput (rput (rput σ 8 (insRow (σ.1 8) (48 * k + 4 * pl) (4 * (m - pl)) (s, d, pr, nI N))) 7 (upd (σ.1 7) k (nI (m + 1)))) 6 _) 1 (σ.2 1 + 1)) _
    rw [h.1.2.2.1]
    exact b2
-- the place in the reference's queue
theorem ahead_k {μ : Mo} {k j m : Nat} (hk : k < 8) (hm : m ≤ 12) (hj : j < m) (hq : ∀ i, i < m → WH (mF (μ.2 0) k i).2.2.1 4) : ∀ n, n ≤ m → mAhead μ (nI k) (nI j) n = nI (cn (fun q => bf (mF (μ.2 0) k q) (mF (μ.2 0) k j)) n)
  | 0, _ => rfl
  | n + 1, hn => by
    have ih := ahead_k (μ := μ) hk hm hj hq n (by omega)
    obtain ⟨a, ha, ea⟩ := hq n (by omega)
    obtain ⟨b, hb, eb⟩ := hq j hj
    have ea' : now μ (mQc (nI k) (nI n) + 3) = nI a := (qc_at (w := 3) hk (by omega) (by decide)).trans ea
    have eb' : now μ (mQc (nI k) (nI j) + 3) = nI b := (qc_at (w := 3) hk (by omega) (by decide)).trans eb
    have key : bef μ (nI k) n j ↔ bf (mF (μ.2 0) k n) (mF (μ.2 0) k j) = true := by
      rw [bef_iff ha hb ea' eb', bf_iff]
      unfold Bf
      rw [ea, eb, nI_toInt (by omega), nI_toInt (by omega), ix_qc0, ix_qc0, now_nI (by omega), now_nI (by omega)]
      show _ ↔ _ ∨ (_ ∧ (μ.2 0 (168 + 48 * k + 4 * n)).toInt < (μ.2 0 (168 + 48 * k + 4 * j)).toInt)
      omega
    unfold mAhead cn
    rw [ih]
    by_cases c : bf (mF (μ.2 0) k n) (mF (μ.2 0) k j) = true
    · rw [if_pos c]
      rcases key.mpr c with h1 | ⟨h1, h2⟩
      · rw [if_pos h1, nI_succ]
      · rw [if_neg (by rw [h1]; decide), if_pos h1, if_pos h2, nI_succ]
    · rw [if_neg c]
      have hn := fun q => c (key.mp q)
      rw [if_neg (fun q => hn (Or.inl q))]
      by_cases c2 : now μ (mQc (nI k) (nI n) + 3) - now μ (mQc (nI k) (nI j) + 3) = 0
      · rw [if_pos c2, if_neg (fun q => hn (Or.inr ⟨c2, q⟩))]; exact nI_add _ 0
      · rw [if_neg c2]; exact nI_add _ 0
theorem atP_k {μ : Mo} {p w : Int32} {m : Nat} (em : mMany μ p = m) : ∀ n k, k + n = m → (∃ j, k ≤ j ∧ j < m ∧ mAtP μ p w n k = nI j ∧ mAhead μ p (nI j) m = w) ∨ (mAtP μ p w n k = -4 ∧ ∀ j, k ≤ j → j < m → ¬ mAhead μ p (nI j) m = w)
  | 0, k, h => Or.inr ⟨rfl, fun j h1 h2 => absurd h2 (by omega)⟩
  | n + 1, k, h => by
    unfold mAtP
    rw [em]
    by_cases c : mAhead μ p (nI k) m = w
    · rw [if_pos c]
      exact Or.inl ⟨k, Nat.le_refl k, by omega, rfl, c⟩
    · rw [if_neg c]
      rcases atP_k (w := w) em n (k + 1) (by omega) with ⟨j, h1, h2, h3, h4⟩ | ⟨h1, h2⟩
      · exact Or.inl ⟨j, by omega, h2, h3, h4⟩
      · refine Or.inr ⟨h1, fun j q1 q2 => ?_⟩
        by_cases cj : j = k
        · rw [cj]; exact c
        · exact h2 j (by omega) q2
theorem mAt_k {μ : Mo} {k m : Nat} {g : Nat → Fr} {w : Int32} (hk : k < 8) (hm : m ≤ 12) (e5 : μ.2 0 (8 + 20 * k + 5) = nI m) (hq : ∀ i, i < m → WH (mF (μ.2 0) k i).2.2.1 4) (q : QL g (mF (μ.2 0) k) m) : (∃ j i, j < m ∧ i < m ∧ w = nI i ∧ mAt μ (nI k) w = nI j ∧ mF (μ.2 0) k j = g i) ∨ (mAt μ (nI k) w = -4 ∧ ∀ i, i < m → ¬ w = nI i) := by
  have em : mMany μ (nI k) = m := by
    unfold mMany
    rw [show (5 : Int32) = nI 5 from rfl, of_nI hk (by decide), e5, nI_clamp (by omega)]
  unfold mAt
  rw [em]
  rcases atP_k (w := w) em m 0 (Nat.zero_add m) with ⟨j, h1, h2, h3, h4⟩ | ⟨h1, h2⟩
  · rw [ahead_k hk hm h2 hq m (Nat.le_refl m)] at h4
    obtain ⟨q1, q2⟩ := ql_at q h2 rfl
    exact Or.inl ⟨j, _, h2, q1, h4.symm, h3, q2⟩
  · refine Or.inr ⟨h1, fun i hi e => ?_⟩
    obtain ⟨j, hj, ej⟩ := ql_ex q hi
    obtain ⟨i', h3, h4, h5⟩ := ql_ahead q hj
    refine h2 j (Nat.zero_le j) hj ?_
    rw [ahead_k hk hm hj hq m (Nat.le_refl m), h5, e]
    congr 1
    have c1 := srt_cnt q.2 hi m (Nat.le_refl m)
    have c2 := srt_cnt q.2 h3 m (Nat.le_refl m)
    rw [← ej, h4] at c1
    omega
