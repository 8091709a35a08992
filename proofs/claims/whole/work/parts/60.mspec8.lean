/-! the reference: the best of a queue, a frame that is sent -/
def bef (μ : Mo) (p : Int32) (q k : Nat) : Prop := 0 < now μ (mQc p (nI q) + 3) - now μ (mQc p (nI k) + 3) ∨ (now μ (mQc p (nI q) + 3) - now μ (mQc p (nI k) + 3) = 0 ∧ now μ (mQc p (nI q)) < now μ (mQc p (nI k)))
theorem ahead_0 {μ : Mo} {p : Int32} {k : Nat} : ∀ n, (∀ q, q < n → ¬ bef μ p q k) → mAhead μ p (nI k) n = 0
  | 0, _ => rfl
  | n + 1, h => by
    have ih := ahead_0 n (fun q hq => h q (by omega))
    have hb := h n (by omega)
    unfold mAhead
    rw [ih]
    by_cases c1 : 0 < now μ (mQc p (nI n) + 3) - now μ (mQc p (nI k) + 3)
    · exact absurd (Or.inl c1) hb
    rw [if_neg c1]
    by_cases c2 : now μ (mQc p (nI n) + 3) - now μ (mQc p (nI k) + 3) = 0
    · rw [if_pos c2]
      by_cases c3 : now μ (mQc p (nI n)) < now μ (mQc p (nI k))
      · exact absurd (Or.inr ⟨c2, c3⟩) hb
      · rw [if_neg c3]; rfl
    · rw [if_neg c2]; rfl
theorem pr_lt : ∀ a : Nat, a < 4 → ∀ b : Nat, b < 4 → (0 < nI a - nI b ↔ b < a) := by decide +kernel
theorem pr_eq : ∀ a : Nat, a < 4 → ∀ b : Nat, b < 4 → (nI a - nI b = 0 ↔ a = b) := by decide +kernel
theorem bef_iff {μ : Mo} {p : Int32} {q k a b : Nat} (ha : a < 4) (hb : b < 4) (ea : now μ (mQc p (nI q) + 3) = nI a) (eb : now μ (mQc p (nI k) + 3) = nI b) : bef μ p q k ↔ (b < a ∨ (a = b ∧ (now μ (mQc p (nI q))).toInt < (now μ (mQc p (nI k))).toInt)) := by
  unfold bef
  rw [ea, eb, pr_lt a ha b hb, pr_eq a ha b hb, Int32.lt_iff_toInt_lt]
theorem best_ex {μ : Mo} {p : Int32} : ∀ M, (∀ i, i < M + 1 → WH (now μ (mQc p (nI i) + 3)) 4) → ∃ i, i < M + 1 ∧ ∀ q, q < M + 1 → ¬ bef μ p q i
  | 0, h => by
    refine ⟨0, by decide, fun q hq => ?_⟩
    obtain rfl : q = 0 := by omega
    obtain ⟨a, ha, ea⟩ := h 0 (by decide)
    rw [bef_iff ha ha ea ea]
    omega
  | M + 1, h => by
    obtain ⟨i, hi, hb⟩ := best_ex (μ := μ) (p := p) M (fun i hi => h i (by omega))
    obtain ⟨a, ha, ea⟩ := h i (by omega)
    obtain ⟨b, hbb, eb⟩ := h (M + 1) (by omega)
    by_cases c : bef μ p (M + 1) i
    · refine ⟨M + 1, by omega, fun q hq h2 => ?_⟩
      obtain ⟨d, hd, ed⟩ := h q hq
      rw [bef_iff hbb ha eb ea] at c
      rw [bef_iff hd hbb ed eb] at h2
      by_cases e : q = M + 1
      · subst e
        have : d = b := by
          have := (pr_eq d hd b hbb).mp (by rw [← ed, ← eb]; exact Int32.sub_self _)
          exact this
        omega
      · refine hb q (by omega) ?_
        rw [bef_iff hd ha ed ea]
        omega
    · refine ⟨i, by omega, fun q hq => ?_⟩
      by_cases e : q = M + 1
      · rw [e]; exact c
      · exact hb q (by omega)
theorem atP_ex {μ : Mo} {p w : Int32} : ∀ n k i, k ≤ i → i < k + n → mAhead μ p (nI i) (mMany μ p) = w → ∃ j, k ≤ j ∧ j < k + n ∧ mAtP μ p w n k = nI j ∧ mAhead μ p (nI j) (mMany μ p) = w
  | 0, k, i, h1, h2, _ => absurd h2 (by omega)
  | n + 1, k, i, h1, h2, h3 => by
    unfold mAtP
    by_cases c : mAhead μ p (nI k) (mMany μ p) = w
    · rw [if_pos c]; exact ⟨k, Nat.le_refl k, by omega, rfl, c⟩
    · rw [if_neg c]
      have : i ≠ k := fun e => c (by rw [← e]; exact h3)
      obtain ⟨j, a, b, d, e⟩ := atP_ex (μ := μ) (p := p) (w := w) n (k + 1) i (by omega) (by omega) h3
      exact ⟨j, by omega, by omega, d, e⟩
theorem of_nI {μ : Mo} {k w : Nat} (hk : k < 8) (hw : w < 20) : mOf μ (nI k) (nI w) = μ.2 0 (8 + 20 * k + w) := by
  unfold mOf; rw [ix_of, now_nI (by omega)]
theorem qc_at {μ : Mo} {k i w : Nat} (hk : k < 8) (hi : i < 12) (hw : w < 4) : now μ (mQc (nI k) (nI i) + nI w) = μ.2 0 (168 + 48 * k + 4 * i + w) := by rw [ix_qc, now_nI (by omega)]
theorem at0_ex {μ : Mo} {k m : Nat} (hk : k < 8) (hm : m < 12) (hq : MQf (μ.2 0)) (em : mOf μ (nI k) 5 = nI (m + 1)) : ∃ j, j < m + 1 ∧ mAt μ (nI k) 0 = nI j := by
  have e5 : μ.2 0 (8 + 20 * k + 5) = nI (m + 1) := by rw [← em]; exact (of_nI (w := 5) hk (by decide)).symm
  have eM : mMany μ (nI k) = m + 1 := by unfold mMany; rw [em, nI_clamp (by omega)]
  obtain ⟨i, hi, hb⟩ := best_ex (μ := μ) (p := nI k) m (fun i hi => by
    have := (hq k hk i (by rw [e5, nI_clamp (by omega)]; omega)).2.2
    rw [show (3 : Int32) = nI 3 from rfl, qc_at hk (by omega) (by decide)]
    exact this)
  obtain ⟨j, h1, h2, h3, h4⟩ := atP_ex (μ := μ) (p := nI k) (w := 0) (m + 1) 0 i (by omega) (by omega) (ahead_0 _ (by rw [eM]; exact hb))
  exact ⟨j, by omega, by unfold mAt; rw [eM]; exact h3⟩
def GBf (R C : Nat) (f : Nat → Int32) : Prop := MIf f ∧ MQf f ∧ f 3 = nI R ∧ f 4 = nI C
theorem gb_shift {R C : Nat} {f : Nat → Int32} {p a m : Nat} (h : GBf R C f) (hp : p < 8) (ha : a ≤ m) (hm : m < 12) (em : f (8 + 20 * p + 5) = nI (m + 1)) : GBf R C (blk (upd f (8 + 20 * p + 5) (nI m)) (fun i => upd f (8 + 20 * p + 5) (nI m) (168 + 48 * p + 4 * a + 4 + i)) (168 + 48 * p + 4 * a) (168 + 48 * p + 4 * m - (168 + 48 * p + 4 * a))) := by
  obtain ⟨hI, hq, h3, h4⟩ := h
  have out : ∀ n, n < 168 ∨ 552 ≤ n → n ≠ 8 + 20 * p + 5 → blk (upd f (8 + 20 * p + 5) (nI m)) (fun i => upd f (8 + 20 * p + 5) (nI m) (168 + 48 * p + 4 * a + 4 + i)) (168 + 48 * p + 4 * a) (168 + 48 * p + 4 * m - (168 + 48 * p + 4 * a)) n = f n := by
    intro n h1 h2
    rw [blk_out (by omega), upd_n h2]
  have at5 : blk (upd f (8 + 20 * p + 5) (nI m)) (fun i => upd f (8 + 20 * p + 5) (nI m) (168 + 48 * p + 4 * a + 4 + i)) (168 + 48 * p + 4 * a) (168 + 48 * p + 4 * m - (168 + 48 * p + 4 * a)) (8 + 20 * p + 5) = nI m := by
    rw [blk_out (by omega), upd_s]
  have inn : ∀ n, 168 + 48 * p + 4 * a ≤ n → n < 168 + 48 * p + 4 * m → blk (upd f (8 + 20 * p + 5) (nI m)) (fun i => upd f (8 + 20 * p + 5) (nI m) (168 + 48 * p + 4 * a + 4 + i)) (168 + 48 * p + 4 * a) (168 + 48 * p + 4 * m - (168 + 48 * p + 4 * a)) n = f (n + 4) := by
    intro n h1 h2
    unfold blk
    rw [if_pos (by omega)]
    show upd f (8 + 20 * p + 5) (nI m) _ = _
    rw [upd_n (by omega)]
    exact congrArg f (by omega)
  have oth : ∀ n, 168 ≤ n → (n < 168 + 48 * p + 4 * a ∨ 168 + 48 * p + 4 * m ≤ n) → blk (upd f (8 + 20 * p + 5) (nI m)) (fun i => upd f (8 + 20 * p + 5) (nI m) (168 + 48 * p + 4 * a + 4 + i)) (168 + 48 * p + 4 * a) (168 + 48 * p + 4 * m - (168 + 48 * p + 4 * a)) n = f n := by
    intro n h0 h1
    rw [blk_out (by omega), upd_n (by omega)]
  generalize blk (upd f (8 + 20 * p + 5) (nI m)) (fun i => upd f (8 + 20 * p + 5) (nI m) (168 + 48 * p + 4 * a + 4 + i)) (168 + 48 * p + 4 * a) (168 + 48 * p + 4 * m - (168 + 48 * p + 4 * a)) = g at *
  refine ⟨⟨fun k hk => ?_, fun b hb => ?_, ?_, fun k hk => ?_⟩, fun k hk i hi => ?_, ?_, ?_⟩
  · by_cases c : k = p
    · subst c; rw [at5]; exact ⟨m, by omega, rfl⟩
    · rw [out _ (by omega) (by omega)]; exact hI.1 k hk
  · rw [out _ (by omega) (by omega)]; exact hI.2.1 b hb
  · rw [out _ (by omega) (by omega)]; exact hI.2.2.1
  · rw [out _ (by omega) (by omega)]; exact hI.2.2.2 k hk
  · by_cases c : k = p
    · subst c
      rw [at5, nI_clamp (by omega)] at hi
      by_cases c2 : i < a
      · rw [oth _ (by omega) (by omega), oth _ (by omega) (by omega), oth _ (by omega) (by omega)]
        exact hq k hk i (by rw [em, nI_clamp (by omega)]; omega)
      · rw [inn _ (by omega) (by omega), inn _ (by omega) (by omega), inn _ (by omega) (by omega)]
        exact hq k hk (i + 1) (by rw [em, nI_clamp (by omega)]; omega)
    · rw [out _ (by omega) (by omega)] at hi
      have hb : i < 12 := by
        obtain ⟨j, hj, e⟩ := hI.1 k hk
        rw [e, nI_clamp (by omega)] at hi
        omega
      rw [oth _ (by omega) (by omega), oth _ (by omega) (by omega), oth _ (by omega) (by omega)]
      exact hq k hk i hi
  · rw [out _ (by omega) (by omega)]; exact h3
  · rw [out _ (by omega) (by omega)]; exact h4
def WY (μ : Mo) (r : Nat) : Prop := μ.1 3 = nI r ∧ ∀ j, j < r → PO (μ.2 4 (4 * j)) ∧ AD (μ.2 4 (4 * j + 1)) ∧ AD (μ.2 4 (4 * j + 2)) ∧ WH (μ.2 4 (4 * j + 3)) 4
theorem sw_w {ν : Mo} {c p : Int32} {r : Nat} (e : ν.1 3 = nI r) (hr : r < 80) : (mSW ν c p).2 4 = upd (upd (upd (upd (ν.2 4) (4 * r) (mOf ν p 3 - 1)) (4 * r + 1) (now ν (c + 1))) (4 * r + 2) (now ν (c + 2))) (4 * r + 3) (now ν (c + 3)) := by
  have h : (mSW ν c p).2 4 = upd (upd (upd (upd (ν.2 4) (4 * ν.1 3).toNatClampNeg (mOf ν p 3 - 1)) (4 * ν.1 3 + 1).toNatClampNeg (now ν (c + 1))) (4 * ν.1 3 + 2).toNatClampNeg (now ν (c + 2))) (4 * ν.1 3 + 3).toNatClampNeg (now ν (c + 3)) := rfl
  rw [h, e, show (4 : Int32) * nI r = nI (4 * r) from by rw [show (4 : Int32) = nI 4 from rfl, pk_mul], show (1 : Int32) = nI 1 from rfl, show (2 : Int32) = nI 2 from rfl, show (3 : Int32) = nI 3 from rfl, nI_add, nI_add, nI_add, nI_clamp (by omega), nI_clamp (by omega), nI_clamp (by omega), nI_clamp (by omega)]
theorem wy_sw {ν : Mo} {c p : Int32} {r : Nat} (h : WY ν r) (hr : r < 80) (h0 : PO (mOf ν p 3 - 1)) (h1 : AD (now ν (c + 1))) (h2 : AD (now ν (c + 2))) (h3 : WH (now ν (c + 3)) 4) : WY (mSW ν c p) (r + 1) := by
  refine ⟨by show ν.1 3 + 1 = _; rw [h.1, nI_succ], fun j hj => ?_⟩
  rw [sw_w h.1 hr]
  by_cases e : j = r
  · subst e
    rw [upd_n (by omega), upd_n (by omega), upd_n (by omega), upd_s, upd_n (by omega), upd_n (by omega), upd_s, upd_n (by omega), upd_s, upd_s]
    exact ⟨h0, h1, h2, h3⟩
  · rw [upd_n (by omega), upd_n (by omega), upd_n (by omega), upd_n (by omega), upd_n (by omega), upd_n (by omega), upd_n (by omega), upd_n (by omega), upd_n (by omega), upd_n (by omega), upd_n (by omega), upd_n (by omega), upd_n (by omega), upd_n (by omega), upd_n (by omega), upd_n (by omega)]
    exact h.2 j (by omega)
def FR (O ν : Mo) : Prop := (∀ j, j ≠ 2 → j ≠ 3 → ν.1 j = O.1 j) ∧ (∀ j, j ≠ 0 → j ≠ 4 → ν.2 j = O.2 j)
def GS (O : Mo) (R C n : Nat) (ν : Mo) : Prop := GBf R C (ν.2 0) ∧ FR O ν ∧ ∃ r, r ≤ n ∧ WY ν r
theorem gb_ga {R C : Nat} {μ : Mo} (h : GBf R C (μ.2 0)) : GA μ R C μ := ⟨h.1, h.2.1, h.2.2.1, h.2.2.2, fun _ _ => rfl, fun _ _ => rfl⟩
theorem ga_gb {O : Mo} {R C : Nat} {μ : Mo} (h : GA O R C μ) : GBf R C (μ.2 0) := ⟨h.1, h.2.1, h.2.2.1, h.2.2.2.1⟩
theorem more_at {μ : Mo} {p w : Int32} (hp : PO p) (hw : WH w 14) {n : Nat} (hn : n < 168 → ∃ k j, j < 6 ∧ n = 8 + 20 * k + j) : (mMore μ p w).2 0 n = μ.2 0 n := by
  obtain ⟨k, hk, rfl⟩ := hp
  obtain ⟨j, hj, rfl⟩ := hw
  unfold mMore
  rw [ix_more, setNow_nI (by omega)]
  refine upd_n (fun e => ?_)
  obtain ⟨k', j', h1, h2⟩ := hn (by omega)
  omega
theorem gs_sends {O : Mo} {R C n k : Nat} {μ : Mo} (hk : k < 8) (h : GS O R C n μ) (hn : n < 80) (hpos : 0 < mOf μ (nI k) 5) : WH (mAt μ (nI k) 0) 12 ∧ GS O R C (n + 1) (mSends μ (nI k)) := by
  obtain ⟨hb, hf, r, hr, hw⟩ := h
  have h5 := mi_many (po_nI hk) hb.1
  obtain ⟨m', hm', em'⟩ := h5
  obtain ⟨m, rfl⟩ : ∃ m, m' = m + 1 := by
    cases m' with
    | zero => rw [em'] at hpos; exact absurd hpos (by decide)
    | succ m => exact ⟨m, rfl⟩
  obtain ⟨a, ha, ea⟩ := at0_ex hk (by omega) hb.2.1 em'
  refine ⟨by rw [ea]; exact ⟨a, by omega, rfl⟩, ?_⟩
  have e5 : μ.2 0 (8 + 20 * k + 5) = nI (m + 1) := by rw [← em']; exact (of_nI (w := 5) hk (by decide)).symm
  have cel := hb.2.1 k hk a (by rw [e5, nI_clamp (by omega)]; omega)
  unfold mSends
  rw [ea]
  have hS : GBf R C ((mSb μ (nI k) (mQc (nI k) (nI a))).2 0) ∧ (mSb μ (nI k) (mQc (nI k) (nI a))).2 0 (8 + 20 * k + 5) = nI (m + 1) ∧ FR O (mSb μ (nI k) (mQc (nI k) (nI a))) ∧ ∃ r, r ≤ n + 1 ∧ WY (mSb μ (nI k) (mQc (nI k) (nI a))) r := by
    have g9 : GA μ R C (mMore μ (nI k) 9) := ga_more (po_nI hk) ⟨9, by decide, rfl⟩ (gb_ga hb)
    have e9 : (mMore μ (nI k) 9).2 0 (8 + 20 * k + 5) = nI (m + 1) := (more_at (po_nI hk) ⟨9, by decide, rfl⟩ (fun _ => ⟨k, 5, by decide, rfl⟩)).trans e5
    have c9 : ∀ w, w < 4 → (mMore μ (nI k) 9).2 0 (168 + 48 * k + 4 * a + w) = μ.2 0 (168 + 48 * k + 4 * a + w) := fun w hw => more_at (po_nI hk) ⟨9, by decide, rfl⟩ (fun q => absurd q (by omega))
    unfold mSb
    have r9 : (mMore μ (nI k) 9).1 = μ.1 := rfl
    have s9 : ∀ j, j ≠ 0 → (mMore μ (nI k) 9).2 j = μ.2 j := fun j hj => setNow_o hj
    generalize mMore μ (nI k) 9 = β at *
    have wb : WY β r := by
      refine ⟨by rw [r9]; exact hw.1, ?_⟩
      rw [s9 4 (by decide)]; exact hw.2
    have fb : FR O β := ⟨fun j a b => by rw [r9]; exact hf.1 j a b, fun j a b => by rw [s9 j a]; exact hf.2 j a b⟩
    by_cases c : 0 < mOf β (nI k) 3
    · rw [if_pos c]
      refine ⟨show GBf R C (β.2 0) from ga_gb g9, e9, ⟨fun j q1 q2 => ?_, fun j q1 q2 => ?_⟩, r + 1, by omega, ?_⟩
      · show (if j = 3 then _ else β.1 j) = _
        rw [if_neg q2]; exact fb.1 j q1 q2
      · have : (mSW β (mQc (nI k) (nI a)) (nI k)).2 j = β.2 j := by
          unfold mSW setA
          dsimp only
          show (mar _ _ _).2 j = _
          unfold mar
          dsimp only
          rw [if_neg q2, if_neg q2, if_neg q2, if_neg q2]
        rw [this]; exact fb.2 j q1 q2
      · refine wy_sw wb (by omega) (po_pos (mi_cab (po_nI hk) g9.1) c) ?_ ?_ ?_
        · rw [show (1 : Int32) = nI 1 from rfl, qc_at hk (by omega) (by decide), c9 1 (by decide)]; exact cel.1
        · rw [show (2 : Int32) = nI 2 from rfl, qc_at hk (by omega) (by decide), c9 2 (by decide)]; exact cel.2.1
        · rw [show (3 : Int32) = nI 3 from rfl, qc_at hk (by omega) (by decide), c9 3 (by decide)]; exact cel.2.2
    · rw [if_neg c]
      have gX : GA μ R C (mMore β (nI k) 10) := ga_more (po_nI hk) ⟨10, by decide, rfl⟩ g9
      refine ⟨ga_gb gX, ?_, ⟨fun j a b => fb.1 j a b, fun j a b => (setNow_o a).trans (fb.2 j a b)⟩, r, by omega, wb.1, ?_⟩
      · exact (more_at (po_nI hk) ⟨10, by decide, rfl⟩ (fun _ => ⟨k, 5, by decide, rfl⟩)).trans e9
      · rw [show (mMore β (nI k) 10).2 4 = β.2 4 from setNow_o (by decide)]; exact wb.2
  generalize mSb μ (nI k) (mQc (nI k) (nI a)) = β at *
  obtain ⟨b1, b2, b3, rr, b4, b5⟩ := hS
  have ec : mSc β (nI k) = setNow β (nI (8 + 20 * k + 5)) (nI m) := by
    unfold mSc
    rw [show mOf β (nI k) 5 = nI (m + 1) from (of_nI (w := 5) hk (by decide)).trans b2, nI_pred]
    unfold mTo
    rw [show (5 : Int32) = nI 5 from rfl, ix_of]
  have e0 : (mSc β (nI k)).2 0 = upd (β.2 0) (8 + 20 * k + 5) (nI m) := by rw [ec, setNow_nI (by omega)]
  have em2 : mOf (mSc β (nI k)) (nI k) 5 = nI m := by rw [show mOf (mSc β (nI k)) (nI k) 5 = _ from of_nI (w := 5) hk (by decide), e0, upd_s]
  have eo : ∀ j, j ≠ 0 → (mSc β (nI k)).2 j = β.2 j := fun j hj => by rw [ec]; exact setNow_o hj
  have e1 : (mSc β (nI k)).1 = β.1 := rfl
  generalize mSc β (nI k) = γ at *
  refine ⟨?_, ⟨fun j q1 q2 => ?_, fun j q1 q2 => ?_⟩, rr, b4, ?_, ?_⟩
  · show GBf R C ((mar _ _ _).2 0)
    rw [mar_at, em2, ix_qc0, ix_qc0, nI_clamp (by omega), nI_clamp (by omega), e0]
    exact gb_shift b1 hk (by omega) (by omega) b2
  · show γ.1 j = _
    rw [e1]; exact b3.1 j q1 q2
  · show (mar _ _ _).2 j = _
    unfold mar
    dsimp only
    rw [if_neg q1, eo j q1]; exact b3.2 j q1 q2
  · show γ.1 3 = _
    rw [e1]; exact b5.1
  · rw [show (mSd γ (nI k) (mQc (nI k) (nI a))).2 4 = γ.2 4 from rfl, eo 4 (by decide)]; exact b5.2
