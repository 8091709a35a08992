/-! the acts on ports, cables, settings and entries -/
theorem up_iv {C N K k : Nat} {σ : St} (hk : k < 8) (h : IV C N K σ) : IV C N K (pTurn σ (nI k) 1) ∧ (pTurn σ (nI k) 1) = rput σ 1 (upd (σ.1 1) k 1) := by
  unfold pTurn
  rw [if_neg (by decide), oPut_k hk (by decide)]
  obtain ⟨h1, h2, h3, h4, h5, h6, h7, h8, h9, hA, hQ, hT, hW⟩ := h
  refine ⟨⟨h1, h2, h3, fun j hj => ?_, h5, h6, h7, h8, h9, hA, hQ, hT, hW⟩, rfl⟩
  show upd (σ.1 1) k 1 j = 1 ∨ (upd (σ.1 1) k 1 j = 0 ∧ σ.1 7 j = 0)
  by_cases c : j = k
  · subst c; exact Or.inl upd_s
  · rw [upd_n c]; exact h4 j hj
theorem down_iv {C N K k : Nat} {σ : St} (hk : k < 8) (h : IV C N K σ) : IV C N (K + 12) (sDrop (pTurn σ (nI k) 0) (nI k)) ∧ (sDrop (pTurn σ (nI k) 0) (nI k)).1 1 = upd (σ.1 1) k 0 ∧ (sDrop (pTurn σ (nI k) 0) (nI k)).1 7 k = 0 := by
  obtain ⟨h1, h2, h3, h4, h5, h6, h7, h8, h9, hA, hQ, hT, hW⟩ := h
  obtain ⟨m, g1, g2, g4, g5⟩ := hQ k hk
  unfold sDrop pTurn
  rw [if_pos rfl, oPut_k hk (by decide), oAt_k hk (by decide)]
  have e7 : (rput σ 1 (upd (σ.1 1) k 0)).1 7 k = nI m := g2
  rw [e7, qRem_k hk g1 (Nat.le_refl m) e7, show (8 : Int32) = nI 8 from rfl, cred_k hk (by decide)]
  refine ⟨⟨h1, h2, h3, fun l hl => ?_, h5, h6, h7, h8, ivs_u (by decide) (by decide) h9, fun l hl => ?_, fun l hl => ?_, hT, fun j hj => nle_mono (hW j hj) (by omega)⟩, rfl, ?_⟩
  · show upd (σ.1 1) k 0 l = 1 ∨ (upd (σ.1 1) k 0 l = 0 ∧ upd (σ.1 7) k (nI (m - m)) l = 0)
    by_cases c : l = k
    · subst c
      rw [upd_s, upd_s, Nat.sub_self]
      exact Or.inr ⟨rfl, rfl⟩
    · rw [upd_n c, upd_n c]; exact h4 l hl
  · have q := hA l hl
    show acq (K + 12) (upd (σ.1 6) (11 * k + 8) (σ.1 6 (11 * k + 8) + nI m) (11 * l + 7)) (upd (σ.1 6) (11 * k + 8) (σ.1 6 (11 * k + 8) + nI m) (11 * l + 8)) (upd (σ.1 6) (11 * k + 8) (σ.1 6 (11 * k + 8) + nI m) (11 * l + 9)) (upd (σ.1 6) (11 * k + 8) (σ.1 6 (11 * k + 8) + nI m) (11 * l + 10)) (upd (σ.1 7) k (nI (m - m)) l)
    by_cases c : l = k
    · subst c
      rw [upd_s, upd_s, upd_n (by omega), upd_n (by omega), upd_n (by omega), Nat.sub_self]
      rw [g2] at q
      exact acq_down g1 q
    · rw [upd_n (by omega), upd_n (by omega), upd_n (by omega), upd_n (by omega), upd_n c]
      exact acq_mono q (by omega)
  · obtain ⟨m', q1, q2, q4, q5⟩ := hQ l hl
    by_cases c : l = k
    · subst c
      refine ⟨0, by omega, ?_, fun a b _ hb => absurd hb (Nat.not_lt_zero b), fun i hi => absurd hi (Nat.not_lt_zero i)⟩
      show upd (σ.1 7) l (nI (m - m)) l = _
      rw [upd_s, Nat.sub_self]
    · have xf : ∀ i, i < 12 → qF ((qJ (rput σ 1 (upd (σ.1 1) k 0)) k m m).1 8) l i = qF (σ.1 8) l i := fun i hi => xF_qJo g1 c hi
      refine ⟨m', q1, (upd_n c).trans q2, fun a b hab hb => ?_, fun i hi => ?_⟩
      · show Bf (qF ((qJ (rput σ 1 (upd (σ.1 1) k 0)) k m m).1 8) l a) (qF ((qJ (rput σ 1 (upd (σ.1 1) k 0)) k m m).1 8) l b)
        rw [xf a (by omega), xf b (by omega)]
        exact q4 a b hab hb
      · show OKF N (qF ((qJ (rput σ 1 (upd (σ.1 1) k 0)) k m m).1 8) l i)
        rw [xf i (by omega)]
        exact q5 i hi
  · show upd (σ.1 7) k (nI (m - m)) k = 0
    rw [upd_s, Nat.sub_self]
    rfl
theorem fe_cg {f g : Nat → Int32} : ∀ {k : Nat}, (∀ a, a < k → f a = g a) → fe f k = fe g k
  | 0, _ => rfl
  | k + 1, h => by
    unfold fe
    rw [h k (by omega), fe_cg (k := k) (fun a h1 => h a (by omega))]
theorem fe_upd {f : Nat → Int32} {a : Nat} {y : Int32} : ∀ {k : Nat}, a < k → fe (upd f a y) k + b4 (f a) = fe f k + b4 y
  | 0, h2 => absurd h2 (by omega)
  | k + 1, h2 => by
    unfold fe
    by_cases c : a = k
    · subst c
      rw [upd_s, fe_cg (f := upd f a y) (g := f) (k := a) (fun b hb => upd_n (by omega))]
      omega
    · rw [upd_n (by omega)]
      have ih := fe_upd (f := f) (a := a) (y := y) (k := k) (by omega)
      omega
theorem fe_le {f : Nat → Int32} : ∀ k, fe f k ≤ k
  | 0 => Nat.le_refl 0
  | k + 1 => by
    have := fe_le (f := f) k
    unfold fe b4
    by_cases c : f k = -4
    · rw [if_pos c]; omega
    · rw [if_neg c]; omega
def tieF (f : Nat → Int32) (k j : Nat) : Nat → Int32 := upd (upd f k (nI j)) j (nI k)
def cutF (f : Nat → Int32) (k j : Nat) : Nat → Int32 := upd (upd f k (-4)) j (-4)
theorem tie_k {σ : St} {k j : Nat} (hk : k < 8) (hj : j < 8) : pTie σ (nI k) (nI j) = rput σ 4 (tieF (σ.1 4) k j) := by
  unfold pTie
  rw [oPut_k hk (by decide), oPut_k hj (by decide), rput_rput]
  rfl
theorem cut_k {σ : St} {k j : Nat} (hk : k < 8) (hj : j < 8) : pUntie σ (nI k) (nI j) = rput σ 4 (cutF (σ.1 4) k j) := by
  unfold pUntie
  rw [oPut_k hk (by decide), oPut_k hj (by decide), rput_rput]
  rfl
theorem tie_fe {f : Nat → Int32} {k j : Nat} (hk : k < 8) (hj : j < 8) (hne : k ≠ j) (h1 : f k = -4) (h2 : f j = -4) : fe (tieF f k j) 8 = fe f 8 + 2 := by
  have e1 := fe_upd (f := f) (a := k) (y := nI j) (k := 8) hk
  have e2 := fe_upd (f := upd f k (nI j)) (a := j) (y := nI k) (k := 8) hj
  rw [upd_n (fun q => hne q.symm), h2, b4_0, b4_n (by omega)] at e2
  rw [h1, b4_0, b4_n (by omega)] at e1
  show fe (upd (upd f k (nI j)) j (nI k)) 8 = _
  omega
theorem cut_fe {f : Nat → Int32} {k j : Nat} (hk : k < 8) (hj : j < 8) (hne : k ≠ j) (h1 : ¬ f k = -4) (h2 : ¬ f j = -4) : fe (cutF f k j) 8 + 2 = fe f 8 := by
  have e1 := fe_upd (f := f) (a := k) (y := -4) (k := 8) hk
  have e2 := fe_upd (f := upd f k (-4)) (a := j) (y := -4) (k := 8) hj
  rw [upd_n (fun q => hne q.symm), b4_1 h2, b4_0] at e2
  rw [b4_1 h1, b4_0] at e1
  show fe (upd (upd f k (-4)) j (-4)) 8 + 2 = _
  omega
theorem tie_iv {C N K k j : Nat} {σ : St} (hk : k < 8) (hj : j < 8) (hne : k ≠ j) (f1 : σ.1 4 k = -4) (f2 : σ.1 4 j = -4) (h : IV C N K σ) : IV C N K (rput σ 4 (tieF (σ.1 4) k j)) := by
  obtain ⟨h1, h2, h3, h4, h5, h6, h7, h8, h9, hA, hQ, hT, hW⟩ := h
  refine ⟨h1, h2, h3, h4, h5, fun l hl => ?_, ?_, h8, h9, hA, hQ, hT, hW⟩
  · show tieF (σ.1 4) k j l = -4 ∨ ∃ i, i < 8 ∧ i ≠ l ∧ tieF (σ.1 4) k j l = nI i ∧ tieF (σ.1 4) k j i = nI l
    have ek : tieF (σ.1 4) k j k = nI j := (upd_n hne).trans upd_s
    have ej : tieF (σ.1 4) k j j = nI k := upd_s
    have eo : ∀ i, i ≠ k → i ≠ j → tieF (σ.1 4) k j i = σ.1 4 i := fun i q1 q2 => (upd_n q2).trans (upd_n q1)
    by_cases c1 : l = k
    · subst c1
      exact Or.inr ⟨j, hj, fun q => hne q.symm, ek, ej⟩
    · by_cases c2 : l = j
      · subst c2
        exact Or.inr ⟨k, hk, hne, ej, ek⟩
      · rw [eo l c1 c2]
        rcases h6 l hl with q | ⟨i, q1, q2, q3, q4⟩
        · exact Or.inl q
        · refine Or.inr ⟨i, q1, q2, q3, ?_⟩
          rw [eo i (fun e => ?_) (fun e => ?_)]
          · exact q4
          · subst e; exact n4' (by omega) (f1.symm.trans q4)
          · subst e; exact n4' (by omega) (f2.symm.trans q4)
  · show fe (tieF (σ.1 4) k j) 8 % 2 = 0
    rw [tie_fe hk hj hne f1 f2]
    have h7 : fe (σ.1 4) 8 % 2 = 0 := h7
    omega
theorem cut_iv {C N K k j : Nat} {σ : St} (hk : k < 8) (hj : j < 8) (hne : k ≠ j) (f1 : σ.1 4 k = nI j) (f2 : σ.1 4 j = nI k) (h : IV C N K σ) : IV C N K (rput σ 4 (cutF (σ.1 4) k j)) := by
  obtain ⟨h1, h2, h3, h4, h5, h6, h7, h8, h9, hA, hQ, hT, hW⟩ := h
  have ek : cutF (σ.1 4) k j k = -4 := (upd_n hne).trans upd_s
  have ej : cutF (σ.1 4) k j j = -4 := upd_s
  have eo : ∀ i, i ≠ k → i ≠ j → cutF (σ.1 4) k j i = σ.1 4 i := fun i q1 q2 => (upd_n q2).trans (upd_n q1)
  refine ⟨h1, h2, h3, h4, h5, fun l hl => ?_, ?_, h8, h9, hA, hQ, hT, hW⟩
  · show cutF (σ.1 4) k j l = -4 ∨ ∃ i, i < 8 ∧ i ≠ l ∧ cutF (σ.1 4) k j l = nI i ∧ cutF (σ.1 4) k j i = nI l
    by_cases c1 : l = k
    · subst c1; exact Or.inl ek
    · by_cases c2 : l = j
      · subst c2; exact Or.inl ej
      · rw [eo l c1 c2]
        rcases h6 l hl with q | ⟨i, q1, q2, q3, q4⟩
        · exact Or.inl q
        · refine Or.inr ⟨i, q1, q2, q3, ?_⟩
          rw [eo i (fun e => ?_) (fun e => ?_)]
          · exact q4
          · subst e; exact c2 ((nI_eq (by omega) (by omega)).mp (q4.symm.trans f1))
          · subst e; exact c1 ((nI_eq (by omega) (by omega)).mp (q4.symm.trans f2))
  · show fe (cutF (σ.1 4) k j) 8 % 2 = 0
    have := cut_fe (f := σ.1 4) hk hj hne (by rw [f1]; exact n4 (by omega)) (by rw [f2]; exact n4 (by omega))
    have h7 : fe (σ.1 4) 8 % 2 = 0 := h7
    omega
theorem rel_iv {C N K k : Nat} {σ : St} (hk : k < 8) (h : IV C N K σ) : IV C N K (pEnd σ (nI k)) ∧ (pEnd σ (nI k)).1 2 k = 0 := by
  unfold pEnd
  rw [oPut_k hk (by decide)]
  obtain ⟨h1, h2, h3, h4, h5, h6, h7, h8, h9, hA, hQ, hT, hW⟩ := h
  refine ⟨⟨h1, h2, h3, h4, fun j hj => ?_, h6, h7, h8, h9, hA, hQ, hT, hW⟩, upd_s⟩
  show ∃ L, L ≤ 600 ∧ upd (σ.1 2) k 0 j = nI L ∧ (L ≠ 0 → ∀ a, a < 100 → σ.1 9 a ≠ nI j)
  by_cases c : j = k
  · subst c; rw [upd_s]; exact ⟨0, by omega, rfl, fun q => absurd rfl q⟩
  · rw [upd_n c]; exact h5 j hj
theorem set_iv {C N K w v : Nat} {σ : St} (hw : w < 4) (h1 : 1 ≤ v) (h2 : v ≤ gst w) (h : IV C N K σ) : IV C N K (oPut 0 4 σ (nI w) (nI v)) ∧ (oPut 0 4 σ (nI w) (nI v)).1 0 w = nI v := by
  rw [oPut_k hw (by decide)]
  obtain ⟨a1, a2, a3, h4, h5, h6, h7, h8, h9, hA, hQ, hT, hW⟩ := h
  refine ⟨⟨a1, a2, fun j hj => ?_, h4, h5, h6, h7, h8, h9, hA, hQ, hT, hW⟩, upd_s⟩
  show ∃ n, 1 ≤ n ∧ n ≤ gst j ∧ upd (σ.1 0) w (nI v) j = nI n
  by_cases c : j = w
  · subst c; rw [upd_s]; exact ⟨v, h1, h2, rfl⟩
  · rw [upd_n c]; exact a3 j hj
theorem forget_iv {C N K a : Nat} {σ : St} (h1 : 1 ≤ a) (h2 : a < 100) (hf : ¬ σ.1 9 a = -4) (h : IV C N K σ) : IV C N K (tRemove σ (nI a)) ∧ (tRemove σ (nI a)).1 9 a = -4 := by
  rw [trem_k h2]
  obtain ⟨a1, a2, a3, h4, h5, h6, h7, h8, h9, hA, hQ, hT, hW⟩ := h
  refine ⟨⟨a1, a2, a3, h4, ivl_r h5 (fun b hb => ?_), h6, h7, h8, h9, hA, hQ, ivt_rem h1 h2 hf hT, hW⟩, upd_s⟩
  show upd (σ.1 9) a (-4) b = σ.1 9 b ∨ upd (σ.1 9) a (-4) b = -4
  by_cases c : b = a
  · subst c; rw [upd_s]; exact Or.inr rfl
  · rw [upd_n c]; exact Or.inl rfl
/-! the start -/
theorem rFill_at {n k : Nat} {f : Nat → Int32} {v : Int32} (hn : n < 1000000) (hk : k < n) : rFill n f (nI 0) (nI n) v k = v := by
  unfold rFill
  rw [fits_k (by omega) hn, if_neg (by decide), nI_add, nI_clamp (by omega), nI_clamp (by omega)]
  exact if_pos ⟨Nat.zero_le k, by omega⟩
theorem sI_n {r : Nat} (hr : r ≠ 0) : ∀ n, (sI n).1 r = sZ.1 r ∧ (sI n).2 = sZ.2
  | 0 => ⟨rfl, rfl⟩
  | n + 1 => ⟨(rput_ne hr).trans (sI_n hr n).1, (sI_n hr n).2⟩
theorem sI_0 : (sI 4).1 0 0 = 60 ∧ (sI 4).1 0 1 = 30 ∧ (sI 4).1 0 2 = 10 ∧ (sI 4).1 0 3 = 4 := by decide +kernel
theorem te_0 {f : Nat → Int32} (h : ∀ a, 1 ≤ a → a ≤ 99 → f a = -4) : ∀ k, k ≤ 99 → te f k = 0
  | 0, _ => rfl
  | k + 1, hk => by
    unfold te
    rw [te_0 h k (by omega), h (k + 1) (by omega) hk, b4_0]
theorem iv_0 : IV 0 0 0 (sI 4) := by
  have e2 : (sI 4).2 = fun _ => 0 := (sI_n (r := 1) (by decide) 4).2
  have z : ∀ r, r ≠ 0 → r ≠ 1 → r ≠ 4 → r ≠ 9 → r < 12 → (sI 4).1 r = fun _ => 0 := fun r h0 h1 h4 h9 hr => by
    rw [(sI_n h0 4).1]
    rcases (show r = 2 ∨ r = 3 ∨ r = 5 ∨ r = 6 ∨ r = 7 ∨ r = 8 ∨ r = 10 ∨ r = 11 by omega) with rfl | rfl | rfl | rfl | rfl | rfl | rfl | rfl <;> rfl
  have r1 : ∀ k, k < 8 → (sI 4).1 1 k = 1 := fun k hk => by
    rw [(sI_n (by decide) 4).1]
    show rFill 8 (fun _ => 0) (nI 0) (nI 8) 1 k = 1
    exact rFill_at (n := 8) (by decide) hk
  have r4 : ∀ k, k < 8 → (sI 4).1 4 k = -4 := fun k hk => by
    rw [(sI_n (by decide) 4).1]
    show rFill 8 (fun _ => 0) (nI 0) (nI 8) (-4) k = -4
    exact rFill_at (n := 8) (by decide) hk
  have r9 : ∀ k, k < 100 → (sI 4).1 9 k = -4 := fun k hk => by
    rw [(sI_n (by decide) 4).1]
    show rFill 100 (fun _ => 0) (nI 0) (nI 100) (-4) k = -4
    exact rFill_at (n := 100) (by decide) hk
  obtain ⟨a0, a1, a2, a3⟩ := sI_0
  have z2 := z 2 (by decide) (by decide) (by decide) (by decide) (by decide)
  have z5 := z 5 (by decide) (by decide) (by decide) (by decide) (by decide)
  have z6 := z 6 (by decide) (by decide) (by decide) (by decide) (by decide)
  have z7 := z 7 (by decide) (by decide) (by decide) (by decide) (by decide)
  have z10 := z 10 (by decide) (by decide) (by decide) (by decide) (by decide)
  have z11 := z 11 (by decide) (by decide) (by decide) (by decide) (by decide)
  have t99 : te ((sI 4).1 9) 99 = 0 := te_0 (fun a h1 h2 => r9 a (by omega)) 99 (Nat.le_refl 99)
  refine ⟨by rw [e2]; rfl, by rw [e2]; rfl, fun i hi => ?_, fun k hk => Or.inl (r1 k hk), fun k hk => ?_, fun k hk => Or.inl (r4 k hk), ?_, fun k hk => ?_, fun k hk => ?_, fun k hk => ?_, fun k hk => ?_, ⟨fun a ha => Or.inl (r9 a ha), r9 0 (by decide), fun a ha => ?_, ?_, by rw [t99]; decide⟩, fun j hj => ?_⟩
  · rcases (show i = 0 ∨ i = 1 ∨ i = 2 ∨ i = 3 by omega) with rfl | rfl | rfl | rfl
    · rw [a0]; exact ⟨60, by decide, by decide, rfl⟩
    · rw [a1]; exact ⟨30, by decide, by decide, rfl⟩
    · rw [a2]; exact ⟨10, by decide, by decide, rfl⟩
    · rw [a3]; exact ⟨4, by decide, by decide, rfl⟩
  · rw [z2]; exact ⟨0, by decide, rfl, fun q => absurd rfl q⟩
  · have : ∀ k, k ≤ 8 → fe ((sI 4).1 4) k = 0 := by
      intro k
      induction k with
      | zero => intro _; rfl
      | succ k ih =>
        intro hk
        unfold fe
        rw [ih (by omega), r4 k (by omega), b4_0]
    show fe ((sI 4).1 4) 8 % 2 = 0
    rw [this 8 (Nat.le_refl 8)]
  · rw [z5]; exact ⟨0, by decide, rfl⟩
  · rw [z6]; rfl
  · rw [z6, z7]; exact ⟨0, 0, 0, 0, 0, 0, rfl, Nat.le_refl 0, Nat.le_refl 0, by decide, Nat.le_refl 0, Nat.le_refl 0, rfl, rfl, rfl, rfl, rfl⟩
  · rw [z7]
    exact ⟨0, by decide, rfl, fun a b _ hb => absurd hb (Nat.not_lt_zero b), fun i hi => absurd hi (Nat.not_lt_zero i)⟩
  · rw [z10]; exact ⟨0, Nat.le_refl 0, rfl⟩
  · rw [e2, t99]; rfl
  · rw [z11]; exact ⟨0, Nat.le_refl 0, rfl⟩
