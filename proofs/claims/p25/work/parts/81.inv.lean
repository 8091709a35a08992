/-! what holds of every State that a run reaches, row by row -/
def nle (K : Nat) (x : Int32) : Prop := ∃ n, n ≤ K ∧ x = nI n
def IvG (g : Nat → Int32) : Prop := ∀ i, i < 4 → ∃ n, 1 ≤ n ∧ n ≤ gst i ∧ g i = nI n
def IvU (u s : Nat → Int32) : Prop := ∀ k, k < 8 → u k = 1 ∨ (u k = 0 ∧ s k = 0)
def IvL (l t : Nat → Int32) : Prop := ∀ k, k < 8 → ∃ L, L ≤ 600 ∧ l k = nI L ∧ (L ≠ 0 → ∀ a, a < 100 → t a ≠ nI k)
def IvF (f : Nat → Int32) : Prop := ∀ k, k < 8 → f k = -4 ∨ ∃ j, j < 8 ∧ j ≠ k ∧ f k = nI j ∧ f j = nI k
def b4 (x : Int32) : Nat := if x = -4 then 0 else 1
def fe (f : Nat → Int32) : Nat → Nat
  | 0 => 0
  | k + 1 => fe f k + b4 (f k)
def IvE (f : Nat → Int32) : Prop := fe f 8 % 2 = 0
def IvO (o : Nat → Int32) : Prop := ∀ k, k < 8 → nle 50 (o k)
def s6 (a b c d e f : Int32) : Int32 := 0 + a + b + c + d + e + f
def IvS (c : Nat → Int32) : Prop := ∀ k, k < 8 → c (11 * k) = s6 (c (11 * k + 1)) (c (11 * k + 2)) (c (11 * k + 3)) (c (11 * k + 4)) (c (11 * k + 5)) (c (11 * k + 6))
def acq (K : Nat) (put drop sent del size : Int32) : Prop := ∃ p d s v m g, p = s + m + g ∧ g ≤ d ∧ v ≤ s ∧ m ≤ 12 ∧ p ≤ K ∧ d ≤ K ∧ put = nI p ∧ drop = nI d ∧ sent = nI s ∧ del = nI v ∧ size = nI m
def IvA (K : Nat) (c s : Nat → Int32) : Prop := ∀ k, k < 8 → acq K (c (11 * k + 7)) (c (11 * k + 8)) (c (11 * k + 9)) (c (11 * k + 10)) (s k)
def qF (q : Nat → Int32) (k i : Nat) : Fr := (q (48 * k + 4 * i), q (48 * k + 4 * i + 1), q (48 * k + 4 * i + 2), q (48 * k + 4 * i + 3))
def IvQ (N : Nat) (s q : Nat → Int32) : Prop := ∀ k, k < 8 → ∃ m, m ≤ 12 ∧ s k = nI m ∧ Srt (qF q k) m ∧ ∀ i, i < m → OKF N (qF q k i)
def te (t : Nat → Int32) : Nat → Nat
  | 0 => 0
  | k + 1 => te t k + b4 (t (k + 1))
def IvT (C : Nat) (t x : Nat → Int32) (z : Int32) : Prop := (∀ a, a < 100 → t a = -4 ∨ ∃ j, j < 8 ∧ t a = nI j) ∧ t 0 = -4 ∧ (∀ a, a < 100 → nle C (x a)) ∧ z = nI (te t 99) ∧ te t 99 ≤ 20
def IvW (K : Nat) (v : Nat → Int32) : Prop := ∀ j, j < 1000 → nle K (v j)
def IV (C N K : Nat) (σ : St) : Prop := σ.2 0 = nI C ∧ σ.2 1 = nI N ∧ IvG (σ.1 0) ∧ IvU (σ.1 1) (σ.1 7) ∧ IvL (σ.1 2) (σ.1 9) ∧ IvF (σ.1 4) ∧ IvE (σ.1 4) ∧ IvO (σ.1 5) ∧ IvS (σ.1 6) ∧ IvA K (σ.1 6) (σ.1 7) ∧ IvQ N (σ.1 7) (σ.1 8) ∧ IvT C (σ.1 9) (σ.1 10) (σ.2 3) ∧ IvW K (σ.1 11)
def IM (M : Nat) (σ : St) : Prop := ∃ C N K, C ≤ M ∧ N ≤ M ∧ K ≤ M ∧ IV C N K σ
theorem nle_mono {K K' : Nat} {x : Int32} (h : nle K x) (hK : K ≤ K') : nle K' x := by
  obtain ⟨n, h1, h2⟩ := h
  exact ⟨n, Nat.le_trans h1 hK, h2⟩
theorem n4 {n : Nat} (h : n < 2147483648) : ¬ nI n = (-4 : Int32) := fun q => absurd (by rw [q]; decide) (nI_pos (n := n) h)
theorem n4' {n : Nat} (h : n < 2147483648) : ¬ (-4 : Int32) = nI n := fun q => n4 h q.symm
theorem acq_mono {K K' : Nat} {a b c d e : Int32} (h : acq K a b c d e) (hK : K ≤ K') : acq K' a b c d e := by
  obtain ⟨p, d, s, v, m, g, h1, h2, h3, h4, h5, h6, h7⟩ := h
  exact ⟨p, d, s, v, m, g, h1, h2, h3, h4, Nat.le_trans h5 hK, Nat.le_trans h6 hK, h7⟩
theorem okf_mono {N N' : Nat} {x : Fr} (h : OKF N x) (hN : N ≤ N') : OKF N' x := by
  obtain ⟨q1, q2, q3, n, q4, q5⟩ := h
  exact ⟨q1, q2, q3, n, Nat.lt_of_lt_of_le q4 hN, q5⟩
theorem IvQ.mono {N N' : Nat} {s q : Nat → Int32} (h : IvQ N s q) (hN : N ≤ N') : IvQ N' s q := fun k hk => by
  obtain ⟨m, h1, h2, h3, h4⟩ := h k hk
  exact ⟨m, h1, h2, h3, fun i hi => okf_mono (h4 i hi) hN⟩
theorem IvT.mono {C C' : Nat} {t x : Nat → Int32} {z : Int32} (h : IvT C t x z) (hC : C ≤ C') : IvT C' t x z := ⟨h.1, h.2.1, fun a ha => nle_mono (h.2.2.1 a ha) hC, h.2.2.2⟩
theorem IV.mono {C N K K' : Nat} {σ : St} (h : IV C N K σ) (hK : K ≤ K') : IV C N K' σ := by
  obtain ⟨h1, h2, h3, h4, h5, h6, h7, h8, h9, hA, hQ, hT, hW⟩ := h
  exact ⟨h1, h2, h3, h4, h5, h6, h7, h8, h9, fun k hk => acq_mono (hA k hk) hK, hQ, hT, fun j hj => nle_mono (hW j hj) hK⟩
theorem IM.mono {M M' : Nat} {σ : St} (h : IM M σ) (hM : M ≤ M') : IM M' σ := by
  obtain ⟨C, N, K, h1, h2, h3, h4⟩ := h
  exact ⟨C, N, K, Nat.le_trans h1 hM, Nat.le_trans h2 hM, Nat.le_trans h3 hM, h4⟩
-- the table
theorem te_cg {f g : Nat → Int32} : ∀ {k : Nat}, (∀ a, 1 ≤ a → a ≤ k → f a = g a) → te f k = te g k
  | 0, _ => rfl
  | k + 1, h => by
    unfold te
    rw [h (k + 1) (by omega) (by omega), te_cg (k := k) (fun a h1 h2 => h a h1 (by omega))]
theorem te_upd {f : Nat → Int32} {a : Nat} {y : Int32} : ∀ {k : Nat}, 1 ≤ a → a ≤ k → te (upd f a y) k + b4 (f a) = te f k + b4 y
  | 0, h1, h2 => absurd h1 (by omega)
  | k + 1, h1, h2 => by
    unfold te
    by_cases c : a = k + 1
    · subst c
      rw [upd_s, te_cg (f := upd f (k + 1) y) (g := f) (k := k) (fun b _ _ => upd_n (by omega))]
      omega
    · rw [upd_n (by omega)]
      have ih := te_upd (f := f) (a := a) (y := y) (k := k) h1 (by omega)
      omega
theorem b4_0 : b4 (-4) = 0 := if_pos rfl
theorem b4_1 {x : Int32} (h : ¬ x = -4) : b4 x = 1 := if_neg h
theorem b4_n {n : Nat} (h : n < 2147483648) : b4 (nI n) = 1 := b4_1 (n4 h)
theorem ivt_rem {C a : Nat} {t x : Nat → Int32} {z : Int32} (h1 : 1 ≤ a) (h2 : a < 100) (hf : ¬ t a = -4) (h : IvT C t x z) : IvT C (upd t a (-4)) x (z - 1) := by
  obtain ⟨t1, t2, t3, t4, t5⟩ := h
  have e := te_upd (f := t) (a := a) (y := -4) (k := 99) h1 (by omega)
  rw [b4_0, b4_1 hf] at e
  refine ⟨fun b hb => ?_, ?_, t3, ?_, by omega⟩
  · by_cases c : b = a
    · subst c; rw [upd_s]; exact Or.inl rfl
    · rw [upd_n c]; exact t1 b hb
  · rw [upd_n (by omega)]; exact t2
  · rw [t4, show te t 99 = te (upd t a (-4)) 99 + 1 by omega]
    exact nI_pred _
theorem ivt_x {C a : Nat} {t x : Nat → Int32} {z : Int32} (h : IvT C t x z) : IvT C t (upd x a (nI C)) z := by
  obtain ⟨t1, t2, t3, t4, t5⟩ := h
  refine ⟨t1, t2, fun b hb => ?_, t4, t5⟩
  by_cases c : b = a
  · subst c; rw [upd_s]; exact ⟨C, Nat.le_refl C, rfl⟩
  · rw [upd_n c]; exact t3 b hb
theorem ivt_old {C a k : Nat} {t x : Nat → Int32} {z : Int32} (h1 : 1 ≤ a) (h2 : a < 100) (hk : k < 8) (hf : ¬ t a = -4) (h : IvT C t x z) : IvT C (upd t a (nI k)) x z := by
  obtain ⟨t1, t2, t3, t4, t5⟩ := h
  have e := te_upd (f := t) (a := a) (y := nI k) (k := 99) h1 (by omega)
  rw [b4_n (by omega), b4_1 hf] at e
  refine ⟨fun b hb => ?_, ?_, t3, ?_, by omega⟩
  · by_cases c : b = a
    · subst c; rw [upd_s]; exact Or.inr ⟨k, hk, rfl⟩
    · rw [upd_n c]; exact t1 b hb
  · rw [upd_n (by omega)]; exact t2
  · rw [t4, show te (upd t a (nI k)) 99 = te t 99 by omega]
theorem ivt_new {C a k : Nat} {t x : Nat → Int32} {z : Int32} (h1 : 1 ≤ a) (h2 : a < 100) (hk : k < 8) (hf : t a = -4) (ht : te t 99 < 20) (h : IvT C t x z) : IvT C (upd t a (nI k)) x (z + 1) := by
  obtain ⟨t1, t2, t3, t4, t5⟩ := h
  have e := te_upd (f := t) (a := a) (y := nI k) (k := 99) h1 (by omega)
  rw [b4_n (by omega), hf, b4_0] at e
  refine ⟨fun b hb => ?_, ?_, t3, ?_, by omega⟩
  · by_cases c : b = a
    · subst c; rw [upd_s]; exact Or.inr ⟨k, hk, rfl⟩
    · rw [upd_n c]; exact t1 b hb
  · rw [upd_n (by omega)]; exact t2
  · rw [t4, ← nI_succ, show te (upd t a (nI k)) 99 = te t 99 + 1 by omega]
theorem ivl_t {l t t' : Nat → Int32} {k : Nat} (hk : k < 8) (h0 : l k = 0) (h : IvL l t) (ht : ∀ a, a < 100 → t' a = t a ∨ t' a = -4 ∨ t' a = nI k) : IvL l t' := fun j hj => by
  obtain ⟨L, h1, h2, h3⟩ := h j hj
  refine ⟨L, h1, h2, fun hL a ha q => ?_⟩
  rcases ht a ha with e | e | e
  · exact h3 hL a ha (e.symm.trans q)
  · exact n4' (by omega) (e.symm.trans q)
  · have e2 : k = j := (nI_eq (by omega) (by omega)).mp (e.symm.trans q)
    subst e2
    exact hL ((nI_eq (b := 0) (by omega) (by decide)).mp (h2.symm.trans h0))
theorem ivl_r {l t t' : Nat → Int32} (h : IvL l t) (ht : ∀ a, a < 100 → t' a = t a ∨ t' a = -4) : IvL l t' := fun j hj => by
  obtain ⟨L, h1, h2, h3⟩ := h j hj
  refine ⟨L, h1, h2, fun hL a ha q => ?_⟩
  rcases ht a ha with e | e
  · exact h3 hL a ha (e.symm.trans q)
  · exact n4' (by omega) (e.symm.trans q)
theorem trem_k {σ : St} {a : Nat} (h2 : a < 100) : tRemove σ (nI a) = sput (rput σ 9 (upd (σ.1 9) a (-4))) 3 (σ.2 3 - 1) := by
  unfold tRemove
  rw [oPut_k h2 (by decide)]
/-- the oldest entry is one -/
theorem old_k {σ : St} : ∀ j, j ≤ 99 → (tOldest σ j = 0 ∧ te (σ.1 9) j = 0) ∨ ∃ a, 1 ≤ a ∧ a ≤ j ∧ tOldest σ j = nI a ∧ ¬ σ.1 9 a = -4
  | 0, _ => Or.inl ⟨rfl, rfl⟩
  | j + 1, hj => by
    unfold tOldest te
    rw [oAt_k (by omega) (by decide)]
    by_cases c : σ.1 9 (j + 1) = -4
    · rw [if_pos c, c, b4_0]
      rcases old_k (σ := σ) j (by omega) with ⟨q1, q2⟩ | ⟨a, q1, q2, q3⟩
      · exact Or.inl ⟨q1, by omega⟩
      · exact Or.inr ⟨a, q1, by omega, q3⟩
    · rw [if_neg c]
      refine Or.inr ?_
      rcases old_k (σ := σ) j (by omega) with ⟨q1, q2⟩ | ⟨a, q1, q2, q3, q4⟩
      · rw [if_pos q1]
        exact ⟨j + 1, by omega, Nat.le_refl _, rfl, c⟩
      · rw [q3, if_neg (nI_ne0 (by omega) (by omega))]
        by_cases c2 : oAt 10 100 σ (nI (j + 1)) < oAt 10 100 σ (nI a)
        · rw [if_pos c2]
          exact ⟨j + 1, by omega, Nat.le_refl _, rfl, c⟩
        · rw [if_neg c2]
          exact ⟨a, q1, by omega, rfl, q4⟩
def tabS (σ : St) (t x : Nat → Int32) (z : Int32) : St := sput (rput (rput σ 9 t) 10 x) 3 z
theorem sput_sput {σ : St} {j : Nat} {v w : Int32} : sput (sput σ j v) j w = sput σ j w := by
  unfold sput
  congr 1
  funext i
  dsimp only
  by_cases c : i = j
  · rw [if_pos c, if_pos c]
  · rw [if_neg c, if_neg c, if_neg c]
theorem sput_rput {σ : St} {j r : Nat} {v : Int32} {f : Nat → Int32} : rput (sput σ j v) r f = sput (rput σ r f) j v := rfl
theorem ln_k {σ : St} {C a k : Nat} (h1 : 1 ≤ a) (h2 : a < 100) (hk : k < 8) (hl0 : σ.1 2 k = 0) (hT : IvT C (σ.1 9) (σ.1 10) (σ.2 3)) (hL : IvL (σ.1 2) (σ.1 9)) :
    ∃ t x z, tLearn σ (nI a) (nI k) (nI C) = tabS σ t x z ∧ IvT C t x z ∧ IvL (σ.1 2) t ∧ t a = nI k := by
  unfold tLearn
  rw [oAt_k h2 (by decide)]
  by_cases c : σ.1 9 a = -4
  · rw [if_pos c]
    unfold tRoom
    have hz := hT.2.2.2.1
    have hle := hT.2.2.2.2
    by_cases c2 : te (σ.1 9) 99 = 20
    · rcases old_k (σ := σ) 99 (by decide) with ⟨_, q3⟩ | ⟨b, q1, q2, q3, q5⟩
      · omega
      · have hne : a ≠ b := fun q => q5 (q ▸ c)
        rw [if_neg (by rw [hz, c2]; decide), q3, trem_k (by omega)]
        have T1 := ivt_rem (a := b) q1 (by omega) q5 hT
        have e := te_upd (f := σ.1 9) (a := b) (y := -4) (k := 99) q1 (by omega)
        rw [b4_0, b4_1 q5] at e
        have T2 := ivt_x (a := a) (ivt_new (k := k) h1 h2 hk (by rw [upd_n hne]; exact c) (by omega) T1)
        refine ⟨upd (upd (σ.1 9) b (-4)) a (nI k), upd (σ.1 10) a (nI C), σ.2 3 - 1 + 1, ?_, T2, ?_, upd_s⟩
        · rw [oPut_k h2 (by decide), oPut_k h2 (by decide)]
          show rput (rput (sput (sput (rput σ 9 (upd (σ.1 9) b (-4))) 3 (σ.2 3 - 1)) 3 (σ.2 3 - 1 + 1)) 9 _) 10 _ = _
          rw [sput_sput, sput_rput, sput_rput, rput_rput]
          rfl
        · refine ivl_t hk hl0 hL fun b' hb' => ?_
          by_cases e1 : b' = a
          · subst e1; rw [upd_s]; exact Or.inr (Or.inr rfl)
          · rw [upd_n e1]
            by_cases e2 : b' = b
            · subst e2; rw [upd_s]; exact Or.inr (Or.inl rfl)
            · rw [upd_n e2]; exact Or.inl rfl
    · rw [if_pos (by rw [hz]; exact nlt_lit (b := 20) (by omega) (by decide))]
      refine ⟨upd (σ.1 9) a (nI k), upd (σ.1 10) a (nI C), σ.2 3 + 1, ?_, ivt_x (a := a) (ivt_new h1 h2 hk c (by omega) hT), ?_, upd_s⟩
      · rw [oPut_k h2 (by decide), oPut_k h2 (by decide), sput_rput, sput_rput]
        rfl
      · refine ivl_t hk hl0 hL fun b' hb' => ?_
        by_cases e1 : b' = a
        · subst e1; rw [upd_s]; exact Or.inr (Or.inr rfl)
        · rw [upd_n e1]; exact Or.inl rfl
  · rw [if_neg c]
    refine ⟨upd (σ.1 9) a (nI k), upd (σ.1 10) a (nI C), σ.2 3, ?_, ivt_x (a := a) (ivt_old h1 h2 hk c hT), ?_, upd_s⟩
    · rw [oPut_k h2 (by decide), oPut_k h2 (by decide)]
      unfold tabS
      exact (sput_self (σ := rput (rput σ 9 (upd (σ.1 9) a (nI k))) 10 (upd (σ.1 10) a (nI C))) (j := 3) rfl).symm
    · refine ivl_t hk hl0 hL fun b' hb' => ?_
      by_cases e1 : b' = a
      · subst e1; rw [upd_s]; exact Or.inr (Or.inr rfl)
      · rw [upd_n e1]; exact Or.inl rfl
/-- all entries of a port -/
theorem remAll_k {σ : St} {C k : Nat} (hk : k < 8) (hT : IvT C (σ.1 9) (σ.1 10) (σ.2 3)) : ∀ n, n ≤ 99 → ∃ t z, tRemAll σ (nI k) n = sput (rput σ 9 t) 3 z ∧ IvT C t (σ.1 10) z ∧ (∀ a, a < 100 → (t a = σ.1 9 a ∧ ¬ (1 ≤ a ∧ a ≤ n ∧ σ.1 9 a = nI k)) ∨ t a = -4)
  | 0, _ => ⟨σ.1 9, σ.2 3, by rw [rput_self]; exact (sput_self rfl).symm, hT, fun a ha => Or.inl ⟨rfl, fun q => by omega⟩⟩
  | n + 1, hn => by
    obtain ⟨t, z, e, T1, ha⟩ := remAll_k hk hT n (by omega)
    unfold tRemAll
    rw [e, oAt_k (by omega) (by decide)]
    have e9 : (sput (rput σ 9 t) 3 z).1 9 = t := rfl
    rw [e9]
    by_cases c : t (n + 1) = nI k
    · rw [if_pos c, trem_k (by omega)]
      refine ⟨upd t (n + 1) (-4), z - 1, ?_, ivt_rem (by omega) (by omega) (by rw [c]; exact n4 (by omega)) T1, fun a h => ?_⟩
      · show sput (rput (sput (rput σ 9 t) 3 z) 9 _) 3 (z - 1) = _
        rw [sput_rput, sput_sput, rput_rput]
        rfl
      · by_cases c1 : a = n + 1
        · subst c1; rw [upd_s]; exact Or.inr rfl
        · rw [upd_n c1]
          rcases ha a h with ⟨q1, q2⟩ | q
          · exact Or.inl ⟨q1, fun q => q2 ⟨q.1, by omega, q.2.2⟩⟩
          · exact Or.inr q
    · rw [if_neg c]
      refine ⟨t, z, rfl, T1, fun a h => ?_⟩
      rcases ha a h with ⟨q1, q2⟩ | q
      · refine Or.inl ⟨q1, fun q => ?_⟩
        by_cases c1 : a = n + 1
        · subst c1; exact c (q1.trans q.2.2)
        · exact q2 ⟨q.1, by omega, q.2.2⟩
      · exact Or.inr q
def quS (σ : St) (k : Nat) (why : Int32) (t : Nat → Int32) (z : Int32) : St := sput (sput (rput (rput (rput σ 2 (upd (σ.1 2) k (σ.1 0 1))) 3 (upd (σ.1 3) k why)) 9 t) 3 z) 2 (σ.2 2 + 1)
theorem quar_k {σ : St} {C k : Nat} {why : Int32} (hk : k < 8) (hT : IvT C (σ.1 9) (σ.1 10) (σ.2 3)) (hL : IvL (σ.1 2) (σ.1 9)) (hG : IvG (σ.1 0)) : ∃ t z, sQuar σ (nI k) why = quS σ k why t z ∧ IvT C t (σ.1 10) z ∧ IvL (upd (σ.1 2) k (σ.1 0 1)) t ∧ ∀ a, a < 100 → t a ≠ nI k := by
  obtain ⟨t, z, e, T1, ha⟩ := remAll_k (σ := rput (rput σ 2 (upd (σ.1 2) k (σ.1 0 1))) 3 (upd (σ.1 3) k why)) hk hT 99 (Nat.le_refl 99)
  have hn : ∀ a, a < 100 → t a ≠ nI k := fun a h q => by
    rcases ha a h with ⟨q1, q2⟩ | q1
    · by_cases c : a = 0
      · subst c; exact n4' (by omega) (T1.2.1.symm.trans q)
      · exact q2 ⟨by omega, by omega, q1.symm.trans q⟩
    · exact n4' (by omega) (q1.symm.trans q)
  refine ⟨t, z, ?_, T1, fun j hj => ?_, hn⟩
  · have e1 : pBegin σ (nI k) (oAt 0 4 σ 1) why = rput (rput σ 2 (upd (σ.1 2) k (σ.1 0 1))) 3 (upd (σ.1 3) k why) := by
      unfold pBegin
      rw [show (1 : Int32) = nI 1 from rfl, oAt_k (by decide) (by decide), oPut_k hk (by decide), oPut_k hk (by decide)]
      rfl
    unfold sQuar
    rw [e1, e]
    rfl
  · by_cases c : j = k
    · subst c
      rw [upd_s]
      obtain ⟨n, g1, g2, g3⟩ := hG 1 (by decide)
      exact ⟨n, g2, g3, fun _ => hn⟩
    · rw [upd_n c]
      obtain ⟨L, h1, h2, h3⟩ := hL j hj
      refine ⟨L, h1, h2, fun hL' a h q => ?_⟩
      rcases ha a h with ⟨q1, q2⟩ | q1
      · exact h3 hL' a h (q1.symm.trans q)
      · exact n4' (by omega) (q1.symm.trans q)
