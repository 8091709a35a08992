/-! frames are sent: the State, and those on their way -/
theorem cx_iv {C N K k m j : Nat} {σ : St} {c : Nat → Int32} (hk : k < 8) (hm : m ≤ 12) (hj : j ≤ m) (e7 : σ.1 7 k = nI m) (h : IV C N K σ) (hs : IvS c) (ha : IvA K c (upd (σ.1 7) k (nI (m - j)))) : IV C N K (rput (qJ σ k m j) 6 c) := by
  obtain ⟨h1, h2, h3, h4, h5, h6, h7, h8, h9, hA, hQ, hT, hW⟩ := h
  refine ⟨h1, h2, h3, fun l hl => ?_, h5, h6, h7, h8, hs, ha, fun l hl => ?_, hT, hW⟩
  · show σ.1 1 l = 1 ∨ (σ.1 1 l = 0 ∧ upd (σ.1 7) k (nI (m - j)) l = 0)
    by_cases cl : l = k
    · subst cl
      rcases h4 l hl with q | ⟨q1, q2⟩
      · exact Or.inl q
      · rw [e7] at q2
        have : m = 0 := (nI_eq (b := 0) (by omega) (by decide)).mp q2
        rw [upd_s, show m - j = 0 by omega]
        exact Or.inr ⟨q1, rfl⟩
    · rw [upd_n cl]; exact h4 l hl
  · obtain ⟨m', g1, g2, g4, g5⟩ := hQ l hl
    by_cases cl : l = k
    · subst cl
      have em : m' = m := (nI_eq (by omega) (by omega)).mp (g2.symm.trans e7)
      subst em
      have xf : ∀ i, i < m' - j → qF ((qJ σ l m' j).1 8) l i = qF (σ.1 8) l (i + j) := fun i hi => xF_qJ hi
      refine ⟨m' - j, by omega, upd_s, fun a b hab hb => ?_, fun i hi => ?_⟩
      · show Bf (qF ((qJ σ l m' j).1 8) l a) (qF ((qJ σ l m' j).1 8) l b)
        rw [xf a (by omega), xf b hb]
        exact g4 (a + j) (b + j) (by omega) (by omega)
      · show OKF N (qF ((qJ σ l m' j).1 8) l i)
        rw [xf i hi]
        exact g5 (i + j) (by omega)
    · have xf : ∀ i, i < 12 → qF ((qJ σ k m j).1 8) l i = qF (σ.1 8) l i := fun i hi => xF_qJo hm cl hi
      refine ⟨m', g1, (upd_n cl).trans g2, fun a b hab hb => ?_, fun i hi => ?_⟩
      · show Bf (qF ((qJ σ k m j).1 8) l a) (qF ((qJ σ k m j).1 8) l b)
        rw [xf a (by omega), xf b (by omega)]
        exact g4 a b hab hb
      · show OKF N (qF ((qJ σ k m j).1 8) l i)
        rw [xf i (by omega)]
        exact g5 i hi
theorem cA_iv {C N K k m j : Nat} {σ : St} (hk : k < 8) (hm : m ≤ 12) (hj : j ≤ m) (e7 : σ.1 7 k = nI m) (h : IV C N K σ) : IV C N K (cA σ k m j) := by
  refine cx_iv hk hm hj e7 h (ivs_u (by decide) (by decide) h.2.2.2.2.2.2.2.2.1) fun l hl => ?_
  have q := h.2.2.2.2.2.2.2.2.2.1 l hl
  by_cases cl : l = k
  · subst cl
    rw [upd_s, upd_s, upd_n (by omega), upd_n (by omega), upd_n (by omega)]
    rw [e7] at q
    exact acq_send hm hj q
  · rw [upd_n (by omega), upd_n (by omega), upd_n (by omega), upd_n (by omega), upd_n cl]
    exact q
theorem cB_iv {C N K k m j : Nat} {σ : St} (hk : k < 8) (hm : m ≤ 12) (hj : j ≤ m) (e7 : σ.1 7 k = nI m) (h : IV C N K σ) : IV C N K (cB σ k m j) := by
  refine cx_iv hk hm hj e7 h (ivs_u (by decide) (by decide) (ivs_u (by decide) (by decide) h.2.2.2.2.2.2.2.2.1)) fun l hl => ?_
  have q := h.2.2.2.2.2.2.2.2.2.1 l hl
  by_cases cl : l = k
  · subst cl
    simp (disch := omega) only [upd_s, upd_n]
    rw [e7] at q
    exact acq_sendv hm hj q
  · simp (disch := omega) only [upd_n]
    exact q
def PO (x : Int32) : Prop := ∃ j : Nat, j < 8 ∧ x = nI j
def AO (A : Nat → Int32) (i : Nat) : Prop := PO (A (4 * i + 3)) ∧ AS (A (4 * i)) ∧ AD (A (4 * i + 1)) ∧ WH (A (4 * i + 2)) 4
/-- two systems with the same present State, and the same frames on their way -/
def SQ (C N K r : Nat) (S T : Sy) : Prop := T.1 0 = S.1 0 ∧ IV C N K (S.1 0) ∧ S.2.1 5 = nI r ∧ T.2.1 5 = nI r ∧ ∀ i, i < r → AO (S.2.2 1) i ∧ ∀ w, w < 4 → T.2.2 1 (4 * i + w) = S.2.2 1 (4 * i + w)
theorem app_sq {C N K r : Nat} {S T : Sy} {q s d pr : Int32} (hr : r < 96) (hq : PO q) (hs : AS s) (hd : AD d) (hp : WH pr 4) (h : SQ C N K r S T) : SQ C N K (r + 1) (xApp S q s d pr) (xApp T q s d pr) := by
  obtain ⟨h1, h2, h3, h4, h5⟩ := h
  refine ⟨by rw [app_1, app_1]; exact h1, by rw [app_1]; exact h2, app_5 hr h3, app_5 hr h4, fun i hi => ?_⟩
  rw [app_row hr h3, app_row hr h4]
  by_cases c : i = r
  · subst c
    refine ⟨?_, fun w hw => ?_⟩
    · unfold AO
      simp (disch := omega) only [upd_s, upd_n]
      exact ⟨hq, hs, hd, hp⟩
    · rcases (show w = 0 ∨ w = 1 ∨ w = 2 ∨ w = 3 by omega) with rfl | rfl | rfl | rfl
      · simp (disch := omega) only [Nat.add_zero, upd_s, upd_n]
      · simp (disch := omega) only [upd_s, upd_n]
      · simp (disch := omega) only [upd_s, upd_n]
      · simp (disch := omega) only [upd_s, upd_n]
  · obtain ⟨a1, a2⟩ := h5 i (by omega)
    refine ⟨?_, fun w hw => ?_⟩
    · unfold AO at *
      simp (disch := omega) only [upd_n]
      exact a1
    · simp (disch := omega) only [upd_n]
      exact a2 w hw
theorem sl_sq {C N K r k m : Nat} {S T : Sy} {q : Int32} (hk : k < 8) (hq : PO q) (hm : m ≤ 12) (e7 : (S.1 0).1 7 k = nI m) (h : SQ C N K r S T) : ∀ n, n ≤ m → r + n ≤ 96 → SQ C N K (r + n) (xSL S (nI k) q n) (xSL T (nI k) q n)
  | 0, _, _ => h
  | n + 1, hn, hr => by
    have ih := sl_sq hk hq hm e7 h n (by omega) (by omega)
    obtain ⟨m', g1, g2, g4, g5⟩ := h.2.1.2.2.2.2.2.2.2.2.2.2.1 k hk
    have em : m' = m := (nI_eq (by omega) (by omega)).mp (g2.symm.trans e7)
    subst em
    obtain ⟨o1, o2, o3, -⟩ := g5 n (by omega)
    have o1 : AS ((S.1 0).1 8 (48 * k + 4 * n)) := o1
    have o2 : AD ((S.1 0).1 8 (48 * k + 4 * n + 1)) := o2
    have o3 : WH ((S.1 0).1 8 (48 * k + 4 * n + 2)) 4 := o3
    have eq : ∀ w, w < 4 → qPart (S.1 0) (nI k) (nI n) (nI w) = (S.1 0).1 8 (48 * k + 4 * n + w) := fun w hw => qPart_k hk (by omega) hw
    have q0 : qPart (S.1 0) (nI k) (nI n) 0 = (S.1 0).1 8 (48 * k + 4 * n) := eq 0 (by decide)
    have q1 : qPart (S.1 0) (nI k) (nI n) 1 = (S.1 0).1 8 (48 * k + 4 * n + 1) := eq 1 (by decide)
    have q2 : qPart (S.1 0) (nI k) (nI n) 2 = (S.1 0).1 8 (48 * k + 4 * n + 2) := eq 2 (by decide)
    unfold xSL
    rw [sl_1, sl_1, h.1, q0, q1, q2]
    exact app_sq (r := r + n) (by omega) hq o1 o2 o3 ih
theorem fr_k {C N K k : Nat} {σ : St} (hk : k < 8) (h : IV C N K σ) : ∃ m f, m ≤ 12 ∧ f ≤ m ∧ σ.1 7 k = nI m ∧ fFrames σ (nI k) = nI f := by
  obtain ⟨m, g1, g2, -, -⟩ := h.2.2.2.2.2.2.2.2.2.2.1 k hk
  obtain ⟨n, n1, n2, n3⟩ := h.2.2.1 3 (by decide)
  have n2 : n ≤ 10 := n2
  unfold fFrames
  rw [oAt_k hk (by decide), show (3 : Int32) = nI 3 from rfl, oAt_k (by decide) (by decide), g2, n3]
  by_cases c : nI m < nI n
  · rw [if_pos c]; exact ⟨m, m, g1, Nat.le_refl m, rfl, rfl⟩
  · rw [if_neg c]
    refine ⟨m, n, g1, ?_, rfl, rfl⟩
    have : ¬ m < n := fun q => c ((nI_ltI (a := m) (b := n) (by omega) (by omega)).mpr q)
    omega
theorem xst_0 {S : Sy} {σ : St} : (xst S 0 σ).1 0 = σ := rfl
theorem xst_r {S : Sy} {i : Nat} {σ : St} : (xst S i σ).2 = S.2 := rfl
theorem sq_st {C N K r : Nat} {S T : Sy} {σ : St} (h : SQ C N K r S T) (hs : IV C N K σ) : SQ C N K r (xst S 0 σ) (xst T 0 σ) := by
  refine ⟨by rw [xst_0, xst_0], by rw [xst_0]; exact hs, h.2.2.1, h.2.2.2.1, h.2.2.2.2⟩
theorem send_k {C N K r k : Nat} {S T : Sy} (hk : k < 8) (hr : r + 12 ≤ 96) (h : SQ C N K r S T) : ∃ r', r' ≤ r + 12 ∧ (xSend T (nI k)).1 = (xSend S (nI k)).1 ∧ SQ C N K r' (xSend S (nI k)).2 (xSend T (nI k)).2 ∧ FS S (xSend S (nI k)).2 := by
  obtain ⟨m, f, hm, hf, e7, ef⟩ := fr_k hk h.2.1
  have e4 : pFar (S.1 0) (nI k) = (S.1 0).1 4 k := oAt_k hk (by decide)
  unfold xSend
  rw [h.1, ef, e4]
  dsimp only
  rcases h.2.1.2.2.2.2.2.1 k hk with c | ⟨j, hj, hne, c, -⟩
  · rw [c]
    have a1 : ∀ U : Sy, xS1 U (nI k) (-4) (nI f) = U := fun U => by
      unfold xS1 xSN
      rw [if_pos rfl]
      rfl
    rw [a1, a1]
    unfold xS3 xS2
    rw [if_pos rfl, if_pos rfl, xst_0, xst_0, h.1, cB_k hk hm hf e7]
    have a2 : ∀ (U : Sy) (x y : St), xst (xst U 0 x) 0 y = xst U 0 y := fun U x y => by
      unfold xst
      dsimp only
      congr 1
      funext i
      by_cases ci : i = 0
      · rw [if_pos ci, if_pos ci]
      · rw [if_neg ci, if_neg ci, if_neg ci]
    rw [a2, a2]
    exact ⟨r, by omega, rfl, sq_st h (cB_iv hk hm hf e7 h.2.1), fs_st⟩
  · have n4j : ¬ (S.1 0).1 4 k = -4 := by rw [c]; exact n4 (by omega)
    unfold xS1 xSN xS3 xS2
    rw [if_neg n4j, if_neg n4j, if_neg n4j, nI_clamp (by omega), sl_1, sl_1, h.1, cA_k hk hm hf e7]
    have s1 := sl_sq (q := (S.1 0).1 4 k) hk ⟨j, hj, c⟩ hm e7 h f hf (by omega)
    exact ⟨r + f, by omega, rfl, sq_st s1 (cA_iv hk hm hf e7 h.2.1), fs_t (sl_fs f) fs_st⟩
theorem fs_sc5 {S : Sy} {v : Int32} : FS S (xsc S 5 v) := ⟨fun _ _ => rfl, fun i h5 _ => if_neg h5, rfl⟩
theorem sendK_k {C N K : Nat} {S T : Sy} (hT : T.1 0 = S.1 0) (h : IV C N K (S.1 0)) : ∀ n, n ≤ 8 → ∃ r, r ≤ 12 * n ∧ (xSendK T n).1 = (xSendK S n).1 ∧ SQ C N K r (xSendK S n).2 (xSendK T n).2 ∧ FS S (xSendK S n).2
  | 0, _ => ⟨0, Nat.le_refl _, rfl, ⟨hT, h, sc_at _ _ _, sc_at _ _ _, fun i hi => absurd hi (Nat.not_lt_zero i)⟩, fs_sc5⟩
  | n + 1, hn => by
    obtain ⟨r, r1, r2, r3, r4⟩ := sendK_k hT h n (by omega)
    unfold xSendK
    rw [r3.1]
    by_cases c : pOpen ((xSendK S n).2.1 0) (nI n) = 0
    · rw [if_pos c, if_pos c]
      exact ⟨r, by omega, r2, r3, r4⟩
    · rw [if_neg c, if_neg c]
      obtain ⟨r', q1, q2, q3, q4⟩ := send_k (k := n) (by omega) (by omega) r3
      refine ⟨r', by omega, ?_, q3, fs_t r4 q4⟩
      show (xSendK T n).1 + (xSend (xSendK T n).2 (nI n)).1 = (xSendK S n).1 + (xSend (xSendK S n).2 (nI n)).1
      rw [r2, q2]
theorem part_k {S : Sy} {i w : Nat} (hi : i < 96) (hw : w < 4) : xPart S (nI i) (nI w) = S.2.2 1 (4 * i + w) := by
  unfold xPart rAt
  rw [show (4 : Int32) = nI 4 from rfl, pk_mul, nI_add, if_neg (nI_pos (by omega)), if_pos (nI_lt (by omega) (by decide)), nI_clamp (by omega), Nat.mul_comm i 4]
theorem let_k {C N K r : Nat} {S T : Sy} (hC : C < 2147483648) (hN : N + 1000 < 2147483648) (hr : r ≤ 96) (h : SQ C N K r S T) : ∀ n, n ≤ r → xLet T n = xLet S n ∧ ∃ N', N' ≤ N + 8 * n ∧ IV C N' (K + 9 * n) (xLet S n).2
  | 0, _ => ⟨by unfold xLet; rw [h.1], N, Nat.le_refl _, h.2.1⟩
  | n + 1, hn => by
    obtain ⟨e, N', n1, i1⟩ := let_k hC hN hr h n (by omega)
    obtain ⟨⟨⟨j, hj, p3⟩, ⟨a, a1, a2, p0⟩, ⟨b, hb, p1⟩, hp⟩, hw⟩ := h.2.2.2.2 n (by omega)
    have x0 : xPart S (nI n) 0 = nI a := (part_k (w := 0) (by omega) (by decide)).trans p0
    have x1 : xPart S (nI n) 1 = nI b := (part_k (w := 1) (by omega) (by decide)).trans p1
    have x2 : xPart S (nI n) 2 = S.2.2 1 (4 * n + 2) := part_k (w := 2) (by omega) (by decide)
    have x3 : xPart S (nI n) 3 = nI j := (part_k (w := 3) (by omega) (by decide)).trans p3
    have y0 : xPart T (nI n) 0 = nI a := (part_k (w := 0) (by omega) (by decide)).trans ((hw 0 (by decide)).trans p0)
    have y1 : xPart T (nI n) 1 = nI b := (part_k (w := 1) (by omega) (by decide)).trans ((hw 1 (by decide)).trans p1)
    have y2 : xPart T (nI n) 2 = S.2.2 1 (4 * n + 2) := (part_k (w := 2) (by omega) (by decide)).trans (hw 2 (by decide))
    have y3 : xPart T (nI n) 3 = nI j := (part_k (w := 3) (by omega) (by decide)).trans ((hw 3 (by decide)).trans p3)
    unfold xLet
    rw [e, x0, x1, x2, x3, y0, y1, y2, y3]
    refine ⟨rfl, ?_⟩
    obtain ⟨-, -, -, -, -, -, -, -, ⟨N2, q1, q2⟩, -, -⟩ := come_k hC (by omega) hj a1 a2 hb hp i1
    exact ⟨N2, by omega, q2.mono (by omega)⟩
