/-! frames go out; a frame that comes in, whole -/
theorem acq_drop {K m : Nat} {p d s v : Int32} (h : acq K p d s v (nI m)) : acq (K + 1) p (d + 1) s v (nI m) := by
  obtain ⟨p', d', s', v', m', g, h1, h2, h3, h4, h5, h6, e1, e2, e3, e4, e5⟩ := h
  exact ⟨p', d' + 1, s', v', m', g, h1, by omega, h3, h4, by omega, by omega, e1, by rw [e2, nI_succ], e3, e4, e5⟩
theorem acq_put {K m : Nat} {p d s v : Int32} (hm : m < 12) (h : acq K p d s v (nI m)) : acq (K + 1) (p + 1) d s v (nI (m + 1)) := by
  obtain ⟨p', d', s', v', m', g, h1, h2, h3, h4, h5, h6, e1, e2, e3, e4, e5⟩ := h
  have e : m = m' := (nI_eq (by omega) (by omega)).mp e5
  subst e
  exact ⟨p' + 1, d', s', v', m + 1, g, by omega, h2, h3, by omega, by omega, by omega, by rw [e1, nI_succ], e2, e3, e4, rfl⟩
theorem acq_send {K m f : Nat} {p d s v : Int32} (hm : m ≤ 12) (hf : f ≤ m) (h : acq K p d s v (nI m)) : acq K p d (s + nI f) v (nI (m - f)) := by
  obtain ⟨p', d', s', v', m', g, h1, h2, h3, h4, h5, h6, e1, e2, e3, e4, e5⟩ := h
  have e : m = m' := (nI_eq (by omega) (by omega)).mp e5
  subst e
  exact ⟨p', d', s' + f, v', m - f, g, by omega, h2, by omega, by omega, h5, h6, e1, e2, by rw [e3, nI_add], e4, rfl⟩
theorem acq_sendv {K m f : Nat} {p d s v : Int32} (hm : m ≤ 12) (hf : f ≤ m) (h : acq K p d s v (nI m)) : acq K p d (s + nI f) (v + nI f) (nI (m - f)) := by
  obtain ⟨p', d', s', v', m', g, h1, h2, h3, h4, h5, h6, e1, e2, e3, e4, e5⟩ := h
  have e : m = m' := (nI_eq (by omega) (by omega)).mp e5
  subst e
  exact ⟨p', d', s' + f, v' + f, m - f, g, by omega, h2, by omega, by omega, h5, h6, e1, e2, by rw [e3, nI_add], by rw [e4, nI_add], rfl⟩
theorem acq_down {K m : Nat} {p d s v : Int32} (hm : m ≤ 12) (h : acq K p d s v (nI m)) : acq (K + 12) p (d + nI m) s v (nI 0) := by
  obtain ⟨p', d', s', v', m', g, h1, h2, h3, h4, h5, h6, e1, e2, e3, e4, e5⟩ := h
  have e : m = m' := (nI_eq (by omega) (by omega)).mp e5
  subst e
  exact ⟨p', d' + m, s', v', 0, g + m, by omega, by omega, h3, by omega, by omega, by omega, e1, by rw [e2, nI_add], e3, e4, rfl⟩
def GO (τ υ : St) : Prop := (∀ r, r ≠ 6 → r ≠ 7 → r ≠ 8 → υ.1 r = τ.1 r) ∧ υ.2 0 = τ.2 0 ∧ υ.2 2 = τ.2 2 ∧ υ.2 3 = τ.2 3
theorem go_t {a b c : St} (h : GO a b) (g : GO b c) : GO a c := ⟨fun r h6 h7 h8 => (g.1 r h6 h7 h8).trans (h.1 r h6 h7 h8), g.2.1.trans h.2.1, g.2.2.1.trans h.2.2.1, g.2.2.2.trans h.2.2.2⟩
def MD (c : Prop) (τ υ : St) (j : Nat) : Prop := (¬ c → υ.1 7 j = τ.1 7 j ∧ υ.1 6 (11 * j + 8) = τ.1 6 (11 * j + 8)) ∧ (c → (τ.1 7 j = 12 → υ.1 7 j = τ.1 7 j ∧ υ.1 6 (11 * j + 8) = τ.1 6 (11 * j + 8) + 1) ∧ (¬ τ.1 7 j = 12 → υ.1 7 j = τ.1 7 j + 1 ∧ υ.1 6 (11 * j + 8) = τ.1 6 (11 * j + 8)))
theorem ivs_u {c : Nat → Int32} {q w : Nat} {v : Int32} (hw : 7 ≤ w) (hw2 : w < 11) (h : IvS c) : IvS (upd c (11 * q + w) v) := fun k hk => by
  simp (disch := omega) only [upd_n]
  exact h k hk
theorem iva_o {K q w : Nat} {c s : Nat → Int32} {v : Int32} (hw : w < 7) (h : IvA K c s) : IvA K (upd c (11 * q + w) v) s := fun k hk => by
  simp (disch := omega) only [upd_n]
  exact h k hk
/-- a frame behind others: the queue's row -/
theorem ivq_put {N k m pl : Nat} {σ : St} {s d pr : Int32} (hN : N + 1 < 2147483648) (hk : k < 8) (hm : m < 12) (e7 : σ.1 7 k = nI m) (hp : pl ≤ m) (hg : ∀ i, pl ≤ i → i < m → (xF σ k i).2.2.1 < pr) (hl : pl = 0 ∨ ¬ (xF σ k (pl - 1)).2.2.1 < pr)
    (hs : AS s) (hd : AD d) (hr : WH pr 4) (h : IvQ N (σ.1 7) (σ.1 8)) : IvQ (N + 1) (upd (σ.1 7) k (nI (m + 1))) (insRow (σ.1 8) (48 * k + 4 * pl) (4 * (m - pl)) (s, d, pr, nI N)) := by
  intro j hj
  obtain ⟨M, g1, g2, g4, g5⟩ := h j hj
  by_cases c : j = k
  · subst c
    obtain rfl : M = m := (nI_eq (by omega) (by omega)).mp (g2.symm.trans e7)
    have xf : ∀ i, i < M + 1 → qF (insRow (σ.1 8) (48 * j + 4 * pl) (4 * (M - pl)) (s, d, pr, nI N)) j i = insF (xF σ j) pl (s, d, pr, nI N) i := fun i hi => xF_ins (σ := σ) (g := fun _ => 0) hj hm hp i hi
    have g4 : Srt (xF σ j) M := g4
    have g5 : ∀ i, i < M → OKF N (xF σ j i) := g5
    refine ⟨M + 1, by omega, upd_s, ?_, fun i hi => ?_⟩
    · intro a b hab hb
      rw [xf a (by omega), xf b hb]
      unfold insF
      have q1 : ∀ i, i < pl → Bf (xF σ j i) (s, d, pr, nI N) := by
        intro i hi
        have h2 : (xF σ j (pl - 1)).2.2.1.toInt ≤ (xF σ j i).2.2.1.toInt := by
          by_cases ci : i = pl - 1
          · rw [ci]; exact Int.le_refl _
          · have hb := g4 i (pl - 1) (by omega) (by omega)
            unfold Bf at hb
            omega
        have h3 : ¬ (xF σ j (pl - 1)).2.2.1 < pr := by
          rcases hl with h0 | h0
          · omega
          · exact h0
        rw [Int32.lt_iff_toInt_lt] at h3
        obtain ⟨-, -, -, n, hn, en⟩ := g5 i (by omega)
        show pr.toInt < (xF σ j i).2.2.1.toInt ∨ ((xF σ j i).2.2.1.toInt = pr.toInt ∧ (xF σ j i).2.2.2.toInt < (nI N).toInt)
        rw [en, nI_toInt (by omega), nI_toInt (by omega)]
        omega
      have q2 : ∀ i, pl ≤ i → i < M → Bf (s, d, pr, nI N) (xF σ j i) := by
        intro i h1 h2
        have := hg i h1 h2
        rw [Int32.lt_iff_toInt_lt] at this
        exact Or.inl this
      by_cases ca : a < pl
      · rw [if_pos ca]
        by_cases cb : b < pl
        · rw [if_pos cb]; exact g4 a b hab (by omega)
        · rw [if_neg cb]
          by_cases cb2 : b = pl
          · rw [if_pos cb2]; exact q1 a ca
          · rw [if_neg cb2]; exact g4 a (b - 1) (by omega) (by omega)
      · rw [if_neg ca, if_neg (show ¬ b < pl by omega), if_neg (show ¬ b = pl by omega)]
        by_cases ca2 : a = pl
        · rw [if_pos ca2]; exact q2 (b - 1) (by omega) (by omega)
        · rw [if_neg ca2]; exact g4 (a - 1) (b - 1) (by omega) (by omega)
    · rw [xf i hi]
      unfold insF
      by_cases ci : i < pl
      · rw [if_pos ci]; exact okf_mono (g5 i (by omega)) (by omega)
      · rw [if_neg ci]
        by_cases c2 : i = pl
        · rw [if_pos c2]; exact ⟨hs, hd, hr, N, by omega, rfl⟩
        · rw [if_neg c2]; exact okf_mono (g5 (i - 1) (by omega)) (by omega)
  · have xf : ∀ i, i < 12 → qF (insRow (σ.1 8) (48 * k + 4 * pl) (4 * (m - pl)) (s, d, pr, nI N)) j i = qF (σ.1 8) j i := fun i hi => xF_ino (σ := σ) (g := fun _ => 0) hk hj c hm hp i hi
    refine ⟨M, g1, (upd_n c).trans g2, fun a b hab hb => ?_, fun i hi => ?_⟩
    · rw [xf a (by omega), xf b (by omega)]; exact g4 a b hab hb
    · rw [xf i (by omega)]; exact okf_mono (g5 i hi) (by omega)
theorem out_k {C N K k : Nat} {τ : St} {s d pr : Int32} (hN : N + 1 < 2147483648) (hk : k < 8) (hu : τ.1 1 k = 1) (hs : AS s) (hd : AD d) (hr : WH pr 4) (h : IV C N K τ) :
    (∃ N', N' ≤ N + 1 ∧ IV C N' (K + 1) (sOut τ (nI k) s d pr)) ∧ GO τ (sOut τ (nI k) s d pr) ∧ ∀ j, j < 8 → MD (j = k) τ (sOut τ (nI k) s d pr) j := by
  obtain ⟨h1, h2, h3, h4, h5, h6, h7, h8, h9, hA, hQ, hT, hW⟩ := h
  obtain ⟨m, g1, g2, g4, g5⟩ := hQ k hk
  unfold sOut qFull
  rw [oAt_k hk (by decide), g2]
  by_cases c : m = 12
  · subst c
    rw [if_neg (show ¬ nI 12 < (12 : Int32) by decide), if_neg (show ¬ ((1 : Int32) = 0) by decide), show (8 : Int32) = nI 8 from rfl, cred_k hk (by decide)]
    refine ⟨⟨N, by omega, h1, h2, h3, h4, h5, h6, h7, h8, ivs_u (by decide) (by decide) h9, fun j hj => ?_, hQ, hT, fun j hj => nle_mono (hW j hj) (by omega)⟩, ⟨fun r r6 r7 r8 => rput_ne r6, rfl, rfl, rfl⟩, fun j hj => ?_⟩
    · have q := hA j hj
      show acq (K + 1) (upd (τ.1 6) (11 * k + 8) _ (11 * j + 7)) (upd (τ.1 6) (11 * k + 8) _ (11 * j + 8)) (upd (τ.1 6) (11 * k + 8) _ (11 * j + 9)) (upd (τ.1 6) (11 * k + 8) _ (11 * j + 10)) (τ.1 7 j)
      by_cases cj : j = k
      · subst cj
        rw [upd_s, upd_n (by omega), upd_n (by omega), upd_n (by omega)]
        rw [g2] at q ⊢
        exact acq_drop q
      · rw [upd_n (by omega), upd_n (by omega), upd_n (by omega), upd_n (by omega)]
        exact acq_mono q (by omega)
    · refine ⟨fun q => ⟨rfl, upd_n (by omega)⟩, fun q => ⟨fun _ => ⟨rfl, ?_⟩, fun n => ?_⟩⟩
      · subst q; exact upd_s
      · subst q; exact absurd g2 n
  · rw [if_pos (nlt_lit (b := 12) (by omega) (by decide)), if_pos rfl]
    obtain ⟨pl, p1, p2, p3, p4⟩ := qPlace_k (pr := pr) hk g1 g2
    rw [qIns_k hk (by omega) p1 g2 p2, h2, show (7 : Int32) = nI 7 from rfl, cred_k hk (by decide)]
    have iq := ivq_put (pl := pl) hN hk (by omega : m < 12) g2 p1 p3 p4 hs hd hr hQ
    refine ⟨⟨N + 1, Nat.le_refl _, h1, ?_, h3, fun j hj => ?_, h5, h6, h7, h8, ivs_u (by decide) (by decide) h9, fun j hj => ?_, iq, hT, fun j hj => nle_mono (hW j hj) (by omega)⟩, ⟨fun r r6 r7 r8 => (rput_ne r6).trans ((rput_ne r7).trans (rput_ne r8)), rfl, rfl, rfl⟩, fun j hj => ?_⟩
    · show τ.2 1 + 1 = _
      rw [h2, nI_succ]
    · show τ.1 1 j = 1 ∨ (τ.1 1 j = 0 ∧ upd (τ.1 7) k (nI (m + 1)) j = 0)
      by_cases cj : j = k
      · subst cj; exact Or.inl hu
      · rw [upd_n cj]; exact h4 j hj
    · have q := hA j hj
      show acq (K + 1) (upd (τ.1 6) (11 * k + 7) _ (11 * j + 7)) (upd (τ.1 6) (11 * k + 7) _ (11 * j + 8)) (upd (τ.1 6) (11 * k + 7) _ (11 * j + 9)) (upd (τ.1 6) (11 * k + 7) _ (11 * j + 10)) (upd (τ.1 7) k (nI (m + 1)) j)
      by_cases cj : j = k
      · subst cj
        rw [upd_s, upd_s, upd_n (by omega), upd_n (by omega), upd_n (by omega)]
        rw [g2] at q
        exact acq_put (by omega) q
      · rw [upd_n (by omega), upd_n (by omega), upd_n (by omega), upd_n (by omega), upd_n cj]
        exact acq_mono q (by omega)
    · refine ⟨fun q => ⟨upd_n q, upd_n (by omega)⟩, fun q => ⟨fun n => ?_, fun _ => ⟨?_, upd_n (by omega)⟩⟩⟩
      · subst q
        exact absurd ((nI_eq (b := 12) (by omega) (by decide)).mp (g2.symm.trans n)) c
      · subst q
        show upd (τ.1 7) j (nI (m + 1)) j = _
        rw [upd_s, g2, nI_succ]
theorem go_k {C N K : Nat} {τ : St} {B : Nat → Bool} {s d pr : Int32} (hN : N + 8 < 2147483648) (hB : ∀ q, q < 8 → B q = true → τ.1 1 q = 1) (hs : AS s) (hd : AD d) (hr : WH pr 4) (h : IV C N K τ) : ∀ n, n ≤ 8 →
    (∃ N', N' ≤ N + n ∧ IV C N' (K + n) (sGo τ (wb B 8) s d pr n)) ∧ GO τ (sGo τ (wb B 8) s d pr n) ∧ ∀ j, j < 8 → MD (j < n ∧ B j = true) τ (sGo τ (wb B 8) s d pr n) j
  | 0, _ => ⟨⟨N, Nat.le_refl N, h⟩, ⟨fun _ _ _ _ => rfl, rfl, rfl, rfl⟩, fun j hj => ⟨fun _ => ⟨rfl, rfl⟩, fun q => absurd q.1 (Nat.not_lt_zero j)⟩⟩
  | n + 1, hn => by
    obtain ⟨⟨N', n1, i1⟩, g1, m1⟩ := go_k hN hB hs hd hr h n (by omega)
    rw [go_b (by omega)]
    by_cases c : B n = true
    · rw [if_pos c]
      obtain ⟨⟨N2, n2, i2⟩, g2, m2⟩ := out_k (s := s) (d := d) (pr := pr) (by omega) (by omega : n < 8) (by rw [g1.1 1 (by decide) (by decide) (by decide)]; exact hB n (by omega) c) hs hd hr i1
      refine ⟨⟨N2, by omega, i2⟩, go_t g1 g2, fun j hj => ?_⟩
      have a1 := m1 j hj
      have a2 := m2 j hj
      by_cases cj : j = n
      · subst cj
        obtain ⟨e1, e2⟩ := a1.1 (fun q => by omega)
        obtain ⟨f1, f2⟩ := a2.2 rfl
        rw [e1, e2] at f1 f2
        exact ⟨fun q => absurd ⟨by omega, c⟩ q, fun _ => ⟨f1, f2⟩⟩
      · obtain ⟨e1, e2⟩ := a2.1 cj
        unfold MD
        rw [e1, e2]
        refine ⟨fun q => a1.1 (fun z => q ⟨by omega, z.2⟩), fun q => a1.2 ⟨by omega, q.2⟩⟩
    · rw [if_neg c]
      refine ⟨⟨N', by omega, i1.mono (by omega)⟩, g1, fun j hj => ?_⟩
      have a1 := m1 j hj
      refine ⟨fun q => a1.1 (fun z => q ⟨by omega, z.2⟩), fun q => a1.2 ⟨?_, q.2⟩⟩
      by_cases cj : j = n
      · subst cj; exact absurd q.2 c
      · omega
theorem s6_a {a b c d e f : Int32} : s6 (a + 1) b c d e f = s6 a b c d e f + 1 := by unfold s6; ac_rfl
theorem s6_b {a b c d e f : Int32} : s6 a (b + 1) c d e f = s6 a b c d e f + 1 := by unfold s6; ac_rfl
theorem s6_c {a b c d e f : Int32} : s6 a b (c + 1) d e f = s6 a b c d e f + 1 := by unfold s6; ac_rfl
theorem s6_d {a b c d e f : Int32} : s6 a b c (d + 1) e f = s6 a b c d e f + 1 := by unfold s6; ac_rfl
theorem s6_e {a b c d e f : Int32} : s6 a b c d (e + 1) f = s6 a b c d e f + 1 := by unfold s6; ac_rfl
theorem s6_f {a b c d e f : Int32} : s6 a b c d e (f + 1) = s6 a b c d e f + 1 := by unfold s6; ac_rfl
theorem ivs_two {c : Nat → Int32} {k w : Nat} (hw1 : 1 ≤ w) (hw : w ≤ 6) (h : IvS c) : IvS (upd (upd c (11 * k) (c (11 * k) + 1)) (11 * k + w) (c (11 * k + w) + 1)) := fun j hj => by
  by_cases cj : j = k
  · subst cj
    have q := h j hj
    rw [upd_n (by omega), upd_s, q]
    rcases (show w = 1 ∨ w = 2 ∨ w = 3 ∨ w = 4 ∨ w = 5 ∨ w = 6 by omega) with rfl | rfl | rfl | rfl | rfl | rfl
    · simp (disch := omega) only [upd_s, upd_n]; exact s6_a.symm
    · simp (disch := omega) only [upd_s, upd_n]; exact s6_b.symm
    · simp (disch := omega) only [upd_s, upd_n]; exact s6_c.symm
    · simp (disch := omega) only [upd_s, upd_n]; exact s6_d.symm
    · simp (disch := omega) only [upd_s, upd_n]; exact s6_e.symm
    · simp (disch := omega) only [upd_s, upd_n]; exact s6_f.symm
  · simp (disch := omega) only [upd_n]
    exact h j hj
theorem acc_1 : ∀ n : Fin 7, ∃ w : Fin 7, 1 ≤ w.val ∧ sAcc (nI n.val) = nI w.val := by decide +kernel
/-- a frame that comes in, whole -/
theorem come_k {C N K k a b : Nat} {σ : St} {pr : Int32} (hC : C < 2147483648) (hN : N + 8 < 2147483648) (hk : k < 8) (h1 : 1 ≤ a) (h2 : a < 100) (hb : b < 100) (hr : WH pr 4) (h : IV C N K σ) :
    ∃ τ n B, sLD σ (nI k) (nI a) (nI b) = (nI n, τ) ∧ LDR C N K k a b n σ τ ∧ sWaysOut τ (nI n) (nI k) (nI b) = wb B 8 ∧ WB σ k n B ∧ (sCome σ (nI k) (nI a) (nI b) pr).1 = nI n ∧
    (∃ N', N' ≤ N + 8 ∧ IV C N' (K + 9) (sCome σ (nI k) (nI a) (nI b) pr).2) ∧ GO τ (sCome σ (nI k) (nI a) (nI b) pr).2 ∧ ∀ j, j < 8 → MD (B j = true) σ (sCome σ (nI k) (nI a) (nI b) pr).2 j := by
  obtain ⟨n, e1, L⟩ := ld_k (b := b) hC hk h1 h2 hb h
  generalize hτ : (sLD σ (nI k) (nI a) (nI b)).2 = τ at L
  have e0 : sLD σ (nI k) (nI a) (nI b) = (nI n, τ) := by rw [← e1, ← hτ]
  obtain ⟨B, w1, w2⟩ := ways_k hk hb L
  refine ⟨τ, n, B, e0, L, w1, w2, e1, ?_⟩
  unfold sCome
  rw [e0]
  dsimp only
  rw [w1]
  have hup : ∀ q, q < 8 → B q = true → τ.1 1 q = 1 := fun q hq hd => by
    rw [L.2.1.2.1]
    exact (open_0 hq (ob_t.mp (w2.1 q hq hd).2)).1
  obtain ⟨⟨N', n1, i1⟩, g1, m1⟩ := go_k (s := nI a) (d := nI b) (pr := pr) hN hup ⟨a, h1, h2, rfl⟩ ⟨b, hb, rfl⟩ hr L.1 8 (Nat.le_refl 8)
  generalize sGo τ (wb B 8) (nI a) (nI b) pr 8 = G at *
  obtain ⟨w, x1, x2⟩ := acc_1 ⟨n, L.2.2.1⟩
  have x2 : sAcc (nI n) = nI w.val := x2
  have hw := w.isLt
  rw [x2, show (0 : Int32) = nI 0 from rfl, cred_k (w := 0) hk (by decide), cred_k (w := w.val) hk (by omega), rput_rput, rput_at, upd_n (show 11 * k + w.val ≠ 11 * k + 0 by omega), Nat.add_zero]
  obtain ⟨q1, q2, q3, q4, q5, q6, q7, q8, q9, hA, hQ, hT, hW⟩ := i1
  refine ⟨⟨N', n1, q1, q2, q3, q4, q5, q6, q7, q8, ivs_two x1 (by omega) q9, fun j hj => ?_, hQ, hT, fun j hj => nle_mono (hW j hj) (by omega)⟩, ⟨fun r r6 r7 r8 => (rput_ne r6).trans (g1.1 r r6 r7 r8), g1.2.1, g1.2.2.1, g1.2.2.2⟩, fun j hj => ?_⟩
  · have q := hA j hj
    show acq (K + 9) (upd (upd (G.1 6) _ _) _ _ (11 * j + 7)) (upd (upd (G.1 6) _ _) _ _ (11 * j + 8)) (upd (upd (G.1 6) _ _) _ _ (11 * j + 9)) (upd (upd (G.1 6) _ _) _ _ (11 * j + 10)) (G.1 7 j)
    simp (disch := omega) only [upd_n]
    exact acq_mono q (by omega)
  · have q := m1 j hj
    have ex : upd (upd (G.1 6) (11 * k) (G.1 6 (11 * k) + 1)) (11 * k + w.val) (G.1 6 (11 * k + w.val) + 1) (11 * j + 8) = G.1 6 (11 * j + 8) := by
      simp (disch := omega) only [upd_n]
    unfold MD at q ⊢
    rw [L.2.1.2.2.2.1, L.2.1.2.2.2.2.1] at q
    refine ⟨fun z => ?_, fun z => ⟨fun z2 => ?_, fun z2 => ?_⟩⟩
    · obtain ⟨y1, y2⟩ := q.1 (fun y => z y.2)
      exact ⟨y1, ex.trans y2⟩
    · obtain ⟨y1, y2⟩ := (q.2 ⟨hj, z⟩).1 z2
      exact ⟨y1, ex.trans y2⟩
    · obtain ⟨y1, y2⟩ := (q.2 ⟨hj, z⟩).2 z2
      exact ⟨y1, ex.trans y2⟩
