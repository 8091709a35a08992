/-! the acts, call by call -/
theorem r_up {C N k : Nat} {σ : St} {μ : Mo} (hk : k < 8) (h : RC C N σ (μ.2 0)) : RC C N (pTurn σ (nI k) 1) ((mTo μ (nI k) 0 1).2 0) := by
  unfold pTurn
  rw [if_neg (show ¬ (1 : Int32) = 0 by decide), oPut_k hk (by decide), show (0 : Int32) = nI 0 from rfl, to_k hk (by decide)]
  exact rc_up hk (Or.inr rfl) h
theorem rq_drop {N k m : Nat} {σ : St} {f : Nat → Int32} (hk : k < 8) (hm : m ≤ 12) (h : RQ N σ f) : RQ N (qJ σ k m m) (upd f (8 + 20 * k + 5) 0) := by
  intro l hl
  obtain ⟨m', g1, g2, g3, g4, g5⟩ := h l hl
  by_cases c : l = k
  · subst c
    refine ⟨0, by omega, ?_, ?_, ql_0, fun i hi => absurd hi (Nat.not_lt_zero i)⟩
    · show upd (σ.1 7) l (nI (m - m)) l = _
      rw [upd_s, Nat.sub_self]
    · rw [upd_s]; rfl
  · refine ⟨m', g1, ?_, ?_, ql_cg g4 (fun i hi => xF_qJo hm c (by omega)) (fun i hi => mF_u (by omega) hl (by omega)), fun i hi => ?_⟩
    · show upd (σ.1 7) k (nI (m - m)) l = _
      rw [upd_n c]; exact g2
    · rw [upd_n (by omega)]; exact g3
    · rw [mF_u (by omega) hl (by omega)]; exact g5 i hi
theorem r_drop {C N k : Nat} {σ : St} {μ : Mo} (hk : k < 8) (h : RC C N σ (μ.2 0)) : RC C N (sDrop σ (nI k)) ((mDrop μ (nI k)).2 0) := by
  obtain ⟨m, g1, g2, g3, g4, g5⟩ := h.2.2.2.2.1 k hk
  unfold sDrop mDrop
  rw [oAt_k hk (by decide), g2, qRem_k hk g1 (Nat.le_refl m) g2, show (8 : Int32) + 20 * nI k + 6 + 8 = nI (8 + 20 * k + 6 + 8) from ix_more k 8, now_nI (by omega), show mOf μ (nI k) 5 = μ.2 0 (8 + 20 * k + 5) from of_nI (w := 5) hk (by decide), g3, show (5 : Int32) = nI 5 from rfl, to_k hk (by decide), setNow_nI (by omega), show (8 : Int32) = nI 8 from rfl, cred_k hk (by decide)]
  obtain ⟨h1, h2, h3, h4, h5, h6, h7⟩ := h
  refine ⟨RW.u (RW.u h1 (by omega)) (by omega), RG.u (RG.u h2 (by omega)) (by omega), RP.u (RP.u h3 (fun j hj => by omega)) (fun j hj => by omega), RA.u ?_ (fun j hj => by omega), ?_, RT.u (RT.u h6 (by omega)) (by omega), RV.u (RV.u h7 (by omega)) (by omega)⟩
  · intro j hj q hq
    show upd (σ.1 6) (11 * k + 8) (σ.1 6 (11 * k + 8) + nI m) (11 * j + q) = _
    by_cases c : 11 * j + q = 11 * k + 8
    · have e1 : j = k := by omega
      have e2 : q = 8 := by omega
      subst e1 e2
      rw [upd_s, upd_s, h4 j hj 8 hq]
    · rw [upd_n c, upd_n (by omega)]
      exact h4 j hj q hq
  · exact rq_drop hk g1 (RQ.u h5 (by omega) (fun j hj => by omega))
theorem r_down {C N k : Nat} {σ : St} {μ : Mo} (hk : k < 8) (h : RC C N σ (μ.2 0)) : RC C N (sDrop (pTurn σ (nI k) 0) (nI k)) ((mDrop (mTo μ (nI k) 0 0) (nI k)).2 0) := by
  refine r_drop hk ?_
  unfold pTurn
  rw [if_pos rfl, oPut_k hk (by decide), show (0 : Int32) = nI 0 from rfl, to_k hk (by decide)]
  exact rc_up hk (Or.inl rfl) h
theorem rc_rec {C N : Nat} {σ : St} {μ : Mo} (h : RC C N σ (μ.2 0)) : RC C N σ ((mRec μ).2 0) := by rw [rec_0]; exact h
section ACT
variable {T nx : Nat} {S : Sy} {μ : Mo}
theorem n_setPort {p up : Int32} (hT : T ≤ 600) (hup : up = 0 ∨ up = 1) (h : RZ T nx S μ) : AN T (xSetPort nx S p up) (mSetPort μ p up) := by
  obtain ⟨C, N, hC, hN, hr⟩ := h.1
  unfold xSetPort mSetPort
  rcases port_c p with ⟨h1, h2⟩ | ⟨k, hk, rfl, h3, h4⟩
  · rw [if_pos h1, if_neg h2]; exact an_id h
  · rw [if_neg h3, if_pos h4, (up_k hk hr).1, rec_x]
    rcases hup with rfl | rfl
    · rw [if_pos (show (0 : Int32) = 0 from rfl), if_pos (show (0 : Int32) = 0 from rfl)]
      by_cases c : mOf μ (nI k) 0 = 0
      · rw [if_pos c, if_pos c]; exact an_id h
      · rw [if_neg c, if_neg c]
        have r := r_down hk (rc_rec hr)
        exact an_act h (a_opens (by omega) r) ⟨rfl, rfl, rfl, rfl, rfl, rfl⟩ (rx_of hC hN r)
    · rw [if_neg (show ¬ (1 : Int32) = 0 by decide), if_neg (show ¬ (1 : Int32) = 0 by decide)]
      by_cases c : mOf μ (nI k) 0 = 1
      · rw [if_pos c, if_pos c]; exact an_id h
      · rw [if_neg c, if_neg c]
        have r := r_up hk (rc_rec hr)
        exact an_act h (a_opens (by omega) r) km_to (rx_of hC hN r)
theorem r_tie {C N k j : Nat} {σ : St} {μ : Mo} (hk : k < 8) (hj : j < 8) (h : RC C N σ (μ.2 0)) : RC C N (pTie σ (nI k) (nI j)) ((mTo (mTo μ (nI k) 3 (nI j + 1)) (nI j) 3 (nI k + 1)).2 0) := by
  unfold pTie
  rw [oPut_k hk (by decide), oPut_k hj (by decide), show (3 : Int32) = nI 3 from rfl, to_k hj (by decide), to_k hk (by decide), ← nI_succ, ← nI_succ]
  exact rc_cab hj (Or.inr ⟨k, hk, rfl, rfl⟩) (rc_cab hk (Or.inr ⟨j, hj, rfl, rfl⟩) h)
theorem r_untie {C N k j : Nat} {σ : St} {μ : Mo} (hk : k < 8) (hj : j < 8) (h : RC C N σ (μ.2 0)) : RC C N (pUntie σ (nI k) (nI j)) ((mTo (mTo μ (nI k) 3 0) (nI j) 3 0).2 0) := by
  unfold pUntie
  rw [oPut_k hk (by decide), oPut_k hj (by decide), show (3 : Int32) = nI 3 from rfl, to_k hj (by decide), to_k hk (by decide)]
  exact rc_cab hj (Or.inl ⟨rfl, rfl⟩) (rc_cab hk (Or.inl ⟨rfl, rfl⟩) h)
theorem n_join {p q : Int32} (h : RZ T nx S μ) : AN T (xJoin nx S p q) (mJoin μ p q) := by
  obtain ⟨C, N, hC, hN, hr⟩ := h.1
  unfold xJoin mJoin
  rcases port_c p with ⟨h1, h2⟩ | ⟨k, hk, rfl, h3, h4⟩
  · rw [if_pos h1, if_neg h2]; exact an_id h
  rw [if_neg h3, if_pos h4]
  rcases port_c q with ⟨h1, h2⟩ | ⟨j, hj, rfl, h5, h6⟩
  · rw [if_pos h1, if_neg h2]; exact an_id h
  rw [if_neg h5, if_pos h6, rec_x]
  by_cases c : nI k = nI j
  · rw [if_pos c, if_pos c]; exact an_id h
  rw [if_neg c, if_neg c]
  have f1 := far_k hk hr
  have f2 := far_k hj hr
  by_cases c1 : mOf μ (nI k) 3 = 0
  · rw [if_pos ((cb_0 f1).mpr c1), if_neg (fun z => (cb_pos f1).mp z c1)]
    by_cases c2 : mOf μ (nI j) 3 = 0
    · rw [if_pos ((cb_0 f2).mpr c2), if_neg (fun z => (cb_pos f2).mp z c2)]
      have r := r_tie hk hj (rc_rec hr)
      exact an_act h (congrArg (· / 2) (a_cab r 8 (Nat.le_refl 8))) (km_t km_to km_to) (rx_of hC hN r)
    · rw [if_neg (fun z => c2 ((cb_0 f2).mp z)), if_pos ((cb_pos f2).mpr c2)]; exact an_id h
  · rw [if_neg (fun z => c1 ((cb_0 f1).mp z)), if_pos ((cb_pos f1).mpr c1)]; exact an_id h
theorem n_part {p : Int32} (h : RZ T nx S μ) : AN T (xPartC nx S p) (mPartC μ p) := by
  obtain ⟨C, N, hC, hN, hr⟩ := h.1
  unfold xPartC mPartC
  rcases port_c p with ⟨h1, h2⟩ | ⟨k, hk, rfl, h3, h4⟩
  · rw [if_pos h1, if_neg h2]; exact an_id h
  rw [if_neg h3, if_pos h4, rec_x]
  rcases far_k hk hr with ⟨q1, q2⟩ | ⟨j, q0, q1, q2⟩
  · rw [q1, q2, if_pos rfl, if_pos (show (0 - 1 : Int32) < 0 by decide)]; exact an_id h
  · rw [q1, q2, nI_pred, if_neg (show ¬ nI j = (-4 : Int32) from fun q => absurd (by rw [q]; decide) (nI_pos (n := j) (by omega))), if_neg (nI_pos (by omega))]
    exact an_act h rfl (km_t km_to km_to) (rx_of hC hN (r_untie hk q0 (rc_rec hr)))
theorem n_release {p : Int32} (hT : T ≤ 600) (h : RZ T nx S μ) : AN T (xRelease nx S p) (mRelease μ p) := by
  obtain ⟨C, N, hC, hN, hr⟩ := h.1
  unfold xRelease mRelease
  rcases port_c p with ⟨h1, h2⟩ | ⟨k, hk, rfl, h3, h4⟩
  · rw [if_pos h1, if_neg h2]; exact an_id h
  rw [if_neg h3, if_pos h4, rec_x]
  have hd := hold_k (by omega) hk hr
  have hd2 := hold_k (by omega) hk (rc_rec hr)
  by_cases c : mOf μ (nI k) 1 = 0
  · rw [if_pos (hd.2.mp c), if_pos c]; exact an_id h
  · rw [if_neg (fun z => c (hd.2.mpr z)), if_neg c]
    refine an_act h hd2.1 km_to (rx_of hC hN ?_)
    unfold pEnd
    rw [oPut_k hk (by decide), show (1 : Int32) = nI 1 from rfl, to_k hk (by decide)]
    exact rc_left hk (L := 0) (by decide) rfl rfl (rc_rec hr)
theorem set_c (w : Int32) : (isSet w = 0 ∧ mIn w 0 3 = 0) ∨ ∃ i, i < 4 ∧ w = nI i ∧ ¬ isSet w = 0 ∧ ¬ mIn w 0 3 = 0 := by
  unfold isSet
  rcases in_range (x := w) (l := 0) (u := 3) (by decide) (by decide) with ⟨q1, q2⟩ | ⟨v, _, q2, q3, q4⟩
  · refine Or.inl ⟨?_, q1⟩
    by_cases c : w < 0
    · rw [if_pos c]
    · rw [if_neg c, if_neg]
      intro c2
      obtain ⟨n, hn, e⟩ := nI_of c
      subst e
      exact q2 n (by omega) (by have := (nI_ltI (b := 4) hn (by decide)).mp c2; omega) rfl
  · refine Or.inr ⟨v, by omega, q3, ?_, q4⟩
    rw [q3, if_neg (nI_pos (by omega)), if_pos (nlt_lit (b := 4) (by omega) (by decide))]; decide
theorem most_k : ∀ i : Fin 4, fsG (nI i.val).toNatClampNeg = nI (gst i.val) ∧ mMost (nI i.val) = nI (gst i.val) ∧ gst i.val ≤ 1000 := by decide +kernel
theorem n_set {w v : Int32} (h : RZ T nx S μ) : AN T (xSet nx S w v) (mSet μ w v) := by
  obtain ⟨C, N, hC, hN, hr⟩ := h.1
  unfold xSet mSet
  rcases set_c w with ⟨h1, h2⟩ | ⟨i, hi, rfl, h3, h4⟩
  · rw [if_pos h1, if_pos h2]; exact an_id h
  obtain ⟨g1, g2, g3⟩ := most_k ⟨i, hi⟩
  have g1 : fsG (nI i).toNatClampNeg = nI (gst i) := g1
  have g2 : mMost (nI i) = nI (gst i) := g2
  have g3 : gst i ≤ 1000 := g3
  rw [if_neg h3, if_neg h4, g1, g2, rec_x, oAt_k hi (by decide), now_nI (by omega), (hr.2.1 i hi).1]
  rcases in_range (x := v) (l := 1) (u := gst i) (by decide) (by omega) with ⟨q1, q2⟩ | ⟨n, q0, q2, q3, q4⟩
  · have q1 : mIn v 1 (nI (gst i)) = 0 := q1
    rw [if_pos q1]
    by_cases c : v < 1
    · rw [if_pos c]; exact an_id h
    · rw [if_neg c, if_pos]
      · exact an_id h
      · by_cases c2 : nI (gst i) < v
        · exact c2
        · unfold mIn at q1
          rw [if_neg c, if_neg c2] at q1
          exact absurd q1 (by decide)
  · have q4 : ¬ mIn v 1 (nI (gst i)) = 0 := q4
    subst q3
    rw [if_neg q4, if_neg (show ¬ nI n < 1 from nI_nlt (b := 1) q0 (by omega)), if_neg (nI_nlt q2 (by omega))]
    by_cases c : μ.2 0 i = nI n
    · rw [if_pos c, if_pos c]; exact an_id h
    · rw [if_neg c, if_neg c]
      refine an_act h rfl km_set (rx_of hC hN ?_)
      rw [oPut_k hi (by decide), setNow_nI (by omega)]
      exact rc_set hi q0 q2 (rc_rec hr)
theorem n_frame {p s d pr : Int32} (hT : T ≤ 600) (h : RZ T nx S μ) : AN T (xFrame nx S p s d pr) (mFrame μ p s d pr) := by
  obtain ⟨C, N, hC, hN, hr⟩ := h.1
  have hN2 : N ≤ 4200000 := Nat.le_trans hN (Nat.mul_le_mul_left 7000 hT)
  unfold xFrame mFrame
  rcases port_c p with ⟨h1, h2⟩ | ⟨k, hk, rfl, h3, h4⟩
  · rw [if_pos h1, if_neg h2]; exact an_id h
  rw [if_neg h3, if_pos h4]
  rcases addr_c s with ⟨h1, h2⟩ | ⟨a, a1, a2, rfl, h5, h6⟩
  · rw [if_pos h1, if_neg h2]; exact an_id h
  rw [if_neg h5, if_pos h6]
  rcases dest_c d with ⟨h1, h2⟩ | ⟨hd, h7, h8⟩
  · rw [if_pos h1, if_pos h2]; exact an_id h
  rw [if_neg h7, if_neg h8, rec_x]
  have e : mIn pr 0 3 = if pr < 0 then 0 else if 3 < pr then 0 else 1 := rfl
  by_cases c1 : pr < 0
  · rw [if_pos c1, if_pos (show mIn pr 0 3 = 0 by rw [e, if_pos c1])]; exact an_id h
  rw [if_neg c1]
  by_cases c2 : 3 < pr
  · rw [if_pos c2, if_pos (show mIn pr 0 3 = 0 by rw [e, if_neg c1, if_pos c2])]; exact an_id h
  rw [if_neg c2, if_neg (show ¬ mIn pr 0 3 = 0 by rw [e, if_neg c1, if_neg c2]; decide)]
  have hp : WH pr 4 := by
    obtain ⟨n, hn, e⟩ := nI_of c1
    rw [e] at c2
    exact ⟨n, Nat.lt_of_not_le fun z => c2 (nI_lt (a := 3) (b := n) z hn), e⟩
  have hs : AS (nI a) := ⟨a, a1, a2, rfl⟩
  obtain ⟨r1, ⟨N', r2, r3⟩, _⟩ := r_come (by omega) (by omega) hk hs hd hp (rc_rec hr)
  have fr := come_fr (by omega) hk hs hd hp (rc_rec hr)
  refine an_act h r1 (km_fr (fun j h2 _ => fr.1 j h2) (fun j h0 _ => fr.2 j h0)) ⟨C, N', by omega, ?_, r3⟩
  rw [Nat.mul_succ]; omega
theorem n_forget {x : Int32} (h : RZ T nx S μ) : AN T (xForget nx S x) (mForget μ x) := by
  obtain ⟨C, N, hC, hN, hr⟩ := h.1
  unfold xForget mForget
  rcases addr_c x with ⟨h1, h2⟩ | ⟨a, a1, a2, rfl, h5, h6⟩
  · rw [if_pos h1, if_neg h2]; exact an_id h
  rw [if_neg h5, if_pos h6, rec_x, n552 a2, show tPort (S.1 0) (nI a) = (S.1 0).1 9 a from oAt_k a2 (by decide)]
  rcases hr.2.2.2.2.2.1.1 a a2 with ⟨q1, q2⟩ | ⟨j, q0, q1, q2⟩
  · rw [q1, q2, if_pos rfl, if_pos (show (0 - 1 : Int32) < 0 by decide)]; exact an_id h
  · rw [q1, q2, nI_pred, if_neg (show ¬ nI j = (-4 : Int32) from fun q => absurd (by rw [q]; decide) (nI_pos (n := j) (by omega))), if_neg (nI_pos (by omega))]
    refine an_act h rfl km_set (rx_of hC hN ?_)
    rw [s552 a2]
    exact r_rem a1 a2 (by rw [rec_0, q2]; exact nI_ne0 (by omega) (by omega)) (rc_rec hr)
theorem n_pass {n : Int32} (hT : T ≤ 600) (h : RZ T nx S μ) : AN T (xPass nx S n) (mPass μ n) := by
  obtain ⟨C, N, hC, hN, hr⟩ := h.1
  have hN2 : N ≤ 4200000 := Nat.le_trans hN (Nat.mul_le_mul_left 7000 hT)
  unfold xPass mPass
  have e : mIn n 1 10 = if n < 1 then 0 else if 10 < n then 0 else 1 := rfl
  by_cases c1 : n < 1
  · rw [if_pos c1, if_pos (show mIn n 1 10 = 0 by rw [e, if_pos c1])]; exact an_id h
  rw [if_neg c1]
  by_cases c2 : 10 < n
  · rw [if_pos c2, if_pos (show mIn n 1 10 = 0 by rw [e, if_neg c1, if_pos c2])]; exact an_id h
  have hne : ¬ mIn n 1 10 = 0 := by rw [e, if_neg c1, if_neg c2]; decide
  rw [if_neg c2, if_neg hne]
  obtain ⟨k, hk, rfl⟩ := in_10 hne
  rw [nI_clamp (by omega)]
  have hx : RC C N ((xRec nx S).1 0) ((mRec μ).2 0) := by rw [rec_x]; exact rc_rec hr
  obtain ⟨r1, ⟨N', r2, r3⟩, r4, r5⟩ := r_ps (by omega) (by omega) hx k hk
  refine ⟨r1, (nx + 1) % 4, rl_now (rl_rec h) (Nat.le_succ T) (fx_fs r4) (km_fr r5.1 r5.2) ⟨C + k, N', by omega, ?_, r3⟩⟩
  have : 640 * k ≤ 640 * 10 := Nat.mul_le_mul_left 640 hk
  rw [Nat.mul_succ]
  omega
end ACT
