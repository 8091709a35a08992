theorem rs3 {ν : Mo} {m a k : Nat} (hk : k < 100) (h : IN ν m a k) (h0 : AD (ν.2 6 (4 * k))) (h1 : ¬ ν.2 6 (4 * k + 1) = -4 → AD (ν.2 6 (4 * k + 1))) : RS ν (mR3 ν (nI (4 * k))) m (a + 2) k := by
  obtain ⟨a1, t1, l1, v1, g1⟩ := takes_ta (c := 33) h.1
  have hkp := kp_takes (μ := ν) (c := 33)
  unfold mR3
  rw [c4_1, c4_2, ga6 (by omega)]
  generalize mTakes ν 33 = T at *
  by_cases c : ν.2 6 (4 * k + 1) = -4
  · rw [if_pos c]; exact rs_0 kp_refl
  rw [if_neg c]
  have eT : T.2.2 6 = ν.2 6 := by rw [g1]
  have iT : IN T.2 m a1 k := ⟨t1, by rw [eT]; exact h.2⟩
  by_cases c2 : T.1 = 0
  · rw [if_pos c2]
    refine rs_tr (kp_tr hkp kp_setA) (rs4 (a := a1) hk (in_setA iT (by omega) (by omega)) ?_ ?_ ?_) (by omega)
    · rw [setA6 (by omega), upd_n (by omega), eT]; exact h0
    · rw [setA6 (by omega), upd_n (by omega), eT]; exact h1 c
    · rw [setA6 (by omega), upd_s]; exact fun _ => wh_0 (by decide)
  · rw [if_neg c2]
    obtain ⟨a2, t2, l2, v2, g2⟩ := digit_ta (lo := 0) (hi := 3) (by decide) (by decide) t1
    have hkp2 := kp_digit (μ := T.2) (lo := nI 0) (hi := nI 3)
    rw [show mDigit T.2 0 3 = mDigit T.2 (nI 0) (nI 3) from rfl]
    generalize mDigit T.2 (nI 0) (nI 3) = U at *
    have eU : U.2.2 6 = ν.2 6 := by rw [g2, eT]
    have iU : IN U.2 m a2 k := ⟨t2, by rw [eU]; exact h.2⟩
    refine rs_tr (kp_tr hkp (kp_tr hkp2 kp_setA)) (rs4 (a := a2) hk (in_setA iU (by omega) (by omega)) ?_ ?_ ?_) (by omega)
    · rw [setA6 (by omega), upd_n (by omega), eU]; exact h0
    · rw [setA6 (by omega), upd_n (by omega), eU]; exact h1 c
    · rw [setA6 (by omega), upd_s]
      intro q
      obtain ⟨q1, v, b1, b2, e⟩ := v2 q
      exact ⟨v, by omega, e⟩
theorem rs2 {ν : Mo} {m a k : Nat} (hk : k < 100) (h : IN ν m a k) (h0 : AD (ν.2 6 (4 * k))) : RS ν (mR2 ν (nI (4 * k))) m (a + 3) k := by
  obtain ⟨a1, t1, l1, v1, g1⟩ := takes_ta (c := 42) h.1
  have hkp := kp_takes (μ := ν) (c := 42)
  unfold mR2
  rw [c4_1]
  generalize mTakes ν 42 = T at *
  have eT : T.2.2 6 = ν.2 6 := by rw [g1]
  by_cases c2 : T.1 = 0
  · rw [if_pos c2]
    obtain ⟨a2, t2, l2, v2, g2⟩ := addr_ta t1
    have hkp2 := kp_addr (μ := T.2)
    generalize mAddr T.2 = U at *
    have eU : U.2.2 6 = ν.2 6 := by rw [g2, eT]
    have iU : IN U.2 m a2 k := ⟨t2, by rw [eU]; exact h.2⟩
    have g := rs3 (a := a2) hk (in_setA (v := U.1) (n := 4 * k + 1) iU (by omega) (by omega)) (by rw [setA6 (by omega), upd_n (by omega), eU]; exact h0) (by
      rw [setA6 (by omega), upd_s]
      intro q
      obtain ⟨q1, v, b1, b2, e⟩ := v2 q
      exact ⟨v, by omega, e⟩)
    by_cases c3 : U.1 = -4
    · -- the destination is no address: the frame fails
      have e0 : mR3 (setA U.2 6 (nI (4 * k + 1)) U.1) (nI (4 * k)) = (0, setA U.2 6 (nI (4 * k + 1)) U.1) := by
        unfold mR3
        rw [c4_1, ga6 (by omega), setA6 (by omega), upd_s, if_pos c3]
      rw [e0]; exact rs_0 (kp_tr hkp (kp_tr hkp2 kp_setA))
    · exact rs_tr (kp_tr hkp (kp_tr hkp2 kp_setA)) g (by have := (v2 c3).1; omega)
  · rw [if_neg c2]
    have iT : IN T.2 m a1 k := ⟨t1, by rw [eT]; exact h.2⟩
    refine rs_tr (kp_tr hkp kp_setA) (rs3 (a := a1) hk (in_setA iT (by omega) (by omega)) ?_ ?_) (by have := v1 c2; omega)
    · rw [setA6 (by omega), upd_n (by omega), eT]; exact h0
    · rw [setA6 (by omega), upd_s]; exact fun _ => ⟨0, by decide, rfl⟩
theorem rs1 {ν : Mo} {m a k : Nat} (hk : k < 100) (h : IN ν m a k) (h0 : ¬ ν.2 6 (4 * k) = -4 → AD (ν.2 6 (4 * k))) : RS ν (mR1 ν (nI (4 * k))) m (a + 4) k := by
  obtain ⟨a1, t1, l1, v1, g1⟩ := takes_ta (c := 62) h.1
  have hkp := kp_takes (μ := ν) (c := 62)
  unfold mR1
  rw [ga6 (by omega)]
  generalize mTakes ν 62 = T at *
  by_cases c : ν.2 6 (4 * k) = -4
  · rw [if_pos c]; exact rs_0 kp_refl
  rw [if_neg c]
  by_cases c2 : T.1 = 0
  · rw [if_pos c2]; exact rs_0 hkp
  rw [if_neg c2]
  have eT : T.2.2 6 = ν.2 6 := by rw [g1]
  exact rs_tr hkp (rs2 (a := a1) hk ⟨t1, by rw [eT]; exact h.2⟩ (by rw [eT]; exact h0 c)) (by have := v1 c2; omega)
theorem rs_reads {μ : Mo} {m a k : Nat} (hk : k < 100) (h : IN μ m a k) : RS μ (mReads μ) m (a + 5) k := by
  obtain ⟨a2, t2, l2, v2, g2⟩ := addr_ta h.1
  have hkp2 := kp_addr (μ := μ)
  unfold mReads
  rw [show (4 : Int32) * μ.1 6 = nI (4 * k) from by rw [h.1.2.2.2.2, show (4 : Int32) = nI 4 from rfl, pk_mul]]
  generalize mAddr μ = U at *
  have eU : U.2.2 6 = μ.2 6 := by rw [g2]
  have iU : IN U.2 m a2 k := ⟨t2, by rw [eU]; exact h.2⟩
  have g := rs1 (a := a2) hk (in_setA (v := U.1) (n := 4 * k) iU (by omega) (by omega)) (by
    rw [setA6 (by omega), upd_s]
    intro q
    obtain ⟨q1, v, b1, b2, e⟩ := v2 q
    exact ⟨v, by omega, e⟩)
  by_cases c3 : U.1 = -4
  · have e0 : mR1 (setA U.2 6 (nI (4 * k)) U.1) (nI (4 * k)) = (0, setA U.2 6 (nI (4 * k)) U.1) := by
      unfold mR1
      rw [ga6 (by omega), setA6 (by omega), upd_s, if_pos c3]
    rw [e0]; exact rs_0 (kp_tr hkp2 kp_setA)
  · exact rs_tr (kp_tr hkp2 kp_setA) g (by have := (v2 c3).1; omega)
/-- what reading the text leaves -/
theorem rf_ok : ∀ (n : Nat) {μ : Mo} {m a k : Nat}, k + n = 13 → 6 * k ≤ a → IN μ m a k → KP μ (mRF n μ).2 ∧ (¬ (mRF n μ).1 = 0 → ∃ r a', r ≤ 12 ∧ IN (mRF n μ).2 m a' r)
  | 0, μ, m, a, k, hn, ha, h => ⟨kp_refl, fun q => absurd rfl q⟩
  | n + 1, μ, m, a, k, hn, ha, h => by
    have g := rs_reads (by omega) h
    unfold mRF
    generalize mReads μ = T at *
    by_cases c : T.1 = 0
    · rw [if_pos c]; exact ⟨g.1, fun q => absurd rfl q⟩
    rw [if_neg c]
    obtain ⟨a', h1, h2⟩ := g.2 c
    by_cases c2 : T.2.1 5 < T.2.1 4
    · rw [if_pos c2]
      have i2 : IN (msc T.2 5 (T.2.1 5 + 1)) m (a' + 1) (k + 1) := ⟨ta_at h2.1 c2, h2.2⟩
      obtain ⟨q1, q2⟩ := rf_ok n (by omega) (by omega) i2
      exact ⟨kp_tr g.1 (kp_tr kp_5 q1), q2⟩
    · rw [if_neg c2]
      refine ⟨kp_tr g.1 kp_5, fun _ => ⟨k + 1, a', by have := h2.1.1; have := h2.1.2.1; omega, ?_, h2.2⟩⟩
      obtain ⟨b1, b2, b3, b4, b5⟩ := h2.1
      exact ⟨b1, b2, b3, by show T.2.1 5 + 0 = _; rw [b4]; exact (nI_add a' 0), b5⟩
theorem rds_ok {μ : Mo} {m : Nat} (hm : m ≤ 70) (h4 : μ.1 4 = nI m) : KP μ (mRds μ).2 ∧ (¬ (mRds μ).1 = 0 → ∃ r a', r ≤ 12 ∧ IN (mRds μ).2 m a' r) := by
  have h := rf_ok 13 (μ := msc (msc μ 5 0) 6 0) (m := m) (a := 0) (k := 0) rfl (by decide) ⟨⟨Nat.zero_le m, hm, h4, rfl, rfl⟩, fun j hj => absurd hj (Nat.not_lt_zero j)⟩
  exact ⟨kp_tr (kp_tr kp_5 kp_6) h.1, h.2⟩
theorem in_rec_ {ν : Mo} {m a r : Nat} (h : IN ν m a r) : IN (mRec ν) m a r := by
  unfold mRec
  by_cases c : ν.1 0 = 4
  · rw [if_pos c]; exact h
  · rw [if_neg c]; exact h
theorem rd_at {O ν : Mo} {R C r k m a : Nat} (hW : IN O m a r) (hr : r ≤ 12) (h : GA O R C ν) (hk : k < r) : PO (ga ν 6 (4 * nI k + 3)) ∧ AD (ga ν 6 (4 * nI k)) ∧ AD (ga ν 6 (4 * nI k + 1)) ∧ WH (ga ν 6 (4 * nI k + 2)) 4 := by
  unfold ga
  rw [h.2.2.2.2.2 6 (by decide), show (4 : Int32) * nI k = nI (4 * k) from by rw [show (4 : Int32) = nI 4 from rfl, pk_mul], show (1 : Int32) = nI 1 from rfl, show (2 : Int32) = nI 2 from rfl, show (3 : Int32) = nI 3 from rfl, nI_add, nI_add, nI_add, nI_clamp (by omega), nI_clamp (by omega), nI_clamp (by omega), nI_clamp (by omega)]
  obtain ⟨a, b, c, d⟩ := hW.2 k hk
  exact ⟨d, a, b, c⟩
theorem ga_ins {O : Mo} {R C r m a : Nat} (h0 : GBf R C (O.2 0)) (hW : IN O m a r) (hr : r ≤ 12) : ∀ k, k ≤ r → GA O R C (mIns O k).2
  | 0, _ => gb_ga h0
  | k + 1, hk => by
    have ih := ga_ins h0 hW hr k (by omega)
    obtain ⟨a, b, c, d⟩ := rd_at hW hr ih (k := k) (by omega)
    exact cl_come (cl_ga O R C) a b c d ih
theorem ins_n {O : Mo} {R C r m a k : Nat} (h0 : GBf R C (O.2 0)) (hW : IN O m a r) (hr : r ≤ 12) (hk : k ≤ r) : (mIns O k).2.1 6 = nI r := ((ga_ins h0 hW hr k hk).2.2.2.2.1 6 (by decide)).trans hW.1.2.2.2.2
