theorem kp_refl {μ : Mo} : KP μ μ := ⟨fun _ _ _ => rfl, fun _ _ => rfl⟩
theorem kp_tr {a b c : Mo} (h : KP a b) (g : KP b c) : KP a c := ⟨fun j p q => (g.1 j p q).trans (h.1 j p q), fun j p => (g.2 j p).trans (h.2 j p)⟩
theorem kp_5 {μ : Mo} {v : Int32} : KP μ (msc μ 5 v) := ⟨fun _ p _ => if_neg p, fun _ _ => rfl⟩
theorem kp_6 {μ : Mo} {v : Int32} : KP μ (msc μ 6 v) := ⟨fun _ _ p => if_neg p, fun _ _ => rfl⟩
theorem kp_setA {μ : Mo} {i v : Int32} : KP μ (setA μ 6 i v) := ⟨fun _ _ _ => rfl, fun _ p => if_neg p⟩
theorem kp_takes {μ : Mo} {c : Int32} : KP μ (mTakes μ c).2 := by
  unfold mTakes
  by_cases c1 : μ.1 5 < μ.1 4
  · rw [if_pos c1]
    by_cases c2 : μ.2 5 (μ.1 5).toNatClampNeg = c
    · rw [if_pos c2]; exact kp_5
    · rw [if_neg c2]; exact kp_refl
  · rw [if_neg c1]; exact kp_refl
theorem kp_digit {μ : Mo} {lo hi : Int32} : KP μ (mDigit μ lo hi).2 := by
  unfold mDigit
  by_cases c1 : μ.1 5 < μ.1 4
  · rw [if_pos c1]
    by_cases c2 : mIn (μ.2 5 (μ.1 5).toNatClampNeg) (48 + lo) (48 + hi) = 0
    · rw [if_pos c2]; exact kp_refl
    · rw [if_neg c2]; exact kp_5
  · rw [if_neg c1]; exact kp_refl
theorem kp_addr {μ : Mo} : KP μ (mAddr μ).2 := by
  have h1 := kp_digit (μ := μ) (lo := 1) (hi := 9)
  have h2 := kp_tr h1 (kp_digit (μ := (mDigit μ 1 9).2) (lo := 0) (hi := 9))
  unfold mAddr
  generalize mDigit μ 1 9 = T1 at *
  generalize mDigit T1.2 0 9 = T2 at *
  by_cases c1 : T1.1 = -4
  · rw [if_pos c1]; exact h1
  rw [if_neg c1]
  by_cases c2 : T2.1 = -4
  · rw [if_pos c2]; exact h2
  · rw [if_neg c2]; exact h2
def FQ (g : Nat → Int32) (j : Nat) : Prop := AD (g (4 * j)) ∧ AD (g (4 * j + 1)) ∧ WH (g (4 * j + 2)) 4 ∧ PO (g (4 * j + 3))
def IN (ν : Mo) (m a k : Nat) : Prop := TA ν m a k ∧ ∀ j, j < k → FQ (ν.2 6) j
def RS (O : Mo) (x : Int32 × Mo) (m a k : Nat) : Prop := KP O x.2 ∧ (¬ x.1 = 0 → ∃ a', a ≤ a' ∧ IN x.2 m a' (k + 1))
theorem fq_upd {g : Nat → Int32} {n j k : Nat} {v : Int32} (hj : j < k) (hn : 4 * k ≤ n) (h : FQ g j) : FQ (upd g n v) j := by
  unfold FQ
  rw [upd_n (by omega), upd_n (by omega), upd_n (by omega), upd_n (by omega)]; exact h
theorem setA6 {ν : Mo} {n : Nat} {v : Int32} (hn : n < 2147483648) : (setA ν 6 (nI n) v).2 6 = upd (ν.2 6) n v := by
  unfold setA; rw [mar_at, nI_clamp hn]
theorem ga6 {ν : Mo} {n : Nat} (hn : n < 2147483648) : ga ν 6 (nI n) = ν.2 6 n := by unfold ga; rw [nI_clamp hn]
theorem in_setA {ν : Mo} {m a k n : Nat} {v : Int32} (h : IN ν m a k) (hn : 4 * k ≤ n) (hn2 : n < 2147483648) : IN (setA ν 6 (nI n) v) m a k :=
  ⟨h.1, fun j hj => by rw [setA6 hn2]; exact fq_upd hj hn (h.2 j hj)⟩
theorem rs_tr {O O' : Mo} {x : Int32 × Mo} {m a b k : Nat} (h : KP O O') (g : RS O' x m a k) (hb : b ≤ a) : RS O x m b k :=
  ⟨kp_tr h g.1, fun q => by obtain ⟨a', h1, h2⟩ := g.2 q; exact ⟨a', by omega, h2⟩⟩
theorem rs_0 {O μ : Mo} {m a k : Nat} (h : KP O μ) : RS O (0, μ) m a k := ⟨h, fun q => absurd rfl q⟩
theorem rs6 {ρ : Mo} {m a k : Nat} (h : IN ρ m a (k + 1)) : RS ρ (mR6 ρ) m a k := by
  unfold mR6
  by_cases c1 : ρ.1 5 = ρ.1 4
  · rw [if_pos c1]; exact ⟨kp_refl, fun _ => ⟨a, Nat.le_refl a, h⟩⟩
  rw [if_neg c1]
  by_cases c2 : ρ.2 5 (ρ.1 5).toNatClampNeg = 59
  · rw [if_pos c2]; exact ⟨kp_refl, fun _ => ⟨a, Nat.le_refl a, h⟩⟩
  · rw [if_neg c2]; exact rs_0 kp_refl
theorem c4_1 (k : Nat) : nI (4 * k) + 1 = nI (4 * k + 1) := (nI_succ _).symm
theorem c4_2 (k : Nat) : nI (4 * k) + 2 = nI (4 * k + 2) := by rw [show (2 : Int32) = nI 2 from rfl, nI_add]
theorem c4_3 (k : Nat) : nI (4 * k) + 3 = nI (4 * k + 3) := by rw [show (3 : Int32) = nI 3 from rfl, nI_add]
theorem rs5 {ν : Mo} {m a k : Nat} (hk : k < 100) (h : IN ν m a k) (h0 : AD (ν.2 6 (4 * k))) (h1 : AD (ν.2 6 (4 * k + 1))) (h2 : WH (ν.2 6 (4 * k + 2)) 4) : RS ν (mR5 ν (nI (4 * k))) m (a + 1) k := by
  obtain ⟨a1, t1, l1, v1, g1⟩ := digit_ta (lo := 0) (hi := 7) (by decide) (by decide) h.1
  have hkp := kp_digit (μ := ν) (lo := nI 0) (hi := nI 7)
  unfold mR5
  rw [show mDigit ν 0 7 = mDigit ν (nI 0) (nI 7) from rfl, c4_3]
  generalize mDigit ν (nI 0) (nI 7) = T at *
  have eg : ga (setA T.2 6 (nI (4 * k + 3)) T.1) 6 (nI (4 * k + 3)) = T.1 := by rw [ga6 (by omega), setA6 (by omega), upd_s]
  rw [eg]
  by_cases c : T.1 = -4
  · rw [if_pos c]; exact rs_0 (kp_tr hkp kp_setA)
  rw [if_neg c]
  obtain ⟨q1, v, b1, b2, e1⟩ := v1 c
  have eT : T.2.2 6 = ν.2 6 := by rw [g1]
  refine rs_tr (kp_tr hkp (kp_tr kp_setA kp_6)) (rs6 (a := a1) (k := k) ⟨⟨t1.1, t1.2.1, t1.2.2.1, t1.2.2.2.1, ?_⟩, fun j hj => ?_⟩) q1
  · show T.2.1 6 + 1 = _
    rw [t1.2.2.2.2, nI_succ]
  · show FQ ((setA T.2 6 (nI (4 * k + 3)) T.1).2 6) j
    rw [setA6 (by omega), eT]
    by_cases e : j = k
    · subst e
      unfold FQ
      rw [upd_n (by omega), upd_n (by omega), upd_n (by omega), upd_s, e1]
      exact ⟨h0, h1, h2, v, by omega, rfl⟩
    · exact fq_upd (k := k) (by omega) (by omega) (h.2 j (by omega))
theorem rs4 {ν : Mo} {m a k : Nat} (hk : k < 100) (h : IN ν m a k) (h0 : AD (ν.2 6 (4 * k))) (h1 : AD (ν.2 6 (4 * k + 1))) (h2 : ¬ ν.2 6 (4 * k + 2) = -4 → WH (ν.2 6 (4 * k + 2)) 4) : RS ν (mR4 ν (nI (4 * k))) m (a + 2) k := by
  obtain ⟨a1, t1, l1, v1, g1⟩ := takes_ta (c := 64) h.1
  have hkp := kp_takes (μ := ν) (c := 64)
  unfold mR4
  rw [c4_2, ga6 (by omega)]
  generalize mTakes ν 64 = T at *
  by_cases c : ν.2 6 (4 * k + 2) = -4
  · rw [if_pos c]; exact rs_0 kp_refl
  rw [if_neg c]
  by_cases c2 : T.1 = 0
  · rw [if_pos c2]; exact rs_0 hkp
  rw [if_neg c2]
  have eT : T.2.2 6 = ν.2 6 := by rw [g1]
  exact rs_tr hkp (rs5 (a := a1) hk ⟨t1, by rw [eT]; exact h.2⟩ (by rw [eT]; exact h0) (by rw [eT]; exact h1) (by rw [eT]; exact h2 c)) (by have := v1 c2; omega)
