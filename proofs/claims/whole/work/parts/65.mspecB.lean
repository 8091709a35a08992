/-! the reference: the frames of the text -/
def mRF : Nat → Mo → Int32 × Mo
  | 0, μ => (0, μ)
  | n + 1, μ => if (mReads μ).1 = 0 then (0, (mReads μ).2) else if (mReads μ).2.1 5 < (mReads μ).2.1 4 then mRF n (msc (mReads μ).2 5 ((mReads μ).2.1 5 + 1)) else (1, msc (mReads μ).2 5 ((mReads μ).2.1 5 + 0))
def mRds (μ : Mo) : Int32 × Mo := mRF 13 (msc (msc μ 5 0) 6 0)
def mIns (ν : Mo) : Nat → Int32 × Mo
  | 0 => (0, ν)
  | k + 1 => ((mIns ν k).1 + (if (mCome (mIns ν k).2 (ga (mIns ν k).2 6 (4 * nI k + 3)) (ga (mIns ν k).2 6 (4 * nI k)) (ga (mIns ν k).2 6 (4 * nI k + 1)) (ga (mIns ν k).2 6 (4 * nI k + 2))).1 = 0 then 0 else 1),
      (mCome (mIns ν k).2 (ga (mIns ν k).2 6 (4 * nI k + 3)) (ga (mIns ν k).2 6 (4 * nI k)) (ga (mIns ν k).2 6 (4 * nI k + 1)) (ga (mIns ν k).2 6 (4 * nI k + 2))).2)
def mRead (μ : Mo) : Int32 × Mo := if (mRds μ).1 = 0 then (-100 - (mRds μ).2.1 5, (mRds μ).2) else mIns (mRec (mRds μ).2) ((mRds μ).2.1 6).toNatClampNeg
/-- at a of m characters, k frames read -/
def TA (μ : Mo) (m a k : Nat) : Prop := a ≤ m ∧ m ≤ 70 ∧ μ.1 4 = nI m ∧ μ.1 5 = nI a ∧ μ.1 6 = nI k
def KP (O μ : Mo) : Prop := (∀ j, j ≠ 5 → j ≠ 6 → μ.1 j = O.1 j) ∧ (∀ j, j ≠ 6 → μ.2 j = O.2 j)
theorem ta_tx {μ : Mo} {m a k : Nat} (h : TA μ m a k) : TXv μ := ⟨m, a, h.1, h.2.1, h.2.2.1, h.2.2.2.1⟩
theorem ta_at {μ : Mo} {m a k : Nat} (h : TA μ m a k) (c : μ.1 5 < μ.1 4) : TA (msc μ 5 (μ.1 5 + 1)) m (a + 1) k := by
  obtain ⟨h1, h2, h3, h4, h5⟩ := h
  rw [h3, h4, nI_ltI (by omega) (by omega)] at c
  exact ⟨c, h2, h3, by show μ.1 5 + 1 = _; rw [h4, nI_succ], h5⟩
theorem takes_ta {μ : Mo} {c : Int32} {m a k : Nat} (h : TA μ m a k) : ∃ a', TA (mTakes μ c).2 m a' k ∧ a ≤ a' ∧ (¬ (mTakes μ c).1 = 0 → a + 1 ≤ a') ∧ (mTakes μ c).2.2 = μ.2 := by
  unfold mTakes
  by_cases c1 : μ.1 5 < μ.1 4
  · rw [if_pos c1]
    by_cases c2 : μ.2 5 (μ.1 5).toNatClampNeg = c
    · rw [if_pos c2]; exact ⟨a + 1, ta_at h c1, by omega, fun _ => Nat.le_refl _, rfl⟩
    · rw [if_neg c2]; exact ⟨a, h, Nat.le_refl a, fun q => absurd rfl q, rfl⟩
  · rw [if_neg c1]; exact ⟨a, h, Nat.le_refl a, fun q => absurd rfl q, rfl⟩
theorem dig_val {x : Int32} {lo hi : Nat} (hl : hi < 10) (h : ¬ mIn x (48 + nI lo) (48 + nI hi) = 0) (hlo : lo ≤ hi) : ∃ v : Nat, lo ≤ v ∧ v ≤ hi ∧ x - 48 = nI v := by
  have e1 : (48 : Int32) + nI lo = nI (48 + lo) := by rw [show (48 : Int32) = nI 48 from rfl, nI_add]
  have e2 : (48 : Int32) + nI hi = nI (48 + hi) := by rw [show (48 : Int32) = nI 48 from rfl, nI_add]
  rw [e1, e2] at h
  unfold mIn at h
  by_cases c1 : x < nI (48 + lo)
  · rw [if_pos c1] at h; exact absurd rfl h
  rw [if_neg c1] at h
  by_cases c2 : nI (48 + hi) < x
  · rw [if_pos c2] at h; exact absurd rfl h
  have t1 : (nI (48 + lo)).toInt = (48 + lo : Nat) := nI_toInt (by omega)
  have t2 : (nI (48 + hi)).toInt = (48 + hi : Nat) := nI_toInt (by omega)
  rw [Int32.lt_iff_toInt_lt] at c1 c2
  have c0 : ¬ x < 0 := by
    rw [Int32.lt_iff_toInt_lt]
    have h2 : (0 : Int32).toInt = 0 := rfl
    omega
  obtain ⟨j, hj, rfl⟩ := nI_of c0
  have t3 : (nI j).toInt = (j : Nat) := nI_toInt hj
  refine ⟨j - 48, by omega, by omega, ?_⟩
  obtain ⟨i, rfl⟩ : ∃ i, j = i + 48 := ⟨j - 48, by omega⟩
  rw [show i + 48 - 48 = i by omega, ← nI_add]
  exact Int32.add_sub_cancel _ _
theorem digit_ta {μ : Mo} {lo hi m a k : Nat} (hl : hi < 10) (hlo : lo ≤ hi) (h : TA μ m a k) : ∃ a', TA (mDigit μ (nI lo) (nI hi)).2 m a' k ∧ a ≤ a' ∧ (¬ (mDigit μ (nI lo) (nI hi)).1 = -4 → a + 1 ≤ a' ∧ ∃ v, lo ≤ v ∧ v ≤ hi ∧ (mDigit μ (nI lo) (nI hi)).1 = nI v) ∧ (mDigit μ (nI lo) (nI hi)).2.2 = μ.2 := by
  unfold mDigit
  by_cases c1 : μ.1 5 < μ.1 4
  · rw [if_pos c1]
    by_cases c2 : mIn (μ.2 5 (μ.1 5).toNatClampNeg) (48 + nI lo) (48 + nI hi) = 0
    · rw [if_pos c2]; exact ⟨a, h, Nat.le_refl a, fun q => absurd rfl q, rfl⟩
    · rw [if_neg c2]
      refine ⟨a + 1, ta_at h c1, by omega, fun _ => ⟨Nat.le_refl _, ?_⟩, rfl⟩
      rw [Int32.add_sub_cancel]
      exact dig_val hl c2 hlo
  · rw [if_neg c1]; exact ⟨a, h, Nat.le_refl a, fun q => absurd rfl q, rfl⟩
theorem addr_ta {μ : Mo} {m a k : Nat} (h : TA μ m a k) : ∃ a', TA (mAddr μ).2 m a' k ∧ a ≤ a' ∧ (¬ (mAddr μ).1 = -4 → a + 1 ≤ a' ∧ ∃ v, 1 ≤ v ∧ v ≤ 99 ∧ (mAddr μ).1 = nI v) ∧ (mAddr μ).2.2 = μ.2 := by
  obtain ⟨a1, t1, l1, v1, g1⟩ := digit_ta (lo := 1) (hi := 9) (by decide) (by decide) h
  obtain ⟨a2, t2, l2, v2, g2⟩ := digit_ta (lo := 0) (hi := 9) (by decide) (by decide) t1
  unfold mAddr
  rw [show mDigit μ 1 9 = mDigit μ (nI 1) (nI 9) from rfl, show mDigit (mDigit μ (nI 1) (nI 9)).2 0 9 = mDigit (mDigit μ (nI 1) (nI 9)).2 (nI 0) (nI 9) from rfl]
  generalize mDigit μ (nI 1) (nI 9) = T1 at *
  generalize mDigit T1.2 (nI 0) (nI 9) = T2 at *
  by_cases c1 : T1.1 = -4
  · rw [if_pos c1]; exact ⟨a1, t1, l1, fun q => absurd rfl q, g1⟩
  rw [if_neg c1]
  obtain ⟨q1, v, b1, b2, e1⟩ := v1 c1
  by_cases c2 : T2.1 = -4
  · rw [if_pos c2]; exact ⟨a2, t2, by omega, fun _ => ⟨by omega, v, b1, by omega, e1⟩, g2.trans g1⟩
  · rw [if_neg c2]
    obtain ⟨q2, w, b3, b4, e2⟩ := v2 c2
    refine ⟨a2, t2, by omega, fun _ => ⟨by omega, 10 * v + w, by omega, by omega, ?_⟩, g2.trans g1⟩
    show 10 * T1.1 + T2.1 = _
    rw [e1, e2, show (10 : Int32) = nI 10 from rfl, pk_mul, nI_add]
