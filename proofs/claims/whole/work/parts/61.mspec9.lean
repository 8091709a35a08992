/-! the reference: a second -/
def mS1 (x : Int32 × Mo) (p : Int32) : Int32 × Mo := if mOpen x.2 p = 0 then x else if 0 < mOf x.2 p 5 then (x.1 + 1, mSends x.2 p) else x
def mSr (x : Int32 × Mo) (p : Int32) : Nat → Int32 × Mo
  | 0 => x
  | n + 1 => mS1 (mSr x p n) p
def mS8 (μ : Mo) (R : Nat) : Nat → Int32 × Mo
  | 0 => (0, msc μ 3 0)
  | k + 1 => mSr (mS8 μ R k) (nI k) R
def mArr (ν : Mo) : Nat → Mo
  | 0 => ν
  | k + 1 => (mCome (mArr ν k) (ga (mArr ν k) 4 (4 * nI k)) (ga (mArr ν k) 4 (4 * nI k + 1)) (ga (mArr ν k) 4 (4 * nI k + 2)) (ga (mArr ν k) 4 (4 * nI k + 3))).2
def mEQ (ν : Mo) : Nat → Mo
  | 0 => ν
  | k + 1 => mTo (mTo (mEQ ν k) (nI k) 1 (if now (mEQ ν k) 4 < mOf (mEQ ν k) (nI k) 1 then mOf (mEQ ν k) (nI k) 1 else 0)) (nI k) 4 0
def mOA (ν : Mo) (x : Int32) : Mo := if 0 < now ν (552 + x) then (if now ν 4 - now ν (652 + x) < now ν 0 then ν else setNow ν (552 + x) 0) else ν
def mOB (ν : Mo) (x : Int32) : Mo := setNow ν (752 + 10 * x + (now ν 4 - now ν 4 / 10 * 10)) 0
def mAge (ν : Mo) : Nat → Mo
  | 0 => ν
  | k + 1 => mOB (mOA (mAge ν k) (nI (k + 1))) (nI (k + 1))
def mG2 (ν : Mo) : Mo := mArr ν (ν.1 3).toNatClampNeg
def mG3 (ν : Mo) : Mo := setNow ν 4 (now ν 4 + 1)
def mG5 (ν : Mo) : Mo := mAge (mEQ ν 8) 99
def mGoes (μ : Mo) : Int32 × Mo := ((mS8 μ (now μ 3).toNatClampNeg 8).1, mG5 (mG3 (mG2 (mS8 μ (now μ 3).toNatClampNeg 8).2)))
theorem gs_mono {O : Mo} {R C n m : Nat} {ν : Mo} (h : GS O R C n ν) (hm : n ≤ m) : GS O R C m ν := by
  obtain ⟨a, b, r, c, d⟩ := h
  exact ⟨a, b, r, by omega, d⟩
theorem gs_rate {O : Mo} {R C n : Nat} {ν : Mo} (h : GS O R C n ν) : now ν 3 = nI R := h.1.2.2.1
theorem gs_way {O : Mo} {R C n : Nat} {ν : Mo} (h : GS O R C n ν) (hn : n < 80) : ∃ r : Nat, r < 80 ∧ ν.1 3 = nI r := by
  obtain ⟨a, b, r, c, d⟩ := h
  exact ⟨r, by omega, d.1⟩
theorem gs_1 {O : Mo} {R C n k : Nat} {x : Int32 × Mo} (hk : k < 8) (h : GS O R C n x.2) (hn : n < 80) : GS O R C (n + 1) (mS1 x (nI k)).2 := by
  unfold mS1
  by_cases c : mOpen x.2 (nI k) = 0
  · rw [if_pos c]; exact gs_mono h (by omega)
  rw [if_neg c]
  by_cases c2 : 0 < mOf x.2 (nI k) 5
  · rw [if_pos c2]; exact (gs_sends hk h hn c2).2
  · rw [if_neg c2]; exact gs_mono h (by omega)
theorem gs_r {O : Mo} {R C n k : Nat} {x : Int32 × Mo} (hk : k < 8) (h : GS O R C n x.2) : ∀ j, n + j ≤ 80 → GS O R C (n + j) (mSr x (nI k) j).2
  | 0, _ => h
  | j + 1, hj => gs_1 (n := n + j) hk (gs_r hk h j (by omega)) (by omega)
theorem gs_8 {R C : Nat} {μ : Mo} (hR : R ≤ 10) (h : GBf R C (μ.2 0)) : ∀ k, k ≤ 8 → GS μ R C (10 * k) (mS8 μ R k).2
  | 0, _ => ⟨h, ⟨fun j _ q => if_neg q, fun _ _ _ => rfl⟩, 0, Nat.le_refl 0, rfl, fun j hj => absurd hj (Nat.not_lt_zero j)⟩
  | k + 1, hk => gs_mono (gs_r (by omega) (gs_8 hR h k (by omega)) R (by omega)) (by omega)
theorem way_at {O ν : Mo} {R C r k : Nat} (hW : WY O r) (hr : r ≤ 80) (h : GA O R C ν) (hk : k < r) : PO (ga ν 4 (4 * nI k)) ∧ AD (ga ν 4 (4 * nI k + 1)) ∧ AD (ga ν 4 (4 * nI k + 2)) ∧ WH (ga ν 4 (4 * nI k + 3)) 4 := by
  unfold ga
  rw [h.2.2.2.2.2 4 (by decide), show (4 : Int32) * nI k = nI (4 * k) from by rw [show (4 : Int32) = nI 4 from rfl, pk_mul], show (1 : Int32) = nI 1 from rfl, show (2 : Int32) = nI 2 from rfl, show (3 : Int32) = nI 3 from rfl, nI_add, nI_add, nI_add, nI_clamp (by omega), nI_clamp (by omega), nI_clamp (by omega), nI_clamp (by omega)]
  exact hW.2 k hk
theorem ga_arr {O : Mo} {R C r : Nat} (h0 : GBf R C (O.2 0)) (hW : WY O r) (hr : r ≤ 80) : ∀ k, k ≤ r → GA O R C (mArr O k)
  | 0, _ => gb_ga h0
  | k + 1, hk => by
    have ih := ga_arr h0 hW hr k (by omega)
    obtain ⟨a, b, c, d⟩ := way_at hW hr ih (k := k) (by omega)
    exact cl_come (cl_ga O R C) a b c d ih
theorem arr_way {O : Mo} {R C r k : Nat} (h0 : GBf R C (O.2 0)) (hW : WY O r) (hr : r ≤ 80) (hk : k ≤ r) : (mArr O k).1 3 = nI r := ((ga_arr h0 hW hr k hk).2.2.2.2.1 3 (by decide)).trans hW.1
theorem mi_clk1 {O ν : Mo} {R C : Nat} (hC : C < 2147483647) (h : GA O R C ν) : MIv (setNow ν 4 (now ν 4 + 1)) :=
  mi_clock ⟨C + 1, by omega, by rw [show now ν 4 = nI C from h.2.2.2.1, nI_succ]⟩ h.1
theorem mi_eq {ν : Mo} (h : MIv ν) : ∀ k, k ≤ 8 → MIv (mEQ ν k)
  | 0, _ => h
  | k + 1, hk => mi_to (po_nI (by omega)) ⟨4, by decide, by decide, by decide, rfl⟩ (mi_to (po_nI (by omega)) ⟨1, by decide, by decide, by decide, rfl⟩ (mi_eq h k (by omega)))
theorem mi_oa {ν : Mo} {x : Int32} (hx : AD x) (h : MIv ν) : MIv (mOA ν x) := by
  unfold mOA
  by_cases c : 0 < now ν (552 + x)
  · rw [if_pos c]
    by_cases c2 : now ν 4 - now ν (652 + x) < now ν 0
    · rw [if_pos c2]; exact h
    · rw [if_neg c2]; exact mi_tab hx (wh_0 (by decide)) h
  · rw [if_neg c]; exact h
theorem mi_age {ν : Mo} (h : MIv ν) : ∀ k, k < 100 → MIv (mAge ν k)
  | 0, _ => h
  | k + 1, hk => mi_mov (ad_nI hk) (wh_rem (mi_clk (mi_oa (ad_nI hk) (mi_age h k (by omega))))) (mi_oa (ad_nI hk) (mi_age h k (by omega)))
theorem sr_stop {x : Int32 × Mo} {p : Int32} {j : Nat} (h : mS1 (mSr x p j) p = mSr x p j) : ∀ n, j ≤ n → mSr x p n = mSr x p j
  | 0, hn => by
    obtain rfl : j = 0 := by omega
    rfl
  | n + 1, hn => by
    by_cases c : j = n + 1
    · rw [c]
    · show mS1 (mSr x p n) p = _
      rw [sr_stop h n (by omega)]; exact h
