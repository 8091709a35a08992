/-! frames on their way -/
def AR (A W : Nat → Int32) (i : Nat) : Prop := (A (4 * i + 3) = W (4 * i) ∧ A (4 * i) = W (4 * i + 1) ∧ A (4 * i + 1) = W (4 * i + 2) ∧ A (4 * i + 2) = W (4 * i + 3)) ∧ PO (W (4 * i)) ∧ AS (W (4 * i + 1)) ∧ AD (W (4 * i + 2)) ∧ WH (W (4 * i + 3)) 4
def ZR (C N r : Nat) (S : Sy) (ν : Mo) : Prop := RC C N (S.1 0) (ν.2 0) ∧ S.2.1 5 = nI r ∧ ν.1 3 = nI r ∧ ∀ i, i < r → AR (S.2.2 1) (ν.2 4) i
/-- what stays of the class, and of its arrivals but for their row and number -/
def FS (S T : Sy) : Prop := (∀ i, i ≠ 0 → T.1 i = S.1 i) ∧ (∀ i, i ≠ 5 → i ≠ 4 → T.2.1 i = S.2.1 i) ∧ T.2.2 0 = S.2.2 0
theorem fs_r (S : Sy) : FS S S := ⟨fun _ _ => rfl, fun _ _ _ => rfl, rfl⟩
theorem fs_t {S T U : Sy} (h : FS S T) (g : FS T U) : FS S U := ⟨fun i hi => (g.1 i hi).trans (h.1 i hi), fun i h1 h2 => (g.2.1 i h1 h2).trans (h.2.1 i h1 h2), g.2.2.trans h.2.2⟩
theorem fs_st {S : Sy} {σ : St} : FS S (xst S 0 σ) := ⟨fun i hi => if_neg hi, fun _ _ _ => rfl, rfl⟩
theorem rPut_k {n k : Nat} {f : Nat → Int32} {v : Int32} (hk : k < n) (hn : n < 1000000) : rPut n f (nI k) v = upd f k v := by
  unfold rPut
  rw [if_neg (nI_pos (by omega)), if_pos (nI_lt hk (by omega)), nI_clamp (by omega)]
theorem put_row (T : Sy) (i v : Int32) : (xPut T i v).2.2 1 = rPut 384 (T.2.2 1) i v := by
  unfold xPut
  generalize rPut 384 (T.2.2 1) i v = F
  rfl
theorem sc_at (T : Sy) (i : Nat) (v : Int32) : (xsc T i v).2.1 i = v := if_pos rfl
theorem put_sc (T : Sy) (i v : Int32) : (xPut T i v).2.1 = T.2.1 := by
  unfold xPut
  generalize rPut 384 (T.2.2 1) i v = F
  rfl
theorem sc_row (T : Sy) (i : Nat) (v : Int32) : (xsc T i v).2.2 1 = T.2.2 1 := rfl
theorem app_row {S : Sy} {r : Nat} {q s d pr : Int32} (hr : r < 96) (e : S.2.1 5 = nI r) : (xApp S q s d pr).2.2 1 = upd (upd (upd (upd (S.2.2 1) (4 * r) s) (4 * r + 1) d) (4 * r + 2) pr) (4 * r + 3) q := by
  unfold xApp
  rw [e, if_pos (nlt_lit (b := 96) hr (by decide)), show (4 : Int32) = nI 4 from rfl, pk_mul, Nat.mul_comm r 4, sc_row]
  unfold xApp4
  rw [put_row, put_row, put_row, put_row]
  rw [show (0 : Int32) = nI 0 from rfl, show (1 : Int32) = nI 1 from rfl, show (2 : Int32) = nI 2 from rfl, show (3 : Int32) = nI 3 from rfl, nI_add, nI_add, nI_add, nI_add, rPut_k (by omega) (by decide), rPut_k (by omega) (by decide), rPut_k (by omega) (by decide), rPut_k (by omega) (by decide), Nat.add_zero]
theorem app_5 {S : Sy} {r : Nat} {q s d pr : Int32} (hr : r < 96) (e : S.2.1 5 = nI r) : (xApp S q s d pr).2.1 5 = nI (r + 1) := by
  unfold xApp
  rw [e, if_pos (nlt_lit (b := 96) hr (by decide))]
  rw [sc_at]
  unfold xApp4
  rw [put_sc, put_sc, put_sc, put_sc, e, nI_succ]
theorem app_1 {S : Sy} {q s d pr : Int32} : (xApp S q s d pr).1 = S.1 := by
  unfold xApp
  by_cases c : S.2.1 5 < 96
  · rw [if_pos c]; rfl
  · rw [if_neg c]
theorem app_fs {S : Sy} {q s d pr : Int32} : FS S (xApp S q s d pr) := by
  refine ⟨fun i _ => by rw [app_1], fun i h1 h2 => ?_, ?_⟩
  · unfold xApp
    by_cases c : S.2.1 5 < 96
    · rw [if_pos c]; exact if_neg h1
    · rw [if_neg c]
  · unfold xApp
    by_cases c : S.2.1 5 < 96
    · rw [if_pos c]; rfl
    · rw [if_neg c]
theorem sl_1 {S : Sy} {p q : Int32} : ∀ n, (xSL S p q n).1 = S.1
  | 0 => rfl
  | n + 1 => app_1.trans (sl_1 n)
theorem sl_fs {S : Sy} {p q : Int32} : ∀ n, FS S (xSL S p q n)
  | 0 => fs_r S
  | n + 1 => fs_t (sl_fs n) app_fs
/-- a further frame on its way -/
theorem ar_put {A W : Nat → Int32} {r : Nat} {q s d pr : Int32} (h : ∀ i, i < r → AR A W i) (hq : PO q) (hs : AS s) (hd : AD d) (hr : WH pr 4) : ∀ i, i < r + 1 → AR (upd (upd (upd (upd A (4 * r) s) (4 * r + 1) d) (4 * r + 2) pr) (4 * r + 3) q) (upd (upd (upd (upd W (4 * r) q) (4 * r + 1) s) (4 * r + 2) d) (4 * r + 3) pr) i := by
  intro i hi
  by_cases c : i = r
  · subst c
    unfold AR
    simp (disch := omega) only [upd_s, upd_n]
    exact ⟨⟨trivial, trivial, trivial, trivial⟩, hq, hs, hd, hr⟩
  · have := h i (by omega)
    unfold AR at *
    simp (disch := omega) only [upd_n]
    exact this
-- what the reference's sending does
theorem sb_0 {μ : Mo} {k : Nat} {c : Int32} (hk : k < 8) : (mSb μ (nI k) c).2 0 = if 0 < μ.2 0 (8 + 20 * k + 3) then upd (μ.2 0) (8 + 20 * k + 6 + 9) (μ.2 0 (8 + 20 * k + 6 + 9) + 1) else upd (upd (μ.2 0) (8 + 20 * k + 6 + 9) (μ.2 0 (8 + 20 * k + 6 + 9) + 1)) (8 + 20 * k + 6 + 10) (μ.2 0 (8 + 20 * k + 6 + 10) + 1) := by
  unfold mSb
  rw [show (3 : Int32) = nI 3 from rfl, show (9 : Int32) = nI 9 from rfl, show (10 : Int32) = nI 10 from rfl, of_nI hk (by decide), more_k hk (by decide), upd_n (show 8 + 20 * k + 3 ≠ 8 + 20 * k + 6 + 9 by omega)]
  by_cases c : 0 < μ.2 0 (8 + 20 * k + 3)
  · rw [if_pos c, if_pos c]
    show (mMore μ (nI k) (nI 9)).2 0 = _
    rw [more_k hk (by decide)]
  · rw [if_neg c, if_neg c, more_k hk (by decide), more_k hk (by decide), upd_n (show 8 + 20 * k + 6 + 10 ≠ 8 + 20 * k + 6 + 9 by omega)]
theorem sends_0 {μ : Mo} {k M jj : Nat} (hk : k < 8) (hM : M < 12) (hj : jj < M + 1) (ea : mAt μ (nI k) 0 = nI jj) (e5 : μ.2 0 (8 + 20 * k + 5) = nI (M + 1)) : (mSends μ (nI k)).2 0 = sndR ((mSb μ (nI k) (nI (168 + 48 * k + 4 * jj))).2 0) k M jj := by
  unfold mSends
  rw [ea, ix_qc0]
  have h5 : (mSb μ (nI k) (nI (168 + 48 * k + 4 * jj))).2 0 (8 + 20 * k + 5) = nI (M + 1) := by
    rw [sb_0 hk]
    by_cases c : 0 < μ.2 0 (8 + 20 * k + 3)
    · rw [if_pos c, upd_n (by omega)]; exact e5
    · rw [if_neg c, upd_n (by omega), upd_n (by omega)]; exact e5
  generalize mSb μ (nI k) (nI (168 + 48 * k + 4 * jj)) = β at *
  have e1 : (mSc β (nI k)).2 0 = upd (β.2 0) (8 + 20 * k + 5) (nI M) := by
    unfold mSc
    rw [show (5 : Int32) = nI 5 from rfl, of_nI hk (by decide), to_k hk (by decide), h5, nI_pred]
  have e2 : mOf (mSc β (nI k)) (nI k) 5 = nI M := by
    rw [show (5 : Int32) = nI 5 from rfl, of_nI hk (by decide), e1, upd_s]
  unfold mSd
  rw [e2, ix_qc0, nI_clamp (by omega), nI_clamp (by omega), e1, show 168 + 48 * k + 4 * M - (168 + 48 * k + 4 * jj) = 4 * (M - jj) by omega]
  exact mar_at
theorem sends_1 {μ : Mo} {p : Int32} : (mSends μ p).1 = (mSb μ p (mQc p (mAt μ p 0))).1 := rfl
theorem sends_4 {μ : Mo} {p : Int32} : (mSends μ p).2 4 = (mSb μ p (mQc p (mAt μ p 0))).2 4 := rfl
