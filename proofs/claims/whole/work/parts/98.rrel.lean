/-! class and reference, bound as a whole -/
def RX (T : Nat) (σ : St) (f : Nat → Int32) : Prop := ∃ C N, C ≤ 10 * T ∧ N ≤ 7000 * T ∧ RC C N σ f
theorem RX.mono {T T' : Nat} {σ : St} {f : Nat → Int32} (h : RX T σ f) (hT : T ≤ T') : RX T' σ f := by
  obtain ⟨C, N, h1, h2, h3⟩ := h
  exact ⟨C, N, by omega, Nat.le_trans h2 (Nat.mul_le_mul_left 7000 hT), h3⟩
theorem RX.ext {T : Nat} {σ : St} {f g : Nat → Int32} (h : RX T σ f) (e : ∀ j, j < 1752 → g j = f j) : RX T σ g := by
  obtain ⟨C, N, h1, h2, h3⟩ := h
  exact ⟨C, N, h1, h2, h3.ext e⟩
def KM (μ ν : Mo) : Prop := ν.1 0 = μ.1 0 ∧ ν.1 1 = μ.1 1 ∧ ν.1 4 = μ.1 4 ∧ ν.2 1 = μ.2 1 ∧ ν.2 2 = μ.2 2 ∧ ν.2 5 = μ.2 5
theorem km_r (μ : Mo) : KM μ μ := ⟨rfl, rfl, rfl, rfl, rfl, rfl⟩
theorem km_t {a b c : Mo} (h : KM a b) (g : KM b c) : KM a c := ⟨g.1.trans h.1, g.2.1.trans h.2.1, g.2.2.1.trans h.2.2.1, g.2.2.2.1.trans h.2.2.2.1, g.2.2.2.2.1.trans h.2.2.2.2.1, g.2.2.2.2.2.trans h.2.2.2.2.2⟩
theorem km_set {μ : Mo} {i v : Int32} : KM μ (setNow μ i v) := ⟨rfl, rfl, rfl, rfl, rfl, rfl⟩
theorem km_to {μ : Mo} {p w v : Int32} : KM μ (mTo μ p w v) := km_set
theorem km_fr {μ ν : Mo} (h1 : ∀ j, j ≠ 2 → j ≠ 3 → ν.1 j = μ.1 j) (h2 : ∀ j, j ≠ 0 → j ≠ 4 → ν.2 j = μ.2 j) : KM μ ν := ⟨h1 0 (by decide) (by decide), h1 1 (by decide) (by decide), h1 4 (by decide) (by decide), h2 1 (by decide) (by decide), h2 2 (by decide) (by decide), h2 5 (by decide) (by decide)⟩
def FX (S T : Sy) : Prop := (∀ i, i ≠ 0 → i ≠ 2 → T.1 i = S.1 i) ∧ (∀ i, i ≠ 5 → i ≠ 4 → T.2.1 i = S.2.1 i) ∧ T.2.2 0 = S.2.2 0
theorem fx_fs {S T : Sy} (h : FS S T) : FX S T := ⟨fun i h1 _ => h.1 i h1, h.2⟩
def RZ (T nx : Nat) (S : Sy) (μ : Mo) : Prop :=
  RX T (S.1 0) (μ.2 0) ∧ (nx < 4 ∧ S.2.1 1 = nI nx) ∧ (∃ q, q ≤ 4 ∧ S.2.1 2 = nI q ∧ μ.1 0 = nI q ∧ ∀ i, i < q → RX T (S.1 (3 + (nx + 4 - q + i) % 4)) (fun j => μ.2 1 (1752 * i + j))) ∧ (S.2.1 0 = μ.1 1 ∧ (¬ μ.1 1 = 0 → RX T (S.1 1) (μ.2 2))) ∧ ∃ m, TC m S μ
theorem rl_now {T T' nx : Nat} {S S' : Sy} {μ ν : Mo} (h : RZ T nx S μ) (hT : T ≤ T') (hf : FX S S') (hk : KM μ ν) (hx : RX T' (S'.1 0) (ν.2 0)) : RZ T' nx S' ν := by
  obtain ⟨h1, h2, ⟨q, q1, q2, q3, q4⟩, ⟨h4, h5⟩, m, m1, m2, m3, m4⟩ := h
  obtain ⟨k0, k1, k4, r1, r2, r5⟩ := hk
  refine ⟨hx, ⟨h2.1, ?_⟩, ⟨q, q1, ?_, ?_, fun i hi => ?_⟩, ⟨?_, fun hz => ?_⟩, m, m1, ?_, ?_, fun i hi => ?_⟩
  · rw [hf.2.1 1 (by decide) (by decide)]; exact h2.2
  · rw [hf.2.1 2 (by decide) (by decide)]; exact q2
  · rw [k0]; exact q3
  · rw [hf.1 _ (by omega) (by omega), r1]; exact (q4 i hi).mono hT
  · rw [hf.2.1 0 (by decide) (by decide), k1]; exact h4
  · rw [k1] at hz
    rw [hf.1 1 (by decide) (by decide), r2]; exact (h5 hz).mono hT
  · rw [hf.2.1 3 (by decide) (by decide)]; exact m2
  · rw [k4]; exact m3
  · rw [hf.2.2, r5]; exact m4 i hi
theorem rl_mono {T T' nx : Nat} {S : Sy} {μ : Mo} (h : RZ T nx S μ) (hT : T ≤ T') : RZ T' nx S μ := rl_now h hT ⟨fun _ _ _ => rfl, fun _ _ _ => rfl, rfl⟩ (km_r μ) (h.1.mono hT)
theorem rem4_n : ∀ n : Fin 4, rem4 (nI n.val + 1) = nI ((n.val + 1) % 4) := by decide +kernel
theorem rec_0 {μ : Mo} : (mRec μ).2 0 = μ.2 0 := by
  unfold mRec
  by_cases c : μ.1 0 = 4
  · rw [if_pos c]; rfl
  · rw [if_neg c]; rfl
theorem rec_x {nx : Nat} {S : Sy} : (xRec nx S).1 0 = S.1 0 := by
  show (if 0 = 3 + nx then S.1 0 else S.1 0) = _
  rw [if_neg (by omega)]
theorem rec_xi {nx i : Nat} {S : Sy} (h : i ≠ 3 + nx) : (xRec nx S).1 i = S.1 i := if_neg h
theorem rec_xn {nx : Nat} {S : Sy} : (xRec nx S).1 (3 + nx) = S.1 0 := if_pos rfl
theorem rl_rec {T nx : Nat} {S : Sy} {μ : Mo} (h : RZ T nx S μ) : RZ T ((nx + 1) % 4) (xRec nx S) (mRec μ) := by
  obtain ⟨h1, ⟨n1, n2⟩, ⟨q, q1, q2, q3, q4⟩, ⟨h4, h5⟩, m, m1, m2, m3, m4⟩ := h
  have e1 : (mRec μ).1 1 = μ.1 1 := by
    unfold mRec
    by_cases c : μ.1 0 = 4
    · rw [if_pos c]; rfl
    · rw [if_neg c]; rfl
  have e4 : (mRec μ).1 4 = μ.1 4 := by
    unfold mRec
    by_cases c : μ.1 0 = 4
    · rw [if_pos c]; rfl
    · rw [if_neg c]; rfl
  have e2 : (mRec μ).2 2 = μ.2 2 := by
    unfold mRec
    by_cases c : μ.1 0 = 4
    · rw [if_pos c]; rfl
    · rw [if_neg c]; rfl
  have e5 : (mRec μ).2 5 = μ.2 5 := by
    unfold mRec
    by_cases c : μ.1 0 = 4
    · rw [if_pos c]; rfl
    · rw [if_neg c]; rfl
  refine ⟨?_, ⟨Nat.mod_lt _ (by decide), ?_⟩, ?_, ⟨?_, fun hz => ?_⟩, m, m1, ?_, ?_, fun i hi => ?_⟩
  · rw [rec_x, rec_0]; exact h1
  · show rem4 (S.2.1 1 + 1) = _
    rw [n2]; exact rem4_n ⟨nx, n1⟩
  · have es : (xRec nx S).2.1 2 = if 4 < S.2.1 2 + 1 then 4 else S.2.1 2 + 1 := rfl
    by_cases c : q = 4
    · subst c
      refine ⟨4, Nat.le_refl 4, ?_, ?_, fun i hi => ?_⟩
      · rw [es, q2]; decide
      · unfold mRec
        rw [if_pos (show μ.1 0 = 4 from q3)]
        show μ.1 0 - 1 + 1 = _
        rw [q3]; decide
      · have em : (mRec μ).2 1 = blk (blk (μ.2 1) (fun j => μ.2 1 (j + 1752)) 0 5256) (μ.2 0) (1752 * 3) 1752 := by
          unfold mRec
          rw [if_pos (show μ.1 0 = 4 from q3)]
          show blk _ _ (1752 * (μ.1 0 - 1).toNatClampNeg) 1752 = _
          rw [q3, show (nI 4 - 1).toNatClampNeg = 3 from by decide]
          rfl
        rw [em]
        by_cases c2 : i = 3
        · subst c2
          rw [show 3 + ((nx + 1) % 4 + 4 - 4 + 3) % 4 = 3 + nx by omega, rec_xn]
          refine h1.ext fun j hj => ?_
          rw [blk_in (by omega) (by omega), Nat.add_sub_cancel_left]
        · rw [rec_xi (by omega), show 3 + ((nx + 1) % 4 + 4 - 4 + i) % 4 = 3 + (nx + 4 - 4 + (i + 1)) % 4 by omega]
          refine (q4 (i + 1) (by omega)).ext fun j hj => ?_
          rw [blk_out (by omega), blk_in (by omega) (by omega)]
          show μ.2 1 (1752 * i + j - 0 + 1752) = μ.2 1 (1752 * (i + 1) + j)
          rw [show 1752 * i + j - 0 + 1752 = 1752 * (i + 1) + j by omega]
    · refine ⟨q + 1, by omega, ?_, ?_, fun i hi => ?_⟩
      · rw [es, q2, ← nI_succ, if_neg (nle_lit (b := 4) (by omega) (by decide))]
      · unfold mRec
        rw [if_neg (show ¬ μ.1 0 = 4 from fun z => c ((nI_eq (b := 4) (by omega) (by decide)).mp (q3.symm.trans z)))]
        show μ.1 0 + 1 = _
        rw [q3, nI_succ]
      · have em : (mRec μ).2 1 = blk (μ.2 1) (μ.2 0) (1752 * q) 1752 := by
          unfold mRec
          rw [if_neg (show ¬ μ.1 0 = 4 from fun z => c ((nI_eq (b := 4) (by omega) (by decide)).mp (q3.symm.trans z)))]
          show blk _ _ (1752 * (μ.1 0).toNatClampNeg) 1752 = _
          rw [q3, nI_clamp (by omega)]
        rw [em]
        by_cases c2 : i = q
        · subst c2
          rw [show 3 + ((nx + 1) % 4 + 4 - (i + 1) + i) % 4 = 3 + nx by omega, rec_xn]
          refine h1.ext fun j hj => ?_
          rw [blk_in (by omega) (by omega), Nat.add_sub_cancel_left]
        · rw [rec_xi (by omega), show 3 + ((nx + 1) % 4 + 4 - (q + 1) + i) % 4 = 3 + (nx + 4 - q + i) % 4 by omega]
          refine (q4 i (by omega)).ext fun j hj => ?_
          have hmul : 1752 * (i + 1) ≤ 1752 * q := Nat.mul_le_mul_left 1752 (by omega)
          rw [blk_out (by omega)]
  · rw [e1]; exact h4
  · rw [e1] at hz
    rw [rec_xi (by omega), e2]; exact h5 hz
  · exact m2
  · rw [e4]; exact m3
  · rw [e5]; exact m4 i hi
def AN (T : Nat) (X : Int32 × Sy) (Y : Int32 × Mo) : Prop := X.1 = Y.1 ∧ ∃ nx, RZ (T + 1) nx X.2 Y.2
theorem an_id {T nx : Nat} {S : Sy} {μ : Mo} {v : Int32} (h : RZ T nx S μ) : AN T (v, S) (v, μ) := ⟨rfl, nx, rl_mono h (Nat.le_succ T)⟩
/-- an act behind the record -/
theorem an_act {T nx : Nat} {S : Sy} {μ ν : Mo} {σ : St} {v w : Int32} (h : RZ T nx S μ) (hv : v = w) (hk : KM (mRec μ) ν) (hx : RX (T + 1) σ (ν.2 0)) : AN T (v, xst (xRec nx S) 0 σ) (w, ν) :=
  ⟨hv, (nx + 1) % 4, rl_now (rl_rec h) (Nat.le_succ T) (fx_fs fs_st) hk (by rw [xst_1]; exact hx)⟩
theorem rx_of {T C N : Nat} {σ : St} {f : Nat → Int32} (hC : C ≤ 10 * T) (hN : N ≤ 7000 * T) (h : RC C N σ f) : RX (T + 1) σ f := ⟨C, N, by omega, Nat.le_trans hN (Nat.mul_le_mul_left 7000 (Nat.le_succ T)), h⟩
