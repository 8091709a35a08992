/-! the reference: seconds -/
theorem cl_eq {P : Mo → Prop} (c : Cl P) {μ : Mo} (h : P μ) : ∀ k, k ≤ 8 → P (mEQ μ k)
  | 0, _ => h
  | k + 1, hk => c.to (po_nI (by omega)) ⟨4, by decide, by decide, by decide, rfl⟩ (c.to (po_nI (by omega)) ⟨1, by decide, by decide, by decide, rfl⟩ (cl_eq c h k (by omega)))
theorem cl_oa {P : Mo → Prop} (c : Cl P) {μ : Mo} {x : Int32} (hx : AD x) (h : P μ) : P (mOA μ x) := by
  unfold mOA
  by_cases c1 : 0 < now μ (552 + x)
  · rw [if_pos c1]
    by_cases c2 : now μ 4 - now μ (652 + x) < now μ 0
    · rw [if_pos c2]; exact h
    · rw [if_neg c2]; exact c.tab hx (wh_0 (by decide)) h
  · rw [if_neg c1]; exact h
theorem cl_age {P : Mo → Prop} (c : Cl P) {μ : Mo} (h : P μ) : ∀ k, k < 100 → P (mAge μ k)
  | 0, _ => h
  | k + 1, hk => c.mov (ad_nI hk) (wh_rem (mi_clk (c.mi (cl_oa c (ad_nI hk) (cl_age c h k (by omega)))))) (cl_oa c (ad_nI hk) (cl_age c h k (by omega)))
theorem gb_g3 {O ν : Mo} {R C : Nat} (hC : C < 2147483647) (h : GA O R C ν) : GBf R (C + 1) ((mG3 ν).2 0) := by
  have hI := mi_clk1 hC h
  have e : (mG3 ν).2 0 = upd (ν.2 0) 4 (nI (C + 1)) := by
    show (setNow ν 4 (now ν 4 + 1)).2 0 = _
    rw [show (4 : Int32) = nI 4 from rfl, setNow_nI (by omega), show now ν (nI 4) = nI C from (now_nI (by omega)).trans h.2.2.2.1, nI_succ]
  rw [e]
  refine ⟨?_, mq_free h.2.1 (fun k hk => by omega) (by omega) h.1, (upd_n (by omega)).trans h.2.2.1, upd_s⟩
  rw [← e]; exact hI
theorem gb_goes {μ : Mo} {R C : Nat} (hR : R ≤ 10) (hC : C < 2147483647) (hG : GBf R C (μ.2 0)) : GBf R (C + 1) ((mGoes μ).2.2 0) := by
  have hR0 : (now μ 3).toNatClampNeg = R := by rw [show now μ 3 = nI R from hG.2.2.1, nI_clamp (by omega)]
  unfold mGoes
  rw [hR0]
  have hGy := gs_8 hR hG 8 (by decide)
  generalize mS8 μ R 8 = y at *
  obtain ⟨r, hr80, hW⟩ := hGy.2.2
  have h2 := ga_arr hGy.1 hW hr80 r (Nat.le_refl r)
  have e2 : mG2 y.2 = mArr y.2 r := by unfold mG2; rw [hW.1, nI_clamp (by omega)]
  show GBf R (C + 1) ((mG5 (mG3 (mG2 y.2))).2 0)
  rw [e2]
  have h3 := gb_g3 hC h2
  generalize mG3 (mArr y.2 r) = ω at *
  have h4 := cl_eq (cl_ga ω R (C + 1)) (gb_ga h3) 8 (Nat.le_refl 8)
  have h5 := cl_age (cl_ga ω R (C + 1)) h4 99 (by omega)
  exact ga_gb h5
def mPs (ν : Mo) : Nat → Int32 × Mo
  | 0 => (0, ν)
  | k + 1 => ((mPs ν k).1 + (mGoes (mPs ν k).2).1, (mGoes (mPs ν k).2).2)
def mPass (μ : Mo) (s1 : Int32) : Int32 × Mo := if mIn s1 1 10 = 0 then (-2, μ) else mPs (mRec μ) s1.toNatClampNeg
theorem gb_ps {ν : Mo} {R C : Nat} (hR : R ≤ 10) (hC : C < 2147483000) (hG : GBf R C (ν.2 0)) : ∀ k, k ≤ 10 → GBf R (C + k) ((mPs ν k).2.2 0)
  | 0, _ => hG
  | k + 1, hk => gb_goes (C := C + k) hR (by omega) (gb_ps hR hC hG k (by omega))
theorem gb_rec {μ : Mo} {R C : Nat} (hG : GBf R C (μ.2 0)) : GBf R C ((mRec μ).2 0) := by
  unfold mRec
  by_cases c : μ.1 0 = 4
  · rw [if_pos c]; exact hG
  · rw [if_neg c]; exact hG
theorem in_10 {x : Int32} (h : ¬ mIn x 1 10 = 0) : ∃ n : Nat, n ≤ 10 ∧ x = nI n := by
  unfold mIn at h
  by_cases c1 : x < 1
  · rw [if_pos c1] at h; exact absurd rfl h
  rw [if_neg c1] at h
  by_cases c2 : 10 < x
  · rw [if_pos c2] at h; exact absurd rfl h
  have c0 : ¬ x < 0 := by
    intro q
    have h1 := Int32.lt_iff_toInt_lt.mp q
    refine c1 (Int32.lt_iff_toInt_lt.mpr ?_)
    have h2 : (0 : Int32).toInt = 0 := rfl
    have h3 : (1 : Int32).toInt = 1 := rfl
    omega
  obtain ⟨j, hj, rfl⟩ := nI_of c0
  refine ⟨j, ?_, rfl⟩
  rcases Nat.lt_or_ge j 11 with q | q
  · omega
  · exact absurd (nI_lt (a := 10) (by omega) hj) c2
