/-! texts, history, what is told: call by call -/
theorem tSkip_st (S : Sy) (c : Int32) : (tSkip S c).2.1 = S.1 := by unfold tSkip; split <;> rfl
theorem tDigit_st (S : Sy) (a b : Int32) : (tDigit S a b).2.1 = S.1 := by unfold tDigit; split; rfl; split <;> rfl
theorem tAddress_st (S : Sy) : (tAddress S).2.1 = S.1 := by
  have e1 := tDigit_st S 1 9
  have e2 := tDigit_st (tDigit S 1 9).2 0 9
  rw [e1] at e2
  unfold tAddress
  generalize tDigit S 1 9 = T1 at *
  generalize tDigit T1.2 0 9 = T2 at *
  by_cases c1 : T1.1 = -4
  · rw [if_pos c1]; exact e1
  rw [if_neg c1]
  by_cases c2 : T2.1 = -4
  · rw [if_pos c2]; exact e2
  · rw [if_neg c2]; exact e2
theorem xApp_st (S : Sy) (p s d pr : Int32) : (xApp S p s d pr).1 = S.1 := by
  unfold xApp
  by_cases c : S.2.1 5 < 96
  · rw [if_pos c]; rfl
  · rw [if_neg c]
theorem tF5_st (S : Sy) (s d pr : Int32) : (tF5 S s d pr).2.1 = S.1 := by
  have e1 := tDigit_st S 0 7
  have e2 := xApp_st (tDigit S 0 7).2 (tDigit S 0 7).1 s d pr
  rw [e1] at e2
  unfold tF5
  generalize xApp (tDigit S 0 7).2 (tDigit S 0 7).1 s d pr = T2 at *
  generalize tDigit S 0 7 = T1 at *
  by_cases c : T1.1 = -4
  · rw [if_pos c]; exact e1
  · rw [if_neg c]; exact e2
theorem tF4b_st (S : Sy) (s d pr : Int32) : (tF4b S s d pr).2.1 = S.1 := by
  have e1 := tSkip_st S 64
  have e2 := tF5_st (tSkip S 64).2 s d pr
  rw [e1] at e2
  unfold tF4b
  generalize tF5 (tSkip S 64).2 s d pr = T2 at *
  generalize tSkip S 64 = T1 at *
  by_cases c : T1.1 = 0
  · rw [if_pos c]; exact e1
  · rw [if_neg c]; exact e2
theorem tF4_st (S : Sy) (s d pr : Int32) : (tF4 S s d pr).2.1 = S.1 := by
  have e1 := tF4b_st S s d pr
  unfold tF4
  by_cases c : pr = -4
  · rw [if_pos c]
  · rw [if_neg c]; exact e1
theorem tF3b_st (S : Sy) (s d : Int32) : (tF3b S s d).2.1 = S.1 := by
  have e1 := tSkip_st S 33
  have e2 := tF4b_st (tSkip S 33).2 s d 0
  have e3 := tDigit_st (tSkip S 33).2 0 3
  have e4 := tF4_st (tDigit (tSkip S 33).2 0 3).2 s d (tDigit (tSkip S 33).2 0 3).1
  rw [e1] at e2 e3
  rw [e3] at e4
  unfold tF3b
  generalize tF4 (tDigit (tSkip S 33).2 0 3).2 s d (tDigit (tSkip S 33).2 0 3).1 = T4 at *
  generalize tF4b (tSkip S 33).2 s d 0 = T2 at *
  generalize tDigit (tSkip S 33).2 0 3 = T3 at *
  generalize tSkip S 33 = T1 at *
  by_cases c : T1.1 = 0
  · rw [if_pos c]; exact e2
  · rw [if_neg c]; exact e4
theorem tF3_st (S : Sy) (s d : Int32) : (tF3 S s d).2.1 = S.1 := by
  have e1 := tF3b_st S s d
  unfold tF3
  by_cases c : d = -4
  · rw [if_pos c]
  · rw [if_neg c]; exact e1
theorem tF2_st (S : Sy) (s : Int32) : (tF2 S s).2.1 = S.1 := by
  have e1 := tSkip_st S 42
  have e2 := tAddress_st (tSkip S 42).2
  have e3 := tF3_st (tAddress (tSkip S 42).2).2 s (tAddress (tSkip S 42).2).1
  have e4 := tF3b_st (tSkip S 42).2 s 0
  rw [e1] at e2 e4
  rw [e2] at e3
  unfold tF2
  generalize tF3 (tAddress (tSkip S 42).2).2 s (tAddress (tSkip S 42).2).1 = T3 at *
  generalize tF3b (tSkip S 42).2 s 0 = T4 at *
  generalize tAddress (tSkip S 42).2 = T2 at *
  generalize tSkip S 42 = T1 at *
  by_cases c : T1.1 = 0
  · rw [if_pos c]; exact e3
  · rw [if_neg c]; exact e4
theorem tFrame_st (S : Sy) : (tFrame S).2.1 = S.1 := by
  have e1 := tAddress_st S
  have e2 := tSkip_st (tAddress S).2 62
  have e3 := tF2_st (tSkip (tAddress S).2 62).2 (tAddress S).1
  rw [e1] at e2
  rw [e2] at e3
  unfold tFrame
  generalize tF2 (tSkip (tAddress S).2 62).2 (tAddress S).1 = T3 at *
  generalize tAddress S = T1 at *
  generalize tSkip T1.2 62 = T2 at *
  by_cases c : T1.1 = -4
  · rw [if_pos c]; exact e1
  rw [if_neg c]
  by_cases c : T2.1 = 0
  · rw [if_pos c]; exact e2
  · rw [if_neg c]; exact e3
theorem tInto_st : ∀ (n k : Nat) (S : Sy), (tInto n k S).2.1 = S.1
  | 0, _, _ => rfl
  | n + 1, k, S => by
    have e1 := tFrame_st S
    have e2 := tSkip_st (tFrame S).2 59
    have e3 := tInto_st n (k + 1) (tSkip (tFrame S).2 59).2
    rw [into_s]
    generalize tInto n (k + 1) (tSkip (tFrame S).2 59).2 = T3 at *
    generalize tSkip (tFrame S).2 59 = T2 at *
    generalize tFrame S = T1 at *
    by_cases c0 : S.2.1 3 < nI k
    · rw [if_pos c0]
    rw [if_neg c0]
    by_cases c1 : T1.1 = 0
    · rw [if_pos c1]; exact e1
    rw [if_neg c1]
    by_cases c2 : T1.2.2.1 4 = T1.2.2.1 3
    · rw [if_pos c2]; exact e1
    rw [if_neg c2]
    by_cases c3 : T2.1 = 0
    · rw [if_pos c3]; exact e2.trans e1
    · rw [if_neg c3]; exact e3.trans (e2.trans e1)
theorem tRead_st (S : Sy) : (tRead S).2.1 = S.1 := tInto_st 72 0 _
theorem rl_text {T nx : Nat} {S S' : Sy} {μ ν : Mo} (h : RZ T nx S μ) (h1 : S'.1 = S.1) (hs : ∀ i, i < 3 → S'.2.1 i = S.2.1 i) (k0 : ν.1 0 = μ.1 0) (k1 : ν.1 1 = μ.1 1) (r0 : ν.2 0 = μ.2 0) (r1 : ν.2 1 = μ.2 1) (r2 : ν.2 2 = μ.2 2) (ht : ∃ m, TC m S' ν) : RZ (T + 1) nx S' ν := by
  obtain ⟨g1, ⟨g2, g3⟩, ⟨q, q1, q2, q3, q4⟩, ⟨g4, g5⟩, _⟩ := h
  refine ⟨?_, ⟨g2, ?_⟩, ⟨q, q1, ?_, ?_, fun i hi => ?_⟩, ⟨?_, fun hz => ?_⟩, ht⟩
  · rw [h1, r0]; exact g1.mono (Nat.le_succ T)
  · rw [hs 1 (by decide)]; exact g3
  · rw [hs 2 (by decide)]; exact q2
  · rw [k0]; exact q3
  · rw [h1, r1]; exact (q4 i hi).mono (Nat.le_succ T)
  · rw [hs 0 (by decide), k1]; exact g4
  · rw [k1] at hz
    rw [h1, r2]; exact (g5 hz).mono (Nat.le_succ T)
section TXT
variable {T nx : Nat} {S : Sy} {μ : Mo}
theorem n_type {c : Int32} (hc : ∃ ch : Nat, ch < 65536 ∧ vp_nar .char c = nI ch) (h : RZ T nx S μ) : AN T (xType S c) (mType μ c) := by
  obtain ⟨_, _, _, _, m, m1, m2, m3, m4⟩ := id h
  unfold xType mType tAppend
  rw [m2, m3, if_neg (nI_pos (by omega)), nI_clamp (by omega)]
  by_cases c1 : m = 70
  · subst c1
    rw [if_neg (show ¬ nI 70 < (70 : Int32) by decide), if_pos (show nI 70 = (70 : Int32) from rfl), if_pos (show (0 : Int32) = 0 from rfl)]
    exact an_id h
  · rw [if_pos (nlt_lit (b := 70) (by omega) (by decide)), if_neg (show ¬ nI m = (70 : Int32) from fun z => c1 ((nI_eq (b := 70) (by omega) (by decide)).mp z)), if_neg (show ¬ (1 : Int32) = 0 by decide)]
    refine ⟨rfl, nx, rl_text h rfl (fun i hi => if_neg (by omega)) rfl rfl rfl rfl rfl ⟨m + 1, by omega, ?_, ?_, fun i hi => ?_⟩⟩
    · exact (nI_succ m).symm
    · exact (nI_succ m).symm
    · show upd (S.2.2 0) m (vp_nar .char c) i = upd (μ.2 5) m (vp_nar .char c) i ∧ ∃ ch : Nat, ch < 65536 ∧ upd (μ.2 5) m (vp_nar .char c) i = nI ch
      by_cases e : i = m
      · subst e
        rw [upd_s, upd_s]
        exact ⟨rfl, hc⟩
      · rw [upd_n e, upd_n e]
        exact m4 i (by omega)
theorem n_clear (h : RZ T nx S μ) : AN T (S.2.1 3, xsc S 3 0) (μ.1 4, msc μ 4 0) := by
  obtain ⟨_, _, _, _, m, m1, m2, m3, m4⟩ := id h
  exact ⟨m2.trans m3.symm, nx, rl_text h rfl (fun i hi => if_neg (by omega)) rfl rfl rfl rfl rfl ⟨0, by decide, rfl, rfl, fun i hi => absurd hi (Nat.not_lt_zero i)⟩⟩
theorem rec_r6 {ν : Mo} : (mRec ν).2 6 = ν.2 6 := by
  unfold mRec
  by_cases c : ν.1 0 = 4
  · rw [if_pos c]; rfl
  · rw [if_neg c]; rfl
theorem n_read (hT : T ≤ 600) (h : RZ T nx S μ) : AN T (xReadFrames nx S) (mRead μ) := by
  obtain ⟨_, _, _, _, m, tc⟩ := id h
  obtain ⟨fs, re⟩ := re_read tc
  have kp := (rds_ok tc.1 tc.2.2.1).1
  have km : KM μ (mRds μ).2 := ⟨kp.1 0 (by decide) (by decide), kp.1 1 (by decide) (by decide), kp.1 4 (by decide) (by decide), kp.2 1 (by decide), kp.2 2 (by decide), kp.2 5 (by decide)⟩
  have r0 : (mRds μ).2.2 0 = μ.2 0 := kp.2 0 (by decide)
  have h2 : RZ T nx (tRead S).2 (mRds μ).2 := rl_now h (Nat.le_refl T) (fx_fs fs) km (by rw [tRead_st, r0]; exact h.1)
  unfold xReadFrames mRead
  rcases re with ⟨q1, q2, q3⟩ | ⟨q1, q2, r, q3, q4, q5, q6⟩
  · rw [if_neg q1, if_pos q2, q3]
    exact an_id h2
  · rw [if_pos q1, if_neg q2, q5, nI_clamp (by omega)]
    obtain ⟨C, N, hC, hN, hr⟩ := h2.1
    have hN2 : N ≤ 4200000 := Nat.le_trans hN (Nat.mul_le_mul_left 7000 hT)
    have hx : RC C N ((xRec nx (tRead S).2).1 0) ((mRec (mRds μ).2).2 0) := by rw [rec_x]; exact rc_rec hr
    have hA : ∀ i, i < r → AF ((xRec nx (tRead S).2).2.2 1) ((mRec (mRds μ).2).2 6) i := fun i hi => by
      rw [rec_r6]
      exact q6 i hi
    obtain ⟨i1, ⟨N', i2, i3⟩, i4, i5⟩ := r_ins (by omega) (by omega) q3 hx hA r (Nat.le_refl r)
    have e5 : ((xRec nx (tRead S).2).2.1 5).toNatClampNeg = r := by
      show ((tRead S).2.2.1 5).toNatClampNeg = r
      rw [q4, nI_clamp (by omega)]
    refine ⟨?_, (nx + 1) % 4, rl_now (rl_rec h2) (Nat.le_succ T) (fx_fs (show FS _ (xLetIn (xRec nx (tRead S).2)).2 from fs_st)) (km_fr (fun j h2 _ => i4 j h2) (fun j h0 _ => i5 j h0)) ?_⟩
    · show (xLet (xRec nx (tRead S).2) ((xRec nx (tRead S).2).2.1 5).toNatClampNeg).1 = _
      rw [e5, i1]
    · rw [letin_1, e5]
      exact ⟨C, N', by omega, by rw [Nat.mul_succ]; omega, i3⟩
theorem n_undo (h : RZ T nx S μ) : AN T (xUndo nx S) (mUndo μ) := by
  obtain ⟨h1, ⟨n1, n2⟩, ⟨q, q1, q2, q3, q4⟩, ⟨h4, h5⟩, m, m1, m2, m3, m4⟩ := id h
  unfold xUndo mUndo xBack
  rw [q2, q3]
  by_cases c : q = 0
  · subst c
    rw [if_pos (show nI 0 = (0 : Int32) from rfl), if_pos (show nI 0 = (0 : Int32) from rfl), if_pos (show (0 : Int32) = 0 from rfl)]
    exact an_id h
  · have n0 : ¬ nI q = 0 := nI_ne0 (by omega) (by omega)
    have ep : nI q - 1 = nI (q - 1) := pk_sub (b := 1) (by omega)
    rw [if_neg n0, if_neg n0, if_neg (show ¬ (1 : Int32) = 0 by decide)]
    refine ⟨rfl, (nx + 3) % 4, ?_, ⟨Nat.mod_lt _ (by decide), ?_⟩, ⟨q - 1, by omega, ?_, ?_, fun i hi => ?_⟩, ⟨h4, fun hz => ?_⟩, m, m1, m2, m3, m4⟩
    · have e := q4 (q - 1) (by omega)
      rw [show 3 + (nx + 4 - q + (q - 1)) % 4 = 3 + (nx + 3) % 4 by omega] at e
      have er : (mUndoS μ).2 0 = blk (μ.2 0) (fun j => μ.2 1 (1752 * (μ.1 0 - 1).toNatClampNeg + j)) 0 1752 := rfl
      show RX (T + 1) (S.1 (3 + (nx + 3) % 4)) ((mUndoS μ).2 0)
      rw [er, q3, ep, nI_clamp (by omega)]
      refine (e.mono (Nat.le_succ T)).ext fun j hj => ?_
      rw [blk_in (by omega) (by omega)]
      rfl
    · show rem4 (S.2.1 1 + 4 - 1) = _
      rw [n2]; exact rem4_back n1
    · exact ep
    · show μ.1 0 - 1 = _
      rw [q3, ep]
    · have e : (xst S 0 (S.1 (3 + (nx + 3) % 4))).1 (3 + ((nx + 3) % 4 + 4 - (q - 1) + i) % 4) = S.1 (3 + (nx + 4 - q + i) % 4) := by
        show (if _ = 0 then _ else _) = _
        rw [if_neg (by omega), show 3 + ((nx + 3) % 4 + 4 - (q - 1) + i) % 4 = 3 + (nx + 4 - q + i) % 4 by omega]
      show RX (T + 1) ((xst S 0 (S.1 (3 + (nx + 3) % 4))).1 (3 + ((nx + 3) % 4 + 4 - (q - 1) + i) % 4)) (fun j => μ.2 1 (1752 * i + j))
      rw [e]
      exact (q4 i (by omega)).mono (Nat.le_succ T)
    · exact (h5 hz).mono (Nat.le_succ T)
theorem n_keep (h : RZ T nx S μ) : AN T (xKeep S) (mKeep μ) := by
  obtain ⟨h1, ⟨n1, n2⟩, ⟨q, q1, q2, q3, q4⟩, ⟨h4, h5⟩, m, m1, m2, m3, m4⟩ := id h
  obtain ⟨C, N, hC, hN, hr⟩ := h1
  unfold xKeep mKeep
  refine ⟨?_, nx, ⟨C, N, by omega, Nat.le_trans hN (Nat.mul_le_mul_left 7000 (Nat.le_succ T)), hr⟩, ⟨n1, n2⟩, ⟨q, q1, q2, q3, fun i hi => ?_⟩, ⟨rfl, fun _ => ?_⟩, m, m1, m2, m3, m4⟩
  · show (S.1 0).2 0 = now (mKeepS μ) 4
    rw [show now (mKeepS μ) 4 = (mKeepS μ).2 0 4 from now_nI (n := 4) (by decide), show (mKeepS μ).2 0 4 = μ.2 0 4 from rfl, hr.1.2.1]
    exact hr.1.1
  · have e : (xst S 1 (S.1 0)).1 (3 + (nx + 4 - q + i) % 4) = S.1 (3 + (nx + 4 - q + i) % 4) := if_neg (by omega)
    show RX (T + 1) ((xst S 1 (S.1 0)).1 (3 + (nx + 4 - q + i) % 4)) (fun j => μ.2 1 (1752 * i + j))
    rw [e]
    exact (q4 i hi).mono (Nat.le_succ T)
  · show RX (T + 1) (S.1 0) (blk (μ.2 2) (μ.2 0) 0 1752)
    refine RX.ext (f := μ.2 0) ⟨C, N, by omega, Nat.le_trans hN (Nat.mul_le_mul_left 7000 (Nat.le_succ T)), hr⟩ fun j hj => ?_
    rw [blk_in (by omega) (by omega)]
    rfl
theorem rec_r2 {ν : Mo} : (mRec ν).2 2 = ν.2 2 := by
  unfold mRec
  by_cases c : ν.1 0 = 4
  · rw [if_pos c]; rfl
  · rw [if_neg c]; rfl
theorem n_restore (h : RZ T nx S μ) : AN T (xRestore nx S) (mRestore μ) := by
  have h4 := h.2.2.2.1
  unfold xRestore mRestore
  rw [h4.1]
  by_cases c : μ.1 1 = 0
  · rw [if_pos c, if_pos c]; exact an_id h
  · rw [if_neg c, if_neg c, rec_xi (by omega)]
    have er : (mRestS (mRec μ)).2 0 = blk ((mRec μ).2 0) ((mRec μ).2 2) 0 1752 := rfl
    have hx : RX T (S.1 1) ((mRestS (mRec μ)).2 0) := by
      rw [er, rec_r2]
      refine (h4.2 c).ext fun j hj => ?_
      rw [blk_in (by omega) (by omega)]
      rfl
    refine an_act h ?_ ⟨rfl, rfl, rfl, rfl, rfl, rfl⟩ (hx.mono (Nat.le_succ T))
    obtain ⟨C, N, _, _, hr⟩ := hx
    rw [show now (mRestS (mRec μ)) 4 = (mRestS (mRec μ)).2 0 4 from now_nI (n := 4) (by decide), hr.1.2.1]
    exact hr.1.1
theorem sp_3 : (mSp μ).2 3 = blk (μ.2 3) (μ.2 0) 0 1752 := by
  unfold mSp
  generalize blk (μ.2 3) (μ.2 0) 0 1752 = F
  rfl
theorem sp_n {j : Nat} (hj : j ≠ 3) : (mSp μ).2 j = μ.2 j := if_neg hj
theorem sp_1 : (mSp μ).1 = μ.1 := rfl
theorem un_0 {ν : Mo} : (mUn ν).2 0 = blk (ν.2 0) (ν.2 3) 0 1752 := by
  unfold mUn
  generalize blk (ν.2 0) (ν.2 3) 0 1752 = F
  rfl
theorem un_n {ν : Mo} {j : Nat} (hj : j ≠ 0) : (mUn ν).2 j = ν.2 j := if_neg hj
theorem un_1 {ν : Mo} : (mUn ν).1 = ν.1 := rfl
theorem un_km {ν : Mo} (f1 : ∀ j, j ≠ 2 → ν.1 j = (mSp μ).1 j) (f2 : ∀ j, j ≠ 0 → ν.2 j = (mSp μ).2 j) : KM μ (mUn ν) := by
  unfold KM
  rw [un_1, un_n (j := 1) (by decide), un_n (j := 2) (by decide), un_n (j := 5) (by decide), f1 0 (by decide), f1 1 (by decide), f1 4 (by decide), f2 1 (by decide), f2 2 (by decide), f2 5 (by decide), sp_1, sp_n (j := 1) (by decide), sp_n (j := 2) (by decide), sp_n (j := 5) (by decide)]
  exact ⟨rfl, rfl, rfl, rfl, rfl, rfl⟩
theorem un_rx {ν : Mo} {σ : St} (f2 : ∀ j, j ≠ 0 → ν.2 j = (mSp μ).2 j) (h : RX T σ (μ.2 0)) : RX (T + 1) σ ((mUn ν).2 0) := by
  rw [un_0, f2 3 (by decide), sp_3]
  refine (h.mono (Nat.le_succ T)).ext fun j hj => ?_
  rw [blk_in (Nat.zero_le j) (by omega), blk_in (Nat.zero_le _) (by omega), Nat.sub_zero, Nat.sub_zero]
theorem n_would {p s d : Int32} (hT : T ≤ 600) (h : RZ T nx S μ) : AN T (xWouldGo S p s d) (mWouldGo μ p s d) := by
  obtain ⟨C, N, hC, hN, hr⟩ := h.1
  have hN2 : N ≤ 4200000 := Nat.le_trans hN (Nat.mul_le_mul_left 7000 hT)
  unfold xWouldGo mWouldGo
  rcases port_c p with ⟨h1, h2⟩ | ⟨k, hk, rfl, h3, h4⟩
  · rw [if_pos h1, if_neg h2]; exact an_id h
  rw [if_neg h3, if_pos h4]
  rcases addr_c s with ⟨h1, h2⟩ | ⟨a, a1, a2, rfl, h5, h6⟩
  · rw [if_pos h1, if_neg h2]; exact an_id h
  rw [if_neg h5, if_pos h6]
  rcases dest_c d with ⟨h1, h2⟩ | ⟨hd, h7, h8⟩
  · rw [if_pos h1, if_pos h2]; exact an_id h
  rw [if_neg h7, if_neg h8]
  have hs : AS (nI a) := ⟨a, a1, a2, rfl⟩
  have hp : WH 0 4 := ⟨0, by decide, rfl⟩
  have hr2 : RC C N (S.1 0) ((mSp μ).2 0) := by rw [sp_n (j := 0) (by decide)]; exact hr
  obtain ⟨_, _, r3⟩ := r_come (by omega) (by omega) hk hs hd hp hr2
  have fr := come_fr (by omega) hk hs hd hp hr2
  generalize sLD (S.1 0) (nI k) (nI a) d = X at *
  generalize mCome (mSp μ) (nI k) (nI a) d 0 = Y at *
  have ans : sWaysOut X.2 X.1 (nI k) d = (mUn Y.2).1 2 := by rw [un_1]; exact r3.symm
  have fx : FX S (xst S 2 X.2) := ⟨fun i _ h2 => if_neg h2, fun _ _ _ => rfl, rfl⟩
  have e0 : (xst S 2 X.2).1 0 = S.1 0 := rfl
  exact ⟨ans, nx, rl_now h (Nat.le_succ T) fx (un_km fr.1 fr.2) (by rw [e0]; exact un_rx fr.2 h.1)⟩
theorem n_told {v w : Int32} (h : RZ T nx S μ) (e : v = w) : AN T (v, S) (w, μ) := ⟨e, nx, rl_mono h (Nat.le_succ T)⟩
theorem n_port {p w : Int32} (hT : T ≤ 600) (h : RZ T nx S μ) : AN T (xPort S p w, S) (mPort μ p w, μ) := by
  obtain ⟨C, N, hC, hN, hr⟩ := h.1
  exact n_told h (a_port (by omega) hr)
theorem n_account {p w : Int32} (h : RZ T nx S μ) : AN T (xAccount S p w, S) (mAccount μ p w, μ) := by
  obtain ⟨C, N, hC, hN, hr⟩ := h.1
  exact n_told h (a_account hr)
theorem n_entry {x w : Int32} (h : RZ T nx S μ) : AN T (xEntry S x w, S) (mEntry μ x w, μ) := by
  obtain ⟨C, N, hC, hN, hr⟩ := h.1
  exact n_told h (a_entry hr)
theorem n_where {x : Int32} (h : RZ T nx S μ) : AN T (xWhere S x, S) (mWhere μ x, μ) := by
  obtain ⟨C, N, hC, hN, hr⟩ := h.1
  exact n_told h (a_where hr)
theorem n_queued {p x w : Int32} (h : RZ T nx S μ) : AN T (xQueued S p x w, S) (mQueued μ p x w, μ) := by
  obtain ⟨C, N, hC, hN, hr⟩ := h.1
  exact n_told h (a_queued hr)
theorem n_loops (hT : T ≤ 600) (h : RZ T nx S μ) : AN T (xLoopK (S.1 0) 8, S) (mLoopK μ 8, μ) := by
  obtain ⟨C, N, hC, hN, hr⟩ := h.1
  exact n_told h (a_loops (by omega) hr 8 (Nat.le_refl 8))
theorem n_count {w : Int32} (hT : T ≤ 600) (h : RZ T nx S μ) : AN T (xCount S w, S) (mCount μ w, μ) := by
  obtain ⟨C, N, hC, hN, hr⟩ := h.1
  obtain ⟨q, _, q2, q3, _⟩ := h.2.2.1
  obtain ⟨m, _, m2, m3, _⟩ := h.2.2.2.2
  exact n_told h (a_count (by omega) hr (q2.trans q3.symm) (m2.trans m3.symm))
end TXT
