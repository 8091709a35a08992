/-! a frame that comes in, on both sides -/
def CM (C N : Nat) (X : Int32 × St) (Y : Int32 × Mo) (p s d pr : Int32) : Prop := (∃ n, n < 7 ∧ X.1 = nI n ∧ Y.1 = nI n) ∧ (∃ N', N' ≤ N + 8 ∧ RC C N' (sGo X.2 (sWaysOut X.2 X.1 p d) s d pr 8) (Y.2.2 0)) ∧ Y.2.1 2 = sWaysOut X.2 X.1 p d
theorem remE_1 {μ : Mo} {p : Int32} : ∀ k, (mRemE μ p k).1 = μ.1
  | 0 => rfl
  | k + 1 => by
    have ih := remE_1 (μ := μ) (p := p) k
    unfold mRemE
    by_cases c : now (mRemE μ p k) (552 + nI (k + 1)) = p + 1
    · rw [if_pos c]; exact ih
    · rw [if_neg c]; exact ih
theorem quar_1 {μ : Mo} {p why : Int32} : (mQuar μ p why).1 = μ.1 := by
  unfold mQuar
  rw [remE_1]
  rfl
theorem go_1 {ν : Mo} {p s d pr : Int32} : (mGo ν p s d pr).1 = ν.1 := by
  unfold mGo
  by_cases c5 : mOf ν p 5 = 12
  · rw [if_pos c5]; rfl
  · rw [if_neg c5]; rfl
theorem cm_zero {C N n k : Nat} {σ : St} {ν : Mo} {s d pr : Int32} (hn : n < 7) (h2 : n ≠ 2) (h3 : n ≠ 3) (h : RC C N σ (ν.2 0)) (ho : ν.1 2 = 0) : CM C N (nI n, σ) (nI n, ν) (nI k) s d pr := by
  have e : sWaysOut σ (nI n) (nI k) d = 0 := by
    unfold sWaysOut
    rw [if_neg (show ¬ nI n = (2 : Int32) from fun q => h2 ((nI_eq (b := 2) (by omega) (by decide)).mp q)), if_neg (show ¬ nI n = (3 : Int32) from fun q => h3 ((nI_eq (b := 3) (by omega) (by decide)).mp q))]
  refine ⟨⟨n, hn, rfl, rfl⟩, ⟨N, by omega, ?_⟩, ?_⟩
  · show RC C N (sGo σ (sWaysOut σ (nI n) (nI k) d) s d pr 8) _
    rw [e, go_none 8 (by decide)]
    exact h
  · show ν.1 2 = sWaysOut σ (nI n) (nI k) d
    rw [e, ho]
theorem r_b5 {C N k : Nat} {τ : St} {ν : Mo} {s d pr : Int32} (hC : C + 600 < 2147483648) (hN : N + 8 < 2147483648) (hk : k < 8) (hs : AS s) (hd : AD d) (hr : WH pr 4) (h : RC C N τ (ν.2 0)) (ho : ν.1 2 = 0) :
    CM C N (if oAt 5 8 τ (nI k) < oAt 0 4 τ 2 then (3, oAdd 5 8 τ (nI k) 1) else (5, sQuar τ (nI k) 2)) (mB5 ν (nI k) s d pr) (nI k) s d pr := by
  have e1 : oAt 5 8 τ (nI k) = mOf ν (nI k) 4 := by
    rw [oAt_k hk (by decide), show (4 : Int32) = nI 4 from rfl, of_nI hk (by decide)]
    exact (h.2.2.1 k hk).2.2.2.2
  have e2 : oAt 0 4 τ 2 = now ν 2 := by
    rw [show (2 : Int32) = nI 2 from rfl, oAt_k (by decide) (by decide), now_nI (by decide)]
    exact (h.2.1 2 (by decide)).1
  unfold mB5
  rw [e1, e2]
  by_cases c : mOf ν (nI k) 4 < now ν 2
  · rw [if_pos c, if_pos c]
    have hf : RC C N (oAdd 5 8 τ (nI k) 1) ((mTo ν (nI k) 4 (mOf ν (nI k) 4 + 1)).2 0) := by
      rw [oAdd_k hk (by decide), show (4 : Int32) = nI 4 from rfl, to_k hk (by decide), of_nI hk (by decide), (h.2.2.1 k hk).2.2.2.2]
      exact rc_flood hk h
    have e : sWaysOut (oAdd 5 8 τ (nI k) 1) 3 (nI k) d = wb (fun q => ob (oAdd 5 8 τ (nI k) 1) q && !decide (q = k)) 8 := by
      unfold sWaysOut
      rw [if_neg (by decide), if_pos rfl, ones_b, mask_k hk]
    obtain ⟨⟨N', q1, q2⟩, q3⟩ := fl_k hC hN hk hs hd hr hf ho 8 (Nat.le_refl 8)
    refine ⟨⟨3, by decide, rfl, rfl⟩, ⟨N', q1, ?_⟩, ?_⟩
    · show RC C N' (sGo (oAdd 5 8 τ (nI k) 1) (sWaysOut (oAdd 5 8 τ (nI k) 1) 3 (nI k) d) s d pr 8) _
      rw [e]; exact q2
    · show _ = sWaysOut (oAdd 5 8 τ (nI k) 1) 3 (nI k) d
      rw [e]; exact q3
  · rw [if_neg c, if_neg c]
    exact cm_zero (n := 5) (by decide) (by decide) (by decide) (r_quar hk h) (by rw [quar_1]; exact ho)
theorem r_b4 {C N k : Nat} {τ : St} {ν : Mo} {s d pr t : Int32} (hC : C + 600 < 2147483648) (hN : N + 8 < 2147483648) (hk : k < 8) (hs : AS s) (hd : AD d) (hr : WH pr 4) (h : RC C N τ (ν.2 0)) (ho : ν.1 2 = 0)
    (ht : (tPort τ d = -4 ∧ t < 0) ∨ ∃ j, j < 8 ∧ tPort τ d = nI j ∧ t = nI j) : CM C N (sDec τ (nI k) d) (mB4 ν (nI k) s d pr t) (nI k) s d pr := by
  unfold sDec mB4
  rcases ht with ⟨h1, h2⟩ | ⟨j, h0, h1, h2⟩
  · have n1 : ¬ (-4 : Int32) = nI k := fun q => absurd (by rw [← q]; decide) (nI_pos (n := k) (by omega))
    have n2 : ¬ t = nI k := fun q => absurd (by rw [← q]; exact h2) (nI_pos (n := k) (by omega))
    rw [h1, if_neg n1, if_pos rfl, if_neg n2, if_pos h2]
    exact r_b5 hC hN hk hs hd hr h ho
  · rw [h1, h2]
    by_cases c : nI j = nI k
    · rw [if_pos c, if_pos c]
      exact cm_zero (n := 1) (by decide) (by decide) (by decide) h ho
    · rw [if_neg c, if_neg c, if_neg (show ¬ nI j = (-4 : Int32) from fun q => absurd (by rw [q]; decide) (nI_pos (n := j) (by omega))), if_neg (nI_pos (n := j) (by omega)), ← open_k hC h0 h]
      by_cases c2 : pOpen τ (nI j) = 0
      · rw [if_pos c2, if_pos c2]
        exact cm_zero (n := 6) (by decide) (by decide) (by decide) h ho
      · rw [if_neg c2, if_neg c2]
        have e : sWaysOut τ 2 (nI k) d = wb (fun q => decide (q = j)) 8 := by
          unfold sWaysOut
          rw [if_pos rfl, h1]
          exact one8 ⟨j, h0⟩
        obtain ⟨N', q1, q2⟩ := rc_out (μ := msc ν 2 ((1 : Int32) <<< (nI j &&& 31))) (by omega) h0 hs hd hr h
        refine ⟨⟨2, by decide, rfl, rfl⟩, ⟨N', by omega, ?_⟩, ?_⟩
        · show RC C N' (sGo τ (sWaysOut τ 2 (nI k) d) s d pr 8) _
          rw [e, go_one 8 (by decide), if_pos h0]
          exact q2
        · show (mGo (msc ν 2 ((1 : Int32) <<< (nI j &&& 31))) (nI j) s d pr).1 2 = sWaysOut τ 2 (nI k) d
          rw [go_1, e]
          exact one8 ⟨j, h0⟩
theorem r_b3 {C N k : Nat} {τ : St} {ν : Mo} {s d pr : Int32} (hC : C + 600 < 2147483648) (hN : N + 8 < 2147483648) (hk : k < 8) (hs : AS s) (hd : AD d) (hr : WH pr 4) (h : RC C N τ ((mLn ν (nI k) s).2 0)) (ho : ν.1 2 = 0) : CM C N (sDec τ (nI k) d) (mB3 ν (nI k) s d pr) (nI k) s d pr := by
  have hd' := hd
  obtain ⟨b, hb, rfl⟩ := hd
  unfold mB3
  by_cases c : b = 0
  · subst c
    rw [if_pos (show nI 0 = (0 : Int32) from rfl)]
    refine r_b4 hC hN hk hs hd' hr h ho (Or.inl ⟨?_, by decide⟩)
    show oAt 9 100 τ (nI 0) = -4
    rw [oAt_k (by decide) (by decide)]
    exact h.2.2.2.2.2.1.2.1
  · rw [if_neg (nI_ne0 (by omega) (by omega))]
    refine r_b4 hC hN hk hs hd' hr h ho ?_
    rw [n552 hb]
    show (oAt 9 100 τ (nI b) = -4 ∧ _) ∨ ∃ j, j < 8 ∧ oAt 9 100 τ (nI b) = nI j ∧ _
    rw [oAt_k hb (by decide)]
    rcases h.2.2.2.2.2.1.1 b hb with ⟨h1, h2⟩ | ⟨j, h0, h1, h2⟩
    · exact Or.inl ⟨h1, by rw [h2]; decide⟩
    · exact Or.inr ⟨j, h0, h1, by rw [h2]; exact nI_pred j⟩
theorem r_late {C N a : Nat} {σ : St} {μ : Mo} (h1 : 1 ≤ a) (h2 : a < 100) (h : RC C N σ (μ.2 0)) : ∀ j, j ≤ 10 → mLate σ (nI a) j = mMov μ (nI a) j
  | 0, _ => rfl
  | j + 1, hj => by
    unfold mLate mMov
    rw [r_late h1 h2 h j (by omega), ix_752, now_nI (by omega), show (100 : Int32) = nI 100 from rfl, pk_mul, nI_add, oAt_k (by omega) (by decide), Nat.mul_comm j 100, h.2.2.2.2.2.2 j (by omega) a h1 h2]
theorem rem_c (C : Nat) (hC : C < 2147483648) : nI C - nI C / 10 * 10 = nI (C % 10) := pk_rem (d := 10) hC (by decide) (by decide)
theorem r_mv {C N a k : Nat} {σ : St} {μ : Mo} (hC : C < 2147483648) (h1 : 1 ≤ a) (h2 : a < 100) (h : RC C N σ ((mLn μ (nI k) (nI a)).2 0)) : RC C N (mAdd σ (nI a) (nI C)) ((mMv μ (nI k) (nI a)).2 0) := by
  have e4 : now (mLn μ (nI k) (nI a)) 4 = nI C := by
    rw [show (4 : Int32) = nI 4 from rfl, now_nI (by decide)]
    exact h.1.2.1
  unfold mAdd mMv mSec
  have hm : C % 10 < 10 := Nat.mod_lt _ (by decide)
  rw [e4, rem_c C hC, ix_752, setNow_nI (by omega), now_nI (by omega), show (100 : Int32) = nI 100 from rfl, pk_mul, nI_add, oAdd_k (by omega) (by decide), Nat.mul_comm (C % 10) 100]
  exact rc_mov h1 h2 hm h
theorem ln_1 {μ : Mo} {p s : Int32} : (mLn μ p s).1 = μ.1 := rfl
theorem mv_1 {μ : Mo} {p s : Int32} : (mMv μ p s).1 = μ.1 := rfl
theorem r_ld {C N k : Nat} {σ : St} {μ : Mo} {s d pr : Int32} (hC : C + 600 < 2147483648) (hN : N + 8 < 2147483648) (hk : k < 8) (hs : AS s) (hd : AD d) (hr : WH pr 4) (h : RC C N σ (μ.2 0)) : CM C N (sLD σ (nI k) s d) (mBec μ (nI k) s d pr) (nI k) s d pr := by
  have hs' := hs
  obtain ⟨a, a1, a2, rfl⟩ := hs
  have h : RC C N σ ((msc μ 2 0).2 0) := h
  have ho : (msc μ 2 0).1 2 = 0 := rfl
  unfold sLD mBec
  generalize msc μ 2 0 = M at *
  have hc := h.2.2.2.2.2.1.1 a a2
  have ec : σ.2 0 = nI C := h.1.1
  obtain ⟨ν, b1, b2, b3⟩ := r_learn a1 a2 hk h
  have dec : CM C N (sDec (tLearn σ (nI a) (nI k) (nI C)) (nI k) d) (mB2 M (nI k) (nI a) d pr) (nI k) (nI a) d pr := by
    rw [b1]
    exact r_b3 hC hN hk hs' hd hr b3 (by rw [b2]; exact ho)
  have et : tPort σ (nI a) = σ.1 9 a := oAt_k a2 (by decide)
  rw [ec, et, n552 a2, ← open_k hC hk h]
  by_cases c1 : pOpen σ (nI k) = 0
  · rw [if_pos c1, if_pos c1]
    exact cm_zero (n := 0) (by decide) (by decide) (by decide) h ho
  · rw [if_neg c1, if_neg c1]
    by_cases c2 : σ.1 9 a = -4
    · rw [if_pos c2, if_neg (fun q => (cb_pos hc).mp q ((cb_0 hc).mp c2))]
      exact dec
    · have c3 : ¬ M.2 0 (552 + a) = 0 := fun q => c2 ((cb_0 hc).mpr q)
      rw [if_neg c2, if_pos ((cb_pos hc).mpr c3)]
      by_cases c4 : σ.1 9 a = nI k
      · rw [if_pos c4, if_pos (by rw [(cb_k hk hc).mp c4, nI_succ])]
        exact dec
      · rw [if_neg c4, if_neg (fun q => c4 ((cb_k hk hc).mpr (by rw [q, nI_succ])))]
        have el : tLearn σ (nI a) (nI k) (nI C) = oPut 10 100 (oPut 9 100 σ (nI a) (nI k)) (nI a) (nI C) := by
          unfold tLearn
          rw [oAt_k a2 (by decide), if_neg c2]
        have e0 : (tLearn σ (nI a) (nI k) (nI C)).2 0 = nI C := by rw [el]; exact ec
        rw [e0]
        have r1 : RC C N (tLearn σ (nI a) (nI k) (nI C)) ((mLn M (nI k) (nI a)).2 0) := by
          rw [el, ln_k a2, h.1.2.1]
          exact r_have a1 a2 hk c3 h
        have r2 := r_mv (by omega) a1 a2 r1
        unfold sMoved mB1
        rw [r_late a1 a2 r2 10 (Nat.le_refl 10)]
        by_cases c5 : mMov (mMv M (nI k) (nI a)) (nI a) 10 < 3
        · rw [if_pos c5, if_pos c5]
          have f5 : (mMv M (nI k) (nI a)).2 0 (552 + a) = nI (k + 1) ∧ (mMv M (nI k) (nI a)).2 0 (652 + a) = nI C ∧ (mMv M (nI k) (nI a)).2 0 4 = nI C := by
            refine ⟨?_, ?_, r2.1.2.1⟩
            · unfold mMv
              rw [show (4 : Int32) = nI 4 from rfl, now_nI (by decide), r1.1.2.1]
              have hm : C % 10 < 10 := Nat.mod_lt _ (by decide)
              rw [rem_c C (by omega), ix_752, setNow_nI (by omega), upd_n (by omega), ln_k a2, upd_n (by omega), upd_s]
            · unfold mMv
              rw [show (4 : Int32) = nI 4 from rfl, now_nI (by decide), r1.1.2.1]
              have hm : C % 10 < 10 := Nat.mod_lt _ (by decide)
              rw [rem_c C (by omega), ix_752, setNow_nI (by omega), upd_n (by omega), ln_k a2, upd_s, h.1.2.1]
          unfold mB2
          rw [n552 a2, if_neg (by rw [f5.1]; exact nI_ne0 (by omega) (by omega))]
          refine r_b3 hC hN hk hs' hd hr ?_ ho
          rw [ln_k a2, f5.2.2, upd_self f5.1, upd_self f5.2.1]
          exact r2
        · rw [if_neg c5, if_neg c5]
          exact cm_zero (n := 4) (by decide) (by decide) (by decide) (r_quar hk r2) (by rw [quar_1]; exact ho)
theorem acc_k : ∀ n : Fin 7, ∃ w : Fin 11, sAcc (nI n.val) = nI w.val ∧ mAcc (nI n.val) = nI w.val := by decide +kernel
theorem r_come {C N k : Nat} {σ : St} {μ : Mo} {s d pr : Int32} (hC : C + 600 < 2147483648) (hN : N + 8 < 2147483648) (hk : k < 8) (hs : AS s) (hd : AD d) (hr : WH pr 4) (h : RC C N σ (μ.2 0)) :
    (sCome σ (nI k) s d pr).1 = (mCome μ (nI k) s d pr).1 ∧ (∃ N', N' ≤ N + 8 ∧ RC C N' (sCome σ (nI k) s d pr).2 ((mCome μ (nI k) s d pr).2.2 0)) ∧ (mCome μ (nI k) s d pr).2.1 2 = sWaysOut (sLD σ (nI k) s d).2 (sLD σ (nI k) s d).1 (nI k) d := by
  obtain ⟨⟨n, n1, n2, n3⟩, ⟨N', q1, q2⟩, q3⟩ := r_ld hC hN hk hs hd hr h
  obtain ⟨w, w1, w2⟩ := acc_k ⟨n, n1⟩
  have w1 : sAcc (nI n) = nI w.val := w1
  have w2 : mAcc (nI n) = nI w.val := w2
  refine ⟨n2.trans n3.symm, ⟨N', q1, ?_⟩, q3⟩
  show RC C N' (pCredit (pCredit (sGo (sLD σ (nI k) s d).2 (sWaysOut (sLD σ (nI k) s d).2 (sLD σ (nI k) s d).1 (nI k) d) s d pr 8) (nI k) 0 1) (nI k) (sAcc (sLD σ (nI k) s d).1) 1) ((mMore (mMore (mBec μ (nI k) s d pr).2 (nI k) 0) (nI k) (mAcc (mBec μ (nI k) s d pr).1)).2 0)
  rw [n2, n3, w1, w2, more_k (w := w.val) hk (by omega), show (0 : Int32) = nI 0 from rfl, more_k (w := 0) hk (by decide), cred_k (w := w.val) hk w.isLt, cred_k (w := 0) hk (by decide)]
  rw [n2] at q2
  exact rc_acc hk w.isLt (rc_acc (w := 0) hk (by decide) q2)
