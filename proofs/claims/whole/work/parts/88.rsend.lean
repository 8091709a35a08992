/-! a frame is sent, on both sides -/
theorem rc_q {C N : Nat} {σ : St} {f g : Nat → Int32} (h1 : RW C N σ f) (h2 : RG σ f) (h3 : RP C σ f) (h4 : RA σ f) (h6 : RT C σ f) (h7 : RV σ f) (e : ∀ j, j < 168 ∨ 552 ≤ j → g j = f j) (h5 : RQ N σ g) : RC C N σ g := by
  have et : tc g 99 = tc f 99 := tc_cg fun a _ _ => e _ (by omega)
  refine ⟨?_, fun i hi => ?_, fun k hk => ?_, fun k hk w hw => ?_, h5, ⟨fun a ha => ?_, h6.2.1, fun a ha => ?_, by rw [et]; exact h6.2.2.2.1, by rw [et]; exact h6.2.2.2.2⟩, fun t ht a q1 q2 => ?_⟩
  · unfold RW
    rw [e _ (by omega), e _ (by omega), e _ (by omega)]; exact h1
  · rw [e _ (by omega)]; exact h2 i hi
  · rw [e _ (by omega), e _ (by omega), e _ (by omega), e _ (by omega), e _ (by omega)]; exact h3 k hk
  · rw [e _ (by omega)]; exact h4 k hk w hw
  · rw [e _ (by omega)]; exact h6.1 a ha
  · rw [e _ (by omega)]; exact h6.2.2.1 a ha
  · rw [e _ (by omega)]; exact h7 t ht a q1 q2
def qJ (σ : St) (k m j : Nat) : St := rput (rput σ 8 (va_cpy (σ.1 8) (σ.1 8) (48 * k + 4 * j) (48 * k) (4 * (m - j)))) 7 (upd (σ.1 7) k (nI (m - j)))
theorem qRem_k {σ : St} {k m j : Nat} (hk : k < 8) (hm : m ≤ 12) (hj : j ≤ m) (e7 : σ.1 7 k = nI m) : qRem σ (nI k) (nI j) = qJ σ k m j := by
  unfold qRem qJ
  rw [oAt_k hk (by decide), e7, show (0 : Int32) = nI 0 from rfl, qCell_k, qCell_k, pk_sub hj, show (4 : Int32) = nI 4 from rfl, pk_mul, Nat.mul_comm (m - j) 4, slide_k (by omega) (by omega) (by decide), oPut_k hk (by decide)]
  rfl
theorem xF_qJ {σ : St} {k m j i : Nat} (hi : i < m - j) : xF (qJ σ k m j) k i = xF σ k (i + j) := by
  show (va_cpy (σ.1 8) (σ.1 8) (48 * k + 4 * j) (48 * k) (4 * (m - j)) (48 * k + 4 * i), va_cpy (σ.1 8) (σ.1 8) (48 * k + 4 * j) (48 * k) (4 * (m - j)) (48 * k + 4 * i + 1), va_cpy (σ.1 8) (σ.1 8) (48 * k + 4 * j) (48 * k) (4 * (m - j)) (48 * k + 4 * i + 2), va_cpy (σ.1 8) (σ.1 8) (48 * k + 4 * j) (48 * k) (4 * (m - j)) (48 * k + 4 * i + 3)) = _
  simp (disch := omega) only [pk_cpy_in]
  unfold xF
  rw [show 48 * k + 4 * j + (48 * k + 4 * i - 48 * k) = 48 * k + 4 * (i + j) by omega, show 48 * k + 4 * j + (48 * k + 4 * i + 1 - 48 * k) = 48 * k + 4 * (i + j) + 1 by omega, show 48 * k + 4 * j + (48 * k + 4 * i + 2 - 48 * k) = 48 * k + 4 * (i + j) + 2 by omega, show 48 * k + 4 * j + (48 * k + 4 * i + 3 - 48 * k) = 48 * k + 4 * (i + j) + 3 by omega]
theorem xF_qJo {σ : St} {k l m j i : Nat} (hm : m ≤ 12) (hl : l ≠ k) (hi : i < 12) : xF (qJ σ k m j) l i = xF σ l i := by
  show (va_cpy (σ.1 8) (σ.1 8) (48 * k + 4 * j) (48 * k) (4 * (m - j)) (48 * l + 4 * i), va_cpy (σ.1 8) (σ.1 8) (48 * k + 4 * j) (48 * k) (4 * (m - j)) (48 * l + 4 * i + 1), va_cpy (σ.1 8) (σ.1 8) (48 * k + 4 * j) (48 * k) (4 * (m - j)) (48 * l + 4 * i + 2), va_cpy (σ.1 8) (σ.1 8) (48 * k + 4 * j) (48 * k) (4 * (m - j)) (48 * l + 4 * i + 3)) = _
  simp (disch := omega) only [pk_cpy_out]
  rfl
/-- the reference's row behind a frame that is sent -/
def sndR (G : Nat → Int32) (k M jj : Nat) : Nat → Int32 := blk (upd G (8 + 20 * k + 5) (nI M)) (fun i => upd G (8 + 20 * k + 5) (nI M) (168 + 48 * k + 4 * jj + 4 + i)) (168 + 48 * k + 4 * jj) (4 * (M - jj))
theorem blk_in {f g : Nat → Int32} {a n j : Nat} (h : a ≤ j) (h2 : j < a + n) : blk f g a n j = g (j - a) := if_pos ⟨h, h2⟩
theorem mF_snd {G : Nat → Int32} {k M jj : Nat} (hk : k < 8) (hM : M < 12) (hj : jj ≤ M) {i : Nat} (hi : i < M) : mF (sndR G k M jj) k i = delF (mF G k) jj i := by
  unfold delF sndR
  by_cases c : i < jj
  · rw [if_pos c]
    unfold mF
    simp (disch := omega) only [blk_out, upd_n]
  · rw [if_neg c]
    unfold mF
    simp (disch := omega) only [blk_in, upd_n]
    rw [show 168 + 48 * k + 4 * jj + 4 + (168 + 48 * k + 4 * i + 1 - (168 + 48 * k + 4 * jj)) = 168 + 48 * k + 4 * (i + 1) + 1 by omega, show 168 + 48 * k + 4 * jj + 4 + (168 + 48 * k + 4 * i + 2 - (168 + 48 * k + 4 * jj)) = 168 + 48 * k + 4 * (i + 1) + 2 by omega, show 168 + 48 * k + 4 * jj + 4 + (168 + 48 * k + 4 * i + 3 - (168 + 48 * k + 4 * jj)) = 168 + 48 * k + 4 * (i + 1) + 3 by omega, show 168 + 48 * k + 4 * jj + 4 + (168 + 48 * k + 4 * i - (168 + 48 * k + 4 * jj)) = 168 + 48 * k + 4 * (i + 1) by omega]
theorem snd_o {G : Nat → Int32} {k M jj n : Nat} (hj : jj ≤ M) (h5 : n ≠ 8 + 20 * k + 5) (h : n < 168 + 48 * k + 4 * jj ∨ 168 + 48 * k + 4 * M ≤ n) : sndR G k M jj n = G n := by
  unfold sndR
  rw [blk_out (by omega), upd_n h5]
theorem mF_sndo {G : Nat → Int32} {k l M jj : Nat} (hk : k < 8) (hl : l < 8) (hn : l ≠ k) (hM : M < 12) (hj : jj ≤ M) {i : Nat} (hi : i < 12) : mF (sndR G k M jj) l i = mF G l i := by
  unfold mF
  simp (disch := omega) only [snd_o]
theorem rq_send {N k m j M jj : Nat} {σ : St} {G : Nat → Int32} (hk : k < 8) (hm : m ≤ 12) (hM : m - j = M + 1) (hjj : jj < M + 1) (h : RQ N (qJ σ k m j) G) (he : mF G k jj = xF σ k j) : RQ N (qJ σ k m (j + 1)) (sndR G k M jj) := by
  intro l hl
  obtain ⟨m', g1, g2, g3, g4, g5⟩ := h l hl
  by_cases c : l = k
  · subst c
    have em : (qJ σ l m j).1 7 l = nI (M + 1) := by
      show upd (σ.1 7) l (nI (m - j)) l = _
      rw [upd_s, hM]
    obtain rfl : m' = M + 1 := (nI_eq (by omega) (by omega)).mp (g2.symm.trans em)
    refine ⟨M, by omega, ?_, ?_, ?_, fun i hi => ?_⟩
    · show upd (σ.1 7) l (nI (m - (j + 1))) l = _
      rw [upd_s, show m - (j + 1) = M by omega]
    · unfold sndR
      rw [blk_out (by omega), upd_s]
    · refine ql_cg (ql_send (j := jj) g4 hjj ?_) (fun i hi => ?_) (fun i hi => mF_snd hk (by omega) (by omega) hi)
      · rw [he, xF_qJ (by omega), Nat.zero_add]
      · rw [xF_qJ (by omega), xF_qJ (by omega)]
        congr 1
        omega
    · rw [mF_snd hk (by omega) (by omega) hi]
      unfold delF
      by_cases c2 : i < jj
      · rw [if_pos c2]; exact g5 i (by omega)
      · rw [if_neg c2]; exact g5 (i + 1) (by omega)
  · refine ⟨m', g1, ?_, ?_, ql_cg g4 (fun i hi => ?_) (fun i hi => mF_sndo hk hl c (by omega) (by omega) (by omega)), fun i hi => ?_⟩
    · show upd (σ.1 7) k (nI (m - (j + 1))) l = _
      rw [upd_n c]
      have g2 : upd (σ.1 7) k (nI (m - j)) l = nI m' := g2
      rw [upd_n c] at g2
      exact g2
    · rw [snd_o (by omega) (by omega) (by omega)]; exact g3
    · rw [xF_qJo hm c (by omega), xF_qJo hm c (by omega)]
    · rw [mF_sndo hk hl c (by omega) (by omega) (by omega)]; exact g5 i hi
def cA (σ : St) (k m j : Nat) : St := rput (qJ σ k m j) 6 (upd (σ.1 6) (11 * k + 9) (σ.1 6 (11 * k + 9) + nI j))
def cB (σ : St) (k m j : Nat) : St := rput (qJ σ k m j) 6 (upd (upd (σ.1 6) (11 * k + 9) (σ.1 6 (11 * k + 9) + nI j)) (11 * k + 10) (σ.1 6 (11 * k + 10) + nI j))
theorem add1 (x : Int32) (j : Nat) : x + nI (j + 1) = x + nI j + 1 := by rw [nI_succ, Int32.add_assoc]
theorem cA_k {σ : St} {k m j : Nat} (hk : k < 8) (hm : m ≤ 12) (hj : j ≤ m) (e7 : σ.1 7 k = nI m) : pCredit (qRem σ (nI k) (nI j)) (nI k) 9 (nI j) = cA σ k m j := by
  rw [qRem_k hk hm hj e7, show (9 : Int32) = nI 9 from rfl, cred_k hk (by decide)]
  rfl
theorem cB_k {σ : St} {k m j : Nat} (hk : k < 8) (hm : m ≤ 12) (hj : j ≤ m) (e7 : σ.1 7 k = nI m) : pCredit (pCredit (qRem σ (nI k) (nI j)) (nI k) 9 (nI j)) (nI k) 10 (nI j) = cB σ k m j := by
  rw [cA_k hk hm hj e7, show (10 : Int32) = nI 10 from rfl, cred_k hk (by decide)]
  unfold cA cB
  rw [rput_rput, rput_at, upd_n (show 11 * k + 10 ≠ 11 * k + 9 by omega)]
theorem qJ_0 {σ : St} {k m : Nat} (e7 : σ.1 7 k = nI m) : qJ σ k m 0 = σ := by
  unfold qJ
  rw [show m - 0 = m from rfl, upd_self e7]
  have e : va_cpy (σ.1 8) (σ.1 8) (48 * k + 4 * 0) (48 * k) (4 * m) = σ.1 8 := by
    funext q
    by_cases c : 48 * k ≤ q ∧ q < 48 * k + 4 * m
    · rw [pk_cpy_in c.1 c.2, show 48 * k + 4 * 0 + (q - 48 * k) = q by omega]
    · rw [pk_cpy_out (by omega)]
  rw [e, rput_self]
  exact rput_self
theorem cA_0 {σ : St} {k m : Nat} (e7 : σ.1 7 k = nI m) : cA σ k m 0 = σ := by
  unfold cA
  rw [qJ_0 e7, upd_self (show σ.1 6 (11 * k + 9) = σ.1 6 (11 * k + 9) + nI 0 from (Int32.add_zero _).symm)]
  exact rput_self
theorem cB_0 {σ : St} {k m : Nat} (e7 : σ.1 7 k = nI m) : cB σ k m 0 = σ := by
  unfold cB
  rw [qJ_0 e7, upd_self (show σ.1 6 (11 * k + 9) = σ.1 6 (11 * k + 9) + nI 0 from (Int32.add_zero _).symm), upd_self (show σ.1 6 (11 * k + 10) = σ.1 6 (11 * k + 10) + nI 0 from (Int32.add_zero _).symm)]
  exact rput_self
theorem rc_sA {C N k m j M jj : Nat} {σ : St} {f : Nat → Int32} (hk : k < 8) (hm : m ≤ 12) (hM : m - j = M + 1) (hjj : jj < M + 1) (h : RC C N (cA σ k m j) f) (he : mF f k jj = xF σ k j) : RC C N (cA σ k m (j + 1)) (sndR (upd f (8 + 20 * k + 6 + 9) (f (8 + 20 * k + 6 + 9) + 1)) k M jj) := by
  obtain ⟨h1, h2, h3, h4, h5, h6, h7⟩ := h
  have e5 : ∀ n, n < 168 ∨ 552 ≤ n → sndR (upd f (8 + 20 * k + 6 + 9) (f (8 + 20 * k + 6 + 9) + 1)) k M jj n = upd (upd f (8 + 20 * k + 6 + 9) (f (8 + 20 * k + 6 + 9) + 1)) (8 + 20 * k + 5) (nI M) n := fun n hn => by
    unfold sndR
    rw [blk_out (by omega)]
  refine rc_q (f := upd (upd f (8 + 20 * k + 6 + 9) (f (8 + 20 * k + 6 + 9) + 1)) (8 + 20 * k + 5) (nI M)) (RW.u (RW.u h1 (by omega)) (by omega)) (RG.u (RG.u h2 (by omega)) (by omega)) (RP.u (RP.u h3 (fun j hj => by omega)) (fun j hj => by omega)) (RA.u ?_ (fun j hj => by omega)) (RT.u (RT.u h6 (by omega)) (by omega)) (RV.u (RV.u h7 (by omega)) (by omega)) e5 ?_
  · intro l hl w hw
    have h4 : upd (σ.1 6) (11 * k + 9) (σ.1 6 (11 * k + 9) + nI j) (11 * l + w) = f (8 + 20 * l + 6 + w) := h4 l hl w hw
    show upd (σ.1 6) (11 * k + 9) (σ.1 6 (11 * k + 9) + nI (j + 1)) (11 * l + w) = _
    by_cases c : 11 * l + w = 11 * k + 9
    · have c1 : l = k := by omega
      have c2 : w = 9 := by omega
      subst c1 c2
      rw [upd_s] at h4
      rw [upd_s, upd_s, add1, h4]
    · rw [upd_n c] at h4
      rw [upd_n c, upd_n (by omega)]
      exact h4
  · refine rq_send hk hm hM hjj (RQ.u h5 (by omega) (fun l hl => by omega)) ?_
    rw [mF_u (by omega) hk (by omega)]
    exact he
theorem rc_sB {C N k m j M jj : Nat} {σ : St} {f : Nat → Int32} (hk : k < 8) (hm : m ≤ 12) (hM : m - j = M + 1) (hjj : jj < M + 1) (h : RC C N (cB σ k m j) f) (he : mF f k jj = xF σ k j) : RC C N (cB σ k m (j + 1)) (sndR (upd (upd f (8 + 20 * k + 6 + 9) (f (8 + 20 * k + 6 + 9) + 1)) (8 + 20 * k + 6 + 10) (f (8 + 20 * k + 6 + 10) + 1)) k M jj) := by
  obtain ⟨h1, h2, h3, h4, h5, h6, h7⟩ := h
  have e5 : ∀ n, n < 168 ∨ 552 ≤ n → sndR (upd (upd f (8 + 20 * k + 6 + 9) (f (8 + 20 * k + 6 + 9) + 1)) (8 + 20 * k + 6 + 10) (f (8 + 20 * k + 6 + 10) + 1)) k M jj n = upd (upd (upd f (8 + 20 * k + 6 + 9) (f (8 + 20 * k + 6 + 9) + 1)) (8 + 20 * k + 6 + 10) (f (8 + 20 * k + 6 + 10) + 1)) (8 + 20 * k + 5) (nI M) n := fun n hn => by
    unfold sndR
    rw [blk_out (by omega)]
  refine rc_q (f := upd (upd (upd f (8 + 20 * k + 6 + 9) (f (8 + 20 * k + 6 + 9) + 1)) (8 + 20 * k + 6 + 10) (f (8 + 20 * k + 6 + 10) + 1)) (8 + 20 * k + 5) (nI M)) (RW.u (RW.u (RW.u h1 (by omega)) (by omega)) (by omega)) (RG.u (RG.u (RG.u h2 (by omega)) (by omega)) (by omega)) (RP.u (RP.u (RP.u h3 (fun j hj => by omega)) (fun j hj => by omega)) (fun j hj => by omega)) (RA.u ?_ (fun j hj => by omega)) (RT.u (RT.u (RT.u h6 (by omega)) (by omega)) (by omega)) (RV.u (RV.u (RV.u h7 (by omega)) (by omega)) (by omega)) e5 ?_
  · intro l hl w hw
    have h4 : upd (upd (σ.1 6) (11 * k + 9) (σ.1 6 (11 * k + 9) + nI j)) (11 * k + 10) (σ.1 6 (11 * k + 10) + nI j) (11 * l + w) = f (8 + 20 * l + 6 + w) := h4 l hl w hw
    show upd (upd (σ.1 6) (11 * k + 9) (σ.1 6 (11 * k + 9) + nI (j + 1))) (11 * k + 10) (σ.1 6 (11 * k + 10) + nI (j + 1)) (11 * l + w) = _
    by_cases c0 : 11 * l + w = 11 * k + 10
    · have c1 : l = k := by omega
      have c2 : w = 10 := by omega
      subst c1 c2
      rw [upd_s] at h4
      rw [upd_s, upd_s, add1, h4]
    · rw [upd_n c0] at h4
      rw [upd_n c0, upd_n (show 8 + 20 * l + 6 + w ≠ 8 + 20 * k + 6 + 10 by omega)]
      by_cases c : 11 * l + w = 11 * k + 9
      · have c1 : l = k := by omega
        have c2 : w = 9 := by omega
        subst c1 c2
        rw [upd_s] at h4
        rw [upd_s, upd_s, add1, h4]
      · rw [upd_n c] at h4
        rw [upd_n c, upd_n (by omega)]
        exact h4
  · refine rq_send hk hm hM hjj (RQ.u (RQ.u h5 (by omega) (fun l hl => by omega)) (by omega) (fun l hl => by omega)) ?_
    rw [mF_u (by omega) hk (by omega), mF_u (by omega) hk (by omega)]
    exact he
