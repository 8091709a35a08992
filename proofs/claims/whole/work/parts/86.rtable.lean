/-! the table on both sides: removing, the oldest one, learning, quarantines -/
theorem cb_0 {x y : Int32} (h : CB x y) : x = -4 ↔ y = 0 := by
  rcases h with ⟨h1, h2⟩ | ⟨j, h0, h1, h2⟩
  · exact ⟨fun _ => h2, fun _ => h1⟩
  · rw [h1, h2]
    refine ⟨fun q => ?_, fun q => absurd q (nI_ne0 (by omega) (by omega))⟩
    exact absurd (by rw [q]; decide) (nI_pos (n := j) (by omega))
theorem cb_k {x y : Int32} {k : Nat} (hk : k < 8) (h : CB x y) : x = nI k ↔ y = nI (k + 1) := by
  rcases h with ⟨h1, h2⟩ | ⟨j, h0, h1, h2⟩
  · rw [h1, h2]
    refine ⟨fun q => ?_, fun q => ?_⟩
    · exact absurd (by rw [← q]; decide) (nI_pos (n := k) (by omega))
    · exact absurd q.symm (nI_ne0 (by omega) (by omega))
  · rw [h1, h2, nI_eq (by omega) (by omega), nI_eq (by omega) (by omega)]
    omega
theorem cb_pos {x y : Int32} (h : CB x y) : 0 < y ↔ ¬ y = 0 := by
  rcases h with ⟨h1, h2⟩ | ⟨j, h0, h1, h2⟩
  · rw [h2]; exact ⟨fun q => absurd q (by decide), fun q => absurd rfl q⟩
  · rw [h2]; exact ⟨fun _ => nI_ne0 (by omega) (by omega), fun _ => nI_lt (a := 0) (by omega) (by omega)⟩
theorem sput_self {σ : St} {j : Nat} {v : Int32} (h : σ.2 j = v) : sput σ j v = σ := by
  unfold sput
  have e : (fun i => if i = j then v else σ.2 i) = σ.2 := by
    funext i
    by_cases c : i = j
    · rw [if_pos c, c, h]
    · rw [if_neg c]
  rw [e]
theorem sput_comm {σ : St} {i j : Nat} {x y : Int32} (h : i ≠ j) : sput (sput σ i x) j y = sput (sput σ j y) i x := by
  unfold sput
  congr 1
  funext q
  dsimp only
  by_cases c : q = i
  · rw [if_pos c, if_neg (by omega), if_pos c]
  · rw [if_neg c, if_neg c]
theorem n552 {μ : Mo} {a : Nat} (ha : a < 100) : now μ (552 + nI a) = μ.2 0 (552 + a) := by rw [ix_552, now_nI (by omega)]
theorem n652 {μ : Mo} {a : Nat} (ha : a < 100) : now μ (652 + nI a) = μ.2 0 (652 + a) := by rw [ix_652, now_nI (by omega)]
theorem s552 {μ : Mo} {a : Nat} {v : Int32} (ha : a < 100) : (setNow μ (552 + nI a) v).2 0 = upd (μ.2 0) (552 + a) v := by rw [ix_552, setNow_nI (by omega)]
theorem s652 {μ : Mo} {a : Nat} {v : Int32} (ha : a < 100) : (setNow μ (652 + nI a) v).2 0 = upd (μ.2 0) (652 + a) v := by rw [ix_652, setNow_nI (by omega)]
theorem r_rem {C N a : Nat} {σ : St} {f : Nat → Int32} (h1 : 1 ≤ a) (h2 : a < 100) (hf : ¬ f (552 + a) = 0) (h : RC C N σ f) : RC C N (tRemove σ (nI a)) (upd f (552 + a) 0) := by
  unfold tRemove
  rw [oPut_k h2 (by decide)]
  have e := tc_upd (f := f) (a := a) (y := 0) (k := 99) h1 (by omega)
  rw [show b2 (0 : Int32) = 0 from rfl, show b2 (f (552 + a)) = 1 from if_neg hf] at e
  refine rc_tab h1 h2 (Or.inl ⟨rfl, rfl⟩) ?_ ?_ h
  · rw [h.2.2.2.2.2.1.2.2.2.1, show tc f 99 = tc (upd f (552 + a) 0) 99 + 1 by omega]
    exact nI_pred _
  · have := h.2.2.2.2.2.1.2.2.2.2
    omega
theorem r_remAll {C N k : Nat} {σ : St} {μ : Mo} (hk : k < 8) (h : RC C N σ (μ.2 0)) : ∀ j, j ≤ 99 → RC C N (tRemAll σ (nI k) j) ((mRemE μ (nI k) j).2 0)
  | 0, _ => h
  | j + 1, hj => by
    have ih := r_remAll hk h j (by omega)
    have hc := ih.2.2.2.2.2.1.1 (j + 1) (by omega)
    unfold tRemAll mRemE
    rw [oAt_k (by omega) (by decide), n552 (by omega), ← nI_succ k]
    by_cases c : (tRemAll σ (nI k) j).1 9 (j + 1) = nI k
    · have c2 := (cb_k hk hc).mp c
      rw [if_pos c, if_pos c2, s552 (by omega)]
      refine r_rem (by omega) (by omega) ?_ ih
      rw [c2]; exact nI_ne0 (by omega) (by omega)
    · rw [if_neg c, if_neg (fun q => c ((cb_k hk hc).mpr q))]
      exact ih
theorem remAll_s {σ : St} {p v : Int32} : ∀ j, tRemAll (sput σ 2 v) p j = sput (tRemAll σ p j) 2 v
  | 0 => rfl
  | j + 1 => by
    unfold tRemAll
    rw [remAll_s j]
    have e : oAt 9 100 (sput (tRemAll σ p j) 2 v) (nI (j + 1)) = oAt 9 100 (tRemAll σ p j) (nI (j + 1)) := rfl
    rw [e]
    by_cases c : oAt 9 100 (tRemAll σ p j) (nI (j + 1)) = p
    · rw [if_pos c, if_pos c]
      unfold tRemove
      exact sput_comm (σ := oPut 9 100 (tRemAll σ p j) (nI (j + 1)) (-4)) (i := 2) (j := 3) (by decide)
    · rw [if_neg c, if_neg c]
theorem remAll_2 {σ : St} {p : Int32} : ∀ j, (tRemAll σ p j).2 2 = σ.2 2
  | 0 => rfl
  | j + 1 => by
    have ih := remAll_2 (σ := σ) (p := p) j
    unfold tRemAll
    by_cases c : oAt 9 100 (tRemAll σ p j) (nI (j + 1)) = p
    · rw [if_pos c]; exact ih
    · rw [if_neg c]; exact ih
theorem r_quar {C N k : Nat} {σ : St} {μ : Mo} {why : Int32} (hk : k < 8) (h : RC C N σ (μ.2 0)) : RC C N (sQuar σ (nI k) why) ((mQuar μ (nI k) why).2 0) := by
  obtain ⟨e1, n, h1, h2, h3⟩ := h.2.1 1 (by decide)
  have h2 : n ≤ 600 := h2
  unfold sQuar mQuar pBegin
  rw [remAll_2, ← remAll_s]
  refine r_remAll hk ?_ 99 (by decide)
  rw [show (1 : Int32) = nI 1 from rfl, show (2 : Int32) = nI 2 from rfl, show (4 : Int32) = nI 4 from rfl, show (5 : Int32) = nI 5 from rfl]
  rw [oAt_k (by decide) (by decide), oPut_k hk (by decide), oPut_k hk (by decide), setNow_nI (by decide), now_nI (by decide), now_nI (by decide), now_nI (by decide), to_k hk (by decide), to_k hk (by decide)]
  rw [e1, h3, h.1.2.1]
  have a1 := rc_left hk h2 rfl (show nI C + nI n = if n = 0 then 0 else nI (C + n) by rw [if_neg (by omega), nI_add]) h
  have a2 := rc_why (v := why) hk a1
  exact rc_begun a2
theorem r_old {C N : Nat} {σ : St} {μ : Mo} (h : RC C N σ (μ.2 0)) : ∀ j, j ≤ 99 → (tOldest σ j = 0 ∧ mOld μ j = -4 ∧ tc (μ.2 0) j = 0) ∨ ∃ a, 1 ≤ a ∧ a ≤ j ∧ tOldest σ j = nI a ∧ mOld μ j = nI a ∧ ¬ μ.2 0 (552 + a) = 0
  | 0, _ => Or.inl ⟨rfl, rfl, rfl⟩
  | j + 1, hj => by
    have hc := h.2.2.2.2.2.1.1 (j + 1) (by omega)
    have ht := (h.2.2.2.2.2.1.2.2.1 (j + 1) (by omega)).1
    unfold tOldest mOld tc
    rw [oAt_k (by omega) (by decide), n552 (by omega), oAt_k (r := 10) (by omega) (by decide), n652 (by omega), ht]
    by_cases c : μ.2 0 (552 + (j + 1)) = 0
    · rw [if_pos ((cb_0 hc).mpr c), if_neg (fun q => (cb_pos hc).mp q c), if_pos c]
      rcases r_old h j (by omega) with q | ⟨a, q1, q2, q3⟩
      · exact Or.inl q
      · exact Or.inr ⟨a, q1, by omega, q3⟩
    · rw [if_neg (fun q => c ((cb_0 hc).mp q)), if_pos ((cb_pos hc).mpr c), if_neg c]
      refine Or.inr ?_
      rcases r_old h j (by omega) with ⟨q1, q2, q3⟩ | ⟨a, q1, q2, q3, q4, q5⟩
      · rw [q1, q2, if_pos rfl, if_pos rfl]
        exact ⟨j + 1, by omega, Nat.le_refl _, rfl, rfl, c⟩
      · have hta := (h.2.2.2.2.2.1.2.2.1 a (by omega)).1
        rw [q3, q4, if_neg (nI_ne0 (by omega) (by omega)), if_neg (show ¬ nI a = (-4 : Int32) from fun q => absurd (by rw [q]; decide) (nI_pos (n := a) (by omega))), oAt_k (by omega) (by decide), n652 (by omega), hta]
        by_cases c2 : μ.2 0 (652 + (j + 1)) < μ.2 0 (652 + a)
        · rw [if_pos c2]
          exact ⟨j + 1, by omega, Nat.le_refl _, rfl, rfl, c⟩
        · rw [if_neg c2]
          exact ⟨a, q1, by omega, rfl, rfl, q5⟩
theorem r_ent {C N : Nat} {σ : St} {μ : Mo} (h : RC C N σ (μ.2 0)) : ∀ j, j ≤ 99 → mEnt μ j = nI (tc (μ.2 0) j)
  | 0, _ => rfl
  | j + 1, hj => by
    have hc := h.2.2.2.2.2.1.1 (j + 1) (by omega)
    unfold mEnt tc
    rw [n552 (by omega), r_ent h j (by omega)]
    by_cases c : μ.2 0 (552 + (j + 1)) = 0
    · rw [if_neg (fun q => (cb_pos hc).mp q c), if_pos c]; exact nI_add _ 0
    · rw [if_pos ((cb_pos hc).mpr c), if_neg c, nI_succ]
theorem ln_k {μ : Mo} {k a : Nat} (ha : a < 100) : (mLn μ (nI k) (nI a)).2 0 = upd (upd (μ.2 0) (552 + a) (nI (k + 1))) (652 + a) (μ.2 0 4) := by
  unfold mLn
  rw [s652 ha, show (4 : Int32) = nI 4 from rfl, now_nI (by decide), s552 ha, upd_n (by omega), ← nI_succ]
/-- an entry that is there already -/
theorem r_have {C N a k : Nat} {σ : St} {f : Nat → Int32} (h1 : 1 ≤ a) (h2 : a < 100) (hk : k < 8) (hf : ¬ f (552 + a) = 0) (h : RC C N σ f) : RC C N (oPut 10 100 (oPut 9 100 σ (nI a) (nI k)) (nI a) (nI C)) (upd (upd f (552 + a) (nI (k + 1))) (652 + a) (nI C)) := by
  have e := tc_upd (f := f) (a := a) (y := nI (k + 1)) (k := 99) h1 (by omega)
  rw [show b2 (nI (k + 1)) = 1 from if_neg (nI_ne0 (by omega) (by omega)), show b2 (f (552 + a)) = 1 from if_neg hf] at e
  have ec : tc (upd f (552 + a) (nI (k + 1))) 99 = tc f 99 := by omega
  have b := rc_tab (x := nI k) (y := nI (k + 1)) (v := σ.2 3) h1 h2 (Or.inr ⟨k, hk, rfl, rfl⟩) (by rw [ec]; exact h.2.2.2.2.2.1.2.2.2.1) (by rw [ec]; exact h.2.2.2.2.2.1.2.2.2.2) h
  rw [sput_self (σ := rput σ 9 (upd (σ.1 9) a (nI k))) (j := 3) (v := σ.2 3) rfl] at b
  rw [oPut_k h2 (by decide), oPut_k h2 (by decide)]
  exact rc_time h2 (Nat.le_refl C) rfl b
/-- a new entry, where there is room -/
theorem r_new {C N a k : Nat} {σ : St} {f : Nat → Int32} (h1 : 1 ≤ a) (h2 : a < 100) (hk : k < 8) (hf : f (552 + a) = 0) (ht : tc f 99 < 20) (h : RC C N σ f) : RC C N (oPut 10 100 (oPut 9 100 (sput σ 3 (σ.2 3 + 1)) (nI a) (nI k)) (nI a) (nI C)) (upd (upd f (552 + a) (nI (k + 1))) (652 + a) (nI C)) := by
  have e := tc_upd (f := f) (a := a) (y := nI (k + 1)) (k := 99) h1 (by omega)
  rw [show b2 (nI (k + 1)) = 1 from if_neg (nI_ne0 (by omega) (by omega)), show b2 (f (552 + a)) = 0 from if_pos hf] at e
  have ec : tc (upd f (552 + a) (nI (k + 1))) 99 = tc f 99 + 1 := by omega
  have b := rc_tab (x := nI k) (y := nI (k + 1)) (v := σ.2 3 + 1) h1 h2 (Or.inr ⟨k, hk, rfl, rfl⟩) (by rw [ec, nI_succ, h.2.2.2.2.2.1.2.2.2.1]) (by omega) h
  rw [oPut_k h2 (by decide), oPut_k h2 (by decide)]
  exact rc_time h2 (Nat.le_refl C) rfl b
theorem r_learn {C N a k : Nat} {σ : St} {μ : Mo} (h1 : 1 ≤ a) (h2 : a < 100) (hk : k < 8) (h : RC C N σ (μ.2 0)) : ∃ ν : Mo, (∀ d pr, mB2 μ (nI k) (nI a) d pr = mB3 ν (nI k) (nI a) d pr) ∧ ν.1 = μ.1 ∧ RC C N (tLearn σ (nI a) (nI k) (nI C)) ((mLn ν (nI k) (nI a)).2 0) := by
  have hc := h.2.2.2.2.2.1.1 a h2
  unfold tLearn mB2
  rw [oAt_k h2 (by decide), n552 h2, r_ent h 99 (by decide)]
  by_cases c : μ.2 0 (552 + a) = 0
  · rw [if_pos ((cb_0 hc).mpr c)]
    unfold tRoom
    rw [h.2.2.2.2.2.1.2.2.2.1]
    have hle := h.2.2.2.2.2.1.2.2.2.2
    by_cases c2 : tc (μ.2 0) 99 = 20
    · rcases r_old h 99 (by decide) with ⟨_, _, q3⟩ | ⟨b, q1, q2, q3, q4, q5⟩
      · omega
      · refine ⟨mRemO μ, fun d pr => by rw [if_pos c, if_pos (by rw [c2]; rfl)], rfl, ?_⟩
        have hne : a ≠ b := fun q => q5 (q ▸ c)
        rw [if_neg (by rw [c2]; decide), q3, ln_k h2]
        unfold mRemO
        rw [q4, s552 (by omega)]
        have r1 := r_rem q1 (by omega) q5 h
        have e := tc_upd (f := μ.2 0) (a := b) (y := 0) (k := 99) q1 (by omega)
        rw [show b2 (0 : Int32) = 0 from rfl, show b2 (μ.2 0 (552 + b)) = 1 from if_neg q5] at e
        rw [show upd (μ.2 0) (552 + b) 0 4 = nI C by rw [upd_n (by omega)]; exact h.1.2.1]
        exact r_new h1 h2 hk (by rw [upd_n (by omega)]; exact c) (by omega) r1
    · refine ⟨μ, fun d pr => by rw [if_pos c, if_neg (show ¬ nI (tc (μ.2 0) 99) = (20 : Int32) from fun q => c2 ((nI_eq (b := 20) (by omega) (by decide)).mp q))], rfl, ?_⟩
      rw [if_pos (nlt_lit (b := 20) (by omega) (by decide)), ln_k h2, h.1.2.1, ← h.2.2.2.2.2.1.2.2.2.1]
      exact r_new h1 h2 hk c (by omega) h
  · refine ⟨μ, fun d pr => by rw [if_neg c], rfl, ?_⟩
    rw [if_neg (fun q => c ((cb_0 hc).mp q)), ln_k h2, h.1.2.1]
    exact r_have h1 h2 hk c h
