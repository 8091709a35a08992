/-! the law's frames: what goes as it was told -/
def oS (S : Sy) : Nat → Int32
  | 0 => 0
  | j + 1 => oS S j ||| (xPort S (nI j) 1 <<< (nI j &&& 31))
theorem os_k (S : Sy) : ∀ j, j ≤ 8 → oS S j = wb (ob (S.1 0)) j
  | 0, _ => rfl
  | j + 1, hj => by
    unfold oS wb
    rw [os_k S j (by omega), xp1b (by omega)]
    by_cases c : ob (S.1 0) j = true
    · rw [if_pos c, if_pos c]
    · rw [if_neg c, if_neg c]
      have z : ∀ i : Fin 8, (0 : Int32) <<< (nI i.val &&& 31) = 0 := by decide +kernel
      rw [z ⟨j, by omega⟩, Int32.or_zero]
def aF (S : Sy) : Nat → Nat → Int32
  | 0 => fun _ => 0
  | j + 1 => upd (aF S j) (nI j).toNatClampNeg (xPort S (nI j) 5)
def cF (S : Sy) : Nat → Nat → Int32
  | 0 => fun _ => 0
  | j + 1 => upd (cF S j) (nI j).toNatClampNeg (xAccount S (nI j) 8)
theorem af_at {S : Sy} {q : Nat} : ∀ n, n ≤ 8 → q < n → aF S n q = xPort S (nI q) 5
  | 0, _, h => absurd h (Nat.not_lt_zero q)
  | n + 1, hn, h => by
    unfold aF
    rw [nI_clamp (by omega)]
    by_cases c : q = n
    · subst c; exact upd_s
    · rw [upd_n c]; exact af_at n (by omega) (by omega)
theorem cf_at {S : Sy} {q : Nat} : ∀ n, n ≤ 8 → q < n → cF S n q = xAccount S (nI q) 8
  | 0, _, h => absurd h (Nat.not_lt_zero q)
  | n + 1, hn, h => by
    unfold cF
    rw [nI_clamp (by omega)]
    by_cases c : q = n
    · subst c; exact upd_s
    · rw [upd_n c]; exact cf_at n (by omega) (by omega)
set_option maxRecDepth 100000 in
theorem sub8 : ∀ b0 b1 b2 b3 b4 b5 b6 b7 : Bool, ∀ j : Fin 8, gb8 b0 b1 b2 b3 b4 b5 b6 b7 j.val = true → ((1 : Int32) <<< (nI j.val &&& 31)) &&& (wb8 b0 b1 b2 b3 b4 b5 b6 b7 ^^^ (-1)) = 0 := by decide +kernel
set_option maxRecDepth 100000 in
theorem sub9 : ∀ b0 b1 b2 b3 b4 b5 b6 b7 : Bool, ∀ p : Fin 8, (wb8 b0 b1 b2 b3 b4 b5 b6 b7 &&& (((1 : Int32) <<< (nI p.val &&& 31)) ^^^ (-1))) &&& (wb8 b0 b1 b2 b3 b4 b5 b6 b7 ^^^ (-1)) = 0 := by decide +kernel
theorem bit1 : ∀ j : Fin 8, ¬ ((1 : Int32) <<< (nI j.val &&& 31)) = 0 ∧ ((1 : Int32) <<< (nI j.val &&& 31)) &&& (((1 : Int32) <<< (nI j.val &&& 31)) - 1) = 0 := by decide +kernel
theorem and1 : ∀ b0 b1 b2 b3 b4 b5 b6 b7 : Bool, ∀ q : Fin 8, ¬ gb8 b0 b1 b2 b3 b4 b5 b6 b7 q.val = true → (wb8 b0 b1 b2 b3 b4 b5 b6 b7 >>> (nI q.val &&& 31)) &&& 1 = 0 := by decide +kernel
theorem bit_0 {b : Nat → Bool} {q : Nat} (hq : q < 8) (h : ¬ b q = true) : (wb b 8 >>> (nI q &&& 31)) &&& 1 = 0 := by
  have := and1 (b 0) (b 1) (b 2) (b 3) (b 4) (b 5) (b 6) (b 7) ⟨q, hq⟩
  rw [gb_8 b hq] at this
  exact this h
def FQ (S1 S2 : Sy) (w : Int32) (q : Nat) : Prop :=
  ((w >>> (nI q &&& 31)) &&& 1 = 0 → xPort S2 (nI q) 5 - aF S1 8 (nI q).toNatClampNeg = 0 ∧ xAccount S2 (nI q) 8 - cF S1 8 (nI q).toNatClampNeg = 0) ∧
  (¬ (w >>> (nI q &&& 31)) &&& 1 = 0 → (aF S1 8 (nI q).toNatClampNeg = 12 → xPort S2 (nI q) 5 - aF S1 8 (nI q).toNatClampNeg = 0 ∧ xAccount S2 (nI q) 8 - cF S1 8 (nI q).toNatClampNeg = 1) ∧ (¬ aF S1 8 (nI q).toNatClampNeg = 12 → xPort S2 (nI q) 5 - aF S1 8 (nI q).toNatClampNeg = 1 ∧ xAccount S2 (nI q) 8 - cF S1 8 (nI q).toNatClampNeg = 0))
def FB (k a : Nat) (o w : Int32) (n : Nat) (S1 S2 : Sy) : Prop :=
  (n < 7 ∧ ((o >>> (nI k &&& 31)) &&& 1 = 1 ↔ ¬ nI n = 0) ∧ ¬ (w >>> (nI k &&& 31)) &&& 1 = 1 ∧ w &&& (o ^^^ (-1)) = 0) ∧
  (nI n = 3 → w = o &&& (((1 : Int32) <<< (nI k &&& 31)) ^^^ (-1)) ∧ xPort S2 (nI k) 7 = xPort S1 (nI k) 7 + 1) ∧
  (nI n = 2 → ¬ w = 0 ∧ w &&& (w - 1) = 0) ∧
  (¬ nI n = 3 → ¬ nI n = 2 → w = 0) ∧
  ((nI n = 4 ∨ nI n = 5) → xPort S2 (nI k) 2 = xCount S2 1 ∧ xPort S2 (nI k) 3 = nI n - 3 ∧ xCount S2 11 = xCount S1 11 + 1 ∧ xPort S2 (nI k) 6 = 0) ∧
  (¬ nI n = 4 → ¬ nI n = 5 → xCount S2 11 = xCount S1 11 ∧ (¬ nI n = 0 → xWhere S2 (nI a) = nI k)) ∧
  (nI n = 4 → ¬ xWhere S1 (nI a) < 0 ∧ ¬ xWhere S1 (nI a) = nI k) ∧
  (nI n = 5 → ¬ xPort S1 (nI k) 7 < xCount S2 2) ∧
  ∀ q, q < 8 → FQ S1 S2 w q
def FM (M nx k a b pr : Nat) (S : Sy) : Prop := ∃ S1 S2 w n, xWouldGo S (nI k) (nI a) (nI b) = (w, S1) ∧ XV M nx S1 ∧ xFrame nx S1 (nI k) (nI a) (nI b) (nI pr) = (nI n, S2) ∧ XV M ((nx + 1) % 4) S2 ∧ FB k a (wb (ob (S.1 0)) 8) w n S1 S2
theorem eq_n {n c : Nat} (hn : n < 7) (hc : c < 2147483648) : nI n = nI c ↔ n = c := nI_eq (by omega) hc
theorem fm_k {M nx k a b pr : Nat} {S : Sy} (hM : M < 100000000) (hk : k < 8) (h1 : 1 ≤ a) (h2 : a < 100) (hb : b < 100) (hp : pr < 4) (h : XV M nx S) : FM (M + 20) nx k a b pr S := by
  obtain ⟨C, N, K, c1, c2, c3, i⟩ := h.1 0 (by decide)
  obtain ⟨τ, n, B, e1, L, ew, wB, e2, ⟨N', n1, i2⟩, go, md⟩ := come_k (pr := nI pr) (by omega) (by omega) hk h1 h2 hb ⟨pr, hp, rfl⟩ i
  have hN : ∀ c, c < 2147483648 → (nI n = nI c ↔ n = c) := fun c hc => eq_n L.2.2.1 hc
  have x1 : XV (M + 20) nx (xst S 2 τ) := xv_st (h.mono (by omega)) (im_of L.1 (by omega) (by omega) (by omega))
  have eW : xWouldGo S (nI k) (nI a) (nI b) = (wb B 8, xst S 2 τ) := by
    unfold xWouldGo
    rw [if_neg (isP_k hk), if_neg (isA_k h1 h2), if_neg (isD_k hb), e1]
    dsimp only
    rw [ew]
  have r0 : (xRec nx (xst S 2 τ)).1 0 = S.1 0 := rec_x
  generalize hυ : (sCome (S.1 0) (nI k) (nI a) (nI b) (nI pr)).2 = υ at *
  have eF : xFrame nx (xst S 2 τ) (nI k) (nI a) (nI b) (nI pr) = (nI n, xst (xRec nx (xst S 2 τ)) 0 υ) := by
    unfold xFrame
    rw [if_neg (isP_k hk), if_neg (isA_k h1 h2), if_neg (isD_k hb), if_neg (nI_pos (by omega)), if_neg (show ¬ (3 : Int32) < nI pr from nI_nlt (a := 3) (by omega) (by omega)), r0, e2, hυ]
  refine ⟨xst S 2 τ, xst (xRec nx (xst S 2 τ)) 0 υ, wb B 8, n, eW, x1, eF, act_xv x1 (im_of i2 (by omega) (by omega) (by omega)), ?_⟩
  generalize hS1 : xst S 2 τ = S1
  have s10 : S1.1 0 = S.1 0 := by rw [← hS1]; rfl
  generalize hS2 : xst (xRec nx S1) 0 υ = S2
  have s20 : S2.1 0 = υ := by rw [← hS2]; rfl
  obtain ⟨L1, LR, L2, L3, L4, L5, L6, L7, L8, L9⟩ := L
  obtain ⟨w1, w2, w3, w4⟩ := wB
  have g0 : υ.1 0 = (S.1 0).1 0 := (go.1 0 (by decide) (by decide) (by decide)).trans LR.1
  have g2 : υ.1 2 = τ.1 2 := go.1 2 (by decide) (by decide) (by decide)
  have g3 : υ.1 3 = τ.1 3 := go.1 3 (by decide) (by decide) (by decide)
  have g5 : υ.1 5 = τ.1 5 := go.1 5 (by decide) (by decide) (by decide)
  have g9 : υ.1 9 = τ.1 9 := go.1 9 (by decide) (by decide) (by decide)
  refine ⟨⟨L2, ?_, ?_, ?_⟩, fun q3 => ?_, fun q2 => ?_, fun q3 q2 => ?_, fun q => ?_, fun q4 q5 => ?_, fun q4 => ?_, fun q5 => ?_, fun q hq => ?_⟩
  · rw [bit_k hk, show (0 : Int32) = nI 0 from rfl, hN 0 (by omega), L3]
    exact ob_t
  · rw [bit_k hk]
    exact fun q => (w1 k hk q).1 rfl
  · by_cases d2 : n = 2
    · obtain ⟨j, hj, ej⟩ := w3 d2
      have eb : wb B 8 = (1 : Int32) <<< (nI j &&& 31) := by
        rw [show B = fun q => decide (q = j) from funext ej]
        exact (one8 ⟨j, hj⟩).symm
      have oj : ob (S.1 0) j = true := (w1 j hj (by rw [ej]; exact decide_eq_true rfl)).2
      rw [eb, wb_8]
      exact sub8 _ _ _ _ _ _ _ _ ⟨j, hj⟩ (by rw [gb_8 _ hj]; exact oj)
    · by_cases d3 : n = 3
      · have eb : wb B 8 = wb (ob (S.1 0)) 8 &&& (((1 : Int32) <<< (nI k &&& 31)) ^^^ (-1)) := by
          rw [mask_k hk, show B = fun q => ob (S.1 0) q && !decide (q = k) from funext (w2 d3)]
        rw [eb, wb_8]
        exact sub9 _ _ _ _ _ _ _ _ ⟨k, hk⟩
      · have eb : wb B 8 = 0 := by
          rw [show B = fun _ => false from funext (w4 d2 d3)]
          rfl
        rw [eb, Int32.zero_and]
  · have d3 : n = 3 := (hN 3 (by omega)).mp q3
    refine ⟨?_, ?_⟩
    · rw [mask_k hk, show B = fun q => ob (S.1 0) q && !decide (q = k) from funext (w2 d3)]
    · rw [xp7 hk, xp7 hk, s10, s20, g5]
      exact L8 d3
  · obtain ⟨j, hj, ej⟩ := w3 ((hN 2 (by omega)).mp q2)
    have eb : wb B 8 = (1 : Int32) <<< (nI j &&& 31) := by
      rw [show B = fun q => decide (q = j) from funext ej]
      exact (one8 ⟨j, hj⟩).symm
    rw [eb]
    exact bit1 ⟨j, hj⟩
  · have d3 : n ≠ 3 := fun q => q3 ((hN 3 (by omega)).mpr q)
    have d2 : n ≠ 2 := fun q => q2 ((hN 2 (by omega)).mpr q)
    rw [show B = fun _ => false from funext (w4 d2 d3)]
    rfl
  · have d : n = 4 ∨ n = 5 := q.elim (fun q => Or.inl ((hN 4 (by omega)).mp q)) (fun q => Or.inr ((hN 5 (by omega)).mp q))
    obtain ⟨y1, y2, y3, y4⟩ := L4 d
    refine ⟨?_, ?_, ?_, ?_⟩
    · rw [xp2 hk, show xCount S2 1 = (S2.1 0).1 0 1 from xc0 (w := 1) (by decide), s20, g2, g0, y1]
    · rw [xp3 hk, s20, g3, y2]
      rcases d with rfl | rfl <;> decide
    · show (S2.1 0).2 2 = (S1.1 0).2 2 + 1
      rw [s20, s10, go.2.2.1, y3]
    · rw [xp6 hk, s20, tw_k 99 (Nat.le_refl 99), g9, tw_0 y4 99 (Nat.le_refl 99)]
      rfl
  · have d4 : n ≠ 4 := fun q => q4 ((hN 4 (by omega)).mpr q)
    have d5 : n ≠ 5 := fun q => q5 ((hN 5 (by omega)).mpr q)
    obtain ⟨y1, y2, y3⟩ := L5 d4 d5
    refine ⟨?_, fun q0 => ?_⟩
    · show (S2.1 0).2 2 = (S1.1 0).2 2
      rw [s20, s10, go.2.2.1, y2]
    · rw [xwh h1 h2, s20, g9]
      exact y3 (fun q => q0 ((hN 0 (by omega)).mpr q))
  · obtain ⟨j, j1, j2, j3⟩ := L6 ((hN 4 (by omega)).mp q4)
    rw [xwh h1 h2, s10, j3]
    exact ⟨nI_pos (by omega), fun q => j2 ((nI_eq (by omega) (by omega)).mp q)⟩
  · rw [xp7 hk, show xCount S2 2 = (S2.1 0).1 0 2 from xc0 (w := 2) (by decide), s10, s20, g0]
    exact L7 ((hN 5 (by omega)).mp q5)
  · obtain ⟨m, m1, m2, -, -⟩ := i.2.2.2.2.2.2.2.2.2.2.1 q hq
    obtain ⟨-, d, -, -, -, -, -, -, -, -, -, d1, -, d2, -⟩ := i.2.2.2.2.2.2.2.2.2.1 q hq
    have am := md q hq
    unfold MD at am
    rw [m2, d2] at am
    unfold FQ
    rw [nI_clamp (by omega), af_at 8 (Nat.le_refl 8) hq, cf_at 8 (Nat.le_refl 8) hq, xp5 hq, xp5 hq, xa8 hq, xa8 hq, s10, s20, m2, d2]
    have sub0 : ∀ x : Nat, nI x - nI x = 0 := fun x => by rw [pk_sub (Nat.le_refl x), Nat.sub_self]; rfl
    have sub1 : ∀ x : Nat, nI x + 1 - nI x = 1 := fun x => by
      rw [← nI_succ, pk_sub (by omega), Nat.add_sub_cancel_left]
      rfl
    refine ⟨fun z => ?_, fun z => ⟨fun z2 => ?_, fun z2 => ?_⟩⟩
    · have nb : ¬ B q = true := fun y => by
        have := (bit_k hq).mpr y
        rw [z] at this
        exact absurd this (by decide)
      obtain ⟨y1, y2⟩ := am.1 nb
      rw [y1, y2]
      exact ⟨sub0 m, sub0 d⟩
    · have hb' : B q = true := by
        by_cases y : B q = true
        · exact y
        · exact absurd (bit_0 hq y) z
      obtain ⟨y1, y2⟩ := (am.2 hb').1 z2
      rw [y1, y2]
      exact ⟨sub0 m, sub1 d⟩
    · have hb' : B q = true := by
        by_cases y : B q = true
        · exact y
        · exact absurd (bit_0 hq y) z
      obtain ⟨y1, y2⟩ := (am.2 hb').2 z2
      rw [y1, y2]
      exact ⟨sub1 m, sub0 d⟩
