/-! sets of ports as bits; open ports; the frames that go out of several -/
def wb (b : Nat → Bool) : Nat → Int32
  | 0 => 0
  | k + 1 => if b k = true then wb b k ||| ((1 : Int32) <<< (nI k &&& 31)) else wb b k
def w1 (x : Int32) (k : Nat) (b : Bool) : Int32 := if b = true then x ||| ((1 : Int32) <<< (nI k &&& 31)) else x
def wb8 (b0 b1 b2 b3 b4 b5 b6 b7 : Bool) : Int32 := w1 (w1 (w1 (w1 (w1 (w1 (w1 (w1 0 0 b0) 1 b1) 2 b2) 3 b3) 4 b4) 5 b5) 6 b6) 7 b7
theorem wb_8 (b : Nat → Bool) : wb b 8 = wb8 (b 0) (b 1) (b 2) (b 3) (b 4) (b 5) (b 6) (b 7) := rfl
def gb8 (b0 b1 b2 b3 b4 b5 b6 b7 : Bool) (q : Nat) : Bool := if q = 0 then b0 else if q = 1 then b1 else if q = 2 then b2 else if q = 3 then b3 else if q = 4 then b4 else if q = 5 then b5 else if q = 6 then b6 else b7
theorem gb_8 (b : Nat → Bool) {q : Nat} (hq : q < 8) : gb8 (b 0) (b 1) (b 2) (b 3) (b 4) (b 5) (b 6) (b 7) q = b q := by
  rcases (show q = 0 ∨ q = 1 ∨ q = 2 ∨ q = 3 ∨ q = 4 ∨ q = 5 ∨ q = 6 ∨ q = 7 by omega) with rfl | rfl | rfl | rfl | rfl | rfl | rfl | rfl <;> rfl
set_option maxRecDepth 100000 in
theorem bit8 : ∀ b0 b1 b2 b3 b4 b5 b6 b7 : Bool, ∀ q : Fin 8, ((wb8 b0 b1 b2 b3 b4 b5 b6 b7 >>> (nI q.val &&& 31)) &&& 1 = 1) ↔ gb8 b0 b1 b2 b3 b4 b5 b6 b7 q.val = true := by decide +kernel
theorem bit_k {b : Nat → Bool} {q : Nat} (hq : q < 8) : ((wb b 8 >>> (nI q &&& 31)) &&& 1 = 1) ↔ b q = true := by
  have := bit8 (b 0) (b 1) (b 2) (b 3) (b 4) (b 5) (b 6) (b 7) ⟨q, hq⟩
  rw [gb_8 b hq] at this
  exact this
def no8 (b0 b1 b2 b3 b4 b5 b6 b7 : Bool) (p : Nat) : Int32 := wb8 (b0 && !decide (0 = p)) (b1 && !decide (1 = p)) (b2 && !decide (2 = p)) (b3 && !decide (3 = p)) (b4 && !decide (4 = p)) (b5 && !decide (5 = p)) (b6 && !decide (6 = p)) (b7 && !decide (7 = p))
set_option maxRecDepth 100000 in
theorem mask8 : ∀ b0 b1 b2 b3 b4 b5 b6 b7 : Bool, ∀ p : Fin 8, wb8 b0 b1 b2 b3 b4 b5 b6 b7 &&& (((1 : Int32) <<< (nI p.val &&& 31)) ^^^ (-1)) = no8 b0 b1 b2 b3 b4 b5 b6 b7 p.val := by decide +kernel
theorem mask_k {b : Nat → Bool} {p : Nat} (hp : p < 8) : wb b 8 &&& (((1 : Int32) <<< (nI p &&& 31)) ^^^ (-1)) = wb (fun q => b q && !decide (q = p)) 8 := mask8 (b 0) (b 1) (b 2) (b 3) (b 4) (b 5) (b 6) (b 7) ⟨p, hp⟩
theorem one8 : ∀ t : Fin 8, (1 : Int32) <<< (nI t.val &&& 31) = wb (fun q => decide (q = t.val)) 8 := by decide +kernel
def ct8 (b0 b1 b2 b3 b4 b5 b6 b7 : Bool) : Int32 := (((((((0 + (if b0 = true then 1 else 0)) + (if b1 = true then 1 else 0)) + (if b2 = true then 1 else 0)) + (if b3 = true then 1 else 0)) + (if b4 = true then 1 else 0)) + (if b5 = true then 1 else 0)) + (if b6 = true then 1 else 0)) + (if b7 = true then 1 else 0)
set_option maxRecDepth 100000 in
theorem bitc8 : ∀ b0 b1 b2 b3 b4 b5 b6 b7 : Bool, bitC (wb8 b0 b1 b2 b3 b4 b5 b6 b7) = ct8 b0 b1 b2 b3 b4 b5 b6 b7 := by decide +kernel
def ob (σ : St) (k : Nat) : Bool := !decide (pOpen σ (nI k) = 0)
theorem ob_t {σ : St} {k : Nat} : ob σ k = true ↔ ¬ pOpen σ (nI k) = 0 := by
  unfold ob
  by_cases c : pOpen σ (nI k) = 0
  · rw [decide_eq_true c]; exact ⟨fun h => absurd h (by decide), fun h => absurd c h⟩
  · rw [decide_eq_false c]; exact ⟨fun _ => c, fun _ => rfl⟩
theorem ones_b (σ : St) : ∀ n, pOnes σ n = wb (ob σ) n
  | 0 => rfl
  | n + 1 => by
    unfold pOnes wb
    rw [ones_b σ n]
    by_cases c : pOpen σ (nI n) = 0
    · rw [if_pos c, if_neg (fun h => ob_t.mp h c)]
    · rw [if_neg c, if_pos (ob_t.mpr c)]
-- open ports
theorem open_k {C N k : Nat} {σ : St} {μ : Mo} (hC : C + 600 < 2147483648) (hk : k < 8) (h : RC C N σ (μ.2 0)) : pOpen σ (nI k) = mOpen μ (nI k) := by
  obtain ⟨⟨h1, _⟩, ⟨L, h2, h3, h4⟩, _⟩ := h.2.2.1 k hk
  unfold pOpen mOpen
  rw [oAt_k hk (by decide), oAt_k hk (by decide), show (0 : Int32) = nI 0 from rfl, show (1 : Int32) = nI 1 from rfl, of_nI hk (by decide), of_nI hk (by decide), h3, h4]
  rw [show μ.2 0 (8 + 20 * k + 0) = σ.1 1 k from h1.symm]
  by_cases c : σ.1 1 k = nI 1
  · rw [if_pos c, if_pos c]
    by_cases c2 : L = 0
    · subst c2; rfl
    · rw [if_neg c2, if_neg (fun q => c2 ((nI_eq (by omega) (by decide)).mp q)), if_neg (fun q => absurd ((nI_eq (by omega) (by decide)).mp q) (by omega))]
  · rw [if_neg c, if_neg c]
theorem out_1 {σ : St} {p s d pr : Int32} : (sOut σ p s d pr).1 1 = σ.1 1 := by
  unfold sOut
  by_cases c : qFull σ p = 0
  · rw [if_pos c]; rfl
  · rw [if_neg c]; rfl
theorem out_2 {σ : St} {p s d pr : Int32} : (sOut σ p s d pr).1 2 = σ.1 2 := by
  unfold sOut
  by_cases c : qFull σ p = 0
  · rw [if_pos c]; rfl
  · rw [if_neg c]; rfl
theorem open_eq {σ τ : St} {p : Int32} (h1 : τ.1 1 = σ.1 1) (h2 : τ.1 2 = σ.1 2) : pOpen τ p = pOpen σ p := by
  unfold pOpen oAt
  rw [h1, h2]
theorem go_b {σ : St} {b : Nat → Bool} {s d pr : Int32} {k : Nat} (hk : k < 8) : sGo σ (wb b 8) s d pr (k + 1) = if b k = true then sOut (sGo σ (wb b 8) s d pr k) (nI k) s d pr else sGo σ (wb b 8) s d pr k := by
  show (if _ then _ else _) = _
  by_cases c : b k = true
  · rw [if_pos c, if_pos ((bit_k hk).mpr c)]
  · rw [if_neg c, if_neg (fun q => c ((bit_k hk).mp q))]
theorem go_open {σ : St} {w s d pr : Int32} : ∀ k, (sGo σ w s d pr k).1 1 = σ.1 1 ∧ (sGo σ w s d pr k).1 2 = σ.1 2
  | 0 => ⟨rfl, rfl⟩
  | k + 1 => by
    have ih := go_open (σ := σ) (w := w) (s := s) (d := d) (pr := pr) k
    unfold sGo
    by_cases c : (w >>> (nI k &&& 31)) &&& 1 = 1
    · rw [if_pos c]; exact ⟨out_1.trans ih.1, out_2.trans ih.2⟩
    · rw [if_neg c]; exact ih
theorem go_one {σ : St} {t : Nat} {s d pr : Int32} : ∀ k, k ≤ 8 → sGo σ (wb (fun q => decide (q = t)) 8) s d pr k = if t < k then sOut σ (nI t) s d pr else σ
  | 0, _ => rfl
  | k + 1, hk => by
    rw [go_b (by omega), go_one k (by omega)]
    by_cases c : k = t
    · subst c
      rw [if_pos (decide_eq_true rfl), if_neg (by omega), if_pos (by omega)]
    · rw [if_neg (show ¬ decide (k = t) = true from fun q => c (of_decide_eq_true q))]
      by_cases c2 : t < k
      · rw [if_pos c2, if_pos (by omega)]
      · rw [if_neg c2, if_neg (by omega)]
theorem go_none {σ : St} {s d pr : Int32} : ∀ k, k ≤ 8 → sGo σ 0 s d pr k = σ
  | 0, _ => rfl
  | k + 1, hk => by
    have e : (0 : Int32) = wb (fun _ => false) 8 := rfl
    rw [e, go_b (by omega), if_neg (by decide), ← e]
    exact go_none k (by omega)
theorem fl_k {C N p : Nat} {σ : St} {μ : Mo} {s d pr : Int32} (hC : C + 600 < 2147483648) (hN : N + 8 < 2147483648) (hp : p < 8) (hs : AS s) (hd : AD d) (hr : WH pr 4) (h : RC C N σ (μ.2 0)) (ho : μ.1 2 = 0) : ∀ k, k ≤ 8 → (∃ N', N' ≤ N + k ∧ RC C N' (sGo σ (wb (fun q => ob σ q && !decide (q = p)) 8) s d pr k) ((mFl μ (nI p) s d pr k).2 0)) ∧ (mFl μ (nI p) s d pr k).1 2 = wb (fun q => ob σ q && !decide (q = p)) k
  | 0, _ => ⟨⟨N, by omega, h⟩, ho⟩
  | k + 1, hk => by
    obtain ⟨⟨N', h1, h2⟩, h3⟩ := fl_k hC hN hp hs hd hr h ho k (by omega)
    have e1 : ob (sGo σ (wb (fun q => ob σ q && !decide (q = p)) 8) s d pr k) k = ob σ k := by
      unfold ob
      rw [open_eq (go_open k).1 (go_open k).2]
    have e2 := open_k hC (by omega : k < 8) h2
    rw [go_b (by omega)]
    unfold mFl
    by_cases c : k = p
    · have cf : (ob σ k && !decide (k = p)) = false := by rw [decide_eq_true c]; cases ob σ k <;> rfl
      have c3 : ¬ (ob σ k && !decide (k = p)) = true := by rw [cf]; decide
      rw [if_pos (show nI k = nI p by rw [c]), if_neg c3]
      refine ⟨⟨N', by omega, h2⟩, ?_⟩
      rw [h3]
      show _ = if _ then _ else _
      rw [if_neg c3]
    · rw [if_neg (show ¬ nI k = nI p from fun q => c ((nI_eq (by omega) (by omega)).mp q)), ← e2]
      have cf : (ob σ k && !decide (k = p)) = ob σ k := by rw [decide_eq_false c]; cases ob σ k <;> rfl
      by_cases c2 : pOpen (sGo σ (wb (fun q => ob σ q && !decide (q = p)) 8) s d pr k) (nI k) = 0
      · have c3 : ¬ (ob σ k && !decide (k = p)) = true := by rw [cf, ← e1]; exact fun q => ob_t.mp q c2
        rw [if_pos c2, if_neg c3]
        refine ⟨⟨N', by omega, h2⟩, ?_⟩
        rw [h3]
        show _ = if _ then _ else _
        rw [if_neg c3]
      · have c3 : (ob σ k && !decide (k = p)) = true := by rw [cf, ← e1]; exact ob_t.mpr c2
        rw [if_neg c2, if_pos c3]
        obtain ⟨N2, q1, q2⟩ := rc_out (μ := msc (mFl μ (nI p) s d pr k) 2 ((mFl μ (nI p) s d pr k).1 2 ||| ((1 : Int32) <<< (nI k &&& 31)))) (by omega) (by omega : k < 8) hs hd hr h2
        refine ⟨⟨N2, by omega, q2⟩, ?_⟩
        have e4 : ∀ ν : Mo, (mGo ν (nI k) s d pr).1 = ν.1 := by
          intro ν
          unfold mGo
          by_cases c5 : mOf ν (nI k) 5 = 12
          · rw [if_pos c5]; rfl
          · rw [if_neg c5]; rfl
        rw [e4]
        show (mFl μ (nI p) s d pr k).1 2 ||| _ = if _ then _ else _
        rw [if_pos c3, h3]
