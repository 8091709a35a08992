/-! numbers, rows and queues: one State of the class alone (rows of the claim whole that speak of one side) -/
def AD (x : Int32) : Prop := ∃ a : Nat, a < 100 ∧ x = nI a
def WH (w : Int32) (n : Nat) : Prop := ∃ j : Nat, j < n ∧ w = nI j
theorem upd_s {f : Nat → Int32} {k : Nat} {v : Int32} : upd f k v k = v := if_pos rfl
theorem upd_n {f : Nat → Int32} {k j : Nat} {v : Int32} (h : j ≠ k) : upd f k v j = f j := if_neg h
abbrev Fr : Type := Int32 × Int32 × Int32 × Int32
def insF (g : Nat → Fr) (j : Nat) (x : Fr) : Nat → Fr := fun i => if i < j then g i else if i = j then x else g (i - 1)
def Bf (x y : Fr) : Prop := y.2.2.1.toInt < x.2.2.1.toInt ∨ (x.2.2.1.toInt = y.2.2.1.toInt ∧ x.2.2.2.toInt < y.2.2.2.toInt)
theorem bf_irr (x : Fr) : ¬ Bf x x := by
  unfold Bf
  omega
theorem bf_asym {x y : Fr} (h : Bf x y) : ¬ Bf y x := by
  unfold Bf at *
  omega
def Srt (g : Nat → Fr) (m : Nat) : Prop := ∀ i j, i < j → j < m → Bf (g i) (g j)
def AS (x : Int32) : Prop := ∃ a : Nat, 1 ≤ a ∧ a < 100 ∧ x = nI a
def gst (i : Nat) : Nat := if i = 0 then 1000 else if i = 1 then 600 else if i = 2 then 50 else 10
def xF (σ : St) (k i : Nat) : Fr := (σ.1 8 (48 * k + 4 * i), σ.1 8 (48 * k + 4 * i + 1), σ.1 8 (48 * k + 4 * i + 2), σ.1 8 (48 * k + 4 * i + 3))
def OKF (N : Nat) (x : Fr) : Prop := AS x.1 ∧ AD x.2.1 ∧ WH x.2.2.1 4 ∧ ∃ n, n < N ∧ x.2.2.2 = nI n
theorem oAt_k {r n k : Nat} {σ : St} (hk : k < n) (hn : n < 1000000) : oAt r n σ (nI k) = σ.1 r k := by
  unfold oAt rAt
  rw [if_neg (nI_pos (by omega)), if_pos (nI_lt hk (by omega)), nI_clamp (by omega)]
theorem oPut_k {r n k : Nat} {σ : St} {v : Int32} (hk : k < n) (hn : n < 1000000) : oPut r n σ (nI k) v = rput σ r (upd (σ.1 r) k v) := by
  unfold oPut rPut
  rw [if_neg (nI_pos (by omega)), if_pos (nI_lt hk (by omega)), nI_clamp (by omega)]
theorem oAdd_k {r n k : Nat} {σ : St} {v : Int32} (hk : k < n) (hn : n < 1000000) : oAdd r n σ (nI k) v = rput σ r (upd (σ.1 r) k (σ.1 r k + v)) := by
  unfold oAdd rAdd
  rw [if_neg (nI_pos (by omega)), if_pos (nI_lt hk (by omega)), nI_clamp (by omega)]
theorem ix_cr (k w : Nat) : nI k * 11 + nI w = nI (11 * k + w) := by rw [show (11 : Int32) = nI 11 from rfl, pk_mul, nI_add, Nat.mul_comm]
theorem cred_k {σ : St} {k w : Nat} {v : Int32} (hk : k < 8) (hw : w < 11) : pCredit σ (nI k) (nI w) v = rput σ 6 (upd (σ.1 6) (11 * k + w) (σ.1 6 (11 * k + w) + v)) := by
  unfold pCredit
  rw [ix_cr, oAdd_k (by omega) (by decide)]
theorem upd_self {f : Nat → Int32} {k : Nat} {v : Int32} (h : f k = v) : upd f k v = f := by
  funext j
  by_cases c : j = k
  · subst c; rw [upd_s, h]
  · rw [upd_n c]
theorem upd_comm {f : Nat → Int32} {a b : Nat} {x y : Int32} (h : a ≠ b) : upd (upd f a x) b y = upd (upd f b y) a x := by
  funext j
  by_cases c : j = a
  · subst c; rw [upd_n h, upd_s, upd_s]
  · rw [upd_n c]
    by_cases c2 : j = b
    · subst c2; rw [upd_s, upd_s]
    · rw [upd_n c2, upd_n c2, upd_n c]
theorem upd_upd {f : Nat → Int32} {a : Nat} {x y : Int32} : upd (upd f a x) a y = upd f a y := by
  funext j
  by_cases c : j = a
  · subst c; rw [upd_s, upd_s]
  · rw [upd_n c, upd_n c, upd_n c]
theorem rput_rput {σ : St} {r : Nat} {f g : Nat → Int32} : rput (rput σ r f) r g = rput σ r g := by
  unfold rput
  congr 1
  funext i
  dsimp only
  by_cases c : i = r
  · rw [if_pos c, if_pos c]
  · rw [if_neg c, if_neg c, if_neg c]
theorem rput_self {σ : St} {r : Nat} : rput σ r (σ.1 r) = σ := by
  unfold rput
  have e : (fun i => if i = r then σ.1 r else σ.1 i) = σ.1 := by
    funext i
    by_cases c : i = r
    · rw [if_pos c, c]
    · rw [if_neg c]
  rw [e]
theorem rput_comm {σ : St} {r s : Nat} {f g : Nat → Int32} (h : r ≠ s) : rput (rput σ r f) s g = rput (rput σ s g) r f := by
  unfold rput
  congr 1
  funext i
  dsimp only
  by_cases c : i = r
  · rw [if_pos c, if_neg (by omega), if_pos c]
  · rw [if_neg c, if_neg c]
theorem rput_at {σ : St} {r : Nat} {f : Nat → Int32} : (rput σ r f).1 r = f := if_pos rfl
theorem rput_ne {σ : St} {r i : Nat} {f : Nat → Int32} (h : i ≠ r) : (rput σ r f).1 i = σ.1 i := if_neg h
theorem sput_self {σ : St} {j : Nat} {v : Int32} (h : σ.2 j = v) : sput σ j v = σ := by
  unfold sput
  have e : (fun i => if i = j then v else σ.2 i) = σ.2 := by
    funext i
    by_cases c : i = j
    · rw [if_pos c, c, h]
    · rw [if_neg c]
  rw [e]
theorem sput_comm {σ : St} {i j : Nat} {x y : Int32} (h : i ≠ j) : sput (sput σ i x) j y = sput (sput σ j y) i x := by
  unfold sput
  congr 1
  funext q
  dsimp only
  by_cases c : q = i
  · rw [if_pos c, if_neg (by omega), if_pos c]
  · rw [if_neg c, if_neg c]
theorem qCell_k (k i : Nat) : qCell (nI k) (nI i) = nI (48 * k + 4 * i) := by
  unfold qCell
  rw [show (12 : Int32) = nI 12 from rfl, show (4 : Int32) = nI 4 from rfl, pk_mul, nI_add, pk_mul]
  congr 1
  omega
theorem qPart_k {σ : St} {k i w : Nat} (hk : k < 8) (hi : i < 12) (hw : w < 4) : qPart σ (nI k) (nI i) (nI w) = σ.1 8 (48 * k + 4 * i + w) := by
  unfold qPart
  rw [qCell_k, nI_add, oAt_k (by omega) (by decide)]
theorem fits_k {n a L : Nat} (h : a + L ≤ n) (hn : n < 1000000) : rFits n (nI a) (nI L) = 1 := by
  unfold rFits
  rw [if_neg (nI_pos (by omega)), if_neg (nI_pos (by omega)), pk_sub (by omega), if_neg (nI_nlt (by omega) (by omega))]
theorem slide_k {r n a c L : Nat} {σ : St} (h1 : a + L ≤ n) (h2 : c + L ≤ n) (hn : n < 1000000) : oSlide r n σ (nI a) (nI c) (nI L) = rput σ r (va_cpy (σ.1 r) (σ.1 r) a c L) := by
  unfold oSlide rSlide
  rw [fits_k h1 hn, fits_k h2 hn, if_neg (by decide), if_neg (by decide), nI_clamp (by omega), nI_clamp (by omega), nI_clamp (by omega)]
def insRow (f : Nat → Int32) (a L : Nat) (x : Fr) : Nat → Int32 := upd (upd (upd (upd (va_cpy f f a (a + 4) L) a x.1) (a + 1) x.2.1) (a + 2) x.2.2.1) (a + 3) x.2.2.2
theorem qIns_k {σ : St} {k m pl : Nat} {s d pr num : Int32} (hk : k < 8) (hm : m < 12) (hp : pl ≤ m) (e7 : σ.1 7 k = nI m) (ep : qPlace σ (nI k) pr = nI pl) : qIns σ (nI k) s d pr num = rput (rput σ 8 (insRow (σ.1 8) (48 * k + 4 * pl) (4 * (m - pl)) (s, d, pr, num))) 7 (upd (σ.1 7) k (nI (m + 1))) := by
  unfold qIns
  rw [ep, oAt_k hk (by decide), e7, qCell_k, pk_sub hp, show (4 : Int32) = nI 4 from rfl, pk_mul, nI_add, Nat.mul_comm (m - pl) 4, slide_k (by omega) (by omega) (by decide)]
  unfold qWrite
  rw [show (0 : Int32) = nI 0 from rfl, show (1 : Int32) = nI 1 from rfl, show (2 : Int32) = nI 2 from rfl, show (3 : Int32) = nI 3 from rfl, nI_add, nI_add, nI_add, nI_add, nI_add]
  rw [oPut_k (by omega) (by decide), oPut_k (by omega) (by decide), oPut_k (by omega) (by decide), oPut_k (by omega) (by decide), oPut_k (by omega) (by decide)]
  simp only [rput_rput, rput_at]
  rfl
theorem xF_ins {σ : St} {k m pl : Nat} {x : Fr} {g : Nat → Int32} (hk : k < 8) (hm : m < 12) (hp : pl ≤ m) : ∀ i, i < m + 1 → xF (rput (rput σ 8 (insRow (σ.1 8) (48 * k + 4 * pl) (4 * (m - pl)) x)) 7 g) k i = insF (xF σ k) pl x i := by
  intro i hi
  show (insRow (σ.1 8) (48 * k + 4 * pl) (4 * (m - pl)) x (48 * k + 4 * i), insRow (σ.1 8) (48 * k + 4 * pl) (4 * (m - pl)) x (48 * k + 4 * i + 1), insRow (σ.1 8) (48 * k + 4 * pl) (4 * (m - pl)) x (48 * k + 4 * i + 2), insRow (σ.1 8) (48 * k + 4 * pl) (4 * (m - pl)) x (48 * k + 4 * i + 3)) = _
  unfold insRow insF
  by_cases c : i < pl
  · rw [if_pos c]
    simp (disch := omega) only [upd_n, pk_cpy_out]
    rfl
  · rw [if_neg c]
    by_cases c2 : i = pl
    · rw [if_pos c2]
      subst c2
      simp (disch := omega) only [upd_s, upd_n]
    · rw [if_neg c2]
      simp (disch := omega) only [upd_n, pk_cpy_in]
      unfold xF
      rw [show 48 * k + 4 * pl + (48 * k + 4 * i - (48 * k + 4 * pl + 4)) = 48 * k + 4 * (i - 1) by omega, show 48 * k + 4 * pl + (48 * k + 4 * i + 1 - (48 * k + 4 * pl + 4)) = 48 * k + 4 * (i - 1) + 1 by omega, show 48 * k + 4 * pl + (48 * k + 4 * i + 2 - (48 * k + 4 * pl + 4)) = 48 * k + 4 * (i - 1) + 2 by omega, show 48 * k + 4 * pl + (48 * k + 4 * i + 3 - (48 * k + 4 * pl + 4)) = 48 * k + 4 * (i - 1) + 3 by omega]
theorem xF_ino {σ : St} {k j m pl : Nat} {x : Fr} {g : Nat → Int32} (hk : k < 8) (hj : j < 8) (hn : j ≠ k) (hm : m < 12) (hp : pl ≤ m) : ∀ i, i < 12 → xF (rput (rput σ 8 (insRow (σ.1 8) (48 * k + 4 * pl) (4 * (m - pl)) x)) 7 g) j i = xF σ j i := by
  intro i hi
  show (insRow (σ.1 8) (48 * k + 4 * pl) (4 * (m - pl)) x (48 * j + 4 * i), insRow (σ.1 8) (48 * k + 4 * pl) (4 * (m - pl)) x (48 * j + 4 * i + 1), insRow (σ.1 8) (48 * k + 4 * pl) (4 * (m - pl)) x (48 * j + 4 * i + 2), insRow (σ.1 8) (48 * k + 4 * pl) (4 * (m - pl)) x (48 * j + 4 * i + 3)) = _
  unfold insRow
  simp (disch := omega) only [upd_n, pk_cpy_out]
  rfl
theorem qSlot_k {σ : St} {k : Nat} {pr : Int32} (hk : k < 8) : ∀ n, n ≤ 12 → ∃ pl, pl ≤ n ∧ qSlot σ (nI k) pr n = nI pl ∧ (∀ i, pl ≤ i → i < n → (xF σ k i).2.2.1 < pr) ∧ (pl = 0 ∨ ¬ (xF σ k (pl - 1)).2.2.1 < pr)
  | 0, _ => ⟨0, Nat.le_refl 0, rfl, fun i _ h => absurd h (Nat.not_lt_zero i), Or.inl rfl⟩
  | n + 1, hn => by
    have e : qPart σ (nI k) (nI (n + 1) - 1) 2 = (xF σ k n).2.2.1 := by
      rw [nI_pred, show (2 : Int32) = nI 2 from rfl, qPart_k hk (by omega) (by decide)]
      rfl
    unfold qSlot
    rw [e]
    by_cases c : (xF σ k n).2.2.1 < pr
    · rw [if_pos c]
      obtain ⟨pl, h1, h2, h3, h4⟩ := qSlot_k (σ := σ) (pr := pr) hk n (by omega)
      refine ⟨pl, by omega, h2, fun i hi hi2 => ?_, h4⟩
      by_cases c2 : i = n
      · rw [c2]; exact c
      · exact h3 i hi (by omega)
    · rw [if_neg c]
      exact ⟨n + 1, Nat.le_refl _, rfl, fun i h1 h2 => absurd h2 (by omega), Or.inr c⟩
theorem qPlace_k {σ : St} {k m : Nat} {pr : Int32} (hk : k < 8) (hm : m ≤ 12) (e7 : σ.1 7 k = nI m) : ∃ pl, pl ≤ m ∧ qPlace σ (nI k) pr = nI pl ∧ (∀ i, pl ≤ i → i < m → (xF σ k i).2.2.1 < pr) ∧ (pl = 0 ∨ ¬ (xF σ k (pl - 1)).2.2.1 < pr) := by
  unfold qPlace
  rw [oAt_k hk (by decide), e7, nI_clamp (by omega)]
  cases m with
  | zero =>
    rw [if_neg (by decide)]
    exact ⟨0, Nat.le_refl 0, rfl, fun i _ h => absurd h (Nat.not_lt_zero i), Or.inl rfl⟩
  | succ m =>
    rw [if_pos (show (0 : Int32) < nI (m + 1) from nI_lt (a := 0) (b := m + 1) (by omega) (by omega))]
    exact qSlot_k hk (m + 1) hm
def wb (b : Nat → Bool) : Nat → Int32
  | 0 => 0
  | k + 1 => if b k = true then wb b k ||| ((1 : Int32) <<< (nI k &&& 31)) else wb b k
def w1 (x : Int32) (k : Nat) (b : Bool) : Int32 := if b = true then x ||| ((1 : Int32) <<< (nI k &&& 31)) else x
def wb8 (b0 b1 b2 b3 b4 b5 b6 b7 : Bool) : Int32 := w1 (w1 (w1 (w1 (w1 (w1 (w1 (w1 0 0 b0) 1 b1) 2 b2) 3 b3) 4 b4) 5 b5) 6 b6) 7 b7
theorem wb_8 (b : Nat → Bool) : wb b 8 = wb8 (b 0) (b 1) (b 2) (b 3) (b 4) (b 5) (b 6) (b 7) := rfl
def gb8 (b0 b1 b2 b3 b4 b5 b6 b7 : Bool) (q : Nat) : Bool := if q = 0 then b0 else if q = 1 then b1 else if q = 2 then b2 else if q = 3 then b3 else if q = 4 then b4 else if q = 5 then b5 else if q = 6 then b6 else b7
theorem gb_8 (b : Nat → Bool) {q : Nat} (hq : q < 8) : gb8 (b 0) (b 1) (b 2) (b 3) (b 4) (b 5) (b 6) (b 7) q = b q := by
  rcases (show q = 0 ∨ q = 1 ∨ q = 2 ∨ q = 3 ∨ q = 4 ∨ q = 5 ∨ q = 6 ∨ q = 7 by omega) with rfl | rfl | rfl | rfl | rfl | rfl | rfl | rfl <;> rfl
set_option maxRecDepth 100000 in
theorem bit8 : ∀ b0 b1 b2 b3 b4 b5 b6 b7 : Bool, ∀ q : Fin 8, ((wb8 b0 b1 b2 b3 b4 b5 b6 b7 >>> (nI q.val &&& 31)) &&& 1 = 1) ↔ gb8 b0 b1 b2 b3 b4 b5 b6 b7 q.val = true := by decide +kernel
theorem bit_k {b : Nat → Bool} {q : Nat} (hq : q < 8) : ((wb b 8 >>> (nI q &&& 31)) &&& 1 = 1) ↔ b q = true := by
  have := bit8 (b 0) (b 1) (b 2) (b 3) (b 4) (b 5) (b 6) (b 7) ⟨q, hq⟩
  rw [gb_8 b hq] at this
  exact this
def no8 (b0 b1 b2 b3 b4 b5 b6 b7 : Bool) (p : Nat) : Int32 := wb8 (b0 && !decide (0 = p)) (b1 && !decide (1 = p)) (b2 && !decide (2 = p)) (b3 && !decide (3 = p)) (b4 && !decide (4 = p)) (b5 && !decide (5 = p)) (b6 && !decide (6 = p)) (b7 && !decide (7 = p))
set_option maxRecDepth 100000 in
theorem mask8 : ∀ b0 b1 b2 b3 b4 b5 b6 b7 : Bool, ∀ p : Fin 8, wb8 b0 b1 b2 b3 b4 b5 b6 b7 &&& (((1 : Int32) <<< (nI p.val &&& 31)) ^^^ (-1)) = no8 b0 b1 b2 b3 b4 b5 b6 b7 p.val := by decide +kernel
theorem mask_k {b : Nat → Bool} {p : Nat} (hp : p < 8) : wb b 8 &&& (((1 : Int32) <<< (nI p &&& 31)) ^^^ (-1)) = wb (fun q => b q && !decide (q = p)) 8 := mask8 (b 0) (b 1) (b 2) (b 3) (b 4) (b 5) (b 6) (b 7) ⟨p, hp⟩
theorem one8 : ∀ t : Fin 8, (1 : Int32) <<< (nI t.val &&& 31) = wb (fun q => decide (q = t.val)) 8 := by decide +kernel
def ct8 (b0 b1 b2 b3 b4 b5 b6 b7 : Bool) : Int32 := (((((((0 + (if b0 = true then 1 else 0)) + (if b1 = true then 1 else 0)) + (if b2 = true then 1 else 0)) + (if b3 = true then 1 else 0)) + (if b4 = true then 1 else 0)) + (if b5 = true then 1 else 0)) + (if b6 = true then 1 else 0)) + (if b7 = true then 1 else 0)
set_option maxRecDepth 100000 in
theorem bitc8 : ∀ b0 b1 b2 b3 b4 b5 b6 b7 : Bool, bitC (wb8 b0 b1 b2 b3 b4 b5 b6 b7) = ct8 b0 b1 b2 b3 b4 b5 b6 b7 := by decide +kernel
def ob (σ : St) (k : Nat) : Bool := !decide (pOpen σ (nI k) = 0)
theorem ob_t {σ : St} {k : Nat} : ob σ k = true ↔ ¬ pOpen σ (nI k) = 0 := by
  unfold ob
  by_cases c : pOpen σ (nI k) = 0
  · rw [decide_eq_true c]; exact ⟨fun h => absurd h (by decide), fun h => absurd c h⟩
  · rw [decide_eq_false c]; exact ⟨fun _ => c, fun _ => rfl⟩
theorem ones_b (σ : St) : ∀ n, pOnes σ n = wb (ob σ) n
  | 0 => rfl
  | n + 1 => by
    unfold pOnes wb
    rw [ones_b σ n]
    by_cases c : pOpen σ (nI n) = 0
    · rw [if_pos c, if_neg (fun h => ob_t.mp h c)]
    · rw [if_neg c, if_pos (ob_t.mpr c)]
theorem out_1 {σ : St} {p s d pr : Int32} : (sOut σ p s d pr).1 1 = σ.1 1 := by
  unfold sOut
  by_cases c : qFull σ p = 0
  · rw [if_pos c]; rfl
  · rw [if_neg c]; rfl
theorem out_2 {σ : St} {p s d pr : Int32} : (sOut σ p s d pr).1 2 = σ.1 2 := by
  unfold sOut
  by_cases c : qFull σ p = 0
  · rw [if_pos c]; rfl
  · rw [if_neg c]; rfl
theorem open_eq {σ τ : St} {p : Int32} (h1 : τ.1 1 = σ.1 1) (h2 : τ.1 2 = σ.1 2) : pOpen τ p = pOpen σ p := by
  unfold pOpen oAt
  rw [h1, h2]
theorem go_b {σ : St} {b : Nat → Bool} {s d pr : Int32} {k : Nat} (hk : k < 8) : sGo σ (wb b 8) s d pr (k + 1) = if b k = true then sOut (sGo σ (wb b 8) s d pr k) (nI k) s d pr else sGo σ (wb b 8) s d pr k := by
  show (if _ then _ else _) = _
  by_cases c : b k = true
  · rw [if_pos c, if_pos ((bit_k hk).mpr c)]
  · rw [if_neg c, if_neg (fun q => c ((bit_k hk).mp q))]
theorem go_open {σ : St} {w s d pr : Int32} : ∀ k, (sGo σ w s d pr k).1 1 = σ.1 1 ∧ (sGo σ w s d pr k).1 2 = σ.1 2
  | 0 => ⟨rfl, rfl⟩
  | k + 1 => by
    have ih := go_open (σ := σ) (w := w) (s := s) (d := d) (pr := pr) k
    unfold sGo
    by_cases c : (w >>> (nI k &&& 31)) &&& 1 = 1
    · rw [if_pos c]; exact ⟨out_1.trans ih.1, out_2.trans ih.2⟩
    · rw [if_neg c]; exact ih
theorem go_one {σ : St} {t : Nat} {s d pr : Int32} : ∀ k, k ≤ 8 → sGo σ (wb (fun q => decide (q = t)) 8) s d pr k = if t < k then sOut σ (nI t) s d pr else σ
  | 0, _ => rfl
  | k + 1, hk => by
    rw [go_b (by omega), go_one k (by omega)]
    by_cases c : k = t
    · subst c
      rw [if_pos (decide_eq_true rfl), if_neg (by omega), if_pos (by omega)]
    · rw [if_neg (show ¬ decide (k = t) = true from fun q => c (of_decide_eq_true q))]
      by_cases c2 : t < k
      · rw [if_pos c2, if_pos (by omega)]
      · rw [if_neg c2, if_neg (by omega)]
theorem go_none {σ : St} {s d pr : Int32} : ∀ k, k ≤ 8 → sGo σ 0 s d pr k = σ
  | 0, _ => rfl
  | k + 1, hk => by
    have e : (0 : Int32) = wb (fun _ => false) 8 := rfl
    rw [e, go_b (by omega), if_neg (by decide), ← e]
    exact go_none k (by omega)
theorem rem_c (C : Nat) (hC : C < 2147483648) : nI C - nI C / 10 * 10 = nI (C % 10) := pk_rem (d := 10) hC (by decide) (by decide)
def qJ (σ : St) (k m j : Nat) : St := rput (rput σ 8 (va_cpy (σ.1 8) (σ.1 8) (48 * k + 4 * j) (48 * k) (4 * (m - j)))) 7 (upd (σ.1 7) k (nI (m - j)))
theorem qRem_k {σ : St} {k m j : Nat} (hk : k < 8) (hm : m ≤ 12) (hj : j ≤ m) (e7 : σ.1 7 k = nI m) : qRem σ (nI k) (nI j) = qJ σ k m j := by
  unfold qRem qJ
  rw [oAt_k hk (by decide), e7, show (0 : Int32) = nI 0 from rfl, qCell_k, qCell_k, pk_sub hj, show (4 : Int32) = nI 4 from rfl, pk_mul, Nat.mul_comm (m - j) 4, slide_k (by omega) (by omega) (by decide), oPut_k hk (by decide)]
  rfl
theorem xF_qJ {σ : St} {k m j i : Nat} (hi : i < m - j) : xF (qJ σ k m j) k i = xF σ k (i + j) := by
  show (va_cpy (σ.1 8) (σ.1 8) (48 * k + 4 * j) (48 * k) (4 * (m - j)) (48 * k + 4 * i), va_cpy (σ.1 8) (σ.1 8) (48 * k + 4 * j) (48 * k) (4 * (m - j)) (48 * k + 4 * i + 1), va_cpy (σ.1 8) (σ.1 8) (48 * k + 4 * j) (48 * k) (4 * (m - j)) (48 * k + 4 * i + 2), va_cpy (σ.1 8) (σ.1 8) (48 * k + 4 * j) (48 * k) (4 * (m - j)) (48 * k + 4 * i + 3)) = _
  simp (disch := omega) only [pk_cpy_in]
  unfold xF
  rw [show 48 * k + 4 * j + (48 * k + 4 * i - 48 * k) = 48 * k + 4 * (i + j) by omega, show 48 * k + 4 * j + (48 * k + 4 * i + 1 - 48 * k) = 48 * k + 4 * (i + j) + 1 by omega, show 48 * k + 4 * j + (48 * k + 4 * i + 2 - 48 * k) = 48 * k + 4 * (i + j) + 2 by omega, show 48 * k + 4 * j + (48 * k + 4 * i + 3 - 48 * k) = 48 * k + 4 * (i + j) + 3 by omega]
theorem xF_qJo {σ : St} {k l m j i : Nat} (hm : m ≤ 12) (hl : l ≠ k) (hi : i < 12) : xF (qJ σ k m j) l i = xF σ l i := by
  show (va_cpy (σ.1 8) (σ.1 8) (48 * k + 4 * j) (48 * k) (4 * (m - j)) (48 * l + 4 * i), va_cpy (σ.1 8) (σ.1 8) (48 * k + 4 * j) (48 * k) (4 * (m - j)) (48 * l + 4 * i + 1), va_cpy (σ.1 8) (σ.1 8) (48 * k + 4 * j) (48 * k) (4 * (m - j)) (48 * l + 4 * i + 2), va_cpy (σ.1 8) (σ.1 8) (48 * k + 4 * j) (48 * k) (4 * (m - j)) (48 * l + 4 * i + 3)) = _
  simp (disch := omega) only [pk_cpy_out]
  rfl
def cA (σ : St) (k m j : Nat) : St := rput (qJ σ k m j) 6 (upd (σ.1 6) (11 * k + 9) (σ.1 6 (11 * k + 9) + nI j))
def cB (σ : St) (k m j : Nat) : St := rput (qJ σ k m j) 6 (upd (upd (σ.1 6) (11 * k + 9) (σ.1 6 (11 * k + 9) + nI j)) (11 * k + 10) (σ.1 6 (11 * k + 10) + nI j))
theorem cA_k {σ : St} {k m j : Nat} (hk : k < 8) (hm : m ≤ 12) (hj : j ≤ m) (e7 : σ.1 7 k = nI m) : pCredit (qRem σ (nI k) (nI j)) (nI k) 9 (nI j) = cA σ k m j := by
  rw [qRem_k hk hm hj e7, show (9 : Int32) = nI 9 from rfl, cred_k hk (by decide)]
  rfl
theorem cB_k {σ : St} {k m j : Nat} (hk : k < 8) (hm : m ≤ 12) (hj : j ≤ m) (e7 : σ.1 7 k = nI m) : pCredit (pCredit (qRem σ (nI k) (nI j)) (nI k) 9 (nI j)) (nI k) 10 (nI j) = cB σ k m j := by
  rw [cA_k hk hm hj e7, show (10 : Int32) = nI 10 from rfl, cred_k hk (by decide)]
  unfold cA cB
  rw [rput_rput, rput_at, upd_n (show 11 * k + 10 ≠ 11 * k + 9 by omega)]
theorem fill_k {r n a L : Nat} {σ : St} {v : Int32} (h : a + L ≤ n) (hn : n < 1000000) : oFill r n σ (nI a) (nI L) v = rput σ r (fillF (σ.1 r) a (a + L) v) := by
  unfold oFill rFill
  rw [fits_k h hn, if_neg (by decide), nI_add, nI_clamp (by omega), nI_clamp (by omega)]
theorem pDec_at (σ : St) : ∀ n, n ≤ 8 → (∀ i, i ≠ 2 → (pDec σ n).1 i = σ.1 i) ∧ (pDec σ n).2 = σ.2 ∧ ∀ k, k < 8 → (pDec σ n).1 2 k = if k < n then (if 0 < σ.1 2 k then σ.1 2 k + (-1) else σ.1 2 k) else σ.1 2 k
  | 0, _ => ⟨fun _ _ => rfl, rfl, fun k _ => by rw [if_neg (Nat.not_lt_zero k)]; rfl⟩
  | n + 1, hn => by
    obtain ⟨h1, h2, h3⟩ := pDec_at σ n (by omega)
    have e := h3 n (by omega)
    rw [if_neg (Nat.lt_irrefl n)] at e
    unfold pDec
    rw [oAt_k (by omega) (by decide), e]
    by_cases c : 0 < σ.1 2 n
    · rw [if_pos c, oAdd_k (by omega) (by decide), e]
      refine ⟨fun i hi => (rput_ne hi).trans (h1 i hi), h2, fun k hk => ?_⟩
      show upd ((pDec σ n).1 2) n (σ.1 2 n + (-1)) k = _
      by_cases ck : k = n
      · subst ck
        rw [upd_s, if_pos (show k < k + 1 by omega), if_pos c]
      · rw [upd_n ck, h3 k hk]
        by_cases c2 : k < n
        · rw [if_pos c2, if_pos (show k < n + 1 by omega)]
        · rw [if_neg c2, if_neg (show ¬ k < n + 1 by omega)]
    · rw [if_neg c]
      refine ⟨h1, h2, fun k hk => ?_⟩
      rw [h3 k hk]
      by_cases ck : k = n
      · subst ck
        rw [if_neg (Nat.lt_irrefl k), if_pos (show k < k + 1 by omega), if_neg c]
      · by_cases c2 : k < n
        · rw [if_pos c2, if_pos (show k < n + 1 by omega)]
        · rw [if_neg c2, if_neg (show ¬ k < n + 1 by omega)]
theorem until_11 {σ : St} {t : Int32} : ∀ n, (tUntil σ t n).1 11 = σ.1 11 ∧ (tUntil σ t n).2 0 = σ.2 0
  | 0 => ⟨rfl, rfl⟩
  | n + 1 => by
    have ih := until_11 (σ := σ) (t := t) n
    unfold tUntil
    by_cases c : oAt 9 100 (tUntil σ t n) (nI (n + 1)) = -4
    · rw [if_pos c]; exact ih
    · rw [if_neg c]
      by_cases c2 : t < oAt 10 100 (tUntil σ t n) (nI (n + 1))
      · rw [if_pos c2]; exact ih
      · rw [if_neg c2]; exact ih
def FS (S T : Sy) : Prop := (∀ i, i ≠ 0 → T.1 i = S.1 i) ∧ (∀ i, i ≠ 5 → i ≠ 4 → T.2.1 i = S.2.1 i) ∧ T.2.2 0 = S.2.2 0
theorem fs_r (S : Sy) : FS S S := ⟨fun _ _ => rfl, fun _ _ _ => rfl, rfl⟩
theorem fs_t {S T U : Sy} (h : FS S T) (g : FS T U) : FS S U := ⟨fun i hi => (g.1 i hi).trans (h.1 i hi), fun i h1 h2 => (g.2.1 i h1 h2).trans (h.2.1 i h1 h2), g.2.2.trans h.2.2⟩
theorem fs_st {S : Sy} {σ : St} : FS S (xst S 0 σ) := ⟨fun i hi => if_neg hi, fun _ _ _ => rfl, rfl⟩
theorem rPut_k {n k : Nat} {f : Nat → Int32} {v : Int32} (hk : k < n) (hn : n < 1000000) : rPut n f (nI k) v = upd f k v := by
  unfold rPut
  rw [if_neg (nI_pos (by omega)), if_pos (nI_lt hk (by omega)), nI_clamp (by omega)]
theorem put_row (T : Sy) (i v : Int32) : (xPut T i v).2.2 1 = rPut 384 (T.2.2 1) i v := by
  unfold xPut
  generalize rPut 384 (T.2.2 1) i v = F
  rfl
theorem sc_at (T : Sy) (i : Nat) (v : Int32) : (xsc T i v).2.1 i = v := if_pos rfl
theorem put_sc (T : Sy) (i v : Int32) : (xPut T i v).2.1 = T.2.1 := by
  unfold xPut
  generalize rPut 384 (T.2.2 1) i v = F
  rfl
theorem sc_row (T : Sy) (i : Nat) (v : Int32) : (xsc T i v).2.2 1 = T.2.2 1 := rfl
theorem app_row {S : Sy} {r : Nat} {q s d pr : Int32} (hr : r < 96) (e : S.2.1 5 = nI r) : (xApp S q s d pr).2.2 1 = upd (upd (upd (upd (S.2.2 1) (4 * r) s) (4 * r + 1) d) (4 * r + 2) pr) (4 * r + 3) q := by
  unfold xApp
  rw [e, if_pos (nlt_lit (b := 96) hr (by decide)), show (4 : Int32) = nI 4 from rfl, pk_mul, Nat.mul_comm r 4, sc_row]
  unfold xApp4
  rw [put_row, put_row, put_row, put_row]
  rw [show (0 : Int32) = nI 0 from rfl, show (1 : Int32) = nI 1 from rfl, show (2 : Int32) = nI 2 from rfl, show (3 : Int32) = nI 3 from rfl, nI_add, nI_add, nI_add, nI_add, rPut_k (by omega) (by decide), rPut_k (by omega) (by decide), rPut_k (by omega) (by decide), rPut_k (by omega) (by decide), Nat.add_zero]
theorem app_5 {S : Sy} {r : Nat} {q s d pr : Int32} (hr : r < 96) (e : S.2.1 5 = nI r) : (xApp S q s d pr).2.1 5 = nI (r + 1) := by
  unfold xApp
  rw [e, if_pos (nlt_lit (b := 96) hr (by decide))]
  rw [sc_at]
  unfold xApp4
  rw [put_sc, put_sc, put_sc, put_sc, e, nI_succ]
theorem app_1 {S : Sy} {q s d pr : Int32} : (xApp S q s d pr).1 = S.1 := by
  unfold xApp
  by_cases c : S.2.1 5 < 96
  · rw [if_pos c]; rfl
  · rw [if_neg c]
theorem app_fs {S : Sy} {q s d pr : Int32} : FS S (xApp S q s d pr) := by
  refine ⟨fun i _ => by rw [app_1], fun i h1 h2 => ?_, ?_⟩
  · unfold xApp
    by_cases c : S.2.1 5 < 96
    · rw [if_pos c]; exact if_neg h1
    · rw [if_neg c]
  · unfold xApp
    by_cases c : S.2.1 5 < 96
    · rw [if_pos c]; rfl
    · rw [if_neg c]
theorem sl_1 {S : Sy} {p q : Int32} : ∀ n, (xSL S p q n).1 = S.1
  | 0 => rfl
  | n + 1 => app_1.trans (sl_1 n)
theorem sl_fs {S : Sy} {p q : Int32} : ∀ n, FS S (xSL S p q n)
  | 0 => fs_r S
  | n + 1 => fs_t (sl_fs n) app_fs
