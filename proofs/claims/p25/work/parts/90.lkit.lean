/-! the class's contracts with their answers named; arrays of the law's own beside the object -/
theorem k_port (l : Launch) {D : DD} {B z : Nat} {h : HF} {b : Nat} {S : Sy} {p w r : Int32} (e : xPort S p w = r) : CT l yX9_port cX9_port 3 (some .int) 2 44 [.ref b, .int p, .int w] D B z (xput D h b S) (some (.int r)) 0 0 (xput D h b S) := e ▸ c_X9_port l
theorem k_account (l : Launch) {D : DD} {B z : Nat} {h : HF} {b : Nat} {S : Sy} {p w r : Int32} (e : xAccount S p w = r) : CT l yX9_account cX9_account 3 (some .int) 2 43 [.ref b, .int p, .int w] D B z (xput D h b S) (some (.int r)) 0 0 (xput D h b S) := e ▸ c_X9_account l
theorem k_entry (l : Launch) {D : DD} {B z : Nat} {h : HF} {b : Nat} {S : Sy} {x w r : Int32} (e : xEntry S x w = r) : CT l yX9_entry cX9_entry 4 (some .int) 2 44 [.ref b, .int x, .int w] D B z (xput D h b S) (some (.int r)) 0 0 (xput D h b S) := e ▸ c_X9_entry l
theorem k_where (l : Launch) {D : DD} {B z : Nat} {h : HF} {b : Nat} {S : Sy} {x r : Int32} (e : xWhere S x = r) : CT l yX9_where cX9_where 2 (some .int) 2 42 [.ref b, .int x] D B z (xput D h b S) (some (.int r)) 0 0 (xput D h b S) := e ▸ c_X9_where l
theorem k_queued (l : Launch) {D : DD} {B z : Nat} {h : HF} {b : Nat} {S : Sy} {p k w r : Int32} (e : xQueued S p k w = r) : CT l yX9_queued cX9_queued 4 (some .int) 2 44 [.ref b, .int p, .int k, .int w] D B z (xput D h b S) (some (.int r)) 0 0 (xput D h b S) := e ▸ c_X9_queued l
theorem k_count (l : Launch) {D : DD} {B z : Nat} {h : HF} {b : Nat} {S : Sy} {w r : Int32} (e : xCount S w = r) : CT l yX9_count cX9_count 2 (some .int) 3 65 [.ref b, .int w] D B z (xput D h b S) (some (.int r)) 0 0 (xput D h b S) := e ▸ c_X9_count l
theorem k_loops (l : Launch) {D : DD} {B z : Nat} {h : HF} {b : Nat} {S : Sy} {r : Int32} (e : xLoopK (S.1 0) 8 = r) : CT l yX9_loops cX9_loops 5 (some .int) 3 64 [.ref b] D B z (xput D h b S) (some (.int r)) 0 0 (xput D h b S) := e ▸ c_X9_loops l
theorem k_setPort (l : Launch) {D : DD} {B z : Nat} {h : HF} {b : Nat} {S S2 : Sy} {p up r : Int32} {nx : Nat} (hn : nx < 4 ∧ S.2.1 1 = nI nx) (e : xSetPort nx S p up = (r, S2)) : CT l yX9_setPort cX9_setPort 3 (some .int) 5 107 [.ref b, .int p, .int up] D B z (xput D h b S) (some (.int r)) 0 0 (xput D h b S2) := by
  have w := c_X9_setPort l (D := D) (B := B) (z := z) (h := h) (b := b) (S := S) (p := p) (up := up) hn.1 hn.2
  rw [e] at w
  exact w
theorem k_join (l : Launch) {D : DD} {B z : Nat} {h : HF} {b : Nat} {S S2 : Sy} {p q r : Int32} {nx : Nat} (hn : nx < 4 ∧ S.2.1 1 = nI nx) (e : xJoin nx S p q = (r, S2)) : CT l yX9_join cX9_join 3 (some .int) 5 107 [.ref b, .int p, .int q] D B z (xput D h b S) (some (.int r)) 0 0 (xput D h b S2) := by
  have w := c_X9_join l (D := D) (B := B) (z := z) (h := h) (b := b) (S := S) (p := p) (q := q) hn.1 hn.2
  rw [e] at w
  exact w
theorem k_part (l : Launch) {D : DD} {B z : Nat} {h : HF} {b : Nat} {S S2 : Sy} {p r : Int32} {nx : Nat} (hn : nx < 4 ∧ S.2.1 1 = nI nx) (e : xPartC nx S p = (r, S2)) : CT l yX9_part cX9_part 3 (some .int) 5 107 [.ref b, .int p] D B z (xput D h b S) (some (.int r)) 0 0 (xput D h b S2) := by
  have w := c_X9_part l (D := D) (B := B) (z := z) (h := h) (b := b) (S := S) (p := p) hn.1 hn.2
  rw [e] at w
  exact w
theorem k_release (l : Launch) {D : DD} {B z : Nat} {h : HF} {b : Nat} {S S2 : Sy} {p r : Int32} {nx : Nat} (hn : nx < 4 ∧ S.2.1 1 = nI nx) (e : xRelease nx S p = (r, S2)) : CT l yX9_release cX9_release 3 (some .int) 5 107 [.ref b, .int p] D B z (xput D h b S) (some (.int r)) 0 0 (xput D h b S2) := by
  have w := c_X9_release l (D := D) (B := B) (z := z) (h := h) (b := b) (S := S) (p := p) hn.1 hn.2
  rw [e] at w
  exact w
theorem k_set (l : Launch) {D : DD} {B z : Nat} {h : HF} {b : Nat} {S S2 : Sy} {w v r : Int32} {nx : Nat} (hn : nx < 4 ∧ S.2.1 1 = nI nx) (e : xSet nx S w v = (r, S2)) : CT l yX9_set cX9_set 4 (some .int) 5 107 [.ref b, .int w, .int v] D B z (xput D h b S) (some (.int r)) 0 0 (xput D h b S2) := by
  have w := c_X9_set l (D := D) (B := B) (z := z) (h := h) (b := b) (S := S) (w := w) (v := v) hn.1 hn.2
  rw [e] at w
  exact w
theorem k_frame (l : Launch) {D : DD} {B z : Nat} {h : HF} {b : Nat} {S S2 : Sy} {p s d pr r : Int32} {nx : Nat} (hn : nx < 4 ∧ S.2.1 1 = nI nx) (e : xFrame nx S p s d pr = (r, S2)) : CT l yX9_frame cX9_frame 5 (some .int) 5 124 [.ref b, .int p, .int s, .int d, .int pr] D B z (xput D h b S) (some (.int r)) 0 0 (xput D h b S2) := by
  have w := c_X9_frame l (D := D) (B := B) (z := z) (h := h) (b := b) (S := S) (p := p) (s := s) (d := d) (pr := pr) hn.1 hn.2
  rw [e] at w
  exact w
theorem k_forget (l : Launch) {D : DD} {B z : Nat} {h : HF} {b : Nat} {S S2 : Sy} {x r : Int32} {nx : Nat} (hn : nx < 4 ∧ S.2.1 1 = nI nx) (e : xForget nx S x = (r, S2)) : CT l yX9_forget cX9_forget 3 (some .int) 5 107 [.ref b, .int x] D B z (xput D h b S) (some (.int r)) 0 0 (xput D h b S2) := by
  have w := c_X9_forget l (D := D) (B := B) (z := z) (h := h) (b := b) (S := S) (x := x) hn.1 hn.2
  rw [e] at w
  exact w
theorem k_pass (l : Launch) {D : DD} {B z : Nat} {h : HF} {b : Nat} {S S2 : Sy} {sec r : Int32} {nx : Nat} (hn : nx < 4 ∧ S.2.1 1 = nI nx) (e : xPass nx S sec = (r, S2)) : CT l yX9_pass cX9_pass 4 (some .int) 6 148 [.ref b, .int sec] D B z (xput D h b S) (some (.int r)) 0 0 (xput D h b S2) := by
  have w := c_X9_pass l (D := D) (B := B) (z := z) (h := h) (b := b) (S := S) (sec := sec) hn.1 hn.2
  rw [e] at w
  exact w
theorem k_undo (l : Launch) {D : DD} {B z : Nat} {h : HF} {b : Nat} {S S2 : Sy} {r : Int32} {nx : Nat} (hn : nx < 4 ∧ S.2.1 1 = nI nx) (e : xUndo nx S = (r, S2)) : CT l yX9_undo cX9_undo 1 (some .int) 5 108 [.ref b] D B z (xput D h b S) (some (.int r)) 0 0 (xput D h b S2) := by
  have w := c_X9_undo l (D := D) (B := B) (z := z) (h := h) (b := b) (S := S) hn.1 hn.2
  rw [e] at w
  exact w
theorem k_restore (l : Launch) {D : DD} {B z : Nat} {h : HF} {b : Nat} {S S2 : Sy} {r : Int32} {nx : Nat} (hn : nx < 4 ∧ S.2.1 1 = nI nx) (e : xRestore nx S = (r, S2)) : CT l yX9_restore cX9_restore 1 (some .int) 5 107 [.ref b] D B z (xput D h b S) (some (.int r)) 0 0 (xput D h b S2) := by
  have w := c_X9_restore l (D := D) (B := B) (z := z) (h := h) (b := b) (S := S) hn.1 hn.2
  rw [e] at w
  exact w
theorem k_keep (l : Launch) {D : DD} {B z : Nat} {h : HF} {b : Nat} {S S2 : Sy} {r : Int32} (e : xKeep S = (r, S2)) : CT l yX9_keep cX9_keep 1 (some .int) 4 85 [.ref b] D B z (xput D h b S) (some (.int r)) 0 0 (xput D h b S2) := by
  have w := c_X9_keep l (D := D) (B := B) (z := z) (h := h) (b := b) (S := S)
  rw [e] at w
  exact w
theorem k_wouldGo (l : Launch) {D : DD} {B z : Nat} {h : HF} {b : Nat} {S S2 : Sy} {p s d r : Int32} (e : xWouldGo S p s d = (r, S2)) : CT l yX9_wouldGo cX9_wouldGo 5 (some .int) 4 92 [.ref b, .int p, .int s, .int d] D B z (xput D h b S) (some (.int r)) 0 0 (xput D h b S2) := by
  have w := c_X9_wouldGo l (D := D) (B := B) (z := z) (h := h) (b := b) (S := S) (p := p) (s := s) (d := d)
  rw [e] at w
  exact w
theorem xput_hz {D : DD} {h : HF} {b a : Nat} {S : Sy} {x : va_E} (ha : b + 211 ≤ a) : xput D (hupd h a x) b S = hupd (xput D h b S) a x := by
  funext q
  by_cases c : q = a
  · subst c
    rw [hupd_same, xput_out (by omega), hupd_same]
  · rw [hupd_ne c]
    unfold xput
    by_cases c2 : b ≤ q ∧ q < b + 211
    · rw [if_pos c2, if_pos c2]
    · rw [if_neg c2, if_neg c2, hupd_ne c]
theorem xput_at {D : DD} {h : HF} {b a : Nat} {S : Sy} {x : va_E} (ha : b + 211 ≤ a) (e : h a = some x) : xput D h b S a = some x := (xput_out (Or.inr ha)).trans e
theorem xput_w {D : DD} {h : HF} {b a : Nat} {S : Sy} {x y : va_E} (ha : b + 211 ≤ a) : hupd (xput D (hupd h a x) b S) a y = xput D (hupd h a y) b S := by
  rw [xput_hz ha, xput_hz ha, hupd_hupd]
theorem hupd_comm {h : HF} {a c : Nat} {x y : va_E} (n : a ≠ c) : hupd (hupd h a x) c y = hupd (hupd h c y) a x := by
  funext q
  unfold hupd
  by_cases c1 : q = c
  · subst c1
    rw [if_pos rfl, if_neg (fun e => n e.symm), if_pos rfl]
  · rw [if_neg c1]
    by_cases c2 : q = a
    · rw [if_pos c2, if_pos c2]
    · rw [if_neg c2, if_neg c2, if_neg c1]
theorem xput_w2 {D : DD} {h : HF} {b a c : Nat} {S : Sy} {x y u : va_E} (ha : b + 211 ≤ a) (hc : b + 211 ≤ c) (n : a ≠ c) : hupd (xput D (hupd (hupd h a x) c u) b S) a y = xput D (hupd (hupd h a y) c u) b S := by
  rw [xput_hz hc, hupd_comm (fun e => n e.symm), xput_w ha, ← xput_hz hc]
theorem xput_less {D : DD} {h : HF} {b a : Nat} {S : Sy} {x : va_E} (hn : h a = none) : ∀ q y, xput D h b S q = some y → xput D (hupd h a x) b S q = some y := by
  intro q y hq
  unfold xput at hq ⊢
  by_cases c2 : b ≤ q ∧ q < b + 211
  · rw [if_pos c2] at hq ⊢; exact hq
  · rw [if_neg c2] at hq ⊢
    rw [hupd_ne (fun e => ?_)]
    · exact hq
    · subst e
      rw [hn] at hq
      cases hq
theorem xput_less2 {D : DD} {h : HF} {b a c : Nat} {S : Sy} {x u : va_E} (hn : h a = none) (hc : h c = none) (n : c ≠ a) : ∀ q y, xput D h b S q = some y → xput D (hupd (hupd h a x) c u) b S q = some y := fun q y hq => xput_less (by rw [hupd_ne n]; exact hc) q y (xput_less hn q y hq)
def lowF (x n : Int32) : Int32 := (x &&& 2147483647) - (x &&& 2147483647) / n * n
theorem low_k (x : Int32) {d : Nat} (h0 : 0 < d) (hd : d < 2147483648) : ∃ j, j < d ∧ lowF x (nI d) = nI j := by
  obtain ⟨j, h1, h2⟩ := pk_andE x (m := 2147483647) 31 (by decide)
  refine ⟨j % d, Nat.mod_lt _ h0, ?_⟩
  unfold lowF
  rw [h2, pk_rem h1 h0 hd]
/-- all that a state tells, as one number -/
def dC (S : Sy) : Nat → Int64
  | 0 => 59
  | j + 1 => 31 * dC S j + (xCount S (nI j)).toInt64
def dP (S : Sy) (p : Int32) (x : Int64) : Nat → Int64
  | 0 => x
  | j + 1 => 31 * dP S p x j + (xPort S p (nI j)).toInt64
def dA (S : Sy) (p : Int32) (x : Int64) : Nat → Int64
  | 0 => x
  | j + 1 => 31 * dA S p x j + (xAccount S p (nI j)).toInt64
def dQ (S : Sy) (p : Int32) (x : Int64) : Nat → Int64
  | 0 => x
  | j + 1 => 31 * dQ S p x j + 1000 * (xQueued S p (nI j) 0).toInt64 + 100 * (xQueued S p (nI j) 1).toInt64 + 10 * (xQueued S p (nI j) 2).toInt64 + (xQueued S p (nI j) 3).toInt64
def dPP (S : Sy) : Nat → Int64
  | 0 => dC S 13
  | p + 1 => dQ S (nI p) (dA S (nI p) (dP S (nI p) (dPP S p) 8) 11) (xPort S (nI p) 5).toNatClampNeg
def dE (S : Sy) : Nat → Int64
  | 0 => dPP S 8
  | j + 1 => 31 * dE S j + 1000 * (xEntry S (nI j) 0).toInt64 + 100 * (xEntry S (nI j) 1).toInt64 + 10 * (xEntry S (nI j) 2).toInt64 + (xEntry S (nI j) 3).toInt64
def dg (S : Sy) : Int64 := dE S (xCount S 5).toNatClampNeg
section DG
variable {S T : Sy}
theorem xp_cg (e : T.1 0 = S.1 0) (p w : Int32) : xPort T p w = xPort S p w := by unfold xPort; rw [e]
theorem xa_cg (e : T.1 0 = S.1 0) (p w : Int32) : xAccount T p w = xAccount S p w := by unfold xAccount; rw [e]
theorem xq_cg (e : T.1 0 = S.1 0) (p k w : Int32) : xQueued T p k w = xQueued S p k w := by unfold xQueued; rw [e]
theorem xe_cg (e : T.1 0 = S.1 0) (x w : Int32) : xEntry T x w = xEntry S x w := by unfold xEntry; rw [e]
theorem dc_cg (e : T.1 0 = S.1 0) : ∀ j, j ≤ 13 → dC T j = dC S j
  | 0, _ => rfl
  | j + 1, hj => by
    unfold dC
    rw [dc_cg e j (by omega), xc_cg (w := j) (by omega) e]
theorem dp_cg (e : T.1 0 = S.1 0) (p : Int32) (x : Int64) : ∀ j, dP T p x j = dP S p x j
  | 0 => rfl
  | j + 1 => by unfold dP; rw [dp_cg e p x j, xp_cg e]
theorem da_cg (e : T.1 0 = S.1 0) (p : Int32) (x : Int64) : ∀ j, dA T p x j = dA S p x j
  | 0 => rfl
  | j + 1 => by unfold dA; rw [da_cg e p x j, xa_cg e]
theorem dq_cg (e : T.1 0 = S.1 0) (p : Int32) (x : Int64) : ∀ j, dQ T p x j = dQ S p x j
  | 0 => rfl
  | j + 1 => by unfold dQ; rw [dq_cg e p x j, xq_cg e, xq_cg e, xq_cg e, xq_cg e]
theorem dpp_cg (e : T.1 0 = S.1 0) : ∀ j, dPP T j = dPP S j
  | 0 => dc_cg e 13 (Nat.le_refl 13)
  | j + 1 => by unfold dPP; rw [dpp_cg e j, dp_cg e, da_cg e, xp_cg e, dq_cg e]
theorem de_cg (e : T.1 0 = S.1 0) : ∀ j, dE T j = dE S j
  | 0 => dpp_cg e 8
  | j + 1 => by unfold dE; rw [de_cg e j, xe_cg e, xe_cg e, xe_cg e, xe_cg e]
theorem dg_cg (e : T.1 0 = S.1 0) : dg T = dg S := by
  unfold dg
  rw [de_cg e]
  exact congrArg (fun x : Int32 => dE S x.toNatClampNeg) (xc_cg (w := 5) (by decide) e)
end DG
