/-! the single writes, on both sides at once -/
theorem oAt_k {r n k : Nat} {σ : St} (hk : k < n) (hn : n < 1000000) : oAt r n σ (nI k) = σ.1 r k := by
  unfold oAt rAt
  rw [if_neg (nI_pos (by omega)), if_pos (nI_lt hk (by omega)), nI_clamp (by omega)]
theorem oPut_k {r n k : Nat} {σ : St} {v : Int32} (hk : k < n) (hn : n < 1000000) : oPut r n σ (nI k) v = rput σ r (upd (σ.1 r) k v) := by
  unfold oPut rPut
  rw [if_neg (nI_pos (by omega)), if_pos (nI_lt hk (by omega)), nI_clamp (by omega)]
theorem oAdd_k {r n k : Nat} {σ : St} {v : Int32} (hk : k < n) (hn : n < 1000000) : oAdd r n σ (nI k) v = rput σ r (upd (σ.1 r) k (σ.1 r k + v)) := by
  unfold oAdd rAdd
  rw [if_neg (nI_pos (by omega)), if_pos (nI_lt hk (by omega)), nI_clamp (by omega)]
theorem ix_cr (k w : Nat) : nI k * 11 + nI w = nI (11 * k + w) := by rw [show (11 : Int32) = nI 11 from rfl, pk_mul, nI_add, Nat.mul_comm]
theorem cred_k {σ : St} {k w : Nat} {v : Int32} (hk : k < 8) (hw : w < 11) : pCredit σ (nI k) (nI w) v = rput σ 6 (upd (σ.1 6) (11 * k + w) (σ.1 6 (11 * k + w) + v)) := by
  unfold pCredit
  rw [ix_cr, oAdd_k (by omega) (by decide)]
theorem to_k {μ : Mo} {k w : Nat} {v : Int32} (hk : k < 8) (hw : w < 20) : (mTo μ (nI k) (nI w) v).2 0 = upd (μ.2 0) (8 + 20 * k + w) v := by
  unfold mTo
  rw [ix_of, setNow_nI (by omega)]
theorem more_k {μ : Mo} {k w : Nat} (hk : k < 8) (hw : w < 14) : (mMore μ (nI k) (nI w)).2 0 = upd (μ.2 0) (8 + 20 * k + 6 + w) (μ.2 0 (8 + 20 * k + 6 + w) + 1) := by
  unfold mMore
  rw [ix_more, setNow_nI (by omega), now_nI (by omega)]
theorem upd_self {f : Nat → Int32} {k : Nat} {v : Int32} (h : f k = v) : upd f k v = f := by
  funext j
  by_cases c : j = k
  · subst c; rw [upd_s, h]
  · rw [upd_n c]
theorem upd_comm {f : Nat → Int32} {a b : Nat} {x y : Int32} (h : a ≠ b) : upd (upd f a x) b y = upd (upd f b y) a x := by
  funext j
  by_cases c : j = a
  · subst c; rw [upd_n h, upd_s, upd_s]
  · rw [upd_n c]
    by_cases c2 : j = b
    · subst c2; rw [upd_s, upd_s]
    · rw [upd_n c2, upd_n c2, upd_n c]
theorem upd_upd {f : Nat → Int32} {a : Nat} {x y : Int32} : upd (upd f a x) a y = upd f a y := by
  funext j
  by_cases c : j = a
  · subst c; rw [upd_s, upd_s]
  · rw [upd_n c, upd_n c, upd_n c]
theorem rput_rput {σ : St} {r : Nat} {f g : Nat → Int32} : rput (rput σ r f) r g = rput σ r g := by
  unfold rput
  congr 1
  funext i
  dsimp only
  by_cases c : i = r
  · rw [if_pos c, if_pos c]
  · rw [if_neg c, if_neg c, if_neg c]
theorem rput_self {σ : St} {r : Nat} : rput σ r (σ.1 r) = σ := by
  unfold rput
  have e : (fun i => if i = r then σ.1 r else σ.1 i) = σ.1 := by
    funext i
    by_cases c : i = r
    · rw [if_pos c, c]
    · rw [if_neg c]
  rw [e]
theorem rput_comm {σ : St} {r s : Nat} {f g : Nat → Int32} (h : r ≠ s) : rput (rput σ r f) s g = rput (rput σ s g) r f := by
  unfold rput
  congr 1
  funext i
  dsimp only
  by_cases c : i = r
  · rw [if_pos c, if_neg (by omega), if_pos c]
  · rw [if_neg c, if_neg c]
theorem rput_at {σ : St} {r : Nat} {f : Nat → Int32} : (rput σ r f).1 r = f := if_pos rfl
theorem rput_ne {σ : St} {r i : Nat} {f : Nat → Int32} (h : i ≠ r) : (rput σ r f).1 i = σ.1 i := if_neg h
section RR
variable {C N k w : Nat} {σ : St} {f : Nat → Int32} {v x y : Int32}
theorem rc_up (hk : k < 8) (hv : v = 0 ∨ v = 1) (h : RC C N σ f) : RC C N (rput σ 1 (upd (σ.1 1) k v)) (upd f (8 + 20 * k) v) := by
  refine ⟨h.1.u (by omega), h.2.1.u (by omega), fun j hj => ?_, h.2.2.2.1.u (fun j hj => by omega), h.2.2.2.2.1.u (by omega) (fun j hj => by omega), h.2.2.2.2.2.1.u (by omega), h.2.2.2.2.2.2.u (by omega)⟩
  show Rp C (upd (σ.1 1) k v j) (σ.1 2 j) (σ.1 3 j) (σ.1 4 j) (σ.1 5 j) _ _ _ _ _
  by_cases c : j = k
  · subst c
    rw [upd_s, upd_s, upd_n (by omega), upd_n (by omega), upd_n (by omega), upd_n (by omega)]
    obtain ⟨h1, h2, h3, h4, h5⟩ := h.2.2.1 j hj
    exact ⟨⟨rfl, hv⟩, h2, h3, h4, h5⟩
  · rw [upd_n c, upd_n (by omega), upd_n (by omega), upd_n (by omega), upd_n (by omega), upd_n (by omega)]
    exact h.2.2.1 j hj
theorem rc_left (hk : k < 8) {L : Nat} (hL : L ≤ 600) (hx : x = nI L) (hy : y = if L = 0 then 0 else nI (C + L)) (h : RC C N σ f) : RC C N (rput σ 2 (upd (σ.1 2) k x)) (upd f (8 + 20 * k + 1) y) := by
  refine ⟨h.1.u (by omega), h.2.1.u (by omega), fun j hj => ?_, h.2.2.2.1.u (fun j hj => by omega), h.2.2.2.2.1.u (by omega) (fun j hj => by omega), h.2.2.2.2.2.1.u (by omega), h.2.2.2.2.2.2.u (by omega)⟩
  show Rp C (σ.1 1 j) (upd (σ.1 2) k x j) (σ.1 3 j) (σ.1 4 j) (σ.1 5 j) _ _ _ _ _
  by_cases c : j = k
  · subst c
    rw [upd_s, upd_s, upd_n (by omega), upd_n (by omega), upd_n (by omega), upd_n (by omega)]
    obtain ⟨h1, h2, h3, h4, h5⟩ := h.2.2.1 j hj
    exact ⟨h1, ⟨L, hL, hx, hy⟩, h3, h4, h5⟩
  · rw [upd_n c, upd_n (by omega), upd_n (by omega), upd_n (by omega), upd_n (by omega), upd_n (by omega)]
    exact h.2.2.1 j hj
theorem rc_why (hk : k < 8)  (h : RC C N σ f) : RC C N (rput σ 3 (upd (σ.1 3) k v)) (upd f (8 + 20 * k + 2) v) := by
  refine ⟨h.1.u (by omega), h.2.1.u (by omega), fun j hj => ?_, h.2.2.2.1.u (fun j hj => by omega), h.2.2.2.2.1.u (by omega) (fun j hj => by omega), h.2.2.2.2.2.1.u (by omega), h.2.2.2.2.2.2.u (by omega)⟩
  show Rp C (σ.1 1 j) (σ.1 2 j) (upd (σ.1 3) k v j) (σ.1 4 j) (σ.1 5 j) _ _ _ _ _
  by_cases c : j = k
  · subst c
    rw [upd_s, upd_s, upd_n (by omega), upd_n (by omega), upd_n (by omega), upd_n (by omega)]
    obtain ⟨h1, h2, h3, h4, h5⟩ := h.2.2.1 j hj
    exact ⟨h1, h2, rfl, h4, h5⟩
  · rw [upd_n c, upd_n (by omega), upd_n (by omega), upd_n (by omega), upd_n (by omega), upd_n (by omega)]
    exact h.2.2.1 j hj
theorem rc_cab (hk : k < 8) (hc : CB x y) (h : RC C N σ f) : RC C N (rput σ 4 (upd (σ.1 4) k x)) (upd f (8 + 20 * k + 3) y) := by
  refine ⟨h.1.u (by omega), h.2.1.u (by omega), fun j hj => ?_, h.2.2.2.1.u (fun j hj => by omega), h.2.2.2.2.1.u (by omega) (fun j hj => by omega), h.2.2.2.2.2.1.u (by omega), h.2.2.2.2.2.2.u (by omega)⟩
  show Rp C (σ.1 1 j) (σ.1 2 j) (σ.1 3 j) (upd (σ.1 4) k x j) (σ.1 5 j) _ _ _ _ _
  by_cases c : j = k
  · subst c
    rw [upd_s, upd_s, upd_n (by omega), upd_n (by omega), upd_n (by omega), upd_n (by omega)]
    obtain ⟨h1, h2, h3, h4, h5⟩ := h.2.2.1 j hj
    exact ⟨h1, h2, h3, hc, h5⟩
  · rw [upd_n c, upd_n (by omega), upd_n (by omega), upd_n (by omega), upd_n (by omega), upd_n (by omega)]
    exact h.2.2.1 j hj
theorem rc_flood (hk : k < 8)  (h : RC C N σ f) : RC C N (rput σ 5 (upd (σ.1 5) k v)) (upd f (8 + 20 * k + 4) v) := by
  refine ⟨h.1.u (by omega), h.2.1.u (by omega), fun j hj => ?_, h.2.2.2.1.u (fun j hj => by omega), h.2.2.2.2.1.u (by omega) (fun j hj => by omega), h.2.2.2.2.2.1.u (by omega), h.2.2.2.2.2.2.u (by omega)⟩
  show Rp C (σ.1 1 j) (σ.1 2 j) (σ.1 3 j) (σ.1 4 j) (upd (σ.1 5) k v j) _ _ _ _ _
  by_cases c : j = k
  · subst c
    rw [upd_s, upd_s, upd_n (by omega), upd_n (by omega), upd_n (by omega), upd_n (by omega)]
    obtain ⟨h1, h2, h3, h4, h5⟩ := h.2.2.1 j hj
    exact ⟨h1, h2, h3, h4, rfl⟩
  · rw [upd_n c, upd_n (by omega), upd_n (by omega), upd_n (by omega), upd_n (by omega), upd_n (by omega)]
    exact h.2.2.1 j hj
theorem rc_acc (hk : k < 8) (hw : w < 11) (h : RC C N σ f) : RC C N (rput σ 6 (upd (σ.1 6) (11 * k + w) (σ.1 6 (11 * k + w) + v))) (upd f (8 + 20 * k + 6 + w) (f (8 + 20 * k + 6 + w) + v)) := by
  refine ⟨h.1.u (by omega), h.2.1.u (by omega), h.2.2.1.u (fun j hj => by omega), fun j hj q hq => ?_, h.2.2.2.2.1.u (by omega) (fun j hj => by omega), h.2.2.2.2.2.1.u (by omega), h.2.2.2.2.2.2.u (by omega)⟩
  show upd (σ.1 6) (11 * k + w) (σ.1 6 (11 * k + w) + v) (11 * j + q) = _
  by_cases c : 11 * j + q = 11 * k + w
  · have e1 : j = k := by omega
    have e2 : q = w := by omega
    subst e1 e2
    rw [upd_s, upd_s, h.2.2.2.1 j hj q hq]
  · rw [upd_n c, upd_n (by omega)]
    exact h.2.2.2.1 j hj q hq
theorem rc_set {n : Nat} (hk : k < 4) (h1 : 1 ≤ n) (h2 : n ≤ gst k) (h : RC C N σ f) : RC C N (rput σ 0 (upd (σ.1 0) k (nI n))) (upd f k (nI n)) := by
  refine ⟨h.1.u (by omega), fun j hj => ?_, h.2.2.1.u (fun j hj => by omega), h.2.2.2.1.u (fun j hj => by omega), h.2.2.2.2.1.u (by omega) (fun j hj => by omega), h.2.2.2.2.2.1.u (by omega), h.2.2.2.2.2.2.u (by omega)⟩
  show upd (σ.1 0) k (nI n) j = _ ∧ _
  by_cases c : j = k
  · subst c
    rw [upd_s, upd_s]
    exact ⟨rfl, n, h1, h2, rfl⟩
  · rw [upd_n c, upd_n c]
    exact h.2.1 j hj
theorem rc_begun (h : RC C N σ f) : RC C N (sput σ 2 (σ.2 2 + 1)) (upd f 5 (f 5 + 1)) := by
  refine ⟨?_, h.2.1.u (by omega), h.2.2.1.u (fun j hj => by omega), h.2.2.2.1.u (fun j hj => by omega), h.2.2.2.2.1.u (by omega) (fun j hj => by omega), h.2.2.2.2.2.1.u (by omega), h.2.2.2.2.2.2.u (by omega)⟩
  unfold RW
  rw [upd_n (by decide), upd_n (by decide), upd_s]
  obtain ⟨h1, h2, h3, h4, h5⟩ := h.1
  exact ⟨h1, h2, h3, h4, congrArg (· + 1) h5⟩
theorem rc_time {a t : Nat} (ha : a < 100) (ht : t ≤ C) (hx : x = nI t) (h : RC C N σ f) : RC C N (rput σ 10 (upd (σ.1 10) a x)) (upd f (652 + a) x) := by
  refine ⟨h.1.u (by omega), h.2.1.u (by omega), h.2.2.1.u (fun j hj => by omega), h.2.2.2.1.u (fun j hj => by omega), h.2.2.2.2.1.u (by omega) (fun j hj => by omega), ?_, h.2.2.2.2.2.2.u (by omega)⟩
  obtain ⟨h1, h2, h3, h4, h5⟩ := h.2.2.2.2.2.1
  have e : tc (upd f (652 + a) x) 99 = tc f 99 := tc_cg fun a _ _ => upd_n (by omega)
  refine ⟨fun b hb => ?_, h2, fun b hb => ?_, by rw [e]; exact h4, by rw [e]; exact h5⟩
  · rw [upd_n (by omega)]; exact h1 b hb
  · show upd (σ.1 10) a x b = _ ∧ _
    by_cases c : b = a
    · subst c
      rw [upd_s, upd_s]
      exact ⟨rfl, t, ht, hx⟩
    · rw [upd_n c, upd_n (by omega)]
      exact h3 b hb
theorem rc_mov {a t : Nat} (ha1 : 1 ≤ a) (ha : a < 100) (ht : t < 10) (h : RC C N σ f) : RC C N (rput σ 11 (upd (σ.1 11) (100 * t + a) (σ.1 11 (100 * t + a) + v))) (upd f (752 + 10 * a + t) (f (752 + 10 * a + t) + v)) := by
  refine ⟨h.1.u (by omega), h.2.1.u (by omega), h.2.2.1.u (fun j hj => by omega), h.2.2.2.1.u (fun j hj => by omega), h.2.2.2.2.1.u (by omega) (fun j hj => by omega), h.2.2.2.2.2.1.u (by omega), fun s hs b h1 h2 => ?_⟩
  show upd (σ.1 11) (100 * t + a) _ (100 * s + b) = _
  by_cases c : 100 * s + b = 100 * t + a
  · have e1 : s = t := by omega
    have e2 : b = a := by omega
    subst e1 e2
    rw [upd_s, upd_s, h.2.2.2.2.2.2 s hs b h1 h2]
  · rw [upd_n c, upd_n (by omega)]
    exact h.2.2.2.2.2.2 s hs b h1 h2
def b2 (x : Int32) : Nat := if x = 0 then 0 else 1
theorem tc_upd {f : Nat → Int32} {a : Nat} {y : Int32} : ∀ {k : Nat}, 1 ≤ a → a ≤ k → tc (upd f (552 + a) y) k + b2 (f (552 + a)) = tc f k + b2 y
  | 0, h1, h2 => absurd h1 (by omega)
  | k + 1, h1, h2 => by
    unfold tc
    by_cases c : a = k + 1
    · subst c
      rw [upd_s, tc_cg (f := upd f (552 + (k + 1)) y) (g := f) (k := k) (fun b _ _ => upd_n (by omega))]
      unfold b2
      by_cases c1 : y = 0
      · rw [if_pos c1, if_pos c1]
        by_cases c2 : f (552 + (k + 1)) = 0
        · rw [if_pos c2, if_pos c2]
        · rw [if_neg c2, if_neg c2]
      · rw [if_neg c1, if_neg c1]
        by_cases c2 : f (552 + (k + 1)) = 0
        · rw [if_pos c2, if_pos c2]
        · rw [if_neg c2, if_neg c2]
    · rw [upd_n (by omega)]
      have ih := tc_upd (f := f) (a := a) (y := y) (k := k) h1 (by omega)
      by_cases c2 : f (552 + (k + 1)) = 0
      · rw [if_pos c2, if_pos c2]; exact ih
      · rw [if_neg c2, if_neg c2]; omega
theorem rc_tab {a : Nat} (ha1 : 1 ≤ a) (ha : a < 100) (hc : CB x y) (hs : v = nI (tc (upd f (552 + a) y) 99)) (hb : tc (upd f (552 + a) y) 99 ≤ 20) (h : RC C N σ f) : RC C N (sput (rput σ 9 (upd (σ.1 9) a x)) 3 v) (upd f (552 + a) y) := by
  refine ⟨h.1.u (by omega), h.2.1.u (by omega), h.2.2.1.u (fun j hj => by omega), h.2.2.2.1.u (fun j hj => by omega), h.2.2.2.2.1.u (by omega) (fun j hj => by omega), ?_, h.2.2.2.2.2.2.u (by omega)⟩
  obtain ⟨h1, h2, h3, h4, h5⟩ := h.2.2.2.2.2.1
  refine ⟨fun b hb' => ?_, ?_, fun b hb' => ?_, hs, hb⟩
  · show CB (upd (σ.1 9) a x b) _
    by_cases c : b = a
    · subst c
      rw [upd_s, upd_s]; exact hc
    · rw [upd_n c, upd_n (by omega)]
      exact h1 b hb'
  · show upd (σ.1 9) a x 0 = -4
    rw [upd_n (by omega)]; exact h2
  · rw [upd_n (by omega)]
    exact h3 b hb'
end RR
