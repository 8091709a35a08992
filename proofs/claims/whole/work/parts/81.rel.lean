/-! what binds a State of the class to the row of the reference, part by part -/
def AS (x : Int32) : Prop := ∃ a : Nat, 1 ≤ a ∧ a < 100 ∧ x = nI a
theorem as_ad {x : Int32} (h : AS x) : AD x := by
  obtain ⟨a, _, h2, h3⟩ := h
  exact ⟨a, h2, h3⟩
def CB (x y : Int32) : Prop := (x = -4 ∧ y = 0) ∨ ∃ j : Nat, j < 8 ∧ x = nI j ∧ y = nI (j + 1)
def gst (i : Nat) : Nat := if i = 0 then 1000 else if i = 1 then 600 else if i = 2 then 50 else 10
def xF (σ : St) (k i : Nat) : Fr := (σ.1 8 (48 * k + 4 * i), σ.1 8 (48 * k + 4 * i + 1), σ.1 8 (48 * k + 4 * i + 2), σ.1 8 (48 * k + 4 * i + 3))
def mF (f : Nat → Int32) (k i : Nat) : Fr := (f (168 + 48 * k + 4 * i + 1), f (168 + 48 * k + 4 * i + 2), f (168 + 48 * k + 4 * i + 3), f (168 + 48 * k + 4 * i))
def OKF (N : Nat) (x : Fr) : Prop := AS x.1 ∧ AD x.2.1 ∧ WH x.2.2.1 4 ∧ ∃ n, n < N ∧ x.2.2.2 = nI n
def tc (f : Nat → Int32) : Nat → Nat
  | 0 => 0
  | k + 1 => if f (552 + (k + 1)) = 0 then tc f k else tc f k + 1
def RW (C N : Nat) (σ : St) (f : Nat → Int32) : Prop := σ.2 0 = nI C ∧ f 4 = nI C ∧ σ.2 1 = nI N ∧ f 6 = nI N ∧ σ.2 2 = f 5
def RG (σ : St) (f : Nat → Int32) : Prop := ∀ i, i < 4 → σ.1 0 i = f i ∧ ∃ n, 1 ≤ n ∧ n ≤ gst i ∧ f i = nI n
def Rp (C : Nat) (u l y c o g0 g1 g2 g3 g4 : Int32) : Prop := (u = g0 ∧ (g0 = 0 ∨ g0 = 1)) ∧ (∃ L, L ≤ 600 ∧ l = nI L ∧ g1 = if L = 0 then 0 else nI (C + L)) ∧ y = g2 ∧ CB c g3 ∧ o = g4
def RP (C : Nat) (σ : St) (f : Nat → Int32) : Prop := ∀ k, k < 8 → Rp C (σ.1 1 k) (σ.1 2 k) (σ.1 3 k) (σ.1 4 k) (σ.1 5 k) (f (8 + 20 * k)) (f (8 + 20 * k + 1)) (f (8 + 20 * k + 2)) (f (8 + 20 * k + 3)) (f (8 + 20 * k + 4))
def RA (σ : St) (f : Nat → Int32) : Prop := ∀ k, k < 8 → ∀ w, w < 11 → σ.1 6 (11 * k + w) = f (8 + 20 * k + 6 + w)
def RQ (N : Nat) (σ : St) (f : Nat → Int32) : Prop := ∀ k, k < 8 → ∃ m, m ≤ 12 ∧ σ.1 7 k = nI m ∧ f (8 + 20 * k + 5) = nI m ∧ QL (xF σ k) (mF f k) m ∧ ∀ i, i < m → OKF N (mF f k i)
def RT (C : Nat) (σ : St) (f : Nat → Int32) : Prop := (∀ a, a < 100 → CB (σ.1 9 a) (f (552 + a))) ∧ σ.1 9 0 = -4 ∧ (∀ a, a < 100 → σ.1 10 a = f (652 + a) ∧ ∃ t, t ≤ C ∧ f (652 + a) = nI t) ∧ σ.2 3 = nI (tc f 99) ∧ tc f 99 ≤ 20
def RV (σ : St) (f : Nat → Int32) : Prop := ∀ t, t < 10 → ∀ a, 1 ≤ a → a < 100 → σ.1 11 (100 * t + a) = f (752 + 10 * a + t)
def RC (C N : Nat) (σ : St) (f : Nat → Int32) : Prop := RW C N σ f ∧ RG σ f ∧ RP C σ f ∧ RA σ f ∧ RQ N σ f ∧ RT C σ f ∧ RV σ f
-- writes elsewhere
section RU
variable {C N n : Nat} {σ : St} {f : Nat → Int32} {v : Int32}
theorem RW.u (h : RW C N σ f) (hn : n < 4 ∨ 7 ≤ n) : RW C N σ (upd f n v) := by
  unfold RW at *
  rw [upd_n (by omega), upd_n (by omega), upd_n (by omega)]
  exact h
theorem RG.u (h : RG σ f) (hn : 4 ≤ n) : RG σ (upd f n v) := by
  intro i hi
  rw [upd_n (by omega)]
  exact h i hi
theorem RP.u (h : RP C σ f) (hn : ∀ k, k < 8 → n < 8 + 20 * k ∨ 8 + 20 * k + 5 ≤ n) : RP C σ (upd f n v) := by
  intro k hk
  have := hn k hk
  rw [upd_n (by omega), upd_n (by omega), upd_n (by omega), upd_n (by omega), upd_n (by omega)]
  exact h k hk
theorem RA.u (h : RA σ f) (hn : ∀ k, k < 8 → n < 8 + 20 * k + 6 ∨ 8 + 20 * k + 17 ≤ n) : RA σ (upd f n v) := by
  intro k hk w hw
  have := hn k hk
  rw [upd_n (by omega)]
  exact h k hk w hw
theorem mF_u (hn : n < 168 ∨ 552 ≤ n) {k i : Nat} (hk : k < 8) (hi : i < 12) : mF (upd f n v) k i = mF f k i := by
  unfold mF
  rw [upd_n (by omega), upd_n (by omega), upd_n (by omega), upd_n (by omega)]
theorem RQ.u (h : RQ N σ f) (hn : n < 168 ∨ 552 ≤ n) (h5 : ∀ k, k < 8 → n ≠ 8 + 20 * k + 5) : RQ N σ (upd f n v) := by
  intro k hk
  obtain ⟨m, h1, h2, h3, h4, h6⟩ := h k hk
  have := h5 k hk
  refine ⟨m, h1, h2, ?_, ql_cg h4 (fun _ _ => rfl) (fun i hi => mF_u hn hk (by omega)), fun i hi => ?_⟩
  · rw [upd_n (by omega)]; exact h3
  · rw [mF_u hn hk (by omega)]; exact h6 i hi
theorem tc_cg {f g : Nat → Int32} : ∀ {k : Nat}, (∀ a, 1 ≤ a → a ≤ k → f (552 + a) = g (552 + a)) → tc f k = tc g k
  | 0, _ => rfl
  | k + 1, h => by
    unfold tc
    rw [h (k + 1) (by omega) (by omega), tc_cg (k := k) (fun a h1 h2 => h a h1 (by omega))]
theorem RT.u (h : RT C σ f) (hn : n < 552 ∨ 752 ≤ n) : RT C σ (upd f n v) := by
  obtain ⟨h1, h2, h3, h4, h5⟩ := h
  have e : tc (upd f n v) 99 = tc f 99 := tc_cg fun a _ _ => upd_n (by omega)
  refine ⟨fun a ha => ?_, h2, fun a ha => ?_, by rw [e]; exact h4, by rw [e]; exact h5⟩
  · rw [upd_n (by omega)]; exact h1 a ha
  · rw [upd_n (by omega)]; exact h3 a ha
theorem RV.u (h : RV σ f) (hn : n < 762 ∨ 1752 ≤ n) : RV σ (upd f n v) := by
  intro t ht a h1 h2
  rw [upd_n (by omega)]
  exact h t ht a h1 h2
end RU
/-- only the row's 1752 places count -/
theorem RC.ext {C N : Nat} {σ : St} {f g : Nat → Int32} (h : RC C N σ f) (e : ∀ j, j < 1752 → g j = f j) : RC C N σ g := by
  obtain ⟨h1, h2, h3, h4, h5, h6, h7⟩ := h
  have et : tc g 99 = tc f 99 := tc_cg fun a _ _ => e _ (by omega)
  have em : ∀ k i, k < 8 → i < 12 → mF g k i = mF f k i := fun k i hk hi => by
    unfold mF
    rw [e _ (by omega), e _ (by omega), e _ (by omega), e _ (by omega)]
  refine ⟨?_, fun i hi => ?_, fun k hk => ?_, fun k hk w hw => ?_, fun k hk => ?_, ⟨fun a ha => ?_, h6.2.1, fun a ha => ?_, by rw [et]; exact h6.2.2.2.1, by rw [et]; exact h6.2.2.2.2⟩, fun t ht a q1 q2 => ?_⟩
  · unfold RW
    rw [e _ (by omega), e _ (by omega), e _ (by omega)]; exact h1
  · rw [e _ (by omega)]; exact h2 i hi
  · rw [e _ (by omega), e _ (by omega), e _ (by omega), e _ (by omega), e _ (by omega)]; exact h3 k hk
  · rw [e _ (by omega)]; exact h4 k hk w hw
  · obtain ⟨m, g1, g2, g3, g4, g5⟩ := h5 k hk
    refine ⟨m, g1, g2, by rw [e _ (by omega)]; exact g3, ql_cg g4 (fun _ _ => rfl) (fun i hi => em k i hk (by omega)), fun i hi => by rw [em k i hk (by omega)]; exact g5 i hi⟩
  · rw [e _ (by omega)]; exact h6.1 a ha
  · rw [e _ (by omega)]; exact h6.2.2.1 a ha
  · rw [e _ (by omega)]; exact h7 t ht a q1 q2
-- the contracts' bounds out of the relation
theorem cb_wh {x y : Int32} (h : CB x y) : WH y 9 := by
  rcases h with ⟨_, h⟩ | ⟨j, h1, _, h⟩
  · exact ⟨0, by decide, h⟩
  · exact ⟨j + 1, by omega, h⟩
theorem rc_mi {C N : Nat} {σ : St} {f : Nat → Int32} (hC : C < 2147483648) (h : RC C N σ f) : MIf f := by
  refine ⟨fun k hk => ?_, fun a ha => cb_wh (h.2.2.2.2.2.1.1 a ha), ⟨C, hC, h.1.2.1⟩, fun k hk => cb_wh (h.2.2.1 k hk).2.2.2.1⟩
  obtain ⟨m, g1, g2, g3, g4, g5⟩ := h.2.2.2.2.1 k hk
  exact ⟨m, by omega, g3⟩
theorem rc_mq {C N : Nat} {σ : St} {f : Nat → Int32} (h : RC C N σ f) : MQf f := by
  intro k hk i hi
  obtain ⟨m, g1, g2, g3, g4, g5⟩ := h.2.2.2.2.1 k hk
  rw [g3, nI_clamp (by omega)] at hi
  have := g5 i hi
  exact ⟨as_ad this.1, this.2.1, this.2.2.1⟩
theorem rc_gb {C N : Nat} {σ : St} {f : Nat → Int32} (hC : C < 2147483648) (h : RC C N σ f) : ∃ R, R ≤ 10 ∧ GBf R C f := by
  obtain ⟨_, n, h1, h2, h3⟩ := h.2.1 3 (by decide)
  exact ⟨n, h2, rc_mi hC h, rc_mq h, h3, h.1.2.1⟩
