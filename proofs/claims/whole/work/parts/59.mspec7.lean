/-! the reference: what a second keeps -/
def MQf (f : Nat → Int32) : Prop := ∀ k, k < 8 → ∀ i, i < (f (8 + 20 * k + 5)).toNatClampNeg → AD (f (168 + 48 * k + 4 * i + 1)) ∧ AD (f (168 + 48 * k + 4 * i + 2)) ∧ WH (f (168 + 48 * k + 4 * i + 3)) 4
def GA (O : Mo) (R C : Nat) (μ : Mo) : Prop := MIv μ ∧ MQf (μ.2 0) ∧ μ.2 0 3 = nI R ∧ μ.2 0 4 = nI C ∧ (∀ j, j ≠ 2 → μ.1 j = O.1 j) ∧ (∀ j, j ≠ 0 → μ.2 j = O.2 j)
theorem mq_free {f : Nat → Int32} {n : Nat} {v : Int32} (h : MQf f) (h5 : ∀ k, k < 8 → n ≠ 8 + 20 * k + 5) (hq : n < 168 ∨ 552 ≤ n ∨ n % 4 = 0) (hI : MIf f) : MQf (upd f n v) := by
  intro k hk i hi
  rw [upd_n (Ne.symm (h5 k hk))] at hi
  have hb : i < 12 := by
    obtain ⟨j, hj, e⟩ := hI.1 k hk
    rw [e, nI_clamp (by omega)] at hi
    omega
  rw [upd_n (by omega), upd_n (by omega), upd_n (by omega)]
  exact h k hk i hi
theorem setNow_o {μ : Mo} {i v : Int32} {j : Nat} (hj : j ≠ 0) : (setNow μ i v).2 j = μ.2 j := if_neg hj
theorem ga_set {O : Mo} {R C n : Nat} {μ : Mo} {v : Int32} (hn : n < 1752) (h : GA O R C μ) (hI : MIv (setNow μ (nI n) v)) (h3 : n ≠ 3) (h4 : n ≠ 4) (h5 : ∀ k, k < 8 → n ≠ 8 + 20 * k + 5) (hq : n < 168 ∨ 552 ≤ n ∨ n % 4 = 0) : GA O R C (setNow μ (nI n) v) := by
  obtain ⟨a, b, c, d, e, f⟩ := h
  refine ⟨hI, ?_, ?_, ?_, e, fun j hj => (setNow_o hj).trans (f j hj)⟩
  · rw [setNow_nI (by omega)]; exact mq_free b h5 hq a
  · rw [setNow_nI (by omega), upd_n (Ne.symm h3)]; exact c
  · rw [setNow_nI (by omega), upd_n (Ne.symm h4)]; exact d
/-- what a frame that comes in keeps -/
def Cl (P : Mo → Prop) : Prop :=
  (∀ {μ : Mo}, P μ → MIv μ) ∧
  (∀ {μ : Mo} {v : Int32}, P μ → P (msc μ 2 v)) ∧
  (∀ {μ : Mo} {x v : Int32}, AD x → WH v 9 → P μ → P (setNow μ (552 + x) v)) ∧
  (∀ {μ : Mo} {x v : Int32}, AD x → P μ → P (setNow μ (652 + x) v)) ∧
  (∀ {μ : Mo} {x t v : Int32}, AD x → WH t 10 → P μ → P (setNow μ (752 + 10 * x + t) v)) ∧
  (∀ {μ : Mo} {p w v : Int32}, PO p → (∃ j : Nat, j < 20 ∧ j ≠ 5 ∧ j ≠ 3 ∧ w = nI j) → P μ → P (mTo μ p w v)) ∧
  (∀ {μ : Mo} {v : Int32}, P μ → P (setNow μ 5 v)) ∧
  (∀ {μ : Mo} {v : Int32}, P μ → P (setNow μ (nI 548) v)) ∧
  (∀ {μ : Mo} {p w : Int32}, PO p → WH w 14 → P μ → P (mMore μ p w)) ∧
  (∀ {μ : Mo} {p s d pr : Int32}, PO p → AD s → AD d → WH pr 4 → P μ → P (mGo μ p s d pr))
theorem Cl.mi {P : Mo → Prop} (c : Cl P) {μ : Mo} : P μ → MIv μ := c.1
theorem Cl.m2 {P : Mo → Prop} (c : Cl P) {μ : Mo} {v : Int32} : P μ → P (msc μ 2 v) := c.2.1
theorem Cl.tab {P : Mo → Prop} (c : Cl P) {μ : Mo} {x v : Int32} : AD x → WH v 9 → P μ → P (setNow μ (552 + x) v) := c.2.2.1
theorem Cl.time {P : Mo → Prop} (c : Cl P) {μ : Mo} {x v : Int32} : AD x → P μ → P (setNow μ (652 + x) v) := c.2.2.2.1
theorem Cl.mov {P : Mo → Prop} (c : Cl P) {μ : Mo} {x t v : Int32} : AD x → WH t 10 → P μ → P (setNow μ (752 + 10 * x + t) v) := c.2.2.2.2.1
theorem Cl.to {P : Mo → Prop} (c : Cl P) {μ : Mo} {p w v : Int32} : PO p → (∃ j : Nat, j < 20 ∧ j ≠ 5 ∧ j ≠ 3 ∧ w = nI j) → P μ → P (mTo μ p w v) := c.2.2.2.2.2.1
theorem Cl.l5 {P : Mo → Prop} (c : Cl P) {μ : Mo} {v : Int32} : P μ → P (setNow μ 5 v) := c.2.2.2.2.2.2.1
theorem Cl.old {P : Mo → Prop} (c : Cl P) {μ : Mo} {v : Int32} : P μ → P (setNow μ (nI 548) v) := c.2.2.2.2.2.2.2.1
theorem Cl.more {P : Mo → Prop} (c : Cl P) {μ : Mo} {p w : Int32} : PO p → WH w 14 → P μ → P (mMore μ p w) := c.2.2.2.2.2.2.2.2.1
theorem Cl.go {P : Mo → Prop} (c : Cl P) {μ : Mo} {p s d pr : Int32} : PO p → AD s → AD d → WH pr 4 → P μ → P (mGo μ p s d pr) := c.2.2.2.2.2.2.2.2.2
theorem cl_remE {P : Mo → Prop} (c : Cl P) {μ : Mo} {p : Int32} (h : P μ) : ∀ k, k < 100 → P (mRemE μ p k)
  | 0, _ => h
  | k + 1, hk => by
    have ih := cl_remE c (p := p) h k (by omega)
    unfold mRemE
    by_cases q : now (mRemE μ p k) (552 + nI (k + 1)) = p + 1
    · rw [if_pos q]; exact c.tab (ad_nI hk) (wh_0 (by decide)) ih
    · rw [if_neg q]; exact ih
theorem cl_remO {P : Mo → Prop} (c : Cl P) {μ : Mo} (h : P μ) : P (mRemO μ) := by
  unfold mRemO
  rcases mOld_in μ 99 (by decide) with q | q
  · rw [q, show (552 : Int32) + -4 = nI 548 from rfl]; exact c.old h
  · exact c.tab q (wh_0 (by decide)) h
theorem cl_quar {P : Mo → Prop} (c : Cl P) {μ : Mo} {p why : Int32} (hp : PO p) (h : P μ) : P (mQuar μ p why) :=
  cl_remE c (c.l5 (c.to hp ⟨2, by decide, by decide, by decide, rfl⟩ (c.to hp ⟨1, by decide, by decide, by decide, rfl⟩ h))) 99 (by decide)
theorem cl_fl {P : Mo → Prop} (c : Cl P) {μ : Mo} {p s d pr : Int32} (hs : AD s) (hd : AD d) (hr : WH pr 4) (h : P μ) : ∀ k, k < 9 → P (mFl μ p s d pr k)
  | 0, _ => h
  | k + 1, hk => by
    have ih := cl_fl c (p := p) hs hd hr h k (by omega)
    unfold mFl
    by_cases q : nI k = p
    · rw [if_pos q]; exact ih
    rw [if_neg q]
    by_cases q : mOpen (mFl μ p s d pr k) (nI k) = 0
    · rw [if_pos q]; exact ih
    · rw [if_neg q]; exact c.go (po_nI (by omega)) hs hd hr (c.m2 ih)
theorem cl_ln {P : Mo → Prop} (c : Cl P) {μ : Mo} {p s : Int32} (hp : PO p) (hs : AD s) (h : P μ) : P (mLn μ p s) := c.time hs (c.tab hs (wh_succ hp) h)
theorem cl_mv {P : Mo → Prop} (c : Cl P) {μ : Mo} {p s : Int32} (hp : PO p) (hs : AD s) (h : P μ) : P (mMv μ p s) := c.mov hs (wh_rem (mi_clk (c.mi (cl_ln c hp hs h)))) (cl_ln c hp hs h)
theorem cl_b5 {P : Mo → Prop} (c : Cl P) {μ : Mo} {p s d pr : Int32} (hp : PO p) (hs : AD s) (hd : AD d) (hr : WH pr 4) (h : P μ) : P (mB5 μ p s d pr).2 := by
  have hq : P (mQuar μ p 2) := cl_quar c hp h
  have hf : P (mFl (mTo μ p 4 (mOf μ p 4 + 1)) p s d pr 8) := cl_fl c hs hd hr (c.to hp ⟨4, by decide, by decide, by decide, rfl⟩ h) 8 (by decide)
  unfold mB5
  generalize mQuar μ p 2 = X at *
  generalize mFl (mTo μ p 4 (mOf μ p 4 + 1)) p s d pr 8 = Y at *
  by_cases q : mOf μ p 4 < now μ 2
  · rw [if_pos q]; exact hf
  · rw [if_neg q]; exact hq
theorem cl_b4 {P : Mo → Prop} (c : Cl P) {μ : Mo} {p s d pr t : Int32} (hp : PO p) (hs : AD s) (hd : AD d) (hr : WH pr 4) (ht : ¬ t < 0 → PO t) (h : P μ) : P (mB4 μ p s d pr t).2 := by
  have h5 := cl_b5 c hp hs hd hr h
  unfold mB4
  by_cases q : t = p
  · rw [if_pos q]; exact h
  rw [if_neg q]
  by_cases q : t < 0
  · rw [if_pos q]; exact h5
  rw [if_neg q]
  by_cases c2 : mOpen μ t = 0
  · rw [if_pos c2]; exact h
  · rw [if_neg c2]; exact c.go (ht q) hs hd hr (c.m2 h)
theorem cl_b3 {P : Mo → Prop} (c : Cl P) {μ : Mo} {p s d pr : Int32} (hp : PO p) (hs : AD s) (hd : AD d) (hr : WH pr 4) (h : P μ) : P (mB3 μ p s d pr).2 := by
  have hl := cl_ln c hp hs h
  unfold mB3
  by_cases q : d = 0
  · rw [if_pos q]; exact cl_b4 c hp hs hd hr (fun q => absurd (by decide) q) hl
  · rw [if_neg q]; exact cl_b4 c hp hs hd hr (fun q => po_pred (mi_tabv hd (c.mi hl)) rfl q) hl
theorem cl_b2 {P : Mo → Prop} (c : Cl P) {μ : Mo} {p s d pr : Int32} (hp : PO p) (hs : AD s) (hd : AD d) (hr : WH pr 4) (h : P μ) : P (mB2 μ p s d pr).2 := by
  have h1 := cl_b3 c hp hs hd hr h
  have h2 := cl_b3 c hp hs hd hr (cl_remO c h)
  unfold mB2
  by_cases q : now μ (552 + s) = 0
  · rw [if_pos q]
    by_cases q : mEnt μ 99 = 20
    · rw [if_pos q]; exact h2
    · rw [if_neg q]; exact h1
  · rw [if_neg q]; exact h1
theorem cl_bec {P : Mo → Prop} (c : Cl P) {μ : Mo} {p s d pr : Int32} (hp : PO p) (hs : AD s) (hd : AD d) (hr : WH pr 4) (h : P μ) : P (mBec μ p s d pr).2 := by
  have h0 : P (msc μ 2 0) := c.m2 h
  have h2 := cl_b2 c hp hs hd hr h0
  have h3 := cl_b2 c hp hs hd hr (cl_mv c hp hs h0)
  have h4 := cl_quar c (why := 1) hp (cl_mv c hp hs h0)
  unfold mBec mB1
  generalize mQuar (mMv (msc μ 2 0) p s) p 1 = X at *
  by_cases q : mOpen (msc μ 2 0) p = 0
  · rw [if_pos q]; exact h0
  rw [if_neg q]
  by_cases q : 0 < now (msc μ 2 0) (552 + s)
  · rw [if_pos q]
    by_cases q : now (msc μ 2 0) (552 + s) = p + 1
    · rw [if_pos q]; exact h2
    · rw [if_neg q]
      by_cases q : mMov (mMv (msc μ 2 0) p s) s 10 < 3
      · rw [if_pos q]; exact h3
      · rw [if_neg q]; exact h4
  · rw [if_neg q]; exact h2
theorem cl_come {P : Mo → Prop} (c : Cl P) {μ : Mo} {p s d pr : Int32} (hp : PO p) (hs : AD s) (hd : AD d) (hr : WH pr 4) (h : P μ) : P (mCome μ p s d pr).2 := by
  refine c.more hp ?_ (c.more hp ⟨0, by decide, rfl⟩ (cl_bec c hp hs hd hr h))
  have hw := bec_wh μ p s d pr
  unfold mAcc
  generalize (mBec μ p s d pr).1 = t at *
  by_cases q : t = 4
  · rw [if_pos q]; exact ⟨5, by decide, rfl⟩
  rw [if_neg q]
  by_cases q : t = 5
  · rw [if_pos q]; exact ⟨5, by decide, rfl⟩
  rw [if_neg q]
  by_cases q : t = 0
  · rw [if_pos q]; exact ⟨1, by decide, rfl⟩
  rw [if_neg q]
  by_cases q : t = 6
  · rw [if_pos q]; exact ⟨6, by decide, rfl⟩
  · rw [if_neg q]; exact hw
theorem mq_place {f : Nat → Int32} {p j w m : Nat} {v : Int32} (h : MQf f) (hI : MIf f) (hp : p < 8) (hj : j < 12) (hw : w < 4) (hm : f (8 + 20 * p + 5) = nI m) (hm2 : m ≤ j) : MQf (upd f (168 + 48 * p + 4 * j + w) v) := by
  intro k hk i hi
  rw [upd_n (by omega)] at hi
  have hb : i < 12 := by
    obtain ⟨j, hj, e⟩ := hI.1 k hk
    rw [e, nI_clamp (by omega)] at hi
    omega
  have hne : k = p → i < j := by
    intro e
    subst e
    rw [hm, nI_clamp (by omega)] at hi
    omega
  rw [upd_n (by omega), upd_n (by omega), upd_n (by omega)]
  exact h k hk i hi
theorem mq_many {f : Nat → Int32} {p j : Nat} (h : MQf f) (hp : p < 8) (hj : j < 12) (hm : f (8 + 20 * p + 5) = nI j) (h1 : AD (f (168 + 48 * p + 4 * j + 1))) (h2 : AD (f (168 + 48 * p + 4 * j + 2))) (h3 : WH (f (168 + 48 * p + 4 * j + 3)) 4) : MQf (upd f (8 + 20 * p + 5) (nI (j + 1))) := by
  intro k hk i hi
  rw [upd_n (by omega), upd_n (by omega), upd_n (by omega)]
  by_cases c : k = p
  · subst c
    rw [upd_s, nI_clamp (by omega)] at hi
    by_cases c2 : i = j
    · subst c2; exact ⟨h1, h2, h3⟩
    · exact h k hk i (by rw [hm, nI_clamp (by omega)]; omega)
  · rw [upd_n (by omega)] at hi
    exact h k hk i hi
theorem mq_go4 {μ : Mo} {p j : Nat} {s d pr : Int32} (hp : p < 8) (hj : j < 12) (hI : MIv μ) (h : MQf (μ.2 0)) (hm : μ.2 0 (8 + 20 * p + 5) = nI j) (hs : AD s) (hd : AD d) (hr : WH pr 4) :
    let ν := mGo4 μ (mQc (nI p) (nI j)) s d pr
    MQf (ν.2 0) ∧ ν.2 0 (8 + 20 * p + 5) = nI j ∧ AD (ν.2 0 (168 + 48 * p + 4 * j + 1)) ∧ AD (ν.2 0 (168 + 48 * p + 4 * j + 2)) ∧ WH (ν.2 0 (168 + 48 * p + 4 * j + 3)) 4 ∧ ν.2 0 3 = μ.2 0 3 ∧ ν.2 0 4 = μ.2 0 4 ∧ ν.1 = μ.1 ∧ ∀ i, i ≠ 0 → ν.2 i = μ.2 i := by
  intro ν
  have e : ν.2 0 = upd (upd (upd (upd (μ.2 0) (168 + 48 * p + 4 * j) (now μ 6)) (168 + 48 * p + 4 * j + 1) s) (168 + 48 * p + 4 * j + 2) d) (168 + 48 * p + 4 * j + 3) pr := by
    show (mGo4 μ (mQc (nI p) (nI j)) s d pr).2 0 = _
    unfold mGo4
    rw [show (1 : Int32) = nI 1 from rfl, show (2 : Int32) = nI 2 from rfl, show (3 : Int32) = nI 3 from rfl, ix_qc, ix_qc, ix_qc, ix_qc0, setNow_nI (by omega), setNow_nI (by omega), setNow_nI (by omega), setNow_nI (by omega)]
  have i0 : MIf (upd (μ.2 0) (168 + 48 * p + 4 * j) (now μ 6)) := mif_free hI (fun k hk => ⟨by omega, by omega⟩) (by omega) (by omega)
  have i1 := mif_free (v := s) (n := 168 + 48 * p + 4 * j + 1) i0 (fun k hk => ⟨by omega, by omega⟩) (by omega) (by omega)
  have i2 := mif_free (v := d) (n := 168 + 48 * p + 4 * j + 2) i1 (fun k hk => ⟨by omega, by omega⟩) (by omega) (by omega)
  have q0 := mq_place (w := 0) (v := now μ 6) h hI hp hj (by decide) hm (Nat.le_refl j)
  have q1 := mq_place (w := 1) (v := s) q0 i0 hp hj (by decide) ((upd_n (by omega)).trans hm) (Nat.le_refl j)
  have q2 := mq_place (w := 2) (v := d) q1 i1 hp hj (by decide) ((upd_n (by omega)).trans ((upd_n (by omega)).trans hm)) (Nat.le_refl j)
  have q3 := mq_place (w := 3) (v := pr) q2 i2 hp hj (by decide) ((upd_n (by omega)).trans ((upd_n (by omega)).trans ((upd_n (by omega)).trans hm))) (Nat.le_refl j)
  have at_ : ∀ n, n ≠ 168 + 48 * p + 4 * j → n ≠ 168 + 48 * p + 4 * j + 1 → n ≠ 168 + 48 * p + 4 * j + 2 → n ≠ 168 + 48 * p + 4 * j + 3 → ν.2 0 n = μ.2 0 n := by
    intro n a b c d
    rw [e, upd_n d, upd_n c, upd_n b, upd_n a]
  refine ⟨by rw [e]; exact q3, (at_ _ (by omega) (by omega) (by omega) (by omega)).trans hm, ?_, ?_, ?_, at_ _ (by omega) (by omega) (by omega) (by omega), at_ _ (by omega) (by omega) (by omega) (by omega), rfl, ?_⟩
  · rw [e, upd_n (by omega), upd_n (by omega), upd_s]; exact hs
  · rw [e, upd_n (by omega), upd_s]; exact hd
  · rw [e, upd_s]; exact hr
  · intro i hi
    show (mGo4 μ (mQc (nI p) (nI j)) s d pr).2 i = _
    unfold mGo4
    rw [setNow_o hi, setNow_o hi, setNow_o hi, setNow_o hi]
theorem ga_more {O : Mo} {R C : Nat} {μ : Mo} {p w : Int32} (hp : PO p) (hw : WH w 14) (h : GA O R C μ) : GA O R C (mMore μ p w) := by
  have hI := mi_more hp hw h.1
  obtain ⟨k, hk, rfl⟩ := hp
  obtain ⟨j, hj, rfl⟩ := hw
  unfold mMore at hI ⊢
  rw [ix_more] at hI ⊢
  exact ga_set (by omega) h hI (by omega) (by omega) (fun q hq => by omega) (by omega)
theorem ga_go {O : Mo} {R C : Nat} {μ : Mo} {p s d pr : Int32} (hp : PO p) (hs : AD s) (hd : AD d) (hr : WH pr 4) (h : GA O R C μ) : GA O R C (mGo μ p s d pr) := by
  have hI : MIv (mGo μ p s d pr) := mi_go hp h.1
  by_cases c : mOf μ p 5 = 12
  · unfold mGo; rw [if_pos c]; exact ga_more hp ⟨8, by decide, rfl⟩ h
  unfold mGo at hI ⊢
  rw [if_neg c] at hI ⊢
  have hm := wh_not (mi_many hp h.1) c
  have h4 := mi_go4 (s := s) (d := d) (pr := pr) hp hm h.1
  have hmo := many_go4 (μ := μ) (s := s) (d := d) (pr := pr) hp hm
  obtain ⟨k, hk, rfl⟩ := hp
  obtain ⟨j, hj, ej⟩ := hm
  rw [ej] at hI h4 hmo ⊢
  have em : μ.2 0 (8 + 20 * k + 5) = nI j := by
    rw [← ej]; unfold mOf
    rw [show (5 : Int32) = nI 5 from rfl, ix_of, now_nI (by omega)]
  obtain ⟨g1, g2, g3, g4, g5, g6, g7, g8, g9⟩ := mq_go4 hk hj h.1 h.2.1 em hs hd hr
  generalize mGo4 μ (mQc (nI k) (nI j)) s d pr = ν at *
  have e5 : mTo ν (nI k) 5 (mOf ν (nI k) 5 + 1) = setNow ν (nI (8 + 20 * k + 5)) (nI (j + 1)) := by
    rw [hmo, nI_succ j]; unfold mTo; rw [show (5 : Int32) = nI 5 from rfl, ix_of]
  have g : GA O R C (mTo ν (nI k) 5 (mOf ν (nI k) 5 + 1)) := by
    rw [e5]
    refine ⟨?_, ?_, ?_, ?_, fun i hi => ?_, fun i hi => ?_⟩
    · rw [← e5]; exact mi_to5 (po_nI hk) (by rw [hmo, ← nI_succ]; exact ⟨j + 1, by omega, rfl⟩) h4
    · rw [setNow_nI (by omega)]; exact mq_many g1 hk hj g2 g3 g4 g5
    · rw [setNow_nI (by omega), upd_n (by omega), g6]; exact h.2.2.1
    · rw [setNow_nI (by omega), upd_n (by omega), g7]; exact h.2.2.2.1
    · show ν.1 i = _; rw [g8]; exact h.2.2.2.2.1 i hi
    · rw [setNow_o hi, g9 i hi]; exact h.2.2.2.2.2 i hi
  unfold mGo5
  generalize mTo ν (nI k) 5 (mOf ν (nI k) 5 + 1) = ξ at *
  refine ga_more (po_nI hk) ⟨7, by decide, rfl⟩ (ga_set (n := 6) (by decide) g (mi_lit 6 (by decide) (by decide) g.1) (by decide) (by decide) (fun q hq => by omega) (by decide))
theorem cl_ga (O : Mo) (R C : Nat) : Cl (GA O R C) := by
  refine ⟨?_, ?_, ?_, ?_, ?_, ?_, ?_, ?_, ?_, ?_⟩
  · exact fun h => h.1
  · exact fun h => ⟨mi_msc h.1, h.2.1, h.2.2.1, h.2.2.2.1, fun j hj => (if_neg hj).trans (h.2.2.2.2.1 j hj), h.2.2.2.2.2⟩
  · exact fun hx hv h => by
      have hI := mi_tab hx hv h.1
      obtain ⟨a, ha, rfl⟩ := hx
      rw [ix_552] at hI ⊢
      exact ga_set (by omega) h hI (by omega) (by omega) (fun q hq => by omega) (by omega)
  · exact fun {μ x v} hx h => by
      have hI := mi_time (v := v) hx h.1
      obtain ⟨a, ha, rfl⟩ := hx
      rw [ix_652] at hI ⊢
      exact ga_set (by omega) h (hI) (by omega) (by omega) (fun q hq => by omega) (by omega)
  · exact fun {μ x t v} hx ht h => by
      have hI := mi_mov (v := v) hx ht h.1
      obtain ⟨a, ha, rfl⟩ := hx
      obtain ⟨j, hj, rfl⟩ := ht
      rw [ix_752] at hI ⊢
      exact ga_set (by omega) h (hI) (by omega) (by omega) (fun q hq => by omega) (by omega)
  · exact fun {μ p w v} hp hw h => by
      have hI := mi_to (v := v) hp hw h.1
      obtain ⟨k, hk, rfl⟩ := hp
      obtain ⟨j, hj, h5, h3, rfl⟩ := hw
      unfold mTo at hI ⊢
      rw [ix_of] at hI ⊢
      exact ga_set (by omega) h (hI) (by omega) (by omega) (fun q hq => by omega) (by omega)
  · exact fun h => ga_set (n := 5) (by decide) h (mi_lit 5 (by decide) (by decide) h.1) (by decide) (by decide) (fun q hq => by omega) (by decide)
  · exact fun h => ga_set (n := 548) (by decide) h (mi_set (by omega) h.1 (fun k hk => ⟨by omega, by omega⟩) (by omega) (by omega)) (by decide) (by decide) (fun q hq => by omega) (by decide)
  · exact ga_more
  · exact ga_go
