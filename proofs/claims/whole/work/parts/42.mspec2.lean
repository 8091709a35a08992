/-! what keeps the reference's places within its row -/
def MIf (f : Nat → Int32) : Prop := (∀ k, k < 8 → WH (f (8 + 20 * k + 5)) 13) ∧ (∀ a, a < 100 → WH (f (552 + a)) 9) ∧ (∃ c : Nat, c < 2147483648 ∧ f 4 = nI c) ∧ (∀ k, k < 8 → WH (f (8 + 20 * k + 3)) 9)
def MIv (μ : Mo) : Prop := MIf (μ.2 0)
theorem now_nI {μ : Mo} {n : Nat} (h : n < 2147483648) : now μ (nI n) = μ.2 0 n := by unfold now; rw [nI_clamp h]
theorem setNow_nI {μ : Mo} {n : Nat} {v : Int32} (h : n < 2147483648) : (setNow μ (nI n) v).2 0 = upd (μ.2 0) n v := by
  unfold setNow mar
  rw [nI_clamp h]
  rfl
theorem upd_s {f : Nat → Int32} {k : Nat} {v : Int32} : upd f k v k = v := if_pos rfl
theorem upd_n {f : Nat → Int32} {k j : Nat} {v : Int32} (h : j ≠ k) : upd f k v j = f j := if_neg h
theorem mif_free {f : Nat → Int32} {n : Nat} {v : Int32} (h : MIf f) (h1 : ∀ k, k < 8 → n ≠ 8 + 20 * k + 5 ∧ n ≠ 8 + 20 * k + 3) (h2 : n < 552 ∨ 652 ≤ n) (h3 : n ≠ 4) : MIf (upd f n v) := by
  refine ⟨fun k hk => ?_, fun a ha => ?_, ?_, fun k hk => ?_⟩
  · rw [upd_n (Ne.symm (h1 k hk).1)]; exact h.1 k hk
  · rw [upd_n (by omega)]; exact h.2.1 a ha
  · rw [upd_n (Ne.symm h3)]; exact h.2.2.1
  · rw [upd_n (Ne.symm (h1 k hk).2)]; exact h.2.2.2 k hk
theorem mi_set {μ : Mo} {n : Nat} {v : Int32} (hn : n < 1752) (h : MIv μ) (h1 : ∀ k, k < 8 → n ≠ 8 + 20 * k + 5 ∧ n ≠ 8 + 20 * k + 3) (h2 : n < 552 ∨ 652 ≤ n) (h3 : n ≠ 4) : MIv (setNow μ (nI n) v) := by
  unfold MIv
  rw [setNow_nI (by omega)]
  exact mif_free h h1 h2 h3
theorem mi_msc {μ : Mo} {i : Nat} {v : Int32} (h : MIv μ) : MIv (msc μ i v) := h
theorem mi_tab {μ : Mo} {x v : Int32} (hx : AD x) (hv : WH v 9) (h : MIv μ) : MIv (setNow μ (552 + x) v) := by
  obtain ⟨a, ha, rfl⟩ := hx
  unfold MIv
  rw [ix_552, setNow_nI (by omega)]
  refine ⟨fun k hk => ?_, fun b hb => ?_, ?_, fun k hk => ?_⟩
  · rw [upd_n (by omega)]; exact h.1 k hk
  · by_cases c : b = a
    · subst c; rw [upd_s]; exact hv
    · rw [upd_n (by omega)]; exact h.2.1 b hb
  · rw [upd_n (by omega)]; exact h.2.2.1
  · rw [upd_n (by omega)]; exact h.2.2.2 k hk
theorem mi_time {μ : Mo} {x v : Int32} (hx : AD x) (h : MIv μ) : MIv (setNow μ (652 + x) v) := by
  obtain ⟨a, ha, rfl⟩ := hx
  rw [ix_652]; exact mi_set (by omega) h (fun k hk => ⟨by omega, by omega⟩) (by omega) (by omega)
theorem mi_mov {μ : Mo} {x t v : Int32} (hx : AD x) (ht : WH t 10) (h : MIv μ) : MIv (setNow μ (752 + 10 * x + t) v) := by
  obtain ⟨a, ha, rfl⟩ := hx
  obtain ⟨j, hj, rfl⟩ := ht
  rw [ix_752]; exact mi_set (by omega) h (fun k hk => ⟨by omega, by omega⟩) (by omega) (by omega)
theorem mi_lit {μ : Mo} {v : Int32} (n : Nat) (hn : n < 8) (h4 : n ≠ 4) (h : MIv μ) : MIv (setNow μ (nI n) v) := mi_set (by omega) h (fun k hk => ⟨by omega, by omega⟩) (by omega) h4
theorem mi_clock {μ : Mo} {v : Int32} (hv : ∃ c : Nat, c < 2147483648 ∧ v = nI c) (h : MIv μ) : MIv (setNow μ 4 v) := by
  unfold MIv
  rw [show (4 : Int32) = nI 4 from rfl, setNow_nI (by omega)]
  refine ⟨fun k hk => ?_, fun b hb => ?_, ?_, fun k hk => ?_⟩
  · rw [upd_n (by omega)]; exact h.1 k hk
  · rw [upd_n (by omega)]; exact h.2.1 b hb
  · rw [upd_s]; exact hv
  · rw [upd_n (by omega)]; exact h.2.2.2 k hk
theorem mi_to {μ : Mo} {p w v : Int32} (hp : PO p) (hw : ∃ j : Nat, j < 20 ∧ j ≠ 5 ∧ j ≠ 3 ∧ w = nI j) (h : MIv μ) : MIv (mTo μ p w v) := by
  obtain ⟨q, hq, rfl⟩ := hp
  obtain ⟨j, hj, h5, h3, rfl⟩ := hw
  unfold mTo
  rw [ix_of]; exact mi_set (by omega) h (fun k hk => ⟨by omega, by omega⟩) (by omega) (by omega)
theorem mi_to5 {μ : Mo} {p v : Int32} (hp : PO p) (hv : WH v 13) (h : MIv μ) : MIv (mTo μ p 5 v) := by
  obtain ⟨q, hq, rfl⟩ := hp
  unfold mTo MIv
  rw [show (5 : Int32) = nI 5 from rfl, ix_of, setNow_nI (by omega)]
  refine ⟨fun k hk => ?_, fun b hb => ?_, ?_, fun k hk => ?_⟩
  · by_cases c : k = q
    · subst c; rw [upd_s]; exact hv
    · rw [upd_n (by omega)]; exact h.1 k hk
  · rw [upd_n (by omega)]; exact h.2.1 b hb
  · rw [upd_n (by omega)]; exact h.2.2.1
  · rw [upd_n (by omega)]; exact h.2.2.2 k hk
theorem mi_to3 {μ : Mo} {p v : Int32} (hp : PO p) (hv : WH v 9) (h : MIv μ) : MIv (mTo μ p 3 v) := by
  obtain ⟨q, hq, rfl⟩ := hp
  unfold mTo MIv
  rw [show (3 : Int32) = nI 3 from rfl, ix_of, setNow_nI (by omega)]
  refine ⟨fun k hk => ?_, fun b hb => ?_, ?_, fun k hk => ?_⟩
  · rw [upd_n (by omega)]; exact h.1 k hk
  · rw [upd_n (by omega)]; exact h.2.1 b hb
  · rw [upd_n (by omega)]; exact h.2.2.1
  · by_cases c : k = q
    · subst c; rw [upd_s]; exact hv
    · rw [upd_n (by omega)]; exact h.2.2.2 k hk
theorem mi_more {μ : Mo} {p w : Int32} (hp : PO p) (hw : WH w 14) (h : MIv μ) : MIv (mMore μ p w) := by
  obtain ⟨q, hq, rfl⟩ := hp
  obtain ⟨j, hj, rfl⟩ := hw
  unfold mMore
  rw [ix_more]; exact mi_set (by omega) h (fun k hk => ⟨by omega, by omega⟩) (by omega) (by omega)
theorem ix_qc (k m j : Nat) : mQc (nI k) (nI m) + nI j = nI (168 + 48 * k + 4 * m + j) := by
  unfold mQc
  rw [show (168 : Int32) = nI 168 from rfl, show (48 : Int32) = nI 48 from rfl, show (4 : Int32) = nI 4 from rfl, pk_mul, pk_mul, nI_add, nI_add, nI_add]
theorem ix_qc0 (k m : Nat) : mQc (nI k) (nI m) = nI (168 + 48 * k + 4 * m) := by
  unfold mQc
  rw [show (168 : Int32) = nI 168 from rfl, show (48 : Int32) = nI 48 from rfl, show (4 : Int32) = nI 4 from rfl, pk_mul, pk_mul, nI_add, nI_add]
theorem wh_not {m : Int32} (hm : WH m 13) (hne : ¬ m = 12) : WH m 12 := by
  obtain ⟨j, hj, rfl⟩ := hm
  refine ⟨j, ?_, rfl⟩
  have : j ≠ 12 := fun e => hne (by rw [e]; rfl)
  omega
theorem in_qc0 {p m : Int32} (hp : PO p) (hm : WH m 12) : vp_in (mQc p m) 1752 := by
  obtain ⟨k, hk, rfl⟩ := hp
  obtain ⟨j, hj, rfl⟩ := hm
  rw [ix_qc0]; exact vp_in_nI (by omega) (by decide)
theorem in_qc {p m : Int32} (j : Nat) (hj : j < 4) (hp : PO p) (hm : WH m 12) : vp_in (mQc p m + nI j) 1752 := by
  obtain ⟨k, hk, rfl⟩ := hp
  obtain ⟨i, hi, rfl⟩ := hm
  rw [ix_qc]; exact vp_in_nI (by omega) (by decide)
theorem mi_qc0 {μ : Mo} {p m v : Int32} (hp : PO p) (hm : WH m 12) (h : MIv μ) : MIv (setNow μ (mQc p m) v) := by
  obtain ⟨k, hk, rfl⟩ := hp
  obtain ⟨j, hj, rfl⟩ := hm
  rw [ix_qc0]; exact mi_set (by omega) h (fun k hk => ⟨by omega, by omega⟩) (by omega) (by omega)
theorem mi_qc {μ : Mo} {p m v : Int32} (j : Nat) (hj : j < 4) (hp : PO p) (hm : WH m 12) (h : MIv μ) : MIv (setNow μ (mQc p m + nI j) v) := by
  obtain ⟨k, hk, rfl⟩ := hp
  obtain ⟨i, hi, rfl⟩ := hm
  rw [ix_qc]; exact mi_set (by omega) h (fun k hk => ⟨by omega, by omega⟩) (by omega) (by omega)
theorem mi_many {μ : Mo} {p : Int32} (hp : PO p) (h : MIv μ) : WH (mOf μ p 5) 13 := by
  obtain ⟨q, hq, rfl⟩ := hp
  unfold mOf
  rw [show (5 : Int32) = nI 5 from rfl, ix_of, now_nI (by omega)]
  exact h.1 q hq
theorem mi_cab {μ : Mo} {p : Int32} (hp : PO p) (h : MIv μ) : WH (mOf μ p 3) 9 := by
  obtain ⟨q, hq, rfl⟩ := hp
  unfold mOf
  rw [show (3 : Int32) = nI 3 from rfl, ix_of, now_nI (by omega)]
  exact h.2.2.2 q hq
theorem mi_tabv {μ : Mo} {x : Int32} (hx : AD x) (h : MIv μ) : WH (now μ (552 + x)) 9 := by
  obtain ⟨a, ha, rfl⟩ := hx
  rw [ix_552, now_nI (by omega)]
  exact h.2.1 a ha
theorem mi_clk {μ : Mo} (h : MIv μ) : ∃ c : Nat, c < 2147483648 ∧ now μ 4 = nI c := h.2.2.1
theorem wh_rem {x : Int32} (h : ∃ c : Nat, c < 2147483648 ∧ x = nI c) : WH (x - x / 10 * 10) 10 := by
  obtain ⟨c, hc, rfl⟩ := h
  exact ⟨c % 10, Nat.mod_lt _ (by decide), pk_rem (a := c) (d := 10) hc (by decide) (by decide)⟩
theorem wh_succ {p : Int32} (hp : PO p) : WH (p + 1) 9 := by
  obtain ⟨k, hk, rfl⟩ := hp
  exact ⟨k + 1, by omega, (nI_succ k).symm⟩
theorem wh_0 {n : Nat} (h : 0 < n) : WH 0 n := ⟨0, h, rfl⟩
theorem po_pred {v t : Int32} (hv : WH v 9) (e : v - 1 = t) (h : ¬ t < 0) : PO t := by
  obtain ⟨j, hj, rfl⟩ := hv
  subst e
  cases j with
  | zero => exact absurd (by decide) h
  | succ j => exact ⟨j, by omega, nI_pred j⟩
theorem po_pos {v : Int32} (hv : WH v 9) (h : 0 < v) : PO (v - 1) := by
  obtain ⟨j, hj, rfl⟩ := hv
  cases j with
  | zero => exact absurd h (by decide)
  | succ j => exact ⟨j, by omega, nI_pred j⟩
theorem po_of {p : Int32} (h : mNoPort p = 0) : PO p := by
  unfold mNoPort mIn at h
  by_cases c1 : p < 0
  · rw [if_pos c1] at h; exact absurd h (by decide)
  rw [if_neg c1] at h
  by_cases c2 : 7 < p
  · rw [if_pos c2] at h; exact absurd h (by decide)
  obtain ⟨j, hj, rfl⟩ := nI_of c1
  refine ⟨j, ?_, rfl⟩
  rcases Nat.lt_or_ge j 8 with q | q
  · exact q
  · exact absurd (nI_lt (a := 7) (by omega) hj) c2
theorem ad_in {x : Int32} {l : Int32} (hl : l = 0 ∨ l = 1) (h : ¬ mIn x l 99 = 0) : AD x := by
  unfold mIn at h
  by_cases c1 : x < l
  · rw [if_pos c1] at h; exact absurd rfl h
  rw [if_neg c1] at h
  by_cases c2 : 99 < x
  · rw [if_pos c2] at h; exact absurd rfl h
  have c0 : ¬ x < 0 := by
    rcases hl with rfl | rfl
    · exact c1
    · intro q
      have h1 := Int32.lt_iff_toInt_lt.mp q
      refine c1 (Int32.lt_iff_toInt_lt.mpr ?_)
      have h2 : (0 : Int32).toInt = 0 := rfl
      have h3 : (1 : Int32).toInt = 1 := rfl
      omega
  obtain ⟨j, hj, rfl⟩ := nI_of c0
  refine ⟨j, ?_, rfl⟩
  rcases Nat.lt_or_ge j 100 with q | q
  · exact q
  · exact absurd (nI_lt (a := 99) (by omega) hj) c2
theorem ad_of {x : Int32} (h : mNoAddr x = 0) : AD x := by
  refine ad_in (Or.inr rfl) (fun q => ?_)
  unfold mNoAddr at h
  rw [if_pos q] at h
  exact absurd h (by decide)
theorem mi_remE {μ : Mo} {p : Int32} (h : MIv μ) : ∀ k, k < 100 → MIv (mRemE μ p k)
  | 0, _ => h
  | k + 1, hk => by
    have ih := mi_remE (p := p) h k (by omega)
    unfold mRemE
    by_cases c : now (mRemE μ p k) (552 + nI (k + 1)) = p + 1
    · rw [if_pos c]; exact mi_tab (ad_nI hk) (wh_0 (by decide)) ih
    · rw [if_neg c]; exact ih
theorem mi_remO {μ : Mo} (h : MIv μ) : MIv (mRemO μ) := by
  unfold mRemO
  rcases mOld_in μ 99 (by decide) with c | c
  · rw [c, show (552 : Int32) + -4 = nI 548 from rfl]
    exact mi_set (by omega) h (fun k hk => ⟨by omega, by omega⟩) (by omega) (by omega)
  · exact mi_tab c (wh_0 (by decide)) h
theorem mi_quar {μ : Mo} {p why : Int32} (hp : PO p) (h : MIv μ) : MIv (mQuar μ p why) :=
  mi_remE (mi_lit 5 (by decide) (by decide) (mi_to hp ⟨2, by decide, by decide, by decide, rfl⟩ (mi_to hp ⟨1, by decide, by decide, by decide, rfl⟩ h))) 99 (by decide)
-- a frame that goes out, comes in
def mGo4 (μ : Mo) (c s d pr : Int32) : Mo := setNow (setNow (setNow (setNow μ c (now μ 6)) (c + 1) s) (c + 2) d) (c + 3) pr
def mGo5 (μ : Mo) (p : Int32) : Mo := mMore (setNow (mTo μ p 5 (mOf μ p 5 + 1)) 6 (now (mTo μ p 5 (mOf μ p 5 + 1)) 6 + 1)) p 7
def mGo (μ : Mo) (p s d pr : Int32) : Mo := if mOf μ p 5 = 12 then mMore μ p 8 else mGo5 (mGo4 μ (mQc p (mOf μ p 5)) s d pr) p
def mFl (μ : Mo) (p s d pr : Int32) : Nat → Mo
  | 0 => μ
  | k + 1 => if nI k = p then mFl μ p s d pr k else if mOpen (mFl μ p s d pr k) (nI k) = 0 then mFl μ p s d pr k else mGo (msc (mFl μ p s d pr k) 2 ((mFl μ p s d pr k).1 2 ||| ((1 : Int32) <<< (nI k &&& 31)))) (nI k) s d pr
def mB5 (μ : Mo) (p s d pr : Int32) : Int32 × Mo := if mOf μ p 4 < now μ 2 then (3, mFl (mTo μ p 4 (mOf μ p 4 + 1)) p s d pr 8) else (5, mQuar μ p 2)
def mB4 (μ : Mo) (p s d pr t : Int32) : Int32 × Mo := if t = p then (1, μ) else if t < 0 then mB5 μ p s d pr else if mOpen μ t = 0 then (6, μ) else (2, mGo (msc μ 2 ((1 : Int32) <<< (t &&& 31))) t s d pr)
def mLn (μ : Mo) (p s : Int32) : Mo := setNow (setNow μ (552 + s) (p + 1)) (652 + s) (now (setNow μ (552 + s) (p + 1)) 4)
def mB3 (μ : Mo) (p s d pr : Int32) : Int32 × Mo := if d = 0 then mB4 (mLn μ p s) p s d pr (-4) else mB4 (mLn μ p s) p s d pr (now (mLn μ p s) (552 + d) - 1)
def mB2 (μ : Mo) (p s d pr : Int32) : Int32 × Mo := if now μ (552 + s) = 0 then (if mEnt μ 99 = 20 then mB3 (mRemO μ) p s d pr else mB3 μ p s d pr) else mB3 μ p s d pr
def mMv (μ : Mo) (p s : Int32) : Mo := setNow (mLn μ p s) (752 + 10 * s + (now (mLn μ p s) 4 - now (mLn μ p s) 4 / 10 * 10)) (now (mLn μ p s) (752 + 10 * s + (now (mLn μ p s) 4 - now (mLn μ p s) 4 / 10 * 10)) + 1)
def mB1 (μ : Mo) (p s d pr : Int32) : Int32 × Mo := if mMov (mMv μ p s) s 10 < 3 then mB2 (mMv μ p s) p s d pr else (4, mQuar (mMv μ p s) p 1)
def mBec (μ : Mo) (p s d pr : Int32) : Int32 × Mo :=
  if mOpen (msc μ 2 0) p = 0 then (0, msc μ 2 0) else if 0 < now (msc μ 2 0) (552 + s) then (if now (msc μ 2 0) (552 + s) = p + 1 then mB2 (msc μ 2 0) p s d pr else mB1 (msc μ 2 0) p s d pr) else mB2 (msc μ 2 0) p s d pr
def mAcc (t : Int32) : Int32 := if t = 4 then 5 else if t = 5 then 5 else if t = 0 then 1 else if t = 6 then 6 else t + 1
def mCome (μ : Mo) (p s d pr : Int32) : Int32 × Mo := ((mBec μ p s d pr).1, mMore (mMore (mBec μ p s d pr).2 p 0) p (mAcc (mBec μ p s d pr).1))
theorem mi_go4 {μ : Mo} {p m s d pr : Int32} (hp : PO p) (hm : WH m 12) (h : MIv μ) : MIv (mGo4 μ (mQc p m) s d pr) :=
  mi_qc 3 (by decide) hp hm (mi_qc 2 (by decide) hp hm (mi_qc 1 (by decide) hp hm (mi_qc0 hp hm h)))
theorem many_go4 {μ : Mo} {p m s d pr : Int32} (hp : PO p) (hm : WH m 12) : mOf (mGo4 μ (mQc p m) s d pr) p 5 = mOf μ p 5 := by
  obtain ⟨k, hk, rfl⟩ := hp
  obtain ⟨i, hi, rfl⟩ := hm
  unfold mOf mGo4
  rw [show (5 : Int32) = nI 5 from rfl, show (1 : Int32) = nI 1 from rfl, show (2 : Int32) = nI 2 from rfl, show (3 : Int32) = nI 3 from rfl, ix_of, ix_qc, ix_qc, ix_qc, ix_qc0, now_nI (by omega), now_nI (by omega), setNow_nI (by omega), upd_n (by omega), setNow_nI (by omega), upd_n (by omega), setNow_nI (by omega), upd_n (by omega), setNow_nI (by omega), upd_n (by omega)]
theorem mi_go {μ : Mo} {p s d pr : Int32} (hp : PO p) (h : MIv μ) : MIv (mGo μ p s d pr) := by
  unfold mGo
  by_cases c : mOf μ p 5 = 12
  · rw [if_pos c]; exact mi_more hp ⟨8, by decide, rfl⟩ h
  · rw [if_neg c]
    have hm := wh_not (mi_many hp h) c
    have h4 := mi_go4 (s := s) (d := d) (pr := pr) hp hm h
    refine mi_more hp ⟨7, by decide, rfl⟩ (mi_lit 6 (by decide) (by decide) (mi_to5 hp ?_ h4))
    rw [many_go4 hp hm]
    obtain ⟨j, hj, e⟩ := hm
    exact ⟨j + 1, by omega, by rw [e, nI_succ]⟩
theorem mi_fl {μ : Mo} {p s d pr : Int32} (h : MIv μ) : ∀ k, k < 9 → MIv (mFl μ p s d pr k)
  | 0, _ => h
  | k + 1, hk => by
    have ih := mi_fl (p := p) (s := s) (d := d) (pr := pr) h k (by omega)
    unfold mFl
    by_cases c : nI k = p
    · rw [if_pos c]; exact ih
    rw [if_neg c]
    by_cases c : mOpen (mFl μ p s d pr k) (nI k) = 0
    · rw [if_pos c]; exact ih
    · rw [if_neg c]; exact mi_go (po_nI (by omega)) ih
theorem mi_ln {μ : Mo} {p s : Int32} (hp : PO p) (hs : AD s) (h : MIv μ) : MIv (mLn μ p s) := mi_time hs (mi_tab hs (wh_succ hp) h)
theorem mi_mv {μ : Mo} {p s : Int32} (hp : PO p) (hs : AD s) (h : MIv μ) : MIv (mMv μ p s) := mi_mov hs (wh_rem (mi_clk (mi_ln hp hs h))) (mi_ln hp hs h)
theorem mi_b5 {μ : Mo} {p s d pr : Int32} (hp : PO p) (h : MIv μ) : MIv (mB5 μ p s d pr).2 := by
  have hq : MIv (mQuar μ p 2) := mi_quar hp h
  have hf : MIv (mFl (mTo μ p 4 (mOf μ p 4 + 1)) p s d pr 8) := mi_fl (mi_to hp ⟨4, by decide, by decide, by decide, rfl⟩ h) 8 (by decide)
  unfold mB5
  generalize mQuar μ p 2 = X at *
  generalize mFl (mTo μ p 4 (mOf μ p 4 + 1)) p s d pr 8 = Y at *
  by_cases c : mOf μ p 4 < now μ 2
  · rw [if_pos c]; exact hf
  · rw [if_neg c]; exact hq
theorem mi_b4 {μ : Mo} {p s d pr t : Int32} (hp : PO p) (ht : ¬ t < 0 → PO t) (h : MIv μ) : MIv (mB4 μ p s d pr t).2 := by
  have h5 := mi_b5 (s := s) (d := d) (pr := pr) hp h
  unfold mB4
  by_cases c : t = p
  · rw [if_pos c]; exact h
  rw [if_neg c]
  by_cases c : t < 0
  · rw [if_pos c]; exact h5
  rw [if_neg c]
  by_cases c2 : mOpen μ t = 0
  · rw [if_pos c2]; exact h
  · rw [if_neg c2]; exact mi_go (ht c) h
theorem mi_b3 {μ : Mo} {p s d pr : Int32} (hp : PO p) (hs : AD s) (hd : AD d) (h : MIv μ) : MIv (mB3 μ p s d pr).2 := by
  have hl := mi_ln hp hs h
  unfold mB3
  by_cases c : d = 0
  · rw [if_pos c]; exact mi_b4 hp (fun q => absurd (by decide) q) hl
  · rw [if_neg c]; exact mi_b4 hp (fun q => po_pred (mi_tabv hd hl) rfl q) hl
theorem mi_b2 {μ : Mo} {p s d pr : Int32} (hp : PO p) (hs : AD s) (hd : AD d) (h : MIv μ) : MIv (mB2 μ p s d pr).2 := by
  have h1 := mi_b3 (pr := pr) hp hs hd h
  have h2 := mi_b3 (pr := pr) hp hs hd (mi_remO h)
  unfold mB2
  by_cases c : now μ (552 + s) = 0
  · rw [if_pos c]
    by_cases c : mEnt μ 99 = 20
    · rw [if_pos c]; exact h2
    · rw [if_neg c]; exact h1
  · rw [if_neg c]; exact h1
theorem mi_bec {μ : Mo} {p s d pr : Int32} (hp : PO p) (hs : AD s) (hd : AD d) (h : MIv μ) : MIv (mBec μ p s d pr).2 := by
  have h0 : MIv (msc μ 2 0) := h
  have h2 := mi_b2 (pr := pr) hp hs hd h0
  have h3 := mi_b2 (pr := pr) hp hs hd (mi_mv hp hs h0)
  have h4 := mi_quar (why := 1) hp (mi_mv hp hs h0)
  unfold mBec mB1
  generalize mQuar (mMv (msc μ 2 0) p s) p 1 = X at *
  by_cases c : mOpen (msc μ 2 0) p = 0
  · rw [if_pos c]; exact h0
  rw [if_neg c]
  by_cases c : 0 < now (msc μ 2 0) (552 + s)
  · rw [if_pos c]
    by_cases c : now (msc μ 2 0) (552 + s) = p + 1
    · rw [if_pos c]; exact h2
    · rw [if_neg c]
      by_cases c : mMov (mMv (msc μ 2 0) p s) s 10 < 3
      · rw [if_pos c]; exact h3
      · rw [if_neg c]; exact h4
  · rw [if_neg c]; exact h2
