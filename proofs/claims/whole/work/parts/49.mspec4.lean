/-! the reference: copies, what is told -/
def mKeepS (μ : Mo) : Mo := msc (mar μ 2 (blk (μ.2 2) (μ.2 0) 0 1752)) 1 1
def mKeep (μ : Mo) : Int32 × Mo := (now (mKeepS μ) 4, mKeepS μ)
def mUndoS (μ : Mo) : Mo := mar (msc μ 0 (μ.1 0 - 1)) 0 (blk (μ.2 0) (fun j => μ.2 1 (1752 * (μ.1 0 - 1).toNatClampNeg + j)) 0 1752)
def mUndo (μ : Mo) : Int32 × Mo := if μ.1 0 = 0 then (-4, μ) else (μ.1 0 - 1, mUndoS μ)
def mRestS (μ : Mo) : Mo := mar μ 0 (blk (μ.2 0) (μ.2 2) 0 1752)
def mRestore (μ : Mo) : Int32 × Mo := if μ.1 1 = 0 then (-4, μ) else (now (mRestS (mRec μ)) 4, mRestS (mRec μ))
def mSp (μ : Mo) : Mo := mar μ 3 (blk (μ.2 3) (μ.2 0) 0 1752)
def mUn (μ : Mo) : Mo := mar μ 0 (blk (μ.2 0) (μ.2 3) 0 1752)
def mWouldGo (μ : Mo) (p s d : Int32) : Int32 × Mo :=
  if mNoPort p = 0 then (if mNoAddr s = 0 then (if mIn d 0 99 = 0 then (-2, μ) else ((mUn (mCome (mSp μ) p s d 0).2).1 2, mUn (mCome (mSp μ) p s d 0).2)) else (-2, μ)) else (-1, μ)
theorem mi_sp {μ : Mo} (h : MIv μ) : MIv (mSp μ) := h
def mType (μ : Mo) (c : Int32) : Int32 × Mo :=
  if μ.1 4 = 70 then (-3, μ) else (μ.1 4 + 1, msc (mar μ 5 (upd (μ.2 5) (μ.1 4).toNatClampNeg (vp_nar .char c))) 4 (μ.1 4 + 1))
def mPort (μ : Mo) (p w : Int32) : Int32 :=
  if mNoPort p = 0 then (if w = 0 then mOf μ p 0 else if w = 1 then (if mOpen μ p = 0 then 0 else 1) else if w = 2 then mHold μ p else if w = 3 then mOf μ p 2
  else if w = 4 then (if mOf μ p 3 = 0 then -4 else mOf μ p 3 - 1) else if w = 5 then mOf μ p 5 else if w = 6 then mWith μ p 99 else if w = 7 then mOf μ p 4 else -2) else -1
def mAccount (μ : Mo) (p w : Int32) : Int32 := if mNoPort p = 0 then (if mIn w 0 10 = 0 then -2 else mOf μ p (6 + w)) else -1
theorem wh_acc {w : Int32} (h : ¬ mIn w 0 10 = 0) : WH (6 + w) 20 := by
  unfold mIn at h
  by_cases c1 : w < 0
  · rw [if_pos c1] at h; exact absurd rfl h
  rw [if_neg c1] at h
  by_cases c2 : 10 < w
  · rw [if_pos c2] at h; exact absurd rfl h
  obtain ⟨j, hj, rfl⟩ := nI_of c1
  refine ⟨6 + j, ?_, by rw [show (6 : Int32) = nI 6 from rfl, nI_add]⟩
  rcases Nat.lt_or_ge j 11 with q | q
  · omega
  · exact absurd (nI_lt (a := 10) (by omega) hj) c2
def mVal (μ : Mo) (w a : Int32) : Int32 := if w = 0 then a else if w = 1 then now μ (552 + a) - 1 else if w = 2 then now μ 4 - now μ (652 + a) else mMov μ a 10
def mEntK (μ : Mo) (x w : Int32) : Nat → Nat → Int32 → Int32
  | 0, _, _ => -4
  | n + 1, k, c => if 0 < now μ (552 + nI k) then (if c = x then mVal μ w (nI k) else mEntK μ x w n (k + 1) (c + 1)) else mEntK μ x w n (k + 1) c
def mEntry (μ : Mo) (x w : Int32) : Int32 := if x < 0 then -2 else if mIn w 0 3 = 0 then -2 else mEntK μ x w 99 1 0
def mWhere (μ : Mo) (x : Int32) : Int32 := if mNoAddr x = 0 then (if 0 < now μ (552 + x) then now μ (552 + x) - 1 else -4) else -2
def mLoopK (μ : Mo) : Nat → Int32
  | 0 => 0
  | k + 1 => if mOpen μ (nI k) = 0 then mLoopK μ k ||| 0 else if 0 < mOf μ (nI k) 3 then (if mOpen μ (mOf μ (nI k) 3 - 1) = 0 then mLoopK μ k ||| 0 else mLoopK μ k ||| ((1 : Int32) <<< (nI k &&& 31))) else mLoopK μ k ||| 0
def mCount (μ : Mo) (w : Int32) : Int32 :=
  if w = 0 then now μ w else if w = 1 then now μ w else if w = 2 then now μ w else if w = 3 then now μ w else if w = 4 then now μ 4 else if w = 5 then mEnt μ 99 else if w = 6 then mOpens μ 8 else if w = 7 then mHeld μ 8
  else if w = 8 then mCab μ 8 / 2 else if w = 9 then mInAll μ 5 8 else if w = 10 then mInAll μ 6 8 else if w = 11 then now μ 5 else if w = 12 then now μ 6 else if w = 13 then μ.1 0 else if w = 14 then μ.1 4 else -2
/-! the place in a queue -/
def mAhead (μ : Mo) (p k : Int32) : Nat → Int32
  | 0 => 0
  | q + 1 => if 0 < now μ (mQc p (nI q) + 3) - now μ (mQc p k + 3) then mAhead μ p k q + 1 else if now μ (mQc p (nI q) + 3) - now μ (mQc p k + 3) = 0 then (if now μ (mQc p (nI q)) < now μ (mQc p k) then mAhead μ p k q + 1 else mAhead μ p k q + 0) else mAhead μ p k q + 0
def mMany (μ : Mo) (p : Int32) : Nat := (mOf μ p 5).toNatClampNeg
def mAtP (μ : Mo) (p w : Int32) : Nat → Nat → Int32
  | 0, _ => -4
  | n + 1, k => if mAhead μ p (nI k) (mMany μ p) = w then nI k else mAtP μ p w n (k + 1)
def mAt (μ : Mo) (p w : Int32) : Int32 := mAtP μ p w (mMany μ p) 0
theorem many_le {μ : Mo} {p : Int32} (hm : WH (mOf μ p 5) 13) : mMany μ p < 13 := by
  obtain ⟨j, hj, e⟩ := hm
  unfold mMany
  rw [e, nI_clamp (by omega)]; exact hj
theorem atP_in {μ : Mo} {p w : Int32} : ∀ (n k : Nat), n + k < 13 → mAtP μ p w n k = -4 ∨ WH (mAtP μ p w n k) 12
  | 0, _, _ => Or.inl rfl
  | n + 1, k, h => by
    have ih := atP_in (μ := μ) (p := p) (w := w) n (k + 1) (by omega)
    unfold mAtP
    by_cases c : mAhead μ p (nI k) (mMany μ p) = w
    · rw [if_pos c]; exact Or.inr ⟨k, by omega, rfl⟩
    · rw [if_neg c]; exact ih
theorem at_in {μ : Mo} {p w v : Int32} (hm : WH (mOf μ p 5) 13) (e : mAt μ p w = v) (h : ¬ v = -4) : WH v 12 := by
  rcases atP_in (μ := μ) (p := p) (w := w) (mMany μ p) 0 (by have := many_le hm; omega) with q | q
  · exact absurd (e.symm.trans q) h
  · rw [← e]; exact q
def mQueued (μ : Mo) (p k w : Int32) : Int32 :=
  if mNoPort p = 0 then (if k < 0 then -2 else if mIn w 0 3 = 0 then -2 else if mAt μ p k = -4 then -4 else if w = 3 then now μ (mQc p (mAt μ p k) + 0) else now μ (mQc p (mAt μ p k) + (w + 1))) else -1
theorem in_qcw {p m w : Int32} (hp : PO p) (hm : WH m 12) (h : ¬ mIn w 0 3 = 0) (h3 : ¬ w = 3) : vp_in (mQc p m + (w + 1)) 1752 := by
  unfold mIn at h
  by_cases c1 : w < 0
  · rw [if_pos c1] at h; exact absurd rfl h
  rw [if_neg c1] at h
  by_cases c2 : 3 < w
  · rw [if_pos c2] at h; exact absurd rfl h
  obtain ⟨j, hj, rfl⟩ := nI_of c1
  have j3 : j ≠ 3 := fun e => h3 (by rw [e]; rfl)
  rcases Nat.lt_or_ge j 4 with q | q
  · rw [show nI j + 1 = nI (j + 1) from (nI_succ j).symm]; exact in_qc (j + 1) (by omega) hp hm
  · exact absurd (nI_lt (a := 3) (by omega) hj) c2
