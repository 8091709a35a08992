/-! the reference's acts -/
theorem mi_rec {μ : Mo} (h : MIv μ) : MIv (mRec μ) := by
  unfold mRec
  by_cases c : μ.1 0 = 4
  · rw [if_pos c]; exact h
  · rw [if_neg c]; exact h
theorem in_rec {r k : Nat} (hr : r ≤ 3) (hk : k < 1752) : vp_in (1752 * nI r + nI k) 7008 := by
  rw [show (1752 : Int32) = nI 1752 from rfl, pk_mul, nI_add]; exact vp_in_nI (by omega) (by decide)
theorem ix_rec {r k : Nat} (hr : r ≤ 3) (hk : k < 1752) : (1752 * nI r + nI k).toNatClampNeg = 1752 * r + k := by
  rw [show (1752 : Int32) = nI 1752 from rfl, pk_mul, nI_add]; exact nI_clamp (by omega)
theorem in_shift {k : Nat} (hk : k < 5256) : vp_in (nI k + 1752) 7008 := by
  rw [show (1752 : Int32) = nI 1752 from rfl, nI_add]; exact vp_in_nI (by omega) (by decide)
theorem mar_mar {μ : Mo} {i : Nat} {f g : Nat → Int32} : mar (mar μ i f) i g = mar μ i g := by
  unfold mar
  dsimp only
  congr 1
  funext j
  by_cases c : j = i
  · rw [if_pos c, if_pos c]
  · rw [if_neg c, if_neg c, if_neg c]
theorem mar_at {μ : Mo} {i : Nat} {f : Nat → Int32} : (mar μ i f).2 i = f := if_pos rfl
theorem mar_self {μ : Mo} {i : Nat} : mar μ i (μ.2 i) = μ := by
  unfold mar
  have e : (fun j => if j = i then μ.2 i else μ.2 j) = μ.2 := by
    funext j
    by_cases c : j = i
    · rw [if_pos c, c]
    · rw [if_neg c]
  rw [e]
theorem cp_at {μ : Mo} {a n k : Nat} {F G : Nat → Int32} {i v : Int32} (hi : i.toNatClampNeg = n + k) (hv : v = G k) : mar (mar μ a (blk F G n k)) a (upd ((mar μ a (blk F G n k)).2 a) i.toNatClampNeg v) = mar μ a (blk F G n (k + 1)) := by
  rw [mar_mar, mar_at, hi, hv, blk_s]
theorem cp_0 {μ : Mo} {a n : Nat} {G : Nat → Int32} : μ = mar μ a (blk (μ.2 a) G n 0) := by rw [blk_0, mar_self]
def mDrop (μ : Mo) (p : Int32) : Mo := mTo (setNow μ (8 + 20 * p + 6 + 8) (now μ (8 + 20 * p + 6 + 8) + mOf μ p 5)) p 5 0
def mSetPort (μ : Mo) (p up : Int32) : Int32 × Mo :=
  if mNoPort p = 0 then (if up = 0 then (if mOf μ p 0 = 0 then (-4, μ) else (mOpens (mDrop (mTo (mRec μ) p 0 0) p) 8, mDrop (mTo (mRec μ) p 0 0) p))
    else (if mOf μ p 0 = 1 then (-4, μ) else (mOpens (mTo (mRec μ) p 0 1) 8, mTo (mRec μ) p 0 1))) else (-1, μ)
def mJoin (μ : Mo) (p q : Int32) : Int32 × Mo :=
  if mNoPort p = 0 then (if mNoPort q = 0 then (if p = q then (-2, μ) else if 0 < mOf μ p 3 then (-3, μ) else if 0 < mOf μ q 3 then (-3, μ) else
    (mCab (mTo (mTo (mRec μ) p 3 (q + 1)) q 3 (p + 1)) 8 / 2, mTo (mTo (mRec μ) p 3 (q + 1)) q 3 (p + 1))) else (-1, μ)) else (-1, μ)
def mPartC (μ : Mo) (p : Int32) : Int32 × Mo :=
  if mNoPort p = 0 then (if mOf μ p 3 - 1 < 0 then (-4, μ) else (mOf μ p 3 - 1, mTo (mTo (mRec μ) p 3 0) (mOf μ p 3 - 1) 3 0)) else (-1, μ)
def mRelease (μ : Mo) (p : Int32) : Int32 × Mo := if mNoPort p = 0 then (if mOf μ p 1 = 0 then (-4, μ) else (mHold (mRec μ) p, mTo (mRec μ) p 1 0)) else (-1, μ)
def mSet (μ : Mo) (w v : Int32) : Int32 × Mo :=
  if mIn w 0 3 = 0 then (-2, μ) else if mIn v 1 (mMost w) = 0 then (-2, μ) else if now μ w = v then (-4, μ) else (now μ w, setNow (mRec μ) w v)
def mFrame (μ : Mo) (p s d pr : Int32) : Int32 × Mo :=
  if mNoPort p = 0 then (if mNoAddr s = 0 then (if mIn d 0 99 = 0 then (-2, μ) else if mIn pr 0 3 = 0 then (-2, μ) else mCome (mRec μ) p s d pr) else (-2, μ)) else (-1, μ)
def mForget (μ : Mo) (x : Int32) : Int32 × Mo := if mNoAddr x = 0 then (if now μ (552 + x) - 1 < 0 then (-4, μ) else (now μ (552 + x) - 1, setNow (mRec μ) (552 + x) 0)) else (-2, μ)
theorem bec_wh (μ : Mo) (p s d pr : Int32) : WH ((mBec μ p s d pr).1 + 1) 14 := by
  have k : ∀ n : Nat, n < 7 → WH (nI n + 1) 14 := fun n hn => ⟨n + 1, by omega, (nI_succ n).symm⟩
  have h5 : ∀ ν : Mo, WH ((mB5 ν p s d pr).1 + 1) 14 := by
    intro ν
    unfold mB5
    by_cases c : mOf ν p 4 < now ν 2
    · rw [if_pos c]; exact k 3 (by decide)
    · rw [if_neg c]; exact k 5 (by decide)
  have h4 : ∀ (ν : Mo) (t : Int32), WH ((mB4 ν p s d pr t).1 + 1) 14 := by
    intro ν t
    have h := h5 ν
    unfold mB4
    generalize mB5 ν p s d pr = X at *
    by_cases c : t = p
    · rw [if_pos c]; exact k 1 (by decide)
    rw [if_neg c]
    by_cases c : t < 0
    · rw [if_pos c]; exact h
    rw [if_neg c]
    by_cases c2 : mOpen ν t = 0
    · rw [if_pos c2]; exact k 6 (by decide)
    · rw [if_neg c2]; exact k 2 (by decide)
  have h3 : ∀ ν : Mo, WH ((mB3 ν p s d pr).1 + 1) 14 := by
    intro ν
    unfold mB3
    by_cases c : d = 0
    · rw [if_pos c]; exact h4 _ _
    · rw [if_neg c]; exact h4 _ _
  have h2 : ∀ ν : Mo, WH ((mB2 ν p s d pr).1 + 1) 14 := by
    intro ν
    unfold mB2
    by_cases c : now ν (552 + s) = 0
    · rw [if_pos c]
      by_cases c : mEnt ν 99 = 20
      · rw [if_pos c]; exact h3 _
      · rw [if_neg c]; exact h3 _
    · rw [if_neg c]; exact h3 _
  unfold mBec mB1
  by_cases c : mOpen (msc μ 2 0) p = 0
  · rw [if_pos c]; exact k 0 (by decide)
  rw [if_neg c]
  by_cases c : 0 < now (msc μ 2 0) (552 + s)
  · rw [if_pos c]
    by_cases c : now (msc μ 2 0) (552 + s) = p + 1
    · rw [if_pos c]; exact h2 _
    · rw [if_neg c]
      by_cases c : mMov (mMv (msc μ 2 0) p s) s 10 < 3
      · rw [if_pos c]; exact h2 _
      · rw [if_neg c]; exact k 4 (by decide)
  · rw [if_neg c]; exact h2 _
theorem mi_come {μ : Mo} {p s d pr : Int32} (hp : PO p) (hs : AD s) (hd : AD d) (h : MIv μ) : MIv (mCome μ p s d pr).2 := by
  refine mi_more hp ?_ (mi_more hp ⟨0, by decide, rfl⟩ (mi_bec hp hs hd h))
  have hw := bec_wh μ p s d pr
  unfold mAcc
  generalize (mBec μ p s d pr).1 = t at *
  by_cases c : t = 4
  · rw [if_pos c]; exact ⟨5, by decide, rfl⟩
  rw [if_neg c]
  by_cases c : t = 5
  · rw [if_pos c]; exact ⟨5, by decide, rfl⟩
  rw [if_neg c]
  by_cases c : t = 0
  · rw [if_pos c]; exact ⟨1, by decide, rfl⟩
  rw [if_neg c]
  by_cases c : t = 6
  · rw [if_pos c]; exact ⟨6, by decide, rfl⟩
  · rw [if_neg c]; exact hw
theorem in_set {w : Int32} (h : ¬ mIn w 0 3 = 0) : vp_in w 1752 := by
  unfold mIn at h
  by_cases c1 : w < 0
  · rw [if_pos c1] at h; exact absurd rfl h
  rw [if_neg c1] at h
  by_cases c2 : 3 < w
  · rw [if_pos c2] at h; exact absurd rfl h
  obtain ⟨j, hj, rfl⟩ := nI_of c1
  rcases Nat.lt_or_ge j 4 with q | q
  · exact vp_in_nI (by omega) (by decide)
  · exact absurd (nI_lt (a := 3) (by omega) hj) c2
