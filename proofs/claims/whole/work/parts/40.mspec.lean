/-! the reference in numbers: written after its Java; its places as the bytecode computes them -/
def PO (p : Int32) : Prop := ∃ k : Nat, k < 8 ∧ p = nI k
def AD (x : Int32) : Prop := ∃ a : Nat, a < 100 ∧ x = nI a
def WH (w : Int32) (n : Nat) : Prop := ∃ j : Nat, j < n ∧ w = nI j
theorem po_nI {k : Nat} (h : k < 8) : PO (nI k) := ⟨k, h, rfl⟩
theorem ad_nI {k : Nat} (h : k < 100) : AD (nI k) := ⟨k, h, rfl⟩
theorem nI_lit8 : (8 : Int32) = nI 8 := rfl
theorem nI_lit20 : (20 : Int32) = nI 20 := rfl
theorem ix_of (k w : Nat) : (8 : Int32) + 20 * nI k + nI w = nI (8 + 20 * k + w) := by rw [show (8 : Int32) = nI 8 from rfl, show (20 : Int32) = nI 20 from rfl, pk_mul, nI_add, nI_add]
theorem ix_more (k w : Nat) : (8 : Int32) + 20 * nI k + 6 + nI w = nI (8 + 20 * k + 6 + w) := by rw [show (8 : Int32) = nI 8 from rfl, show (6 : Int32) = nI 6 from rfl, show (20 : Int32) = nI 20 from rfl, pk_mul, nI_add, nI_add, nI_add]
theorem ix_552 (a : Nat) : (552 : Int32) + nI a = nI (552 + a) := by rw [show (552 : Int32) = nI 552 from rfl, nI_add]
theorem ix_652 (a : Nat) : (652 : Int32) + nI a = nI (652 + a) := by rw [show (652 : Int32) = nI 652 from rfl, nI_add]
theorem ix_752 (a t : Nat) : (752 : Int32) + 10 * nI a + nI t = nI (752 + 10 * a + t) := by rw [show (752 : Int32) = nI 752 from rfl, show (10 : Int32) = nI 10 from rfl, pk_mul, nI_add, nI_add]
theorem in_of {p w : Int32} (hp : PO p) (hw : WH w 20) : vp_in (8 + 20 * p + w) 1752 := by
  obtain ⟨k, hk, rfl⟩ := hp
  obtain ⟨j, hj, rfl⟩ := hw
  rw [ix_of]; exact vp_in_nI (by omega) (by decide)
theorem in_more {p w : Int32} (hp : PO p) (hw : WH w 14) : vp_in (8 + 20 * p + 6 + w) 1752 := by
  obtain ⟨k, hk, rfl⟩ := hp
  obtain ⟨j, hj, rfl⟩ := hw
  rw [ix_more]; exact vp_in_nI (by omega) (by decide)
theorem in_552 {x : Int32} (hx : AD x) : vp_in (552 + x) 1752 := by
  obtain ⟨k, hk, rfl⟩ := hx
  rw [ix_552]; exact vp_in_nI (by omega) (by decide)
theorem in_652 {x : Int32} (hx : AD x) : vp_in (652 + x) 1752 := by
  obtain ⟨k, hk, rfl⟩ := hx
  rw [ix_652]; exact vp_in_nI (by omega) (by decide)
theorem in_752 {x t : Int32} (hx : AD x) (ht : WH t 10) : vp_in (752 + 10 * x + t) 1752 := by
  obtain ⟨k, hk, rfl⟩ := hx
  obtain ⟨j, hj, rfl⟩ := ht
  rw [ix_752]; exact vp_in_nI (by omega) (by decide)
def mIn (v l m : Int32) : Int32 := if v < l then 0 else if m < v then 0 else 1
def mNoPort (p : Int32) : Int32 := if mIn p 0 7 = 0 then 1 else 0
def mNoAddr (x : Int32) : Int32 := if mIn x 1 99 = 0 then 1 else 0
def now (μ : Mo) (i : Int32) : Int32 := μ.2 0 i.toNatClampNeg
def setNow (μ : Mo) (i v : Int32) : Mo := mar μ 0 (upd (μ.2 0) i.toNatClampNeg v)
def mOf (μ : Mo) (p w : Int32) : Int32 := now μ (8 + 20 * p + w)
def mTo (μ : Mo) (p w v : Int32) : Mo := setNow μ (8 + 20 * p + w) v
def mMore (μ : Mo) (p w : Int32) : Mo := setNow μ (8 + 20 * p + 6 + w) (now μ (8 + 20 * p + 6 + w) + 1)
/-- a block of k cells from a on, out of g -/
def blk (f g : Nat → Int32) (a k : Nat) : Nat → Int32 := fun j => if a ≤ j ∧ j < a + k then g (j - a) else f j
theorem blk_0 (f g : Nat → Int32) (a : Nat) : blk f g a 0 = f := by
  funext j
  unfold blk
  rw [if_neg (by omega)]
theorem blk_s (f g : Nat → Int32) (a k : Nat) : upd (blk f g a k) (a + k) (g k) = blk f g a (k + 1) := by
  funext j
  unfold blk upd
  by_cases c : j = a + k
  · rw [if_pos c, if_pos (by omega)]; congr 1; omega
  · rw [if_neg c]
    show (if a ≤ j ∧ j < a + k then g (j - a) else f j) = _
    by_cases c2 : a ≤ j ∧ j < a + k
    · rw [if_pos c2, if_pos (by omega)]
    · rw [if_neg c2, if_neg (by omega)]
theorem blk_out {f g : Nat → Int32} {a k j : Nat} (h : j < a ∨ a + k ≤ j) : blk f g a k j = f j := by
  unfold blk
  rw [if_neg (by omega)]
def mShift (μ : Mo) : Mo := msc (mar μ 1 (blk (μ.2 1) (fun j => μ.2 1 (j + 1752)) 0 5256)) 0 (μ.1 0 - 1)
def mRec1 (μ : Mo) : Mo := msc (mar μ 1 (blk (μ.2 1) (μ.2 0) (1752 * (μ.1 0).toNatClampNeg) 1752)) 0 (μ.1 0 + 1)
def mRec (μ : Mo) : Mo := if μ.1 0 = 4 then mRec1 (mShift μ) else mRec1 μ
def mOpen (μ : Mo) (p : Int32) : Int32 := if mOf μ p 0 = 1 then (if mOf μ p 1 = 0 then 1 else 0) else 0
def mOpens (μ : Mo) : Nat → Int32
  | 0 => 0
  | k + 1 => if mOpen μ (nI k) = 0 then mOpens μ k + 0 else mOpens μ k + 1
def mRemE (μ : Mo) (p : Int32) : Nat → Mo
  | 0 => μ
  | k + 1 => if now (mRemE μ p k) (552 + nI (k + 1)) = p + 1 then setNow (mRemE μ p k) (552 + nI (k + 1)) 0 else mRemE μ p k
def mCab (μ : Mo) : Nat → Int32
  | 0 => 0
  | k + 1 => if 0 < mOf μ (nI k) 3 then mCab μ k + 1 else mCab μ k + 0
def mHold (μ : Mo) (p : Int32) : Int32 := if mOf μ p 1 = 0 then 0 else mOf μ p 1 - now μ 4
def mMost (w : Int32) : Int32 := if w = 0 then 1000 else if w = 1 then 600 else if w = 2 then 50 else 10
def mEnt (μ : Mo) : Nat → Int32
  | 0 => 0
  | k + 1 => if 0 < now μ (552 + nI (k + 1)) then mEnt μ k + 1 else mEnt μ k + 0
def mMov (μ : Mo) (x : Int32) : Nat → Int32
  | 0 => 0
  | k + 1 => mMov μ x k + now μ (752 + 10 * x + nI k)
def mOld (μ : Mo) : Nat → Int32
  | 0 => -4
  | k + 1 => if 0 < now μ (552 + nI (k + 1)) then (if mOld μ k = -4 then nI (k + 1) else if now μ (652 + nI (k + 1)) < now μ (652 + mOld μ k) then nI (k + 1) else mOld μ k) else mOld μ k
theorem mOld_in (μ : Mo) : ∀ k, k < 100 → mOld μ k = -4 ∨ AD (mOld μ k)
  | 0, _ => Or.inl rfl
  | k + 1, h => by
    have ih := mOld_in μ k (by omega)
    have hk : AD (nI (k + 1)) := ad_nI h
    unfold mOld
    by_cases c1 : 0 < now μ (552 + nI (k + 1))
    · rw [if_pos c1]
      by_cases c2 : mOld μ k = -4
      · rw [if_pos c2]; exact Or.inr hk
      · rw [if_neg c2]
        by_cases c3 : now μ (652 + nI (k + 1)) < now μ (652 + mOld μ k)
        · rw [if_pos c3]; exact Or.inr hk
        · rw [if_neg c3]; exact ih
    · rw [if_neg c1]; exact ih
theorem in_old {μ : Mo} {k : Nat} (hk : k < 100) {v : Int32} (hv : v = mOld μ k) : vp_in (552 + v) 1752 := by
  rcases mOld_in μ k hk with h | h
  · rw [hv, h, show (552 : Int32) + -4 = nI 548 from rfl]; exact vp_in_nI (by decide) (by decide)
  · rw [hv]; exact in_552 h
def mRemO (μ : Mo) : Mo := setNow μ (552 + mOld μ 99) 0
def mQuar (μ : Mo) (p why : Int32) : Mo := mRemE (setNow (mTo (mTo μ p 1 (now μ 4 + now μ 1)) p 2 why) 5 (now (mTo (mTo μ p 1 (now μ 4 + now μ 1)) p 2 why) 5 + 1)) p 99
def mQc (p k : Int32) : Int32 := 168 + 48 * p + 4 * k
def mInAll (μ : Mo) (w : Int32) : Nat → Int32
  | 0 => 0
  | k + 1 => mInAll μ w k + mOf μ (nI k) w
def mHeld (μ : Mo) : Nat → Int32
  | 0 => 0
  | k + 1 => if 0 < mOf μ (nI k) 1 then mHeld μ k + 1 else mHeld μ k + 0
def mWith (μ : Mo) (p : Int32) : Nat → Int32
  | 0 => 0
  | k + 1 => if now μ (552 + nI (k + 1)) = p + 1 then mWith μ p k + 1 else mWith μ p k + 0
section JM
variable {p : Program} {l : Launch} {e : Env} {R : Room} {s : State} {m : MethodId} {args : Array Value} {below : List Frame} {meth : Method} {c : Code} {cc : ByteArray} {nL : Nat} {own : String} {D : DD} {B : Nat} {Q : State → Prop} {cells slots z : Nat} {h : HF} {L : List (Nat × Value)} {rest : List Value} {pc : Nat}
theorem j_ldM (X : Cx p s m args meth c cc nL own D B) {b : Nat} {μ : Mo} {i : Int32} (hin : vp_in i 1752) (d : decode cc pc = .ok (.iaload, 1)) (kk : J p l e R s m args below meth c D B nL Q cells slots z (mput D h b μ) L (.int (now μ i) :: rest) (pc + 1)) : J p l e R s m args below meth c D B nL Q cells slots z (mput D h b μ) L (.int i :: .ref (b + 1) :: rest) pc :=
  j_iald X (mput_k 1 (by decide)) rfl hin d kk
theorem j_stM (X : Cx p s m args meth c cc nL own D B) {b : Nat} {μ : Mo} {i v : Int32} (hin : vp_in i 1752) (d : decode cc pc = .ok (.iastore, 1)) (kk : J p l e R s m args below meth c D B nL Q cells slots z (mput D h b (setNow μ i v)) L rest (pc + 1)) : J p l e R s m args below meth c D B nL Q cells slots z (mput D h b μ) L (.int v :: .int i :: .ref (b + 1) :: rest) pc :=
  j_iast X (mput_k 1 (by decide)) rfl hin d (j_heap mput_a0 kk)
end JM
