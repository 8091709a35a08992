/-! the reference: a frame is sent -/
def mSW (ν : Mo) (c p : Int32) : Mo :=
  let ν1 := setA ν 4 (4 * ν.1 3) (mOf ν p 3 - 1)
  let ν2 := setA ν1 4 (4 * ν1.1 3 + 1) (now ν1 (c + 1))
  let ν3 := setA ν2 4 (4 * ν2.1 3 + 2) (now ν2 (c + 2))
  let ν4 := setA ν3 4 (4 * ν3.1 3 + 3) (now ν3 (c + 3))
  msc ν4 3 (ν4.1 3 + 1)
def mSb (μ : Mo) (p c : Int32) : Mo := if 0 < mOf (mMore μ p 9) p 3 then mSW (mMore μ p 9) c p else mMore (mMore μ p 9) p 10
def mSc (β : Mo) (p : Int32) : Mo := mTo β p 5 (mOf β p 5 - 1)
def mSd (γ : Mo) (p c : Int32) : Mo := mar γ 0 (blk (γ.2 0) (fun i => γ.2 0 (c.toNatClampNeg + 4 + i)) c.toNatClampNeg ((mQc p (mOf γ p 5)).toNatClampNeg - c.toNatClampNeg))
def mSends (μ : Mo) (p : Int32) : Mo := mSd (mSc (mSb μ p (mQc p (mAt μ p 0))) p) p (mQc p (mAt μ p 0))
theorem of_to5 {β : Mo} {p v : Int32} (hp : PO p) : mOf (mTo β p 5 v) p 5 = v := by
  obtain ⟨k, hk, rfl⟩ := hp
  unfold mOf mTo
  rw [show (5 : Int32) = nI 5 from rfl, ix_of, now_nI (by omega), setNow_nI (by omega), upd_s]
theorem of_more5 {β : Mo} {p w : Int32} (hp : PO p) (hw : WH w 14) : mOf (mMore β p w) p 5 = mOf β p 5 := by
  obtain ⟨k, hk, rfl⟩ := hp
  obtain ⟨j, hj, rfl⟩ := hw
  unfold mOf mMore
  rw [show (5 : Int32) = nI 5 from rfl, ix_of, ix_more, now_nI (by omega), setNow_nI (by omega), upd_n (by omega)]
  exact (now_nI (by omega)).symm
theorem of_mar {γ : Mo} {p : Int32} {F G : Nat → Int32} {n k : Nat} (hp : PO p) (hn : 168 ≤ n) (hF : F = γ.2 0) : mOf (mar γ 0 (blk F G n k)) p 5 = mOf γ p 5 := by
  obtain ⟨q, hq, rfl⟩ := hp
  unfold mOf
  rw [show (5 : Int32) = nI 5 from rfl, ix_of, now_nI (by omega), now_nI (by omega), mar_at, blk_out (by omega), hF]
theorem in_way {x : Int32} (j : Nat) (hj : j < 4) (hR : ∃ r : Nat, r < 80 ∧ x = nI r) : vp_in (4 * x + nI j) 320 := by
  obtain ⟨r, hr, rfl⟩ := hR
  rw [show (4 : Int32) = nI 4 from rfl, pk_mul, nI_add]; exact vp_in_nI (by omega) (by decide)
theorem in_way0 {x : Int32} (hR : ∃ r : Nat, r < 80 ∧ x = nI r) : vp_in (4 * x) 320 := by
  obtain ⟨r, hr, rfl⟩ := hR
  rw [show (4 : Int32) = nI 4 from rfl, pk_mul]; exact vp_in_nI (by omega) (by decide)
theorem qc_nI {p m : Int32} {n : Nat} (hp : PO p) (hm : WH m n) (hn : n ≤ 13) : mQc p m = nI (mQc p m).toNatClampNeg ∧ 168 ≤ (mQc p m).toNatClampNeg ∧ (mQc p m).toNatClampNeg ≤ 552 := by
  obtain ⟨k, hk, rfl⟩ := hp
  obtain ⟨j, hj, rfl⟩ := hm
  rw [ix_qc0, nI_clamp (by omega)]
  exact ⟨rfl, by omega, by omega⟩
theorem wh_dec {x : Int32} (h : WH x 13) (h0 : 0 < x) : WH (x - 1) 12 := by
  obtain ⟨j, hj, rfl⟩ := h
  cases j with
  | zero => exact absurd h0 (by decide)
  | succ j => exact ⟨j, by omega, nI_pred j⟩
