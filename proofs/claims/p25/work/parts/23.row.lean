set_option maxRecDepth 100000 in
set_option maxHeartbeats 8000000 in
theorem c_X5_at (l : Launch) {D : DD} {B z : Nat} {h : HF} {r c n : Nat} {f : Nat → Int32} {i : Int32} (hn : n < 1000000000) (hr_ : h r = some (rowE c)) (hc_ : h c = some (arrE D n f)) : CT l yX5_at cX5_at 2 (some .int) 0 0 [.ref r, .int i] D B z h (some (.int (rAt n f i))) 0 0 h := by
  refine CT.of (L := [(0, .ref r), (1, .int i)]) (by decide +kernel) (Nat.le_of_ble_eq_true rfl) rfl ?_
  intro P E S0 M0 AR BL ME CO X hr hnm
  refine j_iload_n X 1 dX5_at_0 rfl rfl ?_
  refine j_if_lt X (tgt := 22) dX5_at_1 (by decide) (fun c_1 => ?_) (fun c_1 => ?_)
  · refine j_iconst X (v := 0) dX5_at_22 (by decide) ?_
    exact j_iret X hr rfl (by first | with_reducible rfl | (simp only [rAt, if_pos c_1]; done) | (simp only [rAt, if_pos c_1]; rfl) | rfl) rfl (by first | with_reducible rfl | (simp only [rAt, if_pos c_1]; done) | (simp only [rAt, if_pos c_1]; rfl) | rfl) dX5_at_23
  · refine j_iload_n X 1 dX5_at_4 rfl rfl ?_
    refine j_aload_n X 0 dX5_at_5 rfl rfl ?_
    refine j_get X fG_RX5_13 hr_ rfl rfl dX5_at_6 ?_
    refine j_alen X (k := 0) (v := nI n) rfl hc_ rfl rfl dX5_at_9 ?_
    refine j_icmp_ge X (tgt := 22) dX5_at_10 (by decide) (fun c_10 => ?_) (fun c_10 => ?_)
    · refine j_iconst X (v := 0) dX5_at_22 (by decide) ?_
      exact j_iret X hr rfl (by first | with_reducible rfl | (simp only [rAt, if_neg c_1, if_neg c_10]; done) | (simp only [rAt, if_neg c_1, if_neg c_10]; rfl) | rfl) rfl (by first | with_reducible rfl | (simp only [rAt, if_neg c_1, if_neg c_10]; done) | (simp only [rAt, if_neg c_1, if_neg c_10]; rfl) | rfl) dX5_at_23
    · refine j_aload_n X 0 dX5_at_13 rfl rfl ?_
      refine j_get X fG_RX5_13 hr_ rfl rfl dX5_at_14 ?_
      refine j_iload_n X 1 dX5_at_17 rfl rfl ?_
      refine j_iald X hc_ rfl (vp_in_c (by omega) c_1 c_10) dX5_at_18 ?_
      refine j_goto X (tgt := 23) dX5_at_19 (by decide) ?_
      exact j_iret X hr rfl (by first | with_reducible rfl | (simp only [rAt, if_neg c_1, if_pos c_10]; done) | (simp only [rAt, if_neg c_1, if_pos c_10]; rfl) | rfl) rfl (by first | with_reducible rfl | (simp only [rAt, if_neg c_1, if_pos c_10]; done) | (simp only [rAt, if_neg c_1, if_pos c_10]; rfl) | rfl) dX5_at_23
set_option maxRecDepth 100000 in
set_option maxHeartbeats 8000000 in
theorem c_X5_put (l : Launch) {D : DD} {B z : Nat} {h : HF} {r c n : Nat} {f : Nat → Int32} {i : Int32} {v : Int32} (hn : n < 1000000000) (hr_ : h r = some (rowE c)) (hc_ : h c = some (arrE D n f)) : CT l yX5_put cX5_put 3 none 0 0 [.ref r, .int i, .int v] D B z h none 0 0 (hupd h c (arrE D n (rPut n f i v))) := by
  refine CT.of (L := [(0, .ref r), (1, .int i), (2, .int v)]) (by decide +kernel) (Nat.le_of_ble_eq_true rfl) rfl ?_
  intro P E S0 M0 AR BL ME CO X hr hnm
  refine j_iload_n X 1 dX5_put_0 rfl rfl ?_
  refine j_if_lt X (tgt := 20) dX5_put_1 (by decide) (fun c_1 => ?_) (fun c_1 => ?_)
  · exact j_vret X hr rfl (by first | rfl | (simp only [rPut, if_pos c_1]; done) | (simp only [rPut, if_pos c_1]; rfl) | (simp only [rPut, if_pos c_1]; exact (hupd_self hc_).symm)) dX5_put_20
  · refine j_iload_n X 1 dX5_put_4 rfl rfl ?_
    refine j_aload_n X 0 dX5_put_5 rfl rfl ?_
    refine j_get X fG_RX5_13 hr_ rfl rfl dX5_put_6 ?_
    refine j_alen X (k := 0) (v := nI n) rfl hc_ rfl rfl dX5_put_9 ?_
    refine j_icmp_ge X (tgt := 20) dX5_put_10 (by decide) (fun c_10 => ?_) (fun c_10 => ?_)
    · exact j_vret X hr rfl (by first | rfl | (simp only [rPut, if_neg c_1, if_neg c_10]; done) | (simp only [rPut, if_neg c_1, if_neg c_10]; rfl) | (simp only [rPut, if_neg c_1, if_neg c_10]; exact (hupd_self hc_).symm)) dX5_put_20
    · refine j_aload_n X 0 dX5_put_13 rfl rfl ?_
      refine j_get X fG_RX5_13 hr_ rfl rfl dX5_put_14 ?_
      refine j_iload_n X 1 dX5_put_17 rfl rfl ?_
      refine j_iload_n X 2 dX5_put_18 rfl rfl ?_
      refine j_iast X hc_ rfl (vp_in_c (by omega) c_1 c_10) dX5_put_19 ?_
      exact j_vret X hr rfl (by first | rfl | (simp only [rPut, if_neg c_1, if_pos c_10]; done) | (simp only [rPut, if_neg c_1, if_pos c_10]; rfl) | (simp only [rPut, if_neg c_1, if_pos c_10]; exact (hupd_self hc_).symm)) dX5_put_20
set_option maxRecDepth 100000 in
set_option maxHeartbeats 8000000 in
theorem c_X5_add (l : Launch) {D : DD} {B z : Nat} {h : HF} {r c n : Nat} {f : Nat → Int32} {i : Int32} {v : Int32} (hn : n < 1000000000) (hr_ : h r = some (rowE c)) (hc_ : h c = some (arrE D n f)) : CT l yX5_add cX5_add 3 none 0 0 [.ref r, .int i, .int v] D B z h none 0 0 (hupd h c (arrE D n (rAdd n f i v))) := by
  refine CT.of (L := [(0, .ref r), (1, .int i), (2, .int v)]) (by decide +kernel) (Nat.le_of_ble_eq_true rfl) rfl ?_
  intro P E S0 M0 AR BL ME CO X hr hnm
  refine j_iload_n X 1 dX5_add_0 rfl rfl ?_
  refine j_if_lt X (tgt := 23) dX5_add_1 (by decide) (fun c_1 => ?_) (fun c_1 => ?_)
  · exact j_vret X hr rfl (by first | rfl | (simp only [rAdd, if_pos c_1]; done) | (simp only [rAdd, if_pos c_1]; rfl) | (simp only [rAdd, if_pos c_1]; exact (hupd_self hc_).symm)) dX5_add_23
  · refine j_iload_n X 1 dX5_add_4 rfl rfl ?_
    refine j_aload_n X 0 dX5_add_5 rfl rfl ?_
    refine j_get X fG_RX5_13 hr_ rfl rfl dX5_add_6 ?_
    refine j_alen X (k := 0) (v := nI n) rfl hc_ rfl rfl dX5_add_9 ?_
    refine j_icmp_ge X (tgt := 23) dX5_add_10 (by decide) (fun c_10 => ?_) (fun c_10 => ?_)
    · exact j_vret X hr rfl (by first | rfl | (simp only [rAdd, if_neg c_1, if_neg c_10]; done) | (simp only [rAdd, if_neg c_1, if_neg c_10]; rfl) | (simp only [rAdd, if_neg c_1, if_neg c_10]; exact (hupd_self hc_).symm)) dX5_add_23
    · refine j_aload_n X 0 dX5_add_13 rfl rfl ?_
      refine j_get X fG_RX5_13 hr_ rfl rfl dX5_add_14 ?_
      refine j_iload_n X 1 dX5_add_17 rfl rfl ?_
      refine j_dup2 X dX5_add_18 rfl rfl ?_
      refine j_iald X hc_ rfl (vp_in_c (by omega) c_1 c_10) dX5_add_19 ?_
      refine j_iload_n X 2 dX5_add_20 rfl rfl ?_
      refine j_iadd X dX5_add_21 ?_
      refine j_iast X hc_ rfl (vp_in_c (by omega) c_1 c_10) dX5_add_22 ?_
      exact j_vret X hr rfl (by first | rfl | (simp only [rAdd, if_neg c_1, if_pos c_10]; done) | (simp only [rAdd, if_neg c_1, if_pos c_10]; rfl) | (simp only [rAdd, if_neg c_1, if_pos c_10]; exact (hupd_self hc_).symm)) dX5_add_23
set_option maxRecDepth 100000 in
set_option maxHeartbeats 8000000 in
theorem c_X5_fits (l : Launch) {D : DD} {B z : Nat} {h : HF} {r c n : Nat} {f : Nat → Int32} {i : Int32} {k : Int32} (hn : n < 1000000000) (hr_ : h r = some (rowE c)) (hc_ : h c = some (arrE D n f)) : CT l yX5_fits cX5_fits 3 (some .boolean) 0 0 [.ref r, .int i, .int k] D B z h (some (.int (rFits n i k))) 0 0 h := by
  refine CT.of (L := [(0, .ref r), (1, .int i), (2, .int k)]) (by decide +kernel) (Nat.le_of_ble_eq_true rfl) rfl ?_
  intro P E S0 M0 AR BL ME CO X hr hnm
  refine j_iload_n X 1 dX5_fits_0 rfl rfl ?_
  refine j_if_lt X (tgt := 23) dX5_fits_1 (by decide) (fun c_1 => ?_) (fun c_1 => ?_)
  · refine j_iconst X (v := 0) dX5_fits_23 (by decide) ?_
    exact j_iret X hr rfl (by first | with_reducible rfl | (simp only [rFits, if_pos c_1]; done) | (simp only [rFits, if_pos c_1]; rfl) | rfl) rfl (by first | with_reducible rfl | (simp only [rFits, if_pos c_1]; done) | (simp only [rFits, if_pos c_1]; rfl) | rfl) dX5_fits_24
  · refine j_iload_n X 2 dX5_fits_4 rfl rfl ?_
    refine j_if_lt X (tgt := 23) dX5_fits_5 (by decide) (fun c_5 => ?_) (fun c_5 => ?_)
    · refine j_iconst X (v := 0) dX5_fits_23 (by decide) ?_
      exact j_iret X hr rfl (by first | with_reducible rfl | (simp only [rFits, if_neg c_1, if_pos c_5]; done) | (simp only [rFits, if_neg c_1, if_pos c_5]; rfl) | rfl) rfl (by first | with_reducible rfl | (simp only [rFits, if_neg c_1, if_pos c_5]; done) | (simp only [rFits, if_neg c_1, if_pos c_5]; rfl) | rfl) dX5_fits_24
    · refine j_iload_n X 1 dX5_fits_8 rfl rfl ?_
      refine j_aload_n X 0 dX5_fits_9 rfl rfl ?_
      refine j_get X fG_RX5_13 hr_ rfl rfl dX5_fits_10 ?_
      refine j_alen X (k := 0) (v := nI n) rfl hc_ rfl rfl dX5_fits_13 ?_
      refine j_iload_n X 2 dX5_fits_14 rfl rfl ?_
      refine j_isub X dX5_fits_15 ?_
      refine j_icmp_gt X (tgt := 23) dX5_fits_16 (by decide) (fun c_16 => ?_) (fun c_16 => ?_)
      · refine j_iconst X (v := 0) dX5_fits_23 (by decide) ?_
        exact j_iret X hr rfl (by first | with_reducible rfl | (simp only [rFits, if_neg c_1, if_neg c_5, if_pos c_16]; done) | (simp only [rFits, if_neg c_1, if_neg c_5, if_pos c_16]; rfl) | rfl) rfl (by first | with_reducible rfl | (simp only [rFits, if_neg c_1, if_neg c_5, if_pos c_16]; done) | (simp only [rFits, if_neg c_1, if_neg c_5, if_pos c_16]; rfl) | rfl) dX5_fits_24
      · refine j_iconst X (v := 1) dX5_fits_19 (by decide) ?_
        refine j_goto X (tgt := 24) dX5_fits_20 (by decide) ?_
        exact j_iret X hr rfl (by first | with_reducible rfl | (simp only [rFits, if_neg c_1, if_neg c_5, if_neg c_16]; done) | (simp only [rFits, if_neg c_1, if_neg c_5, if_neg c_16]; rfl) | rfl) rfl (by first | with_reducible rfl | (simp only [rFits, if_neg c_1, if_neg c_5, if_neg c_16]; done) | (simp only [rFits, if_neg c_1, if_neg c_5, if_neg c_16]; rfl) | rfl) dX5_fits_24
set_option maxRecDepth 100000 in
set_option maxHeartbeats 8000000 in
theorem c_X5_sum (l : Launch) {D : DD} {B z : Nat} {h : HF} {r c : Nat} {f : Nat → Int32} (hr_ : h r = some (rowE c)) (hc_ : h c = some (arrE D 8 f)) : CT l yX5_sum cX5_sum 6 (some .int) 0 0 [.ref r] D B z h (some (.int (rSum f 8))) 0 0 h := by
  refine CT.of (L := [(0, .ref r)]) (by decide +kernel) (Nat.le_of_ble_eq_true rfl) rfl ?_
  intro P E S0 M0 AR BL ME CO X hr hnm
  refine j_iconst X (v := 0) dX5_sum_0 (by decide) ?_
  refine j_istore_n X (L' := [(1, .int 0), (0, .ref r)]) dX5_sum_1 rfl (by decide) rfl ?_
  refine j_aload_n X 1 dX5_sum_2 rfl rfl ?_
  refine j_get X fG_RX5_13 hr_ rfl rfl dX5_sum_3 ?_
  refine j_astore_n X (L' := [(2, .ref c), (1, .int 0), (0, .ref r)]) dX5_sum_6 rfl (by decide) rfl ?_
  refine j_aload_n X 0 dX5_sum_7 rfl rfl ?_
  refine j_alen X (k := 0) (v := 8) rfl hc_ rfl rfl dX5_sum_8 ?_
  refine j_istore_n X (L' := [(3, .int 8), (2, .ref c), (1, .int 0), (0, .ref r)]) dX5_sum_9 rfl (by decide) rfl ?_
  refine j_iconst X (v := 0) dX5_sum_10 (by decide) ?_
  refine j_istore X (L' := [(4, .int 0), (3, .int 8), (2, .ref c), (1, .int 0), (0, .ref r)]) dX5_sum_11 (by decide) rfl ?_
  have loop13 : ∀ (n k : Nat), k + n = 8 → J P l E { frames := 0, cells := 0, slots := 0, locals := 0 } S0 M0 AR BL ME CO D B 6 (MQ BL (QC (some (.int (rSum f 8))) D B (z + 0) h) AR S0 0 0 (aB B)) 0 0 z h [(0, .ref r), (1, .int (rSum f k)), (2, .ref c), (3, .int 8), (4, .int (nI k))] [] 13 := by
    intro n
    induction n with
    | zero =>
      intro k hk
      obtain rfl : k = 8 := by omega
      refine j_iload X 4 dX5_sum_13 rfl ?_
      refine j_iload_n X 3 dX5_sum_15 rfl rfl ?_
      refine j_icmp_ge X (tgt := 36) dX5_sum_16 (by decide) (fun c_16 => ?_) (fun c_16 => absurd c_16 (by decide))
      refine j_iload_n X 1 dX5_sum_36 rfl rfl ?_
      exact j_iret X hr rfl (by first | with_reducible rfl | (simp only [rSum, if_neg c_16]; done) | (simp only [rSum, if_neg c_16]; rfl) | rfl) rfl (by first | with_reducible rfl | (simp only [rSum, if_neg c_16]; done) | (simp only [rSum, if_neg c_16]; rfl) | rfl) dX5_sum_37
    | succ n ih =>
      intro k hk
      have hcl : (nI k).toNatClampNeg = k := nI_clamp (by omega)
      have hlt : nI k < 8 := nlt_lit (b := 8) (by omega) (by decide)
      refine j_iload X 4 dX5_sum_13 rfl ?_
      refine j_iload_n X 3 dX5_sum_15 rfl rfl ?_
      refine j_icmp_ge X (tgt := 36) dX5_sum_16 (by decide) (fun c_16 => absurd hlt c_16) (fun c_16 => ?_)
      refine j_aload_n X 2 dX5_sum_19 rfl rfl ?_
      refine j_iload X 4 dX5_sum_20 rfl ?_
      refine j_iald X hc_ rfl (vp_in_nI (by omega) (by decide)) dX5_sum_22 ?_
      refine j_tops (fun v1 ev1 => ?_)
      refine j_istore X (L' := [(5, .int v1), (0, .ref r), (1, .int (rSum f k)), (2, .ref c), (3, .int 8), (4, .int (nI k))]) dX5_sum_23 (by decide) rfl ?_
      refine j_iload_n X 2 dX5_sum_25 rfl rfl ?_
      refine j_iload X 0 dX5_sum_26 rfl ?_
      refine j_iadd X dX5_sum_28 ?_
      refine j_tops (fun v2 ev2 => ?_)
      refine j_istore_n X (L' := [(1, .int v2), (5, .int v1), (0, .ref r), (2, .ref c), (3, .int 8), (4, .int (nI k))]) dX5_sum_29 rfl (by decide) rfl ?_
      obtain ⟨v3, ev3⟩ : ∃ y : Int32, (nI k) + 1 = y := ⟨_, rfl⟩
      refine j_iinc X 5 (k := 1) (v := v3) (L' := [(4, .int v3), (1, .int v2), (5, .int v1), (0, .ref r), (2, .ref c), (3, .int 8)]) dX5_sum_30 rfl (by decide) (by decide) ev3 rfl ?_
      refine j_goto X (tgt := 13) dX5_sum_33 (by decide) ?_
      refine j_sub [3, 1, 4, 5, 0] (L' := [(0, .ref r), (1, .int (rSum f (k + 1))), (2, .ref c), (3, .int 8), (4, .int (nI (k + 1)))]) (by subst ev3 ev2 ev1; first | with_reducible rfl | (simp only [rSum, nI_0, nI_succ k, hcl, if_pos c_16]; done) | (simp only [rSum, nI_0, nI_succ k, hcl, if_pos c_16]; rfl) | rfl) ?_
      exact ih (k + 1) (by omega)
  refine j_sub [4, 3, 2, 1, 0] (L' := [(0, .ref r), (1, .int (rSum f 0)), (2, .ref c), (3, .int 8), (4, .int (nI 0))]) (by first | with_reducible rfl | (simp only [rSum, nI_0]; done) | (simp only [rSum, nI_0]; rfl) | rfl) ?_
  exact loop13 8 0 rfl
/-! fill, slide, copyFrom and the JDK's own of them: by hand -/
theorem rFits_ok {n : Nat} {i k : Int32} (hn : n < 1000000000) (h : ¬ rFits n i k = 0) : ∃ a b : Nat, a + b ≤ n ∧ i = nI a ∧ k = nI b := by
  unfold rFits at h
  by_cases c1 : i < 0
  · rw [if_pos c1] at h; exact absurd rfl h
  rw [if_neg c1] at h
  by_cases c2 : k < 0
  · rw [if_pos c2] at h; exact absurd rfl h
  rw [if_neg c2] at h
  by_cases c3 : nI n - k < i
  · rw [if_pos c3] at h; exact absurd rfl h
  obtain ⟨a, ha, rfl⟩ := nI_of c1
  obtain ⟨b, hb, rfl⟩ := nI_of c2
  refine ⟨a, b, ?_, rfl, rfl⟩
  have h4 := Int32.le_iff_toInt_le.mp (Int32.not_lt.mp c3)
  rw [nI_toInt ha] at h4
  have h5 : (nI n - nI b).toInt = (n : Int) - b := by
    rw [Int32.toInt_sub, nI_toInt (by omega), nI_toInt hb]
    exact Int.bmod_eq_of_le (by omega) (by omega)
  rw [h5] at h4
  omega
set_option maxRecDepth 100000 in
theorem c_J7_rangeCheck (l : Launch) {D : DD} {B z : Nat} {h : HF} {n i j : Int32} (h1 : ¬ j < i) (h2 : ¬ i < 0) (h3 : ¬ n < j) : CT l yJ7_rangeCheck_23922 cJ7_rangeCheck_23922 3 none 0 0 [.int n, .int i, .int j] D B z h none 0 0 h := by
  refine CT.of (L := [(0, .int n), (1, .int i), (2, .int j)]) (by decide +kernel) (Nat.le_of_ble_eq_true rfl) rfl ?_
  intro P E S0 M0 AR BL ME CO X hr hnm
  refine j_iload_n X 1 dJ7_rangeCheck_23922_0 rfl rfl ?_
  refine j_iload_n X 2 dJ7_rangeCheck_23922_1 rfl rfl ?_
  refine j_icmp_le X (tgt := 46) dJ7_rangeCheck_23922_2 (by decide) (fun c => ?_) (fun c => absurd c h1)
  refine j_iload_n X 1 dJ7_rangeCheck_23922_46 rfl rfl ?_
  refine j_if_ge X (tgt := 59) dJ7_rangeCheck_23922_47 (by decide) (fun c => ?_) (fun c => absurd c h2)
  refine j_iload_n X 2 dJ7_rangeCheck_23922_59 rfl rfl ?_
  refine j_iload_n X 0 dJ7_rangeCheck_23922_60 rfl rfl ?_
  refine j_icmp_le X (tgt := 73) dJ7_rangeCheck_23922_61 (by decide) (fun c => ?_) (fun c => absurd c h3)
  exact j_vret X hr rfl rfl dJ7_rangeCheck_23922_73
set_option maxRecDepth 100000 in
set_option maxHeartbeats 1000000 in
theorem c_J7_fill (l : Launch) {D : DD} {B z : Nat} {h : HF} {a n i j : Nat} {f : Nat → Int32} {v : Int32} (hn : n < 1000000000) (hij : i ≤ j) (hj : j ≤ n) (ha : h a = some (arrE D n f)) : CT l yJ7_fill_fda19 cJ7_fill_fda19 5 none 1 22 [.ref a, .int (nI i), .int (nI j), .int v] D B z h none 0 0 (hupd h a (arrE D n (fillF f i j v))) := by
  refine CT.of (L := [(0, .ref a), (1, .int (nI i)), (2, .int (nI j)), (3, .int v)]) (by decide +kernel) (Nat.le_of_ble_eq_true rfl) rfl ?_
  intro P E S0 M0 AR BL ME CO X hr hnm
  refine j_aload_n X 0 dJ7_fill_fda19_0 rfl rfl ?_
  refine j_alen X (k := 0) (v := nI n) rfl ha rfl rfl dJ7_fill_fda19_1 ?_
  refine j_iload_n X 1 dJ7_fill_fda19_2 rfl rfl ?_
  refine j_iload_n X 2 dJ7_fill_fda19_3 rfl rfl ?_
  refine j_callSv X (rest := []) (c_J7_rangeCheck l (nI_nlt hij (by omega)) (nI_pos (by omega)) (nI_nlt hj (by omega))) m_yJ7_rangeCheck_23922 kM_RJ7_13 rfl rfl (Nat.le_of_ble_eq_true rfl) ⟨Nat.le_of_ble_eq_true rfl, Nat.le_of_ble_eq_true rfl, Nat.le_of_ble_eq_true rfl, Nat.le_of_ble_eq_true rfl⟩ dJ7_fill_fda19_4 ?_
  refine j_iload_n X 1 dJ7_fill_fda19_7 rfl rfl ?_
  refine j_istore X (L' := [(4, .int (nI i)), (0, .ref a), (1, .int (nI i)), (2, .int (nI j)), (3, .int v)]) dJ7_fill_fda19_8 (by decide) rfl ?_
  have loop : ∀ (m k : Nat), k + m = j → i ≤ k → J P l E { frames := 1, cells := 0, slots := 0, locals := 22 } S0 M0 AR BL ME CO D B 5 (MQ BL (QC none D B (z + 0) (hupd h a (arrE D n (fillF f i j v)))) AR S0 0 0 (aB B)) 0 0 z (hupd h a (arrE D n (fillF f i k v))) [(4, .int (nI k)), (0, .ref a), (1, .int (nI i)), (2, .int (nI j)), (3, .int v)] [] 10 := by
    intro m
    induction m with
    | zero =>
      intro k hk hik
      obtain rfl : k = j := by omega
      refine j_iload X 0 dJ7_fill_fda19_10 rfl ?_
      refine j_iload_n X 3 dJ7_fill_fda19_12 rfl rfl ?_
      refine j_icmp_ge X (tgt := 27) dJ7_fill_fda19_13 (by decide) (fun c => ?_) (fun c => absurd c Int32.lt_irrefl)
      exact j_vret X hr rfl rfl dJ7_fill_fda19_27
    | succ m ih =>
      intro k hk hik
      have hlt : nI k < nI j := nI_lt (by omega) (by omega)
      refine j_iload X 0 dJ7_fill_fda19_10 rfl ?_
      refine j_iload_n X 3 dJ7_fill_fda19_12 rfl rfl ?_
      refine j_icmp_ge X (tgt := 27) dJ7_fill_fda19_13 (by decide) (fun c => absurd hlt c) (fun c => ?_)
      refine j_aload_n X 1 dJ7_fill_fda19_16 rfl rfl ?_
      refine j_iload X 0 dJ7_fill_fda19_17 rfl ?_
      refine j_iload_n X 4 dJ7_fill_fda19_19 rfl rfl ?_
      refine j_iast X hupd_same rfl (vp_in_nI (by omega) (by omega)) dJ7_fill_fda19_20 ?_
      refine j_heap (h' := hupd h a (arrE D n (fillF f i (k + 1) v))) ?_ ?_
      · rw [hupd_hupd, nI_clamp (by omega)]
        congr 5
        funext q
        unfold upd fillF
        by_cases e : q = k
        · subst e; rw [if_pos rfl, if_pos ⟨hik, by omega⟩]
        · rw [if_neg e]
          by_cases e2 : i ≤ q ∧ q < k
          · rw [if_pos e2, if_pos ⟨e2.1, by omega⟩]
          · rw [if_neg e2, if_neg (by omega)]
      refine j_iinc X 0 (k := 1) (v := nI (k + 1)) (L' := [(4, .int (nI (k + 1))), (0, .ref a), (1, .int (nI i)), (2, .int (nI j)), (3, .int v)]) dJ7_fill_fda19_21 rfl (by decide) (by decide) (nI_succ k).symm rfl ?_
      refine j_goto X (tgt := 10) dJ7_fill_fda19_24 (by decide) ?_
      exact ih (k + 1) (by omega) (by omega)
  refine j_heap (h' := hupd h a (arrE D n (fillF f i i v))) ?_ ?_
  · refine (hupd_self ?_).symm
    rw [ha]
    congr 5
    funext q
    unfold fillF
    rw [if_neg (by omega)]
  exact loop (j - i) i (by omega) (Nat.le_refl i)
set_option maxRecDepth 100000 in
theorem c_X5_fill (l : Launch) {D : DD} {B z : Nat} {h : HF} {r c n : Nat} {f : Nat → Int32} {i k v : Int32} (hn : n < 1000000000) (hr_ : h r = some (rowE c)) (hc_ : h c = some (arrE D n f)) : CT l yX5_fill cX5_fill 4 none 2 46 [.ref r, .int i, .int k, .int v] D B z h none 0 0 (hupd h c (arrE D n (rFill n f i k v))) := by
  refine CT.of (L := [(0, .ref r), (1, .int i), (2, .int k), (3, .int v)]) (by decide +kernel) (Nat.le_of_ble_eq_true rfl) rfl ?_
  intro P E S0 M0 AR BL ME CO X hr hnm
  refine j_aload_n X 0 dX5_fill_0 rfl rfl ?_
  refine j_iload_n X 1 dX5_fill_1 rfl rfl ?_
  refine j_iload_n X 2 dX5_fill_2 rfl rfl ?_
  refine j_callVi X (rest := []) (c_X5_fits l hn hr_ hc_) m_yX5_fits kM_RX5_19 hr_ rfl rfl rfl rfl rfl (Nat.le_of_ble_eq_true rfl) ⟨Nat.le_of_ble_eq_true rfl, Nat.le_of_ble_eq_true rfl, Nat.le_of_ble_eq_true rfl, Nat.le_of_ble_eq_true rfl⟩ dX5_fill_3 ?_
  refine j_if_eq X (tgt := 21) dX5_fill_6 (by decide) (fun c_ => ?_) (fun c_ => ?_)
  · exact j_vret X hr rfl (by rw [rFill, if_pos c_]; exact (hupd_self hc_).symm) dX5_fill_21
  · obtain ⟨a, b, hab, rfl, rfl⟩ := rFits_ok hn c_
    refine j_aload_n X 0 dX5_fill_9 rfl rfl ?_
    refine j_get X fG_RX5_13 hr_ rfl rfl dX5_fill_10 ?_
    refine j_iload_n X 1 dX5_fill_13 rfl rfl ?_
    refine j_iload_n X 1 dX5_fill_14 rfl rfl ?_
    refine j_iload_n X 2 dX5_fill_15 rfl rfl ?_
    refine j_iadd X dX5_fill_16 ?_
    refine j_iload_n X 3 dX5_fill_17 rfl rfl ?_
    rw [nI_add]
    refine j_callSv X (rest := []) (c_J7_fill l (i := a) (j := a + b) hn (by omega) hab hc_) m_yJ7_fill_fda19 kM_RX5_23 rfl rfl (Nat.le_of_ble_eq_true rfl) ⟨Nat.le_of_ble_eq_true rfl, Nat.le_of_ble_eq_true rfl, Nat.le_of_ble_eq_true rfl, Nat.le_of_ble_eq_true rfl⟩ dX5_fill_18 ?_
    exact j_vret X hr rfl (by rw [rFill, if_neg c_, nI_add, nI_clamp (by omega), nI_clamp (by omega)]) dX5_fill_21
set_option maxRecDepth 100000 in
theorem c_X5_slide (l : Launch) {D : DD} {B z : Nat} {h : HF} {r c n : Nat} {f : Nat → Int32} {i j k : Int32} (hn : n < 1000000000) (hr_ : h r = some (rowE c)) (hc_ : h c = some (arrE D n f)) : CT l yX5_slide cX5_slide 4 none 1 22 [.ref r, .int i, .int j, .int k] D B z h none 0 0 (hupd h c (arrE D n (rSlide n f i j k))) := by
  refine CT.of (L := [(0, .ref r), (1, .int i), (2, .int j), (3, .int k)]) (by decide +kernel) (Nat.le_of_ble_eq_true rfl) rfl ?_
  intro P E S0 M0 AR BL ME CO X hr hnm
  refine j_aload_n X 0 dX5_slide_0 rfl rfl ?_
  refine j_iload_n X 1 dX5_slide_1 rfl rfl ?_
  refine j_iload_n X 3 dX5_slide_2 rfl rfl ?_
  refine j_callVi X (rest := []) (c_X5_fits l hn hr_ hc_) m_yX5_fits kM_RX5_19 hr_ rfl rfl rfl rfl rfl (Nat.le_of_ble_eq_true rfl) ⟨Nat.le_of_ble_eq_true rfl, Nat.le_of_ble_eq_true rfl, Nat.le_of_ble_eq_true rfl, Nat.le_of_ble_eq_true rfl⟩ dX5_slide_3 ?_
  refine j_if_eq X (tgt := 32) dX5_slide_6 (by decide) (fun c_ => ?_) (fun c_ => ?_)
  · exact j_vret X hr rfl (by rw [rSlide, if_pos c_]; exact (hupd_self hc_).symm) dX5_slide_32
  refine j_aload_n X 0 dX5_slide_9 rfl rfl ?_
  refine j_iload_n X 2 dX5_slide_10 rfl rfl ?_
  refine j_iload_n X 3 dX5_slide_11 rfl rfl ?_
  refine j_callVi X (rest := []) (c_X5_fits l hn hr_ hc_) m_yX5_fits kM_RX5_19 hr_ rfl rfl rfl rfl rfl (Nat.le_of_ble_eq_true rfl) ⟨Nat.le_of_ble_eq_true rfl, Nat.le_of_ble_eq_true rfl, Nat.le_of_ble_eq_true rfl, Nat.le_of_ble_eq_true rfl⟩ dX5_slide_12 ?_
  refine j_if_eq X (tgt := 32) dX5_slide_15 (by decide) (fun c2_ => ?_) (fun c2_ => ?_)
  · exact j_vret X hr rfl (by rw [rSlide, if_neg c_, if_pos c2_]; exact (hupd_self hc_).symm) dX5_slide_32
  refine j_aload_n X 0 dX5_slide_18 rfl rfl ?_
  refine j_get X fG_RX5_13 hr_ rfl rfl dX5_slide_19 ?_
  refine j_iload_n X 1 dX5_slide_22 rfl rfl ?_
  refine j_aload_n X 0 dX5_slide_23 rfl rfl ?_
  refine j_get X fG_RX5_13 hr_ rfl rfl dX5_slide_24 ?_
  refine j_iload_n X 2 dX5_slide_27 rfl rfl ?_
  refine j_iload_n X 3 dX5_slide_28 rfl rfl ?_
  obtain ⟨a, b, hab, ea, eb⟩ := rFits_ok hn c_
  obtain ⟨a2, b2, hab2, ea2, eb2⟩ := rFits_ok hn c2_
  have k1 : i.toNatClampNeg = a := by rw [ea]; exact nI_clamp (by omega)
  have k2 : k.toNatClampNeg = b := by rw [eb]; exact nI_clamp (by omega)
  have k3 : j.toNatClampNeg = a2 := by rw [ea2]; exact nI_clamp (by omega)
  have k4 : k.toNatClampNeg = b2 := by rw [eb2]; exact nI_clamp (by omega)
  refine j_copyi X kM_RX5_29 hc_ rfl hc_ rfl (by rw [ea]; exact nI_pos (by omega)) (by rw [ea2]; exact nI_pos (by omega)) (by rw [eb]; exact nI_pos (by omega)) (by rw [k1, k2]; exact hab) (by rw [k3, k4]; exact hab2) ⟨Nat.le_of_ble_eq_true rfl, Nat.le_of_ble_eq_true rfl⟩ dX5_slide_29 ?_
  exact j_vret X hr rfl (by rw [rSlide, if_neg c_, if_neg c2_]) dX5_slide_32
set_option maxRecDepth 100000 in
theorem c_X5_copyFrom (l : Launch) {D : DD} {B z : Nat} {h : HF} {r c r2 c2 n : Nat} {f g : Nat → Int32} (hn : n < 1000000000) (hr_ : h r = some (rowE c)) (hc_ : h c = some (arrE D n f)) (hr2 : h r2 = some (rowE c2)) (hc2 : h c2 = some (arrE D n g)) : CT l yX5_copyFrom cX5_copyFrom 2 none 1 22 [.ref r, .ref r2] D B z h none 0 0 (hupd h c (arrE D n g)) := by
  refine CT.of (L := [(0, .ref r), (1, .ref r2)]) (by decide +kernel) (Nat.le_of_ble_eq_true rfl) rfl ?_
  intro P E S0 M0 AR BL ME CO X hr hnm
  refine j_aload_n X 1 dX5_copyFrom_0 rfl rfl ?_
  refine j_get X fG_RX5_13 hr2 rfl rfl dX5_copyFrom_1 ?_
  refine j_iconst X (v := 0) dX5_copyFrom_4 (by decide) ?_
  refine j_aload_n X 0 dX5_copyFrom_5 rfl rfl ?_
  refine j_get X fG_RX5_13 hr_ rfl rfl dX5_copyFrom_6 ?_
  refine j_iconst X (v := 0) dX5_copyFrom_9 (by decide) ?_
  refine j_aload_n X 0 dX5_copyFrom_10 rfl rfl ?_
  refine j_get X fG_RX5_13 hr_ rfl rfl dX5_copyFrom_11 ?_
  refine j_alen X (k := 0) (v := nI n) rfl hc_ rfl rfl dX5_copyFrom_14 ?_
  refine j_aload_n X 1 dX5_copyFrom_15 rfl rfl ?_
  refine j_get X fG_RX5_13 hr2 rfl rfl dX5_copyFrom_16 ?_
  refine j_alen X (k := 0) (v := nI n) rfl hc2 rfl rfl dX5_copyFrom_19 ?_
  refine j_mmin X kM_RX5_35 ⟨Nat.le_of_ble_eq_true rfl, Nat.le_of_ble_eq_true rfl, Nat.le_of_ble_eq_true rfl, Nat.le_of_ble_eq_true rfl⟩ dX5_copyFrom_20 ?_
  rw [if_neg Int32.lt_irrefl]
  have k1 : (nI n).toNatClampNeg = n := nI_clamp (by omega)
  have k0 : (0 : Int32).toNatClampNeg = 0 := rfl
  refine j_copyi X kM_RX5_29 hc2 rfl hc_ rfl (by decide) (by decide) (nI_pos (by omega)) (by rw [k1, k0]; omega) (by rw [k1, k0]; omega) ⟨Nat.le_of_ble_eq_true rfl, Nat.le_of_ble_eq_true rfl⟩ dX5_copyFrom_23 ?_
  refine j_recell (g := g) hupd_same (fun j hj => ?_) ?_
  · rw [k1, k0]
    unfold va_cpy
    rw [if_pos ⟨by omega, by omega⟩]
    congr 1
    omega
  exact j_vret X hr rfl hupd_hupd dX5_copyFrom_26
