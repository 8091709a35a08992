set_option maxRecDepth 100000 in
set_option maxHeartbeats 400000 in
theorem c_X10_keep (l : Launch) {D : DD} {B z : Nat} {h : HF} {b : Nat} {μ : Mo}  : CT l yX10_keep cX10_keep 2 (some .int) 0 0 [.ref b] D B z (mput D h b μ) (some (.int ((mKeep μ).1))) 0 0 (mput D h b ((mKeep μ).2)) := by
  refine CT.of (L := [(0, .ref b)]) (by decide +kernel) (Nat.le_of_ble_eq_true rfl) rfl ?_
  intro P E S0 M0 AR BL ME CO X hr hnm
  refine j_iconst X (v := 0) dX10_keep_0 (by decide) ?_
  refine j_istore_n X (L' := [(1, .int 0), (0, .ref b)]) dX10_keep_1 rfl (by decide) rfl ?_
  have loop2 : ∀ (n k : Nat), k + n = 1752 → J P l E { frames := 0, cells := 0, slots := 0, locals := 0 } S0 M0 AR BL ME CO D B 2 (MQ BL (QC (some (.int ((mKeep μ).1))) D B (z + 0) (mput D h b ((mKeep μ).2))) AR S0 0 0 (aB B)) 0 0 z (mput D h b (mar μ 2 (blk (μ.2 2) (μ.2 0) 0 k))) [(0, .ref b), (1, .int (nI k))] [] 2 := by
    intro n
    induction n with
    | zero =>
      intro k hk
      obtain rfl : k = 1752 := by omega
      refine j_iload_n X 1 dX10_keep_2 rfl rfl ?_
      refine j_sipush X (v := 1752) dX10_keep_3 (by decide) ?_
      refine j_icmp_ge X (tgt := 27) dX10_keep_6 (by decide) (fun c_6 => ?_) (fun c_6 => absurd c_6 (by decide))
      refine j_aload_n X 0 dX10_keep_27 rfl rfl ?_
      refine j_iconst X (v := 1) dX10_keep_28 (by decide) ?_
      refine j_put X fG_RX10_147 fW_10_4 mput_0 rfl rfl rfl (Nat.le_of_ble_eq_true rfl) dX10_keep_29 ?_
      refine j_heap (h' := mput D h b (msc (mar μ 2 (blk (μ.2 2) (μ.2 0) 0 1752)) 1 1)) mput_s1 ?_
      refine j_aload_n X 0 dX10_keep_32 rfl rfl ?_
      refine j_get X fG_RX10_7 mput_0 rfl rfl dX10_keep_33 ?_
      refine j_iconst X (v := 4) dX10_keep_36 (by decide) ?_
      refine j_ldM X (vp_in_nI (n := 4) (by decide) (by decide)) dX10_keep_37 ?_
      exact j_iret X hr rfl (by first | with_reducible rfl | (simp only [mKeep, mKeepS, if_neg c_6]; done) | (simp only [mKeep, mKeepS, if_neg c_6]; rfl) | rfl) rfl (by first | with_reducible rfl | (simp only [mKeep, mKeepS, if_neg c_6]; done) | (simp only [mKeep, mKeepS, if_neg c_6]; rfl) | rfl) dX10_keep_38
    | succ n ih =>
      intro k hk
      have hlt : nI k < 1752 := nlt_lit (b := 1752) (by omega) (by decide)
      refine j_iload_n X 1 dX10_keep_2 rfl rfl ?_
      refine j_sipush X (v := 1752) dX10_keep_3 (by decide) ?_
      refine j_icmp_ge X (tgt := 27) dX10_keep_6 (by decide) (fun c_6 => absurd hlt c_6) (fun c_6 => ?_)
      refine j_aload_n X 0 dX10_keep_9 rfl rfl ?_
      refine j_get X fG_RX10_16 mput_0 rfl rfl dX10_keep_10 ?_
      refine j_iload_n X 1 dX10_keep_13 rfl rfl ?_
      refine j_aload_n X 0 dX10_keep_14 rfl rfl ?_
      refine j_get X fG_RX10_7 mput_0 rfl rfl dX10_keep_15 ?_
      refine j_iload_n X 1 dX10_keep_18 rfl rfl ?_
      refine j_ldM X (vp_in_nI (by omega) (by decide)) dX10_keep_19 ?_
      refine j_iast X (mput_k 3 (by decide)) rfl (vp_in_nI (by omega) (by decide)) dX10_keep_20 ?_
      refine j_heap (h' := mput D h b (mar (mar μ 2 (blk (μ.2 2) (μ.2 0) 0 k)) 2 (upd ((mar μ 2 (blk (μ.2 2) (μ.2 0) 0 k)).2 2) (nI k).toNatClampNeg (now (mar μ 2 (blk (μ.2 2) (μ.2 0) 0 k)) (nI k))))) mput_a2 ?_
      obtain ⟨v1, ev1⟩ : ∃ y : Int32, (nI k) + 1 = y := ⟨_, rfl⟩
      refine j_iinc X 1 (k := 1) (v := v1) (L' := [(1, .int v1), (0, .ref b)]) dX10_keep_21 rfl (by decide) (by decide) ev1 rfl ?_
      refine j_goto X (tgt := 2) dX10_keep_24 (by decide) ?_
      refine j_sub [1, 0] (L' := [(0, .ref b), (1, .int (nI (k + 1)))]) (by subst ev1; first | with_reducible rfl | (simp only [nI_succ k, if_pos c_6]; done) | (simp only [nI_succ k, if_pos c_6]; rfl) | rfl) ?_
      refine j_heap (h' := mput D h b (mar μ 2 (blk (μ.2 2) (μ.2 0) 0 (k + 1)))) (congrArg (mput D h b) (cp_at (a := 2) (by rw [nI_clamp (by omega)]; omega) (by rw [now_nI (by omega)]; rfl))) ?_
      exact ih (k + 1) (by omega)
  refine j_sub [1, 0] (L' := [(0, .ref b), (1, .int (nI 0))]) (by first | with_reducible rfl | (simp only []; done) | (simp only []; rfl) | rfl) ?_
  refine j_heap (h' := mput D h b (mar μ 2 (blk (μ.2 2) (μ.2 0) 0 0))) (congrArg (mput D h b) cp_0) ?_
  exact loop2 1752 0 rfl
set_option maxRecDepth 100000 in
set_option maxHeartbeats 400000 in
theorem c_X10_undo (l : Launch) {D : DD} {B z : Nat} {h : HF} {b : Nat} {μ : Mo} {q : Nat} (hq : q ≤ 4) (eq : μ.1 0 = nI q)  : CT l yX10_undo cX10_undo 2 (some .int) 0 0 [.ref b] D B z (mput D h b μ) (some (.int ((mUndo μ).1))) 0 0 (mput D h b ((mUndo μ).2)) := by
  refine CT.of (L := [(0, .ref b)]) (by decide +kernel) (Nat.le_of_ble_eq_true rfl) rfl ?_
  intro P E S0 M0 AR BL ME CO X hr hnm
  refine j_aload_n X 0 dX10_undo_0 rfl rfl ?_
  refine j_get X fG_RX10_40 mput_0 rfl rfl dX10_undo_1 ?_
  refine j_if_ne X (tgt := 10) dX10_undo_4 (by decide) (fun c_4 => ?_) (fun c_4 => ?_)
  · have hq1 : q - 1 ≤ 3 := by omega
    have eq1 : μ.1 0 - 1 = nI (q - 1) := by
      cases q with
      | zero => exact absurd eq c_4
      | succ q => rw [eq]; exact nI_pred q
    refine j_aload_n X 0 dX10_undo_10 rfl rfl ?_
    refine j_dup X dX10_undo_11 rfl ?_
    refine j_get X fG_RX10_40 mput_0 rfl rfl dX10_undo_12 ?_
    refine j_iconst X (v := 1) dX10_undo_15 (by decide) ?_
    refine j_isub X dX10_undo_16 ?_
    refine j_put X fG_RX10_40 fW_10_2 mput_0 rfl rfl rfl (Nat.le_of_ble_eq_true rfl) dX10_undo_17 ?_
    refine j_heap (h' := mput D h b (msc μ 0 ((μ.1 0) - 1))) mput_s0 ?_
    refine j_iconst X (v := 0) dX10_undo_20 (by decide) ?_
    refine j_istore_n X (L' := [(1, .int 0), (0, .ref b)]) dX10_undo_21 rfl (by decide) rfl ?_
    have loop22 : ∀ (n k : Nat), k + n = 1752 → J P l E { frames := 0, cells := 0, slots := 0, locals := 0 } S0 M0 AR BL ME CO D B 2 (MQ BL (QC (some (.int ((mUndo μ).1))) D B (z + 0) (mput D h b ((mUndo μ).2))) AR S0 0 0 (aB B)) 0 0 z (mput D h b (mar (msc μ 0 ((μ.1 0) - 1)) 0 (blk ((msc μ 0 ((μ.1 0) - 1)).2 0) (fun j => μ.2 1 (1752 * (μ.1 0 - 1).toNatClampNeg + j)) 0 k))) [(0, .ref b), (1, .int (nI k))] [] 22 := by
      intro n
      induction n with
      | zero =>
        intro k hk
        obtain rfl : k = 1752 := by omega
        refine j_iload_n X 1 dX10_undo_22 rfl rfl ?_
        refine j_sipush X (v := 1752) dX10_undo_23 (by decide) ?_
        refine j_icmp_ge X (tgt := 56) dX10_undo_26 (by decide) (fun c_26 => ?_) (fun c_26 => absurd c_26 (by decide))
        refine j_aload_n X 0 dX10_undo_56 rfl rfl ?_
        refine j_get X fG_RX10_40 mput_0 rfl rfl dX10_undo_57 ?_
        exact j_iret X hr rfl (by first | with_reducible rfl | (simp only [mUndo, mUndoS, if_neg c_4, if_neg c_26]; done) | (simp only [mUndo, mUndoS, if_neg c_4, if_neg c_26]; rfl) | rfl) rfl (by first | with_reducible rfl | (simp only [mUndo, mUndoS, if_neg c_4, if_neg c_26]; done) | (simp only [mUndo, mUndoS, if_neg c_4, if_neg c_26]; rfl) | rfl) dX10_undo_60
      | succ n ih =>
        intro k hk
        have hlt : nI k < 1752 := nlt_lit (b := 1752) (by omega) (by decide)
        refine j_iload_n X 1 dX10_undo_22 rfl rfl ?_
        refine j_sipush X (v := 1752) dX10_undo_23 (by decide) ?_
        refine j_icmp_ge X (tgt := 56) dX10_undo_26 (by decide) (fun c_26 => absurd hlt c_26) (fun c_26 => ?_)
        refine j_aload_n X 0 dX10_undo_29 rfl rfl ?_
        refine j_get X fG_RX10_7 mput_0 rfl rfl dX10_undo_30 ?_
        refine j_iload_n X 1 dX10_undo_33 rfl rfl ?_
        refine j_aload_n X 0 dX10_undo_34 rfl rfl ?_
        refine j_get X fG_RX10_13 mput_0 rfl rfl dX10_undo_35 ?_
        refine j_sipush X (v := 1752) dX10_undo_38 (by decide) ?_
        refine j_aload_n X 0 dX10_undo_41 rfl rfl ?_
        refine j_get X fG_RX10_40 mput_0 rfl rfl dX10_undo_42 ?_
        refine j_imul X dX10_undo_45 ?_
        refine j_iload_n X 1 dX10_undo_46 rfl rfl ?_
        refine j_iadd X dX10_undo_47 ?_
        refine j_iald X (mput_k 2 (by decide)) rfl (by show vp_in (1752 * (μ.1 0 - 1) + nI k) 7008; rw [eq1]; exact in_rec hq1 (by omega)) dX10_undo_48 ?_
        refine j_stM X (vp_in_nI (by omega) (by decide)) dX10_undo_49 ?_
        obtain ⟨v1, ev1⟩ : ∃ y : Int32, (nI k) + 1 = y := ⟨_, rfl⟩
        refine j_iinc X 1 (k := 1) (v := v1) (L' := [(1, .int v1), (0, .ref b)]) dX10_undo_50 rfl (by decide) (by decide) ev1 rfl ?_
        refine j_goto X (tgt := 22) dX10_undo_53 (by decide) ?_
        refine j_sub [1, 0] (L' := [(0, .ref b), (1, .int (nI (k + 1)))]) (by subst ev1; first | with_reducible rfl | (simp only [nI_succ k, if_neg c_4, if_pos c_26]; done) | (simp only [nI_succ k, if_neg c_4, if_pos c_26]; rfl) | rfl) ?_
        refine j_heap (h' := mput D h b (mar (msc μ 0 ((μ.1 0) - 1)) 0 (blk ((msc μ 0 ((μ.1 0) - 1)).2 0) (fun j => μ.2 1 (1752 * (μ.1 0 - 1).toNatClampNeg + j)) 0 (k + 1)))) (congrArg (mput D h b) (cp_at (a := 0) (by rw [nI_clamp (by omega)]; omega) (by show μ.2 1 (1752 * (μ.1 0 - 1) + nI k).toNatClampNeg = μ.2 1 (1752 * (μ.1 0 - 1).toNatClampNeg + k); rw [eq1, ix_rec hq1 (by omega), nI_clamp (by omega)]))) ?_
        exact ih (k + 1) (by omega)
    refine j_sub [1, 0] (L' := [(0, .ref b), (1, .int (nI 0))]) (by first | with_reducible rfl | (simp only [if_neg c_4]; done) | (simp only [if_neg c_4]; rfl) | rfl) ?_
    refine j_heap (h' := mput D h b (mar (msc μ 0 ((μ.1 0) - 1)) 0 (blk ((msc μ 0 ((μ.1 0) - 1)).2 0) (fun j => μ.2 1 (1752 * (μ.1 0 - 1).toNatClampNeg + j)) 0 0))) (congrArg (mput D h b) cp_0) ?_
    exact loop22 1752 0 rfl
  · refine j_bipush X (v := (-4)) dX10_undo_7 (by decide) ?_
    exact j_iret X hr rfl (by first | with_reducible rfl | (simp only [mUndo, mUndoS, if_pos c_4]; done) | (simp only [mUndo, mUndoS, if_pos c_4]; rfl) | rfl) rfl (by first | with_reducible rfl | (simp only [mUndo, mUndoS, if_pos c_4]; done) | (simp only [mUndo, mUndoS, if_pos c_4]; rfl) | rfl) dX10_undo_9
set_option maxRecDepth 100000 in
set_option maxHeartbeats 400000 in
theorem c_X10_restore (l : Launch) {D : DD} {B z : Nat} {h : HF} {b : Nat} {μ : Mo} {q : Nat} (hq : q ≤ 4) (eq : μ.1 0 = nI q)  : CT l yX10_restore cX10_restore 2 (some .int) 1 21 [.ref b] D B z (mput D h b μ) (some (.int ((mRestore μ).1))) 0 0 (mput D h b ((mRestore μ).2)) := by
  refine CT.of (L := [(0, .ref b)]) (by decide +kernel) (Nat.le_of_ble_eq_true rfl) rfl ?_
  intro P E S0 M0 AR BL ME CO X hr hnm
  refine j_aload_n X 0 dX10_restore_0 rfl rfl ?_
  refine j_get X fG_RX10_147 mput_0 rfl rfl dX10_restore_1 ?_
  refine j_if_ne X (tgt := 10) dX10_restore_4 (by decide) (fun c_4 => ?_) (fun c_4 => ?_)
  · refine j_aload_n X 0 dX10_restore_10 rfl rfl ?_
    refine j_callVv X (rest := []) (c_X10_record l hq eq) m_yX10_record kM_RX10_55 mput_0 rfl rfl rfl rfl rfl (Nat.le_of_ble_eq_true rfl) ⟨Nat.le_of_ble_eq_true rfl, Nat.le_of_ble_eq_true rfl, Nat.le_of_ble_eq_true rfl, Nat.le_of_ble_eq_true rfl⟩ dX10_restore_11 ?_
    refine j_iconst X (v := 0) dX10_restore_14 (by decide) ?_
    refine j_istore_n X (L' := [(1, .int 0), (0, .ref b)]) dX10_restore_15 rfl (by decide) rfl ?_
    have loop16 : ∀ (n k : Nat), k + n = 1752 → J P l E { frames := 1, cells := 0, slots := 0, locals := 21 } S0 M0 AR BL ME CO D B 2 (MQ BL (QC (some (.int ((mRestore μ).1))) D B (z + 0) (mput D h b ((mRestore μ).2))) AR S0 0 0 (aB B)) 0 0 z (mput D h b (mar (mRec μ) 0 (blk ((mRec μ).2 0) ((mRec μ).2 2) 0 k))) [(0, .ref b), (1, .int (nI k))] [] 16 := by
      intro n
      induction n with
      | zero =>
        intro k hk
        obtain rfl : k = 1752 := by omega
        refine j_iload_n X 1 dX10_restore_16 rfl rfl ?_
        refine j_sipush X (v := 1752) dX10_restore_17 (by decide) ?_
        refine j_icmp_ge X (tgt := 41) dX10_restore_20 (by decide) (fun c_20 => ?_) (fun c_20 => absurd c_20 (by decide))
        refine j_aload_n X 0 dX10_restore_41 rfl rfl ?_
        refine j_get X fG_RX10_7 mput_0 rfl rfl dX10_restore_42 ?_
        refine j_iconst X (v := 4) dX10_restore_45 (by decide) ?_
        refine j_ldM X (vp_in_nI (n := 4) (by decide) (by decide)) dX10_restore_46 ?_
        exact j_iret X hr rfl (by first | with_reducible rfl | (simp only [mRestore, mRestS, if_neg c_4, if_neg c_20]; done) | (simp only [mRestore, mRestS, if_neg c_4, if_neg c_20]; rfl) | rfl) rfl (by first | with_reducible rfl | (simp only [mRestore, mRestS, if_neg c_4, if_neg c_20]; done) | (simp only [mRestore, mRestS, if_neg c_4, if_neg c_20]; rfl) | rfl) dX10_restore_47
      | succ n ih =>
        intro k hk
        have hlt : nI k < 1752 := nlt_lit (b := 1752) (by omega) (by decide)
        refine j_iload_n X 1 dX10_restore_16 rfl rfl ?_
        refine j_sipush X (v := 1752) dX10_restore_17 (by decide) ?_
        refine j_icmp_ge X (tgt := 41) dX10_restore_20 (by decide) (fun c_20 => absurd hlt c_20) (fun c_20 => ?_)
        refine j_aload_n X 0 dX10_restore_23 rfl rfl ?_
        refine j_get X fG_RX10_7 mput_0 rfl rfl dX10_restore_24 ?_
        refine j_iload_n X 1 dX10_restore_27 rfl rfl ?_
        refine j_aload_n X 0 dX10_restore_28 rfl rfl ?_
        refine j_get X fG_RX10_16 mput_0 rfl rfl dX10_restore_29 ?_
        refine j_iload_n X 1 dX10_restore_32 rfl rfl ?_
        refine j_iald X (mput_k 3 (by decide)) rfl (vp_in_nI (by omega) (by decide)) dX10_restore_33 ?_
        refine j_stM X (vp_in_nI (by omega) (by decide)) dX10_restore_34 ?_
        obtain ⟨v1, ev1⟩ : ∃ y : Int32, (nI k) + 1 = y := ⟨_, rfl⟩
        refine j_iinc X 1 (k := 1) (v := v1) (L' := [(1, .int v1), (0, .ref b)]) dX10_restore_35 rfl (by decide) (by decide) ev1 rfl ?_
        refine j_goto X (tgt := 16) dX10_restore_38 (by decide) ?_
        refine j_sub [1, 0] (L' := [(0, .ref b), (1, .int (nI (k + 1)))]) (by subst ev1; first | with_reducible rfl | (simp only [nI_succ k, if_neg c_4, if_pos c_20]; done) | (simp only [nI_succ k, if_neg c_4, if_pos c_20]; rfl) | rfl) ?_
        refine j_heap (h' := mput D h b (mar (mRec μ) 0 (blk ((mRec μ).2 0) ((mRec μ).2 2) 0 (k + 1)))) (congrArg (mput D h b) (cp_at (a := 0) (by rw [nI_clamp (by omega)]; omega) (by rw [nI_clamp (by omega)]; rfl))) ?_
        exact ih (k + 1) (by omega)
    refine j_sub [1, 0] (L' := [(0, .ref b), (1, .int (nI 0))]) (by first | with_reducible rfl | (simp only [if_neg c_4]; done) | (simp only [if_neg c_4]; rfl) | rfl) ?_
    refine j_heap (h' := mput D h b (mar (mRec μ) 0 (blk ((mRec μ).2 0) ((mRec μ).2 2) 0 0))) (congrArg (mput D h b) cp_0) ?_
    exact loop16 1752 0 rfl
  · refine j_bipush X (v := (-4)) dX10_restore_7 (by decide) ?_
    exact j_iret X hr rfl (by first | with_reducible rfl | (simp only [mRestore, mRestS, if_pos c_4]; done) | (simp only [mRestore, mRestS, if_pos c_4]; rfl) | rfl) rfl (by first | with_reducible rfl | (simp only [mRestore, mRestS, if_pos c_4]; done) | (simp only [mRestore, mRestS, if_pos c_4]; rfl) | rfl) dX10_restore_9
set_option maxRecDepth 100000 in
set_option maxHeartbeats 400000 in
theorem c_X10_wouldGo (l : Launch) {D : DD} {B z : Nat} {h : HF} {b : Nat} {μ : Mo} {p s d : Int32} (hI : MIv μ)  : CT l yX10_wouldGo cX10_wouldGo 6 (some .int) 4 99 [.ref b, .int p, .int s, .int d] D B z (mput D h b μ) (some (.int ((mWouldGo μ p s d).1))) 0 0 (mput D h b ((mWouldGo μ p s d).2)) := by
  refine CT.of (L := [(0, .ref b), (1, .int p), (2, .int s), (3, .int d)]) (by decide +kernel) (Nat.le_of_ble_eq_true rfl) rfl ?_
  intro P E S0 M0 AR BL ME CO X hr hnm
  refine j_iload_n X 1 dX10_wouldGo_0 rfl rfl ?_
  refine j_callSi X (rest := []) (c_X10_noPort l) m_yX10_noPort kM_RX10_52 rfl rfl (Nat.le_of_ble_eq_true rfl) ⟨Nat.le_of_ble_eq_true rfl, Nat.le_of_ble_eq_true rfl, Nat.le_of_ble_eq_true rfl, Nat.le_of_ble_eq_true rfl⟩ dX10_wouldGo_1 ?_
  refine j_if_eq X (tgt := 9) dX10_wouldGo_4 (by decide) (fun c_4 => ?_) (fun c_4 => ?_)
  · have hp : PO p := po_of c_4
    refine j_iload_n X 2 dX10_wouldGo_9 rfl rfl ?_
    refine j_callSi X (rest := []) (c_X10_noAddress l) m_yX10_noAddress kM_RX10_106 rfl rfl (Nat.le_of_ble_eq_true rfl) ⟨Nat.le_of_ble_eq_true rfl, Nat.le_of_ble_eq_true rfl, Nat.le_of_ble_eq_true rfl, Nat.le_of_ble_eq_true rfl⟩ dX10_wouldGo_10 ?_
    refine j_if_ne X (tgt := 26) dX10_wouldGo_13 (by decide) (fun c_13 => ?_) (fun c_13 => ?_)
    · refine j_bipush X (v := (-2)) dX10_wouldGo_26 (by decide) ?_
      exact j_iret X hr rfl (by first | with_reducible rfl | (simp only [mWouldGo, if_pos c_4, if_neg c_13]; done) | (simp only [mWouldGo, if_pos c_4, if_neg c_13]; rfl) | rfl) rfl (by first | with_reducible rfl | (simp only [mWouldGo, if_pos c_4, if_neg c_13]; done) | (simp only [mWouldGo, if_pos c_4, if_neg c_13]; rfl) | rfl) dX10_wouldGo_28
    · have hs : AD s := ad_of c_13
      refine j_iload_n X 3 dX10_wouldGo_16 rfl rfl ?_
      refine j_iconst X (v := 0) dX10_wouldGo_17 (by decide) ?_
      refine j_bipush X (v := 99) dX10_wouldGo_18 (by decide) ?_
      refine j_callSi X (rest := []) (c_X10_in l) m_yX10_in kM_RX10_36 rfl rfl (Nat.le_of_ble_eq_true rfl) ⟨Nat.le_of_ble_eq_true rfl, Nat.le_of_ble_eq_true rfl, Nat.le_of_ble_eq_true rfl, Nat.le_of_ble_eq_true rfl⟩ dX10_wouldGo_20 ?_
      refine j_if_ne X (tgt := 29) dX10_wouldGo_23 (by decide) (fun c_23 => ?_) (fun c_23 => ?_)
      · have hd : AD d := ad_in (Or.inl rfl) c_23
        refine j_iconst X (v := 0) dX10_wouldGo_29 (by decide) ?_
        refine j_istore X (L' := [(4, .int 0), (0, .ref b), (1, .int p), (2, .int s), (3, .int d)]) dX10_wouldGo_30 (by decide) rfl ?_
        have loop32 : ∀ (n k : Nat), k + n = 1752 → J P l E { frames := 4, cells := 0, slots := 0, locals := 99 } S0 M0 AR BL ME CO D B 6 (MQ BL (QC (some (.int ((mWouldGo μ p s d).1))) D B (z + 0) (mput D h b ((mWouldGo μ p s d).2))) AR S0 0 0 (aB B)) 0 0 z (mput D h b (mar μ 3 (blk (μ.2 3) (μ.2 0) 0 k))) [(0, .ref b), (1, .int p), (2, .int s), (3, .int d), (4, .int (nI k))] [] 32 := by
          intro n
          induction n with
          | zero =>
            intro k hk
            obtain rfl : k = 1752 := by omega
            refine j_iload X 4 dX10_wouldGo_32 rfl ?_
            refine j_sipush X (v := 1752) dX10_wouldGo_34 (by decide) ?_
            refine j_icmp_ge X (tgt := 60) dX10_wouldGo_37 (by decide) (fun c_37 => ?_) (fun c_37 => absurd c_37 (by decide))
            refine j_heap (h' := mput D h b (mSp μ)) rfl ?_
            refine j_aload_n X 0 dX10_wouldGo_60 rfl rfl ?_
            refine j_iload_n X 1 dX10_wouldGo_61 rfl rfl ?_
            refine j_iload_n X 2 dX10_wouldGo_62 rfl rfl ?_
            refine j_iload_n X 3 dX10_wouldGo_63 rfl rfl ?_
            refine j_iconst X (v := 0) dX10_wouldGo_64 (by decide) ?_
            refine j_callVi X (rest := []) (c_X10_comesIn l hp hs hd (mi_sp hI)) m_yX10_comesIn kM_RX10_109 mput_0 rfl rfl rfl rfl rfl (Nat.le_of_ble_eq_true rfl) ⟨Nat.le_of_ble_eq_true rfl, Nat.le_of_ble_eq_true rfl, Nat.le_of_ble_eq_true rfl, Nat.le_of_ble_eq_true rfl⟩ dX10_wouldGo_65 ?_
            obtain ⟨ν, hν⟩ : ∃ ν : Mo, ((mCome (mSp μ) p s d 0).2) = ν := ⟨_, rfl⟩
            refine j_heap (h' := mput D h b ν) (congrArg (mput D h b) hν) ?_
            refine j_tops (fun v1 ev1 => ?_)
            refine j_istore X (L' := [(4, .int v1), (0, .ref b), (1, .int p), (2, .int s), (3, .int d)]) dX10_wouldGo_68 (by decide) rfl ?_
            refine j_iconst X (v := 0) dX10_wouldGo_70 (by decide) ?_
            refine j_istore X (L' := [(5, .int 0), (4, .int v1), (0, .ref b), (1, .int p), (2, .int s), (3, .int d)]) dX10_wouldGo_71 (by decide) rfl ?_
            have loop73 : ∀ (n k : Nat), k + n = 1752 → J P l E { frames := 4, cells := 0, slots := 0, locals := 99 } S0 M0 AR BL ME CO D B 6 (MQ BL (QC (some (.int ((mWouldGo μ p s d).1))) D B (z + 0) (mput D h b ((mWouldGo μ p s d).2))) AR S0 0 0 (aB B)) 0 0 z (mput D h b (mar ν 0 (blk (ν.2 0) (ν.2 3) 0 k))) [(0, .ref b), (1, .int p), (2, .int s), (3, .int d), (4, .int v1), (5, .int (nI k))] [] 73 := by
              intro n
              induction n with
              | zero =>
                intro k hk
                obtain rfl : k = 1752 := by omega
                refine j_iload X 5 dX10_wouldGo_73 rfl ?_
                refine j_sipush X (v := 1752) dX10_wouldGo_75 (by decide) ?_
                refine j_icmp_ge X (tgt := 101) dX10_wouldGo_78 (by decide) (fun c_78 => ?_) (fun c_78 => absurd c_78 (by decide))
                refine j_heap (h' := mput D h b (mUn ν)) rfl ?_
                refine j_aload_n X 0 dX10_wouldGo_101 rfl rfl ?_
                refine j_get X fG_RX10_87 mput_0 rfl rfl dX10_wouldGo_102 ?_
                exact j_iret X hr rfl (by subst ev1 hν; first | with_reducible rfl | (simp only [mWouldGo, if_pos c_4, if_pos c_13, if_neg c_23, if_neg c_37, if_neg c_78]; done) | (simp only [mWouldGo, if_pos c_4, if_pos c_13, if_neg c_23, if_neg c_37, if_neg c_78]; rfl) | rfl) rfl (by subst ev1 hν; first | with_reducible rfl | (simp only [mWouldGo, if_pos c_4, if_pos c_13, if_neg c_23, if_neg c_37, if_neg c_78]; done) | (simp only [mWouldGo, if_pos c_4, if_pos c_13, if_neg c_23, if_neg c_37, if_neg c_78]; rfl) | rfl) dX10_wouldGo_105
              | succ n ih =>
                intro k hk
                have hlt : nI k < 1752 := nlt_lit (b := 1752) (by omega) (by decide)
                refine j_iload X 5 dX10_wouldGo_73 rfl ?_
                refine j_sipush X (v := 1752) dX10_wouldGo_75 (by decide) ?_
                refine j_icmp_ge X (tgt := 101) dX10_wouldGo_78 (by decide) (fun c_78 => absurd hlt c_78) (fun c_78 => ?_)
                refine j_aload_n X 0 dX10_wouldGo_81 rfl rfl ?_
                refine j_get X fG_RX10_7 mput_0 rfl rfl dX10_wouldGo_82 ?_
                refine j_iload X 5 dX10_wouldGo_85 rfl ?_
                refine j_aload_n X 0 dX10_wouldGo_87 rfl rfl ?_
                refine j_get X fG_RX10_19 mput_0 rfl rfl dX10_wouldGo_88 ?_
                refine j_iload X 5 dX10_wouldGo_91 rfl ?_
                refine j_iald X (mput_k 4 (by decide)) rfl (vp_in_nI (by omega) (by decide)) dX10_wouldGo_93 ?_
                refine j_stM X (vp_in_nI (by omega) (by decide)) dX10_wouldGo_94 ?_
                obtain ⟨v2, ev2⟩ : ∃ y : Int32, (nI k) + 1 = y := ⟨_, rfl⟩
                refine j_iinc X 5 (k := 1) (v := v2) (L' := [(5, .int v2), (0, .ref b), (1, .int p), (2, .int s), (3, .int d), (4, .int v1)]) dX10_wouldGo_95 rfl (by decide) (by decide) ev2 rfl ?_
                refine j_goto X (tgt := 73) dX10_wouldGo_98 (by decide) ?_
                refine j_sub [1, 2, 3, 4, 5, 0] (L' := [(0, .ref b), (1, .int p), (2, .int s), (3, .int d), (4, .int v1), (5, .int (nI (k + 1)))]) (by subst ev2 ev1 hν; first | with_reducible rfl | (simp only [nI_succ k, if_pos c_4, if_pos c_13, if_neg c_23, if_neg c_37, if_pos c_78]; done) | (simp only [nI_succ k, if_pos c_4, if_pos c_13, if_neg c_23, if_neg c_37, if_pos c_78]; rfl) | rfl) ?_
                refine j_heap (h' := mput D h b (mar ν 0 (blk (ν.2 0) (ν.2 3) 0 (k + 1)))) (congrArg (mput D h b) (cp_at (a := 0) (by rw [nI_clamp (by omega)]; omega) (by rw [nI_clamp (by omega)]; rfl))) ?_
                exact ih (k + 1) (by omega)
            refine j_sub [2, 3, 4, 5, 1, 0] (L' := [(0, .ref b), (1, .int p), (2, .int s), (3, .int d), (4, .int v1), (5, .int (nI 0))]) (by subst ev1 hν; first | with_reducible rfl | (simp only [if_pos c_4, if_pos c_13, if_neg c_23, if_neg c_37]; done) | (simp only [if_pos c_4, if_pos c_13, if_neg c_23, if_neg c_37]; rfl) | rfl) ?_
            refine j_heap (h' := mput D h b (mar ν 0 (blk (ν.2 0) (ν.2 3) 0 0))) (congrArg (mput D h b) cp_0) ?_
            exact loop73 1752 0 rfl
          | succ n ih =>
            intro k hk
            have hlt : nI k < 1752 := nlt_lit (b := 1752) (by omega) (by decide)
            refine j_iload X 4 dX10_wouldGo_32 rfl ?_
            refine j_sipush X (v := 1752) dX10_wouldGo_34 (by decide) ?_
            refine j_icmp_ge X (tgt := 60) dX10_wouldGo_37 (by decide) (fun c_37 => absurd hlt c_37) (fun c_37 => ?_)
            refine j_aload_n X 0 dX10_wouldGo_40 rfl rfl ?_
            refine j_get X fG_RX10_19 mput_0 rfl rfl dX10_wouldGo_41 ?_
            refine j_iload X 4 dX10_wouldGo_44 rfl ?_
            refine j_aload_n X 0 dX10_wouldGo_46 rfl rfl ?_
            refine j_get X fG_RX10_7 mput_0 rfl rfl dX10_wouldGo_47 ?_
            refine j_iload X 4 dX10_wouldGo_50 rfl ?_
            refine j_ldM X (vp_in_nI (by omega) (by decide)) dX10_wouldGo_52 ?_
            refine j_iast X (mput_k 4 (by decide)) rfl (vp_in_nI (by omega) (by decide)) dX10_wouldGo_53 ?_
            refine j_heap (h' := mput D h b (mar (mar μ 3 (blk (μ.2 3) (μ.2 0) 0 k)) 3 (upd ((mar μ 3 (blk (μ.2 3) (μ.2 0) 0 k)).2 3) (nI k).toNatClampNeg (now (mar μ 3 (blk (μ.2 3) (μ.2 0) 0 k)) (nI k))))) mput_a3 ?_
            obtain ⟨v3, ev3⟩ : ∃ y : Int32, (nI k) + 1 = y := ⟨_, rfl⟩
            refine j_iinc X 4 (k := 1) (v := v3) (L' := [(4, .int v3), (0, .ref b), (1, .int p), (2, .int s), (3, .int d)]) dX10_wouldGo_54 rfl (by decide) (by decide) ev3 rfl ?_
            refine j_goto X (tgt := 32) dX10_wouldGo_57 (by decide) ?_
            refine j_sub [1, 2, 3, 4, 0] (L' := [(0, .ref b), (1, .int p), (2, .int s), (3, .int d), (4, .int (nI (k + 1)))]) (by subst ev3; first | with_reducible rfl | (simp only [nI_succ k, if_pos c_4, if_pos c_13, if_neg c_23, if_pos c_37]; done) | (simp only [nI_succ k, if_pos c_4, if_pos c_13, if_neg c_23, if_pos c_37]; rfl) | rfl) ?_
            refine j_heap (h' := mput D h b (mar μ 3 (blk (μ.2 3) (μ.2 0) 0 (k + 1)))) (congrArg (mput D h b) (cp_at (a := 3) (by rw [nI_clamp (by omega)]; omega) (by rw [now_nI (by omega)]; rfl))) ?_
            exact ih (k + 1) (by omega)
        refine j_sub [1, 2, 3, 4, 0] (L' := [(0, .ref b), (1, .int p), (2, .int s), (3, .int d), (4, .int (nI 0))]) (by first | with_reducible rfl | (simp only [if_pos c_4, if_pos c_13, if_neg c_23]; done) | (simp only [if_pos c_4, if_pos c_13, if_neg c_23]; rfl) | rfl) ?_
        refine j_heap (h' := mput D h b (mar μ 3 (blk (μ.2 3) (μ.2 0) 0 0))) (congrArg (mput D h b) cp_0) ?_
        exact loop32 1752 0 rfl
      · refine j_bipush X (v := (-2)) dX10_wouldGo_26 (by decide) ?_
        exact j_iret X hr rfl (by first | with_reducible rfl | (simp only [mWouldGo, if_pos c_4, if_pos c_13, if_pos c_23]; done) | (simp only [mWouldGo, if_pos c_4, if_pos c_13, if_pos c_23]; rfl) | rfl) rfl (by first | with_reducible rfl | (simp only [mWouldGo, if_pos c_4, if_pos c_13, if_pos c_23]; done) | (simp only [mWouldGo, if_pos c_4, if_pos c_13, if_pos c_23]; rfl) | rfl) dX10_wouldGo_28
  · refine j_iconst X (v := (-1)) dX10_wouldGo_7 (by decide) ?_
    exact j_iret X hr rfl (by first | with_reducible rfl | (simp only [mWouldGo, if_neg c_4]; done) | (simp only [mWouldGo, if_neg c_4]; rfl) | rfl) rfl (by first | with_reducible rfl | (simp only [mWouldGo, if_neg c_4]; done) | (simp only [mWouldGo, if_neg c_4]; rfl) | rfl) dX10_wouldGo_8
