set_option maxRecDepth 100000 in
set_option maxHeartbeats 8000000 in
theorem c_X9_readFrames (l : Launch) {D : DD} {B z : Nat} {h : HF} {b : Nat} {S : Sy} {nx : Nat} (hnx : nx < 4) (enx : S.2.1 1 = nI nx){m : Nat} (hm : m ≤ 70) (em : S.2.1 3 = nI m) : CT l yX9_readFrames cX9_readFrames 2 (some .int) 6 148 [.ref b] D B z (xput D h b S) (some (.int ((xReadFrames nx S).1))) 0 0 (xput D h b ((xReadFrames nx S).2)) := by
  refine CT.of (L := [(0, .ref b)]) (by decide +kernel) (Nat.le_of_ble_eq_true rfl) rfl ?_
  intro P E S0 M0 AR BL ME CO X hr hnm
  refine j_aload_n X 0 dX9_readFrames_0 rfl rfl ?_
  refine j_get X fG_RX9_32 xput_0 rfl rfl dX9_readFrames_1 ?_
  refine j_aload_n X 0 dX9_readFrames_4 rfl rfl ?_
  refine j_get X fG_RX9_39 xput_0 rfl rfl dX9_readFrames_5 ?_
  refine j_callVi X (rest := []) (c_X8_readInto l hm em) m_yX8_readInto kM_RX9_156 (xput_k 206 (by decide)) rfl rfl rfl rfl rfl (Nat.le_of_ble_eq_true rfl) ⟨Nat.le_of_ble_eq_true rfl, Nat.le_of_ble_eq_true rfl, Nat.le_of_ble_eq_true rfl, Nat.le_of_ble_eq_true rfl⟩ dX9_readFrames_8 ?_
  refine j_tops (fun v1 ev1 => ?_)
  refine j_istore_n X (L' := [(1, .int v1), (0, .ref b)]) dX9_readFrames_11 rfl (by decide) rfl ?_
  refine j_iload_n X 0 dX9_readFrames_12 rfl rfl ?_
  refine j_iconst X (v := (-1)) dX9_readFrames_13 (by decide) ?_
  refine j_icmp_eq X (tgt := 22) dX9_readFrames_14 (by decide) (fun c_14 => ?_) (fun c_14 => ?_)
  · have enx : (tRead S).2.2.1 1 = nI nx := by rw [tRead_nx]; exact enx
    refine j_aload_n X 1 dX9_readFrames_22 rfl rfl ?_
    refine j_get X fG_RX9_25 xput_0 rfl rfl dX9_readFrames_23 ?_
    refine j_aload_n X 1 dX9_readFrames_26 rfl rfl ?_
    refine j_get X fG_RX9_10 xput_0 rfl rfl dX9_readFrames_27 ?_
    refine j_callVv X (rest := []) (c_X1_record l hnx enx) m_yX1_record kM_RX9_56 (xput_k 88 (by decide)) rfl rfl rfl rfl rfl (Nat.le_of_ble_eq_true rfl) ⟨Nat.le_of_ble_eq_true rfl, Nat.le_of_ble_eq_true rfl, Nat.le_of_ble_eq_true rfl, Nat.le_of_ble_eq_true rfl⟩ dX9_readFrames_30 ?_
    refine j_aload_n X 1 dX9_readFrames_33 rfl rfl ?_
    refine j_get X fG_RX9_10 xput_0 rfl rfl dX9_readFrames_34 ?_
    refine j_aload_n X 1 dX9_readFrames_37 rfl rfl ?_
    refine j_get X fG_RX9_39 xput_0 rfl rfl dX9_readFrames_38 ?_
    refine j_callVi X (rest := []) (c_X6_letIn l) m_yX6_letIn kM_RX9_142 (xput_k 1 (by decide)) rfl rfl rfl rfl rfl (Nat.le_of_ble_eq_true rfl) ⟨Nat.le_of_ble_eq_true rfl, Nat.le_of_ble_eq_true rfl, Nat.le_of_ble_eq_true rfl, Nat.le_of_ble_eq_true rfl⟩ dX9_readFrames_41 ?_
    exact j_iret X hr rfl (by subst ev1; first | with_reducible rfl | (simp only [xReadFrames, if_pos c_14]; done) | (simp only [xReadFrames, if_pos c_14]; rfl) | rfl) rfl (by subst ev1; first | with_reducible rfl | (simp only [xReadFrames, if_pos c_14]; done) | (simp only [xReadFrames, if_pos c_14]; rfl) | rfl) dX9_readFrames_44
  · refine j_bipush X (v := (-100)) dX9_readFrames_17 (by decide) ?_
    refine j_iload_n X 0 dX9_readFrames_19 rfl rfl ?_
    refine j_isub X dX9_readFrames_20 ?_
    exact j_iret X hr rfl (by subst ev1; first | with_reducible rfl | (simp only [xReadFrames, if_neg c_14]; done) | (simp only [xReadFrames, if_neg c_14]; rfl) | rfl) rfl (by subst ev1; first | with_reducible rfl | (simp only [xReadFrames, if_neg c_14]; done) | (simp only [xReadFrames, if_neg c_14]; rfl) | rfl) dX9_readFrames_21
set_option maxRecDepth 100000 in
set_option maxHeartbeats 8000000 in
theorem c_X9_undo (l : Launch) {D : DD} {B z : Nat} {h : HF} {b : Nat} {S : Sy} {nx : Nat} (hnx : nx < 4) (enx : S.2.1 1 = nI nx) : CT l yX9_undo cX9_undo 1 (some .int) 5 108 [.ref b] D B z (xput D h b S) (some (.int ((xUndo nx S).1))) 0 0 (xput D h b ((xUndo nx S).2)) := by
  refine CT.of (L := [(0, .ref b)]) (by decide +kernel) (Nat.le_of_ble_eq_true rfl) rfl ?_
  intro P E S0 M0 AR BL ME CO X hr hnm
  refine j_aload_n X 0 dX9_undo_0 rfl rfl ?_
  refine j_get X fG_RX9_25 xput_0 rfl rfl dX9_undo_1 ?_
  refine j_aload_n X 0 dX9_undo_4 rfl rfl ?_
  refine j_get X fG_RX9_10 xput_0 rfl rfl dX9_undo_5 ?_
  refine j_callVi X (rest := []) (c_X1_takeBack l hnx enx) m_yX1_takeBack kM_RX9_159 (xput_k 88 (by decide)) rfl rfl rfl rfl rfl (Nat.le_of_ble_eq_true rfl) ⟨Nat.le_of_ble_eq_true rfl, Nat.le_of_ble_eq_true rfl, Nat.le_of_ble_eq_true rfl, Nat.le_of_ble_eq_true rfl⟩ dX9_undo_8 ?_
  refine j_if_eq X (tgt := 24) dX9_undo_11 (by decide) (fun c_11 => ?_) (fun c_11 => ?_)
  · refine j_bipush X (v := (-4)) dX9_undo_24 (by decide) ?_
    exact j_iret X hr rfl (by first | with_reducible rfl | (simp only [xUndo, if_pos c_11]; done) | (simp only [xUndo, if_pos c_11]; rfl) | rfl) rfl (by first | with_reducible rfl | (simp only [xUndo, if_pos c_11]; done) | (simp only [xUndo, if_pos c_11]; rfl) | rfl) dX9_undo_26
  · refine j_aload_n X 0 dX9_undo_14 rfl rfl ?_
    refine j_get X fG_RX9_25 xput_0 rfl rfl dX9_undo_15 ?_
    refine j_getN X fN_RX9_163 (xput_k 88 (by decide)) rfl rfl dX9_undo_18 ?_
    refine j_goto X (tgt := 26) dX9_undo_21 (by decide) ?_
    exact j_iret X hr rfl (by first | with_reducible rfl | (simp only [xUndo, if_neg c_11]; done) | (simp only [xUndo, if_neg c_11]; rfl) | rfl) rfl (by first | with_reducible rfl | (simp only [xUndo, if_neg c_11]; done) | (simp only [xUndo, if_neg c_11]; rfl) | rfl) dX9_undo_26
set_option maxRecDepth 100000 in
set_option maxHeartbeats 8000000 in
theorem c_X9_keep (l : Launch) {D : DD} {B z : Nat} {h : HF} {b : Nat} {S : Sy}  : CT l yX9_keep cX9_keep 1 (some .int) 4 85 [.ref b] D B z (xput D h b S) (some (.int ((xKeep S).1))) 0 0 (xput D h b ((xKeep S).2)) := by
  refine CT.of (L := [(0, .ref b)]) (by decide +kernel) (Nat.le_of_ble_eq_true rfl) rfl ?_
  intro P E S0 M0 AR BL ME CO X hr hnm
  refine j_aload_n X 0 dX9_keep_0 rfl rfl ?_
  refine j_get X fG_RX9_16 xput_0 rfl rfl dX9_keep_1 ?_
  refine j_aload_n X 0 dX9_keep_4 rfl rfl ?_
  refine j_get X fG_RX9_10 xput_0 rfl rfl dX9_keep_5 ?_
  refine j_callVv X (rest := []) (x_copy l (i := 1) (j := 0) (by omega) (by omega) (by omega)) m_yX6_copyFrom kM_RX9_166 (xput_k 30 (by decide)) rfl rfl rfl rfl rfl (Nat.le_of_ble_eq_true rfl) ⟨Nat.le_of_ble_eq_true rfl, Nat.le_of_ble_eq_true rfl, Nat.le_of_ble_eq_true rfl, Nat.le_of_ble_eq_true rfl⟩ dX9_keep_8 ?_
  refine j_aload_n X 0 dX9_keep_11 rfl rfl ?_
  refine j_iconst X (v := 1) dX9_keep_12 (by decide) ?_
  refine j_put X fG_RX9_169 fW_9_6 xput_0 rfl rfl rfl (Nat.le_of_ble_eq_true rfl) dX9_keep_13 ?_
  refine j_heap (h' := xput D h b (xsc (xst S 1 (S.1 0)) 0 1)) xput_s0 ?_
  refine j_aload_n X 0 dX9_keep_16 rfl rfl ?_
  refine j_get X fG_RX9_10 xput_0 rfl rfl dX9_keep_17 ?_
  refine j_getN X fN_RX9_173 (xput_k 1 (by decide)) rfl rfl dX9_keep_20 ?_
  exact j_iret X hr rfl (by first | with_reducible rfl | (simp only [xKeep]; done) | (simp only [xKeep]; rfl) | rfl) rfl (by first | with_reducible rfl | (simp only [xKeep]; done) | (simp only [xKeep]; rfl) | rfl) dX9_keep_23
set_option maxRecDepth 100000 in
set_option maxHeartbeats 8000000 in
theorem c_X9_restore (l : Launch) {D : DD} {B z : Nat} {h : HF} {b : Nat} {S : Sy} {nx : Nat} (hnx : nx < 4) (enx : S.2.1 1 = nI nx) : CT l yX9_restore cX9_restore 1 (some .int) 5 107 [.ref b] D B z (xput D h b S) (some (.int ((xRestore nx S).1))) 0 0 (xput D h b ((xRestore nx S).2)) := by
  refine CT.of (L := [(0, .ref b)]) (by decide +kernel) (Nat.le_of_ble_eq_true rfl) rfl ?_
  intro P E S0 M0 AR BL ME CO X hr hnm
  refine j_aload_n X 0 dX9_restore_0 rfl rfl ?_
  refine j_get X fG_RX9_169 xput_0 rfl rfl dX9_restore_1 ?_
  refine j_if_ne X (tgt := 10) dX9_restore_4 (by decide) (fun c_4 => ?_) (fun c_4 => ?_)
  · refine j_aload_n X 0 dX9_restore_10 rfl rfl ?_
    refine j_get X fG_RX9_25 xput_0 rfl rfl dX9_restore_11 ?_
    refine j_aload_n X 0 dX9_restore_14 rfl rfl ?_
    refine j_get X fG_RX9_10 xput_0 rfl rfl dX9_restore_15 ?_
    refine j_callVv X (rest := []) (c_X1_record l hnx enx) m_yX1_record kM_RX9_56 (xput_k 88 (by decide)) rfl rfl rfl rfl rfl (Nat.le_of_ble_eq_true rfl) ⟨Nat.le_of_ble_eq_true rfl, Nat.le_of_ble_eq_true rfl, Nat.le_of_ble_eq_true rfl, Nat.le_of_ble_eq_true rfl⟩ dX9_restore_18 ?_
    refine j_aload_n X 0 dX9_restore_21 rfl rfl ?_
    refine j_get X fG_RX9_10 xput_0 rfl rfl dX9_restore_22 ?_
    refine j_aload_n X 0 dX9_restore_25 rfl rfl ?_
    refine j_get X fG_RX9_16 xput_0 rfl rfl dX9_restore_26 ?_
    refine j_callVv X (rest := []) (x_copy l (i := 0) (j := 1) (by omega) (by omega) (by omega)) m_yX6_copyFrom kM_RX9_166 (xput_k 1 (by decide)) rfl rfl rfl rfl rfl (Nat.le_of_ble_eq_true rfl) ⟨Nat.le_of_ble_eq_true rfl, Nat.le_of_ble_eq_true rfl, Nat.le_of_ble_eq_true rfl, Nat.le_of_ble_eq_true rfl⟩ dX9_restore_29 ?_
    refine j_aload_n X 0 dX9_restore_32 rfl rfl ?_
    refine j_get X fG_RX9_10 xput_0 rfl rfl dX9_restore_33 ?_
    refine j_getN X fN_RX9_173 (xput_k 1 (by decide)) rfl rfl dX9_restore_36 ?_
    exact j_iret X hr rfl (by first | with_reducible rfl | (simp only [xRestore, if_neg c_4]; done) | (simp only [xRestore, if_neg c_4]; rfl) | rfl) rfl (by first | with_reducible rfl | (simp only [xRestore, if_neg c_4]; done) | (simp only [xRestore, if_neg c_4]; rfl) | rfl) dX9_restore_39
  · refine j_bipush X (v := (-4)) dX9_restore_7 (by decide) ?_
    exact j_iret X hr rfl (by first | with_reducible rfl | (simp only [xRestore, if_pos c_4]; done) | (simp only [xRestore, if_pos c_4]; rfl) | rfl) rfl (by first | with_reducible rfl | (simp only [xRestore, if_pos c_4]; done) | (simp only [xRestore, if_pos c_4]; rfl) | rfl) dX9_restore_9
