set_option maxRecDepth 100000 in
set_option maxHeartbeats 8000000 in
theorem c_X10_in (l : Launch) {D : DD} {B z : Nat} {h : HF} {v lo hi : Int32} : CT l yX10_in cX10_in 3 (some .boolean) 0 0 [.int v, .int lo, .int hi] D B z h (some (.int (mIn v lo hi))) 0 0 h := by
  refine CT.of (L := [(0, .int v), (1, .int lo), (2, .int hi)]) (by decide +kernel) (Nat.le_of_ble_eq_true rfl) rfl ?_
  intro P E S0 M0 AR BL ME CO X hr hnm
  refine j_iload_n X 0 dX10_in_0 rfl rfl ?_
  refine j_iload_n X 1 dX10_in_1 rfl rfl ?_
  refine j_icmp_lt X (tgt := 14) dX10_in_2 (by decide) (fun c_2 => ?_) (fun c_2 => ?_)
  · refine j_iconst X (v := 0) dX10_in_14 (by decide) ?_
    exact j_iret X hr rfl (by first | with_reducible rfl | (simp only [mIn, if_pos c_2]; done) | (simp only [mIn, if_pos c_2]; rfl) | rfl) rfl (by first | with_reducible rfl | (simp only [mIn, if_pos c_2]; done) | (simp only [mIn, if_pos c_2]; rfl) | rfl) dX10_in_15
  · refine j_iload_n X 0 dX10_in_5 rfl rfl ?_
    refine j_iload_n X 2 dX10_in_6 rfl rfl ?_
    refine j_icmp_gt X (tgt := 14) dX10_in_7 (by decide) (fun c_7 => ?_) (fun c_7 => ?_)
    · refine j_iconst X (v := 0) dX10_in_14 (by decide) ?_
      exact j_iret X hr rfl (by first | with_reducible rfl | (simp only [mIn, if_neg c_2, if_pos c_7]; done) | (simp only [mIn, if_neg c_2, if_pos c_7]; rfl) | rfl) rfl (by first | with_reducible rfl | (simp only [mIn, if_neg c_2, if_pos c_7]; done) | (simp only [mIn, if_neg c_2, if_pos c_7]; rfl) | rfl) dX10_in_15
    · refine j_iconst X (v := 1) dX10_in_10 (by decide) ?_
      refine j_goto X (tgt := 15) dX10_in_11 (by decide) ?_
      exact j_iret X hr rfl (by first | with_reducible rfl | (simp only [mIn, if_neg c_2, if_neg c_7]; done) | (simp only [mIn, if_neg c_2, if_neg c_7]; rfl) | rfl) rfl (by first | with_reducible rfl | (simp only [mIn, if_neg c_2, if_neg c_7]; done) | (simp only [mIn, if_neg c_2, if_neg c_7]; rfl) | rfl) dX10_in_15
set_option maxRecDepth 100000 in
set_option maxHeartbeats 8000000 in
theorem c_X10_noPort (l : Launch) {D : DD} {B z : Nat} {h : HF} {p : Int32} : CT l yX10_noPort cX10_noPort 1 (some .boolean) 1 22 [.int p] D B z h (some (.int (mNoPort p))) 0 0 h := by
  refine CT.of (L := [(0, .int p)]) (by decide +kernel) (Nat.le_of_ble_eq_true rfl) rfl ?_
  intro P E S0 M0 AR BL ME CO X hr hnm
  refine j_iload_n X 0 dX10_noPort_0 rfl rfl ?_
  refine j_iconst X (v := 0) dX10_noPort_1 (by decide) ?_
  refine j_bipush X (v := 7) dX10_noPort_2 (by decide) ?_
  refine j_callSi X (rest := []) (c_X10_in l) m_yX10_in kM_RX10_36 rfl rfl (Nat.le_of_ble_eq_true rfl) ⟨Nat.le_of_ble_eq_true rfl, Nat.le_of_ble_eq_true rfl, Nat.le_of_ble_eq_true rfl, Nat.le_of_ble_eq_true rfl⟩ dX10_noPort_4 ?_
  refine j_if_ne X (tgt := 14) dX10_noPort_7 (by decide) (fun c_7 => ?_) (fun c_7 => ?_)
  · refine j_iconst X (v := 0) dX10_noPort_14 (by decide) ?_
    exact j_iret X hr rfl (by first | with_reducible rfl | (simp only [mNoPort, if_neg c_7]; done) | (simp only [mNoPort, if_neg c_7]; rfl) | rfl) rfl (by first | with_reducible rfl | (simp only [mNoPort, if_neg c_7]; done) | (simp only [mNoPort, if_neg c_7]; rfl) | rfl) dX10_noPort_15
  · refine j_iconst X (v := 1) dX10_noPort_10 (by decide) ?_
    refine j_goto X (tgt := 15) dX10_noPort_11 (by decide) ?_
    exact j_iret X hr rfl (by first | with_reducible rfl | (simp only [mNoPort, if_pos c_7]; done) | (simp only [mNoPort, if_pos c_7]; rfl) | rfl) rfl (by first | with_reducible rfl | (simp only [mNoPort, if_pos c_7]; done) | (simp only [mNoPort, if_pos c_7]; rfl) | rfl) dX10_noPort_15
set_option maxRecDepth 100000 in
set_option maxHeartbeats 8000000 in
theorem c_X10_noAddress (l : Launch) {D : DD} {B z : Nat} {h : HF} {x : Int32} : CT l yX10_noAddress cX10_noAddress 1 (some .boolean) 1 22 [.int x] D B z h (some (.int (mNoAddr x))) 0 0 h := by
  refine CT.of (L := [(0, .int x)]) (by decide +kernel) (Nat.le_of_ble_eq_true rfl) rfl ?_
  intro P E S0 M0 AR BL ME CO X hr hnm
  refine j_iload_n X 0 dX10_noAddress_0 rfl rfl ?_
  refine j_iconst X (v := 1) dX10_noAddress_1 (by decide) ?_
  refine j_bipush X (v := 99) dX10_noAddress_2 (by decide) ?_
  refine j_callSi X (rest := []) (c_X10_in l) m_yX10_in kM_RX10_36 rfl rfl (Nat.le_of_ble_eq_true rfl) ⟨Nat.le_of_ble_eq_true rfl, Nat.le_of_ble_eq_true rfl, Nat.le_of_ble_eq_true rfl, Nat.le_of_ble_eq_true rfl⟩ dX10_noAddress_4 ?_
  refine j_if_ne X (tgt := 14) dX10_noAddress_7 (by decide) (fun c_7 => ?_) (fun c_7 => ?_)
  · refine j_iconst X (v := 0) dX10_noAddress_14 (by decide) ?_
    exact j_iret X hr rfl (by first | with_reducible rfl | (simp only [mNoAddr, if_neg c_7]; done) | (simp only [mNoAddr, if_neg c_7]; rfl) | rfl) rfl (by first | with_reducible rfl | (simp only [mNoAddr, if_neg c_7]; done) | (simp only [mNoAddr, if_neg c_7]; rfl) | rfl) dX10_noAddress_15
  · refine j_iconst X (v := 1) dX10_noAddress_10 (by decide) ?_
    refine j_goto X (tgt := 15) dX10_noAddress_11 (by decide) ?_
    exact j_iret X hr rfl (by first | with_reducible rfl | (simp only [mNoAddr, if_pos c_7]; done) | (simp only [mNoAddr, if_pos c_7]; rfl) | rfl) rfl (by first | with_reducible rfl | (simp only [mNoAddr, if_pos c_7]; done) | (simp only [mNoAddr, if_pos c_7]; rfl) | rfl) dX10_noAddress_15
set_option maxRecDepth 100000 in
set_option maxHeartbeats 8000000 in
theorem c_X10_mostOf (l : Launch) {D : DD} {B z : Nat} {h : HF} {w : Int32} : CT l yX10_mostOf cX10_mostOf 1 (some .int) 0 0 [.int w] D B z h (some (.int (mMost w))) 0 0 h := by
  refine CT.of (L := [(0, .int w)]) (by decide +kernel) (Nat.le_of_ble_eq_true rfl) rfl ?_
  intro P E S0 M0 AR BL ME CO X hr hnm
  refine j_iload_n X 0 dX10_mostOf_0 rfl rfl ?_
  refine j_if_ne X (tgt := 10) dX10_mostOf_1 (by decide) (fun c_1 => ?_) (fun c_1 => ?_)
  · refine j_iload_n X 0 dX10_mostOf_10 rfl rfl ?_
    refine j_iconst X (v := 1) dX10_mostOf_11 (by decide) ?_
    refine j_icmp_ne X (tgt := 21) dX10_mostOf_12 (by decide) (fun c_12 => ?_) (fun c_12 => ?_)
    · refine j_iload_n X 0 dX10_mostOf_21 rfl rfl ?_
      refine j_iconst X (v := 2) dX10_mostOf_22 (by decide) ?_
      refine j_icmp_ne X (tgt := 31) dX10_mostOf_23 (by decide) (fun c_23 => ?_) (fun c_23 => ?_)
      · refine j_bipush X (v := 10) dX10_mostOf_31 (by decide) ?_
        exact j_iret X hr rfl (by first | with_reducible rfl | (simp only [mMost, if_neg c_1, if_neg c_12, if_neg c_23]; done) | (simp only [mMost, if_neg c_1, if_neg c_12, if_neg c_23]; rfl) | rfl) rfl (by first | with_reducible rfl | (simp only [mMost, if_neg c_1, if_neg c_12, if_neg c_23]; done) | (simp only [mMost, if_neg c_1, if_neg c_12, if_neg c_23]; rfl) | rfl) dX10_mostOf_33
      · refine j_bipush X (v := 50) dX10_mostOf_26 (by decide) ?_
        refine j_goto X (tgt := 33) dX10_mostOf_28 (by decide) ?_
        exact j_iret X hr rfl (by first | with_reducible rfl | (simp only [mMost, if_neg c_1, if_neg c_12, if_pos c_23]; done) | (simp only [mMost, if_neg c_1, if_neg c_12, if_pos c_23]; rfl) | rfl) rfl (by first | with_reducible rfl | (simp only [mMost, if_neg c_1, if_neg c_12, if_pos c_23]; done) | (simp only [mMost, if_neg c_1, if_neg c_12, if_pos c_23]; rfl) | rfl) dX10_mostOf_33
    · refine j_sipush X (v := 600) dX10_mostOf_15 (by decide) ?_
      refine j_goto X (tgt := 33) dX10_mostOf_18 (by decide) ?_
      exact j_iret X hr rfl (by first | with_reducible rfl | (simp only [mMost, if_neg c_1, if_pos c_12]; done) | (simp only [mMost, if_neg c_1, if_pos c_12]; rfl) | rfl) rfl (by first | with_reducible rfl | (simp only [mMost, if_neg c_1, if_pos c_12]; done) | (simp only [mMost, if_neg c_1, if_pos c_12]; rfl) | rfl) dX10_mostOf_33
  · refine j_sipush X (v := 1000) dX10_mostOf_4 (by decide) ?_
    refine j_goto X (tgt := 33) dX10_mostOf_7 (by decide) ?_
    exact j_iret X hr rfl (by first | with_reducible rfl | (simp only [mMost, if_pos c_1]; done) | (simp only [mMost, if_pos c_1]; rfl) | rfl) rfl (by first | with_reducible rfl | (simp only [mMost, if_pos c_1]; done) | (simp only [mMost, if_pos c_1]; rfl) | rfl) dX10_mostOf_33
set_option maxRecDepth 100000 in
set_option maxHeartbeats 8000000 in
theorem c_X10_of (l : Launch) {D : DD} {B z : Nat} {h : HF} {b : Nat} {μ : Mo} {p w : Int32} (hp : PO p) (hw : WH w 20) : CT l yX10_of cX10_of 3 (some .int) 0 0 [.ref b, .int p, .int w] D B z (mput D h b μ) (some (.int (mOf μ p w))) 0 0 (mput D h b μ) := by
  refine CT.of (L := [(0, .ref b), (1, .int p), (2, .int w)]) (by decide +kernel) (Nat.le_of_ble_eq_true rfl) rfl ?_
  intro P E S0 M0 AR BL ME CO X hr hnm
  refine j_aload_n X 0 dX10_of_0 rfl rfl ?_
  refine j_get X fG_RX10_7 mput_0 rfl rfl dX10_of_1 ?_
  refine j_bipush X (v := 8) dX10_of_4 (by decide) ?_
  refine j_bipush X (v := 20) dX10_of_6 (by decide) ?_
  refine j_iload_n X 1 dX10_of_8 rfl rfl ?_
  refine j_imul X dX10_of_9 ?_
  refine j_iadd X dX10_of_10 ?_
  refine j_iload_n X 2 dX10_of_11 rfl rfl ?_
  refine j_iadd X dX10_of_12 ?_
  refine j_ldM X (in_of hp hw) dX10_of_13 ?_
  exact j_iret X hr rfl (by first | with_reducible rfl | (simp only [mOf]; done) | (simp only [mOf]; rfl) | rfl) rfl (by first | with_reducible rfl | (simp only [mOf]; done) | (simp only [mOf]; rfl) | rfl) dX10_of_14
set_option maxRecDepth 100000 in
set_option maxHeartbeats 8000000 in
theorem c_X10_to (l : Launch) {D : DD} {B z : Nat} {h : HF} {b : Nat} {μ : Mo} {p w v : Int32} (hp : PO p) (hw : WH w 20) : CT l yX10_to cX10_to 4 none 0 0 [.ref b, .int p, .int w, .int v] D B z (mput D h b μ) none 0 0 (mput D h b (mTo μ p w v)) := by
  refine CT.of (L := [(0, .ref b), (1, .int p), (2, .int w), (3, .int v)]) (by decide +kernel) (Nat.le_of_ble_eq_true rfl) rfl ?_
  intro P E S0 M0 AR BL ME CO X hr hnm
  refine j_aload_n X 0 dX10_to_0 rfl rfl ?_
  refine j_get X fG_RX10_7 mput_0 rfl rfl dX10_to_1 ?_
  refine j_bipush X (v := 8) dX10_to_4 (by decide) ?_
  refine j_bipush X (v := 20) dX10_to_6 (by decide) ?_
  refine j_iload_n X 1 dX10_to_8 rfl rfl ?_
  refine j_imul X dX10_to_9 ?_
  refine j_iadd X dX10_to_10 ?_
  refine j_iload_n X 2 dX10_to_11 rfl rfl ?_
  refine j_iadd X dX10_to_12 ?_
  refine j_iload_n X 3 dX10_to_13 rfl rfl ?_
  refine j_stM X (in_of hp hw) dX10_to_14 ?_
  exact j_vret X hr rfl (by first | with_reducible rfl | (simp only [mTo]; done) | (simp only [mTo]; rfl) | rfl) dX10_to_15
set_option maxRecDepth 100000 in
set_option maxHeartbeats 8000000 in
theorem c_X10_more (l : Launch) {D : DD} {B z : Nat} {h : HF} {b : Nat} {μ : Mo} {p w : Int32} (hp : PO p) (hw : WH w 14) : CT l yX10_more cX10_more 3 none 0 0 [.ref b, .int p, .int w] D B z (mput D h b μ) none 0 0 (mput D h b (mMore μ p w)) := by
  refine CT.of (L := [(0, .ref b), (1, .int p), (2, .int w)]) (by decide +kernel) (Nat.le_of_ble_eq_true rfl) rfl ?_
  intro P E S0 M0 AR BL ME CO X hr hnm
  refine j_aload_n X 0 dX10_more_0 rfl rfl ?_
  refine j_get X fG_RX10_7 mput_0 rfl rfl dX10_more_1 ?_
  refine j_bipush X (v := 8) dX10_more_4 (by decide) ?_
  refine j_bipush X (v := 20) dX10_more_6 (by decide) ?_
  refine j_iload_n X 1 dX10_more_8 rfl rfl ?_
  refine j_imul X dX10_more_9 ?_
  refine j_iadd X dX10_more_10 ?_
  refine j_bipush X (v := 6) dX10_more_11 (by decide) ?_
  refine j_iadd X dX10_more_13 ?_
  refine j_iload_n X 2 dX10_more_14 rfl rfl ?_
  refine j_iadd X dX10_more_15 ?_
  refine j_dup2 X dX10_more_16 rfl rfl ?_
  refine j_ldM X (in_more hp hw) dX10_more_17 ?_
  refine j_iconst X (v := 1) dX10_more_18 (by decide) ?_
  refine j_iadd X dX10_more_19 ?_
  refine j_stM X (in_more hp hw) dX10_more_20 ?_
  exact j_vret X hr rfl (by first | with_reducible rfl | (simp only [mMore]; done) | (simp only [mMore]; rfl) | rfl) dX10_more_21
set_option maxRecDepth 100000 in
set_option maxHeartbeats 8000000 in
theorem c_X10_queueCell (l : Launch) {D : DD} {B z : Nat} {h : HF} {b : Nat} {μ : Mo} {p k : Int32}  : CT l yX10_queueCell cX10_queueCell 3 (some .int) 0 0 [.ref b, .int p, .int k] D B z (mput D h b μ) (some (.int (mQc p k))) 0 0 (mput D h b μ) := by
  refine CT.of (L := [(0, .ref b), (1, .int p), (2, .int k)]) (by decide +kernel) (Nat.le_of_ble_eq_true rfl) rfl ?_
  intro P E S0 M0 AR BL ME CO X hr hnm
  refine j_sipush X (v := 168) dX10_queueCell_0 (by decide) ?_
  refine j_bipush X (v := 48) dX10_queueCell_3 (by decide) ?_
  refine j_iload_n X 1 dX10_queueCell_5 rfl rfl ?_
  refine j_imul X dX10_queueCell_6 ?_
  refine j_iadd X dX10_queueCell_7 ?_
  refine j_iconst X (v := 4) dX10_queueCell_8 (by decide) ?_
  refine j_iload_n X 2 dX10_queueCell_9 rfl rfl ?_
  refine j_imul X dX10_queueCell_10 ?_
  refine j_iadd X dX10_queueCell_11 ?_
  exact j_iret X hr rfl (by first | with_reducible rfl | (simp only [mQc]; done) | (simp only [mQc]; rfl) | rfl) rfl (by first | with_reducible rfl | (simp only [mQc]; done) | (simp only [mQc]; rfl) | rfl) dX10_queueCell_12
set_option maxRecDepth 100000 in
set_option maxHeartbeats 8000000 in
theorem c_X10_isOpen (l : Launch) {D : DD} {B z : Nat} {h : HF} {b : Nat} {μ : Mo} {p : Int32} (hp : PO p)  : CT l yX10_isOpen cX10_isOpen 2 (some .boolean) 1 22 [.ref b, .int p] D B z (mput D h b μ) (some (.int (mOpen μ p))) 0 0 (mput D h b μ) := by
  refine CT.of (L := [(0, .ref b), (1, .int p)]) (by decide +kernel) (Nat.le_of_ble_eq_true rfl) rfl ?_
  intro P E S0 M0 AR BL ME CO X hr hnm
  refine j_aload_n X 0 dX10_isOpen_0 rfl rfl ?_
  refine j_iload_n X 1 dX10_isOpen_1 rfl rfl ?_
  refine j_iconst X (v := 0) dX10_isOpen_2 (by decide) ?_
  refine j_callVi X (rest := []) (c_X10_of l hp (show WH 0 _ from ⟨0, by decide, rfl⟩)) m_yX10_of kM_RX10_44 mput_0 rfl rfl rfl rfl rfl (Nat.le_of_ble_eq_true rfl) ⟨Nat.le_of_ble_eq_true rfl, Nat.le_of_ble_eq_true rfl, Nat.le_of_ble_eq_true rfl, Nat.le_of_ble_eq_true rfl⟩ dX10_isOpen_3 ?_
  refine j_iconst X (v := 1) dX10_isOpen_6 (by decide) ?_
  refine j_icmp_ne X (tgt := 23) dX10_isOpen_7 (by decide) (fun c_7 => ?_) (fun c_7 => ?_)
  · refine j_iconst X (v := 0) dX10_isOpen_23 (by decide) ?_
    exact j_iret X hr rfl (by first | with_reducible rfl | (simp only [mOpen, if_neg c_7]; done) | (simp only [mOpen, if_neg c_7]; rfl) | rfl) rfl (by first | with_reducible rfl | (simp only [mOpen, if_neg c_7]; done) | (simp only [mOpen, if_neg c_7]; rfl) | rfl) dX10_isOpen_24
  · refine j_aload_n X 0 dX10_isOpen_10 rfl rfl ?_
    refine j_iload_n X 1 dX10_isOpen_11 rfl rfl ?_
    refine j_iconst X (v := 1) dX10_isOpen_12 (by decide) ?_
    refine j_callVi X (rest := []) (c_X10_of l hp (show WH 1 _ from ⟨1, by decide, rfl⟩)) m_yX10_of kM_RX10_44 mput_0 rfl rfl rfl rfl rfl (Nat.le_of_ble_eq_true rfl) ⟨Nat.le_of_ble_eq_true rfl, Nat.le_of_ble_eq_true rfl, Nat.le_of_ble_eq_true rfl, Nat.le_of_ble_eq_true rfl⟩ dX10_isOpen_13 ?_
    refine j_if_ne X (tgt := 23) dX10_isOpen_16 (by decide) (fun c_16 => ?_) (fun c_16 => ?_)
    · refine j_iconst X (v := 0) dX10_isOpen_23 (by decide) ?_
      exact j_iret X hr rfl (by first | with_reducible rfl | (simp only [mOpen, if_pos c_7, if_neg c_16]; done) | (simp only [mOpen, if_pos c_7, if_neg c_16]; rfl) | rfl) rfl (by first | with_reducible rfl | (simp only [mOpen, if_pos c_7, if_neg c_16]; done) | (simp only [mOpen, if_pos c_7, if_neg c_16]; rfl) | rfl) dX10_isOpen_24
    · refine j_iconst X (v := 1) dX10_isOpen_19 (by decide) ?_
      refine j_goto X (tgt := 24) dX10_isOpen_20 (by decide) ?_
      exact j_iret X hr rfl (by first | with_reducible rfl | (simp only [mOpen, if_pos c_7, if_pos c_16]; done) | (simp only [mOpen, if_pos c_7, if_pos c_16]; rfl) | rfl) rfl (by first | with_reducible rfl | (simp only [mOpen, if_pos c_7, if_pos c_16]; done) | (simp only [mOpen, if_pos c_7, if_pos c_16]; rfl) | rfl) dX10_isOpen_24
set_option maxRecDepth 100000 in
set_option maxHeartbeats 8000000 in
theorem c_X10_openPorts (l : Launch) {D : DD} {B z : Nat} {h : HF} {b : Nat} {μ : Mo}  : CT l yX10_openPorts cX10_openPorts 3 (some .int) 2 43 [.ref b] D B z (mput D h b μ) (some (.int (mOpens μ 8))) 0 0 (mput D h b μ) := by
  refine CT.of (L := [(0, .ref b)]) (by decide +kernel) (Nat.le_of_ble_eq_true rfl) rfl ?_
  intro P E S0 M0 AR BL ME CO X hr hnm
  refine j_iconst X (v := 0) dX10_openPorts_0 (by decide) ?_
  refine j_istore_n X (L' := [(1, .int 0), (0, .ref b)]) dX10_openPorts_1 rfl (by decide) rfl ?_
  refine j_iconst X (v := 0) dX10_openPorts_2 (by decide) ?_
  refine j_istore_n X (L' := [(2, .int 0), (1, .int 0), (0, .ref b)]) dX10_openPorts_3 rfl (by decide) rfl ?_
  have loop4 : ∀ (n k : Nat), k + n = 8 → J P l E { frames := 2, cells := 0, slots := 0, locals := 43 } S0 M0 AR BL ME CO D B 3 (MQ BL (QC (some (.int (mOpens μ 8))) D B (z + 0) (mput D h b μ)) AR S0 0 0 (aB B)) 0 0 z (mput D h b μ) [(0, .ref b), (1, .int (mOpens μ k)), (2, .int (nI k))] [] 4 := by
    intro n
    induction n with
    | zero =>
      intro k hk
      obtain rfl : k = 8 := by omega
      refine j_iload_n X 2 dX10_openPorts_4 rfl rfl ?_
      refine j_bipush X (v := 8) dX10_openPorts_5 (by decide) ?_
      refine j_icmp_ge X (tgt := 32) dX10_openPorts_7 (by decide) (fun c_7 => ?_) (fun c_7 => absurd c_7 (by decide))
      refine j_iload_n X 1 dX10_openPorts_32 rfl rfl ?_
      exact j_iret X hr rfl (by first | with_reducible rfl | (simp only [if_neg c_7]; done) | (simp only [if_neg c_7]; rfl) | rfl) rfl (by first | with_reducible rfl | (simp only [if_neg c_7]; done) | (simp only [if_neg c_7]; rfl) | rfl) dX10_openPorts_33
    | succ n ih =>
      intro k hk
      have hlt : nI k < 8 := nlt_lit (b := 8) (by omega) (by decide)
      refine j_iload_n X 2 dX10_openPorts_4 rfl rfl ?_
      refine j_bipush X (v := 8) dX10_openPorts_5 (by decide) ?_
      refine j_icmp_ge X (tgt := 32) dX10_openPorts_7 (by decide) (fun c_7 => absurd hlt c_7) (fun c_7 => ?_)
      refine j_iload_n X 1 dX10_openPorts_10 rfl rfl ?_
      refine j_aload_n X 0 dX10_openPorts_11 rfl rfl ?_
      refine j_iload_n X 2 dX10_openPorts_12 rfl rfl ?_
      refine j_callVi X (rest := [.int (mOpens μ k)]) (c_X10_isOpen l (po_nI (by omega))) m_yX10_isOpen kM_RX10_48 mput_0 rfl rfl rfl rfl rfl (Nat.le_of_ble_eq_true rfl) ⟨Nat.le_of_ble_eq_true rfl, Nat.le_of_ble_eq_true rfl, Nat.le_of_ble_eq_true rfl, Nat.le_of_ble_eq_true rfl⟩ dX10_openPorts_13 ?_
      refine j_if_eq X (tgt := 23) dX10_openPorts_16 (by decide) (fun c_16 => ?_) (fun c_16 => ?_)
      · refine j_iconst X (v := 0) dX10_openPorts_23 (by decide) ?_
        refine j_iadd X dX10_openPorts_24 ?_
        refine j_tops (fun v1 ev1 => ?_)
        refine j_istore_n X (L' := [(1, .int v1), (0, .ref b), (2, .int (nI k))]) dX10_openPorts_25 rfl (by decide) rfl ?_
        obtain ⟨v2, ev2⟩ : ∃ y : Int32, (nI k) + 1 = y := ⟨_, rfl⟩
        refine j_iinc X 2 (k := 1) (v := v2) (L' := [(2, .int v2), (1, .int v1), (0, .ref b)]) dX10_openPorts_26 rfl (by decide) (by decide) ev2 rfl ?_
        refine j_goto X (tgt := 4) dX10_openPorts_29 (by decide) ?_
        refine j_sub [2, 1, 0] (L' := [(0, .ref b), (1, .int (mOpens μ (k + 1))), (2, .int (nI (k + 1)))]) (by subst ev2 ev1; first | with_reducible rfl | (simp only [mOpens, nI_succ k, if_pos c_7, if_pos c_16]; done) | (simp only [mOpens, nI_succ k, if_pos c_7, if_pos c_16]; rfl) | rfl) ?_
        exact ih (k + 1) (by omega)
      · refine j_iconst X (v := 1) dX10_openPorts_19 (by decide) ?_
        refine j_goto X (tgt := 24) dX10_openPorts_20 (by decide) ?_
        refine j_iadd X dX10_openPorts_24 ?_
        refine j_tops (fun v3 ev3 => ?_)
        refine j_istore_n X (L' := [(1, .int v3), (0, .ref b), (2, .int (nI k))]) dX10_openPorts_25 rfl (by decide) rfl ?_
        obtain ⟨v4, ev4⟩ : ∃ y : Int32, (nI k) + 1 = y := ⟨_, rfl⟩
        refine j_iinc X 2 (k := 1) (v := v4) (L' := [(2, .int v4), (1, .int v3), (0, .ref b)]) dX10_openPorts_26 rfl (by decide) (by decide) ev4 rfl ?_
        refine j_goto X (tgt := 4) dX10_openPorts_29 (by decide) ?_
        refine j_sub [2, 1, 0] (L' := [(0, .ref b), (1, .int (mOpens μ (k + 1))), (2, .int (nI (k + 1)))]) (by subst ev4 ev3; first | with_reducible rfl | (simp only [mOpens, nI_succ k, if_pos c_7, if_neg c_16]; done) | (simp only [mOpens, nI_succ k, if_pos c_7, if_neg c_16]; rfl) | rfl) ?_
        exact ih (k + 1) (by omega)
  refine j_sub [2, 1, 0] (L' := [(0, .ref b), (1, .int (mOpens μ 0)), (2, .int (nI 0))]) (by first | with_reducible rfl | (simp only [mOpens]; done) | (simp only [mOpens]; rfl) | rfl) ?_
  exact loop4 8 0 rfl
set_option maxRecDepth 100000 in
set_option maxHeartbeats 8000000 in
theorem c_X10_removeEntries (l : Launch) {D : DD} {B z : Nat} {h : HF} {b : Nat} {μ : Mo} {p : Int32} (hp : PO p)  : CT l yX10_removeEntries cX10_removeEntries 3 none 0 0 [.ref b, .int p] D B z (mput D h b μ) none 0 0 (mput D h b (mRemE μ p 99)) := by
  refine CT.of (L := [(0, .ref b), (1, .int p)]) (by decide +kernel) (Nat.le_of_ble_eq_true rfl) rfl ?_
  intro P E S0 M0 AR BL ME CO X hr hnm
  refine j_iconst X (v := 1) dX10_removeEntries_0 (by decide) ?_
  refine j_istore_n X (L' := [(2, .int 1), (0, .ref b), (1, .int p)]) dX10_removeEntries_1 rfl (by decide) rfl ?_
  have loop2 : ∀ (n k : Nat), k + n = 99 → J P l E { frames := 0, cells := 0, slots := 0, locals := 0 } S0 M0 AR BL ME CO D B 3 (MQ BL (QC none D B (z + 0) (mput D h b (mRemE μ p 99))) AR S0 0 0 (aB B)) 0 0 z (mput D h b (mRemE μ p k)) [(0, .ref b), (1, .int p), (2, .int (nI (k + 1)))] [] 2 := by
    intro n
    induction n with
    | zero =>
      intro k hk
      obtain rfl : k = 99 := by omega
      refine j_iload_n X 2 dX10_removeEntries_2 rfl rfl ?_
      refine j_bipush X (v := 100) dX10_removeEntries_3 (by decide) ?_
      refine j_icmp_ge X (tgt := 41) dX10_removeEntries_5 (by decide) (fun c_5 => ?_) (fun c_5 => absurd c_5 (by decide))
      exact j_vret X hr rfl (by first | with_reducible rfl | (simp only [if_neg c_5]; done) | (simp only [if_neg c_5]; rfl) | rfl) dX10_removeEntries_41
    | succ n ih =>
      intro k hk
      refine j_iload_n X 2 dX10_removeEntries_2 rfl rfl ?_
      refine j_bipush X (v := 100) dX10_removeEntries_3 (by decide) ?_
      refine j_icmp_ge X (tgt := 41) dX10_removeEntries_5 (by decide) (fun c_5 => absurd (nlt_lit (b := 100) (by omega) (by decide)) c_5) (fun c_5 => ?_)
      refine j_aload_n X 0 dX10_removeEntries_8 rfl rfl ?_
      refine j_get X fG_RX10_7 mput_0 rfl rfl dX10_removeEntries_9 ?_
      refine j_sipush X (v := 552) dX10_removeEntries_12 (by decide) ?_
      refine j_iload_n X 2 dX10_removeEntries_15 rfl rfl ?_
      refine j_iadd X dX10_removeEntries_16 ?_
      refine j_ldM X (in_552 (ad_nI (by omega))) dX10_removeEntries_17 ?_
      refine j_iload_n X 1 dX10_removeEntries_18 rfl rfl ?_
      refine j_iconst X (v := 1) dX10_removeEntries_19 (by decide) ?_
      refine j_iadd X dX10_removeEntries_20 ?_
      refine j_icmp_ne X (tgt := 35) dX10_removeEntries_21 (by decide) (fun c_21 => ?_) (fun c_21 => ?_)
      · obtain ⟨v1, ev1⟩ : ∃ y : Int32, (nI (k + 1)) + 1 = y := ⟨_, rfl⟩
        refine j_iinc X 2 (k := 1) (v := v1) (L' := [(2, .int v1), (0, .ref b), (1, .int p)]) dX10_removeEntries_35 rfl (by decide) (by decide) ev1 rfl ?_
        refine j_goto X (tgt := 2) dX10_removeEntries_38 (by decide) ?_
        refine j_sub [1, 2, 0] (L' := [(0, .ref b), (1, .int p), (2, .int (nI ((k + 1) + 1)))]) (by subst ev1; first | with_reducible rfl | (simp only [mRemE, nI_succ (k + 1), if_pos c_5, if_neg c_21]; done) | (simp only [mRemE, nI_succ (k + 1), if_pos c_5, if_neg c_21]; rfl) | rfl) ?_
        refine j_heap (h' := mput D h b (mRemE μ p (k + 1))) (by subst ev1; first | with_reducible rfl | (simp only [mRemE, nI_succ (k + 1), if_pos c_5, if_neg c_21]; done) | (simp only [mRemE, nI_succ (k + 1), if_pos c_5, if_neg c_21]; rfl) | rfl) ?_
        exact ih (k + 1) (by omega)
      · refine j_aload_n X 0 dX10_removeEntries_24 rfl rfl ?_
        refine j_get X fG_RX10_7 mput_0 rfl rfl dX10_removeEntries_25 ?_
        refine j_sipush X (v := 552) dX10_removeEntries_28 (by decide) ?_
        refine j_iload_n X 2 dX10_removeEntries_31 rfl rfl ?_
        refine j_iadd X dX10_removeEntries_32 ?_
        refine j_iconst X (v := 0) dX10_removeEntries_33 (by decide) ?_
        refine j_stM X (in_552 (ad_nI (by omega))) dX10_removeEntries_34 ?_
        obtain ⟨v2, ev2⟩ : ∃ y : Int32, (nI (k + 1)) + 1 = y := ⟨_, rfl⟩
        refine j_iinc X 2 (k := 1) (v := v2) (L' := [(2, .int v2), (0, .ref b), (1, .int p)]) dX10_removeEntries_35 rfl (by decide) (by decide) ev2 rfl ?_
        refine j_goto X (tgt := 2) dX10_removeEntries_38 (by decide) ?_
        refine j_sub [1, 2, 0] (L' := [(0, .ref b), (1, .int p), (2, .int (nI ((k + 1) + 1)))]) (by subst ev2; first | with_reducible rfl | (simp only [mRemE, nI_succ (k + 1), if_pos c_5, if_pos c_21]; done) | (simp only [mRemE, nI_succ (k + 1), if_pos c_5, if_pos c_21]; rfl) | rfl) ?_
        refine j_heap (h' := mput D h b (mRemE μ p (k + 1))) (by subst ev2; first | with_reducible rfl | (simp only [mRemE, nI_succ (k + 1), if_pos c_5, if_pos c_21]; done) | (simp only [mRemE, nI_succ (k + 1), if_pos c_5, if_pos c_21]; rfl) | rfl) ?_
        exact ih (k + 1) (by omega)
  refine j_sub [1, 2, 0] (L' := [(0, .ref b), (1, .int p), (2, .int (nI (0 + 1)))]) (by first | with_reducible rfl | (simp only [mRemE]; done) | (simp only [mRemE]; rfl) | rfl) ?_
  refine j_heap (h' := mput D h b (mRemE μ p 0)) (by first | with_reducible rfl | (simp only [mRemE]; done) | (simp only [mRemE]; rfl) | rfl) ?_
  exact loop2 99 0 rfl
set_option maxRecDepth 100000 in
set_option maxHeartbeats 8000000 in
theorem c_X10_cables (l : Launch) {D : DD} {B z : Nat} {h : HF} {b : Nat} {μ : Mo}  : CT l yX10_cables cX10_cables 3 (some .int) 1 22 [.ref b] D B z (mput D h b μ) (some (.int (mCab μ 8 / 2))) 0 0 (mput D h b μ) := by
  refine CT.of (L := [(0, .ref b)]) (by decide +kernel) (Nat.le_of_ble_eq_true rfl) rfl ?_
  intro P E S0 M0 AR BL ME CO X hr hnm
  refine j_iconst X (v := 0) dX10_cables_0 (by decide) ?_
  refine j_istore_n X (L' := [(1, .int 0), (0, .ref b)]) dX10_cables_1 rfl (by decide) rfl ?_
  refine j_iconst X (v := 0) dX10_cables_2 (by decide) ?_
  refine j_istore_n X (L' := [(2, .int 0), (1, .int 0), (0, .ref b)]) dX10_cables_3 rfl (by decide) rfl ?_
  have loop4 : ∀ (n k : Nat), k + n = 8 → J P l E { frames := 1, cells := 0, slots := 0, locals := 22 } S0 M0 AR BL ME CO D B 3 (MQ BL (QC (some (.int (mCab μ 8 / 2))) D B (z + 0) (mput D h b μ)) AR S0 0 0 (aB B)) 0 0 z (mput D h b μ) [(0, .ref b), (1, .int (mCab μ k)), (2, .int (nI k))] [] 4 := by
    intro n
    induction n with
    | zero =>
      intro k hk
      obtain rfl : k = 8 := by omega
      refine j_iload_n X 2 dX10_cables_4 rfl rfl ?_
      refine j_bipush X (v := 8) dX10_cables_5 (by decide) ?_
      refine j_icmp_ge X (tgt := 33) dX10_cables_7 (by decide) (fun c_7 => ?_) (fun c_7 => absurd c_7 (by decide))
      refine j_iload_n X 1 dX10_cables_33 rfl rfl ?_
      refine j_iconst X (v := 2) dX10_cables_34 (by decide) ?_
      refine j_idiv X dX10_cables_35 (by decide) ?_
      exact j_iret X hr rfl (by first | with_reducible rfl | (simp only [if_neg c_7]; done) | (simp only [if_neg c_7]; rfl) | rfl) rfl (by first | with_reducible rfl | (simp only [if_neg c_7]; done) | (simp only [if_neg c_7]; rfl) | rfl) dX10_cables_36
    | succ n ih =>
      intro k hk
      have hlt : nI k < 8 := nlt_lit (b := 8) (by omega) (by decide)
      refine j_iload_n X 2 dX10_cables_4 rfl rfl ?_
      refine j_bipush X (v := 8) dX10_cables_5 (by decide) ?_
      refine j_icmp_ge X (tgt := 33) dX10_cables_7 (by decide) (fun c_7 => absurd hlt c_7) (fun c_7 => ?_)
      refine j_iload_n X 1 dX10_cables_10 rfl rfl ?_
      refine j_aload_n X 0 dX10_cables_11 rfl rfl ?_
      refine j_iload_n X 2 dX10_cables_12 rfl rfl ?_
      refine j_iconst X (v := 3) dX10_cables_13 (by decide) ?_
      refine j_callVi X (rest := [.int (mCab μ k)]) (c_X10_of l (po_nI (by omega)) (show WH 3 _ from ⟨3, by decide, rfl⟩)) m_yX10_of kM_RX10_44 mput_0 rfl rfl rfl rfl rfl (Nat.le_of_ble_eq_true rfl) ⟨Nat.le_of_ble_eq_true rfl, Nat.le_of_ble_eq_true rfl, Nat.le_of_ble_eq_true rfl, Nat.le_of_ble_eq_true rfl⟩ dX10_cables_14 ?_
      refine j_if_le X (tgt := 24) dX10_cables_17 (by decide) (fun c_17 => ?_) (fun c_17 => ?_)
      · refine j_iconst X (v := 0) dX10_cables_24 (by decide) ?_
        refine j_iadd X dX10_cables_25 ?_
        refine j_tops (fun v1 ev1 => ?_)
        refine j_istore_n X (L' := [(1, .int v1), (0, .ref b), (2, .int (nI k))]) dX10_cables_26 rfl (by decide) rfl ?_
        obtain ⟨v2, ev2⟩ : ∃ y : Int32, (nI k) + 1 = y := ⟨_, rfl⟩
        refine j_iinc X 2 (k := 1) (v := v2) (L' := [(2, .int v2), (1, .int v1), (0, .ref b)]) dX10_cables_27 rfl (by decide) (by decide) ev2 rfl ?_
        refine j_goto X (tgt := 4) dX10_cables_30 (by decide) ?_
        refine j_sub [2, 1, 0] (L' := [(0, .ref b), (1, .int (mCab μ (k + 1))), (2, .int (nI (k + 1)))]) (by subst ev2 ev1; first | with_reducible rfl | (simp only [mCab, nI_succ k, if_pos c_7, if_neg c_17]; done) | (simp only [mCab, nI_succ k, if_pos c_7, if_neg c_17]; rfl) | rfl) ?_
        exact ih (k + 1) (by omega)
      · refine j_iconst X (v := 1) dX10_cables_20 (by decide) ?_
        refine j_goto X (tgt := 25) dX10_cables_21 (by decide) ?_
        refine j_iadd X dX10_cables_25 ?_
        refine j_tops (fun v3 ev3 => ?_)
        refine j_istore_n X (L' := [(1, .int v3), (0, .ref b), (2, .int (nI k))]) dX10_cables_26 rfl (by decide) rfl ?_
        obtain ⟨v4, ev4⟩ : ∃ y : Int32, (nI k) + 1 = y := ⟨_, rfl⟩
        refine j_iinc X 2 (k := 1) (v := v4) (L' := [(2, .int v4), (1, .int v3), (0, .ref b)]) dX10_cables_27 rfl (by decide) (by decide) ev4 rfl ?_
        refine j_goto X (tgt := 4) dX10_cables_30 (by decide) ?_
        refine j_sub [2, 1, 0] (L' := [(0, .ref b), (1, .int (mCab μ (k + 1))), (2, .int (nI (k + 1)))]) (by subst ev4 ev3; first | with_reducible rfl | (simp only [mCab, nI_succ k, if_pos c_7, if_pos c_17]; done) | (simp only [mCab, nI_succ k, if_pos c_7, if_pos c_17]; rfl) | rfl) ?_
        exact ih (k + 1) (by omega)
  refine j_sub [2, 1, 0] (L' := [(0, .ref b), (1, .int (mCab μ 0)), (2, .int (nI 0))]) (by first | with_reducible rfl | (simp only [mCab]; done) | (simp only [mCab]; rfl) | rfl) ?_
  exact loop4 8 0 rfl
set_option maxRecDepth 100000 in
set_option maxHeartbeats 8000000 in
theorem c_X10_holdLeft (l : Launch) {D : DD} {B z : Nat} {h : HF} {b : Nat} {μ : Mo} {p : Int32} (hp : PO p)  : CT l yX10_holdLeft cX10_holdLeft 2 (some .int) 1 22 [.ref b, .int p] D B z (mput D h b μ) (some (.int (mHold μ p))) 0 0 (mput D h b μ) := by
  refine CT.of (L := [(0, .ref b), (1, .int p)]) (by decide +kernel) (Nat.le_of_ble_eq_true rfl) rfl ?_
  intro P E S0 M0 AR BL ME CO X hr hnm
  refine j_aload_n X 0 dX10_holdLeft_0 rfl rfl ?_
  refine j_iload_n X 1 dX10_holdLeft_1 rfl rfl ?_
  refine j_iconst X (v := 1) dX10_holdLeft_2 (by decide) ?_
  refine j_callVi X (rest := []) (c_X10_of l hp (show WH 1 _ from ⟨1, by decide, rfl⟩)) m_yX10_of kM_RX10_44 mput_0 rfl rfl rfl rfl rfl (Nat.le_of_ble_eq_true rfl) ⟨Nat.le_of_ble_eq_true rfl, Nat.le_of_ble_eq_true rfl, Nat.le_of_ble_eq_true rfl, Nat.le_of_ble_eq_true rfl⟩ dX10_holdLeft_3 ?_
  refine j_if_ne X (tgt := 13) dX10_holdLeft_6 (by decide) (fun c_6 => ?_) (fun c_6 => ?_)
  · refine j_aload_n X 0 dX10_holdLeft_13 rfl rfl ?_
    refine j_iload_n X 1 dX10_holdLeft_14 rfl rfl ?_
    refine j_iconst X (v := 1) dX10_holdLeft_15 (by decide) ?_
    refine j_callVi X (rest := []) (c_X10_of l hp (show WH 1 _ from ⟨1, by decide, rfl⟩)) m_yX10_of kM_RX10_44 mput_0 rfl rfl rfl rfl rfl (Nat.le_of_ble_eq_true rfl) ⟨Nat.le_of_ble_eq_true rfl, Nat.le_of_ble_eq_true rfl, Nat.le_of_ble_eq_true rfl, Nat.le_of_ble_eq_true rfl⟩ dX10_holdLeft_16 ?_
    refine j_aload_n X 0 dX10_holdLeft_19 rfl rfl ?_
    refine j_get X fG_RX10_7 mput_0 rfl rfl dX10_holdLeft_20 ?_
    refine j_iconst X (v := 4) dX10_holdLeft_23 (by decide) ?_
    refine j_ldM X (vp_in_nI (n := 4) (by decide) (by decide)) dX10_holdLeft_24 ?_
    refine j_isub X dX10_holdLeft_25 ?_
    exact j_iret X hr rfl (by first | with_reducible rfl | (simp only [mHold, if_neg c_6]; done) | (simp only [mHold, if_neg c_6]; rfl) | rfl) rfl (by first | with_reducible rfl | (simp only [mHold, if_neg c_6]; done) | (simp only [mHold, if_neg c_6]; rfl) | rfl) dX10_holdLeft_26
  · refine j_iconst X (v := 0) dX10_holdLeft_9 (by decide) ?_
    refine j_goto X (tgt := 26) dX10_holdLeft_10 (by decide) ?_
    exact j_iret X hr rfl (by first | with_reducible rfl | (simp only [mHold, if_pos c_6]; done) | (simp only [mHold, if_pos c_6]; rfl) | rfl) rfl (by first | with_reducible rfl | (simp only [mHold, if_pos c_6]; done) | (simp only [mHold, if_pos c_6]; rfl) | rfl) dX10_holdLeft_26
set_option maxRecDepth 100000 in
set_option maxHeartbeats 8000000 in
theorem c_X10_entries (l : Launch) {D : DD} {B z : Nat} {h : HF} {b : Nat} {μ : Mo}  : CT l yX10_entries cX10_entries 3 (some .int) 0 0 [.ref b] D B z (mput D h b μ) (some (.int (mEnt μ 99))) 0 0 (mput D h b μ) := by
  refine CT.of (L := [(0, .ref b)]) (by decide +kernel) (Nat.le_of_ble_eq_true rfl) rfl ?_
  intro P E S0 M0 AR BL ME CO X hr hnm
  refine j_iconst X (v := 0) dX10_entries_0 (by decide) ?_
  refine j_istore_n X (L' := [(1, .int 0), (0, .ref b)]) dX10_entries_1 rfl (by decide) rfl ?_
  refine j_iconst X (v := 1) dX10_entries_2 (by decide) ?_
  refine j_istore_n X (L' := [(2, .int 1), (1, .int 0), (0, .ref b)]) dX10_entries_3 rfl (by decide) rfl ?_
  have loop4 : ∀ (n k : Nat), k + n = 99 → J P l E { frames := 0, cells := 0, slots := 0, locals := 0 } S0 M0 AR BL ME CO D B 3 (MQ BL (QC (some (.int (mEnt μ 99))) D B (z + 0) (mput D h b μ)) AR S0 0 0 (aB B)) 0 0 z (mput D h b μ) [(0, .ref b), (1, .int (mEnt μ k)), (2, .int (nI (k + 1)))] [] 4 := by
    intro n
    induction n with
    | zero =>
      intro k hk
      obtain rfl : k = 99 := by omega
      refine j_iload_n X 2 dX10_entries_4 rfl rfl ?_
      refine j_bipush X (v := 100) dX10_entries_5 (by decide) ?_
      refine j_icmp_ge X (tgt := 37) dX10_entries_7 (by decide) (fun c_7 => ?_) (fun c_7 => absurd c_7 (by decide))
      refine j_iload_n X 1 dX10_entries_37 rfl rfl ?_
      exact j_iret X hr rfl (by first | with_reducible rfl | (simp only [if_neg c_7]; done) | (simp only [if_neg c_7]; rfl) | rfl) rfl (by first | with_reducible rfl | (simp only [if_neg c_7]; done) | (simp only [if_neg c_7]; rfl) | rfl) dX10_entries_38
    | succ n ih =>
      intro k hk
      refine j_iload_n X 2 dX10_entries_4 rfl rfl ?_
      refine j_bipush X (v := 100) dX10_entries_5 (by decide) ?_
      refine j_icmp_ge X (tgt := 37) dX10_entries_7 (by decide) (fun c_7 => absurd (nlt_lit (b := 100) (by omega) (by decide)) c_7) (fun c_7 => ?_)
      refine j_iload_n X 1 dX10_entries_10 rfl rfl ?_
      refine j_aload_n X 0 dX10_entries_11 rfl rfl ?_
      refine j_get X fG_RX10_7 mput_0 rfl rfl dX10_entries_12 ?_
      refine j_sipush X (v := 552) dX10_entries_15 (by decide) ?_
      refine j_iload_n X 2 dX10_entries_18 rfl rfl ?_
      refine j_iadd X dX10_entries_19 ?_
      refine j_ldM X (in_552 (ad_nI (by omega))) dX10_entries_20 ?_
      refine j_if_le X (tgt := 28) dX10_entries_21 (by decide) (fun c_21 => ?_) (fun c_21 => ?_)
      · refine j_iconst X (v := 0) dX10_entries_28 (by decide) ?_
        refine j_iadd X dX10_entries_29 ?_
        refine j_tops (fun v1 ev1 => ?_)
        refine j_istore_n X (L' := [(1, .int v1), (0, .ref b), (2, .int (nI (k + 1)))]) dX10_entries_30 rfl (by decide) rfl ?_
        obtain ⟨v2, ev2⟩ : ∃ y : Int32, (nI (k + 1)) + 1 = y := ⟨_, rfl⟩
        refine j_iinc X 2 (k := 1) (v := v2) (L' := [(2, .int v2), (1, .int v1), (0, .ref b)]) dX10_entries_31 rfl (by decide) (by decide) ev2 rfl ?_
        refine j_goto X (tgt := 4) dX10_entries_34 (by decide) ?_
        refine j_sub [2, 1, 0] (L' := [(0, .ref b), (1, .int (mEnt μ (k + 1))), (2, .int (nI ((k + 1) + 1)))]) (by subst ev2 ev1; first | with_reducible rfl | (simp only [mEnt, nI_succ (k + 1), if_pos c_7, if_neg c_21]; done) | (simp only [mEnt, nI_succ (k + 1), if_pos c_7, if_neg c_21]; rfl) | rfl) ?_
        exact ih (k + 1) (by omega)
      · refine j_iconst X (v := 1) dX10_entries_24 (by decide) ?_
        refine j_goto X (tgt := 29) dX10_entries_25 (by decide) ?_
        refine j_iadd X dX10_entries_29 ?_
        refine j_tops (fun v3 ev3 => ?_)
        refine j_istore_n X (L' := [(1, .int v3), (0, .ref b), (2, .int (nI (k + 1)))]) dX10_entries_30 rfl (by decide) rfl ?_
        obtain ⟨v4, ev4⟩ : ∃ y : Int32, (nI (k + 1)) + 1 = y := ⟨_, rfl⟩
        refine j_iinc X 2 (k := 1) (v := v4) (L' := [(2, .int v4), (1, .int v3), (0, .ref b)]) dX10_entries_31 rfl (by decide) (by decide) ev4 rfl ?_
        refine j_goto X (tgt := 4) dX10_entries_34 (by decide) ?_
        refine j_sub [2, 1, 0] (L' := [(0, .ref b), (1, .int (mEnt μ (k + 1))), (2, .int (nI ((k + 1) + 1)))]) (by subst ev4 ev3; first | with_reducible rfl | (simp only [mEnt, nI_succ (k + 1), if_pos c_7, if_pos c_21]; done) | (simp only [mEnt, nI_succ (k + 1), if_pos c_7, if_pos c_21]; rfl) | rfl) ?_
        exact ih (k + 1) (by omega)
  refine j_sub [2, 1, 0] (L' := [(0, .ref b), (1, .int (mEnt μ 0)), (2, .int (nI (0 + 1)))]) (by first | with_reducible rfl | (simp only [mEnt]; done) | (simp only [mEnt]; rfl) | rfl) ?_
  exact loop4 99 0 rfl
set_option maxRecDepth 100000 in
set_option maxHeartbeats 8000000 in
theorem c_X10_movesOf (l : Launch) {D : DD} {B z : Nat} {h : HF} {b : Nat} {μ : Mo} {x : Int32} (hx : AD x) : CT l yX10_movesOf cX10_movesOf 4 (some .int) 0 0 [.ref b, .int x] D B z (mput D h b μ) (some (.int (mMov μ x 10))) 0 0 (mput D h b μ) := by
  refine CT.of (L := [(0, .ref b), (1, .int x)]) (by decide +kernel) (Nat.le_of_ble_eq_true rfl) rfl ?_
  intro P E S0 M0 AR BL ME CO X hr hnm
  refine j_iconst X (v := 0) dX10_movesOf_0 (by decide) ?_
  refine j_istore_n X (L' := [(2, .int 0), (0, .ref b), (1, .int x)]) dX10_movesOf_1 rfl (by decide) rfl ?_
  refine j_iconst X (v := 0) dX10_movesOf_2 (by decide) ?_
  refine j_istore_n X (L' := [(3, .int 0), (2, .int 0), (0, .ref b), (1, .int x)]) dX10_movesOf_3 rfl (by decide) rfl ?_
  have loop4 : ∀ (n k : Nat), k + n = 10 → J P l E { frames := 0, cells := 0, slots := 0, locals := 0 } S0 M0 AR BL ME CO D B 4 (MQ BL (QC (some (.int (mMov μ x 10))) D B (z + 0) (mput D h b μ)) AR S0 0 0 (aB B)) 0 0 z (mput D h b μ) [(0, .ref b), (1, .int x), (2, .int (mMov μ x k)), (3, .int (nI k))] [] 4 := by
    intro n
    induction n with
    | zero =>
      intro k hk
      obtain rfl : k = 10 := by omega
      refine j_iload_n X 3 dX10_movesOf_4 rfl rfl ?_
      refine j_bipush X (v := 10) dX10_movesOf_5 (by decide) ?_
      refine j_icmp_ge X (tgt := 34) dX10_movesOf_7 (by decide) (fun c_7 => ?_) (fun c_7 => absurd c_7 (by decide))
      refine j_iload_n X 2 dX10_movesOf_34 rfl rfl ?_
      exact j_iret X hr rfl (by first | with_reducible rfl | (simp only [if_neg c_7]; done) | (simp only [if_neg c_7]; rfl) | rfl) rfl (by first | with_reducible rfl | (simp only [if_neg c_7]; done) | (simp only [if_neg c_7]; rfl) | rfl) dX10_movesOf_35
    | succ n ih =>
      intro k hk
      have hlt : nI k < 10 := nlt_lit (b := 10) (by omega) (by decide)
      refine j_iload_n X 3 dX10_movesOf_4 rfl rfl ?_
      refine j_bipush X (v := 10) dX10_movesOf_5 (by decide) ?_
      refine j_icmp_ge X (tgt := 34) dX10_movesOf_7 (by decide) (fun c_7 => absurd hlt c_7) (fun c_7 => ?_)
      refine j_iload_n X 2 dX10_movesOf_10 rfl rfl ?_
      refine j_aload_n X 0 dX10_movesOf_11 rfl rfl ?_
      refine j_get X fG_RX10_7 mput_0 rfl rfl dX10_movesOf_12 ?_
      refine j_sipush X (v := 752) dX10_movesOf_15 (by decide) ?_
      refine j_bipush X (v := 10) dX10_movesOf_18 (by decide) ?_
      refine j_iload_n X 1 dX10_movesOf_20 rfl rfl ?_
      refine j_imul X dX10_movesOf_21 ?_
      refine j_iadd X dX10_movesOf_22 ?_
      refine j_iload_n X 3 dX10_movesOf_23 rfl rfl ?_
      refine j_iadd X dX10_movesOf_24 ?_
      refine j_ldM X (in_752 hx ⟨_, by omega, rfl⟩) dX10_movesOf_25 ?_
      refine j_iadd X dX10_movesOf_26 ?_
      refine j_tops (fun v1 ev1 => ?_)
      refine j_istore_n X (L' := [(2, .int v1), (0, .ref b), (1, .int x), (3, .int (nI k))]) dX10_movesOf_27 rfl (by decide) rfl ?_
      obtain ⟨v2, ev2⟩ : ∃ y : Int32, (nI k) + 1 = y := ⟨_, rfl⟩
      refine j_iinc X 3 (k := 1) (v := v2) (L' := [(3, .int v2), (2, .int v1), (0, .ref b), (1, .int x)]) dX10_movesOf_28 rfl (by decide) (by decide) ev2 rfl ?_
      refine j_goto X (tgt := 4) dX10_movesOf_31 (by decide) ?_
      refine j_sub [2, 3, 1, 0] (L' := [(0, .ref b), (1, .int x), (2, .int (mMov μ x (k + 1))), (3, .int (nI (k + 1)))]) (by subst ev2 ev1; first | with_reducible rfl | (simp only [mMov, nI_succ k, if_pos c_7]; done) | (simp only [mMov, nI_succ k, if_pos c_7]; rfl) | rfl) ?_
      exact ih (k + 1) (by omega)
  refine j_sub [2, 3, 1, 0] (L' := [(0, .ref b), (1, .int x), (2, .int (mMov μ x 0)), (3, .int (nI 0))]) (by first | with_reducible rfl | (simp only [mMov]; done) | (simp only [mMov]; rfl) | rfl) ?_
  exact loop4 10 0 rfl
set_option maxRecDepth 100000 in
set_option maxHeartbeats 8000000 in
theorem c_X10_removeOldest (l : Launch) {D : DD} {B z : Nat} {h : HF} {b : Nat} {μ : Mo}  : CT l yX10_removeOldest cX10_removeOldest 3 none 0 0 [.ref b] D B z (mput D h b μ) none 0 0 (mput D h b (mRemO μ)) := by
  refine CT.of (L := [(0, .ref b)]) (by decide +kernel) (Nat.le_of_ble_eq_true rfl) rfl ?_
  intro P E S0 M0 AR BL ME CO X hr hnm
  refine j_bipush X (v := (-4)) dX10_removeOldest_0 (by decide) ?_
  refine j_istore_n X (L' := [(1, .int (-4)), (0, .ref b)]) dX10_removeOldest_2 rfl (by decide) rfl ?_
  refine j_iconst X (v := 1) dX10_removeOldest_3 (by decide) ?_
  refine j_istore_n X (L' := [(2, .int 1), (1, .int (-4)), (0, .ref b)]) dX10_removeOldest_4 rfl (by decide) rfl ?_
  have loop5 : ∀ (n k : Nat), k + n = 99 → J P l E { frames := 0, cells := 0, slots := 0, locals := 0 } S0 M0 AR BL ME CO D B 3 (MQ BL (QC none D B (z + 0) (mput D h b (mRemO μ))) AR S0 0 0 (aB B)) 0 0 z (mput D h b μ) [(0, .ref b), (1, .int (mOld μ k)), (2, .int (nI (k + 1)))] [] 5 := by
    intro n
    induction n with
    | zero =>
      intro k hk
      obtain rfl : k = 99 := by omega
      refine j_iload_n X 2 dX10_removeOldest_5 rfl rfl ?_
      refine j_bipush X (v := 100) dX10_removeOldest_6 (by decide) ?_
      refine j_icmp_ge X (tgt := 61) dX10_removeOldest_8 (by decide) (fun c_8 => ?_) (fun c_8 => absurd c_8 (by decide))
      refine j_aload_n X 0 dX10_removeOldest_61 rfl rfl ?_
      refine j_get X fG_RX10_7 mput_0 rfl rfl dX10_removeOldest_62 ?_
      refine j_sipush X (v := 552) dX10_removeOldest_65 (by decide) ?_
      refine j_iload_n X 1 dX10_removeOldest_68 rfl rfl ?_
      refine j_iadd X dX10_removeOldest_69 ?_
      refine j_iconst X (v := 0) dX10_removeOldest_70 (by decide) ?_
      refine j_stM X (in_old (μ := μ) (k := 99) (by decide) rfl) dX10_removeOldest_71 ?_
      exact j_vret X hr rfl (by first | with_reducible rfl | (simp only [mRemO, if_neg c_8]; done) | (simp only [mRemO, if_neg c_8]; rfl) | rfl) dX10_removeOldest_72
    | succ n ih =>
      intro k hk
      refine j_iload_n X 2 dX10_removeOldest_5 rfl rfl ?_
      refine j_bipush X (v := 100) dX10_removeOldest_6 (by decide) ?_
      refine j_icmp_ge X (tgt := 61) dX10_removeOldest_8 (by decide) (fun c_8 => absurd (nlt_lit (b := 100) (by omega) (by decide)) c_8) (fun c_8 => ?_)
      refine j_aload_n X 0 dX10_removeOldest_11 rfl rfl ?_
      refine j_get X fG_RX10_7 mput_0 rfl rfl dX10_removeOldest_12 ?_
      refine j_sipush X (v := 552) dX10_removeOldest_15 (by decide) ?_
      refine j_iload_n X 2 dX10_removeOldest_18 rfl rfl ?_
      refine j_iadd X dX10_removeOldest_19 ?_
      refine j_ldM X (in_552 (ad_nI (by omega))) dX10_removeOldest_20 ?_
      refine j_if_le X (tgt := 55) dX10_removeOldest_21 (by decide) (fun c_21 => ?_) (fun c_21 => ?_)
      · obtain ⟨v1, ev1⟩ : ∃ y : Int32, (nI (k + 1)) + 1 = y := ⟨_, rfl⟩
        refine j_iinc X 2 (k := 1) (v := v1) (L' := [(2, .int v1), (0, .ref b), (1, .int (mOld μ k))]) dX10_removeOldest_55 rfl (by decide) (by decide) ev1 rfl ?_
        refine j_goto X (tgt := 5) dX10_removeOldest_58 (by decide) ?_
        refine j_sub [1, 2, 0] (L' := [(0, .ref b), (1, .int (mOld μ (k + 1))), (2, .int (nI ((k + 1) + 1)))]) (by subst ev1; first | with_reducible rfl | (simp only [mOld, nI_succ (k + 1), if_pos c_8, if_neg c_21]; done) | (simp only [mOld, nI_succ (k + 1), if_pos c_8, if_neg c_21]; rfl) | rfl) ?_
        exact ih (k + 1) (by omega)
      · refine j_iload_n X 1 dX10_removeOldest_24 rfl rfl ?_
        refine j_bipush X (v := (-4)) dX10_removeOldest_25 (by decide) ?_
        refine j_icmp_eq X (tgt := 53) dX10_removeOldest_27 (by decide) (fun c_27 => ?_) (fun c_27 => ?_)
        · refine j_iload_n X 2 dX10_removeOldest_53 rfl rfl ?_
          refine j_tops (fun v2 ev2 => ?_)
          refine j_istore_n X (L' := [(1, .int v2), (0, .ref b), (2, .int (nI (k + 1)))]) dX10_removeOldest_54 rfl (by decide) rfl ?_
          obtain ⟨v3, ev3⟩ : ∃ y : Int32, (nI (k + 1)) + 1 = y := ⟨_, rfl⟩
          refine j_iinc X 2 (k := 1) (v := v3) (L' := [(2, .int v3), (1, .int v2), (0, .ref b)]) dX10_removeOldest_55 rfl (by decide) (by decide) ev3 rfl ?_
          refine j_goto X (tgt := 5) dX10_removeOldest_58 (by decide) ?_
          refine j_sub [2, 1, 0] (L' := [(0, .ref b), (1, .int (mOld μ (k + 1))), (2, .int (nI ((k + 1) + 1)))]) (by subst ev3 ev2; first | with_reducible rfl | (simp only [mOld, nI_succ (k + 1), if_pos c_8, if_pos c_21, if_pos c_27]; done) | (simp only [mOld, nI_succ (k + 1), if_pos c_8, if_pos c_21, if_pos c_27]; rfl) | rfl) ?_
          exact ih (k + 1) (by omega)
        · refine j_aload_n X 0 dX10_removeOldest_30 rfl rfl ?_
          refine j_get X fG_RX10_7 mput_0 rfl rfl dX10_removeOldest_31 ?_
          refine j_sipush X (v := 652) dX10_removeOldest_34 (by decide) ?_
          refine j_iload_n X 2 dX10_removeOldest_37 rfl rfl ?_
          refine j_iadd X dX10_removeOldest_38 ?_
          refine j_ldM X (in_652 (ad_nI (by omega))) dX10_removeOldest_39 ?_
          refine j_aload_n X 0 dX10_removeOldest_40 rfl rfl ?_
          refine j_get X fG_RX10_7 mput_0 rfl rfl dX10_removeOldest_41 ?_
          refine j_sipush X (v := 652) dX10_removeOldest_44 (by decide) ?_
          refine j_iload_n X 1 dX10_removeOldest_47 rfl rfl ?_
          refine j_iadd X dX10_removeOldest_48 ?_
          refine j_ldM X ((mOld_in μ k (by omega)).elim (fun e_ => absurd e_ c_27) in_652) dX10_removeOldest_49 ?_
          refine j_icmp_ge X (tgt := 55) dX10_removeOldest_50 (by decide) (fun c_50 => ?_) (fun c_50 => ?_)
          · obtain ⟨v4, ev4⟩ : ∃ y : Int32, (nI (k + 1)) + 1 = y := ⟨_, rfl⟩
            refine j_iinc X 2 (k := 1) (v := v4) (L' := [(2, .int v4), (0, .ref b), (1, .int (mOld μ k))]) dX10_removeOldest_55 rfl (by decide) (by decide) ev4 rfl ?_
            refine j_goto X (tgt := 5) dX10_removeOldest_58 (by decide) ?_
            refine j_sub [1, 2, 0] (L' := [(0, .ref b), (1, .int (mOld μ (k + 1))), (2, .int (nI ((k + 1) + 1)))]) (by subst ev4; first | with_reducible rfl | (simp only [mOld, nI_succ (k + 1), if_pos c_8, if_pos c_21, if_neg c_27, if_neg c_50]; done) | (simp only [mOld, nI_succ (k + 1), if_pos c_8, if_pos c_21, if_neg c_27, if_neg c_50]; rfl) | rfl) ?_
            exact ih (k + 1) (by omega)
          · refine j_iload_n X 2 dX10_removeOldest_53 rfl rfl ?_
            refine j_tops (fun v5 ev5 => ?_)
            refine j_istore_n X (L' := [(1, .int v5), (0, .ref b), (2, .int (nI (k + 1)))]) dX10_removeOldest_54 rfl (by decide) rfl ?_
            obtain ⟨v6, ev6⟩ : ∃ y : Int32, (nI (k + 1)) + 1 = y := ⟨_, rfl⟩
            refine j_iinc X 2 (k := 1) (v := v6) (L' := [(2, .int v6), (1, .int v5), (0, .ref b)]) dX10_removeOldest_55 rfl (by decide) (by decide) ev6 rfl ?_
            refine j_goto X (tgt := 5) dX10_removeOldest_58 (by decide) ?_
            refine j_sub [2, 1, 0] (L' := [(0, .ref b), (1, .int (mOld μ (k + 1))), (2, .int (nI ((k + 1) + 1)))]) (by subst ev6 ev5; first | with_reducible rfl | (simp only [mOld, nI_succ (k + 1), if_pos c_8, if_pos c_21, if_neg c_27, if_pos c_50]; done) | (simp only [mOld, nI_succ (k + 1), if_pos c_8, if_pos c_21, if_neg c_27, if_pos c_50]; rfl) | rfl) ?_
            exact ih (k + 1) (by omega)
  refine j_sub [2, 1, 0] (L' := [(0, .ref b), (1, .int (mOld μ 0)), (2, .int (nI (0 + 1)))]) (by first | with_reducible rfl | (simp only [mOld]; done) | (simp only [mOld]; rfl) | rfl) ?_
  exact loop5 99 0 rfl
set_option maxRecDepth 100000 in
set_option maxHeartbeats 8000000 in
theorem c_X10_quarantine (l : Launch) {D : DD} {B z : Nat} {h : HF} {b : Nat} {μ : Mo} {p why : Int32} (hp : PO p)  : CT l yX10_quarantine cX10_quarantine 3 none 1 23 [.ref b, .int p, .int why] D B z (mput D h b μ) none 0 0 (mput D h b (mQuar μ p why)) := by
  refine CT.of (L := [(0, .ref b), (1, .int p), (2, .int why)]) (by decide +kernel) (Nat.le_of_ble_eq_true rfl) rfl ?_
  intro P E S0 M0 AR BL ME CO X hr hnm
  refine j_aload_n X 0 dX10_quarantine_0 rfl rfl ?_
  refine j_iload_n X 1 dX10_quarantine_1 rfl rfl ?_
  refine j_iconst X (v := 1) dX10_quarantine_2 (by decide) ?_
  refine j_aload_n X 0 dX10_quarantine_3 rfl rfl ?_
  refine j_get X fG_RX10_7 mput_0 rfl rfl dX10_quarantine_4 ?_
  refine j_iconst X (v := 4) dX10_quarantine_7 (by decide) ?_
  refine j_ldM X (vp_in_nI (n := 4) (by decide) (by decide)) dX10_quarantine_8 ?_
  refine j_aload_n X 0 dX10_quarantine_9 rfl rfl ?_
  refine j_get X fG_RX10_7 mput_0 rfl rfl dX10_quarantine_10 ?_
  refine j_iconst X (v := 1) dX10_quarantine_13 (by decide) ?_
  refine j_ldM X (vp_in_nI (n := 1) (by decide) (by decide)) dX10_quarantine_14 ?_
  refine j_iadd X dX10_quarantine_15 ?_
  refine j_callVv X (rest := []) (c_X10_to l hp (show WH 1 _ from ⟨1, by decide, rfl⟩)) m_yX10_to kM_RX10_32 mput_0 rfl rfl rfl rfl rfl (Nat.le_of_ble_eq_true rfl) ⟨Nat.le_of_ble_eq_true rfl, Nat.le_of_ble_eq_true rfl, Nat.le_of_ble_eq_true rfl, Nat.le_of_ble_eq_true rfl⟩ dX10_quarantine_16 ?_
  refine j_aload_n X 0 dX10_quarantine_19 rfl rfl ?_
  refine j_iload_n X 1 dX10_quarantine_20 rfl rfl ?_
  refine j_iconst X (v := 2) dX10_quarantine_21 (by decide) ?_
  refine j_iload_n X 2 dX10_quarantine_22 rfl rfl ?_
  refine j_callVv X (rest := []) (c_X10_to l hp (show WH 2 _ from ⟨2, by decide, rfl⟩)) m_yX10_to kM_RX10_32 mput_0 rfl rfl rfl rfl rfl (Nat.le_of_ble_eq_true rfl) ⟨Nat.le_of_ble_eq_true rfl, Nat.le_of_ble_eq_true rfl, Nat.le_of_ble_eq_true rfl, Nat.le_of_ble_eq_true rfl⟩ dX10_quarantine_23 ?_
  refine j_aload_n X 0 dX10_quarantine_26 rfl rfl ?_
  refine j_get X fG_RX10_7 mput_0 rfl rfl dX10_quarantine_27 ?_
  refine j_iconst X (v := 5) dX10_quarantine_30 (by decide) ?_
  refine j_dup2 X dX10_quarantine_31 rfl rfl ?_
  refine j_ldM X (vp_in_nI (n := 5) (by decide) (by decide)) dX10_quarantine_32 ?_
  refine j_iconst X (v := 1) dX10_quarantine_33 (by decide) ?_
  refine j_iadd X dX10_quarantine_34 ?_
  refine j_stM X (vp_in_nI (n := 5) (by decide) (by decide)) dX10_quarantine_35 ?_
  refine j_aload_n X 0 dX10_quarantine_36 rfl rfl ?_
  refine j_iload_n X 1 dX10_quarantine_37 rfl rfl ?_
  refine j_callVv X (rest := []) (c_X10_removeEntries l hp) m_yX10_removeEntries kM_RX10_72 mput_0 rfl rfl rfl rfl rfl (Nat.le_of_ble_eq_true rfl) ⟨Nat.le_of_ble_eq_true rfl, Nat.le_of_ble_eq_true rfl, Nat.le_of_ble_eq_true rfl, Nat.le_of_ble_eq_true rfl⟩ dX10_quarantine_38 ?_
  exact j_vret X hr rfl (by first | with_reducible rfl | (simp only [mQuar]; done) | (simp only [mQuar]; rfl) | rfl) dX10_quarantine_41
set_option maxRecDepth 100000 in
set_option maxHeartbeats 8000000 in
theorem c_X10_inAll (l : Launch) {D : DD} {B z : Nat} {h : HF} {b : Nat} {μ : Mo} {w : Int32} (hw : WH w 20) : CT l yX10_inAll cX10_inAll 4 (some .int) 1 22 [.ref b, .int w] D B z (mput D h b μ) (some (.int (mInAll μ w 8))) 0 0 (mput D h b μ) := by
  refine CT.of (L := [(0, .ref b), (1, .int w)]) (by decide +kernel) (Nat.le_of_ble_eq_true rfl) rfl ?_
  intro P E S0 M0 AR BL ME CO X hr hnm
  refine j_iconst X (v := 0) dX10_inAll_0 (by decide) ?_
  refine j_istore_n X (L' := [(2, .int 0), (0, .ref b), (1, .int w)]) dX10_inAll_1 rfl (by decide) rfl ?_
  refine j_iconst X (v := 0) dX10_inAll_2 (by decide) ?_
  refine j_istore_n X (L' := [(3, .int 0), (2, .int 0), (0, .ref b), (1, .int w)]) dX10_inAll_3 rfl (by decide) rfl ?_
  have loop4 : ∀ (n k : Nat), k + n = 8 → J P l E { frames := 1, cells := 0, slots := 0, locals := 22 } S0 M0 AR BL ME CO D B 4 (MQ BL (QC (some (.int (mInAll μ w 8))) D B (z + 0) (mput D h b μ)) AR S0 0 0 (aB B)) 0 0 z (mput D h b μ) [(0, .ref b), (1, .int w), (2, .int (mInAll μ w k)), (3, .int (nI k))] [] 4 := by
    intro n
    induction n with
    | zero =>
      intro k hk
      obtain rfl : k = 8 := by omega
      refine j_iload_n X 3 dX10_inAll_4 rfl rfl ?_
      refine j_bipush X (v := 8) dX10_inAll_5 (by decide) ?_
      refine j_icmp_ge X (tgt := 25) dX10_inAll_7 (by decide) (fun c_7 => ?_) (fun c_7 => absurd c_7 (by decide))
      refine j_iload_n X 2 dX10_inAll_25 rfl rfl ?_
      exact j_iret X hr rfl (by first | with_reducible rfl | (simp only [if_neg c_7]; done) | (simp only [if_neg c_7]; rfl) | rfl) rfl (by first | with_reducible rfl | (simp only [if_neg c_7]; done) | (simp only [if_neg c_7]; rfl) | rfl) dX10_inAll_26
    | succ n ih =>
      intro k hk
      have hlt : nI k < 8 := nlt_lit (b := 8) (by omega) (by decide)
      refine j_iload_n X 3 dX10_inAll_4 rfl rfl ?_
      refine j_bipush X (v := 8) dX10_inAll_5 (by decide) ?_
      refine j_icmp_ge X (tgt := 25) dX10_inAll_7 (by decide) (fun c_7 => absurd hlt c_7) (fun c_7 => ?_)
      refine j_iload_n X 2 dX10_inAll_10 rfl rfl ?_
      refine j_aload_n X 0 dX10_inAll_11 rfl rfl ?_
      refine j_iload_n X 3 dX10_inAll_12 rfl rfl ?_
      refine j_iload_n X 1 dX10_inAll_13 rfl rfl ?_
      refine j_callVi X (rest := [.int (mInAll μ w k)]) (c_X10_of l (po_nI (by omega)) hw) m_yX10_of kM_RX10_44 mput_0 rfl rfl rfl rfl rfl (Nat.le_of_ble_eq_true rfl) ⟨Nat.le_of_ble_eq_true rfl, Nat.le_of_ble_eq_true rfl, Nat.le_of_ble_eq_true rfl, Nat.le_of_ble_eq_true rfl⟩ dX10_inAll_14 ?_
      refine j_iadd X dX10_inAll_17 ?_
      refine j_tops (fun v1 ev1 => ?_)
      refine j_istore_n X (L' := [(2, .int v1), (0, .ref b), (1, .int w), (3, .int (nI k))]) dX10_inAll_18 rfl (by decide) rfl ?_
      obtain ⟨v2, ev2⟩ : ∃ y : Int32, (nI k) + 1 = y := ⟨_, rfl⟩
      refine j_iinc X 3 (k := 1) (v := v2) (L' := [(3, .int v2), (2, .int v1), (0, .ref b), (1, .int w)]) dX10_inAll_19 rfl (by decide) (by decide) ev2 rfl ?_
      refine j_goto X (tgt := 4) dX10_inAll_22 (by decide) ?_
      refine j_sub [2, 3, 1, 0] (L' := [(0, .ref b), (1, .int w), (2, .int (mInAll μ w (k + 1))), (3, .int (nI (k + 1)))]) (by subst ev2 ev1; first | with_reducible rfl | (simp only [mInAll, nI_succ k, if_pos c_7]; done) | (simp only [mInAll, nI_succ k, if_pos c_7]; rfl) | rfl) ?_
      exact ih (k + 1) (by omega)
  refine j_sub [2, 3, 1, 0] (L' := [(0, .ref b), (1, .int w), (2, .int (mInAll μ w 0)), (3, .int (nI 0))]) (by first | with_reducible rfl | (simp only [mInAll]; done) | (simp only [mInAll]; rfl) | rfl) ?_
  exact loop4 8 0 rfl
set_option maxRecDepth 100000 in
set_option maxHeartbeats 8000000 in
theorem c_X10_held (l : Launch) {D : DD} {B z : Nat} {h : HF} {b : Nat} {μ : Mo}  : CT l yX10_held cX10_held 3 (some .int) 1 22 [.ref b] D B z (mput D h b μ) (some (.int (mHeld μ 8))) 0 0 (mput D h b μ) := by
  refine CT.of (L := [(0, .ref b)]) (by decide +kernel) (Nat.le_of_ble_eq_true rfl) rfl ?_
  intro P E S0 M0 AR BL ME CO X hr hnm
  refine j_iconst X (v := 0) dX10_held_0 (by decide) ?_
  refine j_istore_n X (L' := [(1, .int 0), (0, .ref b)]) dX10_held_1 rfl (by decide) rfl ?_
  refine j_iconst X (v := 0) dX10_held_2 (by decide) ?_
  refine j_istore_n X (L' := [(2, .int 0), (1, .int 0), (0, .ref b)]) dX10_held_3 rfl (by decide) rfl ?_
  have loop4 : ∀ (n k : Nat), k + n = 8 → J P l E { frames := 1, cells := 0, slots := 0, locals := 22 } S0 M0 AR BL ME CO D B 3 (MQ BL (QC (some (.int (mHeld μ 8))) D B (z + 0) (mput D h b μ)) AR S0 0 0 (aB B)) 0 0 z (mput D h b μ) [(0, .ref b), (1, .int (mHeld μ k)), (2, .int (nI k))] [] 4 := by
    intro n
    induction n with
    | zero =>
      intro k hk
      obtain rfl : k = 8 := by omega
      refine j_iload_n X 2 dX10_held_4 rfl rfl ?_
      refine j_bipush X (v := 8) dX10_held_5 (by decide) ?_
      refine j_icmp_ge X (tgt := 33) dX10_held_7 (by decide) (fun c_7 => ?_) (fun c_7 => absurd c_7 (by decide))
      refine j_iload_n X 1 dX10_held_33 rfl rfl ?_
      exact j_iret X hr rfl (by first | with_reducible rfl | (simp only [if_neg c_7]; done) | (simp only [if_neg c_7]; rfl) | rfl) rfl (by first | with_reducible rfl | (simp only [if_neg c_7]; done) | (simp only [if_neg c_7]; rfl) | rfl) dX10_held_34
    | succ n ih =>
      intro k hk
      have hlt : nI k < 8 := nlt_lit (b := 8) (by omega) (by decide)
      refine j_iload_n X 2 dX10_held_4 rfl rfl ?_
      refine j_bipush X (v := 8) dX10_held_5 (by decide) ?_
      refine j_icmp_ge X (tgt := 33) dX10_held_7 (by decide) (fun c_7 => absurd hlt c_7) (fun c_7 => ?_)
      refine j_iload_n X 1 dX10_held_10 rfl rfl ?_
      refine j_aload_n X 0 dX10_held_11 rfl rfl ?_
      refine j_iload_n X 2 dX10_held_12 rfl rfl ?_
      refine j_iconst X (v := 1) dX10_held_13 (by decide) ?_
      refine j_callVi X (rest := [.int (mHeld μ k)]) (c_X10_of l (po_nI (by omega)) (show WH 1 _ from ⟨1, by decide, rfl⟩)) m_yX10_of kM_RX10_44 mput_0 rfl rfl rfl rfl rfl (Nat.le_of_ble_eq_true rfl) ⟨Nat.le_of_ble_eq_true rfl, Nat.le_of_ble_eq_true rfl, Nat.le_of_ble_eq_true rfl, Nat.le_of_ble_eq_true rfl⟩ dX10_held_14 ?_
      refine j_if_le X (tgt := 24) dX10_held_17 (by decide) (fun c_17 => ?_) (fun c_17 => ?_)
      · refine j_iconst X (v := 0) dX10_held_24 (by decide) ?_
        refine j_iadd X dX10_held_25 ?_
        refine j_tops (fun v1 ev1 => ?_)
        refine j_istore_n X (L' := [(1, .int v1), (0, .ref b), (2, .int (nI k))]) dX10_held_26 rfl (by decide) rfl ?_
        obtain ⟨v2, ev2⟩ : ∃ y : Int32, (nI k) + 1 = y := ⟨_, rfl⟩
        refine j_iinc X 2 (k := 1) (v := v2) (L' := [(2, .int v2), (1, .int v1), (0, .ref b)]) dX10_held_27 rfl (by decide) (by decide) ev2 rfl ?_
        refine j_goto X (tgt := 4) dX10_held_30 (by decide) ?_
        refine j_sub [2, 1, 0] (L' := [(0, .ref b), (1, .int (mHeld μ (k + 1))), (2, .int (nI (k + 1)))]) (by subst ev2 ev1; first | with_reducible rfl | (simp only [mHeld, nI_succ k, if_pos c_7, if_neg c_17]; done) | (simp only [mHeld, nI_succ k, if_pos c_7, if_neg c_17]; rfl) | rfl) ?_
        exact ih (k + 1) (by omega)
      · refine j_iconst X (v := 1) dX10_held_20 (by decide) ?_
        refine j_goto X (tgt := 25) dX10_held_21 (by decide) ?_
        refine j_iadd X dX10_held_25 ?_
        refine j_tops (fun v3 ev3 => ?_)
        refine j_istore_n X (L' := [(1, .int v3), (0, .ref b), (2, .int (nI k))]) dX10_held_26 rfl (by decide) rfl ?_
        obtain ⟨v4, ev4⟩ : ∃ y : Int32, (nI k) + 1 = y := ⟨_, rfl⟩
        refine j_iinc X 2 (k := 1) (v := v4) (L' := [(2, .int v4), (1, .int v3), (0, .ref b)]) dX10_held_27 rfl (by decide) (by decide) ev4 rfl ?_
        refine j_goto X (tgt := 4) dX10_held_30 (by decide) ?_
        refine j_sub [2, 1, 0] (L' := [(0, .ref b), (1, .int (mHeld μ (k + 1))), (2, .int (nI (k + 1)))]) (by subst ev4 ev3; first | with_reducible rfl | (simp only [mHeld, nI_succ k, if_pos c_7, if_pos c_17]; done) | (simp only [mHeld, nI_succ k, if_pos c_7, if_pos c_17]; rfl) | rfl) ?_
        exact ih (k + 1) (by omega)
  refine j_sub [2, 1, 0] (L' := [(0, .ref b), (1, .int (mHeld μ 0)), (2, .int (nI 0))]) (by first | with_reducible rfl | (simp only [mHeld]; done) | (simp only [mHeld]; rfl) | rfl) ?_
  exact loop4 8 0 rfl
set_option maxRecDepth 100000 in
set_option maxHeartbeats 8000000 in
theorem c_X10_entriesWith (l : Launch) {D : DD} {B z : Nat} {h : HF} {b : Nat} {μ : Mo} {p : Int32} (hp : PO p)  : CT l yX10_entriesWith cX10_entriesWith 4 (some .int) 0 0 [.ref b, .int p] D B z (mput D h b μ) (some (.int (mWith μ p 99))) 0 0 (mput D h b μ) := by
  refine CT.of (L := [(0, .ref b), (1, .int p)]) (by decide +kernel) (Nat.le_of_ble_eq_true rfl) rfl ?_
  intro P E S0 M0 AR BL ME CO X hr hnm
  refine j_iconst X (v := 0) dX10_entriesWith_0 (by decide) ?_
  refine j_istore_n X (L' := [(2, .int 0), (0, .ref b), (1, .int p)]) dX10_entriesWith_1 rfl (by decide) rfl ?_
  refine j_iconst X (v := 1) dX10_entriesWith_2 (by decide) ?_
  refine j_istore_n X (L' := [(3, .int 1), (2, .int 0), (0, .ref b), (1, .int p)]) dX10_entriesWith_3 rfl (by decide) rfl ?_
  have loop4 : ∀ (n k : Nat), k + n = 99 → J P l E { frames := 0, cells := 0, slots := 0, locals := 0 } S0 M0 AR BL ME CO D B 4 (MQ BL (QC (some (.int (mWith μ p 99))) D B (z + 0) (mput D h b μ)) AR S0 0 0 (aB B)) 0 0 z (mput D h b μ) [(0, .ref b), (1, .int p), (2, .int (mWith μ p k)), (3, .int (nI (k + 1)))] [] 4 := by
    intro n
    induction n with
    | zero =>
      intro k hk
      obtain rfl : k = 99 := by omega
      refine j_iload_n X 3 dX10_entriesWith_4 rfl rfl ?_
      refine j_bipush X (v := 100) dX10_entriesWith_5 (by decide) ?_
      refine j_icmp_ge X (tgt := 40) dX10_entriesWith_7 (by decide) (fun c_7 => ?_) (fun c_7 => absurd c_7 (by decide))
      refine j_iload_n X 2 dX10_entriesWith_40 rfl rfl ?_
      exact j_iret X hr rfl (by first | with_reducible rfl | (simp only [if_neg c_7]; done) | (simp only [if_neg c_7]; rfl) | rfl) rfl (by first | with_reducible rfl | (simp only [if_neg c_7]; done) | (simp only [if_neg c_7]; rfl) | rfl) dX10_entriesWith_41
    | succ n ih =>
      intro k hk
      refine j_iload_n X 3 dX10_entriesWith_4 rfl rfl ?_
      refine j_bipush X (v := 100) dX10_entriesWith_5 (by decide) ?_
      refine j_icmp_ge X (tgt := 40) dX10_entriesWith_7 (by decide) (fun c_7 => absurd (nlt_lit (b := 100) (by omega) (by decide)) c_7) (fun c_7 => ?_)
      refine j_iload_n X 2 dX10_entriesWith_10 rfl rfl ?_
      refine j_aload_n X 0 dX10_entriesWith_11 rfl rfl ?_
      refine j_get X fG_RX10_7 mput_0 rfl rfl dX10_entriesWith_12 ?_
      refine j_sipush X (v := 552) dX10_entriesWith_15 (by decide) ?_
      refine j_iload_n X 3 dX10_entriesWith_18 rfl rfl ?_
      refine j_iadd X dX10_entriesWith_19 ?_
      refine j_ldM X (in_552 (ad_nI (by omega))) dX10_entriesWith_20 ?_
      refine j_iload_n X 1 dX10_entriesWith_21 rfl rfl ?_
      refine j_iconst X (v := 1) dX10_entriesWith_22 (by decide) ?_
      refine j_iadd X dX10_entriesWith_23 ?_
      refine j_icmp_ne X (tgt := 31) dX10_entriesWith_24 (by decide) (fun c_24 => ?_) (fun c_24 => ?_)
      · refine j_iconst X (v := 0) dX10_entriesWith_31 (by decide) ?_
        refine j_iadd X dX10_entriesWith_32 ?_
        refine j_tops (fun v1 ev1 => ?_)
        refine j_istore_n X (L' := [(2, .int v1), (0, .ref b), (1, .int p), (3, .int (nI (k + 1)))]) dX10_entriesWith_33 rfl (by decide) rfl ?_
        obtain ⟨v2, ev2⟩ : ∃ y : Int32, (nI (k + 1)) + 1 = y := ⟨_, rfl⟩
        refine j_iinc X 3 (k := 1) (v := v2) (L' := [(3, .int v2), (2, .int v1), (0, .ref b), (1, .int p)]) dX10_entriesWith_34 rfl (by decide) (by decide) ev2 rfl ?_
        refine j_goto X (tgt := 4) dX10_entriesWith_37 (by decide) ?_
        refine j_sub [2, 3, 1, 0] (L' := [(0, .ref b), (1, .int p), (2, .int (mWith μ p (k + 1))), (3, .int (nI ((k + 1) + 1)))]) (by subst ev2 ev1; first | with_reducible rfl | (simp only [mWith, nI_succ (k + 1), if_pos c_7, if_neg c_24]; done) | (simp only [mWith, nI_succ (k + 1), if_pos c_7, if_neg c_24]; rfl) | rfl) ?_
        exact ih (k + 1) (by omega)
      · refine j_iconst X (v := 1) dX10_entriesWith_27 (by decide) ?_
        refine j_goto X (tgt := 32) dX10_entriesWith_28 (by decide) ?_
        refine j_iadd X dX10_entriesWith_32 ?_
        refine j_tops (fun v3 ev3 => ?_)
        refine j_istore_n X (L' := [(2, .int v3), (0, .ref b), (1, .int p), (3, .int (nI (k + 1)))]) dX10_entriesWith_33 rfl (by decide) rfl ?_
        obtain ⟨v4, ev4⟩ : ∃ y : Int32, (nI (k + 1)) + 1 = y := ⟨_, rfl⟩
        refine j_iinc X 3 (k := 1) (v := v4) (L' := [(3, .int v4), (2, .int v3), (0, .ref b), (1, .int p)]) dX10_entriesWith_34 rfl (by decide) (by decide) ev4 rfl ?_
        refine j_goto X (tgt := 4) dX10_entriesWith_37 (by decide) ?_
        refine j_sub [2, 3, 1, 0] (L' := [(0, .ref b), (1, .int p), (2, .int (mWith μ p (k + 1))), (3, .int (nI ((k + 1) + 1)))]) (by subst ev4 ev3; first | with_reducible rfl | (simp only [mWith, nI_succ (k + 1), if_pos c_7, if_pos c_24]; done) | (simp only [mWith, nI_succ (k + 1), if_pos c_7, if_pos c_24]; rfl) | rfl) ?_
        exact ih (k + 1) (by omega)
  refine j_sub [2, 3, 1, 0] (L' := [(0, .ref b), (1, .int p), (2, .int (mWith μ p 0)), (3, .int (nI (0 + 1)))]) (by first | with_reducible rfl | (simp only [mWith]; done) | (simp only [mWith]; rfl) | rfl) ?_
  exact loop4 99 0 rfl
