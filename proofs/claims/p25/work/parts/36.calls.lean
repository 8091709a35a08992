set_option maxRecDepth 100000 in
set_option maxHeartbeats 8000000 in
theorem c_X9_isPort (l : Launch) {D : DD} {B z : Nat} {h : HF} {p : Int32} : CT l yX9_isPort cX9_isPort 1 (some .boolean) 0 0 [.int p] D B z h (some (.int (isPort p))) 0 0 h := by
  refine CT.of (L := [(0, .int p)]) (by decide +kernel) (Nat.le_of_ble_eq_true rfl) rfl ?_
  intro P E S0 M0 AR BL ME CO X hr hnm
  refine j_iload_n X 0 dX9_isPort_0 rfl rfl ?_
  refine j_if_lt X (tgt := 14) dX9_isPort_1 (by decide) (fun c_1 => ?_) (fun c_1 => ?_)
  · refine j_iconst X (v := 0) dX9_isPort_14 (by decide) ?_
    exact j_iret X hr rfl (by first | with_reducible rfl | (simp only [isPort, if_pos c_1]; done) | (simp only [isPort, if_pos c_1]; rfl) | rfl) rfl (by first | with_reducible rfl | (simp only [isPort, if_pos c_1]; done) | (simp only [isPort, if_pos c_1]; rfl) | rfl) dX9_isPort_15
  · refine j_iload_n X 0 dX9_isPort_4 rfl rfl ?_
    refine j_bipush X (v := 8) dX9_isPort_5 (by decide) ?_
    refine j_icmp_ge X (tgt := 14) dX9_isPort_7 (by decide) (fun c_7 => ?_) (fun c_7 => ?_)
    · refine j_iconst X (v := 0) dX9_isPort_14 (by decide) ?_
      exact j_iret X hr rfl (by first | with_reducible rfl | (simp only [isPort, if_neg c_1, if_neg c_7]; done) | (simp only [isPort, if_neg c_1, if_neg c_7]; rfl) | rfl) rfl (by first | with_reducible rfl | (simp only [isPort, if_neg c_1, if_neg c_7]; done) | (simp only [isPort, if_neg c_1, if_neg c_7]; rfl) | rfl) dX9_isPort_15
    · refine j_iconst X (v := 1) dX9_isPort_10 (by decide) ?_
      refine j_goto X (tgt := 15) dX9_isPort_11 (by decide) ?_
      exact j_iret X hr rfl (by first | with_reducible rfl | (simp only [isPort, if_neg c_1, if_pos c_7]; done) | (simp only [isPort, if_neg c_1, if_pos c_7]; rfl) | rfl) rfl (by first | with_reducible rfl | (simp only [isPort, if_neg c_1, if_pos c_7]; done) | (simp only [isPort, if_neg c_1, if_pos c_7]; rfl) | rfl) dX9_isPort_15
set_option maxRecDepth 100000 in
set_option maxHeartbeats 8000000 in
theorem c_X9_isAddress (l : Launch) {D : DD} {B z : Nat} {h : HF} {x : Int32} : CT l yX9_isAddress cX9_isAddress 1 (some .boolean) 0 0 [.int x] D B z h (some (.int (isAddr x))) 0 0 h := by
  refine CT.of (L := [(0, .int x)]) (by decide +kernel) (Nat.le_of_ble_eq_true rfl) rfl ?_
  intro P E S0 M0 AR BL ME CO X hr hnm
  refine j_iload_n X 0 dX9_isAddress_0 rfl rfl ?_
  refine j_iconst X (v := 1) dX9_isAddress_1 (by decide) ?_
  refine j_icmp_lt X (tgt := 15) dX9_isAddress_2 (by decide) (fun c_2 => ?_) (fun c_2 => ?_)
  · refine j_iconst X (v := 0) dX9_isAddress_15 (by decide) ?_
    exact j_iret X hr rfl (by first | with_reducible rfl | (simp only [isAddr, if_pos c_2]; done) | (simp only [isAddr, if_pos c_2]; rfl) | rfl) rfl (by first | with_reducible rfl | (simp only [isAddr, if_pos c_2]; done) | (simp only [isAddr, if_pos c_2]; rfl) | rfl) dX9_isAddress_16
  · refine j_iload_n X 0 dX9_isAddress_5 rfl rfl ?_
    refine j_bipush X (v := 99) dX9_isAddress_6 (by decide) ?_
    refine j_icmp_gt X (tgt := 15) dX9_isAddress_8 (by decide) (fun c_8 => ?_) (fun c_8 => ?_)
    · refine j_iconst X (v := 0) dX9_isAddress_15 (by decide) ?_
      exact j_iret X hr rfl (by first | with_reducible rfl | (simp only [isAddr, if_neg c_2, if_pos c_8]; done) | (simp only [isAddr, if_neg c_2, if_pos c_8]; rfl) | rfl) rfl (by first | with_reducible rfl | (simp only [isAddr, if_neg c_2, if_pos c_8]; done) | (simp only [isAddr, if_neg c_2, if_pos c_8]; rfl) | rfl) dX9_isAddress_16
    · refine j_iconst X (v := 1) dX9_isAddress_11 (by decide) ?_
      refine j_goto X (tgt := 16) dX9_isAddress_12 (by decide) ?_
      exact j_iret X hr rfl (by first | with_reducible rfl | (simp only [isAddr, if_neg c_2, if_neg c_8]; done) | (simp only [isAddr, if_neg c_2, if_neg c_8]; rfl) | rfl) rfl (by first | with_reducible rfl | (simp only [isAddr, if_neg c_2, if_neg c_8]; done) | (simp only [isAddr, if_neg c_2, if_neg c_8]; rfl) | rfl) dX9_isAddress_16
set_option maxRecDepth 100000 in
set_option maxHeartbeats 8000000 in
theorem c_X9_isDestination (l : Launch) {D : DD} {B z : Nat} {h : HF} {x : Int32} : CT l yX9_isDestination cX9_isDestination 1 (some .boolean) 1 20 [.int x] D B z h (some (.int (isDest x))) 0 0 h := by
  refine CT.of (L := [(0, .int x)]) (by decide +kernel) (Nat.le_of_ble_eq_true rfl) rfl ?_
  intro P E S0 M0 AR BL ME CO X hr hnm
  refine j_iload_n X 0 dX9_isDestination_0 rfl rfl ?_
  refine j_if_eq X (tgt := 11) dX9_isDestination_1 (by decide) (fun c_1 => ?_) (fun c_1 => ?_)
  · refine j_iconst X (v := 1) dX9_isDestination_11 (by decide) ?_
    refine j_goto X (tgt := 16) dX9_isDestination_12 (by decide) ?_
    exact j_iret X hr rfl (by first | with_reducible rfl | (simp only [isDest, if_pos c_1]; done) | (simp only [isDest, if_pos c_1]; rfl) | rfl) rfl (by first | with_reducible rfl | (simp only [isDest, if_pos c_1]; done) | (simp only [isDest, if_pos c_1]; rfl) | rfl) dX9_isDestination_16
  · refine j_iload_n X 0 dX9_isDestination_4 rfl rfl ?_
    refine j_callSi X (rest := []) (c_X9_isAddress l) m_yX9_isAddress kM_RX9_116 rfl rfl (Nat.le_of_ble_eq_true rfl) ⟨Nat.le_of_ble_eq_true rfl, Nat.le_of_ble_eq_true rfl, Nat.le_of_ble_eq_true rfl, Nat.le_of_ble_eq_true rfl⟩ dX9_isDestination_5 ?_
    refine j_if_eq X (tgt := 15) dX9_isDestination_8 (by decide) (fun c_8 => ?_) (fun c_8 => ?_)
    · refine j_iconst X (v := 0) dX9_isDestination_15 (by decide) ?_
      exact j_iret X hr rfl (by first | with_reducible rfl | (simp only [isDest, if_neg c_1, if_pos c_8]; done) | (simp only [isDest, if_neg c_1, if_pos c_8]; rfl) | rfl) rfl (by first | with_reducible rfl | (simp only [isDest, if_neg c_1, if_pos c_8]; done) | (simp only [isDest, if_neg c_1, if_pos c_8]; rfl) | rfl) dX9_isDestination_16
    · refine j_iconst X (v := 1) dX9_isDestination_11 (by decide) ?_
      refine j_goto X (tgt := 16) dX9_isDestination_12 (by decide) ?_
      exact j_iret X hr rfl (by first | with_reducible rfl | (simp only [isDest, if_neg c_1, if_neg c_8]; done) | (simp only [isDest, if_neg c_1, if_neg c_8]; rfl) | rfl) rfl (by first | with_reducible rfl | (simp only [isDest, if_neg c_1, if_neg c_8]; done) | (simp only [isDest, if_neg c_1, if_neg c_8]; rfl) | rfl) dX9_isDestination_16
set_option maxRecDepth 100000 in
set_option maxHeartbeats 8000000 in
theorem c_X9_isSetting (l : Launch) {D : DD} {B z : Nat} {h : HF} {x : Int32} : CT l yX9_isSetting cX9_isSetting 1 (some .boolean) 0 0 [.int x] D B z h (some (.int (isSet x))) 0 0 h := by
  refine CT.of (L := [(0, .int x)]) (by decide +kernel) (Nat.le_of_ble_eq_true rfl) rfl ?_
  intro P E S0 M0 AR BL ME CO X hr hnm
  refine j_iload_n X 0 dX9_isSetting_0 rfl rfl ?_
  refine j_if_lt X (tgt := 16) dX9_isSetting_1 (by decide) (fun c_1 => ?_) (fun c_1 => ?_)
  · refine j_iconst X (v := 0) dX9_isSetting_16 (by decide) ?_
    exact j_iret X hr rfl (by first | with_reducible rfl | (simp only [isSet, if_pos c_1]; done) | (simp only [isSet, if_pos c_1]; rfl) | rfl) rfl (by first | with_reducible rfl | (simp only [isSet, if_pos c_1]; done) | (simp only [isSet, if_pos c_1]; rfl) | rfl) dX9_isSetting_17
  · refine j_iload_n X 0 dX9_isSetting_4 rfl rfl ?_
    refine j_getG X kF_RX9_100 dX9_isSetting_5 ?_
    refine j_lenG X dX9_isSetting_8 ?_
    refine j_icmp_ge X (tgt := 16) dX9_isSetting_9 (by decide) (fun c_9 => ?_) (fun c_9 => ?_)
    · refine j_iconst X (v := 0) dX9_isSetting_16 (by decide) ?_
      exact j_iret X hr rfl (by first | with_reducible rfl | (simp only [isSet, if_neg c_1, if_neg c_9]; done) | (simp only [isSet, if_neg c_1, if_neg c_9]; rfl) | rfl) rfl (by first | with_reducible rfl | (simp only [isSet, if_neg c_1, if_neg c_9]; done) | (simp only [isSet, if_neg c_1, if_neg c_9]; rfl) | rfl) dX9_isSetting_17
    · refine j_iconst X (v := 1) dX9_isSetting_12 (by decide) ?_
      refine j_goto X (tgt := 17) dX9_isSetting_13 (by decide) ?_
      exact j_iret X hr rfl (by first | with_reducible rfl | (simp only [isSet, if_neg c_1, if_pos c_9]; done) | (simp only [isSet, if_neg c_1, if_pos c_9]; rfl) | rfl) rfl (by first | with_reducible rfl | (simp only [isSet, if_neg c_1, if_pos c_9]; done) | (simp only [isSet, if_neg c_1, if_pos c_9]; rfl) | rfl) dX9_isSetting_17
set_option maxRecDepth 100000 in
set_option maxHeartbeats 8000000 in
theorem c_X9_setPort (l : Launch) {D : DD} {B z : Nat} {h : HF} {b : Nat} {S : Sy} {p up : Int32} {nx : Nat} (hnx : nx < 4) (enx : S.2.1 1 = nI nx) : CT l yX9_setPort cX9_setPort 3 (some .int) 5 107 [.ref b, .int p, .int up] D B z (xput D h b S) (some (.int ((xSetPort nx S p up).1))) 0 0 (xput D h b ((xSetPort nx S p up).2)) := by
  refine CT.of (L := [(0, .ref b), (1, .int p), (2, .int up)]) (by decide +kernel) (Nat.le_of_ble_eq_true rfl) rfl ?_
  intro P E S0 M0 AR BL ME CO X hr hnm
  refine j_iload_n X 1 dX9_setPort_0 rfl rfl ?_
  refine j_callSi X (rest := []) (c_X9_isPort l) m_yX9_isPort kM_RX9_43 rfl rfl (Nat.le_of_ble_eq_true rfl) ⟨Nat.le_of_ble_eq_true rfl, Nat.le_of_ble_eq_true rfl, Nat.le_of_ble_eq_true rfl, Nat.le_of_ble_eq_true rfl⟩ dX9_setPort_1 ?_
  refine j_if_ne X (tgt := 9) dX9_setPort_4 (by decide) (fun c_4 => ?_) (fun c_4 => ?_)
  · refine j_aload_n X 0 dX9_setPort_9 rfl rfl ?_
    refine j_get X fG_RX9_10 xput_0 rfl rfl dX9_setPort_10 ?_
    refine j_getN X fN_RX9_47 (xput_k 1 (by decide)) rfl rfl dX9_setPort_13 ?_
    refine j_iload_n X 1 dX9_setPort_16 rfl rfl ?_
    refine j_heap (h' := hput D (xput D h b S) (b + 1) (S.1 0)) (xput_st (i := 0) (by decide)) ?_
    refine j_callVi X (rest := []) (c_X3_isUp l) m_yX3_isUp kM_RX9_51 (hput_k 3 (by decide)) rfl rfl rfl rfl rfl (Nat.le_of_ble_eq_true rfl) ⟨Nat.le_of_ble_eq_true rfl, Nat.le_of_ble_eq_true rfl, Nat.le_of_ble_eq_true rfl, Nat.le_of_ble_eq_true rfl⟩ dX9_setPort_17 ?_
    refine j_heap (h' := xput D h b S) (xput_st (i := 0) (by decide)).symm ?_
    refine j_iload_n X 2 dX9_setPort_20 rfl rfl ?_
    refine j_icmp_ne X (tgt := 27) dX9_setPort_21 (by decide) (fun c_21 => ?_) (fun c_21 => ?_)
    · refine j_aload_n X 0 dX9_setPort_27 rfl rfl ?_
      refine j_get X fG_RX9_25 xput_0 rfl rfl dX9_setPort_28 ?_
      refine j_aload_n X 0 dX9_setPort_31 rfl rfl ?_
      refine j_get X fG_RX9_10 xput_0 rfl rfl dX9_setPort_32 ?_
      refine j_callVv X (rest := []) (c_X1_record l hnx enx) m_yX1_record kM_RX9_56 (xput_k 88 (by decide)) rfl rfl rfl rfl rfl (Nat.le_of_ble_eq_true rfl) ⟨Nat.le_of_ble_eq_true rfl, Nat.le_of_ble_eq_true rfl, Nat.le_of_ble_eq_true rfl, Nat.le_of_ble_eq_true rfl⟩ dX9_setPort_35 ?_
      refine j_aload_n X 0 dX9_setPort_38 rfl rfl ?_
      refine j_get X fG_RX9_10 xput_0 rfl rfl dX9_setPort_39 ?_
      refine j_getN X fN_RX9_47 (xput_k 1 (by decide)) rfl rfl dX9_setPort_42 ?_
      refine j_iload_n X 1 dX9_setPort_45 rfl rfl ?_
      refine j_iload_n X 2 dX9_setPort_46 rfl rfl ?_
      refine j_heap (h' := hput D (xput D h b (xRec nx S)) (b + 1) ((xRec nx S).1 0)) (xput_st (i := 0) (by decide)) ?_
      refine j_callVv X (rest := []) (c_X3_turn l) m_yX3_turn kM_RX9_60 (hput_k 3 (by decide)) rfl rfl rfl rfl rfl (Nat.le_of_ble_eq_true rfl) ⟨Nat.le_of_ble_eq_true rfl, Nat.le_of_ble_eq_true rfl, Nat.le_of_ble_eq_true rfl, Nat.le_of_ble_eq_true rfl⟩ dX9_setPort_47 ?_
      refine j_heap (h' := xput D h b (xst (xRec nx S) 0 (pTurn ((xRec nx S).1 0) p up))) (xst_st (i := 0) (by decide)) ?_
      refine j_iload_n X 2 dX9_setPort_50 rfl rfl ?_
      refine j_if_ne X (tgt := 62) dX9_setPort_51 (by decide) (fun c_51 => ?_) (fun c_51 => ?_)
      · refine j_aload_n X 0 dX9_setPort_62 rfl rfl ?_
        refine j_get X fG_RX9_10 xput_0 rfl rfl dX9_setPort_63 ?_
        refine j_getN X fN_RX9_47 (xput_k 1 (by decide)) rfl rfl dX9_setPort_66 ?_
        refine j_heap (h' := hput D (xput D h b (xst (xRec nx S) 0 (pTurn ((xRec nx S).1 0) p up))) (b + 1) (pTurn ((xRec nx S).1 0) p up)) (xput_st (i := 0) (by decide)) ?_
        refine j_callVi X (rest := []) (c_X3_openOnes l) m_yX3_openOnes kM_RX9_68 (hput_k 3 (by decide)) rfl rfl rfl rfl rfl (Nat.le_of_ble_eq_true rfl) ⟨Nat.le_of_ble_eq_true rfl, Nat.le_of_ble_eq_true rfl, Nat.le_of_ble_eq_true rfl, Nat.le_of_ble_eq_true rfl⟩ dX9_setPort_69 ?_
        refine j_heap (h' := xput D h b (xst (xRec nx S) 0 (pTurn ((xRec nx S).1 0) p up))) (xput_st (i := 0) (by decide)).symm ?_
        refine j_callSi X (rest := []) (c_J6_bitCount_0f7a4 l) m_yJ6_bitCount_0f7a4 kM_RX9_72 rfl rfl (Nat.le_of_ble_eq_true rfl) ⟨Nat.le_of_ble_eq_true rfl, Nat.le_of_ble_eq_true rfl, Nat.le_of_ble_eq_true rfl, Nat.le_of_ble_eq_true rfl⟩ dX9_setPort_72 ?_
        exact j_iret X hr rfl (by first | with_reducible rfl | (simp only [xSetPort, if_neg c_4, if_neg c_21, if_neg c_51]; done) | (simp only [xSetPort, if_neg c_4, if_neg c_21, if_neg c_51]; rfl) | rfl) rfl (by first | with_reducible rfl | (simp only [xSetPort, if_neg c_4, if_neg c_21, if_neg c_51]; done) | (simp only [xSetPort, if_neg c_4, if_neg c_21, if_neg c_51]; rfl) | rfl) dX9_setPort_75
      · refine j_aload_n X 0 dX9_setPort_54 rfl rfl ?_
        refine j_get X fG_RX9_10 xput_0 rfl rfl dX9_setPort_55 ?_
        refine j_iload_n X 1 dX9_setPort_58 rfl rfl ?_
        refine j_heap (h' := hput D (xput D h b (xst (xRec nx S) 0 (pTurn ((xRec nx S).1 0) p up))) (b + 1) (pTurn ((xRec nx S).1 0) p up)) (xput_st (i := 0) (by decide)) ?_
        refine j_callVv X (rest := []) (c_X6_dropQueue l) m_yX6_dropQueue kM_RX9_64 hput_0 rfl rfl rfl rfl rfl (Nat.le_of_ble_eq_true rfl) ⟨Nat.le_of_ble_eq_true rfl, Nat.le_of_ble_eq_true rfl, Nat.le_of_ble_eq_true rfl, Nat.le_of_ble_eq_true rfl⟩ dX9_setPort_59 ?_
        refine j_heap (h' := xput D h b (xst (xRec nx S) 0 (sDrop (pTurn ((xRec nx S).1 0) p up) p))) (xst_st2 (i := 0) (by decide)) ?_
        refine j_aload_n X 0 dX9_setPort_62 rfl rfl ?_
        refine j_get X fG_RX9_10 xput_0 rfl rfl dX9_setPort_63 ?_
        refine j_getN X fN_RX9_47 (xput_k 1 (by decide)) rfl rfl dX9_setPort_66 ?_
        refine j_heap (h' := hput D (xput D h b (xst (xRec nx S) 0 (sDrop (pTurn ((xRec nx S).1 0) p up) p))) (b + 1) (sDrop (pTurn ((xRec nx S).1 0) p up) p)) (xput_st (i := 0) (by decide)) ?_
        refine j_callVi X (rest := []) (c_X3_openOnes l) m_yX3_openOnes kM_RX9_68 (hput_k 3 (by decide)) rfl rfl rfl rfl rfl (Nat.le_of_ble_eq_true rfl) ⟨Nat.le_of_ble_eq_true rfl, Nat.le_of_ble_eq_true rfl, Nat.le_of_ble_eq_true rfl, Nat.le_of_ble_eq_true rfl⟩ dX9_setPort_69 ?_
        refine j_heap (h' := xput D h b (xst (xRec nx S) 0 (sDrop (pTurn ((xRec nx S).1 0) p up) p))) (xput_st (i := 0) (by decide)).symm ?_
        refine j_callSi X (rest := []) (c_J6_bitCount_0f7a4 l) m_yJ6_bitCount_0f7a4 kM_RX9_72 rfl rfl (Nat.le_of_ble_eq_true rfl) ⟨Nat.le_of_ble_eq_true rfl, Nat.le_of_ble_eq_true rfl, Nat.le_of_ble_eq_true rfl, Nat.le_of_ble_eq_true rfl⟩ dX9_setPort_72 ?_
        exact j_iret X hr rfl (by first | with_reducible rfl | (simp only [xSetPort, if_neg c_4, if_neg c_21, if_pos c_51]; done) | (simp only [xSetPort, if_neg c_4, if_neg c_21, if_pos c_51]; rfl) | rfl) rfl (by first | with_reducible rfl | (simp only [xSetPort, if_neg c_4, if_neg c_21, if_pos c_51]; done) | (simp only [xSetPort, if_neg c_4, if_neg c_21, if_pos c_51]; rfl) | rfl) dX9_setPort_75
    · refine j_bipush X (v := (-4)) dX9_setPort_24 (by decide) ?_
      exact j_iret X hr rfl (by first | with_reducible rfl | (simp only [xSetPort, if_neg c_4, if_pos c_21]; done) | (simp only [xSetPort, if_neg c_4, if_pos c_21]; rfl) | rfl) rfl (by first | with_reducible rfl | (simp only [xSetPort, if_neg c_4, if_pos c_21]; done) | (simp only [xSetPort, if_neg c_4, if_pos c_21]; rfl) | rfl) dX9_setPort_26
  · refine j_iconst X (v := (-1)) dX9_setPort_7 (by decide) ?_
    exact j_iret X hr rfl (by first | with_reducible rfl | (simp only [xSetPort, if_pos c_4]; done) | (simp only [xSetPort, if_pos c_4]; rfl) | rfl) rfl (by first | with_reducible rfl | (simp only [xSetPort, if_pos c_4]; done) | (simp only [xSetPort, if_pos c_4]; rfl) | rfl) dX9_setPort_8
set_option maxRecDepth 100000 in
set_option maxHeartbeats 8000000 in
theorem c_X9_join (l : Launch) {D : DD} {B z : Nat} {h : HF} {b : Nat} {S : Sy} {p q : Int32} {nx : Nat} (hnx : nx < 4) (enx : S.2.1 1 = nI nx) : CT l yX9_join cX9_join 3 (some .int) 5 107 [.ref b, .int p, .int q] D B z (xput D h b S) (some (.int ((xJoin nx S p q).1))) 0 0 (xput D h b ((xJoin nx S p q).2)) := by
  refine CT.of (L := [(0, .ref b), (1, .int p), (2, .int q)]) (by decide +kernel) (Nat.le_of_ble_eq_true rfl) rfl ?_
  intro P E S0 M0 AR BL ME CO X hr hnm
  refine j_iload_n X 1 dX9_join_0 rfl rfl ?_
  refine j_callSi X (rest := []) (c_X9_isPort l) m_yX9_isPort kM_RX9_43 rfl rfl (Nat.le_of_ble_eq_true rfl) ⟨Nat.le_of_ble_eq_true rfl, Nat.le_of_ble_eq_true rfl, Nat.le_of_ble_eq_true rfl, Nat.le_of_ble_eq_true rfl⟩ dX9_join_1 ?_
  refine j_if_eq X (tgt := 14) dX9_join_4 (by decide) (fun c_4 => ?_) (fun c_4 => ?_)
  · refine j_iconst X (v := (-1)) dX9_join_14 (by decide) ?_
    exact j_iret X hr rfl (by first | with_reducible rfl | (simp only [xJoin, if_pos c_4]; done) | (simp only [xJoin, if_pos c_4]; rfl) | rfl) rfl (by first | with_reducible rfl | (simp only [xJoin, if_pos c_4]; done) | (simp only [xJoin, if_pos c_4]; rfl) | rfl) dX9_join_15
  · refine j_iload_n X 2 dX9_join_7 rfl rfl ?_
    refine j_callSi X (rest := []) (c_X9_isPort l) m_yX9_isPort kM_RX9_43 rfl rfl (Nat.le_of_ble_eq_true rfl) ⟨Nat.le_of_ble_eq_true rfl, Nat.le_of_ble_eq_true rfl, Nat.le_of_ble_eq_true rfl, Nat.le_of_ble_eq_true rfl⟩ dX9_join_8 ?_
    refine j_if_ne X (tgt := 16) dX9_join_11 (by decide) (fun c_11 => ?_) (fun c_11 => ?_)
    · refine j_iload_n X 1 dX9_join_16 rfl rfl ?_
      refine j_iload_n X 2 dX9_join_17 rfl rfl ?_
      refine j_icmp_ne X (tgt := 24) dX9_join_18 (by decide) (fun c_18 => ?_) (fun c_18 => ?_)
      · refine j_aload_n X 0 dX9_join_24 rfl rfl ?_
        refine j_get X fG_RX9_10 xput_0 rfl rfl dX9_join_25 ?_
        refine j_getN X fN_RX9_47 (xput_k 1 (by decide)) rfl rfl dX9_join_28 ?_
        refine j_iload_n X 1 dX9_join_31 rfl rfl ?_
        refine j_heap (h' := hput D (xput D h b S) (b + 1) (S.1 0)) (xput_st (i := 0) (by decide)) ?_
        refine j_callVi X (rest := []) (c_X3_farEnd l) m_yX3_farEnd kM_RX9_78 (hput_k 3 (by decide)) rfl rfl rfl rfl rfl (Nat.le_of_ble_eq_true rfl) ⟨Nat.le_of_ble_eq_true rfl, Nat.le_of_ble_eq_true rfl, Nat.le_of_ble_eq_true rfl, Nat.le_of_ble_eq_true rfl⟩ dX9_join_32 ?_
        refine j_heap (h' := xput D h b S) (xput_st (i := 0) (by decide)).symm ?_
        refine j_bipush X (v := (-4)) dX9_join_35 (by decide) ?_
        refine j_icmp_ne X (tgt := 56) dX9_join_37 (by decide) (fun c_37 => ?_) (fun c_37 => ?_)
        · refine j_bipush X (v := (-3)) dX9_join_56 (by decide) ?_
          exact j_iret X hr rfl (by first | with_reducible rfl | (simp only [xJoin, if_neg c_4, if_neg c_11, if_neg c_18, if_neg c_37]; done) | (simp only [xJoin, if_neg c_4, if_neg c_11, if_neg c_18, if_neg c_37]; rfl) | rfl) rfl (by first | with_reducible rfl | (simp only [xJoin, if_neg c_4, if_neg c_11, if_neg c_18, if_neg c_37]; done) | (simp only [xJoin, if_neg c_4, if_neg c_11, if_neg c_18, if_neg c_37]; rfl) | rfl) dX9_join_58
        · refine j_aload_n X 0 dX9_join_40 rfl rfl ?_
          refine j_get X fG_RX9_10 xput_0 rfl rfl dX9_join_41 ?_
          refine j_getN X fN_RX9_47 (xput_k 1 (by decide)) rfl rfl dX9_join_44 ?_
          refine j_iload_n X 2 dX9_join_47 rfl rfl ?_
          refine j_heap (h' := hput D (xput D h b S) (b + 1) (S.1 0)) (xput_st (i := 0) (by decide)) ?_
          refine j_callVi X (rest := []) (c_X3_farEnd l) m_yX3_farEnd kM_RX9_78 (hput_k 3 (by decide)) rfl rfl rfl rfl rfl (Nat.le_of_ble_eq_true rfl) ⟨Nat.le_of_ble_eq_true rfl, Nat.le_of_ble_eq_true rfl, Nat.le_of_ble_eq_true rfl, Nat.le_of_ble_eq_true rfl⟩ dX9_join_48 ?_
          refine j_heap (h' := xput D h b S) (xput_st (i := 0) (by decide)).symm ?_
          refine j_bipush X (v := (-4)) dX9_join_51 (by decide) ?_
          refine j_icmp_eq X (tgt := 59) dX9_join_53 (by decide) (fun c_53 => ?_) (fun c_53 => ?_)
          · refine j_aload_n X 0 dX9_join_59 rfl rfl ?_
            refine j_get X fG_RX9_25 xput_0 rfl rfl dX9_join_60 ?_
            refine j_aload_n X 0 dX9_join_63 rfl rfl ?_
            refine j_get X fG_RX9_10 xput_0 rfl rfl dX9_join_64 ?_
            refine j_callVv X (rest := []) (c_X1_record l hnx enx) m_yX1_record kM_RX9_56 (xput_k 88 (by decide)) rfl rfl rfl rfl rfl (Nat.le_of_ble_eq_true rfl) ⟨Nat.le_of_ble_eq_true rfl, Nat.le_of_ble_eq_true rfl, Nat.le_of_ble_eq_true rfl, Nat.le_of_ble_eq_true rfl⟩ dX9_join_67 ?_
            refine j_aload_n X 0 dX9_join_70 rfl rfl ?_
            refine j_get X fG_RX9_10 xput_0 rfl rfl dX9_join_71 ?_
            refine j_getN X fN_RX9_47 (xput_k 1 (by decide)) rfl rfl dX9_join_74 ?_
            refine j_iload_n X 1 dX9_join_77 rfl rfl ?_
            refine j_iload_n X 2 dX9_join_78 rfl rfl ?_
            refine j_heap (h' := hput D (xput D h b (xRec nx S)) (b + 1) ((xRec nx S).1 0)) (xput_st (i := 0) (by decide)) ?_
            refine j_callVv X (rest := []) (c_X3_tie l) m_yX3_tie kM_RX9_81 (hput_k 3 (by decide)) rfl rfl rfl rfl rfl (Nat.le_of_ble_eq_true rfl) ⟨Nat.le_of_ble_eq_true rfl, Nat.le_of_ble_eq_true rfl, Nat.le_of_ble_eq_true rfl, Nat.le_of_ble_eq_true rfl⟩ dX9_join_79 ?_
            refine j_heap (h' := xput D h b (xst (xRec nx S) 0 (pTie ((xRec nx S).1 0) p q))) (xst_st (i := 0) (by decide)) ?_
            refine j_aload_n X 0 dX9_join_82 rfl rfl ?_
            refine j_get X fG_RX9_10 xput_0 rfl rfl dX9_join_83 ?_
            refine j_getN X fN_RX9_47 (xput_k 1 (by decide)) rfl rfl dX9_join_86 ?_
            refine j_heap (h' := hput D (xput D h b (xst (xRec nx S) 0 (pTie ((xRec nx S).1 0) p q))) (b + 1) (pTie ((xRec nx S).1 0) p q)) (xput_st (i := 0) (by decide)) ?_
            refine j_callVi X (rest := []) (c_X3_cables l) m_yX3_cables kM_RX9_85 (hput_k 3 (by decide)) rfl rfl rfl rfl rfl (Nat.le_of_ble_eq_true rfl) ⟨Nat.le_of_ble_eq_true rfl, Nat.le_of_ble_eq_true rfl, Nat.le_of_ble_eq_true rfl, Nat.le_of_ble_eq_true rfl⟩ dX9_join_89 ?_
            refine j_heap (h' := xput D h b (xst (xRec nx S) 0 (pTie ((xRec nx S).1 0) p q))) (xput_st (i := 0) (by decide)).symm ?_
            exact j_iret X hr rfl (by first | with_reducible rfl | (simp only [xJoin, if_neg c_4, if_neg c_11, if_neg c_18, if_pos c_37, if_pos c_53]; done) | (simp only [xJoin, if_neg c_4, if_neg c_11, if_neg c_18, if_pos c_37, if_pos c_53]; rfl) | rfl) rfl (by first | with_reducible rfl | (simp only [xJoin, if_neg c_4, if_neg c_11, if_neg c_18, if_pos c_37, if_pos c_53]; done) | (simp only [xJoin, if_neg c_4, if_neg c_11, if_neg c_18, if_pos c_37, if_pos c_53]; rfl) | rfl) dX9_join_92
          · refine j_bipush X (v := (-3)) dX9_join_56 (by decide) ?_
            exact j_iret X hr rfl (by first | with_reducible rfl | (simp only [xJoin, if_neg c_4, if_neg c_11, if_neg c_18, if_pos c_37, if_neg c_53]; done) | (simp only [xJoin, if_neg c_4, if_neg c_11, if_neg c_18, if_pos c_37, if_neg c_53]; rfl) | rfl) rfl (by first | with_reducible rfl | (simp only [xJoin, if_neg c_4, if_neg c_11, if_neg c_18, if_pos c_37, if_neg c_53]; done) | (simp only [xJoin, if_neg c_4, if_neg c_11, if_neg c_18, if_pos c_37, if_neg c_53]; rfl) | rfl) dX9_join_58
      · refine j_bipush X (v := (-2)) dX9_join_21 (by decide) ?_
        exact j_iret X hr rfl (by first | with_reducible rfl | (simp only [xJoin, if_neg c_4, if_neg c_11, if_pos c_18]; done) | (simp only [xJoin, if_neg c_4, if_neg c_11, if_pos c_18]; rfl) | rfl) rfl (by first | with_reducible rfl | (simp only [xJoin, if_neg c_4, if_neg c_11, if_pos c_18]; done) | (simp only [xJoin, if_neg c_4, if_neg c_11, if_pos c_18]; rfl) | rfl) dX9_join_23
    · refine j_iconst X (v := (-1)) dX9_join_14 (by decide) ?_
      exact j_iret X hr rfl (by first | with_reducible rfl | (simp only [xJoin, if_neg c_4, if_pos c_11]; done) | (simp only [xJoin, if_neg c_4, if_pos c_11]; rfl) | rfl) rfl (by first | with_reducible rfl | (simp only [xJoin, if_neg c_4, if_pos c_11]; done) | (simp only [xJoin, if_neg c_4, if_pos c_11]; rfl) | rfl) dX9_join_15
set_option maxRecDepth 100000 in
set_option maxHeartbeats 8000000 in
theorem c_X9_part (l : Launch) {D : DD} {B z : Nat} {h : HF} {b : Nat} {S : Sy} {p : Int32} {nx : Nat} (hnx : nx < 4) (enx : S.2.1 1 = nI nx) : CT l yX9_part cX9_part 3 (some .int) 5 107 [.ref b, .int p] D B z (xput D h b S) (some (.int ((xPartC nx S p).1))) 0 0 (xput D h b ((xPartC nx S p).2)) := by
  refine CT.of (L := [(0, .ref b), (1, .int p)]) (by decide +kernel) (Nat.le_of_ble_eq_true rfl) rfl ?_
  intro P E S0 M0 AR BL ME CO X hr hnm
  refine j_iload_n X 1 dX9_part_0 rfl rfl ?_
  refine j_callSi X (rest := []) (c_X9_isPort l) m_yX9_isPort kM_RX9_43 rfl rfl (Nat.le_of_ble_eq_true rfl) ⟨Nat.le_of_ble_eq_true rfl, Nat.le_of_ble_eq_true rfl, Nat.le_of_ble_eq_true rfl, Nat.le_of_ble_eq_true rfl⟩ dX9_part_1 ?_
  refine j_if_ne X (tgt := 9) dX9_part_4 (by decide) (fun c_4 => ?_) (fun c_4 => ?_)
  · refine j_aload_n X 0 dX9_part_9 rfl rfl ?_
    refine j_get X fG_RX9_10 xput_0 rfl rfl dX9_part_10 ?_
    refine j_getN X fN_RX9_47 (xput_k 1 (by decide)) rfl rfl dX9_part_13 ?_
    refine j_iload_n X 1 dX9_part_16 rfl rfl ?_
    refine j_heap (h' := hput D (xput D h b S) (b + 1) (S.1 0)) (xput_st (i := 0) (by decide)) ?_
    refine j_callVi X (rest := []) (c_X3_farEnd l) m_yX3_farEnd kM_RX9_78 (hput_k 3 (by decide)) rfl rfl rfl rfl rfl (Nat.le_of_ble_eq_true rfl) ⟨Nat.le_of_ble_eq_true rfl, Nat.le_of_ble_eq_true rfl, Nat.le_of_ble_eq_true rfl, Nat.le_of_ble_eq_true rfl⟩ dX9_part_17 ?_
    refine j_heap (h' := xput D h b S) (xput_st (i := 0) (by decide)).symm ?_
    refine j_tops (fun v1 ev1 => ?_)
    refine j_istore_n X (L' := [(2, .int v1), (0, .ref b), (1, .int p)]) dX9_part_20 rfl (by decide) rfl ?_
    refine j_iload_n X 0 dX9_part_21 rfl rfl ?_
    refine j_bipush X (v := (-4)) dX9_part_22 (by decide) ?_
    refine j_icmp_ne X (tgt := 30) dX9_part_24 (by decide) (fun c_24 => ?_) (fun c_24 => ?_)
    · refine j_aload_n X 1 dX9_part_30 rfl rfl ?_
      refine j_get X fG_RX9_25 xput_0 rfl rfl dX9_part_31 ?_
      refine j_aload_n X 1 dX9_part_34 rfl rfl ?_
      refine j_get X fG_RX9_10 xput_0 rfl rfl dX9_part_35 ?_
      refine j_callVv X (rest := []) (c_X1_record l hnx enx) m_yX1_record kM_RX9_56 (xput_k 88 (by decide)) rfl rfl rfl rfl rfl (Nat.le_of_ble_eq_true rfl) ⟨Nat.le_of_ble_eq_true rfl, Nat.le_of_ble_eq_true rfl, Nat.le_of_ble_eq_true rfl, Nat.le_of_ble_eq_true rfl⟩ dX9_part_38 ?_
      refine j_aload_n X 1 dX9_part_41 rfl rfl ?_
      refine j_get X fG_RX9_10 xput_0 rfl rfl dX9_part_42 ?_
      refine j_getN X fN_RX9_47 (xput_k 1 (by decide)) rfl rfl dX9_part_45 ?_
      refine j_iload_n X 2 dX9_part_48 rfl rfl ?_
      refine j_iload_n X 0 dX9_part_49 rfl rfl ?_
      refine j_heap (h' := hput D (xput D h b (xRec nx S)) (b + 1) ((xRec nx S).1 0)) (xput_st (i := 0) (by decide)) ?_
      refine j_callVv X (rest := []) (c_X3_untie l) m_yX3_untie kM_RX9_88 (hput_k 3 (by decide)) rfl rfl rfl rfl rfl (Nat.le_of_ble_eq_true rfl) ⟨Nat.le_of_ble_eq_true rfl, Nat.le_of_ble_eq_true rfl, Nat.le_of_ble_eq_true rfl, Nat.le_of_ble_eq_true rfl⟩ dX9_part_50 ?_
      refine j_heap (h' := xput D h b (xst (xRec nx S) 0 (pUntie ((xRec nx S).1 0) p v1))) (xst_st (i := 0) (by decide)) ?_
      refine j_iload_n X 0 dX9_part_53 rfl rfl ?_
      exact j_iret X hr rfl (by subst ev1; first | with_reducible rfl | (simp only [xPartC, if_neg c_4, if_neg c_24]; done) | (simp only [xPartC, if_neg c_4, if_neg c_24]; rfl) | rfl) rfl (by subst ev1; first | with_reducible rfl | (simp only [xPartC, if_neg c_4, if_neg c_24]; done) | (simp only [xPartC, if_neg c_4, if_neg c_24]; rfl) | rfl) dX9_part_54
    · refine j_bipush X (v := (-4)) dX9_part_27 (by decide) ?_
      exact j_iret X hr rfl (by subst ev1; first | with_reducible rfl | (simp only [xPartC, if_neg c_4, if_pos c_24]; done) | (simp only [xPartC, if_neg c_4, if_pos c_24]; rfl) | rfl) rfl (by subst ev1; first | with_reducible rfl | (simp only [xPartC, if_neg c_4, if_pos c_24]; done) | (simp only [xPartC, if_neg c_4, if_pos c_24]; rfl) | rfl) dX9_part_29
  · refine j_iconst X (v := (-1)) dX9_part_7 (by decide) ?_
    exact j_iret X hr rfl (by first | with_reducible rfl | (simp only [xPartC, if_pos c_4]; done) | (simp only [xPartC, if_pos c_4]; rfl) | rfl) rfl (by first | with_reducible rfl | (simp only [xPartC, if_pos c_4]; done) | (simp only [xPartC, if_pos c_4]; rfl) | rfl) dX9_part_8
set_option maxRecDepth 100000 in
set_option maxHeartbeats 8000000 in
theorem c_X9_release (l : Launch) {D : DD} {B z : Nat} {h : HF} {b : Nat} {S : Sy} {p : Int32} {nx : Nat} (hnx : nx < 4) (enx : S.2.1 1 = nI nx) : CT l yX9_release cX9_release 3 (some .int) 5 107 [.ref b, .int p] D B z (xput D h b S) (some (.int ((xRelease nx S p).1))) 0 0 (xput D h b ((xRelease nx S p).2)) := by
  refine CT.of (L := [(0, .ref b), (1, .int p)]) (by decide +kernel) (Nat.le_of_ble_eq_true rfl) rfl ?_
  intro P E S0 M0 AR BL ME CO X hr hnm
  refine j_iload_n X 1 dX9_release_0 rfl rfl ?_
  refine j_callSi X (rest := []) (c_X9_isPort l) m_yX9_isPort kM_RX9_43 rfl rfl (Nat.le_of_ble_eq_true rfl) ⟨Nat.le_of_ble_eq_true rfl, Nat.le_of_ble_eq_true rfl, Nat.le_of_ble_eq_true rfl, Nat.le_of_ble_eq_true rfl⟩ dX9_release_1 ?_
  refine j_if_ne X (tgt := 9) dX9_release_4 (by decide) (fun c_4 => ?_) (fun c_4 => ?_)
  · refine j_aload_n X 0 dX9_release_9 rfl rfl ?_
    refine j_get X fG_RX9_10 xput_0 rfl rfl dX9_release_10 ?_
    refine j_getN X fN_RX9_47 (xput_k 1 (by decide)) rfl rfl dX9_release_13 ?_
    refine j_iload_n X 1 dX9_release_16 rfl rfl ?_
    refine j_heap (h' := hput D (xput D h b S) (b + 1) (S.1 0)) (xput_st (i := 0) (by decide)) ?_
    refine j_callVi X (rest := []) (c_X3_secondsLeft l) m_yX3_secondsLeft kM_RX9_91 (hput_k 3 (by decide)) rfl rfl rfl rfl rfl (Nat.le_of_ble_eq_true rfl) ⟨Nat.le_of_ble_eq_true rfl, Nat.le_of_ble_eq_true rfl, Nat.le_of_ble_eq_true rfl, Nat.le_of_ble_eq_true rfl⟩ dX9_release_17 ?_
    refine j_heap (h' := xput D h b S) (xput_st (i := 0) (by decide)).symm ?_
    refine j_tops (fun v1 ev1 => ?_)
    refine j_istore_n X (L' := [(2, .int v1), (0, .ref b), (1, .int p)]) dX9_release_20 rfl (by decide) rfl ?_
    refine j_iload_n X 0 dX9_release_21 rfl rfl ?_
    refine j_if_ne X (tgt := 28) dX9_release_22 (by decide) (fun c_22 => ?_) (fun c_22 => ?_)
    · refine j_aload_n X 1 dX9_release_28 rfl rfl ?_
      refine j_get X fG_RX9_25 xput_0 rfl rfl dX9_release_29 ?_
      refine j_aload_n X 1 dX9_release_32 rfl rfl ?_
      refine j_get X fG_RX9_10 xput_0 rfl rfl dX9_release_33 ?_
      refine j_callVv X (rest := []) (c_X1_record l hnx enx) m_yX1_record kM_RX9_56 (xput_k 88 (by decide)) rfl rfl rfl rfl rfl (Nat.le_of_ble_eq_true rfl) ⟨Nat.le_of_ble_eq_true rfl, Nat.le_of_ble_eq_true rfl, Nat.le_of_ble_eq_true rfl, Nat.le_of_ble_eq_true rfl⟩ dX9_release_36 ?_
      refine j_aload_n X 1 dX9_release_39 rfl rfl ?_
      refine j_get X fG_RX9_10 xput_0 rfl rfl dX9_release_40 ?_
      refine j_getN X fN_RX9_47 (xput_k 1 (by decide)) rfl rfl dX9_release_43 ?_
      refine j_iload_n X 2 dX9_release_46 rfl rfl ?_
      refine j_heap (h' := hput D (xput D h b (xRec nx S)) (b + 1) ((xRec nx S).1 0)) (xput_st (i := 0) (by decide)) ?_
      refine j_callVv X (rest := []) (c_X3_endQuarantine l) m_yX3_endQuarantine kM_RX9_94 (hput_k 3 (by decide)) rfl rfl rfl rfl rfl (Nat.le_of_ble_eq_true rfl) ⟨Nat.le_of_ble_eq_true rfl, Nat.le_of_ble_eq_true rfl, Nat.le_of_ble_eq_true rfl, Nat.le_of_ble_eq_true rfl⟩ dX9_release_47 ?_
      refine j_heap (h' := xput D h b (xst (xRec nx S) 0 (pEnd ((xRec nx S).1 0) p))) (xst_st (i := 0) (by decide)) ?_
      refine j_iload_n X 0 dX9_release_50 rfl rfl ?_
      exact j_iret X hr rfl (by subst ev1; first | with_reducible rfl | (simp only [xRelease, if_neg c_4, if_neg c_22]; done) | (simp only [xRelease, if_neg c_4, if_neg c_22]; rfl) | rfl) rfl (by subst ev1; first | with_reducible rfl | (simp only [xRelease, if_neg c_4, if_neg c_22]; done) | (simp only [xRelease, if_neg c_4, if_neg c_22]; rfl) | rfl) dX9_release_51
    · refine j_bipush X (v := (-4)) dX9_release_25 (by decide) ?_
      exact j_iret X hr rfl (by subst ev1; first | with_reducible rfl | (simp only [xRelease, if_neg c_4, if_pos c_22]; done) | (simp only [xRelease, if_neg c_4, if_pos c_22]; rfl) | rfl) rfl (by subst ev1; first | with_reducible rfl | (simp only [xRelease, if_neg c_4, if_pos c_22]; done) | (simp only [xRelease, if_neg c_4, if_pos c_22]; rfl) | rfl) dX9_release_27
  · refine j_iconst X (v := (-1)) dX9_release_7 (by decide) ?_
    exact j_iret X hr rfl (by first | with_reducible rfl | (simp only [xRelease, if_pos c_4]; done) | (simp only [xRelease, if_pos c_4]; rfl) | rfl) rfl (by first | with_reducible rfl | (simp only [xRelease, if_pos c_4]; done) | (simp only [xRelease, if_pos c_4]; rfl) | rfl) dX9_release_8
set_option maxRecDepth 100000 in
set_option maxHeartbeats 8000000 in
theorem c_X9_set (l : Launch) {D : DD} {B z : Nat} {h : HF} {b : Nat} {S : Sy} {w v : Int32} {nx : Nat} (hnx : nx < 4) (enx : S.2.1 1 = nI nx) : CT l yX9_set cX9_set 4 (some .int) 5 107 [.ref b, .int w, .int v] D B z (xput D h b S) (some (.int ((xSet nx S w v).1))) 0 0 (xput D h b ((xSet nx S w v).2)) := by
  refine CT.of (L := [(0, .ref b), (1, .int w), (2, .int v)]) (by decide +kernel) (Nat.le_of_ble_eq_true rfl) rfl ?_
  intro P E S0 M0 AR BL ME CO X hr hnm
  refine j_iload_n X 1 dX9_set_0 rfl rfl ?_
  refine j_callSi X (rest := []) (c_X9_isSetting l) m_yX9_isSetting kM_RX9_97 rfl rfl (Nat.le_of_ble_eq_true rfl) ⟨Nat.le_of_ble_eq_true rfl, Nat.le_of_ble_eq_true rfl, Nat.le_of_ble_eq_true rfl, Nat.le_of_ble_eq_true rfl⟩ dX9_set_1 ?_
  refine j_if_eq X (tgt := 21) dX9_set_4 (by decide) (fun c_4 => ?_) (fun c_4 => ?_)
  · refine j_bipush X (v := (-2)) dX9_set_21 (by decide) ?_
    exact j_iret X hr rfl (by first | with_reducible rfl | (simp only [xSet, if_pos c_4]; done) | (simp only [xSet, if_pos c_4]; rfl) | rfl) rfl (by first | with_reducible rfl | (simp only [xSet, if_pos c_4]; done) | (simp only [xSet, if_pos c_4]; rfl) | rfl) dX9_set_23
  · refine j_iload_n X 2 dX9_set_7 rfl rfl ?_
    refine j_iconst X (v := 1) dX9_set_8 (by decide) ?_
    refine j_icmp_lt X (tgt := 21) dX9_set_9 (by decide) (fun c_9 => ?_) (fun c_9 => ?_)
    · refine j_bipush X (v := (-2)) dX9_set_21 (by decide) ?_
      exact j_iret X hr rfl (by first | with_reducible rfl | (simp only [xSet, if_neg c_4, if_pos c_9]; done) | (simp only [xSet, if_neg c_4, if_pos c_9]; rfl) | rfl) rfl (by first | with_reducible rfl | (simp only [xSet, if_neg c_4, if_pos c_9]; done) | (simp only [xSet, if_neg c_4, if_pos c_9]; rfl) | rfl) dX9_set_23
    · refine j_iload_n X 2 dX9_set_12 rfl rfl ?_
      refine j_getG X kF_RX9_100 dX9_set_13 ?_
      refine j_iload_n X 1 dX9_set_16 rfl rfl ?_
      refine j_ldG X (isSet_in c_4) dX9_set_17 ?_
      refine j_icmp_le X (tgt := 24) dX9_set_18 (by decide) (fun c_18 => ?_) (fun c_18 => ?_)
      · refine j_aload_n X 0 dX9_set_24 rfl rfl ?_
        refine j_get X fG_RX9_10 xput_0 rfl rfl dX9_set_25 ?_
        refine j_getN X fN_RX9_104 (xput_k 1 (by decide)) rfl rfl dX9_set_28 ?_
        refine j_iload_n X 1 dX9_set_31 rfl rfl ?_
        refine j_heap (h' := hput D (xput D h b S) (b + 1) (S.1 0)) (xput_st (i := 0) (by decide)) ?_
        refine j_callVi X (rest := []) (s_at0 l) m_yX5_at kM_RX9_108 (hput_k 1 (by decide)) rfl rfl rfl rfl rfl (Nat.le_of_ble_eq_true rfl) ⟨Nat.le_of_ble_eq_true rfl, Nat.le_of_ble_eq_true rfl, Nat.le_of_ble_eq_true rfl, Nat.le_of_ble_eq_true rfl⟩ dX9_set_32 ?_
        refine j_heap (h' := xput D h b S) (xput_st (i := 0) (by decide)).symm ?_
        refine j_tops (fun v1 ev1 => ?_)
        refine j_istore_n X (L' := [(3, .int v1), (0, .ref b), (1, .int w), (2, .int v)]) dX9_set_35 rfl (by decide) rfl ?_
        refine j_iload_n X 0 dX9_set_36 rfl rfl ?_
        refine j_iload_n X 3 dX9_set_37 rfl rfl ?_
        refine j_icmp_ne X (tgt := 44) dX9_set_38 (by decide) (fun c_38 => ?_) (fun c_38 => ?_)
        · refine j_aload_n X 1 dX9_set_44 rfl rfl ?_
          refine j_get X fG_RX9_25 xput_0 rfl rfl dX9_set_45 ?_
          refine j_aload_n X 1 dX9_set_48 rfl rfl ?_
          refine j_get X fG_RX9_10 xput_0 rfl rfl dX9_set_49 ?_
          refine j_callVv X (rest := []) (c_X1_record l hnx enx) m_yX1_record kM_RX9_56 (xput_k 88 (by decide)) rfl rfl rfl rfl rfl (Nat.le_of_ble_eq_true rfl) ⟨Nat.le_of_ble_eq_true rfl, Nat.le_of_ble_eq_true rfl, Nat.le_of_ble_eq_true rfl, Nat.le_of_ble_eq_true rfl⟩ dX9_set_52 ?_
          refine j_aload_n X 1 dX9_set_55 rfl rfl ?_
          refine j_get X fG_RX9_10 xput_0 rfl rfl dX9_set_56 ?_
          refine j_getN X fN_RX9_104 (xput_k 1 (by decide)) rfl rfl dX9_set_59 ?_
          refine j_iload_n X 2 dX9_set_62 rfl rfl ?_
          refine j_iload_n X 3 dX9_set_63 rfl rfl ?_
          refine j_heap (h' := hput D (xput D h b (xRec nx S)) (b + 1) ((xRec nx S).1 0)) (xput_st (i := 0) (by decide)) ?_
          refine j_callVv X (rest := []) (s_put0 l) m_yX5_put kM_RX9_113 (hput_k 1 (by decide)) rfl rfl rfl rfl rfl (Nat.le_of_ble_eq_true rfl) ⟨Nat.le_of_ble_eq_true rfl, Nat.le_of_ble_eq_true rfl, Nat.le_of_ble_eq_true rfl, Nat.le_of_ble_eq_true rfl⟩ dX9_set_64 ?_
          refine j_heap (h' := xput D h b (xst (xRec nx S) 0 (oPut 0 4 ((xRec nx S).1 0) w v))) (xst_st (i := 0) (by decide)) ?_
          refine j_iload_n X 0 dX9_set_67 rfl rfl ?_
          exact j_iret X hr rfl (by subst ev1; first | with_reducible rfl | (simp only [xSet, if_neg c_4, if_neg c_9, if_neg c_18, if_neg c_38]; done) | (simp only [xSet, if_neg c_4, if_neg c_9, if_neg c_18, if_neg c_38]; rfl) | rfl) rfl (by subst ev1; first | with_reducible rfl | (simp only [xSet, if_neg c_4, if_neg c_9, if_neg c_18, if_neg c_38]; done) | (simp only [xSet, if_neg c_4, if_neg c_9, if_neg c_18, if_neg c_38]; rfl) | rfl) dX9_set_68
        · refine j_bipush X (v := (-4)) dX9_set_41 (by decide) ?_
          exact j_iret X hr rfl (by subst ev1; first | with_reducible rfl | (simp only [xSet, if_neg c_4, if_neg c_9, if_neg c_18, if_pos c_38]; done) | (simp only [xSet, if_neg c_4, if_neg c_9, if_neg c_18, if_pos c_38]; rfl) | rfl) rfl (by subst ev1; first | with_reducible rfl | (simp only [xSet, if_neg c_4, if_neg c_9, if_neg c_18, if_pos c_38]; done) | (simp only [xSet, if_neg c_4, if_neg c_9, if_neg c_18, if_pos c_38]; rfl) | rfl) dX9_set_43
      · refine j_bipush X (v := (-2)) dX9_set_21 (by decide) ?_
        exact j_iret X hr rfl (by first | with_reducible rfl | (simp only [xSet, if_neg c_4, if_neg c_9, if_pos c_18]; done) | (simp only [xSet, if_neg c_4, if_neg c_9, if_pos c_18]; rfl) | rfl) rfl (by first | with_reducible rfl | (simp only [xSet, if_neg c_4, if_neg c_9, if_pos c_18]; done) | (simp only [xSet, if_neg c_4, if_neg c_9, if_pos c_18]; rfl) | rfl) dX9_set_23
set_option maxRecDepth 100000 in
set_option maxHeartbeats 8000000 in
theorem c_X9_frame (l : Launch) {D : DD} {B z : Nat} {h : HF} {b : Nat} {S : Sy} {p s d pr : Int32} {nx : Nat} (hnx : nx < 4) (enx : S.2.1 1 = nI nx) : CT l yX9_frame cX9_frame 5 (some .int) 5 124 [.ref b, .int p, .int s, .int d, .int pr] D B z (xput D h b S) (some (.int ((xFrame nx S p s d pr).1))) 0 0 (xput D h b ((xFrame nx S p s d pr).2)) := by
  refine CT.of (L := [(0, .ref b), (1, .int p), (2, .int s), (3, .int d), (4, .int pr)]) (by decide +kernel) (Nat.le_of_ble_eq_true rfl) rfl ?_
  intro P E S0 M0 AR BL ME CO X hr hnm
  refine j_iload_n X 1 dX9_frame_0 rfl rfl ?_
  refine j_callSi X (rest := []) (c_X9_isPort l) m_yX9_isPort kM_RX9_43 rfl rfl (Nat.le_of_ble_eq_true rfl) ⟨Nat.le_of_ble_eq_true rfl, Nat.le_of_ble_eq_true rfl, Nat.le_of_ble_eq_true rfl, Nat.le_of_ble_eq_true rfl⟩ dX9_frame_1 ?_
  refine j_if_ne X (tgt := 9) dX9_frame_4 (by decide) (fun c_4 => ?_) (fun c_4 => ?_)
  · refine j_iload_n X 2 dX9_frame_9 rfl rfl ?_
    refine j_callSi X (rest := []) (c_X9_isAddress l) m_yX9_isAddress kM_RX9_116 rfl rfl (Nat.le_of_ble_eq_true rfl) ⟨Nat.le_of_ble_eq_true rfl, Nat.le_of_ble_eq_true rfl, Nat.le_of_ble_eq_true rfl, Nat.le_of_ble_eq_true rfl⟩ dX9_frame_10 ?_
    refine j_if_eq X (tgt := 34) dX9_frame_13 (by decide) (fun c_13 => ?_) (fun c_13 => ?_)
    · refine j_bipush X (v := (-2)) dX9_frame_34 (by decide) ?_
      exact j_iret X hr rfl (by first | with_reducible rfl | (simp only [xFrame, if_neg c_4, if_pos c_13]; done) | (simp only [xFrame, if_neg c_4, if_pos c_13]; rfl) | rfl) rfl (by first | with_reducible rfl | (simp only [xFrame, if_neg c_4, if_pos c_13]; done) | (simp only [xFrame, if_neg c_4, if_pos c_13]; rfl) | rfl) dX9_frame_36
    · refine j_iload_n X 3 dX9_frame_16 rfl rfl ?_
      refine j_callSi X (rest := []) (c_X9_isDestination l) m_yX9_isDestination kM_RX9_119 rfl rfl (Nat.le_of_ble_eq_true rfl) ⟨Nat.le_of_ble_eq_true rfl, Nat.le_of_ble_eq_true rfl, Nat.le_of_ble_eq_true rfl, Nat.le_of_ble_eq_true rfl⟩ dX9_frame_17 ?_
      refine j_if_eq X (tgt := 34) dX9_frame_20 (by decide) (fun c_20 => ?_) (fun c_20 => ?_)
      · refine j_bipush X (v := (-2)) dX9_frame_34 (by decide) ?_
        exact j_iret X hr rfl (by first | with_reducible rfl | (simp only [xFrame, if_neg c_4, if_neg c_13, if_pos c_20]; done) | (simp only [xFrame, if_neg c_4, if_neg c_13, if_pos c_20]; rfl) | rfl) rfl (by first | with_reducible rfl | (simp only [xFrame, if_neg c_4, if_neg c_13, if_pos c_20]; done) | (simp only [xFrame, if_neg c_4, if_neg c_13, if_pos c_20]; rfl) | rfl) dX9_frame_36
      · refine j_iload X 4 dX9_frame_23 rfl ?_
        refine j_if_lt X (tgt := 34) dX9_frame_25 (by decide) (fun c_25 => ?_) (fun c_25 => ?_)
        · refine j_bipush X (v := (-2)) dX9_frame_34 (by decide) ?_
          exact j_iret X hr rfl (by first | with_reducible rfl | (simp only [xFrame, if_neg c_4, if_neg c_13, if_neg c_20, if_pos c_25]; done) | (simp only [xFrame, if_neg c_4, if_neg c_13, if_neg c_20, if_pos c_25]; rfl) | rfl) rfl (by first | with_reducible rfl | (simp only [xFrame, if_neg c_4, if_neg c_13, if_neg c_20, if_pos c_25]; done) | (simp only [xFrame, if_neg c_4, if_neg c_13, if_neg c_20, if_pos c_25]; rfl) | rfl) dX9_frame_36
        · refine j_iload X 4 dX9_frame_28 rfl ?_
          refine j_iconst X (v := 3) dX9_frame_30 (by decide) ?_
          refine j_icmp_le X (tgt := 37) dX9_frame_31 (by decide) (fun c_31 => ?_) (fun c_31 => ?_)
          · refine j_aload_n X 0 dX9_frame_37 rfl rfl ?_
            refine j_get X fG_RX9_25 xput_0 rfl rfl dX9_frame_38 ?_
            refine j_aload_n X 0 dX9_frame_41 rfl rfl ?_
            refine j_get X fG_RX9_10 xput_0 rfl rfl dX9_frame_42 ?_
            refine j_callVv X (rest := []) (c_X1_record l hnx enx) m_yX1_record kM_RX9_56 (xput_k 88 (by decide)) rfl rfl rfl rfl rfl (Nat.le_of_ble_eq_true rfl) ⟨Nat.le_of_ble_eq_true rfl, Nat.le_of_ble_eq_true rfl, Nat.le_of_ble_eq_true rfl, Nat.le_of_ble_eq_true rfl⟩ dX9_frame_45 ?_
            refine j_aload_n X 0 dX9_frame_48 rfl rfl ?_
            refine j_get X fG_RX9_10 xput_0 rfl rfl dX9_frame_49 ?_
            refine j_iload_n X 1 dX9_frame_52 rfl rfl ?_
            refine j_iload_n X 2 dX9_frame_53 rfl rfl ?_
            refine j_iload_n X 3 dX9_frame_54 rfl rfl ?_
            refine j_iload X 4 dX9_frame_55 rfl ?_
            refine j_heap (h' := hput D (xput D h b (xRec nx S)) (b + 1) ((xRec nx S).1 0)) (xput_st (i := 0) (by decide)) ?_
            refine j_callVi X (rest := []) (c_X6_comeIn l) m_yX6_comeIn kM_RX9_122 hput_0 rfl rfl rfl rfl rfl (Nat.le_of_ble_eq_true rfl) ⟨Nat.le_of_ble_eq_true rfl, Nat.le_of_ble_eq_true rfl, Nat.le_of_ble_eq_true rfl, Nat.le_of_ble_eq_true rfl⟩ dX9_frame_57 ?_
            refine j_heap (h' := xput D h b (xst (xRec nx S) 0 ((sCome ((xRec nx S).1 0) p s d pr).2))) (xst_st (i := 0) (by decide)) ?_
            exact j_iret X hr rfl (by first | with_reducible rfl | (simp only [xFrame, if_neg c_4, if_neg c_13, if_neg c_20, if_neg c_25, if_neg c_31]; done) | (simp only [xFrame, if_neg c_4, if_neg c_13, if_neg c_20, if_neg c_25, if_neg c_31]; rfl) | rfl) rfl (by first | with_reducible rfl | (simp only [xFrame, if_neg c_4, if_neg c_13, if_neg c_20, if_neg c_25, if_neg c_31]; done) | (simp only [xFrame, if_neg c_4, if_neg c_13, if_neg c_20, if_neg c_25, if_neg c_31]; rfl) | rfl) dX9_frame_60
          · refine j_bipush X (v := (-2)) dX9_frame_34 (by decide) ?_
            exact j_iret X hr rfl (by first | with_reducible rfl | (simp only [xFrame, if_neg c_4, if_neg c_13, if_neg c_20, if_neg c_25, if_pos c_31]; done) | (simp only [xFrame, if_neg c_4, if_neg c_13, if_neg c_20, if_neg c_25, if_pos c_31]; rfl) | rfl) rfl (by first | with_reducible rfl | (simp only [xFrame, if_neg c_4, if_neg c_13, if_neg c_20, if_neg c_25, if_pos c_31]; done) | (simp only [xFrame, if_neg c_4, if_neg c_13, if_neg c_20, if_neg c_25, if_pos c_31]; rfl) | rfl) dX9_frame_36
  · refine j_iconst X (v := (-1)) dX9_frame_7 (by decide) ?_
    exact j_iret X hr rfl (by first | with_reducible rfl | (simp only [xFrame, if_pos c_4]; done) | (simp only [xFrame, if_pos c_4]; rfl) | rfl) rfl (by first | with_reducible rfl | (simp only [xFrame, if_pos c_4]; done) | (simp only [xFrame, if_pos c_4]; rfl) | rfl) dX9_frame_8
set_option maxRecDepth 100000 in
set_option maxHeartbeats 8000000 in
theorem c_X9_forget (l : Launch) {D : DD} {B z : Nat} {h : HF} {b : Nat} {S : Sy} {x : Int32} {nx : Nat} (hnx : nx < 4) (enx : S.2.1 1 = nI nx) : CT l yX9_forget cX9_forget 3 (some .int) 5 107 [.ref b, .int x] D B z (xput D h b S) (some (.int ((xForget nx S x).1))) 0 0 (xput D h b ((xForget nx S x).2)) := by
  refine CT.of (L := [(0, .ref b), (1, .int x)]) (by decide +kernel) (Nat.le_of_ble_eq_true rfl) rfl ?_
  intro P E S0 M0 AR BL ME CO X hr hnm
  refine j_iload_n X 1 dX9_forget_0 rfl rfl ?_
  refine j_callSi X (rest := []) (c_X9_isAddress l) m_yX9_isAddress kM_RX9_116 rfl rfl (Nat.le_of_ble_eq_true rfl) ⟨Nat.le_of_ble_eq_true rfl, Nat.le_of_ble_eq_true rfl, Nat.le_of_ble_eq_true rfl, Nat.le_of_ble_eq_true rfl⟩ dX9_forget_1 ?_
  refine j_if_ne X (tgt := 10) dX9_forget_4 (by decide) (fun c_4 => ?_) (fun c_4 => ?_)
  · refine j_aload_n X 0 dX9_forget_10 rfl rfl ?_
    refine j_get X fG_RX9_10 xput_0 rfl rfl dX9_forget_11 ?_
    refine j_getN X fN_RX9_126 (xput_k 1 (by decide)) rfl rfl dX9_forget_14 ?_
    refine j_iload_n X 1 dX9_forget_17 rfl rfl ?_
    refine j_heap (h' := hput D (xput D h b S) (b + 1) (S.1 0)) (xput_st (i := 0) (by decide)) ?_
    refine j_callVi X (rest := []) (c_X7_portOf l) m_yX7_portOf kM_RX9_130 (hput_k 21 (by decide)) rfl rfl rfl rfl rfl (Nat.le_of_ble_eq_true rfl) ⟨Nat.le_of_ble_eq_true rfl, Nat.le_of_ble_eq_true rfl, Nat.le_of_ble_eq_true rfl, Nat.le_of_ble_eq_true rfl⟩ dX9_forget_18 ?_
    refine j_heap (h' := xput D h b S) (xput_st (i := 0) (by decide)).symm ?_
    refine j_tops (fun v1 ev1 => ?_)
    refine j_istore_n X (L' := [(2, .int v1), (0, .ref b), (1, .int x)]) dX9_forget_21 rfl (by decide) rfl ?_
    refine j_iload_n X 0 dX9_forget_22 rfl rfl ?_
    refine j_bipush X (v := (-4)) dX9_forget_23 (by decide) ?_
    refine j_icmp_ne X (tgt := 31) dX9_forget_25 (by decide) (fun c_25 => ?_) (fun c_25 => ?_)
    · refine j_aload_n X 1 dX9_forget_31 rfl rfl ?_
      refine j_get X fG_RX9_25 xput_0 rfl rfl dX9_forget_32 ?_
      refine j_aload_n X 1 dX9_forget_35 rfl rfl ?_
      refine j_get X fG_RX9_10 xput_0 rfl rfl dX9_forget_36 ?_
      refine j_callVv X (rest := []) (c_X1_record l hnx enx) m_yX1_record kM_RX9_56 (xput_k 88 (by decide)) rfl rfl rfl rfl rfl (Nat.le_of_ble_eq_true rfl) ⟨Nat.le_of_ble_eq_true rfl, Nat.le_of_ble_eq_true rfl, Nat.le_of_ble_eq_true rfl, Nat.le_of_ble_eq_true rfl⟩ dX9_forget_39 ?_
      refine j_aload_n X 1 dX9_forget_42 rfl rfl ?_
      refine j_get X fG_RX9_10 xput_0 rfl rfl dX9_forget_43 ?_
      refine j_getN X fN_RX9_126 (xput_k 1 (by decide)) rfl rfl dX9_forget_46 ?_
      refine j_iload_n X 2 dX9_forget_49 rfl rfl ?_
      refine j_heap (h' := hput D (xput D h b (xRec nx S)) (b + 1) ((xRec nx S).1 0)) (xput_st (i := 0) (by decide)) ?_
      refine j_callVv X (rest := []) (c_X7_remove l) m_yX7_remove kM_RX9_135 (hput_k 21 (by decide)) rfl rfl rfl rfl rfl (Nat.le_of_ble_eq_true rfl) ⟨Nat.le_of_ble_eq_true rfl, Nat.le_of_ble_eq_true rfl, Nat.le_of_ble_eq_true rfl, Nat.le_of_ble_eq_true rfl⟩ dX9_forget_50 ?_
      refine j_heap (h' := xput D h b (xst (xRec nx S) 0 (tRemove ((xRec nx S).1 0) x))) (xst_st (i := 0) (by decide)) ?_
      refine j_iload_n X 0 dX9_forget_53 rfl rfl ?_
      exact j_iret X hr rfl (by subst ev1; first | with_reducible rfl | (simp only [xForget, if_neg c_4, if_neg c_25]; done) | (simp only [xForget, if_neg c_4, if_neg c_25]; rfl) | rfl) rfl (by subst ev1; first | with_reducible rfl | (simp only [xForget, if_neg c_4, if_neg c_25]; done) | (simp only [xForget, if_neg c_4, if_neg c_25]; rfl) | rfl) dX9_forget_54
    · refine j_bipush X (v := (-4)) dX9_forget_28 (by decide) ?_
      exact j_iret X hr rfl (by subst ev1; first | with_reducible rfl | (simp only [xForget, if_neg c_4, if_pos c_25]; done) | (simp only [xForget, if_neg c_4, if_pos c_25]; rfl) | rfl) rfl (by subst ev1; first | with_reducible rfl | (simp only [xForget, if_neg c_4, if_pos c_25]; done) | (simp only [xForget, if_neg c_4, if_pos c_25]; rfl) | rfl) dX9_forget_30
  · refine j_bipush X (v := (-2)) dX9_forget_7 (by decide) ?_
    exact j_iret X hr rfl (by first | with_reducible rfl | (simp only [xForget, if_pos c_4]; done) | (simp only [xForget, if_pos c_4]; rfl) | rfl) rfl (by first | with_reducible rfl | (simp only [xForget, if_pos c_4]; done) | (simp only [xForget, if_pos c_4]; rfl) | rfl) dX9_forget_9
