set_option maxRecDepth 100000 in
set_option maxHeartbeats 8000000 in
theorem c_X6_waysOut (l : Launch) {D : DD} {B z : Nat} {h : HF} {a : Nat} {σ : St} {t p d : Int32} : CT l yX6_waysOut cX6_waysOut 4 (some .int) 3 64 [.ref a, .int t, .int p, .int d] D B z (hput D h a σ) (some (.int (sWaysOut σ t p d))) 0 0 (hput D h a σ) := by
  refine CT.of (L := [(0, .ref a), (1, .int t), (2, .int p), (3, .int d)]) (by decide +kernel) (Nat.le_of_ble_eq_true rfl) rfl ?_
  intro P E S0 M0 AR BL ME CO X hr hnm
  refine j_iload_n X 1 dX6_waysOut_0 rfl rfl ?_
  refine j_iconst X (v := 2) dX6_waysOut_1 (by decide) ?_
  refine j_icmp_ne X (tgt := 16) dX6_waysOut_2 (by decide) (fun c_2 => ?_) (fun c_2 => ?_)
  · refine j_iload_n X 1 dX6_waysOut_16 rfl rfl ?_
    refine j_iconst X (v := 3) dX6_waysOut_17 (by decide) ?_
    refine j_icmp_ne X (tgt := 37) dX6_waysOut_18 (by decide) (fun c_18 => ?_) (fun c_18 => ?_)
    · refine j_iconst X (v := 0) dX6_waysOut_37 (by decide) ?_
      exact j_iret X hr rfl (by first | with_reducible rfl | (simp only [sWaysOut, if_neg c_2, if_neg c_18]; done) | (simp only [sWaysOut, if_neg c_2, if_neg c_18]; rfl) | rfl) rfl (by first | with_reducible rfl | (simp only [sWaysOut, if_neg c_2, if_neg c_18]; done) | (simp only [sWaysOut, if_neg c_2, if_neg c_18]; rfl) | rfl) dX6_waysOut_38
    · refine j_aload_n X 0 dX6_waysOut_21 rfl rfl ?_
      refine j_get X fG_RX6_27 hput_0 rfl rfl dX6_waysOut_22 ?_
      refine j_callVi X (rest := []) (c_X3_openOnes l) m_yX3_openOnes kM_RX6_139 (hput_k 3 (by decide)) rfl rfl rfl rfl rfl (Nat.le_of_ble_eq_true rfl) ⟨Nat.le_of_ble_eq_true rfl, Nat.le_of_ble_eq_true rfl, Nat.le_of_ble_eq_true rfl, Nat.le_of_ble_eq_true rfl⟩ dX6_waysOut_25 ?_
      refine j_iconst X (v := 1) dX6_waysOut_28 (by decide) ?_
      refine j_iload_n X 2 dX6_waysOut_29 rfl rfl ?_
      refine j_ishl X dX6_waysOut_30 ?_
      refine j_iconst X (v := (-1)) dX6_waysOut_31 (by decide) ?_
      refine j_ixor X dX6_waysOut_32 ?_
      refine j_iand X dX6_waysOut_33 ?_
      refine j_goto X (tgt := 38) dX6_waysOut_34 (by decide) ?_
      exact j_iret X hr rfl (by first | with_reducible rfl | (simp only [sWaysOut, if_neg c_2, if_pos c_18]; done) | (simp only [sWaysOut, if_neg c_2, if_pos c_18]; rfl) | rfl) rfl (by first | with_reducible rfl | (simp only [sWaysOut, if_neg c_2, if_pos c_18]; done) | (simp only [sWaysOut, if_neg c_2, if_pos c_18]; rfl) | rfl) dX6_waysOut_38
  · refine j_iconst X (v := 1) dX6_waysOut_5 (by decide) ?_
    refine j_aload_n X 0 dX6_waysOut_6 rfl rfl ?_
    refine j_get X fG_RX6_41 hput_0 rfl rfl dX6_waysOut_7 ?_
    refine j_iload_n X 3 dX6_waysOut_10 rfl rfl ?_
    refine j_callVi X (rest := [.int 1]) (c_X7_portOf l) m_yX7_portOf kM_RX6_114 (hput_k 21 (by decide)) rfl rfl rfl rfl rfl (Nat.le_of_ble_eq_true rfl) ⟨Nat.le_of_ble_eq_true rfl, Nat.le_of_ble_eq_true rfl, Nat.le_of_ble_eq_true rfl, Nat.le_of_ble_eq_true rfl⟩ dX6_waysOut_11 ?_
    refine j_ishl X dX6_waysOut_14 ?_
    exact j_iret X hr rfl (by first | with_reducible rfl | (simp only [sWaysOut, if_pos c_2]; done) | (simp only [sWaysOut, if_pos c_2]; rfl) | rfl) rfl (by first | with_reducible rfl | (simp only [sWaysOut, if_pos c_2]; done) | (simp only [sWaysOut, if_pos c_2]; rfl) | rfl) dX6_waysOut_15
set_option maxRecDepth 100000 in
set_option maxHeartbeats 8000000 in
theorem c_X6_goOut (l : Launch) {D : DD} {B z : Nat} {h : HF} {a : Nat} {σ : St} {p s d pr : Int32} : CT l yX6_goOut cX6_goOut 5 none 3 73 [.ref a, .int p, .int s, .int d, .int pr] D B z (hput D h a σ) none 0 0 (hput D h a (sOut σ p s d pr)) := by
  refine CT.of (L := [(0, .ref a), (1, .int p), (2, .int s), (3, .int d), (4, .int pr)]) (by decide +kernel) (Nat.le_of_ble_eq_true rfl) rfl ?_
  intro P E S0 M0 AR BL ME CO X hr hnm
  refine j_aload_n X 0 dX6_goOut_0 rfl rfl ?_
  refine j_get X fG_RX6_34 hput_0 rfl rfl dX6_goOut_1 ?_
  refine j_iload_n X 1 dX6_goOut_4 rfl rfl ?_
  refine j_callVi X (rest := []) (c_X4_isFull l) m_yX4_isFull kM_RX6_143 (hput_k 16 (by decide)) rfl rfl rfl rfl rfl (Nat.le_of_ble_eq_true rfl) ⟨Nat.le_of_ble_eq_true rfl, Nat.le_of_ble_eq_true rfl, Nat.le_of_ble_eq_true rfl, Nat.le_of_ble_eq_true rfl⟩ dX6_goOut_5 ?_
  refine j_if_eq X (tgt := 23) dX6_goOut_8 (by decide) (fun c_8 => ?_) (fun c_8 => ?_)
  · refine j_aload_n X 0 dX6_goOut_23 rfl rfl ?_
    refine j_get X fG_RX6_34 hput_0 rfl rfl dX6_goOut_24 ?_
    refine j_iload_n X 1 dX6_goOut_27 rfl rfl ?_
    refine j_iload_n X 2 dX6_goOut_28 rfl rfl ?_
    refine j_iload_n X 3 dX6_goOut_29 rfl rfl ?_
    refine j_iload X 4 dX6_goOut_30 rfl ?_
    refine j_aload_n X 0 dX6_goOut_32 rfl rfl ?_
    refine j_get X fG_RX6_76 hput_0 rfl rfl dX6_goOut_33 ?_
    refine j_callVv X (rest := []) (c_X4_insert l) m_yX4_insert kM_RX6_146 (hput_k 16 (by decide)) rfl rfl rfl rfl rfl (Nat.le_of_ble_eq_true rfl) ⟨Nat.le_of_ble_eq_true rfl, Nat.le_of_ble_eq_true rfl, Nat.le_of_ble_eq_true rfl, Nat.le_of_ble_eq_true rfl⟩ dX6_goOut_36 ?_
    refine j_aload_n X 0 dX6_goOut_39 rfl rfl ?_
    refine j_get X fG_RX6_27 hput_0 rfl rfl dX6_goOut_40 ?_
    refine j_iload_n X 1 dX6_goOut_43 rfl rfl ?_
    refine j_bipush X (v := 7) dX6_goOut_44 (by decide) ?_
    refine j_iconst X (v := 1) dX6_goOut_46 (by decide) ?_
    refine j_callVv X (rest := []) (c_X3_credit l) m_yX3_credit kM_RX6_92 (hput_k 3 (by decide)) rfl rfl rfl rfl rfl (Nat.le_of_ble_eq_true rfl) ⟨Nat.le_of_ble_eq_true rfl, Nat.le_of_ble_eq_true rfl, Nat.le_of_ble_eq_true rfl, Nat.le_of_ble_eq_true rfl⟩ dX6_goOut_47 ?_
    refine j_aload_n X 0 dX6_goOut_50 rfl rfl ?_
    refine j_dup X dX6_goOut_51 rfl ?_
    refine j_get X fG_RX6_76 hput_0 rfl rfl dX6_goOut_52 ?_
    refine j_iconst X (v := 1) dX6_goOut_55 (by decide) ?_
    refine j_iadd X dX6_goOut_56 ?_
    refine j_put X fG_RX6_76 fW_6_6 hput_0 rfl rfl rfl (Nat.le_of_ble_eq_true rfl) dX6_goOut_57 ?_
    refine j_heap (h' := hput D h a (sput (pCredit (qIns σ p s d pr (σ.2 1)) p 7 1) 1 (((pCredit (qIns σ p s d pr (σ.2 1)) p 7 1).2 1) + 1))) hput_s1 ?_
    exact j_vret X hr rfl (by first | with_reducible rfl | (simp only [sOut, if_pos c_8]; done) | (simp only [sOut, if_pos c_8]; rfl) | rfl) dX6_goOut_60
  · refine j_aload_n X 0 dX6_goOut_11 rfl rfl ?_
    refine j_get X fG_RX6_27 hput_0 rfl rfl dX6_goOut_12 ?_
    refine j_iload_n X 1 dX6_goOut_15 rfl rfl ?_
    refine j_bipush X (v := 8) dX6_goOut_16 (by decide) ?_
    refine j_iconst X (v := 1) dX6_goOut_18 (by decide) ?_
    refine j_callVv X (rest := []) (c_X3_credit l) m_yX3_credit kM_RX6_92 (hput_k 3 (by decide)) rfl rfl rfl rfl rfl (Nat.le_of_ble_eq_true rfl) ⟨Nat.le_of_ble_eq_true rfl, Nat.le_of_ble_eq_true rfl, Nat.le_of_ble_eq_true rfl, Nat.le_of_ble_eq_true rfl⟩ dX6_goOut_19 ?_
    exact j_vret X hr rfl (by first | with_reducible rfl | (simp only [sOut, if_neg c_8]; done) | (simp only [sOut, if_neg c_8]; rfl) | rfl) dX6_goOut_22
