set_option maxRecDepth 100000 in
set_option maxHeartbeats 8000000 in
theorem c_X10_goesOut (l : Launch) {D : DD} {B z : Nat} {h : HF} {b : Nat} {μ : Mo} {p s d pr : Int32} (hp : PO p) (hm : WH (mOf μ p 5) 13) : CT l yX10_goesOut cX10_goesOut 6 none 1 23 [.ref b, .int p, .int s, .int d, .int pr] D B z (mput D h b μ) none 0 0 (mput D h b (mGo μ p s d pr)) := by
  refine CT.of (L := [(0, .ref b), (1, .int p), (2, .int s), (3, .int d), (4, .int pr)]) (by decide +kernel) (Nat.le_of_ble_eq_true rfl) rfl ?_
  intro P E S0 M0 AR BL ME CO X hr hnm
  refine j_aload_n X 0 dX10_goesOut_0 rfl rfl ?_
  refine j_iload_n X 1 dX10_goesOut_1 rfl rfl ?_
  refine j_iconst X (v := 5) dX10_goesOut_2 (by decide) ?_
  refine j_callVi X (rest := []) (c_X10_of l hp (show WH 5 _ from ⟨5, by decide, rfl⟩)) m_yX10_of kM_RX10_44 mput_0 rfl rfl rfl rfl rfl (Nat.le_of_ble_eq_true rfl) ⟨Nat.le_of_ble_eq_true rfl, Nat.le_of_ble_eq_true rfl, Nat.le_of_ble_eq_true rfl, Nat.le_of_ble_eq_true rfl⟩ dX10_goesOut_3 ?_
  refine j_bipush X (v := 12) dX10_goesOut_6 (by decide) ?_
  refine j_icmp_ne X (tgt := 19) dX10_goesOut_8 (by decide) (fun c_8 => ?_) (fun c_8 => ?_)
  · refine j_aload_n X 0 dX10_goesOut_19 rfl rfl ?_
    refine j_iload_n X 1 dX10_goesOut_20 rfl rfl ?_
    refine j_aload_n X 0 dX10_goesOut_21 rfl rfl ?_
    refine j_iload_n X 1 dX10_goesOut_22 rfl rfl ?_
    refine j_iconst X (v := 5) dX10_goesOut_23 (by decide) ?_
    refine j_callVi X (rest := [.int p, .ref b]) (c_X10_of l hp (show WH 5 _ from ⟨5, by decide, rfl⟩)) m_yX10_of kM_RX10_44 mput_0 rfl rfl rfl rfl rfl (Nat.le_of_ble_eq_true rfl) ⟨Nat.le_of_ble_eq_true rfl, Nat.le_of_ble_eq_true rfl, Nat.le_of_ble_eq_true rfl, Nat.le_of_ble_eq_true rfl⟩ dX10_goesOut_24 ?_
    refine j_callVi X (rest := []) (c_X10_queueCell l) m_yX10_queueCell kM_RX10_80 mput_0 rfl rfl rfl rfl rfl (Nat.le_of_ble_eq_true rfl) ⟨Nat.le_of_ble_eq_true rfl, Nat.le_of_ble_eq_true rfl, Nat.le_of_ble_eq_true rfl, Nat.le_of_ble_eq_true rfl⟩ dX10_goesOut_27 ?_
    refine j_tops (fun v1 ev1 => ?_)
    refine j_istore X (L' := [(5, .int v1), (0, .ref b), (1, .int p), (2, .int s), (3, .int d), (4, .int pr)]) dX10_goesOut_30 (by decide) rfl ?_
    refine j_aload_n X 1 dX10_goesOut_32 rfl rfl ?_
    refine j_get X fG_RX10_7 mput_0 rfl rfl dX10_goesOut_33 ?_
    refine j_iload X 0 dX10_goesOut_36 rfl ?_
    refine j_aload_n X 1 dX10_goesOut_38 rfl rfl ?_
    refine j_get X fG_RX10_7 mput_0 rfl rfl dX10_goesOut_39 ?_
    refine j_bipush X (v := 6) dX10_goesOut_42 (by decide) ?_
    refine j_ldM X (vp_in_nI (n := 6) (by decide) (by decide)) dX10_goesOut_44 ?_
    refine j_stM X (by rw [← ev1]; exact in_qc0 hp (wh_not hm c_8)) dX10_goesOut_45 ?_
    refine j_aload_n X 1 dX10_goesOut_46 rfl rfl ?_
    refine j_get X fG_RX10_7 mput_0 rfl rfl dX10_goesOut_47 ?_
    refine j_iload X 0 dX10_goesOut_50 rfl ?_
    refine j_iconst X (v := 1) dX10_goesOut_52 (by decide) ?_
    refine j_iadd X dX10_goesOut_53 ?_
    refine j_iload_n X 3 dX10_goesOut_54 rfl rfl ?_
    refine j_stM X (by rw [← ev1]; exact in_qc 1 (by decide) hp (wh_not hm c_8)) dX10_goesOut_55 ?_
    refine j_aload_n X 1 dX10_goesOut_56 rfl rfl ?_
    refine j_get X fG_RX10_7 mput_0 rfl rfl dX10_goesOut_57 ?_
    refine j_iload X 0 dX10_goesOut_60 rfl ?_
    refine j_iconst X (v := 2) dX10_goesOut_62 (by decide) ?_
    refine j_iadd X dX10_goesOut_63 ?_
    refine j_iload_n X 4 dX10_goesOut_64 rfl rfl ?_
    refine j_stM X (by rw [← ev1]; exact in_qc 2 (by decide) hp (wh_not hm c_8)) dX10_goesOut_65 ?_
    refine j_aload_n X 1 dX10_goesOut_66 rfl rfl ?_
    refine j_get X fG_RX10_7 mput_0 rfl rfl dX10_goesOut_67 ?_
    refine j_iload X 0 dX10_goesOut_70 rfl ?_
    refine j_iconst X (v := 3) dX10_goesOut_72 (by decide) ?_
    refine j_iadd X dX10_goesOut_73 ?_
    refine j_iload X 5 dX10_goesOut_74 rfl ?_
    refine j_stM X (by rw [← ev1]; exact in_qc 3 (by decide) hp (wh_not hm c_8)) dX10_goesOut_76 ?_
    refine j_aload_n X 1 dX10_goesOut_77 rfl rfl ?_
    refine j_iload_n X 2 dX10_goesOut_78 rfl rfl ?_
    refine j_iconst X (v := 5) dX10_goesOut_79 (by decide) ?_
    refine j_aload_n X 1 dX10_goesOut_80 rfl rfl ?_
    refine j_iload_n X 2 dX10_goesOut_81 rfl rfl ?_
    refine j_iconst X (v := 5) dX10_goesOut_82 (by decide) ?_
    refine j_callVi X (rest := [.int 5, .int p, .ref b]) (c_X10_of l hp (show WH 5 _ from ⟨5, by decide, rfl⟩)) m_yX10_of kM_RX10_44 mput_0 rfl rfl rfl rfl rfl (Nat.le_of_ble_eq_true rfl) ⟨Nat.le_of_ble_eq_true rfl, Nat.le_of_ble_eq_true rfl, Nat.le_of_ble_eq_true rfl, Nat.le_of_ble_eq_true rfl⟩ dX10_goesOut_83 ?_
    refine j_iconst X (v := 1) dX10_goesOut_86 (by decide) ?_
    refine j_iadd X dX10_goesOut_87 ?_
    refine j_callVv X (rest := []) (c_X10_to l hp (show WH 5 _ from ⟨5, by decide, rfl⟩)) m_yX10_to kM_RX10_32 mput_0 rfl rfl rfl rfl rfl (Nat.le_of_ble_eq_true rfl) ⟨Nat.le_of_ble_eq_true rfl, Nat.le_of_ble_eq_true rfl, Nat.le_of_ble_eq_true rfl, Nat.le_of_ble_eq_true rfl⟩ dX10_goesOut_88 ?_
    refine j_aload_n X 1 dX10_goesOut_91 rfl rfl ?_
    refine j_get X fG_RX10_7 mput_0 rfl rfl dX10_goesOut_92 ?_
    refine j_bipush X (v := 6) dX10_goesOut_95 (by decide) ?_
    refine j_dup2 X dX10_goesOut_97 rfl rfl ?_
    refine j_ldM X (vp_in_nI (n := 6) (by decide) (by decide)) dX10_goesOut_98 ?_
    refine j_iconst X (v := 1) dX10_goesOut_99 (by decide) ?_
    refine j_iadd X dX10_goesOut_100 ?_
    refine j_stM X (vp_in_nI (n := 6) (by decide) (by decide)) dX10_goesOut_101 ?_
    refine j_aload_n X 1 dX10_goesOut_102 rfl rfl ?_
    refine j_iload_n X 2 dX10_goesOut_103 rfl rfl ?_
    refine j_bipush X (v := 7) dX10_goesOut_104 (by decide) ?_
    refine j_callVv X (rest := []) (c_X10_more l hp (show WH 7 _ from ⟨7, by decide, rfl⟩)) m_yX10_more kM_RX10_76 mput_0 rfl rfl rfl rfl rfl (Nat.le_of_ble_eq_true rfl) ⟨Nat.le_of_ble_eq_true rfl, Nat.le_of_ble_eq_true rfl, Nat.le_of_ble_eq_true rfl, Nat.le_of_ble_eq_true rfl⟩ dX10_goesOut_106 ?_
    exact j_vret X hr rfl (by subst ev1; first | with_reducible rfl | (simp only [mGo, mGo4, mGo5, if_neg c_8]; done) | (simp only [mGo, mGo4, mGo5, if_neg c_8]; rfl) | rfl) dX10_goesOut_109
  · refine j_aload_n X 0 dX10_goesOut_11 rfl rfl ?_
    refine j_iload_n X 1 dX10_goesOut_12 rfl rfl ?_
    refine j_bipush X (v := 8) dX10_goesOut_13 (by decide) ?_
    refine j_callVv X (rest := []) (c_X10_more l hp (show WH 8 _ from ⟨8, by decide, rfl⟩)) m_yX10_more kM_RX10_76 mput_0 rfl rfl rfl rfl rfl (Nat.le_of_ble_eq_true rfl) ⟨Nat.le_of_ble_eq_true rfl, Nat.le_of_ble_eq_true rfl, Nat.le_of_ble_eq_true rfl, Nat.le_of_ble_eq_true rfl⟩ dX10_goesOut_15 ?_
    exact j_vret X hr rfl (by first | with_reducible rfl | (simp only [mGo, mGo4, mGo5, if_pos c_8]; done) | (simp only [mGo, mGo4, mGo5, if_pos c_8]; rfl) | rfl) dX10_goesOut_18
