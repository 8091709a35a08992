set_option maxRecDepth 100000 in
set_option maxHeartbeats 8000000 in
theorem c_X10_setPort (l : Launch) {D : DD} {B z : Nat} {h : HF} {b : Nat} {μ : Mo} {p up : Int32} {q : Nat} (hq : q ≤ 4) (eq : μ.1 0 = nI q)  : CT l yX10_setPort cX10_setPort 3 (some .int) 3 65 [.ref b, .int p, .int up] D B z (mput D h b μ) (some (.int ((mSetPort μ p up).1))) 0 0 (mput D h b ((mSetPort μ p up).2)) := by
  refine CT.of (L := [(0, .ref b), (1, .int p), (2, .int up)]) (by decide +kernel) (Nat.le_of_ble_eq_true rfl) rfl ?_
  intro P E S0 M0 AR BL ME CO X hr hnm
  refine j_iload_n X 1 dX10_setPort_0 rfl rfl ?_
  refine j_callSi X (rest := []) (c_X10_noPort l) m_yX10_noPort kM_RX10_52 rfl rfl (Nat.le_of_ble_eq_true rfl) ⟨Nat.le_of_ble_eq_true rfl, Nat.le_of_ble_eq_true rfl, Nat.le_of_ble_eq_true rfl, Nat.le_of_ble_eq_true rfl⟩ dX10_setPort_1 ?_
  refine j_if_eq X (tgt := 9) dX10_setPort_4 (by decide) (fun c_4 => ?_) (fun c_4 => ?_)
  · have hp : PO p := po_of c_4
    refine j_aload_n X 0 dX10_setPort_9 rfl rfl ?_
    refine j_iload_n X 1 dX10_setPort_10 rfl rfl ?_
    refine j_iconst X (v := 0) dX10_setPort_11 (by decide) ?_
    refine j_callVi X (rest := []) (c_X10_of l hp (show WH 0 _ from ⟨0, by decide, rfl⟩)) m_yX10_of kM_RX10_44 mput_0 rfl rfl rfl rfl rfl (Nat.le_of_ble_eq_true rfl) ⟨Nat.le_of_ble_eq_true rfl, Nat.le_of_ble_eq_true rfl, Nat.le_of_ble_eq_true rfl, Nat.le_of_ble_eq_true rfl⟩ dX10_setPort_12 ?_
    refine j_iload_n X 2 dX10_setPort_15 rfl rfl ?_
    refine j_if_eq X (tgt := 23) dX10_setPort_16 (by decide) (fun c_16 => ?_) (fun c_16 => ?_)
    · refine j_iconst X (v := 0) dX10_setPort_23 (by decide) ?_
      refine j_icmp_ne X (tgt := 30) dX10_setPort_24 (by decide) (fun c_24 => ?_) (fun c_24 => ?_)
      · refine j_aload_n X 0 dX10_setPort_30 rfl rfl ?_
        refine j_callVv X (rest := []) (c_X10_record l hq eq) m_yX10_record kM_RX10_55 mput_0 rfl rfl rfl rfl rfl (Nat.le_of_ble_eq_true rfl) ⟨Nat.le_of_ble_eq_true rfl, Nat.le_of_ble_eq_true rfl, Nat.le_of_ble_eq_true rfl, Nat.le_of_ble_eq_true rfl⟩ dX10_setPort_31 ?_
        refine j_aload_n X 0 dX10_setPort_34 rfl rfl ?_
        refine j_iload_n X 1 dX10_setPort_35 rfl rfl ?_
        refine j_iconst X (v := 0) dX10_setPort_36 (by decide) ?_
        refine j_iload_n X 2 dX10_setPort_37 rfl rfl ?_
        refine j_if_eq X (tgt := 45) dX10_setPort_38 (by decide) (fun _ => ?_) (fun c_ => absurd c_16 c_)
        refine j_iconst X (v := 0) dX10_setPort_45 (by decide) ?_
        refine j_callVv X (rest := []) (c_X10_to l hp (show WH 0 _ from ⟨0, by decide, rfl⟩)) m_yX10_to kM_RX10_32 mput_0 rfl rfl rfl rfl rfl (Nat.le_of_ble_eq_true rfl) ⟨Nat.le_of_ble_eq_true rfl, Nat.le_of_ble_eq_true rfl, Nat.le_of_ble_eq_true rfl, Nat.le_of_ble_eq_true rfl⟩ dX10_setPort_46 ?_
        refine j_iload_n X 2 dX10_setPort_49 rfl rfl ?_
        refine j_if_ne X (tgt := 87) dX10_setPort_50 (by decide) (fun c_ => absurd c_16 c_) (fun _ => ?_)
        refine j_aload_n X 0 dX10_setPort_53 rfl rfl ?_
        refine j_get X fG_RX10_7 mput_0 rfl rfl dX10_setPort_54 ?_
        refine j_bipush X (v := 8) dX10_setPort_57 (by decide) ?_
        refine j_bipush X (v := 20) dX10_setPort_59 (by decide) ?_
        refine j_iload_n X 1 dX10_setPort_61 rfl rfl ?_
        refine j_imul X dX10_setPort_62 ?_
        refine j_iadd X dX10_setPort_63 ?_
        refine j_bipush X (v := 6) dX10_setPort_64 (by decide) ?_
        refine j_iadd X dX10_setPort_66 ?_
        refine j_bipush X (v := 8) dX10_setPort_67 (by decide) ?_
        refine j_iadd X dX10_setPort_69 ?_
        refine j_dup2 X dX10_setPort_70 rfl rfl ?_
        refine j_ldM X (in_more hp (show WH 8 _ from ⟨8, by decide, rfl⟩)) dX10_setPort_71 ?_
        refine j_aload_n X 0 dX10_setPort_72 rfl rfl ?_
        refine j_iload_n X 1 dX10_setPort_73 rfl rfl ?_
        refine j_iconst X (v := 5) dX10_setPort_74 (by decide) ?_
        refine j_callVi X (rest := [.int (now (mTo (mRec μ) p 0 0) (((8 + (20 * p)) + 6) + 8)), .int (((8 + (20 * p)) + 6) + 8), .ref (b + 1)]) (c_X10_of l hp (show WH 5 _ from ⟨5, by decide, rfl⟩)) m_yX10_of kM_RX10_44 mput_0 rfl rfl rfl rfl rfl (Nat.le_of_ble_eq_true rfl) ⟨Nat.le_of_ble_eq_true rfl, Nat.le_of_ble_eq_true rfl, Nat.le_of_ble_eq_true rfl, Nat.le_of_ble_eq_true rfl⟩ dX10_setPort_75 ?_
        refine j_iadd X dX10_setPort_78 ?_
        refine j_stM X (in_more hp (show WH 8 _ from ⟨8, by decide, rfl⟩)) dX10_setPort_79 ?_
        refine j_aload_n X 0 dX10_setPort_80 rfl rfl ?_
        refine j_iload_n X 1 dX10_setPort_81 rfl rfl ?_
        refine j_iconst X (v := 5) dX10_setPort_82 (by decide) ?_
        refine j_iconst X (v := 0) dX10_setPort_83 (by decide) ?_
        refine j_callVv X (rest := []) (c_X10_to l hp (show WH 5 _ from ⟨5, by decide, rfl⟩)) m_yX10_to kM_RX10_32 mput_0 rfl rfl rfl rfl rfl (Nat.le_of_ble_eq_true rfl) ⟨Nat.le_of_ble_eq_true rfl, Nat.le_of_ble_eq_true rfl, Nat.le_of_ble_eq_true rfl, Nat.le_of_ble_eq_true rfl⟩ dX10_setPort_84 ?_
        refine j_aload_n X 0 dX10_setPort_87 rfl rfl ?_
        refine j_callVi X (rest := []) (c_X10_openPorts l) m_yX10_openPorts kM_RX10_58 mput_0 rfl rfl rfl rfl rfl (Nat.le_of_ble_eq_true rfl) ⟨Nat.le_of_ble_eq_true rfl, Nat.le_of_ble_eq_true rfl, Nat.le_of_ble_eq_true rfl, Nat.le_of_ble_eq_true rfl⟩ dX10_setPort_88 ?_
        exact j_iret X hr rfl (by first | with_reducible rfl | (simp only [mSetPort, mDrop, if_pos c_4, if_pos c_16, if_neg c_24]; done) | (simp only [mSetPort, mDrop, if_pos c_4, if_pos c_16, if_neg c_24]; rfl) | rfl) rfl (by first | with_reducible rfl | (simp only [mSetPort, mDrop, if_pos c_4, if_pos c_16, if_neg c_24]; done) | (simp only [mSetPort, mDrop, if_pos c_4, if_pos c_16, if_neg c_24]; rfl) | rfl) dX10_setPort_91
      · refine j_bipush X (v := (-4)) dX10_setPort_27 (by decide) ?_
        exact j_iret X hr rfl (by first | with_reducible rfl | (simp only [mSetPort, mDrop, if_pos c_4, if_pos c_16, if_pos c_24]; done) | (simp only [mSetPort, mDrop, if_pos c_4, if_pos c_16, if_pos c_24]; rfl) | rfl) rfl (by first | with_reducible rfl | (simp only [mSetPort, mDrop, if_pos c_4, if_pos c_16, if_pos c_24]; done) | (simp only [mSetPort, mDrop, if_pos c_4, if_pos c_16, if_pos c_24]; rfl) | rfl) dX10_setPort_29
    · refine j_iconst X (v := 1) dX10_setPort_19 (by decide) ?_
      refine j_goto X (tgt := 24) dX10_setPort_20 (by decide) ?_
      refine j_icmp_ne X (tgt := 30) dX10_setPort_24 (by decide) (fun c_24 => ?_) (fun c_24 => ?_)
      · refine j_aload_n X 0 dX10_setPort_30 rfl rfl ?_
        refine j_callVv X (rest := []) (c_X10_record l hq eq) m_yX10_record kM_RX10_55 mput_0 rfl rfl rfl rfl rfl (Nat.le_of_ble_eq_true rfl) ⟨Nat.le_of_ble_eq_true rfl, Nat.le_of_ble_eq_true rfl, Nat.le_of_ble_eq_true rfl, Nat.le_of_ble_eq_true rfl⟩ dX10_setPort_31 ?_
        refine j_aload_n X 0 dX10_setPort_34 rfl rfl ?_
        refine j_iload_n X 1 dX10_setPort_35 rfl rfl ?_
        refine j_iconst X (v := 0) dX10_setPort_36 (by decide) ?_
        refine j_iload_n X 2 dX10_setPort_37 rfl rfl ?_
        refine j_if_eq X (tgt := 45) dX10_setPort_38 (by decide) (fun c_ => absurd c_ c_16) (fun _ => ?_)
        refine j_iconst X (v := 1) dX10_setPort_41 (by decide) ?_
        refine j_goto X (tgt := 46) dX10_setPort_42 (by decide) ?_
        refine j_callVv X (rest := []) (c_X10_to l hp (show WH 0 _ from ⟨0, by decide, rfl⟩)) m_yX10_to kM_RX10_32 mput_0 rfl rfl rfl rfl rfl (Nat.le_of_ble_eq_true rfl) ⟨Nat.le_of_ble_eq_true rfl, Nat.le_of_ble_eq_true rfl, Nat.le_of_ble_eq_true rfl, Nat.le_of_ble_eq_true rfl⟩ dX10_setPort_46 ?_
        refine j_iload_n X 2 dX10_setPort_49 rfl rfl ?_
        refine j_if_ne X (tgt := 87) dX10_setPort_50 (by decide) (fun _ => ?_) (fun c_ => absurd c_ c_16)
        refine j_aload_n X 0 dX10_setPort_87 rfl rfl ?_
        refine j_callVi X (rest := []) (c_X10_openPorts l) m_yX10_openPorts kM_RX10_58 mput_0 rfl rfl rfl rfl rfl (Nat.le_of_ble_eq_true rfl) ⟨Nat.le_of_ble_eq_true rfl, Nat.le_of_ble_eq_true rfl, Nat.le_of_ble_eq_true rfl, Nat.le_of_ble_eq_true rfl⟩ dX10_setPort_88 ?_
        exact j_iret X hr rfl (by first | with_reducible rfl | (simp only [mSetPort, mDrop, if_pos c_4, if_neg c_16, if_neg c_24]; done) | (simp only [mSetPort, mDrop, if_pos c_4, if_neg c_16, if_neg c_24]; rfl) | rfl) rfl (by first | with_reducible rfl | (simp only [mSetPort, mDrop, if_pos c_4, if_neg c_16, if_neg c_24]; done) | (simp only [mSetPort, mDrop, if_pos c_4, if_neg c_16, if_neg c_24]; rfl) | rfl) dX10_setPort_91
      · refine j_bipush X (v := (-4)) dX10_setPort_27 (by decide) ?_
        exact j_iret X hr rfl (by first | with_reducible rfl | (simp only [mSetPort, mDrop, if_pos c_4, if_neg c_16, if_pos c_24]; done) | (simp only [mSetPort, mDrop, if_pos c_4, if_neg c_16, if_pos c_24]; rfl) | rfl) rfl (by first | with_reducible rfl | (simp only [mSetPort, mDrop, if_pos c_4, if_neg c_16, if_pos c_24]; done) | (simp only [mSetPort, mDrop, if_pos c_4, if_neg c_16, if_pos c_24]; rfl) | rfl) dX10_setPort_29
  · refine j_iconst X (v := (-1)) dX10_setPort_7 (by decide) ?_
    exact j_iret X hr rfl (by first | with_reducible rfl | (simp only [mSetPort, mDrop, if_neg c_4]; done) | (simp only [mSetPort, mDrop, if_neg c_4]; rfl) | rfl) rfl (by first | with_reducible rfl | (simp only [mSetPort, mDrop, if_neg c_4]; done) | (simp only [mSetPort, mDrop, if_neg c_4]; rfl) | rfl) dX10_setPort_8
set_option maxRecDepth 100000 in
set_option maxHeartbeats 8000000 in
theorem c_X10_join (l : Launch) {D : DD} {B z : Nat} {h : HF} {b : Nat} {μ : Mo} {p q2 : Int32} {q : Nat} (hq : q ≤ 4) (eq : μ.1 0 = nI q)  : CT l yX10_join cX10_join 3 (some .int) 2 44 [.ref b, .int p, .int q2] D B z (mput D h b μ) (some (.int ((mJoin μ p q2).1))) 0 0 (mput D h b ((mJoin μ p q2).2)) := by
  refine CT.of (L := [(0, .ref b), (1, .int p), (2, .int q2)]) (by decide +kernel) (Nat.le_of_ble_eq_true rfl) rfl ?_
  intro P E S0 M0 AR BL ME CO X hr hnm
  refine j_iload_n X 1 dX10_join_0 rfl rfl ?_
  refine j_callSi X (rest := []) (c_X10_noPort l) m_yX10_noPort kM_RX10_52 rfl rfl (Nat.le_of_ble_eq_true rfl) ⟨Nat.le_of_ble_eq_true rfl, Nat.le_of_ble_eq_true rfl, Nat.le_of_ble_eq_true rfl, Nat.le_of_ble_eq_true rfl⟩ dX10_join_1 ?_
  refine j_if_ne X (tgt := 14) dX10_join_4 (by decide) (fun c_4 => ?_) (fun c_4 => ?_)
  · refine j_iconst X (v := (-1)) dX10_join_14 (by decide) ?_
    exact j_iret X hr rfl (by first | with_reducible rfl | (simp only [mJoin, if_neg c_4]; done) | (simp only [mJoin, if_neg c_4]; rfl) | rfl) rfl (by first | with_reducible rfl | (simp only [mJoin, if_neg c_4]; done) | (simp only [mJoin, if_neg c_4]; rfl) | rfl) dX10_join_15
  · refine j_iload_n X 2 dX10_join_7 rfl rfl ?_
    refine j_callSi X (rest := []) (c_X10_noPort l) m_yX10_noPort kM_RX10_52 rfl rfl (Nat.le_of_ble_eq_true rfl) ⟨Nat.le_of_ble_eq_true rfl, Nat.le_of_ble_eq_true rfl, Nat.le_of_ble_eq_true rfl, Nat.le_of_ble_eq_true rfl⟩ dX10_join_8 ?_
    refine j_if_eq X (tgt := 16) dX10_join_11 (by decide) (fun c_11 => ?_) (fun c_11 => ?_)
    · have hp : PO p := po_of c_4
      have hq2 : PO q2 := po_of c_11
      refine j_iload_n X 1 dX10_join_16 rfl rfl ?_
      refine j_iload_n X 2 dX10_join_17 rfl rfl ?_
      refine j_icmp_ne X (tgt := 24) dX10_join_18 (by decide) (fun c_18 => ?_) (fun c_18 => ?_)
      · refine j_aload_n X 0 dX10_join_24 rfl rfl ?_
        refine j_iload_n X 1 dX10_join_25 rfl rfl ?_
        refine j_iconst X (v := 3) dX10_join_26 (by decide) ?_
        refine j_callVi X (rest := []) (c_X10_of l hp (show WH 3 _ from ⟨3, by decide, rfl⟩)) m_yX10_of kM_RX10_44 mput_0 rfl rfl rfl rfl rfl (Nat.le_of_ble_eq_true rfl) ⟨Nat.le_of_ble_eq_true rfl, Nat.le_of_ble_eq_true rfl, Nat.le_of_ble_eq_true rfl, Nat.le_of_ble_eq_true rfl⟩ dX10_join_27 ?_
        refine j_if_gt X (tgt := 42) dX10_join_30 (by decide) (fun c_30 => ?_) (fun c_30 => ?_)
        · refine j_bipush X (v := (-3)) dX10_join_42 (by decide) ?_
          exact j_iret X hr rfl (by first | with_reducible rfl | (simp only [mJoin, if_pos c_4, if_pos c_11, if_neg c_18, if_pos c_30]; done) | (simp only [mJoin, if_pos c_4, if_pos c_11, if_neg c_18, if_pos c_30]; rfl) | rfl) rfl (by first | with_reducible rfl | (simp only [mJoin, if_pos c_4, if_pos c_11, if_neg c_18, if_pos c_30]; done) | (simp only [mJoin, if_pos c_4, if_pos c_11, if_neg c_18, if_pos c_30]; rfl) | rfl) dX10_join_44
        · refine j_aload_n X 0 dX10_join_33 rfl rfl ?_
          refine j_iload_n X 2 dX10_join_34 rfl rfl ?_
          refine j_iconst X (v := 3) dX10_join_35 (by decide) ?_
          refine j_callVi X (rest := []) (c_X10_of l hq2 (show WH 3 _ from ⟨3, by decide, rfl⟩)) m_yX10_of kM_RX10_44 mput_0 rfl rfl rfl rfl rfl (Nat.le_of_ble_eq_true rfl) ⟨Nat.le_of_ble_eq_true rfl, Nat.le_of_ble_eq_true rfl, Nat.le_of_ble_eq_true rfl, Nat.le_of_ble_eq_true rfl⟩ dX10_join_36 ?_
          refine j_if_le X (tgt := 45) dX10_join_39 (by decide) (fun c_39 => ?_) (fun c_39 => ?_)
          · refine j_aload_n X 0 dX10_join_45 rfl rfl ?_
            refine j_callVv X (rest := []) (c_X10_record l hq eq) m_yX10_record kM_RX10_55 mput_0 rfl rfl rfl rfl rfl (Nat.le_of_ble_eq_true rfl) ⟨Nat.le_of_ble_eq_true rfl, Nat.le_of_ble_eq_true rfl, Nat.le_of_ble_eq_true rfl, Nat.le_of_ble_eq_true rfl⟩ dX10_join_46 ?_
            refine j_aload_n X 0 dX10_join_49 rfl rfl ?_
            refine j_iload_n X 1 dX10_join_50 rfl rfl ?_
            refine j_iconst X (v := 3) dX10_join_51 (by decide) ?_
            refine j_iload_n X 2 dX10_join_52 rfl rfl ?_
            refine j_iconst X (v := 1) dX10_join_53 (by decide) ?_
            refine j_iadd X dX10_join_54 ?_
            refine j_callVv X (rest := []) (c_X10_to l hp (show WH 3 _ from ⟨3, by decide, rfl⟩)) m_yX10_to kM_RX10_32 mput_0 rfl rfl rfl rfl rfl (Nat.le_of_ble_eq_true rfl) ⟨Nat.le_of_ble_eq_true rfl, Nat.le_of_ble_eq_true rfl, Nat.le_of_ble_eq_true rfl, Nat.le_of_ble_eq_true rfl⟩ dX10_join_55 ?_
            refine j_aload_n X 0 dX10_join_58 rfl rfl ?_
            refine j_iload_n X 2 dX10_join_59 rfl rfl ?_
            refine j_iconst X (v := 3) dX10_join_60 (by decide) ?_
            refine j_iload_n X 1 dX10_join_61 rfl rfl ?_
            refine j_iconst X (v := 1) dX10_join_62 (by decide) ?_
            refine j_iadd X dX10_join_63 ?_
            refine j_callVv X (rest := []) (c_X10_to l hq2 (show WH 3 _ from ⟨3, by decide, rfl⟩)) m_yX10_to kM_RX10_32 mput_0 rfl rfl rfl rfl rfl (Nat.le_of_ble_eq_true rfl) ⟨Nat.le_of_ble_eq_true rfl, Nat.le_of_ble_eq_true rfl, Nat.le_of_ble_eq_true rfl, Nat.le_of_ble_eq_true rfl⟩ dX10_join_64 ?_
            refine j_aload_n X 0 dX10_join_67 rfl rfl ?_
            refine j_callVi X (rest := []) (c_X10_cables l) m_yX10_cables kM_RX10_62 mput_0 rfl rfl rfl rfl rfl (Nat.le_of_ble_eq_true rfl) ⟨Nat.le_of_ble_eq_true rfl, Nat.le_of_ble_eq_true rfl, Nat.le_of_ble_eq_true rfl, Nat.le_of_ble_eq_true rfl⟩ dX10_join_68 ?_
            exact j_iret X hr rfl (by first | with_reducible rfl | (simp only [mJoin, if_pos c_4, if_pos c_11, if_neg c_18, if_neg c_30, if_neg c_39]; done) | (simp only [mJoin, if_pos c_4, if_pos c_11, if_neg c_18, if_neg c_30, if_neg c_39]; rfl) | rfl) rfl (by first | with_reducible rfl | (simp only [mJoin, if_pos c_4, if_pos c_11, if_neg c_18, if_neg c_30, if_neg c_39]; done) | (simp only [mJoin, if_pos c_4, if_pos c_11, if_neg c_18, if_neg c_30, if_neg c_39]; rfl) | rfl) dX10_join_71
          · refine j_bipush X (v := (-3)) dX10_join_42 (by decide) ?_
            exact j_iret X hr rfl (by first | with_reducible rfl | (simp only [mJoin, if_pos c_4, if_pos c_11, if_neg c_18, if_neg c_30, if_pos c_39]; done) | (simp only [mJoin, if_pos c_4, if_pos c_11, if_neg c_18, if_neg c_30, if_pos c_39]; rfl) | rfl) rfl (by first | with_reducible rfl | (simp only [mJoin, if_pos c_4, if_pos c_11, if_neg c_18, if_neg c_30, if_pos c_39]; done) | (simp only [mJoin, if_pos c_4, if_pos c_11, if_neg c_18, if_neg c_30, if_pos c_39]; rfl) | rfl) dX10_join_44
      · refine j_bipush X (v := (-2)) dX10_join_21 (by decide) ?_
        exact j_iret X hr rfl (by first | with_reducible rfl | (simp only [mJoin, if_pos c_4, if_pos c_11, if_pos c_18]; done) | (simp only [mJoin, if_pos c_4, if_pos c_11, if_pos c_18]; rfl) | rfl) rfl (by first | with_reducible rfl | (simp only [mJoin, if_pos c_4, if_pos c_11, if_pos c_18]; done) | (simp only [mJoin, if_pos c_4, if_pos c_11, if_pos c_18]; rfl) | rfl) dX10_join_23
    · refine j_iconst X (v := (-1)) dX10_join_14 (by decide) ?_
      exact j_iret X hr rfl (by first | with_reducible rfl | (simp only [mJoin, if_pos c_4, if_neg c_11]; done) | (simp only [mJoin, if_pos c_4, if_neg c_11]; rfl) | rfl) rfl (by first | with_reducible rfl | (simp only [mJoin, if_pos c_4, if_neg c_11]; done) | (simp only [mJoin, if_pos c_4, if_neg c_11]; rfl) | rfl) dX10_join_15
set_option maxRecDepth 100000 in
set_option maxHeartbeats 8000000 in
theorem c_X10_part (l : Launch) {D : DD} {B z : Nat} {h : HF} {b : Nat} {μ : Mo} {p : Int32} {q : Nat} (hq : q ≤ 4) (eq : μ.1 0 = nI q) (hI : MIv μ)  : CT l yX10_part cX10_part 3 (some .int) 2 42 [.ref b, .int p] D B z (mput D h b μ) (some (.int ((mPartC μ p).1))) 0 0 (mput D h b ((mPartC μ p).2)) := by
  refine CT.of (L := [(0, .ref b), (1, .int p)]) (by decide +kernel) (Nat.le_of_ble_eq_true rfl) rfl ?_
  intro P E S0 M0 AR BL ME CO X hr hnm
  refine j_iload_n X 1 dX10_part_0 rfl rfl ?_
  refine j_callSi X (rest := []) (c_X10_noPort l) m_yX10_noPort kM_RX10_52 rfl rfl (Nat.le_of_ble_eq_true rfl) ⟨Nat.le_of_ble_eq_true rfl, Nat.le_of_ble_eq_true rfl, Nat.le_of_ble_eq_true rfl, Nat.le_of_ble_eq_true rfl⟩ dX10_part_1 ?_
  refine j_if_eq X (tgt := 9) dX10_part_4 (by decide) (fun c_4 => ?_) (fun c_4 => ?_)
  · have hp : PO p := po_of c_4
    refine j_aload_n X 0 dX10_part_9 rfl rfl ?_
    refine j_iload_n X 1 dX10_part_10 rfl rfl ?_
    refine j_iconst X (v := 3) dX10_part_11 (by decide) ?_
    refine j_callVi X (rest := []) (c_X10_of l hp (show WH 3 _ from ⟨3, by decide, rfl⟩)) m_yX10_of kM_RX10_44 mput_0 rfl rfl rfl rfl rfl (Nat.le_of_ble_eq_true rfl) ⟨Nat.le_of_ble_eq_true rfl, Nat.le_of_ble_eq_true rfl, Nat.le_of_ble_eq_true rfl, Nat.le_of_ble_eq_true rfl⟩ dX10_part_12 ?_
    refine j_iconst X (v := 1) dX10_part_15 (by decide) ?_
    refine j_isub X dX10_part_16 ?_
    refine j_tops (fun v1 ev1 => ?_)
    refine j_istore_n X (L' := [(2, .int v1), (0, .ref b), (1, .int p)]) dX10_part_17 rfl (by decide) rfl ?_
    refine j_iload_n X 0 dX10_part_18 rfl rfl ?_
    refine j_if_ge X (tgt := 25) dX10_part_19 (by decide) (fun c_19 => ?_) (fun c_19 => ?_)
    · have hpt : PO v1 := po_pred (mi_cab hp hI) ev1 c_19
      refine j_aload_n X 1 dX10_part_25 rfl rfl ?_
      refine j_callVv X (rest := []) (c_X10_record l hq eq) m_yX10_record kM_RX10_55 mput_0 rfl rfl rfl rfl rfl (Nat.le_of_ble_eq_true rfl) ⟨Nat.le_of_ble_eq_true rfl, Nat.le_of_ble_eq_true rfl, Nat.le_of_ble_eq_true rfl, Nat.le_of_ble_eq_true rfl⟩ dX10_part_26 ?_
      refine j_aload_n X 1 dX10_part_29 rfl rfl ?_
      refine j_iload_n X 2 dX10_part_30 rfl rfl ?_
      refine j_iconst X (v := 3) dX10_part_31 (by decide) ?_
      refine j_iconst X (v := 0) dX10_part_32 (by decide) ?_
      refine j_callVv X (rest := []) (c_X10_to l hp (show WH 3 _ from ⟨3, by decide, rfl⟩)) m_yX10_to kM_RX10_32 mput_0 rfl rfl rfl rfl rfl (Nat.le_of_ble_eq_true rfl) ⟨Nat.le_of_ble_eq_true rfl, Nat.le_of_ble_eq_true rfl, Nat.le_of_ble_eq_true rfl, Nat.le_of_ble_eq_true rfl⟩ dX10_part_33 ?_
      refine j_aload_n X 1 dX10_part_36 rfl rfl ?_
      refine j_iload_n X 0 dX10_part_37 rfl rfl ?_
      refine j_iconst X (v := 3) dX10_part_38 (by decide) ?_
      refine j_iconst X (v := 0) dX10_part_39 (by decide) ?_
      refine j_callVv X (rest := []) (c_X10_to l hpt (show WH 3 _ from ⟨3, by decide, rfl⟩)) m_yX10_to kM_RX10_32 mput_0 rfl rfl rfl rfl rfl (Nat.le_of_ble_eq_true rfl) ⟨Nat.le_of_ble_eq_true rfl, Nat.le_of_ble_eq_true rfl, Nat.le_of_ble_eq_true rfl, Nat.le_of_ble_eq_true rfl⟩ dX10_part_40 ?_
      refine j_iload_n X 0 dX10_part_43 rfl rfl ?_
      exact j_iret X hr rfl (by subst ev1; first | with_reducible rfl | (simp only [mPartC, if_pos c_4, if_neg c_19]; done) | (simp only [mPartC, if_pos c_4, if_neg c_19]; rfl) | rfl) rfl (by subst ev1; first | with_reducible rfl | (simp only [mPartC, if_pos c_4, if_neg c_19]; done) | (simp only [mPartC, if_pos c_4, if_neg c_19]; rfl) | rfl) dX10_part_44
    · refine j_bipush X (v := (-4)) dX10_part_22 (by decide) ?_
      exact j_iret X hr rfl (by subst ev1; first | with_reducible rfl | (simp only [mPartC, if_pos c_4, if_pos c_19]; done) | (simp only [mPartC, if_pos c_4, if_pos c_19]; rfl) | rfl) rfl (by subst ev1; first | with_reducible rfl | (simp only [mPartC, if_pos c_4, if_pos c_19]; done) | (simp only [mPartC, if_pos c_4, if_pos c_19]; rfl) | rfl) dX10_part_24
  · refine j_iconst X (v := (-1)) dX10_part_7 (by decide) ?_
    exact j_iret X hr rfl (by first | with_reducible rfl | (simp only [mPartC, if_neg c_4]; done) | (simp only [mPartC, if_neg c_4]; rfl) | rfl) rfl (by first | with_reducible rfl | (simp only [mPartC, if_neg c_4]; done) | (simp only [mPartC, if_neg c_4]; rfl) | rfl) dX10_part_8
set_option maxRecDepth 100000 in
set_option maxHeartbeats 8000000 in
theorem c_X10_release (l : Launch) {D : DD} {B z : Nat} {h : HF} {b : Nat} {μ : Mo} {p : Int32} {q : Nat} (hq : q ≤ 4) (eq : μ.1 0 = nI q)  : CT l yX10_release cX10_release 3 (some .int) 2 43 [.ref b, .int p] D B z (mput D h b μ) (some (.int ((mRelease μ p).1))) 0 0 (mput D h b ((mRelease μ p).2)) := by
  refine CT.of (L := [(0, .ref b), (1, .int p)]) (by decide +kernel) (Nat.le_of_ble_eq_true rfl) rfl ?_
  intro P E S0 M0 AR BL ME CO X hr hnm
  refine j_iload_n X 1 dX10_release_0 rfl rfl ?_
  refine j_callSi X (rest := []) (c_X10_noPort l) m_yX10_noPort kM_RX10_52 rfl rfl (Nat.le_of_ble_eq_true rfl) ⟨Nat.le_of_ble_eq_true rfl, Nat.le_of_ble_eq_true rfl, Nat.le_of_ble_eq_true rfl, Nat.le_of_ble_eq_true rfl⟩ dX10_release_1 ?_
  refine j_if_eq X (tgt := 9) dX10_release_4 (by decide) (fun c_4 => ?_) (fun c_4 => ?_)
  · have hp : PO p := po_of c_4
    refine j_aload_n X 0 dX10_release_9 rfl rfl ?_
    refine j_iload_n X 1 dX10_release_10 rfl rfl ?_
    refine j_iconst X (v := 1) dX10_release_11 (by decide) ?_
    refine j_callVi X (rest := []) (c_X10_of l hp (show WH 1 _ from ⟨1, by decide, rfl⟩)) m_yX10_of kM_RX10_44 mput_0 rfl rfl rfl rfl rfl (Nat.le_of_ble_eq_true rfl) ⟨Nat.le_of_ble_eq_true rfl, Nat.le_of_ble_eq_true rfl, Nat.le_of_ble_eq_true rfl, Nat.le_of_ble_eq_true rfl⟩ dX10_release_12 ?_
    refine j_if_ne X (tgt := 21) dX10_release_15 (by decide) (fun c_15 => ?_) (fun c_15 => ?_)
    · refine j_aload_n X 0 dX10_release_21 rfl rfl ?_
      refine j_callVv X (rest := []) (c_X10_record l hq eq) m_yX10_record kM_RX10_55 mput_0 rfl rfl rfl rfl rfl (Nat.le_of_ble_eq_true rfl) ⟨Nat.le_of_ble_eq_true rfl, Nat.le_of_ble_eq_true rfl, Nat.le_of_ble_eq_true rfl, Nat.le_of_ble_eq_true rfl⟩ dX10_release_22 ?_
      refine j_aload_n X 0 dX10_release_25 rfl rfl ?_
      refine j_iload_n X 1 dX10_release_26 rfl rfl ?_
      refine j_callVi X (rest := []) (c_X10_holdLeft l hp) m_yX10_holdLeft kM_RX10_65 mput_0 rfl rfl rfl rfl rfl (Nat.le_of_ble_eq_true rfl) ⟨Nat.le_of_ble_eq_true rfl, Nat.le_of_ble_eq_true rfl, Nat.le_of_ble_eq_true rfl, Nat.le_of_ble_eq_true rfl⟩ dX10_release_27 ?_
      refine j_tops (fun v1 ev1 => ?_)
      refine j_istore_n X (L' := [(2, .int v1), (0, .ref b), (1, .int p)]) dX10_release_30 rfl (by decide) rfl ?_
      refine j_aload_n X 1 dX10_release_31 rfl rfl ?_
      refine j_iload_n X 2 dX10_release_32 rfl rfl ?_
      refine j_iconst X (v := 1) dX10_release_33 (by decide) ?_
      refine j_iconst X (v := 0) dX10_release_34 (by decide) ?_
      refine j_callVv X (rest := []) (c_X10_to l hp (show WH 1 _ from ⟨1, by decide, rfl⟩)) m_yX10_to kM_RX10_32 mput_0 rfl rfl rfl rfl rfl (Nat.le_of_ble_eq_true rfl) ⟨Nat.le_of_ble_eq_true rfl, Nat.le_of_ble_eq_true rfl, Nat.le_of_ble_eq_true rfl, Nat.le_of_ble_eq_true rfl⟩ dX10_release_35 ?_
      refine j_iload_n X 0 dX10_release_38 rfl rfl ?_
      exact j_iret X hr rfl (by subst ev1; first | with_reducible rfl | (simp only [mRelease, if_pos c_4, if_neg c_15]; done) | (simp only [mRelease, if_pos c_4, if_neg c_15]; rfl) | rfl) rfl (by subst ev1; first | with_reducible rfl | (simp only [mRelease, if_pos c_4, if_neg c_15]; done) | (simp only [mRelease, if_pos c_4, if_neg c_15]; rfl) | rfl) dX10_release_39
    · refine j_bipush X (v := (-4)) dX10_release_18 (by decide) ?_
      exact j_iret X hr rfl (by first | with_reducible rfl | (simp only [mRelease, if_pos c_4, if_pos c_15]; done) | (simp only [mRelease, if_pos c_4, if_pos c_15]; rfl) | rfl) rfl (by first | with_reducible rfl | (simp only [mRelease, if_pos c_4, if_pos c_15]; done) | (simp only [mRelease, if_pos c_4, if_pos c_15]; rfl) | rfl) dX10_release_20
  · refine j_iconst X (v := (-1)) dX10_release_7 (by decide) ?_
    exact j_iret X hr rfl (by first | with_reducible rfl | (simp only [mRelease, if_neg c_4]; done) | (simp only [mRelease, if_neg c_4]; rfl) | rfl) rfl (by first | with_reducible rfl | (simp only [mRelease, if_neg c_4]; done) | (simp only [mRelease, if_neg c_4]; rfl) | rfl) dX10_release_8
set_option maxRecDepth 100000 in
set_option maxHeartbeats 8000000 in
theorem c_X10_set (l : Launch) {D : DD} {B z : Nat} {h : HF} {b : Nat} {μ : Mo} {w v : Int32} {q : Nat} (hq : q ≤ 4) (eq : μ.1 0 = nI q)  : CT l yX10_set cX10_set 4 (some .int) 1 22 [.ref b, .int w, .int v] D B z (mput D h b μ) (some (.int ((mSet μ w v).1))) 0 0 (mput D h b ((mSet μ w v).2)) := by
  refine CT.of (L := [(0, .ref b), (1, .int w), (2, .int v)]) (by decide +kernel) (Nat.le_of_ble_eq_true rfl) rfl ?_
  intro P E S0 M0 AR BL ME CO X hr hnm
  refine j_iload_n X 1 dX10_set_0 rfl rfl ?_
  refine j_iconst X (v := 0) dX10_set_1 (by decide) ?_
  refine j_iconst X (v := 3) dX10_set_2 (by decide) ?_
  refine j_callSi X (rest := []) (c_X10_in l) m_yX10_in kM_RX10_36 rfl rfl (Nat.le_of_ble_eq_true rfl) ⟨Nat.le_of_ble_eq_true rfl, Nat.le_of_ble_eq_true rfl, Nat.le_of_ble_eq_true rfl, Nat.le_of_ble_eq_true rfl⟩ dX10_set_3 ?_
  refine j_if_eq X (tgt := 21) dX10_set_6 (by decide) (fun c_6 => ?_) (fun c_6 => ?_)
  · refine j_bipush X (v := (-2)) dX10_set_21 (by decide) ?_
    exact j_iret X hr rfl (by first | with_reducible rfl | (simp only [mSet, if_pos c_6]; done) | (simp only [mSet, if_pos c_6]; rfl) | rfl) rfl (by first | with_reducible rfl | (simp only [mSet, if_pos c_6]; done) | (simp only [mSet, if_pos c_6]; rfl) | rfl) dX10_set_23
  · refine j_iload_n X 2 dX10_set_9 rfl rfl ?_
    refine j_iconst X (v := 1) dX10_set_10 (by decide) ?_
    refine j_iload_n X 1 dX10_set_11 rfl rfl ?_
    refine j_callSi X (rest := [.int 1, .int v]) (c_X10_mostOf l) m_yX10_mostOf kM_RX10_69 rfl rfl (Nat.le_of_ble_eq_true rfl) ⟨Nat.le_of_ble_eq_true rfl, Nat.le_of_ble_eq_true rfl, Nat.le_of_ble_eq_true rfl, Nat.le_of_ble_eq_true rfl⟩ dX10_set_12 ?_
    refine j_callSi X (rest := []) (c_X10_in l) m_yX10_in kM_RX10_36 rfl rfl (Nat.le_of_ble_eq_true rfl) ⟨Nat.le_of_ble_eq_true rfl, Nat.le_of_ble_eq_true rfl, Nat.le_of_ble_eq_true rfl, Nat.le_of_ble_eq_true rfl⟩ dX10_set_15 ?_
    refine j_if_ne X (tgt := 24) dX10_set_18 (by decide) (fun c_18 => ?_) (fun c_18 => ?_)
    · refine j_aload_n X 0 dX10_set_24 rfl rfl ?_
      refine j_get X fG_RX10_7 mput_0 rfl rfl dX10_set_25 ?_
      refine j_iload_n X 1 dX10_set_28 rfl rfl ?_
      refine j_ldM X (in_set c_6) dX10_set_29 ?_
      refine j_tops (fun v1 ev1 => ?_)
      refine j_istore_n X (L' := [(3, .int v1), (0, .ref b), (1, .int w), (2, .int v)]) dX10_set_30 rfl (by decide) rfl ?_
      refine j_iload_n X 0 dX10_set_31 rfl rfl ?_
      refine j_iload_n X 3 dX10_set_32 rfl rfl ?_
      refine j_icmp_ne X (tgt := 39) dX10_set_33 (by decide) (fun c_33 => ?_) (fun c_33 => ?_)
      · refine j_aload_n X 1 dX10_set_39 rfl rfl ?_
        refine j_callVv X (rest := []) (c_X10_record l hq eq) m_yX10_record kM_RX10_55 mput_0 rfl rfl rfl rfl rfl (Nat.le_of_ble_eq_true rfl) ⟨Nat.le_of_ble_eq_true rfl, Nat.le_of_ble_eq_true rfl, Nat.le_of_ble_eq_true rfl, Nat.le_of_ble_eq_true rfl⟩ dX10_set_40 ?_
        refine j_aload_n X 1 dX10_set_43 rfl rfl ?_
        refine j_get X fG_RX10_7 mput_0 rfl rfl dX10_set_44 ?_
        refine j_iload_n X 2 dX10_set_47 rfl rfl ?_
        refine j_iload_n X 3 dX10_set_48 rfl rfl ?_
        refine j_stM X (in_set c_6) dX10_set_49 ?_
        refine j_iload_n X 0 dX10_set_50 rfl rfl ?_
        exact j_iret X hr rfl (by subst ev1; first | with_reducible rfl | (simp only [mSet, if_neg c_6, if_neg c_18, if_neg c_33]; done) | (simp only [mSet, if_neg c_6, if_neg c_18, if_neg c_33]; rfl) | rfl) rfl (by subst ev1; first | with_reducible rfl | (simp only [mSet, if_neg c_6, if_neg c_18, if_neg c_33]; done) | (simp only [mSet, if_neg c_6, if_neg c_18, if_neg c_33]; rfl) | rfl) dX10_set_51
      · refine j_bipush X (v := (-4)) dX10_set_36 (by decide) ?_
        exact j_iret X hr rfl (by subst ev1; first | with_reducible rfl | (simp only [mSet, if_neg c_6, if_neg c_18, if_pos c_33]; done) | (simp only [mSet, if_neg c_6, if_neg c_18, if_pos c_33]; rfl) | rfl) rfl (by subst ev1; first | with_reducible rfl | (simp only [mSet, if_neg c_6, if_neg c_18, if_pos c_33]; done) | (simp only [mSet, if_neg c_6, if_neg c_18, if_pos c_33]; rfl) | rfl) dX10_set_38
    · refine j_bipush X (v := (-2)) dX10_set_21 (by decide) ?_
      exact j_iret X hr rfl (by first | with_reducible rfl | (simp only [mSet, if_neg c_6, if_pos c_18]; done) | (simp only [mSet, if_neg c_6, if_pos c_18]; rfl) | rfl) rfl (by first | with_reducible rfl | (simp only [mSet, if_neg c_6, if_pos c_18]; done) | (simp only [mSet, if_neg c_6, if_pos c_18]; rfl) | rfl) dX10_set_23
set_option maxRecDepth 100000 in
set_option maxHeartbeats 8000000 in
theorem c_X10_frame (l : Launch) {D : DD} {B z : Nat} {h : HF} {b : Nat} {μ : Mo} {p s d pr : Int32} {q : Nat} (hq : q ≤ 4) (eq : μ.1 0 = nI q) (hI : MIv μ)  : CT l yX10_frame cX10_frame 5 (some .int) 4 99 [.ref b, .int p, .int s, .int d, .int pr] D B z (mput D h b μ) (some (.int ((mFrame μ p s d pr).1))) 0 0 (mput D h b ((mFrame μ p s d pr).2)) := by
  refine CT.of (L := [(0, .ref b), (1, .int p), (2, .int s), (3, .int d), (4, .int pr)]) (by decide +kernel) (Nat.le_of_ble_eq_true rfl) rfl ?_
  intro P E S0 M0 AR BL ME CO X hr hnm
  refine j_iload_n X 1 dX10_frame_0 rfl rfl ?_
  refine j_callSi X (rest := []) (c_X10_noPort l) m_yX10_noPort kM_RX10_52 rfl rfl (Nat.le_of_ble_eq_true rfl) ⟨Nat.le_of_ble_eq_true rfl, Nat.le_of_ble_eq_true rfl, Nat.le_of_ble_eq_true rfl, Nat.le_of_ble_eq_true rfl⟩ dX10_frame_1 ?_
  refine j_if_eq X (tgt := 9) dX10_frame_4 (by decide) (fun c_4 => ?_) (fun c_4 => ?_)
  · have hp : PO p := po_of c_4
    refine j_iload_n X 2 dX10_frame_9 rfl rfl ?_
    refine j_callSi X (rest := []) (c_X10_noAddress l) m_yX10_noAddress kM_RX10_106 rfl rfl (Nat.le_of_ble_eq_true rfl) ⟨Nat.le_of_ble_eq_true rfl, Nat.le_of_ble_eq_true rfl, Nat.le_of_ble_eq_true rfl, Nat.le_of_ble_eq_true rfl⟩ dX10_frame_10 ?_
    refine j_if_ne X (tgt := 36) dX10_frame_13 (by decide) (fun c_13 => ?_) (fun c_13 => ?_)
    · refine j_bipush X (v := (-2)) dX10_frame_36 (by decide) ?_
      exact j_iret X hr rfl (by first | with_reducible rfl | (simp only [mFrame, if_pos c_4, if_neg c_13]; done) | (simp only [mFrame, if_pos c_4, if_neg c_13]; rfl) | rfl) rfl (by first | with_reducible rfl | (simp only [mFrame, if_pos c_4, if_neg c_13]; done) | (simp only [mFrame, if_pos c_4, if_neg c_13]; rfl) | rfl) dX10_frame_38
    · have hs : AD s := ad_of c_13
      refine j_iload_n X 3 dX10_frame_16 rfl rfl ?_
      refine j_iconst X (v := 0) dX10_frame_17 (by decide) ?_
      refine j_bipush X (v := 99) dX10_frame_18 (by decide) ?_
      refine j_callSi X (rest := []) (c_X10_in l) m_yX10_in kM_RX10_36 rfl rfl (Nat.le_of_ble_eq_true rfl) ⟨Nat.le_of_ble_eq_true rfl, Nat.le_of_ble_eq_true rfl, Nat.le_of_ble_eq_true rfl, Nat.le_of_ble_eq_true rfl⟩ dX10_frame_20 ?_
      refine j_if_eq X (tgt := 36) dX10_frame_23 (by decide) (fun c_23 => ?_) (fun c_23 => ?_)
      · refine j_bipush X (v := (-2)) dX10_frame_36 (by decide) ?_
        exact j_iret X hr rfl (by first | with_reducible rfl | (simp only [mFrame, if_pos c_4, if_pos c_13, if_pos c_23]; done) | (simp only [mFrame, if_pos c_4, if_pos c_13, if_pos c_23]; rfl) | rfl) rfl (by first | with_reducible rfl | (simp only [mFrame, if_pos c_4, if_pos c_13, if_pos c_23]; done) | (simp only [mFrame, if_pos c_4, if_pos c_13, if_pos c_23]; rfl) | rfl) dX10_frame_38
      · have hd : AD d := ad_in (Or.inl rfl) c_23
        refine j_iload X 4 dX10_frame_26 rfl ?_
        refine j_iconst X (v := 0) dX10_frame_28 (by decide) ?_
        refine j_iconst X (v := 3) dX10_frame_29 (by decide) ?_
        refine j_callSi X (rest := []) (c_X10_in l) m_yX10_in kM_RX10_36 rfl rfl (Nat.le_of_ble_eq_true rfl) ⟨Nat.le_of_ble_eq_true rfl, Nat.le_of_ble_eq_true rfl, Nat.le_of_ble_eq_true rfl, Nat.le_of_ble_eq_true rfl⟩ dX10_frame_30 ?_
        refine j_if_ne X (tgt := 39) dX10_frame_33 (by decide) (fun c_33 => ?_) (fun c_33 => ?_)
        · refine j_aload_n X 0 dX10_frame_39 rfl rfl ?_
          refine j_callVv X (rest := []) (c_X10_record l hq eq) m_yX10_record kM_RX10_55 mput_0 rfl rfl rfl rfl rfl (Nat.le_of_ble_eq_true rfl) ⟨Nat.le_of_ble_eq_true rfl, Nat.le_of_ble_eq_true rfl, Nat.le_of_ble_eq_true rfl, Nat.le_of_ble_eq_true rfl⟩ dX10_frame_40 ?_
          refine j_aload_n X 0 dX10_frame_43 rfl rfl ?_
          refine j_iload_n X 1 dX10_frame_44 rfl rfl ?_
          refine j_iload_n X 2 dX10_frame_45 rfl rfl ?_
          refine j_iload_n X 3 dX10_frame_46 rfl rfl ?_
          refine j_iload X 4 dX10_frame_47 rfl ?_
          refine j_callVi X (rest := []) (c_X10_comesIn l hp hs hd (mi_rec hI)) m_yX10_comesIn kM_RX10_109 mput_0 rfl rfl rfl rfl rfl (Nat.le_of_ble_eq_true rfl) ⟨Nat.le_of_ble_eq_true rfl, Nat.le_of_ble_eq_true rfl, Nat.le_of_ble_eq_true rfl, Nat.le_of_ble_eq_true rfl⟩ dX10_frame_49 ?_
          exact j_iret X hr rfl (by first | with_reducible rfl | (simp only [mFrame, if_pos c_4, if_pos c_13, if_neg c_23, if_neg c_33]; done) | (simp only [mFrame, if_pos c_4, if_pos c_13, if_neg c_23, if_neg c_33]; rfl) | rfl) rfl (by first | with_reducible rfl | (simp only [mFrame, if_pos c_4, if_pos c_13, if_neg c_23, if_neg c_33]; done) | (simp only [mFrame, if_pos c_4, if_pos c_13, if_neg c_23, if_neg c_33]; rfl) | rfl) dX10_frame_52
        · refine j_bipush X (v := (-2)) dX10_frame_36 (by decide) ?_
          exact j_iret X hr rfl (by first | with_reducible rfl | (simp only [mFrame, if_pos c_4, if_pos c_13, if_neg c_23, if_pos c_33]; done) | (simp only [mFrame, if_pos c_4, if_pos c_13, if_neg c_23, if_pos c_33]; rfl) | rfl) rfl (by first | with_reducible rfl | (simp only [mFrame, if_pos c_4, if_pos c_13, if_neg c_23, if_pos c_33]; done) | (simp only [mFrame, if_pos c_4, if_pos c_13, if_neg c_23, if_pos c_33]; rfl) | rfl) dX10_frame_38
  · refine j_iconst X (v := (-1)) dX10_frame_7 (by decide) ?_
    exact j_iret X hr rfl (by first | with_reducible rfl | (simp only [mFrame, if_neg c_4]; done) | (simp only [mFrame, if_neg c_4]; rfl) | rfl) rfl (by first | with_reducible rfl | (simp only [mFrame, if_neg c_4]; done) | (simp only [mFrame, if_neg c_4]; rfl) | rfl) dX10_frame_8
set_option maxRecDepth 100000 in
set_option maxHeartbeats 8000000 in
theorem c_X10_forget (l : Launch) {D : DD} {B z : Nat} {h : HF} {b : Nat} {μ : Mo} {x : Int32} {q : Nat} (hq : q ≤ 4) (eq : μ.1 0 = nI q)  : CT l yX10_forget cX10_forget 3 (some .int) 2 42 [.ref b, .int x] D B z (mput D h b μ) (some (.int ((mForget μ x).1))) 0 0 (mput D h b ((mForget μ x).2)) := by
  refine CT.of (L := [(0, .ref b), (1, .int x)]) (by decide +kernel) (Nat.le_of_ble_eq_true rfl) rfl ?_
  intro P E S0 M0 AR BL ME CO X hr hnm
  refine j_iload_n X 1 dX10_forget_0 rfl rfl ?_
  refine j_callSi X (rest := []) (c_X10_noAddress l) m_yX10_noAddress kM_RX10_106 rfl rfl (Nat.le_of_ble_eq_true rfl) ⟨Nat.le_of_ble_eq_true rfl, Nat.le_of_ble_eq_true rfl, Nat.le_of_ble_eq_true rfl, Nat.le_of_ble_eq_true rfl⟩ dX10_forget_1 ?_
  refine j_if_eq X (tgt := 10) dX10_forget_4 (by decide) (fun c_4 => ?_) (fun c_4 => ?_)
  · have hx : AD x := ad_of c_4
    refine j_aload_n X 0 dX10_forget_10 rfl rfl ?_
    refine j_get X fG_RX10_7 mput_0 rfl rfl dX10_forget_11 ?_
    refine j_sipush X (v := 552) dX10_forget_14 (by decide) ?_
    refine j_iload_n X 1 dX10_forget_17 rfl rfl ?_
    refine j_iadd X dX10_forget_18 ?_
    refine j_ldM X (in_552 hx) dX10_forget_19 ?_
    refine j_iconst X (v := 1) dX10_forget_20 (by decide) ?_
    refine j_isub X dX10_forget_21 ?_
    refine j_tops (fun v1 ev1 => ?_)
    refine j_istore_n X (L' := [(2, .int v1), (0, .ref b), (1, .int x)]) dX10_forget_22 rfl (by decide) rfl ?_
    refine j_iload_n X 0 dX10_forget_23 rfl rfl ?_
    refine j_if_ge X (tgt := 30) dX10_forget_24 (by decide) (fun c_24 => ?_) (fun c_24 => ?_)
    · refine j_aload_n X 1 dX10_forget_30 rfl rfl ?_
      refine j_callVv X (rest := []) (c_X10_record l hq eq) m_yX10_record kM_RX10_55 mput_0 rfl rfl rfl rfl rfl (Nat.le_of_ble_eq_true rfl) ⟨Nat.le_of_ble_eq_true rfl, Nat.le_of_ble_eq_true rfl, Nat.le_of_ble_eq_true rfl, Nat.le_of_ble_eq_true rfl⟩ dX10_forget_31 ?_
      refine j_aload_n X 1 dX10_forget_34 rfl rfl ?_
      refine j_get X fG_RX10_7 mput_0 rfl rfl dX10_forget_35 ?_
      refine j_sipush X (v := 552) dX10_forget_38 (by decide) ?_
      refine j_iload_n X 2 dX10_forget_41 rfl rfl ?_
      refine j_iadd X dX10_forget_42 ?_
      refine j_iconst X (v := 0) dX10_forget_43 (by decide) ?_
      refine j_stM X (in_552 hx) dX10_forget_44 ?_
      refine j_iload_n X 0 dX10_forget_45 rfl rfl ?_
      exact j_iret X hr rfl (by subst ev1; first | with_reducible rfl | (simp only [mForget, if_pos c_4, if_neg c_24]; done) | (simp only [mForget, if_pos c_4, if_neg c_24]; rfl) | rfl) rfl (by subst ev1; first | with_reducible rfl | (simp only [mForget, if_pos c_4, if_neg c_24]; done) | (simp only [mForget, if_pos c_4, if_neg c_24]; rfl) | rfl) dX10_forget_46
    · refine j_bipush X (v := (-4)) dX10_forget_27 (by decide) ?_
      exact j_iret X hr rfl (by subst ev1; first | with_reducible rfl | (simp only [mForget, if_pos c_4, if_pos c_24]; done) | (simp only [mForget, if_pos c_4, if_pos c_24]; rfl) | rfl) rfl (by subst ev1; first | with_reducible rfl | (simp only [mForget, if_pos c_4, if_pos c_24]; done) | (simp only [mForget, if_pos c_4, if_pos c_24]; rfl) | rfl) dX10_forget_29
  · refine j_bipush X (v := (-2)) dX10_forget_7 (by decide) ?_
    exact j_iret X hr rfl (by first | with_reducible rfl | (simp only [mForget, if_neg c_4]; done) | (simp only [mForget, if_neg c_4]; rfl) | rfl) rfl (by first | with_reducible rfl | (simp only [mForget, if_neg c_4]; done) | (simp only [mForget, if_neg c_4]; rfl) | rfl) dX10_forget_9
