set_option maxRecDepth 100000 in
set_option maxHeartbeats 8000000 in
theorem c_X10_type (l : Launch) {D : DD} {B z : Nat} {h : HF} {b : Nat} {μ : Mo} {c : Int32} {m : Nat} (hm : m ≤ 70) (em : μ.1 4 = nI m)  : CT l yX10_type cX10_type 2 (some .int) 0 0 [.ref b, .int c] D B z (mput D h b μ) (some (.int ((mType μ c).1))) 0 0 (mput D h b ((mType μ c).2)) := by
  refine CT.of (L := [(0, .ref b), (1, .int c)]) (by decide +kernel) (Nat.le_of_ble_eq_true rfl) rfl ?_
  intro P E S0 M0 AR BL ME CO X hr hnm
  refine j_aload_n X 0 dX10_type_0 rfl rfl ?_
  refine j_get X fG_RX10_124 mput_0 rfl rfl dX10_type_1 ?_
  refine j_bipush X (v := 70) dX10_type_4 (by decide) ?_
  refine j_icmp_ne X (tgt := 12) dX10_type_6 (by decide) (fun c_6 => ?_) (fun c_6 => ?_)
  · refine j_aload_n X 0 dX10_type_12 rfl rfl ?_
    refine j_get X fG_RX10_25 mput_0 rfl rfl dX10_type_13 ?_
    refine j_aload_n X 0 dX10_type_16 rfl rfl ?_
    refine j_get X fG_RX10_124 mput_0 rfl rfl dX10_type_17 ?_
    refine j_iload_n X 1 dX10_type_20 rfl rfl ?_
    refine j_cast X (mput_k 6 (by decide)) rfl (by rw [em]; exact vp_in_nI (by rcases Nat.lt_or_ge m 70 with h_ | h_; exact h_; exact absurd (by rw [em, show m = 70 by omega]; rfl) c_6) (by decide)) dX10_type_21 ?_
    refine j_heap (h' := mput D h b (mar μ 5 (upd (μ.2 5) (μ.1 4).toNatClampNeg (vp_nar .char c)))) mput_a5 ?_
    refine j_aload_n X 0 dX10_type_22 rfl rfl ?_
    refine j_dup X dX10_type_23 rfl ?_
    refine j_get X fG_RX10_124 mput_0 rfl rfl dX10_type_24 ?_
    refine j_iconst X (v := 1) dX10_type_27 (by decide) ?_
    refine j_iadd X dX10_type_28 ?_
    refine j_put X fG_RX10_124 fW_10_9 mput_0 rfl rfl rfl (Nat.le_of_ble_eq_true rfl) dX10_type_29 ?_
    refine j_heap (h' := mput D h b (msc (mar μ 5 (upd (μ.2 5) (μ.1 4).toNatClampNeg (vp_nar .char c))) 4 (((mar μ 5 (upd (μ.2 5) (μ.1 4).toNatClampNeg (vp_nar .char c))).1 4) + 1))) mput_s4 ?_
    refine j_aload_n X 0 dX10_type_32 rfl rfl ?_
    refine j_get X fG_RX10_124 mput_0 rfl rfl dX10_type_33 ?_
    exact j_iret X hr rfl (by first | with_reducible rfl | (simp only [mType, if_neg c_6]; done) | (simp only [mType, if_neg c_6]; rfl) | rfl) rfl (by first | with_reducible rfl | (simp only [mType, if_neg c_6]; done) | (simp only [mType, if_neg c_6]; rfl) | rfl) dX10_type_36
  · refine j_bipush X (v := (-3)) dX10_type_9 (by decide) ?_
    exact j_iret X hr rfl (by first | with_reducible rfl | (simp only [mType, if_pos c_6]; done) | (simp only [mType, if_pos c_6]; rfl) | rfl) rfl (by first | with_reducible rfl | (simp only [mType, if_pos c_6]; done) | (simp only [mType, if_pos c_6]; rfl) | rfl) dX10_type_11
set_option maxRecDepth 100000 in
set_option maxHeartbeats 8000000 in
theorem c_X10_clearText (l : Launch) {D : DD} {B z : Nat} {h : HF} {b : Nat} {μ : Mo}  : CT l yX10_clearText cX10_clearText 2 (some .int) 0 0 [.ref b] D B z (mput D h b μ) (some (.int (μ.1 4))) 0 0 (mput D h b (msc μ 4 0)) := by
  refine CT.of (L := [(0, .ref b)]) (by decide +kernel) (Nat.le_of_ble_eq_true rfl) rfl ?_
  intro P E S0 M0 AR BL ME CO X hr hnm
  refine j_aload_n X 0 dX10_clearText_0 rfl rfl ?_
  refine j_get X fG_RX10_124 mput_0 rfl rfl dX10_clearText_1 ?_
  refine j_tops (fun v1 ev1 => ?_)
  refine j_istore_n X (L' := [(1, .int v1), (0, .ref b)]) dX10_clearText_4 rfl (by decide) rfl ?_
  refine j_aload_n X 1 dX10_clearText_5 rfl rfl ?_
  refine j_iconst X (v := 0) dX10_clearText_6 (by decide) ?_
  refine j_put X fG_RX10_124 fW_10_9 mput_0 rfl rfl rfl (Nat.le_of_ble_eq_true rfl) dX10_clearText_7 ?_
  refine j_heap (h' := mput D h b (msc μ 4 0)) mput_s4 ?_
  refine j_iload_n X 0 dX10_clearText_10 rfl rfl ?_
  exact j_iret X hr rfl (by subst ev1; first | with_reducible rfl | rfl) rfl (by subst ev1; first | with_reducible rfl | rfl) dX10_clearText_11
set_option maxRecDepth 100000 in
set_option maxHeartbeats 8000000 in
theorem c_X10_port (l : Launch) {D : DD} {B z : Nat} {h : HF} {b : Nat} {μ : Mo} {p w : Int32}  : CT l yX10_port cX10_port 3 (some .int) 2 43 [.ref b, .int p, .int w] D B z (mput D h b μ) (some (.int (mPort μ p w))) 0 0 (mput D h b μ) := by
  refine CT.of (L := [(0, .ref b), (1, .int p), (2, .int w)]) (by decide +kernel) (Nat.le_of_ble_eq_true rfl) rfl ?_
  intro P E S0 M0 AR BL ME CO X hr hnm
  refine j_iload_n X 1 dX10_port_0 rfl rfl ?_
  refine j_callSi X (rest := []) (c_X10_noPort l) m_yX10_noPort kM_RX10_52 rfl rfl (Nat.le_of_ble_eq_true rfl) ⟨Nat.le_of_ble_eq_true rfl, Nat.le_of_ble_eq_true rfl, Nat.le_of_ble_eq_true rfl, Nat.le_of_ble_eq_true rfl⟩ dX10_port_1 ?_
  refine j_if_eq X (tgt := 9) dX10_port_4 (by decide) (fun c_4 => ?_) (fun c_4 => ?_)
  · have hp : PO p := po_of c_4
    refine j_iload_n X 2 dX10_port_9 rfl rfl ?_
    by_cases w10_0 : w = 0
    · refine j_tableIn X (tgt := 56) (off := 46) dX10_port_10 (by rw [w10_0]; decide) (by rw [w10_0]; decide) (by rw [w10_0]; rfl) (by decide) ?_
      refine j_aload_n X 0 dX10_port_56 rfl rfl ?_
      refine j_iload_n X 1 dX10_port_57 rfl rfl ?_
      refine j_iconst X (v := 0) dX10_port_58 (by decide) ?_
      refine j_callVi X (rest := []) (c_X10_of l hp (show WH 0 _ from ⟨0, by decide, rfl⟩)) m_yX10_of kM_RX10_44 mput_0 rfl rfl rfl rfl rfl (Nat.le_of_ble_eq_true rfl) ⟨Nat.le_of_ble_eq_true rfl, Nat.le_of_ble_eq_true rfl, Nat.le_of_ble_eq_true rfl, Nat.le_of_ble_eq_true rfl⟩ dX10_port_59 ?_
      exact j_iret X hr rfl (by first | with_reducible rfl | (simp only [mPort, if_pos c_4, if_pos w10_0]; done) | (simp only [mPort, if_pos c_4, if_pos w10_0]; rfl) | rfl) rfl (by first | with_reducible rfl | (simp only [mPort, if_pos c_4, if_pos w10_0]; done) | (simp only [mPort, if_pos c_4, if_pos w10_0]; rfl) | rfl) dX10_port_62
    by_cases w10_1 : w = 1
    · refine j_tableIn X (tgt := 63) (off := 53) dX10_port_10 (by rw [w10_1]; decide) (by rw [w10_1]; decide) (by rw [w10_1]; rfl) (by decide) ?_
      refine j_aload_n X 0 dX10_port_63 rfl rfl ?_
      refine j_iload_n X 1 dX10_port_64 rfl rfl ?_
      refine j_callVi X (rest := []) (c_X10_isOpen l hp) m_yX10_isOpen kM_RX10_48 mput_0 rfl rfl rfl rfl rfl (Nat.le_of_ble_eq_true rfl) ⟨Nat.le_of_ble_eq_true rfl, Nat.le_of_ble_eq_true rfl, Nat.le_of_ble_eq_true rfl, Nat.le_of_ble_eq_true rfl⟩ dX10_port_65 ?_
      refine j_if_eq X (tgt := 75) dX10_port_68 (by decide) (fun c_68 => ?_) (fun c_68 => ?_)
      · refine j_iconst X (v := 0) dX10_port_75 (by decide) ?_
        exact j_iret X hr rfl (by first | with_reducible rfl | (simp only [mPort, if_pos c_4, if_neg w10_0, if_pos w10_1, if_pos c_68]; done) | (simp only [mPort, if_pos c_4, if_neg w10_0, if_pos w10_1, if_pos c_68]; rfl) | rfl) rfl (by first | with_reducible rfl | (simp only [mPort, if_pos c_4, if_neg w10_0, if_pos w10_1, if_pos c_68]; done) | (simp only [mPort, if_pos c_4, if_neg w10_0, if_pos w10_1, if_pos c_68]; rfl) | rfl) dX10_port_76
      · refine j_iconst X (v := 1) dX10_port_71 (by decide) ?_
        refine j_goto X (tgt := 76) dX10_port_72 (by decide) ?_
        exact j_iret X hr rfl (by first | with_reducible rfl | (simp only [mPort, if_pos c_4, if_neg w10_0, if_pos w10_1, if_neg c_68]; done) | (simp only [mPort, if_pos c_4, if_neg w10_0, if_pos w10_1, if_neg c_68]; rfl) | rfl) rfl (by first | with_reducible rfl | (simp only [mPort, if_pos c_4, if_neg w10_0, if_pos w10_1, if_neg c_68]; done) | (simp only [mPort, if_pos c_4, if_neg w10_0, if_pos w10_1, if_neg c_68]; rfl) | rfl) dX10_port_76
    by_cases w10_2 : w = 2
    · refine j_tableIn X (tgt := 77) (off := 67) dX10_port_10 (by rw [w10_2]; decide) (by rw [w10_2]; decide) (by rw [w10_2]; rfl) (by decide) ?_
      refine j_aload_n X 0 dX10_port_77 rfl rfl ?_
      refine j_iload_n X 1 dX10_port_78 rfl rfl ?_
      refine j_callVi X (rest := []) (c_X10_holdLeft l hp) m_yX10_holdLeft kM_RX10_65 mput_0 rfl rfl rfl rfl rfl (Nat.le_of_ble_eq_true rfl) ⟨Nat.le_of_ble_eq_true rfl, Nat.le_of_ble_eq_true rfl, Nat.le_of_ble_eq_true rfl, Nat.le_of_ble_eq_true rfl⟩ dX10_port_79 ?_
      exact j_iret X hr rfl (by first | with_reducible rfl | (simp only [mPort, if_pos c_4, if_neg w10_0, if_neg w10_1, if_pos w10_2]; done) | (simp only [mPort, if_pos c_4, if_neg w10_0, if_neg w10_1, if_pos w10_2]; rfl) | rfl) rfl (by first | with_reducible rfl | (simp only [mPort, if_pos c_4, if_neg w10_0, if_neg w10_1, if_pos w10_2]; done) | (simp only [mPort, if_pos c_4, if_neg w10_0, if_neg w10_1, if_pos w10_2]; rfl) | rfl) dX10_port_82
    by_cases w10_3 : w = 3
    · refine j_tableIn X (tgt := 83) (off := 73) dX10_port_10 (by rw [w10_3]; decide) (by rw [w10_3]; decide) (by rw [w10_3]; rfl) (by decide) ?_
      refine j_aload_n X 0 dX10_port_83 rfl rfl ?_
      refine j_iload_n X 1 dX10_port_84 rfl rfl ?_
      refine j_iconst X (v := 2) dX10_port_85 (by decide) ?_
      refine j_callVi X (rest := []) (c_X10_of l hp (show WH 2 _ from ⟨2, by decide, rfl⟩)) m_yX10_of kM_RX10_44 mput_0 rfl rfl rfl rfl rfl (Nat.le_of_ble_eq_true rfl) ⟨Nat.le_of_ble_eq_true rfl, Nat.le_of_ble_eq_true rfl, Nat.le_of_ble_eq_true rfl, Nat.le_of_ble_eq_true rfl⟩ dX10_port_86 ?_
      exact j_iret X hr rfl (by first | with_reducible rfl | (simp only [mPort, if_pos c_4, if_neg w10_0, if_neg w10_1, if_neg w10_2, if_pos w10_3]; done) | (simp only [mPort, if_pos c_4, if_neg w10_0, if_neg w10_1, if_neg w10_2, if_pos w10_3]; rfl) | rfl) rfl (by first | with_reducible rfl | (simp only [mPort, if_pos c_4, if_neg w10_0, if_neg w10_1, if_neg w10_2, if_pos w10_3]; done) | (simp only [mPort, if_pos c_4, if_neg w10_0, if_neg w10_1, if_neg w10_2, if_pos w10_3]; rfl) | rfl) dX10_port_89
    by_cases w10_4 : w = 4
    · refine j_tableIn X (tgt := 90) (off := 80) dX10_port_10 (by rw [w10_4]; decide) (by rw [w10_4]; decide) (by rw [w10_4]; rfl) (by decide) ?_
      refine j_aload_n X 0 dX10_port_90 rfl rfl ?_
      refine j_iload_n X 1 dX10_port_91 rfl rfl ?_
      refine j_iconst X (v := 3) dX10_port_92 (by decide) ?_
      refine j_callVi X (rest := []) (c_X10_of l hp (show WH 3 _ from ⟨3, by decide, rfl⟩)) m_yX10_of kM_RX10_44 mput_0 rfl rfl rfl rfl rfl (Nat.le_of_ble_eq_true rfl) ⟨Nat.le_of_ble_eq_true rfl, Nat.le_of_ble_eq_true rfl, Nat.le_of_ble_eq_true rfl, Nat.le_of_ble_eq_true rfl⟩ dX10_port_93 ?_
      refine j_if_ne X (tgt := 104) dX10_port_96 (by decide) (fun c_96 => ?_) (fun c_96 => ?_)
      · refine j_aload_n X 0 dX10_port_104 rfl rfl ?_
        refine j_iload_n X 1 dX10_port_105 rfl rfl ?_
        refine j_iconst X (v := 3) dX10_port_106 (by decide) ?_
        refine j_callVi X (rest := []) (c_X10_of l hp (show WH 3 _ from ⟨3, by decide, rfl⟩)) m_yX10_of kM_RX10_44 mput_0 rfl rfl rfl rfl rfl (Nat.le_of_ble_eq_true rfl) ⟨Nat.le_of_ble_eq_true rfl, Nat.le_of_ble_eq_true rfl, Nat.le_of_ble_eq_true rfl, Nat.le_of_ble_eq_true rfl⟩ dX10_port_107 ?_
        refine j_iconst X (v := 1) dX10_port_110 (by decide) ?_
        refine j_isub X dX10_port_111 ?_
        exact j_iret X hr rfl (by first | with_reducible rfl | (simp only [mPort, if_pos c_4, if_neg w10_0, if_neg w10_1, if_neg w10_2, if_neg w10_3, if_pos w10_4, if_neg c_96]; done) | (simp only [mPort, if_pos c_4, if_neg w10_0, if_neg w10_1, if_neg w10_2, if_neg w10_3, if_pos w10_4, if_neg c_96]; rfl) | rfl) rfl (by first | with_reducible rfl | (simp only [mPort, if_pos c_4, if_neg w10_0, if_neg w10_1, if_neg w10_2, if_neg w10_3, if_pos w10_4, if_neg c_96]; done) | (simp only [mPort, if_pos c_4, if_neg w10_0, if_neg w10_1, if_neg w10_2, if_neg w10_3, if_pos w10_4, if_neg c_96]; rfl) | rfl) dX10_port_112
      · refine j_bipush X (v := (-4)) dX10_port_99 (by decide) ?_
        refine j_goto X (tgt := 112) dX10_port_101 (by decide) ?_
        exact j_iret X hr rfl (by first | with_reducible rfl | (simp only [mPort, if_pos c_4, if_neg w10_0, if_neg w10_1, if_neg w10_2, if_neg w10_3, if_pos w10_4, if_pos c_96]; done) | (simp only [mPort, if_pos c_4, if_neg w10_0, if_neg w10_1, if_neg w10_2, if_neg w10_3, if_pos w10_4, if_pos c_96]; rfl) | rfl) rfl (by first | with_reducible rfl | (simp only [mPort, if_pos c_4, if_neg w10_0, if_neg w10_1, if_neg w10_2, if_neg w10_3, if_pos w10_4, if_pos c_96]; done) | (simp only [mPort, if_pos c_4, if_neg w10_0, if_neg w10_1, if_neg w10_2, if_neg w10_3, if_pos w10_4, if_pos c_96]; rfl) | rfl) dX10_port_112
    by_cases w10_5 : w = 5
    · refine j_tableIn X (tgt := 113) (off := 103) dX10_port_10 (by rw [w10_5]; decide) (by rw [w10_5]; decide) (by rw [w10_5]; rfl) (by decide) ?_
      refine j_aload_n X 0 dX10_port_113 rfl rfl ?_
      refine j_iload_n X 1 dX10_port_114 rfl rfl ?_
      refine j_iconst X (v := 5) dX10_port_115 (by decide) ?_
      refine j_callVi X (rest := []) (c_X10_of l hp (show WH 5 _ from ⟨5, by decide, rfl⟩)) m_yX10_of kM_RX10_44 mput_0 rfl rfl rfl rfl rfl (Nat.le_of_ble_eq_true rfl) ⟨Nat.le_of_ble_eq_true rfl, Nat.le_of_ble_eq_true rfl, Nat.le_of_ble_eq_true rfl, Nat.le_of_ble_eq_true rfl⟩ dX10_port_116 ?_
      exact j_iret X hr rfl (by first | with_reducible rfl | (simp only [mPort, if_pos c_4, if_neg w10_0, if_neg w10_1, if_neg w10_2, if_neg w10_3, if_neg w10_4, if_pos w10_5]; done) | (simp only [mPort, if_pos c_4, if_neg w10_0, if_neg w10_1, if_neg w10_2, if_neg w10_3, if_neg w10_4, if_pos w10_5]; rfl) | rfl) rfl (by first | with_reducible rfl | (simp only [mPort, if_pos c_4, if_neg w10_0, if_neg w10_1, if_neg w10_2, if_neg w10_3, if_neg w10_4, if_pos w10_5]; done) | (simp only [mPort, if_pos c_4, if_neg w10_0, if_neg w10_1, if_neg w10_2, if_neg w10_3, if_neg w10_4, if_pos w10_5]; rfl) | rfl) dX10_port_119
    by_cases w10_6 : w = 6
    · refine j_tableIn X (tgt := 120) (off := 110) dX10_port_10 (by rw [w10_6]; decide) (by rw [w10_6]; decide) (by rw [w10_6]; rfl) (by decide) ?_
      refine j_aload_n X 0 dX10_port_120 rfl rfl ?_
      refine j_iload_n X 1 dX10_port_121 rfl rfl ?_
      refine j_callVi X (rest := []) (c_X10_entriesWith l hp) m_yX10_entriesWith kM_RX10_151 mput_0 rfl rfl rfl rfl rfl (Nat.le_of_ble_eq_true rfl) ⟨Nat.le_of_ble_eq_true rfl, Nat.le_of_ble_eq_true rfl, Nat.le_of_ble_eq_true rfl, Nat.le_of_ble_eq_true rfl⟩ dX10_port_122 ?_
      exact j_iret X hr rfl (by first | with_reducible rfl | (simp only [mPort, if_pos c_4, if_neg w10_0, if_neg w10_1, if_neg w10_2, if_neg w10_3, if_neg w10_4, if_neg w10_5, if_pos w10_6]; done) | (simp only [mPort, if_pos c_4, if_neg w10_0, if_neg w10_1, if_neg w10_2, if_neg w10_3, if_neg w10_4, if_neg w10_5, if_pos w10_6]; rfl) | rfl) rfl (by first | with_reducible rfl | (simp only [mPort, if_pos c_4, if_neg w10_0, if_neg w10_1, if_neg w10_2, if_neg w10_3, if_neg w10_4, if_neg w10_5, if_pos w10_6]; done) | (simp only [mPort, if_pos c_4, if_neg w10_0, if_neg w10_1, if_neg w10_2, if_neg w10_3, if_neg w10_4, if_neg w10_5, if_pos w10_6]; rfl) | rfl) dX10_port_125
    by_cases w10_7 : w = 7
    · refine j_tableIn X (tgt := 126) (off := 116) dX10_port_10 (by rw [w10_7]; decide) (by rw [w10_7]; decide) (by rw [w10_7]; rfl) (by decide) ?_
      refine j_aload_n X 0 dX10_port_126 rfl rfl ?_
      refine j_iload_n X 1 dX10_port_127 rfl rfl ?_
      refine j_iconst X (v := 4) dX10_port_128 (by decide) ?_
      refine j_callVi X (rest := []) (c_X10_of l hp (show WH 4 _ from ⟨4, by decide, rfl⟩)) m_yX10_of kM_RX10_44 mput_0 rfl rfl rfl rfl rfl (Nat.le_of_ble_eq_true rfl) ⟨Nat.le_of_ble_eq_true rfl, Nat.le_of_ble_eq_true rfl, Nat.le_of_ble_eq_true rfl, Nat.le_of_ble_eq_true rfl⟩ dX10_port_129 ?_
      exact j_iret X hr rfl (by first | with_reducible rfl | (simp only [mPort, if_pos c_4, if_neg w10_0, if_neg w10_1, if_neg w10_2, if_neg w10_3, if_neg w10_4, if_neg w10_5, if_neg w10_6, if_pos w10_7]; done) | (simp only [mPort, if_pos c_4, if_neg w10_0, if_neg w10_1, if_neg w10_2, if_neg w10_3, if_neg w10_4, if_neg w10_5, if_neg w10_6, if_pos w10_7]; rfl) | rfl) rfl (by first | with_reducible rfl | (simp only [mPort, if_pos c_4, if_neg w10_0, if_neg w10_1, if_neg w10_2, if_neg w10_3, if_neg w10_4, if_neg w10_5, if_neg w10_6, if_pos w10_7]; done) | (simp only [mPort, if_pos c_4, if_neg w10_0, if_neg w10_1, if_neg w10_2, if_neg w10_3, if_neg w10_4, if_neg w10_5, if_neg w10_6, if_pos w10_7]; rfl) | rfl) dX10_port_132
    refine j_tableOut X (tgt := 133) dX10_port_10 (sw_out 8 (by decide) (fun k hk => lt_n8 (P := fun k => ¬ w = nI k) w10_0 w10_1 w10_2 w10_3 w10_4 w10_5 w10_6 w10_7 k hk)) (by decide) ?_
    refine j_bipush X (v := (-2)) dX10_port_133 (by decide) ?_
    exact j_iret X hr rfl (by first | with_reducible rfl | (simp only [mPort, if_pos c_4, if_neg w10_0, if_neg w10_1, if_neg w10_2, if_neg w10_3, if_neg w10_4, if_neg w10_5, if_neg w10_6, if_neg w10_7]; done) | (simp only [mPort, if_pos c_4, if_neg w10_0, if_neg w10_1, if_neg w10_2, if_neg w10_3, if_neg w10_4, if_neg w10_5, if_neg w10_6, if_neg w10_7]; rfl) | rfl) rfl (by first | with_reducible rfl | (simp only [mPort, if_pos c_4, if_neg w10_0, if_neg w10_1, if_neg w10_2, if_neg w10_3, if_neg w10_4, if_neg w10_5, if_neg w10_6, if_neg w10_7]; done) | (simp only [mPort, if_pos c_4, if_neg w10_0, if_neg w10_1, if_neg w10_2, if_neg w10_3, if_neg w10_4, if_neg w10_5, if_neg w10_6, if_neg w10_7]; rfl) | rfl) dX10_port_135
  · refine j_iconst X (v := (-1)) dX10_port_7 (by decide) ?_
    exact j_iret X hr rfl (by first | with_reducible rfl | (simp only [mPort, if_neg c_4]; done) | (simp only [mPort, if_neg c_4]; rfl) | rfl) rfl (by first | with_reducible rfl | (simp only [mPort, if_neg c_4]; done) | (simp only [mPort, if_neg c_4]; rfl) | rfl) dX10_port_8
set_option maxRecDepth 100000 in
set_option maxHeartbeats 8000000 in
theorem c_X10_account (l : Launch) {D : DD} {B z : Nat} {h : HF} {b : Nat} {μ : Mo} {p w : Int32}  : CT l yX10_account cX10_account 3 (some .int) 2 42 [.ref b, .int p, .int w] D B z (mput D h b μ) (some (.int (mAccount μ p w))) 0 0 (mput D h b μ) := by
  refine CT.of (L := [(0, .ref b), (1, .int p), (2, .int w)]) (by decide +kernel) (Nat.le_of_ble_eq_true rfl) rfl ?_
  intro P E S0 M0 AR BL ME CO X hr hnm
  refine j_iload_n X 1 dX10_account_0 rfl rfl ?_
  refine j_callSi X (rest := []) (c_X10_noPort l) m_yX10_noPort kM_RX10_52 rfl rfl (Nat.le_of_ble_eq_true rfl) ⟨Nat.le_of_ble_eq_true rfl, Nat.le_of_ble_eq_true rfl, Nat.le_of_ble_eq_true rfl, Nat.le_of_ble_eq_true rfl⟩ dX10_account_1 ?_
  refine j_if_eq X (tgt := 9) dX10_account_4 (by decide) (fun c_4 => ?_) (fun c_4 => ?_)
  · have hp : PO p := po_of c_4
    refine j_iload_n X 2 dX10_account_9 rfl rfl ?_
    refine j_iconst X (v := 0) dX10_account_10 (by decide) ?_
    refine j_bipush X (v := 10) dX10_account_11 (by decide) ?_
    refine j_callSi X (rest := []) (c_X10_in l) m_yX10_in kM_RX10_36 rfl rfl (Nat.le_of_ble_eq_true rfl) ⟨Nat.le_of_ble_eq_true rfl, Nat.le_of_ble_eq_true rfl, Nat.le_of_ble_eq_true rfl, Nat.le_of_ble_eq_true rfl⟩ dX10_account_13 ?_
    refine j_if_eq X (tgt := 31) dX10_account_16 (by decide) (fun c_16 => ?_) (fun c_16 => ?_)
    · refine j_bipush X (v := (-2)) dX10_account_31 (by decide) ?_
      exact j_iret X hr rfl (by first | with_reducible rfl | (simp only [mAccount, if_pos c_4, if_pos c_16]; done) | (simp only [mAccount, if_pos c_4, if_pos c_16]; rfl) | rfl) rfl (by first | with_reducible rfl | (simp only [mAccount, if_pos c_4, if_pos c_16]; done) | (simp only [mAccount, if_pos c_4, if_pos c_16]; rfl) | rfl) dX10_account_33
    · have hw6 : WH (6 + w) 20 := wh_acc c_16
      refine j_aload_n X 0 dX10_account_19 rfl rfl ?_
      refine j_iload_n X 1 dX10_account_20 rfl rfl ?_
      refine j_bipush X (v := 6) dX10_account_21 (by decide) ?_
      refine j_iload_n X 2 dX10_account_23 rfl rfl ?_
      refine j_iadd X dX10_account_24 ?_
      refine j_callVi X (rest := []) (c_X10_of l hp hw6) m_yX10_of kM_RX10_44 mput_0 rfl rfl rfl rfl rfl (Nat.le_of_ble_eq_true rfl) ⟨Nat.le_of_ble_eq_true rfl, Nat.le_of_ble_eq_true rfl, Nat.le_of_ble_eq_true rfl, Nat.le_of_ble_eq_true rfl⟩ dX10_account_25 ?_
      refine j_goto X (tgt := 33) dX10_account_28 (by decide) ?_
      exact j_iret X hr rfl (by first | with_reducible rfl | (simp only [mAccount, if_pos c_4, if_neg c_16]; done) | (simp only [mAccount, if_pos c_4, if_neg c_16]; rfl) | rfl) rfl (by first | with_reducible rfl | (simp only [mAccount, if_pos c_4, if_neg c_16]; done) | (simp only [mAccount, if_pos c_4, if_neg c_16]; rfl) | rfl) dX10_account_33
  · refine j_iconst X (v := (-1)) dX10_account_7 (by decide) ?_
    exact j_iret X hr rfl (by first | with_reducible rfl | (simp only [mAccount, if_neg c_4]; done) | (simp only [mAccount, if_neg c_4]; rfl) | rfl) rfl (by first | with_reducible rfl | (simp only [mAccount, if_neg c_4]; done) | (simp only [mAccount, if_neg c_4]; rfl) | rfl) dX10_account_8
set_option maxRecDepth 100000 in
set_option maxHeartbeats 8000000 in
theorem c_X10_where (l : Launch) {D : DD} {B z : Nat} {h : HF} {b : Nat} {μ : Mo} {x : Int32}  : CT l yX10_where cX10_where 2 (some .int) 2 42 [.ref b, .int x] D B z (mput D h b μ) (some (.int (mWhere μ x))) 0 0 (mput D h b μ) := by
  refine CT.of (L := [(0, .ref b), (1, .int x)]) (by decide +kernel) (Nat.le_of_ble_eq_true rfl) rfl ?_
  intro P E S0 M0 AR BL ME CO X hr hnm
  refine j_iload_n X 1 dX10_where_0 rfl rfl ?_
  refine j_callSi X (rest := []) (c_X10_noAddress l) m_yX10_noAddress kM_RX10_106 rfl rfl (Nat.le_of_ble_eq_true rfl) ⟨Nat.le_of_ble_eq_true rfl, Nat.le_of_ble_eq_true rfl, Nat.le_of_ble_eq_true rfl, Nat.le_of_ble_eq_true rfl⟩ dX10_where_1 ?_
  refine j_if_eq X (tgt := 10) dX10_where_4 (by decide) (fun c_4 => ?_) (fun c_4 => ?_)
  · have hx : AD x := ad_of c_4
    refine j_aload_n X 0 dX10_where_10 rfl rfl ?_
    refine j_get X fG_RX10_7 mput_0 rfl rfl dX10_where_11 ?_
    refine j_sipush X (v := 552) dX10_where_14 (by decide) ?_
    refine j_iload_n X 1 dX10_where_17 rfl rfl ?_
    refine j_iadd X dX10_where_18 ?_
    refine j_ldM X (in_552 hx) dX10_where_19 ?_
    refine j_if_le X (tgt := 38) dX10_where_20 (by decide) (fun c_20 => ?_) (fun c_20 => ?_)
    · refine j_bipush X (v := (-4)) dX10_where_38 (by decide) ?_
      exact j_iret X hr rfl (by first | with_reducible rfl | (simp only [mWhere, if_pos c_4, if_neg c_20]; done) | (simp only [mWhere, if_pos c_4, if_neg c_20]; rfl) | rfl) rfl (by first | with_reducible rfl | (simp only [mWhere, if_pos c_4, if_neg c_20]; done) | (simp only [mWhere, if_pos c_4, if_neg c_20]; rfl) | rfl) dX10_where_40
    · refine j_aload_n X 0 dX10_where_23 rfl rfl ?_
      refine j_get X fG_RX10_7 mput_0 rfl rfl dX10_where_24 ?_
      refine j_sipush X (v := 552) dX10_where_27 (by decide) ?_
      refine j_iload_n X 1 dX10_where_30 rfl rfl ?_
      refine j_iadd X dX10_where_31 ?_
      refine j_ldM X (in_552 hx) dX10_where_32 ?_
      refine j_iconst X (v := 1) dX10_where_33 (by decide) ?_
      refine j_isub X dX10_where_34 ?_
      refine j_goto X (tgt := 40) dX10_where_35 (by decide) ?_
      exact j_iret X hr rfl (by first | with_reducible rfl | (simp only [mWhere, if_pos c_4, if_pos c_20]; done) | (simp only [mWhere, if_pos c_4, if_pos c_20]; rfl) | rfl) rfl (by first | with_reducible rfl | (simp only [mWhere, if_pos c_4, if_pos c_20]; done) | (simp only [mWhere, if_pos c_4, if_pos c_20]; rfl) | rfl) dX10_where_40
  · refine j_bipush X (v := (-2)) dX10_where_7 (by decide) ?_
    exact j_iret X hr rfl (by first | with_reducible rfl | (simp only [mWhere, if_neg c_4]; done) | (simp only [mWhere, if_neg c_4]; rfl) | rfl) rfl (by first | with_reducible rfl | (simp only [mWhere, if_neg c_4]; done) | (simp only [mWhere, if_neg c_4]; rfl) | rfl) dX10_where_9
set_option maxRecDepth 100000 in
set_option maxHeartbeats 8000000 in
theorem c_X10_loops (l : Launch) {D : DD} {B z : Nat} {h : HF} {b : Nat} {μ : Mo} (hI : MIv μ)  : CT l yX10_loops cX10_loops 3 (some .int) 2 43 [.ref b] D B z (mput D h b μ) (some (.int (mLoopK μ 8))) 0 0 (mput D h b μ) := by
  refine CT.of (L := [(0, .ref b)]) (by decide +kernel) (Nat.le_of_ble_eq_true rfl) rfl ?_
  intro P E S0 M0 AR BL ME CO X hr hnm
  refine j_iconst X (v := 0) dX10_loops_0 (by decide) ?_
  refine j_istore_n X (L' := [(1, .int 0), (0, .ref b)]) dX10_loops_1 rfl (by decide) rfl ?_
  refine j_iconst X (v := 0) dX10_loops_2 (by decide) ?_
  refine j_istore_n X (L' := [(2, .int 0), (1, .int 0), (0, .ref b)]) dX10_loops_3 rfl (by decide) rfl ?_
  have loop4 : ∀ (n k : Nat), k + n = 8 → J P l E { frames := 2, cells := 0, slots := 0, locals := 43 } S0 M0 AR BL ME CO D B 3 (MQ BL (QC (some (.int (mLoopK μ 8))) D B (z + 0) (mput D h b μ)) AR S0 0 0 (aB B)) 0 0 z (mput D h b μ) [(0, .ref b), (1, .int (mLoopK μ k)), (2, .int (nI k))] [] 4 := by
    intro n
    induction n with
    | zero =>
      intro k hk
      obtain rfl : k = 8 := by omega
      refine j_iload_n X 2 dX10_loops_4 rfl rfl ?_
      refine j_bipush X (v := 8) dX10_loops_5 (by decide) ?_
      refine j_icmp_ge X (tgt := 58) dX10_loops_7 (by decide) (fun c_7 => ?_) (fun c_7 => absurd c_7 (by decide))
      refine j_iload_n X 1 dX10_loops_58 rfl rfl ?_
      exact j_iret X hr rfl (by first | with_reducible rfl | (simp only [if_neg c_7]; done) | (simp only [if_neg c_7]; rfl) | rfl) rfl (by first | with_reducible rfl | (simp only [if_neg c_7]; done) | (simp only [if_neg c_7]; rfl) | rfl) dX10_loops_59
    | succ n ih =>
      intro k hk
      have hlt : nI k < 8 := nlt_lit (b := 8) (by omega) (by decide)
      refine j_iload_n X 2 dX10_loops_4 rfl rfl ?_
      refine j_bipush X (v := 8) dX10_loops_5 (by decide) ?_
      refine j_icmp_ge X (tgt := 58) dX10_loops_7 (by decide) (fun c_7 => absurd hlt c_7) (fun c_7 => ?_)
      refine j_iload_n X 1 dX10_loops_10 rfl rfl ?_
      refine j_aload_n X 0 dX10_loops_11 rfl rfl ?_
      refine j_iload_n X 2 dX10_loops_12 rfl rfl ?_
      refine j_callVi X (rest := [.int (mLoopK μ k)]) (c_X10_isOpen l (po_nI (by omega))) m_yX10_isOpen kM_RX10_48 mput_0 rfl rfl rfl rfl rfl (Nat.le_of_ble_eq_true rfl) ⟨Nat.le_of_ble_eq_true rfl, Nat.le_of_ble_eq_true rfl, Nat.le_of_ble_eq_true rfl, Nat.le_of_ble_eq_true rfl⟩ dX10_loops_13 ?_
      refine j_if_eq X (tgt := 49) dX10_loops_16 (by decide) (fun c_16 => ?_) (fun c_16 => ?_)
      · refine j_iconst X (v := 0) dX10_loops_49 (by decide) ?_
        refine j_ior X dX10_loops_50 ?_
        refine j_tops (fun v1 ev1 => ?_)
        refine j_istore_n X (L' := [(1, .int v1), (0, .ref b), (2, .int (nI k))]) dX10_loops_51 rfl (by decide) rfl ?_
        obtain ⟨v2, ev2⟩ : ∃ y : Int32, (nI k) + 1 = y := ⟨_, rfl⟩
        refine j_iinc X 2 (k := 1) (v := v2) (L' := [(2, .int v2), (1, .int v1), (0, .ref b)]) dX10_loops_52 rfl (by decide) (by decide) ev2 rfl ?_
        refine j_goto X (tgt := 4) dX10_loops_55 (by decide) ?_
        refine j_sub [2, 1, 0] (L' := [(0, .ref b), (1, .int (mLoopK μ (k + 1))), (2, .int (nI (k + 1)))]) (by subst ev2 ev1; first | with_reducible rfl | (simp only [mLoopK, nI_succ k, if_pos c_7, if_pos c_16]; done) | (simp only [mLoopK, nI_succ k, if_pos c_7, if_pos c_16]; rfl) | rfl) ?_
        exact ih (k + 1) (by omega)
      · refine j_aload_n X 0 dX10_loops_19 rfl rfl ?_
        refine j_iload_n X 2 dX10_loops_20 rfl rfl ?_
        refine j_iconst X (v := 3) dX10_loops_21 (by decide) ?_
        refine j_callVi X (rest := [.int (mLoopK μ k)]) (c_X10_of l (po_nI (by omega)) (show WH 3 _ from ⟨3, by decide, rfl⟩)) m_yX10_of kM_RX10_44 mput_0 rfl rfl rfl rfl rfl (Nat.le_of_ble_eq_true rfl) ⟨Nat.le_of_ble_eq_true rfl, Nat.le_of_ble_eq_true rfl, Nat.le_of_ble_eq_true rfl, Nat.le_of_ble_eq_true rfl⟩ dX10_loops_22 ?_
        refine j_if_le X (tgt := 49) dX10_loops_25 (by decide) (fun c_25 => ?_) (fun c_25 => ?_)
        · refine j_iconst X (v := 0) dX10_loops_49 (by decide) ?_
          refine j_ior X dX10_loops_50 ?_
          refine j_tops (fun v3 ev3 => ?_)
          refine j_istore_n X (L' := [(1, .int v3), (0, .ref b), (2, .int (nI k))]) dX10_loops_51 rfl (by decide) rfl ?_
          obtain ⟨v4, ev4⟩ : ∃ y : Int32, (nI k) + 1 = y := ⟨_, rfl⟩
          refine j_iinc X 2 (k := 1) (v := v4) (L' := [(2, .int v4), (1, .int v3), (0, .ref b)]) dX10_loops_52 rfl (by decide) (by decide) ev4 rfl ?_
          refine j_goto X (tgt := 4) dX10_loops_55 (by decide) ?_
          refine j_sub [2, 1, 0] (L' := [(0, .ref b), (1, .int (mLoopK μ (k + 1))), (2, .int (nI (k + 1)))]) (by subst ev4 ev3; first | with_reducible rfl | (simp only [mLoopK, nI_succ k, if_pos c_7, if_neg c_16, if_neg c_25]; done) | (simp only [mLoopK, nI_succ k, if_pos c_7, if_neg c_16, if_neg c_25]; rfl) | rfl) ?_
          exact ih (k + 1) (by omega)
        · have hpt : PO (mOf μ (nI k) 3 - 1) := po_pos (mi_cab (po_nI (by omega)) hI) c_25
          refine j_aload_n X 0 dX10_loops_28 rfl rfl ?_
          refine j_aload_n X 0 dX10_loops_29 rfl rfl ?_
          refine j_iload_n X 2 dX10_loops_30 rfl rfl ?_
          refine j_iconst X (v := 3) dX10_loops_31 (by decide) ?_
          refine j_callVi X (rest := [.ref b, .int (mLoopK μ k)]) (c_X10_of l (po_nI (by omega)) (show WH 3 _ from ⟨3, by decide, rfl⟩)) m_yX10_of kM_RX10_44 mput_0 rfl rfl rfl rfl rfl (Nat.le_of_ble_eq_true rfl) ⟨Nat.le_of_ble_eq_true rfl, Nat.le_of_ble_eq_true rfl, Nat.le_of_ble_eq_true rfl, Nat.le_of_ble_eq_true rfl⟩ dX10_loops_32 ?_
          refine j_iconst X (v := 1) dX10_loops_35 (by decide) ?_
          refine j_isub X dX10_loops_36 ?_
          refine j_callVi X (rest := [.int (mLoopK μ k)]) (c_X10_isOpen l hpt) m_yX10_isOpen kM_RX10_48 mput_0 rfl rfl rfl rfl rfl (Nat.le_of_ble_eq_true rfl) ⟨Nat.le_of_ble_eq_true rfl, Nat.le_of_ble_eq_true rfl, Nat.le_of_ble_eq_true rfl, Nat.le_of_ble_eq_true rfl⟩ dX10_loops_37 ?_
          refine j_if_eq X (tgt := 49) dX10_loops_40 (by decide) (fun c_40 => ?_) (fun c_40 => ?_)
          · refine j_iconst X (v := 0) dX10_loops_49 (by decide) ?_
            refine j_ior X dX10_loops_50 ?_
            refine j_tops (fun v5 ev5 => ?_)
            refine j_istore_n X (L' := [(1, .int v5), (0, .ref b), (2, .int (nI k))]) dX10_loops_51 rfl (by decide) rfl ?_
            obtain ⟨v6, ev6⟩ : ∃ y : Int32, (nI k) + 1 = y := ⟨_, rfl⟩
            refine j_iinc X 2 (k := 1) (v := v6) (L' := [(2, .int v6), (1, .int v5), (0, .ref b)]) dX10_loops_52 rfl (by decide) (by decide) ev6 rfl ?_
            refine j_goto X (tgt := 4) dX10_loops_55 (by decide) ?_
            refine j_sub [2, 1, 0] (L' := [(0, .ref b), (1, .int (mLoopK μ (k + 1))), (2, .int (nI (k + 1)))]) (by subst ev6 ev5; first | with_reducible rfl | (simp only [mLoopK, nI_succ k, if_pos c_7, if_neg c_16, if_pos c_25, if_pos c_40]; done) | (simp only [mLoopK, nI_succ k, if_pos c_7, if_neg c_16, if_pos c_25, if_pos c_40]; rfl) | rfl) ?_
            exact ih (k + 1) (by omega)
          · refine j_iconst X (v := 1) dX10_loops_43 (by decide) ?_
            refine j_iload_n X 2 dX10_loops_44 rfl rfl ?_
            refine j_ishl X dX10_loops_45 ?_
            refine j_goto X (tgt := 50) dX10_loops_46 (by decide) ?_
            refine j_ior X dX10_loops_50 ?_
            refine j_tops (fun v7 ev7 => ?_)
            refine j_istore_n X (L' := [(1, .int v7), (0, .ref b), (2, .int (nI k))]) dX10_loops_51 rfl (by decide) rfl ?_
            obtain ⟨v8, ev8⟩ : ∃ y : Int32, (nI k) + 1 = y := ⟨_, rfl⟩
            refine j_iinc X 2 (k := 1) (v := v8) (L' := [(2, .int v8), (1, .int v7), (0, .ref b)]) dX10_loops_52 rfl (by decide) (by decide) ev8 rfl ?_
            refine j_goto X (tgt := 4) dX10_loops_55 (by decide) ?_
            refine j_sub [2, 1, 0] (L' := [(0, .ref b), (1, .int (mLoopK μ (k + 1))), (2, .int (nI (k + 1)))]) (by subst ev8 ev7; first | with_reducible rfl | (simp only [mLoopK, nI_succ k, if_pos c_7, if_neg c_16, if_pos c_25, if_neg c_40]; done) | (simp only [mLoopK, nI_succ k, if_pos c_7, if_neg c_16, if_pos c_25, if_neg c_40]; rfl) | rfl) ?_
            exact ih (k + 1) (by omega)
  refine j_sub [2, 1, 0] (L' := [(0, .ref b), (1, .int (mLoopK μ 0)), (2, .int (nI 0))]) (by first | with_reducible rfl | (simp only [mLoopK]; done) | (simp only [mLoopK]; rfl) | rfl) ?_
  exact loop4 8 0 rfl
set_option maxRecDepth 100000 in
set_option maxHeartbeats 8000000 in
theorem c_X10_count (l : Launch) {D : DD} {B z : Nat} {h : HF} {b : Nat} {μ : Mo} {w : Int32}  : CT l yX10_count cX10_count 2 (some .int) 3 65 [.ref b, .int w] D B z (mput D h b μ) (some (.int (mCount μ w))) 0 0 (mput D h b μ) := by
  refine CT.of (L := [(0, .ref b), (1, .int w)]) (by decide +kernel) (Nat.le_of_ble_eq_true rfl) rfl ?_
  intro P E S0 M0 AR BL ME CO X hr hnm
  refine j_iload_n X 1 dX10_count_0 rfl rfl ?_
  by_cases w1_0 : w = 0
  · refine j_tableIn X (tgt := 76) (off := 75) dX10_count_1 (by rw [w1_0]; decide) (by rw [w1_0]; decide) (by rw [w1_0]; rfl) (by decide) ?_
    refine j_aload_n X 0 dX10_count_76 rfl rfl ?_
    refine j_get X fG_RX10_7 mput_0 rfl rfl dX10_count_77 ?_
    refine j_iload_n X 1 dX10_count_80 rfl rfl ?_
    refine j_ldM X (by rw [w1_0]; exact vp_in_nI (n := 0) (by decide) (by decide)) dX10_count_81 ?_
    exact j_iret X hr rfl (by first | with_reducible rfl | (simp only [mCount, if_pos w1_0]; done) | (simp only [mCount, if_pos w1_0]; rfl) | rfl) rfl (by first | with_reducible rfl | (simp only [mCount, if_pos w1_0]; done) | (simp only [mCount, if_pos w1_0]; rfl) | rfl) dX10_count_82
  by_cases w1_1 : w = 1
  · refine j_tableIn X (tgt := 76) (off := 75) dX10_count_1 (by rw [w1_1]; decide) (by rw [w1_1]; decide) (by rw [w1_1]; rfl) (by decide) ?_
    refine j_aload_n X 0 dX10_count_76 rfl rfl ?_
    refine j_get X fG_RX10_7 mput_0 rfl rfl dX10_count_77 ?_
    refine j_iload_n X 1 dX10_count_80 rfl rfl ?_
    refine j_ldM X (by rw [w1_1]; exact vp_in_nI (n := 1) (by decide) (by decide)) dX10_count_81 ?_
    exact j_iret X hr rfl (by first | with_reducible rfl | (simp only [mCount, if_neg w1_0, if_pos w1_1]; done) | (simp only [mCount, if_neg w1_0, if_pos w1_1]; rfl) | rfl) rfl (by first | with_reducible rfl | (simp only [mCount, if_neg w1_0, if_pos w1_1]; done) | (simp only [mCount, if_neg w1_0, if_pos w1_1]; rfl) | rfl) dX10_count_82
  by_cases w1_2 : w = 2
  · refine j_tableIn X (tgt := 76) (off := 75) dX10_count_1 (by rw [w1_2]; decide) (by rw [w1_2]; decide) (by rw [w1_2]; rfl) (by decide) ?_
    refine j_aload_n X 0 dX10_count_76 rfl rfl ?_
    refine j_get X fG_RX10_7 mput_0 rfl rfl dX10_count_77 ?_
    refine j_iload_n X 1 dX10_count_80 rfl rfl ?_
    refine j_ldM X (by rw [w1_2]; exact vp_in_nI (n := 2) (by decide) (by decide)) dX10_count_81 ?_
    exact j_iret X hr rfl (by first | with_reducible rfl | (simp only [mCount, if_neg w1_0, if_neg w1_1, if_pos w1_2]; done) | (simp only [mCount, if_neg w1_0, if_neg w1_1, if_pos w1_2]; rfl) | rfl) rfl (by first | with_reducible rfl | (simp only [mCount, if_neg w1_0, if_neg w1_1, if_pos w1_2]; done) | (simp only [mCount, if_neg w1_0, if_neg w1_1, if_pos w1_2]; rfl) | rfl) dX10_count_82
  by_cases w1_3 : w = 3
  · refine j_tableIn X (tgt := 76) (off := 75) dX10_count_1 (by rw [w1_3]; decide) (by rw [w1_3]; decide) (by rw [w1_3]; rfl) (by decide) ?_
    refine j_aload_n X 0 dX10_count_76 rfl rfl ?_
    refine j_get X fG_RX10_7 mput_0 rfl rfl dX10_count_77 ?_
    refine j_iload_n X 1 dX10_count_80 rfl rfl ?_
    refine j_ldM X (by rw [w1_3]; exact vp_in_nI (n := 3) (by decide) (by decide)) dX10_count_81 ?_
    exact j_iret X hr rfl (by first | with_reducible rfl | (simp only [mCount, if_neg w1_0, if_neg w1_1, if_neg w1_2, if_pos w1_3]; done) | (simp only [mCount, if_neg w1_0, if_neg w1_1, if_neg w1_2, if_pos w1_3]; rfl) | rfl) rfl (by first | with_reducible rfl | (simp only [mCount, if_neg w1_0, if_neg w1_1, if_neg w1_2, if_pos w1_3]; done) | (simp only [mCount, if_neg w1_0, if_neg w1_1, if_neg w1_2, if_pos w1_3]; rfl) | rfl) dX10_count_82
  by_cases w1_4 : w = 4
  · refine j_tableIn X (tgt := 83) (off := 82) dX10_count_1 (by rw [w1_4]; decide) (by rw [w1_4]; decide) (by rw [w1_4]; rfl) (by decide) ?_
    refine j_aload_n X 0 dX10_count_83 rfl rfl ?_
    refine j_get X fG_RX10_7 mput_0 rfl rfl dX10_count_84 ?_
    refine j_iconst X (v := 4) dX10_count_87 (by decide) ?_
    refine j_ldM X (vp_in_nI (n := 4) (by decide) (by decide)) dX10_count_88 ?_
    exact j_iret X hr rfl (by first | with_reducible rfl | (simp only [mCount, if_neg w1_0, if_neg w1_1, if_neg w1_2, if_neg w1_3, if_pos w1_4]; done) | (simp only [mCount, if_neg w1_0, if_neg w1_1, if_neg w1_2, if_neg w1_3, if_pos w1_4]; rfl) | rfl) rfl (by first | with_reducible rfl | (simp only [mCount, if_neg w1_0, if_neg w1_1, if_neg w1_2, if_neg w1_3, if_pos w1_4]; done) | (simp only [mCount, if_neg w1_0, if_neg w1_1, if_neg w1_2, if_neg w1_3, if_pos w1_4]; rfl) | rfl) dX10_count_89
  by_cases w1_5 : w = 5
  · refine j_tableIn X (tgt := 90) (off := 89) dX10_count_1 (by rw [w1_5]; decide) (by rw [w1_5]; decide) (by rw [w1_5]; rfl) (by decide) ?_
    refine j_aload_n X 0 dX10_count_90 rfl rfl ?_
    refine j_callVi X (rest := []) (c_X10_entries l) m_yX10_entries kM_RX10_96 mput_0 rfl rfl rfl rfl rfl (Nat.le_of_ble_eq_true rfl) ⟨Nat.le_of_ble_eq_true rfl, Nat.le_of_ble_eq_true rfl, Nat.le_of_ble_eq_true rfl, Nat.le_of_ble_eq_true rfl⟩ dX10_count_91 ?_
    exact j_iret X hr rfl (by first | with_reducible rfl | (simp only [mCount, if_neg w1_0, if_neg w1_1, if_neg w1_2, if_neg w1_3, if_neg w1_4, if_pos w1_5]; done) | (simp only [mCount, if_neg w1_0, if_neg w1_1, if_neg w1_2, if_neg w1_3, if_neg w1_4, if_pos w1_5]; rfl) | rfl) rfl (by first | with_reducible rfl | (simp only [mCount, if_neg w1_0, if_neg w1_1, if_neg w1_2, if_neg w1_3, if_neg w1_4, if_pos w1_5]; done) | (simp only [mCount, if_neg w1_0, if_neg w1_1, if_neg w1_2, if_neg w1_3, if_neg w1_4, if_pos w1_5]; rfl) | rfl) dX10_count_94
  by_cases w1_6 : w = 6
  · refine j_tableIn X (tgt := 95) (off := 94) dX10_count_1 (by rw [w1_6]; decide) (by rw [w1_6]; decide) (by rw [w1_6]; rfl) (by decide) ?_
    refine j_aload_n X 0 dX10_count_95 rfl rfl ?_
    refine j_callVi X (rest := []) (c_X10_openPorts l) m_yX10_openPorts kM_RX10_58 mput_0 rfl rfl rfl rfl rfl (Nat.le_of_ble_eq_true rfl) ⟨Nat.le_of_ble_eq_true rfl, Nat.le_of_ble_eq_true rfl, Nat.le_of_ble_eq_true rfl, Nat.le_of_ble_eq_true rfl⟩ dX10_count_96 ?_
    exact j_iret X hr rfl (by first | with_reducible rfl | (simp only [mCount, if_neg w1_0, if_neg w1_1, if_neg w1_2, if_neg w1_3, if_neg w1_4, if_neg w1_5, if_pos w1_6]; done) | (simp only [mCount, if_neg w1_0, if_neg w1_1, if_neg w1_2, if_neg w1_3, if_neg w1_4, if_neg w1_5, if_pos w1_6]; rfl) | rfl) rfl (by first | with_reducible rfl | (simp only [mCount, if_neg w1_0, if_neg w1_1, if_neg w1_2, if_neg w1_3, if_neg w1_4, if_neg w1_5, if_pos w1_6]; done) | (simp only [mCount, if_neg w1_0, if_neg w1_1, if_neg w1_2, if_neg w1_3, if_neg w1_4, if_neg w1_5, if_pos w1_6]; rfl) | rfl) dX10_count_99
  by_cases w1_7 : w = 7
  · refine j_tableIn X (tgt := 100) (off := 99) dX10_count_1 (by rw [w1_7]; decide) (by rw [w1_7]; decide) (by rw [w1_7]; rfl) (by decide) ?_
    refine j_aload_n X 0 dX10_count_100 rfl rfl ?_
    refine j_callVi X (rest := []) (c_X10_held l) m_yX10_held kM_RX10_154 mput_0 rfl rfl rfl rfl rfl (Nat.le_of_ble_eq_true rfl) ⟨Nat.le_of_ble_eq_true rfl, Nat.le_of_ble_eq_true rfl, Nat.le_of_ble_eq_true rfl, Nat.le_of_ble_eq_true rfl⟩ dX10_count_101 ?_
    exact j_iret X hr rfl (by first | with_reducible rfl | (simp only [mCount, if_neg w1_0, if_neg w1_1, if_neg w1_2, if_neg w1_3, if_neg w1_4, if_neg w1_5, if_neg w1_6, if_pos w1_7]; done) | (simp only [mCount, if_neg w1_0, if_neg w1_1, if_neg w1_2, if_neg w1_3, if_neg w1_4, if_neg w1_5, if_neg w1_6, if_pos w1_7]; rfl) | rfl) rfl (by first | with_reducible rfl | (simp only [mCount, if_neg w1_0, if_neg w1_1, if_neg w1_2, if_neg w1_3, if_neg w1_4, if_neg w1_5, if_neg w1_6, if_pos w1_7]; done) | (simp only [mCount, if_neg w1_0, if_neg w1_1, if_neg w1_2, if_neg w1_3, if_neg w1_4, if_neg w1_5, if_neg w1_6, if_pos w1_7]; rfl) | rfl) dX10_count_104
  by_cases w1_8 : w = 8
  · refine j_tableIn X (tgt := 105) (off := 104) dX10_count_1 (by rw [w1_8]; decide) (by rw [w1_8]; decide) (by rw [w1_8]; rfl) (by decide) ?_
    refine j_aload_n X 0 dX10_count_105 rfl rfl ?_
    refine j_callVi X (rest := []) (c_X10_cables l) m_yX10_cables kM_RX10_62 mput_0 rfl rfl rfl rfl rfl (Nat.le_of_ble_eq_true rfl) ⟨Nat.le_of_ble_eq_true rfl, Nat.le_of_ble_eq_true rfl, Nat.le_of_ble_eq_true rfl, Nat.le_of_ble_eq_true rfl⟩ dX10_count_106 ?_
    exact j_iret X hr rfl (by first | with_reducible rfl | (simp only [mCount, if_neg w1_0, if_neg w1_1, if_neg w1_2, if_neg w1_3, if_neg w1_4, if_neg w1_5, if_neg w1_6, if_neg w1_7, if_pos w1_8]; done) | (simp only [mCount, if_neg w1_0, if_neg w1_1, if_neg w1_2, if_neg w1_3, if_neg w1_4, if_neg w1_5, if_neg w1_6, if_neg w1_7, if_pos w1_8]; rfl) | rfl) rfl (by first | with_reducible rfl | (simp only [mCount, if_neg w1_0, if_neg w1_1, if_neg w1_2, if_neg w1_3, if_neg w1_4, if_neg w1_5, if_neg w1_6, if_neg w1_7, if_pos w1_8]; done) | (simp only [mCount, if_neg w1_0, if_neg w1_1, if_neg w1_2, if_neg w1_3, if_neg w1_4, if_neg w1_5, if_neg w1_6, if_neg w1_7, if_pos w1_8]; rfl) | rfl) dX10_count_109
  by_cases w1_9 : w = 9
  · refine j_tableIn X (tgt := 110) (off := 109) dX10_count_1 (by rw [w1_9]; decide) (by rw [w1_9]; decide) (by rw [w1_9]; rfl) (by decide) ?_
    refine j_aload_n X 0 dX10_count_110 rfl rfl ?_
    refine j_iconst X (v := 5) dX10_count_111 (by decide) ?_
    refine j_callVi X (rest := []) (c_X10_inAll l (show WH 5 _ from ⟨5, by decide, rfl⟩)) m_yX10_inAll kM_RX10_157 mput_0 rfl rfl rfl rfl rfl (Nat.le_of_ble_eq_true rfl) ⟨Nat.le_of_ble_eq_true rfl, Nat.le_of_ble_eq_true rfl, Nat.le_of_ble_eq_true rfl, Nat.le_of_ble_eq_true rfl⟩ dX10_count_112 ?_
    exact j_iret X hr rfl (by first | with_reducible rfl | (simp only [mCount, if_neg w1_0, if_neg w1_1, if_neg w1_2, if_neg w1_3, if_neg w1_4, if_neg w1_5, if_neg w1_6, if_neg w1_7, if_neg w1_8, if_pos w1_9]; done) | (simp only [mCount, if_neg w1_0, if_neg w1_1, if_neg w1_2, if_neg w1_3, if_neg w1_4, if_neg w1_5, if_neg w1_6, if_neg w1_7, if_neg w1_8, if_pos w1_9]; rfl) | rfl) rfl (by first | with_reducible rfl | (simp only [mCount, if_neg w1_0, if_neg w1_1, if_neg w1_2, if_neg w1_3, if_neg w1_4, if_neg w1_5, if_neg w1_6, if_neg w1_7, if_neg w1_8, if_pos w1_9]; done) | (simp only [mCount, if_neg w1_0, if_neg w1_1, if_neg w1_2, if_neg w1_3, if_neg w1_4, if_neg w1_5, if_neg w1_6, if_neg w1_7, if_neg w1_8, if_pos w1_9]; rfl) | rfl) dX10_count_115
  by_cases w1_10 : w = 10
  · refine j_tableIn X (tgt := 116) (off := 115) dX10_count_1 (by rw [w1_10]; decide) (by rw [w1_10]; decide) (by rw [w1_10]; rfl) (by decide) ?_
    refine j_aload_n X 0 dX10_count_116 rfl rfl ?_
    refine j_bipush X (v := 6) dX10_count_117 (by decide) ?_
    refine j_callVi X (rest := []) (c_X10_inAll l (show WH 6 _ from ⟨6, by decide, rfl⟩)) m_yX10_inAll kM_RX10_157 mput_0 rfl rfl rfl rfl rfl (Nat.le_of_ble_eq_true rfl) ⟨Nat.le_of_ble_eq_true rfl, Nat.le_of_ble_eq_true rfl, Nat.le_of_ble_eq_true rfl, Nat.le_of_ble_eq_true rfl⟩ dX10_count_119 ?_
    exact j_iret X hr rfl (by first | with_reducible rfl | (simp only [mCount, if_neg w1_0, if_neg w1_1, if_neg w1_2, if_neg w1_3, if_neg w1_4, if_neg w1_5, if_neg w1_6, if_neg w1_7, if_neg w1_8, if_neg w1_9, if_pos w1_10]; done) | (simp only [mCount, if_neg w1_0, if_neg w1_1, if_neg w1_2, if_neg w1_3, if_neg w1_4, if_neg w1_5, if_neg w1_6, if_neg w1_7, if_neg w1_8, if_neg w1_9, if_pos w1_10]; rfl) | rfl) rfl (by first | with_reducible rfl | (simp only [mCount, if_neg w1_0, if_neg w1_1, if_neg w1_2, if_neg w1_3, if_neg w1_4, if_neg w1_5, if_neg w1_6, if_neg w1_7, if_neg w1_8, if_neg w1_9, if_pos w1_10]; done) | (simp only [mCount, if_neg w1_0, if_neg w1_1, if_neg w1_2, if_neg w1_3, if_neg w1_4, if_neg w1_5, if_neg w1_6, if_neg w1_7, if_neg w1_8, if_neg w1_9, if_pos w1_10]; rfl) | rfl) dX10_count_122
  by_cases w1_11 : w = 11
  · refine j_tableIn X (tgt := 123) (off := 122) dX10_count_1 (by rw [w1_11]; decide) (by rw [w1_11]; decide) (by rw [w1_11]; rfl) (by decide) ?_
    refine j_aload_n X 0 dX10_count_123 rfl rfl ?_
    refine j_get X fG_RX10_7 mput_0 rfl rfl dX10_count_124 ?_
    refine j_iconst X (v := 5) dX10_count_127 (by decide) ?_
    refine j_ldM X (vp_in_nI (n := 5) (by decide) (by decide)) dX10_count_128 ?_
    exact j_iret X hr rfl (by first | with_reducible rfl | (simp only [mCount, if_neg w1_0, if_neg w1_1, if_neg w1_2, if_neg w1_3, if_neg w1_4, if_neg w1_5, if_neg w1_6, if_neg w1_7, if_neg w1_8, if_neg w1_9, if_neg w1_10, if_pos w1_11]; done) | (simp only [mCount, if_neg w1_0, if_neg w1_1, if_neg w1_2, if_neg w1_3, if_neg w1_4, if_neg w1_5, if_neg w1_6, if_neg w1_7, if_neg w1_8, if_neg w1_9, if_neg w1_10, if_pos w1_11]; rfl) | rfl) rfl (by first | with_reducible rfl | (simp only [mCount, if_neg w1_0, if_neg w1_1, if_neg w1_2, if_neg w1_3, if_neg w1_4, if_neg w1_5, if_neg w1_6, if_neg w1_7, if_neg w1_8, if_neg w1_9, if_neg w1_10, if_pos w1_11]; done) | (simp only [mCount, if_neg w1_0, if_neg w1_1, if_neg w1_2, if_neg w1_3, if_neg w1_4, if_neg w1_5, if_neg w1_6, if_neg w1_7, if_neg w1_8, if_neg w1_9, if_neg w1_10, if_pos w1_11]; rfl) | rfl) dX10_count_129
  by_cases w1_12 : w = 12
  · refine j_tableIn X (tgt := 130) (off := 129) dX10_count_1 (by rw [w1_12]; decide) (by rw [w1_12]; decide) (by rw [w1_12]; rfl) (by decide) ?_
    refine j_aload_n X 0 dX10_count_130 rfl rfl ?_
    refine j_get X fG_RX10_7 mput_0 rfl rfl dX10_count_131 ?_
    refine j_bipush X (v := 6) dX10_count_134 (by decide) ?_
    refine j_ldM X (vp_in_nI (n := 6) (by decide) (by decide)) dX10_count_136 ?_
    exact j_iret X hr rfl (by first | with_reducible rfl | (simp only [mCount, if_neg w1_0, if_neg w1_1, if_neg w1_2, if_neg w1_3, if_neg w1_4, if_neg w1_5, if_neg w1_6, if_neg w1_7, if_neg w1_8, if_neg w1_9, if_neg w1_10, if_neg w1_11, if_pos w1_12]; done) | (simp only [mCount, if_neg w1_0, if_neg w1_1, if_neg w1_2, if_neg w1_3, if_neg w1_4, if_neg w1_5, if_neg w1_6, if_neg w1_7, if_neg w1_8, if_neg w1_9, if_neg w1_10, if_neg w1_11, if_pos w1_12]; rfl) | rfl) rfl (by first | with_reducible rfl | (simp only [mCount, if_neg w1_0, if_neg w1_1, if_neg w1_2, if_neg w1_3, if_neg w1_4, if_neg w1_5, if_neg w1_6, if_neg w1_7, if_neg w1_8, if_neg w1_9, if_neg w1_10, if_neg w1_11, if_pos w1_12]; done) | (simp only [mCount, if_neg w1_0, if_neg w1_1, if_neg w1_2, if_neg w1_3, if_neg w1_4, if_neg w1_5, if_neg w1_6, if_neg w1_7, if_neg w1_8, if_neg w1_9, if_neg w1_10, if_neg w1_11, if_pos w1_12]; rfl) | rfl) dX10_count_137
  by_cases w1_13 : w = 13
  · refine j_tableIn X (tgt := 138) (off := 137) dX10_count_1 (by rw [w1_13]; decide) (by rw [w1_13]; decide) (by rw [w1_13]; rfl) (by decide) ?_
    refine j_aload_n X 0 dX10_count_138 rfl rfl ?_
    refine j_get X fG_RX10_40 mput_0 rfl rfl dX10_count_139 ?_
    exact j_iret X hr rfl (by first | with_reducible rfl | (simp only [mCount, if_neg w1_0, if_neg w1_1, if_neg w1_2, if_neg w1_3, if_neg w1_4, if_neg w1_5, if_neg w1_6, if_neg w1_7, if_neg w1_8, if_neg w1_9, if_neg w1_10, if_neg w1_11, if_neg w1_12, if_pos w1_13]; done) | (simp only [mCount, if_neg w1_0, if_neg w1_1, if_neg w1_2, if_neg w1_3, if_neg w1_4, if_neg w1_5, if_neg w1_6, if_neg w1_7, if_neg w1_8, if_neg w1_9, if_neg w1_10, if_neg w1_11, if_neg w1_12, if_pos w1_13]; rfl) | rfl) rfl (by first | with_reducible rfl | (simp only [mCount, if_neg w1_0, if_neg w1_1, if_neg w1_2, if_neg w1_3, if_neg w1_4, if_neg w1_5, if_neg w1_6, if_neg w1_7, if_neg w1_8, if_neg w1_9, if_neg w1_10, if_neg w1_11, if_neg w1_12, if_pos w1_13]; done) | (simp only [mCount, if_neg w1_0, if_neg w1_1, if_neg w1_2, if_neg w1_3, if_neg w1_4, if_neg w1_5, if_neg w1_6, if_neg w1_7, if_neg w1_8, if_neg w1_9, if_neg w1_10, if_neg w1_11, if_neg w1_12, if_pos w1_13]; rfl) | rfl) dX10_count_142
  by_cases w1_14 : w = 14
  · refine j_tableIn X (tgt := 143) (off := 142) dX10_count_1 (by rw [w1_14]; decide) (by rw [w1_14]; decide) (by rw [w1_14]; rfl) (by decide) ?_
    refine j_aload_n X 0 dX10_count_143 rfl rfl ?_
    refine j_get X fG_RX10_124 mput_0 rfl rfl dX10_count_144 ?_
    exact j_iret X hr rfl (by first | with_reducible rfl | (simp only [mCount, if_neg w1_0, if_neg w1_1, if_neg w1_2, if_neg w1_3, if_neg w1_4, if_neg w1_5, if_neg w1_6, if_neg w1_7, if_neg w1_8, if_neg w1_9, if_neg w1_10, if_neg w1_11, if_neg w1_12, if_neg w1_13, if_pos w1_14]; done) | (simp only [mCount, if_neg w1_0, if_neg w1_1, if_neg w1_2, if_neg w1_3, if_neg w1_4, if_neg w1_5, if_neg w1_6, if_neg w1_7, if_neg w1_8, if_neg w1_9, if_neg w1_10, if_neg w1_11, if_neg w1_12, if_neg w1_13, if_pos w1_14]; rfl) | rfl) rfl (by first | with_reducible rfl | (simp only [mCount, if_neg w1_0, if_neg w1_1, if_neg w1_2, if_neg w1_3, if_neg w1_4, if_neg w1_5, if_neg w1_6, if_neg w1_7, if_neg w1_8, if_neg w1_9, if_neg w1_10, if_neg w1_11, if_neg w1_12, if_neg w1_13, if_pos w1_14]; done) | (simp only [mCount, if_neg w1_0, if_neg w1_1, if_neg w1_2, if_neg w1_3, if_neg w1_4, if_neg w1_5, if_neg w1_6, if_neg w1_7, if_neg w1_8, if_neg w1_9, if_neg w1_10, if_neg w1_11, if_neg w1_12, if_neg w1_13, if_pos w1_14]; rfl) | rfl) dX10_count_147
  refine j_tableOut X (tgt := 148) dX10_count_1 (sw_out 15 (by decide) (fun k hk => lt_n15 (P := fun k => ¬ w = nI k) w1_0 w1_1 w1_2 w1_3 w1_4 w1_5 w1_6 w1_7 w1_8 w1_9 w1_10 w1_11 w1_12 w1_13 w1_14 k hk)) (by decide) ?_
  refine j_bipush X (v := (-2)) dX10_count_148 (by decide) ?_
  exact j_iret X hr rfl (by first | with_reducible rfl | (simp only [mCount, if_neg w1_0, if_neg w1_1, if_neg w1_2, if_neg w1_3, if_neg w1_4, if_neg w1_5, if_neg w1_6, if_neg w1_7, if_neg w1_8, if_neg w1_9, if_neg w1_10, if_neg w1_11, if_neg w1_12, if_neg w1_13, if_neg w1_14]; done) | (simp only [mCount, if_neg w1_0, if_neg w1_1, if_neg w1_2, if_neg w1_3, if_neg w1_4, if_neg w1_5, if_neg w1_6, if_neg w1_7, if_neg w1_8, if_neg w1_9, if_neg w1_10, if_neg w1_11, if_neg w1_12, if_neg w1_13, if_neg w1_14]; rfl) | rfl) rfl (by first | with_reducible rfl | (simp only [mCount, if_neg w1_0, if_neg w1_1, if_neg w1_2, if_neg w1_3, if_neg w1_4, if_neg w1_5, if_neg w1_6, if_neg w1_7, if_neg w1_8, if_neg w1_9, if_neg w1_10, if_neg w1_11, if_neg w1_12, if_neg w1_13, if_neg w1_14]; done) | (simp only [mCount, if_neg w1_0, if_neg w1_1, if_neg w1_2, if_neg w1_3, if_neg w1_4, if_neg w1_5, if_neg w1_6, if_neg w1_7, if_neg w1_8, if_neg w1_9, if_neg w1_10, if_neg w1_11, if_neg w1_12, if_neg w1_13, if_neg w1_14]; rfl) | rfl) dX10_count_150
