set_option maxRecDepth 100000 in
set_option maxHeartbeats 8000000 in
theorem c_X9_port (l : Launch) {D : DD} {B z : Nat} {h : HF} {b : Nat} {S : Sy} {p w : Int32}  : CT l yX9_port cX9_port 3 (some .int) 2 44 [.ref b, .int p, .int w] D B z (xput D h b S) (some (.int (xPort S p w))) 0 0 (xput D h b S) := by
  refine CT.of (L := [(0, .ref b), (1, .int p), (2, .int w)]) (by decide +kernel) (Nat.le_of_ble_eq_true rfl) rfl ?_
  intro P E S0 M0 AR BL ME CO X hr hnm
  refine j_iload_n X 1 dX9_port_0 rfl rfl ?_
  refine j_callSi X (rest := []) (c_X9_isPort l) m_yX9_isPort kM_RX9_43 rfl rfl (Nat.le_of_ble_eq_true rfl) ⟨Nat.le_of_ble_eq_true rfl, Nat.le_of_ble_eq_true rfl, Nat.le_of_ble_eq_true rfl, Nat.le_of_ble_eq_true rfl⟩ dX9_port_1 ?_
  refine j_if_ne X (tgt := 9) dX9_port_4 (by decide) (fun c_4 => ?_) (fun c_4 => ?_)
  · refine j_iload_n X 2 dX9_port_9 rfl rfl ?_
    by_cases w10_0 : w = 0
    · refine j_tableIn X (tgt := 56) (off := 46) dX9_port_10 (by rw [w10_0]; decide) (by rw [w10_0]; decide) (by rw [w10_0]; rfl) (by decide) ?_
      refine j_aload_n X 0 dX9_port_56 rfl rfl ?_
      refine j_get X fG_RX9_10 xput_0 rfl rfl dX9_port_57 ?_
      refine j_getN X fN_RX9_47 (xput_k 1 (by decide)) rfl rfl dX9_port_60 ?_
      refine j_iload_n X 1 dX9_port_63 rfl rfl ?_
      refine j_heap (h' := hput D (xput D h b S) (b + 1) (S.1 0)) (xput_st (i := 0) (by decide)) ?_
      refine j_callVi X (rest := []) (c_X3_isUp l) m_yX3_isUp kM_RX9_51 (hput_k 3 (by decide)) rfl rfl rfl rfl rfl (Nat.le_of_ble_eq_true rfl) ⟨Nat.le_of_ble_eq_true rfl, Nat.le_of_ble_eq_true rfl, Nat.le_of_ble_eq_true rfl, Nat.le_of_ble_eq_true rfl⟩ dX9_port_64 ?_
      refine j_heap (h' := xput D h b S) (xput_st (i := 0) (by decide)).symm ?_
      refine j_if_eq X (tgt := 74) dX9_port_67 (by decide) (fun c_67 => ?_) (fun c_67 => ?_)
      · refine j_iconst X (v := 0) dX9_port_74 (by decide) ?_
        exact j_iret X hr rfl (by first | with_reducible rfl | (simp only [xPort, if_neg c_4, if_pos w10_0, if_pos c_67]; done) | (simp only [xPort, if_neg c_4, if_pos w10_0, if_pos c_67]; rfl) | rfl) rfl (by first | with_reducible rfl | (simp only [xPort, if_neg c_4, if_pos w10_0, if_pos c_67]; done) | (simp only [xPort, if_neg c_4, if_pos w10_0, if_pos c_67]; rfl) | rfl) dX9_port_75
      · refine j_iconst X (v := 1) dX9_port_70 (by decide) ?_
        refine j_goto X (tgt := 75) dX9_port_71 (by decide) ?_
        exact j_iret X hr rfl (by first | with_reducible rfl | (simp only [xPort, if_neg c_4, if_pos w10_0, if_neg c_67]; done) | (simp only [xPort, if_neg c_4, if_pos w10_0, if_neg c_67]; rfl) | rfl) rfl (by first | with_reducible rfl | (simp only [xPort, if_neg c_4, if_pos w10_0, if_neg c_67]; done) | (simp only [xPort, if_neg c_4, if_pos w10_0, if_neg c_67]; rfl) | rfl) dX9_port_75
    by_cases w10_1 : w = 1
    · refine j_tableIn X (tgt := 76) (off := 66) dX9_port_10 (by rw [w10_1]; decide) (by rw [w10_1]; decide) (by rw [w10_1]; rfl) (by decide) ?_
      refine j_aload_n X 0 dX9_port_76 rfl rfl ?_
      refine j_get X fG_RX9_10 xput_0 rfl rfl dX9_port_77 ?_
      refine j_getN X fN_RX9_47 (xput_k 1 (by decide)) rfl rfl dX9_port_80 ?_
      refine j_iload_n X 1 dX9_port_83 rfl rfl ?_
      refine j_heap (h' := hput D (xput D h b S) (b + 1) (S.1 0)) (xput_st (i := 0) (by decide)) ?_
      refine j_callVi X (rest := []) (c_X3_isOpen l) m_yX3_isOpen kM_RX9_176 (hput_k 3 (by decide)) rfl rfl rfl rfl rfl (Nat.le_of_ble_eq_true rfl) ⟨Nat.le_of_ble_eq_true rfl, Nat.le_of_ble_eq_true rfl, Nat.le_of_ble_eq_true rfl, Nat.le_of_ble_eq_true rfl⟩ dX9_port_84 ?_
      refine j_heap (h' := xput D h b S) (xput_st (i := 0) (by decide)).symm ?_
      refine j_if_eq X (tgt := 94) dX9_port_87 (by decide) (fun c_87 => ?_) (fun c_87 => ?_)
      · refine j_iconst X (v := 0) dX9_port_94 (by decide) ?_
        exact j_iret X hr rfl (by first | with_reducible rfl | (simp only [xPort, if_neg c_4, if_neg w10_0, if_pos w10_1, if_pos c_87]; done) | (simp only [xPort, if_neg c_4, if_neg w10_0, if_pos w10_1, if_pos c_87]; rfl) | rfl) rfl (by first | with_reducible rfl | (simp only [xPort, if_neg c_4, if_neg w10_0, if_pos w10_1, if_pos c_87]; done) | (simp only [xPort, if_neg c_4, if_neg w10_0, if_pos w10_1, if_pos c_87]; rfl) | rfl) dX9_port_95
      · refine j_iconst X (v := 1) dX9_port_90 (by decide) ?_
        refine j_goto X (tgt := 95) dX9_port_91 (by decide) ?_
        exact j_iret X hr rfl (by first | with_reducible rfl | (simp only [xPort, if_neg c_4, if_neg w10_0, if_pos w10_1, if_neg c_87]; done) | (simp only [xPort, if_neg c_4, if_neg w10_0, if_pos w10_1, if_neg c_87]; rfl) | rfl) rfl (by first | with_reducible rfl | (simp only [xPort, if_neg c_4, if_neg w10_0, if_pos w10_1, if_neg c_87]; done) | (simp only [xPort, if_neg c_4, if_neg w10_0, if_pos w10_1, if_neg c_87]; rfl) | rfl) dX9_port_95
    by_cases w10_2 : w = 2
    · refine j_tableIn X (tgt := 96) (off := 86) dX9_port_10 (by rw [w10_2]; decide) (by rw [w10_2]; decide) (by rw [w10_2]; rfl) (by decide) ?_
      refine j_aload_n X 0 dX9_port_96 rfl rfl ?_
      refine j_get X fG_RX9_10 xput_0 rfl rfl dX9_port_97 ?_
      refine j_getN X fN_RX9_47 (xput_k 1 (by decide)) rfl rfl dX9_port_100 ?_
      refine j_iload_n X 1 dX9_port_103 rfl rfl ?_
      refine j_heap (h' := hput D (xput D h b S) (b + 1) (S.1 0)) (xput_st (i := 0) (by decide)) ?_
      refine j_callVi X (rest := []) (c_X3_secondsLeft l) m_yX3_secondsLeft kM_RX9_91 (hput_k 3 (by decide)) rfl rfl rfl rfl rfl (Nat.le_of_ble_eq_true rfl) ⟨Nat.le_of_ble_eq_true rfl, Nat.le_of_ble_eq_true rfl, Nat.le_of_ble_eq_true rfl, Nat.le_of_ble_eq_true rfl⟩ dX9_port_104 ?_
      refine j_heap (h' := xput D h b S) (xput_st (i := 0) (by decide)).symm ?_
      exact j_iret X hr rfl (by first | with_reducible rfl | (simp only [xPort, if_neg c_4, if_neg w10_0, if_neg w10_1, if_pos w10_2]; done) | (simp only [xPort, if_neg c_4, if_neg w10_0, if_neg w10_1, if_pos w10_2]; rfl) | rfl) rfl (by first | with_reducible rfl | (simp only [xPort, if_neg c_4, if_neg w10_0, if_neg w10_1, if_pos w10_2]; done) | (simp only [xPort, if_neg c_4, if_neg w10_0, if_neg w10_1, if_pos w10_2]; rfl) | rfl) dX9_port_107
    by_cases w10_3 : w = 3
    · refine j_tableIn X (tgt := 108) (off := 98) dX9_port_10 (by rw [w10_3]; decide) (by rw [w10_3]; decide) (by rw [w10_3]; rfl) (by decide) ?_
      refine j_aload_n X 0 dX9_port_108 rfl rfl ?_
      refine j_get X fG_RX9_10 xput_0 rfl rfl dX9_port_109 ?_
      refine j_getN X fN_RX9_47 (xput_k 1 (by decide)) rfl rfl dX9_port_112 ?_
      refine j_getN X fN_RX9_179 (xput_k 4 (by decide)) rfl rfl dX9_port_115 ?_
      refine j_iload_n X 1 dX9_port_118 rfl rfl ?_
      refine j_heap (h' := hput D (xput D h b S) (b + 1) (S.1 0)) (xput_st (i := 0) (by decide)) ?_
      refine j_callVi X (rest := []) (s_at3 l) m_yX5_at kM_RX9_108 (hput_k 8 (by decide)) rfl rfl rfl rfl rfl (Nat.le_of_ble_eq_true rfl) ⟨Nat.le_of_ble_eq_true rfl, Nat.le_of_ble_eq_true rfl, Nat.le_of_ble_eq_true rfl, Nat.le_of_ble_eq_true rfl⟩ dX9_port_119 ?_
      refine j_heap (h' := xput D h b S) (xput_st (i := 0) (by decide)).symm ?_
      exact j_iret X hr rfl (by first | with_reducible rfl | (simp only [xPort, if_neg c_4, if_neg w10_0, if_neg w10_1, if_neg w10_2, if_pos w10_3]; done) | (simp only [xPort, if_neg c_4, if_neg w10_0, if_neg w10_1, if_neg w10_2, if_pos w10_3]; rfl) | rfl) rfl (by first | with_reducible rfl | (simp only [xPort, if_neg c_4, if_neg w10_0, if_neg w10_1, if_neg w10_2, if_pos w10_3]; done) | (simp only [xPort, if_neg c_4, if_neg w10_0, if_neg w10_1, if_neg w10_2, if_pos w10_3]; rfl) | rfl) dX9_port_122
    by_cases w10_4 : w = 4
    · refine j_tableIn X (tgt := 123) (off := 113) dX9_port_10 (by rw [w10_4]; decide) (by rw [w10_4]; decide) (by rw [w10_4]; rfl) (by decide) ?_
      refine j_aload_n X 0 dX9_port_123 rfl rfl ?_
      refine j_get X fG_RX9_10 xput_0 rfl rfl dX9_port_124 ?_
      refine j_getN X fN_RX9_47 (xput_k 1 (by decide)) rfl rfl dX9_port_127 ?_
      refine j_iload_n X 1 dX9_port_130 rfl rfl ?_
      refine j_heap (h' := hput D (xput D h b S) (b + 1) (S.1 0)) (xput_st (i := 0) (by decide)) ?_
      refine j_callVi X (rest := []) (c_X3_farEnd l) m_yX3_farEnd kM_RX9_78 (hput_k 3 (by decide)) rfl rfl rfl rfl rfl (Nat.le_of_ble_eq_true rfl) ⟨Nat.le_of_ble_eq_true rfl, Nat.le_of_ble_eq_true rfl, Nat.le_of_ble_eq_true rfl, Nat.le_of_ble_eq_true rfl⟩ dX9_port_131 ?_
      refine j_heap (h' := xput D h b S) (xput_st (i := 0) (by decide)).symm ?_
      exact j_iret X hr rfl (by first | with_reducible rfl | (simp only [xPort, if_neg c_4, if_neg w10_0, if_neg w10_1, if_neg w10_2, if_neg w10_3, if_pos w10_4]; done) | (simp only [xPort, if_neg c_4, if_neg w10_0, if_neg w10_1, if_neg w10_2, if_neg w10_3, if_pos w10_4]; rfl) | rfl) rfl (by first | with_reducible rfl | (simp only [xPort, if_neg c_4, if_neg w10_0, if_neg w10_1, if_neg w10_2, if_neg w10_3, if_pos w10_4]; done) | (simp only [xPort, if_neg c_4, if_neg w10_0, if_neg w10_1, if_neg w10_2, if_neg w10_3, if_pos w10_4]; rfl) | rfl) dX9_port_134
    by_cases w10_5 : w = 5
    · refine j_tableIn X (tgt := 135) (off := 125) dX9_port_10 (by rw [w10_5]; decide) (by rw [w10_5]; decide) (by rw [w10_5]; rfl) (by decide) ?_
      refine j_aload_n X 0 dX9_port_135 rfl rfl ?_
      refine j_get X fG_RX9_10 xput_0 rfl rfl dX9_port_136 ?_
      refine j_getN X fN_RX9_182 (xput_k 1 (by decide)) rfl rfl dX9_port_139 ?_
      refine j_getN X fN_RX9_186 (xput_k 17 (by decide)) rfl rfl dX9_port_142 ?_
      refine j_iload_n X 1 dX9_port_145 rfl rfl ?_
      refine j_heap (h' := hput D (xput D h b S) (b + 1) (S.1 0)) (xput_st (i := 0) (by decide)) ?_
      refine j_callVi X (rest := []) (s_at7 l) m_yX5_at kM_RX9_108 (hput_k 17 (by decide)) rfl rfl rfl rfl rfl (Nat.le_of_ble_eq_true rfl) ⟨Nat.le_of_ble_eq_true rfl, Nat.le_of_ble_eq_true rfl, Nat.le_of_ble_eq_true rfl, Nat.le_of_ble_eq_true rfl⟩ dX9_port_146 ?_
      refine j_heap (h' := xput D h b S) (xput_st (i := 0) (by decide)).symm ?_
      exact j_iret X hr rfl (by first | with_reducible rfl | (simp only [xPort, if_neg c_4, if_neg w10_0, if_neg w10_1, if_neg w10_2, if_neg w10_3, if_neg w10_4, if_pos w10_5]; done) | (simp only [xPort, if_neg c_4, if_neg w10_0, if_neg w10_1, if_neg w10_2, if_neg w10_3, if_neg w10_4, if_pos w10_5]; rfl) | rfl) rfl (by first | with_reducible rfl | (simp only [xPort, if_neg c_4, if_neg w10_0, if_neg w10_1, if_neg w10_2, if_neg w10_3, if_neg w10_4, if_pos w10_5]; done) | (simp only [xPort, if_neg c_4, if_neg w10_0, if_neg w10_1, if_neg w10_2, if_neg w10_3, if_neg w10_4, if_pos w10_5]; rfl) | rfl) dX9_port_149
    by_cases w10_6 : w = 6
    · refine j_tableIn X (tgt := 150) (off := 140) dX9_port_10 (by rw [w10_6]; decide) (by rw [w10_6]; decide) (by rw [w10_6]; rfl) (by decide) ?_
      refine j_aload_n X 0 dX9_port_150 rfl rfl ?_
      refine j_get X fG_RX9_10 xput_0 rfl rfl dX9_port_151 ?_
      refine j_getN X fN_RX9_126 (xput_k 1 (by decide)) rfl rfl dX9_port_154 ?_
      refine j_iload_n X 1 dX9_port_157 rfl rfl ?_
      refine j_heap (h' := hput D (xput D h b S) (b + 1) (S.1 0)) (xput_st (i := 0) (by decide)) ?_
      refine j_callVi X (rest := []) (c_X7_entriesWith l) m_yX7_entriesWith kM_RX9_191 (hput_k 21 (by decide)) rfl rfl rfl rfl rfl (Nat.le_of_ble_eq_true rfl) ⟨Nat.le_of_ble_eq_true rfl, Nat.le_of_ble_eq_true rfl, Nat.le_of_ble_eq_true rfl, Nat.le_of_ble_eq_true rfl⟩ dX9_port_158 ?_
      refine j_heap (h' := xput D h b S) (xput_st (i := 0) (by decide)).symm ?_
      exact j_iret X hr rfl (by first | with_reducible rfl | (simp only [xPort, if_neg c_4, if_neg w10_0, if_neg w10_1, if_neg w10_2, if_neg w10_3, if_neg w10_4, if_neg w10_5, if_pos w10_6]; done) | (simp only [xPort, if_neg c_4, if_neg w10_0, if_neg w10_1, if_neg w10_2, if_neg w10_3, if_neg w10_4, if_neg w10_5, if_pos w10_6]; rfl) | rfl) rfl (by first | with_reducible rfl | (simp only [xPort, if_neg c_4, if_neg w10_0, if_neg w10_1, if_neg w10_2, if_neg w10_3, if_neg w10_4, if_neg w10_5, if_pos w10_6]; done) | (simp only [xPort, if_neg c_4, if_neg w10_0, if_neg w10_1, if_neg w10_2, if_neg w10_3, if_neg w10_4, if_neg w10_5, if_pos w10_6]; rfl) | rfl) dX9_port_161
    by_cases w10_7 : w = 7
    · refine j_tableIn X (tgt := 162) (off := 152) dX9_port_10 (by rw [w10_7]; decide) (by rw [w10_7]; decide) (by rw [w10_7]; rfl) (by decide) ?_
      refine j_aload_n X 0 dX9_port_162 rfl rfl ?_
      refine j_get X fG_RX9_10 xput_0 rfl rfl dX9_port_163 ?_
      refine j_getN X fN_RX9_47 (xput_k 1 (by decide)) rfl rfl dX9_port_166 ?_
      refine j_getN X fN_RX9_194 (xput_k 4 (by decide)) rfl rfl dX9_port_169 ?_
      refine j_iload_n X 1 dX9_port_172 rfl rfl ?_
      refine j_heap (h' := hput D (xput D h b S) (b + 1) (S.1 0)) (xput_st (i := 0) (by decide)) ?_
      refine j_callVi X (rest := []) (s_at5 l) m_yX5_at kM_RX9_108 (hput_k 12 (by decide)) rfl rfl rfl rfl rfl (Nat.le_of_ble_eq_true rfl) ⟨Nat.le_of_ble_eq_true rfl, Nat.le_of_ble_eq_true rfl, Nat.le_of_ble_eq_true rfl, Nat.le_of_ble_eq_true rfl⟩ dX9_port_173 ?_
      refine j_heap (h' := xput D h b S) (xput_st (i := 0) (by decide)).symm ?_
      exact j_iret X hr rfl (by first | with_reducible rfl | (simp only [xPort, if_neg c_4, if_neg w10_0, if_neg w10_1, if_neg w10_2, if_neg w10_3, if_neg w10_4, if_neg w10_5, if_neg w10_6, if_pos w10_7]; done) | (simp only [xPort, if_neg c_4, if_neg w10_0, if_neg w10_1, if_neg w10_2, if_neg w10_3, if_neg w10_4, if_neg w10_5, if_neg w10_6, if_pos w10_7]; rfl) | rfl) rfl (by first | with_reducible rfl | (simp only [xPort, if_neg c_4, if_neg w10_0, if_neg w10_1, if_neg w10_2, if_neg w10_3, if_neg w10_4, if_neg w10_5, if_neg w10_6, if_pos w10_7]; done) | (simp only [xPort, if_neg c_4, if_neg w10_0, if_neg w10_1, if_neg w10_2, if_neg w10_3, if_neg w10_4, if_neg w10_5, if_neg w10_6, if_pos w10_7]; rfl) | rfl) dX9_port_176
    refine j_tableOut X (tgt := 177) dX9_port_10 (sw_out 8 (by decide) (fun k hk => lt_n8 (P := fun k => ¬ w = nI k) w10_0 w10_1 w10_2 w10_3 w10_4 w10_5 w10_6 w10_7 k hk)) (by decide) ?_
    refine j_bipush X (v := (-2)) dX9_port_177 (by decide) ?_
    exact j_iret X hr rfl (by first | with_reducible rfl | (simp only [xPort, if_neg c_4, if_neg w10_0, if_neg w10_1, if_neg w10_2, if_neg w10_3, if_neg w10_4, if_neg w10_5, if_neg w10_6, if_neg w10_7]; done) | (simp only [xPort, if_neg c_4, if_neg w10_0, if_neg w10_1, if_neg w10_2, if_neg w10_3, if_neg w10_4, if_neg w10_5, if_neg w10_6, if_neg w10_7]; rfl) | rfl) rfl (by first | with_reducible rfl | (simp only [xPort, if_neg c_4, if_neg w10_0, if_neg w10_1, if_neg w10_2, if_neg w10_3, if_neg w10_4, if_neg w10_5, if_neg w10_6, if_neg w10_7]; done) | (simp only [xPort, if_neg c_4, if_neg w10_0, if_neg w10_1, if_neg w10_2, if_neg w10_3, if_neg w10_4, if_neg w10_5, if_neg w10_6, if_neg w10_7]; rfl) | rfl) dX9_port_179
  · refine j_iconst X (v := (-1)) dX9_port_7 (by decide) ?_
    exact j_iret X hr rfl (by first | with_reducible rfl | (simp only [xPort, if_pos c_4]; done) | (simp only [xPort, if_pos c_4]; rfl) | rfl) rfl (by first | with_reducible rfl | (simp only [xPort, if_pos c_4]; done) | (simp only [xPort, if_pos c_4]; rfl) | rfl) dX9_port_8
set_option maxRecDepth 100000 in
set_option maxHeartbeats 8000000 in
theorem c_X9_account (l : Launch) {D : DD} {B z : Nat} {h : HF} {b : Nat} {S : Sy} {p w : Int32}  : CT l yX9_account cX9_account 3 (some .int) 2 43 [.ref b, .int p, .int w] D B z (xput D h b S) (some (.int (xAccount S p w))) 0 0 (xput D h b S) := by
  refine CT.of (L := [(0, .ref b), (1, .int p), (2, .int w)]) (by decide +kernel) (Nat.le_of_ble_eq_true rfl) rfl ?_
  intro P E S0 M0 AR BL ME CO X hr hnm
  refine j_iload_n X 1 dX9_account_0 rfl rfl ?_
  refine j_callSi X (rest := []) (c_X9_isPort l) m_yX9_isPort kM_RX9_43 rfl rfl (Nat.le_of_ble_eq_true rfl) ⟨Nat.le_of_ble_eq_true rfl, Nat.le_of_ble_eq_true rfl, Nat.le_of_ble_eq_true rfl, Nat.le_of_ble_eq_true rfl⟩ dX9_account_1 ?_
  refine j_if_ne X (tgt := 9) dX9_account_4 (by decide) (fun c_4 => ?_) (fun c_4 => ?_)
  · refine j_iload_n X 2 dX9_account_9 rfl rfl ?_
    refine j_if_lt X (tgt := 19) dX9_account_10 (by decide) (fun c_10 => ?_) (fun c_10 => ?_)
    · refine j_bipush X (v := (-2)) dX9_account_19 (by decide) ?_
      exact j_iret X hr rfl (by first | with_reducible rfl | (simp only [xAccount, if_neg c_4, if_pos c_10]; done) | (simp only [xAccount, if_neg c_4, if_pos c_10]; rfl) | rfl) rfl (by first | with_reducible rfl | (simp only [xAccount, if_neg c_4, if_pos c_10]; done) | (simp only [xAccount, if_neg c_4, if_pos c_10]; rfl) | rfl) dX9_account_21
    · refine j_iload_n X 2 dX9_account_13 rfl rfl ?_
      refine j_bipush X (v := 11) dX9_account_14 (by decide) ?_
      refine j_icmp_lt X (tgt := 22) dX9_account_16 (by decide) (fun c_16 => ?_) (fun c_16 => ?_)
      · refine j_aload_n X 0 dX9_account_22 rfl rfl ?_
        refine j_get X fG_RX9_10 xput_0 rfl rfl dX9_account_23 ?_
        refine j_getN X fN_RX9_47 (xput_k 1 (by decide)) rfl rfl dX9_account_26 ?_
        refine j_iload_n X 1 dX9_account_29 rfl rfl ?_
        refine j_iload_n X 2 dX9_account_30 rfl rfl ?_
        refine j_heap (h' := hput D (xput D h b S) (b + 1) (S.1 0)) (xput_st (i := 0) (by decide)) ?_
        refine j_callVi X (rest := []) (c_X3_credited l) m_yX3_credited kM_RX9_197 (hput_k 3 (by decide)) rfl rfl rfl rfl rfl (Nat.le_of_ble_eq_true rfl) ⟨Nat.le_of_ble_eq_true rfl, Nat.le_of_ble_eq_true rfl, Nat.le_of_ble_eq_true rfl, Nat.le_of_ble_eq_true rfl⟩ dX9_account_31 ?_
        refine j_heap (h' := xput D h b S) (xput_st (i := 0) (by decide)).symm ?_
        exact j_iret X hr rfl (by first | with_reducible rfl | (simp only [xAccount, if_neg c_4, if_neg c_10, if_pos c_16]; done) | (simp only [xAccount, if_neg c_4, if_neg c_10, if_pos c_16]; rfl) | rfl) rfl (by first | with_reducible rfl | (simp only [xAccount, if_neg c_4, if_neg c_10, if_pos c_16]; done) | (simp only [xAccount, if_neg c_4, if_neg c_10, if_pos c_16]; rfl) | rfl) dX9_account_34
      · refine j_bipush X (v := (-2)) dX9_account_19 (by decide) ?_
        exact j_iret X hr rfl (by first | with_reducible rfl | (simp only [xAccount, if_neg c_4, if_neg c_10, if_neg c_16]; done) | (simp only [xAccount, if_neg c_4, if_neg c_10, if_neg c_16]; rfl) | rfl) rfl (by first | with_reducible rfl | (simp only [xAccount, if_neg c_4, if_neg c_10, if_neg c_16]; done) | (simp only [xAccount, if_neg c_4, if_neg c_10, if_neg c_16]; rfl) | rfl) dX9_account_21
  · refine j_iconst X (v := (-1)) dX9_account_7 (by decide) ?_
    exact j_iret X hr rfl (by first | with_reducible rfl | (simp only [xAccount, if_pos c_4]; done) | (simp only [xAccount, if_pos c_4]; rfl) | rfl) rfl (by first | with_reducible rfl | (simp only [xAccount, if_pos c_4]; done) | (simp only [xAccount, if_pos c_4]; rfl) | rfl) dX9_account_8
set_option maxRecDepth 100000 in
set_option maxHeartbeats 8000000 in
theorem c_X9_entry (l : Launch) {D : DD} {B z : Nat} {h : HF} {b : Nat} {S : Sy} {x w : Int32}  : CT l yX9_entry cX9_entry 4 (some .int) 2 44 [.ref b, .int x, .int w] D B z (xput D h b S) (some (.int (xEntry S x w))) 0 0 (xput D h b S) := by
  refine CT.of (L := [(0, .ref b), (1, .int x), (2, .int w)]) (by decide +kernel) (Nat.le_of_ble_eq_true rfl) rfl ?_
  intro P E S0 M0 AR BL ME CO X hr hnm
  refine j_iload_n X 1 dX9_entry_0 rfl rfl ?_
  refine j_if_lt X (tgt := 13) dX9_entry_1 (by decide) (fun c_1 => ?_) (fun c_1 => ?_)
  · refine j_bipush X (v := (-2)) dX9_entry_13 (by decide) ?_
    exact j_iret X hr rfl (by first | with_reducible rfl | (simp only [xEntry, if_pos c_1]; done) | (simp only [xEntry, if_pos c_1]; rfl) | rfl) rfl (by first | with_reducible rfl | (simp only [xEntry, if_pos c_1]; done) | (simp only [xEntry, if_pos c_1]; rfl) | rfl) dX9_entry_15
  · refine j_iload_n X 2 dX9_entry_4 rfl rfl ?_
    refine j_if_lt X (tgt := 13) dX9_entry_5 (by decide) (fun c_5 => ?_) (fun c_5 => ?_)
    · refine j_bipush X (v := (-2)) dX9_entry_13 (by decide) ?_
      exact j_iret X hr rfl (by first | with_reducible rfl | (simp only [xEntry, if_neg c_1, if_pos c_5]; done) | (simp only [xEntry, if_neg c_1, if_pos c_5]; rfl) | rfl) rfl (by first | with_reducible rfl | (simp only [xEntry, if_neg c_1, if_pos c_5]; done) | (simp only [xEntry, if_neg c_1, if_pos c_5]; rfl) | rfl) dX9_entry_15
    · refine j_iload_n X 2 dX9_entry_8 rfl rfl ?_
      refine j_iconst X (v := 3) dX9_entry_9 (by decide) ?_
      refine j_icmp_le X (tgt := 16) dX9_entry_10 (by decide) (fun c_10 => ?_) (fun c_10 => ?_)
      · refine j_iload_n X 1 dX9_entry_16 rfl rfl ?_
        refine j_aload_n X 0 dX9_entry_17 rfl rfl ?_
        refine j_get X fG_RX9_10 xput_0 rfl rfl dX9_entry_18 ?_
        refine j_getN X fN_RX9_126 (xput_k 1 (by decide)) rfl rfl dX9_entry_21 ?_
        refine j_getN X fN_RX9_201 (xput_k 22 (by decide)) rfl rfl dX9_entry_24 ?_
        refine j_icmp_lt X (tgt := 33) dX9_entry_27 (by decide) (fun c_27 => ?_) (fun c_27 => ?_)
        · refine j_aload_n X 0 dX9_entry_33 rfl rfl ?_
          refine j_get X fG_RX9_10 xput_0 rfl rfl dX9_entry_34 ?_
          refine j_getN X fN_RX9_126 (xput_k 1 (by decide)) rfl rfl dX9_entry_37 ?_
          refine j_iload_n X 1 dX9_entry_40 rfl rfl ?_
          refine j_heap (h' := hput D (xput D h b S) (b + 1) (S.1 0)) (xput_st (i := 0) (by decide)) ?_
          refine j_callVi X (rest := []) (c_X7_addressOf l) m_yX7_addressOf kM_RX9_202 (hput_k 21 (by decide)) rfl rfl rfl rfl rfl (Nat.le_of_ble_eq_true rfl) ⟨Nat.le_of_ble_eq_true rfl, Nat.le_of_ble_eq_true rfl, Nat.le_of_ble_eq_true rfl, Nat.le_of_ble_eq_true rfl⟩ dX9_entry_41 ?_
          refine j_heap (h' := xput D h b S) (xput_st (i := 0) (by decide)).symm ?_
          refine j_tops (fun v1 ev1 => ?_)
          refine j_istore_n X (L' := [(3, .int v1), (0, .ref b), (1, .int x), (2, .int w)]) dX9_entry_44 rfl (by decide) rfl ?_
          refine j_iload_n X 3 dX9_entry_45 rfl rfl ?_
          by_cases w46_0 : w = 0
          · refine j_tableIn X (tgt := 72) (off := 26) dX9_entry_46 (by rw [w46_0]; decide) (by rw [w46_0]; decide) (by rw [w46_0]; rfl) (by decide) ?_
            refine j_iload_n X 0 dX9_entry_72 rfl rfl ?_
            exact j_iret X hr rfl (by subst ev1; first | with_reducible rfl | (simp only [xEntry, if_neg c_1, if_neg c_5, if_neg c_10, if_pos c_27, if_pos w46_0]; done) | (simp only [xEntry, if_neg c_1, if_neg c_5, if_neg c_10, if_pos c_27, if_pos w46_0]; rfl) | rfl) rfl (by subst ev1; first | with_reducible rfl | (simp only [xEntry, if_neg c_1, if_neg c_5, if_neg c_10, if_pos c_27, if_pos w46_0]; done) | (simp only [xEntry, if_neg c_1, if_neg c_5, if_neg c_10, if_pos c_27, if_pos w46_0]; rfl) | rfl) dX9_entry_73
          by_cases w46_1 : w = 1
          · refine j_tableIn X (tgt := 74) (off := 28) dX9_entry_46 (by rw [w46_1]; decide) (by rw [w46_1]; decide) (by rw [w46_1]; rfl) (by decide) ?_
            refine j_aload_n X 1 dX9_entry_74 rfl rfl ?_
            refine j_get X fG_RX9_10 xput_0 rfl rfl dX9_entry_75 ?_
            refine j_getN X fN_RX9_126 (xput_k 1 (by decide)) rfl rfl dX9_entry_78 ?_
            refine j_iload_n X 0 dX9_entry_81 rfl rfl ?_
            refine j_heap (h' := hput D (xput D h b S) (b + 1) (S.1 0)) (xput_st (i := 0) (by decide)) ?_
            refine j_callVi X (rest := []) (c_X7_portOf l) m_yX7_portOf kM_RX9_130 (hput_k 21 (by decide)) rfl rfl rfl rfl rfl (Nat.le_of_ble_eq_true rfl) ⟨Nat.le_of_ble_eq_true rfl, Nat.le_of_ble_eq_true rfl, Nat.le_of_ble_eq_true rfl, Nat.le_of_ble_eq_true rfl⟩ dX9_entry_82 ?_
            refine j_heap (h' := xput D h b S) (xput_st (i := 0) (by decide)).symm ?_
            exact j_iret X hr rfl (by subst ev1; first | with_reducible rfl | (simp only [xEntry, if_neg c_1, if_neg c_5, if_neg c_10, if_pos c_27, if_neg w46_0, if_pos w46_1]; done) | (simp only [xEntry, if_neg c_1, if_neg c_5, if_neg c_10, if_pos c_27, if_neg w46_0, if_pos w46_1]; rfl) | rfl) rfl (by subst ev1; first | with_reducible rfl | (simp only [xEntry, if_neg c_1, if_neg c_5, if_neg c_10, if_pos c_27, if_neg w46_0, if_pos w46_1]; done) | (simp only [xEntry, if_neg c_1, if_neg c_5, if_neg c_10, if_pos c_27, if_neg w46_0, if_pos w46_1]; rfl) | rfl) dX9_entry_85
          by_cases w46_2 : w = 2
          · refine j_tableIn X (tgt := 86) (off := 40) dX9_entry_46 (by rw [w46_2]; decide) (by rw [w46_2]; decide) (by rw [w46_2]; rfl) (by decide) ?_
            refine j_aload_n X 1 dX9_entry_86 rfl rfl ?_
            refine j_get X fG_RX9_10 xput_0 rfl rfl dX9_entry_87 ?_
            refine j_getN X fN_RX9_173 (xput_k 1 (by decide)) rfl rfl dX9_entry_90 ?_
            refine j_aload_n X 1 dX9_entry_93 rfl rfl ?_
            refine j_get X fG_RX9_10 xput_0 rfl rfl dX9_entry_94 ?_
            refine j_getN X fN_RX9_126 (xput_k 1 (by decide)) rfl rfl dX9_entry_97 ?_
            refine j_getN X fN_RX9_205 (xput_k 22 (by decide)) rfl rfl dX9_entry_100 ?_
            refine j_iload_n X 0 dX9_entry_103 rfl rfl ?_
            refine j_heap (h' := hput D (xput D h b S) (b + 1) (S.1 0)) (xput_st (i := 0) (by decide)) ?_
            refine j_callVi X (rest := [.int ((S.1 0).2 0)]) (s_at10 l) m_yX5_at kM_RX9_108 (hput_k 24 (by decide)) rfl rfl rfl rfl rfl (Nat.le_of_ble_eq_true rfl) ⟨Nat.le_of_ble_eq_true rfl, Nat.le_of_ble_eq_true rfl, Nat.le_of_ble_eq_true rfl, Nat.le_of_ble_eq_true rfl⟩ dX9_entry_104 ?_
            refine j_heap (h' := xput D h b S) (xput_st (i := 0) (by decide)).symm ?_
            refine j_isub X dX9_entry_107 ?_
            exact j_iret X hr rfl (by subst ev1; first | with_reducible rfl | (simp only [xEntry, if_neg c_1, if_neg c_5, if_neg c_10, if_pos c_27, if_neg w46_0, if_neg w46_1, if_pos w46_2]; done) | (simp only [xEntry, if_neg c_1, if_neg c_5, if_neg c_10, if_pos c_27, if_neg w46_0, if_neg w46_1, if_pos w46_2]; rfl) | rfl) rfl (by subst ev1; first | with_reducible rfl | (simp only [xEntry, if_neg c_1, if_neg c_5, if_neg c_10, if_pos c_27, if_neg w46_0, if_neg w46_1, if_pos w46_2]; done) | (simp only [xEntry, if_neg c_1, if_neg c_5, if_neg c_10, if_pos c_27, if_neg w46_0, if_neg w46_1, if_pos w46_2]; rfl) | rfl) dX9_entry_108
          refine j_tableOut X (tgt := 109) dX9_entry_46 (sw_out 3 (by decide) (fun k hk => lt_n3 (P := fun k => ¬ w = nI k) w46_0 w46_1 w46_2 k hk)) (by decide) ?_
          refine j_aload_n X 1 dX9_entry_109 rfl rfl ?_
          refine j_get X fG_RX9_10 xput_0 rfl rfl dX9_entry_110 ?_
          refine j_getN X fN_RX9_208 (xput_k 1 (by decide)) rfl rfl dX9_entry_113 ?_
          refine j_iload_n X 0 dX9_entry_116 rfl rfl ?_
          refine j_heap (h' := hput D (xput D h b S) (b + 1) (S.1 0)) (xput_st (i := 0) (by decide)) ?_
          refine j_callVi X (rest := []) (c_X2_latelyOf l) m_yX2_latelyOf kM_RX9_212 (hput_k 26 (by decide)) rfl rfl rfl rfl rfl (Nat.le_of_ble_eq_true rfl) ⟨Nat.le_of_ble_eq_true rfl, Nat.le_of_ble_eq_true rfl, Nat.le_of_ble_eq_true rfl, Nat.le_of_ble_eq_true rfl⟩ dX9_entry_117 ?_
          refine j_heap (h' := xput D h b S) (xput_st (i := 0) (by decide)).symm ?_
          exact j_iret X hr rfl (by subst ev1; first | with_reducible rfl | (simp only [xEntry, if_neg c_1, if_neg c_5, if_neg c_10, if_pos c_27, if_neg w46_0, if_neg w46_1, if_neg w46_2]; done) | (simp only [xEntry, if_neg c_1, if_neg c_5, if_neg c_10, if_pos c_27, if_neg w46_0, if_neg w46_1, if_neg w46_2]; rfl) | rfl) rfl (by subst ev1; first | with_reducible rfl | (simp only [xEntry, if_neg c_1, if_neg c_5, if_neg c_10, if_pos c_27, if_neg w46_0, if_neg w46_1, if_neg w46_2]; done) | (simp only [xEntry, if_neg c_1, if_neg c_5, if_neg c_10, if_pos c_27, if_neg w46_0, if_neg w46_1, if_neg w46_2]; rfl) | rfl) dX9_entry_120
        · refine j_bipush X (v := (-4)) dX9_entry_30 (by decide) ?_
          exact j_iret X hr rfl (by first | with_reducible rfl | (simp only [xEntry, if_neg c_1, if_neg c_5, if_neg c_10, if_neg c_27]; done) | (simp only [xEntry, if_neg c_1, if_neg c_5, if_neg c_10, if_neg c_27]; rfl) | rfl) rfl (by first | with_reducible rfl | (simp only [xEntry, if_neg c_1, if_neg c_5, if_neg c_10, if_neg c_27]; done) | (simp only [xEntry, if_neg c_1, if_neg c_5, if_neg c_10, if_neg c_27]; rfl) | rfl) dX9_entry_32
      · refine j_bipush X (v := (-2)) dX9_entry_13 (by decide) ?_
        exact j_iret X hr rfl (by first | with_reducible rfl | (simp only [xEntry, if_neg c_1, if_neg c_5, if_pos c_10]; done) | (simp only [xEntry, if_neg c_1, if_neg c_5, if_pos c_10]; rfl) | rfl) rfl (by first | with_reducible rfl | (simp only [xEntry, if_neg c_1, if_neg c_5, if_pos c_10]; done) | (simp only [xEntry, if_neg c_1, if_neg c_5, if_pos c_10]; rfl) | rfl) dX9_entry_15
set_option maxRecDepth 100000 in
set_option maxHeartbeats 8000000 in
theorem c_X9_where (l : Launch) {D : DD} {B z : Nat} {h : HF} {b : Nat} {S : Sy} {x : Int32}  : CT l yX9_where cX9_where 2 (some .int) 2 42 [.ref b, .int x] D B z (xput D h b S) (some (.int (xWhere S x))) 0 0 (xput D h b S) := by
  refine CT.of (L := [(0, .ref b), (1, .int x)]) (by decide +kernel) (Nat.le_of_ble_eq_true rfl) rfl ?_
  intro P E S0 M0 AR BL ME CO X hr hnm
  refine j_iload_n X 1 dX9_where_0 rfl rfl ?_
  refine j_callSi X (rest := []) (c_X9_isAddress l) m_yX9_isAddress kM_RX9_116 rfl rfl (Nat.le_of_ble_eq_true rfl) ⟨Nat.le_of_ble_eq_true rfl, Nat.le_of_ble_eq_true rfl, Nat.le_of_ble_eq_true rfl, Nat.le_of_ble_eq_true rfl⟩ dX9_where_1 ?_
  refine j_if_ne X (tgt := 10) dX9_where_4 (by decide) (fun c_4 => ?_) (fun c_4 => ?_)
  · refine j_aload_n X 0 dX9_where_10 rfl rfl ?_
    refine j_get X fG_RX9_10 xput_0 rfl rfl dX9_where_11 ?_
    refine j_getN X fN_RX9_126 (xput_k 1 (by decide)) rfl rfl dX9_where_14 ?_
    refine j_iload_n X 1 dX9_where_17 rfl rfl ?_
    refine j_heap (h' := hput D (xput D h b S) (b + 1) (S.1 0)) (xput_st (i := 0) (by decide)) ?_
    refine j_callVi X (rest := []) (c_X7_portOf l) m_yX7_portOf kM_RX9_130 (hput_k 21 (by decide)) rfl rfl rfl rfl rfl (Nat.le_of_ble_eq_true rfl) ⟨Nat.le_of_ble_eq_true rfl, Nat.le_of_ble_eq_true rfl, Nat.le_of_ble_eq_true rfl, Nat.le_of_ble_eq_true rfl⟩ dX9_where_18 ?_
    refine j_heap (h' := xput D h b S) (xput_st (i := 0) (by decide)).symm ?_
    exact j_iret X hr rfl (by first | with_reducible rfl | (simp only [xWhere, if_neg c_4]; done) | (simp only [xWhere, if_neg c_4]; rfl) | rfl) rfl (by first | with_reducible rfl | (simp only [xWhere, if_neg c_4]; done) | (simp only [xWhere, if_neg c_4]; rfl) | rfl) dX9_where_21
  · refine j_bipush X (v := (-2)) dX9_where_7 (by decide) ?_
    exact j_iret X hr rfl (by first | with_reducible rfl | (simp only [xWhere, if_pos c_4]; done) | (simp only [xWhere, if_pos c_4]; rfl) | rfl) rfl (by first | with_reducible rfl | (simp only [xWhere, if_pos c_4]; done) | (simp only [xWhere, if_pos c_4]; rfl) | rfl) dX9_where_9
set_option maxRecDepth 100000 in
set_option maxHeartbeats 8000000 in
theorem c_X9_queued (l : Launch) {D : DD} {B z : Nat} {h : HF} {b : Nat} {S : Sy} {p k w : Int32}  : CT l yX9_queued cX9_queued 4 (some .int) 2 44 [.ref b, .int p, .int k, .int w] D B z (xput D h b S) (some (.int (xQueued S p k w))) 0 0 (xput D h b S) := by
  refine CT.of (L := [(0, .ref b), (1, .int p), (2, .int k), (3, .int w)]) (by decide +kernel) (Nat.le_of_ble_eq_true rfl) rfl ?_
  intro P E S0 M0 AR BL ME CO X hr hnm
  refine j_iload_n X 1 dX9_queued_0 rfl rfl ?_
  refine j_callSi X (rest := []) (c_X9_isPort l) m_yX9_isPort kM_RX9_43 rfl rfl (Nat.le_of_ble_eq_true rfl) ⟨Nat.le_of_ble_eq_true rfl, Nat.le_of_ble_eq_true rfl, Nat.le_of_ble_eq_true rfl, Nat.le_of_ble_eq_true rfl⟩ dX9_queued_1 ?_
  refine j_if_ne X (tgt := 9) dX9_queued_4 (by decide) (fun c_4 => ?_) (fun c_4 => ?_)
  · refine j_iload_n X 2 dX9_queued_9 rfl rfl ?_
    refine j_if_lt X (tgt := 22) dX9_queued_10 (by decide) (fun c_10 => ?_) (fun c_10 => ?_)
    · refine j_bipush X (v := (-2)) dX9_queued_22 (by decide) ?_
      exact j_iret X hr rfl (by first | with_reducible rfl | (simp only [xQueued, if_neg c_4, if_pos c_10]; done) | (simp only [xQueued, if_neg c_4, if_pos c_10]; rfl) | rfl) rfl (by first | with_reducible rfl | (simp only [xQueued, if_neg c_4, if_pos c_10]; done) | (simp only [xQueued, if_neg c_4, if_pos c_10]; rfl) | rfl) dX9_queued_24
    · refine j_iload_n X 3 dX9_queued_13 rfl rfl ?_
      refine j_if_lt X (tgt := 22) dX9_queued_14 (by decide) (fun c_14 => ?_) (fun c_14 => ?_)
      · refine j_bipush X (v := (-2)) dX9_queued_22 (by decide) ?_
        exact j_iret X hr rfl (by first | with_reducible rfl | (simp only [xQueued, if_neg c_4, if_neg c_10, if_pos c_14]; done) | (simp only [xQueued, if_neg c_4, if_neg c_10, if_pos c_14]; rfl) | rfl) rfl (by first | with_reducible rfl | (simp only [xQueued, if_neg c_4, if_neg c_10, if_pos c_14]; done) | (simp only [xQueued, if_neg c_4, if_neg c_10, if_pos c_14]; rfl) | rfl) dX9_queued_24
      · refine j_iload_n X 3 dX9_queued_17 rfl rfl ?_
        refine j_iconst X (v := 4) dX9_queued_18 (by decide) ?_
        refine j_icmp_lt X (tgt := 25) dX9_queued_19 (by decide) (fun c_19 => ?_) (fun c_19 => ?_)
        · refine j_iload_n X 2 dX9_queued_25 rfl rfl ?_
          refine j_aload_n X 0 dX9_queued_26 rfl rfl ?_
          refine j_get X fG_RX9_10 xput_0 rfl rfl dX9_queued_27 ?_
          refine j_getN X fN_RX9_182 (xput_k 1 (by decide)) rfl rfl dX9_queued_30 ?_
          refine j_getN X fN_RX9_186 (xput_k 17 (by decide)) rfl rfl dX9_queued_33 ?_
          refine j_iload_n X 1 dX9_queued_36 rfl rfl ?_
          refine j_heap (h' := hput D (xput D h b S) (b + 1) (S.1 0)) (xput_st (i := 0) (by decide)) ?_
          refine j_callVi X (rest := [.int k]) (s_at7 l) m_yX5_at kM_RX9_108 (hput_k 17 (by decide)) rfl rfl rfl rfl rfl (Nat.le_of_ble_eq_true rfl) ⟨Nat.le_of_ble_eq_true rfl, Nat.le_of_ble_eq_true rfl, Nat.le_of_ble_eq_true rfl, Nat.le_of_ble_eq_true rfl⟩ dX9_queued_37 ?_
          refine j_heap (h' := xput D h b S) (xput_st (i := 0) (by decide)).symm ?_
          refine j_icmp_lt X (tgt := 46) dX9_queued_40 (by decide) (fun c_40 => ?_) (fun c_40 => ?_)
          · refine j_aload_n X 0 dX9_queued_46 rfl rfl ?_
            refine j_get X fG_RX9_10 xput_0 rfl rfl dX9_queued_47 ?_
            refine j_getN X fN_RX9_182 (xput_k 1 (by decide)) rfl rfl dX9_queued_50 ?_
            refine j_iload_n X 1 dX9_queued_53 rfl rfl ?_
            refine j_iload_n X 2 dX9_queued_54 rfl rfl ?_
            refine j_iload_n X 3 dX9_queued_55 rfl rfl ?_
            refine j_heap (h' := hput D (xput D h b S) (b + 1) (S.1 0)) (xput_st (i := 0) (by decide)) ?_
            refine j_callVi X (rest := []) (c_X4_partOf l) m_yX4_partOf kM_RX9_217 (hput_k 16 (by decide)) rfl rfl rfl rfl rfl (Nat.le_of_ble_eq_true rfl) ⟨Nat.le_of_ble_eq_true rfl, Nat.le_of_ble_eq_true rfl, Nat.le_of_ble_eq_true rfl, Nat.le_of_ble_eq_true rfl⟩ dX9_queued_56 ?_
            refine j_heap (h' := xput D h b S) (xput_st (i := 0) (by decide)).symm ?_
            exact j_iret X hr rfl (by first | with_reducible rfl | (simp only [xQueued, if_neg c_4, if_neg c_10, if_neg c_14, if_pos c_19, if_pos c_40]; done) | (simp only [xQueued, if_neg c_4, if_neg c_10, if_neg c_14, if_pos c_19, if_pos c_40]; rfl) | rfl) rfl (by first | with_reducible rfl | (simp only [xQueued, if_neg c_4, if_neg c_10, if_neg c_14, if_pos c_19, if_pos c_40]; done) | (simp only [xQueued, if_neg c_4, if_neg c_10, if_neg c_14, if_pos c_19, if_pos c_40]; rfl) | rfl) dX9_queued_59
          · refine j_bipush X (v := (-4)) dX9_queued_43 (by decide) ?_
            exact j_iret X hr rfl (by first | with_reducible rfl | (simp only [xQueued, if_neg c_4, if_neg c_10, if_neg c_14, if_pos c_19, if_neg c_40]; done) | (simp only [xQueued, if_neg c_4, if_neg c_10, if_neg c_14, if_pos c_19, if_neg c_40]; rfl) | rfl) rfl (by first | with_reducible rfl | (simp only [xQueued, if_neg c_4, if_neg c_10, if_neg c_14, if_pos c_19, if_neg c_40]; done) | (simp only [xQueued, if_neg c_4, if_neg c_10, if_neg c_14, if_pos c_19, if_neg c_40]; rfl) | rfl) dX9_queued_45
        · refine j_bipush X (v := (-2)) dX9_queued_22 (by decide) ?_
          exact j_iret X hr rfl (by first | with_reducible rfl | (simp only [xQueued, if_neg c_4, if_neg c_10, if_neg c_14, if_neg c_19]; done) | (simp only [xQueued, if_neg c_4, if_neg c_10, if_neg c_14, if_neg c_19]; rfl) | rfl) rfl (by first | with_reducible rfl | (simp only [xQueued, if_neg c_4, if_neg c_10, if_neg c_14, if_neg c_19]; done) | (simp only [xQueued, if_neg c_4, if_neg c_10, if_neg c_14, if_neg c_19]; rfl) | rfl) dX9_queued_24
  · refine j_iconst X (v := (-1)) dX9_queued_7 (by decide) ?_
    exact j_iret X hr rfl (by first | with_reducible rfl | (simp only [xQueued, if_pos c_4]; done) | (simp only [xQueued, if_pos c_4]; rfl) | rfl) rfl (by first | with_reducible rfl | (simp only [xQueued, if_pos c_4]; done) | (simp only [xQueued, if_pos c_4]; rfl) | rfl) dX9_queued_8
set_option maxRecDepth 100000 in
set_option maxHeartbeats 8000000 in
theorem c_X9_wouldGo (l : Launch) {D : DD} {B z : Nat} {h : HF} {b : Nat} {S : Sy} {p s d : Int32}  : CT l yX9_wouldGo cX9_wouldGo 5 (some .int) 4 92 [.ref b, .int p, .int s, .int d] D B z (xput D h b S) (some (.int ((xWouldGo S p s d).1))) 0 0 (xput D h b ((xWouldGo S p s d).2)) := by
  refine CT.of (L := [(0, .ref b), (1, .int p), (2, .int s), (3, .int d)]) (by decide +kernel) (Nat.le_of_ble_eq_true rfl) rfl ?_
  intro P E S0 M0 AR BL ME CO X hr hnm
  refine j_iload_n X 1 dX9_wouldGo_0 rfl rfl ?_
  refine j_callSi X (rest := []) (c_X9_isPort l) m_yX9_isPort kM_RX9_43 rfl rfl (Nat.le_of_ble_eq_true rfl) ⟨Nat.le_of_ble_eq_true rfl, Nat.le_of_ble_eq_true rfl, Nat.le_of_ble_eq_true rfl, Nat.le_of_ble_eq_true rfl⟩ dX9_wouldGo_1 ?_
  refine j_if_ne X (tgt := 9) dX9_wouldGo_4 (by decide) (fun c_4 => ?_) (fun c_4 => ?_)
  · refine j_iload_n X 2 dX9_wouldGo_9 rfl rfl ?_
    refine j_callSi X (rest := []) (c_X9_isAddress l) m_yX9_isAddress kM_RX9_116 rfl rfl (Nat.le_of_ble_eq_true rfl) ⟨Nat.le_of_ble_eq_true rfl, Nat.le_of_ble_eq_true rfl, Nat.le_of_ble_eq_true rfl, Nat.le_of_ble_eq_true rfl⟩ dX9_wouldGo_10 ?_
    refine j_if_eq X (tgt := 23) dX9_wouldGo_13 (by decide) (fun c_13 => ?_) (fun c_13 => ?_)
    · refine j_bipush X (v := (-2)) dX9_wouldGo_23 (by decide) ?_
      exact j_iret X hr rfl (by first | with_reducible rfl | (simp only [xWouldGo, if_neg c_4, if_pos c_13]; done) | (simp only [xWouldGo, if_neg c_4, if_pos c_13]; rfl) | rfl) rfl (by first | with_reducible rfl | (simp only [xWouldGo, if_neg c_4, if_pos c_13]; done) | (simp only [xWouldGo, if_neg c_4, if_pos c_13]; rfl) | rfl) dX9_wouldGo_25
    · refine j_iload_n X 3 dX9_wouldGo_16 rfl rfl ?_
      refine j_callSi X (rest := []) (c_X9_isDestination l) m_yX9_isDestination kM_RX9_119 rfl rfl (Nat.le_of_ble_eq_true rfl) ⟨Nat.le_of_ble_eq_true rfl, Nat.le_of_ble_eq_true rfl, Nat.le_of_ble_eq_true rfl, Nat.le_of_ble_eq_true rfl⟩ dX9_wouldGo_17 ?_
      refine j_if_ne X (tgt := 26) dX9_wouldGo_20 (by decide) (fun c_20 => ?_) (fun c_20 => ?_)
      · refine j_aload_n X 0 dX9_wouldGo_26 rfl rfl ?_
        refine j_get X fG_RX9_19 xput_0 rfl rfl dX9_wouldGo_27 ?_
        refine j_aload_n X 0 dX9_wouldGo_30 rfl rfl ?_
        refine j_get X fG_RX9_10 xput_0 rfl rfl dX9_wouldGo_31 ?_
        refine j_callVv X (rest := []) (x_copy l (i := 2) (j := 0) (by omega) (by omega) (by omega)) m_yX6_copyFrom kM_RX9_166 (xput_k 59 (by decide)) rfl rfl rfl rfl rfl (Nat.le_of_ble_eq_true rfl) ⟨Nat.le_of_ble_eq_true rfl, Nat.le_of_ble_eq_true rfl, Nat.le_of_ble_eq_true rfl, Nat.le_of_ble_eq_true rfl⟩ dX9_wouldGo_34 ?_
        refine j_aload_n X 0 dX9_wouldGo_37 rfl rfl ?_
        refine j_get X fG_RX9_19 xput_0 rfl rfl dX9_wouldGo_38 ?_
        refine j_iload_n X 1 dX9_wouldGo_41 rfl rfl ?_
        refine j_iload_n X 2 dX9_wouldGo_42 rfl rfl ?_
        refine j_iload_n X 3 dX9_wouldGo_43 rfl rfl ?_
        refine j_heap (h' := hput D (xput D h b (xst S 2 (S.1 0))) (b + 59) (S.1 0)) (xput_st (i := 2) (by decide)) ?_
        refine j_callVi X (rest := []) (c_X6_learnAndDecide l) m_yX6_learnAndDecide kM_RX9_221 hput_0 rfl rfl rfl rfl rfl (Nat.le_of_ble_eq_true rfl) ⟨Nat.le_of_ble_eq_true rfl, Nat.le_of_ble_eq_true rfl, Nat.le_of_ble_eq_true rfl, Nat.le_of_ble_eq_true rfl⟩ dX9_wouldGo_44 ?_
        refine j_heap (h' := xput D h b (xst S 2 ((sLD (S.1 0) p s d).2))) (xst_st2 (i := 2) (by decide)) ?_
        refine j_tops (fun v1 ev1 => ?_)
        refine j_istore X (L' := [(4, .int v1), (0, .ref b), (1, .int p), (2, .int s), (3, .int d)]) dX9_wouldGo_47 (by decide) rfl ?_
        refine j_aload_n X 1 dX9_wouldGo_49 rfl rfl ?_
        refine j_get X fG_RX9_19 xput_0 rfl rfl dX9_wouldGo_50 ?_
        refine j_iload X 0 dX9_wouldGo_53 rfl ?_
        refine j_iload_n X 2 dX9_wouldGo_55 rfl rfl ?_
        refine j_iload_n X 4 dX9_wouldGo_56 rfl rfl ?_
        refine j_heap (h' := hput D (xput D h b (xst S 2 ((sLD (S.1 0) p s d).2))) (b + 59) ((sLD (S.1 0) p s d).2)) (xput_st (i := 2) (by decide)) ?_
        refine j_callVi X (rest := []) (c_X6_waysOut l) m_yX6_waysOut kM_RX9_224 hput_0 rfl rfl rfl rfl rfl (Nat.le_of_ble_eq_true rfl) ⟨Nat.le_of_ble_eq_true rfl, Nat.le_of_ble_eq_true rfl, Nat.le_of_ble_eq_true rfl, Nat.le_of_ble_eq_true rfl⟩ dX9_wouldGo_57 ?_
        refine j_heap (h' := xput D h b (xst S 2 ((sLD (S.1 0) p s d).2))) (xput_st (i := 2) (by decide)).symm ?_
        exact j_iret X hr rfl (by subst ev1; first | with_reducible rfl | (simp only [xWouldGo, if_neg c_4, if_neg c_13, if_neg c_20]; done) | (simp only [xWouldGo, if_neg c_4, if_neg c_13, if_neg c_20]; rfl) | rfl) rfl (by subst ev1; first | with_reducible rfl | (simp only [xWouldGo, if_neg c_4, if_neg c_13, if_neg c_20]; done) | (simp only [xWouldGo, if_neg c_4, if_neg c_13, if_neg c_20]; rfl) | rfl) dX9_wouldGo_60
      · refine j_bipush X (v := (-2)) dX9_wouldGo_23 (by decide) ?_
        exact j_iret X hr rfl (by first | with_reducible rfl | (simp only [xWouldGo, if_neg c_4, if_neg c_13, if_pos c_20]; done) | (simp only [xWouldGo, if_neg c_4, if_neg c_13, if_pos c_20]; rfl) | rfl) rfl (by first | with_reducible rfl | (simp only [xWouldGo, if_neg c_4, if_neg c_13, if_pos c_20]; done) | (simp only [xWouldGo, if_neg c_4, if_neg c_13, if_pos c_20]; rfl) | rfl) dX9_wouldGo_25
  · refine j_iconst X (v := (-1)) dX9_wouldGo_7 (by decide) ?_
    exact j_iret X hr rfl (by first | with_reducible rfl | (simp only [xWouldGo, if_pos c_4]; done) | (simp only [xWouldGo, if_pos c_4]; rfl) | rfl) rfl (by first | with_reducible rfl | (simp only [xWouldGo, if_pos c_4]; done) | (simp only [xWouldGo, if_pos c_4]; rfl) | rfl) dX9_wouldGo_8
set_option maxRecDepth 100000 in
set_option maxHeartbeats 8000000 in
theorem c_X9_loops (l : Launch) {D : DD} {B z : Nat} {h : HF} {b : Nat} {S : Sy}  : CT l yX9_loops cX9_loops 5 (some .int) 3 64 [.ref b] D B z (xput D h b S) (some (.int (xLoopK (S.1 0) 8))) 0 0 (xput D h b S) := by
  refine CT.of (L := [(0, .ref b)]) (by decide +kernel) (Nat.le_of_ble_eq_true rfl) rfl ?_
  intro P E S0 M0 AR BL ME CO X hr hnm
  refine j_aload_n X 0 dX9_loops_0 rfl rfl ?_
  refine j_get X fG_RX9_10 xput_0 rfl rfl dX9_loops_1 ?_
  refine j_getN X fN_RX9_47 (xput_k 1 (by decide)) rfl rfl dX9_loops_4 ?_
  refine j_heap (h' := hput D (xput D h b S) (b + 1) (S.1 0)) (xput_st (i := 0) (by decide)) ?_
  refine j_callVi X (rest := []) (c_X3_openOnes l) m_yX3_openOnes kM_RX9_68 (hput_k 3 (by decide)) rfl rfl rfl rfl rfl (Nat.le_of_ble_eq_true rfl) ⟨Nat.le_of_ble_eq_true rfl, Nat.le_of_ble_eq_true rfl, Nat.le_of_ble_eq_true rfl, Nat.le_of_ble_eq_true rfl⟩ dX9_loops_7 ?_
  refine j_heap (h' := xput D h b S) (xput_st (i := 0) (by decide)).symm ?_
  refine j_tops (fun v1 ev1 => ?_)
  refine j_istore_n X (L' := [(1, .int v1), (0, .ref b)]) dX9_loops_10 rfl (by decide) rfl ?_
  refine j_iconst X (v := 0) dX9_loops_11 (by decide) ?_
  refine j_istore_n X (L' := [(2, .int 0), (1, .int v1), (0, .ref b)]) dX9_loops_12 rfl (by decide) rfl ?_
  refine j_iconst X (v := 0) dX9_loops_13 (by decide) ?_
  refine j_istore_n X (L' := [(3, .int 0), (2, .int 0), (1, .int v1), (0, .ref b)]) dX9_loops_14 rfl (by decide) rfl ?_
  have loop15 : ∀ (n k : Nat), k + n = 8 → J P l E { frames := 3, cells := 0, slots := 0, locals := 64 } S0 M0 AR BL ME CO D B 5 (MQ BL (QC (some (.int (xLoopK (S.1 0) 8))) D B (z + 0) (xput D h b S)) AR S0 0 0 (aB B)) 0 0 z (xput D h b S) [(0, .ref b), (1, .int v1), (2, .int (xLoopK (S.1 0) k)), (3, .int (nI k))] [] 15 := by
    intro n
    induction n with
    | zero =>
      intro k hk
      obtain rfl : k = 8 := by omega
      refine j_iload_n X 3 dX9_loops_15 rfl rfl ?_
      refine j_bipush X (v := 8) dX9_loops_16 (by decide) ?_
      refine j_icmp_ge X (tgt := 72) dX9_loops_18 (by decide) (fun c_18 => ?_) (fun c_18 => absurd c_18 (by decide))
      refine j_iload_n X 2 dX9_loops_72 rfl rfl ?_
      exact j_iret X hr rfl (by subst ev1; first | with_reducible rfl | (simp only [if_neg c_18]; done) | (simp only [if_neg c_18]; rfl) | rfl) rfl (by subst ev1; first | with_reducible rfl | (simp only [if_neg c_18]; done) | (simp only [if_neg c_18]; rfl) | rfl) dX9_loops_73
    | succ n ih =>
      intro k hk
      have hlt : nI k < 8 := nlt_lit (b := 8) (by omega) (by decide)
      refine j_iload_n X 3 dX9_loops_15 rfl rfl ?_
      refine j_bipush X (v := 8) dX9_loops_16 (by decide) ?_
      refine j_icmp_ge X (tgt := 72) dX9_loops_18 (by decide) (fun c_18 => absurd hlt c_18) (fun c_18 => ?_)
      refine j_aload_n X 0 dX9_loops_21 rfl rfl ?_
      refine j_get X fG_RX9_10 xput_0 rfl rfl dX9_loops_22 ?_
      refine j_getN X fN_RX9_47 (xput_k 1 (by decide)) rfl rfl dX9_loops_25 ?_
      refine j_iload_n X 3 dX9_loops_28 rfl rfl ?_
      refine j_heap (h' := hput D (xput D h b S) (b + 1) (S.1 0)) (xput_st (i := 0) (by decide)) ?_
      refine j_callVi X (rest := []) (c_X3_farEnd l) m_yX3_farEnd kM_RX9_78 (hput_k 3 (by decide)) rfl rfl rfl rfl rfl (Nat.le_of_ble_eq_true rfl) ⟨Nat.le_of_ble_eq_true rfl, Nat.le_of_ble_eq_true rfl, Nat.le_of_ble_eq_true rfl, Nat.le_of_ble_eq_true rfl⟩ dX9_loops_29 ?_
      refine j_heap (h' := xput D h b S) (xput_st (i := 0) (by decide)).symm ?_
      refine j_tops (fun v2 ev2 => ?_)
      refine j_istore X (L' := [(4, .int v2), (0, .ref b), (1, .int v1), (2, .int (xLoopK (S.1 0) k)), (3, .int (nI k))]) dX9_loops_32 (by decide) rfl ?_
      refine j_iload X 0 dX9_loops_34 rfl ?_
      refine j_bipush X (v := (-4)) dX9_loops_36 (by decide) ?_
      refine j_icmp_eq X (tgt := 66) dX9_loops_38 (by decide) (fun c_38 => ?_) (fun c_38 => ?_)
      · obtain ⟨v3, ev3⟩ : ∃ y : Int32, (nI k) + 1 = y := ⟨_, rfl⟩
        refine j_iinc X 4 (k := 1) (v := v3) (L' := [(3, .int v3), (4, .int v2), (0, .ref b), (1, .int v1), (2, .int (xLoopK (S.1 0) k))]) dX9_loops_66 rfl (by decide) (by decide) ev3 rfl ?_
        refine j_goto X (tgt := 15) dX9_loops_69 (by decide) ?_
        refine j_sub [2, 3, 4, 0] (L' := [(0, .ref b), (1, .int v1), (2, .int (xLoopK (S.1 0) (k + 1))), (3, .int (nI (k + 1)))]) (by subst ev3 ev2 ev1; first | with_reducible rfl | (simp only [xLoopK, nI_succ k, if_pos c_18, if_pos c_38]; done) | (simp only [xLoopK, nI_succ k, if_pos c_18, if_pos c_38]; rfl) | rfl) ?_
        exact ih (k + 1) (by omega)
      · refine j_iload_n X 2 dX9_loops_41 rfl rfl ?_
        refine j_iload_n X 4 dX9_loops_42 rfl rfl ?_
        refine j_ishr X dX9_loops_43 ?_
        refine j_iconst X (v := 1) dX9_loops_44 (by decide) ?_
        refine j_iand X dX9_loops_45 ?_
        refine j_iconst X (v := 1) dX9_loops_46 (by decide) ?_
        refine j_icmp_ne X (tgt := 66) dX9_loops_47 (by decide) (fun c_47 => ?_) (fun c_47 => ?_)
        · obtain ⟨v4, ev4⟩ : ∃ y : Int32, (nI k) + 1 = y := ⟨_, rfl⟩
          refine j_iinc X 4 (k := 1) (v := v4) (L' := [(3, .int v4), (4, .int v2), (0, .ref b), (1, .int v1), (2, .int (xLoopK (S.1 0) k))]) dX9_loops_66 rfl (by decide) (by decide) ev4 rfl ?_
          refine j_goto X (tgt := 15) dX9_loops_69 (by decide) ?_
          refine j_sub [2, 3, 4, 0] (L' := [(0, .ref b), (1, .int v1), (2, .int (xLoopK (S.1 0) (k + 1))), (3, .int (nI (k + 1)))]) (by subst ev4 ev2 ev1; first | with_reducible rfl | (simp only [xLoopK, nI_succ k, if_pos c_18, if_neg c_38, if_neg c_47]; done) | (simp only [xLoopK, nI_succ k, if_pos c_18, if_neg c_38, if_neg c_47]; rfl) | rfl) ?_
          exact ih (k + 1) (by omega)
        · refine j_iload_n X 2 dX9_loops_50 rfl rfl ?_
          refine j_iload X 0 dX9_loops_51 rfl ?_
          refine j_ishr X dX9_loops_53 ?_
          refine j_iconst X (v := 1) dX9_loops_54 (by decide) ?_
          refine j_iand X dX9_loops_55 ?_
          refine j_iconst X (v := 1) dX9_loops_56 (by decide) ?_
          refine j_icmp_ne X (tgt := 66) dX9_loops_57 (by decide) (fun c_57 => ?_) (fun c_57 => ?_)
          · obtain ⟨v5, ev5⟩ : ∃ y : Int32, (nI k) + 1 = y := ⟨_, rfl⟩
            refine j_iinc X 4 (k := 1) (v := v5) (L' := [(3, .int v5), (4, .int v2), (0, .ref b), (1, .int v1), (2, .int (xLoopK (S.1 0) k))]) dX9_loops_66 rfl (by decide) (by decide) ev5 rfl ?_
            refine j_goto X (tgt := 15) dX9_loops_69 (by decide) ?_
            refine j_sub [2, 3, 4, 0] (L' := [(0, .ref b), (1, .int v1), (2, .int (xLoopK (S.1 0) (k + 1))), (3, .int (nI (k + 1)))]) (by subst ev5 ev2 ev1; first | with_reducible rfl | (simp only [xLoopK, nI_succ k, if_pos c_18, if_neg c_38, if_pos c_47, if_neg c_57]; done) | (simp only [xLoopK, nI_succ k, if_pos c_18, if_neg c_38, if_pos c_47, if_neg c_57]; rfl) | rfl) ?_
            exact ih (k + 1) (by omega)
          · refine j_iload_n X 3 dX9_loops_60 rfl rfl ?_
            refine j_iconst X (v := 1) dX9_loops_61 (by decide) ?_
            refine j_iload_n X 4 dX9_loops_62 rfl rfl ?_
            refine j_ishl X dX9_loops_63 ?_
            refine j_ior X dX9_loops_64 ?_
            refine j_tops (fun v6 ev6 => ?_)
            refine j_istore_n X (L' := [(2, .int v6), (4, .int v2), (0, .ref b), (1, .int v1), (3, .int (nI k))]) dX9_loops_65 rfl (by decide) rfl ?_
            obtain ⟨v7, ev7⟩ : ∃ y : Int32, (nI k) + 1 = y := ⟨_, rfl⟩
            refine j_iinc X 4 (k := 1) (v := v7) (L' := [(3, .int v7), (2, .int v6), (4, .int v2), (0, .ref b), (1, .int v1)]) dX9_loops_66 rfl (by decide) (by decide) ev7 rfl ?_
            refine j_goto X (tgt := 15) dX9_loops_69 (by decide) ?_
            refine j_sub [3, 4, 1, 0] (L' := [(0, .ref b), (1, .int v1), (2, .int (xLoopK (S.1 0) (k + 1))), (3, .int (nI (k + 1)))]) (by subst ev7 ev6 ev2 ev1; first | with_reducible rfl | (simp only [xLoopK, nI_succ k, if_pos c_18, if_neg c_38, if_pos c_47, if_pos c_57]; done) | (simp only [xLoopK, nI_succ k, if_pos c_18, if_neg c_38, if_pos c_47, if_pos c_57]; rfl) | rfl) ?_
            exact ih (k + 1) (by omega)
  refine j_sub [3, 2, 1, 0] (L' := [(0, .ref b), (1, .int v1), (2, .int (xLoopK (S.1 0) 0)), (3, .int (nI 0))]) (by subst ev1; first | with_reducible rfl | (simp only [xLoopK]; done) | (simp only [xLoopK]; rfl) | rfl) ?_
  exact loop15 8 0 rfl
set_option maxRecDepth 100000 in
set_option maxHeartbeats 8000000 in
theorem c_X9_count (l : Launch) {D : DD} {B z : Nat} {h : HF} {b : Nat} {S : Sy} {w : Int32}  : CT l yX9_count cX9_count 2 (some .int) 3 65 [.ref b, .int w] D B z (xput D h b S) (some (.int (xCount S w))) 0 0 (xput D h b S) := by
  refine CT.of (L := [(0, .ref b), (1, .int w)]) (by decide +kernel) (Nat.le_of_ble_eq_true rfl) rfl ?_
  intro P E S0 M0 AR BL ME CO X hr hnm
  refine j_iload_n X 1 dX9_count_0 rfl rfl ?_
  by_cases w1_0 : w = 0
  · refine j_tableIn X (tgt := 76) (off := 75) dX9_count_1 (by rw [w1_0]; decide) (by rw [w1_0]; decide) (by rw [w1_0]; rfl) (by decide) ?_
    refine j_aload_n X 0 dX9_count_76 rfl rfl ?_
    refine j_get X fG_RX9_10 xput_0 rfl rfl dX9_count_77 ?_
    refine j_getN X fN_RX9_104 (xput_k 1 (by decide)) rfl rfl dX9_count_80 ?_
    refine j_iload_n X 1 dX9_count_83 rfl rfl ?_
    refine j_heap (h' := hput D (xput D h b S) (b + 1) (S.1 0)) (xput_st (i := 0) (by decide)) ?_
    refine j_callVi X (rest := []) (s_at0 l) m_yX5_at kM_RX9_108 (hput_k 1 (by decide)) rfl rfl rfl rfl rfl (Nat.le_of_ble_eq_true rfl) ⟨Nat.le_of_ble_eq_true rfl, Nat.le_of_ble_eq_true rfl, Nat.le_of_ble_eq_true rfl, Nat.le_of_ble_eq_true rfl⟩ dX9_count_84 ?_
    refine j_heap (h' := xput D h b S) (xput_st (i := 0) (by decide)).symm ?_
    exact j_iret X hr rfl (by first | with_reducible rfl | (simp only [xCount, if_pos w1_0]; done) | (simp only [xCount, if_pos w1_0]; rfl) | rfl) rfl (by first | with_reducible rfl | (simp only [xCount, if_pos w1_0]; done) | (simp only [xCount, if_pos w1_0]; rfl) | rfl) dX9_count_87
  by_cases w1_1 : w = 1
  · refine j_tableIn X (tgt := 76) (off := 75) dX9_count_1 (by rw [w1_1]; decide) (by rw [w1_1]; decide) (by rw [w1_1]; rfl) (by decide) ?_
    refine j_aload_n X 0 dX9_count_76 rfl rfl ?_
    refine j_get X fG_RX9_10 xput_0 rfl rfl dX9_count_77 ?_
    refine j_getN X fN_RX9_104 (xput_k 1 (by decide)) rfl rfl dX9_count_80 ?_
    refine j_iload_n X 1 dX9_count_83 rfl rfl ?_
    refine j_heap (h' := hput D (xput D h b S) (b + 1) (S.1 0)) (xput_st (i := 0) (by decide)) ?_
    refine j_callVi X (rest := []) (s_at0 l) m_yX5_at kM_RX9_108 (hput_k 1 (by decide)) rfl rfl rfl rfl rfl (Nat.le_of_ble_eq_true rfl) ⟨Nat.le_of_ble_eq_true rfl, Nat.le_of_ble_eq_true rfl, Nat.le_of_ble_eq_true rfl, Nat.le_of_ble_eq_true rfl⟩ dX9_count_84 ?_
    refine j_heap (h' := xput D h b S) (xput_st (i := 0) (by decide)).symm ?_
    exact j_iret X hr rfl (by first | with_reducible rfl | (simp only [xCount, if_neg w1_0, if_pos w1_1]; done) | (simp only [xCount, if_neg w1_0, if_pos w1_1]; rfl) | rfl) rfl (by first | with_reducible rfl | (simp only [xCount, if_neg w1_0, if_pos w1_1]; done) | (simp only [xCount, if_neg w1_0, if_pos w1_1]; rfl) | rfl) dX9_count_87
  by_cases w1_2 : w = 2
  · refine j_tableIn X (tgt := 76) (off := 75) dX9_count_1 (by rw [w1_2]; decide) (by rw [w1_2]; decide) (by rw [w1_2]; rfl) (by decide) ?_
    refine j_aload_n X 0 dX9_count_76 rfl rfl ?_
    refine j_get X fG_RX9_10 xput_0 rfl rfl dX9_count_77 ?_
    refine j_getN X fN_RX9_104 (xput_k 1 (by decide)) rfl rfl dX9_count_80 ?_
    refine j_iload_n X 1 dX9_count_83 rfl rfl ?_
    refine j_heap (h' := hput D (xput D h b S) (b + 1) (S.1 0)) (xput_st (i := 0) (by decide)) ?_
    refine j_callVi X (rest := []) (s_at0 l) m_yX5_at kM_RX9_108 (hput_k 1 (by decide)) rfl rfl rfl rfl rfl (Nat.le_of_ble_eq_true rfl) ⟨Nat.le_of_ble_eq_true rfl, Nat.le_of_ble_eq_true rfl, Nat.le_of_ble_eq_true rfl, Nat.le_of_ble_eq_true rfl⟩ dX9_count_84 ?_
    refine j_heap (h' := xput D h b S) (xput_st (i := 0) (by decide)).symm ?_
    exact j_iret X hr rfl (by first | with_reducible rfl | (simp only [xCount, if_neg w1_0, if_neg w1_1, if_pos w1_2]; done) | (simp only [xCount, if_neg w1_0, if_neg w1_1, if_pos w1_2]; rfl) | rfl) rfl (by first | with_reducible rfl | (simp only [xCount, if_neg w1_0, if_neg w1_1, if_pos w1_2]; done) | (simp only [xCount, if_neg w1_0, if_neg w1_1, if_pos w1_2]; rfl) | rfl) dX9_count_87
  by_cases w1_3 : w = 3
  · refine j_tableIn X (tgt := 76) (off := 75) dX9_count_1 (by rw [w1_3]; decide) (by rw [w1_3]; decide) (by rw [w1_3]; rfl) (by decide) ?_
    refine j_aload_n X 0 dX9_count_76 rfl rfl ?_
    refine j_get X fG_RX9_10 xput_0 rfl rfl dX9_count_77 ?_
    refine j_getN X fN_RX9_104 (xput_k 1 (by decide)) rfl rfl dX9_count_80 ?_
    refine j_iload_n X 1 dX9_count_83 rfl rfl ?_
    refine j_heap (h' := hput D (xput D h b S) (b + 1) (S.1 0)) (xput_st (i := 0) (by decide)) ?_
    refine j_callVi X (rest := []) (s_at0 l) m_yX5_at kM_RX9_108 (hput_k 1 (by decide)) rfl rfl rfl rfl rfl (Nat.le_of_ble_eq_true rfl) ⟨Nat.le_of_ble_eq_true rfl, Nat.le_of_ble_eq_true rfl, Nat.le_of_ble_eq_true rfl, Nat.le_of_ble_eq_true rfl⟩ dX9_count_84 ?_
    refine j_heap (h' := xput D h b S) (xput_st (i := 0) (by decide)).symm ?_
    exact j_iret X hr rfl (by first | with_reducible rfl | (simp only [xCount, if_neg w1_0, if_neg w1_1, if_neg w1_2, if_pos w1_3]; done) | (simp only [xCount, if_neg w1_0, if_neg w1_1, if_neg w1_2, if_pos w1_3]; rfl) | rfl) rfl (by first | with_reducible rfl | (simp only [xCount, if_neg w1_0, if_neg w1_1, if_neg w1_2, if_pos w1_3]; done) | (simp only [xCount, if_neg w1_0, if_neg w1_1, if_neg w1_2, if_pos w1_3]; rfl) | rfl) dX9_count_87
  by_cases w1_4 : w = 4
  · refine j_tableIn X (tgt := 88) (off := 87) dX9_count_1 (by rw [w1_4]; decide) (by rw [w1_4]; decide) (by rw [w1_4]; rfl) (by decide) ?_
    refine j_aload_n X 0 dX9_count_88 rfl rfl ?_
    refine j_get X fG_RX9_10 xput_0 rfl rfl dX9_count_89 ?_
    refine j_getN X fN_RX9_173 (xput_k 1 (by decide)) rfl rfl dX9_count_92 ?_
    exact j_iret X hr rfl (by first | with_reducible rfl | (simp only [xCount, if_neg w1_0, if_neg w1_1, if_neg w1_2, if_neg w1_3, if_pos w1_4]; done) | (simp only [xCount, if_neg w1_0, if_neg w1_1, if_neg w1_2, if_neg w1_3, if_pos w1_4]; rfl) | rfl) rfl (by first | with_reducible rfl | (simp only [xCount, if_neg w1_0, if_neg w1_1, if_neg w1_2, if_neg w1_3, if_pos w1_4]; done) | (simp only [xCount, if_neg w1_0, if_neg w1_1, if_neg w1_2, if_neg w1_3, if_pos w1_4]; rfl) | rfl) dX9_count_95
  by_cases w1_5 : w = 5
  · refine j_tableIn X (tgt := 96) (off := 95) dX9_count_1 (by rw [w1_5]; decide) (by rw [w1_5]; decide) (by rw [w1_5]; rfl) (by decide) ?_
    refine j_aload_n X 0 dX9_count_96 rfl rfl ?_
    refine j_get X fG_RX9_10 xput_0 rfl rfl dX9_count_97 ?_
    refine j_getN X fN_RX9_126 (xput_k 1 (by decide)) rfl rfl dX9_count_100 ?_
    refine j_getN X fN_RX9_201 (xput_k 22 (by decide)) rfl rfl dX9_count_103 ?_
    exact j_iret X hr rfl (by first | with_reducible rfl | (simp only [xCount, if_neg w1_0, if_neg w1_1, if_neg w1_2, if_neg w1_3, if_neg w1_4, if_pos w1_5]; done) | (simp only [xCount, if_neg w1_0, if_neg w1_1, if_neg w1_2, if_neg w1_3, if_neg w1_4, if_pos w1_5]; rfl) | rfl) rfl (by first | with_reducible rfl | (simp only [xCount, if_neg w1_0, if_neg w1_1, if_neg w1_2, if_neg w1_3, if_neg w1_4, if_pos w1_5]; done) | (simp only [xCount, if_neg w1_0, if_neg w1_1, if_neg w1_2, if_neg w1_3, if_neg w1_4, if_pos w1_5]; rfl) | rfl) dX9_count_106
  by_cases w1_6 : w = 6
  · refine j_tableIn X (tgt := 107) (off := 106) dX9_count_1 (by rw [w1_6]; decide) (by rw [w1_6]; decide) (by rw [w1_6]; rfl) (by decide) ?_
    refine j_aload_n X 0 dX9_count_107 rfl rfl ?_
    refine j_get X fG_RX9_10 xput_0 rfl rfl dX9_count_108 ?_
    refine j_getN X fN_RX9_47 (xput_k 1 (by decide)) rfl rfl dX9_count_111 ?_
    refine j_heap (h' := hput D (xput D h b S) (b + 1) (S.1 0)) (xput_st (i := 0) (by decide)) ?_
    refine j_callVi X (rest := []) (c_X3_openOnes l) m_yX3_openOnes kM_RX9_68 (hput_k 3 (by decide)) rfl rfl rfl rfl rfl (Nat.le_of_ble_eq_true rfl) ⟨Nat.le_of_ble_eq_true rfl, Nat.le_of_ble_eq_true rfl, Nat.le_of_ble_eq_true rfl, Nat.le_of_ble_eq_true rfl⟩ dX9_count_114 ?_
    refine j_heap (h' := xput D h b S) (xput_st (i := 0) (by decide)).symm ?_
    refine j_callSi X (rest := []) (c_J6_bitCount_0f7a4 l) m_yJ6_bitCount_0f7a4 kM_RX9_72 rfl rfl (Nat.le_of_ble_eq_true rfl) ⟨Nat.le_of_ble_eq_true rfl, Nat.le_of_ble_eq_true rfl, Nat.le_of_ble_eq_true rfl, Nat.le_of_ble_eq_true rfl⟩ dX9_count_117 ?_
    exact j_iret X hr rfl (by first | with_reducible rfl | (simp only [xCount, if_neg w1_0, if_neg w1_1, if_neg w1_2, if_neg w1_3, if_neg w1_4, if_neg w1_5, if_pos w1_6]; done) | (simp only [xCount, if_neg w1_0, if_neg w1_1, if_neg w1_2, if_neg w1_3, if_neg w1_4, if_neg w1_5, if_pos w1_6]; rfl) | rfl) rfl (by first | with_reducible rfl | (simp only [xCount, if_neg w1_0, if_neg w1_1, if_neg w1_2, if_neg w1_3, if_neg w1_4, if_neg w1_5, if_pos w1_6]; done) | (simp only [xCount, if_neg w1_0, if_neg w1_1, if_neg w1_2, if_neg w1_3, if_neg w1_4, if_neg w1_5, if_pos w1_6]; rfl) | rfl) dX9_count_120
  by_cases w1_7 : w = 7
  · refine j_tableIn X (tgt := 121) (off := 120) dX9_count_1 (by rw [w1_7]; decide) (by rw [w1_7]; decide) (by rw [w1_7]; rfl) (by decide) ?_
    refine j_aload_n X 0 dX9_count_121 rfl rfl ?_
    refine j_get X fG_RX9_10 xput_0 rfl rfl dX9_count_122 ?_
    refine j_getN X fN_RX9_47 (xput_k 1 (by decide)) rfl rfl dX9_count_125 ?_
    refine j_heap (h' := hput D (xput D h b S) (b + 1) (S.1 0)) (xput_st (i := 0) (by decide)) ?_
    refine j_callVi X (rest := []) (c_X3_quarantined l) m_yX3_quarantined kM_RX9_227 (hput_k 3 (by decide)) rfl rfl rfl rfl rfl (Nat.le_of_ble_eq_true rfl) ⟨Nat.le_of_ble_eq_true rfl, Nat.le_of_ble_eq_true rfl, Nat.le_of_ble_eq_true rfl, Nat.le_of_ble_eq_true rfl⟩ dX9_count_128 ?_
    refine j_heap (h' := xput D h b S) (xput_st (i := 0) (by decide)).symm ?_
    exact j_iret X hr rfl (by first | with_reducible rfl | (simp only [xCount, if_neg w1_0, if_neg w1_1, if_neg w1_2, if_neg w1_3, if_neg w1_4, if_neg w1_5, if_neg w1_6, if_pos w1_7]; done) | (simp only [xCount, if_neg w1_0, if_neg w1_1, if_neg w1_2, if_neg w1_3, if_neg w1_4, if_neg w1_5, if_neg w1_6, if_pos w1_7]; rfl) | rfl) rfl (by first | with_reducible rfl | (simp only [xCount, if_neg w1_0, if_neg w1_1, if_neg w1_2, if_neg w1_3, if_neg w1_4, if_neg w1_5, if_neg w1_6, if_pos w1_7]; done) | (simp only [xCount, if_neg w1_0, if_neg w1_1, if_neg w1_2, if_neg w1_3, if_neg w1_4, if_neg w1_5, if_neg w1_6, if_pos w1_7]; rfl) | rfl) dX9_count_131
  by_cases w1_8 : w = 8
  · refine j_tableIn X (tgt := 132) (off := 131) dX9_count_1 (by rw [w1_8]; decide) (by rw [w1_8]; decide) (by rw [w1_8]; rfl) (by decide) ?_
    refine j_aload_n X 0 dX9_count_132 rfl rfl ?_
    refine j_get X fG_RX9_10 xput_0 rfl rfl dX9_count_133 ?_
    refine j_getN X fN_RX9_47 (xput_k 1 (by decide)) rfl rfl dX9_count_136 ?_
    refine j_heap (h' := hput D (xput D h b S) (b + 1) (S.1 0)) (xput_st (i := 0) (by decide)) ?_
    refine j_callVi X (rest := []) (c_X3_cables l) m_yX3_cables kM_RX9_85 (hput_k 3 (by decide)) rfl rfl rfl rfl rfl (Nat.le_of_ble_eq_true rfl) ⟨Nat.le_of_ble_eq_true rfl, Nat.le_of_ble_eq_true rfl, Nat.le_of_ble_eq_true rfl, Nat.le_of_ble_eq_true rfl⟩ dX9_count_139 ?_
    refine j_heap (h' := xput D h b S) (xput_st (i := 0) (by decide)).symm ?_
    exact j_iret X hr rfl (by first | with_reducible rfl | (simp only [xCount, if_neg w1_0, if_neg w1_1, if_neg w1_2, if_neg w1_3, if_neg w1_4, if_neg w1_5, if_neg w1_6, if_neg w1_7, if_pos w1_8]; done) | (simp only [xCount, if_neg w1_0, if_neg w1_1, if_neg w1_2, if_neg w1_3, if_neg w1_4, if_neg w1_5, if_neg w1_6, if_neg w1_7, if_pos w1_8]; rfl) | rfl) rfl (by first | with_reducible rfl | (simp only [xCount, if_neg w1_0, if_neg w1_1, if_neg w1_2, if_neg w1_3, if_neg w1_4, if_neg w1_5, if_neg w1_6, if_neg w1_7, if_pos w1_8]; done) | (simp only [xCount, if_neg w1_0, if_neg w1_1, if_neg w1_2, if_neg w1_3, if_neg w1_4, if_neg w1_5, if_neg w1_6, if_neg w1_7, if_pos w1_8]; rfl) | rfl) dX9_count_142
  by_cases w1_9 : w = 9
  · refine j_tableIn X (tgt := 143) (off := 142) dX9_count_1 (by rw [w1_9]; decide) (by rw [w1_9]; decide) (by rw [w1_9]; rfl) (by decide) ?_
    refine j_aload_n X 0 dX9_count_143 rfl rfl ?_
    refine j_get X fG_RX9_10 xput_0 rfl rfl dX9_count_144 ?_
    refine j_getN X fN_RX9_182 (xput_k 1 (by decide)) rfl rfl dX9_count_147 ?_
    refine j_getN X fN_RX9_186 (xput_k 17 (by decide)) rfl rfl dX9_count_150 ?_
    refine j_heap (h' := hput D (xput D h b S) (b + 1) (S.1 0)) (xput_st (i := 0) (by decide)) ?_
    refine j_callVi X (rest := []) (s_sum7 l) m_yX5_sum kM_RX9_230 (hput_k 17 (by decide)) rfl rfl rfl rfl rfl (Nat.le_of_ble_eq_true rfl) ⟨Nat.le_of_ble_eq_true rfl, Nat.le_of_ble_eq_true rfl, Nat.le_of_ble_eq_true rfl, Nat.le_of_ble_eq_true rfl⟩ dX9_count_153 ?_
    refine j_heap (h' := xput D h b S) (xput_st (i := 0) (by decide)).symm ?_
    exact j_iret X hr rfl (by first | with_reducible rfl | (simp only [xCount, if_neg w1_0, if_neg w1_1, if_neg w1_2, if_neg w1_3, if_neg w1_4, if_neg w1_5, if_neg w1_6, if_neg w1_7, if_neg w1_8, if_pos w1_9]; done) | (simp only [xCount, if_neg w1_0, if_neg w1_1, if_neg w1_2, if_neg w1_3, if_neg w1_4, if_neg w1_5, if_neg w1_6, if_neg w1_7, if_neg w1_8, if_pos w1_9]; rfl) | rfl) rfl (by first | with_reducible rfl | (simp only [xCount, if_neg w1_0, if_neg w1_1, if_neg w1_2, if_neg w1_3, if_neg w1_4, if_neg w1_5, if_neg w1_6, if_neg w1_7, if_neg w1_8, if_pos w1_9]; done) | (simp only [xCount, if_neg w1_0, if_neg w1_1, if_neg w1_2, if_neg w1_3, if_neg w1_4, if_neg w1_5, if_neg w1_6, if_neg w1_7, if_neg w1_8, if_pos w1_9]; rfl) | rfl) dX9_count_156
  by_cases w1_10 : w = 10
  · refine j_tableIn X (tgt := 157) (off := 156) dX9_count_1 (by rw [w1_10]; decide) (by rw [w1_10]; decide) (by rw [w1_10]; rfl) (by decide) ?_
    refine j_aload_n X 0 dX9_count_157 rfl rfl ?_
    refine j_get X fG_RX9_10 xput_0 rfl rfl dX9_count_158 ?_
    refine j_getN X fN_RX9_47 (xput_k 1 (by decide)) rfl rfl dX9_count_161 ?_
    refine j_heap (h' := hput D (xput D h b S) (b + 1) (S.1 0)) (xput_st (i := 0) (by decide)) ?_
    refine j_callVi X (rest := []) (c_X3_allCameIn l) m_yX3_allCameIn kM_RX9_233 (hput_k 3 (by decide)) rfl rfl rfl rfl rfl (Nat.le_of_ble_eq_true rfl) ⟨Nat.le_of_ble_eq_true rfl, Nat.le_of_ble_eq_true rfl, Nat.le_of_ble_eq_true rfl, Nat.le_of_ble_eq_true rfl⟩ dX9_count_164 ?_
    refine j_heap (h' := xput D h b S) (xput_st (i := 0) (by decide)).symm ?_
    exact j_iret X hr rfl (by first | with_reducible rfl | (simp only [xCount, if_neg w1_0, if_neg w1_1, if_neg w1_2, if_neg w1_3, if_neg w1_4, if_neg w1_5, if_neg w1_6, if_neg w1_7, if_neg w1_8, if_neg w1_9, if_pos w1_10]; done) | (simp only [xCount, if_neg w1_0, if_neg w1_1, if_neg w1_2, if_neg w1_3, if_neg w1_4, if_neg w1_5, if_neg w1_6, if_neg w1_7, if_neg w1_8, if_neg w1_9, if_pos w1_10]; rfl) | rfl) rfl (by first | with_reducible rfl | (simp only [xCount, if_neg w1_0, if_neg w1_1, if_neg w1_2, if_neg w1_3, if_neg w1_4, if_neg w1_5, if_neg w1_6, if_neg w1_7, if_neg w1_8, if_neg w1_9, if_pos w1_10]; done) | (simp only [xCount, if_neg w1_0, if_neg w1_1, if_neg w1_2, if_neg w1_3, if_neg w1_4, if_neg w1_5, if_neg w1_6, if_neg w1_7, if_neg w1_8, if_neg w1_9, if_pos w1_10]; rfl) | rfl) dX9_count_167
  by_cases w1_11 : w = 11
  · refine j_tableIn X (tgt := 168) (off := 167) dX9_count_1 (by rw [w1_11]; decide) (by rw [w1_11]; decide) (by rw [w1_11]; rfl) (by decide) ?_
    refine j_aload_n X 0 dX9_count_168 rfl rfl ?_
    refine j_get X fG_RX9_10 xput_0 rfl rfl dX9_count_169 ?_
    refine j_getN X fN_RX9_236 (xput_k 1 (by decide)) rfl rfl dX9_count_172 ?_
    exact j_iret X hr rfl (by first | with_reducible rfl | (simp only [xCount, if_neg w1_0, if_neg w1_1, if_neg w1_2, if_neg w1_3, if_neg w1_4, if_neg w1_5, if_neg w1_6, if_neg w1_7, if_neg w1_8, if_neg w1_9, if_neg w1_10, if_pos w1_11]; done) | (simp only [xCount, if_neg w1_0, if_neg w1_1, if_neg w1_2, if_neg w1_3, if_neg w1_4, if_neg w1_5, if_neg w1_6, if_neg w1_7, if_neg w1_8, if_neg w1_9, if_neg w1_10, if_pos w1_11]; rfl) | rfl) rfl (by first | with_reducible rfl | (simp only [xCount, if_neg w1_0, if_neg w1_1, if_neg w1_2, if_neg w1_3, if_neg w1_4, if_neg w1_5, if_neg w1_6, if_neg w1_7, if_neg w1_8, if_neg w1_9, if_neg w1_10, if_pos w1_11]; done) | (simp only [xCount, if_neg w1_0, if_neg w1_1, if_neg w1_2, if_neg w1_3, if_neg w1_4, if_neg w1_5, if_neg w1_6, if_neg w1_7, if_neg w1_8, if_neg w1_9, if_neg w1_10, if_pos w1_11]; rfl) | rfl) dX9_count_175
  by_cases w1_12 : w = 12
  · refine j_tableIn X (tgt := 176) (off := 175) dX9_count_1 (by rw [w1_12]; decide) (by rw [w1_12]; decide) (by rw [w1_12]; rfl) (by decide) ?_
    refine j_aload_n X 0 dX9_count_176 rfl rfl ?_
    refine j_get X fG_RX9_10 xput_0 rfl rfl dX9_count_177 ?_
    refine j_getN X fN_RX9_239 (xput_k 1 (by decide)) rfl rfl dX9_count_180 ?_
    exact j_iret X hr rfl (by first | with_reducible rfl | (simp only [xCount, if_neg w1_0, if_neg w1_1, if_neg w1_2, if_neg w1_3, if_neg w1_4, if_neg w1_5, if_neg w1_6, if_neg w1_7, if_neg w1_8, if_neg w1_9, if_neg w1_10, if_neg w1_11, if_pos w1_12]; done) | (simp only [xCount, if_neg w1_0, if_neg w1_1, if_neg w1_2, if_neg w1_3, if_neg w1_4, if_neg w1_5, if_neg w1_6, if_neg w1_7, if_neg w1_8, if_neg w1_9, if_neg w1_10, if_neg w1_11, if_pos w1_12]; rfl) | rfl) rfl (by first | with_reducible rfl | (simp only [xCount, if_neg w1_0, if_neg w1_1, if_neg w1_2, if_neg w1_3, if_neg w1_4, if_neg w1_5, if_neg w1_6, if_neg w1_7, if_neg w1_8, if_neg w1_9, if_neg w1_10, if_neg w1_11, if_pos w1_12]; done) | (simp only [xCount, if_neg w1_0, if_neg w1_1, if_neg w1_2, if_neg w1_3, if_neg w1_4, if_neg w1_5, if_neg w1_6, if_neg w1_7, if_neg w1_8, if_neg w1_9, if_neg w1_10, if_neg w1_11, if_pos w1_12]; rfl) | rfl) dX9_count_183
  by_cases w1_13 : w = 13
  · refine j_tableIn X (tgt := 184) (off := 183) dX9_count_1 (by rw [w1_13]; decide) (by rw [w1_13]; decide) (by rw [w1_13]; rfl) (by decide) ?_
    refine j_aload_n X 0 dX9_count_184 rfl rfl ?_
    refine j_get X fG_RX9_25 xput_0 rfl rfl dX9_count_185 ?_
    refine j_getN X fN_RX9_163 (xput_k 88 (by decide)) rfl rfl dX9_count_188 ?_
    exact j_iret X hr rfl (by first | with_reducible rfl | (simp only [xCount, if_neg w1_0, if_neg w1_1, if_neg w1_2, if_neg w1_3, if_neg w1_4, if_neg w1_5, if_neg w1_6, if_neg w1_7, if_neg w1_8, if_neg w1_9, if_neg w1_10, if_neg w1_11, if_neg w1_12, if_pos w1_13]; done) | (simp only [xCount, if_neg w1_0, if_neg w1_1, if_neg w1_2, if_neg w1_3, if_neg w1_4, if_neg w1_5, if_neg w1_6, if_neg w1_7, if_neg w1_8, if_neg w1_9, if_neg w1_10, if_neg w1_11, if_neg w1_12, if_pos w1_13]; rfl) | rfl) rfl (by first | with_reducible rfl | (simp only [xCount, if_neg w1_0, if_neg w1_1, if_neg w1_2, if_neg w1_3, if_neg w1_4, if_neg w1_5, if_neg w1_6, if_neg w1_7, if_neg w1_8, if_neg w1_9, if_neg w1_10, if_neg w1_11, if_neg w1_12, if_pos w1_13]; done) | (simp only [xCount, if_neg w1_0, if_neg w1_1, if_neg w1_2, if_neg w1_3, if_neg w1_4, if_neg w1_5, if_neg w1_6, if_neg w1_7, if_neg w1_8, if_neg w1_9, if_neg w1_10, if_neg w1_11, if_neg w1_12, if_pos w1_13]; rfl) | rfl) dX9_count_191
  by_cases w1_14 : w = 14
  · refine j_tableIn X (tgt := 192) (off := 191) dX9_count_1 (by rw [w1_14]; decide) (by rw [w1_14]; decide) (by rw [w1_14]; rfl) (by decide) ?_
    refine j_aload_n X 0 dX9_count_192 rfl rfl ?_
    refine j_get X fG_RX9_32 xput_0 rfl rfl dX9_count_193 ?_
    refine j_getN X fN_RX9_152 (xput_k 206 (by decide)) rfl rfl dX9_count_196 ?_
    exact j_iret X hr rfl (by first | with_reducible rfl | (simp only [xCount, if_neg w1_0, if_neg w1_1, if_neg w1_2, if_neg w1_3, if_neg w1_4, if_neg w1_5, if_neg w1_6, if_neg w1_7, if_neg w1_8, if_neg w1_9, if_neg w1_10, if_neg w1_11, if_neg w1_12, if_neg w1_13, if_pos w1_14]; done) | (simp only [xCount, if_neg w1_0, if_neg w1_1, if_neg w1_2, if_neg w1_3, if_neg w1_4, if_neg w1_5, if_neg w1_6, if_neg w1_7, if_neg w1_8, if_neg w1_9, if_neg w1_10, if_neg w1_11, if_neg w1_12, if_neg w1_13, if_pos w1_14]; rfl) | rfl) rfl (by first | with_reducible rfl | (simp only [xCount, if_neg w1_0, if_neg w1_1, if_neg w1_2, if_neg w1_3, if_neg w1_4, if_neg w1_5, if_neg w1_6, if_neg w1_7, if_neg w1_8, if_neg w1_9, if_neg w1_10, if_neg w1_11, if_neg w1_12, if_neg w1_13, if_pos w1_14]; done) | (simp only [xCount, if_neg w1_0, if_neg w1_1, if_neg w1_2, if_neg w1_3, if_neg w1_4, if_neg w1_5, if_neg w1_6, if_neg w1_7, if_neg w1_8, if_neg w1_9, if_neg w1_10, if_neg w1_11, if_neg w1_12, if_neg w1_13, if_pos w1_14]; rfl) | rfl) dX9_count_199
  refine j_tableOut X (tgt := 200) dX9_count_1 (sw_out 15 (by decide) (fun k hk => lt_n15 (P := fun k => ¬ w = nI k) w1_0 w1_1 w1_2 w1_3 w1_4 w1_5 w1_6 w1_7 w1_8 w1_9 w1_10 w1_11 w1_12 w1_13 w1_14 k hk)) (by decide) ?_
  refine j_bipush X (v := (-2)) dX9_count_200 (by decide) ?_
  exact j_iret X hr rfl (by first | with_reducible rfl | (simp only [xCount, if_neg w1_0, if_neg w1_1, if_neg w1_2, if_neg w1_3, if_neg w1_4, if_neg w1_5, if_neg w1_6, if_neg w1_7, if_neg w1_8, if_neg w1_9, if_neg w1_10, if_neg w1_11, if_neg w1_12, if_neg w1_13, if_neg w1_14]; done) | (simp only [xCount, if_neg w1_0, if_neg w1_1, if_neg w1_2, if_neg w1_3, if_neg w1_4, if_neg w1_5, if_neg w1_6, if_neg w1_7, if_neg w1_8, if_neg w1_9, if_neg w1_10, if_neg w1_11, if_neg w1_12, if_neg w1_13, if_neg w1_14]; rfl) | rfl) rfl (by first | with_reducible rfl | (simp only [xCount, if_neg w1_0, if_neg w1_1, if_neg w1_2, if_neg w1_3, if_neg w1_4, if_neg w1_5, if_neg w1_6, if_neg w1_7, if_neg w1_8, if_neg w1_9, if_neg w1_10, if_neg w1_11, if_neg w1_12, if_neg w1_13, if_neg w1_14]; done) | (simp only [xCount, if_neg w1_0, if_neg w1_1, if_neg w1_2, if_neg w1_3, if_neg w1_4, if_neg w1_5, if_neg w1_6, if_neg w1_7, if_neg w1_8, if_neg w1_9, if_neg w1_10, if_neg w1_11, if_neg w1_12, if_neg w1_13, if_neg w1_14]; rfl) | rfl) dX9_count_202
