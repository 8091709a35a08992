set_option maxRecDepth 100000 in
set_option maxHeartbeats 4000000 in
theorem c_X10_readsFrame (l : Launch) {D : DD} {B z : Nat} {h : HF} {b : Nat} {μ : Mo} (hT : TXv μ) (hR : ∃ r : Nat, r ≤ 12 ∧ μ.1 6 = nI r)  : CT l yX10_readsFrame cX10_readsFrame 2 (some .boolean) 3 66 [.ref b] D B z (mput D h b μ) (some (.int ((mReads μ).1))) 0 0 (mput D h b ((mReads μ).2)) := by
  refine CT.of (L := [(0, .ref b)]) (by decide +kernel) (Nat.le_of_ble_eq_true rfl) rfl ?_
  intro P E S0 M0 AR BL ME CO X hr hnm
  refine j_iconst X (v := 4) dX10_readsFrame_0 (by decide) ?_
  refine j_aload_n X 0 dX10_readsFrame_1 rfl rfl ?_
  refine j_get X fG_RX10_133 mput_0 rfl rfl dX10_readsFrame_2 ?_
  refine j_imul X dX10_readsFrame_5 ?_
  refine j_tops (fun v1 ev1 => ?_)
  refine j_istore_n X (L' := [(1, .int v1), (0, .ref b)]) dX10_readsFrame_6 rfl (by decide) rfl ?_
  refine j_aload_n X 1 dX10_readsFrame_7 rfl rfl ?_
  refine j_get X fG_RX10_29 mput_0 rfl rfl dX10_readsFrame_8 ?_
  refine j_iload_n X 0 dX10_readsFrame_11 rfl rfl ?_
  refine j_aload_n X 1 dX10_readsFrame_12 rfl rfl ?_
  refine j_callVi X (rest := [.int v1, .ref (b + 7)]) (c_X10_address l hT) m_yX10_address kM_RX10_136 mput_0 rfl rfl rfl rfl rfl (Nat.le_of_ble_eq_true rfl) ⟨Nat.le_of_ble_eq_true rfl, Nat.le_of_ble_eq_true rfl, Nat.le_of_ble_eq_true rfl, Nat.le_of_ble_eq_true rfl⟩ dX10_readsFrame_13 ?_
  refine j_stA6 X (by rw [← ev1]; exact in_rf0 hR) dX10_readsFrame_16 ?_
  refine j_aload_n X 1 dX10_readsFrame_17 rfl rfl ?_
  refine j_get X fG_RX10_29 mput_0 rfl rfl dX10_readsFrame_18 ?_
  refine j_iload_n X 0 dX10_readsFrame_21 rfl rfl ?_
  refine j_ldA6 X (by rw [← ev1]; exact in_rf0 hR) dX10_readsFrame_22 ?_
  refine j_bipush X (v := (-4)) dX10_readsFrame_23 (by decide) ?_
  refine j_icmp_eq X (tgt := 37) dX10_readsFrame_25 (by decide) (fun c_25 => ?_) (fun c_25 => ?_)
  · refine j_iconst X (v := 0) dX10_readsFrame_37 (by decide) ?_
    exact j_iret X hr rfl (by subst ev1; first | (rw [mReads, mR1, if_pos c_25]; done) | (rw [mReads, mR1, if_pos c_25]; rfl)) rfl (by subst ev1; first | (rw [mReads, mR1, if_pos c_25]; done) | (rw [mReads, mR1, if_pos c_25]; rfl)) dX10_readsFrame_38
  · refine j_aload_n X 1 dX10_readsFrame_28 rfl rfl ?_
    refine j_bipush X (v := 62) dX10_readsFrame_29 (by decide) ?_
    refine j_callVi X (rest := []) (c_X10_takes l (tx_setA (tx_addr hT))) m_yX10_takes kM_RX10_139 mput_0 rfl rfl rfl rfl rfl (Nat.le_of_ble_eq_true rfl) ⟨Nat.le_of_ble_eq_true rfl, Nat.le_of_ble_eq_true rfl, Nat.le_of_ble_eq_true rfl, Nat.le_of_ble_eq_true rfl⟩ dX10_readsFrame_31 ?_
    refine j_if_ne X (tgt := 39) dX10_readsFrame_34 (by decide) (fun c_34 => ?_) (fun c_34 => ?_)
    · refine j_aload_n X 1 dX10_readsFrame_39 rfl rfl ?_
      refine j_get X fG_RX10_29 mput_0 rfl rfl dX10_readsFrame_40 ?_
      refine j_iload_n X 0 dX10_readsFrame_43 rfl rfl ?_
      refine j_iconst X (v := 1) dX10_readsFrame_44 (by decide) ?_
      refine j_iadd X dX10_readsFrame_45 ?_
      refine j_aload_n X 1 dX10_readsFrame_46 rfl rfl ?_
      refine j_bipush X (v := 42) dX10_readsFrame_47 (by decide) ?_
      refine j_callVi X (rest := [.int (v1 + 1), .ref (b + 7)]) (c_X10_takes l (tx_takes (tx_setA (tx_addr hT)))) m_yX10_takes kM_RX10_139 mput_0 rfl rfl rfl rfl rfl (Nat.le_of_ble_eq_true rfl) ⟨Nat.le_of_ble_eq_true rfl, Nat.le_of_ble_eq_true rfl, Nat.le_of_ble_eq_true rfl, Nat.le_of_ble_eq_true rfl⟩ dX10_readsFrame_49 ?_
      refine j_if_eq X (tgt := 59) dX10_readsFrame_52 (by decide) (fun c_52 => ?_) (fun c_52 => ?_)
      · refine j_aload_n X 1 dX10_readsFrame_59 rfl rfl ?_
        refine j_callVi X (rest := [.int (v1 + 1), .ref (b + 7)]) (c_X10_address l (tx_takes (tx_takes (tx_setA (tx_addr hT))))) m_yX10_address kM_RX10_136 mput_0 rfl rfl rfl rfl rfl (Nat.le_of_ble_eq_true rfl) ⟨Nat.le_of_ble_eq_true rfl, Nat.le_of_ble_eq_true rfl, Nat.le_of_ble_eq_true rfl, Nat.le_of_ble_eq_true rfl⟩ dX10_readsFrame_60 ?_
        refine j_stA6 X (by rw [← ev1]; exact in_rf 1 (by decide) hR) dX10_readsFrame_63 ?_
        refine j_aload_n X 1 dX10_readsFrame_64 rfl rfl ?_
        refine j_get X fG_RX10_29 mput_0 rfl rfl dX10_readsFrame_65 ?_
        refine j_iload_n X 0 dX10_readsFrame_68 rfl rfl ?_
        refine j_iconst X (v := 1) dX10_readsFrame_69 (by decide) ?_
        refine j_iadd X dX10_readsFrame_70 ?_
        refine j_ldA6 X (by rw [← ev1]; exact in_rf 1 (by decide) hR) dX10_readsFrame_71 ?_
        refine j_bipush X (v := (-4)) dX10_readsFrame_72 (by decide) ?_
        refine j_icmp_ne X (tgt := 79) dX10_readsFrame_74 (by decide) (fun c_74 => ?_) (fun c_74 => ?_)
        · refine j_aload_n X 1 dX10_readsFrame_79 rfl rfl ?_
          refine j_get X fG_RX10_29 mput_0 rfl rfl dX10_readsFrame_80 ?_
          refine j_iload_n X 0 dX10_readsFrame_83 rfl rfl ?_
          refine j_iconst X (v := 2) dX10_readsFrame_84 (by decide) ?_
          refine j_iadd X dX10_readsFrame_85 ?_
          refine j_aload_n X 1 dX10_readsFrame_86 rfl rfl ?_
          refine j_bipush X (v := 33) dX10_readsFrame_87 (by decide) ?_
          refine j_callVi X (rest := [.int (v1 + 2), .ref (b + 7)]) (c_X10_takes l (tx_setA (tx_addr (tx_takes (tx_takes (tx_setA (tx_addr hT))))))) m_yX10_takes kM_RX10_139 mput_0 rfl rfl rfl rfl rfl (Nat.le_of_ble_eq_true rfl) ⟨Nat.le_of_ble_eq_true rfl, Nat.le_of_ble_eq_true rfl, Nat.le_of_ble_eq_true rfl, Nat.le_of_ble_eq_true rfl⟩ dX10_readsFrame_89 ?_
          refine j_if_eq X (tgt := 104) dX10_readsFrame_92 (by decide) (fun c_92 => ?_) (fun c_92 => ?_)
          · refine j_iconst X (v := 0) dX10_readsFrame_104 (by decide) ?_
            refine j_stA6 X (by rw [← ev1]; exact in_rf 2 (by decide) hR) dX10_readsFrame_105 ?_
            refine j_aload_n X 1 dX10_readsFrame_106 rfl rfl ?_
            refine j_get X fG_RX10_29 mput_0 rfl rfl dX10_readsFrame_107 ?_
            refine j_iload_n X 0 dX10_readsFrame_110 rfl rfl ?_
            refine j_iconst X (v := 2) dX10_readsFrame_111 (by decide) ?_
            refine j_iadd X dX10_readsFrame_112 ?_
            refine j_ldA6 X (by rw [← ev1]; exact in_rf 2 (by decide) hR) dX10_readsFrame_113 ?_
            refine j_bipush X (v := (-4)) dX10_readsFrame_114 (by decide) ?_
            refine j_icmp_eq X (tgt := 128) dX10_readsFrame_116 (by decide) (fun c_116 => ?_) (fun c_116 => ?_)
            · refine j_iconst X (v := 0) dX10_readsFrame_128 (by decide) ?_
              exact j_iret X hr rfl (by subst ev1; first | (rw [mReads, mR1, if_neg c_25, if_neg c_34, mR2, if_pos c_52, mR3, if_neg c_74, if_pos c_92, mR4, if_pos c_116]; done) | (rw [mReads, mR1, if_neg c_25, if_neg c_34, mR2, if_pos c_52, mR3, if_neg c_74, if_pos c_92, mR4, if_pos c_116]; rfl)) rfl (by subst ev1; first | (rw [mReads, mR1, if_neg c_25, if_neg c_34, mR2, if_pos c_52, mR3, if_neg c_74, if_pos c_92, mR4, if_pos c_116]; done) | (rw [mReads, mR1, if_neg c_25, if_neg c_34, mR2, if_pos c_52, mR3, if_neg c_74, if_pos c_92, mR4, if_pos c_116]; rfl)) dX10_readsFrame_129
            · refine j_aload_n X 1 dX10_readsFrame_119 rfl rfl ?_
              refine j_bipush X (v := 64) dX10_readsFrame_120 (by decide) ?_
              refine j_callVi X (rest := []) (c_X10_takes l (tx_setA (tx_takes (tx_setA (tx_addr (tx_takes (tx_takes (tx_setA (tx_addr hT))))))))) m_yX10_takes kM_RX10_139 mput_0 rfl rfl rfl rfl rfl (Nat.le_of_ble_eq_true rfl) ⟨Nat.le_of_ble_eq_true rfl, Nat.le_of_ble_eq_true rfl, Nat.le_of_ble_eq_true rfl, Nat.le_of_ble_eq_true rfl⟩ dX10_readsFrame_122 ?_
              refine j_if_ne X (tgt := 130) dX10_readsFrame_125 (by decide) (fun c_125 => ?_) (fun c_125 => ?_)
              · refine j_aload_n X 1 dX10_readsFrame_130 rfl rfl ?_
                refine j_get X fG_RX10_29 mput_0 rfl rfl dX10_readsFrame_131 ?_
                refine j_iload_n X 0 dX10_readsFrame_134 rfl rfl ?_
                refine j_iconst X (v := 3) dX10_readsFrame_135 (by decide) ?_
                refine j_iadd X dX10_readsFrame_136 ?_
                refine j_aload_n X 1 dX10_readsFrame_137 rfl rfl ?_
                refine j_iconst X (v := 0) dX10_readsFrame_138 (by decide) ?_
                refine j_bipush X (v := 7) dX10_readsFrame_139 (by decide) ?_
                refine j_callVi X (rest := [.int (v1 + 3), .ref (b + 7)]) (c_X10_digit l (tx_takes (tx_setA (tx_takes (tx_setA (tx_addr (tx_takes (tx_takes (tx_setA (tx_addr hT)))))))))) m_yX10_digit kM_RX10_130 mput_0 rfl rfl rfl rfl rfl (Nat.le_of_ble_eq_true rfl) ⟨Nat.le_of_ble_eq_true rfl, Nat.le_of_ble_eq_true rfl, Nat.le_of_ble_eq_true rfl, Nat.le_of_ble_eq_true rfl⟩ dX10_readsFrame_141 ?_
                refine j_stA6 X (by rw [← ev1]; exact in_rf 3 (by decide) hR) dX10_readsFrame_144 ?_
                refine j_aload_n X 1 dX10_readsFrame_145 rfl rfl ?_
                refine j_get X fG_RX10_29 mput_0 rfl rfl dX10_readsFrame_146 ?_
                refine j_iload_n X 0 dX10_readsFrame_149 rfl rfl ?_
                refine j_iconst X (v := 3) dX10_readsFrame_150 (by decide) ?_
                refine j_iadd X dX10_readsFrame_151 ?_
                refine j_ldA6 X (by rw [← ev1]; exact in_rf 3 (by decide) hR) dX10_readsFrame_152 ?_
                refine j_bipush X (v := (-4)) dX10_readsFrame_153 (by decide) ?_
                refine j_icmp_ne X (tgt := 160) dX10_readsFrame_155 (by decide) (fun c_155 => ?_) (fun c_155 => ?_)
                · refine j_aload_n X 1 dX10_readsFrame_160 rfl rfl ?_
                  refine j_dup X dX10_readsFrame_161 rfl ?_
                  refine j_get X fG_RX10_133 mput_0 rfl rfl dX10_readsFrame_162 ?_
                  refine j_iconst X (v := 1) dX10_readsFrame_165 (by decide) ?_
                  refine j_iadd X dX10_readsFrame_166 ?_
                  refine j_put X fG_RX10_133 fW_10_12 mput_0 rfl rfl rfl (Nat.le_of_ble_eq_true rfl) dX10_readsFrame_167 ?_
                  refine j_heap (h' := mput D h b (msc (setA ((mDigit ((mTakes (setA ((mTakes (setA ((mAddr ((mTakes ((mTakes (setA ((mAddr μ).2) 6 v1 ((mAddr μ).1)) 62).2) 42).2)).2) 6 (v1 + 1) ((mAddr ((mTakes ((mTakes (setA ((mAddr μ).2) 6 v1 ((mAddr μ).1)) 62).2) 42).2)).1)) 33).2) 6 (v1 + 2) 0) 64).2) 0 7).2) 6 (v1 + 3) ((mDigit ((mTakes (setA ((mTakes (setA ((mAddr ((mTakes ((mTakes (setA ((mAddr μ).2) 6 v1 ((mAddr μ).1)) 62).2) 42).2)).2) 6 (v1 + 1) ((mAddr ((mTakes ((mTakes (setA ((mAddr μ).2) 6 v1 ((mAddr μ).1)) 62).2) 42).2)).1)) 33).2) 6 (v1 + 2) 0) 64).2) 0 7).1)) 6 (((setA ((mDigit ((mTakes (setA ((mTakes (setA ((mAddr ((mTakes ((mTakes (setA ((mAddr μ).2) 6 v1 ((mAddr μ).1)) 62).2) 42).2)).2) 6 (v1 + 1) ((mAddr ((mTakes ((mTakes (setA ((mAddr μ).2) 6 v1 ((mAddr μ).1)) 62).2) 42).2)).1)) 33).2) 6 (v1 + 2) 0) 64).2) 0 7).2) 6 (v1 + 3) ((mDigit ((mTakes (setA ((mTakes (setA ((mAddr ((mTakes ((mTakes (setA ((mAddr μ).2) 6 v1 ((mAddr μ).1)) 62).2) 42).2)).2) 6 (v1 + 1) ((mAddr ((mTakes ((mTakes (setA ((mAddr μ).2) 6 v1 ((mAddr μ).1)) 62).2) 42).2)).1)) 33).2) 6 (v1 + 2) 0) 64).2) 0 7).1)).1 6) + 1))) mput_s6 ?_
                  refine j_aload_n X 1 dX10_readsFrame_170 rfl rfl ?_
                  refine j_get X fG_RX10_127 mput_0 rfl rfl dX10_readsFrame_171 ?_
                  refine j_aload_n X 1 dX10_readsFrame_174 rfl rfl ?_
                  refine j_get X fG_RX10_124 mput_0 rfl rfl dX10_readsFrame_175 ?_
                  refine j_icmp_eq X (tgt := 195) dX10_readsFrame_178 (by decide) (fun c_178 => ?_) (fun c_178 => ?_)
                  · refine j_iconst X (v := 1) dX10_readsFrame_195 (by decide) ?_
                    refine j_goto X (tgt := 200) dX10_readsFrame_196 (by decide) ?_
                    exact j_iret X hr rfl (by subst ev1; first | (rw [mReads, mR1, if_neg c_25, if_neg c_34, mR2, if_pos c_52, mR3, if_neg c_74, if_pos c_92, mR4, if_neg c_116, if_neg c_125, mR5, if_neg c_155, mR6, if_pos c_178]; done) | (rw [mReads, mR1, if_neg c_25, if_neg c_34, mR2, if_pos c_52, mR3, if_neg c_74, if_pos c_92, mR4, if_neg c_116, if_neg c_125, mR5, if_neg c_155, mR6, if_pos c_178]; rfl)) rfl (by subst ev1; first | (rw [mReads, mR1, if_neg c_25, if_neg c_34, mR2, if_pos c_52, mR3, if_neg c_74, if_pos c_92, mR4, if_neg c_116, if_neg c_125, mR5, if_neg c_155, mR6, if_pos c_178]; done) | (rw [mReads, mR1, if_neg c_25, if_neg c_34, mR2, if_pos c_52, mR3, if_neg c_74, if_pos c_92, mR4, if_neg c_116, if_neg c_125, mR5, if_neg c_155, mR6, if_pos c_178]; rfl)) dX10_readsFrame_200
                  · refine j_aload_n X 1 dX10_readsFrame_181 rfl rfl ?_
                    refine j_get X fG_RX10_25 mput_0 rfl rfl dX10_readsFrame_182 ?_
                    refine j_aload_n X 1 dX10_readsFrame_185 rfl rfl ?_
                    refine j_get X fG_RX10_127 mput_0 rfl rfl dX10_readsFrame_186 ?_
                    refine j_cald X (mput_k 6 (by decide)) rfl (tx_in2 (tx_msc6 (tx_setA (tx_digit (tx_takes (tx_setA (tx_takes (tx_setA (tx_addr (tx_takes (tx_takes (tx_setA (tx_addr hT)))))))))))) c_178) dX10_readsFrame_189 ?_
                    refine j_bipush X (v := 59) dX10_readsFrame_190 (by decide) ?_
                    refine j_icmp_ne X (tgt := 199) dX10_readsFrame_192 (by decide) (fun c_192 => ?_) (fun c_192 => ?_)
                    · refine j_iconst X (v := 0) dX10_readsFrame_199 (by decide) ?_
                      exact j_iret X hr rfl (by subst ev1; first | (rw [mReads, mR1, if_neg c_25, if_neg c_34, mR2, if_pos c_52, mR3, if_neg c_74, if_pos c_92, mR4, if_neg c_116, if_neg c_125, mR5, if_neg c_155, mR6, if_neg c_178, if_neg c_192]; done) | (rw [mReads, mR1, if_neg c_25, if_neg c_34, mR2, if_pos c_52, mR3, if_neg c_74, if_pos c_92, mR4, if_neg c_116, if_neg c_125, mR5, if_neg c_155, mR6, if_neg c_178, if_neg c_192]; rfl)) rfl (by subst ev1; first | (rw [mReads, mR1, if_neg c_25, if_neg c_34, mR2, if_pos c_52, mR3, if_neg c_74, if_pos c_92, mR4, if_neg c_116, if_neg c_125, mR5, if_neg c_155, mR6, if_neg c_178, if_neg c_192]; done) | (rw [mReads, mR1, if_neg c_25, if_neg c_34, mR2, if_pos c_52, mR3, if_neg c_74, if_pos c_92, mR4, if_neg c_116, if_neg c_125, mR5, if_neg c_155, mR6, if_neg c_178, if_neg c_192]; rfl)) dX10_readsFrame_200
                    · refine j_iconst X (v := 1) dX10_readsFrame_195 (by decide) ?_
                      refine j_goto X (tgt := 200) dX10_readsFrame_196 (by decide) ?_
                      exact j_iret X hr rfl (by subst ev1; first | (rw [mReads, mR1, if_neg c_25, if_neg c_34, mR2, if_pos c_52, mR3, if_neg c_74, if_pos c_92, mR4, if_neg c_116, if_neg c_125, mR5, if_neg c_155, mR6, if_neg c_178, if_pos c_192]; done) | (rw [mReads, mR1, if_neg c_25, if_neg c_34, mR2, if_pos c_52, mR3, if_neg c_74, if_pos c_92, mR4, if_neg c_116, if_neg c_125, mR5, if_neg c_155, mR6, if_neg c_178, if_pos c_192]; rfl)) rfl (by subst ev1; first | (rw [mReads, mR1, if_neg c_25, if_neg c_34, mR2, if_pos c_52, mR3, if_neg c_74, if_pos c_92, mR4, if_neg c_116, if_neg c_125, mR5, if_neg c_155, mR6, if_neg c_178, if_pos c_192]; done) | (rw [mReads, mR1, if_neg c_25, if_neg c_34, mR2, if_pos c_52, mR3, if_neg c_74, if_pos c_92, mR4, if_neg c_116, if_neg c_125, mR5, if_neg c_155, mR6, if_neg c_178, if_pos c_192]; rfl)) dX10_readsFrame_200
                · refine j_iconst X (v := 0) dX10_readsFrame_158 (by decide) ?_
                  exact j_iret X hr rfl (by subst ev1; first | (rw [mReads, mR1, if_neg c_25, if_neg c_34, mR2, if_pos c_52, mR3, if_neg c_74, if_pos c_92, mR4, if_neg c_116, if_neg c_125, mR5, if_pos c_155]; done) | (rw [mReads, mR1, if_neg c_25, if_neg c_34, mR2, if_pos c_52, mR3, if_neg c_74, if_pos c_92, mR4, if_neg c_116, if_neg c_125, mR5, if_pos c_155]; rfl)) rfl (by subst ev1; first | (rw [mReads, mR1, if_neg c_25, if_neg c_34, mR2, if_pos c_52, mR3, if_neg c_74, if_pos c_92, mR4, if_neg c_116, if_neg c_125, mR5, if_pos c_155]; done) | (rw [mReads, mR1, if_neg c_25, if_neg c_34, mR2, if_pos c_52, mR3, if_neg c_74, if_pos c_92, mR4, if_neg c_116, if_neg c_125, mR5, if_pos c_155]; rfl)) dX10_readsFrame_159
              · refine j_iconst X (v := 0) dX10_readsFrame_128 (by decide) ?_
                exact j_iret X hr rfl (by subst ev1; first | (rw [mReads, mR1, if_neg c_25, if_neg c_34, mR2, if_pos c_52, mR3, if_neg c_74, if_pos c_92, mR4, if_neg c_116, if_pos c_125]; done) | (rw [mReads, mR1, if_neg c_25, if_neg c_34, mR2, if_pos c_52, mR3, if_neg c_74, if_pos c_92, mR4, if_neg c_116, if_pos c_125]; rfl)) rfl (by subst ev1; first | (rw [mReads, mR1, if_neg c_25, if_neg c_34, mR2, if_pos c_52, mR3, if_neg c_74, if_pos c_92, mR4, if_neg c_116, if_pos c_125]; done) | (rw [mReads, mR1, if_neg c_25, if_neg c_34, mR2, if_pos c_52, mR3, if_neg c_74, if_pos c_92, mR4, if_neg c_116, if_pos c_125]; rfl)) dX10_readsFrame_129
          · refine j_aload_n X 1 dX10_readsFrame_95 rfl rfl ?_
            refine j_iconst X (v := 0) dX10_readsFrame_96 (by decide) ?_
            refine j_iconst X (v := 3) dX10_readsFrame_97 (by decide) ?_
            refine j_callVi X (rest := [.int (v1 + 2), .ref (b + 7)]) (c_X10_digit l (tx_takes (tx_setA (tx_addr (tx_takes (tx_takes (tx_setA (tx_addr hT)))))))) m_yX10_digit kM_RX10_130 mput_0 rfl rfl rfl rfl rfl (Nat.le_of_ble_eq_true rfl) ⟨Nat.le_of_ble_eq_true rfl, Nat.le_of_ble_eq_true rfl, Nat.le_of_ble_eq_true rfl, Nat.le_of_ble_eq_true rfl⟩ dX10_readsFrame_98 ?_
            refine j_goto X (tgt := 105) dX10_readsFrame_101 (by decide) ?_
            refine j_stA6 X (by rw [← ev1]; exact in_rf 2 (by decide) hR) dX10_readsFrame_105 ?_
            refine j_aload_n X 1 dX10_readsFrame_106 rfl rfl ?_
            refine j_get X fG_RX10_29 mput_0 rfl rfl dX10_readsFrame_107 ?_
            refine j_iload_n X 0 dX10_readsFrame_110 rfl rfl ?_
            refine j_iconst X (v := 2) dX10_readsFrame_111 (by decide) ?_
            refine j_iadd X dX10_readsFrame_112 ?_
            refine j_ldA6 X (by rw [← ev1]; exact in_rf 2 (by decide) hR) dX10_readsFrame_113 ?_
            refine j_bipush X (v := (-4)) dX10_readsFrame_114 (by decide) ?_
            refine j_icmp_eq X (tgt := 128) dX10_readsFrame_116 (by decide) (fun c_116 => ?_) (fun c_116 => ?_)
            · refine j_iconst X (v := 0) dX10_readsFrame_128 (by decide) ?_
              exact j_iret X hr rfl (by subst ev1; first | (rw [mReads, mR1, if_neg c_25, if_neg c_34, mR2, if_pos c_52, mR3, if_neg c_74, if_neg c_92, mR4, if_pos c_116]; done) | (rw [mReads, mR1, if_neg c_25, if_neg c_34, mR2, if_pos c_52, mR3, if_neg c_74, if_neg c_92, mR4, if_pos c_116]; rfl)) rfl (by subst ev1; first | (rw [mReads, mR1, if_neg c_25, if_neg c_34, mR2, if_pos c_52, mR3, if_neg c_74, if_neg c_92, mR4, if_pos c_116]; done) | (rw [mReads, mR1, if_neg c_25, if_neg c_34, mR2, if_pos c_52, mR3, if_neg c_74, if_neg c_92, mR4, if_pos c_116]; rfl)) dX10_readsFrame_129
            · refine j_aload_n X 1 dX10_readsFrame_119 rfl rfl ?_
              refine j_bipush X (v := 64) dX10_readsFrame_120 (by decide) ?_
              refine j_callVi X (rest := []) (c_X10_takes l (tx_setA (tx_digit (tx_takes (tx_setA (tx_addr (tx_takes (tx_takes (tx_setA (tx_addr hT)))))))))) m_yX10_takes kM_RX10_139 mput_0 rfl rfl rfl rfl rfl (Nat.le_of_ble_eq_true rfl) ⟨Nat.le_of_ble_eq_true rfl, Nat.le_of_ble_eq_true rfl, Nat.le_of_ble_eq_true rfl, Nat.le_of_ble_eq_true rfl⟩ dX10_readsFrame_122 ?_
              refine j_if_ne X (tgt := 130) dX10_readsFrame_125 (by decide) (fun c_125 => ?_) (fun c_125 => ?_)
              · refine j_aload_n X 1 dX10_readsFrame_130 rfl rfl ?_
                refine j_get X fG_RX10_29 mput_0 rfl rfl dX10_readsFrame_131 ?_
                refine j_iload_n X 0 dX10_readsFrame_134 rfl rfl ?_
                refine j_iconst X (v := 3) dX10_readsFrame_135 (by decide) ?_
                refine j_iadd X dX10_readsFrame_136 ?_
                refine j_aload_n X 1 dX10_readsFrame_137 rfl rfl ?_
                refine j_iconst X (v := 0) dX10_readsFrame_138 (by decide) ?_
                refine j_bipush X (v := 7) dX10_readsFrame_139 (by decide) ?_
                refine j_callVi X (rest := [.int (v1 + 3), .ref (b + 7)]) (c_X10_digit l (tx_takes (tx_setA (tx_digit (tx_takes (tx_setA (tx_addr (tx_takes (tx_takes (tx_setA (tx_addr hT))))))))))) m_yX10_digit kM_RX10_130 mput_0 rfl rfl rfl rfl rfl (Nat.le_of_ble_eq_true rfl) ⟨Nat.le_of_ble_eq_true rfl, Nat.le_of_ble_eq_true rfl, Nat.le_of_ble_eq_true rfl, Nat.le_of_ble_eq_true rfl⟩ dX10_readsFrame_141 ?_
                refine j_stA6 X (by rw [← ev1]; exact in_rf 3 (by decide) hR) dX10_readsFrame_144 ?_
                refine j_aload_n X 1 dX10_readsFrame_145 rfl rfl ?_
                refine j_get X fG_RX10_29 mput_0 rfl rfl dX10_readsFrame_146 ?_
                refine j_iload_n X 0 dX10_readsFrame_149 rfl rfl ?_
                refine j_iconst X (v := 3) dX10_readsFrame_150 (by decide) ?_
                refine j_iadd X dX10_readsFrame_151 ?_
                refine j_ldA6 X (by rw [← ev1]; exact in_rf 3 (by decide) hR) dX10_readsFrame_152 ?_
                refine j_bipush X (v := (-4)) dX10_readsFrame_153 (by decide) ?_
                refine j_icmp_ne X (tgt := 160) dX10_readsFrame_155 (by decide) (fun c_155 => ?_) (fun c_155 => ?_)
                · refine j_aload_n X 1 dX10_readsFrame_160 rfl rfl ?_
                  refine j_dup X dX10_readsFrame_161 rfl ?_
                  refine j_get X fG_RX10_133 mput_0 rfl rfl dX10_readsFrame_162 ?_
                  refine j_iconst X (v := 1) dX10_readsFrame_165 (by decide) ?_
                  refine j_iadd X dX10_readsFrame_166 ?_
                  refine j_put X fG_RX10_133 fW_10_12 mput_0 rfl rfl rfl (Nat.le_of_ble_eq_true rfl) dX10_readsFrame_167 ?_
                  refine j_heap (h' := mput D h b (msc (setA ((mDigit ((mTakes (setA ((mDigit ((mTakes (setA ((mAddr ((mTakes ((mTakes (setA ((mAddr μ).2) 6 v1 ((mAddr μ).1)) 62).2) 42).2)).2) 6 (v1 + 1) ((mAddr ((mTakes ((mTakes (setA ((mAddr μ).2) 6 v1 ((mAddr μ).1)) 62).2) 42).2)).1)) 33).2) 0 3).2) 6 (v1 + 2) ((mDigit ((mTakes (setA ((mAddr ((mTakes ((mTakes (setA ((mAddr μ).2) 6 v1 ((mAddr μ).1)) 62).2) 42).2)).2) 6 (v1 + 1) ((mAddr ((mTakes ((mTakes (setA ((mAddr μ).2) 6 v1 ((mAddr μ).1)) 62).2) 42).2)).1)) 33).2) 0 3).1)) 64).2) 0 7).2) 6 (v1 + 3) ((mDigit ((mTakes (setA ((mDigit ((mTakes (setA ((mAddr ((mTakes ((mTakes (setA ((mAddr μ).2) 6 v1 ((mAddr μ).1)) 62).2) 42).2)).2) 6 (v1 + 1) ((mAddr ((mTakes ((mTakes (setA ((mAddr μ).2) 6 v1 ((mAddr μ).1)) 62).2) 42).2)).1)) 33).2) 0 3).2) 6 (v1 + 2) ((mDigit ((mTakes (setA ((mAddr ((mTakes ((mTakes (setA ((mAddr μ).2) 6 v1 ((mAddr μ).1)) 62).2) 42).2)).2) 6 (v1 + 1) ((mAddr ((mTakes ((mTakes (setA ((mAddr μ).2) 6 v1 ((mAddr μ).1)) 62).2) 42).2)).1)) 33).2) 0 3).1)) 64).2) 0 7).1)) 6 (((setA ((mDigit ((mTakes (setA ((mDigit ((mTakes (setA ((mAddr ((mTakes ((mTakes (setA ((mAddr μ).2) 6 v1 ((mAddr μ).1)) 62).2) 42).2)).2) 6 (v1 + 1) ((mAddr ((mTakes ((mTakes (setA ((mAddr μ).2) 6 v1 ((mAddr μ).1)) 62).2) 42).2)).1)) 33).2) 0 3).2) 6 (v1 + 2) ((mDigit ((mTakes (setA ((mAddr ((mTakes ((mTakes (setA ((mAddr μ).2) 6 v1 ((mAddr μ).1)) 62).2) 42).2)).2) 6 (v1 + 1) ((mAddr ((mTakes ((mTakes (setA ((mAddr μ).2) 6 v1 ((mAddr μ).1)) 62).2) 42).2)).1)) 33).2) 0 3).1)) 64).2) 0 7).2) 6 (v1 + 3) ((mDigit ((mTakes (setA ((mDigit ((mTakes (setA ((mAddr ((mTakes ((mTakes (setA ((mAddr μ).2) 6 v1 ((mAddr μ).1)) 62).2) 42).2)).2) 6 (v1 + 1) ((mAddr ((mTakes ((mTakes (setA ((mAddr μ).2) 6 v1 ((mAddr μ).1)) 62).2) 42).2)).1)) 33).2) 0 3).2) 6 (v1 + 2) ((mDigit ((mTakes (setA ((mAddr ((mTakes ((mTakes (setA ((mAddr μ).2) 6 v1 ((mAddr μ).1)) 62).2) 42).2)).2) 6 (v1 + 1) ((mAddr ((mTakes ((mTakes (setA ((mAddr μ).2) 6 v1 ((mAddr μ).1)) 62).2) 42).2)).1)) 33).2) 0 3).1)) 64).2) 0 7).1)).1 6) + 1))) mput_s6 ?_
                  refine j_aload_n X 1 dX10_readsFrame_170 rfl rfl ?_
                  refine j_get X fG_RX10_127 mput_0 rfl rfl dX10_readsFrame_171 ?_
                  refine j_aload_n X 1 dX10_readsFrame_174 rfl rfl ?_
                  refine j_get X fG_RX10_124 mput_0 rfl rfl dX10_readsFrame_175 ?_
                  refine j_icmp_eq X (tgt := 195) dX10_readsFrame_178 (by decide) (fun c_178 => ?_) (fun c_178 => ?_)
                  · refine j_iconst X (v := 1) dX10_readsFrame_195 (by decide) ?_
                    refine j_goto X (tgt := 200) dX10_readsFrame_196 (by decide) ?_
                    exact j_iret X hr rfl (by subst ev1; first | (rw [mReads, mR1, if_neg c_25, if_neg c_34, mR2, if_pos c_52, mR3, if_neg c_74, if_neg c_92, mR4, if_neg c_116, if_neg c_125, mR5, if_neg c_155, mR6, if_pos c_178]; done) | (rw [mReads, mR1, if_neg c_25, if_neg c_34, mR2, if_pos c_52, mR3, if_neg c_74, if_neg c_92, mR4, if_neg c_116, if_neg c_125, mR5, if_neg c_155, mR6, if_pos c_178]; rfl)) rfl (by subst ev1; first | (rw [mReads, mR1, if_neg c_25, if_neg c_34, mR2, if_pos c_52, mR3, if_neg c_74, if_neg c_92, mR4, if_neg c_116, if_neg c_125, mR5, if_neg c_155, mR6, if_pos c_178]; done) | (rw [mReads, mR1, if_neg c_25, if_neg c_34, mR2, if_pos c_52, mR3, if_neg c_74, if_neg c_92, mR4, if_neg c_116, if_neg c_125, mR5, if_neg c_155, mR6, if_pos c_178]; rfl)) dX10_readsFrame_200
                  · refine j_aload_n X 1 dX10_readsFrame_181 rfl rfl ?_
                    refine j_get X fG_RX10_25 mput_0 rfl rfl dX10_readsFrame_182 ?_
                    refine j_aload_n X 1 dX10_readsFrame_185 rfl rfl ?_
                    refine j_get X fG_RX10_127 mput_0 rfl rfl dX10_readsFrame_186 ?_
                    refine j_cald X (mput_k 6 (by decide)) rfl (tx_in2 (tx_msc6 (tx_setA (tx_digit (tx_takes (tx_setA (tx_digit (tx_takes (tx_setA (tx_addr (tx_takes (tx_takes (tx_setA (tx_addr hT))))))))))))) c_178) dX10_readsFrame_189 ?_
                    refine j_bipush X (v := 59) dX10_readsFrame_190 (by decide) ?_
                    refine j_icmp_ne X (tgt := 199) dX10_readsFrame_192 (by decide) (fun c_192 => ?_) (fun c_192 => ?_)
                    · refine j_iconst X (v := 0) dX10_readsFrame_199 (by decide) ?_
                      exact j_iret X hr rfl (by subst ev1; first | (rw [mReads, mR1, if_neg c_25, if_neg c_34, mR2, if_pos c_52, mR3, if_neg c_74, if_neg c_92, mR4, if_neg c_116, if_neg c_125, mR5, if_neg c_155, mR6, if_neg c_178, if_neg c_192]; done) | (rw [mReads, mR1, if_neg c_25, if_neg c_34, mR2, if_pos c_52, mR3, if_neg c_74, if_neg c_92, mR4, if_neg c_116, if_neg c_125, mR5, if_neg c_155, mR6, if_neg c_178, if_neg c_192]; rfl)) rfl (by subst ev1; first | (rw [mReads, mR1, if_neg c_25, if_neg c_34, mR2, if_pos c_52, mR3, if_neg c_74, if_neg c_92, mR4, if_neg c_116, if_neg c_125, mR5, if_neg c_155, mR6, if_neg c_178, if_neg c_192]; done) | (rw [mReads, mR1, if_neg c_25, if_neg c_34, mR2, if_pos c_52, mR3, if_neg c_74, if_neg c_92, mR4, if_neg c_116, if_neg c_125, mR5, if_neg c_155, mR6, if_neg c_178, if_neg c_192]; rfl)) dX10_readsFrame_200
                    · refine j_iconst X (v := 1) dX10_readsFrame_195 (by decide) ?_
                      refine j_goto X (tgt := 200) dX10_readsFrame_196 (by decide) ?_
                      exact j_iret X hr rfl (by subst ev1; first | (rw [mReads, mR1, if_neg c_25, if_neg c_34, mR2, if_pos c_52, mR3, if_neg c_74, if_neg c_92, mR4, if_neg c_116, if_neg c_125, mR5, if_neg c_155, mR6, if_neg c_178, if_pos c_192]; done) | (rw [mReads, mR1, if_neg c_25, if_neg c_34, mR2, if_pos c_52, mR3, if_neg c_74, if_neg c_92, mR4, if_neg c_116, if_neg c_125, mR5, if_neg c_155, mR6, if_neg c_178, if_pos c_192]; rfl)) rfl (by subst ev1; first | (rw [mReads, mR1, if_neg c_25, if_neg c_34, mR2, if_pos c_52, mR3, if_neg c_74, if_neg c_92, mR4, if_neg c_116, if_neg c_125, mR5, if_neg c_155, mR6, if_neg c_178, if_pos c_192]; done) | (rw [mReads, mR1, if_neg c_25, if_neg c_34, mR2, if_pos c_52, mR3, if_neg c_74, if_neg c_92, mR4, if_neg c_116, if_neg c_125, mR5, if_neg c_155, mR6, if_neg c_178, if_pos c_192]; rfl)) dX10_readsFrame_200
                · refine j_iconst X (v := 0) dX10_readsFrame_158 (by decide) ?_
                  exact j_iret X hr rfl (by subst ev1; first | (rw [mReads, mR1, if_neg c_25, if_neg c_34, mR2, if_pos c_52, mR3, if_neg c_74, if_neg c_92, mR4, if_neg c_116, if_neg c_125, mR5, if_pos c_155]; done) | (rw [mReads, mR1, if_neg c_25, if_neg c_34, mR2, if_pos c_52, mR3, if_neg c_74, if_neg c_92, mR4, if_neg c_116, if_neg c_125, mR5, if_pos c_155]; rfl)) rfl (by subst ev1; first | (rw [mReads, mR1, if_neg c_25, if_neg c_34, mR2, if_pos c_52, mR3, if_neg c_74, if_neg c_92, mR4, if_neg c_116, if_neg c_125, mR5, if_pos c_155]; done) | (rw [mReads, mR1, if_neg c_25, if_neg c_34, mR2, if_pos c_52, mR3, if_neg c_74, if_neg c_92, mR4, if_neg c_116, if_neg c_125, mR5, if_pos c_155]; rfl)) dX10_readsFrame_159
              · refine j_iconst X (v := 0) dX10_readsFrame_128 (by decide) ?_
                exact j_iret X hr rfl (by subst ev1; first | (rw [mReads, mR1, if_neg c_25, if_neg c_34, mR2, if_pos c_52, mR3, if_neg c_74, if_neg c_92, mR4, if_neg c_116, if_pos c_125]; done) | (rw [mReads, mR1, if_neg c_25, if_neg c_34, mR2, if_pos c_52, mR3, if_neg c_74, if_neg c_92, mR4, if_neg c_116, if_pos c_125]; rfl)) rfl (by subst ev1; first | (rw [mReads, mR1, if_neg c_25, if_neg c_34, mR2, if_pos c_52, mR3, if_neg c_74, if_neg c_92, mR4, if_neg c_116, if_pos c_125]; done) | (rw [mReads, mR1, if_neg c_25, if_neg c_34, mR2, if_pos c_52, mR3, if_neg c_74, if_neg c_92, mR4, if_neg c_116, if_pos c_125]; rfl)) dX10_readsFrame_129
        · refine j_iconst X (v := 0) dX10_readsFrame_77 (by decide) ?_
          exact j_iret X hr rfl (by subst ev1; first | (rw [mReads, mR1, if_neg c_25, if_neg c_34, mR2, if_pos c_52, mR3, if_pos c_74]; done) | (rw [mReads, mR1, if_neg c_25, if_neg c_34, mR2, if_pos c_52, mR3, if_pos c_74]; rfl)) rfl (by subst ev1; first | (rw [mReads, mR1, if_neg c_25, if_neg c_34, mR2, if_pos c_52, mR3, if_pos c_74]; done) | (rw [mReads, mR1, if_neg c_25, if_neg c_34, mR2, if_pos c_52, mR3, if_pos c_74]; rfl)) dX10_readsFrame_78
      · refine j_iconst X (v := 0) dX10_readsFrame_55 (by decide) ?_
        refine j_goto X (tgt := 63) dX10_readsFrame_56 (by decide) ?_
        refine j_stA6 X (by rw [← ev1]; exact in_rf 1 (by decide) hR) dX10_readsFrame_63 ?_
        refine j_aload_n X 1 dX10_readsFrame_64 rfl rfl ?_
        refine j_get X fG_RX10_29 mput_0 rfl rfl dX10_readsFrame_65 ?_
        refine j_iload_n X 0 dX10_readsFrame_68 rfl rfl ?_
        refine j_iconst X (v := 1) dX10_readsFrame_69 (by decide) ?_
        refine j_iadd X dX10_readsFrame_70 ?_
        refine j_ldA6 X (by rw [← ev1]; exact in_rf 1 (by decide) hR) dX10_readsFrame_71 ?_
        refine j_bipush X (v := (-4)) dX10_readsFrame_72 (by decide) ?_
        refine j_icmp_ne X (tgt := 79) dX10_readsFrame_74 (by decide) (fun c_74 => ?_) (fun c_74 => ?_)
        · refine j_aload_n X 1 dX10_readsFrame_79 rfl rfl ?_
          refine j_get X fG_RX10_29 mput_0 rfl rfl dX10_readsFrame_80 ?_
          refine j_iload_n X 0 dX10_readsFrame_83 rfl rfl ?_
          refine j_iconst X (v := 2) dX10_readsFrame_84 (by decide) ?_
          refine j_iadd X dX10_readsFrame_85 ?_
          refine j_aload_n X 1 dX10_readsFrame_86 rfl rfl ?_
          refine j_bipush X (v := 33) dX10_readsFrame_87 (by decide) ?_
          refine j_callVi X (rest := [.int (v1 + 2), .ref (b + 7)]) (c_X10_takes l (tx_setA (tx_takes (tx_takes (tx_setA (tx_addr hT)))))) m_yX10_takes kM_RX10_139 mput_0 rfl rfl rfl rfl rfl (Nat.le_of_ble_eq_true rfl) ⟨Nat.le_of_ble_eq_true rfl, Nat.le_of_ble_eq_true rfl, Nat.le_of_ble_eq_true rfl, Nat.le_of_ble_eq_true rfl⟩ dX10_readsFrame_89 ?_
          refine j_if_eq X (tgt := 104) dX10_readsFrame_92 (by decide) (fun c_92 => ?_) (fun c_92 => ?_)
          · refine j_iconst X (v := 0) dX10_readsFrame_104 (by decide) ?_
            refine j_stA6 X (by rw [← ev1]; exact in_rf 2 (by decide) hR) dX10_readsFrame_105 ?_
            refine j_aload_n X 1 dX10_readsFrame_106 rfl rfl ?_
            refine j_get X fG_RX10_29 mput_0 rfl rfl dX10_readsFrame_107 ?_
            refine j_iload_n X 0 dX10_readsFrame_110 rfl rfl ?_
            refine j_iconst X (v := 2) dX10_readsFrame_111 (by decide) ?_
            refine j_iadd X dX10_readsFrame_112 ?_
            refine j_ldA6 X (by rw [← ev1]; exact in_rf 2 (by decide) hR) dX10_readsFrame_113 ?_
            refine j_bipush X (v := (-4)) dX10_readsFrame_114 (by decide) ?_
            refine j_icmp_eq X (tgt := 128) dX10_readsFrame_116 (by decide) (fun c_116 => ?_) (fun c_116 => ?_)
            · refine j_iconst X (v := 0) dX10_readsFrame_128 (by decide) ?_
              exact j_iret X hr rfl (by subst ev1; first | (rw [mReads, mR1, if_neg c_25, if_neg c_34, mR2, if_neg c_52, mR3, if_neg c_74, if_pos c_92, mR4, if_pos c_116]; done) | (rw [mReads, mR1, if_neg c_25, if_neg c_34, mR2, if_neg c_52, mR3, if_neg c_74, if_pos c_92, mR4, if_pos c_116]; rfl)) rfl (by subst ev1; first | (rw [mReads, mR1, if_neg c_25, if_neg c_34, mR2, if_neg c_52, mR3, if_neg c_74, if_pos c_92, mR4, if_pos c_116]; done) | (rw [mReads, mR1, if_neg c_25, if_neg c_34, mR2, if_neg c_52, mR3, if_neg c_74, if_pos c_92, mR4, if_pos c_116]; rfl)) dX10_readsFrame_129
            · refine j_aload_n X 1 dX10_readsFrame_119 rfl rfl ?_
              refine j_bipush X (v := 64) dX10_readsFrame_120 (by decide) ?_
              refine j_callVi X (rest := []) (c_X10_takes l (tx_setA (tx_takes (tx_setA (tx_takes (tx_takes (tx_setA (tx_addr hT)))))))) m_yX10_takes kM_RX10_139 mput_0 rfl rfl rfl rfl rfl (Nat.le_of_ble_eq_true rfl) ⟨Nat.le_of_ble_eq_true rfl, Nat.le_of_ble_eq_true rfl, Nat.le_of_ble_eq_true rfl, Nat.le_of_ble_eq_true rfl⟩ dX10_readsFrame_122 ?_
              refine j_if_ne X (tgt := 130) dX10_readsFrame_125 (by decide) (fun c_125 => ?_) (fun c_125 => ?_)
              · refine j_aload_n X 1 dX10_readsFrame_130 rfl rfl ?_
                refine j_get X fG_RX10_29 mput_0 rfl rfl dX10_readsFrame_131 ?_
                refine j_iload_n X 0 dX10_readsFrame_134 rfl rfl ?_
                refine j_iconst X (v := 3) dX10_readsFrame_135 (by decide) ?_
                refine j_iadd X dX10_readsFrame_136 ?_
                refine j_aload_n X 1 dX10_readsFrame_137 rfl rfl ?_
                refine j_iconst X (v := 0) dX10_readsFrame_138 (by decide) ?_
                refine j_bipush X (v := 7) dX10_readsFrame_139 (by decide) ?_
                refine j_callVi X (rest := [.int (v1 + 3), .ref (b + 7)]) (c_X10_digit l (tx_takes (tx_setA (tx_takes (tx_setA (tx_takes (tx_takes (tx_setA (tx_addr hT))))))))) m_yX10_digit kM_RX10_130 mput_0 rfl rfl rfl rfl rfl (Nat.le_of_ble_eq_true rfl) ⟨Nat.le_of_ble_eq_true rfl, Nat.le_of_ble_eq_true rfl, Nat.le_of_ble_eq_true rfl, Nat.le_of_ble_eq_true rfl⟩ dX10_readsFrame_141 ?_
                refine j_stA6 X (by rw [← ev1]; exact in_rf 3 (by decide) hR) dX10_readsFrame_144 ?_
                refine j_aload_n X 1 dX10_readsFrame_145 rfl rfl ?_
                refine j_get X fG_RX10_29 mput_0 rfl rfl dX10_readsFrame_146 ?_
                refine j_iload_n X 0 dX10_readsFrame_149 rfl rfl ?_
                refine j_iconst X (v := 3) dX10_readsFrame_150 (by decide) ?_
                refine j_iadd X dX10_readsFrame_151 ?_
                refine j_ldA6 X (by rw [← ev1]; exact in_rf 3 (by decide) hR) dX10_readsFrame_152 ?_
                refine j_bipush X (v := (-4)) dX10_readsFrame_153 (by decide) ?_
                refine j_icmp_ne X (tgt := 160) dX10_readsFrame_155 (by decide) (fun c_155 => ?_) (fun c_155 => ?_)
                · refine j_aload_n X 1 dX10_readsFrame_160 rfl rfl ?_
                  refine j_dup X dX10_readsFrame_161 rfl ?_
                  refine j_get X fG_RX10_133 mput_0 rfl rfl dX10_readsFrame_162 ?_
                  refine j_iconst X (v := 1) dX10_readsFrame_165 (by decide) ?_
                  refine j_iadd X dX10_readsFrame_166 ?_
                  refine j_put X fG_RX10_133 fW_10_12 mput_0 rfl rfl rfl (Nat.le_of_ble_eq_true rfl) dX10_readsFrame_167 ?_
                  refine j_heap (h' := mput D h b (msc (setA ((mDigit ((mTakes (setA ((mTakes (setA ((mTakes ((mTakes (setA ((mAddr μ).2) 6 v1 ((mAddr μ).1)) 62).2) 42).2) 6 (v1 + 1) 0) 33).2) 6 (v1 + 2) 0) 64).2) 0 7).2) 6 (v1 + 3) ((mDigit ((mTakes (setA ((mTakes (setA ((mTakes ((mTakes (setA ((mAddr μ).2) 6 v1 ((mAddr μ).1)) 62).2) 42).2) 6 (v1 + 1) 0) 33).2) 6 (v1 + 2) 0) 64).2) 0 7).1)) 6 (((setA ((mDigit ((mTakes (setA ((mTakes (setA ((mTakes ((mTakes (setA ((mAddr μ).2) 6 v1 ((mAddr μ).1)) 62).2) 42).2) 6 (v1 + 1) 0) 33).2) 6 (v1 + 2) 0) 64).2) 0 7).2) 6 (v1 + 3) ((mDigit ((mTakes (setA ((mTakes (setA ((mTakes ((mTakes (setA ((mAddr μ).2) 6 v1 ((mAddr μ).1)) 62).2) 42).2) 6 (v1 + 1) 0) 33).2) 6 (v1 + 2) 0) 64).2) 0 7).1)).1 6) + 1))) mput_s6 ?_
                  refine j_aload_n X 1 dX10_readsFrame_170 rfl rfl ?_
                  refine j_get X fG_RX10_127 mput_0 rfl rfl dX10_readsFrame_171 ?_
                  refine j_aload_n X 1 dX10_readsFrame_174 rfl rfl ?_
                  refine j_get X fG_RX10_124 mput_0 rfl rfl dX10_readsFrame_175 ?_
                  refine j_icmp_eq X (tgt := 195) dX10_readsFrame_178 (by decide) (fun c_178 => ?_) (fun c_178 => ?_)
                  · refine j_iconst X (v := 1) dX10_readsFrame_195 (by decide) ?_
                    refine j_goto X (tgt := 200) dX10_readsFrame_196 (by decide) ?_
                    exact j_iret X hr rfl (by subst ev1; first | (rw [mReads, mR1, if_neg c_25, if_neg c_34, mR2, if_neg c_52, mR3, if_neg c_74, if_pos c_92, mR4, if_neg c_116, if_neg c_125, mR5, if_neg c_155, mR6, if_pos c_178]; done) | (rw [mReads, mR1, if_neg c_25, if_neg c_34, mR2, if_neg c_52, mR3, if_neg c_74, if_pos c_92, mR4, if_neg c_116, if_neg c_125, mR5, if_neg c_155, mR6, if_pos c_178]; rfl)) rfl (by subst ev1; first | (rw [mReads, mR1, if_neg c_25, if_neg c_34, mR2, if_neg c_52, mR3, if_neg c_74, if_pos c_92, mR4, if_neg c_116, if_neg c_125, mR5, if_neg c_155, mR6, if_pos c_178]; done) | (rw [mReads, mR1, if_neg c_25, if_neg c_34, mR2, if_neg c_52, mR3, if_neg c_74, if_pos c_92, mR4, if_neg c_116, if_neg c_125, mR5, if_neg c_155, mR6, if_pos c_178]; rfl)) dX10_readsFrame_200
                  · refine j_aload_n X 1 dX10_readsFrame_181 rfl rfl ?_
                    refine j_get X fG_RX10_25 mput_0 rfl rfl dX10_readsFrame_182 ?_
                    refine j_aload_n X 1 dX10_readsFrame_185 rfl rfl ?_
                    refine j_get X fG_RX10_127 mput_0 rfl rfl dX10_readsFrame_186 ?_
                    refine j_cald X (mput_k 6 (by decide)) rfl (tx_in2 (tx_msc6 (tx_setA (tx_digit (tx_takes (tx_setA (tx_takes (tx_setA (tx_takes (tx_takes (tx_setA (tx_addr hT))))))))))) c_178) dX10_readsFrame_189 ?_
                    refine j_bipush X (v := 59) dX10_readsFrame_190 (by decide) ?_
                    refine j_icmp_ne X (tgt := 199) dX10_readsFrame_192 (by decide) (fun c_192 => ?_) (fun c_192 => ?_)
                    · refine j_iconst X (v := 0) dX10_readsFrame_199 (by decide) ?_
                      exact j_iret X hr rfl (by subst ev1; first | (rw [mReads, mR1, if_neg c_25, if_neg c_34, mR2, if_neg c_52, mR3, if_neg c_74, if_pos c_92, mR4, if_neg c_116, if_neg c_125, mR5, if_neg c_155, mR6, if_neg c_178, if_neg c_192]; done) | (rw [mReads, mR1, if_neg c_25, if_neg c_34, mR2, if_neg c_52, mR3, if_neg c_74, if_pos c_92, mR4, if_neg c_116, if_neg c_125, mR5, if_neg c_155, mR6, if_neg c_178, if_neg c_192]; rfl)) rfl (by subst ev1; first | (rw [mReads, mR1, if_neg c_25, if_neg c_34, mR2, if_neg c_52, mR3, if_neg c_74, if_pos c_92, mR4, if_neg c_116, if_neg c_125, mR5, if_neg c_155, mR6, if_neg c_178, if_neg c_192]; done) | (rw [mReads, mR1, if_neg c_25, if_neg c_34, mR2, if_neg c_52, mR3, if_neg c_74, if_pos c_92, mR4, if_neg c_116, if_neg c_125, mR5, if_neg c_155, mR6, if_neg c_178, if_neg c_192]; rfl)) dX10_readsFrame_200
                    · refine j_iconst X (v := 1) dX10_readsFrame_195 (by decide) ?_
                      refine j_goto X (tgt := 200) dX10_readsFrame_196 (by decide) ?_
                      exact j_iret X hr rfl (by subst ev1; first | (rw [mReads, mR1, if_neg c_25, if_neg c_34, mR2, if_neg c_52, mR3, if_neg c_74, if_pos c_92, mR4, if_neg c_116, if_neg c_125, mR5, if_neg c_155, mR6, if_neg c_178, if_pos c_192]; done) | (rw [mReads, mR1, if_neg c_25, if_neg c_34, mR2, if_neg c_52, mR3, if_neg c_74, if_pos c_92, mR4, if_neg c_116, if_neg c_125, mR5, if_neg c_155, mR6, if_neg c_178, if_pos c_192]; rfl)) rfl (by subst ev1; first | (rw [mReads, mR1, if_neg c_25, if_neg c_34, mR2, if_neg c_52, mR3, if_neg c_74, if_pos c_92, mR4, if_neg c_116, if_neg c_125, mR5, if_neg c_155, mR6, if_neg c_178, if_pos c_192]; done) | (rw [mReads, mR1, if_neg c_25, if_neg c_34, mR2, if_neg c_52, mR3, if_neg c_74, if_pos c_92, mR4, if_neg c_116, if_neg c_125, mR5, if_neg c_155, mR6, if_neg c_178, if_pos c_192]; rfl)) dX10_readsFrame_200
                · refine j_iconst X (v := 0) dX10_readsFrame_158 (by decide) ?_
                  exact j_iret X hr rfl (by subst ev1; first | (rw [mReads, mR1, if_neg c_25, if_neg c_34, mR2, if_neg c_52, mR3, if_neg c_74, if_pos c_92, mR4, if_neg c_116, if_neg c_125, mR5, if_pos c_155]; done) | (rw [mReads, mR1, if_neg c_25, if_neg c_34, mR2, if_neg c_52, mR3, if_neg c_74, if_pos c_92, mR4, if_neg c_116, if_neg c_125, mR5, if_pos c_155]; rfl)) rfl (by subst ev1; first | (rw [mReads, mR1, if_neg c_25, if_neg c_34, mR2, if_neg c_52, mR3, if_neg c_74, if_pos c_92, mR4, if_neg c_116, if_neg c_125, mR5, if_pos c_155]; done) | (rw [mReads, mR1, if_neg c_25, if_neg c_34, mR2, if_neg c_52, mR3, if_neg c_74, if_pos c_92, mR4, if_neg c_116, if_neg c_125, mR5, if_pos c_155]; rfl)) dX10_readsFrame_159
              · refine j_iconst X (v := 0) dX10_readsFrame_128 (by decide) ?_
                exact j_iret X hr rfl (by subst ev1; first | (rw [mReads, mR1, if_neg c_25, if_neg c_34, mR2, if_neg c_52, mR3, if_neg c_74, if_pos c_92, mR4, if_neg c_116, if_pos c_125]; done) | (rw [mReads, mR1, if_neg c_25, if_neg c_34, mR2, if_neg c_52, mR3, if_neg c_74, if_pos c_92, mR4, if_neg c_116, if_pos c_125]; rfl)) rfl (by subst ev1; first | (rw [mReads, mR1, if_neg c_25, if_neg c_34, mR2, if_neg c_52, mR3, if_neg c_74, if_pos c_92, mR4, if_neg c_116, if_pos c_125]; done) | (rw [mReads, mR1, if_neg c_25, if_neg c_34, mR2, if_neg c_52, mR3, if_neg c_74, if_pos c_92, mR4, if_neg c_116, if_pos c_125]; rfl)) dX10_readsFrame_129
          · refine j_aload_n X 1 dX10_readsFrame_95 rfl rfl ?_
            refine j_iconst X (v := 0) dX10_readsFrame_96 (by decide) ?_
            refine j_iconst X (v := 3) dX10_readsFrame_97 (by decide) ?_
            refine j_callVi X (rest := [.int (v1 + 2), .ref (b + 7)]) (c_X10_digit l (tx_takes (tx_setA (tx_takes (tx_takes (tx_setA (tx_addr hT))))))) m_yX10_digit kM_RX10_130 mput_0 rfl rfl rfl rfl rfl (Nat.le_of_ble_eq_true rfl) ⟨Nat.le_of_ble_eq_true rfl, Nat.le_of_ble_eq_true rfl, Nat.le_of_ble_eq_true rfl, Nat.le_of_ble_eq_true rfl⟩ dX10_readsFrame_98 ?_
            refine j_goto X (tgt := 105) dX10_readsFrame_101 (by decide) ?_
            refine j_stA6 X (by rw [← ev1]; exact in_rf 2 (by decide) hR) dX10_readsFrame_105 ?_
            refine j_aload_n X 1 dX10_readsFrame_106 rfl rfl ?_
            refine j_get X fG_RX10_29 mput_0 rfl rfl dX10_readsFrame_107 ?_
            refine j_iload_n X 0 dX10_readsFrame_110 rfl rfl ?_
            refine j_iconst X (v := 2) dX10_readsFrame_111 (by decide) ?_
            refine j_iadd X dX10_readsFrame_112 ?_
            refine j_ldA6 X (by rw [← ev1]; exact in_rf 2 (by decide) hR) dX10_readsFrame_113 ?_
            refine j_bipush X (v := (-4)) dX10_readsFrame_114 (by decide) ?_
            refine j_icmp_eq X (tgt := 128) dX10_readsFrame_116 (by decide) (fun c_116 => ?_) (fun c_116 => ?_)
            · refine j_iconst X (v := 0) dX10_readsFrame_128 (by decide) ?_
              exact j_iret X hr rfl (by subst ev1; first | (rw [mReads, mR1, if_neg c_25, if_neg c_34, mR2, if_neg c_52, mR3, if_neg c_74, if_neg c_92, mR4, if_pos c_116]; done) | (rw [mReads, mR1, if_neg c_25, if_neg c_34, mR2, if_neg c_52, mR3, if_neg c_74, if_neg c_92, mR4, if_pos c_116]; rfl)) rfl (by subst ev1; first | (rw [mReads, mR1, if_neg c_25, if_neg c_34, mR2, if_neg c_52, mR3, if_neg c_74, if_neg c_92, mR4, if_pos c_116]; done) | (rw [mReads, mR1, if_neg c_25, if_neg c_34, mR2, if_neg c_52, mR3, if_neg c_74, if_neg c_92, mR4, if_pos c_116]; rfl)) dX10_readsFrame_129
            · refine j_aload_n X 1 dX10_readsFrame_119 rfl rfl ?_
              refine j_bipush X (v := 64) dX10_readsFrame_120 (by decide) ?_
              refine j_callVi X (rest := []) (c_X10_takes l (tx_setA (tx_digit (tx_takes (tx_setA (tx_takes (tx_takes (tx_setA (tx_addr hT))))))))) m_yX10_takes kM_RX10_139 mput_0 rfl rfl rfl rfl rfl (Nat.le_of_ble_eq_true rfl) ⟨Nat.le_of_ble_eq_true rfl, Nat.le_of_ble_eq_true rfl, Nat.le_of_ble_eq_true rfl, Nat.le_of_ble_eq_true rfl⟩ dX10_readsFrame_122 ?_
              refine j_if_ne X (tgt := 130) dX10_readsFrame_125 (by decide) (fun c_125 => ?_) (fun c_125 => ?_)
              · refine j_aload_n X 1 dX10_readsFrame_130 rfl rfl ?_
                refine j_get X fG_RX10_29 mput_0 rfl rfl dX10_readsFrame_131 ?_
                refine j_iload_n X 0 dX10_readsFrame_134 rfl rfl ?_
                refine j_iconst X (v := 3) dX10_readsFrame_135 (by decide) ?_
                refine j_iadd X dX10_readsFrame_136 ?_
                refine j_aload_n X 1 dX10_readsFrame_137 rfl rfl ?_
                refine j_iconst X (v := 0) dX10_readsFrame_138 (by decide) ?_
                refine j_bipush X (v := 7) dX10_readsFrame_139 (by decide) ?_
                refine j_callVi X (rest := [.int (v1 + 3), .ref (b + 7)]) (c_X10_digit l (tx_takes (tx_setA (tx_digit (tx_takes (tx_setA (tx_takes (tx_takes (tx_setA (tx_addr hT)))))))))) m_yX10_digit kM_RX10_130 mput_0 rfl rfl rfl rfl rfl (Nat.le_of_ble_eq_true rfl) ⟨Nat.le_of_ble_eq_true rfl, Nat.le_of_ble_eq_true rfl, Nat.le_of_ble_eq_true rfl, Nat.le_of_ble_eq_true rfl⟩ dX10_readsFrame_141 ?_
                refine j_stA6 X (by rw [← ev1]; exact in_rf 3 (by decide) hR) dX10_readsFrame_144 ?_
                refine j_aload_n X 1 dX10_readsFrame_145 rfl rfl ?_
                refine j_get X fG_RX10_29 mput_0 rfl rfl dX10_readsFrame_146 ?_
                refine j_iload_n X 0 dX10_readsFrame_149 rfl rfl ?_
                refine j_iconst X (v := 3) dX10_readsFrame_150 (by decide) ?_
                refine j_iadd X dX10_readsFrame_151 ?_
                refine j_ldA6 X (by rw [← ev1]; exact in_rf 3 (by decide) hR) dX10_readsFrame_152 ?_
                refine j_bipush X (v := (-4)) dX10_readsFrame_153 (by decide) ?_
                refine j_icmp_ne X (tgt := 160) dX10_readsFrame_155 (by decide) (fun c_155 => ?_) (fun c_155 => ?_)
                · refine j_aload_n X 1 dX10_readsFrame_160 rfl rfl ?_
                  refine j_dup X dX10_readsFrame_161 rfl ?_
                  refine j_get X fG_RX10_133 mput_0 rfl rfl dX10_readsFrame_162 ?_
                  refine j_iconst X (v := 1) dX10_readsFrame_165 (by decide) ?_
                  refine j_iadd X dX10_readsFrame_166 ?_
                  refine j_put X fG_RX10_133 fW_10_12 mput_0 rfl rfl rfl (Nat.le_of_ble_eq_true rfl) dX10_readsFrame_167 ?_
                  refine j_heap (h' := mput D h b (msc (setA ((mDigit ((mTakes (setA ((mDigit ((mTakes (setA ((mTakes ((mTakes (setA ((mAddr μ).2) 6 v1 ((mAddr μ).1)) 62).2) 42).2) 6 (v1 + 1) 0) 33).2) 0 3).2) 6 (v1 + 2) ((mDigit ((mTakes (setA ((mTakes ((mTakes (setA ((mAddr μ).2) 6 v1 ((mAddr μ).1)) 62).2) 42).2) 6 (v1 + 1) 0) 33).2) 0 3).1)) 64).2) 0 7).2) 6 (v1 + 3) ((mDigit ((mTakes (setA ((mDigit ((mTakes (setA ((mTakes ((mTakes (setA ((mAddr μ).2) 6 v1 ((mAddr μ).1)) 62).2) 42).2) 6 (v1 + 1) 0) 33).2) 0 3).2) 6 (v1 + 2) ((mDigit ((mTakes (setA ((mTakes ((mTakes (setA ((mAddr μ).2) 6 v1 ((mAddr μ).1)) 62).2) 42).2) 6 (v1 + 1) 0) 33).2) 0 3).1)) 64).2) 0 7).1)) 6 (((setA ((mDigit ((mTakes (setA ((mDigit ((mTakes (setA ((mTakes ((mTakes (setA ((mAddr μ).2) 6 v1 ((mAddr μ).1)) 62).2) 42).2) 6 (v1 + 1) 0) 33).2) 0 3).2) 6 (v1 + 2) ((mDigit ((mTakes (setA ((mTakes ((mTakes (setA ((mAddr μ).2) 6 v1 ((mAddr μ).1)) 62).2) 42).2) 6 (v1 + 1) 0) 33).2) 0 3).1)) 64).2) 0 7).2) 6 (v1 + 3) ((mDigit ((mTakes (setA ((mDigit ((mTakes (setA ((mTakes ((mTakes (setA ((mAddr μ).2) 6 v1 ((mAddr μ).1)) 62).2) 42).2) 6 (v1 + 1) 0) 33).2) 0 3).2) 6 (v1 + 2) ((mDigit ((mTakes (setA ((mTakes ((mTakes (setA ((mAddr μ).2) 6 v1 ((mAddr μ).1)) 62).2) 42).2) 6 (v1 + 1) 0) 33).2) 0 3).1)) 64).2) 0 7).1)).1 6) + 1))) mput_s6 ?_
                  refine j_aload_n X 1 dX10_readsFrame_170 rfl rfl ?_
                  refine j_get X fG_RX10_127 mput_0 rfl rfl dX10_readsFrame_171 ?_
                  refine j_aload_n X 1 dX10_readsFrame_174 rfl rfl ?_
                  refine j_get X fG_RX10_124 mput_0 rfl rfl dX10_readsFrame_175 ?_
                  refine j_icmp_eq X (tgt := 195) dX10_readsFrame_178 (by decide) (fun c_178 => ?_) (fun c_178 => ?_)
                  · refine j_iconst X (v := 1) dX10_readsFrame_195 (by decide) ?_
                    refine j_goto X (tgt := 200) dX10_readsFrame_196 (by decide) ?_
                    exact j_iret X hr rfl (by subst ev1; first | (rw [mReads, mR1, if_neg c_25, if_neg c_34, mR2, if_neg c_52, mR3, if_neg c_74, if_neg c_92, mR4, if_neg c_116, if_neg c_125, mR5, if_neg c_155, mR6, if_pos c_178]; done) | (rw [mReads, mR1, if_neg c_25, if_neg c_34, mR2, if_neg c_52, mR3, if_neg c_74, if_neg c_92, mR4, if_neg c_116, if_neg c_125, mR5, if_neg c_155, mR6, if_pos c_178]; rfl)) rfl (by subst ev1; first | (rw [mReads, mR1, if_neg c_25, if_neg c_34, mR2, if_neg c_52, mR3, if_neg c_74, if_neg c_92, mR4, if_neg c_116, if_neg c_125, mR5, if_neg c_155, mR6, if_pos c_178]; done) | (rw [mReads, mR1, if_neg c_25, if_neg c_34, mR2, if_neg c_52, mR3, if_neg c_74, if_neg c_92, mR4, if_neg c_116, if_neg c_125, mR5, if_neg c_155, mR6, if_pos c_178]; rfl)) dX10_readsFrame_200
                  · refine j_aload_n X 1 dX10_readsFrame_181 rfl rfl ?_
                    refine j_get X fG_RX10_25 mput_0 rfl rfl dX10_readsFrame_182 ?_
                    refine j_aload_n X 1 dX10_readsFrame_185 rfl rfl ?_
                    refine j_get X fG_RX10_127 mput_0 rfl rfl dX10_readsFrame_186 ?_
                    refine j_cald X (mput_k 6 (by decide)) rfl (tx_in2 (tx_msc6 (tx_setA (tx_digit (tx_takes (tx_setA (tx_digit (tx_takes (tx_setA (tx_takes (tx_takes (tx_setA (tx_addr hT)))))))))))) c_178) dX10_readsFrame_189 ?_
                    refine j_bipush X (v := 59) dX10_readsFrame_190 (by decide) ?_
                    refine j_icmp_ne X (tgt := 199) dX10_readsFrame_192 (by decide) (fun c_192 => ?_) (fun c_192 => ?_)
                    · refine j_iconst X (v := 0) dX10_readsFrame_199 (by decide) ?_
                      exact j_iret X hr rfl (by subst ev1; first | (rw [mReads, mR1, if_neg c_25, if_neg c_34, mR2, if_neg c_52, mR3, if_neg c_74, if_neg c_92, mR4, if_neg c_116, if_neg c_125, mR5, if_neg c_155, mR6, if_neg c_178, if_neg c_192]; done) | (rw [mReads, mR1, if_neg c_25, if_neg c_34, mR2, if_neg c_52, mR3, if_neg c_74, if_neg c_92, mR4, if_neg c_116, if_neg c_125, mR5, if_neg c_155, mR6, if_neg c_178, if_neg c_192]; rfl)) rfl (by subst ev1; first | (rw [mReads, mR1, if_neg c_25, if_neg c_34, mR2, if_neg c_52, mR3, if_neg c_74, if_neg c_92, mR4, if_neg c_116, if_neg c_125, mR5, if_neg c_155, mR6, if_neg c_178, if_neg c_192]; done) | (rw [mReads, mR1, if_neg c_25, if_neg c_34, mR2, if_neg c_52, mR3, if_neg c_74, if_neg c_92, mR4, if_neg c_116, if_neg c_125, mR5, if_neg c_155, mR6, if_neg c_178, if_neg c_192]; rfl)) dX10_readsFrame_200
                    · refine j_iconst X (v := 1) dX10_readsFrame_195 (by decide) ?_
                      refine j_goto X (tgt := 200) dX10_readsFrame_196 (by decide) ?_
                      exact j_iret X hr rfl (by subst ev1; first | (rw [mReads, mR1, if_neg c_25, if_neg c_34, mR2, if_neg c_52, mR3, if_neg c_74, if_neg c_92, mR4, if_neg c_116, if_neg c_125, mR5, if_neg c_155, mR6, if_neg c_178, if_pos c_192]; done) | (rw [mReads, mR1, if_neg c_25, if_neg c_34, mR2, if_neg c_52, mR3, if_neg c_74, if_neg c_92, mR4, if_neg c_116, if_neg c_125, mR5, if_neg c_155, mR6, if_neg c_178, if_pos c_192]; rfl)) rfl (by subst ev1; first | (rw [mReads, mR1, if_neg c_25, if_neg c_34, mR2, if_neg c_52, mR3, if_neg c_74, if_neg c_92, mR4, if_neg c_116, if_neg c_125, mR5, if_neg c_155, mR6, if_neg c_178, if_pos c_192]; done) | (rw [mReads, mR1, if_neg c_25, if_neg c_34, mR2, if_neg c_52, mR3, if_neg c_74, if_neg c_92, mR4, if_neg c_116, if_neg c_125, mR5, if_neg c_155, mR6, if_neg c_178, if_pos c_192]; rfl)) dX10_readsFrame_200
                · refine j_iconst X (v := 0) dX10_readsFrame_158 (by decide) ?_
                  exact j_iret X hr rfl (by subst ev1; first | (rw [mReads, mR1, if_neg c_25, if_neg c_34, mR2, if_neg c_52, mR3, if_neg c_74, if_neg c_92, mR4, if_neg c_116, if_neg c_125, mR5, if_pos c_155]; done) | (rw [mReads, mR1, if_neg c_25, if_neg c_34, mR2, if_neg c_52, mR3, if_neg c_74, if_neg c_92, mR4, if_neg c_116, if_neg c_125, mR5, if_pos c_155]; rfl)) rfl (by subst ev1; first | (rw [mReads, mR1, if_neg c_25, if_neg c_34, mR2, if_neg c_52, mR3, if_neg c_74, if_neg c_92, mR4, if_neg c_116, if_neg c_125, mR5, if_pos c_155]; done) | (rw [mReads, mR1, if_neg c_25, if_neg c_34, mR2, if_neg c_52, mR3, if_neg c_74, if_neg c_92, mR4, if_neg c_116, if_neg c_125, mR5, if_pos c_155]; rfl)) dX10_readsFrame_159
              · refine j_iconst X (v := 0) dX10_readsFrame_128 (by decide) ?_
                exact j_iret X hr rfl (by subst ev1; first | (rw [mReads, mR1, if_neg c_25, if_neg c_34, mR2, if_neg c_52, mR3, if_neg c_74, if_neg c_92, mR4, if_neg c_116, if_pos c_125]; done) | (rw [mReads, mR1, if_neg c_25, if_neg c_34, mR2, if_neg c_52, mR3, if_neg c_74, if_neg c_92, mR4, if_neg c_116, if_pos c_125]; rfl)) rfl (by subst ev1; first | (rw [mReads, mR1, if_neg c_25, if_neg c_34, mR2, if_neg c_52, mR3, if_neg c_74, if_neg c_92, mR4, if_neg c_116, if_pos c_125]; done) | (rw [mReads, mR1, if_neg c_25, if_neg c_34, mR2, if_neg c_52, mR3, if_neg c_74, if_neg c_92, mR4, if_neg c_116, if_pos c_125]; rfl)) dX10_readsFrame_129
        · refine j_iconst X (v := 0) dX10_readsFrame_77 (by decide) ?_
          exact j_iret X hr rfl (by subst ev1; first | (rw [mReads, mR1, if_neg c_25, if_neg c_34, mR2, if_neg c_52, mR3, if_pos c_74]; done) | (rw [mReads, mR1, if_neg c_25, if_neg c_34, mR2, if_neg c_52, mR3, if_pos c_74]; rfl)) rfl (by subst ev1; first | (rw [mReads, mR1, if_neg c_25, if_neg c_34, mR2, if_neg c_52, mR3, if_pos c_74]; done) | (rw [mReads, mR1, if_neg c_25, if_neg c_34, mR2, if_neg c_52, mR3, if_pos c_74]; rfl)) dX10_readsFrame_78
    · refine j_iconst X (v := 0) dX10_readsFrame_37 (by decide) ?_
      exact j_iret X hr rfl (by subst ev1; first | (rw [mReads, mR1, if_neg c_25, if_pos c_34]; done) | (rw [mReads, mR1, if_neg c_25, if_pos c_34]; rfl)) rfl (by subst ev1; first | (rw [mReads, mR1, if_neg c_25, if_pos c_34]; done) | (rw [mReads, mR1, if_neg c_25, if_pos c_34]; rfl)) dX10_readsFrame_38
