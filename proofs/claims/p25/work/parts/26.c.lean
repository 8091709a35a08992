set_option maxRecDepth 100000 in
set_option maxHeartbeats 8000000 in
theorem c_X6_learnAndDecide (l : Launch) {D : DD} {B z : Nat} {h : HF} {a : Nat} {σ : St} {p s d : Int32} : CT l yX6_learnAndDecide cX6_learnAndDecide 6 (some .int) 3 67 [.ref a, .int p, .int s, .int d] D B z (hput D h a σ) (some (.int ((sLD σ p s d).1))) 0 0 (hput D h a ((sLD σ p s d).2)) := by
  refine CT.of (L := [(0, .ref a), (1, .int p), (2, .int s), (3, .int d)]) (by decide +kernel) (Nat.le_of_ble_eq_true rfl) rfl ?_
  intro P E S0 M0 AR BL ME CO X hr hnm
  refine j_aload_n X 0 dX6_learnAndDecide_0 rfl rfl ?_
  refine j_get X fG_RX6_27 hput_0 rfl rfl dX6_learnAndDecide_1 ?_
  refine j_iload_n X 1 dX6_learnAndDecide_4 rfl rfl ?_
  refine j_callVi X (rest := []) (c_X3_isOpen l) m_yX3_isOpen kM_RX6_110 (hput_k 3 (by decide)) rfl rfl rfl rfl rfl (Nat.le_of_ble_eq_true rfl) ⟨Nat.le_of_ble_eq_true rfl, Nat.le_of_ble_eq_true rfl, Nat.le_of_ble_eq_true rfl, Nat.le_of_ble_eq_true rfl⟩ dX6_learnAndDecide_5 ?_
  refine j_if_ne X (tgt := 13) dX6_learnAndDecide_8 (by decide) (fun c_8 => ?_) (fun c_8 => ?_)
  · refine j_aload_n X 0 dX6_learnAndDecide_13 rfl rfl ?_
    refine j_get X fG_RX6_41 hput_0 rfl rfl dX6_learnAndDecide_14 ?_
    refine j_iload_n X 2 dX6_learnAndDecide_17 rfl rfl ?_
    refine j_callVi X (rest := []) (c_X7_portOf l) m_yX7_portOf kM_RX6_114 (hput_k 21 (by decide)) rfl rfl rfl rfl rfl (Nat.le_of_ble_eq_true rfl) ⟨Nat.le_of_ble_eq_true rfl, Nat.le_of_ble_eq_true rfl, Nat.le_of_ble_eq_true rfl, Nat.le_of_ble_eq_true rfl⟩ dX6_learnAndDecide_18 ?_
    refine j_tops (fun v1 ev1 => ?_)
    refine j_istore X (L' := [(4, .int v1), (0, .ref a), (1, .int p), (2, .int s), (3, .int d)]) dX6_learnAndDecide_21 (by decide) rfl ?_
    refine j_aload_n X 1 dX6_learnAndDecide_23 rfl rfl ?_
    refine j_get X fG_RX6_41 hput_0 rfl rfl dX6_learnAndDecide_24 ?_
    refine j_iload_n X 3 dX6_learnAndDecide_27 rfl rfl ?_
    refine j_iload_n X 2 dX6_learnAndDecide_28 rfl rfl ?_
    refine j_aload_n X 1 dX6_learnAndDecide_29 rfl rfl ?_
    refine j_get X fG_RX6_72 hput_0 rfl rfl dX6_learnAndDecide_30 ?_
    refine j_callVv X (rest := []) (c_X7_learn l) m_yX7_learn kM_RX6_117 (hput_k 21 (by decide)) rfl rfl rfl rfl rfl (Nat.le_of_ble_eq_true rfl) ⟨Nat.le_of_ble_eq_true rfl, Nat.le_of_ble_eq_true rfl, Nat.le_of_ble_eq_true rfl, Nat.le_of_ble_eq_true rfl⟩ dX6_learnAndDecide_33 ?_
    refine j_iload X 0 dX6_learnAndDecide_36 rfl ?_
    refine j_bipush X (v := (-4)) dX6_learnAndDecide_38 (by decide) ?_
    refine j_icmp_eq X (tgt := 81) dX6_learnAndDecide_40 (by decide) (fun c_40 => ?_) (fun c_40 => ?_)
    · refine j_aload_n X 1 dX6_learnAndDecide_81 rfl rfl ?_
      refine j_get X fG_RX6_41 hput_0 rfl rfl dX6_learnAndDecide_82 ?_
      refine j_iload_n X 4 dX6_learnAndDecide_85 rfl rfl ?_
      refine j_callVi X (rest := []) (c_X7_portOf l) m_yX7_portOf kM_RX6_114 (hput_k 21 (by decide)) rfl rfl rfl rfl rfl (Nat.le_of_ble_eq_true rfl) ⟨Nat.le_of_ble_eq_true rfl, Nat.le_of_ble_eq_true rfl, Nat.le_of_ble_eq_true rfl, Nat.le_of_ble_eq_true rfl⟩ dX6_learnAndDecide_86 ?_
      refine j_tops (fun v2 ev2 => ?_)
      refine j_istore X (L' := [(5, .int v2), (4, .int v1), (0, .ref a), (1, .int p), (2, .int s), (3, .int d)]) dX6_learnAndDecide_89 (by decide) rfl ?_
      refine j_iload X 0 dX6_learnAndDecide_91 rfl ?_
      refine j_iload_n X 3 dX6_learnAndDecide_93 rfl rfl ?_
      refine j_icmp_ne X (tgt := 99) dX6_learnAndDecide_94 (by decide) (fun c_94 => ?_) (fun c_94 => ?_)
      · refine j_iload X 0 dX6_learnAndDecide_99 rfl ?_
        refine j_bipush X (v := (-4)) dX6_learnAndDecide_101 (by decide) ?_
        refine j_icmp_eq X (tgt := 125) dX6_learnAndDecide_103 (by decide) (fun c_103 => ?_) (fun c_103 => ?_)
        · refine j_aload_n X 2 dX6_learnAndDecide_125 rfl rfl ?_
          refine j_get X fG_RX6_27 hput_0 rfl rfl dX6_learnAndDecide_126 ?_
          refine j_getN X fN_RX6_129 (hput_k 3 (by decide)) rfl rfl dX6_learnAndDecide_129 ?_
          refine j_iload_n X 3 dX6_learnAndDecide_132 rfl rfl ?_
          refine j_callVi X (rest := []) (s_at5 l) m_yX5_at kM_RX6_85 (hput_k 12 (by decide)) rfl rfl rfl rfl rfl (Nat.le_of_ble_eq_true rfl) ⟨Nat.le_of_ble_eq_true rfl, Nat.le_of_ble_eq_true rfl, Nat.le_of_ble_eq_true rfl, Nat.le_of_ble_eq_true rfl⟩ dX6_learnAndDecide_133 ?_
          refine j_aload_n X 2 dX6_learnAndDecide_136 rfl rfl ?_
          refine j_get X fG_RX6_18 hput_0 rfl rfl dX6_learnAndDecide_137 ?_
          refine j_iconst X (v := 2) dX6_learnAndDecide_140 (by decide) ?_
          refine j_callVi X (rest := [.int (oAt 5 8 (tLearn σ s p (σ.2 0)) p)]) (s_at0 l) m_yX5_at kM_RX6_85 (hput_k 1 (by decide)) rfl rfl rfl rfl rfl (Nat.le_of_ble_eq_true rfl) ⟨Nat.le_of_ble_eq_true rfl, Nat.le_of_ble_eq_true rfl, Nat.le_of_ble_eq_true rfl, Nat.le_of_ble_eq_true rfl⟩ dX6_learnAndDecide_141 ?_
          refine j_icmp_lt X (tgt := 155) dX6_learnAndDecide_144 (by decide) (fun c_144 => ?_) (fun c_144 => ?_)
          · refine j_aload_n X 2 dX6_learnAndDecide_155 rfl rfl ?_
            refine j_get X fG_RX6_27 hput_0 rfl rfl dX6_learnAndDecide_156 ?_
            refine j_getN X fN_RX6_129 (hput_k 3 (by decide)) rfl rfl dX6_learnAndDecide_159 ?_
            refine j_iload_n X 3 dX6_learnAndDecide_162 rfl rfl ?_
            refine j_iconst X (v := 1) dX6_learnAndDecide_163 (by decide) ?_
            refine j_callVv X (rest := []) (s_add5 l) m_yX5_add kM_RX6_132 (hput_k 12 (by decide)) rfl rfl rfl rfl rfl (Nat.le_of_ble_eq_true rfl) ⟨Nat.le_of_ble_eq_true rfl, Nat.le_of_ble_eq_true rfl, Nat.le_of_ble_eq_true rfl, Nat.le_of_ble_eq_true rfl⟩ dX6_learnAndDecide_164 ?_
            refine j_iconst X (v := 3) dX6_learnAndDecide_167 (by decide) ?_
            exact j_iret X hr rfl (by subst ev2 ev1; first | with_reducible rfl | (simp only [sLD, sMoved, sDec, if_neg c_8, if_pos c_40, if_neg c_94, if_pos c_103, if_pos c_144]; done) | (simp only [sLD, sMoved, sDec, if_neg c_8, if_pos c_40, if_neg c_94, if_pos c_103, if_pos c_144]; rfl) | rfl) rfl (by subst ev2 ev1; first | with_reducible rfl | (simp only [sLD, sMoved, sDec, if_neg c_8, if_pos c_40, if_neg c_94, if_pos c_103, if_pos c_144]; done) | (simp only [sLD, sMoved, sDec, if_neg c_8, if_pos c_40, if_neg c_94, if_pos c_103, if_pos c_144]; rfl) | rfl) dX6_learnAndDecide_168
          · refine j_aload_n X 2 dX6_learnAndDecide_147 rfl rfl ?_
            refine j_iload_n X 3 dX6_learnAndDecide_148 rfl rfl ?_
            refine j_iconst X (v := 2) dX6_learnAndDecide_149 (by decide) ?_
            refine j_callVv X (rest := []) (c_X6_quarantine l) m_yX6_quarantine kM_RX6_126 hput_0 rfl rfl rfl rfl rfl (Nat.le_of_ble_eq_true rfl) ⟨Nat.le_of_ble_eq_true rfl, Nat.le_of_ble_eq_true rfl, Nat.le_of_ble_eq_true rfl, Nat.le_of_ble_eq_true rfl⟩ dX6_learnAndDecide_150 ?_
            refine j_iconst X (v := 5) dX6_learnAndDecide_153 (by decide) ?_
            exact j_iret X hr rfl (by subst ev2 ev1; first | with_reducible rfl | (simp only [sLD, sMoved, sDec, if_neg c_8, if_pos c_40, if_neg c_94, if_pos c_103, if_neg c_144]; done) | (simp only [sLD, sMoved, sDec, if_neg c_8, if_pos c_40, if_neg c_94, if_pos c_103, if_neg c_144]; rfl) | rfl) rfl (by subst ev2 ev1; first | with_reducible rfl | (simp only [sLD, sMoved, sDec, if_neg c_8, if_pos c_40, if_neg c_94, if_pos c_103, if_neg c_144]; done) | (simp only [sLD, sMoved, sDec, if_neg c_8, if_pos c_40, if_neg c_94, if_pos c_103, if_neg c_144]; rfl) | rfl) dX6_learnAndDecide_154
        · refine j_aload_n X 2 dX6_learnAndDecide_106 rfl rfl ?_
          refine j_get X fG_RX6_27 hput_0 rfl rfl dX6_learnAndDecide_107 ?_
          refine j_iload X 0 dX6_learnAndDecide_110 rfl ?_
          refine j_callVi X (rest := []) (c_X3_isOpen l) m_yX3_isOpen kM_RX6_110 (hput_k 3 (by decide)) rfl rfl rfl rfl rfl (Nat.le_of_ble_eq_true rfl) ⟨Nat.le_of_ble_eq_true rfl, Nat.le_of_ble_eq_true rfl, Nat.le_of_ble_eq_true rfl, Nat.le_of_ble_eq_true rfl⟩ dX6_learnAndDecide_112 ?_
          refine j_if_eq X (tgt := 122) dX6_learnAndDecide_115 (by decide) (fun c_115 => ?_) (fun c_115 => ?_)
          · refine j_bipush X (v := 6) dX6_learnAndDecide_122 (by decide) ?_
            exact j_iret X hr rfl (by subst ev2 ev1; first | with_reducible rfl | (simp only [sLD, sMoved, sDec, if_neg c_8, if_pos c_40, if_neg c_94, if_neg c_103, if_pos c_115]; done) | (simp only [sLD, sMoved, sDec, if_neg c_8, if_pos c_40, if_neg c_94, if_neg c_103, if_pos c_115]; rfl) | rfl) rfl (by subst ev2 ev1; first | with_reducible rfl | (simp only [sLD, sMoved, sDec, if_neg c_8, if_pos c_40, if_neg c_94, if_neg c_103, if_pos c_115]; done) | (simp only [sLD, sMoved, sDec, if_neg c_8, if_pos c_40, if_neg c_94, if_neg c_103, if_pos c_115]; rfl) | rfl) dX6_learnAndDecide_124
          · refine j_iconst X (v := 2) dX6_learnAndDecide_118 (by decide) ?_
            refine j_goto X (tgt := 124) dX6_learnAndDecide_119 (by decide) ?_
            exact j_iret X hr rfl (by subst ev2 ev1; first | with_reducible rfl | (simp only [sLD, sMoved, sDec, if_neg c_8, if_pos c_40, if_neg c_94, if_neg c_103, if_neg c_115]; done) | (simp only [sLD, sMoved, sDec, if_neg c_8, if_pos c_40, if_neg c_94, if_neg c_103, if_neg c_115]; rfl) | rfl) rfl (by subst ev2 ev1; first | with_reducible rfl | (simp only [sLD, sMoved, sDec, if_neg c_8, if_pos c_40, if_neg c_94, if_neg c_103, if_neg c_115]; done) | (simp only [sLD, sMoved, sDec, if_neg c_8, if_pos c_40, if_neg c_94, if_neg c_103, if_neg c_115]; rfl) | rfl) dX6_learnAndDecide_124
      · refine j_iconst X (v := 1) dX6_learnAndDecide_97 (by decide) ?_
        exact j_iret X hr rfl (by subst ev2 ev1; first | with_reducible rfl | (simp only [sLD, sMoved, sDec, if_neg c_8, if_pos c_40, if_pos c_94]; done) | (simp only [sLD, sMoved, sDec, if_neg c_8, if_pos c_40, if_pos c_94]; rfl) | rfl) rfl (by subst ev2 ev1; first | with_reducible rfl | (simp only [sLD, sMoved, sDec, if_neg c_8, if_pos c_40, if_pos c_94]; done) | (simp only [sLD, sMoved, sDec, if_neg c_8, if_pos c_40, if_pos c_94]; rfl) | rfl) dX6_learnAndDecide_98
    · refine j_iload X 0 dX6_learnAndDecide_43 rfl ?_
      refine j_iload_n X 2 dX6_learnAndDecide_45 rfl rfl ?_
      refine j_icmp_eq X (tgt := 81) dX6_learnAndDecide_46 (by decide) (fun c_46 => ?_) (fun c_46 => ?_)
      · refine j_aload_n X 1 dX6_learnAndDecide_81 rfl rfl ?_
        refine j_get X fG_RX6_41 hput_0 rfl rfl dX6_learnAndDecide_82 ?_
        refine j_iload_n X 4 dX6_learnAndDecide_85 rfl rfl ?_
        refine j_callVi X (rest := []) (c_X7_portOf l) m_yX7_portOf kM_RX6_114 (hput_k 21 (by decide)) rfl rfl rfl rfl rfl (Nat.le_of_ble_eq_true rfl) ⟨Nat.le_of_ble_eq_true rfl, Nat.le_of_ble_eq_true rfl, Nat.le_of_ble_eq_true rfl, Nat.le_of_ble_eq_true rfl⟩ dX6_learnAndDecide_86 ?_
        refine j_tops (fun v3 ev3 => ?_)
        refine j_istore X (L' := [(5, .int v3), (4, .int v1), (0, .ref a), (1, .int p), (2, .int s), (3, .int d)]) dX6_learnAndDecide_89 (by decide) rfl ?_
        refine j_iload X 0 dX6_learnAndDecide_91 rfl ?_
        refine j_iload_n X 3 dX6_learnAndDecide_93 rfl rfl ?_
        refine j_icmp_ne X (tgt := 99) dX6_learnAndDecide_94 (by decide) (fun c_94 => ?_) (fun c_94 => ?_)
        · refine j_iload X 0 dX6_learnAndDecide_99 rfl ?_
          refine j_bipush X (v := (-4)) dX6_learnAndDecide_101 (by decide) ?_
          refine j_icmp_eq X (tgt := 125) dX6_learnAndDecide_103 (by decide) (fun c_103 => ?_) (fun c_103 => ?_)
          · refine j_aload_n X 2 dX6_learnAndDecide_125 rfl rfl ?_
            refine j_get X fG_RX6_27 hput_0 rfl rfl dX6_learnAndDecide_126 ?_
            refine j_getN X fN_RX6_129 (hput_k 3 (by decide)) rfl rfl dX6_learnAndDecide_129 ?_
            refine j_iload_n X 3 dX6_learnAndDecide_132 rfl rfl ?_
            refine j_callVi X (rest := []) (s_at5 l) m_yX5_at kM_RX6_85 (hput_k 12 (by decide)) rfl rfl rfl rfl rfl (Nat.le_of_ble_eq_true rfl) ⟨Nat.le_of_ble_eq_true rfl, Nat.le_of_ble_eq_true rfl, Nat.le_of_ble_eq_true rfl, Nat.le_of_ble_eq_true rfl⟩ dX6_learnAndDecide_133 ?_
            refine j_aload_n X 2 dX6_learnAndDecide_136 rfl rfl ?_
            refine j_get X fG_RX6_18 hput_0 rfl rfl dX6_learnAndDecide_137 ?_
            refine j_iconst X (v := 2) dX6_learnAndDecide_140 (by decide) ?_
            refine j_callVi X (rest := [.int (oAt 5 8 (tLearn σ s p (σ.2 0)) p)]) (s_at0 l) m_yX5_at kM_RX6_85 (hput_k 1 (by decide)) rfl rfl rfl rfl rfl (Nat.le_of_ble_eq_true rfl) ⟨Nat.le_of_ble_eq_true rfl, Nat.le_of_ble_eq_true rfl, Nat.le_of_ble_eq_true rfl, Nat.le_of_ble_eq_true rfl⟩ dX6_learnAndDecide_141 ?_
            refine j_icmp_lt X (tgt := 155) dX6_learnAndDecide_144 (by decide) (fun c_144 => ?_) (fun c_144 => ?_)
            · refine j_aload_n X 2 dX6_learnAndDecide_155 rfl rfl ?_
              refine j_get X fG_RX6_27 hput_0 rfl rfl dX6_learnAndDecide_156 ?_
              refine j_getN X fN_RX6_129 (hput_k 3 (by decide)) rfl rfl dX6_learnAndDecide_159 ?_
              refine j_iload_n X 3 dX6_learnAndDecide_162 rfl rfl ?_
              refine j_iconst X (v := 1) dX6_learnAndDecide_163 (by decide) ?_
              refine j_callVv X (rest := []) (s_add5 l) m_yX5_add kM_RX6_132 (hput_k 12 (by decide)) rfl rfl rfl rfl rfl (Nat.le_of_ble_eq_true rfl) ⟨Nat.le_of_ble_eq_true rfl, Nat.le_of_ble_eq_true rfl, Nat.le_of_ble_eq_true rfl, Nat.le_of_ble_eq_true rfl⟩ dX6_learnAndDecide_164 ?_
              refine j_iconst X (v := 3) dX6_learnAndDecide_167 (by decide) ?_
              exact j_iret X hr rfl (by subst ev3 ev1; first | with_reducible rfl | (simp only [sLD, sMoved, sDec, if_neg c_8, if_neg c_40, if_pos c_46, if_neg c_94, if_pos c_103, if_pos c_144]; done) | (simp only [sLD, sMoved, sDec, if_neg c_8, if_neg c_40, if_pos c_46, if_neg c_94, if_pos c_103, if_pos c_144]; rfl) | rfl) rfl (by subst ev3 ev1; first | with_reducible rfl | (simp only [sLD, sMoved, sDec, if_neg c_8, if_neg c_40, if_pos c_46, if_neg c_94, if_pos c_103, if_pos c_144]; done) | (simp only [sLD, sMoved, sDec, if_neg c_8, if_neg c_40, if_pos c_46, if_neg c_94, if_pos c_103, if_pos c_144]; rfl) | rfl) dX6_learnAndDecide_168
            · refine j_aload_n X 2 dX6_learnAndDecide_147 rfl rfl ?_
              refine j_iload_n X 3 dX6_learnAndDecide_148 rfl rfl ?_
              refine j_iconst X (v := 2) dX6_learnAndDecide_149 (by decide) ?_
              refine j_callVv X (rest := []) (c_X6_quarantine l) m_yX6_quarantine kM_RX6_126 hput_0 rfl rfl rfl rfl rfl (Nat.le_of_ble_eq_true rfl) ⟨Nat.le_of_ble_eq_true rfl, Nat.le_of_ble_eq_true rfl, Nat.le_of_ble_eq_true rfl, Nat.le_of_ble_eq_true rfl⟩ dX6_learnAndDecide_150 ?_
              refine j_iconst X (v := 5) dX6_learnAndDecide_153 (by decide) ?_
              exact j_iret X hr rfl (by subst ev3 ev1; first | with_reducible rfl | (simp only [sLD, sMoved, sDec, if_neg c_8, if_neg c_40, if_pos c_46, if_neg c_94, if_pos c_103, if_neg c_144]; done) | (simp only [sLD, sMoved, sDec, if_neg c_8, if_neg c_40, if_pos c_46, if_neg c_94, if_pos c_103, if_neg c_144]; rfl) | rfl) rfl (by subst ev3 ev1; first | with_reducible rfl | (simp only [sLD, sMoved, sDec, if_neg c_8, if_neg c_40, if_pos c_46, if_neg c_94, if_pos c_103, if_neg c_144]; done) | (simp only [sLD, sMoved, sDec, if_neg c_8, if_neg c_40, if_pos c_46, if_neg c_94, if_pos c_103, if_neg c_144]; rfl) | rfl) dX6_learnAndDecide_154
          · refine j_aload_n X 2 dX6_learnAndDecide_106 rfl rfl ?_
            refine j_get X fG_RX6_27 hput_0 rfl rfl dX6_learnAndDecide_107 ?_
            refine j_iload X 0 dX6_learnAndDecide_110 rfl ?_
            refine j_callVi X (rest := []) (c_X3_isOpen l) m_yX3_isOpen kM_RX6_110 (hput_k 3 (by decide)) rfl rfl rfl rfl rfl (Nat.le_of_ble_eq_true rfl) ⟨Nat.le_of_ble_eq_true rfl, Nat.le_of_ble_eq_true rfl, Nat.le_of_ble_eq_true rfl, Nat.le_of_ble_eq_true rfl⟩ dX6_learnAndDecide_112 ?_
            refine j_if_eq X (tgt := 122) dX6_learnAndDecide_115 (by decide) (fun c_115 => ?_) (fun c_115 => ?_)
            · refine j_bipush X (v := 6) dX6_learnAndDecide_122 (by decide) ?_
              exact j_iret X hr rfl (by subst ev3 ev1; first | with_reducible rfl | (simp only [sLD, sMoved, sDec, if_neg c_8, if_neg c_40, if_pos c_46, if_neg c_94, if_neg c_103, if_pos c_115]; done) | (simp only [sLD, sMoved, sDec, if_neg c_8, if_neg c_40, if_pos c_46, if_neg c_94, if_neg c_103, if_pos c_115]; rfl) | rfl) rfl (by subst ev3 ev1; first | with_reducible rfl | (simp only [sLD, sMoved, sDec, if_neg c_8, if_neg c_40, if_pos c_46, if_neg c_94, if_neg c_103, if_pos c_115]; done) | (simp only [sLD, sMoved, sDec, if_neg c_8, if_neg c_40, if_pos c_46, if_neg c_94, if_neg c_103, if_pos c_115]; rfl) | rfl) dX6_learnAndDecide_124
            · refine j_iconst X (v := 2) dX6_learnAndDecide_118 (by decide) ?_
              refine j_goto X (tgt := 124) dX6_learnAndDecide_119 (by decide) ?_
              exact j_iret X hr rfl (by subst ev3 ev1; first | with_reducible rfl | (simp only [sLD, sMoved, sDec, if_neg c_8, if_neg c_40, if_pos c_46, if_neg c_94, if_neg c_103, if_neg c_115]; done) | (simp only [sLD, sMoved, sDec, if_neg c_8, if_neg c_40, if_pos c_46, if_neg c_94, if_neg c_103, if_neg c_115]; rfl) | rfl) rfl (by subst ev3 ev1; first | with_reducible rfl | (simp only [sLD, sMoved, sDec, if_neg c_8, if_neg c_40, if_pos c_46, if_neg c_94, if_neg c_103, if_neg c_115]; done) | (simp only [sLD, sMoved, sDec, if_neg c_8, if_neg c_40, if_pos c_46, if_neg c_94, if_neg c_103, if_neg c_115]; rfl) | rfl) dX6_learnAndDecide_124
        · refine j_iconst X (v := 1) dX6_learnAndDecide_97 (by decide) ?_
          exact j_iret X hr rfl (by subst ev3 ev1; first | with_reducible rfl | (simp only [sLD, sMoved, sDec, if_neg c_8, if_neg c_40, if_pos c_46, if_pos c_94]; done) | (simp only [sLD, sMoved, sDec, if_neg c_8, if_neg c_40, if_pos c_46, if_pos c_94]; rfl) | rfl) rfl (by subst ev3 ev1; first | with_reducible rfl | (simp only [sLD, sMoved, sDec, if_neg c_8, if_neg c_40, if_pos c_46, if_pos c_94]; done) | (simp only [sLD, sMoved, sDec, if_neg c_8, if_neg c_40, if_pos c_46, if_pos c_94]; rfl) | rfl) dX6_learnAndDecide_98
      · refine j_aload_n X 1 dX6_learnAndDecide_49 rfl rfl ?_
        refine j_get X fG_RX6_48 hput_0 rfl rfl dX6_learnAndDecide_50 ?_
        refine j_iload_n X 3 dX6_learnAndDecide_53 rfl rfl ?_
        refine j_aload_n X 1 dX6_learnAndDecide_54 rfl rfl ?_
        refine j_get X fG_RX6_72 hput_0 rfl rfl dX6_learnAndDecide_55 ?_
        refine j_callVv X (rest := []) (c_X2_add l) m_yX2_add kM_RX6_120 (hput_k 26 (by decide)) rfl rfl rfl rfl rfl (Nat.le_of_ble_eq_true rfl) ⟨Nat.le_of_ble_eq_true rfl, Nat.le_of_ble_eq_true rfl, Nat.le_of_ble_eq_true rfl, Nat.le_of_ble_eq_true rfl⟩ dX6_learnAndDecide_58 ?_
        refine j_aload_n X 1 dX6_learnAndDecide_61 rfl rfl ?_
        refine j_get X fG_RX6_48 hput_0 rfl rfl dX6_learnAndDecide_62 ?_
        refine j_iload_n X 3 dX6_learnAndDecide_65 rfl rfl ?_
        refine j_callVi X (rest := []) (c_X2_latelyOf l) m_yX2_latelyOf kM_RX6_123 (hput_k 26 (by decide)) rfl rfl rfl rfl rfl (Nat.le_of_ble_eq_true rfl) ⟨Nat.le_of_ble_eq_true rfl, Nat.le_of_ble_eq_true rfl, Nat.le_of_ble_eq_true rfl, Nat.le_of_ble_eq_true rfl⟩ dX6_learnAndDecide_66 ?_
        refine j_iconst X (v := 3) dX6_learnAndDecide_69 (by decide) ?_
        refine j_icmp_lt X (tgt := 81) dX6_learnAndDecide_70 (by decide) (fun c_70 => ?_) (fun c_70 => ?_)
        · refine j_aload_n X 1 dX6_learnAndDecide_81 rfl rfl ?_
          refine j_get X fG_RX6_41 hput_0 rfl rfl dX6_learnAndDecide_82 ?_
          refine j_iload_n X 4 dX6_learnAndDecide_85 rfl rfl ?_
          refine j_callVi X (rest := []) (c_X7_portOf l) m_yX7_portOf kM_RX6_114 (hput_k 21 (by decide)) rfl rfl rfl rfl rfl (Nat.le_of_ble_eq_true rfl) ⟨Nat.le_of_ble_eq_true rfl, Nat.le_of_ble_eq_true rfl, Nat.le_of_ble_eq_true rfl, Nat.le_of_ble_eq_true rfl⟩ dX6_learnAndDecide_86 ?_
          refine j_tops (fun v4 ev4 => ?_)
          refine j_istore X (L' := [(5, .int v4), (4, .int v1), (0, .ref a), (1, .int p), (2, .int s), (3, .int d)]) dX6_learnAndDecide_89 (by decide) rfl ?_
          refine j_iload X 0 dX6_learnAndDecide_91 rfl ?_
          refine j_iload_n X 3 dX6_learnAndDecide_93 rfl rfl ?_
          refine j_icmp_ne X (tgt := 99) dX6_learnAndDecide_94 (by decide) (fun c_94 => ?_) (fun c_94 => ?_)
          · refine j_iload X 0 dX6_learnAndDecide_99 rfl ?_
            refine j_bipush X (v := (-4)) dX6_learnAndDecide_101 (by decide) ?_
            refine j_icmp_eq X (tgt := 125) dX6_learnAndDecide_103 (by decide) (fun c_103 => ?_) (fun c_103 => ?_)
            · refine j_aload_n X 2 dX6_learnAndDecide_125 rfl rfl ?_
              refine j_get X fG_RX6_27 hput_0 rfl rfl dX6_learnAndDecide_126 ?_
              refine j_getN X fN_RX6_129 (hput_k 3 (by decide)) rfl rfl dX6_learnAndDecide_129 ?_
              refine j_iload_n X 3 dX6_learnAndDecide_132 rfl rfl ?_
              refine j_callVi X (rest := []) (s_at5 l) m_yX5_at kM_RX6_85 (hput_k 12 (by decide)) rfl rfl rfl rfl rfl (Nat.le_of_ble_eq_true rfl) ⟨Nat.le_of_ble_eq_true rfl, Nat.le_of_ble_eq_true rfl, Nat.le_of_ble_eq_true rfl, Nat.le_of_ble_eq_true rfl⟩ dX6_learnAndDecide_133 ?_
              refine j_aload_n X 2 dX6_learnAndDecide_136 rfl rfl ?_
              refine j_get X fG_RX6_18 hput_0 rfl rfl dX6_learnAndDecide_137 ?_
              refine j_iconst X (v := 2) dX6_learnAndDecide_140 (by decide) ?_
              refine j_callVi X (rest := [.int (oAt 5 8 (mAdd (tLearn σ s p (σ.2 0)) s ((tLearn σ s p (σ.2 0)).2 0)) p)]) (s_at0 l) m_yX5_at kM_RX6_85 (hput_k 1 (by decide)) rfl rfl rfl rfl rfl (Nat.le_of_ble_eq_true rfl) ⟨Nat.le_of_ble_eq_true rfl, Nat.le_of_ble_eq_true rfl, Nat.le_of_ble_eq_true rfl, Nat.le_of_ble_eq_true rfl⟩ dX6_learnAndDecide_141 ?_
              refine j_icmp_lt X (tgt := 155) dX6_learnAndDecide_144 (by decide) (fun c_144 => ?_) (fun c_144 => ?_)
              · refine j_aload_n X 2 dX6_learnAndDecide_155 rfl rfl ?_
                refine j_get X fG_RX6_27 hput_0 rfl rfl dX6_learnAndDecide_156 ?_
                refine j_getN X fN_RX6_129 (hput_k 3 (by decide)) rfl rfl dX6_learnAndDecide_159 ?_
                refine j_iload_n X 3 dX6_learnAndDecide_162 rfl rfl ?_
                refine j_iconst X (v := 1) dX6_learnAndDecide_163 (by decide) ?_
                refine j_callVv X (rest := []) (s_add5 l) m_yX5_add kM_RX6_132 (hput_k 12 (by decide)) rfl rfl rfl rfl rfl (Nat.le_of_ble_eq_true rfl) ⟨Nat.le_of_ble_eq_true rfl, Nat.le_of_ble_eq_true rfl, Nat.le_of_ble_eq_true rfl, Nat.le_of_ble_eq_true rfl⟩ dX6_learnAndDecide_164 ?_
                refine j_iconst X (v := 3) dX6_learnAndDecide_167 (by decide) ?_
                exact j_iret X hr rfl (by subst ev4 ev1; first | with_reducible rfl | (simp only [sLD, sMoved, sDec, if_neg c_8, if_neg c_40, if_neg c_46, if_pos c_70, if_neg c_94, if_pos c_103, if_pos c_144]; done) | (simp only [sLD, sMoved, sDec, if_neg c_8, if_neg c_40, if_neg c_46, if_pos c_70, if_neg c_94, if_pos c_103, if_pos c_144]; rfl) | rfl) rfl (by subst ev4 ev1; first | with_reducible rfl | (simp only [sLD, sMoved, sDec, if_neg c_8, if_neg c_40, if_neg c_46, if_pos c_70, if_neg c_94, if_pos c_103, if_pos c_144]; done) | (simp only [sLD, sMoved, sDec, if_neg c_8, if_neg c_40, if_neg c_46, if_pos c_70, if_neg c_94, if_pos c_103, if_pos c_144]; rfl) | rfl) dX6_learnAndDecide_168
              · refine j_aload_n X 2 dX6_learnAndDecide_147 rfl rfl ?_
                refine j_iload_n X 3 dX6_learnAndDecide_148 rfl rfl ?_
                refine j_iconst X (v := 2) dX6_learnAndDecide_149 (by decide) ?_
                refine j_callVv X (rest := []) (c_X6_quarantine l) m_yX6_quarantine kM_RX6_126 hput_0 rfl rfl rfl rfl rfl (Nat.le_of_ble_eq_true rfl) ⟨Nat.le_of_ble_eq_true rfl, Nat.le_of_ble_eq_true rfl, Nat.le_of_ble_eq_true rfl, Nat.le_of_ble_eq_true rfl⟩ dX6_learnAndDecide_150 ?_
                refine j_iconst X (v := 5) dX6_learnAndDecide_153 (by decide) ?_
                exact j_iret X hr rfl (by subst ev4 ev1; first | with_reducible rfl | (simp only [sLD, sMoved, sDec, if_neg c_8, if_neg c_40, if_neg c_46, if_pos c_70, if_neg c_94, if_pos c_103, if_neg c_144]; done) | (simp only [sLD, sMoved, sDec, if_neg c_8, if_neg c_40, if_neg c_46, if_pos c_70, if_neg c_94, if_pos c_103, if_neg c_144]; rfl) | rfl) rfl (by subst ev4 ev1; first | with_reducible rfl | (simp only [sLD, sMoved, sDec, if_neg c_8, if_neg c_40, if_neg c_46, if_pos c_70, if_neg c_94, if_pos c_103, if_neg c_144]; done) | (simp only [sLD, sMoved, sDec, if_neg c_8, if_neg c_40, if_neg c_46, if_pos c_70, if_neg c_94, if_pos c_103, if_neg c_144]; rfl) | rfl) dX6_learnAndDecide_154
            · refine j_aload_n X 2 dX6_learnAndDecide_106 rfl rfl ?_
              refine j_get X fG_RX6_27 hput_0 rfl rfl dX6_learnAndDecide_107 ?_
              refine j_iload X 0 dX6_learnAndDecide_110 rfl ?_
              refine j_callVi X (rest := []) (c_X3_isOpen l) m_yX3_isOpen kM_RX6_110 (hput_k 3 (by decide)) rfl rfl rfl rfl rfl (Nat.le_of_ble_eq_true rfl) ⟨Nat.le_of_ble_eq_true rfl, Nat.le_of_ble_eq_true rfl, Nat.le_of_ble_eq_true rfl, Nat.le_of_ble_eq_true rfl⟩ dX6_learnAndDecide_112 ?_
              refine j_if_eq X (tgt := 122) dX6_learnAndDecide_115 (by decide) (fun c_115 => ?_) (fun c_115 => ?_)
              · refine j_bipush X (v := 6) dX6_learnAndDecide_122 (by decide) ?_
                exact j_iret X hr rfl (by subst ev4 ev1; first | with_reducible rfl | (simp only [sLD, sMoved, sDec, if_neg c_8, if_neg c_40, if_neg c_46, if_pos c_70, if_neg c_94, if_neg c_103, if_pos c_115]; done) | (simp only [sLD, sMoved, sDec, if_neg c_8, if_neg c_40, if_neg c_46, if_pos c_70, if_neg c_94, if_neg c_103, if_pos c_115]; rfl) | rfl) rfl (by subst ev4 ev1; first | with_reducible rfl | (simp only [sLD, sMoved, sDec, if_neg c_8, if_neg c_40, if_neg c_46, if_pos c_70, if_neg c_94, if_neg c_103, if_pos c_115]; done) | (simp only [sLD, sMoved, sDec, if_neg c_8, if_neg c_40, if_neg c_46, if_pos c_70, if_neg c_94, if_neg c_103, if_pos c_115]; rfl) | rfl) dX6_learnAndDecide_124
              · refine j_iconst X (v := 2) dX6_learnAndDecide_118 (by decide) ?_
                refine j_goto X (tgt := 124) dX6_learnAndDecide_119 (by decide) ?_
                exact j_iret X hr rfl (by subst ev4 ev1; first | with_reducible rfl | (simp only [sLD, sMoved, sDec, if_neg c_8, if_neg c_40, if_neg c_46, if_pos c_70, if_neg c_94, if_neg c_103, if_neg c_115]; done) | (simp only [sLD, sMoved, sDec, if_neg c_8, if_neg c_40, if_neg c_46, if_pos c_70, if_neg c_94, if_neg c_103, if_neg c_115]; rfl) | rfl) rfl (by subst ev4 ev1; first | with_reducible rfl | (simp only [sLD, sMoved, sDec, if_neg c_8, if_neg c_40, if_neg c_46, if_pos c_70, if_neg c_94, if_neg c_103, if_neg c_115]; done) | (simp only [sLD, sMoved, sDec, if_neg c_8, if_neg c_40, if_neg c_46, if_pos c_70, if_neg c_94, if_neg c_103, if_neg c_115]; rfl) | rfl) dX6_learnAndDecide_124
          · refine j_iconst X (v := 1) dX6_learnAndDecide_97 (by decide) ?_
            exact j_iret X hr rfl (by subst ev4 ev1; first | with_reducible rfl | (simp only [sLD, sMoved, sDec, if_neg c_8, if_neg c_40, if_neg c_46, if_pos c_70, if_pos c_94]; done) | (simp only [sLD, sMoved, sDec, if_neg c_8, if_neg c_40, if_neg c_46, if_pos c_70, if_pos c_94]; rfl) | rfl) rfl (by subst ev4 ev1; first | with_reducible rfl | (simp only [sLD, sMoved, sDec, if_neg c_8, if_neg c_40, if_neg c_46, if_pos c_70, if_pos c_94]; done) | (simp only [sLD, sMoved, sDec, if_neg c_8, if_neg c_40, if_neg c_46, if_pos c_70, if_pos c_94]; rfl) | rfl) dX6_learnAndDecide_98
        · refine j_aload_n X 1 dX6_learnAndDecide_73 rfl rfl ?_
          refine j_iload_n X 2 dX6_learnAndDecide_74 rfl rfl ?_
          refine j_iconst X (v := 1) dX6_learnAndDecide_75 (by decide) ?_
          refine j_callVv X (rest := []) (c_X6_quarantine l) m_yX6_quarantine kM_RX6_126 hput_0 rfl rfl rfl rfl rfl (Nat.le_of_ble_eq_true rfl) ⟨Nat.le_of_ble_eq_true rfl, Nat.le_of_ble_eq_true rfl, Nat.le_of_ble_eq_true rfl, Nat.le_of_ble_eq_true rfl⟩ dX6_learnAndDecide_76 ?_
          refine j_iconst X (v := 4) dX6_learnAndDecide_79 (by decide) ?_
          exact j_iret X hr rfl (by subst ev1; first | with_reducible rfl | (simp only [sLD, sMoved, sDec, if_neg c_8, if_neg c_40, if_neg c_46, if_neg c_70]; done) | (simp only [sLD, sMoved, sDec, if_neg c_8, if_neg c_40, if_neg c_46, if_neg c_70]; rfl) | rfl) rfl (by subst ev1; first | with_reducible rfl | (simp only [sLD, sMoved, sDec, if_neg c_8, if_neg c_40, if_neg c_46, if_neg c_70]; done) | (simp only [sLD, sMoved, sDec, if_neg c_8, if_neg c_40, if_neg c_46, if_neg c_70]; rfl) | rfl) dX6_learnAndDecide_80
  · refine j_iconst X (v := 0) dX6_learnAndDecide_11 (by decide) ?_
    exact j_iret X hr rfl (by first | with_reducible rfl | (simp only [sLD, sMoved, sDec, if_pos c_8]; done) | (simp only [sLD, sMoved, sDec, if_pos c_8]; rfl) | rfl) rfl (by first | with_reducible rfl | (simp only [sLD, sMoved, sDec, if_pos c_8]; done) | (simp only [sLD, sMoved, sDec, if_pos c_8]; rfl) | rfl) dX6_learnAndDecide_12
