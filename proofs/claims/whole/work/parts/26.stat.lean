set_option maxRecDepth 100000 in
set_option maxHeartbeats 8000000 in
theorem c_X6_dropQueue (l : Launch) {D : DD} {B z : Nat} {h : HF} {a : Nat} {σ : St} {p : Int32} : CT l yX6_dropQueue cX6_dropQueue 3 none 3 68 [.ref a, .int p] D B z (hput D h a σ) none 0 0 (hput D h a (sDrop σ p)) := by
  refine CT.of (L := [(0, .ref a), (1, .int p)]) (by decide +kernel) (Nat.le_of_ble_eq_true rfl) rfl ?_
  intro P E S0 M0 AR BL ME CO X hr hnm
  refine j_aload_n X 0 dX6_dropQueue_0 rfl rfl ?_
  refine j_get X fG_RX6_34 hput_0 rfl rfl dX6_dropQueue_1 ?_
  refine j_getN X fN_RX6_82 (hput_k 16 (by decide)) rfl rfl dX6_dropQueue_4 ?_
  refine j_iload_n X 1 dX6_dropQueue_7 rfl rfl ?_
  refine j_callVi X (rest := []) (s_at7 l) m_yX5_at kM_RX6_85 (hput_k 17 (by decide)) rfl rfl rfl rfl rfl (Nat.le_of_ble_eq_true rfl) ⟨Nat.le_of_ble_eq_true rfl, Nat.le_of_ble_eq_true rfl, Nat.le_of_ble_eq_true rfl, Nat.le_of_ble_eq_true rfl⟩ dX6_dropQueue_8 ?_
  refine j_top (fun v1 ev1 => ?_)
  refine j_istore_n X (L' := [(2, .int v1), (0, .ref a), (1, .int p)]) dX6_dropQueue_11 rfl (by decide) rfl ?_
  refine j_aload_n X 1 dX6_dropQueue_12 rfl rfl ?_
  refine j_get X fG_RX6_34 hput_0 rfl rfl dX6_dropQueue_13 ?_
  refine j_iload_n X 2 dX6_dropQueue_16 rfl rfl ?_
  refine j_iload_n X 0 dX6_dropQueue_17 rfl rfl ?_
  refine j_callVv X (rest := []) (c_X4_removeFirst l) m_yX4_removeFirst kM_RX6_89 (hput_k 16 (by decide)) rfl rfl rfl rfl rfl (Nat.le_of_ble_eq_true rfl) ⟨Nat.le_of_ble_eq_true rfl, Nat.le_of_ble_eq_true rfl, Nat.le_of_ble_eq_true rfl, Nat.le_of_ble_eq_true rfl⟩ dX6_dropQueue_18 ?_
  refine j_aload_n X 1 dX6_dropQueue_21 rfl rfl ?_
  refine j_get X fG_RX6_27 hput_0 rfl rfl dX6_dropQueue_22 ?_
  refine j_iload_n X 2 dX6_dropQueue_25 rfl rfl ?_
  refine j_bipush X (v := 8) dX6_dropQueue_26 (by decide) ?_
  refine j_iload_n X 0 dX6_dropQueue_28 rfl rfl ?_
  refine j_callVv X (rest := []) (c_X3_credit l) m_yX3_credit kM_RX6_92 (hput_k 3 (by decide)) rfl rfl rfl rfl rfl (Nat.le_of_ble_eq_true rfl) ⟨Nat.le_of_ble_eq_true rfl, Nat.le_of_ble_eq_true rfl, Nat.le_of_ble_eq_true rfl, Nat.le_of_ble_eq_true rfl⟩ dX6_dropQueue_29 ?_
  exact j_vret X hr rfl (by subst ev1; first | with_reducible rfl | (simp only [sDrop, if_true, if_false]; done) | (simp only [sDrop, if_true, if_false]; rfl) | rfl) dX6_dropQueue_32
set_option maxRecDepth 100000 in
set_option maxHeartbeats 8000000 in
theorem c_X6_quarantine (l : Launch) {D : DD} {B z : Nat} {h : HF} {a : Nat} {σ : St} {p why : Int32} : CT l yX6_quarantine cX6_quarantine 3 none 2 45 [.ref a, .int p, .int why] D B z (hput D h a σ) none 0 0 (hput D h a (sQuar σ p why)) := by
  refine CT.of (L := [(0, .ref a), (1, .int p), (2, .int why)]) (by decide +kernel) (Nat.le_of_ble_eq_true rfl) rfl ?_
  intro P E S0 M0 AR BL ME CO X hr hnm
  refine j_aload_n X 0 dX6_quarantine_0 rfl rfl ?_
  refine j_get X fG_RX6_27 hput_0 rfl rfl dX6_quarantine_1 ?_
  refine j_iload_n X 1 dX6_quarantine_4 rfl rfl ?_
  refine j_aload_n X 0 dX6_quarantine_5 rfl rfl ?_
  refine j_get X fG_RX6_18 hput_0 rfl rfl dX6_quarantine_6 ?_
  refine j_iconst X (v := 1) dX6_quarantine_9 (by decide) ?_
  refine j_callVi X (rest := [.int p, .ref (a + 3)]) (s_at0 l) m_yX5_at kM_RX6_85 (hput_k 1 (by decide)) rfl rfl rfl rfl rfl (Nat.le_of_ble_eq_true rfl) ⟨Nat.le_of_ble_eq_true rfl, Nat.le_of_ble_eq_true rfl, Nat.le_of_ble_eq_true rfl, Nat.le_of_ble_eq_true rfl⟩ dX6_quarantine_10 ?_
  refine j_iload_n X 2 dX6_quarantine_13 rfl rfl ?_
  refine j_callVv X (rest := []) (c_X3_beginQuarantine l) m_yX3_beginQuarantine kM_RX6_133 (hput_k 3 (by decide)) rfl rfl rfl rfl rfl (Nat.le_of_ble_eq_true rfl) ⟨Nat.le_of_ble_eq_true rfl, Nat.le_of_ble_eq_true rfl, Nat.le_of_ble_eq_true rfl, Nat.le_of_ble_eq_true rfl⟩ dX6_quarantine_14 ?_
  refine j_aload_n X 0 dX6_quarantine_17 rfl rfl ?_
  refine j_get X fG_RX6_41 hput_0 rfl rfl dX6_quarantine_18 ?_
  refine j_iload_n X 1 dX6_quarantine_21 rfl rfl ?_
  refine j_callVv X (rest := []) (c_X7_removeAllWith l) m_yX7_removeAllWith kM_RX6_136 (hput_k 21 (by decide)) rfl rfl rfl rfl rfl (Nat.le_of_ble_eq_true rfl) ⟨Nat.le_of_ble_eq_true rfl, Nat.le_of_ble_eq_true rfl, Nat.le_of_ble_eq_true rfl, Nat.le_of_ble_eq_true rfl⟩ dX6_quarantine_22 ?_
  refine j_aload_n X 0 dX6_quarantine_25 rfl rfl ?_
  refine j_dup X dX6_quarantine_26 rfl ?_
  refine j_get X fG_RX6_79 hput_0 rfl rfl dX6_quarantine_27 ?_
  refine j_iconst X (v := 1) dX6_quarantine_30 (by decide) ?_
  refine j_iadd X dX6_quarantine_31 ?_
  refine j_put X fG_RX6_79 fW_6_7 hput_0 rfl rfl rfl (Nat.le_of_ble_eq_true rfl) dX6_quarantine_32 ?_
  refine j_heap (h' := hput D h a (sput (tRemAll (pBegin σ p (oAt 0 4 σ 1) why) p 99) 2 (((tRemAll (pBegin σ p (oAt 0 4 σ 1) why) p 99).2 2) + 1))) hput_s2 ?_
  exact j_vret X hr rfl (by first | with_reducible rfl | (simp only [sQuar, if_true, if_false]; done) | (simp only [sQuar, if_true, if_false]; rfl) | rfl) dX6_quarantine_35
set_option maxRecDepth 100000 in
set_option maxHeartbeats 8000000 in
theorem c_X6_learnAndDecide (l : Launch) {D : DD} {B z : Nat} {h : HF} {a : Nat} {σ : St} {p s d : Int32} : CT l yX6_learnAndDecide cX6_learnAndDecide 6 (some .int) 3 67 [.ref a, .int p, .int s, .int d] D B z (hput D h a σ) (some (.int ((sLD σ p s d).1))) 0 0 (hput D h a ((sLD σ p s d).2)) := by
  refine CT.of (L := [(0, .ref a), (1, .int p), (2, .int s), (3, .int d)]) (by decide +kernel) (Nat.le_of_ble_eq_true rfl) rfl ?_
  intro P E S0 M0 AR BL ME CO X hr hnm
  refine j_aload_n X 0 dX6_learnAndDecide_0 rfl rfl ?_
  refine j_get X fG_RX6_27 hput_0 rfl rfl dX6_learnAndDecide_1 ?_
  refine j_iload_n X 1 dX6_learnAndDecide_4 rfl rfl ?_
  refine j_callVi X (rest := []) (c_X3_isOpen l) m_yX3_isOpen kM_RX6_110 (hput_k 3 (by decide)) rfl rfl rfl rfl rfl (Nat.le_of_ble_eq_true rfl) ⟨Nat.le_of_ble_eq_true rfl, Nat.le_of_ble_eq_true rfl, Nat.le_of_ble_eq_true rfl, Nat.le_of_ble_eq_true rfl⟩ dX6_learnAndDecide_5 ?_
  refine j_if_ne X (tgt := 13) dX6_learnAndDecide_8 (by decide) (fun c_8 => ?_) (fun c_8 => ?_)
  · refine j_aload_n X 0 dX6_learnAndDecide_13 rfl rfl ?_
    refine j_get X fG_RX6_41 hput_0 rfl rfl dX6_learnAndDecide_14 ?_
    refine j_iload_n X 2 dX6_learnAndDecide_17 rfl rfl ?_
    refine j_callVi X (rest := []) (c_X7_portOf l) m_yX7_portOf kM_RX6_114 (hput_k 21 (by decide)) rfl rfl rfl rfl rfl (Nat.le_of_ble_eq_true rfl) ⟨Nat.le_of_ble_eq_true rfl, Nat.le_of_ble_eq_true rfl, Nat.le_of_ble_eq_true rfl, Nat.le_of_ble_eq_true rfl⟩ dX6_learnAndDecide_18 ?_
    refine j_top (fun v1 ev1 => ?_)
    refine j_istore X (L' := [(4, .int v1), (0, .ref a), (1, .int p), (2, .int s), (3, .int d)]) dX6_learnAndDecide_21 (by decide) rfl ?_
    refine j_aload_n X 1 dX6_learnAndDecide_23 rfl rfl ?_
    refine j_get X fG_RX6_41 hput_0 rfl rfl dX6_learnAndDecide_24 ?_
    refine j_iload_n X 3 dX6_learnAndDecide_27 rfl rfl ?_
    refine j_iload_n X 2 dX6_learnAndDecide_28 rfl rfl ?_
    refine j_aload_n X 1 dX6_learnAndDecide_29 rfl rfl ?_
    refine j_get X fG_RX6_72 hput_0 rfl rfl dX6_learnAndDecide_30 ?_
    refine j_callVv X (rest := []) (c_X7_learn l) m_yX7_learn kM_RX6_117 (hput_k 21 (by decide)) rfl rfl rfl rfl rfl (Nat.le_of_ble_eq_true rfl) ⟨Nat.le_of_ble_eq_true rfl, Nat.le_of_ble_eq_true rfl, Nat.le_of_ble_eq_true rfl, Nat.le_of_ble_eq_true rfl⟩ dX6_learnAndDecide_33 ?_
    refine j_iload X 0 dX6_learnAndDecide_36 rfl ?_
    refine j_bipush X (v := (-4)) dX6_learnAndDecide_38 (by decide) ?_
    refine j_icmp_eq X (tgt := 81) dX6_learnAndDecide_40 (by decide) (fun c_40 => ?_) (fun c_40 => ?_)
    · refine j_aload_n X 1 dX6_learnAndDecide_81 rfl rfl ?_
      refine j_get X fG_RX6_41 hput_0 rfl rfl dX6_learnAndDecide_82 ?_
      refine j_iload_n X 4 dX6_learnAndDecide_85 rfl rfl ?_
      refine j_callVi X (rest := []) (c_X7_portOf l) m_yX7_portOf kM_RX6_114 (hput_k 21 (by decide)) rfl rfl rfl rfl rfl (Nat.le_of_ble_eq_true rfl) ⟨Nat.le_of_ble_eq_true rfl, Nat.le_of_ble_eq_true rfl, Nat.le_of_ble_eq_true rfl, Nat.le_of_ble_eq_true rfl⟩ dX6_learnAndDecide_86 ?_
      refine j_top (fun v2 ev2 => ?_)
      refine j_istore X (L' := [(5, .int v2), (4, .int v1), (0, .ref a), (1, .int p), (2, .int s), (3, .int d)]) dX6_learnAndDecide_89 (by decide) rfl ?_
      refine j_iload X 0 dX6_learnAndDecide_91 rfl ?_
      refine j_iload_n X 3 dX6_learnAndDecide_93 rfl rfl ?_
      refine j_icmp_ne X (tgt := 99) dX6_learnAndDecide_94 (by decide) (fun c_94 => ?_) (fun c_94 => ?_)
      · refine j_iload X 0 dX6_learnAndDecide_99 rfl ?_
        refine j_bipush X (v := (-4)) dX6_learnAndDecide_101 (by decide) ?_
        refine j_icmp_eq X (tgt := 125) dX6_learnAndDecide_103 (by decide) (fun c_103 => ?_) (fun c_103 => ?_)
        · refine j_aload_n X 2 dX6_learnAndDecide_125 rfl rfl ?_
          refine j_get X fG_RX6_27 hput_0 rfl rfl dX6_learnAndDecide_126 ?_
          refine j_getN X fN_RX6_129 (hput_k 3 (by decide)) rfl rfl dX6_learnAndDecide_129 ?_
          refine j_iload_n X 3 dX6_learnAndDecide_132 rfl rfl ?_
          refine j_callVi X (rest := []) (s_at5 l) m_yX5_at kM_RX6_85 (hput_k 12 (by decide)) rfl rfl rfl rfl rfl (Nat.le_of_ble_eq_true rfl) ⟨Nat.le_of_ble_eq_true rfl, Nat.le_of_ble_eq_true rfl, Nat.le_of_ble_eq_true rfl, Nat.le_of_ble_eq_true rfl⟩ dX6_learnAndDecide_133 ?_
          refine j_aload_n X 2 dX6_learnAndDecide_136 rfl rfl ?_
          refine j_get X fG_RX6_18 hput_0 rfl rfl dX6_learnAndDecide_137 ?_
          refine j_iconst X (v := 2) dX6_learnAndDecide_140 (by decide) ?_
          refine j_callVi X (rest := [.int (oAt 5 8 (tLearn σ s p (σ.2 0)) p)]) (s_at0 l) m_yX5_at kM_RX6_85 (hput_k 1 (by decide)) rfl rfl rfl rfl rfl (Nat.le_of_ble_eq_true rfl) ⟨Nat.le_of_ble_eq_true rfl, Nat.le_of_ble_eq_true rfl, Nat.le_of_ble_eq_true rfl, Nat.le_of_ble_eq_true rfl⟩ dX6_learnAndDecide_141 ?_
          refine j_icmp_lt X (tgt := 155) dX6_learnAndDecide_144 (by decide) (fun c_144 => ?_) (fun c_144 => ?_)
          · refine j_aload_n X 2 dX6_learnAndDecide_155 rfl rfl ?_
            refine j_get X fG_RX6_27 hput_0 rfl rfl dX6_learnAndDecide_156 ?_
            refine j_getN X fN_RX6_129 (hput_k 3 (by decide)) rfl rfl dX6_learnAndDecide_159 ?_
            refine j_iload_n X 3 dX6_learnAndDecide_162 rfl rfl ?_
            refine j_iconst X (v := 1) dX6_learnAndDecide_163 (by decide) ?_
            refine j_callVv X (rest := []) (s_add5 l) m_yX5_add kM_RX6_132 (hput_k 12 (by decide)) rfl rfl rfl rfl rfl (Nat.le_of_ble_eq_true rfl) ⟨Nat.le_of_ble_eq_true rfl, Nat.le_of_ble_eq_true rfl, Nat.le_of_ble_eq_true rfl, Nat.le_of_ble_eq_true rfl⟩ dX6_learnAndDecide_164 ?_
            refine j_iconst X (v := 3) dX6_learnAndDecide_167 (by decide) ?_
            exact j_iret X hr rfl (by subst ev2 ev1; first | with_reducible rfl | (simp only [sLD, sMoved, sDec, c_8, c_40, c_94, c_103, c_144, if_true, if_false]; done) | (simp only [sLD, sMoved, sDec, c_8, c_40, c_94, c_103, c_144, if_true, if_false]; rfl) | rfl) rfl (by subst ev2 ev1; first | with_reducible rfl | (simp only [sLD, sMoved, sDec, c_8, c_40, c_94, c_103, c_144, if_true, if_false]; done) | (simp only [sLD, sMoved, sDec, c_8, c_40, c_94, c_103, c_144, if_true, if_false]; rfl) | rfl) dX6_learnAndDecide_168
          · refine j_aload_n X 2 dX6_learnAndDecide_147 rfl rfl ?_
            refine j_iload_n X 3 dX6_learnAndDecide_148 rfl rfl ?_
            refine j_iconst X (v := 2) dX6_learnAndDecide_149 (by decide) ?_
            refine j_callVv X (rest := []) (c_X6_quarantine l) m_yX6_quarantine kM_RX6_126 hput_0 rfl rfl rfl rfl rfl (Nat.le_of_ble_eq_true rfl) ⟨Nat.le_of_ble_eq_true rfl, Nat.le_of_ble_eq_true rfl, Nat.le_of_ble_eq_true rfl, Nat.le_of_ble_eq_true rfl⟩ dX6_learnAndDecide_150 ?_
            refine j_iconst X (v := 5) dX6_learnAndDecide_153 (by decide) ?_
            exact j_iret X hr rfl (by subst ev2 ev1; first | with_reducible rfl | (simp only [sLD, sMoved, sDec, c_8, c_40, c_94, c_103, c_144, if_true, if_false]; done) | (simp only [sLD, sMoved, sDec, c_8, c_40, c_94, c_103, c_144, if_true, if_false]; rfl) | rfl) rfl (by subst ev2 ev1; first | with_reducible rfl | (simp only [sLD, sMoved, sDec, c_8, c_40, c_94, c_103, c_144, if_true, if_false]; done) | (simp only [sLD, sMoved, sDec, c_8, c_40, c_94, c_103, c_144, if_true, if_false]; rfl) | rfl) dX6_learnAndDecide_154
        · refine j_aload_n X 2 dX6_learnAndDecide_106 rfl rfl ?_
          refine j_get X fG_RX6_27 hput_0 rfl rfl dX6_learnAndDecide_107 ?_
          refine j_iload X 0 dX6_learnAndDecide_110 rfl ?_
          refine j_callVi X (rest := []) (c_X3_isOpen l) m_yX3_isOpen kM_RX6_110 (hput_k 3 (by decide)) rfl rfl rfl rfl rfl (Nat.le_of_ble_eq_true rfl) ⟨Nat.le_of_ble_eq_true rfl, Nat.le_of_ble_eq_true rfl, Nat.le_of_ble_eq_true rfl, Nat.le_of_ble_eq_true rfl⟩ dX6_learnAndDecide_112 ?_
          refine j_if_eq X (tgt := 122) dX6_learnAndDecide_115 (by decide) (fun c_115 => ?_) (fun c_115 => ?_)
          · refine j_bipush X (v := 6) dX6_learnAndDecide_122 (by decide) ?_
            exact j_iret X hr rfl (by subst ev2 ev1; first | with_reducible rfl | (simp only [sLD, sMoved, sDec, c_8, c_40, c_94, c_103, c_115, if_true, if_false]; done) | (simp only [sLD, sMoved, sDec, c_8, c_40, c_94, c_103, c_115, if_true, if_false]; rfl) | rfl) rfl (by subst ev2 ev1; first | with_reducible rfl | (simp only [sLD, sMoved, sDec, c_8, c_40, c_94, c_103, c_115, if_true, if_false]; done) | (simp only [sLD, sMoved, sDec, c_8, c_40, c_94, c_103, c_115, if_true, if_false]; rfl) | rfl) dX6_learnAndDecide_124
          · refine j_iconst X (v := 2) dX6_learnAndDecide_118 (by decide) ?_
            refine j_goto X (tgt := 124) dX6_learnAndDecide_119 (by decide) ?_
            exact j_iret X hr rfl (by subst ev2 ev1; first | with_reducible rfl | (simp only [sLD, sMoved, sDec, c_8, c_40, c_94, c_103, c_115, if_true, if_false]; done) | (simp only [sLD, sMoved, sDec, c_8, c_40, c_94, c_103, c_115, if_true, if_false]; rfl) | rfl) rfl (by subst ev2 ev1; first | with_reducible rfl | (simp only [sLD, sMoved, sDec, c_8, c_40, c_94, c_103, c_115, if_true, if_false]; done) | (simp only [sLD, sMoved, sDec, c_8, c_40, c_94, c_103, c_115, if_true, if_false]; rfl) | rfl) dX6_learnAndDecide_124
      · refine j_iconst X (v := 1) dX6_learnAndDecide_97 (by decide) ?_
        exact j_iret X hr rfl (by subst ev2 ev1; first | with_reducible rfl | (simp only [sLD, sMoved, sDec, c_8, c_40, c_94, if_true, if_false]; done) | (simp only [sLD, sMoved, sDec, c_8, c_40, c_94, if_true, if_false]; rfl) | rfl) rfl (by subst ev2 ev1; first | with_reducible rfl | (simp only [sLD, sMoved, sDec, c_8, c_40, c_94, if_true, if_false]; done) | (simp only [sLD, sMoved, sDec, c_8, c_40, c_94, if_true, if_false]; rfl) | rfl) dX6_learnAndDecide_98
    · refine j_iload X 0 dX6_learnAndDecide_43 rfl ?_
      refine j_iload_n X 2 dX6_learnAndDecide_45 rfl rfl ?_
      refine j_icmp_eq X (tgt := 81) dX6_learnAndDecide_46 (by decide) (fun c_46 => ?_) (fun c_46 => ?_)
      · refine j_aload_n X 1 dX6_learnAndDecide_81 rfl rfl ?_
        refine j_get X fG_RX6_41 hput_0 rfl rfl dX6_learnAndDecide_82 ?_
        refine j_iload_n X 4 dX6_learnAndDecide_85 rfl rfl ?_
        refine j_callVi X (rest := []) (c_X7_portOf l) m_yX7_portOf kM_RX6_114 (hput_k 21 (by decide)) rfl rfl rfl rfl rfl (Nat.le_of_ble_eq_true rfl) ⟨Nat.le_of_ble_eq_true rfl, Nat.le_of_ble_eq_true rfl, Nat.le_of_ble_eq_true rfl, Nat.le_of_ble_eq_true rfl⟩ dX6_learnAndDecide_86 ?_
        refine j_top (fun v3 ev3 => ?_)
        refine j_istore X (L' := [(5, .int v3), (4, .int v1), (0, .ref a), (1, .int p), (2, .int s), (3, .int d)]) dX6_learnAndDecide_89 (by decide) rfl ?_
        refine j_iload X 0 dX6_learnAndDecide_91 rfl ?_
        refine j_iload_n X 3 dX6_learnAndDecide_93 rfl rfl ?_
        refine j_icmp_ne X (tgt := 99) dX6_learnAndDecide_94 (by decide) (fun c_94 => ?_) (fun c_94 => ?_)
        · refine j_iload X 0 dX6_learnAndDecide_99 rfl ?_
          refine j_bipush X (v := (-4)) dX6_learnAndDecide_101 (by decide) ?_
          refine j_icmp_eq X (tgt := 125) dX6_learnAndDecide_103 (by decide) (fun c_103 => ?_) (fun c_103 => ?_)
          · refine j_aload_n X 2 dX6_learnAndDecide_125 rfl rfl ?_
            refine j_get X fG_RX6_27 hput_0 rfl rfl dX6_learnAndDecide_126 ?_
            refine j_getN X fN_RX6_129 (hput_k 3 (by decide)) rfl rfl dX6_learnAndDecide_129 ?_
            refine j_iload_n X 3 dX6_learnAndDecide_132 rfl rfl ?_
            refine j_callVi X (rest := []) (s_at5 l) m_yX5_at kM_RX6_85 (hput_k 12 (by decide)) rfl rfl rfl rfl rfl (Nat.le_of_ble_eq_true rfl) ⟨Nat.le_of_ble_eq_true rfl, Nat.le_of_ble_eq_true rfl, Nat.le_of_ble_eq_true rfl, Nat.le_of_ble_eq_true rfl⟩ dX6_learnAndDecide_133 ?_
            refine j_aload_n X 2 dX6_learnAndDecide_136 rfl rfl ?_
            refine j_get X fG_RX6_18 hput_0 rfl rfl dX6_learnAndDecide_137 ?_
            refine j_iconst X (v := 2) dX6_learnAndDecide_140 (by decide) ?_
            refine j_callVi X (rest := [.int (oAt 5 8 (tLearn σ s p (σ.2 0)) p)]) (s_at0 l) m_yX5_at kM_RX6_85 (hput_k 1 (by decide)) rfl rfl rfl rfl rfl (Nat.le_of_ble_eq_true rfl) ⟨Nat.le_of_ble_eq_true rfl, Nat.le_of_ble_eq_true rfl, Nat.le_of_ble_eq_true rfl, Nat.le_of_ble_eq_true rfl⟩ dX6_learnAndDecide_141 ?_
            refine j_icmp_lt X (tgt := 155) dX6_learnAndDecide_144 (by decide) (fun c_144 => ?_) (fun c_144 => ?_)
            · refine j_aload_n X 2 dX6_learnAndDecide_155 rfl rfl ?_
              refine j_get X fG_RX6_27 hput_0 rfl rfl dX6_learnAndDecide_156 ?_
              refine j_getN X fN_RX6_129 (hput_k 3 (by decide)) rfl rfl dX6_learnAndDecide_159 ?_
              refine j_iload_n X 3 dX6_learnAndDecide_162 rfl rfl ?_
              refine j_iconst X (v := 1) dX6_learnAndDecide_163 (by decide) ?_
              refine j_callVv X (rest := []) (s_add5 l) m_yX5_add kM_RX6_132 (hput_k 12 (by decide)) rfl rfl rfl rfl rfl (Nat.le_of_ble_eq_true rfl) ⟨Nat.le_of_ble_eq_true rfl, Nat.le_of_ble_eq_true rfl, Nat.le_of_ble_eq_true rfl, Nat.le_of_ble_eq_true rfl⟩ dX6_learnAndDecide_164 ?_
              refine j_iconst X (v := 3) dX6_learnAndDecide_167 (by decide) ?_
              exact j_iret X hr rfl (by subst ev3 ev1; first | with_reducible rfl | (simp only [sLD, sMoved, sDec, c_8, c_40, c_46, c_94, c_103, c_144, if_true, if_false]; done) | (simp only [sLD, sMoved, sDec, c_8, c_40, c_46, c_94, c_103, c_144, if_true, if_false]; rfl) | rfl) rfl (by subst ev3 ev1; first | with_reducible rfl | (simp only [sLD, sMoved, sDec, c_8, c_40, c_46, c_94, c_103, c_144, if_true, if_false]; done) | (simp only [sLD, sMoved, sDec, c_8, c_40, c_46, c_94, c_103, c_144, if_true, if_false]; rfl) | rfl) dX6_learnAndDecide_168
            · refine j_aload_n X 2 dX6_learnAndDecide_147 rfl rfl ?_
              refine j_iload_n X 3 dX6_learnAndDecide_148 rfl rfl ?_
              refine j_iconst X (v := 2) dX6_learnAndDecide_149 (by decide) ?_
              refine j_callVv X (rest := []) (c_X6_quarantine l) m_yX6_quarantine kM_RX6_126 hput_0 rfl rfl rfl rfl rfl (Nat.le_of_ble_eq_true rfl) ⟨Nat.le_of_ble_eq_true rfl, Nat.le_of_ble_eq_true rfl, Nat.le_of_ble_eq_true rfl, Nat.le_of_ble_eq_true rfl⟩ dX6_learnAndDecide_150 ?_
              refine j_iconst X (v := 5) dX6_learnAndDecide_153 (by decide) ?_
              exact j_iret X hr rfl (by subst ev3 ev1; first | with_reducible rfl | (simp only [sLD, sMoved, sDec, c_8, c_40, c_46, c_94, c_103, c_144, if_true, if_false]; done) | (simp only [sLD, sMoved, sDec, c_8, c_40, c_46, c_94, c_103, c_144, if_true, if_false]; rfl) | rfl) rfl (by subst ev3 ev1; first | with_reducible rfl | (simp only [sLD, sMoved, sDec, c_8, c_40, c_46, c_94, c_103, c_144, if_true, if_false]; done) | (simp only [sLD, sMoved, sDec, c_8, c_40, c_46, c_94, c_103, c_144, if_true, if_false]; rfl) | rfl) dX6_learnAndDecide_154
          · refine j_aload_n X 2 dX6_learnAndDecide_106 rfl rfl ?_
            refine j_get X fG_RX6_27 hput_0 rfl rfl dX6_learnAndDecide_107 ?_
            refine j_iload X 0 dX6_learnAndDecide_110 rfl ?_
            refine j_callVi X (rest := []) (c_X3_isOpen l) m_yX3_isOpen kM_RX6_110 (hput_k 3 (by decide)) rfl rfl rfl rfl rfl (Nat.le_of_ble_eq_true rfl) ⟨Nat.le_of_ble_eq_true rfl, Nat.le_of_ble_eq_true rfl, Nat.le_of_ble_eq_true rfl, Nat.le_of_ble_eq_true rfl⟩ dX6_learnAndDecide_112 ?_
            refine j_if_eq X (tgt := 122) dX6_learnAndDecide_115 (by decide) (fun c_115 => ?_) (fun c_115 => ?_)
            · refine j_bipush X (v := 6) dX6_learnAndDecide_122 (by decide) ?_
              exact j_iret X hr rfl (by subst ev3 ev1; first | with_reducible rfl | (simp only [sLD, sMoved, sDec, c_8, c_40, c_46, c_94, c_103, c_115, if_true, if_false]; done) | (simp only [sLD, sMoved, sDec, c_8, c_40, c_46, c_94, c_103, c_115, if_true, if_false]; rfl) | rfl) rfl (by subst ev3 ev1; first | with_reducible rfl | (simp only [sLD, sMoved, sDec, c_8, c_40, c_46, c_94, c_103, c_115, if_true, if_false]; done) | (simp only [sLD, sMoved, sDec, c_8, c_40, c_46, c_94, c_103, c_115, if_true, if_false]; rfl) | rfl) dX6_learnAndDecide_124
            · refine j_iconst X (v := 2) dX6_learnAndDecide_118 (by decide) ?_
              refine j_goto X (tgt := 124) dX6_learnAndDecide_119 (by decide) ?_
              exact j_iret X hr rfl (by subst ev3 ev1; first | with_reducible rfl | (simp only [sLD, sMoved, sDec, c_8, c_40, c_46, c_94, c_103, c_115, if_true, if_false]; done) | (simp only [sLD, sMoved, sDec, c_8, c_40, c_46, c_94, c_103, c_115, if_true, if_false]; rfl) | rfl) rfl (by subst ev3 ev1; first | with_reducible rfl | (simp only [sLD, sMoved, sDec, c_8, c_40, c_46, c_94, c_103, c_115, if_true, if_false]; done) | (simp only [sLD, sMoved, sDec, c_8, c_40, c_46, c_94, c_103, c_115, if_true, if_false]; rfl) | rfl) dX6_learnAndDecide_124
        · refine j_iconst X (v := 1) dX6_learnAndDecide_97 (by decide) ?_
          exact j_iret X hr rfl (by subst ev3 ev1; first | with_reducible rfl | (simp only [sLD, sMoved, sDec, c_8, c_40, c_46, c_94, if_true, if_false]; done) | (simp only [sLD, sMoved, sDec, c_8, c_40, c_46, c_94, if_true, if_false]; rfl) | rfl) rfl (by subst ev3 ev1; first | with_reducible rfl | (simp only [sLD, sMoved, sDec, c_8, c_40, c_46, c_94, if_true, if_false]; done) | (simp only [sLD, sMoved, sDec, c_8, c_40, c_46, c_94, if_true, if_false]; rfl) | rfl) dX6_learnAndDecide_98
      · refine j_aload_n X 1 dX6_learnAndDecide_49 rfl rfl ?_
        refine j_get X fG_RX6_48 hput_0 rfl rfl dX6_learnAndDecide_50 ?_
        refine j_iload_n X 3 dX6_learnAndDecide_53 rfl rfl ?_
        refine j_aload_n X 1 dX6_learnAndDecide_54 rfl rfl ?_
        refine j_get X fG_RX6_72 hput_0 rfl rfl dX6_learnAndDecide_55 ?_
        refine j_callVv X (rest := []) (c_X2_add l) m_yX2_add kM_RX6_120 (hput_k 26 (by decide)) rfl rfl rfl rfl rfl (Nat.le_of_ble_eq_true rfl) ⟨Nat.le_of_ble_eq_true rfl, Nat.le_of_ble_eq_true rfl, Nat.le_of_ble_eq_true rfl, Nat.le_of_ble_eq_true rfl⟩ dX6_learnAndDecide_58 ?_
        refine j_aload_n X 1 dX6_learnAndDecide_61 rfl rfl ?_
        refine j_get X fG_RX6_48 hput_0 rfl rfl dX6_learnAndDecide_62 ?_
        refine j_iload_n X 3 dX6_learnAndDecide_65 rfl rfl ?_
        refine j_callVi X (rest := []) (c_X2_latelyOf l) m_yX2_latelyOf kM_RX6_123 (hput_k 26 (by decide)) rfl rfl rfl rfl rfl (Nat.le_of_ble_eq_true rfl) ⟨Nat.le_of_ble_eq_true rfl, Nat.le_of_ble_eq_true rfl, Nat.le_of_ble_eq_true rfl, Nat.le_of_ble_eq_true rfl⟩ dX6_learnAndDecide_66 ?_
        refine j_iconst X (v := 3) dX6_learnAndDecide_69 (by decide) ?_
        refine j_icmp_lt X (tgt := 81) dX6_learnAndDecide_70 (by decide) (fun c_70 => ?_) (fun c_70 => ?_)
        · refine j_aload_n X 1 dX6_learnAndDecide_81 rfl rfl ?_
          refine j_get X fG_RX6_41 hput_0 rfl rfl dX6_learnAndDecide_82 ?_
          refine j_iload_n X 4 dX6_learnAndDecide_85 rfl rfl ?_
          refine j_callVi X (rest := []) (c_X7_portOf l) m_yX7_portOf kM_RX6_114 (hput_k 21 (by decide)) rfl rfl rfl rfl rfl (Nat.le_of_ble_eq_true rfl) ⟨Nat.le_of_ble_eq_true rfl, Nat.le_of_ble_eq_true rfl, Nat.le_of_ble_eq_true rfl, Nat.le_of_ble_eq_true rfl⟩ dX6_learnAndDecide_86 ?_
          refine j_top (fun v4 ev4 => ?_)
          refine j_istore X (L' := [(5, .int v4), (4, .int v1), (0, .ref a), (1, .int p), (2, .int s), (3, .int d)]) dX6_learnAndDecide_89 (by decide) rfl ?_
          refine j_iload X 0 dX6_learnAndDecide_91 rfl ?_
          refine j_iload_n X 3 dX6_learnAndDecide_93 rfl rfl ?_
          refine j_icmp_ne X (tgt := 99) dX6_learnAndDecide_94 (by decide) (fun c_94 => ?_) (fun c_94 => ?_)
          · refine j_iload X 0 dX6_learnAndDecide_99 rfl ?_
            refine j_bipush X (v := (-4)) dX6_learnAndDecide_101 (by decide) ?_
            refine j_icmp_eq X (tgt := 125) dX6_learnAndDecide_103 (by decide) (fun c_103 => ?_) (fun c_103 => ?_)
            · refine j_aload_n X 2 dX6_learnAndDecide_125 rfl rfl ?_
              refine j_get X fG_RX6_27 hput_0 rfl rfl dX6_learnAndDecide_126 ?_
              refine j_getN X fN_RX6_129 (hput_k 3 (by decide)) rfl rfl dX6_learnAndDecide_129 ?_
              refine j_iload_n X 3 dX6_learnAndDecide_132 rfl rfl ?_
              refine j_callVi X (rest := []) (s_at5 l) m_yX5_at kM_RX6_85 (hput_k 12 (by decide)) rfl rfl rfl rfl rfl (Nat.le_of_ble_eq_true rfl) ⟨Nat.le_of_ble_eq_true rfl, Nat.le_of_ble_eq_true rfl, Nat.le_of_ble_eq_true rfl, Nat.le_of_ble_eq_true rfl⟩ dX6_learnAndDecide_133 ?_
              refine j_aload_n X 2 dX6_learnAndDecide_136 rfl rfl ?_
              refine j_get X fG_RX6_18 hput_0 rfl rfl dX6_learnAndDecide_137 ?_
              refine j_iconst X (v := 2) dX6_learnAndDecide_140 (by decide) ?_
              refine j_callVi X (rest := [.int (oAt 5 8 (mAdd (tLearn σ s p (σ.2 0)) s ((tLearn σ s p (σ.2 0)).2 0)) p)]) (s_at0 l) m_yX5_at kM_RX6_85 (hput_k 1 (by decide)) rfl rfl rfl rfl rfl (Nat.le_of_ble_eq_true rfl) ⟨Nat.le_of_ble_eq_true rfl, Nat.le_of_ble_eq_true rfl, Nat.le_of_ble_eq_true rfl, Nat.le_of_ble_eq_true rfl⟩ dX6_learnAndDecide_141 ?_
              refine j_icmp_lt X (tgt := 155) dX6_learnAndDecide_144 (by decide) (fun c_144 => ?_) (fun c_144 => ?_)
              · refine j_aload_n X 2 dX6_learnAndDecide_155 rfl rfl ?_
                refine j_get X fG_RX6_27 hput_0 rfl rfl dX6_learnAndDecide_156 ?_
                refine j_getN X fN_RX6_129 (hput_k 3 (by decide)) rfl rfl dX6_learnAndDecide_159 ?_
                refine j_iload_n X 3 dX6_learnAndDecide_162 rfl rfl ?_
                refine j_iconst X (v := 1) dX6_learnAndDecide_163 (by decide) ?_
                refine j_callVv X (rest := []) (s_add5 l) m_yX5_add kM_RX6_132 (hput_k 12 (by decide)) rfl rfl rfl rfl rfl (Nat.le_of_ble_eq_true rfl) ⟨Nat.le_of_ble_eq_true rfl, Nat.le_of_ble_eq_true rfl, Nat.le_of_ble_eq_true rfl, Nat.le_of_ble_eq_true rfl⟩ dX6_learnAndDecide_164 ?_
                refine j_iconst X (v := 3) dX6_learnAndDecide_167 (by decide) ?_
                exact j_iret X hr rfl (by subst ev4 ev1; first | with_reducible rfl | (simp only [sLD, sMoved, sDec, c_8, c_40, c_46, c_70, c_94, c_103, c_144, if_true, if_false]; done) | (simp only [sLD, sMoved, sDec, c_8, c_40, c_46, c_70, c_94, c_103, c_144, if_true, if_false]; rfl) | rfl) rfl (by subst ev4 ev1; first | with_reducible rfl | (simp only [sLD, sMoved, sDec, c_8, c_40, c_46, c_70, c_94, c_103, c_144, if_true, if_false]; done) | (simp only [sLD, sMoved, sDec, c_8, c_40, c_46, c_70, c_94, c_103, c_144, if_true, if_false]; rfl) | rfl) dX6_learnAndDecide_168
              · refine j_aload_n X 2 dX6_learnAndDecide_147 rfl rfl ?_
                refine j_iload_n X 3 dX6_learnAndDecide_148 rfl rfl ?_
                refine j_iconst X (v := 2) dX6_learnAndDecide_149 (by decide) ?_
                refine j_callVv X (rest := []) (c_X6_quarantine l) m_yX6_quarantine kM_RX6_126 hput_0 rfl rfl rfl rfl rfl (Nat.le_of_ble_eq_true rfl) ⟨Nat.le_of_ble_eq_true rfl, Nat.le_of_ble_eq_true rfl, Nat.le_of_ble_eq_true rfl, Nat.le_of_ble_eq_true rfl⟩ dX6_learnAndDecide_150 ?_
                refine j_iconst X (v := 5) dX6_learnAndDecide_153 (by decide) ?_
                exact j_iret X hr rfl (by subst ev4 ev1; first | with_reducible rfl | (simp only [sLD, sMoved, sDec, c_8, c_40, c_46, c_70, c_94, c_103, c_144, if_true, if_false]; done) | (simp only [sLD, sMoved, sDec, c_8, c_40, c_46, c_70, c_94, c_103, c_144, if_true, if_false]; rfl) | rfl) rfl (by subst ev4 ev1; first | with_reducible rfl | (simp only [sLD, sMoved, sDec, c_8, c_40, c_46, c_70, c_94, c_103, c_144, if_true, if_false]; done) | (simp only [sLD, sMoved, sDec, c_8, c_40, c_46, c_70, c_94, c_103, c_144, if_true, if_false]; rfl) | rfl) dX6_learnAndDecide_154
            · refine j_aload_n X 2 dX6_learnAndDecide_106 rfl rfl ?_
              refine j_get X fG_RX6_27 hput_0 rfl rfl dX6_learnAndDecide_107 ?_
              refine j_iload X 0 dX6_learnAndDecide_110 rfl ?_
              refine j_callVi X (rest := []) (c_X3_isOpen l) m_yX3_isOpen kM_RX6_110 (hput_k 3 (by decide)) rfl rfl rfl rfl rfl (Nat.le_of_ble_eq_true rfl) ⟨Nat.le_of_ble_eq_true rfl, Nat.le_of_ble_eq_true rfl, Nat.le_of_ble_eq_true rfl, Nat.le_of_ble_eq_true rfl⟩ dX6_learnAndDecide_112 ?_
              refine j_if_eq X (tgt := 122) dX6_learnAndDecide_115 (by decide) (fun c_115 => ?_) (fun c_115 => ?_)
              · refine j_bipush X (v := 6) dX6_learnAndDecide_122 (by decide) ?_
                exact j_iret X hr rfl (by subst ev4 ev1; first | with_reducible rfl | (simp only [sLD, sMoved, sDec, c_8, c_40, c_46, c_70, c_94, c_103, c_115, if_true, if_false]; done) | (simp only [sLD, sMoved, sDec, c_8, c_40, c_46, c_70, c_94, c_103, c_115, if_true, if_false]; rfl) | rfl) rfl (by subst ev4 ev1; first | with_reducible rfl | (simp only [sLD, sMoved, sDec, c_8, c_40, c_46, c_70, c_94, c_103, c_115, if_true, if_false]; done) | (simp only [sLD, sMoved, sDec, c_8, c_40, c_46, c_70, c_94, c_103, c_115, if_true, if_false]; rfl) | rfl) dX6_learnAndDecide_124
              · refine j_iconst X (v := 2) dX6_learnAndDecide_118 (by decide) ?_
                refine j_goto X (tgt := 124) dX6_learnAndDecide_119 (by decide) ?_
                exact j_iret X hr rfl (by subst ev4 ev1; first | with_reducible rfl | (simp only [sLD, sMoved, sDec, c_8, c_40, c_46, c_70, c_94, c_103, c_115, if_true, if_false]; done) | (simp only [sLD, sMoved, sDec, c_8, c_40, c_46, c_70, c_94, c_103, c_115, if_true, if_false]; rfl) | rfl) rfl (by subst ev4 ev1; first | with_reducible rfl | (simp only [sLD, sMoved, sDec, c_8, c_40, c_46, c_70, c_94, c_103, c_115, if_true, if_false]; done) | (simp only [sLD, sMoved, sDec, c_8, c_40, c_46, c_70, c_94, c_103, c_115, if_true, if_false]; rfl) | rfl) dX6_learnAndDecide_124
          · refine j_iconst X (v := 1) dX6_learnAndDecide_97 (by decide) ?_
            exact j_iret X hr rfl (by subst ev4 ev1; first | with_reducible rfl | (simp only [sLD, sMoved, sDec, c_8, c_40, c_46, c_70, c_94, if_true, if_false]; done) | (simp only [sLD, sMoved, sDec, c_8, c_40, c_46, c_70, c_94, if_true, if_false]; rfl) | rfl) rfl (by subst ev4 ev1; first | with_reducible rfl | (simp only [sLD, sMoved, sDec, c_8, c_40, c_46, c_70, c_94, if_true, if_false]; done) | (simp only [sLD, sMoved, sDec, c_8, c_40, c_46, c_70, c_94, if_true, if_false]; rfl) | rfl) dX6_learnAndDecide_98
        · refine j_aload_n X 1 dX6_learnAndDecide_73 rfl rfl ?_
          refine j_iload_n X 2 dX6_learnAndDecide_74 rfl rfl ?_
          refine j_iconst X (v := 1) dX6_learnAndDecide_75 (by decide) ?_
          refine j_callVv X (rest := []) (c_X6_quarantine l) m_yX6_quarantine kM_RX6_126 hput_0 rfl rfl rfl rfl rfl (Nat.le_of_ble_eq_true rfl) ⟨Nat.le_of_ble_eq_true rfl, Nat.le_of_ble_eq_true rfl, Nat.le_of_ble_eq_true rfl, Nat.le_of_ble_eq_true rfl⟩ dX6_learnAndDecide_76 ?_
          refine j_iconst X (v := 4) dX6_learnAndDecide_79 (by decide) ?_
          exact j_iret X hr rfl (by subst ev1; first | with_reducible rfl | (simp only [sLD, sMoved, sDec, c_8, c_40, c_46, c_70, if_true, if_false]; done) | (simp only [sLD, sMoved, sDec, c_8, c_40, c_46, c_70, if_true, if_false]; rfl) | rfl) rfl (by subst ev1; first | with_reducible rfl | (simp only [sLD, sMoved, sDec, c_8, c_40, c_46, c_70, if_true, if_false]; done) | (simp only [sLD, sMoved, sDec, c_8, c_40, c_46, c_70, if_true, if_false]; rfl) | rfl) dX6_learnAndDecide_80
  · refine j_iconst X (v := 0) dX6_learnAndDecide_11 (by decide) ?_
    exact j_iret X hr rfl (by first | with_reducible rfl | (simp only [sLD, sMoved, sDec, c_8, if_true, if_false]; done) | (simp only [sLD, sMoved, sDec, c_8, if_true, if_false]; rfl) | rfl) rfl (by first | with_reducible rfl | (simp only [sLD, sMoved, sDec, c_8, if_true, if_false]; done) | (simp only [sLD, sMoved, sDec, c_8, if_true, if_false]; rfl) | rfl) dX6_learnAndDecide_12
set_option maxRecDepth 100000 in
set_option maxHeartbeats 8000000 in
theorem c_X6_waysOut (l : Launch) {D : DD} {B z : Nat} {h : HF} {a : Nat} {σ : St} {t p d : Int32} : CT l yX6_waysOut cX6_waysOut 4 (some .int) 3 64 [.ref a, .int t, .int p, .int d] D B z (hput D h a σ) (some (.int (sWaysOut σ t p d))) 0 0 (hput D h a σ) := by
  refine CT.of (L := [(0, .ref a), (1, .int t), (2, .int p), (3, .int d)]) (by decide +kernel) (Nat.le_of_ble_eq_true rfl) rfl ?_
  intro P E S0 M0 AR BL ME CO X hr hnm
  refine j_iload_n X 1 dX6_waysOut_0 rfl rfl ?_
  refine j_iconst X (v := 2) dX6_waysOut_1 (by decide) ?_
  refine j_icmp_ne X (tgt := 16) dX6_waysOut_2 (by decide) (fun c_2 => ?_) (fun c_2 => ?_)
  · refine j_iload_n X 1 dX6_waysOut_16 rfl rfl ?_
    refine j_iconst X (v := 3) dX6_waysOut_17 (by decide) ?_
    refine j_icmp_ne X (tgt := 37) dX6_waysOut_18 (by decide) (fun c_18 => ?_) (fun c_18 => ?_)
    · refine j_iconst X (v := 0) dX6_waysOut_37 (by decide) ?_
      exact j_iret X hr rfl (by first | with_reducible rfl | (simp only [sWaysOut, c_2, c_18, if_true, if_false]; done) | (simp only [sWaysOut, c_2, c_18, if_true, if_false]; rfl) | rfl) rfl (by first | with_reducible rfl | (simp only [sWaysOut, c_2, c_18, if_true, if_false]; done) | (simp only [sWaysOut, c_2, c_18, if_true, if_false]; rfl) | rfl) dX6_waysOut_38
    · refine j_aload_n X 0 dX6_waysOut_21 rfl rfl ?_
      refine j_get X fG_RX6_27 hput_0 rfl rfl dX6_waysOut_22 ?_
      refine j_callVi X (rest := []) (c_X3_openOnes l) m_yX3_openOnes kM_RX6_139 (hput_k 3 (by decide)) rfl rfl rfl rfl rfl (Nat.le_of_ble_eq_true rfl) ⟨Nat.le_of_ble_eq_true rfl, Nat.le_of_ble_eq_true rfl, Nat.le_of_ble_eq_true rfl, Nat.le_of_ble_eq_true rfl⟩ dX6_waysOut_25 ?_
      refine j_iconst X (v := 1) dX6_waysOut_28 (by decide) ?_
      refine j_iload_n X 2 dX6_waysOut_29 rfl rfl ?_
      refine j_ishl X dX6_waysOut_30 ?_
      refine j_iconst X (v := (-1)) dX6_waysOut_31 (by decide) ?_
      refine j_ixor X dX6_waysOut_32 ?_
      refine j_iand X dX6_waysOut_33 ?_
      refine j_goto X (tgt := 38) dX6_waysOut_34 (by decide) ?_
      exact j_iret X hr rfl (by first | with_reducible rfl | (simp only [sWaysOut, c_2, c_18, if_true, if_false]; done) | (simp only [sWaysOut, c_2, c_18, if_true, if_false]; rfl) | rfl) rfl (by first | with_reducible rfl | (simp only [sWaysOut, c_2, c_18, if_true, if_false]; done) | (simp only [sWaysOut, c_2, c_18, if_true, if_false]; rfl) | rfl) dX6_waysOut_38
  · refine j_iconst X (v := 1) dX6_waysOut_5 (by decide) ?_
    refine j_aload_n X 0 dX6_waysOut_6 rfl rfl ?_
    refine j_get X fG_RX6_41 hput_0 rfl rfl dX6_waysOut_7 ?_
    refine j_iload_n X 3 dX6_waysOut_10 rfl rfl ?_
    refine j_callVi X (rest := [.int 1]) (c_X7_portOf l) m_yX7_portOf kM_RX6_114 (hput_k 21 (by decide)) rfl rfl rfl rfl rfl (Nat.le_of_ble_eq_true rfl) ⟨Nat.le_of_ble_eq_true rfl, Nat.le_of_ble_eq_true rfl, Nat.le_of_ble_eq_true rfl, Nat.le_of_ble_eq_true rfl⟩ dX6_waysOut_11 ?_
    refine j_ishl X dX6_waysOut_14 ?_
    exact j_iret X hr rfl (by first | with_reducible rfl | (simp only [sWaysOut, c_2, if_true, if_false]; done) | (simp only [sWaysOut, c_2, if_true, if_false]; rfl) | rfl) rfl (by first | with_reducible rfl | (simp only [sWaysOut, c_2, if_true, if_false]; done) | (simp only [sWaysOut, c_2, if_true, if_false]; rfl) | rfl) dX6_waysOut_15
set_option maxRecDepth 100000 in
set_option maxHeartbeats 8000000 in
theorem c_X6_goOut (l : Launch) {D : DD} {B z : Nat} {h : HF} {a : Nat} {σ : St} {p s d pr : Int32} : CT l yX6_goOut cX6_goOut 5 none 3 73 [.ref a, .int p, .int s, .int d, .int pr] D B z (hput D h a σ) none 0 0 (hput D h a (sOut σ p s d pr)) := by
  refine CT.of (L := [(0, .ref a), (1, .int p), (2, .int s), (3, .int d), (4, .int pr)]) (by decide +kernel) (Nat.le_of_ble_eq_true rfl) rfl ?_
  intro P E S0 M0 AR BL ME CO X hr hnm
  refine j_aload_n X 0 dX6_goOut_0 rfl rfl ?_
  refine j_get X fG_RX6_34 hput_0 rfl rfl dX6_goOut_1 ?_
  refine j_iload_n X 1 dX6_goOut_4 rfl rfl ?_
  refine j_callVi X (rest := []) (c_X4_isFull l) m_yX4_isFull kM_RX6_143 (hput_k 16 (by decide)) rfl rfl rfl rfl rfl (Nat.le_of_ble_eq_true rfl) ⟨Nat.le_of_ble_eq_true rfl, Nat.le_of_ble_eq_true rfl, Nat.le_of_ble_eq_true rfl, Nat.le_of_ble_eq_true rfl⟩ dX6_goOut_5 ?_
  refine j_if_eq X (tgt := 23) dX6_goOut_8 (by decide) (fun c_8 => ?_) (fun c_8 => ?_)
  · refine j_aload_n X 0 dX6_goOut_23 rfl rfl ?_
    refine j_get X fG_RX6_34 hput_0 rfl rfl dX6_goOut_24 ?_
    refine j_iload_n X 1 dX6_goOut_27 rfl rfl ?_
    refine j_iload_n X 2 dX6_goOut_28 rfl rfl ?_
    refine j_iload_n X 3 dX6_goOut_29 rfl rfl ?_
    refine j_iload X 4 dX6_goOut_30 rfl ?_
    refine j_aload_n X 0 dX6_goOut_32 rfl rfl ?_
    refine j_get X fG_RX6_76 hput_0 rfl rfl dX6_goOut_33 ?_
    refine j_callVv X (rest := []) (c_X4_insert l) m_yX4_insert kM_RX6_146 (hput_k 16 (by decide)) rfl rfl rfl rfl rfl (Nat.le_of_ble_eq_true rfl) ⟨Nat.le_of_ble_eq_true rfl, Nat.le_of_ble_eq_true rfl, Nat.le_of_ble_eq_true rfl, Nat.le_of_ble_eq_true rfl⟩ dX6_goOut_36 ?_
    refine j_aload_n X 0 dX6_goOut_39 rfl rfl ?_
    refine j_get X fG_RX6_27 hput_0 rfl rfl dX6_goOut_40 ?_
    refine j_iload_n X 1 dX6_goOut_43 rfl rfl ?_
    refine j_bipush X (v := 7) dX6_goOut_44 (by decide) ?_
    refine j_iconst X (v := 1) dX6_goOut_46 (by decide) ?_
    refine j_callVv X (rest := []) (c_X3_credit l) m_yX3_credit kM_RX6_92 (hput_k 3 (by decide)) rfl rfl rfl rfl rfl (Nat.le_of_ble_eq_true rfl) ⟨Nat.le_of_ble_eq_true rfl, Nat.le_of_ble_eq_true rfl, Nat.le_of_ble_eq_true rfl, Nat.le_of_ble_eq_true rfl⟩ dX6_goOut_47 ?_
    refine j_aload_n X 0 dX6_goOut_50 rfl rfl ?_
    refine j_dup X dX6_goOut_51 rfl ?_
    refine j_get X fG_RX6_76 hput_0 rfl rfl dX6_goOut_52 ?_
    refine j_iconst X (v := 1) dX6_goOut_55 (by decide) ?_
    refine j_iadd X dX6_goOut_56 ?_
    refine j_put X fG_RX6_76 fW_6_6 hput_0 rfl rfl rfl (Nat.le_of_ble_eq_true rfl) dX6_goOut_57 ?_
    refine j_heap (h' := hput D h a (sput (pCredit (qIns σ p s d pr (σ.2 1)) p 7 1) 1 (((pCredit (qIns σ p s d pr (σ.2 1)) p 7 1).2 1) + 1))) hput_s1 ?_
    exact j_vret X hr rfl (by first | with_reducible rfl | (simp only [sOut, c_8, if_true, if_false]; done) | (simp only [sOut, c_8, if_true, if_false]; rfl) | rfl) dX6_goOut_60
  · refine j_aload_n X 0 dX6_goOut_11 rfl rfl ?_
    refine j_get X fG_RX6_27 hput_0 rfl rfl dX6_goOut_12 ?_
    refine j_iload_n X 1 dX6_goOut_15 rfl rfl ?_
    refine j_bipush X (v := 8) dX6_goOut_16 (by decide) ?_
    refine j_iconst X (v := 1) dX6_goOut_18 (by decide) ?_
    refine j_callVv X (rest := []) (c_X3_credit l) m_yX3_credit kM_RX6_92 (hput_k 3 (by decide)) rfl rfl rfl rfl rfl (Nat.le_of_ble_eq_true rfl) ⟨Nat.le_of_ble_eq_true rfl, Nat.le_of_ble_eq_true rfl, Nat.le_of_ble_eq_true rfl, Nat.le_of_ble_eq_true rfl⟩ dX6_goOut_19 ?_
    exact j_vret X hr rfl (by first | with_reducible rfl | (simp only [sOut, c_8, if_true, if_false]; done) | (simp only [sOut, c_8, if_true, if_false]; rfl) | rfl) dX6_goOut_22
set_option maxRecDepth 100000 in
set_option maxHeartbeats 8000000 in
theorem c_X6_comeIn (l : Launch) {D : DD} {B z : Nat} {h : HF} {a : Nat} {σ : St} {p s d pr : Int32} : CT l yX6_comeIn cX6_comeIn 8 (some .int) 4 97 [.ref a, .int p, .int s, .int d, .int pr] D B z (hput D h a σ) (some (.int ((sCome σ p s d pr).1))) 0 0 (hput D h a ((sCome σ p s d pr).2)) := by
  refine CT.of (L := [(0, .ref a), (1, .int p), (2, .int s), (3, .int d), (4, .int pr)]) (by decide +kernel) (Nat.le_of_ble_eq_true rfl) rfl ?_
  intro P E S0 M0 AR BL ME CO X hr hnm
  refine j_aload_n X 0 dX6_comeIn_0 rfl rfl ?_
  refine j_iload_n X 1 dX6_comeIn_1 rfl rfl ?_
  refine j_iload_n X 2 dX6_comeIn_2 rfl rfl ?_
  refine j_iload_n X 3 dX6_comeIn_3 rfl rfl ?_
  refine j_callVi X (rest := []) (c_X6_learnAndDecide l) m_yX6_learnAndDecide kM_RX6_96 hput_0 rfl rfl rfl rfl rfl (Nat.le_of_ble_eq_true rfl) ⟨Nat.le_of_ble_eq_true rfl, Nat.le_of_ble_eq_true rfl, Nat.le_of_ble_eq_true rfl, Nat.le_of_ble_eq_true rfl⟩ dX6_comeIn_4 ?_
  refine j_top (fun v1 ev1 => ?_)
  refine j_istore X (L' := [(5, .int v1), (0, .ref a), (1, .int p), (2, .int s), (3, .int d), (4, .int pr)]) dX6_comeIn_7 (by decide) rfl ?_
  refine j_aload_n X 1 dX6_comeIn_9 rfl rfl ?_
  refine j_iload X 0 dX6_comeIn_10 rfl ?_
  refine j_iload_n X 2 dX6_comeIn_12 rfl rfl ?_
  refine j_iload_n X 4 dX6_comeIn_13 rfl rfl ?_
  refine j_callVi X (rest := []) (c_X6_waysOut l) m_yX6_waysOut kM_RX6_100 hput_0 rfl rfl rfl rfl rfl (Nat.le_of_ble_eq_true rfl) ⟨Nat.le_of_ble_eq_true rfl, Nat.le_of_ble_eq_true rfl, Nat.le_of_ble_eq_true rfl, Nat.le_of_ble_eq_true rfl⟩ dX6_comeIn_14 ?_
  refine j_top (fun v2 ev2 => ?_)
  refine j_istore X (L' := [(6, .int v2), (5, .int v1), (0, .ref a), (1, .int p), (2, .int s), (3, .int d), (4, .int pr)]) dX6_comeIn_17 (by decide) rfl ?_
  refine j_iconst X (v := 0) dX6_comeIn_19 (by decide) ?_
  refine j_istore X (L' := [(7, .int 0), (6, .int v2), (5, .int v1), (0, .ref a), (1, .int p), (2, .int s), (3, .int d), (4, .int pr)]) dX6_comeIn_20 (by decide) rfl ?_
  have loop22 : ∀ (n k : Nat), k + n = 8 → J P l E { frames := 4, cells := 0, slots := 0, locals := 97 } S0 M0 AR BL ME CO D B 8 (MQ BL (QC (some (.int ((sCome σ p s d pr).1))) D B (z + 0) (hput D h a ((sCome σ p s d pr).2))) AR S0 0 0 (aB B)) 0 0 z (hput D h a (sGo (sLD σ p s d).2 v2 s d pr k)) [(0, .ref a), (1, .int p), (2, .int s), (3, .int d), (4, .int pr), (5, .int v1), (6, .int v2), (7, .int (nI k))] [] 22 := by
    intro n
    induction n with
    | zero =>
      intro k hk
      obtain rfl : k = 8 := by omega
      refine j_iload X 7 dX6_comeIn_22 rfl ?_
      refine j_bipush X (v := 8) dX6_comeIn_24 (by decide) ?_
      refine j_icmp_ge X (tgt := 56) dX6_comeIn_26 (by decide) (fun c_26 => ?_) (fun c_26 => absurd c_26 (by decide))
      refine j_aload_n X 0 dX6_comeIn_56 rfl rfl ?_
      refine j_get X fG_RX6_27 hput_0 rfl rfl dX6_comeIn_57 ?_
      refine j_iload_n X 1 dX6_comeIn_60 rfl rfl ?_
      refine j_iconst X (v := 0) dX6_comeIn_61 (by decide) ?_
      refine j_iconst X (v := 1) dX6_comeIn_62 (by decide) ?_
      refine j_callVv X (rest := []) (c_X3_credit l) m_yX3_credit kM_RX6_92 (hput_k 3 (by decide)) rfl rfl rfl rfl rfl (Nat.le_of_ble_eq_true rfl) ⟨Nat.le_of_ble_eq_true rfl, Nat.le_of_ble_eq_true rfl, Nat.le_of_ble_eq_true rfl, Nat.le_of_ble_eq_true rfl⟩ dX6_comeIn_63 ?_
      refine j_aload_n X 0 dX6_comeIn_66 rfl rfl ?_
      refine j_get X fG_RX6_27 hput_0 rfl rfl dX6_comeIn_67 ?_
      refine j_iload_n X 1 dX6_comeIn_70 rfl rfl ?_
      refine j_iload X 5 dX6_comeIn_71 rfl ?_
      refine j_callSi X (rest := [.int p, .ref (a + 3)]) (c_X6_accountOf l) m_yX6_accountOf kM_RX6_107 rfl rfl (Nat.le_of_ble_eq_true rfl) ⟨Nat.le_of_ble_eq_true rfl, Nat.le_of_ble_eq_true rfl, Nat.le_of_ble_eq_true rfl, Nat.le_of_ble_eq_true rfl⟩ dX6_comeIn_73 ?_
      refine j_iconst X (v := 1) dX6_comeIn_76 (by decide) ?_
      refine j_callVv X (rest := []) (c_X3_credit l) m_yX3_credit kM_RX6_92 (hput_k 3 (by decide)) rfl rfl rfl rfl rfl (Nat.le_of_ble_eq_true rfl) ⟨Nat.le_of_ble_eq_true rfl, Nat.le_of_ble_eq_true rfl, Nat.le_of_ble_eq_true rfl, Nat.le_of_ble_eq_true rfl⟩ dX6_comeIn_77 ?_
      refine j_iload X 5 dX6_comeIn_80 rfl ?_
      exact j_iret X hr rfl (by first | with_reducible rfl | (simp only [sCome, c_26, if_true, if_false]; done) | (simp only [sCome, c_26, if_true, if_false]; rfl) | rfl) rfl (by first | with_reducible rfl | (simp only [sCome, c_26, if_true, if_false]; done) | (simp only [sCome, c_26, if_true, if_false]; rfl) | rfl) dX6_comeIn_82
    | succ n ih =>
      intro k hk
      have hlt : nI k < 8 := nlt_lit (b := 8) (by omega) (by decide)
      refine j_iload X 7 dX6_comeIn_22 rfl ?_
      refine j_bipush X (v := 8) dX6_comeIn_24 (by decide) ?_
      refine j_icmp_ge X (tgt := 56) dX6_comeIn_26 (by decide) (fun c_26 => absurd hlt c_26) (fun c_26 => ?_)
      refine j_iload X 6 dX6_comeIn_29 rfl ?_
      refine j_iload X 7 dX6_comeIn_31 rfl ?_
      refine j_ishr X dX6_comeIn_33 ?_
      refine j_iconst X (v := 1) dX6_comeIn_34 (by decide) ?_
      refine j_iand X dX6_comeIn_35 ?_
      refine j_iconst X (v := 1) dX6_comeIn_36 (by decide) ?_
      refine j_icmp_ne X (tgt := 50) dX6_comeIn_37 (by decide) (fun c_37 => ?_) (fun c_37 => ?_)
      · obtain ⟨v3, ev3⟩ : ∃ y : Int32, y = (nI k) + 1 := ⟨_, rfl⟩
        refine j_iinc X 7 (k := 1) (v := v3) (L' := [(7, .int v3), (0, .ref a), (1, .int p), (2, .int s), (3, .int d), (4, .int pr), (5, .int v1), (6, .int v2)]) dX6_comeIn_50 rfl (by decide) (by decide) ev3.symm rfl ?_
        refine j_goto X (tgt := 22) dX6_comeIn_53 (by decide) ?_
        refine j_sub [1, 2, 3, 4, 5, 6, 7, 0] (L' := [(0, .ref a), (1, .int p), (2, .int s), (3, .int d), (4, .int pr), (5, .int v1), (6, .int v2), (7, .int (nI (k + 1)))]) (by subst ev3; first | with_reducible rfl | (simp only [sGo, nI_succ k, c_26, c_37, if_true, if_false]; done) | (simp only [sGo, nI_succ k, c_26, c_37, if_true, if_false]; rfl) | rfl) ?_
        refine j_heap (h' := hput D h a (sGo (sLD σ p s d).2 v2 s d pr (k + 1))) (by subst ev3; first | with_reducible rfl | (simp only [sGo, nI_succ k, c_26, c_37, if_true, if_false]; done) | (simp only [sGo, nI_succ k, c_26, c_37, if_true, if_false]; rfl) | rfl) ?_
        exact ih (k + 1) (by omega)
      · refine j_aload_n X 0 dX6_comeIn_40 rfl rfl ?_
        refine j_iload X 7 dX6_comeIn_41 rfl ?_
        refine j_iload_n X 2 dX6_comeIn_43 rfl rfl ?_
        refine j_iload_n X 3 dX6_comeIn_44 rfl rfl ?_
        refine j_iload X 4 dX6_comeIn_45 rfl ?_
        refine j_callVv X (rest := []) (c_X6_goOut l) m_yX6_goOut kM_RX6_103 hput_0 rfl rfl rfl rfl rfl (Nat.le_of_ble_eq_true rfl) ⟨Nat.le_of_ble_eq_true rfl, Nat.le_of_ble_eq_true rfl, Nat.le_of_ble_eq_true rfl, Nat.le_of_ble_eq_true rfl⟩ dX6_comeIn_47 ?_
        obtain ⟨v4, ev4⟩ : ∃ y : Int32, y = (nI k) + 1 := ⟨_, rfl⟩
        refine j_iinc X 7 (k := 1) (v := v4) (L' := [(7, .int v4), (0, .ref a), (1, .int p), (2, .int s), (3, .int d), (4, .int pr), (5, .int v1), (6, .int v2)]) dX6_comeIn_50 rfl (by decide) (by decide) ev4.symm rfl ?_
        refine j_goto X (tgt := 22) dX6_comeIn_53 (by decide) ?_
        refine j_sub [1, 2, 3, 4, 5, 6, 7, 0] (L' := [(0, .ref a), (1, .int p), (2, .int s), (3, .int d), (4, .int pr), (5, .int v1), (6, .int v2), (7, .int (nI (k + 1)))]) (by subst ev4; first | with_reducible rfl | (simp only [sGo, nI_succ k, c_26, c_37, if_true, if_false]; done) | (simp only [sGo, nI_succ k, c_26, c_37, if_true, if_false]; rfl) | rfl) ?_
        refine j_heap (h' := hput D h a (sGo (sLD σ p s d).2 v2 s d pr (k + 1))) (by subst ev4; first | with_reducible rfl | (simp only [sGo, nI_succ k, c_26, c_37, if_true, if_false]; done) | (simp only [sGo, nI_succ k, c_26, c_37, if_true, if_false]; rfl) | rfl) ?_
        exact ih (k + 1) (by omega)
  refine j_sub [3, 4, 5, 6, 7, 2, 1, 0] (L' := [(0, .ref a), (1, .int p), (2, .int s), (3, .int d), (4, .int pr), (5, .int v1), (6, .int v2), (7, .int (nI 0))]) (by subst ev2 ev1; first | with_reducible rfl | (simp only [sGo, if_true, if_false]; done) | (simp only [sGo, if_true, if_false]; rfl) | rfl) ?_
  refine j_heap (h' := hput D h a (sGo (sLD σ p s d).2 v2 s d pr 0)) (by subst ev2 ev1; first | with_reducible rfl | (simp only [sGo, if_true, if_false]; done) | (simp only [sGo, if_true, if_false]; rfl) | rfl) ?_
  exact loop22 8 0 rfl
set_option maxRecDepth 100000 in
set_option maxHeartbeats 8000000 in
theorem c_X6_endSecond (l : Launch) {D : DD} {B z : Nat} {h : HF} {a : Nat} {σ : St}  : CT l yX6_endSecond cX6_endSecond 1 none 4 90 [.ref a] D B z (hput D h a σ) none 0 0 (hput D h a (sEnd σ)) := by
  refine CT.of (L := [(0, .ref a)]) (by decide +kernel) (Nat.le_of_ble_eq_true rfl) rfl ?_
  intro P E S0 M0 AR BL ME CO X hr hnm
  refine j_aload_n X 0 dX6_endSecond_0 rfl rfl ?_
  refine j_dup X dX6_endSecond_1 rfl ?_
  refine j_get X fG_RX6_72 hput_0 rfl rfl dX6_endSecond_2 ?_
  refine j_iconst X (v := 1) dX6_endSecond_5 (by decide) ?_
  refine j_iadd X dX6_endSecond_6 ?_
  refine j_put X fG_RX6_72 fW_6_5 hput_0 rfl rfl rfl (Nat.le_of_ble_eq_true rfl) dX6_endSecond_7 ?_
  refine j_heap (h' := hput D h a (sput σ 0 ((σ.2 0) + 1))) hput_s0 ?_
  refine j_aload_n X 0 dX6_endSecond_10 rfl rfl ?_
  refine j_get X fG_RX6_27 hput_0 rfl rfl dX6_endSecond_11 ?_
  refine j_callVv X (rest := []) (c_X3_endSecond l) m_yX3_endSecond kM_RX6_180 (hput_k 3 (by decide)) rfl rfl rfl rfl rfl (Nat.le_of_ble_eq_true rfl) ⟨Nat.le_of_ble_eq_true rfl, Nat.le_of_ble_eq_true rfl, Nat.le_of_ble_eq_true rfl, Nat.le_of_ble_eq_true rfl⟩ dX6_endSecond_14 ?_
  refine j_aload_n X 0 dX6_endSecond_17 rfl rfl ?_
  refine j_get X fG_RX6_41 hput_0 rfl rfl dX6_endSecond_18 ?_
  refine j_aload_n X 0 dX6_endSecond_21 rfl rfl ?_
  refine j_get X fG_RX6_72 hput_0 rfl rfl dX6_endSecond_22 ?_
  refine j_aload_n X 0 dX6_endSecond_25 rfl rfl ?_
  refine j_get X fG_RX6_18 hput_0 rfl rfl dX6_endSecond_26 ?_
  refine j_iconst X (v := 0) dX6_endSecond_29 (by decide) ?_
  refine j_callVi X (rest := [.int ((pEndSec (sput σ 0 ((σ.2 0) + 1))).2 0), .ref (a + 21)]) (s_at0 l) m_yX5_at kM_RX6_85 (hput_k 1 (by decide)) rfl rfl rfl rfl rfl (Nat.le_of_ble_eq_true rfl) ⟨Nat.le_of_ble_eq_true rfl, Nat.le_of_ble_eq_true rfl, Nat.le_of_ble_eq_true rfl, Nat.le_of_ble_eq_true rfl⟩ dX6_endSecond_30 ?_
  refine j_isub X dX6_endSecond_33 ?_
  refine j_callVv X (rest := []) (c_X7_removeUntil l) m_yX7_removeUntil kM_RX6_183 (hput_k 21 (by decide)) rfl rfl rfl rfl rfl (Nat.le_of_ble_eq_true rfl) ⟨Nat.le_of_ble_eq_true rfl, Nat.le_of_ble_eq_true rfl, Nat.le_of_ble_eq_true rfl, Nat.le_of_ble_eq_true rfl⟩ dX6_endSecond_34 ?_
  refine j_aload_n X 0 dX6_endSecond_37 rfl rfl ?_
  refine j_get X fG_RX6_48 hput_0 rfl rfl dX6_endSecond_38 ?_
  refine j_aload_n X 0 dX6_endSecond_41 rfl rfl ?_
  refine j_get X fG_RX6_72 hput_0 rfl rfl dX6_endSecond_42 ?_
  refine j_callVv X (rest := []) (c_X2_beginSecond l) m_yX2_beginSecond kM_RX6_186 (hput_k 26 (by decide)) rfl rfl rfl rfl rfl (Nat.le_of_ble_eq_true rfl) ⟨Nat.le_of_ble_eq_true rfl, Nat.le_of_ble_eq_true rfl, Nat.le_of_ble_eq_true rfl, Nat.le_of_ble_eq_true rfl⟩ dX6_endSecond_45 ?_
  exact j_vret X hr rfl (by first | with_reducible rfl | (simp only [sEnd, sTick, if_true, if_false]; done) | (simp only [sEnd, sTick, if_true, if_false]; rfl) | rfl) dX6_endSecond_48
