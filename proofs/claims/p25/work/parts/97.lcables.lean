set_option maxRecDepth 100000 in
set_option maxHeartbeats 8000000 in
theorem c_L_cablesJ (l : Launch) {D : DD} {B z : Nat} {h : HF} {b k q : Nat} {y : Int32} {nx : Nat} {S S2 : Sy} {t : Int32} (x : nx < 4 ∧ S.2.1 1 = nI nx) (hl : lowF y 8 = nI q) (hy : y &&& 256 = 0) (e : xJoin nx S (nI k) (nI q) = (t, S2)) (j1 : nI k = nI q → t = -2) (j2 : ¬ nI k = nI q → xPort S (nI k) 4 = -4 → xPort S (nI q) 4 = -4 → t = xCount S 8 + 1 ∧ xPort S2 (nI k) 4 = nI q) (j3 : ¬ nI k = nI q → ¬ (xPort S (nI k) 4 = -4 ∧ xPort S (nI q) 4 = -4) → t = -3) : CT l yL_cables cL_cables 7 (some .boolean) 6 129 [.ref b, .int (nI k), .int y] D B z (xput D h b S) (some (.int 1)) 0 0 (xput D h b S2) := by
  refine CT.of (L := [(0, .ref b), (1, .int (nI k)), (2, .int y)]) (by decide +kernel) (Nat.le_of_ble_eq_true rfl) rfl ?_
  intro P E S0 M0 AR BL ME CO X hr hnm
  refine j_iload_n X 2 dL_cables_0 rfl rfl ?_
  refine j_bipush X (v := 8) dL_cables_1 (by decide) ?_
  refine j_callSi X (rest := []) (k_low l (by decide) hl) m_yL_low kM_RL_80 rfl rfl (Nat.le_of_ble_eq_true rfl) ⟨Nat.le_of_ble_eq_true rfl, Nat.le_of_ble_eq_true rfl, Nat.le_of_ble_eq_true rfl, Nat.le_of_ble_eq_true rfl⟩ dL_cables_3 ?_
  refine j_istore_n X (L' := [(3, .int (nI q)), (0, .ref b), (1, .int (nI k)), (2, .int y)]) dL_cables_6 rfl (by decide) rfl ?_
  refine j_aload_n X 1 dL_cables_7 rfl rfl ?_
  refine j_bipush X (v := 8) dL_cables_8 (by decide) ?_
  refine j_callVi X (rest := []) (c_X9_count l) m_yX9_count kM_RL_13 xput_0 rfl rfl rfl rfl rfl (Nat.le_of_ble_eq_true rfl) ⟨Nat.le_of_ble_eq_true rfl, Nat.le_of_ble_eq_true rfl, Nat.le_of_ble_eq_true rfl, Nat.le_of_ble_eq_true rfl⟩ dL_cables_10 ?_
  refine j_istore X (L' := [(4, .int (xCount S 8)), (3, .int (nI q)), (0, .ref b), (1, .int (nI k)), (2, .int y)]) dL_cables_13 (by decide) rfl ?_
  refine j_iload_n X 3 dL_cables_15 rfl rfl ?_
  refine j_iload_n X 1 dL_cables_16 rfl rfl ?_
  refine j_icmp_eq X (tgt := 46) dL_cables_17 (by decide) (fun c_17 => ?_) (fun c_17 => ?_)
  · refine j_iconst X (v := 0) dL_cables_46 (by decide) ?_
    refine j_istore X (L' := [(5, .int 0), (4, .int (xCount S 8)), (3, .int (nI q)), (0, .ref b), (1, .int (nI k)), (2, .int y)]) dL_cables_47 (by decide) rfl ?_
    refine j_iload_n X 5 dL_cables_49 rfl rfl ?_
    refine j_sipush X (v := 256) dL_cables_50 (by decide) ?_
    refine j_iand X dL_cables_53 ?_
    refine j_if_ne X (tgt := 111) dL_cables_54 (by decide) (fun c_54 => absurd hy c_54) (fun c_54 => ?_)
    refine j_aload_n X 3 dL_cables_57 rfl rfl ?_
    refine j_iload_n X 4 dL_cables_58 rfl rfl ?_
    refine j_iload_n X 2 dL_cables_59 rfl rfl ?_
    refine j_callVi X (rest := []) (k_join l x e) m_yX9_join kM_RL_83 xput_0 rfl rfl rfl rfl rfl (Nat.le_of_ble_eq_true rfl) ⟨Nat.le_of_ble_eq_true rfl, Nat.le_of_ble_eq_true rfl, Nat.le_of_ble_eq_true rfl, Nat.le_of_ble_eq_true rfl⟩ dL_cables_60 ?_
    refine j_iload_n X 4 dL_cables_63 rfl rfl ?_
    refine j_iload_n X 2 dL_cables_64 rfl rfl ?_
    refine j_icmp_ne X (tgt := 73) dL_cables_65 (by decide) (fun c_ => absurd c_17 c_) (fun _ => ?_)
    refine j_bipush X (v := (-2)) dL_cables_68 (by decide) ?_
    refine j_goto X (tgt := 87) dL_cables_70 (by decide) ?_
    refine j_icmp_ne X (tgt := 109) dL_cables_87 (by decide) (fun c_87 => absurd (j1 c_17) c_87) (fun c_87 => ?_)
    refine j_iload X 0 dL_cables_90 rfl ?_
    refine j_if_eq X (tgt := 105) dL_cables_92 (by decide) (fun _ => ?_) (fun c_ => absurd (by decide) c_)
    refine j_iconst X (v := 1) dL_cables_105 (by decide) ?_
    refine j_goto X (tgt := 110) dL_cables_106 (by decide) ?_
    exact j_iret X hr rfl rfl rfl rfl dL_cables_110
  · refine j_aload_n X 2 dL_cables_20 rfl rfl ?_
    refine j_iload_n X 3 dL_cables_21 rfl rfl ?_
    refine j_iconst X (v := 4) dL_cables_22 (by decide) ?_
    refine j_callVi X (rest := []) (c_X9_port l) m_yX9_port kM_RL_19 xput_0 rfl rfl rfl rfl rfl (Nat.le_of_ble_eq_true rfl) ⟨Nat.le_of_ble_eq_true rfl, Nat.le_of_ble_eq_true rfl, Nat.le_of_ble_eq_true rfl, Nat.le_of_ble_eq_true rfl⟩ dL_cables_23 ?_
    refine j_bipush X (v := (-4)) dL_cables_26 (by decide) ?_
    refine j_icmp_ne X (tgt := 46) dL_cables_28 (by decide) (fun c_28 => ?_) (fun c_28 => ?_)
    · refine j_iconst X (v := 0) dL_cables_46 (by decide) ?_
      refine j_istore X (L' := [(5, .int 0), (4, .int (xCount S 8)), (3, .int (nI q)), (0, .ref b), (1, .int (nI k)), (2, .int y)]) dL_cables_47 (by decide) rfl ?_
      refine j_iload_n X 5 dL_cables_49 rfl rfl ?_
      refine j_sipush X (v := 256) dL_cables_50 (by decide) ?_
      refine j_iand X dL_cables_53 ?_
      refine j_if_ne X (tgt := 111) dL_cables_54 (by decide) (fun c_54 => absurd hy c_54) (fun c_54 => ?_)
      refine j_aload_n X 3 dL_cables_57 rfl rfl ?_
      refine j_iload_n X 4 dL_cables_58 rfl rfl ?_
      refine j_iload_n X 2 dL_cables_59 rfl rfl ?_
      refine j_callVi X (rest := []) (k_join l x e) m_yX9_join kM_RL_83 xput_0 rfl rfl rfl rfl rfl (Nat.le_of_ble_eq_true rfl) ⟨Nat.le_of_ble_eq_true rfl, Nat.le_of_ble_eq_true rfl, Nat.le_of_ble_eq_true rfl, Nat.le_of_ble_eq_true rfl⟩ dL_cables_60 ?_
      refine j_iload_n X 4 dL_cables_63 rfl rfl ?_
      refine j_iload_n X 2 dL_cables_64 rfl rfl ?_
      refine j_icmp_ne X (tgt := 73) dL_cables_65 (by decide) (fun _ => ?_) (fun c_ => absurd c_ c_17)
      refine j_iload X 0 dL_cables_73 rfl ?_
      refine j_if_eq X (tgt := 85) dL_cables_75 (by decide) (fun _ => ?_) (fun c_ => absurd (by decide) c_)
      refine j_bipush X (v := (-3)) dL_cables_85 (by decide) ?_
      refine j_icmp_ne X (tgt := 109) dL_cables_87 (by decide) (fun c_87 => absurd (j3 c_17 (fun q_ => c_28 q_.1)) c_87) (fun c_87 => ?_)
      refine j_iload X 0 dL_cables_90 rfl ?_
      refine j_if_eq X (tgt := 105) dL_cables_92 (by decide) (fun _ => ?_) (fun c_ => absurd (by decide) c_)
      refine j_iconst X (v := 1) dL_cables_105 (by decide) ?_
      refine j_goto X (tgt := 110) dL_cables_106 (by decide) ?_
      exact j_iret X hr rfl rfl rfl rfl dL_cables_110
    · refine j_aload_n X 2 dL_cables_31 rfl rfl ?_
      refine j_iload_n X 1 dL_cables_32 rfl rfl ?_
      refine j_iconst X (v := 4) dL_cables_33 (by decide) ?_
      refine j_callVi X (rest := []) (c_X9_port l) m_yX9_port kM_RL_19 xput_0 rfl rfl rfl rfl rfl (Nat.le_of_ble_eq_true rfl) ⟨Nat.le_of_ble_eq_true rfl, Nat.le_of_ble_eq_true rfl, Nat.le_of_ble_eq_true rfl, Nat.le_of_ble_eq_true rfl⟩ dL_cables_34 ?_
      refine j_bipush X (v := (-4)) dL_cables_37 (by decide) ?_
      refine j_icmp_ne X (tgt := 46) dL_cables_39 (by decide) (fun c_39 => ?_) (fun c_39 => ?_)
      · refine j_iconst X (v := 0) dL_cables_46 (by decide) ?_
        refine j_istore X (L' := [(5, .int 0), (4, .int (xCount S 8)), (3, .int (nI q)), (0, .ref b), (1, .int (nI k)), (2, .int y)]) dL_cables_47 (by decide) rfl ?_
        refine j_iload_n X 5 dL_cables_49 rfl rfl ?_
        refine j_sipush X (v := 256) dL_cables_50 (by decide) ?_
        refine j_iand X dL_cables_53 ?_
        refine j_if_ne X (tgt := 111) dL_cables_54 (by decide) (fun c_54 => absurd hy c_54) (fun c_54 => ?_)
        refine j_aload_n X 3 dL_cables_57 rfl rfl ?_
        refine j_iload_n X 4 dL_cables_58 rfl rfl ?_
        refine j_iload_n X 2 dL_cables_59 rfl rfl ?_
        refine j_callVi X (rest := []) (k_join l x e) m_yX9_join kM_RL_83 xput_0 rfl rfl rfl rfl rfl (Nat.le_of_ble_eq_true rfl) ⟨Nat.le_of_ble_eq_true rfl, Nat.le_of_ble_eq_true rfl, Nat.le_of_ble_eq_true rfl, Nat.le_of_ble_eq_true rfl⟩ dL_cables_60 ?_
        refine j_iload_n X 4 dL_cables_63 rfl rfl ?_
        refine j_iload_n X 2 dL_cables_64 rfl rfl ?_
        refine j_icmp_ne X (tgt := 73) dL_cables_65 (by decide) (fun _ => ?_) (fun c_ => absurd c_ c_17)
        refine j_iload X 0 dL_cables_73 rfl ?_
        refine j_if_eq X (tgt := 85) dL_cables_75 (by decide) (fun _ => ?_) (fun c_ => absurd (by decide) c_)
        refine j_bipush X (v := (-3)) dL_cables_85 (by decide) ?_
        refine j_icmp_ne X (tgt := 109) dL_cables_87 (by decide) (fun c_87 => absurd (j3 c_17 (fun q_ => c_39 q_.2)) c_87) (fun c_87 => ?_)
        refine j_iload X 0 dL_cables_90 rfl ?_
        refine j_if_eq X (tgt := 105) dL_cables_92 (by decide) (fun _ => ?_) (fun c_ => absurd (by decide) c_)
        refine j_iconst X (v := 1) dL_cables_105 (by decide) ?_
        refine j_goto X (tgt := 110) dL_cables_106 (by decide) ?_
        exact j_iret X hr rfl rfl rfl rfl dL_cables_110
      · refine j_iconst X (v := 1) dL_cables_42 (by decide) ?_
        refine j_goto X (tgt := 47) dL_cables_43 (by decide) ?_
        refine j_istore X (L' := [(5, .int 1), (4, .int (xCount S 8)), (3, .int (nI q)), (0, .ref b), (1, .int (nI k)), (2, .int y)]) dL_cables_47 (by decide) rfl ?_
        refine j_iload_n X 5 dL_cables_49 rfl rfl ?_
        refine j_sipush X (v := 256) dL_cables_50 (by decide) ?_
        refine j_iand X dL_cables_53 ?_
        refine j_if_ne X (tgt := 111) dL_cables_54 (by decide) (fun c_54 => absurd hy c_54) (fun c_54 => ?_)
        refine j_aload_n X 3 dL_cables_57 rfl rfl ?_
        refine j_iload_n X 4 dL_cables_58 rfl rfl ?_
        refine j_iload_n X 2 dL_cables_59 rfl rfl ?_
        refine j_callVi X (rest := []) (k_join l x e) m_yX9_join kM_RL_83 xput_0 rfl rfl rfl rfl rfl (Nat.le_of_ble_eq_true rfl) ⟨Nat.le_of_ble_eq_true rfl, Nat.le_of_ble_eq_true rfl, Nat.le_of_ble_eq_true rfl, Nat.le_of_ble_eq_true rfl⟩ dL_cables_60 ?_
        refine j_iload_n X 4 dL_cables_63 rfl rfl ?_
        refine j_iload_n X 2 dL_cables_64 rfl rfl ?_
        refine j_icmp_ne X (tgt := 73) dL_cables_65 (by decide) (fun _ => ?_) (fun c_ => absurd c_ c_17)
        refine j_iload X 0 dL_cables_73 rfl ?_
        refine j_if_eq X (tgt := 85) dL_cables_75 (by decide) (fun c_ => absurd c_ (by decide)) (fun _ => ?_)
        refine j_iload X 1 dL_cables_78 rfl ?_
        refine j_iconst X (v := 1) dL_cables_80 (by decide) ?_
        refine j_iadd X dL_cables_81 ?_
        refine j_goto X (tgt := 87) dL_cables_82 (by decide) ?_
        refine j_icmp_ne X (tgt := 109) dL_cables_87 (by decide) (fun c_87 => absurd (j2 c_17 c_28 c_39).1 c_87) (fun c_87 => ?_)
        refine j_iload X 0 dL_cables_90 rfl ?_
        refine j_if_eq X (tgt := 105) dL_cables_92 (by decide) (fun c_ => absurd c_ (by decide)) (fun _ => ?_)
        refine j_aload_n X 3 dL_cables_95 rfl rfl ?_
        refine j_iload_n X 4 dL_cables_96 rfl rfl ?_
        refine j_iconst X (v := 4) dL_cables_97 (by decide) ?_
        refine j_callVi X (rest := []) (c_X9_port l) m_yX9_port kM_RL_19 xput_0 rfl rfl rfl rfl rfl (Nat.le_of_ble_eq_true rfl) ⟨Nat.le_of_ble_eq_true rfl, Nat.le_of_ble_eq_true rfl, Nat.le_of_ble_eq_true rfl, Nat.le_of_ble_eq_true rfl⟩ dL_cables_98 ?_
        refine j_iload_n X 2 dL_cables_101 rfl rfl ?_
        refine j_icmp_ne X (tgt := 109) dL_cables_102 (by decide) (fun c_102 => absurd (j2 c_17 c_28 c_39).2 c_102) (fun c_102 => ?_)
        refine j_iconst X (v := 1) dL_cables_105 (by decide) ?_
        refine j_goto X (tgt := 110) dL_cables_106 (by decide) ?_
        exact j_iret X hr rfl rfl rfl rfl dL_cables_110
set_option maxRecDepth 100000 in
set_option maxHeartbeats 8000000 in
theorem c_L_cablesP (l : Launch) {D : DD} {B z : Nat} {h : HF} {b k q : Nat} {y : Int32} {nx : Nat} {S S2 : Sy} {t : Int32} (x : nx < 4 ∧ S.2.1 1 = nI nx) (hl : lowF y 8 = nI q) (hy : ¬ y &&& 256 = 0) (e : xPartC nx S (nI k) = (t, S2)) (p1 : t = xPort S (nI k) 4) (p2 : xPort S2 (nI k) 4 = -4) (p3 : ¬ xPort S (nI k) 4 < 0 → xPort S2 (xPort S (nI k) 4) 4 = -4) : CT l yL_cables cL_cables 7 (some .boolean) 6 129 [.ref b, .int (nI k), .int y] D B z (xput D h b S) (some (.int 1)) 0 0 (xput D h b S2) := by
  refine CT.of (L := [(0, .ref b), (1, .int (nI k)), (2, .int y)]) (by decide +kernel) (Nat.le_of_ble_eq_true rfl) rfl ?_
  intro P E S0 M0 AR BL ME CO X hr hnm
  refine j_iload_n X 2 dL_cables_0 rfl rfl ?_
  refine j_bipush X (v := 8) dL_cables_1 (by decide) ?_
  refine j_callSi X (rest := []) (k_low l (by decide) hl) m_yL_low kM_RL_80 rfl rfl (Nat.le_of_ble_eq_true rfl) ⟨Nat.le_of_ble_eq_true rfl, Nat.le_of_ble_eq_true rfl, Nat.le_of_ble_eq_true rfl, Nat.le_of_ble_eq_true rfl⟩ dL_cables_3 ?_
  refine j_istore_n X (L' := [(3, .int (nI q)), (0, .ref b), (1, .int (nI k)), (2, .int y)]) dL_cables_6 rfl (by decide) rfl ?_
  refine j_aload_n X 1 dL_cables_7 rfl rfl ?_
  refine j_bipush X (v := 8) dL_cables_8 (by decide) ?_
  refine j_callVi X (rest := []) (c_X9_count l) m_yX9_count kM_RL_13 xput_0 rfl rfl rfl rfl rfl (Nat.le_of_ble_eq_true rfl) ⟨Nat.le_of_ble_eq_true rfl, Nat.le_of_ble_eq_true rfl, Nat.le_of_ble_eq_true rfl, Nat.le_of_ble_eq_true rfl⟩ dL_cables_10 ?_
  refine j_istore X (L' := [(4, .int (xCount S 8)), (3, .int (nI q)), (0, .ref b), (1, .int (nI k)), (2, .int y)]) dL_cables_13 (by decide) rfl ?_
  refine j_iload_n X 3 dL_cables_15 rfl rfl ?_
  refine j_iload_n X 1 dL_cables_16 rfl rfl ?_
  refine j_icmp_eq X (tgt := 46) dL_cables_17 (by decide) (fun c_17 => ?_) (fun c_17 => ?_)
  · refine j_iconst X (v := 0) dL_cables_46 (by decide) ?_
    refine j_istore X (L' := [(5, .int 0), (4, .int (xCount S 8)), (3, .int (nI q)), (0, .ref b), (1, .int (nI k)), (2, .int y)]) dL_cables_47 (by decide) rfl ?_
    refine j_iload_n X 5 dL_cables_49 rfl rfl ?_
    refine j_sipush X (v := 256) dL_cables_50 (by decide) ?_
    refine j_iand X dL_cables_53 ?_
    refine j_if_ne X (tgt := 111) dL_cables_54 (by decide) (fun c_54 => ?_) (fun c_54 => absurd c_54 hy)
    refine j_aload_n X 3 dL_cables_111 rfl rfl ?_
    refine j_iload_n X 4 dL_cables_112 rfl rfl ?_
    refine j_iconst X (v := 4) dL_cables_113 (by decide) ?_
    refine j_callVi X (rest := []) (c_X9_port l) m_yX9_port kM_RL_19 xput_0 rfl rfl rfl rfl rfl (Nat.le_of_ble_eq_true rfl) ⟨Nat.le_of_ble_eq_true rfl, Nat.le_of_ble_eq_true rfl, Nat.le_of_ble_eq_true rfl, Nat.le_of_ble_eq_true rfl⟩ dL_cables_114 ?_
    refine j_istore X (L' := [(6, .int (xPort S (nI k) 4)), (5, .int 0), (4, .int (xCount S 8)), (3, .int (nI q)), (0, .ref b), (1, .int (nI k)), (2, .int y)]) dL_cables_117 (by decide) rfl ?_
    refine j_aload_n X 4 dL_cables_119 rfl rfl ?_
    refine j_iload_n X 5 dL_cables_120 rfl rfl ?_
    refine j_callVi X (rest := []) (k_part l x e) m_yX9_part kM_RL_86 xput_0 rfl rfl rfl rfl rfl (Nat.le_of_ble_eq_true rfl) ⟨Nat.le_of_ble_eq_true rfl, Nat.le_of_ble_eq_true rfl, Nat.le_of_ble_eq_true rfl, Nat.le_of_ble_eq_true rfl⟩ dL_cables_121 ?_
    refine j_iload X 0 dL_cables_124 rfl ?_
    refine j_icmp_ne X (tgt := 161) dL_cables_126 (by decide) (fun c_126 => absurd p1 c_126) (fun c_126 => ?_)
    refine j_aload_n X 4 dL_cables_129 rfl rfl ?_
    refine j_iload_n X 5 dL_cables_130 rfl rfl ?_
    refine j_iconst X (v := 4) dL_cables_131 (by decide) ?_
    refine j_callVi X (rest := []) (c_X9_port l) m_yX9_port kM_RL_19 xput_0 rfl rfl rfl rfl rfl (Nat.le_of_ble_eq_true rfl) ⟨Nat.le_of_ble_eq_true rfl, Nat.le_of_ble_eq_true rfl, Nat.le_of_ble_eq_true rfl, Nat.le_of_ble_eq_true rfl⟩ dL_cables_132 ?_
    refine j_bipush X (v := (-4)) dL_cables_135 (by decide) ?_
    refine j_icmp_ne X (tgt := 161) dL_cables_137 (by decide) (fun c_137 => absurd p2 c_137) (fun c_137 => ?_)
    refine j_iload X 0 dL_cables_140 rfl ?_
    refine j_if_lt X (tgt := 157) dL_cables_142 (by decide) (fun c_142 => ?_) (fun c_142 => ?_)
    · refine j_iconst X (v := 1) dL_cables_157 (by decide) ?_
      refine j_goto X (tgt := 162) dL_cables_158 (by decide) ?_
      exact j_iret X hr rfl rfl rfl rfl dL_cables_162
    · refine j_aload_n X 4 dL_cables_145 rfl rfl ?_
      refine j_iload X 0 dL_cables_146 rfl ?_
      refine j_iconst X (v := 4) dL_cables_148 (by decide) ?_
      refine j_callVi X (rest := []) (c_X9_port l) m_yX9_port kM_RL_19 xput_0 rfl rfl rfl rfl rfl (Nat.le_of_ble_eq_true rfl) ⟨Nat.le_of_ble_eq_true rfl, Nat.le_of_ble_eq_true rfl, Nat.le_of_ble_eq_true rfl, Nat.le_of_ble_eq_true rfl⟩ dL_cables_149 ?_
      refine j_bipush X (v := (-4)) dL_cables_152 (by decide) ?_
      refine j_icmp_ne X (tgt := 161) dL_cables_154 (by decide) (fun c_154 => absurd (p3 c_142) c_154) (fun c_154 => ?_)
      refine j_iconst X (v := 1) dL_cables_157 (by decide) ?_
      refine j_goto X (tgt := 162) dL_cables_158 (by decide) ?_
      exact j_iret X hr rfl rfl rfl rfl dL_cables_162
  · refine j_aload_n X 2 dL_cables_20 rfl rfl ?_
    refine j_iload_n X 3 dL_cables_21 rfl rfl ?_
    refine j_iconst X (v := 4) dL_cables_22 (by decide) ?_
    refine j_callVi X (rest := []) (c_X9_port l) m_yX9_port kM_RL_19 xput_0 rfl rfl rfl rfl rfl (Nat.le_of_ble_eq_true rfl) ⟨Nat.le_of_ble_eq_true rfl, Nat.le_of_ble_eq_true rfl, Nat.le_of_ble_eq_true rfl, Nat.le_of_ble_eq_true rfl⟩ dL_cables_23 ?_
    refine j_bipush X (v := (-4)) dL_cables_26 (by decide) ?_
    refine j_icmp_ne X (tgt := 46) dL_cables_28 (by decide) (fun c_28 => ?_) (fun c_28 => ?_)
    · refine j_iconst X (v := 0) dL_cables_46 (by decide) ?_
      refine j_istore X (L' := [(5, .int 0), (4, .int (xCount S 8)), (3, .int (nI q)), (0, .ref b), (1, .int (nI k)), (2, .int y)]) dL_cables_47 (by decide) rfl ?_
      refine j_iload_n X 5 dL_cables_49 rfl rfl ?_
      refine j_sipush X (v := 256) dL_cables_50 (by decide) ?_
      refine j_iand X dL_cables_53 ?_
      refine j_if_ne X (tgt := 111) dL_cables_54 (by decide) (fun c_54 => ?_) (fun c_54 => absurd c_54 hy)
      refine j_aload_n X 3 dL_cables_111 rfl rfl ?_
      refine j_iload_n X 4 dL_cables_112 rfl rfl ?_
      refine j_iconst X (v := 4) dL_cables_113 (by decide) ?_
      refine j_callVi X (rest := []) (c_X9_port l) m_yX9_port kM_RL_19 xput_0 rfl rfl rfl rfl rfl (Nat.le_of_ble_eq_true rfl) ⟨Nat.le_of_ble_eq_true rfl, Nat.le_of_ble_eq_true rfl, Nat.le_of_ble_eq_true rfl, Nat.le_of_ble_eq_true rfl⟩ dL_cables_114 ?_
      refine j_istore X (L' := [(6, .int (xPort S (nI k) 4)), (5, .int 0), (4, .int (xCount S 8)), (3, .int (nI q)), (0, .ref b), (1, .int (nI k)), (2, .int y)]) dL_cables_117 (by decide) rfl ?_
      refine j_aload_n X 4 dL_cables_119 rfl rfl ?_
      refine j_iload_n X 5 dL_cables_120 rfl rfl ?_
      refine j_callVi X (rest := []) (k_part l x e) m_yX9_part kM_RL_86 xput_0 rfl rfl rfl rfl rfl (Nat.le_of_ble_eq_true rfl) ⟨Nat.le_of_ble_eq_true rfl, Nat.le_of_ble_eq_true rfl, Nat.le_of_ble_eq_true rfl, Nat.le_of_ble_eq_true rfl⟩ dL_cables_121 ?_
      refine j_iload X 0 dL_cables_124 rfl ?_
      refine j_icmp_ne X (tgt := 161) dL_cables_126 (by decide) (fun c_126 => absurd p1 c_126) (fun c_126 => ?_)
      refine j_aload_n X 4 dL_cables_129 rfl rfl ?_
      refine j_iload_n X 5 dL_cables_130 rfl rfl ?_
      refine j_iconst X (v := 4) dL_cables_131 (by decide) ?_
      refine j_callVi X (rest := []) (c_X9_port l) m_yX9_port kM_RL_19 xput_0 rfl rfl rfl rfl rfl (Nat.le_of_ble_eq_true rfl) ⟨Nat.le_of_ble_eq_true rfl, Nat.le_of_ble_eq_true rfl, Nat.le_of_ble_eq_true rfl, Nat.le_of_ble_eq_true rfl⟩ dL_cables_132 ?_
      refine j_bipush X (v := (-4)) dL_cables_135 (by decide) ?_
      refine j_icmp_ne X (tgt := 161) dL_cables_137 (by decide) (fun c_137 => absurd p2 c_137) (fun c_137 => ?_)
      refine j_iload X 0 dL_cables_140 rfl ?_
      refine j_if_lt X (tgt := 157) dL_cables_142 (by decide) (fun c_142 => ?_) (fun c_142 => ?_)
      · refine j_iconst X (v := 1) dL_cables_157 (by decide) ?_
        refine j_goto X (tgt := 162) dL_cables_158 (by decide) ?_
        exact j_iret X hr rfl rfl rfl rfl dL_cables_162
      · refine j_aload_n X 4 dL_cables_145 rfl rfl ?_
        refine j_iload X 0 dL_cables_146 rfl ?_
        refine j_iconst X (v := 4) dL_cables_148 (by decide) ?_
        refine j_callVi X (rest := []) (c_X9_port l) m_yX9_port kM_RL_19 xput_0 rfl rfl rfl rfl rfl (Nat.le_of_ble_eq_true rfl) ⟨Nat.le_of_ble_eq_true rfl, Nat.le_of_ble_eq_true rfl, Nat.le_of_ble_eq_true rfl, Nat.le_of_ble_eq_true rfl⟩ dL_cables_149 ?_
        refine j_bipush X (v := (-4)) dL_cables_152 (by decide) ?_
        refine j_icmp_ne X (tgt := 161) dL_cables_154 (by decide) (fun c_154 => absurd (p3 c_142) c_154) (fun c_154 => ?_)
        refine j_iconst X (v := 1) dL_cables_157 (by decide) ?_
        refine j_goto X (tgt := 162) dL_cables_158 (by decide) ?_
        exact j_iret X hr rfl rfl rfl rfl dL_cables_162
    · refine j_aload_n X 2 dL_cables_31 rfl rfl ?_
      refine j_iload_n X 1 dL_cables_32 rfl rfl ?_
      refine j_iconst X (v := 4) dL_cables_33 (by decide) ?_
      refine j_callVi X (rest := []) (c_X9_port l) m_yX9_port kM_RL_19 xput_0 rfl rfl rfl rfl rfl (Nat.le_of_ble_eq_true rfl) ⟨Nat.le_of_ble_eq_true rfl, Nat.le_of_ble_eq_true rfl, Nat.le_of_ble_eq_true rfl, Nat.le_of_ble_eq_true rfl⟩ dL_cables_34 ?_
      refine j_bipush X (v := (-4)) dL_cables_37 (by decide) ?_
      refine j_icmp_ne X (tgt := 46) dL_cables_39 (by decide) (fun c_39 => ?_) (fun c_39 => ?_)
      · refine j_iconst X (v := 0) dL_cables_46 (by decide) ?_
        refine j_istore X (L' := [(5, .int 0), (4, .int (xCount S 8)), (3, .int (nI q)), (0, .ref b), (1, .int (nI k)), (2, .int y)]) dL_cables_47 (by decide) rfl ?_
        refine j_iload_n X 5 dL_cables_49 rfl rfl ?_
        refine j_sipush X (v := 256) dL_cables_50 (by decide) ?_
        refine j_iand X dL_cables_53 ?_
        refine j_if_ne X (tgt := 111) dL_cables_54 (by decide) (fun c_54 => ?_) (fun c_54 => absurd c_54 hy)
        refine j_aload_n X 3 dL_cables_111 rfl rfl ?_
        refine j_iload_n X 4 dL_cables_112 rfl rfl ?_
        refine j_iconst X (v := 4) dL_cables_113 (by decide) ?_
        refine j_callVi X (rest := []) (c_X9_port l) m_yX9_port kM_RL_19 xput_0 rfl rfl rfl rfl rfl (Nat.le_of_ble_eq_true rfl) ⟨Nat.le_of_ble_eq_true rfl, Nat.le_of_ble_eq_true rfl, Nat.le_of_ble_eq_true rfl, Nat.le_of_ble_eq_true rfl⟩ dL_cables_114 ?_
        refine j_istore X (L' := [(6, .int (xPort S (nI k) 4)), (5, .int 0), (4, .int (xCount S 8)), (3, .int (nI q)), (0, .ref b), (1, .int (nI k)), (2, .int y)]) dL_cables_117 (by decide) rfl ?_
        refine j_aload_n X 4 dL_cables_119 rfl rfl ?_
        refine j_iload_n X 5 dL_cables_120 rfl rfl ?_
        refine j_callVi X (rest := []) (k_part l x e) m_yX9_part kM_RL_86 xput_0 rfl rfl rfl rfl rfl (Nat.le_of_ble_eq_true rfl) ⟨Nat.le_of_ble_eq_true rfl, Nat.le_of_ble_eq_true rfl, Nat.le_of_ble_eq_true rfl, Nat.le_of_ble_eq_true rfl⟩ dL_cables_121 ?_
        refine j_iload X 0 dL_cables_124 rfl ?_
        refine j_icmp_ne X (tgt := 161) dL_cables_126 (by decide) (fun c_126 => absurd p1 c_126) (fun c_126 => ?_)
        refine j_aload_n X 4 dL_cables_129 rfl rfl ?_
        refine j_iload_n X 5 dL_cables_130 rfl rfl ?_
        refine j_iconst X (v := 4) dL_cables_131 (by decide) ?_
        refine j_callVi X (rest := []) (c_X9_port l) m_yX9_port kM_RL_19 xput_0 rfl rfl rfl rfl rfl (Nat.le_of_ble_eq_true rfl) ⟨Nat.le_of_ble_eq_true rfl, Nat.le_of_ble_eq_true rfl, Nat.le_of_ble_eq_true rfl, Nat.le_of_ble_eq_true rfl⟩ dL_cables_132 ?_
        refine j_bipush X (v := (-4)) dL_cables_135 (by decide) ?_
        refine j_icmp_ne X (tgt := 161) dL_cables_137 (by decide) (fun c_137 => absurd p2 c_137) (fun c_137 => ?_)
        refine j_iload X 0 dL_cables_140 rfl ?_
        refine j_if_lt X (tgt := 157) dL_cables_142 (by decide) (fun c_142 => ?_) (fun c_142 => ?_)
        · refine j_iconst X (v := 1) dL_cables_157 (by decide) ?_
          refine j_goto X (tgt := 162) dL_cables_158 (by decide) ?_
          exact j_iret X hr rfl rfl rfl rfl dL_cables_162
        · refine j_aload_n X 4 dL_cables_145 rfl rfl ?_
          refine j_iload X 0 dL_cables_146 rfl ?_
          refine j_iconst X (v := 4) dL_cables_148 (by decide) ?_
          refine j_callVi X (rest := []) (c_X9_port l) m_yX9_port kM_RL_19 xput_0 rfl rfl rfl rfl rfl (Nat.le_of_ble_eq_true rfl) ⟨Nat.le_of_ble_eq_true rfl, Nat.le_of_ble_eq_true rfl, Nat.le_of_ble_eq_true rfl, Nat.le_of_ble_eq_true rfl⟩ dL_cables_149 ?_
          refine j_bipush X (v := (-4)) dL_cables_152 (by decide) ?_
          refine j_icmp_ne X (tgt := 161) dL_cables_154 (by decide) (fun c_154 => absurd (p3 c_142) c_154) (fun c_154 => ?_)
          refine j_iconst X (v := 1) dL_cables_157 (by decide) ?_
          refine j_goto X (tgt := 162) dL_cables_158 (by decide) ?_
          exact j_iret X hr rfl rfl rfl rfl dL_cables_162
      · refine j_iconst X (v := 1) dL_cables_42 (by decide) ?_
        refine j_goto X (tgt := 47) dL_cables_43 (by decide) ?_
        refine j_istore X (L' := [(5, .int 1), (4, .int (xCount S 8)), (3, .int (nI q)), (0, .ref b), (1, .int (nI k)), (2, .int y)]) dL_cables_47 (by decide) rfl ?_
        refine j_iload_n X 5 dL_cables_49 rfl rfl ?_
        refine j_sipush X (v := 256) dL_cables_50 (by decide) ?_
        refine j_iand X dL_cables_53 ?_
        refine j_if_ne X (tgt := 111) dL_cables_54 (by decide) (fun c_54 => ?_) (fun c_54 => absurd c_54 hy)
        refine j_aload_n X 3 dL_cables_111 rfl rfl ?_
        refine j_iload_n X 4 dL_cables_112 rfl rfl ?_
        refine j_iconst X (v := 4) dL_cables_113 (by decide) ?_
        refine j_callVi X (rest := []) (c_X9_port l) m_yX9_port kM_RL_19 xput_0 rfl rfl rfl rfl rfl (Nat.le_of_ble_eq_true rfl) ⟨Nat.le_of_ble_eq_true rfl, Nat.le_of_ble_eq_true rfl, Nat.le_of_ble_eq_true rfl, Nat.le_of_ble_eq_true rfl⟩ dL_cables_114 ?_
        refine j_istore X (L' := [(6, .int (xPort S (nI k) 4)), (5, .int 1), (4, .int (xCount S 8)), (3, .int (nI q)), (0, .ref b), (1, .int (nI k)), (2, .int y)]) dL_cables_117 (by decide) rfl ?_
        refine j_aload_n X 4 dL_cables_119 rfl rfl ?_
        refine j_iload_n X 5 dL_cables_120 rfl rfl ?_
        refine j_callVi X (rest := []) (k_part l x e) m_yX9_part kM_RL_86 xput_0 rfl rfl rfl rfl rfl (Nat.le_of_ble_eq_true rfl) ⟨Nat.le_of_ble_eq_true rfl, Nat.le_of_ble_eq_true rfl, Nat.le_of_ble_eq_true rfl, Nat.le_of_ble_eq_true rfl⟩ dL_cables_121 ?_
        refine j_iload X 0 dL_cables_124 rfl ?_
        refine j_icmp_ne X (tgt := 161) dL_cables_126 (by decide) (fun c_126 => absurd p1 c_126) (fun c_126 => ?_)
        refine j_aload_n X 4 dL_cables_129 rfl rfl ?_
        refine j_iload_n X 5 dL_cables_130 rfl rfl ?_
        refine j_iconst X (v := 4) dL_cables_131 (by decide) ?_
        refine j_callVi X (rest := []) (c_X9_port l) m_yX9_port kM_RL_19 xput_0 rfl rfl rfl rfl rfl (Nat.le_of_ble_eq_true rfl) ⟨Nat.le_of_ble_eq_true rfl, Nat.le_of_ble_eq_true rfl, Nat.le_of_ble_eq_true rfl, Nat.le_of_ble_eq_true rfl⟩ dL_cables_132 ?_
        refine j_bipush X (v := (-4)) dL_cables_135 (by decide) ?_
        refine j_icmp_ne X (tgt := 161) dL_cables_137 (by decide) (fun c_137 => absurd p2 c_137) (fun c_137 => ?_)
        refine j_iload X 0 dL_cables_140 rfl ?_
        refine j_if_lt X (tgt := 157) dL_cables_142 (by decide) (fun c_142 => ?_) (fun c_142 => ?_)
        · refine j_iconst X (v := 1) dL_cables_157 (by decide) ?_
          refine j_goto X (tgt := 162) dL_cables_158 (by decide) ?_
          exact j_iret X hr rfl rfl rfl rfl dL_cables_162
        · refine j_aload_n X 4 dL_cables_145 rfl rfl ?_
          refine j_iload X 0 dL_cables_146 rfl ?_
          refine j_iconst X (v := 4) dL_cables_148 (by decide) ?_
          refine j_callVi X (rest := []) (c_X9_port l) m_yX9_port kM_RL_19 xput_0 rfl rfl rfl rfl rfl (Nat.le_of_ble_eq_true rfl) ⟨Nat.le_of_ble_eq_true rfl, Nat.le_of_ble_eq_true rfl, Nat.le_of_ble_eq_true rfl, Nat.le_of_ble_eq_true rfl⟩ dL_cables_149 ?_
          refine j_bipush X (v := (-4)) dL_cables_152 (by decide) ?_
          refine j_icmp_ne X (tgt := 161) dL_cables_154 (by decide) (fun c_154 => absurd (p3 c_142) c_154) (fun c_154 => ?_)
          refine j_iconst X (v := 1) dL_cables_157 (by decide) ?_
          refine j_goto X (tgt := 162) dL_cables_158 (by decide) ?_
          exact j_iret X hr rfl rfl rfl rfl dL_cables_162
