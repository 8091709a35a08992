set_option maxRecDepth 100000 in
set_option maxHeartbeats 8000000 in
theorem c_L_sets0a (l : Launch) {D : DD} {B z : Nat} {h : HF} {b k : Nat} {y : Int32} {nx : Nat} {S S2 : Sy} {t : Int32} (x : nx < 4 ∧ S.2.1 1 = nI nx) (hy : y &&& 3 = 0) (e : xSetPort nx S (nI k) 0 = (t, S2)) (s1 : xPort S (nI k) 0 = 0 → t = -4) (s2 : ¬ xPort S (nI k) 0 = 0 → t = xCount S2 6) (s3 : xPort S2 (nI k) 0 = 0) (s4 : ¬ (0 : Int32) = 1 → xPort S2 (nI k) 5 = 0) : CT l yL_sets cL_sets 7 (some .boolean) 6 129 [.ref b, .int 0, .int (nI k), .int y] D B z (xput D h b S) (some (.int 1)) 0 0 (xput D h b S2) := by
  refine CT.of (L := [(0, .ref b), (1, .int 0), (2, .int (nI k)), (3, .int y)]) (by decide +kernel) (Nat.le_of_ble_eq_true rfl) rfl ?_
  intro P E S0 M0 AR BL ME CO X hr hnm
  refine j_iload_n X 1 dL_sets_0 rfl rfl ?_
  refine j_if_ne X (tgt := 98) dL_sets_1 (by decide) (fun c_ => absurd (by decide) c_) (fun _ => ?_)
  refine j_aload_n X 0 dL_sets_4 rfl rfl ?_
  refine j_iload_n X 2 dL_sets_5 rfl rfl ?_
  refine j_iconst X (v := 0) dL_sets_6 (by decide) ?_
  refine j_callVi X (rest := []) (c_X9_port l) m_yX9_port kM_RL_19 xput_0 rfl rfl rfl rfl rfl (Nat.le_of_ble_eq_true rfl) ⟨Nat.le_of_ble_eq_true rfl, Nat.le_of_ble_eq_true rfl, Nat.le_of_ble_eq_true rfl, Nat.le_of_ble_eq_true rfl⟩ dL_sets_7 ?_
  refine j_istore X (L' := [(4, .int (xPort S (nI k) 0)), (0, .ref b), (1, .int 0), (2, .int (nI k)), (3, .int y)]) dL_sets_10 (by decide) rfl ?_
  refine j_iload_n X 4 dL_sets_12 rfl rfl ?_
  refine j_iconst X (v := 3) dL_sets_13 (by decide) ?_
  refine j_iand X dL_sets_14 ?_
  refine j_if_ne X (tgt := 22) dL_sets_15 (by decide) (fun c_15 => absurd hy c_15) (fun c_15 => ?_)
  refine j_iconst X (v := 0) dL_sets_18 (by decide) ?_
  refine j_goto X (tgt := 23) dL_sets_19 (by decide) ?_
  refine j_istore X (L' := [(5, .int 0), (4, .int (xPort S (nI k) 0)), (0, .ref b), (1, .int 0), (2, .int (nI k)), (3, .int y)]) dL_sets_23 (by decide) rfl ?_
  refine j_aload_n X 2 dL_sets_25 rfl rfl ?_
  refine j_iload_n X 4 dL_sets_26 rfl rfl ?_
  refine j_iload X 0 dL_sets_27 rfl ?_
  refine j_iconst X (v := 1) dL_sets_29 (by decide) ?_
  refine j_icmp_ne X (tgt := 37) dL_sets_30 (by decide) (fun _ => ?_) (fun c_ => absurd c_ (by decide))
  refine j_iconst X (v := 0) dL_sets_37 (by decide) ?_
  refine j_callVi X (rest := []) (k_setPort l x e) m_yX9_setPort kM_RL_89 xput_0 rfl rfl rfl rfl rfl (Nat.le_of_ble_eq_true rfl) ⟨Nat.le_of_ble_eq_true rfl, Nat.le_of_ble_eq_true rfl, Nat.le_of_ble_eq_true rfl, Nat.le_of_ble_eq_true rfl⟩ dL_sets_38 ?_
  refine j_istore X (L' := [(6, .int t), (5, .int 0), (4, .int (xPort S (nI k) 0)), (0, .ref b), (1, .int 0), (2, .int (nI k)), (3, .int y)]) dL_sets_41 (by decide) rfl ?_
  refine j_iload X 0 dL_sets_43 rfl ?_
  refine j_iload X 2 dL_sets_45 rfl ?_
  refine j_iload X 1 dL_sets_47 rfl ?_
  refine j_icmp_ne X (tgt := 57) dL_sets_49 (by decide) (fun c_49 => ?_) (fun c_49 => ?_)
  · refine j_aload_n X 3 dL_sets_57 rfl rfl ?_
    refine j_bipush X (v := 6) dL_sets_58 (by decide) ?_
    refine j_callVi X (rest := [.int t]) (c_X9_count l) m_yX9_count kM_RL_13 xput_0 rfl rfl rfl rfl rfl (Nat.le_of_ble_eq_true rfl) ⟨Nat.le_of_ble_eq_true rfl, Nat.le_of_ble_eq_true rfl, Nat.le_of_ble_eq_true rfl, Nat.le_of_ble_eq_true rfl⟩ dL_sets_60 ?_
    refine j_icmp_ne X (tgt := 96) dL_sets_63 (by decide) (fun c_63 => absurd (s2 c_49) c_63) (fun c_63 => ?_)
    refine j_aload_n X 3 dL_sets_66 rfl rfl ?_
    refine j_iload_n X 5 dL_sets_67 rfl rfl ?_
    refine j_iconst X (v := 0) dL_sets_68 (by decide) ?_
    refine j_callVi X (rest := []) (c_X9_port l) m_yX9_port kM_RL_19 xput_0 rfl rfl rfl rfl rfl (Nat.le_of_ble_eq_true rfl) ⟨Nat.le_of_ble_eq_true rfl, Nat.le_of_ble_eq_true rfl, Nat.le_of_ble_eq_true rfl, Nat.le_of_ble_eq_true rfl⟩ dL_sets_69 ?_
    refine j_iload X 1 dL_sets_72 rfl ?_
    refine j_icmp_ne X (tgt := 96) dL_sets_74 (by decide) (fun c_74 => absurd s3 c_74) (fun c_74 => ?_)
    refine j_iload X 1 dL_sets_77 rfl ?_
    refine j_iconst X (v := 1) dL_sets_79 (by decide) ?_
    refine j_icmp_eq X (tgt := 92) dL_sets_80 (by decide) (fun c_ => absurd c_ (by decide)) (fun _ => ?_)
    refine j_aload_n X 3 dL_sets_83 rfl rfl ?_
    refine j_iload_n X 5 dL_sets_84 rfl rfl ?_
    refine j_iconst X (v := 5) dL_sets_85 (by decide) ?_
    refine j_callVi X (rest := []) (c_X9_port l) m_yX9_port kM_RL_19 xput_0 rfl rfl rfl rfl rfl (Nat.le_of_ble_eq_true rfl) ⟨Nat.le_of_ble_eq_true rfl, Nat.le_of_ble_eq_true rfl, Nat.le_of_ble_eq_true rfl, Nat.le_of_ble_eq_true rfl⟩ dL_sets_86 ?_
    refine j_if_ne X (tgt := 96) dL_sets_89 (by decide) (fun c_89 => absurd (s4 (by decide)) c_89) (fun c_89 => ?_)
    refine j_iconst X (v := 1) dL_sets_92 (by decide) ?_
    refine j_goto X (tgt := 97) dL_sets_93 (by decide) ?_
    exact j_iret X hr rfl rfl rfl rfl dL_sets_97
  · refine j_bipush X (v := (-4)) dL_sets_52 (by decide) ?_
    refine j_goto X (tgt := 63) dL_sets_54 (by decide) ?_
    refine j_icmp_ne X (tgt := 96) dL_sets_63 (by decide) (fun c_63 => absurd (s1 c_49) c_63) (fun c_63 => ?_)
    refine j_aload_n X 3 dL_sets_66 rfl rfl ?_
    refine j_iload_n X 5 dL_sets_67 rfl rfl ?_
    refine j_iconst X (v := 0) dL_sets_68 (by decide) ?_
    refine j_callVi X (rest := []) (c_X9_port l) m_yX9_port kM_RL_19 xput_0 rfl rfl rfl rfl rfl (Nat.le_of_ble_eq_true rfl) ⟨Nat.le_of_ble_eq_true rfl, Nat.le_of_ble_eq_true rfl, Nat.le_of_ble_eq_true rfl, Nat.le_of_ble_eq_true rfl⟩ dL_sets_69 ?_
    refine j_iload X 1 dL_sets_72 rfl ?_
    refine j_icmp_ne X (tgt := 96) dL_sets_74 (by decide) (fun c_74 => absurd s3 c_74) (fun c_74 => ?_)
    refine j_iload X 1 dL_sets_77 rfl ?_
    refine j_iconst X (v := 1) dL_sets_79 (by decide) ?_
    refine j_icmp_eq X (tgt := 92) dL_sets_80 (by decide) (fun c_ => absurd c_ (by decide)) (fun _ => ?_)
    refine j_aload_n X 3 dL_sets_83 rfl rfl ?_
    refine j_iload_n X 5 dL_sets_84 rfl rfl ?_
    refine j_iconst X (v := 5) dL_sets_85 (by decide) ?_
    refine j_callVi X (rest := []) (c_X9_port l) m_yX9_port kM_RL_19 xput_0 rfl rfl rfl rfl rfl (Nat.le_of_ble_eq_true rfl) ⟨Nat.le_of_ble_eq_true rfl, Nat.le_of_ble_eq_true rfl, Nat.le_of_ble_eq_true rfl, Nat.le_of_ble_eq_true rfl⟩ dL_sets_86 ?_
    refine j_if_ne X (tgt := 96) dL_sets_89 (by decide) (fun c_89 => absurd (s4 (by decide)) c_89) (fun c_89 => ?_)
    refine j_iconst X (v := 1) dL_sets_92 (by decide) ?_
    refine j_goto X (tgt := 97) dL_sets_93 (by decide) ?_
    exact j_iret X hr rfl rfl rfl rfl dL_sets_97
set_option maxRecDepth 100000 in
set_option maxHeartbeats 8000000 in
theorem c_L_sets0b (l : Launch) {D : DD} {B z : Nat} {h : HF} {b k : Nat} {y : Int32} {nx : Nat} {S S2 : Sy} {t : Int32} (x : nx < 4 ∧ S.2.1 1 = nI nx) (hy : ¬ y &&& 3 = 0) (e : xSetPort nx S (nI k) 1 = (t, S2)) (s1 : xPort S (nI k) 0 = 1 → t = -4) (s2 : ¬ xPort S (nI k) 0 = 1 → t = xCount S2 6) (s3 : xPort S2 (nI k) 0 = 1) (s4 : ¬ (1 : Int32) = 1 → xPort S2 (nI k) 5 = 0) : CT l yL_sets cL_sets 7 (some .boolean) 6 129 [.ref b, .int 0, .int (nI k), .int y] D B z (xput D h b S) (some (.int 1)) 0 0 (xput D h b S2) := by
  refine CT.of (L := [(0, .ref b), (1, .int 0), (2, .int (nI k)), (3, .int y)]) (by decide +kernel) (Nat.le_of_ble_eq_true rfl) rfl ?_
  intro P E S0 M0 AR BL ME CO X hr hnm
  refine j_iload_n X 1 dL_sets_0 rfl rfl ?_
  refine j_if_ne X (tgt := 98) dL_sets_1 (by decide) (fun c_ => absurd (by decide) c_) (fun _ => ?_)
  refine j_aload_n X 0 dL_sets_4 rfl rfl ?_
  refine j_iload_n X 2 dL_sets_5 rfl rfl ?_
  refine j_iconst X (v := 0) dL_sets_6 (by decide) ?_
  refine j_callVi X (rest := []) (c_X9_port l) m_yX9_port kM_RL_19 xput_0 rfl rfl rfl rfl rfl (Nat.le_of_ble_eq_true rfl) ⟨Nat.le_of_ble_eq_true rfl, Nat.le_of_ble_eq_true rfl, Nat.le_of_ble_eq_true rfl, Nat.le_of_ble_eq_true rfl⟩ dL_sets_7 ?_
  refine j_istore X (L' := [(4, .int (xPort S (nI k) 0)), (0, .ref b), (1, .int 0), (2, .int (nI k)), (3, .int y)]) dL_sets_10 (by decide) rfl ?_
  refine j_iload_n X 4 dL_sets_12 rfl rfl ?_
  refine j_iconst X (v := 3) dL_sets_13 (by decide) ?_
  refine j_iand X dL_sets_14 ?_
  refine j_if_ne X (tgt := 22) dL_sets_15 (by decide) (fun c_15 => ?_) (fun c_15 => absurd c_15 hy)
  refine j_iconst X (v := 1) dL_sets_22 (by decide) ?_
  refine j_istore X (L' := [(5, .int 1), (4, .int (xPort S (nI k) 0)), (0, .ref b), (1, .int 0), (2, .int (nI k)), (3, .int y)]) dL_sets_23 (by decide) rfl ?_
  refine j_aload_n X 2 dL_sets_25 rfl rfl ?_
  refine j_iload_n X 4 dL_sets_26 rfl rfl ?_
  refine j_iload X 0 dL_sets_27 rfl ?_
  refine j_iconst X (v := 1) dL_sets_29 (by decide) ?_
  refine j_icmp_ne X (tgt := 37) dL_sets_30 (by decide) (fun c_ => absurd (by decide) c_) (fun _ => ?_)
  refine j_iconst X (v := 1) dL_sets_33 (by decide) ?_
  refine j_goto X (tgt := 38) dL_sets_34 (by decide) ?_
  refine j_callVi X (rest := []) (k_setPort l x e) m_yX9_setPort kM_RL_89 xput_0 rfl rfl rfl rfl rfl (Nat.le_of_ble_eq_true rfl) ⟨Nat.le_of_ble_eq_true rfl, Nat.le_of_ble_eq_true rfl, Nat.le_of_ble_eq_true rfl, Nat.le_of_ble_eq_true rfl⟩ dL_sets_38 ?_
  refine j_istore X (L' := [(6, .int t), (5, .int 1), (4, .int (xPort S (nI k) 0)), (0, .ref b), (1, .int 0), (2, .int (nI k)), (3, .int y)]) dL_sets_41 (by decide) rfl ?_
  refine j_iload X 0 dL_sets_43 rfl ?_
  refine j_iload X 2 dL_sets_45 rfl ?_
  refine j_iload X 1 dL_sets_47 rfl ?_
  refine j_icmp_ne X (tgt := 57) dL_sets_49 (by decide) (fun c_49 => ?_) (fun c_49 => ?_)
  · refine j_aload_n X 3 dL_sets_57 rfl rfl ?_
    refine j_bipush X (v := 6) dL_sets_58 (by decide) ?_
    refine j_callVi X (rest := [.int t]) (c_X9_count l) m_yX9_count kM_RL_13 xput_0 rfl rfl rfl rfl rfl (Nat.le_of_ble_eq_true rfl) ⟨Nat.le_of_ble_eq_true rfl, Nat.le_of_ble_eq_true rfl, Nat.le_of_ble_eq_true rfl, Nat.le_of_ble_eq_true rfl⟩ dL_sets_60 ?_
    refine j_icmp_ne X (tgt := 96) dL_sets_63 (by decide) (fun c_63 => absurd (s2 c_49) c_63) (fun c_63 => ?_)
    refine j_aload_n X 3 dL_sets_66 rfl rfl ?_
    refine j_iload_n X 5 dL_sets_67 rfl rfl ?_
    refine j_iconst X (v := 0) dL_sets_68 (by decide) ?_
    refine j_callVi X (rest := []) (c_X9_port l) m_yX9_port kM_RL_19 xput_0 rfl rfl rfl rfl rfl (Nat.le_of_ble_eq_true rfl) ⟨Nat.le_of_ble_eq_true rfl, Nat.le_of_ble_eq_true rfl, Nat.le_of_ble_eq_true rfl, Nat.le_of_ble_eq_true rfl⟩ dL_sets_69 ?_
    refine j_iload X 1 dL_sets_72 rfl ?_
    refine j_icmp_ne X (tgt := 96) dL_sets_74 (by decide) (fun c_74 => absurd s3 c_74) (fun c_74 => ?_)
    refine j_iload X 1 dL_sets_77 rfl ?_
    refine j_iconst X (v := 1) dL_sets_79 (by decide) ?_
    refine j_icmp_eq X (tgt := 92) dL_sets_80 (by decide) (fun _ => ?_) (fun c_ => absurd (by decide) c_)
    refine j_iconst X (v := 1) dL_sets_92 (by decide) ?_
    refine j_goto X (tgt := 97) dL_sets_93 (by decide) ?_
    exact j_iret X hr rfl rfl rfl rfl dL_sets_97
  · refine j_bipush X (v := (-4)) dL_sets_52 (by decide) ?_
    refine j_goto X (tgt := 63) dL_sets_54 (by decide) ?_
    refine j_icmp_ne X (tgt := 96) dL_sets_63 (by decide) (fun c_63 => absurd (s1 c_49) c_63) (fun c_63 => ?_)
    refine j_aload_n X 3 dL_sets_66 rfl rfl ?_
    refine j_iload_n X 5 dL_sets_67 rfl rfl ?_
    refine j_iconst X (v := 0) dL_sets_68 (by decide) ?_
    refine j_callVi X (rest := []) (c_X9_port l) m_yX9_port kM_RL_19 xput_0 rfl rfl rfl rfl rfl (Nat.le_of_ble_eq_true rfl) ⟨Nat.le_of_ble_eq_true rfl, Nat.le_of_ble_eq_true rfl, Nat.le_of_ble_eq_true rfl, Nat.le_of_ble_eq_true rfl⟩ dL_sets_69 ?_
    refine j_iload X 1 dL_sets_72 rfl ?_
    refine j_icmp_ne X (tgt := 96) dL_sets_74 (by decide) (fun c_74 => absurd s3 c_74) (fun c_74 => ?_)
    refine j_iload X 1 dL_sets_77 rfl ?_
    refine j_iconst X (v := 1) dL_sets_79 (by decide) ?_
    refine j_icmp_eq X (tgt := 92) dL_sets_80 (by decide) (fun _ => ?_) (fun c_ => absurd (by decide) c_)
    refine j_iconst X (v := 1) dL_sets_92 (by decide) ?_
    refine j_goto X (tgt := 97) dL_sets_93 (by decide) ?_
    exact j_iret X hr rfl rfl rfl rfl dL_sets_97
set_option maxRecDepth 100000 in
set_option maxHeartbeats 8000000 in
theorem c_L_sets1 (l : Launch) {D : DD} {B z : Nat} {h : HF} {b k : Nat} {y : Int32} {nx : Nat} {S S2 : Sy} {t : Int32} (x : nx < 4 ∧ S.2.1 1 = nI nx) (e : xRelease nx S (nI k) = (t, S2)) (s1 : xPort S (nI k) 2 = 0 → t = -4) (s2 : ¬ xPort S (nI k) 2 = 0 → t = xPort S (nI k) 2) (s3 : xPort S2 (nI k) 2 = 0) : CT l yL_sets cL_sets 7 (some .boolean) 6 129 [.ref b, .int 1, .int (nI k), .int y] D B z (xput D h b S) (some (.int 1)) 0 0 (xput D h b S2) := by
  refine CT.of (L := [(0, .ref b), (1, .int 1), (2, .int (nI k)), (3, .int y)]) (by decide +kernel) (Nat.le_of_ble_eq_true rfl) rfl ?_
  intro P E S0 M0 AR BL ME CO X hr hnm
  refine j_iload_n X 1 dL_sets_0 rfl rfl ?_
  refine j_if_ne X (tgt := 98) dL_sets_1 (by decide) (fun _ => ?_) (fun c_ => absurd c_ (by decide))
  refine j_iload_n X 1 dL_sets_98 rfl rfl ?_
  refine j_iconst X (v := 1) dL_sets_99 (by decide) ?_
  refine j_icmp_ne X (tgt := 146) dL_sets_100 (by decide) (fun c_ => absurd (by decide) c_) (fun _ => ?_)
  refine j_aload_n X 0 dL_sets_103 rfl rfl ?_
  refine j_iload_n X 2 dL_sets_104 rfl rfl ?_
  refine j_iconst X (v := 2) dL_sets_105 (by decide) ?_
  refine j_callVi X (rest := []) (c_X9_port l) m_yX9_port kM_RL_19 xput_0 rfl rfl rfl rfl rfl (Nat.le_of_ble_eq_true rfl) ⟨Nat.le_of_ble_eq_true rfl, Nat.le_of_ble_eq_true rfl, Nat.le_of_ble_eq_true rfl, Nat.le_of_ble_eq_true rfl⟩ dL_sets_106 ?_
  refine j_istore X (L' := [(4, .int (xPort S (nI k) 2)), (0, .ref b), (1, .int 1), (2, .int (nI k)), (3, .int y)]) dL_sets_109 (by decide) rfl ?_
  refine j_aload_n X 1 dL_sets_111 rfl rfl ?_
  refine j_iload_n X 3 dL_sets_112 rfl rfl ?_
  refine j_callVi X (rest := []) (k_release l x e) m_yX9_release kM_RL_93 xput_0 rfl rfl rfl rfl rfl (Nat.le_of_ble_eq_true rfl) ⟨Nat.le_of_ble_eq_true rfl, Nat.le_of_ble_eq_true rfl, Nat.le_of_ble_eq_true rfl, Nat.le_of_ble_eq_true rfl⟩ dL_sets_113 ?_
  refine j_iload X 0 dL_sets_116 rfl ?_
  refine j_if_ne X (tgt := 126) dL_sets_118 (by decide) (fun c_118 => ?_) (fun c_118 => ?_)
  · refine j_iload X 0 dL_sets_126 rfl ?_
    refine j_icmp_ne X (tgt := 144) dL_sets_128 (by decide) (fun c_128 => absurd (s2 c_118) c_128) (fun c_128 => ?_)
    refine j_aload_n X 1 dL_sets_131 rfl rfl ?_
    refine j_iload_n X 3 dL_sets_132 rfl rfl ?_
    refine j_iconst X (v := 2) dL_sets_133 (by decide) ?_
    refine j_callVi X (rest := []) (c_X9_port l) m_yX9_port kM_RL_19 xput_0 rfl rfl rfl rfl rfl (Nat.le_of_ble_eq_true rfl) ⟨Nat.le_of_ble_eq_true rfl, Nat.le_of_ble_eq_true rfl, Nat.le_of_ble_eq_true rfl, Nat.le_of_ble_eq_true rfl⟩ dL_sets_134 ?_
    refine j_if_ne X (tgt := 144) dL_sets_137 (by decide) (fun c_137 => absurd s3 c_137) (fun c_137 => ?_)
    refine j_iconst X (v := 1) dL_sets_140 (by decide) ?_
    refine j_goto X (tgt := 145) dL_sets_141 (by decide) ?_
    exact j_iret X hr rfl rfl rfl rfl dL_sets_145
  · refine j_bipush X (v := (-4)) dL_sets_121 (by decide) ?_
    refine j_goto X (tgt := 128) dL_sets_123 (by decide) ?_
    refine j_icmp_ne X (tgt := 144) dL_sets_128 (by decide) (fun c_128 => absurd (s1 c_118) c_128) (fun c_128 => ?_)
    refine j_aload_n X 1 dL_sets_131 rfl rfl ?_
    refine j_iload_n X 3 dL_sets_132 rfl rfl ?_
    refine j_iconst X (v := 2) dL_sets_133 (by decide) ?_
    refine j_callVi X (rest := []) (c_X9_port l) m_yX9_port kM_RL_19 xput_0 rfl rfl rfl rfl rfl (Nat.le_of_ble_eq_true rfl) ⟨Nat.le_of_ble_eq_true rfl, Nat.le_of_ble_eq_true rfl, Nat.le_of_ble_eq_true rfl, Nat.le_of_ble_eq_true rfl⟩ dL_sets_134 ?_
    refine j_if_ne X (tgt := 144) dL_sets_137 (by decide) (fun c_137 => absurd s3 c_137) (fun c_137 => ?_)
    refine j_iconst X (v := 1) dL_sets_140 (by decide) ?_
    refine j_goto X (tgt := 145) dL_sets_141 (by decide) ?_
    exact j_iret X hr rfl rfl rfl rfl dL_sets_145
set_option maxRecDepth 100000 in
set_option maxHeartbeats 8000000 in
theorem c_L_sets2 (l : Launch) {D : DD} {B z : Nat} {h : HF} {b k w n2 : Nat} {y v : Int32} {nx : Nat} {S S2 : Sy} {t : Int32} (x : nx < 4 ∧ S.2.1 1 = nI nx) (x2 : n2 < 4 ∧ S2.2.1 1 = nI n2) (hl : lowF y 4 = nI w) (hv0 : nI w = 0 → (1 : Int32) + lowF (y >>> (2 &&& 31)) 30 = v) (hv1 : nI w = 1 → (1 : Int32) + lowF (y >>> (2 &&& 31)) 40 = v) (hv2 : nI w = 2 → (1 : Int32) + lowF (y >>> (2 &&& 31)) 6 = v) (hv3 : ¬ nI w = 0 → ¬ nI w = 1 → ¬ nI w = 2 → (1 : Int32) + lowF (y >>> (2 &&& 31)) 10 = v) (e : xSet nx S (nI w) v = (t, S2)) (s1 : xCount S (nI w) = v → t = -4) (s2 : ¬ xCount S (nI w) = v → t = xCount S (nI w)) (s3 : xCount S2 (nI w) = v) (s4 : xSet n2 S2 3 11 = (-2, S2)) (s5 : xSet n2 S2 4 1 = (-2, S2)) : CT l yL_sets cL_sets 7 (some .boolean) 6 130 [.ref b, .int 2, .int (nI k), .int y] D B z (xput D h b S) (some (.int 1)) 0 0 (xput D h b S2) := by
  refine CT.of (L := [(0, .ref b), (1, .int 2), (2, .int (nI k)), (3, .int y)]) (by decide +kernel) (Nat.le_of_ble_eq_true rfl) rfl ?_
  intro P E S0 M0 AR BL ME CO X hr hnm
  refine j_iload_n X 1 dL_sets_0 rfl rfl ?_
  refine j_if_ne X (tgt := 98) dL_sets_1 (by decide) (fun _ => ?_) (fun c_ => absurd c_ (by decide))
  refine j_iload_n X 1 dL_sets_98 rfl rfl ?_
  refine j_iconst X (v := 1) dL_sets_99 (by decide) ?_
  refine j_icmp_ne X (tgt := 146) dL_sets_100 (by decide) (fun _ => ?_) (fun c_ => absurd c_ (by decide))
  refine j_iload_n X 1 dL_sets_146 rfl rfl ?_
  refine j_iconst X (v := 2) dL_sets_147 (by decide) ?_
  refine j_icmp_ne X (tgt := 275) dL_sets_148 (by decide) (fun c_ => absurd (by decide) c_) (fun _ => ?_)
  refine j_iload_n X 3 dL_sets_151 rfl rfl ?_
  refine j_iconst X (v := 4) dL_sets_152 (by decide) ?_
  refine j_callSi X (rest := []) (k_low l (by decide) hl) m_yL_low kM_RL_80 rfl rfl (Nat.le_of_ble_eq_true rfl) ⟨Nat.le_of_ble_eq_true rfl, Nat.le_of_ble_eq_true rfl, Nat.le_of_ble_eq_true rfl, Nat.le_of_ble_eq_true rfl⟩ dL_sets_153 ?_
  refine j_istore X (L' := [(4, .int (nI w)), (0, .ref b), (1, .int 2), (2, .int (nI k)), (3, .int y)]) dL_sets_156 (by decide) rfl ?_
  refine j_aload_n X 1 dL_sets_158 rfl rfl ?_
  refine j_iload X 0 dL_sets_159 rfl ?_
  refine j_callVi X (rest := []) (c_X9_count l) m_yX9_count kM_RL_13 xput_0 rfl rfl rfl rfl rfl (Nat.le_of_ble_eq_true rfl) ⟨Nat.le_of_ble_eq_true rfl, Nat.le_of_ble_eq_true rfl, Nat.le_of_ble_eq_true rfl, Nat.le_of_ble_eq_true rfl⟩ dL_sets_161 ?_
  refine j_istore X (L' := [(5, .int (xCount S (nI w))), (4, .int (nI w)), (0, .ref b), (1, .int 2), (2, .int (nI k)), (3, .int y)]) dL_sets_164 (by decide) rfl ?_
  have k210 : J P l E { frames := 6, cells := 0, slots := 0, locals := 130 } S0 M0 AR BL ME CO D B 7 (MQ BL (QC (some (.int 1)) D B (z + 0) (xput D h b S2)) AR S0 0 0 (aB B)) 0 0 z (xput D h b S) [(6, .int v), (5, .int (xCount S (nI w))), (4, .int (nI w)), (0, .ref b), (1, .int 2), (2, .int (nI k)), (3, .int y)] [] 210 := by
    refine j_aload_n X 3 dL_sets_210 rfl rfl ?_
    refine j_iload X 2 dL_sets_211 rfl ?_
    refine j_iload X 0 dL_sets_213 rfl ?_
    refine j_callVi X (rest := []) (k_set l x e) m_yX9_set kM_RL_96 xput_0 rfl rfl rfl rfl rfl (Nat.le_of_ble_eq_true rfl) ⟨Nat.le_of_ble_eq_true rfl, Nat.le_of_ble_eq_true rfl, Nat.le_of_ble_eq_true rfl, Nat.le_of_ble_eq_true rfl⟩ dL_sets_215 ?_
    refine j_iload X 1 dL_sets_218 rfl ?_
    refine j_iload X 0 dL_sets_220 rfl ?_
    refine j_icmp_ne X (tgt := 230) dL_sets_222 (by decide) (fun c_222 => ?_) (fun c_222 => ?_)
    · refine j_iload X 1 dL_sets_230 rfl ?_
      refine j_icmp_ne X (tgt := 273) dL_sets_232 (by decide) (fun c_232 => absurd (s2 c_222) c_232) (fun c_232 => ?_)
      refine j_aload_n X 3 dL_sets_235 rfl rfl ?_
      refine j_iload X 2 dL_sets_236 rfl ?_
      refine j_callVi X (rest := []) (c_X9_count l) m_yX9_count kM_RL_13 xput_0 rfl rfl rfl rfl rfl (Nat.le_of_ble_eq_true rfl) ⟨Nat.le_of_ble_eq_true rfl, Nat.le_of_ble_eq_true rfl, Nat.le_of_ble_eq_true rfl, Nat.le_of_ble_eq_true rfl⟩ dL_sets_238 ?_
      refine j_iload X 0 dL_sets_241 rfl ?_
      refine j_icmp_ne X (tgt := 273) dL_sets_243 (by decide) (fun c_243 => absurd s3 c_243) (fun c_243 => ?_)
      refine j_aload_n X 3 dL_sets_246 rfl rfl ?_
      refine j_iconst X (v := 3) dL_sets_247 (by decide) ?_
      refine j_bipush X (v := 11) dL_sets_248 (by decide) ?_
      refine j_callVi X (rest := []) (k_set l x2 s4) m_yX9_set kM_RL_96 xput_0 rfl rfl rfl rfl rfl (Nat.le_of_ble_eq_true rfl) ⟨Nat.le_of_ble_eq_true rfl, Nat.le_of_ble_eq_true rfl, Nat.le_of_ble_eq_true rfl, Nat.le_of_ble_eq_true rfl⟩ dL_sets_250 ?_
      refine j_bipush X (v := (-2)) dL_sets_253 (by decide) ?_
      refine j_icmp_ne X (tgt := 273) dL_sets_255 (by decide) (fun c_ => absurd (by decide) c_) (fun _ => ?_)
      refine j_aload_n X 3 dL_sets_258 rfl rfl ?_
      refine j_iconst X (v := 4) dL_sets_259 (by decide) ?_
      refine j_iconst X (v := 1) dL_sets_260 (by decide) ?_
      refine j_callVi X (rest := []) (k_set l x2 s5) m_yX9_set kM_RL_96 xput_0 rfl rfl rfl rfl rfl (Nat.le_of_ble_eq_true rfl) ⟨Nat.le_of_ble_eq_true rfl, Nat.le_of_ble_eq_true rfl, Nat.le_of_ble_eq_true rfl, Nat.le_of_ble_eq_true rfl⟩ dL_sets_261 ?_
      refine j_bipush X (v := (-2)) dL_sets_264 (by decide) ?_
      refine j_icmp_ne X (tgt := 273) dL_sets_266 (by decide) (fun c_ => absurd (by decide) c_) (fun _ => ?_)
      refine j_iconst X (v := 1) dL_sets_269 (by decide) ?_
      refine j_goto X (tgt := 274) dL_sets_270 (by decide) ?_
      exact j_iret X hr rfl rfl rfl rfl dL_sets_274
    · refine j_bipush X (v := (-4)) dL_sets_225 (by decide) ?_
      refine j_goto X (tgt := 232) dL_sets_227 (by decide) ?_
      refine j_icmp_ne X (tgt := 273) dL_sets_232 (by decide) (fun c_232 => absurd (s1 c_222) c_232) (fun c_232 => ?_)
      refine j_aload_n X 3 dL_sets_235 rfl rfl ?_
      refine j_iload X 2 dL_sets_236 rfl ?_
      refine j_callVi X (rest := []) (c_X9_count l) m_yX9_count kM_RL_13 xput_0 rfl rfl rfl rfl rfl (Nat.le_of_ble_eq_true rfl) ⟨Nat.le_of_ble_eq_true rfl, Nat.le_of_ble_eq_true rfl, Nat.le_of_ble_eq_true rfl, Nat.le_of_ble_eq_true rfl⟩ dL_sets_238 ?_
      refine j_iload X 0 dL_sets_241 rfl ?_
      refine j_icmp_ne X (tgt := 273) dL_sets_243 (by decide) (fun c_243 => absurd s3 c_243) (fun c_243 => ?_)
      refine j_aload_n X 3 dL_sets_246 rfl rfl ?_
      refine j_iconst X (v := 3) dL_sets_247 (by decide) ?_
      refine j_bipush X (v := 11) dL_sets_248 (by decide) ?_
      refine j_callVi X (rest := []) (k_set l x2 s4) m_yX9_set kM_RL_96 xput_0 rfl rfl rfl rfl rfl (Nat.le_of_ble_eq_true rfl) ⟨Nat.le_of_ble_eq_true rfl, Nat.le_of_ble_eq_true rfl, Nat.le_of_ble_eq_true rfl, Nat.le_of_ble_eq_true rfl⟩ dL_sets_250 ?_
      refine j_bipush X (v := (-2)) dL_sets_253 (by decide) ?_
      refine j_icmp_ne X (tgt := 273) dL_sets_255 (by decide) (fun c_ => absurd (by decide) c_) (fun _ => ?_)
      refine j_aload_n X 3 dL_sets_258 rfl rfl ?_
      refine j_iconst X (v := 4) dL_sets_259 (by decide) ?_
      refine j_iconst X (v := 1) dL_sets_260 (by decide) ?_
      refine j_callVi X (rest := []) (k_set l x2 s5) m_yX9_set kM_RL_96 xput_0 rfl rfl rfl rfl rfl (Nat.le_of_ble_eq_true rfl) ⟨Nat.le_of_ble_eq_true rfl, Nat.le_of_ble_eq_true rfl, Nat.le_of_ble_eq_true rfl, Nat.le_of_ble_eq_true rfl⟩ dL_sets_261 ?_
      refine j_bipush X (v := (-2)) dL_sets_264 (by decide) ?_
      refine j_icmp_ne X (tgt := 273) dL_sets_266 (by decide) (fun c_ => absurd (by decide) c_) (fun _ => ?_)
      refine j_iconst X (v := 1) dL_sets_269 (by decide) ?_
      refine j_goto X (tgt := 274) dL_sets_270 (by decide) ?_
      exact j_iret X hr rfl rfl rfl rfl dL_sets_274
  refine j_iconst X (v := 1) dL_sets_166 (by decide) ?_
  refine j_iload_n X 5 dL_sets_167 rfl rfl ?_
  refine j_iconst X (v := 2) dL_sets_168 (by decide) ?_
  refine j_ishr X dL_sets_169 ?_
  refine j_iload X 1 dL_sets_170 rfl ?_
  refine j_if_ne X (tgt := 180) dL_sets_172 (by decide) (fun c_172 => ?_) (fun c_172 => ?_)
  · refine j_iload X 1 dL_sets_180 rfl ?_
    refine j_iconst X (v := 1) dL_sets_182 (by decide) ?_
    refine j_icmp_ne X (tgt := 191) dL_sets_183 (by decide) (fun c_183 => ?_) (fun c_183 => ?_)
    · refine j_iload X 1 dL_sets_191 rfl ?_
      refine j_iconst X (v := 2) dL_sets_193 (by decide) ?_
      refine j_icmp_ne X (tgt := 202) dL_sets_194 (by decide) (fun c_194 => ?_) (fun c_194 => ?_)
      · refine j_bipush X (v := 10) dL_sets_202 (by decide) ?_
        refine j_callSi X (rest := [.int 1]) (c_L_low l (by decide)) m_yL_low kM_RL_80 rfl rfl (Nat.le_of_ble_eq_true rfl) ⟨Nat.le_of_ble_eq_true rfl, Nat.le_of_ble_eq_true rfl, Nat.le_of_ble_eq_true rfl, Nat.le_of_ble_eq_true rfl⟩ dL_sets_204 ?_
        refine j_iadd X dL_sets_207 ?_
        refine j_st (st' := [.int v]) (by rw [hv3 c_172 c_183 c_194]) ?_
        refine j_istore X (L' := [(6, .int v), (5, .int (xCount S (nI w))), (4, .int (nI w)), (0, .ref b), (1, .int 2), (2, .int (nI k)), (3, .int y)]) dL_sets_208 (by decide) rfl ?_
        refine j_sub [0, 1, 2, 3, 4, 5, 6] (L' := [(6, .int v), (5, .int (xCount S (nI w))), (4, .int (nI w)), (0, .ref b), (1, .int 2), (2, .int (nI k)), (3, .int y)]) rfl ?_
        exact k210
      · refine j_bipush X (v := 6) dL_sets_197 (by decide) ?_
        refine j_goto X (tgt := 204) dL_sets_199 (by decide) ?_
        refine j_callSi X (rest := [.int 1]) (c_L_low l (by decide)) m_yL_low kM_RL_80 rfl rfl (Nat.le_of_ble_eq_true rfl) ⟨Nat.le_of_ble_eq_true rfl, Nat.le_of_ble_eq_true rfl, Nat.le_of_ble_eq_true rfl, Nat.le_of_ble_eq_true rfl⟩ dL_sets_204 ?_
        refine j_iadd X dL_sets_207 ?_
        refine j_st (st' := [.int v]) (by rw [hv2 c_194]) ?_
        refine j_istore X (L' := [(6, .int v), (5, .int (xCount S (nI w))), (4, .int (nI w)), (0, .ref b), (1, .int 2), (2, .int (nI k)), (3, .int y)]) dL_sets_208 (by decide) rfl ?_
        refine j_sub [0, 1, 2, 3, 4, 5, 6] (L' := [(6, .int v), (5, .int (xCount S (nI w))), (4, .int (nI w)), (0, .ref b), (1, .int 2), (2, .int (nI k)), (3, .int y)]) rfl ?_
        exact k210
    · refine j_bipush X (v := 40) dL_sets_186 (by decide) ?_
      refine j_goto X (tgt := 204) dL_sets_188 (by decide) ?_
      refine j_callSi X (rest := [.int 1]) (c_L_low l (by decide)) m_yL_low kM_RL_80 rfl rfl (Nat.le_of_ble_eq_true rfl) ⟨Nat.le_of_ble_eq_true rfl, Nat.le_of_ble_eq_true rfl, Nat.le_of_ble_eq_true rfl, Nat.le_of_ble_eq_true rfl⟩ dL_sets_204 ?_
      refine j_iadd X dL_sets_207 ?_
      refine j_st (st' := [.int v]) (by rw [hv1 c_183]) ?_
      refine j_istore X (L' := [(6, .int v), (5, .int (xCount S (nI w))), (4, .int (nI w)), (0, .ref b), (1, .int 2), (2, .int (nI k)), (3, .int y)]) dL_sets_208 (by decide) rfl ?_
      refine j_sub [0, 1, 2, 3, 4, 5, 6] (L' := [(6, .int v), (5, .int (xCount S (nI w))), (4, .int (nI w)), (0, .ref b), (1, .int 2), (2, .int (nI k)), (3, .int y)]) rfl ?_
      exact k210
  · refine j_bipush X (v := 30) dL_sets_175 (by decide) ?_
    refine j_goto X (tgt := 204) dL_sets_177 (by decide) ?_
    refine j_callSi X (rest := [.int 1]) (c_L_low l (by decide)) m_yL_low kM_RL_80 rfl rfl (Nat.le_of_ble_eq_true rfl) ⟨Nat.le_of_ble_eq_true rfl, Nat.le_of_ble_eq_true rfl, Nat.le_of_ble_eq_true rfl, Nat.le_of_ble_eq_true rfl⟩ dL_sets_204 ?_
    refine j_iadd X dL_sets_207 ?_
    refine j_st (st' := [.int v]) (by rw [hv0 c_172]) ?_
    refine j_istore X (L' := [(6, .int v), (5, .int (xCount S (nI w))), (4, .int (nI w)), (0, .ref b), (1, .int 2), (2, .int (nI k)), (3, .int y)]) dL_sets_208 (by decide) rfl ?_
    refine j_sub [0, 1, 2, 3, 4, 5, 6] (L' := [(6, .int v), (5, .int (xCount S (nI w))), (4, .int (nI w)), (0, .ref b), (1, .int 2), (2, .int (nI k)), (3, .int y)]) rfl ?_
    exact k210
set_option maxRecDepth 100000 in
set_option maxHeartbeats 8000000 in
theorem c_L_sets3 (l : Launch) {D : DD} {B z : Nat} {h : HF} {b k a : Nat} {y : Int32} {nx : Nat} {S S2 : Sy} {t : Int32} (x : nx < 4 ∧ S.2.1 1 = nI nx) (hl : (1 : Int32) + lowF y 12 = nI a) (e : xForget nx S (nI a) = (t, S2)) (s1 : t = xWhere S (nI a)) (s2 : xWhere S2 (nI a) = -4) : CT l yL_sets cL_sets 7 (some .boolean) 6 129 [.ref b, .int 3, .int (nI k), .int y] D B z (xput D h b S) (some (.int 1)) 0 0 (xput D h b S2) := by
  refine CT.of (L := [(0, .ref b), (1, .int 3), (2, .int (nI k)), (3, .int y)]) (by decide +kernel) (Nat.le_of_ble_eq_true rfl) rfl ?_
  intro P E S0 M0 AR BL ME CO X hr hnm
  refine j_iload_n X 1 dL_sets_0 rfl rfl ?_
  refine j_if_ne X (tgt := 98) dL_sets_1 (by decide) (fun _ => ?_) (fun c_ => absurd c_ (by decide))
  refine j_iload_n X 1 dL_sets_98 rfl rfl ?_
  refine j_iconst X (v := 1) dL_sets_99 (by decide) ?_
  refine j_icmp_ne X (tgt := 146) dL_sets_100 (by decide) (fun _ => ?_) (fun c_ => absurd c_ (by decide))
  refine j_iload_n X 1 dL_sets_146 rfl rfl ?_
  refine j_iconst X (v := 2) dL_sets_147 (by decide) ?_
  refine j_icmp_ne X (tgt := 275) dL_sets_148 (by decide) (fun _ => ?_) (fun c_ => absurd c_ (by decide))
  refine j_iconst X (v := 1) dL_sets_275 (by decide) ?_
  refine j_iload_n X 3 dL_sets_276 rfl rfl ?_
  refine j_bipush X (v := 12) dL_sets_277 (by decide) ?_
  refine j_callSi X (rest := [.int 1]) (c_L_low l (by decide)) m_yL_low kM_RL_80 rfl rfl (Nat.le_of_ble_eq_true rfl) ⟨Nat.le_of_ble_eq_true rfl, Nat.le_of_ble_eq_true rfl, Nat.le_of_ble_eq_true rfl, Nat.le_of_ble_eq_true rfl⟩ dL_sets_279 ?_
  refine j_iadd X dL_sets_282 ?_
  refine j_st (st' := [.int (nI a)]) (by rw [hl]) ?_
  refine j_istore X (L' := [(4, .int (nI a)), (0, .ref b), (1, .int 3), (2, .int (nI k)), (3, .int y)]) dL_sets_283 (by decide) rfl ?_
  refine j_aload_n X 1 dL_sets_285 rfl rfl ?_
  refine j_iload X 0 dL_sets_286 rfl ?_
  refine j_callVi X (rest := []) (c_X9_where l) m_yX9_where kM_RL_39 xput_0 rfl rfl rfl rfl rfl (Nat.le_of_ble_eq_true rfl) ⟨Nat.le_of_ble_eq_true rfl, Nat.le_of_ble_eq_true rfl, Nat.le_of_ble_eq_true rfl, Nat.le_of_ble_eq_true rfl⟩ dL_sets_288 ?_
  refine j_istore X (L' := [(5, .int (xWhere S (nI a))), (4, .int (nI a)), (0, .ref b), (1, .int 3), (2, .int (nI k)), (3, .int y)]) dL_sets_291 (by decide) rfl ?_
  refine j_aload_n X 2 dL_sets_293 rfl rfl ?_
  refine j_iload X 1 dL_sets_294 rfl ?_
  refine j_callVi X (rest := []) (k_forget l x e) m_yX9_forget kM_RL_99 xput_0 rfl rfl rfl rfl rfl (Nat.le_of_ble_eq_true rfl) ⟨Nat.le_of_ble_eq_true rfl, Nat.le_of_ble_eq_true rfl, Nat.le_of_ble_eq_true rfl, Nat.le_of_ble_eq_true rfl⟩ dL_sets_296 ?_
  refine j_iload X 0 dL_sets_299 rfl ?_
  refine j_icmp_ne X (tgt := 319) dL_sets_301 (by decide) (fun c_301 => absurd s1 c_301) (fun c_301 => ?_)
  refine j_aload_n X 2 dL_sets_304 rfl rfl ?_
  refine j_iload X 1 dL_sets_305 rfl ?_
  refine j_callVi X (rest := []) (c_X9_where l) m_yX9_where kM_RL_39 xput_0 rfl rfl rfl rfl rfl (Nat.le_of_ble_eq_true rfl) ⟨Nat.le_of_ble_eq_true rfl, Nat.le_of_ble_eq_true rfl, Nat.le_of_ble_eq_true rfl, Nat.le_of_ble_eq_true rfl⟩ dL_sets_307 ?_
  refine j_bipush X (v := (-4)) dL_sets_310 (by decide) ?_
  refine j_icmp_ne X (tgt := 319) dL_sets_312 (by decide) (fun c_312 => absurd s2 c_312) (fun c_312 => ?_)
  refine j_iconst X (v := 1) dL_sets_315 (by decide) ?_
  refine j_goto X (tgt := 320) dL_sets_316 (by decide) ?_
  exact j_iret X hr rfl rfl rfl rfl dL_sets_320
