set_option maxRecDepth 100000 in
set_option maxHeartbeats 8000000 in
theorem c_L_table (l : Launch) {D : DD} {B z : Nat} {h : HF} {b m : Nat} {S : Sy} (hbz : b + 211 ≤ z) (hz : h z = none) (H : TK S m) : CT l yL_table cL_table 6 (some .boolean) 4 86 [.ref b] D B z (xput D h b S) (some (.int 1)) 1 8 (xput D h b S) := by
  obtain ⟨e5, ht, h1, h2, h3, h4, h5, h6, hn⟩ := H
  refine CT.of (L := [(0, .ref b)]) (by decide +kernel) (Nat.le_of_ble_eq_true rfl) rfl ?_
  intro P E S0 M0 AR BL ME CO X hr hnm
  refine j_aload_n X 0 dL_table_0 rfl rfl ?_
  refine j_iconst X (v := 5) dL_table_1 (by decide) ?_
  refine j_callVi X (rest := []) (k_count l e5) m_yX9_count kM_RL_13 xput_0 rfl rfl rfl rfl rfl (Nat.le_of_ble_eq_true rfl) ⟨Nat.le_of_ble_eq_true rfl, Nat.le_of_ble_eq_true rfl, Nat.le_of_ble_eq_true rfl, Nat.le_of_ble_eq_true rfl⟩ dL_table_2 ?_
  refine j_istore_n X (L' := [(1, .int (nI m)), (0, .ref b)]) dL_table_5 rfl (by decide) rfl ?_
  refine j_bipush X (v := 8) dL_table_6 (by decide) ?_
  refine j_newi X (N := 8) (by decide) (by decide) (Nat.le_of_ble_eq_true rfl) ⟨Nat.le_of_ble_eq_true rfl, Nat.le_of_ble_eq_true rfl⟩ dL_table_8 ?_
  refine j_heap (h' := xput D (hupd h z (arrE D 8 (fun _ => 0))) b S) (xput_hz (by omega)).symm ?_
  refine j_astore_n X (L' := [(2, .ref z), (1, .int (nI m)), (0, .ref b)]) dL_table_10 rfl (by decide) rfl ?_
  refine j_iconst X (v := 0) dL_table_11 (by decide) ?_
  refine j_istore_n X (L' := [(3, .int 0), (2, .ref z), (1, .int (nI m)), (0, .ref b)]) dL_table_12 rfl (by decide) rfl ?_
  have loop13_1 : ∀ (n j : Nat), j + n = m → J P l E { frames := 4, cells := 1, slots := 8, locals := 86 } S0 M0 AR BL ME CO D B 6 (MQ BL (QC (some (.int 1)) D B (z + 1) (xput D h b S)) AR S0 1 8 (aB B)) (0 + 1) (0 + 8) (z + 1) (xput D (hupd h z (arrE D 8 (wF S j))) b S) [(0, .ref b), (1, .int (nI m)), (2, .ref z), (3, .int (nI j))] [] 13 := by
    intro n
    induction n with
    | zero =>
      intro j hj
      obtain rfl : m = j := by omega
      refine j_iload_n X 3 dL_table_13 rfl rfl ?_
      refine j_iload_n X 1 dL_table_14 rfl rfl ?_
      refine j_icmp_ge X (tgt := 102) dL_table_15 (by decide) (fun c_15 => ?_) (fun c_15 => absurd c_15 (nI_nlt (Nat.le_refl _) (by omega)))
      refine j_iconst X (v := 0) dL_table_102 (by decide) ?_
      refine j_istore_n X (L' := [(3, .int 0), (0, .ref b), (1, .int (nI m)), (2, .ref z)]) dL_table_103 rfl (by decide) rfl ?_
      have loop104_2 : ∀ (n j : Nat), j + n = 8 → J P l E { frames := 4, cells := 1, slots := 8, locals := 86 } S0 M0 AR BL ME CO D B 6 (MQ BL (QC (some (.int 1)) D B (z + 1) (xput D h b S)) AR S0 1 8 (aB B)) (0 + 1) (0 + 8) (z + 1) (xput D (hupd h z (arrE D 8 (wF S m))) b S) [(0, .ref b), (1, .int (nI m)), (2, .ref z), (3, .int (nI j))] [] 104 := by
        intro n
        induction n with
        | zero =>
          intro j hj
          obtain rfl : j = 8 := by omega
          refine j_iload_n X 3 dL_table_104 rfl rfl ?_
          refine j_bipush X (v := 8) dL_table_105 (by decide) ?_
          refine j_icmp_ge X (tgt := 131) dL_table_107 (by decide) (fun c_107 => ?_) (fun c_107 => absurd c_107 (by decide))
          refine j_iload_n X 1 dL_table_131 rfl rfl ?_
          refine j_bipush X (v := 20) dL_table_132 (by decide) ?_
          refine j_icmp_gt X (tgt := 184) dL_table_134 (by decide) (fun c_134 => absurd c_134 h2) (fun c_134 => ?_)
          refine j_aload_n X 0 dL_table_137 rfl rfl ?_
          refine j_iload_n X 1 dL_table_138 rfl rfl ?_
          refine j_iconst X (v := 0) dL_table_139 (by decide) ?_
          refine j_callVi X (rest := []) (c_X9_entry l) m_yX9_entry kM_RL_36 xput_0 rfl rfl rfl rfl rfl (Nat.le_of_ble_eq_true rfl) ⟨Nat.le_of_ble_eq_true rfl, Nat.le_of_ble_eq_true rfl, Nat.le_of_ble_eq_true rfl, Nat.le_of_ble_eq_true rfl⟩ dL_table_140 ?_
          refine j_bipush X (v := (-4)) dL_table_143 (by decide) ?_
          refine j_icmp_ne X (tgt := 184) dL_table_145 (by decide) (fun c_145 => absurd h3 c_145) (fun c_145 => ?_)
          refine j_aload_n X 0 dL_table_148 rfl rfl ?_
          refine j_iconst X (v := (-1)) dL_table_149 (by decide) ?_
          refine j_iconst X (v := 0) dL_table_150 (by decide) ?_
          refine j_callVi X (rest := []) (c_X9_entry l) m_yX9_entry kM_RL_36 xput_0 rfl rfl rfl rfl rfl (Nat.le_of_ble_eq_true rfl) ⟨Nat.le_of_ble_eq_true rfl, Nat.le_of_ble_eq_true rfl, Nat.le_of_ble_eq_true rfl, Nat.le_of_ble_eq_true rfl⟩ dL_table_151 ?_
          refine j_bipush X (v := (-2)) dL_table_154 (by decide) ?_
          refine j_icmp_ne X (tgt := 184) dL_table_156 (by decide) (fun c_156 => absurd h4 c_156) (fun c_156 => ?_)
          refine j_aload_n X 0 dL_table_159 rfl rfl ?_
          refine j_iconst X (v := 0) dL_table_160 (by decide) ?_
          refine j_callVi X (rest := []) (c_X9_where l) m_yX9_where kM_RL_39 xput_0 rfl rfl rfl rfl rfl (Nat.le_of_ble_eq_true rfl) ⟨Nat.le_of_ble_eq_true rfl, Nat.le_of_ble_eq_true rfl, Nat.le_of_ble_eq_true rfl, Nat.le_of_ble_eq_true rfl⟩ dL_table_161 ?_
          refine j_bipush X (v := (-2)) dL_table_164 (by decide) ?_
          refine j_icmp_ne X (tgt := 184) dL_table_166 (by decide) (fun c_166 => absurd h5 c_166) (fun c_166 => ?_)
          refine j_aload_n X 0 dL_table_169 rfl rfl ?_
          refine j_bipush X (v := 100) dL_table_170 (by decide) ?_
          refine j_callVi X (rest := []) (c_X9_where l) m_yX9_where kM_RL_39 xput_0 rfl rfl rfl rfl rfl (Nat.le_of_ble_eq_true rfl) ⟨Nat.le_of_ble_eq_true rfl, Nat.le_of_ble_eq_true rfl, Nat.le_of_ble_eq_true rfl, Nat.le_of_ble_eq_true rfl⟩ dL_table_172 ?_
          refine j_bipush X (v := (-2)) dL_table_175 (by decide) ?_
          refine j_icmp_ne X (tgt := 184) dL_table_177 (by decide) (fun c_177 => absurd h6 c_177) (fun c_177 => ?_)
          refine j_iconst X (v := 1) dL_table_180 (by decide) ?_
          refine j_goto X (tgt := 185) dL_table_181 (by decide) ?_
          refine j_less (xput_less hz) ?_
          exact j_iret X hr rfl rfl rfl rfl dL_table_185
        | succ n ih =>
          intro j hj
          have hlt : nI j < 8 := nlt_lit (b := 8) (by omega) (by decide)
          refine j_iload_n X 3 dL_table_104 rfl rfl ?_
          refine j_bipush X (v := 8) dL_table_105 (by decide) ?_
          refine j_icmp_ge X (tgt := 131) dL_table_107 (by decide) (fun c_107 => absurd hlt c_107) (fun c_107 => ?_)
          refine j_aload_n X 2 dL_table_110 rfl rfl ?_
          refine j_iload_n X 3 dL_table_111 rfl rfl ?_
          refine j_iald X (xput_at hbz hupd_same) rfl (vp_in_nI (by omega) (by decide)) dL_table_112 ?_
          refine j_aload_n X 0 dL_table_113 rfl rfl ?_
          refine j_iload_n X 3 dL_table_114 rfl rfl ?_
          refine j_bipush X (v := 6) dL_table_115 (by decide) ?_
          refine j_callVi X (rest := [.int ((wF S m) (nI j).toNatClampNeg)]) (c_X9_port l) m_yX9_port kM_RL_19 xput_0 rfl rfl rfl rfl rfl (Nat.le_of_ble_eq_true rfl) ⟨Nat.le_of_ble_eq_true rfl, Nat.le_of_ble_eq_true rfl, Nat.le_of_ble_eq_true rfl, Nat.le_of_ble_eq_true rfl⟩ dL_table_117 ?_
          refine j_icmp_eq X (tgt := 125) dL_table_120 (by decide) (fun c_120 => ?_) (fun c_120 => absurd (h1 j (by omega)) c_120)
          refine j_iinc X 3 (k := 1) (v := (nI (j + 1))) (L' := [(3, .int (nI (j + 1))), (0, .ref b), (1, .int (nI m)), (2, .ref z)]) dL_table_125 rfl (by decide) (by decide) (nI_succ j).symm rfl ?_
          refine j_goto X (tgt := 104) dL_table_128 (by decide) ?_
          refine j_sub [1, 2, 3, 0] (L' := [(0, .ref b), (1, .int (nI m)), (2, .ref z), (3, .int (nI (j + 1)))]) rfl ?_
          exact ih (j + 1) (by omega)
      refine j_sub [1, 2, 3, 0] (L' := [(0, .ref b), (1, .int (nI m)), (2, .ref z), (3, .int (nI 0))]) rfl ?_
      exact loop104_2 8 0 (by omega)
    | succ n ih =>
      intro j hj
      obtain ⟨q0, q1, q2, q3, q4, q5⟩ := ht j (by omega)
      refine j_iload_n X 3 dL_table_13 rfl rfl ?_
      refine j_iload_n X 1 dL_table_14 rfl rfl ?_
      refine j_icmp_ge X (tgt := 102) dL_table_15 (by decide) (fun c_15 => absurd (nI_lt (by omega) (by omega)) c_15) (fun c_15 => ?_)
      refine j_aload_n X 0 dL_table_18 rfl rfl ?_
      refine j_iload_n X 3 dL_table_19 rfl rfl ?_
      refine j_iconst X (v := 0) dL_table_20 (by decide) ?_
      refine j_callVi X (rest := []) (c_X9_entry l) m_yX9_entry kM_RL_36 xput_0 rfl rfl rfl rfl rfl (Nat.le_of_ble_eq_true rfl) ⟨Nat.le_of_ble_eq_true rfl, Nat.le_of_ble_eq_true rfl, Nat.le_of_ble_eq_true rfl, Nat.le_of_ble_eq_true rfl⟩ dL_table_21 ?_
      refine j_istore X (L' := [(4, .int (xEntry S (nI j) 0)), (0, .ref b), (1, .int (nI m)), (2, .ref z), (3, .int (nI j))]) dL_table_24 (by decide) rfl ?_
      refine j_aload_n X 1 dL_table_26 rfl rfl ?_
      refine j_iload_n X 4 dL_table_27 rfl rfl ?_
      refine j_iconst X (v := 1) dL_table_28 (by decide) ?_
      refine j_callVi X (rest := []) (c_X9_entry l) m_yX9_entry kM_RL_36 xput_0 rfl rfl rfl rfl rfl (Nat.le_of_ble_eq_true rfl) ⟨Nat.le_of_ble_eq_true rfl, Nat.le_of_ble_eq_true rfl, Nat.le_of_ble_eq_true rfl, Nat.le_of_ble_eq_true rfl⟩ dL_table_29 ?_
      refine j_istore X (L' := [(5, .int (xEntry S (nI j) 1)), (4, .int (xEntry S (nI j) 0)), (0, .ref b), (1, .int (nI m)), (2, .ref z), (3, .int (nI j))]) dL_table_32 (by decide) rfl ?_
      refine j_iload X 1 dL_table_34 rfl ?_
      refine j_iconst X (v := 1) dL_table_36 (by decide) ?_
      refine j_icmp_lt X (tgt := 86) dL_table_37 (by decide) (fun c_37 => absurd c_37 q0) (fun c_37 => ?_)
      have k57_3 : J P l E { frames := 4, cells := 1, slots := 8, locals := 86 } S0 M0 AR BL ME CO D B 6 (MQ BL (QC (some (.int 1)) D B (z + 1) (xput D h b S)) AR S0 1 8 (aB B)) (0 + 1) (0 + 8) (z + 1) (xput D (hupd h z (arrE D 8 (wF S j))) b S) [(5, .int (xEntry S (nI j) 1)), (4, .int (xEntry S (nI j) 0)), (0, .ref b), (1, .int (nI m)), (2, .ref z), (3, .int (nI j))] [] 57 := by
        refine j_aload_n X 2 dL_table_57 rfl rfl ?_
        refine j_iload X 1 dL_table_58 rfl ?_
        refine j_callVi X (rest := []) (c_X9_where l) m_yX9_where kM_RL_39 xput_0 rfl rfl rfl rfl rfl (Nat.le_of_ble_eq_true rfl) ⟨Nat.le_of_ble_eq_true rfl, Nat.le_of_ble_eq_true rfl, Nat.le_of_ble_eq_true rfl, Nat.le_of_ble_eq_true rfl⟩ dL_table_60 ?_
        refine j_iload X 0 dL_table_63 rfl ?_
        refine j_icmp_ne X (tgt := 86) dL_table_65 (by decide) (fun c_65 => absurd q2 c_65) (fun c_65 => ?_)
        refine j_aload_n X 2 dL_table_68 rfl rfl ?_
        refine j_iload_n X 5 dL_table_69 rfl rfl ?_
        refine j_iconst X (v := 2) dL_table_70 (by decide) ?_
        refine j_callVi X (rest := []) (c_X9_entry l) m_yX9_entry kM_RL_36 xput_0 rfl rfl rfl rfl rfl (Nat.le_of_ble_eq_true rfl) ⟨Nat.le_of_ble_eq_true rfl, Nat.le_of_ble_eq_true rfl, Nat.le_of_ble_eq_true rfl, Nat.le_of_ble_eq_true rfl⟩ dL_table_71 ?_
        refine j_if_lt X (tgt := 86) dL_table_74 (by decide) (fun c_74 => absurd c_74 q3) (fun c_74 => ?_)
        refine j_aload_n X 2 dL_table_77 rfl rfl ?_
        refine j_iload_n X 5 dL_table_78 rfl rfl ?_
        refine j_iconst X (v := 3) dL_table_79 (by decide) ?_
        refine j_callVi X (rest := []) (c_X9_entry l) m_yX9_entry kM_RL_36 xput_0 rfl rfl rfl rfl rfl (Nat.le_of_ble_eq_true rfl) ⟨Nat.le_of_ble_eq_true rfl, Nat.le_of_ble_eq_true rfl, Nat.le_of_ble_eq_true rfl, Nat.le_of_ble_eq_true rfl⟩ dL_table_80 ?_
        refine j_if_ge X (tgt := 88) dL_table_83 (by decide) (fun c_83 => ?_) (fun c_83 => absurd c_83 q4)
        refine j_aload_n X 4 dL_table_88 rfl rfl ?_
        refine j_iload X 0 dL_table_89 rfl ?_
        refine j_dup2 X dL_table_91 rfl rfl ?_
        refine j_iald X (xput_at hbz hupd_same) rfl q5 dL_table_92 ?_
        refine j_iconst X (v := 1) dL_table_93 (by decide) ?_
        refine j_iadd X dL_table_94 ?_
        refine j_iast X (xput_at hbz hupd_same) rfl q5 dL_table_95 ?_
        refine j_heap (h' := xput D (hupd h z (arrE D 8 (upd (wF S j) (xEntry S (nI j) 1).toNatClampNeg (((wF S j) (xEntry S (nI j) 1).toNatClampNeg) + 1)))) b S) (xput_w hbz) ?_
        refine j_iinc X 5 (k := 1) (v := (nI (j + 1))) (L' := [(3, .int (nI (j + 1))), (5, .int (xEntry S (nI j) 1)), (4, .int (xEntry S (nI j) 0)), (0, .ref b), (1, .int (nI m)), (2, .ref z)]) dL_table_96 rfl (by decide) (by decide) (nI_succ j).symm rfl ?_
        refine j_goto X (tgt := 13) dL_table_99 (by decide) ?_
        refine j_sub [3, 4, 5, 0] (L' := [(0, .ref b), (1, .int (nI m)), (2, .ref z), (3, .int (nI (j + 1)))]) rfl ?_
        refine j_heap (h' := xput D (hupd h z (arrE D 8 (wF S (j + 1)))) b S) rfl ?_
        exact ih (j + 1) (by omega)
      refine j_iload_n X 5 dL_table_40 rfl rfl ?_
      refine j_if_le X (tgt := 57) dL_table_41 (by decide) (fun c_41 => ?_) (fun c_41 => ?_)
      · refine j_sub [0, 1, 2, 3, 4, 5] (L' := [(5, .int (xEntry S (nI j) 1)), (4, .int (xEntry S (nI j) 0)), (0, .ref b), (1, .int (nI m)), (2, .ref z), (3, .int (nI j))]) rfl ?_
        exact k57_3
      · refine j_iload X 1 dL_table_44 rfl ?_
        refine j_aload_n X 2 dL_table_46 rfl rfl ?_
        refine j_iload_n X 5 dL_table_47 rfl rfl ?_
        refine j_iconst X (v := 1) dL_table_48 (by decide) ?_
        refine j_isub X dL_table_49 ?_
        refine j_iconst X (v := 0) dL_table_50 (by decide) ?_
        refine j_callVi X (rest := [.int (xEntry S (nI j) 0)]) (c_X9_entry l) m_yX9_entry kM_RL_36 xput_0 rfl rfl rfl rfl rfl (Nat.le_of_ble_eq_true rfl) ⟨Nat.le_of_ble_eq_true rfl, Nat.le_of_ble_eq_true rfl, Nat.le_of_ble_eq_true rfl, Nat.le_of_ble_eq_true rfl⟩ dL_table_51 ?_
        refine j_icmp_le X (tgt := 86) dL_table_54 (by decide) (fun c_54 => absurd (q1 c_41) c_54) (fun c_54 => ?_)
        refine j_sub [0, 1, 2, 3, 4, 5] (L' := [(5, .int (xEntry S (nI j) 1)), (4, .int (xEntry S (nI j) 0)), (0, .ref b), (1, .int (nI m)), (2, .ref z), (3, .int (nI j))]) rfl ?_
        exact k57_3
  refine j_sub [3, 2, 1, 0] (L' := [(0, .ref b), (1, .int (nI m)), (2, .ref z), (3, .int (nI 0))]) rfl ?_
  refine j_heap (h' := xput D (hupd h z (arrE D 8 (wF S 0))) b S) rfl ?_
  exact loop13_1 m 0 (by omega)
