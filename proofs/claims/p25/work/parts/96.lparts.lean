set_option maxRecDepth 100000 in
set_option maxHeartbeats 8000000 in
theorem c_L_parts (l : Launch) {D : DD} {B z : Nat} {h : HF} {b a c m nx n2 n3 n4 : Nat} {S S1 S2 S3 S4 S5 : Sy} {ck t f1 f2 : Int32} (e1 : xKeep S = (ck, S1)) (x1 : nx < 4 ∧ S1.2.1 1 = nI nx) (e2 : xPass nx S1 (nI (a + c)) = (t, S2)) (x2 : n2 < 4 ∧ S2.2.1 1 = nI n2) (e5 : xCount S2 5 = nI m) (hm : m ≤ 20) (hy : ∀ j, j < m → xEntry S2 (nI j) 2 < xCount S2 0) (hck : xCount S2 4 = ck + nI a + nI c) (e3 : xRestore n2 S2 = (ck, S3)) (x3 : n3 < 4 ∧ S3.2.1 1 = nI n3) (e4 : xPass n3 S3 (nI a) = (f1, S4)) (x4 : n4 < 4 ∧ S4.2.1 1 = nI n4) (e6 : xPass n4 S4 (nI c) = (f2, S5)) (hs : f1 + f2 = t) (hd : dg S5 = dg S2) : CT l yL_parts cL_parts 8 (some .boolean) 7 171 [.ref b, .int (nI a), .int (nI c)] D B z (xput D h b S) (some (.int 1)) 0 0 (xput D h b S5) := by
  refine CT.of (L := [(0, .ref b), (1, .int (nI a)), (2, .int (nI c))]) (by decide +kernel) (Nat.le_of_ble_eq_true rfl) rfl ?_
  intro P E S0 M0 AR BL ME CO X hr hnm
  refine j_aload_n X 0 dL_parts_0 rfl rfl ?_
  refine j_callVi X (rest := []) (k_keep l e1) m_yX9_keep kM_RL_67 xput_0 rfl rfl rfl rfl rfl (Nat.le_of_ble_eq_true rfl) ⟨Nat.le_of_ble_eq_true rfl, Nat.le_of_ble_eq_true rfl, Nat.le_of_ble_eq_true rfl, Nat.le_of_ble_eq_true rfl⟩ dL_parts_1 ?_
  refine j_istore_n X (L' := [(3, .int ck), (0, .ref b), (1, .int (nI a)), (2, .int (nI c))]) dL_parts_4 rfl (by decide) rfl ?_
  refine j_aload_n X 1 dL_parts_5 rfl rfl ?_
  refine j_iload_n X 2 dL_parts_6 rfl rfl ?_
  refine j_iload_n X 3 dL_parts_7 rfl rfl ?_
  refine j_iadd X dL_parts_8 ?_
  refine j_st (st' := [.int (nI (a + c)), .ref b]) (by rw [nI_add]) ?_
  refine j_callVi X (rest := []) (k_pass l x1 e2) m_yX9_pass kM_RL_70 xput_0 rfl rfl rfl rfl rfl (Nat.le_of_ble_eq_true rfl) ⟨Nat.le_of_ble_eq_true rfl, Nat.le_of_ble_eq_true rfl, Nat.le_of_ble_eq_true rfl, Nat.le_of_ble_eq_true rfl⟩ dL_parts_9 ?_
  refine j_istore X (L' := [(4, .int t), (3, .int ck), (0, .ref b), (1, .int (nI a)), (2, .int (nI c))]) dL_parts_12 (by decide) rfl ?_
  refine j_aload_n X 2 dL_parts_14 rfl rfl ?_
  refine j_callSl X (rest := []) (c_L_digest l) m_yL_digest kM_RL_73 rfl rfl (Nat.le_of_ble_eq_true rfl) ⟨Nat.le_of_ble_eq_true rfl, Nat.le_of_ble_eq_true rfl, Nat.le_of_ble_eq_true rfl, Nat.le_of_ble_eq_true rfl⟩ dL_parts_15 ?_
  refine j_lstore X (L' := [(5, .long (dg S2)), (4, .int t), (3, .int ck), (0, .ref b), (1, .int (nI a)), (2, .int (nI c))]) dL_parts_18 (by decide) rfl ?_
  refine j_iconst X (v := 0) dL_parts_20 (by decide) ?_
  refine j_istore X (L' := [(7, .int 0), (5, .long (dg S2)), (4, .int t), (3, .int ck), (0, .ref b), (1, .int (nI a)), (2, .int (nI c))]) dL_parts_21 (by decide) rfl ?_
  have loop23_1 : ∀ (n j : Nat), j + n = m → J P l E { frames := 7, cells := 0, slots := 0, locals := 171 } S0 M0 AR BL ME CO D B 8 (MQ BL (QC (some (.int 1)) D B (z + 0) (xput D h b S5)) AR S0 0 0 (aB B)) 0 0 z (xput D h b S2) [(5, .long (dg S2)), (4, .int t), (3, .int ck), (0, .ref b), (1, .int (nI a)), (2, .int (nI c)), (7, .int (nI j))] [] 23 := by
    intro n
    induction n with
    | zero =>
      intro j hj
      obtain rfl : m = j := by omega
      refine j_iload X 6 dL_parts_23 rfl ?_
      refine j_aload_n X 3 dL_parts_25 rfl rfl ?_
      refine j_iconst X (v := 5) dL_parts_26 (by decide) ?_
      refine j_callVi X (rest := [.int (nI m)]) (k_count l e5) m_yX9_count kM_RL_13 xput_0 rfl rfl rfl rfl rfl (Nat.le_of_ble_eq_true rfl) ⟨Nat.le_of_ble_eq_true rfl, Nat.le_of_ble_eq_true rfl, Nat.le_of_ble_eq_true rfl, Nat.le_of_ble_eq_true rfl⟩ dL_parts_27 ?_
      refine j_icmp_ge X (tgt := 56) dL_parts_30 (by decide) (fun c_30 => ?_) (fun c_30 => absurd c_30 (nI_nlt (Nat.le_refl _) (by omega)))
      refine j_aload_n X 3 dL_parts_56 rfl rfl ?_
      refine j_iconst X (v := 4) dL_parts_57 (by decide) ?_
      refine j_callVi X (rest := []) (c_X9_count l) m_yX9_count kM_RL_13 xput_0 rfl rfl rfl rfl rfl (Nat.le_of_ble_eq_true rfl) ⟨Nat.le_of_ble_eq_true rfl, Nat.le_of_ble_eq_true rfl, Nat.le_of_ble_eq_true rfl, Nat.le_of_ble_eq_true rfl⟩ dL_parts_58 ?_
      refine j_iload_n X 2 dL_parts_61 rfl rfl ?_
      refine j_iload_n X 4 dL_parts_62 rfl rfl ?_
      refine j_iadd X dL_parts_63 ?_
      refine j_iload_n X 5 dL_parts_64 rfl rfl ?_
      refine j_iadd X dL_parts_65 ?_
      refine j_icmp_ne X (tgt := 77) dL_parts_66 (by decide) (fun c_66 => absurd hck c_66) (fun c_66 => ?_)
      refine j_aload_n X 3 dL_parts_69 rfl rfl ?_
      refine j_callVi X (rest := []) (k_restore l x2 e3) m_yX9_restore kM_RL_77 xput_0 rfl rfl rfl rfl rfl (Nat.le_of_ble_eq_true rfl) ⟨Nat.le_of_ble_eq_true rfl, Nat.le_of_ble_eq_true rfl, Nat.le_of_ble_eq_true rfl, Nat.le_of_ble_eq_true rfl⟩ dL_parts_70 ?_
      refine j_iload_n X 2 dL_parts_73 rfl rfl ?_
      refine j_icmp_eq X (tgt := 79) dL_parts_74 (by decide) (fun c_74 => ?_) (fun c_74 => absurd rfl c_74)
      refine j_aload_n X 3 dL_parts_79 rfl rfl ?_
      refine j_iload_n X 4 dL_parts_80 rfl rfl ?_
      refine j_callVi X (rest := []) (k_pass l x3 e4) m_yX9_pass kM_RL_70 xput_0 rfl rfl rfl rfl rfl (Nat.le_of_ble_eq_true rfl) ⟨Nat.le_of_ble_eq_true rfl, Nat.le_of_ble_eq_true rfl, Nat.le_of_ble_eq_true rfl, Nat.le_of_ble_eq_true rfl⟩ dL_parts_81 ?_
      refine j_istore X (L' := [(7, .int f1), (5, .long (dg S2)), (4, .int t), (3, .int ck), (0, .ref b), (1, .int (nI a)), (2, .int (nI c))]) dL_parts_84 (by decide) rfl ?_
      refine j_iload X 0 dL_parts_86 rfl ?_
      refine j_aload_n X 4 dL_parts_88 rfl rfl ?_
      refine j_iload_n X 6 dL_parts_89 rfl rfl ?_
      refine j_callVi X (rest := [.int f1]) (k_pass l x4 e6) m_yX9_pass kM_RL_70 xput_0 rfl rfl rfl rfl rfl (Nat.le_of_ble_eq_true rfl) ⟨Nat.le_of_ble_eq_true rfl, Nat.le_of_ble_eq_true rfl, Nat.le_of_ble_eq_true rfl, Nat.le_of_ble_eq_true rfl⟩ dL_parts_90 ?_
      refine j_iadd X dL_parts_93 ?_
      refine j_iload X 2 dL_parts_94 rfl ?_
      refine j_icmp_ne X (tgt := 113) dL_parts_96 (by decide) (fun c_96 => absurd hs c_96) (fun c_96 => ?_)
      refine j_aload_n X 4 dL_parts_99 rfl rfl ?_
      refine j_callSl X (rest := []) (c_L_digest l) m_yL_digest kM_RL_73 rfl rfl (Nat.le_of_ble_eq_true rfl) ⟨Nat.le_of_ble_eq_true rfl, Nat.le_of_ble_eq_true rfl, Nat.le_of_ble_eq_true rfl, Nat.le_of_ble_eq_true rfl⟩ dL_parts_100 ?_
      refine j_lload X 1 dL_parts_103 rfl ?_
      refine j_lcmp X dL_parts_105 ?_
      refine j_if_ne X (tgt := 113) dL_parts_106 (by decide) (fun c_106 => absurd (lg_cmp0.mpr hd) c_106) (fun c_106 => ?_)
      refine j_iconst X (v := 1) dL_parts_109 (by decide) ?_
      refine j_goto X (tgt := 114) dL_parts_110 (by decide) ?_
      exact j_iret X hr rfl rfl rfl rfl dL_parts_114
    | succ n ih =>
      intro j hj
      refine j_iload X 6 dL_parts_23 rfl ?_
      refine j_aload_n X 3 dL_parts_25 rfl rfl ?_
      refine j_iconst X (v := 5) dL_parts_26 (by decide) ?_
      refine j_callVi X (rest := [.int (nI j)]) (k_count l e5) m_yX9_count kM_RL_13 xput_0 rfl rfl rfl rfl rfl (Nat.le_of_ble_eq_true rfl) ⟨Nat.le_of_ble_eq_true rfl, Nat.le_of_ble_eq_true rfl, Nat.le_of_ble_eq_true rfl, Nat.le_of_ble_eq_true rfl⟩ dL_parts_27 ?_
      refine j_icmp_ge X (tgt := 56) dL_parts_30 (by decide) (fun c_30 => absurd (nI_lt (by omega) (by omega)) c_30) (fun c_30 => ?_)
      refine j_aload_n X 3 dL_parts_33 rfl rfl ?_
      refine j_iload X 6 dL_parts_34 rfl ?_
      refine j_iconst X (v := 2) dL_parts_36 (by decide) ?_
      refine j_callVi X (rest := []) (c_X9_entry l) m_yX9_entry kM_RL_36 xput_0 rfl rfl rfl rfl rfl (Nat.le_of_ble_eq_true rfl) ⟨Nat.le_of_ble_eq_true rfl, Nat.le_of_ble_eq_true rfl, Nat.le_of_ble_eq_true rfl, Nat.le_of_ble_eq_true rfl⟩ dL_parts_37 ?_
      refine j_aload_n X 3 dL_parts_40 rfl rfl ?_
      refine j_iconst X (v := 0) dL_parts_41 (by decide) ?_
      refine j_callVi X (rest := [.int (xEntry S2 (nI j) 2)]) (c_X9_count l) m_yX9_count kM_RL_13 xput_0 rfl rfl rfl rfl rfl (Nat.le_of_ble_eq_true rfl) ⟨Nat.le_of_ble_eq_true rfl, Nat.le_of_ble_eq_true rfl, Nat.le_of_ble_eq_true rfl, Nat.le_of_ble_eq_true rfl⟩ dL_parts_42 ?_
      refine j_icmp_lt X (tgt := 50) dL_parts_45 (by decide) (fun c_45 => ?_) (fun c_45 => absurd (hy j (by omega)) c_45)
      refine j_iinc X 6 (k := 1) (v := (nI (j + 1))) (L' := [(7, .int (nI (j + 1))), (5, .long (dg S2)), (4, .int t), (3, .int ck), (0, .ref b), (1, .int (nI a)), (2, .int (nI c))]) dL_parts_50 rfl (by decide) (by decide) (nI_succ j).symm rfl ?_
      refine j_goto X (tgt := 23) dL_parts_53 (by decide) ?_
      refine j_sub [1, 2, 3, 4, 5, 6, 0] (L' := [(5, .long (dg S2)), (4, .int t), (3, .int ck), (0, .ref b), (1, .int (nI a)), (2, .int (nI c)), (7, .int (nI (j + 1)))]) rfl ?_
      exact ih (j + 1) (by omega)
  refine j_sub [1, 2, 3, 4, 5, 6, 0] (L' := [(5, .long (dg S2)), (4, .int t), (3, .int ck), (0, .ref b), (1, .int (nI a)), (2, .int (nI c)), (7, .int (nI 0))]) rfl ?_
  exact loop23_1 m 0 (by omega)
