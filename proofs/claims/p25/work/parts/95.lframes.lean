/-! the law's calls -/
theorem k_low (l : Launch) {D : DD} {B z : Nat} {h : HF} {x n r : Int32} (hn : ¬ n = 0) (e : lowF x n = r) : CT l yL_low cL_low 2 (some .int) 0 0 [.int x, .int n] D B z h (some (.int r)) 0 0 h := e ▸ c_L_low l hn
theorem k_openSet (l : Launch) {D : DD} {B z : Nat} {h : HF} {b : Nat} {S : Sy} : CT l yL_openSet cL_openSet 3 (some .int) 3 66 [.ref b] D B z (xput D h b S) (some (.int (wb (ob (S.1 0)) 8))) 0 0 (xput D h b S) := os_k S 8 (Nat.le_refl 8) ▸ c_L_openSet l
set_option maxRecDepth 100000 in
set_option maxHeartbeats 16000000 in
theorem c_L_frames (l : Launch) {D : DD} {B z : Nat} {h : HF} {b k a c pr d nx : Nat} {S S1 S2 : Sy} {w : Int32} (hbz : b + 211 ≤ z) (hz : h z = none) (hz1 : h (z + 1) = none) (hx1 : nx < 4 ∧ S1.2.1 1 = nI nx) (hk : k < 8) (eW : xWouldGo S (nI k) (nI a) (nI c) = (w, S1)) (eF : xFrame nx S1 (nI k) (nI a) (nI c) (nI pr) = (nI d, S2)) (H : FB k a (wb (ob (S.1 0)) 8) w d S1 S2) : CT l yL_frames cL_frames 17 (some .boolean) 6 148 [.ref b, .int (nI k), .int (nI a), .int (nI c), .int (nI pr)] D B z (xput D h b S) (some (.int 1)) 2 16 (xput D h b S2) := by
  obtain ⟨⟨hd7, f1, f4, f5⟩, f3, f2, f0, f6, f6n, f7, f8, fq⟩ := H
  refine CT.of (L := [(0, .ref b), (1, .int (nI k)), (2, .int (nI a)), (3, .int (nI c)), (4, .int (nI pr))]) (by decide +kernel) (Nat.le_of_ble_eq_true rfl) rfl ?_
  intro P E S0 M0 AR BL ME CO X hr hnm
  refine j_bipush X (v := 8) dL_frames_0 (by decide) ?_
  refine j_newi X (N := 8) (by decide) (by decide) (Nat.le_of_ble_eq_true rfl) ⟨Nat.le_of_ble_eq_true rfl, Nat.le_of_ble_eq_true rfl⟩ dL_frames_2 ?_
  refine j_heap (h' := xput D (hupd h z (arrE D 8 (fun _ => 0))) b S) (xput_hz (by omega)).symm ?_
  refine j_astore X (L' := [(5, .ref z), (0, .ref b), (1, .int (nI k)), (2, .int (nI a)), (3, .int (nI c)), (4, .int (nI pr))]) dL_frames_4 (by decide) rfl ?_
  refine j_bipush X (v := 8) dL_frames_6 (by decide) ?_
  refine j_newi X (N := 8) (by decide) (by decide) (Nat.le_of_ble_eq_true rfl) ⟨Nat.le_of_ble_eq_true rfl, Nat.le_of_ble_eq_true rfl⟩ dL_frames_8 ?_
  refine j_heap (h' := xput D (hupd (hupd h z (arrE D 8 (fun _ => 0))) (z + 1) (arrE D 8 (fun _ => 0))) b S) (xput_hz (by omega)).symm ?_
  refine j_astore X (L' := [(6, .ref (z + 1)), (5, .ref z), (0, .ref b), (1, .int (nI k)), (2, .int (nI a)), (3, .int (nI c)), (4, .int (nI pr))]) dL_frames_10 (by decide) rfl ?_
  refine j_aload_n X 2 dL_frames_12 rfl rfl ?_
  refine j_callSi X (rest := []) (k_openSet l) m_yL_openSet kM_RL_56 rfl rfl (Nat.le_of_ble_eq_true rfl) ⟨Nat.le_of_ble_eq_true rfl, Nat.le_of_ble_eq_true rfl, Nat.le_of_ble_eq_true rfl, Nat.le_of_ble_eq_true rfl⟩ dL_frames_13 ?_
  refine j_istore X (L' := [(7, .int (wb (ob (S.1 0)) 8)), (6, .ref (z + 1)), (5, .ref z), (0, .ref b), (1, .int (nI k)), (2, .int (nI a)), (3, .int (nI c)), (4, .int (nI pr))]) dL_frames_16 (by decide) rfl ?_
  refine j_aload_n X 3 dL_frames_18 rfl rfl ?_
  refine j_iload_n X 4 dL_frames_19 rfl rfl ?_
  refine j_iload_n X 5 dL_frames_20 rfl rfl ?_
  refine j_iload_n X 6 dL_frames_21 rfl rfl ?_
  refine j_callVi X (rest := []) (k_wouldGo l eW) m_yX9_wouldGo kM_RL_60 xput_0 rfl rfl rfl rfl rfl (Nat.le_of_ble_eq_true rfl) ⟨Nat.le_of_ble_eq_true rfl, Nat.le_of_ble_eq_true rfl, Nat.le_of_ble_eq_true rfl, Nat.le_of_ble_eq_true rfl⟩ dL_frames_22 ?_
  refine j_istore X (L' := [(8, .int w), (7, .int (wb (ob (S.1 0)) 8)), (6, .ref (z + 1)), (5, .ref z), (0, .ref b), (1, .int (nI k)), (2, .int (nI a)), (3, .int (nI c)), (4, .int (nI pr))]) dL_frames_25 (by decide) rfl ?_
  refine j_aload_n X 4 dL_frames_27 rfl rfl ?_
  refine j_iload_n X 6 dL_frames_28 rfl rfl ?_
  refine j_callVi X (rest := []) (c_X9_where l) m_yX9_where kM_RL_39 xput_0 rfl rfl rfl rfl rfl (Nat.le_of_ble_eq_true rfl) ⟨Nat.le_of_ble_eq_true rfl, Nat.le_of_ble_eq_true rfl, Nat.le_of_ble_eq_true rfl, Nat.le_of_ble_eq_true rfl⟩ dL_frames_29 ?_
  refine j_istore X (L' := [(9, .int (xWhere S1 (nI a))), (8, .int w), (7, .int (wb (ob (S.1 0)) 8)), (6, .ref (z + 1)), (5, .ref z), (0, .ref b), (1, .int (nI k)), (2, .int (nI a)), (3, .int (nI c)), (4, .int (nI pr))]) dL_frames_32 (by decide) rfl ?_
  refine j_aload_n X 5 dL_frames_34 rfl rfl ?_
  refine j_iload_n X 6 dL_frames_35 rfl rfl ?_
  refine j_bipush X (v := 7) dL_frames_36 (by decide) ?_
  refine j_callVi X (rest := []) (c_X9_port l) m_yX9_port kM_RL_19 xput_0 rfl rfl rfl rfl rfl (Nat.le_of_ble_eq_true rfl) ⟨Nat.le_of_ble_eq_true rfl, Nat.le_of_ble_eq_true rfl, Nat.le_of_ble_eq_true rfl, Nat.le_of_ble_eq_true rfl⟩ dL_frames_38 ?_
  refine j_istore X (L' := [(10, .int (xPort S1 (nI k) 7)), (9, .int (xWhere S1 (nI a))), (8, .int w), (7, .int (wb (ob (S.1 0)) 8)), (6, .ref (z + 1)), (5, .ref z), (0, .ref b), (1, .int (nI k)), (2, .int (nI a)), (3, .int (nI c)), (4, .int (nI pr))]) dL_frames_41 (by decide) rfl ?_
  refine j_aload_n X 6 dL_frames_43 rfl rfl ?_
  refine j_bipush X (v := 11) dL_frames_44 (by decide) ?_
  refine j_callVi X (rest := []) (c_X9_count l) m_yX9_count kM_RL_13 xput_0 rfl rfl rfl rfl rfl (Nat.le_of_ble_eq_true rfl) ⟨Nat.le_of_ble_eq_true rfl, Nat.le_of_ble_eq_true rfl, Nat.le_of_ble_eq_true rfl, Nat.le_of_ble_eq_true rfl⟩ dL_frames_46 ?_
  refine j_istore X (L' := [(11, .int (xCount S1 11)), (10, .int (xPort S1 (nI k) 7)), (9, .int (xWhere S1 (nI a))), (8, .int w), (7, .int (wb (ob (S.1 0)) 8)), (6, .ref (z + 1)), (5, .ref z), (0, .ref b), (1, .int (nI k)), (2, .int (nI a)), (3, .int (nI c)), (4, .int (nI pr))]) dL_frames_49 (by decide) rfl ?_
  refine j_iconst X (v := 0) dL_frames_51 (by decide) ?_
  refine j_istore X (L' := [(12, .int 0), (11, .int (xCount S1 11)), (10, .int (xPort S1 (nI k) 7)), (9, .int (xWhere S1 (nI a))), (8, .int w), (7, .int (wb (ob (S.1 0)) 8)), (6, .ref (z + 1)), (5, .ref z), (0, .ref b), (1, .int (nI k)), (2, .int (nI a)), (3, .int (nI c)), (4, .int (nI pr))]) dL_frames_52 (by decide) rfl ?_
  have loop54_1 : ∀ (n j : Nat), j + n = 8 → J P l E { frames := 6, cells := 2, slots := 16, locals := 148 } S0 M0 AR BL ME CO D B 17 (MQ BL (QC (some (.int 1)) D B (z + 2) (xput D h b S2)) AR S0 2 16 (aB B)) ((0 + 1) + 1) ((0 + 8) + 8) ((z + 1) + 1) (xput D (hupd (hupd h z (arrE D 8 (aF S1 j))) (z + 1) (arrE D 8 (cF S1 j))) b S1) [(11, .int (xCount S1 11)), (10, .int (xPort S1 (nI k) 7)), (9, .int (xWhere S1 (nI a))), (8, .int w), (7, .int (wb (ob (S.1 0)) 8)), (6, .ref (z + 1)), (5, .ref z), (0, .ref b), (1, .int (nI k)), (2, .int (nI a)), (3, .int (nI c)), (4, .int (nI pr)), (12, .int (nI j))] [] 54 := by
    intro n
    induction n with
    | zero =>
      intro j hj
      obtain rfl : j = 8 := by omega
      refine j_iload X 12 dL_frames_54 rfl ?_
      refine j_bipush X (v := 8) dL_frames_56 (by decide) ?_
      refine j_icmp_ge X (tgt := 92) dL_frames_58 (by decide) (fun c_58 => ?_) (fun c_58 => absurd c_58 (by decide))
      refine j_aload_n X 7 dL_frames_92 rfl rfl ?_
      refine j_iload_n X 8 dL_frames_93 rfl rfl ?_
      refine j_iload_n X 9 dL_frames_94 rfl rfl ?_
      refine j_iload_n X 10 dL_frames_95 rfl rfl ?_
      refine j_iload X 11 dL_frames_96 rfl ?_
      refine j_callVi X (rest := []) (k_frame l hx1 eF) m_yX9_frame kM_RL_63 xput_0 rfl rfl rfl rfl rfl (Nat.le_of_ble_eq_true rfl) ⟨Nat.le_of_ble_eq_true rfl, Nat.le_of_ble_eq_true rfl, Nat.le_of_ble_eq_true rfl, Nat.le_of_ble_eq_true rfl⟩ dL_frames_98 ?_
      refine j_istore X (L' := [(12, .int (nI d)), (11, .int (xCount S1 11)), (10, .int (xPort S1 (nI k) 7)), (9, .int (xWhere S1 (nI a))), (8, .int w), (7, .int (wb (ob (S.1 0)) 8)), (6, .ref (z + 1)), (5, .ref z), (0, .ref b), (1, .int (nI k)), (2, .int (nI a)), (3, .int (nI c)), (4, .int (nI pr))]) dL_frames_101 (by decide) rfl ?_
      refine j_iload X 5 dL_frames_103 rfl ?_
      refine j_iload_n X 9 dL_frames_105 rfl rfl ?_
      refine j_ishr X dL_frames_106 ?_
      refine j_iconst X (v := 1) dL_frames_107 (by decide) ?_
      refine j_iand X dL_frames_108 ?_
      refine j_iconst X (v := 1) dL_frames_109 (by decide) ?_
      refine j_icmp_ne X (tgt := 117) dL_frames_110 (by decide) (fun c_110 => ?_) (fun c_110 => ?_)
      · refine j_iconst X (v := 0) dL_frames_117 (by decide) ?_
        refine j_istore X (L' := [(13, .int 0), (12, .int (nI d)), (11, .int (xCount S1 11)), (10, .int (xPort S1 (nI k) 7)), (9, .int (xWhere S1 (nI a))), (8, .int w), (7, .int (wb (ob (S.1 0)) 8)), (6, .ref (z + 1)), (5, .ref z), (0, .ref b), (1, .int (nI k)), (2, .int (nI a)), (3, .int (nI c)), (4, .int (nI pr))]) dL_frames_118 (by decide) rfl ?_
        refine j_iload X 1 dL_frames_120 rfl ?_
        refine j_if_lt X (tgt := 167) dL_frames_122 (by decide) (fun c_122 => absurd c_122 (nI_pos (by omega))) (fun c_122 => ?_)
        refine j_iload X 1 dL_frames_125 rfl ?_
        refine j_bipush X (v := 6) dL_frames_127 (by decide) ?_
        refine j_icmp_gt X (tgt := 167) dL_frames_129 (by decide) (fun c_129 => absurd c_129 (nI_nlt (a := 6) (b := d) (by omega) (by omega))) (fun c_129 => ?_)
        refine j_iload X 0 dL_frames_132 rfl ?_
        refine j_iload X 1 dL_frames_134 rfl ?_
        refine j_if_ne X (tgt := 143) dL_frames_136 (by decide) (fun c_136 => absurd (Classical.byContradiction fun q_ => c_110 (f1.mpr q_)) c_136) (fun c_136 => ?_)
        refine j_iconst X (v := 1) dL_frames_139 (by decide) ?_
        refine j_goto X (tgt := 144) dL_frames_140 (by decide) ?_
        refine j_icmp_eq X (tgt := 167) dL_frames_144 (by decide) (fun c_ => absurd c_ (by decide)) (fun _ => ?_)
        refine j_iload X 5 dL_frames_147 rfl ?_
        refine j_iload_n X 10 dL_frames_149 rfl rfl ?_
        refine j_ishr X dL_frames_150 ?_
        refine j_iconst X (v := 1) dL_frames_151 (by decide) ?_
        refine j_iand X dL_frames_152 ?_
        refine j_iconst X (v := 1) dL_frames_153 (by decide) ?_
        refine j_icmp_eq X (tgt := 167) dL_frames_154 (by decide) (fun c_154 => absurd c_154 f4) (fun c_154 => ?_)
        refine j_iload X 5 dL_frames_157 rfl ?_
        refine j_iload X 6 dL_frames_159 rfl ?_
        refine j_iconst X (v := (-1)) dL_frames_161 (by decide) ?_
        refine j_ixor X dL_frames_162 ?_
        refine j_iand X dL_frames_163 ?_
        refine j_if_eq X (tgt := 169) dL_frames_164 (by decide) (fun c_164 => ?_) (fun c_164 => absurd f5 c_164)
        have k236_2 : J P l E { frames := 6, cells := 2, slots := 16, locals := 148 } S0 M0 AR BL ME CO D B 17 (MQ BL (QC (some (.int 1)) D B (z + 2) (xput D h b S2)) AR S0 2 16 (aB B)) ((0 + 1) + 1) ((0 + 8) + 8) ((z + 1) + 1) (xput D (hupd (hupd h z (arrE D 8 (aF S1 8))) (z + 1) (arrE D 8 (cF S1 8))) b S2) [(13, .int 0), (12, .int (nI d)), (11, .int (xCount S1 11)), (10, .int (xPort S1 (nI k) 7)), (9, .int (xWhere S1 (nI a))), (8, .int w), (7, .int (wb (ob (S.1 0)) 8)), (6, .ref (z + 1)), (5, .ref z), (0, .ref b), (1, .int (nI k)), (2, .int (nI a)), (3, .int (nI c)), (4, .int (nI pr))] [] 236 := by
          have k328_3 : J P l E { frames := 6, cells := 2, slots := 16, locals := 148 } S0 M0 AR BL ME CO D B 17 (MQ BL (QC (some (.int 1)) D B (z + 2) (xput D h b S2)) AR S0 2 16 (aB B)) ((0 + 1) + 1) ((0 + 8) + 8) ((z + 1) + 1) (xput D (hupd (hupd h z (arrE D 8 (aF S1 8))) (z + 1) (arrE D 8 (cF S1 8))) b S2) [(13, .int 0), (12, .int (nI d)), (11, .int (xCount S1 11)), (10, .int (xPort S1 (nI k) 7)), (9, .int (xWhere S1 (nI a))), (8, .int w), (7, .int (wb (ob (S.1 0)) 8)), (6, .ref (z + 1)), (5, .ref z), (0, .ref b), (1, .int (nI k)), (2, .int (nI a)), (3, .int (nI c)), (4, .int (nI pr))] [] 328 := by
            have k363_4 : J P l E { frames := 6, cells := 2, slots := 16, locals := 148 } S0 M0 AR BL ME CO D B 17 (MQ BL (QC (some (.int 1)) D B (z + 2) (xput D h b S2)) AR S0 2 16 (aB B)) ((0 + 1) + 1) ((0 + 8) + 8) ((z + 1) + 1) (xput D (hupd (hupd h z (arrE D 8 (aF S1 8))) (z + 1) (arrE D 8 (cF S1 8))) b S2) [(13, .int 0), (12, .int (nI d)), (11, .int (xCount S1 11)), (10, .int (xPort S1 (nI k) 7)), (9, .int (xWhere S1 (nI a))), (8, .int w), (7, .int (wb (ob (S.1 0)) 8)), (6, .ref (z + 1)), (5, .ref z), (0, .ref b), (1, .int (nI k)), (2, .int (nI a)), (3, .int (nI c)), (4, .int (nI pr))] [] 363 := by
              refine j_iconst X (v := 0) dL_frames_363 (by decide) ?_
              refine j_istore X (L' := [(14, .int 0), (13, .int 0), (12, .int (nI d)), (11, .int (xCount S1 11)), (10, .int (xPort S1 (nI k) 7)), (9, .int (xWhere S1 (nI a))), (8, .int w), (7, .int (wb (ob (S.1 0)) 8)), (6, .ref (z + 1)), (5, .ref z), (0, .ref b), (1, .int (nI k)), (2, .int (nI a)), (3, .int (nI c)), (4, .int (nI pr))]) dL_frames_364 (by decide) rfl ?_
              have loop366_5 : ∀ (n j : Nat), j + n = 8 → J P l E { frames := 6, cells := 2, slots := 16, locals := 148 } S0 M0 AR BL ME CO D B 17 (MQ BL (QC (some (.int 1)) D B (z + 2) (xput D h b S2)) AR S0 2 16 (aB B)) ((0 + 1) + 1) ((0 + 8) + 8) ((z + 1) + 1) (xput D (hupd (hupd h z (arrE D 8 (aF S1 8))) (z + 1) (arrE D 8 (cF S1 8))) b S2) [(0, .ref b), (5, .ref z), (6, .ref (z + 1)), (8, .int w), (14, .int (nI j))] [] 366 := by
                intro n
                induction n with
                | zero =>
                  intro j hj
                  obtain rfl : j = 8 := by omega
                  refine j_iload X 4 dL_frames_366 rfl ?_
                  refine j_bipush X (v := 8) dL_frames_368 (by decide) ?_
                  refine j_icmp_ge X (tgt := 470) dL_frames_370 (by decide) (fun c_370 => ?_) (fun c_370 => absurd c_370 (by decide))
                  refine j_iconst X (v := 1) dL_frames_470 (by decide) ?_
                  refine j_less (xput_less2 hz hz1 (by omega)) ?_
                  exact j_iret X hr rfl rfl rfl rfl dL_frames_471
                | succ n ih =>
                  intro j hj
                  have hlt : nI j < 8 := nlt_lit (b := 8) (by omega) (by decide)
                  have hq := fq j (by omega)
                  refine j_iload X 4 dL_frames_366 rfl ?_
                  refine j_bipush X (v := 8) dL_frames_368 (by decide) ?_
                  refine j_icmp_ge X (tgt := 470) dL_frames_370 (by decide) (fun c_370 => absurd hlt c_370) (fun c_370 => ?_)
                  refine j_aload_n X 0 dL_frames_373 rfl rfl ?_
                  refine j_iload X 4 dL_frames_374 rfl ?_
                  refine j_iconst X (v := 5) dL_frames_376 (by decide) ?_
                  refine j_callVi X (rest := []) (c_X9_port l) m_yX9_port kM_RL_19 xput_0 rfl rfl rfl rfl rfl (Nat.le_of_ble_eq_true rfl) ⟨Nat.le_of_ble_eq_true rfl, Nat.le_of_ble_eq_true rfl, Nat.le_of_ble_eq_true rfl, Nat.le_of_ble_eq_true rfl⟩ dL_frames_377 ?_
                  refine j_aload X 1 dL_frames_380 rfl ?_
                  refine j_iload X 4 dL_frames_382 rfl ?_
                  refine j_iald X (xput_at hbz ((hupd_ne (by omega)).trans hupd_same)) rfl (vp_in_nI (by omega) (by decide)) dL_frames_384 ?_
                  refine j_isub X dL_frames_385 ?_
                  refine j_istore X (L' := [(15, .int ((xPort S2 (nI j) 5) - ((aF S1 8) (nI j).toNatClampNeg))), (0, .ref b), (5, .ref z), (6, .ref (z + 1)), (8, .int w), (14, .int (nI j))]) dL_frames_386 (by decide) rfl ?_
                  refine j_aload_n X 1 dL_frames_388 rfl rfl ?_
                  refine j_iload X 5 dL_frames_389 rfl ?_
                  refine j_bipush X (v := 8) dL_frames_391 (by decide) ?_
                  refine j_callVi X (rest := []) (c_X9_account l) m_yX9_account kM_RL_23 xput_0 rfl rfl rfl rfl rfl (Nat.le_of_ble_eq_true rfl) ⟨Nat.le_of_ble_eq_true rfl, Nat.le_of_ble_eq_true rfl, Nat.le_of_ble_eq_true rfl, Nat.le_of_ble_eq_true rfl⟩ dL_frames_393 ?_
                  refine j_aload X 3 dL_frames_396 rfl ?_
                  refine j_iload X 5 dL_frames_398 rfl ?_
                  refine j_iald X (xput_at (by omega) hupd_same) rfl (vp_in_nI (by omega) (by decide)) dL_frames_400 ?_
                  refine j_isub X dL_frames_401 ?_
                  refine j_istore X (L' := [(16, .int ((xAccount S2 (nI j) 8) - ((cF S1 8) (nI j).toNatClampNeg))), (15, .int ((xPort S2 (nI j) 5) - ((aF S1 8) (nI j).toNatClampNeg))), (0, .ref b), (5, .ref z), (6, .ref (z + 1)), (8, .int w), (14, .int (nI j))]) dL_frames_402 (by decide) rfl ?_
                  refine j_iload X 5 dL_frames_404 rfl ?_
                  refine j_iload X 6 dL_frames_406 rfl ?_
                  refine j_ishr X dL_frames_408 ?_
                  refine j_iconst X (v := 1) dL_frames_409 (by decide) ?_
                  refine j_iand X dL_frames_410 ?_
                  refine j_if_ne X (tgt := 427) dL_frames_411 (by decide) (fun c_411 => ?_) (fun c_411 => ?_)
                  · refine j_aload X 3 dL_frames_427 rfl ?_
                    refine j_iload X 6 dL_frames_429 rfl ?_
                    refine j_iald X (xput_at hbz ((hupd_ne (by omega)).trans hupd_same)) rfl (vp_in_nI (by omega) (by decide)) dL_frames_431 ?_
                    refine j_bipush X (v := 12) dL_frames_432 (by decide) ?_
                    refine j_icmp_ne X (tgt := 451) dL_frames_434 (by decide) (fun c_434 => ?_) (fun c_434 => ?_)
                    · refine j_iload X 1 dL_frames_451 rfl ?_
                      refine j_iconst X (v := 1) dL_frames_453 (by decide) ?_
                      refine j_icmp_ne X (tgt := 462) dL_frames_454 (by decide) (fun c_454 => absurd ((hq.2 c_411).2 c_434).1 c_454) (fun c_454 => ?_)
                      refine j_iload X 0 dL_frames_457 rfl ?_
                      refine j_if_eq X (tgt := 464) dL_frames_459 (by decide) (fun c_459 => ?_) (fun c_459 => absurd ((hq.2 c_411).2 c_434).2 c_459)
                      refine j_iinc X 6 (k := 1) (v := (nI (j + 1))) (L' := [(14, .int (nI (j + 1))), (16, .int ((xAccount S2 (nI j) 8) - ((cF S1 8) (nI j).toNatClampNeg))), (15, .int ((xPort S2 (nI j) 5) - ((aF S1 8) (nI j).toNatClampNeg))), (0, .ref b), (5, .ref z), (6, .ref (z + 1)), (8, .int w)]) dL_frames_464 rfl (by decide) (by decide) (nI_succ j).symm rfl ?_
                      refine j_goto X (tgt := 366) dL_frames_467 (by decide) ?_
                      refine j_sub [3, 4, 5, 6, 0] (L' := [(0, .ref b), (5, .ref z), (6, .ref (z + 1)), (8, .int w), (14, .int (nI (j + 1)))]) rfl ?_
                      exact ih (j + 1) (by omega)
                    · refine j_iload X 1 dL_frames_437 rfl ?_
                      refine j_if_ne X (tgt := 462) dL_frames_439 (by decide) (fun c_439 => absurd ((hq.2 c_411).1 c_434).1 c_439) (fun c_439 => ?_)
                      refine j_iload X 0 dL_frames_442 rfl ?_
                      refine j_iconst X (v := 1) dL_frames_444 (by decide) ?_
                      refine j_icmp_eq X (tgt := 464) dL_frames_445 (by decide) (fun c_445 => ?_) (fun c_445 => absurd ((hq.2 c_411).1 c_434).2 c_445)
                      refine j_iinc X 6 (k := 1) (v := (nI (j + 1))) (L' := [(14, .int (nI (j + 1))), (16, .int ((xAccount S2 (nI j) 8) - ((cF S1 8) (nI j).toNatClampNeg))), (15, .int ((xPort S2 (nI j) 5) - ((aF S1 8) (nI j).toNatClampNeg))), (0, .ref b), (5, .ref z), (6, .ref (z + 1)), (8, .int w)]) dL_frames_464 rfl (by decide) (by decide) (nI_succ j).symm rfl ?_
                      refine j_goto X (tgt := 366) dL_frames_467 (by decide) ?_
                      refine j_sub [3, 4, 5, 6, 0] (L' := [(0, .ref b), (5, .ref z), (6, .ref (z + 1)), (8, .int w), (14, .int (nI (j + 1)))]) rfl ?_
                      exact ih (j + 1) (by omega)
                  · refine j_iload X 1 dL_frames_414 rfl ?_
                    refine j_if_ne X (tgt := 462) dL_frames_416 (by decide) (fun c_416 => absurd (hq.1 c_411).1 c_416) (fun c_416 => ?_)
                    refine j_iload X 0 dL_frames_419 rfl ?_
                    refine j_if_eq X (tgt := 464) dL_frames_421 (by decide) (fun c_421 => ?_) (fun c_421 => absurd (hq.1 c_411).2 c_421)
                    refine j_iinc X 6 (k := 1) (v := (nI (j + 1))) (L' := [(14, .int (nI (j + 1))), (16, .int ((xAccount S2 (nI j) 8) - ((cF S1 8) (nI j).toNatClampNeg))), (15, .int ((xPort S2 (nI j) 5) - ((aF S1 8) (nI j).toNatClampNeg))), (0, .ref b), (5, .ref z), (6, .ref (z + 1)), (8, .int w)]) dL_frames_464 rfl (by decide) (by decide) (nI_succ j).symm rfl ?_
                    refine j_goto X (tgt := 366) dL_frames_467 (by decide) ?_
                    refine j_sub [3, 4, 5, 6, 0] (L' := [(0, .ref b), (5, .ref z), (6, .ref (z + 1)), (8, .int w), (14, .int (nI (j + 1)))]) rfl ?_
                    exact ih (j + 1) (by omega)
              refine j_sub [10, 9, 8, 6, 0] (L' := [(0, .ref b), (5, .ref z), (6, .ref (z + 1)), (8, .int w), (14, .int (nI 0))]) rfl ?_
              exact loop366_5 8 0 (by omega)
            refine j_iload X 1 dL_frames_328 rfl ?_
            refine j_iconst X (v := 4) dL_frames_330 (by decide) ?_
            refine j_icmp_ne X (tgt := 345) dL_frames_331 (by decide) (fun c_331 => ?_) (fun c_331 => ?_)
            · refine j_iload X 1 dL_frames_345 rfl ?_
              refine j_iconst X (v := 5) dL_frames_347 (by decide) ?_
              refine j_icmp_ne X (tgt := 363) dL_frames_348 (by decide) (fun c_348 => ?_) (fun c_348 => ?_)
              · refine j_sub [0, 1, 2, 3, 4, 5, 6, 7, 8, 9, 10, 11, 12, 13] (L' := [(13, .int 0), (12, .int (nI d)), (11, .int (xCount S1 11)), (10, .int (xPort S1 (nI k) 7)), (9, .int (xWhere S1 (nI a))), (8, .int w), (7, .int (wb (ob (S.1 0)) 8)), (6, .ref (z + 1)), (5, .ref z), (0, .ref b), (1, .int (nI k)), (2, .int (nI a)), (3, .int (nI c)), (4, .int (nI pr))]) rfl ?_
                exact k363_4
              · refine j_iload X 3 dL_frames_351 rfl ?_
                refine j_aload_n X 9 dL_frames_353 rfl rfl ?_
                refine j_iconst X (v := 2) dL_frames_354 (by decide) ?_
                refine j_callVi X (rest := [.int (xPort S1 (nI k) 7)]) (c_X9_count l) m_yX9_count kM_RL_13 xput_0 rfl rfl rfl rfl rfl (Nat.le_of_ble_eq_true rfl) ⟨Nat.le_of_ble_eq_true rfl, Nat.le_of_ble_eq_true rfl, Nat.le_of_ble_eq_true rfl, Nat.le_of_ble_eq_true rfl⟩ dL_frames_355 ?_
                refine j_icmp_ge X (tgt := 363) dL_frames_358 (by decide) (fun c_358 => ?_) (fun c_358 => absurd c_358 (f8 c_348))
                refine j_sub [0, 1, 2, 3, 4, 5, 6, 7, 8, 9, 10, 11, 12, 13] (L' := [(13, .int 0), (12, .int (nI d)), (11, .int (xCount S1 11)), (10, .int (xPort S1 (nI k) 7)), (9, .int (xWhere S1 (nI a))), (8, .int w), (7, .int (wb (ob (S.1 0)) 8)), (6, .ref (z + 1)), (5, .ref z), (0, .ref b), (1, .int (nI k)), (2, .int (nI a)), (3, .int (nI c)), (4, .int (nI pr))]) rfl ?_
                exact k363_4
            · refine j_iload X 4 dL_frames_334 rfl ?_
              refine j_if_lt X (tgt := 361) dL_frames_336 (by decide) (fun c_336 => absurd c_336 (f7 c_331).1) (fun c_336 => ?_)
              refine j_iload X 4 dL_frames_339 rfl ?_
              refine j_iload_n X 10 dL_frames_341 rfl rfl ?_
              refine j_icmp_eq X (tgt := 361) dL_frames_342 (by decide) (fun c_342 => absurd c_342 (f7 c_331).2) (fun c_342 => ?_)
              refine j_iload X 1 dL_frames_345 rfl ?_
              refine j_iconst X (v := 5) dL_frames_347 (by decide) ?_
              refine j_icmp_ne X (tgt := 363) dL_frames_348 (by decide) (fun c_348 => ?_) (fun c_348 => ?_)
              · refine j_sub [0, 1, 2, 3, 4, 5, 6, 7, 8, 9, 10, 11, 12, 13] (L' := [(13, .int 0), (12, .int (nI d)), (11, .int (xCount S1 11)), (10, .int (xPort S1 (nI k) 7)), (9, .int (xWhere S1 (nI a))), (8, .int w), (7, .int (wb (ob (S.1 0)) 8)), (6, .ref (z + 1)), (5, .ref z), (0, .ref b), (1, .int (nI k)), (2, .int (nI a)), (3, .int (nI c)), (4, .int (nI pr))]) rfl ?_
                exact k363_4
              · refine j_iload X 3 dL_frames_351 rfl ?_
                refine j_aload_n X 9 dL_frames_353 rfl rfl ?_
                refine j_iconst X (v := 2) dL_frames_354 (by decide) ?_
                refine j_callVi X (rest := [.int (xPort S1 (nI k) 7)]) (c_X9_count l) m_yX9_count kM_RL_13 xput_0 rfl rfl rfl rfl rfl (Nat.le_of_ble_eq_true rfl) ⟨Nat.le_of_ble_eq_true rfl, Nat.le_of_ble_eq_true rfl, Nat.le_of_ble_eq_true rfl, Nat.le_of_ble_eq_true rfl⟩ dL_frames_355 ?_
                refine j_icmp_ge X (tgt := 363) dL_frames_358 (by decide) (fun c_358 => ?_) (fun c_358 => absurd c_358 (f8 c_348))
                refine j_sub [0, 1, 2, 3, 4, 5, 6, 7, 8, 9, 10, 11, 12, 13] (L' := [(13, .int 0), (12, .int (nI d)), (11, .int (xCount S1 11)), (10, .int (xPort S1 (nI k) 7)), (9, .int (xWhere S1 (nI a))), (8, .int w), (7, .int (wb (ob (S.1 0)) 8)), (6, .ref (z + 1)), (5, .ref z), (0, .ref b), (1, .int (nI k)), (2, .int (nI a)), (3, .int (nI c)), (4, .int (nI pr))]) rfl ?_
                exact k363_4
          refine j_iload X 1 dL_frames_236 rfl ?_
          refine j_iconst X (v := 4) dL_frames_238 (by decide) ?_
          refine j_icmp_eq X (tgt := 248) dL_frames_239 (by decide) (fun c_239 => ?_) (fun c_239 => ?_)
          · refine j_aload_n X 9 dL_frames_248 rfl rfl ?_
            refine j_iload_n X 10 dL_frames_249 rfl rfl ?_
            refine j_iconst X (v := 2) dL_frames_250 (by decide) ?_
            refine j_callVi X (rest := []) (c_X9_port l) m_yX9_port kM_RL_19 xput_0 rfl rfl rfl rfl rfl (Nat.le_of_ble_eq_true rfl) ⟨Nat.le_of_ble_eq_true rfl, Nat.le_of_ble_eq_true rfl, Nat.le_of_ble_eq_true rfl, Nat.le_of_ble_eq_true rfl⟩ dL_frames_251 ?_
            refine j_aload_n X 9 dL_frames_254 rfl rfl ?_
            refine j_iconst X (v := 1) dL_frames_255 (by decide) ?_
            refine j_callVi X (rest := [.int (xPort S2 (nI k) 2)]) (c_X9_count l) m_yX9_count kM_RL_13 xput_0 rfl rfl rfl rfl rfl (Nat.le_of_ble_eq_true rfl) ⟨Nat.le_of_ble_eq_true rfl, Nat.le_of_ble_eq_true rfl, Nat.le_of_ble_eq_true rfl, Nat.le_of_ble_eq_true rfl⟩ dL_frames_256 ?_
            refine j_icmp_ne X (tgt := 326) dL_frames_259 (by decide) (fun c_259 => absurd (f6 (Or.inl c_239)).1 c_259) (fun c_259 => ?_)
            refine j_aload_n X 9 dL_frames_262 rfl rfl ?_
            refine j_iload_n X 10 dL_frames_263 rfl rfl ?_
            refine j_iconst X (v := 3) dL_frames_264 (by decide) ?_
            refine j_callVi X (rest := []) (c_X9_port l) m_yX9_port kM_RL_19 xput_0 rfl rfl rfl rfl rfl (Nat.le_of_ble_eq_true rfl) ⟨Nat.le_of_ble_eq_true rfl, Nat.le_of_ble_eq_true rfl, Nat.le_of_ble_eq_true rfl, Nat.le_of_ble_eq_true rfl⟩ dL_frames_265 ?_
            refine j_iload X 1 dL_frames_268 rfl ?_
            refine j_iconst X (v := 3) dL_frames_270 (by decide) ?_
            refine j_isub X dL_frames_271 ?_
            refine j_icmp_ne X (tgt := 326) dL_frames_272 (by decide) (fun c_272 => absurd (f6 (Or.inl c_239)).2.1 c_272) (fun c_272 => ?_)
            refine j_aload_n X 9 dL_frames_275 rfl rfl ?_
            refine j_bipush X (v := 11) dL_frames_276 (by decide) ?_
            refine j_callVi X (rest := []) (c_X9_count l) m_yX9_count kM_RL_13 xput_0 rfl rfl rfl rfl rfl (Nat.le_of_ble_eq_true rfl) ⟨Nat.le_of_ble_eq_true rfl, Nat.le_of_ble_eq_true rfl, Nat.le_of_ble_eq_true rfl, Nat.le_of_ble_eq_true rfl⟩ dL_frames_278 ?_
            refine j_iload X 2 dL_frames_281 rfl ?_
            refine j_iconst X (v := 1) dL_frames_283 (by decide) ?_
            refine j_iadd X dL_frames_284 ?_
            refine j_icmp_ne X (tgt := 326) dL_frames_285 (by decide) (fun c_285 => absurd (f6 (Or.inl c_239)).2.2.1 c_285) (fun c_285 => ?_)
            refine j_aload_n X 9 dL_frames_288 rfl rfl ?_
            refine j_iload_n X 10 dL_frames_289 rfl rfl ?_
            refine j_bipush X (v := 6) dL_frames_290 (by decide) ?_
            refine j_callVi X (rest := []) (c_X9_port l) m_yX9_port kM_RL_19 xput_0 rfl rfl rfl rfl rfl (Nat.le_of_ble_eq_true rfl) ⟨Nat.le_of_ble_eq_true rfl, Nat.le_of_ble_eq_true rfl, Nat.le_of_ble_eq_true rfl, Nat.le_of_ble_eq_true rfl⟩ dL_frames_292 ?_
            refine j_if_eq X (tgt := 328) dL_frames_295 (by decide) (fun c_295 => ?_) (fun c_295 => absurd (f6 (Or.inl c_239)).2.2.2 c_295)
            refine j_sub [0, 1, 2, 3, 4, 5, 6, 7, 8, 9, 10, 11, 12, 13] (L' := [(13, .int 0), (12, .int (nI d)), (11, .int (xCount S1 11)), (10, .int (xPort S1 (nI k) 7)), (9, .int (xWhere S1 (nI a))), (8, .int w), (7, .int (wb (ob (S.1 0)) 8)), (6, .ref (z + 1)), (5, .ref z), (0, .ref b), (1, .int (nI k)), (2, .int (nI a)), (3, .int (nI c)), (4, .int (nI pr))]) rfl ?_
            exact k328_3
          · refine j_iload X 1 dL_frames_242 rfl ?_
            refine j_iconst X (v := 5) dL_frames_244 (by decide) ?_
            refine j_icmp_ne X (tgt := 301) dL_frames_245 (by decide) (fun c_245 => ?_) (fun c_245 => ?_)
            · refine j_aload_n X 9 dL_frames_301 rfl rfl ?_
              refine j_bipush X (v := 11) dL_frames_302 (by decide) ?_
              refine j_callVi X (rest := []) (c_X9_count l) m_yX9_count kM_RL_13 xput_0 rfl rfl rfl rfl rfl (Nat.le_of_ble_eq_true rfl) ⟨Nat.le_of_ble_eq_true rfl, Nat.le_of_ble_eq_true rfl, Nat.le_of_ble_eq_true rfl, Nat.le_of_ble_eq_true rfl⟩ dL_frames_304 ?_
              refine j_iload X 2 dL_frames_307 rfl ?_
              refine j_icmp_ne X (tgt := 326) dL_frames_309 (by decide) (fun c_309 => absurd (f6n c_239 c_245).1 c_309) (fun c_309 => ?_)
              refine j_iload X 0 dL_frames_312 rfl ?_
              refine j_if_eq X (tgt := 328) dL_frames_314 (by decide) (fun _ => ?_) (fun c_ => absurd (by decide) c_)
              refine j_sub [0, 1, 2, 3, 4, 5, 6, 7, 8, 9, 10, 11, 12, 13] (L' := [(13, .int 0), (12, .int (nI d)), (11, .int (xCount S1 11)), (10, .int (xPort S1 (nI k) 7)), (9, .int (xWhere S1 (nI a))), (8, .int w), (7, .int (wb (ob (S.1 0)) 8)), (6, .ref (z + 1)), (5, .ref z), (0, .ref b), (1, .int (nI k)), (2, .int (nI a)), (3, .int (nI c)), (4, .int (nI pr))]) rfl ?_
              exact k328_3
            · refine j_aload_n X 9 dL_frames_248 rfl rfl ?_
              refine j_iload_n X 10 dL_frames_249 rfl rfl ?_
              refine j_iconst X (v := 2) dL_frames_250 (by decide) ?_
              refine j_callVi X (rest := []) (c_X9_port l) m_yX9_port kM_RL_19 xput_0 rfl rfl rfl rfl rfl (Nat.le_of_ble_eq_true rfl) ⟨Nat.le_of_ble_eq_true rfl, Nat.le_of_ble_eq_true rfl, Nat.le_of_ble_eq_true rfl, Nat.le_of_ble_eq_true rfl⟩ dL_frames_251 ?_
              refine j_aload_n X 9 dL_frames_254 rfl rfl ?_
              refine j_iconst X (v := 1) dL_frames_255 (by decide) ?_
              refine j_callVi X (rest := [.int (xPort S2 (nI k) 2)]) (c_X9_count l) m_yX9_count kM_RL_13 xput_0 rfl rfl rfl rfl rfl (Nat.le_of_ble_eq_true rfl) ⟨Nat.le_of_ble_eq_true rfl, Nat.le_of_ble_eq_true rfl, Nat.le_of_ble_eq_true rfl, Nat.le_of_ble_eq_true rfl⟩ dL_frames_256 ?_
              refine j_icmp_ne X (tgt := 326) dL_frames_259 (by decide) (fun c_259 => absurd (f6 (Or.inr c_245)).1 c_259) (fun c_259 => ?_)
              refine j_aload_n X 9 dL_frames_262 rfl rfl ?_
              refine j_iload_n X 10 dL_frames_263 rfl rfl ?_
              refine j_iconst X (v := 3) dL_frames_264 (by decide) ?_
              refine j_callVi X (rest := []) (c_X9_port l) m_yX9_port kM_RL_19 xput_0 rfl rfl rfl rfl rfl (Nat.le_of_ble_eq_true rfl) ⟨Nat.le_of_ble_eq_true rfl, Nat.le_of_ble_eq_true rfl, Nat.le_of_ble_eq_true rfl, Nat.le_of_ble_eq_true rfl⟩ dL_frames_265 ?_
              refine j_iload X 1 dL_frames_268 rfl ?_
              refine j_iconst X (v := 3) dL_frames_270 (by decide) ?_
              refine j_isub X dL_frames_271 ?_
              refine j_icmp_ne X (tgt := 326) dL_frames_272 (by decide) (fun c_272 => absurd (f6 (Or.inr c_245)).2.1 c_272) (fun c_272 => ?_)
              refine j_aload_n X 9 dL_frames_275 rfl rfl ?_
              refine j_bipush X (v := 11) dL_frames_276 (by decide) ?_
              refine j_callVi X (rest := []) (c_X9_count l) m_yX9_count kM_RL_13 xput_0 rfl rfl rfl rfl rfl (Nat.le_of_ble_eq_true rfl) ⟨Nat.le_of_ble_eq_true rfl, Nat.le_of_ble_eq_true rfl, Nat.le_of_ble_eq_true rfl, Nat.le_of_ble_eq_true rfl⟩ dL_frames_278 ?_
              refine j_iload X 2 dL_frames_281 rfl ?_
              refine j_iconst X (v := 1) dL_frames_283 (by decide) ?_
              refine j_iadd X dL_frames_284 ?_
              refine j_icmp_ne X (tgt := 326) dL_frames_285 (by decide) (fun c_285 => absurd (f6 (Or.inr c_245)).2.2.1 c_285) (fun c_285 => ?_)
              refine j_aload_n X 9 dL_frames_288 rfl rfl ?_
              refine j_iload_n X 10 dL_frames_289 rfl rfl ?_
              refine j_bipush X (v := 6) dL_frames_290 (by decide) ?_
              refine j_callVi X (rest := []) (c_X9_port l) m_yX9_port kM_RL_19 xput_0 rfl rfl rfl rfl rfl (Nat.le_of_ble_eq_true rfl) ⟨Nat.le_of_ble_eq_true rfl, Nat.le_of_ble_eq_true rfl, Nat.le_of_ble_eq_true rfl, Nat.le_of_ble_eq_true rfl⟩ dL_frames_292 ?_
              refine j_if_eq X (tgt := 328) dL_frames_295 (by decide) (fun c_295 => ?_) (fun c_295 => absurd (f6 (Or.inr c_245)).2.2.2 c_295)
              refine j_sub [0, 1, 2, 3, 4, 5, 6, 7, 8, 9, 10, 11, 12, 13] (L' := [(13, .int 0), (12, .int (nI d)), (11, .int (xCount S1 11)), (10, .int (xPort S1 (nI k) 7)), (9, .int (xWhere S1 (nI a))), (8, .int w), (7, .int (wb (ob (S.1 0)) 8)), (6, .ref (z + 1)), (5, .ref z), (0, .ref b), (1, .int (nI k)), (2, .int (nI a)), (3, .int (nI c)), (4, .int (nI pr))]) rfl ?_
              exact k328_3
        refine j_iload X 1 dL_frames_169 rfl ?_
        refine j_iconst X (v := 3) dL_frames_171 (by decide) ?_
        refine j_icmp_ne X (tgt := 205) dL_frames_172 (by decide) (fun c_172 => ?_) (fun c_172 => ?_)
        · refine j_iload X 1 dL_frames_205 rfl ?_
          refine j_iconst X (v := 2) dL_frames_207 (by decide) ?_
          refine j_icmp_ne X (tgt := 229) dL_frames_208 (by decide) (fun c_208 => ?_) (fun c_208 => ?_)
          · refine j_iload X 5 dL_frames_229 rfl ?_
            refine j_if_eq X (tgt := 236) dL_frames_231 (by decide) (fun c_231 => ?_) (fun c_231 => absurd (f0 c_172 c_208) c_231)
            refine j_sub [0, 1, 2, 3, 4, 5, 6, 7, 8, 9, 10, 11, 12, 13] (L' := [(13, .int 0), (12, .int (nI d)), (11, .int (xCount S1 11)), (10, .int (xPort S1 (nI k) 7)), (9, .int (xWhere S1 (nI a))), (8, .int w), (7, .int (wb (ob (S.1 0)) 8)), (6, .ref (z + 1)), (5, .ref z), (0, .ref b), (1, .int (nI k)), (2, .int (nI a)), (3, .int (nI c)), (4, .int (nI pr))]) rfl ?_
            exact k236_2
          · refine j_iload X 5 dL_frames_211 rfl ?_
            refine j_if_eq X (tgt := 234) dL_frames_213 (by decide) (fun c_213 => absurd c_213 (f2 c_208).1) (fun c_213 => ?_)
            refine j_iload X 5 dL_frames_216 rfl ?_
            refine j_iload X 5 dL_frames_218 rfl ?_
            refine j_iconst X (v := 1) dL_frames_220 (by decide) ?_
            refine j_isub X dL_frames_221 ?_
            refine j_iand X dL_frames_222 ?_
            refine j_if_eq X (tgt := 236) dL_frames_223 (by decide) (fun c_223 => ?_) (fun c_223 => absurd (f2 c_208).2 c_223)
            refine j_sub [0, 1, 2, 3, 4, 5, 6, 7, 8, 9, 10, 11, 12, 13] (L' := [(13, .int 0), (12, .int (nI d)), (11, .int (xCount S1 11)), (10, .int (xPort S1 (nI k) 7)), (9, .int (xWhere S1 (nI a))), (8, .int w), (7, .int (wb (ob (S.1 0)) 8)), (6, .ref (z + 1)), (5, .ref z), (0, .ref b), (1, .int (nI k)), (2, .int (nI a)), (3, .int (nI c)), (4, .int (nI pr))]) rfl ?_
            exact k236_2
        · refine j_iload X 5 dL_frames_175 rfl ?_
          refine j_iload X 6 dL_frames_177 rfl ?_
          refine j_iconst X (v := 1) dL_frames_179 (by decide) ?_
          refine j_iload_n X 10 dL_frames_180 rfl rfl ?_
          refine j_ishl X dL_frames_181 ?_
          refine j_iconst X (v := (-1)) dL_frames_182 (by decide) ?_
          refine j_ixor X dL_frames_183 ?_
          refine j_iand X dL_frames_184 ?_
          refine j_icmp_ne X (tgt := 234) dL_frames_185 (by decide) (fun c_185 => absurd (f3 c_172).1 c_185) (fun c_185 => ?_)
          refine j_aload_n X 9 dL_frames_188 rfl rfl ?_
          refine j_iload_n X 10 dL_frames_189 rfl rfl ?_
          refine j_bipush X (v := 7) dL_frames_190 (by decide) ?_
          refine j_callVi X (rest := []) (c_X9_port l) m_yX9_port kM_RL_19 xput_0 rfl rfl rfl rfl rfl (Nat.le_of_ble_eq_true rfl) ⟨Nat.le_of_ble_eq_true rfl, Nat.le_of_ble_eq_true rfl, Nat.le_of_ble_eq_true rfl, Nat.le_of_ble_eq_true rfl⟩ dL_frames_192 ?_
          refine j_iload X 3 dL_frames_195 rfl ?_
          refine j_iconst X (v := 1) dL_frames_197 (by decide) ?_
          refine j_iadd X dL_frames_198 ?_
          refine j_icmp_eq X (tgt := 236) dL_frames_199 (by decide) (fun c_199 => ?_) (fun c_199 => absurd (f3 c_172).2 c_199)
          refine j_sub [0, 1, 2, 3, 4, 5, 6, 7, 8, 9, 10, 11, 12, 13] (L' := [(13, .int 0), (12, .int (nI d)), (11, .int (xCount S1 11)), (10, .int (xPort S1 (nI k) 7)), (9, .int (xWhere S1 (nI a))), (8, .int w), (7, .int (wb (ob (S.1 0)) 8)), (6, .ref (z + 1)), (5, .ref z), (0, .ref b), (1, .int (nI k)), (2, .int (nI a)), (3, .int (nI c)), (4, .int (nI pr))]) rfl ?_
          exact k236_2
      · refine j_iconst X (v := 1) dL_frames_113 (by decide) ?_
        refine j_goto X (tgt := 118) dL_frames_114 (by decide) ?_
        refine j_istore X (L' := [(13, .int 1), (12, .int (nI d)), (11, .int (xCount S1 11)), (10, .int (xPort S1 (nI k) 7)), (9, .int (xWhere S1 (nI a))), (8, .int w), (7, .int (wb (ob (S.1 0)) 8)), (6, .ref (z + 1)), (5, .ref z), (0, .ref b), (1, .int (nI k)), (2, .int (nI a)), (3, .int (nI c)), (4, .int (nI pr))]) dL_frames_118 (by decide) rfl ?_
        refine j_iload X 1 dL_frames_120 rfl ?_
        refine j_if_lt X (tgt := 167) dL_frames_122 (by decide) (fun c_122 => absurd c_122 (nI_pos (by omega))) (fun c_122 => ?_)
        refine j_iload X 1 dL_frames_125 rfl ?_
        refine j_bipush X (v := 6) dL_frames_127 (by decide) ?_
        refine j_icmp_gt X (tgt := 167) dL_frames_129 (by decide) (fun c_129 => absurd c_129 (nI_nlt (a := 6) (b := d) (by omega) (by omega))) (fun c_129 => ?_)
        refine j_iload X 0 dL_frames_132 rfl ?_
        refine j_iload X 1 dL_frames_134 rfl ?_
        refine j_if_ne X (tgt := 143) dL_frames_136 (by decide) (fun c_136 => ?_) (fun c_136 => absurd c_136 (f1.mp c_110))
        refine j_iconst X (v := 0) dL_frames_143 (by decide) ?_
        refine j_icmp_eq X (tgt := 167) dL_frames_144 (by decide) (fun c_ => absurd c_ (by decide)) (fun _ => ?_)
        refine j_iload X 5 dL_frames_147 rfl ?_
        refine j_iload_n X 10 dL_frames_149 rfl rfl ?_
        refine j_ishr X dL_frames_150 ?_
        refine j_iconst X (v := 1) dL_frames_151 (by decide) ?_
        refine j_iand X dL_frames_152 ?_
        refine j_iconst X (v := 1) dL_frames_153 (by decide) ?_
        refine j_icmp_eq X (tgt := 167) dL_frames_154 (by decide) (fun c_154 => absurd c_154 f4) (fun c_154 => ?_)
        refine j_iload X 5 dL_frames_157 rfl ?_
        refine j_iload X 6 dL_frames_159 rfl ?_
        refine j_iconst X (v := (-1)) dL_frames_161 (by decide) ?_
        refine j_ixor X dL_frames_162 ?_
        refine j_iand X dL_frames_163 ?_
        refine j_if_eq X (tgt := 169) dL_frames_164 (by decide) (fun c_164 => ?_) (fun c_164 => absurd f5 c_164)
        have k236_6 : J P l E { frames := 6, cells := 2, slots := 16, locals := 148 } S0 M0 AR BL ME CO D B 17 (MQ BL (QC (some (.int 1)) D B (z + 2) (xput D h b S2)) AR S0 2 16 (aB B)) ((0 + 1) + 1) ((0 + 8) + 8) ((z + 1) + 1) (xput D (hupd (hupd h z (arrE D 8 (aF S1 8))) (z + 1) (arrE D 8 (cF S1 8))) b S2) [(13, .int 1), (12, .int (nI d)), (11, .int (xCount S1 11)), (10, .int (xPort S1 (nI k) 7)), (9, .int (xWhere S1 (nI a))), (8, .int w), (7, .int (wb (ob (S.1 0)) 8)), (6, .ref (z + 1)), (5, .ref z), (0, .ref b), (1, .int (nI k)), (2, .int (nI a)), (3, .int (nI c)), (4, .int (nI pr))] [] 236 := by
          have k328_7 : J P l E { frames := 6, cells := 2, slots := 16, locals := 148 } S0 M0 AR BL ME CO D B 17 (MQ BL (QC (some (.int 1)) D B (z + 2) (xput D h b S2)) AR S0 2 16 (aB B)) ((0 + 1) + 1) ((0 + 8) + 8) ((z + 1) + 1) (xput D (hupd (hupd h z (arrE D 8 (aF S1 8))) (z + 1) (arrE D 8 (cF S1 8))) b S2) [(13, .int 1), (12, .int (nI d)), (11, .int (xCount S1 11)), (10, .int (xPort S1 (nI k) 7)), (9, .int (xWhere S1 (nI a))), (8, .int w), (7, .int (wb (ob (S.1 0)) 8)), (6, .ref (z + 1)), (5, .ref z), (0, .ref b), (1, .int (nI k)), (2, .int (nI a)), (3, .int (nI c)), (4, .int (nI pr))] [] 328 := by
            have k363_8 : J P l E { frames := 6, cells := 2, slots := 16, locals := 148 } S0 M0 AR BL ME CO D B 17 (MQ BL (QC (some (.int 1)) D B (z + 2) (xput D h b S2)) AR S0 2 16 (aB B)) ((0 + 1) + 1) ((0 + 8) + 8) ((z + 1) + 1) (xput D (hupd (hupd h z (arrE D 8 (aF S1 8))) (z + 1) (arrE D 8 (cF S1 8))) b S2) [(13, .int 1), (12, .int (nI d)), (11, .int (xCount S1 11)), (10, .int (xPort S1 (nI k) 7)), (9, .int (xWhere S1 (nI a))), (8, .int w), (7, .int (wb (ob (S.1 0)) 8)), (6, .ref (z + 1)), (5, .ref z), (0, .ref b), (1, .int (nI k)), (2, .int (nI a)), (3, .int (nI c)), (4, .int (nI pr))] [] 363 := by
              refine j_iconst X (v := 0) dL_frames_363 (by decide) ?_
              refine j_istore X (L' := [(14, .int 0), (13, .int 1), (12, .int (nI d)), (11, .int (xCount S1 11)), (10, .int (xPort S1 (nI k) 7)), (9, .int (xWhere S1 (nI a))), (8, .int w), (7, .int (wb (ob (S.1 0)) 8)), (6, .ref (z + 1)), (5, .ref z), (0, .ref b), (1, .int (nI k)), (2, .int (nI a)), (3, .int (nI c)), (4, .int (nI pr))]) dL_frames_364 (by decide) rfl ?_
              have loop366_9 : ∀ (n j : Nat), j + n = 8 → J P l E { frames := 6, cells := 2, slots := 16, locals := 148 } S0 M0 AR BL ME CO D B 17 (MQ BL (QC (some (.int 1)) D B (z + 2) (xput D h b S2)) AR S0 2 16 (aB B)) ((0 + 1) + 1) ((0 + 8) + 8) ((z + 1) + 1) (xput D (hupd (hupd h z (arrE D 8 (aF S1 8))) (z + 1) (arrE D 8 (cF S1 8))) b S2) [(0, .ref b), (5, .ref z), (6, .ref (z + 1)), (8, .int w), (14, .int (nI j))] [] 366 := by
                intro n
                induction n with
                | zero =>
                  intro j hj
                  obtain rfl : j = 8 := by omega
                  refine j_iload X 4 dL_frames_366 rfl ?_
                  refine j_bipush X (v := 8) dL_frames_368 (by decide) ?_
                  refine j_icmp_ge X (tgt := 470) dL_frames_370 (by decide) (fun c_370 => ?_) (fun c_370 => absurd c_370 (by decide))
                  refine j_iconst X (v := 1) dL_frames_470 (by decide) ?_
                  refine j_less (xput_less2 hz hz1 (by omega)) ?_
                  exact j_iret X hr rfl rfl rfl rfl dL_frames_471
                | succ n ih =>
                  intro j hj
                  have hlt : nI j < 8 := nlt_lit (b := 8) (by omega) (by decide)
                  have hq := fq j (by omega)
                  refine j_iload X 4 dL_frames_366 rfl ?_
                  refine j_bipush X (v := 8) dL_frames_368 (by decide) ?_
                  refine j_icmp_ge X (tgt := 470) dL_frames_370 (by decide) (fun c_370 => absurd hlt c_370) (fun c_370 => ?_)
                  refine j_aload_n X 0 dL_frames_373 rfl rfl ?_
                  refine j_iload X 4 dL_frames_374 rfl ?_
                  refine j_iconst X (v := 5) dL_frames_376 (by decide) ?_
                  refine j_callVi X (rest := []) (c_X9_port l) m_yX9_port kM_RL_19 xput_0 rfl rfl rfl rfl rfl (Nat.le_of_ble_eq_true rfl) ⟨Nat.le_of_ble_eq_true rfl, Nat.le_of_ble_eq_true rfl, Nat.le_of_ble_eq_true rfl, Nat.le_of_ble_eq_true rfl⟩ dL_frames_377 ?_
                  refine j_aload X 1 dL_frames_380 rfl ?_
                  refine j_iload X 4 dL_frames_382 rfl ?_
                  refine j_iald X (xput_at hbz ((hupd_ne (by omega)).trans hupd_same)) rfl (vp_in_nI (by omega) (by decide)) dL_frames_384 ?_
                  refine j_isub X dL_frames_385 ?_
                  refine j_istore X (L' := [(15, .int ((xPort S2 (nI j) 5) - ((aF S1 8) (nI j).toNatClampNeg))), (0, .ref b), (5, .ref z), (6, .ref (z + 1)), (8, .int w), (14, .int (nI j))]) dL_frames_386 (by decide) rfl ?_
                  refine j_aload_n X 1 dL_frames_388 rfl rfl ?_
                  refine j_iload X 5 dL_frames_389 rfl ?_
                  refine j_bipush X (v := 8) dL_frames_391 (by decide) ?_
                  refine j_callVi X (rest := []) (c_X9_account l) m_yX9_account kM_RL_23 xput_0 rfl rfl rfl rfl rfl (Nat.le_of_ble_eq_true rfl) ⟨Nat.le_of_ble_eq_true rfl, Nat.le_of_ble_eq_true rfl, Nat.le_of_ble_eq_true rfl, Nat.le_of_ble_eq_true rfl⟩ dL_frames_393 ?_
                  refine j_aload X 3 dL_frames_396 rfl ?_
                  refine j_iload X 5 dL_frames_398 rfl ?_
                  refine j_iald X (xput_at (by omega) hupd_same) rfl (vp_in_nI (by omega) (by decide)) dL_frames_400 ?_
                  refine j_isub X dL_frames_401 ?_
                  refine j_istore X (L' := [(16, .int ((xAccount S2 (nI j) 8) - ((cF S1 8) (nI j).toNatClampNeg))), (15, .int ((xPort S2 (nI j) 5) - ((aF S1 8) (nI j).toNatClampNeg))), (0, .ref b), (5, .ref z), (6, .ref (z + 1)), (8, .int w), (14, .int (nI j))]) dL_frames_402 (by decide) rfl ?_
                  refine j_iload X 5 dL_frames_404 rfl ?_
                  refine j_iload X 6 dL_frames_406 rfl ?_
                  refine j_ishr X dL_frames_408 ?_
                  refine j_iconst X (v := 1) dL_frames_409 (by decide) ?_
                  refine j_iand X dL_frames_410 ?_
                  refine j_if_ne X (tgt := 427) dL_frames_411 (by decide) (fun c_411 => ?_) (fun c_411 => ?_)
                  · refine j_aload X 3 dL_frames_427 rfl ?_
                    refine j_iload X 6 dL_frames_429 rfl ?_
                    refine j_iald X (xput_at hbz ((hupd_ne (by omega)).trans hupd_same)) rfl (vp_in_nI (by omega) (by decide)) dL_frames_431 ?_
                    refine j_bipush X (v := 12) dL_frames_432 (by decide) ?_
                    refine j_icmp_ne X (tgt := 451) dL_frames_434 (by decide) (fun c_434 => ?_) (fun c_434 => ?_)
                    · refine j_iload X 1 dL_frames_451 rfl ?_
                      refine j_iconst X (v := 1) dL_frames_453 (by decide) ?_
                      refine j_icmp_ne X (tgt := 462) dL_frames_454 (by decide) (fun c_454 => absurd ((hq.2 c_411).2 c_434).1 c_454) (fun c_454 => ?_)
                      refine j_iload X 0 dL_frames_457 rfl ?_
                      refine j_if_eq X (tgt := 464) dL_frames_459 (by decide) (fun c_459 => ?_) (fun c_459 => absurd ((hq.2 c_411).2 c_434).2 c_459)
                      refine j_iinc X 6 (k := 1) (v := (nI (j + 1))) (L' := [(14, .int (nI (j + 1))), (16, .int ((xAccount S2 (nI j) 8) - ((cF S1 8) (nI j).toNatClampNeg))), (15, .int ((xPort S2 (nI j) 5) - ((aF S1 8) (nI j).toNatClampNeg))), (0, .ref b), (5, .ref z), (6, .ref (z + 1)), (8, .int w)]) dL_frames_464 rfl (by decide) (by decide) (nI_succ j).symm rfl ?_
                      refine j_goto X (tgt := 366) dL_frames_467 (by decide) ?_
                      refine j_sub [3, 4, 5, 6, 0] (L' := [(0, .ref b), (5, .ref z), (6, .ref (z + 1)), (8, .int w), (14, .int (nI (j + 1)))]) rfl ?_
                      exact ih (j + 1) (by omega)
                    · refine j_iload X 1 dL_frames_437 rfl ?_
                      refine j_if_ne X (tgt := 462) dL_frames_439 (by decide) (fun c_439 => absurd ((hq.2 c_411).1 c_434).1 c_439) (fun c_439 => ?_)
                      refine j_iload X 0 dL_frames_442 rfl ?_
                      refine j_iconst X (v := 1) dL_frames_444 (by decide) ?_
                      refine j_icmp_eq X (tgt := 464) dL_frames_445 (by decide) (fun c_445 => ?_) (fun c_445 => absurd ((hq.2 c_411).1 c_434).2 c_445)
                      refine j_iinc X 6 (k := 1) (v := (nI (j + 1))) (L' := [(14, .int (nI (j + 1))), (16, .int ((xAccount S2 (nI j) 8) - ((cF S1 8) (nI j).toNatClampNeg))), (15, .int ((xPort S2 (nI j) 5) - ((aF S1 8) (nI j).toNatClampNeg))), (0, .ref b), (5, .ref z), (6, .ref (z + 1)), (8, .int w)]) dL_frames_464 rfl (by decide) (by decide) (nI_succ j).symm rfl ?_
                      refine j_goto X (tgt := 366) dL_frames_467 (by decide) ?_
                      refine j_sub [3, 4, 5, 6, 0] (L' := [(0, .ref b), (5, .ref z), (6, .ref (z + 1)), (8, .int w), (14, .int (nI (j + 1)))]) rfl ?_
                      exact ih (j + 1) (by omega)
                  · refine j_iload X 1 dL_frames_414 rfl ?_
                    refine j_if_ne X (tgt := 462) dL_frames_416 (by decide) (fun c_416 => absurd (hq.1 c_411).1 c_416) (fun c_416 => ?_)
                    refine j_iload X 0 dL_frames_419 rfl ?_
                    refine j_if_eq X (tgt := 464) dL_frames_421 (by decide) (fun c_421 => ?_) (fun c_421 => absurd (hq.1 c_411).2 c_421)
                    refine j_iinc X 6 (k := 1) (v := (nI (j + 1))) (L' := [(14, .int (nI (j + 1))), (16, .int ((xAccount S2 (nI j) 8) - ((cF S1 8) (nI j).toNatClampNeg))), (15, .int ((xPort S2 (nI j) 5) - ((aF S1 8) (nI j).toNatClampNeg))), (0, .ref b), (5, .ref z), (6, .ref (z + 1)), (8, .int w)]) dL_frames_464 rfl (by decide) (by decide) (nI_succ j).symm rfl ?_
                    refine j_goto X (tgt := 366) dL_frames_467 (by decide) ?_
                    refine j_sub [3, 4, 5, 6, 0] (L' := [(0, .ref b), (5, .ref z), (6, .ref (z + 1)), (8, .int w), (14, .int (nI (j + 1)))]) rfl ?_
                    exact ih (j + 1) (by omega)
              refine j_sub [10, 9, 8, 6, 0] (L' := [(0, .ref b), (5, .ref z), (6, .ref (z + 1)), (8, .int w), (14, .int (nI 0))]) rfl ?_
              exact loop366_9 8 0 (by omega)
            refine j_iload X 1 dL_frames_328 rfl ?_
            refine j_iconst X (v := 4) dL_frames_330 (by decide) ?_
            refine j_icmp_ne X (tgt := 345) dL_frames_331 (by decide) (fun c_331 => ?_) (fun c_331 => ?_)
            · refine j_iload X 1 dL_frames_345 rfl ?_
              refine j_iconst X (v := 5) dL_frames_347 (by decide) ?_
              refine j_icmp_ne X (tgt := 363) dL_frames_348 (by decide) (fun c_348 => ?_) (fun c_348 => ?_)
              · refine j_sub [0, 1, 2, 3, 4, 5, 6, 7, 8, 9, 10, 11, 12, 13] (L' := [(13, .int 1), (12, .int (nI d)), (11, .int (xCount S1 11)), (10, .int (xPort S1 (nI k) 7)), (9, .int (xWhere S1 (nI a))), (8, .int w), (7, .int (wb (ob (S.1 0)) 8)), (6, .ref (z + 1)), (5, .ref z), (0, .ref b), (1, .int (nI k)), (2, .int (nI a)), (3, .int (nI c)), (4, .int (nI pr))]) rfl ?_
                exact k363_8
              · refine j_iload X 3 dL_frames_351 rfl ?_
                refine j_aload_n X 9 dL_frames_353 rfl rfl ?_
                refine j_iconst X (v := 2) dL_frames_354 (by decide) ?_
                refine j_callVi X (rest := [.int (xPort S1 (nI k) 7)]) (c_X9_count l) m_yX9_count kM_RL_13 xput_0 rfl rfl rfl rfl rfl (Nat.le_of_ble_eq_true rfl) ⟨Nat.le_of_ble_eq_true rfl, Nat.le_of_ble_eq_true rfl, Nat.le_of_ble_eq_true rfl, Nat.le_of_ble_eq_true rfl⟩ dL_frames_355 ?_
                refine j_icmp_ge X (tgt := 363) dL_frames_358 (by decide) (fun c_358 => ?_) (fun c_358 => absurd c_358 (f8 c_348))
                refine j_sub [0, 1, 2, 3, 4, 5, 6, 7, 8, 9, 10, 11, 12, 13] (L' := [(13, .int 1), (12, .int (nI d)), (11, .int (xCount S1 11)), (10, .int (xPort S1 (nI k) 7)), (9, .int (xWhere S1 (nI a))), (8, .int w), (7, .int (wb (ob (S.1 0)) 8)), (6, .ref (z + 1)), (5, .ref z), (0, .ref b), (1, .int (nI k)), (2, .int (nI a)), (3, .int (nI c)), (4, .int (nI pr))]) rfl ?_
                exact k363_8
            · refine j_iload X 4 dL_frames_334 rfl ?_
              refine j_if_lt X (tgt := 361) dL_frames_336 (by decide) (fun c_336 => absurd c_336 (f7 c_331).1) (fun c_336 => ?_)
              refine j_iload X 4 dL_frames_339 rfl ?_
              refine j_iload_n X 10 dL_frames_341 rfl rfl ?_
              refine j_icmp_eq X (tgt := 361) dL_frames_342 (by decide) (fun c_342 => absurd c_342 (f7 c_331).2) (fun c_342 => ?_)
              refine j_iload X 1 dL_frames_345 rfl ?_
              refine j_iconst X (v := 5) dL_frames_347 (by decide) ?_
              refine j_icmp_ne X (tgt := 363) dL_frames_348 (by decide) (fun c_348 => ?_) (fun c_348 => ?_)
              · refine j_sub [0, 1, 2, 3, 4, 5, 6, 7, 8, 9, 10, 11, 12, 13] (L' := [(13, .int 1), (12, .int (nI d)), (11, .int (xCount S1 11)), (10, .int (xPort S1 (nI k) 7)), (9, .int (xWhere S1 (nI a))), (8, .int w), (7, .int (wb (ob (S.1 0)) 8)), (6, .ref (z + 1)), (5, .ref z), (0, .ref b), (1, .int (nI k)), (2, .int (nI a)), (3, .int (nI c)), (4, .int (nI pr))]) rfl ?_
                exact k363_8
              · refine j_iload X 3 dL_frames_351 rfl ?_
                refine j_aload_n X 9 dL_frames_353 rfl rfl ?_
                refine j_iconst X (v := 2) dL_frames_354 (by decide) ?_
                refine j_callVi X (rest := [.int (xPort S1 (nI k) 7)]) (c_X9_count l) m_yX9_count kM_RL_13 xput_0 rfl rfl rfl rfl rfl (Nat.le_of_ble_eq_true rfl) ⟨Nat.le_of_ble_eq_true rfl, Nat.le_of_ble_eq_true rfl, Nat.le_of_ble_eq_true rfl, Nat.le_of_ble_eq_true rfl⟩ dL_frames_355 ?_
                refine j_icmp_ge X (tgt := 363) dL_frames_358 (by decide) (fun c_358 => ?_) (fun c_358 => absurd c_358 (f8 c_348))
                refine j_sub [0, 1, 2, 3, 4, 5, 6, 7, 8, 9, 10, 11, 12, 13] (L' := [(13, .int 1), (12, .int (nI d)), (11, .int (xCount S1 11)), (10, .int (xPort S1 (nI k) 7)), (9, .int (xWhere S1 (nI a))), (8, .int w), (7, .int (wb (ob (S.1 0)) 8)), (6, .ref (z + 1)), (5, .ref z), (0, .ref b), (1, .int (nI k)), (2, .int (nI a)), (3, .int (nI c)), (4, .int (nI pr))]) rfl ?_
                exact k363_8
          refine j_iload X 1 dL_frames_236 rfl ?_
          refine j_iconst X (v := 4) dL_frames_238 (by decide) ?_
          refine j_icmp_eq X (tgt := 248) dL_frames_239 (by decide) (fun c_239 => ?_) (fun c_239 => ?_)
          · refine j_aload_n X 9 dL_frames_248 rfl rfl ?_
            refine j_iload_n X 10 dL_frames_249 rfl rfl ?_
            refine j_iconst X (v := 2) dL_frames_250 (by decide) ?_
            refine j_callVi X (rest := []) (c_X9_port l) m_yX9_port kM_RL_19 xput_0 rfl rfl rfl rfl rfl (Nat.le_of_ble_eq_true rfl) ⟨Nat.le_of_ble_eq_true rfl, Nat.le_of_ble_eq_true rfl, Nat.le_of_ble_eq_true rfl, Nat.le_of_ble_eq_true rfl⟩ dL_frames_251 ?_
            refine j_aload_n X 9 dL_frames_254 rfl rfl ?_
            refine j_iconst X (v := 1) dL_frames_255 (by decide) ?_
            refine j_callVi X (rest := [.int (xPort S2 (nI k) 2)]) (c_X9_count l) m_yX9_count kM_RL_13 xput_0 rfl rfl rfl rfl rfl (Nat.le_of_ble_eq_true rfl) ⟨Nat.le_of_ble_eq_true rfl, Nat.le_of_ble_eq_true rfl, Nat.le_of_ble_eq_true rfl, Nat.le_of_ble_eq_true rfl⟩ dL_frames_256 ?_
            refine j_icmp_ne X (tgt := 326) dL_frames_259 (by decide) (fun c_259 => absurd (f6 (Or.inl c_239)).1 c_259) (fun c_259 => ?_)
            refine j_aload_n X 9 dL_frames_262 rfl rfl ?_
            refine j_iload_n X 10 dL_frames_263 rfl rfl ?_
            refine j_iconst X (v := 3) dL_frames_264 (by decide) ?_
            refine j_callVi X (rest := []) (c_X9_port l) m_yX9_port kM_RL_19 xput_0 rfl rfl rfl rfl rfl (Nat.le_of_ble_eq_true rfl) ⟨Nat.le_of_ble_eq_true rfl, Nat.le_of_ble_eq_true rfl, Nat.le_of_ble_eq_true rfl, Nat.le_of_ble_eq_true rfl⟩ dL_frames_265 ?_
            refine j_iload X 1 dL_frames_268 rfl ?_
            refine j_iconst X (v := 3) dL_frames_270 (by decide) ?_
            refine j_isub X dL_frames_271 ?_
            refine j_icmp_ne X (tgt := 326) dL_frames_272 (by decide) (fun c_272 => absurd (f6 (Or.inl c_239)).2.1 c_272) (fun c_272 => ?_)
            refine j_aload_n X 9 dL_frames_275 rfl rfl ?_
            refine j_bipush X (v := 11) dL_frames_276 (by decide) ?_
            refine j_callVi X (rest := []) (c_X9_count l) m_yX9_count kM_RL_13 xput_0 rfl rfl rfl rfl rfl (Nat.le_of_ble_eq_true rfl) ⟨Nat.le_of_ble_eq_true rfl, Nat.le_of_ble_eq_true rfl, Nat.le_of_ble_eq_true rfl, Nat.le_of_ble_eq_true rfl⟩ dL_frames_278 ?_
            refine j_iload X 2 dL_frames_281 rfl ?_
            refine j_iconst X (v := 1) dL_frames_283 (by decide) ?_
            refine j_iadd X dL_frames_284 ?_
            refine j_icmp_ne X (tgt := 326) dL_frames_285 (by decide) (fun c_285 => absurd (f6 (Or.inl c_239)).2.2.1 c_285) (fun c_285 => ?_)
            refine j_aload_n X 9 dL_frames_288 rfl rfl ?_
            refine j_iload_n X 10 dL_frames_289 rfl rfl ?_
            refine j_bipush X (v := 6) dL_frames_290 (by decide) ?_
            refine j_callVi X (rest := []) (c_X9_port l) m_yX9_port kM_RL_19 xput_0 rfl rfl rfl rfl rfl (Nat.le_of_ble_eq_true rfl) ⟨Nat.le_of_ble_eq_true rfl, Nat.le_of_ble_eq_true rfl, Nat.le_of_ble_eq_true rfl, Nat.le_of_ble_eq_true rfl⟩ dL_frames_292 ?_
            refine j_if_eq X (tgt := 328) dL_frames_295 (by decide) (fun c_295 => ?_) (fun c_295 => absurd (f6 (Or.inl c_239)).2.2.2 c_295)
            refine j_sub [0, 1, 2, 3, 4, 5, 6, 7, 8, 9, 10, 11, 12, 13] (L' := [(13, .int 1), (12, .int (nI d)), (11, .int (xCount S1 11)), (10, .int (xPort S1 (nI k) 7)), (9, .int (xWhere S1 (nI a))), (8, .int w), (7, .int (wb (ob (S.1 0)) 8)), (6, .ref (z + 1)), (5, .ref z), (0, .ref b), (1, .int (nI k)), (2, .int (nI a)), (3, .int (nI c)), (4, .int (nI pr))]) rfl ?_
            exact k328_7
          · refine j_iload X 1 dL_frames_242 rfl ?_
            refine j_iconst X (v := 5) dL_frames_244 (by decide) ?_
            refine j_icmp_ne X (tgt := 301) dL_frames_245 (by decide) (fun c_245 => ?_) (fun c_245 => ?_)
            · refine j_aload_n X 9 dL_frames_301 rfl rfl ?_
              refine j_bipush X (v := 11) dL_frames_302 (by decide) ?_
              refine j_callVi X (rest := []) (c_X9_count l) m_yX9_count kM_RL_13 xput_0 rfl rfl rfl rfl rfl (Nat.le_of_ble_eq_true rfl) ⟨Nat.le_of_ble_eq_true rfl, Nat.le_of_ble_eq_true rfl, Nat.le_of_ble_eq_true rfl, Nat.le_of_ble_eq_true rfl⟩ dL_frames_304 ?_
              refine j_iload X 2 dL_frames_307 rfl ?_
              refine j_icmp_ne X (tgt := 326) dL_frames_309 (by decide) (fun c_309 => absurd (f6n c_239 c_245).1 c_309) (fun c_309 => ?_)
              refine j_iload X 0 dL_frames_312 rfl ?_
              refine j_if_eq X (tgt := 328) dL_frames_314 (by decide) (fun c_ => absurd c_ (by decide)) (fun _ => ?_)
              refine j_aload_n X 9 dL_frames_317 rfl rfl ?_
              refine j_iload_n X 11 dL_frames_318 rfl rfl ?_
              refine j_callVi X (rest := []) (c_X9_where l) m_yX9_where kM_RL_39 xput_0 rfl rfl rfl rfl rfl (Nat.le_of_ble_eq_true rfl) ⟨Nat.le_of_ble_eq_true rfl, Nat.le_of_ble_eq_true rfl, Nat.le_of_ble_eq_true rfl, Nat.le_of_ble_eq_true rfl⟩ dL_frames_319 ?_
              refine j_iload_n X 10 dL_frames_322 rfl rfl ?_
              refine j_icmp_eq X (tgt := 328) dL_frames_323 (by decide) (fun c_323 => ?_) (fun c_323 => absurd ((f6n c_239 c_245).2 (f1.mp c_110)) c_323)
              refine j_sub [0, 1, 2, 3, 4, 5, 6, 7, 8, 9, 10, 11, 12, 13] (L' := [(13, .int 1), (12, .int (nI d)), (11, .int (xCount S1 11)), (10, .int (xPort S1 (nI k) 7)), (9, .int (xWhere S1 (nI a))), (8, .int w), (7, .int (wb (ob (S.1 0)) 8)), (6, .ref (z + 1)), (5, .ref z), (0, .ref b), (1, .int (nI k)), (2, .int (nI a)), (3, .int (nI c)), (4, .int (nI pr))]) rfl ?_
              exact k328_7
            · refine j_aload_n X 9 dL_frames_248 rfl rfl ?_
              refine j_iload_n X 10 dL_frames_249 rfl rfl ?_
              refine j_iconst X (v := 2) dL_frames_250 (by decide) ?_
              refine j_callVi X (rest := []) (c_X9_port l) m_yX9_port kM_RL_19 xput_0 rfl rfl rfl rfl rfl (Nat.le_of_ble_eq_true rfl) ⟨Nat.le_of_ble_eq_true rfl, Nat.le_of_ble_eq_true rfl, Nat.le_of_ble_eq_true rfl, Nat.le_of_ble_eq_true rfl⟩ dL_frames_251 ?_
              refine j_aload_n X 9 dL_frames_254 rfl rfl ?_
              refine j_iconst X (v := 1) dL_frames_255 (by decide) ?_
              refine j_callVi X (rest := [.int (xPort S2 (nI k) 2)]) (c_X9_count l) m_yX9_count kM_RL_13 xput_0 rfl rfl rfl rfl rfl (Nat.le_of_ble_eq_true rfl) ⟨Nat.le_of_ble_eq_true rfl, Nat.le_of_ble_eq_true rfl, Nat.le_of_ble_eq_true rfl, Nat.le_of_ble_eq_true rfl⟩ dL_frames_256 ?_
              refine j_icmp_ne X (tgt := 326) dL_frames_259 (by decide) (fun c_259 => absurd (f6 (Or.inr c_245)).1 c_259) (fun c_259 => ?_)
              refine j_aload_n X 9 dL_frames_262 rfl rfl ?_
              refine j_iload_n X 10 dL_frames_263 rfl rfl ?_
              refine j_iconst X (v := 3) dL_frames_264 (by decide) ?_
              refine j_callVi X (rest := []) (c_X9_port l) m_yX9_port kM_RL_19 xput_0 rfl rfl rfl rfl rfl (Nat.le_of_ble_eq_true rfl) ⟨Nat.le_of_ble_eq_true rfl, Nat.le_of_ble_eq_true rfl, Nat.le_of_ble_eq_true rfl, Nat.le_of_ble_eq_true rfl⟩ dL_frames_265 ?_
              refine j_iload X 1 dL_frames_268 rfl ?_
              refine j_iconst X (v := 3) dL_frames_270 (by decide) ?_
              refine j_isub X dL_frames_271 ?_
              refine j_icmp_ne X (tgt := 326) dL_frames_272 (by decide) (fun c_272 => absurd (f6 (Or.inr c_245)).2.1 c_272) (fun c_272 => ?_)
              refine j_aload_n X 9 dL_frames_275 rfl rfl ?_
              refine j_bipush X (v := 11) dL_frames_276 (by decide) ?_
              refine j_callVi X (rest := []) (c_X9_count l) m_yX9_count kM_RL_13 xput_0 rfl rfl rfl rfl rfl (Nat.le_of_ble_eq_true rfl) ⟨Nat.le_of_ble_eq_true rfl, Nat.le_of_ble_eq_true rfl, Nat.le_of_ble_eq_true rfl, Nat.le_of_ble_eq_true rfl⟩ dL_frames_278 ?_
              refine j_iload X 2 dL_frames_281 rfl ?_
              refine j_iconst X (v := 1) dL_frames_283 (by decide) ?_
              refine j_iadd X dL_frames_284 ?_
              refine j_icmp_ne X (tgt := 326) dL_frames_285 (by decide) (fun c_285 => absurd (f6 (Or.inr c_245)).2.2.1 c_285) (fun c_285 => ?_)
              refine j_aload_n X 9 dL_frames_288 rfl rfl ?_
              refine j_iload_n X 10 dL_frames_289 rfl rfl ?_
              refine j_bipush X (v := 6) dL_frames_290 (by decide) ?_
              refine j_callVi X (rest := []) (c_X9_port l) m_yX9_port kM_RL_19 xput_0 rfl rfl rfl rfl rfl (Nat.le_of_ble_eq_true rfl) ⟨Nat.le_of_ble_eq_true rfl, Nat.le_of_ble_eq_true rfl, Nat.le_of_ble_eq_true rfl, Nat.le_of_ble_eq_true rfl⟩ dL_frames_292 ?_
              refine j_if_eq X (tgt := 328) dL_frames_295 (by decide) (fun c_295 => ?_) (fun c_295 => absurd (f6 (Or.inr c_245)).2.2.2 c_295)
              refine j_sub [0, 1, 2, 3, 4, 5, 6, 7, 8, 9, 10, 11, 12, 13] (L' := [(13, .int 1), (12, .int (nI d)), (11, .int (xCount S1 11)), (10, .int (xPort S1 (nI k) 7)), (9, .int (xWhere S1 (nI a))), (8, .int w), (7, .int (wb (ob (S.1 0)) 8)), (6, .ref (z + 1)), (5, .ref z), (0, .ref b), (1, .int (nI k)), (2, .int (nI a)), (3, .int (nI c)), (4, .int (nI pr))]) rfl ?_
              exact k328_7
        refine j_iload X 1 dL_frames_169 rfl ?_
        refine j_iconst X (v := 3) dL_frames_171 (by decide) ?_
        refine j_icmp_ne X (tgt := 205) dL_frames_172 (by decide) (fun c_172 => ?_) (fun c_172 => ?_)
        · refine j_iload X 1 dL_frames_205 rfl ?_
          refine j_iconst X (v := 2) dL_frames_207 (by decide) ?_
          refine j_icmp_ne X (tgt := 229) dL_frames_208 (by decide) (fun c_208 => ?_) (fun c_208 => ?_)
          · refine j_iload X 5 dL_frames_229 rfl ?_
            refine j_if_eq X (tgt := 236) dL_frames_231 (by decide) (fun c_231 => ?_) (fun c_231 => absurd (f0 c_172 c_208) c_231)
            refine j_sub [0, 1, 2, 3, 4, 5, 6, 7, 8, 9, 10, 11, 12, 13] (L' := [(13, .int 1), (12, .int (nI d)), (11, .int (xCount S1 11)), (10, .int (xPort S1 (nI k) 7)), (9, .int (xWhere S1 (nI a))), (8, .int w), (7, .int (wb (ob (S.1 0)) 8)), (6, .ref (z + 1)), (5, .ref z), (0, .ref b), (1, .int (nI k)), (2, .int (nI a)), (3, .int (nI c)), (4, .int (nI pr))]) rfl ?_
            exact k236_6
          · refine j_iload X 5 dL_frames_211 rfl ?_
            refine j_if_eq X (tgt := 234) dL_frames_213 (by decide) (fun c_213 => absurd c_213 (f2 c_208).1) (fun c_213 => ?_)
            refine j_iload X 5 dL_frames_216 rfl ?_
            refine j_iload X 5 dL_frames_218 rfl ?_
            refine j_iconst X (v := 1) dL_frames_220 (by decide) ?_
            refine j_isub X dL_frames_221 ?_
            refine j_iand X dL_frames_222 ?_
            refine j_if_eq X (tgt := 236) dL_frames_223 (by decide) (fun c_223 => ?_) (fun c_223 => absurd (f2 c_208).2 c_223)
            refine j_sub [0, 1, 2, 3, 4, 5, 6, 7, 8, 9, 10, 11, 12, 13] (L' := [(13, .int 1), (12, .int (nI d)), (11, .int (xCount S1 11)), (10, .int (xPort S1 (nI k) 7)), (9, .int (xWhere S1 (nI a))), (8, .int w), (7, .int (wb (ob (S.1 0)) 8)), (6, .ref (z + 1)), (5, .ref z), (0, .ref b), (1, .int (nI k)), (2, .int (nI a)), (3, .int (nI c)), (4, .int (nI pr))]) rfl ?_
            exact k236_6
        · refine j_iload X 5 dL_frames_175 rfl ?_
          refine j_iload X 6 dL_frames_177 rfl ?_
          refine j_iconst X (v := 1) dL_frames_179 (by decide) ?_
          refine j_iload_n X 10 dL_frames_180 rfl rfl ?_
          refine j_ishl X dL_frames_181 ?_
          refine j_iconst X (v := (-1)) dL_frames_182 (by decide) ?_
          refine j_ixor X dL_frames_183 ?_
          refine j_iand X dL_frames_184 ?_
          refine j_icmp_ne X (tgt := 234) dL_frames_185 (by decide) (fun c_185 => absurd (f3 c_172).1 c_185) (fun c_185 => ?_)
          refine j_aload_n X 9 dL_frames_188 rfl rfl ?_
          refine j_iload_n X 10 dL_frames_189 rfl rfl ?_
          refine j_bipush X (v := 7) dL_frames_190 (by decide) ?_
          refine j_callVi X (rest := []) (c_X9_port l) m_yX9_port kM_RL_19 xput_0 rfl rfl rfl rfl rfl (Nat.le_of_ble_eq_true rfl) ⟨Nat.le_of_ble_eq_true rfl, Nat.le_of_ble_eq_true rfl, Nat.le_of_ble_eq_true rfl, Nat.le_of_ble_eq_true rfl⟩ dL_frames_192 ?_
          refine j_iload X 3 dL_frames_195 rfl ?_
          refine j_iconst X (v := 1) dL_frames_197 (by decide) ?_
          refine j_iadd X dL_frames_198 ?_
          refine j_icmp_eq X (tgt := 236) dL_frames_199 (by decide) (fun c_199 => ?_) (fun c_199 => absurd (f3 c_172).2 c_199)
          refine j_sub [0, 1, 2, 3, 4, 5, 6, 7, 8, 9, 10, 11, 12, 13] (L' := [(13, .int 1), (12, .int (nI d)), (11, .int (xCount S1 11)), (10, .int (xPort S1 (nI k) 7)), (9, .int (xWhere S1 (nI a))), (8, .int w), (7, .int (wb (ob (S.1 0)) 8)), (6, .ref (z + 1)), (5, .ref z), (0, .ref b), (1, .int (nI k)), (2, .int (nI a)), (3, .int (nI c)), (4, .int (nI pr))]) rfl ?_
          exact k236_6
    | succ n ih =>
      intro j hj
      have hlt : nI j < 8 := nlt_lit (b := 8) (by omega) (by decide)
      refine j_iload X 12 dL_frames_54 rfl ?_
      refine j_bipush X (v := 8) dL_frames_56 (by decide) ?_
      refine j_icmp_ge X (tgt := 92) dL_frames_58 (by decide) (fun c_58 => absurd hlt c_58) (fun c_58 => ?_)
      refine j_aload X 6 dL_frames_61 rfl ?_
      refine j_iload X 12 dL_frames_63 rfl ?_
      refine j_aload_n X 7 dL_frames_65 rfl rfl ?_
      refine j_iload X 12 dL_frames_66 rfl ?_
      refine j_iconst X (v := 5) dL_frames_68 (by decide) ?_
      refine j_callVi X (rest := [.int (nI j), .ref z]) (c_X9_port l) m_yX9_port kM_RL_19 xput_0 rfl rfl rfl rfl rfl (Nat.le_of_ble_eq_true rfl) ⟨Nat.le_of_ble_eq_true rfl, Nat.le_of_ble_eq_true rfl, Nat.le_of_ble_eq_true rfl, Nat.le_of_ble_eq_true rfl⟩ dL_frames_69 ?_
      refine j_iast X (xput_at hbz ((hupd_ne (by omega)).trans hupd_same)) rfl (vp_in_nI (by omega) (by decide)) dL_frames_72 ?_
      refine j_heap (h' := xput D (hupd (hupd h z (arrE D 8 (upd (aF S1 j) (nI j).toNatClampNeg (xPort S1 (nI j) 5)))) (z + 1) (arrE D 8 (cF S1 j))) b S1) (xput_w2 hbz (by omega) (by omega)) ?_
      refine j_aload X 5 dL_frames_73 rfl ?_
      refine j_iload X 12 dL_frames_75 rfl ?_
      refine j_aload_n X 7 dL_frames_77 rfl rfl ?_
      refine j_iload X 12 dL_frames_78 rfl ?_
      refine j_bipush X (v := 8) dL_frames_80 (by decide) ?_
      refine j_callVi X (rest := [.int (nI j), .ref (z + 1)]) (c_X9_account l) m_yX9_account kM_RL_23 xput_0 rfl rfl rfl rfl rfl (Nat.le_of_ble_eq_true rfl) ⟨Nat.le_of_ble_eq_true rfl, Nat.le_of_ble_eq_true rfl, Nat.le_of_ble_eq_true rfl, Nat.le_of_ble_eq_true rfl⟩ dL_frames_82 ?_
      refine j_iast X (xput_at (by omega) hupd_same) rfl (vp_in_nI (by omega) (by decide)) dL_frames_85 ?_
      refine j_heap (h' := xput D (hupd (hupd h z (arrE D 8 (upd (aF S1 j) (nI j).toNatClampNeg (xPort S1 (nI j) 5)))) (z + 1) (arrE D 8 (upd (cF S1 j) (nI j).toNatClampNeg (xAccount S1 (nI j) 8)))) b S1) (xput_w (by omega)) ?_
      refine j_iinc X 12 (k := 1) (v := (nI (j + 1))) (L' := [(12, .int (nI (j + 1))), (11, .int (xCount S1 11)), (10, .int (xPort S1 (nI k) 7)), (9, .int (xWhere S1 (nI a))), (8, .int w), (7, .int (wb (ob (S.1 0)) 8)), (6, .ref (z + 1)), (5, .ref z), (0, .ref b), (1, .int (nI k)), (2, .int (nI a)), (3, .int (nI c)), (4, .int (nI pr))]) dL_frames_86 rfl (by decide) (by decide) (nI_succ j).symm rfl ?_
      refine j_goto X (tgt := 54) dL_frames_89 (by decide) ?_
      refine j_sub [1, 2, 3, 4, 5, 6, 7, 8, 9, 10, 11, 12, 0] (L' := [(11, .int (xCount S1 11)), (10, .int (xPort S1 (nI k) 7)), (9, .int (xWhere S1 (nI a))), (8, .int w), (7, .int (wb (ob (S.1 0)) 8)), (6, .ref (z + 1)), (5, .ref z), (0, .ref b), (1, .int (nI k)), (2, .int (nI a)), (3, .int (nI c)), (4, .int (nI pr)), (12, .int (nI (j + 1)))]) rfl ?_
      refine j_heap (h' := xput D (hupd (hupd h z (arrE D 8 (aF S1 (j + 1)))) (z + 1) (arrE D 8 (cF S1 (j + 1)))) b S1) rfl ?_
      exact ih (j + 1) (by omega)
  refine j_sub [1, 2, 3, 4, 5, 6, 7, 8, 9, 10, 11, 12, 0] (L' := [(11, .int (xCount S1 11)), (10, .int (xPort S1 (nI k) 7)), (9, .int (xWhere S1 (nI a))), (8, .int w), (7, .int (wb (ob (S.1 0)) 8)), (6, .ref (z + 1)), (5, .ref z), (0, .ref b), (1, .int (nI k)), (2, .int (nI a)), (3, .int (nI c)), (4, .int (nI pr)), (12, .int (nI 0))]) rfl ?_
  refine j_heap (h' := xput D (hupd (hupd h z (arrE D 8 (aF S1 0))) (z + 1) (arrE D 8 (cF S1 0))) b S1) rfl ?_
  exact loop54_1 8 0 (by omega)
