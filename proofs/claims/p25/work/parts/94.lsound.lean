set_option maxRecDepth 100000 in
set_option maxHeartbeats 16000000 in
theorem c_L_sound (l : Launch) {D : DD} {B z : Nat} {h : HF} {b : Nat} {S : Sy} (hbz : b + 211 ≤ z) (hz : h z = none) (H : SK S) : CT l yL_sound cL_sound 9 (some .boolean) 5 112 [.ref b] D B z (xput D h b S) (some (.int 1)) 1 8 (xput D h b S) := by
  obtain ⟨h1, h2, h3, h4, h5, h6, h7, h8, ⟨n, hT⟩, hp⟩ := H
  refine CT.of (L := [(0, .ref b)]) (by decide +kernel) (Nat.le_of_ble_eq_true rfl) rfl ?_
  intro P E S0 M0 AR BL ME CO X hr hnm
  refine j_iconst X (v := 0) dL_sound_0 (by decide) ?_
  refine j_istore_n X (L' := [(1, .int 0), (0, .ref b)]) dL_sound_1 rfl (by decide) rfl ?_
  refine j_iconst X (v := 0) dL_sound_2 (by decide) ?_
  refine j_istore_n X (L' := [(2, .int 0), (1, .int 0), (0, .ref b)]) dL_sound_3 rfl (by decide) rfl ?_
  refine j_iconst X (v := 0) dL_sound_4 (by decide) ?_
  refine j_istore_n X (L' := [(3, .int 0), (2, .int 0), (1, .int 0), (0, .ref b)]) dL_sound_5 rfl (by decide) rfl ?_
  refine j_iconst X (v := 0) dL_sound_6 (by decide) ?_
  refine j_istore X (L' := [(4, .int 0), (3, .int 0), (2, .int 0), (1, .int 0), (0, .ref b)]) dL_sound_7 (by decide) rfl ?_
  refine j_iconst X (v := 0) dL_sound_9 (by decide) ?_
  refine j_istore X (L' := [(5, .int 0), (4, .int 0), (3, .int 0), (2, .int 0), (1, .int 0), (0, .ref b)]) dL_sound_10 (by decide) rfl ?_
  refine j_iconst X (v := 0) dL_sound_12 (by decide) ?_
  refine j_istore X (L' := [(6, .int 0), (5, .int 0), (4, .int 0), (3, .int 0), (2, .int 0), (1, .int 0), (0, .ref b)]) dL_sound_13 (by decide) rfl ?_
  refine j_iconst X (v := 0) dL_sound_15 (by decide) ?_
  refine j_istore X (L' := [(7, .int 0), (6, .int 0), (5, .int 0), (4, .int 0), (3, .int 0), (2, .int 0), (1, .int 0), (0, .ref b)]) dL_sound_16 (by decide) rfl ?_
  have loop18_1 : ∀ (n j : Nat), j + n = 8 → J P l E { frames := 5, cells := 1, slots := 8, locals := 112 } S0 M0 AR BL ME CO D B 9 (MQ BL (QC (some (.int 1)) D B (z + 1) (xput D h b S)) AR S0 1 8 (aB B)) 0 0 z (xput D h b S) [(0, .ref b), (1, .int (soO S j)), (2, .int (soH S j)), (3, .int (soC S j)), (4, .int (soF S j)), (5, .int (soA S j)), (6, .int (soL S j)), (7, .int (nI j))] [] 18 := by
    intro n
    induction n with
    | zero =>
      intro j hj
      obtain rfl : j = 8 := by omega
      refine j_iload X 7 dL_sound_18 rfl ?_
      refine j_bipush X (v := 8) dL_sound_20 (by decide) ?_
      refine j_icmp_ge X (tgt := 156) dL_sound_22 (by decide) (fun c_22 => ?_) (fun c_22 => absurd c_22 (by decide))
      refine j_aload_n X 0 dL_sound_156 rfl rfl ?_
      refine j_callSk X (rest := []) (c_L_table l hbz hz hT) m_yL_table kM_RL_48 rfl rfl (Nat.le_of_ble_eq_true rfl) ⟨Nat.le_of_ble_eq_true rfl, Nat.le_of_ble_eq_true rfl, Nat.le_of_ble_eq_true rfl, Nat.le_of_ble_eq_true rfl⟩ dL_sound_157 ?_
      refine j_if_eq X (tgt := 252) dL_sound_160 (by decide) (fun c_ => absurd c_ (by decide)) (fun _ => ?_)
      refine j_aload_n X 0 dL_sound_163 rfl rfl ?_
      refine j_callVi X (rest := []) (c_X9_loops l) m_yX9_loops kM_RL_52 xput_0 rfl rfl rfl rfl rfl (Nat.le_of_ble_eq_true rfl) ⟨Nat.le_of_ble_eq_true rfl, Nat.le_of_ble_eq_true rfl, Nat.le_of_ble_eq_true rfl, Nat.le_of_ble_eq_true rfl⟩ dL_sound_164 ?_
      refine j_iload X 6 dL_sound_167 rfl ?_
      refine j_icmp_ne X (tgt := 252) dL_sound_169 (by decide) (fun c_169 => absurd h1 c_169) (fun c_169 => ?_)
      refine j_aload_n X 0 dL_sound_172 rfl rfl ?_
      refine j_bipush X (v := 6) dL_sound_173 (by decide) ?_
      refine j_callVi X (rest := []) (c_X9_count l) m_yX9_count kM_RL_13 xput_0 rfl rfl rfl rfl rfl (Nat.le_of_ble_eq_true rfl) ⟨Nat.le_of_ble_eq_true rfl, Nat.le_of_ble_eq_true rfl, Nat.le_of_ble_eq_true rfl, Nat.le_of_ble_eq_true rfl⟩ dL_sound_175 ?_
      refine j_iload_n X 1 dL_sound_178 rfl rfl ?_
      refine j_icmp_ne X (tgt := 252) dL_sound_179 (by decide) (fun c_179 => absurd h2 c_179) (fun c_179 => ?_)
      refine j_aload_n X 0 dL_sound_182 rfl rfl ?_
      refine j_bipush X (v := 7) dL_sound_183 (by decide) ?_
      refine j_callVi X (rest := []) (c_X9_count l) m_yX9_count kM_RL_13 xput_0 rfl rfl rfl rfl rfl (Nat.le_of_ble_eq_true rfl) ⟨Nat.le_of_ble_eq_true rfl, Nat.le_of_ble_eq_true rfl, Nat.le_of_ble_eq_true rfl, Nat.le_of_ble_eq_true rfl⟩ dL_sound_185 ?_
      refine j_iload_n X 2 dL_sound_188 rfl rfl ?_
      refine j_icmp_ne X (tgt := 252) dL_sound_189 (by decide) (fun c_189 => absurd h3 c_189) (fun c_189 => ?_)
      refine j_iconst X (v := 2) dL_sound_192 (by decide) ?_
      refine j_aload_n X 0 dL_sound_193 rfl rfl ?_
      refine j_bipush X (v := 8) dL_sound_194 (by decide) ?_
      refine j_callVi X (rest := [.int 2]) (c_X9_count l) m_yX9_count kM_RL_13 xput_0 rfl rfl rfl rfl rfl (Nat.le_of_ble_eq_true rfl) ⟨Nat.le_of_ble_eq_true rfl, Nat.le_of_ble_eq_true rfl, Nat.le_of_ble_eq_true rfl, Nat.le_of_ble_eq_true rfl⟩ dL_sound_196 ?_
      refine j_imul X dL_sound_199 ?_
      refine j_iload_n X 3 dL_sound_200 rfl rfl ?_
      refine j_icmp_ne X (tgt := 252) dL_sound_201 (by decide) (fun c_201 => absurd h4 c_201) (fun c_201 => ?_)
      refine j_aload_n X 0 dL_sound_204 rfl rfl ?_
      refine j_bipush X (v := 9) dL_sound_205 (by decide) ?_
      refine j_callVi X (rest := []) (c_X9_count l) m_yX9_count kM_RL_13 xput_0 rfl rfl rfl rfl rfl (Nat.le_of_ble_eq_true rfl) ⟨Nat.le_of_ble_eq_true rfl, Nat.le_of_ble_eq_true rfl, Nat.le_of_ble_eq_true rfl, Nat.le_of_ble_eq_true rfl⟩ dL_sound_207 ?_
      refine j_iload X 4 dL_sound_210 rfl ?_
      refine j_icmp_ne X (tgt := 252) dL_sound_212 (by decide) (fun c_212 => absurd h5 c_212) (fun c_212 => ?_)
      refine j_aload_n X 0 dL_sound_215 rfl rfl ?_
      refine j_bipush X (v := 10) dL_sound_216 (by decide) ?_
      refine j_callVi X (rest := []) (c_X9_count l) m_yX9_count kM_RL_13 xput_0 rfl rfl rfl rfl rfl (Nat.le_of_ble_eq_true rfl) ⟨Nat.le_of_ble_eq_true rfl, Nat.le_of_ble_eq_true rfl, Nat.le_of_ble_eq_true rfl, Nat.le_of_ble_eq_true rfl⟩ dL_sound_218 ?_
      refine j_iload X 5 dL_sound_221 rfl ?_
      refine j_icmp_ne X (tgt := 252) dL_sound_223 (by decide) (fun c_223 => absurd h6 c_223) (fun c_223 => ?_)
      refine j_aload_n X 0 dL_sound_226 rfl rfl ?_
      refine j_bipush X (v := 8) dL_sound_227 (by decide) ?_
      refine j_iconst X (v := 0) dL_sound_229 (by decide) ?_
      refine j_callVi X (rest := []) (c_X9_port l) m_yX9_port kM_RL_19 xput_0 rfl rfl rfl rfl rfl (Nat.le_of_ble_eq_true rfl) ⟨Nat.le_of_ble_eq_true rfl, Nat.le_of_ble_eq_true rfl, Nat.le_of_ble_eq_true rfl, Nat.le_of_ble_eq_true rfl⟩ dL_sound_230 ?_
      refine j_iconst X (v := (-1)) dL_sound_233 (by decide) ?_
      refine j_icmp_ne X (tgt := 252) dL_sound_234 (by decide) (fun c_234 => absurd h7 c_234) (fun c_234 => ?_)
      refine j_aload_n X 0 dL_sound_237 rfl rfl ?_
      refine j_bipush X (v := 15) dL_sound_238 (by decide) ?_
      refine j_callVi X (rest := []) (c_X9_count l) m_yX9_count kM_RL_13 xput_0 rfl rfl rfl rfl rfl (Nat.le_of_ble_eq_true rfl) ⟨Nat.le_of_ble_eq_true rfl, Nat.le_of_ble_eq_true rfl, Nat.le_of_ble_eq_true rfl, Nat.le_of_ble_eq_true rfl⟩ dL_sound_240 ?_
      refine j_bipush X (v := (-2)) dL_sound_243 (by decide) ?_
      refine j_icmp_ne X (tgt := 252) dL_sound_245 (by decide) (fun c_245 => absurd h8 c_245) (fun c_245 => ?_)
      refine j_iconst X (v := 1) dL_sound_248 (by decide) ?_
      refine j_goto X (tgt := 253) dL_sound_249 (by decide) ?_
      exact j_iret X hr rfl rfl rfl rfl dL_sound_253
    | succ n ih =>
      intro j hj
      have hlt : nI j < 8 := nlt_lit (b := 8) (by omega) (by decide)
      obtain ⟨m, hm⟩ := hp j (by omega)
      refine j_iload X 7 dL_sound_18 rfl ?_
      refine j_bipush X (v := 8) dL_sound_20 (by decide) ?_
      refine j_icmp_ge X (tgt := 156) dL_sound_22 (by decide) (fun c_22 => absurd hlt c_22) (fun c_22 => ?_)
      refine j_aload_n X 0 dL_sound_25 rfl rfl ?_
      refine j_iload X 7 dL_sound_26 rfl ?_
      refine j_iconst X (v := 4) dL_sound_28 (by decide) ?_
      refine j_callVi X (rest := []) (c_X9_port l) m_yX9_port kM_RL_19 xput_0 rfl rfl rfl rfl rfl (Nat.le_of_ble_eq_true rfl) ⟨Nat.le_of_ble_eq_true rfl, Nat.le_of_ble_eq_true rfl, Nat.le_of_ble_eq_true rfl, Nat.le_of_ble_eq_true rfl⟩ dL_sound_29 ?_
      refine j_istore X (L' := [(8, .int (xPort S (nI j) 4)), (0, .ref b), (1, .int (soO S j)), (2, .int (soH S j)), (3, .int (soC S j)), (4, .int (soF S j)), (5, .int (soA S j)), (6, .int (soL S j)), (7, .int (nI j))]) dL_sound_32 (by decide) rfl ?_
      refine j_iload_n X 2 dL_sound_34 rfl rfl ?_
      refine j_aload_n X 1 dL_sound_35 rfl rfl ?_
      refine j_iload X 8 dL_sound_36 rfl ?_
      refine j_iconst X (v := 1) dL_sound_38 (by decide) ?_
      refine j_callVi X (rest := [.int (soO S j)]) (c_X9_port l) m_yX9_port kM_RL_19 xput_0 rfl rfl rfl rfl rfl (Nat.le_of_ble_eq_true rfl) ⟨Nat.le_of_ble_eq_true rfl, Nat.le_of_ble_eq_true rfl, Nat.le_of_ble_eq_true rfl, Nat.le_of_ble_eq_true rfl⟩ dL_sound_39 ?_
      refine j_iadd X dL_sound_42 ?_
      refine j_istore_n X (L' := [(1, .int ((soO S j) + (xPort S (nI j) 1))), (8, .int (xPort S (nI j) 4)), (0, .ref b), (2, .int (soH S j)), (3, .int (soC S j)), (4, .int (soF S j)), (5, .int (soA S j)), (6, .int (soL S j)), (7, .int (nI j))]) dL_sound_43 rfl (by decide) rfl ?_
      refine j_iload_n X 3 dL_sound_44 rfl rfl ?_
      refine j_aload_n X 2 dL_sound_45 rfl rfl ?_
      refine j_iload X 8 dL_sound_46 rfl ?_
      refine j_iconst X (v := 2) dL_sound_48 (by decide) ?_
      refine j_callVi X (rest := [.int (soH S j)]) (c_X9_port l) m_yX9_port kM_RL_19 xput_0 rfl rfl rfl rfl rfl (Nat.le_of_ble_eq_true rfl) ⟨Nat.le_of_ble_eq_true rfl, Nat.le_of_ble_eq_true rfl, Nat.le_of_ble_eq_true rfl, Nat.le_of_ble_eq_true rfl⟩ dL_sound_49 ?_
      refine j_if_le X (tgt := 59) dL_sound_52 (by decide) (fun c_52 => ?_) (fun c_52 => ?_)
      · refine j_iconst X (v := 0) dL_sound_59 (by decide) ?_
        refine j_iadd X dL_sound_60 ?_
        refine j_istore_n X (L' := [(2, .int ((soH S j) + 0)), (1, .int ((soO S j) + (xPort S (nI j) 1))), (8, .int (xPort S (nI j) 4)), (0, .ref b), (3, .int (soC S j)), (4, .int (soF S j)), (5, .int (soA S j)), (6, .int (soL S j)), (7, .int (nI j))]) dL_sound_61 rfl (by decide) rfl ?_
        refine j_iload_n X 4 dL_sound_62 rfl rfl ?_
        refine j_iload X 2 dL_sound_63 rfl ?_
        refine j_if_lt X (tgt := 72) dL_sound_65 (by decide) (fun c_65 => ?_) (fun c_65 => ?_)
        · refine j_iconst X (v := 0) dL_sound_72 (by decide) ?_
          refine j_iadd X dL_sound_73 ?_
          refine j_istore_n X (L' := [(3, .int ((soC S j) + 0)), (2, .int ((soH S j) + 0)), (1, .int ((soO S j) + (xPort S (nI j) 1))), (8, .int (xPort S (nI j) 4)), (0, .ref b), (4, .int (soF S j)), (5, .int (soA S j)), (6, .int (soL S j)), (7, .int (nI j))]) dL_sound_74 rfl (by decide) rfl ?_
          refine j_iload X 5 dL_sound_75 rfl ?_
          refine j_aload_n X 4 dL_sound_77 rfl rfl ?_
          refine j_iload X 8 dL_sound_78 rfl ?_
          refine j_iconst X (v := 5) dL_sound_80 (by decide) ?_
          refine j_callVi X (rest := [.int (soF S j)]) (c_X9_port l) m_yX9_port kM_RL_19 xput_0 rfl rfl rfl rfl rfl (Nat.le_of_ble_eq_true rfl) ⟨Nat.le_of_ble_eq_true rfl, Nat.le_of_ble_eq_true rfl, Nat.le_of_ble_eq_true rfl, Nat.le_of_ble_eq_true rfl⟩ dL_sound_81 ?_
          refine j_iadd X dL_sound_84 ?_
          refine j_istore X (L' := [(4, .int ((soF S j) + (xPort S (nI j) 5))), (3, .int ((soC S j) + 0)), (2, .int ((soH S j) + 0)), (1, .int ((soO S j) + (xPort S (nI j) 1))), (8, .int (xPort S (nI j) 4)), (0, .ref b), (5, .int (soA S j)), (6, .int (soL S j)), (7, .int (nI j))]) dL_sound_85 (by decide) rfl ?_
          refine j_iload X 6 dL_sound_87 rfl ?_
          refine j_aload_n X 5 dL_sound_89 rfl rfl ?_
          refine j_iload X 8 dL_sound_90 rfl ?_
          refine j_iconst X (v := 0) dL_sound_92 (by decide) ?_
          refine j_callVi X (rest := [.int (soA S j)]) (c_X9_account l) m_yX9_account kM_RL_23 xput_0 rfl rfl rfl rfl rfl (Nat.le_of_ble_eq_true rfl) ⟨Nat.le_of_ble_eq_true rfl, Nat.le_of_ble_eq_true rfl, Nat.le_of_ble_eq_true rfl, Nat.le_of_ble_eq_true rfl⟩ dL_sound_93 ?_
          refine j_iadd X dL_sound_96 ?_
          refine j_istore X (L' := [(5, .int ((soA S j) + (xAccount S (nI j) 0))), (4, .int ((soF S j) + (xPort S (nI j) 5))), (3, .int ((soC S j) + 0)), (2, .int ((soH S j) + 0)), (1, .int ((soO S j) + (xPort S (nI j) 1))), (8, .int (xPort S (nI j) 4)), (0, .ref b), (6, .int (soL S j)), (7, .int (nI j))]) dL_sound_97 (by decide) rfl ?_
          refine j_iload X 7 dL_sound_99 rfl ?_
          refine j_iload X 5 dL_sound_101 rfl ?_
          refine j_if_lt X (tgt := 135) dL_sound_103 (by decide) (fun _ => ?_) (fun c_ => absurd c_65 c_)
          refine j_iconst X (v := 0) dL_sound_135 (by decide) ?_
          refine j_ior X dL_sound_136 ?_
          refine j_istore X (L' := [(6, .int ((soL S j) ||| 0)), (5, .int ((soA S j) + (xAccount S (nI j) 0))), (4, .int ((soF S j) + (xPort S (nI j) 5))), (3, .int ((soC S j) + 0)), (2, .int ((soH S j) + 0)), (1, .int ((soO S j) + (xPort S (nI j) 1))), (8, .int (xPort S (nI j) 4)), (0, .ref b), (7, .int (nI j))]) dL_sound_137 (by decide) rfl ?_
          refine j_aload_n X 7 dL_sound_139 rfl rfl ?_
          refine j_iload X 8 dL_sound_140 rfl ?_
          refine j_callSi X (rest := []) (c_L_ports l hm) m_yL_ports kM_RL_42 rfl rfl (Nat.le_of_ble_eq_true rfl) ⟨Nat.le_of_ble_eq_true rfl, Nat.le_of_ble_eq_true rfl, Nat.le_of_ble_eq_true rfl, Nat.le_of_ble_eq_true rfl⟩ dL_sound_142 ?_
          refine j_if_ne X (tgt := 150) dL_sound_145 (by decide) (fun _ => ?_) (fun c_ => absurd c_ (by decide))
          refine j_iinc X 8 (k := 1) (v := (nI (j + 1))) (L' := [(7, .int (nI (j + 1))), (6, .int ((soL S j) ||| 0)), (5, .int ((soA S j) + (xAccount S (nI j) 0))), (4, .int ((soF S j) + (xPort S (nI j) 5))), (3, .int ((soC S j) + 0)), (2, .int ((soH S j) + 0)), (1, .int ((soO S j) + (xPort S (nI j) 1))), (8, .int (xPort S (nI j) 4)), (0, .ref b)]) dL_sound_150 rfl (by decide) (by decide) (nI_succ j).symm rfl ?_
          refine j_goto X (tgt := 18) dL_sound_153 (by decide) ?_
          refine j_sub [8, 6, 5, 4, 3, 2, 1, 0] (L' := [(0, .ref b), (1, .int (soO S (j + 1))), (2, .int (soH S (j + 1))), (3, .int (soC S (j + 1))), (4, .int (soF S (j + 1))), (5, .int (soA S (j + 1))), (6, .int (soL S (j + 1))), (7, .int (nI (j + 1)))]) (by first | with_reducible rfl | (simp only [soO, soH, soC, soF, soA, soL, if_pos c_22, if_neg c_52, if_pos c_65]; done) | (simp only [soO, soH, soC, soF, soA, soL, if_pos c_22, if_neg c_52, if_pos c_65]; rfl) | rfl) ?_
          exact ih (j + 1) (by omega)
        · refine j_iconst X (v := 1) dL_sound_68 (by decide) ?_
          refine j_goto X (tgt := 73) dL_sound_69 (by decide) ?_
          refine j_iadd X dL_sound_73 ?_
          refine j_istore_n X (L' := [(3, .int ((soC S j) + 1)), (2, .int ((soH S j) + 0)), (1, .int ((soO S j) + (xPort S (nI j) 1))), (8, .int (xPort S (nI j) 4)), (0, .ref b), (4, .int (soF S j)), (5, .int (soA S j)), (6, .int (soL S j)), (7, .int (nI j))]) dL_sound_74 rfl (by decide) rfl ?_
          refine j_iload X 5 dL_sound_75 rfl ?_
          refine j_aload_n X 4 dL_sound_77 rfl rfl ?_
          refine j_iload X 8 dL_sound_78 rfl ?_
          refine j_iconst X (v := 5) dL_sound_80 (by decide) ?_
          refine j_callVi X (rest := [.int (soF S j)]) (c_X9_port l) m_yX9_port kM_RL_19 xput_0 rfl rfl rfl rfl rfl (Nat.le_of_ble_eq_true rfl) ⟨Nat.le_of_ble_eq_true rfl, Nat.le_of_ble_eq_true rfl, Nat.le_of_ble_eq_true rfl, Nat.le_of_ble_eq_true rfl⟩ dL_sound_81 ?_
          refine j_iadd X dL_sound_84 ?_
          refine j_istore X (L' := [(4, .int ((soF S j) + (xPort S (nI j) 5))), (3, .int ((soC S j) + 1)), (2, .int ((soH S j) + 0)), (1, .int ((soO S j) + (xPort S (nI j) 1))), (8, .int (xPort S (nI j) 4)), (0, .ref b), (5, .int (soA S j)), (6, .int (soL S j)), (7, .int (nI j))]) dL_sound_85 (by decide) rfl ?_
          refine j_iload X 6 dL_sound_87 rfl ?_
          refine j_aload_n X 5 dL_sound_89 rfl rfl ?_
          refine j_iload X 8 dL_sound_90 rfl ?_
          refine j_iconst X (v := 0) dL_sound_92 (by decide) ?_
          refine j_callVi X (rest := [.int (soA S j)]) (c_X9_account l) m_yX9_account kM_RL_23 xput_0 rfl rfl rfl rfl rfl (Nat.le_of_ble_eq_true rfl) ⟨Nat.le_of_ble_eq_true rfl, Nat.le_of_ble_eq_true rfl, Nat.le_of_ble_eq_true rfl, Nat.le_of_ble_eq_true rfl⟩ dL_sound_93 ?_
          refine j_iadd X dL_sound_96 ?_
          refine j_istore X (L' := [(5, .int ((soA S j) + (xAccount S (nI j) 0))), (4, .int ((soF S j) + (xPort S (nI j) 5))), (3, .int ((soC S j) + 1)), (2, .int ((soH S j) + 0)), (1, .int ((soO S j) + (xPort S (nI j) 1))), (8, .int (xPort S (nI j) 4)), (0, .ref b), (6, .int (soL S j)), (7, .int (nI j))]) dL_sound_97 (by decide) rfl ?_
          refine j_iload X 7 dL_sound_99 rfl ?_
          refine j_iload X 5 dL_sound_101 rfl ?_
          refine j_if_lt X (tgt := 135) dL_sound_103 (by decide) (fun c_ => absurd c_ c_65) (fun _ => ?_)
          refine j_aload_n X 6 dL_sound_106 rfl rfl ?_
          refine j_iload X 8 dL_sound_107 rfl ?_
          refine j_iconst X (v := 1) dL_sound_109 (by decide) ?_
          refine j_callVi X (rest := [.int (soL S j)]) (c_X9_port l) m_yX9_port kM_RL_19 xput_0 rfl rfl rfl rfl rfl (Nat.le_of_ble_eq_true rfl) ⟨Nat.le_of_ble_eq_true rfl, Nat.le_of_ble_eq_true rfl, Nat.le_of_ble_eq_true rfl, Nat.le_of_ble_eq_true rfl⟩ dL_sound_110 ?_
          refine j_iconst X (v := 1) dL_sound_113 (by decide) ?_
          refine j_icmp_ne X (tgt := 135) dL_sound_114 (by decide) (fun c_114 => ?_) (fun c_114 => ?_)
          · refine j_iconst X (v := 0) dL_sound_135 (by decide) ?_
            refine j_ior X dL_sound_136 ?_
            refine j_istore X (L' := [(6, .int ((soL S j) ||| 0)), (5, .int ((soA S j) + (xAccount S (nI j) 0))), (4, .int ((soF S j) + (xPort S (nI j) 5))), (3, .int ((soC S j) + 1)), (2, .int ((soH S j) + 0)), (1, .int ((soO S j) + (xPort S (nI j) 1))), (8, .int (xPort S (nI j) 4)), (0, .ref b), (7, .int (nI j))]) dL_sound_137 (by decide) rfl ?_
            refine j_aload_n X 7 dL_sound_139 rfl rfl ?_
            refine j_iload X 8 dL_sound_140 rfl ?_
            refine j_callSi X (rest := []) (c_L_ports l hm) m_yL_ports kM_RL_42 rfl rfl (Nat.le_of_ble_eq_true rfl) ⟨Nat.le_of_ble_eq_true rfl, Nat.le_of_ble_eq_true rfl, Nat.le_of_ble_eq_true rfl, Nat.le_of_ble_eq_true rfl⟩ dL_sound_142 ?_
            refine j_if_ne X (tgt := 150) dL_sound_145 (by decide) (fun _ => ?_) (fun c_ => absurd c_ (by decide))
            refine j_iinc X 8 (k := 1) (v := (nI (j + 1))) (L' := [(7, .int (nI (j + 1))), (6, .int ((soL S j) ||| 0)), (5, .int ((soA S j) + (xAccount S (nI j) 0))), (4, .int ((soF S j) + (xPort S (nI j) 5))), (3, .int ((soC S j) + 1)), (2, .int ((soH S j) + 0)), (1, .int ((soO S j) + (xPort S (nI j) 1))), (8, .int (xPort S (nI j) 4)), (0, .ref b)]) dL_sound_150 rfl (by decide) (by decide) (nI_succ j).symm rfl ?_
            refine j_goto X (tgt := 18) dL_sound_153 (by decide) ?_
            refine j_sub [8, 6, 5, 4, 3, 2, 1, 0] (L' := [(0, .ref b), (1, .int (soO S (j + 1))), (2, .int (soH S (j + 1))), (3, .int (soC S (j + 1))), (4, .int (soF S (j + 1))), (5, .int (soA S (j + 1))), (6, .int (soL S (j + 1))), (7, .int (nI (j + 1)))]) (by first | with_reducible rfl | (simp only [soO, soH, soC, soF, soA, soL, if_pos c_22, if_neg c_52, if_neg c_65, if_neg c_114]; done) | (simp only [soO, soH, soC, soF, soA, soL, if_pos c_22, if_neg c_52, if_neg c_65, if_neg c_114]; rfl) | rfl) ?_
            exact ih (j + 1) (by omega)
          · refine j_aload_n X 6 dL_sound_117 rfl rfl ?_
            refine j_iload X 5 dL_sound_118 rfl ?_
            refine j_iconst X (v := 1) dL_sound_120 (by decide) ?_
            refine j_callVi X (rest := [.int (soL S j)]) (c_X9_port l) m_yX9_port kM_RL_19 xput_0 rfl rfl rfl rfl rfl (Nat.le_of_ble_eq_true rfl) ⟨Nat.le_of_ble_eq_true rfl, Nat.le_of_ble_eq_true rfl, Nat.le_of_ble_eq_true rfl, Nat.le_of_ble_eq_true rfl⟩ dL_sound_121 ?_
            refine j_iconst X (v := 1) dL_sound_124 (by decide) ?_
            refine j_icmp_ne X (tgt := 135) dL_sound_125 (by decide) (fun c_125 => ?_) (fun c_125 => ?_)
            · refine j_iconst X (v := 0) dL_sound_135 (by decide) ?_
              refine j_ior X dL_sound_136 ?_
              refine j_istore X (L' := [(6, .int ((soL S j) ||| 0)), (5, .int ((soA S j) + (xAccount S (nI j) 0))), (4, .int ((soF S j) + (xPort S (nI j) 5))), (3, .int ((soC S j) + 1)), (2, .int ((soH S j) + 0)), (1, .int ((soO S j) + (xPort S (nI j) 1))), (8, .int (xPort S (nI j) 4)), (0, .ref b), (7, .int (nI j))]) dL_sound_137 (by decide) rfl ?_
              refine j_aload_n X 7 dL_sound_139 rfl rfl ?_
              refine j_iload X 8 dL_sound_140 rfl ?_
              refine j_callSi X (rest := []) (c_L_ports l hm) m_yL_ports kM_RL_42 rfl rfl (Nat.le_of_ble_eq_true rfl) ⟨Nat.le_of_ble_eq_true rfl, Nat.le_of_ble_eq_true rfl, Nat.le_of_ble_eq_true rfl, Nat.le_of_ble_eq_true rfl⟩ dL_sound_142 ?_
              refine j_if_ne X (tgt := 150) dL_sound_145 (by decide) (fun _ => ?_) (fun c_ => absurd c_ (by decide))
              refine j_iinc X 8 (k := 1) (v := (nI (j + 1))) (L' := [(7, .int (nI (j + 1))), (6, .int ((soL S j) ||| 0)), (5, .int ((soA S j) + (xAccount S (nI j) 0))), (4, .int ((soF S j) + (xPort S (nI j) 5))), (3, .int ((soC S j) + 1)), (2, .int ((soH S j) + 0)), (1, .int ((soO S j) + (xPort S (nI j) 1))), (8, .int (xPort S (nI j) 4)), (0, .ref b)]) dL_sound_150 rfl (by decide) (by decide) (nI_succ j).symm rfl ?_
              refine j_goto X (tgt := 18) dL_sound_153 (by decide) ?_
              refine j_sub [8, 6, 5, 4, 3, 2, 1, 0] (L' := [(0, .ref b), (1, .int (soO S (j + 1))), (2, .int (soH S (j + 1))), (3, .int (soC S (j + 1))), (4, .int (soF S (j + 1))), (5, .int (soA S (j + 1))), (6, .int (soL S (j + 1))), (7, .int (nI (j + 1)))]) (by first | with_reducible rfl | (simp only [soO, soH, soC, soF, soA, soL, if_pos c_22, if_neg c_52, if_neg c_65, if_pos c_114, if_neg c_125]; done) | (simp only [soO, soH, soC, soF, soA, soL, if_pos c_22, if_neg c_52, if_neg c_65, if_pos c_114, if_neg c_125]; rfl) | rfl) ?_
              exact ih (j + 1) (by omega)
            · refine j_iconst X (v := 1) dL_sound_128 (by decide) ?_
              refine j_iload X 8 dL_sound_129 rfl ?_
              refine j_ishl X dL_sound_131 ?_
              refine j_goto X (tgt := 136) dL_sound_132 (by decide) ?_
              refine j_ior X dL_sound_136 ?_
              refine j_istore X (L' := [(6, .int ((soL S j) ||| (1 <<< ((nI j) &&& 31)))), (5, .int ((soA S j) + (xAccount S (nI j) 0))), (4, .int ((soF S j) + (xPort S (nI j) 5))), (3, .int ((soC S j) + 1)), (2, .int ((soH S j) + 0)), (1, .int ((soO S j) + (xPort S (nI j) 1))), (8, .int (xPort S (nI j) 4)), (0, .ref b), (7, .int (nI j))]) dL_sound_137 (by decide) rfl ?_
              refine j_aload_n X 7 dL_sound_139 rfl rfl ?_
              refine j_iload X 8 dL_sound_140 rfl ?_
              refine j_callSi X (rest := []) (c_L_ports l hm) m_yL_ports kM_RL_42 rfl rfl (Nat.le_of_ble_eq_true rfl) ⟨Nat.le_of_ble_eq_true rfl, Nat.le_of_ble_eq_true rfl, Nat.le_of_ble_eq_true rfl, Nat.le_of_ble_eq_true rfl⟩ dL_sound_142 ?_
              refine j_if_ne X (tgt := 150) dL_sound_145 (by decide) (fun _ => ?_) (fun c_ => absurd c_ (by decide))
              refine j_iinc X 8 (k := 1) (v := (nI (j + 1))) (L' := [(7, .int (nI (j + 1))), (6, .int ((soL S j) ||| (1 <<< ((nI j) &&& 31)))), (5, .int ((soA S j) + (xAccount S (nI j) 0))), (4, .int ((soF S j) + (xPort S (nI j) 5))), (3, .int ((soC S j) + 1)), (2, .int ((soH S j) + 0)), (1, .int ((soO S j) + (xPort S (nI j) 1))), (8, .int (xPort S (nI j) 4)), (0, .ref b)]) dL_sound_150 rfl (by decide) (by decide) (nI_succ j).symm rfl ?_
              refine j_goto X (tgt := 18) dL_sound_153 (by decide) ?_
              refine j_sub [8, 6, 5, 4, 3, 2, 1, 0] (L' := [(0, .ref b), (1, .int (soO S (j + 1))), (2, .int (soH S (j + 1))), (3, .int (soC S (j + 1))), (4, .int (soF S (j + 1))), (5, .int (soA S (j + 1))), (6, .int (soL S (j + 1))), (7, .int (nI (j + 1)))]) (by first | with_reducible rfl | (simp only [soO, soH, soC, soF, soA, soL, if_pos c_22, if_neg c_52, if_neg c_65, if_pos c_114, if_pos c_125]; done) | (simp only [soO, soH, soC, soF, soA, soL, if_pos c_22, if_neg c_52, if_neg c_65, if_pos c_114, if_pos c_125]; rfl) | rfl) ?_
              exact ih (j + 1) (by omega)
      · refine j_iconst X (v := 1) dL_sound_55 (by decide) ?_
        refine j_goto X (tgt := 60) dL_sound_56 (by decide) ?_
        refine j_iadd X dL_sound_60 ?_
        refine j_istore_n X (L' := [(2, .int ((soH S j) + 1)), (1, .int ((soO S j) + (xPort S (nI j) 1))), (8, .int (xPort S (nI j) 4)), (0, .ref b), (3, .int (soC S j)), (4, .int (soF S j)), (5, .int (soA S j)), (6, .int (soL S j)), (7, .int (nI j))]) dL_sound_61 rfl (by decide) rfl ?_
        refine j_iload_n X 4 dL_sound_62 rfl rfl ?_
        refine j_iload X 2 dL_sound_63 rfl ?_
        refine j_if_lt X (tgt := 72) dL_sound_65 (by decide) (fun c_65 => ?_) (fun c_65 => ?_)
        · refine j_iconst X (v := 0) dL_sound_72 (by decide) ?_
          refine j_iadd X dL_sound_73 ?_
          refine j_istore_n X (L' := [(3, .int ((soC S j) + 0)), (2, .int ((soH S j) + 1)), (1, .int ((soO S j) + (xPort S (nI j) 1))), (8, .int (xPort S (nI j) 4)), (0, .ref b), (4, .int (soF S j)), (5, .int (soA S j)), (6, .int (soL S j)), (7, .int (nI j))]) dL_sound_74 rfl (by decide) rfl ?_
          refine j_iload X 5 dL_sound_75 rfl ?_
          refine j_aload_n X 4 dL_sound_77 rfl rfl ?_
          refine j_iload X 8 dL_sound_78 rfl ?_
          refine j_iconst X (v := 5) dL_sound_80 (by decide) ?_
          refine j_callVi X (rest := [.int (soF S j)]) (c_X9_port l) m_yX9_port kM_RL_19 xput_0 rfl rfl rfl rfl rfl (Nat.le_of_ble_eq_true rfl) ⟨Nat.le_of_ble_eq_true rfl, Nat.le_of_ble_eq_true rfl, Nat.le_of_ble_eq_true rfl, Nat.le_of_ble_eq_true rfl⟩ dL_sound_81 ?_
          refine j_iadd X dL_sound_84 ?_
          refine j_istore X (L' := [(4, .int ((soF S j) + (xPort S (nI j) 5))), (3, .int ((soC S j) + 0)), (2, .int ((soH S j) + 1)), (1, .int ((soO S j) + (xPort S (nI j) 1))), (8, .int (xPort S (nI j) 4)), (0, .ref b), (5, .int (soA S j)), (6, .int (soL S j)), (7, .int (nI j))]) dL_sound_85 (by decide) rfl ?_
          refine j_iload X 6 dL_sound_87 rfl ?_
          refine j_aload_n X 5 dL_sound_89 rfl rfl ?_
          refine j_iload X 8 dL_sound_90 rfl ?_
          refine j_iconst X (v := 0) dL_sound_92 (by decide) ?_
          refine j_callVi X (rest := [.int (soA S j)]) (c_X9_account l) m_yX9_account kM_RL_23 xput_0 rfl rfl rfl rfl rfl (Nat.le_of_ble_eq_true rfl) ⟨Nat.le_of_ble_eq_true rfl, Nat.le_of_ble_eq_true rfl, Nat.le_of_ble_eq_true rfl, Nat.le_of_ble_eq_true rfl⟩ dL_sound_93 ?_
          refine j_iadd X dL_sound_96 ?_
          refine j_istore X (L' := [(5, .int ((soA S j) + (xAccount S (nI j) 0))), (4, .int ((soF S j) + (xPort S (nI j) 5))), (3, .int ((soC S j) + 0)), (2, .int ((soH S j) + 1)), (1, .int ((soO S j) + (xPort S (nI j) 1))), (8, .int (xPort S (nI j) 4)), (0, .ref b), (6, .int (soL S j)), (7, .int (nI j))]) dL_sound_97 (by decide) rfl ?_
          refine j_iload X 7 dL_sound_99 rfl ?_
          refine j_iload X 5 dL_sound_101 rfl ?_
          refine j_if_lt X (tgt := 135) dL_sound_103 (by decide) (fun _ => ?_) (fun c_ => absurd c_65 c_)
          refine j_iconst X (v := 0) dL_sound_135 (by decide) ?_
          refine j_ior X dL_sound_136 ?_
          refine j_istore X (L' := [(6, .int ((soL S j) ||| 0)), (5, .int ((soA S j) + (xAccount S (nI j) 0))), (4, .int ((soF S j) + (xPort S (nI j) 5))), (3, .int ((soC S j) + 0)), (2, .int ((soH S j) + 1)), (1, .int ((soO S j) + (xPort S (nI j) 1))), (8, .int (xPort S (nI j) 4)), (0, .ref b), (7, .int (nI j))]) dL_sound_137 (by decide) rfl ?_
          refine j_aload_n X 7 dL_sound_139 rfl rfl ?_
          refine j_iload X 8 dL_sound_140 rfl ?_
          refine j_callSi X (rest := []) (c_L_ports l hm) m_yL_ports kM_RL_42 rfl rfl (Nat.le_of_ble_eq_true rfl) ⟨Nat.le_of_ble_eq_true rfl, Nat.le_of_ble_eq_true rfl, Nat.le_of_ble_eq_true rfl, Nat.le_of_ble_eq_true rfl⟩ dL_sound_142 ?_
          refine j_if_ne X (tgt := 150) dL_sound_145 (by decide) (fun _ => ?_) (fun c_ => absurd c_ (by decide))
          refine j_iinc X 8 (k := 1) (v := (nI (j + 1))) (L' := [(7, .int (nI (j + 1))), (6, .int ((soL S j) ||| 0)), (5, .int ((soA S j) + (xAccount S (nI j) 0))), (4, .int ((soF S j) + (xPort S (nI j) 5))), (3, .int ((soC S j) + 0)), (2, .int ((soH S j) + 1)), (1, .int ((soO S j) + (xPort S (nI j) 1))), (8, .int (xPort S (nI j) 4)), (0, .ref b)]) dL_sound_150 rfl (by decide) (by decide) (nI_succ j).symm rfl ?_
          refine j_goto X (tgt := 18) dL_sound_153 (by decide) ?_
          refine j_sub [8, 6, 5, 4, 3, 2, 1, 0] (L' := [(0, .ref b), (1, .int (soO S (j + 1))), (2, .int (soH S (j + 1))), (3, .int (soC S (j + 1))), (4, .int (soF S (j + 1))), (5, .int (soA S (j + 1))), (6, .int (soL S (j + 1))), (7, .int (nI (j + 1)))]) (by first | with_reducible rfl | (simp only [soO, soH, soC, soF, soA, soL, if_pos c_22, if_pos c_52, if_pos c_65]; done) | (simp only [soO, soH, soC, soF, soA, soL, if_pos c_22, if_pos c_52, if_pos c_65]; rfl) | rfl) ?_
          exact ih (j + 1) (by omega)
        · refine j_iconst X (v := 1) dL_sound_68 (by decide) ?_
          refine j_goto X (tgt := 73) dL_sound_69 (by decide) ?_
          refine j_iadd X dL_sound_73 ?_
          refine j_istore_n X (L' := [(3, .int ((soC S j) + 1)), (2, .int ((soH S j) + 1)), (1, .int ((soO S j) + (xPort S (nI j) 1))), (8, .int (xPort S (nI j) 4)), (0, .ref b), (4, .int (soF S j)), (5, .int (soA S j)), (6, .int (soL S j)), (7, .int (nI j))]) dL_sound_74 rfl (by decide) rfl ?_
          refine j_iload X 5 dL_sound_75 rfl ?_
          refine j_aload_n X 4 dL_sound_77 rfl rfl ?_
          refine j_iload X 8 dL_sound_78 rfl ?_
          refine j_iconst X (v := 5) dL_sound_80 (by decide) ?_
          refine j_callVi X (rest := [.int (soF S j)]) (c_X9_port l) m_yX9_port kM_RL_19 xput_0 rfl rfl rfl rfl rfl (Nat.le_of_ble_eq_true rfl) ⟨Nat.le_of_ble_eq_true rfl, Nat.le_of_ble_eq_true rfl, Nat.le_of_ble_eq_true rfl, Nat.le_of_ble_eq_true rfl⟩ dL_sound_81 ?_
          refine j_iadd X dL_sound_84 ?_
          refine j_istore X (L' := [(4, .int ((soF S j) + (xPort S (nI j) 5))), (3, .int ((soC S j) + 1)), (2, .int ((soH S j) + 1)), (1, .int ((soO S j) + (xPort S (nI j) 1))), (8, .int (xPort S (nI j) 4)), (0, .ref b), (5, .int (soA S j)), (6, .int (soL S j)), (7, .int (nI j))]) dL_sound_85 (by decide) rfl ?_
          refine j_iload X 6 dL_sound_87 rfl ?_
          refine j_aload_n X 5 dL_sound_89 rfl rfl ?_
          refine j_iload X 8 dL_sound_90 rfl ?_
          refine j_iconst X (v := 0) dL_sound_92 (by decide) ?_
          refine j_callVi X (rest := [.int (soA S j)]) (c_X9_account l) m_yX9_account kM_RL_23 xput_0 rfl rfl rfl rfl rfl (Nat.le_of_ble_eq_true rfl) ⟨Nat.le_of_ble_eq_true rfl, Nat.le_of_ble_eq_true rfl, Nat.le_of_ble_eq_true rfl, Nat.le_of_ble_eq_true rfl⟩ dL_sound_93 ?_
          refine j_iadd X dL_sound_96 ?_
          refine j_istore X (L' := [(5, .int ((soA S j) + (xAccount S (nI j) 0))), (4, .int ((soF S j) + (xPort S (nI j) 5))), (3, .int ((soC S j) + 1)), (2, .int ((soH S j) + 1)), (1, .int ((soO S j) + (xPort S (nI j) 1))), (8, .int (xPort S (nI j) 4)), (0, .ref b), (6, .int (soL S j)), (7, .int (nI j))]) dL_sound_97 (by decide) rfl ?_
          refine j_iload X 7 dL_sound_99 rfl ?_
          refine j_iload X 5 dL_sound_101 rfl ?_
          refine j_if_lt X (tgt := 135) dL_sound_103 (by decide) (fun c_ => absurd c_ c_65) (fun _ => ?_)
          refine j_aload_n X 6 dL_sound_106 rfl rfl ?_
          refine j_iload X 8 dL_sound_107 rfl ?_
          refine j_iconst X (v := 1) dL_sound_109 (by decide) ?_
          refine j_callVi X (rest := [.int (soL S j)]) (c_X9_port l) m_yX9_port kM_RL_19 xput_0 rfl rfl rfl rfl rfl (Nat.le_of_ble_eq_true rfl) ⟨Nat.le_of_ble_eq_true rfl, Nat.le_of_ble_eq_true rfl, Nat.le_of_ble_eq_true rfl, Nat.le_of_ble_eq_true rfl⟩ dL_sound_110 ?_
          refine j_iconst X (v := 1) dL_sound_113 (by decide) ?_
          refine j_icmp_ne X (tgt := 135) dL_sound_114 (by decide) (fun c_114 => ?_) (fun c_114 => ?_)
          · refine j_iconst X (v := 0) dL_sound_135 (by decide) ?_
            refine j_ior X dL_sound_136 ?_
            refine j_istore X (L' := [(6, .int ((soL S j) ||| 0)), (5, .int ((soA S j) + (xAccount S (nI j) 0))), (4, .int ((soF S j) + (xPort S (nI j) 5))), (3, .int ((soC S j) + 1)), (2, .int ((soH S j) + 1)), (1, .int ((soO S j) + (xPort S (nI j) 1))), (8, .int (xPort S (nI j) 4)), (0, .ref b), (7, .int (nI j))]) dL_sound_137 (by decide) rfl ?_
            refine j_aload_n X 7 dL_sound_139 rfl rfl ?_
            refine j_iload X 8 dL_sound_140 rfl ?_
            refine j_callSi X (rest := []) (c_L_ports l hm) m_yL_ports kM_RL_42 rfl rfl (Nat.le_of_ble_eq_true rfl) ⟨Nat.le_of_ble_eq_true rfl, Nat.le_of_ble_eq_true rfl, Nat.le_of_ble_eq_true rfl, Nat.le_of_ble_eq_true rfl⟩ dL_sound_142 ?_
            refine j_if_ne X (tgt := 150) dL_sound_145 (by decide) (fun _ => ?_) (fun c_ => absurd c_ (by decide))
            refine j_iinc X 8 (k := 1) (v := (nI (j + 1))) (L' := [(7, .int (nI (j + 1))), (6, .int ((soL S j) ||| 0)), (5, .int ((soA S j) + (xAccount S (nI j) 0))), (4, .int ((soF S j) + (xPort S (nI j) 5))), (3, .int ((soC S j) + 1)), (2, .int ((soH S j) + 1)), (1, .int ((soO S j) + (xPort S (nI j) 1))), (8, .int (xPort S (nI j) 4)), (0, .ref b)]) dL_sound_150 rfl (by decide) (by decide) (nI_succ j).symm rfl ?_
            refine j_goto X (tgt := 18) dL_sound_153 (by decide) ?_
            refine j_sub [8, 6, 5, 4, 3, 2, 1, 0] (L' := [(0, .ref b), (1, .int (soO S (j + 1))), (2, .int (soH S (j + 1))), (3, .int (soC S (j + 1))), (4, .int (soF S (j + 1))), (5, .int (soA S (j + 1))), (6, .int (soL S (j + 1))), (7, .int (nI (j + 1)))]) (by first | with_reducible rfl | (simp only [soO, soH, soC, soF, soA, soL, if_pos c_22, if_pos c_52, if_neg c_65, if_neg c_114]; done) | (simp only [soO, soH, soC, soF, soA, soL, if_pos c_22, if_pos c_52, if_neg c_65, if_neg c_114]; rfl) | rfl) ?_
            exact ih (j + 1) (by omega)
          · refine j_aload_n X 6 dL_sound_117 rfl rfl ?_
            refine j_iload X 5 dL_sound_118 rfl ?_
            refine j_iconst X (v := 1) dL_sound_120 (by decide) ?_
            refine j_callVi X (rest := [.int (soL S j)]) (c_X9_port l) m_yX9_port kM_RL_19 xput_0 rfl rfl rfl rfl rfl (Nat.le_of_ble_eq_true rfl) ⟨Nat.le_of_ble_eq_true rfl, Nat.le_of_ble_eq_true rfl, Nat.le_of_ble_eq_true rfl, Nat.le_of_ble_eq_true rfl⟩ dL_sound_121 ?_
            refine j_iconst X (v := 1) dL_sound_124 (by decide) ?_
            refine j_icmp_ne X (tgt := 135) dL_sound_125 (by decide) (fun c_125 => ?_) (fun c_125 => ?_)
            · refine j_iconst X (v := 0) dL_sound_135 (by decide) ?_
              refine j_ior X dL_sound_136 ?_
              refine j_istore X (L' := [(6, .int ((soL S j) ||| 0)), (5, .int ((soA S j) + (xAccount S (nI j) 0))), (4, .int ((soF S j) + (xPort S (nI j) 5))), (3, .int ((soC S j) + 1)), (2, .int ((soH S j) + 1)), (1, .int ((soO S j) + (xPort S (nI j) 1))), (8, .int (xPort S (nI j) 4)), (0, .ref b), (7, .int (nI j))]) dL_sound_137 (by decide) rfl ?_
              refine j_aload_n X 7 dL_sound_139 rfl rfl ?_
              refine j_iload X 8 dL_sound_140 rfl ?_
              refine j_callSi X (rest := []) (c_L_ports l hm) m_yL_ports kM_RL_42 rfl rfl (Nat.le_of_ble_eq_true rfl) ⟨Nat.le_of_ble_eq_true rfl, Nat.le_of_ble_eq_true rfl, Nat.le_of_ble_eq_true rfl, Nat.le_of_ble_eq_true rfl⟩ dL_sound_142 ?_
              refine j_if_ne X (tgt := 150) dL_sound_145 (by decide) (fun _ => ?_) (fun c_ => absurd c_ (by decide))
              refine j_iinc X 8 (k := 1) (v := (nI (j + 1))) (L' := [(7, .int (nI (j + 1))), (6, .int ((soL S j) ||| 0)), (5, .int ((soA S j) + (xAccount S (nI j) 0))), (4, .int ((soF S j) + (xPort S (nI j) 5))), (3, .int ((soC S j) + 1)), (2, .int ((soH S j) + 1)), (1, .int ((soO S j) + (xPort S (nI j) 1))), (8, .int (xPort S (nI j) 4)), (0, .ref b)]) dL_sound_150 rfl (by decide) (by decide) (nI_succ j).symm rfl ?_
              refine j_goto X (tgt := 18) dL_sound_153 (by decide) ?_
              refine j_sub [8, 6, 5, 4, 3, 2, 1, 0] (L' := [(0, .ref b), (1, .int (soO S (j + 1))), (2, .int (soH S (j + 1))), (3, .int (soC S (j + 1))), (4, .int (soF S (j + 1))), (5, .int (soA S (j + 1))), (6, .int (soL S (j + 1))), (7, .int (nI (j + 1)))]) (by first | with_reducible rfl | (simp only [soO, soH, soC, soF, soA, soL, if_pos c_22, if_pos c_52, if_neg c_65, if_pos c_114, if_neg c_125]; done) | (simp only [soO, soH, soC, soF, soA, soL, if_pos c_22, if_pos c_52, if_neg c_65, if_pos c_114, if_neg c_125]; rfl) | rfl) ?_
              exact ih (j + 1) (by omega)
            · refine j_iconst X (v := 1) dL_sound_128 (by decide) ?_
              refine j_iload X 8 dL_sound_129 rfl ?_
              refine j_ishl X dL_sound_131 ?_
              refine j_goto X (tgt := 136) dL_sound_132 (by decide) ?_
              refine j_ior X dL_sound_136 ?_
              refine j_istore X (L' := [(6, .int ((soL S j) ||| (1 <<< ((nI j) &&& 31)))), (5, .int ((soA S j) + (xAccount S (nI j) 0))), (4, .int ((soF S j) + (xPort S (nI j) 5))), (3, .int ((soC S j) + 1)), (2, .int ((soH S j) + 1)), (1, .int ((soO S j) + (xPort S (nI j) 1))), (8, .int (xPort S (nI j) 4)), (0, .ref b), (7, .int (nI j))]) dL_sound_137 (by decide) rfl ?_
              refine j_aload_n X 7 dL_sound_139 rfl rfl ?_
              refine j_iload X 8 dL_sound_140 rfl ?_
              refine j_callSi X (rest := []) (c_L_ports l hm) m_yL_ports kM_RL_42 rfl rfl (Nat.le_of_ble_eq_true rfl) ⟨Nat.le_of_ble_eq_true rfl, Nat.le_of_ble_eq_true rfl, Nat.le_of_ble_eq_true rfl, Nat.le_of_ble_eq_true rfl⟩ dL_sound_142 ?_
              refine j_if_ne X (tgt := 150) dL_sound_145 (by decide) (fun _ => ?_) (fun c_ => absurd c_ (by decide))
              refine j_iinc X 8 (k := 1) (v := (nI (j + 1))) (L' := [(7, .int (nI (j + 1))), (6, .int ((soL S j) ||| (1 <<< ((nI j) &&& 31)))), (5, .int ((soA S j) + (xAccount S (nI j) 0))), (4, .int ((soF S j) + (xPort S (nI j) 5))), (3, .int ((soC S j) + 1)), (2, .int ((soH S j) + 1)), (1, .int ((soO S j) + (xPort S (nI j) 1))), (8, .int (xPort S (nI j) 4)), (0, .ref b)]) dL_sound_150 rfl (by decide) (by decide) (nI_succ j).symm rfl ?_
              refine j_goto X (tgt := 18) dL_sound_153 (by decide) ?_
              refine j_sub [8, 6, 5, 4, 3, 2, 1, 0] (L' := [(0, .ref b), (1, .int (soO S (j + 1))), (2, .int (soH S (j + 1))), (3, .int (soC S (j + 1))), (4, .int (soF S (j + 1))), (5, .int (soA S (j + 1))), (6, .int (soL S (j + 1))), (7, .int (nI (j + 1)))]) (by first | with_reducible rfl | (simp only [soO, soH, soC, soF, soA, soL, if_pos c_22, if_pos c_52, if_neg c_65, if_pos c_114, if_pos c_125]; done) | (simp only [soO, soH, soC, soF, soA, soL, if_pos c_22, if_pos c_52, if_neg c_65, if_pos c_114, if_pos c_125]; rfl) | rfl) ?_
              exact ih (j + 1) (by omega)
  refine j_sub [7, 6, 5, 4, 3, 2, 1, 0] (L' := [(0, .ref b), (1, .int (soO S 0)), (2, .int (soH S 0)), (3, .int (soC S 0)), (4, .int (soF S 0)), (5, .int (soA S 0)), (6, .int (soL S 0)), (7, .int (nI 0))]) (by first | with_reducible rfl | (simp only [soO, soH, soC, soF, soA, soL]; done) | (simp only [soO, soH, soC, soF, soA, soL]; rfl) | rfl) ?_
  exact loop18_1 8 0 (by omega)
