set_option maxRecDepth 100000 in
set_option maxHeartbeats 8000000 in
theorem c_L_low (l : Launch) {D : DD} {B z : Nat} {h : HF} {x n : Int32} (hn : ¬ n = 0) : CT l yL_low cL_low 2 (some .int) 0 0 [.int x, .int n] D B z (h) (some (.int (lowF x n))) 0 0 (h) := by
  refine CT.of (L := [(0, .int x), (1, .int n)]) (by decide +kernel) (Nat.le_of_ble_eq_true rfl) rfl ?_
  intro P E S0 M0 AR BL ME CO X hr hnm
  refine j_iload_n X 0 dL_low_0 rfl rfl ?_
  refine j_ldc X kK_RL_8 dL_low_1 ?_
  refine j_iand X dL_low_3 ?_
  refine j_iload_n X 1 dL_low_4 rfl rfl ?_
  refine j_irem X dL_low_5 hn ?_
  exact j_iret X hr rfl rfl rfl rfl dL_low_6
set_option maxRecDepth 100000 in
set_option maxHeartbeats 8000000 in
theorem c_L_openSet (l : Launch) {D : DD} {B z : Nat} {h : HF} {b : Nat} {S : Sy} : CT l yL_openSet cL_openSet 3 (some .int) 3 66 [.ref b] D B z (xput D h b S) (some (.int (oS S 8))) 0 0 (xput D h b S) := by
  refine CT.of (L := [(0, .ref b)]) (by decide +kernel) (Nat.le_of_ble_eq_true rfl) rfl ?_
  intro P E S0 M0 AR BL ME CO X hr hnm
  refine j_iconst X (v := 0) dL_openSet_0 (by decide) ?_
  refine j_istore_n X (L' := [(1, .int 0), (0, .ref b)]) dL_openSet_1 rfl (by decide) rfl ?_
  refine j_iconst X (v := 0) dL_openSet_2 (by decide) ?_
  refine j_istore_n X (L' := [(2, .int 0), (1, .int 0), (0, .ref b)]) dL_openSet_3 rfl (by decide) rfl ?_
  have loop4_1 : ∀ (n j : Nat), j + n = 8 → J P l E { frames := 3, cells := 0, slots := 0, locals := 66 } S0 M0 AR BL ME CO D B 3 (MQ BL (QC (some (.int (oS S 8))) D B (z + 0) (xput D h b S)) AR S0 0 0 (aB B)) 0 0 z (xput D h b S) [(0, .ref b), (1, .int (oS S j)), (2, .int (nI j))] [] 4 := by
    intro n
    induction n with
    | zero =>
      intro j hj
      obtain rfl : j = 8 := by omega
      refine j_iload_n X 2 dL_openSet_4 rfl rfl ?_
      refine j_bipush X (v := 8) dL_openSet_5 (by decide) ?_
      refine j_icmp_ge X (tgt := 27) dL_openSet_7 (by decide) (fun c_7 => ?_) (fun c_7 => absurd c_7 (by decide))
      refine j_iload_n X 1 dL_openSet_27 rfl rfl ?_
      exact j_iret X hr rfl rfl rfl rfl dL_openSet_28
    | succ n ih =>
      intro j hj
      have hlt : nI j < 8 := nlt_lit (b := 8) (by omega) (by decide)
      refine j_iload_n X 2 dL_openSet_4 rfl rfl ?_
      refine j_bipush X (v := 8) dL_openSet_5 (by decide) ?_
      refine j_icmp_ge X (tgt := 27) dL_openSet_7 (by decide) (fun c_7 => absurd hlt c_7) (fun c_7 => ?_)
      refine j_iload_n X 1 dL_openSet_10 rfl rfl ?_
      refine j_aload_n X 0 dL_openSet_11 rfl rfl ?_
      refine j_iload_n X 2 dL_openSet_12 rfl rfl ?_
      refine j_iconst X (v := 1) dL_openSet_13 (by decide) ?_
      refine j_callVi X (rest := [.int (oS S j)]) (c_X9_port l) m_yX9_port kM_RL_19 xput_0 rfl rfl rfl rfl rfl (Nat.le_of_ble_eq_true rfl) ⟨Nat.le_of_ble_eq_true rfl, Nat.le_of_ble_eq_true rfl, Nat.le_of_ble_eq_true rfl, Nat.le_of_ble_eq_true rfl⟩ dL_openSet_14 ?_
      refine j_iload_n X 2 dL_openSet_17 rfl rfl ?_
      refine j_ishl X dL_openSet_18 ?_
      refine j_ior X dL_openSet_19 ?_
      refine j_istore_n X (L' := [(1, .int ((oS S j) ||| ((xPort S (nI j) 1) <<< ((nI j) &&& 31)))), (0, .ref b), (2, .int (nI j))]) dL_openSet_20 rfl (by decide) rfl ?_
      refine j_iinc X 2 (k := 1) (v := (nI (j + 1))) (L' := [(2, .int (nI (j + 1))), (1, .int ((oS S j) ||| ((xPort S (nI j) 1) <<< ((nI j) &&& 31)))), (0, .ref b)]) dL_openSet_21 rfl (by decide) (by decide) (nI_succ j).symm rfl ?_
      refine j_goto X (tgt := 4) dL_openSet_24 (by decide) ?_
      refine j_sub [2, 1, 0] (L' := [(0, .ref b), (1, .int (oS S (j + 1))), (2, .int (nI (j + 1)))]) rfl ?_
      exact ih (j + 1) (by omega)
  refine j_sub [2, 1, 0] (L' := [(0, .ref b), (1, .int (oS S 0)), (2, .int (nI 0))]) rfl ?_
  exact loop4_1 8 0 (by omega)
set_option maxRecDepth 100000 in
set_option maxHeartbeats 8000000 in
theorem c_L_digest (l : Launch) {D : DD} {B z : Nat} {h : HF} {b : Nat} {S : Sy} : CT l yL_digest cL_digest 5 (some .long) 4 86 [.ref b] D B z (xput D h b S) (some (.long (dg S))) 0 0 (xput D h b S) := by
  refine CT.of (L := [(0, .ref b)]) (by decide +kernel) (Nat.le_of_ble_eq_true rfl) rfl ?_
  intro P E S0 M0 AR BL ME CO X hr hnm
  refine j_ldc2 X kK_RL_9 dL_digest_0 ?_
  refine j_lstore_n X (L' := [(1, .long 59), (0, .ref b)]) dL_digest_3 rfl (by decide) rfl ?_
  refine j_iconst X (v := 0) dL_digest_4 (by decide) ?_
  refine j_istore_n X (L' := [(3, .int 0), (1, .long 59), (0, .ref b)]) dL_digest_5 rfl (by decide) rfl ?_
  have loop6_1 : ∀ (n j : Nat), j + n = 13 → J P l E { frames := 4, cells := 0, slots := 0, locals := 86 } S0 M0 AR BL ME CO D B 5 (MQ BL (QC (some (.long (dg S))) D B (z + 0) (xput D h b S)) AR S0 0 0 (aB B)) 0 0 z (xput D h b S) [(0, .ref b), (1, .long (dC S j)), (3, .int (nI j))] [] 6 := by
    intro n
    induction n with
    | zero =>
      intro j hj
      obtain rfl : j = 13 := by omega
      refine j_iload_n X 2 dL_digest_6 rfl rfl ?_
      refine j_bipush X (v := 13) dL_digest_7 (by decide) ?_
      refine j_icmp_ge X (tgt := 31) dL_digest_9 (by decide) (fun c_9 => ?_) (fun c_9 => absurd c_9 (by decide))
      refine j_iconst X (v := 0) dL_digest_31 (by decide) ?_
      refine j_istore_n X (L' := [(3, .int 0), (0, .ref b), (1, .long (dC S 13))]) dL_digest_32 rfl (by decide) rfl ?_
      have loop33_2 : ∀ (n p : Nat), p + n = 8 → J P l E { frames := 4, cells := 0, slots := 0, locals := 86 } S0 M0 AR BL ME CO D B 5 (MQ BL (QC (some (.long (dg S))) D B (z + 0) (xput D h b S)) AR S0 0 0 (aB B)) 0 0 z (xput D h b S) [(0, .ref b), (1, .long (dPP S p)), (3, .int (nI p))] [] 33 := by
        intro n
        induction n with
        | zero =>
          intro p hj
          obtain rfl : p = 8 := by omega
          refine j_iload_n X 2 dL_digest_33 rfl rfl ?_
          refine j_bipush X (v := 8) dL_digest_34 (by decide) ?_
          refine j_icmp_ge X (tgt := 185) dL_digest_36 (by decide) (fun c_36 => ?_) (fun c_36 => absurd c_36 (by decide))
          refine j_iconst X (v := 0) dL_digest_185 (by decide) ?_
          refine j_istore_n X (L' := [(3, .int 0), (0, .ref b), (1, .long (dPP S 8))]) dL_digest_186 rfl (by decide) rfl ?_
          have loop187_3 : ∀ (n j : Nat), j + n = (xCount S 5).toNatClampNeg → J P l E { frames := 4, cells := 0, slots := 0, locals := 86 } S0 M0 AR BL ME CO D B 5 (MQ BL (QC (some (.long (dg S))) D B (z + 0) (xput D h b S)) AR S0 0 0 (aB B)) 0 0 z (xput D h b S) [(0, .ref b), (1, .long (dE S j)), (3, .int (nI j))] [] 187 := by
            intro n
            induction n with
            | zero =>
              intro j hj
              obtain rfl : (xCount S 5).toNatClampNeg = j := by omega
              refine j_iload_n X 2 dL_digest_187 rfl rfl ?_
              refine j_aload_n X 0 dL_digest_188 rfl rfl ?_
              refine j_iconst X (v := 5) dL_digest_189 (by decide) ?_
              refine j_callVi X (rest := [.int (nI (xCount S 5).toNatClampNeg)]) (c_X9_count l) m_yX9_count kM_RL_13 xput_0 rfl rfl rfl rfl rfl (Nat.le_of_ble_eq_true rfl) ⟨Nat.le_of_ble_eq_true rfl, Nat.le_of_ble_eq_true rfl, Nat.le_of_ble_eq_true rfl, Nat.le_of_ble_eq_true rfl⟩ dL_digest_190 ?_
              refine j_icmp_ge X (tgt := 252) dL_digest_193 (by decide) (fun c_193 => ?_) (fun c_193 => absurd c_193 (cl_nlt _))
              refine j_lload_n X 1 dL_digest_252 rfl rfl ?_
              exact j_lret X hr rfl rfl rfl dL_digest_253
            | succ n ih =>
              intro j hj
              refine j_iload_n X 2 dL_digest_187 rfl rfl ?_
              refine j_aload_n X 0 dL_digest_188 rfl rfl ?_
              refine j_iconst X (v := 5) dL_digest_189 (by decide) ?_
              refine j_callVi X (rest := [.int (nI j)]) (c_X9_count l) m_yX9_count kM_RL_13 xput_0 rfl rfl rfl rfl rfl (Nat.le_of_ble_eq_true rfl) ⟨Nat.le_of_ble_eq_true rfl, Nat.le_of_ble_eq_true rfl, Nat.le_of_ble_eq_true rfl, Nat.le_of_ble_eq_true rfl⟩ dL_digest_190 ?_
              refine j_icmp_ge X (tgt := 252) dL_digest_193 (by decide) (fun c_193 => absurd (cl_lt (by omega)) c_193) (fun c_193 => ?_)
              refine j_ldc2 X kK_RL_11 dL_digest_196 ?_
              refine j_lload_n X 1 dL_digest_199 rfl rfl ?_
              refine j_lmul X dL_digest_200 ?_
              refine j_ldc2 X kK_RL_26 dL_digest_201 ?_
              refine j_aload_n X 0 dL_digest_204 rfl rfl ?_
              refine j_iload_n X 2 dL_digest_205 rfl rfl ?_
              refine j_iconst X (v := 0) dL_digest_206 (by decide) ?_
              refine j_callVi X (rest := [.long 1000, .long (31 * (dE S j))]) (c_X9_entry l) m_yX9_entry kM_RL_36 xput_0 rfl rfl rfl rfl rfl (Nat.le_of_ble_eq_true rfl) ⟨Nat.le_of_ble_eq_true rfl, Nat.le_of_ble_eq_true rfl, Nat.le_of_ble_eq_true rfl, Nat.le_of_ble_eq_true rfl⟩ dL_digest_207 ?_
              refine j_i2l X dL_digest_210 ?_
              refine j_lmul X dL_digest_211 ?_
              refine j_ladd X dL_digest_212 ?_
              refine j_ldc2 X kK_RL_32 dL_digest_213 ?_
              refine j_aload_n X 0 dL_digest_216 rfl rfl ?_
              refine j_iload_n X 2 dL_digest_217 rfl rfl ?_
              refine j_iconst X (v := 1) dL_digest_218 (by decide) ?_
              refine j_callVi X (rest := [.long 100, .long ((31 * (dE S j)) + (1000 * ((xEntry S (nI j) 0).toInt64)))]) (c_X9_entry l) m_yX9_entry kM_RL_36 xput_0 rfl rfl rfl rfl rfl (Nat.le_of_ble_eq_true rfl) ⟨Nat.le_of_ble_eq_true rfl, Nat.le_of_ble_eq_true rfl, Nat.le_of_ble_eq_true rfl, Nat.le_of_ble_eq_true rfl⟩ dL_digest_219 ?_
              refine j_i2l X dL_digest_222 ?_
              refine j_lmul X dL_digest_223 ?_
              refine j_ladd X dL_digest_224 ?_
              refine j_ldc2 X kK_RL_34 dL_digest_225 ?_
              refine j_aload_n X 0 dL_digest_228 rfl rfl ?_
              refine j_iload_n X 2 dL_digest_229 rfl rfl ?_
              refine j_iconst X (v := 2) dL_digest_230 (by decide) ?_
              refine j_callVi X (rest := [.long 10, .long (((31 * (dE S j)) + (1000 * ((xEntry S (nI j) 0).toInt64))) + (100 * ((xEntry S (nI j) 1).toInt64)))]) (c_X9_entry l) m_yX9_entry kM_RL_36 xput_0 rfl rfl rfl rfl rfl (Nat.le_of_ble_eq_true rfl) ⟨Nat.le_of_ble_eq_true rfl, Nat.le_of_ble_eq_true rfl, Nat.le_of_ble_eq_true rfl, Nat.le_of_ble_eq_true rfl⟩ dL_digest_231 ?_
              refine j_i2l X dL_digest_234 ?_
              refine j_lmul X dL_digest_235 ?_
              refine j_ladd X dL_digest_236 ?_
              refine j_aload_n X 0 dL_digest_237 rfl rfl ?_
              refine j_iload_n X 2 dL_digest_238 rfl rfl ?_
              refine j_iconst X (v := 3) dL_digest_239 (by decide) ?_
              refine j_callVi X (rest := [.long ((((31 * (dE S j)) + (1000 * ((xEntry S (nI j) 0).toInt64))) + (100 * ((xEntry S (nI j) 1).toInt64))) + (10 * ((xEntry S (nI j) 2).toInt64)))]) (c_X9_entry l) m_yX9_entry kM_RL_36 xput_0 rfl rfl rfl rfl rfl (Nat.le_of_ble_eq_true rfl) ⟨Nat.le_of_ble_eq_true rfl, Nat.le_of_ble_eq_true rfl, Nat.le_of_ble_eq_true rfl, Nat.le_of_ble_eq_true rfl⟩ dL_digest_240 ?_
              refine j_i2l X dL_digest_243 ?_
              refine j_ladd X dL_digest_244 ?_
              refine j_lstore_n X (L' := [(1, .long (((((31 * (dE S j)) + (1000 * ((xEntry S (nI j) 0).toInt64))) + (100 * ((xEntry S (nI j) 1).toInt64))) + (10 * ((xEntry S (nI j) 2).toInt64))) + ((xEntry S (nI j) 3).toInt64))), (0, .ref b), (3, .int (nI j))]) dL_digest_245 rfl (by decide) rfl ?_
              refine j_iinc X 2 (k := 1) (v := (nI (j + 1))) (L' := [(3, .int (nI (j + 1))), (1, .long (((((31 * (dE S j)) + (1000 * ((xEntry S (nI j) 0).toInt64))) + (100 * ((xEntry S (nI j) 1).toInt64))) + (10 * ((xEntry S (nI j) 2).toInt64))) + ((xEntry S (nI j) 3).toInt64))), (0, .ref b)]) dL_digest_246 rfl (by decide) (by decide) (nI_succ j).symm rfl ?_
              refine j_goto X (tgt := 187) dL_digest_249 (by decide) ?_
              refine j_sub [2, 1, 0] (L' := [(0, .ref b), (1, .long (dE S (j + 1))), (3, .int (nI (j + 1)))]) rfl ?_
              exact ih (j + 1) (by omega)
          refine j_sub [1, 2, 0] (L' := [(0, .ref b), (1, .long (dE S 0)), (3, .int (nI 0))]) rfl ?_
          exact loop187_3 ((xCount S 5).toNatClampNeg) 0 (by omega)
        | succ n ih =>
          intro p hj
          have hlt : nI p < 8 := nlt_lit (b := 8) (by omega) (by decide)
          refine j_iload_n X 2 dL_digest_33 rfl rfl ?_
          refine j_bipush X (v := 8) dL_digest_34 (by decide) ?_
          refine j_icmp_ge X (tgt := 185) dL_digest_36 (by decide) (fun c_36 => absurd hlt c_36) (fun c_36 => ?_)
          refine j_iconst X (v := 0) dL_digest_39 (by decide) ?_
          refine j_istore X (L' := [(4, .int 0), (0, .ref b), (1, .long (dPP S p)), (3, .int (nI p))]) dL_digest_40 (by decide) rfl ?_
          have loop42_4 : ∀ (n j : Nat), j + n = 8 → J P l E { frames := 4, cells := 0, slots := 0, locals := 86 } S0 M0 AR BL ME CO D B 5 (MQ BL (QC (some (.long (dg S))) D B (z + 0) (xput D h b S)) AR S0 0 0 (aB B)) 0 0 z (xput D h b S) [(0, .ref b), (1, .long (dP S (nI p) (dPP S p) j)), (3, .int (nI p)), (4, .int (nI j))] [] 42 := by
            intro n
            induction n with
            | zero =>
              intro j hj
              obtain rfl : j = 8 := by omega
              refine j_iload X 3 dL_digest_42 rfl ?_
              refine j_bipush X (v := 8) dL_digest_44 (by decide) ?_
              refine j_icmp_ge X (tgt := 70) dL_digest_46 (by decide) (fun c_46 => ?_) (fun c_46 => absurd c_46 (by decide))
              refine j_iconst X (v := 0) dL_digest_70 (by decide) ?_
              refine j_istore X (L' := [(4, .int 0), (0, .ref b), (1, .long (dP S (nI p) (dPP S p) 8)), (3, .int (nI p))]) dL_digest_71 (by decide) rfl ?_
              have loop73_5 : ∀ (n j : Nat), j + n = 11 → J P l E { frames := 4, cells := 0, slots := 0, locals := 86 } S0 M0 AR BL ME CO D B 5 (MQ BL (QC (some (.long (dg S))) D B (z + 0) (xput D h b S)) AR S0 0 0 (aB B)) 0 0 z (xput D h b S) [(0, .ref b), (1, .long (dA S (nI p) (dP S (nI p) (dPP S p) 8) j)), (3, .int (nI p)), (4, .int (nI j))] [] 73 := by
                intro n
                induction n with
                | zero =>
                  intro j hj
                  obtain rfl : j = 11 := by omega
                  refine j_iload X 3 dL_digest_73 rfl ?_
                  refine j_bipush X (v := 11) dL_digest_75 (by decide) ?_
                  refine j_icmp_ge X (tgt := 101) dL_digest_77 (by decide) (fun c_77 => ?_) (fun c_77 => absurd c_77 (by decide))
                  refine j_iconst X (v := 0) dL_digest_101 (by decide) ?_
                  refine j_istore X (L' := [(4, .int 0), (0, .ref b), (1, .long (dA S (nI p) (dP S (nI p) (dPP S p) 8) 11)), (3, .int (nI p))]) dL_digest_102 (by decide) rfl ?_
                  have loop104_6 : ∀ (n j : Nat), j + n = (xPort S (nI p) 5).toNatClampNeg → J P l E { frames := 4, cells := 0, slots := 0, locals := 86 } S0 M0 AR BL ME CO D B 5 (MQ BL (QC (some (.long (dg S))) D B (z + 0) (xput D h b S)) AR S0 0 0 (aB B)) 0 0 z (xput D h b S) [(0, .ref b), (1, .long (dQ S (nI p) (dA S (nI p) (dP S (nI p) (dPP S p) 8) 11) j)), (3, .int (nI p)), (4, .int (nI j))] [] 104 := by
                    intro n
                    induction n with
                    | zero =>
                      intro j hj
                      obtain rfl : (xPort S (nI p) 5).toNatClampNeg = j := by omega
                      refine j_iload X 3 dL_digest_104 rfl ?_
                      refine j_aload_n X 0 dL_digest_106 rfl rfl ?_
                      refine j_iload_n X 2 dL_digest_107 rfl rfl ?_
                      refine j_iconst X (v := 5) dL_digest_108 (by decide) ?_
                      refine j_callVi X (rest := [.int (nI (xPort S (nI p) 5).toNatClampNeg)]) (c_X9_port l) m_yX9_port kM_RL_19 xput_0 rfl rfl rfl rfl rfl (Nat.le_of_ble_eq_true rfl) ⟨Nat.le_of_ble_eq_true rfl, Nat.le_of_ble_eq_true rfl, Nat.le_of_ble_eq_true rfl, Nat.le_of_ble_eq_true rfl⟩ dL_digest_109 ?_
                      refine j_icmp_ge X (tgt := 179) dL_digest_112 (by decide) (fun c_112 => ?_) (fun c_112 => absurd c_112 (cl_nlt _))
                      refine j_iinc X 2 (k := 1) (v := (nI (p + 1))) (L' := [(3, .int (nI (p + 1))), (0, .ref b), (1, .long (dQ S (nI p) (dA S (nI p) (dP S (nI p) (dPP S p) 8) 11) (xPort S (nI p) 5).toNatClampNeg)), (4, .int (nI (xPort S (nI p) 5).toNatClampNeg))]) dL_digest_179 rfl (by decide) (by decide) (nI_succ p).symm rfl ?_
                      refine j_goto X (tgt := 33) dL_digest_182 (by decide) ?_
                      refine j_sub [1, 2, 0] (L' := [(0, .ref b), (1, .long (dPP S (p + 1))), (3, .int (nI (p + 1)))]) rfl ?_
                      exact ih (p + 1) (by omega)
                    | succ n ih =>
                      intro j hj
                      refine j_iload X 3 dL_digest_104 rfl ?_
                      refine j_aload_n X 0 dL_digest_106 rfl rfl ?_
                      refine j_iload_n X 2 dL_digest_107 rfl rfl ?_
                      refine j_iconst X (v := 5) dL_digest_108 (by decide) ?_
                      refine j_callVi X (rest := [.int (nI j)]) (c_X9_port l) m_yX9_port kM_RL_19 xput_0 rfl rfl rfl rfl rfl (Nat.le_of_ble_eq_true rfl) ⟨Nat.le_of_ble_eq_true rfl, Nat.le_of_ble_eq_true rfl, Nat.le_of_ble_eq_true rfl, Nat.le_of_ble_eq_true rfl⟩ dL_digest_109 ?_
                      refine j_icmp_ge X (tgt := 179) dL_digest_112 (by decide) (fun c_112 => absurd (cl_lt (by omega)) c_112) (fun c_112 => ?_)
                      refine j_ldc2 X kK_RL_11 dL_digest_115 ?_
                      refine j_lload_n X 1 dL_digest_118 rfl rfl ?_
                      refine j_lmul X dL_digest_119 ?_
                      refine j_ldc2 X kK_RL_26 dL_digest_120 ?_
                      refine j_aload_n X 0 dL_digest_123 rfl rfl ?_
                      refine j_iload_n X 2 dL_digest_124 rfl rfl ?_
                      refine j_iload X 3 dL_digest_125 rfl ?_
                      refine j_iconst X (v := 0) dL_digest_127 (by decide) ?_
                      refine j_callVi X (rest := [.long 1000, .long (31 * (dQ S (nI p) (dA S (nI p) (dP S (nI p) (dPP S p) 8) 11) j))]) (c_X9_queued l) m_yX9_queued kM_RL_28 xput_0 rfl rfl rfl rfl rfl (Nat.le_of_ble_eq_true rfl) ⟨Nat.le_of_ble_eq_true rfl, Nat.le_of_ble_eq_true rfl, Nat.le_of_ble_eq_true rfl, Nat.le_of_ble_eq_true rfl⟩ dL_digest_128 ?_
                      refine j_i2l X dL_digest_131 ?_
                      refine j_lmul X dL_digest_132 ?_
                      refine j_ladd X dL_digest_133 ?_
                      refine j_ldc2 X kK_RL_32 dL_digest_134 ?_
                      refine j_aload_n X 0 dL_digest_137 rfl rfl ?_
                      refine j_iload_n X 2 dL_digest_138 rfl rfl ?_
                      refine j_iload X 3 dL_digest_139 rfl ?_
                      refine j_iconst X (v := 1) dL_digest_141 (by decide) ?_
                      refine j_callVi X (rest := [.long 100, .long ((31 * (dQ S (nI p) (dA S (nI p) (dP S (nI p) (dPP S p) 8) 11) j)) + (1000 * ((xQueued S (nI p) (nI j) 0).toInt64)))]) (c_X9_queued l) m_yX9_queued kM_RL_28 xput_0 rfl rfl rfl rfl rfl (Nat.le_of_ble_eq_true rfl) ⟨Nat.le_of_ble_eq_true rfl, Nat.le_of_ble_eq_true rfl, Nat.le_of_ble_eq_true rfl, Nat.le_of_ble_eq_true rfl⟩ dL_digest_142 ?_
                      refine j_i2l X dL_digest_145 ?_
                      refine j_lmul X dL_digest_146 ?_
                      refine j_ladd X dL_digest_147 ?_
                      refine j_ldc2 X kK_RL_34 dL_digest_148 ?_
                      refine j_aload_n X 0 dL_digest_151 rfl rfl ?_
                      refine j_iload_n X 2 dL_digest_152 rfl rfl ?_
                      refine j_iload X 3 dL_digest_153 rfl ?_
                      refine j_iconst X (v := 2) dL_digest_155 (by decide) ?_
                      refine j_callVi X (rest := [.long 10, .long (((31 * (dQ S (nI p) (dA S (nI p) (dP S (nI p) (dPP S p) 8) 11) j)) + (1000 * ((xQueued S (nI p) (nI j) 0).toInt64))) + (100 * ((xQueued S (nI p) (nI j) 1).toInt64)))]) (c_X9_queued l) m_yX9_queued kM_RL_28 xput_0 rfl rfl rfl rfl rfl (Nat.le_of_ble_eq_true rfl) ⟨Nat.le_of_ble_eq_true rfl, Nat.le_of_ble_eq_true rfl, Nat.le_of_ble_eq_true rfl, Nat.le_of_ble_eq_true rfl⟩ dL_digest_156 ?_
                      refine j_i2l X dL_digest_159 ?_
                      refine j_lmul X dL_digest_160 ?_
                      refine j_ladd X dL_digest_161 ?_
                      refine j_aload_n X 0 dL_digest_162 rfl rfl ?_
                      refine j_iload_n X 2 dL_digest_163 rfl rfl ?_
                      refine j_iload X 3 dL_digest_164 rfl ?_
                      refine j_iconst X (v := 3) dL_digest_166 (by decide) ?_
                      refine j_callVi X (rest := [.long ((((31 * (dQ S (nI p) (dA S (nI p) (dP S (nI p) (dPP S p) 8) 11) j)) + (1000 * ((xQueued S (nI p) (nI j) 0).toInt64))) + (100 * ((xQueued S (nI p) (nI j) 1).toInt64))) + (10 * ((xQueued S (nI p) (nI j) 2).toInt64)))]) (c_X9_queued l) m_yX9_queued kM_RL_28 xput_0 rfl rfl rfl rfl rfl (Nat.le_of_ble_eq_true rfl) ⟨Nat.le_of_ble_eq_true rfl, Nat.le_of_ble_eq_true rfl, Nat.le_of_ble_eq_true rfl, Nat.le_of_ble_eq_true rfl⟩ dL_digest_167 ?_
                      refine j_i2l X dL_digest_170 ?_
                      refine j_ladd X dL_digest_171 ?_
                      refine j_lstore_n X (L' := [(1, .long (((((31 * (dQ S (nI p) (dA S (nI p) (dP S (nI p) (dPP S p) 8) 11) j)) + (1000 * ((xQueued S (nI p) (nI j) 0).toInt64))) + (100 * ((xQueued S (nI p) (nI j) 1).toInt64))) + (10 * ((xQueued S (nI p) (nI j) 2).toInt64))) + ((xQueued S (nI p) (nI j) 3).toInt64))), (0, .ref b), (3, .int (nI p)), (4, .int (nI j))]) dL_digest_172 rfl (by decide) rfl ?_
                      refine j_iinc X 3 (k := 1) (v := (nI (j + 1))) (L' := [(4, .int (nI (j + 1))), (1, .long (((((31 * (dQ S (nI p) (dA S (nI p) (dP S (nI p) (dPP S p) 8) 11) j)) + (1000 * ((xQueued S (nI p) (nI j) 0).toInt64))) + (100 * ((xQueued S (nI p) (nI j) 1).toInt64))) + (10 * ((xQueued S (nI p) (nI j) 2).toInt64))) + ((xQueued S (nI p) (nI j) 3).toInt64))), (0, .ref b), (3, .int (nI p))]) dL_digest_173 rfl (by decide) (by decide) (nI_succ j).symm rfl ?_
                      refine j_goto X (tgt := 104) dL_digest_176 (by decide) ?_
                      refine j_sub [2, 1, 3, 0] (L' := [(0, .ref b), (1, .long (dQ S (nI p) (dA S (nI p) (dP S (nI p) (dPP S p) 8) 11) (j + 1))), (3, .int (nI p)), (4, .int (nI (j + 1)))]) rfl ?_
                      exact ih (j + 1) (by omega)
                  refine j_sub [1, 2, 3, 0] (L' := [(0, .ref b), (1, .long (dQ S (nI p) (dA S (nI p) (dP S (nI p) (dPP S p) 8) 11) 0)), (3, .int (nI p)), (4, .int (nI 0))]) rfl ?_
                  exact loop104_6 ((xPort S (nI p) 5).toNatClampNeg) 0 (by omega)
                | succ n ih =>
                  intro j hj
                  have hlt2 : nI j < 11 := nlt_lit (b := 11) (by omega) (by decide)
                  refine j_iload X 3 dL_digest_73 rfl ?_
                  refine j_bipush X (v := 11) dL_digest_75 (by decide) ?_
                  refine j_icmp_ge X (tgt := 101) dL_digest_77 (by decide) (fun c_77 => absurd hlt2 c_77) (fun c_77 => ?_)
                  refine j_ldc2 X kK_RL_11 dL_digest_80 ?_
                  refine j_lload_n X 1 dL_digest_83 rfl rfl ?_
                  refine j_lmul X dL_digest_84 ?_
                  refine j_aload_n X 0 dL_digest_85 rfl rfl ?_
                  refine j_iload_n X 2 dL_digest_86 rfl rfl ?_
                  refine j_iload X 3 dL_digest_87 rfl ?_
                  refine j_callVi X (rest := [.long (31 * (dA S (nI p) (dP S (nI p) (dPP S p) 8) j))]) (c_X9_account l) m_yX9_account kM_RL_23 xput_0 rfl rfl rfl rfl rfl (Nat.le_of_ble_eq_true rfl) ⟨Nat.le_of_ble_eq_true rfl, Nat.le_of_ble_eq_true rfl, Nat.le_of_ble_eq_true rfl, Nat.le_of_ble_eq_true rfl⟩ dL_digest_89 ?_
                  refine j_i2l X dL_digest_92 ?_
                  refine j_ladd X dL_digest_93 ?_
                  refine j_lstore_n X (L' := [(1, .long ((31 * (dA S (nI p) (dP S (nI p) (dPP S p) 8) j)) + ((xAccount S (nI p) (nI j)).toInt64))), (0, .ref b), (3, .int (nI p)), (4, .int (nI j))]) dL_digest_94 rfl (by decide) rfl ?_
                  refine j_iinc X 3 (k := 1) (v := (nI (j + 1))) (L' := [(4, .int (nI (j + 1))), (1, .long ((31 * (dA S (nI p) (dP S (nI p) (dPP S p) 8) j)) + ((xAccount S (nI p) (nI j)).toInt64))), (0, .ref b), (3, .int (nI p))]) dL_digest_95 rfl (by decide) (by decide) (nI_succ j).symm rfl ?_
                  refine j_goto X (tgt := 73) dL_digest_98 (by decide) ?_
                  refine j_sub [2, 1, 3, 0] (L' := [(0, .ref b), (1, .long (dA S (nI p) (dP S (nI p) (dPP S p) 8) (j + 1))), (3, .int (nI p)), (4, .int (nI (j + 1)))]) rfl ?_
                  exact ih (j + 1) (by omega)
              refine j_sub [1, 2, 3, 0] (L' := [(0, .ref b), (1, .long (dA S (nI p) (dP S (nI p) (dPP S p) 8) 0)), (3, .int (nI p)), (4, .int (nI 0))]) rfl ?_
              exact loop73_5 11 0 (by omega)
            | succ n ih =>
              intro j hj
              have hlt2 : nI j < 8 := nlt_lit (b := 8) (by omega) (by decide)
              refine j_iload X 3 dL_digest_42 rfl ?_
              refine j_bipush X (v := 8) dL_digest_44 (by decide) ?_
              refine j_icmp_ge X (tgt := 70) dL_digest_46 (by decide) (fun c_46 => absurd hlt2 c_46) (fun c_46 => ?_)
              refine j_ldc2 X kK_RL_11 dL_digest_49 ?_
              refine j_lload_n X 1 dL_digest_52 rfl rfl ?_
              refine j_lmul X dL_digest_53 ?_
              refine j_aload_n X 0 dL_digest_54 rfl rfl ?_
              refine j_iload_n X 2 dL_digest_55 rfl rfl ?_
              refine j_iload X 3 dL_digest_56 rfl ?_
              refine j_callVi X (rest := [.long (31 * (dP S (nI p) (dPP S p) j))]) (c_X9_port l) m_yX9_port kM_RL_19 xput_0 rfl rfl rfl rfl rfl (Nat.le_of_ble_eq_true rfl) ⟨Nat.le_of_ble_eq_true rfl, Nat.le_of_ble_eq_true rfl, Nat.le_of_ble_eq_true rfl, Nat.le_of_ble_eq_true rfl⟩ dL_digest_58 ?_
              refine j_i2l X dL_digest_61 ?_
              refine j_ladd X dL_digest_62 ?_
              refine j_lstore_n X (L' := [(1, .long ((31 * (dP S (nI p) (dPP S p) j)) + ((xPort S (nI p) (nI j)).toInt64))), (0, .ref b), (3, .int (nI p)), (4, .int (nI j))]) dL_digest_63 rfl (by decide) rfl ?_
              refine j_iinc X 3 (k := 1) (v := (nI (j + 1))) (L' := [(4, .int (nI (j + 1))), (1, .long ((31 * (dP S (nI p) (dPP S p) j)) + ((xPort S (nI p) (nI j)).toInt64))), (0, .ref b), (3, .int (nI p))]) dL_digest_64 rfl (by decide) (by decide) (nI_succ j).symm rfl ?_
              refine j_goto X (tgt := 42) dL_digest_67 (by decide) ?_
              refine j_sub [2, 1, 3, 0] (L' := [(0, .ref b), (1, .long (dP S (nI p) (dPP S p) (j + 1))), (3, .int (nI p)), (4, .int (nI (j + 1)))]) rfl ?_
              exact ih (j + 1) (by omega)
          refine j_sub [1, 2, 3, 0] (L' := [(0, .ref b), (1, .long (dP S (nI p) (dPP S p) 0)), (3, .int (nI p)), (4, .int (nI 0))]) rfl ?_
          exact loop42_4 8 0 (by omega)
      refine j_sub [1, 2, 0] (L' := [(0, .ref b), (1, .long (dPP S 0)), (3, .int (nI 0))]) rfl ?_
      exact loop33_2 8 0 (by omega)
    | succ n ih =>
      intro j hj
      have hlt : nI j < 13 := nlt_lit (b := 13) (by omega) (by decide)
      refine j_iload_n X 2 dL_digest_6 rfl rfl ?_
      refine j_bipush X (v := 13) dL_digest_7 (by decide) ?_
      refine j_icmp_ge X (tgt := 31) dL_digest_9 (by decide) (fun c_9 => absurd hlt c_9) (fun c_9 => ?_)
      refine j_ldc2 X kK_RL_11 dL_digest_12 ?_
      refine j_lload_n X 1 dL_digest_15 rfl rfl ?_
      refine j_lmul X dL_digest_16 ?_
      refine j_aload_n X 0 dL_digest_17 rfl rfl ?_
      refine j_iload_n X 2 dL_digest_18 rfl rfl ?_
      refine j_callVi X (rest := [.long (31 * (dC S j))]) (c_X9_count l) m_yX9_count kM_RL_13 xput_0 rfl rfl rfl rfl rfl (Nat.le_of_ble_eq_true rfl) ⟨Nat.le_of_ble_eq_true rfl, Nat.le_of_ble_eq_true rfl, Nat.le_of_ble_eq_true rfl, Nat.le_of_ble_eq_true rfl⟩ dL_digest_19 ?_
      refine j_i2l X dL_digest_22 ?_
      refine j_ladd X dL_digest_23 ?_
      refine j_lstore_n X (L' := [(1, .long ((31 * (dC S j)) + ((xCount S (nI j)).toInt64))), (0, .ref b), (3, .int (nI j))]) dL_digest_24 rfl (by decide) rfl ?_
      refine j_iinc X 2 (k := 1) (v := (nI (j + 1))) (L' := [(3, .int (nI (j + 1))), (1, .long ((31 * (dC S j)) + ((xCount S (nI j)).toInt64))), (0, .ref b)]) dL_digest_25 rfl (by decide) (by decide) (nI_succ j).symm rfl ?_
      refine j_goto X (tgt := 6) dL_digest_28 (by decide) ?_
      refine j_sub [2, 1, 0] (L' := [(0, .ref b), (1, .long (dC S (j + 1))), (3, .int (nI (j + 1)))]) rfl ?_
      exact ih (j + 1) (by omega)
  refine j_sub [2, 1, 0] (L' := [(0, .ref b), (1, .long (dC S 0)), (3, .int (nI 0))]) rfl ?_
  exact loop6_1 13 0 (by omega)
