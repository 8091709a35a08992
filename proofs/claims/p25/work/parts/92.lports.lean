set_option maxRecDepth 100000 in
set_option maxHeartbeats 8000000 in
theorem c_L_ports (l : Launch) {D : DD} {B z : Nat} {h : HF} {b k m : Nat} {S : Sy} (H : PK S k m) : CT l yL_ports cL_ports 7 (some .boolean) 4 86 [.ref b, .int (nI k)] D B z (xput D h b S) (some (.int 1)) 0 0 (xput D h b S) := by
  obtain ⟨e5, h1, h2, h3, h4, h5, h6, h7, h8, h9, hq, hf, h12, h13, hm⟩ := H
  refine CT.of (L := [(0, .ref b), (1, .int (nI k))]) (by decide +kernel) (Nat.le_of_ble_eq_true rfl) rfl ?_
  intro P E S0 M0 AR BL ME CO X hr hnm
  refine j_iconst X (v := 0) dL_ports_0 (by decide) ?_
  refine j_istore_n X (L' := [(2, .int 0), (0, .ref b), (1, .int (nI k))]) dL_ports_1 rfl (by decide) rfl ?_
  refine j_iconst X (v := 1) dL_ports_2 (by decide) ?_
  refine j_istore_n X (L' := [(3, .int 1), (2, .int 0), (0, .ref b), (1, .int (nI k))]) dL_ports_3 rfl (by decide) rfl ?_
  have loop4_1 : ∀ (n j : Nat), j + n = 6 → J P l E { frames := 4, cells := 0, slots := 0, locals := 86 } S0 M0 AR BL ME CO D B 7 (MQ BL (QC (some (.int 1)) D B (z + 0) (xput D h b S)) AR S0 0 0 (aB B)) 0 0 z (xput D h b S) [(0, .ref b), (1, .int (nI k)), (2, .int (aS S (nI k) j)), (3, .int (nI (j + 1)))] [] 4 := by
    intro n
    induction n with
    | zero =>
      intro j hj
      obtain rfl : j = 6 := by omega
      refine j_iload_n X 3 dL_ports_4 rfl rfl ?_
      refine j_bipush X (v := 7) dL_ports_5 (by decide) ?_
      refine j_icmp_ge X (tgt := 25) dL_ports_7 (by decide) (fun c_7 => ?_) (fun c_7 => absurd c_7 (by decide))
      refine j_aload_n X 0 dL_ports_25 rfl rfl ?_
      refine j_iload_n X 1 dL_ports_26 rfl rfl ?_
      refine j_iconst X (v := 5) dL_ports_27 (by decide) ?_
      refine j_callVi X (rest := []) (k_port l e5) m_yX9_port kM_RL_19 xput_0 rfl rfl rfl rfl rfl (Nat.le_of_ble_eq_true rfl) ⟨Nat.le_of_ble_eq_true rfl, Nat.le_of_ble_eq_true rfl, Nat.le_of_ble_eq_true rfl, Nat.le_of_ble_eq_true rfl⟩ dL_ports_28 ?_
      refine j_istore_n X (L' := [(3, .int (nI m)), (0, .ref b), (1, .int (nI k)), (2, .int (aS S (nI k) 6))]) dL_ports_31 rfl (by decide) rfl ?_
      refine j_aload_n X 1 dL_ports_32 rfl rfl ?_
      refine j_iload_n X 2 dL_ports_33 rfl rfl ?_
      refine j_bipush X (v := 7) dL_ports_34 (by decide) ?_
      refine j_callVi X (rest := []) (c_X9_account l) m_yX9_account kM_RL_23 xput_0 rfl rfl rfl rfl rfl (Nat.le_of_ble_eq_true rfl) ⟨Nat.le_of_ble_eq_true rfl, Nat.le_of_ble_eq_true rfl, Nat.le_of_ble_eq_true rfl, Nat.le_of_ble_eq_true rfl⟩ dL_ports_36 ?_
      refine j_aload_n X 1 dL_ports_39 rfl rfl ?_
      refine j_iload_n X 2 dL_ports_40 rfl rfl ?_
      refine j_bipush X (v := 9) dL_ports_41 (by decide) ?_
      refine j_callVi X (rest := [.int (xAccount S (nI k) 7)]) (c_X9_account l) m_yX9_account kM_RL_23 xput_0 rfl rfl rfl rfl rfl (Nat.le_of_ble_eq_true rfl) ⟨Nat.le_of_ble_eq_true rfl, Nat.le_of_ble_eq_true rfl, Nat.le_of_ble_eq_true rfl, Nat.le_of_ble_eq_true rfl⟩ dL_ports_43 ?_
      refine j_isub X dL_ports_46 ?_
      refine j_iload_n X 0 dL_ports_47 rfl rfl ?_
      refine j_isub X dL_ports_48 ?_
      refine j_istore X (L' := [(4, .int (((xAccount S (nI k) 7) - (xAccount S (nI k) 9)) - (nI m))), (3, .int (nI m)), (0, .ref b), (1, .int (nI k)), (2, .int (aS S (nI k) 6))]) dL_ports_49 (by decide) rfl ?_
      refine j_iload_n X 4 dL_ports_51 rfl rfl ?_
      refine j_aload_n X 2 dL_ports_52 rfl rfl ?_
      refine j_iload_n X 3 dL_ports_53 rfl rfl ?_
      refine j_iconst X (v := 0) dL_ports_54 (by decide) ?_
      refine j_callVi X (rest := [.int (aS S (nI k) 6)]) (c_X9_account l) m_yX9_account kM_RL_23 xput_0 rfl rfl rfl rfl rfl (Nat.le_of_ble_eq_true rfl) ⟨Nat.le_of_ble_eq_true rfl, Nat.le_of_ble_eq_true rfl, Nat.le_of_ble_eq_true rfl, Nat.le_of_ble_eq_true rfl⟩ dL_ports_55 ?_
      refine j_icmp_ne X (tgt := 113) dL_ports_58 (by decide) (fun c_58 => absurd h1 c_58) (fun c_58 => ?_)
      refine j_iload X 0 dL_ports_61 rfl ?_
      refine j_if_lt X (tgt := 113) dL_ports_63 (by decide) (fun c_63 => absurd c_63 h2) (fun c_63 => ?_)
      refine j_iload X 0 dL_ports_66 rfl ?_
      refine j_aload_n X 2 dL_ports_68 rfl rfl ?_
      refine j_iload_n X 3 dL_ports_69 rfl rfl ?_
      refine j_bipush X (v := 8) dL_ports_70 (by decide) ?_
      refine j_callVi X (rest := [.int (((xAccount S (nI k) 7) - (xAccount S (nI k) 9)) - (nI m))]) (c_X9_account l) m_yX9_account kM_RL_23 xput_0 rfl rfl rfl rfl rfl (Nat.le_of_ble_eq_true rfl) ⟨Nat.le_of_ble_eq_true rfl, Nat.le_of_ble_eq_true rfl, Nat.le_of_ble_eq_true rfl, Nat.le_of_ble_eq_true rfl⟩ dL_ports_72 ?_
      refine j_icmp_gt X (tgt := 113) dL_ports_75 (by decide) (fun c_75 => absurd c_75 h3) (fun c_75 => ?_)
      refine j_iload_n X 1 dL_ports_78 rfl rfl ?_
      refine j_bipush X (v := 12) dL_ports_79 (by decide) ?_
      refine j_icmp_gt X (tgt := 113) dL_ports_81 (by decide) (fun c_81 => absurd c_81 h4) (fun c_81 => ?_)
      refine j_aload_n X 2 dL_ports_84 rfl rfl ?_
      refine j_iload_n X 3 dL_ports_85 rfl rfl ?_
      refine j_bipush X (v := 10) dL_ports_86 (by decide) ?_
      refine j_callVi X (rest := []) (c_X9_account l) m_yX9_account kM_RL_23 xput_0 rfl rfl rfl rfl rfl (Nat.le_of_ble_eq_true rfl) ⟨Nat.le_of_ble_eq_true rfl, Nat.le_of_ble_eq_true rfl, Nat.le_of_ble_eq_true rfl, Nat.le_of_ble_eq_true rfl⟩ dL_ports_88 ?_
      refine j_aload_n X 2 dL_ports_91 rfl rfl ?_
      refine j_iload_n X 3 dL_ports_92 rfl rfl ?_
      refine j_bipush X (v := 9) dL_ports_93 (by decide) ?_
      refine j_callVi X (rest := [.int (xAccount S (nI k) 10)]) (c_X9_account l) m_yX9_account kM_RL_23 xput_0 rfl rfl rfl rfl rfl (Nat.le_of_ble_eq_true rfl) ⟨Nat.le_of_ble_eq_true rfl, Nat.le_of_ble_eq_true rfl, Nat.le_of_ble_eq_true rfl, Nat.le_of_ble_eq_true rfl⟩ dL_ports_95 ?_
      refine j_icmp_gt X (tgt := 113) dL_ports_98 (by decide) (fun c_98 => absurd c_98 h5) (fun c_98 => ?_)
      refine j_aload_n X 2 dL_ports_101 rfl rfl ?_
      refine j_iload_n X 3 dL_ports_102 rfl rfl ?_
      refine j_bipush X (v := 11) dL_ports_103 (by decide) ?_
      refine j_callVi X (rest := []) (c_X9_account l) m_yX9_account kM_RL_23 xput_0 rfl rfl rfl rfl rfl (Nat.le_of_ble_eq_true rfl) ⟨Nat.le_of_ble_eq_true rfl, Nat.le_of_ble_eq_true rfl, Nat.le_of_ble_eq_true rfl, Nat.le_of_ble_eq_true rfl⟩ dL_ports_105 ?_
      refine j_bipush X (v := (-2)) dL_ports_108 (by decide) ?_
      refine j_icmp_eq X (tgt := 115) dL_ports_110 (by decide) (fun c_110 => ?_) (fun c_110 => absurd h6 c_110)
      have k157_2 : J P l E { frames := 4, cells := 0, slots := 0, locals := 86 } S0 M0 AR BL ME CO D B 7 (MQ BL (QC (some (.int 1)) D B (z + 0) (xput D h b S)) AR S0 0 0 (aB B)) 0 0 z (xput D h b S) [(4, .int (((xAccount S (nI k) 7) - (xAccount S (nI k) 9)) - (nI m))), (3, .int (nI m)), (0, .ref b), (1, .int (nI k)), (2, .int (aS S (nI k) 6))] [] 157 := by
        have k176_3 : J P l E { frames := 4, cells := 0, slots := 0, locals := 86 } S0 M0 AR BL ME CO D B 7 (MQ BL (QC (some (.int 1)) D B (z + 0) (xput D h b S)) AR S0 0 0 (aB B)) 0 0 z (xput D h b S) [(4, .int (((xAccount S (nI k) 7) - (xAccount S (nI k) 9)) - (nI m))), (3, .int (nI m)), (0, .ref b), (1, .int (nI k)), (2, .int (aS S (nI k) 6))] [] 176 := by
          have k205_4 : J P l E { frames := 4, cells := 0, slots := 0, locals := 86 } S0 M0 AR BL ME CO D B 7 (MQ BL (QC (some (.int 1)) D B (z + 0) (xput D h b S)) AR S0 0 0 (aB B)) 0 0 z (xput D h b S) [(4, .int (((xAccount S (nI k) 7) - (xAccount S (nI k) 9)) - (nI m))), (3, .int (nI m)), (0, .ref b), (1, .int (nI k)), (2, .int (aS S (nI k) 6))] [] 205 := by
            refine j_iconst X (v := 0) dL_ports_205 (by decide) ?_
            refine j_istore X (L' := [(5, .int 0), (4, .int (((xAccount S (nI k) 7) - (xAccount S (nI k) 9)) - (nI m))), (3, .int (nI m)), (0, .ref b), (1, .int (nI k)), (2, .int (aS S (nI k) 6))]) dL_ports_206 (by decide) rfl ?_
            have loop208_5 : ∀ (n j : Nat), j + n = m → J P l E { frames := 4, cells := 0, slots := 0, locals := 86 } S0 M0 AR BL ME CO D B 7 (MQ BL (QC (some (.int 1)) D B (z + 0) (xput D h b S)) AR S0 0 0 (aB B)) 0 0 z (xput D h b S) [(0, .ref b), (1, .int (nI k)), (3, .int (nI m)), (5, .int (nI j))] [] 208 := by
              intro n
              induction n with
              | zero =>
                intro j hj
                obtain rfl : m = j := by omega
                refine j_iload X 3 dL_ports_208 rfl ?_
                refine j_iload_n X 2 dL_ports_210 rfl rfl ?_
                refine j_icmp_ge X (tgt := 305) dL_ports_211 (by decide) (fun c_211 => ?_) (fun c_211 => absurd c_211 (nI_nlt (Nat.le_refl _) (by omega)))
                refine j_aload_n X 0 dL_ports_305 rfl rfl ?_
                refine j_iload_n X 1 dL_ports_306 rfl rfl ?_
                refine j_iconst X (v := 4) dL_ports_307 (by decide) ?_
                refine j_callVi X (rest := []) (c_X9_port l) m_yX9_port kM_RL_19 xput_0 rfl rfl rfl rfl rfl (Nat.le_of_ble_eq_true rfl) ⟨Nat.le_of_ble_eq_true rfl, Nat.le_of_ble_eq_true rfl, Nat.le_of_ble_eq_true rfl, Nat.le_of_ble_eq_true rfl⟩ dL_ports_308 ?_
                refine j_istore X (L' := [(5, .int (xPort S (nI k) 4)), (0, .ref b), (1, .int (nI k)), (3, .int (nI m))]) dL_ports_311 (by decide) rfl ?_
                have k337_6 : J P l E { frames := 4, cells := 0, slots := 0, locals := 86 } S0 M0 AR BL ME CO D B 7 (MQ BL (QC (some (.int 1)) D B (z + 0) (xput D h b S)) AR S0 0 0 (aB B)) 0 0 z (xput D h b S) [(5, .int (xPort S (nI k) 4)), (0, .ref b), (1, .int (nI k)), (3, .int (nI m))] [] 337 := by
                  refine j_aload_n X 1 dL_ports_337 rfl rfl ?_
                  refine j_iload_n X 2 dL_ports_338 rfl rfl ?_
                  refine j_iload_n X 3 dL_ports_339 rfl rfl ?_
                  refine j_iconst X (v := 0) dL_ports_340 (by decide) ?_
                  refine j_callVi X (rest := []) (c_X9_queued l) m_yX9_queued kM_RL_28 xput_0 rfl rfl rfl rfl rfl (Nat.le_of_ble_eq_true rfl) ⟨Nat.le_of_ble_eq_true rfl, Nat.le_of_ble_eq_true rfl, Nat.le_of_ble_eq_true rfl, Nat.le_of_ble_eq_true rfl⟩ dL_ports_341 ?_
                  refine j_bipush X (v := (-4)) dL_ports_344 (by decide) ?_
                  refine j_icmp_ne X (tgt := 365) dL_ports_346 (by decide) (fun c_346 => absurd h12 c_346) (fun c_346 => ?_)
                  refine j_aload_n X 1 dL_ports_349 rfl rfl ?_
                  refine j_iload_n X 2 dL_ports_350 rfl rfl ?_
                  refine j_iconst X (v := (-1)) dL_ports_351 (by decide) ?_
                  refine j_iconst X (v := 0) dL_ports_352 (by decide) ?_
                  refine j_callVi X (rest := []) (c_X9_queued l) m_yX9_queued kM_RL_28 xput_0 rfl rfl rfl rfl rfl (Nat.le_of_ble_eq_true rfl) ⟨Nat.le_of_ble_eq_true rfl, Nat.le_of_ble_eq_true rfl, Nat.le_of_ble_eq_true rfl, Nat.le_of_ble_eq_true rfl⟩ dL_ports_353 ?_
                  refine j_bipush X (v := (-2)) dL_ports_356 (by decide) ?_
                  refine j_icmp_ne X (tgt := 365) dL_ports_358 (by decide) (fun c_358 => absurd h13 c_358) (fun c_358 => ?_)
                  refine j_iconst X (v := 1) dL_ports_361 (by decide) ?_
                  refine j_goto X (tgt := 366) dL_ports_362 (by decide) ?_
                  exact j_iret X hr rfl rfl rfl rfl dL_ports_366
                refine j_iload X 0 dL_ports_313 rfl ?_
                refine j_bipush X (v := (-4)) dL_ports_315 (by decide) ?_
                refine j_icmp_eq X (tgt := 337) dL_ports_317 (by decide) (fun c_317 => ?_) (fun c_317 => ?_)
                · refine j_sub [0, 1, 2, 3] (L' := [(5, .int (xPort S (nI k) 4)), (0, .ref b), (1, .int (nI k)), (3, .int (nI m))]) rfl ?_
                  exact k337_6
                · refine j_iload X 0 dL_ports_320 rfl ?_
                  refine j_iload_n X 2 dL_ports_322 rfl rfl ?_
                  refine j_icmp_eq X (tgt := 365) dL_ports_323 (by decide) (fun c_323 => absurd c_323 (hf c_317).1) (fun c_323 => ?_)
                  refine j_aload_n X 1 dL_ports_326 rfl rfl ?_
                  refine j_iload X 0 dL_ports_327 rfl ?_
                  refine j_iconst X (v := 4) dL_ports_329 (by decide) ?_
                  refine j_callVi X (rest := []) (c_X9_port l) m_yX9_port kM_RL_19 xput_0 rfl rfl rfl rfl rfl (Nat.le_of_ble_eq_true rfl) ⟨Nat.le_of_ble_eq_true rfl, Nat.le_of_ble_eq_true rfl, Nat.le_of_ble_eq_true rfl, Nat.le_of_ble_eq_true rfl⟩ dL_ports_330 ?_
                  refine j_iload_n X 2 dL_ports_333 rfl rfl ?_
                  refine j_icmp_ne X (tgt := 365) dL_ports_334 (by decide) (fun c_334 => absurd (hf c_317).2 c_334) (fun c_334 => ?_)
                  refine j_sub [0, 1, 2, 3] (L' := [(5, .int (xPort S (nI k) 4)), (0, .ref b), (1, .int (nI k)), (3, .int (nI m))]) rfl ?_
                  exact k337_6
              | succ n ih =>
                intro j hj
                obtain ⟨hqa, hqb⟩ := hq j (by omega)
                refine j_iload X 3 dL_ports_208 rfl ?_
                refine j_iload_n X 2 dL_ports_210 rfl rfl ?_
                refine j_icmp_ge X (tgt := 305) dL_ports_211 (by decide) (fun c_211 => absurd (nI_lt (by omega) (by omega)) c_211) (fun c_211 => ?_)
                refine j_iload X 3 dL_ports_214 rfl ?_
                refine j_if_le X (tgt := 241) dL_ports_216 (by decide) (fun c_216 => ?_) (fun c_216 => ?_)
                · refine j_iconst X (v := 0) dL_ports_241 (by decide) ?_
                  refine j_istore X (L' := [(6, .int 0), (0, .ref b), (1, .int (nI k)), (3, .int (nI m)), (5, .int (nI j))]) dL_ports_242 (by decide) rfl ?_
                  refine j_iload X 0 dL_ports_244 rfl ?_
                  refine j_if_lt X (tgt := 297) dL_ports_246 (by decide) (fun c_ => absurd c_ (by decide)) (fun _ => ?_)
                  refine j_iload X 4 dL_ports_249 rfl ?_
                  refine j_if_le X (tgt := 280) dL_ports_251 (by decide) (fun _ => ?_) (fun c_ => absurd c_ c_216)
                  refine j_aload_n X 1 dL_ports_280 rfl rfl ?_
                  refine j_iload_n X 2 dL_ports_281 rfl rfl ?_
                  refine j_iload X 4 dL_ports_282 rfl ?_
                  refine j_iconst X (v := 3) dL_ports_284 (by decide) ?_
                  refine j_callVi X (rest := []) (c_X9_queued l) m_yX9_queued kM_RL_28 xput_0 rfl rfl rfl rfl rfl (Nat.le_of_ble_eq_true rfl) ⟨Nat.le_of_ble_eq_true rfl, Nat.le_of_ble_eq_true rfl, Nat.le_of_ble_eq_true rfl, Nat.le_of_ble_eq_true rfl⟩ dL_ports_285 ?_
                  refine j_aload_n X 1 dL_ports_288 rfl rfl ?_
                  refine j_bipush X (v := 12) dL_ports_289 (by decide) ?_
                  refine j_callVi X (rest := [.int (xQueued S (nI k) (nI j) 3)]) (c_X9_count l) m_yX9_count kM_RL_13 xput_0 rfl rfl rfl rfl rfl (Nat.le_of_ble_eq_true rfl) ⟨Nat.le_of_ble_eq_true rfl, Nat.le_of_ble_eq_true rfl, Nat.le_of_ble_eq_true rfl, Nat.le_of_ble_eq_true rfl⟩ dL_ports_291 ?_
                  refine j_icmp_lt X (tgt := 299) dL_ports_294 (by decide) (fun c_294 => ?_) (fun c_294 => absurd hqb c_294)
                  refine j_iinc X 4 (k := 1) (v := (nI (j + 1))) (L' := [(5, .int (nI (j + 1))), (6, .int 0), (0, .ref b), (1, .int (nI k)), (3, .int (nI m))]) dL_ports_299 rfl (by decide) (by decide) (nI_succ j).symm rfl ?_
                  refine j_goto X (tgt := 208) dL_ports_302 (by decide) ?_
                  refine j_sub [2, 3, 4, 0] (L' := [(0, .ref b), (1, .int (nI k)), (3, .int (nI m)), (5, .int (nI (j + 1)))]) rfl ?_
                  exact ih (j + 1) (by omega)
                · refine j_aload_n X 0 dL_ports_219 rfl rfl ?_
                  refine j_iload_n X 1 dL_ports_220 rfl rfl ?_
                  refine j_iload X 3 dL_ports_221 rfl ?_
                  refine j_iconst X (v := 1) dL_ports_223 (by decide) ?_
                  refine j_isub X dL_ports_224 ?_
                  refine j_iconst X (v := 2) dL_ports_225 (by decide) ?_
                  refine j_callVi X (rest := []) (c_X9_queued l) m_yX9_queued kM_RL_28 xput_0 rfl rfl rfl rfl rfl (Nat.le_of_ble_eq_true rfl) ⟨Nat.le_of_ble_eq_true rfl, Nat.le_of_ble_eq_true rfl, Nat.le_of_ble_eq_true rfl, Nat.le_of_ble_eq_true rfl⟩ dL_ports_226 ?_
                  refine j_aload_n X 0 dL_ports_229 rfl rfl ?_
                  refine j_iload_n X 1 dL_ports_230 rfl rfl ?_
                  refine j_iload X 3 dL_ports_231 rfl ?_
                  refine j_iconst X (v := 2) dL_ports_233 (by decide) ?_
                  refine j_callVi X (rest := [.int (xQueued S (nI k) ((nI j) - 1) 2)]) (c_X9_queued l) m_yX9_queued kM_RL_28 xput_0 rfl rfl rfl rfl rfl (Nat.le_of_ble_eq_true rfl) ⟨Nat.le_of_ble_eq_true rfl, Nat.le_of_ble_eq_true rfl, Nat.le_of_ble_eq_true rfl, Nat.le_of_ble_eq_true rfl⟩ dL_ports_234 ?_
                  refine j_isub X dL_ports_237 ?_
                  refine j_goto X (tgt := 242) dL_ports_238 (by decide) ?_
                  refine j_istore X (L' := [(6, .int ((xQueued S (nI k) ((nI j) - 1) 2) - (xQueued S (nI k) (nI j) 2))), (0, .ref b), (1, .int (nI k)), (3, .int (nI m)), (5, .int (nI j))]) dL_ports_242 (by decide) rfl ?_
                  refine j_iload X 0 dL_ports_244 rfl ?_
                  refine j_if_lt X (tgt := 297) dL_ports_246 (by decide) (fun c_246 => absurd c_246 (hqa c_216).1) (fun c_246 => ?_)
                  refine j_iload X 4 dL_ports_249 rfl ?_
                  refine j_if_le X (tgt := 280) dL_ports_251 (by decide) (fun c_ => absurd c_216 c_) (fun _ => ?_)
                  refine j_iload X 0 dL_ports_254 rfl ?_
                  refine j_if_ne X (tgt := 280) dL_ports_256 (by decide) (fun c_256 => ?_) (fun c_256 => ?_)
                  · refine j_aload_n X 1 dL_ports_280 rfl rfl ?_
                    refine j_iload_n X 2 dL_ports_281 rfl rfl ?_
                    refine j_iload X 4 dL_ports_282 rfl ?_
                    refine j_iconst X (v := 3) dL_ports_284 (by decide) ?_
                    refine j_callVi X (rest := []) (c_X9_queued l) m_yX9_queued kM_RL_28 xput_0 rfl rfl rfl rfl rfl (Nat.le_of_ble_eq_true rfl) ⟨Nat.le_of_ble_eq_true rfl, Nat.le_of_ble_eq_true rfl, Nat.le_of_ble_eq_true rfl, Nat.le_of_ble_eq_true rfl⟩ dL_ports_285 ?_
                    refine j_aload_n X 1 dL_ports_288 rfl rfl ?_
                    refine j_bipush X (v := 12) dL_ports_289 (by decide) ?_
                    refine j_callVi X (rest := [.int (xQueued S (nI k) (nI j) 3)]) (c_X9_count l) m_yX9_count kM_RL_13 xput_0 rfl rfl rfl rfl rfl (Nat.le_of_ble_eq_true rfl) ⟨Nat.le_of_ble_eq_true rfl, Nat.le_of_ble_eq_true rfl, Nat.le_of_ble_eq_true rfl, Nat.le_of_ble_eq_true rfl⟩ dL_ports_291 ?_
                    refine j_icmp_lt X (tgt := 299) dL_ports_294 (by decide) (fun c_294 => ?_) (fun c_294 => absurd hqb c_294)
                    refine j_iinc X 4 (k := 1) (v := (nI (j + 1))) (L' := [(5, .int (nI (j + 1))), (6, .int ((xQueued S (nI k) ((nI j) - 1) 2) - (xQueued S (nI k) (nI j) 2))), (0, .ref b), (1, .int (nI k)), (3, .int (nI m))]) dL_ports_299 rfl (by decide) (by decide) (nI_succ j).symm rfl ?_
                    refine j_goto X (tgt := 208) dL_ports_302 (by decide) ?_
                    refine j_sub [2, 3, 4, 0] (L' := [(0, .ref b), (1, .int (nI k)), (3, .int (nI m)), (5, .int (nI (j + 1)))]) rfl ?_
                    exact ih (j + 1) (by omega)
                  · refine j_aload_n X 1 dL_ports_259 rfl rfl ?_
                    refine j_iload_n X 2 dL_ports_260 rfl rfl ?_
                    refine j_iload X 4 dL_ports_261 rfl ?_
                    refine j_iconst X (v := 1) dL_ports_263 (by decide) ?_
                    refine j_isub X dL_ports_264 ?_
                    refine j_iconst X (v := 3) dL_ports_265 (by decide) ?_
                    refine j_callVi X (rest := []) (c_X9_queued l) m_yX9_queued kM_RL_28 xput_0 rfl rfl rfl rfl rfl (Nat.le_of_ble_eq_true rfl) ⟨Nat.le_of_ble_eq_true rfl, Nat.le_of_ble_eq_true rfl, Nat.le_of_ble_eq_true rfl, Nat.le_of_ble_eq_true rfl⟩ dL_ports_266 ?_
                    refine j_aload_n X 1 dL_ports_269 rfl rfl ?_
                    refine j_iload_n X 2 dL_ports_270 rfl rfl ?_
                    refine j_iload X 4 dL_ports_271 rfl ?_
                    refine j_iconst X (v := 3) dL_ports_273 (by decide) ?_
                    refine j_callVi X (rest := [.int (xQueued S (nI k) ((nI j) - 1) 3)]) (c_X9_queued l) m_yX9_queued kM_RL_28 xput_0 rfl rfl rfl rfl rfl (Nat.le_of_ble_eq_true rfl) ⟨Nat.le_of_ble_eq_true rfl, Nat.le_of_ble_eq_true rfl, Nat.le_of_ble_eq_true rfl, Nat.le_of_ble_eq_true rfl⟩ dL_ports_274 ?_
                    refine j_icmp_ge X (tgt := 297) dL_ports_277 (by decide) (fun c_277 => absurd ((hqa c_216).2 c_256) c_277) (fun c_277 => ?_)
                    refine j_aload_n X 1 dL_ports_280 rfl rfl ?_
                    refine j_iload_n X 2 dL_ports_281 rfl rfl ?_
                    refine j_iload X 4 dL_ports_282 rfl ?_
                    refine j_iconst X (v := 3) dL_ports_284 (by decide) ?_
                    refine j_callVi X (rest := []) (c_X9_queued l) m_yX9_queued kM_RL_28 xput_0 rfl rfl rfl rfl rfl (Nat.le_of_ble_eq_true rfl) ⟨Nat.le_of_ble_eq_true rfl, Nat.le_of_ble_eq_true rfl, Nat.le_of_ble_eq_true rfl, Nat.le_of_ble_eq_true rfl⟩ dL_ports_285 ?_
                    refine j_aload_n X 1 dL_ports_288 rfl rfl ?_
                    refine j_bipush X (v := 12) dL_ports_289 (by decide) ?_
                    refine j_callVi X (rest := [.int (xQueued S (nI k) (nI j) 3)]) (c_X9_count l) m_yX9_count kM_RL_13 xput_0 rfl rfl rfl rfl rfl (Nat.le_of_ble_eq_true rfl) ⟨Nat.le_of_ble_eq_true rfl, Nat.le_of_ble_eq_true rfl, Nat.le_of_ble_eq_true rfl, Nat.le_of_ble_eq_true rfl⟩ dL_ports_291 ?_
                    refine j_icmp_lt X (tgt := 299) dL_ports_294 (by decide) (fun c_294 => ?_) (fun c_294 => absurd hqb c_294)
                    refine j_iinc X 4 (k := 1) (v := (nI (j + 1))) (L' := [(5, .int (nI (j + 1))), (6, .int ((xQueued S (nI k) ((nI j) - 1) 2) - (xQueued S (nI k) (nI j) 2))), (0, .ref b), (1, .int (nI k)), (3, .int (nI m))]) dL_ports_299 rfl (by decide) (by decide) (nI_succ j).symm rfl ?_
                    refine j_goto X (tgt := 208) dL_ports_302 (by decide) ?_
                    refine j_sub [2, 3, 4, 0] (L' := [(0, .ref b), (1, .int (nI k)), (3, .int (nI m)), (5, .int (nI (j + 1)))]) rfl ?_
                    exact ih (j + 1) (by omega)
            refine j_sub [3, 4, 2, 0] (L' := [(0, .ref b), (1, .int (nI k)), (3, .int (nI m)), (5, .int (nI 0))]) rfl ?_
            exact loop208_5 m 0 (by omega)
          refine j_aload_n X 2 dL_ports_176 rfl rfl ?_
          refine j_iload_n X 3 dL_ports_177 rfl rfl ?_
          refine j_bipush X (v := 7) dL_ports_178 (by decide) ?_
          refine j_callVi X (rest := []) (c_X9_port l) m_yX9_port kM_RL_19 xput_0 rfl rfl rfl rfl rfl (Nat.le_of_ble_eq_true rfl) ⟨Nat.le_of_ble_eq_true rfl, Nat.le_of_ble_eq_true rfl, Nat.le_of_ble_eq_true rfl, Nat.le_of_ble_eq_true rfl⟩ dL_ports_180 ?_
          refine j_aload_n X 2 dL_ports_183 rfl rfl ?_
          refine j_iconst X (v := 2) dL_ports_184 (by decide) ?_
          refine j_callVi X (rest := [.int (xPort S (nI k) 7)]) (c_X9_count l) m_yX9_count kM_RL_13 xput_0 rfl rfl rfl rfl rfl (Nat.le_of_ble_eq_true rfl) ⟨Nat.le_of_ble_eq_true rfl, Nat.le_of_ble_eq_true rfl, Nat.le_of_ble_eq_true rfl, Nat.le_of_ble_eq_true rfl⟩ dL_ports_185 ?_
          refine j_icmp_le X (tgt := 205) dL_ports_188 (by decide) (fun c_188 => ?_) (fun c_188 => ?_)
          · refine j_sub [0, 1, 2, 3, 4] (L' := [(4, .int (((xAccount S (nI k) 7) - (xAccount S (nI k) 9)) - (nI m))), (3, .int (nI m)), (0, .ref b), (1, .int (nI k)), (2, .int (aS S (nI k) 6))]) rfl ?_
            exact k205_4
          · refine j_aload_n X 2 dL_ports_191 rfl rfl ?_
            refine j_iload_n X 3 dL_ports_192 rfl rfl ?_
            refine j_bipush X (v := 7) dL_ports_193 (by decide) ?_
            refine j_callVi X (rest := []) (c_X9_port l) m_yX9_port kM_RL_19 xput_0 rfl rfl rfl rfl rfl (Nat.le_of_ble_eq_true rfl) ⟨Nat.le_of_ble_eq_true rfl, Nat.le_of_ble_eq_true rfl, Nat.le_of_ble_eq_true rfl, Nat.le_of_ble_eq_true rfl⟩ dL_ports_195 ?_
            refine j_bipush X (v := 50) dL_ports_198 (by decide) ?_
            refine j_icmp_le X (tgt := 205) dL_ports_200 (by decide) (fun c_200 => ?_) (fun c_200 => absurd c_200 h9)
            refine j_sub [0, 1, 2, 3, 4] (L' := [(4, .int (((xAccount S (nI k) 7) - (xAccount S (nI k) 9)) - (nI m))), (3, .int (nI m)), (0, .ref b), (1, .int (nI k)), (2, .int (aS S (nI k) 6))]) rfl ?_
            exact k205_4
        refine j_aload_n X 2 dL_ports_157 rfl rfl ?_
        refine j_iload_n X 3 dL_ports_158 rfl rfl ?_
        refine j_iconst X (v := 2) dL_ports_159 (by decide) ?_
        refine j_callVi X (rest := []) (c_X9_port l) m_yX9_port kM_RL_19 xput_0 rfl rfl rfl rfl rfl (Nat.le_of_ble_eq_true rfl) ⟨Nat.le_of_ble_eq_true rfl, Nat.le_of_ble_eq_true rfl, Nat.le_of_ble_eq_true rfl, Nat.le_of_ble_eq_true rfl⟩ dL_ports_160 ?_
        refine j_if_le X (tgt := 176) dL_ports_163 (by decide) (fun c_163 => ?_) (fun c_163 => ?_)
        · refine j_sub [0, 1, 2, 3, 4] (L' := [(4, .int (((xAccount S (nI k) 7) - (xAccount S (nI k) 9)) - (nI m))), (3, .int (nI m)), (0, .ref b), (1, .int (nI k)), (2, .int (aS S (nI k) 6))]) rfl ?_
          exact k176_3
        · refine j_aload_n X 2 dL_ports_166 rfl rfl ?_
          refine j_iload_n X 3 dL_ports_167 rfl rfl ?_
          refine j_bipush X (v := 6) dL_ports_168 (by decide) ?_
          refine j_callVi X (rest := []) (c_X9_port l) m_yX9_port kM_RL_19 xput_0 rfl rfl rfl rfl rfl (Nat.le_of_ble_eq_true rfl) ⟨Nat.le_of_ble_eq_true rfl, Nat.le_of_ble_eq_true rfl, Nat.le_of_ble_eq_true rfl, Nat.le_of_ble_eq_true rfl⟩ dL_ports_170 ?_
          refine j_if_gt X (tgt := 203) dL_ports_173 (by decide) (fun c_173 => absurd c_173 (h8 c_163)) (fun c_173 => ?_)
          refine j_sub [0, 1, 2, 3, 4] (L' := [(4, .int (((xAccount S (nI k) 7) - (xAccount S (nI k) 9)) - (nI m))), (3, .int (nI m)), (0, .ref b), (1, .int (nI k)), (2, .int (aS S (nI k) 6))]) rfl ?_
          exact k176_3
      refine j_aload_n X 2 dL_ports_115 rfl rfl ?_
      refine j_iload_n X 3 dL_ports_116 rfl rfl ?_
      refine j_iconst X (v := 1) dL_ports_117 (by decide) ?_
      refine j_callVi X (rest := []) (c_X9_port l) m_yX9_port kM_RL_19 xput_0 rfl rfl rfl rfl rfl (Nat.le_of_ble_eq_true rfl) ⟨Nat.le_of_ble_eq_true rfl, Nat.le_of_ble_eq_true rfl, Nat.le_of_ble_eq_true rfl, Nat.le_of_ble_eq_true rfl⟩ dL_ports_118 ?_
      refine j_iconst X (v := 1) dL_ports_121 (by decide) ?_
      refine j_icmp_ne X (tgt := 129) dL_ports_122 (by decide) (fun c_122 => ?_) (fun c_122 => ?_)
      · refine j_iconst X (v := 0) dL_ports_129 (by decide) ?_
        refine j_aload_n X 2 dL_ports_130 rfl rfl ?_
        refine j_iload_n X 3 dL_ports_131 rfl rfl ?_
        refine j_iconst X (v := 0) dL_ports_132 (by decide) ?_
        refine j_callVi X (rest := [.int 0]) (c_X9_port l) m_yX9_port kM_RL_19 xput_0 rfl rfl rfl rfl rfl (Nat.le_of_ble_eq_true rfl) ⟨Nat.le_of_ble_eq_true rfl, Nat.le_of_ble_eq_true rfl, Nat.le_of_ble_eq_true rfl, Nat.le_of_ble_eq_true rfl⟩ dL_ports_133 ?_
        refine j_iconst X (v := 1) dL_ports_136 (by decide) ?_
        refine j_icmp_ne X (tgt := 153) dL_ports_137 (by decide) (fun c_137 => ?_) (fun c_137 => ?_)
        · refine j_iconst X (v := 0) dL_ports_153 (by decide) ?_
          refine j_icmp_ne X (tgt := 203) dL_ports_154 (by decide) (fun c_ => absurd (by decide) c_) (fun _ => ?_)
          refine j_sub [0, 1, 2, 3, 4] (L' := [(4, .int (((xAccount S (nI k) 7) - (xAccount S (nI k) 9)) - (nI m))), (3, .int (nI m)), (0, .ref b), (1, .int (nI k)), (2, .int (aS S (nI k) 6))]) rfl ?_
          exact k157_2
        · refine j_aload_n X 2 dL_ports_140 rfl rfl ?_
          refine j_iload_n X 3 dL_ports_141 rfl rfl ?_
          refine j_iconst X (v := 2) dL_ports_142 (by decide) ?_
          refine j_callVi X (rest := [.int 0]) (c_X9_port l) m_yX9_port kM_RL_19 xput_0 rfl rfl rfl rfl rfl (Nat.le_of_ble_eq_true rfl) ⟨Nat.le_of_ble_eq_true rfl, Nat.le_of_ble_eq_true rfl, Nat.le_of_ble_eq_true rfl, Nat.le_of_ble_eq_true rfl⟩ dL_ports_143 ?_
          refine j_if_ne X (tgt := 153) dL_ports_146 (by decide) (fun c_146 => ?_) (fun c_146 => absurd c_146 (fun q_ => c_122 (h7.mpr ⟨c_137, q_⟩)))
          refine j_iconst X (v := 0) dL_ports_153 (by decide) ?_
          refine j_icmp_ne X (tgt := 203) dL_ports_154 (by decide) (fun c_ => absurd (by decide) c_) (fun _ => ?_)
          refine j_sub [0, 1, 2, 3, 4] (L' := [(4, .int (((xAccount S (nI k) 7) - (xAccount S (nI k) 9)) - (nI m))), (3, .int (nI m)), (0, .ref b), (1, .int (nI k)), (2, .int (aS S (nI k) 6))]) rfl ?_
          exact k157_2
      · refine j_iconst X (v := 1) dL_ports_125 (by decide) ?_
        refine j_goto X (tgt := 130) dL_ports_126 (by decide) ?_
        refine j_aload_n X 2 dL_ports_130 rfl rfl ?_
        refine j_iload_n X 3 dL_ports_131 rfl rfl ?_
        refine j_iconst X (v := 0) dL_ports_132 (by decide) ?_
        refine j_callVi X (rest := [.int 1]) (c_X9_port l) m_yX9_port kM_RL_19 xput_0 rfl rfl rfl rfl rfl (Nat.le_of_ble_eq_true rfl) ⟨Nat.le_of_ble_eq_true rfl, Nat.le_of_ble_eq_true rfl, Nat.le_of_ble_eq_true rfl, Nat.le_of_ble_eq_true rfl⟩ dL_ports_133 ?_
        refine j_iconst X (v := 1) dL_ports_136 (by decide) ?_
        refine j_icmp_ne X (tgt := 153) dL_ports_137 (by decide) (fun c_137 => absurd (h7.mp c_122).1 c_137) (fun c_137 => ?_)
        refine j_aload_n X 2 dL_ports_140 rfl rfl ?_
        refine j_iload_n X 3 dL_ports_141 rfl rfl ?_
        refine j_iconst X (v := 2) dL_ports_142 (by decide) ?_
        refine j_callVi X (rest := [.int 1]) (c_X9_port l) m_yX9_port kM_RL_19 xput_0 rfl rfl rfl rfl rfl (Nat.le_of_ble_eq_true rfl) ⟨Nat.le_of_ble_eq_true rfl, Nat.le_of_ble_eq_true rfl, Nat.le_of_ble_eq_true rfl, Nat.le_of_ble_eq_true rfl⟩ dL_ports_143 ?_
        refine j_if_ne X (tgt := 153) dL_ports_146 (by decide) (fun c_146 => absurd (h7.mp c_122).2 c_146) (fun c_146 => ?_)
        refine j_iconst X (v := 1) dL_ports_149 (by decide) ?_
        refine j_goto X (tgt := 154) dL_ports_150 (by decide) ?_
        refine j_icmp_ne X (tgt := 203) dL_ports_154 (by decide) (fun c_ => absurd (by decide) c_) (fun _ => ?_)
        refine j_sub [0, 1, 2, 3, 4] (L' := [(4, .int (((xAccount S (nI k) 7) - (xAccount S (nI k) 9)) - (nI m))), (3, .int (nI m)), (0, .ref b), (1, .int (nI k)), (2, .int (aS S (nI k) 6))]) rfl ?_
        exact k157_2
    | succ n ih =>
      intro j hj
      have hlt : nI (j + 1) < 7 := nlt_lit (b := 7) (by omega) (by decide)
      refine j_iload_n X 3 dL_ports_4 rfl rfl ?_
      refine j_bipush X (v := 7) dL_ports_5 (by decide) ?_
      refine j_icmp_ge X (tgt := 25) dL_ports_7 (by decide) (fun c_7 => absurd hlt c_7) (fun c_7 => ?_)
      refine j_iload_n X 2 dL_ports_10 rfl rfl ?_
      refine j_aload_n X 0 dL_ports_11 rfl rfl ?_
      refine j_iload_n X 1 dL_ports_12 rfl rfl ?_
      refine j_iload_n X 3 dL_ports_13 rfl rfl ?_
      refine j_callVi X (rest := [.int (aS S (nI k) j)]) (c_X9_account l) m_yX9_account kM_RL_23 xput_0 rfl rfl rfl rfl rfl (Nat.le_of_ble_eq_true rfl) ⟨Nat.le_of_ble_eq_true rfl, Nat.le_of_ble_eq_true rfl, Nat.le_of_ble_eq_true rfl, Nat.le_of_ble_eq_true rfl⟩ dL_ports_14 ?_
      refine j_iadd X dL_ports_17 ?_
      refine j_istore_n X (L' := [(2, .int ((aS S (nI k) j) + (xAccount S (nI k) (nI (j + 1))))), (0, .ref b), (1, .int (nI k)), (3, .int (nI (j + 1)))]) dL_ports_18 rfl (by decide) rfl ?_
      refine j_iinc X 3 (k := 1) (v := (nI ((j + 1) + 1))) (L' := [(3, .int (nI ((j + 1) + 1))), (2, .int ((aS S (nI k) j) + (xAccount S (nI k) (nI (j + 1))))), (0, .ref b), (1, .int (nI k))]) dL_ports_19 rfl (by decide) (by decide) (nI_succ (j + 1)).symm rfl ?_
      refine j_goto X (tgt := 4) dL_ports_22 (by decide) ?_
      refine j_sub [2, 3, 1, 0] (L' := [(0, .ref b), (1, .int (nI k)), (2, .int (aS S (nI k) (j + 1))), (3, .int (nI ((j + 1) + 1)))]) rfl ?_
      exact ih (j + 1) (by omega)
  refine j_sub [2, 3, 1, 0] (L' := [(0, .ref b), (1, .int (nI k)), (2, .int (aS S (nI k) 0)), (3, .int (nI (0 + 1)))]) rfl ?_
  exact loop4_1 6 0 (by omega)
