set_option maxRecDepth 100000 in
set_option maxHeartbeats 2000000 in
theorem c_X10_goesOn (l : Launch) {D : DD} {B z : Nat} {h : HF} {b : Nat} {μ : Mo} {R C : Nat} (hR : R ≤ 10) (hC : C < 2147483647) (hG : GBf R C (μ.2 0))  : CT l yX10_goesOn cX10_goesOn 4 (some .int) 4 99 [.ref b] D B z (mput D h b μ) (some (.int ((mGoes μ).1))) 0 0 (mput D h b ((mGoes μ).2)) := by
  refine CT.of (L := [(0, .ref b)]) (by decide +kernel) (Nat.le_of_ble_eq_true rfl) rfl ?_
  intro P E S0 M0 AR BL ME CO X hr hnm
  have hR0 : (now μ 3).toNatClampNeg = R := by rw [show now μ 3 = nI R from hG.2.2.1, nI_clamp (by omega)]
  refine j_iconst X (v := 0) dX10_goesOn_0 (by decide) ?_
  refine j_istore_n X (L' := [(1, .int 0), (0, .ref b)]) dX10_goesOn_1 rfl (by decide) rfl ?_
  refine j_aload_n X 1 dX10_goesOn_2 rfl rfl ?_
  refine j_iconst X (v := 0) dX10_goesOn_3 (by decide) ?_
  refine j_put X fG_RX10_115 fW_10_7 mput_0 rfl rfl rfl (Nat.le_of_ble_eq_true rfl) dX10_goesOn_4 ?_
  refine j_heap (h' := mput D h b (msc μ 3 0)) mput_s3 ?_
  refine j_iconst X (v := 0) dX10_goesOn_7 (by decide) ?_
  refine j_istore_n X (L' := [(2, .int 0), (1, .int 0), (0, .ref b)]) dX10_goesOn_8 rfl (by decide) rfl ?_
  have loop9 : ∀ (n k : Nat), k + n = 8 → J P l E { frames := 4, cells := 0, slots := 0, locals := 99 } S0 M0 AR BL ME CO D B 4 (MQ BL (QC (some (.int ((mGoes μ).1))) D B (z + 0) (mput D h b ((mGoes μ).2))) AR S0 0 0 (aB B)) 0 0 z (mput D h b ((mS8 μ R k).2)) [(0, .ref b), (1, .int ((mS8 μ R k).1)), (2, .int (nI k))] [] 9 := by
    intro n
    induction n with
    | zero =>
      intro k hk
      obtain rfl : k = 8 := by omega
      refine j_iload_n X 2 dX10_goesOn_9 rfl rfl ?_
      refine j_bipush X (v := 8) dX10_goesOn_10 (by decide) ?_
      refine j_icmp_ge X (tgt := 64) dX10_goesOn_12 (by decide) (fun c_12 => ?_) (fun c_12 => absurd c_12 (by decide))
      obtain ⟨y, hy⟩ : ∃ y : Int32 × Mo, mS8 μ R 8 = y := ⟨_, rfl⟩
      have hGy : GS μ R C 80 y.2 := by rw [← hy]; exact gs_8 hR hG 8 (by decide)
      obtain ⟨r, hr80, hW⟩ := hGy.2.2
      refine j_heap (h' := mput D h b y.2) (by rw [hy]) ?_
      refine j_sub [0, 1] (L' := [(0, .ref b), (1, .int y.1)]) (by rw [hy]; rfl) ?_
      refine j_iconst X (v := 0) dX10_goesOn_64 (by decide) ?_
      refine j_istore_n X (L' := [(2, .int 0), (0, .ref b), (1, .int y.1)]) dX10_goesOn_65 rfl (by decide) rfl ?_
      have loop66 : ∀ (n k : Nat), k + n = r → J P l E { frames := 4, cells := 0, slots := 0, locals := 99 } S0 M0 AR BL ME CO D B 4 (MQ BL (QC (some (.int ((mGoes μ).1))) D B (z + 0) (mput D h b ((mGoes μ).2))) AR S0 0 0 (aB B)) 0 0 z (mput D h b (mArr y.2 k)) [(0, .ref b), (1, .int y.1), (2, .int (nI k))] [] 66 := by
        intro n
        induction n with
        | zero =>
          intro k hk
          obtain rfl : r = k := by omega
          refine j_iload_n X 2 dX10_goesOn_66 rfl rfl ?_
          refine j_aload_n X 0 dX10_goesOn_67 rfl rfl ?_
          refine j_get X fG_RX10_115 mput_0 rfl rfl dX10_goesOn_68 ?_
          refine j_icmp_ge X (tgt := 123) dX10_goesOn_71 (by decide) (fun c_71 => ?_) (fun c_71 => absurd c_71 (by rw [arr_way hGy.1 hW hr80 (by omega)]; exact nI_nlt (by omega) (by omega)))
          refine j_aload_n X 0 dX10_goesOn_123 rfl rfl ?_
          refine j_get X fG_RX10_7 mput_0 rfl rfl dX10_goesOn_124 ?_
          refine j_iconst X (v := 4) dX10_goesOn_127 (by decide) ?_
          refine j_dup2 X dX10_goesOn_128 rfl rfl ?_
          refine j_ldM X (vp_in_nI (n := 4) (by decide) (by decide)) dX10_goesOn_129 ?_
          refine j_iconst X (v := 1) dX10_goesOn_130 (by decide) ?_
          refine j_iadd X dX10_goesOn_131 ?_
          refine j_stM X (vp_in_nI (n := 4) (by decide) (by decide)) dX10_goesOn_132 ?_
          obtain ⟨ω, hω⟩ : ∃ ω : Mo, (setNow (mArr y.2 r) 4 ((now (mArr y.2 r) 4) + 1)) = ω := ⟨_, rfl⟩
          have hIω : MIv ω := by rw [← hω]; exact mi_clk1 hC (ga_arr hGy.1 hW hr80 r (by omega))
          refine j_heap (h' := mput D h b ω) (congrArg (mput D h b) hω) ?_
          refine j_iconst X (v := 0) dX10_goesOn_133 (by decide) ?_
          refine j_istore_n X (L' := [(2, .int 0), (0, .ref b), (1, .int y.1)]) dX10_goesOn_134 rfl (by decide) rfl ?_
          have loop135 : ∀ (n k : Nat), k + n = 8 → J P l E { frames := 4, cells := 0, slots := 0, locals := 99 } S0 M0 AR BL ME CO D B 4 (MQ BL (QC (some (.int ((mGoes μ).1))) D B (z + 0) (mput D h b ((mGoes μ).2))) AR S0 0 0 (aB B)) 0 0 z (mput D h b (mEQ ω k)) [(0, .ref b), (1, .int y.1), (2, .int (nI k))] [] 135 := by
            intro n
            induction n with
            | zero =>
              intro k hk
              obtain rfl : k = 8 := by omega
              refine j_iload_n X 2 dX10_goesOn_135 rfl rfl ?_
              refine j_bipush X (v := 8) dX10_goesOn_136 (by decide) ?_
              refine j_icmp_ge X (tgt := 185) dX10_goesOn_138 (by decide) (fun c_138 => ?_) (fun c_138 => absurd c_138 (by decide))
              obtain ⟨χ, hχ⟩ : ∃ χ : Mo, (mEQ ω 8) = χ := ⟨_, rfl⟩
              have hIχ : MIv χ := by rw [← hχ]; exact mi_eq hIω 8 (by decide)
              refine j_heap (h' := mput D h b χ) (congrArg (mput D h b) hχ) ?_
              refine j_iconst X (v := 1) dX10_goesOn_185 (by decide) ?_
              refine j_istore_n X (L' := [(2, .int 1), (0, .ref b), (1, .int y.1)]) dX10_goesOn_186 rfl (by decide) rfl ?_
              have loop187 : ∀ (n k : Nat), k + n = 99 → J P l E { frames := 4, cells := 0, slots := 0, locals := 99 } S0 M0 AR BL ME CO D B 4 (MQ BL (QC (some (.int ((mGoes μ).1))) D B (z + 0) (mput D h b ((mGoes μ).2))) AR S0 0 0 (aB B)) 0 0 z (mput D h b (mAge χ k)) [(0, .ref b), (1, .int y.1), (2, .int (nI (k + 1)))] [] 187 := by
                intro n
                induction n with
                | zero =>
                  intro k hk
                  obtain rfl : k = 99 := by omega
                  refine j_iload_n X 2 dX10_goesOn_187 rfl rfl ?_
                  refine j_bipush X (v := 100) dX10_goesOn_188 (by decide) ?_
                  refine j_icmp_ge X (tgt := 273) dX10_goesOn_190 (by decide) (fun c_190 => ?_) (fun c_190 => absurd c_190 (by decide))
                  refine j_iload_n X 1 dX10_goesOn_273 rfl rfl ?_
                  exact j_iret X hr rfl (by unfold mGoes; rw [hR0, hy]) rfl (by rw [← hχ, ← hω]; unfold mGoes mG5 mG3 mG2; rw [hR0, hy, hW.1, nI_clamp (by omega)]) dX10_goesOn_274
                | succ n ih =>
                  intro k hk
                  refine j_iload_n X 2 dX10_goesOn_187 rfl rfl ?_
                  refine j_bipush X (v := 100) dX10_goesOn_188 (by decide) ?_
                  refine j_icmp_ge X (tgt := 273) dX10_goesOn_190 (by decide) (fun c_190 => absurd (nlt_lit (b := 100) (by omega) (by decide)) c_190) (fun c_190 => ?_)
                  refine j_aload_n X 0 dX10_goesOn_193 rfl rfl ?_
                  refine j_get X fG_RX10_7 mput_0 rfl rfl dX10_goesOn_194 ?_
                  refine j_sipush X (v := 552) dX10_goesOn_197 (by decide) ?_
                  refine j_iload_n X 2 dX10_goesOn_200 rfl rfl ?_
                  refine j_iadd X dX10_goesOn_201 ?_
                  refine j_ldM X (in_552 (ad_nI (by omega))) dX10_goesOn_202 ?_
                  refine j_if_le X (tgt := 243) dX10_goesOn_203 (by decide) (fun c_203 => ?_) (fun c_203 => ?_)
                  · refine j_aload_n X 0 dX10_goesOn_243 rfl rfl ?_
                    refine j_get X fG_RX10_7 mput_0 rfl rfl dX10_goesOn_244 ?_
                    refine j_sipush X (v := 752) dX10_goesOn_247 (by decide) ?_
                    refine j_bipush X (v := 10) dX10_goesOn_250 (by decide) ?_
                    refine j_iload_n X 2 dX10_goesOn_252 rfl rfl ?_
                    refine j_imul X dX10_goesOn_253 ?_
                    refine j_iadd X dX10_goesOn_254 ?_
                    refine j_aload_n X 0 dX10_goesOn_255 rfl rfl ?_
                    refine j_get X fG_RX10_7 mput_0 rfl rfl dX10_goesOn_256 ?_
                    refine j_iconst X (v := 4) dX10_goesOn_259 (by decide) ?_
                    refine j_ldM X (vp_in_nI (n := 4) (by decide) (by decide)) dX10_goesOn_260 ?_
                    refine j_bipush X (v := 10) dX10_goesOn_261 (by decide) ?_
                    refine j_irem X dX10_goesOn_263 (by decide) ?_
                    refine j_iadd X dX10_goesOn_264 ?_
                    refine j_iconst X (v := 0) dX10_goesOn_265 (by decide) ?_
                    refine j_stM X (in_752 (ad_nI (by omega)) (wh_rem (mi_clk (mi_age hIχ k (by omega))))) dX10_goesOn_266 ?_
                    obtain ⟨v1, ev1⟩ : ∃ y : Int32, (nI (k + 1)) + 1 = y := ⟨_, rfl⟩
                    refine j_iinc X 2 (k := 1) (v := v1) (L' := [(2, .int v1), (0, .ref b), (1, .int y.1)]) dX10_goesOn_267 rfl (by decide) (by decide) ev1 rfl ?_
                    refine j_goto X (tgt := 187) dX10_goesOn_270 (by decide) ?_
                    refine j_sub [1, 2, 0] (L' := [(0, .ref b), (1, .int y.1), (2, .int (nI ((k + 1) + 1)))]) (by subst ev1; first | with_reducible rfl | (simp only [mAge, mOA, mOB, nI_succ (k + 1), if_neg c_12, if_neg c_71, if_neg c_138, if_pos c_190, if_neg c_203]; done) | (simp only [mAge, mOA, mOB, nI_succ (k + 1), if_neg c_12, if_neg c_71, if_neg c_138, if_pos c_190, if_neg c_203]; rfl) | rfl) ?_
                    refine j_heap (h' := mput D h b (mAge χ (k + 1))) (by subst ev1; first | with_reducible rfl | (simp only [mAge, mOA, mOB, nI_succ (k + 1), if_neg c_12, if_neg c_71, if_neg c_138, if_pos c_190, if_neg c_203]; done) | (simp only [mAge, mOA, mOB, nI_succ (k + 1), if_neg c_12, if_neg c_71, if_neg c_138, if_pos c_190, if_neg c_203]; rfl) | rfl) ?_
                    exact ih (k + 1) (by omega)
                  · refine j_aload_n X 0 dX10_goesOn_206 rfl rfl ?_
                    refine j_get X fG_RX10_7 mput_0 rfl rfl dX10_goesOn_207 ?_
                    refine j_iconst X (v := 4) dX10_goesOn_210 (by decide) ?_
                    refine j_ldM X (vp_in_nI (n := 4) (by decide) (by decide)) dX10_goesOn_211 ?_
                    refine j_aload_n X 0 dX10_goesOn_212 rfl rfl ?_
                    refine j_get X fG_RX10_7 mput_0 rfl rfl dX10_goesOn_213 ?_
                    refine j_sipush X (v := 652) dX10_goesOn_216 (by decide) ?_
                    refine j_iload_n X 2 dX10_goesOn_219 rfl rfl ?_
                    refine j_iadd X dX10_goesOn_220 ?_
                    refine j_ldM X (in_652 (ad_nI (by omega))) dX10_goesOn_221 ?_
                    refine j_isub X dX10_goesOn_222 ?_
                    refine j_aload_n X 0 dX10_goesOn_223 rfl rfl ?_
                    refine j_get X fG_RX10_7 mput_0 rfl rfl dX10_goesOn_224 ?_
                    refine j_iconst X (v := 0) dX10_goesOn_227 (by decide) ?_
                    refine j_ldM X (vp_in_nI (n := 0) (by decide) (by decide)) dX10_goesOn_228 ?_
                    refine j_icmp_lt X (tgt := 243) dX10_goesOn_229 (by decide) (fun c_229 => ?_) (fun c_229 => ?_)
                    · refine j_aload_n X 0 dX10_goesOn_243 rfl rfl ?_
                      refine j_get X fG_RX10_7 mput_0 rfl rfl dX10_goesOn_244 ?_
                      refine j_sipush X (v := 752) dX10_goesOn_247 (by decide) ?_
                      refine j_bipush X (v := 10) dX10_goesOn_250 (by decide) ?_
                      refine j_iload_n X 2 dX10_goesOn_252 rfl rfl ?_
                      refine j_imul X dX10_goesOn_253 ?_
                      refine j_iadd X dX10_goesOn_254 ?_
                      refine j_aload_n X 0 dX10_goesOn_255 rfl rfl ?_
                      refine j_get X fG_RX10_7 mput_0 rfl rfl dX10_goesOn_256 ?_
                      refine j_iconst X (v := 4) dX10_goesOn_259 (by decide) ?_
                      refine j_ldM X (vp_in_nI (n := 4) (by decide) (by decide)) dX10_goesOn_260 ?_
                      refine j_bipush X (v := 10) dX10_goesOn_261 (by decide) ?_
                      refine j_irem X dX10_goesOn_263 (by decide) ?_
                      refine j_iadd X dX10_goesOn_264 ?_
                      refine j_iconst X (v := 0) dX10_goesOn_265 (by decide) ?_
                      refine j_stM X (in_752 (ad_nI (by omega)) (wh_rem (mi_clk (mi_age hIχ k (by omega))))) dX10_goesOn_266 ?_
                      obtain ⟨v2, ev2⟩ : ∃ y : Int32, (nI (k + 1)) + 1 = y := ⟨_, rfl⟩
                      refine j_iinc X 2 (k := 1) (v := v2) (L' := [(2, .int v2), (0, .ref b), (1, .int y.1)]) dX10_goesOn_267 rfl (by decide) (by decide) ev2 rfl ?_
                      refine j_goto X (tgt := 187) dX10_goesOn_270 (by decide) ?_
                      refine j_sub [1, 2, 0] (L' := [(0, .ref b), (1, .int y.1), (2, .int (nI ((k + 1) + 1)))]) (by subst ev2; first | with_reducible rfl | (simp only [mAge, mOA, mOB, nI_succ (k + 1), if_neg c_12, if_neg c_71, if_neg c_138, if_pos c_190, if_pos c_203, if_pos c_229]; done) | (simp only [mAge, mOA, mOB, nI_succ (k + 1), if_neg c_12, if_neg c_71, if_neg c_138, if_pos c_190, if_pos c_203, if_pos c_229]; rfl) | rfl) ?_
                      refine j_heap (h' := mput D h b (mAge χ (k + 1))) (by subst ev2; first | with_reducible rfl | (simp only [mAge, mOA, mOB, nI_succ (k + 1), if_neg c_12, if_neg c_71, if_neg c_138, if_pos c_190, if_pos c_203, if_pos c_229]; done) | (simp only [mAge, mOA, mOB, nI_succ (k + 1), if_neg c_12, if_neg c_71, if_neg c_138, if_pos c_190, if_pos c_203, if_pos c_229]; rfl) | rfl) ?_
                      exact ih (k + 1) (by omega)
                    · refine j_aload_n X 0 dX10_goesOn_232 rfl rfl ?_
                      refine j_get X fG_RX10_7 mput_0 rfl rfl dX10_goesOn_233 ?_
                      refine j_sipush X (v := 552) dX10_goesOn_236 (by decide) ?_
                      refine j_iload_n X 2 dX10_goesOn_239 rfl rfl ?_
                      refine j_iadd X dX10_goesOn_240 ?_
                      refine j_iconst X (v := 0) dX10_goesOn_241 (by decide) ?_
                      refine j_stM X (in_552 (ad_nI (by omega))) dX10_goesOn_242 ?_
                      refine j_aload_n X 0 dX10_goesOn_243 rfl rfl ?_
                      refine j_get X fG_RX10_7 mput_0 rfl rfl dX10_goesOn_244 ?_
                      refine j_sipush X (v := 752) dX10_goesOn_247 (by decide) ?_
                      refine j_bipush X (v := 10) dX10_goesOn_250 (by decide) ?_
                      refine j_iload_n X 2 dX10_goesOn_252 rfl rfl ?_
                      refine j_imul X dX10_goesOn_253 ?_
                      refine j_iadd X dX10_goesOn_254 ?_
                      refine j_aload_n X 0 dX10_goesOn_255 rfl rfl ?_
                      refine j_get X fG_RX10_7 mput_0 rfl rfl dX10_goesOn_256 ?_
                      refine j_iconst X (v := 4) dX10_goesOn_259 (by decide) ?_
                      refine j_ldM X (vp_in_nI (n := 4) (by decide) (by decide)) dX10_goesOn_260 ?_
                      refine j_bipush X (v := 10) dX10_goesOn_261 (by decide) ?_
                      refine j_irem X dX10_goesOn_263 (by decide) ?_
                      refine j_iadd X dX10_goesOn_264 ?_
                      refine j_iconst X (v := 0) dX10_goesOn_265 (by decide) ?_
                      refine j_stM X (in_752 (ad_nI (by omega)) (wh_rem (mi_clk (mi_tab (ad_nI (by omega)) (wh_0 (by decide)) (mi_age hIχ k (by omega)))))) dX10_goesOn_266 ?_
                      obtain ⟨v3, ev3⟩ : ∃ y : Int32, (nI (k + 1)) + 1 = y := ⟨_, rfl⟩
                      refine j_iinc X 2 (k := 1) (v := v3) (L' := [(2, .int v3), (0, .ref b), (1, .int y.1)]) dX10_goesOn_267 rfl (by decide) (by decide) ev3 rfl ?_
                      refine j_goto X (tgt := 187) dX10_goesOn_270 (by decide) ?_
                      refine j_sub [1, 2, 0] (L' := [(0, .ref b), (1, .int y.1), (2, .int (nI ((k + 1) + 1)))]) (by subst ev3; first | with_reducible rfl | (simp only [mAge, mOA, mOB, nI_succ (k + 1), if_neg c_12, if_neg c_71, if_neg c_138, if_pos c_190, if_pos c_203, if_neg c_229]; done) | (simp only [mAge, mOA, mOB, nI_succ (k + 1), if_neg c_12, if_neg c_71, if_neg c_138, if_pos c_190, if_pos c_203, if_neg c_229]; rfl) | rfl) ?_
                      refine j_heap (h' := mput D h b (mAge χ (k + 1))) (by subst ev3; first | with_reducible rfl | (simp only [mAge, mOA, mOB, nI_succ (k + 1), if_neg c_12, if_neg c_71, if_neg c_138, if_pos c_190, if_pos c_203, if_neg c_229]; done) | (simp only [mAge, mOA, mOB, nI_succ (k + 1), if_neg c_12, if_neg c_71, if_neg c_138, if_pos c_190, if_pos c_203, if_neg c_229]; rfl) | rfl) ?_
                      exact ih (k + 1) (by omega)
              refine j_sub [1, 2, 0] (L' := [(0, .ref b), (1, .int y.1), (2, .int (nI (0 + 1)))]) (by first | with_reducible rfl | (simp only [mAge, mOA, mOB, if_neg c_12, if_neg c_71, if_neg c_138]; done) | (simp only [mAge, mOA, mOB, if_neg c_12, if_neg c_71, if_neg c_138]; rfl) | rfl) ?_
              refine j_heap (h' := mput D h b (mAge χ 0)) (by first | with_reducible rfl | (simp only [mAge, mOA, mOB, if_neg c_12, if_neg c_71, if_neg c_138]; done) | (simp only [mAge, mOA, mOB, if_neg c_12, if_neg c_71, if_neg c_138]; rfl) | rfl) ?_
              exact loop187 99 0 rfl
            | succ n ih =>
              intro k hk
              have hlt : nI k < 8 := nlt_lit (b := 8) (by omega) (by decide)
              refine j_iload_n X 2 dX10_goesOn_135 rfl rfl ?_
              refine j_bipush X (v := 8) dX10_goesOn_136 (by decide) ?_
              refine j_icmp_ge X (tgt := 185) dX10_goesOn_138 (by decide) (fun c_138 => absurd hlt c_138) (fun c_138 => ?_)
              refine j_aload_n X 0 dX10_goesOn_141 rfl rfl ?_
              refine j_iload_n X 2 dX10_goesOn_142 rfl rfl ?_
              refine j_iconst X (v := 1) dX10_goesOn_143 (by decide) ?_
              refine j_aload_n X 0 dX10_goesOn_144 rfl rfl ?_
              refine j_iload_n X 2 dX10_goesOn_145 rfl rfl ?_
              refine j_iconst X (v := 1) dX10_goesOn_146 (by decide) ?_
              refine j_callVi X (rest := [.int 1, .int (nI k), .ref b]) (c_X10_of l (po_nI (by omega)) (show WH 1 _ from ⟨1, by decide, rfl⟩)) m_yX10_of kM_RX10_44 mput_0 rfl rfl rfl rfl rfl (Nat.le_of_ble_eq_true rfl) ⟨Nat.le_of_ble_eq_true rfl, Nat.le_of_ble_eq_true rfl, Nat.le_of_ble_eq_true rfl, Nat.le_of_ble_eq_true rfl⟩ dX10_goesOn_147 ?_
              refine j_aload_n X 0 dX10_goesOn_150 rfl rfl ?_
              refine j_get X fG_RX10_7 mput_0 rfl rfl dX10_goesOn_151 ?_
              refine j_iconst X (v := 4) dX10_goesOn_154 (by decide) ?_
              refine j_ldM X (vp_in_nI (n := 4) (by decide) (by decide)) dX10_goesOn_155 ?_
              refine j_icmp_gt X (tgt := 163) dX10_goesOn_156 (by decide) (fun c_156 => ?_) (fun c_156 => ?_)
              · refine j_aload_n X 0 dX10_goesOn_163 rfl rfl ?_
                refine j_iload_n X 2 dX10_goesOn_164 rfl rfl ?_
                refine j_iconst X (v := 1) dX10_goesOn_165 (by decide) ?_
                refine j_callVi X (rest := [.int 1, .int (nI k), .ref b]) (c_X10_of l (po_nI (by omega)) (show WH 1 _ from ⟨1, by decide, rfl⟩)) m_yX10_of kM_RX10_44 mput_0 rfl rfl rfl rfl rfl (Nat.le_of_ble_eq_true rfl) ⟨Nat.le_of_ble_eq_true rfl, Nat.le_of_ble_eq_true rfl, Nat.le_of_ble_eq_true rfl, Nat.le_of_ble_eq_true rfl⟩ dX10_goesOn_166 ?_
                refine j_callVv X (rest := []) (c_X10_to l (po_nI (by omega)) (show WH 1 _ from ⟨1, by decide, rfl⟩)) m_yX10_to kM_RX10_32 mput_0 rfl rfl rfl rfl rfl (Nat.le_of_ble_eq_true rfl) ⟨Nat.le_of_ble_eq_true rfl, Nat.le_of_ble_eq_true rfl, Nat.le_of_ble_eq_true rfl, Nat.le_of_ble_eq_true rfl⟩ dX10_goesOn_169 ?_
                refine j_aload_n X 0 dX10_goesOn_172 rfl rfl ?_
                refine j_iload_n X 2 dX10_goesOn_173 rfl rfl ?_
                refine j_iconst X (v := 4) dX10_goesOn_174 (by decide) ?_
                refine j_iconst X (v := 0) dX10_goesOn_175 (by decide) ?_
                refine j_callVv X (rest := []) (c_X10_to l (po_nI (by omega)) (show WH 4 _ from ⟨4, by decide, rfl⟩)) m_yX10_to kM_RX10_32 mput_0 rfl rfl rfl rfl rfl (Nat.le_of_ble_eq_true rfl) ⟨Nat.le_of_ble_eq_true rfl, Nat.le_of_ble_eq_true rfl, Nat.le_of_ble_eq_true rfl, Nat.le_of_ble_eq_true rfl⟩ dX10_goesOn_176 ?_
                obtain ⟨v4, ev4⟩ : ∃ y : Int32, (nI k) + 1 = y := ⟨_, rfl⟩
                refine j_iinc X 2 (k := 1) (v := v4) (L' := [(2, .int v4), (0, .ref b), (1, .int y.1)]) dX10_goesOn_179 rfl (by decide) (by decide) ev4 rfl ?_
                refine j_goto X (tgt := 135) dX10_goesOn_182 (by decide) ?_
                refine j_sub [1, 2, 0] (L' := [(0, .ref b), (1, .int y.1), (2, .int (nI (k + 1)))]) (by subst ev4; first | with_reducible rfl | (simp only [mEQ, nI_succ k, if_neg c_12, if_neg c_71, if_pos c_138, if_pos c_156]; done) | (simp only [mEQ, nI_succ k, if_neg c_12, if_neg c_71, if_pos c_138, if_pos c_156]; rfl) | rfl) ?_
                refine j_heap (h' := mput D h b (mEQ ω (k + 1))) (by subst ev4; first | with_reducible rfl | (simp only [mEQ, nI_succ k, if_neg c_12, if_neg c_71, if_pos c_138, if_pos c_156]; done) | (simp only [mEQ, nI_succ k, if_neg c_12, if_neg c_71, if_pos c_138, if_pos c_156]; rfl) | rfl) ?_
                exact ih (k + 1) (by omega)
              · refine j_iconst X (v := 0) dX10_goesOn_159 (by decide) ?_
                refine j_goto X (tgt := 169) dX10_goesOn_160 (by decide) ?_
                refine j_callVv X (rest := []) (c_X10_to l (po_nI (by omega)) (show WH 1 _ from ⟨1, by decide, rfl⟩)) m_yX10_to kM_RX10_32 mput_0 rfl rfl rfl rfl rfl (Nat.le_of_ble_eq_true rfl) ⟨Nat.le_of_ble_eq_true rfl, Nat.le_of_ble_eq_true rfl, Nat.le_of_ble_eq_true rfl, Nat.le_of_ble_eq_true rfl⟩ dX10_goesOn_169 ?_
                refine j_aload_n X 0 dX10_goesOn_172 rfl rfl ?_
                refine j_iload_n X 2 dX10_goesOn_173 rfl rfl ?_
                refine j_iconst X (v := 4) dX10_goesOn_174 (by decide) ?_
                refine j_iconst X (v := 0) dX10_goesOn_175 (by decide) ?_
                refine j_callVv X (rest := []) (c_X10_to l (po_nI (by omega)) (show WH 4 _ from ⟨4, by decide, rfl⟩)) m_yX10_to kM_RX10_32 mput_0 rfl rfl rfl rfl rfl (Nat.le_of_ble_eq_true rfl) ⟨Nat.le_of_ble_eq_true rfl, Nat.le_of_ble_eq_true rfl, Nat.le_of_ble_eq_true rfl, Nat.le_of_ble_eq_true rfl⟩ dX10_goesOn_176 ?_
                obtain ⟨v5, ev5⟩ : ∃ y : Int32, (nI k) + 1 = y := ⟨_, rfl⟩
                refine j_iinc X 2 (k := 1) (v := v5) (L' := [(2, .int v5), (0, .ref b), (1, .int y.1)]) dX10_goesOn_179 rfl (by decide) (by decide) ev5 rfl ?_
                refine j_goto X (tgt := 135) dX10_goesOn_182 (by decide) ?_
                refine j_sub [1, 2, 0] (L' := [(0, .ref b), (1, .int y.1), (2, .int (nI (k + 1)))]) (by subst ev5; first | with_reducible rfl | (simp only [mEQ, nI_succ k, if_neg c_12, if_neg c_71, if_pos c_138, if_neg c_156]; done) | (simp only [mEQ, nI_succ k, if_neg c_12, if_neg c_71, if_pos c_138, if_neg c_156]; rfl) | rfl) ?_
                refine j_heap (h' := mput D h b (mEQ ω (k + 1))) (by subst ev5; first | with_reducible rfl | (simp only [mEQ, nI_succ k, if_neg c_12, if_neg c_71, if_pos c_138, if_neg c_156]; done) | (simp only [mEQ, nI_succ k, if_neg c_12, if_neg c_71, if_pos c_138, if_neg c_156]; rfl) | rfl) ?_
                exact ih (k + 1) (by omega)
          refine j_sub [1, 2, 0] (L' := [(0, .ref b), (1, .int y.1), (2, .int (nI 0))]) (by first | with_reducible rfl | (simp only [mEQ, if_neg c_12, if_neg c_71]; done) | (simp only [mEQ, if_neg c_12, if_neg c_71]; rfl) | rfl) ?_
          refine j_heap (h' := mput D h b (mEQ ω 0)) (by first | with_reducible rfl | (simp only [mEQ, if_neg c_12, if_neg c_71]; done) | (simp only [mEQ, if_neg c_12, if_neg c_71]; rfl) | rfl) ?_
          exact loop135 8 0 rfl
        | succ n ih =>
          intro k hk
          refine j_iload_n X 2 dX10_goesOn_66 rfl rfl ?_
          refine j_aload_n X 0 dX10_goesOn_67 rfl rfl ?_
          refine j_get X fG_RX10_115 mput_0 rfl rfl dX10_goesOn_68 ?_
          refine j_icmp_ge X (tgt := 123) dX10_goesOn_71 (by decide) (fun c_71 => absurd (show nI k < _ by rw [arr_way hGy.1 hW hr80 (by omega)]; exact nI_lt (by omega) (by omega)) c_71) (fun c_71 => ?_)
          have hA := ga_arr hGy.1 hW hr80 k (by omega)
          obtain ⟨hw0, hw1, hw2, hw3⟩ := way_at hW hr80 hA (k := k) (by omega)
          refine j_aload_n X 0 dX10_goesOn_74 rfl rfl ?_
          refine j_aload_n X 0 dX10_goesOn_75 rfl rfl ?_
          refine j_get X fG_RX10_22 mput_0 rfl rfl dX10_goesOn_76 ?_
          refine j_iconst X (v := 4) dX10_goesOn_79 (by decide) ?_
          refine j_iload_n X 2 dX10_goesOn_80 rfl rfl ?_
          refine j_imul X dX10_goesOn_81 ?_
          refine j_ldA4 X (in_way0 ⟨k, by omega, rfl⟩) dX10_goesOn_82 ?_
          refine j_aload_n X 0 dX10_goesOn_83 rfl rfl ?_
          refine j_get X fG_RX10_22 mput_0 rfl rfl dX10_goesOn_84 ?_
          refine j_iconst X (v := 4) dX10_goesOn_87 (by decide) ?_
          refine j_iload_n X 2 dX10_goesOn_88 rfl rfl ?_
          refine j_imul X dX10_goesOn_89 ?_
          refine j_iconst X (v := 1) dX10_goesOn_90 (by decide) ?_
          refine j_iadd X dX10_goesOn_91 ?_
          refine j_ldA4 X (in_way 1 (by decide) ⟨k, by omega, rfl⟩) dX10_goesOn_92 ?_
          refine j_aload_n X 0 dX10_goesOn_93 rfl rfl ?_
          refine j_get X fG_RX10_22 mput_0 rfl rfl dX10_goesOn_94 ?_
          refine j_iconst X (v := 4) dX10_goesOn_97 (by decide) ?_
          refine j_iload_n X 2 dX10_goesOn_98 rfl rfl ?_
          refine j_imul X dX10_goesOn_99 ?_
          refine j_iconst X (v := 2) dX10_goesOn_100 (by decide) ?_
          refine j_iadd X dX10_goesOn_101 ?_
          refine j_ldA4 X (in_way 2 (by decide) ⟨k, by omega, rfl⟩) dX10_goesOn_102 ?_
          refine j_aload_n X 0 dX10_goesOn_103 rfl rfl ?_
          refine j_get X fG_RX10_22 mput_0 rfl rfl dX10_goesOn_104 ?_
          refine j_iconst X (v := 4) dX10_goesOn_107 (by decide) ?_
          refine j_iload_n X 2 dX10_goesOn_108 rfl rfl ?_
          refine j_imul X dX10_goesOn_109 ?_
          refine j_iconst X (v := 3) dX10_goesOn_110 (by decide) ?_
          refine j_iadd X dX10_goesOn_111 ?_
          refine j_ldA4 X (in_way 3 (by decide) ⟨k, by omega, rfl⟩) dX10_goesOn_112 ?_
          refine j_callVi X (rest := []) (c_X10_comesIn l hw0 hw1 hw2 hA.1) m_yX10_comesIn kM_RX10_109 mput_0 rfl rfl rfl rfl rfl (Nat.le_of_ble_eq_true rfl) ⟨Nat.le_of_ble_eq_true rfl, Nat.le_of_ble_eq_true rfl, Nat.le_of_ble_eq_true rfl, Nat.le_of_ble_eq_true rfl⟩ dX10_goesOn_113 ?_
          refine j_tops (fun v6 ev6 => ?_)
          refine j_istore_n X (L' := [(3, .int v6), (0, .ref b), (1, .int y.1), (2, .int (nI k))]) dX10_goesOn_116 rfl (by decide) rfl ?_
          obtain ⟨v7, ev7⟩ : ∃ y : Int32, (nI k) + 1 = y := ⟨_, rfl⟩
          refine j_iinc X 3 (k := 1) (v := v7) (L' := [(2, .int v7), (3, .int v6), (0, .ref b), (1, .int y.1)]) dX10_goesOn_117 rfl (by decide) (by decide) ev7 rfl ?_
          refine j_goto X (tgt := 66) dX10_goesOn_120 (by decide) ?_
          refine j_sub [2, 3, 0] (L' := [(0, .ref b), (1, .int y.1), (2, .int (nI (k + 1)))]) (by subst ev7 ev6; first | with_reducible rfl | (simp only [mArr, nI_succ k, if_neg c_12, if_pos c_71]; done) | (simp only [mArr, nI_succ k, if_neg c_12, if_pos c_71]; rfl) | rfl) ?_
          refine j_heap (h' := mput D h b (mArr y.2 (k + 1))) (by subst ev7 ev6; first | with_reducible rfl | (simp only [mArr, nI_succ k, if_neg c_12, if_pos c_71]; done) | (simp only [mArr, nI_succ k, if_neg c_12, if_pos c_71]; rfl) | rfl) ?_
          exact ih (k + 1) (by omega)
      refine j_sub [1, 2, 0] (L' := [(0, .ref b), (1, .int y.1), (2, .int (nI 0))]) (by first | with_reducible rfl | (simp only [mArr, if_neg c_12]; done) | (simp only [mArr, if_neg c_12]; rfl) | rfl) ?_
      refine j_heap (h' := mput D h b (mArr y.2 0)) (by first | with_reducible rfl | (simp only [mArr, if_neg c_12]; done) | (simp only [mArr, if_neg c_12]; rfl) | rfl) ?_
      exact loop66 r 0 (by omega)
    | succ n ih =>
      intro k hk
      have hlt : nI k < 8 := nlt_lit (b := 8) (by omega) (by decide)
      refine j_iload_n X 2 dX10_goesOn_9 rfl rfl ?_
      refine j_bipush X (v := 8) dX10_goesOn_10 (by decide) ?_
      refine j_icmp_ge X (tgt := 64) dX10_goesOn_12 (by decide) (fun c_12 => absurd hlt c_12) (fun c_12 => ?_)
      refine j_iconst X (v := 0) dX10_goesOn_15 (by decide) ?_
      refine j_istore_n X (L' := [(3, .int 0), (0, .ref b), (1, .int ((mS8 μ R k).1)), (2, .int (nI k))]) dX10_goesOn_16 rfl (by decide) rfl ?_
      have ih9 := ih
      obtain ⟨x, hx⟩ : ∃ x : Int32 × Mo, mS8 μ R k = x := ⟨_, rfl⟩
      have hGx : GS μ R C (10 * k) x.2 := by rw [← hx]; exact gs_8 hR hG k (by omega)
      have loop17 : ∀ (n j : Nat), j + n = R → J P l E { frames := 4, cells := 0, slots := 0, locals := 99 } S0 M0 AR BL ME CO D B 4 (MQ BL (QC (some (.int ((mGoes μ).1))) D B (z + 0) (mput D h b ((mGoes μ).2))) AR S0 0 0 (aB B)) 0 0 z (mput D h b ((mSr x (nI k) j).2)) [(0, .ref b), (1, .int ((mSr x (nI k) j).1)), (2, .int (nI k)), (3, .int (nI j))] [] 17 := by
        intro n
        induction n with
        | zero =>
          intro j hk
          obtain rfl : R = j := by omega
          refine j_iload_n X 3 dX10_goesOn_17 rfl rfl ?_
          refine j_aload_n X 0 dX10_goesOn_18 rfl rfl ?_
          refine j_get X fG_RX10_7 mput_0 rfl rfl dX10_goesOn_19 ?_
          refine j_iconst X (v := 3) dX10_goesOn_22 (by decide) ?_
          refine j_ldM X (vp_in_nI (n := 3) (by decide) (by decide)) dX10_goesOn_23 ?_
          refine j_icmp_ge X (tgt := 58) dX10_goesOn_24 (by decide) (fun c_24 => ?_) (fun c_24 => absurd c_24 (by rw [gs_rate (gs_r (k := k) (by omega) hGx R (by omega))]; exact nI_nlt (by omega) (by omega)))
          have hS8 : mS8 μ R (k + 1) = mSr x (nI k) R := by show mSr (mS8 μ R k) (nI k) R = _; rw [hx]
          obtain ⟨v8, ev8⟩ : ∃ y : Int32, (nI k) + 1 = y := ⟨_, rfl⟩
          refine j_iinc X 2 (k := 1) (v := v8) (L' := [(2, .int v8), (0, .ref b), (1, .int ((mSr x (nI k) R).1)), (3, .int (nI R))]) dX10_goesOn_58 rfl (by decide) (by decide) ev8 rfl ?_
          refine j_goto X (tgt := 9) dX10_goesOn_61 (by decide) ?_
          refine j_sub [1, 2, 0] (L' := [(0, .ref b), (1, .int ((mS8 μ R (k + 1)).1)), (2, .int (nI (k + 1)))]) (by subst ev8; rw [hS8, nI_succ]; rfl) ?_
          refine j_heap (h' := mput D h b ((mS8 μ R (k + 1)).2)) (by rw [hS8]) ?_
          exact ih9 (k + 1) (by omega)
        | succ n ih =>
          intro j hk
          have hGj := gs_r (k := k) (by omega) hGx j (by omega)
          refine j_iload_n X 3 dX10_goesOn_17 rfl rfl ?_
          refine j_aload_n X 0 dX10_goesOn_18 rfl rfl ?_
          refine j_get X fG_RX10_7 mput_0 rfl rfl dX10_goesOn_19 ?_
          refine j_iconst X (v := 3) dX10_goesOn_22 (by decide) ?_
          refine j_ldM X (vp_in_nI (n := 3) (by decide) (by decide)) dX10_goesOn_23 ?_
          refine j_icmp_ge X (tgt := 58) dX10_goesOn_24 (by decide) (fun c_24 => absurd (show nI j < _ by rw [gs_rate hGj]; exact nI_lt (by omega) (by omega)) c_24) (fun c_24 => ?_)
          refine j_aload_n X 0 dX10_goesOn_27 rfl rfl ?_
          refine j_iload_n X 2 dX10_goesOn_28 rfl rfl ?_
          refine j_callVi X (rest := []) (c_X10_isOpen l (po_nI (by omega))) m_yX10_isOpen kM_RX10_48 mput_0 rfl rfl rfl rfl rfl (Nat.le_of_ble_eq_true rfl) ⟨Nat.le_of_ble_eq_true rfl, Nat.le_of_ble_eq_true rfl, Nat.le_of_ble_eq_true rfl, Nat.le_of_ble_eq_true rfl⟩ dX10_goesOn_29 ?_
          refine j_if_eq X (tgt := 58) dX10_goesOn_32 (by decide) (fun c_32 => ?_) (fun c_32 => ?_)
          · have hS8 : mS8 μ R (k + 1) = mSr x (nI k) j := by show mSr (mS8 μ R k) (nI k) R = _; rw [hx]; exact sr_stop (by unfold mS1; rw [if_pos c_32]) R (by omega)
            obtain ⟨v9, ev9⟩ : ∃ y : Int32, (nI k) + 1 = y := ⟨_, rfl⟩
            refine j_iinc X 2 (k := 1) (v := v9) (L' := [(2, .int v9), (0, .ref b), (1, .int ((mSr x (nI k) j).1)), (3, .int (nI j))]) dX10_goesOn_58 rfl (by decide) (by decide) ev9 rfl ?_
            refine j_goto X (tgt := 9) dX10_goesOn_61 (by decide) ?_
            refine j_sub [1, 2, 0] (L' := [(0, .ref b), (1, .int ((mS8 μ R (k + 1)).1)), (2, .int (nI (k + 1)))]) (by subst ev9; rw [hS8, nI_succ]; rfl) ?_
            refine j_heap (h' := mput D h b ((mS8 μ R (k + 1)).2)) (by rw [hS8]) ?_
            exact ih9 (k + 1) (by omega)
          · refine j_aload_n X 0 dX10_goesOn_35 rfl rfl ?_
            refine j_iload_n X 2 dX10_goesOn_36 rfl rfl ?_
            refine j_iconst X (v := 5) dX10_goesOn_37 (by decide) ?_
            refine j_callVi X (rest := []) (c_X10_of l (po_nI (by omega)) (show WH 5 _ from ⟨5, by decide, rfl⟩)) m_yX10_of kM_RX10_44 mput_0 rfl rfl rfl rfl rfl (Nat.le_of_ble_eq_true rfl) ⟨Nat.le_of_ble_eq_true rfl, Nat.le_of_ble_eq_true rfl, Nat.le_of_ble_eq_true rfl, Nat.le_of_ble_eq_true rfl⟩ dX10_goesOn_38 ?_
            refine j_if_le X (tgt := 58) dX10_goesOn_41 (by decide) (fun c_41 => ?_) (fun c_41 => ?_)
            · have hS8 : mS8 μ R (k + 1) = mSr x (nI k) j := by show mSr (mS8 μ R k) (nI k) R = _; rw [hx]; exact sr_stop (by unfold mS1; rw [if_neg c_32, if_neg c_41]) R (by omega)
              obtain ⟨v10, ev10⟩ : ∃ y : Int32, (nI k) + 1 = y := ⟨_, rfl⟩
              refine j_iinc X 2 (k := 1) (v := v10) (L' := [(2, .int v10), (0, .ref b), (1, .int ((mSr x (nI k) j).1)), (3, .int (nI j))]) dX10_goesOn_58 rfl (by decide) (by decide) ev10 rfl ?_
              refine j_goto X (tgt := 9) dX10_goesOn_61 (by decide) ?_
              refine j_sub [1, 2, 0] (L' := [(0, .ref b), (1, .int ((mS8 μ R (k + 1)).1)), (2, .int (nI (k + 1)))]) (by subst ev10; rw [hS8, nI_succ]; rfl) ?_
              refine j_heap (h' := mput D h b ((mS8 μ R (k + 1)).2)) (by rw [hS8]) ?_
              exact ih9 (k + 1) (by omega)
            · refine j_aload_n X 0 dX10_goesOn_44 rfl rfl ?_
              refine j_iload_n X 2 dX10_goesOn_45 rfl rfl ?_
              refine j_callVv X (rest := []) (c_X10_sends l (po_nI (by omega)) hGj.1.1 (gs_sends (by omega) hGj (by omega) c_41).1 (gs_way hGj (by omega)) c_41) m_yX10_sends kM_RX10_118 mput_0 rfl rfl rfl rfl rfl (Nat.le_of_ble_eq_true rfl) ⟨Nat.le_of_ble_eq_true rfl, Nat.le_of_ble_eq_true rfl, Nat.le_of_ble_eq_true rfl, Nat.le_of_ble_eq_true rfl⟩ dX10_goesOn_46 ?_
              obtain ⟨v11, ev11⟩ : ∃ y : Int32, ((mSr x (nI k) j).1) + 1 = y := ⟨_, rfl⟩
              refine j_iinc X 1 (k := 1) (v := v11) (L' := [(1, .int v11), (0, .ref b), (2, .int (nI k)), (3, .int (nI j))]) dX10_goesOn_49 rfl (by decide) (by decide) ev11 rfl ?_
              obtain ⟨v12, ev12⟩ : ∃ y : Int32, (nI j) + 1 = y := ⟨_, rfl⟩
              refine j_iinc X 3 (k := 1) (v := v12) (L' := [(3, .int v12), (1, .int v11), (0, .ref b), (2, .int (nI k))]) dX10_goesOn_52 rfl (by decide) (by decide) ev12 rfl ?_
              refine j_goto X (tgt := 17) dX10_goesOn_55 (by decide) ?_
              refine j_sub [2, 1, 3, 0] (L' := [(0, .ref b), (1, .int ((mSr x (nI k) (j + 1)).1)), (2, .int (nI k)), (3, .int (nI (j + 1)))]) (by subst ev12 ev11; first | with_reducible rfl | (simp only [mSr, mS1, hx, nI_succ j, if_pos c_12, if_pos c_24, if_neg c_32, if_pos c_41]; done) | (simp only [mSr, mS1, hx, nI_succ j, if_pos c_12, if_pos c_24, if_neg c_32, if_pos c_41]; rfl) | rfl) ?_
              refine j_heap (h' := mput D h b ((mSr x (nI k) (j + 1)).2)) (by subst ev12 ev11; first | with_reducible rfl | (simp only [mSr, mS1, hx, nI_succ j, if_pos c_12, if_pos c_24, if_neg c_32, if_pos c_41]; done) | (simp only [mSr, mS1, hx, nI_succ j, if_pos c_12, if_pos c_24, if_neg c_32, if_pos c_41]; rfl) | rfl) ?_
              exact ih (j + 1) (by omega)
      refine j_sub [1, 2, 3, 0] (L' := [(0, .ref b), (1, .int ((mSr x (nI k) 0).1)), (2, .int (nI k)), (3, .int (nI 0))]) (by first | with_reducible rfl | (simp only [mSr, mS1, hx, if_pos c_12]; done) | (simp only [mSr, mS1, hx, if_pos c_12]; rfl) | rfl) ?_
      refine j_heap (h' := mput D h b ((mSr x (nI k) 0).2)) (by first | with_reducible rfl | (simp only [mSr, mS1, hx, if_pos c_12]; done) | (simp only [mSr, mS1, hx, if_pos c_12]; rfl) | rfl) ?_
      exact loop17 R 0 (by omega)
  refine j_sub [2, 1, 0] (L' := [(0, .ref b), (1, .int ((mS8 μ R 0).1)), (2, .int (nI 0))]) (by first | with_reducible rfl | (simp only [mS8]; done) | (simp only [mS8]; rfl) | rfl) ?_
  refine j_heap (h' := mput D h b ((mS8 μ R 0).2)) (by first | with_reducible rfl | (simp only [mS8]; done) | (simp only [mS8]; rfl) | rfl) ?_
  exact loop9 8 0 rfl
