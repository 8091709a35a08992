set_option maxRecDepth 100000 in
set_option maxHeartbeats 4000000 in
theorem c_X10_becomes (l : Launch) {D : DD} {B z : Nat} {h : HF} {b : Nat} {μ : Mo} {p s d pr : Int32} (hp : PO p) (hs : AD s) (hd : AD d) (hI : MIv μ)  : CT l yX10_becomes cX10_becomes 7 (some .int) 2 48 [.ref b, .int p, .int s, .int d, .int pr] D B z (mput D h b μ) (some (.int ((mBec μ p s d pr).1))) 0 0 (mput D h b ((mBec μ p s d pr).2)) := by
  refine CT.of (L := [(0, .ref b), (1, .int p), (2, .int s), (3, .int d), (4, .int pr)]) (by decide +kernel) (Nat.le_of_ble_eq_true rfl) rfl ?_
  intro P E S0 M0 AR BL ME CO X hr hnm
  refine j_aload_n X 0 dX10_becomes_0 rfl rfl ?_
  refine j_iconst X (v := 0) dX10_becomes_1 (by decide) ?_
  refine j_put X fG_RX10_87 fW_10_6 mput_0 rfl rfl rfl (Nat.le_of_ble_eq_true rfl) dX10_becomes_2 ?_
  refine j_heap (h' := mput D h b (msc μ 2 0)) mput_s2 ?_
  refine j_aload_n X 0 dX10_becomes_5 rfl rfl ?_
  refine j_iload_n X 1 dX10_becomes_6 rfl rfl ?_
  refine j_callVi X (rest := []) (c_X10_isOpen l hp) m_yX10_isOpen kM_RX10_48 mput_0 rfl rfl rfl rfl rfl (Nat.le_of_ble_eq_true rfl) ⟨Nat.le_of_ble_eq_true rfl, Nat.le_of_ble_eq_true rfl, Nat.le_of_ble_eq_true rfl, Nat.le_of_ble_eq_true rfl⟩ dX10_becomes_7 ?_
  refine j_if_ne X (tgt := 15) dX10_becomes_10 (by decide) (fun c_10 => ?_) (fun c_10 => ?_)
  · refine j_aload_n X 0 dX10_becomes_15 rfl rfl ?_
    refine j_get X fG_RX10_7 mput_0 rfl rfl dX10_becomes_16 ?_
    refine j_sipush X (v := 552) dX10_becomes_19 (by decide) ?_
    refine j_iload_n X 2 dX10_becomes_22 rfl rfl ?_
    refine j_iadd X dX10_becomes_23 ?_
    refine j_ldM X (in_552 hs) dX10_becomes_24 ?_
    refine j_if_le X (tgt := 117) dX10_becomes_25 (by decide) (fun c_25 => ?_) (fun c_25 => ?_)
    · refine j_aload_n X 0 dX10_becomes_117 rfl rfl ?_
      refine j_get X fG_RX10_7 mput_0 rfl rfl dX10_becomes_118 ?_
      refine j_sipush X (v := 552) dX10_becomes_121 (by decide) ?_
      refine j_iload_n X 2 dX10_becomes_124 rfl rfl ?_
      refine j_iadd X dX10_becomes_125 ?_
      refine j_ldM X (in_552 hs) dX10_becomes_126 ?_
      refine j_if_ne X (tgt := 143) dX10_becomes_127 (by decide) (fun c_127 => ?_) (fun c_127 => ?_)
      · refine j_aload_n X 0 dX10_becomes_143 rfl rfl ?_
        refine j_get X fG_RX10_7 mput_0 rfl rfl dX10_becomes_144 ?_
        refine j_sipush X (v := 552) dX10_becomes_147 (by decide) ?_
        refine j_iload_n X 2 dX10_becomes_150 rfl rfl ?_
        refine j_iadd X dX10_becomes_151 ?_
        refine j_iload_n X 1 dX10_becomes_152 rfl rfl ?_
        refine j_iconst X (v := 1) dX10_becomes_153 (by decide) ?_
        refine j_iadd X dX10_becomes_154 ?_
        refine j_stM X (in_552 hs) dX10_becomes_155 ?_
        refine j_aload_n X 0 dX10_becomes_156 rfl rfl ?_
        refine j_get X fG_RX10_7 mput_0 rfl rfl dX10_becomes_157 ?_
        refine j_sipush X (v := 652) dX10_becomes_160 (by decide) ?_
        refine j_iload_n X 2 dX10_becomes_163 rfl rfl ?_
        refine j_iadd X dX10_becomes_164 ?_
        refine j_aload_n X 0 dX10_becomes_165 rfl rfl ?_
        refine j_get X fG_RX10_7 mput_0 rfl rfl dX10_becomes_166 ?_
        refine j_iconst X (v := 4) dX10_becomes_169 (by decide) ?_
        refine j_ldM X (vp_in_nI (n := 4) (by decide) (by decide)) dX10_becomes_170 ?_
        refine j_stM X (in_652 hs) dX10_becomes_171 ?_
        refine j_heap (h' := mput D h b (mLn (msc μ 2 0) p s)) rfl ?_
        refine j_iload_n X 3 dX10_becomes_172 rfl rfl ?_
        refine j_if_ne X (tgt := 181) dX10_becomes_173 (by decide) (fun c_173 => ?_) (fun c_173 => ?_)
        · refine j_aload_n X 0 dX10_becomes_181 rfl rfl ?_
          refine j_get X fG_RX10_7 mput_0 rfl rfl dX10_becomes_182 ?_
          refine j_sipush X (v := 552) dX10_becomes_185 (by decide) ?_
          refine j_iload_n X 3 dX10_becomes_188 rfl rfl ?_
          refine j_iadd X dX10_becomes_189 ?_
          refine j_ldM X (in_552 hd) dX10_becomes_190 ?_
          refine j_iconst X (v := 1) dX10_becomes_191 (by decide) ?_
          refine j_isub X dX10_becomes_192 ?_
          refine j_tops (fun v1 ev1 => ?_)
          refine j_istore X (L' := [(5, .int v1), (0, .ref b), (1, .int p), (2, .int s), (3, .int d), (4, .int pr)]) dX10_becomes_193 (by decide) rfl ?_
          refine j_iload X 0 dX10_becomes_195 rfl ?_
          refine j_iload_n X 2 dX10_becomes_197 rfl rfl ?_
          refine j_icmp_ne X (tgt := 203) dX10_becomes_198 (by decide) (fun c_198 => ?_) (fun c_198 => ?_)
          · refine j_iload X 0 dX10_becomes_203 rfl ?_
            refine j_if_lt X (tgt := 240) dX10_becomes_205 (by decide) (fun c_205 => ?_) (fun c_205 => ?_)
            · refine j_aload_n X 1 dX10_becomes_240 rfl rfl ?_
              refine j_iload_n X 2 dX10_becomes_241 rfl rfl ?_
              refine j_iconst X (v := 4) dX10_becomes_242 (by decide) ?_
              refine j_callVi X (rest := []) (c_X10_of l hp (show WH 4 _ from ⟨4, by decide, rfl⟩)) m_yX10_of kM_RX10_44 mput_0 rfl rfl rfl rfl rfl (Nat.le_of_ble_eq_true rfl) ⟨Nat.le_of_ble_eq_true rfl, Nat.le_of_ble_eq_true rfl, Nat.le_of_ble_eq_true rfl, Nat.le_of_ble_eq_true rfl⟩ dX10_becomes_243 ?_
              refine j_aload_n X 1 dX10_becomes_246 rfl rfl ?_
              refine j_get X fG_RX10_7 mput_0 rfl rfl dX10_becomes_247 ?_
              refine j_iconst X (v := 2) dX10_becomes_250 (by decide) ?_
              refine j_ldM X (vp_in_nI (n := 2) (by decide) (by decide)) dX10_becomes_251 ?_
              refine j_icmp_lt X (tgt := 263) dX10_becomes_252 (by decide) (fun c_252 => ?_) (fun c_252 => ?_)
              · refine j_aload_n X 1 dX10_becomes_263 rfl rfl ?_
                refine j_iload_n X 2 dX10_becomes_264 rfl rfl ?_
                refine j_iconst X (v := 4) dX10_becomes_265 (by decide) ?_
                refine j_aload_n X 1 dX10_becomes_266 rfl rfl ?_
                refine j_iload_n X 2 dX10_becomes_267 rfl rfl ?_
                refine j_iconst X (v := 4) dX10_becomes_268 (by decide) ?_
                refine j_callVi X (rest := [.int 4, .int p, .ref b]) (c_X10_of l hp (show WH 4 _ from ⟨4, by decide, rfl⟩)) m_yX10_of kM_RX10_44 mput_0 rfl rfl rfl rfl rfl (Nat.le_of_ble_eq_true rfl) ⟨Nat.le_of_ble_eq_true rfl, Nat.le_of_ble_eq_true rfl, Nat.le_of_ble_eq_true rfl, Nat.le_of_ble_eq_true rfl⟩ dX10_becomes_269 ?_
                refine j_iconst X (v := 1) dX10_becomes_272 (by decide) ?_
                refine j_iadd X dX10_becomes_273 ?_
                refine j_callVv X (rest := []) (c_X10_to l hp (show WH 4 _ from ⟨4, by decide, rfl⟩)) m_yX10_to kM_RX10_32 mput_0 rfl rfl rfl rfl rfl (Nat.le_of_ble_eq_true rfl) ⟨Nat.le_of_ble_eq_true rfl, Nat.le_of_ble_eq_true rfl, Nat.le_of_ble_eq_true rfl, Nat.le_of_ble_eq_true rfl⟩ dX10_becomes_274 ?_
                refine j_iconst X (v := 0) dX10_becomes_277 (by decide) ?_
                refine j_istore X (L' := [(6, .int 0), (5, .int v1), (0, .ref b), (1, .int p), (2, .int s), (3, .int d), (4, .int pr)]) dX10_becomes_278 (by decide) rfl ?_
                have hIb : MIv (mTo (mLn (msc μ 2 0) p s) p 4 ((mOf (mLn (msc μ 2 0) p s) p 4) + 1)) := (mi_to hp ⟨4, by decide, by decide, by decide, rfl⟩ (mi_ln hp hs (mi_msc hI)))
                have loop280 : ∀ (n k : Nat), k + n = 8 → J P l E { frames := 2, cells := 0, slots := 0, locals := 48 } S0 M0 AR BL ME CO D B 7 (MQ BL (QC (some (.int ((mBec μ p s d pr).1))) D B (z + 0) (mput D h b ((mBec μ p s d pr).2))) AR S0 0 0 (aB B)) 0 0 z (mput D h b (mFl (mTo (mLn (msc μ 2 0) p s) p 4 ((mOf (mLn (msc μ 2 0) p s) p 4) + 1)) p s d pr k)) [(0, .ref b), (1, .int p), (2, .int s), (3, .int d), (4, .int pr), (5, .int v1), (6, .int (nI k))] [] 280 := by
                  intro n
                  induction n with
                  | zero =>
                    intro k hk
                    obtain rfl : k = 8 := by omega
                    refine j_iload X 6 dX10_becomes_280 rfl ?_
                    refine j_bipush X (v := 8) dX10_becomes_282 (by decide) ?_
                    refine j_icmp_ge X (tgt := 331) dX10_becomes_284 (by decide) (fun c_284 => ?_) (fun c_284 => absurd c_284 (by decide))
                    refine j_iconst X (v := 3) dX10_becomes_331 (by decide) ?_
                    exact j_iret X hr rfl (by subst ev1; first | (rw [mBec, if_neg c_10, if_neg c_25, mB2, if_neg c_127, mB3, if_neg c_173, mB4, if_neg c_198, if_pos c_205, mB5, if_pos c_252]; done) | (rw [mBec, if_neg c_10, if_neg c_25, mB2, if_neg c_127, mB3, if_neg c_173, mB4, if_neg c_198, if_pos c_205, mB5, if_pos c_252]; rfl)) rfl (by subst ev1; first | (rw [mBec, if_neg c_10, if_neg c_25, mB2, if_neg c_127, mB3, if_neg c_173, mB4, if_neg c_198, if_pos c_205, mB5, if_pos c_252]; done) | (rw [mBec, if_neg c_10, if_neg c_25, mB2, if_neg c_127, mB3, if_neg c_173, mB4, if_neg c_198, if_pos c_205, mB5, if_pos c_252]; rfl)) dX10_becomes_332
                  | succ n ih =>
                    intro k hk
                    have hlt : nI k < 8 := nlt_lit (b := 8) (by omega) (by decide)
                    refine j_iload X 6 dX10_becomes_280 rfl ?_
                    refine j_bipush X (v := 8) dX10_becomes_282 (by decide) ?_
                    refine j_icmp_ge X (tgt := 331) dX10_becomes_284 (by decide) (fun c_284 => absurd hlt c_284) (fun c_284 => ?_)
                    refine j_iload X 6 dX10_becomes_287 rfl ?_
                    refine j_iload_n X 1 dX10_becomes_289 rfl rfl ?_
                    refine j_icmp_eq X (tgt := 325) dX10_becomes_290 (by decide) (fun c_290 => ?_) (fun c_290 => ?_)
                    · obtain ⟨v2, ev2⟩ : ∃ y : Int32, (nI k) + 1 = y := ⟨_, rfl⟩
                      refine j_iinc X 6 (k := 1) (v := v2) (L' := [(6, .int v2), (0, .ref b), (1, .int p), (2, .int s), (3, .int d), (4, .int pr), (5, .int v1)]) dX10_becomes_325 rfl (by decide) (by decide) ev2 rfl ?_
                      refine j_goto X (tgt := 280) dX10_becomes_328 (by decide) ?_
                      refine j_sub [1, 2, 3, 4, 5, 6, 0] (L' := [(0, .ref b), (1, .int p), (2, .int s), (3, .int d), (4, .int pr), (5, .int v1), (6, .int (nI (k + 1)))]) (by subst ev2 ev1; first | with_reducible rfl | (simp only [mFl, nI_succ k, if_neg c_10, if_neg c_25, if_neg c_127, if_neg c_173, if_neg c_198, if_pos c_205, if_pos c_252, if_pos c_284, if_pos c_290]; done) | (simp only [mFl, nI_succ k, if_neg c_10, if_neg c_25, if_neg c_127, if_neg c_173, if_neg c_198, if_pos c_205, if_pos c_252, if_pos c_284, if_pos c_290]; rfl) | rfl) ?_
                      refine j_heap (h' := mput D h b (mFl (mTo (mLn (msc μ 2 0) p s) p 4 ((mOf (mLn (msc μ 2 0) p s) p 4) + 1)) p s d pr (k + 1))) (by subst ev2 ev1; first | with_reducible rfl | (simp only [mFl, nI_succ k, if_neg c_10, if_neg c_25, if_neg c_127, if_neg c_173, if_neg c_198, if_pos c_205, if_pos c_252, if_pos c_284, if_pos c_290]; done) | (simp only [mFl, nI_succ k, if_neg c_10, if_neg c_25, if_neg c_127, if_neg c_173, if_neg c_198, if_pos c_205, if_pos c_252, if_pos c_284, if_pos c_290]; rfl) | rfl) ?_
                      exact ih (k + 1) (by omega)
                    · refine j_aload_n X 0 dX10_becomes_293 rfl rfl ?_
                      refine j_iload X 6 dX10_becomes_294 rfl ?_
                      refine j_callVi X (rest := []) (c_X10_isOpen l (po_nI (by omega))) m_yX10_isOpen kM_RX10_48 mput_0 rfl rfl rfl rfl rfl (Nat.le_of_ble_eq_true rfl) ⟨Nat.le_of_ble_eq_true rfl, Nat.le_of_ble_eq_true rfl, Nat.le_of_ble_eq_true rfl, Nat.le_of_ble_eq_true rfl⟩ dX10_becomes_296 ?_
                      refine j_if_eq X (tgt := 325) dX10_becomes_299 (by decide) (fun c_299 => ?_) (fun c_299 => ?_)
                      · obtain ⟨v3, ev3⟩ : ∃ y : Int32, (nI k) + 1 = y := ⟨_, rfl⟩
                        refine j_iinc X 6 (k := 1) (v := v3) (L' := [(6, .int v3), (0, .ref b), (1, .int p), (2, .int s), (3, .int d), (4, .int pr), (5, .int v1)]) dX10_becomes_325 rfl (by decide) (by decide) ev3 rfl ?_
                        refine j_goto X (tgt := 280) dX10_becomes_328 (by decide) ?_
                        refine j_sub [1, 2, 3, 4, 5, 6, 0] (L' := [(0, .ref b), (1, .int p), (2, .int s), (3, .int d), (4, .int pr), (5, .int v1), (6, .int (nI (k + 1)))]) (by subst ev3 ev1; first | with_reducible rfl | (simp only [mFl, nI_succ k, if_neg c_10, if_neg c_25, if_neg c_127, if_neg c_173, if_neg c_198, if_pos c_205, if_pos c_252, if_pos c_284, if_neg c_290, if_pos c_299]; done) | (simp only [mFl, nI_succ k, if_neg c_10, if_neg c_25, if_neg c_127, if_neg c_173, if_neg c_198, if_pos c_205, if_pos c_252, if_pos c_284, if_neg c_290, if_pos c_299]; rfl) | rfl) ?_
                        refine j_heap (h' := mput D h b (mFl (mTo (mLn (msc μ 2 0) p s) p 4 ((mOf (mLn (msc μ 2 0) p s) p 4) + 1)) p s d pr (k + 1))) (by subst ev3 ev1; first | with_reducible rfl | (simp only [mFl, nI_succ k, if_neg c_10, if_neg c_25, if_neg c_127, if_neg c_173, if_neg c_198, if_pos c_205, if_pos c_252, if_pos c_284, if_neg c_290, if_pos c_299]; done) | (simp only [mFl, nI_succ k, if_neg c_10, if_neg c_25, if_neg c_127, if_neg c_173, if_neg c_198, if_pos c_205, if_pos c_252, if_pos c_284, if_neg c_290, if_pos c_299]; rfl) | rfl) ?_
                        exact ih (k + 1) (by omega)
                      · refine j_aload_n X 0 dX10_becomes_302 rfl rfl ?_
                        refine j_dup X dX10_becomes_303 rfl ?_
                        refine j_get X fG_RX10_87 mput_0 rfl rfl dX10_becomes_304 ?_
                        refine j_iconst X (v := 1) dX10_becomes_307 (by decide) ?_
                        refine j_iload X 6 dX10_becomes_308 rfl ?_
                        refine j_ishl X dX10_becomes_310 ?_
                        refine j_ior X dX10_becomes_311 ?_
                        refine j_put X fG_RX10_87 fW_10_6 mput_0 rfl rfl rfl (Nat.le_of_ble_eq_true rfl) dX10_becomes_312 ?_
                        refine j_heap (h' := mput D h b (msc (mFl (mTo (mLn (msc μ 2 0) p s) p 4 ((mOf (mLn (msc μ 2 0) p s) p 4) + 1)) p s d pr k) 2 (((mFl (mTo (mLn (msc μ 2 0) p s) p 4 ((mOf (mLn (msc μ 2 0) p s) p 4) + 1)) p s d pr k).1 2) ||| (1 <<< ((nI k) &&& 31))))) mput_s2 ?_
                        refine j_aload_n X 0 dX10_becomes_315 rfl rfl ?_
                        refine j_iload X 6 dX10_becomes_316 rfl ?_
                        refine j_iload_n X 2 dX10_becomes_318 rfl rfl ?_
                        refine j_iload_n X 3 dX10_becomes_319 rfl rfl ?_
                        refine j_iload X 4 dX10_becomes_320 rfl ?_
                        refine j_callVv X (rest := []) (c_X10_goesOut l (po_nI (by omega)) (mi_many (po_nI (by omega)) (mi_msc (mi_fl hIb _ (by omega))))) m_yX10_goesOut kM_RX10_102 mput_0 rfl rfl rfl rfl rfl (Nat.le_of_ble_eq_true rfl) ⟨Nat.le_of_ble_eq_true rfl, Nat.le_of_ble_eq_true rfl, Nat.le_of_ble_eq_true rfl, Nat.le_of_ble_eq_true rfl⟩ dX10_becomes_322 ?_
                        obtain ⟨v4, ev4⟩ : ∃ y : Int32, (nI k) + 1 = y := ⟨_, rfl⟩
                        refine j_iinc X 6 (k := 1) (v := v4) (L' := [(6, .int v4), (0, .ref b), (1, .int p), (2, .int s), (3, .int d), (4, .int pr), (5, .int v1)]) dX10_becomes_325 rfl (by decide) (by decide) ev4 rfl ?_
                        refine j_goto X (tgt := 280) dX10_becomes_328 (by decide) ?_
                        refine j_sub [1, 2, 3, 4, 5, 6, 0] (L' := [(0, .ref b), (1, .int p), (2, .int s), (3, .int d), (4, .int pr), (5, .int v1), (6, .int (nI (k + 1)))]) (by subst ev4 ev1; first | with_reducible rfl | (simp only [mFl, nI_succ k, if_neg c_10, if_neg c_25, if_neg c_127, if_neg c_173, if_neg c_198, if_pos c_205, if_pos c_252, if_pos c_284, if_neg c_290, if_neg c_299]; done) | (simp only [mFl, nI_succ k, if_neg c_10, if_neg c_25, if_neg c_127, if_neg c_173, if_neg c_198, if_pos c_205, if_pos c_252, if_pos c_284, if_neg c_290, if_neg c_299]; rfl) | rfl) ?_
                        refine j_heap (h' := mput D h b (mFl (mTo (mLn (msc μ 2 0) p s) p 4 ((mOf (mLn (msc μ 2 0) p s) p 4) + 1)) p s d pr (k + 1))) (by subst ev4 ev1; first | with_reducible rfl | (simp only [mFl, nI_succ k, if_neg c_10, if_neg c_25, if_neg c_127, if_neg c_173, if_neg c_198, if_pos c_205, if_pos c_252, if_pos c_284, if_neg c_290, if_neg c_299]; done) | (simp only [mFl, nI_succ k, if_neg c_10, if_neg c_25, if_neg c_127, if_neg c_173, if_neg c_198, if_pos c_205, if_pos c_252, if_pos c_284, if_neg c_290, if_neg c_299]; rfl) | rfl) ?_
                        exact ih (k + 1) (by omega)
                refine j_sub [2, 3, 4, 5, 6, 1, 0] (L' := [(0, .ref b), (1, .int p), (2, .int s), (3, .int d), (4, .int pr), (5, .int v1), (6, .int (nI 0))]) (by subst ev1; first | with_reducible rfl | (simp only [mFl, if_neg c_10, if_neg c_25, if_neg c_127, if_neg c_173, if_neg c_198, if_pos c_205, if_pos c_252]; done) | (simp only [mFl, if_neg c_10, if_neg c_25, if_neg c_127, if_neg c_173, if_neg c_198, if_pos c_205, if_pos c_252]; rfl) | rfl) ?_
                refine j_heap (h' := mput D h b (mFl (mTo (mLn (msc μ 2 0) p s) p 4 ((mOf (mLn (msc μ 2 0) p s) p 4) + 1)) p s d pr 0)) (by subst ev1; first | with_reducible rfl | (simp only [mFl, if_neg c_10, if_neg c_25, if_neg c_127, if_neg c_173, if_neg c_198, if_pos c_205, if_pos c_252]; done) | (simp only [mFl, if_neg c_10, if_neg c_25, if_neg c_127, if_neg c_173, if_neg c_198, if_pos c_205, if_pos c_252]; rfl) | rfl) ?_
                exact loop280 8 0 rfl
              · refine j_aload_n X 1 dX10_becomes_255 rfl rfl ?_
                refine j_iload_n X 2 dX10_becomes_256 rfl rfl ?_
                refine j_iconst X (v := 2) dX10_becomes_257 (by decide) ?_
                refine j_callVv X (rest := []) (c_X10_quarantine l hp) m_yX10_quarantine kM_RX10_93 mput_0 rfl rfl rfl rfl rfl (Nat.le_of_ble_eq_true rfl) ⟨Nat.le_of_ble_eq_true rfl, Nat.le_of_ble_eq_true rfl, Nat.le_of_ble_eq_true rfl, Nat.le_of_ble_eq_true rfl⟩ dX10_becomes_258 ?_
                refine j_iconst X (v := 5) dX10_becomes_261 (by decide) ?_
                exact j_iret X hr rfl (by subst ev1; first | (rw [mBec, if_neg c_10, if_neg c_25, mB2, if_neg c_127, mB3, if_neg c_173, mB4, if_neg c_198, if_pos c_205, mB5, if_neg c_252]; done) | (rw [mBec, if_neg c_10, if_neg c_25, mB2, if_neg c_127, mB3, if_neg c_173, mB4, if_neg c_198, if_pos c_205, mB5, if_neg c_252]; rfl)) rfl (by subst ev1; first | (rw [mBec, if_neg c_10, if_neg c_25, mB2, if_neg c_127, mB3, if_neg c_173, mB4, if_neg c_198, if_pos c_205, mB5, if_neg c_252]; done) | (rw [mBec, if_neg c_10, if_neg c_25, mB2, if_neg c_127, mB3, if_neg c_173, mB4, if_neg c_198, if_pos c_205, mB5, if_neg c_252]; rfl)) dX10_becomes_262
            · have hpt : PO v1 := po_pred (mi_tabv hd (mi_ln hp hs (mi_msc hI))) ev1 c_205
              refine j_aload_n X 1 dX10_becomes_208 rfl rfl ?_
              refine j_iload X 0 dX10_becomes_209 rfl ?_
              refine j_callVi X (rest := []) (c_X10_isOpen l hpt) m_yX10_isOpen kM_RX10_48 mput_0 rfl rfl rfl rfl rfl (Nat.le_of_ble_eq_true rfl) ⟨Nat.le_of_ble_eq_true rfl, Nat.le_of_ble_eq_true rfl, Nat.le_of_ble_eq_true rfl, Nat.le_of_ble_eq_true rfl⟩ dX10_becomes_211 ?_
              refine j_if_ne X (tgt := 220) dX10_becomes_214 (by decide) (fun c_214 => ?_) (fun c_214 => ?_)
              · refine j_aload_n X 1 dX10_becomes_220 rfl rfl ?_
                refine j_iconst X (v := 1) dX10_becomes_221 (by decide) ?_
                refine j_iload X 0 dX10_becomes_222 rfl ?_
                refine j_ishl X dX10_becomes_224 ?_
                refine j_put X fG_RX10_87 fW_10_6 mput_0 rfl rfl rfl (Nat.le_of_ble_eq_true rfl) dX10_becomes_225 ?_
                refine j_heap (h' := mput D h b (msc (mLn (msc μ 2 0) p s) 2 (1 <<< (v1 &&& 31)))) mput_s2 ?_
                refine j_aload_n X 1 dX10_becomes_228 rfl rfl ?_
                refine j_iload X 0 dX10_becomes_229 rfl ?_
                refine j_iload_n X 3 dX10_becomes_231 rfl rfl ?_
                refine j_iload_n X 4 dX10_becomes_232 rfl rfl ?_
                refine j_iload X 5 dX10_becomes_233 rfl ?_
                refine j_callVv X (rest := []) (c_X10_goesOut l hpt (mi_many hpt (mi_msc (mi_ln hp hs (mi_msc hI))))) m_yX10_goesOut kM_RX10_102 mput_0 rfl rfl rfl rfl rfl (Nat.le_of_ble_eq_true rfl) ⟨Nat.le_of_ble_eq_true rfl, Nat.le_of_ble_eq_true rfl, Nat.le_of_ble_eq_true rfl, Nat.le_of_ble_eq_true rfl⟩ dX10_becomes_235 ?_
                refine j_iconst X (v := 2) dX10_becomes_238 (by decide) ?_
                exact j_iret X hr rfl (by subst ev1; first | (rw [mBec, if_neg c_10, if_neg c_25, mB2, if_neg c_127, mB3, if_neg c_173, mB4, if_neg c_198, if_neg c_205, if_neg c_214]; done) | (rw [mBec, if_neg c_10, if_neg c_25, mB2, if_neg c_127, mB3, if_neg c_173, mB4, if_neg c_198, if_neg c_205, if_neg c_214]; rfl)) rfl (by subst ev1; first | (rw [mBec, if_neg c_10, if_neg c_25, mB2, if_neg c_127, mB3, if_neg c_173, mB4, if_neg c_198, if_neg c_205, if_neg c_214]; done) | (rw [mBec, if_neg c_10, if_neg c_25, mB2, if_neg c_127, mB3, if_neg c_173, mB4, if_neg c_198, if_neg c_205, if_neg c_214]; rfl)) dX10_becomes_239
              · refine j_bipush X (v := 6) dX10_becomes_217 (by decide) ?_
                exact j_iret X hr rfl (by subst ev1; first | (rw [mBec, if_neg c_10, if_neg c_25, mB2, if_neg c_127, mB3, if_neg c_173, mB4, if_neg c_198, if_neg c_205, if_pos c_214]; done) | (rw [mBec, if_neg c_10, if_neg c_25, mB2, if_neg c_127, mB3, if_neg c_173, mB4, if_neg c_198, if_neg c_205, if_pos c_214]; rfl)) rfl (by subst ev1; first | (rw [mBec, if_neg c_10, if_neg c_25, mB2, if_neg c_127, mB3, if_neg c_173, mB4, if_neg c_198, if_neg c_205, if_pos c_214]; done) | (rw [mBec, if_neg c_10, if_neg c_25, mB2, if_neg c_127, mB3, if_neg c_173, mB4, if_neg c_198, if_neg c_205, if_pos c_214]; rfl)) dX10_becomes_219
          · refine j_iconst X (v := 1) dX10_becomes_201 (by decide) ?_
            exact j_iret X hr rfl (by subst ev1; first | (rw [mBec, if_neg c_10, if_neg c_25, mB2, if_neg c_127, mB3, if_neg c_173, mB4, if_pos c_198]; done) | (rw [mBec, if_neg c_10, if_neg c_25, mB2, if_neg c_127, mB3, if_neg c_173, mB4, if_pos c_198]; rfl)) rfl (by subst ev1; first | (rw [mBec, if_neg c_10, if_neg c_25, mB2, if_neg c_127, mB3, if_neg c_173, mB4, if_pos c_198]; done) | (rw [mBec, if_neg c_10, if_neg c_25, mB2, if_neg c_127, mB3, if_neg c_173, mB4, if_pos c_198]; rfl)) dX10_becomes_202
        · refine j_bipush X (v := (-4)) dX10_becomes_176 (by decide) ?_
          refine j_goto X (tgt := 193) dX10_becomes_178 (by decide) ?_
          refine j_istore X (L' := [(5, .int (-4)), (0, .ref b), (1, .int p), (2, .int s), (3, .int d), (4, .int pr)]) dX10_becomes_193 (by decide) rfl ?_
          refine j_iload X 0 dX10_becomes_195 rfl ?_
          refine j_iload_n X 2 dX10_becomes_197 rfl rfl ?_
          refine j_icmp_ne X (tgt := 203) dX10_becomes_198 (by decide) (fun c_198 => ?_) (fun c_198 => ?_)
          · refine j_iload X 0 dX10_becomes_203 rfl ?_
            refine j_if_lt X (tgt := 240) dX10_becomes_205 (by decide) (fun _ => ?_) (fun c_ => absurd (by decide) c_)
            refine j_aload_n X 1 dX10_becomes_240 rfl rfl ?_
            refine j_iload_n X 2 dX10_becomes_241 rfl rfl ?_
            refine j_iconst X (v := 4) dX10_becomes_242 (by decide) ?_
            refine j_callVi X (rest := []) (c_X10_of l hp (show WH 4 _ from ⟨4, by decide, rfl⟩)) m_yX10_of kM_RX10_44 mput_0 rfl rfl rfl rfl rfl (Nat.le_of_ble_eq_true rfl) ⟨Nat.le_of_ble_eq_true rfl, Nat.le_of_ble_eq_true rfl, Nat.le_of_ble_eq_true rfl, Nat.le_of_ble_eq_true rfl⟩ dX10_becomes_243 ?_
            refine j_aload_n X 1 dX10_becomes_246 rfl rfl ?_
            refine j_get X fG_RX10_7 mput_0 rfl rfl dX10_becomes_247 ?_
            refine j_iconst X (v := 2) dX10_becomes_250 (by decide) ?_
            refine j_ldM X (vp_in_nI (n := 2) (by decide) (by decide)) dX10_becomes_251 ?_
            refine j_icmp_lt X (tgt := 263) dX10_becomes_252 (by decide) (fun c_252 => ?_) (fun c_252 => ?_)
            · refine j_aload_n X 1 dX10_becomes_263 rfl rfl ?_
              refine j_iload_n X 2 dX10_becomes_264 rfl rfl ?_
              refine j_iconst X (v := 4) dX10_becomes_265 (by decide) ?_
              refine j_aload_n X 1 dX10_becomes_266 rfl rfl ?_
              refine j_iload_n X 2 dX10_becomes_267 rfl rfl ?_
              refine j_iconst X (v := 4) dX10_becomes_268 (by decide) ?_
              refine j_callVi X (rest := [.int 4, .int p, .ref b]) (c_X10_of l hp (show WH 4 _ from ⟨4, by decide, rfl⟩)) m_yX10_of kM_RX10_44 mput_0 rfl rfl rfl rfl rfl (Nat.le_of_ble_eq_true rfl) ⟨Nat.le_of_ble_eq_true rfl, Nat.le_of_ble_eq_true rfl, Nat.le_of_ble_eq_true rfl, Nat.le_of_ble_eq_true rfl⟩ dX10_becomes_269 ?_
              refine j_iconst X (v := 1) dX10_becomes_272 (by decide) ?_
              refine j_iadd X dX10_becomes_273 ?_
              refine j_callVv X (rest := []) (c_X10_to l hp (show WH 4 _ from ⟨4, by decide, rfl⟩)) m_yX10_to kM_RX10_32 mput_0 rfl rfl rfl rfl rfl (Nat.le_of_ble_eq_true rfl) ⟨Nat.le_of_ble_eq_true rfl, Nat.le_of_ble_eq_true rfl, Nat.le_of_ble_eq_true rfl, Nat.le_of_ble_eq_true rfl⟩ dX10_becomes_274 ?_
              refine j_iconst X (v := 0) dX10_becomes_277 (by decide) ?_
              refine j_istore X (L' := [(6, .int 0), (5, .int (-4)), (0, .ref b), (1, .int p), (2, .int s), (3, .int d), (4, .int pr)]) dX10_becomes_278 (by decide) rfl ?_
              have hIb : MIv (mTo (mLn (msc μ 2 0) p s) p 4 ((mOf (mLn (msc μ 2 0) p s) p 4) + 1)) := (mi_to hp ⟨4, by decide, by decide, by decide, rfl⟩ (mi_ln hp hs (mi_msc hI)))
              have loop280 : ∀ (n k : Nat), k + n = 8 → J P l E { frames := 2, cells := 0, slots := 0, locals := 48 } S0 M0 AR BL ME CO D B 7 (MQ BL (QC (some (.int ((mBec μ p s d pr).1))) D B (z + 0) (mput D h b ((mBec μ p s d pr).2))) AR S0 0 0 (aB B)) 0 0 z (mput D h b (mFl (mTo (mLn (msc μ 2 0) p s) p 4 ((mOf (mLn (msc μ 2 0) p s) p 4) + 1)) p s d pr k)) [(0, .ref b), (1, .int p), (2, .int s), (3, .int d), (4, .int pr), (5, .int (-4)), (6, .int (nI k))] [] 280 := by
                intro n
                induction n with
                | zero =>
                  intro k hk
                  obtain rfl : k = 8 := by omega
                  refine j_iload X 6 dX10_becomes_280 rfl ?_
                  refine j_bipush X (v := 8) dX10_becomes_282 (by decide) ?_
                  refine j_icmp_ge X (tgt := 331) dX10_becomes_284 (by decide) (fun c_284 => ?_) (fun c_284 => absurd c_284 (by decide))
                  refine j_iconst X (v := 3) dX10_becomes_331 (by decide) ?_
                  exact j_iret X hr rfl (by first | (rw [mBec, if_neg c_10, if_neg c_25, mB2, if_neg c_127, mB3, if_pos c_173, mB4, if_neg c_198, if_pos (show (-4 : Int32) < 0 by decide), mB5, if_pos c_252]; done) | (rw [mBec, if_neg c_10, if_neg c_25, mB2, if_neg c_127, mB3, if_pos c_173, mB4, if_neg c_198, if_pos (show (-4 : Int32) < 0 by decide), mB5, if_pos c_252]; rfl)) rfl (by first | (rw [mBec, if_neg c_10, if_neg c_25, mB2, if_neg c_127, mB3, if_pos c_173, mB4, if_neg c_198, if_pos (show (-4 : Int32) < 0 by decide), mB5, if_pos c_252]; done) | (rw [mBec, if_neg c_10, if_neg c_25, mB2, if_neg c_127, mB3, if_pos c_173, mB4, if_neg c_198, if_pos (show (-4 : Int32) < 0 by decide), mB5, if_pos c_252]; rfl)) dX10_becomes_332
                | succ n ih =>
                  intro k hk
                  have hlt : nI k < 8 := nlt_lit (b := 8) (by omega) (by decide)
                  refine j_iload X 6 dX10_becomes_280 rfl ?_
                  refine j_bipush X (v := 8) dX10_becomes_282 (by decide) ?_
                  refine j_icmp_ge X (tgt := 331) dX10_becomes_284 (by decide) (fun c_284 => absurd hlt c_284) (fun c_284 => ?_)
                  refine j_iload X 6 dX10_becomes_287 rfl ?_
                  refine j_iload_n X 1 dX10_becomes_289 rfl rfl ?_
                  refine j_icmp_eq X (tgt := 325) dX10_becomes_290 (by decide) (fun c_290 => ?_) (fun c_290 => ?_)
                  · obtain ⟨v5, ev5⟩ : ∃ y : Int32, (nI k) + 1 = y := ⟨_, rfl⟩
                    refine j_iinc X 6 (k := 1) (v := v5) (L' := [(6, .int v5), (0, .ref b), (1, .int p), (2, .int s), (3, .int d), (4, .int pr), (5, .int (-4))]) dX10_becomes_325 rfl (by decide) (by decide) ev5 rfl ?_
                    refine j_goto X (tgt := 280) dX10_becomes_328 (by decide) ?_
                    refine j_sub [1, 2, 3, 4, 5, 6, 0] (L' := [(0, .ref b), (1, .int p), (2, .int s), (3, .int d), (4, .int pr), (5, .int (-4)), (6, .int (nI (k + 1)))]) (by subst ev5; first | with_reducible rfl | (simp only [mFl, nI_succ k, if_neg c_10, if_neg c_25, if_neg c_127, if_pos c_173, if_neg c_198, if_pos c_252, if_pos c_284, if_pos c_290]; done) | (simp only [mFl, nI_succ k, if_neg c_10, if_neg c_25, if_neg c_127, if_pos c_173, if_neg c_198, if_pos c_252, if_pos c_284, if_pos c_290]; rfl) | rfl) ?_
                    refine j_heap (h' := mput D h b (mFl (mTo (mLn (msc μ 2 0) p s) p 4 ((mOf (mLn (msc μ 2 0) p s) p 4) + 1)) p s d pr (k + 1))) (by subst ev5; first | with_reducible rfl | (simp only [mFl, nI_succ k, if_neg c_10, if_neg c_25, if_neg c_127, if_pos c_173, if_neg c_198, if_pos c_252, if_pos c_284, if_pos c_290]; done) | (simp only [mFl, nI_succ k, if_neg c_10, if_neg c_25, if_neg c_127, if_pos c_173, if_neg c_198, if_pos c_252, if_pos c_284, if_pos c_290]; rfl) | rfl) ?_
                    exact ih (k + 1) (by omega)
                  · refine j_aload_n X 0 dX10_becomes_293 rfl rfl ?_
                    refine j_iload X 6 dX10_becomes_294 rfl ?_
                    refine j_callVi X (rest := []) (c_X10_isOpen l (po_nI (by omega))) m_yX10_isOpen kM_RX10_48 mput_0 rfl rfl rfl rfl rfl (Nat.le_of_ble_eq_true rfl) ⟨Nat.le_of_ble_eq_true rfl, Nat.le_of_ble_eq_true rfl, Nat.le_of_ble_eq_true rfl, Nat.le_of_ble_eq_true rfl⟩ dX10_becomes_296 ?_
                    refine j_if_eq X (tgt := 325) dX10_becomes_299 (by decide) (fun c_299 => ?_) (fun c_299 => ?_)
                    · obtain ⟨v6, ev6⟩ : ∃ y : Int32, (nI k) + 1 = y := ⟨_, rfl⟩
                      refine j_iinc X 6 (k := 1) (v := v6) (L' := [(6, .int v6), (0, .ref b), (1, .int p), (2, .int s), (3, .int d), (4, .int pr), (5, .int (-4))]) dX10_becomes_325 rfl (by decide) (by decide) ev6 rfl ?_
                      refine j_goto X (tgt := 280) dX10_becomes_328 (by decide) ?_
                      refine j_sub [1, 2, 3, 4, 5, 6, 0] (L' := [(0, .ref b), (1, .int p), (2, .int s), (3, .int d), (4, .int pr), (5, .int (-4)), (6, .int (nI (k + 1)))]) (by subst ev6; first | with_reducible rfl | (simp only [mFl, nI_succ k, if_neg c_10, if_neg c_25, if_neg c_127, if_pos c_173, if_neg c_198, if_pos c_252, if_pos c_284, if_neg c_290, if_pos c_299]; done) | (simp only [mFl, nI_succ k, if_neg c_10, if_neg c_25, if_neg c_127, if_pos c_173, if_neg c_198, if_pos c_252, if_pos c_284, if_neg c_290, if_pos c_299]; rfl) | rfl) ?_
                      refine j_heap (h' := mput D h b (mFl (mTo (mLn (msc μ 2 0) p s) p 4 ((mOf (mLn (msc μ 2 0) p s) p 4) + 1)) p s d pr (k + 1))) (by subst ev6; first | with_reducible rfl | (simp only [mFl, nI_succ k, if_neg c_10, if_neg c_25, if_neg c_127, if_pos c_173, if_neg c_198, if_pos c_252, if_pos c_284, if_neg c_290, if_pos c_299]; done) | (simp only [mFl, nI_succ k, if_neg c_10, if_neg c_25, if_neg c_127, if_pos c_173, if_neg c_198, if_pos c_252, if_pos c_284, if_neg c_290, if_pos c_299]; rfl) | rfl) ?_
                      exact ih (k + 1) (by omega)
                    · refine j_aload_n X 0 dX10_becomes_302 rfl rfl ?_
                      refine j_dup X dX10_becomes_303 rfl ?_
                      refine j_get X fG_RX10_87 mput_0 rfl rfl dX10_becomes_304 ?_
                      refine j_iconst X (v := 1) dX10_becomes_307 (by decide) ?_
                      refine j_iload X 6 dX10_becomes_308 rfl ?_
                      refine j_ishl X dX10_becomes_310 ?_
                      refine j_ior X dX10_becomes_311 ?_
                      refine j_put X fG_RX10_87 fW_10_6 mput_0 rfl rfl rfl (Nat.le_of_ble_eq_true rfl) dX10_becomes_312 ?_
                      refine j_heap (h' := mput D h b (msc (mFl (mTo (mLn (msc μ 2 0) p s) p 4 ((mOf (mLn (msc μ 2 0) p s) p 4) + 1)) p s d pr k) 2 (((mFl (mTo (mLn (msc μ 2 0) p s) p 4 ((mOf (mLn (msc μ 2 0) p s) p 4) + 1)) p s d pr k).1 2) ||| (1 <<< ((nI k) &&& 31))))) mput_s2 ?_
                      refine j_aload_n X 0 dX10_becomes_315 rfl rfl ?_
                      refine j_iload X 6 dX10_becomes_316 rfl ?_
                      refine j_iload_n X 2 dX10_becomes_318 rfl rfl ?_
                      refine j_iload_n X 3 dX10_becomes_319 rfl rfl ?_
                      refine j_iload X 4 dX10_becomes_320 rfl ?_
                      refine j_callVv X (rest := []) (c_X10_goesOut l (po_nI (by omega)) (mi_many (po_nI (by omega)) (mi_msc (mi_fl hIb _ (by omega))))) m_yX10_goesOut kM_RX10_102 mput_0 rfl rfl rfl rfl rfl (Nat.le_of_ble_eq_true rfl) ⟨Nat.le_of_ble_eq_true rfl, Nat.le_of_ble_eq_true rfl, Nat.le_of_ble_eq_true rfl, Nat.le_of_ble_eq_true rfl⟩ dX10_becomes_322 ?_
                      obtain ⟨v7, ev7⟩ : ∃ y : Int32, (nI k) + 1 = y := ⟨_, rfl⟩
                      refine j_iinc X 6 (k := 1) (v := v7) (L' := [(6, .int v7), (0, .ref b), (1, .int p), (2, .int s), (3, .int d), (4, .int pr), (5, .int (-4))]) dX10_becomes_325 rfl (by decide) (by decide) ev7 rfl ?_
                      refine j_goto X (tgt := 280) dX10_becomes_328 (by decide) ?_
                      refine j_sub [1, 2, 3, 4, 5, 6, 0] (L' := [(0, .ref b), (1, .int p), (2, .int s), (3, .int d), (4, .int pr), (5, .int (-4)), (6, .int (nI (k + 1)))]) (by subst ev7; first | with_reducible rfl | (simp only [mFl, nI_succ k, if_neg c_10, if_neg c_25, if_neg c_127, if_pos c_173, if_neg c_198, if_pos c_252, if_pos c_284, if_neg c_290, if_neg c_299]; done) | (simp only [mFl, nI_succ k, if_neg c_10, if_neg c_25, if_neg c_127, if_pos c_173, if_neg c_198, if_pos c_252, if_pos c_284, if_neg c_290, if_neg c_299]; rfl) | rfl) ?_
                      refine j_heap (h' := mput D h b (mFl (mTo (mLn (msc μ 2 0) p s) p 4 ((mOf (mLn (msc μ 2 0) p s) p 4) + 1)) p s d pr (k + 1))) (by subst ev7; first | with_reducible rfl | (simp only [mFl, nI_succ k, if_neg c_10, if_neg c_25, if_neg c_127, if_pos c_173, if_neg c_198, if_pos c_252, if_pos c_284, if_neg c_290, if_neg c_299]; done) | (simp only [mFl, nI_succ k, if_neg c_10, if_neg c_25, if_neg c_127, if_pos c_173, if_neg c_198, if_pos c_252, if_pos c_284, if_neg c_290, if_neg c_299]; rfl) | rfl) ?_
                      exact ih (k + 1) (by omega)
              refine j_sub [2, 3, 4, 5, 6, 1, 0] (L' := [(0, .ref b), (1, .int p), (2, .int s), (3, .int d), (4, .int pr), (5, .int (-4)), (6, .int (nI 0))]) (by first | with_reducible rfl | (simp only [mFl, if_neg c_10, if_neg c_25, if_neg c_127, if_pos c_173, if_neg c_198, if_pos c_252]; done) | (simp only [mFl, if_neg c_10, if_neg c_25, if_neg c_127, if_pos c_173, if_neg c_198, if_pos c_252]; rfl) | rfl) ?_
              refine j_heap (h' := mput D h b (mFl (mTo (mLn (msc μ 2 0) p s) p 4 ((mOf (mLn (msc μ 2 0) p s) p 4) + 1)) p s d pr 0)) (by first | with_reducible rfl | (simp only [mFl, if_neg c_10, if_neg c_25, if_neg c_127, if_pos c_173, if_neg c_198, if_pos c_252]; done) | (simp only [mFl, if_neg c_10, if_neg c_25, if_neg c_127, if_pos c_173, if_neg c_198, if_pos c_252]; rfl) | rfl) ?_
              exact loop280 8 0 rfl
            · refine j_aload_n X 1 dX10_becomes_255 rfl rfl ?_
              refine j_iload_n X 2 dX10_becomes_256 rfl rfl ?_
              refine j_iconst X (v := 2) dX10_becomes_257 (by decide) ?_
              refine j_callVv X (rest := []) (c_X10_quarantine l hp) m_yX10_quarantine kM_RX10_93 mput_0 rfl rfl rfl rfl rfl (Nat.le_of_ble_eq_true rfl) ⟨Nat.le_of_ble_eq_true rfl, Nat.le_of_ble_eq_true rfl, Nat.le_of_ble_eq_true rfl, Nat.le_of_ble_eq_true rfl⟩ dX10_becomes_258 ?_
              refine j_iconst X (v := 5) dX10_becomes_261 (by decide) ?_
              exact j_iret X hr rfl (by first | (rw [mBec, if_neg c_10, if_neg c_25, mB2, if_neg c_127, mB3, if_pos c_173, mB4, if_neg c_198, if_pos (show (-4 : Int32) < 0 by decide), mB5, if_neg c_252]; done) | (rw [mBec, if_neg c_10, if_neg c_25, mB2, if_neg c_127, mB3, if_pos c_173, mB4, if_neg c_198, if_pos (show (-4 : Int32) < 0 by decide), mB5, if_neg c_252]; rfl)) rfl (by first | (rw [mBec, if_neg c_10, if_neg c_25, mB2, if_neg c_127, mB3, if_pos c_173, mB4, if_neg c_198, if_pos (show (-4 : Int32) < 0 by decide), mB5, if_neg c_252]; done) | (rw [mBec, if_neg c_10, if_neg c_25, mB2, if_neg c_127, mB3, if_pos c_173, mB4, if_neg c_198, if_pos (show (-4 : Int32) < 0 by decide), mB5, if_neg c_252]; rfl)) dX10_becomes_262
          · refine j_iconst X (v := 1) dX10_becomes_201 (by decide) ?_
            exact j_iret X hr rfl (by first | (rw [mBec, if_neg c_10, if_neg c_25, mB2, if_neg c_127, mB3, if_pos c_173, mB4, if_pos c_198]; done) | (rw [mBec, if_neg c_10, if_neg c_25, mB2, if_neg c_127, mB3, if_pos c_173, mB4, if_pos c_198]; rfl)) rfl (by first | (rw [mBec, if_neg c_10, if_neg c_25, mB2, if_neg c_127, mB3, if_pos c_173, mB4, if_pos c_198]; done) | (rw [mBec, if_neg c_10, if_neg c_25, mB2, if_neg c_127, mB3, if_pos c_173, mB4, if_pos c_198]; rfl)) dX10_becomes_202
      · refine j_aload_n X 0 dX10_becomes_130 rfl rfl ?_
        refine j_callVi X (rest := []) (c_X10_entries l) m_yX10_entries kM_RX10_96 mput_0 rfl rfl rfl rfl rfl (Nat.le_of_ble_eq_true rfl) ⟨Nat.le_of_ble_eq_true rfl, Nat.le_of_ble_eq_true rfl, Nat.le_of_ble_eq_true rfl, Nat.le_of_ble_eq_true rfl⟩ dX10_becomes_131 ?_
        refine j_bipush X (v := 20) dX10_becomes_134 (by decide) ?_
        refine j_icmp_ne X (tgt := 143) dX10_becomes_136 (by decide) (fun c_136 => ?_) (fun c_136 => ?_)
        · refine j_aload_n X 0 dX10_becomes_143 rfl rfl ?_
          refine j_get X fG_RX10_7 mput_0 rfl rfl dX10_becomes_144 ?_
          refine j_sipush X (v := 552) dX10_becomes_147 (by decide) ?_
          refine j_iload_n X 2 dX10_becomes_150 rfl rfl ?_
          refine j_iadd X dX10_becomes_151 ?_
          refine j_iload_n X 1 dX10_becomes_152 rfl rfl ?_
          refine j_iconst X (v := 1) dX10_becomes_153 (by decide) ?_
          refine j_iadd X dX10_becomes_154 ?_
          refine j_stM X (in_552 hs) dX10_becomes_155 ?_
          refine j_aload_n X 0 dX10_becomes_156 rfl rfl ?_
          refine j_get X fG_RX10_7 mput_0 rfl rfl dX10_becomes_157 ?_
          refine j_sipush X (v := 652) dX10_becomes_160 (by decide) ?_
          refine j_iload_n X 2 dX10_becomes_163 rfl rfl ?_
          refine j_iadd X dX10_becomes_164 ?_
          refine j_aload_n X 0 dX10_becomes_165 rfl rfl ?_
          refine j_get X fG_RX10_7 mput_0 rfl rfl dX10_becomes_166 ?_
          refine j_iconst X (v := 4) dX10_becomes_169 (by decide) ?_
          refine j_ldM X (vp_in_nI (n := 4) (by decide) (by decide)) dX10_becomes_170 ?_
          refine j_stM X (in_652 hs) dX10_becomes_171 ?_
          refine j_heap (h' := mput D h b (mLn (msc μ 2 0) p s)) rfl ?_
          refine j_iload_n X 3 dX10_becomes_172 rfl rfl ?_
          refine j_if_ne X (tgt := 181) dX10_becomes_173 (by decide) (fun c_173 => ?_) (fun c_173 => ?_)
          · refine j_aload_n X 0 dX10_becomes_181 rfl rfl ?_
            refine j_get X fG_RX10_7 mput_0 rfl rfl dX10_becomes_182 ?_
            refine j_sipush X (v := 552) dX10_becomes_185 (by decide) ?_
            refine j_iload_n X 3 dX10_becomes_188 rfl rfl ?_
            refine j_iadd X dX10_becomes_189 ?_
            refine j_ldM X (in_552 hd) dX10_becomes_190 ?_
            refine j_iconst X (v := 1) dX10_becomes_191 (by decide) ?_
            refine j_isub X dX10_becomes_192 ?_
            refine j_tops (fun v8 ev8 => ?_)
            refine j_istore X (L' := [(5, .int v8), (0, .ref b), (1, .int p), (2, .int s), (3, .int d), (4, .int pr)]) dX10_becomes_193 (by decide) rfl ?_
            refine j_iload X 0 dX10_becomes_195 rfl ?_
            refine j_iload_n X 2 dX10_becomes_197 rfl rfl ?_
            refine j_icmp_ne X (tgt := 203) dX10_becomes_198 (by decide) (fun c_198 => ?_) (fun c_198 => ?_)
            · refine j_iload X 0 dX10_becomes_203 rfl ?_
              refine j_if_lt X (tgt := 240) dX10_becomes_205 (by decide) (fun c_205 => ?_) (fun c_205 => ?_)
              · refine j_aload_n X 1 dX10_becomes_240 rfl rfl ?_
                refine j_iload_n X 2 dX10_becomes_241 rfl rfl ?_
                refine j_iconst X (v := 4) dX10_becomes_242 (by decide) ?_
                refine j_callVi X (rest := []) (c_X10_of l hp (show WH 4 _ from ⟨4, by decide, rfl⟩)) m_yX10_of kM_RX10_44 mput_0 rfl rfl rfl rfl rfl (Nat.le_of_ble_eq_true rfl) ⟨Nat.le_of_ble_eq_true rfl, Nat.le_of_ble_eq_true rfl, Nat.le_of_ble_eq_true rfl, Nat.le_of_ble_eq_true rfl⟩ dX10_becomes_243 ?_
                refine j_aload_n X 1 dX10_becomes_246 rfl rfl ?_
                refine j_get X fG_RX10_7 mput_0 rfl rfl dX10_becomes_247 ?_
                refine j_iconst X (v := 2) dX10_becomes_250 (by decide) ?_
                refine j_ldM X (vp_in_nI (n := 2) (by decide) (by decide)) dX10_becomes_251 ?_
                refine j_icmp_lt X (tgt := 263) dX10_becomes_252 (by decide) (fun c_252 => ?_) (fun c_252 => ?_)
                · refine j_aload_n X 1 dX10_becomes_263 rfl rfl ?_
                  refine j_iload_n X 2 dX10_becomes_264 rfl rfl ?_
                  refine j_iconst X (v := 4) dX10_becomes_265 (by decide) ?_
                  refine j_aload_n X 1 dX10_becomes_266 rfl rfl ?_
                  refine j_iload_n X 2 dX10_becomes_267 rfl rfl ?_
                  refine j_iconst X (v := 4) dX10_becomes_268 (by decide) ?_
                  refine j_callVi X (rest := [.int 4, .int p, .ref b]) (c_X10_of l hp (show WH 4 _ from ⟨4, by decide, rfl⟩)) m_yX10_of kM_RX10_44 mput_0 rfl rfl rfl rfl rfl (Nat.le_of_ble_eq_true rfl) ⟨Nat.le_of_ble_eq_true rfl, Nat.le_of_ble_eq_true rfl, Nat.le_of_ble_eq_true rfl, Nat.le_of_ble_eq_true rfl⟩ dX10_becomes_269 ?_
                  refine j_iconst X (v := 1) dX10_becomes_272 (by decide) ?_
                  refine j_iadd X dX10_becomes_273 ?_
                  refine j_callVv X (rest := []) (c_X10_to l hp (show WH 4 _ from ⟨4, by decide, rfl⟩)) m_yX10_to kM_RX10_32 mput_0 rfl rfl rfl rfl rfl (Nat.le_of_ble_eq_true rfl) ⟨Nat.le_of_ble_eq_true rfl, Nat.le_of_ble_eq_true rfl, Nat.le_of_ble_eq_true rfl, Nat.le_of_ble_eq_true rfl⟩ dX10_becomes_274 ?_
                  refine j_iconst X (v := 0) dX10_becomes_277 (by decide) ?_
                  refine j_istore X (L' := [(6, .int 0), (5, .int v8), (0, .ref b), (1, .int p), (2, .int s), (3, .int d), (4, .int pr)]) dX10_becomes_278 (by decide) rfl ?_
                  have hIb : MIv (mTo (mLn (msc μ 2 0) p s) p 4 ((mOf (mLn (msc μ 2 0) p s) p 4) + 1)) := (mi_to hp ⟨4, by decide, by decide, by decide, rfl⟩ (mi_ln hp hs (mi_msc hI)))
                  have loop280 : ∀ (n k : Nat), k + n = 8 → J P l E { frames := 2, cells := 0, slots := 0, locals := 48 } S0 M0 AR BL ME CO D B 7 (MQ BL (QC (some (.int ((mBec μ p s d pr).1))) D B (z + 0) (mput D h b ((mBec μ p s d pr).2))) AR S0 0 0 (aB B)) 0 0 z (mput D h b (mFl (mTo (mLn (msc μ 2 0) p s) p 4 ((mOf (mLn (msc μ 2 0) p s) p 4) + 1)) p s d pr k)) [(0, .ref b), (1, .int p), (2, .int s), (3, .int d), (4, .int pr), (5, .int v8), (6, .int (nI k))] [] 280 := by
                    intro n
                    induction n with
                    | zero =>
                      intro k hk
                      obtain rfl : k = 8 := by omega
                      refine j_iload X 6 dX10_becomes_280 rfl ?_
                      refine j_bipush X (v := 8) dX10_becomes_282 (by decide) ?_
                      refine j_icmp_ge X (tgt := 331) dX10_becomes_284 (by decide) (fun c_284 => ?_) (fun c_284 => absurd c_284 (by decide))
                      refine j_iconst X (v := 3) dX10_becomes_331 (by decide) ?_
                      exact j_iret X hr rfl (by subst ev8; first | (rw [mBec, if_neg c_10, if_neg c_25, mB2, if_pos c_127, if_neg c_136, mB3, if_neg c_173, mB4, if_neg c_198, if_pos c_205, mB5, if_pos c_252]; done) | (rw [mBec, if_neg c_10, if_neg c_25, mB2, if_pos c_127, if_neg c_136, mB3, if_neg c_173, mB4, if_neg c_198, if_pos c_205, mB5, if_pos c_252]; rfl)) rfl (by subst ev8; first | (rw [mBec, if_neg c_10, if_neg c_25, mB2, if_pos c_127, if_neg c_136, mB3, if_neg c_173, mB4, if_neg c_198, if_pos c_205, mB5, if_pos c_252]; done) | (rw [mBec, if_neg c_10, if_neg c_25, mB2, if_pos c_127, if_neg c_136, mB3, if_neg c_173, mB4, if_neg c_198, if_pos c_205, mB5, if_pos c_252]; rfl)) dX10_becomes_332
                    | succ n ih =>
                      intro k hk
                      have hlt : nI k < 8 := nlt_lit (b := 8) (by omega) (by decide)
                      refine j_iload X 6 dX10_becomes_280 rfl ?_
                      refine j_bipush X (v := 8) dX10_becomes_282 (by decide) ?_
                      refine j_icmp_ge X (tgt := 331) dX10_becomes_284 (by decide) (fun c_284 => absurd hlt c_284) (fun c_284 => ?_)
                      refine j_iload X 6 dX10_becomes_287 rfl ?_
                      refine j_iload_n X 1 dX10_becomes_289 rfl rfl ?_
                      refine j_icmp_eq X (tgt := 325) dX10_becomes_290 (by decide) (fun c_290 => ?_) (fun c_290 => ?_)
                      · obtain ⟨v9, ev9⟩ : ∃ y : Int32, (nI k) + 1 = y := ⟨_, rfl⟩
                        refine j_iinc X 6 (k := 1) (v := v9) (L' := [(6, .int v9), (0, .ref b), (1, .int p), (2, .int s), (3, .int d), (4, .int pr), (5, .int v8)]) dX10_becomes_325 rfl (by decide) (by decide) ev9 rfl ?_
                        refine j_goto X (tgt := 280) dX10_becomes_328 (by decide) ?_
                        refine j_sub [1, 2, 3, 4, 5, 6, 0] (L' := [(0, .ref b), (1, .int p), (2, .int s), (3, .int d), (4, .int pr), (5, .int v8), (6, .int (nI (k + 1)))]) (by subst ev9 ev8; first | with_reducible rfl | (simp only [mFl, nI_succ k, if_neg c_10, if_neg c_25, if_pos c_127, if_neg c_136, if_neg c_173, if_neg c_198, if_pos c_205, if_pos c_252, if_pos c_284, if_pos c_290]; done) | (simp only [mFl, nI_succ k, if_neg c_10, if_neg c_25, if_pos c_127, if_neg c_136, if_neg c_173, if_neg c_198, if_pos c_205, if_pos c_252, if_pos c_284, if_pos c_290]; rfl) | rfl) ?_
                        refine j_heap (h' := mput D h b (mFl (mTo (mLn (msc μ 2 0) p s) p 4 ((mOf (mLn (msc μ 2 0) p s) p 4) + 1)) p s d pr (k + 1))) (by subst ev9 ev8; first | with_reducible rfl | (simp only [mFl, nI_succ k, if_neg c_10, if_neg c_25, if_pos c_127, if_neg c_136, if_neg c_173, if_neg c_198, if_pos c_205, if_pos c_252, if_pos c_284, if_pos c_290]; done) | (simp only [mFl, nI_succ k, if_neg c_10, if_neg c_25, if_pos c_127, if_neg c_136, if_neg c_173, if_neg c_198, if_pos c_205, if_pos c_252, if_pos c_284, if_pos c_290]; rfl) | rfl) ?_
                        exact ih (k + 1) (by omega)
                      · refine j_aload_n X 0 dX10_becomes_293 rfl rfl ?_
                        refine j_iload X 6 dX10_becomes_294 rfl ?_
                        refine j_callVi X (rest := []) (c_X10_isOpen l (po_nI (by omega))) m_yX10_isOpen kM_RX10_48 mput_0 rfl rfl rfl rfl rfl (Nat.le_of_ble_eq_true rfl) ⟨Nat.le_of_ble_eq_true rfl, Nat.le_of_ble_eq_true rfl, Nat.le_of_ble_eq_true rfl, Nat.le_of_ble_eq_true rfl⟩ dX10_becomes_296 ?_
                        refine j_if_eq X (tgt := 325) dX10_becomes_299 (by decide) (fun c_299 => ?_) (fun c_299 => ?_)
                        · obtain ⟨v10, ev10⟩ : ∃ y : Int32, (nI k) + 1 = y := ⟨_, rfl⟩
                          refine j_iinc X 6 (k := 1) (v := v10) (L' := [(6, .int v10), (0, .ref b), (1, .int p), (2, .int s), (3, .int d), (4, .int pr), (5, .int v8)]) dX10_becomes_325 rfl (by decide) (by decide) ev10 rfl ?_
                          refine j_goto X (tgt := 280) dX10_becomes_328 (by decide) ?_
                          refine j_sub [1, 2, 3, 4, 5, 6, 0] (L' := [(0, .ref b), (1, .int p), (2, .int s), (3, .int d), (4, .int pr), (5, .int v8), (6, .int (nI (k + 1)))]) (by subst ev10 ev8; first | with_reducible rfl | (simp only [mFl, nI_succ k, if_neg c_10, if_neg c_25, if_pos c_127, if_neg c_136, if_neg c_173, if_neg c_198, if_pos c_205, if_pos c_252, if_pos c_284, if_neg c_290, if_pos c_299]; done) | (simp only [mFl, nI_succ k, if_neg c_10, if_neg c_25, if_pos c_127, if_neg c_136, if_neg c_173, if_neg c_198, if_pos c_205, if_pos c_252, if_pos c_284, if_neg c_290, if_pos c_299]; rfl) | rfl) ?_
                          refine j_heap (h' := mput D h b (mFl (mTo (mLn (msc μ 2 0) p s) p 4 ((mOf (mLn (msc μ 2 0) p s) p 4) + 1)) p s d pr (k + 1))) (by subst ev10 ev8; first | with_reducible rfl | (simp only [mFl, nI_succ k, if_neg c_10, if_neg c_25, if_pos c_127, if_neg c_136, if_neg c_173, if_neg c_198, if_pos c_205, if_pos c_252, if_pos c_284, if_neg c_290, if_pos c_299]; done) | (simp only [mFl, nI_succ k, if_neg c_10, if_neg c_25, if_pos c_127, if_neg c_136, if_neg c_173, if_neg c_198, if_pos c_205, if_pos c_252, if_pos c_284, if_neg c_290, if_pos c_299]; rfl) | rfl) ?_
                          exact ih (k + 1) (by omega)
                        · refine j_aload_n X 0 dX10_becomes_302 rfl rfl ?_
                          refine j_dup X dX10_becomes_303 rfl ?_
                          refine j_get X fG_RX10_87 mput_0 rfl rfl dX10_becomes_304 ?_
                          refine j_iconst X (v := 1) dX10_becomes_307 (by decide) ?_
                          refine j_iload X 6 dX10_becomes_308 rfl ?_
                          refine j_ishl X dX10_becomes_310 ?_
                          refine j_ior X dX10_becomes_311 ?_
                          refine j_put X fG_RX10_87 fW_10_6 mput_0 rfl rfl rfl (Nat.le_of_ble_eq_true rfl) dX10_becomes_312 ?_
                          refine j_heap (h' := mput D h b (msc (mFl (mTo (mLn (msc μ 2 0) p s) p 4 ((mOf (mLn (msc μ 2 0) p s) p 4) + 1)) p s d pr k) 2 (((mFl (mTo (mLn (msc μ 2 0) p s) p 4 ((mOf (mLn (msc μ 2 0) p s) p 4) + 1)) p s d pr k).1 2) ||| (1 <<< ((nI k) &&& 31))))) mput_s2 ?_
                          refine j_aload_n X 0 dX10_becomes_315 rfl rfl ?_
                          refine j_iload X 6 dX10_becomes_316 rfl ?_
                          refine j_iload_n X 2 dX10_becomes_318 rfl rfl ?_
                          refine j_iload_n X 3 dX10_becomes_319 rfl rfl ?_
                          refine j_iload X 4 dX10_becomes_320 rfl ?_
                          refine j_callVv X (rest := []) (c_X10_goesOut l (po_nI (by omega)) (mi_many (po_nI (by omega)) (mi_msc (mi_fl hIb _ (by omega))))) m_yX10_goesOut kM_RX10_102 mput_0 rfl rfl rfl rfl rfl (Nat.le_of_ble_eq_true rfl) ⟨Nat.le_of_ble_eq_true rfl, Nat.le_of_ble_eq_true rfl, Nat.le_of_ble_eq_true rfl, Nat.le_of_ble_eq_true rfl⟩ dX10_becomes_322 ?_
                          obtain ⟨v11, ev11⟩ : ∃ y : Int32, (nI k) + 1 = y := ⟨_, rfl⟩
                          refine j_iinc X 6 (k := 1) (v := v11) (L' := [(6, .int v11), (0, .ref b), (1, .int p), (2, .int s), (3, .int d), (4, .int pr), (5, .int v8)]) dX10_becomes_325 rfl (by decide) (by decide) ev11 rfl ?_
                          refine j_goto X (tgt := 280) dX10_becomes_328 (by decide) ?_
                          refine j_sub [1, 2, 3, 4, 5, 6, 0] (L' := [(0, .ref b), (1, .int p), (2, .int s), (3, .int d), (4, .int pr), (5, .int v8), (6, .int (nI (k + 1)))]) (by subst ev11 ev8; first | with_reducible rfl | (simp only [mFl, nI_succ k, if_neg c_10, if_neg c_25, if_pos c_127, if_neg c_136, if_neg c_173, if_neg c_198, if_pos c_205, if_pos c_252, if_pos c_284, if_neg c_290, if_neg c_299]; done) | (simp only [mFl, nI_succ k, if_neg c_10, if_neg c_25, if_pos c_127, if_neg c_136, if_neg c_173, if_neg c_198, if_pos c_205, if_pos c_252, if_pos c_284, if_neg c_290, if_neg c_299]; rfl) | rfl) ?_
                          refine j_heap (h' := mput D h b (mFl (mTo (mLn (msc μ 2 0) p s) p 4 ((mOf (mLn (msc μ 2 0) p s) p 4) + 1)) p s d pr (k + 1))) (by subst ev11 ev8; first | with_reducible rfl | (simp only [mFl, nI_succ k, if_neg c_10, if_neg c_25, if_pos c_127, if_neg c_136, if_neg c_173, if_neg c_198, if_pos c_205, if_pos c_252, if_pos c_284, if_neg c_290, if_neg c_299]; done) | (simp only [mFl, nI_succ k, if_neg c_10, if_neg c_25, if_pos c_127, if_neg c_136, if_neg c_173, if_neg c_198, if_pos c_205, if_pos c_252, if_pos c_284, if_neg c_290, if_neg c_299]; rfl) | rfl) ?_
                          exact ih (k + 1) (by omega)
                  refine j_sub [2, 3, 4, 5, 6, 1, 0] (L' := [(0, .ref b), (1, .int p), (2, .int s), (3, .int d), (4, .int pr), (5, .int v8), (6, .int (nI 0))]) (by subst ev8; first | with_reducible rfl | (simp only [mFl, if_neg c_10, if_neg c_25, if_pos c_127, if_neg c_136, if_neg c_173, if_neg c_198, if_pos c_205, if_pos c_252]; done) | (simp only [mFl, if_neg c_10, if_neg c_25, if_pos c_127, if_neg c_136, if_neg c_173, if_neg c_198, if_pos c_205, if_pos c_252]; rfl) | rfl) ?_
                  refine j_heap (h' := mput D h b (mFl (mTo (mLn (msc μ 2 0) p s) p 4 ((mOf (mLn (msc μ 2 0) p s) p 4) + 1)) p s d pr 0)) (by subst ev8; first | with_reducible rfl | (simp only [mFl, if_neg c_10, if_neg c_25, if_pos c_127, if_neg c_136, if_neg c_173, if_neg c_198, if_pos c_205, if_pos c_252]; done) | (simp only [mFl, if_neg c_10, if_neg c_25, if_pos c_127, if_neg c_136, if_neg c_173, if_neg c_198, if_pos c_205, if_pos c_252]; rfl) | rfl) ?_
                  exact loop280 8 0 rfl
                · refine j_aload_n X 1 dX10_becomes_255 rfl rfl ?_
                  refine j_iload_n X 2 dX10_becomes_256 rfl rfl ?_
                  refine j_iconst X (v := 2) dX10_becomes_257 (by decide) ?_
                  refine j_callVv X (rest := []) (c_X10_quarantine l hp) m_yX10_quarantine kM_RX10_93 mput_0 rfl rfl rfl rfl rfl (Nat.le_of_ble_eq_true rfl) ⟨Nat.le_of_ble_eq_true rfl, Nat.le_of_ble_eq_true rfl, Nat.le_of_ble_eq_true rfl, Nat.le_of_ble_eq_true rfl⟩ dX10_becomes_258 ?_
                  refine j_iconst X (v := 5) dX10_becomes_261 (by decide) ?_
                  exact j_iret X hr rfl (by subst ev8; first | (rw [mBec, if_neg c_10, if_neg c_25, mB2, if_pos c_127, if_neg c_136, mB3, if_neg c_173, mB4, if_neg c_198, if_pos c_205, mB5, if_neg c_252]; done) | (rw [mBec, if_neg c_10, if_neg c_25, mB2, if_pos c_127, if_neg c_136, mB3, if_neg c_173, mB4, if_neg c_198, if_pos c_205, mB5, if_neg c_252]; rfl)) rfl (by subst ev8; first | (rw [mBec, if_neg c_10, if_neg c_25, mB2, if_pos c_127, if_neg c_136, mB3, if_neg c_173, mB4, if_neg c_198, if_pos c_205, mB5, if_neg c_252]; done) | (rw [mBec, if_neg c_10, if_neg c_25, mB2, if_pos c_127, if_neg c_136, mB3, if_neg c_173, mB4, if_neg c_198, if_pos c_205, mB5, if_neg c_252]; rfl)) dX10_becomes_262
              · have hpt : PO v8 := po_pred (mi_tabv hd (mi_ln hp hs (mi_msc hI))) ev8 c_205
                refine j_aload_n X 1 dX10_becomes_208 rfl rfl ?_
                refine j_iload X 0 dX10_becomes_209 rfl ?_
                refine j_callVi X (rest := []) (c_X10_isOpen l hpt) m_yX10_isOpen kM_RX10_48 mput_0 rfl rfl rfl rfl rfl (Nat.le_of_ble_eq_true rfl) ⟨Nat.le_of_ble_eq_true rfl, Nat.le_of_ble_eq_true rfl, Nat.le_of_ble_eq_true rfl, Nat.le_of_ble_eq_true rfl⟩ dX10_becomes_211 ?_
                refine j_if_ne X (tgt := 220) dX10_becomes_214 (by decide) (fun c_214 => ?_) (fun c_214 => ?_)
                · refine j_aload_n X 1 dX10_becomes_220 rfl rfl ?_
                  refine j_iconst X (v := 1) dX10_becomes_221 (by decide) ?_
                  refine j_iload X 0 dX10_becomes_222 rfl ?_
                  refine j_ishl X dX10_becomes_224 ?_
                  refine j_put X fG_RX10_87 fW_10_6 mput_0 rfl rfl rfl (Nat.le_of_ble_eq_true rfl) dX10_becomes_225 ?_
                  refine j_heap (h' := mput D h b (msc (mLn (msc μ 2 0) p s) 2 (1 <<< (v8 &&& 31)))) mput_s2 ?_
                  refine j_aload_n X 1 dX10_becomes_228 rfl rfl ?_
                  refine j_iload X 0 dX10_becomes_229 rfl ?_
                  refine j_iload_n X 3 dX10_becomes_231 rfl rfl ?_
                  refine j_iload_n X 4 dX10_becomes_232 rfl rfl ?_
                  refine j_iload X 5 dX10_becomes_233 rfl ?_
                  refine j_callVv X (rest := []) (c_X10_goesOut l hpt (mi_many hpt (mi_msc (mi_ln hp hs (mi_msc hI))))) m_yX10_goesOut kM_RX10_102 mput_0 rfl rfl rfl rfl rfl (Nat.le_of_ble_eq_true rfl) ⟨Nat.le_of_ble_eq_true rfl, Nat.le_of_ble_eq_true rfl, Nat.le_of_ble_eq_true rfl, Nat.le_of_ble_eq_true rfl⟩ dX10_becomes_235 ?_
                  refine j_iconst X (v := 2) dX10_becomes_238 (by decide) ?_
                  exact j_iret X hr rfl (by subst ev8; first | (rw [mBec, if_neg c_10, if_neg c_25, mB2, if_pos c_127, if_neg c_136, mB3, if_neg c_173, mB4, if_neg c_198, if_neg c_205, if_neg c_214]; done) | (rw [mBec, if_neg c_10, if_neg c_25, mB2, if_pos c_127, if_neg c_136, mB3, if_neg c_173, mB4, if_neg c_198, if_neg c_205, if_neg c_214]; rfl)) rfl (by subst ev8; first | (rw [mBec, if_neg c_10, if_neg c_25, mB2, if_pos c_127, if_neg c_136, mB3, if_neg c_173, mB4, if_neg c_198, if_neg c_205, if_neg c_214]; done) | (rw [mBec, if_neg c_10, if_neg c_25, mB2, if_pos c_127, if_neg c_136, mB3, if_neg c_173, mB4, if_neg c_198, if_neg c_205, if_neg c_214]; rfl)) dX10_becomes_239
                · refine j_bipush X (v := 6) dX10_becomes_217 (by decide) ?_
                  exact j_iret X hr rfl (by subst ev8; first | (rw [mBec, if_neg c_10, if_neg c_25, mB2, if_pos c_127, if_neg c_136, mB3, if_neg c_173, mB4, if_neg c_198, if_neg c_205, if_pos c_214]; done) | (rw [mBec, if_neg c_10, if_neg c_25, mB2, if_pos c_127, if_neg c_136, mB3, if_neg c_173, mB4, if_neg c_198, if_neg c_205, if_pos c_214]; rfl)) rfl (by subst ev8; first | (rw [mBec, if_neg c_10, if_neg c_25, mB2, if_pos c_127, if_neg c_136, mB3, if_neg c_173, mB4, if_neg c_198, if_neg c_205, if_pos c_214]; done) | (rw [mBec, if_neg c_10, if_neg c_25, mB2, if_pos c_127, if_neg c_136, mB3, if_neg c_173, mB4, if_neg c_198, if_neg c_205, if_pos c_214]; rfl)) dX10_becomes_219
            · refine j_iconst X (v := 1) dX10_becomes_201 (by decide) ?_
              exact j_iret X hr rfl (by subst ev8; first | (rw [mBec, if_neg c_10, if_neg c_25, mB2, if_pos c_127, if_neg c_136, mB3, if_neg c_173, mB4, if_pos c_198]; done) | (rw [mBec, if_neg c_10, if_neg c_25, mB2, if_pos c_127, if_neg c_136, mB3, if_neg c_173, mB4, if_pos c_198]; rfl)) rfl (by subst ev8; first | (rw [mBec, if_neg c_10, if_neg c_25, mB2, if_pos c_127, if_neg c_136, mB3, if_neg c_173, mB4, if_pos c_198]; done) | (rw [mBec, if_neg c_10, if_neg c_25, mB2, if_pos c_127, if_neg c_136, mB3, if_neg c_173, mB4, if_pos c_198]; rfl)) dX10_becomes_202
          · refine j_bipush X (v := (-4)) dX10_becomes_176 (by decide) ?_
            refine j_goto X (tgt := 193) dX10_becomes_178 (by decide) ?_
            refine j_istore X (L' := [(5, .int (-4)), (0, .ref b), (1, .int p), (2, .int s), (3, .int d), (4, .int pr)]) dX10_becomes_193 (by decide) rfl ?_
            refine j_iload X 0 dX10_becomes_195 rfl ?_
            refine j_iload_n X 2 dX10_becomes_197 rfl rfl ?_
            refine j_icmp_ne X (tgt := 203) dX10_becomes_198 (by decide) (fun c_198 => ?_) (fun c_198 => ?_)
            · refine j_iload X 0 dX10_becomes_203 rfl ?_
              refine j_if_lt X (tgt := 240) dX10_becomes_205 (by decide) (fun _ => ?_) (fun c_ => absurd (by decide) c_)
              refine j_aload_n X 1 dX10_becomes_240 rfl rfl ?_
              refine j_iload_n X 2 dX10_becomes_241 rfl rfl ?_
              refine j_iconst X (v := 4) dX10_becomes_242 (by decide) ?_
              refine j_callVi X (rest := []) (c_X10_of l hp (show WH 4 _ from ⟨4, by decide, rfl⟩)) m_yX10_of kM_RX10_44 mput_0 rfl rfl rfl rfl rfl (Nat.le_of_ble_eq_true rfl) ⟨Nat.le_of_ble_eq_true rfl, Nat.le_of_ble_eq_true rfl, Nat.le_of_ble_eq_true rfl, Nat.le_of_ble_eq_true rfl⟩ dX10_becomes_243 ?_
              refine j_aload_n X 1 dX10_becomes_246 rfl rfl ?_
              refine j_get X fG_RX10_7 mput_0 rfl rfl dX10_becomes_247 ?_
              refine j_iconst X (v := 2) dX10_becomes_250 (by decide) ?_
              refine j_ldM X (vp_in_nI (n := 2) (by decide) (by decide)) dX10_becomes_251 ?_
              refine j_icmp_lt X (tgt := 263) dX10_becomes_252 (by decide) (fun c_252 => ?_) (fun c_252 => ?_)
              · refine j_aload_n X 1 dX10_becomes_263 rfl rfl ?_
                refine j_iload_n X 2 dX10_becomes_264 rfl rfl ?_
                refine j_iconst X (v := 4) dX10_becomes_265 (by decide) ?_
                refine j_aload_n X 1 dX10_becomes_266 rfl rfl ?_
                refine j_iload_n X 2 dX10_becomes_267 rfl rfl ?_
                refine j_iconst X (v := 4) dX10_becomes_268 (by decide) ?_
                refine j_callVi X (rest := [.int 4, .int p, .ref b]) (c_X10_of l hp (show WH 4 _ from ⟨4, by decide, rfl⟩)) m_yX10_of kM_RX10_44 mput_0 rfl rfl rfl rfl rfl (Nat.le_of_ble_eq_true rfl) ⟨Nat.le_of_ble_eq_true rfl, Nat.le_of_ble_eq_true rfl, Nat.le_of_ble_eq_true rfl, Nat.le_of_ble_eq_true rfl⟩ dX10_becomes_269 ?_
                refine j_iconst X (v := 1) dX10_becomes_272 (by decide) ?_
                refine j_iadd X dX10_becomes_273 ?_
                refine j_callVv X (rest := []) (c_X10_to l hp (show WH 4 _ from ⟨4, by decide, rfl⟩)) m_yX10_to kM_RX10_32 mput_0 rfl rfl rfl rfl rfl (Nat.le_of_ble_eq_true rfl) ⟨Nat.le_of_ble_eq_true rfl, Nat.le_of_ble_eq_true rfl, Nat.le_of_ble_eq_true rfl, Nat.le_of_ble_eq_true rfl⟩ dX10_becomes_274 ?_
                refine j_iconst X (v := 0) dX10_becomes_277 (by decide) ?_
                refine j_istore X (L' := [(6, .int 0), (5, .int (-4)), (0, .ref b), (1, .int p), (2, .int s), (3, .int d), (4, .int pr)]) dX10_becomes_278 (by decide) rfl ?_
                have hIb : MIv (mTo (mLn (msc μ 2 0) p s) p 4 ((mOf (mLn (msc μ 2 0) p s) p 4) + 1)) := (mi_to hp ⟨4, by decide, by decide, by decide, rfl⟩ (mi_ln hp hs (mi_msc hI)))
                have loop280 : ∀ (n k : Nat), k + n = 8 → J P l E { frames := 2, cells := 0, slots := 0, locals := 48 } S0 M0 AR BL ME CO D B 7 (MQ BL (QC (some (.int ((mBec μ p s d pr).1))) D B (z + 0) (mput D h b ((mBec μ p s d pr).2))) AR S0 0 0 (aB B)) 0 0 z (mput D h b (mFl (mTo (mLn (msc μ 2 0) p s) p 4 ((mOf (mLn (msc μ 2 0) p s) p 4) + 1)) p s d pr k)) [(0, .ref b), (1, .int p), (2, .int s), (3, .int d), (4, .int pr), (5, .int (-4)), (6, .int (nI k))] [] 280 := by
                  intro n
                  induction n with
                  | zero =>
                    intro k hk
                    obtain rfl : k = 8 := by omega
                    refine j_iload X 6 dX10_becomes_280 rfl ?_
                    refine j_bipush X (v := 8) dX10_becomes_282 (by decide) ?_
                    refine j_icmp_ge X (tgt := 331) dX10_becomes_284 (by decide) (fun c_284 => ?_) (fun c_284 => absurd c_284 (by decide))
                    refine j_iconst X (v := 3) dX10_becomes_331 (by decide) ?_
                    exact j_iret X hr rfl (by first | (rw [mBec, if_neg c_10, if_neg c_25, mB2, if_pos c_127, if_neg c_136, mB3, if_pos c_173, mB4, if_neg c_198, if_pos (show (-4 : Int32) < 0 by decide), mB5, if_pos c_252]; done) | (rw [mBec, if_neg c_10, if_neg c_25, mB2, if_pos c_127, if_neg c_136, mB3, if_pos c_173, mB4, if_neg c_198, if_pos (show (-4 : Int32) < 0 by decide), mB5, if_pos c_252]; rfl)) rfl (by first | (rw [mBec, if_neg c_10, if_neg c_25, mB2, if_pos c_127, if_neg c_136, mB3, if_pos c_173, mB4, if_neg c_198, if_pos (show (-4 : Int32) < 0 by decide), mB5, if_pos c_252]; done) | (rw [mBec, if_neg c_10, if_neg c_25, mB2, if_pos c_127, if_neg c_136, mB3, if_pos c_173, mB4, if_neg c_198, if_pos (show (-4 : Int32) < 0 by decide), mB5, if_pos c_252]; rfl)) dX10_becomes_332
                  | succ n ih =>
                    intro k hk
                    have hlt : nI k < 8 := nlt_lit (b := 8) (by omega) (by decide)
                    refine j_iload X 6 dX10_becomes_280 rfl ?_
                    refine j_bipush X (v := 8) dX10_becomes_282 (by decide) ?_
                    refine j_icmp_ge X (tgt := 331) dX10_becomes_284 (by decide) (fun c_284 => absurd hlt c_284) (fun c_284 => ?_)
                    refine j_iload X 6 dX10_becomes_287 rfl ?_
                    refine j_iload_n X 1 dX10_becomes_289 rfl rfl ?_
                    refine j_icmp_eq X (tgt := 325) dX10_becomes_290 (by decide) (fun c_290 => ?_) (fun c_290 => ?_)
                    · obtain ⟨v12, ev12⟩ : ∃ y : Int32, (nI k) + 1 = y := ⟨_, rfl⟩
                      refine j_iinc X 6 (k := 1) (v := v12) (L' := [(6, .int v12), (0, .ref b), (1, .int p), (2, .int s), (3, .int d), (4, .int pr), (5, .int (-4))]) dX10_becomes_325 rfl (by decide) (by decide) ev12 rfl ?_
                      refine j_goto X (tgt := 280) dX10_becomes_328 (by decide) ?_
                      refine j_sub [1, 2, 3, 4, 5, 6, 0] (L' := [(0, .ref b), (1, .int p), (2, .int s), (3, .int d), (4, .int pr), (5, .int (-4)), (6, .int (nI (k + 1)))]) (by subst ev12; first | with_reducible rfl | (simp only [mFl, nI_succ k, if_neg c_10, if_neg c_25, if_pos c_127, if_neg c_136, if_pos c_173, if_neg c_198, if_pos c_252, if_pos c_284, if_pos c_290]; done) | (simp only [mFl, nI_succ k, if_neg c_10, if_neg c_25, if_pos c_127, if_neg c_136, if_pos c_173, if_neg c_198, if_pos c_252, if_pos c_284, if_pos c_290]; rfl) | rfl) ?_
                      refine j_heap (h' := mput D h b (mFl (mTo (mLn (msc μ 2 0) p s) p 4 ((mOf (mLn (msc μ 2 0) p s) p 4) + 1)) p s d pr (k + 1))) (by subst ev12; first | with_reducible rfl | (simp only [mFl, nI_succ k, if_neg c_10, if_neg c_25, if_pos c_127, if_neg c_136, if_pos c_173, if_neg c_198, if_pos c_252, if_pos c_284, if_pos c_290]; done) | (simp only [mFl, nI_succ k, if_neg c_10, if_neg c_25, if_pos c_127, if_neg c_136, if_pos c_173, if_neg c_198, if_pos c_252, if_pos c_284, if_pos c_290]; rfl) | rfl) ?_
                      exact ih (k + 1) (by omega)
                    · refine j_aload_n X 0 dX10_becomes_293 rfl rfl ?_
                      refine j_iload X 6 dX10_becomes_294 rfl ?_
                      refine j_callVi X (rest := []) (c_X10_isOpen l (po_nI (by omega))) m_yX10_isOpen kM_RX10_48 mput_0 rfl rfl rfl rfl rfl (Nat.le_of_ble_eq_true rfl) ⟨Nat.le_of_ble_eq_true rfl, Nat.le_of_ble_eq_true rfl, Nat.le_of_ble_eq_true rfl, Nat.le_of_ble_eq_true rfl⟩ dX10_becomes_296 ?_
                      refine j_if_eq X (tgt := 325) dX10_becomes_299 (by decide) (fun c_299 => ?_) (fun c_299 => ?_)
                      · obtain ⟨v13, ev13⟩ : ∃ y : Int32, (nI k) + 1 = y := ⟨_, rfl⟩
                        refine j_iinc X 6 (k := 1) (v := v13) (L' := [(6, .int v13), (0, .ref b), (1, .int p), (2, .int s), (3, .int d), (4, .int pr), (5, .int (-4))]) dX10_becomes_325 rfl (by decide) (by decide) ev13 rfl ?_
                        refine j_goto X (tgt := 280) dX10_becomes_328 (by decide) ?_
                        refine j_sub [1, 2, 3, 4, 5, 6, 0] (L' := [(0, .ref b), (1, .int p), (2, .int s), (3, .int d), (4, .int pr), (5, .int (-4)), (6, .int (nI (k + 1)))]) (by subst ev13; first | with_reducible rfl | (simp only [mFl, nI_succ k, if_neg c_10, if_neg c_25, if_pos c_127, if_neg c_136, if_pos c_173, if_neg c_198, if_pos c_252, if_pos c_284, if_neg c_290, if_pos c_299]; done) | (simp only [mFl, nI_succ k, if_neg c_10, if_neg c_25, if_pos c_127, if_neg c_136, if_pos c_173, if_neg c_198, if_pos c_252, if_pos c_284, if_neg c_290, if_pos c_299]; rfl) | rfl) ?_
                        refine j_heap (h' := mput D h b (mFl (mTo (mLn (msc μ 2 0) p s) p 4 ((mOf (mLn (msc μ 2 0) p s) p 4) + 1)) p s d pr (k + 1))) (by subst ev13; first | with_reducible rfl | (simp only [mFl, nI_succ k, if_neg c_10, if_neg c_25, if_pos c_127, if_neg c_136, if_pos c_173, if_neg c_198, if_pos c_252, if_pos c_284, if_neg c_290, if_pos c_299]; done) | (simp only [mFl, nI_succ k, if_neg c_10, if_neg c_25, if_pos c_127, if_neg c_136, if_pos c_173, if_neg c_198, if_pos c_252, if_pos c_284, if_neg c_290, if_pos c_299]; rfl) | rfl) ?_
                        exact ih (k + 1) (by omega)
                      · refine j_aload_n X 0 dX10_becomes_302 rfl rfl ?_
                        refine j_dup X dX10_becomes_303 rfl ?_
                        refine j_get X fG_RX10_87 mput_0 rfl rfl dX10_becomes_304 ?_
                        refine j_iconst X (v := 1) dX10_becomes_307 (by decide) ?_
                        refine j_iload X 6 dX10_becomes_308 rfl ?_
                        refine j_ishl X dX10_becomes_310 ?_
                        refine j_ior X dX10_becomes_311 ?_
                        refine j_put X fG_RX10_87 fW_10_6 mput_0 rfl rfl rfl (Nat.le_of_ble_eq_true rfl) dX10_becomes_312 ?_
                        refine j_heap (h' := mput D h b (msc (mFl (mTo (mLn (msc μ 2 0) p s) p 4 ((mOf (mLn (msc μ 2 0) p s) p 4) + 1)) p s d pr k) 2 (((mFl (mTo (mLn (msc μ 2 0) p s) p 4 ((mOf (mLn (msc μ 2 0) p s) p 4) + 1)) p s d pr k).1 2) ||| (1 <<< ((nI k) &&& 31))))) mput_s2 ?_
                        refine j_aload_n X 0 dX10_becomes_315 rfl rfl ?_
                        refine j_iload X 6 dX10_becomes_316 rfl ?_
                        refine j_iload_n X 2 dX10_becomes_318 rfl rfl ?_
                        refine j_iload_n X 3 dX10_becomes_319 rfl rfl ?_
                        refine j_iload X 4 dX10_becomes_320 rfl ?_
                        refine j_callVv X (rest := []) (c_X10_goesOut l (po_nI (by omega)) (mi_many (po_nI (by omega)) (mi_msc (mi_fl hIb _ (by omega))))) m_yX10_goesOut kM_RX10_102 mput_0 rfl rfl rfl rfl rfl (Nat.le_of_ble_eq_true rfl) ⟨Nat.le_of_ble_eq_true rfl, Nat.le_of_ble_eq_true rfl, Nat.le_of_ble_eq_true rfl, Nat.le_of_ble_eq_true rfl⟩ dX10_becomes_322 ?_
                        obtain ⟨v14, ev14⟩ : ∃ y : Int32, (nI k) + 1 = y := ⟨_, rfl⟩
                        refine j_iinc X 6 (k := 1) (v := v14) (L' := [(6, .int v14), (0, .ref b), (1, .int p), (2, .int s), (3, .int d), (4, .int pr), (5, .int (-4))]) dX10_becomes_325 rfl (by decide) (by decide) ev14 rfl ?_
                        refine j_goto X (tgt := 280) dX10_becomes_328 (by decide) ?_
                        refine j_sub [1, 2, 3, 4, 5, 6, 0] (L' := [(0, .ref b), (1, .int p), (2, .int s), (3, .int d), (4, .int pr), (5, .int (-4)), (6, .int (nI (k + 1)))]) (by subst ev14; first | with_reducible rfl | (simp only [mFl, nI_succ k, if_neg c_10, if_neg c_25, if_pos c_127, if_neg c_136, if_pos c_173, if_neg c_198, if_pos c_252, if_pos c_284, if_neg c_290, if_neg c_299]; done) | (simp only [mFl, nI_succ k, if_neg c_10, if_neg c_25, if_pos c_127, if_neg c_136, if_pos c_173, if_neg c_198, if_pos c_252, if_pos c_284, if_neg c_290, if_neg c_299]; rfl) | rfl) ?_
                        refine j_heap (h' := mput D h b (mFl (mTo (mLn (msc μ 2 0) p s) p 4 ((mOf (mLn (msc μ 2 0) p s) p 4) + 1)) p s d pr (k + 1))) (by subst ev14; first | with_reducible rfl | (simp only [mFl, nI_succ k, if_neg c_10, if_neg c_25, if_pos c_127, if_neg c_136, if_pos c_173, if_neg c_198, if_pos c_252, if_pos c_284, if_neg c_290, if_neg c_299]; done) | (simp only [mFl, nI_succ k, if_neg c_10, if_neg c_25, if_pos c_127, if_neg c_136, if_pos c_173, if_neg c_198, if_pos c_252, if_pos c_284, if_neg c_290, if_neg c_299]; rfl) | rfl) ?_
                        exact ih (k + 1) (by omega)
                refine j_sub [2, 3, 4, 5, 6, 1, 0] (L' := [(0, .ref b), (1, .int p), (2, .int s), (3, .int d), (4, .int pr), (5, .int (-4)), (6, .int (nI 0))]) (by first | with_reducible rfl | (simp only [mFl, if_neg c_10, if_neg c_25, if_pos c_127, if_neg c_136, if_pos c_173, if_neg c_198, if_pos c_252]; done) | (simp only [mFl, if_neg c_10, if_neg c_25, if_pos c_127, if_neg c_136, if_pos c_173, if_neg c_198, if_pos c_252]; rfl) | rfl) ?_
                refine j_heap (h' := mput D h b (mFl (mTo (mLn (msc μ 2 0) p s) p 4 ((mOf (mLn (msc μ 2 0) p s) p 4) + 1)) p s d pr 0)) (by first | with_reducible rfl | (simp only [mFl, if_neg c_10, if_neg c_25, if_pos c_127, if_neg c_136, if_pos c_173, if_neg c_198, if_pos c_252]; done) | (simp only [mFl, if_neg c_10, if_neg c_25, if_pos c_127, if_neg c_136, if_pos c_173, if_neg c_198, if_pos c_252]; rfl) | rfl) ?_
                exact loop280 8 0 rfl
              · refine j_aload_n X 1 dX10_becomes_255 rfl rfl ?_
                refine j_iload_n X 2 dX10_becomes_256 rfl rfl ?_
                refine j_iconst X (v := 2) dX10_becomes_257 (by decide) ?_
                refine j_callVv X (rest := []) (c_X10_quarantine l hp) m_yX10_quarantine kM_RX10_93 mput_0 rfl rfl rfl rfl rfl (Nat.le_of_ble_eq_true rfl) ⟨Nat.le_of_ble_eq_true rfl, Nat.le_of_ble_eq_true rfl, Nat.le_of_ble_eq_true rfl, Nat.le_of_ble_eq_true rfl⟩ dX10_becomes_258 ?_
                refine j_iconst X (v := 5) dX10_becomes_261 (by decide) ?_
                exact j_iret X hr rfl (by first | (rw [mBec, if_neg c_10, if_neg c_25, mB2, if_pos c_127, if_neg c_136, mB3, if_pos c_173, mB4, if_neg c_198, if_pos (show (-4 : Int32) < 0 by decide), mB5, if_neg c_252]; done) | (rw [mBec, if_neg c_10, if_neg c_25, mB2, if_pos c_127, if_neg c_136, mB3, if_pos c_173, mB4, if_neg c_198, if_pos (show (-4 : Int32) < 0 by decide), mB5, if_neg c_252]; rfl)) rfl (by first | (rw [mBec, if_neg c_10, if_neg c_25, mB2, if_pos c_127, if_neg c_136, mB3, if_pos c_173, mB4, if_neg c_198, if_pos (show (-4 : Int32) < 0 by decide), mB5, if_neg c_252]; done) | (rw [mBec, if_neg c_10, if_neg c_25, mB2, if_pos c_127, if_neg c_136, mB3, if_pos c_173, mB4, if_neg c_198, if_pos (show (-4 : Int32) < 0 by decide), mB5, if_neg c_252]; rfl)) dX10_becomes_262
            · refine j_iconst X (v := 1) dX10_becomes_201 (by decide) ?_
              exact j_iret X hr rfl (by first | (rw [mBec, if_neg c_10, if_neg c_25, mB2, if_pos c_127, if_neg c_136, mB3, if_pos c_173, mB4, if_pos c_198]; done) | (rw [mBec, if_neg c_10, if_neg c_25, mB2, if_pos c_127, if_neg c_136, mB3, if_pos c_173, mB4, if_pos c_198]; rfl)) rfl (by first | (rw [mBec, if_neg c_10, if_neg c_25, mB2, if_pos c_127, if_neg c_136, mB3, if_pos c_173, mB4, if_pos c_198]; done) | (rw [mBec, if_neg c_10, if_neg c_25, mB2, if_pos c_127, if_neg c_136, mB3, if_pos c_173, mB4, if_pos c_198]; rfl)) dX10_becomes_202
        · refine j_aload_n X 0 dX10_becomes_139 rfl rfl ?_
          refine j_callVv X (rest := []) (c_X10_removeOldest l) m_yX10_removeOldest kM_RX10_99 mput_0 rfl rfl rfl rfl rfl (Nat.le_of_ble_eq_true rfl) ⟨Nat.le_of_ble_eq_true rfl, Nat.le_of_ble_eq_true rfl, Nat.le_of_ble_eq_true rfl, Nat.le_of_ble_eq_true rfl⟩ dX10_becomes_140 ?_
          refine j_aload_n X 0 dX10_becomes_143 rfl rfl ?_
          refine j_get X fG_RX10_7 mput_0 rfl rfl dX10_becomes_144 ?_
          refine j_sipush X (v := 552) dX10_becomes_147 (by decide) ?_
          refine j_iload_n X 2 dX10_becomes_150 rfl rfl ?_
          refine j_iadd X dX10_becomes_151 ?_
          refine j_iload_n X 1 dX10_becomes_152 rfl rfl ?_
          refine j_iconst X (v := 1) dX10_becomes_153 (by decide) ?_
          refine j_iadd X dX10_becomes_154 ?_
          refine j_stM X (in_552 hs) dX10_becomes_155 ?_
          refine j_aload_n X 0 dX10_becomes_156 rfl rfl ?_
          refine j_get X fG_RX10_7 mput_0 rfl rfl dX10_becomes_157 ?_
          refine j_sipush X (v := 652) dX10_becomes_160 (by decide) ?_
          refine j_iload_n X 2 dX10_becomes_163 rfl rfl ?_
          refine j_iadd X dX10_becomes_164 ?_
          refine j_aload_n X 0 dX10_becomes_165 rfl rfl ?_
          refine j_get X fG_RX10_7 mput_0 rfl rfl dX10_becomes_166 ?_
          refine j_iconst X (v := 4) dX10_becomes_169 (by decide) ?_
          refine j_ldM X (vp_in_nI (n := 4) (by decide) (by decide)) dX10_becomes_170 ?_
          refine j_stM X (in_652 hs) dX10_becomes_171 ?_
          refine j_heap (h' := mput D h b (mLn (mRemO (msc μ 2 0)) p s)) rfl ?_
          refine j_iload_n X 3 dX10_becomes_172 rfl rfl ?_
          refine j_if_ne X (tgt := 181) dX10_becomes_173 (by decide) (fun c_173 => ?_) (fun c_173 => ?_)
          · refine j_aload_n X 0 dX10_becomes_181 rfl rfl ?_
            refine j_get X fG_RX10_7 mput_0 rfl rfl dX10_becomes_182 ?_
            refine j_sipush X (v := 552) dX10_becomes_185 (by decide) ?_
            refine j_iload_n X 3 dX10_becomes_188 rfl rfl ?_
            refine j_iadd X dX10_becomes_189 ?_
            refine j_ldM X (in_552 hd) dX10_becomes_190 ?_
            refine j_iconst X (v := 1) dX10_becomes_191 (by decide) ?_
            refine j_isub X dX10_becomes_192 ?_
            refine j_tops (fun v15 ev15 => ?_)
            refine j_istore X (L' := [(5, .int v15), (0, .ref b), (1, .int p), (2, .int s), (3, .int d), (4, .int pr)]) dX10_becomes_193 (by decide) rfl ?_
            refine j_iload X 0 dX10_becomes_195 rfl ?_
            refine j_iload_n X 2 dX10_becomes_197 rfl rfl ?_
            refine j_icmp_ne X (tgt := 203) dX10_becomes_198 (by decide) (fun c_198 => ?_) (fun c_198 => ?_)
            · refine j_iload X 0 dX10_becomes_203 rfl ?_
              refine j_if_lt X (tgt := 240) dX10_becomes_205 (by decide) (fun c_205 => ?_) (fun c_205 => ?_)
              · refine j_aload_n X 1 dX10_becomes_240 rfl rfl ?_
                refine j_iload_n X 2 dX10_becomes_241 rfl rfl ?_
                refine j_iconst X (v := 4) dX10_becomes_242 (by decide) ?_
                refine j_callVi X (rest := []) (c_X10_of l hp (show WH 4 _ from ⟨4, by decide, rfl⟩)) m_yX10_of kM_RX10_44 mput_0 rfl rfl rfl rfl rfl (Nat.le_of_ble_eq_true rfl) ⟨Nat.le_of_ble_eq_true rfl, Nat.le_of_ble_eq_true rfl, Nat.le_of_ble_eq_true rfl, Nat.le_of_ble_eq_true rfl⟩ dX10_becomes_243 ?_
                refine j_aload_n X 1 dX10_becomes_246 rfl rfl ?_
                refine j_get X fG_RX10_7 mput_0 rfl rfl dX10_becomes_247 ?_
                refine j_iconst X (v := 2) dX10_becomes_250 (by decide) ?_
                refine j_ldM X (vp_in_nI (n := 2) (by decide) (by decide)) dX10_becomes_251 ?_
                refine j_icmp_lt X (tgt := 263) dX10_becomes_252 (by decide) (fun c_252 => ?_) (fun c_252 => ?_)
                · refine j_aload_n X 1 dX10_becomes_263 rfl rfl ?_
                  refine j_iload_n X 2 dX10_becomes_264 rfl rfl ?_
                  refine j_iconst X (v := 4) dX10_becomes_265 (by decide) ?_
                  refine j_aload_n X 1 dX10_becomes_266 rfl rfl ?_
                  refine j_iload_n X 2 dX10_becomes_267 rfl rfl ?_
                  refine j_iconst X (v := 4) dX10_becomes_268 (by decide) ?_
                  refine j_callVi X (rest := [.int 4, .int p, .ref b]) (c_X10_of l hp (show WH 4 _ from ⟨4, by decide, rfl⟩)) m_yX10_of kM_RX10_44 mput_0 rfl rfl rfl rfl rfl (Nat.le_of_ble_eq_true rfl) ⟨Nat.le_of_ble_eq_true rfl, Nat.le_of_ble_eq_true rfl, Nat.le_of_ble_eq_true rfl, Nat.le_of_ble_eq_true rfl⟩ dX10_becomes_269 ?_
                  refine j_iconst X (v := 1) dX10_becomes_272 (by decide) ?_
                  refine j_iadd X dX10_becomes_273 ?_
                  refine j_callVv X (rest := []) (c_X10_to l hp (show WH 4 _ from ⟨4, by decide, rfl⟩)) m_yX10_to kM_RX10_32 mput_0 rfl rfl rfl rfl rfl (Nat.le_of_ble_eq_true rfl) ⟨Nat.le_of_ble_eq_true rfl, Nat.le_of_ble_eq_true rfl, Nat.le_of_ble_eq_true rfl, Nat.le_of_ble_eq_true rfl⟩ dX10_becomes_274 ?_
                  refine j_iconst X (v := 0) dX10_becomes_277 (by decide) ?_
                  refine j_istore X (L' := [(6, .int 0), (5, .int v15), (0, .ref b), (1, .int p), (2, .int s), (3, .int d), (4, .int pr)]) dX10_becomes_278 (by decide) rfl ?_
                  have hIb : MIv (mTo (mLn (mRemO (msc μ 2 0)) p s) p 4 ((mOf (mLn (mRemO (msc μ 2 0)) p s) p 4) + 1)) := (mi_to hp ⟨4, by decide, by decide, by decide, rfl⟩ (mi_ln hp hs (mi_remO (mi_msc hI))))
                  have loop280 : ∀ (n k : Nat), k + n = 8 → J P l E { frames := 2, cells := 0, slots := 0, locals := 48 } S0 M0 AR BL ME CO D B 7 (MQ BL (QC (some (.int ((mBec μ p s d pr).1))) D B (z + 0) (mput D h b ((mBec μ p s d pr).2))) AR S0 0 0 (aB B)) 0 0 z (mput D h b (mFl (mTo (mLn (mRemO (msc μ 2 0)) p s) p 4 ((mOf (mLn (mRemO (msc μ 2 0)) p s) p 4) + 1)) p s d pr k)) [(0, .ref b), (1, .int p), (2, .int s), (3, .int d), (4, .int pr), (5, .int v15), (6, .int (nI k))] [] 280 := by
                    intro n
                    induction n with
                    | zero =>
                      intro k hk
                      obtain rfl : k = 8 := by omega
                      refine j_iload X 6 dX10_becomes_280 rfl ?_
                      refine j_bipush X (v := 8) dX10_becomes_282 (by decide) ?_
                      refine j_icmp_ge X (tgt := 331) dX10_becomes_284 (by decide) (fun c_284 => ?_) (fun c_284 => absurd c_284 (by decide))
                      refine j_iconst X (v := 3) dX10_becomes_331 (by decide) ?_
                      exact j_iret X hr rfl (by subst ev15; first | (rw [mBec, if_neg c_10, if_neg c_25, mB2, if_pos c_127, if_pos c_136, mB3, if_neg c_173, mB4, if_neg c_198, if_pos c_205, mB5, if_pos c_252]; done) | (rw [mBec, if_neg c_10, if_neg c_25, mB2, if_pos c_127, if_pos c_136, mB3, if_neg c_173, mB4, if_neg c_198, if_pos c_205, mB5, if_pos c_252]; rfl)) rfl (by subst ev15; first | (rw [mBec, if_neg c_10, if_neg c_25, mB2, if_pos c_127, if_pos c_136, mB3, if_neg c_173, mB4, if_neg c_198, if_pos c_205, mB5, if_pos c_252]; done) | (rw [mBec, if_neg c_10, if_neg c_25, mB2, if_pos c_127, if_pos c_136, mB3, if_neg c_173, mB4, if_neg c_198, if_pos c_205, mB5, if_pos c_252]; rfl)) dX10_becomes_332
                    | succ n ih =>
                      intro k hk
                      have hlt : nI k < 8 := nlt_lit (b := 8) (by omega) (by decide)
                      refine j_iload X 6 dX10_becomes_280 rfl ?_
                      refine j_bipush X (v := 8) dX10_becomes_282 (by decide) ?_
                      refine j_icmp_ge X (tgt := 331) dX10_becomes_284 (by decide) (fun c_284 => absurd hlt c_284) (fun c_284 => ?_)
                      refine j_iload X 6 dX10_becomes_287 rfl ?_
                      refine j_iload_n X 1 dX10_becomes_289 rfl rfl ?_
                      refine j_icmp_eq X (tgt := 325) dX10_becomes_290 (by decide) (fun c_290 => ?_) (fun c_290 => ?_)
                      · obtain ⟨v16, ev16⟩ : ∃ y : Int32, (nI k) + 1 = y := ⟨_, rfl⟩
                        refine j_iinc X 6 (k := 1) (v := v16) (L' := [(6, .int v16), (0, .ref b), (1, .int p), (2, .int s), (3, .int d), (4, .int pr), (5, .int v15)]) dX10_becomes_325 rfl (by decide) (by decide) ev16 rfl ?_
                        refine j_goto X (tgt := 280) dX10_becomes_328 (by decide) ?_
                        refine j_sub [1, 2, 3, 4, 5, 6, 0] (L' := [(0, .ref b), (1, .int p), (2, .int s), (3, .int d), (4, .int pr), (5, .int v15), (6, .int (nI (k + 1)))]) (by subst ev16 ev15; first | with_reducible rfl | (simp only [mFl, nI_succ k, if_neg c_10, if_neg c_25, if_pos c_127, if_pos c_136, if_neg c_173, if_neg c_198, if_pos c_205, if_pos c_252, if_pos c_284, if_pos c_290]; done) | (simp only [mFl, nI_succ k, if_neg c_10, if_neg c_25, if_pos c_127, if_pos c_136, if_neg c_173, if_neg c_198, if_pos c_205, if_pos c_252, if_pos c_284, if_pos c_290]; rfl) | rfl) ?_
                        refine j_heap (h' := mput D h b (mFl (mTo (mLn (mRemO (msc μ 2 0)) p s) p 4 ((mOf (mLn (mRemO (msc μ 2 0)) p s) p 4) + 1)) p s d pr (k + 1))) (by subst ev16 ev15; first | with_reducible rfl | (simp only [mFl, nI_succ k, if_neg c_10, if_neg c_25, if_pos c_127, if_pos c_136, if_neg c_173, if_neg c_198, if_pos c_205, if_pos c_252, if_pos c_284, if_pos c_290]; done) | (simp only [mFl, nI_succ k, if_neg c_10, if_neg c_25, if_pos c_127, if_pos c_136, if_neg c_173, if_neg c_198, if_pos c_205, if_pos c_252, if_pos c_284, if_pos c_290]; rfl) | rfl) ?_
                        exact ih (k + 1) (by omega)
                      · refine j_aload_n X 0 dX10_becomes_293 rfl rfl ?_
                        refine j_iload X 6 dX10_becomes_294 rfl ?_
                        refine j_callVi X (rest := []) (c_X10_isOpen l (po_nI (by omega))) m_yX10_isOpen kM_RX10_48 mput_0 rfl rfl rfl rfl rfl (Nat.le_of_ble_eq_true rfl) ⟨Nat.le_of_ble_eq_true rfl, Nat.le_of_ble_eq_true rfl, Nat.le_of_ble_eq_true rfl, Nat.le_of_ble_eq_true rfl⟩ dX10_becomes_296 ?_
                        refine j_if_eq X (tgt := 325) dX10_becomes_299 (by decide) (fun c_299 => ?_) (fun c_299 => ?_)
                        · obtain ⟨v17, ev17⟩ : ∃ y : Int32, (nI k) + 1 = y := ⟨_, rfl⟩
                          refine j_iinc X 6 (k := 1) (v := v17) (L' := [(6, .int v17), (0, .ref b), (1, .int p), (2, .int s), (3, .int d), (4, .int pr), (5, .int v15)]) dX10_becomes_325 rfl (by decide) (by decide) ev17 rfl ?_
                          refine j_goto X (tgt := 280) dX10_becomes_328 (by decide) ?_
                          refine j_sub [1, 2, 3, 4, 5, 6, 0] (L' := [(0, .ref b), (1, .int p), (2, .int s), (3, .int d), (4, .int pr), (5, .int v15), (6, .int (nI (k + 1)))]) (by subst ev17 ev15; first | with_reducible rfl | (simp only [mFl, nI_succ k, if_neg c_10, if_neg c_25, if_pos c_127, if_pos c_136, if_neg c_173, if_neg c_198, if_pos c_205, if_pos c_252, if_pos c_284, if_neg c_290, if_pos c_299]; done) | (simp only [mFl, nI_succ k, if_neg c_10, if_neg c_25, if_pos c_127, if_pos c_136, if_neg c_173, if_neg c_198, if_pos c_205, if_pos c_252, if_pos c_284, if_neg c_290, if_pos c_299]; rfl) | rfl) ?_
                          refine j_heap (h' := mput D h b (mFl (mTo (mLn (mRemO (msc μ 2 0)) p s) p 4 ((mOf (mLn (mRemO (msc μ 2 0)) p s) p 4) + 1)) p s d pr (k + 1))) (by subst ev17 ev15; first | with_reducible rfl | (simp only [mFl, nI_succ k, if_neg c_10, if_neg c_25, if_pos c_127, if_pos c_136, if_neg c_173, if_neg c_198, if_pos c_205, if_pos c_252, if_pos c_284, if_neg c_290, if_pos c_299]; done) | (simp only [mFl, nI_succ k, if_neg c_10, if_neg c_25, if_pos c_127, if_pos c_136, if_neg c_173, if_neg c_198, if_pos c_205, if_pos c_252, if_pos c_284, if_neg c_290, if_pos c_299]; rfl) | rfl) ?_
                          exact ih (k + 1) (by omega)
                        · refine j_aload_n X 0 dX10_becomes_302 rfl rfl ?_
                          refine j_dup X dX10_becomes_303 rfl ?_
                          refine j_get X fG_RX10_87 mput_0 rfl rfl dX10_becomes_304 ?_
                          refine j_iconst X (v := 1) dX10_becomes_307 (by decide) ?_
                          refine j_iload X 6 dX10_becomes_308 rfl ?_
                          refine j_ishl X dX10_becomes_310 ?_
                          refine j_ior X dX10_becomes_311 ?_
                          refine j_put X fG_RX10_87 fW_10_6 mput_0 rfl rfl rfl (Nat.le_of_ble_eq_true rfl) dX10_becomes_312 ?_
                          refine j_heap (h' := mput D h b (msc (mFl (mTo (mLn (mRemO (msc μ 2 0)) p s) p 4 ((mOf (mLn (mRemO (msc μ 2 0)) p s) p 4) + 1)) p s d pr k) 2 (((mFl (mTo (mLn (mRemO (msc μ 2 0)) p s) p 4 ((mOf (mLn (mRemO (msc μ 2 0)) p s) p 4) + 1)) p s d pr k).1 2) ||| (1 <<< ((nI k) &&& 31))))) mput_s2 ?_
                          refine j_aload_n X 0 dX10_becomes_315 rfl rfl ?_
                          refine j_iload X 6 dX10_becomes_316 rfl ?_
                          refine j_iload_n X 2 dX10_becomes_318 rfl rfl ?_
                          refine j_iload_n X 3 dX10_becomes_319 rfl rfl ?_
                          refine j_iload X 4 dX10_becomes_320 rfl ?_
                          refine j_callVv X (rest := []) (c_X10_goesOut l (po_nI (by omega)) (mi_many (po_nI (by omega)) (mi_msc (mi_fl hIb _ (by omega))))) m_yX10_goesOut kM_RX10_102 mput_0 rfl rfl rfl rfl rfl (Nat.le_of_ble_eq_true rfl) ⟨Nat.le_of_ble_eq_true rfl, Nat.le_of_ble_eq_true rfl, Nat.le_of_ble_eq_true rfl, Nat.le_of_ble_eq_true rfl⟩ dX10_becomes_322 ?_
                          obtain ⟨v18, ev18⟩ : ∃ y : Int32, (nI k) + 1 = y := ⟨_, rfl⟩
                          refine j_iinc X 6 (k := 1) (v := v18) (L' := [(6, .int v18), (0, .ref b), (1, .int p), (2, .int s), (3, .int d), (4, .int pr), (5, .int v15)]) dX10_becomes_325 rfl (by decide) (by decide) ev18 rfl ?_
                          refine j_goto X (tgt := 280) dX10_becomes_328 (by decide) ?_
                          refine j_sub [1, 2, 3, 4, 5, 6, 0] (L' := [(0, .ref b), (1, .int p), (2, .int s), (3, .int d), (4, .int pr), (5, .int v15), (6, .int (nI (k + 1)))]) (by subst ev18 ev15; first | with_reducible rfl | (simp only [mFl, nI_succ k, if_neg c_10, if_neg c_25, if_pos c_127, if_pos c_136, if_neg c_173, if_neg c_198, if_pos c_205, if_pos c_252, if_pos c_284, if_neg c_290, if_neg c_299]; done) | (simp only [mFl, nI_succ k, if_neg c_10, if_neg c_25, if_pos c_127, if_pos c_136, if_neg c_173, if_neg c_198, if_pos c_205, if_pos c_252, if_pos c_284, if_neg c_290, if_neg c_299]; rfl) | rfl) ?_
                          refine j_heap (h' := mput D h b (mFl (mTo (mLn (mRemO (msc μ 2 0)) p s) p 4 ((mOf (mLn (mRemO (msc μ 2 0)) p s) p 4) + 1)) p s d pr (k + 1))) (by subst ev18 ev15; first | with_reducible rfl | (simp only [mFl, nI_succ k, if_neg c_10, if_neg c_25, if_pos c_127, if_pos c_136, if_neg c_173, if_neg c_198, if_pos c_205, if_pos c_252, if_pos c_284, if_neg c_290, if_neg c_299]; done) | (simp only [mFl, nI_succ k, if_neg c_10, if_neg c_25, if_pos c_127, if_pos c_136, if_neg c_173, if_neg c_198, if_pos c_205, if_pos c_252, if_pos c_284, if_neg c_290, if_neg c_299]; rfl) | rfl) ?_
                          exact ih (k + 1) (by omega)
                  refine j_sub [2, 3, 4, 5, 6, 1, 0] (L' := [(0, .ref b), (1, .int p), (2, .int s), (3, .int d), (4, .int pr), (5, .int v15), (6, .int (nI 0))]) (by subst ev15; first | with_reducible rfl | (simp only [mFl, if_neg c_10, if_neg c_25, if_pos c_127, if_pos c_136, if_neg c_173, if_neg c_198, if_pos c_205, if_pos c_252]; done) | (simp only [mFl, if_neg c_10, if_neg c_25, if_pos c_127, if_pos c_136, if_neg c_173, if_neg c_198, if_pos c_205, if_pos c_252]; rfl) | rfl) ?_
                  refine j_heap (h' := mput D h b (mFl (mTo (mLn (mRemO (msc μ 2 0)) p s) p 4 ((mOf (mLn (mRemO (msc μ 2 0)) p s) p 4) + 1)) p s d pr 0)) (by subst ev15; first | with_reducible rfl | (simp only [mFl, if_neg c_10, if_neg c_25, if_pos c_127, if_pos c_136, if_neg c_173, if_neg c_198, if_pos c_205, if_pos c_252]; done) | (simp only [mFl, if_neg c_10, if_neg c_25, if_pos c_127, if_pos c_136, if_neg c_173, if_neg c_198, if_pos c_205, if_pos c_252]; rfl) | rfl) ?_
                  exact loop280 8 0 rfl
                · refine j_aload_n X 1 dX10_becomes_255 rfl rfl ?_
                  refine j_iload_n X 2 dX10_becomes_256 rfl rfl ?_
                  refine j_iconst X (v := 2) dX10_becomes_257 (by decide) ?_
                  refine j_callVv X (rest := []) (c_X10_quarantine l hp) m_yX10_quarantine kM_RX10_93 mput_0 rfl rfl rfl rfl rfl (Nat.le_of_ble_eq_true rfl) ⟨Nat.le_of_ble_eq_true rfl, Nat.le_of_ble_eq_true rfl, Nat.le_of_ble_eq_true rfl, Nat.le_of_ble_eq_true rfl⟩ dX10_becomes_258 ?_
                  refine j_iconst X (v := 5) dX10_becomes_261 (by decide) ?_
                  exact j_iret X hr rfl (by subst ev15; first | (rw [mBec, if_neg c_10, if_neg c_25, mB2, if_pos c_127, if_pos c_136, mB3, if_neg c_173, mB4, if_neg c_198, if_pos c_205, mB5, if_neg c_252]; done) | (rw [mBec, if_neg c_10, if_neg c_25, mB2, if_pos c_127, if_pos c_136, mB3, if_neg c_173, mB4, if_neg c_198, if_pos c_205, mB5, if_neg c_252]; rfl)) rfl (by subst ev15; first | (rw [mBec, if_neg c_10, if_neg c_25, mB2, if_pos c_127, if_pos c_136, mB3, if_neg c_173, mB4, if_neg c_198, if_pos c_205, mB5, if_neg c_252]; done) | (rw [mBec, if_neg c_10, if_neg c_25, mB2, if_pos c_127, if_pos c_136, mB3, if_neg c_173, mB4, if_neg c_198, if_pos c_205, mB5, if_neg c_252]; rfl)) dX10_becomes_262
              · have hpt : PO v15 := po_pred (mi_tabv hd (mi_ln hp hs (mi_remO (mi_msc hI)))) ev15 c_205
                refine j_aload_n X 1 dX10_becomes_208 rfl rfl ?_
                refine j_iload X 0 dX10_becomes_209 rfl ?_
                refine j_callVi X (rest := []) (c_X10_isOpen l hpt) m_yX10_isOpen kM_RX10_48 mput_0 rfl rfl rfl rfl rfl (Nat.le_of_ble_eq_true rfl) ⟨Nat.le_of_ble_eq_true rfl, Nat.le_of_ble_eq_true rfl, Nat.le_of_ble_eq_true rfl, Nat.le_of_ble_eq_true rfl⟩ dX10_becomes_211 ?_
                refine j_if_ne X (tgt := 220) dX10_becomes_214 (by decide) (fun c_214 => ?_) (fun c_214 => ?_)
                · refine j_aload_n X 1 dX10_becomes_220 rfl rfl ?_
                  refine j_iconst X (v := 1) dX10_becomes_221 (by decide) ?_
                  refine j_iload X 0 dX10_becomes_222 rfl ?_
                  refine j_ishl X dX10_becomes_224 ?_
                  refine j_put X fG_RX10_87 fW_10_6 mput_0 rfl rfl rfl (Nat.le_of_ble_eq_true rfl) dX10_becomes_225 ?_
                  refine j_heap (h' := mput D h b (msc (mLn (mRemO (msc μ 2 0)) p s) 2 (1 <<< (v15 &&& 31)))) mput_s2 ?_
                  refine j_aload_n X 1 dX10_becomes_228 rfl rfl ?_
                  refine j_iload X 0 dX10_becomes_229 rfl ?_
                  refine j_iload_n X 3 dX10_becomes_231 rfl rfl ?_
                  refine j_iload_n X 4 dX10_becomes_232 rfl rfl ?_
                  refine j_iload X 5 dX10_becomes_233 rfl ?_
                  refine j_callVv X (rest := []) (c_X10_goesOut l hpt (mi_many hpt (mi_msc (mi_ln hp hs (mi_remO (mi_msc hI)))))) m_yX10_goesOut kM_RX10_102 mput_0 rfl rfl rfl rfl rfl (Nat.le_of_ble_eq_true rfl) ⟨Nat.le_of_ble_eq_true rfl, Nat.le_of_ble_eq_true rfl, Nat.le_of_ble_eq_true rfl, Nat.le_of_ble_eq_true rfl⟩ dX10_becomes_235 ?_
                  refine j_iconst X (v := 2) dX10_becomes_238 (by decide) ?_
                  exact j_iret X hr rfl (by subst ev15; first | (rw [mBec, if_neg c_10, if_neg c_25, mB2, if_pos c_127, if_pos c_136, mB3, if_neg c_173, mB4, if_neg c_198, if_neg c_205, if_neg c_214]; done) | (rw [mBec, if_neg c_10, if_neg c_25, mB2, if_pos c_127, if_pos c_136, mB3, if_neg c_173, mB4, if_neg c_198, if_neg c_205, if_neg c_214]; rfl)) rfl (by subst ev15; first | (rw [mBec, if_neg c_10, if_neg c_25, mB2, if_pos c_127, if_pos c_136, mB3, if_neg c_173, mB4, if_neg c_198, if_neg c_205, if_neg c_214]; done) | (rw [mBec, if_neg c_10, if_neg c_25, mB2, if_pos c_127, if_pos c_136, mB3, if_neg c_173, mB4, if_neg c_198, if_neg c_205, if_neg c_214]; rfl)) dX10_becomes_239
                · refine j_bipush X (v := 6) dX10_becomes_217 (by decide) ?_
                  exact j_iret X hr rfl (by subst ev15; first | (rw [mBec, if_neg c_10, if_neg c_25, mB2, if_pos c_127, if_pos c_136, mB3, if_neg c_173, mB4, if_neg c_198, if_neg c_205, if_pos c_214]; done) | (rw [mBec, if_neg c_10, if_neg c_25, mB2, if_pos c_127, if_pos c_136, mB3, if_neg c_173, mB4, if_neg c_198, if_neg c_205, if_pos c_214]; rfl)) rfl (by subst ev15; first | (rw [mBec, if_neg c_10, if_neg c_25, mB2, if_pos c_127, if_pos c_136, mB3, if_neg c_173, mB4, if_neg c_198, if_neg c_205, if_pos c_214]; done) | (rw [mBec, if_neg c_10, if_neg c_25, mB2, if_pos c_127, if_pos c_136, mB3, if_neg c_173, mB4, if_neg c_198, if_neg c_205, if_pos c_214]; rfl)) dX10_becomes_219
            · refine j_iconst X (v := 1) dX10_becomes_201 (by decide) ?_
              exact j_iret X hr rfl (by subst ev15; first | (rw [mBec, if_neg c_10, if_neg c_25, mB2, if_pos c_127, if_pos c_136, mB3, if_neg c_173, mB4, if_pos c_198]; done) | (rw [mBec, if_neg c_10, if_neg c_25, mB2, if_pos c_127, if_pos c_136, mB3, if_neg c_173, mB4, if_pos c_198]; rfl)) rfl (by subst ev15; first | (rw [mBec, if_neg c_10, if_neg c_25, mB2, if_pos c_127, if_pos c_136, mB3, if_neg c_173, mB4, if_pos c_198]; done) | (rw [mBec, if_neg c_10, if_neg c_25, mB2, if_pos c_127, if_pos c_136, mB3, if_neg c_173, mB4, if_pos c_198]; rfl)) dX10_becomes_202
          · refine j_bipush X (v := (-4)) dX10_becomes_176 (by decide) ?_
            refine j_goto X (tgt := 193) dX10_becomes_178 (by decide) ?_
            refine j_istore X (L' := [(5, .int (-4)), (0, .ref b), (1, .int p), (2, .int s), (3, .int d), (4, .int pr)]) dX10_becomes_193 (by decide) rfl ?_
            refine j_iload X 0 dX10_becomes_195 rfl ?_
            refine j_iload_n X 2 dX10_becomes_197 rfl rfl ?_
            refine j_icmp_ne X (tgt := 203) dX10_becomes_198 (by decide) (fun c_198 => ?_) (fun c_198 => ?_)
            · refine j_iload X 0 dX10_becomes_203 rfl ?_
              refine j_if_lt X (tgt := 240) dX10_becomes_205 (by decide) (fun _ => ?_) (fun c_ => absurd (by decide) c_)
              refine j_aload_n X 1 dX10_becomes_240 rfl rfl ?_
              refine j_iload_n X 2 dX10_becomes_241 rfl rfl ?_
              refine j_iconst X (v := 4) dX10_becomes_242 (by decide) ?_
              refine j_callVi X (rest := []) (c_X10_of l hp (show WH 4 _ from ⟨4, by decide, rfl⟩)) m_yX10_of kM_RX10_44 mput_0 rfl rfl rfl rfl rfl (Nat.le_of_ble_eq_true rfl) ⟨Nat.le_of_ble_eq_true rfl, Nat.le_of_ble_eq_true rfl, Nat.le_of_ble_eq_true rfl, Nat.le_of_ble_eq_true rfl⟩ dX10_becomes_243 ?_
              refine j_aload_n X 1 dX10_becomes_246 rfl rfl ?_
              refine j_get X fG_RX10_7 mput_0 rfl rfl dX10_becomes_247 ?_
              refine j_iconst X (v := 2) dX10_becomes_250 (by decide) ?_
              refine j_ldM X (vp_in_nI (n := 2) (by decide) (by decide)) dX10_becomes_251 ?_
              refine j_icmp_lt X (tgt := 263) dX10_becomes_252 (by decide) (fun c_252 => ?_) (fun c_252 => ?_)
              · refine j_aload_n X 1 dX10_becomes_263 rfl rfl ?_
                refine j_iload_n X 2 dX10_becomes_264 rfl rfl ?_
                refine j_iconst X (v := 4) dX10_becomes_265 (by decide) ?_
                refine j_aload_n X 1 dX10_becomes_266 rfl rfl ?_
                refine j_iload_n X 2 dX10_becomes_267 rfl rfl ?_
                refine j_iconst X (v := 4) dX10_becomes_268 (by decide) ?_
                refine j_callVi X (rest := [.int 4, .int p, .ref b]) (c_X10_of l hp (show WH 4 _ from ⟨4, by decide, rfl⟩)) m_yX10_of kM_RX10_44 mput_0 rfl rfl rfl rfl rfl (Nat.le_of_ble_eq_true rfl) ⟨Nat.le_of_ble_eq_true rfl, Nat.le_of_ble_eq_true rfl, Nat.le_of_ble_eq_true rfl, Nat.le_of_ble_eq_true rfl⟩ dX10_becomes_269 ?_
                refine j_iconst X (v := 1) dX10_becomes_272 (by decide) ?_
                refine j_iadd X dX10_becomes_273 ?_
                refine j_callVv X (rest := []) (c_X10_to l hp (show WH 4 _ from ⟨4, by decide, rfl⟩)) m_yX10_to kM_RX10_32 mput_0 rfl rfl rfl rfl rfl (Nat.le_of_ble_eq_true rfl) ⟨Nat.le_of_ble_eq_true rfl, Nat.le_of_ble_eq_true rfl, Nat.le_of_ble_eq_true rfl, Nat.le_of_ble_eq_true rfl⟩ dX10_becomes_274 ?_
                refine j_iconst X (v := 0) dX10_becomes_277 (by decide) ?_
                refine j_istore X (L' := [(6, .int 0), (5, .int (-4)), (0, .ref b), (1, .int p), (2, .int s), (3, .int d), (4, .int pr)]) dX10_becomes_278 (by decide) rfl ?_
                have hIb : MIv (mTo (mLn (mRemO (msc μ 2 0)) p s) p 4 ((mOf (mLn (mRemO (msc μ 2 0)) p s) p 4) + 1)) := (mi_to hp ⟨4, by decide, by decide, by decide, rfl⟩ (mi_ln hp hs (mi_remO (mi_msc hI))))
                have loop280 : ∀ (n k : Nat), k + n = 8 → J P l E { frames := 2, cells := 0, slots := 0, locals := 48 } S0 M0 AR BL ME CO D B 7 (MQ BL (QC (some (.int ((mBec μ p s d pr).1))) D B (z + 0) (mput D h b ((mBec μ p s d pr).2))) AR S0 0 0 (aB B)) 0 0 z (mput D h b (mFl (mTo (mLn (mRemO (msc μ 2 0)) p s) p 4 ((mOf (mLn (mRemO (msc μ 2 0)) p s) p 4) + 1)) p s d pr k)) [(0, .ref b), (1, .int p), (2, .int s), (3, .int d), (4, .int pr), (5, .int (-4)), (6, .int (nI k))] [] 280 := by
                  intro n
                  induction n with
                  | zero =>
                    intro k hk
                    obtain rfl : k = 8 := by omega
                    refine j_iload X 6 dX10_becomes_280 rfl ?_
                    refine j_bipush X (v := 8) dX10_becomes_282 (by decide) ?_
                    refine j_icmp_ge X (tgt := 331) dX10_becomes_284 (by decide) (fun c_284 => ?_) (fun c_284 => absurd c_284 (by decide))
                    refine j_iconst X (v := 3) dX10_becomes_331 (by decide) ?_
                    exact j_iret X hr rfl (by first | (rw [mBec, if_neg c_10, if_neg c_25, mB2, if_pos c_127, if_pos c_136, mB3, if_pos c_173, mB4, if_neg c_198, if_pos (show (-4 : Int32) < 0 by decide), mB5, if_pos c_252]; done) | (rw [mBec, if_neg c_10, if_neg c_25, mB2, if_pos c_127, if_pos c_136, mB3, if_pos c_173, mB4, if_neg c_198, if_pos (show (-4 : Int32) < 0 by decide), mB5, if_pos c_252]; rfl)) rfl (by first | (rw [mBec, if_neg c_10, if_neg c_25, mB2, if_pos c_127, if_pos c_136, mB3, if_pos c_173, mB4, if_neg c_198, if_pos (show (-4 : Int32) < 0 by decide), mB5, if_pos c_252]; done) | (rw [mBec, if_neg c_10, if_neg c_25, mB2, if_pos c_127, if_pos c_136, mB3, if_pos c_173, mB4, if_neg c_198, if_pos (show (-4 : Int32) < 0 by decide), mB5, if_pos c_252]; rfl)) dX10_becomes_332
                  | succ n ih =>
                    intro k hk
                    have hlt : nI k < 8 := nlt_lit (b := 8) (by omega) (by decide)
                    refine j_iload X 6 dX10_becomes_280 rfl ?_
                    refine j_bipush X (v := 8) dX10_becomes_282 (by decide) ?_
                    refine j_icmp_ge X (tgt := 331) dX10_becomes_284 (by decide) (fun c_284 => absurd hlt c_284) (fun c_284 => ?_)
                    refine j_iload X 6 dX10_becomes_287 rfl ?_
                    refine j_iload_n X 1 dX10_becomes_289 rfl rfl ?_
                    refine j_icmp_eq X (tgt := 325) dX10_becomes_290 (by decide) (fun c_290 => ?_) (fun c_290 => ?_)
                    · obtain ⟨v19, ev19⟩ : ∃ y : Int32, (nI k) + 1 = y := ⟨_, rfl⟩
                      refine j_iinc X 6 (k := 1) (v := v19) (L' := [(6, .int v19), (0, .ref b), (1, .int p), (2, .int s), (3, .int d), (4, .int pr), (5, .int (-4))]) dX10_becomes_325 rfl (by decide) (by decide) ev19 rfl ?_
                      refine j_goto X (tgt := 280) dX10_becomes_328 (by decide) ?_
                      refine j_sub [1, 2, 3, 4, 5, 6, 0] (L' := [(0, .ref b), (1, .int p), (2, .int s), (3, .int d), (4, .int pr), (5, .int (-4)), (6, .int (nI (k + 1)))]) (by subst ev19; first | with_reducible rfl | (simp only [mFl, nI_succ k, if_neg c_10, if_neg c_25, if_pos c_127, if_pos c_136, if_pos c_173, if_neg c_198, if_pos c_252, if_pos c_284, if_pos c_290]; done) | (simp only [mFl, nI_succ k, if_neg c_10, if_neg c_25, if_pos c_127, if_pos c_136, if_pos c_173, if_neg c_198, if_pos c_252, if_pos c_284, if_pos c_290]; rfl) | rfl) ?_
                      refine j_heap (h' := mput D h b (mFl (mTo (mLn (mRemO (msc μ 2 0)) p s) p 4 ((mOf (mLn (mRemO (msc μ 2 0)) p s) p 4) + 1)) p s d pr (k + 1))) (by subst ev19; first | with_reducible rfl | (simp only [mFl, nI_succ k, if_neg c_10, if_neg c_25, if_pos c_127, if_pos c_136, if_pos c_173, if_neg c_198, if_pos c_252, if_pos c_284, if_pos c_290]; done) | (simp only [mFl, nI_succ k, if_neg c_10, if_neg c_25, if_pos c_127, if_pos c_136, if_pos c_173, if_neg c_198, if_pos c_252, if_pos c_284, if_pos c_290]; rfl) | rfl) ?_
                      exact ih (k + 1) (by omega)
                    · refine j_aload_n X 0 dX10_becomes_293 rfl rfl ?_
                      refine j_iload X 6 dX10_becomes_294 rfl ?_
                      refine j_callVi X (rest := []) (c_X10_isOpen l (po_nI (by omega))) m_yX10_isOpen kM_RX10_48 mput_0 rfl rfl rfl rfl rfl (Nat.le_of_ble_eq_true rfl) ⟨Nat.le_of_ble_eq_true rfl, Nat.le_of_ble_eq_true rfl, Nat.le_of_ble_eq_true rfl, Nat.le_of_ble_eq_true rfl⟩ dX10_becomes_296 ?_
                      refine j_if_eq X (tgt := 325) dX10_becomes_299 (by decide) (fun c_299 => ?_) (fun c_299 => ?_)
                      · obtain ⟨v20, ev20⟩ : ∃ y : Int32, (nI k) + 1 = y := ⟨_, rfl⟩
                        refine j_iinc X 6 (k := 1) (v := v20) (L' := [(6, .int v20), (0, .ref b), (1, .int p), (2, .int s), (3, .int d), (4, .int pr), (5, .int (-4))]) dX10_becomes_325 rfl (by decide) (by decide) ev20 rfl ?_
                        refine j_goto X (tgt := 280) dX10_becomes_328 (by decide) ?_
                        refine j_sub [1, 2, 3, 4, 5, 6, 0] (L' := [(0, .ref b), (1, .int p), (2, .int s), (3, .int d), (4, .int pr), (5, .int (-4)), (6, .int (nI (k + 1)))]) (by subst ev20; first | with_reducible rfl | (simp only [mFl, nI_succ k, if_neg c_10, if_neg c_25, if_pos c_127, if_pos c_136, if_pos c_173, if_neg c_198, if_pos c_252, if_pos c_284, if_neg c_290, if_pos c_299]; done) | (simp only [mFl, nI_succ k, if_neg c_10, if_neg c_25, if_pos c_127, if_pos c_136, if_pos c_173, if_neg c_198, if_pos c_252, if_pos c_284, if_neg c_290, if_pos c_299]; rfl) | rfl) ?_
                        refine j_heap (h' := mput D h b (mFl (mTo (mLn (mRemO (msc μ 2 0)) p s) p 4 ((mOf (mLn (mRemO (msc μ 2 0)) p s) p 4) + 1)) p s d pr (k + 1))) (by subst ev20; first | with_reducible rfl | (simp only [mFl, nI_succ k, if_neg c_10, if_neg c_25, if_pos c_127, if_pos c_136, if_pos c_173, if_neg c_198, if_pos c_252, if_pos c_284, if_neg c_290, if_pos c_299]; done) | (simp only [mFl, nI_succ k, if_neg c_10, if_neg c_25, if_pos c_127, if_pos c_136, if_pos c_173, if_neg c_198, if_pos c_252, if_pos c_284, if_neg c_290, if_pos c_299]; rfl) | rfl) ?_
                        exact ih (k + 1) (by omega)
                      · refine j_aload_n X 0 dX10_becomes_302 rfl rfl ?_
                        refine j_dup X dX10_becomes_303 rfl ?_
                        refine j_get X fG_RX10_87 mput_0 rfl rfl dX10_becomes_304 ?_
                        refine j_iconst X (v := 1) dX10_becomes_307 (by decide) ?_
                        refine j_iload X 6 dX10_becomes_308 rfl ?_
                        refine j_ishl X dX10_becomes_310 ?_
                        refine j_ior X dX10_becomes_311 ?_
                        refine j_put X fG_RX10_87 fW_10_6 mput_0 rfl rfl rfl (Nat.le_of_ble_eq_true rfl) dX10_becomes_312 ?_
                        refine j_heap (h' := mput D h b (msc (mFl (mTo (mLn (mRemO (msc μ 2 0)) p s) p 4 ((mOf (mLn (mRemO (msc μ 2 0)) p s) p 4) + 1)) p s d pr k) 2 (((mFl (mTo (mLn (mRemO (msc μ 2 0)) p s) p 4 ((mOf (mLn (mRemO (msc μ 2 0)) p s) p 4) + 1)) p s d pr k).1 2) ||| (1 <<< ((nI k) &&& 31))))) mput_s2 ?_
                        refine j_aload_n X 0 dX10_becomes_315 rfl rfl ?_
                        refine j_iload X 6 dX10_becomes_316 rfl ?_
                        refine j_iload_n X 2 dX10_becomes_318 rfl rfl ?_
                        refine j_iload_n X 3 dX10_becomes_319 rfl rfl ?_
                        refine j_iload X 4 dX10_becomes_320 rfl ?_
                        refine j_callVv X (rest := []) (c_X10_goesOut l (po_nI (by omega)) (mi_many (po_nI (by omega)) (mi_msc (mi_fl hIb _ (by omega))))) m_yX10_goesOut kM_RX10_102 mput_0 rfl rfl rfl rfl rfl (Nat.le_of_ble_eq_true rfl) ⟨Nat.le_of_ble_eq_true rfl, Nat.le_of_ble_eq_true rfl, Nat.le_of_ble_eq_true rfl, Nat.le_of_ble_eq_true rfl⟩ dX10_becomes_322 ?_
                        obtain ⟨v21, ev21⟩ : ∃ y : Int32, (nI k) + 1 = y := ⟨_, rfl⟩
                        refine j_iinc X 6 (k := 1) (v := v21) (L' := [(6, .int v21), (0, .ref b), (1, .int p), (2, .int s), (3, .int d), (4, .int pr), (5, .int (-4))]) dX10_becomes_325 rfl (by decide) (by decide) ev21 rfl ?_
                        refine j_goto X (tgt := 280) dX10_becomes_328 (by decide) ?_
                        refine j_sub [1, 2, 3, 4, 5, 6, 0] (L' := [(0, .ref b), (1, .int p), (2, .int s), (3, .int d), (4, .int pr), (5, .int (-4)), (6, .int (nI (k + 1)))]) (by subst ev21; first | with_reducible rfl | (simp only [mFl, nI_succ k, if_neg c_10, if_neg c_25, if_pos c_127, if_pos c_136, if_pos c_173, if_neg c_198, if_pos c_252, if_pos c_284, if_neg c_290, if_neg c_299]; done) | (simp only [mFl, nI_succ k, if_neg c_10, if_neg c_25, if_pos c_127, if_pos c_136, if_pos c_173, if_neg c_198, if_pos c_252, if_pos c_284, if_neg c_290, if_neg c_299]; rfl) | rfl) ?_
                        refine j_heap (h' := mput D h b (mFl (mTo (mLn (mRemO (msc μ 2 0)) p s) p 4 ((mOf (mLn (mRemO (msc μ 2 0)) p s) p 4) + 1)) p s d pr (k + 1))) (by subst ev21; first | with_reducible rfl | (simp only [mFl, nI_succ k, if_neg c_10, if_neg c_25, if_pos c_127, if_pos c_136, if_pos c_173, if_neg c_198, if_pos c_252, if_pos c_284, if_neg c_290, if_neg c_299]; done) | (simp only [mFl, nI_succ k, if_neg c_10, if_neg c_25, if_pos c_127, if_pos c_136, if_pos c_173, if_neg c_198, if_pos c_252, if_pos c_284, if_neg c_290, if_neg c_299]; rfl) | rfl) ?_
                        exact ih (k + 1) (by omega)
                refine j_sub [2, 3, 4, 5, 6, 1, 0] (L' := [(0, .ref b), (1, .int p), (2, .int s), (3, .int d), (4, .int pr), (5, .int (-4)), (6, .int (nI 0))]) (by first | with_reducible rfl | (simp only [mFl, if_neg c_10, if_neg c_25, if_pos c_127, if_pos c_136, if_pos c_173, if_neg c_198, if_pos c_252]; done) | (simp only [mFl, if_neg c_10, if_neg c_25, if_pos c_127, if_pos c_136, if_pos c_173, if_neg c_198, if_pos c_252]; rfl) | rfl) ?_
                refine j_heap (h' := mput D h b (mFl (mTo (mLn (mRemO (msc μ 2 0)) p s) p 4 ((mOf (mLn (mRemO (msc μ 2 0)) p s) p 4) + 1)) p s d pr 0)) (by first | with_reducible rfl | (simp only [mFl, if_neg c_10, if_neg c_25, if_pos c_127, if_pos c_136, if_pos c_173, if_neg c_198, if_pos c_252]; done) | (simp only [mFl, if_neg c_10, if_neg c_25, if_pos c_127, if_pos c_136, if_pos c_173, if_neg c_198, if_pos c_252]; rfl) | rfl) ?_
                exact loop280 8 0 rfl
              · refine j_aload_n X 1 dX10_becomes_255 rfl rfl ?_
                refine j_iload_n X 2 dX10_becomes_256 rfl rfl ?_
                refine j_iconst X (v := 2) dX10_becomes_257 (by decide) ?_
                refine j_callVv X (rest := []) (c_X10_quarantine l hp) m_yX10_quarantine kM_RX10_93 mput_0 rfl rfl rfl rfl rfl (Nat.le_of_ble_eq_true rfl) ⟨Nat.le_of_ble_eq_true rfl, Nat.le_of_ble_eq_true rfl, Nat.le_of_ble_eq_true rfl, Nat.le_of_ble_eq_true rfl⟩ dX10_becomes_258 ?_
                refine j_iconst X (v := 5) dX10_becomes_261 (by decide) ?_
                exact j_iret X hr rfl (by first | (rw [mBec, if_neg c_10, if_neg c_25, mB2, if_pos c_127, if_pos c_136, mB3, if_pos c_173, mB4, if_neg c_198, if_pos (show (-4 : Int32) < 0 by decide), mB5, if_neg c_252]; done) | (rw [mBec, if_neg c_10, if_neg c_25, mB2, if_pos c_127, if_pos c_136, mB3, if_pos c_173, mB4, if_neg c_198, if_pos (show (-4 : Int32) < 0 by decide), mB5, if_neg c_252]; rfl)) rfl (by first | (rw [mBec, if_neg c_10, if_neg c_25, mB2, if_pos c_127, if_pos c_136, mB3, if_pos c_173, mB4, if_neg c_198, if_pos (show (-4 : Int32) < 0 by decide), mB5, if_neg c_252]; done) | (rw [mBec, if_neg c_10, if_neg c_25, mB2, if_pos c_127, if_pos c_136, mB3, if_pos c_173, mB4, if_neg c_198, if_pos (show (-4 : Int32) < 0 by decide), mB5, if_neg c_252]; rfl)) dX10_becomes_262
            · refine j_iconst X (v := 1) dX10_becomes_201 (by decide) ?_
              exact j_iret X hr rfl (by first | (rw [mBec, if_neg c_10, if_neg c_25, mB2, if_pos c_127, if_pos c_136, mB3, if_pos c_173, mB4, if_pos c_198]; done) | (rw [mBec, if_neg c_10, if_neg c_25, mB2, if_pos c_127, if_pos c_136, mB3, if_pos c_173, mB4, if_pos c_198]; rfl)) rfl (by first | (rw [mBec, if_neg c_10, if_neg c_25, mB2, if_pos c_127, if_pos c_136, mB3, if_pos c_173, mB4, if_pos c_198]; done) | (rw [mBec, if_neg c_10, if_neg c_25, mB2, if_pos c_127, if_pos c_136, mB3, if_pos c_173, mB4, if_pos c_198]; rfl)) dX10_becomes_202
    · refine j_aload_n X 0 dX10_becomes_28 rfl rfl ?_
      refine j_get X fG_RX10_7 mput_0 rfl rfl dX10_becomes_29 ?_
      refine j_sipush X (v := 552) dX10_becomes_32 (by decide) ?_
      refine j_iload_n X 2 dX10_becomes_35 rfl rfl ?_
      refine j_iadd X dX10_becomes_36 ?_
      refine j_ldM X (in_552 hs) dX10_becomes_37 ?_
      refine j_iload_n X 1 dX10_becomes_38 rfl rfl ?_
      refine j_iconst X (v := 1) dX10_becomes_39 (by decide) ?_
      refine j_iadd X dX10_becomes_40 ?_
      refine j_icmp_eq X (tgt := 117) dX10_becomes_41 (by decide) (fun c_41 => ?_) (fun c_41 => ?_)
      · refine j_aload_n X 0 dX10_becomes_117 rfl rfl ?_
        refine j_get X fG_RX10_7 mput_0 rfl rfl dX10_becomes_118 ?_
        refine j_sipush X (v := 552) dX10_becomes_121 (by decide) ?_
        refine j_iload_n X 2 dX10_becomes_124 rfl rfl ?_
        refine j_iadd X dX10_becomes_125 ?_
        refine j_ldM X (in_552 hs) dX10_becomes_126 ?_
        refine j_if_ne X (tgt := 143) dX10_becomes_127 (by decide) (fun c_127 => ?_) (fun c_127 => ?_)
        · refine j_aload_n X 0 dX10_becomes_143 rfl rfl ?_
          refine j_get X fG_RX10_7 mput_0 rfl rfl dX10_becomes_144 ?_
          refine j_sipush X (v := 552) dX10_becomes_147 (by decide) ?_
          refine j_iload_n X 2 dX10_becomes_150 rfl rfl ?_
          refine j_iadd X dX10_becomes_151 ?_
          refine j_iload_n X 1 dX10_becomes_152 rfl rfl ?_
          refine j_iconst X (v := 1) dX10_becomes_153 (by decide) ?_
          refine j_iadd X dX10_becomes_154 ?_
          refine j_stM X (in_552 hs) dX10_becomes_155 ?_
          refine j_aload_n X 0 dX10_becomes_156 rfl rfl ?_
          refine j_get X fG_RX10_7 mput_0 rfl rfl dX10_becomes_157 ?_
          refine j_sipush X (v := 652) dX10_becomes_160 (by decide) ?_
          refine j_iload_n X 2 dX10_becomes_163 rfl rfl ?_
          refine j_iadd X dX10_becomes_164 ?_
          refine j_aload_n X 0 dX10_becomes_165 rfl rfl ?_
          refine j_get X fG_RX10_7 mput_0 rfl rfl dX10_becomes_166 ?_
          refine j_iconst X (v := 4) dX10_becomes_169 (by decide) ?_
          refine j_ldM X (vp_in_nI (n := 4) (by decide) (by decide)) dX10_becomes_170 ?_
          refine j_stM X (in_652 hs) dX10_becomes_171 ?_
          refine j_heap (h' := mput D h b (mLn (msc μ 2 0) p s)) rfl ?_
          refine j_iload_n X 3 dX10_becomes_172 rfl rfl ?_
          refine j_if_ne X (tgt := 181) dX10_becomes_173 (by decide) (fun c_173 => ?_) (fun c_173 => ?_)
          · refine j_aload_n X 0 dX10_becomes_181 rfl rfl ?_
            refine j_get X fG_RX10_7 mput_0 rfl rfl dX10_becomes_182 ?_
            refine j_sipush X (v := 552) dX10_becomes_185 (by decide) ?_
            refine j_iload_n X 3 dX10_becomes_188 rfl rfl ?_
            refine j_iadd X dX10_becomes_189 ?_
            refine j_ldM X (in_552 hd) dX10_becomes_190 ?_
            refine j_iconst X (v := 1) dX10_becomes_191 (by decide) ?_
            refine j_isub X dX10_becomes_192 ?_
            refine j_tops (fun v22 ev22 => ?_)
            refine j_istore X (L' := [(5, .int v22), (0, .ref b), (1, .int p), (2, .int s), (3, .int d), (4, .int pr)]) dX10_becomes_193 (by decide) rfl ?_
            refine j_iload X 0 dX10_becomes_195 rfl ?_
            refine j_iload_n X 2 dX10_becomes_197 rfl rfl ?_
            refine j_icmp_ne X (tgt := 203) dX10_becomes_198 (by decide) (fun c_198 => ?_) (fun c_198 => ?_)
            · refine j_iload X 0 dX10_becomes_203 rfl ?_
              refine j_if_lt X (tgt := 240) dX10_becomes_205 (by decide) (fun c_205 => ?_) (fun c_205 => ?_)
              · refine j_aload_n X 1 dX10_becomes_240 rfl rfl ?_
                refine j_iload_n X 2 dX10_becomes_241 rfl rfl ?_
                refine j_iconst X (v := 4) dX10_becomes_242 (by decide) ?_
                refine j_callVi X (rest := []) (c_X10_of l hp (show WH 4 _ from ⟨4, by decide, rfl⟩)) m_yX10_of kM_RX10_44 mput_0 rfl rfl rfl rfl rfl (Nat.le_of_ble_eq_true rfl) ⟨Nat.le_of_ble_eq_true rfl, Nat.le_of_ble_eq_true rfl, Nat.le_of_ble_eq_true rfl, Nat.le_of_ble_eq_true rfl⟩ dX10_becomes_243 ?_
                refine j_aload_n X 1 dX10_becomes_246 rfl rfl ?_
                refine j_get X fG_RX10_7 mput_0 rfl rfl dX10_becomes_247 ?_
                refine j_iconst X (v := 2) dX10_becomes_250 (by decide) ?_
                refine j_ldM X (vp_in_nI (n := 2) (by decide) (by decide)) dX10_becomes_251 ?_
                refine j_icmp_lt X (tgt := 263) dX10_becomes_252 (by decide) (fun c_252 => ?_) (fun c_252 => ?_)
                · refine j_aload_n X 1 dX10_becomes_263 rfl rfl ?_
                  refine j_iload_n X 2 dX10_becomes_264 rfl rfl ?_
                  refine j_iconst X (v := 4) dX10_becomes_265 (by decide) ?_
                  refine j_aload_n X 1 dX10_becomes_266 rfl rfl ?_
                  refine j_iload_n X 2 dX10_becomes_267 rfl rfl ?_
                  refine j_iconst X (v := 4) dX10_becomes_268 (by decide) ?_
                  refine j_callVi X (rest := [.int 4, .int p, .ref b]) (c_X10_of l hp (show WH 4 _ from ⟨4, by decide, rfl⟩)) m_yX10_of kM_RX10_44 mput_0 rfl rfl rfl rfl rfl (Nat.le_of_ble_eq_true rfl) ⟨Nat.le_of_ble_eq_true rfl, Nat.le_of_ble_eq_true rfl, Nat.le_of_ble_eq_true rfl, Nat.le_of_ble_eq_true rfl⟩ dX10_becomes_269 ?_
                  refine j_iconst X (v := 1) dX10_becomes_272 (by decide) ?_
                  refine j_iadd X dX10_becomes_273 ?_
                  refine j_callVv X (rest := []) (c_X10_to l hp (show WH 4 _ from ⟨4, by decide, rfl⟩)) m_yX10_to kM_RX10_32 mput_0 rfl rfl rfl rfl rfl (Nat.le_of_ble_eq_true rfl) ⟨Nat.le_of_ble_eq_true rfl, Nat.le_of_ble_eq_true rfl, Nat.le_of_ble_eq_true rfl, Nat.le_of_ble_eq_true rfl⟩ dX10_becomes_274 ?_
                  refine j_iconst X (v := 0) dX10_becomes_277 (by decide) ?_
                  refine j_istore X (L' := [(6, .int 0), (5, .int v22), (0, .ref b), (1, .int p), (2, .int s), (3, .int d), (4, .int pr)]) dX10_becomes_278 (by decide) rfl ?_
                  have hIb : MIv (mTo (mLn (msc μ 2 0) p s) p 4 ((mOf (mLn (msc μ 2 0) p s) p 4) + 1)) := (mi_to hp ⟨4, by decide, by decide, by decide, rfl⟩ (mi_ln hp hs (mi_msc hI)))
                  have loop280 : ∀ (n k : Nat), k + n = 8 → J P l E { frames := 2, cells := 0, slots := 0, locals := 48 } S0 M0 AR BL ME CO D B 7 (MQ BL (QC (some (.int ((mBec μ p s d pr).1))) D B (z + 0) (mput D h b ((mBec μ p s d pr).2))) AR S0 0 0 (aB B)) 0 0 z (mput D h b (mFl (mTo (mLn (msc μ 2 0) p s) p 4 ((mOf (mLn (msc μ 2 0) p s) p 4) + 1)) p s d pr k)) [(0, .ref b), (1, .int p), (2, .int s), (3, .int d), (4, .int pr), (5, .int v22), (6, .int (nI k))] [] 280 := by
                    intro n
                    induction n with
                    | zero =>
                      intro k hk
                      obtain rfl : k = 8 := by omega
                      refine j_iload X 6 dX10_becomes_280 rfl ?_
                      refine j_bipush X (v := 8) dX10_becomes_282 (by decide) ?_
                      refine j_icmp_ge X (tgt := 331) dX10_becomes_284 (by decide) (fun c_284 => ?_) (fun c_284 => absurd c_284 (by decide))
                      refine j_iconst X (v := 3) dX10_becomes_331 (by decide) ?_
                      exact j_iret X hr rfl (by subst ev22; first | (rw [mBec, if_neg c_10, if_pos c_25, if_pos c_41, mB2, if_neg c_127, mB3, if_neg c_173, mB4, if_neg c_198, if_pos c_205, mB5, if_pos c_252]; done) | (rw [mBec, if_neg c_10, if_pos c_25, if_pos c_41, mB2, if_neg c_127, mB3, if_neg c_173, mB4, if_neg c_198, if_pos c_205, mB5, if_pos c_252]; rfl)) rfl (by subst ev22; first | (rw [mBec, if_neg c_10, if_pos c_25, if_pos c_41, mB2, if_neg c_127, mB3, if_neg c_173, mB4, if_neg c_198, if_pos c_205, mB5, if_pos c_252]; done) | (rw [mBec, if_neg c_10, if_pos c_25, if_pos c_41, mB2, if_neg c_127, mB3, if_neg c_173, mB4, if_neg c_198, if_pos c_205, mB5, if_pos c_252]; rfl)) dX10_becomes_332
                    | succ n ih =>
                      intro k hk
                      have hlt : nI k < 8 := nlt_lit (b := 8) (by omega) (by decide)
                      refine j_iload X 6 dX10_becomes_280 rfl ?_
                      refine j_bipush X (v := 8) dX10_becomes_282 (by decide) ?_
                      refine j_icmp_ge X (tgt := 331) dX10_becomes_284 (by decide) (fun c_284 => absurd hlt c_284) (fun c_284 => ?_)
                      refine j_iload X 6 dX10_becomes_287 rfl ?_
                      refine j_iload_n X 1 dX10_becomes_289 rfl rfl ?_
                      refine j_icmp_eq X (tgt := 325) dX10_becomes_290 (by decide) (fun c_290 => ?_) (fun c_290 => ?_)
                      · obtain ⟨v23, ev23⟩ : ∃ y : Int32, (nI k) + 1 = y := ⟨_, rfl⟩
                        refine j_iinc X 6 (k := 1) (v := v23) (L' := [(6, .int v23), (0, .ref b), (1, .int p), (2, .int s), (3, .int d), (4, .int pr), (5, .int v22)]) dX10_becomes_325 rfl (by decide) (by decide) ev23 rfl ?_
                        refine j_goto X (tgt := 280) dX10_becomes_328 (by decide) ?_
                        refine j_sub [1, 2, 3, 4, 5, 6, 0] (L' := [(0, .ref b), (1, .int p), (2, .int s), (3, .int d), (4, .int pr), (5, .int v22), (6, .int (nI (k + 1)))]) (by subst ev23 ev22; first | with_reducible rfl | (simp only [mFl, nI_succ k, if_neg c_10, if_pos c_25, if_pos c_41, if_neg c_127, if_neg c_173, if_neg c_198, if_pos c_205, if_pos c_252, if_pos c_284, if_pos c_290]; done) | (simp only [mFl, nI_succ k, if_neg c_10, if_pos c_25, if_pos c_41, if_neg c_127, if_neg c_173, if_neg c_198, if_pos c_205, if_pos c_252, if_pos c_284, if_pos c_290]; rfl) | rfl) ?_
                        refine j_heap (h' := mput D h b (mFl (mTo (mLn (msc μ 2 0) p s) p 4 ((mOf (mLn (msc μ 2 0) p s) p 4) + 1)) p s d pr (k + 1))) (by subst ev23 ev22; first | with_reducible rfl | (simp only [mFl, nI_succ k, if_neg c_10, if_pos c_25, if_pos c_41, if_neg c_127, if_neg c_173, if_neg c_198, if_pos c_205, if_pos c_252, if_pos c_284, if_pos c_290]; done) | (simp only [mFl, nI_succ k, if_neg c_10, if_pos c_25, if_pos c_41, if_neg c_127, if_neg c_173, if_neg c_198, if_pos c_205, if_pos c_252, if_pos c_284, if_pos c_290]; rfl) | rfl) ?_
                        exact ih (k + 1) (by omega)
                      · refine j_aload_n X 0 dX10_becomes_293 rfl rfl ?_
                        refine j_iload X 6 dX10_becomes_294 rfl ?_
                        refine j_callVi X (rest := []) (c_X10_isOpen l (po_nI (by omega))) m_yX10_isOpen kM_RX10_48 mput_0 rfl rfl rfl rfl rfl (Nat.le_of_ble_eq_true rfl) ⟨Nat.le_of_ble_eq_true rfl, Nat.le_of_ble_eq_true rfl, Nat.le_of_ble_eq_true rfl, Nat.le_of_ble_eq_true rfl⟩ dX10_becomes_296 ?_
                        refine j_if_eq X (tgt := 325) dX10_becomes_299 (by decide) (fun c_299 => ?_) (fun c_299 => ?_)
                        · obtain ⟨v24, ev24⟩ : ∃ y : Int32, (nI k) + 1 = y := ⟨_, rfl⟩
                          refine j_iinc X 6 (k := 1) (v := v24) (L' := [(6, .int v24), (0, .ref b), (1, .int p), (2, .int s), (3, .int d), (4, .int pr), (5, .int v22)]) dX10_becomes_325 rfl (by decide) (by decide) ev24 rfl ?_
                          refine j_goto X (tgt := 280) dX10_becomes_328 (by decide) ?_
                          refine j_sub [1, 2, 3, 4, 5, 6, 0] (L' := [(0, .ref b), (1, .int p), (2, .int s), (3, .int d), (4, .int pr), (5, .int v22), (6, .int (nI (k + 1)))]) (by subst ev24 ev22; first | with_reducible rfl | (simp only [mFl, nI_succ k, if_neg c_10, if_pos c_25, if_pos c_41, if_neg c_127, if_neg c_173, if_neg c_198, if_pos c_205, if_pos c_252, if_pos c_284, if_neg c_290, if_pos c_299]; done) | (simp only [mFl, nI_succ k, if_neg c_10, if_pos c_25, if_pos c_41, if_neg c_127, if_neg c_173, if_neg c_198, if_pos c_205, if_pos c_252, if_pos c_284, if_neg c_290, if_pos c_299]; rfl) | rfl) ?_
                          refine j_heap (h' := mput D h b (mFl (mTo (mLn (msc μ 2 0) p s) p 4 ((mOf (mLn (msc μ 2 0) p s) p 4) + 1)) p s d pr (k + 1))) (by subst ev24 ev22; first | with_reducible rfl | (simp only [mFl, nI_succ k, if_neg c_10, if_pos c_25, if_pos c_41, if_neg c_127, if_neg c_173, if_neg c_198, if_pos c_205, if_pos c_252, if_pos c_284, if_neg c_290, if_pos c_299]; done) | (simp only [mFl, nI_succ k, if_neg c_10, if_pos c_25, if_pos c_41, if_neg c_127, if_neg c_173, if_neg c_198, if_pos c_205, if_pos c_252, if_pos c_284, if_neg c_290, if_pos c_299]; rfl) | rfl) ?_
                          exact ih (k + 1) (by omega)
                        · refine j_aload_n X 0 dX10_becomes_302 rfl rfl ?_
                          refine j_dup X dX10_becomes_303 rfl ?_
                          refine j_get X fG_RX10_87 mput_0 rfl rfl dX10_becomes_304 ?_
                          refine j_iconst X (v := 1) dX10_becomes_307 (by decide) ?_
                          refine j_iload X 6 dX10_becomes_308 rfl ?_
                          refine j_ishl X dX10_becomes_310 ?_
                          refine j_ior X dX10_becomes_311 ?_
                          refine j_put X fG_RX10_87 fW_10_6 mput_0 rfl rfl rfl (Nat.le_of_ble_eq_true rfl) dX10_becomes_312 ?_
                          refine j_heap (h' := mput D h b (msc (mFl (mTo (mLn (msc μ 2 0) p s) p 4 ((mOf (mLn (msc μ 2 0) p s) p 4) + 1)) p s d pr k) 2 (((mFl (mTo (mLn (msc μ 2 0) p s) p 4 ((mOf (mLn (msc μ 2 0) p s) p 4) + 1)) p s d pr k).1 2) ||| (1 <<< ((nI k) &&& 31))))) mput_s2 ?_
                          refine j_aload_n X 0 dX10_becomes_315 rfl rfl ?_
                          refine j_iload X 6 dX10_becomes_316 rfl ?_
                          refine j_iload_n X 2 dX10_becomes_318 rfl rfl ?_
                          refine j_iload_n X 3 dX10_becomes_319 rfl rfl ?_
                          refine j_iload X 4 dX10_becomes_320 rfl ?_
                          refine j_callVv X (rest := []) (c_X10_goesOut l (po_nI (by omega)) (mi_many (po_nI (by omega)) (mi_msc (mi_fl hIb _ (by omega))))) m_yX10_goesOut kM_RX10_102 mput_0 rfl rfl rfl rfl rfl (Nat.le_of_ble_eq_true rfl) ⟨Nat.le_of_ble_eq_true rfl, Nat.le_of_ble_eq_true rfl, Nat.le_of_ble_eq_true rfl, Nat.le_of_ble_eq_true rfl⟩ dX10_becomes_322 ?_
                          obtain ⟨v25, ev25⟩ : ∃ y : Int32, (nI k) + 1 = y := ⟨_, rfl⟩
                          refine j_iinc X 6 (k := 1) (v := v25) (L' := [(6, .int v25), (0, .ref b), (1, .int p), (2, .int s), (3, .int d), (4, .int pr), (5, .int v22)]) dX10_becomes_325 rfl (by decide) (by decide) ev25 rfl ?_
                          refine j_goto X (tgt := 280) dX10_becomes_328 (by decide) ?_
                          refine j_sub [1, 2, 3, 4, 5, 6, 0] (L' := [(0, .ref b), (1, .int p), (2, .int s), (3, .int d), (4, .int pr), (5, .int v22), (6, .int (nI (k + 1)))]) (by subst ev25 ev22; first | with_reducible rfl | (simp only [mFl, nI_succ k, if_neg c_10, if_pos c_25, if_pos c_41, if_neg c_127, if_neg c_173, if_neg c_198, if_pos c_205, if_pos c_252, if_pos c_284, if_neg c_290, if_neg c_299]; done) | (simp only [mFl, nI_succ k, if_neg c_10, if_pos c_25, if_pos c_41, if_neg c_127, if_neg c_173, if_neg c_198, if_pos c_205, if_pos c_252, if_pos c_284, if_neg c_290, if_neg c_299]; rfl) | rfl) ?_
                          refine j_heap (h' := mput D h b (mFl (mTo (mLn (msc μ 2 0) p s) p 4 ((mOf (mLn (msc μ 2 0) p s) p 4) + 1)) p s d pr (k + 1))) (by subst ev25 ev22; first | with_reducible rfl | (simp only [mFl, nI_succ k, if_neg c_10, if_pos c_25, if_pos c_41, if_neg c_127, if_neg c_173, if_neg c_198, if_pos c_205, if_pos c_252, if_pos c_284, if_neg c_290, if_neg c_299]; done) | (simp only [mFl, nI_succ k, if_neg c_10, if_pos c_25, if_pos c_41, if_neg c_127, if_neg c_173, if_neg c_198, if_pos c_205, if_pos c_252, if_pos c_284, if_neg c_290, if_neg c_299]; rfl) | rfl) ?_
                          exact ih (k + 1) (by omega)
                  refine j_sub [2, 3, 4, 5, 6, 1, 0] (L' := [(0, .ref b), (1, .int p), (2, .int s), (3, .int d), (4, .int pr), (5, .int v22), (6, .int (nI 0))]) (by subst ev22; first | with_reducible rfl | (simp only [mFl, if_neg c_10, if_pos c_25, if_pos c_41, if_neg c_127, if_neg c_173, if_neg c_198, if_pos c_205, if_pos c_252]; done) | (simp only [mFl, if_neg c_10, if_pos c_25, if_pos c_41, if_neg c_127, if_neg c_173, if_neg c_198, if_pos c_205, if_pos c_252]; rfl) | rfl) ?_
                  refine j_heap (h' := mput D h b (mFl (mTo (mLn (msc μ 2 0) p s) p 4 ((mOf (mLn (msc μ 2 0) p s) p 4) + 1)) p s d pr 0)) (by subst ev22; first | with_reducible rfl | (simp only [mFl, if_neg c_10, if_pos c_25, if_pos c_41, if_neg c_127, if_neg c_173, if_neg c_198, if_pos c_205, if_pos c_252]; done) | (simp only [mFl, if_neg c_10, if_pos c_25, if_pos c_41, if_neg c_127, if_neg c_173, if_neg c_198, if_pos c_205, if_pos c_252]; rfl) | rfl) ?_
                  exact loop280 8 0 rfl
                · refine j_aload_n X 1 dX10_becomes_255 rfl rfl ?_
                  refine j_iload_n X 2 dX10_becomes_256 rfl rfl ?_
                  refine j_iconst X (v := 2) dX10_becomes_257 (by decide) ?_
                  refine j_callVv X (rest := []) (c_X10_quarantine l hp) m_yX10_quarantine kM_RX10_93 mput_0 rfl rfl rfl rfl rfl (Nat.le_of_ble_eq_true rfl) ⟨Nat.le_of_ble_eq_true rfl, Nat.le_of_ble_eq_true rfl, Nat.le_of_ble_eq_true rfl, Nat.le_of_ble_eq_true rfl⟩ dX10_becomes_258 ?_
                  refine j_iconst X (v := 5) dX10_becomes_261 (by decide) ?_
                  exact j_iret X hr rfl (by subst ev22; first | (rw [mBec, if_neg c_10, if_pos c_25, if_pos c_41, mB2, if_neg c_127, mB3, if_neg c_173, mB4, if_neg c_198, if_pos c_205, mB5, if_neg c_252]; done) | (rw [mBec, if_neg c_10, if_pos c_25, if_pos c_41, mB2, if_neg c_127, mB3, if_neg c_173, mB4, if_neg c_198, if_pos c_205, mB5, if_neg c_252]; rfl)) rfl (by subst ev22; first | (rw [mBec, if_neg c_10, if_pos c_25, if_pos c_41, mB2, if_neg c_127, mB3, if_neg c_173, mB4, if_neg c_198, if_pos c_205, mB5, if_neg c_252]; done) | (rw [mBec, if_neg c_10, if_pos c_25, if_pos c_41, mB2, if_neg c_127, mB3, if_neg c_173, mB4, if_neg c_198, if_pos c_205, mB5, if_neg c_252]; rfl)) dX10_becomes_262
              · have hpt : PO v22 := po_pred (mi_tabv hd (mi_ln hp hs (mi_msc hI))) ev22 c_205
                refine j_aload_n X 1 dX10_becomes_208 rfl rfl ?_
                refine j_iload X 0 dX10_becomes_209 rfl ?_
                refine j_callVi X (rest := []) (c_X10_isOpen l hpt) m_yX10_isOpen kM_RX10_48 mput_0 rfl rfl rfl rfl rfl (Nat.le_of_ble_eq_true rfl) ⟨Nat.le_of_ble_eq_true rfl, Nat.le_of_ble_eq_true rfl, Nat.le_of_ble_eq_true rfl, Nat.le_of_ble_eq_true rfl⟩ dX10_becomes_211 ?_
                refine j_if_ne X (tgt := 220) dX10_becomes_214 (by decide) (fun c_214 => ?_) (fun c_214 => ?_)
                · refine j_aload_n X 1 dX10_becomes_220 rfl rfl ?_
                  refine j_iconst X (v := 1) dX10_becomes_221 (by decide) ?_
                  refine j_iload X 0 dX10_becomes_222 rfl ?_
                  refine j_ishl X dX10_becomes_224 ?_
                  refine j_put X fG_RX10_87 fW_10_6 mput_0 rfl rfl rfl (Nat.le_of_ble_eq_true rfl) dX10_becomes_225 ?_
                  refine j_heap (h' := mput D h b (msc (mLn (msc μ 2 0) p s) 2 (1 <<< (v22 &&& 31)))) mput_s2 ?_
                  refine j_aload_n X 1 dX10_becomes_228 rfl rfl ?_
                  refine j_iload X 0 dX10_becomes_229 rfl ?_
                  refine j_iload_n X 3 dX10_becomes_231 rfl rfl ?_
                  refine j_iload_n X 4 dX10_becomes_232 rfl rfl ?_
                  refine j_iload X 5 dX10_becomes_233 rfl ?_
                  refine j_callVv X (rest := []) (c_X10_goesOut l hpt (mi_many hpt (mi_msc (mi_ln hp hs (mi_msc hI))))) m_yX10_goesOut kM_RX10_102 mput_0 rfl rfl rfl rfl rfl (Nat.le_of_ble_eq_true rfl) ⟨Nat.le_of_ble_eq_true rfl, Nat.le_of_ble_eq_true rfl, Nat.le_of_ble_eq_true rfl, Nat.le_of_ble_eq_true rfl⟩ dX10_becomes_235 ?_
                  refine j_iconst X (v := 2) dX10_becomes_238 (by decide) ?_
                  exact j_iret X hr rfl (by subst ev22; first | (rw [mBec, if_neg c_10, if_pos c_25, if_pos c_41, mB2, if_neg c_127, mB3, if_neg c_173, mB4, if_neg c_198, if_neg c_205, if_neg c_214]; done) | (rw [mBec, if_neg c_10, if_pos c_25, if_pos c_41, mB2, if_neg c_127, mB3, if_neg c_173, mB4, if_neg c_198, if_neg c_205, if_neg c_214]; rfl)) rfl (by subst ev22; first | (rw [mBec, if_neg c_10, if_pos c_25, if_pos c_41, mB2, if_neg c_127, mB3, if_neg c_173, mB4, if_neg c_198, if_neg c_205, if_neg c_214]; done) | (rw [mBec, if_neg c_10, if_pos c_25, if_pos c_41, mB2, if_neg c_127, mB3, if_neg c_173, mB4, if_neg c_198, if_neg c_205, if_neg c_214]; rfl)) dX10_becomes_239
                · refine j_bipush X (v := 6) dX10_becomes_217 (by decide) ?_
                  exact j_iret X hr rfl (by subst ev22; first | (rw [mBec, if_neg c_10, if_pos c_25, if_pos c_41, mB2, if_neg c_127, mB3, if_neg c_173, mB4, if_neg c_198, if_neg c_205, if_pos c_214]; done) | (rw [mBec, if_neg c_10, if_pos c_25, if_pos c_41, mB2, if_neg c_127, mB3, if_neg c_173, mB4, if_neg c_198, if_neg c_205, if_pos c_214]; rfl)) rfl (by subst ev22; first | (rw [mBec, if_neg c_10, if_pos c_25, if_pos c_41, mB2, if_neg c_127, mB3, if_neg c_173, mB4, if_neg c_198, if_neg c_205, if_pos c_214]; done) | (rw [mBec, if_neg c_10, if_pos c_25, if_pos c_41, mB2, if_neg c_127, mB3, if_neg c_173, mB4, if_neg c_198, if_neg c_205, if_pos c_214]; rfl)) dX10_becomes_219
            · refine j_iconst X (v := 1) dX10_becomes_201 (by decide) ?_
              exact j_iret X hr rfl (by subst ev22; first | (rw [mBec, if_neg c_10, if_pos c_25, if_pos c_41, mB2, if_neg c_127, mB3, if_neg c_173, mB4, if_pos c_198]; done) | (rw [mBec, if_neg c_10, if_pos c_25, if_pos c_41, mB2, if_neg c_127, mB3, if_neg c_173, mB4, if_pos c_198]; rfl)) rfl (by subst ev22; first | (rw [mBec, if_neg c_10, if_pos c_25, if_pos c_41, mB2, if_neg c_127, mB3, if_neg c_173, mB4, if_pos c_198]; done) | (rw [mBec, if_neg c_10, if_pos c_25, if_pos c_41, mB2, if_neg c_127, mB3, if_neg c_173, mB4, if_pos c_198]; rfl)) dX10_becomes_202
          · refine j_bipush X (v := (-4)) dX10_becomes_176 (by decide) ?_
            refine j_goto X (tgt := 193) dX10_becomes_178 (by decide) ?_
            refine j_istore X (L' := [(5, .int (-4)), (0, .ref b), (1, .int p), (2, .int s), (3, .int d), (4, .int pr)]) dX10_becomes_193 (by decide) rfl ?_
            refine j_iload X 0 dX10_becomes_195 rfl ?_
            refine j_iload_n X 2 dX10_becomes_197 rfl rfl ?_
            refine j_icmp_ne X (tgt := 203) dX10_becomes_198 (by decide) (fun c_198 => ?_) (fun c_198 => ?_)
            · refine j_iload X 0 dX10_becomes_203 rfl ?_
              refine j_if_lt X (tgt := 240) dX10_becomes_205 (by decide) (fun _ => ?_) (fun c_ => absurd (by decide) c_)
              refine j_aload_n X 1 dX10_becomes_240 rfl rfl ?_
              refine j_iload_n X 2 dX10_becomes_241 rfl rfl ?_
              refine j_iconst X (v := 4) dX10_becomes_242 (by decide) ?_
              refine j_callVi X (rest := []) (c_X10_of l hp (show WH 4 _ from ⟨4, by decide, rfl⟩)) m_yX10_of kM_RX10_44 mput_0 rfl rfl rfl rfl rfl (Nat.le_of_ble_eq_true rfl) ⟨Nat.le_of_ble_eq_true rfl, Nat.le_of_ble_eq_true rfl, Nat.le_of_ble_eq_true rfl, Nat.le_of_ble_eq_true rfl⟩ dX10_becomes_243 ?_
              refine j_aload_n X 1 dX10_becomes_246 rfl rfl ?_
              refine j_get X fG_RX10_7 mput_0 rfl rfl dX10_becomes_247 ?_
              refine j_iconst X (v := 2) dX10_becomes_250 (by decide) ?_
              refine j_ldM X (vp_in_nI (n := 2) (by decide) (by decide)) dX10_becomes_251 ?_
              refine j_icmp_lt X (tgt := 263) dX10_becomes_252 (by decide) (fun c_252 => ?_) (fun c_252 => ?_)
              · refine j_aload_n X 1 dX10_becomes_263 rfl rfl ?_
                refine j_iload_n X 2 dX10_becomes_264 rfl rfl ?_
                refine j_iconst X (v := 4) dX10_becomes_265 (by decide) ?_
                refine j_aload_n X 1 dX10_becomes_266 rfl rfl ?_
                refine j_iload_n X 2 dX10_becomes_267 rfl rfl ?_
                refine j_iconst X (v := 4) dX10_becomes_268 (by decide) ?_
                refine j_callVi X (rest := [.int 4, .int p, .ref b]) (c_X10_of l hp (show WH 4 _ from ⟨4, by decide, rfl⟩)) m_yX10_of kM_RX10_44 mput_0 rfl rfl rfl rfl rfl (Nat.le_of_ble_eq_true rfl) ⟨Nat.le_of_ble_eq_true rfl, Nat.le_of_ble_eq_true rfl, Nat.le_of_ble_eq_true rfl, Nat.le_of_ble_eq_true rfl⟩ dX10_becomes_269 ?_
                refine j_iconst X (v := 1) dX10_becomes_272 (by decide) ?_
                refine j_iadd X dX10_becomes_273 ?_
                refine j_callVv X (rest := []) (c_X10_to l hp (show WH 4 _ from ⟨4, by decide, rfl⟩)) m_yX10_to kM_RX10_32 mput_0 rfl rfl rfl rfl rfl (Nat.le_of_ble_eq_true rfl) ⟨Nat.le_of_ble_eq_true rfl, Nat.le_of_ble_eq_true rfl, Nat.le_of_ble_eq_true rfl, Nat.le_of_ble_eq_true rfl⟩ dX10_becomes_274 ?_
                refine j_iconst X (v := 0) dX10_becomes_277 (by decide) ?_
                refine j_istore X (L' := [(6, .int 0), (5, .int (-4)), (0, .ref b), (1, .int p), (2, .int s), (3, .int d), (4, .int pr)]) dX10_becomes_278 (by decide) rfl ?_
                have hIb : MIv (mTo (mLn (msc μ 2 0) p s) p 4 ((mOf (mLn (msc μ 2 0) p s) p 4) + 1)) := (mi_to hp ⟨4, by decide, by decide, by decide, rfl⟩ (mi_ln hp hs (mi_msc hI)))
                have loop280 : ∀ (n k : Nat), k + n = 8 → J P l E { frames := 2, cells := 0, slots := 0, locals := 48 } S0 M0 AR BL ME CO D B 7 (MQ BL (QC (some (.int ((mBec μ p s d pr).1))) D B (z + 0) (mput D h b ((mBec μ p s d pr).2))) AR S0 0 0 (aB B)) 0 0 z (mput D h b (mFl (mTo (mLn (msc μ 2 0) p s) p 4 ((mOf (mLn (msc μ 2 0) p s) p 4) + 1)) p s d pr k)) [(0, .ref b), (1, .int p), (2, .int s), (3, .int d), (4, .int pr), (5, .int (-4)), (6, .int (nI k))] [] 280 := by
                  intro n
                  induction n with
                  | zero =>
                    intro k hk
                    obtain rfl : k = 8 := by omega
                    refine j_iload X 6 dX10_becomes_280 rfl ?_
                    refine j_bipush X (v := 8) dX10_becomes_282 (by decide) ?_
                    refine j_icmp_ge X (tgt := 331) dX10_becomes_284 (by decide) (fun c_284 => ?_) (fun c_284 => absurd c_284 (by decide))
                    refine j_iconst X (v := 3) dX10_becomes_331 (by decide) ?_
                    exact j_iret X hr rfl (by first | (rw [mBec, if_neg c_10, if_pos c_25, if_pos c_41, mB2, if_neg c_127, mB3, if_pos c_173, mB4, if_neg c_198, if_pos (show (-4 : Int32) < 0 by decide), mB5, if_pos c_252]; done) | (rw [mBec, if_neg c_10, if_pos c_25, if_pos c_41, mB2, if_neg c_127, mB3, if_pos c_173, mB4, if_neg c_198, if_pos (show (-4 : Int32) < 0 by decide), mB5, if_pos c_252]; rfl)) rfl (by first | (rw [mBec, if_neg c_10, if_pos c_25, if_pos c_41, mB2, if_neg c_127, mB3, if_pos c_173, mB4, if_neg c_198, if_pos (show (-4 : Int32) < 0 by decide), mB5, if_pos c_252]; done) | (rw [mBec, if_neg c_10, if_pos c_25, if_pos c_41, mB2, if_neg c_127, mB3, if_pos c_173, mB4, if_neg c_198, if_pos (show (-4 : Int32) < 0 by decide), mB5, if_pos c_252]; rfl)) dX10_becomes_332
                  | succ n ih =>
                    intro k hk
                    have hlt : nI k < 8 := nlt_lit (b := 8) (by omega) (by decide)
                    refine j_iload X 6 dX10_becomes_280 rfl ?_
                    refine j_bipush X (v := 8) dX10_becomes_282 (by decide) ?_
                    refine j_icmp_ge X (tgt := 331) dX10_becomes_284 (by decide) (fun c_284 => absurd hlt c_284) (fun c_284 => ?_)
                    refine j_iload X 6 dX10_becomes_287 rfl ?_
                    refine j_iload_n X 1 dX10_becomes_289 rfl rfl ?_
                    refine j_icmp_eq X (tgt := 325) dX10_becomes_290 (by decide) (fun c_290 => ?_) (fun c_290 => ?_)
                    · obtain ⟨v26, ev26⟩ : ∃ y : Int32, (nI k) + 1 = y := ⟨_, rfl⟩
                      refine j_iinc X 6 (k := 1) (v := v26) (L' := [(6, .int v26), (0, .ref b), (1, .int p), (2, .int s), (3, .int d), (4, .int pr), (5, .int (-4))]) dX10_becomes_325 rfl (by decide) (by decide) ev26 rfl ?_
                      refine j_goto X (tgt := 280) dX10_becomes_328 (by decide) ?_
                      refine j_sub [1, 2, 3, 4, 5, 6, 0] (L' := [(0, .ref b), (1, .int p), (2, .int s), (3, .int d), (4, .int pr), (5, .int (-4)), (6, .int (nI (k + 1)))]) (by subst ev26; first | with_reducible rfl | (simp only [mFl, nI_succ k, if_neg c_10, if_pos c_25, if_pos c_41, if_neg c_127, if_pos c_173, if_neg c_198, if_pos c_252, if_pos c_284, if_pos c_290]; done) | (simp only [mFl, nI_succ k, if_neg c_10, if_pos c_25, if_pos c_41, if_neg c_127, if_pos c_173, if_neg c_198, if_pos c_252, if_pos c_284, if_pos c_290]; rfl) | rfl) ?_
                      refine j_heap (h' := mput D h b (mFl (mTo (mLn (msc μ 2 0) p s) p 4 ((mOf (mLn (msc μ 2 0) p s) p 4) + 1)) p s d pr (k + 1))) (by subst ev26; first | with_reducible rfl | (simp only [mFl, nI_succ k, if_neg c_10, if_pos c_25, if_pos c_41, if_neg c_127, if_pos c_173, if_neg c_198, if_pos c_252, if_pos c_284, if_pos c_290]; done) | (simp only [mFl, nI_succ k, if_neg c_10, if_pos c_25, if_pos c_41, if_neg c_127, if_pos c_173, if_neg c_198, if_pos c_252, if_pos c_284, if_pos c_290]; rfl) | rfl) ?_
                      exact ih (k + 1) (by omega)
                    · refine j_aload_n X 0 dX10_becomes_293 rfl rfl ?_
                      refine j_iload X 6 dX10_becomes_294 rfl ?_
                      refine j_callVi X (rest := []) (c_X10_isOpen l (po_nI (by omega))) m_yX10_isOpen kM_RX10_48 mput_0 rfl rfl rfl rfl rfl (Nat.le_of_ble_eq_true rfl) ⟨Nat.le_of_ble_eq_true rfl, Nat.le_of_ble_eq_true rfl, Nat.le_of_ble_eq_true rfl, Nat.le_of_ble_eq_true rfl⟩ dX10_becomes_296 ?_
                      refine j_if_eq X (tgt := 325) dX10_becomes_299 (by decide) (fun c_299 => ?_) (fun c_299 => ?_)
                      · obtain ⟨v27, ev27⟩ : ∃ y : Int32, (nI k) + 1 = y := ⟨_, rfl⟩
                        refine j_iinc X 6 (k := 1) (v := v27) (L' := [(6, .int v27), (0, .ref b), (1, .int p), (2, .int s), (3, .int d), (4, .int pr), (5, .int (-4))]) dX10_becomes_325 rfl (by decide) (by decide) ev27 rfl ?_
                        refine j_goto X (tgt := 280) dX10_becomes_328 (by decide) ?_
                        refine j_sub [1, 2, 3, 4, 5, 6, 0] (L' := [(0, .ref b), (1, .int p), (2, .int s), (3, .int d), (4, .int pr), (5, .int (-4)), (6, .int (nI (k + 1)))]) (by subst ev27; first | with_reducible rfl | (simp only [mFl, nI_succ k, if_neg c_10, if_pos c_25, if_pos c_41, if_neg c_127, if_pos c_173, if_neg c_198, if_pos c_252, if_pos c_284, if_neg c_290, if_pos c_299]; done) | (simp only [mFl, nI_succ k, if_neg c_10, if_pos c_25, if_pos c_41, if_neg c_127, if_pos c_173, if_neg c_198, if_pos c_252, if_pos c_284, if_neg c_290, if_pos c_299]; rfl) | rfl) ?_
                        refine j_heap (h' := mput D h b (mFl (mTo (mLn (msc μ 2 0) p s) p 4 ((mOf (mLn (msc μ 2 0) p s) p 4) + 1)) p s d pr (k + 1))) (by subst ev27; first | with_reducible rfl | (simp only [mFl, nI_succ k, if_neg c_10, if_pos c_25, if_pos c_41, if_neg c_127, if_pos c_173, if_neg c_198, if_pos c_252, if_pos c_284, if_neg c_290, if_pos c_299]; done) | (simp only [mFl, nI_succ k, if_neg c_10, if_pos c_25, if_pos c_41, if_neg c_127, if_pos c_173, if_neg c_198, if_pos c_252, if_pos c_284, if_neg c_290, if_pos c_299]; rfl) | rfl) ?_
                        exact ih (k + 1) (by omega)
                      · refine j_aload_n X 0 dX10_becomes_302 rfl rfl ?_
                        refine j_dup X dX10_becomes_303 rfl ?_
                        refine j_get X fG_RX10_87 mput_0 rfl rfl dX10_becomes_304 ?_
                        refine j_iconst X (v := 1) dX10_becomes_307 (by decide) ?_
                        refine j_iload X 6 dX10_becomes_308 rfl ?_
                        refine j_ishl X dX10_becomes_310 ?_
                        refine j_ior X dX10_becomes_311 ?_
                        refine j_put X fG_RX10_87 fW_10_6 mput_0 rfl rfl rfl (Nat.le_of_ble_eq_true rfl) dX10_becomes_312 ?_
                        refine j_heap (h' := mput D h b (msc (mFl (mTo (mLn (msc μ 2 0) p s) p 4 ((mOf (mLn (msc μ 2 0) p s) p 4) + 1)) p s d pr k) 2 (((mFl (mTo (mLn (msc μ 2 0) p s) p 4 ((mOf (mLn (msc μ 2 0) p s) p 4) + 1)) p s d pr k).1 2) ||| (1 <<< ((nI k) &&& 31))))) mput_s2 ?_
                        refine j_aload_n X 0 dX10_becomes_315 rfl rfl ?_
                        refine j_iload X 6 dX10_becomes_316 rfl ?_
                        refine j_iload_n X 2 dX10_becomes_318 rfl rfl ?_
                        refine j_iload_n X 3 dX10_becomes_319 rfl rfl ?_
                        refine j_iload X 4 dX10_becomes_320 rfl ?_
                        refine j_callVv X (rest := []) (c_X10_goesOut l (po_nI (by omega)) (mi_many (po_nI (by omega)) (mi_msc (mi_fl hIb _ (by omega))))) m_yX10_goesOut kM_RX10_102 mput_0 rfl rfl rfl rfl rfl (Nat.le_of_ble_eq_true rfl) ⟨Nat.le_of_ble_eq_true rfl, Nat.le_of_ble_eq_true rfl, Nat.le_of_ble_eq_true rfl, Nat.le_of_ble_eq_true rfl⟩ dX10_becomes_322 ?_
                        obtain ⟨v28, ev28⟩ : ∃ y : Int32, (nI k) + 1 = y := ⟨_, rfl⟩
                        refine j_iinc X 6 (k := 1) (v := v28) (L' := [(6, .int v28), (0, .ref b), (1, .int p), (2, .int s), (3, .int d), (4, .int pr), (5, .int (-4))]) dX10_becomes_325 rfl (by decide) (by decide) ev28 rfl ?_
                        refine j_goto X (tgt := 280) dX10_becomes_328 (by decide) ?_
                        refine j_sub [1, 2, 3, 4, 5, 6, 0] (L' := [(0, .ref b), (1, .int p), (2, .int s), (3, .int d), (4, .int pr), (5, .int (-4)), (6, .int (nI (k + 1)))]) (by subst ev28; first | with_reducible rfl | (simp only [mFl, nI_succ k, if_neg c_10, if_pos c_25, if_pos c_41, if_neg c_127, if_pos c_173, if_neg c_198, if_pos c_252, if_pos c_284, if_neg c_290, if_neg c_299]; done) | (simp only [mFl, nI_succ k, if_neg c_10, if_pos c_25, if_pos c_41, if_neg c_127, if_pos c_173, if_neg c_198, if_pos c_252, if_pos c_284, if_neg c_290, if_neg c_299]; rfl) | rfl) ?_
                        refine j_heap (h' := mput D h b (mFl (mTo (mLn (msc μ 2 0) p s) p 4 ((mOf (mLn (msc μ 2 0) p s) p 4) + 1)) p s d pr (k + 1))) (by subst ev28; first | with_reducible rfl | (simp only [mFl, nI_succ k, if_neg c_10, if_pos c_25, if_pos c_41, if_neg c_127, if_pos c_173, if_neg c_198, if_pos c_252, if_pos c_284, if_neg c_290, if_neg c_299]; done) | (simp only [mFl, nI_succ k, if_neg c_10, if_pos c_25, if_pos c_41, if_neg c_127, if_pos c_173, if_neg c_198, if_pos c_252, if_pos c_284, if_neg c_290, if_neg c_299]; rfl) | rfl) ?_
                        exact ih (k + 1) (by omega)
                refine j_sub [2, 3, 4, 5, 6, 1, 0] (L' := [(0, .ref b), (1, .int p), (2, .int s), (3, .int d), (4, .int pr), (5, .int (-4)), (6, .int (nI 0))]) (by first | with_reducible rfl | (simp only [mFl, if_neg c_10, if_pos c_25, if_pos c_41, if_neg c_127, if_pos c_173, if_neg c_198, if_pos c_252]; done) | (simp only [mFl, if_neg c_10, if_pos c_25, if_pos c_41, if_neg c_127, if_pos c_173, if_neg c_198, if_pos c_252]; rfl) | rfl) ?_
                refine j_heap (h' := mput D h b (mFl (mTo (mLn (msc μ 2 0) p s) p 4 ((mOf (mLn (msc μ 2 0) p s) p 4) + 1)) p s d pr 0)) (by first | with_reducible rfl | (simp only [mFl, if_neg c_10, if_pos c_25, if_pos c_41, if_neg c_127, if_pos c_173, if_neg c_198, if_pos c_252]; done) | (simp only [mFl, if_neg c_10, if_pos c_25, if_pos c_41, if_neg c_127, if_pos c_173, if_neg c_198, if_pos c_252]; rfl) | rfl) ?_
                exact loop280 8 0 rfl
              · refine j_aload_n X 1 dX10_becomes_255 rfl rfl ?_
                refine j_iload_n X 2 dX10_becomes_256 rfl rfl ?_
                refine j_iconst X (v := 2) dX10_becomes_257 (by decide) ?_
                refine j_callVv X (rest := []) (c_X10_quarantine l hp) m_yX10_quarantine kM_RX10_93 mput_0 rfl rfl rfl rfl rfl (Nat.le_of_ble_eq_true rfl) ⟨Nat.le_of_ble_eq_true rfl, Nat.le_of_ble_eq_true rfl, Nat.le_of_ble_eq_true rfl, Nat.le_of_ble_eq_true rfl⟩ dX10_becomes_258 ?_
                refine j_iconst X (v := 5) dX10_becomes_261 (by decide) ?_
                exact j_iret X hr rfl (by first | (rw [mBec, if_neg c_10, if_pos c_25, if_pos c_41, mB2, if_neg c_127, mB3, if_pos c_173, mB4, if_neg c_198, if_pos (show (-4 : Int32) < 0 by decide), mB5, if_neg c_252]; done) | (rw [mBec, if_neg c_10, if_pos c_25, if_pos c_41, mB2, if_neg c_127, mB3, if_pos c_173, mB4, if_neg c_198, if_pos (show (-4 : Int32) < 0 by decide), mB5, if_neg c_252]; rfl)) rfl (by first | (rw [mBec, if_neg c_10, if_pos c_25, if_pos c_41, mB2, if_neg c_127, mB3, if_pos c_173, mB4, if_neg c_198, if_pos (show (-4 : Int32) < 0 by decide), mB5, if_neg c_252]; done) | (rw [mBec, if_neg c_10, if_pos c_25, if_pos c_41, mB2, if_neg c_127, mB3, if_pos c_173, mB4, if_neg c_198, if_pos (show (-4 : Int32) < 0 by decide), mB5, if_neg c_252]; rfl)) dX10_becomes_262
            · refine j_iconst X (v := 1) dX10_becomes_201 (by decide) ?_
              exact j_iret X hr rfl (by first | (rw [mBec, if_neg c_10, if_pos c_25, if_pos c_41, mB2, if_neg c_127, mB3, if_pos c_173, mB4, if_pos c_198]; done) | (rw [mBec, if_neg c_10, if_pos c_25, if_pos c_41, mB2, if_neg c_127, mB3, if_pos c_173, mB4, if_pos c_198]; rfl)) rfl (by first | (rw [mBec, if_neg c_10, if_pos c_25, if_pos c_41, mB2, if_neg c_127, mB3, if_pos c_173, mB4, if_pos c_198]; done) | (rw [mBec, if_neg c_10, if_pos c_25, if_pos c_41, mB2, if_neg c_127, mB3, if_pos c_173, mB4, if_pos c_198]; rfl)) dX10_becomes_202
        · refine j_aload_n X 0 dX10_becomes_130 rfl rfl ?_
          refine j_callVi X (rest := []) (c_X10_entries l) m_yX10_entries kM_RX10_96 mput_0 rfl rfl rfl rfl rfl (Nat.le_of_ble_eq_true rfl) ⟨Nat.le_of_ble_eq_true rfl, Nat.le_of_ble_eq_true rfl, Nat.le_of_ble_eq_true rfl, Nat.le_of_ble_eq_true rfl⟩ dX10_becomes_131 ?_
          refine j_bipush X (v := 20) dX10_becomes_134 (by decide) ?_
          refine j_icmp_ne X (tgt := 143) dX10_becomes_136 (by decide) (fun c_136 => ?_) (fun c_136 => ?_)
          · refine j_aload_n X 0 dX10_becomes_143 rfl rfl ?_
            refine j_get X fG_RX10_7 mput_0 rfl rfl dX10_becomes_144 ?_
            refine j_sipush X (v := 552) dX10_becomes_147 (by decide) ?_
            refine j_iload_n X 2 dX10_becomes_150 rfl rfl ?_
            refine j_iadd X dX10_becomes_151 ?_
            refine j_iload_n X 1 dX10_becomes_152 rfl rfl ?_
            refine j_iconst X (v := 1) dX10_becomes_153 (by decide) ?_
            refine j_iadd X dX10_becomes_154 ?_
            refine j_stM X (in_552 hs) dX10_becomes_155 ?_
            refine j_aload_n X 0 dX10_becomes_156 rfl rfl ?_
            refine j_get X fG_RX10_7 mput_0 rfl rfl dX10_becomes_157 ?_
            refine j_sipush X (v := 652) dX10_becomes_160 (by decide) ?_
            refine j_iload_n X 2 dX10_becomes_163 rfl rfl ?_
            refine j_iadd X dX10_becomes_164 ?_
            refine j_aload_n X 0 dX10_becomes_165 rfl rfl ?_
            refine j_get X fG_RX10_7 mput_0 rfl rfl dX10_becomes_166 ?_
            refine j_iconst X (v := 4) dX10_becomes_169 (by decide) ?_
            refine j_ldM X (vp_in_nI (n := 4) (by decide) (by decide)) dX10_becomes_170 ?_
            refine j_stM X (in_652 hs) dX10_becomes_171 ?_
            refine j_heap (h' := mput D h b (mLn (msc μ 2 0) p s)) rfl ?_
            refine j_iload_n X 3 dX10_becomes_172 rfl rfl ?_
            refine j_if_ne X (tgt := 181) dX10_becomes_173 (by decide) (fun c_173 => ?_) (fun c_173 => ?_)
            · refine j_aload_n X 0 dX10_becomes_181 rfl rfl ?_
              refine j_get X fG_RX10_7 mput_0 rfl rfl dX10_becomes_182 ?_
              refine j_sipush X (v := 552) dX10_becomes_185 (by decide) ?_
              refine j_iload_n X 3 dX10_becomes_188 rfl rfl ?_
              refine j_iadd X dX10_becomes_189 ?_
              refine j_ldM X (in_552 hd) dX10_becomes_190 ?_
              refine j_iconst X (v := 1) dX10_becomes_191 (by decide) ?_
              refine j_isub X dX10_becomes_192 ?_
              refine j_tops (fun v29 ev29 => ?_)
              refine j_istore X (L' := [(5, .int v29), (0, .ref b), (1, .int p), (2, .int s), (3, .int d), (4, .int pr)]) dX10_becomes_193 (by decide) rfl ?_
              refine j_iload X 0 dX10_becomes_195 rfl ?_
              refine j_iload_n X 2 dX10_becomes_197 rfl rfl ?_
              refine j_icmp_ne X (tgt := 203) dX10_becomes_198 (by decide) (fun c_198 => ?_) (fun c_198 => ?_)
              · refine j_iload X 0 dX10_becomes_203 rfl ?_
                refine j_if_lt X (tgt := 240) dX10_becomes_205 (by decide) (fun c_205 => ?_) (fun c_205 => ?_)
                · refine j_aload_n X 1 dX10_becomes_240 rfl rfl ?_
                  refine j_iload_n X 2 dX10_becomes_241 rfl rfl ?_
                  refine j_iconst X (v := 4) dX10_becomes_242 (by decide) ?_
                  refine j_callVi X (rest := []) (c_X10_of l hp (show WH 4 _ from ⟨4, by decide, rfl⟩)) m_yX10_of kM_RX10_44 mput_0 rfl rfl rfl rfl rfl (Nat.le_of_ble_eq_true rfl) ⟨Nat.le_of_ble_eq_true rfl, Nat.le_of_ble_eq_true rfl, Nat.le_of_ble_eq_true rfl, Nat.le_of_ble_eq_true rfl⟩ dX10_becomes_243 ?_
                  refine j_aload_n X 1 dX10_becomes_246 rfl rfl ?_
                  refine j_get X fG_RX10_7 mput_0 rfl rfl dX10_becomes_247 ?_
                  refine j_iconst X (v := 2) dX10_becomes_250 (by decide) ?_
                  refine j_ldM X (vp_in_nI (n := 2) (by decide) (by decide)) dX10_becomes_251 ?_
                  refine j_icmp_lt X (tgt := 263) dX10_becomes_252 (by decide) (fun c_252 => ?_) (fun c_252 => ?_)
                  · refine j_aload_n X 1 dX10_becomes_263 rfl rfl ?_
                    refine j_iload_n X 2 dX10_becomes_264 rfl rfl ?_
                    refine j_iconst X (v := 4) dX10_becomes_265 (by decide) ?_
                    refine j_aload_n X 1 dX10_becomes_266 rfl rfl ?_
                    refine j_iload_n X 2 dX10_becomes_267 rfl rfl ?_
                    refine j_iconst X (v := 4) dX10_becomes_268 (by decide) ?_
                    refine j_callVi X (rest := [.int 4, .int p, .ref b]) (c_X10_of l hp (show WH 4 _ from ⟨4, by decide, rfl⟩)) m_yX10_of kM_RX10_44 mput_0 rfl rfl rfl rfl rfl (Nat.le_of_ble_eq_true rfl) ⟨Nat.le_of_ble_eq_true rfl, Nat.le_of_ble_eq_true rfl, Nat.le_of_ble_eq_true rfl, Nat.le_of_ble_eq_true rfl⟩ dX10_becomes_269 ?_
                    refine j_iconst X (v := 1) dX10_becomes_272 (by decide) ?_
                    refine j_iadd X dX10_becomes_273 ?_
                    refine j_callVv X (rest := []) (c_X10_to l hp (show WH 4 _ from ⟨4, by decide, rfl⟩)) m_yX10_to kM_RX10_32 mput_0 rfl rfl rfl rfl rfl (Nat.le_of_ble_eq_true rfl) ⟨Nat.le_of_ble_eq_true rfl, Nat.le_of_ble_eq_true rfl, Nat.le_of_ble_eq_true rfl, Nat.le_of_ble_eq_true rfl⟩ dX10_becomes_274 ?_
                    refine j_iconst X (v := 0) dX10_becomes_277 (by decide) ?_
                    refine j_istore X (L' := [(6, .int 0), (5, .int v29), (0, .ref b), (1, .int p), (2, .int s), (3, .int d), (4, .int pr)]) dX10_becomes_278 (by decide) rfl ?_
                    have hIb : MIv (mTo (mLn (msc μ 2 0) p s) p 4 ((mOf (mLn (msc μ 2 0) p s) p 4) + 1)) := (mi_to hp ⟨4, by decide, by decide, by decide, rfl⟩ (mi_ln hp hs (mi_msc hI)))
                    have loop280 : ∀ (n k : Nat), k + n = 8 → J P l E { frames := 2, cells := 0, slots := 0, locals := 48 } S0 M0 AR BL ME CO D B 7 (MQ BL (QC (some (.int ((mBec μ p s d pr).1))) D B (z + 0) (mput D h b ((mBec μ p s d pr).2))) AR S0 0 0 (aB B)) 0 0 z (mput D h b (mFl (mTo (mLn (msc μ 2 0) p s) p 4 ((mOf (mLn (msc μ 2 0) p s) p 4) + 1)) p s d pr k)) [(0, .ref b), (1, .int p), (2, .int s), (3, .int d), (4, .int pr), (5, .int v29), (6, .int (nI k))] [] 280 := by
                      intro n
                      induction n with
                      | zero =>
                        intro k hk
                        obtain rfl : k = 8 := by omega
                        refine j_iload X 6 dX10_becomes_280 rfl ?_
                        refine j_bipush X (v := 8) dX10_becomes_282 (by decide) ?_
                        refine j_icmp_ge X (tgt := 331) dX10_becomes_284 (by decide) (fun c_284 => ?_) (fun c_284 => absurd c_284 (by decide))
                        refine j_iconst X (v := 3) dX10_becomes_331 (by decide) ?_
                        exact j_iret X hr rfl (by subst ev29; first | (rw [mBec, if_neg c_10, if_pos c_25, if_pos c_41, mB2, if_pos c_127, if_neg c_136, mB3, if_neg c_173, mB4, if_neg c_198, if_pos c_205, mB5, if_pos c_252]; done) | (rw [mBec, if_neg c_10, if_pos c_25, if_pos c_41, mB2, if_pos c_127, if_neg c_136, mB3, if_neg c_173, mB4, if_neg c_198, if_pos c_205, mB5, if_pos c_252]; rfl)) rfl (by subst ev29; first | (rw [mBec, if_neg c_10, if_pos c_25, if_pos c_41, mB2, if_pos c_127, if_neg c_136, mB3, if_neg c_173, mB4, if_neg c_198, if_pos c_205, mB5, if_pos c_252]; done) | (rw [mBec, if_neg c_10, if_pos c_25, if_pos c_41, mB2, if_pos c_127, if_neg c_136, mB3, if_neg c_173, mB4, if_neg c_198, if_pos c_205, mB5, if_pos c_252]; rfl)) dX10_becomes_332
                      | succ n ih =>
                        intro k hk
                        have hlt : nI k < 8 := nlt_lit (b := 8) (by omega) (by decide)
                        refine j_iload X 6 dX10_becomes_280 rfl ?_
                        refine j_bipush X (v := 8) dX10_becomes_282 (by decide) ?_
                        refine j_icmp_ge X (tgt := 331) dX10_becomes_284 (by decide) (fun c_284 => absurd hlt c_284) (fun c_284 => ?_)
                        refine j_iload X 6 dX10_becomes_287 rfl ?_
                        refine j_iload_n X 1 dX10_becomes_289 rfl rfl ?_
                        refine j_icmp_eq X (tgt := 325) dX10_becomes_290 (by decide) (fun c_290 => ?_) (fun c_290 => ?_)
                        · obtain ⟨v30, ev30⟩ : ∃ y : Int32, (nI k) + 1 = y := ⟨_, rfl⟩
                          refine j_iinc X 6 (k := 1) (v := v30) (L' := [(6, .int v30), (0, .ref b), (1, .int p), (2, .int s), (3, .int d), (4, .int pr), (5, .int v29)]) dX10_becomes_325 rfl (by decide) (by decide) ev30 rfl ?_
                          refine j_goto X (tgt := 280) dX10_becomes_328 (by decide) ?_
                          refine j_sub [1, 2, 3, 4, 5, 6, 0] (L' := [(0, .ref b), (1, .int p), (2, .int s), (3, .int d), (4, .int pr), (5, .int v29), (6, .int (nI (k + 1)))]) (by subst ev30 ev29; first | with_reducible rfl | (simp only [mFl, nI_succ k, if_neg c_10, if_pos c_25, if_pos c_41, if_pos c_127, if_neg c_136, if_neg c_173, if_neg c_198, if_pos c_205, if_pos c_252, if_pos c_284, if_pos c_290]; done) | (simp only [mFl, nI_succ k, if_neg c_10, if_pos c_25, if_pos c_41, if_pos c_127, if_neg c_136, if_neg c_173, if_neg c_198, if_pos c_205, if_pos c_252, if_pos c_284, if_pos c_290]; rfl) | rfl) ?_
                          refine j_heap (h' := mput D h b (mFl (mTo (mLn (msc μ 2 0) p s) p 4 ((mOf (mLn (msc μ 2 0) p s) p 4) + 1)) p s d pr (k + 1))) (by subst ev30 ev29; first | with_reducible rfl | (simp only [mFl, nI_succ k, if_neg c_10, if_pos c_25, if_pos c_41, if_pos c_127, if_neg c_136, if_neg c_173, if_neg c_198, if_pos c_205, if_pos c_252, if_pos c_284, if_pos c_290]; done) | (simp only [mFl, nI_succ k, if_neg c_10, if_pos c_25, if_pos c_41, if_pos c_127, if_neg c_136, if_neg c_173, if_neg c_198, if_pos c_205, if_pos c_252, if_pos c_284, if_pos c_290]; rfl) | rfl) ?_
                          exact ih (k + 1) (by omega)
                        · refine j_aload_n X 0 dX10_becomes_293 rfl rfl ?_
                          refine j_iload X 6 dX10_becomes_294 rfl ?_
                          refine j_callVi X (rest := []) (c_X10_isOpen l (po_nI (by omega))) m_yX10_isOpen kM_RX10_48 mput_0 rfl rfl rfl rfl rfl (Nat.le_of_ble_eq_true rfl) ⟨Nat.le_of_ble_eq_true rfl, Nat.le_of_ble_eq_true rfl, Nat.le_of_ble_eq_true rfl, Nat.le_of_ble_eq_true rfl⟩ dX10_becomes_296 ?_
                          refine j_if_eq X (tgt := 325) dX10_becomes_299 (by decide) (fun c_299 => ?_) (fun c_299 => ?_)
                          · obtain ⟨v31, ev31⟩ : ∃ y : Int32, (nI k) + 1 = y := ⟨_, rfl⟩
                            refine j_iinc X 6 (k := 1) (v := v31) (L' := [(6, .int v31), (0, .ref b), (1, .int p), (2, .int s), (3, .int d), (4, .int pr), (5, .int v29)]) dX10_becomes_325 rfl (by decide) (by decide) ev31 rfl ?_
                            refine j_goto X (tgt := 280) dX10_becomes_328 (by decide) ?_
                            refine j_sub [1, 2, 3, 4, 5, 6, 0] (L' := [(0, .ref b), (1, .int p), (2, .int s), (3, .int d), (4, .int pr), (5, .int v29), (6, .int (nI (k + 1)))]) (by subst ev31 ev29; first | with_reducible rfl | (simp only [mFl, nI_succ k, if_neg c_10, if_pos c_25, if_pos c_41, if_pos c_127, if_neg c_136, if_neg c_173, if_neg c_198, if_pos c_205, if_pos c_252, if_pos c_284, if_neg c_290, if_pos c_299]; done) | (simp only [mFl, nI_succ k, if_neg c_10, if_pos c_25, if_pos c_41, if_pos c_127, if_neg c_136, if_neg c_173, if_neg c_198, if_pos c_205, if_pos c_252, if_pos c_284, if_neg c_290, if_pos c_299]; rfl) | rfl) ?_
                            refine j_heap (h' := mput D h b (mFl (mTo (mLn (msc μ 2 0) p s) p 4 ((mOf (mLn (msc μ 2 0) p s) p 4) + 1)) p s d pr (k + 1))) (by subst ev31 ev29; first | with_reducible rfl | (simp only [mFl, nI_succ k, if_neg c_10, if_pos c_25, if_pos c_41, if_pos c_127, if_neg c_136, if_neg c_173, if_neg c_198, if_pos c_205, if_pos c_252, if_pos c_284, if_neg c_290, if_pos c_299]; done) | (simp only [mFl, nI_succ k, if_neg c_10, if_pos c_25, if_pos c_41, if_pos c_127, if_neg c_136, if_neg c_173, if_neg c_198, if_pos c_205, if_pos c_252, if_pos c_284, if_neg c_290, if_pos c_299]; rfl) | rfl) ?_
                            exact ih (k + 1) (by omega)
                          · refine j_aload_n X 0 dX10_becomes_302 rfl rfl ?_
                            refine j_dup X dX10_becomes_303 rfl ?_
                            refine j_get X fG_RX10_87 mput_0 rfl rfl dX10_becomes_304 ?_
                            refine j_iconst X (v := 1) dX10_becomes_307 (by decide) ?_
                            refine j_iload X 6 dX10_becomes_308 rfl ?_
                            refine j_ishl X dX10_becomes_310 ?_
                            refine j_ior X dX10_becomes_311 ?_
                            refine j_put X fG_RX10_87 fW_10_6 mput_0 rfl rfl rfl (Nat.le_of_ble_eq_true rfl) dX10_becomes_312 ?_
                            refine j_heap (h' := mput D h b (msc (mFl (mTo (mLn (msc μ 2 0) p s) p 4 ((mOf (mLn (msc μ 2 0) p s) p 4) + 1)) p s d pr k) 2 (((mFl (mTo (mLn (msc μ 2 0) p s) p 4 ((mOf (mLn (msc μ 2 0) p s) p 4) + 1)) p s d pr k).1 2) ||| (1 <<< ((nI k) &&& 31))))) mput_s2 ?_
                            refine j_aload_n X 0 dX10_becomes_315 rfl rfl ?_
                            refine j_iload X 6 dX10_becomes_316 rfl ?_
                            refine j_iload_n X 2 dX10_becomes_318 rfl rfl ?_
                            refine j_iload_n X 3 dX10_becomes_319 rfl rfl ?_
                            refine j_iload X 4 dX10_becomes_320 rfl ?_
                            refine j_callVv X (rest := []) (c_X10_goesOut l (po_nI (by omega)) (mi_many (po_nI (by omega)) (mi_msc (mi_fl hIb _ (by omega))))) m_yX10_goesOut kM_RX10_102 mput_0 rfl rfl rfl rfl rfl (Nat.le_of_ble_eq_true rfl) ⟨Nat.le_of_ble_eq_true rfl, Nat.le_of_ble_eq_true rfl, Nat.le_of_ble_eq_true rfl, Nat.le_of_ble_eq_true rfl⟩ dX10_becomes_322 ?_
                            obtain ⟨v32, ev32⟩ : ∃ y : Int32, (nI k) + 1 = y := ⟨_, rfl⟩
                            refine j_iinc X 6 (k := 1) (v := v32) (L' := [(6, .int v32), (0, .ref b), (1, .int p), (2, .int s), (3, .int d), (4, .int pr), (5, .int v29)]) dX10_becomes_325 rfl (by decide) (by decide) ev32 rfl ?_
                            refine j_goto X (tgt := 280) dX10_becomes_328 (by decide) ?_
                            refine j_sub [1, 2, 3, 4, 5, 6, 0] (L' := [(0, .ref b), (1, .int p), (2, .int s), (3, .int d), (4, .int pr), (5, .int v29), (6, .int (nI (k + 1)))]) (by subst ev32 ev29; first | with_reducible rfl | (simp only [mFl, nI_succ k, if_neg c_10, if_pos c_25, if_pos c_41, if_pos c_127, if_neg c_136, if_neg c_173, if_neg c_198, if_pos c_205, if_pos c_252, if_pos c_284, if_neg c_290, if_neg c_299]; done) | (simp only [mFl, nI_succ k, if_neg c_10, if_pos c_25, if_pos c_41, if_pos c_127, if_neg c_136, if_neg c_173, if_neg c_198, if_pos c_205, if_pos c_252, if_pos c_284, if_neg c_290, if_neg c_299]; rfl) | rfl) ?_
                            refine j_heap (h' := mput D h b (mFl (mTo (mLn (msc μ 2 0) p s) p 4 ((mOf (mLn (msc μ 2 0) p s) p 4) + 1)) p s d pr (k + 1))) (by subst ev32 ev29; first | with_reducible rfl | (simp only [mFl, nI_succ k, if_neg c_10, if_pos c_25, if_pos c_41, if_pos c_127, if_neg c_136, if_neg c_173, if_neg c_198, if_pos c_205, if_pos c_252, if_pos c_284, if_neg c_290, if_neg c_299]; done) | (simp only [mFl, nI_succ k, if_neg c_10, if_pos c_25, if_pos c_41, if_pos c_127, if_neg c_136, if_neg c_173, if_neg c_198, if_pos c_205, if_pos c_252, if_pos c_284, if_neg c_290, if_neg c_299]; rfl) | rfl) ?_
                            exact ih (k + 1) (by omega)
                    refine j_sub [2, 3, 4, 5, 6, 1, 0] (L' := [(0, .ref b), (1, .int p), (2, .int s), (3, .int d), (4, .int pr), (5, .int v29), (6, .int (nI 0))]) (by subst ev29; first | with_reducible rfl | (simp only [mFl, if_neg c_10, if_pos c_25, if_pos c_41, if_pos c_127, if_neg c_136, if_neg c_173, if_neg c_198, if_pos c_205, if_pos c_252]; done) | (simp only [mFl, if_neg c_10, if_pos c_25, if_pos c_41, if_pos c_127, if_neg c_136, if_neg c_173, if_neg c_198, if_pos c_205, if_pos c_252]; rfl) | rfl) ?_
                    refine j_heap (h' := mput D h b (mFl (mTo (mLn (msc μ 2 0) p s) p 4 ((mOf (mLn (msc μ 2 0) p s) p 4) + 1)) p s d pr 0)) (by subst ev29; first | with_reducible rfl | (simp only [mFl, if_neg c_10, if_pos c_25, if_pos c_41, if_pos c_127, if_neg c_136, if_neg c_173, if_neg c_198, if_pos c_205, if_pos c_252]; done) | (simp only [mFl, if_neg c_10, if_pos c_25, if_pos c_41, if_pos c_127, if_neg c_136, if_neg c_173, if_neg c_198, if_pos c_205, if_pos c_252]; rfl) | rfl) ?_
                    exact loop280 8 0 rfl
                  · refine j_aload_n X 1 dX10_becomes_255 rfl rfl ?_
                    refine j_iload_n X 2 dX10_becomes_256 rfl rfl ?_
                    refine j_iconst X (v := 2) dX10_becomes_257 (by decide) ?_
                    refine j_callVv X (rest := []) (c_X10_quarantine l hp) m_yX10_quarantine kM_RX10_93 mput_0 rfl rfl rfl rfl rfl (Nat.le_of_ble_eq_true rfl) ⟨Nat.le_of_ble_eq_true rfl, Nat.le_of_ble_eq_true rfl, Nat.le_of_ble_eq_true rfl, Nat.le_of_ble_eq_true rfl⟩ dX10_becomes_258 ?_
                    refine j_iconst X (v := 5) dX10_becomes_261 (by decide) ?_
                    exact j_iret X hr rfl (by subst ev29; first | (rw [mBec, if_neg c_10, if_pos c_25, if_pos c_41, mB2, if_pos c_127, if_neg c_136, mB3, if_neg c_173, mB4, if_neg c_198, if_pos c_205, mB5, if_neg c_252]; done) | (rw [mBec, if_neg c_10, if_pos c_25, if_pos c_41, mB2, if_pos c_127, if_neg c_136, mB3, if_neg c_173, mB4, if_neg c_198, if_pos c_205, mB5, if_neg c_252]; rfl)) rfl (by subst ev29; first | (rw [mBec, if_neg c_10, if_pos c_25, if_pos c_41, mB2, if_pos c_127, if_neg c_136, mB3, if_neg c_173, mB4, if_neg c_198, if_pos c_205, mB5, if_neg c_252]; done) | (rw [mBec, if_neg c_10, if_pos c_25, if_pos c_41, mB2, if_pos c_127, if_neg c_136, mB3, if_neg c_173, mB4, if_neg c_198, if_pos c_205, mB5, if_neg c_252]; rfl)) dX10_becomes_262
                · have hpt : PO v29 := po_pred (mi_tabv hd (mi_ln hp hs (mi_msc hI))) ev29 c_205
                  refine j_aload_n X 1 dX10_becomes_208 rfl rfl ?_
                  refine j_iload X 0 dX10_becomes_209 rfl ?_
                  refine j_callVi X (rest := []) (c_X10_isOpen l hpt) m_yX10_isOpen kM_RX10_48 mput_0 rfl rfl rfl rfl rfl (Nat.le_of_ble_eq_true rfl) ⟨Nat.le_of_ble_eq_true rfl, Nat.le_of_ble_eq_true rfl, Nat.le_of_ble_eq_true rfl, Nat.le_of_ble_eq_true rfl⟩ dX10_becomes_211 ?_
                  refine j_if_ne X (tgt := 220) dX10_becomes_214 (by decide) (fun c_214 => ?_) (fun c_214 => ?_)
                  · refine j_aload_n X 1 dX10_becomes_220 rfl rfl ?_
                    refine j_iconst X (v := 1) dX10_becomes_221 (by decide) ?_
                    refine j_iload X 0 dX10_becomes_222 rfl ?_
                    refine j_ishl X dX10_becomes_224 ?_
                    refine j_put X fG_RX10_87 fW_10_6 mput_0 rfl rfl rfl (Nat.le_of_ble_eq_true rfl) dX10_becomes_225 ?_
                    refine j_heap (h' := mput D h b (msc (mLn (msc μ 2 0) p s) 2 (1 <<< (v29 &&& 31)))) mput_s2 ?_
                    refine j_aload_n X 1 dX10_becomes_228 rfl rfl ?_
                    refine j_iload X 0 dX10_becomes_229 rfl ?_
                    refine j_iload_n X 3 dX10_becomes_231 rfl rfl ?_
                    refine j_iload_n X 4 dX10_becomes_232 rfl rfl ?_
                    refine j_iload X 5 dX10_becomes_233 rfl ?_
                    refine j_callVv X (rest := []) (c_X10_goesOut l hpt (mi_many hpt (mi_msc (mi_ln hp hs (mi_msc hI))))) m_yX10_goesOut kM_RX10_102 mput_0 rfl rfl rfl rfl rfl (Nat.le_of_ble_eq_true rfl) ⟨Nat.le_of_ble_eq_true rfl, Nat.le_of_ble_eq_true rfl, Nat.le_of_ble_eq_true rfl, Nat.le_of_ble_eq_true rfl⟩ dX10_becomes_235 ?_
                    refine j_iconst X (v := 2) dX10_becomes_238 (by decide) ?_
                    exact j_iret X hr rfl (by subst ev29; first | (rw [mBec, if_neg c_10, if_pos c_25, if_pos c_41, mB2, if_pos c_127, if_neg c_136, mB3, if_neg c_173, mB4, if_neg c_198, if_neg c_205, if_neg c_214]; done) | (rw [mBec, if_neg c_10, if_pos c_25, if_pos c_41, mB2, if_pos c_127, if_neg c_136, mB3, if_neg c_173, mB4, if_neg c_198, if_neg c_205, if_neg c_214]; rfl)) rfl (by subst ev29; first | (rw [mBec, if_neg c_10, if_pos c_25, if_pos c_41, mB2, if_pos c_127, if_neg c_136, mB3, if_neg c_173, mB4, if_neg c_198, if_neg c_205, if_neg c_214]; done) | (rw [mBec, if_neg c_10, if_pos c_25, if_pos c_41, mB2, if_pos c_127, if_neg c_136, mB3, if_neg c_173, mB4, if_neg c_198, if_neg c_205, if_neg c_214]; rfl)) dX10_becomes_239
                  · refine j_bipush X (v := 6) dX10_becomes_217 (by decide) ?_
                    exact j_iret X hr rfl (by subst ev29; first | (rw [mBec, if_neg c_10, if_pos c_25, if_pos c_41, mB2, if_pos c_127, if_neg c_136, mB3, if_neg c_173, mB4, if_neg c_198, if_neg c_205, if_pos c_214]; done) | (rw [mBec, if_neg c_10, if_pos c_25, if_pos c_41, mB2, if_pos c_127, if_neg c_136, mB3, if_neg c_173, mB4, if_neg c_198, if_neg c_205, if_pos c_214]; rfl)) rfl (by subst ev29; first | (rw [mBec, if_neg c_10, if_pos c_25, if_pos c_41, mB2, if_pos c_127, if_neg c_136, mB3, if_neg c_173, mB4, if_neg c_198, if_neg c_205, if_pos c_214]; done) | (rw [mBec, if_neg c_10, if_pos c_25, if_pos c_41, mB2, if_pos c_127, if_neg c_136, mB3, if_neg c_173, mB4, if_neg c_198, if_neg c_205, if_pos c_214]; rfl)) dX10_becomes_219
              · refine j_iconst X (v := 1) dX10_becomes_201 (by decide) ?_
                exact j_iret X hr rfl (by subst ev29; first | (rw [mBec, if_neg c_10, if_pos c_25, if_pos c_41, mB2, if_pos c_127, if_neg c_136, mB3, if_neg c_173, mB4, if_pos c_198]; done) | (rw [mBec, if_neg c_10, if_pos c_25, if_pos c_41, mB2, if_pos c_127, if_neg c_136, mB3, if_neg c_173, mB4, if_pos c_198]; rfl)) rfl (by subst ev29; first | (rw [mBec, if_neg c_10, if_pos c_25, if_pos c_41, mB2, if_pos c_127, if_neg c_136, mB3, if_neg c_173, mB4, if_pos c_198]; done) | (rw [mBec, if_neg c_10, if_pos c_25, if_pos c_41, mB2, if_pos c_127, if_neg c_136, mB3, if_neg c_173, mB4, if_pos c_198]; rfl)) dX10_becomes_202
            · refine j_bipush X (v := (-4)) dX10_becomes_176 (by decide) ?_
              refine j_goto X (tgt := 193) dX10_becomes_178 (by decide) ?_
              refine j_istore X (L' := [(5, .int (-4)), (0, .ref b), (1, .int p), (2, .int s), (3, .int d), (4, .int pr)]) dX10_becomes_193 (by decide) rfl ?_
              refine j_iload X 0 dX10_becomes_195 rfl ?_
              refine j_iload_n X 2 dX10_becomes_197 rfl rfl ?_
              refine j_icmp_ne X (tgt := 203) dX10_becomes_198 (by decide) (fun c_198 => ?_) (fun c_198 => ?_)
              · refine j_iload X 0 dX10_becomes_203 rfl ?_
                refine j_if_lt X (tgt := 240) dX10_becomes_205 (by decide) (fun _ => ?_) (fun c_ => absurd (by decide) c_)
                refine j_aload_n X 1 dX10_becomes_240 rfl rfl ?_
                refine j_iload_n X 2 dX10_becomes_241 rfl rfl ?_
                refine j_iconst X (v := 4) dX10_becomes_242 (by decide) ?_
                refine j_callVi X (rest := []) (c_X10_of l hp (show WH 4 _ from ⟨4, by decide, rfl⟩)) m_yX10_of kM_RX10_44 mput_0 rfl rfl rfl rfl rfl (Nat.le_of_ble_eq_true rfl) ⟨Nat.le_of_ble_eq_true rfl, Nat.le_of_ble_eq_true rfl, Nat.le_of_ble_eq_true rfl, Nat.le_of_ble_eq_true rfl⟩ dX10_becomes_243 ?_
                refine j_aload_n X 1 dX10_becomes_246 rfl rfl ?_
                refine j_get X fG_RX10_7 mput_0 rfl rfl dX10_becomes_247 ?_
                refine j_iconst X (v := 2) dX10_becomes_250 (by decide) ?_
                refine j_ldM X (vp_in_nI (n := 2) (by decide) (by decide)) dX10_becomes_251 ?_
                refine j_icmp_lt X (tgt := 263) dX10_becomes_252 (by decide) (fun c_252 => ?_) (fun c_252 => ?_)
                · refine j_aload_n X 1 dX10_becomes_263 rfl rfl ?_
                  refine j_iload_n X 2 dX10_becomes_264 rfl rfl ?_
                  refine j_iconst X (v := 4) dX10_becomes_265 (by decide) ?_
                  refine j_aload_n X 1 dX10_becomes_266 rfl rfl ?_
                  refine j_iload_n X 2 dX10_becomes_267 rfl rfl ?_
                  refine j_iconst X (v := 4) dX10_becomes_268 (by decide) ?_
                  refine j_callVi X (rest := [.int 4, .int p, .ref b]) (c_X10_of l hp (show WH 4 _ from ⟨4, by decide, rfl⟩)) m_yX10_of kM_RX10_44 mput_0 rfl rfl rfl rfl rfl (Nat.le_of_ble_eq_true rfl) ⟨Nat.le_of_ble_eq_true rfl, Nat.le_of_ble_eq_true rfl, Nat.le_of_ble_eq_true rfl, Nat.le_of_ble_eq_true rfl⟩ dX10_becomes_269 ?_
                  refine j_iconst X (v := 1) dX10_becomes_272 (by decide) ?_
                  refine j_iadd X dX10_becomes_273 ?_
                  refine j_callVv X (rest := []) (c_X10_to l hp (show WH 4 _ from ⟨4, by decide, rfl⟩)) m_yX10_to kM_RX10_32 mput_0 rfl rfl rfl rfl rfl (Nat.le_of_ble_eq_true rfl) ⟨Nat.le_of_ble_eq_true rfl, Nat.le_of_ble_eq_true rfl, Nat.le_of_ble_eq_true rfl, Nat.le_of_ble_eq_true rfl⟩ dX10_becomes_274 ?_
                  refine j_iconst X (v := 0) dX10_becomes_277 (by decide) ?_
                  refine j_istore X (L' := [(6, .int 0), (5, .int (-4)), (0, .ref b), (1, .int p), (2, .int s), (3, .int d), (4, .int pr)]) dX10_becomes_278 (by decide) rfl ?_
                  have hIb : MIv (mTo (mLn (msc μ 2 0) p s) p 4 ((mOf (mLn (msc μ 2 0) p s) p 4) + 1)) := (mi_to hp ⟨4, by decide, by decide, by decide, rfl⟩ (mi_ln hp hs (mi_msc hI)))
                  have loop280 : ∀ (n k : Nat), k + n = 8 → J P l E { frames := 2, cells := 0, slots := 0, locals := 48 } S0 M0 AR BL ME CO D B 7 (MQ BL (QC (some (.int ((mBec μ p s d pr).1))) D B (z + 0) (mput D h b ((mBec μ p s d pr).2))) AR S0 0 0 (aB B)) 0 0 z (mput D h b (mFl (mTo (mLn (msc μ 2 0) p s) p 4 ((mOf (mLn (msc μ 2 0) p s) p 4) + 1)) p s d pr k)) [(0, .ref b), (1, .int p), (2, .int s), (3, .int d), (4, .int pr), (5, .int (-4)), (6, .int (nI k))] [] 280 := by
                    intro n
                    induction n with
                    | zero =>
                      intro k hk
                      obtain rfl : k = 8 := by omega
                      refine j_iload X 6 dX10_becomes_280 rfl ?_
                      refine j_bipush X (v := 8) dX10_becomes_282 (by decide) ?_
                      refine j_icmp_ge X (tgt := 331) dX10_becomes_284 (by decide) (fun c_284 => ?_) (fun c_284 => absurd c_284 (by decide))
                      refine j_iconst X (v := 3) dX10_becomes_331 (by decide) ?_
                      exact j_iret X hr rfl (by first | (rw [mBec, if_neg c_10, if_pos c_25, if_pos c_41, mB2, if_pos c_127, if_neg c_136, mB3, if_pos c_173, mB4, if_neg c_198, if_pos (show (-4 : Int32) < 0 by decide), mB5, if_pos c_252]; done) | (rw [mBec, if_neg c_10, if_pos c_25, if_pos c_41, mB2, if_pos c_127, if_neg c_136, mB3, if_pos c_173, mB4, if_neg c_198, if_pos (show (-4 : Int32) < 0 by decide), mB5, if_pos c_252]; rfl)) rfl (by first | (rw [mBec, if_neg c_10, if_pos c_25, if_pos c_41, mB2, if_pos c_127, if_neg c_136, mB3, if_pos c_173, mB4, if_neg c_198, if_pos (show (-4 : Int32) < 0 by decide), mB5, if_pos c_252]; done) | (rw [mBec, if_neg c_10, if_pos c_25, if_pos c_41, mB2, if_pos c_127, if_neg c_136, mB3, if_pos c_173, mB4, if_neg c_198, if_pos (show (-4 : Int32) < 0 by decide), mB5, if_pos c_252]; rfl)) dX10_becomes_332
                    | succ n ih =>
                      intro k hk
                      have hlt : nI k < 8 := nlt_lit (b := 8) (by omega) (by decide)
                      refine j_iload X 6 dX10_becomes_280 rfl ?_
                      refine j_bipush X (v := 8) dX10_becomes_282 (by decide) ?_
                      refine j_icmp_ge X (tgt := 331) dX10_becomes_284 (by decide) (fun c_284 => absurd hlt c_284) (fun c_284 => ?_)
                      refine j_iload X 6 dX10_becomes_287 rfl ?_
                      refine j_iload_n X 1 dX10_becomes_289 rfl rfl ?_
                      refine j_icmp_eq X (tgt := 325) dX10_becomes_290 (by decide) (fun c_290 => ?_) (fun c_290 => ?_)
                      · obtain ⟨v33, ev33⟩ : ∃ y : Int32, (nI k) + 1 = y := ⟨_, rfl⟩
                        refine j_iinc X 6 (k := 1) (v := v33) (L' := [(6, .int v33), (0, .ref b), (1, .int p), (2, .int s), (3, .int d), (4, .int pr), (5, .int (-4))]) dX10_becomes_325 rfl (by decide) (by decide) ev33 rfl ?_
                        refine j_goto X (tgt := 280) dX10_becomes_328 (by decide) ?_
                        refine j_sub [1, 2, 3, 4, 5, 6, 0] (L' := [(0, .ref b), (1, .int p), (2, .int s), (3, .int d), (4, .int pr), (5, .int (-4)), (6, .int (nI (k + 1)))]) (by subst ev33; first | with_reducible rfl | (simp only [mFl, nI_succ k, if_neg c_10, if_pos c_25, if_pos c_41, if_pos c_127, if_neg c_136, if_pos c_173, if_neg c_198, if_pos c_252, if_pos c_284, if_pos c_290]; done) | (simp only [mFl, nI_succ k, if_neg c_10, if_pos c_25, if_pos c_41, if_pos c_127, if_neg c_136, if_pos c_173, if_neg c_198, if_pos c_252, if_pos c_284, if_pos c_290]; rfl) | rfl) ?_
                        refine j_heap (h' := mput D h b (mFl (mTo (mLn (msc μ 2 0) p s) p 4 ((mOf (mLn (msc μ 2 0) p s) p 4) + 1)) p s d pr (k + 1))) (by subst ev33; first | with_reducible rfl | (simp only [mFl, nI_succ k, if_neg c_10, if_pos c_25, if_pos c_41, if_pos c_127, if_neg c_136, if_pos c_173, if_neg c_198, if_pos c_252, if_pos c_284, if_pos c_290]; done) | (simp only [mFl, nI_succ k, if_neg c_10, if_pos c_25, if_pos c_41, if_pos c_127, if_neg c_136, if_pos c_173, if_neg c_198, if_pos c_252, if_pos c_284, if_pos c_290]; rfl) | rfl) ?_
                        exact ih (k + 1) (by omega)
                      · refine j_aload_n X 0 dX10_becomes_293 rfl rfl ?_
                        refine j_iload X 6 dX10_becomes_294 rfl ?_
                        refine j_callVi X (rest := []) (c_X10_isOpen l (po_nI (by omega))) m_yX10_isOpen kM_RX10_48 mput_0 rfl rfl rfl rfl rfl (Nat.le_of_ble_eq_true rfl) ⟨Nat.le_of_ble_eq_true rfl, Nat.le_of_ble_eq_true rfl, Nat.le_of_ble_eq_true rfl, Nat.le_of_ble_eq_true rfl⟩ dX10_becomes_296 ?_
                        refine j_if_eq X (tgt := 325) dX10_becomes_299 (by decide) (fun c_299 => ?_) (fun c_299 => ?_)
                        · obtain ⟨v34, ev34⟩ : ∃ y : Int32, (nI k) + 1 = y := ⟨_, rfl⟩
                          refine j_iinc X 6 (k := 1) (v := v34) (L' := [(6, .int v34), (0, .ref b), (1, .int p), (2, .int s), (3, .int d), (4, .int pr), (5, .int (-4))]) dX10_becomes_325 rfl (by decide) (by decide) ev34 rfl ?_
                          refine j_goto X (tgt := 280) dX10_becomes_328 (by decide) ?_
                          refine j_sub [1, 2, 3, 4, 5, 6, 0] (L' := [(0, .ref b), (1, .int p), (2, .int s), (3, .int d), (4, .int pr), (5, .int (-4)), (6, .int (nI (k + 1)))]) (by subst ev34; first | with_reducible rfl | (simp only [mFl, nI_succ k, if_neg c_10, if_pos c_25, if_pos c_41, if_pos c_127, if_neg c_136, if_pos c_173, if_neg c_198, if_pos c_252, if_pos c_284, if_neg c_290, if_pos c_299]; done) | (simp only [mFl, nI_succ k, if_neg c_10, if_pos c_25, if_pos c_41, if_pos c_127, if_neg c_136, if_pos c_173, if_neg c_198, if_pos c_252, if_pos c_284, if_neg c_290, if_pos c_299]; rfl) | rfl) ?_
                          refine j_heap (h' := mput D h b (mFl (mTo (mLn (msc μ 2 0) p s) p 4 ((mOf (mLn (msc μ 2 0) p s) p 4) + 1)) p s d pr (k + 1))) (by subst ev34; first | with_reducible rfl | (simp only [mFl, nI_succ k, if_neg c_10, if_pos c_25, if_pos c_41, if_pos c_127, if_neg c_136, if_pos c_173, if_neg c_198, if_pos c_252, if_pos c_284, if_neg c_290, if_pos c_299]; done) | (simp only [mFl, nI_succ k, if_neg c_10, if_pos c_25, if_pos c_41, if_pos c_127, if_neg c_136, if_pos c_173, if_neg c_198, if_pos c_252, if_pos c_284, if_neg c_290, if_pos c_299]; rfl) | rfl) ?_
                          exact ih (k + 1) (by omega)
                        · refine j_aload_n X 0 dX10_becomes_302 rfl rfl ?_
                          refine j_dup X dX10_becomes_303 rfl ?_
                          refine j_get X fG_RX10_87 mput_0 rfl rfl dX10_becomes_304 ?_
                          refine j_iconst X (v := 1) dX10_becomes_307 (by decide) ?_
                          refine j_iload X 6 dX10_becomes_308 rfl ?_
                          refine j_ishl X dX10_becomes_310 ?_
                          refine j_ior X dX10_becomes_311 ?_
                          refine j_put X fG_RX10_87 fW_10_6 mput_0 rfl rfl rfl (Nat.le_of_ble_eq_true rfl) dX10_becomes_312 ?_
                          refine j_heap (h' := mput D h b (msc (mFl (mTo (mLn (msc μ 2 0) p s) p 4 ((mOf (mLn (msc μ 2 0) p s) p 4) + 1)) p s d pr k) 2 (((mFl (mTo (mLn (msc μ 2 0) p s) p 4 ((mOf (mLn (msc μ 2 0) p s) p 4) + 1)) p s d pr k).1 2) ||| (1 <<< ((nI k) &&& 31))))) mput_s2 ?_
                          refine j_aload_n X 0 dX10_becomes_315 rfl rfl ?_
                          refine j_iload X 6 dX10_becomes_316 rfl ?_
                          refine j_iload_n X 2 dX10_becomes_318 rfl rfl ?_
                          refine j_iload_n X 3 dX10_becomes_319 rfl rfl ?_
                          refine j_iload X 4 dX10_becomes_320 rfl ?_
                          refine j_callVv X (rest := []) (c_X10_goesOut l (po_nI (by omega)) (mi_many (po_nI (by omega)) (mi_msc (mi_fl hIb _ (by omega))))) m_yX10_goesOut kM_RX10_102 mput_0 rfl rfl rfl rfl rfl (Nat.le_of_ble_eq_true rfl) ⟨Nat.le_of_ble_eq_true rfl, Nat.le_of_ble_eq_true rfl, Nat.le_of_ble_eq_true rfl, Nat.le_of_ble_eq_true rfl⟩ dX10_becomes_322 ?_
                          obtain ⟨v35, ev35⟩ : ∃ y : Int32, (nI k) + 1 = y := ⟨_, rfl⟩
                          refine j_iinc X 6 (k := 1) (v := v35) (L' := [(6, .int v35), (0, .ref b), (1, .int p), (2, .int s), (3, .int d), (4, .int pr), (5, .int (-4))]) dX10_becomes_325 rfl (by decide) (by decide) ev35 rfl ?_
                          refine j_goto X (tgt := 280) dX10_becomes_328 (by decide) ?_
                          refine j_sub [1, 2, 3, 4, 5, 6, 0] (L' := [(0, .ref b), (1, .int p), (2, .int s), (3, .int d), (4, .int pr), (5, .int (-4)), (6, .int (nI (k + 1)))]) (by subst ev35; first | with_reducible rfl | (simp only [mFl, nI_succ k, if_neg c_10, if_pos c_25, if_pos c_41, if_pos c_127, if_neg c_136, if_pos c_173, if_neg c_198, if_pos c_252, if_pos c_284, if_neg c_290, if_neg c_299]; done) | (simp only [mFl, nI_succ k, if_neg c_10, if_pos c_25, if_pos c_41, if_pos c_127, if_neg c_136, if_pos c_173, if_neg c_198, if_pos c_252, if_pos c_284, if_neg c_290, if_neg c_299]; rfl) | rfl) ?_
                          refine j_heap (h' := mput D h b (mFl (mTo (mLn (msc μ 2 0) p s) p 4 ((mOf (mLn (msc μ 2 0) p s) p 4) + 1)) p s d pr (k + 1))) (by subst ev35; first | with_reducible rfl | (simp only [mFl, nI_succ k, if_neg c_10, if_pos c_25, if_pos c_41, if_pos c_127, if_neg c_136, if_pos c_173, if_neg c_198, if_pos c_252, if_pos c_284, if_neg c_290, if_neg c_299]; done) | (simp only [mFl, nI_succ k, if_neg c_10, if_pos c_25, if_pos c_41, if_pos c_127, if_neg c_136, if_pos c_173, if_neg c_198, if_pos c_252, if_pos c_284, if_neg c_290, if_neg c_299]; rfl) | rfl) ?_
                          exact ih (k + 1) (by omega)
                  refine j_sub [2, 3, 4, 5, 6, 1, 0] (L' := [(0, .ref b), (1, .int p), (2, .int s), (3, .int d), (4, .int pr), (5, .int (-4)), (6, .int (nI 0))]) (by first | with_reducible rfl | (simp only [mFl, if_neg c_10, if_pos c_25, if_pos c_41, if_pos c_127, if_neg c_136, if_pos c_173, if_neg c_198, if_pos c_252]; done) | (simp only [mFl, if_neg c_10, if_pos c_25, if_pos c_41, if_pos c_127, if_neg c_136, if_pos c_173, if_neg c_198, if_pos c_252]; rfl) | rfl) ?_
                  refine j_heap (h' := mput D h b (mFl (mTo (mLn (msc μ 2 0) p s) p 4 ((mOf (mLn (msc μ 2 0) p s) p 4) + 1)) p s d pr 0)) (by first | with_reducible rfl | (simp only [mFl, if_neg c_10, if_pos c_25, if_pos c_41, if_pos c_127, if_neg c_136, if_pos c_173, if_neg c_198, if_pos c_252]; done) | (simp only [mFl, if_neg c_10, if_pos c_25, if_pos c_41, if_pos c_127, if_neg c_136, if_pos c_173, if_neg c_198, if_pos c_252]; rfl) | rfl) ?_
                  exact loop280 8 0 rfl
                · refine j_aload_n X 1 dX10_becomes_255 rfl rfl ?_
                  refine j_iload_n X 2 dX10_becomes_256 rfl rfl ?_
                  refine j_iconst X (v := 2) dX10_becomes_257 (by decide) ?_
                  refine j_callVv X (rest := []) (c_X10_quarantine l hp) m_yX10_quarantine kM_RX10_93 mput_0 rfl rfl rfl rfl rfl (Nat.le_of_ble_eq_true rfl) ⟨Nat.le_of_ble_eq_true rfl, Nat.le_of_ble_eq_true rfl, Nat.le_of_ble_eq_true rfl, Nat.le_of_ble_eq_true rfl⟩ dX10_becomes_258 ?_
                  refine j_iconst X (v := 5) dX10_becomes_261 (by decide) ?_
                  exact j_iret X hr rfl (by first | (rw [mBec, if_neg c_10, if_pos c_25, if_pos c_41, mB2, if_pos c_127, if_neg c_136, mB3, if_pos c_173, mB4, if_neg c_198, if_pos (show (-4 : Int32) < 0 by decide), mB5, if_neg c_252]; done) | (rw [mBec, if_neg c_10, if_pos c_25, if_pos c_41, mB2, if_pos c_127, if_neg c_136, mB3, if_pos c_173, mB4, if_neg c_198, if_pos (show (-4 : Int32) < 0 by decide), mB5, if_neg c_252]; rfl)) rfl (by first | (rw [mBec, if_neg c_10, if_pos c_25, if_pos c_41, mB2, if_pos c_127, if_neg c_136, mB3, if_pos c_173, mB4, if_neg c_198, if_pos (show (-4 : Int32) < 0 by decide), mB5, if_neg c_252]; done) | (rw [mBec, if_neg c_10, if_pos c_25, if_pos c_41, mB2, if_pos c_127, if_neg c_136, mB3, if_pos c_173, mB4, if_neg c_198, if_pos (show (-4 : Int32) < 0 by decide), mB5, if_neg c_252]; rfl)) dX10_becomes_262
              · refine j_iconst X (v := 1) dX10_becomes_201 (by decide) ?_
                exact j_iret X hr rfl (by first | (rw [mBec, if_neg c_10, if_pos c_25, if_pos c_41, mB2, if_pos c_127, if_neg c_136, mB3, if_pos c_173, mB4, if_pos c_198]; done) | (rw [mBec, if_neg c_10, if_pos c_25, if_pos c_41, mB2, if_pos c_127, if_neg c_136, mB3, if_pos c_173, mB4, if_pos c_198]; rfl)) rfl (by first | (rw [mBec, if_neg c_10, if_pos c_25, if_pos c_41, mB2, if_pos c_127, if_neg c_136, mB3, if_pos c_173, mB4, if_pos c_198]; done) | (rw [mBec, if_neg c_10, if_pos c_25, if_pos c_41, mB2, if_pos c_127, if_neg c_136, mB3, if_pos c_173, mB4, if_pos c_198]; rfl)) dX10_becomes_202
          · refine j_aload_n X 0 dX10_becomes_139 rfl rfl ?_
            refine j_callVv X (rest := []) (c_X10_removeOldest l) m_yX10_removeOldest kM_RX10_99 mput_0 rfl rfl rfl rfl rfl (Nat.le_of_ble_eq_true rfl) ⟨Nat.le_of_ble_eq_true rfl, Nat.le_of_ble_eq_true rfl, Nat.le_of_ble_eq_true rfl, Nat.le_of_ble_eq_true rfl⟩ dX10_becomes_140 ?_
            refine j_aload_n X 0 dX10_becomes_143 rfl rfl ?_
            refine j_get X fG_RX10_7 mput_0 rfl rfl dX10_becomes_144 ?_
            refine j_sipush X (v := 552) dX10_becomes_147 (by decide) ?_
            refine j_iload_n X 2 dX10_becomes_150 rfl rfl ?_
            refine j_iadd X dX10_becomes_151 ?_
            refine j_iload_n X 1 dX10_becomes_152 rfl rfl ?_
            refine j_iconst X (v := 1) dX10_becomes_153 (by decide) ?_
            refine j_iadd X dX10_becomes_154 ?_
            refine j_stM X (in_552 hs) dX10_becomes_155 ?_
            refine j_aload_n X 0 dX10_becomes_156 rfl rfl ?_
            refine j_get X fG_RX10_7 mput_0 rfl rfl dX10_becomes_157 ?_
            refine j_sipush X (v := 652) dX10_becomes_160 (by decide) ?_
            refine j_iload_n X 2 dX10_becomes_163 rfl rfl ?_
            refine j_iadd X dX10_becomes_164 ?_
            refine j_aload_n X 0 dX10_becomes_165 rfl rfl ?_
            refine j_get X fG_RX10_7 mput_0 rfl rfl dX10_becomes_166 ?_
            refine j_iconst X (v := 4) dX10_becomes_169 (by decide) ?_
            refine j_ldM X (vp_in_nI (n := 4) (by decide) (by decide)) dX10_becomes_170 ?_
            refine j_stM X (in_652 hs) dX10_becomes_171 ?_
            refine j_heap (h' := mput D h b (mLn (mRemO (msc μ 2 0)) p s)) rfl ?_
            refine j_iload_n X 3 dX10_becomes_172 rfl rfl ?_
            refine j_if_ne X (tgt := 181) dX10_becomes_173 (by decide) (fun c_173 => ?_) (fun c_173 => ?_)
            · refine j_aload_n X 0 dX10_becomes_181 rfl rfl ?_
              refine j_get X fG_RX10_7 mput_0 rfl rfl dX10_becomes_182 ?_
              refine j_sipush X (v := 552) dX10_becomes_185 (by decide) ?_
              refine j_iload_n X 3 dX10_becomes_188 rfl rfl ?_
              refine j_iadd X dX10_becomes_189 ?_
              refine j_ldM X (in_552 hd) dX10_becomes_190 ?_
              refine j_iconst X (v := 1) dX10_becomes_191 (by decide) ?_
              refine j_isub X dX10_becomes_192 ?_
              refine j_tops (fun v36 ev36 => ?_)
              refine j_istore X (L' := [(5, .int v36), (0, .ref b), (1, .int p), (2, .int s), (3, .int d), (4, .int pr)]) dX10_becomes_193 (by decide) rfl ?_
              refine j_iload X 0 dX10_becomes_195 rfl ?_
              refine j_iload_n X 2 dX10_becomes_197 rfl rfl ?_
              refine j_icmp_ne X (tgt := 203) dX10_becomes_198 (by decide) (fun c_198 => ?_) (fun c_198 => ?_)
              · refine j_iload X 0 dX10_becomes_203 rfl ?_
                refine j_if_lt X (tgt := 240) dX10_becomes_205 (by decide) (fun c_205 => ?_) (fun c_205 => ?_)
                · refine j_aload_n X 1 dX10_becomes_240 rfl rfl ?_
                  refine j_iload_n X 2 dX10_becomes_241 rfl rfl ?_
                  refine j_iconst X (v := 4) dX10_becomes_242 (by decide) ?_
                  refine j_callVi X (rest := []) (c_X10_of l hp (show WH 4 _ from ⟨4, by decide, rfl⟩)) m_yX10_of kM_RX10_44 mput_0 rfl rfl rfl rfl rfl (Nat.le_of_ble_eq_true rfl) ⟨Nat.le_of_ble_eq_true rfl, Nat.le_of_ble_eq_true rfl, Nat.le_of_ble_eq_true rfl, Nat.le_of_ble_eq_true rfl⟩ dX10_becomes_243 ?_
                  refine j_aload_n X 1 dX10_becomes_246 rfl rfl ?_
                  refine j_get X fG_RX10_7 mput_0 rfl rfl dX10_becomes_247 ?_
                  refine j_iconst X (v := 2) dX10_becomes_250 (by decide) ?_
                  refine j_ldM X (vp_in_nI (n := 2) (by decide) (by decide)) dX10_becomes_251 ?_
                  refine j_icmp_lt X (tgt := 263) dX10_becomes_252 (by decide) (fun c_252 => ?_) (fun c_252 => ?_)
                  · refine j_aload_n X 1 dX10_becomes_263 rfl rfl ?_
                    refine j_iload_n X 2 dX10_becomes_264 rfl rfl ?_
                    refine j_iconst X (v := 4) dX10_becomes_265 (by decide) ?_
                    refine j_aload_n X 1 dX10_becomes_266 rfl rfl ?_
                    refine j_iload_n X 2 dX10_becomes_267 rfl rfl ?_
                    refine j_iconst X (v := 4) dX10_becomes_268 (by decide) ?_
                    refine j_callVi X (rest := [.int 4, .int p, .ref b]) (c_X10_of l hp (show WH 4 _ from ⟨4, by decide, rfl⟩)) m_yX10_of kM_RX10_44 mput_0 rfl rfl rfl rfl rfl (Nat.le_of_ble_eq_true rfl) ⟨Nat.le_of_ble_eq_true rfl, Nat.le_of_ble_eq_true rfl, Nat.le_of_ble_eq_true rfl, Nat.le_of_ble_eq_true rfl⟩ dX10_becomes_269 ?_
                    refine j_iconst X (v := 1) dX10_becomes_272 (by decide) ?_
                    refine j_iadd X dX10_becomes_273 ?_
                    refine j_callVv X (rest := []) (c_X10_to l hp (show WH 4 _ from ⟨4, by decide, rfl⟩)) m_yX10_to kM_RX10_32 mput_0 rfl rfl rfl rfl rfl (Nat.le_of_ble_eq_true rfl) ⟨Nat.le_of_ble_eq_true rfl, Nat.le_of_ble_eq_true rfl, Nat.le_of_ble_eq_true rfl, Nat.le_of_ble_eq_true rfl⟩ dX10_becomes_274 ?_
                    refine j_iconst X (v := 0) dX10_becomes_277 (by decide) ?_
                    refine j_istore X (L' := [(6, .int 0), (5, .int v36), (0, .ref b), (1, .int p), (2, .int s), (3, .int d), (4, .int pr)]) dX10_becomes_278 (by decide) rfl ?_
                    have hIb : MIv (mTo (mLn (mRemO (msc μ 2 0)) p s) p 4 ((mOf (mLn (mRemO (msc μ 2 0)) p s) p 4) + 1)) := (mi_to hp ⟨4, by decide, by decide, by decide, rfl⟩ (mi_ln hp hs (mi_remO (mi_msc hI))))
                    have loop280 : ∀ (n k : Nat), k + n = 8 → J P l E { frames := 2, cells := 0, slots := 0, locals := 48 } S0 M0 AR BL ME CO D B 7 (MQ BL (QC (some (.int ((mBec μ p s d pr).1))) D B (z + 0) (mput D h b ((mBec μ p s d pr).2))) AR S0 0 0 (aB B)) 0 0 z (mput D h b (mFl (mTo (mLn (mRemO (msc μ 2 0)) p s) p 4 ((mOf (mLn (mRemO (msc μ 2 0)) p s) p 4) + 1)) p s d pr k)) [(0, .ref b), (1, .int p), (2, .int s), (3, .int d), (4, .int pr), (5, .int v36), (6, .int (nI k))] [] 280 := by
                      intro n
                      induction n with
                      | zero =>
                        intro k hk
                        obtain rfl : k = 8 := by omega
                        refine j_iload X 6 dX10_becomes_280 rfl ?_
                        refine j_bipush X (v := 8) dX10_becomes_282 (by decide) ?_
                        refine j_icmp_ge X (tgt := 331) dX10_becomes_284 (by decide) (fun c_284 => ?_) (fun c_284 => absurd c_284 (by decide))
                        refine j_iconst X (v := 3) dX10_becomes_331 (by decide) ?_
                        exact j_iret X hr rfl (by subst ev36; first | (rw [mBec, if_neg c_10, if_pos c_25, if_pos c_41, mB2, if_pos c_127, if_pos c_136, mB3, if_neg c_173, mB4, if_neg c_198, if_pos c_205, mB5, if_pos c_252]; done) | (rw [mBec, if_neg c_10, if_pos c_25, if_pos c_41, mB2, if_pos c_127, if_pos c_136, mB3, if_neg c_173, mB4, if_neg c_198, if_pos c_205, mB5, if_pos c_252]; rfl)) rfl (by subst ev36; first | (rw [mBec, if_neg c_10, if_pos c_25, if_pos c_41, mB2, if_pos c_127, if_pos c_136, mB3, if_neg c_173, mB4, if_neg c_198, if_pos c_205, mB5, if_pos c_252]; done) | (rw [mBec, if_neg c_10, if_pos c_25, if_pos c_41, mB2, if_pos c_127, if_pos c_136, mB3, if_neg c_173, mB4, if_neg c_198, if_pos c_205, mB5, if_pos c_252]; rfl)) dX10_becomes_332
                      | succ n ih =>
                        intro k hk
                        have hlt : nI k < 8 := nlt_lit (b := 8) (by omega) (by decide)
                        refine j_iload X 6 dX10_becomes_280 rfl ?_
                        refine j_bipush X (v := 8) dX10_becomes_282 (by decide) ?_
                        refine j_icmp_ge X (tgt := 331) dX10_becomes_284 (by decide) (fun c_284 => absurd hlt c_284) (fun c_284 => ?_)
                        refine j_iload X 6 dX10_becomes_287 rfl ?_
                        refine j_iload_n X 1 dX10_becomes_289 rfl rfl ?_
                        refine j_icmp_eq X (tgt := 325) dX10_becomes_290 (by decide) (fun c_290 => ?_) (fun c_290 => ?_)
                        · obtain ⟨v37, ev37⟩ : ∃ y : Int32, (nI k) + 1 = y := ⟨_, rfl⟩
                          refine j_iinc X 6 (k := 1) (v := v37) (L' := [(6, .int v37), (0, .ref b), (1, .int p), (2, .int s), (3, .int d), (4, .int pr), (5, .int v36)]) dX10_becomes_325 rfl (by decide) (by decide) ev37 rfl ?_
                          refine j_goto X (tgt := 280) dX10_becomes_328 (by decide) ?_
                          refine j_sub [1, 2, 3, 4, 5, 6, 0] (L' := [(0, .ref b), (1, .int p), (2, .int s), (3, .int d), (4, .int pr), (5, .int v36), (6, .int (nI (k + 1)))]) (by subst ev37 ev36; first | with_reducible rfl | (simp only [mFl, nI_succ k, if_neg c_10, if_pos c_25, if_pos c_41, if_pos c_127, if_pos c_136, if_neg c_173, if_neg c_198, if_pos c_205, if_pos c_252, if_pos c_284, if_pos c_290]; done) | (simp only [mFl, nI_succ k, if_neg c_10, if_pos c_25, if_pos c_41, if_pos c_127, if_pos c_136, if_neg c_173, if_neg c_198, if_pos c_205, if_pos c_252, if_pos c_284, if_pos c_290]; rfl) | rfl) ?_
                          refine j_heap (h' := mput D h b (mFl (mTo (mLn (mRemO (msc μ 2 0)) p s) p 4 ((mOf (mLn (mRemO (msc μ 2 0)) p s) p 4) + 1)) p s d pr (k + 1))) (by subst ev37 ev36; first | with_reducible rfl | (simp only [mFl, nI_succ k, if_neg c_10, if_pos c_25, if_pos c_41, if_pos c_127, if_pos c_136, if_neg c_173, if_neg c_198, if_pos c_205, if_pos c_252, if_pos c_284, if_pos c_290]; done) | (simp only [mFl, nI_succ k, if_neg c_10, if_pos c_25, if_pos c_41, if_pos c_127, if_pos c_136, if_neg c_173, if_neg c_198, if_pos c_205, if_pos c_252, if_pos c_284, if_pos c_290]; rfl) | rfl) ?_
                          exact ih (k + 1) (by omega)
                        · refine j_aload_n X 0 dX10_becomes_293 rfl rfl ?_
                          refine j_iload X 6 dX10_becomes_294 rfl ?_
                          refine j_callVi X (rest := []) (c_X10_isOpen l (po_nI (by omega))) m_yX10_isOpen kM_RX10_48 mput_0 rfl rfl rfl rfl rfl (Nat.le_of_ble_eq_true rfl) ⟨Nat.le_of_ble_eq_true rfl, Nat.le_of_ble_eq_true rfl, Nat.le_of_ble_eq_true rfl, Nat.le_of_ble_eq_true rfl⟩ dX10_becomes_296 ?_
                          refine j_if_eq X (tgt := 325) dX10_becomes_299 (by decide) (fun c_299 => ?_) (fun c_299 => ?_)
                          · obtain ⟨v38, ev38⟩ : ∃ y : Int32, (nI k) + 1 = y := ⟨_, rfl⟩
                            refine j_iinc X 6 (k := 1) (v := v38) (L' := [(6, .int v38), (0, .ref b), (1, .int p), (2, .int s), (3, .int d), (4, .int pr), (5, .int v36)]) dX10_becomes_325 rfl (by decide) (by decide) ev38 rfl ?_
                            refine j_goto X (tgt := 280) dX10_becomes_328 (by decide) ?_
                            refine j_sub [1, 2, 3, 4, 5, 6, 0] (L' := [(0, .ref b), (1, .int p), (2, .int s), (3, .int d), (4, .int pr), (5, .int v36), (6, .int (nI (k + 1)))]) (by subst ev38 ev36; first | with_reducible rfl | (simp only [mFl, nI_succ k, if_neg c_10, if_pos c_25, if_pos c_41, if_pos c_127, if_pos c_136, if_neg c_173, if_neg c_198, if_pos c_205, if_pos c_252, if_pos c_284, if_neg c_290, if_pos c_299]; done) | (simp only [mFl, nI_succ k, if_neg c_10, if_pos c_25, if_pos c_41, if_pos c_127, if_pos c_136, if_neg c_173, if_neg c_198, if_pos c_205, if_pos c_252, if_pos c_284, if_neg c_290, if_pos c_299]; rfl) | rfl) ?_
                            refine j_heap (h' := mput D h b (mFl (mTo (mLn (mRemO (msc μ 2 0)) p s) p 4 ((mOf (mLn (mRemO (msc μ 2 0)) p s) p 4) + 1)) p s d pr (k + 1))) (by subst ev38 ev36; first | with_reducible rfl | (simp only [mFl, nI_succ k, if_neg c_10, if_pos c_25, if_pos c_41, if_pos c_127, if_pos c_136, if_neg c_173, if_neg c_198, if_pos c_205, if_pos c_252, if_pos c_284, if_neg c_290, if_pos c_299]; done) | (simp only [mFl, nI_succ k, if_neg c_10, if_pos c_25, if_pos c_41, if_pos c_127, if_pos c_136, if_neg c_173, if_neg c_198, if_pos c_205, if_pos c_252, if_pos c_284, if_neg c_290, if_pos c_299]; rfl) | rfl) ?_
                            exact ih (k + 1) (by omega)
                          · refine j_aload_n X 0 dX10_becomes_302 rfl rfl ?_
                            refine j_dup X dX10_becomes_303 rfl ?_
                            refine j_get X fG_RX10_87 mput_0 rfl rfl dX10_becomes_304 ?_
                            refine j_iconst X (v := 1) dX10_becomes_307 (by decide) ?_
                            refine j_iload X 6 dX10_becomes_308 rfl ?_
                            refine j_ishl X dX10_becomes_310 ?_
                            refine j_ior X dX10_becomes_311 ?_
                            refine j_put X fG_RX10_87 fW_10_6 mput_0 rfl rfl rfl (Nat.le_of_ble_eq_true rfl) dX10_becomes_312 ?_
                            refine j_heap (h' := mput D h b (msc (mFl (mTo (mLn (mRemO (msc μ 2 0)) p s) p 4 ((mOf (mLn (mRemO (msc μ 2 0)) p s) p 4) + 1)) p s d pr k) 2 (((mFl (mTo (mLn (mRemO (msc μ 2 0)) p s) p 4 ((mOf (mLn (mRemO (msc μ 2 0)) p s) p 4) + 1)) p s d pr k).1 2) ||| (1 <<< ((nI k) &&& 31))))) mput_s2 ?_
                            refine j_aload_n X 0 dX10_becomes_315 rfl rfl ?_
                            refine j_iload X 6 dX10_becomes_316 rfl ?_
                            refine j_iload_n X 2 dX10_becomes_318 rfl rfl ?_
                            refine j_iload_n X 3 dX10_becomes_319 rfl rfl ?_
                            refine j_iload X 4 dX10_becomes_320 rfl ?_
                            refine j_callVv X (rest := []) (c_X10_goesOut l (po_nI (by omega)) (mi_many (po_nI (by omega)) (mi_msc (mi_fl hIb _ (by omega))))) m_yX10_goesOut kM_RX10_102 mput_0 rfl rfl rfl rfl rfl (Nat.le_of_ble_eq_true rfl) ⟨Nat.le_of_ble_eq_true rfl, Nat.le_of_ble_eq_true rfl, Nat.le_of_ble_eq_true rfl, Nat.le_of_ble_eq_true rfl⟩ dX10_becomes_322 ?_
                            obtain ⟨v39, ev39⟩ : ∃ y : Int32, (nI k) + 1 = y := ⟨_, rfl⟩
                            refine j_iinc X 6 (k := 1) (v := v39) (L' := [(6, .int v39), (0, .ref b), (1, .int p), (2, .int s), (3, .int d), (4, .int pr), (5, .int v36)]) dX10_becomes_325 rfl (by decide) (by decide) ev39 rfl ?_
                            refine j_goto X (tgt := 280) dX10_becomes_328 (by decide) ?_
                            refine j_sub [1, 2, 3, 4, 5, 6, 0] (L' := [(0, .ref b), (1, .int p), (2, .int s), (3, .int d), (4, .int pr), (5, .int v36), (6, .int (nI (k + 1)))]) (by subst ev39 ev36; first | with_reducible rfl | (simp only [mFl, nI_succ k, if_neg c_10, if_pos c_25, if_pos c_41, if_pos c_127, if_pos c_136, if_neg c_173, if_neg c_198, if_pos c_205, if_pos c_252, if_pos c_284, if_neg c_290, if_neg c_299]; done) | (simp only [mFl, nI_succ k, if_neg c_10, if_pos c_25, if_pos c_41, if_pos c_127, if_pos c_136, if_neg c_173, if_neg c_198, if_pos c_205, if_pos c_252, if_pos c_284, if_neg c_290, if_neg c_299]; rfl) | rfl) ?_
                            refine j_heap (h' := mput D h b (mFl (mTo (mLn (mRemO (msc μ 2 0)) p s) p 4 ((mOf (mLn (mRemO (msc μ 2 0)) p s) p 4) + 1)) p s d pr (k + 1))) (by subst ev39 ev36; first | with_reducible rfl | (simp only [mFl, nI_succ k, if_neg c_10, if_pos c_25, if_pos c_41, if_pos c_127, if_pos c_136, if_neg c_173, if_neg c_198, if_pos c_205, if_pos c_252, if_pos c_284, if_neg c_290, if_neg c_299]; done) | (simp only [mFl, nI_succ k, if_neg c_10, if_pos c_25, if_pos c_41, if_pos c_127, if_pos c_136, if_neg c_173, if_neg c_198, if_pos c_205, if_pos c_252, if_pos c_284, if_neg c_290, if_neg c_299]; rfl) | rfl) ?_
                            exact ih (k + 1) (by omega)
                    refine j_sub [2, 3, 4, 5, 6, 1, 0] (L' := [(0, .ref b), (1, .int p), (2, .int s), (3, .int d), (4, .int pr), (5, .int v36), (6, .int (nI 0))]) (by subst ev36; first | with_reducible rfl | (simp only [mFl, if_neg c_10, if_pos c_25, if_pos c_41, if_pos c_127, if_pos c_136, if_neg c_173, if_neg c_198, if_pos c_205, if_pos c_252]; done) | (simp only [mFl, if_neg c_10, if_pos c_25, if_pos c_41, if_pos c_127, if_pos c_136, if_neg c_173, if_neg c_198, if_pos c_205, if_pos c_252]; rfl) | rfl) ?_
                    refine j_heap (h' := mput D h b (mFl (mTo (mLn (mRemO (msc μ 2 0)) p s) p 4 ((mOf (mLn (mRemO (msc μ 2 0)) p s) p 4) + 1)) p s d pr 0)) (by subst ev36; first | with_reducible rfl | (simp only [mFl, if_neg c_10, if_pos c_25, if_pos c_41, if_pos c_127, if_pos c_136, if_neg c_173, if_neg c_198, if_pos c_205, if_pos c_252]; done) | (simp only [mFl, if_neg c_10, if_pos c_25, if_pos c_41, if_pos c_127, if_pos c_136, if_neg c_173, if_neg c_198, if_pos c_205, if_pos c_252]; rfl) | rfl) ?_
                    exact loop280 8 0 rfl
                  · refine j_aload_n X 1 dX10_becomes_255 rfl rfl ?_
                    refine j_iload_n X 2 dX10_becomes_256 rfl rfl ?_
                    refine j_iconst X (v := 2) dX10_becomes_257 (by decide) ?_
                    refine j_callVv X (rest := []) (c_X10_quarantine l hp) m_yX10_quarantine kM_RX10_93 mput_0 rfl rfl rfl rfl rfl (Nat.le_of_ble_eq_true rfl) ⟨Nat.le_of_ble_eq_true rfl, Nat.le_of_ble_eq_true rfl, Nat.le_of_ble_eq_true rfl, Nat.le_of_ble_eq_true rfl⟩ dX10_becomes_258 ?_
                    refine j_iconst X (v := 5) dX10_becomes_261 (by decide) ?_
                    exact j_iret X hr rfl (by subst ev36; first | (rw [mBec, if_neg c_10, if_pos c_25, if_pos c_41, mB2, if_pos c_127, if_pos c_136, mB3, if_neg c_173, mB4, if_neg c_198, if_pos c_205, mB5, if_neg c_252]; done) | (rw [mBec, if_neg c_10, if_pos c_25, if_pos c_41, mB2, if_pos c_127, if_pos c_136, mB3, if_neg c_173, mB4, if_neg c_198, if_pos c_205, mB5, if_neg c_252]; rfl)) rfl (by subst ev36; first | (rw [mBec, if_neg c_10, if_pos c_25, if_pos c_41, mB2, if_pos c_127, if_pos c_136, mB3, if_neg c_173, mB4, if_neg c_198, if_pos c_205, mB5, if_neg c_252]; done) | (rw [mBec, if_neg c_10, if_pos c_25, if_pos c_41, mB2, if_pos c_127, if_pos c_136, mB3, if_neg c_173, mB4, if_neg c_198, if_pos c_205, mB5, if_neg c_252]; rfl)) dX10_becomes_262
                · have hpt : PO v36 := po_pred (mi_tabv hd (mi_ln hp hs (mi_remO (mi_msc hI)))) ev36 c_205
                  refine j_aload_n X 1 dX10_becomes_208 rfl rfl ?_
                  refine j_iload X 0 dX10_becomes_209 rfl ?_
                  refine j_callVi X (rest := []) (c_X10_isOpen l hpt) m_yX10_isOpen kM_RX10_48 mput_0 rfl rfl rfl rfl rfl (Nat.le_of_ble_eq_true rfl) ⟨Nat.le_of_ble_eq_true rfl, Nat.le_of_ble_eq_true rfl, Nat.le_of_ble_eq_true rfl, Nat.le_of_ble_eq_true rfl⟩ dX10_becomes_211 ?_
                  refine j_if_ne X (tgt := 220) dX10_becomes_214 (by decide) (fun c_214 => ?_) (fun c_214 => ?_)
                  · refine j_aload_n X 1 dX10_becomes_220 rfl rfl ?_
                    refine j_iconst X (v := 1) dX10_becomes_221 (by decide) ?_
                    refine j_iload X 0 dX10_becomes_222 rfl ?_
                    refine j_ishl X dX10_becomes_224 ?_
                    refine j_put X fG_RX10_87 fW_10_6 mput_0 rfl rfl rfl (Nat.le_of_ble_eq_true rfl) dX10_becomes_225 ?_
                    refine j_heap (h' := mput D h b (msc (mLn (mRemO (msc μ 2 0)) p s) 2 (1 <<< (v36 &&& 31)))) mput_s2 ?_
                    refine j_aload_n X 1 dX10_becomes_228 rfl rfl ?_
                    refine j_iload X 0 dX10_becomes_229 rfl ?_
                    refine j_iload_n X 3 dX10_becomes_231 rfl rfl ?_
                    refine j_iload_n X 4 dX10_becomes_232 rfl rfl ?_
                    refine j_iload X 5 dX10_becomes_233 rfl ?_
                    refine j_callVv X (rest := []) (c_X10_goesOut l hpt (mi_many hpt (mi_msc (mi_ln hp hs (mi_remO (mi_msc hI)))))) m_yX10_goesOut kM_RX10_102 mput_0 rfl rfl rfl rfl rfl (Nat.le_of_ble_eq_true rfl) ⟨Nat.le_of_ble_eq_true rfl, Nat.le_of_ble_eq_true rfl, Nat.le_of_ble_eq_true rfl, Nat.le_of_ble_eq_true rfl⟩ dX10_becomes_235 ?_
                    refine j_iconst X (v := 2) dX10_becomes_238 (by decide) ?_
                    exact j_iret X hr rfl (by subst ev36; first | (rw [mBec, if_neg c_10, if_pos c_25, if_pos c_41, mB2, if_pos c_127, if_pos c_136, mB3, if_neg c_173, mB4, if_neg c_198, if_neg c_205, if_neg c_214]; done) | (rw [mBec, if_neg c_10, if_pos c_25, if_pos c_41, mB2, if_pos c_127, if_pos c_136, mB3, if_neg c_173, mB4, if_neg c_198, if_neg c_205, if_neg c_214]; rfl)) rfl (by subst ev36; first | (rw [mBec, if_neg c_10, if_pos c_25, if_pos c_41, mB2, if_pos c_127, if_pos c_136, mB3, if_neg c_173, mB4, if_neg c_198, if_neg c_205, if_neg c_214]; done) | (rw [mBec, if_neg c_10, if_pos c_25, if_pos c_41, mB2, if_pos c_127, if_pos c_136, mB3, if_neg c_173, mB4, if_neg c_198, if_neg c_205, if_neg c_214]; rfl)) dX10_becomes_239
                  · refine j_bipush X (v := 6) dX10_becomes_217 (by decide) ?_
                    exact j_iret X hr rfl (by subst ev36; first | (rw [mBec, if_neg c_10, if_pos c_25, if_pos c_41, mB2, if_pos c_127, if_pos c_136, mB3, if_neg c_173, mB4, if_neg c_198, if_neg c_205, if_pos c_214]; done) | (rw [mBec, if_neg c_10, if_pos c_25, if_pos c_41, mB2, if_pos c_127, if_pos c_136, mB3, if_neg c_173, mB4, if_neg c_198, if_neg c_205, if_pos c_214]; rfl)) rfl (by subst ev36; first | (rw [mBec, if_neg c_10, if_pos c_25, if_pos c_41, mB2, if_pos c_127, if_pos c_136, mB3, if_neg c_173, mB4, if_neg c_198, if_neg c_205, if_pos c_214]; done) | (rw [mBec, if_neg c_10, if_pos c_25, if_pos c_41, mB2, if_pos c_127, if_pos c_136, mB3, if_neg c_173, mB4, if_neg c_198, if_neg c_205, if_pos c_214]; rfl)) dX10_becomes_219
              · refine j_iconst X (v := 1) dX10_becomes_201 (by decide) ?_
                exact j_iret X hr rfl (by subst ev36; first | (rw [mBec, if_neg c_10, if_pos c_25, if_pos c_41, mB2, if_pos c_127, if_pos c_136, mB3, if_neg c_173, mB4, if_pos c_198]; done) | (rw [mBec, if_neg c_10, if_pos c_25, if_pos c_41, mB2, if_pos c_127, if_pos c_136, mB3, if_neg c_173, mB4, if_pos c_198]; rfl)) rfl (by subst ev36; first | (rw [mBec, if_neg c_10, if_pos c_25, if_pos c_41, mB2, if_pos c_127, if_pos c_136, mB3, if_neg c_173, mB4, if_pos c_198]; done) | (rw [mBec, if_neg c_10, if_pos c_25, if_pos c_41, mB2, if_pos c_127, if_pos c_136, mB3, if_neg c_173, mB4, if_pos c_198]; rfl)) dX10_becomes_202
            · refine j_bipush X (v := (-4)) dX10_becomes_176 (by decide) ?_
              refine j_goto X (tgt := 193) dX10_becomes_178 (by decide) ?_
              refine j_istore X (L' := [(5, .int (-4)), (0, .ref b), (1, .int p), (2, .int s), (3, .int d), (4, .int pr)]) dX10_becomes_193 (by decide) rfl ?_
              refine j_iload X 0 dX10_becomes_195 rfl ?_
              refine j_iload_n X 2 dX10_becomes_197 rfl rfl ?_
              refine j_icmp_ne X (tgt := 203) dX10_becomes_198 (by decide) (fun c_198 => ?_) (fun c_198 => ?_)
              · refine j_iload X 0 dX10_becomes_203 rfl ?_
                refine j_if_lt X (tgt := 240) dX10_becomes_205 (by decide) (fun _ => ?_) (fun c_ => absurd (by decide) c_)
                refine j_aload_n X 1 dX10_becomes_240 rfl rfl ?_
                refine j_iload_n X 2 dX10_becomes_241 rfl rfl ?_
                refine j_iconst X (v := 4) dX10_becomes_242 (by decide) ?_
                refine j_callVi X (rest := []) (c_X10_of l hp (show WH 4 _ from ⟨4, by decide, rfl⟩)) m_yX10_of kM_RX10_44 mput_0 rfl rfl rfl rfl rfl (Nat.le_of_ble_eq_true rfl) ⟨Nat.le_of_ble_eq_true rfl, Nat.le_of_ble_eq_true rfl, Nat.le_of_ble_eq_true rfl, Nat.le_of_ble_eq_true rfl⟩ dX10_becomes_243 ?_
                refine j_aload_n X 1 dX10_becomes_246 rfl rfl ?_
                refine j_get X fG_RX10_7 mput_0 rfl rfl dX10_becomes_247 ?_
                refine j_iconst X (v := 2) dX10_becomes_250 (by decide) ?_
                refine j_ldM X (vp_in_nI (n := 2) (by decide) (by decide)) dX10_becomes_251 ?_
                refine j_icmp_lt X (tgt := 263) dX10_becomes_252 (by decide) (fun c_252 => ?_) (fun c_252 => ?_)
                · refine j_aload_n X 1 dX10_becomes_263 rfl rfl ?_
                  refine j_iload_n X 2 dX10_becomes_264 rfl rfl ?_
                  refine j_iconst X (v := 4) dX10_becomes_265 (by decide) ?_
                  refine j_aload_n X 1 dX10_becomes_266 rfl rfl ?_
                  refine j_iload_n X 2 dX10_becomes_267 rfl rfl ?_
                  refine j_iconst X (v := 4) dX10_becomes_268 (by decide) ?_
                  refine j_callVi X (rest := [.int 4, .int p, .ref b]) (c_X10_of l hp (show WH 4 _ from ⟨4, by decide, rfl⟩)) m_yX10_of kM_RX10_44 mput_0 rfl rfl rfl rfl rfl (Nat.le_of_ble_eq_true rfl) ⟨Nat.le_of_ble_eq_true rfl, Nat.le_of_ble_eq_true rfl, Nat.le_of_ble_eq_true rfl, Nat.le_of_ble_eq_true rfl⟩ dX10_becomes_269 ?_
                  refine j_iconst X (v := 1) dX10_becomes_272 (by decide) ?_
                  refine j_iadd X dX10_becomes_273 ?_
                  refine j_callVv X (rest := []) (c_X10_to l hp (show WH 4 _ from ⟨4, by decide, rfl⟩)) m_yX10_to kM_RX10_32 mput_0 rfl rfl rfl rfl rfl (Nat.le_of_ble_eq_true rfl) ⟨Nat.le_of_ble_eq_true rfl, Nat.le_of_ble_eq_true rfl, Nat.le_of_ble_eq_true rfl, Nat.le_of_ble_eq_true rfl⟩ dX10_becomes_274 ?_
                  refine j_iconst X (v := 0) dX10_becomes_277 (by decide) ?_
                  refine j_istore X (L' := [(6, .int 0), (5, .int (-4)), (0, .ref b), (1, .int p), (2, .int s), (3, .int d), (4, .int pr)]) dX10_becomes_278 (by decide) rfl ?_
                  have hIb : MIv (mTo (mLn (mRemO (msc μ 2 0)) p s) p 4 ((mOf (mLn (mRemO (msc μ 2 0)) p s) p 4) + 1)) := (mi_to hp ⟨4, by decide, by decide, by decide, rfl⟩ (mi_ln hp hs (mi_remO (mi_msc hI))))
                  have loop280 : ∀ (n k : Nat), k + n = 8 → J P l E { frames := 2, cells := 0, slots := 0, locals := 48 } S0 M0 AR BL ME CO D B 7 (MQ BL (QC (some (.int ((mBec μ p s d pr).1))) D B (z + 0) (mput D h b ((mBec μ p s d pr).2))) AR S0 0 0 (aB B)) 0 0 z (mput D h b (mFl (mTo (mLn (mRemO (msc μ 2 0)) p s) p 4 ((mOf (mLn (mRemO (msc μ 2 0)) p s) p 4) + 1)) p s d pr k)) [(0, .ref b), (1, .int p), (2, .int s), (3, .int d), (4, .int pr), (5, .int (-4)), (6, .int (nI k))] [] 280 := by
                    intro n
                    induction n with
                    | zero =>
                      intro k hk
                      obtain rfl : k = 8 := by omega
                      refine j_iload X 6 dX10_becomes_280 rfl ?_
                      refine j_bipush X (v := 8) dX10_becomes_282 (by decide) ?_
                      refine j_icmp_ge X (tgt := 331) dX10_becomes_284 (by decide) (fun c_284 => ?_) (fun c_284 => absurd c_284 (by decide))
                      refine j_iconst X (v := 3) dX10_becomes_331 (by decide) ?_
                      exact j_iret X hr rfl (by first | (rw [mBec, if_neg c_10, if_pos c_25, if_pos c_41, mB2, if_pos c_127, if_pos c_136, mB3, if_pos c_173, mB4, if_neg c_198, if_pos (show (-4 : Int32) < 0 by decide), mB5, if_pos c_252]; done) | (rw [mBec, if_neg c_10, if_pos c_25, if_pos c_41, mB2, if_pos c_127, if_pos c_136, mB3, if_pos c_173, mB4, if_neg c_198, if_pos (show (-4 : Int32) < 0 by decide), mB5, if_pos c_252]; rfl)) rfl (by first | (rw [mBec, if_neg c_10, if_pos c_25, if_pos c_41, mB2, if_pos c_127, if_pos c_136, mB3, if_pos c_173, mB4, if_neg c_198, if_pos (show (-4 : Int32) < 0 by decide), mB5, if_pos c_252]; done) | (rw [mBec, if_neg c_10, if_pos c_25, if_pos c_41, mB2, if_pos c_127, if_pos c_136, mB3, if_pos c_173, mB4, if_neg c_198, if_pos (show (-4 : Int32) < 0 by decide), mB5, if_pos c_252]; rfl)) dX10_becomes_332
                    | succ n ih =>
                      intro k hk
                      have hlt : nI k < 8 := nlt_lit (b := 8) (by omega) (by decide)
                      refine j_iload X 6 dX10_becomes_280 rfl ?_
                      refine j_bipush X (v := 8) dX10_becomes_282 (by decide) ?_
                      refine j_icmp_ge X (tgt := 331) dX10_becomes_284 (by decide) (fun c_284 => absurd hlt c_284) (fun c_284 => ?_)
                      refine j_iload X 6 dX10_becomes_287 rfl ?_
                      refine j_iload_n X 1 dX10_becomes_289 rfl rfl ?_
                      refine j_icmp_eq X (tgt := 325) dX10_becomes_290 (by decide) (fun c_290 => ?_) (fun c_290 => ?_)
                      · obtain ⟨v40, ev40⟩ : ∃ y : Int32, (nI k) + 1 = y := ⟨_, rfl⟩
                        refine j_iinc X 6 (k := 1) (v := v40) (L' := [(6, .int v40), (0, .ref b), (1, .int p), (2, .int s), (3, .int d), (4, .int pr), (5, .int (-4))]) dX10_becomes_325 rfl (by decide) (by decide) ev40 rfl ?_
                        refine j_goto X (tgt := 280) dX10_becomes_328 (by decide) ?_
                        refine j_sub [1, 2, 3, 4, 5, 6, 0] (L' := [(0, .ref b), (1, .int p), (2, .int s), (3, .int d), (4, .int pr), (5, .int (-4)), (6, .int (nI (k + 1)))]) (by subst ev40; first | with_reducible rfl | (simp only [mFl, nI_succ k, if_neg c_10, if_pos c_25, if_pos c_41, if_pos c_127, if_pos c_136, if_pos c_173, if_neg c_198, if_pos c_252, if_pos c_284, if_pos c_290]; done) | (simp only [mFl, nI_succ k, if_neg c_10, if_pos c_25, if_pos c_41, if_pos c_127, if_pos c_136, if_pos c_173, if_neg c_198, if_pos c_252, if_pos c_284, if_pos c_290]; rfl) | rfl) ?_
                        refine j_heap (h' := mput D h b (mFl (mTo (mLn (mRemO (msc μ 2 0)) p s) p 4 ((mOf (mLn (mRemO (msc μ 2 0)) p s) p 4) + 1)) p s d pr (k + 1))) (by subst ev40; first | with_reducible rfl | (simp only [mFl, nI_succ k, if_neg c_10, if_pos c_25, if_pos c_41, if_pos c_127, if_pos c_136, if_pos c_173, if_neg c_198, if_pos c_252, if_pos c_284, if_pos c_290]; done) | (simp only [mFl, nI_succ k, if_neg c_10, if_pos c_25, if_pos c_41, if_pos c_127, if_pos c_136, if_pos c_173, if_neg c_198, if_pos c_252, if_pos c_284, if_pos c_290]; rfl) | rfl) ?_
                        exact ih (k + 1) (by omega)
                      · refine j_aload_n X 0 dX10_becomes_293 rfl rfl ?_
                        refine j_iload X 6 dX10_becomes_294 rfl ?_
                        refine j_callVi X (rest := []) (c_X10_isOpen l (po_nI (by omega))) m_yX10_isOpen kM_RX10_48 mput_0 rfl rfl rfl rfl rfl (Nat.le_of_ble_eq_true rfl) ⟨Nat.le_of_ble_eq_true rfl, Nat.le_of_ble_eq_true rfl, Nat.le_of_ble_eq_true rfl, Nat.le_of_ble_eq_true rfl⟩ dX10_becomes_296 ?_
                        refine j_if_eq X (tgt := 325) dX10_becomes_299 (by decide) (fun c_299 => ?_) (fun c_299 => ?_)
                        · obtain ⟨v41, ev41⟩ : ∃ y : Int32, (nI k) + 1 = y := ⟨_, rfl⟩
                          refine j_iinc X 6 (k := 1) (v := v41) (L' := [(6, .int v41), (0, .ref b), (1, .int p), (2, .int s), (3, .int d), (4, .int pr), (5, .int (-4))]) dX10_becomes_325 rfl (by decide) (by decide) ev41 rfl ?_
                          refine j_goto X (tgt := 280) dX10_becomes_328 (by decide) ?_
                          refine j_sub [1, 2, 3, 4, 5, 6, 0] (L' := [(0, .ref b), (1, .int p), (2, .int s), (3, .int d), (4, .int pr), (5, .int (-4)), (6, .int (nI (k + 1)))]) (by subst ev41; first | with_reducible rfl | (simp only [mFl, nI_succ k, if_neg c_10, if_pos c_25, if_pos c_41, if_pos c_127, if_pos c_136, if_pos c_173, if_neg c_198, if_pos c_252, if_pos c_284, if_neg c_290, if_pos c_299]; done) | (simp only [mFl, nI_succ k, if_neg c_10, if_pos c_25, if_pos c_41, if_pos c_127, if_pos c_136, if_pos c_173, if_neg c_198, if_pos c_252, if_pos c_284, if_neg c_290, if_pos c_299]; rfl) | rfl) ?_
                          refine j_heap (h' := mput D h b (mFl (mTo (mLn (mRemO (msc μ 2 0)) p s) p 4 ((mOf (mLn (mRemO (msc μ 2 0)) p s) p 4) + 1)) p s d pr (k + 1))) (by subst ev41; first | with_reducible rfl | (simp only [mFl, nI_succ k, if_neg c_10, if_pos c_25, if_pos c_41, if_pos c_127, if_pos c_136, if_pos c_173, if_neg c_198, if_pos c_252, if_pos c_284, if_neg c_290, if_pos c_299]; done) | (simp only [mFl, nI_succ k, if_neg c_10, if_pos c_25, if_pos c_41, if_pos c_127, if_pos c_136, if_pos c_173, if_neg c_198, if_pos c_252, if_pos c_284, if_neg c_290, if_pos c_299]; rfl) | rfl) ?_
                          exact ih (k + 1) (by omega)
                        · refine j_aload_n X 0 dX10_becomes_302 rfl rfl ?_
                          refine j_dup X dX10_becomes_303 rfl ?_
                          refine j_get X fG_RX10_87 mput_0 rfl rfl dX10_becomes_304 ?_
                          refine j_iconst X (v := 1) dX10_becomes_307 (by decide) ?_
                          refine j_iload X 6 dX10_becomes_308 rfl ?_
                          refine j_ishl X dX10_becomes_310 ?_
                          refine j_ior X dX10_becomes_311 ?_
                          refine j_put X fG_RX10_87 fW_10_6 mput_0 rfl rfl rfl (Nat.le_of_ble_eq_true rfl) dX10_becomes_312 ?_
                          refine j_heap (h' := mput D h b (msc (mFl (mTo (mLn (mRemO (msc μ 2 0)) p s) p 4 ((mOf (mLn (mRemO (msc μ 2 0)) p s) p 4) + 1)) p s d pr k) 2 (((mFl (mTo (mLn (mRemO (msc μ 2 0)) p s) p 4 ((mOf (mLn (mRemO (msc μ 2 0)) p s) p 4) + 1)) p s d pr k).1 2) ||| (1 <<< ((nI k) &&& 31))))) mput_s2 ?_
                          refine j_aload_n X 0 dX10_becomes_315 rfl rfl ?_
                          refine j_iload X 6 dX10_becomes_316 rfl ?_
                          refine j_iload_n X 2 dX10_becomes_318 rfl rfl ?_
                          refine j_iload_n X 3 dX10_becomes_319 rfl rfl ?_
                          refine j_iload X 4 dX10_becomes_320 rfl ?_
                          refine j_callVv X (rest := []) (c_X10_goesOut l (po_nI (by omega)) (mi_many (po_nI (by omega)) (mi_msc (mi_fl hIb _ (by omega))))) m_yX10_goesOut kM_RX10_102 mput_0 rfl rfl rfl rfl rfl (Nat.le_of_ble_eq_true rfl) ⟨Nat.le_of_ble_eq_true rfl, Nat.le_of_ble_eq_true rfl, Nat.le_of_ble_eq_true rfl, Nat.le_of_ble_eq_true rfl⟩ dX10_becomes_322 ?_
                          obtain ⟨v42, ev42⟩ : ∃ y : Int32, (nI k) + 1 = y := ⟨_, rfl⟩
                          refine j_iinc X 6 (k := 1) (v := v42) (L' := [(6, .int v42), (0, .ref b), (1, .int p), (2, .int s), (3, .int d), (4, .int pr), (5, .int (-4))]) dX10_becomes_325 rfl (by decide) (by decide) ev42 rfl ?_
                          refine j_goto X (tgt := 280) dX10_becomes_328 (by decide) ?_
                          refine j_sub [1, 2, 3, 4, 5, 6, 0] (L' := [(0, .ref b), (1, .int p), (2, .int s), (3, .int d), (4, .int pr), (5, .int (-4)), (6, .int (nI (k + 1)))]) (by subst ev42; first | with_reducible rfl | (simp only [mFl, nI_succ k, if_neg c_10, if_pos c_25, if_pos c_41, if_pos c_127, if_pos c_136, if_pos c_173, if_neg c_198, if_pos c_252, if_pos c_284, if_neg c_290, if_neg c_299]; done) | (simp only [mFl, nI_succ k, if_neg c_10, if_pos c_25, if_pos c_41, if_pos c_127, if_pos c_136, if_pos c_173, if_neg c_198, if_pos c_252, if_pos c_284, if_neg c_290, if_neg c_299]; rfl) | rfl) ?_
                          refine j_heap (h' := mput D h b (mFl (mTo (mLn (mRemO (msc μ 2 0)) p s) p 4 ((mOf (mLn (mRemO (msc μ 2 0)) p s) p 4) + 1)) p s d pr (k + 1))) (by subst ev42; first | with_reducible rfl | (simp only [mFl, nI_succ k, if_neg c_10, if_pos c_25, if_pos c_41, if_pos c_127, if_pos c_136, if_pos c_173, if_neg c_198, if_pos c_252, if_pos c_284, if_neg c_290, if_neg c_299]; done) | (simp only [mFl, nI_succ k, if_neg c_10, if_pos c_25, if_pos c_41, if_pos c_127, if_pos c_136, if_pos c_173, if_neg c_198, if_pos c_252, if_pos c_284, if_neg c_290, if_neg c_299]; rfl) | rfl) ?_
                          exact ih (k + 1) (by omega)
                  refine j_sub [2, 3, 4, 5, 6, 1, 0] (L' := [(0, .ref b), (1, .int p), (2, .int s), (3, .int d), (4, .int pr), (5, .int (-4)), (6, .int (nI 0))]) (by first | with_reducible rfl | (simp only [mFl, if_neg c_10, if_pos c_25, if_pos c_41, if_pos c_127, if_pos c_136, if_pos c_173, if_neg c_198, if_pos c_252]; done) | (simp only [mFl, if_neg c_10, if_pos c_25, if_pos c_41, if_pos c_127, if_pos c_136, if_pos c_173, if_neg c_198, if_pos c_252]; rfl) | rfl) ?_
                  refine j_heap (h' := mput D h b (mFl (mTo (mLn (mRemO (msc μ 2 0)) p s) p 4 ((mOf (mLn (mRemO (msc μ 2 0)) p s) p 4) + 1)) p s d pr 0)) (by first | with_reducible rfl | (simp only [mFl, if_neg c_10, if_pos c_25, if_pos c_41, if_pos c_127, if_pos c_136, if_pos c_173, if_neg c_198, if_pos c_252]; done) | (simp only [mFl, if_neg c_10, if_pos c_25, if_pos c_41, if_pos c_127, if_pos c_136, if_pos c_173, if_neg c_198, if_pos c_252]; rfl) | rfl) ?_
                  exact loop280 8 0 rfl
                · refine j_aload_n X 1 dX10_becomes_255 rfl rfl ?_
                  refine j_iload_n X 2 dX10_becomes_256 rfl rfl ?_
                  refine j_iconst X (v := 2) dX10_becomes_257 (by decide) ?_
                  refine j_callVv X (rest := []) (c_X10_quarantine l hp) m_yX10_quarantine kM_RX10_93 mput_0 rfl rfl rfl rfl rfl (Nat.le_of_ble_eq_true rfl) ⟨Nat.le_of_ble_eq_true rfl, Nat.le_of_ble_eq_true rfl, Nat.le_of_ble_eq_true rfl, Nat.le_of_ble_eq_true rfl⟩ dX10_becomes_258 ?_
                  refine j_iconst X (v := 5) dX10_becomes_261 (by decide) ?_
                  exact j_iret X hr rfl (by first | (rw [mBec, if_neg c_10, if_pos c_25, if_pos c_41, mB2, if_pos c_127, if_pos c_136, mB3, if_pos c_173, mB4, if_neg c_198, if_pos (show (-4 : Int32) < 0 by decide), mB5, if_neg c_252]; done) | (rw [mBec, if_neg c_10, if_pos c_25, if_pos c_41, mB2, if_pos c_127, if_pos c_136, mB3, if_pos c_173, mB4, if_neg c_198, if_pos (show (-4 : Int32) < 0 by decide), mB5, if_neg c_252]; rfl)) rfl (by first | (rw [mBec, if_neg c_10, if_pos c_25, if_pos c_41, mB2, if_pos c_127, if_pos c_136, mB3, if_pos c_173, mB4, if_neg c_198, if_pos (show (-4 : Int32) < 0 by decide), mB5, if_neg c_252]; done) | (rw [mBec, if_neg c_10, if_pos c_25, if_pos c_41, mB2, if_pos c_127, if_pos c_136, mB3, if_pos c_173, mB4, if_neg c_198, if_pos (show (-4 : Int32) < 0 by decide), mB5, if_neg c_252]; rfl)) dX10_becomes_262
              · refine j_iconst X (v := 1) dX10_becomes_201 (by decide) ?_
                exact j_iret X hr rfl (by first | (rw [mBec, if_neg c_10, if_pos c_25, if_pos c_41, mB2, if_pos c_127, if_pos c_136, mB3, if_pos c_173, mB4, if_pos c_198]; done) | (rw [mBec, if_neg c_10, if_pos c_25, if_pos c_41, mB2, if_pos c_127, if_pos c_136, mB3, if_pos c_173, mB4, if_pos c_198]; rfl)) rfl (by first | (rw [mBec, if_neg c_10, if_pos c_25, if_pos c_41, mB2, if_pos c_127, if_pos c_136, mB3, if_pos c_173, mB4, if_pos c_198]; done) | (rw [mBec, if_neg c_10, if_pos c_25, if_pos c_41, mB2, if_pos c_127, if_pos c_136, mB3, if_pos c_173, mB4, if_pos c_198]; rfl)) dX10_becomes_202
      · refine j_aload_n X 0 dX10_becomes_44 rfl rfl ?_
        refine j_get X fG_RX10_7 mput_0 rfl rfl dX10_becomes_45 ?_
        refine j_sipush X (v := 552) dX10_becomes_48 (by decide) ?_
        refine j_iload_n X 2 dX10_becomes_51 rfl rfl ?_
        refine j_iadd X dX10_becomes_52 ?_
        refine j_iload_n X 1 dX10_becomes_53 rfl rfl ?_
        refine j_iconst X (v := 1) dX10_becomes_54 (by decide) ?_
        refine j_iadd X dX10_becomes_55 ?_
        refine j_stM X (in_552 hs) dX10_becomes_56 ?_
        refine j_aload_n X 0 dX10_becomes_57 rfl rfl ?_
        refine j_get X fG_RX10_7 mput_0 rfl rfl dX10_becomes_58 ?_
        refine j_sipush X (v := 652) dX10_becomes_61 (by decide) ?_
        refine j_iload_n X 2 dX10_becomes_64 rfl rfl ?_
        refine j_iadd X dX10_becomes_65 ?_
        refine j_aload_n X 0 dX10_becomes_66 rfl rfl ?_
        refine j_get X fG_RX10_7 mput_0 rfl rfl dX10_becomes_67 ?_
        refine j_iconst X (v := 4) dX10_becomes_70 (by decide) ?_
        refine j_ldM X (vp_in_nI (n := 4) (by decide) (by decide)) dX10_becomes_71 ?_
        refine j_stM X (in_652 hs) dX10_becomes_72 ?_
        refine j_heap (h' := mput D h b (mLn (msc μ 2 0) p s)) rfl ?_
        refine j_aload_n X 0 dX10_becomes_73 rfl rfl ?_
        refine j_get X fG_RX10_7 mput_0 rfl rfl dX10_becomes_74 ?_
        refine j_sipush X (v := 752) dX10_becomes_77 (by decide) ?_
        refine j_bipush X (v := 10) dX10_becomes_80 (by decide) ?_
        refine j_iload_n X 2 dX10_becomes_82 rfl rfl ?_
        refine j_imul X dX10_becomes_83 ?_
        refine j_iadd X dX10_becomes_84 ?_
        refine j_aload_n X 0 dX10_becomes_85 rfl rfl ?_
        refine j_get X fG_RX10_7 mput_0 rfl rfl dX10_becomes_86 ?_
        refine j_iconst X (v := 4) dX10_becomes_89 (by decide) ?_
        refine j_ldM X (vp_in_nI (n := 4) (by decide) (by decide)) dX10_becomes_90 ?_
        refine j_bipush X (v := 10) dX10_becomes_91 (by decide) ?_
        refine j_irem X dX10_becomes_93 (by decide) ?_
        refine j_iadd X dX10_becomes_94 ?_
        refine j_dup2 X dX10_becomes_95 rfl rfl ?_
        refine j_ldM X (in_752 hs (wh_rem (mi_clk (mi_ln hp hs (mi_msc hI))))) dX10_becomes_96 ?_
        refine j_iconst X (v := 1) dX10_becomes_97 (by decide) ?_
        refine j_iadd X dX10_becomes_98 ?_
        refine j_stM X (in_752 hs (wh_rem (mi_clk (mi_ln hp hs (mi_msc hI))))) dX10_becomes_99 ?_
        refine j_heap (h' := mput D h b (mMv (msc μ 2 0) p s)) rfl ?_
        refine j_aload_n X 0 dX10_becomes_100 rfl rfl ?_
        refine j_iload_n X 2 dX10_becomes_101 rfl rfl ?_
        refine j_callVi X (rest := []) (c_X10_movesOf l hs) m_yX10_movesOf kM_RX10_90 mput_0 rfl rfl rfl rfl rfl (Nat.le_of_ble_eq_true rfl) ⟨Nat.le_of_ble_eq_true rfl, Nat.le_of_ble_eq_true rfl, Nat.le_of_ble_eq_true rfl, Nat.le_of_ble_eq_true rfl⟩ dX10_becomes_102 ?_
        refine j_iconst X (v := 3) dX10_becomes_105 (by decide) ?_
        refine j_icmp_lt X (tgt := 117) dX10_becomes_106 (by decide) (fun c_106 => ?_) (fun c_106 => ?_)
        · refine j_aload_n X 0 dX10_becomes_117 rfl rfl ?_
          refine j_get X fG_RX10_7 mput_0 rfl rfl dX10_becomes_118 ?_
          refine j_sipush X (v := 552) dX10_becomes_121 (by decide) ?_
          refine j_iload_n X 2 dX10_becomes_124 rfl rfl ?_
          refine j_iadd X dX10_becomes_125 ?_
          refine j_ldM X (in_552 hs) dX10_becomes_126 ?_
          refine j_if_ne X (tgt := 143) dX10_becomes_127 (by decide) (fun c_127 => ?_) (fun c_127 => ?_)
          · refine j_aload_n X 0 dX10_becomes_143 rfl rfl ?_
            refine j_get X fG_RX10_7 mput_0 rfl rfl dX10_becomes_144 ?_
            refine j_sipush X (v := 552) dX10_becomes_147 (by decide) ?_
            refine j_iload_n X 2 dX10_becomes_150 rfl rfl ?_
            refine j_iadd X dX10_becomes_151 ?_
            refine j_iload_n X 1 dX10_becomes_152 rfl rfl ?_
            refine j_iconst X (v := 1) dX10_becomes_153 (by decide) ?_
            refine j_iadd X dX10_becomes_154 ?_
            refine j_stM X (in_552 hs) dX10_becomes_155 ?_
            refine j_aload_n X 0 dX10_becomes_156 rfl rfl ?_
            refine j_get X fG_RX10_7 mput_0 rfl rfl dX10_becomes_157 ?_
            refine j_sipush X (v := 652) dX10_becomes_160 (by decide) ?_
            refine j_iload_n X 2 dX10_becomes_163 rfl rfl ?_
            refine j_iadd X dX10_becomes_164 ?_
            refine j_aload_n X 0 dX10_becomes_165 rfl rfl ?_
            refine j_get X fG_RX10_7 mput_0 rfl rfl dX10_becomes_166 ?_
            refine j_iconst X (v := 4) dX10_becomes_169 (by decide) ?_
            refine j_ldM X (vp_in_nI (n := 4) (by decide) (by decide)) dX10_becomes_170 ?_
            refine j_stM X (in_652 hs) dX10_becomes_171 ?_
            refine j_heap (h' := mput D h b (mLn (mMv (msc μ 2 0) p s) p s)) rfl ?_
            refine j_iload_n X 3 dX10_becomes_172 rfl rfl ?_
            refine j_if_ne X (tgt := 181) dX10_becomes_173 (by decide) (fun c_173 => ?_) (fun c_173 => ?_)
            · refine j_aload_n X 0 dX10_becomes_181 rfl rfl ?_
              refine j_get X fG_RX10_7 mput_0 rfl rfl dX10_becomes_182 ?_
              refine j_sipush X (v := 552) dX10_becomes_185 (by decide) ?_
              refine j_iload_n X 3 dX10_becomes_188 rfl rfl ?_
              refine j_iadd X dX10_becomes_189 ?_
              refine j_ldM X (in_552 hd) dX10_becomes_190 ?_
              refine j_iconst X (v := 1) dX10_becomes_191 (by decide) ?_
              refine j_isub X dX10_becomes_192 ?_
              refine j_tops (fun v43 ev43 => ?_)
              refine j_istore X (L' := [(5, .int v43), (0, .ref b), (1, .int p), (2, .int s), (3, .int d), (4, .int pr)]) dX10_becomes_193 (by decide) rfl ?_
              refine j_iload X 0 dX10_becomes_195 rfl ?_
              refine j_iload_n X 2 dX10_becomes_197 rfl rfl ?_
              refine j_icmp_ne X (tgt := 203) dX10_becomes_198 (by decide) (fun c_198 => ?_) (fun c_198 => ?_)
              · refine j_iload X 0 dX10_becomes_203 rfl ?_
                refine j_if_lt X (tgt := 240) dX10_becomes_205 (by decide) (fun c_205 => ?_) (fun c_205 => ?_)
                · refine j_aload_n X 1 dX10_becomes_240 rfl rfl ?_
                  refine j_iload_n X 2 dX10_becomes_241 rfl rfl ?_
                  refine j_iconst X (v := 4) dX10_becomes_242 (by decide) ?_
                  refine j_callVi X (rest := []) (c_X10_of l hp (show WH 4 _ from ⟨4, by decide, rfl⟩)) m_yX10_of kM_RX10_44 mput_0 rfl rfl rfl rfl rfl (Nat.le_of_ble_eq_true rfl) ⟨Nat.le_of_ble_eq_true rfl, Nat.le_of_ble_eq_true rfl, Nat.le_of_ble_eq_true rfl, Nat.le_of_ble_eq_true rfl⟩ dX10_becomes_243 ?_
                  refine j_aload_n X 1 dX10_becomes_246 rfl rfl ?_
                  refine j_get X fG_RX10_7 mput_0 rfl rfl dX10_becomes_247 ?_
                  refine j_iconst X (v := 2) dX10_becomes_250 (by decide) ?_
                  refine j_ldM X (vp_in_nI (n := 2) (by decide) (by decide)) dX10_becomes_251 ?_
                  refine j_icmp_lt X (tgt := 263) dX10_becomes_252 (by decide) (fun c_252 => ?_) (fun c_252 => ?_)
                  · refine j_aload_n X 1 dX10_becomes_263 rfl rfl ?_
                    refine j_iload_n X 2 dX10_becomes_264 rfl rfl ?_
                    refine j_iconst X (v := 4) dX10_becomes_265 (by decide) ?_
                    refine j_aload_n X 1 dX10_becomes_266 rfl rfl ?_
                    refine j_iload_n X 2 dX10_becomes_267 rfl rfl ?_
                    refine j_iconst X (v := 4) dX10_becomes_268 (by decide) ?_
                    refine j_callVi X (rest := [.int 4, .int p, .ref b]) (c_X10_of l hp (show WH 4 _ from ⟨4, by decide, rfl⟩)) m_yX10_of kM_RX10_44 mput_0 rfl rfl rfl rfl rfl (Nat.le_of_ble_eq_true rfl) ⟨Nat.le_of_ble_eq_true rfl, Nat.le_of_ble_eq_true rfl, Nat.le_of_ble_eq_true rfl, Nat.le_of_ble_eq_true rfl⟩ dX10_becomes_269 ?_
                    refine j_iconst X (v := 1) dX10_becomes_272 (by decide) ?_
                    refine j_iadd X dX10_becomes_273 ?_
                    refine j_callVv X (rest := []) (c_X10_to l hp (show WH 4 _ from ⟨4, by decide, rfl⟩)) m_yX10_to kM_RX10_32 mput_0 rfl rfl rfl rfl rfl (Nat.le_of_ble_eq_true rfl) ⟨Nat.le_of_ble_eq_true rfl, Nat.le_of_ble_eq_true rfl, Nat.le_of_ble_eq_true rfl, Nat.le_of_ble_eq_true rfl⟩ dX10_becomes_274 ?_
                    refine j_iconst X (v := 0) dX10_becomes_277 (by decide) ?_
                    refine j_istore X (L' := [(6, .int 0), (5, .int v43), (0, .ref b), (1, .int p), (2, .int s), (3, .int d), (4, .int pr)]) dX10_becomes_278 (by decide) rfl ?_
                    have hIb : MIv (mTo (mLn (mMv (msc μ 2 0) p s) p s) p 4 ((mOf (mLn (mMv (msc μ 2 0) p s) p s) p 4) + 1)) := (mi_to hp ⟨4, by decide, by decide, by decide, rfl⟩ (mi_ln hp hs (mi_mv hp hs (mi_msc hI))))
                    have loop280 : ∀ (n k : Nat), k + n = 8 → J P l E { frames := 2, cells := 0, slots := 0, locals := 48 } S0 M0 AR BL ME CO D B 7 (MQ BL (QC (some (.int ((mBec μ p s d pr).1))) D B (z + 0) (mput D h b ((mBec μ p s d pr).2))) AR S0 0 0 (aB B)) 0 0 z (mput D h b (mFl (mTo (mLn (mMv (msc μ 2 0) p s) p s) p 4 ((mOf (mLn (mMv (msc μ 2 0) p s) p s) p 4) + 1)) p s d pr k)) [(0, .ref b), (1, .int p), (2, .int s), (3, .int d), (4, .int pr), (5, .int v43), (6, .int (nI k))] [] 280 := by
                      intro n
                      induction n with
                      | zero =>
                        intro k hk
                        obtain rfl : k = 8 := by omega
                        refine j_iload X 6 dX10_becomes_280 rfl ?_
                        refine j_bipush X (v := 8) dX10_becomes_282 (by decide) ?_
                        refine j_icmp_ge X (tgt := 331) dX10_becomes_284 (by decide) (fun c_284 => ?_) (fun c_284 => absurd c_284 (by decide))
                        refine j_iconst X (v := 3) dX10_becomes_331 (by decide) ?_
                        exact j_iret X hr rfl (by subst ev43; first | (rw [mBec, if_neg c_10, if_pos c_25, if_neg c_41, mB1, if_pos c_106, mB2, if_neg c_127, mB3, if_neg c_173, mB4, if_neg c_198, if_pos c_205, mB5, if_pos c_252]; done) | (rw [mBec, if_neg c_10, if_pos c_25, if_neg c_41, mB1, if_pos c_106, mB2, if_neg c_127, mB3, if_neg c_173, mB4, if_neg c_198, if_pos c_205, mB5, if_pos c_252]; rfl)) rfl (by subst ev43; first | (rw [mBec, if_neg c_10, if_pos c_25, if_neg c_41, mB1, if_pos c_106, mB2, if_neg c_127, mB3, if_neg c_173, mB4, if_neg c_198, if_pos c_205, mB5, if_pos c_252]; done) | (rw [mBec, if_neg c_10, if_pos c_25, if_neg c_41, mB1, if_pos c_106, mB2, if_neg c_127, mB3, if_neg c_173, mB4, if_neg c_198, if_pos c_205, mB5, if_pos c_252]; rfl)) dX10_becomes_332
                      | succ n ih =>
                        intro k hk
                        have hlt : nI k < 8 := nlt_lit (b := 8) (by omega) (by decide)
                        refine j_iload X 6 dX10_becomes_280 rfl ?_
                        refine j_bipush X (v := 8) dX10_becomes_282 (by decide) ?_
                        refine j_icmp_ge X (tgt := 331) dX10_becomes_284 (by decide) (fun c_284 => absurd hlt c_284) (fun c_284 => ?_)
                        refine j_iload X 6 dX10_becomes_287 rfl ?_
                        refine j_iload_n X 1 dX10_becomes_289 rfl rfl ?_
                        refine j_icmp_eq X (tgt := 325) dX10_becomes_290 (by decide) (fun c_290 => ?_) (fun c_290 => ?_)
                        · obtain ⟨v44, ev44⟩ : ∃ y : Int32, (nI k) + 1 = y := ⟨_, rfl⟩
                          refine j_iinc X 6 (k := 1) (v := v44) (L' := [(6, .int v44), (0, .ref b), (1, .int p), (2, .int s), (3, .int d), (4, .int pr), (5, .int v43)]) dX10_becomes_325 rfl (by decide) (by decide) ev44 rfl ?_
                          refine j_goto X (tgt := 280) dX10_becomes_328 (by decide) ?_
                          refine j_sub [1, 2, 3, 4, 5, 6, 0] (L' := [(0, .ref b), (1, .int p), (2, .int s), (3, .int d), (4, .int pr), (5, .int v43), (6, .int (nI (k + 1)))]) (by subst ev44 ev43; first | with_reducible rfl | (simp only [mFl, nI_succ k, if_neg c_10, if_pos c_25, if_neg c_41, if_pos c_106, if_neg c_127, if_neg c_173, if_neg c_198, if_pos c_205, if_pos c_252, if_pos c_284, if_pos c_290]; done) | (simp only [mFl, nI_succ k, if_neg c_10, if_pos c_25, if_neg c_41, if_pos c_106, if_neg c_127, if_neg c_173, if_neg c_198, if_pos c_205, if_pos c_252, if_pos c_284, if_pos c_290]; rfl) | rfl) ?_
                          refine j_heap (h' := mput D h b (mFl (mTo (mLn (mMv (msc μ 2 0) p s) p s) p 4 ((mOf (mLn (mMv (msc μ 2 0) p s) p s) p 4) + 1)) p s d pr (k + 1))) (by subst ev44 ev43; first | with_reducible rfl | (simp only [mFl, nI_succ k, if_neg c_10, if_pos c_25, if_neg c_41, if_pos c_106, if_neg c_127, if_neg c_173, if_neg c_198, if_pos c_205, if_pos c_252, if_pos c_284, if_pos c_290]; done) | (simp only [mFl, nI_succ k, if_neg c_10, if_pos c_25, if_neg c_41, if_pos c_106, if_neg c_127, if_neg c_173, if_neg c_198, if_pos c_205, if_pos c_252, if_pos c_284, if_pos c_290]; rfl) | rfl) ?_
                          exact ih (k + 1) (by omega)
                        · refine j_aload_n X 0 dX10_becomes_293 rfl rfl ?_
                          refine j_iload X 6 dX10_becomes_294 rfl ?_
                          refine j_callVi X (rest := []) (c_X10_isOpen l (po_nI (by omega))) m_yX10_isOpen kM_RX10_48 mput_0 rfl rfl rfl rfl rfl (Nat.le_of_ble_eq_true rfl) ⟨Nat.le_of_ble_eq_true rfl, Nat.le_of_ble_eq_true rfl, Nat.le_of_ble_eq_true rfl, Nat.le_of_ble_eq_true rfl⟩ dX10_becomes_296 ?_
                          refine j_if_eq X (tgt := 325) dX10_becomes_299 (by decide) (fun c_299 => ?_) (fun c_299 => ?_)
                          · obtain ⟨v45, ev45⟩ : ∃ y : Int32, (nI k) + 1 = y := ⟨_, rfl⟩
                            refine j_iinc X 6 (k := 1) (v := v45) (L' := [(6, .int v45), (0, .ref b), (1, .int p), (2, .int s), (3, .int d), (4, .int pr), (5, .int v43)]) dX10_becomes_325 rfl (by decide) (by decide) ev45 rfl ?_
                            refine j_goto X (tgt := 280) dX10_becomes_328 (by decide) ?_
                            refine j_sub [1, 2, 3, 4, 5, 6, 0] (L' := [(0, .ref b), (1, .int p), (2, .int s), (3, .int d), (4, .int pr), (5, .int v43), (6, .int (nI (k + 1)))]) (by subst ev45 ev43; first | with_reducible rfl | (simp only [mFl, nI_succ k, if_neg c_10, if_pos c_25, if_neg c_41, if_pos c_106, if_neg c_127, if_neg c_173, if_neg c_198, if_pos c_205, if_pos c_252, if_pos c_284, if_neg c_290, if_pos c_299]; done) | (simp only [mFl, nI_succ k, if_neg c_10, if_pos c_25, if_neg c_41, if_pos c_106, if_neg c_127, if_neg c_173, if_neg c_198, if_pos c_205, if_pos c_252, if_pos c_284, if_neg c_290, if_pos c_299]; rfl) | rfl) ?_
                            refine j_heap (h' := mput D h b (mFl (mTo (mLn (mMv (msc μ 2 0) p s) p s) p 4 ((mOf (mLn (mMv (msc μ 2 0) p s) p s) p 4) + 1)) p s d pr (k + 1))) (by subst ev45 ev43; first | with_reducible rfl | (simp only [mFl, nI_succ k, if_neg c_10, if_pos c_25, if_neg c_41, if_pos c_106, if_neg c_127, if_neg c_173, if_neg c_198, if_pos c_205, if_pos c_252, if_pos c_284, if_neg c_290, if_pos c_299]; done) | (simp only [mFl, nI_succ k, if_neg c_10, if_pos c_25, if_neg c_41, if_pos c_106, if_neg c_127, if_neg c_173, if_neg c_198, if_pos c_205, if_pos c_252, if_pos c_284, if_neg c_290, if_pos c_299]; rfl) | rfl) ?_
                            exact ih (k + 1) (by omega)
                          · refine j_aload_n X 0 dX10_becomes_302 rfl rfl ?_
                            refine j_dup X dX10_becomes_303 rfl ?_
                            refine j_get X fG_RX10_87 mput_0 rfl rfl dX10_becomes_304 ?_
                            refine j_iconst X (v := 1) dX10_becomes_307 (by decide) ?_
                            refine j_iload X 6 dX10_becomes_308 rfl ?_
                            refine j_ishl X dX10_becomes_310 ?_
                            refine j_ior X dX10_becomes_311 ?_
                            refine j_put X fG_RX10_87 fW_10_6 mput_0 rfl rfl rfl (Nat.le_of_ble_eq_true rfl) dX10_becomes_312 ?_
                            refine j_heap (h' := mput D h b (msc (mFl (mTo (mLn (mMv (msc μ 2 0) p s) p s) p 4 ((mOf (mLn (mMv (msc μ 2 0) p s) p s) p 4) + 1)) p s d pr k) 2 (((mFl (mTo (mLn (mMv (msc μ 2 0) p s) p s) p 4 ((mOf (mLn (mMv (msc μ 2 0) p s) p s) p 4) + 1)) p s d pr k).1 2) ||| (1 <<< ((nI k) &&& 31))))) mput_s2 ?_
                            refine j_aload_n X 0 dX10_becomes_315 rfl rfl ?_
                            refine j_iload X 6 dX10_becomes_316 rfl ?_
                            refine j_iload_n X 2 dX10_becomes_318 rfl rfl ?_
                            refine j_iload_n X 3 dX10_becomes_319 rfl rfl ?_
                            refine j_iload X 4 dX10_becomes_320 rfl ?_
                            refine j_callVv X (rest := []) (c_X10_goesOut l (po_nI (by omega)) (mi_many (po_nI (by omega)) (mi_msc (mi_fl hIb _ (by omega))))) m_yX10_goesOut kM_RX10_102 mput_0 rfl rfl rfl rfl rfl (Nat.le_of_ble_eq_true rfl) ⟨Nat.le_of_ble_eq_true rfl, Nat.le_of_ble_eq_true rfl, Nat.le_of_ble_eq_true rfl, Nat.le_of_ble_eq_true rfl⟩ dX10_becomes_322 ?_
                            obtain ⟨v46, ev46⟩ : ∃ y : Int32, (nI k) + 1 = y := ⟨_, rfl⟩
                            refine j_iinc X 6 (k := 1) (v := v46) (L' := [(6, .int v46), (0, .ref b), (1, .int p), (2, .int s), (3, .int d), (4, .int pr), (5, .int v43)]) dX10_becomes_325 rfl (by decide) (by decide) ev46 rfl ?_
                            refine j_goto X (tgt := 280) dX10_becomes_328 (by decide) ?_
                            refine j_sub [1, 2, 3, 4, 5, 6, 0] (L' := [(0, .ref b), (1, .int p), (2, .int s), (3, .int d), (4, .int pr), (5, .int v43), (6, .int (nI (k + 1)))]) (by subst ev46 ev43; first | with_reducible rfl | (simp only [mFl, nI_succ k, if_neg c_10, if_pos c_25, if_neg c_41, if_pos c_106, if_neg c_127, if_neg c_173, if_neg c_198, if_pos c_205, if_pos c_252, if_pos c_284, if_neg c_290, if_neg c_299]; done) | (simp only [mFl, nI_succ k, if_neg c_10, if_pos c_25, if_neg c_41, if_pos c_106, if_neg c_127, if_neg c_173, if_neg c_198, if_pos c_205, if_pos c_252, if_pos c_284, if_neg c_290, if_neg c_299]; rfl) | rfl) ?_
                            refine j_heap (h' := mput D h b (mFl (mTo (mLn (mMv (msc μ 2 0) p s) p s) p 4 ((mOf (mLn (mMv (msc μ 2 0) p s) p s) p 4) + 1)) p s d pr (k + 1))) (by subst ev46 ev43; first | with_reducible rfl | (simp only [mFl, nI_succ k, if_neg c_10, if_pos c_25, if_neg c_41, if_pos c_106, if_neg c_127, if_neg c_173, if_neg c_198, if_pos c_205, if_pos c_252, if_pos c_284, if_neg c_290, if_neg c_299]; done) | (simp only [mFl, nI_succ k, if_neg c_10, if_pos c_25, if_neg c_41, if_pos c_106, if_neg c_127, if_neg c_173, if_neg c_198, if_pos c_205, if_pos c_252, if_pos c_284, if_neg c_290, if_neg c_299]; rfl) | rfl) ?_
                            exact ih (k + 1) (by omega)
                    refine j_sub [2, 3, 4, 5, 6, 1, 0] (L' := [(0, .ref b), (1, .int p), (2, .int s), (3, .int d), (4, .int pr), (5, .int v43), (6, .int (nI 0))]) (by subst ev43; first | with_reducible rfl | (simp only [mFl, if_neg c_10, if_pos c_25, if_neg c_41, if_pos c_106, if_neg c_127, if_neg c_173, if_neg c_198, if_pos c_205, if_pos c_252]; done) | (simp only [mFl, if_neg c_10, if_pos c_25, if_neg c_41, if_pos c_106, if_neg c_127, if_neg c_173, if_neg c_198, if_pos c_205, if_pos c_252]; rfl) | rfl) ?_
                    refine j_heap (h' := mput D h b (mFl (mTo (mLn (mMv (msc μ 2 0) p s) p s) p 4 ((mOf (mLn (mMv (msc μ 2 0) p s) p s) p 4) + 1)) p s d pr 0)) (by subst ev43; first | with_reducible rfl | (simp only [mFl, if_neg c_10, if_pos c_25, if_neg c_41, if_pos c_106, if_neg c_127, if_neg c_173, if_neg c_198, if_pos c_205, if_pos c_252]; done) | (simp only [mFl, if_neg c_10, if_pos c_25, if_neg c_41, if_pos c_106, if_neg c_127, if_neg c_173, if_neg c_198, if_pos c_205, if_pos c_252]; rfl) | rfl) ?_
                    exact loop280 8 0 rfl
                  · refine j_aload_n X 1 dX10_becomes_255 rfl rfl ?_
                    refine j_iload_n X 2 dX10_becomes_256 rfl rfl ?_
                    refine j_iconst X (v := 2) dX10_becomes_257 (by decide) ?_
                    refine j_callVv X (rest := []) (c_X10_quarantine l hp) m_yX10_quarantine kM_RX10_93 mput_0 rfl rfl rfl rfl rfl (Nat.le_of_ble_eq_true rfl) ⟨Nat.le_of_ble_eq_true rfl, Nat.le_of_ble_eq_true rfl, Nat.le_of_ble_eq_true rfl, Nat.le_of_ble_eq_true rfl⟩ dX10_becomes_258 ?_
                    refine j_iconst X (v := 5) dX10_becomes_261 (by decide) ?_
                    exact j_iret X hr rfl (by subst ev43; first | (rw [mBec, if_neg c_10, if_pos c_25, if_neg c_41, mB1, if_pos c_106, mB2, if_neg c_127, mB3, if_neg c_173, mB4, if_neg c_198, if_pos c_205, mB5, if_neg c_252]; done) | (rw [mBec, if_neg c_10, if_pos c_25, if_neg c_41, mB1, if_pos c_106, mB2, if_neg c_127, mB3, if_neg c_173, mB4, if_neg c_198, if_pos c_205, mB5, if_neg c_252]; rfl)) rfl (by subst ev43; first | (rw [mBec, if_neg c_10, if_pos c_25, if_neg c_41, mB1, if_pos c_106, mB2, if_neg c_127, mB3, if_neg c_173, mB4, if_neg c_198, if_pos c_205, mB5, if_neg c_252]; done) | (rw [mBec, if_neg c_10, if_pos c_25, if_neg c_41, mB1, if_pos c_106, mB2, if_neg c_127, mB3, if_neg c_173, mB4, if_neg c_198, if_pos c_205, mB5, if_neg c_252]; rfl)) dX10_becomes_262
                · have hpt : PO v43 := po_pred (mi_tabv hd (mi_ln hp hs (mi_mv hp hs (mi_msc hI)))) ev43 c_205
                  refine j_aload_n X 1 dX10_becomes_208 rfl rfl ?_
                  refine j_iload X 0 dX10_becomes_209 rfl ?_
                  refine j_callVi X (rest := []) (c_X10_isOpen l hpt) m_yX10_isOpen kM_RX10_48 mput_0 rfl rfl rfl rfl rfl (Nat.le_of_ble_eq_true rfl) ⟨Nat.le_of_ble_eq_true rfl, Nat.le_of_ble_eq_true rfl, Nat.le_of_ble_eq_true rfl, Nat.le_of_ble_eq_true rfl⟩ dX10_becomes_211 ?_
                  refine j_if_ne X (tgt := 220) dX10_becomes_214 (by decide) (fun c_214 => ?_) (fun c_214 => ?_)
                  · refine j_aload_n X 1 dX10_becomes_220 rfl rfl ?_
                    refine j_iconst X (v := 1) dX10_becomes_221 (by decide) ?_
                    refine j_iload X 0 dX10_becomes_222 rfl ?_
                    refine j_ishl X dX10_becomes_224 ?_
                    refine j_put X fG_RX10_87 fW_10_6 mput_0 rfl rfl rfl (Nat.le_of_ble_eq_true rfl) dX10_becomes_225 ?_
                    refine j_heap (h' := mput D h b (msc (mLn (mMv (msc μ 2 0) p s) p s) 2 (1 <<< (v43 &&& 31)))) mput_s2 ?_
                    refine j_aload_n X 1 dX10_becomes_228 rfl rfl ?_
                    refine j_iload X 0 dX10_becomes_229 rfl ?_
                    refine j_iload_n X 3 dX10_becomes_231 rfl rfl ?_
                    refine j_iload_n X 4 dX10_becomes_232 rfl rfl ?_
                    refine j_iload X 5 dX10_becomes_233 rfl ?_
                    refine j_callVv X (rest := []) (c_X10_goesOut l hpt (mi_many hpt (mi_msc (mi_ln hp hs (mi_mv hp hs (mi_msc hI)))))) m_yX10_goesOut kM_RX10_102 mput_0 rfl rfl rfl rfl rfl (Nat.le_of_ble_eq_true rfl) ⟨Nat.le_of_ble_eq_true rfl, Nat.le_of_ble_eq_true rfl, Nat.le_of_ble_eq_true rfl, Nat.le_of_ble_eq_true rfl⟩ dX10_becomes_235 ?_
                    refine j_iconst X (v := 2) dX10_becomes_238 (by decide) ?_
                    exact j_iret X hr rfl (by subst ev43; first | (rw [mBec, if_neg c_10, if_pos c_25, if_neg c_41, mB1, if_pos c_106, mB2, if_neg c_127, mB3, if_neg c_173, mB4, if_neg c_198, if_neg c_205, if_neg c_214]; done) | (rw [mBec, if_neg c_10, if_pos c_25, if_neg c_41, mB1, if_pos c_106, mB2, if_neg c_127, mB3, if_neg c_173, mB4, if_neg c_198, if_neg c_205, if_neg c_214]; rfl)) rfl (by subst ev43; first | (rw [mBec, if_neg c_10, if_pos c_25, if_neg c_41, mB1, if_pos c_106, mB2, if_neg c_127, mB3, if_neg c_173, mB4, if_neg c_198, if_neg c_205, if_neg c_214]; done) | (rw [mBec, if_neg c_10, if_pos c_25, if_neg c_41, mB1, if_pos c_106, mB2, if_neg c_127, mB3, if_neg c_173, mB4, if_neg c_198, if_neg c_205, if_neg c_214]; rfl)) dX10_becomes_239
                  · refine j_bipush X (v := 6) dX10_becomes_217 (by decide) ?_
                    exact j_iret X hr rfl (by subst ev43; first | (rw [mBec, if_neg c_10, if_pos c_25, if_neg c_41, mB1, if_pos c_106, mB2, if_neg c_127, mB3, if_neg c_173, mB4, if_neg c_198, if_neg c_205, if_pos c_214]; done) | (rw [mBec, if_neg c_10, if_pos c_25, if_neg c_41, mB1, if_pos c_106, mB2, if_neg c_127, mB3, if_neg c_173, mB4, if_neg c_198, if_neg c_205, if_pos c_214]; rfl)) rfl (by subst ev43; first | (rw [mBec, if_neg c_10, if_pos c_25, if_neg c_41, mB1, if_pos c_106, mB2, if_neg c_127, mB3, if_neg c_173, mB4, if_neg c_198, if_neg c_205, if_pos c_214]; done) | (rw [mBec, if_neg c_10, if_pos c_25, if_neg c_41, mB1, if_pos c_106, mB2, if_neg c_127, mB3, if_neg c_173, mB4, if_neg c_198, if_neg c_205, if_pos c_214]; rfl)) dX10_becomes_219
              · refine j_iconst X (v := 1) dX10_becomes_201 (by decide) ?_
                exact j_iret X hr rfl (by subst ev43; first | (rw [mBec, if_neg c_10, if_pos c_25, if_neg c_41, mB1, if_pos c_106, mB2, if_neg c_127, mB3, if_neg c_173, mB4, if_pos c_198]; done) | (rw [mBec, if_neg c_10, if_pos c_25, if_neg c_41, mB1, if_pos c_106, mB2, if_neg c_127, mB3, if_neg c_173, mB4, if_pos c_198]; rfl)) rfl (by subst ev43; first | (rw [mBec, if_neg c_10, if_pos c_25, if_neg c_41, mB1, if_pos c_106, mB2, if_neg c_127, mB3, if_neg c_173, mB4, if_pos c_198]; done) | (rw [mBec, if_neg c_10, if_pos c_25, if_neg c_41, mB1, if_pos c_106, mB2, if_neg c_127, mB3, if_neg c_173, mB4, if_pos c_198]; rfl)) dX10_becomes_202
            · refine j_bipush X (v := (-4)) dX10_becomes_176 (by decide) ?_
              refine j_goto X (tgt := 193) dX10_becomes_178 (by decide) ?_
              refine j_istore X (L' := [(5, .int (-4)), (0, .ref b), (1, .int p), (2, .int s), (3, .int d), (4, .int pr)]) dX10_becomes_193 (by decide) rfl ?_
              refine j_iload X 0 dX10_becomes_195 rfl ?_
              refine j_iload_n X 2 dX10_becomes_197 rfl rfl ?_
              refine j_icmp_ne X (tgt := 203) dX10_becomes_198 (by decide) (fun c_198 => ?_) (fun c_198 => ?_)
              · refine j_iload X 0 dX10_becomes_203 rfl ?_
                refine j_if_lt X (tgt := 240) dX10_becomes_205 (by decide) (fun _ => ?_) (fun c_ => absurd (by decide) c_)
                refine j_aload_n X 1 dX10_becomes_240 rfl rfl ?_
                refine j_iload_n X 2 dX10_becomes_241 rfl rfl ?_
                refine j_iconst X (v := 4) dX10_becomes_242 (by decide) ?_
                refine j_callVi X (rest := []) (c_X10_of l hp (show WH 4 _ from ⟨4, by decide, rfl⟩)) m_yX10_of kM_RX10_44 mput_0 rfl rfl rfl rfl rfl (Nat.le_of_ble_eq_true rfl) ⟨Nat.le_of_ble_eq_true rfl, Nat.le_of_ble_eq_true rfl, Nat.le_of_ble_eq_true rfl, Nat.le_of_ble_eq_true rfl⟩ dX10_becomes_243 ?_
                refine j_aload_n X 1 dX10_becomes_246 rfl rfl ?_
                refine j_get X fG_RX10_7 mput_0 rfl rfl dX10_becomes_247 ?_
                refine j_iconst X (v := 2) dX10_becomes_250 (by decide) ?_
                refine j_ldM X (vp_in_nI (n := 2) (by decide) (by decide)) dX10_becomes_251 ?_
                refine j_icmp_lt X (tgt := 263) dX10_becomes_252 (by decide) (fun c_252 => ?_) (fun c_252 => ?_)
                · refine j_aload_n X 1 dX10_becomes_263 rfl rfl ?_
                  refine j_iload_n X 2 dX10_becomes_264 rfl rfl ?_
                  refine j_iconst X (v := 4) dX10_becomes_265 (by decide) ?_
                  refine j_aload_n X 1 dX10_becomes_266 rfl rfl ?_
                  refine j_iload_n X 2 dX10_becomes_267 rfl rfl ?_
                  refine j_iconst X (v := 4) dX10_becomes_268 (by decide) ?_
                  refine j_callVi X (rest := [.int 4, .int p, .ref b]) (c_X10_of l hp (show WH 4 _ from ⟨4, by decide, rfl⟩)) m_yX10_of kM_RX10_44 mput_0 rfl rfl rfl rfl rfl (Nat.le_of_ble_eq_true rfl) ⟨Nat.le_of_ble_eq_true rfl, Nat.le_of_ble_eq_true rfl, Nat.le_of_ble_eq_true rfl, Nat.le_of_ble_eq_true rfl⟩ dX10_becomes_269 ?_
                  refine j_iconst X (v := 1) dX10_becomes_272 (by decide) ?_
                  refine j_iadd X dX10_becomes_273 ?_
                  refine j_callVv X (rest := []) (c_X10_to l hp (show WH 4 _ from ⟨4, by decide, rfl⟩)) m_yX10_to kM_RX10_32 mput_0 rfl rfl rfl rfl rfl (Nat.le_of_ble_eq_true rfl) ⟨Nat.le_of_ble_eq_true rfl, Nat.le_of_ble_eq_true rfl, Nat.le_of_ble_eq_true rfl, Nat.le_of_ble_eq_true rfl⟩ dX10_becomes_274 ?_
                  refine j_iconst X (v := 0) dX10_becomes_277 (by decide) ?_
                  refine j_istore X (L' := [(6, .int 0), (5, .int (-4)), (0, .ref b), (1, .int p), (2, .int s), (3, .int d), (4, .int pr)]) dX10_becomes_278 (by decide) rfl ?_
                  have hIb : MIv (mTo (mLn (mMv (msc μ 2 0) p s) p s) p 4 ((mOf (mLn (mMv (msc μ 2 0) p s) p s) p 4) + 1)) := (mi_to hp ⟨4, by decide, by decide, by decide, rfl⟩ (mi_ln hp hs (mi_mv hp hs (mi_msc hI))))
                  have loop280 : ∀ (n k : Nat), k + n = 8 → J P l E { frames := 2, cells := 0, slots := 0, locals := 48 } S0 M0 AR BL ME CO D B 7 (MQ BL (QC (some (.int ((mBec μ p s d pr).1))) D B (z + 0) (mput D h b ((mBec μ p s d pr).2))) AR S0 0 0 (aB B)) 0 0 z (mput D h b (mFl (mTo (mLn (mMv (msc μ 2 0) p s) p s) p 4 ((mOf (mLn (mMv (msc μ 2 0) p s) p s) p 4) + 1)) p s d pr k)) [(0, .ref b), (1, .int p), (2, .int s), (3, .int d), (4, .int pr), (5, .int (-4)), (6, .int (nI k))] [] 280 := by
                    intro n
                    induction n with
                    | zero =>
                      intro k hk
                      obtain rfl : k = 8 := by omega
                      refine j_iload X 6 dX10_becomes_280 rfl ?_
                      refine j_bipush X (v := 8) dX10_becomes_282 (by decide) ?_
                      refine j_icmp_ge X (tgt := 331) dX10_becomes_284 (by decide) (fun c_284 => ?_) (fun c_284 => absurd c_284 (by decide))
                      refine j_iconst X (v := 3) dX10_becomes_331 (by decide) ?_
                      exact j_iret X hr rfl (by first | (rw [mBec, if_neg c_10, if_pos c_25, if_neg c_41, mB1, if_pos c_106, mB2, if_neg c_127, mB3, if_pos c_173, mB4, if_neg c_198, if_pos (show (-4 : Int32) < 0 by decide), mB5, if_pos c_252]; done) | (rw [mBec, if_neg c_10, if_pos c_25, if_neg c_41, mB1, if_pos c_106, mB2, if_neg c_127, mB3, if_pos c_173, mB4, if_neg c_198, if_pos (show (-4 : Int32) < 0 by decide), mB5, if_pos c_252]; rfl)) rfl (by first | (rw [mBec, if_neg c_10, if_pos c_25, if_neg c_41, mB1, if_pos c_106, mB2, if_neg c_127, mB3, if_pos c_173, mB4, if_neg c_198, if_pos (show (-4 : Int32) < 0 by decide), mB5, if_pos c_252]; done) | (rw [mBec, if_neg c_10, if_pos c_25, if_neg c_41, mB1, if_pos c_106, mB2, if_neg c_127, mB3, if_pos c_173, mB4, if_neg c_198, if_pos (show (-4 : Int32) < 0 by decide), mB5, if_pos c_252]; rfl)) dX10_becomes_332
                    | succ n ih =>
                      intro k hk
                      have hlt : nI k < 8 := nlt_lit (b := 8) (by omega) (by decide)
                      refine j_iload X 6 dX10_becomes_280 rfl ?_
                      refine j_bipush X (v := 8) dX10_becomes_282 (by decide) ?_
                      refine j_icmp_ge X (tgt := 331) dX10_becomes_284 (by decide) (fun c_284 => absurd hlt c_284) (fun c_284 => ?_)
                      refine j_iload X 6 dX10_becomes_287 rfl ?_
                      refine j_iload_n X 1 dX10_becomes_289 rfl rfl ?_
                      refine j_icmp_eq X (tgt := 325) dX10_becomes_290 (by decide) (fun c_290 => ?_) (fun c_290 => ?_)
                      · obtain ⟨v47, ev47⟩ : ∃ y : Int32, (nI k) + 1 = y := ⟨_, rfl⟩
                        refine j_iinc X 6 (k := 1) (v := v47) (L' := [(6, .int v47), (0, .ref b), (1, .int p), (2, .int s), (3, .int d), (4, .int pr), (5, .int (-4))]) dX10_becomes_325 rfl (by decide) (by decide) ev47 rfl ?_
                        refine j_goto X (tgt := 280) dX10_becomes_328 (by decide) ?_
                        refine j_sub [1, 2, 3, 4, 5, 6, 0] (L' := [(0, .ref b), (1, .int p), (2, .int s), (3, .int d), (4, .int pr), (5, .int (-4)), (6, .int (nI (k + 1)))]) (by subst ev47; first | with_reducible rfl | (simp only [mFl, nI_succ k, if_neg c_10, if_pos c_25, if_neg c_41, if_pos c_106, if_neg c_127, if_pos c_173, if_neg c_198, if_pos c_252, if_pos c_284, if_pos c_290]; done) | (simp only [mFl, nI_succ k, if_neg c_10, if_pos c_25, if_neg c_41, if_pos c_106, if_neg c_127, if_pos c_173, if_neg c_198, if_pos c_252, if_pos c_284, if_pos c_290]; rfl) | rfl) ?_
                        refine j_heap (h' := mput D h b (mFl (mTo (mLn (mMv (msc μ 2 0) p s) p s) p 4 ((mOf (mLn (mMv (msc μ 2 0) p s) p s) p 4) + 1)) p s d pr (k + 1))) (by subst ev47; first | with_reducible rfl | (simp only [mFl, nI_succ k, if_neg c_10, if_pos c_25, if_neg c_41, if_pos c_106, if_neg c_127, if_pos c_173, if_neg c_198, if_pos c_252, if_pos c_284, if_pos c_290]; done) | (simp only [mFl, nI_succ k, if_neg c_10, if_pos c_25, if_neg c_41, if_pos c_106, if_neg c_127, if_pos c_173, if_neg c_198, if_pos c_252, if_pos c_284, if_pos c_290]; rfl) | rfl) ?_
                        exact ih (k + 1) (by omega)
                      · refine j_aload_n X 0 dX10_becomes_293 rfl rfl ?_
                        refine j_iload X 6 dX10_becomes_294 rfl ?_
                        refine j_callVi X (rest := []) (c_X10_isOpen l (po_nI (by omega))) m_yX10_isOpen kM_RX10_48 mput_0 rfl rfl rfl rfl rfl (Nat.le_of_ble_eq_true rfl) ⟨Nat.le_of_ble_eq_true rfl, Nat.le_of_ble_eq_true rfl, Nat.le_of_ble_eq_true rfl, Nat.le_of_ble_eq_true rfl⟩ dX10_becomes_296 ?_
                        refine j_if_eq X (tgt := 325) dX10_becomes_299 (by decide) (fun c_299 => ?_) (fun c_299 => ?_)
                        · obtain ⟨v48, ev48⟩ : ∃ y : Int32, (nI k) + 1 = y := ⟨_, rfl⟩
                          refine j_iinc X 6 (k := 1) (v := v48) (L' := [(6, .int v48), (0, .ref b), (1, .int p), (2, .int s), (3, .int d), (4, .int pr), (5, .int (-4))]) dX10_becomes_325 rfl (by decide) (by decide) ev48 rfl ?_
                          refine j_goto X (tgt := 280) dX10_becomes_328 (by decide) ?_
                          refine j_sub [1, 2, 3, 4, 5, 6, 0] (L' := [(0, .ref b), (1, .int p), (2, .int s), (3, .int d), (4, .int pr), (5, .int (-4)), (6, .int (nI (k + 1)))]) (by subst ev48; first | with_reducible rfl | (simp only [mFl, nI_succ k, if_neg c_10, if_pos c_25, if_neg c_41, if_pos c_106, if_neg c_127, if_pos c_173, if_neg c_198, if_pos c_252, if_pos c_284, if_neg c_290, if_pos c_299]; done) | (simp only [mFl, nI_succ k, if_neg c_10, if_pos c_25, if_neg c_41, if_pos c_106, if_neg c_127, if_pos c_173, if_neg c_198, if_pos c_252, if_pos c_284, if_neg c_290, if_pos c_299]; rfl) | rfl) ?_
                          refine j_heap (h' := mput D h b (mFl (mTo (mLn (mMv (msc μ 2 0) p s) p s) p 4 ((mOf (mLn (mMv (msc μ 2 0) p s) p s) p 4) + 1)) p s d pr (k + 1))) (by subst ev48; first | with_reducible rfl | (simp only [mFl, nI_succ k, if_neg c_10, if_pos c_25, if_neg c_41, if_pos c_106, if_neg c_127, if_pos c_173, if_neg c_198, if_pos c_252, if_pos c_284, if_neg c_290, if_pos c_299]; done) | (simp only [mFl, nI_succ k, if_neg c_10, if_pos c_25, if_neg c_41, if_pos c_106, if_neg c_127, if_pos c_173, if_neg c_198, if_pos c_252, if_pos c_284, if_neg c_290, if_pos c_299]; rfl) | rfl) ?_
                          exact ih (k + 1) (by omega)
                        · refine j_aload_n X 0 dX10_becomes_302 rfl rfl ?_
                          refine j_dup X dX10_becomes_303 rfl ?_
                          refine j_get X fG_RX10_87 mput_0 rfl rfl dX10_becomes_304 ?_
                          refine j_iconst X (v := 1) dX10_becomes_307 (by decide) ?_
                          refine j_iload X 6 dX10_becomes_308 rfl ?_
                          refine j_ishl X dX10_becomes_310 ?_
                          refine j_ior X dX10_becomes_311 ?_
                          refine j_put X fG_RX10_87 fW_10_6 mput_0 rfl rfl rfl (Nat.le_of_ble_eq_true rfl) dX10_becomes_312 ?_
                          refine j_heap (h' := mput D h b (msc (mFl (mTo (mLn (mMv (msc μ 2 0) p s) p s) p 4 ((mOf (mLn (mMv (msc μ 2 0) p s) p s) p 4) + 1)) p s d pr k) 2 (((mFl (mTo (mLn (mMv (msc μ 2 0) p s) p s) p 4 ((mOf (mLn (mMv (msc μ 2 0) p s) p s) p 4) + 1)) p s d pr k).1 2) ||| (1 <<< ((nI k) &&& 31))))) mput_s2 ?_
                          refine j_aload_n X 0 dX10_becomes_315 rfl rfl ?_
                          refine j_iload X 6 dX10_becomes_316 rfl ?_
                          refine j_iload_n X 2 dX10_becomes_318 rfl rfl ?_
                          refine j_iload_n X 3 dX10_becomes_319 rfl rfl ?_
                          refine j_iload X 4 dX10_becomes_320 rfl ?_
                          refine j_callVv X (rest := []) (c_X10_goesOut l (po_nI (by omega)) (mi_many (po_nI (by omega)) (mi_msc (mi_fl hIb _ (by omega))))) m_yX10_goesOut kM_RX10_102 mput_0 rfl rfl rfl rfl rfl (Nat.le_of_ble_eq_true rfl) ⟨Nat.le_of_ble_eq_true rfl, Nat.le_of_ble_eq_true rfl, Nat.le_of_ble_eq_true rfl, Nat.le_of_ble_eq_true rfl⟩ dX10_becomes_322 ?_
                          obtain ⟨v49, ev49⟩ : ∃ y : Int32, (nI k) + 1 = y := ⟨_, rfl⟩
                          refine j_iinc X 6 (k := 1) (v := v49) (L' := [(6, .int v49), (0, .ref b), (1, .int p), (2, .int s), (3, .int d), (4, .int pr), (5, .int (-4))]) dX10_becomes_325 rfl (by decide) (by decide) ev49 rfl ?_
                          refine j_goto X (tgt := 280) dX10_becomes_328 (by decide) ?_
                          refine j_sub [1, 2, 3, 4, 5, 6, 0] (L' := [(0, .ref b), (1, .int p), (2, .int s), (3, .int d), (4, .int pr), (5, .int (-4)), (6, .int (nI (k + 1)))]) (by subst ev49; first | with_reducible rfl | (simp only [mFl, nI_succ k, if_neg c_10, if_pos c_25, if_neg c_41, if_pos c_106, if_neg c_127, if_pos c_173, if_neg c_198, if_pos c_252, if_pos c_284, if_neg c_290, if_neg c_299]; done) | (simp only [mFl, nI_succ k, if_neg c_10, if_pos c_25, if_neg c_41, if_pos c_106, if_neg c_127, if_pos c_173, if_neg c_198, if_pos c_252, if_pos c_284, if_neg c_290, if_neg c_299]; rfl) | rfl) ?_
                          refine j_heap (h' := mput D h b (mFl (mTo (mLn (mMv (msc μ 2 0) p s) p s) p 4 ((mOf (mLn (mMv (msc μ 2 0) p s) p s) p 4) + 1)) p s d pr (k + 1))) (by subst ev49; first | with_reducible rfl | (simp only [mFl, nI_succ k, if_neg c_10, if_pos c_25, if_neg c_41, if_pos c_106, if_neg c_127, if_pos c_173, if_neg c_198, if_pos c_252, if_pos c_284, if_neg c_290, if_neg c_299]; done) | (simp only [mFl, nI_succ k, if_neg c_10, if_pos c_25, if_neg c_41, if_pos c_106, if_neg c_127, if_pos c_173, if_neg c_198, if_pos c_252, if_pos c_284, if_neg c_290, if_neg c_299]; rfl) | rfl) ?_
                          exact ih (k + 1) (by omega)
                  refine j_sub [2, 3, 4, 5, 6, 1, 0] (L' := [(0, .ref b), (1, .int p), (2, .int s), (3, .int d), (4, .int pr), (5, .int (-4)), (6, .int (nI 0))]) (by first | with_reducible rfl | (simp only [mFl, if_neg c_10, if_pos c_25, if_neg c_41, if_pos c_106, if_neg c_127, if_pos c_173, if_neg c_198, if_pos c_252]; done) | (simp only [mFl, if_neg c_10, if_pos c_25, if_neg c_41, if_pos c_106, if_neg c_127, if_pos c_173, if_neg c_198, if_pos c_252]; rfl) | rfl) ?_
                  refine j_heap (h' := mput D h b (mFl (mTo (mLn (mMv (msc μ 2 0) p s) p s) p 4 ((mOf (mLn (mMv (msc μ 2 0) p s) p s) p 4) + 1)) p s d pr 0)) (by first | with_reducible rfl | (simp only [mFl, if_neg c_10, if_pos c_25, if_neg c_41, if_pos c_106, if_neg c_127, if_pos c_173, if_neg c_198, if_pos c_252]; done) | (simp only [mFl, if_neg c_10, if_pos c_25, if_neg c_41, if_pos c_106, if_neg c_127, if_pos c_173, if_neg c_198, if_pos c_252]; rfl) | rfl) ?_
                  exact loop280 8 0 rfl
                · refine j_aload_n X 1 dX10_becomes_255 rfl rfl ?_
                  refine j_iload_n X 2 dX10_becomes_256 rfl rfl ?_
                  refine j_iconst X (v := 2) dX10_becomes_257 (by decide) ?_
                  refine j_callVv X (rest := []) (c_X10_quarantine l hp) m_yX10_quarantine kM_RX10_93 mput_0 rfl rfl rfl rfl rfl (Nat.le_of_ble_eq_true rfl) ⟨Nat.le_of_ble_eq_true rfl, Nat.le_of_ble_eq_true rfl, Nat.le_of_ble_eq_true rfl, Nat.le_of_ble_eq_true rfl⟩ dX10_becomes_258 ?_
                  refine j_iconst X (v := 5) dX10_becomes_261 (by decide) ?_
                  exact j_iret X hr rfl (by first | (rw [mBec, if_neg c_10, if_pos c_25, if_neg c_41, mB1, if_pos c_106, mB2, if_neg c_127, mB3, if_pos c_173, mB4, if_neg c_198, if_pos (show (-4 : Int32) < 0 by decide), mB5, if_neg c_252]; done) | (rw [mBec, if_neg c_10, if_pos c_25, if_neg c_41, mB1, if_pos c_106, mB2, if_neg c_127, mB3, if_pos c_173, mB4, if_neg c_198, if_pos (show (-4 : Int32) < 0 by decide), mB5, if_neg c_252]; rfl)) rfl (by first | (rw [mBec, if_neg c_10, if_pos c_25, if_neg c_41, mB1, if_pos c_106, mB2, if_neg c_127, mB3, if_pos c_173, mB4, if_neg c_198, if_pos (show (-4 : Int32) < 0 by decide), mB5, if_neg c_252]; done) | (rw [mBec, if_neg c_10, if_pos c_25, if_neg c_41, mB1, if_pos c_106, mB2, if_neg c_127, mB3, if_pos c_173, mB4, if_neg c_198, if_pos (show (-4 : Int32) < 0 by decide), mB5, if_neg c_252]; rfl)) dX10_becomes_262
              · refine j_iconst X (v := 1) dX10_becomes_201 (by decide) ?_
                exact j_iret X hr rfl (by first | (rw [mBec, if_neg c_10, if_pos c_25, if_neg c_41, mB1, if_pos c_106, mB2, if_neg c_127, mB3, if_pos c_173, mB4, if_pos c_198]; done) | (rw [mBec, if_neg c_10, if_pos c_25, if_neg c_41, mB1, if_pos c_106, mB2, if_neg c_127, mB3, if_pos c_173, mB4, if_pos c_198]; rfl)) rfl (by first | (rw [mBec, if_neg c_10, if_pos c_25, if_neg c_41, mB1, if_pos c_106, mB2, if_neg c_127, mB3, if_pos c_173, mB4, if_pos c_198]; done) | (rw [mBec, if_neg c_10, if_pos c_25, if_neg c_41, mB1, if_pos c_106, mB2, if_neg c_127, mB3, if_pos c_173, mB4, if_pos c_198]; rfl)) dX10_becomes_202
          · refine j_aload_n X 0 dX10_becomes_130 rfl rfl ?_
            refine j_callVi X (rest := []) (c_X10_entries l) m_yX10_entries kM_RX10_96 mput_0 rfl rfl rfl rfl rfl (Nat.le_of_ble_eq_true rfl) ⟨Nat.le_of_ble_eq_true rfl, Nat.le_of_ble_eq_true rfl, Nat.le_of_ble_eq_true rfl, Nat.le_of_ble_eq_true rfl⟩ dX10_becomes_131 ?_
            refine j_bipush X (v := 20) dX10_becomes_134 (by decide) ?_
            refine j_icmp_ne X (tgt := 143) dX10_becomes_136 (by decide) (fun c_136 => ?_) (fun c_136 => ?_)
            · refine j_aload_n X 0 dX10_becomes_143 rfl rfl ?_
              refine j_get X fG_RX10_7 mput_0 rfl rfl dX10_becomes_144 ?_
              refine j_sipush X (v := 552) dX10_becomes_147 (by decide) ?_
              refine j_iload_n X 2 dX10_becomes_150 rfl rfl ?_
              refine j_iadd X dX10_becomes_151 ?_
              refine j_iload_n X 1 dX10_becomes_152 rfl rfl ?_
              refine j_iconst X (v := 1) dX10_becomes_153 (by decide) ?_
              refine j_iadd X dX10_becomes_154 ?_
              refine j_stM X (in_552 hs) dX10_becomes_155 ?_
              refine j_aload_n X 0 dX10_becomes_156 rfl rfl ?_
              refine j_get X fG_RX10_7 mput_0 rfl rfl dX10_becomes_157 ?_
              refine j_sipush X (v := 652) dX10_becomes_160 (by decide) ?_
              refine j_iload_n X 2 dX10_becomes_163 rfl rfl ?_
              refine j_iadd X dX10_becomes_164 ?_
              refine j_aload_n X 0 dX10_becomes_165 rfl rfl ?_
              refine j_get X fG_RX10_7 mput_0 rfl rfl dX10_becomes_166 ?_
              refine j_iconst X (v := 4) dX10_becomes_169 (by decide) ?_
              refine j_ldM X (vp_in_nI (n := 4) (by decide) (by decide)) dX10_becomes_170 ?_
              refine j_stM X (in_652 hs) dX10_becomes_171 ?_
              refine j_heap (h' := mput D h b (mLn (mMv (msc μ 2 0) p s) p s)) rfl ?_
              refine j_iload_n X 3 dX10_becomes_172 rfl rfl ?_
              refine j_if_ne X (tgt := 181) dX10_becomes_173 (by decide) (fun c_173 => ?_) (fun c_173 => ?_)
              · refine j_aload_n X 0 dX10_becomes_181 rfl rfl ?_
                refine j_get X fG_RX10_7 mput_0 rfl rfl dX10_becomes_182 ?_
                refine j_sipush X (v := 552) dX10_becomes_185 (by decide) ?_
                refine j_iload_n X 3 dX10_becomes_188 rfl rfl ?_
                refine j_iadd X dX10_becomes_189 ?_
                refine j_ldM X (in_552 hd) dX10_becomes_190 ?_
                refine j_iconst X (v := 1) dX10_becomes_191 (by decide) ?_
                refine j_isub X dX10_becomes_192 ?_
                refine j_tops (fun v50 ev50 => ?_)
                refine j_istore X (L' := [(5, .int v50), (0, .ref b), (1, .int p), (2, .int s), (3, .int d), (4, .int pr)]) dX10_becomes_193 (by decide) rfl ?_
                refine j_iload X 0 dX10_becomes_195 rfl ?_
                refine j_iload_n X 2 dX10_becomes_197 rfl rfl ?_
                refine j_icmp_ne X (tgt := 203) dX10_becomes_198 (by decide) (fun c_198 => ?_) (fun c_198 => ?_)
                · refine j_iload X 0 dX10_becomes_203 rfl ?_
                  refine j_if_lt X (tgt := 240) dX10_becomes_205 (by decide) (fun c_205 => ?_) (fun c_205 => ?_)
                  · refine j_aload_n X 1 dX10_becomes_240 rfl rfl ?_
                    refine j_iload_n X 2 dX10_becomes_241 rfl rfl ?_
                    refine j_iconst X (v := 4) dX10_becomes_242 (by decide) ?_
                    refine j_callVi X (rest := []) (c_X10_of l hp (show WH 4 _ from ⟨4, by decide, rfl⟩)) m_yX10_of kM_RX10_44 mput_0 rfl rfl rfl rfl rfl (Nat.le_of_ble_eq_true rfl) ⟨Nat.le_of_ble_eq_true rfl, Nat.le_of_ble_eq_true rfl, Nat.le_of_ble_eq_true rfl, Nat.le_of_ble_eq_true rfl⟩ dX10_becomes_243 ?_
                    refine j_aload_n X 1 dX10_becomes_246 rfl rfl ?_
                    refine j_get X fG_RX10_7 mput_0 rfl rfl dX10_becomes_247 ?_
                    refine j_iconst X (v := 2) dX10_becomes_250 (by decide) ?_
                    refine j_ldM X (vp_in_nI (n := 2) (by decide) (by decide)) dX10_becomes_251 ?_
                    refine j_icmp_lt X (tgt := 263) dX10_becomes_252 (by decide) (fun c_252 => ?_) (fun c_252 => ?_)
                    · refine j_aload_n X 1 dX10_becomes_263 rfl rfl ?_
                      refine j_iload_n X 2 dX10_becomes_264 rfl rfl ?_
                      refine j_iconst X (v := 4) dX10_becomes_265 (by decide) ?_
                      refine j_aload_n X 1 dX10_becomes_266 rfl rfl ?_
                      refine j_iload_n X 2 dX10_becomes_267 rfl rfl ?_
                      refine j_iconst X (v := 4) dX10_becomes_268 (by decide) ?_
                      refine j_callVi X (rest := [.int 4, .int p, .ref b]) (c_X10_of l hp (show WH 4 _ from ⟨4, by decide, rfl⟩)) m_yX10_of kM_RX10_44 mput_0 rfl rfl rfl rfl rfl (Nat.le_of_ble_eq_true rfl) ⟨Nat.le_of_ble_eq_true rfl, Nat.le_of_ble_eq_true rfl, Nat.le_of_ble_eq_true rfl, Nat.le_of_ble_eq_true rfl⟩ dX10_becomes_269 ?_
                      refine j_iconst X (v := 1) dX10_becomes_272 (by decide) ?_
                      refine j_iadd X dX10_becomes_273 ?_
                      refine j_callVv X (rest := []) (c_X10_to l hp (show WH 4 _ from ⟨4, by decide, rfl⟩)) m_yX10_to kM_RX10_32 mput_0 rfl rfl rfl rfl rfl (Nat.le_of_ble_eq_true rfl) ⟨Nat.le_of_ble_eq_true rfl, Nat.le_of_ble_eq_true rfl, Nat.le_of_ble_eq_true rfl, Nat.le_of_ble_eq_true rfl⟩ dX10_becomes_274 ?_
                      refine j_iconst X (v := 0) dX10_becomes_277 (by decide) ?_
                      refine j_istore X (L' := [(6, .int 0), (5, .int v50), (0, .ref b), (1, .int p), (2, .int s), (3, .int d), (4, .int pr)]) dX10_becomes_278 (by decide) rfl ?_
                      have hIb : MIv (mTo (mLn (mMv (msc μ 2 0) p s) p s) p 4 ((mOf (mLn (mMv (msc μ 2 0) p s) p s) p 4) + 1)) := (mi_to hp ⟨4, by decide, by decide, by decide, rfl⟩ (mi_ln hp hs (mi_mv hp hs (mi_msc hI))))
                      have loop280 : ∀ (n k : Nat), k + n = 8 → J P l E { frames := 2, cells := 0, slots := 0, locals := 48 } S0 M0 AR BL ME CO D B 7 (MQ BL (QC (some (.int ((mBec μ p s d pr).1))) D B (z + 0) (mput D h b ((mBec μ p s d pr).2))) AR S0 0 0 (aB B)) 0 0 z (mput D h b (mFl (mTo (mLn (mMv (msc μ 2 0) p s) p s) p 4 ((mOf (mLn (mMv (msc μ 2 0) p s) p s) p 4) + 1)) p s d pr k)) [(0, .ref b), (1, .int p), (2, .int s), (3, .int d), (4, .int pr), (5, .int v50), (6, .int (nI k))] [] 280 := by
                        intro n
                        induction n with
                        | zero =>
                          intro k hk
                          obtain rfl : k = 8 := by omega
                          refine j_iload X 6 dX10_becomes_280 rfl ?_
                          refine j_bipush X (v := 8) dX10_becomes_282 (by decide) ?_
                          refine j_icmp_ge X (tgt := 331) dX10_becomes_284 (by decide) (fun c_284 => ?_) (fun c_284 => absurd c_284 (by decide))
                          refine j_iconst X (v := 3) dX10_becomes_331 (by decide) ?_
                          exact j_iret X hr rfl (by subst ev50; first | (rw [mBec, if_neg c_10, if_pos c_25, if_neg c_41, mB1, if_pos c_106, mB2, if_pos c_127, if_neg c_136, mB3, if_neg c_173, mB4, if_neg c_198, if_pos c_205, mB5, if_pos c_252]; done) | (rw [mBec, if_neg c_10, if_pos c_25, if_neg c_41, mB1, if_pos c_106, mB2, if_pos c_127, if_neg c_136, mB3, if_neg c_173, mB4, if_neg c_198, if_pos c_205, mB5, if_pos c_252]; rfl)) rfl (by subst ev50; first | (rw [mBec, if_neg c_10, if_pos c_25, if_neg c_41, mB1, if_pos c_106, mB2, if_pos c_127, if_neg c_136, mB3, if_neg c_173, mB4, if_neg c_198, if_pos c_205, mB5, if_pos c_252]; done) | (rw [mBec, if_neg c_10, if_pos c_25, if_neg c_41, mB1, if_pos c_106, mB2, if_pos c_127, if_neg c_136, mB3, if_neg c_173, mB4, if_neg c_198, if_pos c_205, mB5, if_pos c_252]; rfl)) dX10_becomes_332
                        | succ n ih =>
                          intro k hk
                          have hlt : nI k < 8 := nlt_lit (b := 8) (by omega) (by decide)
                          refine j_iload X 6 dX10_becomes_280 rfl ?_
                          refine j_bipush X (v := 8) dX10_becomes_282 (by decide) ?_
                          refine j_icmp_ge X (tgt := 331) dX10_becomes_284 (by decide) (fun c_284 => absurd hlt c_284) (fun c_284 => ?_)
                          refine j_iload X 6 dX10_becomes_287 rfl ?_
                          refine j_iload_n X 1 dX10_becomes_289 rfl rfl ?_
                          refine j_icmp_eq X (tgt := 325) dX10_becomes_290 (by decide) (fun c_290 => ?_) (fun c_290 => ?_)
                          · obtain ⟨v51, ev51⟩ : ∃ y : Int32, (nI k) + 1 = y := ⟨_, rfl⟩
                            refine j_iinc X 6 (k := 1) (v := v51) (L' := [(6, .int v51), (0, .ref b), (1, .int p), (2, .int s), (3, .int d), (4, .int pr), (5, .int v50)]) dX10_becomes_325 rfl (by decide) (by decide) ev51 rfl ?_
                            refine j_goto X (tgt := 280) dX10_becomes_328 (by decide) ?_
                            refine j_sub [1, 2, 3, 4, 5, 6, 0] (L' := [(0, .ref b), (1, .int p), (2, .int s), (3, .int d), (4, .int pr), (5, .int v50), (6, .int (nI (k + 1)))]) (by subst ev51 ev50; first | with_reducible rfl | (simp only [mFl, nI_succ k, if_neg c_10, if_pos c_25, if_neg c_41, if_pos c_106, if_pos c_127, if_neg c_136, if_neg c_173, if_neg c_198, if_pos c_205, if_pos c_252, if_pos c_284, if_pos c_290]; done) | (simp only [mFl, nI_succ k, if_neg c_10, if_pos c_25, if_neg c_41, if_pos c_106, if_pos c_127, if_neg c_136, if_neg c_173, if_neg c_198, if_pos c_205, if_pos c_252, if_pos c_284, if_pos c_290]; rfl) | rfl) ?_
                            refine j_heap (h' := mput D h b (mFl (mTo (mLn (mMv (msc μ 2 0) p s) p s) p 4 ((mOf (mLn (mMv (msc μ 2 0) p s) p s) p 4) + 1)) p s d pr (k + 1))) (by subst ev51 ev50; first | with_reducible rfl | (simp only [mFl, nI_succ k, if_neg c_10, if_pos c_25, if_neg c_41, if_pos c_106, if_pos c_127, if_neg c_136, if_neg c_173, if_neg c_198, if_pos c_205, if_pos c_252, if_pos c_284, if_pos c_290]; done) | (simp only [mFl, nI_succ k, if_neg c_10, if_pos c_25, if_neg c_41, if_pos c_106, if_pos c_127, if_neg c_136, if_neg c_173, if_neg c_198, if_pos c_205, if_pos c_252, if_pos c_284, if_pos c_290]; rfl) | rfl) ?_
                            exact ih (k + 1) (by omega)
                          · refine j_aload_n X 0 dX10_becomes_293 rfl rfl ?_
                            refine j_iload X 6 dX10_becomes_294 rfl ?_
                            refine j_callVi X (rest := []) (c_X10_isOpen l (po_nI (by omega))) m_yX10_isOpen kM_RX10_48 mput_0 rfl rfl rfl rfl rfl (Nat.le_of_ble_eq_true rfl) ⟨Nat.le_of_ble_eq_true rfl, Nat.le_of_ble_eq_true rfl, Nat.le_of_ble_eq_true rfl, Nat.le_of_ble_eq_true rfl⟩ dX10_becomes_296 ?_
                            refine j_if_eq X (tgt := 325) dX10_becomes_299 (by decide) (fun c_299 => ?_) (fun c_299 => ?_)
                            · obtain ⟨v52, ev52⟩ : ∃ y : Int32, (nI k) + 1 = y := ⟨_, rfl⟩
                              refine j_iinc X 6 (k := 1) (v := v52) (L' := [(6, .int v52), (0, .ref b), (1, .int p), (2, .int s), (3, .int d), (4, .int pr), (5, .int v50)]) dX10_becomes_325 rfl (by decide) (by decide) ev52 rfl ?_
                              refine j_goto X (tgt := 280) dX10_becomes_328 (by decide) ?_
                              refine j_sub [1, 2, 3, 4, 5, 6, 0] (L' := [(0, .ref b), (1, .int p), (2, .int s), (3, .int d), (4, .int pr), (5, .int v50), (6, .int (nI (k + 1)))]) (by subst ev52 ev50; first | with_reducible rfl | (simp only [mFl, nI_succ k, if_neg c_10, if_pos c_25, if_neg c_41, if_pos c_106, if_pos c_127, if_neg c_136, if_neg c_173, if_neg c_198, if_pos c_205, if_pos c_252, if_pos c_284, if_neg c_290, if_pos c_299]; done) | (simp only [mFl, nI_succ k, if_neg c_10, if_pos c_25, if_neg c_41, if_pos c_106, if_pos c_127, if_neg c_136, if_neg c_173, if_neg c_198, if_pos c_205, if_pos c_252, if_pos c_284, if_neg c_290, if_pos c_299]; rfl) | rfl) ?_
                              refine j_heap (h' := mput D h b (mFl (mTo (mLn (mMv (msc μ 2 0) p s) p s) p 4 ((mOf (mLn (mMv (msc μ 2 0) p s) p s) p 4) + 1)) p s d pr (k + 1))) (by subst ev52 ev50; first | with_reducible rfl | (simp only [mFl, nI_succ k, if_neg c_10, if_pos c_25, if_neg c_41, if_pos c_106, if_pos c_127, if_neg c_136, if_neg c_173, if_neg c_198, if_pos c_205, if_pos c_252, if_pos c_284, if_neg c_290, if_pos c_299]; done) | (simp only [mFl, nI_succ k, if_neg c_10, if_pos c_25, if_neg c_41, if_pos c_106, if_pos c_127, if_neg c_136, if_neg c_173, if_neg c_198, if_pos c_205, if_pos c_252, if_pos c_284, if_neg c_290, if_pos c_299]; rfl) | rfl) ?_
                              exact ih (k + 1) (by omega)
                            · refine j_aload_n X 0 dX10_becomes_302 rfl rfl ?_
                              refine j_dup X dX10_becomes_303 rfl ?_
                              refine j_get X fG_RX10_87 mput_0 rfl rfl dX10_becomes_304 ?_
                              refine j_iconst X (v := 1) dX10_becomes_307 (by decide) ?_
                              refine j_iload X 6 dX10_becomes_308 rfl ?_
                              refine j_ishl X dX10_becomes_310 ?_
                              refine j_ior X dX10_becomes_311 ?_
                              refine j_put X fG_RX10_87 fW_10_6 mput_0 rfl rfl rfl (Nat.le_of_ble_eq_true rfl) dX10_becomes_312 ?_
                              refine j_heap (h' := mput D h b (msc (mFl (mTo (mLn (mMv (msc μ 2 0) p s) p s) p 4 ((mOf (mLn (mMv (msc μ 2 0) p s) p s) p 4) + 1)) p s d pr k) 2 (((mFl (mTo (mLn (mMv (msc μ 2 0) p s) p s) p 4 ((mOf (mLn (mMv (msc μ 2 0) p s) p s) p 4) + 1)) p s d pr k).1 2) ||| (1 <<< ((nI k) &&& 31))))) mput_s2 ?_
                              refine j_aload_n X 0 dX10_becomes_315 rfl rfl ?_
                              refine j_iload X 6 dX10_becomes_316 rfl ?_
                              refine j_iload_n X 2 dX10_becomes_318 rfl rfl ?_
                              refine j_iload_n X 3 dX10_becomes_319 rfl rfl ?_
                              refine j_iload X 4 dX10_becomes_320 rfl ?_
                              refine j_callVv X (rest := []) (c_X10_goesOut l (po_nI (by omega)) (mi_many (po_nI (by omega)) (mi_msc (mi_fl hIb _ (by omega))))) m_yX10_goesOut kM_RX10_102 mput_0 rfl rfl rfl rfl rfl (Nat.le_of_ble_eq_true rfl) ⟨Nat.le_of_ble_eq_true rfl, Nat.le_of_ble_eq_true rfl, Nat.le_of_ble_eq_true rfl, Nat.le_of_ble_eq_true rfl⟩ dX10_becomes_322 ?_
                              obtain ⟨v53, ev53⟩ : ∃ y : Int32, (nI k) + 1 = y := ⟨_, rfl⟩
                              refine j_iinc X 6 (k := 1) (v := v53) (L' := [(6, .int v53), (0, .ref b), (1, .int p), (2, .int s), (3, .int d), (4, .int pr), (5, .int v50)]) dX10_becomes_325 rfl (by decide) (by decide) ev53 rfl ?_
                              refine j_goto X (tgt := 280) dX10_becomes_328 (by decide) ?_
                              refine j_sub [1, 2, 3, 4, 5, 6, 0] (L' := [(0, .ref b), (1, .int p), (2, .int s), (3, .int d), (4, .int pr), (5, .int v50), (6, .int (nI (k + 1)))]) (by subst ev53 ev50; first | with_reducible rfl | (simp only [mFl, nI_succ k, if_neg c_10, if_pos c_25, if_neg c_41, if_pos c_106, if_pos c_127, if_neg c_136, if_neg c_173, if_neg c_198, if_pos c_205, if_pos c_252, if_pos c_284, if_neg c_290, if_neg c_299]; done) | (simp only [mFl, nI_succ k, if_neg c_10, if_pos c_25, if_neg c_41, if_pos c_106, if_pos c_127, if_neg c_136, if_neg c_173, if_neg c_198, if_pos c_205, if_pos c_252, if_pos c_284, if_neg c_290, if_neg c_299]; rfl) | rfl) ?_
                              refine j_heap (h' := mput D h b (mFl (mTo (mLn (mMv (msc μ 2 0) p s) p s) p 4 ((mOf (mLn (mMv (msc μ 2 0) p s) p s) p 4) + 1)) p s d pr (k + 1))) (by subst ev53 ev50; first | with_reducible rfl | (simp only [mFl, nI_succ k, if_neg c_10, if_pos c_25, if_neg c_41, if_pos c_106, if_pos c_127, if_neg c_136, if_neg c_173, if_neg c_198, if_pos c_205, if_pos c_252, if_pos c_284, if_neg c_290, if_neg c_299]; done) | (simp only [mFl, nI_succ k, if_neg c_10, if_pos c_25, if_neg c_41, if_pos c_106, if_pos c_127, if_neg c_136, if_neg c_173, if_neg c_198, if_pos c_205, if_pos c_252, if_pos c_284, if_neg c_290, if_neg c_299]; rfl) | rfl) ?_
                              exact ih (k + 1) (by omega)
                      refine j_sub [2, 3, 4, 5, 6, 1, 0] (L' := [(0, .ref b), (1, .int p), (2, .int s), (3, .int d), (4, .int pr), (5, .int v50), (6, .int (nI 0))]) (by subst ev50; first | with_reducible rfl | (simp only [mFl, if_neg c_10, if_pos c_25, if_neg c_41, if_pos c_106, if_pos c_127, if_neg c_136, if_neg c_173, if_neg c_198, if_pos c_205, if_pos c_252]; done) | (simp only [mFl, if_neg c_10, if_pos c_25, if_neg c_41, if_pos c_106, if_pos c_127, if_neg c_136, if_neg c_173, if_neg c_198, if_pos c_205, if_pos c_252]; rfl) | rfl) ?_
                      refine j_heap (h' := mput D h b (mFl (mTo (mLn (mMv (msc μ 2 0) p s) p s) p 4 ((mOf (mLn (mMv (msc μ 2 0) p s) p s) p 4) + 1)) p s d pr 0)) (by subst ev50; first | with_reducible rfl | (simp only [mFl, if_neg c_10, if_pos c_25, if_neg c_41, if_pos c_106, if_pos c_127, if_neg c_136, if_neg c_173, if_neg c_198, if_pos c_205, if_pos c_252]; done) | (simp only [mFl, if_neg c_10, if_pos c_25, if_neg c_41, if_pos c_106, if_pos c_127, if_neg c_136, if_neg c_173, if_neg c_198, if_pos c_205, if_pos c_252]; rfl) | rfl) ?_
                      exact loop280 8 0 rfl
                    · refine j_aload_n X 1 dX10_becomes_255 rfl rfl ?_
                      refine j_iload_n X 2 dX10_becomes_256 rfl rfl ?_
                      refine j_iconst X (v := 2) dX10_becomes_257 (by decide) ?_
                      refine j_callVv X (rest := []) (c_X10_quarantine l hp) m_yX10_quarantine kM_RX10_93 mput_0 rfl rfl rfl rfl rfl (Nat.le_of_ble_eq_true rfl) ⟨Nat.le_of_ble_eq_true rfl, Nat.le_of_ble_eq_true rfl, Nat.le_of_ble_eq_true rfl, Nat.le_of_ble_eq_true rfl⟩ dX10_becomes_258 ?_
                      refine j_iconst X (v := 5) dX10_becomes_261 (by decide) ?_
                      exact j_iret X hr rfl (by subst ev50; first | (rw [mBec, if_neg c_10, if_pos c_25, if_neg c_41, mB1, if_pos c_106, mB2, if_pos c_127, if_neg c_136, mB3, if_neg c_173, mB4, if_neg c_198, if_pos c_205, mB5, if_neg c_252]; done) | (rw [mBec, if_neg c_10, if_pos c_25, if_neg c_41, mB1, if_pos c_106, mB2, if_pos c_127, if_neg c_136, mB3, if_neg c_173, mB4, if_neg c_198, if_pos c_205, mB5, if_neg c_252]; rfl)) rfl (by subst ev50; first | (rw [mBec, if_neg c_10, if_pos c_25, if_neg c_41, mB1, if_pos c_106, mB2, if_pos c_127, if_neg c_136, mB3, if_neg c_173, mB4, if_neg c_198, if_pos c_205, mB5, if_neg c_252]; done) | (rw [mBec, if_neg c_10, if_pos c_25, if_neg c_41, mB1, if_pos c_106, mB2, if_pos c_127, if_neg c_136, mB3, if_neg c_173, mB4, if_neg c_198, if_pos c_205, mB5, if_neg c_252]; rfl)) dX10_becomes_262
                  · have hpt : PO v50 := po_pred (mi_tabv hd (mi_ln hp hs (mi_mv hp hs (mi_msc hI)))) ev50 c_205
                    refine j_aload_n X 1 dX10_becomes_208 rfl rfl ?_
                    refine j_iload X 0 dX10_becomes_209 rfl ?_
                    refine j_callVi X (rest := []) (c_X10_isOpen l hpt) m_yX10_isOpen kM_RX10_48 mput_0 rfl rfl rfl rfl rfl (Nat.le_of_ble_eq_true rfl) ⟨Nat.le_of_ble_eq_true rfl, Nat.le_of_ble_eq_true rfl, Nat.le_of_ble_eq_true rfl, Nat.le_of_ble_eq_true rfl⟩ dX10_becomes_211 ?_
                    refine j_if_ne X (tgt := 220) dX10_becomes_214 (by decide) (fun c_214 => ?_) (fun c_214 => ?_)
                    · refine j_aload_n X 1 dX10_becomes_220 rfl rfl ?_
                      refine j_iconst X (v := 1) dX10_becomes_221 (by decide) ?_
                      refine j_iload X 0 dX10_becomes_222 rfl ?_
                      refine j_ishl X dX10_becomes_224 ?_
                      refine j_put X fG_RX10_87 fW_10_6 mput_0 rfl rfl rfl (Nat.le_of_ble_eq_true rfl) dX10_becomes_225 ?_
                      refine j_heap (h' := mput D h b (msc (mLn (mMv (msc μ 2 0) p s) p s) 2 (1 <<< (v50 &&& 31)))) mput_s2 ?_
                      refine j_aload_n X 1 dX10_becomes_228 rfl rfl ?_
                      refine j_iload X 0 dX10_becomes_229 rfl ?_
                      refine j_iload_n X 3 dX10_becomes_231 rfl rfl ?_
                      refine j_iload_n X 4 dX10_becomes_232 rfl rfl ?_
                      refine j_iload X 5 dX10_becomes_233 rfl ?_
                      refine j_callVv X (rest := []) (c_X10_goesOut l hpt (mi_many hpt (mi_msc (mi_ln hp hs (mi_mv hp hs (mi_msc hI)))))) m_yX10_goesOut kM_RX10_102 mput_0 rfl rfl rfl rfl rfl (Nat.le_of_ble_eq_true rfl) ⟨Nat.le_of_ble_eq_true rfl, Nat.le_of_ble_eq_true rfl, Nat.le_of_ble_eq_true rfl, Nat.le_of_ble_eq_true rfl⟩ dX10_becomes_235 ?_
                      refine j_iconst X (v := 2) dX10_becomes_238 (by decide) ?_
                      exact j_iret X hr rfl (by subst ev50; first | (rw [mBec, if_neg c_10, if_pos c_25, if_neg c_41, mB1, if_pos c_106, mB2, if_pos c_127, if_neg c_136, mB3, if_neg c_173, mB4, if_neg c_198, if_neg c_205, if_neg c_214]; done) | (rw [mBec, if_neg c_10, if_pos c_25, if_neg c_41, mB1, if_pos c_106, mB2, if_pos c_127, if_neg c_136, mB3, if_neg c_173, mB4, if_neg c_198, if_neg c_205, if_neg c_214]; rfl)) rfl (by subst ev50; first | (rw [mBec, if_neg c_10, if_pos c_25, if_neg c_41, mB1, if_pos c_106, mB2, if_pos c_127, if_neg c_136, mB3, if_neg c_173, mB4, if_neg c_198, if_neg c_205, if_neg c_214]; done) | (rw [mBec, if_neg c_10, if_pos c_25, if_neg c_41, mB1, if_pos c_106, mB2, if_pos c_127, if_neg c_136, mB3, if_neg c_173, mB4, if_neg c_198, if_neg c_205, if_neg c_214]; rfl)) dX10_becomes_239
                    · refine j_bipush X (v := 6) dX10_becomes_217 (by decide) ?_
                      exact j_iret X hr rfl (by subst ev50; first | (rw [mBec, if_neg c_10, if_pos c_25, if_neg c_41, mB1, if_pos c_106, mB2, if_pos c_127, if_neg c_136, mB3, if_neg c_173, mB4, if_neg c_198, if_neg c_205, if_pos c_214]; done) | (rw [mBec, if_neg c_10, if_pos c_25, if_neg c_41, mB1, if_pos c_106, mB2, if_pos c_127, if_neg c_136, mB3, if_neg c_173, mB4, if_neg c_198, if_neg c_205, if_pos c_214]; rfl)) rfl (by subst ev50; first | (rw [mBec, if_neg c_10, if_pos c_25, if_neg c_41, mB1, if_pos c_106, mB2, if_pos c_127, if_neg c_136, mB3, if_neg c_173, mB4, if_neg c_198, if_neg c_205, if_pos c_214]; done) | (rw [mBec, if_neg c_10, if_pos c_25, if_neg c_41, mB1, if_pos c_106, mB2, if_pos c_127, if_neg c_136, mB3, if_neg c_173, mB4, if_neg c_198, if_neg c_205, if_pos c_214]; rfl)) dX10_becomes_219
                · refine j_iconst X (v := 1) dX10_becomes_201 (by decide) ?_
                  exact j_iret X hr rfl (by subst ev50; first | (rw [mBec, if_neg c_10, if_pos c_25, if_neg c_41, mB1, if_pos c_106, mB2, if_pos c_127, if_neg c_136, mB3, if_neg c_173, mB4, if_pos c_198]; done) | (rw [mBec, if_neg c_10, if_pos c_25, if_neg c_41, mB1, if_pos c_106, mB2, if_pos c_127, if_neg c_136, mB3, if_neg c_173, mB4, if_pos c_198]; rfl)) rfl (by subst ev50; first | (rw [mBec, if_neg c_10, if_pos c_25, if_neg c_41, mB1, if_pos c_106, mB2, if_pos c_127, if_neg c_136, mB3, if_neg c_173, mB4, if_pos c_198]; done) | (rw [mBec, if_neg c_10, if_pos c_25, if_neg c_41, mB1, if_pos c_106, mB2, if_pos c_127, if_neg c_136, mB3, if_neg c_173, mB4, if_pos c_198]; rfl)) dX10_becomes_202
              · refine j_bipush X (v := (-4)) dX10_becomes_176 (by decide) ?_
                refine j_goto X (tgt := 193) dX10_becomes_178 (by decide) ?_
                refine j_istore X (L' := [(5, .int (-4)), (0, .ref b), (1, .int p), (2, .int s), (3, .int d), (4, .int pr)]) dX10_becomes_193 (by decide) rfl ?_
                refine j_iload X 0 dX10_becomes_195 rfl ?_
                refine j_iload_n X 2 dX10_becomes_197 rfl rfl ?_
                refine j_icmp_ne X (tgt := 203) dX10_becomes_198 (by decide) (fun c_198 => ?_) (fun c_198 => ?_)
                · refine j_iload X 0 dX10_becomes_203 rfl ?_
                  refine j_if_lt X (tgt := 240) dX10_becomes_205 (by decide) (fun _ => ?_) (fun c_ => absurd (by decide) c_)
                  refine j_aload_n X 1 dX10_becomes_240 rfl rfl ?_
                  refine j_iload_n X 2 dX10_becomes_241 rfl rfl ?_
                  refine j_iconst X (v := 4) dX10_becomes_242 (by decide) ?_
                  refine j_callVi X (rest := []) (c_X10_of l hp (show WH 4 _ from ⟨4, by decide, rfl⟩)) m_yX10_of kM_RX10_44 mput_0 rfl rfl rfl rfl rfl (Nat.le_of_ble_eq_true rfl) ⟨Nat.le_of_ble_eq_true rfl, Nat.le_of_ble_eq_true rfl, Nat.le_of_ble_eq_true rfl, Nat.le_of_ble_eq_true rfl⟩ dX10_becomes_243 ?_
                  refine j_aload_n X 1 dX10_becomes_246 rfl rfl ?_
                  refine j_get X fG_RX10_7 mput_0 rfl rfl dX10_becomes_247 ?_
                  refine j_iconst X (v := 2) dX10_becomes_250 (by decide) ?_
                  refine j_ldM X (vp_in_nI (n := 2) (by decide) (by decide)) dX10_becomes_251 ?_
                  refine j_icmp_lt X (tgt := 263) dX10_becomes_252 (by decide) (fun c_252 => ?_) (fun c_252 => ?_)
                  · refine j_aload_n X 1 dX10_becomes_263 rfl rfl ?_
                    refine j_iload_n X 2 dX10_becomes_264 rfl rfl ?_
                    refine j_iconst X (v := 4) dX10_becomes_265 (by decide) ?_
                    refine j_aload_n X 1 dX10_becomes_266 rfl rfl ?_
                    refine j_iload_n X 2 dX10_becomes_267 rfl rfl ?_
                    refine j_iconst X (v := 4) dX10_becomes_268 (by decide) ?_
                    refine j_callVi X (rest := [.int 4, .int p, .ref b]) (c_X10_of l hp (show WH 4 _ from ⟨4, by decide, rfl⟩)) m_yX10_of kM_RX10_44 mput_0 rfl rfl rfl rfl rfl (Nat.le_of_ble_eq_true rfl) ⟨Nat.le_of_ble_eq_true rfl, Nat.le_of_ble_eq_true rfl, Nat.le_of_ble_eq_true rfl, Nat.le_of_ble_eq_true rfl⟩ dX10_becomes_269 ?_
                    refine j_iconst X (v := 1) dX10_becomes_272 (by decide) ?_
                    refine j_iadd X dX10_becomes_273 ?_
                    refine j_callVv X (rest := []) (c_X10_to l hp (show WH 4 _ from ⟨4, by decide, rfl⟩)) m_yX10_to kM_RX10_32 mput_0 rfl rfl rfl rfl rfl (Nat.le_of_ble_eq_true rfl) ⟨Nat.le_of_ble_eq_true rfl, Nat.le_of_ble_eq_true rfl, Nat.le_of_ble_eq_true rfl, Nat.le_of_ble_eq_true rfl⟩ dX10_becomes_274 ?_
                    refine j_iconst X (v := 0) dX10_becomes_277 (by decide) ?_
                    refine j_istore X (L' := [(6, .int 0), (5, .int (-4)), (0, .ref b), (1, .int p), (2, .int s), (3, .int d), (4, .int pr)]) dX10_becomes_278 (by decide) rfl ?_
                    have hIb : MIv (mTo (mLn (mMv (msc μ 2 0) p s) p s) p 4 ((mOf (mLn (mMv (msc μ 2 0) p s) p s) p 4) + 1)) := (mi_to hp ⟨4, by decide, by decide, by decide, rfl⟩ (mi_ln hp hs (mi_mv hp hs (mi_msc hI))))
                    have loop280 : ∀ (n k : Nat), k + n = 8 → J P l E { frames := 2, cells := 0, slots := 0, locals := 48 } S0 M0 AR BL ME CO D B 7 (MQ BL (QC (some (.int ((mBec μ p s d pr).1))) D B (z + 0) (mput D h b ((mBec μ p s d pr).2))) AR S0 0 0 (aB B)) 0 0 z (mput D h b (mFl (mTo (mLn (mMv (msc μ 2 0) p s) p s) p 4 ((mOf (mLn (mMv (msc μ 2 0) p s) p s) p 4) + 1)) p s d pr k)) [(0, .ref b), (1, .int p), (2, .int s), (3, .int d), (4, .int pr), (5, .int (-4)), (6, .int (nI k))] [] 280 := by
                      intro n
                      induction n with
                      | zero =>
                        intro k hk
                        obtain rfl : k = 8 := by omega
                        refine j_iload X 6 dX10_becomes_280 rfl ?_
                        refine j_bipush X (v := 8) dX10_becomes_282 (by decide) ?_
                        refine j_icmp_ge X (tgt := 331) dX10_becomes_284 (by decide) (fun c_284 => ?_) (fun c_284 => absurd c_284 (by decide))
                        refine j_iconst X (v := 3) dX10_becomes_331 (by decide) ?_
                        exact j_iret X hr rfl (by first | (rw [mBec, if_neg c_10, if_pos c_25, if_neg c_41, mB1, if_pos c_106, mB2, if_pos c_127, if_neg c_136, mB3, if_pos c_173, mB4, if_neg c_198, if_pos (show (-4 : Int32) < 0 by decide), mB5, if_pos c_252]; done) | (rw [mBec, if_neg c_10, if_pos c_25, if_neg c_41, mB1, if_pos c_106, mB2, if_pos c_127, if_neg c_136, mB3, if_pos c_173, mB4, if_neg c_198, if_pos (show (-4 : Int32) < 0 by decide), mB5, if_pos c_252]; rfl)) rfl (by first | (rw [mBec, if_neg c_10, if_pos c_25, if_neg c_41, mB1, if_pos c_106, mB2, if_pos c_127, if_neg c_136, mB3, if_pos c_173, mB4, if_neg c_198, if_pos (show (-4 : Int32) < 0 by decide), mB5, if_pos c_252]; done) | (rw [mBec, if_neg c_10, if_pos c_25, if_neg c_41, mB1, if_pos c_106, mB2, if_pos c_127, if_neg c_136, mB3, if_pos c_173, mB4, if_neg c_198, if_pos (show (-4 : Int32) < 0 by decide), mB5, if_pos c_252]; rfl)) dX10_becomes_332
                      | succ n ih =>
                        intro k hk
                        have hlt : nI k < 8 := nlt_lit (b := 8) (by omega) (by decide)
                        refine j_iload X 6 dX10_becomes_280 rfl ?_
                        refine j_bipush X (v := 8) dX10_becomes_282 (by decide) ?_
                        refine j_icmp_ge X (tgt := 331) dX10_becomes_284 (by decide) (fun c_284 => absurd hlt c_284) (fun c_284 => ?_)
                        refine j_iload X 6 dX10_becomes_287 rfl ?_
                        refine j_iload_n X 1 dX10_becomes_289 rfl rfl ?_
                        refine j_icmp_eq X (tgt := 325) dX10_becomes_290 (by decide) (fun c_290 => ?_) (fun c_290 => ?_)
                        · obtain ⟨v54, ev54⟩ : ∃ y : Int32, (nI k) + 1 = y := ⟨_, rfl⟩
                          refine j_iinc X 6 (k := 1) (v := v54) (L' := [(6, .int v54), (0, .ref b), (1, .int p), (2, .int s), (3, .int d), (4, .int pr), (5, .int (-4))]) dX10_becomes_325 rfl (by decide) (by decide) ev54 rfl ?_
                          refine j_goto X (tgt := 280) dX10_becomes_328 (by decide) ?_
                          refine j_sub [1, 2, 3, 4, 5, 6, 0] (L' := [(0, .ref b), (1, .int p), (2, .int s), (3, .int d), (4, .int pr), (5, .int (-4)), (6, .int (nI (k + 1)))]) (by subst ev54; first | with_reducible rfl | (simp only [mFl, nI_succ k, if_neg c_10, if_pos c_25, if_neg c_41, if_pos c_106, if_pos c_127, if_neg c_136, if_pos c_173, if_neg c_198, if_pos c_252, if_pos c_284, if_pos c_290]; done) | (simp only [mFl, nI_succ k, if_neg c_10, if_pos c_25, if_neg c_41, if_pos c_106, if_pos c_127, if_neg c_136, if_pos c_173, if_neg c_198, if_pos c_252, if_pos c_284, if_pos c_290]; rfl) | rfl) ?_
                          refine j_heap (h' := mput D h b (mFl (mTo (mLn (mMv (msc μ 2 0) p s) p s) p 4 ((mOf (mLn (mMv (msc μ 2 0) p s) p s) p 4) + 1)) p s d pr (k + 1))) (by subst ev54; first | with_reducible rfl | (simp only [mFl, nI_succ k, if_neg c_10, if_pos c_25, if_neg c_41, if_pos c_106, if_pos c_127, if_neg c_136, if_pos c_173, if_neg c_198, if_pos c_252, if_pos c_284, if_pos c_290]; done) | (simp only [mFl, nI_succ k, if_neg c_10, if_pos c_25, if_neg c_41, if_pos c_106, if_pos c_127, if_neg c_136, if_pos c_173, if_neg c_198, if_pos c_252, if_pos c_284, if_pos c_290]; rfl) | rfl) ?_
                          exact ih (k + 1) (by omega)
                        · refine j_aload_n X 0 dX10_becomes_293 rfl rfl ?_
                          refine j_iload X 6 dX10_becomes_294 rfl ?_
                          refine j_callVi X (rest := []) (c_X10_isOpen l (po_nI (by omega))) m_yX10_isOpen kM_RX10_48 mput_0 rfl rfl rfl rfl rfl (Nat.le_of_ble_eq_true rfl) ⟨Nat.le_of_ble_eq_true rfl, Nat.le_of_ble_eq_true rfl, Nat.le_of_ble_eq_true rfl, Nat.le_of_ble_eq_true rfl⟩ dX10_becomes_296 ?_
                          refine j_if_eq X (tgt := 325) dX10_becomes_299 (by decide) (fun c_299 => ?_) (fun c_299 => ?_)
                          · obtain ⟨v55, ev55⟩ : ∃ y : Int32, (nI k) + 1 = y := ⟨_, rfl⟩
                            refine j_iinc X 6 (k := 1) (v := v55) (L' := [(6, .int v55), (0, .ref b), (1, .int p), (2, .int s), (3, .int d), (4, .int pr), (5, .int (-4))]) dX10_becomes_325 rfl (by decide) (by decide) ev55 rfl ?_
                            refine j_goto X (tgt := 280) dX10_becomes_328 (by decide) ?_
                            refine j_sub [1, 2, 3, 4, 5, 6, 0] (L' := [(0, .ref b), (1, .int p), (2, .int s), (3, .int d), (4, .int pr), (5, .int (-4)), (6, .int (nI (k + 1)))]) (by subst ev55; first | with_reducible rfl | (simp only [mFl, nI_succ k, if_neg c_10, if_pos c_25, if_neg c_41, if_pos c_106, if_pos c_127, if_neg c_136, if_pos c_173, if_neg c_198, if_pos c_252, if_pos c_284, if_neg c_290, if_pos c_299]; done) | (simp only [mFl, nI_succ k, if_neg c_10, if_pos c_25, if_neg c_41, if_pos c_106, if_pos c_127, if_neg c_136, if_pos c_173, if_neg c_198, if_pos c_252, if_pos c_284, if_neg c_290, if_pos c_299]; rfl) | rfl) ?_
                            refine j_heap (h' := mput D h b (mFl (mTo (mLn (mMv (msc μ 2 0) p s) p s) p 4 ((mOf (mLn (mMv (msc μ 2 0) p s) p s) p 4) + 1)) p s d pr (k + 1))) (by subst ev55; first | with_reducible rfl | (simp only [mFl, nI_succ k, if_neg c_10, if_pos c_25, if_neg c_41, if_pos c_106, if_pos c_127, if_neg c_136, if_pos c_173, if_neg c_198, if_pos c_252, if_pos c_284, if_neg c_290, if_pos c_299]; done) | (simp only [mFl, nI_succ k, if_neg c_10, if_pos c_25, if_neg c_41, if_pos c_106, if_pos c_127, if_neg c_136, if_pos c_173, if_neg c_198, if_pos c_252, if_pos c_284, if_neg c_290, if_pos c_299]; rfl) | rfl) ?_
                            exact ih (k + 1) (by omega)
                          · refine j_aload_n X 0 dX10_becomes_302 rfl rfl ?_
                            refine j_dup X dX10_becomes_303 rfl ?_
                            refine j_get X fG_RX10_87 mput_0 rfl rfl dX10_becomes_304 ?_
                            refine j_iconst X (v := 1) dX10_becomes_307 (by decide) ?_
                            refine j_iload X 6 dX10_becomes_308 rfl ?_
                            refine j_ishl X dX10_becomes_310 ?_
                            refine j_ior X dX10_becomes_311 ?_
                            refine j_put X fG_RX10_87 fW_10_6 mput_0 rfl rfl rfl (Nat.le_of_ble_eq_true rfl) dX10_becomes_312 ?_
                            refine j_heap (h' := mput D h b (msc (mFl (mTo (mLn (mMv (msc μ 2 0) p s) p s) p 4 ((mOf (mLn (mMv (msc μ 2 0) p s) p s) p 4) + 1)) p s d pr k) 2 (((mFl (mTo (mLn (mMv (msc μ 2 0) p s) p s) p 4 ((mOf (mLn (mMv (msc μ 2 0) p s) p s) p 4) + 1)) p s d pr k).1 2) ||| (1 <<< ((nI k) &&& 31))))) mput_s2 ?_
                            refine j_aload_n X 0 dX10_becomes_315 rfl rfl ?_
                            refine j_iload X 6 dX10_becomes_316 rfl ?_
                            refine j_iload_n X 2 dX10_becomes_318 rfl rfl ?_
                            refine j_iload_n X 3 dX10_becomes_319 rfl rfl ?_
                            refine j_iload X 4 dX10_becomes_320 rfl ?_
                            refine j_callVv X (rest := []) (c_X10_goesOut l (po_nI (by omega)) (mi_many (po_nI (by omega)) (mi_msc (mi_fl hIb _ (by omega))))) m_yX10_goesOut kM_RX10_102 mput_0 rfl rfl rfl rfl rfl (Nat.le_of_ble_eq_true rfl) ⟨Nat.le_of_ble_eq_true rfl, Nat.le_of_ble_eq_true rfl, Nat.le_of_ble_eq_true rfl, Nat.le_of_ble_eq_true rfl⟩ dX10_becomes_322 ?_
                            obtain ⟨v56, ev56⟩ : ∃ y : Int32, (nI k) + 1 = y := ⟨_, rfl⟩
                            refine j_iinc X 6 (k := 1) (v := v56) (L' := [(6, .int v56), (0, .ref b), (1, .int p), (2, .int s), (3, .int d), (4, .int pr), (5, .int (-4))]) dX10_becomes_325 rfl (by decide) (by decide) ev56 rfl ?_
                            refine j_goto X (tgt := 280) dX10_becomes_328 (by decide) ?_
                            refine j_sub [1, 2, 3, 4, 5, 6, 0] (L' := [(0, .ref b), (1, .int p), (2, .int s), (3, .int d), (4, .int pr), (5, .int (-4)), (6, .int (nI (k + 1)))]) (by subst ev56; first | with_reducible rfl | (simp only [mFl, nI_succ k, if_neg c_10, if_pos c_25, if_neg c_41, if_pos c_106, if_pos c_127, if_neg c_136, if_pos c_173, if_neg c_198, if_pos c_252, if_pos c_284, if_neg c_290, if_neg c_299]; done) | (simp only [mFl, nI_succ k, if_neg c_10, if_pos c_25, if_neg c_41, if_pos c_106, if_pos c_127, if_neg c_136, if_pos c_173, if_neg c_198, if_pos c_252, if_pos c_284, if_neg c_290, if_neg c_299]; rfl) | rfl) ?_
                            refine j_heap (h' := mput D h b (mFl (mTo (mLn (mMv (msc μ 2 0) p s) p s) p 4 ((mOf (mLn (mMv (msc μ 2 0) p s) p s) p 4) + 1)) p s d pr (k + 1))) (by subst ev56; first | with_reducible rfl | (simp only [mFl, nI_succ k, if_neg c_10, if_pos c_25, if_neg c_41, if_pos c_106, if_pos c_127, if_neg c_136, if_pos c_173, if_neg c_198, if_pos c_252, if_pos c_284, if_neg c_290, if_neg c_299]; done) | (simp only [mFl, nI_succ k, if_neg c_10, if_pos c_25, if_neg c_41, if_pos c_106, if_pos c_127, if_neg c_136, if_pos c_173, if_neg c_198, if_pos c_252, if_pos c_284, if_neg c_290, if_neg c_299]; rfl) | rfl) ?_
                            exact ih (k + 1) (by omega)
                    refine j_sub [2, 3, 4, 5, 6, 1, 0] (L' := [(0, .ref b), (1, .int p), (2, .int s), (3, .int d), (4, .int pr), (5, .int (-4)), (6, .int (nI 0))]) (by first | with_reducible rfl | (simp only [mFl, if_neg c_10, if_pos c_25, if_neg c_41, if_pos c_106, if_pos c_127, if_neg c_136, if_pos c_173, if_neg c_198, if_pos c_252]; done) | (simp only [mFl, if_neg c_10, if_pos c_25, if_neg c_41, if_pos c_106, if_pos c_127, if_neg c_136, if_pos c_173, if_neg c_198, if_pos c_252]; rfl) | rfl) ?_
                    refine j_heap (h' := mput D h b (mFl (mTo (mLn (mMv (msc μ 2 0) p s) p s) p 4 ((mOf (mLn (mMv (msc μ 2 0) p s) p s) p 4) + 1)) p s d pr 0)) (by first | with_reducible rfl | (simp only [mFl, if_neg c_10, if_pos c_25, if_neg c_41, if_pos c_106, if_pos c_127, if_neg c_136, if_pos c_173, if_neg c_198, if_pos c_252]; done) | (simp only [mFl, if_neg c_10, if_pos c_25, if_neg c_41, if_pos c_106, if_pos c_127, if_neg c_136, if_pos c_173, if_neg c_198, if_pos c_252]; rfl) | rfl) ?_
                    exact loop280 8 0 rfl
                  · refine j_aload_n X 1 dX10_becomes_255 rfl rfl ?_
                    refine j_iload_n X 2 dX10_becomes_256 rfl rfl ?_
                    refine j_iconst X (v := 2) dX10_becomes_257 (by decide) ?_
                    refine j_callVv X (rest := []) (c_X10_quarantine l hp) m_yX10_quarantine kM_RX10_93 mput_0 rfl rfl rfl rfl rfl (Nat.le_of_ble_eq_true rfl) ⟨Nat.le_of_ble_eq_true rfl, Nat.le_of_ble_eq_true rfl, Nat.le_of_ble_eq_true rfl, Nat.le_of_ble_eq_true rfl⟩ dX10_becomes_258 ?_
                    refine j_iconst X (v := 5) dX10_becomes_261 (by decide) ?_
                    exact j_iret X hr rfl (by first | (rw [mBec, if_neg c_10, if_pos c_25, if_neg c_41, mB1, if_pos c_106, mB2, if_pos c_127, if_neg c_136, mB3, if_pos c_173, mB4, if_neg c_198, if_pos (show (-4 : Int32) < 0 by decide), mB5, if_neg c_252]; done) | (rw [mBec, if_neg c_10, if_pos c_25, if_neg c_41, mB1, if_pos c_106, mB2, if_pos c_127, if_neg c_136, mB3, if_pos c_173, mB4, if_neg c_198, if_pos (show (-4 : Int32) < 0 by decide), mB5, if_neg c_252]; rfl)) rfl (by first | (rw [mBec, if_neg c_10, if_pos c_25, if_neg c_41, mB1, if_pos c_106, mB2, if_pos c_127, if_neg c_136, mB3, if_pos c_173, mB4, if_neg c_198, if_pos (show (-4 : Int32) < 0 by decide), mB5, if_neg c_252]; done) | (rw [mBec, if_neg c_10, if_pos c_25, if_neg c_41, mB1, if_pos c_106, mB2, if_pos c_127, if_neg c_136, mB3, if_pos c_173, mB4, if_neg c_198, if_pos (show (-4 : Int32) < 0 by decide), mB5, if_neg c_252]; rfl)) dX10_becomes_262
                · refine j_iconst X (v := 1) dX10_becomes_201 (by decide) ?_
                  exact j_iret X hr rfl (by first | (rw [mBec, if_neg c_10, if_pos c_25, if_neg c_41, mB1, if_pos c_106, mB2, if_pos c_127, if_neg c_136, mB3, if_pos c_173, mB4, if_pos c_198]; done) | (rw [mBec, if_neg c_10, if_pos c_25, if_neg c_41, mB1, if_pos c_106, mB2, if_pos c_127, if_neg c_136, mB3, if_pos c_173, mB4, if_pos c_198]; rfl)) rfl (by first | (rw [mBec, if_neg c_10, if_pos c_25, if_neg c_41, mB1, if_pos c_106, mB2, if_pos c_127, if_neg c_136, mB3, if_pos c_173, mB4, if_pos c_198]; done) | (rw [mBec, if_neg c_10, if_pos c_25, if_neg c_41, mB1, if_pos c_106, mB2, if_pos c_127, if_neg c_136, mB3, if_pos c_173, mB4, if_pos c_198]; rfl)) dX10_becomes_202
            · refine j_aload_n X 0 dX10_becomes_139 rfl rfl ?_
              refine j_callVv X (rest := []) (c_X10_removeOldest l) m_yX10_removeOldest kM_RX10_99 mput_0 rfl rfl rfl rfl rfl (Nat.le_of_ble_eq_true rfl) ⟨Nat.le_of_ble_eq_true rfl, Nat.le_of_ble_eq_true rfl, Nat.le_of_ble_eq_true rfl, Nat.le_of_ble_eq_true rfl⟩ dX10_becomes_140 ?_
              refine j_aload_n X 0 dX10_becomes_143 rfl rfl ?_
              refine j_get X fG_RX10_7 mput_0 rfl rfl dX10_becomes_144 ?_
              refine j_sipush X (v := 552) dX10_becomes_147 (by decide) ?_
              refine j_iload_n X 2 dX10_becomes_150 rfl rfl ?_
              refine j_iadd X dX10_becomes_151 ?_
              refine j_iload_n X 1 dX10_becomes_152 rfl rfl ?_
              refine j_iconst X (v := 1) dX10_becomes_153 (by decide) ?_
              refine j_iadd X dX10_becomes_154 ?_
              refine j_stM X (in_552 hs) dX10_becomes_155 ?_
              refine j_aload_n X 0 dX10_becomes_156 rfl rfl ?_
              refine j_get X fG_RX10_7 mput_0 rfl rfl dX10_becomes_157 ?_
              refine j_sipush X (v := 652) dX10_becomes_160 (by decide) ?_
              refine j_iload_n X 2 dX10_becomes_163 rfl rfl ?_
              refine j_iadd X dX10_becomes_164 ?_
              refine j_aload_n X 0 dX10_becomes_165 rfl rfl ?_
              refine j_get X fG_RX10_7 mput_0 rfl rfl dX10_becomes_166 ?_
              refine j_iconst X (v := 4) dX10_becomes_169 (by decide) ?_
              refine j_ldM X (vp_in_nI (n := 4) (by decide) (by decide)) dX10_becomes_170 ?_
              refine j_stM X (in_652 hs) dX10_becomes_171 ?_
              refine j_heap (h' := mput D h b (mLn (mRemO (mMv (msc μ 2 0) p s)) p s)) rfl ?_
              refine j_iload_n X 3 dX10_becomes_172 rfl rfl ?_
              refine j_if_ne X (tgt := 181) dX10_becomes_173 (by decide) (fun c_173 => ?_) (fun c_173 => ?_)
              · refine j_aload_n X 0 dX10_becomes_181 rfl rfl ?_
                refine j_get X fG_RX10_7 mput_0 rfl rfl dX10_becomes_182 ?_
                refine j_sipush X (v := 552) dX10_becomes_185 (by decide) ?_
                refine j_iload_n X 3 dX10_becomes_188 rfl rfl ?_
                refine j_iadd X dX10_becomes_189 ?_
                refine j_ldM X (in_552 hd) dX10_becomes_190 ?_
                refine j_iconst X (v := 1) dX10_becomes_191 (by decide) ?_
                refine j_isub X dX10_becomes_192 ?_
                refine j_tops (fun v57 ev57 => ?_)
                refine j_istore X (L' := [(5, .int v57), (0, .ref b), (1, .int p), (2, .int s), (3, .int d), (4, .int pr)]) dX10_becomes_193 (by decide) rfl ?_
                refine j_iload X 0 dX10_becomes_195 rfl ?_
                refine j_iload_n X 2 dX10_becomes_197 rfl rfl ?_
                refine j_icmp_ne X (tgt := 203) dX10_becomes_198 (by decide) (fun c_198 => ?_) (fun c_198 => ?_)
                · refine j_iload X 0 dX10_becomes_203 rfl ?_
                  refine j_if_lt X (tgt := 240) dX10_becomes_205 (by decide) (fun c_205 => ?_) (fun c_205 => ?_)
                  · refine j_aload_n X 1 dX10_becomes_240 rfl rfl ?_
                    refine j_iload_n X 2 dX10_becomes_241 rfl rfl ?_
                    refine j_iconst X (v := 4) dX10_becomes_242 (by decide) ?_
                    refine j_callVi X (rest := []) (c_X10_of l hp (show WH 4 _ from ⟨4, by decide, rfl⟩)) m_yX10_of kM_RX10_44 mput_0 rfl rfl rfl rfl rfl (Nat.le_of_ble_eq_true rfl) ⟨Nat.le_of_ble_eq_true rfl, Nat.le_of_ble_eq_true rfl, Nat.le_of_ble_eq_true rfl, Nat.le_of_ble_eq_true rfl⟩ dX10_becomes_243 ?_
                    refine j_aload_n X 1 dX10_becomes_246 rfl rfl ?_
                    refine j_get X fG_RX10_7 mput_0 rfl rfl dX10_becomes_247 ?_
                    refine j_iconst X (v := 2) dX10_becomes_250 (by decide) ?_
                    refine j_ldM X (vp_in_nI (n := 2) (by decide) (by decide)) dX10_becomes_251 ?_
                    refine j_icmp_lt X (tgt := 263) dX10_becomes_252 (by decide) (fun c_252 => ?_) (fun c_252 => ?_)
                    · refine j_aload_n X 1 dX10_becomes_263 rfl rfl ?_
                      refine j_iload_n X 2 dX10_becomes_264 rfl rfl ?_
                      refine j_iconst X (v := 4) dX10_becomes_265 (by decide) ?_
                      refine j_aload_n X 1 dX10_becomes_266 rfl rfl ?_
                      refine j_iload_n X 2 dX10_becomes_267 rfl rfl ?_
                      refine j_iconst X (v := 4) dX10_becomes_268 (by decide) ?_
                      refine j_callVi X (rest := [.int 4, .int p, .ref b]) (c_X10_of l hp (show WH 4 _ from ⟨4, by decide, rfl⟩)) m_yX10_of kM_RX10_44 mput_0 rfl rfl rfl rfl rfl (Nat.le_of_ble_eq_true rfl) ⟨Nat.le_of_ble_eq_true rfl, Nat.le_of_ble_eq_true rfl, Nat.le_of_ble_eq_true rfl, Nat.le_of_ble_eq_true rfl⟩ dX10_becomes_269 ?_
                      refine j_iconst X (v := 1) dX10_becomes_272 (by decide) ?_
                      refine j_iadd X dX10_becomes_273 ?_
                      refine j_callVv X (rest := []) (c_X10_to l hp (show WH 4 _ from ⟨4, by decide, rfl⟩)) m_yX10_to kM_RX10_32 mput_0 rfl rfl rfl rfl rfl (Nat.le_of_ble_eq_true rfl) ⟨Nat.le_of_ble_eq_true rfl, Nat.le_of_ble_eq_true rfl, Nat.le_of_ble_eq_true rfl, Nat.le_of_ble_eq_true rfl⟩ dX10_becomes_274 ?_
                      refine j_iconst X (v := 0) dX10_becomes_277 (by decide) ?_
                      refine j_istore X (L' := [(6, .int 0), (5, .int v57), (0, .ref b), (1, .int p), (2, .int s), (3, .int d), (4, .int pr)]) dX10_becomes_278 (by decide) rfl ?_
                      have hIb : MIv (mTo (mLn (mRemO (mMv (msc μ 2 0) p s)) p s) p 4 ((mOf (mLn (mRemO (mMv (msc μ 2 0) p s)) p s) p 4) + 1)) := (mi_to hp ⟨4, by decide, by decide, by decide, rfl⟩ (mi_ln hp hs (mi_remO (mi_mv hp hs (mi_msc hI)))))
                      have loop280 : ∀ (n k : Nat), k + n = 8 → J P l E { frames := 2, cells := 0, slots := 0, locals := 48 } S0 M0 AR BL ME CO D B 7 (MQ BL (QC (some (.int ((mBec μ p s d pr).1))) D B (z + 0) (mput D h b ((mBec μ p s d pr).2))) AR S0 0 0 (aB B)) 0 0 z (mput D h b (mFl (mTo (mLn (mRemO (mMv (msc μ 2 0) p s)) p s) p 4 ((mOf (mLn (mRemO (mMv (msc μ 2 0) p s)) p s) p 4) + 1)) p s d pr k)) [(0, .ref b), (1, .int p), (2, .int s), (3, .int d), (4, .int pr), (5, .int v57), (6, .int (nI k))] [] 280 := by
                        intro n
                        induction n with
                        | zero =>
                          intro k hk
                          obtain rfl : k = 8 := by omega
                          refine j_iload X 6 dX10_becomes_280 rfl ?_
                          refine j_bipush X (v := 8) dX10_becomes_282 (by decide) ?_
                          refine j_icmp_ge X (tgt := 331) dX10_becomes_284 (by decide) (fun c_284 => ?_) (fun c_284 => absurd c_284 (by decide))
                          refine j_iconst X (v := 3) dX10_becomes_331 (by decide) ?_
                          exact j_iret X hr rfl (by subst ev57; first | (rw [mBec, if_neg c_10, if_pos c_25, if_neg c_41, mB1, if_pos c_106, mB2, if_pos c_127, if_pos c_136, mB3, if_neg c_173, mB4, if_neg c_198, if_pos c_205, mB5, if_pos c_252]; done) | (rw [mBec, if_neg c_10, if_pos c_25, if_neg c_41, mB1, if_pos c_106, mB2, if_pos c_127, if_pos c_136, mB3, if_neg c_173, mB4, if_neg c_198, if_pos c_205, mB5, if_pos c_252]; rfl)) rfl (by subst ev57; first | (rw [mBec, if_neg c_10, if_pos c_25, if_neg c_41, mB1, if_pos c_106, mB2, if_pos c_127, if_pos c_136, mB3, if_neg c_173, mB4, if_neg c_198, if_pos c_205, mB5, if_pos c_252]; done) | (rw [mBec, if_neg c_10, if_pos c_25, if_neg c_41, mB1, if_pos c_106, mB2, if_pos c_127, if_pos c_136, mB3, if_neg c_173, mB4, if_neg c_198, if_pos c_205, mB5, if_pos c_252]; rfl)) dX10_becomes_332
                        | succ n ih =>
                          intro k hk
                          have hlt : nI k < 8 := nlt_lit (b := 8) (by omega) (by decide)
                          refine j_iload X 6 dX10_becomes_280 rfl ?_
                          refine j_bipush X (v := 8) dX10_becomes_282 (by decide) ?_
                          refine j_icmp_ge X (tgt := 331) dX10_becomes_284 (by decide) (fun c_284 => absurd hlt c_284) (fun c_284 => ?_)
                          refine j_iload X 6 dX10_becomes_287 rfl ?_
                          refine j_iload_n X 1 dX10_becomes_289 rfl rfl ?_
                          refine j_icmp_eq X (tgt := 325) dX10_becomes_290 (by decide) (fun c_290 => ?_) (fun c_290 => ?_)
                          · obtain ⟨v58, ev58⟩ : ∃ y : Int32, (nI k) + 1 = y := ⟨_, rfl⟩
                            refine j_iinc X 6 (k := 1) (v := v58) (L' := [(6, .int v58), (0, .ref b), (1, .int p), (2, .int s), (3, .int d), (4, .int pr), (5, .int v57)]) dX10_becomes_325 rfl (by decide) (by decide) ev58 rfl ?_
                            refine j_goto X (tgt := 280) dX10_becomes_328 (by decide) ?_
                            refine j_sub [1, 2, 3, 4, 5, 6, 0] (L' := [(0, .ref b), (1, .int p), (2, .int s), (3, .int d), (4, .int pr), (5, .int v57), (6, .int (nI (k + 1)))]) (by subst ev58 ev57; first | with_reducible rfl | (simp only [mFl, nI_succ k, if_neg c_10, if_pos c_25, if_neg c_41, if_pos c_106, if_pos c_127, if_pos c_136, if_neg c_173, if_neg c_198, if_pos c_205, if_pos c_252, if_pos c_284, if_pos c_290]; done) | (simp only [mFl, nI_succ k, if_neg c_10, if_pos c_25, if_neg c_41, if_pos c_106, if_pos c_127, if_pos c_136, if_neg c_173, if_neg c_198, if_pos c_205, if_pos c_252, if_pos c_284, if_pos c_290]; rfl) | rfl) ?_
                            refine j_heap (h' := mput D h b (mFl (mTo (mLn (mRemO (mMv (msc μ 2 0) p s)) p s) p 4 ((mOf (mLn (mRemO (mMv (msc μ 2 0) p s)) p s) p 4) + 1)) p s d pr (k + 1))) (by subst ev58 ev57; first | with_reducible rfl | (simp only [mFl, nI_succ k, if_neg c_10, if_pos c_25, if_neg c_41, if_pos c_106, if_pos c_127, if_pos c_136, if_neg c_173, if_neg c_198, if_pos c_205, if_pos c_252, if_pos c_284, if_pos c_290]; done) | (simp only [mFl, nI_succ k, if_neg c_10, if_pos c_25, if_neg c_41, if_pos c_106, if_pos c_127, if_pos c_136, if_neg c_173, if_neg c_198, if_pos c_205, if_pos c_252, if_pos c_284, if_pos c_290]; rfl) | rfl) ?_
                            exact ih (k + 1) (by omega)
                          · refine j_aload_n X 0 dX10_becomes_293 rfl rfl ?_
                            refine j_iload X 6 dX10_becomes_294 rfl ?_
                            refine j_callVi X (rest := []) (c_X10_isOpen l (po_nI (by omega))) m_yX10_isOpen kM_RX10_48 mput_0 rfl rfl rfl rfl rfl (Nat.le_of_ble_eq_true rfl) ⟨Nat.le_of_ble_eq_true rfl, Nat.le_of_ble_eq_true rfl, Nat.le_of_ble_eq_true rfl, Nat.le_of_ble_eq_true rfl⟩ dX10_becomes_296 ?_
                            refine j_if_eq X (tgt := 325) dX10_becomes_299 (by decide) (fun c_299 => ?_) (fun c_299 => ?_)
                            · obtain ⟨v59, ev59⟩ : ∃ y : Int32, (nI k) + 1 = y := ⟨_, rfl⟩
                              refine j_iinc X 6 (k := 1) (v := v59) (L' := [(6, .int v59), (0, .ref b), (1, .int p), (2, .int s), (3, .int d), (4, .int pr), (5, .int v57)]) dX10_becomes_325 rfl (by decide) (by decide) ev59 rfl ?_
                              refine j_goto X (tgt := 280) dX10_becomes_328 (by decide) ?_
                              refine j_sub [1, 2, 3, 4, 5, 6, 0] (L' := [(0, .ref b), (1, .int p), (2, .int s), (3, .int d), (4, .int pr), (5, .int v57), (6, .int (nI (k + 1)))]) (by subst ev59 ev57; first | with_reducible rfl | (simp only [mFl, nI_succ k, if_neg c_10, if_pos c_25, if_neg c_41, if_pos c_106, if_pos c_127, if_pos c_136, if_neg c_173, if_neg c_198, if_pos c_205, if_pos c_252, if_pos c_284, if_neg c_290, if_pos c_299]; done) | (simp only [mFl, nI_succ k, if_neg c_10, if_pos c_25, if_neg c_41, if_pos c_106, if_pos c_127, if_pos c_136, if_neg c_173, if_neg c_198, if_pos c_205, if_pos c_252, if_pos c_284, if_neg c_290, if_pos c_299]; rfl) | rfl) ?_
                              refine j_heap (h' := mput D h b (mFl (mTo (mLn (mRemO (mMv (msc μ 2 0) p s)) p s) p 4 ((mOf (mLn (mRemO (mMv (msc μ 2 0) p s)) p s) p 4) + 1)) p s d pr (k + 1))) (by subst ev59 ev57; first | with_reducible rfl | (simp only [mFl, nI_succ k, if_neg c_10, if_pos c_25, if_neg c_41, if_pos c_106, if_pos c_127, if_pos c_136, if_neg c_173, if_neg c_198, if_pos c_205, if_pos c_252, if_pos c_284, if_neg c_290, if_pos c_299]; done) | (simp only [mFl, nI_succ k, if_neg c_10, if_pos c_25, if_neg c_41, if_pos c_106, if_pos c_127, if_pos c_136, if_neg c_173, if_neg c_198, if_pos c_205, if_pos c_252, if_pos c_284, if_neg c_290, if_pos c_299]; rfl) | rfl) ?_
                              exact ih (k + 1) (by omega)
                            · refine j_aload_n X 0 dX10_becomes_302 rfl rfl ?_
                              refine j_dup X dX10_becomes_303 rfl ?_
                              refine j_get X fG_RX10_87 mput_0 rfl rfl dX10_becomes_304 ?_
                              refine j_iconst X (v := 1) dX10_becomes_307 (by decide) ?_
                              refine j_iload X 6 dX10_becomes_308 rfl ?_
                              refine j_ishl X dX10_becomes_310 ?_
                              refine j_ior X dX10_becomes_311 ?_
                              refine j_put X fG_RX10_87 fW_10_6 mput_0 rfl rfl rfl (Nat.le_of_ble_eq_true rfl) dX10_becomes_312 ?_
                              refine j_heap (h' := mput D h b (msc (mFl (mTo (mLn (mRemO (mMv (msc μ 2 0) p s)) p s) p 4 ((mOf (mLn (mRemO (mMv (msc μ 2 0) p s)) p s) p 4) + 1)) p s d pr k) 2 (((mFl (mTo (mLn (mRemO (mMv (msc μ 2 0) p s)) p s) p 4 ((mOf (mLn (mRemO (mMv (msc μ 2 0) p s)) p s) p 4) + 1)) p s d pr k).1 2) ||| (1 <<< ((nI k) &&& 31))))) mput_s2 ?_
                              refine j_aload_n X 0 dX10_becomes_315 rfl rfl ?_
                              refine j_iload X 6 dX10_becomes_316 rfl ?_
                              refine j_iload_n X 2 dX10_becomes_318 rfl rfl ?_
                              refine j_iload_n X 3 dX10_becomes_319 rfl rfl ?_
                              refine j_iload X 4 dX10_becomes_320 rfl ?_
                              refine j_callVv X (rest := []) (c_X10_goesOut l (po_nI (by omega)) (mi_many (po_nI (by omega)) (mi_msc (mi_fl hIb _ (by omega))))) m_yX10_goesOut kM_RX10_102 mput_0 rfl rfl rfl rfl rfl (Nat.le_of_ble_eq_true rfl) ⟨Nat.le_of_ble_eq_true rfl, Nat.le_of_ble_eq_true rfl, Nat.le_of_ble_eq_true rfl, Nat.le_of_ble_eq_true rfl⟩ dX10_becomes_322 ?_
                              obtain ⟨v60, ev60⟩ : ∃ y : Int32, (nI k) + 1 = y := ⟨_, rfl⟩
                              refine j_iinc X 6 (k := 1) (v := v60) (L' := [(6, .int v60), (0, .ref b), (1, .int p), (2, .int s), (3, .int d), (4, .int pr), (5, .int v57)]) dX10_becomes_325 rfl (by decide) (by decide) ev60 rfl ?_
                              refine j_goto X (tgt := 280) dX10_becomes_328 (by decide) ?_
                              refine j_sub [1, 2, 3, 4, 5, 6, 0] (L' := [(0, .ref b), (1, .int p), (2, .int s), (3, .int d), (4, .int pr), (5, .int v57), (6, .int (nI (k + 1)))]) (by subst ev60 ev57; first | with_reducible rfl | (simp only [mFl, nI_succ k, if_neg c_10, if_pos c_25, if_neg c_41, if_pos c_106, if_pos c_127, if_pos c_136, if_neg c_173, if_neg c_198, if_pos c_205, if_pos c_252, if_pos c_284, if_neg c_290, if_neg c_299]; done) | (simp only [mFl, nI_succ k, if_neg c_10, if_pos c_25, if_neg c_41, if_pos c_106, if_pos c_127, if_pos c_136, if_neg c_173, if_neg c_198, if_pos c_205, if_pos c_252, if_pos c_284, if_neg c_290, if_neg c_299]; rfl) | rfl) ?_
                              refine j_heap (h' := mput D h b (mFl (mTo (mLn (mRemO (mMv (msc μ 2 0) p s)) p s) p 4 ((mOf (mLn (mRemO (mMv (msc μ 2 0) p s)) p s) p 4) + 1)) p s d pr (k + 1))) (by subst ev60 ev57; first | with_reducible rfl | (simp only [mFl, nI_succ k, if_neg c_10, if_pos c_25, if_neg c_41, if_pos c_106, if_pos c_127, if_pos c_136, if_neg c_173, if_neg c_198, if_pos c_205, if_pos c_252, if_pos c_284, if_neg c_290, if_neg c_299]; done) | (simp only [mFl, nI_succ k, if_neg c_10, if_pos c_25, if_neg c_41, if_pos c_106, if_pos c_127, if_pos c_136, if_neg c_173, if_neg c_198, if_pos c_205, if_pos c_252, if_pos c_284, if_neg c_290, if_neg c_299]; rfl) | rfl) ?_
                              exact ih (k + 1) (by omega)
                      refine j_sub [2, 3, 4, 5, 6, 1, 0] (L' := [(0, .ref b), (1, .int p), (2, .int s), (3, .int d), (4, .int pr), (5, .int v57), (6, .int (nI 0))]) (by subst ev57; first | with_reducible rfl | (simp only [mFl, if_neg c_10, if_pos c_25, if_neg c_41, if_pos c_106, if_pos c_127, if_pos c_136, if_neg c_173, if_neg c_198, if_pos c_205, if_pos c_252]; done) | (simp only [mFl, if_neg c_10, if_pos c_25, if_neg c_41, if_pos c_106, if_pos c_127, if_pos c_136, if_neg c_173, if_neg c_198, if_pos c_205, if_pos c_252]; rfl) | rfl) ?_
                      refine j_heap (h' := mput D h b (mFl (mTo (mLn (mRemO (mMv (msc μ 2 0) p s)) p s) p 4 ((mOf (mLn (mRemO (mMv (msc μ 2 0) p s)) p s) p 4) + 1)) p s d pr 0)) (by subst ev57; first | with_reducible rfl | (simp only [mFl, if_neg c_10, if_pos c_25, if_neg c_41, if_pos c_106, if_pos c_127, if_pos c_136, if_neg c_173, if_neg c_198, if_pos c_205, if_pos c_252]; done) | (simp only [mFl, if_neg c_10, if_pos c_25, if_neg c_41, if_pos c_106, if_pos c_127, if_pos c_136, if_neg c_173, if_neg c_198, if_pos c_205, if_pos c_252]; rfl) | rfl) ?_
                      exact loop280 8 0 rfl
                    · refine j_aload_n X 1 dX10_becomes_255 rfl rfl ?_
                      refine j_iload_n X 2 dX10_becomes_256 rfl rfl ?_
                      refine j_iconst X (v := 2) dX10_becomes_257 (by decide) ?_
                      refine j_callVv X (rest := []) (c_X10_quarantine l hp) m_yX10_quarantine kM_RX10_93 mput_0 rfl rfl rfl rfl rfl (Nat.le_of_ble_eq_true rfl) ⟨Nat.le_of_ble_eq_true rfl, Nat.le_of_ble_eq_true rfl, Nat.le_of_ble_eq_true rfl, Nat.le_of_ble_eq_true rfl⟩ dX10_becomes_258 ?_
                      refine j_iconst X (v := 5) dX10_becomes_261 (by decide) ?_
                      exact j_iret X hr rfl (by subst ev57; first | (rw [mBec, if_neg c_10, if_pos c_25, if_neg c_41, mB1, if_pos c_106, mB2, if_pos c_127, if_pos c_136, mB3, if_neg c_173, mB4, if_neg c_198, if_pos c_205, mB5, if_neg c_252]; done) | (rw [mBec, if_neg c_10, if_pos c_25, if_neg c_41, mB1, if_pos c_106, mB2, if_pos c_127, if_pos c_136, mB3, if_neg c_173, mB4, if_neg c_198, if_pos c_205, mB5, if_neg c_252]; rfl)) rfl (by subst ev57; first | (rw [mBec, if_neg c_10, if_pos c_25, if_neg c_41, mB1, if_pos c_106, mB2, if_pos c_127, if_pos c_136, mB3, if_neg c_173, mB4, if_neg c_198, if_pos c_205, mB5, if_neg c_252]; done) | (rw [mBec, if_neg c_10, if_pos c_25, if_neg c_41, mB1, if_pos c_106, mB2, if_pos c_127, if_pos c_136, mB3, if_neg c_173, mB4, if_neg c_198, if_pos c_205, mB5, if_neg c_252]; rfl)) dX10_becomes_262
                  · have hpt : PO v57 := po_pred (mi_tabv hd (mi_ln hp hs (mi_remO (mi_mv hp hs (mi_msc hI))))) ev57 c_205
                    refine j_aload_n X 1 dX10_becomes_208 rfl rfl ?_
                    refine j_iload X 0 dX10_becomes_209 rfl ?_
                    refine j_callVi X (rest := []) (c_X10_isOpen l hpt) m_yX10_isOpen kM_RX10_48 mput_0 rfl rfl rfl rfl rfl (Nat.le_of_ble_eq_true rfl) ⟨Nat.le_of_ble_eq_true rfl, Nat.le_of_ble_eq_true rfl, Nat.le_of_ble_eq_true rfl, Nat.le_of_ble_eq_true rfl⟩ dX10_becomes_211 ?_
                    refine j_if_ne X (tgt := 220) dX10_becomes_214 (by decide) (fun c_214 => ?_) (fun c_214 => ?_)
                    · refine j_aload_n X 1 dX10_becomes_220 rfl rfl ?_
                      refine j_iconst X (v := 1) dX10_becomes_221 (by decide) ?_
                      refine j_iload X 0 dX10_becomes_222 rfl ?_
                      refine j_ishl X dX10_becomes_224 ?_
                      refine j_put X fG_RX10_87 fW_10_6 mput_0 rfl rfl rfl (Nat.le_of_ble_eq_true rfl) dX10_becomes_225 ?_
                      refine j_heap (h' := mput D h b (msc (mLn (mRemO (mMv (msc μ 2 0) p s)) p s) 2 (1 <<< (v57 &&& 31)))) mput_s2 ?_
                      refine j_aload_n X 1 dX10_becomes_228 rfl rfl ?_
                      refine j_iload X 0 dX10_becomes_229 rfl ?_
                      refine j_iload_n X 3 dX10_becomes_231 rfl rfl ?_
                      refine j_iload_n X 4 dX10_becomes_232 rfl rfl ?_
                      refine j_iload X 5 dX10_becomes_233 rfl ?_
                      refine j_callVv X (rest := []) (c_X10_goesOut l hpt (mi_many hpt (mi_msc (mi_ln hp hs (mi_remO (mi_mv hp hs (mi_msc hI))))))) m_yX10_goesOut kM_RX10_102 mput_0 rfl rfl rfl rfl rfl (Nat.le_of_ble_eq_true rfl) ⟨Nat.le_of_ble_eq_true rfl, Nat.le_of_ble_eq_true rfl, Nat.le_of_ble_eq_true rfl, Nat.le_of_ble_eq_true rfl⟩ dX10_becomes_235 ?_
                      refine j_iconst X (v := 2) dX10_becomes_238 (by decide) ?_
                      exact j_iret X hr rfl (by subst ev57; first | (rw [mBec, if_neg c_10, if_pos c_25, if_neg c_41, mB1, if_pos c_106, mB2, if_pos c_127, if_pos c_136, mB3, if_neg c_173, mB4, if_neg c_198, if_neg c_205, if_neg c_214]; done) | (rw [mBec, if_neg c_10, if_pos c_25, if_neg c_41, mB1, if_pos c_106, mB2, if_pos c_127, if_pos c_136, mB3, if_neg c_173, mB4, if_neg c_198, if_neg c_205, if_neg c_214]; rfl)) rfl (by subst ev57; first | (rw [mBec, if_neg c_10, if_pos c_25, if_neg c_41, mB1, if_pos c_106, mB2, if_pos c_127, if_pos c_136, mB3, if_neg c_173, mB4, if_neg c_198, if_neg c_205, if_neg c_214]; done) | (rw [mBec, if_neg c_10, if_pos c_25, if_neg c_41, mB1, if_pos c_106, mB2, if_pos c_127, if_pos c_136, mB3, if_neg c_173, mB4, if_neg c_198, if_neg c_205, if_neg c_214]; rfl)) dX10_becomes_239
                    · refine j_bipush X (v := 6) dX10_becomes_217 (by decide) ?_
                      exact j_iret X hr rfl (by subst ev57; first | (rw [mBec, if_neg c_10, if_pos c_25, if_neg c_41, mB1, if_pos c_106, mB2, if_pos c_127, if_pos c_136, mB3, if_neg c_173, mB4, if_neg c_198, if_neg c_205, if_pos c_214]; done) | (rw [mBec, if_neg c_10, if_pos c_25, if_neg c_41, mB1, if_pos c_106, mB2, if_pos c_127, if_pos c_136, mB3, if_neg c_173, mB4, if_neg c_198, if_neg c_205, if_pos c_214]; rfl)) rfl (by subst ev57; first | (rw [mBec, if_neg c_10, if_pos c_25, if_neg c_41, mB1, if_pos c_106, mB2, if_pos c_127, if_pos c_136, mB3, if_neg c_173, mB4, if_neg c_198, if_neg c_205, if_pos c_214]; done) | (rw [mBec, if_neg c_10, if_pos c_25, if_neg c_41, mB1, if_pos c_106, mB2, if_pos c_127, if_pos c_136, mB3, if_neg c_173, mB4, if_neg c_198, if_neg c_205, if_pos c_214]; rfl)) dX10_becomes_219
                · refine j_iconst X (v := 1) dX10_becomes_201 (by decide) ?_
                  exact j_iret X hr rfl (by subst ev57; first | (rw [mBec, if_neg c_10, if_pos c_25, if_neg c_41, mB1, if_pos c_106, mB2, if_pos c_127, if_pos c_136, mB3, if_neg c_173, mB4, if_pos c_198]; done) | (rw [mBec, if_neg c_10, if_pos c_25, if_neg c_41, mB1, if_pos c_106, mB2, if_pos c_127, if_pos c_136, mB3, if_neg c_173, mB4, if_pos c_198]; rfl)) rfl (by subst ev57; first | (rw [mBec, if_neg c_10, if_pos c_25, if_neg c_41, mB1, if_pos c_106, mB2, if_pos c_127, if_pos c_136, mB3, if_neg c_173, mB4, if_pos c_198]; done) | (rw [mBec, if_neg c_10, if_pos c_25, if_neg c_41, mB1, if_pos c_106, mB2, if_pos c_127, if_pos c_136, mB3, if_neg c_173, mB4, if_pos c_198]; rfl)) dX10_becomes_202
              · refine j_bipush X (v := (-4)) dX10_becomes_176 (by decide) ?_
                refine j_goto X (tgt := 193) dX10_becomes_178 (by decide) ?_
                refine j_istore X (L' := [(5, .int (-4)), (0, .ref b), (1, .int p), (2, .int s), (3, .int d), (4, .int pr)]) dX10_becomes_193 (by decide) rfl ?_
                refine j_iload X 0 dX10_becomes_195 rfl ?_
                refine j_iload_n X 2 dX10_becomes_197 rfl rfl ?_
                refine j_icmp_ne X (tgt := 203) dX10_becomes_198 (by decide) (fun c_198 => ?_) (fun c_198 => ?_)
                · refine j_iload X 0 dX10_becomes_203 rfl ?_
                  refine j_if_lt X (tgt := 240) dX10_becomes_205 (by decide) (fun _ => ?_) (fun c_ => absurd (by decide) c_)
                  refine j_aload_n X 1 dX10_becomes_240 rfl rfl ?_
                  refine j_iload_n X 2 dX10_becomes_241 rfl rfl ?_
                  refine j_iconst X (v := 4) dX10_becomes_242 (by decide) ?_
                  refine j_callVi X (rest := []) (c_X10_of l hp (show WH 4 _ from ⟨4, by decide, rfl⟩)) m_yX10_of kM_RX10_44 mput_0 rfl rfl rfl rfl rfl (Nat.le_of_ble_eq_true rfl) ⟨Nat.le_of_ble_eq_true rfl, Nat.le_of_ble_eq_true rfl, Nat.le_of_ble_eq_true rfl, Nat.le_of_ble_eq_true rfl⟩ dX10_becomes_243 ?_
                  refine j_aload_n X 1 dX10_becomes_246 rfl rfl ?_
                  refine j_get X fG_RX10_7 mput_0 rfl rfl dX10_becomes_247 ?_
                  refine j_iconst X (v := 2) dX10_becomes_250 (by decide) ?_
                  refine j_ldM X (vp_in_nI (n := 2) (by decide) (by decide)) dX10_becomes_251 ?_
                  refine j_icmp_lt X (tgt := 263) dX10_becomes_252 (by decide) (fun c_252 => ?_) (fun c_252 => ?_)
                  · refine j_aload_n X 1 dX10_becomes_263 rfl rfl ?_
                    refine j_iload_n X 2 dX10_becomes_264 rfl rfl ?_
                    refine j_iconst X (v := 4) dX10_becomes_265 (by decide) ?_
                    refine j_aload_n X 1 dX10_becomes_266 rfl rfl ?_
                    refine j_iload_n X 2 dX10_becomes_267 rfl rfl ?_
                    refine j_iconst X (v := 4) dX10_becomes_268 (by decide) ?_
                    refine j_callVi X (rest := [.int 4, .int p, .ref b]) (c_X10_of l hp (show WH 4 _ from ⟨4, by decide, rfl⟩)) m_yX10_of kM_RX10_44 mput_0 rfl rfl rfl rfl rfl (Nat.le_of_ble_eq_true rfl) ⟨Nat.le_of_ble_eq_true rfl, Nat.le_of_ble_eq_true rfl, Nat.le_of_ble_eq_true rfl, Nat.le_of_ble_eq_true rfl⟩ dX10_becomes_269 ?_
                    refine j_iconst X (v := 1) dX10_becomes_272 (by decide) ?_
                    refine j_iadd X dX10_becomes_273 ?_
                    refine j_callVv X (rest := []) (c_X10_to l hp (show WH 4 _ from ⟨4, by decide, rfl⟩)) m_yX10_to kM_RX10_32 mput_0 rfl rfl rfl rfl rfl (Nat.le_of_ble_eq_true rfl) ⟨Nat.le_of_ble_eq_true rfl, Nat.le_of_ble_eq_true rfl, Nat.le_of_ble_eq_true rfl, Nat.le_of_ble_eq_true rfl⟩ dX10_becomes_274 ?_
                    refine j_iconst X (v := 0) dX10_becomes_277 (by decide) ?_
                    refine j_istore X (L' := [(6, .int 0), (5, .int (-4)), (0, .ref b), (1, .int p), (2, .int s), (3, .int d), (4, .int pr)]) dX10_becomes_278 (by decide) rfl ?_
                    have hIb : MIv (mTo (mLn (mRemO (mMv (msc μ 2 0) p s)) p s) p 4 ((mOf (mLn (mRemO (mMv (msc μ 2 0) p s)) p s) p 4) + 1)) := (mi_to hp ⟨4, by decide, by decide, by decide, rfl⟩ (mi_ln hp hs (mi_remO (mi_mv hp hs (mi_msc hI)))))
                    have loop280 : ∀ (n k : Nat), k + n = 8 → J P l E { frames := 2, cells := 0, slots := 0, locals := 48 } S0 M0 AR BL ME CO D B 7 (MQ BL (QC (some (.int ((mBec μ p s d pr).1))) D B (z + 0) (mput D h b ((mBec μ p s d pr).2))) AR S0 0 0 (aB B)) 0 0 z (mput D h b (mFl (mTo (mLn (mRemO (mMv (msc μ 2 0) p s)) p s) p 4 ((mOf (mLn (mRemO (mMv (msc μ 2 0) p s)) p s) p 4) + 1)) p s d pr k)) [(0, .ref b), (1, .int p), (2, .int s), (3, .int d), (4, .int pr), (5, .int (-4)), (6, .int (nI k))] [] 280 := by
                      intro n
                      induction n with
                      | zero =>
                        intro k hk
                        obtain rfl : k = 8 := by omega
                        refine j_iload X 6 dX10_becomes_280 rfl ?_
                        refine j_bipush X (v := 8) dX10_becomes_282 (by decide) ?_
                        refine j_icmp_ge X (tgt := 331) dX10_becomes_284 (by decide) (fun c_284 => ?_) (fun c_284 => absurd c_284 (by decide))
                        refine j_iconst X (v := 3) dX10_becomes_331 (by decide) ?_
                        exact j_iret X hr rfl (by first | (rw [mBec, if_neg c_10, if_pos c_25, if_neg c_41, mB1, if_pos c_106, mB2, if_pos c_127, if_pos c_136, mB3, if_pos c_173, mB4, if_neg c_198, if_pos (show (-4 : Int32) < 0 by decide), mB5, if_pos c_252]; done) | (rw [mBec, if_neg c_10, if_pos c_25, if_neg c_41, mB1, if_pos c_106, mB2, if_pos c_127, if_pos c_136, mB3, if_pos c_173, mB4, if_neg c_198, if_pos (show (-4 : Int32) < 0 by decide), mB5, if_pos c_252]; rfl)) rfl (by first | (rw [mBec, if_neg c_10, if_pos c_25, if_neg c_41, mB1, if_pos c_106, mB2, if_pos c_127, if_pos c_136, mB3, if_pos c_173, mB4, if_neg c_198, if_pos (show (-4 : Int32) < 0 by decide), mB5, if_pos c_252]; done) | (rw [mBec, if_neg c_10, if_pos c_25, if_neg c_41, mB1, if_pos c_106, mB2, if_pos c_127, if_pos c_136, mB3, if_pos c_173, mB4, if_neg c_198, if_pos (show (-4 : Int32) < 0 by decide), mB5, if_pos c_252]; rfl)) dX10_becomes_332
                      | succ n ih =>
                        intro k hk
                        have hlt : nI k < 8 := nlt_lit (b := 8) (by omega) (by decide)
                        refine j_iload X 6 dX10_becomes_280 rfl ?_
                        refine j_bipush X (v := 8) dX10_becomes_282 (by decide) ?_
                        refine j_icmp_ge X (tgt := 331) dX10_becomes_284 (by decide) (fun c_284 => absurd hlt c_284) (fun c_284 => ?_)
                        refine j_iload X 6 dX10_becomes_287 rfl ?_
                        refine j_iload_n X 1 dX10_becomes_289 rfl rfl ?_
                        refine j_icmp_eq X (tgt := 325) dX10_becomes_290 (by decide) (fun c_290 => ?_) (fun c_290 => ?_)
                        · obtain ⟨v61, ev61⟩ : ∃ y : Int32, (nI k) + 1 = y := ⟨_, rfl⟩
                          refine j_iinc X 6 (k := 1) (v := v61) (L' := [(6, .int v61), (0, .ref b), (1, .int p), (2, .int s), (3, .int d), (4, .int pr), (5, .int (-4))]) dX10_becomes_325 rfl (by decide) (by decide) ev61 rfl ?_
                          refine j_goto X (tgt := 280) dX10_becomes_328 (by decide) ?_
                          refine j_sub [1, 2, 3, 4, 5, 6, 0] (L' := [(0, .ref b), (1, .int p), (2, .int s), (3, .int d), (4, .int pr), (5, .int (-4)), (6, .int (nI (k + 1)))]) (by subst ev61; first | with_reducible rfl | (simp only [mFl, nI_succ k, if_neg c_10, if_pos c_25, if_neg c_41, if_pos c_106, if_pos c_127, if_pos c_136, if_pos c_173, if_neg c_198, if_pos c_252, if_pos c_284, if_pos c_290]; done) | (simp only [mFl, nI_succ k, if_neg c_10, if_pos c_25, if_neg c_41, if_pos c_106, if_pos c_127, if_pos c_136, if_pos c_173, if_neg c_198, if_pos c_252, if_pos c_284, if_pos c_290]; rfl) | rfl) ?_
                          refine j_heap (h' := mput D h b (mFl (mTo (mLn (mRemO (mMv (msc μ 2 0) p s)) p s) p 4 ((mOf (mLn (mRemO (mMv (msc μ 2 0) p s)) p s) p 4) + 1)) p s d pr (k + 1))) (by subst ev61; first | with_reducible rfl | (simp only [mFl, nI_succ k, if_neg c_10, if_pos c_25, if_neg c_41, if_pos c_106, if_pos c_127, if_pos c_136, if_pos c_173, if_neg c_198, if_pos c_252, if_pos c_284, if_pos c_290]; done) | (simp only [mFl, nI_succ k, if_neg c_10, if_pos c_25, if_neg c_41, if_pos c_106, if_pos c_127, if_pos c_136, if_pos c_173, if_neg c_198, if_pos c_252, if_pos c_284, if_pos c_290]; rfl) | rfl) ?_
                          exact ih (k + 1) (by omega)
                        · refine j_aload_n X 0 dX10_becomes_293 rfl rfl ?_
                          refine j_iload X 6 dX10_becomes_294 rfl ?_
                          refine j_callVi X (rest := []) (c_X10_isOpen l (po_nI (by omega))) m_yX10_isOpen kM_RX10_48 mput_0 rfl rfl rfl rfl rfl (Nat.le_of_ble_eq_true rfl) ⟨Nat.le_of_ble_eq_true rfl, Nat.le_of_ble_eq_true rfl, Nat.le_of_ble_eq_true rfl, Nat.le_of_ble_eq_true rfl⟩ dX10_becomes_296 ?_
                          refine j_if_eq X (tgt := 325) dX10_becomes_299 (by decide) (fun c_299 => ?_) (fun c_299 => ?_)
                          · obtain ⟨v62, ev62⟩ : ∃ y : Int32, (nI k) + 1 = y := ⟨_, rfl⟩
                            refine j_iinc X 6 (k := 1) (v := v62) (L' := [(6, .int v62), (0, .ref b), (1, .int p), (2, .int s), (3, .int d), (4, .int pr), (5, .int (-4))]) dX10_becomes_325 rfl (by decide) (by decide) ev62 rfl ?_
                            refine j_goto X (tgt := 280) dX10_becomes_328 (by decide) ?_
                            refine j_sub [1, 2, 3, 4, 5, 6, 0] (L' := [(0, .ref b), (1, .int p), (2, .int s), (3, .int d), (4, .int pr), (5, .int (-4)), (6, .int (nI (k + 1)))]) (by subst ev62; first | with_reducible rfl | (simp only [mFl, nI_succ k, if_neg c_10, if_pos c_25, if_neg c_41, if_pos c_106, if_pos c_127, if_pos c_136, if_pos c_173, if_neg c_198, if_pos c_252, if_pos c_284, if_neg c_290, if_pos c_299]; done) | (simp only [mFl, nI_succ k, if_neg c_10, if_pos c_25, if_neg c_41, if_pos c_106, if_pos c_127, if_pos c_136, if_pos c_173, if_neg c_198, if_pos c_252, if_pos c_284, if_neg c_290, if_pos c_299]; rfl) | rfl) ?_
                            refine j_heap (h' := mput D h b (mFl (mTo (mLn (mRemO (mMv (msc μ 2 0) p s)) p s) p 4 ((mOf (mLn (mRemO (mMv (msc μ 2 0) p s)) p s) p 4) + 1)) p s d pr (k + 1))) (by subst ev62; first | with_reducible rfl | (simp only [mFl, nI_succ k, if_neg c_10, if_pos c_25, if_neg c_41, if_pos c_106, if_pos c_127, if_pos c_136, if_pos c_173, if_neg c_198, if_pos c_252, if_pos c_284, if_neg c_290, if_pos c_299]; done) | (simp only [mFl, nI_succ k, if_neg c_10, if_pos c_25, if_neg c_41, if_pos c_106, if_pos c_127, if_pos c_136, if_pos c_173, if_neg c_198, if_pos c_252, if_pos c_284, if_neg c_290, if_pos c_299]; rfl) | rfl) ?_
                            exact ih (k + 1) (by omega)
                          · refine j_aload_n X 0 dX10_becomes_302 rfl rfl ?_
                            refine j_dup X dX10_becomes_303 rfl ?_
                            refine j_get X fG_RX10_87 mput_0 rfl rfl dX10_becomes_304 ?_
                            refine j_iconst X (v := 1) dX10_becomes_307 (by decide) ?_
                            refine j_iload X 6 dX10_becomes_308 rfl ?_
                            refine j_ishl X dX10_becomes_310 ?_
                            refine j_ior X dX10_becomes_311 ?_
                            refine j_put X fG_RX10_87 fW_10_6 mput_0 rfl rfl rfl (Nat.le_of_ble_eq_true rfl) dX10_becomes_312 ?_
                            refine j_heap (h' := mput D h b (msc (mFl (mTo (mLn (mRemO (mMv (msc μ 2 0) p s)) p s) p 4 ((mOf (mLn (mRemO (mMv (msc μ 2 0) p s)) p s) p 4) + 1)) p s d pr k) 2 (((mFl (mTo (mLn (mRemO (mMv (msc μ 2 0) p s)) p s) p 4 ((mOf (mLn (mRemO (mMv (msc μ 2 0) p s)) p s) p 4) + 1)) p s d pr k).1 2) ||| (1 <<< ((nI k) &&& 31))))) mput_s2 ?_
                            refine j_aload_n X 0 dX10_becomes_315 rfl rfl ?_
                            refine j_iload X 6 dX10_becomes_316 rfl ?_
                            refine j_iload_n X 2 dX10_becomes_318 rfl rfl ?_
                            refine j_iload_n X 3 dX10_becomes_319 rfl rfl ?_
                            refine j_iload X 4 dX10_becomes_320 rfl ?_
                            refine j_callVv X (rest := []) (c_X10_goesOut l (po_nI (by omega)) (mi_many (po_nI (by omega)) (mi_msc (mi_fl hIb _ (by omega))))) m_yX10_goesOut kM_RX10_102 mput_0 rfl rfl rfl rfl rfl (Nat.le_of_ble_eq_true rfl) ⟨Nat.le_of_ble_eq_true rfl, Nat.le_of_ble_eq_true rfl, Nat.le_of_ble_eq_true rfl, Nat.le_of_ble_eq_true rfl⟩ dX10_becomes_322 ?_
                            obtain ⟨v63, ev63⟩ : ∃ y : Int32, (nI k) + 1 = y := ⟨_, rfl⟩
                            refine j_iinc X 6 (k := 1) (v := v63) (L' := [(6, .int v63), (0, .ref b), (1, .int p), (2, .int s), (3, .int d), (4, .int pr), (5, .int (-4))]) dX10_becomes_325 rfl (by decide) (by decide) ev63 rfl ?_
                            refine j_goto X (tgt := 280) dX10_becomes_328 (by decide) ?_
                            refine j_sub [1, 2, 3, 4, 5, 6, 0] (L' := [(0, .ref b), (1, .int p), (2, .int s), (3, .int d), (4, .int pr), (5, .int (-4)), (6, .int (nI (k + 1)))]) (by subst ev63; first | with_reducible rfl | (simp only [mFl, nI_succ k, if_neg c_10, if_pos c_25, if_neg c_41, if_pos c_106, if_pos c_127, if_pos c_136, if_pos c_173, if_neg c_198, if_pos c_252, if_pos c_284, if_neg c_290, if_neg c_299]; done) | (simp only [mFl, nI_succ k, if_neg c_10, if_pos c_25, if_neg c_41, if_pos c_106, if_pos c_127, if_pos c_136, if_pos c_173, if_neg c_198, if_pos c_252, if_pos c_284, if_neg c_290, if_neg c_299]; rfl) | rfl) ?_
                            refine j_heap (h' := mput D h b (mFl (mTo (mLn (mRemO (mMv (msc μ 2 0) p s)) p s) p 4 ((mOf (mLn (mRemO (mMv (msc μ 2 0) p s)) p s) p 4) + 1)) p s d pr (k + 1))) (by subst ev63; first | with_reducible rfl | (simp only [mFl, nI_succ k, if_neg c_10, if_pos c_25, if_neg c_41, if_pos c_106, if_pos c_127, if_pos c_136, if_pos c_173, if_neg c_198, if_pos c_252, if_pos c_284, if_neg c_290, if_neg c_299]; done) | (simp only [mFl, nI_succ k, if_neg c_10, if_pos c_25, if_neg c_41, if_pos c_106, if_pos c_127, if_pos c_136, if_pos c_173, if_neg c_198, if_pos c_252, if_pos c_284, if_neg c_290, if_neg c_299]; rfl) | rfl) ?_
                            exact ih (k + 1) (by omega)
                    refine j_sub [2, 3, 4, 5, 6, 1, 0] (L' := [(0, .ref b), (1, .int p), (2, .int s), (3, .int d), (4, .int pr), (5, .int (-4)), (6, .int (nI 0))]) (by first | with_reducible rfl | (simp only [mFl, if_neg c_10, if_pos c_25, if_neg c_41, if_pos c_106, if_pos c_127, if_pos c_136, if_pos c_173, if_neg c_198, if_pos c_252]; done) | (simp only [mFl, if_neg c_10, if_pos c_25, if_neg c_41, if_pos c_106, if_pos c_127, if_pos c_136, if_pos c_173, if_neg c_198, if_pos c_252]; rfl) | rfl) ?_
                    refine j_heap (h' := mput D h b (mFl (mTo (mLn (mRemO (mMv (msc μ 2 0) p s)) p s) p 4 ((mOf (mLn (mRemO (mMv (msc μ 2 0) p s)) p s) p 4) + 1)) p s d pr 0)) (by first | with_reducible rfl | (simp only [mFl, if_neg c_10, if_pos c_25, if_neg c_41, if_pos c_106, if_pos c_127, if_pos c_136, if_pos c_173, if_neg c_198, if_pos c_252]; done) | (simp only [mFl, if_neg c_10, if_pos c_25, if_neg c_41, if_pos c_106, if_pos c_127, if_pos c_136, if_pos c_173, if_neg c_198, if_pos c_252]; rfl) | rfl) ?_
                    exact loop280 8 0 rfl
                  · refine j_aload_n X 1 dX10_becomes_255 rfl rfl ?_
                    refine j_iload_n X 2 dX10_becomes_256 rfl rfl ?_
                    refine j_iconst X (v := 2) dX10_becomes_257 (by decide) ?_
                    refine j_callVv X (rest := []) (c_X10_quarantine l hp) m_yX10_quarantine kM_RX10_93 mput_0 rfl rfl rfl rfl rfl (Nat.le_of_ble_eq_true rfl) ⟨Nat.le_of_ble_eq_true rfl, Nat.le_of_ble_eq_true rfl, Nat.le_of_ble_eq_true rfl, Nat.le_of_ble_eq_true rfl⟩ dX10_becomes_258 ?_
                    refine j_iconst X (v := 5) dX10_becomes_261 (by decide) ?_
                    exact j_iret X hr rfl (by first | (rw [mBec, if_neg c_10, if_pos c_25, if_neg c_41, mB1, if_pos c_106, mB2, if_pos c_127, if_pos c_136, mB3, if_pos c_173, mB4, if_neg c_198, if_pos (show (-4 : Int32) < 0 by decide), mB5, if_neg c_252]; done) | (rw [mBec, if_neg c_10, if_pos c_25, if_neg c_41, mB1, if_pos c_106, mB2, if_pos c_127, if_pos c_136, mB3, if_pos c_173, mB4, if_neg c_198, if_pos (show (-4 : Int32) < 0 by decide), mB5, if_neg c_252]; rfl)) rfl (by first | (rw [mBec, if_neg c_10, if_pos c_25, if_neg c_41, mB1, if_pos c_106, mB2, if_pos c_127, if_pos c_136, mB3, if_pos c_173, mB4, if_neg c_198, if_pos (show (-4 : Int32) < 0 by decide), mB5, if_neg c_252]; done) | (rw [mBec, if_neg c_10, if_pos c_25, if_neg c_41, mB1, if_pos c_106, mB2, if_pos c_127, if_pos c_136, mB3, if_pos c_173, mB4, if_neg c_198, if_pos (show (-4 : Int32) < 0 by decide), mB5, if_neg c_252]; rfl)) dX10_becomes_262
                · refine j_iconst X (v := 1) dX10_becomes_201 (by decide) ?_
                  exact j_iret X hr rfl (by first | (rw [mBec, if_neg c_10, if_pos c_25, if_neg c_41, mB1, if_pos c_106, mB2, if_pos c_127, if_pos c_136, mB3, if_pos c_173, mB4, if_pos c_198]; done) | (rw [mBec, if_neg c_10, if_pos c_25, if_neg c_41, mB1, if_pos c_106, mB2, if_pos c_127, if_pos c_136, mB3, if_pos c_173, mB4, if_pos c_198]; rfl)) rfl (by first | (rw [mBec, if_neg c_10, if_pos c_25, if_neg c_41, mB1, if_pos c_106, mB2, if_pos c_127, if_pos c_136, mB3, if_pos c_173, mB4, if_pos c_198]; done) | (rw [mBec, if_neg c_10, if_pos c_25, if_neg c_41, mB1, if_pos c_106, mB2, if_pos c_127, if_pos c_136, mB3, if_pos c_173, mB4, if_pos c_198]; rfl)) dX10_becomes_202
        · refine j_aload_n X 0 dX10_becomes_109 rfl rfl ?_
          refine j_iload_n X 1 dX10_becomes_110 rfl rfl ?_
          refine j_iconst X (v := 1) dX10_becomes_111 (by decide) ?_
          refine j_callVv X (rest := []) (c_X10_quarantine l hp) m_yX10_quarantine kM_RX10_93 mput_0 rfl rfl rfl rfl rfl (Nat.le_of_ble_eq_true rfl) ⟨Nat.le_of_ble_eq_true rfl, Nat.le_of_ble_eq_true rfl, Nat.le_of_ble_eq_true rfl, Nat.le_of_ble_eq_true rfl⟩ dX10_becomes_112 ?_
          refine j_iconst X (v := 4) dX10_becomes_115 (by decide) ?_
          exact j_iret X hr rfl (by first | (rw [mBec, if_neg c_10, if_pos c_25, if_neg c_41, mB1, if_neg c_106]; done) | (rw [mBec, if_neg c_10, if_pos c_25, if_neg c_41, mB1, if_neg c_106]; rfl)) rfl (by first | (rw [mBec, if_neg c_10, if_pos c_25, if_neg c_41, mB1, if_neg c_106]; done) | (rw [mBec, if_neg c_10, if_pos c_25, if_neg c_41, mB1, if_neg c_106]; rfl)) dX10_becomes_116
  · refine j_iconst X (v := 0) dX10_becomes_13 (by decide) ?_
    exact j_iret X hr rfl (by first | (rw [mBec, if_pos c_10]; done) | (rw [mBec, if_pos c_10]; rfl)) rfl (by first | (rw [mBec, if_pos c_10]; done) | (rw [mBec, if_pos c_10]; rfl)) dX10_becomes_14
