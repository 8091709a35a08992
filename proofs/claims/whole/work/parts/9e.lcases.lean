section CASES
variable {p : Program} {l : Launch} {e : Env} {s : State} {m : MethodId} {below : List Frame} {meth : Method} {c : Code} {D : DD} {B b L T nx : Nat} {xs : Nat → Int32} {g : HF} {S : Sy} {μ : Mo}
set_option maxHeartbeats 4000000 in
theorem case_setPort (X : Cx p s m #[Value.ref b] meth c code 4 RL D B) (hX : va_X b L xs s s.heap) (hbl : b < s.heap.size) (hbB : b < B) (hL : L ≤ 2560) (hi : 5 * T + 5 ≤ L) (h : RZ T nx S μ) (K : ∀ (nx2 : Nat) (S2 : Sy) (μ2 : Mo), RZ (T + 1) nx2 S2 μ2 → LJ p l e s m below meth c D B b g T S2 μ2 [] 730) : LJ p l e s m below meth c D B b g T S μ [] 136 := by
  have hT : T ≤ 600 := by omega
  obtain ⟨hnx, enx⟩ := h.2.1
  obtain ⟨q, hq, -, eq, -⟩ := h.2.2.1
  refine j_aload_n X 1 dL_136 rfl rfl ?_
  refine j_arg X hX hbl hbB hL (k := 1) (by omega) dL_137 dL_138 dL_139 (by decide) dL_140 dL_141 ?_
  refine j_arg X hX hbl hbB hL (k := 2) (by omega) dL_142 dL_143 dL_144 (by decide) dL_145 dL_146 ?_
  refine j_if_eq X (tgt := 154) dL_147 (by decide) (fun cz => ?_) (fun cz => ?_)
  · refine j_iconst X (v := 0) dL_154 (by decide) ?_
    refine j_heap xm_comm ?_
    refine j_callVi X (rest := []) (c_X9_setPort l hnx enx) m_yX9_setPort kM_RL_13 xput_0 rfl rfl rfl rfl rfl (Nat.le_of_ble_eq_true rfl) ⟨Nat.le_of_ble_eq_true rfl, Nat.le_of_ble_eq_true rfl, Nat.le_of_ble_eq_true rfl, Nat.le_of_ble_eq_true rfl⟩ dL_155 ?_
    refine j_heap xm_comm.symm ?_
    refine j_aload_n X 2 dL_158 rfl rfl ?_
    refine j_arg X hX hbl hbB hL (k := 1) (by omega) dL_159 dL_160 dL_161 (by decide) dL_162 dL_163 ?_
    refine j_arg X hX hbl hbB hL (k := 2) (by omega) dL_164 dL_165 dL_166 (by decide) dL_167 dL_168 ?_
    refine j_if_eq X (tgt := 176) dL_169 (by decide) (fun _ => ?_) (fun q => absurd cz q)
    refine j_iconst X (v := 0) dL_176 (by decide) ?_
    refine j_callVi X (rest := [.int _]) (c_X10_setPort l hq eq) m_yX10_setPort kM_RL_17 mput_0 rfl rfl rfl rfl rfl (Nat.le_of_ble_eq_true rfl) ⟨Nat.le_of_ble_eq_true rfl, Nat.le_of_ble_eq_true rfl, Nat.le_of_ble_eq_true rfl, Nat.le_of_ble_eq_true rfl⟩ dL_177 ?_
    have an : AN T (xSetPort nx S (xs (5 * T + 1)) 0) (mSetPort μ (xs (5 * T + 1)) 0) := n_setPort hT (Or.inl rfl) h
    refine j_icmp_eq X (tgt := 730) dL_180 (by decide) (fun _ => ?_) (fun cne => absurd an.1 cne)
    obtain ⟨-, nx2, hz⟩ := an
    exact K nx2 _ _ hz
  · refine j_iconst X (v := 1) dL_150 (by decide) ?_
    refine j_goto X (tgt := 155) dL_151 (by decide) ?_
    refine j_heap xm_comm ?_
    refine j_callVi X (rest := []) (c_X9_setPort l hnx enx) m_yX9_setPort kM_RL_13 xput_0 rfl rfl rfl rfl rfl (Nat.le_of_ble_eq_true rfl) ⟨Nat.le_of_ble_eq_true rfl, Nat.le_of_ble_eq_true rfl, Nat.le_of_ble_eq_true rfl, Nat.le_of_ble_eq_true rfl⟩ dL_155 ?_
    refine j_heap xm_comm.symm ?_
    refine j_aload_n X 2 dL_158 rfl rfl ?_
    refine j_arg X hX hbl hbB hL (k := 1) (by omega) dL_159 dL_160 dL_161 (by decide) dL_162 dL_163 ?_
    refine j_arg X hX hbl hbB hL (k := 2) (by omega) dL_164 dL_165 dL_166 (by decide) dL_167 dL_168 ?_
    refine j_if_eq X (tgt := 176) dL_169 (by decide) (fun q => absurd q cz) (fun _ => ?_)
    refine j_iconst X (v := 1) dL_172 (by decide) ?_
    refine j_goto X (tgt := 177) dL_173 (by decide) ?_
    refine j_callVi X (rest := [.int _]) (c_X10_setPort l hq eq) m_yX10_setPort kM_RL_17 mput_0 rfl rfl rfl rfl rfl (Nat.le_of_ble_eq_true rfl) ⟨Nat.le_of_ble_eq_true rfl, Nat.le_of_ble_eq_true rfl, Nat.le_of_ble_eq_true rfl, Nat.le_of_ble_eq_true rfl⟩ dL_177 ?_
    have an : AN T (xSetPort nx S (xs (5 * T + 1)) 1) (mSetPort μ (xs (5 * T + 1)) 1) := n_setPort hT (Or.inr rfl) h
    refine j_icmp_eq X (tgt := 730) dL_180 (by decide) (fun _ => ?_) (fun cne => absurd an.1 cne)
    obtain ⟨-, nx2, hz⟩ := an
    exact K nx2 _ _ hz
set_option maxHeartbeats 4000000 in
theorem case_join (X : Cx p s m #[Value.ref b] meth c code 4 RL D B) (hX : va_X b L xs s s.heap) (hbl : b < s.heap.size) (hbB : b < B) (hL : L ≤ 2560) (hi : 5 * T + 5 ≤ L) (h : RZ T nx S μ) (K : ∀ (nx2 : Nat) (S2 : Sy) (μ2 : Mo), RZ (T + 1) nx2 S2 μ2 → LJ p l e s m below meth c D B b g T S2 μ2 [] 730) : LJ p l e s m below meth c D B b g T S μ [] 185 := by
  have hT : T ≤ 600 := by omega
  obtain ⟨hnx, enx⟩ := h.2.1
  obtain ⟨q, hq, -, eq, -⟩ := h.2.2.1
  refine j_aload_n X 1 dL_185 rfl rfl ?_
  refine j_arg X hX hbl hbB hL (k := 1) (by omega) dL_186 dL_187 dL_188 (by decide) dL_189 dL_190 ?_
  refine j_arg X hX hbl hbB hL (k := 2) (by omega) dL_191 dL_192 dL_193 (by decide) dL_194 dL_195 ?_
  refine j_heap xm_comm ?_
  refine j_callVi X (rest := []) (c_X9_join l hnx enx) m_yX9_join kM_RL_18 xput_0 rfl rfl rfl rfl rfl (Nat.le_of_ble_eq_true rfl) ⟨Nat.le_of_ble_eq_true rfl, Nat.le_of_ble_eq_true rfl, Nat.le_of_ble_eq_true rfl, Nat.le_of_ble_eq_true rfl⟩ dL_196 ?_
  refine j_heap xm_comm.symm ?_
  refine j_aload_n X 2 dL_199 rfl rfl ?_
  refine j_arg X hX hbl hbB hL (k := 1) (by omega) dL_200 dL_201 dL_202 (by decide) dL_203 dL_204 ?_
  refine j_arg X hX hbl hbB hL (k := 2) (by omega) dL_205 dL_206 dL_207 (by decide) dL_208 dL_209 ?_
  refine j_callVi X (rest := [.int _]) (c_X10_join l hq eq) m_yX10_join kM_RL_22 mput_0 rfl rfl rfl rfl rfl (Nat.le_of_ble_eq_true rfl) ⟨Nat.le_of_ble_eq_true rfl, Nat.le_of_ble_eq_true rfl, Nat.le_of_ble_eq_true rfl, Nat.le_of_ble_eq_true rfl⟩ dL_210 ?_
  have an : AN T (xJoin nx S (xs (5 * T + 1)) (xs (5 * T + 2))) (mJoin μ (xs (5 * T + 1)) (xs (5 * T + 2))) := n_join h
  refine j_icmp_eq X (tgt := 730) dL_213 (by decide) (fun _ => ?_) (fun cne => absurd an.1 cne)
  obtain ⟨-, nx2, hz⟩ := an
  exact K nx2 _ _ hz
set_option maxHeartbeats 4000000 in
theorem case_part (X : Cx p s m #[Value.ref b] meth c code 4 RL D B) (hX : va_X b L xs s s.heap) (hbl : b < s.heap.size) (hbB : b < B) (hL : L ≤ 2560) (hi : 5 * T + 5 ≤ L) (h : RZ T nx S μ) (K : ∀ (nx2 : Nat) (S2 : Sy) (μ2 : Mo), RZ (T + 1) nx2 S2 μ2 → LJ p l e s m below meth c D B b g T S2 μ2 [] 730) : LJ p l e s m below meth c D B b g T S μ [] 218 := by
  have hT : T ≤ 600 := by omega
  obtain ⟨hnx, enx⟩ := h.2.1
  obtain ⟨q, hq, -, eq, -⟩ := h.2.2.1
  have hI := rz_mi hT h
  refine j_aload_n X 1 dL_218 rfl rfl ?_
  refine j_arg X hX hbl hbB hL (k := 1) (by omega) dL_219 dL_220 dL_221 (by decide) dL_222 dL_223 ?_
  refine j_heap xm_comm ?_
  refine j_callVi X (rest := []) (c_X9_part l hnx enx) m_yX9_part kM_RL_23 xput_0 rfl rfl rfl rfl rfl (Nat.le_of_ble_eq_true rfl) ⟨Nat.le_of_ble_eq_true rfl, Nat.le_of_ble_eq_true rfl, Nat.le_of_ble_eq_true rfl, Nat.le_of_ble_eq_true rfl⟩ dL_224 ?_
  refine j_heap xm_comm.symm ?_
  refine j_aload_n X 2 dL_227 rfl rfl ?_
  refine j_arg X hX hbl hbB hL (k := 1) (by omega) dL_228 dL_229 dL_230 (by decide) dL_231 dL_232 ?_
  refine j_callVi X (rest := [.int _]) (c_X10_part l hq eq hI) m_yX10_part kM_RL_27 mput_0 rfl rfl rfl rfl rfl (Nat.le_of_ble_eq_true rfl) ⟨Nat.le_of_ble_eq_true rfl, Nat.le_of_ble_eq_true rfl, Nat.le_of_ble_eq_true rfl, Nat.le_of_ble_eq_true rfl⟩ dL_233 ?_
  have an : AN T (xPartC nx S (xs (5 * T + 1))) (mPartC μ (xs (5 * T + 1))) := n_part h
  refine j_icmp_eq X (tgt := 730) dL_236 (by decide) (fun _ => ?_) (fun cne => absurd an.1 cne)
  obtain ⟨-, nx2, hz⟩ := an
  exact K nx2 _ _ hz
set_option maxHeartbeats 4000000 in
theorem case_release (X : Cx p s m #[Value.ref b] meth c code 4 RL D B) (hX : va_X b L xs s s.heap) (hbl : b < s.heap.size) (hbB : b < B) (hL : L ≤ 2560) (hi : 5 * T + 5 ≤ L) (h : RZ T nx S μ) (K : ∀ (nx2 : Nat) (S2 : Sy) (μ2 : Mo), RZ (T + 1) nx2 S2 μ2 → LJ p l e s m below meth c D B b g T S2 μ2 [] 730) : LJ p l e s m below meth c D B b g T S μ [] 241 := by
  have hT : T ≤ 600 := by omega
  obtain ⟨hnx, enx⟩ := h.2.1
  obtain ⟨q, hq, -, eq, -⟩ := h.2.2.1
  refine j_aload_n X 1 dL_241 rfl rfl ?_
  refine j_arg X hX hbl hbB hL (k := 1) (by omega) dL_242 dL_243 dL_244 (by decide) dL_245 dL_246 ?_
  refine j_heap xm_comm ?_
  refine j_callVi X (rest := []) (c_X9_release l hnx enx) m_yX9_release kM_RL_28 xput_0 rfl rfl rfl rfl rfl (Nat.le_of_ble_eq_true rfl) ⟨Nat.le_of_ble_eq_true rfl, Nat.le_of_ble_eq_true rfl, Nat.le_of_ble_eq_true rfl, Nat.le_of_ble_eq_true rfl⟩ dL_247 ?_
  refine j_heap xm_comm.symm ?_
  refine j_aload_n X 2 dL_250 rfl rfl ?_
  refine j_arg X hX hbl hbB hL (k := 1) (by omega) dL_251 dL_252 dL_253 (by decide) dL_254 dL_255 ?_
  refine j_callVi X (rest := [.int _]) (c_X10_release l hq eq) m_yX10_release kM_RL_31 mput_0 rfl rfl rfl rfl rfl (Nat.le_of_ble_eq_true rfl) ⟨Nat.le_of_ble_eq_true rfl, Nat.le_of_ble_eq_true rfl, Nat.le_of_ble_eq_true rfl, Nat.le_of_ble_eq_true rfl⟩ dL_256 ?_
  have an : AN T (xRelease nx S (xs (5 * T + 1))) (mRelease μ (xs (5 * T + 1))) := n_release hT h
  refine j_icmp_eq X (tgt := 730) dL_259 (by decide) (fun _ => ?_) (fun cne => absurd an.1 cne)
  obtain ⟨-, nx2, hz⟩ := an
  exact K nx2 _ _ hz
set_option maxHeartbeats 4000000 in
theorem case_set (X : Cx p s m #[Value.ref b] meth c code 4 RL D B) (hX : va_X b L xs s s.heap) (hbl : b < s.heap.size) (hbB : b < B) (hL : L ≤ 2560) (hi : 5 * T + 5 ≤ L) (h : RZ T nx S μ) (K : ∀ (nx2 : Nat) (S2 : Sy) (μ2 : Mo), RZ (T + 1) nx2 S2 μ2 → LJ p l e s m below meth c D B b g T S2 μ2 [] 730) : LJ p l e s m below meth c D B b g T S μ [] 264 := by
  have hT : T ≤ 600 := by omega
  obtain ⟨hnx, enx⟩ := h.2.1
  obtain ⟨q, hq, -, eq, -⟩ := h.2.2.1
  refine j_aload_n X 1 dL_264 rfl rfl ?_
  refine j_arg X hX hbl hbB hL (k := 1) (by omega) dL_265 dL_266 dL_267 (by decide) dL_268 dL_269 ?_
  refine j_arg X hX hbl hbB hL (k := 2) (by omega) dL_270 dL_271 dL_272 (by decide) dL_273 dL_274 ?_
  refine j_heap xm_comm ?_
  refine j_callVi X (rest := []) (c_X9_set l hnx enx) m_yX9_set kM_RL_32 xput_0 rfl rfl rfl rfl rfl (Nat.le_of_ble_eq_true rfl) ⟨Nat.le_of_ble_eq_true rfl, Nat.le_of_ble_eq_true rfl, Nat.le_of_ble_eq_true rfl, Nat.le_of_ble_eq_true rfl⟩ dL_275 ?_
  refine j_heap xm_comm.symm ?_
  refine j_aload_n X 2 dL_278 rfl rfl ?_
  refine j_arg X hX hbl hbB hL (k := 1) (by omega) dL_279 dL_280 dL_281 (by decide) dL_282 dL_283 ?_
  refine j_arg X hX hbl hbB hL (k := 2) (by omega) dL_284 dL_285 dL_286 (by decide) dL_287 dL_288 ?_
  refine j_callVi X (rest := [.int _]) (c_X10_set l hq eq) m_yX10_set kM_RL_35 mput_0 rfl rfl rfl rfl rfl (Nat.le_of_ble_eq_true rfl) ⟨Nat.le_of_ble_eq_true rfl, Nat.le_of_ble_eq_true rfl, Nat.le_of_ble_eq_true rfl, Nat.le_of_ble_eq_true rfl⟩ dL_289 ?_
  have an : AN T (xSet nx S (xs (5 * T + 1)) (xs (5 * T + 2))) (mSet μ (xs (5 * T + 1)) (xs (5 * T + 2))) := n_set h
  refine j_icmp_eq X (tgt := 730) dL_292 (by decide) (fun _ => ?_) (fun cne => absurd an.1 cne)
  obtain ⟨-, nx2, hz⟩ := an
  exact K nx2 _ _ hz
set_option maxHeartbeats 4000000 in
theorem case_frame (X : Cx p s m #[Value.ref b] meth c code 4 RL D B) (hX : va_X b L xs s s.heap) (hbl : b < s.heap.size) (hbB : b < B) (hL : L ≤ 2560) (hi : 5 * T + 5 ≤ L) (h : RZ T nx S μ) (K : ∀ (nx2 : Nat) (S2 : Sy) (μ2 : Mo), RZ (T + 1) nx2 S2 μ2 → LJ p l e s m below meth c D B b g T S2 μ2 [] 730) : LJ p l e s m below meth c D B b g T S μ [] 297 := by
  have hT : T ≤ 600 := by omega
  obtain ⟨hnx, enx⟩ := h.2.1
  obtain ⟨q, hq, -, eq, -⟩ := h.2.2.1
  have hI := rz_mi hT h
  refine j_aload_n X 1 dL_297 rfl rfl ?_
  refine j_arg X hX hbl hbB hL (k := 1) (by omega) dL_298 dL_299 dL_300 (by decide) dL_301 dL_302 ?_
  refine j_arg X hX hbl hbB hL (k := 2) (by omega) dL_303 dL_304 dL_305 (by decide) dL_306 dL_307 ?_
  refine j_arg X hX hbl hbB hL (k := 3) (by omega) dL_308 dL_309 dL_310 (by decide) dL_311 dL_312 ?_
  refine j_arg X hX hbl hbB hL (k := 4) (by omega) dL_313 dL_314 dL_315 (by decide) dL_316 dL_317 ?_
  refine j_heap xm_comm ?_
  refine j_callVi X (rest := []) (c_X9_frame l hnx enx) m_yX9_frame kM_RL_36 xput_0 rfl rfl rfl rfl rfl (Nat.le_of_ble_eq_true rfl) ⟨Nat.le_of_ble_eq_true rfl, Nat.le_of_ble_eq_true rfl, Nat.le_of_ble_eq_true rfl, Nat.le_of_ble_eq_true rfl⟩ dL_318 ?_
  refine j_heap xm_comm.symm ?_
  refine j_aload_n X 2 dL_321 rfl rfl ?_
  refine j_arg X hX hbl hbB hL (k := 1) (by omega) dL_322 dL_323 dL_324 (by decide) dL_325 dL_326 ?_
  refine j_arg X hX hbl hbB hL (k := 2) (by omega) dL_327 dL_328 dL_329 (by decide) dL_330 dL_331 ?_
  refine j_arg X hX hbl hbB hL (k := 3) (by omega) dL_332 dL_333 dL_334 (by decide) dL_335 dL_336 ?_
  refine j_arg X hX hbl hbB hL (k := 4) (by omega) dL_337 dL_338 dL_339 (by decide) dL_340 dL_341 ?_
  refine j_callVi X (rest := [.int _]) (c_X10_frame l hq eq hI) m_yX10_frame kM_RL_40 mput_0 rfl rfl rfl rfl rfl (Nat.le_of_ble_eq_true rfl) ⟨Nat.le_of_ble_eq_true rfl, Nat.le_of_ble_eq_true rfl, Nat.le_of_ble_eq_true rfl, Nat.le_of_ble_eq_true rfl⟩ dL_342 ?_
  have an : AN T (xFrame nx S (xs (5 * T + 1)) (xs (5 * T + 2)) (xs (5 * T + 3)) (xs (5 * T + 4))) (mFrame μ (xs (5 * T + 1)) (xs (5 * T + 2)) (xs (5 * T + 3)) (xs (5 * T + 4))) := n_frame hT h
  refine j_icmp_eq X (tgt := 730) dL_345 (by decide) (fun _ => ?_) (fun cne => absurd an.1 cne)
  obtain ⟨-, nx2, hz⟩ := an
  exact K nx2 _ _ hz
set_option maxHeartbeats 4000000 in
theorem case_forget (X : Cx p s m #[Value.ref b] meth c code 4 RL D B) (hX : va_X b L xs s s.heap) (hbl : b < s.heap.size) (hbB : b < B) (hL : L ≤ 2560) (hi : 5 * T + 5 ≤ L) (h : RZ T nx S μ) (K : ∀ (nx2 : Nat) (S2 : Sy) (μ2 : Mo), RZ (T + 1) nx2 S2 μ2 → LJ p l e s m below meth c D B b g T S2 μ2 [] 730) : LJ p l e s m below meth c D B b g T S μ [] 350 := by
  have hT : T ≤ 600 := by omega
  obtain ⟨hnx, enx⟩ := h.2.1
  obtain ⟨q, hq, -, eq, -⟩ := h.2.2.1
  refine j_aload_n X 1 dL_350 rfl rfl ?_
  refine j_arg X hX hbl hbB hL (k := 1) (by omega) dL_351 dL_352 dL_353 (by decide) dL_354 dL_355 ?_
  refine j_heap xm_comm ?_
  refine j_callVi X (rest := []) (c_X9_forget l hnx enx) m_yX9_forget kM_RL_41 xput_0 rfl rfl rfl rfl rfl (Nat.le_of_ble_eq_true rfl) ⟨Nat.le_of_ble_eq_true rfl, Nat.le_of_ble_eq_true rfl, Nat.le_of_ble_eq_true rfl, Nat.le_of_ble_eq_true rfl⟩ dL_356 ?_
  refine j_heap xm_comm.symm ?_
  refine j_aload_n X 2 dL_359 rfl rfl ?_
  refine j_arg X hX hbl hbB hL (k := 1) (by omega) dL_360 dL_361 dL_362 (by decide) dL_363 dL_364 ?_
  refine j_callVi X (rest := [.int _]) (c_X10_forget l hq eq) m_yX10_forget kM_RL_44 mput_0 rfl rfl rfl rfl rfl (Nat.le_of_ble_eq_true rfl) ⟨Nat.le_of_ble_eq_true rfl, Nat.le_of_ble_eq_true rfl, Nat.le_of_ble_eq_true rfl, Nat.le_of_ble_eq_true rfl⟩ dL_365 ?_
  have an : AN T (xForget nx S (xs (5 * T + 1))) (mForget μ (xs (5 * T + 1))) := n_forget h
  refine j_icmp_eq X (tgt := 730) dL_368 (by decide) (fun _ => ?_) (fun cne => absurd an.1 cne)
  obtain ⟨-, nx2, hz⟩ := an
  exact K nx2 _ _ hz
set_option maxHeartbeats 4000000 in
theorem case_pass (X : Cx p s m #[Value.ref b] meth c code 4 RL D B) (hX : va_X b L xs s s.heap) (hbl : b < s.heap.size) (hbB : b < B) (hL : L ≤ 2560) (hi : 5 * T + 5 ≤ L) (h : RZ T nx S μ) (K : ∀ (nx2 : Nat) (S2 : Sy) (μ2 : Mo), RZ (T + 1) nx2 S2 μ2 → LJ p l e s m below meth c D B b g T S2 μ2 [] 730) : LJ p l e s m below meth c D B b g T S μ [] 373 := by
  have hT : T ≤ 600 := by omega
  obtain ⟨hnx, enx⟩ := h.2.1
  obtain ⟨q, hq, -, eq, -⟩ := h.2.2.1
  obtain ⟨R, C, hR, hC, hG⟩ := rz_gb hT h
  refine j_aload_n X 1 dL_373 rfl rfl ?_
  refine j_arg X hX hbl hbB hL (k := 1) (by omega) dL_374 dL_375 dL_376 (by decide) dL_377 dL_378 ?_
  refine j_heap xm_comm ?_
  refine j_callVi X (rest := []) (c_X9_pass l hnx enx) m_yX9_pass kM_RL_45 xput_0 rfl rfl rfl rfl rfl (Nat.le_of_ble_eq_true rfl) ⟨Nat.le_of_ble_eq_true rfl, Nat.le_of_ble_eq_true rfl, Nat.le_of_ble_eq_true rfl, Nat.le_of_ble_eq_true rfl⟩ dL_379 ?_
  refine j_heap xm_comm.symm ?_
  refine j_aload_n X 2 dL_382 rfl rfl ?_
  refine j_arg X hX hbl hbB hL (k := 1) (by omega) dL_383 dL_384 dL_385 (by decide) dL_386 dL_387 ?_
  refine j_callVi X (rest := [.int _]) (c_X10_pass l hq eq hR hC hG) m_yX10_pass kM_RL_48 mput_0 rfl rfl rfl rfl rfl (Nat.le_of_ble_eq_true rfl) ⟨Nat.le_of_ble_eq_true rfl, Nat.le_of_ble_eq_true rfl, Nat.le_of_ble_eq_true rfl, Nat.le_of_ble_eq_true rfl⟩ dL_388 ?_
  have an : AN T (xPass nx S (xs (5 * T + 1))) (mPass μ (xs (5 * T + 1))) := n_pass hT h
  refine j_icmp_eq X (tgt := 730) dL_391 (by decide) (fun _ => ?_) (fun cne => absurd an.1 cne)
  obtain ⟨-, nx2, hz⟩ := an
  exact K nx2 _ _ hz
set_option maxHeartbeats 4000000 in
theorem case_type (X : Cx p s m #[Value.ref b] meth c code 4 RL D B) (hX : va_X b L xs s s.heap) (hbl : b < s.heap.size) (hbB : b < B) (hL : L ≤ 2560) (hi : 5 * T + 5 ≤ L) (h : RZ T nx S μ) (K : ∀ (nx2 : Nat) (S2 : Sy) (μ2 : Mo), RZ (T + 1) nx2 S2 μ2 → LJ p l e s m below meth c D B b g T S2 μ2 [] 730) : LJ p l e s m below meth c D B b g T S μ [] 396 := by
  have hT : T ≤ 600 := by omega
  obtain ⟨mm, hm, sm, em, -⟩ := h.2.2.2.2
  refine j_aload_n X 1 dL_396 rfl rfl ?_
  refine j_arg X hX hbl hbB hL (k := 1) (by omega) dL_397 dL_398 dL_399 (by decide) dL_400 dL_401 ?_
  refine j_i2c X dL_402 ?_
  refine j_heap xm_comm ?_
  refine j_callVi X (rest := []) (c_X9_type l) m_yX9_type kM_RL_49 xput_0 rfl rfl rfl rfl rfl (Nat.le_of_ble_eq_true rfl) ⟨Nat.le_of_ble_eq_true rfl, Nat.le_of_ble_eq_true rfl, Nat.le_of_ble_eq_true rfl, Nat.le_of_ble_eq_true rfl⟩ dL_403 ?_
  refine j_heap xm_comm.symm ?_
  refine j_aload_n X 2 dL_406 rfl rfl ?_
  refine j_arg X hX hbl hbB hL (k := 1) (by omega) dL_407 dL_408 dL_409 (by decide) dL_410 dL_411 ?_
  refine j_i2c X dL_412 ?_
  refine j_callVi X (rest := [.int _]) (c_X10_type l hm em) m_yX10_type kM_RL_53 mput_0 rfl rfl rfl rfl rfl (Nat.le_of_ble_eq_true rfl) ⟨Nat.le_of_ble_eq_true rfl, Nat.le_of_ble_eq_true rfl, Nat.le_of_ble_eq_true rfl, Nat.le_of_ble_eq_true rfl⟩ dL_413 ?_
  have an : AN T (xType S ((xs (5 * T + 1)).toUInt32 % 65536).toInt32) (mType μ ((xs (5 * T + 1)).toUInt32 % 65536).toInt32) := n_type (chr_c _) h
  refine j_icmp_eq X (tgt := 730) dL_416 (by decide) (fun _ => ?_) (fun cne => absurd an.1 cne)
  obtain ⟨-, nx2, hz⟩ := an
  exact K nx2 _ _ hz
set_option maxHeartbeats 4000000 in
theorem case_clearText (X : Cx p s m #[Value.ref b] meth c code 4 RL D B) (hX : va_X b L xs s s.heap) (hbl : b < s.heap.size) (hbB : b < B) (hL : L ≤ 2560) (hi : 5 * T + 5 ≤ L) (h : RZ T nx S μ) (K : ∀ (nx2 : Nat) (S2 : Sy) (μ2 : Mo), RZ (T + 1) nx2 S2 μ2 → LJ p l e s m below meth c D B b g T S2 μ2 [] 730) : LJ p l e s m below meth c D B b g T S μ [] 421 := by
  have hT : T ≤ 600 := by omega
  refine j_aload_n X 1 dL_421 rfl rfl ?_
  refine j_heap xm_comm ?_
  refine j_callVi X (rest := []) (c_X9_clearText l) m_yX9_clearText kM_RL_54 xput_0 rfl rfl rfl rfl rfl (Nat.le_of_ble_eq_true rfl) ⟨Nat.le_of_ble_eq_true rfl, Nat.le_of_ble_eq_true rfl, Nat.le_of_ble_eq_true rfl, Nat.le_of_ble_eq_true rfl⟩ dL_422 ?_
  refine j_heap xm_comm.symm ?_
  refine j_aload_n X 2 dL_425 rfl rfl ?_
  refine j_callVi X (rest := [.int _]) (c_X10_clearText l) m_yX10_clearText kM_RL_58 mput_0 rfl rfl rfl rfl rfl (Nat.le_of_ble_eq_true rfl) ⟨Nat.le_of_ble_eq_true rfl, Nat.le_of_ble_eq_true rfl, Nat.le_of_ble_eq_true rfl, Nat.le_of_ble_eq_true rfl⟩ dL_426 ?_
  have an : AN T (S.2.1 3, xsc S 3 0) (μ.1 4, msc μ 4 0) := n_clear h
  refine j_icmp_eq X (tgt := 730) dL_429 (by decide) (fun _ => ?_) (fun cne => absurd an.1 cne)
  obtain ⟨-, nx2, hz⟩ := an
  exact K nx2 _ _ hz
set_option maxHeartbeats 4000000 in
theorem case_readFrames (X : Cx p s m #[Value.ref b] meth c code 4 RL D B) (hX : va_X b L xs s s.heap) (hbl : b < s.heap.size) (hbB : b < B) (hL : L ≤ 2560) (hi : 5 * T + 5 ≤ L) (h : RZ T nx S μ) (K : ∀ (nx2 : Nat) (S2 : Sy) (μ2 : Mo), RZ (T + 1) nx2 S2 μ2 → LJ p l e s m below meth c D B b g T S2 μ2 [] 730) : LJ p l e s m below meth c D B b g T S μ [] 434 := by
  have hT : T ≤ 600 := by omega
  obtain ⟨hnx, enx⟩ := h.2.1
  obtain ⟨q, hq, -, eq, -⟩ := h.2.2.1
  obtain ⟨R, C, hR, hC, hG⟩ := rz_gb hT h
  obtain ⟨mm, hm, sm, em, -⟩ := h.2.2.2.2
  refine j_aload_n X 1 dL_434 rfl rfl ?_
  refine j_heap xm_comm ?_
  refine j_callVi X (rest := []) (c_X9_readFrames l hnx enx hm sm) m_yX9_readFrames kM_RL_59 xput_0 rfl rfl rfl rfl rfl (Nat.le_of_ble_eq_true rfl) ⟨Nat.le_of_ble_eq_true rfl, Nat.le_of_ble_eq_true rfl, Nat.le_of_ble_eq_true rfl, Nat.le_of_ble_eq_true rfl⟩ dL_435 ?_
  refine j_heap xm_comm.symm ?_
  refine j_aload_n X 2 dL_438 rfl rfl ?_
  refine j_callVi X (rest := [.int _]) (c_X10_readFrames l hq eq hm em hG) m_yX10_readFrames kM_RL_62 mput_0 rfl rfl rfl rfl rfl (Nat.le_of_ble_eq_true rfl) ⟨Nat.le_of_ble_eq_true rfl, Nat.le_of_ble_eq_true rfl, Nat.le_of_ble_eq_true rfl, Nat.le_of_ble_eq_true rfl⟩ dL_439 ?_
  have an : AN T (xReadFrames nx S) (mRead μ) := n_read hT h
  refine j_icmp_eq X (tgt := 730) dL_442 (by decide) (fun _ => ?_) (fun cne => absurd an.1 cne)
  obtain ⟨-, nx2, hz⟩ := an
  exact K nx2 _ _ hz
set_option maxHeartbeats 4000000 in
theorem case_undo (X : Cx p s m #[Value.ref b] meth c code 4 RL D B) (hX : va_X b L xs s s.heap) (hbl : b < s.heap.size) (hbB : b < B) (hL : L ≤ 2560) (hi : 5 * T + 5 ≤ L) (h : RZ T nx S μ) (K : ∀ (nx2 : Nat) (S2 : Sy) (μ2 : Mo), RZ (T + 1) nx2 S2 μ2 → LJ p l e s m below meth c D B b g T S2 μ2 [] 730) : LJ p l e s m below meth c D B b g T S μ [] 447 := by
  have hT : T ≤ 600 := by omega
  obtain ⟨hnx, enx⟩ := h.2.1
  obtain ⟨q, hq, -, eq, -⟩ := h.2.2.1
  refine j_aload_n X 1 dL_447 rfl rfl ?_
  refine j_heap xm_comm ?_
  refine j_callVi X (rest := []) (c_X9_undo l hnx enx) m_yX9_undo kM_RL_63 xput_0 rfl rfl rfl rfl rfl (Nat.le_of_ble_eq_true rfl) ⟨Nat.le_of_ble_eq_true rfl, Nat.le_of_ble_eq_true rfl, Nat.le_of_ble_eq_true rfl, Nat.le_of_ble_eq_true rfl⟩ dL_448 ?_
  refine j_heap xm_comm.symm ?_
  refine j_aload_n X 2 dL_451 rfl rfl ?_
  refine j_callVi X (rest := [.int _]) (c_X10_undo l hq eq) m_yX10_undo kM_RL_66 mput_0 rfl rfl rfl rfl rfl (Nat.le_of_ble_eq_true rfl) ⟨Nat.le_of_ble_eq_true rfl, Nat.le_of_ble_eq_true rfl, Nat.le_of_ble_eq_true rfl, Nat.le_of_ble_eq_true rfl⟩ dL_452 ?_
  have an : AN T (xUndo nx S) (mUndo μ) := n_undo h
  refine j_icmp_eq X (tgt := 730) dL_455 (by decide) (fun _ => ?_) (fun cne => absurd an.1 cne)
  obtain ⟨-, nx2, hz⟩ := an
  exact K nx2 _ _ hz
set_option maxHeartbeats 4000000 in
theorem case_keep (X : Cx p s m #[Value.ref b] meth c code 4 RL D B) (hX : va_X b L xs s s.heap) (hbl : b < s.heap.size) (hbB : b < B) (hL : L ≤ 2560) (hi : 5 * T + 5 ≤ L) (h : RZ T nx S μ) (K : ∀ (nx2 : Nat) (S2 : Sy) (μ2 : Mo), RZ (T + 1) nx2 S2 μ2 → LJ p l e s m below meth c D B b g T S2 μ2 [] 730) : LJ p l e s m below meth c D B b g T S μ [] 460 := by
  have hT : T ≤ 600 := by omega
  refine j_aload_n X 1 dL_460 rfl rfl ?_
  refine j_heap xm_comm ?_
  refine j_callVi X (rest := []) (c_X9_keep l) m_yX9_keep kM_RL_67 xput_0 rfl rfl rfl rfl rfl (Nat.le_of_ble_eq_true rfl) ⟨Nat.le_of_ble_eq_true rfl, Nat.le_of_ble_eq_true rfl, Nat.le_of_ble_eq_true rfl, Nat.le_of_ble_eq_true rfl⟩ dL_461 ?_
  refine j_heap xm_comm.symm ?_
  refine j_aload_n X 2 dL_464 rfl rfl ?_
  refine j_callVi X (rest := [.int _]) (c_X10_keep l) m_yX10_keep kM_RL_70 mput_0 rfl rfl rfl rfl rfl (Nat.le_of_ble_eq_true rfl) ⟨Nat.le_of_ble_eq_true rfl, Nat.le_of_ble_eq_true rfl, Nat.le_of_ble_eq_true rfl, Nat.le_of_ble_eq_true rfl⟩ dL_465 ?_
  have an : AN T (xKeep S) (mKeep μ) := n_keep h
  refine j_icmp_eq X (tgt := 730) dL_468 (by decide) (fun _ => ?_) (fun cne => absurd an.1 cne)
  obtain ⟨-, nx2, hz⟩ := an
  exact K nx2 _ _ hz
set_option maxHeartbeats 4000000 in
theorem case_restore (X : Cx p s m #[Value.ref b] meth c code 4 RL D B) (hX : va_X b L xs s s.heap) (hbl : b < s.heap.size) (hbB : b < B) (hL : L ≤ 2560) (hi : 5 * T + 5 ≤ L) (h : RZ T nx S μ) (K : ∀ (nx2 : Nat) (S2 : Sy) (μ2 : Mo), RZ (T + 1) nx2 S2 μ2 → LJ p l e s m below meth c D B b g T S2 μ2 [] 730) : LJ p l e s m below meth c D B b g T S μ [] 473 := by
  have hT : T ≤ 600 := by omega
  obtain ⟨hnx, enx⟩ := h.2.1
  obtain ⟨q, hq, -, eq, -⟩ := h.2.2.1
  refine j_aload_n X 1 dL_473 rfl rfl ?_
  refine j_heap xm_comm ?_
  refine j_callVi X (rest := []) (c_X9_restore l hnx enx) m_yX9_restore kM_RL_71 xput_0 rfl rfl rfl rfl rfl (Nat.le_of_ble_eq_true rfl) ⟨Nat.le_of_ble_eq_true rfl, Nat.le_of_ble_eq_true rfl, Nat.le_of_ble_eq_true rfl, Nat.le_of_ble_eq_true rfl⟩ dL_474 ?_
  refine j_heap xm_comm.symm ?_
  refine j_aload_n X 2 dL_477 rfl rfl ?_
  refine j_callVi X (rest := [.int _]) (c_X10_restore l hq eq) m_yX10_restore kM_RL_74 mput_0 rfl rfl rfl rfl rfl (Nat.le_of_ble_eq_true rfl) ⟨Nat.le_of_ble_eq_true rfl, Nat.le_of_ble_eq_true rfl, Nat.le_of_ble_eq_true rfl, Nat.le_of_ble_eq_true rfl⟩ dL_478 ?_
  have an : AN T (xRestore nx S) (mRestore μ) := n_restore h
  refine j_icmp_eq X (tgt := 730) dL_481 (by decide) (fun _ => ?_) (fun cne => absurd an.1 cne)
  obtain ⟨-, nx2, hz⟩ := an
  exact K nx2 _ _ hz
set_option maxHeartbeats 4000000 in
theorem case_port (X : Cx p s m #[Value.ref b] meth c code 4 RL D B) (hX : va_X b L xs s s.heap) (hbl : b < s.heap.size) (hbB : b < B) (hL : L ≤ 2560) (hi : 5 * T + 5 ≤ L) (h : RZ T nx S μ) (K : ∀ (nx2 : Nat) (S2 : Sy) (μ2 : Mo), RZ (T + 1) nx2 S2 μ2 → LJ p l e s m below meth c D B b g T S2 μ2 [] 730) : LJ p l e s m below meth c D B b g T S μ [] 486 := by
  have hT : T ≤ 600 := by omega
  refine j_aload_n X 1 dL_486 rfl rfl ?_
  refine j_arg X hX hbl hbB hL (k := 1) (by omega) dL_487 dL_488 dL_489 (by decide) dL_490 dL_491 ?_
  refine j_arg X hX hbl hbB hL (k := 2) (by omega) dL_492 dL_493 dL_494 (by decide) dL_495 dL_496 ?_
  refine j_heap xm_comm ?_
  refine j_callVi X (rest := []) (c_X9_port l) m_yX9_port kM_RL_75 xput_0 rfl rfl rfl rfl rfl (Nat.le_of_ble_eq_true rfl) ⟨Nat.le_of_ble_eq_true rfl, Nat.le_of_ble_eq_true rfl, Nat.le_of_ble_eq_true rfl, Nat.le_of_ble_eq_true rfl⟩ dL_497 ?_
  refine j_heap xm_comm.symm ?_
  refine j_aload_n X 2 dL_500 rfl rfl ?_
  refine j_arg X hX hbl hbB hL (k := 1) (by omega) dL_501 dL_502 dL_503 (by decide) dL_504 dL_505 ?_
  refine j_arg X hX hbl hbB hL (k := 2) (by omega) dL_506 dL_507 dL_508 (by decide) dL_509 dL_510 ?_
  refine j_callVi X (rest := [.int _]) (c_X10_port l) m_yX10_port kM_RL_78 mput_0 rfl rfl rfl rfl rfl (Nat.le_of_ble_eq_true rfl) ⟨Nat.le_of_ble_eq_true rfl, Nat.le_of_ble_eq_true rfl, Nat.le_of_ble_eq_true rfl, Nat.le_of_ble_eq_true rfl⟩ dL_511 ?_
  have an : AN T (xPort S (xs (5 * T + 1)) (xs (5 * T + 2)), S) (mPort μ (xs (5 * T + 1)) (xs (5 * T + 2)), μ) := n_port hT h
  refine j_icmp_eq X (tgt := 730) dL_514 (by decide) (fun _ => ?_) (fun cne => absurd an.1 cne)
  obtain ⟨-, nx2, hz⟩ := an
  exact K nx2 _ _ hz
set_option maxHeartbeats 4000000 in
theorem case_account (X : Cx p s m #[Value.ref b] meth c code 4 RL D B) (hX : va_X b L xs s s.heap) (hbl : b < s.heap.size) (hbB : b < B) (hL : L ≤ 2560) (hi : 5 * T + 5 ≤ L) (h : RZ T nx S μ) (K : ∀ (nx2 : Nat) (S2 : Sy) (μ2 : Mo), RZ (T + 1) nx2 S2 μ2 → LJ p l e s m below meth c D B b g T S2 μ2 [] 730) : LJ p l e s m below meth c D B b g T S μ [] 519 := by
  have hT : T ≤ 600 := by omega
  refine j_aload_n X 1 dL_519 rfl rfl ?_
  refine j_arg X hX hbl hbB hL (k := 1) (by omega) dL_520 dL_521 dL_522 (by decide) dL_523 dL_524 ?_
  refine j_arg X hX hbl hbB hL (k := 2) (by omega) dL_525 dL_526 dL_527 (by decide) dL_528 dL_529 ?_
  refine j_heap xm_comm ?_
  refine j_callVi X (rest := []) (c_X9_account l) m_yX9_account kM_RL_79 xput_0 rfl rfl rfl rfl rfl (Nat.le_of_ble_eq_true rfl) ⟨Nat.le_of_ble_eq_true rfl, Nat.le_of_ble_eq_true rfl, Nat.le_of_ble_eq_true rfl, Nat.le_of_ble_eq_true rfl⟩ dL_530 ?_
  refine j_heap xm_comm.symm ?_
  refine j_aload_n X 2 dL_533 rfl rfl ?_
  refine j_arg X hX hbl hbB hL (k := 1) (by omega) dL_534 dL_535 dL_536 (by decide) dL_537 dL_538 ?_
  refine j_arg X hX hbl hbB hL (k := 2) (by omega) dL_539 dL_540 dL_541 (by decide) dL_542 dL_543 ?_
  refine j_callVi X (rest := [.int _]) (c_X10_account l) m_yX10_account kM_RL_82 mput_0 rfl rfl rfl rfl rfl (Nat.le_of_ble_eq_true rfl) ⟨Nat.le_of_ble_eq_true rfl, Nat.le_of_ble_eq_true rfl, Nat.le_of_ble_eq_true rfl, Nat.le_of_ble_eq_true rfl⟩ dL_544 ?_
  have an : AN T (xAccount S (xs (5 * T + 1)) (xs (5 * T + 2)), S) (mAccount μ (xs (5 * T + 1)) (xs (5 * T + 2)), μ) := n_account h
  refine j_icmp_eq X (tgt := 730) dL_547 (by decide) (fun _ => ?_) (fun cne => absurd an.1 cne)
  obtain ⟨-, nx2, hz⟩ := an
  exact K nx2 _ _ hz
set_option maxHeartbeats 4000000 in
theorem case_entry (X : Cx p s m #[Value.ref b] meth c code 4 RL D B) (hX : va_X b L xs s s.heap) (hbl : b < s.heap.size) (hbB : b < B) (hL : L ≤ 2560) (hi : 5 * T + 5 ≤ L) (h : RZ T nx S μ) (K : ∀ (nx2 : Nat) (S2 : Sy) (μ2 : Mo), RZ (T + 1) nx2 S2 μ2 → LJ p l e s m below meth c D B b g T S2 μ2 [] 730) : LJ p l e s m below meth c D B b g T S μ [] 552 := by
  have hT : T ≤ 600 := by omega
  refine j_aload_n X 1 dL_552 rfl rfl ?_
  refine j_arg X hX hbl hbB hL (k := 1) (by omega) dL_553 dL_554 dL_555 (by decide) dL_556 dL_557 ?_
  refine j_arg X hX hbl hbB hL (k := 2) (by omega) dL_558 dL_559 dL_560 (by decide) dL_561 dL_562 ?_
  refine j_heap xm_comm ?_
  refine j_callVi X (rest := []) (c_X9_entry l) m_yX9_entry kM_RL_83 xput_0 rfl rfl rfl rfl rfl (Nat.le_of_ble_eq_true rfl) ⟨Nat.le_of_ble_eq_true rfl, Nat.le_of_ble_eq_true rfl, Nat.le_of_ble_eq_true rfl, Nat.le_of_ble_eq_true rfl⟩ dL_563 ?_
  refine j_heap xm_comm.symm ?_
  refine j_aload_n X 2 dL_566 rfl rfl ?_
  refine j_arg X hX hbl hbB hL (k := 1) (by omega) dL_567 dL_568 dL_569 (by decide) dL_570 dL_571 ?_
  refine j_arg X hX hbl hbB hL (k := 2) (by omega) dL_572 dL_573 dL_574 (by decide) dL_575 dL_576 ?_
  refine j_callVi X (rest := [.int _]) (c_X10_entry l) m_yX10_entry kM_RL_86 mput_0 rfl rfl rfl rfl rfl (Nat.le_of_ble_eq_true rfl) ⟨Nat.le_of_ble_eq_true rfl, Nat.le_of_ble_eq_true rfl, Nat.le_of_ble_eq_true rfl, Nat.le_of_ble_eq_true rfl⟩ dL_577 ?_
  have an : AN T (xEntry S (xs (5 * T + 1)) (xs (5 * T + 2)), S) (mEntry μ (xs (5 * T + 1)) (xs (5 * T + 2)), μ) := n_entry h
  refine j_icmp_eq X (tgt := 730) dL_580 (by decide) (fun _ => ?_) (fun cne => absurd an.1 cne)
  obtain ⟨-, nx2, hz⟩ := an
  exact K nx2 _ _ hz
set_option maxHeartbeats 4000000 in
theorem case_where (X : Cx p s m #[Value.ref b] meth c code 4 RL D B) (hX : va_X b L xs s s.heap) (hbl : b < s.heap.size) (hbB : b < B) (hL : L ≤ 2560) (hi : 5 * T + 5 ≤ L) (h : RZ T nx S μ) (K : ∀ (nx2 : Nat) (S2 : Sy) (μ2 : Mo), RZ (T + 1) nx2 S2 μ2 → LJ p l e s m below meth c D B b g T S2 μ2 [] 730) : LJ p l e s m below meth c D B b g T S μ [] 585 := by
  have hT : T ≤ 600 := by omega
  refine j_aload_n X 1 dL_585 rfl rfl ?_
  refine j_arg X hX hbl hbB hL (k := 1) (by omega) dL_586 dL_587 dL_588 (by decide) dL_589 dL_590 ?_
  refine j_heap xm_comm ?_
  refine j_callVi X (rest := []) (c_X9_where l) m_yX9_where kM_RL_87 xput_0 rfl rfl rfl rfl rfl (Nat.le_of_ble_eq_true rfl) ⟨Nat.le_of_ble_eq_true rfl, Nat.le_of_ble_eq_true rfl, Nat.le_of_ble_eq_true rfl, Nat.le_of_ble_eq_true rfl⟩ dL_591 ?_
  refine j_heap xm_comm.symm ?_
  refine j_aload_n X 2 dL_594 rfl rfl ?_
  refine j_arg X hX hbl hbB hL (k := 1) (by omega) dL_595 dL_596 dL_597 (by decide) dL_598 dL_599 ?_
  refine j_callVi X (rest := [.int _]) (c_X10_where l) m_yX10_where kM_RL_90 mput_0 rfl rfl rfl rfl rfl (Nat.le_of_ble_eq_true rfl) ⟨Nat.le_of_ble_eq_true rfl, Nat.le_of_ble_eq_true rfl, Nat.le_of_ble_eq_true rfl, Nat.le_of_ble_eq_true rfl⟩ dL_600 ?_
  have an : AN T (xWhere S (xs (5 * T + 1)), S) (mWhere μ (xs (5 * T + 1)), μ) := n_where h
  refine j_icmp_eq X (tgt := 730) dL_603 (by decide) (fun _ => ?_) (fun cne => absurd an.1 cne)
  obtain ⟨-, nx2, hz⟩ := an
  exact K nx2 _ _ hz
set_option maxHeartbeats 4000000 in
theorem case_queued (X : Cx p s m #[Value.ref b] meth c code 4 RL D B) (hX : va_X b L xs s s.heap) (hbl : b < s.heap.size) (hbB : b < B) (hL : L ≤ 2560) (hi : 5 * T + 5 ≤ L) (h : RZ T nx S μ) (K : ∀ (nx2 : Nat) (S2 : Sy) (μ2 : Mo), RZ (T + 1) nx2 S2 μ2 → LJ p l e s m below meth c D B b g T S2 μ2 [] 730) : LJ p l e s m below meth c D B b g T S μ [] 608 := by
  have hT : T ≤ 600 := by omega
  have hI := rz_mi hT h
  refine j_aload_n X 1 dL_608 rfl rfl ?_
  refine j_arg X hX hbl hbB hL (k := 1) (by omega) dL_609 dL_610 dL_611 (by decide) dL_612 dL_613 ?_
  refine j_arg X hX hbl hbB hL (k := 2) (by omega) dL_614 dL_615 dL_616 (by decide) dL_617 dL_618 ?_
  refine j_arg X hX hbl hbB hL (k := 3) (by omega) dL_619 dL_620 dL_621 (by decide) dL_622 dL_623 ?_
  refine j_heap xm_comm ?_
  refine j_callVi X (rest := []) (c_X9_queued l) m_yX9_queued kM_RL_91 xput_0 rfl rfl rfl rfl rfl (Nat.le_of_ble_eq_true rfl) ⟨Nat.le_of_ble_eq_true rfl, Nat.le_of_ble_eq_true rfl, Nat.le_of_ble_eq_true rfl, Nat.le_of_ble_eq_true rfl⟩ dL_624 ?_
  refine j_heap xm_comm.symm ?_
  refine j_aload_n X 2 dL_627 rfl rfl ?_
  refine j_arg X hX hbl hbB hL (k := 1) (by omega) dL_628 dL_629 dL_630 (by decide) dL_631 dL_632 ?_
  refine j_arg X hX hbl hbB hL (k := 2) (by omega) dL_633 dL_634 dL_635 (by decide) dL_636 dL_637 ?_
  refine j_arg X hX hbl hbB hL (k := 3) (by omega) dL_638 dL_639 dL_640 (by decide) dL_641 dL_642 ?_
  refine j_callVi X (rest := [.int _]) (c_X10_queued l hI) m_yX10_queued kM_RL_95 mput_0 rfl rfl rfl rfl rfl (Nat.le_of_ble_eq_true rfl) ⟨Nat.le_of_ble_eq_true rfl, Nat.le_of_ble_eq_true rfl, Nat.le_of_ble_eq_true rfl, Nat.le_of_ble_eq_true rfl⟩ dL_643 ?_
  have an : AN T (xQueued S (xs (5 * T + 1)) (xs (5 * T + 2)) (xs (5 * T + 3)), S) (mQueued μ (xs (5 * T + 1)) (xs (5 * T + 2)) (xs (5 * T + 3)), μ) := n_queued h
  refine j_icmp_eq X (tgt := 730) dL_646 (by decide) (fun _ => ?_) (fun cne => absurd an.1 cne)
  obtain ⟨-, nx2, hz⟩ := an
  exact K nx2 _ _ hz
set_option maxHeartbeats 4000000 in
theorem case_wouldGo (X : Cx p s m #[Value.ref b] meth c code 4 RL D B) (hX : va_X b L xs s s.heap) (hbl : b < s.heap.size) (hbB : b < B) (hL : L ≤ 2560) (hi : 5 * T + 5 ≤ L) (h : RZ T nx S μ) (K : ∀ (nx2 : Nat) (S2 : Sy) (μ2 : Mo), RZ (T + 1) nx2 S2 μ2 → LJ p l e s m below meth c D B b g T S2 μ2 [] 730) : LJ p l e s m below meth c D B b g T S μ [] 651 := by
  have hT : T ≤ 600 := by omega
  have hI := rz_mi hT h
  refine j_aload_n X 1 dL_651 rfl rfl ?_
  refine j_arg X hX hbl hbB hL (k := 1) (by omega) dL_652 dL_653 dL_654 (by decide) dL_655 dL_656 ?_
  refine j_arg X hX hbl hbB hL (k := 2) (by omega) dL_657 dL_658 dL_659 (by decide) dL_660 dL_661 ?_
  refine j_arg X hX hbl hbB hL (k := 3) (by omega) dL_662 dL_663 dL_664 (by decide) dL_665 dL_666 ?_
  refine j_heap xm_comm ?_
  refine j_callVi X (rest := []) (c_X9_wouldGo l) m_yX9_wouldGo kM_RL_96 xput_0 rfl rfl rfl rfl rfl (Nat.le_of_ble_eq_true rfl) ⟨Nat.le_of_ble_eq_true rfl, Nat.le_of_ble_eq_true rfl, Nat.le_of_ble_eq_true rfl, Nat.le_of_ble_eq_true rfl⟩ dL_667 ?_
  refine j_heap xm_comm.symm ?_
  refine j_aload_n X 2 dL_670 rfl rfl ?_
  refine j_arg X hX hbl hbB hL (k := 1) (by omega) dL_671 dL_672 dL_673 (by decide) dL_674 dL_675 ?_
  refine j_arg X hX hbl hbB hL (k := 2) (by omega) dL_676 dL_677 dL_678 (by decide) dL_679 dL_680 ?_
  refine j_arg X hX hbl hbB hL (k := 3) (by omega) dL_681 dL_682 dL_683 (by decide) dL_684 dL_685 ?_
  refine j_callVi X (rest := [.int _]) (c_X10_wouldGo l hI) m_yX10_wouldGo kM_RL_99 mput_0 rfl rfl rfl rfl rfl (Nat.le_of_ble_eq_true rfl) ⟨Nat.le_of_ble_eq_true rfl, Nat.le_of_ble_eq_true rfl, Nat.le_of_ble_eq_true rfl, Nat.le_of_ble_eq_true rfl⟩ dL_686 ?_
  have an : AN T (xWouldGo S (xs (5 * T + 1)) (xs (5 * T + 2)) (xs (5 * T + 3))) (mWouldGo μ (xs (5 * T + 1)) (xs (5 * T + 2)) (xs (5 * T + 3))) := n_would hT h
  refine j_icmp_eq X (tgt := 730) dL_689 (by decide) (fun _ => ?_) (fun cne => absurd an.1 cne)
  obtain ⟨-, nx2, hz⟩ := an
  exact K nx2 _ _ hz
set_option maxHeartbeats 4000000 in
theorem case_loops (X : Cx p s m #[Value.ref b] meth c code 4 RL D B) (hX : va_X b L xs s s.heap) (hbl : b < s.heap.size) (hbB : b < B) (hL : L ≤ 2560) (hi : 5 * T + 5 ≤ L) (h : RZ T nx S μ) (K : ∀ (nx2 : Nat) (S2 : Sy) (μ2 : Mo), RZ (T + 1) nx2 S2 μ2 → LJ p l e s m below meth c D B b g T S2 μ2 [] 730) : LJ p l e s m below meth c D B b g T S μ [] 694 := by
  have hT : T ≤ 600 := by omega
  have hI := rz_mi hT h
  refine j_aload_n X 1 dL_694 rfl rfl ?_
  refine j_heap xm_comm ?_
  refine j_callVi X (rest := []) (c_X9_loops l) m_yX9_loops kM_RL_100 xput_0 rfl rfl rfl rfl rfl (Nat.le_of_ble_eq_true rfl) ⟨Nat.le_of_ble_eq_true rfl, Nat.le_of_ble_eq_true rfl, Nat.le_of_ble_eq_true rfl, Nat.le_of_ble_eq_true rfl⟩ dL_695 ?_
  refine j_heap xm_comm.symm ?_
  refine j_aload_n X 2 dL_698 rfl rfl ?_
  refine j_callVi X (rest := [.int _]) (c_X10_loops l hI) m_yX10_loops kM_RL_103 mput_0 rfl rfl rfl rfl rfl (Nat.le_of_ble_eq_true rfl) ⟨Nat.le_of_ble_eq_true rfl, Nat.le_of_ble_eq_true rfl, Nat.le_of_ble_eq_true rfl, Nat.le_of_ble_eq_true rfl⟩ dL_699 ?_
  have an : AN T (xLoopK (S.1 0) 8, S) (mLoopK μ 8, μ) := n_loops hT h
  refine j_icmp_eq X (tgt := 730) dL_702 (by decide) (fun _ => ?_) (fun cne => absurd an.1 cne)
  obtain ⟨-, nx2, hz⟩ := an
  exact K nx2 _ _ hz
set_option maxHeartbeats 4000000 in
theorem case_count (X : Cx p s m #[Value.ref b] meth c code 4 RL D B) (hX : va_X b L xs s s.heap) (hbl : b < s.heap.size) (hbB : b < B) (hL : L ≤ 2560) (hi : 5 * T + 5 ≤ L) (h : RZ T nx S μ) (K : ∀ (nx2 : Nat) (S2 : Sy) (μ2 : Mo), RZ (T + 1) nx2 S2 μ2 → LJ p l e s m below meth c D B b g T S2 μ2 [] 730) : LJ p l e s m below meth c D B b g T S μ [] 707 := by
  have hT : T ≤ 600 := by omega
  refine j_aload_n X 1 dL_707 rfl rfl ?_
  refine j_arg X hX hbl hbB hL (k := 1) (by omega) dL_708 dL_709 dL_710 (by decide) dL_711 dL_712 ?_
  refine j_heap xm_comm ?_
  refine j_callVi X (rest := []) (c_X9_count l) m_yX9_count kM_RL_104 xput_0 rfl rfl rfl rfl rfl (Nat.le_of_ble_eq_true rfl) ⟨Nat.le_of_ble_eq_true rfl, Nat.le_of_ble_eq_true rfl, Nat.le_of_ble_eq_true rfl, Nat.le_of_ble_eq_true rfl⟩ dL_713 ?_
  refine j_heap xm_comm.symm ?_
  refine j_aload_n X 2 dL_716 rfl rfl ?_
  refine j_arg X hX hbl hbB hL (k := 1) (by omega) dL_717 dL_718 dL_719 (by decide) dL_720 dL_721 ?_
  refine j_callVi X (rest := [.int _]) (c_X10_count l) m_yX10_count kM_RL_107 mput_0 rfl rfl rfl rfl rfl (Nat.le_of_ble_eq_true rfl) ⟨Nat.le_of_ble_eq_true rfl, Nat.le_of_ble_eq_true rfl, Nat.le_of_ble_eq_true rfl, Nat.le_of_ble_eq_true rfl⟩ dL_722 ?_
  have an : AN T (xCount S (xs (5 * T + 1)), S) (mCount μ (xs (5 * T + 1)), μ) := n_count hT h
  refine j_icmp_eq X (tgt := 730) dL_725 (by decide) (fun _ => ?_) (fun cne => absurd an.1 cne)
  obtain ⟨-, nx2, hz⟩ := an
  exact K nx2 _ _ hz
end CASES
