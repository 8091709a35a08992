section EVENT
variable {p : Program} {l : Launch} {e : Env} {s : State} {m : MethodId} {below : List Frame} {meth : Method} {c : Code} {D : DD} {B b L : Nat} {xs : Nat → Int32}
set_option maxRecDepth 100000 in
set_option maxHeartbeats 8000000 in
theorem law_event (X : Cx p s m #[Value.ref b] meth c code 13 RL D B) (hX : va_X b L xs s s.heap) (hbl : b < s.heap.size) (hbB : b < B) (hL : L ≤ 260) {E nx M cl sl : Nat} {S : Sy} (hE : E < 28) (h : XV M nx S) (hM : M + 50000 < 9000000) (h211 : 211 ≤ cl) (hcl : cl ≤ 850) (hsl : sl ≤ 18500) (K : ∀ nx3 S3 cl3 sl3, XV (M + 50000) nx3 S3 → 211 ≤ cl3 → cl3 ≤ cl + 11 → sl3 ≤ sl + 88 → LJ p l e s m below meth c D B b S3 cl3 sl3 [(0, .ref b), (1, .ref B), (2, .int (nI E))] [] 459) : LJ p l e s m below meth c D B b S cl sl [(0, .ref b), (1, .ref B), (2, .int (nI E))] [] 114 := by
  obtain ⟨g, hg⟩ := c_L_cell l (xs := xs) (L := L) (D := D) (B := B) (z := B + cl) (h := xput D g0 B S) (k := 2 * E) hbB (by omega) hL
  obtain ⟨y, hy⟩ := c_L_cell l (xs := xs) (L := L) (D := D) (B := B) (z := B + cl) (h := xput D g0 B S) (k := 2 * E + 1) hbB (by omega) hL
  obtain ⟨so, hso, eso⟩ := low_k (g >>> (8 &&& 31)) (d := 16) (by decide) (by decide)
  have eso : lowF (g >>> (8 &&& 31)) 16 = nI so := eso
  obtain ⟨k3, hk3, ek3⟩ := low_k g (d := 3) (by decide) (by decide)
  have ek3 : lowF g 3 = nI k3 := ek3
  obtain ⟨k8, hk8, ek8⟩ := low_k g (d := 8) (by decide) (by decide)
  have ek8 : lowF g 8 = nI k8 := ek8
  obtain ⟨jf, hjf, ejf⟩ := low_k (y >>> (14 &&& 31)) (d := 5) (by decide) (by decide)
  have ejf : lowF (y >>> (14 &&& 31)) 5 = nI jf := ejf
  obtain ⟨q, hq4, hq⟩ := h.2.2
  have ect : xCount S 13 = nI q := hq
  have k358 : ∀ nx2 S2 cl2 sl2, XV (M + 50000) nx2 S2 → (so < 5 → Act nx S S2) → 211 ≤ cl2 → cl2 ≤ cl + 10 → sl2 ≤ sl + 80 → LJ p l e s m below meth c D B b S2 cl2 sl2 [(0, .ref b), (1, .ref B), (2, .int (nI E)), (4, .int y), (5, .int (nI so)), (7, .int (nI q)), (8, .long (dg S)), (10, .int 1)] [] 358 := fun nx2 S2 cl2 sl2 h2 ha g1 g2 g3 => law_358 X (by omega) (h.mono (by omega)) h2 hq hq4 hso ha g1 (by omega) (by omega) (fun nx3 S3 hz => K nx3 S3 (cl2 + 1) (sl2 + 8) hz (by omega) (by omega) (by omega))
  have k164 : ∀ k, k < 8 → LJ p l e s m below meth c D B b S cl sl [(0, .ref b), (1, .ref B), (2, .int (nI E)), (3, .int g), (4, .int y), (5, .int (nI so)), (6, .int (nI k))] [] 164 := by
    intro k hk
    refine j_aload_n X 1 dL_law_164 rfl rfl ?_
    refine j_bipush X (v := 13) dL_law_165 (by decide) ?_
    refine j_callVi X (rest := []) (k_count l ect) m_yX9_count kM_RL_13 xput_0 rfl rfl rfl rfl rfl (Nat.le_of_ble_eq_true rfl) ⟨Nat.le_of_ble_eq_true rfl, Nat.le_of_ble_eq_true rfl, rm_c (by omega), rm_s (by omega)⟩ dL_law_167 ?_
    refine j_istore X (L' := [(7, .int (nI q)), (0, .ref b), (1, .ref B), (2, .int (nI E)), (3, .int g), (4, .int y), (5, .int (nI so)), (6, .int (nI k))]) dL_law_170 (by decide) rfl ?_
    refine j_aload_n X 2 dL_law_172 rfl rfl ?_
    refine j_callSl X (rest := []) (c_L_digest l) m_yL_digest kM_RL_73 rfl rfl (Nat.le_of_ble_eq_true rfl) ⟨Nat.le_of_ble_eq_true rfl, Nat.le_of_ble_eq_true rfl, rm_c (by omega), rm_s (by omega)⟩ dL_law_173 ?_
    refine j_lstore X (L' := [(8, .long (dg S)), (7, .int (nI q)), (0, .ref b), (1, .ref B), (2, .int (nI E)), (3, .int g), (4, .int y), (5, .int (nI so)), (6, .int (nI k))]) dL_law_176 (by decide) rfl ?_
    refine j_iconst X (v := 1) dL_law_178 (by decide) ?_
    refine j_istore X (L' := [(10, .int 1), (8, .long (dg S)), (7, .int (nI q)), (0, .ref b), (1, .ref B), (2, .int (nI E)), (3, .int g), (4, .int y), (5, .int (nI so)), (6, .int (nI k))]) dL_law_179 (by decide) rfl ?_
    refine j_iload X 8 dL_law_181 rfl ?_
    refine j_iconst X (v := 4) dL_law_183 (by decide) ?_
    refine j_icmp_ge X (tgt := 202) dL_law_184 (by decide) (fun c_184 => ?_) (fun c_184 => ?_)
    · refine j_iload X 8 dL_law_202 rfl ?_
      refine j_iconst X (v := 4) dL_law_204 (by decide) ?_
      refine j_icmp_ne X (tgt := 221) dL_law_205 (by decide) (fun c_205 => ?_) (fun c_205 => ?_)
      · refine j_iload X 8 dL_law_221 rfl ?_
        refine j_bipush X (v := 7) dL_law_223 (by decide) ?_
        refine j_icmp_ge X (tgt := 255) dL_law_225 (by decide) (fun c_225 => ?_) (fun c_225 => ?_)
        · refine j_iload X 7 dL_law_255 rfl ?_
          refine j_bipush X (v := 14) dL_law_257 (by decide) ?_
          refine j_ishr X dL_law_259 ?_
          refine j_iconst X (v := 5) dL_law_260 (by decide) ?_
          refine j_callSi X (rest := []) (k_low l (by decide) ejf) m_yL_low kM_RL_80 rfl rfl (Nat.le_of_ble_eq_true rfl) ⟨Nat.le_of_ble_eq_true rfl, Nat.le_of_ble_eq_true rfl, rm_c (by omega), rm_s (by omega)⟩ dL_law_261 ?_
          refine j_istore X (L' := [(11, .int (nI jf)), (10, .int 1), (8, .long (dg S)), (7, .int (nI q)), (0, .ref b), (1, .ref B), (2, .int (nI E)), (3, .int g), (4, .int y), (5, .int (nI so)), (6, .int (nI k))]) dL_law_264 (by decide) rfl ?_
          have h4 : ¬ so < 4 := fun z => c_184 (nlt_lit (b := 4) z (by decide))
          have h5 : ¬ so = 4 := fun z => c_205 (by rw [z]; rfl)
          refine j_sub [4, 5, 6, 7, 8, 9, 10, 3, 2, 1, 0] (L' := [(0, .ref b), (1, .ref B), (2, .int (nI E)), (3, .int g), (4, .int y), (5, .int (nI so)), (6, .int (nI k)), (7, .int (nI q)), (8, .long (dg S)), (10, .int 1), (11, .int (nI jf))]) rfl ?_
          exact law_frames X (M0 := M + 100) (c0 := cl + 10) (s0 := sl + 80) hk (by omega) (by omega) (by omega) (fun nx2 S2 cl2 sl2 h2 g1 g2 g3 => k358 nx2 S2 cl2 sl2 (h2.mono (by omega)) (fun z => by omega) g1 g2 g3) (jf + 1) nx M cl sl S (by omega) h (by omega) h211 (by omega) (by omega)
        · have h4 : ¬ so < 4 := fun z => c_184 (nlt_lit (b := 4) z (by decide))
          have h5 : ¬ so = 4 := fun z => c_205 (by rw [z]; rfl)
          refine j_sub [3, 4, 5, 6, 7, 8, 9, 2, 1, 0] (L' := [(0, .ref b), (1, .ref B), (2, .int (nI E)), (3, .int g), (4, .int y), (5, .int (nI so)), (6, .int (nI k)), (7, .int (nI q)), (8, .long (dg S)), (10, .int 1)]) rfl ?_
          exact law_parts X (by omega) h (by omega) (by omega) (fun nx2 S2 h2 => k358 nx2 S2 cl sl (h2.mono (by omega)) (fun z => by omega) h211 (by omega) (by omega))
      · refine j_sub [3, 4, 5, 6, 7, 8, 9, 2, 1, 0] (L' := [(0, .ref b), (1, .ref B), (2, .int (nI E)), (3, .int g), (4, .int y), (5, .int (nI so)), (6, .int (nI k)), (7, .int (nI q)), (8, .long (dg S)), (10, .int 1)]) rfl ?_
        exact law_cables X h hk (by omega) (by omega) (fun nx2 S2 h2 ha => k358 nx2 S2 cl sl (h2.mono (by omega)) (fun _ => ha) h211 (by omega) (by omega))
    · refine j_sub [3, 4, 5, 6, 7, 8, 9, 2, 1, 0] (L' := [(0, .ref b), (1, .ref B), (2, .int (nI E)), (3, .int g), (4, .int y), (5, .int (nI so)), (6, .int (nI k)), (7, .int (nI q)), (8, .long (dg S)), (10, .int 1)]) rfl ?_
      exact law_sets X h hk ((nI_ltI (b := 4) (by omega) (by decide)).mp c_184) (by omega) (by omega) (fun nx2 S2 h2 ha => k358 nx2 S2 cl sl (h2.mono (by omega)) (fun _ => ha) h211 (by omega) (by omega))
  refine j_aload_n X 0 dL_law_114 rfl rfl ?_
  refine j_iconst X (v := 2) dL_law_115 (by decide) ?_
  refine j_iload_n X 2 dL_law_116 rfl rfl ?_
  refine j_imul X dL_law_117 ?_
  refine j_st (st' := [.int (nI (2 * E)), .ref b]) (by rw [show (2 : Int32) = nI 2 from rfl, pk_mul]) ?_
  refine j_cell (rest := []) X hX hbl hbB hg kM_RL_109 (Nat.le_of_ble_eq_true rfl) ⟨Nat.le_of_ble_eq_true rfl, Nat.le_of_ble_eq_true rfl, rm_c (by omega), rm_s (by omega)⟩ dL_law_118 ?_
  refine j_istore_n X (L' := [(3, .int g), (0, .ref b), (1, .ref B), (2, .int (nI E))]) dL_law_121 rfl (by decide) rfl ?_
  refine j_aload_n X 1 dL_law_122 rfl rfl ?_
  refine j_iconst X (v := 2) dL_law_123 (by decide) ?_
  refine j_iload_n X 3 dL_law_124 rfl rfl ?_
  refine j_imul X dL_law_125 ?_
  refine j_iconst X (v := 1) dL_law_126 (by decide) ?_
  refine j_iadd X dL_law_127 ?_
  refine j_st (st' := [.int (nI (2 * E + 1)), .ref b]) (by rw [show (2 : Int32) = nI 2 from rfl, pk_mul, show (1 : Int32) = nI 1 from rfl, nI_add]) ?_
  refine j_cell (rest := []) X hX hbl hbB hy kM_RL_109 (Nat.le_of_ble_eq_true rfl) ⟨Nat.le_of_ble_eq_true rfl, Nat.le_of_ble_eq_true rfl, rm_c (by omega), rm_s (by omega)⟩ dL_law_128 ?_
  refine j_istore X (L' := [(4, .int y), (3, .int g), (0, .ref b), (1, .ref B), (2, .int (nI E))]) dL_law_131 (by decide) rfl ?_
  refine j_iload_n X 1 dL_law_133 rfl rfl ?_
  refine j_bipush X (v := 8) dL_law_134 (by decide) ?_
  refine j_ishr X dL_law_136 ?_
  refine j_bipush X (v := 16) dL_law_137 (by decide) ?_
  refine j_callSi X (rest := []) (k_low l (by decide) eso) m_yL_low kM_RL_80 rfl rfl (Nat.le_of_ble_eq_true rfl) ⟨Nat.le_of_ble_eq_true rfl, Nat.le_of_ble_eq_true rfl, rm_c (by omega), rm_s (by omega)⟩ dL_law_139 ?_
  refine j_istore X (L' := [(5, .int (nI so)), (4, .int y), (3, .int g), (0, .ref b), (1, .ref B), (2, .int (nI E))]) dL_law_142 (by decide) rfl ?_
  refine j_iload_n X 2 dL_law_144 rfl rfl ?_
  refine j_iload_n X 2 dL_law_145 rfl rfl ?_
  refine j_sipush X (v := 512) dL_law_146 (by decide) ?_
  refine j_iand X dL_law_149 ?_
  refine j_if_ne X (tgt := 157) dL_law_150 (by decide) (fun c_150 => ?_) (fun c_150 => ?_)
  · refine j_bipush X (v := 8) dL_law_157 (by decide) ?_
    refine j_callSi X (rest := []) (k_low l (by decide) ek8) m_yL_low kM_RL_80 rfl rfl (Nat.le_of_ble_eq_true rfl) ⟨Nat.le_of_ble_eq_true rfl, Nat.le_of_ble_eq_true rfl, rm_c (by omega), rm_s (by omega)⟩ dL_law_159 ?_
    refine j_istore X (L' := [(6, .int (nI k8)), (5, .int (nI so)), (4, .int y), (3, .int g), (0, .ref b), (1, .ref B), (2, .int (nI E))]) dL_law_162 (by decide) rfl ?_
    refine j_sub [4, 5, 6, 3, 2, 1, 0] (L' := [(0, .ref b), (1, .ref B), (2, .int (nI E)), (3, .int g), (4, .int y), (5, .int (nI so)), (6, .int (nI k8))]) rfl ?_
    exact k164 k8 (by omega)
  · refine j_iconst X (v := 3) dL_law_153 (by decide) ?_
    refine j_goto X (tgt := 159) dL_law_154 (by decide) ?_
    refine j_callSi X (rest := []) (k_low l (by decide) ek3) m_yL_low kM_RL_80 rfl rfl (Nat.le_of_ble_eq_true rfl) ⟨Nat.le_of_ble_eq_true rfl, Nat.le_of_ble_eq_true rfl, rm_c (by omega), rm_s (by omega)⟩ dL_law_159 ?_
    refine j_istore X (L' := [(6, .int (nI k3)), (5, .int (nI so)), (4, .int y), (3, .int g), (0, .ref b), (1, .ref B), (2, .int (nI E))]) dL_law_162 (by decide) rfl ?_
    refine j_sub [4, 5, 6, 3, 2, 1, 0] (L' := [(0, .ref b), (1, .ref B), (2, .int (nI E)), (3, .int g), (4, .int y), (5, .int (nI so)), (6, .int (nI k3))]) rfl ?_
    exact k164 k3 (by omega)
set_option maxRecDepth 100000 in
theorem law_loop (X : Cx p s m #[Value.ref b] meth c code 13 RL D B) (hX : va_X b L xs s s.heap) (hbl : b < s.heap.size) (hbB : b < B) (hL : L ≤ 260) (KE : ∀ S cl sl, cl ≤ 900 → sl ≤ 19000 → LJ p l e s m below meth c D B b S cl sl [(0, .ref b), (1, .ref B), (2, .int (nI 28))] [] 465) : ∀ (n E nx M cl sl : Nat) (S : Sy), E + n = 28 → M ≤ 50000 * E → 211 ≤ cl → cl ≤ 211 + 11 * E → sl ≤ 12766 + 88 * E → XV M nx S → LJ p l e s m below meth c D B b S cl sl [(0, .ref b), (1, .ref B), (2, .int (nI E))] [] 108 := by
  intro n
  induction n with
  | zero =>
    intro E nx M cl sl S hE hM h211 hcl hsl h
    obtain rfl : E = 28 := by omega
    refine j_iload_n X 2 dL_law_108 rfl rfl ?_
    refine j_bipush X (v := 28) dL_law_109 (by decide) ?_
    refine j_icmp_ge X (tgt := 465) dL_law_111 (by decide) (fun c_111 => ?_) (fun c_111 => absurd c_111 (by decide))
    refine j_sub [0, 1, 2] (L' := [(0, .ref b), (1, .ref B), (2, .int (nI 28))]) rfl ?_
    exact (KE S cl sl (by omega) (by omega))
  | succ n ih =>
    intro E nx M cl sl S hE hM h211 hcl hsl h
    have hlt : nI E < 28 := nlt_lit (b := 28) (by omega) (by decide)
    refine j_iload_n X 2 dL_law_108 rfl rfl ?_
    refine j_bipush X (v := 28) dL_law_109 (by decide) ?_
    refine j_icmp_ge X (tgt := 465) dL_law_111 (by decide) (fun c_111 => absurd hlt c_111) (fun c_111 => ?_)
    refine j_sub [0, 1, 2] (L' := [(0, .ref b), (1, .ref B), (2, .int (nI E))]) rfl ?_
    refine law_event X hX hbl hbB hL (by omega) h (by omega) h211 (by omega) (by omega) (fun nx3 S3 cl3 sl3 h3 g1 g2 g3 => ?_)
    refine j_iinc X 2 (k := 1) (v := (nI (E + 1))) (L' := [(2, .int (nI (E + 1))), (0, .ref b), (1, .ref B)]) dL_law_459 rfl (by decide) (by decide) (nI_succ E).symm rfl ?_
    refine j_goto X (tgt := 108) dL_law_462 (by decide) ?_
    refine j_sub [1, 2, 0] (L' := [(0, .ref b), (1, .ref B), (2, .int (nI (E + 1)))]) rfl ?_
    exact ih (E + 1) nx3 (M + 50000) cl3 sl3 S3 (by omega) (by omega) g1 (by omega) (by omega) h3
end EVENT
