set_option maxRecDepth 100000 in
set_option maxHeartbeats 4000000 in
theorem c_X10_sends (l : Launch) {D : DD} {B z : Nat} {h : HF} {b : Nat} {μ : Mo} {p : Int32} (hp : PO p) (hI : MIv μ) (h0k : WH (mAt μ p 0) 12) (hw : ∃ r : Nat, r < 80 ∧ μ.1 3 = nI r) (hpos : 0 < mOf μ p 5)  : CT l yX10_sends cX10_sends 5 none 2 48 [.ref b, .int p] D B z (mput D h b μ) none 0 0 (mput D h b (mSends μ p)) := by
  refine CT.of (L := [(0, .ref b), (1, .int p)]) (by decide +kernel) (Nat.le_of_ble_eq_true rfl) rfl ?_
  intro P E S0 M0 AR BL ME CO X hr hnm
  refine j_aload_n X 0 dX10_sends_0 rfl rfl ?_
  refine j_iload_n X 1 dX10_sends_1 rfl rfl ?_
  refine j_iconst X (v := 0) dX10_sends_2 (by decide) ?_
  refine j_callVi X (rest := []) (c_X10_atPlace l hp (mi_many hp hI)) m_yX10_atPlace kM_RX10_112 mput_0 rfl rfl rfl rfl rfl (Nat.le_of_ble_eq_true rfl) ⟨Nat.le_of_ble_eq_true rfl, Nat.le_of_ble_eq_true rfl, Nat.le_of_ble_eq_true rfl, Nat.le_of_ble_eq_true rfl⟩ dX10_sends_3 ?_
  refine j_tops (fun v1 ev1 => ?_)
  refine j_istore_n X (L' := [(2, .int v1), (0, .ref b), (1, .int p)]) dX10_sends_6 rfl (by decide) rfl ?_
  refine j_aload_n X 1 dX10_sends_7 rfl rfl ?_
  refine j_iload_n X 2 dX10_sends_8 rfl rfl ?_
  refine j_iload_n X 0 dX10_sends_9 rfl rfl ?_
  refine j_callVi X (rest := []) (c_X10_queueCell l) m_yX10_queueCell kM_RX10_80 mput_0 rfl rfl rfl rfl rfl (Nat.le_of_ble_eq_true rfl) ⟨Nat.le_of_ble_eq_true rfl, Nat.le_of_ble_eq_true rfl, Nat.le_of_ble_eq_true rfl, Nat.le_of_ble_eq_true rfl⟩ dX10_sends_10 ?_
  refine j_tops (fun v2 ev2 => ?_)
  refine j_istore_n X (L' := [(3, .int v2), (2, .int v1), (0, .ref b), (1, .int p)]) dX10_sends_13 rfl (by decide) rfl ?_
  refine j_aload_n X 2 dX10_sends_14 rfl rfl ?_
  refine j_iload_n X 3 dX10_sends_15 rfl rfl ?_
  refine j_bipush X (v := 9) dX10_sends_16 (by decide) ?_
  refine j_callVv X (rest := []) (c_X10_more l hp (show WH 9 _ from ⟨9, by decide, rfl⟩)) m_yX10_more kM_RX10_76 mput_0 rfl rfl rfl rfl rfl (Nat.le_of_ble_eq_true rfl) ⟨Nat.le_of_ble_eq_true rfl, Nat.le_of_ble_eq_true rfl, Nat.le_of_ble_eq_true rfl, Nat.le_of_ble_eq_true rfl⟩ dX10_sends_18 ?_
  refine j_aload_n X 2 dX10_sends_21 rfl rfl ?_
  refine j_iload_n X 3 dX10_sends_22 rfl rfl ?_
  refine j_iconst X (v := 3) dX10_sends_23 (by decide) ?_
  refine j_callVi X (rest := []) (c_X10_of l hp (show WH 3 _ from ⟨3, by decide, rfl⟩)) m_yX10_of kM_RX10_44 mput_0 rfl rfl rfl rfl rfl (Nat.le_of_ble_eq_true rfl) ⟨Nat.le_of_ble_eq_true rfl, Nat.le_of_ble_eq_true rfl, Nat.le_of_ble_eq_true rfl, Nat.le_of_ble_eq_true rfl⟩ dX10_sends_24 ?_
  refine j_if_le X (tgt := 125) dX10_sends_27 (by decide) (fun c_27 => ?_) (fun c_27 => ?_)
  · refine j_aload_n X 2 dX10_sends_125 rfl rfl ?_
    refine j_iload_n X 3 dX10_sends_126 rfl rfl ?_
    refine j_bipush X (v := 10) dX10_sends_127 (by decide) ?_
    refine j_callVv X (rest := []) (c_X10_more l hp (show WH 10 _ from ⟨10, by decide, rfl⟩)) m_yX10_more kM_RX10_76 mput_0 rfl rfl rfl rfl rfl (Nat.le_of_ble_eq_true rfl) ⟨Nat.le_of_ble_eq_true rfl, Nat.le_of_ble_eq_true rfl, Nat.le_of_ble_eq_true rfl, Nat.le_of_ble_eq_true rfl⟩ dX10_sends_129 ?_
    refine j_aload_n X 2 dX10_sends_132 rfl rfl ?_
    refine j_iload_n X 3 dX10_sends_133 rfl rfl ?_
    refine j_iconst X (v := 5) dX10_sends_134 (by decide) ?_
    refine j_aload_n X 2 dX10_sends_135 rfl rfl ?_
    refine j_iload_n X 3 dX10_sends_136 rfl rfl ?_
    refine j_iconst X (v := 5) dX10_sends_137 (by decide) ?_
    refine j_callVi X (rest := [.int 5, .int p, .ref b]) (c_X10_of l hp (show WH 5 _ from ⟨5, by decide, rfl⟩)) m_yX10_of kM_RX10_44 mput_0 rfl rfl rfl rfl rfl (Nat.le_of_ble_eq_true rfl) ⟨Nat.le_of_ble_eq_true rfl, Nat.le_of_ble_eq_true rfl, Nat.le_of_ble_eq_true rfl, Nat.le_of_ble_eq_true rfl⟩ dX10_sends_138 ?_
    refine j_iconst X (v := 1) dX10_sends_141 (by decide) ?_
    refine j_isub X dX10_sends_142 ?_
    refine j_callVv X (rest := []) (c_X10_to l hp (show WH 5 _ from ⟨5, by decide, rfl⟩)) m_yX10_to kM_RX10_32 mput_0 rfl rfl rfl rfl rfl (Nat.le_of_ble_eq_true rfl) ⟨Nat.le_of_ble_eq_true rfl, Nat.le_of_ble_eq_true rfl, Nat.le_of_ble_eq_true rfl, Nat.le_of_ble_eq_true rfl⟩ dX10_sends_143 ?_
    obtain ⟨γ, hγ⟩ : ∃ γ : Mo, (mTo (mMore (mMore μ p 9) p 10) p 5 ((mOf (mMore (mMore μ p 9) p 10) p 5) - 1)) = γ := ⟨_, rfl⟩
    have h5 : mOf γ p 5 = mOf μ p 5 - 1 := by
      rw [← hγ, of_to5 hp]
      rw [of_more5 (w := 10) hp ⟨10, by decide, rfl⟩, of_more5 (w := 9) hp ⟨9, by decide, rfl⟩]
    refine j_heap (h' := mput D h b γ) (congrArg (mput D h b) hγ) ?_
    have h5w : WH (mOf γ p 5) 12 := by rw [h5]; exact wh_dec (mi_many hp hI) hpos
    obtain ⟨c0, hc0⟩ : ∃ c0 : Nat, v2 = nI c0 ∧ 168 ≤ c0 ∧ c0 ≤ 552 := ⟨_, by rw [← ev2, ← ev1]; exact qc_nI (n := 12) hp h0k (by decide)⟩
    obtain ⟨E0, hE0⟩ : ∃ E0 : Nat, mQc p (mOf γ p 5) = nI E0 ∧ 168 ≤ E0 ∧ E0 ≤ 552 := ⟨_, qc_nI (n := 12) hp h5w (by decide)⟩
    have e1 : mSd γ p v2 = mar γ 0 (blk (γ.2 0) (fun i => γ.2 0 (c0 + 4 + i)) c0 (E0 - c0)) := by unfold mSd; rw [hE0.1, hc0.1, nI_clamp (by omega), nI_clamp (by omega)]
    refine j_iload_n X 0 dX10_sends_146 rfl rfl ?_
    refine j_istore X (L' := [(4, .int v2), (3, .int v2), (2, .int v1), (0, .ref b), (1, .int p)]) dX10_sends_147 (by decide) rfl ?_
    refine j_sub [3, 4, 2, 1, 0] (L' := [(0, .ref b), (1, .int p), (2, .int v1), (3, .int v2), (4, .int (nI (c0 + 0)))]) (by rw [Nat.add_zero, ← hc0.1]; rfl) ?_
    have loop149 : ∀ (n k : Nat), k + n = (E0 - c0) → J P l E { frames := 2, cells := 0, slots := 0, locals := 48 } S0 M0 AR BL ME CO D B 5 (MQ BL (QC none D B (z + 0) (mput D h b (mSends μ p))) AR S0 0 0 (aB B)) 0 0 z (mput D h b (mar γ 0 (blk (γ.2 0) (fun i => γ.2 0 (c0 + 4 + i)) c0 k))) [(0, .ref b), (1, .int p), (2, .int v1), (3, .int v2), (4, .int (nI (c0 + k)))] [] 149 := by
      intro n
      induction n with
      | zero =>
        intro k hk
        obtain rfl : k = (E0 - c0) := by omega
        refine j_iload X 4 dX10_sends_149 rfl ?_
        refine j_aload_n X 0 dX10_sends_151 rfl rfl ?_
        refine j_iload_n X 1 dX10_sends_152 rfl rfl ?_
        refine j_aload_n X 0 dX10_sends_153 rfl rfl ?_
        refine j_iload_n X 1 dX10_sends_154 rfl rfl ?_
        refine j_iconst X (v := 5) dX10_sends_155 (by decide) ?_
        refine j_callVi X (rest := [.int p, .ref b, .int (nI (c0 + (E0 - c0)))]) (c_X10_of l hp (show WH 5 _ from ⟨5, by decide, rfl⟩)) m_yX10_of kM_RX10_44 mput_0 rfl rfl rfl rfl rfl (Nat.le_of_ble_eq_true rfl) ⟨Nat.le_of_ble_eq_true rfl, Nat.le_of_ble_eq_true rfl, Nat.le_of_ble_eq_true rfl, Nat.le_of_ble_eq_true rfl⟩ dX10_sends_156 ?_
        refine j_callVi X (rest := [.int (nI (c0 + (E0 - c0)))]) (c_X10_queueCell l) m_yX10_queueCell kM_RX10_80 mput_0 rfl rfl rfl rfl rfl (Nat.le_of_ble_eq_true rfl) ⟨Nat.le_of_ble_eq_true rfl, Nat.le_of_ble_eq_true rfl, Nat.le_of_ble_eq_true rfl, Nat.le_of_ble_eq_true rfl⟩ dX10_sends_159 ?_
        refine j_icmp_ge X (tgt := 187) dX10_sends_162 (by decide) (fun c_162 => ?_) (fun c_162 => absurd c_162 (by rw [of_mar hp (by omega) rfl, hE0.1]; exact nI_nlt (by omega) (by omega)))
        exact j_vret X hr rfl (by rw [← e1, ← hγ, ← ev2, ← ev1, mSends, mSb, if_neg c_27]; rfl) dX10_sends_187
      | succ n ih =>
        intro k hk
        refine j_iload X 4 dX10_sends_149 rfl ?_
        refine j_aload_n X 0 dX10_sends_151 rfl rfl ?_
        refine j_iload_n X 1 dX10_sends_152 rfl rfl ?_
        refine j_aload_n X 0 dX10_sends_153 rfl rfl ?_
        refine j_iload_n X 1 dX10_sends_154 rfl rfl ?_
        refine j_iconst X (v := 5) dX10_sends_155 (by decide) ?_
        refine j_callVi X (rest := [.int p, .ref b, .int (nI (c0 + k))]) (c_X10_of l hp (show WH 5 _ from ⟨5, by decide, rfl⟩)) m_yX10_of kM_RX10_44 mput_0 rfl rfl rfl rfl rfl (Nat.le_of_ble_eq_true rfl) ⟨Nat.le_of_ble_eq_true rfl, Nat.le_of_ble_eq_true rfl, Nat.le_of_ble_eq_true rfl, Nat.le_of_ble_eq_true rfl⟩ dX10_sends_156 ?_
        refine j_callVi X (rest := [.int (nI (c0 + k))]) (c_X10_queueCell l) m_yX10_queueCell kM_RX10_80 mput_0 rfl rfl rfl rfl rfl (Nat.le_of_ble_eq_true rfl) ⟨Nat.le_of_ble_eq_true rfl, Nat.le_of_ble_eq_true rfl, Nat.le_of_ble_eq_true rfl, Nat.le_of_ble_eq_true rfl⟩ dX10_sends_159 ?_
        refine j_icmp_ge X (tgt := 187) dX10_sends_162 (by decide) (fun c_162 => absurd (show nI (c0 + k) < mQc p (mOf (mar γ 0 (blk (γ.2 0) (fun i => γ.2 0 (c0 + 4 + i)) c0 k)) p 5) by rw [of_mar hp (by omega) rfl, hE0.1]; exact nI_lt (by omega) (by omega)) c_162) (fun c_162 => ?_)
        refine j_aload_n X 0 dX10_sends_165 rfl rfl ?_
        refine j_get X fG_RX10_7 mput_0 rfl rfl dX10_sends_166 ?_
        refine j_iload X 4 dX10_sends_169 rfl ?_
        refine j_aload_n X 0 dX10_sends_171 rfl rfl ?_
        refine j_get X fG_RX10_7 mput_0 rfl rfl dX10_sends_172 ?_
        refine j_iload X 4 dX10_sends_175 rfl ?_
        refine j_iconst X (v := 4) dX10_sends_177 (by decide) ?_
        refine j_iadd X dX10_sends_178 ?_
        refine j_ldM X (by rw [show (4 : Int32) = nI 4 from rfl, nI_add]; exact vp_in_nI (by omega) (by decide)) dX10_sends_179 ?_
        refine j_stM X (vp_in_nI (by omega) (by decide)) dX10_sends_180 ?_
        obtain ⟨v3, ev3⟩ : ∃ y : Int32, (nI (c0 + k)) + 1 = y := ⟨_, rfl⟩
        refine j_iinc X 4 (k := 1) (v := v3) (L' := [(4, .int v3), (0, .ref b), (1, .int p), (2, .int v1), (3, .int v2)]) dX10_sends_181 rfl (by decide) (by decide) ev3 rfl ?_
        refine j_goto X (tgt := 149) dX10_sends_184 (by decide) ?_
        refine j_sub [1, 2, 3, 4, 0] (L' := [(0, .ref b), (1, .int p), (2, .int v1), (3, .int v2), (4, .int (nI (c0 + (k + 1))))]) (by rw [← ev3, ← nI_succ]; rfl) ?_
        refine j_heap (h' := mput D h b (mar γ 0 (blk (γ.2 0) (fun i => γ.2 0 (c0 + 4 + i)) c0 (k + 1)))) (congrArg (mput D h b) (cp_at (a := 0) (i := nI (c0 + k)) (n := c0) (k := k) (nI_clamp (n := c0 + k) (by omega)) (by rw [show (4 : Int32) = nI 4 from rfl, nI_add, now_nI (by omega), mar_at, blk_out (by omega)]; exact congrArg (γ.2 0) (by omega)))) ?_
        exact ih (k + 1) (by omega)
    refine j_sub [0, 1, 2, 3, 4] (L' := [(0, .ref b), (1, .int p), (2, .int v1), (3, .int v2), (4, .int (nI (c0 + 0)))]) (by subst hγ ev2 ev1; first | with_reducible rfl | (simp only [if_neg c_27]; done) | (simp only [if_neg c_27]; rfl) | rfl) ?_
    refine j_heap (h' := mput D h b (mar γ 0 (blk (γ.2 0) (fun i => γ.2 0 (c0 + 4 + i)) c0 0))) (congrArg (mput D h b) cp_0) ?_
    exact loop149 (E0 - c0) 0 (by omega)
  · refine j_aload_n X 2 dX10_sends_30 rfl rfl ?_
    refine j_get X fG_RX10_22 mput_0 rfl rfl dX10_sends_31 ?_
    refine j_iconst X (v := 4) dX10_sends_34 (by decide) ?_
    refine j_aload_n X 2 dX10_sends_35 rfl rfl ?_
    refine j_get X fG_RX10_115 mput_0 rfl rfl dX10_sends_36 ?_
    refine j_imul X dX10_sends_39 ?_
    refine j_aload_n X 2 dX10_sends_40 rfl rfl ?_
    refine j_iload_n X 3 dX10_sends_41 rfl rfl ?_
    refine j_iconst X (v := 3) dX10_sends_42 (by decide) ?_
    refine j_callVi X (rest := [.int (4 * ((mMore μ p 9).1 3)), .ref (b + 5)]) (c_X10_of l hp (show WH 3 _ from ⟨3, by decide, rfl⟩)) m_yX10_of kM_RX10_44 mput_0 rfl rfl rfl rfl rfl (Nat.le_of_ble_eq_true rfl) ⟨Nat.le_of_ble_eq_true rfl, Nat.le_of_ble_eq_true rfl, Nat.le_of_ble_eq_true rfl, Nat.le_of_ble_eq_true rfl⟩ dX10_sends_43 ?_
    refine j_iconst X (v := 1) dX10_sends_46 (by decide) ?_
    refine j_isub X dX10_sends_47 ?_
    refine j_stA4 X (in_way0 hw) dX10_sends_48 ?_
    refine j_aload_n X 2 dX10_sends_49 rfl rfl ?_
    refine j_get X fG_RX10_22 mput_0 rfl rfl dX10_sends_50 ?_
    refine j_iconst X (v := 4) dX10_sends_53 (by decide) ?_
    refine j_aload_n X 2 dX10_sends_54 rfl rfl ?_
    refine j_get X fG_RX10_115 mput_0 rfl rfl dX10_sends_55 ?_
    refine j_imul X dX10_sends_58 ?_
    refine j_iconst X (v := 1) dX10_sends_59 (by decide) ?_
    refine j_iadd X dX10_sends_60 ?_
    refine j_aload_n X 2 dX10_sends_61 rfl rfl ?_
    refine j_get X fG_RX10_7 mput_0 rfl rfl dX10_sends_62 ?_
    refine j_iload_n X 0 dX10_sends_65 rfl rfl ?_
    refine j_iconst X (v := 1) dX10_sends_66 (by decide) ?_
    refine j_iadd X dX10_sends_67 ?_
    refine j_ldM X (by rw [← ev2, ← ev1]; exact in_qc 1 (by decide) hp h0k) dX10_sends_68 ?_
    refine j_stA4 X (in_way 1 (by decide) hw) dX10_sends_69 ?_
    refine j_aload_n X 2 dX10_sends_70 rfl rfl ?_
    refine j_get X fG_RX10_22 mput_0 rfl rfl dX10_sends_71 ?_
    refine j_iconst X (v := 4) dX10_sends_74 (by decide) ?_
    refine j_aload_n X 2 dX10_sends_75 rfl rfl ?_
    refine j_get X fG_RX10_115 mput_0 rfl rfl dX10_sends_76 ?_
    refine j_imul X dX10_sends_79 ?_
    refine j_iconst X (v := 2) dX10_sends_80 (by decide) ?_
    refine j_iadd X dX10_sends_81 ?_
    refine j_aload_n X 2 dX10_sends_82 rfl rfl ?_
    refine j_get X fG_RX10_7 mput_0 rfl rfl dX10_sends_83 ?_
    refine j_iload_n X 0 dX10_sends_86 rfl rfl ?_
    refine j_iconst X (v := 2) dX10_sends_87 (by decide) ?_
    refine j_iadd X dX10_sends_88 ?_
    refine j_ldM X (by rw [← ev2, ← ev1]; exact in_qc 2 (by decide) hp h0k) dX10_sends_89 ?_
    refine j_stA4 X (in_way 2 (by decide) hw) dX10_sends_90 ?_
    refine j_aload_n X 2 dX10_sends_91 rfl rfl ?_
    refine j_get X fG_RX10_22 mput_0 rfl rfl dX10_sends_92 ?_
    refine j_iconst X (v := 4) dX10_sends_95 (by decide) ?_
    refine j_aload_n X 2 dX10_sends_96 rfl rfl ?_
    refine j_get X fG_RX10_115 mput_0 rfl rfl dX10_sends_97 ?_
    refine j_imul X dX10_sends_100 ?_
    refine j_iconst X (v := 3) dX10_sends_101 (by decide) ?_
    refine j_iadd X dX10_sends_102 ?_
    refine j_aload_n X 2 dX10_sends_103 rfl rfl ?_
    refine j_get X fG_RX10_7 mput_0 rfl rfl dX10_sends_104 ?_
    refine j_iload_n X 0 dX10_sends_107 rfl rfl ?_
    refine j_iconst X (v := 3) dX10_sends_108 (by decide) ?_
    refine j_iadd X dX10_sends_109 ?_
    refine j_ldM X (by rw [← ev2, ← ev1]; exact in_qc 3 (by decide) hp h0k) dX10_sends_110 ?_
    refine j_stA4 X (in_way 3 (by decide) hw) dX10_sends_111 ?_
    refine j_aload_n X 2 dX10_sends_112 rfl rfl ?_
    refine j_dup X dX10_sends_113 rfl ?_
    refine j_get X fG_RX10_115 mput_0 rfl rfl dX10_sends_114 ?_
    refine j_iconst X (v := 1) dX10_sends_117 (by decide) ?_
    refine j_iadd X dX10_sends_118 ?_
    refine j_put X fG_RX10_115 fW_10_7 mput_0 rfl rfl rfl (Nat.le_of_ble_eq_true rfl) dX10_sends_119 ?_
    refine j_heap (h' := mput D h b (msc (setA (setA (setA (setA (mMore μ p 9) 4 (4 * ((mMore μ p 9).1 3)) ((mOf (mMore μ p 9) p 3) - 1)) 4 ((4 * ((setA (mMore μ p 9) 4 (4 * ((mMore μ p 9).1 3)) ((mOf (mMore μ p 9) p 3) - 1)).1 3)) + 1) (now (setA (mMore μ p 9) 4 (4 * ((mMore μ p 9).1 3)) ((mOf (mMore μ p 9) p 3) - 1)) (v2 + 1))) 4 ((4 * ((setA (setA (mMore μ p 9) 4 (4 * ((mMore μ p 9).1 3)) ((mOf (mMore μ p 9) p 3) - 1)) 4 ((4 * ((setA (mMore μ p 9) 4 (4 * ((mMore μ p 9).1 3)) ((mOf (mMore μ p 9) p 3) - 1)).1 3)) + 1) (now (setA (mMore μ p 9) 4 (4 * ((mMore μ p 9).1 3)) ((mOf (mMore μ p 9) p 3) - 1)) (v2 + 1))).1 3)) + 2) (now (setA (setA (mMore μ p 9) 4 (4 * ((mMore μ p 9).1 3)) ((mOf (mMore μ p 9) p 3) - 1)) 4 ((4 * ((setA (mMore μ p 9) 4 (4 * ((mMore μ p 9).1 3)) ((mOf (mMore μ p 9) p 3) - 1)).1 3)) + 1) (now (setA (mMore μ p 9) 4 (4 * ((mMore μ p 9).1 3)) ((mOf (mMore μ p 9) p 3) - 1)) (v2 + 1))) (v2 + 2))) 4 ((4 * ((setA (setA (setA (mMore μ p 9) 4 (4 * ((mMore μ p 9).1 3)) ((mOf (mMore μ p 9) p 3) - 1)) 4 ((4 * ((setA (mMore μ p 9) 4 (4 * ((mMore μ p 9).1 3)) ((mOf (mMore μ p 9) p 3) - 1)).1 3)) + 1) (now (setA (mMore μ p 9) 4 (4 * ((mMore μ p 9).1 3)) ((mOf (mMore μ p 9) p 3) - 1)) (v2 + 1))) 4 ((4 * ((setA (setA (mMore μ p 9) 4 (4 * ((mMore μ p 9).1 3)) ((mOf (mMore μ p 9) p 3) - 1)) 4 ((4 * ((setA (mMore μ p 9) 4 (4 * ((mMore μ p 9).1 3)) ((mOf (mMore μ p 9) p 3) - 1)).1 3)) + 1) (now (setA (mMore μ p 9) 4 (4 * ((mMore μ p 9).1 3)) ((mOf (mMore μ p 9) p 3) - 1)) (v2 + 1))).1 3)) + 2) (now (setA (setA (mMore μ p 9) 4 (4 * ((mMore μ p 9).1 3)) ((mOf (mMore μ p 9) p 3) - 1)) 4 ((4 * ((setA (mMore μ p 9) 4 (4 * ((mMore μ p 9).1 3)) ((mOf (mMore μ p 9) p 3) - 1)).1 3)) + 1) (now (setA (mMore μ p 9) 4 (4 * ((mMore μ p 9).1 3)) ((mOf (mMore μ p 9) p 3) - 1)) (v2 + 1))) (v2 + 2))).1 3)) + 3) (now (setA (setA (setA (mMore μ p 9) 4 (4 * ((mMore μ p 9).1 3)) ((mOf (mMore μ p 9) p 3) - 1)) 4 ((4 * ((setA (mMore μ p 9) 4 (4 * ((mMore μ p 9).1 3)) ((mOf (mMore μ p 9) p 3) - 1)).1 3)) + 1) (now (setA (mMore μ p 9) 4 (4 * ((mMore μ p 9).1 3)) ((mOf (mMore μ p 9) p 3) - 1)) (v2 + 1))) 4 ((4 * ((setA (setA (mMore μ p 9) 4 (4 * ((mMore μ p 9).1 3)) ((mOf (mMore μ p 9) p 3) - 1)) 4 ((4 * ((setA (mMore μ p 9) 4 (4 * ((mMore μ p 9).1 3)) ((mOf (mMore μ p 9) p 3) - 1)).1 3)) + 1) (now (setA (mMore μ p 9) 4 (4 * ((mMore μ p 9).1 3)) ((mOf (mMore μ p 9) p 3) - 1)) (v2 + 1))).1 3)) + 2) (now (setA (setA (mMore μ p 9) 4 (4 * ((mMore μ p 9).1 3)) ((mOf (mMore μ p 9) p 3) - 1)) 4 ((4 * ((setA (mMore μ p 9) 4 (4 * ((mMore μ p 9).1 3)) ((mOf (mMore μ p 9) p 3) - 1)).1 3)) + 1) (now (setA (mMore μ p 9) 4 (4 * ((mMore μ p 9).1 3)) ((mOf (mMore μ p 9) p 3) - 1)) (v2 + 1))) (v2 + 2))) (v2 + 3))) 3 (((setA (setA (setA (setA (mMore μ p 9) 4 (4 * ((mMore μ p 9).1 3)) ((mOf (mMore μ p 9) p 3) - 1)) 4 ((4 * ((setA (mMore μ p 9) 4 (4 * ((mMore μ p 9).1 3)) ((mOf (mMore μ p 9) p 3) - 1)).1 3)) + 1) (now (setA (mMore μ p 9) 4 (4 * ((mMore μ p 9).1 3)) ((mOf (mMore μ p 9) p 3) - 1)) (v2 + 1))) 4 ((4 * ((setA (setA (mMore μ p 9) 4 (4 * ((mMore μ p 9).1 3)) ((mOf (mMore μ p 9) p 3) - 1)) 4 ((4 * ((setA (mMore μ p 9) 4 (4 * ((mMore μ p 9).1 3)) ((mOf (mMore μ p 9) p 3) - 1)).1 3)) + 1) (now (setA (mMore μ p 9) 4 (4 * ((mMore μ p 9).1 3)) ((mOf (mMore μ p 9) p 3) - 1)) (v2 + 1))).1 3)) + 2) (now (setA (setA (mMore μ p 9) 4 (4 * ((mMore μ p 9).1 3)) ((mOf (mMore μ p 9) p 3) - 1)) 4 ((4 * ((setA (mMore μ p 9) 4 (4 * ((mMore μ p 9).1 3)) ((mOf (mMore μ p 9) p 3) - 1)).1 3)) + 1) (now (setA (mMore μ p 9) 4 (4 * ((mMore μ p 9).1 3)) ((mOf (mMore μ p 9) p 3) - 1)) (v2 + 1))) (v2 + 2))) 4 ((4 * ((setA (setA (setA (mMore μ p 9) 4 (4 * ((mMore μ p 9).1 3)) ((mOf (mMore μ p 9) p 3) - 1)) 4 ((4 * ((setA (mMore μ p 9) 4 (4 * ((mMore μ p 9).1 3)) ((mOf (mMore μ p 9) p 3) - 1)).1 3)) + 1) (now (setA (mMore μ p 9) 4 (4 * ((mMore μ p 9).1 3)) ((mOf (mMore μ p 9) p 3) - 1)) (v2 + 1))) 4 ((4 * ((setA (setA (mMore μ p 9) 4 (4 * ((mMore μ p 9).1 3)) ((mOf (mMore μ p 9) p 3) - 1)) 4 ((4 * ((setA (mMore μ p 9) 4 (4 * ((mMore μ p 9).1 3)) ((mOf (mMore μ p 9) p 3) - 1)).1 3)) + 1) (now (setA (mMore μ p 9) 4 (4 * ((mMore μ p 9).1 3)) ((mOf (mMore μ p 9) p 3) - 1)) (v2 + 1))).1 3)) + 2) (now (setA (setA (mMore μ p 9) 4 (4 * ((mMore μ p 9).1 3)) ((mOf (mMore μ p 9) p 3) - 1)) 4 ((4 * ((setA (mMore μ p 9) 4 (4 * ((mMore μ p 9).1 3)) ((mOf (mMore μ p 9) p 3) - 1)).1 3)) + 1) (now (setA (mMore μ p 9) 4 (4 * ((mMore μ p 9).1 3)) ((mOf (mMore μ p 9) p 3) - 1)) (v2 + 1))) (v2 + 2))).1 3)) + 3) (now (setA (setA (setA (mMore μ p 9) 4 (4 * ((mMore μ p 9).1 3)) ((mOf (mMore μ p 9) p 3) - 1)) 4 ((4 * ((setA (mMore μ p 9) 4 (4 * ((mMore μ p 9).1 3)) ((mOf (mMore μ p 9) p 3) - 1)).1 3)) + 1) (now (setA (mMore μ p 9) 4 (4 * ((mMore μ p 9).1 3)) ((mOf (mMore μ p 9) p 3) - 1)) (v2 + 1))) 4 ((4 * ((setA (setA (mMore μ p 9) 4 (4 * ((mMore μ p 9).1 3)) ((mOf (mMore μ p 9) p 3) - 1)) 4 ((4 * ((setA (mMore μ p 9) 4 (4 * ((mMore μ p 9).1 3)) ((mOf (mMore μ p 9) p 3) - 1)).1 3)) + 1) (now (setA (mMore μ p 9) 4 (4 * ((mMore μ p 9).1 3)) ((mOf (mMore μ p 9) p 3) - 1)) (v2 + 1))).1 3)) + 2) (now (setA (setA (mMore μ p 9) 4 (4 * ((mMore μ p 9).1 3)) ((mOf (mMore μ p 9) p 3) - 1)) 4 ((4 * ((setA (mMore μ p 9) 4 (4 * ((mMore μ p 9).1 3)) ((mOf (mMore μ p 9) p 3) - 1)).1 3)) + 1) (now (setA (mMore μ p 9) 4 (4 * ((mMore μ p 9).1 3)) ((mOf (mMore μ p 9) p 3) - 1)) (v2 + 1))) (v2 + 2))) (v2 + 3))).1 3) + 1))) mput_s3 ?_
    refine j_goto X (tgt := 132) dX10_sends_122 (by decide) ?_
    refine j_aload_n X 2 dX10_sends_132 rfl rfl ?_
    refine j_iload_n X 3 dX10_sends_133 rfl rfl ?_
    refine j_iconst X (v := 5) dX10_sends_134 (by decide) ?_
    refine j_aload_n X 2 dX10_sends_135 rfl rfl ?_
    refine j_iload_n X 3 dX10_sends_136 rfl rfl ?_
    refine j_iconst X (v := 5) dX10_sends_137 (by decide) ?_
    refine j_callVi X (rest := [.int 5, .int p, .ref b]) (c_X10_of l hp (show WH 5 _ from ⟨5, by decide, rfl⟩)) m_yX10_of kM_RX10_44 mput_0 rfl rfl rfl rfl rfl (Nat.le_of_ble_eq_true rfl) ⟨Nat.le_of_ble_eq_true rfl, Nat.le_of_ble_eq_true rfl, Nat.le_of_ble_eq_true rfl, Nat.le_of_ble_eq_true rfl⟩ dX10_sends_138 ?_
    refine j_iconst X (v := 1) dX10_sends_141 (by decide) ?_
    refine j_isub X dX10_sends_142 ?_
    refine j_callVv X (rest := []) (c_X10_to l hp (show WH 5 _ from ⟨5, by decide, rfl⟩)) m_yX10_to kM_RX10_32 mput_0 rfl rfl rfl rfl rfl (Nat.le_of_ble_eq_true rfl) ⟨Nat.le_of_ble_eq_true rfl, Nat.le_of_ble_eq_true rfl, Nat.le_of_ble_eq_true rfl, Nat.le_of_ble_eq_true rfl⟩ dX10_sends_143 ?_
    obtain ⟨γ, hγ⟩ : ∃ γ : Mo, (mTo (msc (setA (setA (setA (setA (mMore μ p 9) 4 (4 * ((mMore μ p 9).1 3)) ((mOf (mMore μ p 9) p 3) - 1)) 4 ((4 * ((setA (mMore μ p 9) 4 (4 * ((mMore μ p 9).1 3)) ((mOf (mMore μ p 9) p 3) - 1)).1 3)) + 1) (now (setA (mMore μ p 9) 4 (4 * ((mMore μ p 9).1 3)) ((mOf (mMore μ p 9) p 3) - 1)) (v2 + 1))) 4 ((4 * ((setA (setA (mMore μ p 9) 4 (4 * ((mMore μ p 9).1 3)) ((mOf (mMore μ p 9) p 3) - 1)) 4 ((4 * ((setA (mMore μ p 9) 4 (4 * ((mMore μ p 9).1 3)) ((mOf (mMore μ p 9) p 3) - 1)).1 3)) + 1) (now (setA (mMore μ p 9) 4 (4 * ((mMore μ p 9).1 3)) ((mOf (mMore μ p 9) p 3) - 1)) (v2 + 1))).1 3)) + 2) (now (setA (setA (mMore μ p 9) 4 (4 * ((mMore μ p 9).1 3)) ((mOf (mMore μ p 9) p 3) - 1)) 4 ((4 * ((setA (mMore μ p 9) 4 (4 * ((mMore μ p 9).1 3)) ((mOf (mMore μ p 9) p 3) - 1)).1 3)) + 1) (now (setA (mMore μ p 9) 4 (4 * ((mMore μ p 9).1 3)) ((mOf (mMore μ p 9) p 3) - 1)) (v2 + 1))) (v2 + 2))) 4 ((4 * ((setA (setA (setA (mMore μ p 9) 4 (4 * ((mMore μ p 9).1 3)) ((mOf (mMore μ p 9) p 3) - 1)) 4 ((4 * ((setA (mMore μ p 9) 4 (4 * ((mMore μ p 9).1 3)) ((mOf (mMore μ p 9) p 3) - 1)).1 3)) + 1) (now (setA (mMore μ p 9) 4 (4 * ((mMore μ p 9).1 3)) ((mOf (mMore μ p 9) p 3) - 1)) (v2 + 1))) 4 ((4 * ((setA (setA (mMore μ p 9) 4 (4 * ((mMore μ p 9).1 3)) ((mOf (mMore μ p 9) p 3) - 1)) 4 ((4 * ((setA (mMore μ p 9) 4 (4 * ((mMore μ p 9).1 3)) ((mOf (mMore μ p 9) p 3) - 1)).1 3)) + 1) (now (setA (mMore μ p 9) 4 (4 * ((mMore μ p 9).1 3)) ((mOf (mMore μ p 9) p 3) - 1)) (v2 + 1))).1 3)) + 2) (now (setA (setA (mMore μ p 9) 4 (4 * ((mMore μ p 9).1 3)) ((mOf (mMore μ p 9) p 3) - 1)) 4 ((4 * ((setA (mMore μ p 9) 4 (4 * ((mMore μ p 9).1 3)) ((mOf (mMore μ p 9) p 3) - 1)).1 3)) + 1) (now (setA (mMore μ p 9) 4 (4 * ((mMore μ p 9).1 3)) ((mOf (mMore μ p 9) p 3) - 1)) (v2 + 1))) (v2 + 2))).1 3)) + 3) (now (setA (setA (setA (mMore μ p 9) 4 (4 * ((mMore μ p 9).1 3)) ((mOf (mMore μ p 9) p 3) - 1)) 4 ((4 * ((setA (mMore μ p 9) 4 (4 * ((mMore μ p 9).1 3)) ((mOf (mMore μ p 9) p 3) - 1)).1 3)) + 1) (now (setA (mMore μ p 9) 4 (4 * ((mMore μ p 9).1 3)) ((mOf (mMore μ p 9) p 3) - 1)) (v2 + 1))) 4 ((4 * ((setA (setA (mMore μ p 9) 4 (4 * ((mMore μ p 9).1 3)) ((mOf (mMore μ p 9) p 3) - 1)) 4 ((4 * ((setA (mMore μ p 9) 4 (4 * ((mMore μ p 9).1 3)) ((mOf (mMore μ p 9) p 3) - 1)).1 3)) + 1) (now (setA (mMore μ p 9) 4 (4 * ((mMore μ p 9).1 3)) ((mOf (mMore μ p 9) p 3) - 1)) (v2 + 1))).1 3)) + 2) (now (setA (setA (mMore μ p 9) 4 (4 * ((mMore μ p 9).1 3)) ((mOf (mMore μ p 9) p 3) - 1)) 4 ((4 * ((setA (mMore μ p 9) 4 (4 * ((mMore μ p 9).1 3)) ((mOf (mMore μ p 9) p 3) - 1)).1 3)) + 1) (now (setA (mMore μ p 9) 4 (4 * ((mMore μ p 9).1 3)) ((mOf (mMore μ p 9) p 3) - 1)) (v2 + 1))) (v2 + 2))) (v2 + 3))) 3 (((setA (setA (setA (setA (mMore μ p 9) 4 (4 * ((mMore μ p 9).1 3)) ((mOf (mMore μ p 9) p 3) - 1)) 4 ((4 * ((setA (mMore μ p 9) 4 (4 * ((mMore μ p 9).1 3)) ((mOf (mMore μ p 9) p 3) - 1)).1 3)) + 1) (now (setA (mMore μ p 9) 4 (4 * ((mMore μ p 9).1 3)) ((mOf (mMore μ p 9) p 3) - 1)) (v2 + 1))) 4 ((4 * ((setA (setA (mMore μ p 9) 4 (4 * ((mMore μ p 9).1 3)) ((mOf (mMore μ p 9) p 3) - 1)) 4 ((4 * ((setA (mMore μ p 9) 4 (4 * ((mMore μ p 9).1 3)) ((mOf (mMore μ p 9) p 3) - 1)).1 3)) + 1) (now (setA (mMore μ p 9) 4 (4 * ((mMore μ p 9).1 3)) ((mOf (mMore μ p 9) p 3) - 1)) (v2 + 1))).1 3)) + 2) (now (setA (setA (mMore μ p 9) 4 (4 * ((mMore μ p 9).1 3)) ((mOf (mMore μ p 9) p 3) - 1)) 4 ((4 * ((setA (mMore μ p 9) 4 (4 * ((mMore μ p 9).1 3)) ((mOf (mMore μ p 9) p 3) - 1)).1 3)) + 1) (now (setA (mMore μ p 9) 4 (4 * ((mMore μ p 9).1 3)) ((mOf (mMore μ p 9) p 3) - 1)) (v2 + 1))) (v2 + 2))) 4 ((4 * ((setA (setA (setA (mMore μ p 9) 4 (4 * ((mMore μ p 9).1 3)) ((mOf (mMore μ p 9) p 3) - 1)) 4 ((4 * ((setA (mMore μ p 9) 4 (4 * ((mMore μ p 9).1 3)) ((mOf (mMore μ p 9) p 3) - 1)).1 3)) + 1) (now (setA (mMore μ p 9) 4 (4 * ((mMore μ p 9).1 3)) ((mOf (mMore μ p 9) p 3) - 1)) (v2 + 1))) 4 ((4 * ((setA (setA (mMore μ p 9) 4 (4 * ((mMore μ p 9).1 3)) ((mOf (mMore μ p 9) p 3) - 1)) 4 ((4 * ((setA (mMore μ p 9) 4 (4 * ((mMore μ p 9).1 3)) ((mOf (mMore μ p 9) p 3) - 1)).1 3)) + 1) (now (setA (mMore μ p 9) 4 (4 * ((mMore μ p 9).1 3)) ((mOf (mMore μ p 9) p 3) - 1)) (v2 + 1))).1 3)) + 2) (now (setA (setA (mMore μ p 9) 4 (4 * ((mMore μ p 9).1 3)) ((mOf (mMore μ p 9) p 3) - 1)) 4 ((4 * ((setA (mMore μ p 9) 4 (4 * ((mMore μ p 9).1 3)) ((mOf (mMore μ p 9) p 3) - 1)).1 3)) + 1) (now (setA (mMore μ p 9) 4 (4 * ((mMore μ p 9).1 3)) ((mOf (mMore μ p 9) p 3) - 1)) (v2 + 1))) (v2 + 2))).1 3)) + 3) (now (setA (setA (setA (mMore μ p 9) 4 (4 * ((mMore μ p 9).1 3)) ((mOf (mMore μ p 9) p 3) - 1)) 4 ((4 * ((setA (mMore μ p 9) 4 (4 * ((mMore μ p 9).1 3)) ((mOf (mMore μ p 9) p 3) - 1)).1 3)) + 1) (now (setA (mMore μ p 9) 4 (4 * ((mMore μ p 9).1 3)) ((mOf (mMore μ p 9) p 3) - 1)) (v2 + 1))) 4 ((4 * ((setA (setA (mMore μ p 9) 4 (4 * ((mMore μ p 9).1 3)) ((mOf (mMore μ p 9) p 3) - 1)) 4 ((4 * ((setA (mMore μ p 9) 4 (4 * ((mMore μ p 9).1 3)) ((mOf (mMore μ p 9) p 3) - 1)).1 3)) + 1) (now (setA (mMore μ p 9) 4 (4 * ((mMore μ p 9).1 3)) ((mOf (mMore μ p 9) p 3) - 1)) (v2 + 1))).1 3)) + 2) (now (setA (setA (mMore μ p 9) 4 (4 * ((mMore μ p 9).1 3)) ((mOf (mMore μ p 9) p 3) - 1)) 4 ((4 * ((setA (mMore μ p 9) 4 (4 * ((mMore μ p 9).1 3)) ((mOf (mMore μ p 9) p 3) - 1)).1 3)) + 1) (now (setA (mMore μ p 9) 4 (4 * ((mMore μ p 9).1 3)) ((mOf (mMore μ p 9) p 3) - 1)) (v2 + 1))) (v2 + 2))) (v2 + 3))).1 3) + 1)) p 5 ((mOf (msc (setA (setA (setA (setA (mMore μ p 9) 4 (4 * ((mMore μ p 9).1 3)) ((mOf (mMore μ p 9) p 3) - 1)) 4 ((4 * ((setA (mMore μ p 9) 4 (4 * ((mMore μ p 9).1 3)) ((mOf (mMore μ p 9) p 3) - 1)).1 3)) + 1) (now (setA (mMore μ p 9) 4 (4 * ((mMore μ p 9).1 3)) ((mOf (mMore μ p 9) p 3) - 1)) (v2 + 1))) 4 ((4 * ((setA (setA (mMore μ p 9) 4 (4 * ((mMore μ p 9).1 3)) ((mOf (mMore μ p 9) p 3) - 1)) 4 ((4 * ((setA (mMore μ p 9) 4 (4 * ((mMore μ p 9).1 3)) ((mOf (mMore μ p 9) p 3) - 1)).1 3)) + 1) (now (setA (mMore μ p 9) 4 (4 * ((mMore μ p 9).1 3)) ((mOf (mMore μ p 9) p 3) - 1)) (v2 + 1))).1 3)) + 2) (now (setA (setA (mMore μ p 9) 4 (4 * ((mMore μ p 9).1 3)) ((mOf (mMore μ p 9) p 3) - 1)) 4 ((4 * ((setA (mMore μ p 9) 4 (4 * ((mMore μ p 9).1 3)) ((mOf (mMore μ p 9) p 3) - 1)).1 3)) + 1) (now (setA (mMore μ p 9) 4 (4 * ((mMore μ p 9).1 3)) ((mOf (mMore μ p 9) p 3) - 1)) (v2 + 1))) (v2 + 2))) 4 ((4 * ((setA (setA (setA (mMore μ p 9) 4 (4 * ((mMore μ p 9).1 3)) ((mOf (mMore μ p 9) p 3) - 1)) 4 ((4 * ((setA (mMore μ p 9) 4 (4 * ((mMore μ p 9).1 3)) ((mOf (mMore μ p 9) p 3) - 1)).1 3)) + 1) (now (setA (mMore μ p 9) 4 (4 * ((mMore μ p 9).1 3)) ((mOf (mMore μ p 9) p 3) - 1)) (v2 + 1))) 4 ((4 * ((setA (setA (mMore μ p 9) 4 (4 * ((mMore μ p 9).1 3)) ((mOf (mMore μ p 9) p 3) - 1)) 4 ((4 * ((setA (mMore μ p 9) 4 (4 * ((mMore μ p 9).1 3)) ((mOf (mMore μ p 9) p 3) - 1)).1 3)) + 1) (now (setA (mMore μ p 9) 4 (4 * ((mMore μ p 9).1 3)) ((mOf (mMore μ p 9) p 3) - 1)) (v2 + 1))).1 3)) + 2) (now (setA (setA (mMore μ p 9) 4 (4 * ((mMore μ p 9).1 3)) ((mOf (mMore μ p 9) p 3) - 1)) 4 ((4 * ((setA (mMore μ p 9) 4 (4 * ((mMore μ p 9).1 3)) ((mOf (mMore μ p 9) p 3) - 1)).1 3)) + 1) (now (setA (mMore μ p 9) 4 (4 * ((mMore μ p 9).1 3)) ((mOf (mMore μ p 9) p 3) - 1)) (v2 + 1))) (v2 + 2))).1 3)) + 3) (now (setA (setA (setA (mMore μ p 9) 4 (4 * ((mMore μ p 9).1 3)) ((mOf (mMore μ p 9) p 3) - 1)) 4 ((4 * ((setA (mMore μ p 9) 4 (4 * ((mMore μ p 9).1 3)) ((mOf (mMore μ p 9) p 3) - 1)).1 3)) + 1) (now (setA (mMore μ p 9) 4 (4 * ((mMore μ p 9).1 3)) ((mOf (mMore μ p 9) p 3) - 1)) (v2 + 1))) 4 ((4 * ((setA (setA (mMore μ p 9) 4 (4 * ((mMore μ p 9).1 3)) ((mOf (mMore μ p 9) p 3) - 1)) 4 ((4 * ((setA (mMore μ p 9) 4 (4 * ((mMore μ p 9).1 3)) ((mOf (mMore μ p 9) p 3) - 1)).1 3)) + 1) (now (setA (mMore μ p 9) 4 (4 * ((mMore μ p 9).1 3)) ((mOf (mMore μ p 9) p 3) - 1)) (v2 + 1))).1 3)) + 2) (now (setA (setA (mMore μ p 9) 4 (4 * ((mMore μ p 9).1 3)) ((mOf (mMore μ p 9) p 3) - 1)) 4 ((4 * ((setA (mMore μ p 9) 4 (4 * ((mMore μ p 9).1 3)) ((mOf (mMore μ p 9) p 3) - 1)).1 3)) + 1) (now (setA (mMore μ p 9) 4 (4 * ((mMore μ p 9).1 3)) ((mOf (mMore μ p 9) p 3) - 1)) (v2 + 1))) (v2 + 2))) (v2 + 3))) 3 (((setA (setA (setA (setA (mMore μ p 9) 4 (4 * ((mMore μ p 9).1 3)) ((mOf (mMore μ p 9) p 3) - 1)) 4 ((4 * ((setA (mMore μ p 9) 4 (4 * ((mMore μ p 9).1 3)) ((mOf (mMore μ p 9) p 3) - 1)).1 3)) + 1) (now (setA (mMore μ p 9) 4 (4 * ((mMore μ p 9).1 3)) ((mOf (mMore μ p 9) p 3) - 1)) (v2 + 1))) 4 ((4 * ((setA (setA (mMore μ p 9) 4 (4 * ((mMore μ p 9).1 3)) ((mOf (mMore μ p 9) p 3) - 1)) 4 ((4 * ((setA (mMore μ p 9) 4 (4 * ((mMore μ p 9).1 3)) ((mOf (mMore μ p 9) p 3) - 1)).1 3)) + 1) (now (setA (mMore μ p 9) 4 (4 * ((mMore μ p 9).1 3)) ((mOf (mMore μ p 9) p 3) - 1)) (v2 + 1))).1 3)) + 2) (now (setA (setA (mMore μ p 9) 4 (4 * ((mMore μ p 9).1 3)) ((mOf (mMore μ p 9) p 3) - 1)) 4 ((4 * ((setA (mMore μ p 9) 4 (4 * ((mMore μ p 9).1 3)) ((mOf (mMore μ p 9) p 3) - 1)).1 3)) + 1) (now (setA (mMore μ p 9) 4 (4 * ((mMore μ p 9).1 3)) ((mOf (mMore μ p 9) p 3) - 1)) (v2 + 1))) (v2 + 2))) 4 ((4 * ((setA (setA (setA (mMore μ p 9) 4 (4 * ((mMore μ p 9).1 3)) ((mOf (mMore μ p 9) p 3) - 1)) 4 ((4 * ((setA (mMore μ p 9) 4 (4 * ((mMore μ p 9).1 3)) ((mOf (mMore μ p 9) p 3) - 1)).1 3)) + 1) (now (setA (mMore μ p 9) 4 (4 * ((mMore μ p 9).1 3)) ((mOf (mMore μ p 9) p 3) - 1)) (v2 + 1))) 4 ((4 * ((setA (setA (mMore μ p 9) 4 (4 * ((mMore μ p 9).1 3)) ((mOf (mMore μ p 9) p 3) - 1)) 4 ((4 * ((setA (mMore μ p 9) 4 (4 * ((mMore μ p 9).1 3)) ((mOf (mMore μ p 9) p 3) - 1)).1 3)) + 1) (now (setA (mMore μ p 9) 4 (4 * ((mMore μ p 9).1 3)) ((mOf (mMore μ p 9) p 3) - 1)) (v2 + 1))).1 3)) + 2) (now (setA (setA (mMore μ p 9) 4 (4 * ((mMore μ p 9).1 3)) ((mOf (mMore μ p 9) p 3) - 1)) 4 ((4 * ((setA (mMore μ p 9) 4 (4 * ((mMore μ p 9).1 3)) ((mOf (mMore μ p 9) p 3) - 1)).1 3)) + 1) (now (setA (mMore μ p 9) 4 (4 * ((mMore μ p 9).1 3)) ((mOf (mMore μ p 9) p 3) - 1)) (v2 + 1))) (v2 + 2))).1 3)) + 3) (now (setA (setA (setA (mMore μ p 9) 4 (4 * ((mMore μ p 9).1 3)) ((mOf (mMore μ p 9) p 3) - 1)) 4 ((4 * ((setA (mMore μ p 9) 4 (4 * ((mMore μ p 9).1 3)) ((mOf (mMore μ p 9) p 3) - 1)).1 3)) + 1) (now (setA (mMore μ p 9) 4 (4 * ((mMore μ p 9).1 3)) ((mOf (mMore μ p 9) p 3) - 1)) (v2 + 1))) 4 ((4 * ((setA (setA (mMore μ p 9) 4 (4 * ((mMore μ p 9).1 3)) ((mOf (mMore μ p 9) p 3) - 1)) 4 ((4 * ((setA (mMore μ p 9) 4 (4 * ((mMore μ p 9).1 3)) ((mOf (mMore μ p 9) p 3) - 1)).1 3)) + 1) (now (setA (mMore μ p 9) 4 (4 * ((mMore μ p 9).1 3)) ((mOf (mMore μ p 9) p 3) - 1)) (v2 + 1))).1 3)) + 2) (now (setA (setA (mMore μ p 9) 4 (4 * ((mMore μ p 9).1 3)) ((mOf (mMore μ p 9) p 3) - 1)) 4 ((4 * ((setA (mMore μ p 9) 4 (4 * ((mMore μ p 9).1 3)) ((mOf (mMore μ p 9) p 3) - 1)).1 3)) + 1) (now (setA (mMore μ p 9) 4 (4 * ((mMore μ p 9).1 3)) ((mOf (mMore μ p 9) p 3) - 1)) (v2 + 1))) (v2 + 2))) (v2 + 3))).1 3) + 1)) p 5) - 1)) = γ := ⟨_, rfl⟩
    have h5 : mOf γ p 5 = mOf μ p 5 - 1 := by
      rw [← hγ, of_to5 hp]
      show mOf (mMore μ p 9) p 5 - 1 = _
      rw [of_more5 (w := 9) hp ⟨9, by decide, rfl⟩]
    refine j_heap (h' := mput D h b γ) (congrArg (mput D h b) hγ) ?_
    have h5w : WH (mOf γ p 5) 12 := by rw [h5]; exact wh_dec (mi_many hp hI) hpos
    obtain ⟨c0, hc0⟩ : ∃ c0 : Nat, v2 = nI c0 ∧ 168 ≤ c0 ∧ c0 ≤ 552 := ⟨_, by rw [← ev2, ← ev1]; exact qc_nI (n := 12) hp h0k (by decide)⟩
    obtain ⟨E0, hE0⟩ : ∃ E0 : Nat, mQc p (mOf γ p 5) = nI E0 ∧ 168 ≤ E0 ∧ E0 ≤ 552 := ⟨_, qc_nI (n := 12) hp h5w (by decide)⟩
    have e1 : mSd γ p v2 = mar γ 0 (blk (γ.2 0) (fun i => γ.2 0 (c0 + 4 + i)) c0 (E0 - c0)) := by unfold mSd; rw [hE0.1, hc0.1, nI_clamp (by omega), nI_clamp (by omega)]
    refine j_iload_n X 0 dX10_sends_146 rfl rfl ?_
    refine j_istore X (L' := [(4, .int v2), (3, .int v2), (2, .int v1), (0, .ref b), (1, .int p)]) dX10_sends_147 (by decide) rfl ?_
    refine j_sub [3, 4, 2, 1, 0] (L' := [(0, .ref b), (1, .int p), (2, .int v1), (3, .int v2), (4, .int (nI (c0 + 0)))]) (by rw [Nat.add_zero, ← hc0.1]; rfl) ?_
    have loop149 : ∀ (n k : Nat), k + n = (E0 - c0) → J P l E { frames := 2, cells := 0, slots := 0, locals := 48 } S0 M0 AR BL ME CO D B 5 (MQ BL (QC none D B (z + 0) (mput D h b (mSends μ p))) AR S0 0 0 (aB B)) 0 0 z (mput D h b (mar γ 0 (blk (γ.2 0) (fun i => γ.2 0 (c0 + 4 + i)) c0 k))) [(0, .ref b), (1, .int p), (2, .int v1), (3, .int v2), (4, .int (nI (c0 + k)))] [] 149 := by
      intro n
      induction n with
      | zero =>
        intro k hk
        obtain rfl : k = (E0 - c0) := by omega
        refine j_iload X 4 dX10_sends_149 rfl ?_
        refine j_aload_n X 0 dX10_sends_151 rfl rfl ?_
        refine j_iload_n X 1 dX10_sends_152 rfl rfl ?_
        refine j_aload_n X 0 dX10_sends_153 rfl rfl ?_
        refine j_iload_n X 1 dX10_sends_154 rfl rfl ?_
        refine j_iconst X (v := 5) dX10_sends_155 (by decide) ?_
        refine j_callVi X (rest := [.int p, .ref b, .int (nI (c0 + (E0 - c0)))]) (c_X10_of l hp (show WH 5 _ from ⟨5, by decide, rfl⟩)) m_yX10_of kM_RX10_44 mput_0 rfl rfl rfl rfl rfl (Nat.le_of_ble_eq_true rfl) ⟨Nat.le_of_ble_eq_true rfl, Nat.le_of_ble_eq_true rfl, Nat.le_of_ble_eq_true rfl, Nat.le_of_ble_eq_true rfl⟩ dX10_sends_156 ?_
        refine j_callVi X (rest := [.int (nI (c0 + (E0 - c0)))]) (c_X10_queueCell l) m_yX10_queueCell kM_RX10_80 mput_0 rfl rfl rfl rfl rfl (Nat.le_of_ble_eq_true rfl) ⟨Nat.le_of_ble_eq_true rfl, Nat.le_of_ble_eq_true rfl, Nat.le_of_ble_eq_true rfl, Nat.le_of_ble_eq_true rfl⟩ dX10_sends_159 ?_
        refine j_icmp_ge X (tgt := 187) dX10_sends_162 (by decide) (fun c_162 => ?_) (fun c_162 => absurd c_162 (by rw [of_mar hp (by omega) rfl, hE0.1]; exact nI_nlt (by omega) (by omega)))
        exact j_vret X hr rfl (by rw [← e1, ← hγ, ← ev2, ← ev1, mSends, mSb, if_pos c_27]; rfl) dX10_sends_187
      | succ n ih =>
        intro k hk
        refine j_iload X 4 dX10_sends_149 rfl ?_
        refine j_aload_n X 0 dX10_sends_151 rfl rfl ?_
        refine j_iload_n X 1 dX10_sends_152 rfl rfl ?_
        refine j_aload_n X 0 dX10_sends_153 rfl rfl ?_
        refine j_iload_n X 1 dX10_sends_154 rfl rfl ?_
        refine j_iconst X (v := 5) dX10_sends_155 (by decide) ?_
        refine j_callVi X (rest := [.int p, .ref b, .int (nI (c0 + k))]) (c_X10_of l hp (show WH 5 _ from ⟨5, by decide, rfl⟩)) m_yX10_of kM_RX10_44 mput_0 rfl rfl rfl rfl rfl (Nat.le_of_ble_eq_true rfl) ⟨Nat.le_of_ble_eq_true rfl, Nat.le_of_ble_eq_true rfl, Nat.le_of_ble_eq_true rfl, Nat.le_of_ble_eq_true rfl⟩ dX10_sends_156 ?_
        refine j_callVi X (rest := [.int (nI (c0 + k))]) (c_X10_queueCell l) m_yX10_queueCell kM_RX10_80 mput_0 rfl rfl rfl rfl rfl (Nat.le_of_ble_eq_true rfl) ⟨Nat.le_of_ble_eq_true rfl, Nat.le_of_ble_eq_true rfl, Nat.le_of_ble_eq_true rfl, Nat.le_of_ble_eq_true rfl⟩ dX10_sends_159 ?_
        refine j_icmp_ge X (tgt := 187) dX10_sends_162 (by decide) (fun c_162 => absurd (show nI (c0 + k) < mQc p (mOf (mar γ 0 (blk (γ.2 0) (fun i => γ.2 0 (c0 + 4 + i)) c0 k)) p 5) by rw [of_mar hp (by omega) rfl, hE0.1]; exact nI_lt (by omega) (by omega)) c_162) (fun c_162 => ?_)
        refine j_aload_n X 0 dX10_sends_165 rfl rfl ?_
        refine j_get X fG_RX10_7 mput_0 rfl rfl dX10_sends_166 ?_
        refine j_iload X 4 dX10_sends_169 rfl ?_
        refine j_aload_n X 0 dX10_sends_171 rfl rfl ?_
        refine j_get X fG_RX10_7 mput_0 rfl rfl dX10_sends_172 ?_
        refine j_iload X 4 dX10_sends_175 rfl ?_
        refine j_iconst X (v := 4) dX10_sends_177 (by decide) ?_
        refine j_iadd X dX10_sends_178 ?_
        refine j_ldM X (by rw [show (4 : Int32) = nI 4 from rfl, nI_add]; exact vp_in_nI (by omega) (by decide)) dX10_sends_179 ?_
        refine j_stM X (vp_in_nI (by omega) (by decide)) dX10_sends_180 ?_
        obtain ⟨v4, ev4⟩ : ∃ y : Int32, (nI (c0 + k)) + 1 = y := ⟨_, rfl⟩
        refine j_iinc X 4 (k := 1) (v := v4) (L' := [(4, .int v4), (0, .ref b), (1, .int p), (2, .int v1), (3, .int v2)]) dX10_sends_181 rfl (by decide) (by decide) ev4 rfl ?_
        refine j_goto X (tgt := 149) dX10_sends_184 (by decide) ?_
        refine j_sub [1, 2, 3, 4, 0] (L' := [(0, .ref b), (1, .int p), (2, .int v1), (3, .int v2), (4, .int (nI (c0 + (k + 1))))]) (by rw [← ev4, ← nI_succ]; rfl) ?_
        refine j_heap (h' := mput D h b (mar γ 0 (blk (γ.2 0) (fun i => γ.2 0 (c0 + 4 + i)) c0 (k + 1)))) (congrArg (mput D h b) (cp_at (a := 0) (i := nI (c0 + k)) (n := c0) (k := k) (nI_clamp (n := c0 + k) (by omega)) (by rw [show (4 : Int32) = nI 4 from rfl, nI_add, now_nI (by omega), mar_at, blk_out (by omega)]; exact congrArg (γ.2 0) (by omega)))) ?_
        exact ih (k + 1) (by omega)
    refine j_sub [0, 1, 2, 3, 4] (L' := [(0, .ref b), (1, .int p), (2, .int v1), (3, .int v2), (4, .int (nI (c0 + 0)))]) (by subst hγ ev2 ev1; first | with_reducible rfl | (simp only [if_pos c_27]; done) | (simp only [if_pos c_27]; rfl) | rfl) ?_
    refine j_heap (h' := mput D h b (mar γ 0 (blk (γ.2 0) (fun i => γ.2 0 (c0 + 4 + i)) c0 0))) (congrArg (mput D h b) cp_0) ?_
    exact loop149 (E0 - c0) 0 (by omega)
