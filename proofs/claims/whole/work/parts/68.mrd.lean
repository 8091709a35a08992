set_option maxRecDepth 100000 in
set_option maxHeartbeats 1000000 in
theorem c_X10_readFrames (l : Launch) {D : DD} {B z : Nat} {h : HF} {b : Nat} {μ : Mo} {q : Nat} (hq : q ≤ 4) (eq : μ.1 0 = nI q) {m R C : Nat} (hm : m ≤ 70) (h4 : μ.1 4 = nI m) (hG : GBf R C (μ.2 0))  : CT l yX10_readFrames cX10_readFrames 5 (some .int) 4 99 [.ref b] D B z (mput D h b μ) (some (.int ((mRead μ).1))) 0 0 (mput D h b ((mRead μ).2)) := by
  refine CT.of (L := [(0, .ref b)]) (by decide +kernel) (Nat.le_of_ble_eq_true rfl) rfl ?_
  intro P E S0 M0 AR BL ME CO X hr hnm
  refine j_aload_n X 0 dX10_readFrames_0 rfl rfl ?_
  refine j_iconst X (v := 0) dX10_readFrames_1 (by decide) ?_
  refine j_put X fG_RX10_127 fW_10_11 mput_0 rfl rfl rfl (Nat.le_of_ble_eq_true rfl) dX10_readFrames_2 ?_
  refine j_heap (h' := mput D h b (msc μ 5 0)) mput_s5 ?_
  refine j_aload_n X 0 dX10_readFrames_5 rfl rfl ?_
  refine j_iconst X (v := 0) dX10_readFrames_6 (by decide) ?_
  refine j_put X fG_RX10_133 fW_10_12 mput_0 rfl rfl rfl (Nat.le_of_ble_eq_true rfl) dX10_readFrames_7 ?_
  refine j_heap (h' := mput D h b (msc (msc μ 5 0) 6 0)) mput_s6 ?_
  refine j_iconst X (v := 1) dX10_readFrames_10 (by decide) ?_
  refine j_istore_n X (L' := [(1, .int 1), (0, .ref b)]) dX10_readFrames_11 rfl (by decide) rfl ?_
  have loop12 : ∀ (n : Nat) (ν : Mo) (k a : Nat), k + n = 13 → 6 * k ≤ a → IN ν m a k → KP μ ν → mRF n ν = mRds μ → J P l E { frames := 4, cells := 0, slots := 0, locals := 99 } S0 M0 AR BL ME CO D B 5 (MQ BL (QC (some (.int ((mRead μ).1))) D B (z + 0) (mput D h b ((mRead μ).2))) AR S0 0 0 (aB B)) 0 0 z (mput D h b ν) [(0, .ref b), (1, .int 1)] [] 12 := by
    intro n
    induction n with
    | zero =>
      intro ν k a hkn ha hi hkp hq0
      exact absurd hi.1.1 (by have := hi.1.2.1; omega)
    | succ n ih =>
      intro ν k a hkn ha hi hkp hq0
      have hT := ta_tx hi.1
      have hR : ∃ r : Nat, r ≤ 12 ∧ ν.1 6 = nI r := ⟨k, by omega, hi.1.2.2.2.2⟩
      have hrs := rs_reads (by omega) hi
      refine j_iload_n X 1 dX10_readFrames_12 rfl rfl ?_
      refine j_if_eq X (tgt := 69) dX10_readFrames_13 (by decide) (fun c_ => absurd c_ (by decide)) (fun _ => ?_)
      refine j_aload_n X 0 dX10_readFrames_16 rfl rfl ?_
      refine j_callVi X (rest := []) (c_X10_readsFrame l hT hR) m_yX10_readsFrame kM_RX10_143 mput_0 rfl rfl rfl rfl rfl (Nat.le_of_ble_eq_true rfl) ⟨Nat.le_of_ble_eq_true rfl, Nat.le_of_ble_eq_true rfl, Nat.le_of_ble_eq_true rfl, Nat.le_of_ble_eq_true rfl⟩ dX10_readFrames_17 ?_
      refine j_if_ne X (tgt := 31) dX10_readFrames_20 (by decide) (fun c_20 => ?_) (fun c_20 => ?_)
      · refine j_aload_n X 0 dX10_readFrames_31 rfl rfl ?_
        refine j_get X fG_RX10_127 mput_0 rfl rfl dX10_readFrames_32 ?_
        refine j_aload_n X 0 dX10_readFrames_35 rfl rfl ?_
        refine j_get X fG_RX10_124 mput_0 rfl rfl dX10_readFrames_36 ?_
        refine j_icmp_ge X (tgt := 46) dX10_readFrames_39 (by decide) (fun c_39 => ?_) (fun c_39 => ?_)
        · refine j_iconst X (v := 0) dX10_readFrames_46 (by decide) ?_
          refine j_istore_n X (L' := [(1, .int 0), (0, .ref b)]) dX10_readFrames_47 rfl (by decide) rfl ?_
          refine j_aload_n X 1 dX10_readFrames_48 rfl rfl ?_
          refine j_dup X dX10_readFrames_49 rfl ?_
          refine j_get X fG_RX10_127 mput_0 rfl rfl dX10_readFrames_50 ?_
          refine j_iload_n X 0 dX10_readFrames_53 rfl rfl ?_
          refine j_if_eq X (tgt := 61) dX10_readFrames_54 (by decide) (fun _ => ?_) (fun c_ => absurd (by decide) c_)
          refine j_iconst X (v := 0) dX10_readFrames_61 (by decide) ?_
          refine j_iadd X dX10_readFrames_62 ?_
          refine j_put X fG_RX10_127 fW_10_11 mput_0 rfl rfl rfl (Nat.le_of_ble_eq_true rfl) dX10_readFrames_63 ?_
          refine j_heap (h' := mput D h b (msc ((mReads ν).2) 5 ((((mReads ν).2).1 5) + 0))) mput_s5 ?_
          refine j_goto X (tgt := 12) dX10_readFrames_66 (by decide) ?_
          refine j_iload_n X 0 dX10_readFrames_12 rfl rfl ?_
          refine j_if_eq X (tgt := 69) dX10_readFrames_13 (by decide) (fun _ => ?_) (fun c_ => absurd (by decide) c_)
          have hF : mRds μ = (1, (msc ((mReads ν).2) 5 ((((mReads ν).2).1 5) + 0))) := by rw [← hq0, mRF, if_neg c_20, if_neg c_39]
          have hok := rds_ok hm h4
          rw [hF] at hok
          obtain ⟨r, a3, hr12, hIN0⟩ := hok.2 (show ¬ (1 : Int32) = 0 by decide)
          have hIN : IN (msc ((mReads ν).2) 5 ((((mReads ν).2).1 5) + 0)) m a3 r := hIN0
          have hKP : KP μ (msc ((mReads ν).2) 5 ((((mReads ν).2).1 5) + 0)) := hok.1
          clear hok hIN0
          obtain ⟨ρ, hρ⟩ : ∃ ρ : Mo, (msc ((mReads ν).2) 5 ((((mReads ν).2).1 5) + 0)) = ρ := ⟨_, rfl⟩
          rw [hρ] at hF hIN hKP
          refine j_heap (h' := mput D h b ρ) (congrArg (mput D h b) hρ) ?_
          have eq : ρ.1 0 = nI q := (hKP.1 0 (by decide) (by decide)).trans eq
          refine j_aload_n X 1 dX10_readFrames_69 rfl rfl ?_
          refine j_callVv X (rest := []) (c_X10_record l hq eq) m_yX10_record kM_RX10_55 mput_0 rfl rfl rfl rfl rfl (Nat.le_of_ble_eq_true rfl) ⟨Nat.le_of_ble_eq_true rfl, Nat.le_of_ble_eq_true rfl, Nat.le_of_ble_eq_true rfl, Nat.le_of_ble_eq_true rfl⟩ dX10_readFrames_70 ?_
          have hG2 : GBf R C ((mRec ρ).2 0) := gb_rec (by rw [hKP.2 0 (by decide)]; exact hG)
          have hI2 := in_rec_ hIN
          obtain ⟨ν2, hν2⟩ : ∃ ν2 : Mo, mRec ρ = ν2 := ⟨_, rfl⟩
          rw [hν2] at hG2 hI2
          have eM : mRead μ = mIns ν2 r := by
            unfold mRead
            rw [hF]
            refine (if_neg (show ¬ (1 : Int32) = 0 by decide)).trans ?_
            show mIns (mRec ρ) (ρ.1 6).toNatClampNeg = _
            rw [hν2, hIN.1.2.2.2.2, nI_clamp (by omega)]
          refine j_heap (h' := mput D h b ν2) (congrArg (mput D h b) hν2) ?_
          refine j_iconst X (v := 0) dX10_readFrames_73 (by decide) ?_
          refine j_istore_n X (L' := [(2, .int 0), (1, .int 0), (0, .ref b)]) dX10_readFrames_74 rfl (by decide) rfl ?_
          refine j_iconst X (v := 0) dX10_readFrames_75 (by decide) ?_
          refine j_istore_n X (L' := [(3, .int 0), (2, .int 0), (1, .int 0), (0, .ref b)]) dX10_readFrames_76 rfl (by decide) rfl ?_
          have loop77 : ∀ (n k : Nat), k + n = r → J P l E { frames := 4, cells := 0, slots := 0, locals := 99 } S0 M0 AR BL ME CO D B 5 (MQ BL (QC (some (.int ((mRead μ).1))) D B (z + 0) (mput D h b ((mRead μ).2))) AR S0 0 0 (aB B)) 0 0 z (mput D h b ((mIns ν2 k).2)) [(0, .ref b), (2, .int ((mIns ν2 k).1)), (3, .int (nI k))] [] 77 := by
            intro n
            induction n with
            | zero =>
              intro k hk
              obtain rfl : r = k := by omega
              refine j_iload_n X 2 dX10_readFrames_77 rfl rfl ?_
              refine j_aload_n X 0 dX10_readFrames_78 rfl rfl ?_
              refine j_get X fG_RX10_133 mput_0 rfl rfl dX10_readFrames_79 ?_
              refine j_icmp_ge X (tgt := 148) dX10_readFrames_82 (by decide) (fun c_82 => ?_) (fun c_82 => absurd c_82 (by rw [ins_n hG2 hI2 hr12 (by omega)]; exact nI_nlt (by omega) (by omega)))
              refine j_iload_n X 1 dX10_readFrames_148 rfl rfl ?_
              exact j_iret X hr rfl (by rw [eM]) rfl (by rw [eM]) dX10_readFrames_149
            | succ n ih =>
              intro k hk
              refine j_iload_n X 2 dX10_readFrames_77 rfl rfl ?_
              refine j_aload_n X 0 dX10_readFrames_78 rfl rfl ?_
              refine j_get X fG_RX10_133 mput_0 rfl rfl dX10_readFrames_79 ?_
              refine j_icmp_ge X (tgt := 148) dX10_readFrames_82 (by decide) (fun c_82 => absurd (show nI k < _ by rw [ins_n hG2 hI2 hr12 (by omega)]; exact nI_lt (by omega) (by omega)) c_82) (fun c_82 => ?_)
              have hA := ga_ins hG2 hI2 hr12 k (by omega)
              obtain ⟨hw3, hw0, hw1, hw2⟩ := rd_at hI2 hr12 hA (k := k) (by omega)
              refine j_aload_n X 0 dX10_readFrames_85 rfl rfl ?_
              refine j_aload_n X 0 dX10_readFrames_86 rfl rfl ?_
              refine j_get X fG_RX10_29 mput_0 rfl rfl dX10_readFrames_87 ?_
              refine j_iconst X (v := 4) dX10_readFrames_90 (by decide) ?_
              refine j_iload_n X 2 dX10_readFrames_91 rfl rfl ?_
              refine j_imul X dX10_readFrames_92 ?_
              refine j_iconst X (v := 3) dX10_readFrames_93 (by decide) ?_
              refine j_iadd X dX10_readFrames_94 ?_
              refine j_ldA6 X (in_rf 3 (by decide) ⟨k, by omega, rfl⟩) dX10_readFrames_95 ?_
              refine j_aload_n X 0 dX10_readFrames_96 rfl rfl ?_
              refine j_get X fG_RX10_29 mput_0 rfl rfl dX10_readFrames_97 ?_
              refine j_iconst X (v := 4) dX10_readFrames_100 (by decide) ?_
              refine j_iload_n X 2 dX10_readFrames_101 rfl rfl ?_
              refine j_imul X dX10_readFrames_102 ?_
              refine j_ldA6 X (in_rf0 ⟨k, by omega, rfl⟩) dX10_readFrames_103 ?_
              refine j_aload_n X 0 dX10_readFrames_104 rfl rfl ?_
              refine j_get X fG_RX10_29 mput_0 rfl rfl dX10_readFrames_105 ?_
              refine j_iconst X (v := 4) dX10_readFrames_108 (by decide) ?_
              refine j_iload_n X 2 dX10_readFrames_109 rfl rfl ?_
              refine j_imul X dX10_readFrames_110 ?_
              refine j_iconst X (v := 1) dX10_readFrames_111 (by decide) ?_
              refine j_iadd X dX10_readFrames_112 ?_
              refine j_ldA6 X (in_rf 1 (by decide) ⟨k, by omega, rfl⟩) dX10_readFrames_113 ?_
              refine j_aload_n X 0 dX10_readFrames_114 rfl rfl ?_
              refine j_get X fG_RX10_29 mput_0 rfl rfl dX10_readFrames_115 ?_
              refine j_iconst X (v := 4) dX10_readFrames_118 (by decide) ?_
              refine j_iload_n X 2 dX10_readFrames_119 rfl rfl ?_
              refine j_imul X dX10_readFrames_120 ?_
              refine j_iconst X (v := 2) dX10_readFrames_121 (by decide) ?_
              refine j_iadd X dX10_readFrames_122 ?_
              refine j_ldA6 X (in_rf 2 (by decide) ⟨k, by omega, rfl⟩) dX10_readFrames_123 ?_
              refine j_callVi X (rest := []) (c_X10_comesIn l hw3 hw0 hw1 hA.1) m_yX10_comesIn kM_RX10_109 mput_0 rfl rfl rfl rfl rfl (Nat.le_of_ble_eq_true rfl) ⟨Nat.le_of_ble_eq_true rfl, Nat.le_of_ble_eq_true rfl, Nat.le_of_ble_eq_true rfl, Nat.le_of_ble_eq_true rfl⟩ dX10_readFrames_124 ?_
              refine j_tops (fun v1 ev1 => ?_)
              refine j_istore X (L' := [(4, .int v1), (0, .ref b), (2, .int ((mIns ν2 k).1)), (3, .int (nI k))]) dX10_readFrames_127 (by decide) rfl ?_
              refine j_iload_n X 2 dX10_readFrames_129 rfl rfl ?_
              refine j_iload X 0 dX10_readFrames_130 rfl ?_
              refine j_if_ne X (tgt := 139) dX10_readFrames_132 (by decide) (fun c_132 => ?_) (fun c_132 => ?_)
              · refine j_iconst X (v := 1) dX10_readFrames_139 (by decide) ?_
                refine j_iadd X dX10_readFrames_140 ?_
                refine j_tops (fun v2 ev2 => ?_)
                refine j_istore_n X (L' := [(2, .int v2), (4, .int v1), (0, .ref b), (3, .int (nI k))]) dX10_readFrames_141 rfl (by decide) rfl ?_
                obtain ⟨v3, ev3⟩ : ∃ y : Int32, (nI k) + 1 = y := ⟨_, rfl⟩
                refine j_iinc X 3 (k := 1) (v := v3) (L' := [(3, .int v3), (2, .int v2), (4, .int v1), (0, .ref b)]) dX10_readFrames_142 rfl (by decide) (by decide) ev3 rfl ?_
                refine j_goto X (tgt := 77) dX10_readFrames_145 (by decide) ?_
                refine j_sub [3, 1, 0] (L' := [(0, .ref b), (2, .int ((mIns ν2 (k + 1)).1)), (3, .int (nI (k + 1)))]) (by subst ev3 ev2 ev1; first | with_reducible rfl | (simp only [mIns, nI_succ k, if_neg c_20, if_neg c_39, if_pos c_82, if_neg c_132]; done) | (simp only [mIns, nI_succ k, if_neg c_20, if_neg c_39, if_pos c_82, if_neg c_132]; rfl) | rfl) ?_
                refine j_heap (h' := mput D h b ((mIns ν2 (k + 1)).2)) (by subst ev3 ev2 ev1; first | with_reducible rfl | (simp only [mIns, nI_succ k, if_neg c_20, if_neg c_39, if_pos c_82, if_neg c_132]; done) | (simp only [mIns, nI_succ k, if_neg c_20, if_neg c_39, if_pos c_82, if_neg c_132]; rfl) | rfl) ?_
                exact ih (k + 1) (by omega)
              · refine j_iconst X (v := 0) dX10_readFrames_135 (by decide) ?_
                refine j_goto X (tgt := 140) dX10_readFrames_136 (by decide) ?_
                refine j_iadd X dX10_readFrames_140 ?_
                refine j_tops (fun v4 ev4 => ?_)
                refine j_istore_n X (L' := [(2, .int v4), (4, .int v1), (0, .ref b), (3, .int (nI k))]) dX10_readFrames_141 rfl (by decide) rfl ?_
                obtain ⟨v5, ev5⟩ : ∃ y : Int32, (nI k) + 1 = y := ⟨_, rfl⟩
                refine j_iinc X 3 (k := 1) (v := v5) (L' := [(3, .int v5), (2, .int v4), (4, .int v1), (0, .ref b)]) dX10_readFrames_142 rfl (by decide) (by decide) ev5 rfl ?_
                refine j_goto X (tgt := 77) dX10_readFrames_145 (by decide) ?_
                refine j_sub [3, 1, 0] (L' := [(0, .ref b), (2, .int ((mIns ν2 (k + 1)).1)), (3, .int (nI (k + 1)))]) (by subst ev5 ev4 ev1; first | with_reducible rfl | (simp only [mIns, nI_succ k, if_neg c_20, if_neg c_39, if_pos c_82, if_pos c_132]; done) | (simp only [mIns, nI_succ k, if_neg c_20, if_neg c_39, if_pos c_82, if_pos c_132]; rfl) | rfl) ?_
                refine j_heap (h' := mput D h b ((mIns ν2 (k + 1)).2)) (by subst ev5 ev4 ev1; first | with_reducible rfl | (simp only [mIns, nI_succ k, if_neg c_20, if_neg c_39, if_pos c_82, if_pos c_132]; done) | (simp only [mIns, nI_succ k, if_neg c_20, if_neg c_39, if_pos c_82, if_pos c_132]; rfl) | rfl) ?_
                exact ih (k + 1) (by omega)
          refine j_sub [3, 1, 0] (L' := [(0, .ref b), (2, .int ((mIns ν2 0).1)), (3, .int (nI 0))]) (by first | with_reducible rfl | (simp only [mIns, if_neg c_20, if_neg c_39]; done) | (simp only [mIns, if_neg c_20, if_neg c_39]; rfl) | rfl) ?_
          refine j_heap (h' := mput D h b ((mIns ν2 0).2)) (by first | with_reducible rfl | (simp only [mIns, if_neg c_20, if_neg c_39]; done) | (simp only [mIns, if_neg c_20, if_neg c_39]; rfl) | rfl) ?_
          exact loop77 r 0 (by omega)
        · refine j_iconst X (v := 1) dX10_readFrames_42 (by decide) ?_
          refine j_goto X (tgt := 47) dX10_readFrames_43 (by decide) ?_
          refine j_istore_n X (L' := [(1, .int 1), (0, .ref b)]) dX10_readFrames_47 rfl (by decide) rfl ?_
          refine j_aload_n X 1 dX10_readFrames_48 rfl rfl ?_
          refine j_dup X dX10_readFrames_49 rfl ?_
          refine j_get X fG_RX10_127 mput_0 rfl rfl dX10_readFrames_50 ?_
          refine j_iload_n X 0 dX10_readFrames_53 rfl rfl ?_
          refine j_if_eq X (tgt := 61) dX10_readFrames_54 (by decide) (fun c_ => absurd c_ (by decide)) (fun _ => ?_)
          refine j_iconst X (v := 1) dX10_readFrames_57 (by decide) ?_
          refine j_goto X (tgt := 62) dX10_readFrames_58 (by decide) ?_
          refine j_iadd X dX10_readFrames_62 ?_
          refine j_put X fG_RX10_127 fW_10_11 mput_0 rfl rfl rfl (Nat.le_of_ble_eq_true rfl) dX10_readFrames_63 ?_
          refine j_heap (h' := mput D h b (msc ((mReads ν).2) 5 ((((mReads ν).2).1 5) + 1))) mput_s5 ?_
          refine j_goto X (tgt := 12) dX10_readFrames_66 (by decide) ?_
          obtain ⟨a2, q1, q2⟩ := hrs.2 c_20
          refine j_sub [1, 0] (L' := [(0, .ref b), (1, .int 1)]) rfl ?_
          exact ih _ (k + 1) (a2 + 1) (by omega) (by omega) ⟨ta_at q2.1 c_39, q2.2⟩ (kp_tr hkp (kp_tr hrs.1 kp_5)) (by rw [← hq0, mRF, if_neg c_20, if_pos c_39])
      · have eM0 : mRead μ = (-100 - (mReads ν).2.1 5, (mReads ν).2) := by
          unfold mRead
          rw [show mRds μ = (0, (mReads ν).2) by rw [← hq0, mRF, if_pos c_20]]
          exact if_pos (show (0 : Int32) = 0 from rfl)
        refine j_bipush X (v := (-100)) dX10_readFrames_23 (by decide) ?_
        refine j_aload_n X 0 dX10_readFrames_25 rfl rfl ?_
        refine j_get X fG_RX10_127 mput_0 rfl rfl dX10_readFrames_26 ?_
        refine j_isub X dX10_readFrames_29 ?_
        exact j_iret X hr rfl (by rw [eM0]) rfl (by rw [eM0]) dX10_readFrames_30
  refine j_sub [1, 0] (L' := [(0, .ref b), (1, .int 1)]) rfl ?_
  exact loop12 13 _ 0 0 rfl (by decide) ⟨⟨Nat.zero_le m, hm, h4, rfl, rfl⟩, fun j hj => absurd hj (Nat.not_lt_zero j)⟩ (kp_tr kp_5 kp_6) rfl
