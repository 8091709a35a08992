set_option maxRecDepth 100000 in
set_option maxHeartbeats 2000000 in
theorem c_X10_atPlace (l : Launch) {D : DD} {B z : Nat} {h : HF} {b : Nat} {μ : Mo} {p w : Int32} (hp : PO p) (hm : WH (mOf μ p 5) 13)  : CT l yX10_atPlace cX10_atPlace 7 (some .int) 1 22 [.ref b, .int p, .int w] D B z (mput D h b μ) (some (.int (mAt μ p w))) 0 0 (mput D h b μ) := by
  refine CT.of (L := [(0, .ref b), (1, .int p), (2, .int w)]) (by decide +kernel) (Nat.le_of_ble_eq_true rfl) rfl ?_
  intro P E S0 M0 AR BL ME CO X hr hnm
  refine j_iconst X (v := 0) dX10_atPlace_0 (by decide) ?_
  refine j_istore_n X (L' := [(3, .int 0), (0, .ref b), (1, .int p), (2, .int w)]) dX10_atPlace_1 rfl (by decide) rfl ?_
  have hM : mMany μ p < 13 := many_le hm
  have loop : ∀ (n k : Nat), k + n = mMany μ p → mAtP μ p w n k = mAt μ p w → J P l E { frames := 1, cells := 0, slots := 0, locals := 22 } S0 M0 AR BL ME CO D B 7 (MQ BL (QC (some (.int (mAt μ p w))) D B (z + 0) (mput D h b μ)) AR S0 0 0 (aB B)) 0 0 z (mput D h b μ) [(0, .ref b), (1, .int p), (2, .int w), (3, .int (nI k))] [] 2 := by
    intro n
    induction n with
    | zero =>
      intro k hk hq
      obtain rfl : k = mMany μ p := by omega
      refine j_iload_n X 3 dX10_atPlace_2 rfl rfl ?_
      refine j_aload_n X 0 dX10_atPlace_3 rfl rfl ?_
      refine j_iload_n X 1 dX10_atPlace_4 rfl rfl ?_
      refine j_iconst X (v := 5) dX10_atPlace_5 (by decide) ?_
      refine j_callVi X (rest := [.int (nI (mMany μ p))]) (c_X10_of l hp (show WH 5 _ from ⟨5, by decide, rfl⟩)) m_yX10_of kM_RX10_44 mput_0 rfl rfl rfl rfl rfl (Nat.le_of_ble_eq_true rfl) ⟨Nat.le_of_ble_eq_true rfl, Nat.le_of_ble_eq_true rfl, Nat.le_of_ble_eq_true rfl, Nat.le_of_ble_eq_true rfl⟩ dX10_atPlace_6 ?_
      refine j_icmp_ge X (tgt := 125) dX10_atPlace_9 (by decide) (fun c_9 => ?_) (fun c_9 => absurd c_9 (cl_nlt (mOf μ p 5)))
      refine j_bipush X (v := (-4)) dX10_atPlace_125 (by decide) ?_
      exact j_iret X hr rfl (by rw [← hq]; rfl) rfl rfl dX10_atPlace_127
    | succ n ih =>
      intro k hk hq
      refine j_iload_n X 3 dX10_atPlace_2 rfl rfl ?_
      refine j_aload_n X 0 dX10_atPlace_3 rfl rfl ?_
      refine j_iload_n X 1 dX10_atPlace_4 rfl rfl ?_
      refine j_iconst X (v := 5) dX10_atPlace_5 (by decide) ?_
      refine j_callVi X (rest := [.int (nI k)]) (c_X10_of l hp (show WH 5 _ from ⟨5, by decide, rfl⟩)) m_yX10_of kM_RX10_44 mput_0 rfl rfl rfl rfl rfl (Nat.le_of_ble_eq_true rfl) ⟨Nat.le_of_ble_eq_true rfl, Nat.le_of_ble_eq_true rfl, Nat.le_of_ble_eq_true rfl, Nat.le_of_ble_eq_true rfl⟩ dX10_atPlace_6 ?_
      refine j_icmp_ge X (tgt := 125) dX10_atPlace_9 (by decide) (fun c_9 => absurd (cl_lt (x := mOf μ p 5) (by show _ < mMany μ p; omega)) c_9) (fun c_9 => ?_)
      refine j_iconst X (v := 0) dX10_atPlace_12 (by decide) ?_
      refine j_istore X (L' := [(4, .int 0), (0, .ref b), (1, .int p), (2, .int w), (3, .int (nI k))]) dX10_atPlace_13 (by decide) rfl ?_
      refine j_iconst X (v := 0) dX10_atPlace_15 (by decide) ?_
      refine j_istore X (L' := [(5, .int 0), (4, .int 0), (0, .ref b), (1, .int p), (2, .int w), (3, .int (nI k))]) dX10_atPlace_16 (by decide) rfl ?_
      have loop18 : ∀ (n j : Nat), j + n = (mMany μ p) → J P l E { frames := 1, cells := 0, slots := 0, locals := 22 } S0 M0 AR BL ME CO D B 7 (MQ BL (QC (some (.int (mAt μ p w))) D B (z + 0) (mput D h b μ)) AR S0 0 0 (aB B)) 0 0 z (mput D h b μ) [(0, .ref b), (1, .int p), (2, .int w), (3, .int (nI k)), (4, .int (mAhead μ p (nI k) j)), (5, .int (nI j))] [] 18 := by
        intro n
        induction n with
        | zero =>
          intro j hk
          obtain rfl : j = (mMany μ p) := by omega
          refine j_iload X 5 dX10_atPlace_18 rfl ?_
          refine j_aload_n X 0 dX10_atPlace_20 rfl rfl ?_
          refine j_iload_n X 1 dX10_atPlace_21 rfl rfl ?_
          refine j_iconst X (v := 5) dX10_atPlace_22 (by decide) ?_
          refine j_callVi X (rest := [.int (nI (mMany μ p))]) (c_X10_of l hp (show WH 5 _ from ⟨5, by decide, rfl⟩)) m_yX10_of kM_RX10_44 mput_0 rfl rfl rfl rfl rfl (Nat.le_of_ble_eq_true rfl) ⟨Nat.le_of_ble_eq_true rfl, Nat.le_of_ble_eq_true rfl, Nat.le_of_ble_eq_true rfl, Nat.le_of_ble_eq_true rfl⟩ dX10_atPlace_23 ?_
          refine j_icmp_ge X (tgt := 111) dX10_atPlace_26 (by decide) (fun c_26 => ?_) (fun c_26 => absurd c_26 (cl_nlt (mOf μ p 5)))
          refine j_iload X 4 dX10_atPlace_111 rfl ?_
          refine j_iload_n X 2 dX10_atPlace_113 rfl rfl ?_
          refine j_icmp_ne X (tgt := 119) dX10_atPlace_114 (by decide) (fun c_114 => ?_) (fun c_114 => ?_)
          · obtain ⟨v1, ev1⟩ : ∃ y : Int32, (nI k) + 1 = y := ⟨_, rfl⟩
            refine j_iinc X 3 (k := 1) (v := v1) (L' := [(3, .int v1), (0, .ref b), (1, .int p), (2, .int w), (4, .int (mAhead μ p (nI k) (mMany μ p))), (5, .int (nI (mMany μ p)))]) dX10_atPlace_119 rfl (by decide) (by decide) ev1 rfl ?_
            refine j_goto X (tgt := 2) dX10_atPlace_122 (by decide) ?_
            refine j_sub [1, 2, 3, 0] (L' := [(0, .ref b), (1, .int p), (2, .int w), (3, .int (nI (k + 1)))]) (by subst ev1; rw [nI_succ]; rfl) ?_
            exact ih (k + 1) (by omega) (by rw [← hq]; simp only [mAtP, if_neg c_114])
          · refine j_iload_n X 3 dX10_atPlace_117 rfl rfl ?_
            exact j_iret X hr rfl (by rw [← hq]; simp only [mAtP, if_pos c_114]) rfl rfl dX10_atPlace_118
        | succ n ih =>
          intro j hk
          refine j_iload X 5 dX10_atPlace_18 rfl ?_
          refine j_aload_n X 0 dX10_atPlace_20 rfl rfl ?_
          refine j_iload_n X 1 dX10_atPlace_21 rfl rfl ?_
          refine j_iconst X (v := 5) dX10_atPlace_22 (by decide) ?_
          refine j_callVi X (rest := [.int (nI j)]) (c_X10_of l hp (show WH 5 _ from ⟨5, by decide, rfl⟩)) m_yX10_of kM_RX10_44 mput_0 rfl rfl rfl rfl rfl (Nat.le_of_ble_eq_true rfl) ⟨Nat.le_of_ble_eq_true rfl, Nat.le_of_ble_eq_true rfl, Nat.le_of_ble_eq_true rfl, Nat.le_of_ble_eq_true rfl⟩ dX10_atPlace_23 ?_
          refine j_icmp_ge X (tgt := 111) dX10_atPlace_26 (by decide) (fun c_26 => absurd (cl_lt (x := mOf μ p 5) (by show _ < mMany μ p; omega)) c_26) (fun c_26 => ?_)
          refine j_aload_n X 0 dX10_atPlace_29 rfl rfl ?_
          refine j_get X fG_RX10_7 mput_0 rfl rfl dX10_atPlace_30 ?_
          refine j_aload_n X 0 dX10_atPlace_33 rfl rfl ?_
          refine j_iload_n X 1 dX10_atPlace_34 rfl rfl ?_
          refine j_iload X 5 dX10_atPlace_35 rfl ?_
          refine j_callVi X (rest := [.ref (b + 1)]) (c_X10_queueCell l) m_yX10_queueCell kM_RX10_80 mput_0 rfl rfl rfl rfl rfl (Nat.le_of_ble_eq_true rfl) ⟨Nat.le_of_ble_eq_true rfl, Nat.le_of_ble_eq_true rfl, Nat.le_of_ble_eq_true rfl, Nat.le_of_ble_eq_true rfl⟩ dX10_atPlace_37 ?_
          refine j_iconst X (v := 3) dX10_atPlace_40 (by decide) ?_
          refine j_iadd X dX10_atPlace_41 ?_
          refine j_ldM X (in_qc 3 (by decide) hp ⟨_, by omega, rfl⟩) dX10_atPlace_42 ?_
          refine j_aload_n X 0 dX10_atPlace_43 rfl rfl ?_
          refine j_get X fG_RX10_7 mput_0 rfl rfl dX10_atPlace_44 ?_
          refine j_aload_n X 0 dX10_atPlace_47 rfl rfl ?_
          refine j_iload_n X 1 dX10_atPlace_48 rfl rfl ?_
          refine j_iload_n X 3 dX10_atPlace_49 rfl rfl ?_
          refine j_callVi X (rest := [.ref (b + 1), .int (now μ ((mQc p (nI j)) + 3))]) (c_X10_queueCell l) m_yX10_queueCell kM_RX10_80 mput_0 rfl rfl rfl rfl rfl (Nat.le_of_ble_eq_true rfl) ⟨Nat.le_of_ble_eq_true rfl, Nat.le_of_ble_eq_true rfl, Nat.le_of_ble_eq_true rfl, Nat.le_of_ble_eq_true rfl⟩ dX10_atPlace_50 ?_
          refine j_iconst X (v := 3) dX10_atPlace_53 (by decide) ?_
          refine j_iadd X dX10_atPlace_54 ?_
          refine j_ldM X (in_qc 3 (by decide) hp ⟨_, by omega, rfl⟩) dX10_atPlace_55 ?_
          refine j_isub X dX10_atPlace_56 ?_
          refine j_tops (fun v2 ev2 => ?_)
          refine j_istore X (L' := [(6, .int v2), (0, .ref b), (1, .int p), (2, .int w), (3, .int (nI k)), (4, .int (mAhead μ p (nI k) j)), (5, .int (nI j))]) dX10_atPlace_57 (by decide) rfl ?_
          refine j_iload X 5 dX10_atPlace_59 rfl ?_
          refine j_iload X 0 dX10_atPlace_61 rfl ?_
          refine j_if_gt X (tgt := 97) dX10_atPlace_63 (by decide) (fun c_63 => ?_) (fun c_63 => ?_)
          · refine j_iconst X (v := 1) dX10_atPlace_97 (by decide) ?_
            refine j_goto X (tgt := 102) dX10_atPlace_98 (by decide) ?_
            refine j_iadd X dX10_atPlace_102 ?_
            refine j_tops (fun v3 ev3 => ?_)
            refine j_istore X (L' := [(4, .int v3), (6, .int v2), (0, .ref b), (1, .int p), (2, .int w), (3, .int (nI k)), (5, .int (nI j))]) dX10_atPlace_103 (by decide) rfl ?_
            obtain ⟨v4, ev4⟩ : ∃ y : Int32, (nI j) + 1 = y := ⟨_, rfl⟩
            refine j_iinc X 6 (k := 1) (v := v4) (L' := [(5, .int v4), (4, .int v3), (6, .int v2), (0, .ref b), (1, .int p), (2, .int w), (3, .int (nI k))]) dX10_atPlace_105 rfl (by decide) (by decide) ev4 rfl ?_
            refine j_goto X (tgt := 18) dX10_atPlace_108 (by decide) ?_
            refine j_sub [3, 4, 5, 6, 1, 0] (L' := [(0, .ref b), (1, .int p), (2, .int w), (3, .int (nI k)), (4, .int (mAhead μ p (nI k) (j + 1))), (5, .int (nI (j + 1)))]) (by subst ev4 ev3 ev2; first | with_reducible rfl | (simp only [mAhead, nI_succ j, if_pos c_9, if_pos c_26, if_pos c_63]; done) | (simp only [mAhead, nI_succ j, if_pos c_9, if_pos c_26, if_pos c_63]; rfl) | rfl) ?_
            exact ih (j + 1) (by omega)
          · refine j_iload X 0 dX10_atPlace_66 rfl ?_
            refine j_if_ne X (tgt := 101) dX10_atPlace_68 (by decide) (fun c_68 => ?_) (fun c_68 => ?_)
            · refine j_iconst X (v := 0) dX10_atPlace_101 (by decide) ?_
              refine j_iadd X dX10_atPlace_102 ?_
              refine j_tops (fun v5 ev5 => ?_)
              refine j_istore X (L' := [(4, .int v5), (6, .int v2), (0, .ref b), (1, .int p), (2, .int w), (3, .int (nI k)), (5, .int (nI j))]) dX10_atPlace_103 (by decide) rfl ?_
              obtain ⟨v6, ev6⟩ : ∃ y : Int32, (nI j) + 1 = y := ⟨_, rfl⟩
              refine j_iinc X 6 (k := 1) (v := v6) (L' := [(5, .int v6), (4, .int v5), (6, .int v2), (0, .ref b), (1, .int p), (2, .int w), (3, .int (nI k))]) dX10_atPlace_105 rfl (by decide) (by decide) ev6 rfl ?_
              refine j_goto X (tgt := 18) dX10_atPlace_108 (by decide) ?_
              refine j_sub [3, 4, 5, 6, 1, 0] (L' := [(0, .ref b), (1, .int p), (2, .int w), (3, .int (nI k)), (4, .int (mAhead μ p (nI k) (j + 1))), (5, .int (nI (j + 1)))]) (by subst ev6 ev5 ev2; first | with_reducible rfl | (simp only [mAhead, nI_succ j, if_pos c_9, if_pos c_26, if_neg c_63, if_neg c_68]; done) | (simp only [mAhead, nI_succ j, if_pos c_9, if_pos c_26, if_neg c_63, if_neg c_68]; rfl) | rfl) ?_
              exact ih (j + 1) (by omega)
            · refine j_aload_n X 1 dX10_atPlace_71 rfl rfl ?_
              refine j_get X fG_RX10_7 mput_0 rfl rfl dX10_atPlace_72 ?_
              refine j_aload_n X 1 dX10_atPlace_75 rfl rfl ?_
              refine j_iload_n X 2 dX10_atPlace_76 rfl rfl ?_
              refine j_iload X 6 dX10_atPlace_77 rfl ?_
              refine j_callVi X (rest := [.ref (b + 1), .int (mAhead μ p (nI k) j)]) (c_X10_queueCell l) m_yX10_queueCell kM_RX10_80 mput_0 rfl rfl rfl rfl rfl (Nat.le_of_ble_eq_true rfl) ⟨Nat.le_of_ble_eq_true rfl, Nat.le_of_ble_eq_true rfl, Nat.le_of_ble_eq_true rfl, Nat.le_of_ble_eq_true rfl⟩ dX10_atPlace_79 ?_
              refine j_ldM X (in_qc0 hp ⟨_, by omega, rfl⟩) dX10_atPlace_82 ?_
              refine j_aload_n X 1 dX10_atPlace_83 rfl rfl ?_
              refine j_get X fG_RX10_7 mput_0 rfl rfl dX10_atPlace_84 ?_
              refine j_aload_n X 1 dX10_atPlace_87 rfl rfl ?_
              refine j_iload_n X 2 dX10_atPlace_88 rfl rfl ?_
              refine j_iload_n X 4 dX10_atPlace_89 rfl rfl ?_
              refine j_callVi X (rest := [.ref (b + 1), .int (now μ (mQc p (nI j))), .int (mAhead μ p (nI k) j)]) (c_X10_queueCell l) m_yX10_queueCell kM_RX10_80 mput_0 rfl rfl rfl rfl rfl (Nat.le_of_ble_eq_true rfl) ⟨Nat.le_of_ble_eq_true rfl, Nat.le_of_ble_eq_true rfl, Nat.le_of_ble_eq_true rfl, Nat.le_of_ble_eq_true rfl⟩ dX10_atPlace_90 ?_
              refine j_ldM X (in_qc0 hp ⟨_, by omega, rfl⟩) dX10_atPlace_93 ?_
              refine j_icmp_ge X (tgt := 101) dX10_atPlace_94 (by decide) (fun c_94 => ?_) (fun c_94 => ?_)
              · refine j_iconst X (v := 0) dX10_atPlace_101 (by decide) ?_
                refine j_iadd X dX10_atPlace_102 ?_
                refine j_tops (fun v7 ev7 => ?_)
                refine j_istore X (L' := [(4, .int v7), (6, .int v2), (0, .ref b), (1, .int p), (2, .int w), (3, .int (nI k)), (5, .int (nI j))]) dX10_atPlace_103 (by decide) rfl ?_
                obtain ⟨v8, ev8⟩ : ∃ y : Int32, (nI j) + 1 = y := ⟨_, rfl⟩
                refine j_iinc X 6 (k := 1) (v := v8) (L' := [(5, .int v8), (4, .int v7), (6, .int v2), (0, .ref b), (1, .int p), (2, .int w), (3, .int (nI k))]) dX10_atPlace_105 rfl (by decide) (by decide) ev8 rfl ?_
                refine j_goto X (tgt := 18) dX10_atPlace_108 (by decide) ?_
                refine j_sub [3, 4, 5, 6, 1, 0] (L' := [(0, .ref b), (1, .int p), (2, .int w), (3, .int (nI k)), (4, .int (mAhead μ p (nI k) (j + 1))), (5, .int (nI (j + 1)))]) (by subst ev8 ev7 ev2; first | with_reducible rfl | (simp only [mAhead, nI_succ j, if_pos c_9, if_pos c_26, if_neg c_63, if_pos c_68, if_neg c_94]; done) | (simp only [mAhead, nI_succ j, if_pos c_9, if_pos c_26, if_neg c_63, if_pos c_68, if_neg c_94]; rfl) | rfl) ?_
                exact ih (j + 1) (by omega)
              · refine j_iconst X (v := 1) dX10_atPlace_97 (by decide) ?_
                refine j_goto X (tgt := 102) dX10_atPlace_98 (by decide) ?_
                refine j_iadd X dX10_atPlace_102 ?_
                refine j_tops (fun v9 ev9 => ?_)
                refine j_istore X (L' := [(4, .int v9), (6, .int v2), (0, .ref b), (1, .int p), (2, .int w), (3, .int (nI k)), (5, .int (nI j))]) dX10_atPlace_103 (by decide) rfl ?_
                obtain ⟨v10, ev10⟩ : ∃ y : Int32, (nI j) + 1 = y := ⟨_, rfl⟩
                refine j_iinc X 6 (k := 1) (v := v10) (L' := [(5, .int v10), (4, .int v9), (6, .int v2), (0, .ref b), (1, .int p), (2, .int w), (3, .int (nI k))]) dX10_atPlace_105 rfl (by decide) (by decide) ev10 rfl ?_
                refine j_goto X (tgt := 18) dX10_atPlace_108 (by decide) ?_
                refine j_sub [3, 4, 5, 6, 1, 0] (L' := [(0, .ref b), (1, .int p), (2, .int w), (3, .int (nI k)), (4, .int (mAhead μ p (nI k) (j + 1))), (5, .int (nI (j + 1)))]) (by subst ev10 ev9 ev2; first | with_reducible rfl | (simp only [mAhead, nI_succ j, if_pos c_9, if_pos c_26, if_neg c_63, if_pos c_68, if_pos c_94]; done) | (simp only [mAhead, nI_succ j, if_pos c_9, if_pos c_26, if_neg c_63, if_pos c_68, if_pos c_94]; rfl) | rfl) ?_
                exact ih (j + 1) (by omega)
      refine j_sub [2, 3, 4, 5, 1, 0] (L' := [(0, .ref b), (1, .int p), (2, .int w), (3, .int (nI k)), (4, .int (mAhead μ p (nI k) 0)), (5, .int (nI 0))]) (by first | with_reducible rfl | (simp only [mAhead, if_pos c_9]; done) | (simp only [mAhead, if_pos c_9]; rfl) | rfl) ?_
      exact loop18 (mMany μ p) 0 (by omega)
  refine j_sub [1, 2, 3, 0] (L' := [(0, .ref b), (1, .int p), (2, .int w), (3, .int (nI 0))]) rfl ?_
  exact loop (mMany μ p) 0 (by omega) rfl
set_option maxRecDepth 100000 in
set_option maxHeartbeats 8000000 in
theorem c_X10_queued (l : Launch) {D : DD} {B z : Nat} {h : HF} {b : Nat} {μ : Mo} {p k w : Int32} (hI : MIv μ)  : CT l yX10_queued cX10_queued 5 (some .int) 2 48 [.ref b, .int p, .int k, .int w] D B z (mput D h b μ) (some (.int (mQueued μ p k w))) 0 0 (mput D h b μ) := by
  refine CT.of (L := [(0, .ref b), (1, .int p), (2, .int k), (3, .int w)]) (by decide +kernel) (Nat.le_of_ble_eq_true rfl) rfl ?_
  intro P E S0 M0 AR BL ME CO X hr hnm
  refine j_iload_n X 1 dX10_queued_0 rfl rfl ?_
  refine j_callSi X (rest := []) (c_X10_noPort l) m_yX10_noPort kM_RX10_52 rfl rfl (Nat.le_of_ble_eq_true rfl) ⟨Nat.le_of_ble_eq_true rfl, Nat.le_of_ble_eq_true rfl, Nat.le_of_ble_eq_true rfl, Nat.le_of_ble_eq_true rfl⟩ dX10_queued_1 ?_
  refine j_if_eq X (tgt := 9) dX10_queued_4 (by decide) (fun c_4 => ?_) (fun c_4 => ?_)
  · have hp : PO p := po_of c_4
    refine j_iload_n X 2 dX10_queued_9 rfl rfl ?_
    refine j_if_lt X (tgt := 22) dX10_queued_10 (by decide) (fun c_10 => ?_) (fun c_10 => ?_)
    · refine j_bipush X (v := (-2)) dX10_queued_22 (by decide) ?_
      exact j_iret X hr rfl (by first | with_reducible rfl | (simp only [mQueued, if_pos c_4, if_pos c_10]; done) | (simp only [mQueued, if_pos c_4, if_pos c_10]; rfl) | rfl) rfl (by first | with_reducible rfl | (simp only [mQueued, if_pos c_4, if_pos c_10]; done) | (simp only [mQueued, if_pos c_4, if_pos c_10]; rfl) | rfl) dX10_queued_24
    · refine j_iload_n X 3 dX10_queued_13 rfl rfl ?_
      refine j_iconst X (v := 0) dX10_queued_14 (by decide) ?_
      refine j_iconst X (v := 3) dX10_queued_15 (by decide) ?_
      refine j_callSi X (rest := []) (c_X10_in l) m_yX10_in kM_RX10_36 rfl rfl (Nat.le_of_ble_eq_true rfl) ⟨Nat.le_of_ble_eq_true rfl, Nat.le_of_ble_eq_true rfl, Nat.le_of_ble_eq_true rfl, Nat.le_of_ble_eq_true rfl⟩ dX10_queued_16 ?_
      refine j_if_ne X (tgt := 25) dX10_queued_19 (by decide) (fun c_19 => ?_) (fun c_19 => ?_)
      · refine j_aload_n X 0 dX10_queued_25 rfl rfl ?_
        refine j_iload_n X 1 dX10_queued_26 rfl rfl ?_
        refine j_iload_n X 2 dX10_queued_27 rfl rfl ?_
        refine j_callVi X (rest := []) (c_X10_atPlace l hp (mi_many hp hI)) m_yX10_atPlace kM_RX10_112 mput_0 rfl rfl rfl rfl rfl (Nat.le_of_ble_eq_true rfl) ⟨Nat.le_of_ble_eq_true rfl, Nat.le_of_ble_eq_true rfl, Nat.le_of_ble_eq_true rfl, Nat.le_of_ble_eq_true rfl⟩ dX10_queued_28 ?_
        refine j_tops (fun v1 ev1 => ?_)
        refine j_istore X (L' := [(4, .int v1), (0, .ref b), (1, .int p), (2, .int k), (3, .int w)]) dX10_queued_31 (by decide) rfl ?_
        refine j_iload X 0 dX10_queued_33 rfl ?_
        refine j_bipush X (v := (-4)) dX10_queued_35 (by decide) ?_
        refine j_icmp_ne X (tgt := 45) dX10_queued_37 (by decide) (fun c_37 => ?_) (fun c_37 => ?_)
        · have h12 : WH v1 12 := at_in (mi_many hp hI) ev1 c_37
          refine j_aload_n X 1 dX10_queued_45 rfl rfl ?_
          refine j_get X fG_RX10_7 mput_0 rfl rfl dX10_queued_46 ?_
          refine j_aload_n X 1 dX10_queued_49 rfl rfl ?_
          refine j_iload_n X 2 dX10_queued_50 rfl rfl ?_
          refine j_iload X 0 dX10_queued_51 rfl ?_
          refine j_callVi X (rest := [.ref (b + 1)]) (c_X10_queueCell l) m_yX10_queueCell kM_RX10_80 mput_0 rfl rfl rfl rfl rfl (Nat.le_of_ble_eq_true rfl) ⟨Nat.le_of_ble_eq_true rfl, Nat.le_of_ble_eq_true rfl, Nat.le_of_ble_eq_true rfl, Nat.le_of_ble_eq_true rfl⟩ dX10_queued_53 ?_
          refine j_iload_n X 4 dX10_queued_56 rfl rfl ?_
          refine j_iconst X (v := 3) dX10_queued_57 (by decide) ?_
          refine j_icmp_ne X (tgt := 65) dX10_queued_58 (by decide) (fun c_58 => ?_) (fun c_58 => ?_)
          · refine j_iload_n X 4 dX10_queued_65 rfl rfl ?_
            refine j_iconst X (v := 1) dX10_queued_66 (by decide) ?_
            refine j_iadd X dX10_queued_67 ?_
            refine j_iadd X dX10_queued_68 ?_
            refine j_ldM X (in_qcw hp h12 c_19 c_58) dX10_queued_69 ?_
            exact j_iret X hr rfl (by subst ev1; first | with_reducible rfl | (simp only [mQueued, if_pos c_4, if_neg c_10, if_neg c_19, if_neg c_37, if_neg c_58]; done) | (simp only [mQueued, if_pos c_4, if_neg c_10, if_neg c_19, if_neg c_37, if_neg c_58]; rfl) | rfl) rfl (by subst ev1; first | with_reducible rfl | (simp only [mQueued, if_pos c_4, if_neg c_10, if_neg c_19, if_neg c_37, if_neg c_58]; done) | (simp only [mQueued, if_pos c_4, if_neg c_10, if_neg c_19, if_neg c_37, if_neg c_58]; rfl) | rfl) dX10_queued_70
          · refine j_iconst X (v := 0) dX10_queued_61 (by decide) ?_
            refine j_goto X (tgt := 68) dX10_queued_62 (by decide) ?_
            refine j_iadd X dX10_queued_68 ?_
            refine j_ldM X (in_qc 0 (by decide) hp h12) dX10_queued_69 ?_
            exact j_iret X hr rfl (by subst ev1; first | with_reducible rfl | (simp only [mQueued, if_pos c_4, if_neg c_10, if_neg c_19, if_neg c_37, if_pos c_58]; done) | (simp only [mQueued, if_pos c_4, if_neg c_10, if_neg c_19, if_neg c_37, if_pos c_58]; rfl) | rfl) rfl (by subst ev1; first | with_reducible rfl | (simp only [mQueued, if_pos c_4, if_neg c_10, if_neg c_19, if_neg c_37, if_pos c_58]; done) | (simp only [mQueued, if_pos c_4, if_neg c_10, if_neg c_19, if_neg c_37, if_pos c_58]; rfl) | rfl) dX10_queued_70
        · refine j_bipush X (v := (-4)) dX10_queued_40 (by decide) ?_
          refine j_goto X (tgt := 70) dX10_queued_42 (by decide) ?_
          exact j_iret X hr rfl (by subst ev1; first | with_reducible rfl | (simp only [mQueued, if_pos c_4, if_neg c_10, if_neg c_19, if_pos c_37]; done) | (simp only [mQueued, if_pos c_4, if_neg c_10, if_neg c_19, if_pos c_37]; rfl) | rfl) rfl (by subst ev1; first | with_reducible rfl | (simp only [mQueued, if_pos c_4, if_neg c_10, if_neg c_19, if_pos c_37]; done) | (simp only [mQueued, if_pos c_4, if_neg c_10, if_neg c_19, if_pos c_37]; rfl) | rfl) dX10_queued_70
      · refine j_bipush X (v := (-2)) dX10_queued_22 (by decide) ?_
        exact j_iret X hr rfl (by first | with_reducible rfl | (simp only [mQueued, if_pos c_4, if_neg c_10, if_pos c_19]; done) | (simp only [mQueued, if_pos c_4, if_neg c_10, if_pos c_19]; rfl) | rfl) rfl (by first | with_reducible rfl | (simp only [mQueued, if_pos c_4, if_neg c_10, if_pos c_19]; done) | (simp only [mQueued, if_pos c_4, if_neg c_10, if_pos c_19]; rfl) | rfl) dX10_queued_24
  · refine j_iconst X (v := (-1)) dX10_queued_7 (by decide) ?_
    exact j_iret X hr rfl (by first | with_reducible rfl | (simp only [mQueued, if_neg c_4]; done) | (simp only [mQueued, if_neg c_4]; rfl) | rfl) rfl (by first | with_reducible rfl | (simp only [mQueued, if_neg c_4]; done) | (simp only [mQueued, if_neg c_4]; rfl) | rfl) dX10_queued_8
