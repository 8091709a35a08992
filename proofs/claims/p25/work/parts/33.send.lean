set_option maxRecDepth 100000 in
set_option maxHeartbeats 8000000 in
theorem c_X6_letIn (l : Launch) {D : DD} {B z : Nat} {h : HF} {b : Nat} {S : Sy}  : CT l yX6_letIn cX6_letIn 5 (some .int) 5 124 [.ref (b + 1), .ref (b + 208)] D B z (xput D h b S) (some (.int ((xLetIn S).1))) 0 0 (xput D h b ((xLetIn S).2)) := by
  refine CT.of (L := [(0, .ref (b + 1)), (1, .ref (b + 208))]) (by decide +kernel) (Nat.le_of_ble_eq_true rfl) rfl ?_
  intro P E S0 M0 AR BL ME CO X hr hnm
  refine j_iconst X (v := 0) dX6_letIn_0 (by decide) ?_
  refine j_istore_n X (L' := [(2, .int 0), (0, .ref (b + 1)), (1, .ref (b + 208))]) dX6_letIn_1 rfl (by decide) rfl ?_
  refine j_iconst X (v := 0) dX6_letIn_2 (by decide) ?_
  refine j_istore_n X (L' := [(3, .int 0), (2, .int 0), (0, .ref (b + 1)), (1, .ref (b + 208))]) dX6_letIn_3 rfl (by decide) rfl ?_
  have loop4 : ∀ (n k : Nat), k + n = (S.2.1 5).toNatClampNeg → J P l E { frames := 5, cells := 0, slots := 0, locals := 124 } S0 M0 AR BL ME CO D B 5 (MQ BL (QC (some (.int ((xLetIn S).1))) D B (z + 0) (xput D h b ((xLetIn S).2))) AR S0 0 0 (aB B)) 0 0 z (xput D h b (xst S 0 (xLet S k).2)) [(0, .ref (b + 1)), (1, .ref (b + 208)), (2, .int ((xLet S k).1)), (3, .int (nI k))] [] 4 := by
    intro n
    induction n with
    | zero =>
      intro k hk
      obtain rfl : k = (S.2.1 5).toNatClampNeg := by omega
      refine j_iload_n X 3 dX6_letIn_4 rfl rfl ?_
      refine j_aload_n X 1 dX6_letIn_5 rfl rfl ?_
      refine j_getN X fN_RX6_150 (xput_k 208 (by decide)) rfl rfl dX6_letIn_6 ?_
      refine j_icmp_ge X (tgt := 56) dX6_letIn_9 (by decide) (fun c_9 => ?_) (fun c_9 => absurd c_9 (cl_nlt _))
      refine j_iload_n X 2 dX6_letIn_56 rfl rfl ?_
      exact j_iret X hr rfl (by first | with_reducible rfl | (simp only [xLetIn, if_neg c_9]; done) | (simp only [xLetIn, if_neg c_9]; rfl) | rfl) rfl (by first | with_reducible rfl | (simp only [xLetIn, if_neg c_9]; done) | (simp only [xLetIn, if_neg c_9]; rfl) | rfl) dX6_letIn_57
    | succ n ih =>
      intro k hk
      refine j_iload_n X 3 dX6_letIn_4 rfl rfl ?_
      refine j_aload_n X 1 dX6_letIn_5 rfl rfl ?_
      refine j_getN X fN_RX6_150 (xput_k 208 (by decide)) rfl rfl dX6_letIn_6 ?_
      refine j_icmp_ge X (tgt := 56) dX6_letIn_9 (by decide) (fun c_9 => absurd (cl_lt (x := S.2.1 5) (by omega)) c_9) (fun c_9 => ?_)
      refine j_aload_n X 0 dX6_letIn_12 rfl rfl ?_
      refine j_aload_n X 1 dX6_letIn_13 rfl rfl ?_
      refine j_iload_n X 3 dX6_letIn_14 rfl rfl ?_
      refine j_iconst X (v := 3) dX6_letIn_15 (by decide) ?_
      refine j_callVi X (rest := [.ref (b + 1)]) (cx_r (xPart S (nI k) 3) (c_X0_partOf l)) m_yX0_partOf kM_RX6_155 (xput_k 208 (by decide)) rfl rfl rfl rfl rfl (Nat.le_of_ble_eq_true rfl) ⟨Nat.le_of_ble_eq_true rfl, Nat.le_of_ble_eq_true rfl, Nat.le_of_ble_eq_true rfl, Nat.le_of_ble_eq_true rfl⟩ dX6_letIn_16 ?_
      refine j_aload_n X 1 dX6_letIn_19 rfl rfl ?_
      refine j_iload_n X 3 dX6_letIn_20 rfl rfl ?_
      refine j_iconst X (v := 0) dX6_letIn_21 (by decide) ?_
      refine j_callVi X (rest := [.int (xPart S (nI k) 3), .ref (b + 1)]) (cx_r (xPart S (nI k) 0) (c_X0_partOf l)) m_yX0_partOf kM_RX6_155 (xput_k 208 (by decide)) rfl rfl rfl rfl rfl (Nat.le_of_ble_eq_true rfl) ⟨Nat.le_of_ble_eq_true rfl, Nat.le_of_ble_eq_true rfl, Nat.le_of_ble_eq_true rfl, Nat.le_of_ble_eq_true rfl⟩ dX6_letIn_22 ?_
      refine j_aload_n X 1 dX6_letIn_25 rfl rfl ?_
      refine j_iload_n X 3 dX6_letIn_26 rfl rfl ?_
      refine j_iconst X (v := 1) dX6_letIn_27 (by decide) ?_
      refine j_callVi X (rest := [.int (xPart S (nI k) 0), .int (xPart S (nI k) 3), .ref (b + 1)]) (cx_r (xPart S (nI k) 1) (c_X0_partOf l)) m_yX0_partOf kM_RX6_155 (xput_k 208 (by decide)) rfl rfl rfl rfl rfl (Nat.le_of_ble_eq_true rfl) ⟨Nat.le_of_ble_eq_true rfl, Nat.le_of_ble_eq_true rfl, Nat.le_of_ble_eq_true rfl, Nat.le_of_ble_eq_true rfl⟩ dX6_letIn_28 ?_
      refine j_aload_n X 1 dX6_letIn_31 rfl rfl ?_
      refine j_iload_n X 3 dX6_letIn_32 rfl rfl ?_
      refine j_iconst X (v := 2) dX6_letIn_33 (by decide) ?_
      refine j_callVi X (rest := [.int (xPart S (nI k) 1), .int (xPart S (nI k) 0), .int (xPart S (nI k) 3), .ref (b + 1)]) (cx_r (xPart S (nI k) 2) (c_X0_partOf l)) m_yX0_partOf kM_RX6_155 (xput_k 208 (by decide)) rfl rfl rfl rfl rfl (Nat.le_of_ble_eq_true rfl) ⟨Nat.le_of_ble_eq_true rfl, Nat.le_of_ble_eq_true rfl, Nat.le_of_ble_eq_true rfl, Nat.le_of_ble_eq_true rfl⟩ dX6_letIn_34 ?_
      refine j_heap (h' := hput D (xput D h b (xst S 0 (xLet S k).2)) (b + 1) ((xLet S k).2)) (xput_st (i := 0) (by decide)) ?_
      refine j_callVi X (rest := []) (c_X6_comeIn l) m_yX6_comeIn kM_RX6_159 hput_0 rfl rfl rfl rfl rfl (Nat.le_of_ble_eq_true rfl) ⟨Nat.le_of_ble_eq_true rfl, Nat.le_of_ble_eq_true rfl, Nat.le_of_ble_eq_true rfl, Nat.le_of_ble_eq_true rfl⟩ dX6_letIn_37 ?_
      refine j_heap (h' := xput D h b (xst S 0 ((sCome ((xLet S k).2) (xPart S (nI k) 3) (xPart S (nI k) 0) (xPart S (nI k) 1) (xPart S (nI k) 2)).2))) (xst_st2 (i := 0) (by decide)) ?_
      refine j_tops (fun v1 ev1 => ?_)
      refine j_istore X (L' := [(4, .int v1), (0, .ref (b + 1)), (1, .ref (b + 208)), (2, .int ((xLet S k).1)), (3, .int (nI k))]) dX6_letIn_40 (by decide) rfl ?_
      refine j_iload X 0 dX6_letIn_42 rfl ?_
      refine j_if_eq X (tgt := 50) dX6_letIn_44 (by decide) (fun c_44 => ?_) (fun c_44 => ?_)
      · obtain ⟨v2, ev2⟩ : ∃ y : Int32, (nI k) + 1 = y := ⟨_, rfl⟩
        refine j_iinc X 4 (k := 1) (v := v2) (L' := [(3, .int v2), (4, .int v1), (0, .ref (b + 1)), (1, .ref (b + 208)), (2, .int ((xLet S k).1))]) dX6_letIn_50 rfl (by decide) (by decide) ev2 rfl ?_
        refine j_goto X (tgt := 4) dX6_letIn_53 (by decide) ?_
        refine j_sub [2, 3, 4, 0] (L' := [(0, .ref (b + 1)), (1, .ref (b + 208)), (2, .int ((xLet S (k + 1)).1)), (3, .int (nI (k + 1)))]) (by subst ev2 ev1; first | with_reducible rfl | (simp only [xLet, xst_self, nI_succ k, if_pos c_9, if_pos c_44]; done) | (simp only [xLet, xst_self, nI_succ k, if_pos c_9, if_pos c_44]; rfl) | rfl) ?_
        refine j_heap (h' := xput D h b (xst S 0 (xLet S (k + 1)).2)) (by subst ev2 ev1; first | with_reducible rfl | (simp only [xLet, xst_self, nI_succ k, if_pos c_9, if_pos c_44]; done) | (simp only [xLet, xst_self, nI_succ k, if_pos c_9, if_pos c_44]; rfl) | rfl) ?_
        exact ih (k + 1) (by omega)
      · obtain ⟨v3, ev3⟩ : ∃ y : Int32, ((xLet S k).1) + 1 = y := ⟨_, rfl⟩
        refine j_iinc X 3 (k := 1) (v := v3) (L' := [(2, .int v3), (4, .int v1), (0, .ref (b + 1)), (1, .ref (b + 208)), (3, .int (nI k))]) dX6_letIn_47 rfl (by decide) (by decide) ev3 rfl ?_
        obtain ⟨v4, ev4⟩ : ∃ y : Int32, (nI k) + 1 = y := ⟨_, rfl⟩
        refine j_iinc X 4 (k := 1) (v := v4) (L' := [(3, .int v4), (2, .int v3), (4, .int v1), (0, .ref (b + 1)), (1, .ref (b + 208))]) dX6_letIn_50 rfl (by decide) (by decide) ev4 rfl ?_
        refine j_goto X (tgt := 4) dX6_letIn_53 (by decide) ?_
        refine j_sub [3, 4, 1, 0] (L' := [(0, .ref (b + 1)), (1, .ref (b + 208)), (2, .int ((xLet S (k + 1)).1)), (3, .int (nI (k + 1)))]) (by subst ev4 ev3 ev1; first | with_reducible rfl | (simp only [xLet, xst_self, nI_succ k, if_pos c_9, if_neg c_44]; done) | (simp only [xLet, xst_self, nI_succ k, if_pos c_9, if_neg c_44]; rfl) | rfl) ?_
        refine j_heap (h' := xput D h b (xst S 0 (xLet S (k + 1)).2)) (by subst ev4 ev3 ev1; first | with_reducible rfl | (simp only [xLet, xst_self, nI_succ k, if_pos c_9, if_neg c_44]; done) | (simp only [xLet, xst_self, nI_succ k, if_pos c_9, if_neg c_44]; rfl) | rfl) ?_
        exact ih (k + 1) (by omega)
  refine j_sub [2, 3, 1, 0] (L' := [(0, .ref (b + 1)), (1, .ref (b + 208)), (2, .int ((xLet S 0).1)), (3, .int (nI 0))]) (by first | with_reducible rfl | (simp only [xLet, xst_self]; done) | (simp only [xLet, xst_self]; rfl) | rfl) ?_
  refine j_heap (h' := xput D h b (xst S 0 (xLet S 0).2)) (by first | with_reducible rfl | (simp only [xLet, xst_self]; done) | (simp only [xLet, xst_self]; rfl) | rfl) ?_
  exact loop4 ((S.2.1 5).toNatClampNeg) 0 (by omega)
set_option maxRecDepth 100000 in
set_option maxHeartbeats 8000000 in
theorem c_X6_sendFrom (l : Launch) {D : DD} {B z : Nat} {h : HF} {b : Nat} {S : Sy} {p : Int32}  : CT l yX6_sendFrom cX6_sendFrom 6 (some .int) 3 68 [.ref (b + 1), .int p, .ref (b + 208)] D B z (xput D h b S) (some (.int ((xSend S p).1))) 0 0 (xput D h b ((xSend S p).2)) := by
  refine CT.of (L := [(0, .ref (b + 1)), (1, .int p), (2, .ref (b + 208))]) (by decide +kernel) (Nat.le_of_ble_eq_true rfl) rfl ?_
  intro P E S0 M0 AR BL ME CO X hr hnm
  refine j_aload_n X 0 dX6_sendFrom_0 rfl rfl ?_
  refine j_get X fG_RX6_18 (xput_k 1 (by decide)) rfl rfl dX6_sendFrom_1 ?_
  refine j_iconst X (v := 3) dX6_sendFrom_4 (by decide) ?_
  refine j_heap (h' := hput D (xput D h b S) (b + 1) (S.1 0)) (xput_st (i := 0) (by decide)) ?_
  refine j_callVi X (rest := []) (s_at0 l) m_yX5_at kM_RX6_85 (hput_k 1 (by decide)) rfl rfl rfl rfl rfl (Nat.le_of_ble_eq_true rfl) ⟨Nat.le_of_ble_eq_true rfl, Nat.le_of_ble_eq_true rfl, Nat.le_of_ble_eq_true rfl, Nat.le_of_ble_eq_true rfl⟩ dX6_sendFrom_5 ?_
  refine j_heap (h' := xput D h b S) (xput_st (i := 0) (by decide)).symm ?_
  refine j_aload_n X 0 dX6_sendFrom_8 rfl rfl ?_
  refine j_get X fG_RX6_34 (xput_k 1 (by decide)) rfl rfl dX6_sendFrom_9 ?_
  refine j_getN X fN_RX6_82 (xput_k 17 (by decide)) rfl rfl dX6_sendFrom_12 ?_
  refine j_iload_n X 1 dX6_sendFrom_15 rfl rfl ?_
  refine j_heap (h' := hput D (xput D h b S) (b + 1) (S.1 0)) (xput_st (i := 0) (by decide)) ?_
  refine j_callVi X (rest := [.int (oAt 0 4 (S.1 0) 3)]) (s_at7 l) m_yX5_at kM_RX6_85 (hput_k 17 (by decide)) rfl rfl rfl rfl rfl (Nat.le_of_ble_eq_true rfl) ⟨Nat.le_of_ble_eq_true rfl, Nat.le_of_ble_eq_true rfl, Nat.le_of_ble_eq_true rfl, Nat.le_of_ble_eq_true rfl⟩ dX6_sendFrom_16 ?_
  refine j_heap (h' := xput D h b S) (xput_st (i := 0) (by decide)).symm ?_
  refine j_mmin X kM_RX6_167 ⟨Nat.le_of_ble_eq_true rfl, Nat.le_of_ble_eq_true rfl, Nat.le_of_ble_eq_true rfl, Nat.le_of_ble_eq_true rfl⟩ dX6_sendFrom_19 ?_
  refine j_tops (fun v1 ev1 => ?_)
  refine j_istore_n X (L' := [(3, .int v1), (0, .ref (b + 1)), (1, .int p), (2, .ref (b + 208))]) dX6_sendFrom_22 rfl (by decide) rfl ?_
  refine j_aload_n X 1 dX6_sendFrom_23 rfl rfl ?_
  refine j_get X fG_RX6_27 (xput_k 1 (by decide)) rfl rfl dX6_sendFrom_24 ?_
  refine j_iload_n X 2 dX6_sendFrom_27 rfl rfl ?_
  refine j_heap (h' := hput D (xput D h b S) (b + 1) (S.1 0)) (xput_st (i := 0) (by decide)) ?_
  refine j_callVi X (rest := []) (c_X3_farEnd l) m_yX3_farEnd kM_RX6_172 (hput_k 3 (by decide)) rfl rfl rfl rfl rfl (Nat.le_of_ble_eq_true rfl) ⟨Nat.le_of_ble_eq_true rfl, Nat.le_of_ble_eq_true rfl, Nat.le_of_ble_eq_true rfl, Nat.le_of_ble_eq_true rfl⟩ dX6_sendFrom_28 ?_
  refine j_heap (h' := xput D h b S) (xput_st (i := 0) (by decide)).symm ?_
  refine j_tops (fun v2 ev2 => ?_)
  refine j_istore X (L' := [(4, .int v2), (3, .int v1), (0, .ref (b + 1)), (1, .int p), (2, .ref (b + 208))]) dX6_sendFrom_31 (by decide) rfl ?_
  refine j_iconst X (v := 0) dX6_sendFrom_33 (by decide) ?_
  refine j_istore X (L' := [(5, .int 0), (4, .int v2), (3, .int v1), (0, .ref (b + 1)), (1, .int p), (2, .ref (b + 208))]) dX6_sendFrom_34 (by decide) rfl ?_
  have hfr : v1 = fFrames (S.1 0) p := ev1.symm
  have hqq : v2 = pFar (S.1 0) p := ev2.symm
  have tail : ∀ pl : Int32, J P l E { frames := 3, cells := 0, slots := 0, locals := 68 } S0 M0 AR BL ME CO D B 6 (MQ BL (QC (some (.int ((xSend S p).1))) D B (z + 0) (xput D h b ((xSend S p).2))) AR S0 0 0 (aB B)) 0 0 z (xput D h b (xS1 S p (pFar (S.1 0) p) (fFrames (S.1 0) p))) [(0, .ref (b + 1)), (1, .int p), (2, .ref (b + 208)), (3, .int v1), (4, .int v2), (5, .int pl)] [] 94 := by
    intro pl
    refine j_aload_n X 0 dX6_sendFrom_94 rfl rfl ?_
    refine j_get X fG_RX6_34 (xput_k 1 (by decide)) rfl rfl dX6_sendFrom_95 ?_
    refine j_iload_n X 1 dX6_sendFrom_98 rfl rfl ?_
    refine j_iload_n X 3 dX6_sendFrom_99 rfl rfl ?_
    refine j_heap (h' := hput D (xput D h b (xS1 S p (pFar (S.1 0) p) (fFrames (S.1 0) p))) (b + 1) ((xS1 S p (pFar (S.1 0) p) (fFrames (S.1 0) p)).1 0)) (xput_st (i := 0) (by decide)) ?_
    refine j_callVv X (rest := []) (c_X4_removeFirst l) m_yX4_removeFirst kM_RX6_89 (hput_k 16 (by decide)) rfl rfl rfl rfl rfl (Nat.le_of_ble_eq_true rfl) ⟨Nat.le_of_ble_eq_true rfl, Nat.le_of_ble_eq_true rfl, Nat.le_of_ble_eq_true rfl, Nat.le_of_ble_eq_true rfl⟩ dX6_sendFrom_100 ?_
    refine j_heap (h' := xput D h b (xst (xS1 S p (pFar (S.1 0) p) (fFrames (S.1 0) p)) 0 (qRem ((xS1 S p (pFar (S.1 0) p) (fFrames (S.1 0) p)).1 0) p v1))) (xst_st (i := 0) (by decide)) ?_
    refine j_aload_n X 0 dX6_sendFrom_103 rfl rfl ?_
    refine j_get X fG_RX6_27 (xput_k 1 (by decide)) rfl rfl dX6_sendFrom_104 ?_
    refine j_iload_n X 1 dX6_sendFrom_107 rfl rfl ?_
    refine j_bipush X (v := 9) dX6_sendFrom_108 (by decide) ?_
    refine j_iload_n X 3 dX6_sendFrom_110 rfl rfl ?_
    refine j_heap (h' := hput D (xput D h b (xst (xS1 S p (pFar (S.1 0) p) (fFrames (S.1 0) p)) 0 (qRem ((xS1 S p (pFar (S.1 0) p) (fFrames (S.1 0) p)).1 0) p v1))) (b + 1) (qRem ((xS1 S p (pFar (S.1 0) p) (fFrames (S.1 0) p)).1 0) p v1)) (xput_st (i := 0) (by decide)) ?_
    refine j_callVv X (rest := []) (c_X3_credit l) m_yX3_credit kM_RX6_92 (hput_k 3 (by decide)) rfl rfl rfl rfl rfl (Nat.le_of_ble_eq_true rfl) ⟨Nat.le_of_ble_eq_true rfl, Nat.le_of_ble_eq_true rfl, Nat.le_of_ble_eq_true rfl, Nat.le_of_ble_eq_true rfl⟩ dX6_sendFrom_111 ?_
    refine j_heap (h' := xput D h b (xst (xS1 S p (pFar (S.1 0) p) (fFrames (S.1 0) p)) 0 (pCredit (qRem ((xS1 S p (pFar (S.1 0) p) (fFrames (S.1 0) p)).1 0) p v1) p 9 v1))) (xst_st2 (i := 0) (by decide)) ?_
    refine j_iload X 4 dX6_sendFrom_114 rfl ?_
    refine j_bipush X (v := (-4)) dX6_sendFrom_116 (by decide) ?_
    refine j_icmp_ne X (tgt := 132) dX6_sendFrom_118 (by decide) (fun c_118 => ?_) (fun c_118 => ?_)
    · refine j_iload_n X 3 dX6_sendFrom_132 rfl rfl ?_
      exact j_iret X hr rfl (by subst ev2 ev1; first | with_reducible rfl | (simp only [xSend, xS3, xS2, xS1, if_neg c_118]; done) | (simp only [xSend, xS3, xS2, xS1, if_neg c_118]; rfl) | rfl) rfl (by subst ev2 ev1; first | with_reducible rfl | (simp only [xSend, xS3, xS2, xS1, if_neg c_118]; done) | (simp only [xSend, xS3, xS2, xS1, if_neg c_118]; rfl) | rfl) dX6_sendFrom_133
    · refine j_aload_n X 0 dX6_sendFrom_121 rfl rfl ?_
      refine j_get X fG_RX6_27 (xput_k 1 (by decide)) rfl rfl dX6_sendFrom_122 ?_
      refine j_iload_n X 1 dX6_sendFrom_125 rfl rfl ?_
      refine j_bipush X (v := 10) dX6_sendFrom_126 (by decide) ?_
      refine j_iload_n X 3 dX6_sendFrom_128 rfl rfl ?_
      refine j_heap (h' := hput D (xput D h b (xst (xS1 S p (pFar (S.1 0) p) (fFrames (S.1 0) p)) 0 (pCredit (qRem ((xS1 S p (pFar (S.1 0) p) (fFrames (S.1 0) p)).1 0) p v1) p 9 v1))) (b + 1) (pCredit (qRem ((xS1 S p (pFar (S.1 0) p) (fFrames (S.1 0) p)).1 0) p v1) p 9 v1)) (xput_st (i := 0) (by decide)) ?_
      refine j_callVv X (rest := []) (c_X3_credit l) m_yX3_credit kM_RX6_92 (hput_k 3 (by decide)) rfl rfl rfl rfl rfl (Nat.le_of_ble_eq_true rfl) ⟨Nat.le_of_ble_eq_true rfl, Nat.le_of_ble_eq_true rfl, Nat.le_of_ble_eq_true rfl, Nat.le_of_ble_eq_true rfl⟩ dX6_sendFrom_129 ?_
      refine j_heap (h' := xput D h b (xst (xS1 S p (pFar (S.1 0) p) (fFrames (S.1 0) p)) 0 (pCredit (pCredit (qRem ((xS1 S p (pFar (S.1 0) p) (fFrames (S.1 0) p)).1 0) p v1) p 9 v1) p 10 v1))) (xst_st2 (i := 0) (by decide)) ?_
      refine j_iload_n X 3 dX6_sendFrom_132 rfl rfl ?_
      exact j_iret X hr rfl (by subst ev2 ev1; first | with_reducible rfl | (simp only [xSend, xS3, xS2, xS1, if_pos c_118]; done) | (simp only [xSend, xS3, xS2, xS1, if_pos c_118]; rfl) | rfl) rfl (by subst ev2 ev1; first | with_reducible rfl | (simp only [xSend, xS3, xS2, xS1, if_pos c_118]; done) | (simp only [xSend, xS3, xS2, xS1, if_pos c_118]; rfl) | rfl) dX6_sendFrom_133
  have loop : ∀ n k : Nat, k + n = (xSN (pFar (S.1 0) p) (fFrames (S.1 0) p)) → J P l E { frames := 3, cells := 0, slots := 0, locals := 68 } S0 M0 AR BL ME CO D B 6 (MQ BL (QC (some (.int ((xSend S p).1))) D B (z + 0) (xput D h b ((xSend S p).2))) AR S0 0 0 (aB B)) 0 0 z (xput D h b (xSL S p (pFar (S.1 0) p) k)) [(0, .ref (b + 1)), (1, .int p), (2, .ref (b + 208)), (3, .int v1), (4, .int v2), (5, .int (nI k))] [] 36 := by
    intro n
    induction n with
    | zero =>
      intro k hk
      obtain rfl : k = (xSN (pFar (S.1 0) p) (fFrames (S.1 0) p)) := by omega
      refine j_iload X 5 dX6_sendFrom_36 rfl ?_
      refine j_iload_n X 3 dX6_sendFrom_38 rfl rfl ?_
      refine j_icmp_ge X (tgt := 94) dX6_sendFrom_39 (by decide) (fun c_39 => ?_) (fun c_39 => ?_)
      · refine j_sub [0, 1, 2, 3, 4, 5] (L' := [(0, .ref (b + 1)), (1, .int p), (2, .ref (b + 208)), (3, .int v1), (4, .int v2), (5, .int (nI (xSN (pFar (S.1 0) p) (fFrames (S.1 0) p))))]) rfl ?_
        exact tail _
      · refine j_iload X 4 dX6_sendFrom_42 rfl ?_
        refine j_bipush X (v := (-4)) dX6_sendFrom_44 (by decide) ?_
        refine j_icmp_eq X (tgt := 94) dX6_sendFrom_46 (by decide) (fun c_46 => ?_) (fun c_46 => absurd (by exfalso; rw [xSN, if_neg (by rw [← hqq]; exact c_46), hfr] at c_39; exact cl_nlt _ c_39) c_46)
        refine j_sub [0, 1, 2, 3, 4, 5] (L' := [(0, .ref (b + 1)), (1, .int p), (2, .ref (b + 208)), (3, .int v1), (4, .int v2), (5, .int (nI (xSN (pFar (S.1 0) p) (fFrames (S.1 0) p))))]) rfl ?_
        exact tail _
    | succ n ih =>
      intro k hk
      have hq4 : ¬ v2 = -4 := by
        intro e_
        rw [xSN, if_pos (by rw [← hqq]; exact e_)] at hk
        omega
      have hkf : nI k < v1 := by
        rw [xSN, if_neg (by rw [← hqq]; exact hq4), ← hfr] at hk
        exact cl_lt (by omega)
      refine j_iload X 5 dX6_sendFrom_36 rfl ?_
      refine j_iload_n X 3 dX6_sendFrom_38 rfl rfl ?_
      refine j_icmp_ge X (tgt := 94) dX6_sendFrom_39 (by decide) (fun c_39 => absurd hkf c_39) (fun c_39 => ?_)
      refine j_iload X 4 dX6_sendFrom_42 rfl ?_
      refine j_bipush X (v := (-4)) dX6_sendFrom_44 (by decide) ?_
      refine j_icmp_eq X (tgt := 94) dX6_sendFrom_46 (by decide) (fun c_46 => absurd c_46 hq4) (fun c_46 => ?_)
      refine j_aload_n X 2 dX6_sendFrom_49 rfl rfl ?_
      refine j_iload X 4 dX6_sendFrom_50 rfl ?_
      refine j_aload_n X 0 dX6_sendFrom_52 rfl rfl ?_
      refine j_get X fG_RX6_34 (xput_k 1 (by decide)) rfl rfl dX6_sendFrom_53 ?_
      refine j_iload_n X 1 dX6_sendFrom_56 rfl rfl ?_
      refine j_iload X 5 dX6_sendFrom_57 rfl ?_
      refine j_iconst X (v := 0) dX6_sendFrom_59 (by decide) ?_
      refine j_heap (h' := hput D (xput D h b (xSL S p (pFar (S.1 0) p) k)) (b + 1) ((xSL S p (pFar (S.1 0) p) k).1 0)) (xput_st (i := 0) (by decide)) ?_
      refine j_callVi X (rest := [.int v2, .ref (b + 208)]) (c_X4_partOf l) m_yX4_partOf kM_RX6_175 (hput_k 16 (by decide)) rfl rfl rfl rfl rfl (Nat.le_of_ble_eq_true rfl) ⟨Nat.le_of_ble_eq_true rfl, Nat.le_of_ble_eq_true rfl, Nat.le_of_ble_eq_true rfl, Nat.le_of_ble_eq_true rfl⟩ dX6_sendFrom_60 ?_
      refine j_heap (h' := xput D h b (xSL S p (pFar (S.1 0) p) k)) (xput_st (i := 0) (by decide)).symm ?_
      refine j_aload_n X 0 dX6_sendFrom_63 rfl rfl ?_
      refine j_get X fG_RX6_34 (xput_k 1 (by decide)) rfl rfl dX6_sendFrom_64 ?_
      refine j_iload_n X 1 dX6_sendFrom_67 rfl rfl ?_
      refine j_iload X 5 dX6_sendFrom_68 rfl ?_
      refine j_iconst X (v := 1) dX6_sendFrom_70 (by decide) ?_
      refine j_heap (h' := hput D (xput D h b (xSL S p (pFar (S.1 0) p) k)) (b + 1) ((xSL S p (pFar (S.1 0) p) k).1 0)) (xput_st (i := 0) (by decide)) ?_
      refine j_callVi X (rest := [.int (qPart ((xSL S p (pFar (S.1 0) p) k).1 0) p (nI k) 0), .int v2, .ref (b + 208)]) (c_X4_partOf l) m_yX4_partOf kM_RX6_175 (hput_k 16 (by decide)) rfl rfl rfl rfl rfl (Nat.le_of_ble_eq_true rfl) ⟨Nat.le_of_ble_eq_true rfl, Nat.le_of_ble_eq_true rfl, Nat.le_of_ble_eq_true rfl, Nat.le_of_ble_eq_true rfl⟩ dX6_sendFrom_71 ?_
      refine j_heap (h' := xput D h b (xSL S p (pFar (S.1 0) p) k)) (xput_st (i := 0) (by decide)).symm ?_
      refine j_aload_n X 0 dX6_sendFrom_74 rfl rfl ?_
      refine j_get X fG_RX6_34 (xput_k 1 (by decide)) rfl rfl dX6_sendFrom_75 ?_
      refine j_iload_n X 1 dX6_sendFrom_78 rfl rfl ?_
      refine j_iload X 5 dX6_sendFrom_79 rfl ?_
      refine j_iconst X (v := 2) dX6_sendFrom_81 (by decide) ?_
      refine j_heap (h' := hput D (xput D h b (xSL S p (pFar (S.1 0) p) k)) (b + 1) ((xSL S p (pFar (S.1 0) p) k).1 0)) (xput_st (i := 0) (by decide)) ?_
      refine j_callVi X (rest := [.int (qPart ((xSL S p (pFar (S.1 0) p) k).1 0) p (nI k) 1), .int (qPart ((xSL S p (pFar (S.1 0) p) k).1 0) p (nI k) 0), .int v2, .ref (b + 208)]) (c_X4_partOf l) m_yX4_partOf kM_RX6_175 (hput_k 16 (by decide)) rfl rfl rfl rfl rfl (Nat.le_of_ble_eq_true rfl) ⟨Nat.le_of_ble_eq_true rfl, Nat.le_of_ble_eq_true rfl, Nat.le_of_ble_eq_true rfl, Nat.le_of_ble_eq_true rfl⟩ dX6_sendFrom_82 ?_
      refine j_heap (h' := xput D h b (xSL S p (pFar (S.1 0) p) k)) (xput_st (i := 0) (by decide)).symm ?_
      refine j_callVv X (rest := []) (c_X0_append l) m_yX0_append kM_RX6_177 (xput_k 208 (by decide)) rfl rfl rfl rfl rfl (Nat.le_of_ble_eq_true rfl) ⟨Nat.le_of_ble_eq_true rfl, Nat.le_of_ble_eq_true rfl, Nat.le_of_ble_eq_true rfl, Nat.le_of_ble_eq_true rfl⟩ dX6_sendFrom_85 ?_
      obtain ⟨v3, ev3⟩ : ∃ y : Int32, (nI k) + 1 = y := ⟨_, rfl⟩
      refine j_iinc X 5 (k := 1) (v := v3) (L' := [(5, .int v3), (0, .ref (b + 1)), (1, .int p), (2, .ref (b + 208)), (3, .int v1), (4, .int v2)]) dX6_sendFrom_88 rfl (by decide) (by decide) ev3 rfl ?_
      refine j_goto X (tgt := 36) dX6_sendFrom_91 (by decide) ?_
      refine j_sub [1, 2, 3, 4, 5, 0] (L' := [(0, .ref (b + 1)), (1, .int p), (2, .ref (b + 208)), (3, .int v1), (4, .int v2), (5, .int (nI (k + 1)))]) (by subst ev3; rw [nI_succ]; rfl) ?_
      refine j_heap (h' := xput D h b (xSL S p (pFar (S.1 0) p) (k + 1))) (by simp only [xSL, ← hqq]) ?_
      exact ih (k + 1) (by omega)
  refine j_sub [3, 4, 5, 2, 1, 0] (L' := [(0, .ref (b + 1)), (1, .int p), (2, .ref (b + 208)), (3, .int v1), (4, .int v2), (5, .int (nI 0))]) rfl ?_
  exact loop (xSN (pFar (S.1 0) p) (fFrames (S.1 0) p)) 0 (by omega)
set_option maxRecDepth 100000 in
set_option maxHeartbeats 8000000 in
theorem c_X6_sendInto (l : Launch) {D : DD} {B z : Nat} {h : HF} {b : Nat} {S : Sy}  : CT l yX6_sendInto cX6_sendInto 4 (some .int) 4 93 [.ref (b + 1), .ref (b + 208)] D B z (xput D h b S) (some (.int ((xSendK S 8).1))) 0 0 (xput D h b ((xSendK S 8).2)) := by
  refine CT.of (L := [(0, .ref (b + 1)), (1, .ref (b + 208))]) (by decide +kernel) (Nat.le_of_ble_eq_true rfl) rfl ?_
  intro P E S0 M0 AR BL ME CO X hr hnm
  refine j_aload_n X 1 dX6_sendInto_0 rfl rfl ?_
  refine j_iconst X (v := 0) dX6_sendInto_1 (by decide) ?_
  refine j_putN X fN_RX6_150 fW_0_1 (xput_k 208 (by decide)) rfl rfl rfl (Nat.le_of_ble_eq_true rfl) dX6_sendInto_2 ?_
  refine j_heap (h' := xput D h b (xsc S 5 0)) xput_s5 ?_
  refine j_iconst X (v := 0) dX6_sendInto_5 (by decide) ?_
  refine j_istore_n X (L' := [(2, .int 0), (0, .ref (b + 1)), (1, .ref (b + 208))]) dX6_sendInto_6 rfl (by decide) rfl ?_
  refine j_iconst X (v := 0) dX6_sendInto_7 (by decide) ?_
  refine j_istore_n X (L' := [(3, .int 0), (2, .int 0), (0, .ref (b + 1)), (1, .ref (b + 208))]) dX6_sendInto_8 rfl (by decide) rfl ?_
  have loop9 : ∀ (n k : Nat), k + n = 8 → J P l E { frames := 4, cells := 0, slots := 0, locals := 93 } S0 M0 AR BL ME CO D B 4 (MQ BL (QC (some (.int ((xSendK S 8).1))) D B (z + 0) (xput D h b ((xSendK S 8).2))) AR S0 0 0 (aB B)) 0 0 z (xput D h b ((xSendK S k).2)) [(0, .ref (b + 1)), (1, .ref (b + 208)), (2, .int ((xSendK S k).1)), (3, .int (nI k))] [] 9 := by
    intro n
    induction n with
    | zero =>
      intro k hk
      obtain rfl : k = 8 := by omega
      refine j_iload_n X 3 dX6_sendInto_9 rfl rfl ?_
      refine j_bipush X (v := 8) dX6_sendInto_10 (by decide) ?_
      refine j_icmp_ge X (tgt := 41) dX6_sendInto_12 (by decide) (fun c_12 => ?_) (fun c_12 => absurd c_12 (by decide))
      refine j_iload_n X 2 dX6_sendInto_41 rfl rfl ?_
      exact j_iret X hr rfl (by first | with_reducible rfl | (simp only [if_neg c_12]; done) | (simp only [if_neg c_12]; rfl) | rfl) rfl (by first | with_reducible rfl | (simp only [if_neg c_12]; done) | (simp only [if_neg c_12]; rfl) | rfl) dX6_sendInto_42
    | succ n ih =>
      intro k hk
      have hlt : nI k < 8 := nlt_lit (b := 8) (by omega) (by decide)
      refine j_iload_n X 3 dX6_sendInto_9 rfl rfl ?_
      refine j_bipush X (v := 8) dX6_sendInto_10 (by decide) ?_
      refine j_icmp_ge X (tgt := 41) dX6_sendInto_12 (by decide) (fun c_12 => absurd hlt c_12) (fun c_12 => ?_)
      refine j_aload_n X 0 dX6_sendInto_15 rfl rfl ?_
      refine j_get X fG_RX6_27 (xput_k 1 (by decide)) rfl rfl dX6_sendInto_16 ?_
      refine j_iload_n X 3 dX6_sendInto_19 rfl rfl ?_
      refine j_heap (h' := hput D (xput D h b ((xSendK S k).2)) (b + 1) (((xSendK S k).2).1 0)) (xput_st (i := 0) (by decide)) ?_
      refine j_callVi X (rest := []) (c_X3_isOpen l) m_yX3_isOpen kM_RX6_110 (hput_k 3 (by decide)) rfl rfl rfl rfl rfl (Nat.le_of_ble_eq_true rfl) ⟨Nat.le_of_ble_eq_true rfl, Nat.le_of_ble_eq_true rfl, Nat.le_of_ble_eq_true rfl, Nat.le_of_ble_eq_true rfl⟩ dX6_sendInto_20 ?_
      refine j_heap (h' := xput D h b ((xSendK S k).2)) (xput_st (i := 0) (by decide)).symm ?_
      refine j_if_eq X (tgt := 35) dX6_sendInto_23 (by decide) (fun c_23 => ?_) (fun c_23 => ?_)
      · obtain ⟨v1, ev1⟩ : ∃ y : Int32, (nI k) + 1 = y := ⟨_, rfl⟩
        refine j_iinc X 3 (k := 1) (v := v1) (L' := [(3, .int v1), (0, .ref (b + 1)), (1, .ref (b + 208)), (2, .int ((xSendK S k).1))]) dX6_sendInto_35 rfl (by decide) (by decide) ev1 rfl ?_
        refine j_goto X (tgt := 9) dX6_sendInto_38 (by decide) ?_
        refine j_sub [1, 2, 3, 0] (L' := [(0, .ref (b + 1)), (1, .ref (b + 208)), (2, .int ((xSendK S (k + 1)).1)), (3, .int (nI (k + 1)))]) (by subst ev1; first | with_reducible rfl | (simp only [xSendK, nI_succ k, if_pos c_12, if_pos c_23]; done) | (simp only [xSendK, nI_succ k, if_pos c_12, if_pos c_23]; rfl) | rfl) ?_
        refine j_heap (h' := xput D h b ((xSendK S (k + 1)).2)) (by subst ev1; first | with_reducible rfl | (simp only [xSendK, nI_succ k, if_pos c_12, if_pos c_23]; done) | (simp only [xSendK, nI_succ k, if_pos c_12, if_pos c_23]; rfl) | rfl) ?_
        exact ih (k + 1) (by omega)
      · refine j_iload_n X 2 dX6_sendInto_26 rfl rfl ?_
        refine j_aload_n X 0 dX6_sendInto_27 rfl rfl ?_
        refine j_iload_n X 3 dX6_sendInto_28 rfl rfl ?_
        refine j_aload_n X 1 dX6_sendInto_29 rfl rfl ?_
        refine j_callVi X (rest := [.int ((xSendK S k).1)]) (c_X6_sendFrom l) m_yX6_sendFrom kM_RX6_163 (xput_k 1 (by decide)) rfl rfl rfl rfl rfl (Nat.le_of_ble_eq_true rfl) ⟨Nat.le_of_ble_eq_true rfl, Nat.le_of_ble_eq_true rfl, Nat.le_of_ble_eq_true rfl, Nat.le_of_ble_eq_true rfl⟩ dX6_sendInto_30 ?_
        refine j_iadd X dX6_sendInto_33 ?_
        refine j_tops (fun v2 ev2 => ?_)
        refine j_istore_n X (L' := [(2, .int v2), (0, .ref (b + 1)), (1, .ref (b + 208)), (3, .int (nI k))]) dX6_sendInto_34 rfl (by decide) rfl ?_
        obtain ⟨v3, ev3⟩ : ∃ y : Int32, (nI k) + 1 = y := ⟨_, rfl⟩
        refine j_iinc X 3 (k := 1) (v := v3) (L' := [(3, .int v3), (2, .int v2), (0, .ref (b + 1)), (1, .ref (b + 208))]) dX6_sendInto_35 rfl (by decide) (by decide) ev3 rfl ?_
        refine j_goto X (tgt := 9) dX6_sendInto_38 (by decide) ?_
        refine j_sub [2, 3, 1, 0] (L' := [(0, .ref (b + 1)), (1, .ref (b + 208)), (2, .int ((xSendK S (k + 1)).1)), (3, .int (nI (k + 1)))]) (by subst ev3 ev2; first | with_reducible rfl | (simp only [xSendK, nI_succ k, if_pos c_12, if_neg c_23]; done) | (simp only [xSendK, nI_succ k, if_pos c_12, if_neg c_23]; rfl) | rfl) ?_
        refine j_heap (h' := xput D h b ((xSendK S (k + 1)).2)) (by subst ev3 ev2; first | with_reducible rfl | (simp only [xSendK, nI_succ k, if_pos c_12, if_neg c_23]; done) | (simp only [xSendK, nI_succ k, if_pos c_12, if_neg c_23]; rfl) | rfl) ?_
        exact ih (k + 1) (by omega)
  refine j_sub [2, 3, 1, 0] (L' := [(0, .ref (b + 1)), (1, .ref (b + 208)), (2, .int ((xSendK S 0).1)), (3, .int (nI 0))]) (by first | with_reducible rfl | (simp only [xSendK]; done) | (simp only [xSendK]; rfl) | rfl) ?_
  refine j_heap (h' := xput D h b ((xSendK S 0).2)) (by first | with_reducible rfl | (simp only [xSendK]; done) | (simp only [xSendK]; rfl) | rfl) ?_
  exact loop9 8 0 rfl
