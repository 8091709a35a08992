set_option maxRecDepth 100000 in
set_option maxHeartbeats 8000000 in
theorem c_X9_pass (l : Launch) {D : DD} {B z : Nat} {h : HF} {b : Nat} {S : Sy} {sec : Int32} {nx : Nat} (hnx : nx < 4) (enx : S.2.1 1 = nI nx) : CT l yX9_pass cX9_pass 4 (some .int) 6 148 [.ref b, .int sec] D B z (xput D h b S) (some (.int ((xPass nx S sec).1))) 0 0 (xput D h b ((xPass nx S sec).2)) := by
  refine CT.of (L := [(0, .ref b), (1, .int sec)]) (by decide +kernel) (Nat.le_of_ble_eq_true rfl) rfl ?_
  intro P E S0 M0 AR BL ME CO X hr hnm
  refine j_iload_n X 1 dX9_pass_0 rfl rfl ?_
  refine j_iconst X (v := 1) dX9_pass_1 (by decide) ?_
  refine j_icmp_lt X (tgt := 11) dX9_pass_2 (by decide) (fun c_2 => ?_) (fun c_2 => ?_)
  · refine j_bipush X (v := (-2)) dX9_pass_11 (by decide) ?_
    exact j_iret X hr rfl (by first | with_reducible rfl | (simp only [xPass, if_pos c_2]; done) | (simp only [xPass, if_pos c_2]; rfl) | rfl) rfl (by first | with_reducible rfl | (simp only [xPass, if_pos c_2]; done) | (simp only [xPass, if_pos c_2]; rfl) | rfl) dX9_pass_13
  · refine j_iload_n X 1 dX9_pass_5 rfl rfl ?_
    refine j_bipush X (v := 10) dX9_pass_6 (by decide) ?_
    refine j_icmp_le X (tgt := 14) dX9_pass_8 (by decide) (fun c_8 => ?_) (fun c_8 => ?_)
    · refine j_aload_n X 0 dX9_pass_14 rfl rfl ?_
      refine j_get X fG_RX9_25 xput_0 rfl rfl dX9_pass_15 ?_
      refine j_aload_n X 0 dX9_pass_18 rfl rfl ?_
      refine j_get X fG_RX9_10 xput_0 rfl rfl dX9_pass_19 ?_
      refine j_callVv X (rest := []) (c_X1_record l hnx enx) m_yX1_record kM_RX9_56 (xput_k 88 (by decide)) rfl rfl rfl rfl rfl (Nat.le_of_ble_eq_true rfl) ⟨Nat.le_of_ble_eq_true rfl, Nat.le_of_ble_eq_true rfl, Nat.le_of_ble_eq_true rfl, Nat.le_of_ble_eq_true rfl⟩ dX9_pass_22 ?_
      refine j_iconst X (v := 0) dX9_pass_25 (by decide) ?_
      refine j_istore_n X (L' := [(2, .int 0), (0, .ref b), (1, .int sec)]) dX9_pass_26 rfl (by decide) rfl ?_
      refine j_iconst X (v := 0) dX9_pass_27 (by decide) ?_
      refine j_istore_n X (L' := [(3, .int 0), (2, .int 0), (0, .ref b), (1, .int sec)]) dX9_pass_28 rfl (by decide) rfl ?_
      have loop29 : ∀ (n k : Nat), k + n = sec.toNatClampNeg → J P l E { frames := 6, cells := 0, slots := 0, locals := 148 } S0 M0 AR BL ME CO D B 4 (MQ BL (QC (some (.int ((xPass nx S sec).1))) D B (z + 0) (xput D h b ((xPass nx S sec).2))) AR S0 0 0 (aB B)) 0 0 z (xput D h b ((xPassK (xRec nx S) k).2)) [(0, .ref b), (1, .int sec), (2, .int ((xPassK (xRec nx S) k).1)), (3, .int (nI k))] [] 29 := by
        intro n
        induction n with
        | zero =>
          intro k hk
          obtain rfl : k = sec.toNatClampNeg := by omega
          refine j_iload_n X 3 dX9_pass_29 rfl rfl ?_
          refine j_iload_n X 1 dX9_pass_30 rfl rfl ?_
          refine j_icmp_ge X (tgt := 73) dX9_pass_31 (by decide) (fun c_31 => ?_) (fun c_31 => absurd c_31 (cl_nlt _))
          refine j_iload_n X 2 dX9_pass_73 rfl rfl ?_
          exact j_iret X hr rfl (by first | with_reducible rfl | (simp only [xPass, if_neg c_2, if_neg c_8, if_neg c_31]; done) | (simp only [xPass, if_neg c_2, if_neg c_8, if_neg c_31]; rfl) | rfl) rfl (by first | with_reducible rfl | (simp only [xPass, if_neg c_2, if_neg c_8, if_neg c_31]; done) | (simp only [xPass, if_neg c_2, if_neg c_8, if_neg c_31]; rfl) | rfl) dX9_pass_74
        | succ n ih =>
          intro k hk
          refine j_iload_n X 3 dX9_pass_29 rfl rfl ?_
          refine j_iload_n X 1 dX9_pass_30 rfl rfl ?_
          refine j_icmp_ge X (tgt := 73) dX9_pass_31 (by decide) (fun c_31 => absurd (cl_lt (x := sec) (by omega)) c_31) (fun c_31 => ?_)
          refine j_iload_n X 2 dX9_pass_34 rfl rfl ?_
          refine j_aload_n X 0 dX9_pass_35 rfl rfl ?_
          refine j_get X fG_RX9_10 xput_0 rfl rfl dX9_pass_36 ?_
          refine j_aload_n X 0 dX9_pass_39 rfl rfl ?_
          refine j_get X fG_RX9_39 xput_0 rfl rfl dX9_pass_40 ?_
          refine j_callVi X (rest := [.int ((xPassK (xRec nx S) k).1)]) (c_X6_sendInto l) m_yX6_sendInto kM_RX9_138 (xput_k 1 (by decide)) rfl rfl rfl rfl rfl (Nat.le_of_ble_eq_true rfl) ⟨Nat.le_of_ble_eq_true rfl, Nat.le_of_ble_eq_true rfl, Nat.le_of_ble_eq_true rfl, Nat.le_of_ble_eq_true rfl⟩ dX9_pass_43 ?_
          refine j_iadd X dX9_pass_46 ?_
          refine j_tops (fun v1 ev1 => ?_)
          refine j_istore_n X (L' := [(2, .int v1), (0, .ref b), (1, .int sec), (3, .int (nI k))]) dX9_pass_47 rfl (by decide) rfl ?_
          refine j_aload_n X 1 dX9_pass_48 rfl rfl ?_
          refine j_get X fG_RX9_10 xput_0 rfl rfl dX9_pass_49 ?_
          refine j_aload_n X 1 dX9_pass_52 rfl rfl ?_
          refine j_get X fG_RX9_39 xput_0 rfl rfl dX9_pass_53 ?_
          refine j_callVi X (rest := []) (c_X6_letIn l) m_yX6_letIn kM_RX9_142 (xput_k 1 (by decide)) rfl rfl rfl rfl rfl (Nat.le_of_ble_eq_true rfl) ⟨Nat.le_of_ble_eq_true rfl, Nat.le_of_ble_eq_true rfl, Nat.le_of_ble_eq_true rfl, Nat.le_of_ble_eq_true rfl⟩ dX9_pass_56 ?_
          refine j_pop X dX9_pass_59 rfl ?_
          refine j_aload_n X 1 dX9_pass_60 rfl rfl ?_
          refine j_get X fG_RX9_10 xput_0 rfl rfl dX9_pass_61 ?_
          refine j_heap (h' := hput D (xput D h b ((xLetIn ((xSendK ((xPassK (xRec nx S) k).2) 8).2)).2)) (b + 1) (((xLetIn ((xSendK ((xPassK (xRec nx S) k).2) 8).2)).2).1 0)) (xput_st (i := 0) (by decide)) ?_
          refine j_callVv X (rest := []) (c_X6_endSecond l) m_yX6_endSecond kM_RX9_145 hput_0 rfl rfl rfl rfl rfl (Nat.le_of_ble_eq_true rfl) ⟨Nat.le_of_ble_eq_true rfl, Nat.le_of_ble_eq_true rfl, Nat.le_of_ble_eq_true rfl, Nat.le_of_ble_eq_true rfl⟩ dX9_pass_64 ?_
          refine j_heap (h' := xput D h b (xst ((xLetIn ((xSendK ((xPassK (xRec nx S) k).2) 8).2)).2) 0 (sEnd (((xLetIn ((xSendK ((xPassK (xRec nx S) k).2) 8).2)).2).1 0)))) (xst_st (i := 0) (by decide)) ?_
          obtain ⟨v2, ev2⟩ : ∃ y : Int32, (nI k) + 1 = y := ⟨_, rfl⟩
          refine j_iinc X 3 (k := 1) (v := v2) (L' := [(3, .int v2), (2, .int v1), (0, .ref b), (1, .int sec)]) dX9_pass_67 rfl (by decide) (by decide) ev2 rfl ?_
          refine j_goto X (tgt := 29) dX9_pass_70 (by decide) ?_
          refine j_sub [2, 3, 1, 0] (L' := [(0, .ref b), (1, .int sec), (2, .int ((xPassK (xRec nx S) (k + 1)).1)), (3, .int (nI (k + 1)))]) (by subst ev2 ev1; first | with_reducible rfl | (simp only [xPassK, xSec, nI_succ k, if_neg c_2, if_neg c_8, if_pos c_31]; done) | (simp only [xPassK, xSec, nI_succ k, if_neg c_2, if_neg c_8, if_pos c_31]; rfl) | rfl) ?_
          refine j_heap (h' := xput D h b ((xPassK (xRec nx S) (k + 1)).2)) (by subst ev2 ev1; first | with_reducible rfl | (simp only [xPassK, xSec, nI_succ k, if_neg c_2, if_neg c_8, if_pos c_31]; done) | (simp only [xPassK, xSec, nI_succ k, if_neg c_2, if_neg c_8, if_pos c_31]; rfl) | rfl) ?_
          exact ih (k + 1) (by omega)
      refine j_sub [2, 3, 1, 0] (L' := [(0, .ref b), (1, .int sec), (2, .int ((xPassK (xRec nx S) 0).1)), (3, .int (nI 0))]) (by first | with_reducible rfl | (simp only [xPassK, xSec, if_neg c_2, if_neg c_8]; done) | (simp only [xPassK, xSec, if_neg c_2, if_neg c_8]; rfl) | rfl) ?_
      refine j_heap (h' := xput D h b ((xPassK (xRec nx S) 0).2)) (by first | with_reducible rfl | (simp only [xPassK, xSec, if_neg c_2, if_neg c_8]; done) | (simp only [xPassK, xSec, if_neg c_2, if_neg c_8]; rfl) | rfl) ?_
      exact loop29 sec.toNatClampNeg 0 (by omega)
    · refine j_bipush X (v := (-2)) dX9_pass_11 (by decide) ?_
      exact j_iret X hr rfl (by first | with_reducible rfl | (simp only [xPass, if_neg c_2, if_pos c_8]; done) | (simp only [xPass, if_neg c_2, if_pos c_8]; rfl) | rfl) rfl (by first | with_reducible rfl | (simp only [xPass, if_neg c_2, if_pos c_8]; done) | (simp only [xPass, if_neg c_2, if_pos c_8]; rfl) | rfl) dX9_pass_13
