set_option maxRecDepth 100000 in
set_option maxHeartbeats 8000000 in
theorem c_X8_signAt (l : Launch) {D : DD} {B z : Nat} {h : HF} {b : Nat} {S : Sy} {i : Int32}  : CT l yX8_signAt cX8_signAt 2 (some .int) 0 0 [.ref (b + 206), .int i] D B z (xput D h b S) (some (.int (tSign S i))) 0 0 (xput D h b S) := by
  refine CT.of (L := [(0, .ref (b + 206)), (1, .int i)]) (by decide +kernel) (Nat.le_of_ble_eq_true rfl) rfl ?_
  intro P E S0 M0 AR BL ME CO X hr hnm
  refine j_iload_n X 1 dX8_signAt_0 rfl rfl ?_
  refine j_if_lt X (tgt := 30) dX8_signAt_1 (by decide) (fun c_1 => ?_) (fun c_1 => ?_)
  · refine j_iconst X (v := (-1)) dX8_signAt_30 (by decide) ?_
    exact j_iret X hr rfl (by first | with_reducible rfl | (simp only [tSign, if_pos c_1]; done) | (simp only [tSign, if_pos c_1]; rfl) | rfl) rfl (by first | with_reducible rfl | (simp only [tSign, if_pos c_1]; done) | (simp only [tSign, if_pos c_1]; rfl) | rfl) dX8_signAt_31
  · refine j_iload_n X 1 dX8_signAt_4 rfl rfl ?_
    refine j_aload_n X 0 dX8_signAt_5 rfl rfl ?_
    refine j_get X fG_RX8_15 (xput_k 206 (by decide)) rfl rfl dX8_signAt_6 ?_
    refine j_icmp_ge X (tgt := 30) dX8_signAt_9 (by decide) (fun c_9 => ?_) (fun c_9 => ?_)
    · refine j_iconst X (v := (-1)) dX8_signAt_30 (by decide) ?_
      exact j_iret X hr rfl (by first | with_reducible rfl | (simp only [tSign, if_neg c_1, if_neg c_9]; done) | (simp only [tSign, if_neg c_1, if_neg c_9]; rfl) | rfl) rfl (by first | with_reducible rfl | (simp only [tSign, if_neg c_1, if_neg c_9]; done) | (simp only [tSign, if_neg c_1, if_neg c_9]; rfl) | rfl) dX8_signAt_31
    · refine j_iload_n X 1 dX8_signAt_12 rfl rfl ?_
      refine j_aload_n X 0 dX8_signAt_13 rfl rfl ?_
      refine j_get X fG_RX8_9 (xput_k 206 (by decide)) rfl rfl dX8_signAt_14 ?_
      refine j_alen X (k := 1) (v := 70) rfl (xput_k 207 (by decide)) rfl rfl dX8_signAt_17 ?_
      refine j_icmp_ge X (tgt := 30) dX8_signAt_18 (by decide) (fun c_18 => ?_) (fun c_18 => ?_)
      · refine j_iconst X (v := (-1)) dX8_signAt_30 (by decide) ?_
        exact j_iret X hr rfl (by first | with_reducible rfl | (simp only [tSign, if_neg c_1, if_pos c_9, if_neg c_18]; done) | (simp only [tSign, if_neg c_1, if_pos c_9, if_neg c_18]; rfl) | rfl) rfl (by first | with_reducible rfl | (simp only [tSign, if_neg c_1, if_pos c_9, if_neg c_18]; done) | (simp only [tSign, if_neg c_1, if_pos c_9, if_neg c_18]; rfl) | rfl) dX8_signAt_31
      · refine j_aload_n X 0 dX8_signAt_21 rfl rfl ?_
        refine j_get X fG_RX8_9 (xput_k 206 (by decide)) rfl rfl dX8_signAt_22 ?_
        refine j_iload_n X 1 dX8_signAt_25 rfl rfl ?_
        refine j_cald X (xput_k 207 (by decide)) rfl (vp_in_c (n := 70) (by decide) c_1 c_18) dX8_signAt_26 ?_
        refine j_goto X (tgt := 31) dX8_signAt_27 (by decide) ?_
        exact j_iret X hr rfl (by first | with_reducible rfl | (simp only [tSign, if_neg c_1, if_pos c_9, if_pos c_18]; done) | (simp only [tSign, if_neg c_1, if_pos c_9, if_pos c_18]; rfl) | rfl) rfl (by first | with_reducible rfl | (simp only [tSign, if_neg c_1, if_pos c_9, if_pos c_18]; done) | (simp only [tSign, if_neg c_1, if_pos c_9, if_pos c_18]; rfl) | rfl) dX8_signAt_31
set_option maxRecDepth 100000 in
set_option maxHeartbeats 8000000 in
theorem c_X8_skip (l : Launch) {D : DD} {B z : Nat} {h : HF} {b : Nat} {S : Sy} {c : Int32}  : CT l yX8_skip cX8_skip 2 (some .boolean) 1 21 [.ref (b + 206), .int c] D B z (xput D h b S) (some (.int ((tSkip S c).1))) 0 0 (xput D h b ((tSkip S c).2)) := by
  refine CT.of (L := [(0, .ref (b + 206)), (1, .int c)]) (by decide +kernel) (Nat.le_of_ble_eq_true rfl) rfl ?_
  intro P E S0 M0 AR BL ME CO X hr hnm
  refine j_aload_n X 0 dX8_skip_0 rfl rfl ?_
  refine j_aload_n X 0 dX8_skip_1 rfl rfl ?_
  refine j_get X fG_RX8_24 (xput_k 206 (by decide)) rfl rfl dX8_skip_2 ?_
  refine j_callVi X (rest := []) (c_X8_signAt l) m_yX8_signAt kM_RX8_47 (xput_k 206 (by decide)) rfl rfl rfl rfl rfl (Nat.le_of_ble_eq_true rfl) ⟨Nat.le_of_ble_eq_true rfl, Nat.le_of_ble_eq_true rfl, Nat.le_of_ble_eq_true rfl, Nat.le_of_ble_eq_true rfl⟩ dX8_skip_5 ?_
  refine j_iload_n X 1 dX8_skip_8 rfl rfl ?_
  refine j_icmp_eq X (tgt := 14) dX8_skip_9 (by decide) (fun c_9 => ?_) (fun c_9 => ?_)
  · refine j_aload_n X 0 dX8_skip_14 rfl rfl ?_
    refine j_dup X dX8_skip_15 rfl ?_
    refine j_get X fG_RX8_24 (xput_k 206 (by decide)) rfl rfl dX8_skip_16 ?_
    refine j_iconst X (v := 1) dX8_skip_19 (by decide) ?_
    refine j_iadd X dX8_skip_20 ?_
    refine j_put X fG_RX8_24 fW_8_2 (xput_k 206 (by decide)) rfl rfl rfl (Nat.le_of_ble_eq_true rfl) dX8_skip_21 ?_
    refine j_heap (h' := xput D h b (xsc S 4 ((S.2.1 4) + 1))) xput_s4 ?_
    refine j_iconst X (v := 1) dX8_skip_24 (by decide) ?_
    exact j_iret X hr rfl (by first | with_reducible rfl | (simp only [tSkip, if_pos c_9]; done) | (simp only [tSkip, if_pos c_9]; rfl) | rfl) rfl (by first | with_reducible rfl | (simp only [tSkip, if_pos c_9]; done) | (simp only [tSkip, if_pos c_9]; rfl) | rfl) dX8_skip_25
  · refine j_iconst X (v := 0) dX8_skip_12 (by decide) ?_
    exact j_iret X hr rfl (by first | with_reducible rfl | (simp only [tSkip, if_neg c_9]; done) | (simp only [tSkip, if_neg c_9]; rfl) | rfl) rfl (by first | with_reducible rfl | (simp only [tSkip, if_neg c_9]; done) | (simp only [tSkip, if_neg c_9]; rfl) | rfl) dX8_skip_13
set_option maxRecDepth 100000 in
set_option maxHeartbeats 8000000 in
theorem c_X8_readDigit (l : Launch) {D : DD} {B z : Nat} {h : HF} {b : Nat} {S : Sy} {lo hi : Int32}  : CT l yX8_readDigit cX8_readDigit 4 (some .int) 1 21 [.ref (b + 206), .int lo, .int hi] D B z (xput D h b S) (some (.int ((tDigit S lo hi).1))) 0 0 (xput D h b ((tDigit S lo hi).2)) := by
  refine CT.of (L := [(0, .ref (b + 206)), (1, .int lo), (2, .int hi)]) (by decide +kernel) (Nat.le_of_ble_eq_true rfl) rfl ?_
  intro P E S0 M0 AR BL ME CO X hr hnm
  refine j_aload_n X 0 dX8_readDigit_0 rfl rfl ?_
  refine j_aload_n X 0 dX8_readDigit_1 rfl rfl ?_
  refine j_get X fG_RX8_24 (xput_k 206 (by decide)) rfl rfl dX8_readDigit_2 ?_
  refine j_callVi X (rest := []) (c_X8_signAt l) m_yX8_signAt kM_RX8_47 (xput_k 206 (by decide)) rfl rfl rfl rfl rfl (Nat.le_of_ble_eq_true rfl) ⟨Nat.le_of_ble_eq_true rfl, Nat.le_of_ble_eq_true rfl, Nat.le_of_ble_eq_true rfl, Nat.le_of_ble_eq_true rfl⟩ dX8_readDigit_5 ?_
  refine j_bipush X (v := 48) dX8_readDigit_8 (by decide) ?_
  refine j_isub X dX8_readDigit_10 ?_
  refine j_tops (fun v1 ev1 => ?_)
  refine j_istore_n X (L' := [(3, .int v1), (0, .ref (b + 206)), (1, .int lo), (2, .int hi)]) dX8_readDigit_11 rfl (by decide) rfl ?_
  refine j_iload_n X 0 dX8_readDigit_12 rfl rfl ?_
  refine j_iload_n X 2 dX8_readDigit_13 rfl rfl ?_
  refine j_icmp_lt X (tgt := 22) dX8_readDigit_14 (by decide) (fun c_14 => ?_) (fun c_14 => ?_)
  · refine j_bipush X (v := (-4)) dX8_readDigit_22 (by decide) ?_
    exact j_iret X hr rfl (by subst ev1; first | with_reducible rfl | (simp only [tDigit, if_pos c_14]; done) | (simp only [tDigit, if_pos c_14]; rfl) | rfl) rfl (by subst ev1; first | with_reducible rfl | (simp only [tDigit, if_pos c_14]; done) | (simp only [tDigit, if_pos c_14]; rfl) | rfl) dX8_readDigit_24
  · refine j_iload_n X 0 dX8_readDigit_17 rfl rfl ?_
    refine j_iload_n X 3 dX8_readDigit_18 rfl rfl ?_
    refine j_icmp_le X (tgt := 25) dX8_readDigit_19 (by decide) (fun c_19 => ?_) (fun c_19 => ?_)
    · refine j_aload_n X 1 dX8_readDigit_25 rfl rfl ?_
      refine j_dup X dX8_readDigit_26 rfl ?_
      refine j_get X fG_RX8_24 (xput_k 206 (by decide)) rfl rfl dX8_readDigit_27 ?_
      refine j_iconst X (v := 1) dX8_readDigit_30 (by decide) ?_
      refine j_iadd X dX8_readDigit_31 ?_
      refine j_put X fG_RX8_24 fW_8_2 (xput_k 206 (by decide)) rfl rfl rfl (Nat.le_of_ble_eq_true rfl) dX8_readDigit_32 ?_
      refine j_heap (h' := xput D h b (xsc S 4 ((S.2.1 4) + 1))) xput_s4 ?_
      refine j_iload_n X 0 dX8_readDigit_35 rfl rfl ?_
      exact j_iret X hr rfl (by subst ev1; first | with_reducible rfl | (simp only [tDigit, if_neg c_14, if_neg c_19]; done) | (simp only [tDigit, if_neg c_14, if_neg c_19]; rfl) | rfl) rfl (by subst ev1; first | with_reducible rfl | (simp only [tDigit, if_neg c_14, if_neg c_19]; done) | (simp only [tDigit, if_neg c_14, if_neg c_19]; rfl) | rfl) dX8_readDigit_36
    · refine j_bipush X (v := (-4)) dX8_readDigit_22 (by decide) ?_
      exact j_iret X hr rfl (by subst ev1; first | with_reducible rfl | (simp only [tDigit, if_neg c_14, if_pos c_19]; done) | (simp only [tDigit, if_neg c_14, if_pos c_19]; rfl) | rfl) rfl (by subst ev1; first | with_reducible rfl | (simp only [tDigit, if_neg c_14, if_pos c_19]; done) | (simp only [tDigit, if_neg c_14, if_pos c_19]; rfl) | rfl) dX8_readDigit_24
