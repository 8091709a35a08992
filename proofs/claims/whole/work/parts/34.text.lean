set_option maxRecDepth 100000 in
set_option maxHeartbeats 8000000 in
theorem c_X8_signAt (l : Launch) {D : DD} {B z : Nat} {h : HF} {b : Nat} {S : Sy} {i : Int32}  : CT l yX8_signAt cX8_signAt 2 (some .int) 0 0 [.ref (b + 206), .int i] D B z (xput D h b S) (some (.int (tSign S i))) 0 0 (xput D h b S) := by
  refine CT.of (L := [(0, .ref (b + 206)), (1, .int i)]) (by decide +kernel) (Nat.le_of_ble_eq_true rfl) rfl ?_
  intro P E S0 M0 AR BL ME CO X hr hnm
  refine j_iload_n X 1 dX8_signAt_0 rfl rfl ?_
  refine j_if_lt X (tgt := 30) dX8_signAt_1 (by decide) (fun c_1 => ?_) (fun c_1 => ?_)
  · refine j_iconst X (v := (-1)) dX8_signAt_30 (by decide) ?_
    exact j_iret X hr rfl (by first | with_reducible rfl | (simp only [tSign, if_pos c_1]; done) | (simp only [tSign, if_pos c_1]; rfl) | rfl) rfl (by first | with_reducible rfl | (simp only [tSign, if_pos c_1]; done) | (simp only [tSign, if_pos c_1]; rfl) | rfl) dX8_signAt_31
  · refine j_iload_n X 1 dX8_signAt_4 rfl rfl ?_
    refine j_aload_n X 0 dX8_signAt_5 rfl rfl ?_
    refine j_get X fG_RX8_15 (xput_k 206 (by decide)) rfl rfl dX8_signAt_6 ?_
    refine j_icmp_ge X (tgt := 30) dX8_signAt_9 (by decide) (fun c_9 => ?_) (fun c_9 => ?_)
    · refine j_iconst X (v := (-1)) dX8_signAt_30 (by decide) ?_
      exact j_iret X hr rfl (by first | with_reducible rfl | (simp only [tSign, if_neg c_1, if_neg c_9]; done) | (simp only [tSign, if_neg c_1, if_neg c_9]; rfl) | rfl) rfl (by first | with_reducible rfl | (simp only [tSign, if_neg c_1, if_neg c_9]; done) | (simp only [tSign, if_neg c_1, if_neg c_9]; rfl) | rfl) dX8_signAt_31
    · refine j_iload_n X 1 dX8_signAt_12 rfl rfl ?_
      refine j_aload_n X 0 dX8_signAt_13 rfl rfl ?_
      refine j_get X fG_RX8_9 (xput_k 206 (by decide)) rfl rfl dX8_signAt_14 ?_
      refine j_alen X (k := 1) (v := 70) rfl (xput_k 207 (by decide)) rfl rfl dX8_signAt_17 ?_
      refine j_icmp_ge X (tgt := 30) dX8_signAt_18 (by decide) (fun c_18 => ?_) (fun c_18 => ?_)
      · refine j_iconst X (v := (-1)) dX8_signAt_30 (by decide) ?_
        exact j_iret X hr rfl (by first | with_reducible rfl | (simp only [tSign, if_neg c_1, if_pos c_9, if_neg c_18]; done) | (simp only [tSign, if_neg c_1, if_pos c_9, if_neg c_18]; rfl) | rfl) rfl (by first | with_reducible rfl | (simp only [tSign, if_neg c_1, if_pos c_9, if_neg c_18]; done) | (simp only [tSign, if_neg c_1, if_pos c_9, if_neg c_18]; rfl) | rfl) dX8_signAt_31
      · refine j_aload_n X 0 dX8_signAt_21 rfl rfl ?_
        refine j_get X fG_RX8_9 (xput_k 206 (by decide)) rfl rfl dX8_signAt_22 ?_
        refine j_iload_n X 1 dX8_signAt_25 rfl rfl ?_
        refine j_cald X (xput_k 207 (by decide)) rfl (vp_in_c (n := 70) (by decide) c_1 c_18) dX8_signAt_26 ?_
        refine j_goto X (tgt := 31) dX8_signAt_27 (by decide) ?_
        exact j_iret X hr rfl (by first | with_reducible rfl | (simp only [tSign, if_neg c_1, if_pos c_9, if_pos c_18]; done) | (simp only [tSign, if_neg c_1, if_pos c_9, if_pos c_18]; rfl) | rfl) rfl (by first | with_reducible rfl | (simp only [tSign, if_neg c_1, if_pos c_9, if_pos c_18]; done) | (simp only [tSign, if_neg c_1, if_pos c_9, if_pos c_18]; rfl) | rfl) dX8_signAt_31
set_option maxRecDepth 100000 in
set_option maxHeartbeats 8000000 in
theorem c_X8_append (l : Launch) {D : DD} {B z : Nat} {h : HF} {b : Nat} {S : Sy} {c : Int32}  : CT l yX8_append cX8_append 2 (some .boolean) 0 0 [.ref (b + 206), .int c] D B z (xput D h b S) (some (.int ((tAppend S c).1))) 0 0 (xput D h b ((tAppend S c).2)) := by
  refine CT.of (L := [(0, .ref (b + 206)), (1, .int c)]) (by decide +kernel) (Nat.le_of_ble_eq_true rfl) rfl ?_
  intro P E S0 M0 AR BL ME CO X hr hnm
  refine j_aload_n X 0 dX8_append_0 rfl rfl ?_
  refine j_get X fG_RX8_15 (xput_k 206 (by decide)) rfl rfl dX8_append_1 ?_
  refine j_if_lt X (tgt := 19) dX8_append_4 (by decide) (fun c_4 => ?_) (fun c_4 => ?_)
  · refine j_iconst X (v := 0) dX8_append_19 (by decide) ?_
    exact j_iret X hr rfl (by first | with_reducible rfl | (simp only [tAppend, if_pos c_4]; done) | (simp only [tAppend, if_pos c_4]; rfl) | rfl) rfl (by first | with_reducible rfl | (simp only [tAppend, if_pos c_4]; done) | (simp only [tAppend, if_pos c_4]; rfl) | rfl) dX8_append_20
  · refine j_aload_n X 0 dX8_append_7 rfl rfl ?_
    refine j_get X fG_RX8_15 (xput_k 206 (by decide)) rfl rfl dX8_append_8 ?_
    refine j_aload_n X 0 dX8_append_11 rfl rfl ?_
    refine j_get X fG_RX8_9 (xput_k 206 (by decide)) rfl rfl dX8_append_12 ?_
    refine j_alen X (k := 1) (v := 70) rfl (xput_k 207 (by decide)) rfl rfl dX8_append_15 ?_
    refine j_icmp_lt X (tgt := 21) dX8_append_16 (by decide) (fun c_16 => ?_) (fun c_16 => ?_)
    · refine j_aload_n X 0 dX8_append_21 rfl rfl ?_
      refine j_get X fG_RX8_9 (xput_k 206 (by decide)) rfl rfl dX8_append_22 ?_
      refine j_aload_n X 0 dX8_append_25 rfl rfl ?_
      refine j_get X fG_RX8_15 (xput_k 206 (by decide)) rfl rfl dX8_append_26 ?_
      refine j_iload_n X 1 dX8_append_29 rfl rfl ?_
      refine j_cast X (xput_k 207 (by decide)) rfl (vp_in_c (n := 70) (by decide) c_4 c_16) dX8_append_30 ?_
      refine j_heap (h' := xput D h b (xar S 0 (upd (S.2.2 0) (S.2.1 3).toNatClampNeg (vp_nar .char c)))) xput_a0 ?_
      refine j_aload_n X 0 dX8_append_31 rfl rfl ?_
      refine j_dup X dX8_append_32 rfl ?_
      refine j_get X fG_RX8_15 (xput_k 206 (by decide)) rfl rfl dX8_append_33 ?_
      refine j_iconst X (v := 1) dX8_append_36 (by decide) ?_
      refine j_iadd X dX8_append_37 ?_
      refine j_put X fG_RX8_15 fW_8_1 (xput_k 206 (by decide)) rfl rfl rfl (Nat.le_of_ble_eq_true rfl) dX8_append_38 ?_
      refine j_heap (h' := xput D h b (xsc (xar S 0 (upd (S.2.2 0) (S.2.1 3).toNatClampNeg (vp_nar .char c))) 3 (((xar S 0 (upd (S.2.2 0) (S.2.1 3).toNatClampNeg (vp_nar .char c))).2.1 3) + 1))) xput_s3 ?_
      refine j_iconst X (v := 1) dX8_append_41 (by decide) ?_
      exact j_iret X hr rfl (by first | with_reducible rfl | (simp only [tAppend, if_neg c_4, if_pos c_16]; done) | (simp only [tAppend, if_neg c_4, if_pos c_16]; rfl) | rfl) rfl (by first | with_reducible rfl | (simp only [tAppend, if_neg c_4, if_pos c_16]; done) | (simp only [tAppend, if_neg c_4, if_pos c_16]; rfl) | rfl) dX8_append_42
    · refine j_iconst X (v := 0) dX8_append_19 (by decide) ?_
      exact j_iret X hr rfl (by first | with_reducible rfl | (simp only [tAppend, if_neg c_4, if_neg c_16]; done) | (simp only [tAppend, if_neg c_4, if_neg c_16]; rfl) | rfl) rfl (by first | with_reducible rfl | (simp only [tAppend, if_neg c_4, if_neg c_16]; done) | (simp only [tAppend, if_neg c_4, if_neg c_16]; rfl) | rfl) dX8_append_20
set_option maxRecDepth 100000 in
set_option maxHeartbeats 8000000 in
theorem c_X8_skip (l : Launch) {D : DD} {B z : Nat} {h : HF} {b : Nat} {S : Sy} {c : Int32}  : CT l yX8_skip cX8_skip 2 (some .boolean) 1 21 [.ref (b + 206), .int c] D B z (xput D h b S) (some (.int ((tSkip S c).1))) 0 0 (xput D h b ((tSkip S c).2)) := by
  refine CT.of (L := [(0, .ref (b + 206)), (1, .int c)]) (by decide +kernel) (Nat.le_of_ble_eq_true rfl) rfl ?_
  intro P E S0 M0 AR BL ME CO X hr hnm
  refine j_aload_n X 0 dX8_skip_0 rfl rfl ?_
  refine j_aload_n X 0 dX8_skip_1 rfl rfl ?_
  refine j_get X fG_RX8_24 (xput_k 206 (by decide)) rfl rfl dX8_skip_2 ?_
  refine j_callVi X (rest := []) (c_X8_signAt l) m_yX8_signAt kM_RX8_47 (xput_k 206 (by decide)) rfl rfl rfl rfl rfl (Nat.le_of_ble_eq_true rfl) ⟨Nat.le_of_ble_eq_true rfl, Nat.le_of_ble_eq_true rfl, Nat.le_of_ble_eq_true rfl, Nat.le_of_ble_eq_true rfl⟩ dX8_skip_5 ?_
  refine j_iload_n X 1 dX8_skip_8 rfl rfl ?_
  refine j_icmp_eq X (tgt := 14) dX8_skip_9 (by decide) (fun c_9 => ?_) (fun c_9 => ?_)
  · refine j_aload_n X 0 dX8_skip_14 rfl rfl ?_
    refine j_dup X dX8_skip_15 rfl ?_
    refine j_get X fG_RX8_24 (xput_k 206 (by decide)) rfl rfl dX8_skip_16 ?_
    refine j_iconst X (v := 1) dX8_skip_19 (by decide) ?_
    refine j_iadd X dX8_skip_20 ?_
    refine j_put X fG_RX8_24 fW_8_2 (xput_k 206 (by decide)) rfl rfl rfl (Nat.le_of_ble_eq_true rfl) dX8_skip_21 ?_
    refine j_heap (h' := xput D h b (xsc S 4 ((S.2.1 4) + 1))) xput_s4 ?_
    refine j_iconst X (v := 1) dX8_skip_24 (by decide) ?_
    exact j_iret X hr rfl (by first | with_reducible rfl | (simp only [tSkip, if_pos c_9]; done) | (simp only [tSkip, if_pos c_9]; rfl) | rfl) rfl (by first | with_reducible rfl | (simp only [tSkip, if_pos c_9]; done) | (simp only [tSkip, if_pos c_9]; rfl) | rfl) dX8_skip_25
  · refine j_iconst X (v := 0) dX8_skip_12 (by decide) ?_
    exact j_iret X hr rfl (by first | with_reducible rfl | (simp only [tSkip, if_neg c_9]; done) | (simp only [tSkip, if_neg c_9]; rfl) | rfl) rfl (by first | with_reducible rfl | (simp only [tSkip, if_neg c_9]; done) | (simp only [tSkip, if_neg c_9]; rfl) | rfl) dX8_skip_13
set_option maxRecDepth 100000 in
set_option maxHeartbeats 8000000 in
theorem c_X8_readDigit (l : Launch) {D : DD} {B z : Nat} {h : HF} {b : Nat} {S : Sy} {lo hi : Int32}  : CT l yX8_readDigit cX8_readDigit 4 (some .int) 1 21 [.ref (b + 206), .int lo, .int hi] D B z (xput D h b S) (some (.int ((tDigit S lo hi).1))) 0 0 (xput D h b ((tDigit S lo hi).2)) := by
  refine CT.of (L := [(0, .ref (b + 206)), (1, .int lo), (2, .int hi)]) (by decide +kernel) (Nat.le_of_ble_eq_true rfl) rfl ?_
  intro P E S0 M0 AR BL ME CO X hr hnm
  refine j_aload_n X 0 dX8_readDigit_0 rfl rfl ?_
  refine j_aload_n X 0 dX8_readDigit_1 rfl rfl ?_
  refine j_get X fG_RX8_24 (xput_k 206 (by decide)) rfl rfl dX8_readDigit_2 ?_
  refine j_callVi X (rest := []) (c_X8_signAt l) m_yX8_signAt kM_RX8_47 (xput_k 206 (by decide)) rfl rfl rfl rfl rfl (Nat.le_of_ble_eq_true rfl) ⟨Nat.le_of_ble_eq_true rfl, Nat.le_of_ble_eq_true rfl, Nat.le_of_ble_eq_true rfl, Nat.le_of_ble_eq_true rfl⟩ dX8_readDigit_5 ?_
  refine j_bipush X (v := 48) dX8_readDigit_8 (by decide) ?_
  refine j_isub X dX8_readDigit_10 ?_
  refine j_top (fun v1 ev1 => ?_)
  refine j_istore_n X (L' := [(3, .int v1), (0, .ref (b + 206)), (1, .int lo), (2, .int hi)]) dX8_readDigit_11 rfl (by decide) rfl ?_
  refine j_iload_n X 0 dX8_readDigit_12 rfl rfl ?_
  refine j_iload_n X 2 dX8_readDigit_13 rfl rfl ?_
  refine j_icmp_lt X (tgt := 22) dX8_readDigit_14 (by decide) (fun c_14 => ?_) (fun c_14 => ?_)
  · refine j_bipush X (v := (-4)) dX8_readDigit_22 (by decide) ?_
    exact j_iret X hr rfl (by subst ev1; first | with_reducible rfl | (simp only [tDigit, if_pos c_14]; done) | (simp only [tDigit, if_pos c_14]; rfl) | rfl) rfl (by subst ev1; first | with_reducible rfl | (simp only [tDigit, if_pos c_14]; done) | (simp only [tDigit, if_pos c_14]; rfl) | rfl) dX8_readDigit_24
  · refine j_iload_n X 0 dX8_readDigit_17 rfl rfl ?_
    refine j_iload_n X 3 dX8_readDigit_18 rfl rfl ?_
    refine j_icmp_le X (tgt := 25) dX8_readDigit_19 (by decide) (fun c_19 => ?_) (fun c_19 => ?_)
    · refine j_aload_n X 1 dX8_readDigit_25 rfl rfl ?_
      refine j_dup X dX8_readDigit_26 rfl ?_
      refine j_get X fG_RX8_24 (xput_k 206 (by decide)) rfl rfl dX8_readDigit_27 ?_
      refine j_iconst X (v := 1) dX8_readDigit_30 (by decide) ?_
      refine j_iadd X dX8_readDigit_31 ?_
      refine j_put X fG_RX8_24 fW_8_2 (xput_k 206 (by decide)) rfl rfl rfl (Nat.le_of_ble_eq_true rfl) dX8_readDigit_32 ?_
      refine j_heap (h' := xput D h b (xsc S 4 ((S.2.1 4) + 1))) xput_s4 ?_
      refine j_iload_n X 0 dX8_readDigit_35 rfl rfl ?_
      exact j_iret X hr rfl (by subst ev1; first | with_reducible rfl | (simp only [tDigit, if_neg c_14, if_neg c_19]; done) | (simp only [tDigit, if_neg c_14, if_neg c_19]; rfl) | rfl) rfl (by subst ev1; first | with_reducible rfl | (simp only [tDigit, if_neg c_14, if_neg c_19]; done) | (simp only [tDigit, if_neg c_14, if_neg c_19]; rfl) | rfl) dX8_readDigit_36
    · refine j_bipush X (v := (-4)) dX8_readDigit_22 (by decide) ?_
      exact j_iret X hr rfl (by subst ev1; first | with_reducible rfl | (simp only [tDigit, if_neg c_14, if_pos c_19]; done) | (simp only [tDigit, if_neg c_14, if_pos c_19]; rfl) | rfl) rfl (by subst ev1; first | with_reducible rfl | (simp only [tDigit, if_neg c_14, if_pos c_19]; done) | (simp only [tDigit, if_neg c_14, if_pos c_19]; rfl) | rfl) dX8_readDigit_24
set_option maxRecDepth 100000 in
set_option maxHeartbeats 8000000 in
theorem c_X8_readAddress (l : Launch) {D : DD} {B z : Nat} {h : HF} {b : Nat} {S : Sy}  : CT l yX8_readAddress cX8_readAddress 3 (some .int) 2 44 [.ref (b + 206)] D B z (xput D h b S) (some (.int ((tAddress S).1))) 0 0 (xput D h b ((tAddress S).2)) := by
  refine CT.of (L := [(0, .ref (b + 206))]) (by decide +kernel) (Nat.le_of_ble_eq_true rfl) rfl ?_
  intro P E S0 M0 AR BL ME CO X hr hnm
  refine j_aload_n X 0 dX8_readAddress_0 rfl rfl ?_
  refine j_iconst X (v := 1) dX8_readAddress_1 (by decide) ?_
  refine j_bipush X (v := 9) dX8_readAddress_2 (by decide) ?_
  refine j_callVi X (rest := []) (c_X8_readDigit l) m_yX8_readDigit kM_RX8_39 (xput_k 206 (by decide)) rfl rfl rfl rfl rfl (Nat.le_of_ble_eq_true rfl) ⟨Nat.le_of_ble_eq_true rfl, Nat.le_of_ble_eq_true rfl, Nat.le_of_ble_eq_true rfl, Nat.le_of_ble_eq_true rfl⟩ dX8_readAddress_4 ?_
  refine j_top (fun v1 ev1 => ?_)
  refine j_istore_n X (L' := [(1, .int v1), (0, .ref (b + 206))]) dX8_readAddress_7 rfl (by decide) rfl ?_
  refine j_iload_n X 0 dX8_readAddress_8 rfl rfl ?_
  refine j_bipush X (v := (-4)) dX8_readAddress_9 (by decide) ?_
  refine j_icmp_ne X (tgt := 17) dX8_readAddress_11 (by decide) (fun c_11 => ?_) (fun c_11 => ?_)
  · refine j_aload_n X 1 dX8_readAddress_17 rfl rfl ?_
    refine j_iconst X (v := 0) dX8_readAddress_18 (by decide) ?_
    refine j_bipush X (v := 9) dX8_readAddress_19 (by decide) ?_
    refine j_callVi X (rest := []) (c_X8_readDigit l) m_yX8_readDigit kM_RX8_39 (xput_k 206 (by decide)) rfl rfl rfl rfl rfl (Nat.le_of_ble_eq_true rfl) ⟨Nat.le_of_ble_eq_true rfl, Nat.le_of_ble_eq_true rfl, Nat.le_of_ble_eq_true rfl, Nat.le_of_ble_eq_true rfl⟩ dX8_readAddress_21 ?_
    refine j_top (fun v2 ev2 => ?_)
    refine j_istore_n X (L' := [(2, .int v2), (1, .int v1), (0, .ref (b + 206))]) dX8_readAddress_24 rfl (by decide) rfl ?_
    refine j_iload_n X 0 dX8_readAddress_25 rfl rfl ?_
    refine j_bipush X (v := (-4)) dX8_readAddress_26 (by decide) ?_
    refine j_icmp_ne X (tgt := 35) dX8_readAddress_28 (by decide) (fun c_28 => ?_) (fun c_28 => ?_)
    · refine j_iload_n X 1 dX8_readAddress_35 rfl rfl ?_
      refine j_bipush X (v := 10) dX8_readAddress_36 (by decide) ?_
      refine j_imul X dX8_readAddress_38 ?_
      refine j_iload_n X 0 dX8_readAddress_39 rfl rfl ?_
      refine j_iadd X dX8_readAddress_40 ?_
      exact j_iret X hr rfl (by subst ev2 ev1; first | with_reducible rfl | (simp only [tAddress, if_neg c_11, if_neg c_28]; done) | (simp only [tAddress, if_neg c_11, if_neg c_28]; rfl) | rfl) rfl (by subst ev2 ev1; first | with_reducible rfl | (simp only [tAddress, if_neg c_11, if_neg c_28]; done) | (simp only [tAddress, if_neg c_11, if_neg c_28]; rfl) | rfl) dX8_readAddress_41
    · refine j_iload_n X 1 dX8_readAddress_31 rfl rfl ?_
      refine j_goto X (tgt := 41) dX8_readAddress_32 (by decide) ?_
      exact j_iret X hr rfl (by subst ev2 ev1; first | with_reducible rfl | (simp only [tAddress, if_neg c_11, if_pos c_28]; done) | (simp only [tAddress, if_neg c_11, if_pos c_28]; rfl) | rfl) rfl (by subst ev2 ev1; first | with_reducible rfl | (simp only [tAddress, if_neg c_11, if_pos c_28]; done) | (simp only [tAddress, if_neg c_11, if_pos c_28]; rfl) | rfl) dX8_readAddress_41
  · refine j_bipush X (v := (-4)) dX8_readAddress_14 (by decide) ?_
    exact j_iret X hr rfl (by subst ev1; first | with_reducible rfl | (simp only [tAddress, if_pos c_11]; done) | (simp only [tAddress, if_pos c_11]; rfl) | rfl) rfl (by subst ev1; first | with_reducible rfl | (simp only [tAddress, if_pos c_11]; done) | (simp only [tAddress, if_pos c_11]; rfl) | rfl) dX8_readAddress_16
set_option maxRecDepth 100000 in
set_option maxHeartbeats 8000000 in
theorem c_X8_readFrame (l : Launch) {D : DD} {B z : Nat} {h : HF} {b : Nat} {S : Sy}  : CT l yX8_readFrame cX8_readFrame 6 (some .boolean) 3 66 [.ref (b + 206), .ref (b + 208)] D B z (xput D h b S) (some (.int ((tFrame S).1))) 0 0 (xput D h b ((tFrame S).2)) := by
  refine CT.of (L := [(0, .ref (b + 206)), (1, .ref (b + 208))]) (by decide +kernel) (Nat.le_of_ble_eq_true rfl) rfl ?_
  intro P E S0 M0 AR BL ME CO X hr hnm
  refine j_aload_n X 0 dX8_readFrame_0 rfl rfl ?_
  refine j_callVi X (rest := []) (c_X8_readAddress l) m_yX8_readAddress kM_RX8_35 (xput_k 206 (by decide)) rfl rfl rfl rfl rfl (Nat.le_of_ble_eq_true rfl) ⟨Nat.le_of_ble_eq_true rfl, Nat.le_of_ble_eq_true rfl, Nat.le_of_ble_eq_true rfl, Nat.le_of_ble_eq_true rfl⟩ dX8_readFrame_1 ?_
  refine j_top (fun v1 ev1 => ?_)
  refine j_istore_n X (L' := [(2, .int v1), (0, .ref (b + 206)), (1, .ref (b + 208))]) dX8_readFrame_4 rfl (by decide) rfl ?_
  refine j_iload_n X 0 dX8_readFrame_5 rfl rfl ?_
  refine j_bipush X (v := (-4)) dX8_readFrame_6 (by decide) ?_
  refine j_icmp_eq X (tgt := 20) dX8_readFrame_8 (by decide) (fun c_8 => ?_) (fun c_8 => ?_)
  · refine j_iconst X (v := 0) dX8_readFrame_20 (by decide) ?_
    exact j_iret X hr rfl (by subst ev1; first | with_reducible rfl | (simp only [tFrame, tF2, tF3, tF4, tF5, if_pos c_8]; done) | (simp only [tFrame, tF2, tF3, tF4, tF5, if_pos c_8]; rfl) | rfl) rfl (by subst ev1; first | with_reducible rfl | (simp only [tFrame, tF2, tF3, tF4, tF5, if_pos c_8]; done) | (simp only [tFrame, tF2, tF3, tF4, tF5, if_pos c_8]; rfl) | rfl) dX8_readFrame_21
  · refine j_aload_n X 1 dX8_readFrame_11 rfl rfl ?_
    refine j_bipush X (v := 62) dX8_readFrame_12 (by decide) ?_
    refine j_callVi X (rest := []) (c_X8_skip l) m_yX8_skip kM_RX8_31 (xput_k 206 (by decide)) rfl rfl rfl rfl rfl (Nat.le_of_ble_eq_true rfl) ⟨Nat.le_of_ble_eq_true rfl, Nat.le_of_ble_eq_true rfl, Nat.le_of_ble_eq_true rfl, Nat.le_of_ble_eq_true rfl⟩ dX8_readFrame_14 ?_
    refine j_if_ne X (tgt := 22) dX8_readFrame_17 (by decide) (fun c_17 => ?_) (fun c_17 => ?_)
    · refine j_aload_n X 1 dX8_readFrame_22 rfl rfl ?_
      refine j_bipush X (v := 42) dX8_readFrame_23 (by decide) ?_
      refine j_callVi X (rest := []) (c_X8_skip l) m_yX8_skip kM_RX8_31 (xput_k 206 (by decide)) rfl rfl rfl rfl rfl (Nat.le_of_ble_eq_true rfl) ⟨Nat.le_of_ble_eq_true rfl, Nat.le_of_ble_eq_true rfl, Nat.le_of_ble_eq_true rfl, Nat.le_of_ble_eq_true rfl⟩ dX8_readFrame_25 ?_
      refine j_if_eq X (tgt := 35) dX8_readFrame_28 (by decide) (fun c_28 => ?_) (fun c_28 => ?_)
      · refine j_aload_n X 1 dX8_readFrame_35 rfl rfl ?_
        refine j_callVi X (rest := []) (c_X8_readAddress l) m_yX8_readAddress kM_RX8_35 (xput_k 206 (by decide)) rfl rfl rfl rfl rfl (Nat.le_of_ble_eq_true rfl) ⟨Nat.le_of_ble_eq_true rfl, Nat.le_of_ble_eq_true rfl, Nat.le_of_ble_eq_true rfl, Nat.le_of_ble_eq_true rfl⟩ dX8_readFrame_36 ?_
        refine j_top (fun v2 ev2 => ?_)
        refine j_istore_n X (L' := [(3, .int v2), (2, .int v1), (0, .ref (b + 206)), (1, .ref (b + 208))]) dX8_readFrame_39 rfl (by decide) rfl ?_
        refine j_iload_n X 0 dX8_readFrame_40 rfl rfl ?_
        refine j_bipush X (v := (-4)) dX8_readFrame_41 (by decide) ?_
        refine j_icmp_ne X (tgt := 48) dX8_readFrame_43 (by decide) (fun c_43 => ?_) (fun c_43 => ?_)
        · refine j_aload_n X 2 dX8_readFrame_48 rfl rfl ?_
          refine j_bipush X (v := 33) dX8_readFrame_49 (by decide) ?_
          refine j_callVi X (rest := []) (c_X8_skip l) m_yX8_skip kM_RX8_31 (xput_k 206 (by decide)) rfl rfl rfl rfl rfl (Nat.le_of_ble_eq_true rfl) ⟨Nat.le_of_ble_eq_true rfl, Nat.le_of_ble_eq_true rfl, Nat.le_of_ble_eq_true rfl, Nat.le_of_ble_eq_true rfl⟩ dX8_readFrame_51 ?_
          refine j_if_eq X (tgt := 66) dX8_readFrame_54 (by decide) (fun c_54 => ?_) (fun c_54 => ?_)
          · refine j_iconst X (v := 0) dX8_readFrame_66 (by decide) ?_
            refine j_istore X (L' := [(4, .int 0), (3, .int v2), (2, .int v1), (0, .ref (b + 206)), (1, .ref (b + 208))]) dX8_readFrame_67 (by decide) rfl ?_
            refine j_iload X 0 dX8_readFrame_69 rfl ?_
            refine j_bipush X (v := (-4)) dX8_readFrame_71 (by decide) ?_
            refine j_icmp_eq X (tgt := 85) dX8_readFrame_73 (by decide) (fun c_73 => ?_) (fun c_73 => ?_)
            · refine j_iconst X (v := 0) dX8_readFrame_85 (by decide) ?_
              exact j_iret X hr rfl (by subst ev2 ev1; first | with_reducible rfl | (simp only [tFrame, tF2, tF3, tF4, tF5, if_neg c_8, if_neg c_17, if_pos c_28, if_neg c_43, if_pos c_54, if_pos c_73]; done) | (simp only [tFrame, tF2, tF3, tF4, tF5, if_neg c_8, if_neg c_17, if_pos c_28, if_neg c_43, if_pos c_54, if_pos c_73]; rfl) | rfl) rfl (by subst ev2 ev1; first | with_reducible rfl | (simp only [tFrame, tF2, tF3, tF4, tF5, if_neg c_8, if_neg c_17, if_pos c_28, if_neg c_43, if_pos c_54, if_pos c_73]; done) | (simp only [tFrame, tF2, tF3, tF4, tF5, if_neg c_8, if_neg c_17, if_pos c_28, if_neg c_43, if_pos c_54, if_pos c_73]; rfl) | rfl) dX8_readFrame_86
            · refine j_aload_n X 3 dX8_readFrame_76 rfl rfl ?_
              refine j_bipush X (v := 64) dX8_readFrame_77 (by decide) ?_
              refine j_callVi X (rest := []) (c_X8_skip l) m_yX8_skip kM_RX8_31 (xput_k 206 (by decide)) rfl rfl rfl rfl rfl (Nat.le_of_ble_eq_true rfl) ⟨Nat.le_of_ble_eq_true rfl, Nat.le_of_ble_eq_true rfl, Nat.le_of_ble_eq_true rfl, Nat.le_of_ble_eq_true rfl⟩ dX8_readFrame_79 ?_
              refine j_if_ne X (tgt := 87) dX8_readFrame_82 (by decide) (fun c_82 => ?_) (fun c_82 => ?_)
              · refine j_aload_n X 3 dX8_readFrame_87 rfl rfl ?_
                refine j_iconst X (v := 0) dX8_readFrame_88 (by decide) ?_
                refine j_bipush X (v := 7) dX8_readFrame_89 (by decide) ?_
                refine j_callVi X (rest := []) (c_X8_readDigit l) m_yX8_readDigit kM_RX8_39 (xput_k 206 (by decide)) rfl rfl rfl rfl rfl (Nat.le_of_ble_eq_true rfl) ⟨Nat.le_of_ble_eq_true rfl, Nat.le_of_ble_eq_true rfl, Nat.le_of_ble_eq_true rfl, Nat.le_of_ble_eq_true rfl⟩ dX8_readFrame_91 ?_
                refine j_top (fun v3 ev3 => ?_)
                refine j_istore X (L' := [(5, .int v3), (4, .int 0), (3, .int v2), (2, .int v1), (0, .ref (b + 206)), (1, .ref (b + 208))]) dX8_readFrame_94 (by decide) rfl ?_
                refine j_iload X 0 dX8_readFrame_96 rfl ?_
                refine j_bipush X (v := (-4)) dX8_readFrame_98 (by decide) ?_
                refine j_icmp_ne X (tgt := 105) dX8_readFrame_100 (by decide) (fun c_100 => ?_) (fun c_100 => ?_)
                · refine j_aload_n X 5 dX8_readFrame_105 rfl rfl ?_
                  refine j_iload X 0 dX8_readFrame_106 rfl ?_
                  refine j_iload_n X 3 dX8_readFrame_108 rfl rfl ?_
                  refine j_iload_n X 2 dX8_readFrame_109 rfl rfl ?_
                  refine j_iload X 1 dX8_readFrame_110 rfl ?_
                  refine j_callVv X (rest := []) (c_X0_append l) m_yX0_append kM_RX8_43 (xput_k 208 (by decide)) rfl rfl rfl rfl rfl (Nat.le_of_ble_eq_true rfl) ⟨Nat.le_of_ble_eq_true rfl, Nat.le_of_ble_eq_true rfl, Nat.le_of_ble_eq_true rfl, Nat.le_of_ble_eq_true rfl⟩ dX8_readFrame_112 ?_
                  refine j_iconst X (v := 1) dX8_readFrame_115 (by decide) ?_
                  exact j_iret X hr rfl (by subst ev3 ev2 ev1; first | with_reducible rfl | (simp only [tFrame, tF2, tF3, tF4, tF5, if_neg c_8, if_neg c_17, if_pos c_28, if_neg c_43, if_pos c_54, if_neg c_73, if_neg c_82, if_neg c_100]; done) | (simp only [tFrame, tF2, tF3, tF4, tF5, if_neg c_8, if_neg c_17, if_pos c_28, if_neg c_43, if_pos c_54, if_neg c_73, if_neg c_82, if_neg c_100]; rfl) | rfl) rfl (by subst ev3 ev2 ev1; first | with_reducible rfl | (simp only [tFrame, tF2, tF3, tF4, tF5, if_neg c_8, if_neg c_17, if_pos c_28, if_neg c_43, if_pos c_54, if_neg c_73, if_neg c_82, if_neg c_100]; done) | (simp only [tFrame, tF2, tF3, tF4, tF5, if_neg c_8, if_neg c_17, if_pos c_28, if_neg c_43, if_pos c_54, if_neg c_73, if_neg c_82, if_neg c_100]; rfl) | rfl) dX8_readFrame_116
                · refine j_iconst X (v := 0) dX8_readFrame_103 (by decide) ?_
                  exact j_iret X hr rfl (by subst ev3 ev2 ev1; first | with_reducible rfl | (simp only [tFrame, tF2, tF3, tF4, tF5, if_neg c_8, if_neg c_17, if_pos c_28, if_neg c_43, if_pos c_54, if_neg c_73, if_neg c_82, if_pos c_100]; done) | (simp only [tFrame, tF2, tF3, tF4, tF5, if_neg c_8, if_neg c_17, if_pos c_28, if_neg c_43, if_pos c_54, if_neg c_73, if_neg c_82, if_pos c_100]; rfl) | rfl) rfl (by subst ev3 ev2 ev1; first | with_reducible rfl | (simp only [tFrame, tF2, tF3, tF4, tF5, if_neg c_8, if_neg c_17, if_pos c_28, if_neg c_43, if_pos c_54, if_neg c_73, if_neg c_82, if_pos c_100]; done) | (simp only [tFrame, tF2, tF3, tF4, tF5, if_neg c_8, if_neg c_17, if_pos c_28, if_neg c_43, if_pos c_54, if_neg c_73, if_neg c_82, if_pos c_100]; rfl) | rfl) dX8_readFrame_104
              · refine j_iconst X (v := 0) dX8_readFrame_85 (by decide) ?_
                exact j_iret X hr rfl (by subst ev2 ev1; first | with_reducible rfl | (simp only [tFrame, tF2, tF3, tF4, tF5, if_neg c_8, if_neg c_17, if_pos c_28, if_neg c_43, if_pos c_54, if_neg c_73, if_pos c_82]; done) | (simp only [tFrame, tF2, tF3, tF4, tF5, if_neg c_8, if_neg c_17, if_pos c_28, if_neg c_43, if_pos c_54, if_neg c_73, if_pos c_82]; rfl) | rfl) rfl (by subst ev2 ev1; first | with_reducible rfl | (simp only [tFrame, tF2, tF3, tF4, tF5, if_neg c_8, if_neg c_17, if_pos c_28, if_neg c_43, if_pos c_54, if_neg c_73, if_pos c_82]; done) | (simp only [tFrame, tF2, tF3, tF4, tF5, if_neg c_8, if_neg c_17, if_pos c_28, if_neg c_43, if_pos c_54, if_neg c_73, if_pos c_82]; rfl) | rfl) dX8_readFrame_86
          · refine j_aload_n X 2 dX8_readFrame_57 rfl rfl ?_
            refine j_iconst X (v := 0) dX8_readFrame_58 (by decide) ?_
            refine j_iconst X (v := 3) dX8_readFrame_59 (by decide) ?_
            refine j_callVi X (rest := []) (c_X8_readDigit l) m_yX8_readDigit kM_RX8_39 (xput_k 206 (by decide)) rfl rfl rfl rfl rfl (Nat.le_of_ble_eq_true rfl) ⟨Nat.le_of_ble_eq_true rfl, Nat.le_of_ble_eq_true rfl, Nat.le_of_ble_eq_true rfl, Nat.le_of_ble_eq_true rfl⟩ dX8_readFrame_60 ?_
            refine j_goto X (tgt := 67) dX8_readFrame_63 (by decide) ?_
            refine j_top (fun v4 ev4 => ?_)
            refine j_istore X (L' := [(4, .int v4), (3, .int v2), (2, .int v1), (0, .ref (b + 206)), (1, .ref (b + 208))]) dX8_readFrame_67 (by decide) rfl ?_
            refine j_iload X 0 dX8_readFrame_69 rfl ?_
            refine j_bipush X (v := (-4)) dX8_readFrame_71 (by decide) ?_
            refine j_icmp_eq X (tgt := 85) dX8_readFrame_73 (by decide) (fun c_73 => ?_) (fun c_73 => ?_)
            · refine j_iconst X (v := 0) dX8_readFrame_85 (by decide) ?_
              exact j_iret X hr rfl (by subst ev4 ev2 ev1; first | with_reducible rfl | (simp only [tFrame, tF2, tF3, tF4, tF5, if_neg c_8, if_neg c_17, if_pos c_28, if_neg c_43, if_neg c_54, if_pos c_73]; done) | (simp only [tFrame, tF2, tF3, tF4, tF5, if_neg c_8, if_neg c_17, if_pos c_28, if_neg c_43, if_neg c_54, if_pos c_73]; rfl) | rfl) rfl (by subst ev4 ev2 ev1; first | with_reducible rfl | (simp only [tFrame, tF2, tF3, tF4, tF5, if_neg c_8, if_neg c_17, if_pos c_28, if_neg c_43, if_neg c_54, if_pos c_73]; done) | (simp only [tFrame, tF2, tF3, tF4, tF5, if_neg c_8, if_neg c_17, if_pos c_28, if_neg c_43, if_neg c_54, if_pos c_73]; rfl) | rfl) dX8_readFrame_86
            · refine j_aload_n X 3 dX8_readFrame_76 rfl rfl ?_
              refine j_bipush X (v := 64) dX8_readFrame_77 (by decide) ?_
              refine j_callVi X (rest := []) (c_X8_skip l) m_yX8_skip kM_RX8_31 (xput_k 206 (by decide)) rfl rfl rfl rfl rfl (Nat.le_of_ble_eq_true rfl) ⟨Nat.le_of_ble_eq_true rfl, Nat.le_of_ble_eq_true rfl, Nat.le_of_ble_eq_true rfl, Nat.le_of_ble_eq_true rfl⟩ dX8_readFrame_79 ?_
              refine j_if_ne X (tgt := 87) dX8_readFrame_82 (by decide) (fun c_82 => ?_) (fun c_82 => ?_)
              · refine j_aload_n X 3 dX8_readFrame_87 rfl rfl ?_
                refine j_iconst X (v := 0) dX8_readFrame_88 (by decide) ?_
                refine j_bipush X (v := 7) dX8_readFrame_89 (by decide) ?_
                refine j_callVi X (rest := []) (c_X8_readDigit l) m_yX8_readDigit kM_RX8_39 (xput_k 206 (by decide)) rfl rfl rfl rfl rfl (Nat.le_of_ble_eq_true rfl) ⟨Nat.le_of_ble_eq_true rfl, Nat.le_of_ble_eq_true rfl, Nat.le_of_ble_eq_true rfl, Nat.le_of_ble_eq_true rfl⟩ dX8_readFrame_91 ?_
                refine j_top (fun v5 ev5 => ?_)
                refine j_istore X (L' := [(5, .int v5), (4, .int v4), (3, .int v2), (2, .int v1), (0, .ref (b + 206)), (1, .ref (b + 208))]) dX8_readFrame_94 (by decide) rfl ?_
                refine j_iload X 0 dX8_readFrame_96 rfl ?_
                refine j_bipush X (v := (-4)) dX8_readFrame_98 (by decide) ?_
                refine j_icmp_ne X (tgt := 105) dX8_readFrame_100 (by decide) (fun c_100 => ?_) (fun c_100 => ?_)
                · refine j_aload_n X 5 dX8_readFrame_105 rfl rfl ?_
                  refine j_iload X 0 dX8_readFrame_106 rfl ?_
                  refine j_iload_n X 3 dX8_readFrame_108 rfl rfl ?_
                  refine j_iload_n X 2 dX8_readFrame_109 rfl rfl ?_
                  refine j_iload X 1 dX8_readFrame_110 rfl ?_
                  refine j_callVv X (rest := []) (c_X0_append l) m_yX0_append kM_RX8_43 (xput_k 208 (by decide)) rfl rfl rfl rfl rfl (Nat.le_of_ble_eq_true rfl) ⟨Nat.le_of_ble_eq_true rfl, Nat.le_of_ble_eq_true rfl, Nat.le_of_ble_eq_true rfl, Nat.le_of_ble_eq_true rfl⟩ dX8_readFrame_112 ?_
                  refine j_iconst X (v := 1) dX8_readFrame_115 (by decide) ?_
                  exact j_iret X hr rfl (by subst ev5 ev4 ev2 ev1; first | with_reducible rfl | (simp only [tFrame, tF2, tF3, tF4, tF5, if_neg c_8, if_neg c_17, if_pos c_28, if_neg c_43, if_neg c_54, if_neg c_73, if_neg c_82, if_neg c_100]; done) | (simp only [tFrame, tF2, tF3, tF4, tF5, if_neg c_8, if_neg c_17, if_pos c_28, if_neg c_43, if_neg c_54, if_neg c_73, if_neg c_82, if_neg c_100]; rfl) | rfl) rfl (by subst ev5 ev4 ev2 ev1; first | with_reducible rfl | (simp only [tFrame, tF2, tF3, tF4, tF5, if_neg c_8, if_neg c_17, if_pos c_28, if_neg c_43, if_neg c_54, if_neg c_73, if_neg c_82, if_neg c_100]; done) | (simp only [tFrame, tF2, tF3, tF4, tF5, if_neg c_8, if_neg c_17, if_pos c_28, if_neg c_43, if_neg c_54, if_neg c_73, if_neg c_82, if_neg c_100]; rfl) | rfl) dX8_readFrame_116
                · refine j_iconst X (v := 0) dX8_readFrame_103 (by decide) ?_
                  exact j_iret X hr rfl (by subst ev5 ev4 ev2 ev1; first | with_reducible rfl | (simp only [tFrame, tF2, tF3, tF4, tF5, if_neg c_8, if_neg c_17, if_pos c_28, if_neg c_43, if_neg c_54, if_neg c_73, if_neg c_82, if_pos c_100]; done) | (simp only [tFrame, tF2, tF3, tF4, tF5, if_neg c_8, if_neg c_17, if_pos c_28, if_neg c_43, if_neg c_54, if_neg c_73, if_neg c_82, if_pos c_100]; rfl) | rfl) rfl (by subst ev5 ev4 ev2 ev1; first | with_reducible rfl | (simp only [tFrame, tF2, tF3, tF4, tF5, if_neg c_8, if_neg c_17, if_pos c_28, if_neg c_43, if_neg c_54, if_neg c_73, if_neg c_82, if_pos c_100]; done) | (simp only [tFrame, tF2, tF3, tF4, tF5, if_neg c_8, if_neg c_17, if_pos c_28, if_neg c_43, if_neg c_54, if_neg c_73, if_neg c_82, if_pos c_100]; rfl) | rfl) dX8_readFrame_104
              · refine j_iconst X (v := 0) dX8_readFrame_85 (by decide) ?_
                exact j_iret X hr rfl (by subst ev4 ev2 ev1; first | with_reducible rfl | (simp only [tFrame, tF2, tF3, tF4, tF5, if_neg c_8, if_neg c_17, if_pos c_28, if_neg c_43, if_neg c_54, if_neg c_73, if_pos c_82]; done) | (simp only [tFrame, tF2, tF3, tF4, tF5, if_neg c_8, if_neg c_17, if_pos c_28, if_neg c_43, if_neg c_54, if_neg c_73, if_pos c_82]; rfl) | rfl) rfl (by subst ev4 ev2 ev1; first | with_reducible rfl | (simp only [tFrame, tF2, tF3, tF4, tF5, if_neg c_8, if_neg c_17, if_pos c_28, if_neg c_43, if_neg c_54, if_neg c_73, if_pos c_82]; done) | (simp only [tFrame, tF2, tF3, tF4, tF5, if_neg c_8, if_neg c_17, if_pos c_28, if_neg c_43, if_neg c_54, if_neg c_73, if_pos c_82]; rfl) | rfl) dX8_readFrame_86
        · refine j_iconst X (v := 0) dX8_readFrame_46 (by decide) ?_
          exact j_iret X hr rfl (by subst ev2 ev1; first | with_reducible rfl | (simp only [tFrame, tF2, tF3, tF4, tF5, if_neg c_8, if_neg c_17, if_pos c_28, if_pos c_43]; done) | (simp only [tFrame, tF2, tF3, tF4, tF5, if_neg c_8, if_neg c_17, if_pos c_28, if_pos c_43]; rfl) | rfl) rfl (by subst ev2 ev1; first | with_reducible rfl | (simp only [tFrame, tF2, tF3, tF4, tF5, if_neg c_8, if_neg c_17, if_pos c_28, if_pos c_43]; done) | (simp only [tFrame, tF2, tF3, tF4, tF5, if_neg c_8, if_neg c_17, if_pos c_28, if_pos c_43]; rfl) | rfl) dX8_readFrame_47
      · refine j_iconst X (v := 0) dX8_readFrame_31 (by decide) ?_
        refine j_goto X (tgt := 39) dX8_readFrame_32 (by decide) ?_
        refine j_istore_n X (L' := [(3, .int 0), (2, .int v1), (0, .ref (b + 206)), (1, .ref (b + 208))]) dX8_readFrame_39 rfl (by decide) rfl ?_
        refine j_iload_n X 0 dX8_readFrame_40 rfl rfl ?_
        refine j_bipush X (v := (-4)) dX8_readFrame_41 (by decide) ?_
        refine j_icmp_ne X (tgt := 48) dX8_readFrame_43 (by decide) (fun c_43 => ?_) (fun c_43 => ?_)
        · refine j_aload_n X 2 dX8_readFrame_48 rfl rfl ?_
          refine j_bipush X (v := 33) dX8_readFrame_49 (by decide) ?_
          refine j_callVi X (rest := []) (c_X8_skip l) m_yX8_skip kM_RX8_31 (xput_k 206 (by decide)) rfl rfl rfl rfl rfl (Nat.le_of_ble_eq_true rfl) ⟨Nat.le_of_ble_eq_true rfl, Nat.le_of_ble_eq_true rfl, Nat.le_of_ble_eq_true rfl, Nat.le_of_ble_eq_true rfl⟩ dX8_readFrame_51 ?_
          refine j_if_eq X (tgt := 66) dX8_readFrame_54 (by decide) (fun c_54 => ?_) (fun c_54 => ?_)
          · refine j_iconst X (v := 0) dX8_readFrame_66 (by decide) ?_
            refine j_istore X (L' := [(4, .int 0), (3, .int 0), (2, .int v1), (0, .ref (b + 206)), (1, .ref (b + 208))]) dX8_readFrame_67 (by decide) rfl ?_
            refine j_iload X 0 dX8_readFrame_69 rfl ?_
            refine j_bipush X (v := (-4)) dX8_readFrame_71 (by decide) ?_
            refine j_icmp_eq X (tgt := 85) dX8_readFrame_73 (by decide) (fun c_73 => ?_) (fun c_73 => ?_)
            · refine j_iconst X (v := 0) dX8_readFrame_85 (by decide) ?_
              exact j_iret X hr rfl (by subst ev1; first | with_reducible rfl | (simp only [tFrame, tF2, tF3, tF4, tF5, if_neg c_8, if_neg c_17, if_neg c_28, if_neg c_43, if_pos c_54, if_pos c_73]; done) | (simp only [tFrame, tF2, tF3, tF4, tF5, if_neg c_8, if_neg c_17, if_neg c_28, if_neg c_43, if_pos c_54, if_pos c_73]; rfl) | rfl) rfl (by subst ev1; first | with_reducible rfl | (simp only [tFrame, tF2, tF3, tF4, tF5, if_neg c_8, if_neg c_17, if_neg c_28, if_neg c_43, if_pos c_54, if_pos c_73]; done) | (simp only [tFrame, tF2, tF3, tF4, tF5, if_neg c_8, if_neg c_17, if_neg c_28, if_neg c_43, if_pos c_54, if_pos c_73]; rfl) | rfl) dX8_readFrame_86
            · refine j_aload_n X 3 dX8_readFrame_76 rfl rfl ?_
              refine j_bipush X (v := 64) dX8_readFrame_77 (by decide) ?_
              refine j_callVi X (rest := []) (c_X8_skip l) m_yX8_skip kM_RX8_31 (xput_k 206 (by decide)) rfl rfl rfl rfl rfl (Nat.le_of_ble_eq_true rfl) ⟨Nat.le_of_ble_eq_true rfl, Nat.le_of_ble_eq_true rfl, Nat.le_of_ble_eq_true rfl, Nat.le_of_ble_eq_true rfl⟩ dX8_readFrame_79 ?_
              refine j_if_ne X (tgt := 87) dX8_readFrame_82 (by decide) (fun c_82 => ?_) (fun c_82 => ?_)
              · refine j_aload_n X 3 dX8_readFrame_87 rfl rfl ?_
                refine j_iconst X (v := 0) dX8_readFrame_88 (by decide) ?_
                refine j_bipush X (v := 7) dX8_readFrame_89 (by decide) ?_
                refine j_callVi X (rest := []) (c_X8_readDigit l) m_yX8_readDigit kM_RX8_39 (xput_k 206 (by decide)) rfl rfl rfl rfl rfl (Nat.le_of_ble_eq_true rfl) ⟨Nat.le_of_ble_eq_true rfl, Nat.le_of_ble_eq_true rfl, Nat.le_of_ble_eq_true rfl, Nat.le_of_ble_eq_true rfl⟩ dX8_readFrame_91 ?_
                refine j_top (fun v6 ev6 => ?_)
                refine j_istore X (L' := [(5, .int v6), (4, .int 0), (3, .int 0), (2, .int v1), (0, .ref (b + 206)), (1, .ref (b + 208))]) dX8_readFrame_94 (by decide) rfl ?_
                refine j_iload X 0 dX8_readFrame_96 rfl ?_
                refine j_bipush X (v := (-4)) dX8_readFrame_98 (by decide) ?_
                refine j_icmp_ne X (tgt := 105) dX8_readFrame_100 (by decide) (fun c_100 => ?_) (fun c_100 => ?_)
                · refine j_aload_n X 5 dX8_readFrame_105 rfl rfl ?_
                  refine j_iload X 0 dX8_readFrame_106 rfl ?_
                  refine j_iload_n X 3 dX8_readFrame_108 rfl rfl ?_
                  refine j_iload_n X 2 dX8_readFrame_109 rfl rfl ?_
                  refine j_iload X 1 dX8_readFrame_110 rfl ?_
                  refine j_callVv X (rest := []) (c_X0_append l) m_yX0_append kM_RX8_43 (xput_k 208 (by decide)) rfl rfl rfl rfl rfl (Nat.le_of_ble_eq_true rfl) ⟨Nat.le_of_ble_eq_true rfl, Nat.le_of_ble_eq_true rfl, Nat.le_of_ble_eq_true rfl, Nat.le_of_ble_eq_true rfl⟩ dX8_readFrame_112 ?_
                  refine j_iconst X (v := 1) dX8_readFrame_115 (by decide) ?_
                  exact j_iret X hr rfl (by subst ev6 ev1; first | with_reducible rfl | (simp only [tFrame, tF2, tF3, tF4, tF5, if_neg c_8, if_neg c_17, if_neg c_28, if_neg c_43, if_pos c_54, if_neg c_73, if_neg c_82, if_neg c_100]; done) | (simp only [tFrame, tF2, tF3, tF4, tF5, if_neg c_8, if_neg c_17, if_neg c_28, if_neg c_43, if_pos c_54, if_neg c_73, if_neg c_82, if_neg c_100]; rfl) | rfl) rfl (by subst ev6 ev1; first | with_reducible rfl | (simp only [tFrame, tF2, tF3, tF4, tF5, if_neg c_8, if_neg c_17, if_neg c_28, if_neg c_43, if_pos c_54, if_neg c_73, if_neg c_82, if_neg c_100]; done) | (simp only [tFrame, tF2, tF3, tF4, tF5, if_neg c_8, if_neg c_17, if_neg c_28, if_neg c_43, if_pos c_54, if_neg c_73, if_neg c_82, if_neg c_100]; rfl) | rfl) dX8_readFrame_116
                · refine j_iconst X (v := 0) dX8_readFrame_103 (by decide) ?_
                  exact j_iret X hr rfl (by subst ev6 ev1; first | with_reducible rfl | (simp only [tFrame, tF2, tF3, tF4, tF5, if_neg c_8, if_neg c_17, if_neg c_28, if_neg c_43, if_pos c_54, if_neg c_73, if_neg c_82, if_pos c_100]; done) | (simp only [tFrame, tF2, tF3, tF4, tF5, if_neg c_8, if_neg c_17, if_neg c_28, if_neg c_43, if_pos c_54, if_neg c_73, if_neg c_82, if_pos c_100]; rfl) | rfl) rfl (by subst ev6 ev1; first | with_reducible rfl | (simp only [tFrame, tF2, tF3, tF4, tF5, if_neg c_8, if_neg c_17, if_neg c_28, if_neg c_43, if_pos c_54, if_neg c_73, if_neg c_82, if_pos c_100]; done) | (simp only [tFrame, tF2, tF3, tF4, tF5, if_neg c_8, if_neg c_17, if_neg c_28, if_neg c_43, if_pos c_54, if_neg c_73, if_neg c_82, if_pos c_100]; rfl) | rfl) dX8_readFrame_104
              · refine j_iconst X (v := 0) dX8_readFrame_85 (by decide) ?_
                exact j_iret X hr rfl (by subst ev1; first | with_reducible rfl | (simp only [tFrame, tF2, tF3, tF4, tF5, if_neg c_8, if_neg c_17, if_neg c_28, if_neg c_43, if_pos c_54, if_neg c_73, if_pos c_82]; done) | (simp only [tFrame, tF2, tF3, tF4, tF5, if_neg c_8, if_neg c_17, if_neg c_28, if_neg c_43, if_pos c_54, if_neg c_73, if_pos c_82]; rfl) | rfl) rfl (by subst ev1; first | with_reducible rfl | (simp only [tFrame, tF2, tF3, tF4, tF5, if_neg c_8, if_neg c_17, if_neg c_28, if_neg c_43, if_pos c_54, if_neg c_73, if_pos c_82]; done) | (simp only [tFrame, tF2, tF3, tF4, tF5, if_neg c_8, if_neg c_17, if_neg c_28, if_neg c_43, if_pos c_54, if_neg c_73, if_pos c_82]; rfl) | rfl) dX8_readFrame_86
          · refine j_aload_n X 2 dX8_readFrame_57 rfl rfl ?_
            refine j_iconst X (v := 0) dX8_readFrame_58 (by decide) ?_
            refine j_iconst X (v := 3) dX8_readFrame_59 (by decide) ?_
            refine j_callVi X (rest := []) (c_X8_readDigit l) m_yX8_readDigit kM_RX8_39 (xput_k 206 (by decide)) rfl rfl rfl rfl rfl (Nat.le_of_ble_eq_true rfl) ⟨Nat.le_of_ble_eq_true rfl, Nat.le_of_ble_eq_true rfl, Nat.le_of_ble_eq_true rfl, Nat.le_of_ble_eq_true rfl⟩ dX8_readFrame_60 ?_
            refine j_goto X (tgt := 67) dX8_readFrame_63 (by decide) ?_
            refine j_top (fun v7 ev7 => ?_)
            refine j_istore X (L' := [(4, .int v7), (3, .int 0), (2, .int v1), (0, .ref (b + 206)), (1, .ref (b + 208))]) dX8_readFrame_67 (by decide) rfl ?_
            refine j_iload X 0 dX8_readFrame_69 rfl ?_
            refine j_bipush X (v := (-4)) dX8_readFrame_71 (by decide) ?_
            refine j_icmp_eq X (tgt := 85) dX8_readFrame_73 (by decide) (fun c_73 => ?_) (fun c_73 => ?_)
            · refine j_iconst X (v := 0) dX8_readFrame_85 (by decide) ?_
              exact j_iret X hr rfl (by subst ev7 ev1; first | with_reducible rfl | (simp only [tFrame, tF2, tF3, tF4, tF5, if_neg c_8, if_neg c_17, if_neg c_28, if_neg c_43, if_neg c_54, if_pos c_73]; done) | (simp only [tFrame, tF2, tF3, tF4, tF5, if_neg c_8, if_neg c_17, if_neg c_28, if_neg c_43, if_neg c_54, if_pos c_73]; rfl) | rfl) rfl (by subst ev7 ev1; first | with_reducible rfl | (simp only [tFrame, tF2, tF3, tF4, tF5, if_neg c_8, if_neg c_17, if_neg c_28, if_neg c_43, if_neg c_54, if_pos c_73]; done) | (simp only [tFrame, tF2, tF3, tF4, tF5, if_neg c_8, if_neg c_17, if_neg c_28, if_neg c_43, if_neg c_54, if_pos c_73]; rfl) | rfl) dX8_readFrame_86
            · refine j_aload_n X 3 dX8_readFrame_76 rfl rfl ?_
              refine j_bipush X (v := 64) dX8_readFrame_77 (by decide) ?_
              refine j_callVi X (rest := []) (c_X8_skip l) m_yX8_skip kM_RX8_31 (xput_k 206 (by decide)) rfl rfl rfl rfl rfl (Nat.le_of_ble_eq_true rfl) ⟨Nat.le_of_ble_eq_true rfl, Nat.le_of_ble_eq_true rfl, Nat.le_of_ble_eq_true rfl, Nat.le_of_ble_eq_true rfl⟩ dX8_readFrame_79 ?_
              refine j_if_ne X (tgt := 87) dX8_readFrame_82 (by decide) (fun c_82 => ?_) (fun c_82 => ?_)
              · refine j_aload_n X 3 dX8_readFrame_87 rfl rfl ?_
                refine j_iconst X (v := 0) dX8_readFrame_88 (by decide) ?_
                refine j_bipush X (v := 7) dX8_readFrame_89 (by decide) ?_
                refine j_callVi X (rest := []) (c_X8_readDigit l) m_yX8_readDigit kM_RX8_39 (xput_k 206 (by decide)) rfl rfl rfl rfl rfl (Nat.le_of_ble_eq_true rfl) ⟨Nat.le_of_ble_eq_true rfl, Nat.le_of_ble_eq_true rfl, Nat.le_of_ble_eq_true rfl, Nat.le_of_ble_eq_true rfl⟩ dX8_readFrame_91 ?_
                refine j_top (fun v8 ev8 => ?_)
                refine j_istore X (L' := [(5, .int v8), (4, .int v7), (3, .int 0), (2, .int v1), (0, .ref (b + 206)), (1, .ref (b + 208))]) dX8_readFrame_94 (by decide) rfl ?_
                refine j_iload X 0 dX8_readFrame_96 rfl ?_
                refine j_bipush X (v := (-4)) dX8_readFrame_98 (by decide) ?_
                refine j_icmp_ne X (tgt := 105) dX8_readFrame_100 (by decide) (fun c_100 => ?_) (fun c_100 => ?_)
                · refine j_aload_n X 5 dX8_readFrame_105 rfl rfl ?_
                  refine j_iload X 0 dX8_readFrame_106 rfl ?_
                  refine j_iload_n X 3 dX8_readFrame_108 rfl rfl ?_
                  refine j_iload_n X 2 dX8_readFrame_109 rfl rfl ?_
                  refine j_iload X 1 dX8_readFrame_110 rfl ?_
                  refine j_callVv X (rest := []) (c_X0_append l) m_yX0_append kM_RX8_43 (xput_k 208 (by decide)) rfl rfl rfl rfl rfl (Nat.le_of_ble_eq_true rfl) ⟨Nat.le_of_ble_eq_true rfl, Nat.le_of_ble_eq_true rfl, Nat.le_of_ble_eq_true rfl, Nat.le_of_ble_eq_true rfl⟩ dX8_readFrame_112 ?_
                  refine j_iconst X (v := 1) dX8_readFrame_115 (by decide) ?_
                  exact j_iret X hr rfl (by subst ev8 ev7 ev1; first | with_reducible rfl | (simp only [tFrame, tF2, tF3, tF4, tF5, if_neg c_8, if_neg c_17, if_neg c_28, if_neg c_43, if_neg c_54, if_neg c_73, if_neg c_82, if_neg c_100]; done) | (simp only [tFrame, tF2, tF3, tF4, tF5, if_neg c_8, if_neg c_17, if_neg c_28, if_neg c_43, if_neg c_54, if_neg c_73, if_neg c_82, if_neg c_100]; rfl) | rfl) rfl (by subst ev8 ev7 ev1; first | with_reducible rfl | (simp only [tFrame, tF2, tF3, tF4, tF5, if_neg c_8, if_neg c_17, if_neg c_28, if_neg c_43, if_neg c_54, if_neg c_73, if_neg c_82, if_neg c_100]; done) | (simp only [tFrame, tF2, tF3, tF4, tF5, if_neg c_8, if_neg c_17, if_neg c_28, if_neg c_43, if_neg c_54, if_neg c_73, if_neg c_82, if_neg c_100]; rfl) | rfl) dX8_readFrame_116
                · refine j_iconst X (v := 0) dX8_readFrame_103 (by decide) ?_
                  exact j_iret X hr rfl (by subst ev8 ev7 ev1; first | with_reducible rfl | (simp only [tFrame, tF2, tF3, tF4, tF5, if_neg c_8, if_neg c_17, if_neg c_28, if_neg c_43, if_neg c_54, if_neg c_73, if_neg c_82, if_pos c_100]; done) | (simp only [tFrame, tF2, tF3, tF4, tF5, if_neg c_8, if_neg c_17, if_neg c_28, if_neg c_43, if_neg c_54, if_neg c_73, if_neg c_82, if_pos c_100]; rfl) | rfl) rfl (by subst ev8 ev7 ev1; first | with_reducible rfl | (simp only [tFrame, tF2, tF3, tF4, tF5, if_neg c_8, if_neg c_17, if_neg c_28, if_neg c_43, if_neg c_54, if_neg c_73, if_neg c_82, if_pos c_100]; done) | (simp only [tFrame, tF2, tF3, tF4, tF5, if_neg c_8, if_neg c_17, if_neg c_28, if_neg c_43, if_neg c_54, if_neg c_73, if_neg c_82, if_pos c_100]; rfl) | rfl) dX8_readFrame_104
              · refine j_iconst X (v := 0) dX8_readFrame_85 (by decide) ?_
                exact j_iret X hr rfl (by subst ev7 ev1; first | with_reducible rfl | (simp only [tFrame, tF2, tF3, tF4, tF5, if_neg c_8, if_neg c_17, if_neg c_28, if_neg c_43, if_neg c_54, if_neg c_73, if_pos c_82]; done) | (simp only [tFrame, tF2, tF3, tF4, tF5, if_neg c_8, if_neg c_17, if_neg c_28, if_neg c_43, if_neg c_54, if_neg c_73, if_pos c_82]; rfl) | rfl) rfl (by subst ev7 ev1; first | with_reducible rfl | (simp only [tFrame, tF2, tF3, tF4, tF5, if_neg c_8, if_neg c_17, if_neg c_28, if_neg c_43, if_neg c_54, if_neg c_73, if_pos c_82]; done) | (simp only [tFrame, tF2, tF3, tF4, tF5, if_neg c_8, if_neg c_17, if_neg c_28, if_neg c_43, if_neg c_54, if_neg c_73, if_pos c_82]; rfl) | rfl) dX8_readFrame_86
        · refine j_iconst X (v := 0) dX8_readFrame_46 (by decide) ?_
          exact j_iret X hr rfl (by subst ev1; first | with_reducible rfl | (simp only [tFrame, tF2, tF3, tF4, tF5, if_neg c_8, if_neg c_17, if_neg c_28, if_pos c_43]; done) | (simp only [tFrame, tF2, tF3, tF4, tF5, if_neg c_8, if_neg c_17, if_neg c_28, if_pos c_43]; rfl) | rfl) rfl (by subst ev1; first | with_reducible rfl | (simp only [tFrame, tF2, tF3, tF4, tF5, if_neg c_8, if_neg c_17, if_neg c_28, if_pos c_43]; done) | (simp only [tFrame, tF2, tF3, tF4, tF5, if_neg c_8, if_neg c_17, if_neg c_28, if_pos c_43]; rfl) | rfl) dX8_readFrame_47
    · refine j_iconst X (v := 0) dX8_readFrame_20 (by decide) ?_
      exact j_iret X hr rfl (by subst ev1; first | with_reducible rfl | (simp only [tFrame, tF2, tF3, tF4, tF5, if_neg c_8, if_pos c_17]; done) | (simp only [tFrame, tF2, tF3, tF4, tF5, if_neg c_8, if_pos c_17]; rfl) | rfl) rfl (by subst ev1; first | with_reducible rfl | (simp only [tFrame, tF2, tF3, tF4, tF5, if_neg c_8, if_pos c_17]; done) | (simp only [tFrame, tF2, tF3, tF4, tF5, if_neg c_8, if_pos c_17]; rfl) | rfl) dX8_readFrame_21
set_option maxRecDepth 100000 in
set_option maxHeartbeats 8000000 in
theorem c_X8_readInto (l : Launch) {D : DD} {B z : Nat} {h : HF} {b : Nat} {S : Sy} {m : Nat} (hm : m ≤ 70) (em : S.2.1 3 = nI m) : CT l yX8_readInto cX8_readInto 3 (some .int) 4 91 [.ref (b + 206), .ref (b + 208)] D B z (xput D h b S) (some (.int ((tRead S).1))) 0 0 (xput D h b ((tRead S).2)) := by
  refine CT.of (L := [(0, .ref (b + 206)), (1, .ref (b + 208))]) (by decide +kernel) (Nat.le_of_ble_eq_true rfl) rfl ?_
  intro P E S0 M0 AR BL ME CO X hr hnm
  refine j_aload_n X 1 dX8_readInto_0 rfl rfl ?_
  refine j_iconst X (v := 0) dX8_readInto_1 (by decide) ?_
  refine j_putN X fN_RX8_19 fW_0_1 (xput_k 208 (by decide)) rfl rfl rfl (Nat.le_of_ble_eq_true rfl) dX8_readInto_2 ?_
  refine j_heap (h' := xput D h b (xsc S 5 0)) xput_s5 ?_
  refine j_aload_n X 0 dX8_readInto_5 rfl rfl ?_
  refine j_iconst X (v := 0) dX8_readInto_6 (by decide) ?_
  refine j_put X fG_RX8_24 fW_8_2 (xput_k 206 (by decide)) rfl rfl rfl (Nat.le_of_ble_eq_true rfl) dX8_readInto_7 ?_
  refine j_heap (h' := xput D h b (xsc (xsc S 5 0) 4 0)) xput_s4 ?_
  refine j_iconst X (v := 0) dX8_readInto_10 (by decide) ?_
  refine j_istore_n X (L' := [(2, .int 0), (0, .ref (b + 206)), (1, .ref (b + 208))]) dX8_readInto_11 rfl (by decide) rfl ?_
  have loop : ∀ (n k : Nat) (U : Sy), k + n = 72 → U.2.1 3 = nI m → tInto n k U = tRead S → J P l E { frames := 4, cells := 0, slots := 0, locals := 91 } S0 M0 AR BL ME CO D B 3 (MQ BL (QC (some (.int ((tRead S).1))) D B (z + 0) (xput D h b ((tRead S).2))) AR S0 0 0 (aB B)) 0 0 z (xput D h b U) [(0, .ref (b + 206)), (1, .ref (b + 208)), (2, .int (nI k))] [] 12 := by
    intro n
    induction n with
    | zero =>
      intro k U hk hU hq
      obtain rfl : k = 72 := by omega
      have hg : U.2.1 3 < nI 72 := by rw [hU]; exact nI_lt (by omega) (by decide)
      refine j_iload_n X 2 dX8_readInto_12 rfl rfl ?_
      refine j_aload_n X 0 dX8_readInto_13 rfl rfl ?_
      refine j_get X fG_RX8_15 (xput_k 206 (by decide)) rfl rfl dX8_readInto_14 ?_
      refine j_icmp_gt X (tgt := 66) dX8_readInto_17 (by decide) (fun c_17 => ?_) (fun c_17 => absurd hg c_17)
      refine j_aload_n X 0 dX8_readInto_66 rfl rfl ?_
      refine j_get X fG_RX8_24 (xput_k 206 (by decide)) rfl rfl dX8_readInto_67 ?_
      exact j_iret X hr rfl (by rw [← hq]; first | rfl | (simp only [tInto, if_pos c_17]; done) | (simp only [tInto, if_pos c_17]; rfl)) rfl (by rw [← hq]; first | rfl | (simp only [tInto, if_pos c_17]; done) | (simp only [tInto, if_pos c_17]; rfl)) dX8_readInto_70
    | succ n ih =>
      intro k U hk hU hq
      refine j_iload_n X 2 dX8_readInto_12 rfl rfl ?_
      refine j_aload_n X 0 dX8_readInto_13 rfl rfl ?_
      refine j_get X fG_RX8_15 (xput_k 206 (by decide)) rfl rfl dX8_readInto_14 ?_
      refine j_icmp_gt X (tgt := 66) dX8_readInto_17 (by decide) (fun c_17 => ?_) (fun c_17 => ?_)
      · refine j_aload_n X 0 dX8_readInto_66 rfl rfl ?_
        refine j_get X fG_RX8_24 (xput_k 206 (by decide)) rfl rfl dX8_readInto_67 ?_
        exact j_iret X hr rfl (by rw [← hq]; first | rfl | (simp only [tInto, if_pos c_17]; done) | (simp only [tInto, if_pos c_17]; rfl)) rfl (by rw [← hq]; first | rfl | (simp only [tInto, if_pos c_17]; done) | (simp only [tInto, if_pos c_17]; rfl)) dX8_readInto_70
      · refine j_aload_n X 0 dX8_readInto_20 rfl rfl ?_
        refine j_aload_n X 1 dX8_readInto_21 rfl rfl ?_
        refine j_callVi X (rest := []) (c_X8_readFrame l) m_yX8_readFrame kM_RX8_27 (xput_k 206 (by decide)) rfl rfl rfl rfl rfl (Nat.le_of_ble_eq_true rfl) ⟨Nat.le_of_ble_eq_true rfl, Nat.le_of_ble_eq_true rfl, Nat.le_of_ble_eq_true rfl, Nat.le_of_ble_eq_true rfl⟩ dX8_readInto_22 ?_
        refine j_if_ne X (tgt := 33) dX8_readInto_25 (by decide) (fun c_25 => ?_) (fun c_25 => ?_)
        · refine j_aload_n X 0 dX8_readInto_33 rfl rfl ?_
          refine j_get X fG_RX8_24 (xput_k 206 (by decide)) rfl rfl dX8_readInto_34 ?_
          refine j_aload_n X 0 dX8_readInto_37 rfl rfl ?_
          refine j_get X fG_RX8_15 (xput_k 206 (by decide)) rfl rfl dX8_readInto_38 ?_
          refine j_icmp_ne X (tgt := 46) dX8_readInto_41 (by decide) (fun c_41 => ?_) (fun c_41 => ?_)
          · refine j_aload_n X 0 dX8_readInto_46 rfl rfl ?_
            refine j_bipush X (v := 59) dX8_readInto_47 (by decide) ?_
            refine j_callVi X (rest := []) (c_X8_skip l) m_yX8_skip kM_RX8_31 (xput_k 206 (by decide)) rfl rfl rfl rfl rfl (Nat.le_of_ble_eq_true rfl) ⟨Nat.le_of_ble_eq_true rfl, Nat.le_of_ble_eq_true rfl, Nat.le_of_ble_eq_true rfl, Nat.le_of_ble_eq_true rfl⟩ dX8_readInto_49 ?_
            refine j_if_ne X (tgt := 60) dX8_readInto_52 (by decide) (fun c_52 => ?_) (fun c_52 => ?_)
            · obtain ⟨v1, ev1⟩ : ∃ y : Int32, y = (nI k) + 1 := ⟨_, rfl⟩
              refine j_iinc X 2 (k := 1) (v := v1) (L' := [(2, .int v1), (0, .ref (b + 206)), (1, .ref (b + 208))]) dX8_readInto_60 rfl (by decide) (by decide) ev1.symm rfl ?_
              refine j_goto X (tgt := 12) dX8_readInto_63 (by decide) ?_
              refine j_sub [1, 2, 0] (L' := [(0, .ref (b + 206)), (1, .ref (b + 208)), (2, .int (nI (k + 1)))]) (by subst ev1; rw [nI_succ]; rfl) ?_
              exact ih (k + 1) _ (by omega) (by rw [tSkip_len, tFrame_len]; exact hU) (by rw [← hq]; simp only [tInto, if_neg c_17, if_neg c_25, if_neg c_41, if_neg c_52])
            · refine j_aload_n X 0 dX8_readInto_55 rfl rfl ?_
              refine j_get X fG_RX8_24 (xput_k 206 (by decide)) rfl rfl dX8_readInto_56 ?_
              exact j_iret X hr rfl (by rw [← hq]; first | rfl | (simp only [tInto, if_neg c_17, if_neg c_25, if_neg c_41, if_pos c_52]; done) | (simp only [tInto, if_neg c_17, if_neg c_25, if_neg c_41, if_pos c_52]; rfl)) rfl (by rw [← hq]; first | rfl | (simp only [tInto, if_neg c_17, if_neg c_25, if_neg c_41, if_pos c_52]; done) | (simp only [tInto, if_neg c_17, if_neg c_25, if_neg c_41, if_pos c_52]; rfl)) dX8_readInto_59
          · refine j_iconst X (v := (-1)) dX8_readInto_44 (by decide) ?_
            exact j_iret X hr rfl (by rw [← hq]; first | rfl | (simp only [tInto, if_neg c_17, if_neg c_25, if_pos c_41]; done) | (simp only [tInto, if_neg c_17, if_neg c_25, if_pos c_41]; rfl)) rfl (by rw [← hq]; first | rfl | (simp only [tInto, if_neg c_17, if_neg c_25, if_pos c_41]; done) | (simp only [tInto, if_neg c_17, if_neg c_25, if_pos c_41]; rfl)) dX8_readInto_45
        · refine j_aload_n X 0 dX8_readInto_28 rfl rfl ?_
          refine j_get X fG_RX8_24 (xput_k 206 (by decide)) rfl rfl dX8_readInto_29 ?_
          exact j_iret X hr rfl (by rw [← hq]; first | rfl | (simp only [tInto, if_neg c_17, if_pos c_25]; done) | (simp only [tInto, if_neg c_17, if_pos c_25]; rfl)) rfl (by rw [← hq]; first | rfl | (simp only [tInto, if_neg c_17, if_pos c_25]; done) | (simp only [tInto, if_neg c_17, if_pos c_25]; rfl)) dX8_readInto_32
  refine j_sub [1, 2, 0] (L' := [(0, .ref (b + 206)), (1, .ref (b + 208)), (2, .int (nI 0))]) rfl ?_
  exact loop 72 0 _ rfl em rfl
