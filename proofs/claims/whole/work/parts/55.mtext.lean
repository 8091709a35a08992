set_option maxRecDepth 100000 in
set_option maxHeartbeats 8000000 in
theorem c_X10_takes (l : Launch) {D : DD} {B z : Nat} {h : HF} {b : Nat} {μ : Mo} {c : Int32} (hT : TXv μ)  : CT l yX10_takes cX10_takes 2 (some .boolean) 0 0 [.ref b, .int c] D B z (mput D h b μ) (some (.int ((mTakes μ c).1))) 0 0 (mput D h b ((mTakes μ c).2)) := by
  refine CT.of (L := [(0, .ref b), (1, .int c)]) (by decide +kernel) (Nat.le_of_ble_eq_true rfl) rfl ?_
  intro P E S0 M0 AR BL ME CO X hr hnm
  refine j_aload_n X 0 dX10_takes_0 rfl rfl ?_
  refine j_get X fG_RX10_127 mput_0 rfl rfl dX10_takes_1 ?_
  refine j_aload_n X 0 dX10_takes_4 rfl rfl ?_
  refine j_get X fG_RX10_124 mput_0 rfl rfl dX10_takes_5 ?_
  refine j_icmp_ge X (tgt := 24) dX10_takes_8 (by decide) (fun c_8 => ?_) (fun c_8 => ?_)
  · refine j_iconst X (v := 0) dX10_takes_24 (by decide) ?_
    exact j_iret X hr rfl (by first | with_reducible rfl | (simp only [mTakes, if_neg c_8]; done) | (simp only [mTakes, if_neg c_8]; rfl) | rfl) rfl (by first | with_reducible rfl | (simp only [mTakes, if_neg c_8]; done) | (simp only [mTakes, if_neg c_8]; rfl) | rfl) dX10_takes_25
  · refine j_aload_n X 0 dX10_takes_11 rfl rfl ?_
    refine j_get X fG_RX10_25 mput_0 rfl rfl dX10_takes_12 ?_
    refine j_aload_n X 0 dX10_takes_15 rfl rfl ?_
    refine j_get X fG_RX10_127 mput_0 rfl rfl dX10_takes_16 ?_
    refine j_cald X (mput_k 6 (by decide)) rfl (tx_in hT c_8) dX10_takes_19 ?_
    refine j_iload_n X 1 dX10_takes_20 rfl rfl ?_
    refine j_icmp_eq X (tgt := 26) dX10_takes_21 (by decide) (fun c_21 => ?_) (fun c_21 => ?_)
    · refine j_aload_n X 0 dX10_takes_26 rfl rfl ?_
      refine j_dup X dX10_takes_27 rfl ?_
      refine j_get X fG_RX10_127 mput_0 rfl rfl dX10_takes_28 ?_
      refine j_iconst X (v := 1) dX10_takes_31 (by decide) ?_
      refine j_iadd X dX10_takes_32 ?_
      refine j_put X fG_RX10_127 fW_10_11 mput_0 rfl rfl rfl (Nat.le_of_ble_eq_true rfl) dX10_takes_33 ?_
      refine j_heap (h' := mput D h b (msc μ 5 ((μ.1 5) + 1))) mput_s5 ?_
      refine j_iconst X (v := 1) dX10_takes_36 (by decide) ?_
      exact j_iret X hr rfl (by first | with_reducible rfl | (simp only [mTakes, if_pos c_8, if_pos c_21]; done) | (simp only [mTakes, if_pos c_8, if_pos c_21]; rfl) | rfl) rfl (by first | with_reducible rfl | (simp only [mTakes, if_pos c_8, if_pos c_21]; done) | (simp only [mTakes, if_pos c_8, if_pos c_21]; rfl) | rfl) dX10_takes_37
    · refine j_iconst X (v := 0) dX10_takes_24 (by decide) ?_
      exact j_iret X hr rfl (by first | with_reducible rfl | (simp only [mTakes, if_pos c_8, if_neg c_21]; done) | (simp only [mTakes, if_pos c_8, if_neg c_21]; rfl) | rfl) rfl (by first | with_reducible rfl | (simp only [mTakes, if_pos c_8, if_neg c_21]; done) | (simp only [mTakes, if_pos c_8, if_neg c_21]; rfl) | rfl) dX10_takes_25
set_option maxRecDepth 100000 in
set_option maxHeartbeats 8000000 in
theorem c_X10_digit (l : Launch) {D : DD} {B z : Nat} {h : HF} {b : Nat} {μ : Mo} {lo hi : Int32} (hT : TXv μ)  : CT l yX10_digit cX10_digit 3 (some .int) 1 22 [.ref b, .int lo, .int hi] D B z (mput D h b μ) (some (.int ((mDigit μ lo hi).1))) 0 0 (mput D h b ((mDigit μ lo hi).2)) := by
  refine CT.of (L := [(0, .ref b), (1, .int lo), (2, .int hi)]) (by decide +kernel) (Nat.le_of_ble_eq_true rfl) rfl ?_
  intro P E S0 M0 AR BL ME CO X hr hnm
  refine j_aload_n X 0 dX10_digit_0 rfl rfl ?_
  refine j_get X fG_RX10_127 mput_0 rfl rfl dX10_digit_1 ?_
  refine j_aload_n X 0 dX10_digit_4 rfl rfl ?_
  refine j_get X fG_RX10_124 mput_0 rfl rfl dX10_digit_5 ?_
  refine j_icmp_ge X (tgt := 34) dX10_digit_8 (by decide) (fun c_8 => ?_) (fun c_8 => ?_)
  · refine j_bipush X (v := (-4)) dX10_digit_34 (by decide) ?_
    exact j_iret X hr rfl (by first | with_reducible rfl | (simp only [mDigit, if_neg c_8]; done) | (simp only [mDigit, if_neg c_8]; rfl) | rfl) rfl (by first | with_reducible rfl | (simp only [mDigit, if_neg c_8]; done) | (simp only [mDigit, if_neg c_8]; rfl) | rfl) dX10_digit_36
  · refine j_aload_n X 0 dX10_digit_11 rfl rfl ?_
    refine j_get X fG_RX10_25 mput_0 rfl rfl dX10_digit_12 ?_
    refine j_aload_n X 0 dX10_digit_15 rfl rfl ?_
    refine j_get X fG_RX10_127 mput_0 rfl rfl dX10_digit_16 ?_
    refine j_cald X (mput_k 6 (by decide)) rfl (tx_in hT c_8) dX10_digit_19 ?_
    refine j_bipush X (v := 48) dX10_digit_20 (by decide) ?_
    refine j_iload_n X 1 dX10_digit_22 rfl rfl ?_
    refine j_iadd X dX10_digit_23 ?_
    refine j_bipush X (v := 48) dX10_digit_24 (by decide) ?_
    refine j_iload_n X 2 dX10_digit_26 rfl rfl ?_
    refine j_iadd X dX10_digit_27 ?_
    refine j_callSi X (rest := []) (c_X10_in l) m_yX10_in kM_RX10_36 rfl rfl (Nat.le_of_ble_eq_true rfl) ⟨Nat.le_of_ble_eq_true rfl, Nat.le_of_ble_eq_true rfl, Nat.le_of_ble_eq_true rfl, Nat.le_of_ble_eq_true rfl⟩ dX10_digit_28 ?_
    refine j_if_ne X (tgt := 37) dX10_digit_31 (by decide) (fun c_31 => ?_) (fun c_31 => ?_)
    · refine j_aload_n X 0 dX10_digit_37 rfl rfl ?_
      refine j_dup X dX10_digit_38 rfl ?_
      refine j_get X fG_RX10_127 mput_0 rfl rfl dX10_digit_39 ?_
      refine j_iconst X (v := 1) dX10_digit_42 (by decide) ?_
      refine j_iadd X dX10_digit_43 ?_
      refine j_put X fG_RX10_127 fW_10_11 mput_0 rfl rfl rfl (Nat.le_of_ble_eq_true rfl) dX10_digit_44 ?_
      refine j_heap (h' := mput D h b (msc μ 5 ((μ.1 5) + 1))) mput_s5 ?_
      refine j_aload_n X 0 dX10_digit_47 rfl rfl ?_
      refine j_get X fG_RX10_25 mput_0 rfl rfl dX10_digit_48 ?_
      refine j_aload_n X 0 dX10_digit_51 rfl rfl ?_
      refine j_get X fG_RX10_127 mput_0 rfl rfl dX10_digit_52 ?_
      refine j_iconst X (v := 1) dX10_digit_55 (by decide) ?_
      refine j_isub X dX10_digit_56 ?_
      refine j_cald X (mput_k 6 (by decide)) rfl (by show vp_in (μ.1 5 + 1 - 1) 70; rw [Int32.add_sub_cancel]; exact tx_in hT c_8) dX10_digit_57 ?_
      refine j_bipush X (v := 48) dX10_digit_58 (by decide) ?_
      refine j_isub X dX10_digit_60 ?_
      exact j_iret X hr rfl (by first | with_reducible rfl | (simp only [mDigit, if_pos c_8, if_neg c_31]; done) | (simp only [mDigit, if_pos c_8, if_neg c_31]; rfl) | rfl) rfl (by first | with_reducible rfl | (simp only [mDigit, if_pos c_8, if_neg c_31]; done) | (simp only [mDigit, if_pos c_8, if_neg c_31]; rfl) | rfl) dX10_digit_61
    · refine j_bipush X (v := (-4)) dX10_digit_34 (by decide) ?_
      exact j_iret X hr rfl (by first | with_reducible rfl | (simp only [mDigit, if_pos c_8, if_pos c_31]; done) | (simp only [mDigit, if_pos c_8, if_pos c_31]; rfl) | rfl) rfl (by first | with_reducible rfl | (simp only [mDigit, if_pos c_8, if_pos c_31]; done) | (simp only [mDigit, if_pos c_8, if_pos c_31]; rfl) | rfl) dX10_digit_36
set_option maxRecDepth 100000 in
set_option maxHeartbeats 8000000 in
theorem c_X10_address (l : Launch) {D : DD} {B z : Nat} {h : HF} {b : Nat} {μ : Mo} (hT : TXv μ)  : CT l yX10_address cX10_address 3 (some .int) 2 44 [.ref b] D B z (mput D h b μ) (some (.int ((mAddr μ).1))) 0 0 (mput D h b ((mAddr μ).2)) := by
  refine CT.of (L := [(0, .ref b)]) (by decide +kernel) (Nat.le_of_ble_eq_true rfl) rfl ?_
  intro P E S0 M0 AR BL ME CO X hr hnm
  refine j_aload_n X 0 dX10_address_0 rfl rfl ?_
  refine j_iconst X (v := 1) dX10_address_1 (by decide) ?_
  refine j_bipush X (v := 9) dX10_address_2 (by decide) ?_
  refine j_callVi X (rest := []) (c_X10_digit l hT) m_yX10_digit kM_RX10_130 mput_0 rfl rfl rfl rfl rfl (Nat.le_of_ble_eq_true rfl) ⟨Nat.le_of_ble_eq_true rfl, Nat.le_of_ble_eq_true rfl, Nat.le_of_ble_eq_true rfl, Nat.le_of_ble_eq_true rfl⟩ dX10_address_4 ?_
  refine j_tops (fun v1 ev1 => ?_)
  refine j_istore_n X (L' := [(1, .int v1), (0, .ref b)]) dX10_address_7 rfl (by decide) rfl ?_
  refine j_iload_n X 0 dX10_address_8 rfl rfl ?_
  refine j_bipush X (v := (-4)) dX10_address_9 (by decide) ?_
  refine j_icmp_ne X (tgt := 17) dX10_address_11 (by decide) (fun c_11 => ?_) (fun c_11 => ?_)
  · refine j_aload_n X 1 dX10_address_17 rfl rfl ?_
    refine j_iconst X (v := 0) dX10_address_18 (by decide) ?_
    refine j_bipush X (v := 9) dX10_address_19 (by decide) ?_
    refine j_callVi X (rest := []) (c_X10_digit l (tx_digit hT)) m_yX10_digit kM_RX10_130 mput_0 rfl rfl rfl rfl rfl (Nat.le_of_ble_eq_true rfl) ⟨Nat.le_of_ble_eq_true rfl, Nat.le_of_ble_eq_true rfl, Nat.le_of_ble_eq_true rfl, Nat.le_of_ble_eq_true rfl⟩ dX10_address_21 ?_
    refine j_tops (fun v2 ev2 => ?_)
    refine j_istore_n X (L' := [(2, .int v2), (1, .int v1), (0, .ref b)]) dX10_address_24 rfl (by decide) rfl ?_
    refine j_iload_n X 0 dX10_address_25 rfl rfl ?_
    refine j_bipush X (v := (-4)) dX10_address_26 (by decide) ?_
    refine j_icmp_ne X (tgt := 35) dX10_address_28 (by decide) (fun c_28 => ?_) (fun c_28 => ?_)
    · refine j_bipush X (v := 10) dX10_address_35 (by decide) ?_
      refine j_iload_n X 1 dX10_address_37 rfl rfl ?_
      refine j_imul X dX10_address_38 ?_
      refine j_iload_n X 0 dX10_address_39 rfl rfl ?_
      refine j_iadd X dX10_address_40 ?_
      exact j_iret X hr rfl (by subst ev2 ev1; first | with_reducible rfl | (simp only [mAddr, if_neg c_11, if_neg c_28]; done) | (simp only [mAddr, if_neg c_11, if_neg c_28]; rfl) | rfl) rfl (by subst ev2 ev1; first | with_reducible rfl | (simp only [mAddr, if_neg c_11, if_neg c_28]; done) | (simp only [mAddr, if_neg c_11, if_neg c_28]; rfl) | rfl) dX10_address_41
    · refine j_iload_n X 1 dX10_address_31 rfl rfl ?_
      refine j_goto X (tgt := 41) dX10_address_32 (by decide) ?_
      exact j_iret X hr rfl (by subst ev2 ev1; first | with_reducible rfl | (simp only [mAddr, if_neg c_11, if_pos c_28]; done) | (simp only [mAddr, if_neg c_11, if_pos c_28]; rfl) | rfl) rfl (by subst ev2 ev1; first | with_reducible rfl | (simp only [mAddr, if_neg c_11, if_pos c_28]; done) | (simp only [mAddr, if_neg c_11, if_pos c_28]; rfl) | rfl) dX10_address_41
  · refine j_bipush X (v := (-4)) dX10_address_14 (by decide) ?_
    exact j_iret X hr rfl (by subst ev1; first | with_reducible rfl | (simp only [mAddr, if_pos c_11]; done) | (simp only [mAddr, if_pos c_11]; rfl) | rfl) rfl (by subst ev1; first | with_reducible rfl | (simp only [mAddr, if_pos c_11]; done) | (simp only [mAddr, if_pos c_11]; rfl) | rfl) dX10_address_16
