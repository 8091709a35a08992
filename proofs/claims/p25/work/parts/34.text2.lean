set_option maxRecDepth 100000 in
set_option maxHeartbeats 8000000 in
theorem c_X8_readAddress (l : Launch) {D : DD} {B z : Nat} {h : HF} {b : Nat} {S : Sy}  : CT l yX8_readAddress cX8_readAddress 3 (some .int) 2 44 [.ref (b + 206)] D B z (xput D h b S) (some (.int ((tAddress S).1))) 0 0 (xput D h b ((tAddress S).2)) := by
  refine CT.of (L := [(0, .ref (b + 206))]) (by decide +kernel) (Nat.le_of_ble_eq_true rfl) rfl ?_
  intro P E S0 M0 AR BL ME CO X hr hnm
  refine j_aload_n X 0 dX8_readAddress_0 rfl rfl ?_
  refine j_iconst X (v := 1) dX8_readAddress_1 (by decide) ?_
  refine j_bipush X (v := 9) dX8_readAddress_2 (by decide) ?_
  refine j_callVi X (rest := []) (c_X8_readDigit l) m_yX8_readDigit kM_RX8_39 (xput_k 206 (by decide)) rfl rfl rfl rfl rfl (Nat.le_of_ble_eq_true rfl) ⟨Nat.le_of_ble_eq_true rfl, Nat.le_of_ble_eq_true rfl, Nat.le_of_ble_eq_true rfl, Nat.le_of_ble_eq_true rfl⟩ dX8_readAddress_4 ?_
  refine j_tops (fun v1 ev1 => ?_)
  refine j_istore_n X (L' := [(1, .int v1), (0, .ref (b + 206))]) dX8_readAddress_7 rfl (by decide) rfl ?_
  refine j_iload_n X 0 dX8_readAddress_8 rfl rfl ?_
  refine j_bipush X (v := (-4)) dX8_readAddress_9 (by decide) ?_
  refine j_icmp_ne X (tgt := 17) dX8_readAddress_11 (by decide) (fun c_11 => ?_) (fun c_11 => ?_)
  · refine j_aload_n X 1 dX8_readAddress_17 rfl rfl ?_
    refine j_iconst X (v := 0) dX8_readAddress_18 (by decide) ?_
    refine j_bipush X (v := 9) dX8_readAddress_19 (by decide) ?_
    refine j_callVi X (rest := []) (c_X8_readDigit l) m_yX8_readDigit kM_RX8_39 (xput_k 206 (by decide)) rfl rfl rfl rfl rfl (Nat.le_of_ble_eq_true rfl) ⟨Nat.le_of_ble_eq_true rfl, Nat.le_of_ble_eq_true rfl, Nat.le_of_ble_eq_true rfl, Nat.le_of_ble_eq_true rfl⟩ dX8_readAddress_21 ?_
    refine j_tops (fun v2 ev2 => ?_)
    refine j_istore_n X (L' := [(2, .int v2), (1, .int v1), (0, .ref (b + 206))]) dX8_readAddress_24 rfl (by decide) rfl ?_
    refine j_iload_n X 0 dX8_readAddress_25 rfl rfl ?_
    refine j_bipush X (v := (-4)) dX8_readAddress_26 (by decide) ?_
    refine j_icmp_ne X (tgt := 35) dX8_readAddress_28 (by decide) (fun c_28 => ?_) (fun c_28 => ?_)
    · refine j_iload_n X 1 dX8_readAddress_35 rfl rfl ?_
      refine j_bipush X (v := 10) dX8_readAddress_36 (by decide) ?_
      refine j_imul X dX8_readAddress_38 ?_
      refine j_iload_n X 0 dX8_readAddress_39 rfl rfl ?_
      refine j_iadd X dX8_readAddress_40 ?_
      exact j_iret X hr rfl (by subst ev2 ev1; first | with_reducible rfl | (simp only [tAddress, if_neg c_11, if_neg c_28]; done)) rfl (by subst ev2 ev1; first | with_reducible rfl | (simp only [tAddress, if_neg c_11, if_neg c_28]; done)) dX8_readAddress_41
    · refine j_iload_n X 1 dX8_readAddress_31 rfl rfl ?_
      refine j_goto X (tgt := 41) dX8_readAddress_32 (by decide) ?_
      exact j_iret X hr rfl (by subst ev2 ev1; first | with_reducible rfl | (simp only [tAddress, if_neg c_11, if_pos c_28]; done)) rfl (by subst ev2 ev1; first | with_reducible rfl | (simp only [tAddress, if_neg c_11, if_pos c_28]; done)) dX8_readAddress_41
  · refine j_bipush X (v := (-4)) dX8_readAddress_14 (by decide) ?_
    exact j_iret X hr rfl (by subst ev1; first | with_reducible rfl | (simp only [tAddress, if_pos c_11]; done)) rfl (by subst ev1; first | with_reducible rfl | (simp only [tAddress, if_pos c_11]; done)) dX8_readAddress_16
