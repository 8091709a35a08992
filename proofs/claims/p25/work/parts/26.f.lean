set_option maxRecDepth 100000 in
set_option maxHeartbeats 8000000 in
theorem c_X6_endSecond (l : Launch) {D : DD} {B z : Nat} {h : HF} {a : Nat} {σ : St}  : CT l yX6_endSecond cX6_endSecond 1 none 4 90 [.ref a] D B z (hput D h a σ) none 0 0 (hput D h a (sEnd σ)) := by
  refine CT.of (L := [(0, .ref a)]) (by decide +kernel) (Nat.le_of_ble_eq_true rfl) rfl ?_
  intro P E S0 M0 AR BL ME CO X hr hnm
  refine j_aload_n X 0 dX6_endSecond_0 rfl rfl ?_
  refine j_dup X dX6_endSecond_1 rfl ?_
  refine j_get X fG_RX6_72 hput_0 rfl rfl dX6_endSecond_2 ?_
  refine j_iconst X (v := 1) dX6_endSecond_5 (by decide) ?_
  refine j_iadd X dX6_endSecond_6 ?_
  refine j_put X fG_RX6_72 fW_6_5 hput_0 rfl rfl rfl (Nat.le_of_ble_eq_true rfl) dX6_endSecond_7 ?_
  refine j_heap (h' := hput D h a (sput σ 0 ((σ.2 0) + 1))) hput_s0 ?_
  refine j_aload_n X 0 dX6_endSecond_10 rfl rfl ?_
  refine j_get X fG_RX6_27 hput_0 rfl rfl dX6_endSecond_11 ?_
  refine j_callVv X (rest := []) (c_X3_endSecond l) m_yX3_endSecond kM_RX6_180 (hput_k 3 (by decide)) rfl rfl rfl rfl rfl (Nat.le_of_ble_eq_true rfl) ⟨Nat.le_of_ble_eq_true rfl, Nat.le_of_ble_eq_true rfl, Nat.le_of_ble_eq_true rfl, Nat.le_of_ble_eq_true rfl⟩ dX6_endSecond_14 ?_
  refine j_aload_n X 0 dX6_endSecond_17 rfl rfl ?_
  refine j_get X fG_RX6_41 hput_0 rfl rfl dX6_endSecond_18 ?_
  refine j_aload_n X 0 dX6_endSecond_21 rfl rfl ?_
  refine j_get X fG_RX6_72 hput_0 rfl rfl dX6_endSecond_22 ?_
  refine j_aload_n X 0 dX6_endSecond_25 rfl rfl ?_
  refine j_get X fG_RX6_18 hput_0 rfl rfl dX6_endSecond_26 ?_
  refine j_iconst X (v := 0) dX6_endSecond_29 (by decide) ?_
  refine j_callVi X (rest := [.int ((pEndSec (sput σ 0 ((σ.2 0) + 1))).2 0), .ref (a + 21)]) (s_at0 l) m_yX5_at kM_RX6_85 (hput_k 1 (by decide)) rfl rfl rfl rfl rfl (Nat.le_of_ble_eq_true rfl) ⟨Nat.le_of_ble_eq_true rfl, Nat.le_of_ble_eq_true rfl, Nat.le_of_ble_eq_true rfl, Nat.le_of_ble_eq_true rfl⟩ dX6_endSecond_30 ?_
  refine j_isub X dX6_endSecond_33 ?_
  refine j_callVv X (rest := []) (c_X7_removeUntil l) m_yX7_removeUntil kM_RX6_183 (hput_k 21 (by decide)) rfl rfl rfl rfl rfl (Nat.le_of_ble_eq_true rfl) ⟨Nat.le_of_ble_eq_true rfl, Nat.le_of_ble_eq_true rfl, Nat.le_of_ble_eq_true rfl, Nat.le_of_ble_eq_true rfl⟩ dX6_endSecond_34 ?_
  refine j_aload_n X 0 dX6_endSecond_37 rfl rfl ?_
  refine j_get X fG_RX6_48 hput_0 rfl rfl dX6_endSecond_38 ?_
  refine j_aload_n X 0 dX6_endSecond_41 rfl rfl ?_
  refine j_get X fG_RX6_72 hput_0 rfl rfl dX6_endSecond_42 ?_
  refine j_callVv X (rest := []) (c_X2_beginSecond l) m_yX2_beginSecond kM_RX6_186 (hput_k 26 (by decide)) rfl rfl rfl rfl rfl (Nat.le_of_ble_eq_true rfl) ⟨Nat.le_of_ble_eq_true rfl, Nat.le_of_ble_eq_true rfl, Nat.le_of_ble_eq_true rfl, Nat.le_of_ble_eq_true rfl⟩ dX6_endSecond_45 ?_
  exact j_vret X hr rfl (by first | with_reducible rfl | (simp only [sEnd, sTick]; done) | (simp only [sEnd, sTick]; rfl) | rfl) dX6_endSecond_48
