set_option maxRecDepth 100000 in
set_option maxHeartbeats 8000000 in
theorem c_X6_dropQueue (l : Launch) {D : DD} {B z : Nat} {h : HF} {a : Nat} {σ : St} {p : Int32} : CT l yX6_dropQueue cX6_dropQueue 3 none 3 68 [.ref a, .int p] D B z (hput D h a σ) none 0 0 (hput D h a (sDrop σ p)) := by
  refine CT.of (L := [(0, .ref a), (1, .int p)]) (by decide +kernel) (Nat.le_of_ble_eq_true rfl) rfl ?_
  intro P E S0 M0 AR BL ME CO X hr hnm
  refine j_aload_n X 0 dX6_dropQueue_0 rfl rfl ?_
  refine j_get X fG_RX6_34 hput_0 rfl rfl dX6_dropQueue_1 ?_
  refine j_getN X fN_RX6_82 (hput_k 16 (by decide)) rfl rfl dX6_dropQueue_4 ?_
  refine j_iload_n X 1 dX6_dropQueue_7 rfl rfl ?_
  refine j_callVi X (rest := []) (s_at7 l) m_yX5_at kM_RX6_85 (hput_k 17 (by decide)) rfl rfl rfl rfl rfl (Nat.le_of_ble_eq_true rfl) ⟨Nat.le_of_ble_eq_true rfl, Nat.le_of_ble_eq_true rfl, Nat.le_of_ble_eq_true rfl, Nat.le_of_ble_eq_true rfl⟩ dX6_dropQueue_8 ?_
  refine j_tops (fun v1 ev1 => ?_)
  refine j_istore_n X (L' := [(2, .int v1), (0, .ref a), (1, .int p)]) dX6_dropQueue_11 rfl (by decide) rfl ?_
  refine j_aload_n X 1 dX6_dropQueue_12 rfl rfl ?_
  refine j_get X fG_RX6_34 hput_0 rfl rfl dX6_dropQueue_13 ?_
  refine j_iload_n X 2 dX6_dropQueue_16 rfl rfl ?_
  refine j_iload_n X 0 dX6_dropQueue_17 rfl rfl ?_
  refine j_callVv X (rest := []) (c_X4_removeFirst l) m_yX4_removeFirst kM_RX6_89 (hput_k 16 (by decide)) rfl rfl rfl rfl rfl (Nat.le_of_ble_eq_true rfl) ⟨Nat.le_of_ble_eq_true rfl, Nat.le_of_ble_eq_true rfl, Nat.le_of_ble_eq_true rfl, Nat.le_of_ble_eq_true rfl⟩ dX6_dropQueue_18 ?_
  refine j_aload_n X 1 dX6_dropQueue_21 rfl rfl ?_
  refine j_get X fG_RX6_27 hput_0 rfl rfl dX6_dropQueue_22 ?_
  refine j_iload_n X 2 dX6_dropQueue_25 rfl rfl ?_
  refine j_bipush X (v := 8) dX6_dropQueue_26 (by decide) ?_
  refine j_iload_n X 0 dX6_dropQueue_28 rfl rfl ?_
  refine j_callVv X (rest := []) (c_X3_credit l) m_yX3_credit kM_RX6_92 (hput_k 3 (by decide)) rfl rfl rfl rfl rfl (Nat.le_of_ble_eq_true rfl) ⟨Nat.le_of_ble_eq_true rfl, Nat.le_of_ble_eq_true rfl, Nat.le_of_ble_eq_true rfl, Nat.le_of_ble_eq_true rfl⟩ dX6_dropQueue_29 ?_
  exact j_vret X hr rfl (by subst ev1; first | with_reducible rfl | (simp only [sDrop]; done) | (simp only [sDrop]; rfl) | rfl) dX6_dropQueue_32
