set_option maxRecDepth 100000 in
set_option maxHeartbeats 8000000 in
theorem c_X6_quarantine (l : Launch) {D : DD} {B z : Nat} {h : HF} {a : Nat} {σ : St} {p why : Int32} : CT l yX6_quarantine cX6_quarantine 3 none 2 45 [.ref a, .int p, .int why] D B z (hput D h a σ) none 0 0 (hput D h a (sQuar σ p why)) := by
  refine CT.of (L := [(0, .ref a), (1, .int p), (2, .int why)]) (by decide +kernel) (Nat.le_of_ble_eq_true rfl) rfl ?_
  intro P E S0 M0 AR BL ME CO X hr hnm
  refine j_aload_n X 0 dX6_quarantine_0 rfl rfl ?_
  refine j_get X fG_RX6_27 hput_0 rfl rfl dX6_quarantine_1 ?_
  refine j_iload_n X 1 dX6_quarantine_4 rfl rfl ?_
  refine j_aload_n X 0 dX6_quarantine_5 rfl rfl ?_
  refine j_get X fG_RX6_18 hput_0 rfl rfl dX6_quarantine_6 ?_
  refine j_iconst X (v := 1) dX6_quarantine_9 (by decide) ?_
  refine j_callVi X (rest := [.int p, .ref (a + 3)]) (s_at0 l) m_yX5_at kM_RX6_85 (hput_k 1 (by decide)) rfl rfl rfl rfl rfl (Nat.le_of_ble_eq_true rfl) ⟨Nat.le_of_ble_eq_true rfl, Nat.le_of_ble_eq_true rfl, Nat.le_of_ble_eq_true rfl, Nat.le_of_ble_eq_true rfl⟩ dX6_quarantine_10 ?_
  refine j_iload_n X 2 dX6_quarantine_13 rfl rfl ?_
  refine j_callVv X (rest := []) (c_X3_beginQuarantine l) m_yX3_beginQuarantine kM_RX6_133 (hput_k 3 (by decide)) rfl rfl rfl rfl rfl (Nat.le_of_ble_eq_true rfl) ⟨Nat.le_of_ble_eq_true rfl, Nat.le_of_ble_eq_true rfl, Nat.le_of_ble_eq_true rfl, Nat.le_of_ble_eq_true rfl⟩ dX6_quarantine_14 ?_
  refine j_aload_n X 0 dX6_quarantine_17 rfl rfl ?_
  refine j_get X fG_RX6_41 hput_0 rfl rfl dX6_quarantine_18 ?_
  refine j_iload_n X 1 dX6_quarantine_21 rfl rfl ?_
  refine j_callVv X (rest := []) (c_X7_removeAllWith l) m_yX7_removeAllWith kM_RX6_136 (hput_k 21 (by decide)) rfl rfl rfl rfl rfl (Nat.le_of_ble_eq_true rfl) ⟨Nat.le_of_ble_eq_true rfl, Nat.le_of_ble_eq_true rfl, Nat.le_of_ble_eq_true rfl, Nat.le_of_ble_eq_true rfl⟩ dX6_quarantine_22 ?_
  refine j_aload_n X 0 dX6_quarantine_25 rfl rfl ?_
  refine j_dup X dX6_quarantine_26 rfl ?_
  refine j_get X fG_RX6_79 hput_0 rfl rfl dX6_quarantine_27 ?_
  refine j_iconst X (v := 1) dX6_quarantine_30 (by decide) ?_
  refine j_iadd X dX6_quarantine_31 ?_
  refine j_put X fG_RX6_79 fW_6_7 hput_0 rfl rfl rfl (Nat.le_of_ble_eq_true rfl) dX6_quarantine_32 ?_
  refine j_heap (h' := hput D h a (sput (tRemAll (pBegin σ p (oAt 0 4 σ 1) why) p 99) 2 (((tRemAll (pBegin σ p (oAt 0 4 σ 1) why) p 99).2 2) + 1))) hput_s2 ?_
  exact j_vret X hr rfl (by first | with_reducible rfl | (simp only [sQuar]; done) | (simp only [sQuar]; rfl) | rfl) dX6_quarantine_35
