/-! the whole class is made -/
theorem xc_st {D : DD} {b i n : Nat} (hi : i < 7) (hn : xoff i = n + 1) : ∀ j, j < 29 → stCell D (b + (n + 1)) (sI 4) j = xCell D b S00 (n + 1 + j) := by
  intro j hj
  have e := xput_in (D := D) (h := fun _ => none) (b := b) (i := i) (S := S00) hi j hj
  rw [hn] at e
  exact e.symm
theorem xc_8 {D : DD} {b : Nat} : ∀ j, j < 2 → kX8 D (b + 206) j = xCell D b S00 (205 + 1 + j) := lt2c (P := fun j => kX8 D (b + 206) j = xCell D b S00 (205 + 1 + j)) rfl rfl
theorem xc_0 {D : DD} {b : Nat} : ∀ j, j < 3 → kX0 D (b + 208) j = xCell D b S00 (207 + 1 + j) := lt3c (P := fun j => kX0 D (b + 208) j = xCell D b S00 (207 + 1 + j)) rfl rfl rfl
set_option maxRecDepth 100000 in
set_option maxHeartbeats 4000000 in
theorem c_X9_init (l : Launch) {D : DD} {B : Nat} {h : HF} {b : Nat} (hb : h b = some (.inr (9, [.null, .null, .null, .null, .null, .null, .int 0]))) : CT l yX9_init cX9_init 1 none 6 180 [.ref b] D B (b + 1) h none 210 12759 (xput D h b S00) := by
  refine CT.of (L := [(0, .ref b)]) (by decide +kernel) (Nat.le_of_ble_eq_true rfl) rfl ?_
  intro P E S0 M0 AR BL ME CO X hr hnm
  refine j_aload_n X 0 dX9_init_0 rfl rfl ?_
  refine j_objInit X kM_RX9_1 ⟨Nat.le_of_ble_eq_true rfl, Nat.le_of_ble_eq_true rfl⟩ dX9_init_1 ?_
  refine j_heap (h' := gP (xCell D b S00) h b (.inr (9, [.null, .null, .null, .null, .null, .null, .int 0])) 0) (gP_0 hb) ?_
  refine j_aload_n X 0 dX9_init_4 rfl rfl ?_
  refine j_new X (ci := 6) (ty := tyX6) (fs := [.null, .null, .null, .null, .null, .int 0, .int 0, .int 0]) rfl inK6 tyX6_ok kL_RX9_7 kA_RX6 kI_RX6 new6 ⟨Nat.le_of_ble_eq_true rfl, Nat.le_of_ble_eq_true rfl⟩ dX9_init_5 ?_
  refine j_dup X dX9_init_8 rfl ?_
  refine j_callI X (rest := [.ref (b + 1), .ref b]) (c_X6_init l (b := b + 1) hupd_same) m_yX6_init kM_RX9_9 rfl rfl (Nat.le_of_ble_eq_true rfl) ⟨Nat.le_of_ble_eq_true rfl, Nat.le_of_ble_eq_true rfl, Nat.le_of_ble_eq_true rfl, Nat.le_of_ble_eq_true rfl⟩ dX9_init_9 ?_
  refine j_heap (h' := gB (stCell D (b + 1) (sI 4)) (hupd (gP (xCell D b S00) h b (.inr (9, [.null, .null, .null, .null, .null, .null, .int 0])) 0) (b + 1) (.inr (6, [.null, .null, .null, .null, .null, .int 0, .int 0, .int 0]))) (b + 1) 29) rfl ?_
  refine j_putF X hnm fG_RX9_10 fF_9_0 ((if_neg (by omega)).trans ((hupd_ne (by omega)).trans gP_b)) rfl rfl rfl (Nat.le_of_ble_eq_true rfl) dX9_init_12 ?_
  refine j_heap (h' := gP (xCell D b S00) h b (.inr (9, [.ref (b + 1), .null, .null, .null, .null, .null, .int 0])) 29) (gP_c (n := 0) (m := 29) rfl (xc_st (i := 0) (n := 0) (by decide) rfl) (by decide)) ?_
  refine j_aload_n X 0 dX9_init_15 rfl rfl ?_
  refine j_new X (ci := 6) (ty := tyX6) (fs := [.null, .null, .null, .null, .null, .int 0, .int 0, .int 0]) rfl inK6 tyX6_ok kL_RX9_7 kA_RX6 kI_RX6 new6 ⟨Nat.le_of_ble_eq_true rfl, Nat.le_of_ble_eq_true rfl⟩ dX9_init_16 ?_
  refine j_dup X dX9_init_19 rfl ?_
  refine j_callI X (rest := [.ref (b + 30), .ref b]) (c_X6_init l (b := b + 30) hupd_same) m_yX6_init kM_RX9_9 rfl rfl (Nat.le_of_ble_eq_true rfl) ⟨Nat.le_of_ble_eq_true rfl, Nat.le_of_ble_eq_true rfl, Nat.le_of_ble_eq_true rfl, Nat.le_of_ble_eq_true rfl⟩ dX9_init_20 ?_
  refine j_heap (h' := gB (stCell D (b + 30) (sI 4)) (hupd (gP (xCell D b S00) h b (.inr (9, [.ref (b + 1), .null, .null, .null, .null, .null, .int 0])) 29) (b + 30) (.inr (6, [.null, .null, .null, .null, .null, .int 0, .int 0, .int 0]))) (b + 30) 29) rfl ?_
  refine j_putF X hnm fG_RX9_16 fF_9_1 ((if_neg (by omega)).trans ((hupd_ne (by omega)).trans gP_b)) rfl rfl rfl (Nat.le_of_ble_eq_true rfl) dX9_init_23 ?_
  refine j_heap (h' := gP (xCell D b S00) h b (.inr (9, [.ref (b + 1), .ref (b + 30), .null, .null, .null, .null, .int 0])) 58) (gP_c (n := 29) (m := 29) rfl (xc_st (i := 1) (n := 29) (by decide) rfl) (by decide)) ?_
  refine j_aload_n X 0 dX9_init_26 rfl rfl ?_
  refine j_new X (ci := 6) (ty := tyX6) (fs := [.null, .null, .null, .null, .null, .int 0, .int 0, .int 0]) rfl inK6 tyX6_ok kL_RX9_7 kA_RX6 kI_RX6 new6 ⟨Nat.le_of_ble_eq_true rfl, Nat.le_of_ble_eq_true rfl⟩ dX9_init_27 ?_
  refine j_dup X dX9_init_30 rfl ?_
  refine j_callI X (rest := [.ref (b + 59), .ref b]) (c_X6_init l (b := b + 59) hupd_same) m_yX6_init kM_RX9_9 rfl rfl (Nat.le_of_ble_eq_true rfl) ⟨Nat.le_of_ble_eq_true rfl, Nat.le_of_ble_eq_true rfl, Nat.le_of_ble_eq_true rfl, Nat.le_of_ble_eq_true rfl⟩ dX9_init_31 ?_
  refine j_heap (h' := gB (stCell D (b + 59) (sI 4)) (hupd (gP (xCell D b S00) h b (.inr (9, [.ref (b + 1), .ref (b + 30), .null, .null, .null, .null, .int 0])) 58) (b + 59) (.inr (6, [.null, .null, .null, .null, .null, .int 0, .int 0, .int 0]))) (b + 59) 29) rfl ?_
  refine j_putF X hnm fG_RX9_19 fF_9_2 ((if_neg (by omega)).trans ((hupd_ne (by omega)).trans gP_b)) rfl rfl rfl (Nat.le_of_ble_eq_true rfl) dX9_init_34 ?_
  refine j_heap (h' := gP (xCell D b S00) h b (.inr (9, [.ref (b + 1), .ref (b + 30), .ref (b + 59), .null, .null, .null, .int 0])) 87) (gP_c (n := 58) (m := 29) rfl (xc_st (i := 2) (n := 58) (by decide) rfl) (by decide)) ?_
  refine j_aload_n X 0 dX9_init_37 rfl rfl ?_
  refine j_new X (ci := 1) (ty := tyX1) (fs := [.null, .int 0, .int 0]) rfl inK1 tyX1_ok kL_RX9_22 kA_RX1 kI_RX1 new1 ⟨Nat.le_of_ble_eq_true rfl, Nat.le_of_ble_eq_true rfl⟩ dX9_init_38 ?_
  refine j_dup X dX9_init_41 rfl ?_
  refine j_callI X (rest := [.ref (b + 88), .ref b]) (c_X1_init l (b := b) hupd_same) m_yX1_init kM_RX9_24 rfl rfl (Nat.le_of_ble_eq_true rfl) ⟨Nat.le_of_ble_eq_true rfl, Nat.le_of_ble_eq_true rfl, Nat.le_of_ble_eq_true rfl, Nat.le_of_ble_eq_true rfl⟩ dX9_init_42 ?_
  refine j_putF X hnm fG_RX9_25 fF_9_3 ((if_neg (by omega)).trans ((hupd_ne (by omega)).trans gP_b)) rfl rfl rfl (Nat.le_of_ble_eq_true rfl) dX9_init_45 ?_
  refine j_heap (h' := gP (xCell D b S00) h b (.inr (9, [.ref (b + 1), .ref (b + 30), .ref (b + 59), .ref (b + 88), .null, .null, .int 0])) 205) (gP_c (n := 87) (m := 118) rfl (fun _ _ => rfl) (by decide)) ?_
  refine j_aload_n X 0 dX9_init_48 rfl rfl ?_
  refine j_new X (ci := 8) (ty := tyX8) (fs := [.null, .int 0, .int 0]) rfl inK8 tyX8_ok kL_RX9_29 kA_RX8 kI_RX8 new8 ⟨Nat.le_of_ble_eq_true rfl, Nat.le_of_ble_eq_true rfl⟩ dX9_init_49 ?_
  refine j_dup X dX9_init_52 rfl ?_
  refine j_callIN X (rest := [.ref (b + 206), .ref b]) (c_X8_init l (b := b + 206) hupd_same) m_yX8_init (List.mem_of_getElem? (i := 2) rfl) rfl rfl (Nat.le_of_ble_eq_true rfl) ⟨Nat.le_of_ble_eq_true rfl, Nat.le_of_ble_eq_true rfl, Nat.le_of_ble_eq_true rfl, Nat.le_of_ble_eq_true rfl⟩ dX9_init_53 ?_
  refine j_putF X hnm fG_RX9_32 fF_9_4 ((if_neg (by omega)).trans ((hupd_ne (by omega)).trans gP_b)) rfl rfl rfl (Nat.le_of_ble_eq_true rfl) dX9_init_56 ?_
  refine j_heap (h' := gP (xCell D b S00) h b (.inr (9, [.ref (b + 1), .ref (b + 30), .ref (b + 59), .ref (b + 88), .ref (b + 206), .null, .int 0])) 207) (gP_c (n := 205) (m := 2) rfl xc_8 (by decide)) ?_
  refine j_aload_n X 0 dX9_init_59 rfl rfl ?_
  refine j_new X (ci := 0) (ty := tyX0) (fs := [.null, .int 0]) rfl inK0 tyX0_ok kL_RX9_36 kA_RX0 kI_RX0 new0 ⟨Nat.le_of_ble_eq_true rfl, Nat.le_of_ble_eq_true rfl⟩ dX9_init_60 ?_
  refine j_dup X dX9_init_63 rfl ?_
  refine j_callIN X (rest := [.ref (b + 208), .ref b]) (c_X0_init l (b := b + 208) hupd_same) m_yX0_init (List.mem_of_getElem? (i := 3) rfl) rfl rfl (Nat.le_of_ble_eq_true rfl) ⟨Nat.le_of_ble_eq_true rfl, Nat.le_of_ble_eq_true rfl, Nat.le_of_ble_eq_true rfl, Nat.le_of_ble_eq_true rfl⟩ dX9_init_64 ?_
  refine j_putF X hnm fG_RX9_39 fF_9_5 ((if_neg (by omega)).trans ((hupd_ne (by omega)).trans gP_b)) rfl rfl rfl (Nat.le_of_ble_eq_true rfl) dX9_init_67 ?_
  refine j_heap (h' := gP (xCell D b S00) h b (.inr (9, [.ref (b + 1), .ref (b + 30), .ref (b + 59), .ref (b + 88), .ref (b + 206), .ref (b + 208), .int 0])) 210) (gP_c (n := 207) (m := 3) rfl xc_0 (by decide)) ?_
  refine j_heap (h' := xput D h b S00) (gP_e rfl) ?_
  have main : J P l E { frames := 6, cells := 210, slots := 12759, locals := 180 } S0 M0 AR BL ME CO D B 1 (MQ BL (QC none D B (b + 1 + 210) (xput D h b S00)) AR S0 210 12759 (aB B)) 210 12759 (b + 1 + 210) (xput D h b S00) [(0, .ref b)] [] 70 := j_vret X hr rfl rfl dX9_init_70
  exact main
