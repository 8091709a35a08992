/-! blocks made of Rows -/
theorem new5 : ∀ j, j < 1 → defaultValue (tyX5 j) = vp_V [.null] j := fun j hj => by
  obtain rfl : j = 0 := by omega
  rfl
def kX0 (D : DD) (b : Nat) : Nat → va_E
  | 0 => .inr (0, [.ref (b + 1), .int 0])
  | 1 => rowE (b + 2)
  | _ => arrE D 384 (fun _ => 0)
set_option maxRecDepth 100000 in
set_option maxHeartbeats 1000000 in
theorem c_X0_init (l : Launch) {D : DD} {B : Nat} {h : HF} {b : Nat} (hb : h b = some (.inr (0, [.null, .int 0]))) : CT l yX0_init cX0_init 1 none 2 50 [.ref b] D B (b + 1) h none 2 385 (gB (kX0 D b) h b 3) := by
  refine CT.of (L := [(0, .ref b)]) (by decide +kernel) (Nat.le_of_ble_eq_true rfl) rfl ?_
  intro P E S0 M0 AR BL ME CO X hr hnm
  refine j_aload_n X 0 dX0_init_0 rfl rfl ?_
  refine j_objInit X kM_RX0_3 ⟨Nat.le_of_ble_eq_true rfl, Nat.le_of_ble_eq_true rfl⟩ dX0_init_1 ?_
  refine j_heap (h' := gP (kX0 D b) h b (.inr (0, [.null, .int 0])) 0) (gP_0 hb) ?_
  refine j_aload_n X 0 dX0_init_4 rfl rfl ?_
  refine j_new X (ci := 5) (ty := tyX5) (fs := [.null]) rfl inK5 tyX5_ok kL_RX0_9 kA_RX5 kI_RX5 new5 ⟨Nat.le_of_ble_eq_true rfl, Nat.le_of_ble_eq_true rfl⟩ dX0_init_5 ?_
  refine j_dup X dX0_init_8 rfl ?_
  refine j_sipush X (v := 384) dX0_init_9 (by decide) ?_
  refine j_callI X (rest := [.ref (b + 1 + 0), .ref b]) (c_X5_init l (N := 384) (by decide) hupd_same) m_yX5_init kM_RX0_13 rfl rfl (Nat.le_of_ble_eq_true rfl) ⟨Nat.le_of_ble_eq_true rfl, Nat.le_of_ble_eq_true rfl, Nat.le_of_ble_eq_true rfl, Nat.le_of_ble_eq_true rfl⟩ dX0_init_12 ?_
  refine j_heap (h' := gB (rowC D (b + 1) 384) (hupd (gP (kX0 D b) h b (.inr (0, [.null, .int 0])) 0) (b + 1) (.inr (5, [.null]))) (b + 1) 2) gB_row ?_
  refine j_putF X hnm fG_RX0_16 fF_0_0 ((if_neg (by omega)).trans ((hupd_ne (by omega)).trans gP_b)) rfl rfl rfl (Nat.le_of_ble_eq_true rfl) dX0_init_15 ?_
  refine j_heap (h' := gP (kX0 D b) h b (.inr (0, [.ref (b + 1), .int 0])) 2) (gP_c (n := 0) (m := 2) rfl (fun j hj => by rcases (show j = 0 ∨ j = 1 by omega) with rfl | rfl <;> rfl) (by decide)) ?_
  refine j_heap (h' := (gB (kX0 D b) h b 3)) (gP_e rfl) ?_
  have main : J P l E { frames := 2, cells := 2, slots := 385, locals := 50 } S0 M0 AR BL ME CO D B 1 (MQ BL (QC none D B (b + 1 + 2) (gB (kX0 D b) h b 3)) AR S0 2 385 (aB B)) 2 385 (b + 1 + 2) (gB (kX0 D b) h b 3) [(0, .ref b)] [] 18 := j_vret X hr rfl rfl dX0_init_18
  exact main
def kX2 (D : DD) (b : Nat) : Nat → va_E
  | 0 => .inr (2, [.ref (b + 1)])
  | 1 => rowE (b + 2)
  | _ => arrE D 1000 (fun _ => 0)
set_option maxRecDepth 100000 in
set_option maxHeartbeats 1000000 in
theorem c_X2_init (l : Launch) {D : DD} {B : Nat} {h : HF} {b : Nat} (hb : h b = some (.inr (2, [.null]))) : CT l yX2_init cX2_init 1 none 2 50 [.ref b] D B (b + 1) h none 2 1001 (gB (kX2 D b) h b 3) := by
  refine CT.of (L := [(0, .ref b)]) (by decide +kernel) (Nat.le_of_ble_eq_true rfl) rfl ?_
  intro P E S0 M0 AR BL ME CO X hr hnm
  refine j_aload_n X 0 dX2_init_0 rfl rfl ?_
  refine j_objInit X kM_RX2_3 ⟨Nat.le_of_ble_eq_true rfl, Nat.le_of_ble_eq_true rfl⟩ dX2_init_1 ?_
  refine j_heap (h' := gP (kX2 D b) h b (.inr (2, [.null])) 0) (gP_0 hb) ?_
  refine j_aload_n X 0 dX2_init_4 rfl rfl ?_
  refine j_new X (ci := 5) (ty := tyX5) (fs := [.null]) rfl inK5 tyX5_ok kL_RX2_9 kA_RX5 kI_RX5 new5 ⟨Nat.le_of_ble_eq_true rfl, Nat.le_of_ble_eq_true rfl⟩ dX2_init_5 ?_
  refine j_dup X dX2_init_8 rfl ?_
  refine j_sipush X (v := 1000) dX2_init_9 (by decide) ?_
  refine j_callI X (rest := [.ref (b + 1 + 0), .ref b]) (c_X5_init l (N := 1000) (by decide) hupd_same) m_yX5_init kM_RX2_13 rfl rfl (Nat.le_of_ble_eq_true rfl) ⟨Nat.le_of_ble_eq_true rfl, Nat.le_of_ble_eq_true rfl, Nat.le_of_ble_eq_true rfl, Nat.le_of_ble_eq_true rfl⟩ dX2_init_12 ?_
  refine j_heap (h' := gB (rowC D (b + 1) 1000) (hupd (gP (kX2 D b) h b (.inr (2, [.null])) 0) (b + 1) (.inr (5, [.null]))) (b + 1) 2) gB_row ?_
  refine j_putF X hnm fG_RX2_16 fF_2_0 ((if_neg (by omega)).trans ((hupd_ne (by omega)).trans gP_b)) rfl rfl rfl (Nat.le_of_ble_eq_true rfl) dX2_init_15 ?_
  refine j_heap (h' := gP (kX2 D b) h b (.inr (2, [.ref (b + 1)])) 2) (gP_c (n := 0) (m := 2) rfl (fun j hj => by rcases (show j = 0 ∨ j = 1 by omega) with rfl | rfl <;> rfl) (by decide)) ?_
  refine j_heap (h' := (gB (kX2 D b) h b 3)) (gP_e rfl) ?_
  have main : J P l E { frames := 2, cells := 2, slots := 1001, locals := 50 } S0 M0 AR BL ME CO D B 1 (MQ BL (QC none D B (b + 1 + 2) (gB (kX2 D b) h b 3)) AR S0 2 1001 (aB B)) 2 1001 (b + 1 + 2) (gB (kX2 D b) h b 3) [(0, .ref b)] [] 18 := j_vret X hr rfl rfl dX2_init_18
  exact main
def kX4 (D : DD) (b : Nat) : Nat → va_E
  | 0 => .inr (4, [.ref (b + 1), .ref (b + 3)])
  | 1 => rowE (b + 2)
  | 2 => arrE D 8 (fun _ => 0)
  | 3 => rowE (b + 4)
  | _ => arrE D 384 (fun _ => 0)
set_option maxRecDepth 100000 in
set_option maxHeartbeats 1000000 in
theorem c_X4_init (l : Launch) {D : DD} {B : Nat} {h : HF} {b : Nat} (hb : h b = some (.inr (4, [.null, .null]))) : CT l yX4_init cX4_init 1 none 2 50 [.ref b] D B (b + 1) h none 4 394 (gB (kX4 D b) h b 5) := by
  refine CT.of (L := [(0, .ref b)]) (by decide +kernel) (Nat.le_of_ble_eq_true rfl) rfl ?_
  intro P E S0 M0 AR BL ME CO X hr hnm
  refine j_aload_n X 0 dX4_init_0 rfl rfl ?_
  refine j_objInit X kM_RX4_3 ⟨Nat.le_of_ble_eq_true rfl, Nat.le_of_ble_eq_true rfl⟩ dX4_init_1 ?_
  refine j_heap (h' := gP (kX4 D b) h b (.inr (4, [.null, .null])) 0) (gP_0 hb) ?_
  refine j_aload_n X 0 dX4_init_4 rfl rfl ?_
  refine j_new X (ci := 5) (ty := tyX5) (fs := [.null]) rfl inK5 tyX5_ok kL_RX4_9 kA_RX5 kI_RX5 new5 ⟨Nat.le_of_ble_eq_true rfl, Nat.le_of_ble_eq_true rfl⟩ dX4_init_5 ?_
  refine j_dup X dX4_init_8 rfl ?_
  refine j_bipush X (v := 8) dX4_init_9 (by decide) ?_
  refine j_callI X (rest := [.ref (b + 1 + 0), .ref b]) (c_X5_init l (N := 8) (by decide) hupd_same) m_yX5_init kM_RX4_11 rfl rfl (Nat.le_of_ble_eq_true rfl) ⟨Nat.le_of_ble_eq_true rfl, Nat.le_of_ble_eq_true rfl, Nat.le_of_ble_eq_true rfl, Nat.le_of_ble_eq_true rfl⟩ dX4_init_11 ?_
  refine j_heap (h' := gB (rowC D (b + 1) 8) (hupd (gP (kX4 D b) h b (.inr (4, [.null, .null])) 0) (b + 1) (.inr (5, [.null]))) (b + 1) 2) gB_row ?_
  refine j_putF X hnm fG_RX4_14 fF_4_0 ((if_neg (by omega)).trans ((hupd_ne (by omega)).trans gP_b)) rfl rfl rfl (Nat.le_of_ble_eq_true rfl) dX4_init_14 ?_
  refine j_heap (h' := gP (kX4 D b) h b (.inr (4, [.ref (b + 1), .null])) 2) (gP_c (n := 0) (m := 2) rfl (fun j hj => by rcases (show j = 0 ∨ j = 1 by omega) with rfl | rfl <;> rfl) (by decide)) ?_
  refine j_aload_n X 0 dX4_init_17 rfl rfl ?_
  refine j_new X (ci := 5) (ty := tyX5) (fs := [.null]) rfl inK5 tyX5_ok kL_RX4_9 kA_RX5 kI_RX5 new5 ⟨Nat.le_of_ble_eq_true rfl, Nat.le_of_ble_eq_true rfl⟩ dX4_init_18 ?_
  refine j_dup X dX4_init_21 rfl ?_
  refine j_sipush X (v := 384) dX4_init_22 (by decide) ?_
  refine j_callI X (rest := [.ref (b + 1 + 2), .ref b]) (c_X5_init l (N := 384) (by decide) hupd_same) m_yX5_init kM_RX4_11 rfl rfl (Nat.le_of_ble_eq_true rfl) ⟨Nat.le_of_ble_eq_true rfl, Nat.le_of_ble_eq_true rfl, Nat.le_of_ble_eq_true rfl, Nat.le_of_ble_eq_true rfl⟩ dX4_init_25 ?_
  refine j_heap (h' := gB (rowC D (b + 3) 384) (hupd (gP (kX4 D b) h b (.inr (4, [.ref (b + 1), .null])) 2) (b + 3) (.inr (5, [.null]))) (b + 3) 2) gB_row ?_
  refine j_putF X hnm fG_RX4_20 fF_4_1 ((if_neg (by omega)).trans ((hupd_ne (by omega)).trans gP_b)) rfl rfl rfl (Nat.le_of_ble_eq_true rfl) dX4_init_28 ?_
  refine j_heap (h' := gP (kX4 D b) h b (.inr (4, [.ref (b + 1), .ref (b + 3)])) 4) (gP_c (n := 2) (m := 2) rfl (fun j hj => by rcases (show j = 0 ∨ j = 1 by omega) with rfl | rfl <;> rfl) (by decide)) ?_
  refine j_heap (h' := (gB (kX4 D b) h b 5)) (gP_e rfl) ?_
  have main : J P l E { frames := 2, cells := 4, slots := 394, locals := 50 } S0 M0 AR BL ME CO D B 1 (MQ BL (QC none D B (b + 1 + 4) (gB (kX4 D b) h b 5)) AR S0 4 394 (aB B)) 4 394 (b + 1 + 4) (gB (kX4 D b) h b 5) [(0, .ref b)] [] 31 := j_vret X hr rfl rfl dX4_init_31
  exact main
