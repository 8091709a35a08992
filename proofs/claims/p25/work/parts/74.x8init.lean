/-! the text is made -/
def kX8 (D : DD) (b : Nat) : Nat → va_E
  | 0 => .inr (8, [.ref (b + 1), .int 0, .int 0])
  | _ => chrE D 70 (fun _ => 0)
set_option maxRecDepth 100000 in
set_option maxHeartbeats 1000000 in
theorem c_X8_init (l : Launch) {D : DD} {B : Nat} {h : HF} {b : Nat} (hb : h b = some (.inr (8, [.null, .int 0, .int 0]))) : CT l yX8_init cX8_init 1 none 2 50 [.ref b] D B (b + 1) h none 1 70 (gB (kX8 D b) h b 2) := by
  refine CT.of (L := [(0, .ref b)]) (by decide +kernel) (Nat.le_of_ble_eq_true rfl) rfl ?_
  intro P E S0 M0 AR BL ME CO X hr hnm
  refine j_aload_n X 0 dX8_init_0 rfl rfl ?_
  refine j_objInit X kM_RX8_3 ⟨Nat.le_of_ble_eq_true rfl, Nat.le_of_ble_eq_true rfl⟩ dX8_init_1 ?_
  refine j_heap (h' := gP (kX8 D b) h b (.inr (8, [.null, .int 0, .int 0])) 0) (gP_0 hb) ?_
  refine j_aload_n X 0 dX8_init_4 rfl rfl ?_
  refine j_bipush X (v := 70) dX8_init_5 (by decide) ?_
  refine j_newc X (N := 70) (by decide) (by decide) (by decide) ⟨Nat.le_of_ble_eq_true rfl, Nat.le_of_ble_eq_true rfl⟩ dX8_init_7 ?_
  refine j_putF X hnm fG_RX8_9 fF_8_0 ((hupd_ne (by omega)).trans gP_b) rfl rfl rfl (Nat.le_of_ble_eq_true rfl) dX8_init_9 ?_
  refine j_heap (h' := gP (kX8 D b) h b (.inr (8, [.ref (b + 1), .int 0, .int 0])) 1) (gP_s (n := 0) rfl rfl) ?_
  refine j_heap (h' := gB (kX8 D b) h b 2) (gP_e rfl) ?_
  have main : J P l E { frames := 2, cells := 1, slots := 70, locals := 50 } S0 M0 AR BL ME CO D B 1 (MQ BL (QC none D B (b + 1 + 1) (gB (kX8 D b) h b 2)) AR S0 1 70 (aB B)) 1 70 (b + 1 + 1) (gB (kX8 D b) h b 2) [(0, .ref b)] [] 12 := j_vret X hr rfl rfl dX8_init_12
  exact main
