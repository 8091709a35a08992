/-! blocks made of Rows, then filled -/
def cU (cf : Nat → va_E) (j : Nat) (x : va_E) : Nat → va_E := fun i => if i = j then x else cf i
theorem gB_u {cf : Nat → va_E} {h : HF} {b n j z : Nat} {x : va_E} (hz : z = b + j) (hj : j < n) : hupd (gB cf h b n) z x = gB (cU cf j x) h b n := by
  subst hz
  funext q
  by_cases c : q = b + j
  · subst c
    rw [hupd_same]
    unfold gB cU
    rw [if_pos (by omega), if_pos (by omega)]
  · rw [hupd_ne c]
    unfold gB cU
    by_cases c2 : b ≤ q ∧ q < b + n
    · rw [if_pos c2, if_pos c2, if_neg (by omega)]
    · rw [if_neg c2, if_neg c2]
theorem gB_k {cf : Nat → va_E} {h : HF} {b n : Nat} (j : Nat) (hj : j < n) : gB cf h b n (b + j) = some (cf j) := by
  unfold gB
  rw [if_pos (by omega), Nat.add_sub_cancel_left]
theorem gB_z {cf : Nat → va_E} {h : HF} {b n : Nat} (hn : 0 < n) : gB cf h b n b = some (cf 0) := gB_k 0 hn
def kX7 (D : DD) (b : Nat) : Nat → va_E
  | 0 => .inr (7, [.ref (b + 1), .ref (b + 3), .int 0])
  | 1 => rowE (b + 2)
  | 2 => arrE D 100 (fun _ => 0)
  | 3 => rowE (b + 4)
  | _ => arrE D 100 (fun _ => 0)
set_option maxRecDepth 100000 in
set_option maxHeartbeats 1000000 in
theorem c_X7_init (l : Launch) {D : DD} {B : Nat} {h : HF} {b : Nat} (hb : h b = some (.inr (7, [.null, .null, .int 0]))) : CT l yX7_init cX7_init 1 none 3 80 [.ref b] D B (b + 1) h none 4 202 (gB (cU (kX7 D b) 2 (arrE D 100 (rFill 100 (fun _ => 0) 0 100 (-4)))) h b 5) := by
  refine CT.of (L := [(0, .ref b)]) (by decide +kernel) (Nat.le_of_ble_eq_true rfl) rfl ?_
  intro P E S0 M0 AR BL ME CO X hr hnm
  refine j_aload_n X 0 dX7_init_0 rfl rfl ?_
  refine j_objInit X kM_RX7_3 ⟨Nat.le_of_ble_eq_true rfl, Nat.le_of_ble_eq_true rfl⟩ dX7_init_1 ?_
  refine j_heap (h' := gP (kX7 D b) h b (.inr (7, [.null, .null, .int 0])) 0) (gP_0 hb) ?_
  refine j_aload_n X 0 dX7_init_4 rfl rfl ?_
  refine j_new X (ci := 5) (ty := tyX5) (fs := [.null]) rfl inK5 tyX5_ok kL_RX7_9 kA_RX5 kI_RX5 new5 ⟨Nat.le_of_ble_eq_true rfl, Nat.le_of_ble_eq_true rfl⟩ dX7_init_5 ?_
  refine j_dup X dX7_init_8 rfl ?_
  refine j_bipush X (v := 100) dX7_init_9 (by decide) ?_
  refine j_callI X (rest := [.ref (b + 1 + 0), .ref b]) (c_X5_init l (N := 100) (by decide) hupd_same) m_yX5_init kM_RX7_11 rfl rfl (Nat.le_of_ble_eq_true rfl) ⟨Nat.le_of_ble_eq_true rfl, Nat.le_of_ble_eq_true rfl, Nat.le_of_ble_eq_true rfl, Nat.le_of_ble_eq_true rfl⟩ dX7_init_11 ?_
  refine j_heap (h' := gB (rowC D (b + 1) 100) (hupd (gP (kX7 D b) h b (.inr (7, [.null, .null, .int 0])) 0) (b + 1) (.inr (5, [.null]))) (b + 1) 2) gB_row ?_
  refine j_putF X hnm fG_RX7_14 fF_7_0 ((if_neg (by omega)).trans ((hupd_ne (by omega)).trans gP_b)) rfl rfl rfl (Nat.le_of_ble_eq_true rfl) dX7_init_14 ?_
  refine j_heap (h' := gP (kX7 D b) h b (.inr (7, [.ref (b + 1), .null, .int 0])) 2) (gP_c (n := 0) (m := 2) rfl (fun j hj => by rcases (show j = 0 ∨ j = 1 by omega) with rfl | rfl <;> rfl) (by decide)) ?_
  refine j_aload_n X 0 dX7_init_17 rfl rfl ?_
  refine j_new X (ci := 5) (ty := tyX5) (fs := [.null]) rfl inK5 tyX5_ok kL_RX7_9 kA_RX5 kI_RX5 new5 ⟨Nat.le_of_ble_eq_true rfl, Nat.le_of_ble_eq_true rfl⟩ dX7_init_18 ?_
  refine j_dup X dX7_init_21 rfl ?_
  refine j_bipush X (v := 100) dX7_init_22 (by decide) ?_
  refine j_callI X (rest := [.ref (b + 1 + 2), .ref b]) (c_X5_init l (N := 100) (by decide) hupd_same) m_yX5_init kM_RX7_11 rfl rfl (Nat.le_of_ble_eq_true rfl) ⟨Nat.le_of_ble_eq_true rfl, Nat.le_of_ble_eq_true rfl, Nat.le_of_ble_eq_true rfl, Nat.le_of_ble_eq_true rfl⟩ dX7_init_24 ?_
  refine j_heap (h' := gB (rowC D (b + 3) 100) (hupd (gP (kX7 D b) h b (.inr (7, [.ref (b + 1), .null, .int 0])) 2) (b + 3) (.inr (5, [.null]))) (b + 3) 2) gB_row ?_
  refine j_putF X hnm fG_RX7_20 fF_7_1 ((if_neg (by omega)).trans ((hupd_ne (by omega)).trans gP_b)) rfl rfl rfl (Nat.le_of_ble_eq_true rfl) dX7_init_27 ?_
  refine j_heap (h' := gP (kX7 D b) h b (.inr (7, [.ref (b + 1), .ref (b + 3), .int 0])) 4) (gP_c (n := 2) (m := 2) rfl (fun j hj => by rcases (show j = 0 ∨ j = 1 by omega) with rfl | rfl <;> rfl) (by decide)) ?_
  refine j_heap (h' := (gB (kX7 D b) h b 5)) (gP_e rfl) ?_
  refine j_aload_n X 0 dX7_init_30 rfl rfl ?_
  refine j_get X fG_RX7_14 (gB_z (by decide)) rfl rfl dX7_init_31 ?_
  refine j_iconst X (v := 0) dX7_init_34 (by decide) ?_
  refine j_bipush X (v := 100) dX7_init_35 (by decide) ?_
  refine j_bipush X (v := (-4)) dX7_init_37 (by decide) ?_
  refine j_callVv X (rest := []) (c_X5_fill l (r := b + 1) (c := b + 2) (n := 100) (f := fun _ => 0) (i := 0) (k := 100) (v := (-4)) (by decide) (gB_k 1 (by decide)) (gB_k 2 (by decide))) m_yX5_fill kM_RX7_23 (gB_k 1 (by decide)) rfl rfl rfl rfl rfl (Nat.le_of_ble_eq_true rfl) ⟨Nat.le_of_ble_eq_true rfl, Nat.le_of_ble_eq_true rfl, Nat.le_of_ble_eq_true rfl, Nat.le_of_ble_eq_true rfl⟩ dX7_init_39 ?_
  refine j_heap (h' := gB (cU (kX7 D b) 2 (arrE D 100 (rFill 100 (fun _ => 0) 0 100 (-4)))) h b 5) (gB_u rfl (by decide)) ?_
  have main : J P l E { frames := 3, cells := 4, slots := 202, locals := 80 } S0 M0 AR BL ME CO D B 1 (MQ BL (QC none D B (b + 1 + 4) (gB (cU (kX7 D b) 2 (arrE D 100 (rFill 100 (fun _ => 0) 0 100 (-4)))) h b 5)) AR S0 4 202 (aB B)) 4 202 (b + 1 + 4) (gB (cU (kX7 D b) 2 (arrE D 100 (rFill 100 (fun _ => 0) 0 100 (-4)))) h b 5) [(0, .ref b)] [] 42 := j_vret X hr rfl rfl dX7_init_42
  exact main
def kX3 (D : DD) (b : Nat) : Nat → va_E
  | 0 => .inr (3, [.ref (b + 1), .ref (b + 3), .ref (b + 5), .ref (b + 7), .ref (b + 9), .ref (b + 11)])
  | 1 => rowE (b + 2)
  | 2 => arrE D 8 (fun _ => 0)
  | 3 => rowE (b + 4)
  | 4 => arrE D 8 (fun _ => 0)
  | 5 => rowE (b + 6)
  | 6 => arrE D 8 (fun _ => 0)
  | 7 => rowE (b + 8)
  | 8 => arrE D 8 (fun _ => 0)
  | 9 => rowE (b + 10)
  | 10 => arrE D 8 (fun _ => 0)
  | 11 => rowE (b + 12)
  | _ => arrE D 88 (fun _ => 0)
set_option maxRecDepth 100000 in
set_option maxHeartbeats 1000000 in
theorem c_X3_init (l : Launch) {D : DD} {B : Nat} {h : HF} {b : Nat} (hb : h b = some (.inr (3, [.null, .null, .null, .null, .null, .null]))) : CT l yX3_init cX3_init 1 none 3 80 [.ref b] D B (b + 1) h none 12 134 (gB (cU (cU (kX3 D b) 2 (arrE D 8 (rFill 8 (fun _ => 0) 0 8 1))) 8 (arrE D 8 (rFill 8 (fun _ => 0) 0 8 (-4)))) h b 13) := by
  refine CT.of (L := [(0, .ref b)]) (by decide +kernel) (Nat.le_of_ble_eq_true rfl) rfl ?_
  intro P E S0 M0 AR BL ME CO X hr hnm
  refine j_aload_n X 0 dX3_init_0 rfl rfl ?_
  refine j_objInit X kM_RX3_3 ⟨Nat.le_of_ble_eq_true rfl, Nat.le_of_ble_eq_true rfl⟩ dX3_init_1 ?_
  refine j_heap (h' := gP (kX3 D b) h b (.inr (3, [.null, .null, .null, .null, .null, .null])) 0) (gP_0 hb) ?_
  refine j_aload_n X 0 dX3_init_4 rfl rfl ?_
  refine j_new X (ci := 5) (ty := tyX5) (fs := [.null]) rfl inK5 tyX5_ok kL_RX3_9 kA_RX5 kI_RX5 new5 ⟨Nat.le_of_ble_eq_true rfl, Nat.le_of_ble_eq_true rfl⟩ dX3_init_5 ?_
  refine j_dup X dX3_init_8 rfl ?_
  refine j_bipush X (v := 8) dX3_init_9 (by decide) ?_
  refine j_callI X (rest := [.ref (b + 1 + 0), .ref b]) (c_X5_init l (N := 8) (by decide) hupd_same) m_yX5_init kM_RX3_11 rfl rfl (Nat.le_of_ble_eq_true rfl) ⟨Nat.le_of_ble_eq_true rfl, Nat.le_of_ble_eq_true rfl, Nat.le_of_ble_eq_true rfl, Nat.le_of_ble_eq_true rfl⟩ dX3_init_11 ?_
  refine j_heap (h' := gB (rowC D (b + 1) 8) (hupd (gP (kX3 D b) h b (.inr (3, [.null, .null, .null, .null, .null, .null])) 0) (b + 1) (.inr (5, [.null]))) (b + 1) 2) gB_row ?_
  refine j_putF X hnm fG_RX3_14 fF_3_0 ((if_neg (by omega)).trans ((hupd_ne (by omega)).trans gP_b)) rfl rfl rfl (Nat.le_of_ble_eq_true rfl) dX3_init_14 ?_
  refine j_heap (h' := gP (kX3 D b) h b (.inr (3, [.ref (b + 1), .null, .null, .null, .null, .null])) 2) (gP_c (n := 0) (m := 2) rfl (fun j hj => by rcases (show j = 0 ∨ j = 1 by omega) with rfl | rfl <;> rfl) (by decide)) ?_
  refine j_aload_n X 0 dX3_init_17 rfl rfl ?_
  refine j_new X (ci := 5) (ty := tyX5) (fs := [.null]) rfl inK5 tyX5_ok kL_RX3_9 kA_RX5 kI_RX5 new5 ⟨Nat.le_of_ble_eq_true rfl, Nat.le_of_ble_eq_true rfl⟩ dX3_init_18 ?_
  refine j_dup X dX3_init_21 rfl ?_
  refine j_bipush X (v := 8) dX3_init_22 (by decide) ?_
  refine j_callI X (rest := [.ref (b + 1 + 2), .ref b]) (c_X5_init l (N := 8) (by decide) hupd_same) m_yX5_init kM_RX3_11 rfl rfl (Nat.le_of_ble_eq_true rfl) ⟨Nat.le_of_ble_eq_true rfl, Nat.le_of_ble_eq_true rfl, Nat.le_of_ble_eq_true rfl, Nat.le_of_ble_eq_true rfl⟩ dX3_init_24 ?_
  refine j_heap (h' := gB (rowC D (b + 3) 8) (hupd (gP (kX3 D b) h b (.inr (3, [.ref (b + 1), .null, .null, .null, .null, .null])) 2) (b + 3) (.inr (5, [.null]))) (b + 3) 2) gB_row ?_
  refine j_putF X hnm fG_RX3_20 fF_3_1 ((if_neg (by omega)).trans ((hupd_ne (by omega)).trans gP_b)) rfl rfl rfl (Nat.le_of_ble_eq_true rfl) dX3_init_27 ?_
  refine j_heap (h' := gP (kX3 D b) h b (.inr (3, [.ref (b + 1), .ref (b + 3), .null, .null, .null, .null])) 4) (gP_c (n := 2) (m := 2) rfl (fun j hj => by rcases (show j = 0 ∨ j = 1 by omega) with rfl | rfl <;> rfl) (by decide)) ?_
  refine j_aload_n X 0 dX3_init_30 rfl rfl ?_
  refine j_new X (ci := 5) (ty := tyX5) (fs := [.null]) rfl inK5 tyX5_ok kL_RX3_9 kA_RX5 kI_RX5 new5 ⟨Nat.le_of_ble_eq_true rfl, Nat.le_of_ble_eq_true rfl⟩ dX3_init_31 ?_
  refine j_dup X dX3_init_34 rfl ?_
  refine j_bipush X (v := 8) dX3_init_35 (by decide) ?_
  refine j_callI X (rest := [.ref (b + 1 + 4), .ref b]) (c_X5_init l (N := 8) (by decide) hupd_same) m_yX5_init kM_RX3_11 rfl rfl (Nat.le_of_ble_eq_true rfl) ⟨Nat.le_of_ble_eq_true rfl, Nat.le_of_ble_eq_true rfl, Nat.le_of_ble_eq_true rfl, Nat.le_of_ble_eq_true rfl⟩ dX3_init_37 ?_
  refine j_heap (h' := gB (rowC D (b + 5) 8) (hupd (gP (kX3 D b) h b (.inr (3, [.ref (b + 1), .ref (b + 3), .null, .null, .null, .null])) 4) (b + 5) (.inr (5, [.null]))) (b + 5) 2) gB_row ?_
  refine j_putF X hnm fG_RX3_23 fF_3_2 ((if_neg (by omega)).trans ((hupd_ne (by omega)).trans gP_b)) rfl rfl rfl (Nat.le_of_ble_eq_true rfl) dX3_init_40 ?_
  refine j_heap (h' := gP (kX3 D b) h b (.inr (3, [.ref (b + 1), .ref (b + 3), .ref (b + 5), .null, .null, .null])) 6) (gP_c (n := 4) (m := 2) rfl (fun j hj => by rcases (show j = 0 ∨ j = 1 by omega) with rfl | rfl <;> rfl) (by decide)) ?_
  refine j_aload_n X 0 dX3_init_43 rfl rfl ?_
  refine j_new X (ci := 5) (ty := tyX5) (fs := [.null]) rfl inK5 tyX5_ok kL_RX3_9 kA_RX5 kI_RX5 new5 ⟨Nat.le_of_ble_eq_true rfl, Nat.le_of_ble_eq_true rfl⟩ dX3_init_44 ?_
  refine j_dup X dX3_init_47 rfl ?_
  refine j_bipush X (v := 8) dX3_init_48 (by decide) ?_
  refine j_callI X (rest := [.ref (b + 1 + 6), .ref b]) (c_X5_init l (N := 8) (by decide) hupd_same) m_yX5_init kM_RX3_11 rfl rfl (Nat.le_of_ble_eq_true rfl) ⟨Nat.le_of_ble_eq_true rfl, Nat.le_of_ble_eq_true rfl, Nat.le_of_ble_eq_true rfl, Nat.le_of_ble_eq_true rfl⟩ dX3_init_50 ?_
  refine j_heap (h' := gB (rowC D (b + 7) 8) (hupd (gP (kX3 D b) h b (.inr (3, [.ref (b + 1), .ref (b + 3), .ref (b + 5), .null, .null, .null])) 6) (b + 7) (.inr (5, [.null]))) (b + 7) 2) gB_row ?_
  refine j_putF X hnm fG_RX3_26 fF_3_3 ((if_neg (by omega)).trans ((hupd_ne (by omega)).trans gP_b)) rfl rfl rfl (Nat.le_of_ble_eq_true rfl) dX3_init_53 ?_
  refine j_heap (h' := gP (kX3 D b) h b (.inr (3, [.ref (b + 1), .ref (b + 3), .ref (b + 5), .ref (b + 7), .null, .null])) 8) (gP_c (n := 6) (m := 2) rfl (fun j hj => by rcases (show j = 0 ∨ j = 1 by omega) with rfl | rfl <;> rfl) (by decide)) ?_
  refine j_aload_n X 0 dX3_init_56 rfl rfl ?_
  refine j_new X (ci := 5) (ty := tyX5) (fs := [.null]) rfl inK5 tyX5_ok kL_RX3_9 kA_RX5 kI_RX5 new5 ⟨Nat.le_of_ble_eq_true rfl, Nat.le_of_ble_eq_true rfl⟩ dX3_init_57 ?_
  refine j_dup X dX3_init_60 rfl ?_
  refine j_bipush X (v := 8) dX3_init_61 (by decide) ?_
  refine j_callI X (rest := [.ref (b + 1 + 8), .ref b]) (c_X5_init l (N := 8) (by decide) hupd_same) m_yX5_init kM_RX3_11 rfl rfl (Nat.le_of_ble_eq_true rfl) ⟨Nat.le_of_ble_eq_true rfl, Nat.le_of_ble_eq_true rfl, Nat.le_of_ble_eq_true rfl, Nat.le_of_ble_eq_true rfl⟩ dX3_init_63 ?_
  refine j_heap (h' := gB (rowC D (b + 9) 8) (hupd (gP (kX3 D b) h b (.inr (3, [.ref (b + 1), .ref (b + 3), .ref (b + 5), .ref (b + 7), .null, .null])) 8) (b + 9) (.inr (5, [.null]))) (b + 9) 2) gB_row ?_
  refine j_putF X hnm fG_RX3_29 fF_3_4 ((if_neg (by omega)).trans ((hupd_ne (by omega)).trans gP_b)) rfl rfl rfl (Nat.le_of_ble_eq_true rfl) dX3_init_66 ?_
  refine j_heap (h' := gP (kX3 D b) h b (.inr (3, [.ref (b + 1), .ref (b + 3), .ref (b + 5), .ref (b + 7), .ref (b + 9), .null])) 10) (gP_c (n := 8) (m := 2) rfl (fun j hj => by rcases (show j = 0 ∨ j = 1 by omega) with rfl | rfl <;> rfl) (by decide)) ?_
  refine j_aload_n X 0 dX3_init_69 rfl rfl ?_
  refine j_new X (ci := 5) (ty := tyX5) (fs := [.null]) rfl inK5 tyX5_ok kL_RX3_9 kA_RX5 kI_RX5 new5 ⟨Nat.le_of_ble_eq_true rfl, Nat.le_of_ble_eq_true rfl⟩ dX3_init_70 ?_
  refine j_dup X dX3_init_73 rfl ?_
  refine j_bipush X (v := 88) dX3_init_74 (by decide) ?_
  refine j_callI X (rest := [.ref (b + 1 + 10), .ref b]) (c_X5_init l (N := 88) (by decide) hupd_same) m_yX5_init kM_RX3_11 rfl rfl (Nat.le_of_ble_eq_true rfl) ⟨Nat.le_of_ble_eq_true rfl, Nat.le_of_ble_eq_true rfl, Nat.le_of_ble_eq_true rfl, Nat.le_of_ble_eq_true rfl⟩ dX3_init_76 ?_
  refine j_heap (h' := gB (rowC D (b + 11) 88) (hupd (gP (kX3 D b) h b (.inr (3, [.ref (b + 1), .ref (b + 3), .ref (b + 5), .ref (b + 7), .ref (b + 9), .null])) 10) (b + 11) (.inr (5, [.null]))) (b + 11) 2) gB_row ?_
  refine j_putF X hnm fG_RX3_32 fF_3_5 ((if_neg (by omega)).trans ((hupd_ne (by omega)).trans gP_b)) rfl rfl rfl (Nat.le_of_ble_eq_true rfl) dX3_init_79 ?_
  refine j_heap (h' := gP (kX3 D b) h b (.inr (3, [.ref (b + 1), .ref (b + 3), .ref (b + 5), .ref (b + 7), .ref (b + 9), .ref (b + 11)])) 12) (gP_c (n := 10) (m := 2) rfl (fun j hj => by rcases (show j = 0 ∨ j = 1 by omega) with rfl | rfl <;> rfl) (by decide)) ?_
  refine j_heap (h' := (gB (kX3 D b) h b 13)) (gP_e rfl) ?_
  refine j_aload_n X 0 dX3_init_82 rfl rfl ?_
  refine j_get X fG_RX3_14 (gB_z (by decide)) rfl rfl dX3_init_83 ?_
  refine j_iconst X (v := 0) dX3_init_86 (by decide) ?_
  refine j_bipush X (v := 8) dX3_init_87 (by decide) ?_
  refine j_iconst X (v := 1) dX3_init_89 (by decide) ?_
  refine j_callVv X (rest := []) (c_X5_fill l (r := b + 1) (c := b + 2) (n := 8) (f := fun _ => 0) (i := 0) (k := 8) (v := 1) (by decide) (gB_k 1 (by decide)) (gB_k 2 (by decide))) m_yX5_fill kM_RX3_35 (gB_k 1 (by decide)) rfl rfl rfl rfl rfl (Nat.le_of_ble_eq_true rfl) ⟨Nat.le_of_ble_eq_true rfl, Nat.le_of_ble_eq_true rfl, Nat.le_of_ble_eq_true rfl, Nat.le_of_ble_eq_true rfl⟩ dX3_init_90 ?_
  refine j_heap (h' := gB (cU (kX3 D b) 2 (arrE D 8 (rFill 8 (fun _ => 0) 0 8 1))) h b 13) (gB_u rfl (by decide)) ?_
  refine j_aload_n X 0 dX3_init_93 rfl rfl ?_
  refine j_get X fG_RX3_26 (gB_z (by decide)) rfl rfl dX3_init_94 ?_
  refine j_iconst X (v := 0) dX3_init_97 (by decide) ?_
  refine j_bipush X (v := 8) dX3_init_98 (by decide) ?_
  refine j_bipush X (v := (-4)) dX3_init_100 (by decide) ?_
  refine j_callVv X (rest := []) (c_X5_fill l (r := b + 7) (c := b + 8) (n := 8) (f := fun _ => 0) (i := 0) (k := 8) (v := (-4)) (by decide) (gB_k 7 (by decide)) (gB_k 8 (by decide))) m_yX5_fill kM_RX3_35 (gB_k 7 (by decide)) rfl rfl rfl rfl rfl (Nat.le_of_ble_eq_true rfl) ⟨Nat.le_of_ble_eq_true rfl, Nat.le_of_ble_eq_true rfl, Nat.le_of_ble_eq_true rfl, Nat.le_of_ble_eq_true rfl⟩ dX3_init_102 ?_
  refine j_heap (h' := gB (cU (cU (kX3 D b) 2 (arrE D 8 (rFill 8 (fun _ => 0) 0 8 1))) 8 (arrE D 8 (rFill 8 (fun _ => 0) 0 8 (-4)))) h b 13) (gB_u rfl (by decide)) ?_
  have main : J P l E { frames := 3, cells := 12, slots := 134, locals := 80 } S0 M0 AR BL ME CO D B 1 (MQ BL (QC none D B (b + 1 + 12) (gB (cU (cU (kX3 D b) 2 (arrE D 8 (rFill 8 (fun _ => 0) 0 8 1))) 8 (arrE D 8 (rFill 8 (fun _ => 0) 0 8 (-4)))) h b 13)) AR S0 12 134 (aB B)) 12 134 (b + 1 + 12) (gB (cU (cU (kX3 D b) 2 (arrE D 8 (rFill 8 (fun _ => 0) 0 8 1))) 8 (arrE D 8 (rFill 8 (fun _ => 0) 0 8 (-4)))) h b 13) [(0, .ref b)] [] 105 := j_vret X hr rfl rfl dX3_init_105
  exact main
