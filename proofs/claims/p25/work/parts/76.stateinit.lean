/-! a State is made -/
theorem new3 : ∀ j, j < 6 → defaultValue (tyX3 j) = vp_V [.null, .null, .null, .null, .null, .null] j := fun j hj => by
  have c : j = 0 ∨ j = 1 ∨ j = 2 ∨ j = 3 ∨ j = 4 ∨ j = 5 := by omega
  rcases c with rfl | rfl | rfl | rfl | rfl | rfl <;> rfl
theorem new4 : ∀ j, j < 2 → defaultValue (tyX4 j) = vp_V [.null, .null] j := fun j hj => by
  have c : j = 0 ∨ j = 1 := by omega
  rcases c with rfl | rfl <;> rfl
theorem new7 : ∀ j, j < 3 → defaultValue (tyX7 j) = vp_V [.null, .null, .int 0] j := fun j hj => by
  have c : j = 0 ∨ j = 1 ∨ j = 2 := by omega
  rcases c with rfl | rfl | rfl <;> rfl
theorem new2 : ∀ j, j < 1 → defaultValue (tyX2 j) = vp_V [.null] j := fun j hj => by
  have c : j = 0 := by omega
  subst c; rfl
theorem new6 : ∀ j, j < 8 → defaultValue (tyX6 j) = vp_V [.null, .null, .null, .null, .null, .int 0, .int 0, .int 0] j := fun j hj => by
  have c : j = 0 ∨ j = 1 ∨ j = 2 ∨ j = 3 ∨ j = 4 ∨ j = 5 ∨ j = 6 ∨ j = 7 := by omega
  rcases c with rfl | rfl | rfl | rfl | rfl | rfl | rfl | rfl <;> rfl
def sZ : St := (fun i => match i with | 1 => rFill 8 (fun _ => 0) 0 8 1 | 4 => rFill 8 (fun _ => 0) 0 8 (-4) | 9 => rFill 100 (fun _ => 0) 0 100 (-4) | _ => fun _ => 0, fun _ => 0)
def sI : Nat → St
  | 0 => sZ
  | k + 1 => oPut 0 4 (sI k) (nI k) (fsF (nI k).toNatClampNeg)
theorem lt2c {P : Nat → Prop} (h0 : P 0) (h1 : P 1) : ∀ j, j < 2 → P j := by
  intro j hj
  rcases (show j = 0 ∨ j = 1 by omega) with rfl | rfl <;> assumption
theorem lt3c {P : Nat → Prop} (h0 : P 0) (h1 : P 1) (h2 : P 2) : ∀ j, j < 3 → P j := by
  intro j hj
  rcases (show j = 0 ∨ j = 1 ∨ j = 2 by omega) with rfl | rfl | rfl <;> assumption
theorem lt5c {P : Nat → Prop} (h0 : P 0) (h1 : P 1) (h2 : P 2) (h3 : P 3) (h4 : P 4) : ∀ j, j < 5 → P j := by
  intro j hj
  rcases (show j = 0 ∨ j = 1 ∨ j = 2 ∨ j = 3 ∨ j = 4 by omega) with rfl | rfl | rfl | rfl | rfl <;> assumption
theorem lt13c {P : Nat → Prop} (h0 : P 0) (h1 : P 1) (h2 : P 2) (h3 : P 3) (h4 : P 4) (h5 : P 5) (h6 : P 6) (h7 : P 7) (h8 : P 8) (h9 : P 9) (h10 : P 10) (h11 : P 11) (h12 : P 12) : ∀ j, j < 13 → P j := by
  intro j hj
  rcases (show j = 0 ∨ j = 1 ∨ j = 2 ∨ j = 3 ∨ j = 4 ∨ j = 5 ∨ j = 6 ∨ j = 7 ∨ j = 8 ∨ j = 9 ∨ j = 10 ∨ j = 11 ∨ j = 12 by omega) with rfl | rfl | rfl | rfl | rfl | rfl | rfl | rfl | rfl | rfl | rfl | rfl | rfl <;> assumption
theorem cc_row {D : DD} {b : Nat} : ∀ j, j < 2 → rowC D (b + 1) 4 j = stCell D b sZ (0 + 1 + j) := lt2c (P := fun j => rowC D (b + 1) 4 j = stCell D b sZ (0 + 1 + j)) rfl rfl
theorem cc_X3 {D : DD} {b : Nat} : ∀ j, j < 13 → (cU (cU (kX3 D (b + 3)) 2 (arrE D 8 (rFill 8 (fun _ => 0) 0 8 1))) 8 (arrE D 8 (rFill 8 (fun _ => 0) 0 8 (-4)))) j = stCell D b sZ (2 + 1 + j) := lt13c (P := fun j => (cU (cU (kX3 D (b + 3)) 2 (arrE D 8 (rFill 8 (fun _ => 0) 0 8 1))) 8 (arrE D 8 (rFill 8 (fun _ => 0) 0 8 (-4)))) j = stCell D b sZ (2 + 1 + j)) rfl rfl rfl rfl rfl rfl rfl rfl rfl rfl rfl rfl rfl
theorem cc_X4 {D : DD} {b : Nat} : ∀ j, j < 5 → (kX4 D (b + 16)) j = stCell D b sZ (15 + 1 + j) := lt5c (P := fun j => (kX4 D (b + 16)) j = stCell D b sZ (15 + 1 + j)) rfl rfl rfl rfl rfl
theorem cc_X7 {D : DD} {b : Nat} : ∀ j, j < 5 → (cU (kX7 D (b + 21)) 2 (arrE D 100 (rFill 100 (fun _ => 0) 0 100 (-4)))) j = stCell D b sZ (20 + 1 + j) := lt5c (P := fun j => (cU (kX7 D (b + 21)) 2 (arrE D 100 (rFill 100 (fun _ => 0) 0 100 (-4)))) j = stCell D b sZ (20 + 1 + j)) rfl rfl rfl rfl rfl
theorem cc_X2 {D : DD} {b : Nat} : ∀ j, j < 3 → (kX2 D (b + 26)) j = stCell D b sZ (25 + 1 + j) := lt3c (P := fun j => (kX2 D (b + 26)) j = stCell D b sZ (25 + 1 + j)) rfl rfl rfl
set_option maxRecDepth 100000 in
set_option maxHeartbeats 4000000 in
theorem c_X6_init (l : Launch) {D : DD} {B : Nat} {h : HF} {b : Nat} (hb : h b = some (.inr (6, [.null, .null, .null, .null, .null, .int 0, .int 0, .int 0]))) : CT l yX6_init cX6_init 2 none 4 120 [.ref b] D B (b + 1) h none 28 1748 (hput D h b (sI 4)) := by
  refine CT.of (L := [(0, .ref b)]) (by decide +kernel) (Nat.le_of_ble_eq_true rfl) rfl ?_
  intro P E S0 M0 AR BL ME CO X hr hnm
  refine j_aload_n X 0 dX6_init_0 rfl rfl ?_
  refine j_objInit X kM_RX6_3 ⟨Nat.le_of_ble_eq_true rfl, Nat.le_of_ble_eq_true rfl⟩ dX6_init_1 ?_
  refine j_heap (h' := gP (stCell D b sZ) h b (.inr (6, [.null, .null, .null, .null, .null, .int 0, .int 0, .int 0])) 0) (gP_0 hb) ?_
  refine j_aload_n X 0 dX6_init_4 rfl rfl ?_
  refine j_new X (ci := 5) (ty := tyX5) (fs := [.null]) rfl inK5 tyX5_ok kL_RX6_9 kA_RX5 kI_RX5 new5 ⟨Nat.le_of_ble_eq_true rfl, Nat.le_of_ble_eq_true rfl⟩ dX6_init_5 ?_
  refine j_dup X dX6_init_8 rfl ?_
  refine j_getF X (List.mem_of_getElem? (i := 0) rfl) dX6_init_9 ?_
  refine j_lenF X dX6_init_12 ?_
  refine j_callI X (rest := [.ref (b + 1 + 0), .ref b]) (c_X5_init l (N := 4) (by decide) hupd_same) m_yX5_init kM_RX6_15 rfl rfl (Nat.le_of_ble_eq_true rfl) ⟨Nat.le_of_ble_eq_true rfl, Nat.le_of_ble_eq_true rfl, Nat.le_of_ble_eq_true rfl, Nat.le_of_ble_eq_true rfl⟩ dX6_init_13 ?_
  refine j_heap (h' := gB (rowC D (b + 1) 4) (hupd (gP (stCell D b sZ) h b (.inr (6, [.null, .null, .null, .null, .null, .int 0, .int 0, .int 0])) 0) (b + 1) (.inr (5, [.null]))) (b + 1) 2) gB_row ?_
  refine j_putF X hnm fG_RX6_18 fF_6_0 ((if_neg (by omega)).trans ((hupd_ne (by omega)).trans gP_b)) rfl rfl rfl (Nat.le_of_ble_eq_true rfl) dX6_init_16 ?_
  refine j_heap (h' := gP (stCell D b sZ) h b (.inr (6, [.ref (b + 1), .null, .null, .null, .null, .int 0, .int 0, .int 0])) 2) (gP_c (n := 0) (m := 2) rfl cc_row (by decide)) ?_
  refine j_aload_n X 0 dX6_init_19 rfl rfl ?_
  refine j_new X (ci := 3) (ty := tyX3) (fs := [.null, .null, .null, .null, .null, .null]) rfl inK3 tyX3_ok kL_RX6_24 kA_RX3 kI_RX3 new3 ⟨Nat.le_of_ble_eq_true rfl, Nat.le_of_ble_eq_true rfl⟩ dX6_init_20 ?_
  refine j_dup X dX6_init_23 rfl ?_
  refine j_callI X (rest := [.ref (b + 1 + 2), .ref b]) (c_X3_init l (b := b + 3) hupd_same) m_yX3_init kM_RX6_26 rfl rfl (Nat.le_of_ble_eq_true rfl) ⟨Nat.le_of_ble_eq_true rfl, Nat.le_of_ble_eq_true rfl, Nat.le_of_ble_eq_true rfl, Nat.le_of_ble_eq_true rfl⟩ dX6_init_24 ?_
  refine j_putF X hnm fG_RX6_27 fF_6_1 ((if_neg (by omega)).trans ((hupd_ne (by omega)).trans gP_b)) rfl rfl rfl (Nat.le_of_ble_eq_true rfl) dX6_init_27 ?_
  refine j_heap (h' := gP (stCell D b sZ) h b (.inr (6, [.ref (b + 1), .ref (b + 3), .null, .null, .null, .int 0, .int 0, .int 0])) 15) (gP_c (n := 2) (m := 13) rfl cc_X3 (by decide)) ?_
  refine j_aload_n X 0 dX6_init_30 rfl rfl ?_
  refine j_new X (ci := 4) (ty := tyX4) (fs := [.null, .null]) rfl inK4 tyX4_ok kL_RX6_31 kA_RX4 kI_RX4 new4 ⟨Nat.le_of_ble_eq_true rfl, Nat.le_of_ble_eq_true rfl⟩ dX6_init_31 ?_
  refine j_dup X dX6_init_34 rfl ?_
  refine j_callIN X (rest := [.ref (b + 1 + 15), .ref b]) (c_X4_init l (b := b + 16) hupd_same) m_yX4_init (List.mem_of_getElem? (i := 0) rfl) rfl rfl (Nat.le_of_ble_eq_true rfl) ⟨Nat.le_of_ble_eq_true rfl, Nat.le_of_ble_eq_true rfl, Nat.le_of_ble_eq_true rfl, Nat.le_of_ble_eq_true rfl⟩ dX6_init_35 ?_
  refine j_putF X hnm fG_RX6_34 fF_6_2 ((if_neg (by omega)).trans ((hupd_ne (by omega)).trans gP_b)) rfl rfl rfl (Nat.le_of_ble_eq_true rfl) dX6_init_38 ?_
  refine j_heap (h' := gP (stCell D b sZ) h b (.inr (6, [.ref (b + 1), .ref (b + 3), .ref (b + 16), .null, .null, .int 0, .int 0, .int 0])) 20) (gP_c (n := 15) (m := 5) rfl cc_X4 (by decide)) ?_
  refine j_aload_n X 0 dX6_init_41 rfl rfl ?_
  refine j_new X (ci := 7) (ty := tyX7) (fs := [.null, .null, .int 0]) rfl inK7 tyX7_ok kL_RX6_38 kA_RX7 kI_RX7 new7 ⟨Nat.le_of_ble_eq_true rfl, Nat.le_of_ble_eq_true rfl⟩ dX6_init_42 ?_
  refine j_dup X dX6_init_45 rfl ?_
  refine j_callI X (rest := [.ref (b + 1 + 20), .ref b]) (c_X7_init l (b := b + 21) hupd_same) m_yX7_init kM_RX6_40 rfl rfl (Nat.le_of_ble_eq_true rfl) ⟨Nat.le_of_ble_eq_true rfl, Nat.le_of_ble_eq_true rfl, Nat.le_of_ble_eq_true rfl, Nat.le_of_ble_eq_true rfl⟩ dX6_init_46 ?_
  refine j_putF X hnm fG_RX6_41 fF_6_3 ((if_neg (by omega)).trans ((hupd_ne (by omega)).trans gP_b)) rfl rfl rfl (Nat.le_of_ble_eq_true rfl) dX6_init_49 ?_
  refine j_heap (h' := gP (stCell D b sZ) h b (.inr (6, [.ref (b + 1), .ref (b + 3), .ref (b + 16), .ref (b + 21), .null, .int 0, .int 0, .int 0])) 25) (gP_c (n := 20) (m := 5) rfl cc_X7 (by decide)) ?_
  refine j_aload_n X 0 dX6_init_52 rfl rfl ?_
  refine j_new X (ci := 2) (ty := tyX2) (fs := [.null]) rfl inK2 tyX2_ok kL_RX6_45 kA_RX2 kI_RX2 new2 ⟨Nat.le_of_ble_eq_true rfl, Nat.le_of_ble_eq_true rfl⟩ dX6_init_53 ?_
  refine j_dup X dX6_init_56 rfl ?_
  refine j_callIN X (rest := [.ref (b + 1 + 25), .ref b]) (c_X2_init l (b := b + 26) hupd_same) m_yX2_init (List.mem_of_getElem? (i := 1) rfl) rfl rfl (Nat.le_of_ble_eq_true rfl) ⟨Nat.le_of_ble_eq_true rfl, Nat.le_of_ble_eq_true rfl, Nat.le_of_ble_eq_true rfl, Nat.le_of_ble_eq_true rfl⟩ dX6_init_57 ?_
  refine j_putF X hnm fG_RX6_48 fF_6_4 ((if_neg (by omega)).trans ((hupd_ne (by omega)).trans gP_b)) rfl rfl rfl (Nat.le_of_ble_eq_true rfl) dX6_init_60 ?_
  refine j_heap (h' := gP (stCell D b sZ) h b (.inr (6, [.ref (b + 1), .ref (b + 3), .ref (b + 16), .ref (b + 21), .ref (b + 26), .int 0, .int 0, .int 0])) 28) (gP_c (n := 25) (m := 3) rfl cc_X2 (by decide)) ?_
  refine j_heap (h' := hput D h b sZ) (gP_e rfl) ?_
  have main : J P l E { frames := 4, cells := 28, slots := 1748, locals := 120 } S0 M0 AR BL ME CO D B 2 (MQ BL (QC none D B (b + 1 + 28) (hput D h b (sI 4))) AR S0 28 1748 (aB B)) 28 1748 (b + 1 + 28) (hput D h b sZ) [(0, .ref b)] [] 63 := by
    refine j_iconst X (v := 0) dX6_init_63 (by decide) ?_
    refine j_istore_n X (L' := [(1, .int 0), (0, .ref b)]) dX6_init_64 rfl (by decide) rfl ?_
    have loop65 : ∀ (n k : Nat), k + n = 4 → J P l E { frames := 4, cells := 28, slots := 1748, locals := 120 } S0 M0 AR BL ME CO D B 2 (MQ BL (QC none D B (b + 1 + 28) (hput D h b (sI 4))) AR S0 28 1748 (aB B)) 28 1748 (b + 1 + 28) (hput D h b (sI k)) [(0, .ref b), (1, .int (nI k))] [] 65 := by
      intro n
      induction n with
      | zero =>
        intro k hk
        obtain rfl : k = 4 := by omega
        refine j_iload_n X 1 dX6_init_65 rfl rfl ?_
        refine j_getF X (List.mem_of_getElem? (i := 0) rfl) dX6_init_66 ?_
        refine j_lenF X dX6_init_69 ?_
        refine j_icmp_ge X (tgt := 92) dX6_init_70 (by decide) (fun c_70 => ?_) (fun c_70 => absurd c_70 (by decide))
        exact j_vret X hr rfl rfl dX6_init_92
      | succ n ih =>
        intro k hk
        have hlt : nI k < 4 := nlt_lit (b := 4) (by omega) (by decide)
        refine j_iload_n X 1 dX6_init_65 rfl rfl ?_
        refine j_getF X (List.mem_of_getElem? (i := 0) rfl) dX6_init_66 ?_
        refine j_lenF X dX6_init_69 ?_
        refine j_icmp_ge X (tgt := 92) dX6_init_70 (by decide) (fun c_70 => absurd hlt c_70) (fun c_70 => ?_)
        refine j_aload_n X 0 dX6_init_73 rfl rfl ?_
        refine j_get X fG_RX6_18 hput_0 rfl rfl dX6_init_74 ?_
        refine j_iload_n X 1 dX6_init_77 rfl rfl ?_
        refine j_getF X (List.mem_of_getElem? (i := 0) rfl) dX6_init_78 ?_
        refine j_iload_n X 1 dX6_init_81 rfl rfl ?_
        refine j_ldF X (vp_in_nI (by omega) (by decide)) dX6_init_82 ?_
        refine j_callVv X (rest := []) (s_put0 l) m_yX5_put kM_RX6_52 (hput_k 1 (by decide)) rfl rfl rfl rfl rfl (Nat.le_of_ble_eq_true rfl) ⟨Nat.le_of_ble_eq_true rfl, Nat.le_of_ble_eq_true rfl, Nat.le_of_ble_eq_true rfl, Nat.le_of_ble_eq_true rfl⟩ dX6_init_83 ?_
        obtain ⟨v1, ev1⟩ : ∃ y : Int32, (nI k) + 1 = y := ⟨_, rfl⟩
        refine j_iinc X 1 (k := 1) (v := v1) (L' := [(1, .int v1), (0, .ref b)]) dX6_init_86 rfl (by decide) (by decide) ev1 rfl ?_
        refine j_goto X (tgt := 65) dX6_init_89 (by decide) ?_
        refine j_sub [1, 0] (L' := [(0, .ref b), (1, .int (nI (k + 1)))]) (by subst ev1; simp only [nI_succ k]; rfl) ?_
        exact ih (k + 1) (by omega)
    refine j_sub [1, 0] (L' := [(0, .ref b), (1, .int (nI 0))]) rfl ?_
    exact loop65 4 0 rfl
  exact main
