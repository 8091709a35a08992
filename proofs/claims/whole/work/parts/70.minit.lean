set_option maxRecDepth 100000 in
set_option maxHeartbeats 1000000 in
theorem c_X10_init (l : Launch) {D : DD} {B : Nat} {h : HF} {b : Nat} (hb : h b = some mObj) : CT l yX10_init cX10_init 2 none 1 23 [.ref b] D B (b + 1) h none 7 12710 (mput D h b (mI 8)) := by
  refine CT.of (L := [(0, .ref b)]) (by decide +kernel) (Nat.le_of_ble_eq_true rfl) rfl ?_
  intro P E S0 M0 AR BL ME CO X hr hnm
  refine j_aload_n X 0 dX10_init_0 rfl rfl ?_
  refine j_objInit X kM_RX10_1 ⟨Nat.le_of_ble_eq_true rfl, Nat.le_of_ble_eq_true rfl⟩ dX10_init_1 ?_
  refine j_heap (h' := mP D h b mObj 0) (mP_0 hb) ?_
  refine j_aload_n X 0 dX10_init_4 rfl rfl ?_
  refine j_sipush X (v := 1752) dX10_init_5 (by decide) ?_
  refine j_newi X (N := 1752) (by decide) (by decide) (by decide) ⟨Nat.le_of_ble_eq_true rfl, Nat.le_of_ble_eq_true rfl⟩ dX10_init_8 ?_
  refine j_putF X hnm fG_RX10_7 fF_10_0 ((hupd_ne (by omega)).trans mP_b) rfl rfl rfl (Nat.le_of_ble_eq_true rfl) dX10_init_10 ?_
  refine j_heap (h' := mP D h b (.inr (10, [.ref (b + 1), .null, .int 0, .null, .int 0, .null, .int 0, .int 0, .null, .int 0, .null, .int 0, .int 0, .null])) 1) (mP_s (n := 0) rfl rfl) ?_
  refine j_aload_n X 0 dX10_init_13 rfl rfl ?_
  refine j_sipush X (v := 7008) dX10_init_14 (by decide) ?_
  refine j_newi X (N := 7008) (by decide) (by decide) (by decide) ⟨Nat.le_of_ble_eq_true rfl, Nat.le_of_ble_eq_true rfl⟩ dX10_init_17 ?_
  refine j_putF X hnm fG_RX10_13 fF_10_1 ((hupd_ne (by omega)).trans mP_b) rfl rfl rfl (Nat.le_of_ble_eq_true rfl) dX10_init_19 ?_
  refine j_heap (h' := mP D h b (.inr (10, [.ref (b + 1), .ref (b + 2), .int 0, .null, .int 0, .null, .int 0, .int 0, .null, .int 0, .null, .int 0, .int 0, .null])) 2) (mP_s (n := 1) rfl rfl) ?_
  refine j_aload_n X 0 dX10_init_22 rfl rfl ?_
  refine j_sipush X (v := 1752) dX10_init_23 (by decide) ?_
  refine j_newi X (N := 1752) (by decide) (by decide) (by decide) ⟨Nat.le_of_ble_eq_true rfl, Nat.le_of_ble_eq_true rfl⟩ dX10_init_26 ?_
  refine j_putF X hnm fG_RX10_16 fF_10_3 ((hupd_ne (by omega)).trans mP_b) rfl rfl rfl (Nat.le_of_ble_eq_true rfl) dX10_init_28 ?_
  refine j_heap (h' := mP D h b (.inr (10, [.ref (b + 1), .ref (b + 2), .int 0, .ref (b + 3), .int 0, .null, .int 0, .int 0, .null, .int 0, .null, .int 0, .int 0, .null])) 3) (mP_s (n := 2) rfl rfl) ?_
  refine j_aload_n X 0 dX10_init_31 rfl rfl ?_
  refine j_sipush X (v := 1752) dX10_init_32 (by decide) ?_
  refine j_newi X (N := 1752) (by decide) (by decide) (by decide) ⟨Nat.le_of_ble_eq_true rfl, Nat.le_of_ble_eq_true rfl⟩ dX10_init_35 ?_
  refine j_putF X hnm fG_RX10_19 fF_10_5 ((hupd_ne (by omega)).trans mP_b) rfl rfl rfl (Nat.le_of_ble_eq_true rfl) dX10_init_37 ?_
  refine j_heap (h' := mP D h b (.inr (10, [.ref (b + 1), .ref (b + 2), .int 0, .ref (b + 3), .int 0, .ref (b + 4), .int 0, .int 0, .null, .int 0, .null, .int 0, .int 0, .null])) 4) (mP_s (n := 3) rfl rfl) ?_
  refine j_aload_n X 0 dX10_init_40 rfl rfl ?_
  refine j_sipush X (v := 320) dX10_init_41 (by decide) ?_
  refine j_newi X (N := 320) (by decide) (by decide) (by decide) ⟨Nat.le_of_ble_eq_true rfl, Nat.le_of_ble_eq_true rfl⟩ dX10_init_44 ?_
  refine j_putF X hnm fG_RX10_22 fF_10_8 ((hupd_ne (by omega)).trans mP_b) rfl rfl rfl (Nat.le_of_ble_eq_true rfl) dX10_init_46 ?_
  refine j_heap (h' := mP D h b (.inr (10, [.ref (b + 1), .ref (b + 2), .int 0, .ref (b + 3), .int 0, .ref (b + 4), .int 0, .int 0, .ref (b + 5), .int 0, .null, .int 0, .int 0, .null])) 5) (mP_s (n := 4) rfl rfl) ?_
  refine j_aload_n X 0 dX10_init_49 rfl rfl ?_
  refine j_bipush X (v := 70) dX10_init_50 (by decide) ?_
  refine j_newc X (N := 70) (by decide) (by decide) (by decide) ⟨Nat.le_of_ble_eq_true rfl, Nat.le_of_ble_eq_true rfl⟩ dX10_init_52 ?_
  refine j_putF X hnm fG_RX10_25 fF_10_10 ((hupd_ne (by omega)).trans mP_b) rfl rfl rfl (Nat.le_of_ble_eq_true rfl) dX10_init_54 ?_
  refine j_heap (h' := mP D h b (.inr (10, [.ref (b + 1), .ref (b + 2), .int 0, .ref (b + 3), .int 0, .ref (b + 4), .int 0, .int 0, .ref (b + 5), .int 0, .ref (b + 6), .int 0, .int 0, .null])) 6) (mP_s (n := 5) rfl rfl) ?_
  refine j_aload_n X 0 dX10_init_57 rfl rfl ?_
  refine j_bipush X (v := 56) dX10_init_58 (by decide) ?_
  refine j_newi X (N := 56) (by decide) (by decide) (by decide) ⟨Nat.le_of_ble_eq_true rfl, Nat.le_of_ble_eq_true rfl⟩ dX10_init_60 ?_
  refine j_putF X hnm fG_RX10_29 fF_10_13 ((hupd_ne (by omega)).trans mP_b) rfl rfl rfl (Nat.le_of_ble_eq_true rfl) dX10_init_62 ?_
  refine j_heap (h' := mP D h b (.inr (10, [.ref (b + 1), .ref (b + 2), .int 0, .ref (b + 3), .int 0, .ref (b + 4), .int 0, .int 0, .ref (b + 5), .int 0, .ref (b + 6), .int 0, .int 0, .ref (b + 7)])) 7) (mP_s (n := 6) rfl rfl) ?_
  refine j_heap (h' := mput D h b mZ) mP_end ?_
  have main : J P l E { frames := 1, cells := 7, slots := 12710, locals := 23 } S0 M0 AR BL ME CO D B 2 (MQ BL (QC none D B (b + 1 + 7) (mput D h b (mI 8))) AR S0 7 12710 (aB B)) 7 12710 (b + 1 + 7) (mput D h b mZ) [(0, .ref b)] [] 65 := by
    refine j_aload_n X 0 dX10_init_65 rfl rfl ?_
    refine j_get X fG_RX10_7 mput_0 rfl rfl dX10_init_66 ?_
    refine j_iconst X (v := 0) dX10_init_69 (by decide) ?_
    refine j_bipush X (v := 60) dX10_init_70 (by decide) ?_
    refine j_stM X (vp_in_nI (n := 0) (by decide) (by decide)) dX10_init_72 ?_
    refine j_aload_n X 0 dX10_init_73 rfl rfl ?_
    refine j_get X fG_RX10_7 mput_0 rfl rfl dX10_init_74 ?_
    refine j_iconst X (v := 1) dX10_init_77 (by decide) ?_
    refine j_bipush X (v := 30) dX10_init_78 (by decide) ?_
    refine j_stM X (vp_in_nI (n := 1) (by decide) (by decide)) dX10_init_80 ?_
    refine j_aload_n X 0 dX10_init_81 rfl rfl ?_
    refine j_get X fG_RX10_7 mput_0 rfl rfl dX10_init_82 ?_
    refine j_iconst X (v := 2) dX10_init_85 (by decide) ?_
    refine j_bipush X (v := 10) dX10_init_86 (by decide) ?_
    refine j_stM X (vp_in_nI (n := 2) (by decide) (by decide)) dX10_init_88 ?_
    refine j_aload_n X 0 dX10_init_89 rfl rfl ?_
    refine j_get X fG_RX10_7 mput_0 rfl rfl dX10_init_90 ?_
    refine j_iconst X (v := 3) dX10_init_93 (by decide) ?_
    refine j_iconst X (v := 4) dX10_init_94 (by decide) ?_
    refine j_stM X (vp_in_nI (n := 3) (by decide) (by decide)) dX10_init_95 ?_
    refine j_iconst X (v := 0) dX10_init_96 (by decide) ?_
    refine j_istore_n X (L' := [(1, .int 0), (0, .ref b)]) dX10_init_97 rfl (by decide) rfl ?_
    have loop98 : ∀ (n k : Nat), k + n = 8 → J P l E { frames := 1, cells := 7, slots := 12710, locals := 23 } S0 M0 AR BL ME CO D B 2 (MQ BL (QC none D B (b + 1 + 7) (mput D h b (mI 8))) AR S0 7 12710 (aB B)) 7 12710 (b + 1 + 7) (mput D h b (mI k)) [(0, .ref b), (1, .int (nI k))] [] 98 := by
      intro n
      induction n with
      | zero =>
        intro k hk
        obtain rfl : k = 8 := by omega
        refine j_iload_n X 1 dX10_init_98 rfl rfl ?_
        refine j_bipush X (v := 8) dX10_init_99 (by decide) ?_
        refine j_icmp_ge X (tgt := 117) dX10_init_101 (by decide) (fun c_101 => ?_) (fun c_101 => absurd c_101 (by decide))
        exact j_vret X hr rfl rfl dX10_init_117
      | succ n ih =>
        intro k hk
        have hlt : nI k < 8 := nlt_lit (b := 8) (by omega) (by decide)
        refine j_iload_n X 1 dX10_init_98 rfl rfl ?_
        refine j_bipush X (v := 8) dX10_init_99 (by decide) ?_
        refine j_icmp_ge X (tgt := 117) dX10_init_101 (by decide) (fun c_101 => absurd hlt c_101) (fun c_101 => ?_)
        refine j_aload_n X 0 dX10_init_104 rfl rfl ?_
        refine j_iload_n X 1 dX10_init_105 rfl rfl ?_
        refine j_iconst X (v := 0) dX10_init_106 (by decide) ?_
        refine j_iconst X (v := 1) dX10_init_107 (by decide) ?_
        refine j_callVv X (rest := []) (c_X10_to l (po_nI (by omega)) (show WH 0 _ from ⟨0, by decide, rfl⟩)) m_yX10_to kM_RX10_32 mput_0 rfl rfl rfl rfl rfl (Nat.le_of_ble_eq_true rfl) ⟨Nat.le_of_ble_eq_true rfl, Nat.le_of_ble_eq_true rfl, Nat.le_of_ble_eq_true rfl, Nat.le_of_ble_eq_true rfl⟩ dX10_init_108 ?_
        obtain ⟨v1, ev1⟩ : ∃ y : Int32, (nI k) + 1 = y := ⟨_, rfl⟩
        refine j_iinc X 1 (k := 1) (v := v1) (L' := [(1, .int v1), (0, .ref b)]) dX10_init_111 rfl (by decide) (by decide) ev1 rfl ?_
        refine j_goto X (tgt := 98) dX10_init_114 (by decide) ?_
        refine j_sub [1, 0] (L' := [(0, .ref b), (1, .int (nI (k + 1)))]) (by subst ev1; first | with_reducible rfl | (simp only [mI, nI_succ k, if_pos c_101]; done) | (simp only [mI, nI_succ k, if_pos c_101]; rfl) | rfl) ?_
        refine j_heap (h' := mput D h b (mI (k + 1))) (by subst ev1; first | with_reducible rfl | (simp only [mI, nI_succ k, if_pos c_101]; done) | (simp only [mI, nI_succ k, if_pos c_101]; rfl) | rfl) ?_
        exact ih (k + 1) (by omega)
    refine j_sub [1, 0] (L' := [(0, .ref b), (1, .int (nI 0))]) (by first | with_reducible rfl | (simp only [mI]; done) | (simp only [mI]; rfl) | rfl) ?_
    refine j_heap (h' := mput D h b (mI 0)) rfl ?_
    exact loop98 8 0 rfl
  exact main
