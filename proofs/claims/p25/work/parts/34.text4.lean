set_option maxRecDepth 100000 in
set_option maxHeartbeats 1000000 in
theorem c_X8_readInto (l : Launch) {D : DD} {B z : Nat} {h : HF} {b : Nat} {S : Sy} {m : Nat} (hm : m ≤ 70) (em : S.2.1 3 = nI m) : CT l yX8_readInto cX8_readInto 3 (some .int) 4 91 [.ref (b + 206), .ref (b + 208)] D B z (xput D h b S) (some (.int ((tRead S).1))) 0 0 (xput D h b ((tRead S).2)) := by
  refine CT.of (L := [(0, .ref (b + 206)), (1, .ref (b + 208))]) (by decide +kernel) (Nat.le_of_ble_eq_true rfl) rfl ?_
  intro P E S0 M0 AR BL ME CO X hr hnm
  refine j_aload_n X 1 dX8_readInto_0 rfl rfl ?_
  refine j_iconst X (v := 0) dX8_readInto_1 (by decide) ?_
  refine j_putN X fN_RX8_19 fW_0_1 (xput_k 208 (by decide)) rfl rfl rfl (Nat.le_of_ble_eq_true rfl) dX8_readInto_2 ?_
  refine j_heap (h' := xput D h b (xsc S 5 0)) xput_s5 ?_
  refine j_aload_n X 0 dX8_readInto_5 rfl rfl ?_
  refine j_iconst X (v := 0) dX8_readInto_6 (by decide) ?_
  refine j_put X fG_RX8_24 fW_8_2 (xput_k 206 (by decide)) rfl rfl rfl (Nat.le_of_ble_eq_true rfl) dX8_readInto_7 ?_
  refine j_heap (h' := xput D h b (xsc (xsc S 5 0) 4 0)) xput_s4 ?_
  refine j_iconst X (v := 0) dX8_readInto_10 (by decide) ?_
  refine j_istore_n X (L' := [(2, .int 0), (0, .ref (b + 206)), (1, .ref (b + 208))]) dX8_readInto_11 rfl (by decide) rfl ?_
  have loop : ∀ (n k : Nat) (U : Sy), k + n = 72 → U.2.1 3 = nI m → tInto n k U = tRead S → J P l E { frames := 4, cells := 0, slots := 0, locals := 91 } S0 M0 AR BL ME CO D B 3 (MQ BL (QC (some (.int ((tRead S).1))) D B (z + 0) (xput D h b ((tRead S).2))) AR S0 0 0 (aB B)) 0 0 z (xput D h b U) [(0, .ref (b + 206)), (1, .ref (b + 208)), (2, .int (nI k))] [] 12 := by
    intro n
    induction n with
    | zero =>
      intro k U hk hU hq
      obtain rfl : k = 72 := by omega
      have hg : U.2.1 3 < nI 72 := by rw [hU]; exact nI_lt (by omega) (by decide)
      refine j_iload_n X 2 dX8_readInto_12 rfl rfl ?_
      refine j_aload_n X 0 dX8_readInto_13 rfl rfl ?_
      refine j_get X fG_RX8_15 (xput_k 206 (by decide)) rfl rfl dX8_readInto_14 ?_
      refine j_icmp_gt X (tgt := 66) dX8_readInto_17 (by decide) (fun c_17 => ?_) (fun c_17 => absurd hg c_17)
      refine j_aload_n X 0 dX8_readInto_66 rfl rfl ?_
      refine j_get X fG_RX8_24 (xput_k 206 (by decide)) rfl rfl dX8_readInto_67 ?_
      exact j_iret X hr rfl (by rw [← hq]; simp only [tInto, if_pos c_17]) rfl (by rw [← hq]; simp only [tInto, if_pos c_17]) dX8_readInto_70
    | succ n ih =>
      intro k U hk hU hq
      refine j_iload_n X 2 dX8_readInto_12 rfl rfl ?_
      refine j_aload_n X 0 dX8_readInto_13 rfl rfl ?_
      refine j_get X fG_RX8_15 (xput_k 206 (by decide)) rfl rfl dX8_readInto_14 ?_
      refine j_icmp_gt X (tgt := 66) dX8_readInto_17 (by decide) (fun c_17 => ?_) (fun c_17 => ?_)
      · refine j_aload_n X 0 dX8_readInto_66 rfl rfl ?_
        refine j_get X fG_RX8_24 (xput_k 206 (by decide)) rfl rfl dX8_readInto_67 ?_
        exact j_iret X hr rfl (by rw [← hq]; simp only [tInto, if_pos c_17]) rfl (by rw [← hq]; simp only [tInto, if_pos c_17]) dX8_readInto_70
      · refine j_aload_n X 0 dX8_readInto_20 rfl rfl ?_
        refine j_aload_n X 1 dX8_readInto_21 rfl rfl ?_
        refine j_callVi X (rest := []) (c_X8_readFrame l) m_yX8_readFrame kM_RX8_27 (xput_k 206 (by decide)) rfl rfl rfl rfl rfl (Nat.le_of_ble_eq_true rfl) ⟨Nat.le_of_ble_eq_true rfl, Nat.le_of_ble_eq_true rfl, Nat.le_of_ble_eq_true rfl, Nat.le_of_ble_eq_true rfl⟩ dX8_readInto_22 ?_
        refine j_if_ne X (tgt := 33) dX8_readInto_25 (by decide) (fun c_25 => ?_) (fun c_25 => ?_)
        · refine j_aload_n X 0 dX8_readInto_33 rfl rfl ?_
          refine j_get X fG_RX8_24 (xput_k 206 (by decide)) rfl rfl dX8_readInto_34 ?_
          refine j_aload_n X 0 dX8_readInto_37 rfl rfl ?_
          refine j_get X fG_RX8_15 (xput_k 206 (by decide)) rfl rfl dX8_readInto_38 ?_
          refine j_icmp_ne X (tgt := 46) dX8_readInto_41 (by decide) (fun c_41 => ?_) (fun c_41 => ?_)
          · refine j_aload_n X 0 dX8_readInto_46 rfl rfl ?_
            refine j_bipush X (v := 59) dX8_readInto_47 (by decide) ?_
            refine j_callVi X (rest := []) (c_X8_skip l) m_yX8_skip kM_RX8_31 (xput_k 206 (by decide)) rfl rfl rfl rfl rfl (Nat.le_of_ble_eq_true rfl) ⟨Nat.le_of_ble_eq_true rfl, Nat.le_of_ble_eq_true rfl, Nat.le_of_ble_eq_true rfl, Nat.le_of_ble_eq_true rfl⟩ dX8_readInto_49 ?_
            refine j_if_ne X (tgt := 60) dX8_readInto_52 (by decide) (fun c_52 => ?_) (fun c_52 => ?_)
            · obtain ⟨v1, ev1⟩ : ∃ y : Int32, (nI k) + 1 = y := ⟨_, rfl⟩
              refine j_iinc X 2 (k := 1) (v := v1) (L' := [(2, .int v1), (0, .ref (b + 206)), (1, .ref (b + 208))]) dX8_readInto_60 rfl (by decide) (by decide) ev1 rfl ?_
              refine j_goto X (tgt := 12) dX8_readInto_63 (by decide) ?_
              refine j_sub [1, 2, 0] (L' := [(0, .ref (b + 206)), (1, .ref (b + 208)), (2, .int (nI (k + 1)))]) (by subst ev1; rw [nI_succ]; rfl) ?_
              exact ih (k + 1) _ (by omega) (by rw [tSkip_len, tFrame_len]; exact hU) (by rw [← hq]; simp only [tInto, if_neg c_17, if_neg c_25, if_neg c_41, if_neg c_52])
            · refine j_aload_n X 0 dX8_readInto_55 rfl rfl ?_
              refine j_get X fG_RX8_24 (xput_k 206 (by decide)) rfl rfl dX8_readInto_56 ?_
              exact j_iret X hr rfl (by rw [← hq]; simp only [tInto, if_neg c_17, if_neg c_25, if_neg c_41, if_pos c_52]) rfl (by rw [← hq]; simp only [tInto, if_neg c_17, if_neg c_25, if_neg c_41, if_pos c_52]) dX8_readInto_59
          · refine j_iconst X (v := (-1)) dX8_readInto_44 (by decide) ?_
            exact j_iret X hr rfl (by rw [← hq]; simp only [tInto, if_neg c_17, if_neg c_25, if_pos c_41]) rfl (by rw [← hq]; simp only [tInto, if_neg c_17, if_neg c_25, if_pos c_41]) dX8_readInto_45
        · refine j_aload_n X 0 dX8_readInto_28 rfl rfl ?_
          refine j_get X fG_RX8_24 (xput_k 206 (by decide)) rfl rfl dX8_readInto_29 ?_
          exact j_iret X hr rfl (by rw [← hq]; simp only [tInto, if_neg c_17, if_pos c_25]) rfl (by rw [← hq]; simp only [tInto, if_neg c_17, if_pos c_25]) dX8_readInto_32
  refine j_sub [1, 2, 0] (L' := [(0, .ref (b + 206)), (1, .ref (b + 208)), (2, .int (nI 0))]) rfl ?_
  exact loop 72 0 _ rfl em rfl
