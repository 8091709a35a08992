set_option maxRecDepth 100000 in
set_option maxHeartbeats 1000000 in
theorem c_X10_entry (l : Launch) {D : DD} {B z : Nat} {h : HF} {b : Nat} {μ : Mo} {x w : Int32}  : CT l yX10_entry cX10_entry 5 (some .int) 1 23 [.ref b, .int x, .int w] D B z (mput D h b μ) (some (.int (mEntry μ x w))) 0 0 (mput D h b μ) := by
  refine CT.of (L := [(0, .ref b), (1, .int x), (2, .int w)]) (by decide +kernel) (Nat.le_of_ble_eq_true rfl) rfl ?_
  intro P E S0 M0 AR BL ME CO X hr hnm
  refine j_iload_n X 1 dX10_entry_0 rfl rfl ?_
  refine j_if_lt X (tgt := 13) dX10_entry_1 (by decide) (fun c_1 => ?_) (fun c_1 => ?_)
  · refine j_bipush X (v := (-2)) dX10_entry_13 (by decide) ?_
    exact j_iret X hr rfl (by first | with_reducible rfl | (simp only [mEntry, if_pos c_1]; done) | (simp only [mEntry, if_pos c_1]; rfl) | rfl) rfl (by first | with_reducible rfl | (simp only [mEntry, if_pos c_1]; done) | (simp only [mEntry, if_pos c_1]; rfl) | rfl) dX10_entry_15
  · refine j_iload_n X 2 dX10_entry_4 rfl rfl ?_
    refine j_iconst X (v := 0) dX10_entry_5 (by decide) ?_
    refine j_iconst X (v := 3) dX10_entry_6 (by decide) ?_
    refine j_callSi X (rest := []) (c_X10_in l) m_yX10_in kM_RX10_36 rfl rfl (Nat.le_of_ble_eq_true rfl) ⟨Nat.le_of_ble_eq_true rfl, Nat.le_of_ble_eq_true rfl, Nat.le_of_ble_eq_true rfl, Nat.le_of_ble_eq_true rfl⟩ dX10_entry_7 ?_
    refine j_if_ne X (tgt := 16) dX10_entry_10 (by decide) (fun c_10 => ?_) (fun c_10 => ?_)
    · refine j_iconst X (v := 0) dX10_entry_16 (by decide) ?_
      refine j_istore_n X (L' := [(3, .int 0), (0, .ref b), (1, .int x), (2, .int w)]) dX10_entry_17 rfl (by decide) rfl ?_
      refine j_iconst X (v := 1) dX10_entry_18 (by decide) ?_
      refine j_istore X (L' := [(4, .int 1), (3, .int 0), (0, .ref b), (1, .int x), (2, .int w)]) dX10_entry_19 (by decide) rfl ?_
      have loop : ∀ (n k : Nat) (c : Int32), k + n = 100 → 0 < k → mEntK μ x w n k c = mEntK μ x w 99 1 0 → J P l E { frames := 1, cells := 0, slots := 0, locals := 23 } S0 M0 AR BL ME CO D B 5 (MQ BL (QC (some (.int (mEntry μ x w))) D B (z + 0) (mput D h b μ)) AR S0 0 0 (aB B)) 0 0 z (mput D h b μ) [(0, .ref b), (1, .int x), (2, .int w), (3, .int c), (4, .int (nI k))] [] 21 := by
        intro n
        induction n with
        | zero =>
          intro k c hk h0 hq
          obtain rfl : k = 100 := by omega
          refine j_iload X 4 dX10_entry_21 rfl ?_
          refine j_bipush X (v := 100) dX10_entry_23 (by decide) ?_
          refine j_icmp_ge X (tgt := 119) dX10_entry_25 (by decide) (fun c_25 => ?_) (fun c_25 => absurd c_25 (by decide))
          refine j_bipush X (v := (-4)) dX10_entry_119 (by decide) ?_
          exact j_iret X hr rfl (by first | with_reducible rfl | (rw [mEntry, if_neg c_1, if_neg c_10, ← hq]; simp only [mEntK, mVal, if_neg c_1, if_neg c_10, if_neg c_25])) rfl (by first | with_reducible rfl | (rw [mEntry, if_neg c_1, if_neg c_10, ← hq]; simp only [mEntK, mVal, if_neg c_1, if_neg c_10, if_neg c_25])) dX10_entry_121
        | succ n ih =>
          intro k c hk h0 hq
          have hlt : nI k < 100 := nlt_lit (b := 100) (by omega) (by decide)
          refine j_iload X 4 dX10_entry_21 rfl ?_
          refine j_bipush X (v := 100) dX10_entry_23 (by decide) ?_
          refine j_icmp_ge X (tgt := 119) dX10_entry_25 (by decide) (fun c_25 => absurd hlt c_25) (fun c_25 => ?_)
          refine j_aload_n X 0 dX10_entry_28 rfl rfl ?_
          refine j_get X fG_RX10_7 mput_0 rfl rfl dX10_entry_29 ?_
          refine j_sipush X (v := 552) dX10_entry_32 (by decide) ?_
          refine j_iload X 4 dX10_entry_35 rfl ?_
          refine j_iadd X dX10_entry_37 ?_
          refine j_ldM X (in_552 (ad_nI (by omega))) dX10_entry_38 ?_
          refine j_if_le X (tgt := 113) dX10_entry_39 (by decide) (fun c_39 => ?_) (fun c_39 => ?_)
          · obtain ⟨v1, ev1⟩ : ∃ y : Int32, (nI k) + 1 = y := ⟨_, rfl⟩
            refine j_iinc X 4 (k := 1) (v := v1) (L' := [(4, .int v1), (0, .ref b), (1, .int x), (2, .int w), (3, .int c)]) dX10_entry_113 rfl (by decide) (by decide) ev1 rfl ?_
            refine j_goto X (tgt := 21) dX10_entry_116 (by decide) ?_
            refine j_sub [1, 2, 3, 4, 0] (L' := [(0, .ref b), (1, .int x), (2, .int w), (3, .int c), (4, .int (nI (k + 1)))]) (by subst ev1; first | rfl | (rw [nI_succ]; rfl)) ?_
            exact ih (k + 1) c (by omega) (by omega) (by rw [← hq]; simp only [mEntK, if_neg c_39])
          · refine j_iload_n X 3 dX10_entry_42 rfl rfl ?_
            refine j_iload_n X 1 dX10_entry_43 rfl rfl ?_
            refine j_icmp_ne X (tgt := 110) dX10_entry_44 (by decide) (fun c_44 => ?_) (fun c_44 => ?_)
            · obtain ⟨v2, ev2⟩ : ∃ y : Int32, c + 1 = y := ⟨_, rfl⟩
              refine j_iinc X 3 (k := 1) (v := v2) (L' := [(3, .int v2), (0, .ref b), (1, .int x), (2, .int w), (4, .int (nI k))]) dX10_entry_110 rfl (by decide) (by decide) ev2 rfl ?_
              obtain ⟨v3, ev3⟩ : ∃ y : Int32, (nI k) + 1 = y := ⟨_, rfl⟩
              refine j_iinc X 4 (k := 1) (v := v3) (L' := [(4, .int v3), (3, .int v2), (0, .ref b), (1, .int x), (2, .int w)]) dX10_entry_113 rfl (by decide) (by decide) ev3 rfl ?_
              refine j_goto X (tgt := 21) dX10_entry_116 (by decide) ?_
              refine j_sub [2, 3, 4, 1, 0] (L' := [(0, .ref b), (1, .int x), (2, .int w), (3, .int (c + 1)), (4, .int (nI (k + 1)))]) (by subst ev3 ev2; first | rfl | (rw [nI_succ]; rfl)) ?_
              exact ih (k + 1) (c + 1) (by omega) (by omega) (by rw [← hq]; simp only [mEntK, if_pos c_39, if_neg c_44])
            · refine j_iload_n X 2 dX10_entry_47 rfl rfl ?_
              refine j_if_ne X (tgt := 56) dX10_entry_48 (by decide) (fun c_48 => ?_) (fun c_48 => ?_)
              · refine j_iload_n X 2 dX10_entry_56 rfl rfl ?_
                refine j_iconst X (v := 1) dX10_entry_57 (by decide) ?_
                refine j_icmp_ne X (tgt := 77) dX10_entry_58 (by decide) (fun c_58 => ?_) (fun c_58 => ?_)
                · refine j_iload_n X 2 dX10_entry_77 rfl rfl ?_
                  refine j_iconst X (v := 2) dX10_entry_78 (by decide) ?_
                  refine j_icmp_ne X (tgt := 103) dX10_entry_79 (by decide) (fun c_79 => ?_) (fun c_79 => ?_)
                  · refine j_aload_n X 0 dX10_entry_103 rfl rfl ?_
                    refine j_iload X 4 dX10_entry_104 rfl ?_
                    refine j_callVi X (rest := []) (c_X10_movesOf l (ad_nI (by omega))) m_yX10_movesOf kM_RX10_90 mput_0 rfl rfl rfl rfl rfl (Nat.le_of_ble_eq_true rfl) ⟨Nat.le_of_ble_eq_true rfl, Nat.le_of_ble_eq_true rfl, Nat.le_of_ble_eq_true rfl, Nat.le_of_ble_eq_true rfl⟩ dX10_entry_106 ?_
                    exact j_iret X hr rfl (by first | with_reducible rfl | (rw [mEntry, if_neg c_1, if_neg c_10, ← hq]; simp only [mEntK, mVal, if_neg c_1, if_neg c_10, if_pos c_25, if_pos c_39, if_pos c_44, if_neg c_48, if_neg c_58, if_neg c_79])) rfl (by first | with_reducible rfl | (rw [mEntry, if_neg c_1, if_neg c_10, ← hq]; simp only [mEntK, mVal, if_neg c_1, if_neg c_10, if_pos c_25, if_pos c_39, if_pos c_44, if_neg c_48, if_neg c_58, if_neg c_79])) dX10_entry_109
                  · refine j_aload_n X 0 dX10_entry_82 rfl rfl ?_
                    refine j_get X fG_RX10_7 mput_0 rfl rfl dX10_entry_83 ?_
                    refine j_iconst X (v := 4) dX10_entry_86 (by decide) ?_
                    refine j_ldM X (vp_in_nI (n := 4) (by decide) (by decide)) dX10_entry_87 ?_
                    refine j_aload_n X 0 dX10_entry_88 rfl rfl ?_
                    refine j_get X fG_RX10_7 mput_0 rfl rfl dX10_entry_89 ?_
                    refine j_sipush X (v := 652) dX10_entry_92 (by decide) ?_
                    refine j_iload X 4 dX10_entry_95 rfl ?_
                    refine j_iadd X dX10_entry_97 ?_
                    refine j_ldM X (in_652 (ad_nI (by omega))) dX10_entry_98 ?_
                    refine j_isub X dX10_entry_99 ?_
                    refine j_goto X (tgt := 109) dX10_entry_100 (by decide) ?_
                    exact j_iret X hr rfl (by first | with_reducible rfl | (rw [mEntry, if_neg c_1, if_neg c_10, ← hq]; simp only [mEntK, mVal, if_neg c_1, if_neg c_10, if_pos c_25, if_pos c_39, if_pos c_44, if_neg c_48, if_neg c_58, if_pos c_79])) rfl (by first | with_reducible rfl | (rw [mEntry, if_neg c_1, if_neg c_10, ← hq]; simp only [mEntK, mVal, if_neg c_1, if_neg c_10, if_pos c_25, if_pos c_39, if_pos c_44, if_neg c_48, if_neg c_58, if_pos c_79])) dX10_entry_109
                · refine j_aload_n X 0 dX10_entry_61 rfl rfl ?_
                  refine j_get X fG_RX10_7 mput_0 rfl rfl dX10_entry_62 ?_
                  refine j_sipush X (v := 552) dX10_entry_65 (by decide) ?_
                  refine j_iload X 4 dX10_entry_68 rfl ?_
                  refine j_iadd X dX10_entry_70 ?_
                  refine j_ldM X (in_552 (ad_nI (by omega))) dX10_entry_71 ?_
                  refine j_iconst X (v := 1) dX10_entry_72 (by decide) ?_
                  refine j_isub X dX10_entry_73 ?_
                  refine j_goto X (tgt := 109) dX10_entry_74 (by decide) ?_
                  exact j_iret X hr rfl (by first | with_reducible rfl | (rw [mEntry, if_neg c_1, if_neg c_10, ← hq]; simp only [mEntK, mVal, if_neg c_1, if_neg c_10, if_pos c_25, if_pos c_39, if_pos c_44, if_neg c_48, if_pos c_58])) rfl (by first | with_reducible rfl | (rw [mEntry, if_neg c_1, if_neg c_10, ← hq]; simp only [mEntK, mVal, if_neg c_1, if_neg c_10, if_pos c_25, if_pos c_39, if_pos c_44, if_neg c_48, if_pos c_58])) dX10_entry_109
              · refine j_iload X 4 dX10_entry_51 rfl ?_
                refine j_goto X (tgt := 109) dX10_entry_53 (by decide) ?_
                exact j_iret X hr rfl (by first | with_reducible rfl | (rw [mEntry, if_neg c_1, if_neg c_10, ← hq]; simp only [mEntK, mVal, if_neg c_1, if_neg c_10, if_pos c_25, if_pos c_39, if_pos c_44, if_pos c_48])) rfl (by first | with_reducible rfl | (rw [mEntry, if_neg c_1, if_neg c_10, ← hq]; simp only [mEntK, mVal, if_neg c_1, if_neg c_10, if_pos c_25, if_pos c_39, if_pos c_44, if_pos c_48])) dX10_entry_109
      refine j_sub [2, 3, 4, 1, 0] (L' := [(0, .ref b), (1, .int x), (2, .int w), (3, .int 0), (4, .int (nI 1))]) rfl ?_
      exact loop 99 1 0 rfl (by decide) rfl
    · refine j_bipush X (v := (-2)) dX10_entry_13 (by decide) ?_
      exact j_iret X hr rfl (by first | with_reducible rfl | (simp only [mEntry, if_neg c_1, if_pos c_10]; done) | (simp only [mEntry, if_neg c_1, if_pos c_10]; rfl) | rfl) rfl (by first | with_reducible rfl | (simp only [mEntry, if_neg c_1, if_pos c_10]; done) | (simp only [mEntry, if_neg c_1, if_pos c_10]; rfl) | rfl) dX10_entry_15
