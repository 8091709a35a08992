set_option maxRecDepth 100000 in
set_option maxHeartbeats 8000000 in
theorem c_X10_comesIn (l : Launch) {D : DD} {B z : Nat} {h : HF} {b : Nat} {μ : Mo} {p s d pr : Int32} (hp : PO p) (hs : AD s) (hd : AD d) (hI : MIv μ)  : CT l yX10_comesIn cX10_comesIn 6 (some .int) 3 74 [.ref b, .int p, .int s, .int d, .int pr] D B z (mput D h b μ) (some (.int ((mCome μ p s d pr).1))) 0 0 (mput D h b ((mCome μ p s d pr).2)) := by
  refine CT.of (L := [(0, .ref b), (1, .int p), (2, .int s), (3, .int d), (4, .int pr)]) (by decide +kernel) (Nat.le_of_ble_eq_true rfl) rfl ?_
  intro P E S0 M0 AR BL ME CO X hr hnm
  refine j_aload_n X 0 dX10_comesIn_0 rfl rfl ?_
  refine j_iload_n X 1 dX10_comesIn_1 rfl rfl ?_
  refine j_iload_n X 2 dX10_comesIn_2 rfl rfl ?_
  refine j_iload_n X 3 dX10_comesIn_3 rfl rfl ?_
  refine j_iload X 4 dX10_comesIn_4 rfl ?_
  refine j_callVi X (rest := []) (c_X10_becomes l hp hs hd hI) m_yX10_becomes kM_RX10_83 mput_0 rfl rfl rfl rfl rfl (Nat.le_of_ble_eq_true rfl) ⟨Nat.le_of_ble_eq_true rfl, Nat.le_of_ble_eq_true rfl, Nat.le_of_ble_eq_true rfl, Nat.le_of_ble_eq_true rfl⟩ dX10_comesIn_6 ?_
  refine j_tops (fun v1 ev1 => ?_)
  refine j_istore X (L' := [(5, .int v1), (0, .ref b), (1, .int p), (2, .int s), (3, .int d), (4, .int pr)]) dX10_comesIn_9 (by decide) rfl ?_
  have hw1 : WH (v1 + 1) 14 := by rw [← ev1]; exact bec_wh μ p s d pr
  refine j_aload_n X 1 dX10_comesIn_11 rfl rfl ?_
  refine j_iload_n X 2 dX10_comesIn_12 rfl rfl ?_
  refine j_iconst X (v := 0) dX10_comesIn_13 (by decide) ?_
  refine j_callVv X (rest := []) (c_X10_more l hp (show WH 0 _ from ⟨0, by decide, rfl⟩)) m_yX10_more kM_RX10_76 mput_0 rfl rfl rfl rfl rfl (Nat.le_of_ble_eq_true rfl) ⟨Nat.le_of_ble_eq_true rfl, Nat.le_of_ble_eq_true rfl, Nat.le_of_ble_eq_true rfl, Nat.le_of_ble_eq_true rfl⟩ dX10_comesIn_14 ?_
  refine j_aload_n X 1 dX10_comesIn_17 rfl rfl ?_
  refine j_iload_n X 2 dX10_comesIn_18 rfl rfl ?_
  refine j_iload X 0 dX10_comesIn_19 rfl ?_
  refine j_iconst X (v := 4) dX10_comesIn_21 (by decide) ?_
  refine j_icmp_eq X (tgt := 31) dX10_comesIn_22 (by decide) (fun c_22 => ?_) (fun c_22 => ?_)
  · refine j_iconst X (v := 5) dX10_comesIn_31 (by decide) ?_
    refine j_goto X (tgt := 60) dX10_comesIn_32 (by decide) ?_
    refine j_callVv X (rest := []) (c_X10_more l hp (show WH 5 _ from ⟨5, by decide, rfl⟩)) m_yX10_more kM_RX10_76 mput_0 rfl rfl rfl rfl rfl (Nat.le_of_ble_eq_true rfl) ⟨Nat.le_of_ble_eq_true rfl, Nat.le_of_ble_eq_true rfl, Nat.le_of_ble_eq_true rfl, Nat.le_of_ble_eq_true rfl⟩ dX10_comesIn_60 ?_
    refine j_iload X 0 dX10_comesIn_63 rfl ?_
    exact j_iret X hr rfl (by subst ev1; first | with_reducible rfl | (simp only [mCome, mAcc, if_pos c_22]; done) | (simp only [mCome, mAcc, if_pos c_22]; rfl) | rfl) rfl (by subst ev1; first | with_reducible rfl | (simp only [mCome, mAcc, if_pos c_22]; done) | (simp only [mCome, mAcc, if_pos c_22]; rfl) | rfl) dX10_comesIn_65
  · refine j_iload X 0 dX10_comesIn_25 rfl ?_
    refine j_iconst X (v := 5) dX10_comesIn_27 (by decide) ?_
    refine j_icmp_ne X (tgt := 35) dX10_comesIn_28 (by decide) (fun c_28 => ?_) (fun c_28 => ?_)
    · refine j_iload X 0 dX10_comesIn_35 rfl ?_
      refine j_if_ne X (tgt := 44) dX10_comesIn_37 (by decide) (fun c_37 => ?_) (fun c_37 => ?_)
      · refine j_iload X 0 dX10_comesIn_44 rfl ?_
        refine j_bipush X (v := 6) dX10_comesIn_46 (by decide) ?_
        refine j_icmp_ne X (tgt := 56) dX10_comesIn_48 (by decide) (fun c_48 => ?_) (fun c_48 => ?_)
        · refine j_iload X 0 dX10_comesIn_56 rfl ?_
          refine j_iconst X (v := 1) dX10_comesIn_58 (by decide) ?_
          refine j_iadd X dX10_comesIn_59 ?_
          refine j_callVv X (rest := []) (c_X10_more l hp hw1) m_yX10_more kM_RX10_76 mput_0 rfl rfl rfl rfl rfl (Nat.le_of_ble_eq_true rfl) ⟨Nat.le_of_ble_eq_true rfl, Nat.le_of_ble_eq_true rfl, Nat.le_of_ble_eq_true rfl, Nat.le_of_ble_eq_true rfl⟩ dX10_comesIn_60 ?_
          refine j_iload X 0 dX10_comesIn_63 rfl ?_
          exact j_iret X hr rfl (by subst ev1; first | with_reducible rfl | (simp only [mCome, mAcc, if_neg c_22, if_neg c_28, if_neg c_37, if_neg c_48]; done) | (simp only [mCome, mAcc, if_neg c_22, if_neg c_28, if_neg c_37, if_neg c_48]; rfl) | rfl) rfl (by subst ev1; first | with_reducible rfl | (simp only [mCome, mAcc, if_neg c_22, if_neg c_28, if_neg c_37, if_neg c_48]; done) | (simp only [mCome, mAcc, if_neg c_22, if_neg c_28, if_neg c_37, if_neg c_48]; rfl) | rfl) dX10_comesIn_65
        · refine j_bipush X (v := 6) dX10_comesIn_51 (by decide) ?_
          refine j_goto X (tgt := 60) dX10_comesIn_53 (by decide) ?_
          refine j_callVv X (rest := []) (c_X10_more l hp (show WH 6 _ from ⟨6, by decide, rfl⟩)) m_yX10_more kM_RX10_76 mput_0 rfl rfl rfl rfl rfl (Nat.le_of_ble_eq_true rfl) ⟨Nat.le_of_ble_eq_true rfl, Nat.le_of_ble_eq_true rfl, Nat.le_of_ble_eq_true rfl, Nat.le_of_ble_eq_true rfl⟩ dX10_comesIn_60 ?_
          refine j_iload X 0 dX10_comesIn_63 rfl ?_
          exact j_iret X hr rfl (by subst ev1; first | with_reducible rfl | (simp only [mCome, mAcc, if_neg c_22, if_neg c_28, if_neg c_37, if_pos c_48]; done) | (simp only [mCome, mAcc, if_neg c_22, if_neg c_28, if_neg c_37, if_pos c_48]; rfl) | rfl) rfl (by subst ev1; first | with_reducible rfl | (simp only [mCome, mAcc, if_neg c_22, if_neg c_28, if_neg c_37, if_pos c_48]; done) | (simp only [mCome, mAcc, if_neg c_22, if_neg c_28, if_neg c_37, if_pos c_48]; rfl) | rfl) dX10_comesIn_65
      · refine j_iconst X (v := 1) dX10_comesIn_40 (by decide) ?_
        refine j_goto X (tgt := 60) dX10_comesIn_41 (by decide) ?_
        refine j_callVv X (rest := []) (c_X10_more l hp (show WH 1 _ from ⟨1, by decide, rfl⟩)) m_yX10_more kM_RX10_76 mput_0 rfl rfl rfl rfl rfl (Nat.le_of_ble_eq_true rfl) ⟨Nat.le_of_ble_eq_true rfl, Nat.le_of_ble_eq_true rfl, Nat.le_of_ble_eq_true rfl, Nat.le_of_ble_eq_true rfl⟩ dX10_comesIn_60 ?_
        refine j_iload X 0 dX10_comesIn_63 rfl ?_
        exact j_iret X hr rfl (by subst ev1; first | with_reducible rfl | (simp only [mCome, mAcc, if_neg c_22, if_neg c_28, if_pos c_37]; done) | (simp only [mCome, mAcc, if_neg c_22, if_neg c_28, if_pos c_37]; rfl) | rfl) rfl (by subst ev1; first | with_reducible rfl | (simp only [mCome, mAcc, if_neg c_22, if_neg c_28, if_pos c_37]; done) | (simp only [mCome, mAcc, if_neg c_22, if_neg c_28, if_pos c_37]; rfl) | rfl) dX10_comesIn_65
    · refine j_iconst X (v := 5) dX10_comesIn_31 (by decide) ?_
      refine j_goto X (tgt := 60) dX10_comesIn_32 (by decide) ?_
      refine j_callVv X (rest := []) (c_X10_more l hp (show WH 5 _ from ⟨5, by decide, rfl⟩)) m_yX10_more kM_RX10_76 mput_0 rfl rfl rfl rfl rfl (Nat.le_of_ble_eq_true rfl) ⟨Nat.le_of_ble_eq_true rfl, Nat.le_of_ble_eq_true rfl, Nat.le_of_ble_eq_true rfl, Nat.le_of_ble_eq_true rfl⟩ dX10_comesIn_60 ?_
      refine j_iload X 0 dX10_comesIn_63 rfl ?_
      exact j_iret X hr rfl (by subst ev1; first | with_reducible rfl | (simp only [mCome, mAcc, if_neg c_22, if_pos c_28]; done) | (simp only [mCome, mAcc, if_neg c_22, if_pos c_28]; rfl) | rfl) rfl (by subst ev1; first | with_reducible rfl | (simp only [mCome, mAcc, if_neg c_22, if_pos c_28]; done) | (simp only [mCome, mAcc, if_neg c_22, if_pos c_28]; rfl) | rfl) dX10_comesIn_65
