set_option maxRecDepth 100000 in
theorem c_X1_stateAt (l : Launch) {D : DD} {B z : Nat} {h : HF} {b k : Nat} {S : Sy} {i : Int32} (hk : k < 4) (ei : i = nI k) : CT l yX1_stateAt cX1_stateAt 2 (some (.object "LearningRepeater$State")) 0 0 [.ref (b + 88), .int i] D B z (xput D h b S) (some (.ref (b + xoff (3 + k)))) 0 0 (xput D h b S) := by
  refine CT.of (L := [(0, .ref (b + 88)), (1, .int i)]) (by decide +kernel) (Nat.le_of_ble_eq_true rfl) rfl ?_
  intro P E S0 M0 AR BL ME CO X hr hnm
  refine j_iload_n X 1 dX1_stateAt_0 rfl rfl ?_
  refine j_if_lt X (tgt := 22) dX1_stateAt_1 (by decide) (fun c => absurd c (by rw [ei]; exact nI_pos (by omega))) (fun c => ?_)
  refine j_iload_n X 1 dX1_stateAt_4 rfl rfl ?_
  refine j_aload_n X 0 dX1_stateAt_5 rfl rfl ?_
  refine j_get X fG_RX1_11 (xput_k 88 (by decide)) rfl rfl dX1_stateAt_6 ?_
  refine j_alen X (k := 2) (v := 4) rfl (xput_k 89 (by decide)) rfl rfl dX1_stateAt_9 ?_
  refine j_icmp_ge X (tgt := 22) dX1_stateAt_10 (by decide) (fun c => absurd (by rw [ei]; exact nlt_lit (b := 4) (by omega) (by decide)) c) (fun c => ?_)
  refine j_aload_n X 0 dX1_stateAt_13 rfl rfl ?_
  refine j_get X fG_RX1_11 (xput_k 88 (by decide)) rfl rfl dX1_stateAt_14 ?_
  refine j_iload_n X 1 dX1_stateAt_17 rfl rfl ?_
  refine j_aald X (xput_k 89 (by decide)) rfl (by rw [ei]; exact vp_in_nI hk (by decide)) dX1_stateAt_18 ?_
  refine j_st (st' := [.ref (b + xoff (3 + k))]) ?_ ?_
  · rw [ei, nI_clamp (by omega)]
    have c4 : k = 0 ∨ k = 1 ∨ k = 2 ∨ k = 3 := by omega
    rcases c4 with rfl | rfl | rfl | rfl <;> rfl
  refine j_goto X (tgt := 23) dX1_stateAt_19 (by decide) ?_
  exact j_aret X hr (Or.inl ⟨_, rfl⟩) (Or.inr ⟨_, rfl⟩) rfl rfl rfl dX1_stateAt_23
theorem rem4_back {nx : Nat} (h : nx < 4) : rem4 (nI nx + 4 - 1) = nI ((nx + 3) % 4) := by
  have c4 : nx = 0 ∨ nx = 1 ∨ nx = 2 ∨ nx = 3 := by omega
  rcases c4 with rfl | rfl | rfl | rfl <;> decide
set_option maxRecDepth 100000 in
set_option maxHeartbeats 8000000 in
theorem c_X1_record (l : Launch) {D : DD} {B z : Nat} {h : HF} {b : Nat} {S : Sy} {nx : Nat} (hnx : nx < 4) (enx : S.2.1 1 = nI nx) : CT l yX1_record cX1_record 3 none 4 85 [.ref (b + 88), .ref (b + 1)] D B z (xput D h b S) none 0 0 (xput D h b (xRec nx S)) := by
  refine CT.of (L := [(0, .ref (b + 88)), (1, .ref (b + 1))]) (by decide +kernel) (Nat.le_of_ble_eq_true rfl) rfl ?_
  intro P E S0 M0 AR BL ME CO X hr hnm
  refine j_aload_n X 0 dX1_record_0 rfl rfl ?_
  refine j_aload_n X 0 dX1_record_1 rfl rfl ?_
  refine j_get X fG_RX1_18 (xput_k 88 (by decide)) rfl rfl dX1_record_2 ?_
  refine j_callVr X (rest := []) (c_X1_stateAt l hnx enx) m_yX1_stateAt kM_RX1_22 (xput_k 88 (by decide)) rfl rfl rfl rfl rfl (Nat.le_of_ble_eq_true rfl) ⟨Nat.le_of_ble_eq_true rfl, Nat.le_of_ble_eq_true rfl, Nat.le_of_ble_eq_true rfl, Nat.le_of_ble_eq_true rfl⟩ dX1_record_5 ?_
  refine j_astore_n X (L' := [(2, .ref (b + xoff (3 + nx))), (0, .ref (b + 88)), (1, .ref (b + 1))]) dX1_record_8 rfl (by decide) rfl ?_
  refine j_aload_n X 0 dX1_record_9 rfl rfl ?_
  refine j_ifnonnull X (tgt := 14) dX1_record_10 (by decide) ?_
  refine j_aload_n X 0 dX1_record_14 rfl rfl ?_
  refine j_aload_n X 2 dX1_record_15 rfl rfl ?_
  refine j_callVv X (rest := []) (x_copy l (i := 3 + nx) (j := 0) (by omega) (by omega) (by omega)) m_yX6_copyFrom kM_RX1_26 (xput_sk (i := 3 + nx) (by omega) 0 (by decide)) rfl rfl rfl rfl rfl (Nat.le_of_ble_eq_true rfl) ⟨Nat.le_of_ble_eq_true rfl, Nat.le_of_ble_eq_true rfl, Nat.le_of_ble_eq_true rfl, Nat.le_of_ble_eq_true rfl⟩ dX1_record_16 ?_
  refine j_aload_n X 1 dX1_record_19 rfl rfl ?_
  refine j_aload_n X 1 dX1_record_20 rfl rfl ?_
  refine j_get X fG_RX1_18 (xput_k 88 (by decide)) rfl rfl dX1_record_21 ?_
  refine j_iconst X (v := 1) dX1_record_24 (by decide) ?_
  refine j_iadd X dX1_record_25 ?_
  refine j_iconst X (v := 4) dX1_record_26 (by decide) ?_
  refine j_irem X dX1_record_27 (by decide) ?_
  refine j_put X fG_RX1_18 fW_1_1 (xput_k 88 (by decide)) rfl rfl rfl (Nat.le_of_ble_eq_true rfl) dX1_record_28 ?_
  refine j_heap (h' := xput D h b (xsc (xst S (3 + nx) (S.1 0)) 1 ((((xst S (3 + nx) (S.1 0)).2.1 1) + 1) - (((xst S (3 + nx) (S.1 0)).2.1 1) + 1) / 4 * 4))) xput_s1 ?_
  refine j_aload_n X 1 dX1_record_31 rfl rfl ?_
  refine j_aload_n X 1 dX1_record_32 rfl rfl ?_
  refine j_get X fG_RX1_30 (xput_k 88 (by decide)) rfl rfl dX1_record_33 ?_
  refine j_iconst X (v := 1) dX1_record_36 (by decide) ?_
  refine j_iadd X dX1_record_37 ?_
  refine j_iconst X (v := 4) dX1_record_38 (by decide) ?_
  refine j_mmin X kM_RX1_33 ⟨Nat.le_of_ble_eq_true rfl, Nat.le_of_ble_eq_true rfl, Nat.le_of_ble_eq_true rfl, Nat.le_of_ble_eq_true rfl⟩ dX1_record_39 ?_
  refine j_put X fG_RX1_30 fW_1_2 (xput_k 88 (by decide)) rfl rfl rfl (Nat.le_of_ble_eq_true rfl) dX1_record_42 ?_
  refine j_heap (h' := xput D h b (xsc (xsc (xst S (3 + nx) (S.1 0)) 1 ((((xst S (3 + nx) (S.1 0)).2.1 1) + 1) - (((xst S (3 + nx) (S.1 0)).2.1 1) + 1) / 4 * 4)) 2 (if 4 < (((xsc (xst S (3 + nx) (S.1 0)) 1 ((((xst S (3 + nx) (S.1 0)).2.1 1) + 1) - (((xst S (3 + nx) (S.1 0)).2.1 1) + 1) / 4 * 4)).2.1 2) + 1) then 4 else (((xsc (xst S (3 + nx) (S.1 0)) 1 ((((xst S (3 + nx) (S.1 0)).2.1 1) + 1) - (((xst S (3 + nx) (S.1 0)).2.1 1) + 1) / 4 * 4)).2.1 2) + 1)))) xput_s2 ?_
  exact j_vret X hr rfl (by first | with_reducible rfl | (simp only [xRec, rem4]; done) | (simp only [xRec, rem4]; rfl) | rfl) dX1_record_45
set_option maxRecDepth 100000 in
set_option maxHeartbeats 8000000 in
theorem c_X1_takeBack (l : Launch) {D : DD} {B z : Nat} {h : HF} {b : Nat} {S : Sy} {nx : Nat} (hnx : nx < 4) (enx : S.2.1 1 = nI nx) : CT l yX1_takeBack cX1_takeBack 4 (some .boolean) 4 85 [.ref (b + 88), .ref (b + 1)] D B z (xput D h b S) (some (.int ((xBack nx S).1))) 0 0 (xput D h b ((xBack nx S).2)) := by
  refine CT.of (L := [(0, .ref (b + 88)), (1, .ref (b + 1))]) (by decide +kernel) (Nat.le_of_ble_eq_true rfl) rfl ?_
  intro P E S0 M0 AR BL ME CO X hr hnm
  refine j_aload_n X 0 dX1_takeBack_0 rfl rfl ?_
  refine j_get X fG_RX1_18 (xput_k 88 (by decide)) rfl rfl dX1_takeBack_1 ?_
  refine j_iconst X (v := 4) dX1_takeBack_4 (by decide) ?_
  refine j_iadd X dX1_takeBack_5 ?_
  refine j_iconst X (v := 1) dX1_takeBack_6 (by decide) ?_
  refine j_isub X dX1_takeBack_7 ?_
  refine j_iconst X (v := 4) dX1_takeBack_8 (by decide) ?_
  refine j_irem X dX1_takeBack_9 (by decide) ?_
  refine j_tops (fun v1 ev1 => ?_)
  refine j_istore_n X (L' := [(2, .int v1), (0, .ref (b + 88)), (1, .ref (b + 1))]) dX1_takeBack_10 rfl (by decide) rfl ?_
  refine j_aload_n X 1 dX1_takeBack_11 rfl rfl ?_
  have hly : (nx + 3) % 4 < 4 := Nat.mod_lt _ (by decide)
  have ely : v1 = nI ((nx + 3) % 4) := by rw [← ev1, enx]; exact rem4_back hnx
  refine j_iload_n X 0 dX1_takeBack_12 rfl rfl ?_
  refine j_callVr X (rest := []) (c_X1_stateAt l hly ely) m_yX1_stateAt kM_RX1_22 (xput_k 88 (by decide)) rfl rfl rfl rfl rfl (Nat.le_of_ble_eq_true rfl) ⟨Nat.le_of_ble_eq_true rfl, Nat.le_of_ble_eq_true rfl, Nat.le_of_ble_eq_true rfl, Nat.le_of_ble_eq_true rfl⟩ dX1_takeBack_13 ?_
  refine j_astore_n X (L' := [(3, .ref (b + xoff (3 + (nx + 3) % 4))), (2, .int v1), (0, .ref (b + 88)), (1, .ref (b + 1))]) dX1_takeBack_16 rfl (by decide) rfl ?_
  refine j_aload_n X 2 dX1_takeBack_17 rfl rfl ?_
  refine j_get X fG_RX1_30 (xput_k 88 (by decide)) rfl rfl dX1_takeBack_18 ?_
  refine j_if_eq X (tgt := 28) dX1_takeBack_21 (by decide) (fun c_21 => ?_) (fun c_21 => ?_)
  · refine j_iconst X (v := 0) dX1_takeBack_28 (by decide) ?_
    exact j_iret X hr rfl (by subst ev1; first | with_reducible rfl | (simp only [xBack, rem4, if_pos c_21]; done) | (simp only [xBack, rem4, if_pos c_21]; rfl) | rfl) rfl (by subst ev1; first | with_reducible rfl | (simp only [xBack, rem4, if_pos c_21]; done) | (simp only [xBack, rem4, if_pos c_21]; rfl) | rfl) dX1_takeBack_29
  · refine j_aload_n X 0 dX1_takeBack_24 rfl rfl ?_
    refine j_ifnonnull X (tgt := 30) dX1_takeBack_25 (by decide) ?_
    refine j_aload_n X 3 dX1_takeBack_30 rfl rfl ?_
    refine j_aload_n X 0 dX1_takeBack_31 rfl rfl ?_
    refine j_callVv X (rest := []) (x_copy l (i := 0) (j := 3 + (nx + 3) % 4) (by omega) (by omega) (by omega)) m_yX6_copyFrom kM_RX1_26 (xput_k 1 (by decide)) rfl rfl rfl rfl rfl (Nat.le_of_ble_eq_true rfl) ⟨Nat.le_of_ble_eq_true rfl, Nat.le_of_ble_eq_true rfl, Nat.le_of_ble_eq_true rfl, Nat.le_of_ble_eq_true rfl⟩ dX1_takeBack_32 ?_
    refine j_aload_n X 2 dX1_takeBack_35 rfl rfl ?_
    refine j_iload_n X 1 dX1_takeBack_36 rfl rfl ?_
    refine j_put X fG_RX1_18 fW_1_1 (xput_k 88 (by decide)) rfl rfl rfl (Nat.le_of_ble_eq_true rfl) dX1_takeBack_37 ?_
    refine j_heap (h' := xput D h b (xsc (xst S 0 (S.1 (3 + (nx + 3) % 4))) 1 v1)) xput_s1 ?_
    refine j_aload_n X 2 dX1_takeBack_40 rfl rfl ?_
    refine j_dup X dX1_takeBack_41 rfl ?_
    refine j_get X fG_RX1_30 (xput_k 88 (by decide)) rfl rfl dX1_takeBack_42 ?_
    refine j_iconst X (v := 1) dX1_takeBack_45 (by decide) ?_
    refine j_isub X dX1_takeBack_46 ?_
    refine j_put X fG_RX1_30 fW_1_2 (xput_k 88 (by decide)) rfl rfl rfl (Nat.le_of_ble_eq_true rfl) dX1_takeBack_47 ?_
    refine j_heap (h' := xput D h b (xsc (xsc (xst S 0 (S.1 (3 + (nx + 3) % 4))) 1 v1) 2 (((xsc (xst S 0 (S.1 (3 + (nx + 3) % 4))) 1 v1).2.1 2) - 1))) xput_s2 ?_
    refine j_iconst X (v := 1) dX1_takeBack_50 (by decide) ?_
    exact j_iret X hr rfl (by subst ev1; first | with_reducible rfl | (simp only [xBack, rem4, if_neg c_21]; done) | (simp only [xBack, rem4, if_neg c_21]; rfl) | rfl) rfl (by subst ev1; first | with_reducible rfl | (simp only [xBack, rem4, if_neg c_21]; done) | (simp only [xBack, rem4, if_neg c_21]; rfl) | rfl) dX1_takeBack_51
