set_option maxRecDepth 100000 in
set_option maxHeartbeats 8000000 in
theorem c_X4_partOf (l : Launch) {D : DD} {B z : Nat} {h : HF} {a : Nat} {σ : St} {p k w : Int32} : CT l yX4_partOf cX4_partOf 4 (some .int) 1 21 [.ref (a + 16), .int p, .int k, .int w] D B z (hput D h a σ) (some (.int (qPart σ p k w))) 0 0 (hput D h a σ) := by
  refine CT.of (L := [(0, .ref (a + 16)), (1, .int p), (2, .int k), (3, .int w)]) (by decide +kernel) (Nat.le_of_ble_eq_true rfl) rfl ?_
  intro P E S0 M0 AR BL ME CO X hr hnm
  refine j_aload_n X 0 dX4_partOf_0 rfl rfl ?_
  refine j_get X fG_RX4_20 (hput_k 16 (by decide)) rfl rfl dX4_partOf_1 ?_
  refine j_iload_n X 1 dX4_partOf_4 rfl rfl ?_
  refine j_iload_n X 2 dX4_partOf_5 rfl rfl ?_
  refine j_callSi X (rest := [.ref (a + 19)]) (c_X4_cellOf l) m_yX4_cellOf kM_RX4_27 rfl rfl (Nat.le_of_ble_eq_true rfl) ⟨Nat.le_of_ble_eq_true rfl, Nat.le_of_ble_eq_true rfl, Nat.le_of_ble_eq_true rfl, Nat.le_of_ble_eq_true rfl⟩ dX4_partOf_6 ?_
  refine j_iload_n X 3 dX4_partOf_9 rfl rfl ?_
  refine j_iadd X dX4_partOf_10 ?_
  refine j_callVi X (rest := []) (s_at8 l) m_yX5_at kM_RX4_31 (hput_k 19 (by decide)) rfl rfl rfl rfl rfl (Nat.le_of_ble_eq_true rfl) ⟨Nat.le_of_ble_eq_true rfl, Nat.le_of_ble_eq_true rfl, Nat.le_of_ble_eq_true rfl, Nat.le_of_ble_eq_true rfl⟩ dX4_partOf_11 ?_
  exact j_iret X hr rfl (by first | with_reducible rfl | (simp only [qPart]; done) | (simp only [qPart]; rfl) | rfl) rfl (by first | with_reducible rfl | (simp only [qPart]; done) | (simp only [qPart]; rfl) | rfl) dX4_partOf_14
set_option maxRecDepth 100000 in
set_option maxHeartbeats 8000000 in
theorem c_X4_isFull (l : Launch) {D : DD} {B z : Nat} {h : HF} {a : Nat} {σ : St} {p : Int32} : CT l yX4_isFull cX4_isFull 2 (some .boolean) 1 21 [.ref (a + 16), .int p] D B z (hput D h a σ) (some (.int (qFull σ p))) 0 0 (hput D h a σ) := by
  refine CT.of (L := [(0, .ref (a + 16)), (1, .int p)]) (by decide +kernel) (Nat.le_of_ble_eq_true rfl) rfl ?_
  intro P E S0 M0 AR BL ME CO X hr hnm
  refine j_aload_n X 0 dX4_isFull_0 rfl rfl ?_
  refine j_get X fG_RX4_14 (hput_k 16 (by decide)) rfl rfl dX4_isFull_1 ?_
  refine j_iload_n X 1 dX4_isFull_4 rfl rfl ?_
  refine j_callVi X (rest := []) (s_at7 l) m_yX5_at kM_RX4_31 (hput_k 17 (by decide)) rfl rfl rfl rfl rfl (Nat.le_of_ble_eq_true rfl) ⟨Nat.le_of_ble_eq_true rfl, Nat.le_of_ble_eq_true rfl, Nat.le_of_ble_eq_true rfl, Nat.le_of_ble_eq_true rfl⟩ dX4_isFull_5 ?_
  refine j_bipush X (v := 12) dX4_isFull_8 (by decide) ?_
  refine j_icmp_lt X (tgt := 17) dX4_isFull_10 (by decide) (fun c_10 => ?_) (fun c_10 => ?_)
  · refine j_iconst X (v := 0) dX4_isFull_17 (by decide) ?_
    exact j_iret X hr rfl (by first | with_reducible rfl | (simp only [qFull, if_pos c_10]; done) | (simp only [qFull, if_pos c_10]; rfl) | rfl) rfl (by first | with_reducible rfl | (simp only [qFull, if_pos c_10]; done) | (simp only [qFull, if_pos c_10]; rfl) | rfl) dX4_isFull_18
  · refine j_iconst X (v := 1) dX4_isFull_13 (by decide) ?_
    refine j_goto X (tgt := 18) dX4_isFull_14 (by decide) ?_
    exact j_iret X hr rfl (by first | with_reducible rfl | (simp only [qFull, if_neg c_10]; done) | (simp only [qFull, if_neg c_10]; rfl) | rfl) rfl (by first | with_reducible rfl | (simp only [qFull, if_neg c_10]; done) | (simp only [qFull, if_neg c_10]; rfl) | rfl) dX4_isFull_18
set_option maxRecDepth 100000 in
set_option maxHeartbeats 8000000 in
theorem c_X4_insert (l : Launch) {D : DD} {B z : Nat} {h : HF} {a : Nat} {σ : St} {p s d pr num : Int32} : CT l yX4_insert cX4_insert 9 none 2 45 [.ref (a + 16), .int p, .int s, .int d, .int pr, .int num] D B z (hput D h a σ) none 0 0 (hput D h a (qIns σ p s d pr num)) := by
  refine CT.of (L := [(0, .ref (a + 16)), (1, .int p), (2, .int s), (3, .int d), (4, .int pr), (5, .int num)]) (by decide +kernel) (Nat.le_of_ble_eq_true rfl) rfl ?_
  intro P E S0 M0 AR BL ME CO X hr hnm
  refine j_aload_n X 0 dX4_insert_0 rfl rfl ?_
  refine j_get X fG_RX4_14 (hput_k 16 (by decide)) rfl rfl dX4_insert_1 ?_
  refine j_iload_n X 1 dX4_insert_4 rfl rfl ?_
  refine j_callVi X (rest := []) (s_at7 l) m_yX5_at kM_RX4_31 (hput_k 17 (by decide)) rfl rfl rfl rfl rfl (Nat.le_of_ble_eq_true rfl) ⟨Nat.le_of_ble_eq_true rfl, Nat.le_of_ble_eq_true rfl, Nat.le_of_ble_eq_true rfl, Nat.le_of_ble_eq_true rfl⟩ dX4_insert_5 ?_
  refine j_tops (fun v1 ev1 => ?_)
  refine j_istore X (L' := [(6, .int v1), (0, .ref (a + 16)), (1, .int p), (2, .int s), (3, .int d), (4, .int pr), (5, .int num)]) dX4_insert_8 (by decide) rfl ?_
  refine j_iload X 0 dX4_insert_10 rfl ?_
  refine j_istore X (L' := [(7, .int v1), (6, .int v1), (0, .ref (a + 16)), (1, .int p), (2, .int s), (3, .int d), (4, .int pr), (5, .int num)]) dX4_insert_12 (by decide) rfl ?_
  have tail : ∀ pl : Int32, pl = qPlace σ p pr → J P l E { frames := 2, cells := 0, slots := 0, locals := 45 } S0 M0 AR BL ME CO D B 9 (MQ BL (QC none D B (z + 0) (hput D h a (qIns σ p s d pr num))) AR S0 0 0 (aB B)) 0 0 z (hput D h a σ) [(7, .int pl), (6, .int v1), (1, .int p), (2, .int s), (3, .int d), (4, .int pr), (5, .int num), (0, .ref (a + 16))] [] 40 := by
    intro pl hpl
    refine j_iload_n X 2 dX4_insert_40 rfl rfl ?_
    refine j_iload X 0 dX4_insert_41 rfl ?_
    refine j_callSi X (rest := []) (c_X4_cellOf l) m_yX4_cellOf kM_RX4_27 rfl rfl (Nat.le_of_ble_eq_true rfl) ⟨Nat.le_of_ble_eq_true rfl, Nat.le_of_ble_eq_true rfl, Nat.le_of_ble_eq_true rfl, Nat.le_of_ble_eq_true rfl⟩ dX4_insert_43 ?_
    refine j_tops (fun v2 ev2 => ?_)
    refine j_istore X (L' := [(8, .int v2), (7, .int pl), (6, .int v1), (1, .int p), (2, .int s), (3, .int d), (4, .int pr), (5, .int num), (0, .ref (a + 16))]) dX4_insert_46 (by decide) rfl ?_
    refine j_aload_n X 8 dX4_insert_48 rfl rfl ?_
    refine j_get X fG_RX4_20 (hput_k 16 (by decide)) rfl rfl dX4_insert_49 ?_
    refine j_iload X 0 dX4_insert_52 rfl ?_
    refine j_iload X 0 dX4_insert_54 rfl ?_
    refine j_iconst X (v := 4) dX4_insert_56 (by decide) ?_
    refine j_iadd X dX4_insert_57 ?_
    refine j_iload X 2 dX4_insert_58 rfl ?_
    refine j_iload X 1 dX4_insert_60 rfl ?_
    refine j_isub X dX4_insert_62 ?_
    refine j_iconst X (v := 4) dX4_insert_63 (by decide) ?_
    refine j_imul X dX4_insert_64 ?_
    refine j_callVv X (rest := []) (s_slide8 l) m_yX5_slide kM_RX4_39 (hput_k 19 (by decide)) rfl rfl rfl rfl rfl (Nat.le_of_ble_eq_true rfl) ⟨Nat.le_of_ble_eq_true rfl, Nat.le_of_ble_eq_true rfl, Nat.le_of_ble_eq_true rfl, Nat.le_of_ble_eq_true rfl⟩ dX4_insert_65 ?_
    refine j_aload_n X 8 dX4_insert_68 rfl rfl ?_
    refine j_get X fG_RX4_20 (hput_k 16 (by decide)) rfl rfl dX4_insert_69 ?_
    refine j_iload X 0 dX4_insert_72 rfl ?_
    refine j_iconst X (v := 0) dX4_insert_74 (by decide) ?_
    refine j_iadd X dX4_insert_75 ?_
    refine j_iload_n X 4 dX4_insert_76 rfl rfl ?_
    refine j_callVv X (rest := []) (s_put8 l) m_yX5_put kM_RX4_43 (hput_k 19 (by decide)) rfl rfl rfl rfl rfl (Nat.le_of_ble_eq_true rfl) ⟨Nat.le_of_ble_eq_true rfl, Nat.le_of_ble_eq_true rfl, Nat.le_of_ble_eq_true rfl, Nat.le_of_ble_eq_true rfl⟩ dX4_insert_77 ?_
    refine j_aload_n X 8 dX4_insert_80 rfl rfl ?_
    refine j_get X fG_RX4_20 (hput_k 16 (by decide)) rfl rfl dX4_insert_81 ?_
    refine j_iload X 0 dX4_insert_84 rfl ?_
    refine j_iconst X (v := 1) dX4_insert_86 (by decide) ?_
    refine j_iadd X dX4_insert_87 ?_
    refine j_iload_n X 5 dX4_insert_88 rfl rfl ?_
    refine j_callVv X (rest := []) (s_put8 l) m_yX5_put kM_RX4_43 (hput_k 19 (by decide)) rfl rfl rfl rfl rfl (Nat.le_of_ble_eq_true rfl) ⟨Nat.le_of_ble_eq_true rfl, Nat.le_of_ble_eq_true rfl, Nat.le_of_ble_eq_true rfl, Nat.le_of_ble_eq_true rfl⟩ dX4_insert_89 ?_
    refine j_aload_n X 8 dX4_insert_92 rfl rfl ?_
    refine j_get X fG_RX4_20 (hput_k 16 (by decide)) rfl rfl dX4_insert_93 ?_
    refine j_iload X 0 dX4_insert_96 rfl ?_
    refine j_iconst X (v := 2) dX4_insert_98 (by decide) ?_
    refine j_iadd X dX4_insert_99 ?_
    refine j_iload X 6 dX4_insert_100 rfl ?_
    refine j_callVv X (rest := []) (s_put8 l) m_yX5_put kM_RX4_43 (hput_k 19 (by decide)) rfl rfl rfl rfl rfl (Nat.le_of_ble_eq_true rfl) ⟨Nat.le_of_ble_eq_true rfl, Nat.le_of_ble_eq_true rfl, Nat.le_of_ble_eq_true rfl, Nat.le_of_ble_eq_true rfl⟩ dX4_insert_102 ?_
    refine j_aload_n X 8 dX4_insert_105 rfl rfl ?_
    refine j_get X fG_RX4_20 (hput_k 16 (by decide)) rfl rfl dX4_insert_106 ?_
    refine j_iload X 0 dX4_insert_109 rfl ?_
    refine j_iconst X (v := 3) dX4_insert_111 (by decide) ?_
    refine j_iadd X dX4_insert_112 ?_
    refine j_iload X 7 dX4_insert_113 rfl ?_
    refine j_callVv X (rest := []) (s_put8 l) m_yX5_put kM_RX4_43 (hput_k 19 (by decide)) rfl rfl rfl rfl rfl (Nat.le_of_ble_eq_true rfl) ⟨Nat.le_of_ble_eq_true rfl, Nat.le_of_ble_eq_true rfl, Nat.le_of_ble_eq_true rfl, Nat.le_of_ble_eq_true rfl⟩ dX4_insert_115 ?_
    refine j_aload_n X 8 dX4_insert_118 rfl rfl ?_
    refine j_get X fG_RX4_14 (hput_k 16 (by decide)) rfl rfl dX4_insert_119 ?_
    refine j_iload_n X 3 dX4_insert_122 rfl rfl ?_
    refine j_iload X 2 dX4_insert_123 rfl ?_
    refine j_iconst X (v := 1) dX4_insert_125 (by decide) ?_
    refine j_iadd X dX4_insert_126 ?_
    refine j_callVv X (rest := []) (s_put7 l) m_yX5_put kM_RX4_43 (hput_k 17 (by decide)) rfl rfl rfl rfl rfl (Nat.le_of_ble_eq_true rfl) ⟨Nat.le_of_ble_eq_true rfl, Nat.le_of_ble_eq_true rfl, Nat.le_of_ble_eq_true rfl, Nat.le_of_ble_eq_true rfl⟩ dX4_insert_127 ?_
    exact j_vret X hr rfl (by subst ev2 hpl ev1; first | with_reducible rfl | (simp only [qIns, qWrite]; done) | (simp only [qIns, qWrite]; rfl) | rfl) dX4_insert_130
  have loop : ∀ n : Nat, n < 2147483648 → qSlot σ p pr n = qPlace σ p pr → J P l E { frames := 2, cells := 0, slots := 0, locals := 45 } S0 M0 AR BL ME CO D B 9 (MQ BL (QC none D B (z + 0) (hput D h a (qIns σ p s d pr num))) AR S0 0 0 (aB B)) 0 0 z (hput D h a σ) [(7, .int (nI n)), (6, .int v1), (1, .int p), (2, .int s), (3, .int d), (4, .int pr), (5, .int num), (0, .ref (a + 16))] [] 14 := by
    intro n
    induction n with
    | zero =>
      intro _ hq
      refine j_iload X 0 dX4_insert_14 rfl ?_
      refine j_if_le X (tgt := 40) dX4_insert_16 (by decide) (fun c_16 => ?_) (fun c_16 => absurd c_16 (by decide))
      refine j_sub [0, 1, 2, 3, 4, 5, 6, 7] (L' := [(7, .int (nI 0)), (6, .int v1), (1, .int p), (2, .int s), (3, .int d), (4, .int pr), (5, .int num), (0, .ref (a + 16))]) rfl ?_
      exact tail _ (by rw [← hq]; rfl)
    | succ n ih =>
      intro hn hq
      have hpos : 0 < nI (n + 1) := nI_lt (a := 0) (by omega) (by omega)
      refine j_iload X 0 dX4_insert_14 rfl ?_
      refine j_if_le X (tgt := 40) dX4_insert_16 (by decide) (fun c_16 => absurd hpos c_16) (fun c_16 => ?_)
      refine j_aload_n X 7 dX4_insert_19 rfl rfl ?_
      refine j_iload_n X 2 dX4_insert_20 rfl rfl ?_
      refine j_iload X 0 dX4_insert_21 rfl ?_
      refine j_iconst X (v := 1) dX4_insert_23 (by decide) ?_
      refine j_isub X dX4_insert_24 ?_
      refine j_iconst X (v := 2) dX4_insert_25 (by decide) ?_
      refine j_callVi X (rest := []) (c_X4_partOf l) m_yX4_partOf kM_RX4_35 (hput_k 16 (by decide)) rfl rfl rfl rfl rfl (Nat.le_of_ble_eq_true rfl) ⟨Nat.le_of_ble_eq_true rfl, Nat.le_of_ble_eq_true rfl, Nat.le_of_ble_eq_true rfl, Nat.le_of_ble_eq_true rfl⟩ dX4_insert_26 ?_
      refine j_iload X 5 dX4_insert_29 rfl ?_
      refine j_icmp_ge X (tgt := 40) dX4_insert_31 (by decide) (fun c_31 => ?_) (fun c_31 => ?_)
      · refine j_sub [0, 1, 2, 3, 4, 5, 6, 7] (L' := [(7, .int (nI (n + 1))), (6, .int v1), (1, .int p), (2, .int s), (3, .int d), (4, .int pr), (5, .int num), (0, .ref (a + 16))]) rfl ?_
        exact tail _ (by rw [← hq, qSlot, if_neg c_31])
      · obtain ⟨v3, ev3⟩ : ∃ y : Int32, (nI (n + 1)) + (-1) = y := ⟨_, rfl⟩
        refine j_iinc X 0 (k := (-1)) (v := v3) (L' := [(7, .int v3), (6, .int v1), (1, .int p), (2, .int s), (3, .int d), (4, .int pr), (5, .int num), (0, .ref (a + 16))]) dX4_insert_34 rfl (by decide) (by decide) ev3 rfl ?_
        refine j_goto X (tgt := 14) dX4_insert_37 (by decide) ?_
        refine j_sub [0, 1, 2, 3, 4, 5, 6, 7] (L' := [(7, .int (nI n)), (6, .int v1), (1, .int p), (2, .int s), (3, .int d), (4, .int pr), (5, .int num), (0, .ref (a + 16))]) (by subst ev3; rw [show nI n = nI (n + 1) + (-1) from (pk_m1 n).symm]; rfl) ?_
        exact ih (by omega) (by rw [← hq, qSlot, if_pos c_31])
  by_cases c0 : 0 < v1
  · obtain ⟨k0, hk0, e0⟩ := nI_of (x := v1) (fun q => Int32.lt_asymm q c0)
    have ek : (oAt 7 8 σ p).toNatClampNeg = k0 := by rw [ev1, e0]; exact nI_clamp (by omega)
    refine j_sub [0, 1, 3, 4, 5, 6, 7, 2] (L' := [(7, .int (nI k0)), (6, .int v1), (1, .int p), (2, .int s), (3, .int d), (4, .int pr), (5, .int num), (0, .ref (a + 16))]) (by rw [← e0]; rfl) ?_
    refine loop k0 (by omega) ?_
    rw [qPlace, if_pos (by rw [ev1]; exact c0), ek]
  · refine j_iload X 0 dX4_insert_14 rfl ?_
    refine j_if_le X (tgt := 40) dX4_insert_16 (by decide) (fun c_16 => ?_) (fun c_16 => absurd c_16 c0)
    refine j_sub [0, 1, 3, 4, 5, 6, 7, 2] (L' := [(7, .int v1), (6, .int v1), (1, .int p), (2, .int s), (3, .int d), (4, .int pr), (5, .int num), (0, .ref (a + 16))]) rfl ?_
    exact tail _ (by rw [qPlace, if_neg (by rw [ev1]; exact c0)]; exact ev1.symm)
set_option maxRecDepth 100000 in
set_option maxHeartbeats 8000000 in
theorem c_X4_removeFirst (l : Launch) {D : DD} {B z : Nat} {h : HF} {a : Nat} {σ : St} {p k : Int32} : CT l yX4_removeFirst cX4_removeFirst 4 none 2 45 [.ref (a + 16), .int p, .int k] D B z (hput D h a σ) none 0 0 (hput D h a (qRem σ p k)) := by
  refine CT.of (L := [(0, .ref (a + 16)), (1, .int p), (2, .int k)]) (by decide +kernel) (Nat.le_of_ble_eq_true rfl) rfl ?_
  intro P E S0 M0 AR BL ME CO X hr hnm
  refine j_aload_n X 0 dX4_removeFirst_0 rfl rfl ?_
  refine j_get X fG_RX4_14 (hput_k 16 (by decide)) rfl rfl dX4_removeFirst_1 ?_
  refine j_iload_n X 1 dX4_removeFirst_4 rfl rfl ?_
  refine j_callVi X (rest := []) (s_at7 l) m_yX5_at kM_RX4_31 (hput_k 17 (by decide)) rfl rfl rfl rfl rfl (Nat.le_of_ble_eq_true rfl) ⟨Nat.le_of_ble_eq_true rfl, Nat.le_of_ble_eq_true rfl, Nat.le_of_ble_eq_true rfl, Nat.le_of_ble_eq_true rfl⟩ dX4_removeFirst_5 ?_
  refine j_iload_n X 2 dX4_removeFirst_8 rfl rfl ?_
  refine j_isub X dX4_removeFirst_9 ?_
  refine j_tops (fun v1 ev1 => ?_)
  refine j_istore_n X (L' := [(3, .int v1), (0, .ref (a + 16)), (1, .int p), (2, .int k)]) dX4_removeFirst_10 rfl (by decide) rfl ?_
  refine j_aload_n X 1 dX4_removeFirst_11 rfl rfl ?_
  refine j_get X fG_RX4_20 (hput_k 16 (by decide)) rfl rfl dX4_removeFirst_12 ?_
  refine j_iload_n X 2 dX4_removeFirst_15 rfl rfl ?_
  refine j_iload_n X 3 dX4_removeFirst_16 rfl rfl ?_
  refine j_callSi X (rest := [.ref (a + 19)]) (c_X4_cellOf l) m_yX4_cellOf kM_RX4_27 rfl rfl (Nat.le_of_ble_eq_true rfl) ⟨Nat.le_of_ble_eq_true rfl, Nat.le_of_ble_eq_true rfl, Nat.le_of_ble_eq_true rfl, Nat.le_of_ble_eq_true rfl⟩ dX4_removeFirst_17 ?_
  refine j_iload_n X 2 dX4_removeFirst_20 rfl rfl ?_
  refine j_iconst X (v := 0) dX4_removeFirst_21 (by decide) ?_
  refine j_callSi X (rest := [.int (qCell p k), .ref (a + 19)]) (c_X4_cellOf l) m_yX4_cellOf kM_RX4_27 rfl rfl (Nat.le_of_ble_eq_true rfl) ⟨Nat.le_of_ble_eq_true rfl, Nat.le_of_ble_eq_true rfl, Nat.le_of_ble_eq_true rfl, Nat.le_of_ble_eq_true rfl⟩ dX4_removeFirst_22 ?_
  refine j_iload_n X 0 dX4_removeFirst_25 rfl rfl ?_
  refine j_iconst X (v := 4) dX4_removeFirst_26 (by decide) ?_
  refine j_imul X dX4_removeFirst_27 ?_
  refine j_callVv X (rest := []) (s_slide8 l) m_yX5_slide kM_RX4_39 (hput_k 19 (by decide)) rfl rfl rfl rfl rfl (Nat.le_of_ble_eq_true rfl) ⟨Nat.le_of_ble_eq_true rfl, Nat.le_of_ble_eq_true rfl, Nat.le_of_ble_eq_true rfl, Nat.le_of_ble_eq_true rfl⟩ dX4_removeFirst_28 ?_
  refine j_aload_n X 1 dX4_removeFirst_31 rfl rfl ?_
  refine j_get X fG_RX4_14 (hput_k 16 (by decide)) rfl rfl dX4_removeFirst_32 ?_
  refine j_iload_n X 2 dX4_removeFirst_35 rfl rfl ?_
  refine j_iload_n X 0 dX4_removeFirst_36 rfl rfl ?_
  refine j_callVv X (rest := []) (s_put7 l) m_yX5_put kM_RX4_43 (hput_k 17 (by decide)) rfl rfl rfl rfl rfl (Nat.le_of_ble_eq_true rfl) ⟨Nat.le_of_ble_eq_true rfl, Nat.le_of_ble_eq_true rfl, Nat.le_of_ble_eq_true rfl, Nat.le_of_ble_eq_true rfl⟩ dX4_removeFirst_37 ?_
  exact j_vret X hr rfl (by subst ev1; first | with_reducible rfl | (simp only [qRem]; done) | (simp only [qRem]; rfl) | rfl) dX4_removeFirst_40
set_option maxRecDepth 100000 in
set_option maxHeartbeats 8000000 in
theorem c_X7_portOf (l : Launch) {D : DD} {B z : Nat} {h : HF} {a : Nat} {σ : St} {x : Int32} : CT l yX7_portOf cX7_portOf 2 (some .int) 1 21 [.ref (a + 21), .int x] D B z (hput D h a σ) (some (.int (tPort σ x))) 0 0 (hput D h a σ) := by
  refine CT.of (L := [(0, .ref (a + 21)), (1, .int x)]) (by decide +kernel) (Nat.le_of_ble_eq_true rfl) rfl ?_
  intro P E S0 M0 AR BL ME CO X hr hnm
  refine j_aload_n X 0 dX7_portOf_0 rfl rfl ?_
  refine j_get X fG_RX7_14 (hput_k 21 (by decide)) rfl rfl dX7_portOf_1 ?_
  refine j_iload_n X 1 dX7_portOf_4 rfl rfl ?_
  refine j_callVi X (rest := []) (s_at9 l) m_yX5_at kM_RX7_35 (hput_k 22 (by decide)) rfl rfl rfl rfl rfl (Nat.le_of_ble_eq_true rfl) ⟨Nat.le_of_ble_eq_true rfl, Nat.le_of_ble_eq_true rfl, Nat.le_of_ble_eq_true rfl, Nat.le_of_ble_eq_true rfl⟩ dX7_portOf_5 ?_
  exact j_iret X hr rfl (by first | with_reducible rfl | (simp only [tPort]; done) | (simp only [tPort]; rfl) | rfl) rfl (by first | with_reducible rfl | (simp only [tPort]; done) | (simp only [tPort]; rfl) | rfl) dX7_portOf_8
set_option maxRecDepth 100000 in
set_option maxHeartbeats 8000000 in
theorem c_X7_remove (l : Launch) {D : DD} {B z : Nat} {h : HF} {a : Nat} {σ : St} {x : Int32} : CT l yX7_remove cX7_remove 2 none 1 22 [.ref (a + 21), .int x] D B z (hput D h a σ) none 0 0 (hput D h a (tRemove σ x)) := by
  refine CT.of (L := [(0, .ref (a + 21)), (1, .int x)]) (by decide +kernel) (Nat.le_of_ble_eq_true rfl) rfl ?_
  intro P E S0 M0 AR BL ME CO X hr hnm
  refine j_aload_n X 0 dX7_remove_0 rfl rfl ?_
  refine j_get X fG_RX7_14 (hput_k 21 (by decide)) rfl rfl dX7_remove_1 ?_
  refine j_iload_n X 1 dX7_remove_4 rfl rfl ?_
  refine j_bipush X (v := (-4)) dX7_remove_5 (by decide) ?_
  refine j_callVv X (rest := []) (s_put9 l) m_yX5_put kM_RX7_46 (hput_k 22 (by decide)) rfl rfl rfl rfl rfl (Nat.le_of_ble_eq_true rfl) ⟨Nat.le_of_ble_eq_true rfl, Nat.le_of_ble_eq_true rfl, Nat.le_of_ble_eq_true rfl, Nat.le_of_ble_eq_true rfl⟩ dX7_remove_7 ?_
  refine j_aload_n X 0 dX7_remove_10 rfl rfl ?_
  refine j_dup X dX7_remove_11 rfl ?_
  refine j_get X fG_RX7_31 (hput_k 21 (by decide)) rfl rfl dX7_remove_12 ?_
  refine j_iconst X (v := 1) dX7_remove_15 (by decide) ?_
  refine j_isub X dX7_remove_16 ?_
  refine j_put X fG_RX7_31 fW_7_2 (hput_k 21 (by decide)) rfl rfl rfl (Nat.le_of_ble_eq_true rfl) dX7_remove_17 ?_
  refine j_heap (h' := hput D h a (sput (oPut 9 100 σ x (-4)) 3 (((oPut 9 100 σ x (-4)).2 3) - 1))) hput_s3 ?_
  exact j_vret X hr rfl (by first | with_reducible rfl | (simp only [tRemove]; done) | (simp only [tRemove]; rfl) | rfl) dX7_remove_20
set_option maxRecDepth 100000 in
set_option maxHeartbeats 8000000 in
theorem c_X7_oldest (l : Launch) {D : DD} {B z : Nat} {h : HF} {a : Nat} {σ : St}  : CT l yX7_oldest cX7_oldest 3 (some .int) 1 21 [.ref (a + 21)] D B z (hput D h a σ) (some (.int (tOldest σ 99))) 0 0 (hput D h a σ) := by
  refine CT.of (L := [(0, .ref (a + 21))]) (by decide +kernel) (Nat.le_of_ble_eq_true rfl) rfl ?_
  intro P E S0 M0 AR BL ME CO X hr hnm
  refine j_iconst X (v := 0) dX7_oldest_0 (by decide) ?_
  refine j_istore_n X (L' := [(1, .int 0), (0, .ref (a + 21))]) dX7_oldest_1 rfl (by decide) rfl ?_
  refine j_iconst X (v := 1) dX7_oldest_2 (by decide) ?_
  refine j_istore_n X (L' := [(2, .int 1), (1, .int 0), (0, .ref (a + 21))]) dX7_oldest_3 rfl (by decide) rfl ?_
  have loop4 : ∀ (n k : Nat), k + n = 99 → J P l E { frames := 1, cells := 0, slots := 0, locals := 21 } S0 M0 AR BL ME CO D B 3 (MQ BL (QC (some (.int (tOldest σ 99))) D B (z + 0) (hput D h a σ)) AR S0 0 0 (aB B)) 0 0 z (hput D h a σ) [(0, .ref (a + 21)), (1, .int (tOldest σ k)), (2, .int (nI (k + 1)))] [] 4 := by
    intro n
    induction n with
    | zero =>
      intro k hk
      obtain rfl : k = 99 := by omega
      refine j_iload_n X 2 dX7_oldest_4 rfl rfl ?_
      refine j_bipush X (v := 99) dX7_oldest_5 (by decide) ?_
      refine j_icmp_gt X (tgt := 54) dX7_oldest_7 (by decide) (fun c_7 => ?_) (fun c_7 => absurd (by decide) c_7)
      refine j_iload_n X 1 dX7_oldest_54 rfl rfl ?_
      exact j_iret X hr rfl (by first | with_reducible rfl | (simp only [if_pos c_7]; done) | (simp only [if_pos c_7]; rfl) | rfl) rfl (by first | with_reducible rfl | (simp only [if_pos c_7]; done) | (simp only [if_pos c_7]; rfl) | rfl) dX7_oldest_55
    | succ n ih =>
      intro k hk
      have hlt : ¬ 99 < nI (k + 1) := nle_lit (b := 99) (by omega) (by decide)
      refine j_iload_n X 2 dX7_oldest_4 rfl rfl ?_
      refine j_bipush X (v := 99) dX7_oldest_5 (by decide) ?_
      refine j_icmp_gt X (tgt := 54) dX7_oldest_7 (by decide) (fun c_7 => absurd c_7 hlt) (fun c_7 => ?_)
      refine j_aload_n X 0 dX7_oldest_10 rfl rfl ?_
      refine j_get X fG_RX7_14 (hput_k 21 (by decide)) rfl rfl dX7_oldest_11 ?_
      refine j_iload_n X 2 dX7_oldest_14 rfl rfl ?_
      refine j_callVi X (rest := []) (s_at9 l) m_yX5_at kM_RX7_35 (hput_k 22 (by decide)) rfl rfl rfl rfl rfl (Nat.le_of_ble_eq_true rfl) ⟨Nat.le_of_ble_eq_true rfl, Nat.le_of_ble_eq_true rfl, Nat.le_of_ble_eq_true rfl, Nat.le_of_ble_eq_true rfl⟩ dX7_oldest_15 ?_
      refine j_bipush X (v := (-4)) dX7_oldest_18 (by decide) ?_
      refine j_icmp_eq X (tgt := 48) dX7_oldest_20 (by decide) (fun c_20 => ?_) (fun c_20 => ?_)
      · obtain ⟨v1, ev1⟩ : ∃ y : Int32, (nI (k + 1)) + 1 = y := ⟨_, rfl⟩
        refine j_iinc X 2 (k := 1) (v := v1) (L' := [(2, .int v1), (0, .ref (a + 21)), (1, .int (tOldest σ k))]) dX7_oldest_48 rfl (by decide) (by decide) ev1 rfl ?_
        refine j_goto X (tgt := 4) dX7_oldest_51 (by decide) ?_
        refine j_sub [1, 2, 0] (L' := [(0, .ref (a + 21)), (1, .int (tOldest σ (k + 1))), (2, .int (nI ((k + 1) + 1)))]) (by subst ev1; first | with_reducible rfl | (simp only [tOldest, nI_succ (k + 1), if_neg c_7, if_pos c_20]; done) | (simp only [tOldest, nI_succ (k + 1), if_neg c_7, if_pos c_20]; rfl) | rfl) ?_
        exact ih (k + 1) (by omega)
      · refine j_iload_n X 1 dX7_oldest_23 rfl rfl ?_
        refine j_if_eq X (tgt := 46) dX7_oldest_24 (by decide) (fun c_24 => ?_) (fun c_24 => ?_)
        · refine j_iload_n X 2 dX7_oldest_46 rfl rfl ?_
          refine j_tops (fun v2 ev2 => ?_)
          refine j_istore_n X (L' := [(1, .int v2), (0, .ref (a + 21)), (2, .int (nI (k + 1)))]) dX7_oldest_47 rfl (by decide) rfl ?_
          obtain ⟨v3, ev3⟩ : ∃ y : Int32, (nI (k + 1)) + 1 = y := ⟨_, rfl⟩
          refine j_iinc X 2 (k := 1) (v := v3) (L' := [(2, .int v3), (1, .int v2), (0, .ref (a + 21))]) dX7_oldest_48 rfl (by decide) (by decide) ev3 rfl ?_
          refine j_goto X (tgt := 4) dX7_oldest_51 (by decide) ?_
          refine j_sub [2, 1, 0] (L' := [(0, .ref (a + 21)), (1, .int (tOldest σ (k + 1))), (2, .int (nI ((k + 1) + 1)))]) (by subst ev3 ev2; first | with_reducible rfl | (simp only [tOldest, nI_succ (k + 1), if_neg c_7, if_neg c_20, if_pos c_24]; done) | (simp only [tOldest, nI_succ (k + 1), if_neg c_7, if_neg c_20, if_pos c_24]; rfl) | rfl) ?_
          exact ih (k + 1) (by omega)
        · refine j_aload_n X 0 dX7_oldest_27 rfl rfl ?_
          refine j_get X fG_RX7_20 (hput_k 21 (by decide)) rfl rfl dX7_oldest_28 ?_
          refine j_iload_n X 2 dX7_oldest_31 rfl rfl ?_
          refine j_callVi X (rest := []) (s_at10 l) m_yX5_at kM_RX7_35 (hput_k 24 (by decide)) rfl rfl rfl rfl rfl (Nat.le_of_ble_eq_true rfl) ⟨Nat.le_of_ble_eq_true rfl, Nat.le_of_ble_eq_true rfl, Nat.le_of_ble_eq_true rfl, Nat.le_of_ble_eq_true rfl⟩ dX7_oldest_32 ?_
          refine j_aload_n X 0 dX7_oldest_35 rfl rfl ?_
          refine j_get X fG_RX7_20 (hput_k 21 (by decide)) rfl rfl dX7_oldest_36 ?_
          refine j_iload_n X 1 dX7_oldest_39 rfl rfl ?_
          refine j_callVi X (rest := [.int (oAt 10 100 σ (nI (k + 1)))]) (s_at10 l) m_yX5_at kM_RX7_35 (hput_k 24 (by decide)) rfl rfl rfl rfl rfl (Nat.le_of_ble_eq_true rfl) ⟨Nat.le_of_ble_eq_true rfl, Nat.le_of_ble_eq_true rfl, Nat.le_of_ble_eq_true rfl, Nat.le_of_ble_eq_true rfl⟩ dX7_oldest_40 ?_
          refine j_icmp_ge X (tgt := 48) dX7_oldest_43 (by decide) (fun c_43 => ?_) (fun c_43 => ?_)
          · obtain ⟨v4, ev4⟩ : ∃ y : Int32, (nI (k + 1)) + 1 = y := ⟨_, rfl⟩
            refine j_iinc X 2 (k := 1) (v := v4) (L' := [(2, .int v4), (0, .ref (a + 21)), (1, .int (tOldest σ k))]) dX7_oldest_48 rfl (by decide) (by decide) ev4 rfl ?_
            refine j_goto X (tgt := 4) dX7_oldest_51 (by decide) ?_
            refine j_sub [1, 2, 0] (L' := [(0, .ref (a + 21)), (1, .int (tOldest σ (k + 1))), (2, .int (nI ((k + 1) + 1)))]) (by subst ev4; first | with_reducible rfl | (simp only [tOldest, nI_succ (k + 1), if_neg c_7, if_neg c_20, if_neg c_24, if_neg c_43]; done) | (simp only [tOldest, nI_succ (k + 1), if_neg c_7, if_neg c_20, if_neg c_24, if_neg c_43]; rfl) | rfl) ?_
            exact ih (k + 1) (by omega)
          · refine j_iload_n X 2 dX7_oldest_46 rfl rfl ?_
            refine j_tops (fun v5 ev5 => ?_)
            refine j_istore_n X (L' := [(1, .int v5), (0, .ref (a + 21)), (2, .int (nI (k + 1)))]) dX7_oldest_47 rfl (by decide) rfl ?_
            obtain ⟨v6, ev6⟩ : ∃ y : Int32, (nI (k + 1)) + 1 = y := ⟨_, rfl⟩
            refine j_iinc X 2 (k := 1) (v := v6) (L' := [(2, .int v6), (1, .int v5), (0, .ref (a + 21))]) dX7_oldest_48 rfl (by decide) (by decide) ev6 rfl ?_
            refine j_goto X (tgt := 4) dX7_oldest_51 (by decide) ?_
            refine j_sub [2, 1, 0] (L' := [(0, .ref (a + 21)), (1, .int (tOldest σ (k + 1))), (2, .int (nI ((k + 1) + 1)))]) (by subst ev6 ev5; first | with_reducible rfl | (simp only [tOldest, nI_succ (k + 1), if_neg c_7, if_neg c_20, if_neg c_24, if_pos c_43]; done) | (simp only [tOldest, nI_succ (k + 1), if_neg c_7, if_neg c_20, if_neg c_24, if_pos c_43]; rfl) | rfl) ?_
            exact ih (k + 1) (by omega)
  refine j_sub [2, 1, 0] (L' := [(0, .ref (a + 21)), (1, .int (tOldest σ 0)), (2, .int (nI (0 + 1)))]) (by first | with_reducible rfl | (simp only [tOldest]; done) | (simp only [tOldest]; rfl) | rfl) ?_
  exact loop4 99 0 rfl
set_option maxRecDepth 100000 in
set_option maxHeartbeats 8000000 in
theorem c_X7_learn (l : Launch) {D : DD} {B z : Nat} {h : HF} {a : Nat} {σ : St} {x p t : Int32} : CT l yX7_learn cX7_learn 4 none 2 43 [.ref (a + 21), .int x, .int p, .int t] D B z (hput D h a σ) none 0 0 (hput D h a (tLearn σ x p t)) := by
  refine CT.of (L := [(0, .ref (a + 21)), (1, .int x), (2, .int p), (3, .int t)]) (by decide +kernel) (Nat.le_of_ble_eq_true rfl) rfl ?_
  intro P E S0 M0 AR BL ME CO X hr hnm
  refine j_aload_n X 0 dX7_learn_0 rfl rfl ?_
  refine j_get X fG_RX7_14 (hput_k 21 (by decide)) rfl rfl dX7_learn_1 ?_
  refine j_iload_n X 1 dX7_learn_4 rfl rfl ?_
  refine j_callVi X (rest := []) (s_at9 l) m_yX5_at kM_RX7_35 (hput_k 22 (by decide)) rfl rfl rfl rfl rfl (Nat.le_of_ble_eq_true rfl) ⟨Nat.le_of_ble_eq_true rfl, Nat.le_of_ble_eq_true rfl, Nat.le_of_ble_eq_true rfl, Nat.le_of_ble_eq_true rfl⟩ dX7_learn_5 ?_
  refine j_bipush X (v := (-4)) dX7_learn_8 (by decide) ?_
  refine j_icmp_ne X (tgt := 40) dX7_learn_10 (by decide) (fun c_10 => ?_) (fun c_10 => ?_)
  · refine j_aload_n X 0 dX7_learn_40 rfl rfl ?_
    refine j_get X fG_RX7_14 (hput_k 21 (by decide)) rfl rfl dX7_learn_41 ?_
    refine j_iload_n X 1 dX7_learn_44 rfl rfl ?_
    refine j_iload_n X 2 dX7_learn_45 rfl rfl ?_
    refine j_callVv X (rest := []) (s_put9 l) m_yX5_put kM_RX7_46 (hput_k 22 (by decide)) rfl rfl rfl rfl rfl (Nat.le_of_ble_eq_true rfl) ⟨Nat.le_of_ble_eq_true rfl, Nat.le_of_ble_eq_true rfl, Nat.le_of_ble_eq_true rfl, Nat.le_of_ble_eq_true rfl⟩ dX7_learn_46 ?_
    refine j_aload_n X 0 dX7_learn_49 rfl rfl ?_
    refine j_get X fG_RX7_20 (hput_k 21 (by decide)) rfl rfl dX7_learn_50 ?_
    refine j_iload_n X 1 dX7_learn_53 rfl rfl ?_
    refine j_iload_n X 3 dX7_learn_54 rfl rfl ?_
    refine j_callVv X (rest := []) (s_put10 l) m_yX5_put kM_RX7_46 (hput_k 24 (by decide)) rfl rfl rfl rfl rfl (Nat.le_of_ble_eq_true rfl) ⟨Nat.le_of_ble_eq_true rfl, Nat.le_of_ble_eq_true rfl, Nat.le_of_ble_eq_true rfl, Nat.le_of_ble_eq_true rfl⟩ dX7_learn_55 ?_
    exact j_vret X hr rfl (by first | with_reducible rfl | (simp only [tLearn, tRoom, if_neg c_10]; done) | (simp only [tLearn, tRoom, if_neg c_10]; rfl) | rfl) dX7_learn_58
  · refine j_aload_n X 0 dX7_learn_13 rfl rfl ?_
    refine j_get X fG_RX7_31 (hput_k 21 (by decide)) rfl rfl dX7_learn_14 ?_
    refine j_bipush X (v := 20) dX7_learn_17 (by decide) ?_
    refine j_icmp_lt X (tgt := 30) dX7_learn_19 (by decide) (fun c_19 => ?_) (fun c_19 => ?_)
    · refine j_aload_n X 0 dX7_learn_30 rfl rfl ?_
      refine j_dup X dX7_learn_31 rfl ?_
      refine j_get X fG_RX7_31 (hput_k 21 (by decide)) rfl rfl dX7_learn_32 ?_
      refine j_iconst X (v := 1) dX7_learn_35 (by decide) ?_
      refine j_iadd X dX7_learn_36 ?_
      refine j_put X fG_RX7_31 fW_7_2 (hput_k 21 (by decide)) rfl rfl rfl (Nat.le_of_ble_eq_true rfl) dX7_learn_37 ?_
      refine j_heap (h' := hput D h a (sput σ 3 ((σ.2 3) + 1))) hput_s3 ?_
      refine j_aload_n X 0 dX7_learn_40 rfl rfl ?_
      refine j_get X fG_RX7_14 (hput_k 21 (by decide)) rfl rfl dX7_learn_41 ?_
      refine j_iload_n X 1 dX7_learn_44 rfl rfl ?_
      refine j_iload_n X 2 dX7_learn_45 rfl rfl ?_
      refine j_callVv X (rest := []) (s_put9 l) m_yX5_put kM_RX7_46 (hput_k 22 (by decide)) rfl rfl rfl rfl rfl (Nat.le_of_ble_eq_true rfl) ⟨Nat.le_of_ble_eq_true rfl, Nat.le_of_ble_eq_true rfl, Nat.le_of_ble_eq_true rfl, Nat.le_of_ble_eq_true rfl⟩ dX7_learn_46 ?_
      refine j_aload_n X 0 dX7_learn_49 rfl rfl ?_
      refine j_get X fG_RX7_20 (hput_k 21 (by decide)) rfl rfl dX7_learn_50 ?_
      refine j_iload_n X 1 dX7_learn_53 rfl rfl ?_
      refine j_iload_n X 3 dX7_learn_54 rfl rfl ?_
      refine j_callVv X (rest := []) (s_put10 l) m_yX5_put kM_RX7_46 (hput_k 24 (by decide)) rfl rfl rfl rfl rfl (Nat.le_of_ble_eq_true rfl) ⟨Nat.le_of_ble_eq_true rfl, Nat.le_of_ble_eq_true rfl, Nat.le_of_ble_eq_true rfl, Nat.le_of_ble_eq_true rfl⟩ dX7_learn_55 ?_
      exact j_vret X hr rfl (by first | with_reducible rfl | (simp only [tLearn, tRoom, if_pos c_10, if_pos c_19]; done) | (simp only [tLearn, tRoom, if_pos c_10, if_pos c_19]; rfl) | rfl) dX7_learn_58
    · refine j_aload_n X 0 dX7_learn_22 rfl rfl ?_
      refine j_aload_n X 0 dX7_learn_23 rfl rfl ?_
      refine j_callVi X (rest := [.ref (a + 21)]) (c_X7_oldest l) m_yX7_oldest kM_RX7_39 (hput_k 21 (by decide)) rfl rfl rfl rfl rfl (Nat.le_of_ble_eq_true rfl) ⟨Nat.le_of_ble_eq_true rfl, Nat.le_of_ble_eq_true rfl, Nat.le_of_ble_eq_true rfl, Nat.le_of_ble_eq_true rfl⟩ dX7_learn_24 ?_
      refine j_callVv X (rest := []) (c_X7_remove l) m_yX7_remove kM_RX7_43 (hput_k 21 (by decide)) rfl rfl rfl rfl rfl (Nat.le_of_ble_eq_true rfl) ⟨Nat.le_of_ble_eq_true rfl, Nat.le_of_ble_eq_true rfl, Nat.le_of_ble_eq_true rfl, Nat.le_of_ble_eq_true rfl⟩ dX7_learn_27 ?_
      refine j_aload_n X 0 dX7_learn_30 rfl rfl ?_
      refine j_dup X dX7_learn_31 rfl ?_
      refine j_get X fG_RX7_31 (hput_k 21 (by decide)) rfl rfl dX7_learn_32 ?_
      refine j_iconst X (v := 1) dX7_learn_35 (by decide) ?_
      refine j_iadd X dX7_learn_36 ?_
      refine j_put X fG_RX7_31 fW_7_2 (hput_k 21 (by decide)) rfl rfl rfl (Nat.le_of_ble_eq_true rfl) dX7_learn_37 ?_
      refine j_heap (h' := hput D h a (sput (tRemove σ (tOldest σ 99)) 3 (((tRemove σ (tOldest σ 99)).2 3) + 1))) hput_s3 ?_
      refine j_aload_n X 0 dX7_learn_40 rfl rfl ?_
      refine j_get X fG_RX7_14 (hput_k 21 (by decide)) rfl rfl dX7_learn_41 ?_
      refine j_iload_n X 1 dX7_learn_44 rfl rfl ?_
      refine j_iload_n X 2 dX7_learn_45 rfl rfl ?_
      refine j_callVv X (rest := []) (s_put9 l) m_yX5_put kM_RX7_46 (hput_k 22 (by decide)) rfl rfl rfl rfl rfl (Nat.le_of_ble_eq_true rfl) ⟨Nat.le_of_ble_eq_true rfl, Nat.le_of_ble_eq_true rfl, Nat.le_of_ble_eq_true rfl, Nat.le_of_ble_eq_true rfl⟩ dX7_learn_46 ?_
      refine j_aload_n X 0 dX7_learn_49 rfl rfl ?_
      refine j_get X fG_RX7_20 (hput_k 21 (by decide)) rfl rfl dX7_learn_50 ?_
      refine j_iload_n X 1 dX7_learn_53 rfl rfl ?_
      refine j_iload_n X 3 dX7_learn_54 rfl rfl ?_
      refine j_callVv X (rest := []) (s_put10 l) m_yX5_put kM_RX7_46 (hput_k 24 (by decide)) rfl rfl rfl rfl rfl (Nat.le_of_ble_eq_true rfl) ⟨Nat.le_of_ble_eq_true rfl, Nat.le_of_ble_eq_true rfl, Nat.le_of_ble_eq_true rfl, Nat.le_of_ble_eq_true rfl⟩ dX7_learn_55 ?_
      exact j_vret X hr rfl (by first | with_reducible rfl | (simp only [tLearn, tRoom, if_pos c_10, if_neg c_19]; done) | (simp only [tLearn, tRoom, if_pos c_10, if_neg c_19]; rfl) | rfl) dX7_learn_58
set_option maxRecDepth 100000 in
set_option maxHeartbeats 8000000 in
theorem c_X7_removeAllWith (l : Launch) {D : DD} {B z : Nat} {h : HF} {a : Nat} {σ : St} {p : Int32} : CT l yX7_removeAllWith cX7_removeAllWith 3 none 1 22 [.ref (a + 21), .int p] D B z (hput D h a σ) none 0 0 (hput D h a (tRemAll σ p 99)) := by
  refine CT.of (L := [(0, .ref (a + 21)), (1, .int p)]) (by decide +kernel) (Nat.le_of_ble_eq_true rfl) rfl ?_
  intro P E S0 M0 AR BL ME CO X hr hnm
  refine j_iconst X (v := 1) dX7_removeAllWith_0 (by decide) ?_
  refine j_istore_n X (L' := [(2, .int 1), (0, .ref (a + 21)), (1, .int p)]) dX7_removeAllWith_1 rfl (by decide) rfl ?_
  have loop2 : ∀ (n k : Nat), k + n = 99 → J P l E { frames := 1, cells := 0, slots := 0, locals := 22 } S0 M0 AR BL ME CO D B 3 (MQ BL (QC none D B (z + 0) (hput D h a (tRemAll σ p 99))) AR S0 0 0 (aB B)) 0 0 z (hput D h a (tRemAll σ p k)) [(0, .ref (a + 21)), (1, .int p), (2, .int (nI (k + 1)))] [] 2 := by
    intro n
    induction n with
    | zero =>
      intro k hk
      obtain rfl : k = 99 := by omega
      refine j_iload_n X 2 dX7_removeAllWith_2 rfl rfl ?_
      refine j_bipush X (v := 99) dX7_removeAllWith_3 (by decide) ?_
      refine j_icmp_gt X (tgt := 46) dX7_removeAllWith_5 (by decide) (fun c_5 => ?_) (fun c_5 => absurd (by decide) c_5)
      exact j_vret X hr rfl (by first | with_reducible rfl | (simp only [if_pos c_5]; done) | (simp only [if_pos c_5]; rfl) | rfl) dX7_removeAllWith_46
    | succ n ih =>
      intro k hk
      have hlt : ¬ 99 < nI (k + 1) := nle_lit (b := 99) (by omega) (by decide)
      refine j_iload_n X 2 dX7_removeAllWith_2 rfl rfl ?_
      refine j_bipush X (v := 99) dX7_removeAllWith_3 (by decide) ?_
      refine j_icmp_gt X (tgt := 46) dX7_removeAllWith_5 (by decide) (fun c_5 => absurd c_5 hlt) (fun c_5 => ?_)
      refine j_aload_n X 0 dX7_removeAllWith_8 rfl rfl ?_
      refine j_get X fG_RX7_14 (hput_k 21 (by decide)) rfl rfl dX7_removeAllWith_9 ?_
      refine j_iload_n X 2 dX7_removeAllWith_12 rfl rfl ?_
      refine j_callVi X (rest := []) (s_at9 l) m_yX5_at kM_RX7_35 (hput_k 22 (by decide)) rfl rfl rfl rfl rfl (Nat.le_of_ble_eq_true rfl) ⟨Nat.le_of_ble_eq_true rfl, Nat.le_of_ble_eq_true rfl, Nat.le_of_ble_eq_true rfl, Nat.le_of_ble_eq_true rfl⟩ dX7_removeAllWith_13 ?_
      refine j_iload_n X 1 dX7_removeAllWith_16 rfl rfl ?_
      refine j_icmp_ne X (tgt := 40) dX7_removeAllWith_17 (by decide) (fun c_17 => ?_) (fun c_17 => ?_)
      · obtain ⟨v1, ev1⟩ : ∃ y : Int32, (nI (k + 1)) + 1 = y := ⟨_, rfl⟩
        refine j_iinc X 2 (k := 1) (v := v1) (L' := [(2, .int v1), (0, .ref (a + 21)), (1, .int p)]) dX7_removeAllWith_40 rfl (by decide) (by decide) ev1 rfl ?_
        refine j_goto X (tgt := 2) dX7_removeAllWith_43 (by decide) ?_
        refine j_sub [1, 2, 0] (L' := [(0, .ref (a + 21)), (1, .int p), (2, .int (nI ((k + 1) + 1)))]) (by subst ev1; first | with_reducible rfl | (simp only [tRemAll, nI_succ (k + 1), if_neg c_5, if_neg c_17]; done) | (simp only [tRemAll, nI_succ (k + 1), if_neg c_5, if_neg c_17]; rfl) | rfl) ?_
        refine j_heap (h' := hput D h a (tRemAll σ p (k + 1))) (by subst ev1; first | with_reducible rfl | (simp only [tRemAll, nI_succ (k + 1), if_neg c_5, if_neg c_17]; done) | (simp only [tRemAll, nI_succ (k + 1), if_neg c_5, if_neg c_17]; rfl) | rfl) ?_
        exact ih (k + 1) (by omega)
      · refine j_aload_n X 0 dX7_removeAllWith_20 rfl rfl ?_
        refine j_get X fG_RX7_14 (hput_k 21 (by decide)) rfl rfl dX7_removeAllWith_21 ?_
        refine j_iload_n X 2 dX7_removeAllWith_24 rfl rfl ?_
        refine j_bipush X (v := (-4)) dX7_removeAllWith_25 (by decide) ?_
        refine j_callVv X (rest := []) (s_put9 l) m_yX5_put kM_RX7_46 (hput_k 22 (by decide)) rfl rfl rfl rfl rfl (Nat.le_of_ble_eq_true rfl) ⟨Nat.le_of_ble_eq_true rfl, Nat.le_of_ble_eq_true rfl, Nat.le_of_ble_eq_true rfl, Nat.le_of_ble_eq_true rfl⟩ dX7_removeAllWith_27 ?_
        refine j_aload_n X 0 dX7_removeAllWith_30 rfl rfl ?_
        refine j_dup X dX7_removeAllWith_31 rfl ?_
        refine j_get X fG_RX7_31 (hput_k 21 (by decide)) rfl rfl dX7_removeAllWith_32 ?_
        refine j_iconst X (v := 1) dX7_removeAllWith_35 (by decide) ?_
        refine j_isub X dX7_removeAllWith_36 ?_
        refine j_put X fG_RX7_31 fW_7_2 (hput_k 21 (by decide)) rfl rfl rfl (Nat.le_of_ble_eq_true rfl) dX7_removeAllWith_37 ?_
        refine j_heap (h' := hput D h a (sput (oPut 9 100 (tRemAll σ p k) (nI (k + 1)) (-4)) 3 (((oPut 9 100 (tRemAll σ p k) (nI (k + 1)) (-4)).2 3) - 1))) hput_s3 ?_
        obtain ⟨v2, ev2⟩ : ∃ y : Int32, (nI (k + 1)) + 1 = y := ⟨_, rfl⟩
        refine j_iinc X 2 (k := 1) (v := v2) (L' := [(2, .int v2), (0, .ref (a + 21)), (1, .int p)]) dX7_removeAllWith_40 rfl (by decide) (by decide) ev2 rfl ?_
        refine j_goto X (tgt := 2) dX7_removeAllWith_43 (by decide) ?_
        refine j_sub [1, 2, 0] (L' := [(0, .ref (a + 21)), (1, .int p), (2, .int (nI ((k + 1) + 1)))]) (by subst ev2; first | with_reducible rfl | (simp only [tRemAll, nI_succ (k + 1), if_neg c_5, if_pos c_17]; done) | (simp only [tRemAll, nI_succ (k + 1), if_neg c_5, if_pos c_17]; rfl) | rfl) ?_
        refine j_heap (h' := hput D h a (tRemAll σ p (k + 1))) (by subst ev2; first | with_reducible rfl | (simp only [tRemAll, nI_succ (k + 1), if_neg c_5, if_pos c_17]; done) | (simp only [tRemAll, nI_succ (k + 1), if_neg c_5, if_pos c_17]; rfl) | rfl) ?_
        exact ih (k + 1) (by omega)
  refine j_sub [1, 2, 0] (L' := [(0, .ref (a + 21)), (1, .int p), (2, .int (nI (0 + 1)))]) (by first | with_reducible rfl | (simp only [tRemAll]; done) | (simp only [tRemAll]; rfl) | rfl) ?_
  refine j_heap (h' := hput D h a (tRemAll σ p 0)) (by first | with_reducible rfl | (simp only [tRemAll]; done) | (simp only [tRemAll]; rfl) | rfl) ?_
  exact loop2 99 0 rfl
set_option maxRecDepth 100000 in
set_option maxHeartbeats 8000000 in
theorem c_X7_removeUntil (l : Launch) {D : DD} {B z : Nat} {h : HF} {a : Nat} {σ : St} {t : Int32} : CT l yX7_removeUntil cX7_removeUntil 3 none 2 43 [.ref (a + 21), .int t] D B z (hput D h a σ) none 0 0 (hput D h a (tUntil σ t 99)) := by
  refine CT.of (L := [(0, .ref (a + 21)), (1, .int t)]) (by decide +kernel) (Nat.le_of_ble_eq_true rfl) rfl ?_
  intro P E S0 M0 AR BL ME CO X hr hnm
  refine j_iconst X (v := 1) dX7_removeUntil_0 (by decide) ?_
  refine j_istore_n X (L' := [(2, .int 1), (0, .ref (a + 21)), (1, .int t)]) dX7_removeUntil_1 rfl (by decide) rfl ?_
  have loop2 : ∀ (n k : Nat), k + n = 99 → J P l E { frames := 2, cells := 0, slots := 0, locals := 43 } S0 M0 AR BL ME CO D B 3 (MQ BL (QC none D B (z + 0) (hput D h a (tUntil σ t 99))) AR S0 0 0 (aB B)) 0 0 z (hput D h a (tUntil σ t k)) [(0, .ref (a + 21)), (1, .int t), (2, .int (nI (k + 1)))] [] 2 := by
    intro n
    induction n with
    | zero =>
      intro k hk
      obtain rfl : k = 99 := by omega
      refine j_iload_n X 2 dX7_removeUntil_2 rfl rfl ?_
      refine j_bipush X (v := 99) dX7_removeUntil_3 (by decide) ?_
      refine j_icmp_gt X (tgt := 44) dX7_removeUntil_5 (by decide) (fun c_5 => ?_) (fun c_5 => absurd (by decide) c_5)
      exact j_vret X hr rfl (by first | with_reducible rfl | (simp only [if_pos c_5]; done) | (simp only [if_pos c_5]; rfl) | rfl) dX7_removeUntil_44
    | succ n ih =>
      intro k hk
      have hlt : ¬ 99 < nI (k + 1) := nle_lit (b := 99) (by omega) (by decide)
      refine j_iload_n X 2 dX7_removeUntil_2 rfl rfl ?_
      refine j_bipush X (v := 99) dX7_removeUntil_3 (by decide) ?_
      refine j_icmp_gt X (tgt := 44) dX7_removeUntil_5 (by decide) (fun c_5 => absurd c_5 hlt) (fun c_5 => ?_)
      refine j_aload_n X 0 dX7_removeUntil_8 rfl rfl ?_
      refine j_get X fG_RX7_14 (hput_k 21 (by decide)) rfl rfl dX7_removeUntil_9 ?_
      refine j_iload_n X 2 dX7_removeUntil_12 rfl rfl ?_
      refine j_callVi X (rest := []) (s_at9 l) m_yX5_at kM_RX7_35 (hput_k 22 (by decide)) rfl rfl rfl rfl rfl (Nat.le_of_ble_eq_true rfl) ⟨Nat.le_of_ble_eq_true rfl, Nat.le_of_ble_eq_true rfl, Nat.le_of_ble_eq_true rfl, Nat.le_of_ble_eq_true rfl⟩ dX7_removeUntil_13 ?_
      refine j_bipush X (v := (-4)) dX7_removeUntil_16 (by decide) ?_
      refine j_icmp_eq X (tgt := 38) dX7_removeUntil_18 (by decide) (fun c_18 => ?_) (fun c_18 => ?_)
      · obtain ⟨v1, ev1⟩ : ∃ y : Int32, (nI (k + 1)) + 1 = y := ⟨_, rfl⟩
        refine j_iinc X 2 (k := 1) (v := v1) (L' := [(2, .int v1), (0, .ref (a + 21)), (1, .int t)]) dX7_removeUntil_38 rfl (by decide) (by decide) ev1 rfl ?_
        refine j_goto X (tgt := 2) dX7_removeUntil_41 (by decide) ?_
        refine j_sub [1, 2, 0] (L' := [(0, .ref (a + 21)), (1, .int t), (2, .int (nI ((k + 1) + 1)))]) (by subst ev1; first | with_reducible rfl | (simp only [tUntil, nI_succ (k + 1), if_neg c_5, if_pos c_18]; done) | (simp only [tUntil, nI_succ (k + 1), if_neg c_5, if_pos c_18]; rfl) | rfl) ?_
        refine j_heap (h' := hput D h a (tUntil σ t (k + 1))) (by subst ev1; first | with_reducible rfl | (simp only [tUntil, nI_succ (k + 1), if_neg c_5, if_pos c_18]; done) | (simp only [tUntil, nI_succ (k + 1), if_neg c_5, if_pos c_18]; rfl) | rfl) ?_
        exact ih (k + 1) (by omega)
      · refine j_aload_n X 0 dX7_removeUntil_21 rfl rfl ?_
        refine j_get X fG_RX7_20 (hput_k 21 (by decide)) rfl rfl dX7_removeUntil_22 ?_
        refine j_iload_n X 2 dX7_removeUntil_25 rfl rfl ?_
        refine j_callVi X (rest := []) (s_at10 l) m_yX5_at kM_RX7_35 (hput_k 24 (by decide)) rfl rfl rfl rfl rfl (Nat.le_of_ble_eq_true rfl) ⟨Nat.le_of_ble_eq_true rfl, Nat.le_of_ble_eq_true rfl, Nat.le_of_ble_eq_true rfl, Nat.le_of_ble_eq_true rfl⟩ dX7_removeUntil_26 ?_
        refine j_iload_n X 1 dX7_removeUntil_29 rfl rfl ?_
        refine j_icmp_gt X (tgt := 38) dX7_removeUntil_30 (by decide) (fun c_30 => ?_) (fun c_30 => ?_)
        · obtain ⟨v2, ev2⟩ : ∃ y : Int32, (nI (k + 1)) + 1 = y := ⟨_, rfl⟩
          refine j_iinc X 2 (k := 1) (v := v2) (L' := [(2, .int v2), (0, .ref (a + 21)), (1, .int t)]) dX7_removeUntil_38 rfl (by decide) (by decide) ev2 rfl ?_
          refine j_goto X (tgt := 2) dX7_removeUntil_41 (by decide) ?_
          refine j_sub [1, 2, 0] (L' := [(0, .ref (a + 21)), (1, .int t), (2, .int (nI ((k + 1) + 1)))]) (by subst ev2; first | with_reducible rfl | (simp only [tUntil, nI_succ (k + 1), if_neg c_5, if_neg c_18, if_pos c_30]; done) | (simp only [tUntil, nI_succ (k + 1), if_neg c_5, if_neg c_18, if_pos c_30]; rfl) | rfl) ?_
          refine j_heap (h' := hput D h a (tUntil σ t (k + 1))) (by subst ev2; first | with_reducible rfl | (simp only [tUntil, nI_succ (k + 1), if_neg c_5, if_neg c_18, if_pos c_30]; done) | (simp only [tUntil, nI_succ (k + 1), if_neg c_5, if_neg c_18, if_pos c_30]; rfl) | rfl) ?_
          exact ih (k + 1) (by omega)
        · refine j_aload_n X 0 dX7_removeUntil_33 rfl rfl ?_
          refine j_iload_n X 2 dX7_removeUntil_34 rfl rfl ?_
          refine j_callVv X (rest := []) (c_X7_remove l) m_yX7_remove kM_RX7_43 (hput_k 21 (by decide)) rfl rfl rfl rfl rfl (Nat.le_of_ble_eq_true rfl) ⟨Nat.le_of_ble_eq_true rfl, Nat.le_of_ble_eq_true rfl, Nat.le_of_ble_eq_true rfl, Nat.le_of_ble_eq_true rfl⟩ dX7_removeUntil_35 ?_
          obtain ⟨v3, ev3⟩ : ∃ y : Int32, (nI (k + 1)) + 1 = y := ⟨_, rfl⟩
          refine j_iinc X 2 (k := 1) (v := v3) (L' := [(2, .int v3), (0, .ref (a + 21)), (1, .int t)]) dX7_removeUntil_38 rfl (by decide) (by decide) ev3 rfl ?_
          refine j_goto X (tgt := 2) dX7_removeUntil_41 (by decide) ?_
          refine j_sub [1, 2, 0] (L' := [(0, .ref (a + 21)), (1, .int t), (2, .int (nI ((k + 1) + 1)))]) (by subst ev3; first | with_reducible rfl | (simp only [tUntil, nI_succ (k + 1), if_neg c_5, if_neg c_18, if_neg c_30]; done) | (simp only [tUntil, nI_succ (k + 1), if_neg c_5, if_neg c_18, if_neg c_30]; rfl) | rfl) ?_
          refine j_heap (h' := hput D h a (tUntil σ t (k + 1))) (by subst ev3; first | with_reducible rfl | (simp only [tUntil, nI_succ (k + 1), if_neg c_5, if_neg c_18, if_neg c_30]; done) | (simp only [tUntil, nI_succ (k + 1), if_neg c_5, if_neg c_18, if_neg c_30]; rfl) | rfl) ?_
          exact ih (k + 1) (by omega)
  refine j_sub [1, 2, 0] (L' := [(0, .ref (a + 21)), (1, .int t), (2, .int (nI (0 + 1)))]) (by first | with_reducible rfl | (simp only [tUntil]; done) | (simp only [tUntil]; rfl) | rfl) ?_
  refine j_heap (h' := hput D h a (tUntil σ t 0)) (by first | with_reducible rfl | (simp only [tUntil]; done) | (simp only [tUntil]; rfl) | rfl) ?_
  exact loop2 99 0 rfl
set_option maxRecDepth 100000 in
set_option maxHeartbeats 8000000 in
theorem c_X7_entriesWith (l : Launch) {D : DD} {B z : Nat} {h : HF} {a : Nat} {σ : St} {p : Int32} : CT l yX7_entriesWith cX7_entriesWith 4 (some .int) 1 21 [.ref (a + 21), .int p] D B z (hput D h a σ) (some (.int (tWith σ p 99))) 0 0 (hput D h a σ) := by
  refine CT.of (L := [(0, .ref (a + 21)), (1, .int p)]) (by decide +kernel) (Nat.le_of_ble_eq_true rfl) rfl ?_
  intro P E S0 M0 AR BL ME CO X hr hnm
  refine j_iconst X (v := 0) dX7_entriesWith_0 (by decide) ?_
  refine j_istore_n X (L' := [(2, .int 0), (0, .ref (a + 21)), (1, .int p)]) dX7_entriesWith_1 rfl (by decide) rfl ?_
  refine j_iconst X (v := 1) dX7_entriesWith_2 (by decide) ?_
  refine j_istore_n X (L' := [(3, .int 1), (2, .int 0), (0, .ref (a + 21)), (1, .int p)]) dX7_entriesWith_3 rfl (by decide) rfl ?_
  have loop4 : ∀ (n k : Nat), k + n = 99 → J P l E { frames := 1, cells := 0, slots := 0, locals := 21 } S0 M0 AR BL ME CO D B 4 (MQ BL (QC (some (.int (tWith σ p 99))) D B (z + 0) (hput D h a σ)) AR S0 0 0 (aB B)) 0 0 z (hput D h a σ) [(0, .ref (a + 21)), (1, .int p), (2, .int (tWith σ p k)), (3, .int (nI (k + 1)))] [] 4 := by
    intro n
    induction n with
    | zero =>
      intro k hk
      obtain rfl : k = 99 := by omega
      refine j_iload_n X 3 dX7_entriesWith_4 rfl rfl ?_
      refine j_bipush X (v := 99) dX7_entriesWith_5 (by decide) ?_
      refine j_icmp_gt X (tgt := 31) dX7_entriesWith_7 (by decide) (fun c_7 => ?_) (fun c_7 => absurd (by decide) c_7)
      refine j_iload_n X 2 dX7_entriesWith_31 rfl rfl ?_
      exact j_iret X hr rfl (by first | with_reducible rfl | (simp only [if_pos c_7]; done) | (simp only [if_pos c_7]; rfl) | rfl) rfl (by first | with_reducible rfl | (simp only [if_pos c_7]; done) | (simp only [if_pos c_7]; rfl) | rfl) dX7_entriesWith_32
    | succ n ih =>
      intro k hk
      have hlt : ¬ 99 < nI (k + 1) := nle_lit (b := 99) (by omega) (by decide)
      refine j_iload_n X 3 dX7_entriesWith_4 rfl rfl ?_
      refine j_bipush X (v := 99) dX7_entriesWith_5 (by decide) ?_
      refine j_icmp_gt X (tgt := 31) dX7_entriesWith_7 (by decide) (fun c_7 => absurd c_7 hlt) (fun c_7 => ?_)
      refine j_aload_n X 0 dX7_entriesWith_10 rfl rfl ?_
      refine j_get X fG_RX7_14 (hput_k 21 (by decide)) rfl rfl dX7_entriesWith_11 ?_
      refine j_iload_n X 3 dX7_entriesWith_14 rfl rfl ?_
      refine j_callVi X (rest := []) (s_at9 l) m_yX5_at kM_RX7_35 (hput_k 22 (by decide)) rfl rfl rfl rfl rfl (Nat.le_of_ble_eq_true rfl) ⟨Nat.le_of_ble_eq_true rfl, Nat.le_of_ble_eq_true rfl, Nat.le_of_ble_eq_true rfl, Nat.le_of_ble_eq_true rfl⟩ dX7_entriesWith_15 ?_
      refine j_iload_n X 1 dX7_entriesWith_18 rfl rfl ?_
      refine j_icmp_ne X (tgt := 25) dX7_entriesWith_19 (by decide) (fun c_19 => ?_) (fun c_19 => ?_)
      · obtain ⟨v1, ev1⟩ : ∃ y : Int32, (nI (k + 1)) + 1 = y := ⟨_, rfl⟩
        refine j_iinc X 3 (k := 1) (v := v1) (L' := [(3, .int v1), (0, .ref (a + 21)), (1, .int p), (2, .int (tWith σ p k))]) dX7_entriesWith_25 rfl (by decide) (by decide) ev1 rfl ?_
        refine j_goto X (tgt := 4) dX7_entriesWith_28 (by decide) ?_
        refine j_sub [1, 2, 3, 0] (L' := [(0, .ref (a + 21)), (1, .int p), (2, .int (tWith σ p (k + 1))), (3, .int (nI ((k + 1) + 1)))]) (by subst ev1; first | with_reducible rfl | (simp only [tWith, nI_succ (k + 1), if_neg c_7, if_neg c_19]; done) | (simp only [tWith, nI_succ (k + 1), if_neg c_7, if_neg c_19]; rfl) | rfl) ?_
        exact ih (k + 1) (by omega)
      · obtain ⟨v2, ev2⟩ : ∃ y : Int32, (tWith σ p k) + 1 = y := ⟨_, rfl⟩
        refine j_iinc X 2 (k := 1) (v := v2) (L' := [(2, .int v2), (0, .ref (a + 21)), (1, .int p), (3, .int (nI (k + 1)))]) dX7_entriesWith_22 rfl (by decide) (by decide) ev2 rfl ?_
        obtain ⟨v3, ev3⟩ : ∃ y : Int32, (nI (k + 1)) + 1 = y := ⟨_, rfl⟩
        refine j_iinc X 3 (k := 1) (v := v3) (L' := [(3, .int v3), (2, .int v2), (0, .ref (a + 21)), (1, .int p)]) dX7_entriesWith_25 rfl (by decide) (by decide) ev3 rfl ?_
        refine j_goto X (tgt := 4) dX7_entriesWith_28 (by decide) ?_
        refine j_sub [2, 3, 1, 0] (L' := [(0, .ref (a + 21)), (1, .int p), (2, .int (tWith σ p (k + 1))), (3, .int (nI ((k + 1) + 1)))]) (by subst ev3 ev2; first | with_reducible rfl | (simp only [tWith, nI_succ (k + 1), if_neg c_7, if_pos c_19]; done) | (simp only [tWith, nI_succ (k + 1), if_neg c_7, if_pos c_19]; rfl) | rfl) ?_
        exact ih (k + 1) (by omega)
  refine j_sub [2, 3, 1, 0] (L' := [(0, .ref (a + 21)), (1, .int p), (2, .int (tWith σ p 0)), (3, .int (nI (0 + 1)))]) (by first | with_reducible rfl | (simp only [tWith]; done) | (simp only [tWith]; rfl) | rfl) ?_
  exact loop4 99 0 rfl
set_option maxRecDepth 100000 in
set_option maxHeartbeats 8000000 in
theorem c_X7_addressOf (l : Launch) {D : DD} {B z : Nat} {h : HF} {a : Nat} {σ : St} {x : Int32} : CT l yX7_addressOf cX7_addressOf 4 (some .int) 1 21 [.ref (a + 21), .int x] D B z (hput D h a σ) (some (.int (tAddr σ x 99 1 0))) 0 0 (hput D h a σ) := by
  refine CT.of (L := [(0, .ref (a + 21)), (1, .int x)]) (by decide +kernel) (Nat.le_of_ble_eq_true rfl) rfl ?_
  intro P E S0 M0 AR BL ME CO X hr hnm
  refine j_iconst X (v := 0) dX7_addressOf_0 (by decide) ?_
  refine j_istore_n X (L' := [(2, .int 0), (0, .ref (a + 21)), (1, .int x)]) dX7_addressOf_1 rfl (by decide) rfl ?_
  refine j_iconst X (v := 1) dX7_addressOf_2 (by decide) ?_
  refine j_istore_n X (L' := [(3, .int 1), (2, .int 0), (0, .ref (a + 21)), (1, .int x)]) dX7_addressOf_3 rfl (by decide) rfl ?_
  have loop : ∀ (n k : Nat) (b : Int32), k + n = 100 → tAddr σ x n k b = tAddr σ x 99 1 0 → J P l E { frames := 1, cells := 0, slots := 0, locals := 21 } S0 M0 AR BL ME CO D B 4 (MQ BL (QC (some (.int (tAddr σ x 99 1 0))) D B (z + 0) (hput D h a σ)) AR S0 0 0 (aB B)) 0 0 z (hput D h a σ) [(0, .ref (a + 21)), (1, .int x), (2, .int b), (3, .int (nI k))] [] 4 := by
    intro n
    induction n with
    | zero =>
      intro k b hk hq
      obtain rfl : k = 100 := by omega
      refine j_iload_n X 3 dX7_addressOf_4 rfl rfl ?_
      refine j_bipush X (v := 99) dX7_addressOf_5 (by decide) ?_
      refine j_icmp_gt X (tgt := 39) dX7_addressOf_7 (by decide) (fun c_7 => ?_) (fun c_7 => absurd (by decide) c_7)
      refine j_bipush X (v := (-4)) dX7_addressOf_39 (by decide) ?_
      exact j_iret X hr rfl (by rw [← hq]; rfl) rfl rfl dX7_addressOf_41
    | succ n ih =>
      intro k b hk hq
      have hlt : ¬ 99 < nI k := nle_lit (b := 99) (by omega) (by decide)
      refine j_iload_n X 3 dX7_addressOf_4 rfl rfl ?_
      refine j_bipush X (v := 99) dX7_addressOf_5 (by decide) ?_
      refine j_icmp_gt X (tgt := 39) dX7_addressOf_7 (by decide) (fun c_7 => absurd c_7 hlt) (fun c_7 => ?_)
      refine j_aload_n X 0 dX7_addressOf_10 rfl rfl ?_
      refine j_get X fG_RX7_14 (hput_k 21 (by decide)) rfl rfl dX7_addressOf_11 ?_
      refine j_iload_n X 3 dX7_addressOf_14 rfl rfl ?_
      refine j_callVi X (rest := []) (s_at9 l) m_yX5_at kM_RX7_35 (hput_k 22 (by decide)) rfl rfl rfl rfl rfl (Nat.le_of_ble_eq_true rfl) ⟨Nat.le_of_ble_eq_true rfl, Nat.le_of_ble_eq_true rfl, Nat.le_of_ble_eq_true rfl, Nat.le_of_ble_eq_true rfl⟩ dX7_addressOf_15 ?_
      refine j_bipush X (v := (-4)) dX7_addressOf_18 (by decide) ?_
      refine j_icmp_eq X (tgt := 33) dX7_addressOf_20 (by decide) (fun c_20 => ?_) (fun c_20 => ?_)
      · obtain ⟨v1, ev1⟩ : ∃ y : Int32, (nI k) + 1 = y := ⟨_, rfl⟩
        refine j_iinc X 3 (k := 1) (v := v1) (L' := [(3, .int v1), (0, .ref (a + 21)), (1, .int x), (2, .int b)]) dX7_addressOf_33 rfl (by decide) (by decide) ev1 rfl ?_
        refine j_goto X (tgt := 4) dX7_addressOf_36 (by decide) ?_
        refine j_sub [1, 2, 3, 0] (L' := [(0, .ref (a + 21)), (1, .int x), (2, .int b), (3, .int (nI (k + 1)))]) (by subst ev1; first | rfl | (rw [nI_succ]; rfl)) ?_
        exact ih (k + 1) b (by omega) (by rw [← hq]; simp only [tAddr]; rw [if_pos c_20])
      · refine j_iload_n X 2 dX7_addressOf_23 rfl rfl ?_
        refine j_iload_n X 1 dX7_addressOf_24 rfl rfl ?_
        refine j_icmp_ne X (tgt := 30) dX7_addressOf_25 (by decide) (fun c_25 => ?_) (fun c_25 => ?_)
        · obtain ⟨v2, ev2⟩ : ∃ y : Int32, b + 1 = y := ⟨_, rfl⟩
          refine j_iinc X 2 (k := 1) (v := v2) (L' := [(2, .int v2), (0, .ref (a + 21)), (1, .int x), (3, .int (nI k))]) dX7_addressOf_30 rfl (by decide) (by decide) ev2 rfl ?_
          obtain ⟨v3, ev3⟩ : ∃ y : Int32, (nI k) + 1 = y := ⟨_, rfl⟩
          refine j_iinc X 3 (k := 1) (v := v3) (L' := [(3, .int v3), (2, .int v2), (0, .ref (a + 21)), (1, .int x)]) dX7_addressOf_33 rfl (by decide) (by decide) ev3 rfl ?_
          refine j_goto X (tgt := 4) dX7_addressOf_36 (by decide) ?_
          refine j_sub [2, 3, 1, 0] (L' := [(0, .ref (a + 21)), (1, .int x), (2, .int (b + 1)), (3, .int (nI (k + 1)))]) (by subst ev3 ev2; first | rfl | (rw [nI_succ]; rfl)) ?_
          exact ih (k + 1) (b + 1) (by omega) (by rw [← hq]; simp only [tAddr]; rw [if_neg c_20, if_neg c_25])
        · refine j_iload_n X 3 dX7_addressOf_28 rfl rfl ?_
          exact j_iret X hr rfl (by rw [← hq]; simp only [tAddr]; rw [if_neg c_20, if_pos c_25]) rfl rfl dX7_addressOf_29
  refine j_sub [2, 3, 1, 0] (L' := [(0, .ref (a + 21)), (1, .int x), (2, .int 0), (3, .int (nI 1))]) rfl ?_
  exact loop 99 1 0 rfl rfl
set_option maxRecDepth 100000 in
set_option maxHeartbeats 8000000 in
theorem c_X2_add (l : Launch) {D : DD} {B z : Nat} {h : HF} {a : Nat} {σ : St} {x t : Int32} : CT l yX2_add cX2_add 3 none 1 22 [.ref (a + 26), .int x, .int t] D B z (hput D h a σ) none 0 0 (hput D h a (mAdd σ x t)) := by
  refine CT.of (L := [(0, .ref (a + 26)), (1, .int x), (2, .int t)]) (by decide +kernel) (Nat.le_of_ble_eq_true rfl) rfl ?_
  intro P E S0 M0 AR BL ME CO X hr hnm
  refine j_aload_n X 0 dX2_add_0 rfl rfl ?_
  refine j_get X fG_RX2_16 (hput_k 26 (by decide)) rfl rfl dX2_add_1 ?_
  refine j_iload_n X 2 dX2_add_4 rfl rfl ?_
  refine j_bipush X (v := 10) dX2_add_5 (by decide) ?_
  refine j_irem X dX2_add_7 (by decide) ?_
  refine j_bipush X (v := 100) dX2_add_8 (by decide) ?_
  refine j_imul X dX2_add_10 ?_
  refine j_iload_n X 1 dX2_add_11 rfl rfl ?_
  refine j_iadd X dX2_add_12 ?_
  refine j_iconst X (v := 1) dX2_add_13 (by decide) ?_
  refine j_callVv X (rest := []) (s_add11 l) m_yX5_add kM_RX2_24 (hput_k 27 (by decide)) rfl rfl rfl rfl rfl (Nat.le_of_ble_eq_true rfl) ⟨Nat.le_of_ble_eq_true rfl, Nat.le_of_ble_eq_true rfl, Nat.le_of_ble_eq_true rfl, Nat.le_of_ble_eq_true rfl⟩ dX2_add_14 ?_
  exact j_vret X hr rfl (by first | with_reducible rfl | (simp only [mAdd, mSec]; done) | (simp only [mAdd, mSec]; rfl) | rfl) dX2_add_17
set_option maxRecDepth 100000 in
set_option maxHeartbeats 8000000 in
theorem c_X2_latelyOf (l : Launch) {D : DD} {B z : Nat} {h : HF} {a : Nat} {σ : St} {x : Int32} : CT l yX2_latelyOf cX2_latelyOf 4 (some .int) 1 21 [.ref (a + 26), .int x] D B z (hput D h a σ) (some (.int (mLate σ x 10))) 0 0 (hput D h a σ) := by
  refine CT.of (L := [(0, .ref (a + 26)), (1, .int x)]) (by decide +kernel) (Nat.le_of_ble_eq_true rfl) rfl ?_
  intro P E S0 M0 AR BL ME CO X hr hnm
  refine j_iconst X (v := 0) dX2_latelyOf_0 (by decide) ?_
  refine j_istore_n X (L' := [(2, .int 0), (0, .ref (a + 26)), (1, .int x)]) dX2_latelyOf_1 rfl (by decide) rfl ?_
  refine j_iconst X (v := 0) dX2_latelyOf_2 (by decide) ?_
  refine j_istore_n X (L' := [(3, .int 0), (2, .int 0), (0, .ref (a + 26)), (1, .int x)]) dX2_latelyOf_3 rfl (by decide) rfl ?_
  have loop4 : ∀ (n k : Nat), k + n = 10 → J P l E { frames := 1, cells := 0, slots := 0, locals := 21 } S0 M0 AR BL ME CO D B 4 (MQ BL (QC (some (.int (mLate σ x 10))) D B (z + 0) (hput D h a σ)) AR S0 0 0 (aB B)) 0 0 z (hput D h a σ) [(0, .ref (a + 26)), (1, .int x), (2, .int (mLate σ x k)), (3, .int (nI k))] [] 4 := by
    intro n
    induction n with
    | zero =>
      intro k hk
      obtain rfl : k = 10 := by omega
      refine j_iload_n X 3 dX2_latelyOf_4 rfl rfl ?_
      refine j_bipush X (v := 10) dX2_latelyOf_5 (by decide) ?_
      refine j_icmp_ge X (tgt := 32) dX2_latelyOf_7 (by decide) (fun c_7 => ?_) (fun c_7 => absurd c_7 (by decide))
      refine j_iload_n X 2 dX2_latelyOf_32 rfl rfl ?_
      exact j_iret X hr rfl (by first | with_reducible rfl | (simp only [if_neg c_7]; done) | (simp only [if_neg c_7]; rfl) | rfl) rfl (by first | with_reducible rfl | (simp only [if_neg c_7]; done) | (simp only [if_neg c_7]; rfl) | rfl) dX2_latelyOf_33
    | succ n ih =>
      intro k hk
      have hlt : nI k < 10 := nlt_lit (b := 10) (by omega) (by decide)
      refine j_iload_n X 3 dX2_latelyOf_4 rfl rfl ?_
      refine j_bipush X (v := 10) dX2_latelyOf_5 (by decide) ?_
      refine j_icmp_ge X (tgt := 32) dX2_latelyOf_7 (by decide) (fun c_7 => absurd hlt c_7) (fun c_7 => ?_)
      refine j_iload_n X 2 dX2_latelyOf_10 rfl rfl ?_
      refine j_aload_n X 0 dX2_latelyOf_11 rfl rfl ?_
      refine j_get X fG_RX2_16 (hput_k 26 (by decide)) rfl rfl dX2_latelyOf_12 ?_
      refine j_iload_n X 3 dX2_latelyOf_15 rfl rfl ?_
      refine j_bipush X (v := 100) dX2_latelyOf_16 (by decide) ?_
      refine j_imul X dX2_latelyOf_18 ?_
      refine j_iload_n X 1 dX2_latelyOf_19 rfl rfl ?_
      refine j_iadd X dX2_latelyOf_20 ?_
      refine j_callVi X (rest := [.int (mLate σ x k)]) (s_at11 l) m_yX5_at kM_RX2_28 (hput_k 27 (by decide)) rfl rfl rfl rfl rfl (Nat.le_of_ble_eq_true rfl) ⟨Nat.le_of_ble_eq_true rfl, Nat.le_of_ble_eq_true rfl, Nat.le_of_ble_eq_true rfl, Nat.le_of_ble_eq_true rfl⟩ dX2_latelyOf_21 ?_
      refine j_iadd X dX2_latelyOf_24 ?_
      refine j_tops (fun v1 ev1 => ?_)
      refine j_istore_n X (L' := [(2, .int v1), (0, .ref (a + 26)), (1, .int x), (3, .int (nI k))]) dX2_latelyOf_25 rfl (by decide) rfl ?_
      obtain ⟨v2, ev2⟩ : ∃ y : Int32, (nI k) + 1 = y := ⟨_, rfl⟩
      refine j_iinc X 3 (k := 1) (v := v2) (L' := [(3, .int v2), (2, .int v1), (0, .ref (a + 26)), (1, .int x)]) dX2_latelyOf_26 rfl (by decide) (by decide) ev2 rfl ?_
      refine j_goto X (tgt := 4) dX2_latelyOf_29 (by decide) ?_
      refine j_sub [2, 3, 1, 0] (L' := [(0, .ref (a + 26)), (1, .int x), (2, .int (mLate σ x (k + 1))), (3, .int (nI (k + 1)))]) (by subst ev2 ev1; first | with_reducible rfl | (simp only [mLate, nI_succ k, if_pos c_7]; done) | (simp only [mLate, nI_succ k, if_pos c_7]; rfl) | rfl) ?_
      exact ih (k + 1) (by omega)
  refine j_sub [2, 3, 1, 0] (L' := [(0, .ref (a + 26)), (1, .int x), (2, .int (mLate σ x 0)), (3, .int (nI 0))]) (by first | with_reducible rfl | (simp only [mLate]; done) | (simp only [mLate]; rfl) | rfl) ?_
  exact loop4 10 0 rfl
set_option maxRecDepth 100000 in
set_option maxHeartbeats 8000000 in
theorem c_X2_beginSecond (l : Launch) {D : DD} {B z : Nat} {h : HF} {a : Nat} {σ : St} {t : Int32} : CT l yX2_beginSecond cX2_beginSecond 2 none 3 69 [.ref (a + 26), .int t] D B z (hput D h a σ) none 0 0 (hput D h a (mBegin σ t)) := by
  refine CT.of (L := [(0, .ref (a + 26)), (1, .int t)]) (by decide +kernel) (Nat.le_of_ble_eq_true rfl) rfl ?_
  intro P E S0 M0 AR BL ME CO X hr hnm
  refine j_aload_n X 0 dX2_beginSecond_0 rfl rfl ?_
  refine j_get X fG_RX2_16 (hput_k 26 (by decide)) rfl rfl dX2_beginSecond_1 ?_
  refine j_iload_n X 1 dX2_beginSecond_4 rfl rfl ?_
  refine j_bipush X (v := 10) dX2_beginSecond_5 (by decide) ?_
  refine j_irem X dX2_beginSecond_7 (by decide) ?_
  refine j_bipush X (v := 100) dX2_beginSecond_8 (by decide) ?_
  refine j_imul X dX2_beginSecond_10 ?_
  refine j_bipush X (v := 100) dX2_beginSecond_11 (by decide) ?_
  refine j_iconst X (v := 0) dX2_beginSecond_13 (by decide) ?_
  refine j_callVv X (rest := []) (s_fill11 l) m_yX5_fill kM_RX2_32 (hput_k 27 (by decide)) rfl rfl rfl rfl rfl (Nat.le_of_ble_eq_true rfl) ⟨Nat.le_of_ble_eq_true rfl, Nat.le_of_ble_eq_true rfl, Nat.le_of_ble_eq_true rfl, Nat.le_of_ble_eq_true rfl⟩ dX2_beginSecond_14 ?_
  exact j_vret X hr rfl (by first | with_reducible rfl | (simp only [mBegin, mSec]; done) | (simp only [mBegin, mSec]; rfl) | rfl) dX2_beginSecond_17
