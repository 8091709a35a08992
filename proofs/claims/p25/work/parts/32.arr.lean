theorem xput_sk {D : DD} {h : HF} {b i : Nat} {S : Sy} (hi : i < 7) (k : Nat) (hk : k < 29) : xput D h b S (b + xoff i + k) = some (stCell D (b + xoff i) (S.1 i) k) := by
  have hx : xoff i + 29 ≤ 211 := by
    have c : i = 0 ∨ i = 1 ∨ i = 2 ∨ i = 3 ∨ i = 4 ∨ i = 5 ∨ i = 6 := by omega
    rcases c with rfl | rfl | rfl | rfl | rfl | rfl | rfl <;> decide
  rw [← xput_in (h := h) (b := b) hi k hk, Nat.add_assoc, xput_k _ (by omega)]
theorem x_at1 (l : Launch) {D : DD} {B z : Nat} {h : HF} {b : Nat} {S : Sy} {i : Int32} : CT l yX5_at cX5_at 2 (some .int) 0 0 [.ref (b + 209), .int i] D B z (xput D h b S) (some (.int (rAt 384 (S.2.2 1) i))) 0 0 (xput D h b S) := c_X5_at l (by decide) (xput_k 209 (by decide)) (xput_k 210 (by decide))
theorem x_put1 (l : Launch) {D : DD} {B z : Nat} {h : HF} {b : Nat} {S : Sy} {i v : Int32} : CT l yX5_put cX5_put 3 none 0 0 [.ref (b + 209), .int i, .int v] D B z (xput D h b S) none 0 0 (xput D h b (xPut S i v)) := by
  have w := c_X5_put l (D := D) (B := B) (z := z) (h := xput D h b S) (r := b + 209) (c := b + 210) (n := 384) (f := S.2.2 1) (i := i) (v := v) (by decide) (xput_k 209 (by decide)) (xput_k 210 (by decide))
  rw [xput_a1] at w
  exact w
theorem x_copy (l : Launch) {D : DD} {B z : Nat} {h : HF} {b i j : Nat} {S : Sy} (hi : i < 7) (hj : j < 7) (hij : i ≠ j) : CT l yX6_copyFrom cX6_copyFrom 2 none 3 64 [.ref (b + xoff i), .ref (b + xoff j)] D B z (xput D h b S) none 0 0 (xput D h b (xst S i (S.1 j))) := by
  have ap : ∀ i, i < 7 → ∀ j, j < 7 → i ≠ j → xoff j + 29 ≤ xoff i ∨ xoff i + 29 ≤ xoff j := by decide
  have ap2 := ap i hi j hj hij
  have w := c_X6_copyFrom l (D := D) (B := B) (z := z) (h := xput D h b S) (a := b + xoff i) (a2 := b + xoff j) (σ := S.1 i) (τ := S.1 j) (by omega) (fun k hk => xput_sk hj k hk)
  rw [xst_st hi, xst_st hi, xst_self] at w
  exact w
theorem lt_n8 {P : Nat → Prop} (h0 : P 0) (h1 : P 1) (h2 : P 2) (h3 : P 3) (h4 : P 4) (h5 : P 5) (h6 : P 6) (h7 : P 7) : ∀ j, j < 8 → P j := lt8 h0 h1 h2 h3 h4 h5 h6 h7
theorem lt_n3 {P : Nat → Prop} (h0 : P 0) (h1 : P 1) (h2 : P 2) : ∀ j, j < 3 → P j := by
  intro j hj
  have c : j = 0 ∨ j = 1 ∨ j = 2 := by omega
  rcases c with rfl | rfl | rfl <;> assumption
theorem lt_n15 {P : Nat → Prop} (h0 : P 0) (h1 : P 1) (h2 : P 2) (h3 : P 3) (h4 : P 4) (h5 : P 5) (h6 : P 6) (h7 : P 7) (h8 : P 8) (h9 : P 9) (h10 : P 10) (h11 : P 11) (h12 : P 12) (h13 : P 13) (h14 : P 14) : ∀ j, j < 15 → P j := by
  intro j hj
  rcases Nat.lt_or_ge j 8 with q | q
  · exact lt8 h0 h1 h2 h3 h4 h5 h6 h7 j q
  · have c : j = 8 ∨ j = 9 ∨ j = 10 ∨ j = 11 ∨ j = 12 ∨ j = 13 ∨ j = 14 := by omega
    rcases c with rfl | rfl | rfl | rfl | rfl | rfl | rfl <;> assumption
set_option maxRecDepth 100000 in
set_option maxHeartbeats 8000000 in
theorem c_X0_append (l : Launch) {D : DD} {B z : Nat} {h : HF} {b : Nat} {S : Sy} {p s d pr : Int32}  : CT l yX0_append cX0_append 6 none 1 22 [.ref (b + 208), .int p, .int s, .int d, .int pr] D B z (xput D h b S) none 0 0 (xput D h b (xApp S p s d pr)) := by
  refine CT.of (L := [(0, .ref (b + 208)), (1, .int p), (2, .int s), (3, .int d), (4, .int pr)]) (by decide +kernel) (Nat.le_of_ble_eq_true rfl) rfl ?_
  intro P E S0 M0 AR BL ME CO X hr hnm
  refine j_aload_n X 0 dX0_append_0 rfl rfl ?_
  refine j_get X fG_RX0_20 (xput_k 208 (by decide)) rfl rfl dX0_append_1 ?_
  refine j_bipush X (v := 96) dX0_append_4 (by decide) ?_
  refine j_icmp_lt X (tgt := 10) dX0_append_6 (by decide) (fun c_6 => ?_) (fun c_6 => ?_)
  · refine j_aload_n X 0 dX0_append_10 rfl rfl ?_
    refine j_get X fG_RX0_20 (xput_k 208 (by decide)) rfl rfl dX0_append_11 ?_
    refine j_iconst X (v := 4) dX0_append_14 (by decide) ?_
    refine j_imul X dX0_append_15 ?_
    refine j_tops (fun v1 ev1 => ?_)
    refine j_istore X (L' := [(5, .int v1), (0, .ref (b + 208)), (1, .int p), (2, .int s), (3, .int d), (4, .int pr)]) dX0_append_16 (by decide) rfl ?_
    refine j_aload_n X 1 dX0_append_18 rfl rfl ?_
    refine j_get X fG_RX0_16 (xput_k 208 (by decide)) rfl rfl dX0_append_19 ?_
    refine j_iload X 0 dX0_append_22 rfl ?_
    refine j_iconst X (v := 0) dX0_append_24 (by decide) ?_
    refine j_iadd X dX0_append_25 ?_
    refine j_iload_n X 3 dX0_append_26 rfl rfl ?_
    refine j_callVv X (rest := []) (x_put1 l) m_yX5_put kM_RX0_24 (xput_k 209 (by decide)) rfl rfl rfl rfl rfl (Nat.le_of_ble_eq_true rfl) ⟨Nat.le_of_ble_eq_true rfl, Nat.le_of_ble_eq_true rfl, Nat.le_of_ble_eq_true rfl, Nat.le_of_ble_eq_true rfl⟩ dX0_append_27 ?_
    refine j_aload_n X 1 dX0_append_30 rfl rfl ?_
    refine j_get X fG_RX0_16 (xput_k 208 (by decide)) rfl rfl dX0_append_31 ?_
    refine j_iload X 0 dX0_append_34 rfl ?_
    refine j_iconst X (v := 1) dX0_append_36 (by decide) ?_
    refine j_iadd X dX0_append_37 ?_
    refine j_iload_n X 4 dX0_append_38 rfl rfl ?_
    refine j_callVv X (rest := []) (x_put1 l) m_yX5_put kM_RX0_24 (xput_k 209 (by decide)) rfl rfl rfl rfl rfl (Nat.le_of_ble_eq_true rfl) ⟨Nat.le_of_ble_eq_true rfl, Nat.le_of_ble_eq_true rfl, Nat.le_of_ble_eq_true rfl, Nat.le_of_ble_eq_true rfl⟩ dX0_append_39 ?_
    refine j_aload_n X 1 dX0_append_42 rfl rfl ?_
    refine j_get X fG_RX0_16 (xput_k 208 (by decide)) rfl rfl dX0_append_43 ?_
    refine j_iload X 0 dX0_append_46 rfl ?_
    refine j_iconst X (v := 2) dX0_append_48 (by decide) ?_
    refine j_iadd X dX0_append_49 ?_
    refine j_iload X 5 dX0_append_50 rfl ?_
    refine j_callVv X (rest := []) (x_put1 l) m_yX5_put kM_RX0_24 (xput_k 209 (by decide)) rfl rfl rfl rfl rfl (Nat.le_of_ble_eq_true rfl) ⟨Nat.le_of_ble_eq_true rfl, Nat.le_of_ble_eq_true rfl, Nat.le_of_ble_eq_true rfl, Nat.le_of_ble_eq_true rfl⟩ dX0_append_52 ?_
    refine j_aload_n X 1 dX0_append_55 rfl rfl ?_
    refine j_get X fG_RX0_16 (xput_k 208 (by decide)) rfl rfl dX0_append_56 ?_
    refine j_iload X 0 dX0_append_59 rfl ?_
    refine j_iconst X (v := 3) dX0_append_61 (by decide) ?_
    refine j_iadd X dX0_append_62 ?_
    refine j_iload_n X 2 dX0_append_63 rfl rfl ?_
    refine j_callVv X (rest := []) (x_put1 l) m_yX5_put kM_RX0_24 (xput_k 209 (by decide)) rfl rfl rfl rfl rfl (Nat.le_of_ble_eq_true rfl) ⟨Nat.le_of_ble_eq_true rfl, Nat.le_of_ble_eq_true rfl, Nat.le_of_ble_eq_true rfl, Nat.le_of_ble_eq_true rfl⟩ dX0_append_64 ?_
    refine j_aload_n X 1 dX0_append_67 rfl rfl ?_
    refine j_dup X dX0_append_68 rfl ?_
    refine j_get X fG_RX0_20 (xput_k 208 (by decide)) rfl rfl dX0_append_69 ?_
    refine j_iconst X (v := 1) dX0_append_72 (by decide) ?_
    refine j_iadd X dX0_append_73 ?_
    refine j_put X fG_RX0_20 fW_0_1 (xput_k 208 (by decide)) rfl rfl rfl (Nat.le_of_ble_eq_true rfl) dX0_append_74 ?_
    refine j_heap (h' := xput D h b (xsc (xPut (xPut (xPut (xPut S (v1 + 0) s) (v1 + 1) d) (v1 + 2) pr) (v1 + 3) p) 5 (((xPut (xPut (xPut (xPut S (v1 + 0) s) (v1 + 1) d) (v1 + 2) pr) (v1 + 3) p).2.1 5) + 1))) xput_s5 ?_
    exact j_vret X hr rfl (by subst ev1; first | with_reducible rfl | (simp only [xApp, xApp4, if_pos c_6]; done) | (simp only [xApp, xApp4, if_pos c_6]; rfl) | rfl) dX0_append_77
  · exact j_vret X hr rfl (by first | with_reducible rfl | (simp only [xApp, xApp4, if_neg c_6]; done) | (simp only [xApp, xApp4, if_neg c_6]; rfl) | rfl) dX0_append_9
set_option maxRecDepth 100000 in
set_option maxHeartbeats 8000000 in
theorem c_X0_partOf (l : Launch) {D : DD} {B z : Nat} {h : HF} {b : Nat} {S : Sy} {k w : Int32}  : CT l yX0_partOf cX0_partOf 3 (some .int) 1 21 [.ref (b + 208), .int k, .int w] D B z (xput D h b S) (some (.int (xPart S k w))) 0 0 (xput D h b S) := by
  refine CT.of (L := [(0, .ref (b + 208)), (1, .int k), (2, .int w)]) (by decide +kernel) (Nat.le_of_ble_eq_true rfl) rfl ?_
  intro P E S0 M0 AR BL ME CO X hr hnm
  refine j_aload_n X 0 dX0_partOf_0 rfl rfl ?_
  refine j_get X fG_RX0_16 (xput_k 208 (by decide)) rfl rfl dX0_partOf_1 ?_
  refine j_iload_n X 1 dX0_partOf_4 rfl rfl ?_
  refine j_iconst X (v := 4) dX0_partOf_5 (by decide) ?_
  refine j_imul X dX0_partOf_6 ?_
  refine j_iload_n X 2 dX0_partOf_7 rfl rfl ?_
  refine j_iadd X dX0_partOf_8 ?_
  refine j_callVi X (rest := []) (x_at1 l) m_yX5_at kM_RX0_28 (xput_k 209 (by decide)) rfl rfl rfl rfl rfl (Nat.le_of_ble_eq_true rfl) ⟨Nat.le_of_ble_eq_true rfl, Nat.le_of_ble_eq_true rfl, Nat.le_of_ble_eq_true rfl, Nat.le_of_ble_eq_true rfl⟩ dX0_partOf_9 ?_
  exact j_iret X hr rfl (by first | with_reducible rfl | (simp only [xPart]; done) | (simp only [xPart]; rfl) | rfl) rfl (by first | with_reducible rfl | (simp only [xPart]; done) | (simp only [xPart]; rfl) | rfl) dX0_partOf_12
