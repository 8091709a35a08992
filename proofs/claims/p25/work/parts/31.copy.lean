theorem hput_other {D : DD} {h : HF} {a a2 : Nat} {σ τ : St} (ap : a2 + 29 ≤ a ∨ a + 29 ≤ a2) (ho : ∀ k, k < 29 → h (a2 + k) = some (stCell D a2 τ k)) (k : Nat) (hk : k < 29) : hput D h a σ (a2 + k) = some (stCell D a2 τ k) := by
  rw [hput_out (by omega)]
  exact ho k hk
theorem hput_congr {D : DD} {h : HF} {a : Nat} {σ τ : St} (e : ∀ k, k < 29 → stCell D a σ k = stCell D a τ k) : hput D h a σ = hput D h a τ := by
  funext q
  unfold hput
  by_cases c : a ≤ q ∧ q < a + 29
  · rw [if_pos c, if_pos c, e _ (by omega)]
  · rw [if_neg c, if_neg c]
theorem s_copy0 (l : Launch) {D : DD} {B z : Nat} {h : HF} {a a2 : Nat} {σ τ : St} (ap : a2 + 29 ≤ a ∨ a + 29 ≤ a2) (ho : ∀ k, k < 29 → h (a2 + k) = some (stCell D a2 τ k)) : CT l yX5_copyFrom cX5_copyFrom 2 none 1 22 [.ref (a + 1), .ref (a2 + 1)] D B z (hput D h a σ) none 0 0 (hput D h a (rput σ 0 (τ.1 0))) := by
  have w := c_X5_copyFrom l (D := D) (B := B) (z := z) (h := hput D h a σ) (r := a + 1) (c := a + 2) (r2 := a2 + 1) (c2 := a2 + 2) (n := 4) (f := σ.1 0) (g := τ.1 0) (by decide) (hput_k 1 (by decide)) (hput_k 2 (by decide)) (hput_other ap ho 1 (by decide)) (hput_other ap ho 2 (by decide))
  rw [hput_r0] at w
  exact w
theorem s_copy1 (l : Launch) {D : DD} {B z : Nat} {h : HF} {a a2 : Nat} {σ τ : St} (ap : a2 + 29 ≤ a ∨ a + 29 ≤ a2) (ho : ∀ k, k < 29 → h (a2 + k) = some (stCell D a2 τ k)) : CT l yX5_copyFrom cX5_copyFrom 2 none 1 22 [.ref (a + 4), .ref (a2 + 4)] D B z (hput D h a σ) none 0 0 (hput D h a (rput σ 1 (τ.1 1))) := by
  have w := c_X5_copyFrom l (D := D) (B := B) (z := z) (h := hput D h a σ) (r := a + 4) (c := a + 5) (r2 := a2 + 4) (c2 := a2 + 5) (n := 8) (f := σ.1 1) (g := τ.1 1) (by decide) (hput_k 4 (by decide)) (hput_k 5 (by decide)) (hput_other ap ho 4 (by decide)) (hput_other ap ho 5 (by decide))
  rw [hput_r1] at w
  exact w
theorem s_copy2 (l : Launch) {D : DD} {B z : Nat} {h : HF} {a a2 : Nat} {σ τ : St} (ap : a2 + 29 ≤ a ∨ a + 29 ≤ a2) (ho : ∀ k, k < 29 → h (a2 + k) = some (stCell D a2 τ k)) : CT l yX5_copyFrom cX5_copyFrom 2 none 1 22 [.ref (a + 6), .ref (a2 + 6)] D B z (hput D h a σ) none 0 0 (hput D h a (rput σ 2 (τ.1 2))) := by
  have w := c_X5_copyFrom l (D := D) (B := B) (z := z) (h := hput D h a σ) (r := a + 6) (c := a + 7) (r2 := a2 + 6) (c2 := a2 + 7) (n := 8) (f := σ.1 2) (g := τ.1 2) (by decide) (hput_k 6 (by decide)) (hput_k 7 (by decide)) (hput_other ap ho 6 (by decide)) (hput_other ap ho 7 (by decide))
  rw [hput_r2] at w
  exact w
theorem s_copy3 (l : Launch) {D : DD} {B z : Nat} {h : HF} {a a2 : Nat} {σ τ : St} (ap : a2 + 29 ≤ a ∨ a + 29 ≤ a2) (ho : ∀ k, k < 29 → h (a2 + k) = some (stCell D a2 τ k)) : CT l yX5_copyFrom cX5_copyFrom 2 none 1 22 [.ref (a + 8), .ref (a2 + 8)] D B z (hput D h a σ) none 0 0 (hput D h a (rput σ 3 (τ.1 3))) := by
  have w := c_X5_copyFrom l (D := D) (B := B) (z := z) (h := hput D h a σ) (r := a + 8) (c := a + 9) (r2 := a2 + 8) (c2 := a2 + 9) (n := 8) (f := σ.1 3) (g := τ.1 3) (by decide) (hput_k 8 (by decide)) (hput_k 9 (by decide)) (hput_other ap ho 8 (by decide)) (hput_other ap ho 9 (by decide))
  rw [hput_r3] at w
  exact w
theorem s_copy4 (l : Launch) {D : DD} {B z : Nat} {h : HF} {a a2 : Nat} {σ τ : St} (ap : a2 + 29 ≤ a ∨ a + 29 ≤ a2) (ho : ∀ k, k < 29 → h (a2 + k) = some (stCell D a2 τ k)) : CT l yX5_copyFrom cX5_copyFrom 2 none 1 22 [.ref (a + 10), .ref (a2 + 10)] D B z (hput D h a σ) none 0 0 (hput D h a (rput σ 4 (τ.1 4))) := by
  have w := c_X5_copyFrom l (D := D) (B := B) (z := z) (h := hput D h a σ) (r := a + 10) (c := a + 11) (r2 := a2 + 10) (c2 := a2 + 11) (n := 8) (f := σ.1 4) (g := τ.1 4) (by decide) (hput_k 10 (by decide)) (hput_k 11 (by decide)) (hput_other ap ho 10 (by decide)) (hput_other ap ho 11 (by decide))
  rw [hput_r4] at w
  exact w
theorem s_copy5 (l : Launch) {D : DD} {B z : Nat} {h : HF} {a a2 : Nat} {σ τ : St} (ap : a2 + 29 ≤ a ∨ a + 29 ≤ a2) (ho : ∀ k, k < 29 → h (a2 + k) = some (stCell D a2 τ k)) : CT l yX5_copyFrom cX5_copyFrom 2 none 1 22 [.ref (a + 12), .ref (a2 + 12)] D B z (hput D h a σ) none 0 0 (hput D h a (rput σ 5 (τ.1 5))) := by
  have w := c_X5_copyFrom l (D := D) (B := B) (z := z) (h := hput D h a σ) (r := a + 12) (c := a + 13) (r2 := a2 + 12) (c2 := a2 + 13) (n := 8) (f := σ.1 5) (g := τ.1 5) (by decide) (hput_k 12 (by decide)) (hput_k 13 (by decide)) (hput_other ap ho 12 (by decide)) (hput_other ap ho 13 (by decide))
  rw [hput_r5] at w
  exact w
theorem s_copy6 (l : Launch) {D : DD} {B z : Nat} {h : HF} {a a2 : Nat} {σ τ : St} (ap : a2 + 29 ≤ a ∨ a + 29 ≤ a2) (ho : ∀ k, k < 29 → h (a2 + k) = some (stCell D a2 τ k)) : CT l yX5_copyFrom cX5_copyFrom 2 none 1 22 [.ref (a + 14), .ref (a2 + 14)] D B z (hput D h a σ) none 0 0 (hput D h a (rput σ 6 (τ.1 6))) := by
  have w := c_X5_copyFrom l (D := D) (B := B) (z := z) (h := hput D h a σ) (r := a + 14) (c := a + 15) (r2 := a2 + 14) (c2 := a2 + 15) (n := 88) (f := σ.1 6) (g := τ.1 6) (by decide) (hput_k 14 (by decide)) (hput_k 15 (by decide)) (hput_other ap ho 14 (by decide)) (hput_other ap ho 15 (by decide))
  rw [hput_r6] at w
  exact w
theorem s_copy7 (l : Launch) {D : DD} {B z : Nat} {h : HF} {a a2 : Nat} {σ τ : St} (ap : a2 + 29 ≤ a ∨ a + 29 ≤ a2) (ho : ∀ k, k < 29 → h (a2 + k) = some (stCell D a2 τ k)) : CT l yX5_copyFrom cX5_copyFrom 2 none 1 22 [.ref (a + 17), .ref (a2 + 17)] D B z (hput D h a σ) none 0 0 (hput D h a (rput σ 7 (τ.1 7))) := by
  have w := c_X5_copyFrom l (D := D) (B := B) (z := z) (h := hput D h a σ) (r := a + 17) (c := a + 18) (r2 := a2 + 17) (c2 := a2 + 18) (n := 8) (f := σ.1 7) (g := τ.1 7) (by decide) (hput_k 17 (by decide)) (hput_k 18 (by decide)) (hput_other ap ho 17 (by decide)) (hput_other ap ho 18 (by decide))
  rw [hput_r7] at w
  exact w
theorem s_copy8 (l : Launch) {D : DD} {B z : Nat} {h : HF} {a a2 : Nat} {σ τ : St} (ap : a2 + 29 ≤ a ∨ a + 29 ≤ a2) (ho : ∀ k, k < 29 → h (a2 + k) = some (stCell D a2 τ k)) : CT l yX5_copyFrom cX5_copyFrom 2 none 1 22 [.ref (a + 19), .ref (a2 + 19)] D B z (hput D h a σ) none 0 0 (hput D h a (rput σ 8 (τ.1 8))) := by
  have w := c_X5_copyFrom l (D := D) (B := B) (z := z) (h := hput D h a σ) (r := a + 19) (c := a + 20) (r2 := a2 + 19) (c2 := a2 + 20) (n := 384) (f := σ.1 8) (g := τ.1 8) (by decide) (hput_k 19 (by decide)) (hput_k 20 (by decide)) (hput_other ap ho 19 (by decide)) (hput_other ap ho 20 (by decide))
  rw [hput_r8] at w
  exact w
theorem s_copy9 (l : Launch) {D : DD} {B z : Nat} {h : HF} {a a2 : Nat} {σ τ : St} (ap : a2 + 29 ≤ a ∨ a + 29 ≤ a2) (ho : ∀ k, k < 29 → h (a2 + k) = some (stCell D a2 τ k)) : CT l yX5_copyFrom cX5_copyFrom 2 none 1 22 [.ref (a + 22), .ref (a2 + 22)] D B z (hput D h a σ) none 0 0 (hput D h a (rput σ 9 (τ.1 9))) := by
  have w := c_X5_copyFrom l (D := D) (B := B) (z := z) (h := hput D h a σ) (r := a + 22) (c := a + 23) (r2 := a2 + 22) (c2 := a2 + 23) (n := 100) (f := σ.1 9) (g := τ.1 9) (by decide) (hput_k 22 (by decide)) (hput_k 23 (by decide)) (hput_other ap ho 22 (by decide)) (hput_other ap ho 23 (by decide))
  rw [hput_r9] at w
  exact w
theorem s_copy10 (l : Launch) {D : DD} {B z : Nat} {h : HF} {a a2 : Nat} {σ τ : St} (ap : a2 + 29 ≤ a ∨ a + 29 ≤ a2) (ho : ∀ k, k < 29 → h (a2 + k) = some (stCell D a2 τ k)) : CT l yX5_copyFrom cX5_copyFrom 2 none 1 22 [.ref (a + 24), .ref (a2 + 24)] D B z (hput D h a σ) none 0 0 (hput D h a (rput σ 10 (τ.1 10))) := by
  have w := c_X5_copyFrom l (D := D) (B := B) (z := z) (h := hput D h a σ) (r := a + 24) (c := a + 25) (r2 := a2 + 24) (c2 := a2 + 25) (n := 100) (f := σ.1 10) (g := τ.1 10) (by decide) (hput_k 24 (by decide)) (hput_k 25 (by decide)) (hput_other ap ho 24 (by decide)) (hput_other ap ho 25 (by decide))
  rw [hput_r10] at w
  exact w
theorem s_copy11 (l : Launch) {D : DD} {B z : Nat} {h : HF} {a a2 : Nat} {σ τ : St} (ap : a2 + 29 ≤ a ∨ a + 29 ≤ a2) (ho : ∀ k, k < 29 → h (a2 + k) = some (stCell D a2 τ k)) : CT l yX5_copyFrom cX5_copyFrom 2 none 1 22 [.ref (a + 27), .ref (a2 + 27)] D B z (hput D h a σ) none 0 0 (hput D h a (rput σ 11 (τ.1 11))) := by
  have w := c_X5_copyFrom l (D := D) (B := B) (z := z) (h := hput D h a σ) (r := a + 27) (c := a + 28) (r2 := a2 + 27) (c2 := a2 + 28) (n := 1000) (f := σ.1 11) (g := τ.1 11) (by decide) (hput_k 27 (by decide)) (hput_k 28 (by decide)) (hput_other ap ho 27 (by decide)) (hput_other ap ho 28 (by decide))
  rw [hput_r11] at w
  exact w
set_option maxRecDepth 100000 in
set_option maxHeartbeats 8000000 in
theorem c_X3_copyFrom (l : Launch) {D : DD} {B z : Nat} {h : HF} {a a2 : Nat} {σ τ : St} (ap : a2 + 29 ≤ a ∨ a + 29 ≤ a2) (ho : ∀ k, k < 29 → h (a2 + k) = some (stCell D a2 τ k)) : CT l yX3_copyFrom cX3_copyFrom 2 none 2 43 [.ref (a + 3), .ref (a2 + 3)] D B z (hput D h a σ) none 0 0 (hput D h a (rput (rput (rput (rput (rput (rput σ 1 (τ.1 1)) 2 (τ.1 2)) 3 (τ.1 3)) 4 (τ.1 4)) 5 (τ.1 5)) 6 (τ.1 6))) := by
  refine CT.of (L := [(0, .ref (a + 3)), (1, .ref (a2 + 3))]) (by decide +kernel) (Nat.le_of_ble_eq_true rfl) rfl ?_
  intro P E S0 M0 AR BL ME CO X hr hnm
  refine j_aload_n X 0 dX3_copyFrom_0 rfl rfl ?_
  refine j_get X fG_RX3_14 (hput_k 3 (by decide)) rfl rfl dX3_copyFrom_1 ?_
  refine j_aload_n X 1 dX3_copyFrom_4 rfl rfl ?_
  refine j_get X fG_RX3_14 (hput_other ap ho 3 (by decide)) rfl rfl dX3_copyFrom_5 ?_
  refine j_callVv X (rest := []) (s_copy1 l ap ho) m_yX5_copyFrom kM_RX3_39 (hput_k 4 (by decide)) rfl rfl rfl rfl rfl (Nat.le_of_ble_eq_true rfl) ⟨Nat.le_of_ble_eq_true rfl, Nat.le_of_ble_eq_true rfl, Nat.le_of_ble_eq_true rfl, Nat.le_of_ble_eq_true rfl⟩ dX3_copyFrom_8 ?_
  refine j_aload_n X 0 dX3_copyFrom_11 rfl rfl ?_
  refine j_get X fG_RX3_20 (hput_k 3 (by decide)) rfl rfl dX3_copyFrom_12 ?_
  refine j_aload_n X 1 dX3_copyFrom_15 rfl rfl ?_
  refine j_get X fG_RX3_20 (hput_other ap ho 3 (by decide)) rfl rfl dX3_copyFrom_16 ?_
  refine j_callVv X (rest := []) (s_copy2 l ap ho) m_yX5_copyFrom kM_RX3_39 (hput_k 6 (by decide)) rfl rfl rfl rfl rfl (Nat.le_of_ble_eq_true rfl) ⟨Nat.le_of_ble_eq_true rfl, Nat.le_of_ble_eq_true rfl, Nat.le_of_ble_eq_true rfl, Nat.le_of_ble_eq_true rfl⟩ dX3_copyFrom_19 ?_
  refine j_aload_n X 0 dX3_copyFrom_22 rfl rfl ?_
  refine j_get X fG_RX3_23 (hput_k 3 (by decide)) rfl rfl dX3_copyFrom_23 ?_
  refine j_aload_n X 1 dX3_copyFrom_26 rfl rfl ?_
  refine j_get X fG_RX3_23 (hput_other ap ho 3 (by decide)) rfl rfl dX3_copyFrom_27 ?_
  refine j_callVv X (rest := []) (s_copy3 l ap ho) m_yX5_copyFrom kM_RX3_39 (hput_k 8 (by decide)) rfl rfl rfl rfl rfl (Nat.le_of_ble_eq_true rfl) ⟨Nat.le_of_ble_eq_true rfl, Nat.le_of_ble_eq_true rfl, Nat.le_of_ble_eq_true rfl, Nat.le_of_ble_eq_true rfl⟩ dX3_copyFrom_30 ?_
  refine j_aload_n X 0 dX3_copyFrom_33 rfl rfl ?_
  refine j_get X fG_RX3_26 (hput_k 3 (by decide)) rfl rfl dX3_copyFrom_34 ?_
  refine j_aload_n X 1 dX3_copyFrom_37 rfl rfl ?_
  refine j_get X fG_RX3_26 (hput_other ap ho 3 (by decide)) rfl rfl dX3_copyFrom_38 ?_
  refine j_callVv X (rest := []) (s_copy4 l ap ho) m_yX5_copyFrom kM_RX3_39 (hput_k 10 (by decide)) rfl rfl rfl rfl rfl (Nat.le_of_ble_eq_true rfl) ⟨Nat.le_of_ble_eq_true rfl, Nat.le_of_ble_eq_true rfl, Nat.le_of_ble_eq_true rfl, Nat.le_of_ble_eq_true rfl⟩ dX3_copyFrom_41 ?_
  refine j_aload_n X 0 dX3_copyFrom_44 rfl rfl ?_
  refine j_get X fG_RX3_29 (hput_k 3 (by decide)) rfl rfl dX3_copyFrom_45 ?_
  refine j_aload_n X 1 dX3_copyFrom_48 rfl rfl ?_
  refine j_get X fG_RX3_29 (hput_other ap ho 3 (by decide)) rfl rfl dX3_copyFrom_49 ?_
  refine j_callVv X (rest := []) (s_copy5 l ap ho) m_yX5_copyFrom kM_RX3_39 (hput_k 12 (by decide)) rfl rfl rfl rfl rfl (Nat.le_of_ble_eq_true rfl) ⟨Nat.le_of_ble_eq_true rfl, Nat.le_of_ble_eq_true rfl, Nat.le_of_ble_eq_true rfl, Nat.le_of_ble_eq_true rfl⟩ dX3_copyFrom_52 ?_
  refine j_aload_n X 0 dX3_copyFrom_55 rfl rfl ?_
  refine j_get X fG_RX3_32 (hput_k 3 (by decide)) rfl rfl dX3_copyFrom_56 ?_
  refine j_aload_n X 1 dX3_copyFrom_59 rfl rfl ?_
  refine j_get X fG_RX3_32 (hput_other ap ho 3 (by decide)) rfl rfl dX3_copyFrom_60 ?_
  refine j_callVv X (rest := []) (s_copy6 l ap ho) m_yX5_copyFrom kM_RX3_39 (hput_k 14 (by decide)) rfl rfl rfl rfl rfl (Nat.le_of_ble_eq_true rfl) ⟨Nat.le_of_ble_eq_true rfl, Nat.le_of_ble_eq_true rfl, Nat.le_of_ble_eq_true rfl, Nat.le_of_ble_eq_true rfl⟩ dX3_copyFrom_63 ?_
  exact j_vret X hr rfl (by first | with_reducible rfl | rfl) dX3_copyFrom_66
set_option maxRecDepth 100000 in
set_option maxHeartbeats 8000000 in
theorem c_X4_copyFrom (l : Launch) {D : DD} {B z : Nat} {h : HF} {a a2 : Nat} {σ τ : St} (ap : a2 + 29 ≤ a ∨ a + 29 ≤ a2) (ho : ∀ k, k < 29 → h (a2 + k) = some (stCell D a2 τ k)) : CT l yX4_copyFrom cX4_copyFrom 2 none 2 43 [.ref (a + 16), .ref (a2 + 16)] D B z (hput D h a σ) none 0 0 (hput D h a (rput (rput σ 7 (τ.1 7)) 8 (τ.1 8))) := by
  refine CT.of (L := [(0, .ref (a + 16)), (1, .ref (a2 + 16))]) (by decide +kernel) (Nat.le_of_ble_eq_true rfl) rfl ?_
  intro P E S0 M0 AR BL ME CO X hr hnm
  refine j_aload_n X 0 dX4_copyFrom_0 rfl rfl ?_
  refine j_get X fG_RX4_14 (hput_k 16 (by decide)) rfl rfl dX4_copyFrom_1 ?_
  refine j_aload_n X 1 dX4_copyFrom_4 rfl rfl ?_
  refine j_get X fG_RX4_14 (hput_other ap ho 16 (by decide)) rfl rfl dX4_copyFrom_5 ?_
  refine j_callVv X (rest := []) (s_copy7 l ap ho) m_yX5_copyFrom kM_RX4_23 (hput_k 17 (by decide)) rfl rfl rfl rfl rfl (Nat.le_of_ble_eq_true rfl) ⟨Nat.le_of_ble_eq_true rfl, Nat.le_of_ble_eq_true rfl, Nat.le_of_ble_eq_true rfl, Nat.le_of_ble_eq_true rfl⟩ dX4_copyFrom_8 ?_
  refine j_aload_n X 0 dX4_copyFrom_11 rfl rfl ?_
  refine j_get X fG_RX4_20 (hput_k 16 (by decide)) rfl rfl dX4_copyFrom_12 ?_
  refine j_aload_n X 1 dX4_copyFrom_15 rfl rfl ?_
  refine j_get X fG_RX4_20 (hput_other ap ho 16 (by decide)) rfl rfl dX4_copyFrom_16 ?_
  refine j_callVv X (rest := []) (s_copy8 l ap ho) m_yX5_copyFrom kM_RX4_23 (hput_k 19 (by decide)) rfl rfl rfl rfl rfl (Nat.le_of_ble_eq_true rfl) ⟨Nat.le_of_ble_eq_true rfl, Nat.le_of_ble_eq_true rfl, Nat.le_of_ble_eq_true rfl, Nat.le_of_ble_eq_true rfl⟩ dX4_copyFrom_19 ?_
  exact j_vret X hr rfl (by first | with_reducible rfl | rfl) dX4_copyFrom_22
set_option maxRecDepth 100000 in
set_option maxHeartbeats 8000000 in
theorem c_X7_copyFrom (l : Launch) {D : DD} {B z : Nat} {h : HF} {a a2 : Nat} {σ τ : St} (ap : a2 + 29 ≤ a ∨ a + 29 ≤ a2) (ho : ∀ k, k < 29 → h (a2 + k) = some (stCell D a2 τ k)) : CT l yX7_copyFrom cX7_copyFrom 2 none 2 43 [.ref (a + 21), .ref (a2 + 21)] D B z (hput D h a σ) none 0 0 (hput D h a (sput (rput (rput σ 9 (τ.1 9)) 10 (τ.1 10)) 3 (τ.2 3))) := by
  refine CT.of (L := [(0, .ref (a + 21)), (1, .ref (a2 + 21))]) (by decide +kernel) (Nat.le_of_ble_eq_true rfl) rfl ?_
  intro P E S0 M0 AR BL ME CO X hr hnm
  refine j_aload_n X 0 dX7_copyFrom_0 rfl rfl ?_
  refine j_get X fG_RX7_14 (hput_k 21 (by decide)) rfl rfl dX7_copyFrom_1 ?_
  refine j_aload_n X 1 dX7_copyFrom_4 rfl rfl ?_
  refine j_get X fG_RX7_14 (hput_other ap ho 21 (by decide)) rfl rfl dX7_copyFrom_5 ?_
  refine j_callVv X (rest := []) (s_copy9 l ap ho) m_yX5_copyFrom kM_RX7_27 (hput_k 22 (by decide)) rfl rfl rfl rfl rfl (Nat.le_of_ble_eq_true rfl) ⟨Nat.le_of_ble_eq_true rfl, Nat.le_of_ble_eq_true rfl, Nat.le_of_ble_eq_true rfl, Nat.le_of_ble_eq_true rfl⟩ dX7_copyFrom_8 ?_
  refine j_aload_n X 0 dX7_copyFrom_11 rfl rfl ?_
  refine j_get X fG_RX7_20 (hput_k 21 (by decide)) rfl rfl dX7_copyFrom_12 ?_
  refine j_aload_n X 1 dX7_copyFrom_15 rfl rfl ?_
  refine j_get X fG_RX7_20 (hput_other ap ho 21 (by decide)) rfl rfl dX7_copyFrom_16 ?_
  refine j_callVv X (rest := []) (s_copy10 l ap ho) m_yX5_copyFrom kM_RX7_27 (hput_k 24 (by decide)) rfl rfl rfl rfl rfl (Nat.le_of_ble_eq_true rfl) ⟨Nat.le_of_ble_eq_true rfl, Nat.le_of_ble_eq_true rfl, Nat.le_of_ble_eq_true rfl, Nat.le_of_ble_eq_true rfl⟩ dX7_copyFrom_19 ?_
  refine j_aload_n X 0 dX7_copyFrom_22 rfl rfl ?_
  refine j_aload_n X 1 dX7_copyFrom_23 rfl rfl ?_
  refine j_get X fG_RX7_31 (hput_other ap ho 21 (by decide)) rfl rfl dX7_copyFrom_24 ?_
  refine j_put X fG_RX7_31 fW_7_2 (hput_k 21 (by decide)) rfl rfl rfl (Nat.le_of_ble_eq_true rfl) dX7_copyFrom_27 ?_
  refine j_heap (h' := hput D h a (sput (rput (rput σ 9 (τ.1 9)) 10 (τ.1 10)) 3 (τ.2 3))) hput_s3 ?_
  exact j_vret X hr rfl (by first | with_reducible rfl | rfl) dX7_copyFrom_30
set_option maxRecDepth 100000 in
set_option maxHeartbeats 8000000 in
theorem c_X2_copyFrom (l : Launch) {D : DD} {B z : Nat} {h : HF} {a a2 : Nat} {σ τ : St} (ap : a2 + 29 ≤ a ∨ a + 29 ≤ a2) (ho : ∀ k, k < 29 → h (a2 + k) = some (stCell D a2 τ k)) : CT l yX2_copyFrom cX2_copyFrom 2 none 2 43 [.ref (a + 26), .ref (a2 + 26)] D B z (hput D h a σ) none 0 0 (hput D h a (rput σ 11 (τ.1 11))) := by
  refine CT.of (L := [(0, .ref (a + 26)), (1, .ref (a2 + 26))]) (by decide +kernel) (Nat.le_of_ble_eq_true rfl) rfl ?_
  intro P E S0 M0 AR BL ME CO X hr hnm
  refine j_aload_n X 0 dX2_copyFrom_0 rfl rfl ?_
  refine j_get X fG_RX2_16 (hput_k 26 (by decide)) rfl rfl dX2_copyFrom_1 ?_
  refine j_aload_n X 1 dX2_copyFrom_4 rfl rfl ?_
  refine j_get X fG_RX2_16 (hput_other ap ho 26 (by decide)) rfl rfl dX2_copyFrom_5 ?_
  refine j_callVv X (rest := []) (s_copy11 l ap ho) m_yX5_copyFrom kM_RX2_20 (hput_k 27 (by decide)) rfl rfl rfl rfl rfl (Nat.le_of_ble_eq_true rfl) ⟨Nat.le_of_ble_eq_true rfl, Nat.le_of_ble_eq_true rfl, Nat.le_of_ble_eq_true rfl, Nat.le_of_ble_eq_true rfl⟩ dX2_copyFrom_8 ?_
  exact j_vret X hr rfl (by first | with_reducible rfl | rfl) dX2_copyFrom_11
set_option maxRecDepth 100000 in
set_option maxHeartbeats 8000000 in
theorem c_X6_copyFrom (l : Launch) {D : DD} {B z : Nat} {h : HF} {a a2 : Nat} {σ τ : St} (ap : a2 + 29 ≤ a ∨ a + 29 ≤ a2) (ho : ∀ k, k < 29 → h (a2 + k) = some (stCell D a2 τ k)) : CT l yX6_copyFrom cX6_copyFrom 2 none 3 64 [.ref a, .ref a2] D B z (hput D h a σ) none 0 0 (hput D h a τ) := by
  refine CT.of (L := [(0, .ref a), (1, .ref a2)]) (by decide +kernel) (Nat.le_of_ble_eq_true rfl) rfl ?_
  intro P E S0 M0 AR BL ME CO X hr hnm
  refine j_aload_n X 0 dX6_copyFrom_0 rfl rfl ?_
  refine j_get X fG_RX6_18 hput_0 rfl rfl dX6_copyFrom_1 ?_
  refine j_aload_n X 1 dX6_copyFrom_4 rfl rfl ?_
  refine j_get X fG_RX6_18 (hput_other ap ho 0 (by decide)) rfl rfl dX6_copyFrom_5 ?_
  refine j_callVv X (rest := []) (s_copy0 l ap ho) m_yX5_copyFrom kM_RX6_56 (hput_k 1 (by decide)) rfl rfl rfl rfl rfl (Nat.le_of_ble_eq_true rfl) ⟨Nat.le_of_ble_eq_true rfl, Nat.le_of_ble_eq_true rfl, Nat.le_of_ble_eq_true rfl, Nat.le_of_ble_eq_true rfl⟩ dX6_copyFrom_8 ?_
  refine j_aload_n X 0 dX6_copyFrom_11 rfl rfl ?_
  refine j_get X fG_RX6_27 hput_0 rfl rfl dX6_copyFrom_12 ?_
  refine j_aload_n X 1 dX6_copyFrom_15 rfl rfl ?_
  refine j_get X fG_RX6_27 (hput_other ap ho 0 (by decide)) rfl rfl dX6_copyFrom_16 ?_
  refine j_callVv X (rest := []) (c_X3_copyFrom l ap ho) m_yX3_copyFrom kM_RX6_60 (hput_k 3 (by decide)) rfl rfl rfl rfl rfl (Nat.le_of_ble_eq_true rfl) ⟨Nat.le_of_ble_eq_true rfl, Nat.le_of_ble_eq_true rfl, Nat.le_of_ble_eq_true rfl, Nat.le_of_ble_eq_true rfl⟩ dX6_copyFrom_19 ?_
  refine j_aload_n X 0 dX6_copyFrom_22 rfl rfl ?_
  refine j_get X fG_RX6_34 hput_0 rfl rfl dX6_copyFrom_23 ?_
  refine j_aload_n X 1 dX6_copyFrom_26 rfl rfl ?_
  refine j_get X fG_RX6_34 (hput_other ap ho 0 (by decide)) rfl rfl dX6_copyFrom_27 ?_
  refine j_callVv X (rest := []) (c_X4_copyFrom l ap ho) m_yX4_copyFrom kM_RX6_63 (hput_k 16 (by decide)) rfl rfl rfl rfl rfl (Nat.le_of_ble_eq_true rfl) ⟨Nat.le_of_ble_eq_true rfl, Nat.le_of_ble_eq_true rfl, Nat.le_of_ble_eq_true rfl, Nat.le_of_ble_eq_true rfl⟩ dX6_copyFrom_30 ?_
  refine j_aload_n X 0 dX6_copyFrom_33 rfl rfl ?_
  refine j_get X fG_RX6_41 hput_0 rfl rfl dX6_copyFrom_34 ?_
  refine j_aload_n X 1 dX6_copyFrom_37 rfl rfl ?_
  refine j_get X fG_RX6_41 (hput_other ap ho 0 (by decide)) rfl rfl dX6_copyFrom_38 ?_
  refine j_callVv X (rest := []) (c_X7_copyFrom l ap ho) m_yX7_copyFrom kM_RX6_66 (hput_k 21 (by decide)) rfl rfl rfl rfl rfl (Nat.le_of_ble_eq_true rfl) ⟨Nat.le_of_ble_eq_true rfl, Nat.le_of_ble_eq_true rfl, Nat.le_of_ble_eq_true rfl, Nat.le_of_ble_eq_true rfl⟩ dX6_copyFrom_41 ?_
  refine j_aload_n X 0 dX6_copyFrom_44 rfl rfl ?_
  refine j_get X fG_RX6_48 hput_0 rfl rfl dX6_copyFrom_45 ?_
  refine j_aload_n X 1 dX6_copyFrom_48 rfl rfl ?_
  refine j_get X fG_RX6_48 (hput_other ap ho 0 (by decide)) rfl rfl dX6_copyFrom_49 ?_
  refine j_callVv X (rest := []) (c_X2_copyFrom l ap ho) m_yX2_copyFrom kM_RX6_69 (hput_k 26 (by decide)) rfl rfl rfl rfl rfl (Nat.le_of_ble_eq_true rfl) ⟨Nat.le_of_ble_eq_true rfl, Nat.le_of_ble_eq_true rfl, Nat.le_of_ble_eq_true rfl, Nat.le_of_ble_eq_true rfl⟩ dX6_copyFrom_52 ?_
  refine j_aload_n X 0 dX6_copyFrom_55 rfl rfl ?_
  refine j_aload_n X 1 dX6_copyFrom_56 rfl rfl ?_
  refine j_get X fG_RX6_72 (hput_other ap ho 0 (by decide)) rfl rfl dX6_copyFrom_57 ?_
  refine j_put X fG_RX6_72 fW_6_5 hput_0 rfl rfl rfl (Nat.le_of_ble_eq_true rfl) dX6_copyFrom_60 ?_
  refine j_heap (h' := hput D h a (sput (rput (sput (rput (rput (rput (rput (rput (rput (rput (rput (rput (rput (rput σ 0 (τ.1 0)) 1 (τ.1 1)) 2 (τ.1 2)) 3 (τ.1 3)) 4 (τ.1 4)) 5 (τ.1 5)) 6 (τ.1 6)) 7 (τ.1 7)) 8 (τ.1 8)) 9 (τ.1 9)) 10 (τ.1 10)) 3 (τ.2 3)) 11 (τ.1 11)) 0 (τ.2 0))) hput_s0 ?_
  refine j_aload_n X 0 dX6_copyFrom_63 rfl rfl ?_
  refine j_aload_n X 1 dX6_copyFrom_64 rfl rfl ?_
  refine j_get X fG_RX6_76 (hput_other ap ho 0 (by decide)) rfl rfl dX6_copyFrom_65 ?_
  refine j_put X fG_RX6_76 fW_6_6 hput_0 rfl rfl rfl (Nat.le_of_ble_eq_true rfl) dX6_copyFrom_68 ?_
  refine j_heap (h' := hput D h a (sput (sput (rput (sput (rput (rput (rput (rput (rput (rput (rput (rput (rput (rput (rput σ 0 (τ.1 0)) 1 (τ.1 1)) 2 (τ.1 2)) 3 (τ.1 3)) 4 (τ.1 4)) 5 (τ.1 5)) 6 (τ.1 6)) 7 (τ.1 7)) 8 (τ.1 8)) 9 (τ.1 9)) 10 (τ.1 10)) 3 (τ.2 3)) 11 (τ.1 11)) 0 (τ.2 0)) 1 (τ.2 1))) hput_s1 ?_
  refine j_aload_n X 0 dX6_copyFrom_71 rfl rfl ?_
  refine j_aload_n X 1 dX6_copyFrom_72 rfl rfl ?_
  refine j_get X fG_RX6_79 (hput_other ap ho 0 (by decide)) rfl rfl dX6_copyFrom_73 ?_
  refine j_put X fG_RX6_79 fW_6_7 hput_0 rfl rfl rfl (Nat.le_of_ble_eq_true rfl) dX6_copyFrom_76 ?_
  refine j_heap (h' := hput D h a (sput (sput (sput (rput (sput (rput (rput (rput (rput (rput (rput (rput (rput (rput (rput (rput σ 0 (τ.1 0)) 1 (τ.1 1)) 2 (τ.1 2)) 3 (τ.1 3)) 4 (τ.1 4)) 5 (τ.1 5)) 6 (τ.1 6)) 7 (τ.1 7)) 8 (τ.1 8)) 9 (τ.1 9)) 10 (τ.1 10)) 3 (τ.2 3)) 11 (τ.1 11)) 0 (τ.2 0)) 1 (τ.2 1)) 2 (τ.2 2))) hput_s2 ?_
  exact j_vret X hr rfl (hput_congr (lt29 rfl rfl rfl rfl rfl rfl rfl rfl rfl rfl rfl rfl rfl rfl rfl rfl rfl rfl rfl rfl rfl rfl rfl rfl rfl rfl rfl rfl rfl)) dX6_copyFrom_79
