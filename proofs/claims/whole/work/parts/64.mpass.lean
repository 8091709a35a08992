set_option maxRecDepth 100000 in
set_option maxHeartbeats 1000000 in
theorem c_X10_pass (l : Launch) {D : DD} {B z : Nat} {h : HF} {b : Nat} {μ : Mo} {s1 : Int32} {q : Nat} (hq : q ≤ 4) (eq : μ.1 0 = nI q) {R C : Nat} (hR : R ≤ 10) (hC : C < 2147483000) (hG : GBf R C (μ.2 0))  : CT l yX10_pass cX10_pass 4 (some .int) 5 122 [.ref b, .int s1] D B z (mput D h b μ) (some (.int ((mPass μ s1).1))) 0 0 (mput D h b ((mPass μ s1).2)) := by
  refine CT.of (L := [(0, .ref b), (1, .int s1)]) (by decide +kernel) (Nat.le_of_ble_eq_true rfl) rfl ?_
  intro P E S0 M0 AR BL ME CO X hr hnm
  refine j_iload_n X 1 dX10_pass_0 rfl rfl ?_
  refine j_iconst X (v := 1) dX10_pass_1 (by decide) ?_
  refine j_bipush X (v := 10) dX10_pass_2 (by decide) ?_
  refine j_callSi X (rest := []) (c_X10_in l) m_yX10_in kM_RX10_36 rfl rfl (Nat.le_of_ble_eq_true rfl) ⟨Nat.le_of_ble_eq_true rfl, Nat.le_of_ble_eq_true rfl, Nat.le_of_ble_eq_true rfl, Nat.le_of_ble_eq_true rfl⟩ dX10_pass_4 ?_
  refine j_if_ne X (tgt := 13) dX10_pass_7 (by decide) (fun c_7 => ?_) (fun c_7 => ?_)
  · obtain ⟨N, hN10, hN⟩ := in_10 c_7
    refine j_aload_n X 0 dX10_pass_13 rfl rfl ?_
    refine j_callVv X (rest := []) (c_X10_record l hq eq) m_yX10_record kM_RX10_55 mput_0 rfl rfl rfl rfl rfl (Nat.le_of_ble_eq_true rfl) ⟨Nat.le_of_ble_eq_true rfl, Nat.le_of_ble_eq_true rfl, Nat.le_of_ble_eq_true rfl, Nat.le_of_ble_eq_true rfl⟩ dX10_pass_14 ?_
    have hG0 := gb_rec hG
    obtain ⟨ν, hν⟩ : ∃ ν : Mo, mRec μ = ν := ⟨_, rfl⟩
    rw [hν] at hG0
    refine j_heap (h' := mput D h b ν) (congrArg (mput D h b) hν) ?_
    refine j_iconst X (v := 0) dX10_pass_17 (by decide) ?_
    refine j_istore_n X (L' := [(2, .int 0), (0, .ref b), (1, .int s1)]) dX10_pass_18 rfl (by decide) rfl ?_
    refine j_iconst X (v := 0) dX10_pass_19 (by decide) ?_
    refine j_istore_n X (L' := [(3, .int 0), (2, .int 0), (0, .ref b), (1, .int s1)]) dX10_pass_20 rfl (by decide) rfl ?_
    have loop21 : ∀ (n k : Nat), k + n = N → J P l E { frames := 5, cells := 0, slots := 0, locals := 122 } S0 M0 AR BL ME CO D B 4 (MQ BL (QC (some (.int ((mPass μ s1).1))) D B (z + 0) (mput D h b ((mPass μ s1).2))) AR S0 0 0 (aB B)) 0 0 z (mput D h b ((mPs ν k).2)) [(0, .ref b), (1, .int s1), (2, .int ((mPs ν k).1)), (3, .int (nI k))] [] 21 := by
      intro n
      induction n with
      | zero =>
        intro k hk
        obtain rfl : N = k := by omega
        refine j_iload_n X 3 dX10_pass_21 rfl rfl ?_
        refine j_iload_n X 1 dX10_pass_22 rfl rfl ?_
        refine j_icmp_ge X (tgt := 39) dX10_pass_23 (by decide) (fun c_23 => ?_) (fun c_23 => absurd c_23 (by rw [hN]; exact nI_nlt (by omega) (by omega)))
        refine j_iload_n X 2 dX10_pass_39 rfl rfl ?_
        exact j_iret X hr rfl (by unfold mPass; rw [if_neg c_7, hν, hN, nI_clamp (by omega)]) rfl (by unfold mPass; rw [if_neg c_7, hν, hN, nI_clamp (by omega)]) dX10_pass_40
      | succ n ih =>
        intro k hk
        refine j_iload_n X 3 dX10_pass_21 rfl rfl ?_
        refine j_iload_n X 1 dX10_pass_22 rfl rfl ?_
        refine j_icmp_ge X (tgt := 39) dX10_pass_23 (by decide) (fun c_23 => absurd (show nI k < s1 by rw [hN]; exact nI_lt (by omega) (by omega)) c_23) (fun c_23 => ?_)
        have hGk := gb_ps hR hC hG0 k (by omega)
        refine j_iload_n X 2 dX10_pass_26 rfl rfl ?_
        refine j_aload_n X 0 dX10_pass_27 rfl rfl ?_
        refine j_callVi X (rest := [.int ((mPs ν k).1)]) (c_X10_goesOn l hR (C := C + k) (by omega) hGk) m_yX10_goesOn kM_RX10_121 mput_0 rfl rfl rfl rfl rfl (Nat.le_of_ble_eq_true rfl) ⟨Nat.le_of_ble_eq_true rfl, Nat.le_of_ble_eq_true rfl, Nat.le_of_ble_eq_true rfl, Nat.le_of_ble_eq_true rfl⟩ dX10_pass_28 ?_
        refine j_iadd X dX10_pass_31 ?_
        refine j_tops (fun v1 ev1 => ?_)
        refine j_istore_n X (L' := [(2, .int v1), (0, .ref b), (1, .int s1), (3, .int (nI k))]) dX10_pass_32 rfl (by decide) rfl ?_
        obtain ⟨v2, ev2⟩ : ∃ y : Int32, (nI k) + 1 = y := ⟨_, rfl⟩
        refine j_iinc X 3 (k := 1) (v := v2) (L' := [(3, .int v2), (2, .int v1), (0, .ref b), (1, .int s1)]) dX10_pass_33 rfl (by decide) (by decide) ev2 rfl ?_
        refine j_goto X (tgt := 21) dX10_pass_36 (by decide) ?_
        refine j_sub [2, 3, 1, 0] (L' := [(0, .ref b), (1, .int s1), (2, .int ((mPs ν (k + 1)).1)), (3, .int (nI (k + 1)))]) (by subst ev2 ev1; first | with_reducible rfl | (simp only [mPs, nI_succ k, if_neg c_7, if_pos c_23]; done) | (simp only [mPs, nI_succ k, if_neg c_7, if_pos c_23]; rfl) | rfl) ?_
        refine j_heap (h' := mput D h b ((mPs ν (k + 1)).2)) (by subst ev2 ev1; first | with_reducible rfl | (simp only [mPs, nI_succ k, if_neg c_7, if_pos c_23]; done) | (simp only [mPs, nI_succ k, if_neg c_7, if_pos c_23]; rfl) | rfl) ?_
        exact ih (k + 1) (by omega)
    refine j_sub [2, 3, 1, 0] (L' := [(0, .ref b), (1, .int s1), (2, .int ((mPs ν 0).1)), (3, .int (nI 0))]) (by first | with_reducible rfl | (simp only [mPs, if_neg c_7]; done) | (simp only [mPs, if_neg c_7]; rfl) | rfl) ?_
    refine j_heap (h' := mput D h b ((mPs ν 0).2)) (by first | with_reducible rfl | (simp only [mPs, if_neg c_7]; done) | (simp only [mPs, if_neg c_7]; rfl) | rfl) ?_
    exact loop21 N 0 (by omega)
  · refine j_bipush X (v := (-2)) dX10_pass_10 (by decide) ?_
    exact j_iret X hr rfl (by first | with_reducible rfl | (simp only [mPass, if_pos c_7]; done) | (simp only [mPass, if_pos c_7]; rfl) | rfl) rfl (by first | with_reducible rfl | (simp only [mPass, if_pos c_7]; done) | (simp only [mPass, if_pos c_7]; rfl) | rfl) dX10_pass_12
