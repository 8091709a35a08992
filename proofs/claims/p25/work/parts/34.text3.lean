set_option maxRecDepth 100000 in
set_option maxHeartbeats 400000 in
theorem c_X8_readFrame (l : Launch) {D : DD} {B z : Nat} {h : HF} {b : Nat} {S : Sy}  : CT l yX8_readFrame cX8_readFrame 6 (some .boolean) 3 66 [.ref (b + 206), .ref (b + 208)] D B z (xput D h b S) (some (.int ((tFrame S).1))) 0 0 (xput D h b ((tFrame S).2)) := by
  refine CT.of (L := [(0, .ref (b + 206)), (1, .ref (b + 208))]) (by decide +kernel) (Nat.le_of_ble_eq_true rfl) rfl ?_
  intro P E S0 M0 AR BL ME CO X hr hnm
  refine j_aload_n X 0 dX8_readFrame_0 rfl rfl ?_
  refine j_callVi X (rest := []) (c_X8_readAddress l) m_yX8_readAddress kM_RX8_35 (xput_k 206 (by decide)) rfl rfl rfl rfl rfl (Nat.le_of_ble_eq_true rfl) ⟨Nat.le_of_ble_eq_true rfl, Nat.le_of_ble_eq_true rfl, Nat.le_of_ble_eq_true rfl, Nat.le_of_ble_eq_true rfl⟩ dX8_readFrame_1 ?_
  refine j_tops (fun v1 ev1 => ?_)
  refine j_istore_n X (L' := [(2, .int v1), (0, .ref (b + 206)), (1, .ref (b + 208))]) dX8_readFrame_4 rfl (by decide) rfl ?_
  refine j_iload_n X 0 dX8_readFrame_5 rfl rfl ?_
  refine j_bipush X (v := (-4)) dX8_readFrame_6 (by decide) ?_
  refine j_icmp_eq X (tgt := 20) dX8_readFrame_8 (by decide) (fun c_8 => ?_) (fun c_8 => ?_)
  · refine j_iconst X (v := 0) dX8_readFrame_20 (by decide) ?_
    exact j_iret X hr rfl (by subst ev1; first | (rw [tFrame, if_pos c_8]; done) | (rw [tFrame, if_pos c_8]; rfl)) rfl (by subst ev1; first | (rw [tFrame, if_pos c_8]; done) | (rw [tFrame, if_pos c_8]; rfl)) dX8_readFrame_21
  · refine j_aload_n X 1 dX8_readFrame_11 rfl rfl ?_
    refine j_bipush X (v := 62) dX8_readFrame_12 (by decide) ?_
    refine j_callVi X (rest := []) (c_X8_skip l) m_yX8_skip kM_RX8_31 (xput_k 206 (by decide)) rfl rfl rfl rfl rfl (Nat.le_of_ble_eq_true rfl) ⟨Nat.le_of_ble_eq_true rfl, Nat.le_of_ble_eq_true rfl, Nat.le_of_ble_eq_true rfl, Nat.le_of_ble_eq_true rfl⟩ dX8_readFrame_14 ?_
    refine j_if_ne X (tgt := 22) dX8_readFrame_17 (by decide) (fun c_17 => ?_) (fun c_17 => ?_)
    · refine j_aload_n X 1 dX8_readFrame_22 rfl rfl ?_
      refine j_bipush X (v := 42) dX8_readFrame_23 (by decide) ?_
      refine j_callVi X (rest := []) (c_X8_skip l) m_yX8_skip kM_RX8_31 (xput_k 206 (by decide)) rfl rfl rfl rfl rfl (Nat.le_of_ble_eq_true rfl) ⟨Nat.le_of_ble_eq_true rfl, Nat.le_of_ble_eq_true rfl, Nat.le_of_ble_eq_true rfl, Nat.le_of_ble_eq_true rfl⟩ dX8_readFrame_25 ?_
      refine j_if_eq X (tgt := 35) dX8_readFrame_28 (by decide) (fun c_28 => ?_) (fun c_28 => ?_)
      · refine j_aload_n X 1 dX8_readFrame_35 rfl rfl ?_
        refine j_callVi X (rest := []) (c_X8_readAddress l) m_yX8_readAddress kM_RX8_35 (xput_k 206 (by decide)) rfl rfl rfl rfl rfl (Nat.le_of_ble_eq_true rfl) ⟨Nat.le_of_ble_eq_true rfl, Nat.le_of_ble_eq_true rfl, Nat.le_of_ble_eq_true rfl, Nat.le_of_ble_eq_true rfl⟩ dX8_readFrame_36 ?_
        refine j_tops (fun v2 ev2 => ?_)
        refine j_istore_n X (L' := [(3, .int v2), (2, .int v1), (0, .ref (b + 206)), (1, .ref (b + 208))]) dX8_readFrame_39 rfl (by decide) rfl ?_
        refine j_iload_n X 0 dX8_readFrame_40 rfl rfl ?_
        refine j_bipush X (v := (-4)) dX8_readFrame_41 (by decide) ?_
        refine j_icmp_ne X (tgt := 48) dX8_readFrame_43 (by decide) (fun c_43 => ?_) (fun c_43 => ?_)
        · refine j_aload_n X 2 dX8_readFrame_48 rfl rfl ?_
          refine j_bipush X (v := 33) dX8_readFrame_49 (by decide) ?_
          refine j_callVi X (rest := []) (c_X8_skip l) m_yX8_skip kM_RX8_31 (xput_k 206 (by decide)) rfl rfl rfl rfl rfl (Nat.le_of_ble_eq_true rfl) ⟨Nat.le_of_ble_eq_true rfl, Nat.le_of_ble_eq_true rfl, Nat.le_of_ble_eq_true rfl, Nat.le_of_ble_eq_true rfl⟩ dX8_readFrame_51 ?_
          refine j_if_eq X (tgt := 66) dX8_readFrame_54 (by decide) (fun c_54 => ?_) (fun c_54 => ?_)
          · refine j_iconst X (v := 0) dX8_readFrame_66 (by decide) ?_
            refine j_istore X (L' := [(4, .int 0), (3, .int v2), (2, .int v1), (0, .ref (b + 206)), (1, .ref (b + 208))]) dX8_readFrame_67 (by decide) rfl ?_
            refine j_iload X 0 dX8_readFrame_69 rfl ?_
            refine j_bipush X (v := (-4)) dX8_readFrame_71 (by decide) ?_
            refine j_icmp_eq X (tgt := 85) dX8_readFrame_73 (by decide) (fun c_ => absurd c_ (by decide)) (fun _ => ?_)
            refine j_aload_n X 3 dX8_readFrame_76 rfl rfl ?_
            refine j_bipush X (v := 64) dX8_readFrame_77 (by decide) ?_
            refine j_callVi X (rest := []) (c_X8_skip l) m_yX8_skip kM_RX8_31 (xput_k 206 (by decide)) rfl rfl rfl rfl rfl (Nat.le_of_ble_eq_true rfl) ⟨Nat.le_of_ble_eq_true rfl, Nat.le_of_ble_eq_true rfl, Nat.le_of_ble_eq_true rfl, Nat.le_of_ble_eq_true rfl⟩ dX8_readFrame_79 ?_
            refine j_if_ne X (tgt := 87) dX8_readFrame_82 (by decide) (fun c_82 => ?_) (fun c_82 => ?_)
            · refine j_aload_n X 3 dX8_readFrame_87 rfl rfl ?_
              refine j_iconst X (v := 0) dX8_readFrame_88 (by decide) ?_
              refine j_bipush X (v := 7) dX8_readFrame_89 (by decide) ?_
              refine j_callVi X (rest := []) (c_X8_readDigit l) m_yX8_readDigit kM_RX8_39 (xput_k 206 (by decide)) rfl rfl rfl rfl rfl (Nat.le_of_ble_eq_true rfl) ⟨Nat.le_of_ble_eq_true rfl, Nat.le_of_ble_eq_true rfl, Nat.le_of_ble_eq_true rfl, Nat.le_of_ble_eq_true rfl⟩ dX8_readFrame_91 ?_
              refine j_tops (fun v3 ev3 => ?_)
              refine j_istore X (L' := [(5, .int v3), (4, .int 0), (3, .int v2), (2, .int v1), (0, .ref (b + 206)), (1, .ref (b + 208))]) dX8_readFrame_94 (by decide) rfl ?_
              refine j_iload X 0 dX8_readFrame_96 rfl ?_
              refine j_bipush X (v := (-4)) dX8_readFrame_98 (by decide) ?_
              refine j_icmp_ne X (tgt := 105) dX8_readFrame_100 (by decide) (fun c_100 => ?_) (fun c_100 => ?_)
              · refine j_aload_n X 5 dX8_readFrame_105 rfl rfl ?_
                refine j_iload X 0 dX8_readFrame_106 rfl ?_
                refine j_iload_n X 3 dX8_readFrame_108 rfl rfl ?_
                refine j_iload_n X 2 dX8_readFrame_109 rfl rfl ?_
                refine j_iload X 1 dX8_readFrame_110 rfl ?_
                refine j_callVv X (rest := []) (c_X0_append l) m_yX0_append kM_RX8_43 (xput_k 208 (by decide)) rfl rfl rfl rfl rfl (Nat.le_of_ble_eq_true rfl) ⟨Nat.le_of_ble_eq_true rfl, Nat.le_of_ble_eq_true rfl, Nat.le_of_ble_eq_true rfl, Nat.le_of_ble_eq_true rfl⟩ dX8_readFrame_112 ?_
                refine j_iconst X (v := 1) dX8_readFrame_115 (by decide) ?_
                exact j_iret X hr rfl (by subst ev3 ev2 ev1; first | (rw [tFrame, if_neg c_8, if_neg c_17, tF2, if_pos c_28, tF3, if_neg c_43, tF3b, if_pos c_54, tF4b, if_neg c_82, tF5, if_neg c_100]; done) | (rw [tFrame, if_neg c_8, if_neg c_17, tF2, if_pos c_28, tF3, if_neg c_43, tF3b, if_pos c_54, tF4b, if_neg c_82, tF5, if_neg c_100]; rfl)) rfl (by subst ev3 ev2 ev1; first | (rw [tFrame, if_neg c_8, if_neg c_17, tF2, if_pos c_28, tF3, if_neg c_43, tF3b, if_pos c_54, tF4b, if_neg c_82, tF5, if_neg c_100]; done) | (rw [tFrame, if_neg c_8, if_neg c_17, tF2, if_pos c_28, tF3, if_neg c_43, tF3b, if_pos c_54, tF4b, if_neg c_82, tF5, if_neg c_100]; rfl)) dX8_readFrame_116
              · refine j_iconst X (v := 0) dX8_readFrame_103 (by decide) ?_
                exact j_iret X hr rfl (by subst ev3 ev2 ev1; first | (rw [tFrame, if_neg c_8, if_neg c_17, tF2, if_pos c_28, tF3, if_neg c_43, tF3b, if_pos c_54, tF4b, if_neg c_82, tF5, if_pos c_100]; done) | (rw [tFrame, if_neg c_8, if_neg c_17, tF2, if_pos c_28, tF3, if_neg c_43, tF3b, if_pos c_54, tF4b, if_neg c_82, tF5, if_pos c_100]; rfl)) rfl (by subst ev3 ev2 ev1; first | (rw [tFrame, if_neg c_8, if_neg c_17, tF2, if_pos c_28, tF3, if_neg c_43, tF3b, if_pos c_54, tF4b, if_neg c_82, tF5, if_pos c_100]; done) | (rw [tFrame, if_neg c_8, if_neg c_17, tF2, if_pos c_28, tF3, if_neg c_43, tF3b, if_pos c_54, tF4b, if_neg c_82, tF5, if_pos c_100]; rfl)) dX8_readFrame_104
            · refine j_iconst X (v := 0) dX8_readFrame_85 (by decide) ?_
              exact j_iret X hr rfl (by subst ev2 ev1; first | (rw [tFrame, if_neg c_8, if_neg c_17, tF2, if_pos c_28, tF3, if_neg c_43, tF3b, if_pos c_54, tF4b, if_pos c_82]; done) | (rw [tFrame, if_neg c_8, if_neg c_17, tF2, if_pos c_28, tF3, if_neg c_43, tF3b, if_pos c_54, tF4b, if_pos c_82]; rfl)) rfl (by subst ev2 ev1; first | (rw [tFrame, if_neg c_8, if_neg c_17, tF2, if_pos c_28, tF3, if_neg c_43, tF3b, if_pos c_54, tF4b, if_pos c_82]; done) | (rw [tFrame, if_neg c_8, if_neg c_17, tF2, if_pos c_28, tF3, if_neg c_43, tF3b, if_pos c_54, tF4b, if_pos c_82]; rfl)) dX8_readFrame_86
          · refine j_aload_n X 2 dX8_readFrame_57 rfl rfl ?_
            refine j_iconst X (v := 0) dX8_readFrame_58 (by decide) ?_
            refine j_iconst X (v := 3) dX8_readFrame_59 (by decide) ?_
            refine j_callVi X (rest := []) (c_X8_readDigit l) m_yX8_readDigit kM_RX8_39 (xput_k 206 (by decide)) rfl rfl rfl rfl rfl (Nat.le_of_ble_eq_true rfl) ⟨Nat.le_of_ble_eq_true rfl, Nat.le_of_ble_eq_true rfl, Nat.le_of_ble_eq_true rfl, Nat.le_of_ble_eq_true rfl⟩ dX8_readFrame_60 ?_
            refine j_goto X (tgt := 67) dX8_readFrame_63 (by decide) ?_
            refine j_tops (fun v4 ev4 => ?_)
            refine j_istore X (L' := [(4, .int v4), (3, .int v2), (2, .int v1), (0, .ref (b + 206)), (1, .ref (b + 208))]) dX8_readFrame_67 (by decide) rfl ?_
            refine j_iload X 0 dX8_readFrame_69 rfl ?_
            refine j_bipush X (v := (-4)) dX8_readFrame_71 (by decide) ?_
            refine j_icmp_eq X (tgt := 85) dX8_readFrame_73 (by decide) (fun c_73 => ?_) (fun c_73 => ?_)
            · refine j_iconst X (v := 0) dX8_readFrame_85 (by decide) ?_
              exact j_iret X hr rfl (by subst ev4 ev2 ev1; first | (rw [tFrame, if_neg c_8, if_neg c_17, tF2, if_pos c_28, tF3, if_neg c_43, tF3b, if_neg c_54, tF4, if_pos c_73]; done) | (rw [tFrame, if_neg c_8, if_neg c_17, tF2, if_pos c_28, tF3, if_neg c_43, tF3b, if_neg c_54, tF4, if_pos c_73]; rfl)) rfl (by subst ev4 ev2 ev1; first | (rw [tFrame, if_neg c_8, if_neg c_17, tF2, if_pos c_28, tF3, if_neg c_43, tF3b, if_neg c_54, tF4, if_pos c_73]; done) | (rw [tFrame, if_neg c_8, if_neg c_17, tF2, if_pos c_28, tF3, if_neg c_43, tF3b, if_neg c_54, tF4, if_pos c_73]; rfl)) dX8_readFrame_86
            · refine j_aload_n X 3 dX8_readFrame_76 rfl rfl ?_
              refine j_bipush X (v := 64) dX8_readFrame_77 (by decide) ?_
              refine j_callVi X (rest := []) (c_X8_skip l) m_yX8_skip kM_RX8_31 (xput_k 206 (by decide)) rfl rfl rfl rfl rfl (Nat.le_of_ble_eq_true rfl) ⟨Nat.le_of_ble_eq_true rfl, Nat.le_of_ble_eq_true rfl, Nat.le_of_ble_eq_true rfl, Nat.le_of_ble_eq_true rfl⟩ dX8_readFrame_79 ?_
              refine j_if_ne X (tgt := 87) dX8_readFrame_82 (by decide) (fun c_82 => ?_) (fun c_82 => ?_)
              · refine j_aload_n X 3 dX8_readFrame_87 rfl rfl ?_
                refine j_iconst X (v := 0) dX8_readFrame_88 (by decide) ?_
                refine j_bipush X (v := 7) dX8_readFrame_89 (by decide) ?_
                refine j_callVi X (rest := []) (c_X8_readDigit l) m_yX8_readDigit kM_RX8_39 (xput_k 206 (by decide)) rfl rfl rfl rfl rfl (Nat.le_of_ble_eq_true rfl) ⟨Nat.le_of_ble_eq_true rfl, Nat.le_of_ble_eq_true rfl, Nat.le_of_ble_eq_true rfl, Nat.le_of_ble_eq_true rfl⟩ dX8_readFrame_91 ?_
                refine j_tops (fun v5 ev5 => ?_)
                refine j_istore X (L' := [(5, .int v5), (4, .int v4), (3, .int v2), (2, .int v1), (0, .ref (b + 206)), (1, .ref (b + 208))]) dX8_readFrame_94 (by decide) rfl ?_
                refine j_iload X 0 dX8_readFrame_96 rfl ?_
                refine j_bipush X (v := (-4)) dX8_readFrame_98 (by decide) ?_
                refine j_icmp_ne X (tgt := 105) dX8_readFrame_100 (by decide) (fun c_100 => ?_) (fun c_100 => ?_)
                · refine j_aload_n X 5 dX8_readFrame_105 rfl rfl ?_
                  refine j_iload X 0 dX8_readFrame_106 rfl ?_
                  refine j_iload_n X 3 dX8_readFrame_108 rfl rfl ?_
                  refine j_iload_n X 2 dX8_readFrame_109 rfl rfl ?_
                  refine j_iload X 1 dX8_readFrame_110 rfl ?_
                  refine j_callVv X (rest := []) (c_X0_append l) m_yX0_append kM_RX8_43 (xput_k 208 (by decide)) rfl rfl rfl rfl rfl (Nat.le_of_ble_eq_true rfl) ⟨Nat.le_of_ble_eq_true rfl, Nat.le_of_ble_eq_true rfl, Nat.le_of_ble_eq_true rfl, Nat.le_of_ble_eq_true rfl⟩ dX8_readFrame_112 ?_
                  refine j_iconst X (v := 1) dX8_readFrame_115 (by decide) ?_
                  exact j_iret X hr rfl (by subst ev5 ev4 ev2 ev1; first | (rw [tFrame, if_neg c_8, if_neg c_17, tF2, if_pos c_28, tF3, if_neg c_43, tF3b, if_neg c_54, tF4, if_neg c_73, tF4b, if_neg c_82, tF5, if_neg c_100]; done) | (rw [tFrame, if_neg c_8, if_neg c_17, tF2, if_pos c_28, tF3, if_neg c_43, tF3b, if_neg c_54, tF4, if_neg c_73, tF4b, if_neg c_82, tF5, if_neg c_100]; rfl)) rfl (by subst ev5 ev4 ev2 ev1; first | (rw [tFrame, if_neg c_8, if_neg c_17, tF2, if_pos c_28, tF3, if_neg c_43, tF3b, if_neg c_54, tF4, if_neg c_73, tF4b, if_neg c_82, tF5, if_neg c_100]; done) | (rw [tFrame, if_neg c_8, if_neg c_17, tF2, if_pos c_28, tF3, if_neg c_43, tF3b, if_neg c_54, tF4, if_neg c_73, tF4b, if_neg c_82, tF5, if_neg c_100]; rfl)) dX8_readFrame_116
                · refine j_iconst X (v := 0) dX8_readFrame_103 (by decide) ?_
                  exact j_iret X hr rfl (by subst ev5 ev4 ev2 ev1; first | (rw [tFrame, if_neg c_8, if_neg c_17, tF2, if_pos c_28, tF3, if_neg c_43, tF3b, if_neg c_54, tF4, if_neg c_73, tF4b, if_neg c_82, tF5, if_pos c_100]; done) | (rw [tFrame, if_neg c_8, if_neg c_17, tF2, if_pos c_28, tF3, if_neg c_43, tF3b, if_neg c_54, tF4, if_neg c_73, tF4b, if_neg c_82, tF5, if_pos c_100]; rfl)) rfl (by subst ev5 ev4 ev2 ev1; first | (rw [tFrame, if_neg c_8, if_neg c_17, tF2, if_pos c_28, tF3, if_neg c_43, tF3b, if_neg c_54, tF4, if_neg c_73, tF4b, if_neg c_82, tF5, if_pos c_100]; done) | (rw [tFrame, if_neg c_8, if_neg c_17, tF2, if_pos c_28, tF3, if_neg c_43, tF3b, if_neg c_54, tF4, if_neg c_73, tF4b, if_neg c_82, tF5, if_pos c_100]; rfl)) dX8_readFrame_104
              · refine j_iconst X (v := 0) dX8_readFrame_85 (by decide) ?_
                exact j_iret X hr rfl (by subst ev4 ev2 ev1; first | (rw [tFrame, if_neg c_8, if_neg c_17, tF2, if_pos c_28, tF3, if_neg c_43, tF3b, if_neg c_54, tF4, if_neg c_73, tF4b, if_pos c_82]; done) | (rw [tFrame, if_neg c_8, if_neg c_17, tF2, if_pos c_28, tF3, if_neg c_43, tF3b, if_neg c_54, tF4, if_neg c_73, tF4b, if_pos c_82]; rfl)) rfl (by subst ev4 ev2 ev1; first | (rw [tFrame, if_neg c_8, if_neg c_17, tF2, if_pos c_28, tF3, if_neg c_43, tF3b, if_neg c_54, tF4, if_neg c_73, tF4b, if_pos c_82]; done) | (rw [tFrame, if_neg c_8, if_neg c_17, tF2, if_pos c_28, tF3, if_neg c_43, tF3b, if_neg c_54, tF4, if_neg c_73, tF4b, if_pos c_82]; rfl)) dX8_readFrame_86
        · refine j_iconst X (v := 0) dX8_readFrame_46 (by decide) ?_
          exact j_iret X hr rfl (by subst ev2 ev1; first | (rw [tFrame, if_neg c_8, if_neg c_17, tF2, if_pos c_28, tF3, if_pos c_43]; done) | (rw [tFrame, if_neg c_8, if_neg c_17, tF2, if_pos c_28, tF3, if_pos c_43]; rfl)) rfl (by subst ev2 ev1; first | (rw [tFrame, if_neg c_8, if_neg c_17, tF2, if_pos c_28, tF3, if_pos c_43]; done) | (rw [tFrame, if_neg c_8, if_neg c_17, tF2, if_pos c_28, tF3, if_pos c_43]; rfl)) dX8_readFrame_47
      · refine j_iconst X (v := 0) dX8_readFrame_31 (by decide) ?_
        refine j_goto X (tgt := 39) dX8_readFrame_32 (by decide) ?_
        refine j_istore_n X (L' := [(3, .int 0), (2, .int v1), (0, .ref (b + 206)), (1, .ref (b + 208))]) dX8_readFrame_39 rfl (by decide) rfl ?_
        refine j_iload_n X 0 dX8_readFrame_40 rfl rfl ?_
        refine j_bipush X (v := (-4)) dX8_readFrame_41 (by decide) ?_
        refine j_icmp_ne X (tgt := 48) dX8_readFrame_43 (by decide) (fun _ => ?_) (fun c_ => absurd c_ (by decide))
        refine j_aload_n X 2 dX8_readFrame_48 rfl rfl ?_
        refine j_bipush X (v := 33) dX8_readFrame_49 (by decide) ?_
        refine j_callVi X (rest := []) (c_X8_skip l) m_yX8_skip kM_RX8_31 (xput_k 206 (by decide)) rfl rfl rfl rfl rfl (Nat.le_of_ble_eq_true rfl) ⟨Nat.le_of_ble_eq_true rfl, Nat.le_of_ble_eq_true rfl, Nat.le_of_ble_eq_true rfl, Nat.le_of_ble_eq_true rfl⟩ dX8_readFrame_51 ?_
        refine j_if_eq X (tgt := 66) dX8_readFrame_54 (by decide) (fun c_54 => ?_) (fun c_54 => ?_)
        · refine j_iconst X (v := 0) dX8_readFrame_66 (by decide) ?_
          refine j_istore X (L' := [(4, .int 0), (3, .int 0), (2, .int v1), (0, .ref (b + 206)), (1, .ref (b + 208))]) dX8_readFrame_67 (by decide) rfl ?_
          refine j_iload X 0 dX8_readFrame_69 rfl ?_
          refine j_bipush X (v := (-4)) dX8_readFrame_71 (by decide) ?_
          refine j_icmp_eq X (tgt := 85) dX8_readFrame_73 (by decide) (fun c_ => absurd c_ (by decide)) (fun _ => ?_)
          refine j_aload_n X 3 dX8_readFrame_76 rfl rfl ?_
          refine j_bipush X (v := 64) dX8_readFrame_77 (by decide) ?_
          refine j_callVi X (rest := []) (c_X8_skip l) m_yX8_skip kM_RX8_31 (xput_k 206 (by decide)) rfl rfl rfl rfl rfl (Nat.le_of_ble_eq_true rfl) ⟨Nat.le_of_ble_eq_true rfl, Nat.le_of_ble_eq_true rfl, Nat.le_of_ble_eq_true rfl, Nat.le_of_ble_eq_true rfl⟩ dX8_readFrame_79 ?_
          refine j_if_ne X (tgt := 87) dX8_readFrame_82 (by decide) (fun c_82 => ?_) (fun c_82 => ?_)
          · refine j_aload_n X 3 dX8_readFrame_87 rfl rfl ?_
            refine j_iconst X (v := 0) dX8_readFrame_88 (by decide) ?_
            refine j_bipush X (v := 7) dX8_readFrame_89 (by decide) ?_
            refine j_callVi X (rest := []) (c_X8_readDigit l) m_yX8_readDigit kM_RX8_39 (xput_k 206 (by decide)) rfl rfl rfl rfl rfl (Nat.le_of_ble_eq_true rfl) ⟨Nat.le_of_ble_eq_true rfl, Nat.le_of_ble_eq_true rfl, Nat.le_of_ble_eq_true rfl, Nat.le_of_ble_eq_true rfl⟩ dX8_readFrame_91 ?_
            refine j_tops (fun v6 ev6 => ?_)
            refine j_istore X (L' := [(5, .int v6), (4, .int 0), (3, .int 0), (2, .int v1), (0, .ref (b + 206)), (1, .ref (b + 208))]) dX8_readFrame_94 (by decide) rfl ?_
            refine j_iload X 0 dX8_readFrame_96 rfl ?_
            refine j_bipush X (v := (-4)) dX8_readFrame_98 (by decide) ?_
            refine j_icmp_ne X (tgt := 105) dX8_readFrame_100 (by decide) (fun c_100 => ?_) (fun c_100 => ?_)
            · refine j_aload_n X 5 dX8_readFrame_105 rfl rfl ?_
              refine j_iload X 0 dX8_readFrame_106 rfl ?_
              refine j_iload_n X 3 dX8_readFrame_108 rfl rfl ?_
              refine j_iload_n X 2 dX8_readFrame_109 rfl rfl ?_
              refine j_iload X 1 dX8_readFrame_110 rfl ?_
              refine j_callVv X (rest := []) (c_X0_append l) m_yX0_append kM_RX8_43 (xput_k 208 (by decide)) rfl rfl rfl rfl rfl (Nat.le_of_ble_eq_true rfl) ⟨Nat.le_of_ble_eq_true rfl, Nat.le_of_ble_eq_true rfl, Nat.le_of_ble_eq_true rfl, Nat.le_of_ble_eq_true rfl⟩ dX8_readFrame_112 ?_
              refine j_iconst X (v := 1) dX8_readFrame_115 (by decide) ?_
              exact j_iret X hr rfl (by subst ev6 ev1; first | (rw [tFrame, if_neg c_8, if_neg c_17, tF2, if_neg c_28, tF3b, if_pos c_54, tF4b, if_neg c_82, tF5, if_neg c_100]; done) | (rw [tFrame, if_neg c_8, if_neg c_17, tF2, if_neg c_28, tF3b, if_pos c_54, tF4b, if_neg c_82, tF5, if_neg c_100]; rfl)) rfl (by subst ev6 ev1; first | (rw [tFrame, if_neg c_8, if_neg c_17, tF2, if_neg c_28, tF3b, if_pos c_54, tF4b, if_neg c_82, tF5, if_neg c_100]; done) | (rw [tFrame, if_neg c_8, if_neg c_17, tF2, if_neg c_28, tF3b, if_pos c_54, tF4b, if_neg c_82, tF5, if_neg c_100]; rfl)) dX8_readFrame_116
            · refine j_iconst X (v := 0) dX8_readFrame_103 (by decide) ?_
              exact j_iret X hr rfl (by subst ev6 ev1; first | (rw [tFrame, if_neg c_8, if_neg c_17, tF2, if_neg c_28, tF3b, if_pos c_54, tF4b, if_neg c_82, tF5, if_pos c_100]; done) | (rw [tFrame, if_neg c_8, if_neg c_17, tF2, if_neg c_28, tF3b, if_pos c_54, tF4b, if_neg c_82, tF5, if_pos c_100]; rfl)) rfl (by subst ev6 ev1; first | (rw [tFrame, if_neg c_8, if_neg c_17, tF2, if_neg c_28, tF3b, if_pos c_54, tF4b, if_neg c_82, tF5, if_pos c_100]; done) | (rw [tFrame, if_neg c_8, if_neg c_17, tF2, if_neg c_28, tF3b, if_pos c_54, tF4b, if_neg c_82, tF5, if_pos c_100]; rfl)) dX8_readFrame_104
          · refine j_iconst X (v := 0) dX8_readFrame_85 (by decide) ?_
            exact j_iret X hr rfl (by subst ev1; first | (rw [tFrame, if_neg c_8, if_neg c_17, tF2, if_neg c_28, tF3b, if_pos c_54, tF4b, if_pos c_82]; done) | (rw [tFrame, if_neg c_8, if_neg c_17, tF2, if_neg c_28, tF3b, if_pos c_54, tF4b, if_pos c_82]; rfl)) rfl (by subst ev1; first | (rw [tFrame, if_neg c_8, if_neg c_17, tF2, if_neg c_28, tF3b, if_pos c_54, tF4b, if_pos c_82]; done) | (rw [tFrame, if_neg c_8, if_neg c_17, tF2, if_neg c_28, tF3b, if_pos c_54, tF4b, if_pos c_82]; rfl)) dX8_readFrame_86
        · refine j_aload_n X 2 dX8_readFrame_57 rfl rfl ?_
          refine j_iconst X (v := 0) dX8_readFrame_58 (by decide) ?_
          refine j_iconst X (v := 3) dX8_readFrame_59 (by decide) ?_
          refine j_callVi X (rest := []) (c_X8_readDigit l) m_yX8_readDigit kM_RX8_39 (xput_k 206 (by decide)) rfl rfl rfl rfl rfl (Nat.le_of_ble_eq_true rfl) ⟨Nat.le_of_ble_eq_true rfl, Nat.le_of_ble_eq_true rfl, Nat.le_of_ble_eq_true rfl, Nat.le_of_ble_eq_true rfl⟩ dX8_readFrame_60 ?_
          refine j_goto X (tgt := 67) dX8_readFrame_63 (by decide) ?_
          refine j_tops (fun v7 ev7 => ?_)
          refine j_istore X (L' := [(4, .int v7), (3, .int 0), (2, .int v1), (0, .ref (b + 206)), (1, .ref (b + 208))]) dX8_readFrame_67 (by decide) rfl ?_
          refine j_iload X 0 dX8_readFrame_69 rfl ?_
          refine j_bipush X (v := (-4)) dX8_readFrame_71 (by decide) ?_
          refine j_icmp_eq X (tgt := 85) dX8_readFrame_73 (by decide) (fun c_73 => ?_) (fun c_73 => ?_)
          · refine j_iconst X (v := 0) dX8_readFrame_85 (by decide) ?_
            exact j_iret X hr rfl (by subst ev7 ev1; first | (rw [tFrame, if_neg c_8, if_neg c_17, tF2, if_neg c_28, tF3b, if_neg c_54, tF4, if_pos c_73]; done) | (rw [tFrame, if_neg c_8, if_neg c_17, tF2, if_neg c_28, tF3b, if_neg c_54, tF4, if_pos c_73]; rfl)) rfl (by subst ev7 ev1; first | (rw [tFrame, if_neg c_8, if_neg c_17, tF2, if_neg c_28, tF3b, if_neg c_54, tF4, if_pos c_73]; done) | (rw [tFrame, if_neg c_8, if_neg c_17, tF2, if_neg c_28, tF3b, if_neg c_54, tF4, if_pos c_73]; rfl)) dX8_readFrame_86
          · refine j_aload_n X 3 dX8_readFrame_76 rfl rfl ?_
            refine j_bipush X (v := 64) dX8_readFrame_77 (by decide) ?_
            refine j_callVi X (rest := []) (c_X8_skip l) m_yX8_skip kM_RX8_31 (xput_k 206 (by decide)) rfl rfl rfl rfl rfl (Nat.le_of_ble_eq_true rfl) ⟨Nat.le_of_ble_eq_true rfl, Nat.le_of_ble_eq_true rfl, Nat.le_of_ble_eq_true rfl, Nat.le_of_ble_eq_true rfl⟩ dX8_readFrame_79 ?_
            refine j_if_ne X (tgt := 87) dX8_readFrame_82 (by decide) (fun c_82 => ?_) (fun c_82 => ?_)
            · refine j_aload_n X 3 dX8_readFrame_87 rfl rfl ?_
              refine j_iconst X (v := 0) dX8_readFrame_88 (by decide) ?_
              refine j_bipush X (v := 7) dX8_readFrame_89 (by decide) ?_
              refine j_callVi X (rest := []) (c_X8_readDigit l) m_yX8_readDigit kM_RX8_39 (xput_k 206 (by decide)) rfl rfl rfl rfl rfl (Nat.le_of_ble_eq_true rfl) ⟨Nat.le_of_ble_eq_true rfl, Nat.le_of_ble_eq_true rfl, Nat.le_of_ble_eq_true rfl, Nat.le_of_ble_eq_true rfl⟩ dX8_readFrame_91 ?_
              refine j_tops (fun v8 ev8 => ?_)
              refine j_istore X (L' := [(5, .int v8), (4, .int v7), (3, .int 0), (2, .int v1), (0, .ref (b + 206)), (1, .ref (b + 208))]) dX8_readFrame_94 (by decide) rfl ?_
              refine j_iload X 0 dX8_readFrame_96 rfl ?_
              refine j_bipush X (v := (-4)) dX8_readFrame_98 (by decide) ?_
              refine j_icmp_ne X (tgt := 105) dX8_readFrame_100 (by decide) (fun c_100 => ?_) (fun c_100 => ?_)
              · refine j_aload_n X 5 dX8_readFrame_105 rfl rfl ?_
                refine j_iload X 0 dX8_readFrame_106 rfl ?_
                refine j_iload_n X 3 dX8_readFrame_108 rfl rfl ?_
                refine j_iload_n X 2 dX8_readFrame_109 rfl rfl ?_
                refine j_iload X 1 dX8_readFrame_110 rfl ?_
                refine j_callVv X (rest := []) (c_X0_append l) m_yX0_append kM_RX8_43 (xput_k 208 (by decide)) rfl rfl rfl rfl rfl (Nat.le_of_ble_eq_true rfl) ⟨Nat.le_of_ble_eq_true rfl, Nat.le_of_ble_eq_true rfl, Nat.le_of_ble_eq_true rfl, Nat.le_of_ble_eq_true rfl⟩ dX8_readFrame_112 ?_
                refine j_iconst X (v := 1) dX8_readFrame_115 (by decide) ?_
                exact j_iret X hr rfl (by subst ev8 ev7 ev1; first | (rw [tFrame, if_neg c_8, if_neg c_17, tF2, if_neg c_28, tF3b, if_neg c_54, tF4, if_neg c_73, tF4b, if_neg c_82, tF5, if_neg c_100]; done) | (rw [tFrame, if_neg c_8, if_neg c_17, tF2, if_neg c_28, tF3b, if_neg c_54, tF4, if_neg c_73, tF4b, if_neg c_82, tF5, if_neg c_100]; rfl)) rfl (by subst ev8 ev7 ev1; first | (rw [tFrame, if_neg c_8, if_neg c_17, tF2, if_neg c_28, tF3b, if_neg c_54, tF4, if_neg c_73, tF4b, if_neg c_82, tF5, if_neg c_100]; done) | (rw [tFrame, if_neg c_8, if_neg c_17, tF2, if_neg c_28, tF3b, if_neg c_54, tF4, if_neg c_73, tF4b, if_neg c_82, tF5, if_neg c_100]; rfl)) dX8_readFrame_116
              · refine j_iconst X (v := 0) dX8_readFrame_103 (by decide) ?_
                exact j_iret X hr rfl (by subst ev8 ev7 ev1; first | (rw [tFrame, if_neg c_8, if_neg c_17, tF2, if_neg c_28, tF3b, if_neg c_54, tF4, if_neg c_73, tF4b, if_neg c_82, tF5, if_pos c_100]; done) | (rw [tFrame, if_neg c_8, if_neg c_17, tF2, if_neg c_28, tF3b, if_neg c_54, tF4, if_neg c_73, tF4b, if_neg c_82, tF5, if_pos c_100]; rfl)) rfl (by subst ev8 ev7 ev1; first | (rw [tFrame, if_neg c_8, if_neg c_17, tF2, if_neg c_28, tF3b, if_neg c_54, tF4, if_neg c_73, tF4b, if_neg c_82, tF5, if_pos c_100]; done) | (rw [tFrame, if_neg c_8, if_neg c_17, tF2, if_neg c_28, tF3b, if_neg c_54, tF4, if_neg c_73, tF4b, if_neg c_82, tF5, if_pos c_100]; rfl)) dX8_readFrame_104
            · refine j_iconst X (v := 0) dX8_readFrame_85 (by decide) ?_
              exact j_iret X hr rfl (by subst ev7 ev1; first | (rw [tFrame, if_neg c_8, if_neg c_17, tF2, if_neg c_28, tF3b, if_neg c_54, tF4, if_neg c_73, tF4b, if_pos c_82]; done) | (rw [tFrame, if_neg c_8, if_neg c_17, tF2, if_neg c_28, tF3b, if_neg c_54, tF4, if_neg c_73, tF4b, if_pos c_82]; rfl)) rfl (by subst ev7 ev1; first | (rw [tFrame, if_neg c_8, if_neg c_17, tF2, if_neg c_28, tF3b, if_neg c_54, tF4, if_neg c_73, tF4b, if_pos c_82]; done) | (rw [tFrame, if_neg c_8, if_neg c_17, tF2, if_neg c_28, tF3b, if_neg c_54, tF4, if_neg c_73, tF4b, if_pos c_82]; rfl)) dX8_readFrame_86
    · refine j_iconst X (v := 0) dX8_readFrame_20 (by decide) ?_
      exact j_iret X hr rfl (by subst ev1; first | (rw [tFrame, if_neg c_8, if_pos c_17]; done) | (rw [tFrame, if_neg c_8, if_pos c_17]; rfl)) rfl (by subst ev1; first | (rw [tFrame, if_neg c_8, if_pos c_17]; done) | (rw [tFrame, if_neg c_8, if_pos c_17]; rfl)) dX8_readFrame_21
