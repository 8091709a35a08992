set_option maxRecDepth 100000 in
set_option maxHeartbeats 8000000 in
theorem c_X6_comeIn (l : Launch) {D : DD} {B z : Nat} {h : HF} {a : Nat} {σ : St} {p s d pr : Int32} : CT l yX6_comeIn cX6_comeIn 8 (some .int) 4 97 [.ref a, .int p, .int s, .int d, .int pr] D B z (hput D h a σ) (some (.int ((sCome σ p s d pr).1))) 0 0 (hput D h a ((sCome σ p s d pr).2)) := by
  refine CT.of (L := [(0, .ref a), (1, .int p), (2, .int s), (3, .int d), (4, .int pr)]) (by decide +kernel) (Nat.le_of_ble_eq_true rfl) rfl ?_
  intro P E S0 M0 AR BL ME CO X hr hnm
  refine j_aload_n X 0 dX6_comeIn_0 rfl rfl ?_
  refine j_iload_n X 1 dX6_comeIn_1 rfl rfl ?_
  refine j_iload_n X 2 dX6_comeIn_2 rfl rfl ?_
  refine j_iload_n X 3 dX6_comeIn_3 rfl rfl ?_
  refine j_callVi X (rest := []) (c_X6_learnAndDecide l) m_yX6_learnAndDecide kM_RX6_96 hput_0 rfl rfl rfl rfl rfl (Nat.le_of_ble_eq_true rfl) ⟨Nat.le_of_ble_eq_true rfl, Nat.le_of_ble_eq_true rfl, Nat.le_of_ble_eq_true rfl, Nat.le_of_ble_eq_true rfl⟩ dX6_comeIn_4 ?_
  refine j_tops (fun v1 ev1 => ?_)
  refine j_istore X (L' := [(5, .int v1), (0, .ref a), (1, .int p), (2, .int s), (3, .int d), (4, .int pr)]) dX6_comeIn_7 (by decide) rfl ?_
  refine j_aload_n X 1 dX6_comeIn_9 rfl rfl ?_
  refine j_iload X 0 dX6_comeIn_10 rfl ?_
  refine j_iload_n X 2 dX6_comeIn_12 rfl rfl ?_
  refine j_iload_n X 4 dX6_comeIn_13 rfl rfl ?_
  refine j_callVi X (rest := []) (c_X6_waysOut l) m_yX6_waysOut kM_RX6_100 hput_0 rfl rfl rfl rfl rfl (Nat.le_of_ble_eq_true rfl) ⟨Nat.le_of_ble_eq_true rfl, Nat.le_of_ble_eq_true rfl, Nat.le_of_ble_eq_true rfl, Nat.le_of_ble_eq_true rfl⟩ dX6_comeIn_14 ?_
  refine j_tops (fun v2 ev2 => ?_)
  refine j_istore X (L' := [(6, .int v2), (5, .int v1), (0, .ref a), (1, .int p), (2, .int s), (3, .int d), (4, .int pr)]) dX6_comeIn_17 (by decide) rfl ?_
  refine j_iconst X (v := 0) dX6_comeIn_19 (by decide) ?_
  refine j_istore X (L' := [(7, .int 0), (6, .int v2), (5, .int v1), (0, .ref a), (1, .int p), (2, .int s), (3, .int d), (4, .int pr)]) dX6_comeIn_20 (by decide) rfl ?_
  have loop22 : ∀ (n k : Nat), k + n = 8 → J P l E { frames := 4, cells := 0, slots := 0, locals := 97 } S0 M0 AR BL ME CO D B 8 (MQ BL (QC (some (.int ((sCome σ p s d pr).1))) D B (z + 0) (hput D h a ((sCome σ p s d pr).2))) AR S0 0 0 (aB B)) 0 0 z (hput D h a (sGo (sLD σ p s d).2 v2 s d pr k)) [(0, .ref a), (1, .int p), (2, .int s), (3, .int d), (4, .int pr), (5, .int v1), (6, .int v2), (7, .int (nI k))] [] 22 := by
    intro n
    induction n with
    | zero =>
      intro k hk
      obtain rfl : k = 8 := by omega
      refine j_iload X 7 dX6_comeIn_22 rfl ?_
      refine j_bipush X (v := 8) dX6_comeIn_24 (by decide) ?_
      refine j_icmp_ge X (tgt := 56) dX6_comeIn_26 (by decide) (fun c_26 => ?_) (fun c_26 => absurd c_26 (by decide))
      refine j_aload_n X 0 dX6_comeIn_56 rfl rfl ?_
      refine j_get X fG_RX6_27 hput_0 rfl rfl dX6_comeIn_57 ?_
      refine j_iload_n X 1 dX6_comeIn_60 rfl rfl ?_
      refine j_iconst X (v := 0) dX6_comeIn_61 (by decide) ?_
      refine j_iconst X (v := 1) dX6_comeIn_62 (by decide) ?_
      refine j_callVv X (rest := []) (c_X3_credit l) m_yX3_credit kM_RX6_92 (hput_k 3 (by decide)) rfl rfl rfl rfl rfl (Nat.le_of_ble_eq_true rfl) ⟨Nat.le_of_ble_eq_true rfl, Nat.le_of_ble_eq_true rfl, Nat.le_of_ble_eq_true rfl, Nat.le_of_ble_eq_true rfl⟩ dX6_comeIn_63 ?_
      refine j_aload_n X 0 dX6_comeIn_66 rfl rfl ?_
      refine j_get X fG_RX6_27 hput_0 rfl rfl dX6_comeIn_67 ?_
      refine j_iload_n X 1 dX6_comeIn_70 rfl rfl ?_
      refine j_iload X 5 dX6_comeIn_71 rfl ?_
      refine j_callSi X (rest := [.int p, .ref (a + 3)]) (c_X6_accountOf l) m_yX6_accountOf kM_RX6_107 rfl rfl (Nat.le_of_ble_eq_true rfl) ⟨Nat.le_of_ble_eq_true rfl, Nat.le_of_ble_eq_true rfl, Nat.le_of_ble_eq_true rfl, Nat.le_of_ble_eq_true rfl⟩ dX6_comeIn_73 ?_
      refine j_iconst X (v := 1) dX6_comeIn_76 (by decide) ?_
      refine j_callVv X (rest := []) (c_X3_credit l) m_yX3_credit kM_RX6_92 (hput_k 3 (by decide)) rfl rfl rfl rfl rfl (Nat.le_of_ble_eq_true rfl) ⟨Nat.le_of_ble_eq_true rfl, Nat.le_of_ble_eq_true rfl, Nat.le_of_ble_eq_true rfl, Nat.le_of_ble_eq_true rfl⟩ dX6_comeIn_77 ?_
      refine j_iload X 5 dX6_comeIn_80 rfl ?_
      exact j_iret X hr rfl (by subst ev2 ev1; first | with_reducible rfl | (simp only [sCome, if_neg c_26]; done) | (simp only [sCome, if_neg c_26]; rfl) | rfl) rfl (by subst ev2 ev1; first | with_reducible rfl | (simp only [sCome, if_neg c_26]; done) | (simp only [sCome, if_neg c_26]; rfl) | rfl) dX6_comeIn_82
    | succ n ih =>
      intro k hk
      have hlt : nI k < 8 := nlt_lit (b := 8) (by omega) (by decide)
      refine j_iload X 7 dX6_comeIn_22 rfl ?_
      refine j_bipush X (v := 8) dX6_comeIn_24 (by decide) ?_
      refine j_icmp_ge X (tgt := 56) dX6_comeIn_26 (by decide) (fun c_26 => absurd hlt c_26) (fun c_26 => ?_)
      refine j_iload X 6 dX6_comeIn_29 rfl ?_
      refine j_iload X 7 dX6_comeIn_31 rfl ?_
      refine j_ishr X dX6_comeIn_33 ?_
      refine j_iconst X (v := 1) dX6_comeIn_34 (by decide) ?_
      refine j_iand X dX6_comeIn_35 ?_
      refine j_iconst X (v := 1) dX6_comeIn_36 (by decide) ?_
      refine j_icmp_ne X (tgt := 50) dX6_comeIn_37 (by decide) (fun c_37 => ?_) (fun c_37 => ?_)
      · obtain ⟨v3, ev3⟩ : ∃ y : Int32, (nI k) + 1 = y := ⟨_, rfl⟩
        refine j_iinc X 7 (k := 1) (v := v3) (L' := [(7, .int v3), (0, .ref a), (1, .int p), (2, .int s), (3, .int d), (4, .int pr), (5, .int v1), (6, .int v2)]) dX6_comeIn_50 rfl (by decide) (by decide) ev3 rfl ?_
        refine j_goto X (tgt := 22) dX6_comeIn_53 (by decide) ?_
        refine j_sub [1, 2, 3, 4, 5, 6, 7, 0] (L' := [(0, .ref a), (1, .int p), (2, .int s), (3, .int d), (4, .int pr), (5, .int v1), (6, .int v2), (7, .int (nI (k + 1)))]) (by subst ev3 ev2 ev1; first | with_reducible rfl | (simp only [sGo, nI_succ k, if_pos c_26, if_neg c_37]; done) | (simp only [sGo, nI_succ k, if_pos c_26, if_neg c_37]; rfl) | rfl) ?_
        refine j_heap (h' := hput D h a (sGo (sLD σ p s d).2 v2 s d pr (k + 1))) (by subst ev3 ev2 ev1; first | with_reducible rfl | (simp only [sGo, nI_succ k, if_pos c_26, if_neg c_37]; done) | (simp only [sGo, nI_succ k, if_pos c_26, if_neg c_37]; rfl) | rfl) ?_
        exact ih (k + 1) (by omega)
      · refine j_aload_n X 0 dX6_comeIn_40 rfl rfl ?_
        refine j_iload X 7 dX6_comeIn_41 rfl ?_
        refine j_iload_n X 2 dX6_comeIn_43 rfl rfl ?_
        refine j_iload_n X 3 dX6_comeIn_44 rfl rfl ?_
        refine j_iload X 4 dX6_comeIn_45 rfl ?_
        refine j_callVv X (rest := []) (c_X6_goOut l) m_yX6_goOut kM_RX6_103 hput_0 rfl rfl rfl rfl rfl (Nat.le_of_ble_eq_true rfl) ⟨Nat.le_of_ble_eq_true rfl, Nat.le_of_ble_eq_true rfl, Nat.le_of_ble_eq_true rfl, Nat.le_of_ble_eq_true rfl⟩ dX6_comeIn_47 ?_
        obtain ⟨v4, ev4⟩ : ∃ y : Int32, (nI k) + 1 = y := ⟨_, rfl⟩
        refine j_iinc X 7 (k := 1) (v := v4) (L' := [(7, .int v4), (0, .ref a), (1, .int p), (2, .int s), (3, .int d), (4, .int pr), (5, .int v1), (6, .int v2)]) dX6_comeIn_50 rfl (by decide) (by decide) ev4 rfl ?_
        refine j_goto X (tgt := 22) dX6_comeIn_53 (by decide) ?_
        refine j_sub [1, 2, 3, 4, 5, 6, 7, 0] (L' := [(0, .ref a), (1, .int p), (2, .int s), (3, .int d), (4, .int pr), (5, .int v1), (6, .int v2), (7, .int (nI (k + 1)))]) (by subst ev4 ev2 ev1; first | with_reducible rfl | (simp only [sGo, nI_succ k, if_pos c_26, if_pos c_37]; done) | (simp only [sGo, nI_succ k, if_pos c_26, if_pos c_37]; rfl) | rfl) ?_
        refine j_heap (h' := hput D h a (sGo (sLD σ p s d).2 v2 s d pr (k + 1))) (by subst ev4 ev2 ev1; first | with_reducible rfl | (simp only [sGo, nI_succ k, if_pos c_26, if_pos c_37]; done) | (simp only [sGo, nI_succ k, if_pos c_26, if_pos c_37]; rfl) | rfl) ?_
        exact ih (k + 1) (by omega)
  refine j_sub [3, 4, 5, 6, 7, 2, 1, 0] (L' := [(0, .ref a), (1, .int p), (2, .int s), (3, .int d), (4, .int pr), (5, .int v1), (6, .int v2), (7, .int (nI 0))]) (by subst ev2 ev1; first | with_reducible rfl | (simp only [sGo]; done) | (simp only [sGo]; rfl) | rfl) ?_
  refine j_heap (h' := hput D h a (sGo (sLD σ p s d).2 v2 s d pr 0)) (by subst ev2 ev1; first | with_reducible rfl | (simp only [sGo]; done) | (simp only [sGo]; rfl) | rfl) ?_
  exact loop22 8 0 rfl
