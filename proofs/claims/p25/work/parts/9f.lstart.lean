theorem xput_hupd {D : DD} {g : HF} {b : Nat} {x : va_E} {S : Sy} : xput D (hupd g b x) b S = xput D g b S := by
  funext q
  unfold xput
  by_cases c1 : b ≤ q ∧ q < b + 211
  · rw [if_pos c1, if_pos c1]
  · rw [if_neg c1, if_neg c1, hupd_ne (by omega)]
def S01 : Sy := xsc (xsc S00 5 0) 4 0
theorem xv_0 : XV 0 0 S01 := ⟨fun i hi => ⟨0, 0, 0, Nat.le_refl 0, Nat.le_refl 0, Nat.le_refl 0, iv_0⟩, ⟨by decide, rfl⟩, 0, by decide, rfl⟩
theorem rd_0 : xReadFrames 0 S00 = (-100, S01) := by
  have s1 : tSign S01 0 = -1 := by
    unfold tSign
    rw [if_neg (show ¬ (0 : Int32) < 0 by decide), if_neg (show ¬ (0 : Int32) < S01.2.1 3 from (show ¬ (0 : Int32) < 0 by decide))]
  have d1 : tDigit S01 1 9 = (-4, S01) := by
    unfold tDigit
    rw [show S01.2.1 4 = 0 from rfl, s1, if_pos (show (-1 : Int32) - 48 < 1 by decide)]
  have a1 : tAddress S01 = (-4, S01) := by
    unfold tAddress
    rw [d1, if_pos rfl]
  have f1 : tFrame S01 = (0, S01) := by
    unfold tFrame
    rw [a1, if_pos rfl]
  have r1 : tRead S00 = (0, S01) := by
    show tInto (71 + 1) 0 S01 = _
    unfold tInto
    rw [if_neg (show ¬ S01.2.1 3 < nI 0 from (show ¬ (0 : Int32) < nI 0 by decide)), f1, if_pos rfl]
    rfl
  unfold xReadFrames
  rw [r1, if_neg (show ¬ (0 : Int32) = -1 by decide)]
  rfl
theorem un_0 : xUndo 0 S00 = (-4, S00) := by
  have e : xBack 0 S00 = (0, S00) := by
    unfold xBack
    rw [if_pos (show S00.2.1 2 = 0 from rfl)]
  unfold xUndo
  rw [e, if_pos rfl]
theorem rs_0 : xRestore 0 S00 = (-4, S00) := by
  unfold xRestore
  rw [if_pos (show S00.2.1 0 = 0 from rfl)]
theorem pa_0 : xPartC 0 S01 0 = (-4, S01) := by
  have f : pFar (S01.1 0) (nI 0) = -4 := by
    show oAt 4 8 (sI 4) (nI 0) = -4
    rw [oAt_k (by decide) (by decide), (sI_n (by decide) 4).1]
    show rFill 8 (fun _ => 0) (nI 0) (nI 8) (-4) 0 = -4
    exact rFill_at (n := 8) (by decide) (by decide)
  have f : pFar (S01.1 0) 0 = -4 := f
  unfold xPartC
  rw [if_neg (show ¬ isPort 0 = 0 by decide), if_pos f]
theorem ct_0 : xCount S01 6 = 8 := by
  rw [xc6]
  show bitC (pOnes (sI 4) 8) = 8
  decide +kernel
theorem fr_1 : xFrame 0 S01 8 1 1 0 = (-1, S01) := by
  unfold xFrame
  rw [if_pos (show isPort 8 = 0 by decide)]
theorem fr_2 : xFrame 0 S01 0 0 1 0 = (-2, S01) := by
  unfold xFrame
  rw [if_neg (show ¬ isPort 0 = 0 by decide), if_pos (show isAddr 0 = 0 by decide)]
theorem ps_0 : xPass 0 S01 11 = (-2, S01) := by
  unfold xPass
  rw [if_neg (show ¬ (11 : Int32) < 1 by decide), if_pos (show (10 : Int32) < 11 by decide)]
theorem jn_0 : xJoin 0 S01 0 8 = (-1, S01) := by
  unfold xJoin
  rw [if_neg (show ¬ isPort 0 = 0 by decide), if_pos (show isPort 8 = 0 by decide)]
theorem k_read (l : Launch) {D : DD} {B z : Nat} {h : HF} {b : Nat} : CT l yX9_readFrames cX9_readFrames 2 (some .int) 6 148 [.ref b] D B z (xput D h b S00) (some (.int (-100))) 0 0 (xput D h b S01) := by
  have w := c_X9_readFrames (D := D) (B := B) (z := z) (h := h) (b := b) (S := S00) (nx := 0) l (by decide) rfl (m := 0) (by decide) rfl
  rw [rd_0] at w
  exact w
theorem arr_of {s : State} {args : Array Value} {ty : FieldType} (h : (Cond.arrayClass ty).before args s = true) : ∃ cA : ClassId, ArrOfT s cA ty ∧ s.vm.findClass ("[" ++ ty.toString) = some cA := by
  obtain ⟨c, k, comp, h1, h2, h3⟩ := Cond.arrayClass_spec h
  exact ⟨c, fun n z => ⟨fun k h => (by cases h), k, h2, comp, h3⟩, h1⟩
theorem arr_over {s : State} {args : Array Value} {n : String} (h : (Cond.arrayOver (.object n)).before args s = true) : ∃ cA : ClassId, ArrOfT s cA (.object n) ∧ va_RA s cA (.object n) := by
  obtain ⟨comp, c, k, h1, h2, h3, h4, h5⟩ := Cond.arrayOver_spec h
  exact ⟨c, fun n z => ⟨fun k h => (by cases h), k, h3, comp, h4⟩, k, comp, h3, h4, h1, h5⟩
theorem st_of {b : Nat} {s : State} (f : Nat → Int32) (n : String) (hs : (Jvm.Cond.and given_1 narrow_1).before #[Value.ref b] s = true)
    (h1 : (Cond.arrayOf (.static "LearningRepeater" n "[I") .int).before #[Value.ref b] s = true) (h2 : (Cond.eq (.length (.static "LearningRepeater" n "[I")) (.int 4)).before #[Value.ref b] s = true)
    (e0 : (Cond.eq (.elem (.static "LearningRepeater" n "[I") (.int 0)) (.int (f 0))).before #[Value.ref b] s = true) (e1 : (Cond.eq (.elem (.static "LearningRepeater" n "[I") (.int 1)) (.int (f 1))).before #[Value.ref b] s = true) (e2 : (Cond.eq (.elem (.static "LearningRepeater" n "[I") (.int 2)) (.int (f 2))).before #[Value.ref b] s = true) (e3 : (Cond.eq (.elem (.static "LearningRepeater" n "[I") (.int 3)) (.int (f 3))).before #[Value.ref b] s = true)
    (hl : (Cond.laysStatic "LearningRepeater" n "[I").before #[Value.ref b] s = true) (hini : (Cond.initialized "LearningRepeater").before #[Value.ref b] s = true) : ∃ t : Nat, va_Z "LearningRepeater" n "[I" (.ref t) (aB s.heap.size) s s.heap ∧ va_T .int t 4 (fun j => .int (f j)) (aB s.heap.size) s s.heap := by
  have hA : ∀ a : Nat, a < s.heap.size → ¬ aB s.heap.size a := fun a ha q => Nat.not_le.mpr ha q
  obtain ⟨t, q1, q2⟩ := va_Tof (N := 4) (f := fun j => .int (f j)) (A := aB s.heap.size) (by decide) h1 (va_eqt h2) (fun j hj => by
    rcases (show j = 0 ∨ j = 1 ∨ j = 2 ∨ j = 3 by omega) with rfl | rfl | rfl | rfl
    · exact va_eqt e0
    · exact va_eqt e1
    · exact va_eqt e2
    · exact va_eqt e3) hA
  exact ⟨t, va_Zref hl hini q1 hA, q2⟩
def dcF (c0 c1 c2 c3 c4 c5 c6 c7 c8 c9 : ClassId) : Nat → ClassId := fun k => if k = 0 then c0 else if k = 1 then c1 else if k = 2 then c2 else if k = 3 then c3 else if k = 4 then c4 else if k = 5 then c5 else if k = 6 then c6 else if k = 7 then c7 else if k = 8 then c8 else c9
def diF (c0 c1 c2 c3 c4 c5 c6 c7 c8 c9 : Nat → Nat) : Nat → Nat → Nat := fun k => if k = 0 then c0 else if k = 1 then c1 else if k = 2 then c2 else if k = 3 then c3 else if k = 4 then c4 else if k = 5 then c5 else if k = 6 then c6 else if k = 7 then c7 else if k = 8 then c8 else c9
set_option maxHeartbeats 4000000 in
theorem cx_start {p : Program} {s : State} {m : MethodId} {meth : Method} {c : Code} {b L : Nat} {xs : Nat → Int32} (C0 : lw_At p s m meth c b L xs) : ∃ D : DD, Cx p s m #[Value.ref b] meth c code 13 RL D s.heap.size := by
  obtain ⟨hx, hb, hr, hml, hown, hts, hX, hbl, hlocks, hgv⟩ := id C0
  have hg := gt_tbl hts
  have hs := flat_of_before _ hgv
  obtain ⟨c0, i0, k0⟩ := u_known (C := RX0) (T := TX0) (N := 2) (n := 2) hg inK0 (hg _ kA_RX0)
  obtain ⟨c1, i1, k1⟩ := u_known (C := RX1) (T := TX1) (N := 3) (n := 3) hg inK1 (hg _ kA_RX1)
  obtain ⟨c2, i2, k2⟩ := u_known (C := RX2) (T := TX2) (N := 1) (n := 1) hg inK2 (hg _ kA_RX2)
  obtain ⟨c3, i3, k3⟩ := u_known (C := RX3) (T := TX3) (N := 6) (n := 6) hg inK3 (hg _ kA_RX3)
  obtain ⟨c4, i4, k4⟩ := u_known (C := RX4) (T := TX4) (N := 2) (n := 2) hg inK4 (hg _ kA_RX4)
  obtain ⟨c5, i5, k5⟩ := u_known (C := RX5) (T := TX5) (N := 1) (n := 1) hg inK5 (hg _ kA_RX5)
  obtain ⟨c6, i6, k6⟩ := u_known (C := RX6) (T := TX6) (N := 8) (n := 8) hg inK6 (hg _ kA_RX6)
  obtain ⟨c7, i7, k7⟩ := u_known (C := RX7) (T := TX7) (N := 3) (n := 3) hg inK7 (hg _ kA_RX7)
  obtain ⟨c8, i8, k8⟩ := u_known (C := RX8) (T := TX8) (N := 3) (n := 3) hg inK8 (hg _ kA_RX8)
  obtain ⟨c9, i9, k9⟩ := u_known (C := RX9) (T := TX9) (N := 7) (n := 7) hg inK9 (hg _ kA_RX9)
  obtain ⟨aI, aI1, aI2⟩ := arr_of (hg _ kZ_1)
  obtain ⟨aC, aC1, aC2⟩ := arr_of (hg _ kZ_3)
  obtain ⟨aS, aS1, aS2⟩ := arr_over (hts _ kZ_2)
  obtain ⟨tF, tF1, tF2⟩ := st_of fsF "FIRST_SETTINGS" hgv (hs _ (by decide +kernel)) (hs _ (by decide +kernel)) (hs _ (by decide +kernel)) (hs _ (by decide +kernel)) (hs _ (by decide +kernel)) (hs _ (by decide +kernel)) (hts _ kZ_0) (hg _ kI_RX9)
  obtain ⟨tG, tG1, tG2⟩ := st_of fsG "GREATEST_SETTINGS" hgv (hs _ (by decide +kernel)) (hs _ (by decide +kernel)) (hs _ (by decide +kernel)) (hs _ (by decide +kernel)) (hs _ (by decide +kernel)) (hs _ (by decide +kernel)) (hts _ kZ_4) (hg _ kI_RX9)
  refine ⟨((dcF c0 c1 c2 c3 c4 c5 c6 c7 c8 c9, diF i0 i1 i2 i3 i4 i5 i6 i7 i8 i9), (aI, aC, aS), (tF, tG)), hx, hb, hml, hown, hg, ⟨?_, ?_⟩, ⟨?_, ?_, ?_⟩, ⟨⟨tF1, tF2⟩, tG1, tG2⟩, Nat.le_refl _, hlocks⟩
  · intro k q hq
    match k, hq with
    | 0, hq => cases hq; exact k0
    | 1, hq => cases hq; exact k1
    | 2, hq => cases hq; exact k2
    | 3, hq => cases hq; exact k3
    | 4, hq => cases hq; exact k4
    | 5, hq => cases hq; exact k5
    | 6, hq => cases hq; exact k6
    | 7, hq => cases hq; exact k7
    | 8, hq => cases hq; exact k8
    | 9, hq => cases hq; exact k9
    | k + 10, hq => exact absurd hq (by simp [vwCl])
  · intro k q hq
    match k, hq with
    | 0, hq => cases hq; exact ⟨aI1, aI2⟩
    | 1, hq => cases hq; exact ⟨aC1, aC2⟩
    | 2, hq => cases hq; exact ⟨aS1, aS2⟩
    | k + 3, hq => exact absurd hq (by simp [tysD])
  · exact fun q hq => va_Nw.of rfl (hts _ (List.mem_append_right _ (nestF_in q hq)))
  · exact fun q hq => va_Nw.of rfl (hts _ (List.mem_append_right _ (nestM_in q hq)))
  · exact va_AO.of (hts _ kZ_2)
set_option maxRecDepth 100000 in
theorem law_first {p : Program} {l : Launch} {e : Env} {s : State} {m : MethodId} {below : List Frame} {meth : Method} {c : Code} {D : DD} {b : Nat} {B : Nat} (X : Cx p s m #[Value.ref b] meth c code 13 RL D B) (K : LJ p l e s m below meth c D B b S01 211 12766 [(0, .ref b), (1, .ref B), (2, .int (nI 0))] [] 108) : LJ p l e s m below meth c D B b S00 211 12766 [(1, .ref B), (0, .ref b)] [] 8 := by
  have n0 : 0 < 4 ∧ S00.2.1 1 = nI 0 := ⟨by decide, rfl⟩
  have n1 : 0 < 4 ∧ S01.2.1 1 = nI 0 := ⟨by decide, rfl⟩
  refine j_aload_n X 0 dL_law_8 rfl rfl ?_
  refine j_callVi X (rest := []) (k_undo l n0 un_0) m_yX9_undo kM_RL_103 xput_0 rfl rfl rfl rfl rfl (Nat.le_of_ble_eq_true rfl) ⟨Nat.le_of_ble_eq_true rfl, Nat.le_of_ble_eq_true rfl, rm_c (by omega), rm_s (by omega)⟩ dL_law_9 ?_
  refine j_bipush X (v := (-4)) dL_law_12 (by decide) ?_
  refine j_icmp_ne X (tgt := 104) dL_law_14 (by decide) (fun c_ => absurd (by decide) c_) (fun _ => ?_)
  refine j_aload_n X 0 dL_law_17 rfl rfl ?_
  refine j_callVi X (rest := []) (k_restore l n0 rs_0) m_yX9_restore kM_RL_77 xput_0 rfl rfl rfl rfl rfl (Nat.le_of_ble_eq_true rfl) ⟨Nat.le_of_ble_eq_true rfl, Nat.le_of_ble_eq_true rfl, rm_c (by omega), rm_s (by omega)⟩ dL_law_18 ?_
  refine j_bipush X (v := (-4)) dL_law_21 (by decide) ?_
  refine j_icmp_ne X (tgt := 104) dL_law_23 (by decide) (fun c_ => absurd (by decide) c_) (fun _ => ?_)
  refine j_aload_n X 0 dL_law_26 rfl rfl ?_
  refine j_callVi X (rest := []) (k_read l) m_yX9_readFrames kM_RL_106 xput_0 rfl rfl rfl rfl rfl (Nat.le_of_ble_eq_true rfl) ⟨Nat.le_of_ble_eq_true rfl, Nat.le_of_ble_eq_true rfl, rm_c (by omega), rm_s (by omega)⟩ dL_law_27 ?_
  refine j_bipush X (v := (-100)) dL_law_30 (by decide) ?_
  refine j_icmp_ne X (tgt := 104) dL_law_32 (by decide) (fun c_ => absurd (by decide) c_) (fun _ => ?_)
  refine j_aload_n X 0 dL_law_35 rfl rfl ?_
  refine j_iconst X (v := 0) dL_law_36 (by decide) ?_
  refine j_callVi X (rest := []) (k_part l n1 pa_0) m_yX9_part kM_RL_86 xput_0 rfl rfl rfl rfl rfl (Nat.le_of_ble_eq_true rfl) ⟨Nat.le_of_ble_eq_true rfl, Nat.le_of_ble_eq_true rfl, rm_c (by omega), rm_s (by omega)⟩ dL_law_37 ?_
  refine j_bipush X (v := (-4)) dL_law_40 (by decide) ?_
  refine j_icmp_ne X (tgt := 104) dL_law_42 (by decide) (fun c_ => absurd (by decide) c_) (fun _ => ?_)
  refine j_aload_n X 0 dL_law_45 rfl rfl ?_
  refine j_bipush X (v := 6) dL_law_46 (by decide) ?_
  refine j_callVi X (rest := []) (k_count l ct_0) m_yX9_count kM_RL_13 xput_0 rfl rfl rfl rfl rfl (Nat.le_of_ble_eq_true rfl) ⟨Nat.le_of_ble_eq_true rfl, Nat.le_of_ble_eq_true rfl, rm_c (by omega), rm_s (by omega)⟩ dL_law_48 ?_
  refine j_bipush X (v := 8) dL_law_51 (by decide) ?_
  refine j_icmp_ne X (tgt := 104) dL_law_53 (by decide) (fun c_ => absurd (by decide) c_) (fun _ => ?_)
  refine j_aload_n X 0 dL_law_56 rfl rfl ?_
  refine j_bipush X (v := 8) dL_law_57 (by decide) ?_
  refine j_iconst X (v := 1) dL_law_59 (by decide) ?_
  refine j_iconst X (v := 1) dL_law_60 (by decide) ?_
  refine j_iconst X (v := 0) dL_law_61 (by decide) ?_
  refine j_callVi X (rest := []) (k_frame l n1 fr_1) m_yX9_frame kM_RL_63 xput_0 rfl rfl rfl rfl rfl (Nat.le_of_ble_eq_true rfl) ⟨Nat.le_of_ble_eq_true rfl, Nat.le_of_ble_eq_true rfl, rm_c (by omega), rm_s (by omega)⟩ dL_law_62 ?_
  refine j_iconst X (v := (-1)) dL_law_65 (by decide) ?_
  refine j_icmp_ne X (tgt := 104) dL_law_66 (by decide) (fun c_ => absurd (by decide) c_) (fun _ => ?_)
  refine j_aload_n X 0 dL_law_69 rfl rfl ?_
  refine j_iconst X (v := 0) dL_law_70 (by decide) ?_
  refine j_iconst X (v := 0) dL_law_71 (by decide) ?_
  refine j_iconst X (v := 1) dL_law_72 (by decide) ?_
  refine j_iconst X (v := 0) dL_law_73 (by decide) ?_
  refine j_callVi X (rest := []) (k_frame l n1 fr_2) m_yX9_frame kM_RL_63 xput_0 rfl rfl rfl rfl rfl (Nat.le_of_ble_eq_true rfl) ⟨Nat.le_of_ble_eq_true rfl, Nat.le_of_ble_eq_true rfl, rm_c (by omega), rm_s (by omega)⟩ dL_law_74 ?_
  refine j_bipush X (v := (-2)) dL_law_77 (by decide) ?_
  refine j_icmp_ne X (tgt := 104) dL_law_79 (by decide) (fun c_ => absurd (by decide) c_) (fun _ => ?_)
  refine j_aload_n X 0 dL_law_82 rfl rfl ?_
  refine j_bipush X (v := 11) dL_law_83 (by decide) ?_
  refine j_callVi X (rest := []) (k_pass l n1 ps_0) m_yX9_pass kM_RL_70 xput_0 rfl rfl rfl rfl rfl (Nat.le_of_ble_eq_true rfl) ⟨Nat.le_of_ble_eq_true rfl, Nat.le_of_ble_eq_true rfl, rm_c (by omega), rm_s (by omega)⟩ dL_law_85 ?_
  refine j_bipush X (v := (-2)) dL_law_88 (by decide) ?_
  refine j_icmp_ne X (tgt := 104) dL_law_90 (by decide) (fun c_ => absurd (by decide) c_) (fun _ => ?_)
  refine j_aload_n X 0 dL_law_93 rfl rfl ?_
  refine j_iconst X (v := 0) dL_law_94 (by decide) ?_
  refine j_bipush X (v := 8) dL_law_95 (by decide) ?_
  refine j_callVi X (rest := []) (k_join l n1 jn_0) m_yX9_join kM_RL_83 xput_0 rfl rfl rfl rfl rfl (Nat.le_of_ble_eq_true rfl) ⟨Nat.le_of_ble_eq_true rfl, Nat.le_of_ble_eq_true rfl, rm_c (by omega), rm_s (by omega)⟩ dL_law_97 ?_
  refine j_iconst X (v := (-1)) dL_law_100 (by decide) ?_
  refine j_icmp_eq X (tgt := 106) dL_law_101 (by decide) (fun _ => ?_) (fun c_ => absurd (by decide) c_)
  refine j_iconst X (v := 0) dL_law_106 (by decide) ?_
  refine j_istore_n X (L' := [(2, .int 0), (1, .ref B), (0, .ref b)]) dL_law_107 rfl (by decide) rfl ?_
  refine j_sub [2, 1, 0] (L' := [(0, .ref b), (1, .ref B), (2, .int (nI 0))]) rfl ?_
  exact K
theorem law_end {p : Program} {l : Launch} {e : Env} {s : State} {m : MethodId} {below : List Frame} {meth : Method} {c : Code} {D : DD} {b : Nat} (X : Cx p s m #[Value.ref b] meth c code 13 RL D s.heap.size) (hr : meth.sig.returnType = ret) {S : Sy} {cl sl : Nat} {K : List (Nat × Value)} (hcl : cl ≤ 900) (hsl : sl ≤ 19000) : LJ p l e s m below meth c D s.heap.size b S cl sl K [.int 1] 466 :=
  fun _ _ _ _ _ hS _ => va_forget (fun q hq => hS.2.2 q hq) (W.widen (k := 600000) (n := 7302249) (Nat.le_trans hcl (Nat.le_of_ble_eq_true rfl)) (Nat.le_trans hsl (Nat.le_of_ble_eq_true rfl)) (lw_ret X.1 X.2.1 hr X.2.2.2.2.2.2.2.2.2 dL_law_466))
set_option maxHeartbeats 4000000 in
/-- YOUR PART: from the entry, for every script of at most 260 ints, the law comes to its end with true ('hflags': the launch's flags, for a law that throws: no stack traces) -/
theorem whole_start {p : Program} {e : Env} {s : State} {m : MethodId} {below : List Frame} {meth : Method} {c : Code} (l : Launch) (hflags : l.flags = flags0) {b L : Nat} {xs : Nat → Int32} (hL : L ≤ 260) (C0 : lw_At p s m meth c b L xs) : W p l e room_1 s m #[Value.ref b] below meth c s.heap [] 0 0 (lw_Z below #[Value.ref b] s) (entryFrame m ([Value.ref b] : List Value).toArray 13) := by
  obtain ⟨D, X⟩ := cx_start C0
  obtain ⟨-, -, hr, -, -, -, hX, hbl, -, -⟩ := C0
  have start : J p l e room_1 s m #[Value.ref b] below meth c D s.heap.size 13 (lw_Z below #[Value.ref b] s) 0 0 s.heap.size g0 [(0, .ref b)] [] 0 := by
    refine j_new X (ci := 9) (ty := tyX9) (fs := [.null, .null, .null, .null, .null, .null, .int 0]) rfl inK9 tyX9_ok kL_RL_14 kA_RX9 kI_RX9 new9 ⟨Nat.le_of_ble_eq_true rfl, Nat.le_of_ble_eq_true rfl⟩ dL_law_0 ?_
    refine j_dup X dL_law_3 rfl ?_
    refine j_callI X (rest := [.ref s.heap.size]) (c_X9_init l (b := s.heap.size) hupd_same) m_yX9_init kM_RL_102 rfl rfl (Nat.le_of_ble_eq_true rfl) ⟨Nat.le_of_ble_eq_true rfl, Nat.le_of_ble_eq_true rfl, Nat.le_of_ble_eq_true rfl, Nat.le_of_ble_eq_true rfl⟩ dL_law_4 ?_
    refine j_astore_n X (L' := [(1, .ref s.heap.size), (0, .ref b)]) dL_law_7 rfl (by decide) rfl ?_
    refine j_heap xput_hupd ?_
    refine j_eqs (cells' := 211) (slots' := 12766) (z' := s.heap.size + 211) rfl rfl rfl ?_
    refine law_first X ?_
    exact law_loop X hX hbl hbl hL (fun S cl sl h1 h2 => j_iconst X (v := 1) dL_law_465 (by decide) (law_end X hr h1 h2)) 28 0 0 0 211 12766 S01 (by omega) (by omega) (by omega) (by omega) (by omega) xv_0
  have hl := lv_entry ([.ref b]) (n := 13) (Nat.le_of_ble_eq_true rfl)
  rw [lg_entry_eq]
  exact start s.heap [] _ (fun q x hq => by cases hq) rfl va_S.rf hl
