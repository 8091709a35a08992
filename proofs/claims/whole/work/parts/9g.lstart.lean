theorem new10 : ∀ j, j < 14 → defaultValue (tyX10 j) = vp_V [.null, .null, .int 0, .null, .int 0, .null, .int 0, .int 0, .null, .int 0, .null, .int 0, .int 0, .null] j := fun j hj => by
  have c : j = 0 ∨ j = 1 ∨ j = 2 ∨ j = 3 ∨ j = 4 ∨ j = 5 ∨ j = 6 ∨ j = 7 ∨ j = 8 ∨ j = 9 ∨ j = 10 ∨ j = 11 ∨ j = 12 ∨ j = 13 := by omega
  rcases c with rfl | rfl | rfl | rfl | rfl | rfl | rfl | rfl | rfl | rfl | rfl | rfl | rfl | rfl <;> rfl
theorem arr_of {s : State} {args : Array Value} {ty : FieldType} (h : (Cond.arrayClass ty).before args s = true) : ∃ cA : ClassId, ArrOfT s cA ty ∧ s.vm.findClass ("[" ++ ty.toString) = some cA := by
  obtain ⟨c, k, comp, h1, h2, h3⟩ := Cond.arrayClass_spec h
  exact ⟨c, fun n z => ⟨fun k h => (by cases h), k, h2, comp, h3⟩, h1⟩
theorem arr_over {s : State} {args : Array Value} {n : String} (h : (Cond.arrayOver (.object n)).before args s = true) : ∃ cA : ClassId, ArrOfT s cA (.object n) ∧ va_RA s cA (.object n) := by
  obtain ⟨comp, c, k, h1, h2, h3, h4, h5⟩ := Cond.arrayOver_spec h
  exact ⟨c, fun n z => ⟨fun k h => (by cases h), k, h3, comp, h4⟩, k, comp, h3, h4, h1, h5⟩
theorem st_of {b : Nat} {s : State} (f : Nat → Int32) (n : String) (hs : (Jvm.Cond.and given_1 narrow_1).before #[Value.ref b] s = true)
    (h1 : (Cond.arrayOf (.static "LearningRepeater" n "[I") .int).before #[Value.ref b] s = true) (h2 : (Cond.eq (.length (.static "LearningRepeater" n "[I")) (.int 4)).before #[Value.ref b] s = true)
    (e0 : (Cond.eq (.elem (.static "LearningRepeater" n "[I") (.int 0)) (.int (f 0))).before #[Value.ref b] s = true) (e1 : (Cond.eq (.elem (.static "LearningRepeater" n "[I") (.int 1)) (.int (f 1))).before #[Value.ref b] s = true) (e2 : (Cond.eq (.elem (.static "LearningRepeater" n "[I") (.int 2)) (.int (f 2))).before #[Value.ref b] s = true) (e3 : (Cond.eq (.elem (.static "LearningRepeater" n "[I") (.int 3)) (.int (f 3))).before #[Value.ref b] s = true)
    (hl : (Cond.laysStatic "LearningRepeater" n "[I").before #[Value.ref b] s = true) (hini : (Cond.initialized "LearningRepeater").before #[Value.ref b] s = true) : ∃ t : Nat, va_Z "LearningRepeater" n "[I" (.ref t) (aB s.heap.size) s s.heap ∧ va_T .int t 4 (fun j => .int (f j)) (aB s.heap.size) s s.heap := by
  have hA : ∀ a : Nat, a < s.heap.size → ¬ aB s.heap.size a := fun a ha q => Nat.not_le.mpr ha q
  obtain ⟨t, q1, q2⟩ := va_Tof (N := 4) (f := fun j => .int (f j)) (A := aB s.heap.size) (by decide) h1 (va_eqt h2) (fun j hj => by
    rcases (show j = 0 ∨ j = 1 ∨ j = 2 ∨ j = 3 by omega) with rfl | rfl | rfl | rfl
    · exact va_eqt e0
    · exact va_eqt e1
    · exact va_eqt e2
    · exact va_eqt e3) hA
  exact ⟨t, va_Zref hl hini q1 hA, q2⟩
def dcF (c0 c1 c2 c3 c4 c5 c6 c7 c8 c9 c10 : ClassId) : Nat → ClassId := fun k => if k = 0 then c0 else if k = 1 then c1 else if k = 2 then c2 else if k = 3 then c3 else if k = 4 then c4 else if k = 5 then c5 else if k = 6 then c6 else if k = 7 then c7 else if k = 8 then c8 else if k = 9 then c9 else c10
def diF (c0 c1 c2 c3 c4 c5 c6 c7 c8 c9 c10 : Nat → Nat) : Nat → Nat → Nat := fun k => if k = 0 then c0 else if k = 1 then c1 else if k = 2 then c2 else if k = 3 then c3 else if k = 4 then c4 else if k = 5 then c5 else if k = 6 then c6 else if k = 7 then c7 else if k = 8 then c8 else if k = 9 then c9 else c10
set_option maxHeartbeats 4000000 in
theorem cx_start {p : Program} {s : State} {m : MethodId} {meth : Method} {c : Code} {b L : Nat} {xs : Nat → Int32} (C0 : lw_At p s m meth c b L xs) : ∃ D : DD, Cx p s m #[Value.ref b] meth c code 4 RL D s.heap.size := by
  obtain ⟨hx, hb, hr, hml, hown, hts, hX, hbl, hlocks, hgv⟩ := id C0
  have hg := gt_tbl hts
  have hs := flat_of_before _ hgv
  obtain ⟨c0, i0, k0⟩ := u_known (C := RX0) (T := TX0) (N := 2) (n := 2) hg inK0 (hg _ kA_RX0)
  obtain ⟨c1, i1, k1⟩ := u_known (C := RX1) (T := TX1) (N := 3) (n := 3) hg inK1 (hg _ kA_RX1)
  obtain ⟨c2, i2, k2⟩ := u_known (C := RX2) (T := TX2) (N := 1) (n := 1) hg inK2 (hg _ kA_RX2)
  obtain ⟨c3, i3, k3⟩ := u_known (C := RX3) (T := TX3) (N := 6) (n := 6) hg inK3 (hg _ kA_RX3)
  obtain ⟨c4, i4, k4⟩ := u_known (C := RX4) (T := TX4) (N := 2) (n := 2) hg inK4 (hg _ kA_RX4)
  obtain ⟨c5, i5, k5⟩ := u_known (C := RX5) (T := TX5) (N := 1) (n := 1) hg inK5 (hg _ kA_RX5)
  obtain ⟨c6, i6, k6⟩ := u_known (C := RX6) (T := TX6) (N := 8) (n := 8) hg inK6 (hg _ kA_RX6)
  obtain ⟨c7, i7, k7⟩ := u_known (C := RX7) (T := TX7) (N := 3) (n := 3) hg inK7 (hg _ kA_RX7)
  obtain ⟨c8, i8, k8⟩ := u_known (C := RX8) (T := TX8) (N := 3) (n := 3) hg inK8 (hg _ kA_RX8)
  obtain ⟨c9, i9, k9⟩ := u_known (C := RX9) (T := TX9) (N := 7) (n := 7) hg inK9 (hg _ kA_RX9)
  obtain ⟨c10, i10, k10⟩ := u_known (C := RX10) (T := TX10) (N := 14) (n := 14) hg inK10 (hg _ kA_RX10)
  obtain ⟨aI, aI1, aI2⟩ := arr_of (hg _ kZ_1)
  obtain ⟨aC, aC1, aC2⟩ := arr_of (hg _ kZ_3)
  obtain ⟨aS, aS1, aS2⟩ := arr_over (hts _ kZ_2)
  obtain ⟨tF, tF1, tF2⟩ := st_of fsF "FIRST_SETTINGS" hgv (hs _ (by decide +kernel)) (hs _ (by decide +kernel)) (hs _ (by decide +kernel)) (hs _ (by decide +kernel)) (hs _ (by decide +kernel)) (hs _ (by decide +kernel)) (hts _ kZ_0) (hg _ kI_RX9)
  obtain ⟨tG, tG1, tG2⟩ := st_of fsG "GREATEST_SETTINGS" hgv (hs _ (by decide +kernel)) (hs _ (by decide +kernel)) (hs _ (by decide +kernel)) (hs _ (by decide +kernel)) (hs _ (by decide +kernel)) (hs _ (by decide +kernel)) (hts _ kZ_4) (hg _ kI_RX9)
  refine ⟨((dcF c0 c1 c2 c3 c4 c5 c6 c7 c8 c9 c10, diF i0 i1 i2 i3 i4 i5 i6 i7 i8 i9 i10), (aI, aC, aS), (tF, tG)), hx, hb, hml, hown, hg, ⟨?_, ?_⟩, ⟨?_, ?_, ?_⟩, ⟨⟨tF1, tF2⟩, tG1, tG2⟩, Nat.le_refl _, hlocks⟩
  · intro k q hq
    match k, hq with
    | 0, hq => cases hq; exact k0
    | 1, hq => cases hq; exact k1
    | 2, hq => cases hq; exact k2
    | 3, hq => cases hq; exact k3
    | 4, hq => cases hq; exact k4
    | 5, hq => cases hq; exact k5
    | 6, hq => cases hq; exact k6
    | 7, hq => cases hq; exact k7
    | 8, hq => cases hq; exact k8
    | 9, hq => cases hq; exact k9
    | 10, hq => cases hq; exact k10
    | k + 11, hq => exact absurd hq (by simp [vwCl])
  · intro k q hq
    match k, hq with
    | 0, hq => cases hq; exact ⟨aI1, aI2⟩
    | 1, hq => cases hq; exact ⟨aC1, aC2⟩
    | 2, hq => cases hq; exact ⟨aS1, aS2⟩
    | k + 3, hq => exact absurd hq (by simp [tysD])
  · exact fun q hq => va_Nw.of rfl (hts _ (List.mem_append_right _ (nestF_in q hq)))
  · exact fun q hq => va_Nw.of rfl (hts _ (List.mem_append_right _ (nestM_in q hq)))
  · exact va_AO.of (hts _ kZ_2)
set_option maxHeartbeats 4000000 in
/-- YOUR PART: from the entry, for every script of at most 2560 ints, the law comes to its end with true ('hflags': the launch's flags, for a law that throws: no stack traces) -/
theorem whole_start {p : Program} {e : Env} {s : State} {m : MethodId} {below : List Frame} {meth : Method} {c : Code} (l : Launch) (hflags : l.flags = flags0) {b L : Nat} {xs : Nat → Int32} (hL : L ≤ 2560) (C0 : lw_At p s m meth c b L xs) : W p l e room_1 s m #[Value.ref b] below meth c s.heap [] 0 0 (lw_Z below #[Value.ref b] s) (entryFrame m ([Value.ref b] : List Value).toArray 4) := by
  obtain ⟨D, X⟩ := cx_start C0
  obtain ⟨-, -, hr, -, -, -, hX, hbl, -, -⟩ := C0
  have start : J p l e room_1 s m #[Value.ref b] below meth c D s.heap.size 4 (lw_Z below #[Value.ref b] s) 0 0 s.heap.size (fun _ => none) [(0, .ref b)] [] 0 := by
    refine j_new X (ci := 9) (ty := tyX9) (fs := [.null, .null, .null, .null, .null, .null, .int 0]) rfl inK9 tyX9_ok kL_RL_7 kA_RX9 kI_RX9 new9 ⟨Nat.le_of_ble_eq_true rfl, Nat.le_of_ble_eq_true rfl⟩ dL_0 ?_
    refine j_dup X dL_3 rfl ?_
    refine j_callI X (rest := [.ref s.heap.size]) (c_X9_init l (b := s.heap.size) hupd_same) m_yX9_init kM_RL_9 rfl rfl (Nat.le_of_ble_eq_true rfl) ⟨Nat.le_of_ble_eq_true rfl, Nat.le_of_ble_eq_true rfl, Nat.le_of_ble_eq_true rfl, Nat.le_of_ble_eq_true rfl⟩ dL_4 ?_
    refine j_astore_n X (L' := [(1, .ref s.heap.size), (0, .ref b)]) dL_7 rfl (by decide) rfl ?_
    refine j_new X (ci := 10) (ty := tyX10) (fs := [.null, .null, .int 0, .null, .int 0, .null, .int 0, .int 0, .null, .int 0, .null, .int 0, .int 0, .null]) rfl inK10 tyX10_ok kL_RL_10 kA_RX10 kI_RX10 new10 ⟨Nat.le_of_ble_eq_true rfl, Nat.le_of_ble_eq_true rfl⟩ dL_8 ?_
    refine j_dup X dL_11 rfl ?_
    refine j_callI X (rest := [.ref (s.heap.size + 211)]) (c_X10_init l (b := s.heap.size + 211) hupd_same) m_yX10_init kM_RL_12 rfl rfl (Nat.le_of_ble_eq_true rfl) ⟨Nat.le_of_ble_eq_true rfl, Nat.le_of_ble_eq_true rfl, Nat.le_of_ble_eq_true rfl, Nat.le_of_ble_eq_true rfl⟩ dL_12 ?_
    refine j_astore_n X (L' := [(2, .ref (s.heap.size + 211)), (1, .ref s.heap.size), (0, .ref b)]) dL_15 rfl (by decide) rfl ?_
    refine j_iconst X (v := 0) dL_16 (by decide) ?_
    refine j_istore_n X (L' := [(3, .int 0), (2, .ref (s.heap.size + 211)), (1, .ref s.heap.size), (0, .ref b)]) dL_17 rfl (by decide) rfl ?_
    refine j_sub [3, 2, 1, 0] (L' := LL b s.heap.size 0) rfl ?_
    refine j_heap mput_hupd ?_
    refine j_eqs (cells' := 219) (slots' := 25490) (z' := s.heap.size + 219) rfl rfl rfl ?_
    exact law_loop X hX hbl hL hr 600 0 0 S00 (mI 8) (by omega) (by omega) rz_0
  have hl := lv_entry ([.ref b]) (n := 4) (Nat.le_of_ble_eq_true rfl)
  rw [lg_entry_eq]
  exact start s.heap [] _ (fun q x hq => by cases hq) rfl va_S.rf hl
