section LOOP
variable {p : Program} {l : Launch} {e : Env} {s : State} {m : MethodId} {below : List Frame} {meth : Method} {c : Code} {D : DD} {b L : Nat} {xs : Nat → Int32} {g : HF}
theorem and31 (x : Int32) : ∃ n : Nat, n < 32 ∧ x &&& 31 = nI n := pk_andE x (m := 31) 5 (by decide)
theorem law_end (X : Cx p s m #[Value.ref b] meth c code 4 RL D s.heap.size) (hr : meth.sig.returnType = ret) {T : Nat} {S : Sy} {μ : Mo} : LJ p l e s m below meth c D s.heap.size b g T S μ [.int 1] 737 :=
  fun _ _ _ _ _ hS _ => va_forget (fun q hq => hS.2.2 q hq) (W.widen (k := 600000) (n := 7302250) (Nat.le_of_ble_eq_true rfl) (Nat.le_of_ble_eq_true rfl) (lw_ret X.1 X.2.1 hr X.2.2.2.2.2.2.2.2.2 dL_737))
theorem law_next (X : Cx p s m #[Value.ref b] meth c code 4 RL D s.heap.size) {T : Nat} {S : Sy} {μ : Mo} (k : LJ p l e s m below meth c D s.heap.size b g (T + 1) S μ [] 18) : LJ p l e s m below meth c D s.heap.size b g T S μ [] 730 := by
  refine j_iinc X 3 (k := 5) (v := nI (5 * (T + 1))) (L' := [(3, .int (nI (5 * (T + 1)))), (0, .ref b), (1, .ref s.heap.size), (2, .ref (s.heap.size + 211))]) dL_730 rfl (by decide) (by decide) (nI_add (5 * T) 5) rfl ?_
  refine j_goto X (tgt := 18) dL_733 (by decide) ?_
  refine j_sub [1, 2, 3, 0] (L' := LL b s.heap.size (T + 1)) rfl ?_
  exact k
set_option maxHeartbeats 4000000 in
theorem law_case (X : Cx p s m #[Value.ref b] meth c code 4 RL D s.heap.size) (hX : va_X b L xs s s.heap) (hbl : b < s.heap.size) (hL : L ≤ 2560) {T nx : Nat} {S : Sy} {μ : Mo} (hi : 5 * T + 5 ≤ L) (h : RZ T nx S μ) (K : ∀ (nx2 : Nat) (S2 : Sy) (μ2 : Mo), RZ (T + 1) nx2 S2 μ2 → LJ p l e s m below meth c D s.heap.size b g T S2 μ2 [] 730) {n : Nat} (hn : n < 32) : LJ p l e s m below meth c D s.heap.size b g T S μ [.int (nI n)] 32 := by
  by_cases c0 : n = 0
  · subst c0
    refine j_tableIn X (tgt := 136) (off := 104) dL_32 (by decide) (by decide) rfl (by decide) ?_
    exact case_setPort X hX hbl hbl hL hi h K
  by_cases c1 : n = 1
  · subst c1
    refine j_tableIn X (tgt := 185) (off := 153) dL_32 (by decide) (by decide) rfl (by decide) ?_
    exact case_join X hX hbl hbl hL hi h K
  by_cases c2 : n = 2
  · subst c2
    refine j_tableIn X (tgt := 218) (off := 186) dL_32 (by decide) (by decide) rfl (by decide) ?_
    exact case_part X hX hbl hbl hL hi h K
  by_cases c3 : n = 3
  · subst c3
    refine j_tableIn X (tgt := 241) (off := 209) dL_32 (by decide) (by decide) rfl (by decide) ?_
    exact case_release X hX hbl hbl hL hi h K
  by_cases c4 : n = 4
  · subst c4
    refine j_tableIn X (tgt := 264) (off := 232) dL_32 (by decide) (by decide) rfl (by decide) ?_
    exact case_set X hX hbl hbl hL hi h K
  by_cases c5 : n = 5
  · subst c5
    refine j_tableIn X (tgt := 297) (off := 265) dL_32 (by decide) (by decide) rfl (by decide) ?_
    exact case_frame X hX hbl hbl hL hi h K
  by_cases c6 : n = 6
  · subst c6
    refine j_tableIn X (tgt := 350) (off := 318) dL_32 (by decide) (by decide) rfl (by decide) ?_
    exact case_forget X hX hbl hbl hL hi h K
  by_cases c7 : n = 7
  · subst c7
    refine j_tableIn X (tgt := 373) (off := 341) dL_32 (by decide) (by decide) rfl (by decide) ?_
    exact case_pass X hX hbl hbl hL hi h K
  by_cases c8 : n = 8
  · subst c8
    refine j_tableIn X (tgt := 396) (off := 364) dL_32 (by decide) (by decide) rfl (by decide) ?_
    exact case_type X hX hbl hbl hL hi h K
  by_cases c9 : n = 9
  · subst c9
    refine j_tableIn X (tgt := 421) (off := 389) dL_32 (by decide) (by decide) rfl (by decide) ?_
    exact case_clearText X hX hbl hbl hL hi h K
  by_cases c10 : n = 10
  · subst c10
    refine j_tableIn X (tgt := 434) (off := 402) dL_32 (by decide) (by decide) rfl (by decide) ?_
    exact case_readFrames X hX hbl hbl hL hi h K
  by_cases c11 : n = 11
  · subst c11
    refine j_tableIn X (tgt := 447) (off := 415) dL_32 (by decide) (by decide) rfl (by decide) ?_
    exact case_undo X hX hbl hbl hL hi h K
  by_cases c12 : n = 12
  · subst c12
    refine j_tableIn X (tgt := 460) (off := 428) dL_32 (by decide) (by decide) rfl (by decide) ?_
    exact case_keep X hX hbl hbl hL hi h K
  by_cases c13 : n = 13
  · subst c13
    refine j_tableIn X (tgt := 473) (off := 441) dL_32 (by decide) (by decide) rfl (by decide) ?_
    exact case_restore X hX hbl hbl hL hi h K
  by_cases c14 : n = 14
  · subst c14
    refine j_tableIn X (tgt := 486) (off := 454) dL_32 (by decide) (by decide) rfl (by decide) ?_
    exact case_port X hX hbl hbl hL hi h K
  by_cases c15 : n = 15
  · subst c15
    refine j_tableIn X (tgt := 519) (off := 487) dL_32 (by decide) (by decide) rfl (by decide) ?_
    exact case_account X hX hbl hbl hL hi h K
  by_cases c16 : n = 16
  · subst c16
    refine j_tableIn X (tgt := 552) (off := 520) dL_32 (by decide) (by decide) rfl (by decide) ?_
    exact case_entry X hX hbl hbl hL hi h K
  by_cases c17 : n = 17
  · subst c17
    refine j_tableIn X (tgt := 585) (off := 553) dL_32 (by decide) (by decide) rfl (by decide) ?_
    exact case_where X hX hbl hbl hL hi h K
  by_cases c18 : n = 18
  · subst c18
    refine j_tableIn X (tgt := 608) (off := 576) dL_32 (by decide) (by decide) rfl (by decide) ?_
    exact case_queued X hX hbl hbl hL hi h K
  by_cases c19 : n = 19
  · subst c19
    refine j_tableIn X (tgt := 651) (off := 619) dL_32 (by decide) (by decide) rfl (by decide) ?_
    exact case_wouldGo X hX hbl hbl hL hi h K
  by_cases c20 : n = 20
  · subst c20
    refine j_tableIn X (tgt := 694) (off := 662) dL_32 (by decide) (by decide) rfl (by decide) ?_
    exact case_loops X hX hbl hbl hL hi h K
  by_cases c21 : n = 21
  · subst c21
    refine j_tableIn X (tgt := 707) (off := 675) dL_32 (by decide) (by decide) rfl (by decide) ?_
    exact case_count X hX hbl hbl hL hi h K
  refine j_tableOut X (tgt := 730) dL_32 (Or.inr ?_) (by decide) (K nx S μ (rl_mono h (Nat.le_succ T)))
  rw [nI_toInt (by omega)]
  omega
theorem law_loop (X : Cx p s m #[Value.ref b] meth c code 4 RL D s.heap.size) (hX : va_X b L xs s s.heap) (hbl : b < s.heap.size) (hL : L ≤ 2560) (hr : meth.sig.returnType = ret) : ∀ (n T nx : Nat) (S : Sy) (μ : Mo), L < 5 * (T + n) → 5 * T ≤ 2565 → RZ T nx S μ → LJ p l e s m below meth c D s.heap.size b g T S μ [] 18 := by
  intro n
  induction n with
  | zero =>
    intro T nx S μ hn h5 h
    refine j_iload_n X 3 dL_18 rfl rfl ?_
    refine j_aload_n X 0 dL_19 rfl rfl ?_
    refine j_slen X hX hbl hbl dL_20 ?_
    refine j_iconst X (v := nI 5) dL_21 (by decide) ?_
    refine j_isub X dL_22 ?_
    refine j_icmp_gt X (tgt := 736) dL_23 (by decide) (fun _ => ?_) (fun q => ?_)
    · refine j_iconst X (v := 1) dL_736 (by decide) ?_
      exact law_end X hr
    · exfalso
      apply q
      rw [Int32.lt_iff_toInt_lt, pk_sub_toInt (by omega) (by omega), nI_toInt (by omega)]
      omega
  | succ n ih =>
    intro T nx S μ hn h5 h
    refine j_iload_n X 3 dL_18 rfl rfl ?_
    refine j_aload_n X 0 dL_19 rfl rfl ?_
    refine j_slen X hX hbl hbl dL_20 ?_
    refine j_iconst X (v := nI 5) dL_21 (by decide) ?_
    refine j_isub X dL_22 ?_
    refine j_icmp_gt X (tgt := 736) dL_23 (by decide) (fun _ => ?_) (fun q => ?_)
    · refine j_iconst X (v := 1) dL_736 (by decide) ?_
      exact law_end X hr
    · have hi : 5 * T + 5 ≤ L := by
        rw [Int32.lt_iff_toInt_lt, pk_sub_toInt (by omega) (by omega), nI_toInt (by omega)] at q
        omega
      refine j_aload_n X 0 dL_26 rfl rfl ?_
      refine j_iload_n X 3 dL_27 rfl rfl ?_
      refine j_sld X hX hbl hbl (vp_in_nI (by omega) (by omega)) dL_28 ?_
      refine j_bipush X (v := 31) dL_29 (by decide) ?_
      refine j_iand X dL_31 ?_
      obtain ⟨k, hk, ek⟩ := and31 (xs (nI (5 * T)).toNatClampNeg)
      refine j_st (st' := [.int (nI k)]) (by rw [ek]) ?_
      exact law_case X hX hbl hL hi h (fun nx2 S2 μ2 h2 => law_next X (ih (T + 1) nx2 S2 μ2 (by omega) (by omega) h2)) hk
end LOOP
