/-! the law itself, piece by piece -/
theorem k_digest (l : Launch) {D : DD} {B z : Nat} {h : HF} {b : Nat} {S : Sy} {r : Int64} (e : dg S = r) : CT l yL_digest cL_digest 5 (some .long) 4 86 [.ref b] D B z (xput D h b S) (some (.long r)) 0 0 (xput D h b S) := e ▸ c_L_digest l
def dn : Nat → Int32
  | 0 => -1
  | i + 1 => nI i
theorem dn_s : ∀ i, nI i + (-1) = dn i
  | 0 => rfl
  | i + 1 => pk_m1 i
theorem yg_k {M nx : Nat} {S : Sy} (h : XV M nx S) (hy : YG (S.1 0)) : ∃ n, n ≤ 20 ∧ xCount S 5 = nI n ∧ ∀ j, j < n → xEntry S (nI j) 2 < xCount S 0 := by
  obtain ⟨C, N, K, -, -, -, i⟩ := h.1 0 (by decide)
  have hT := i.2.2.2.2.2.2.2.2.2.2.2.1
  refine ⟨te ((S.1 0).1 9) 99, hT.2.2.2.2, hT.2.2.2.1, fun j hj => ?_⟩
  obtain ⟨a, q, a1, a2, hq, eq, a5, -, -, x2, -⟩ := ent_k i hj
  rw [x2, show xCount S 0 = (S.1 0).1 0 0 from xc0 (w := 0) (by decide)]
  exact hy a a1 a2 (by rw [eq]; exact n4 (by omega))
theorem sk_xv {M nx : Nat} {S : Sy} (hM : M < 50000000) (h : XV M nx S) : SK S := by
  obtain ⟨C, N, K, c1, c2, c3, i⟩ := h.1 0 (by decide)
  exact sk_k (by omega) (by omega) (by omega) i
section BODY
variable {p : Program} {l : Launch} {e : Env} {s : State} {m : MethodId} {below : List Frame} {meth : Method} {c : Code} {D : DD} {B b L : Nat} {xs : Nat → Int32}
set_option maxRecDepth 100000 in
theorem law_445 (X : Cx p s m #[Value.ref b] meth c code 13 RL D B) {E M nx cl sl : Nat} {S : Sy} (hM : M < 50000000) (h : XV M nx S) (h211 : 211 ≤ cl) (hcl : cl ≤ 900) (hsl : sl ≤ 19000) (K : LJ p l e s m below meth c D B b S (cl + 1) (sl + 8) [(0, .ref b), (1, .ref B), (2, .int (nI E))] [] 459) : LJ p l e s m below meth c D B b S cl sl [(0, .ref b), (1, .ref B), (2, .int (nI E)), (10, .int 1)] [] 445 := by
  refine j_iload X 3 dL_law_445 rfl ?_
  refine j_if_eq X (tgt := 457) dL_law_447 (by decide) (fun c_ => absurd c_ (by decide)) (fun _ => ?_)
  refine j_aload_n X 1 dL_law_450 rfl rfl ?_
  refine j_callSk X (rest := []) (c_L_sound l (by omega) rfl (sk_xv hM h)) m_yL_sound kM_RL_128 rfl rfl (Nat.le_of_ble_eq_true rfl) ⟨Nat.le_of_ble_eq_true rfl, Nat.le_of_ble_eq_true rfl, rm_c (by omega), rm_s (by omega)⟩ dL_law_451 ?_
  refine j_eqs (cells' := (cl + 1)) (slots' := (sl + 8)) (z' := B + (cl + 1)) rfl rfl (by omega) ?_
  refine j_if_ne X (tgt := 459) dL_law_454 (by decide) (fun _ => ?_) (fun c_ => absurd c_ (by decide))
  refine j_sub [0, 1, 2] (L' := [(0, .ref b), (1, .ref B), (2, .int (nI E))]) rfl ?_
  exact K
set_option maxRecDepth 100000 in
set_option maxHeartbeats 4000000 in
theorem law_358 (X : Cx p s m #[Value.ref b] meth c code 13 RL D B) {E M nx nx2 cl sl q so : Nat} {y : Int32} {S S2 : Sy} (hM : M < 50000000) (h : XV M nx S) (h2 : XV M nx2 S2) (hq : S.2.1 2 = nI q) (hq4 : q ≤ 4) (hso : so < 16) (ha : so < 5 → Act nx S S2) (h211 : 211 ≤ cl) (hcl : cl ≤ 900) (hsl : sl ≤ 19000) (K : ∀ nx3 S3, XV M nx3 S3 → LJ p l e s m below meth c D B b S3 (cl + 1) (sl + 8) [(0, .ref b), (1, .ref B), (2, .int (nI E))] [] 459) : LJ p l e s m below meth c D B b S2 cl sl [(0, .ref b), (1, .ref B), (2, .int (nI E)), (4, .int y), (5, .int (nI so)), (7, .int (nI q)), (8, .long (dg S)), (10, .int 1)] [] 358 := by
  have k445 : ∀ nx3 S3, XV M nx3 S3 → LJ p l e s m below meth c D B b S3 cl sl [(0, .ref b), (1, .ref B), (2, .int (nI E)), (10, .int 1)] [] 445 := fun nx3 S3 hz => law_445 X hM hz h211 hcl hsl (K nx3 S3 hz)
  refine j_iload X 5 dL_law_358 rfl ?_
  refine j_iconst X (v := 4) dL_law_360 (by decide) ?_
  refine j_icmp_ne X (tgt := 368) dL_law_361 (by decide) (fun c_361 => ?_) (fun c_361 => ?_)
  · refine j_iload X 5 dL_law_368 rfl ?_
    refine j_istore X (L' := [(11, .int (nI q)), (0, .ref b), (1, .ref B), (2, .int (nI E)), (4, .int y), (5, .int (nI so)), (7, .int (nI q)), (8, .long (dg S)), (10, .int 1)]) dL_law_370 (by decide) rfl ?_
    refine j_iload X 8 dL_law_372 rfl ?_
    refine j_if_eq X (tgt := 445) dL_law_374 (by decide) (fun c_ => absurd c_ (by decide)) (fun _ => ?_)
    refine j_iload X 5 dL_law_377 rfl ?_
    refine j_iconst X (v := 5) dL_law_379 (by decide) ?_
    refine j_icmp_ge X (tgt := 445) dL_law_380 (by decide) (fun c_380 => ?_) (fun c_380 => ?_)
    · refine j_sub [1, 2, 3, 8] (L' := [(0, .ref b), (1, .ref B), (2, .int (nI E)), (10, .int 1)]) rfl ?_
      exact k445 _ _ h2
    · refine j_iload X 4 dL_law_383 rfl ?_
      refine j_sipush X (v := 1536) dL_law_385 (by decide) ?_
      refine j_iand X dL_law_388 ?_
      refine j_if_ne X (tgt := 445) dL_law_389 (by decide) (fun c_389 => ?_) (fun c_389 => ?_)
      · refine j_sub [1, 2, 3, 8] (L' := [(0, .ref b), (1, .ref B), (2, .int (nI E)), (10, .int 1)]) rfl ?_
        exact k445 _ _ h2
      · have act := ha ((nI_ltI (b := 5) (by omega) (by decide)).mp c_380)
        rcases act with hS | ⟨τ, hS⟩
        · have hdg : dg S2 = dg S := by rw [hS]
          have hct : xCount S2 13 = nI q := by rw [hS]; exact hq
          refine j_aload_n X 2 dL_law_392 rfl rfl ?_
          refine j_bipush X (v := 13) dL_law_393 (by decide) ?_
          refine j_callVi X (rest := []) (k_count l hct) m_yX9_count kM_RL_13 xput_0 rfl rfl rfl rfl rfl (Nat.le_of_ble_eq_true rfl) ⟨Nat.le_of_ble_eq_true rfl, Nat.le_of_ble_eq_true rfl, rm_c (by omega), rm_s (by omega)⟩ dL_law_395 ?_
          refine j_iload X 6 dL_law_398 rfl ?_
          refine j_icmp_ne X (tgt := 419) dL_law_400 (by decide) (fun c_400 => absurd rfl c_400) (fun c_400 => ?_)
          refine j_iload X 6 dL_law_403 rfl ?_
          refine j_iconst X (v := 4) dL_law_405 (by decide) ?_
          refine j_icmp_ne X (tgt := 445) dL_law_406 (by decide) (fun _ => ?_) (fun c_ => absurd c_ c_361)
          refine j_sub [1, 2, 3, 8] (L' := [(0, .ref b), (1, .ref B), (2, .int (nI E)), (10, .int 1)]) rfl ?_
          exact k445 _ _ h2
        · have hτ : IM M τ := by have := h2.1 0 (by decide); rw [hS] at this; exact this
          obtain ⟨q2, hq2, eq2, u1, u2, u3⟩ := undo_k h hτ
          have eqq : q2 = q := (nI_eq (by omega) (by omega)).mp (eq2.symm.trans hq)
          subst eqq
          have hn2 : (nx + 1) % 4 < 4 ∧ S2.2.1 1 = nI ((nx + 1) % 4) := by rw [hS]; exact (act_xv h hτ).2.1
          rw [← hS] at u1 u2 u3
          have hd3 : dg (xUndo ((nx + 1) % 4) S2).2 = dg S := dg_cg u2
          generalize hU : xUndo ((nx + 1) % 4) S2 = U at u1 u2 u3 hd3
          refine j_aload_n X 2 dL_law_392 rfl rfl ?_
          refine j_bipush X (v := 13) dL_law_393 (by decide) ?_
          refine j_callVi X (rest := []) (c_X9_count l) m_yX9_count kM_RL_13 xput_0 rfl rfl rfl rfl rfl (Nat.le_of_ble_eq_true rfl) ⟨Nat.le_of_ble_eq_true rfl, Nat.le_of_ble_eq_true rfl, rm_c (by omega), rm_s (by omega)⟩ dL_law_395 ?_
          refine j_iload X 6 dL_law_398 rfl ?_
          refine j_icmp_ne X (tgt := 419) dL_law_400 (by decide) (fun c_400 => ?_) (fun c_400 => ?_)
          · refine j_aload_n X 2 dL_law_419 rfl rfl ?_
            refine j_callVi X (rest := []) (k_undo l hn2 (show xUndo ((nx + 1) % 4) S2 = (nI q2, U.2) from by rw [hU, show U = (U.1, U.2) from rfl, u1, if_neg (fun z_ => c_361 (by rw [z_]; rfl))])) m_yX9_undo kM_RL_103 xput_0 rfl rfl rfl rfl rfl (Nat.le_of_ble_eq_true rfl) ⟨Nat.le_of_ble_eq_true rfl, Nat.le_of_ble_eq_true rfl, rm_c (by omega), rm_s (by omega)⟩ dL_law_420 ?_
            refine j_iload X 0 dL_law_423 rfl ?_
            refine j_icmp_ne X (tgt := 442) dL_law_425 (by decide) (fun c_425 => absurd rfl c_425) (fun c_425 => ?_)
            refine j_aload_n X 2 dL_law_428 rfl rfl ?_
            refine j_callSl X (rest := []) (k_digest l hd3) m_yL_digest kM_RL_73 rfl rfl (Nat.le_of_ble_eq_true rfl) ⟨Nat.le_of_ble_eq_true rfl, Nat.le_of_ble_eq_true rfl, rm_c (by omega), rm_s (by omega)⟩ dL_law_429 ?_
            refine j_lload X 7 dL_law_432 rfl ?_
            refine j_lcmp X dL_law_434 ?_
            refine j_if_ne X (tgt := 442) dL_law_435 (by decide) (fun c_435 => absurd (lg_cmp0.mpr rfl) c_435) (fun c_435 => ?_)
            refine j_iconst X (v := 1) dL_law_438 (by decide) ?_
            refine j_goto X (tgt := 443) dL_law_439 (by decide) ?_
            refine j_istore X (L' := [(10, .int 1), (11, .int (nI q2)), (0, .ref b), (1, .ref B), (2, .int (nI E)), (4, .int y), (5, .int (nI so)), (7, .int (nI q2)), (8, .long (dg S))]) dL_law_443 (by decide) rfl ?_
            refine j_sub [2, 3, 4, 0] (L' := [(0, .ref b), (1, .ref B), (2, .int (nI E)), (10, .int 1)]) rfl ?_
            exact k445 _ _ u3
          · refine j_iload X 6 dL_law_403 rfl ?_
            refine j_iconst X (v := 4) dL_law_405 (by decide) ?_
            refine j_icmp_ne X (tgt := 445) dL_law_406 (by decide) (fun _ => ?_) (fun c_ => absurd c_ c_361)
            refine j_sub [1, 2, 3, 8] (L' := [(0, .ref b), (1, .ref B), (2, .int (nI E)), (10, .int 1)]) rfl ?_
            exact k445 _ _ h2
  · refine j_iconst X (v := 3) dL_law_364 (by decide) ?_
    refine j_goto X (tgt := 370) dL_law_365 (by decide) ?_
    refine j_istore X (L' := [(11, .int 3), (0, .ref b), (1, .ref B), (2, .int (nI E)), (4, .int y), (5, .int (nI so)), (7, .int (nI q)), (8, .long (dg S)), (10, .int 1)]) dL_law_370 (by decide) rfl ?_
    refine j_iload X 8 dL_law_372 rfl ?_
    refine j_if_eq X (tgt := 445) dL_law_374 (by decide) (fun c_ => absurd c_ (by decide)) (fun _ => ?_)
    refine j_iload X 5 dL_law_377 rfl ?_
    refine j_iconst X (v := 5) dL_law_379 (by decide) ?_
    refine j_icmp_ge X (tgt := 445) dL_law_380 (by decide) (fun c_380 => ?_) (fun c_380 => ?_)
    · refine j_sub [1, 2, 3, 8] (L' := [(0, .ref b), (1, .ref B), (2, .int (nI E)), (10, .int 1)]) rfl ?_
      exact k445 _ _ h2
    · refine j_iload X 4 dL_law_383 rfl ?_
      refine j_sipush X (v := 1536) dL_law_385 (by decide) ?_
      refine j_iand X dL_law_388 ?_
      refine j_if_ne X (tgt := 445) dL_law_389 (by decide) (fun c_389 => ?_) (fun c_389 => ?_)
      · refine j_sub [1, 2, 3, 8] (L' := [(0, .ref b), (1, .ref B), (2, .int (nI E)), (10, .int 1)]) rfl ?_
        exact k445 _ _ h2
      · have act := ha ((nI_ltI (b := 5) (by omega) (by decide)).mp c_380)
        rcases act with hS | ⟨τ, hS⟩
        · have hdg : dg S2 = dg S := by rw [hS]
          have hct : xCount S2 13 = nI q := by rw [hS]; exact hq
          refine j_aload_n X 2 dL_law_392 rfl rfl ?_
          refine j_bipush X (v := 13) dL_law_393 (by decide) ?_
          refine j_callVi X (rest := []) (k_count l hct) m_yX9_count kM_RL_13 xput_0 rfl rfl rfl rfl rfl (Nat.le_of_ble_eq_true rfl) ⟨Nat.le_of_ble_eq_true rfl, Nat.le_of_ble_eq_true rfl, rm_c (by omega), rm_s (by omega)⟩ dL_law_395 ?_
          refine j_iload X 6 dL_law_398 rfl ?_
          refine j_icmp_ne X (tgt := 419) dL_law_400 (by decide) (fun c_400 => absurd rfl c_400) (fun c_400 => ?_)
          refine j_iload X 6 dL_law_403 rfl ?_
          refine j_iconst X (v := 4) dL_law_405 (by decide) ?_
          refine j_icmp_ne X (tgt := 445) dL_law_406 (by decide) (fun c_ => absurd c_361 c_) (fun _ => ?_)
          refine j_aload_n X 2 dL_law_409 rfl rfl ?_
          refine j_callSl X (rest := []) (c_L_digest l) m_yL_digest kM_RL_73 rfl rfl (Nat.le_of_ble_eq_true rfl) ⟨Nat.le_of_ble_eq_true rfl, Nat.le_of_ble_eq_true rfl, rm_c (by omega), rm_s (by omega)⟩ dL_law_410 ?_
          refine j_lload X 7 dL_law_413 rfl ?_
          refine j_lcmp X dL_law_415 ?_
          refine j_if_eq X (tgt := 445) dL_law_416 (by decide) (fun c_416 => ?_) (fun c_416 => absurd (lg_cmp0.mpr hdg) c_416)
          refine j_sub [1, 2, 3, 8] (L' := [(0, .ref b), (1, .ref B), (2, .int (nI E)), (10, .int 1)]) rfl ?_
          exact k445 _ _ h2
        · have hτ : IM M τ := by have := h2.1 0 (by decide); rw [hS] at this; exact this
          obtain ⟨q2, hq2, eq2, u1, u2, u3⟩ := undo_k h hτ
          have eqq : q2 = q := (nI_eq (by omega) (by omega)).mp (eq2.symm.trans hq)
          subst eqq
          have hn2 : (nx + 1) % 4 < 4 ∧ S2.2.1 1 = nI ((nx + 1) % 4) := by rw [hS]; exact (act_xv h hτ).2.1
          rw [← hS] at u1 u2 u3
          have hd3 : dg (xUndo ((nx + 1) % 4) S2).2 = dg S := dg_cg u2
          generalize hU : xUndo ((nx + 1) % 4) S2 = U at u1 u2 u3 hd3
          refine j_aload_n X 2 dL_law_392 rfl rfl ?_
          refine j_bipush X (v := 13) dL_law_393 (by decide) ?_
          refine j_callVi X (rest := []) (c_X9_count l) m_yX9_count kM_RL_13 xput_0 rfl rfl rfl rfl rfl (Nat.le_of_ble_eq_true rfl) ⟨Nat.le_of_ble_eq_true rfl, Nat.le_of_ble_eq_true rfl, rm_c (by omega), rm_s (by omega)⟩ dL_law_395 ?_
          refine j_iload X 6 dL_law_398 rfl ?_
          refine j_icmp_ne X (tgt := 419) dL_law_400 (by decide) (fun c_400 => ?_) (fun c_400 => ?_)
          · refine j_aload_n X 2 dL_law_419 rfl rfl ?_
            refine j_callVi X (rest := []) (k_undo l hn2 (show xUndo ((nx + 1) % 4) S2 = (3, U.2) from by rw [hU, show U = (U.1, U.2) from rfl, u1, if_pos ((nI_eq (b := 4) (by omega) (by decide)).mp c_361)]; rfl)) m_yX9_undo kM_RL_103 xput_0 rfl rfl rfl rfl rfl (Nat.le_of_ble_eq_true rfl) ⟨Nat.le_of_ble_eq_true rfl, Nat.le_of_ble_eq_true rfl, rm_c (by omega), rm_s (by omega)⟩ dL_law_420 ?_
            refine j_iload X 0 dL_law_423 rfl ?_
            refine j_icmp_ne X (tgt := 442) dL_law_425 (by decide) (fun c_425 => absurd rfl c_425) (fun c_425 => ?_)
            refine j_aload_n X 2 dL_law_428 rfl rfl ?_
            refine j_callSl X (rest := []) (k_digest l hd3) m_yL_digest kM_RL_73 rfl rfl (Nat.le_of_ble_eq_true rfl) ⟨Nat.le_of_ble_eq_true rfl, Nat.le_of_ble_eq_true rfl, rm_c (by omega), rm_s (by omega)⟩ dL_law_429 ?_
            refine j_lload X 7 dL_law_432 rfl ?_
            refine j_lcmp X dL_law_434 ?_
            refine j_if_ne X (tgt := 442) dL_law_435 (by decide) (fun c_435 => absurd (lg_cmp0.mpr rfl) c_435) (fun c_435 => ?_)
            refine j_iconst X (v := 1) dL_law_438 (by decide) ?_
            refine j_goto X (tgt := 443) dL_law_439 (by decide) ?_
            refine j_istore X (L' := [(10, .int 1), (11, .int 3), (0, .ref b), (1, .ref B), (2, .int (nI E)), (4, .int y), (5, .int (nI so)), (7, .int (nI q2)), (8, .long (dg S))]) dL_law_443 (by decide) rfl ?_
            refine j_sub [2, 3, 4, 0] (L' := [(0, .ref b), (1, .ref B), (2, .int (nI E)), (10, .int 1)]) rfl ?_
            exact k445 _ _ u3
          · refine j_iload X 6 dL_law_403 rfl ?_
            refine j_iconst X (v := 4) dL_law_405 (by decide) ?_
            refine j_icmp_ne X (tgt := 445) dL_law_406 (by decide) (fun c_ => absurd c_361 c_) (fun _ => ?_)
            refine j_aload_n X 2 dL_law_409 rfl rfl ?_
            refine j_callSl X (rest := []) (c_L_digest l) m_yL_digest kM_RL_73 rfl rfl (Nat.le_of_ble_eq_true rfl) ⟨Nat.le_of_ble_eq_true rfl, Nat.le_of_ble_eq_true rfl, rm_c (by omega), rm_s (by omega)⟩ dL_law_410 ?_
            refine j_lload X 7 dL_law_413 rfl ?_
            refine j_lcmp X dL_law_415 ?_
            refine j_if_eq X (tgt := 445) dL_law_416 (by decide) (fun c_416 => ?_) (fun c_416 => ?_)
            · refine j_sub [1, 2, 3, 8] (L' := [(0, .ref b), (1, .ref B), (2, .int (nI E)), (10, .int 1)]) rfl ?_
              exact k445 _ _ h2
            · refine j_aload_n X 2 dL_law_419 rfl rfl ?_
              refine j_callVi X (rest := []) (k_undo l hn2 (show xUndo ((nx + 1) % 4) S2 = (3, U.2) from by rw [hU, show U = (U.1, U.2) from rfl, u1, if_pos ((nI_eq (b := 4) (by omega) (by decide)).mp c_361)]; rfl)) m_yX9_undo kM_RL_103 xput_0 rfl rfl rfl rfl rfl (Nat.le_of_ble_eq_true rfl) ⟨Nat.le_of_ble_eq_true rfl, Nat.le_of_ble_eq_true rfl, rm_c (by omega), rm_s (by omega)⟩ dL_law_420 ?_
              refine j_iload X 0 dL_law_423 rfl ?_
              refine j_icmp_ne X (tgt := 442) dL_law_425 (by decide) (fun c_425 => absurd rfl c_425) (fun c_425 => ?_)
              refine j_aload_n X 2 dL_law_428 rfl rfl ?_
              refine j_callSl X (rest := []) (k_digest l hd3) m_yL_digest kM_RL_73 rfl rfl (Nat.le_of_ble_eq_true rfl) ⟨Nat.le_of_ble_eq_true rfl, Nat.le_of_ble_eq_true rfl, rm_c (by omega), rm_s (by omega)⟩ dL_law_429 ?_
              refine j_lload X 7 dL_law_432 rfl ?_
              refine j_lcmp X dL_law_434 ?_
              refine j_if_ne X (tgt := 442) dL_law_435 (by decide) (fun c_435 => absurd (lg_cmp0.mpr rfl) c_435) (fun c_435 => ?_)
              refine j_iconst X (v := 1) dL_law_438 (by decide) ?_
              refine j_goto X (tgt := 443) dL_law_439 (by decide) ?_
              refine j_istore X (L' := [(10, .int 1), (11, .int 3), (0, .ref b), (1, .ref B), (2, .int (nI E)), (4, .int y), (5, .int (nI so)), (7, .int (nI q2)), (8, .long (dg S))]) dL_law_443 (by decide) rfl ?_
              refine j_sub [2, 3, 4, 0] (L' := [(0, .ref b), (1, .ref B), (2, .int (nI E)), (10, .int 1)]) rfl ?_
              exact k445 _ _ u3
set_option maxRecDepth 100000 in
set_option maxHeartbeats 4000000 in
theorem law_sets (X : Cx p s m #[Value.ref b] meth c code 13 RL D B) {E M nx cl sl q so k : Nat} {g y : Int32} {dv : Int64} {S : Sy} (h : XV M nx S) (hk : k < 8) (hso : so < 4) (hcl : cl ≤ 900) (hsl : sl ≤ 19000) (K : ∀ nx2 S2, XV (M + 12) nx2 S2 → Act nx S S2 → LJ p l e s m below meth c D B b S2 cl sl [(0, .ref b), (1, .ref B), (2, .int (nI E)), (4, .int y), (5, .int (nI so)), (7, .int (nI q)), (8, .long dv), (10, .int 1)] [] 358) : LJ p l e s m below meth c D B b S cl sl [(0, .ref b), (1, .ref B), (2, .int (nI E)), (3, .int g), (4, .int y), (5, .int (nI so)), (6, .int (nI k)), (7, .int (nI q)), (8, .long dv), (10, .int 1)] [] 187 := by
  have hx := h.2.1
  rcases (show so = 0 ∨ so = 1 ∨ so = 2 ∨ so = 3 by omega) with rfl | rfl | rfl | rfl
  · by_cases hy : y &&& 3 = 0
    · obtain ⟨t, S2, nx2, ee, hx2, ha, -, s1, s2, s3, s4⟩ := ks0_k (up := 0) hk (Or.inl rfl) h
      refine j_aload_n X 1 dL_law_187 rfl rfl ?_
      refine j_iload X 5 dL_law_188 rfl ?_
      refine j_iload X 6 dL_law_190 rfl ?_
      refine j_iload X 4 dL_law_192 rfl ?_
      refine j_callSi X (rest := []) (c_L_sets0a l hx hy ee s1 s2 s3 s4) m_yL_sets kM_RL_113 rfl rfl (Nat.le_of_ble_eq_true rfl) ⟨Nat.le_of_ble_eq_true rfl, Nat.le_of_ble_eq_true rfl, rm_c (by omega), rm_s (by omega)⟩ dL_law_194 ?_
      refine j_istore X (L' := [(10, .int 1), (0, .ref b), (1, .ref B), (2, .int (nI E)), (3, .int g), (4, .int y), (5, .int (nI 0)), (6, .int (nI k)), (7, .int (nI q)), (8, .long dv)]) dL_law_197 (by decide) rfl ?_
      refine j_goto X (tgt := 358) dL_law_199 (by decide) ?_
      refine j_sub [1, 2, 3, 5, 6, 8, 9, 0] (L' := [(0, .ref b), (1, .ref B), (2, .int (nI E)), (4, .int y), (5, .int (nI 0)), (7, .int (nI q)), (8, .long dv), (10, .int 1)]) rfl ?_
      exact (K _ _ hx2 ha)
    · obtain ⟨t, S2, nx2, ee, hx2, ha, -, s1, s2, s3, s4⟩ := ks0_k (up := 1) hk (Or.inr rfl) h
      refine j_aload_n X 1 dL_law_187 rfl rfl ?_
      refine j_iload X 5 dL_law_188 rfl ?_
      refine j_iload X 6 dL_law_190 rfl ?_
      refine j_iload X 4 dL_law_192 rfl ?_
      refine j_callSi X (rest := []) (c_L_sets0b l hx hy ee s1 s2 s3 s4) m_yL_sets kM_RL_113 rfl rfl (Nat.le_of_ble_eq_true rfl) ⟨Nat.le_of_ble_eq_true rfl, Nat.le_of_ble_eq_true rfl, rm_c (by omega), rm_s (by omega)⟩ dL_law_194 ?_
      refine j_istore X (L' := [(10, .int 1), (0, .ref b), (1, .ref B), (2, .int (nI E)), (3, .int g), (4, .int y), (5, .int (nI 0)), (6, .int (nI k)), (7, .int (nI q)), (8, .long dv)]) dL_law_197 (by decide) rfl ?_
      refine j_goto X (tgt := 358) dL_law_199 (by decide) ?_
      refine j_sub [1, 2, 3, 5, 6, 8, 9, 0] (L' := [(0, .ref b), (1, .ref B), (2, .int (nI E)), (4, .int y), (5, .int (nI 0)), (7, .int (nI q)), (8, .long dv), (10, .int 1)]) rfl ?_
      exact (K _ _ hx2 ha)
  · obtain ⟨t, S2, nx2, ee, hx2, ha, -, s1, s2, s3⟩ := ks1_k hk h
    have hx2 := hx2.mono (show M ≤ M + 12 by omega)
    refine j_aload_n X 1 dL_law_187 rfl rfl ?_
    refine j_iload X 5 dL_law_188 rfl ?_
    refine j_iload X 6 dL_law_190 rfl ?_
    refine j_iload X 4 dL_law_192 rfl ?_
    refine j_callSi X (rest := []) (c_L_sets1 l hx ee s1 s2 s3) m_yL_sets kM_RL_113 rfl rfl (Nat.le_of_ble_eq_true rfl) ⟨Nat.le_of_ble_eq_true rfl, Nat.le_of_ble_eq_true rfl, rm_c (by omega), rm_s (by omega)⟩ dL_law_194 ?_
    refine j_istore X (L' := [(10, .int 1), (0, .ref b), (1, .ref B), (2, .int (nI E)), (3, .int g), (4, .int y), (5, .int (nI 1)), (6, .int (nI k)), (7, .int (nI q)), (8, .long dv)]) dL_law_197 (by decide) rfl ?_
    refine j_goto X (tgt := 358) dL_law_199 (by decide) ?_
    refine j_sub [1, 2, 3, 5, 6, 8, 9, 0] (L' := [(0, .ref b), (1, .ref B), (2, .int (nI E)), (4, .int y), (5, .int (nI 1)), (7, .int (nI q)), (8, .long dv), (10, .int 1)]) rfl ?_
    exact (K _ _ hx2 ha)
  · obtain ⟨w, hw, hl⟩ := low_k y (d := 4) (by decide) (by decide)
    have hl : lowF y 4 = nI w := hl
    obtain ⟨v, hv1, hv, hv0, hv1_, hv2, hv3⟩ : ∃ v : Nat, 1 ≤ v ∧ v ≤ gst w ∧ (nI w = 0 → (1 : Int32) + lowF (y >>> (2 &&& 31)) 30 = nI v) ∧ (nI w = 1 → (1 : Int32) + lowF (y >>> (2 &&& 31)) 40 = nI v) ∧ (nI w = 2 → (1 : Int32) + lowF (y >>> (2 &&& 31)) 6 = nI v) ∧ (¬ nI w = 0 → ¬ nI w = 1 → ¬ nI w = 2 → (1 : Int32) + lowF (y >>> (2 &&& 31)) 10 = nI v) := by
      have ez : ∀ a b, a < 4 → b < 4 → nI a = nI b → a = b := fun a b h1 h2 z => (nI_eq (by omega) (by omega)).mp z
      rcases (show w = 0 ∨ w = 1 ∨ w = 2 ∨ w = 3 by omega) with rfl | rfl | rfl | rfl
      · obtain ⟨j, hj, ej⟩ := low_k (y >>> (2 &&& 31)) (d := 30) (by decide) (by decide)
        have ej : lowF (y >>> (2 &&& 31)) 30 = nI j := ej
        have ev : (1 : Int32) + lowF (y >>> (2 &&& 31)) 30 = nI (1 + j) := by rw [ej, show (1 : Int32) = nI 1 from rfl, nI_add]
        exact ⟨1 + j, by omega, by show 1 + j ≤ 1000; omega, fun _ => ev, fun z => absurd (ez 0 1 (by decide) (by decide) z) (by decide), fun z => absurd (ez 0 2 (by decide) (by decide) z) (by decide), fun z0 z1 z2 => absurd rfl z0⟩
      · obtain ⟨j, hj, ej⟩ := low_k (y >>> (2 &&& 31)) (d := 40) (by decide) (by decide)
        have ej : lowF (y >>> (2 &&& 31)) 40 = nI j := ej
        have ev : (1 : Int32) + lowF (y >>> (2 &&& 31)) 40 = nI (1 + j) := by rw [ej, show (1 : Int32) = nI 1 from rfl, nI_add]
        exact ⟨1 + j, by omega, by show 1 + j ≤ 600; omega, fun z => absurd (ez 1 0 (by decide) (by decide) z) (by decide), fun _ => ev, fun z => absurd (ez 1 2 (by decide) (by decide) z) (by decide), fun z0 z1 z2 => absurd rfl z1⟩
      · obtain ⟨j, hj, ej⟩ := low_k (y >>> (2 &&& 31)) (d := 6) (by decide) (by decide)
        have ej : lowF (y >>> (2 &&& 31)) 6 = nI j := ej
        have ev : (1 : Int32) + lowF (y >>> (2 &&& 31)) 6 = nI (1 + j) := by rw [ej, show (1 : Int32) = nI 1 from rfl, nI_add]
        exact ⟨1 + j, by omega, by show 1 + j ≤ 50; omega, fun z => absurd (ez 2 0 (by decide) (by decide) z) (by decide), fun z => absurd (ez 2 1 (by decide) (by decide) z) (by decide), fun _ => ev, fun z0 z1 z2 => absurd rfl z2⟩
      · obtain ⟨j, hj, ej⟩ := low_k (y >>> (2 &&& 31)) (d := 10) (by decide) (by decide)
        have ej : lowF (y >>> (2 &&& 31)) 10 = nI j := ej
        have ev : (1 : Int32) + lowF (y >>> (2 &&& 31)) 10 = nI (1 + j) := by rw [ej, show (1 : Int32) = nI 1 from rfl, nI_add]
        exact ⟨1 + j, by omega, by show 1 + j ≤ 10; omega, fun z => absurd (ez 3 0 (by decide) (by decide) z) (by decide), fun z => absurd (ez 3 1 (by decide) (by decide) z) (by decide), fun z => absurd (ez 3 2 (by decide) (by decide) z) (by decide), fun z0 z1 z2 => ev⟩
    obtain ⟨t, S2, nx2, ee, hx2, ha, -, s1, s2, s3, s4, s5⟩ := ks2_k hw hv1 hv h
    have hn2 := hx2.2.1
    have hx2 := hx2.mono (show M ≤ M + 12 by omega)
    refine j_aload_n X 1 dL_law_187 rfl rfl ?_
    refine j_iload X 5 dL_law_188 rfl ?_
    refine j_iload X 6 dL_law_190 rfl ?_
    refine j_iload X 4 dL_law_192 rfl ?_
    refine j_callSi X (rest := []) (c_L_sets2 l hx hn2 hl hv0 hv1_ hv2 hv3 ee s1 s2 s3 s4 s5) m_yL_sets kM_RL_113 rfl rfl (Nat.le_of_ble_eq_true rfl) ⟨Nat.le_of_ble_eq_true rfl, Nat.le_of_ble_eq_true rfl, rm_c (by omega), rm_s (by omega)⟩ dL_law_194 ?_
    refine j_istore X (L' := [(10, .int 1), (0, .ref b), (1, .ref B), (2, .int (nI E)), (3, .int g), (4, .int y), (5, .int (nI 2)), (6, .int (nI k)), (7, .int (nI q)), (8, .long dv)]) dL_law_197 (by decide) rfl ?_
    refine j_goto X (tgt := 358) dL_law_199 (by decide) ?_
    refine j_sub [1, 2, 3, 5, 6, 8, 9, 0] (L' := [(0, .ref b), (1, .ref B), (2, .int (nI E)), (4, .int y), (5, .int (nI 2)), (7, .int (nI q)), (8, .long dv), (10, .int 1)]) rfl ?_
    exact (K _ _ hx2 ha)
  · obtain ⟨j, hj, ej⟩ := low_k y (d := 12) (by decide) (by decide)
    have ej : lowF y 12 = nI j := ej
    have hl : (1 : Int32) + lowF y 12 = nI (1 + j) := by rw [ej, show (1 : Int32) = nI 1 from rfl, nI_add]
    obtain ⟨t, S2, nx2, ee, hx2, ha, -, s1, s2⟩ := ks3_k (a := 1 + j) (by omega) (by omega) h
    have hx2 := hx2.mono (show M ≤ M + 12 by omega)
    refine j_aload_n X 1 dL_law_187 rfl rfl ?_
    refine j_iload X 5 dL_law_188 rfl ?_
    refine j_iload X 6 dL_law_190 rfl ?_
    refine j_iload X 4 dL_law_192 rfl ?_
    refine j_callSi X (rest := []) (c_L_sets3 l hx hl ee s1 s2) m_yL_sets kM_RL_113 rfl rfl (Nat.le_of_ble_eq_true rfl) ⟨Nat.le_of_ble_eq_true rfl, Nat.le_of_ble_eq_true rfl, rm_c (by omega), rm_s (by omega)⟩ dL_law_194 ?_
    refine j_istore X (L' := [(10, .int 1), (0, .ref b), (1, .ref B), (2, .int (nI E)), (3, .int g), (4, .int y), (5, .int (nI 3)), (6, .int (nI k)), (7, .int (nI q)), (8, .long dv)]) dL_law_197 (by decide) rfl ?_
    refine j_goto X (tgt := 358) dL_law_199 (by decide) ?_
    refine j_sub [1, 2, 3, 5, 6, 8, 9, 0] (L' := [(0, .ref b), (1, .ref B), (2, .int (nI E)), (4, .int y), (5, .int (nI 3)), (7, .int (nI q)), (8, .long dv), (10, .int 1)]) rfl ?_
    exact (K _ _ hx2 ha)
set_option maxRecDepth 100000 in
set_option maxHeartbeats 4000000 in
theorem law_cables (X : Cx p s m #[Value.ref b] meth c code 13 RL D B) {E M nx cl sl q so k : Nat} {g y : Int32} {dv : Int64} {S : Sy} (h : XV M nx S) (hk : k < 8) (hcl : cl ≤ 900) (hsl : sl ≤ 19000) (K : ∀ nx2 S2, XV M nx2 S2 → Act nx S S2 → LJ p l e s m below meth c D B b S2 cl sl [(0, .ref b), (1, .ref B), (2, .int (nI E)), (4, .int y), (5, .int (nI so)), (7, .int (nI q)), (8, .long dv), (10, .int 1)] [] 358) : LJ p l e s m below meth c D B b S cl sl [(0, .ref b), (1, .ref B), (2, .int (nI E)), (3, .int g), (4, .int y), (5, .int (nI so)), (6, .int (nI k)), (7, .int (nI q)), (8, .long dv), (10, .int 1)] [] 208 := by
  have hx := h.2.1
  obtain ⟨j, hj, ej⟩ := low_k y (d := 8) (by decide) (by decide)
  have ej : lowF y 8 = nI j := ej
  by_cases hy : y &&& 256 = 0
  · obtain ⟨t, S2, nx2, ee, hx2, ha, -, j1, j2, j3⟩ := kj_k hk hj h
    refine j_aload_n X 1 dL_law_208 rfl rfl ?_
    refine j_iload X 6 dL_law_209 rfl ?_
    refine j_iload X 4 dL_law_211 rfl ?_
    refine j_callSi X (rest := []) (c_L_cablesJ l hx ej hy ee j1 j2 j3) m_yL_cables kM_RL_117 rfl rfl (Nat.le_of_ble_eq_true rfl) ⟨Nat.le_of_ble_eq_true rfl, Nat.le_of_ble_eq_true rfl, rm_c (by omega), rm_s (by omega)⟩ dL_law_213 ?_
    refine j_istore X (L' := [(10, .int 1), (0, .ref b), (1, .ref B), (2, .int (nI E)), (3, .int g), (4, .int y), (5, .int (nI so)), (6, .int (nI k)), (7, .int (nI q)), (8, .long dv)]) dL_law_216 (by decide) rfl ?_
    refine j_goto X (tgt := 358) dL_law_218 (by decide) ?_
    refine j_sub [1, 2, 3, 5, 6, 8, 9, 0] (L' := [(0, .ref b), (1, .ref B), (2, .int (nI E)), (4, .int y), (5, .int (nI so)), (7, .int (nI q)), (8, .long dv), (10, .int 1)]) rfl ?_
    exact (K _ _ hx2 ha)
  · obtain ⟨t, S2, nx2, ee, hx2, ha, -, p1, p2, p3⟩ := kp_k hk h
    refine j_aload_n X 1 dL_law_208 rfl rfl ?_
    refine j_iload X 6 dL_law_209 rfl ?_
    refine j_iload X 4 dL_law_211 rfl ?_
    refine j_callSi X (rest := []) (c_L_cablesP l hx ej hy ee p1 p2 p3) m_yL_cables kM_RL_117 rfl rfl (Nat.le_of_ble_eq_true rfl) ⟨Nat.le_of_ble_eq_true rfl, Nat.le_of_ble_eq_true rfl, rm_c (by omega), rm_s (by omega)⟩ dL_law_213 ?_
    refine j_istore X (L' := [(10, .int 1), (0, .ref b), (1, .ref B), (2, .int (nI E)), (3, .int g), (4, .int y), (5, .int (nI so)), (6, .int (nI k)), (7, .int (nI q)), (8, .long dv)]) dL_law_216 (by decide) rfl ?_
    refine j_goto X (tgt := 358) dL_law_218 (by decide) ?_
    refine j_sub [1, 2, 3, 5, 6, 8, 9, 0] (L' := [(0, .ref b), (1, .ref B), (2, .int (nI E)), (4, .int y), (5, .int (nI so)), (7, .int (nI q)), (8, .long dv), (10, .int 1)]) rfl ?_
    exact (K _ _ hx2 ha)
set_option maxRecDepth 100000 in
set_option maxHeartbeats 4000000 in
theorem law_parts (X : Cx p s m #[Value.ref b] meth c code 13 RL D B) {E M nx cl sl q so k : Nat} {g y : Int32} {dv : Int64} {S : Sy} (hM : M < 9000000) (h : XV M nx S) (hcl : cl ≤ 900) (hsl : sl ≤ 19000) (K : ∀ nx2 S2, XV (M + 40000) nx2 S2 → LJ p l e s m below meth c D B b S2 cl sl [(0, .ref b), (1, .ref B), (2, .int (nI E)), (4, .int y), (5, .int (nI so)), (7, .int (nI q)), (8, .long dv), (10, .int 1)] [] 358) : LJ p l e s m below meth c D B b S cl sl [(0, .ref b), (1, .ref B), (2, .int (nI E)), (3, .int g), (4, .int y), (5, .int (nI so)), (6, .int (nI k)), (7, .int (nI q)), (8, .long dv), (10, .int 1)] [] 228 := by
  obtain ⟨j1, hj1, ej1⟩ := low_k y (d := 4) (by decide) (by decide)
  have ej1 : lowF y 4 = nI j1 := ej1
  obtain ⟨j2, hj2, ej2⟩ := low_k (y >>> (5 &&& 31)) (d := 4) (by decide) (by decide)
  have ej2 : lowF (y >>> (5 &&& 31)) 4 = nI j2 := ej2
  obtain ⟨S1, S2, S3, S4, S5, n2, n3, n4, n5, ck, t, f1, f2, e1, x1, e2, x2, yg, eck, e3, x3, e4, x4, e5, x5, es, e0⟩ := parts_k (a := 1 + j1) (b := 1 + j2) (by omega) (by omega) (by omega) (by omega) (by omega) h
  obtain ⟨n, hn, ec, hy⟩ := yg_k x2 yg
  refine j_aload_n X 1 dL_law_228 rfl rfl ?_
  refine j_iconst X (v := 1) dL_law_229 (by decide) ?_
  refine j_iload X 4 dL_law_230 rfl ?_
  refine j_iconst X (v := 4) dL_law_232 (by decide) ?_
  refine j_callSi X (rest := [.int 1, .ref B]) (c_L_low l (by decide)) m_yL_low kM_RL_80 rfl rfl (Nat.le_of_ble_eq_true rfl) ⟨Nat.le_of_ble_eq_true rfl, Nat.le_of_ble_eq_true rfl, rm_c (by omega), rm_s (by omega)⟩ dL_law_233 ?_
  refine j_iadd X dL_law_236 ?_
  refine j_st (st' := [.int (nI (1 + j1)), .ref B]) (by rw [ej1, show (1 : Int32) = nI 1 from rfl, nI_add]) ?_
  refine j_iconst X (v := 1) dL_law_237 (by decide) ?_
  refine j_iload X 4 dL_law_238 rfl ?_
  refine j_iconst X (v := 5) dL_law_240 (by decide) ?_
  refine j_ishr X dL_law_241 ?_
  refine j_iconst X (v := 4) dL_law_242 (by decide) ?_
  refine j_callSi X (rest := [.int 1, .int (nI (1 + j1)), .ref B]) (c_L_low l (by decide)) m_yL_low kM_RL_80 rfl rfl (Nat.le_of_ble_eq_true rfl) ⟨Nat.le_of_ble_eq_true rfl, Nat.le_of_ble_eq_true rfl, rm_c (by omega), rm_s (by omega)⟩ dL_law_243 ?_
  refine j_iadd X dL_law_246 ?_
  refine j_st (st' := [.int (nI (1 + j2)), .int (nI (1 + j1)), .ref B]) (by rw [ej2, show (1 : Int32) = nI 1 from rfl, nI_add]) ?_
  refine j_callSi X (rest := []) (c_L_parts l e1 x1.2.1 e2 x2.2.1 ec hn hy eck e3 x3.2.1 e4 x4.2.1 e5 es (dg_cg e0)) m_yL_parts kM_RL_121 rfl rfl (Nat.le_of_ble_eq_true rfl) ⟨Nat.le_of_ble_eq_true rfl, Nat.le_of_ble_eq_true rfl, rm_c (by omega), rm_s (by omega)⟩ dL_law_247 ?_
  refine j_istore X (L' := [(10, .int 1), (0, .ref b), (1, .ref B), (2, .int (nI E)), (3, .int g), (4, .int y), (5, .int (nI so)), (6, .int (nI k)), (7, .int (nI q)), (8, .long dv)]) dL_law_250 (by decide) rfl ?_
  refine j_goto X (tgt := 358) dL_law_252 (by decide) ?_
  refine j_sub [1, 2, 3, 5, 6, 8, 9, 0] (L' := [(0, .ref b), (1, .ref B), (2, .int (nI E)), (4, .int y), (5, .int (nI so)), (7, .int (nI q)), (8, .long dv), (10, .int 1)]) rfl ?_
  exact (K _ _ x5)
set_option maxRecDepth 100000 in
set_option maxHeartbeats 8000000 in
theorem law_frames (X : Cx p s m #[Value.ref b] meth c code 13 RL D B) {E M0 c0 s0 q so k : Nat} {g y : Int32} {dv : Int64} (hk : k < 8) (hM0 : M0 < 9000000) (hc0 : c0 ≤ 900) (hs0 : s0 ≤ 19000) (K : ∀ nx2 S2 cl2 sl2, XV M0 nx2 S2 → 211 ≤ cl2 → cl2 ≤ c0 → sl2 ≤ s0 → LJ p l e s m below meth c D B b S2 cl2 sl2 [(0, .ref b), (1, .ref B), (2, .int (nI E)), (4, .int y), (5, .int (nI so)), (7, .int (nI q)), (8, .long dv), (10, .int 1)] [] 358) : ∀ (i nx M cl sl : Nat) (S : Sy), i ≤ 5 → XV M nx S → M + 20 * i ≤ M0 → 211 ≤ cl → cl + 2 * i ≤ c0 → sl + 16 * i ≤ s0 → LJ p l e s m below meth c D B b S cl sl [(0, .ref b), (1, .ref B), (2, .int (nI E)), (3, .int g), (4, .int y), (5, .int (nI so)), (6, .int (nI k)), (7, .int (nI q)), (8, .long dv), (10, .int 1), (11, .int (dn i))] [] 266 := by
  intro i
  induction i with
  | zero =>
    intro nx M cl sl S _ h hm h211 hcl hsl
    refine j_iload X 10 dL_law_266 rfl ?_
    refine j_if_lt X (tgt := 358) dL_law_268 (by decide) (fun c_268 => ?_) (fun c_268 => absurd (show dn 0 < 0 by decide) c_268)
    refine j_sub [0, 1, 2, 4, 5, 7, 8, 9] (L' := [(0, .ref b), (1, .ref B), (2, .int (nI E)), (4, .int y), (5, .int (nI so)), (7, .int (nI q)), (8, .long dv), (10, .int 1)]) rfl ?_
    exact (K _ _ _ _ (h.mono (by omega)) h211 (by omega) (by omega))
  | succ i ih =>
    intro nx M cl sl S hi h hm h211 hcl hsl
    obtain ⟨t, ht, et⟩ : ∃ t : Nat, t < 2 ∧ (y >>> (nI i &&& 31)) &&& 1 = nI t := pk_andE _ (m := 1) 1 (by decide)
    obtain ⟨jc, hjc, ejc⟩ := low_k (y >>> ((3 + nI i) &&& 31)) (d := 9) (by decide) (by decide)
    have ejc : lowF (y >>> ((3 + nI i) &&& 31)) 9 = nI jc := ejc
    obtain ⟨ja, hja, eja⟩ := low_k (y >>> ((7 + nI i) &&& 31)) (d := 9) (by decide) (by decide)
    have eja : lowF (y >>> ((7 + nI i) &&& 31)) 9 = nI ja := eja
    obtain ⟨pr, hpr, epr⟩ := low_k (g >>> ((4 + nI i) &&& 31)) (d := 4) (by decide) (by decide)
    have epr : lowF (g >>> ((4 + nI i) &&& 31)) 4 = nI pr := epr
    have hk2 : (k + t) % 8 < 8 := Nat.mod_lt _ (by decide)
    have ekt : (nI k + nI t) - (nI k + nI t) / 8 * 8 = nI ((k + t) % 8) := by rw [nI_add, show (8 : Int32) = nI 8 from rfl, pk_rem (by omega) (by decide) (by decide)]
    refine j_sub [0, 1, 2, 3, 4, 5, 6, 7, 8, 9, 10] (L' := [(0, .ref b), (1, .ref B), (2, .int (nI E)), (3, .int g), (4, .int y), (5, .int (nI so)), (6, .int (nI k)), (7, .int (nI q)), (8, .long dv), (10, .int 1), (11, .int (nI i))]) rfl ?_
    refine j_iload X 10 dL_law_266 rfl ?_
    refine j_if_lt X (tgt := 358) dL_law_268 (by decide) (fun c_268 => absurd c_268 (nI_pos (by omega))) (fun c_268 => ?_)
    refine j_iload X 9 dL_law_271 rfl ?_
    refine j_if_eq X (tgt := 358) dL_law_273 (by decide) (fun c_ => absurd c_ (by decide)) (fun _ => ?_)
    have k306 : ∀ cd : Nat, cd < 100 → LJ p l e s m below meth c D B b S cl sl [(0, .ref b), (1, .ref B), (2, .int (nI E)), (3, .int g), (4, .int y), (5, .int (nI so)), (6, .int (nI k)), (7, .int (nI q)), (8, .long dv), (10, .int 1), (11, .int (nI i)), (12, .int (nI cd))] [] 306 := by
      intro cd hcd
      obtain ⟨S1, S2, w, n, eW, x1, eF, x2, hB⟩ := fm_k (a := 1 + ja) (b := cd) (pr := pr) (by omega) hk2 (by omega) (by omega) hcd hpr h
      refine j_aload_n X 1 dL_law_306 rfl rfl ?_
      refine j_iload X 6 dL_law_307 rfl ?_
      refine j_iload X 4 dL_law_309 rfl ?_
      refine j_iload X 10 dL_law_311 rfl ?_
      refine j_ishr X dL_law_313 ?_
      refine j_iconst X (v := 1) dL_law_314 (by decide) ?_
      refine j_iand X dL_law_315 ?_
      refine j_iadd X dL_law_316 ?_
      refine j_bipush X (v := 8) dL_law_317 (by decide) ?_
      refine j_irem X dL_law_319 (by decide) ?_
      refine j_st (st' := [.int (nI ((k + t) % 8)), .ref B]) (by rw [et, ekt]) ?_
      refine j_iconst X (v := 1) dL_law_320 (by decide) ?_
      refine j_iload X 4 dL_law_321 rfl ?_
      refine j_bipush X (v := 7) dL_law_323 (by decide) ?_
      refine j_iload X 10 dL_law_325 rfl ?_
      refine j_iadd X dL_law_327 ?_
      refine j_ishr X dL_law_328 ?_
      refine j_bipush X (v := 9) dL_law_329 (by decide) ?_
      refine j_callSi X (rest := [.int 1, .int (nI ((k + t) % 8)), .ref B]) (c_L_low l (by decide)) m_yL_low kM_RL_80 rfl rfl (Nat.le_of_ble_eq_true rfl) ⟨Nat.le_of_ble_eq_true rfl, Nat.le_of_ble_eq_true rfl, rm_c (by omega), rm_s (by omega)⟩ dL_law_331 ?_
      refine j_iadd X dL_law_334 ?_
      refine j_st (st' := [.int (nI (1 + ja)), .int (nI ((k + t) % 8)), .ref B]) (by rw [eja, show (1 : Int32) = nI 1 from rfl, nI_add]) ?_
      refine j_iload X 11 dL_law_335 rfl ?_
      refine j_iload_n X 3 dL_law_337 rfl rfl ?_
      refine j_iconst X (v := 4) dL_law_338 (by decide) ?_
      refine j_iload X 10 dL_law_339 rfl ?_
      refine j_iadd X dL_law_341 ?_
      refine j_ishr X dL_law_342 ?_
      refine j_iconst X (v := 4) dL_law_343 (by decide) ?_
      refine j_callSi X (rest := [.int (nI cd), .int (nI (1 + ja)), .int (nI ((k + t) % 8)), .ref B]) (k_low l (by decide) epr) m_yL_low kM_RL_80 rfl rfl (Nat.le_of_ble_eq_true rfl) ⟨Nat.le_of_ble_eq_true rfl, Nat.le_of_ble_eq_true rfl, rm_c (by omega), rm_s (by omega)⟩ dL_law_344 ?_
      refine j_callSk X (rest := []) (c_L_frames l (by omega) rfl rfl x1.2.1 hk2 eW eF hB) m_yL_frames kM_RL_124 rfl rfl (Nat.le_of_ble_eq_true rfl) ⟨Nat.le_of_ble_eq_true rfl, Nat.le_of_ble_eq_true rfl, rm_c (by omega), rm_s (by omega)⟩ dL_law_347 ?_
      refine j_eqs (cells' := (cl + 2)) (slots' := (sl + 16)) (z' := B + (cl + 2)) rfl rfl (by omega) ?_
      refine j_istore X (L' := [(10, .int 1), (0, .ref b), (1, .ref B), (2, .int (nI E)), (3, .int g), (4, .int y), (5, .int (nI so)), (6, .int (nI k)), (7, .int (nI q)), (8, .long dv), (11, .int (nI i)), (12, .int (nI cd))]) dL_law_350 (by decide) rfl ?_
      refine j_iinc X 10 (k := (-1)) (v := dn i) (L' := [(11, .int (dn i)), (10, .int 1), (0, .ref b), (1, .ref B), (2, .int (nI E)), (3, .int g), (4, .int y), (5, .int (nI so)), (6, .int (nI k)), (7, .int (nI q)), (8, .long dv), (12, .int (nI cd))]) dL_law_352 rfl (by decide) (by decide) (dn_s i) rfl ?_
      refine j_goto X (tgt := 266) dL_law_355 (by decide) ?_
      refine j_sub [2, 3, 4, 5, 6, 7, 8, 9, 10, 1, 0] (L' := [(0, .ref b), (1, .ref B), (2, .int (nI E)), (3, .int g), (4, .int y), (5, .int (nI so)), (6, .int (nI k)), (7, .int (nI q)), (8, .long dv), (10, .int 1), (11, .int (dn i))]) rfl ?_
      exact ih _ _ _ _ S2 (by omega) x2 (by omega) (by omega) (by omega) (by omega)
    refine j_iload X 4 dL_law_276 rfl ?_
    refine j_iload X 10 dL_law_278 rfl ?_
    refine j_ishr X dL_law_280 ?_
    refine j_iconst X (v := 3) dL_law_281 (by decide) ?_
    refine j_iand X dL_law_282 ?_
    refine j_if_ne X (tgt := 290) dL_law_283 (by decide) (fun c_283 => ?_) (fun c_283 => ?_)
    · refine j_iconst X (v := 1) dL_law_290 (by decide) ?_
      refine j_iload X 4 dL_law_291 rfl ?_
      refine j_iconst X (v := 3) dL_law_293 (by decide) ?_
      refine j_iload X 10 dL_law_294 rfl ?_
      refine j_iadd X dL_law_296 ?_
      refine j_ishr X dL_law_297 ?_
      refine j_bipush X (v := 9) dL_law_298 (by decide) ?_
      refine j_callSi X (rest := [.int 1]) (c_L_low l (by decide)) m_yL_low kM_RL_80 rfl rfl (Nat.le_of_ble_eq_true rfl) ⟨Nat.le_of_ble_eq_true rfl, Nat.le_of_ble_eq_true rfl, rm_c (by omega), rm_s (by omega)⟩ dL_law_300 ?_
      refine j_iadd X dL_law_303 ?_
      refine j_st (st' := [.int (nI (1 + jc))]) (by rw [ejc, show (1 : Int32) = nI 1 from rfl, nI_add]) ?_
      refine j_istore X (L' := [(12, .int (nI (1 + jc))), (0, .ref b), (1, .ref B), (2, .int (nI E)), (3, .int g), (4, .int y), (5, .int (nI so)), (6, .int (nI k)), (7, .int (nI q)), (8, .long dv), (10, .int 1), (11, .int (nI i))]) dL_law_304 (by decide) rfl ?_
      refine j_sub [1, 2, 3, 4, 5, 6, 7, 8, 9, 10, 11, 0] (L' := [(0, .ref b), (1, .ref B), (2, .int (nI E)), (3, .int g), (4, .int y), (5, .int (nI so)), (6, .int (nI k)), (7, .int (nI q)), (8, .long dv), (10, .int 1), (11, .int (nI i)), (12, .int (nI (1 + jc)))]) rfl ?_
      exact k306 (1 + jc) (by omega)
    · refine j_iconst X (v := 0) dL_law_286 (by decide) ?_
      refine j_goto X (tgt := 304) dL_law_287 (by decide) ?_
      refine j_st (st' := [.int (nI 0)]) rfl ?_
      refine j_istore X (L' := [(12, .int (nI 0)), (0, .ref b), (1, .ref B), (2, .int (nI E)), (3, .int g), (4, .int y), (5, .int (nI so)), (6, .int (nI k)), (7, .int (nI q)), (8, .long dv), (10, .int 1), (11, .int (nI i))]) dL_law_304 (by decide) rfl ?_
      refine j_sub [1, 2, 3, 4, 5, 6, 7, 8, 9, 10, 11, 0] (L' := [(0, .ref b), (1, .ref B), (2, .int (nI E)), (3, .int g), (4, .int y), (5, .int (nI so)), (6, .int (nI k)), (7, .int (nI q)), (8, .long dv), (10, .int 1), (11, .int (nI i)), (12, .int (nI 0))]) rfl ?_
      exact k306 0 (by omega)
end BODY
