/-! the history is made -/
theorem new1 : ∀ j, j < 3 → defaultValue (tyX1 j) = vp_V [.null, .int 0, .int 0] j := fun j hj => by
  have c : j = 0 ∨ j = 1 ∨ j = 2 := by omega
  rcases c with rfl | rfl | rfl <;> rfl
theorem new8 : ∀ j, j < 3 → defaultValue (tyX8 j) = vp_V [.null, .int 0, .int 0] j := fun j hj => by
  have c : j = 0 ∨ j = 1 ∨ j = 2 := by omega
  rcases c with rfl | rfl | rfl <;> rfl
theorem new0 : ∀ j, j < 2 → defaultValue (tyX0 j) = vp_V [.null, .int 0] j := fun j hj => by
  have c : j = 0 ∨ j = 1 := by omega
  rcases c with rfl | rfl <;> rfl
theorem new9 : ∀ j, j < 7 → defaultValue (tyX9 j) = vp_V [.null, .null, .null, .null, .null, .null, .int 0] j := fun j hj => by
  have c : j = 0 ∨ j = 1 ∨ j = 2 ∨ j = 3 ∨ j = 4 ∨ j = 5 ∨ j = 6 := by omega
  rcases c with rfl | rfl | rfl | rfl | rfl | rfl | rfl <;> rfl
def S00 : Sy := (fun _ => sI 4, fun _ => 0, fun _ _ => 0)
abbrev refE (D : DD) (f : Nat → Option Nat) : va_E := .inl (D.2.1.2.2, (4, .inr (.inr (.inr (.inr f)))))
def cH (D : DD) (b : Nat) (f : Nat → Option Nat) (j : Nat) : va_E := if j = 1 then refE D f else xCell D b S00 (88 + j)
def fA (b : Nat) : Nat → Nat → Option Nat
  | 0 => fun _ => none
  | k + 1 => va_up (fA b k) k (some (b + 90 + 29 * k))
theorem fA_4 (b : Nat) : ∀ j, j < 4 → fA b 4 j = xsf b j := by
  intro j hj
  rcases (show j = 0 ∨ j = 1 ∨ j = 2 ∨ j = 3 by omega) with rfl | rfl | rfl | rfl <;> rfl
theorem xoff_h {k : Nat} (hk : k < 4) : xoff (3 + k) = 90 + 29 * k := by
  rcases (show k = 0 ∨ k = 1 ∨ k = 2 ∨ k = 3 by omega) with rfl | rfl | rfl | rfl <;> rfl
theorem cH_xsf {D : DD} {b : Nat} : cH D b (xsf b) = fun j => xCell D b S00 (88 + j) := by
  funext j
  unfold cH
  by_cases c : j = 1
  · rw [if_pos c, c]; rfl
  · rw [if_neg c]
theorem cH_st {D : DD} {b k : Nat} {f : Nat → Option Nat} (hk : k < 4) : ∀ j, j < 29 → stCell D (b + 90 + 29 * k) (sI 4) j = cH D b f (1 + 29 * k + 1 + j) := by
  intro j hj
  unfold cH
  rw [if_neg (by omega)]
  have e := xput_in (D := D) (h := fun _ => none) (b := b) (i := 3 + k) (S := S00) (by omega) j hj
  rw [xoff_h hk] at e
  rw [show 88 + (1 + 29 * k + 1 + j) = 90 + 29 * k + j by omega, e, show b + (90 + 29 * k) = b + 90 + 29 * k by omega]
  rfl
theorem gP_d {cf cc : Nat → va_E} {h : HF} {b n m z : Nat} {o x : va_E} (hz : z = b + n + 1) (hc : ∀ j, j < m → cc j = cf (n + 1 + j)) (hm : 0 < m) : gB cc (hupd (gP cf h b o n) z x) z m = gP cf h b o (n + m) := by
  have e := gP_c (o' := o) (h := h) (o := o) (x := x) hz hc hm
  rw [← e]
  refine (hupd_self ?_).symm
  subst hz
  unfold gB
  rw [if_neg (by omega), hupd_ne (by omega), gP_b]
theorem gP_at1 {D : DD} {b n : Nat} {f : Nat → Option Nat} {h : HF} {o : va_E} (hn : 1 ≤ n) : gP (cH D b f) h (b + 88) o n (b + 89) = some (refE D f) := by
  unfold gP
  rw [if_neg (by omega), if_pos (by omega), show b + 89 - (b + 88) = 1 by omega]
  rfl
theorem gP_a {D : DD} {b n : Nat} {f g : Nat → Option Nat} {h : HF} {o : va_E} (hn : 1 ≤ n) : hupd (gP (cH D b f) h (b + 88) o n) (b + 89) (refE D g) = gP (cH D b g) h (b + 88) o n := by
  funext q
  by_cases c : q = b + 89
  · subst c
    rw [hupd_same, gP_at1 hn]
  rw [hupd_ne c]
  unfold gP
  by_cases c2 : q = b + 88
  · rw [if_pos c2, if_pos c2]
  rw [if_neg c2, if_neg c2]
  by_cases c3 : b + 88 < q ∧ q ≤ b + 88 + n
  · rw [if_pos c3, if_pos c3]
    unfold cH
    rw [if_neg (by omega), if_neg (by omega)]
  · rw [if_neg c3, if_neg c3]
theorem gP_st {D : DD} {b k : Nat} {f : Nat → Option Nat} {h : HF} {o : va_E} (hk : k < 4) : gP (cH D b f) h (b + 88) o (1 + 29 * k + 29) (b + 90 + 29 * k) = some (stCell D (b + 90 + 29 * k) (sI 4) 0) := by
  unfold gP
  rw [if_neg (by omega), if_pos (by omega), cH_st (f := f) hk 0 (by decide), show b + 90 + 29 * k - (b + 88) = 1 + 29 * k + 1 + 0 by omega]
section JE
variable {p : Program} {l : Launch} {e : Env} {R : Room} {s : State} {m : MethodId} {args : Array Value} {below : List Frame} {meth : Method} {c : Code} {D : DD} {B nL : Nat} {Q : State → Prop} {cells slots z cells' slots' z' : Nat} {h : HF} {L : List (Nat × Value)} {st : List Value} {pc : Nat}
theorem j_eqs (hc : cells = cells') (hs : slots = slots') (hz : z = z') (kk : J p l e R s m args below meth c D B nL Q cells' slots' z' h L st pc) : J p l e R s m args below meth c D B nL Q cells slots z h L st pc := by
  subst hc hs hz
  exact kk
theorem j_recellS {a k : Nat} {f g : Nat → Option Nat} (he : h a = some (.inl (D.2.1.2.2, (k, .inr (.inr (.inr (.inr f))))))) (hfg : ∀ j, j < k → f j = g j) (kk : J p l e R s m args below meth c D B nL Q cells slots z (hupd h a (.inl (D.2.1.2.2, (k, .inr (.inr (.inr (.inr g))))))) L st pc) : J p l e R s m args below meth c D B nL Q cells slots z h L st pc := by
  intro H locs ls hP hz hS hl
  refine kk H locs ls (hP.put (hP a _ he).1 ?_ (fun _ _ => rfl)) hz hS hl
  have h1 : H[a]? = some (vp_cell D.2.1.2.2 (k, .inr (.inr (.inr (.inr f))))) := (hP a _ he).2
  show H[a]? = some (vp_cell D.2.1.2.2 (k, .inr (.inr (.inr (.inr g)))))
  rw [h1]
  congr 1
  rw [vp_cell_q, vp_cell_q]
  unfold arrV
  congr 1
  congr 1
  funext j
  exact congrArg va_rf (hfg j.val j.isLt)
end JE
set_option maxRecDepth 100000 in
set_option maxHeartbeats 4000000 in
theorem c_X1_init (l : Launch) {D : DD} {B : Nat} {h : HF} {b : Nat} (hb : h (b + 88) = some (.inr (1, [.null, .int 0, .int 0]))) : CT l yX1_init cX1_init 2 none 5 150 [.ref (b + 88)] D B (b + 89) h none 117 7028 (gB (fun j => xCell D b S00 (88 + j)) h (b + 88) 118) := by
  refine CT.of (L := [(0, .ref (b + 88))]) (by decide +kernel) (Nat.le_of_ble_eq_true rfl) rfl ?_
  intro P E S0 M0 AR BL ME CO X hr hnm
  refine j_aload_n X 0 dX1_init_0 rfl rfl ?_
  refine j_objInit X kM_RX1_3 ⟨Nat.le_of_ble_eq_true rfl, Nat.le_of_ble_eq_true rfl⟩ dX1_init_1 ?_
  refine j_heap (h' := gP (cH D b (fA b 0)) h (b + 88) (.inr (1, [.null, .int 0, .int 0])) 0) (gP_0 hb) ?_
  refine j_aload_n X 0 dX1_init_4 rfl rfl ?_
  refine j_iconst X (v := 4) dX1_init_5 (by decide) ?_
  refine j_newS X (N := 4) kL_RX1_9 (by decide) (by decide) (by decide) ⟨Nat.le_of_ble_eq_true rfl, Nat.le_of_ble_eq_true rfl⟩ dX1_init_6 ?_
  refine j_putF X hnm fG_RX1_11 fF_1_0 ((hupd_ne (by omega)).trans gP_b) rfl rfl rfl (Nat.le_of_ble_eq_true rfl) dX1_init_9 ?_
  refine j_heap (h' := gP (cH D b (fA b 0)) h (b + 88) (.inr (1, [.ref (b + 89), .int 0, .int 0])) (0 + 1)) (gP_s (n := 0) rfl rfl) ?_
  refine j_iconst X (v := 0) dX1_init_12 (by decide) ?_
  refine j_istore_n X (L' := [(1, .int 0), (0, .ref (b + 88))]) dX1_init_13 rfl (by decide) rfl ?_
  refine j_eqs (cells' := 1 + 29 * 0) (slots' := 4 + 1756 * 0) (z' := b + 90 + 29 * 0) rfl rfl rfl ?_
  have loop14 : ∀ (n k : Nat), k + n = 4 → J P l E { frames := 5, cells := 117, slots := 7028, locals := 150 } S0 M0 AR BL ME CO D B 2 (MQ BL (QC none D B (b + 89 + 117) (gB (fun j => xCell D b S00 (88 + j)) h (b + 88) 118)) AR S0 117 7028 (aB B)) (1 + 29 * k) (4 + 1756 * k) (b + 90 + 29 * k) (gP (cH D b (fA b k)) h (b + 88) (.inr (1, [.ref (b + 89), .int 0, .int 0])) (1 + 29 * k)) [(0, .ref (b + 88)), (1, .int (nI k))] [] 14 := by
    intro n
    induction n with
    | zero =>
      intro k hk
      obtain rfl : k = 4 := by omega
      refine j_iload_n X 1 dX1_init_14 rfl rfl ?_
      refine j_aload_n X 0 dX1_init_15 rfl rfl ?_
      refine j_get X fG_RX1_11 gP_b rfl rfl dX1_init_16 ?_
      refine j_alen X (k := 2) (v := 4) rfl (gP_at1 (by omega)) rfl rfl dX1_init_19 ?_
      refine j_icmp_ge X (tgt := 42) dX1_init_20 (by decide) (fun c_20 => ?_) (fun c_20 => absurd c_20 (by decide))
      refine j_recellS (gP_at1 (by omega)) (fA_4 b) ?_
      refine j_heap (gP_a (by omega)) ?_
      rw [cH_xsf]
      refine j_heap (h' := (gB (fun j => xCell D b S00 (88 + j)) h (b + 88) 118)) (gP_e rfl) ?_
      exact j_vret X hr rfl rfl dX1_init_42
    | succ n ih =>
      intro k hk
      have hlt : nI k < 4 := nlt_lit (b := 4) (by omega) (by decide)
      refine j_iload_n X 1 dX1_init_14 rfl rfl ?_
      refine j_aload_n X 0 dX1_init_15 rfl rfl ?_
      refine j_get X fG_RX1_11 gP_b rfl rfl dX1_init_16 ?_
      refine j_alen X (k := 2) (v := 4) rfl (gP_at1 (by omega)) rfl rfl dX1_init_19 ?_
      refine j_icmp_ge X (tgt := 42) dX1_init_20 (by decide) (fun c_20 => absurd hlt c_20) (fun c_20 => ?_)
      refine j_aload_n X 0 dX1_init_23 rfl rfl ?_
      refine j_get X fG_RX1_11 gP_b rfl rfl dX1_init_24 ?_
      refine j_iload_n X 1 dX1_init_27 rfl rfl ?_
      refine j_new X (ci := 6) (ty := tyX6) (fs := [.null, .null, .null, .null, .null, .int 0, .int 0, .int 0]) rfl inK6 tyX6_ok kL_RX1_9 kA_RX6 kI_RX6 new6 ⟨by show _ ≤ 117; omega, by show _ ≤ 7028; omega⟩ dX1_init_28 ?_
      refine j_dup X dX1_init_31 rfl ?_
      refine j_callI X (rest := [.ref (b + 90 + 29 * k), .int (nI k), .ref (b + 89)]) (c_X6_init l (b := b + 90 + 29 * k) hupd_same) m_yX6_init kM_RX1_17 rfl rfl (Nat.le_of_ble_eq_true rfl) ⟨Nat.le_of_ble_eq_true rfl, Nat.le_of_ble_eq_true rfl, by show _ ≤ 117; omega, by show _ ≤ 7028; omega⟩ dX1_init_32 ?_
      refine j_heap (h' := gP (cH D b (fA b k)) h (b + 88) (.inr (1, [.ref (b + 89), .int 0, .int 0])) (1 + 29 * k + 29)) (gP_d (by omega) (cH_st (by omega)) (by decide)) ?_
      refine j_aast X (gP_at1 (by omega)) rfl (gP_st (by omega)) rfl (vp_in_nI (by omega) (by decide)) dX1_init_35 ?_
      rw [nI_clamp (by omega)]
      refine j_heap (h' := gP (cH D b (fA b (k + 1))) h (b + 88) (.inr (1, [.ref (b + 89), .int 0, .int 0])) (1 + 29 * k + 29)) (gP_a (by omega)) ?_
      obtain ⟨v1, ev1⟩ : ∃ y : Int32, (nI k) + 1 = y := ⟨_, rfl⟩
      refine j_iinc X 1 (k := 1) (v := v1) (L' := [(1, .int v1), (0, .ref (b + 88))]) dX1_init_36 rfl (by decide) (by decide) ev1 rfl ?_
      refine j_goto X (tgt := 14) dX1_init_39 (by decide) ?_
      refine j_sub [1, 0] (L' := [(0, .ref (b + 88)), (1, .int (nI (k + 1)))]) (by subst ev1; simp only [nI_succ k]; rfl) ?_
      refine j_eqs (cells' := 1 + 29 * (k + 1)) (slots' := 4 + 1756 * (k + 1)) (z' := b + 90 + 29 * (k + 1)) (by omega) (by omega) (by omega) ?_
      refine j_heap (h' := gP (cH D b (fA b (k + 1))) h (b + 88) (.inr (1, [.ref (b + 89), .int 0, .int 0])) (1 + 29 * (k + 1))) rfl ?_
      exact ih (k + 1) (by omega)
  refine j_sub [1, 0] (L' := [(0, .ref (b + 88)), (1, .int (nI 0))]) rfl ?_
  exact loop14 4 0 rfl
