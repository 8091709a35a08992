/-! the start, on both sides -/
theorem rFill_at {n k : Nat} {f : Nat → Int32} {v : Int32} (hn : n < 1000000) (hk : k < n) : rFill n f (nI 0) (nI n) v k = v := by
  unfold rFill
  rw [fits_k (by omega) hn, if_neg (by decide), nI_add, nI_clamp (by omega), nI_clamp (by omega)]
  exact if_pos ⟨Nat.zero_le k, by omega⟩
theorem sI_n {r : Nat} (hr : r ≠ 0) : ∀ n, (sI n).1 r = sZ.1 r ∧ (sI n).2 = sZ.2
  | 0 => ⟨rfl, rfl⟩
  | n + 1 => ⟨(rput_ne hr).trans (sI_n hr n).1, (sI_n hr n).2⟩
theorem sI_0 : (sI 4).1 0 0 = 60 ∧ (sI 4).1 0 1 = 30 ∧ (sI 4).1 0 2 = 10 ∧ (sI 4).1 0 3 = 4 := by decide +kernel
theorem mI_at : ∀ n, n ≤ 8 → (∀ k, k < 8 → (mI n).2 0 (8 + 20 * k) = if k < n then 1 else 0) ∧ (∀ j, (∀ k, k < 8 → j ≠ 8 + 20 * k) → (mI n).2 0 j = mI0.2 0 j) ∧ (mI n).1 = fun _ => 0
  | 0, _ => ⟨fun k hk => by
      rw [if_neg (Nat.not_lt_zero k)]
      show mI0.2 0 (8 + 20 * k) = 0
      have e : mI0.2 0 = upd (upd (upd (upd (fun _ => 0) 0 60) 1 30) 2 10) 3 4 := rfl
      rw [e]
      simp (disch := omega) only [upd_n], fun _ _ => rfl, rfl⟩
  | n + 1, hn => by
    obtain ⟨h1, h2, h3⟩ := mI_at n (by omega)
    have key : (mI (n + 1)).2 0 = upd ((mI n).2 0) (8 + 20 * n) 1 := to_k (w := 0) (by omega) (by decide)
    refine ⟨fun k hk => ?_, fun j hj => ?_, h3⟩
    · rw [key]
      by_cases c : k = n
      · subst c
        rw [upd_s, if_pos (show k < k + 1 by omega)]
      · rw [upd_n (by omega), h1 k hk]
        by_cases c2 : k < n
        · rw [if_pos c2, if_pos (show k < n + 1 by omega)]
        · rw [if_neg c2, if_neg (show ¬ k < n + 1 by omega)]
    · rw [key, upd_n (hj n (by omega))]
      exact h2 j hj
theorem mI0_at {j : Nat} (hj : 4 ≤ j) : mI0.2 0 j = 0 := by
  have e : mI0.2 0 = upd (upd (upd (upd (fun _ => 0) 0 60) 1 30) 2 10) 3 4 := rfl
  rw [e]
  simp (disch := omega) only [upd_n]
theorem mI_o {j : Nat} (h4 : 4 ≤ j) (hj : ∀ k, k < 8 → j ≠ 8 + 20 * k) : (mI 8).2 0 j = 0 := ((mI_at 8 (Nat.le_refl 8)).2.1 j hj).trans (mI0_at h4)
theorem mI_s : (mI 8).2 0 0 = 60 ∧ (mI 8).2 0 1 = 30 ∧ (mI 8).2 0 2 = 10 ∧ (mI 8).2 0 3 = 4 := by
  have h := (mI_at 8 (Nat.le_refl 8)).2.1
  rw [h 0 (fun k hk => by omega), h 1 (fun k hk => by omega), h 2 (fun k hk => by omega), h 3 (fun k hk => by omega)]
  decide +kernel
theorem mI_tc : ∀ k, k ≤ 99 → tc ((mI 8).2 0) k = 0
  | 0, _ => rfl
  | k + 1, hk => by
    unfold tc
    rw [mI_o (by omega) (fun j hj => by omega), if_pos rfl]
    exact mI_tc k (by omega)
theorem rc_0 : RC 0 0 (sI 4) ((mI 8).2 0) := by
  have e2 : (sI 4).2 = fun _ => 0 := (sI_n (r := 1) (by decide) 4).2
  have z : ∀ r, r ≠ 0 → r ≠ 1 → r ≠ 4 → r ≠ 9 → r < 12 → (sI 4).1 r = fun _ => 0 := fun r h0 h1 h4 h9 hr => by
    rw [(sI_n h0 4).1]
    rcases (show r = 2 ∨ r = 3 ∨ r = 5 ∨ r = 6 ∨ r = 7 ∨ r = 8 ∨ r = 10 ∨ r = 11 by omega) with rfl | rfl | rfl | rfl | rfl | rfl | rfl | rfl <;> rfl
  have r1 : ∀ k, k < 8 → (sI 4).1 1 k = 1 := fun k hk => by
    rw [(sI_n (by decide) 4).1]
    show rFill 8 (fun _ => 0) (nI 0) (nI 8) 1 k = 1
    exact rFill_at (n := 8) (by decide) hk
  have r4 : ∀ k, k < 8 → (sI 4).1 4 k = -4 := fun k hk => by
    rw [(sI_n (by decide) 4).1]
    show rFill 8 (fun _ => 0) (nI 0) (nI 8) (-4) k = -4
    exact rFill_at (n := 8) (by decide) hk
  have r9 : ∀ k, k < 100 → (sI 4).1 9 k = -4 := fun k hk => by
    rw [(sI_n (by decide) 4).1]
    show rFill 100 (fun _ => 0) (nI 0) (nI 100) (-4) k = -4
    exact rFill_at (n := 100) (by decide) hk
  obtain ⟨a0, a1, a2, a3⟩ := sI_0
  obtain ⟨b0, b1, b2, b3⟩ := mI_s
  refine ⟨⟨?_, ?_, ?_, ?_, ?_⟩, fun i hi => ?_, fun k hk => ?_, fun k hk w hw => ?_, fun k hk => ?_, ⟨fun a ha => ?_, ?_, fun a ha => ?_, ?_, ?_⟩, fun t ht a h1 h2 => ?_⟩
  · rw [e2]; rfl
  · rw [mI_o (by decide) (fun k hk => by omega)]; rfl
  · rw [e2]; rfl
  · rw [mI_o (by decide) (fun k hk => by omega)]; rfl
  · rw [e2, mI_o (by decide) (fun k hk => by omega)]
  · rcases (show i = 0 ∨ i = 1 ∨ i = 2 ∨ i = 3 by omega) with rfl | rfl | rfl | rfl
    · rw [a0, b0]; exact ⟨rfl, 60, by decide, by decide, rfl⟩
    · rw [a1, b1]; exact ⟨rfl, 30, by decide, by decide, rfl⟩
    · rw [a2, b2]; exact ⟨rfl, 10, by decide, by decide, rfl⟩
    · rw [a3, b3]; exact ⟨rfl, 4, by decide, by decide, rfl⟩
  · have m0 := (mI_at 8 (Nat.le_refl 8)).1 k hk
    rw [if_pos hk] at m0
    rw [r1 k hk, z 2 (by decide) (by decide) (by decide) (by decide) (by decide), z 3 (by decide) (by decide) (by decide) (by decide) (by decide), r4 k hk, z 5 (by decide) (by decide) (by decide) (by decide) (by decide), m0, mI_o (by omega) (fun j hj => by omega), mI_o (by omega) (fun j hj => by omega), mI_o (by omega) (fun j hj => by omega), mI_o (by omega) (fun j hj => by omega)]
    exact ⟨⟨rfl, Or.inr rfl⟩, ⟨0, by decide, rfl, rfl⟩, rfl, Or.inl ⟨rfl, rfl⟩, rfl⟩
  · rw [z 6 (by decide) (by decide) (by decide) (by decide) (by decide), mI_o (by omega) (fun j hj => by omega)]
  · refine ⟨0, by decide, ?_, ?_, ql_0, fun i hi => absurd hi (Nat.not_lt_zero i)⟩
    · rw [z 7 (by decide) (by decide) (by decide) (by decide) (by decide)]; rfl
    · rw [mI_o (by omega) (fun j hj => by omega)]; rfl
  · rw [r9 a ha, mI_o (by omega) (fun j hj => by omega)]; exact Or.inl ⟨rfl, rfl⟩
  · exact r9 0 (by decide)
  · rw [z 10 (by decide) (by decide) (by decide) (by decide) (by decide), mI_o (by omega) (fun j hj => by omega)]; exact ⟨rfl, 0, Nat.le_refl 0, rfl⟩
  · rw [e2, mI_tc 99 (Nat.le_refl 99)]; rfl
  · rw [mI_tc 99 (Nat.le_refl 99)]; decide
  · rw [z 11 (by decide) (by decide) (by decide) (by decide) (by decide), mI_o (by omega) (fun j hj => by omega)]
theorem rz_0 : RZ 0 0 S00 (mI 8) := by
  have e := (mI_at 8 (Nat.le_refl 8)).2.2
  refine ⟨⟨0, 0, Nat.zero_le _, Nat.zero_le _, rc_0⟩, ⟨by decide, rfl⟩, ⟨0, by decide, rfl, ?_, fun i hi => absurd hi (Nat.not_lt_zero i)⟩, ⟨?_, fun hz => ?_⟩, 0, by decide, rfl, ?_, fun i hi => absurd hi (Nat.not_lt_zero i)⟩
  · rw [e]; rfl
  · rw [e]; rfl
  · rw [e] at hz; exact absurd rfl hz
  · rw [e]; rfl
/-! THE CLAIM OUT OF ONE WALK OF THE LAW'S BODY. Your part is whole_start (and what it stands on); all else here is the same for every law, but numbers. -/
def R_law : String := "LearningRepeaterLaw"
def lw_P (b : Addr) (xs : List Int32) (args : Array Value) (s : State) : Prop := args = #[.ref b] ∧ s.IntsAt b xs ∧ xs.length ≤ 2560 ∧ (Jvm.Cond.and given_1 narrow_1).before args s = true
def lw_Q (_ : Array Value) (s : State) (o : Outcome) (t : State) : Prop := o = .returned (some (.int 1)) ∧ Framed s o t [] 600000 7302250
def lw_Z (below : List Frame) (a : Array Value) (s : State) : State → Prop := fun t => ∃ o, t.status = .running ∧ Ended t below o ∧ lw_Q a s o t
/-- the law's own end, with 1 on the stack, nothing written that was there before, its room as the claim has it -/
theorem lw_ret {p : Program} {l : Launch} {e : Env} {s : State} {m : MethodId} {below : List Frame} {meth : Method} {c : Code} {b : Nat} (hx : p.tables.exec = Jvm.exec) (hb : c.code = code) (hr : meth.sig.returnType = ret) (hlocks : meth.locks = false) {pc : Nat} {H : Heap} {ls : Array Slot} (hdg : decode code pc = .ok (.ireturn, 1)) : W p l e room_1 s m #[Value.ref b] below meth c H [] 600000 7302250 (lw_Z below #[Value.ref b] s) (F0 m pc ls [.int 1]) := by
  intro T hT X
  obtain ⟨fs, hret, hrun, hended, hW, hframe⟩ := X.leave (v := some (.int 1)) (hlocks := hlocks) (fun h => by rw [hr] at h; cases h)
  have hmeth' : T.vm.method? m = some meth := X.method'
  refine ⟨T.setFrames fs, ?_, .returned (some (.int 1)), hrun, hended, rfl, ⟨_, rfl⟩, hW, hframe⟩
  jvm_step X.here [X.here.top, hx, hb, hdg, hmeth', hr, ret, narrow_b1]
  (try refine ⟨rfl, ?_⟩); (try refine ⟨rfl, ?_⟩)
  first | (intro acts; rw [hret _ acts rfl rfl rfl]) | rw [hret _ _ rfl rfl rfl]
  exact Steps.refl _
/-- what holds at the law's entry: the machine, the code, the tables' words (any of lw_tbl by 'hts w (by decide +kernel)'), the script of L ints xs at the cell b, what the Statement gives of the start (any of its parts by flat_of_before) -/
def lw_At (p : Program) (s : State) (m : MethodId) (meth : Method) (c : Code) (b L : Nat) (xs : Nat → Int32) : Prop :=
  p.tables.exec = Jvm.exec ∧ c.code = code ∧ meth.sig.returnType = ret ∧ c.maxLocals = 4 ∧ s.vm.findClass R_law = some m.cls ∧ (∀ w ∈ lw_tbl, w.before #[Value.ref b] s = true) ∧ va_X b L xs s s.heap ∧ b < s.heap.size ∧ meth.locks = false ∧ (Jvm.Cond.and given_1 narrow_1).before #[Value.ref b] s = true
theorem xm_comm {D : DD} {g : HF} {B : Nat} {S : Sy} {μ : Mo} : mput D (xput D g B S) (B + 211) μ = xput D (mput D g (B + 211) μ) B S := by
  funext q
  unfold mput xput
  by_cases c1 : B + 211 ≤ q ∧ q < B + 211 + 8
  · rw [if_pos c1, if_neg (show ¬ (B ≤ q ∧ q < B + 211) by omega)]
    exact (if_pos c1).symm
  · rw [if_neg c1]
    by_cases c2 : B ≤ q ∧ q < B + 211
    · rw [if_pos c2, if_pos c2]
    · rw [if_neg c2, if_neg c2]
      exact (if_neg c1).symm
theorem mput_hupd {D : DD} {g : HF} {b : Nat} {x : va_E} {μ : Mo} : mput D (hupd g b x) b μ = mput D g b μ := by
  funext q
  unfold mput
  by_cases c1 : b ≤ q ∧ q < b + 8
  · rw [if_pos c1, if_pos c1]
  · rw [if_neg c1, if_neg c1, hupd_ne (by omega)]
abbrev LH (D : DD) (g : HF) (B : Nat) (S : Sy) (μ : Mo) : HF := mput D (xput D g B S) (B + 211) μ
abbrev LL (b B T : Nat) : List (Nat × Value) := [(0, .ref b), (1, .ref B), (2, .ref (B + 211)), (3, .int (nI (5 * T)))]
abbrev LJ (p : Program) (l : Launch) (e : Env) (s : State) (m : MethodId) (below : List Frame) (meth : Method) (c : Code) (D : DD) (B b : Nat) (g : HF) (T : Nat) (S : Sy) (μ : Mo) (st : List Value) (pc : Nat) : Prop :=
  J p l e room_1 s m #[Value.ref b] below meth c D B 4 (lw_Z below #[Value.ref b] s) 219 25490 (B + 219) (LH D g B S μ) (LL b B T) st pc
section LAW
variable {p : Program} {l : Launch} {e : Env} {s : State} {m : MethodId} {below : List Frame} {meth : Method} {c : Code} {D : DD} {B b L T nx : Nat} {xs : Nat → Int32} {g : HF} {S : Sy} {μ : Mo} {st rest : List Value} {pc : Nat}
theorem j_sld {R : Room} {args : Array Value} {cc : ByteArray} {nL : Nat} {own : String} {Q : State → Prop} {cells slots z : Nat} {h : HF} {K : List (Nat × Value)} {i : Int32} (X : Cx p s m args meth c cc nL own D B) (hX : va_X b L xs s s.heap) (hbl : b < s.heap.size) (hbB : b < B) (hin : vp_in i L) (d : decode cc pc = .ok (.iaload, 1))
    (kk : J p l e R s m args below meth c D B nL Q cells slots z h K (.int (xs i.toNatClampNeg) :: rest) (pc + 1)) : J p l e R s m args below meth c D B nL Q cells slots z h K (.int i :: .ref b :: rest) pc :=
  fun H locs ls hP hz hS hl => va_sld X.1 X.2.1 hX hbl (Nat.not_le.mpr hbB) hS hin d (kk H locs ls hP hz hS hl)
theorem j_slen {R : Room} {args : Array Value} {cc : ByteArray} {nL : Nat} {own : String} {Q : State → Prop} {cells slots z : Nat} {h : HF} {K : List (Nat × Value)} (X : Cx p s m args meth c cc nL own D B) (hX : va_X b L xs s s.heap) (hbl : b < s.heap.size) (hbB : b < B) (d : decode cc pc = .ok (.arraylength, 1))
    (kk : J p l e R s m args below meth c D B nL Q cells slots z h K (.int (nI L) :: rest) (pc + 1)) : J p l e R s m args below meth c D B nL Q cells slots z h K (.ref b :: rest) pc :=
  fun H locs ls hP hz hS hl => va_slen X.1 X.2.1 hX hbl (Nat.not_le.mpr hbB) hS d (kk H locs ls hP hz hS hl)
/-- an int of the script -/
theorem j_arg (X : Cx p s m #[Value.ref b] meth c code 4 RL D B) (hX : va_X b L xs s s.heap) (hbl : b < s.heap.size) (hbB : b < B) (hL : L ≤ 2560) {k : Nat} (hk : 5 * T + k < L) {n : Int} (d0 : decode code pc = .ok (.aload_n 0, 1)) (d1 : decode code (pc + 1) = .ok (.iload_n 3, 1)) (d2 : decode code (pc + 2) = .ok (.iconst n, 1)) (hn : Int32.ofInt n = nI k) (d3 : decode code (pc + 3) = .ok (.iadd, 1)) (d4 : decode code (pc + 4) = .ok (.iaload, 1))
    (kk : LJ p l e s m below meth c D B b g T S μ (.int (xs (5 * T + k)) :: rest) (pc + 5)) : LJ p l e s m below meth c D B b g T S μ rest pc := by
  refine j_aload_n X 0 d0 rfl rfl ?_
  refine j_iload_n X 3 d1 rfl rfl ?_
  refine j_iconst X (v := nI k) d2 hn ?_
  refine j_iadd X d3 ?_
  refine j_st (st' := .int (nI (5 * T + k)) :: .ref b :: rest) (by rw [nI_add]) ?_
  refine j_sld X hX hbl hbB (vp_in_nI hk (by omega)) d4 ?_
  refine j_st (st' := .int (xs (5 * T + k)) :: rest) (by rw [nI_clamp (by omega)]) ?_
  exact kk
theorem rz_mi (hT : T ≤ 600) (h : RZ T nx S μ) : MIv μ := by
  obtain ⟨C, N, hC, _, hr⟩ := h.1
  exact rc_mi (by omega) hr
theorem rz_gb (hT : T ≤ 600) (h : RZ T nx S μ) : ∃ R C, R ≤ 10 ∧ C < 2147483000 ∧ GBf R C (μ.2 0) := by
  obtain ⟨C, N, hC, _, hr⟩ := h.1
  obtain ⟨R, h1, h2⟩ := rc_gb (by omega) hr
  exact ⟨R, C, h1, by omega, h2⟩
theorem chr_c (x : Int32) : ∃ ch : Nat, ch < 65536 ∧ vp_nar .char (x.toUInt32 % 65536).toInt32 = nI ch := by
  rw [pk_vc, pk_char]
  exact ⟨_, Nat.mod_lt _ (by decide), rfl⟩
end LAW
