/-! THE CLAIM OUT OF ONE WALK OF THE LAW'S BODY. Your part is whole_start (and what it stands on); all else here is the same for every law, but numbers. -/
def R_law : String := "LearningRepeaterLaw"
def lw_P (b : Addr) (xs : List Int32) (args : Array Value) (s : State) : Prop := args = #[.ref b] ∧ s.IntsAt b xs ∧ xs.length ≤ 260 ∧ (Jvm.Cond.and given_1 narrow_1).before args s = true
def lw_Q (_ : Array Value) (s : State) (o : Outcome) (t : State) : Prop := o = .returned (some (.int 1)) ∧ Framed s o t [] 600000 7302249
def lw_Z (below : List Frame) (a : Array Value) (s : State) : State → Prop := fun t => ∃ o, t.status = .running ∧ Ended t below o ∧ lw_Q a s o t
/-- the law's own end, with 1 on the stack, nothing written that was there before, its room as the claim has it -/
theorem lw_ret {p : Program} {l : Launch} {e : Env} {s : State} {m : MethodId} {below : List Frame} {meth : Method} {c : Code} {b : Nat} (hx : p.tables.exec = Jvm.exec) (hb : c.code = code) (hr : meth.sig.returnType = ret) (hlocks : meth.locks = false) {pc : Nat} {H : Heap} {ls : Array Slot} (hdg : decode code pc = .ok (.ireturn, 1)) : W p l e room_1 s m #[Value.ref b] below meth c H [] 600000 7302249 (lw_Z below #[Value.ref b] s) (F0 m pc ls [.int 1]) := by
  intro T hT X
  obtain ⟨fs, hret, hrun, hended, hW, hframe⟩ := X.leave (v := some (.int 1)) (hlocks := hlocks) (fun h => by rw [hr] at h; cases h)
  have hmeth' : T.vm.method? m = some meth := X.method'
  refine ⟨T.setFrames fs, ?_, .returned (some (.int 1)), hrun, hended, rfl, ⟨_, rfl⟩, hW, hframe⟩
  jvm_step X.here [X.here.top, hx, hb, hdg, hmeth', hr, ret, narrow_b1]
  (try refine ⟨rfl, ?_⟩); (try refine ⟨rfl, ?_⟩)
  first | (intro acts; rw [hret _ acts rfl rfl rfl]) | rw [hret _ _ rfl rfl rfl]
  exact Steps.refl _
/-- what holds at the law's entry: the machine, the code, the tables' words (any of lw_tbl by 'hts w (by decide +kernel)'), the script of L ints xs at the cell b, what the Statement gives of the start (any of its parts by flat_of_before) -/
def lw_At (p : Program) (s : State) (m : MethodId) (meth : Method) (c : Code) (b L : Nat) (xs : Nat → Int32) : Prop :=
  p.tables.exec = Jvm.exec ∧ c.code = code ∧ meth.sig.returnType = ret ∧ c.maxLocals = 13 ∧ s.vm.findClass R_law = some m.cls ∧ (∀ w ∈ lw_tbl, w.before #[Value.ref b] s = true) ∧ va_X b L xs s s.heap ∧ b < s.heap.size ∧ meth.locks = false ∧ (Jvm.Cond.and given_1 narrow_1).before #[Value.ref b] s = true
section CELL
variable {p : Program} {l : Launch} {e : Env} {R : Room} {s : State} {m : MethodId} {args : Array Value} {below : List Frame} {meth : Method} {c : Code} {cc : ByteArray} {nL : Nat} {own : String} {D : DD} {B : Nat} {Q : State → Prop} {cells slots z : Nat} {h : HF} {K : List (Nat × Value)} {st rest : List Value} {pc : Nat} {b L : Nat} {xs : Nat → Int32}
theorem j_sld {i : Int32} (X : Cx p s m args meth c cc nL own D B) (hX : va_X b L xs s s.heap) (hbl : b < s.heap.size) (hbB : b < B) (hin : vp_in i L) (d : decode cc pc = .ok (.iaload, 1))
    (kk : J p l e R s m args below meth c D B nL Q cells slots z h K (.int (xs i.toNatClampNeg) :: rest) (pc + 1)) : J p l e R s m args below meth c D B nL Q cells slots z h K (.int i :: .ref b :: rest) pc :=
  fun H locs ls hP hz hS hl => va_sld X.1 X.2.1 hX hbl (Nat.not_le.mpr hbB) hS hin d (kk H locs ls hP hz hS hl)
theorem j_slen (X : Cx p s m args meth c cc nL own D B) (hX : va_X b L xs s s.heap) (hbl : b < s.heap.size) (hbB : b < B) (d : decode cc pc = .ok (.arraylength, 1))
    (kk : J p l e R s m args below meth c D B nL Q cells slots z h K (.int (nI L) :: rest) (pc + 1)) : J p l e R s m args below meth c D B nL Q cells slots z h K (.ref b :: rest) pc :=
  fun H locs ls hP hz hS hl => va_slen X.1 X.2.1 hX hbl (Nat.not_le.mpr hbB) hS d (kk H locs ls hP hz hS hl)
def CC (l : Launch) (b L : Nat) (xs : Nat → Int32) (D : DD) (B z : Nat) (h : HF) (k : Nat) (r : Int32) : Prop :=
  Met l yL_cell (.code yL_cell cL_cell 2 (some .int) :: gtbl) { frames := 0, cells := 0, slots := 0, locals := 0 } (va_Pc [.ref b, .int (nI k)] (fun U => Wd D B z h U ∧ va_X b L xs U U.heap)) (QC (some (.int r)) D B (z + 0) h) 0 0 (aB B)
set_option maxHeartbeats 4000000 in
/-- an int of the script, or one made of its place -/
theorem c_L_cell (l : Launch) {D : DD} {B z : Nat} {h : HF} {k : Nat} (hbB : b < B) (hk : k < 1000) (hL : L ≤ 260) : ∃ r : Int32, CC l b L xs D B z h k r := by
  refine ⟨if nI k < nI L then xs k else 2390011 * nI k + 1117, ?_⟩
  refine Met.ofW (cc := cL_cell) (maxL := 2) (ret := some .int) (by decide +kernel) rfl ?_
  intro p e s m args below meth c s₁ Bd hml hv
  obtain ⟨rfl, ⟨hK, hN, hST, hz, hBz, hP⟩, hX⟩ := hv
  have hts : ∀ w ∈ gtbl, w.before ([.ref b, .int (nI k)] : List Value).toArray s = true := fun w hw => atoms_spec (ws := .code yL_cell cL_cell 2 (some .int) :: gtbl) Bd.pre w (List.mem_cons_of_mem _ hw)
  have hown : s.vm.findClass yL_cell.cls = some m.cls := findClass_of_methodNamed Bd.named
  have hl := lv_entry [.ref b, .int (nI k)] (n := 2) (Nat.le_of_ble_eq_true rfl)
  rw [lg_entry_eq]
  have X : Cx p s m ([.ref b, .int (nI k)] : List Value).toArray meth c cL_cell 2 yL_cell.cls D B := ⟨Bd.exec, Bd.bytes, hml, hown, hts, hK, hN, hST, by rw [hz]; exact hBz, Bd.notSynchronized⟩
  have hr := Bd.returns
  have hbl : b < s.heap.size := by
    obtain ⟨scr, q, -⟩ := hX
    exact (Array.getElem?_eq_some_iff.mp q).1
  have body : J p l e { frames := 0, cells := 0, slots := 0, locals := 0 } s m ([.ref b, .int (nI k)] : List Value).toArray below meth c D B 2 (MQ below (QC (some (.int (if nI k < nI L then xs k else 2390011 * nI k + 1117))) D B (z + 0) h) ([.ref b, .int (nI k)] : List Value).toArray s 0 0 (aB B)) 0 0 z h [(0, .ref b), (1, .int (nI k))] [] 0 := by
    refine j_iload_n X 1 dL_cell_0 rfl rfl ?_
    refine j_aload_n X 0 dL_cell_1 rfl rfl ?_
    refine j_slen X hX hbl hbB dL_cell_2 ?_
    refine j_icmp_ge X (tgt := 12) dL_cell_3 (by decide) (fun c_3 => ?_) (fun c_3 => ?_)
    · refine j_ldc X kK_RL_7 dL_cell_12 ?_
      refine j_iload_n X 1 dL_cell_14 rfl rfl ?_
      refine j_imul X dL_cell_15 ?_
      refine j_sipush X (v := 1117) dL_cell_16 (by decide) ?_
      refine j_iadd X dL_cell_19 ?_
      exact j_iret X hr rfl (if_neg c_3).symm rfl rfl dL_cell_20
    · have hlt : k < L := (nI_ltI (by omega) (by omega)).mp c_3
      refine j_aload_n X 0 dL_cell_6 rfl rfl ?_
      refine j_iload_n X 1 dL_cell_7 rfl rfl ?_
      refine j_sld X hX hbl hbB (vp_in_nI hlt (by omega)) dL_cell_8 ?_
      refine j_goto X (tgt := 20) dL_cell_9 (by decide) ?_
      exact j_iret X hr rfl (by rw [if_pos c_3, nI_clamp (by omega)]) rfl rfl dL_cell_20
  exact body s.heap [] _ hP hz va_S.rf hl
theorem j_cell (X : Cx p s m args meth c cc nL own D B) {i k : Nat} {r : Int32} (hX : va_X b L xs s s.heap) (hbl : b < s.heap.size) (hbB : b < B) (C : CC l b L xs D B z h k r) (kM : Cond.methodLink own i yL_cell ∈ gtbl)
    (hcat : (rest.map fun v => v.category).sum ≤ 8) (hR : 0 + 1 ≤ R.frames ∧ 8 + (2 + 11) + 0 ≤ R.locals ∧ cells + 0 ≤ R.cells ∧ slots + 0 ≤ R.slots) (d : decode cc pc = .ok (.invokestatic i, 3))
    (kk : J p l e R s m args below meth c D B nL Q cells slots z h K (.int r :: rest) (pc + 3)) : J p l e R s m args below meth c D B nL Q cells slots z h K (.int (nI k) :: .ref b :: rest) pc := by
  intro H locs ls hP hz hS hl
  have hts := X.2.2.2.2.1
  have M := m_yL_cell
  exact J.back hS hl (va_runS (As := [.ref b, .int (nI k)]) (rest := rest) (g := F0 m pc ls (.int (nI k) :: .ref b :: rest)) ⟨X.1, X.2.1, X.2.2.1, X.2.2.2.1, hts⟩ C
    ⟨⟨rfl, rfl, hR.1, hR.2.1, good_bef hts M.2.2.1, List.mem_cons_self, hts _ M.2.2.1, hts _ M.2.1, M.2.2.2.1, par_of M.2.2.2.2, hts _ kM⟩, hts _ M.1⟩
    ⟨fun a U g mk q => ⟨q.1, q.2.1.blind, q.2.2.moved (Vm.Alike.refl U.vm)⟩, fun U hU hW => ⟨rfl, Wd.at X hP hz hS hU hW, by rw [hU]; exact (hX.moved hW.alike).kept (hS.2.1 b hbl (Nat.not_le.mpr hbB))⟩⟩ rfl rfl hl.1 rfl (lv_room hcat) d hR.2.2) kk
end CELL
theorem rm_c {x : Nat} (h : x ≤ 1000) : x ≤ room_1.cells := Nat.le_trans h (Nat.le_of_ble_eq_true rfl)
theorem rm_s {x : Nat} (h : x ≤ 20000) : x ≤ room_1.slots := Nat.le_trans h (Nat.le_of_ble_eq_true rfl)
abbrev g0 : HF := fun _ => none
abbrev LJ (p : Program) (l : Launch) (e : Env) (s : State) (m : MethodId) (below : List Frame) (meth : Method) (c : Code) (D : DD) (B b : Nat) (S : Sy) (cells slots : Nat) (K : List (Nat × Value)) (st : List Value) (pc : Nat) : Prop :=
  J p l e room_1 s m #[Value.ref b] below meth c D B 13 (lw_Z below #[Value.ref b] s) cells slots (B + cells) (xput D g0 B S) K st pc
