/-! the worlds as ONE map from addresses to cells; J: the machine at an instruction, over such a map -/
abbrev HF : Type := Nat → Option va_E
abbrev DD : Type := va_G × (ClassId × ClassId × ClassId) × (Nat × Nat)
def tysD (D : DD) : List (ClassId × FieldType) := [(D.2.1.1, .int), (D.2.1.2.1, .char), (D.2.1.2.2, .object "LearningRepeater$State")]
def NN (U : State) : Prop := (∀ q ∈ nestF, va_Nw (.fieldLinkNest q.1 q.2.1 q.2.2.1 q.2.2.2.1 q.2.2.2.2.1 q.2.2.2.2.2) U) ∧ (∀ q ∈ nestM, va_Nw (.methodLinkNest q.1 q.2.1 q.2.2.1 q.2.2.2) U) ∧ va_AO "LearningRepeater$State" U
def aB (B : Nat) : Nat → Prop := fun q => B ≤ q
def fsF : Nat → Int32 := fun j => match j with | 0 => 60 | 1 => 30 | 2 => 10 | _ => 4
def fsG : Nat → Int32 := fun j => match j with | 0 => 1000 | 1 => 600 | 2 => 50 | _ => 10
def ST (D : DD) (B : Nat) (U : State) (H : Heap) : Prop :=
  (va_Z "LearningRepeater" "FIRST_SETTINGS" "[I" (.ref D.2.2.1) (aB B) U H ∧ va_T .int D.2.2.1 4 (fun j => .int (fsF j)) (aB B) U H) ∧
  (va_Z "LearningRepeater" "GREATEST_SETTINGS" "[I" (.ref D.2.2.2) (aB B) U H ∧ va_T .int D.2.2.2 4 (fun j => .int (fsG j)) (aB B) U H)
def HP (G : va_G) (B : Nat) (h : HF) (H : Heap) : Prop := ∀ (q : Nat) (e : va_E), h q = some e → B ≤ q ∧ va_at G vwCl (q, e) H
def Wd (D : DD) (B z : Nat) (h : HF) (U : State) : Prop := va_K D.1 vwCl (tysD D) U ∧ NN U ∧ ST D B U U.heap ∧ U.heap.size = z ∧ B ≤ z ∧ HP D.1 B h U.heap
def hupd (h : HF) (a : Nat) (e : va_E) : HF := fun q => if q = a then some e else h q
theorem hupd_same {h : HF} {a : Nat} {e : va_E} : hupd h a e a = some e := if_pos rfl
theorem hupd_ne {h : HF} {a b : Nat} {e : va_E} (n : b ≠ a) : hupd h a e b = h b := if_neg n
theorem NN.moved {u U : State} (hW : u.WarmedH U.vm) (h : NN u) : NN U := ⟨fun q hq => va_Nw.warmF hW (h.1 q hq), fun q hq => va_Nw.warmM hW (h.2.1 q hq), h.2.2.moved hW.alike⟩
theorem NN.same {u U : State} (e : u.vm = U.vm) (h : NN u) : NN U := ⟨fun q hq => va_Nw.same rfl e (h.1 q hq), fun q hq => va_Nw.same rfl e (h.2.1 q hq), h.2.2.moved (by rw [e]; exact Vm.Alike.refl _)⟩
theorem ST.moved {D : DD} {B : Nat} {u U : State} {H : Heap} (hvm : u.vm.Alike U.vm) (h : ST D B u H) : ST D B U H := ⟨⟨h.1.1.moved hvm, h.1.2.moved hvm⟩, ⟨h.2.1.moved hvm, h.2.2.moved hvm⟩⟩
theorem ST.kept {D : DD} {B : Nat} {U : State} {H H1 : Heap} (h : ST D B U H) (hq : ∀ a : Nat, a < H.size → ¬ aB B a → H1[a]? = H[a]?) : ST D B U H1 := ⟨⟨h.1.1.kept hq, h.1.2.kept hq⟩, ⟨h.2.1.kept hq, h.2.2.kept hq⟩⟩
theorem HP.put {G : va_G} {B : Nat} {h : HF} {H H1 : Heap} {a : Nat} {e : va_E} (hP : HP G B h H) (ha : B ≤ a) (he : va_at G vwCl (a, e) H1) (oq : ∀ q : Nat, q ≠ a → H1[q]? = H[q]?) : HP G B (hupd h a e) H1 := by
  intro q x hq
  by_cases hqa : q = a
  · subst hqa
    rw [hupd_same] at hq
    cases hq
    exact ⟨ha, he⟩
  · rw [hupd_ne hqa] at hq
    exact ⟨(hP q x hq).1, (hP q x hq).2.kept (oq q hqa)⟩
theorem HP.push {G : va_G} {B : Nat} {h : HF} {H H1 : Heap} {a : Nat} {e : va_E} (hP : HP G B h H) (ha : B ≤ a) (hz : H.size = a) (he : va_at G vwCl (a, e) H1) (oq : ∀ q : Nat, q < a → H1[q]? = H[q]?) : HP G B (hupd h a e) H1 := by
  intro q x hq
  by_cases hqa : q = a
  · subst hqa
    rw [hupd_same] at hq
    cases hq
    exact ⟨ha, he⟩
  · rw [hupd_ne hqa] at hq
    have := (hP q x hq).2.lt
    exact ⟨(hP q x hq).1, (hP q x hq).2.kept (oq q (by omega))⟩
theorem Wd.blind {D : DD} {B z : Nat} {h : HF} {U : State} {g : JFrame} {mk : MethodId} {a : Array Value} (w : Wd D B z h U) : Wd D B z h (U.calling g mk a) :=
  ⟨va_K.moved (u := U) (U := U.calling g mk a) (Vm.Alike.refl U.vm) w.1, w.2.1.same rfl, w.2.2.1.moved (Vm.Alike.refl U.vm), w.2.2.2⟩
/-- a contract: at these arguments, over this map, it returns o and leaves that map -/
def QC (o : Option Value) (D : DD) (B z : Nat) (h : HF) : Array Value → State → Outcome → State → Prop := fun _ st oc t => oc = .returned o ∧ Wd D B z h t ∧ va_F (aB B) st t
def CT (l : Launch) (y : MethodName) (b : ByteArray) (n : Nat) (ret : Option FieldType) (fr lo : Nat) (as : List Value) (D : DD) (B z : Nat) (h : HF) (o : Option Value) (mc ms : Nat) (h' : HF) : Prop :=
  Met l y (.code y b n ret :: gtbl) { frames := fr, cells := mc, slots := ms, locals := lo } (va_Pc as (Wd D B z h)) (QC o D B (z + mc) h') mc ms (aB B)
def Cx (p : Program) (s : State) (m : MethodId) (args : Array Value) (meth : Method) (c : Code) (cc : ByteArray) (nL : Nat) (own : String) (D : DD) (B : Nat) : Prop :=
  p.tables.exec = Jvm.exec ∧ c.code = cc ∧ c.maxLocals = nL ∧ s.vm.findClass own = some m.cls ∧ (∀ w ∈ gtbl, w.before args s = true) ∧ va_K D.1 vwCl (tysD D) s ∧ NN s ∧ ST D B s s.heap ∧ B ≤ s.heap.size ∧ meth.locks = false
def J (p : Program) (l : Launch) (e : Env) (R : Room) (s : State) (m : MethodId) (args : Array Value) (below : List Frame) (meth : Method) (c : Code) (D : DD) (B nL : Nat) (Q : State → Prop) (cells slots z : Nat) (h : HF) (L : List (Nat × Value)) (st : List Value) (pc : Nat) : Prop :=
  ∀ (H : Heap) (locs : List Loc) (ls : Array Slot), HP D.1 B h H → H.size = z → va_S (aB B) s.heap H locs → lv_has ls nL L → W p l e R s m args below meth c H locs cells slots Q (F0 m pc ls st)
/-- what a method of ours is called by: its words -/
def MV (y : MethodName) (b : ByteArray) (n : Nat) (ret : Option FieldType) (k : Nat) : Prop := (Cond.instanceMethod y ∈ gtbl ∧ Cond.selects y.cls y y ∈ gtbl) ∧ Cond.initialized y.cls ∈ gtbl ∧ Cond.code y b n ret ∈ gtbl ∧ (y.cls ≠ "java/lang/invoke/MethodHandle" ∧ y.cls ≠ "java/lang/invoke/VarHandle") ∧ (parseMethodDescriptor y.desc).map (fun d => d.parameters.length) = some k
def MT (y : MethodName) (b : ByteArray) (n : Nat) (ret : Option FieldType) (k : Nat) : Prop := Cond.static y ∈ gtbl ∧ Cond.initialized y.cls ∈ gtbl ∧ Cond.code y b n ret ∈ gtbl ∧ (y.cls ≠ "java/lang/invoke/MethodHandle" ∧ y.cls ≠ "java/lang/invoke/VarHandle") ∧ (parseMethodDescriptor y.desc).map (fun d => d.parameters.length) = some k
def MI (y : MethodName) (b : ByteArray) (n : Nat) (k : Nat) : Prop := (Cond.instanceMethod y ∈ gtbl ∧ y.name = "<init>") ∧ Cond.initialized y.cls ∈ gtbl ∧ Cond.code y b n none ∈ gtbl ∧ (y.cls ≠ "java/lang/invoke/MethodHandle" ∧ y.cls ≠ "java/lang/invoke/VarHandle") ∧ (parseMethodDescriptor y.desc).map (fun d => d.parameters.length) = some k
section JS
variable {p : Program} {l : Launch} {e : Env} {R : Room} {s : State} {m : MethodId} {args : Array Value} {below : List Frame} {meth : Method} {c : Code} {cc : ByteArray} {nL : Nat} {own : String} {D : DD} {B : Nat} {Q : State → Prop} {cells slots z : Nat} {h : HF} {L L' : List (Nat × Value)} {st rest : List Value} {pc : Nat}
set_option maxHeartbeats 1000000 in
theorem CT.of {y : MethodName} {b : ByteArray} {n : Nat} {ret : Option FieldType} {fr lo mc ms : Nat} {as : List Value} {o : Option Value} {h' : HF} (hp : plainName y.cls = true) (hn : (lg_sl as).length ≤ n) (hL : lv_args 0 as = L)
    (body : ∀ (p : Program) (e : Env) (s : State) (m : MethodId) (args : Array Value) (below : List Frame) (meth : Method) (c : Code), Cx p s m args meth c b n y.cls D B → meth.sig.returnType = ret → meth.name = y.name →
      J p l e { frames := fr, cells := mc, slots := ms, locals := lo } s m args below meth c D B n (MQ below (QC o D B (z + mc) h') args s mc ms (aB B)) 0 0 z h L [] 0) : CT l y b n ret fr lo as D B z h o mc ms h' := by
  refine Met.ofW (cc := b) (maxL := n) (ret := ret) hp rfl ?_
  intro p e s m args below meth c s₁ Bd hml hv
  obtain ⟨rfl, hK, hN, hST, hz, hBz, hP⟩ := hv
  have hts : ∀ w ∈ gtbl, w.before as.toArray s = true := fun w hw => atoms_spec (ws := .code y b n ret :: gtbl) Bd.pre w (List.mem_cons_of_mem _ hw)
  have hown : s.vm.findClass y.cls = some m.cls := findClass_of_methodNamed Bd.named
  have hl := lv_entry as (n := n) hn
  rw [lg_entry_eq]
  rw [hL] at hl
  exact body p e s m as.toArray below meth c ⟨Bd.exec, Bd.bytes, hml, hown, hts, hK, hN, hST, by rw [hz]; exact hBz, Bd.notSynchronized⟩ Bd.returns (name_of_methodNamed Bd.named Bd.method).1 s.heap [] _ hP hz va_S.rf hl
theorem j_sub (ks : List Nat) (hl : lv_pick L ks = L') (kk : J p l e R s m args below meth c D B nL Q cells slots z h L' st pc) : J p l e R s m args below meth c D B nL Q cells slots z h L st pc :=
  fun H locs ls hP hz hS hL => kk H locs ls hP hz hS (lv_sub hL ks hl)
theorem j_heap {h' : HF} (hh : h = h') (kk : J p l e R s m args below meth c D B nL Q cells slots z h' L st pc) : J p l e R s m args below meth c D B nL Q cells slots z h L st pc := hh ▸ kk
theorem j_st {st' : List Value} (hh : st = st') (kk : J p l e R s m args below meth c D B nL Q cells slots z h L st' pc) : J p l e R s m args below meth c D B nL Q cells slots z h L st pc := hh ▸ kk
end JS
