theorem good_bef {s : State} {args : Array Value} {y : MethodName} {b : ByteArray} {n : Nat} {ret : Option FieldType} (hts : ∀ w ∈ gtbl, w.before args s = true) (hc : Cond.code y b n ret ∈ gtbl) : ∀ w ∈ (Cond.code y b n ret :: gtbl), ∀ (a' : Array Value) (U : State), s.WarmedH U.vm → w.before a' U = true := by
  intro w hw a' U hW
  have hg : w ∈ gtbl := by
    rcases List.mem_cons.mp hw with h | h
    · rw [h]; exact hc
    · exact h
  exact word_at hW (good_of_word (gt_good w hg)) (hts w hg)
section JC
variable {p : Program} {l : Launch} {e : Env} {R : Room} {s : State} {m : MethodId} {args : Array Value} {below : List Frame} {meth : Method} {c : Code} {cc : ByteArray} {nL : Nat} {own : String} {D : DD} {B : Nat} {Q : State → Prop} {cells slots z : Nat} {h h' : HF} {L L' : List (Nat × Value)} {st rest : List Value} {pc : Nat}
variable {y : MethodName} {b : ByteArray} {n : Nat} {ret : Option FieldType} {fr lo mc ms : Nat} {as : List Value} {o : Option Value}
theorem Wd.at (X : Cx p s m args meth c cc nL own D B) {H : Heap} {locs : List Loc} (hP : HP D.1 B h H) (hz : H.size = z) (hS : va_S (aB B) s.heap H locs) {U : State} (hU : U.heap = H) (hW : s.WarmedH U.vm) : Wd D B z h U := by
  refine ⟨va_K.moved hW.alike X.2.2.2.2.2.1, X.2.2.2.2.2.2.1.moved hW, ?_, by rw [hU]; exact hz, ?_, by rw [hU]; exact hP⟩
  · rw [hU]
    exact (X.2.2.2.2.2.2.2.1.moved hW.alike).kept (fun a h1 h2 => hS.2.1 a h1 h2)
  · rw [← hz]
    exact Nat.le_trans X.2.2.2.2.2.2.2.2.1 hS.1
/-- what a run of a callee gives to its caller -/
theorem J.back {H : Heap} {locs : List Loc} {ls : Array Slot} (hS : va_S (aB B) s.heap H locs) (hl : lv_has ls nL L)
    (hr : va_Run p l e R s m args below meth c H locs cells slots mc ms (F0 m pc ls st) rest (fun st oc t => oc = .returned o ∧ Wd D B (z + mc) h' t ∧ va_F (aB B) st t) (aB B))
    (kk : J p l e R s m args below meth c D B nL Q (cells + mc) (slots + ms) (z + mc) h' L (o.toList ++ rest) (pc + 3)) : W p l e R s m args below meth c H locs cells slots Q (F0 m pc ls st) := by
  intro T hT XS
  obtain ⟨v, st₀, t, T', L1, h0, X', hL, e1, e2, ⟨ho, hw, hF⟩, stp⟩ := hr T hT XS
  cases ho
  obtain ⟨hK, hN, hST, hz, hBz, hP⟩ := hw
  obtain ⟨hF1, hF2⟩ := hF
  rw [h0] at hF1 hF2
  obtain ⟨t2, a1, b1⟩ := kk T'.heap (locs ++ L1) ls (by rw [e1]; exact hP) (by rw [e1]; exact hz)
    ⟨Nat.le_trans hS.1 (by rw [e1]; exact hF1), fun q h1 h2 => by rw [e1, hF2 q (Nat.lt_of_lt_of_le h1 hS.1) h2]; exact hS.2.1 q h1 h2, fun q hq => by
      rcases List.mem_append.mp hq with h | h
      · exact hS.2.2 q h
      · exact hL q h⟩ hl T' rfl X'
  exact ⟨t2, stp t2 a1, b1⟩
theorem par_of {k : Nat} (h : (parseMethodDescriptor y.desc).map (fun d => d.parameters.length) = some k) : ∀ sig, parseMethodDescriptor y.desc = some sig → k = sig.parameters.length := by
  intro sig hs
  rw [hs] at h
  exact (Option.some.inj h).symm
theorem j_callV (X : Cx p s m args meth c cc nL own D B) {a i ci k : Nat} {x : va_E} {fs : List Value} {q : vw_C} (C : CT l y b n ret fr lo (.ref a :: as) D B z h o mc ms h') (M : MV y b n ret k) (kM : Cond.methodLink own i y ∈ gtbl) (he : h a = some x) (hi : x = .inr (ci, fs)) (hq : vwCl[ci]? = some q) (hqc : q.1 = y.cls)
    (hst : st = as.reverse ++ .ref a :: rest) (hk : as.length = k) (hcat : (rest.map fun v => v.category).sum ≤ 8) (hR : fr + 1 ≤ R.frames ∧ 8 + (n + 11) + lo ≤ R.locals ∧ cells + mc ≤ R.cells ∧ slots + ms ≤ R.slots) (d : decode cc pc = .ok (.invokevirtual i, 3))
    (kk : J p l e R s m args below meth c D B nL Q (cells + mc) (slots + ms) (z + mc) h' L (o.toList ++ rest) (pc + 3)) : J p l e R s m args below meth c D B nL Q cells slots z h L st pc := by
  intro H locs ls hP hz hS hl
  subst hi
  have hts := X.2.2.2.2.1
  have hrecv : ∃ cellB : Cell, H[a]? = some cellB ∧ cellB.vm.isStatics = false ∧ s.vm.findClass y.cls = some cellB.cls := by
    rw [← hqc]
    exact va_recv X.2.2.2.2.2.1 (hP.one he) hq (q0 := 0) rfl
  exact J.back hS hl (va_runV (As := as) (rest := rest) (g := F0 m pc ls st) ⟨X.1, X.2.1, X.2.2.1, X.2.2.2.1, hts⟩ C
    ⟨⟨rfl, rfl, hR.1, hR.2.1, good_bef hts M.2.2.1, List.mem_cons_self, hts _ M.2.2.1, hts _ M.2.1, M.2.2.2.1, par_of M.2.2.2.2, hts _ kM⟩, hts _ M.1.1, hts _ M.1.2⟩
    ⟨fun a U g mk q => ⟨q.1, q.2.blind⟩, hrecv, fun U hU hW => ⟨rfl, Wd.at X hP hz hS hU hW⟩⟩ rfl hk hl.1 hst (lv_room hcat) d hR.2.2) kk
theorem j_callS (X : Cx p s m args meth c cc nL own D B) {i k : Nat} (C : CT l y b n ret fr lo as D B z h o mc ms h') (M : MT y b n ret k) (kM : Cond.methodLink own i y ∈ gtbl)
    (hst : st = as.reverse ++ rest) (hk : as.length = k) (hcat : (rest.map fun v => v.category).sum ≤ 8) (hR : fr + 1 ≤ R.frames ∧ 8 + (n + 11) + lo ≤ R.locals ∧ cells + mc ≤ R.cells ∧ slots + ms ≤ R.slots) (d : decode cc pc = .ok (.invokestatic i, 3))
    (kk : J p l e R s m args below meth c D B nL Q (cells + mc) (slots + ms) (z + mc) h' L (o.toList ++ rest) (pc + 3)) : J p l e R s m args below meth c D B nL Q cells slots z h L st pc := by
  intro H locs ls hP hz hS hl
  have hts := X.2.2.2.2.1
  exact J.back hS hl (va_runS (As := as) (rest := rest) (g := F0 m pc ls st) ⟨X.1, X.2.1, X.2.2.1, X.2.2.2.1, hts⟩ C
    ⟨⟨rfl, rfl, hR.1, hR.2.1, good_bef hts M.2.2.1, List.mem_cons_self, hts _ M.2.2.1, hts _ M.2.1, M.2.2.2.1, par_of M.2.2.2.2, hts _ kM⟩, hts _ M.1⟩
    ⟨fun a U g mk q => ⟨q.1, q.2.blind⟩, fun U hU hW => ⟨rfl, Wd.at X hP hz hS hU hW⟩⟩ rfl hk hl.1 hst (lv_room hcat) d hR.2.2) kk
theorem j_callI (X : Cx p s m args meth c cc nL own D B) {a i k : Nat} (C : CT l y b n none fr lo (.ref a :: as) D B z h none mc ms h') (M : MI y b n k) (kM : Cond.methodLink own i y ∈ gtbl)
    (hst : st = as.reverse ++ .ref a :: rest) (hk : as.length = k) (hcat : (rest.map fun v => v.category).sum ≤ 8) (hR : fr + 1 ≤ R.frames ∧ 8 + (n + 11) + lo ≤ R.locals ∧ cells + mc ≤ R.cells ∧ slots + ms ≤ R.slots) (d : decode cc pc = .ok (.invokespecial i, 3))
    (kk : J p l e R s m args below meth c D B nL Q (cells + mc) (slots + ms) (z + mc) h' L rest (pc + 3)) : J p l e R s m args below meth c D B nL Q cells slots z h L st pc := by
  intro H locs ls hP hz hS hl
  have hts := X.2.2.2.2.1
  exact J.back (o := none) hS hl (va_runI (As := as) (rest := rest) (g := F0 m pc ls st) ⟨X.1, X.2.1, X.2.2.1, X.2.2.2.1, hts⟩ C
    ⟨⟨rfl, rfl, hR.1, hR.2.1, good_bef hts M.2.2.1, List.mem_cons_self, hts _ M.2.2.1, hts _ M.2.1, M.2.2.2.1, par_of M.2.2.2.2, hts _ kM⟩, M.1.2, hts _ M.1.1⟩
    ⟨fun a U g mk q => ⟨q.1, q.2.blind⟩, fun U hU hW => ⟨rfl, Wd.at X hP hz hS hU hW⟩⟩ rfl hk hl.1 hst (lv_room hcat) d hR.2.2) kk
theorem j_callIN (X : Cx p s m args meth c cc nL own D B) {a i k : Nat} (C : CT l y b n none fr lo (.ref a :: as) D B z h none mc ms h') (M : MI y b n k) (kM : (own, i, y, "LearningRepeater") ∈ nestM)
    (hst : st = as.reverse ++ .ref a :: rest) (hk : as.length = k) (hcat : (rest.map fun v => v.category).sum ≤ 8) (hR : fr + 1 ≤ R.frames ∧ 8 + (n + 11) + lo ≤ R.locals ∧ cells + mc ≤ R.cells ∧ slots + ms ≤ R.slots) (d : decode cc pc = .ok (.invokespecial i, 3))
    (kk : J p l e R s m args below meth c D B nL Q (cells + mc) (slots + ms) (z + mc) h' L rest (pc + 3)) : J p l e R s m args below meth c D B nL Q cells slots z h L st pc := by
  intro H locs ls hP hz hS hl
  have hts := X.2.2.2.2.1
  exact J.back (o := none) hS hl (va_runIN (As := as) (rest := rest) (g := F0 m pc ls st) (host := "LearningRepeater") ⟨X.1, X.2.1, X.2.2.1, X.2.2.2.1, hts⟩ C
    ⟨⟨⟨rfl, rfl, hR.1, hR.2.1, good_bef hts M.2.2.1, List.mem_cons_self⟩, hts _ M.2.2.1, hts _ M.2.1, M.2.2.2.1, par_of M.2.2.2.2, va_Nw.use rfl (X.2.2.2.2.2.2.1.2.1 _ kM)⟩, M.1.2, hts _ M.1.1⟩
    ⟨fun a U g mk q => ⟨q.1, q.2.blind⟩, fun U hU hW => ⟨rfl, Wd.at X hP hz hS hU hW⟩⟩ rfl hk hl.1 hst (lv_room hcat) d hR.2.2) kk
/-- the ends -/
theorem j_iret (X : Cx p s m args meth c cc nL own D B) {ty : FieldType} {v w : Int32} {zz : Nat} (hr : meth.sig.returnType = some ty) (hn : narrow ty (.int v) = .int v) (ev : v = w) (hz' : z = zz) (hh : h = h') (d : decode cc pc = .ok (.ireturn, 1)) :
    J p l e R s m args below meth c D B nL (MQ below (QC (some (.int w)) D B zz h') args s cells slots (aB B)) cells slots z h L [.int v] pc := by
  subst ev hz' hh
  intro H locs ls hP hz hS hl
  exact W.zret X.1 X.2.1 hr hn (fun t ht hW => ⟨rfl, Wd.at X hP hz hS ht hW, hS.F ht⟩) hS.2.2 d X.2.2.2.2.2.2.2.2.2
theorem j_vret (X : Cx p s m args meth c cc nL own D B) {zz : Nat} (hr : meth.sig.returnType = none) (hz' : z = zz) (hh : h = h') (d : decode cc pc = .ok (.return_, 1)) :
    J p l e R s m args below meth c D B nL (MQ below (QC none D B zz h') args s cells slots (aB B)) cells slots z h L [] pc := by
  subst hz' hh
  intro H locs ls hP hz hS hl
  exact W.vret X.1 X.2.1 hr (fun t ht hW => ⟨rfl, Wd.at X hP hz hS ht hW, hS.F ht⟩) hS.2.2 d X.2.2.2.2.2.2.2.2.2
theorem j_aret (X : Cx p s m args meth c cc nL own D B) {rt : FieldType} {v w : Value} {zz : Nat} (hr : meth.sig.returnType = some rt) (hrt : (∃ n, rt = .object n) ∨ ∃ t, rt = .array t) (hv : v = .null ∨ ∃ a, v = .ref a) (ev : v = w) (hz' : z = zz) (hh : h = h') (d : decode cc pc = .ok (.areturn, 1)) :
    J p l e R s m args below meth c D B nL (MQ below (QC (some w) D B zz h') args s cells slots (aB B)) cells slots z h L [v] pc := by
  subst ev hz' hh
  intro H locs ls hP hz hS hl
  exact W.aret X.1 X.2.1 hr hrt hv (fun t ht hW => ⟨rfl, Wd.at X hP hz hS ht hW, hS.F ht⟩) hS.2.2 d X.2.2.2.2.2.2.2.2.2
/-- making: objects, arrays; Object's own constructor; the copy of a row -/
theorem j_objInit (X : Cx p s m args meth c cc nL own D B) {a i : Nat} (kM : Cond.methodLink own i objectInit ∈ gtbl) (hR : 1 ≤ R.frames ∧ (rest.map fun v => v.category).sum + 12 ≤ R.locals) (d : decode cc pc = .ok (.invokespecial i, 3))
    (kk : J p l e R s m args below meth c D B nL Q cells slots z h L rest (pc + 3)) : J p l e R s m args below meth c D B nL Q cells slots z h L (.ref a :: rest) pc :=
  fun H locs ls hP hz hS hl => W.objInit X.1 X.2.1 X.2.2.2.1 (X.2.2.2.2.1 _ kM) (X.2.2.2.2.1 _ kY_objectInit) (X.2.2.2.2.1 _ kC_objectInit) (g := F0 m pc ls (.ref a :: rest)) rfl (by rw [X.2.2.1]; exact hl.1) rfl d hR.1 (by show 2 * 0 + _ + 12 ≤ _; omega) (kk H locs ls hP hz hS hl)
theorem j_new (X : Cx p s m args meth c cc nL own D B) {i ci N : Nat} {C : String} {T : u_T} {ty : Nat → FieldType} {fs : List Value} (hc : vwCl[ci]? = some (C, T, N)) (hin : ∀ w ∈ u_ws C T N, w ∈ gtbl) (hty : ∀ k, k < N → parseFieldDescriptor (T k).2.2.1 = some (ty k)) (kL : Cond.classLink own i C ∈ gtbl) (kA : Cond.instantiable C N ∈ gtbl) (kI : Cond.initialized C ∈ gtbl) (hfs : ∀ j, j < N → defaultValue (ty j) = vp_V fs j)
    (hR : cells + 1 ≤ R.cells ∧ slots + N ≤ R.slots) (d : decode cc pc = .ok (.new i, 3)) (kk : J p l e R s m args below meth c D B nL Q (cells + 1) (slots + N) (z + 1) (hupd h z (.inr (ci, fs))) L (.ref z :: rest) (pc + 3)) : J p l e R s m args below meth c D B nL Q cells slots z h L rest pc := by
  intro H locs ls hP hz hS hl
  have hts := X.2.2.2.2.1
  have hKn := X.2.2.2.2.2.1.1 ci _ hc
  have hBz : B ≤ z := by rw [← hz]; exact Nat.le_trans X.2.2.2.2.2.2.2.2.1 hS.1
  refine W.newcK X.1 X.2.1 X.2.2.2.1 (hts _ kL) (hts _ kA) (hts _ kI) (g := F0 m pc ls rest) rfl d hR.1 hR.2 hKn.2.1 hz fun H1 kC hkC e1 z1 o1 => ?_
  exact kk H1 _ ls (hP.push hBz hz ⟨_, hc, (u_born ty hts hin hKn hkC e1 hty).to hfs⟩ o1) z1 ⟨Nat.le_trans hS.1 (by omega), fun x h1 h2 => (o1 x (by have := hS.1; omega)).trans (hS.2.1 x h1 h2), hS.2.2⟩ hl
end JC
