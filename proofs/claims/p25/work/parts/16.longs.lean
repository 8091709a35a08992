/-! longs, and calls that make cells -/
section JLong
variable {p : Program} {l : Launch} {e : Env} {R : Room} {s : State} {m : MethodId} {args : Array Value} {below : List Frame} {meth : Method} {c : Code} {cc : ByteArray} {nL : Nat} {own : String} {D : DD} {B : Nat} {Q : State → Prop} {cells slots z : Nat} {h h' : HF} {L L' : List (Nat × Value)} {st rest : List Value} {pc : Nat}
theorem j_ldc2 (X : Cx p s m args meth c cc nL own D B) {i : Nat} {v : Int64} (k : Cond.constantLong own i v ∈ gtbl) (d : decode cc pc = .ok (.ldc2_w i, 3)) (kk : J p l e R s m args below meth c D B nL Q cells slots z h L (.long v :: rest) (pc + 3)) : J p l e R s m args below meth c D B nL Q cells slots z h L rest pc :=
  fun H locs ls hP hz hS hl => lv_ldc2 X.1 X.2.1 X.2.2.2.1 (X.2.2.2.2.1 _ k) d (kk H locs ls hP hz hS hl)
theorem j_ldc (X : Cx p s m args meth c cc nL own D B) {i : Nat} {v : Int32} (k : Cond.constant own i v ∈ gtbl) (d : decode cc pc = .ok (.ldc i, 2)) (kk : J p l e R s m args below meth c D B nL Q cells slots z h L (.int v :: rest) (pc + 2)) : J p l e R s m args below meth c D B nL Q cells slots z h L rest pc :=
  fun H locs ls hP hz hS hl => lv_ldc X.1 X.2.1 X.2.2.2.1 (X.2.2.2.2.1 _ k) d (kk H locs ls hP hz hS hl)
theorem j_ladd (X : Cx p s m args meth c cc nL own D B) {x y : Int64} (d : decode cc pc = .ok (.ladd, 1)) (kk : J p l e R s m args below meth c D B nL Q cells slots z h L (.long (x + y) :: rest) (pc + 1)) : J p l e R s m args below meth c D B nL Q cells slots z h L (.long y :: .long x :: rest) pc :=
  fun H locs ls hP hz hS hl => lv_ladd X.1 X.2.1 d (kk H locs ls hP hz hS hl)
theorem j_lmul (X : Cx p s m args meth c cc nL own D B) {x y : Int64} (d : decode cc pc = .ok (.lmul, 1)) (kk : J p l e R s m args below meth c D B nL Q cells slots z h L (.long (x * y) :: rest) (pc + 1)) : J p l e R s m args below meth c D B nL Q cells slots z h L (.long y :: .long x :: rest) pc :=
  fun H locs ls hP hz hS hl => lv_lmul X.1 X.2.1 d (kk H locs ls hP hz hS hl)
theorem j_i2l (X : Cx p s m args meth c cc nL own D B) {x : Int32} (d : decode cc pc = .ok (.i2l, 1)) (kk : J p l e R s m args below meth c D B nL Q cells slots z h L (.long x.toInt64 :: rest) (pc + 1)) : J p l e R s m args below meth c D B nL Q cells slots z h L (.int x :: rest) pc :=
  fun H locs ls hP hz hS hl => lv_i2l X.1 X.2.1 d rfl (kk H locs ls hP hz hS hl)
theorem j_lcmp (X : Cx p s m args meth c cc nL own D B) {x y : Int64} (d : decode cc pc = .ok (.lcmp, 1)) (kk : J p l e R s m args below meth c D B nL Q cells slots z h L (.int (lg_cmp x y) :: rest) (pc + 1)) : J p l e R s m args below meth c D B nL Q cells slots z h L (.long y :: .long x :: rest) pc :=
  fun H locs ls hP hz hS hl => W.lcmp X.1 X.2.1 d (kk H locs ls hP hz hS hl)
theorem j_lload (X : Cx p s m args meth c cc nL own D B) (q : Nat) {i : Nat} {x : Int64} (d : decode cc pc = .ok (.lload i, 2)) (hq : L[q]? = some (i, .long x)) (kk : J p l e R s m args below meth c D B nL Q cells slots z h L (.long x :: rest) (pc + 2)) : J p l e R s m args below meth c D B nL Q cells slots z h L rest pc :=
  fun H locs ls hP hz hS hl => lv_lload X.1 X.2.1 d (lv_at hl q hq) (kk H locs ls hP hz hS hl)
theorem j_lload_n (X : Cx p s m args meth c cc nL own D B) (q : Nat) {i : Nat} {k : Fin 4} {x : Int64} (d : decode cc pc = .ok (.lload_n k, 1)) (hi : (k : Nat) = i) (hq : L[q]? = some (i, .long x)) (kk : J p l e R s m args below meth c D B nL Q cells slots z h L (.long x :: rest) (pc + 1)) : J p l e R s m args below meth c D B nL Q cells slots z h L rest pc :=
  fun H locs ls hP hz hS hl => lv_lload_n X.1 X.2.1 d hi (lv_at hl q hq) (kk H locs ls hP hz hS hl)
theorem j_lstore (X : Cx p s m args meth c cc nL own D B) {i : Nat} {x : Int64} (d : decode cc pc = .ok (.lstore i, 2)) (hn : i + 1 < nL) (hl' : (i, Value.long x) :: L.filter (fun q => !(q.1 == i) && (!(q.1 == i + 1) && !(q.1 + 1 == i && q.2.category == 2))) = L') (kk : J p l e R s m args below meth c D B nL Q cells slots z h L' rest (pc + 2)) : J p l e R s m args below meth c D B nL Q cells slots z h L (.long x :: rest) pc :=
  fun H locs ls hP hz hS hl => lv_lstore X.1 X.2.1 d hl hn hl' (fun ls2 h2 => kk H locs ls2 hP hz hS h2)
theorem j_lstore_n (X : Cx p s m args meth c cc nL own D B) {i : Nat} {k : Fin 4} {x : Int64} (d : decode cc pc = .ok (.lstore_n k, 1)) (hi : (k : Nat) = i) (hn : i + 1 < nL) (hl' : (i, Value.long x) :: L.filter (fun q => !(q.1 == i) && (!(q.1 == i + 1) && !(q.1 + 1 == i && q.2.category == 2))) = L') (kk : J p l e R s m args below meth c D B nL Q cells slots z h L' rest (pc + 1)) : J p l e R s m args below meth c D B nL Q cells slots z h L (.long x :: rest) pc :=
  fun H locs ls hP hz hS hl => lv_lstore_n X.1 X.2.1 d hi hl hn hl' (fun ls2 h2 => kk H locs ls2 hP hz hS h2)
theorem j_topl {x : Int64} (kk : ∀ v : Int64, x = v → J p l e R s m args below meth c D B nL Q cells slots z h L (.long v :: rest) pc) : J p l e R s m args below meth c D B nL Q cells slots z h L (.long x :: rest) pc := kk x rfl
theorem j_lret (X : Cx p s m args meth c cc nL own D B) {v w : Int64} {zz : Nat} (hr : meth.sig.returnType = some .long) (ev : v = w) (hz' : z = zz) (hh : h = h') (d : decode cc pc = .ok (.lreturn, 1)) :
    J p l e R s m args below meth c D B nL (MQ below (QC (some (.long w)) D B zz h') args s cells slots (aB B)) cells slots z h L [.long v] pc := by
  subst ev hz' hh
  intro H locs ls hP hz hS hl
  exact W.lret X.1 X.2.1 hr (fun t ht hW => ⟨rfl, Wd.at X hP hz hS ht hW, hS.F ht⟩) hS.2.2 d X.2.2.2.2.2.2.2.2.2
/-- a smaller map will do -/
theorem j_less (hh : ∀ q x, h' q = some x → h q = some x) (kk : J p l e R s m args below meth c D B nL Q cells slots z h' L st pc) : J p l e R s m args below meth c D B nL Q cells slots z h L st pc :=
  fun H locs ls hP hz hS hl => kk H locs ls (fun q x hq => hP q x (hh q x hq)) hz hS hl
variable {y : MethodName} {b : ByteArray} {n : Nat} {ret : Option FieldType} {fr lo mc ms : Nat} {as : List Value}
theorem j_callSl (X : Cx p s m args meth c cc nL own D B) {i k : Nat} {r : Int64} (C : CT l y b n ret fr lo as D B z h (some (.long r)) 0 0 h') (M : MT y b n ret k) (kM : Cond.methodLink own i y ∈ gtbl)
    (hst : st = as.reverse ++ rest) (hk : as.length = k) (hcat : (rest.map fun v => v.category).sum ≤ 8) (hR : fr + 1 ≤ R.frames ∧ 8 + (n + 11) + lo ≤ R.locals ∧ cells + 0 ≤ R.cells ∧ slots + 0 ≤ R.slots) (d : decode cc pc = .ok (.invokestatic i, 3))
    (kk : J p l e R s m args below meth c D B nL Q cells slots z h' L (.long r :: rest) (pc + 3)) : J p l e R s m args below meth c D B nL Q cells slots z h L st pc := j_callS X C M kM hst hk hcat hR d kk
theorem j_callSk (X : Cx p s m args meth c cc nL own D B) {i k : Nat} {r : Int32} (C : CT l y b n ret fr lo as D B z h (some (.int r)) mc ms h') (M : MT y b n ret k) (kM : Cond.methodLink own i y ∈ gtbl)
    (hst : st = as.reverse ++ rest) (hk : as.length = k) (hcat : (rest.map fun v => v.category).sum ≤ 8) (hR : fr + 1 ≤ R.frames ∧ 8 + (n + 11) + lo ≤ R.locals ∧ cells + mc ≤ R.cells ∧ slots + ms ≤ R.slots) (d : decode cc pc = .ok (.invokestatic i, 3))
    (kk : J p l e R s m args below meth c D B nL Q (cells + mc) (slots + ms) (z + mc) h' L (.int r :: rest) (pc + 3)) : J p l e R s m args below meth c D B nL Q cells slots z h L st pc := j_callS X C M kM hst hk hcat hR d kk
end JLong
theorem lg_cmp0 {x y : Int64} : lg_cmp x y = 0 ↔ x = y := by
  unfold lg_cmp
  by_cases h1 : y < x
  · simp only [h1, if_true]
    refine ⟨fun q => absurd q (by decide), fun q => ?_⟩
    subst q
    exact absurd h1 (Int64.lt_irrefl)
  · by_cases h2 : x = y
    · subst h2
      simp
    · simp [h1, h2]
