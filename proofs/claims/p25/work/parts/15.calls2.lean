section JD
variable {p : Program} {l : Launch} {e : Env} {R : Room} {s : State} {m : MethodId} {args : Array Value} {below : List Frame} {meth : Method} {c : Code} {cc : ByteArray} {nL : Nat} {own : String} {D : DD} {B : Nat} {Q : State → Prop} {cells slots z : Nat} {h h' : HF} {L L' : List (Nat × Value)} {st rest : List Value} {pc : Nat}
variable {y : MethodName} {b : ByteArray} {n : Nat} {ret : Option FieldType} {fr lo : Nat} {as : List Value}
theorem j_callVi (X : Cx p s m args meth c cc nL own D B) {a i ci k : Nat} {r : Int32} {x : va_E} {fs : List Value} {q : vw_C} (C : CT l y b n ret fr lo (.ref a :: as) D B z h (some (.int r)) 0 0 h') (M : MV y b n ret k) (kM : Cond.methodLink own i y ∈ gtbl) (he : h a = some x) (hi : x = .inr (ci, fs)) (hq : vwCl[ci]? = some q) (hqc : q.1 = y.cls)
    (hst : st = as.reverse ++ .ref a :: rest) (hk : as.length = k) (hcat : (rest.map fun v => v.category).sum ≤ 8) (hR : fr + 1 ≤ R.frames ∧ 8 + (n + 11) + lo ≤ R.locals ∧ cells + 0 ≤ R.cells ∧ slots + 0 ≤ R.slots) (d : decode cc pc = .ok (.invokevirtual i, 3))
    (kk : J p l e R s m args below meth c D B nL Q cells slots z h' L (.int r :: rest) (pc + 3)) : J p l e R s m args below meth c D B nL Q cells slots z h L st pc := j_callV X C M kM he hi hq hqc hst hk hcat hR d kk
theorem j_callVr (X : Cx p s m args meth c cc nL own D B) {a i ci k : Nat} {r : Value} {x : va_E} {fs : List Value} {q : vw_C} (C : CT l y b n ret fr lo (.ref a :: as) D B z h (some r) 0 0 h') (M : MV y b n ret k) (kM : Cond.methodLink own i y ∈ gtbl) (he : h a = some x) (hi : x = .inr (ci, fs)) (hq : vwCl[ci]? = some q) (hqc : q.1 = y.cls)
    (hst : st = as.reverse ++ .ref a :: rest) (hk : as.length = k) (hcat : (rest.map fun v => v.category).sum ≤ 8) (hR : fr + 1 ≤ R.frames ∧ 8 + (n + 11) + lo ≤ R.locals ∧ cells + 0 ≤ R.cells ∧ slots + 0 ≤ R.slots) (d : decode cc pc = .ok (.invokevirtual i, 3))
    (kk : J p l e R s m args below meth c D B nL Q cells slots z h' L (r :: rest) (pc + 3)) : J p l e R s m args below meth c D B nL Q cells slots z h L st pc := j_callV X C M kM he hi hq hqc hst hk hcat hR d kk
theorem j_callVv (X : Cx p s m args meth c cc nL own D B) {a i ci k : Nat} {x : va_E} {fs : List Value} {q : vw_C} (C : CT l y b n ret fr lo (.ref a :: as) D B z h none 0 0 h') (M : MV y b n ret k) (kM : Cond.methodLink own i y ∈ gtbl) (he : h a = some x) (hi : x = .inr (ci, fs)) (hq : vwCl[ci]? = some q) (hqc : q.1 = y.cls)
    (hst : st = as.reverse ++ .ref a :: rest) (hk : as.length = k) (hcat : (rest.map fun v => v.category).sum ≤ 8) (hR : fr + 1 ≤ R.frames ∧ 8 + (n + 11) + lo ≤ R.locals ∧ cells + 0 ≤ R.cells ∧ slots + 0 ≤ R.slots) (d : decode cc pc = .ok (.invokevirtual i, 3))
    (kk : J p l e R s m args below meth c D B nL Q cells slots z h' L rest (pc + 3)) : J p l e R s m args below meth c D B nL Q cells slots z h L st pc := j_callV X C M kM he hi hq hqc hst hk hcat hR d kk
theorem j_callSi (X : Cx p s m args meth c cc nL own D B) {i k : Nat} {r : Int32} (C : CT l y b n ret fr lo as D B z h (some (.int r)) 0 0 h') (M : MT y b n ret k) (kM : Cond.methodLink own i y ∈ gtbl)
    (hst : st = as.reverse ++ rest) (hk : as.length = k) (hcat : (rest.map fun v => v.category).sum ≤ 8) (hR : fr + 1 ≤ R.frames ∧ 8 + (n + 11) + lo ≤ R.locals ∧ cells + 0 ≤ R.cells ∧ slots + 0 ≤ R.slots) (d : decode cc pc = .ok (.invokestatic i, 3))
    (kk : J p l e R s m args below meth c D B nL Q cells slots z h' L (.int r :: rest) (pc + 3)) : J p l e R s m args below meth c D B nL Q cells slots z h L st pc := j_callS X C M kM hst hk hcat hR d kk
theorem j_callSv (X : Cx p s m args meth c cc nL own D B) {i k : Nat} (C : CT l y b n ret fr lo as D B z h none 0 0 h') (M : MT y b n ret k) (kM : Cond.methodLink own i y ∈ gtbl)
    (hst : st = as.reverse ++ rest) (hk : as.length = k) (hcat : (rest.map fun v => v.category).sum ≤ 8) (hR : fr + 1 ≤ R.frames ∧ 8 + (n + 11) + lo ≤ R.locals ∧ cells + 0 ≤ R.cells ∧ slots + 0 ≤ R.slots) (d : decode cc pc = .ok (.invokestatic i, 3))
    (kk : J p l e R s m args below meth c D B nL Q cells slots z h' L rest (pc + 3)) : J p l e R s m args below meth c D B nL Q cells slots z h L st pc := j_callS X C M kM hst hk hcat hR d kk
theorem j_tops {x : Int32} (kk : ∀ v : Int32, x = v → J p l e R s m args below meth c D B nL Q cells slots z h L (.int v :: rest) pc) : J p l e R s m args below meth c D B nL Q cells slots z h L (.int x :: rest) pc := kk x rfl
/-- another way to write the same cell -/
theorem j_recell {a k : Nat} {f g : Nat → Int32} (he : h a = some (.inl (D.2.1.1, (k, .inl f)))) (hfg : ∀ j, j < k → f j = g j) (kk : J p l e R s m args below meth c D B nL Q cells slots z (hupd h a (.inl (D.2.1.1, (k, .inl g)))) L st pc) : J p l e R s m args below meth c D B nL Q cells slots z h L st pc := by
  intro H locs ls hP hz hS hl
  refine kk H locs ls (hP.put (hP a _ he).1 ?_ (fun _ _ => rfl)) hz hS hl
  have h1 : H[a]? = some (vp_cell D.2.1.1 (k, .inl f)) := (hP a _ he).2
  show H[a]? = some (vp_cell D.2.1.1 (k, .inl g))
  rw [h1]
  congr 1
  rw [vp_cell_i, vp_cell_i]
  unfold arrV
  congr 1
  congr 1
  funext j
  exact congrArg Value.int (hfg j.val j.isLt)
end JD
theorem hupd_self {h : HF} {a : Nat} {x : va_E} (he : h a = some x) : hupd h a x = h := by
  funext q
  unfold hupd
  by_cases c : q = a
  · rw [if_pos c, c, he]
  · rw [if_neg c]
theorem vp_in_c {i : Int32} {n : Nat} (hn : n < 2147483648) (h0 : ¬ i < 0) (h1 : i < nI n) : vp_in i n := by
  rw [vp_in_iff]
  have h2 : (nI n).toInt = (n : Int) := nI_toInt hn
  have h3 := Int32.lt_iff_toInt_lt.mp h1
  have h4 := Int32.le_iff_toInt_le.mp (Int32.not_lt.mp h0)
  rw [h2] at h3
  exact ⟨by simpa using h4, h3⟩
