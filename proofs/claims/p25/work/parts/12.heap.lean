/-- a field of ours, as one method's class file links it: the class's number ci, the field's place k -/
def FG (own : String) (i ci k : Nat) : Prop := ∃ (C : String) (T : u_T) (N : Nat), vwCl[ci]? = some (C, T, N) ∧ (∀ w ∈ u_ws C T N, w ∈ gtbl) ∧ k < N ∧ Cond.fieldLink own i (T k).1 (T k).2.1 (T k).2.2.1 ∈ gtbl
def FN (own : String) (i ci k : Nat) : Prop := ∃ (C : String) (T : u_T) (N : Nat), vwCl[ci]? = some (C, T, N) ∧ (∀ w ∈ u_ws C T N, w ∈ gtbl) ∧ k < N ∧ (own, i, (T k).1, (T k).2.1, (T k).2.2.1, "LearningRepeater") ∈ nestF
/-- what a field's class says of a store -/
def FW (ci k : Nat) (ty : FieldType) : Prop := ∃ (C : String) (T : u_T) (N : Nat) (t0 : Nat → FieldType), vwCl[ci]? = some (C, T, N) ∧ (∀ a, a < N → parseFieldDescriptor (T a).2.2.1 = some (t0 a)) ∧ (∀ a, a < N → ∀ b, b < N → a ≠ b → (T a).2.1 ≠ (T b).2.1) ∧ (T k).2.2.2 = false ∧ parseFieldDescriptor (T k).2.2.1 = some ty
def FF (own : String) (ci k : Nat) (ty : FieldType) : Prop := ∃ (C : String) (T : u_T) (N : Nat) (t0 : Nat → FieldType), vwCl[ci]? = some (C, T, N) ∧ (∀ a, a < N → parseFieldDescriptor (T a).2.2.1 = some (t0 a)) ∧ (∀ a, a < N → ∀ b, b < N → a ≠ b → (T a).2.1 ≠ (T b).2.1) ∧ (T k).2.2.2 = true ∧ parseFieldDescriptor (T k).2.2.1 = some ty ∧ (T k).1 = own
section JH
variable {p : Program} {l : Launch} {e : Env} {R : Room} {s : State} {m : MethodId} {args : Array Value} {below : List Frame} {meth : Method} {c : Code} {cc : ByteArray} {nL : Nat} {own : String} {D : DD} {B : Nat} {Q : State → Prop} {cells slots z : Nat} {h : HF} {L L' : List (Nat × Value)} {st rest : List Value} {pc : Nat}
theorem HP.one {G : va_G} {H : Heap} {a : Nat} {x : va_E} (hP : HP G B h H) (he : h a = some x) : va_P G vwCl [(a, x)] H := fun k q hq => by
  have hk : k < 1 := (List.getElem?_eq_some_iff.mp hq).1
  rw [show k = 0 by omega] at hq
  cases hq
  exact (hP a x he).2
theorem j_get (X : Cx p s m args meth c cc nL own D B) {i ci k a : Nat} {x : va_E} {fs : List Value} {v : Value} (F : FG own i ci k) (he : h a = some x) (hi : x = .inr (ci, fs)) (hv : fs[k]? = some v) (d : decode cc pc = .ok (.getfield i, 3))
    (kk : J p l e R s m args below meth c D B nL Q cells slots z h L (v :: rest) (pc + 3)) : J p l e R s m args below meth c D B nL Q cells slots z h L (.ref a :: rest) pc := by
  obtain ⟨C, T, N, hc, hin, hk, hlk⟩ := F
  subst hi
  exact fun H locs ls hP hz hS hl => va_get X.1 X.2.1 X.2.2.2.2.1 hin X.2.2.2.1 X.2.2.2.2.2.1 (hP.one he) 0 rfl hc k hk (X.2.2.2.2.1 _ hlk) (fun _ q => q) hv d (kk H locs ls hP hz hS hl)
theorem j_getN (X : Cx p s m args meth c cc nL own D B) {i ci k a : Nat} {x : va_E} {fs : List Value} {v : Value} (F : FN own i ci k) (he : h a = some x) (hi : x = .inr (ci, fs)) (hv : fs[k]? = some v) (d : decode cc pc = .ok (.getfield i, 3))
    (kk : J p l e R s m args below meth c D B nL Q cells slots z h L (v :: rest) (pc + 3)) : J p l e R s m args below meth c D B nL Q cells slots z h L (.ref a :: rest) pc := by
  obtain ⟨C, T, N, hc, hin, hk, hlk⟩ := F
  subst hi
  exact fun H locs ls hP hz hS hl => va_getN X.1 X.2.1 X.2.2.2.2.1 hin X.2.2.2.1 X.2.2.2.2.2.1 (hP.one he) 0 rfl hc k hk (va_Nw.use rfl (X.2.2.2.2.2.2.1.1 _ hlk)) (fun _ q => q) hv d (kk H locs ls hP hz hS hl)
set_option maxHeartbeats 1000000 in
theorem j_put (X : Cx p s m args meth c cc nL own D B) {i ci k a : Nat} {x : va_E} {fs : List Value} {ty : FieldType} {v : Value} (F : FG own i ci k) (G : FW ci k ty) (he : h a = some x) (hi : x = .inr (ci, fs)) (hn : narrow ty v = v) (hfit : fits ty v = true) (hlen : k < fs.length) (d : decode cc pc = .ok (.putfield i, 3))
    (kk : J p l e R s m args below meth c D B nL Q cells slots z (hupd h a (.inr (ci, fs.set k v))) L rest (pc + 3)) : J p l e R s m args below meth c D B nL Q cells slots z h L (v :: .ref a :: rest) pc := by
  obtain ⟨C, T, N, hc, hin, hk, hlk⟩ := F
  obtain ⟨C', T', N', t0, hc', hty, hnm, hfin, hd⟩ := G
  have hCC := Option.some.inj (hc.symm.trans hc')
  cases hCC
  subst hi
  intro H locs ls hP hz hS hl
  have hap := va_apart (own := own) X.2.2.2.2.1 hin t0 hty hnm X.2.2.2.2.2.1 hc
  obtain ⟨hB, r, h1, cell, q1, q2, q3, q4⟩ := hP a _ he
  have hr : r = (C, T, N) := Option.some.inj (h1.symm.trans hc)
  subst hr
  obtain ⟨hSl, hfc, kC, hkC, hkind⟩ := X.2.2.2.2.2.1.1 ci _ hc
  obtain ⟨cf, kf, fi, f, hfi, hsl⟩ := hSl k hk
  have hlay := X.2.2.2.2.1 _ (hin _ (u_in_lay hk))
  unfold u_lay at hlay
  rw [if_neg (by rw [hfin]; decide)] at hlay
  have hst := (u_facts hfc hkC (u_lays X.2.2.2.2.1 hin hk) hfi).1
  have h6 := u_store hfc hkC hkind hlay hfi hd hn hfit
  refine W.putK X.1 X.2.1 (f := f) ⟨X.2.2.2.1, X.2.2.2.2.1 _ hlk, ⟨_, _, _, hfi⟩, hst⟩ (by rw [q2]; exact h6) q1 q3 (by rw [hsl]; exact k2_hasslot (q4 k hk)) rfl rfl d fun H' e1 e2 e3 => ?_
  rw [hsl] at e1 ⊢
  exact kk H' _ ls (hP.put hB ⟨_, hc, t_OB.to (V := updV (vp_V fs) k v) ⟨_, e1, q2, q3, t_set q4 hap hk v⟩ (fun j _ => vp_updV_set hlen v j)⟩ e3) (e2.trans hz) (hS.put e2 e3 hB) hl
set_option maxHeartbeats 1000000 in
theorem j_putN (X : Cx p s m args meth c cc nL own D B) {i ci k a : Nat} {x : va_E} {fs : List Value} {ty : FieldType} {v : Value} (F : FN own i ci k) (G : FW ci k ty) (he : h a = some x) (hi : x = .inr (ci, fs)) (hn : narrow ty v = v) (hfit : fits ty v = true) (hlen : k < fs.length) (d : decode cc pc = .ok (.putfield i, 3))
    (kk : J p l e R s m args below meth c D B nL Q cells slots z (hupd h a (.inr (ci, fs.set k v))) L rest (pc + 3)) : J p l e R s m args below meth c D B nL Q cells slots z h L (v :: .ref a :: rest) pc := by
  obtain ⟨C, T, N, hc, hin, hk, hlk⟩ := F
  obtain ⟨C', T', N', t0, hc', hty, hnm, hfin, hd⟩ := G
  have hCC := Option.some.inj (hc.symm.trans hc')
  cases hCC
  subst hi
  intro H locs ls hP hz hS hl
  have hap := va_apart (own := own) X.2.2.2.2.1 hin t0 hty hnm X.2.2.2.2.2.1 hc
  obtain ⟨hB, r, h1, cell, q1, q2, q3, q4⟩ := hP a _ he
  have hr : r = (C, T, N) := Option.some.inj (h1.symm.trans hc)
  subst hr
  obtain ⟨hSl, hfc, kC, hkC, hkind⟩ := X.2.2.2.2.2.1.1 ci _ hc
  obtain ⟨cf, kf, fi, f, hfi, hsl⟩ := hSl k hk
  have hlay := X.2.2.2.2.1 _ (hin _ (u_in_lay hk))
  unfold u_lay at hlay
  rw [if_neg (by rw [hfin]; decide)] at hlay
  have hst := (u_facts hfc hkC (u_lays X.2.2.2.2.1 hin hk) hfi).1
  have h6 := u_store hfc hkC hkind hlay hfi hd hn hfit
  refine va_WputK X.1 X.2.1 (f := f) X.2.2.2.1 (va_Nw.use rfl (X.2.2.2.2.2.2.1.1 _ hlk)) hfi hst (by rw [q2]; exact h6) q1 q3 (by rw [hsl]; exact k2_hasslot (q4 k hk)) rfl rfl d fun H' e1 e2 e3 => ?_
  rw [hsl] at e1 ⊢
  exact kk H' _ ls (hP.put hB ⟨_, hc, t_OB.to (V := updV (vp_V fs) k v) ⟨_, e1, q2, q3, t_set q4 hap hk v⟩ (fun j _ => vp_updV_set hlen v j)⟩ e3) (e2.trans hz) (hS.put e2 e3 hB) hl
set_option maxHeartbeats 1000000 in
theorem j_putF (X : Cx p s m args meth c cc nL own D B) (hin2 : meth.name = "<init>") {i ci k a : Nat} {x : va_E} {fs : List Value} {ty : FieldType} {v : Value} (F : FG own i ci k) (G : FF own ci k ty) (he : h a = some x) (hi : x = .inr (ci, fs)) (hn : narrow ty v = v) (hfit : fits ty v = true) (hlen : k < fs.length) (d : decode cc pc = .ok (.putfield i, 3))
    (kk : J p l e R s m args below meth c D B nL Q cells slots z (hupd h a (.inr (ci, fs.set k v))) L rest (pc + 3)) : J p l e R s m args below meth c D B nL Q cells slots z h L (v :: .ref a :: rest) pc := by
  obtain ⟨C, T, N, hc, hin, hk, hlk⟩ := F
  obtain ⟨C', T', N', t0, hc', hty, hnm, hfin, hd, hdecl⟩ := G
  have hCC := Option.some.inj (hc.symm.trans hc')
  cases hCC
  subst hi
  intro H locs ls hP hz hS hl
  have hap := va_apart (own := own) X.2.2.2.2.1 hin t0 hty hnm X.2.2.2.2.2.1 hc
  obtain ⟨hB, r, h1, cell, q1, q2, q3, q4⟩ := hP a _ he
  have hr : r = (C, T, N) := Option.some.inj (h1.symm.trans hc)
  subst hr
  obtain ⟨hSl, hfc, kC, hkC, hkind⟩ := X.2.2.2.2.2.1.1 ci _ hc
  obtain ⟨cf, kf, fi, f, hfi, hsl⟩ := hSl k hk
  have hlay := X.2.2.2.2.1 _ (hin _ (u_in_lay hk))
  unfold u_lay at hlay
  rw [if_pos hfin] at hlay
  have hst := (u_facts hfc hkC (u_lays X.2.2.2.2.1 hin hk) hfi).1
  have hcf : m.cls = cf := by
    obtain ⟨_, _, c', _, _, _, -, -, hf', -, -, -, hown2, -⟩ := Cond.laysFinal_spec hlay
    have e1 : c' = cf := by have := hfi.symm.trans hf'; simp at this; exact this.1.symm
    rw [hdecl] at hown2
    rw [← e1]; exact Option.some.inj (X.2.2.2.1.symm.trans hown2)
  have h6 := u_fits hfc hkC hkind (Or.inr hlay) hfi hd hn hfit
  refine W.putFinK X.1 X.2.1 X.2.2.2.1 (X.2.2.2.2.1 _ hlk) hfi hst hcf hin2 (by rw [q2]; exact h6) q1 q3 (by rw [hsl]; exact k2_hasslot (q4 k hk)) rfl rfl d fun H' e1 e2 e3 => ?_
  rw [hsl] at e1 ⊢
  exact kk H' _ ls (hP.put hB ⟨_, hc, t_OB.to (V := updV (vp_V fs) k v) ⟨_, e1, q2, q3, t_set q4 hap hk v⟩ (fun j _ => vp_updV_set hlen v j)⟩ e3) (e2.trans hz) (hS.put e2 e3 hB) hl
theorem j_iald (X : Cx p s m args meth c cc nL own D B) {a n : Nat} {x : va_E} {f : Nat → Int32} {i : Int32} (he : h a = some x) (hi : x = .inl (D.2.1.1, (n, .inl f))) (hin : vp_in i n) (d : decode cc pc = .ok (.iaload, 1))
    (kk : J p l e R s m args below meth c D B nL Q cells slots z h L (.int (f i.toNatClampNeg) :: rest) (pc + 1)) : J p l e R s m args below meth c D B nL Q cells slots z h L (.int i :: .ref a :: rest) pc := by
  subst hi
  exact fun H locs ls hP hz hS hl => va_iald X.1 X.2.1 X.2.2.2.2.2.1 (hP.one he) 0 0 rfl rfl hin d (kk H locs ls hP hz hS hl)
theorem j_cald (X : Cx p s m args meth c cc nL own D B) {a n : Nat} {x : va_E} {f : Nat → Int32} {i : Int32} (he : h a = some x) (hi : x = .inl (D.2.1.2.1, (n, .inl f))) (hin : vp_in i n) (d : decode cc pc = .ok (.caload, 1))
    (kk : J p l e R s m args below meth c D B nL Q cells slots z h L (.int (f i.toNatClampNeg) :: rest) (pc + 1)) : J p l e R s m args below meth c D B nL Q cells slots z h L (.int i :: .ref a :: rest) pc := by
  subst hi
  exact fun H locs ls hP hz hS hl => va_cald X.1 X.2.1 X.2.2.2.2.2.1 (hP.one he) 0 1 rfl rfl hin d (kk H locs ls hP hz hS hl)
theorem j_aald (X : Cx p s m args meth c cc nL own D B) {a n : Nat} {x : va_E} {f : Nat → Option Nat} {i : Int32} (he : h a = some x) (hi : x = .inl (D.2.1.2.2, (n, .inr (.inr (.inr (.inr f)))))) (hin : vp_in i n) (d : decode cc pc = .ok (.aaload, 1))
    (kk : J p l e R s m args below meth c D B nL Q cells slots z h L (va_rf (f i.toNatClampNeg) :: rest) (pc + 1)) : J p l e R s m args below meth c D B nL Q cells slots z h L (.int i :: .ref a :: rest) pc := by
  subst hi
  exact fun H locs ls hP hz hS hl => va_aldq X.1 X.2.1 X.2.2.2.2.2.1 (hP.one he) 0 2 rfl rfl hin d (kk H locs ls hP hz hS hl)
theorem j_iast (X : Cx p s m args meth c cc nL own D B) {a n : Nat} {x : va_E} {f : Nat → Int32} {i v : Int32} (he : h a = some x) (hi : x = .inl (D.2.1.1, (n, .inl f))) (hin : vp_in i n) (d : decode cc pc = .ok (.iastore, 1))
    (kk : J p l e R s m args below meth c D B nL Q cells slots z (hupd h a (.inl (D.2.1.1, (n, .inl (upd f i.toNatClampNeg v))))) L rest (pc + 1)) : J p l e R s m args below meth c D B nL Q cells slots z h L (.int v :: .int i :: .ref a :: rest) pc := by
  subst hi
  intro H locs ls hP hz hS hl
  refine W.iast X.1 X.2.1 (hP a _ he).2 ((X.2.2.2.2.2.1.2 0 _ rfl).1 n (fun j => .int (f j))) (fun q => by cases q) (by show ¬ (i < 0 ∨ (arrV _ _ _).slots.size ≤ _); rw [arrV_size]; exact hin) rfl rfl d fun H1 e1 e2 e3 => ?_
  refine kk H1 _ ls (hP.put (hP a _ he).1 ?_ e3) (e2.trans hz) (hS.put e2 e3 (hP a _ he).1) hl
  show H1[a]? = some (vp_cell _ _)
  rw [e1]
  rw [vp_cell_i, vp_cell_i, arrV_store]
  congr 2
  funext q
  by_cases hq : q = i.toNatClampNeg
  · subst hq
    simp [updV, upd]
  · simp [updV, upd, hq]
theorem j_cast (X : Cx p s m args meth c cc nL own D B) {a n : Nat} {x : va_E} {f : Nat → Int32} {i v : Int32} (he : h a = some x) (hi : x = .inl (D.2.1.2.1, (n, .inl f))) (hin : vp_in i n) (d : decode cc pc = .ok (.castore, 1))
    (kk : J p l e R s m args below meth c D B nL Q cells slots z (hupd h a (.inl (D.2.1.2.1, (n, .inl (upd f i.toNatClampNeg (vp_nar .char v)))))) L rest (pc + 1)) : J p l e R s m args below meth c D B nL Q cells slots z h L (.int v :: .int i :: .ref a :: rest) pc := by
  subst hi
  intro H locs ls hP hz hS hl
  refine W.cast X.1 X.2.1 (hP a _ he).2 ((X.2.2.2.2.2.1.2 1 _ rfl).1 n (fun j => .int (f j))) (fun q => by cases q) (by show ¬ (i < 0 ∨ (arrV _ _ _).slots.size ≤ _); rw [arrV_size]; exact hin) rfl rfl d fun H1 e1 e2 e3 => ?_
  refine kk H1 _ ls (hP.put (hP a _ he).1 ?_ e3) (e2.trans hz) (hS.put e2 e3 (hP a _ he).1) hl
  show H1[a]? = some (vp_cell _ _)
  rw [e1]
  rw [vp_cell_i, vp_cell_i, arrV_store]
  congr 2
  funext q
  by_cases hq : q = i.toNatClampNeg
  · subst hq
    simp [updV, upd, vp_nar]
    try rfl
  · simp [updV, upd, hq]
theorem j_alen (X : Cx p s m args meth c cc nL own D B) {a : Nat} {x : va_E} {k : Nat} {y : vp_A} {v : Int32} {q : ClassId × FieldType} (hk : (tysD D)[k]? = some q) (he : h a = some x) (hi : x = .inl (q.1, y)) (hv : Int32.ofNat y.1 = v) (d : decode cc pc = .ok (.arraylength, 1))
    (kk : J p l e R s m args below meth c D B nL Q cells slots z h L (.int v :: rest) (pc + 1)) : J p l e R s m args below meth c D B nL Q cells slots z h L (.ref a :: rest) pc := by
  subst hi
  exact fun H locs ls hP hz hS hl => va_alen X.1 X.2.1 X.2.2.2.2.2.1 (hP.one he) 0 k rfl hk hv d (kk H locs ls hP hz hS hl)
/-- the two tables of settings, which nobody writes -/
theorem j_getG (X : Cx p s m args meth c cc nL own D B) {i : Nat} (hlk : Cond.fieldLink own i "LearningRepeater" "GREATEST_SETTINGS" "[I" ∈ gtbl) (d : decode cc pc = .ok (.getstatic i, 3))
    (kk : J p l e R s m args below meth c D B nL Q cells slots z h L (.ref D.2.2.2 :: rest) (pc + 3)) : J p l e R s m args below meth c D B nL Q cells slots z h L rest pc :=
  fun H locs ls hP hz hS hl => va_gets X.1 X.2.1 X.2.2.2.2.2.2.2.1.2.1 hS X.2.2.2.1 (X.2.2.2.2.1 _ hlk) (fun _ q => q) d (kk H locs ls hP hz hS hl)
theorem j_getF (X : Cx p s m args meth c cc nL own D B) {i : Nat} (hlk : (own, i, "LearningRepeater", "FIRST_SETTINGS", "[I", "LearningRepeater") ∈ nestF) (d : decode cc pc = .ok (.getstatic i, 3))
    (kk : J p l e R s m args below meth c D B nL Q cells slots z h L (.ref D.2.2.1 :: rest) (pc + 3)) : J p l e R s m args below meth c D B nL Q cells slots z h L rest pc :=
  fun H locs ls hP hz hS hl => va_getsN X.1 X.2.1 X.2.2.2.2.2.2.2.1.1.1 hS X.2.2.2.1 (va_Nw.use rfl (X.2.2.2.2.2.2.1.1 _ hlk)) (fun _ q => q) d (kk H locs ls hP hz hS hl)
theorem j_ldG (X : Cx p s m args meth c cc nL own D B) {i : Int32} (hin : vp_in i 4) (d : decode cc pc = .ok (.iaload, 1))
    (kk : J p l e R s m args below meth c D B nL Q cells slots z h L (.int (fsG i.toNatClampNeg) :: rest) (pc + 1)) : J p l e R s m args below meth c D B nL Q cells slots z h L (.int i :: .ref D.2.2.2 :: rest) pc :=
  fun H locs ls hP hz hS hl => va_ti X.1 X.2.1 X.2.2.2.2.2.2.2.1.2.2 hS hin rfl d (kk H locs ls hP hz hS hl)
theorem j_ldF (X : Cx p s m args meth c cc nL own D B) {i : Int32} (hin : vp_in i 4) (d : decode cc pc = .ok (.iaload, 1))
    (kk : J p l e R s m args below meth c D B nL Q cells slots z h L (.int (fsF i.toNatClampNeg) :: rest) (pc + 1)) : J p l e R s m args below meth c D B nL Q cells slots z h L (.int i :: .ref D.2.2.1 :: rest) pc :=
  fun H locs ls hP hz hS hl => va_ti X.1 X.2.1 X.2.2.2.2.2.2.2.1.1.2 hS hin rfl d (kk H locs ls hP hz hS hl)
theorem j_lenG (X : Cx p s m args meth c cc nL own D B) (d : decode cc pc = .ok (.arraylength, 1))
    (kk : J p l e R s m args below meth c D B nL Q cells slots z h L (.int 4 :: rest) (pc + 1)) : J p l e R s m args below meth c D B nL Q cells slots z h L (.ref D.2.2.2 :: rest) pc :=
  fun H locs ls hP hz hS hl => va_tlen X.1 X.2.1 X.2.2.2.2.2.2.2.1.2.2 hS rfl d (kk H locs ls hP hz hS hl)
theorem j_lenF (X : Cx p s m args meth c cc nL own D B) (d : decode cc pc = .ok (.arraylength, 1))
    (kk : J p l e R s m args below meth c D B nL Q cells slots z h L (.int 4 :: rest) (pc + 1)) : J p l e R s m args below meth c D B nL Q cells slots z h L (.ref D.2.2.1 :: rest) pc :=
  fun H locs ls hP hz hS hl => va_tlen X.1 X.2.1 X.2.2.2.2.2.2.2.1.1.2 hS rfl d (kk H locs ls hP hz hS hl)
end JH
