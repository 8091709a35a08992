section JP
variable {p : Program} {l : Launch} {e : Env} {R : Room} {s : State} {m : MethodId} {args : Array Value} {below : List Frame} {meth : Method} {c : Code} {cc : ByteArray} {nL : Nat} {own : String} {D : DD} {B : Nat} {Q : State → Prop} {cells slots z : Nat} {h h' : HF} {L L' : List (Nat × Value)} {st rest : List Value} {pc : Nat}
theorem j_newi (X : Cx p s m args meth c cc nL own D B) {n : Int32} {N : Nat} (hn : ¬ n < 0) (hN : n.toNatClampNeg = N) (hb : N * 4 ≤ 536870912) (hR : cells + 1 ≤ R.cells ∧ slots + N ≤ R.slots) (d : decode cc pc = .ok (.newarray .int, 2))
    (kk : J p l e R s m args below meth c D B nL Q (cells + 1) (slots + N) (z + 1) (hupd h z (.inl (D.2.1.1, (N, .inl (fun _ => 0))))) L (.ref z :: rest) (pc + 2)) : J p l e R s m args below meth c D B nL Q cells slots z h L (.int n :: rest) pc := by
  intro H locs ls hP hz hS hl
  have hBz : B ≤ z := by rw [← hz]; exact Nat.le_trans X.2.2.2.2.2.2.2.2.1 hS.1
  refine va_newaK X.1 X.2.1 (atype := .int) (X.2.2.2.2.1 _ kZ_1) (g := F0 m pc ls (.int n :: rest)) rfl d rfl hn hN hb hR.1 hR.2 hz fun H1 cA e1 z1 o1 hAr hNm => ?_
  have hra := (X.2.2.2.2.2.1.2 0 _ rfl).2
  have hcA : cA = D.2.1.1 := Option.some.inj (hNm.symm.trans hra)
  subst hcA
  refine kk H1 _ ls (hP.push hBz hz ?_ o1) z1 ⟨Nat.le_trans hS.1 (by omega), fun x h1 h2 => (o1 x (by have := hS.1; omega)).trans (hS.2.1 x h1 h2), hS.2.2⟩ hl
  show H1[z]? = some (vp_cell _ _)
  rw [vp_cell_i]
  exact e1
theorem j_newc (X : Cx p s m args meth c cc nL own D B) {n : Int32} {N : Nat} (hn : ¬ n < 0) (hN : n.toNatClampNeg = N) (hb : N * 2 ≤ 536870912) (hR : cells + 1 ≤ R.cells ∧ slots + N ≤ R.slots) (d : decode cc pc = .ok (.newarray .char, 2))
    (kk : J p l e R s m args below meth c D B nL Q (cells + 1) (slots + N) (z + 1) (hupd h z (.inl (D.2.1.2.1, (N, .inl (fun _ => 0))))) L (.ref z :: rest) (pc + 2)) : J p l e R s m args below meth c D B nL Q cells slots z h L (.int n :: rest) pc := by
  intro H locs ls hP hz hS hl
  have hBz : B ≤ z := by rw [← hz]; exact Nat.le_trans X.2.2.2.2.2.2.2.2.1 hS.1
  refine va_newaK X.1 X.2.1 (atype := .char) (X.2.2.2.2.1 _ kZ_3) (g := F0 m pc ls (.int n :: rest)) rfl d rfl hn hN hb hR.1 hR.2 hz fun H1 cA e1 z1 o1 hAr hNm => ?_
  have hra := (X.2.2.2.2.2.1.2 1 _ rfl).2
  have hcA : cA = D.2.1.2.1 := Option.some.inj (hNm.symm.trans hra)
  subst hcA
  refine kk H1 _ ls (hP.push hBz hz ?_ o1) z1 ⟨Nat.le_trans hS.1 (by omega), fun x h1 h2 => (o1 x (by have := hS.1; omega)).trans (hS.2.1 x h1 h2), hS.2.2⟩ hl
  show H1[z]? = some (vp_cell _ _)
  rw [vp_cell_i]
  exact e1
theorem j_newS (X : Cx p s m args meth c cc nL own D B) {i : Nat} {n : Int32} {N : Nat} (kL : Cond.classLink own i "LearningRepeater$State" ∈ gtbl) (hn : ¬ n < 0) (hN : n.toNatClampNeg = N) (hb : N * 4 ≤ 536870912) (hR : cells + 1 ≤ R.cells ∧ slots + N ≤ R.slots) (d : decode cc pc = .ok (.anewarray i, 3))
    (kk : J p l e R s m args below meth c D B nL Q (cells + 1) (slots + N) (z + 1) (hupd h z (.inl (D.2.1.2.2, (N, .inr (.inr (.inr (.inr (fun _ => none)))))))) L (.ref z :: rest) (pc + 3)) : J p l e R s m args below meth c D B nL Q cells slots z h L (.int n :: rest) pc := by
  intro H locs ls hP hz hS hl
  have hBz : B ≤ z := by rw [← hz]; exact Nat.le_trans X.2.2.2.2.2.2.2.2.1 hS.1
  subst hN
  refine W.anew X.1 X.2.1 X.2.2.2.1 (X.2.2.2.2.1 _ kL) (va_AO.use X.2.2.2.2.2.2.1.2.2) (g := F0 m pc ls (.int n :: rest)) rfl d rfl hn hb hR.1 hR.2 fun cA kA comp f1 f2 f3 f4 => ?_
  obtain ⟨kA', comp', g1, g2, g3, g4⟩ := (X.2.2.2.2.2.1.2 2 _ rfl).2
  have hcA : cA = D.2.1.2.2 := Option.some.inj (f1.symm.trans g4)
  subst hcA
  generalize hH1 : H.push ({ cls := D.2.1.2.2, slots := Array.replicate n.toNatClampNeg .null, vm := .none } : Cell) = H1
  have z1 : H1.size = z + 1 := by rw [← hH1, Array.size_push, hz]
  have e1 : H1[z]? = some (arrV D.2.1.2.2 n.toNatClampNeg (fun _ => .null)) := by rw [← hH1, ← hz, Array.getElem?_push_size, ← arrV_new]
  have o1 : ∀ q : Nat, q < z → H1[q]? = H[q]? := fun q hq => by rw [← hH1, Array.getElem?_push, if_neg (by omega)]
  rw [show Value.ref H.size = Value.ref z by rw [hz]]
  refine kk H1 _ ls (hP.push hBz hz ?_ o1) z1 ⟨Nat.le_trans hS.1 (by omega), fun x h1 h2 => (o1 x (by have := hS.1; omega)).trans (hS.2.1 x h1 h2), hS.2.2⟩ hl
  show H1[z]? = some (vp_cell _ _)
  rw [vp_cell_q]
  exact e1
theorem j_aast (X : Cx p s m args meth c cc nL own D B) {a n v : Nat} {x y : va_E} {f : Nat → Option Nat} {vs : List Value} {i : Int32} (he : h a = some x) (hi : x = .inl (D.2.1.2.2, (n, .inr (.inr (.inr (.inr f)))))) (hv : h v = some y) (hy : y = .inr (6, vs)) (hin : vp_in i n) (d : decode cc pc = .ok (.aastore, 1))
    (kk : J p l e R s m args below meth c D B nL Q cells slots z (hupd h a (.inl (D.2.1.2.2, (n, .inr (.inr (.inr (.inr (va_up f i.toNatClampNeg (some v))))))))) L rest (pc + 1)) : J p l e R s m args below meth c D B nL Q cells slots z h L (.ref v :: .int i :: .ref a :: rest) pc := by
  subst hi hy
  intro H locs ls hP hz hS hl
  have hlt : i.toNatClampNeg < n := Nat.not_le.mp fun q => hin (Or.inr q)
  have h0 : ¬ i < 0 := fun q => hin (Or.inl q)
  obtain ⟨-, r', hr', cellV, g1, g2, g3, -⟩ := hP v _ hv
  have hcls := (X.2.2.2.2.2.1.1 6 _ rfl).2
  obtain ⟨kA, comp, k1, k2, k3, -⟩ := (X.2.2.2.2.2.1.2 2 _ rfl).2
  have hcomp : comp = D.1.1 6 := Option.some.inj (k3.symm.trans hcls.1)
  subst hcomp
  obtain ⟨kC, hkC, -⟩ := hcls.2
  refine W.aast X.1 X.2.1 (hP a _ he).2 (fun q h => by cases h) (fun h => by cases h) k1 k2 rfl hkC ⟨h0, by show _ < (arrV _ _ _).slots.size; rw [arrV_size]; exact hlt⟩ g1 (fun q h => by rw [g3] at h; cases h) (by rw [g2]; exact hkC) (by rw [g2]; exact va_assign hcls) rfl rfl d fun H1 e1 e2 e3 => ?_
  refine kk H1 _ ls (hP.put (hP a _ he).1 ?_ e3) (e2.trans hz) (hS.put e2 e3 (hP a _ he).1) hl
  show H1[a]? = some (vp_cell _ _)
  rw [e1]
  rw [vp_cell_q, vp_cell_q, arrV_store]
  congr 2
  funext q
  by_cases hq : q = i.toNatClampNeg
  · subst hq
    simp [updV, va_up, va_rf]
  · simp [updV, va_up, hq]
set_option maxHeartbeats 1000000 in
theorem j_copyi (X : Cx p s m args meth c cc nL own D B) {a a0 i n0 n1 : Nat} {x0 x1 : va_E} {f g : Nat → Int32} {sp dp n : Int32} (kM : Cond.methodLink own i arraycopyName ∈ gtbl) (he0 : h a0 = some x0) (hi0 : x0 = .inl (D.2.1.1, (n0, .inl f))) (he1 : h a = some x1) (hi1 : x1 = .inl (D.2.1.1, (n1, .inl g)))
    (h1 : ¬ sp < 0) (h2 : ¬ dp < 0) (h3 : ¬ n < 0) (h4 : sp.toNatClampNeg + n.toNatClampNeg ≤ n0) (h5 : dp.toNatClampNeg + n.toNatClampNeg ≤ n1) (hR : 1 ≤ R.frames ∧ (rest.map fun v => v.category).sum + (nativeFrameWords "java/lang/System" "arraycopy" 5 + 11) ≤ R.locals) (d : decode cc pc = .ok (.invokestatic i, 3))
    (kk : J p l e R s m args below meth c D B nL Q cells slots z (hupd h a (.inl (D.2.1.1, (n1, .inl (va_cpy f g sp.toNatClampNeg dp.toNatClampNeg n.toNatClampNeg))))) L rest (pc + 3)) : J p l e R s m args below meth c D B nL Q cells slots z h L (.int n :: .int dp :: .ref a :: .int sp :: .ref a0 :: rest) pc := by
  subst hi0 hi1
  intro H locs ls hP hz hS hl
  have nn : ∀ w : Int32, ¬ w < 0 → w.toInt = (w.toNatClampNeg : Int) := by
    intro w hw
    have hw0 : (0 : Int) ≤ w.toInt := by
      have := Int32.not_lt.mp hw
      simpa using Int32.le_iff_toInt_le.mp this
    show w.toInt = ((w.toInt.toNat : Nat) : Int)
    omega
  intro T hT XS
  have hc0 : H[a0]? = some (vp_cell D.2.1.1 (n0, .inl f)) := (hP a0 _ he0).2
  have hc1 : H[a]? = some (vp_cell D.2.1.1 (n1, .inl g)) := (hP a _ he1).2
  obtain ⟨-, k0, hk0, cm0, hkk0⟩ := (X.2.2.2.2.2.1.2 0 _ rfl).1 n0 (fun j => .int (f j))
  obtain ⟨-, k1, hk1, cm1, hkk1⟩ := (X.2.2.2.2.2.1.2 0 _ rfl).1 n1 (fun j => .int (g j))
  obtain ⟨vm', X', step⟩ := XS.arraycopy X.1 X.2.2.2.1 (X.2.2.2.2.1 _ kM) (X.2.2.2.2.1 _ kN_arraycopyName) (X.2.2.2.2.1 _ kT_arraycopyName) (X.2.2.2.2.1 _ kI_RJ10) (src := a0) (dst := a) (cs := vp_cell D.2.1.1 (n0, .inl f)) (cd := vp_cell D.2.1.1 (n1, .inl g)) (srcPos := sp) (destPos := dp) (n := n) (by rw [hT]; exact hc0) (by rw [hT]; exact hc1)
    (fun _ h => by cases h) (fun _ h => by cases h) (fun h => by cases h) (fun h => by cases h) hk0 hk1 hkk0 hkk1 (by simp [refKind]) h1 h2 h3
    (by rw [nn sp h1, nn n h3]; show ¬ _ > ((arrV D.2.1.1 n0 (fun j => .int (f j))).slots.size : Int); rw [arrV_size]; omega)
    (by rw [nn dp h2, nn n h3]; show ¬ _ > ((arrV D.2.1.1 n1 (fun j => .int (g j))).slots.size : Int); rw [arrV_size]; omega)
    (fun vm₁ _ i hi => by
      have e : (vp_cell D.2.1.1 (n0, .inl f)).slots.getD (sp.toNatClampNeg + i) .null = .int (f (sp.toNatClampNeg + i)) := by
        show (arrV D.2.1.1 n0 (fun j => .int (f j))).slots.getD _ _ = _
        rw [Array.getD_eq_getD_getElem?, arrV_read _ _ (by omega)]
        rfl
      refine ⟨?_, ?_⟩
      · rw [e]
        rfl
      · rw [e]
        exact trivial)
    (g := F0 m pc ls (.int n :: .int dp :: .ref a :: .int sp :: .ref a0 :: rest)) rfl (by rw [X.2.2.1]; exact hl.1) (rest := rest) rfl (by rw [X.2.1]; exact d) hR.1 (by show 2 * 0 + _ + _ ≤ _; have := hR.2; omega)
  have e1 : copied (vp_cell D.2.1.1 (n0, .inl f)) (vp_cell D.2.1.1 (n1, .inl g)) sp dp n = vp_cell D.2.1.1 (n1, .inl (va_cpy f g sp.toNatClampNeg dp.toNatClampNeg n.toNatClampNeg)) := va_copied (fun z => .int z) D.2.1.1 D.2.1.1 f g h4
  rw [e1] at X' step
  have hlt : a < H.size := (Array.getElem?_eq_some_iff.mp hc1).1
  have hheap : ((T.setVm vm').setCell a (vp_cell D.2.1.1 (n1, .inl (va_cpy f g sp.toNatClampNeg dp.toNatClampNeg n.toNatClampNeg)))).heap = H.setIfInBounds a (vp_cell D.2.1.1 (n1, .inl (va_cpy f g sp.toNatClampNeg dp.toNatClampNeg n.toNatClampNeg))) := by rw [← hT]; rfl
  have oq : ∀ q : Nat, q ≠ a → (H.setIfInBounds a (vp_cell D.2.1.1 (n1, .inl (va_cpy f g sp.toNatClampNeg dp.toNatClampNeg n.toNatClampNeg))))[q]? = H[q]? := fun q hq => by simp [Array.getElem?_setIfInBounds, Ne.symm hq]
  obtain ⟨t, a1, b1⟩ := kk _ _ ls (hP.put (hP a _ he1).1 (show (H.setIfInBounds a _)[a]? = some _ by simp [Array.getElem?_setIfInBounds, hlt]) oq) (by simp [hz]) ⟨by simp; exact hS.1, fun q g1 g2 => by
      rw [oq q (fun e => g2 (by rw [e]; exact (hP a _ he1).1))]
      exact hS.2.1 q g1 g2, fun q hq => by
      rcases List.mem_append.mp hq with h | h
      · exact hS.2.2 q h
      · obtain ⟨w, -, hw⟩ := List.mem_map.mp h
        rw [← hw]
        exact (hP a _ he1).1⟩ hl _ hheap X'
  exact ⟨t, step t a1, b1⟩
end JP
