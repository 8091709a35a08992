section JR
variable {p : Program} {l : Launch} {e : Env} {R : Room} {s : State} {m : MethodId} {args : Array Value} {below : List Frame} {meth : Method} {c : Code} {cc : ByteArray} {nL : Nat} {own : String} {D : DD} {B : Nat} {Q : State → Prop} {cells slots z : Nat} {h : HF} {L L' : List (Nat × Value)} {st rest : List Value} {pc : Nat}
theorem j_iadd (X : Cx p s m args meth c cc nL own D B) {x y : Int32} (d : decode cc pc = .ok (.iadd, 1)) (kk : J p l e R s m args below meth c D B nL Q cells slots z h L (.int (x + y) :: rest) (pc + 1)) : J p l e R s m args below meth c D B nL Q cells slots z h L (.int y :: .int x :: rest) pc :=
  fun H locs ls hP hz hS hl => lv_iadd X.1 X.2.1 d (kk H locs ls hP hz hS hl)
theorem j_isub (X : Cx p s m args meth c cc nL own D B) {x y : Int32} (d : decode cc pc = .ok (.isub, 1)) (kk : J p l e R s m args below meth c D B nL Q cells slots z h L (.int (x - y) :: rest) (pc + 1)) : J p l e R s m args below meth c D B nL Q cells slots z h L (.int y :: .int x :: rest) pc :=
  fun H locs ls hP hz hS hl => lv_isub X.1 X.2.1 d (kk H locs ls hP hz hS hl)
theorem j_imul (X : Cx p s m args meth c cc nL own D B) {x y : Int32} (d : decode cc pc = .ok (.imul, 1)) (kk : J p l e R s m args below meth c D B nL Q cells slots z h L (.int (x * y) :: rest) (pc + 1)) : J p l e R s m args below meth c D B nL Q cells slots z h L (.int y :: .int x :: rest) pc :=
  fun H locs ls hP hz hS hl => lv_imul X.1 X.2.1 d (kk H locs ls hP hz hS hl)
theorem j_iand (X : Cx p s m args meth c cc nL own D B) {x y : Int32} (d : decode cc pc = .ok (.iand, 1)) (kk : J p l e R s m args below meth c D B nL Q cells slots z h L (.int (x &&& y) :: rest) (pc + 1)) : J p l e R s m args below meth c D B nL Q cells slots z h L (.int y :: .int x :: rest) pc :=
  fun H locs ls hP hz hS hl => lv_iand X.1 X.2.1 d (kk H locs ls hP hz hS hl)
theorem j_ior (X : Cx p s m args meth c cc nL own D B) {x y : Int32} (d : decode cc pc = .ok (.ior, 1)) (kk : J p l e R s m args below meth c D B nL Q cells slots z h L (.int (x ||| y) :: rest) (pc + 1)) : J p l e R s m args below meth c D B nL Q cells slots z h L (.int y :: .int x :: rest) pc :=
  fun H locs ls hP hz hS hl => lv_ior X.1 X.2.1 d (kk H locs ls hP hz hS hl)
theorem j_ixor (X : Cx p s m args meth c cc nL own D B) {x y : Int32} (d : decode cc pc = .ok (.ixor, 1)) (kk : J p l e R s m args below meth c D B nL Q cells slots z h L (.int (x ^^^ y) :: rest) (pc + 1)) : J p l e R s m args below meth c D B nL Q cells slots z h L (.int y :: .int x :: rest) pc :=
  fun H locs ls hP hz hS hl => lv_ixor X.1 X.2.1 d (kk H locs ls hP hz hS hl)
theorem j_ishl (X : Cx p s m args meth c cc nL own D B) {x y : Int32} (d : decode cc pc = .ok (.ishl, 1)) (kk : J p l e R s m args below meth c D B nL Q cells slots z h L (.int (x <<< (y &&& 31)) :: rest) (pc + 1)) : J p l e R s m args below meth c D B nL Q cells slots z h L (.int y :: .int x :: rest) pc :=
  fun H locs ls hP hz hS hl => lv_ishl X.1 X.2.1 d (kk H locs ls hP hz hS hl)
theorem j_ishr (X : Cx p s m args meth c cc nL own D B) {x y : Int32} (d : decode cc pc = .ok (.ishr, 1)) (kk : J p l e R s m args below meth c D B nL Q cells slots z h L (.int (x >>> (y &&& 31)) :: rest) (pc + 1)) : J p l e R s m args below meth c D B nL Q cells slots z h L (.int y :: .int x :: rest) pc :=
  fun H locs ls hP hz hS hl => lv_ishr X.1 X.2.1 d (kk H locs ls hP hz hS hl)
theorem j_iushr (X : Cx p s m args meth c cc nL own D B) {x y : Int32} (d : decode cc pc = .ok (.iushr, 1)) (kk : J p l e R s m args below meth c D B nL Q cells slots z h L (.int (x.toUInt32 >>> (y.toUInt32 &&& Int32.toUInt32 31)).toInt32 :: rest) (pc + 1)) : J p l e R s m args below meth c D B nL Q cells slots z h L (.int y :: .int x :: rest) pc :=
  fun H locs ls hP hz hS hl => lv_iushr X.1 X.2.1 d rfl (kk H locs ls hP hz hS hl)
theorem j_idiv (X : Cx p s m args meth c cc nL own D B) {x y : Int32} (d : decode cc pc = .ok (.idiv, 1)) (hne : ¬ y = 0) (kk : J p l e R s m args below meth c D B nL Q cells slots z h L (.int (x / y) :: rest) (pc + 1)) : J p l e R s m args below meth c D B nL Q cells slots z h L (.int y :: .int x :: rest) pc :=
  fun H locs ls hP hz hS hl => lv_idiv X.1 X.2.1 d hne (kk H locs ls hP hz hS hl)
theorem j_irem (X : Cx p s m args meth c cc nL own D B) {x y : Int32} (d : decode cc pc = .ok (.irem, 1)) (hne : ¬ y = 0) (kk : J p l e R s m args below meth c D B nL Q cells slots z h L (.int (x - x / y * y) :: rest) (pc + 1)) : J p l e R s m args below meth c D B nL Q cells slots z h L (.int y :: .int x :: rest) pc :=
  fun H locs ls hP hz hS hl => lv_irem X.1 X.2.1 d hne (kk H locs ls hP hz hS hl)
theorem j_i2c (X : Cx p s m args meth c cc nL own D B) {x : Int32} (d : decode cc pc = .ok (.i2c, 1)) (kk : J p l e R s m args below meth c D B nL Q cells slots z h L (.int (x.toUInt32 % 65536).toInt32 :: rest) (pc + 1)) : J p l e R s m args below meth c D B nL Q cells slots z h L (.int x :: rest) pc :=
  fun H locs ls hP hz hS hl => lv_i2c X.1 X.2.1 d rfl (kk H locs ls hP hz hS hl)
theorem j_dup (X : Cx p s m args meth c cc nL own D B) {v : Value} (d : decode cc pc = .ok (.dup, 1)) (hv : v.category = 1) (kk : J p l e R s m args below meth c D B nL Q cells slots z h L (v :: v :: rest) (pc + 1)) : J p l e R s m args below meth c D B nL Q cells slots z h L (v :: rest) pc :=
  fun H locs ls hP hz hS hl => lv_dup X.1 X.2.1 d hv (kk H locs ls hP hz hS hl)
theorem j_dup2 (X : Cx p s m args meth c cc nL own D B) {v w : Value} (d : decode cc pc = .ok (.dup2, 1)) (hv : v.category = 1) (hw : w.category = 1) (kk : J p l e R s m args below meth c D B nL Q cells slots z h L (v :: w :: v :: w :: rest) (pc + 1)) : J p l e R s m args below meth c D B nL Q cells slots z h L (v :: w :: rest) pc :=
  fun H locs ls hP hz hS hl => lv_dup2_11 X.1 X.2.1 d hv hw (kk H locs ls hP hz hS hl)
theorem j_pop (X : Cx p s m args meth c cc nL own D B) {v : Value} (d : decode cc pc = .ok (.pop, 1)) (hv : v.category = 1) (kk : J p l e R s m args below meth c D B nL Q cells slots z h L (rest) (pc + 1)) : J p l e R s m args below meth c D B nL Q cells slots z h L (v :: rest) pc :=
  fun H locs ls hP hz hS hl => lv_pop X.1 X.2.1 d hv (kk H locs ls hP hz hS hl)
theorem j_null (X : Cx p s m args meth c cc nL own D B)  (d : decode cc pc = .ok (.aconst_null, 1)) (kk : J p l e R s m args below meth c D B nL Q cells slots z h L (.null :: rest) (pc + 1)) : J p l e R s m args below meth c D B nL Q cells slots z h L (rest) pc :=
  fun H locs ls hP hz hS hl => lv_null X.1 X.2.1 d (kk H locs ls hP hz hS hl)
theorem j_iconst (X : Cx p s m args meth c cc nL own D B) {n : Int} {v : Int32} (d : decode cc pc = .ok (.iconst n, 1)) (hv : Int32.ofInt n = v) (kk : J p l e R s m args below meth c D B nL Q cells slots z h L (.int v :: rest) (pc + 1)) : J p l e R s m args below meth c D B nL Q cells slots z h L (rest) pc :=
  fun H locs ls hP hz hS hl => lv_iconst X.1 X.2.1 d hv (kk H locs ls hP hz hS hl)
theorem j_bipush (X : Cx p s m args meth c cc nL own D B) {n : Int} {v : Int32} (d : decode cc pc = .ok (.bipush n, 2)) (hv : (Int8.ofInt n).toInt32 = v) (kk : J p l e R s m args below meth c D B nL Q cells slots z h L (.int v :: rest) (pc + 2)) : J p l e R s m args below meth c D B nL Q cells slots z h L (rest) pc :=
  fun H locs ls hP hz hS hl => lv_bipush X.1 X.2.1 d hv (kk H locs ls hP hz hS hl)
theorem j_sipush (X : Cx p s m args meth c cc nL own D B) {n : Int} {v : Int32} (d : decode cc pc = .ok (.sipush n, 3)) (hv : (Int16.ofInt n).toInt32 = v) (kk : J p l e R s m args below meth c D B nL Q cells slots z h L (.int v :: rest) (pc + 3)) : J p l e R s m args below meth c D B nL Q cells slots z h L (rest) pc :=
  fun H locs ls hP hz hS hl => lv_sipush X.1 X.2.1 d hv (kk H locs ls hP hz hS hl)
theorem j_ldcw (X : Cx p s m args meth c cc nL own D B) {i : Nat} {v : Int32} (k : Cond.constant own i v ∈ gtbl) (d : decode cc pc = .ok (.ldc_w i, 3)) (kk : J p l e R s m args below meth c D B nL Q cells slots z h L (.int v :: rest) (pc + 3)) : J p l e R s m args below meth c D B nL Q cells slots z h L rest pc :=
  fun H locs ls hP hz hS hl => lv_ldcw X.1 X.2.1 X.2.2.2.1 (X.2.2.2.2.1 _ k) d (kk H locs ls hP hz hS hl)
theorem j_iload (X : Cx p s m args meth c cc nL own D B) (q : Nat) {i : Nat} {x : Int32} (d : decode cc pc = .ok (.iload i, 2)) (hq : L[q]? = some (i, .int x)) (kk : J p l e R s m args below meth c D B nL Q cells slots z h L (.int x :: rest) (pc + 2)) : J p l e R s m args below meth c D B nL Q cells slots z h L rest pc :=
  fun H locs ls hP hz hS hl => lv_iload X.1 X.2.1 d (lv_at hl q hq) (kk H locs ls hP hz hS hl)
theorem j_iload_n (X : Cx p s m args meth c cc nL own D B) (q : Nat) {i : Nat} {k : Fin 4} {x : Int32} (d : decode cc pc = .ok (.iload_n k, 1)) (hi : (k : Nat) = i) (hq : L[q]? = some (i, .int x)) (kk : J p l e R s m args below meth c D B nL Q cells slots z h L (.int x :: rest) (pc + 1)) : J p l e R s m args below meth c D B nL Q cells slots z h L rest pc :=
  fun H locs ls hP hz hS hl => lv_iload_n X.1 X.2.1 d hi (lv_at hl q hq) (kk H locs ls hP hz hS hl)
theorem j_aload (X : Cx p s m args meth c cc nL own D B) (q : Nat) {i : Nat} {x : Nat} (d : decode cc pc = .ok (.aload i, 2)) (hq : L[q]? = some (i, .ref x)) (kk : J p l e R s m args below meth c D B nL Q cells slots z h L (.ref x :: rest) (pc + 2)) : J p l e R s m args below meth c D B nL Q cells slots z h L rest pc :=
  fun H locs ls hP hz hS hl => lv_aload X.1 X.2.1 d (lv_at hl q hq) (kk H locs ls hP hz hS hl)
theorem j_aload_n (X : Cx p s m args meth c cc nL own D B) (q : Nat) {i : Nat} {k : Fin 4} {x : Nat} (d : decode cc pc = .ok (.aload_n k, 1)) (hi : (k : Nat) = i) (hq : L[q]? = some (i, .ref x)) (kk : J p l e R s m args below meth c D B nL Q cells slots z h L (.ref x :: rest) (pc + 1)) : J p l e R s m args below meth c D B nL Q cells slots z h L rest pc :=
  fun H locs ls hP hz hS hl => lv_aload_n X.1 X.2.1 d hi (lv_at hl q hq) (kk H locs ls hP hz hS hl)
theorem j_istore (X : Cx p s m args meth c cc nL own D B) {i : Nat} {x : Int32} (d : decode cc pc = .ok (.istore i, 2)) (hn : i < nL) (hl' : (i, Value.int x) :: L.filter (fun q => !(q.1 == i) && !(q.1 + 1 == i && q.2.category == 2)) = L') (kk : J p l e R s m args below meth c D B nL Q cells slots z h L' rest (pc + 2)) : J p l e R s m args below meth c D B nL Q cells slots z h L (.int x :: rest) pc :=
  fun H locs ls hP hz hS hl => lv_istore X.1 X.2.1 d hl hn hl' (fun ls2 h2 => kk H locs ls2 hP hz hS h2)
theorem j_istore_n (X : Cx p s m args meth c cc nL own D B) {i : Nat} {k : Fin 4} {x : Int32} (d : decode cc pc = .ok (.istore_n k, 1)) (hi : (k : Nat) = i) (hn : i < nL) (hl' : (i, Value.int x) :: L.filter (fun q => !(q.1 == i) && !(q.1 + 1 == i && q.2.category == 2)) = L') (kk : J p l e R s m args below meth c D B nL Q cells slots z h L' rest (pc + 1)) : J p l e R s m args below meth c D B nL Q cells slots z h L (.int x :: rest) pc :=
  fun H locs ls hP hz hS hl => lv_istore_n X.1 X.2.1 d hi hl hn hl' (fun ls2 h2 => kk H locs ls2 hP hz hS h2)
theorem j_astore (X : Cx p s m args meth c cc nL own D B) {i : Nat} {x : Nat} (d : decode cc pc = .ok (.astore i, 2)) (hn : i < nL) (hl' : (i, Value.ref x) :: L.filter (fun q => !(q.1 == i) && !(q.1 + 1 == i && q.2.category == 2)) = L') (kk : J p l e R s m args below meth c D B nL Q cells slots z h L' rest (pc + 2)) : J p l e R s m args below meth c D B nL Q cells slots z h L (.ref x :: rest) pc :=
  fun H locs ls hP hz hS hl => lv_astore X.1 X.2.1 d hl hn hl' (fun ls2 h2 => kk H locs ls2 hP hz hS h2)
theorem j_astore_n (X : Cx p s m args meth c cc nL own D B) {i : Nat} {k : Fin 4} {x : Nat} (d : decode cc pc = .ok (.astore_n k, 1)) (hi : (k : Nat) = i) (hn : i < nL) (hl' : (i, Value.ref x) :: L.filter (fun q => !(q.1 == i) && !(q.1 + 1 == i && q.2.category == 2)) = L') (kk : J p l e R s m args below meth c D B nL Q cells slots z h L' rest (pc + 1)) : J p l e R s m args below meth c D B nL Q cells slots z h L (.ref x :: rest) pc :=
  fun H locs ls hP hz hS hl => lv_astore_n X.1 X.2.1 d hi hl hn hl' (fun ls2 h2 => kk H locs ls2 hP hz hS h2)
theorem j_astoreN_n (X : Cx p s m args meth c cc nL own D B) {i : Nat} {k : Fin 4} (d : decode cc pc = .ok (.astore_n k, 1)) (hi : (k : Nat) = i) (hn : i < nL) (hl' : (i, Value.null) :: L.filter (fun q => !(q.1 == i) && !(q.1 + 1 == i && q.2.category == 2)) = L') (kk : J p l e R s m args below meth c D B nL Q cells slots z h L' rest (pc + 1)) : J p l e R s m args below meth c D B nL Q cells slots z h L (.null :: rest) pc :=
  fun H locs ls hP hz hS hl => lv_astore_nN X.1 X.2.1 d hi hl hn hl' (fun ls2 h2 => kk H locs ls2 hP hz hS h2)
theorem j_aloadN_n (X : Cx p s m args meth c cc nL own D B) (q : Nat) {i : Nat} {k : Fin 4} (d : decode cc pc = .ok (.aload_n k, 1)) (hi : (k : Nat) = i) (hq : L[q]? = some (i, .null)) (kk : J p l e R s m args below meth c D B nL Q cells slots z h L (.null :: rest) (pc + 1)) : J p l e R s m args below meth c D B nL Q cells slots z h L rest pc :=
  fun H locs ls hP hz hS hl => lv_aload_nN X.1 X.2.1 d hi (lv_at hl q hq) (kk H locs ls hP hz hS hl)
theorem j_iinc (X : Cx p s m args meth c cc nL own D B) (q : Nat) {i : Nat} {n : Int} {x v k : Int32} (d : decode cc pc = .ok (.iinc i n, 3)) (hq : L[q]? = some (i, .int x)) (hk : Int32.ofInt n = k) (hn : i < nL) (hv : x + k = v) (hl' : (i, Value.int v) :: L.filter (fun q => !(q.1 == i) && !(q.1 + 1 == i && q.2.category == 2)) = L') (kk : J p l e R s m args below meth c D B nL Q cells slots z h L' rest (pc + 3)) : J p l e R s m args below meth c D B nL Q cells slots z h L rest pc :=
  fun H locs ls hP hz hS hl => lv_iinc X.1 X.2.1 d hl hq (by rw [hk]; exact hv) hn hl' (fun ls2 h2 => kk H locs ls2 hP hz hS h2)
theorem j_top {x : Int32} (kk : ∀ v : Int32, v = x → J p l e R s m args below meth c D B nL Q cells slots z h L (.int v :: rest) pc) : J p l e R s m args below meth c D B nL Q cells slots z h L (.int x :: rest) pc := kk x rfl
theorem j_goto (X : Cx p s m args meth c cc nL own D B) {off : Int} {tgt : Nat} (d : decode cc pc = .ok (.goto off, 3)) (ht : (pc : Int) + off = (tgt : Int)) (kk : J p l e R s m args below meth c D B nL Q cells slots z h L rest tgt) : J p l e R s m args below meth c D B nL Q cells slots z h L rest pc :=
  fun H locs ls hP hz hS hl => lv_goto X.1 X.2.1 d ht (kk H locs ls hP hz hS hl)
theorem j_if_eq (X : Cx p s m args meth c cc nL own D B) {x : Int32} {off : Int} {tgt : Nat} (d : decode cc pc = .ok (.ifCond .eq off, 3)) (ht : (pc : Int) + off = (tgt : Int)) (kt : x = 0 → J p l e R s m args below meth c D B nL Q cells slots z h L rest tgt) (kf : ¬ x = 0 → J p l e R s m args below meth c D B nL Q cells slots z h L rest (pc + 3)) : J p l e R s m args below meth c D B nL Q cells slots z h L (.int x :: rest) pc := by
  intro H locs ls hP hz hS hl
  refine lv_if_eq X.1 X.2.1 d ht (fun c => ?_) (fun c => ?_)
  · exact (kt (by first | exact c | exact Int32.not_lt.mpr c | exact fun q => c q)) H locs ls hP hz hS hl
  · exact (kf (by first | exact c | exact Int32.not_le.mp c | exact Classical.not_not.mp c)) H locs ls hP hz hS hl
theorem j_if_ne (X : Cx p s m args meth c cc nL own D B) {x : Int32} {off : Int} {tgt : Nat} (d : decode cc pc = .ok (.ifCond .ne off, 3)) (ht : (pc : Int) + off = (tgt : Int)) (kt : ¬ x = 0 → J p l e R s m args below meth c D B nL Q cells slots z h L rest tgt) (kf : x = 0 → J p l e R s m args below meth c D B nL Q cells slots z h L rest (pc + 3)) : J p l e R s m args below meth c D B nL Q cells slots z h L (.int x :: rest) pc := by
  intro H locs ls hP hz hS hl
  refine lv_if_ne X.1 X.2.1 d ht (fun c => ?_) (fun c => ?_)
  · exact (kt (by first | exact c | exact Int32.not_lt.mpr c | exact fun q => c q)) H locs ls hP hz hS hl
  · exact (kf (by first | exact c | exact Int32.not_le.mp c | exact Classical.not_not.mp c)) H locs ls hP hz hS hl
theorem j_if_lt (X : Cx p s m args meth c cc nL own D B) {x : Int32} {off : Int} {tgt : Nat} (d : decode cc pc = .ok (.ifCond .lt off, 3)) (ht : (pc : Int) + off = (tgt : Int)) (kt : x < 0 → J p l e R s m args below meth c D B nL Q cells slots z h L rest tgt) (kf : ¬ x < 0 → J p l e R s m args below meth c D B nL Q cells slots z h L rest (pc + 3)) : J p l e R s m args below meth c D B nL Q cells slots z h L (.int x :: rest) pc := by
  intro H locs ls hP hz hS hl
  refine lv_if_lt X.1 X.2.1 d ht (fun c => ?_) (fun c => ?_)
  · exact (kt (by first | exact c | exact Int32.not_lt.mpr c | exact fun q => c q)) H locs ls hP hz hS hl
  · exact (kf (by first | exact c | exact Int32.not_le.mp c | exact Classical.not_not.mp c)) H locs ls hP hz hS hl
theorem j_if_ge (X : Cx p s m args meth c cc nL own D B) {x : Int32} {off : Int} {tgt : Nat} (d : decode cc pc = .ok (.ifCond .ge off, 3)) (ht : (pc : Int) + off = (tgt : Int)) (kt : ¬ x < 0 → J p l e R s m args below meth c D B nL Q cells slots z h L rest tgt) (kf : x < 0 → J p l e R s m args below meth c D B nL Q cells slots z h L rest (pc + 3)) : J p l e R s m args below meth c D B nL Q cells slots z h L (.int x :: rest) pc := by
  intro H locs ls hP hz hS hl
  refine lv_if_ge X.1 X.2.1 d ht (fun c => ?_) (fun c => ?_)
  · exact (kt (by first | exact c | exact Int32.not_lt.mpr c | exact fun q => c q)) H locs ls hP hz hS hl
  · exact (kf (by first | exact c | exact Int32.not_le.mp c | exact Classical.not_not.mp c)) H locs ls hP hz hS hl
theorem j_if_gt (X : Cx p s m args meth c cc nL own D B) {x : Int32} {off : Int} {tgt : Nat} (d : decode cc pc = .ok (.ifCond .gt off, 3)) (ht : (pc : Int) + off = (tgt : Int)) (kt : 0 < x → J p l e R s m args below meth c D B nL Q cells slots z h L rest tgt) (kf : ¬ 0 < x → J p l e R s m args below meth c D B nL Q cells slots z h L rest (pc + 3)) : J p l e R s m args below meth c D B nL Q cells slots z h L (.int x :: rest) pc := by
  intro H locs ls hP hz hS hl
  refine lv_if_gt X.1 X.2.1 d ht (fun c => ?_) (fun c => ?_)
  · exact (kt (by first | exact c | exact Int32.not_lt.mpr c | exact fun q => c q)) H locs ls hP hz hS hl
  · exact (kf (by first | exact c | exact Int32.not_le.mp c | exact Classical.not_not.mp c)) H locs ls hP hz hS hl
theorem j_if_le (X : Cx p s m args meth c cc nL own D B) {x : Int32} {off : Int} {tgt : Nat} (d : decode cc pc = .ok (.ifCond .le off, 3)) (ht : (pc : Int) + off = (tgt : Int)) (kt : ¬ 0 < x → J p l e R s m args below meth c D B nL Q cells slots z h L rest tgt) (kf : 0 < x → J p l e R s m args below meth c D B nL Q cells slots z h L rest (pc + 3)) : J p l e R s m args below meth c D B nL Q cells slots z h L (.int x :: rest) pc := by
  intro H locs ls hP hz hS hl
  refine lv_if_le X.1 X.2.1 d ht (fun c => ?_) (fun c => ?_)
  · exact (kt (by first | exact c | exact Int32.not_lt.mpr c | exact fun q => c q)) H locs ls hP hz hS hl
  · exact (kf (by first | exact c | exact Int32.not_le.mp c | exact Classical.not_not.mp c)) H locs ls hP hz hS hl
theorem j_icmp_eq (X : Cx p s m args meth c cc nL own D B) {x y : Int32} {off : Int} {tgt : Nat} (d : decode cc pc = .ok (.if_icmp .eq off, 3)) (ht : (pc : Int) + off = (tgt : Int)) (kt : x = y → J p l e R s m args below meth c D B nL Q cells slots z h L rest tgt) (kf : ¬ x = y → J p l e R s m args below meth c D B nL Q cells slots z h L rest (pc + 3)) : J p l e R s m args below meth c D B nL Q cells slots z h L (.int y :: .int x :: rest) pc := by
  intro H locs ls hP hz hS hl
  refine lv_icmp_eq X.1 X.2.1 d ht (fun c => ?_) (fun c => ?_)
  · exact (kt (by first | exact c | exact Int32.not_lt.mpr c | exact fun q => c q)) H locs ls hP hz hS hl
  · exact (kf (by first | exact c | exact Int32.not_le.mp c | exact Classical.not_not.mp c)) H locs ls hP hz hS hl
theorem j_icmp_ne (X : Cx p s m args meth c cc nL own D B) {x y : Int32} {off : Int} {tgt : Nat} (d : decode cc pc = .ok (.if_icmp .ne off, 3)) (ht : (pc : Int) + off = (tgt : Int)) (kt : ¬ x = y → J p l e R s m args below meth c D B nL Q cells slots z h L rest tgt) (kf : x = y → J p l e R s m args below meth c D B nL Q cells slots z h L rest (pc + 3)) : J p l e R s m args below meth c D B nL Q cells slots z h L (.int y :: .int x :: rest) pc := by
  intro H locs ls hP hz hS hl
  refine lv_icmp_ne X.1 X.2.1 d ht (fun c => ?_) (fun c => ?_)
  · exact (kt (by first | exact c | exact Int32.not_lt.mpr c | exact fun q => c q)) H locs ls hP hz hS hl
  · exact (kf (by first | exact c | exact Int32.not_le.mp c | exact Classical.not_not.mp c)) H locs ls hP hz hS hl
theorem j_icmp_lt (X : Cx p s m args meth c cc nL own D B) {x y : Int32} {off : Int} {tgt : Nat} (d : decode cc pc = .ok (.if_icmp .lt off, 3)) (ht : (pc : Int) + off = (tgt : Int)) (kt : x < y → J p l e R s m args below meth c D B nL Q cells slots z h L rest tgt) (kf : ¬ x < y → J p l e R s m args below meth c D B nL Q cells slots z h L rest (pc + 3)) : J p l e R s m args below meth c D B nL Q cells slots z h L (.int y :: .int x :: rest) pc := by
  intro H locs ls hP hz hS hl
  refine lv_icmp_lt X.1 X.2.1 d ht (fun c => ?_) (fun c => ?_)
  · exact (kt (by first | exact c | exact Int32.not_lt.mpr c | exact fun q => c q)) H locs ls hP hz hS hl
  · exact (kf (by first | exact c | exact Int32.not_le.mp c | exact Classical.not_not.mp c)) H locs ls hP hz hS hl
theorem j_icmp_ge (X : Cx p s m args meth c cc nL own D B) {x y : Int32} {off : Int} {tgt : Nat} (d : decode cc pc = .ok (.if_icmp .ge off, 3)) (ht : (pc : Int) + off = (tgt : Int)) (kt : ¬ x < y → J p l e R s m args below meth c D B nL Q cells slots z h L rest tgt) (kf : x < y → J p l e R s m args below meth c D B nL Q cells slots z h L rest (pc + 3)) : J p l e R s m args below meth c D B nL Q cells slots z h L (.int y :: .int x :: rest) pc := by
  intro H locs ls hP hz hS hl
  refine lv_icmp_ge X.1 X.2.1 d ht (fun c => ?_) (fun c => ?_)
  · exact (kt (by first | exact c | exact Int32.not_lt.mpr c | exact fun q => c q)) H locs ls hP hz hS hl
  · exact (kf (by first | exact c | exact Int32.not_le.mp c | exact Classical.not_not.mp c)) H locs ls hP hz hS hl
theorem j_icmp_gt (X : Cx p s m args meth c cc nL own D B) {x y : Int32} {off : Int} {tgt : Nat} (d : decode cc pc = .ok (.if_icmp .gt off, 3)) (ht : (pc : Int) + off = (tgt : Int)) (kt : y < x → J p l e R s m args below meth c D B nL Q cells slots z h L rest tgt) (kf : ¬ y < x → J p l e R s m args below meth c D B nL Q cells slots z h L rest (pc + 3)) : J p l e R s m args below meth c D B nL Q cells slots z h L (.int y :: .int x :: rest) pc := by
  intro H locs ls hP hz hS hl
  refine lv_icmp_gt X.1 X.2.1 d ht (fun c => ?_) (fun c => ?_)
  · exact (kt (by first | exact c | exact Int32.not_lt.mpr c | exact fun q => c q)) H locs ls hP hz hS hl
  · exact (kf (by first | exact c | exact Int32.not_le.mp c | exact Classical.not_not.mp c)) H locs ls hP hz hS hl
theorem j_icmp_le (X : Cx p s m args meth c cc nL own D B) {x y : Int32} {off : Int} {tgt : Nat} (d : decode cc pc = .ok (.if_icmp .le off, 3)) (ht : (pc : Int) + off = (tgt : Int)) (kt : ¬ y < x → J p l e R s m args below meth c D B nL Q cells slots z h L rest tgt) (kf : y < x → J p l e R s m args below meth c D B nL Q cells slots z h L rest (pc + 3)) : J p l e R s m args below meth c D B nL Q cells slots z h L (.int y :: .int x :: rest) pc := by
  intro H locs ls hP hz hS hl
  refine lv_icmp_le X.1 X.2.1 d ht (fun c => ?_) (fun c => ?_)
  · exact (kt (by first | exact c | exact Int32.not_lt.mpr c | exact fun q => c q)) H locs ls hP hz hS hl
  · exact (kf (by first | exact c | exact Int32.not_le.mp c | exact Classical.not_not.mp c)) H locs ls hP hz hS hl
theorem j_ifnonnull (X : Cx p s m args meth c cc nL own D B) {x : Nat} {off : Int} {tgt : Nat} (d : decode cc pc = .ok (.ifnonnull off, 3)) (ht : (pc : Int) + off = (tgt : Int)) (kk : J p l e R s m args below meth c D B nL Q cells slots z h L rest tgt) : J p l e R s m args below meth c D B nL Q cells slots z h L (.ref x :: rest) pc :=
  fun H locs ls hP hz hS hl => lv_ifnonnull X.1 X.2.1 d ht (kk H locs ls hP hz hS hl)
theorem j_ifnonnullN (X : Cx p s m args meth c cc nL own D B) {off : Int} (d : decode cc pc = .ok (.ifnonnull off, 3)) (kk : J p l e R s m args below meth c D B nL Q cells slots z h L rest (pc + 3)) : J p l e R s m args below meth c D B nL Q cells slots z h L (.null :: rest) pc :=
  fun H locs ls hP hz hS hl => lv_ifnonnullN X.1 X.2.1 d (kk H locs ls hP hz hS hl)
theorem j_tableIn (X : Cx p s m args meth c cc nL own D B) {dflt lo hi : Int} {offs : Array Int} {len : Nat} {x : Int32} {off : Int} {tgt : Nat} (d : decode cc pc = .ok (.tableswitch dflt lo hi offs, len)) (h1 : ¬ x.toInt < lo) (h2 : ¬ hi < x.toInt) (ho : offs[(x.toInt - lo).toNat]? = some off) (ht : (pc : Int) + off = (tgt : Int)) (kk : J p l e R s m args below meth c D B nL Q cells slots z h L rest tgt) : J p l e R s m args below meth c D B nL Q cells slots z h L (.int x :: rest) pc :=
  fun H locs ls hP hz hS hl => lv_tableIn X.1 X.2.1 d h1 h2 ho ht (kk H locs ls hP hz hS hl)
theorem j_tableOut (X : Cx p s m args meth c cc nL own D B) {dflt lo hi : Int} {offs : Array Int} {len : Nat} {x : Int32} {tgt : Nat} (d : decode cc pc = .ok (.tableswitch dflt lo hi offs, len)) (h0 : x.toInt < lo ∨ hi < x.toInt) (ht : (pc : Int) + dflt = (tgt : Int)) (kk : J p l e R s m args below meth c D B nL Q cells slots z h L rest tgt) : J p l e R s m args below meth c D B nL Q cells slots z h L (.int x :: rest) pc :=
  fun H locs ls hP hz hS hl => lv_tableOut X.1 X.2.1 d h0 ht (kk H locs ls hP hz hS hl)
theorem j_mmax (X : Cx p s m args meth c cc nL own D B) {i : Nat} {x y : Int32} (kM : Cond.methodLink own i Lib.Math.max.name ∈ gtbl) (hR : 1 ≤ R.frames ∧ (rest.map fun v => v.category).sum + 13 ≤ R.locals ∧ cells ≤ R.cells ∧ slots ≤ R.slots) (d : decode cc pc = .ok (.invokestatic i, 3)) (kk : J p l e R s m args below meth c D B nL Q cells slots z h L (.int (if x < y then y else x) :: rest) (pc + 3)) : J p l e R s m args below meth c D B nL Q cells slots z h L (.int y :: .int x :: rest) pc :=
  fun H locs ls hP hz hS hl => va_mmax X.1 X.2.1 (X.2.2.1.trans hl.1.symm) X.2.2.2.1 (X.2.2.2.2.1 _ kM) (X.2.2.2.2.1 _ kT_mmax) (X.2.2.2.2.1 _ kI_RJ9) (X.2.2.2.2.1 _ kC_mmax) hR.1 hR.2.1 hR.2.2.1 hR.2.2.2 d (kk H locs ls hP hz hS hl)
theorem j_mmin (X : Cx p s m args meth c cc nL own D B) {i : Nat} {x y : Int32} (kM : Cond.methodLink own i Lib.Math.min.name ∈ gtbl) (hR : 1 ≤ R.frames ∧ (rest.map fun v => v.category).sum + 13 ≤ R.locals ∧ cells ≤ R.cells ∧ slots ≤ R.slots) (d : decode cc pc = .ok (.invokestatic i, 3)) (kk : J p l e R s m args below meth c D B nL Q cells slots z h L (.int (if y < x then y else x) :: rest) (pc + 3)) : J p l e R s m args below meth c D B nL Q cells slots z h L (.int y :: .int x :: rest) pc :=
  fun H locs ls hP hz hS hl => va_mmin X.1 X.2.1 (X.2.2.1.trans hl.1.symm) X.2.2.2.1 (X.2.2.2.2.1 _ kM) (X.2.2.2.2.1 _ kT_mmin) (X.2.2.2.2.1 _ kI_RJ9) (X.2.2.2.2.1 _ kC_mmin) hR.1 hR.2.1 hR.2.2.1 hR.2.2.2 d (kk H locs ls hP hz hS hl)
end JR
