/-! THE LAYER's rows: an instruction, a row -/
section GR
variable {p : Program} {l : Launch} {e : Env} {R : Room} {s : State} {m : MethodId} {args : Array Value} {below : List Frame} {meth : Method} {c : Code} {cells slots : Nat} {Q : State → Prop}
variable {cc : ByteArray} {nL : Nat} {own : String} {ret : Option FieldType} {D : va_G} {dA : Nat → ClassId} {A : Nat → Prop} {pc pc' : Nat} {lv : List (Nat × Value)} {rest : List Value} {ws : va_W}
theorem GC.x (C : GC p s m args meth c cc nL own ret D dA A) : p.tables.exec = Jvm.exec := C.1
theorem GC.b (C : GC p s m args meth c cc nL own ret D dA A) : c.code = cc := C.2.1
theorem GC.ml (C : GC p s m args meth c cc nL own ret D dA A) : c.maxLocals = nL := C.2.2.1
theorem GC.ow (C : GC p s m args meth c cc nL own ret D dA A) : s.vm.findClass own = some m.cls := C.2.2.2.1
theorem GC.w (C : GC p s m args meth c cc nL own ret D dA A) {w : Cond} (h : w ∈ g_tbl) : w.before args s = true := C.2.2.2.2.1 w h
theorem GC.ts (C : GC p s m args meth c cc nL own ret D dA A) : ∀ w ∈ g_tbl, w.before args s = true := C.2.2.2.2.1
theorem GC.K (C : GC p s m args meth c cc nL own ret D dA A) : va_K D classes (g_TY dA) s := C.2.2.2.2.2.1
theorem GC.aa (C : GC p s m args meth c cc nL own ret D dA A) : ∀ q, s.heap.size ≤ q → A q := C.2.2.2.2.2.2.1
theorem GC.Z (C : GC p s m args meth c cc nL own ret D dA A) : g_Z A s s.heap := C.2.2.2.2.2.2.2.1
theorem GC.r (C : GC p s m args meth c cc nL own ret D dA A) : meth.sig.returnType = ret := C.2.2.2.2.2.2.2.2.1
theorem GC.lk (C : GC p s m args meth c cc nL own ret D dA A) : meth.locks = false := C.2.2.2.2.2.2.2.2.2
theorem g_iconst (C : GC p s m args meth c cc nL own ret D dA A) {n : Int} {v : Int32} (hdg : decode cc pc = .ok (.iconst n, 1)) (hp : pc + 1 = pc') (hv : Int32.ofInt n = v) (k : GG p l e R s m args below meth c nL D A cells slots Q pc' lv (.int v :: rest) ws) : GG p l e R s m args below meth c nL D A cells slots Q pc lv rest ws := by
  subst hp
  intro H locs ls hP hD hS hl
  exact lv_iconst C.x C.b hdg hv (k H locs ls hP hD hS hl)
theorem g_bipush (C : GC p s m args meth c cc nL own ret D dA A) {n : Int} {v : Int32} (hdg : decode cc pc = .ok (.bipush n, 2)) (hp : pc + 2 = pc') (hv : (Int8.ofInt n).toInt32 = v) (k : GG p l e R s m args below meth c nL D A cells slots Q pc' lv (.int v :: rest) ws) : GG p l e R s m args below meth c nL D A cells slots Q pc lv rest ws := by
  subst hp
  intro H locs ls hP hD hS hl
  exact lv_bipush C.x C.b hdg hv (k H locs ls hP hD hS hl)
theorem g_sipush (C : GC p s m args meth c cc nL own ret D dA A) {n : Int} {v : Int32} (hdg : decode cc pc = .ok (.sipush n, 3)) (hp : pc + 3 = pc') (hv : (Int16.ofInt n).toInt32 = v) (k : GG p l e R s m args below meth c nL D A cells slots Q pc' lv (.int v :: rest) ws) : GG p l e R s m args below meth c nL D A cells slots Q pc lv rest ws := by
  subst hp
  intro H locs ls hP hD hS hl
  exact lv_sipush C.x C.b hdg hv (k H locs ls hP hD hS hl)
theorem g_lconst (C : GC p s m args meth c cc nL own ret D dA A) {n : Fin 2} {v : Int64} (hdg : decode cc pc = .ok (.lconst n, 1)) (hp : pc + 1 = pc') (hv : Int64.ofNat (n : Nat) = v) (k : GG p l e R s m args below meth c nL D A cells slots Q pc' lv (.long v :: rest) ws) : GG p l e R s m args below meth c nL D A cells slots Q pc lv rest ws := by
  subst hp
  intro H locs ls hP hD hS hl
  exact lv_lconst C.x C.b hdg hv (k H locs ls hP hD hS hl)
theorem g_ldc (C : GC p s m args meth c cc nL own ret D dA A) {index : Nat} {v : Int32} (hdg : decode cc pc = .ok (.ldc index, 2)) (hp : pc + 2 = pc') (hw : Cond.constant own index v ∈ g_tbl) (k : GG p l e R s m args below meth c nL D A cells slots Q pc' lv (.int v :: rest) ws) : GG p l e R s m args below meth c nL D A cells slots Q pc lv rest ws := by
  subst hp
  intro H locs ls hP hD hS hl
  exact W.ldc C.x C.b C.ow (C.w hw) rfl hdg (k H locs ls hP hD hS hl)
theorem g_ldcw (C : GC p s m args meth c cc nL own ret D dA A) {index : Nat} {v : Int32} (hdg : decode cc pc = .ok (.ldc_w index, 3)) (hp : pc + 3 = pc') (hw : Cond.constant own index v ∈ g_tbl) (k : GG p l e R s m args below meth c nL D A cells slots Q pc' lv (.int v :: rest) ws) : GG p l e R s m args below meth c nL D A cells slots Q pc lv rest ws := by
  subst hp
  intro H locs ls hP hD hS hl
  exact lv_ldcw C.x C.b C.ow (C.w hw) hdg (k H locs ls hP hD hS hl)
theorem g_ldc2 (C : GC p s m args meth c cc nL own ret D dA A) {index : Nat} {v : Int64} (hdg : decode cc pc = .ok (.ldc2_w index, 3)) (hp : pc + 3 = pc') (hw : Cond.constantLong own index v ∈ g_tbl) (k : GG p l e R s m args below meth c nL D A cells slots Q pc' lv (.long v :: rest) ws) : GG p l e R s m args below meth c nL D A cells slots Q pc lv rest ws := by
  subst hp
  intro H locs ls hP hD hS hl
  exact W.ldc2 C.x C.b C.ow (C.w hw) rfl hdg (k H locs ls hP hD hS hl)
theorem g_iload_n (C : GC p s m args meth c cc nL own ret D dA A) {i : Fin 4} {x : Int32} (j : Nat) (hdg : decode cc pc = .ok (.iload_n i, 1)) (hp : pc + 1 = pc') (hj : lv[j]? = some ((i : Nat), .int x)) (k : GG p l e R s m args below meth c nL D A cells slots Q pc' lv (.int x :: rest) ws) : GG p l e R s m args below meth c nL D A cells slots Q pc lv rest ws := by
  subst hp
  intro H locs ls hP hD hS hl
  exact lv_iload_n C.x C.b hdg rfl (lv_at hl j hj) (k H locs ls hP hD hS hl)
theorem g_iload (C : GC p s m args meth c cc nL own ret D dA A) {i : Nat} {x : Int32} (j : Nat) (hdg : decode cc pc = .ok (.iload i, 2)) (hp : pc + 2 = pc') (hj : lv[j]? = some (i, .int x)) (k : GG p l e R s m args below meth c nL D A cells slots Q pc' lv (.int x :: rest) ws) : GG p l e R s m args below meth c nL D A cells slots Q pc lv rest ws := by
  subst hp
  intro H locs ls hP hD hS hl
  exact lv_iload C.x C.b hdg (lv_at hl j hj) (k H locs ls hP hD hS hl)
theorem g_istore_n (C : GC p s m args meth c cc nL own ret D dA A) {i : Fin 4} {x : Int32} {lv' : List (Nat × Value)} (hdg : decode cc pc = .ok (.istore_n i, 1)) (hp : pc + 1 = pc') (hn : (i : Nat) < nL) (hl2 : ((i : Nat), Value.int x) :: lv.filter (fun q => !(q.1 == (i : Nat)) && !(q.1 + 1 == (i : Nat) && q.2.category == 2)) = lv') (k : GG p l e R s m args below meth c nL D A cells slots Q pc' lv' rest ws) : GG p l e R s m args below meth c nL D A cells slots Q pc lv (.int x :: rest) ws := by
  subst hp
  intro H locs ls hP hD hS hl
  exact lv_istore_n C.x C.b hdg rfl hl hn hl2 (fun ls' hl' => k H locs ls' hP hD hS hl')
theorem g_istore (C : GC p s m args meth c cc nL own ret D dA A) {i : Nat} {x : Int32} {lv' : List (Nat × Value)} (hdg : decode cc pc = .ok (.istore i, 2)) (hp : pc + 2 = pc') (hn : i < nL) (hl2 : (i, Value.int x) :: lv.filter (fun q => !(q.1 == i) && !(q.1 + 1 == i && q.2.category == 2)) = lv') (k : GG p l e R s m args below meth c nL D A cells slots Q pc' lv' rest ws) : GG p l e R s m args below meth c nL D A cells slots Q pc lv (.int x :: rest) ws := by
  subst hp
  intro H locs ls hP hD hS hl
  exact lv_istore C.x C.b hdg hl hn hl2 (fun ls' hl' => k H locs ls' hP hD hS hl')
theorem g_lload_n (C : GC p s m args meth c cc nL own ret D dA A) {i : Fin 4} {x : Int64} (j : Nat) (hdg : decode cc pc = .ok (.lload_n i, 1)) (hp : pc + 1 = pc') (hj : lv[j]? = some ((i : Nat), .long x)) (k : GG p l e R s m args below meth c nL D A cells slots Q pc' lv (.long x :: rest) ws) : GG p l e R s m args below meth c nL D A cells slots Q pc lv rest ws := by
  subst hp
  intro H locs ls hP hD hS hl
  exact lv_lload_n C.x C.b hdg rfl (lv_at hl j hj) (k H locs ls hP hD hS hl)
theorem g_lload (C : GC p s m args meth c cc nL own ret D dA A) {i : Nat} {x : Int64} (j : Nat) (hdg : decode cc pc = .ok (.lload i, 2)) (hp : pc + 2 = pc') (hj : lv[j]? = some (i, .long x)) (k : GG p l e R s m args below meth c nL D A cells slots Q pc' lv (.long x :: rest) ws) : GG p l e R s m args below meth c nL D A cells slots Q pc lv rest ws := by
  subst hp
  intro H locs ls hP hD hS hl
  exact lv_lload C.x C.b hdg (lv_at hl j hj) (k H locs ls hP hD hS hl)
theorem g_lstore_n (C : GC p s m args meth c cc nL own ret D dA A) {i : Fin 4} {x : Int64} {lv' : List (Nat × Value)} (hdg : decode cc pc = .ok (.lstore_n i, 1)) (hp : pc + 1 = pc') (hn : (i : Nat) + 1 < nL) (hl2 : ((i : Nat), Value.long x) :: lv.filter (fun q => !(q.1 == (i : Nat)) && (!(q.1 == (i : Nat) + 1) && !(q.1 + 1 == (i : Nat) && q.2.category == 2))) = lv') (k : GG p l e R s m args below meth c nL D A cells slots Q pc' lv' rest ws) : GG p l e R s m args below meth c nL D A cells slots Q pc lv (.long x :: rest) ws := by
  subst hp
  intro H locs ls hP hD hS hl
  exact lv_lstore_n C.x C.b hdg rfl hl hn hl2 (fun ls' hl' => k H locs ls' hP hD hS hl')
theorem g_lstore (C : GC p s m args meth c cc nL own ret D dA A) {i : Nat} {x : Int64} {lv' : List (Nat × Value)} (hdg : decode cc pc = .ok (.lstore i, 2)) (hp : pc + 2 = pc') (hn : i + 1 < nL) (hl2 : (i, Value.long x) :: lv.filter (fun q => !(q.1 == i) && (!(q.1 == i + 1) && !(q.1 + 1 == i && q.2.category == 2))) = lv') (k : GG p l e R s m args below meth c nL D A cells slots Q pc' lv' rest ws) : GG p l e R s m args below meth c nL D A cells slots Q pc lv (.long x :: rest) ws := by
  subst hp
  intro H locs ls hP hD hS hl
  exact lv_lstore C.x C.b hdg hl hn hl2 (fun ls' hl' => k H locs ls' hP hD hS hl')
theorem g_aload_n (C : GC p s m args meth c cc nL own ret D dA A) {i : Fin 4} {x : Nat} (j : Nat) (hdg : decode cc pc = .ok (.aload_n i, 1)) (hp : pc + 1 = pc') (hj : lv[j]? = some ((i : Nat), .ref x)) (k : GG p l e R s m args below meth c nL D A cells slots Q pc' lv (.ref x :: rest) ws) : GG p l e R s m args below meth c nL D A cells slots Q pc lv rest ws := by
  subst hp
  intro H locs ls hP hD hS hl
  exact lv_aload_n C.x C.b hdg rfl (lv_at hl j hj) (k H locs ls hP hD hS hl)
theorem g_aload (C : GC p s m args meth c cc nL own ret D dA A) {i : Nat} {x : Nat} (j : Nat) (hdg : decode cc pc = .ok (.aload i, 2)) (hp : pc + 2 = pc') (hj : lv[j]? = some (i, .ref x)) (k : GG p l e R s m args below meth c nL D A cells slots Q pc' lv (.ref x :: rest) ws) : GG p l e R s m args below meth c nL D A cells slots Q pc lv rest ws := by
  subst hp
  intro H locs ls hP hD hS hl
  exact lv_aload C.x C.b hdg (lv_at hl j hj) (k H locs ls hP hD hS hl)
theorem g_astore_n (C : GC p s m args meth c cc nL own ret D dA A) {i : Fin 4} {x : Nat} {lv' : List (Nat × Value)} (hdg : decode cc pc = .ok (.astore_n i, 1)) (hp : pc + 1 = pc') (hn : (i : Nat) < nL) (hl2 : ((i : Nat), Value.ref x) :: lv.filter (fun q => !(q.1 == (i : Nat)) && !(q.1 + 1 == (i : Nat) && q.2.category == 2)) = lv') (k : GG p l e R s m args below meth c nL D A cells slots Q pc' lv' rest ws) : GG p l e R s m args below meth c nL D A cells slots Q pc lv (.ref x :: rest) ws := by
  subst hp
  intro H locs ls hP hD hS hl
  exact lv_astore_n C.x C.b hdg rfl hl hn hl2 (fun ls' hl' => k H locs ls' hP hD hS hl')
theorem g_astore (C : GC p s m args meth c cc nL own ret D dA A) {i : Nat} {x : Nat} {lv' : List (Nat × Value)} (hdg : decode cc pc = .ok (.astore i, 2)) (hp : pc + 2 = pc') (hn : i < nL) (hl2 : (i, Value.ref x) :: lv.filter (fun q => !(q.1 == i) && !(q.1 + 1 == i && q.2.category == 2)) = lv') (k : GG p l e R s m args below meth c nL D A cells slots Q pc' lv' rest ws) : GG p l e R s m args below meth c nL D A cells slots Q pc lv (.ref x :: rest) ws := by
  subst hp
  intro H locs ls hP hD hS hl
  exact lv_astore C.x C.b hdg hl hn hl2 (fun ls' hl' => k H locs ls' hP hD hS hl')
theorem g_iinc (C : GC p s m args meth c cc nL own ret D dA A) {i j : Nat} {n : Int} {x v : Int32} {lv' : List (Nat × Value)} (hdg : decode cc pc = .ok (.iinc i n, 3)) (hp : pc + 3 = pc') (hk : lv[j]? = some (i, .int x)) (hv : x + Int32.ofInt n = v) (hn : i < nL) (hl2 : (i, Value.int v) :: lv.filter (fun q => !(q.1 == i) && !(q.1 + 1 == i && q.2.category == 2)) = lv') (k : GG p l e R s m args below meth c nL D A cells slots Q pc' lv' rest ws) : GG p l e R s m args below meth c nL D A cells slots Q pc lv rest ws := by
  subst hp
  intro H locs ls hP hD hS hl
  exact lv_iinc C.x C.b hdg hl hk hv hn hl2 (fun ls' hl' => k H locs ls' hP hD hS hl')
theorem g_iadd (C : GC p s m args meth c cc nL own ret D dA A) {x y : Int32} (hdg : decode cc pc = .ok (.iadd, 1)) (hp : pc + 1 = pc') (k : GG p l e R s m args below meth c nL D A cells slots Q pc' lv (.int (x + y) :: rest) ws) : GG p l e R s m args below meth c nL D A cells slots Q pc lv (.int y :: .int x :: rest) ws := by
  subst hp
  intro H locs ls hP hD hS hl
  exact lv_iadd C.x C.b hdg (k H locs ls hP hD hS hl)
theorem g_isub (C : GC p s m args meth c cc nL own ret D dA A) {x y : Int32} (hdg : decode cc pc = .ok (.isub, 1)) (hp : pc + 1 = pc') (k : GG p l e R s m args below meth c nL D A cells slots Q pc' lv (.int (x - y) :: rest) ws) : GG p l e R s m args below meth c nL D A cells slots Q pc lv (.int y :: .int x :: rest) ws := by
  subst hp
  intro H locs ls hP hD hS hl
  exact lv_isub C.x C.b hdg (k H locs ls hP hD hS hl)
theorem g_imul (C : GC p s m args meth c cc nL own ret D dA A) {x y : Int32} (hdg : decode cc pc = .ok (.imul, 1)) (hp : pc + 1 = pc') (k : GG p l e R s m args below meth c nL D A cells slots Q pc' lv (.int (x * y) :: rest) ws) : GG p l e R s m args below meth c nL D A cells slots Q pc lv (.int y :: .int x :: rest) ws := by
  subst hp
  intro H locs ls hP hD hS hl
  exact lv_imul C.x C.b hdg (k H locs ls hP hD hS hl)
theorem g_iand (C : GC p s m args meth c cc nL own ret D dA A) {x y : Int32} (hdg : decode cc pc = .ok (.iand, 1)) (hp : pc + 1 = pc') (k : GG p l e R s m args below meth c nL D A cells slots Q pc' lv (.int (x &&& y) :: rest) ws) : GG p l e R s m args below meth c nL D A cells slots Q pc lv (.int y :: .int x :: rest) ws := by
  subst hp
  intro H locs ls hP hD hS hl
  exact lv_iand C.x C.b hdg (k H locs ls hP hD hS hl)
theorem g_ior (C : GC p s m args meth c cc nL own ret D dA A) {x y : Int32} (hdg : decode cc pc = .ok (.ior, 1)) (hp : pc + 1 = pc') (k : GG p l e R s m args below meth c nL D A cells slots Q pc' lv (.int (x ||| y) :: rest) ws) : GG p l e R s m args below meth c nL D A cells slots Q pc lv (.int y :: .int x :: rest) ws := by
  subst hp
  intro H locs ls hP hD hS hl
  exact lv_ior C.x C.b hdg (k H locs ls hP hD hS hl)
theorem g_ixor (C : GC p s m args meth c cc nL own ret D dA A) {x y : Int32} (hdg : decode cc pc = .ok (.ixor, 1)) (hp : pc + 1 = pc') (k : GG p l e R s m args below meth c nL D A cells slots Q pc' lv (.int (x ^^^ y) :: rest) ws) : GG p l e R s m args below meth c nL D A cells slots Q pc lv (.int y :: .int x :: rest) ws := by
  subst hp
  intro H locs ls hP hD hS hl
  exact lv_ixor C.x C.b hdg (k H locs ls hP hD hS hl)
theorem g_ladd (C : GC p s m args meth c cc nL own ret D dA A) {x y : Int64} (hdg : decode cc pc = .ok (.ladd, 1)) (hp : pc + 1 = pc') (k : GG p l e R s m args below meth c nL D A cells slots Q pc' lv (.long (x + y) :: rest) ws) : GG p l e R s m args below meth c nL D A cells slots Q pc lv (.long y :: .long x :: rest) ws := by
  subst hp
  intro H locs ls hP hD hS hl
  exact lv_ladd C.x C.b hdg (k H locs ls hP hD hS hl)
theorem g_lsub (C : GC p s m args meth c cc nL own ret D dA A) {x y : Int64} (hdg : decode cc pc = .ok (.lsub, 1)) (hp : pc + 1 = pc') (k : GG p l e R s m args below meth c nL D A cells slots Q pc' lv (.long (x - y) :: rest) ws) : GG p l e R s m args below meth c nL D A cells slots Q pc lv (.long y :: .long x :: rest) ws := by
  subst hp
  intro H locs ls hP hD hS hl
  exact lv_lsub C.x C.b hdg (k H locs ls hP hD hS hl)
theorem g_lmul (C : GC p s m args meth c cc nL own ret D dA A) {x y : Int64} (hdg : decode cc pc = .ok (.lmul, 1)) (hp : pc + 1 = pc') (k : GG p l e R s m args below meth c nL D A cells slots Q pc' lv (.long (x * y) :: rest) ws) : GG p l e R s m args below meth c nL D A cells slots Q pc lv (.long y :: .long x :: rest) ws := by
  subst hp
  intro H locs ls hP hD hS hl
  exact lv_lmul C.x C.b hdg (k H locs ls hP hD hS hl)
theorem g_land (C : GC p s m args meth c cc nL own ret D dA A) {x y : Int64} (hdg : decode cc pc = .ok (.land, 1)) (hp : pc + 1 = pc') (k : GG p l e R s m args below meth c nL D A cells slots Q pc' lv (.long (x &&& y) :: rest) ws) : GG p l e R s m args below meth c nL D A cells slots Q pc lv (.long y :: .long x :: rest) ws := by
  subst hp
  intro H locs ls hP hD hS hl
  exact lv_land C.x C.b hdg (k H locs ls hP hD hS hl)
theorem g_lor (C : GC p s m args meth c cc nL own ret D dA A) {x y : Int64} (hdg : decode cc pc = .ok (.lor, 1)) (hp : pc + 1 = pc') (k : GG p l e R s m args below meth c nL D A cells slots Q pc' lv (.long (x ||| y) :: rest) ws) : GG p l e R s m args below meth c nL D A cells slots Q pc lv (.long y :: .long x :: rest) ws := by
  subst hp
  intro H locs ls hP hD hS hl
  exact lv_lor C.x C.b hdg (k H locs ls hP hD hS hl)
theorem g_lxor (C : GC p s m args meth c cc nL own ret D dA A) {x y : Int64} (hdg : decode cc pc = .ok (.lxor, 1)) (hp : pc + 1 = pc') (k : GG p l e R s m args below meth c nL D A cells slots Q pc' lv (.long (x ^^^ y) :: rest) ws) : GG p l e R s m args below meth c nL D A cells slots Q pc lv (.long y :: .long x :: rest) ws := by
  subst hp
  intro H locs ls hP hD hS hl
  exact lv_lxor C.x C.b hdg (k H locs ls hP hD hS hl)
theorem g_ineg (C : GC p s m args meth c cc nL own ret D dA A) {x : Int32} (hdg : decode cc pc = .ok (.ineg, 1)) (hp : pc + 1 = pc') (k : GG p l e R s m args below meth c nL D A cells slots Q pc' lv (.int (-x) :: rest) ws) : GG p l e R s m args below meth c nL D A cells slots Q pc lv (.int x :: rest) ws := by
  subst hp
  intro H locs ls hP hD hS hl
  exact lv_ineg C.x C.b hdg (k H locs ls hP hD hS hl)
theorem g_idiv (C : GC p s m args meth c cc nL own ret D dA A) {x y : Int32} (hdg : decode cc pc = .ok (.idiv, 1)) (hp : pc + 1 = pc') (hne : ¬ y = 0) (k : GG p l e R s m args below meth c nL D A cells slots Q pc' lv (.int (x / y) :: rest) ws) : GG p l e R s m args below meth c nL D A cells slots Q pc lv (.int y :: .int x :: rest) ws := by
  subst hp
  intro H locs ls hP hD hS hl
  exact lv_idiv C.x C.b hdg hne (k H locs ls hP hD hS hl)
theorem g_ldiv (C : GC p s m args meth c cc nL own ret D dA A) {x y : Int64} (hdg : decode cc pc = .ok (.ldiv, 1)) (hp : pc + 1 = pc') (hne : ¬ y = 0) (k : GG p l e R s m args below meth c nL D A cells slots Q pc' lv (.long (x / y) :: rest) ws) : GG p l e R s m args below meth c nL D A cells slots Q pc lv (.long y :: .long x :: rest) ws := by
  subst hp
  intro H locs ls hP hD hS hl
  exact lv_ldiv C.x C.b hdg hne (k H locs ls hP hD hS hl)
theorem g_irem (C : GC p s m args meth c cc nL own ret D dA A) {x y : Int32} (hdg : decode cc pc = .ok (.irem, 1)) (hp : pc + 1 = pc') (hne : ¬ y = 0) (k : GG p l e R s m args below meth c nL D A cells slots Q pc' lv (.int (x - x / y * y) :: rest) ws) : GG p l e R s m args below meth c nL D A cells slots Q pc lv (.int y :: .int x :: rest) ws := by
  subst hp
  intro H locs ls hP hD hS hl
  exact lv_irem C.x C.b hdg hne (k H locs ls hP hD hS hl)
theorem g_lrem (C : GC p s m args meth c cc nL own ret D dA A) {x y : Int64} (hdg : decode cc pc = .ok (.lrem, 1)) (hp : pc + 1 = pc') (hne : ¬ y = 0) (k : GG p l e R s m args below meth c nL D A cells slots Q pc' lv (.long (x - x / y * y) :: rest) ws) : GG p l e R s m args below meth c nL D A cells slots Q pc lv (.long y :: .long x :: rest) ws := by
  subst hp
  intro H locs ls hP hD hS hl
  exact lv_lrem C.x C.b hdg hne (k H locs ls hP hD hS hl)
theorem g_ishl (C : GC p s m args meth c cc nL own ret D dA A) {x y : Int32} (hdg : decode cc pc = .ok (.ishl, 1)) (hp : pc + 1 = pc') (k : GG p l e R s m args below meth c nL D A cells slots Q pc' lv (.int (x <<< (y &&& 31)) :: rest) ws) : GG p l e R s m args below meth c nL D A cells slots Q pc lv (.int y :: .int x :: rest) ws := by
  subst hp
  intro H locs ls hP hD hS hl
  exact lv_ishl C.x C.b hdg (k H locs ls hP hD hS hl)
theorem g_ishr (C : GC p s m args meth c cc nL own ret D dA A) {x y : Int32} (hdg : decode cc pc = .ok (.ishr, 1)) (hp : pc + 1 = pc') (k : GG p l e R s m args below meth c nL D A cells slots Q pc' lv (.int (x >>> (y &&& 31)) :: rest) ws) : GG p l e R s m args below meth c nL D A cells slots Q pc lv (.int y :: .int x :: rest) ws := by
  subst hp
  intro H locs ls hP hD hS hl
  exact lv_ishr C.x C.b hdg (k H locs ls hP hD hS hl)
theorem g_iushr (C : GC p s m args meth c cc nL own ret D dA A) {x y : Int32} (hdg : decode cc pc = .ok (.iushr, 1)) (hp : pc + 1 = pc') (k : GG p l e R s m args below meth c nL D A cells slots Q pc' lv (.int (x.toUInt32 >>> (y.toUInt32 &&& Int32.toUInt32 31)).toInt32 :: rest) ws) : GG p l e R s m args below meth c nL D A cells slots Q pc lv (.int y :: .int x :: rest) ws := by
  subst hp
  intro H locs ls hP hD hS hl
  exact lv_iushr C.x C.b hdg rfl (k H locs ls hP hD hS hl)
theorem g_lshl (C : GC p s m args meth c cc nL own ret D dA A) {x : Int64} {y : Int32} (hdg : decode cc pc = .ok (.lshl, 1)) (hp : pc + 1 = pc') (k : GG p l e R s m args below meth c nL D A cells slots Q pc' lv (.long (x <<< (y.toInt64 &&& 63)) :: rest) ws) : GG p l e R s m args below meth c nL D A cells slots Q pc lv (.int y :: .long x :: rest) ws := by
  subst hp
  intro H locs ls hP hD hS hl
  exact lv_lshl C.x C.b hdg rfl (k H locs ls hP hD hS hl)
theorem g_lshr (C : GC p s m args meth c cc nL own ret D dA A) {x : Int64} {y : Int32} (hdg : decode cc pc = .ok (.lshr, 1)) (hp : pc + 1 = pc') (k : GG p l e R s m args below meth c nL D A cells slots Q pc' lv (.long (x >>> (y.toInt64 &&& 63)) :: rest) ws) : GG p l e R s m args below meth c nL D A cells slots Q pc lv (.int y :: .long x :: rest) ws := by
  subst hp
  intro H locs ls hP hD hS hl
  exact lv_lshr C.x C.b hdg rfl (k H locs ls hP hD hS hl)
theorem g_lushr (C : GC p s m args meth c cc nL own ret D dA A) {x : Int64} {y : Int32} (hdg : decode cc pc = .ok (.lushr, 1)) (hp : pc + 1 = pc') (k : GG p l e R s m args below meth c nL D A cells slots Q pc' lv (.long (x.toUInt64 >>> (y.toInt64.toUInt64 &&& Int64.toUInt64 63)).toInt64 :: rest) ws) : GG p l e R s m args below meth c nL D A cells slots Q pc lv (.int y :: .long x :: rest) ws := by
  subst hp
  intro H locs ls hP hD hS hl
  exact lv_lushr C.x C.b hdg rfl (k H locs ls hP hD hS hl)
theorem g_lcmp (C : GC p s m args meth c cc nL own ret D dA A) {x y : Int64} (hdg : decode cc pc = .ok (.lcmp, 1)) (hp : pc + 1 = pc') (k : GG p l e R s m args below meth c nL D A cells slots Q pc' lv (.int (lg_cmp x y) :: rest) ws) : GG p l e R s m args below meth c nL D A cells slots Q pc lv (.long y :: .long x :: rest) ws := by
  subst hp
  intro H locs ls hP hD hS hl
  exact W.lcmp C.x C.b hdg (k H locs ls hP hD hS hl)
theorem g_i2l (C : GC p s m args meth c cc nL own ret D dA A) {x : Int32} (hdg : decode cc pc = .ok (.i2l, 1)) (hp : pc + 1 = pc') (k : GG p l e R s m args below meth c nL D A cells slots Q pc' lv (.long x.toInt64 :: rest) ws) : GG p l e R s m args below meth c nL D A cells slots Q pc lv (.int x :: rest) ws := by
  subst hp
  intro H locs ls hP hD hS hl
  exact lv_i2l C.x C.b hdg rfl (k H locs ls hP hD hS hl)
theorem g_l2i (C : GC p s m args meth c cc nL own ret D dA A) {x : Int64} (hdg : decode cc pc = .ok (.l2i, 1)) (hp : pc + 1 = pc') (k : GG p l e R s m args below meth c nL D A cells slots Q pc' lv (.int x.toInt32 :: rest) ws) : GG p l e R s m args below meth c nL D A cells slots Q pc lv (.long x :: rest) ws := by
  subst hp
  intro H locs ls hP hD hS hl
  exact lv_l2i C.x C.b hdg rfl (k H locs ls hP hD hS hl)
theorem g_i2b (C : GC p s m args meth c cc nL own ret D dA A) {x : Int32} (hdg : decode cc pc = .ok (.i2b, 1)) (hp : pc + 1 = pc') (k : GG p l e R s m args below meth c nL D A cells slots Q pc' lv (.int x.toInt8.toInt32 :: rest) ws) : GG p l e R s m args below meth c nL D A cells slots Q pc lv (.int x :: rest) ws := by
  subst hp
  intro H locs ls hP hD hS hl
  exact lv_i2b C.x C.b hdg rfl (k H locs ls hP hD hS hl)
theorem g_i2s (C : GC p s m args meth c cc nL own ret D dA A) {x : Int32} (hdg : decode cc pc = .ok (.i2s, 1)) (hp : pc + 1 = pc') (k : GG p l e R s m args below meth c nL D A cells slots Q pc' lv (.int x.toInt16.toInt32 :: rest) ws) : GG p l e R s m args below meth c nL D A cells slots Q pc lv (.int x :: rest) ws := by
  subst hp
  intro H locs ls hP hD hS hl
  exact lv_i2s C.x C.b hdg rfl (k H locs ls hP hD hS hl)
theorem g_dup (C : GC p s m args meth c cc nL own ret D dA A) {va : Value} (hdg : decode cc pc = .ok (.dup, 1)) (hp : pc + 1 = pc') (hc : va.category = 1) (k : GG p l e R s m args below meth c nL D A cells slots Q pc' lv (va :: va :: rest) ws) : GG p l e R s m args below meth c nL D A cells slots Q pc lv (va :: rest) ws := by
  subst hp
  intro H locs ls hP hD hS hl
  exact lv_dup C.x C.b hdg hc (k H locs ls hP hD hS hl)
theorem g_pop (C : GC p s m args meth c cc nL own ret D dA A) {va : Value} (hdg : decode cc pc = .ok (.pop, 1)) (hp : pc + 1 = pc') (hc : va.category = 1) (k : GG p l e R s m args below meth c nL D A cells slots Q pc' lv rest ws) : GG p l e R s m args below meth c nL D A cells slots Q pc lv (va :: rest) ws := by
  subst hp
  intro H locs ls hP hD hS hl
  exact lv_pop C.x C.b hdg hc (k H locs ls hP hD hS hl)
theorem g_dup2 (C : GC p s m args meth c cc nL own ret D dA A) {va vb : Value} (hdg : decode cc pc = .ok (.dup2, 1)) (hp : pc + 1 = pc') (hc : va.category = 1) (hc2 : vb.category = 1) (k : GG p l e R s m args below meth c nL D A cells slots Q pc' lv (va :: vb :: va :: vb :: rest) ws) : GG p l e R s m args below meth c nL D A cells slots Q pc lv (va :: vb :: rest) ws := by
  subst hp
  intro H locs ls hP hD hS hl
  exact lv_dup2_11 C.x C.b hdg hc hc2 (k H locs ls hP hD hS hl)
theorem g_dup2l (C : GC p s m args meth c cc nL own ret D dA A) {x : Int64} (hdg : decode cc pc = .ok (.dup2, 1)) (hp : pc + 1 = pc') (k : GG p l e R s m args below meth c nL D A cells slots Q pc' lv (.long x :: .long x :: rest) ws) : GG p l e R s m args below meth c nL D A cells slots Q pc lv (.long x :: rest) ws := by
  subst hp
  intro H locs ls hP hD hS hl
  exact lv_dup2_2 C.x C.b hdg rfl (k H locs ls hP hD hS hl)
theorem g_if_eq (C : GC p s m args meth c cc nL own ret D dA A) {x : Int32} {off : Int} {tgt : Nat} (hdg : decode cc pc = .ok (.ifCond .eq off, 3)) (ht : (pc : Int) + off = (tgt : Int)) (hp : pc + 3 = pc') (kt : x = 0 → GG p l e R s m args below meth c nL D A cells slots Q tgt lv rest ws) (kf : ¬ x = 0 → GG p l e R s m args below meth c nL D A cells slots Q pc' lv rest ws) : GG p l e R s m args below meth c nL D A cells slots Q pc lv (.int x :: rest) ws := by
  subst hp
  intro H locs ls hP hD hS hl
  exact lv_if_eq C.x C.b hdg ht (fun h => kt h H locs ls hP hD hS hl) (fun h => kf h H locs ls hP hD hS hl)
theorem g_if_ne (C : GC p s m args meth c cc nL own ret D dA A) {x : Int32} {off : Int} {tgt : Nat} (hdg : decode cc pc = .ok (.ifCond .ne off, 3)) (ht : (pc : Int) + off = (tgt : Int)) (hp : pc + 3 = pc') (kt : ¬ x = 0 → GG p l e R s m args below meth c nL D A cells slots Q tgt lv rest ws) (kf : x = 0 → GG p l e R s m args below meth c nL D A cells slots Q pc' lv rest ws) : GG p l e R s m args below meth c nL D A cells slots Q pc lv (.int x :: rest) ws := by
  subst hp
  intro H locs ls hP hD hS hl
  exact lv_if_ne C.x C.b hdg ht (fun h => kt h H locs ls hP hD hS hl) (fun h => kf h H locs ls hP hD hS hl)
theorem g_if_lt (C : GC p s m args meth c cc nL own ret D dA A) {x : Int32} {off : Int} {tgt : Nat} (hdg : decode cc pc = .ok (.ifCond .lt off, 3)) (ht : (pc : Int) + off = (tgt : Int)) (hp : pc + 3 = pc') (kt : x < 0 → GG p l e R s m args below meth c nL D A cells slots Q tgt lv rest ws) (kf : ¬ x < 0 → GG p l e R s m args below meth c nL D A cells slots Q pc' lv rest ws) : GG p l e R s m args below meth c nL D A cells slots Q pc lv (.int x :: rest) ws := by
  subst hp
  intro H locs ls hP hD hS hl
  exact lv_if_lt C.x C.b hdg ht (fun h => kt h H locs ls hP hD hS hl) (fun h => kf h H locs ls hP hD hS hl)
theorem g_if_ge (C : GC p s m args meth c cc nL own ret D dA A) {x : Int32} {off : Int} {tgt : Nat} (hdg : decode cc pc = .ok (.ifCond .ge off, 3)) (ht : (pc : Int) + off = (tgt : Int)) (hp : pc + 3 = pc') (kt : 0 ≤ x → GG p l e R s m args below meth c nL D A cells slots Q tgt lv rest ws) (kf : ¬ 0 ≤ x → GG p l e R s m args below meth c nL D A cells slots Q pc' lv rest ws) : GG p l e R s m args below meth c nL D A cells slots Q pc lv (.int x :: rest) ws := by
  subst hp
  intro H locs ls hP hD hS hl
  exact lv_if_ge C.x C.b hdg ht (fun h => kt h H locs ls hP hD hS hl) (fun h => kf h H locs ls hP hD hS hl)
theorem g_if_gt (C : GC p s m args meth c cc nL own ret D dA A) {x : Int32} {off : Int} {tgt : Nat} (hdg : decode cc pc = .ok (.ifCond .gt off, 3)) (ht : (pc : Int) + off = (tgt : Int)) (hp : pc + 3 = pc') (kt : 0 < x → GG p l e R s m args below meth c nL D A cells slots Q tgt lv rest ws) (kf : ¬ 0 < x → GG p l e R s m args below meth c nL D A cells slots Q pc' lv rest ws) : GG p l e R s m args below meth c nL D A cells slots Q pc lv (.int x :: rest) ws := by
  subst hp
  intro H locs ls hP hD hS hl
  exact lv_if_gt C.x C.b hdg ht (fun h => kt h H locs ls hP hD hS hl) (fun h => kf h H locs ls hP hD hS hl)
theorem g_if_le (C : GC p s m args meth c cc nL own ret D dA A) {x : Int32} {off : Int} {tgt : Nat} (hdg : decode cc pc = .ok (.ifCond .le off, 3)) (ht : (pc : Int) + off = (tgt : Int)) (hp : pc + 3 = pc') (kt : x ≤ 0 → GG p l e R s m args below meth c nL D A cells slots Q tgt lv rest ws) (kf : ¬ x ≤ 0 → GG p l e R s m args below meth c nL D A cells slots Q pc' lv rest ws) : GG p l e R s m args below meth c nL D A cells slots Q pc lv (.int x :: rest) ws := by
  subst hp
  intro H locs ls hP hD hS hl
  exact lv_if_le C.x C.b hdg ht (fun h => kt h H locs ls hP hD hS hl) (fun h => kf h H locs ls hP hD hS hl)
theorem g_icmp_eq (C : GC p s m args meth c cc nL own ret D dA A) {x y : Int32} {off : Int} {tgt : Nat} (hdg : decode cc pc = .ok (.if_icmp .eq off, 3)) (ht : (pc : Int) + off = (tgt : Int)) (hp : pc + 3 = pc') (kt : x = y → GG p l e R s m args below meth c nL D A cells slots Q tgt lv rest ws) (kf : ¬ x = y → GG p l e R s m args below meth c nL D A cells slots Q pc' lv rest ws) : GG p l e R s m args below meth c nL D A cells slots Q pc lv (.int y :: .int x :: rest) ws := by
  subst hp
  intro H locs ls hP hD hS hl
  exact lv_icmp_eq C.x C.b hdg ht (fun h => kt h H locs ls hP hD hS hl) (fun h => kf h H locs ls hP hD hS hl)
theorem g_icmp_ne (C : GC p s m args meth c cc nL own ret D dA A) {x y : Int32} {off : Int} {tgt : Nat} (hdg : decode cc pc = .ok (.if_icmp .ne off, 3)) (ht : (pc : Int) + off = (tgt : Int)) (hp : pc + 3 = pc') (kt : ¬ x = y → GG p l e R s m args below meth c nL D A cells slots Q tgt lv rest ws) (kf : x = y → GG p l e R s m args below meth c nL D A cells slots Q pc' lv rest ws) : GG p l e R s m args below meth c nL D A cells slots Q pc lv (.int y :: .int x :: rest) ws := by
  subst hp
  intro H locs ls hP hD hS hl
  exact lv_icmp_ne C.x C.b hdg ht (fun h => kt h H locs ls hP hD hS hl) (fun h => kf h H locs ls hP hD hS hl)
theorem g_icmp_lt (C : GC p s m args meth c cc nL own ret D dA A) {x y : Int32} {off : Int} {tgt : Nat} (hdg : decode cc pc = .ok (.if_icmp .lt off, 3)) (ht : (pc : Int) + off = (tgt : Int)) (hp : pc + 3 = pc') (kt : x < y → GG p l e R s m args below meth c nL D A cells slots Q tgt lv rest ws) (kf : ¬ x < y → GG p l e R s m args below meth c nL D A cells slots Q pc' lv rest ws) : GG p l e R s m args below meth c nL D A cells slots Q pc lv (.int y :: .int x :: rest) ws := by
  subst hp
  intro H locs ls hP hD hS hl
  exact lv_icmp_lt C.x C.b hdg ht (fun h => kt h H locs ls hP hD hS hl) (fun h => kf h H locs ls hP hD hS hl)
theorem g_icmp_ge (C : GC p s m args meth c cc nL own ret D dA A) {x y : Int32} {off : Int} {tgt : Nat} (hdg : decode cc pc = .ok (.if_icmp .ge off, 3)) (ht : (pc : Int) + off = (tgt : Int)) (hp : pc + 3 = pc') (kt : y ≤ x → GG p l e R s m args below meth c nL D A cells slots Q tgt lv rest ws) (kf : ¬ y ≤ x → GG p l e R s m args below meth c nL D A cells slots Q pc' lv rest ws) : GG p l e R s m args below meth c nL D A cells slots Q pc lv (.int y :: .int x :: rest) ws := by
  subst hp
  intro H locs ls hP hD hS hl
  exact lv_icmp_ge C.x C.b hdg ht (fun h => kt h H locs ls hP hD hS hl) (fun h => kf h H locs ls hP hD hS hl)
theorem g_icmp_gt (C : GC p s m args meth c cc nL own ret D dA A) {x y : Int32} {off : Int} {tgt : Nat} (hdg : decode cc pc = .ok (.if_icmp .gt off, 3)) (ht : (pc : Int) + off = (tgt : Int)) (hp : pc + 3 = pc') (kt : y < x → GG p l e R s m args below meth c nL D A cells slots Q tgt lv rest ws) (kf : ¬ y < x → GG p l e R s m args below meth c nL D A cells slots Q pc' lv rest ws) : GG p l e R s m args below meth c nL D A cells slots Q pc lv (.int y :: .int x :: rest) ws := by
  subst hp
  intro H locs ls hP hD hS hl
  exact lv_icmp_gt C.x C.b hdg ht (fun h => kt h H locs ls hP hD hS hl) (fun h => kf h H locs ls hP hD hS hl)
theorem g_icmp_le (C : GC p s m args meth c cc nL own ret D dA A) {x y : Int32} {off : Int} {tgt : Nat} (hdg : decode cc pc = .ok (.if_icmp .le off, 3)) (ht : (pc : Int) + off = (tgt : Int)) (hp : pc + 3 = pc') (kt : x ≤ y → GG p l e R s m args below meth c nL D A cells slots Q tgt lv rest ws) (kf : ¬ x ≤ y → GG p l e R s m args below meth c nL D A cells slots Q pc' lv rest ws) : GG p l e R s m args below meth c nL D A cells slots Q pc lv (.int y :: .int x :: rest) ws := by
  subst hp
  intro H locs ls hP hD hS hl
  exact lv_icmp_le C.x C.b hdg ht (fun h => kt h H locs ls hP hD hS hl) (fun h => kf h H locs ls hP hD hS hl)
theorem b2i_0 {b : Bool} : b2i b = 0 ↔ b = false := by cases b <;> decide
theorem b2i_n {b : Bool} : ¬ b2i b = 0 ↔ b = true := by cases b <;> decide
theorem g_if_eqb (C : GC p s m args meth c cc nL own ret D dA A) {b : Bool} {off : Int} {tgt : Nat} (hdg : decode cc pc = .ok (.ifCond .eq off, 3)) (ht : (pc : Int) + off = (tgt : Int)) (hp : pc + 3 = pc') (kt : b = false → GG p l e R s m args below meth c nL D A cells slots Q tgt lv rest ws) (kf : b = true → GG p l e R s m args below meth c nL D A cells slots Q pc' lv rest ws) : GG p l e R s m args below meth c nL D A cells slots Q pc lv (.int (b2i b) :: rest) ws := g_if_eq C hdg ht hp (fun h => kt (b2i_0.mp h)) (fun h => kf (b2i_n.mp h))
theorem g_if_neb (C : GC p s m args meth c cc nL own ret D dA A) {b : Bool} {off : Int} {tgt : Nat} (hdg : decode cc pc = .ok (.ifCond .ne off, 3)) (ht : (pc : Int) + off = (tgt : Int)) (hp : pc + 3 = pc') (kt : b = true → GG p l e R s m args below meth c nL D A cells slots Q tgt lv rest ws) (kf : b = false → GG p l e R s m args below meth c nL D A cells slots Q pc' lv rest ws) : GG p l e R s m args below meth c nL D A cells slots Q pc lv (.int (b2i b) :: rest) ws := g_if_ne C hdg ht hp (fun h => kt (b2i_n.mp h)) (fun h => kf (b2i_0.mp h))
theorem g_goto (C : GC p s m args meth c cc nL own ret D dA A) {off : Int} {tgt : Nat} (hdg : decode cc pc = .ok (.goto off, 3)) (ht : (pc : Int) + off = (tgt : Int)) (k : GG p l e R s m args below meth c nL D A cells slots Q tgt lv rest ws) : GG p l e R s m args below meth c nL D A cells slots Q pc lv rest ws := fun H locs ls hP hD hS hl => lv_goto C.x C.b hdg ht (k H locs ls hP hD hS hl)
theorem g_lookup (C : GC p s m args meth c cc nL own ret D dA A) {dflt : Int} {ps : Array (Int × Int)} {len : Nat} {x : Int32} {off : Int} {tgt : Nat} (hdg : decode cc pc = .ok (.lookupswitch dflt ps, len)) (hs : (ps.toList.zip (ps.toList.drop 1)).all (fun (a, next) => a.1 < next.1) = true) (ho : Op.lookupswitch.offset ps.toList dflt x.toInt = off) (ht : (pc : Int) + off = (tgt : Int)) (k : GG p l e R s m args below meth c nL D A cells slots Q tgt lv rest ws) : GG p l e R s m args below meth c nL D A cells slots Q pc lv (.int x :: rest) ws := fun H locs ls hP hD hS hl => lv_lookup C.x C.b hdg hs ho ht (k H locs ls hP hD hS hl)
theorem g_tableOut (C : GC p s m args meth c cc nL own ret D dA A) {dflt lo hi : Int} {offs : Array Int} {len : Nat} {x : Int32} {tgt : Nat} (hdg : decode cc pc = .ok (.tableswitch dflt lo hi offs, len)) (h : x.toInt < lo ∨ hi < x.toInt) (ht : (pc : Int) + dflt = (tgt : Int)) (k : GG p l e R s m args below meth c nL D A cells slots Q tgt lv rest ws) : GG p l e R s m args below meth c nL D A cells slots Q pc lv (.int x :: rest) ws := fun H locs ls hP hD hS hl => lv_tableOut C.x C.b hdg h ht (k H locs ls hP hD hS hl)
theorem g_tableIn (C : GC p s m args meth c cc nL own ret D dA A) {dflt lo hi : Int} {offs : Array Int} {len : Nat} {x : Int32} {off : Int} {tgt : Nat} (hdg : decode cc pc = .ok (.tableswitch dflt lo hi offs, len)) (h1 : ¬ x.toInt < lo) (h2 : ¬ hi < x.toInt) (ho : offs[(x.toInt - lo).toNat]? = some off) (ht : (pc : Int) + off = (tgt : Int)) (k : GG p l e R s m args below meth c nL D A cells slots Q tgt lv rest ws) : GG p l e R s m args below meth c nL D A cells slots Q pc lv (.int x :: rest) ws := fun H locs ls hP hD hS hl => lv_tableIn C.x C.b hdg h1 h2 ho ht (k H locs ls hP hD hS hl)
/-- what the tables say of a class: its number in 'classes', its fields -/
def KF (ci : Nat) (Cn : String) (T : u_T) (N : Nat) (ty : Nat → FieldType) : Prop := classes[ci]? = some (Cn, T, N) ∧ (∀ w ∈ u_ws Cn T N, w ∈ g_tbl) ∧ (∀ k, k < N → parseFieldDescriptor (T k).2.2.1 = some (ty k)) ∧ (∀ a, a < N → ∀ b, b < N → a ≠ b → (T a).2.1 ≠ (T b).2.1)
theorem g_get (C : GC p s m args meth c cc nL own ret D dA A) {ci N index a : Nat} {Cn : String} {T : u_T} {ty : Nat → FieldType} {fs : List Value} {v : Value} (F : KF ci Cn T N ty) (k : Nat) (hlink : Cond.fieldLink own index (T k).1 (T k).2.1 (T k).2.2.1 ∈ g_tbl) (hdg : decode cc pc = .ok (.getfield index, 3)) (hp : pc + 3 = pc') (q0 : Nat) (he : ws[q0]? = some (a, .inr (ci, fs))) (hk : k < N) (hv : fs[k]? = some v) (kk : GG p l e R s m args below meth c nL D A cells slots Q pc' lv (v :: rest) ws) : GG p l e R s m args below meth c nL D A cells slots Q pc lv (.ref a :: rest) ws := by
  subst hp
  intro H locs ls hP hD hS hl
  exact va_get C.x C.b C.ts F.2.1 C.ow C.K hP q0 he F.1 k hk (C.w hlink) (fun _ h => h) hv hdg (kk H locs ls hP hD hS hl)
theorem g_put (C : GC p s m args meth c cc nL own ret D dA A) {ci N index a : Nat} {Cn : String} {T : u_T} {ty : Nat → FieldType} {fs : List Value} {v : Value} {ws' : va_W} (F : KF ci Cn T N ty) (k : Nat) (hlink : Cond.fieldLink own index (T k).1 (T k).2.1 (T k).2.2.1 ∈ g_tbl) (hdg : decode cc pc = .ok (.putfield index, 3)) (hp : pc + 3 = pc') (q0 : Nat) (he : ws[q0]? = some (a, .inr (ci, fs))) (hk : k < N) (hfin : (T k).2.2.2 = false) (hn : narrow (ty k) v = v) (hfit : fits (ty k) v = true) (hlen : k < fs.length) (hws : ws.set q0 (a, .inr (ci, fs.set k v)) = ws') (kk : GG p l e R s m args below meth c nL D A cells slots Q pc' lv rest ws') : GG p l e R s m args below meth c nL D A cells slots Q pc lv (v :: .ref a :: rest) ws := by
  subst hp
  subst hws
  intro H locs ls hP hD hS hl
  exact va_put C.x C.b C.ts F.2.1 ty F.2.2.1 F.2.2.2 C.ow C.K hP hD hS q0 he F.1 k hk (C.w hlink) (fun _ h => h) hfin (F.2.2.1 k hk) hn hfit hlen hdg (fun H1 locs1 hP1 hD1 hS1 => kk H1 locs1 ls hP1 hD1 hS1 hl)
theorem g_putF (C : GC p s m args meth c cc nL own ret D dA A) {ci N index a : Nat} {Cn : String} {T : u_T} {ty : Nat → FieldType} {fs : List Value} {v : Value} {ws' : va_W} (F : KF ci Cn T N ty) (k : Nat) (hlink : Cond.fieldLink own index (T k).1 (T k).2.1 (T k).2.2.1 ∈ g_tbl) (hdg : decode cc pc = .ok (.putfield index, 3)) (hp : pc + 3 = pc') (q0 : Nat) (he : ws[q0]? = some (a, .inr (ci, fs))) (hk : k < N) (hfin : (T k).2.2.2 = true) (hin : meth.name = "<init>") (hdc : (T k).1 = own) (hn : narrow (ty k) v = v) (hfit : fits (ty k) v = true) (hlen : k < fs.length) (hws : ws.set q0 (a, .inr (ci, fs.set k v)) = ws') (kk : GG p l e R s m args below meth c nL D A cells slots Q pc' lv rest ws') : GG p l e R s m args below meth c nL D A cells slots Q pc lv (v :: .ref a :: rest) ws := by
  subst hp
  subst hws
  intro H locs ls hP hD hS hl
  exact va_putF C.x C.b C.ts F.2.1 ty F.2.2.1 F.2.2.2 C.ow C.K hP hD hS q0 he F.1 k hk (C.w hlink) (fun _ h => h) hfin hin hdc (F.2.2.1 k hk) hn hfit hlen hdg (fun H1 locs1 hP1 hD1 hS1 => kk H1 locs1 ls hP1 hD1 hS1 hl)
theorem g_iald (C : GC p s m args meth c cc nL own ret D dA A) {a n : Nat} {f : Nat → Int32} {i : Int32} (hdg : decode cc pc = .ok (.iaload, 1)) (hp : pc + 1 = pc') (q0 : Nat) (ha : ws[q0]? = some (a, .inl (dA 0, n, .inl f))) (hin : ¬ (i < 0 ∨ n ≤ i.toNatClampNeg)) (kk : GG p l e R s m args below meth c nL D A cells slots Q pc' lv (.int (f i.toNatClampNeg) :: rest) ws) : GG p l e R s m args below meth c nL D A cells slots Q pc lv (.int i :: .ref a :: rest) ws := by
  subst hp
  intro H locs ls hP hD hS hl
  exact va_iald C.x C.b C.K hP q0 0 ha rfl hin hdg (kk H locs ls hP hD hS hl)
theorem g_iast (C : GC p s m args meth c cc nL own ret D dA A) {a n : Nat} {f : Nat → Int32} {i : Int32} {x : Int32} {ws' : va_W} (hdg : decode cc pc = .ok (.iastore, 1)) (hp : pc + 1 = pc') (q0 : Nat) (ha : ws[q0]? = some (a, .inl (dA 0, n, .inl f))) (hin : ¬ (i < 0 ∨ n ≤ i.toNatClampNeg)) (hws : ws.set q0 (a, .inl (dA 0, n, .inl (upd f i.toNatClampNeg x))) = ws') (kk : GG p l e R s m args below meth c nL D A cells slots Q pc' lv rest ws') : GG p l e R s m args below meth c nL D A cells slots Q pc lv (.int x :: .int i :: .ref a :: rest) ws := by
  subst hp
  subst hws
  intro H locs ls hP hD hS hl
  exact va_iast C.x C.b C.K hP hD hS q0 0 ha rfl hin hdg (fun H1 locs1 hP1 hD1 hS1 => kk H1 locs1 ls hP1 hD1 hS1 hl)
theorem g_zald (C : GC p s m args meth c cc nL own ret D dA A) {a n : Nat} {f : Nat → Int32} {i : Int32} (hdg : decode cc pc = .ok (.baload, 1)) (hp : pc + 1 = pc') (q0 : Nat) (ha : ws[q0]? = some (a, .inl (dA 2, n, .inl f))) (hin : ¬ (i < 0 ∨ n ≤ i.toNatClampNeg)) (kk : GG p l e R s m args below meth c nL D A cells slots Q pc' lv (.int (f i.toNatClampNeg) :: rest) ws) : GG p l e R s m args below meth c nL D A cells slots Q pc lv (.int i :: .ref a :: rest) ws := by
  subst hp
  intro H locs ls hP hD hS hl
  exact va_zald C.x C.b C.K hP q0 2 ha rfl hin hdg (kk H locs ls hP hD hS hl)
theorem g_zast (C : GC p s m args meth c cc nL own ret D dA A) {a n : Nat} {f : Nat → Int32} {i : Int32} {x : Int32} {ws' : va_W} (hdg : decode cc pc = .ok (.bastore, 1)) (hp : pc + 1 = pc') (q0 : Nat) (ha : ws[q0]? = some (a, .inl (dA 2, n, .inl f))) (hin : ¬ (i < 0 ∨ n ≤ i.toNatClampNeg)) (hws : ws.set q0 (a, .inl (dA 2, n, .inl (upd f i.toNatClampNeg (vp_nar .boolean x)))) = ws') (kk : GG p l e R s m args below meth c nL D A cells slots Q pc' lv rest ws') : GG p l e R s m args below meth c nL D A cells slots Q pc lv (.int x :: .int i :: .ref a :: rest) ws := by
  subst hp
  subst hws
  intro H locs ls hP hD hS hl
  exact va_zast C.x C.b C.K hP hD hS q0 2 ha rfl hin hdg (fun H1 locs1 hP1 hD1 hS1 => kk H1 locs1 ls hP1 hD1 hS1 hl)
theorem g_bald (C : GC p s m args meth c cc nL own ret D dA A) {a n : Nat} {f : Nat → Int32} {i : Int32} (hdg : decode cc pc = .ok (.baload, 1)) (hp : pc + 1 = pc') (q0 : Nat) (ha : ws[q0]? = some (a, .inl (dA 3, n, .inl f))) (hin : ¬ (i < 0 ∨ n ≤ i.toNatClampNeg)) (kk : GG p l e R s m args below meth c nL D A cells slots Q pc' lv (.int (f i.toNatClampNeg) :: rest) ws) : GG p l e R s m args below meth c nL D A cells slots Q pc lv (.int i :: .ref a :: rest) ws := by
  subst hp
  intro H locs ls hP hD hS hl
  exact va_bald C.x C.b C.K hP q0 3 ha rfl hin hdg (kk H locs ls hP hD hS hl)
theorem g_bast (C : GC p s m args meth c cc nL own ret D dA A) {a n : Nat} {f : Nat → Int32} {i : Int32} {x : Int32} {ws' : va_W} (hdg : decode cc pc = .ok (.bastore, 1)) (hp : pc + 1 = pc') (q0 : Nat) (ha : ws[q0]? = some (a, .inl (dA 3, n, .inl f))) (hin : ¬ (i < 0 ∨ n ≤ i.toNatClampNeg)) (hws : ws.set q0 (a, .inl (dA 3, n, .inl (upd f i.toNatClampNeg (vp_nar .byte x)))) = ws') (kk : GG p l e R s m args below meth c nL D A cells slots Q pc' lv rest ws') : GG p l e R s m args below meth c nL D A cells slots Q pc lv (.int x :: .int i :: .ref a :: rest) ws := by
  subst hp
  subst hws
  intro H locs ls hP hD hS hl
  exact va_bast C.x C.b C.K hP hD hS q0 3 ha rfl hin hdg (fun H1 locs1 hP1 hD1 hS1 => kk H1 locs1 ls hP1 hD1 hS1 hl)
theorem g_sald (C : GC p s m args meth c cc nL own ret D dA A) {a n : Nat} {f : Nat → Int32} {i : Int32} (hdg : decode cc pc = .ok (.saload, 1)) (hp : pc + 1 = pc') (q0 : Nat) (ha : ws[q0]? = some (a, .inl (dA 4, n, .inl f))) (hin : ¬ (i < 0 ∨ n ≤ i.toNatClampNeg)) (kk : GG p l e R s m args below meth c nL D A cells slots Q pc' lv (.int (f i.toNatClampNeg) :: rest) ws) : GG p l e R s m args below meth c nL D A cells slots Q pc lv (.int i :: .ref a :: rest) ws := by
  subst hp
  intro H locs ls hP hD hS hl
  exact va_sald C.x C.b C.K hP q0 4 ha rfl hin hdg (kk H locs ls hP hD hS hl)
theorem g_sast (C : GC p s m args meth c cc nL own ret D dA A) {a n : Nat} {f : Nat → Int32} {i : Int32} {x : Int32} {ws' : va_W} (hdg : decode cc pc = .ok (.sastore, 1)) (hp : pc + 1 = pc') (q0 : Nat) (ha : ws[q0]? = some (a, .inl (dA 4, n, .inl f))) (hin : ¬ (i < 0 ∨ n ≤ i.toNatClampNeg)) (hws : ws.set q0 (a, .inl (dA 4, n, .inl (upd f i.toNatClampNeg (vp_nar .short x)))) = ws') (kk : GG p l e R s m args below meth c nL D A cells slots Q pc' lv rest ws') : GG p l e R s m args below meth c nL D A cells slots Q pc lv (.int x :: .int i :: .ref a :: rest) ws := by
  subst hp
  subst hws
  intro H locs ls hP hD hS hl
  exact va_sast C.x C.b C.K hP hD hS q0 4 ha rfl hin hdg (fun H1 locs1 hP1 hD1 hS1 => kk H1 locs1 ls hP1 hD1 hS1 hl)
theorem g_lald (C : GC p s m args meth c cc nL own ret D dA A) {a n : Nat} {f : Nat → Int64} {i : Int32} (hdg : decode cc pc = .ok (.laload, 1)) (hp : pc + 1 = pc') (q0 : Nat) (ha : ws[q0]? = some (a, .inl (dA 1, n, .inr (.inl f)))) (hin : ¬ (i < 0 ∨ n ≤ i.toNatClampNeg)) (kk : GG p l e R s m args below meth c nL D A cells slots Q pc' lv (.long (f i.toNatClampNeg) :: rest) ws) : GG p l e R s m args below meth c nL D A cells slots Q pc lv (.int i :: .ref a :: rest) ws := by
  subst hp
  intro H locs ls hP hD hS hl
  exact va_lald C.x C.b C.K hP q0 1 ha rfl hin hdg (kk H locs ls hP hD hS hl)
theorem g_last (C : GC p s m args meth c cc nL own ret D dA A) {a n : Nat} {f : Nat → Int64} {i : Int32} {x : Int64} {ws' : va_W} (hdg : decode cc pc = .ok (.lastore, 1)) (hp : pc + 1 = pc') (q0 : Nat) (ha : ws[q0]? = some (a, .inl (dA 1, n, .inr (.inl f)))) (hin : ¬ (i < 0 ∨ n ≤ i.toNatClampNeg)) (hws : ws.set q0 (a, .inl (dA 1, n, .inr (.inl (vp_updL f i.toNatClampNeg x)))) = ws') (kk : GG p l e R s m args below meth c nL D A cells slots Q pc' lv rest ws') : GG p l e R s m args below meth c nL D A cells slots Q pc lv (.long x :: .int i :: .ref a :: rest) ws := by
  subst hp
  subst hws
  intro H locs ls hP hD hS hl
  exact va_last C.x C.b C.K hP hD hS q0 1 ha rfl hin hdg (fun H1 locs1 hP1 hD1 hS1 => kk H1 locs1 ls hP1 hD1 hS1 hl)
theorem g_aald (C : GC p s m args meth c cc nL own ret D dA A) {a n b : Nat} {f : Nat → Option Nat} {i : Int32} (hdg : decode cc pc = .ok (.aaload, 1)) (hp : pc + 1 = pc') (q0 : Nat) (ha : ws[q0]? = some (a, .inl (dA 5, n, .inr (.inr (.inr (.inr f)))))) (hin : ¬ (i < 0 ∨ n ≤ i.toNatClampNeg)) (hb : f i.toNatClampNeg = some b) (kk : GG p l e R s m args below meth c nL D A cells slots Q pc' lv (.ref b :: rest) ws) : GG p l e R s m args below meth c nL D A cells slots Q pc lv (.int i :: .ref a :: rest) ws := by
  subst hp
  intro H locs ls hP hD hS hl
  refine va_aldq (C := "OneLamp$Shelf") C.x C.b C.K hP q0 5 ha rfl hin hdg ?_
  rw [hb]
  exact kk H locs ls hP hD hS hl
theorem g_alen (C : GC p s m args meth c cc nL own ret D dA A) {a : Nat} {x : vp_A} {v : Int32} (hdg : decode cc pc = .ok (.arraylength, 1)) (hp : pc + 1 = pc') (q0 t0 : Nat) (ha : ws[q0]? = some (a, .inl (dA t0, x))) {ty : FieldType} (ht : (g_TY dA)[t0]? = some (dA t0, ty)) (hv : Int32.ofNat x.1 = v) (kk : GG p l e R s m args below meth c nL D A cells slots Q pc' lv (.int v :: rest) ws) : GG p l e R s m args below meth c nL D A cells slots Q pc lv (.ref a :: rest) ws := by
  subst hp
  intro H locs ls hP hD hS hl
  exact va_alen C.x C.b C.K hP q0 t0 ha ht hv hdg (kk H locs ls hP hD hS hl)
section GRET
variable {S : Type} {w' : S → va_W}
theorem cQ_end {A : Nat → Prop} {st t : State} {H : Heap} {locs : List Loc} {a : Array Value} {rv : Option Value} (hP : va_P D classes ws H) (hD : va_D A ws) (hS : va_S A st.heap H locs) (u : S) (hw : w' u = ws) (ht : t.heap = H) : cQ D A rv w' a st (.returned rv) t := ⟨⟨u, rfl, by rw [ht, hw]; exact hP, by rw [hw]; exact hD⟩, hS.F ht⟩
theorem b2i_nar (b : Bool) : narrow .boolean (.int (b2i b)) = .int (b2i b) := by cases b <;> rfl
theorem g_iret (C : GC p s m args meth c cc nL own (some .int) D dA A) {v : Int32} (hdg : decode cc pc = .ok (.ireturn, 1)) (u : S) (hw : w' u = ws) : GG p l e R s m args below meth c nL D A cells slots (MQ below (cQ D A (some (.int v)) w') args s cells slots A) pc lv [.int v] ws := fun H locs ls hP hD hS hl => W.iret C.x C.b C.r (fun _ ht _ => cQ_end hP hD hS u hw ht) hS.2.2 hdg C.lk
theorem g_zret (C : GC p s m args meth c cc nL own (some .boolean) D dA A) {b : Bool} (hdg : decode cc pc = .ok (.ireturn, 1)) (u : S) (hw : w' u = ws) : GG p l e R s m args below meth c nL D A cells slots (MQ below (cQ D A (some (.int (b2i b))) w') args s cells slots A) pc lv [.int (b2i b)] ws := fun H locs ls hP hD hS hl => W.zret C.x C.b C.r (b2i_nar b) (fun _ ht _ => cQ_end hP hD hS u hw ht) hS.2.2 hdg C.lk
theorem g_lret (C : GC p s m args meth c cc nL own (some .long) D dA A) {v : Int64} (hdg : decode cc pc = .ok (.lreturn, 1)) (u : S) (hw : w' u = ws) : GG p l e R s m args below meth c nL D A cells slots (MQ below (cQ D A (some (.long v)) w') args s cells slots A) pc lv [.long v] ws := fun H locs ls hP hD hS hl => W.lret C.x C.b C.r (fun _ ht _ => cQ_end hP hD hS u hw ht) hS.2.2 hdg C.lk
theorem g_vret (C : GC p s m args meth c cc nL own none D dA A) (hdg : decode cc pc = .ok (.return_, 1)) (u : S) (hw : w' u = ws) : GG p l e R s m args below meth c nL D A cells slots (MQ below (cQ D A none w') args s cells slots A) pc lv [] ws := fun H locs ls hP hD hS hl => W.vret C.x C.b C.r (fun _ ht _ => cQ_end hP hD hS u hw ht) hS.2.2 hdg C.lk
end GRET
theorem g_nami {x : Int32} (k : ∀ y : Int32, y = x → GG p l e R s m args below meth c nL D A cells slots Q pc lv (.int y :: rest) ws) : GG p l e R s m args below meth c nL D A cells slots Q pc lv (.int x :: rest) ws := k x rfl
theorem g_naml {x : Int64} (k : ∀ y : Int64, y = x → GG p l e R s m args below meth c nL D A cells slots Q pc lv (.long y :: rest) ws) : GG p l e R s m args below meth c nL D A cells slots Q pc lv (.long x :: rest) ws := k x rfl
theorem g_eqi {x y : Int32} (h : x = y) (k : GG p l e R s m args below meth c nL D A cells slots Q pc lv (.int y :: rest) ws) : GG p l e R s m args below meth c nL D A cells slots Q pc lv (.int x :: rest) ws := h ▸ k
theorem g_widen {k n : Nat} (h1 : cells ≤ k) (h2 : slots ≤ n) (kk : GG p l e R s m args below meth c nL D A k n Q pc lv rest ws) : GG p l e R s m args below meth c nL D A cells slots Q pc lv rest ws := fun H locs ls hP hD hS hl => W.widen h1 h2 (kk H locs ls hP hD hS hl)
theorem g_lv {lv' : List (Nat × Value)} (ks : List Nat) (h : lv_pick lv ks = lv') (kk : GG p l e R s m args below meth c nL D A cells slots Q pc lv' rest ws) : GG p l e R s m args below meth c nL D A cells slots Q pc lv rest ws := fun H locs ls hP hD hS hl => kk H locs ls hP hD hS (lv_sub hl ks h)
end GR
