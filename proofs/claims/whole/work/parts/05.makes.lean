/-! THE LAYER's rows for the static tables, for copies of longs, for what constructors make -/
section GMAKE
variable {p : Program} {l : Launch} {e : Env} {R : Room} {s : State} {m : MethodId} {args : Array Value} {below : List Frame} {meth : Method} {c : Code} {cells slots : Nat} {Q : State → Prop}
variable {cc : ByteArray} {nL : Nat} {own : String} {ret : Option FieldType} {D : va_G} {dA : Nat → ClassId} {A : Nat → Prop} {pc pc' : Nat} {lv : List (Nat × Value)} {rest st : List Value} {ws : va_W} {index : Nat}
theorem g_copyl {ws' : va_W} {a0 a n0 n1 : Nat} {f g : Nat → Int64} {sp dp n : Int32} (C : GC p s m args meth c cc nL own ret D dA A) (hlink : Cond.methodLink own index arraycopyName ∈ g_tbl) (hnat : Cond.native arraycopyName ∈ g_tbl) (hsta : Cond.static arraycopyName ∈ g_tbl) (hini : Cond.initialized "java/lang/System" ∈ g_tbl) (hdg : decode cc pc = .ok (.invokestatic index, 3)) (hp : pc + 3 = pc') (q0 q1 : Nat) (ha0 : ws[q0]? = some (a0, .inl (dA 1, n0, .inr (.inl f)))) (ha1 : ws[q1]? = some (a, .inl (dA 1, n1, .inr (.inl g))))
    (h1 : ¬ sp < 0) (h2 : ¬ dp < 0) (h3 : ¬ n < 0) (h4 : sp.toNatClampNeg + n.toNatClampNeg ≤ n0) (h5 : dp.toNatClampNeg + n.toNatClampNeg ≤ n1) (hframes : 1 ≤ R.frames) (hlocals : (rest.map fun v => v.category).sum + (nativeFrameWords "java/lang/System" "arraycopy" 5 + 11) ≤ R.locals) (hws : ws.set q1 (a, .inl (dA 1, n1, .inr (.inl (va_cpy f g sp.toNatClampNeg dp.toNatClampNeg n.toNatClampNeg)))) = ws')
    (k : GG p l e R s m args below meth c nL D A cells slots Q pc' lv rest ws') : GG p l e R s m args below meth c nL D A cells slots Q pc lv (.int n :: .int dp :: .ref a :: .int sp :: .ref a0 :: rest) ws := by
  subst hp; subst hws
  intro H locs ls hP hD hS hl
  exact va_copyl C.x C.b (C.ml.trans hl.1.symm) C.ow (C.w hlink) (C.w hnat) (C.w hsta) (C.w hini) C.K hP hD hS q0 q1 1 1 (ty := .long) ha0 ha1 rfl rfl rfl h1 h2 h3 h4 h5 (fun _ _ => rfl) hframes hlocals hdg (fun H1 locs1 hP1 hD1 hS1 => k H1 locs1 ls hP1 hD1 hS1 hl)
/-- the tables' addresses come by these two rows -/
theorem g_above (C : GC p s m args meth c cc nL own ret D dA A) (hlink : Cond.fieldLink own index "OneLamp$Acts" "ABOVE" "[I" ∈ g_tbl) (hdg : decode cc pc = .ok (.getstatic index, 3)) (hp : pc + 3 = pc') (k : ∀ t : Nat, va_T .int t 8 (fun j => .int (g_ABOVE j)) A s s.heap → GG p l e R s m args below meth c nL D A cells slots Q pc' lv (.ref t :: rest) ws) : GG p l e R s m args below meth c nL D A cells slots Q pc lv rest ws := by
  subst hp
  intro H locs ls hP hD hS hl
  obtain ⟨-, ⟨t, h1, h2⟩, -⟩ := C.Z
  exact va_gets C.x C.b h1 hS C.ow (C.w hlink) (fun _ h => h) hdg (k t h2 H locs ls hP hD hS hl)
theorem g_body (C : GC p s m args meth c cc nL own ret D dA A) (hlink : Cond.fieldLink own index "OneLamp$Acts" "BODY_OF" "[I" ∈ g_tbl) (hdg : decode cc pc = .ok (.getstatic index, 3)) (hp : pc + 3 = pc') (k : ∀ t : Nat, va_T .int t 32 (fun j => .int (g_BODY j)) A s s.heap → GG p l e R s m args below meth c nL D A cells slots Q pc' lv (.ref t :: rest) ws) : GG p l e R s m args below meth c nL D A cells slots Q pc lv rest ws := by
  subst hp
  intro H locs ls hP hD hS hl
  obtain ⟨-, -, ⟨t, h1, h2⟩⟩ := C.Z
  exact va_gets C.x C.b h1 hS C.ow (C.w hlink) (fun _ h => h) hdg (k t h2 H locs ls hP hD hS hl)
theorem g_tald (C : GC p s m args meth c cc nL own ret D dA A) {t N : Nat} {f : Nat → Int32} {i : Int32} (hT : va_T .int t N (fun j => .int (f j)) A s s.heap) (hdg : decode cc pc = .ok (.iaload, 1)) (hp : pc + 1 = pc') (hin : ¬ (i < 0 ∨ N ≤ i.toNatClampNeg)) (k : GG p l e R s m args below meth c nL D A cells slots Q pc' lv (.int (f i.toNatClampNeg) :: rest) ws) : GG p l e R s m args below meth c nL D A cells slots Q pc lv (.int i :: .ref t :: rest) ws := by
  subst hp
  intro H locs ls hP hD hS hl
  exact va_ti C.x C.b hT hS hin rfl hdg (k H locs ls hP hD hS hl)
theorem g_tlen (C : GC p s m args meth c cc nL own ret D dA A) {t N : Nat} {f : Nat → Value} {v : Int32} {ty : FieldType} (hT : va_T ty t N f A s s.heap) (hdg : decode cc pc = .ok (.arraylength, 1)) (hp : pc + 1 = pc') (hv : Int32.ofNat N = v) (k : GG p l e R s m args below meth c nL D A cells slots Q pc' lv (.int v :: rest) ws) : GG p l e R s m args below meth c nL D A cells slots Q pc lv (.ref t :: rest) ws := by
  subst hp
  intro H locs ls hP hD hS hl
  exact va_tlen C.x C.b hT hS hv hdg (k H locs ls hP hD hS hl)
/-- new objects, new arrays -/
theorem g_new {ci N cells' slots' : Nat} {Cn : String} {T : u_T} {ty : Nat → FieldType} {fs : List Value} (C : GC p s m args meth c cc nL own ret D dA A) (F : KF ci Cn T N ty) (hcl : Cond.classLink own index Cn ∈ g_tbl) (hinst : Cond.instantiable Cn N ∈ g_tbl) (hini : Cond.initialized Cn ∈ g_tbl) (hdg : decode cc pc = .ok (.new index, 3)) (hp : pc + 3 = pc') (hfs : ∀ j, j < N → defaultValue (ty j) = vp_V fs j) (hc : cells + 1 = cells') (hs : slots + N = slots') (hc2 : cells' ≤ R.cells) (hs2 : slots' ≤ R.slots)
    (k : ∀ q : Nat, GG p l e R s m args below meth c nL D A cells' slots' Q pc' lv (.ref q :: rest) (ws ++ [(q, .inr (ci, fs))])) : GG p l e R s m args below meth c nL D A cells slots Q pc lv rest ws := by
  subst hp; subst hc; subst hs
  intro H locs ls hP hD hS hl
  exact va_new C.x C.b C.ts F.2.1 ty F.2.2.1 C.ow (C.w hcl) (C.w hinst) (C.w hini) C.K hP hD hS C.aa F.1 hfs hc2 hs2 hdg (fun q H1 hP1 hD1 hS1 => k q H1 locs ls hP1 hD1 hS1 hl)
theorem g_newa {at' : ArrayType} {ty : FieldType} {t0 N cells' slots' : Nat} {n : Int32} {a0 : vp_A} (C : GC p s m args meth c cc nL own ret D dA A) (harr : Cond.arrayClass (newarray.typeOf at') ∈ g_tbl) (hty : newarray.typeOf at' = ty) (hprim : refKind ty = false) (ht : (g_TY dA)[t0]? = some (dA t0, ty)) (ha : ∀ cA : ClassId, vp_cell cA a0 = arrV cA N (fun _ => defaultValue ty)) (hn : ¬ n < 0) (hN : n.toNatClampNeg = N) (hbytes : N * componentBytes ty ≤ 536870912) (hdg : decode cc pc = .ok (.newarray at', 2)) (hp : pc + 2 = pc') (hc : cells + 1 = cells') (hs : slots + N = slots') (hc2 : cells' ≤ R.cells) (hs2 : slots' ≤ R.slots)
    (k : ∀ q : Nat, GG p l e R s m args below meth c nL D A cells' slots' Q pc' lv (.ref q :: rest) (ws ++ [(q, .inl (dA t0, a0))])) : GG p l e R s m args below meth c nL D A cells slots Q pc lv (.int n :: rest) ws := by
  subst hp; subst hc; subst hs
  intro H locs ls hP hD hS hl
  refine va_newa (ty := ty) C.x C.b (C.w harr) hty C.K hP hD hS C.aa ha hn hN hbytes hc2 hs2 hdg (fun q cA H1 hK1 hP1 hD1 hS1 => ?_)
  have e : cA = dA t0 := by
    have h1 := (C.K.2 t0 _ ht).2
    have h2 := (hK1.2 (g_TY dA).length (cA, ty) (by rw [List.getElem?_append_right (Nat.le_refl _), Nat.sub_self]; rfl)).2
    cases ty with
    | object C => cases hprim
    | _ => exact Option.some.inj (h2.symm.trans h1)
  subst e
  exact k q H1 locs ls hP1 hD1 hS1 hl
theorem g_newq {N cells' slots' : Nat} {n : Int32} (C : GC p s m args meth c cc nL own ret D dA A) (hcl : Cond.classLink own index "OneLamp$Shelf" ∈ g_tbl) (hn : ¬ n < 0) (hN : n.toNatClampNeg = N) (hbytes : N * 4 ≤ 536870912) (hdg : decode cc pc = .ok (.anewarray index, 3)) (hp : pc + 3 = pc') (hc : cells + 1 = cells') (hs : slots + N = slots') (hc2 : cells' ≤ R.cells) (hs2 : slots' ≤ R.slots)
    (k : ∀ q : Nat, GG p l e R s m args below meth c nL D A cells' slots' Q pc' lv (.ref q :: rest) (ws ++ [(q, .inl (dA 5, N, .inr (.inr (.inr (.inr (fun _ => none))))))])) : GG p l e R s m args below meth c nL D A cells slots Q pc lv (.int n :: rest) ws := by
  subst hp; subst hc; subst hs
  intro H locs ls hP hD hS hl
  refine va_newq C.x C.b C.ow (C.w hcl) C.Z.1 C.K hP hD hS C.aa hn hN hbytes hc2 hs2 hdg (fun q cA H1 hK1 hP1 hD1 hS1 => ?_)
  have e : cA = dA 5 := by
    obtain ⟨_, _, _, _, _, h1⟩ := (C.K.2 5 (dA 5, .object "OneLamp$Shelf") rfl).2
    obtain ⟨_, _, _, _, _, h2⟩ := (hK1.2 (g_TY dA).length (cA, .object "OneLamp$Shelf") (by rw [List.getElem?_append_right (Nat.le_refl _), Nat.sub_self]; rfl)).2
    exact Option.some.inj (h2.symm.trans h1)
  subst e
  exact k q H1 locs ls hP1 hD1 hS1 hl
theorem g_aast {ws' : va_W} {a n v : Nat} {vs : List Value} {f : Nat → Option Nat} {i : Int32} {ty : Nat → FieldType} {T : u_T} {N ci : Nat} (C : GC p s m args meth c cc nL own ret D dA A) (F : KF ci "OneLamp$Shelf" T N ty) (hdg : decode cc pc = .ok (.aastore, 1)) (hp : pc + 1 = pc') (q0 qk : Nat) (ha : ws[q0]? = some (a, .inl (dA 5, n, .inr (.inr (.inr (.inr f)))))) (hv : ws[qk]? = some (v, .inr (ci, vs))) (hin : ¬ (i < 0 ∨ n ≤ i.toNatClampNeg)) (hws : ws.set q0 (a, .inl (dA 5, n, .inr (.inr (.inr (.inr (va_up f i.toNatClampNeg (some v))))))) = ws')
    (k : GG p l e R s m args below meth c nL D A cells slots Q pc' lv rest ws') : GG p l e R s m args below meth c nL D A cells slots Q pc lv (.ref v :: .int i :: .ref a :: rest) ws := by
  subst hp; subst hws
  intro H locs ls hP hD hS hl
  exact va_astq (r := ("OneLamp$Shelf", T, N)) C.x C.b C.K hP hD hS q0 5 qk ci ha rfl hv F.1 hin hdg (fun H1 locs1 hP1 hD1 hS1 => k H1 locs1 ls hP1 hD1 hS1 hl)
theorem g_obj {a : Nat} (C : GC p s m args meth c cc nL own ret D dA A) (hlink : Cond.methodLink own index Lib.objectInit ∈ g_tbl) (hinst : Cond.instanceMethod Lib.objectInit ∈ g_tbl) (hcode : Cond.code Lib.objectInit ⟨#[0xb1]⟩ 1 none ∈ g_tbl) (hdg : decode cc pc = .ok (.invokespecial index, 3)) (hp : pc + 3 = pc') (hframes : 1 ≤ R.frames) (hlocals : (rest.map fun v => v.category).sum + 12 ≤ R.locals) (k : GG p l e R s m args below meth c nL D A cells slots Q pc' lv rest ws) : GG p l e R s m args below meth c nL D A cells slots Q pc lv (.ref a :: rest) ws := by
  subst hp
  intro H locs ls hP hD hS hl
  refine W.objInit C.x C.b C.ow (C.w hlink) (C.w hinst) (C.w hcode) rfl (hl.1.trans C.ml.symm) rfl hdg hframes ?_ (k H locs ls hP hD hS hl)
  show 2 * 0 + _ + 12 ≤ _
  omega
end GMAKE
