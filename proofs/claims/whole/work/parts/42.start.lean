/-! THE CLAIM OUT OF ONE WALK OF THE LAW'S BODY. Your part is whole_start (and what it stands on); all else here is the same for every law, but numbers. -/
def R_law : String := "OneLampLaw"
def lw_P (b : Addr) (xs : List Int32) (args : Array Value) (s : State) : Prop := args = #[.ref b] ∧ s.IntsAt b xs ∧ xs.length ≤ 384 ∧ (Jvm.Cond.and given_1 narrow_1).before args s = true
def lw_Q (_ : Array Value) (s : State) (o : Outcome) (t : State) : Prop := o = .returned (some (.int 1)) ∧ Framed s o t [] 600000 7302250
def lw_Z (below : List Frame) (a : Array Value) (s : State) : State → Prop := fun t => ∃ o, t.status = .running ∧ Ended t below o ∧ lw_Q a s o t
/-- the law's own end, with 1 on the stack, nothing written that was there before, its room as the claim has it -/
theorem lw_ret {p : Program} {l : Launch} {e : Env} {s : State} {m : MethodId} {below : List Frame} {meth : Method} {c : Code} {b : Nat} (hx : p.tables.exec = Jvm.exec) (hb : c.code = code) (hr : meth.sig.returnType = ret) (hlocks : meth.locks = false) {pc : Nat} {H : Heap} {ls : Array Slot} (hdg : decode code pc = .ok (.ireturn, 1)) : W p l e room_1 s m #[Value.ref b] below meth c H [] 600000 7302250 (lw_Z below #[Value.ref b] s) (F0 m pc ls [.int 1]) := by
  intro T hT X
  obtain ⟨fs, hret, hrun, hended, hW, hframe⟩ := X.leave (v := some (.int 1)) (hlocks := hlocks) (fun h => by rw [hr] at h; cases h)
  have hmeth' : T.vm.method? m = some meth := X.method'
  refine ⟨T.setFrames fs, ?_, .returned (some (.int 1)), hrun, hended, rfl, ⟨_, rfl⟩, hW, hframe⟩
  jvm_step X.here [X.here.top, hx, hb, hdg, hmeth', hr, ret, narrow_b1]
  (try refine ⟨rfl, ?_⟩); (try refine ⟨rfl, ?_⟩)
  first | (intro acts; rw [hret _ acts rfl rfl rfl]) | rw [hret _ _ rfl rfl rfl]
  exact Steps.refl _
/-- what holds at the law's entry: the machine, the code, the tables' words (any of lw_tbl by 'hts w (by decide +kernel)'), the script of L ints xs at the cell b, what the Statement gives of the start (any of its parts by flat_of_before) -/
def lw_At (p : Program) (s : State) (m : MethodId) (meth : Method) (c : Code) (b L : Nat) (xs : Nat → Int32) : Prop :=
  p.tables.exec = Jvm.exec ∧ c.code = code ∧ meth.sig.returnType = ret ∧ c.maxLocals = 4 ∧ s.vm.findClass R_law = some m.cls ∧ (∀ w ∈ lw_tbl, w.before #[Value.ref b] s = true) ∧ va_X b L xs s s.heap ∧ b < s.heap.size ∧ meth.locks = false ∧ (Jvm.Cond.and given_1 narrow_1).before #[Value.ref b] s = true
/-! what stands at the law's entry -/
theorem s_prim {args : Array Value} {s : State} {ty : FieldType} (hp : refKind ty = false) (h : (Cond.arrayClass ty).before args s = true) : ∃ cA : ClassId, ArrOfT s cA ty ∧ va_RA s cA ty := by
  obtain ⟨cA, kA, comp, h1, h2, h3⟩ := Cond.arrayClass_spec h
  refine ⟨cA, fun n z => ⟨fun k h => (by cases h), kA, h2, comp, h3⟩, ?_⟩
  cases ty with
  | object C => cases hp
  | _ => exact h1
theorem s_obj {args : Array Value} {s : State} {C : String} (h : (Cond.arrayOver (.object C)).before args s = true) : ∃ cA : ClassId, ArrOfT s cA (.object C) ∧ va_RA s cA (.object C) := by
  obtain ⟨comp, cA, kA, h1, h2, h3, h4, h5⟩ := Cond.arrayOver_spec h
  exact ⟨cA, fun n z => ⟨fun k h => (by cases h), kA, h3, comp, h4⟩, kA, comp, h3, h4, h1, h5⟩
theorem s_known {args : Array Value} {s : State} (hts : ∀ w ∈ g_tbl, w.before args s = true) {ci N : Nat} {Cn : String} {T : u_T} {ty : Nat → FieldType} (F : KF ci Cn T N ty) (hi : Cond.instantiable Cn N ∈ g_tbl) : ∃ (cC : ClassId) (iS : Nat → Nat), ∀ q : vw_C, classes[ci]? = some q → u_Kn s q.1 q.2.1 q.2.2 cC iS := by
  obtain ⟨cC, iS, h⟩ := u_known (C := Cn) (T := T) (N := N) (n := N) hts F.2.1 (hts _ hi)
  refine ⟨cC, iS, fun q hq => ?_⟩
  rw [F.1] at hq
  cases hq
  exact h
theorem s_above {args : Array Value} {s : State} (hts : ∀ w ∈ lw_tbl, w.before args s = true) (hg : (Jvm.Cond.and given_1 narrow_1).before args s = true) {A : Nat → Prop} (hA : ∀ a : Nat, a < s.heap.size → ¬ A a) : ∃ t : Nat, va_Z "OneLamp$Acts" "ABOVE" "[I" (.ref t) A s s.heap ∧ va_T .int t 8 (fun j => .int (g_ABOVE j)) A s s.heap := by
  have hs := flat_of_before _ hg
  have hl : (Term.length (Term.static "OneLamp$Acts" "ABOVE" "[I")).eval args s none [] s = some (.int (Int32.ofNat 8)) := va_eqt (hs (Cond.eq (.length (Term.static "OneLamp$Acts" "ABOVE" "[I")) (.int 8)) (by decide +kernel))
  have hel : ∀ j : Nat, j < 8 → (Term.elem (Term.static "OneLamp$Acts" "ABOVE" "[I") (.int (Int32.ofNat j))).eval args s none [] s = some (.int (g_ABOVE j)) := by
    intro j hj
    match j, hj with
    | 0, _ => exact va_eqt (hs (Cond.eq (.elem (Term.static "OneLamp$Acts" "ABOVE" "[I") (.int 0)) (.int (-1))) (by decide +kernel))
    | 1, _ => exact va_eqt (hs (Cond.eq (.elem (Term.static "OneLamp$Acts" "ABOVE" "[I") (.int 1)) (.int (0))) (by decide +kernel))
    | 2, _ => exact va_eqt (hs (Cond.eq (.elem (Term.static "OneLamp$Acts" "ABOVE" "[I") (.int 2)) (.int (0))) (by decide +kernel))
    | 3, _ => exact va_eqt (hs (Cond.eq (.elem (Term.static "OneLamp$Acts" "ABOVE" "[I") (.int 3)) (.int (2))) (by decide +kernel))
    | 4, _ => exact va_eqt (hs (Cond.eq (.elem (Term.static "OneLamp$Acts" "ABOVE" "[I") (.int 4)) (.int (1))) (by decide +kernel))
    | 5, _ => exact va_eqt (hs (Cond.eq (.elem (Term.static "OneLamp$Acts" "ABOVE" "[I") (.int 5)) (.int (4))) (by decide +kernel))
    | 6, _ => exact va_eqt (hs (Cond.eq (.elem (Term.static "OneLamp$Acts" "ABOVE" "[I") (.int 6)) (.int (0))) (by decide +kernel))
    | 7, _ => exact va_eqt (hs (Cond.eq (.elem (Term.static "OneLamp$Acts" "ABOVE" "[I") (.int 7)) (.int (6))) (by decide +kernel))
    | j + 8, h => exact absurd h (by omega)
  obtain ⟨t, h1, h2⟩ := va_Tof (f := fun j => .int (g_ABOVE j)) (A := A) (by decide) (hs (Cond.arrayOf (Term.static "OneLamp$Acts" "ABOVE" "[I") .int) (by decide +kernel)) hl hel hA
  exact ⟨t, va_Zref (hts _ (show Cond.laysStatic "OneLamp$Acts" "ABOVE" "[I" ∈ lw_tbl from (List.mem_append_right _ (List.mem_append_right _ (List.mem_append_right _ (List.mem_append_right _ (List.mem_append_left _ (List.mem_of_getElem? (i := 34) rfl)))))))) (hts _ (tg_all _ mw_1_10).1) h1 hA, h2⟩
theorem s_body {args : Array Value} {s : State} (hts : ∀ w ∈ lw_tbl, w.before args s = true) (hg : (Jvm.Cond.and given_1 narrow_1).before args s = true) {A : Nat → Prop} (hA : ∀ a : Nat, a < s.heap.size → ¬ A a) : ∃ t : Nat, va_Z "OneLamp$Acts" "BODY_OF" "[I" (.ref t) A s s.heap ∧ va_T .int t 32 (fun j => .int (g_BODY j)) A s s.heap := by
  have hs := flat_of_before _ hg
  have hl : (Term.length (Term.static "OneLamp$Acts" "BODY_OF" "[I")).eval args s none [] s = some (.int (Int32.ofNat 32)) := va_eqt (hs (Cond.eq (.length (Term.static "OneLamp$Acts" "BODY_OF" "[I")) (.int 32)) (by decide +kernel))
  have hel : ∀ j : Nat, j < 32 → (Term.elem (Term.static "OneLamp$Acts" "BODY_OF" "[I") (.int (Int32.ofNat j))).eval args s none [] s = some (.int (g_BODY j)) := by
    intro j hj
    match j, hj with
    | 0, _ => exact va_eqt (hs (Cond.eq (.elem (Term.static "OneLamp$Acts" "BODY_OF" "[I") (.int 0)) (.int (1))) (by decide +kernel))
    | 1, _ => exact va_eqt (hs (Cond.eq (.elem (Term.static "OneLamp$Acts" "BODY_OF" "[I") (.int 1)) (.int (20))) (by decide +kernel))
    | 2, _ => exact va_eqt (hs (Cond.eq (.elem (Term.static "OneLamp$Acts" "BODY_OF" "[I") (.int 2)) (.int (0))) (by decide +kernel))
    | 3, _ => exact va_eqt (hs (Cond.eq (.elem (Term.static "OneLamp$Acts" "BODY_OF" "[I") (.int 3)) (.int (0))) (by decide +kernel))
    | 4, _ => exact va_eqt (hs (Cond.eq (.elem (Term.static "OneLamp$Acts" "BODY_OF" "[I") (.int 4)) (.int (0))) (by decide +kernel))
    | 5, _ => exact va_eqt (hs (Cond.eq (.elem (Term.static "OneLamp$Acts" "BODY_OF" "[I") (.int 5)) (.int (0))) (by decide +kernel))
    | 6, _ => exact va_eqt (hs (Cond.eq (.elem (Term.static "OneLamp$Acts" "BODY_OF" "[I") (.int 6)) (.int (70))) (by decide +kernel))
    | 7, _ => exact va_eqt (hs (Cond.eq (.elem (Term.static "OneLamp$Acts" "BODY_OF" "[I") (.int 7)) (.int (81))) (by decide +kernel))
    | 8, _ => exact va_eqt (hs (Cond.eq (.elem (Term.static "OneLamp$Acts" "BODY_OF" "[I") (.int 8)) (.int (10))) (by decide +kernel))
    | 9, _ => exact va_eqt (hs (Cond.eq (.elem (Term.static "OneLamp$Acts" "BODY_OF" "[I") (.int 9)) (.int (0))) (by decide +kernel))
    | 10, _ => exact va_eqt (hs (Cond.eq (.elem (Term.static "OneLamp$Acts" "BODY_OF" "[I") (.int 10)) (.int (30))) (by decide +kernel))
    | 11, _ => exact va_eqt (hs (Cond.eq (.elem (Term.static "OneLamp$Acts" "BODY_OF" "[I") (.int 11)) (.int (41))) (by decide +kernel))
    | 12, _ => exact va_eqt (hs (Cond.eq (.elem (Term.static "OneLamp$Acts" "BODY_OF" "[I") (.int 12)) (.int (0))) (by decide +kernel))
    | 13, _ => exact va_eqt (hs (Cond.eq (.elem (Term.static "OneLamp$Acts" "BODY_OF" "[I") (.int 13)) (.int (0))) (by decide +kernel))
    | 14, _ => exact va_eqt (hs (Cond.eq (.elem (Term.static "OneLamp$Acts" "BODY_OF" "[I") (.int 14)) (.int (0))) (by decide +kernel))
    | 15, _ => exact va_eqt (hs (Cond.eq (.elem (Term.static "OneLamp$Acts" "BODY_OF" "[I") (.int 15)) (.int (80))) (by decide +kernel))
    | 16, _ => exact va_eqt (hs (Cond.eq (.elem (Term.static "OneLamp$Acts" "BODY_OF" "[I") (.int 16)) (.int (11))) (by decide +kernel))
    | 17, _ => exact va_eqt (hs (Cond.eq (.elem (Term.static "OneLamp$Acts" "BODY_OF" "[I") (.int 17)) (.int (0))) (by decide +kernel))
    | 18, _ => exact va_eqt (hs (Cond.eq (.elem (Term.static "OneLamp$Acts" "BODY_OF" "[I") (.int 18)) (.int (0))) (by decide +kernel))
    | 19, _ => exact va_eqt (hs (Cond.eq (.elem (Term.static "OneLamp$Acts" "BODY_OF" "[I") (.int 19)) (.int (40))) (by decide +kernel))
    | 20, _ => exact va_eqt (hs (Cond.eq (.elem (Term.static "OneLamp$Acts" "BODY_OF" "[I") (.int 20)) (.int (0))) (by decide +kernel))
    | 21, _ => exact va_eqt (hs (Cond.eq (.elem (Term.static "OneLamp$Acts" "BODY_OF" "[I") (.int 21)) (.int (60))) (by decide +kernel))
    | 22, _ => exact va_eqt (hs (Cond.eq (.elem (Term.static "OneLamp$Acts" "BODY_OF" "[I") (.int 22)) (.int (0))) (by decide +kernel))
    | 23, _ => exact va_eqt (hs (Cond.eq (.elem (Term.static "OneLamp$Acts" "BODY_OF" "[I") (.int 23)) (.int (0))) (by decide +kernel))
    | 24, _ => exact va_eqt (hs (Cond.eq (.elem (Term.static "OneLamp$Acts" "BODY_OF" "[I") (.int 24)) (.int (2))) (by decide +kernel))
    | 25, _ => exact va_eqt (hs (Cond.eq (.elem (Term.static "OneLamp$Acts" "BODY_OF" "[I") (.int 25)) (.int (0))) (by decide +kernel))
    | 26, _ => exact va_eqt (hs (Cond.eq (.elem (Term.static "OneLamp$Acts" "BODY_OF" "[I") (.int 26)) (.int (0))) (by decide +kernel))
    | 27, _ => exact va_eqt (hs (Cond.eq (.elem (Term.static "OneLamp$Acts" "BODY_OF" "[I") (.int 27)) (.int (0))) (by decide +kernel))
    | 28, _ => exact va_eqt (hs (Cond.eq (.elem (Term.static "OneLamp$Acts" "BODY_OF" "[I") (.int 28)) (.int (50))) (by decide +kernel))
    | 29, _ => exact va_eqt (hs (Cond.eq (.elem (Term.static "OneLamp$Acts" "BODY_OF" "[I") (.int 29)) (.int (61))) (by decide +kernel))
    | 30, _ => exact va_eqt (hs (Cond.eq (.elem (Term.static "OneLamp$Acts" "BODY_OF" "[I") (.int 30)) (.int (0))) (by decide +kernel))
    | 31, _ => exact va_eqt (hs (Cond.eq (.elem (Term.static "OneLamp$Acts" "BODY_OF" "[I") (.int 31)) (.int (0))) (by decide +kernel))
    | j + 32, h => exact absurd h (by omega)
  obtain ⟨t, h1, h2⟩ := va_Tof (f := fun j => .int (g_BODY j)) (A := A) (by decide) (hs (Cond.arrayOf (Term.static "OneLamp$Acts" "BODY_OF" "[I") .int) (by decide +kernel)) hl hel hA
  exact ⟨t, va_Zref (hts _ (show Cond.laysStatic "OneLamp$Acts" "BODY_OF" "[I" ∈ lw_tbl from (List.mem_append_right _ (List.mem_append_right _ (List.mem_append_right _ (List.mem_append_right _ (List.mem_append_left _ (List.mem_of_getElem? (i := 32) rfl)))))))) (hts _ (tg_all _ mw_1_10).1) h1 hA, h2⟩
theorem law_ctx {p : Program} {s : State} {m : MethodId} {meth : Method} {c : Code} {b L : Nat} {xs : Nat → Int32} (C0 : lw_At p s m meth c b L xs) : ∃ (D : va_G) (dA : Nat → ClassId), GC p s m #[Value.ref b] meth c code 4 "OneLampLaw" ret D dA (fun q => s.heap.size ≤ q) := by
  obtain ⟨hx, hb, hr, hml, hown, hts, hX, hbl, hlocks, hgv⟩ := C0
  have hg : ∀ w ∈ g_tbl, w.before #[Value.ref b] s = true := fun w h => hts w (tg_all w h).1
  obtain ⟨c0, i0, k0⟩ := s_known hg kf_OL mw_1_18
  obtain ⟨c1, i1, k1⟩ := s_known hg kf_Wa mw_1_26
  obtain ⟨c2, i2, k2⟩ := s_known hg kf_Pi mw_1_32
  obtain ⟨c3, i3, k3⟩ := s_known hg kf_Ru mw_1_104
  obtain ⟨c4, i4, k4⟩ := s_known hg kf_La mw_1_110
  obtain ⟨c5, i5, k5⟩ := s_known hg kf_Ta mw_1_152
  obtain ⟨c6, i6, k6⟩ := s_known hg kf_Co mw_1_177
  obtain ⟨c7, i7, k7⟩ := s_known hg kf_Th mw_1_208
  obtain ⟨c8, i8, k8⟩ := s_known hg kf_Ac mw_1_235
  obtain ⟨c9, i9, k9⟩ := s_known hg kf_Sh mw_2_20
  obtain ⟨c10, i10, k10⟩ := s_known hg kf_Mo mw_4_134
  obtain ⟨a0, p0⟩ := s_prim (ty := .int) rfl (hg _ mw_1_102)
  obtain ⟨a1, p1⟩ := s_prim (ty := .long) rfl (hg _ mw_1_41)
  obtain ⟨a2, p2⟩ := s_prim (ty := .boolean) rfl (hg _ mw_5_73)
  obtain ⟨a3, p3⟩ := s_prim (ty := .byte) rfl (hg _ mw_5_74)
  obtain ⟨a4, p4⟩ := s_prim (ty := .short) rfl (hg _ mw_5_75)
  have hov : (Cond.arrayOver (.object "OneLamp$Shelf")).before #[Value.ref b] s = true := hts _ ((List.mem_append_right _ (List.mem_append_right _ (List.mem_append_left _ (List.mem_of_getElem? (i := 19) rfl)))))
  obtain ⟨a5, p5⟩ := s_obj hov
  refine ⟨(fun k => match k with | 0 => c0 | 1 => c1 | 2 => c2 | 3 => c3 | 4 => c4 | 5 => c5 | 6 => c6 | 7 => c7 | 8 => c8 | 9 => c9 | _ => c10, fun k => match k with | 0 => i0 | 1 => i1 | 2 => i2 | 3 => i3 | 4 => i4 | 5 => i5 | 6 => i6 | 7 => i7 | 8 => i8 | 9 => i9 | _ => i10), (fun k => match k with | 0 => a0 | 1 => a1 | 2 => a2 | 3 => a3 | 4 => a4 | _ => a5), hx, hb, hml, hown, hg, ⟨fun k q hq => ?_, fun k q hk => ?_⟩, fun q h => h, ⟨va_AO.of hov, s_above hts hgv (fun a h => Nat.not_le.mpr h), s_body hts hgv (fun a h => Nat.not_le.mpr h)⟩, hr, hlocks⟩
  · match k, hq with
    | 0, hq => exact k0 q hq
    | 1, hq => exact k1 q hq
    | 2, hq => exact k2 q hq
    | 3, hq => exact k3 q hq
    | 4, hq => exact k4 q hq
    | 5, hq => exact k5 q hq
    | 6, hq => exact k6 q hq
    | 7, hq => exact k7 q hq
    | 8, hq => exact k8 q hq
    | 9, hq => exact k9 q hq
    | 10, hq => exact k10 q hq
    | k + 11, hq => simp [classes] at hq
  · match k, hk with
    | 0, hk => cases hk; exact p0
    | 1, hk => cases hk; exact p1
    | 2, hk => cases hk; exact p2
    | 3, hk => cases hk; exact p3
    | 4, hk => cases hk; exact p4
    | 5, hk => cases hk; exact p5
    | k + 6, hk => simp [g_TY] at hk
theorem g_sld {p : Program} {l : Launch} {e : Env} {R : Room} {s : State} {m : MethodId} {args : Array Value} {below : List Frame} {meth : Method} {c : Code} {cells slots : Nat} {Q : State → Prop} {cc : ByteArray} {nL : Nat} {own : String} {ret : Option FieldType} {D : va_G} {dA : Nat → ClassId} {pc pc' : Nat} {lv : List (Nat × Value)} {rest : List Value} {ws : va_W} {b L : Nat} {xs : Nat → Int32} {i : Int32} (C : GC p s m args meth c cc nL own ret D dA (fun q => s.heap.size ≤ q)) (hX : va_X b L xs s s.heap) (hbl : b < s.heap.size) (hdg : decode cc pc = .ok (.iaload, 1)) (hp : pc + 1 = pc') (hin : ¬ (i < 0 ∨ L ≤ i.toNatClampNeg)) (k : GG p l e R s m args below meth c nL D (fun q => s.heap.size ≤ q) cells slots Q pc' lv (.int (xs i.toNatClampNeg) :: rest) ws) : GG p l e R s m args below meth c nL D (fun q => s.heap.size ≤ q) cells slots Q pc lv (.int i :: .ref b :: rest) ws := by
  subst hp
  intro H locs ls hP hD hS hl
  exact va_sld C.x C.b hX hbl (Nat.not_le.mpr hbl) hS hin hdg (k H locs ls hP hD hS hl)
theorem g_slen {p : Program} {l : Launch} {e : Env} {R : Room} {s : State} {m : MethodId} {args : Array Value} {below : List Frame} {meth : Method} {c : Code} {cells slots : Nat} {Q : State → Prop} {cc : ByteArray} {nL : Nat} {own : String} {ret : Option FieldType} {D : va_G} {dA : Nat → ClassId} {pc pc' : Nat} {lv : List (Nat × Value)} {rest : List Value} {ws : va_W} {b L : Nat} {xs : Nat → Int32} (C : GC p s m args meth c cc nL own ret D dA (fun q => s.heap.size ≤ q)) (hX : va_X b L xs s s.heap) (hbl : b < s.heap.size) (hdg : decode cc pc = .ok (.arraylength, 1)) (hp : pc + 1 = pc') (k : GG p l e R s m args below meth c nL D (fun q => s.heap.size ≤ q) cells slots Q pc' lv (.int (Int32.ofNat L) :: rest) ws) : GG p l e R s m args below meth c nL D (fun q => s.heap.size ≤ q) cells slots Q pc lv (.ref b :: rest) ws := by
  subst hp
  intro H locs ls hP hD hS hl
  exact va_slen C.x C.b hX hbl (Nat.not_le.mpr hbl) hS hdg (k H locs ls hP hD hS hl)
theorem g_lawend {p : Program} {l : Launch} {e : Env} {s : State} {m : MethodId} {below : List Frame} {meth : Method} {c : Code} {cells slots : Nat} {nL : Nat} {D : va_G} {dA : Nat → ClassId} {pc : Nat} {lv : List (Nat × Value)} {ws : va_W} {b : Nat} (C : GC p s m #[Value.ref b] meth c code nL "OneLampLaw" ret D dA (fun q => s.heap.size ≤ q)) (hc : cells ≤ 600000) (hs : slots ≤ 7302250) (hdg : decode code pc = .ok (.ireturn, 1)) : GG p l e room_1 s m #[Value.ref b] below meth c nL D (fun q => s.heap.size ≤ q) cells slots (lw_Z below #[Value.ref b] s) pc lv [.int 1] ws := by
  intro H locs ls hP hD hS hl
  refine va_forget hS.2.2 ?_
  refine W.widen hc hs ?_
  exact lw_ret C.x C.b C.r C.lk hdg
theorem g_perm {p : Program} {l : Launch} {e : Env} {R : Room} {s : State} {m : MethodId} {args : Array Value} {below : List Frame} {meth : Method} {c : Code} {cells slots : Nat} {Q : State → Prop} {nL : Nat} {D : va_G} {A : Nat → Prop} {pc : Nat} {lv : List (Nat × Value)} {st : List Value} {ws ws' : va_W} (is : List Nat) (hn : va_nd is = true) (h : is.map (fun i => ws[i]?) = ws'.map some) (k : GG p l e R s m args below meth c nL D A cells slots Q pc lv st ws') : GG p l e R s m args below meth c nL D A cells slots Q pc lv st ws := by
  intro H locs ls hP hD hS hl
  refine k H locs ls (fun j q hj => ?_) (hD.sub is hn h) hS hl
  have h1 : (is.map (fun i => ws[i]?))[j]? = some (some q) := by rw [h, List.getElem?_map, hj]; rfl
  rw [List.getElem?_map] at h1
  cases hi : is[j]? with
  | none => rw [hi] at h1; cases h1
  | some i => rw [hi] at h1; exact hP i q (Option.some.inj h1)
theorem g_reQ {p : Program} {l : Launch} {e : Env} {R : Room} {s : State} {m : MethodId} {args : Array Value} {below : List Frame} {meth : Method} {c : Code} {cells slots : Nat} {Q : State → Prop} {nL : Nat} {D : va_G} {dA : Nat → ClassId} {A : Nat → Prop} {pc : Nat} {lv : List (Nat × Value)} {st : List Value} {ws ws' : va_W} {a n : Nat} {f f' : Nat → Option Nat} (q0 : Nat) (h0 : ws[q0]? = some (A_Q dA a n f)) (hf : ∀ j, j < n → f j = f' j) (hw : ws.set q0 (A_Q dA a n f') = ws') (k : GG p l e R s m args below meth c nL D A cells slots Q pc lv st ws') : GG p l e R s m args below meth c nL D A cells slots Q pc lv st ws := by
  subst hw
  intro H locs ls hP hD hS hl
  refine k H locs ls (hP.set hD h0 ?_ (fun _ _ => rfl)) (hD.set h0) hS hl
  have h1 := hP q0 _ h0
  show H[a]? = some (vp_cell (dA 5) (n, .inr (.inr (.inr (.inr f')))))
  rw [show H[a]? = some (vp_cell (dA 5) (n, .inr (.inr (.inr (.inr f))))) from h1, vp_cell_q, vp_cell_q]
  congr 1
  unfold arrV
  congr 1
  apply Array.ext
  · simp
  · intro i h1 h2
    have hi : i < n := by simpa using h1
    simp [hf i hi]
def shelfAd (ad : Nat → Nat) : Nat → Option Nat := fun j => some (ad (46 + 2 * Nat.min j 5))
theorem shelf_at (ad : Nat → Nat) {x k : Nat} (h : Nat.min x 5 = k) : shelfAd ad x = some (ad (46 + 2 * k)) := by rw [shelfAd, h]
theorem lg_same (r : Int64) : lg_cmp r r = 0 := by simp [lg_cmp]
theorem law_ix {t L : Nat} {v3 : Int32} (h3 : v3 = nI (6 * t)) (hL : L ≤ 384) (hle : 6 * t + 6 ≤ L) (k : Int32) (h0 : 0 < k) (h6 : k < 6) : ¬ ((v3 + k) < 0 ∨ L ≤ Int32.toNatClampNeg (v3 + k)) := by
  have hk0 : ¬ k < 0 := fun z => by
    have h1 := Int32.lt_iff_toInt_lt.mp h0
    have h2 := Int32.lt_iff_toInt_lt.mp z
    omega
  obtain ⟨j, hj, rfl⟩ := nI_of hk0
  have hj6 : j < 6 := (nI_ltI hj (by omega)).mp (show nI j < nI 6 from h6)
  rw [h3, nI_add]
  rintro (h | h)
  · exact nI_pos (by omega) h
  · rw [nI_clamp (by omega)] at h; omega
theorem law_more {t L : Nat} {v3 : Int32} (h3 : v3 = nI (6 * t)) (hL : L ≤ 384) (ht : t ≤ 64) (h : ¬ Int32.ofNat L - 6 < v3) : 6 * t + 6 ≤ L := by
  rw [h3] at h
  have h1 : (nI L - nI 6).toInt = (L : Int) - 6 := pk_sub_toInt (by omega) (by omega)
  have h2 : (nI (6 * t)).toInt = ((6 * t : Nat) : Int) := nI_toInt (by omega)
  have h4 : ¬ (nI L - nI 6).toInt < (nI (6 * t)).toInt := fun z => h (Int32.lt_iff_toInt_lt.mpr z)
  rw [h1, h2] at h4
  omega
abbrev lawW (dA : Nat → ClassId) (ad : Nat → Nat) (c0 : Bool) (c1 : Int32) (c2 : Int32) (c3 : Int32) (c4 : Int32) (c5 : Nat → Int64) (c6 : Nat → Int64) (c7 : Nat → Int32) (c8 : Nat → Int32) (c9 : Int32) (c10 : Int32) (c11 : Int32) (c12 : Int32) (c13 : Nat → Int64) (c14 : Nat → Int64) (c15 : Nat → Int32) (c16 : Nat → Int32) (c17 : Int32) (c18 : Int32) (c19 : Int32) (c20 : Int32) (c21 : Int32) (c22 : Nat → Int32) (c23 : Nat → Int32) (c24 : Nat → Int64) (c25 : Nat → Int64) (c26 : Int32) (c27 : Int32) (c28 : Int32) (c29 : Nat → Int32) (c30 : Nat → Int32) (c31 : Int32) (c32 : Int32) (c33 : Nat → Int32) (c34 : Nat → Int32) (c35 : Nat → Int32) (c36 : Nat → Int32) (c37 : Nat → Int32) (c38 : Int32) (c39 : Int32) (c40 : Int32) (c41 : Int32) (c42 : Int32) (c43 : Int32) (c44 : Int32) (c45 : Nat → Int64) (c46 : Nat → Int64) (c47 : Nat → Int32) (c48 : Nat → Int32) (c49 : Nat → Int32) (c50 : Nat → Int32) (c51 : Int32) (c52 : Int32) (c53 : Int32) (c54 : Nat → Int32) (c55 : Nat → Int32) (c56 : Int32) (c57 : Int32) (c58 : Int32) (c59 : Int32) (c60 : Nat → Int64) (c61 : Int32) (c62 : Int32) (c63 : Int32) (c64 : Int32) (c65 : Nat → Int64) (c66 : Int32) (c67 : Int32) (c68 : Int32) (c69 : Int32) (c70 : Nat → Int64) (c71 : Int32) (c72 : Int32) (c73 : Int32) (c74 : Int32) (c75 : Nat → Int64) (c76 : Int32) (c77 : Int32) (c78 : Int32) (c79 : Int32) (c80 : Nat → Int64) (c81 : Int32) (c82 : Int32) (c83 : Int32) (c84 : Int32) (c85 : Nat → Int64) (c86 : Int32) (c87 : Int32) (c88 : Int32) (c89 : Int32) (c90 : Int32) (c91 : Int32) (c92 : Int32) (c93 : Bool) (c94 : Int32) (c95 : Int32) (c96 : Int32) (c97 : Int32) (c98 : Int32) (c99 : Int32) (c100 : Int32) (c101 : Bool) (c102 : Int32) (c103 : Int32) (c104 : Int32) (c105 : Bool) (c106 : Int32) (c107 : Int32) (c108 : Int32) (c109 : Int32) (c110 : Int32) (c111 : Int32) (c112 : Nat → Int32) (c113 : Nat → Int32) (c114 : Nat → Int32) (c115 : Nat → Int32) (c116 : Nat → Int32) (c117 : Nat → Int32) (c118 : Nat → Int32) (c119 : Nat → Int32) (c120 : Nat → Int32) (c121 : Nat → Int32) (c122 : Nat → Int32) (c123 : Nat → Int32) (c124 : Nat → Int32) (c125 : Nat → Int32) (c126 : Nat → Int32) (c127 : Nat → Int32) (c128 : Nat → Int32) (c129 : Nat → Int32) (c130 : Nat → Int32) (c131 : Nat → Int32) (c132 : Nat → Int32) (c133 : Nat → Int32) (c134 : Nat → Int32) (c135 : Nat → Int32) (c136 : Nat → Int32) (c137 : Nat → Int32) (c138 : Nat → Int32) (c139 : Nat → Int32) (c140 : Nat → Int32) (c141 : Nat → Int32) (c142 : Nat → Int64) (c143 : Nat → Int64) : va_W := [O_OL (ad 0) (ad 1) (ad 8) c0 (ad 15) (ad 23) (ad 26) (ad 32) (ad 42) (ad 45), O_Wa (ad 1) c1 c2 c3 c4 (ad 2) (ad 4) (ad 6) (ad 7), O_Pi (ad 2) (ad 3), A_J dA (ad 3) 16 c5, O_Pi (ad 4) (ad 5), A_J dA (ad 5) 16 c6, A_I dA (ad 6) 10 c7, A_I dA (ad 7) 10 c8, O_Wa (ad 8) c9 c10 c11 c12 (ad 9) (ad 11) (ad 13) (ad 14), O_Pi (ad 9) (ad 10), A_J dA (ad 10) 16 c13, O_Pi (ad 11) (ad 12), A_J dA (ad 12) 16 c14, A_I dA (ad 13) 10 c15, A_I dA (ad 14) 10 c16, O_Ru (ad 15) c17 c18 (ad 16) (ad 19) (ad 21) c19, O_La (ad 16) (ad 17) c20 (ad 18) c21, A_I dA (ad 17) 256 c22, A_I dA (ad 18) 256 c23, O_Pi (ad 19) (ad 20), A_J dA (ad 20) 16 c24, O_Pi (ad 21) (ad 22), A_J dA (ad 22) 16 c25, O_Ta (ad 23) (ad 24) c26 (ad 25) c27 c28, A_I dA (ad 24) 120 c29, A_I dA (ad 25) 256 c30, O_Co (ad 26) (ad 27) (ad 28) (ad 29) (ad 30) (ad 31) c31 c32, A_I dA (ad 27) 10 c33, A_I dA (ad 28) 40 c34, A_I dA (ad 29) 40 c35, A_I dA (ad 30) 40 c36, A_I dA (ad 31) 10 c37, O_Th (ad 32) (ad 33) (ad 40) (ad 41) c38 c39 c40, O_Wa (ad 33) c41 c42 c43 c44 (ad 34) (ad 36) (ad 38) (ad 39), O_Pi (ad 34) (ad 35), A_J dA (ad 35) 16 c45, O_Pi (ad 36) (ad 37), A_J dA (ad 37) 16 c46, A_I dA (ad 38) 10 c47, A_I dA (ad 39) 10 c48, A_I dA (ad 40) 15 c49, A_I dA (ad 41) 15 c50, O_Ac (ad 42) (ad 43) c51 (ad 44) c52 c53, A_I dA (ad 43) 50 c54, A_I dA (ad 44) 24 c55, A_Q dA (ad 45) 6 (shelfAd ad), O_Sh (ad 46) c56 c57 c58 c59 (ad 47), A_J dA (ad 47) 60 c60, O_Sh (ad 48) c61 c62 c63 c64 (ad 49), A_J dA (ad 49) 60 c65, O_Sh (ad 50) c66 c67 c68 c69 (ad 51), A_J dA (ad 51) 60 c70, O_Sh (ad 52) c71 c72 c73 c74 (ad 53), A_J dA (ad 53) 60 c75, O_Sh (ad 54) c76 c77 c78 c79 (ad 55), A_J dA (ad 55) 60 c80, O_Sh (ad 56) c81 c82 c83 c84 (ad 57), A_J dA (ad 57) 60 c85, O_Mo (ad 58) c86 c87 c88 c89 c90 c91 c92 (ad 59) (ad 60) (ad 61) (ad 62) (ad 63) (ad 64) c93 c94 c95 (ad 65) (ad 66) (ad 67) (ad 68) (ad 69) c96 c97 c98 c99 c100 (ad 70) (ad 71) (ad 72) (ad 73) (ad 74) (ad 75) (ad 76) c101 (ad 77) (ad 78) c102 (ad 79) (ad 80) c103 c104 c105 c106 c107 c108 c109 (ad 81) (ad 82) (ad 83) (ad 84) c110 (ad 85) c111 (ad 86) (ad 87) (ad 88) (ad 89) (ad 90), A_Z dA (ad 59) 1024 c112, A_Z dA (ad 60) 1024 c113, A_Z dA (ad 61) 1024 c114, A_I dA (ad 62) 10 c115, A_I dA (ad 63) 10 c116, A_I dA (ad 64) 10 c117, A_I dA (ad 65) 40 c118, A_I dA (ad 66) 40 c119, A_I dA (ad 67) 40 c120, A_I dA (ad 68) 40 c121, A_B dA (ad 69) 120 c122, A_B dA (ad 70) 260 c123, A_I dA (ad 71) 260 c124, A_I dA (ad 72) 2 c125, A_S dA (ad 73) 122 c126, A_S dA (ad 74) 122 c127, A_I dA (ad 75) 4 c128, A_I dA (ad 76) 130 c129, A_I dA (ad 77) 16 c130, A_I dA (ad 78) 16 c131, A_Z dA (ad 79) 1024 c132, A_I dA (ad 80) 10 c133, A_Z dA (ad 81) 1024 c134, A_Z dA (ad 82) 1024 c135, A_I dA (ad 83) 10 c136, A_I dA (ad 84) 10 c137, A_I dA (ad 85) 50 c138, A_I dA (ad 86) 24 c139, A_I dA (ad 87) 6 c140, A_I dA (ad 88) 6 c141, A_J dA (ad 89) 360 c142, A_J dA (ad 90) 60 c143]
