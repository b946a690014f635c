def y_Ac_isKind : MethodName := ⟨"OneLamp$Acts", "isKind", "(I)Z"⟩
theorem yy_Ac_isKind : YS y_Ac_isKind prog_2_method_2_code 1 (some .boolean) 1 := ⟨mw_4_4, mw_1_10, mw_4_3, by decide +kernel, by decide +kernel, by decide +kernel⟩
theorem d_Ac_isKind_0 : decode prog_2_method_2_code 0 = .ok (.iload_n 0, 1) := by decide +kernel
theorem d_Ac_isKind_1 : decode prog_2_method_2_code 1 = .ok (.ifCond .lt 13, 3) := by decide +kernel
theorem d_Ac_isKind_4 : decode prog_2_method_2_code 4 = .ok (.iload_n 0, 1) := by decide +kernel
theorem d_Ac_isKind_5 : decode prog_2_method_2_code 5 = .ok (.bipush 8, 2) := by decide +kernel
theorem d_Ac_isKind_7 : decode prog_2_method_2_code 7 = .ok (.if_icmp .ge 7, 3) := by decide +kernel
theorem d_Ac_isKind_10 : decode prog_2_method_2_code 10 = .ok (.iconst 1, 1) := by decide +kernel
theorem d_Ac_isKind_11 : decode prog_2_method_2_code 11 = .ok (.goto 4, 3) := by decide +kernel
theorem d_Ac_isKind_14 : decode prog_2_method_2_code 14 = .ok (.iconst 0, 1) := by decide +kernel
theorem d_Ac_isKind_15 : decode prog_2_method_2_code 15 = .ok (.ireturn, 1) := by decide +kernel
def f_Ac_isKind  (p0 : Int32) : Option (Bool) :=
  if p0 < 0 then
    (some (false))
  else
    (if (8 : Int32) ≤ p0 then
      (some (false))
    else
      (some (true)))
set_option maxRecDepth 20000 in
theorem c_Ac_isKind {l : Launch} {D : va_G} {dA : Nat → ClassId}   {p0 : Int32} {r0 : Bool}   (hf : f_Ac_isKind  p0 = some r0) : CT l y_Ac_isKind prog_2_method_2_code 1 (some .boolean) { frames := 0, cells := 0, slots := 0, locals := 0 } D dA [.int p0] [] (some (.int (b2i r0))) (fun _ : Unit => []) := by
  refine ct_intro "OneLamp$Acts" rfl (by decide +kernel) (Nat.le_of_ble_eq_true rfl) [(0, .int p0)] rfl (fun _ C => ?_)
  unfold f_Ac_isKind at hf
  refine g_iload_n (pc' := 1) C 0 d_Ac_isKind_0 rfl rfl ?_
  refine g_if_lt (pc' := 4) (tgt := 14) C d_Ac_isKind_1 rfl rfl (fun h => ?_) (fun h => ?_)
  · replace hf := g_ip h hf
    refine g_iconst (pc' := 15) (v := 0) C d_Ac_isKind_14 rfl rfl ?_
    replace hf := Option.some.inj hf; subst hf
    exact g_zret C d_Ac_isKind_15 () rfl
  · replace hf := g_in h hf
    refine g_iload_n (pc' := 5) C 0 d_Ac_isKind_4 rfl rfl ?_
    refine g_bipush (pc' := 7) (v := 8) C d_Ac_isKind_5 rfl rfl ?_
    refine g_icmp_ge (pc' := 10) (tgt := 14) C d_Ac_isKind_7 rfl rfl (fun h => ?_) (fun h => ?_)
    · replace hf := g_ip h hf
      refine g_iconst (pc' := 15) (v := 0) C d_Ac_isKind_14 rfl rfl ?_
      replace hf := Option.some.inj hf; subst hf
      exact g_zret C d_Ac_isKind_15 () rfl
    · replace hf := g_in h hf
      refine g_iconst (pc' := 11) (v := 1) C d_Ac_isKind_10 rfl rfl ?_
      refine g_goto (tgt := 15) C d_Ac_isKind_11 rfl ?_
      replace hf := Option.some.inj hf; subst hf
      exact g_zret C d_Ac_isKind_15 () rfl
def y_Ac_isUnder : MethodName := ⟨"OneLamp$Acts", "isUnder", "(II)Z"⟩
theorem yy_Ac_isUnder : YS y_Ac_isUnder prog_2_method_3_code 4 (some .boolean) 2 := ⟨mw_4_128, mw_1_10, mw_4_127, by decide +kernel, by decide +kernel, by decide +kernel⟩
theorem d_Ac_isUnder_0 : decode prog_2_method_3_code 0 = .ok (.iload_n 0, 1) := by decide +kernel
theorem d_Ac_isUnder_1 : decode prog_2_method_3_code 1 = .ok (.istore_n 2, 1) := by decide +kernel
theorem d_Ac_isUnder_2 : decode prog_2_method_3_code 2 = .ok (.iconst 0, 1) := by decide +kernel
theorem d_Ac_isUnder_3 : decode prog_2_method_3_code 3 = .ok (.istore_n 3, 1) := by decide +kernel
theorem d_Ac_isUnder_4 : decode prog_2_method_3_code 4 = .ok (.iload_n 3, 1) := by decide +kernel
theorem d_Ac_isUnder_5 : decode prog_2_method_3_code 5 = .ok (.bipush 8, 2) := by decide +kernel
theorem d_Ac_isUnder_7 : decode prog_2_method_3_code 7 = .ok (.if_icmp .ge 29, 3) := by decide +kernel
theorem d_Ac_isUnder_10 : decode prog_2_method_3_code 10 = .ok (.iload_n 2, 1) := by decide +kernel
theorem d_Ac_isUnder_11 : decode prog_2_method_3_code 11 = .ok (.invokestatic 18, 3) := by decide +kernel
theorem d_Ac_isUnder_14 : decode prog_2_method_3_code 14 = .ok (.ifCond .eq 22, 3) := by decide +kernel
theorem d_Ac_isUnder_17 : decode prog_2_method_3_code 17 = .ok (.iload_n 2, 1) := by decide +kernel
theorem d_Ac_isUnder_18 : decode prog_2_method_3_code 18 = .ok (.iload_n 1, 1) := by decide +kernel
theorem d_Ac_isUnder_19 : decode prog_2_method_3_code 19 = .ok (.if_icmp .ne 5, 3) := by decide +kernel
theorem d_Ac_isUnder_22 : decode prog_2_method_3_code 22 = .ok (.iconst 1, 1) := by decide +kernel
theorem d_Ac_isUnder_23 : decode prog_2_method_3_code 23 = .ok (.ireturn, 1) := by decide +kernel
theorem d_Ac_isUnder_24 : decode prog_2_method_3_code 24 = .ok (.getstatic 22, 3) := by decide +kernel
theorem d_Ac_isUnder_27 : decode prog_2_method_3_code 27 = .ok (.iload_n 2, 1) := by decide +kernel
theorem d_Ac_isUnder_28 : decode prog_2_method_3_code 28 = .ok (.iaload, 1) := by decide +kernel
theorem d_Ac_isUnder_29 : decode prog_2_method_3_code 29 = .ok (.istore_n 2, 1) := by decide +kernel
theorem d_Ac_isUnder_30 : decode prog_2_method_3_code 30 = .ok (.iinc 3 1, 3) := by decide +kernel
theorem d_Ac_isUnder_33 : decode prog_2_method_3_code 33 = .ok (.goto (-29), 3) := by decide +kernel
theorem d_Ac_isUnder_36 : decode prog_2_method_3_code 36 = .ok (.iconst 0, 1) := by decide +kernel
theorem d_Ac_isUnder_37 : decode prog_2_method_3_code 37 = .ok (.ireturn, 1) := by decide +kernel
def f_Ac_isUnder_L4   : Nat → Int32 → Int32 → Int32 → Option (Bool)
  | 0, _, _, _ => none
  | n + 1, v1, v2, v3 =>
    if (8 : Int32) ≤ v3 then
      (some (false))
    else
      ((f_Ac_isKind  v2).bind fun r1 =>
      if r1 = true then
        (if v2 = v1 then
          (some (true))
        else
          (if v2 < 0 ∨ 8 ≤ Int32.toNatClampNeg v2 then none else
          f_Ac_isUnder_L4  n v1 (g_ABOVE (Int32.toNatClampNeg v2)) (v3 + 1)))
      else
        (some (false)))
set_option maxRecDepth 20000 in
theorem w_Ac_isUnder_L4 {p : Program} {l : Launch} {e : Env} {s : State} {m : MethodId} {args : Array Value} {below : List Frame} {meth : Method} {c : Code} {D : va_G} {dA : Nat → ClassId} {A : Nat → Prop} (C : GC p s m args meth c prog_2_method_3_code 4 "OneLamp$Acts" (some .boolean) D dA A)   {r0 : Bool}    : ∀ (n : Nat) (v1 : Int32) (v2 : Int32) (v3 : Int32), f_Ac_isUnder_L4   n v1 v2 v3 = some r0 → GG p l e { frames := 1, cells := 0, slots := 0, locals := 20 } s m args below meth c 4 D A 0 0 (MQ below (cQ D A (some (.int (b2i r0))) (fun _ : Unit => [])) args s 0 0 A) 4 [(1, .int v1), (2, .int v2), (3, .int v3)] [] [] := by
  intro n
  induction n with
  | zero =>
    intro v1 v2 v3 hf
    cases hf
  | succ n ih =>
    intro v1 v2 v3 hf
    unfold f_Ac_isUnder_L4 at hf
    refine g_iload_n (pc' := 5) C 2 d_Ac_isUnder_4 rfl rfl ?_
    refine g_bipush (pc' := 7) (v := 8) C d_Ac_isUnder_5 rfl rfl ?_
    refine g_icmp_ge (pc' := 10) (tgt := 36) C d_Ac_isUnder_7 rfl rfl (fun h => ?_) (fun h => ?_)
    · replace hf := g_ip h hf
      refine g_iconst (pc' := 37) (v := 0) C d_Ac_isUnder_36 rfl rfl ?_
      replace hf := Option.some.inj hf; subst hf
      exact g_zret C d_Ac_isUnder_37 () rfl
    · replace hf := g_in h hf
      refine g_iload_n (pc' := 11) C 1 d_Ac_isUnder_10 rfl rfl ?_
      replace hf := g_bi hf; obtain ⟨r1, hc2, hf⟩ := hf
      refine g_callS (pc' := 14) (st1 := [.int (b2i r1)]) (ws1 := []) C (c_Ac_isKind (l := l) (D := D) (dA := dA)    hc2) yy_Ac_isKind mw_4_27 d_Ac_isUnder_11 rfl [] rfl rfl (Nat.le_of_ble_eq_true rfl) ⟨Nat.le_of_ble_eq_true rfl, Nat.le_of_ble_eq_true rfl⟩ rfl rfl (Nat.zero_le _) (Nat.zero_le _) [] rfl (by decide +kernel) rfl (g_lay_sel _ _ _ _ [] (by decide +kernel) rfl (by decide +kernel) rfl rfl) rfl ?_
      refine g_if_eqb (pc' := 17) (tgt := 36) C d_Ac_isUnder_14 rfl rfl (fun h => ?_) (fun h => ?_)
      · replace hf := g_bf h hf
        refine g_iconst (pc' := 37) (v := 0) C d_Ac_isUnder_36 rfl rfl ?_
        replace hf := Option.some.inj hf; subst hf
        exact g_zret C d_Ac_isUnder_37 () rfl
      · replace hf := g_bt h hf
        refine g_iload_n (pc' := 18) C 1 d_Ac_isUnder_17 rfl rfl ?_
        refine g_iload_n (pc' := 19) C 0 d_Ac_isUnder_18 rfl rfl ?_
        refine g_icmp_ne (pc' := 22) (tgt := 24) C d_Ac_isUnder_19 rfl rfl (fun h => ?_) (fun h => ?_)
        · replace hf := g_in h hf
          refine g_above (pc' := 27) C mw_4_33 d_Ac_isUnder_24 rfl (fun t3 hTt3 => ?_)
          refine g_iload_n (pc' := 28) C 1 d_Ac_isUnder_27 rfl rfl ?_
          have hb := g_ck hf
          replace hf := g_in hb hf
          refine g_tald (pc' := 29) C hTt3 d_Ac_isUnder_28 rfl hb ?_
          refine g_istore_n (pc' := 30) (lv' := [(2, .int (g_ABOVE (Int32.toNatClampNeg v2))), (1, .int v1), (3, .int v3)]) C d_Ac_isUnder_29 rfl (by decide) rfl ?_
          refine g_iinc (pc' := 33) (j := 2) (v := (v3 + 1)) (lv' := [(3, .int (v3 + 1)), (2, .int (g_ABOVE (Int32.toNatClampNeg v2))), (1, .int v1)]) C d_Ac_isUnder_30 rfl rfl rfl (by decide) rfl ?_
          refine g_goto (tgt := 4) C d_Ac_isUnder_33 rfl ?_
          refine g_lv (lv' := [(1, .int v1), (2, .int (g_ABOVE (Int32.toNatClampNeg v2))), (3, .int (v3 + 1))]) [2, 1, 0] rfl ?_
          exact ih v1 (g_ABOVE (Int32.toNatClampNeg v2)) (v3 + 1) hf
        · replace hf := g_ip h hf
          refine g_iconst (pc' := 23) (v := 1) C d_Ac_isUnder_22 rfl rfl ?_
          replace hf := Option.some.inj hf; subst hf
          exact g_zret C d_Ac_isUnder_23 () rfl
def f_Ac_isUnder  (p0 : Int32) (p1 : Int32) : Option (Bool) :=
  f_Ac_isUnder_L4  3000 p1 p0 (0 : Int32)
set_option maxRecDepth 20000 in
theorem c_Ac_isUnder {l : Launch} {D : va_G} {dA : Nat → ClassId}   {p0 : Int32} {p1 : Int32} {r0 : Bool}   (hf : f_Ac_isUnder  p0 p1 = some r0) : CT l y_Ac_isUnder prog_2_method_3_code 4 (some .boolean) { frames := 1, cells := 0, slots := 0, locals := 20 } D dA [.int p0, .int p1] [] (some (.int (b2i r0))) (fun _ : Unit => []) := by
  refine ct_intro "OneLamp$Acts" rfl (by decide +kernel) (Nat.le_of_ble_eq_true rfl) [(0, .int p0), (1, .int p1)] rfl (fun _ C => ?_)
  unfold f_Ac_isUnder at hf
  refine g_iload_n (pc' := 1) C 0 d_Ac_isUnder_0 rfl rfl ?_
  refine g_istore_n (pc' := 2) (lv' := [(2, .int p0), (0, .int p0), (1, .int p1)]) C d_Ac_isUnder_1 rfl (by decide) rfl ?_
  refine g_iconst (pc' := 3) (v := 0) C d_Ac_isUnder_2 rfl rfl ?_
  refine g_istore_n (pc' := 4) (lv' := [(3, .int 0), (2, .int p0), (0, .int p0), (1, .int p1)]) C d_Ac_isUnder_3 rfl (by decide) rfl ?_
  refine g_lv (lv' := [(1, .int p1), (2, .int p0), (3, .int (0 : Int32))]) [3, 1, 0] rfl ?_
  exact w_Ac_isUnder_L4  C   3000 p1 p0 (0 : Int32) hf
def y_Ac_isBody : MethodName := ⟨"OneLamp$Acts", "isBody", "(I)Z"⟩
theorem yy_Ac_isBody : YV y_Ac_isBody prog_2_method_4_code 2 (some .boolean) 1 := ⟨mw_4_20, mw_1_10, mw_4_18, mw_4_19, by decide +kernel, by decide +kernel, by decide +kernel⟩
theorem d_Ac_isBody_0 : decode prog_2_method_4_code 0 = .ok (.iload_n 1, 1) := by decide +kernel
theorem d_Ac_isBody_1 : decode prog_2_method_4_code 1 = .ok (.ifCond .lt 21, 3) := by decide +kernel
theorem d_Ac_isBody_4 : decode prog_2_method_4_code 4 = .ok (.iload_n 1, 1) := by decide +kernel
theorem d_Ac_isBody_5 : decode prog_2_method_4_code 5 = .ok (.aload_n 0, 1) := by decide +kernel
theorem d_Ac_isBody_6 : decode prog_2_method_4_code 6 = .ok (.getfield 25, 3) := by decide +kernel
theorem d_Ac_isBody_9 : decode prog_2_method_4_code 9 = .ok (.if_icmp .ge 13, 3) := by decide +kernel
theorem d_Ac_isBody_12 : decode prog_2_method_4_code 12 = .ok (.iload_n 1, 1) := by decide +kernel
theorem d_Ac_isBody_13 : decode prog_2_method_4_code 13 = .ok (.bipush 50, 2) := by decide +kernel
theorem d_Ac_isBody_15 : decode prog_2_method_4_code 15 = .ok (.if_icmp .ge 7, 3) := by decide +kernel
theorem d_Ac_isBody_18 : decode prog_2_method_4_code 18 = .ok (.iconst 1, 1) := by decide +kernel
theorem d_Ac_isBody_19 : decode prog_2_method_4_code 19 = .ok (.goto 4, 3) := by decide +kernel
theorem d_Ac_isBody_22 : decode prog_2_method_4_code 22 = .ok (.iconst 0, 1) := by decide +kernel
theorem d_Ac_isBody_23 : decode prog_2_method_4_code 23 = .ok (.ireturn, 1) := by decide +kernel
def f_Ac_isBody  (p1 : Int32) (x_o_bodies : Int32) : Option (Bool) :=
  if p1 < 0 then
    (some (false))
  else
    (if x_o_bodies ≤ p1 then
      (some (false))
    else
      (if (50 : Int32) ≤ p1 then
        (some (false))
      else
        (some (true))))
set_option maxRecDepth 20000 in
theorem c_Ac_isBody {l : Launch} {D : va_G} {dA : Nat → ClassId} {a_o a_o_kinds a_o_trace : Nat} {x_o_ran : Int32} {x_o_number : Int32} {p1 : Int32} {x_o_bodies : Int32} {r0 : Bool}   (hf : f_Ac_isBody  p1 x_o_bodies = some r0) : CT l y_Ac_isBody prog_2_method_4_code 2 (some .boolean) { frames := 0, cells := 0, slots := 0, locals := 0 } D dA [.ref a_o, .int p1] [O_Ac a_o a_o_kinds x_o_bodies a_o_trace x_o_ran x_o_number] (some (.int (b2i r0))) (fun _ : Unit => [O_Ac a_o a_o_kinds x_o_bodies a_o_trace x_o_ran x_o_number]) := by
  refine ct_intro "OneLamp$Acts" rfl (by decide +kernel) (Nat.le_of_ble_eq_true rfl) [(0, .ref a_o), (1, .int p1)] rfl (fun _ C => ?_)
  unfold f_Ac_isBody at hf
  refine g_iload_n (pc' := 1) C 1 d_Ac_isBody_0 rfl rfl ?_
  refine g_if_lt (pc' := 4) (tgt := 22) C d_Ac_isBody_1 rfl rfl (fun h => ?_) (fun h => ?_)
  · replace hf := g_ip h hf
    refine g_iconst (pc' := 23) (v := 0) C d_Ac_isBody_22 rfl rfl ?_
    replace hf := Option.some.inj hf; subst hf
    exact g_zret C d_Ac_isBody_23 () rfl
  · replace hf := g_in h hf
    refine g_iload_n (pc' := 5) C 1 d_Ac_isBody_4 rfl rfl ?_
    refine g_aload_n (pc' := 6) C 0 d_Ac_isBody_5 rfl rfl ?_
    refine g_get (pc' := 9) C kf_Ac 1 mw_2_1 d_Ac_isBody_6 rfl 0 rfl (by decide) rfl ?_
    refine g_icmp_ge (pc' := 12) (tgt := 22) C d_Ac_isBody_9 rfl rfl (fun h => ?_) (fun h => ?_)
    · replace hf := g_ip h hf
      refine g_iconst (pc' := 23) (v := 0) C d_Ac_isBody_22 rfl rfl ?_
      replace hf := Option.some.inj hf; subst hf
      exact g_zret C d_Ac_isBody_23 () rfl
    · replace hf := g_in h hf
      refine g_iload_n (pc' := 13) C 1 d_Ac_isBody_12 rfl rfl ?_
      refine g_bipush (pc' := 15) (v := 50) C d_Ac_isBody_13 rfl rfl ?_
      refine g_icmp_ge (pc' := 18) (tgt := 22) C d_Ac_isBody_15 rfl rfl (fun h => ?_) (fun h => ?_)
      · replace hf := g_ip h hf
        refine g_iconst (pc' := 23) (v := 0) C d_Ac_isBody_22 rfl rfl ?_
        replace hf := Option.some.inj hf; subst hf
        exact g_zret C d_Ac_isBody_23 () rfl
      · replace hf := g_in h hf
        refine g_iconst (pc' := 19) (v := 1) C d_Ac_isBody_18 rfl rfl ?_
        refine g_goto (tgt := 23) C d_Ac_isBody_19 rfl ?_
        replace hf := Option.some.inj hf; subst hf
        exact g_zret C d_Ac_isBody_23 () rfl
def y_Ac_kindOf : MethodName := ⟨"OneLamp$Acts", "kindOf", "(I)I"⟩
theorem yy_Ac_kindOf : YV y_Ac_kindOf prog_2_method_5_code 2 (some .int) 1 := ⟨mw_4_38, mw_1_10, mw_4_36, mw_4_37, by decide +kernel, by decide +kernel, by decide +kernel⟩
theorem d_Ac_kindOf_0 : decode prog_2_method_5_code 0 = .ok (.aload_n 0, 1) := by decide +kernel
theorem d_Ac_kindOf_1 : decode prog_2_method_5_code 1 = .ok (.iload_n 1, 1) := by decide +kernel
theorem d_Ac_kindOf_2 : decode prog_2_method_5_code 2 = .ok (.invokevirtual 29, 3) := by decide +kernel
theorem d_Ac_kindOf_5 : decode prog_2_method_5_code 5 = .ok (.ifCond .eq 12, 3) := by decide +kernel
theorem d_Ac_kindOf_8 : decode prog_2_method_5_code 8 = .ok (.aload_n 0, 1) := by decide +kernel
theorem d_Ac_kindOf_9 : decode prog_2_method_5_code 9 = .ok (.getfield 9, 3) := by decide +kernel
theorem d_Ac_kindOf_12 : decode prog_2_method_5_code 12 = .ok (.iload_n 1, 1) := by decide +kernel
theorem d_Ac_kindOf_13 : decode prog_2_method_5_code 13 = .ok (.iaload, 1) := by decide +kernel
theorem d_Ac_kindOf_14 : decode prog_2_method_5_code 14 = .ok (.goto 4, 3) := by decide +kernel
theorem d_Ac_kindOf_17 : decode prog_2_method_5_code 17 = .ok (.iconst (-1), 1) := by decide +kernel
theorem d_Ac_kindOf_18 : decode prog_2_method_5_code 18 = .ok (.ireturn, 1) := by decide +kernel
def f_Ac_kindOf  (p1 : Int32) (x_o_bodies : Int32) (x_o_kinds : Nat → Int32) : Option (Int32) :=
  (f_Ac_isBody  p1 x_o_bodies).bind fun r1 =>
  if r1 = true then
    (if p1 < 0 ∨ 50 ≤ Int32.toNatClampNeg p1 then none else
    some ((x_o_kinds (Int32.toNatClampNeg p1))))
  else
    (some ((-1 : Int32)))
set_option maxRecDepth 20000 in
theorem c_Ac_kindOf {l : Launch} {D : va_G} {dA : Nat → ClassId} {a_o a_o_kinds a_o_trace : Nat} {x_o_ran : Int32} {x_o_number : Int32} {p1 : Int32} {x_o_bodies : Int32} {x_o_kinds : Nat → Int32} {r0 : Int32}   (hf : f_Ac_kindOf  p1 x_o_bodies x_o_kinds = some r0) : CT l y_Ac_kindOf prog_2_method_5_code 2 (some .int) { frames := 1, cells := 0, slots := 0, locals := 21 } D dA [.ref a_o, .int p1] [O_Ac a_o a_o_kinds x_o_bodies a_o_trace x_o_ran x_o_number, A_I dA a_o_kinds 50 x_o_kinds] (some (.int r0)) (fun _ : Unit => [O_Ac a_o a_o_kinds x_o_bodies a_o_trace x_o_ran x_o_number, A_I dA a_o_kinds 50 x_o_kinds]) := by
  refine ct_intro "OneLamp$Acts" rfl (by decide +kernel) (Nat.le_of_ble_eq_true rfl) [(0, .ref a_o), (1, .int p1)] rfl (fun _ C => ?_)
  unfold f_Ac_kindOf at hf
  refine g_aload_n (pc' := 1) C 0 d_Ac_kindOf_0 rfl rfl ?_
  refine g_iload_n (pc' := 2) C 1 d_Ac_kindOf_1 rfl rfl ?_
  replace hf := g_bi hf; obtain ⟨r1, hc2, hf⟩ := hf
  refine g_callV (pc' := 5) (st1 := [.int (b2i r1)]) (ws1 := [O_Ac a_o a_o_kinds x_o_bodies a_o_trace x_o_ran x_o_number, A_I dA a_o_kinds 50 x_o_kinds]) C (c_Ac_isBody (l := l) (D := D) (dA := dA) (a_o := a_o) (a_o_kinds := a_o_kinds) (a_o_trace := a_o_trace) (x_o_ran := x_o_ran) (x_o_number := x_o_number)   hc2) yy_Ac_isBody kf_Ac rfl mw_4_17 d_Ac_kindOf_2 rfl [] rfl rfl (Nat.le_of_ble_eq_true rfl) ⟨Nat.le_of_ble_eq_true rfl, Nat.le_of_ble_eq_true rfl⟩ rfl rfl (Nat.zero_le _) (Nat.zero_le _) 0 rfl [0] rfl (by decide +kernel) rfl (g_lay_sel _ _ _ _ [(0, true), (1, false)] (by decide +kernel) rfl (by decide +kernel) rfl rfl) rfl ?_
  refine g_if_eqb (pc' := 8) (tgt := 17) C d_Ac_kindOf_5 rfl rfl (fun h => ?_) (fun h => ?_)
  · replace hf := g_bf h hf
    refine g_iconst (pc' := 18) (v := (-1)) C d_Ac_kindOf_17 rfl rfl ?_
    replace hf := Option.some.inj hf; subst hf
    exact g_iret C d_Ac_kindOf_18 () rfl
  · replace hf := g_bt h hf
    refine g_aload_n (pc' := 9) C 0 d_Ac_kindOf_8 rfl rfl ?_
    refine g_get (pc' := 12) C kf_Ac 0 mw_2_0 d_Ac_kindOf_9 rfl 0 rfl (by decide) rfl ?_
    refine g_iload_n (pc' := 13) C 1 d_Ac_kindOf_12 rfl rfl ?_
    have hb := g_ck hf
    replace hf := g_in hb hf
    refine g_iald (pc' := 14) C d_Ac_kindOf_13 rfl 1 rfl hb ?_
    refine g_goto (tgt := 18) C d_Ac_kindOf_14 rfl ?_
    replace hf := Option.some.inj hf; subst hf
    exact g_iret C d_Ac_kindOf_18 () rfl
def y_Ac_add : MethodName := ⟨"OneLamp$Acts", "add", "(I)Z"⟩
theorem yy_Ac_add : YV y_Ac_add prog_2_method_6_code 2 (some .boolean) 1 := ⟨mw_4_8, mw_1_10, mw_4_6, mw_4_7, by decide +kernel, by decide +kernel, by decide +kernel⟩
theorem d_Ac_add_0 : decode prog_2_method_6_code 0 = .ok (.aload_n 0, 1) := by decide +kernel
theorem d_Ac_add_1 : decode prog_2_method_6_code 1 = .ok (.getfield 25, 3) := by decide +kernel
theorem d_Ac_add_4 : decode prog_2_method_6_code 4 = .ok (.ifCond .lt 12, 3) := by decide +kernel
theorem d_Ac_add_7 : decode prog_2_method_6_code 7 = .ok (.aload_n 0, 1) := by decide +kernel
theorem d_Ac_add_8 : decode prog_2_method_6_code 8 = .ok (.getfield 25, 3) := by decide +kernel
theorem d_Ac_add_11 : decode prog_2_method_6_code 11 = .ok (.bipush 50, 2) := by decide +kernel
theorem d_Ac_add_13 : decode prog_2_method_6_code 13 = .ok (.if_icmp .lt 5, 3) := by decide +kernel
theorem d_Ac_add_16 : decode prog_2_method_6_code 16 = .ok (.iconst 0, 1) := by decide +kernel
theorem d_Ac_add_17 : decode prog_2_method_6_code 17 = .ok (.ireturn, 1) := by decide +kernel
theorem d_Ac_add_18 : decode prog_2_method_6_code 18 = .ok (.aload_n 0, 1) := by decide +kernel
theorem d_Ac_add_19 : decode prog_2_method_6_code 19 = .ok (.getfield 9, 3) := by decide +kernel
theorem d_Ac_add_22 : decode prog_2_method_6_code 22 = .ok (.aload_n 0, 1) := by decide +kernel
theorem d_Ac_add_23 : decode prog_2_method_6_code 23 = .ok (.getfield 25, 3) := by decide +kernel
theorem d_Ac_add_26 : decode prog_2_method_6_code 26 = .ok (.iload_n 1, 1) := by decide +kernel
theorem d_Ac_add_27 : decode prog_2_method_6_code 27 = .ok (.iastore, 1) := by decide +kernel
theorem d_Ac_add_28 : decode prog_2_method_6_code 28 = .ok (.aload_n 0, 1) := by decide +kernel
theorem d_Ac_add_29 : decode prog_2_method_6_code 29 = .ok (.dup, 1) := by decide +kernel
theorem d_Ac_add_30 : decode prog_2_method_6_code 30 = .ok (.getfield 25, 3) := by decide +kernel
theorem d_Ac_add_33 : decode prog_2_method_6_code 33 = .ok (.iconst 1, 1) := by decide +kernel
theorem d_Ac_add_34 : decode prog_2_method_6_code 34 = .ok (.iadd, 1) := by decide +kernel
theorem d_Ac_add_35 : decode prog_2_method_6_code 35 = .ok (.putfield 25, 3) := by decide +kernel
theorem d_Ac_add_38 : decode prog_2_method_6_code 38 = .ok (.iconst 1, 1) := by decide +kernel
theorem d_Ac_add_39 : decode prog_2_method_6_code 39 = .ok (.ireturn, 1) := by decide +kernel
def f_Ac_add  (p1 : Int32) (x_o_bodies : Int32) (x_o_kinds : Nat → Int32) : Option (Bool × Int32 × (Nat → Int32)) :=
  if x_o_bodies < 0 then
    (some (false, x_o_bodies, x_o_kinds))
  else
    (if x_o_bodies < (50 : Int32) then
      (if x_o_bodies < 0 ∨ 50 ≤ Int32.toNatClampNeg x_o_bodies then none else
      some (true, (x_o_bodies + (1 : Int32)), (upd x_o_kinds (Int32.toNatClampNeg x_o_bodies) p1)))
    else
      (some (false, x_o_bodies, x_o_kinds)))
set_option maxRecDepth 20000 in
theorem c_Ac_add {l : Launch} {D : va_G} {dA : Nat → ClassId} {a_o a_o_kinds a_o_trace : Nat} {x_o_ran : Int32} {x_o_number : Int32} {p1 : Int32} {x_o_bodies : Int32} {x_o_kinds : Nat → Int32} {r0 : Bool} {o_x_o_bodies : Int32} {o_x_o_kinds : Nat → Int32}   (hf : f_Ac_add  p1 x_o_bodies x_o_kinds = some (r0, o_x_o_bodies, o_x_o_kinds)) : CT l y_Ac_add prog_2_method_6_code 2 (some .boolean) { frames := 0, cells := 0, slots := 0, locals := 0 } D dA [.ref a_o, .int p1] [O_Ac a_o a_o_kinds x_o_bodies a_o_trace x_o_ran x_o_number, A_I dA a_o_kinds 50 x_o_kinds] (some (.int (b2i r0))) (fun _ : Unit => [O_Ac a_o a_o_kinds o_x_o_bodies a_o_trace x_o_ran x_o_number, A_I dA a_o_kinds 50 o_x_o_kinds]) := by
  refine ct_intro "OneLamp$Acts" rfl (by decide +kernel) (Nat.le_of_ble_eq_true rfl) [(0, .ref a_o), (1, .int p1)] rfl (fun _ C => ?_)
  unfold f_Ac_add at hf
  refine g_aload_n (pc' := 1) C 0 d_Ac_add_0 rfl rfl ?_
  refine g_get (pc' := 4) C kf_Ac 1 mw_2_1 d_Ac_add_1 rfl 0 rfl (by decide) rfl ?_
  refine g_if_lt (pc' := 7) (tgt := 16) C d_Ac_add_4 rfl rfl (fun h => ?_) (fun h => ?_)
  · replace hf := g_ip h hf
    refine g_iconst (pc' := 17) (v := 0) C d_Ac_add_16 rfl rfl ?_
    replace hf := g_o2 hf; obtain ⟨h1, hf⟩ := hf; subst h1
    replace hf := g_o2 hf; obtain ⟨h1, hf⟩ := hf; subst h1
    replace hf := Option.some.inj hf; subst hf
    exact g_zret C d_Ac_add_17 () rfl
  · replace hf := g_in h hf
    refine g_aload_n (pc' := 8) C 0 d_Ac_add_7 rfl rfl ?_
    refine g_get (pc' := 11) C kf_Ac 1 mw_2_1 d_Ac_add_8 rfl 0 rfl (by decide) rfl ?_
    refine g_bipush (pc' := 13) (v := 50) C d_Ac_add_11 rfl rfl ?_
    refine g_icmp_lt (pc' := 16) (tgt := 18) C d_Ac_add_13 rfl rfl (fun h => ?_) (fun h => ?_)
    · replace hf := g_ip h hf
      refine g_aload_n (pc' := 19) C 0 d_Ac_add_18 rfl rfl ?_
      refine g_get (pc' := 22) C kf_Ac 0 mw_2_0 d_Ac_add_19 rfl 0 rfl (by decide) rfl ?_
      refine g_aload_n (pc' := 23) C 0 d_Ac_add_22 rfl rfl ?_
      refine g_get (pc' := 26) C kf_Ac 1 mw_2_1 d_Ac_add_23 rfl 0 rfl (by decide) rfl ?_
      refine g_iload_n (pc' := 27) C 1 d_Ac_add_26 rfl rfl ?_
      have hb := g_ck hf
      replace hf := g_in hb hf
      refine g_iast (pc' := 28) (ws' := [O_Ac a_o a_o_kinds x_o_bodies a_o_trace x_o_ran x_o_number, A_I dA a_o_kinds 50 (upd x_o_kinds (Int32.toNatClampNeg x_o_bodies) p1)]) C d_Ac_add_27 rfl 1 rfl hb rfl ?_
      refine g_aload_n (pc' := 29) C 0 d_Ac_add_28 rfl rfl ?_
      refine g_dup (pc' := 30) C d_Ac_add_29 rfl rfl ?_
      refine g_get (pc' := 33) C kf_Ac 1 mw_2_1 d_Ac_add_30 rfl 0 rfl (by decide) rfl ?_
      refine g_iconst (pc' := 34) (v := 1) C d_Ac_add_33 rfl rfl ?_
      refine g_iadd (pc' := 35) C d_Ac_add_34 rfl ?_
      refine g_put (pc' := 38) (ws' := [O_Ac a_o a_o_kinds (x_o_bodies + (1 : Int32)) a_o_trace x_o_ran x_o_number, A_I dA a_o_kinds 50 (upd x_o_kinds (Int32.toNatClampNeg x_o_bodies) p1)]) C kf_Ac 1 mw_2_1 d_Ac_add_35 rfl 0 rfl (by decide) rfl rfl rfl (Nat.le_of_ble_eq_true rfl) rfl ?_
      refine g_iconst (pc' := 39) (v := 1) C d_Ac_add_38 rfl rfl ?_
      replace hf := g_o2 hf; obtain ⟨h1, hf⟩ := hf; subst h1
      replace hf := g_o2 hf; obtain ⟨h1, hf⟩ := hf; subst h1
      replace hf := Option.some.inj hf; subst hf
      exact g_zret C d_Ac_add_39 () rfl
    · replace hf := g_in h hf
      refine g_iconst (pc' := 17) (v := 0) C d_Ac_add_16 rfl rfl ?_
      replace hf := g_o2 hf; obtain ⟨h1, hf⟩ := hf; subst h1
      replace hf := g_o2 hf; obtain ⟨h1, hf⟩ := hf; subst h1
      replace hf := Option.some.inj hf; subst hf
      exact g_zret C d_Ac_add_17 () rfl
def y_Ac_isTraced : MethodName := ⟨"OneLamp$Acts", "isTraced", "(I)Z"⟩
theorem yy_Ac_isTraced : YV y_Ac_isTraced prog_2_method_7_code 2 (some .boolean) 1 := ⟨mw_4_50, mw_1_10, mw_4_48, mw_4_49, by decide +kernel, by decide +kernel, by decide +kernel⟩
theorem d_Ac_isTraced_0 : decode prog_2_method_7_code 0 = .ok (.iload_n 1, 1) := by decide +kernel
theorem d_Ac_isTraced_1 : decode prog_2_method_7_code 1 = .ok (.ifCond .lt 21, 3) := by decide +kernel
theorem d_Ac_isTraced_4 : decode prog_2_method_7_code 4 = .ok (.iload_n 1, 1) := by decide +kernel
theorem d_Ac_isTraced_5 : decode prog_2_method_7_code 5 = .ok (.aload_n 0, 1) := by decide +kernel
theorem d_Ac_isTraced_6 : decode prog_2_method_7_code 6 = .ok (.getfield 32, 3) := by decide +kernel
theorem d_Ac_isTraced_9 : decode prog_2_method_7_code 9 = .ok (.if_icmp .ge 13, 3) := by decide +kernel
theorem d_Ac_isTraced_12 : decode prog_2_method_7_code 12 = .ok (.iload_n 1, 1) := by decide +kernel
theorem d_Ac_isTraced_13 : decode prog_2_method_7_code 13 = .ok (.bipush 24, 2) := by decide +kernel
theorem d_Ac_isTraced_15 : decode prog_2_method_7_code 15 = .ok (.if_icmp .ge 7, 3) := by decide +kernel
theorem d_Ac_isTraced_18 : decode prog_2_method_7_code 18 = .ok (.iconst 1, 1) := by decide +kernel
theorem d_Ac_isTraced_19 : decode prog_2_method_7_code 19 = .ok (.goto 4, 3) := by decide +kernel
theorem d_Ac_isTraced_22 : decode prog_2_method_7_code 22 = .ok (.iconst 0, 1) := by decide +kernel
theorem d_Ac_isTraced_23 : decode prog_2_method_7_code 23 = .ok (.ireturn, 1) := by decide +kernel
def f_Ac_isTraced  (p1 : Int32) (x_o_ran : Int32) : Option (Bool) :=
  if p1 < 0 then
    (some (false))
  else
    (if x_o_ran ≤ p1 then
      (some (false))
    else
      (if (24 : Int32) ≤ p1 then
        (some (false))
      else
        (some (true))))
set_option maxRecDepth 20000 in
theorem c_Ac_isTraced {l : Launch} {D : va_G} {dA : Nat → ClassId} {a_o a_o_kinds a_o_trace : Nat} {x_o_bodies : Int32} {x_o_number : Int32} {p1 : Int32} {x_o_ran : Int32} {r0 : Bool}   (hf : f_Ac_isTraced  p1 x_o_ran = some r0) : CT l y_Ac_isTraced prog_2_method_7_code 2 (some .boolean) { frames := 0, cells := 0, slots := 0, locals := 0 } D dA [.ref a_o, .int p1] [O_Ac a_o a_o_kinds x_o_bodies a_o_trace x_o_ran x_o_number] (some (.int (b2i r0))) (fun _ : Unit => [O_Ac a_o a_o_kinds x_o_bodies a_o_trace x_o_ran x_o_number]) := by
  refine ct_intro "OneLamp$Acts" rfl (by decide +kernel) (Nat.le_of_ble_eq_true rfl) [(0, .ref a_o), (1, .int p1)] rfl (fun _ C => ?_)
  unfold f_Ac_isTraced at hf
  refine g_iload_n (pc' := 1) C 1 d_Ac_isTraced_0 rfl rfl ?_
  refine g_if_lt (pc' := 4) (tgt := 22) C d_Ac_isTraced_1 rfl rfl (fun h => ?_) (fun h => ?_)
  · replace hf := g_ip h hf
    refine g_iconst (pc' := 23) (v := 0) C d_Ac_isTraced_22 rfl rfl ?_
    replace hf := Option.some.inj hf; subst hf
    exact g_zret C d_Ac_isTraced_23 () rfl
  · replace hf := g_in h hf
    refine g_iload_n (pc' := 5) C 1 d_Ac_isTraced_4 rfl rfl ?_
    refine g_aload_n (pc' := 6) C 0 d_Ac_isTraced_5 rfl rfl ?_
    refine g_get (pc' := 9) C kf_Ac 3 mw_2_4 d_Ac_isTraced_6 rfl 0 rfl (by decide) rfl ?_
    refine g_icmp_ge (pc' := 12) (tgt := 22) C d_Ac_isTraced_9 rfl rfl (fun h => ?_) (fun h => ?_)
    · replace hf := g_ip h hf
      refine g_iconst (pc' := 23) (v := 0) C d_Ac_isTraced_22 rfl rfl ?_
      replace hf := Option.some.inj hf; subst hf
      exact g_zret C d_Ac_isTraced_23 () rfl
    · replace hf := g_in h hf
      refine g_iload_n (pc' := 13) C 1 d_Ac_isTraced_12 rfl rfl ?_
      refine g_bipush (pc' := 15) (v := 24) C d_Ac_isTraced_13 rfl rfl ?_
      refine g_icmp_ge (pc' := 18) (tgt := 22) C d_Ac_isTraced_15 rfl rfl (fun h => ?_) (fun h => ?_)
      · replace hf := g_ip h hf
        refine g_iconst (pc' := 23) (v := 0) C d_Ac_isTraced_22 rfl rfl ?_
        replace hf := Option.some.inj hf; subst hf
        exact g_zret C d_Ac_isTraced_23 () rfl
      · replace hf := g_in h hf
        refine g_iconst (pc' := 19) (v := 1) C d_Ac_isTraced_18 rfl rfl ?_
        refine g_goto (tgt := 23) C d_Ac_isTraced_19 rfl ?_
        replace hf := Option.some.inj hf; subst hf
        exact g_zret C d_Ac_isTraced_23 () rfl
def y_Ac_traceAt : MethodName := ⟨"OneLamp$Acts", "traceAt", "(I)I"⟩
theorem yy_Ac_traceAt : YV y_Ac_traceAt prog_2_method_8_code 2 (some .int) 1 := ⟨mw_4_54, mw_1_10, mw_4_52, mw_4_53, by decide +kernel, by decide +kernel, by decide +kernel⟩
theorem d_Ac_traceAt_0 : decode prog_2_method_8_code 0 = .ok (.aload_n 0, 1) := by decide +kernel
theorem d_Ac_traceAt_1 : decode prog_2_method_8_code 1 = .ok (.iload_n 1, 1) := by decide +kernel
theorem d_Ac_traceAt_2 : decode prog_2_method_8_code 2 = .ok (.invokevirtual 35, 3) := by decide +kernel
theorem d_Ac_traceAt_5 : decode prog_2_method_8_code 5 = .ok (.ifCond .eq 12, 3) := by decide +kernel
theorem d_Ac_traceAt_8 : decode prog_2_method_8_code 8 = .ok (.aload_n 0, 1) := by decide +kernel
theorem d_Ac_traceAt_9 : decode prog_2_method_8_code 9 = .ok (.getfield 15, 3) := by decide +kernel
theorem d_Ac_traceAt_12 : decode prog_2_method_8_code 12 = .ok (.iload_n 1, 1) := by decide +kernel
theorem d_Ac_traceAt_13 : decode prog_2_method_8_code 13 = .ok (.iaload, 1) := by decide +kernel
theorem d_Ac_traceAt_14 : decode prog_2_method_8_code 14 = .ok (.goto 4, 3) := by decide +kernel
theorem d_Ac_traceAt_17 : decode prog_2_method_8_code 17 = .ok (.iconst 0, 1) := by decide +kernel
theorem d_Ac_traceAt_18 : decode prog_2_method_8_code 18 = .ok (.ireturn, 1) := by decide +kernel
def f_Ac_traceAt  (p1 : Int32) (x_o_ran : Int32) (x_o_trace : Nat → Int32) : Option (Int32) :=
  (f_Ac_isTraced  p1 x_o_ran).bind fun r1 =>
  if r1 = true then
    (if p1 < 0 ∨ 24 ≤ Int32.toNatClampNeg p1 then none else
    some ((x_o_trace (Int32.toNatClampNeg p1))))
  else
    (some ((0 : Int32)))
set_option maxRecDepth 20000 in
theorem c_Ac_traceAt {l : Launch} {D : va_G} {dA : Nat → ClassId} {a_o a_o_kinds a_o_trace : Nat} {x_o_bodies : Int32} {x_o_number : Int32} {p1 : Int32} {x_o_ran : Int32} {x_o_trace : Nat → Int32} {r0 : Int32}   (hf : f_Ac_traceAt  p1 x_o_ran x_o_trace = some r0) : CT l y_Ac_traceAt prog_2_method_8_code 2 (some .int) { frames := 1, cells := 0, slots := 0, locals := 21 } D dA [.ref a_o, .int p1] [O_Ac a_o a_o_kinds x_o_bodies a_o_trace x_o_ran x_o_number, A_I dA a_o_trace 24 x_o_trace] (some (.int r0)) (fun _ : Unit => [O_Ac a_o a_o_kinds x_o_bodies a_o_trace x_o_ran x_o_number, A_I dA a_o_trace 24 x_o_trace]) := by
  refine ct_intro "OneLamp$Acts" rfl (by decide +kernel) (Nat.le_of_ble_eq_true rfl) [(0, .ref a_o), (1, .int p1)] rfl (fun _ C => ?_)
  unfold f_Ac_traceAt at hf
  refine g_aload_n (pc' := 1) C 0 d_Ac_traceAt_0 rfl rfl ?_
  refine g_iload_n (pc' := 2) C 1 d_Ac_traceAt_1 rfl rfl ?_
  replace hf := g_bi hf; obtain ⟨r1, hc2, hf⟩ := hf
  refine g_callV (pc' := 5) (st1 := [.int (b2i r1)]) (ws1 := [O_Ac a_o a_o_kinds x_o_bodies a_o_trace x_o_ran x_o_number, A_I dA a_o_trace 24 x_o_trace]) C (c_Ac_isTraced (l := l) (D := D) (dA := dA) (a_o := a_o) (a_o_kinds := a_o_kinds) (a_o_trace := a_o_trace) (x_o_bodies := x_o_bodies) (x_o_number := x_o_number)   hc2) yy_Ac_isTraced kf_Ac rfl mw_4_55 d_Ac_traceAt_2 rfl [] rfl rfl (Nat.le_of_ble_eq_true rfl) ⟨Nat.le_of_ble_eq_true rfl, Nat.le_of_ble_eq_true rfl⟩ rfl rfl (Nat.zero_le _) (Nat.zero_le _) 0 rfl [0] rfl (by decide +kernel) rfl (g_lay_sel _ _ _ _ [(0, true), (1, false)] (by decide +kernel) rfl (by decide +kernel) rfl rfl) rfl ?_
  refine g_if_eqb (pc' := 8) (tgt := 17) C d_Ac_traceAt_5 rfl rfl (fun h => ?_) (fun h => ?_)
  · replace hf := g_bf h hf
    refine g_iconst (pc' := 18) (v := 0) C d_Ac_traceAt_17 rfl rfl ?_
    replace hf := Option.some.inj hf; subst hf
    exact g_iret C d_Ac_traceAt_18 () rfl
  · replace hf := g_bt h hf
    refine g_aload_n (pc' := 9) C 0 d_Ac_traceAt_8 rfl rfl ?_
    refine g_get (pc' := 12) C kf_Ac 2 mw_2_3 d_Ac_traceAt_9 rfl 0 rfl (by decide) rfl ?_
    refine g_iload_n (pc' := 13) C 1 d_Ac_traceAt_12 rfl rfl ?_
    have hb := g_ck hf
    replace hf := g_in hb hf
    refine g_iald (pc' := 14) C d_Ac_traceAt_13 rfl 1 rfl hb ?_
    refine g_goto (tgt := 18) C d_Ac_traceAt_14 rfl ?_
    replace hf := Option.some.inj hf; subst hf
    exact g_iret C d_Ac_traceAt_18 () rfl
def y_Ac_bodyOf : MethodName := ⟨"OneLamp$Acts", "bodyOf", "(II)I"⟩
theorem yy_Ac_bodyOf : YS y_Ac_bodyOf prog_2_method_11_code 3 (some .int) 2 := ⟨mw_4_30, mw_1_10, mw_4_29, by decide +kernel, by decide +kernel, by decide +kernel⟩
theorem d_Ac_bodyOf_0 : decode prog_2_method_11_code 0 = .ok (.iload_n 0, 1) := by decide +kernel
theorem d_Ac_bodyOf_1 : decode prog_2_method_11_code 1 = .ok (.bipush 8, 2) := by decide +kernel
theorem d_Ac_bodyOf_3 : decode prog_2_method_11_code 3 = .ok (.imul, 1) := by decide +kernel
theorem d_Ac_bodyOf_4 : decode prog_2_method_11_code 4 = .ok (.iload_n 1, 1) := by decide +kernel
theorem d_Ac_bodyOf_5 : decode prog_2_method_11_code 5 = .ok (.iadd, 1) := by decide +kernel
theorem d_Ac_bodyOf_6 : decode prog_2_method_11_code 6 = .ok (.istore_n 2, 1) := by decide +kernel
theorem d_Ac_bodyOf_7 : decode prog_2_method_11_code 7 = .ok (.iload_n 1, 1) := by decide +kernel
theorem d_Ac_bodyOf_8 : decode prog_2_method_11_code 8 = .ok (.invokestatic 18, 3) := by decide +kernel
theorem d_Ac_bodyOf_11 : decode prog_2_method_11_code 11 = .ok (.ifCond .eq 23, 3) := by decide +kernel
theorem d_Ac_bodyOf_14 : decode prog_2_method_11_code 14 = .ok (.iload_n 2, 1) := by decide +kernel
theorem d_Ac_bodyOf_15 : decode prog_2_method_11_code 15 = .ok (.ifCond .lt 19, 3) := by decide +kernel
theorem d_Ac_bodyOf_18 : decode prog_2_method_11_code 18 = .ok (.iload_n 2, 1) := by decide +kernel
theorem d_Ac_bodyOf_19 : decode prog_2_method_11_code 19 = .ok (.getstatic 45, 3) := by decide +kernel
theorem d_Ac_bodyOf_22 : decode prog_2_method_11_code 22 = .ok (.arraylength, 1) := by decide +kernel
theorem d_Ac_bodyOf_23 : decode prog_2_method_11_code 23 = .ok (.if_icmp .ge 11, 3) := by decide +kernel
theorem d_Ac_bodyOf_26 : decode prog_2_method_11_code 26 = .ok (.getstatic 45, 3) := by decide +kernel
theorem d_Ac_bodyOf_29 : decode prog_2_method_11_code 29 = .ok (.iload_n 2, 1) := by decide +kernel
theorem d_Ac_bodyOf_30 : decode prog_2_method_11_code 30 = .ok (.iaload, 1) := by decide +kernel
theorem d_Ac_bodyOf_31 : decode prog_2_method_11_code 31 = .ok (.goto 4, 3) := by decide +kernel
theorem d_Ac_bodyOf_34 : decode prog_2_method_11_code 34 = .ok (.iconst 0, 1) := by decide +kernel
theorem d_Ac_bodyOf_35 : decode prog_2_method_11_code 35 = .ok (.ireturn, 1) := by decide +kernel
def f_Ac_bodyOf  (p0 : Int32) (p1 : Int32) : Option (Int32) :=
  (f_Ac_isKind  p1).bind fun r1 =>
  if r1 = true then
    (if ((p0 * (8 : Int32)) + p1) < 0 then
      (some ((0 : Int32)))
    else
      (if 32 ≤ ((p0 * (8 : Int32)) + p1) then
        (some ((0 : Int32)))
      else
        (if ((p0 * (8 : Int32)) + p1) < 0 ∨ 32 ≤ Int32.toNatClampNeg ((p0 * (8 : Int32)) + p1) then none else
        some ((g_BODY (Int32.toNatClampNeg ((p0 * (8 : Int32)) + p1)))))))
  else
    (some ((0 : Int32)))
set_option maxRecDepth 20000 in
theorem c_Ac_bodyOf {l : Launch} {D : va_G} {dA : Nat → ClassId}   {p0 : Int32} {p1 : Int32} {r0 : Int32}   (hf : f_Ac_bodyOf  p0 p1 = some r0) : CT l y_Ac_bodyOf prog_2_method_11_code 3 (some .int) { frames := 1, cells := 0, slots := 0, locals := 20 } D dA [.int p0, .int p1] [] (some (.int r0)) (fun _ : Unit => []) := by
  refine ct_intro "OneLamp$Acts" rfl (by decide +kernel) (Nat.le_of_ble_eq_true rfl) [(0, .int p0), (1, .int p1)] rfl (fun _ C => ?_)
  unfold f_Ac_bodyOf at hf
  refine g_iload_n (pc' := 1) C 0 d_Ac_bodyOf_0 rfl rfl ?_
  refine g_bipush (pc' := 3) (v := 8) C d_Ac_bodyOf_1 rfl rfl ?_
  refine g_imul (pc' := 4) C d_Ac_bodyOf_3 rfl ?_
  refine g_iload_n (pc' := 5) C 1 d_Ac_bodyOf_4 rfl rfl ?_
  refine g_iadd (pc' := 6) C d_Ac_bodyOf_5 rfl ?_
  refine g_istore_n (pc' := 7) (lv' := [(2, .int ((p0 * (8 : Int32)) + p1)), (0, .int p0), (1, .int p1)]) C d_Ac_bodyOf_6 rfl (by decide) rfl ?_
  refine g_iload_n (pc' := 8) C 2 d_Ac_bodyOf_7 rfl rfl ?_
  replace hf := g_bi hf; obtain ⟨r1, hc2, hf⟩ := hf
  refine g_callS (pc' := 11) (st1 := [.int (b2i r1)]) (ws1 := []) C (c_Ac_isKind (l := l) (D := D) (dA := dA)    hc2) yy_Ac_isKind mw_4_27 d_Ac_bodyOf_8 rfl [] rfl rfl (Nat.le_of_ble_eq_true rfl) ⟨Nat.le_of_ble_eq_true rfl, Nat.le_of_ble_eq_true rfl⟩ rfl rfl (Nat.zero_le _) (Nat.zero_le _) [] rfl (by decide +kernel) rfl (g_lay_sel _ _ _ _ [] (by decide +kernel) rfl (by decide +kernel) rfl rfl) rfl ?_
  refine g_if_eqb (pc' := 14) (tgt := 34) C d_Ac_bodyOf_11 rfl rfl (fun h => ?_) (fun h => ?_)
  · replace hf := g_bf h hf
    refine g_iconst (pc' := 35) (v := 0) C d_Ac_bodyOf_34 rfl rfl ?_
    replace hf := Option.some.inj hf; subst hf
    exact g_iret C d_Ac_bodyOf_35 () rfl
  · replace hf := g_bt h hf
    refine g_iload_n (pc' := 15) C 0 d_Ac_bodyOf_14 rfl rfl ?_
    refine g_if_lt (pc' := 18) (tgt := 34) C d_Ac_bodyOf_15 rfl rfl (fun h => ?_) (fun h => ?_)
    · replace hf := g_ip h hf
      refine g_iconst (pc' := 35) (v := 0) C d_Ac_bodyOf_34 rfl rfl ?_
      replace hf := Option.some.inj hf; subst hf
      exact g_iret C d_Ac_bodyOf_35 () rfl
    · replace hf := g_in h hf
      refine g_iload_n (pc' := 19) C 0 d_Ac_bodyOf_18 rfl rfl ?_
      refine g_body (pc' := 22) C mw_4_31 d_Ac_bodyOf_19 rfl (fun t3 hTt3 => ?_)
      refine g_tlen (pc' := 23) (v := 32) C hTt3 d_Ac_bodyOf_22 rfl rfl ?_
      refine g_icmp_ge (pc' := 26) (tgt := 34) C d_Ac_bodyOf_23 rfl rfl (fun h => ?_) (fun h => ?_)
      · replace hf := g_ip h hf
        refine g_iconst (pc' := 35) (v := 0) C d_Ac_bodyOf_34 rfl rfl ?_
        replace hf := Option.some.inj hf; subst hf
        exact g_iret C d_Ac_bodyOf_35 () rfl
      · replace hf := g_in h hf
        refine g_body (pc' := 29) C mw_4_31 d_Ac_bodyOf_26 rfl (fun t4 hTt4 => ?_)
        refine g_iload_n (pc' := 30) C 0 d_Ac_bodyOf_29 rfl rfl ?_
        have hb := g_ck hf
        replace hf := g_in hb hf
        refine g_tald (pc' := 31) C hTt4 d_Ac_bodyOf_30 rfl hb ?_
        refine g_goto (tgt := 35) C d_Ac_bodyOf_31 rfl ?_
        replace hf := Option.some.inj hf; subst hf
        exact g_iret C d_Ac_bodyOf_35 () rfl
def y_Ac_holderOf : MethodName := ⟨"OneLamp$Acts", "holderOf", "(II)I"⟩
theorem yy_Ac_holderOf : YS y_Ac_holderOf prog_2_method_12_code 4 (some .int) 2 := ⟨mw_4_26, mw_1_10, mw_4_25, by decide +kernel, by decide +kernel, by decide +kernel⟩
theorem d_Ac_holderOf_0 : decode prog_2_method_12_code 0 = .ok (.iload_n 1, 1) := by decide +kernel
theorem d_Ac_holderOf_1 : decode prog_2_method_12_code 1 = .ok (.istore_n 2, 1) := by decide +kernel
theorem d_Ac_holderOf_2 : decode prog_2_method_12_code 2 = .ok (.iconst 0, 1) := by decide +kernel
theorem d_Ac_holderOf_3 : decode prog_2_method_12_code 3 = .ok (.istore_n 3, 1) := by decide +kernel
theorem d_Ac_holderOf_4 : decode prog_2_method_12_code 4 = .ok (.iload_n 3, 1) := by decide +kernel
theorem d_Ac_holderOf_5 : decode prog_2_method_12_code 5 = .ok (.bipush 8, 2) := by decide +kernel
theorem d_Ac_holderOf_7 : decode prog_2_method_12_code 7 = .ok (.if_icmp .ge 30, 3) := by decide +kernel
theorem d_Ac_holderOf_10 : decode prog_2_method_12_code 10 = .ok (.iload_n 2, 1) := by decide +kernel
theorem d_Ac_holderOf_11 : decode prog_2_method_12_code 11 = .ok (.invokestatic 18, 3) := by decide +kernel
theorem d_Ac_holderOf_14 : decode prog_2_method_12_code 14 = .ok (.ifCond .eq 23, 3) := by decide +kernel
theorem d_Ac_holderOf_17 : decode prog_2_method_12_code 17 = .ok (.iload_n 0, 1) := by decide +kernel
theorem d_Ac_holderOf_18 : decode prog_2_method_12_code 18 = .ok (.iload_n 2, 1) := by decide +kernel
theorem d_Ac_holderOf_19 : decode prog_2_method_12_code 19 = .ok (.invokestatic 48, 3) := by decide +kernel
theorem d_Ac_holderOf_22 : decode prog_2_method_12_code 22 = .ok (.ifCond .ne 15, 3) := by decide +kernel
theorem d_Ac_holderOf_25 : decode prog_2_method_12_code 25 = .ok (.getstatic 22, 3) := by decide +kernel
theorem d_Ac_holderOf_28 : decode prog_2_method_12_code 28 = .ok (.iload_n 2, 1) := by decide +kernel
theorem d_Ac_holderOf_29 : decode prog_2_method_12_code 29 = .ok (.iaload, 1) := by decide +kernel
theorem d_Ac_holderOf_30 : decode prog_2_method_12_code 30 = .ok (.istore_n 2, 1) := by decide +kernel
theorem d_Ac_holderOf_31 : decode prog_2_method_12_code 31 = .ok (.iinc 3 1, 3) := by decide +kernel
theorem d_Ac_holderOf_34 : decode prog_2_method_12_code 34 = .ok (.goto (-30), 3) := by decide +kernel
theorem d_Ac_holderOf_37 : decode prog_2_method_12_code 37 = .ok (.iload_n 2, 1) := by decide +kernel
theorem d_Ac_holderOf_38 : decode prog_2_method_12_code 38 = .ok (.ireturn, 1) := by decide +kernel
def f_Ac_holderOf_L4   : Nat → Int32 → Int32 → Int32 → Option (Int32)
  | 0, _, _, _ => none
  | n + 1, v0, v2, v3 =>
    if (8 : Int32) ≤ v3 then
      (some (v2))
    else
      ((f_Ac_isKind  v2).bind fun r1 =>
      if r1 = true then
        ((f_Ac_bodyOf  v0 v2).bind fun r3 =>
        if r3 = 0 then
          (if v2 < 0 ∨ 8 ≤ Int32.toNatClampNeg v2 then none else
          f_Ac_holderOf_L4  n v0 (g_ABOVE (Int32.toNatClampNeg v2)) (v3 + 1))
        else
          (some (v2)))
      else
        (some (v2)))
set_option maxRecDepth 20000 in
theorem w_Ac_holderOf_L4 {p : Program} {l : Launch} {e : Env} {s : State} {m : MethodId} {args : Array Value} {below : List Frame} {meth : Method} {c : Code} {D : va_G} {dA : Nat → ClassId} {A : Nat → Prop} (C : GC p s m args meth c prog_2_method_12_code 4 "OneLamp$Acts" (some .int) D dA A)   {r0 : Int32}    : ∀ (n : Nat) (v0 : Int32) (v2 : Int32) (v3 : Int32), f_Ac_holderOf_L4   n v0 v2 v3 = some r0 → GG p l e { frames := 2, cells := 0, slots := 0, locals := 42 } s m args below meth c 4 D A 0 0 (MQ below (cQ D A (some (.int r0)) (fun _ : Unit => [])) args s 0 0 A) 4 [(0, .int v0), (2, .int v2), (3, .int v3)] [] [] := by
  intro n
  induction n with
  | zero =>
    intro v0 v2 v3 hf
    cases hf
  | succ n ih =>
    intro v0 v2 v3 hf
    unfold f_Ac_holderOf_L4 at hf
    refine g_iload_n (pc' := 5) C 2 d_Ac_holderOf_4 rfl rfl ?_
    refine g_bipush (pc' := 7) (v := 8) C d_Ac_holderOf_5 rfl rfl ?_
    refine g_icmp_ge (pc' := 10) (tgt := 37) C d_Ac_holderOf_7 rfl rfl (fun h => ?_) (fun h => ?_)
    · replace hf := g_ip h hf
      refine g_iload_n (pc' := 38) C 1 d_Ac_holderOf_37 rfl rfl ?_
      replace hf := Option.some.inj hf; subst hf
      exact g_iret C d_Ac_holderOf_38 () rfl
    · replace hf := g_in h hf
      refine g_iload_n (pc' := 11) C 1 d_Ac_holderOf_10 rfl rfl ?_
      replace hf := g_bi hf; obtain ⟨r1, hc2, hf⟩ := hf
      refine g_callS (pc' := 14) (st1 := [.int (b2i r1)]) (ws1 := []) C (c_Ac_isKind (l := l) (D := D) (dA := dA)    hc2) yy_Ac_isKind mw_4_27 d_Ac_holderOf_11 rfl [] rfl rfl (Nat.le_of_ble_eq_true rfl) ⟨Nat.le_of_ble_eq_true rfl, Nat.le_of_ble_eq_true rfl⟩ rfl rfl (Nat.zero_le _) (Nat.zero_le _) [] rfl (by decide +kernel) rfl (g_lay_sel _ _ _ _ [] (by decide +kernel) rfl (by decide +kernel) rfl rfl) rfl ?_
      refine g_if_eqb (pc' := 17) (tgt := 37) C d_Ac_holderOf_14 rfl rfl (fun h => ?_) (fun h => ?_)
      · replace hf := g_bf h hf
        refine g_iload_n (pc' := 38) C 1 d_Ac_holderOf_37 rfl rfl ?_
        replace hf := Option.some.inj hf; subst hf
        exact g_iret C d_Ac_holderOf_38 () rfl
      · replace hf := g_bt h hf
        refine g_iload_n (pc' := 18) C 0 d_Ac_holderOf_17 rfl rfl ?_
        refine g_iload_n (pc' := 19) C 1 d_Ac_holderOf_18 rfl rfl ?_
        replace hf := g_bi hf; obtain ⟨r3, hc4, hf⟩ := hf
        refine g_callS (pc' := 22) (st1 := [.int r3]) (ws1 := []) C (c_Ac_bodyOf (l := l) (D := D) (dA := dA)    hc4) yy_Ac_bodyOf mw_4_28 d_Ac_holderOf_19 rfl [] rfl rfl (Nat.le_of_ble_eq_true rfl) ⟨Nat.le_of_ble_eq_true rfl, Nat.le_of_ble_eq_true rfl⟩ rfl rfl (Nat.zero_le _) (Nat.zero_le _) [] rfl (by decide +kernel) rfl (g_lay_sel _ _ _ _ [] (by decide +kernel) rfl (by decide +kernel) rfl rfl) rfl ?_
        refine g_if_ne (pc' := 25) (tgt := 37) C d_Ac_holderOf_22 rfl rfl (fun h => ?_) (fun h => ?_)
        · replace hf := g_in h hf
          refine g_iload_n (pc' := 38) C 1 d_Ac_holderOf_37 rfl rfl ?_
          replace hf := Option.some.inj hf; subst hf
          exact g_iret C d_Ac_holderOf_38 () rfl
        · replace hf := g_ip h hf
          refine g_above (pc' := 28) C mw_4_33 d_Ac_holderOf_25 rfl (fun t5 hTt5 => ?_)
          refine g_iload_n (pc' := 29) C 1 d_Ac_holderOf_28 rfl rfl ?_
          have hb := g_ck hf
          replace hf := g_in hb hf
          refine g_tald (pc' := 30) C hTt5 d_Ac_holderOf_29 rfl hb ?_
          refine g_istore_n (pc' := 31) (lv' := [(2, .int (g_ABOVE (Int32.toNatClampNeg v2))), (0, .int v0), (3, .int v3)]) C d_Ac_holderOf_30 rfl (by decide) rfl ?_
          refine g_iinc (pc' := 34) (j := 2) (v := (v3 + 1)) (lv' := [(3, .int (v3 + 1)), (2, .int (g_ABOVE (Int32.toNatClampNeg v2))), (0, .int v0)]) C d_Ac_holderOf_31 rfl rfl rfl (by decide) rfl ?_
          refine g_goto (tgt := 4) C d_Ac_holderOf_34 rfl ?_
          refine g_lv (lv' := [(0, .int v0), (2, .int (g_ABOVE (Int32.toNatClampNeg v2))), (3, .int (v3 + 1))]) [2, 1, 0] rfl ?_
          exact ih v0 (g_ABOVE (Int32.toNatClampNeg v2)) (v3 + 1) hf
def f_Ac_holderOf  (p0 : Int32) (p1 : Int32) : Option (Int32) :=
  f_Ac_holderOf_L4  3000 p0 p1 (0 : Int32)
set_option maxRecDepth 20000 in
theorem c_Ac_holderOf {l : Launch} {D : va_G} {dA : Nat → ClassId}   {p0 : Int32} {p1 : Int32} {r0 : Int32}   (hf : f_Ac_holderOf  p0 p1 = some r0) : CT l y_Ac_holderOf prog_2_method_12_code 4 (some .int) { frames := 2, cells := 0, slots := 0, locals := 42 } D dA [.int p0, .int p1] [] (some (.int r0)) (fun _ : Unit => []) := by
  refine ct_intro "OneLamp$Acts" rfl (by decide +kernel) (Nat.le_of_ble_eq_true rfl) [(0, .int p0), (1, .int p1)] rfl (fun _ C => ?_)
  unfold f_Ac_holderOf at hf
  refine g_iload_n (pc' := 1) C 1 d_Ac_holderOf_0 rfl rfl ?_
  refine g_istore_n (pc' := 2) (lv' := [(2, .int p1), (0, .int p0), (1, .int p1)]) C d_Ac_holderOf_1 rfl (by decide) rfl ?_
  refine g_iconst (pc' := 3) (v := 0) C d_Ac_holderOf_2 rfl rfl ?_
  refine g_istore_n (pc' := 4) (lv' := [(3, .int 0), (2, .int p1), (0, .int p0), (1, .int p1)]) C d_Ac_holderOf_3 rfl (by decide) rfl ?_
  refine g_lv (lv' := [(0, .int p0), (2, .int p1), (3, .int (0 : Int32))]) [2, 1, 0] rfl ?_
  exact w_Ac_holderOf_L4  C   3000 p0 p1 (0 : Int32) hf
def y_Ac_note : MethodName := ⟨"OneLamp$Acts", "note", "(I)V"⟩
theorem yy_Ac_note : YV y_Ac_note prog_2_method_10_code 2 none 1 := ⟨mw_4_42, mw_1_10, mw_4_41, tm_s (y := y_Ac_note) (n := 5) (by decide +kernel), by decide +kernel, by decide +kernel, by decide +kernel⟩
theorem d_Ac_note_0 : decode prog_2_method_10_code 0 = .ok (.aload_n 0, 1) := by decide +kernel
theorem d_Ac_note_1 : decode prog_2_method_10_code 1 = .ok (.getfield 32, 3) := by decide +kernel
theorem d_Ac_note_4 : decode prog_2_method_10_code 4 = .ok (.ifCond .lt 22, 3) := by decide +kernel
theorem d_Ac_note_7 : decode prog_2_method_10_code 7 = .ok (.aload_n 0, 1) := by decide +kernel
theorem d_Ac_note_8 : decode prog_2_method_10_code 8 = .ok (.getfield 32, 3) := by decide +kernel
theorem d_Ac_note_11 : decode prog_2_method_10_code 11 = .ok (.bipush 24, 2) := by decide +kernel
theorem d_Ac_note_13 : decode prog_2_method_10_code 13 = .ok (.if_icmp .ge 13, 3) := by decide +kernel
theorem d_Ac_note_16 : decode prog_2_method_10_code 16 = .ok (.aload_n 0, 1) := by decide +kernel
theorem d_Ac_note_17 : decode prog_2_method_10_code 17 = .ok (.getfield 15, 3) := by decide +kernel
theorem d_Ac_note_20 : decode prog_2_method_10_code 20 = .ok (.aload_n 0, 1) := by decide +kernel
theorem d_Ac_note_21 : decode prog_2_method_10_code 21 = .ok (.getfield 32, 3) := by decide +kernel
theorem d_Ac_note_24 : decode prog_2_method_10_code 24 = .ok (.iload_n 1, 1) := by decide +kernel
theorem d_Ac_note_25 : decode prog_2_method_10_code 25 = .ok (.iastore, 1) := by decide +kernel
theorem d_Ac_note_26 : decode prog_2_method_10_code 26 = .ok (.aload_n 0, 1) := by decide +kernel
theorem d_Ac_note_27 : decode prog_2_method_10_code 27 = .ok (.dup, 1) := by decide +kernel
theorem d_Ac_note_28 : decode prog_2_method_10_code 28 = .ok (.getfield 32, 3) := by decide +kernel
theorem d_Ac_note_31 : decode prog_2_method_10_code 31 = .ok (.iconst 1, 1) := by decide +kernel
theorem d_Ac_note_32 : decode prog_2_method_10_code 32 = .ok (.iadd, 1) := by decide +kernel
theorem d_Ac_note_33 : decode prog_2_method_10_code 33 = .ok (.putfield 32, 3) := by decide +kernel
theorem d_Ac_note_36 : decode prog_2_method_10_code 36 = .ok (.return_, 1) := by decide +kernel
def f_Ac_note  (p1 : Int32) (x_o_ran : Int32) (x_o_trace : Nat → Int32) : Option (Int32 × (Nat → Int32)) :=
  if x_o_ran < 0 then
    (some ((x_o_ran + (1 : Int32)), x_o_trace))
  else
    (if (24 : Int32) ≤ x_o_ran then
      (some ((x_o_ran + (1 : Int32)), x_o_trace))
    else
      (if x_o_ran < 0 ∨ 24 ≤ Int32.toNatClampNeg x_o_ran then none else
      some ((x_o_ran + (1 : Int32)), (upd x_o_trace (Int32.toNatClampNeg x_o_ran) p1))))
set_option maxRecDepth 20000 in
theorem c_Ac_note {l : Launch} {D : va_G} {dA : Nat → ClassId} {a_o a_o_kinds a_o_trace : Nat} {x_o_bodies : Int32} {x_o_number : Int32} {p1 : Int32} {x_o_ran : Int32} {x_o_trace : Nat → Int32} {o_x_o_ran : Int32} {o_x_o_trace : Nat → Int32}   (hf : f_Ac_note  p1 x_o_ran x_o_trace = some (o_x_o_ran, o_x_o_trace)) : CT l y_Ac_note prog_2_method_10_code 2 none { frames := 0, cells := 0, slots := 0, locals := 0 } D dA [.ref a_o, .int p1] [O_Ac a_o a_o_kinds x_o_bodies a_o_trace x_o_ran x_o_number, A_I dA a_o_trace 24 x_o_trace] none (fun _ : Unit => [O_Ac a_o a_o_kinds x_o_bodies a_o_trace o_x_o_ran x_o_number, A_I dA a_o_trace 24 o_x_o_trace]) := by
  refine ct_intro "OneLamp$Acts" rfl (by decide +kernel) (Nat.le_of_ble_eq_true rfl) [(0, .ref a_o), (1, .int p1)] rfl (fun _ C => ?_)
  unfold f_Ac_note at hf
  refine g_aload_n (pc' := 1) C 0 d_Ac_note_0 rfl rfl ?_
  refine g_get (pc' := 4) C kf_Ac 3 mw_2_4 d_Ac_note_1 rfl 0 rfl (by decide) rfl ?_
  refine g_if_lt (pc' := 7) (tgt := 26) C d_Ac_note_4 rfl rfl (fun h => ?_) (fun h => ?_)
  · replace hf := g_ip h hf
    refine g_aload_n (pc' := 27) C 0 d_Ac_note_26 rfl rfl ?_
    refine g_dup (pc' := 28) C d_Ac_note_27 rfl rfl ?_
    refine g_get (pc' := 31) C kf_Ac 3 mw_2_4 d_Ac_note_28 rfl 0 rfl (by decide) rfl ?_
    refine g_iconst (pc' := 32) (v := 1) C d_Ac_note_31 rfl rfl ?_
    refine g_iadd (pc' := 33) C d_Ac_note_32 rfl ?_
    refine g_put (pc' := 36) (ws' := [O_Ac a_o a_o_kinds x_o_bodies a_o_trace (x_o_ran + (1 : Int32)) x_o_number, A_I dA a_o_trace 24 x_o_trace]) C kf_Ac 3 mw_2_4 d_Ac_note_33 rfl 0 rfl (by decide) rfl rfl rfl (Nat.le_of_ble_eq_true rfl) rfl ?_
    replace hf := g_o2 hf; obtain ⟨h1, hf⟩ := hf; subst h1
    replace hf := Option.some.inj hf; subst hf
    exact g_vret C d_Ac_note_36 () rfl
  · replace hf := g_in h hf
    refine g_aload_n (pc' := 8) C 0 d_Ac_note_7 rfl rfl ?_
    refine g_get (pc' := 11) C kf_Ac 3 mw_2_4 d_Ac_note_8 rfl 0 rfl (by decide) rfl ?_
    refine g_bipush (pc' := 13) (v := 24) C d_Ac_note_11 rfl rfl ?_
    refine g_icmp_ge (pc' := 16) (tgt := 26) C d_Ac_note_13 rfl rfl (fun h => ?_) (fun h => ?_)
    · replace hf := g_ip h hf
      refine g_aload_n (pc' := 27) C 0 d_Ac_note_26 rfl rfl ?_
      refine g_dup (pc' := 28) C d_Ac_note_27 rfl rfl ?_
      refine g_get (pc' := 31) C kf_Ac 3 mw_2_4 d_Ac_note_28 rfl 0 rfl (by decide) rfl ?_
      refine g_iconst (pc' := 32) (v := 1) C d_Ac_note_31 rfl rfl ?_
      refine g_iadd (pc' := 33) C d_Ac_note_32 rfl ?_
      refine g_put (pc' := 36) (ws' := [O_Ac a_o a_o_kinds x_o_bodies a_o_trace (x_o_ran + (1 : Int32)) x_o_number, A_I dA a_o_trace 24 x_o_trace]) C kf_Ac 3 mw_2_4 d_Ac_note_33 rfl 0 rfl (by decide) rfl rfl rfl (Nat.le_of_ble_eq_true rfl) rfl ?_
      replace hf := g_o2 hf; obtain ⟨h1, hf⟩ := hf; subst h1
      replace hf := Option.some.inj hf; subst hf
      exact g_vret C d_Ac_note_36 () rfl
    · replace hf := g_in h hf
      refine g_aload_n (pc' := 17) C 0 d_Ac_note_16 rfl rfl ?_
      refine g_get (pc' := 20) C kf_Ac 2 mw_2_3 d_Ac_note_17 rfl 0 rfl (by decide) rfl ?_
      refine g_aload_n (pc' := 21) C 0 d_Ac_note_20 rfl rfl ?_
      refine g_get (pc' := 24) C kf_Ac 3 mw_2_4 d_Ac_note_21 rfl 0 rfl (by decide) rfl ?_
      refine g_iload_n (pc' := 25) C 1 d_Ac_note_24 rfl rfl ?_
      have hb := g_ck hf
      replace hf := g_in hb hf
      refine g_iast (pc' := 26) (ws' := [O_Ac a_o a_o_kinds x_o_bodies a_o_trace x_o_ran x_o_number, A_I dA a_o_trace 24 (upd x_o_trace (Int32.toNatClampNeg x_o_ran) p1)]) C d_Ac_note_25 rfl 1 rfl hb rfl ?_
      refine g_aload_n (pc' := 27) C 0 d_Ac_note_26 rfl rfl ?_
      refine g_dup (pc' := 28) C d_Ac_note_27 rfl rfl ?_
      refine g_get (pc' := 31) C kf_Ac 3 mw_2_4 d_Ac_note_28 rfl 0 rfl (by decide) rfl ?_
      refine g_iconst (pc' := 32) (v := 1) C d_Ac_note_31 rfl rfl ?_
      refine g_iadd (pc' := 33) C d_Ac_note_32 rfl ?_
      refine g_put (pc' := 36) (ws' := [O_Ac a_o a_o_kinds x_o_bodies a_o_trace (x_o_ran + (1 : Int32)) x_o_number, A_I dA a_o_trace 24 (upd x_o_trace (Int32.toNatClampNeg x_o_ran) p1)]) C kf_Ac 3 mw_2_4 d_Ac_note_33 rfl 0 rfl (by decide) rfl rfl rfl (Nat.le_of_ble_eq_true rfl) rfl ?_
      replace hf := g_o2 hf; obtain ⟨h1, hf⟩ := hf; subst h1
      replace hf := Option.some.inj hf; subst hf
      exact g_vret C d_Ac_note_36 () rfl
def y_Ac_run : MethodName := ⟨"OneLamp$Acts", "run", "(LOneLamp$Acts;IIII)I"⟩
theorem yy_Ac_run : YS y_Ac_run prog_2_method_13_code 10 (some .int) 5 := ⟨mw_4_23, mw_1_10, mw_4_22, by decide +kernel, by decide +kernel, by decide +kernel⟩
theorem d_Ac_run_0 : decode prog_2_method_13_code 0 = .ok (.iload_n 1, 1) := by decide +kernel
theorem d_Ac_run_1 : decode prog_2_method_13_code 1 = .ok (.iload_n 2, 1) := by decide +kernel
theorem d_Ac_run_2 : decode prog_2_method_13_code 2 = .ok (.invokestatic 52, 3) := by decide +kernel
theorem d_Ac_run_5 : decode prog_2_method_13_code 5 = .ok (.istore 5, 2) := by decide +kernel
theorem d_Ac_run_7 : decode prog_2_method_13_code 7 = .ok (.iload 4, 2) := by decide +kernel
theorem d_Ac_run_9 : decode prog_2_method_13_code 9 = .ok (.bipush 40, 2) := by decide +kernel
theorem d_Ac_run_11 : decode prog_2_method_13_code 11 = .ok (.if_icmp .gt 11, 3) := by decide +kernel
theorem d_Ac_run_14 : decode prog_2_method_13_code 14 = .ok (.iload 5, 2) := by decide +kernel
theorem d_Ac_run_16 : decode prog_2_method_13_code 16 = .ok (.invokestatic 18, 3) := by decide +kernel
theorem d_Ac_run_19 : decode prog_2_method_13_code 19 = .ok (.ifCond .ne 5, 3) := by decide +kernel
theorem d_Ac_run_22 : decode prog_2_method_13_code 22 = .ok (.iconst 0, 1) := by decide +kernel
theorem d_Ac_run_23 : decode prog_2_method_13_code 23 = .ok (.ireturn, 1) := by decide +kernel
theorem d_Ac_run_24 : decode prog_2_method_13_code 24 = .ok (.aload_n 0, 1) := by decide +kernel
theorem d_Ac_run_25 : decode prog_2_method_13_code 25 = .ok (.aload_n 0, 1) := by decide +kernel
theorem d_Ac_run_26 : decode prog_2_method_13_code 26 = .ok (.getfield 38, 3) := by decide +kernel
theorem d_Ac_run_29 : decode prog_2_method_13_code 29 = .ok (.invokevirtual 55, 3) := by decide +kernel
theorem d_Ac_run_32 : decode prog_2_method_13_code 32 = .ok (.istore 6, 2) := by decide +kernel
theorem d_Ac_run_34 : decode prog_2_method_13_code 34 = .ok (.getstatic 22, 3) := by decide +kernel
theorem d_Ac_run_37 : decode prog_2_method_13_code 37 = .ok (.iload 5, 2) := by decide +kernel
theorem d_Ac_run_39 : decode prog_2_method_13_code 39 = .ok (.iaload, 1) := by decide +kernel
theorem d_Ac_run_40 : decode prog_2_method_13_code 40 = .ok (.istore 7, 2) := by decide +kernel
theorem d_Ac_run_42 : decode prog_2_method_13_code 42 = .ok (.iload 4, 2) := by decide +kernel
theorem d_Ac_run_44 : decode prog_2_method_13_code 44 = .ok (.iconst 1, 1) := by decide +kernel
theorem d_Ac_run_45 : decode prog_2_method_13_code 45 = .ok (.iadd, 1) := by decide +kernel
theorem d_Ac_run_46 : decode prog_2_method_13_code 46 = .ok (.istore 8, 2) := by decide +kernel
theorem d_Ac_run_48 : decode prog_2_method_13_code 48 = .ok (.iload_n 1, 1) := by decide +kernel
theorem d_Ac_run_49 : decode prog_2_method_13_code 49 = .ok (.iload 5, 2) := by decide +kernel
theorem d_Ac_run_51 : decode prog_2_method_13_code 51 = .ok (.invokestatic 48, 3) := by decide +kernel
theorem d_Ac_run_54 : decode prog_2_method_13_code 54 = .ok (.istore 9, 2) := by decide +kernel
theorem d_Ac_run_56 : decode prog_2_method_13_code 56 = .ok (.aload_n 0, 1) := by decide +kernel
theorem d_Ac_run_57 : decode prog_2_method_13_code 57 = .ok (.iload 9, 2) := by decide +kernel
theorem d_Ac_run_59 : decode prog_2_method_13_code 59 = .ok (.invokevirtual 59, 3) := by decide +kernel
theorem d_Ac_run_62 : decode prog_2_method_13_code 62 = .ok (.iload 9, 2) := by decide +kernel
theorem d_Ac_run_64 : decode prog_2_method_13_code 64 = .ok (.lookupswitch 320 #[(1, 124), (2, 131), (10, 153), (11, 166), (20, 173), (30, 186), (40, 198), (41, 211), (50, 224), (60, 237), (61, 259), (70, 272), (80, 285), (81, 307)], 124) := by decide +kernel
theorem d_Ac_run_188 : decode prog_2_method_13_code 188 = .ok (.iload_n 3, 1) := by decide +kernel
theorem d_Ac_run_189 : decode prog_2_method_13_code 189 = .ok (.aload_n 0, 1) := by decide +kernel
theorem d_Ac_run_190 : decode prog_2_method_13_code 190 = .ok (.getfield 38, 3) := by decide +kernel
theorem d_Ac_run_193 : decode prog_2_method_13_code 193 = .ok (.iadd, 1) := by decide +kernel
theorem d_Ac_run_194 : decode prog_2_method_13_code 194 = .ok (.ireturn, 1) := by decide +kernel
theorem d_Ac_run_195 : decode prog_2_method_13_code 195 = .ok (.aload_n 0, 1) := by decide +kernel
theorem d_Ac_run_196 : decode prog_2_method_13_code 196 = .ok (.iconst 1, 1) := by decide +kernel
theorem d_Ac_run_197 : decode prog_2_method_13_code 197 = .ok (.iload 6, 2) := by decide +kernel
theorem d_Ac_run_199 : decode prog_2_method_13_code 199 = .ok (.iload_n 3, 1) := by decide +kernel
theorem d_Ac_run_200 : decode prog_2_method_13_code 200 = .ok (.iload 8, 2) := by decide +kernel
theorem d_Ac_run_202 : decode prog_2_method_13_code 202 = .ok (.invokestatic 41, 3) := by decide +kernel
theorem d_Ac_run_205 : decode prog_2_method_13_code 205 = .ok (.aload_n 0, 1) := by decide +kernel
theorem d_Ac_run_206 : decode prog_2_method_13_code 206 = .ok (.iconst 2, 1) := by decide +kernel
theorem d_Ac_run_207 : decode prog_2_method_13_code 207 = .ok (.iload 6, 2) := by decide +kernel
theorem d_Ac_run_209 : decode prog_2_method_13_code 209 = .ok (.iconst 1, 1) := by decide +kernel
theorem d_Ac_run_210 : decode prog_2_method_13_code 210 = .ok (.iload 8, 2) := by decide +kernel
theorem d_Ac_run_212 : decode prog_2_method_13_code 212 = .ok (.invokestatic 41, 3) := by decide +kernel
theorem d_Ac_run_215 : decode prog_2_method_13_code 215 = .ok (.isub, 1) := by decide +kernel
theorem d_Ac_run_216 : decode prog_2_method_13_code 216 = .ok (.ireturn, 1) := by decide +kernel
theorem d_Ac_run_217 : decode prog_2_method_13_code 217 = .ok (.aload_n 0, 1) := by decide +kernel
theorem d_Ac_run_218 : decode prog_2_method_13_code 218 = .ok (.iconst 0, 1) := by decide +kernel
theorem d_Ac_run_219 : decode prog_2_method_13_code 219 = .ok (.iload 6, 2) := by decide +kernel
theorem d_Ac_run_221 : decode prog_2_method_13_code 221 = .ok (.iload_n 3, 1) := by decide +kernel
theorem d_Ac_run_222 : decode prog_2_method_13_code 222 = .ok (.iload 8, 2) := by decide +kernel
theorem d_Ac_run_224 : decode prog_2_method_13_code 224 = .ok (.invokestatic 41, 3) := by decide +kernel
theorem d_Ac_run_227 : decode prog_2_method_13_code 227 = .ok (.iconst 2, 1) := by decide +kernel
theorem d_Ac_run_228 : decode prog_2_method_13_code 228 = .ok (.imul, 1) := by decide +kernel
theorem d_Ac_run_229 : decode prog_2_method_13_code 229 = .ok (.ireturn, 1) := by decide +kernel
theorem d_Ac_run_230 : decode prog_2_method_13_code 230 = .ok (.iload_n 3, 1) := by decide +kernel
theorem d_Ac_run_231 : decode prog_2_method_13_code 231 = .ok (.aload_n 0, 1) := by decide +kernel
theorem d_Ac_run_232 : decode prog_2_method_13_code 232 = .ok (.getfield 38, 3) := by decide +kernel
theorem d_Ac_run_235 : decode prog_2_method_13_code 235 = .ok (.ixor, 1) := by decide +kernel
theorem d_Ac_run_236 : decode prog_2_method_13_code 236 = .ok (.ireturn, 1) := by decide +kernel
theorem d_Ac_run_237 : decode prog_2_method_13_code 237 = .ok (.aload_n 0, 1) := by decide +kernel
theorem d_Ac_run_238 : decode prog_2_method_13_code 238 = .ok (.iconst 0, 1) := by decide +kernel
theorem d_Ac_run_239 : decode prog_2_method_13_code 239 = .ok (.iload 7, 2) := by decide +kernel
theorem d_Ac_run_241 : decode prog_2_method_13_code 241 = .ok (.iload_n 3, 1) := by decide +kernel
theorem d_Ac_run_242 : decode prog_2_method_13_code 242 = .ok (.iload 8, 2) := by decide +kernel
theorem d_Ac_run_244 : decode prog_2_method_13_code 244 = .ok (.invokestatic 41, 3) := by decide +kernel
theorem d_Ac_run_247 : decode prog_2_method_13_code 247 = .ok (.iconst 3, 1) := by decide +kernel
theorem d_Ac_run_248 : decode prog_2_method_13_code 248 = .ok (.iadd, 1) := by decide +kernel
theorem d_Ac_run_249 : decode prog_2_method_13_code 249 = .ok (.ireturn, 1) := by decide +kernel
theorem d_Ac_run_250 : decode prog_2_method_13_code 250 = .ok (.aload_n 0, 1) := by decide +kernel
theorem d_Ac_run_251 : decode prog_2_method_13_code 251 = .ok (.iconst 1, 1) := by decide +kernel
theorem d_Ac_run_252 : decode prog_2_method_13_code 252 = .ok (.iload 7, 2) := by decide +kernel
theorem d_Ac_run_254 : decode prog_2_method_13_code 254 = .ok (.iload_n 3, 1) := by decide +kernel
theorem d_Ac_run_255 : decode prog_2_method_13_code 255 = .ok (.iload 8, 2) := by decide +kernel
theorem d_Ac_run_257 : decode prog_2_method_13_code 257 = .ok (.invokestatic 41, 3) := by decide +kernel
theorem d_Ac_run_260 : decode prog_2_method_13_code 260 = .ok (.ineg, 1) := by decide +kernel
theorem d_Ac_run_261 : decode prog_2_method_13_code 261 = .ok (.ireturn, 1) := by decide +kernel
theorem d_Ac_run_262 : decode prog_2_method_13_code 262 = .ok (.aload_n 0, 1) := by decide +kernel
theorem d_Ac_run_263 : decode prog_2_method_13_code 263 = .ok (.iconst 2, 1) := by decide +kernel
theorem d_Ac_run_264 : decode prog_2_method_13_code 264 = .ok (.iload 7, 2) := by decide +kernel
theorem d_Ac_run_266 : decode prog_2_method_13_code 266 = .ok (.iload_n 3, 1) := by decide +kernel
theorem d_Ac_run_267 : decode prog_2_method_13_code 267 = .ok (.iload 8, 2) := by decide +kernel
theorem d_Ac_run_269 : decode prog_2_method_13_code 269 = .ok (.invokestatic 41, 3) := by decide +kernel
theorem d_Ac_run_272 : decode prog_2_method_13_code 272 = .ok (.iconst 3, 1) := by decide +kernel
theorem d_Ac_run_273 : decode prog_2_method_13_code 273 = .ok (.imul, 1) := by decide +kernel
theorem d_Ac_run_274 : decode prog_2_method_13_code 274 = .ok (.ireturn, 1) := by decide +kernel
theorem d_Ac_run_275 : decode prog_2_method_13_code 275 = .ok (.aload_n 0, 1) := by decide +kernel
theorem d_Ac_run_276 : decode prog_2_method_13_code 276 = .ok (.iconst 1, 1) := by decide +kernel
theorem d_Ac_run_277 : decode prog_2_method_13_code 277 = .ok (.iload 7, 2) := by decide +kernel
theorem d_Ac_run_279 : decode prog_2_method_13_code 279 = .ok (.iload_n 3, 1) := by decide +kernel
theorem d_Ac_run_280 : decode prog_2_method_13_code 280 = .ok (.iconst 1, 1) := by decide +kernel
theorem d_Ac_run_281 : decode prog_2_method_13_code 281 = .ok (.iadd, 1) := by decide +kernel
theorem d_Ac_run_282 : decode prog_2_method_13_code 282 = .ok (.iload 8, 2) := by decide +kernel
theorem d_Ac_run_284 : decode prog_2_method_13_code 284 = .ok (.invokestatic 41, 3) := by decide +kernel
theorem d_Ac_run_287 : decode prog_2_method_13_code 287 = .ok (.ireturn, 1) := by decide +kernel
theorem d_Ac_run_288 : decode prog_2_method_13_code 288 = .ok (.aload_n 0, 1) := by decide +kernel
theorem d_Ac_run_289 : decode prog_2_method_13_code 289 = .ok (.iconst 3, 1) := by decide +kernel
theorem d_Ac_run_290 : decode prog_2_method_13_code 290 = .ok (.iload 7, 2) := by decide +kernel
theorem d_Ac_run_292 : decode prog_2_method_13_code 292 = .ok (.iload_n 3, 1) := by decide +kernel
theorem d_Ac_run_293 : decode prog_2_method_13_code 293 = .ok (.iload 8, 2) := by decide +kernel
theorem d_Ac_run_295 : decode prog_2_method_13_code 295 = .ok (.invokestatic 41, 3) := by decide +kernel
theorem d_Ac_run_298 : decode prog_2_method_13_code 298 = .ok (.iconst 5, 1) := by decide +kernel
theorem d_Ac_run_299 : decode prog_2_method_13_code 299 = .ok (.ixor, 1) := by decide +kernel
theorem d_Ac_run_300 : decode prog_2_method_13_code 300 = .ok (.ireturn, 1) := by decide +kernel
theorem d_Ac_run_301 : decode prog_2_method_13_code 301 = .ok (.aload_n 0, 1) := by decide +kernel
theorem d_Ac_run_302 : decode prog_2_method_13_code 302 = .ok (.iconst 2, 1) := by decide +kernel
theorem d_Ac_run_303 : decode prog_2_method_13_code 303 = .ok (.iload 7, 2) := by decide +kernel
theorem d_Ac_run_305 : decode prog_2_method_13_code 305 = .ok (.iload_n 3, 1) := by decide +kernel
theorem d_Ac_run_306 : decode prog_2_method_13_code 306 = .ok (.iload 8, 2) := by decide +kernel
theorem d_Ac_run_308 : decode prog_2_method_13_code 308 = .ok (.invokestatic 41, 3) := by decide +kernel
theorem d_Ac_run_311 : decode prog_2_method_13_code 311 = .ok (.aload_n 0, 1) := by decide +kernel
theorem d_Ac_run_312 : decode prog_2_method_13_code 312 = .ok (.iconst 0, 1) := by decide +kernel
theorem d_Ac_run_313 : decode prog_2_method_13_code 313 = .ok (.iload 6, 2) := by decide +kernel
theorem d_Ac_run_315 : decode prog_2_method_13_code 315 = .ok (.iconst 2, 1) := by decide +kernel
theorem d_Ac_run_316 : decode prog_2_method_13_code 316 = .ok (.iload 8, 2) := by decide +kernel
theorem d_Ac_run_318 : decode prog_2_method_13_code 318 = .ok (.invokestatic 41, 3) := by decide +kernel
theorem d_Ac_run_321 : decode prog_2_method_13_code 321 = .ok (.isub, 1) := by decide +kernel
theorem d_Ac_run_322 : decode prog_2_method_13_code 322 = .ok (.ireturn, 1) := by decide +kernel
theorem d_Ac_run_323 : decode prog_2_method_13_code 323 = .ok (.aload_n 0, 1) := by decide +kernel
theorem d_Ac_run_324 : decode prog_2_method_13_code 324 = .ok (.iconst 3, 1) := by decide +kernel
theorem d_Ac_run_325 : decode prog_2_method_13_code 325 = .ok (.iload 7, 2) := by decide +kernel
theorem d_Ac_run_327 : decode prog_2_method_13_code 327 = .ok (.iload_n 3, 1) := by decide +kernel
theorem d_Ac_run_328 : decode prog_2_method_13_code 328 = .ok (.iload 8, 2) := by decide +kernel
theorem d_Ac_run_330 : decode prog_2_method_13_code 330 = .ok (.invokestatic 41, 3) := by decide +kernel
theorem d_Ac_run_333 : decode prog_2_method_13_code 333 = .ok (.iconst 1, 1) := by decide +kernel
theorem d_Ac_run_334 : decode prog_2_method_13_code 334 = .ok (.iadd, 1) := by decide +kernel
theorem d_Ac_run_335 : decode prog_2_method_13_code 335 = .ok (.ireturn, 1) := by decide +kernel
theorem d_Ac_run_336 : decode prog_2_method_13_code 336 = .ok (.aload_n 0, 1) := by decide +kernel
theorem d_Ac_run_337 : decode prog_2_method_13_code 337 = .ok (.iconst 0, 1) := by decide +kernel
theorem d_Ac_run_338 : decode prog_2_method_13_code 338 = .ok (.iload 7, 2) := by decide +kernel
theorem d_Ac_run_340 : decode prog_2_method_13_code 340 = .ok (.iload_n 3, 1) := by decide +kernel
theorem d_Ac_run_341 : decode prog_2_method_13_code 341 = .ok (.iload 8, 2) := by decide +kernel
theorem d_Ac_run_343 : decode prog_2_method_13_code 343 = .ok (.invokestatic 41, 3) := by decide +kernel
theorem d_Ac_run_346 : decode prog_2_method_13_code 346 = .ok (.iconst 2, 1) := by decide +kernel
theorem d_Ac_run_347 : decode prog_2_method_13_code 347 = .ok (.imul, 1) := by decide +kernel
theorem d_Ac_run_348 : decode prog_2_method_13_code 348 = .ok (.ireturn, 1) := by decide +kernel
theorem d_Ac_run_349 : decode prog_2_method_13_code 349 = .ok (.aload_n 0, 1) := by decide +kernel
theorem d_Ac_run_350 : decode prog_2_method_13_code 350 = .ok (.iconst 1, 1) := by decide +kernel
theorem d_Ac_run_351 : decode prog_2_method_13_code 351 = .ok (.iload 7, 2) := by decide +kernel
theorem d_Ac_run_353 : decode prog_2_method_13_code 353 = .ok (.iload_n 3, 1) := by decide +kernel
theorem d_Ac_run_354 : decode prog_2_method_13_code 354 = .ok (.iload 8, 2) := by decide +kernel
theorem d_Ac_run_356 : decode prog_2_method_13_code 356 = .ok (.invokestatic 41, 3) := by decide +kernel
theorem d_Ac_run_359 : decode prog_2_method_13_code 359 = .ok (.aload_n 0, 1) := by decide +kernel
theorem d_Ac_run_360 : decode prog_2_method_13_code 360 = .ok (.iconst 2, 1) := by decide +kernel
theorem d_Ac_run_361 : decode prog_2_method_13_code 361 = .ok (.iload 6, 2) := by decide +kernel
theorem d_Ac_run_363 : decode prog_2_method_13_code 363 = .ok (.iconst 2, 1) := by decide +kernel
theorem d_Ac_run_364 : decode prog_2_method_13_code 364 = .ok (.iload 8, 2) := by decide +kernel
theorem d_Ac_run_366 : decode prog_2_method_13_code 366 = .ok (.invokestatic 41, 3) := by decide +kernel
theorem d_Ac_run_369 : decode prog_2_method_13_code 369 = .ok (.iadd, 1) := by decide +kernel
theorem d_Ac_run_370 : decode prog_2_method_13_code 370 = .ok (.ireturn, 1) := by decide +kernel
theorem d_Ac_run_371 : decode prog_2_method_13_code 371 = .ok (.aload_n 0, 1) := by decide +kernel
theorem d_Ac_run_372 : decode prog_2_method_13_code 372 = .ok (.iconst 0, 1) := by decide +kernel
theorem d_Ac_run_373 : decode prog_2_method_13_code 373 = .ok (.iload 7, 2) := by decide +kernel
theorem d_Ac_run_375 : decode prog_2_method_13_code 375 = .ok (.iload_n 3, 1) := by decide +kernel
theorem d_Ac_run_376 : decode prog_2_method_13_code 376 = .ok (.iload 8, 2) := by decide +kernel
theorem d_Ac_run_378 : decode prog_2_method_13_code 378 = .ok (.invokestatic 41, 3) := by decide +kernel
theorem d_Ac_run_381 : decode prog_2_method_13_code 381 = .ok (.iconst 1, 1) := by decide +kernel
theorem d_Ac_run_382 : decode prog_2_method_13_code 382 = .ok (.isub, 1) := by decide +kernel
theorem d_Ac_run_383 : decode prog_2_method_13_code 383 = .ok (.ireturn, 1) := by decide +kernel
theorem d_Ac_run_384 : decode prog_2_method_13_code 384 = .ok (.iconst 0, 1) := by decide +kernel
theorem d_Ac_run_385 : decode prog_2_method_13_code 385 = .ok (.ireturn, 1) := by decide +kernel
def f_Ac_run_body (rec_Ac_run : Int32 → Int32 → Int32 → Int32 → Int32 → Int32 → Int32 → (Nat → Int32) → (Nat → Int32) → Option (Int32 × Int32 × (Nat → Int32))) (p1 : Int32) (p2 : Int32) (p3 : Int32) (p4 : Int32) (x_p0_bodies : Int32) (x_p0_ran : Int32) (x_p0_number : Int32) (x_p0_kinds : Nat → Int32) (x_p0_trace : Nat → Int32) : Option (Int32 × Int32 × (Nat → Int32)) :=
  (f_Ac_holderOf  p1 p2).bind fun r1 =>
  if (40 : Int32) < p4 then
    (some ((0 : Int32), x_p0_ran, x_p0_trace))
  else
    ((f_Ac_isKind  r1).bind fun r3 =>
    if r3 = true then
      ((f_Ac_kindOf  x_p0_number x_p0_bodies x_p0_kinds).bind fun r5 =>
      if r1 < 0 ∨ 8 ≤ Int32.toNatClampNeg r1 then none else
      (f_Ac_bodyOf  p1 r1).bind fun r8 =>
      (f_Ac_note  r8 x_p0_ran x_p0_trace).bind fun (u10, u11) =>
      if r8 = 1 then
        (some ((p3 + x_p0_number), u10, u11))
      else
      (if r8 = 2 then
        ((rec_Ac_run  (1 : Int32) r5 p3 (p4 + (1 : Int32)) x_p0_bodies u10 x_p0_number x_p0_kinds u11).bind fun (r13, u14, u15) =>
        (rec_Ac_run  (2 : Int32) r5 (1 : Int32) (p4 + (1 : Int32)) x_p0_bodies u14 x_p0_number x_p0_kinds u15).bind fun (r17, u18, u19) =>
        some ((r13 - r17), u18, u19))
      else
      (if r8 = 10 then
        ((rec_Ac_run  (0 : Int32) r5 p3 (p4 + (1 : Int32)) x_p0_bodies u10 x_p0_number x_p0_kinds u11).bind fun (r21, u22, u23) =>
        some ((r21 * (2 : Int32)), u22, u23))
      else
      (if r8 = 11 then
        (some ((p3 ^^^ x_p0_number), u10, u11))
      else
      (if r8 = 20 then
        ((rec_Ac_run  (0 : Int32) (g_ABOVE (Int32.toNatClampNeg r1)) p3 (p4 + (1 : Int32)) x_p0_bodies u10 x_p0_number x_p0_kinds u11).bind fun (r25, u26, u27) =>
        some ((r25 + (3 : Int32)), u26, u27))
      else
      (if r8 = 30 then
        ((rec_Ac_run  (1 : Int32) (g_ABOVE (Int32.toNatClampNeg r1)) p3 (p4 + (1 : Int32)) x_p0_bodies u10 x_p0_number x_p0_kinds u11).bind fun (r29, u30, u31) =>
        some ((-r29), u30, u31))
      else
      (if r8 = 40 then
        ((rec_Ac_run  (2 : Int32) (g_ABOVE (Int32.toNatClampNeg r1)) p3 (p4 + (1 : Int32)) x_p0_bodies u10 x_p0_number x_p0_kinds u11).bind fun (r33, u34, u35) =>
        some ((r33 * (3 : Int32)), u34, u35))
      else
      (if r8 = 41 then
        ((rec_Ac_run  (1 : Int32) (g_ABOVE (Int32.toNatClampNeg r1)) (p3 + (1 : Int32)) (p4 + (1 : Int32)) x_p0_bodies u10 x_p0_number x_p0_kinds u11).bind fun (r37, u38, u39) =>
        some (r37, u38, u39))
      else
      (if r8 = 50 then
        ((rec_Ac_run  (3 : Int32) (g_ABOVE (Int32.toNatClampNeg r1)) p3 (p4 + (1 : Int32)) x_p0_bodies u10 x_p0_number x_p0_kinds u11).bind fun (r41, u42, u43) =>
        some ((r41 ^^^ (5 : Int32)), u42, u43))
      else
      (if r8 = 60 then
        ((rec_Ac_run  (2 : Int32) (g_ABOVE (Int32.toNatClampNeg r1)) p3 (p4 + (1 : Int32)) x_p0_bodies u10 x_p0_number x_p0_kinds u11).bind fun (r45, u46, u47) =>
        (rec_Ac_run  (0 : Int32) r5 (2 : Int32) (p4 + (1 : Int32)) x_p0_bodies u46 x_p0_number x_p0_kinds u47).bind fun (r49, u50, u51) =>
        some ((r45 - r49), u50, u51))
      else
      (if r8 = 61 then
        ((rec_Ac_run  (3 : Int32) (g_ABOVE (Int32.toNatClampNeg r1)) p3 (p4 + (1 : Int32)) x_p0_bodies u10 x_p0_number x_p0_kinds u11).bind fun (r53, u54, u55) =>
        some ((r53 + (1 : Int32)), u54, u55))
      else
      (if r8 = 70 then
        ((rec_Ac_run  (0 : Int32) (g_ABOVE (Int32.toNatClampNeg r1)) p3 (p4 + (1 : Int32)) x_p0_bodies u10 x_p0_number x_p0_kinds u11).bind fun (r57, u58, u59) =>
        some ((r57 * (2 : Int32)), u58, u59))
      else
      (if r8 = 80 then
        ((rec_Ac_run  (1 : Int32) (g_ABOVE (Int32.toNatClampNeg r1)) p3 (p4 + (1 : Int32)) x_p0_bodies u10 x_p0_number x_p0_kinds u11).bind fun (r61, u62, u63) =>
        (rec_Ac_run  (2 : Int32) r5 (2 : Int32) (p4 + (1 : Int32)) x_p0_bodies u62 x_p0_number x_p0_kinds u63).bind fun (r65, u66, u67) =>
        some ((r61 + r65), u66, u67))
      else
      (if r8 = 81 then
        ((rec_Ac_run  (0 : Int32) (g_ABOVE (Int32.toNatClampNeg r1)) p3 (p4 + (1 : Int32)) x_p0_bodies u10 x_p0_number x_p0_kinds u11).bind fun (r69, u70, u71) =>
        some ((r69 - (1 : Int32)), u70, u71))
      else
      (some ((0 : Int32), u10, u11))))))))))))))))
    else
      (some ((0 : Int32), x_p0_ran, x_p0_trace)))
set_option maxRecDepth 20000 in
theorem c_Ac_run_body {l : Launch} {D : va_G} {dA : Nat → ClassId} {a_p0 a_p0_kinds a_p0_trace : Nat}  {p1 : Int32} {p2 : Int32} {p3 : Int32} {p4 : Int32} {x_p0_bodies : Int32} {x_p0_ran : Int32} {x_p0_number : Int32} {x_p0_kinds : Nat → Int32} {x_p0_trace : Nat → Int32} {r0 : Int32} {o_x_p0_ran : Int32} {o_x_p0_trace : Nat → Int32} {fr lo : Nat} (rec_Ac_run : Int32 → Int32 → Int32 → Int32 → Int32 → Int32 → Int32 → (Nat → Int32) → (Nat → Int32) → Option (Int32 × Int32 × (Nat → Int32))) (hrec_Ac_run : ∀ (a_p0 : Nat) (a_p0_kinds : Nat) (a_p0_trace : Nat) (p1 : Int32) (p2 : Int32) (p3 : Int32) (p4 : Int32) (x_p0_bodies : Int32) (x_p0_ran : Int32) (x_p0_number : Int32) (x_p0_kinds : Nat → Int32) (x_p0_trace : Nat → Int32) (r0 : Int32) (o_x_p0_ran : Int32) (o_x_p0_trace : Nat → Int32), rec_Ac_run p1 p2 p3 p4 x_p0_bodies x_p0_ran x_p0_number x_p0_kinds x_p0_trace = some (r0, o_x_p0_ran, o_x_p0_trace) → CT l y_Ac_run prog_2_method_13_code 10 (some .int) { frames := fr, cells := 0, slots := 0, locals := lo } D dA [.ref a_p0, .int p1, .int p2, .int p3, .int p4] [O_Ac a_p0 a_p0_kinds x_p0_bodies a_p0_trace x_p0_ran x_p0_number, A_I dA a_p0_kinds 50 x_p0_kinds, A_I dA a_p0_trace 24 x_p0_trace] (some (.int r0)) (fun _ : Unit => [O_Ac a_p0 a_p0_kinds x_p0_bodies a_p0_trace o_x_p0_ran x_p0_number, A_I dA a_p0_kinds 50 x_p0_kinds, A_I dA a_p0_trace 24 o_x_p0_trace]))  (hf : f_Ac_run_body rec_Ac_run p1 p2 p3 p4 x_p0_bodies x_p0_ran x_p0_number x_p0_kinds x_p0_trace = some (r0, o_x_p0_ran, o_x_p0_trace)) : CT l y_Ac_run prog_2_method_13_code 10 (some .int) { frames := fr + 3, cells := 0, slots := 0, locals := lo + 65 } D dA [.ref a_p0, .int p1, .int p2, .int p3, .int p4] [O_Ac a_p0 a_p0_kinds x_p0_bodies a_p0_trace x_p0_ran x_p0_number, A_I dA a_p0_kinds 50 x_p0_kinds, A_I dA a_p0_trace 24 x_p0_trace] (some (.int r0)) (fun _ : Unit => [O_Ac a_p0 a_p0_kinds x_p0_bodies a_p0_trace o_x_p0_ran x_p0_number, A_I dA a_p0_kinds 50 x_p0_kinds, A_I dA a_p0_trace 24 o_x_p0_trace]) := by
  refine ct_intro "OneLamp$Acts" rfl (by decide +kernel) (Nat.le_of_ble_eq_true rfl) [(0, .ref a_p0), (1, .int p1), (2, .int p2), (3, .int p3), (4, .int p4)] rfl (fun _ C => ?_)
  unfold f_Ac_run_body at hf
  refine g_iload_n (pc' := 1) C 1 d_Ac_run_0 rfl rfl ?_
  refine g_iload_n (pc' := 2) C 2 d_Ac_run_1 rfl rfl ?_
  replace hf := g_bi hf; obtain ⟨r1, hc2, hf⟩ := hf
  refine g_callS (pc' := 5) (st1 := [.int r1]) (ws1 := [O_Ac a_p0 a_p0_kinds x_p0_bodies a_p0_trace x_p0_ran x_p0_number, A_I dA a_p0_kinds 50 x_p0_kinds, A_I dA a_p0_trace 24 x_p0_trace]) C (c_Ac_holderOf (l := l) (D := D) (dA := dA)    hc2) yy_Ac_holderOf mw_4_24 d_Ac_run_2 rfl [] rfl rfl (Nat.le_of_ble_eq_true rfl) ⟨(by show 2 + 1 ≤ fr + 3; omega), (by show 8 + (4 + 11) + (42) ≤ lo + 65; omega)⟩ rfl rfl (Nat.zero_le _) (Nat.zero_le _) [] rfl (by decide +kernel) rfl (g_lay_sel _ _ _ _ [(0, false), (1, false), (2, false)] (by decide +kernel) rfl (by decide +kernel) rfl rfl) rfl ?_
  refine g_istore (pc' := 7) (lv' := [(5, .int r1), (0, .ref a_p0), (1, .int p1), (2, .int p2), (3, .int p3), (4, .int p4)]) C d_Ac_run_5 rfl (by decide) rfl ?_
  refine g_iload (pc' := 9) C 5 d_Ac_run_7 rfl rfl ?_
  refine g_bipush (pc' := 11) (v := 40) C d_Ac_run_9 rfl rfl ?_
  refine g_icmp_gt (pc' := 14) (tgt := 22) C d_Ac_run_11 rfl rfl (fun h => ?_) (fun h => ?_)
  · replace hf := g_ip h hf
    refine g_iconst (pc' := 23) (v := 0) C d_Ac_run_22 rfl rfl ?_
    replace hf := g_o2 hf; obtain ⟨h1, hf⟩ := hf; subst h1
    replace hf := g_o2 hf; obtain ⟨h1, hf⟩ := hf; subst h1
    replace hf := Option.some.inj hf; subst hf
    exact g_iret C d_Ac_run_23 () rfl
  · replace hf := g_in h hf
    refine g_iload (pc' := 16) C 0 d_Ac_run_14 rfl rfl ?_
    replace hf := g_bi hf; obtain ⟨r3, hc4, hf⟩ := hf
    refine g_callS (pc' := 19) (st1 := [.int (b2i r3)]) (ws1 := [O_Ac a_p0 a_p0_kinds x_p0_bodies a_p0_trace x_p0_ran x_p0_number, A_I dA a_p0_kinds 50 x_p0_kinds, A_I dA a_p0_trace 24 x_p0_trace]) C (c_Ac_isKind (l := l) (D := D) (dA := dA)    hc4) yy_Ac_isKind mw_4_27 d_Ac_run_16 rfl [] rfl rfl (Nat.le_of_ble_eq_true rfl) ⟨(by show 0 + 1 ≤ fr + 3; omega), (by show 8 + (1 + 11) + (0) ≤ lo + 65; omega)⟩ rfl rfl (Nat.zero_le _) (Nat.zero_le _) [] rfl (by decide +kernel) rfl (g_lay_sel _ _ _ _ [(0, false), (1, false), (2, false)] (by decide +kernel) rfl (by decide +kernel) rfl rfl) rfl ?_
    refine g_if_neb (pc' := 22) (tgt := 24) C d_Ac_run_19 rfl rfl (fun h => ?_) (fun h => ?_)
    · replace hf := g_bt h hf
      refine g_aload_n (pc' := 25) C 1 d_Ac_run_24 rfl rfl ?_
      refine g_aload_n (pc' := 26) C 1 d_Ac_run_25 rfl rfl ?_
      refine g_get (pc' := 29) C kf_Ac 4 mw_2_6 d_Ac_run_26 rfl 0 rfl (by decide) rfl ?_
      replace hf := g_bi hf; obtain ⟨r5, hc6, hf⟩ := hf
      refine g_callV (pc' := 32) (st1 := [.int r5]) (ws1 := [O_Ac a_p0 a_p0_kinds x_p0_bodies a_p0_trace x_p0_ran x_p0_number, A_I dA a_p0_kinds 50 x_p0_kinds, A_I dA a_p0_trace 24 x_p0_trace]) C (c_Ac_kindOf (l := l) (D := D) (dA := dA) (a_o := a_p0) (a_o_kinds := a_p0_kinds) (a_o_trace := a_p0_trace) (x_o_ran := x_p0_ran) (x_o_number := x_p0_number)   hc6) yy_Ac_kindOf kf_Ac rfl mw_4_35 d_Ac_run_29 rfl [] rfl rfl (Nat.le_of_ble_eq_true rfl) ⟨(by show 1 + 1 ≤ fr + 3; omega), (by show 8 + (2 + 11) + (21) ≤ lo + 65; omega)⟩ rfl rfl (Nat.zero_le _) (Nat.zero_le _) 0 rfl [0, 1] rfl (by decide +kernel) rfl (g_lay_sel _ _ _ _ [(0, true), (1, true), (2, false)] (by decide +kernel) rfl (by decide +kernel) rfl rfl) rfl ?_
      refine g_istore (pc' := 34) (lv' := [(6, .int r5), (5, .int r1), (0, .ref a_p0), (1, .int p1), (2, .int p2), (3, .int p3), (4, .int p4)]) C d_Ac_run_32 rfl (by decide) rfl ?_
      refine g_above (pc' := 37) C mw_4_33 d_Ac_run_34 rfl (fun t7 hTt7 => ?_)
      refine g_iload (pc' := 39) C 1 d_Ac_run_37 rfl rfl ?_
      have hb := g_ck hf
      replace hf := g_in hb hf
      refine g_tald (pc' := 40) C hTt7 d_Ac_run_39 rfl hb ?_
      refine g_istore (pc' := 42) (lv' := [(7, .int (g_ABOVE (Int32.toNatClampNeg r1))), (6, .int r5), (5, .int r1), (0, .ref a_p0), (1, .int p1), (2, .int p2), (3, .int p3), (4, .int p4)]) C d_Ac_run_40 rfl (by decide) rfl ?_
      refine g_iload (pc' := 44) C 7 d_Ac_run_42 rfl rfl ?_
      refine g_iconst (pc' := 45) (v := 1) C d_Ac_run_44 rfl rfl ?_
      refine g_iadd (pc' := 46) C d_Ac_run_45 rfl ?_
      refine g_istore (pc' := 48) (lv' := [(8, .int (p4 + (1 : Int32))), (7, .int (g_ABOVE (Int32.toNatClampNeg r1))), (6, .int r5), (5, .int r1), (0, .ref a_p0), (1, .int p1), (2, .int p2), (3, .int p3), (4, .int p4)]) C d_Ac_run_46 rfl (by decide) rfl ?_
      refine g_iload_n (pc' := 49) C 5 d_Ac_run_48 rfl rfl ?_
      refine g_iload (pc' := 51) C 3 d_Ac_run_49 rfl rfl ?_
      replace hf := g_bi hf; obtain ⟨r8, hc9, hf⟩ := hf
      refine g_callS (pc' := 54) (st1 := [.int r8]) (ws1 := [O_Ac a_p0 a_p0_kinds x_p0_bodies a_p0_trace x_p0_ran x_p0_number, A_I dA a_p0_kinds 50 x_p0_kinds, A_I dA a_p0_trace 24 x_p0_trace]) C (c_Ac_bodyOf (l := l) (D := D) (dA := dA)    hc9) yy_Ac_bodyOf mw_4_28 d_Ac_run_51 rfl [] rfl rfl (Nat.le_of_ble_eq_true rfl) ⟨(by show 1 + 1 ≤ fr + 3; omega), (by show 8 + (3 + 11) + (20) ≤ lo + 65; omega)⟩ rfl rfl (Nat.zero_le _) (Nat.zero_le _) [] rfl (by decide +kernel) rfl (g_lay_sel _ _ _ _ [(0, false), (1, false), (2, false)] (by decide +kernel) rfl (by decide +kernel) rfl rfl) rfl ?_
      refine g_istore (pc' := 56) (lv' := [(9, .int r8), (8, .int (p4 + (1 : Int32))), (7, .int (g_ABOVE (Int32.toNatClampNeg r1))), (6, .int r5), (5, .int r1), (0, .ref a_p0), (1, .int p1), (2, .int p2), (3, .int p3), (4, .int p4)]) C d_Ac_run_54 rfl (by decide) rfl ?_
      refine g_aload_n (pc' := 57) C 5 d_Ac_run_56 rfl rfl ?_
      refine g_iload (pc' := 59) C 0 d_Ac_run_57 rfl rfl ?_
      replace hf := g_bi hf; obtain ⟨⟨u10, u11⟩, hc12, hf⟩ := hf
      dsimp only at hf
      refine g_callV (pc' := 62) (st1 := []) (ws1 := [O_Ac a_p0 a_p0_kinds x_p0_bodies a_p0_trace u10 x_p0_number, A_I dA a_p0_kinds 50 x_p0_kinds, A_I dA a_p0_trace 24 u11]) C (c_Ac_note (l := l) (D := D) (dA := dA) (a_o := a_p0) (a_o_kinds := a_p0_kinds) (a_o_trace := a_p0_trace) (x_o_bodies := x_p0_bodies) (x_o_number := x_p0_number)   hc12) yy_Ac_note kf_Ac rfl mw_4_39 d_Ac_run_59 rfl [] rfl rfl (Nat.le_of_ble_eq_true rfl) ⟨(by show 0 + 1 ≤ fr + 3; omega), (by show 8 + (2 + 11) + (0) ≤ lo + 65; omega)⟩ rfl rfl (Nat.zero_le _) (Nat.zero_le _) 0 rfl [0, 2] rfl (by decide +kernel) rfl (g_lay_sel _ _ _ _ [(0, true), (1, false), (1, true)] (by decide +kernel) rfl (by decide +kernel) rfl rfl) rfl ?_
      refine g_iload (pc' := 64) C 0 d_Ac_run_62 rfl rfl ?_
      by_cases q0 : r8 = 1
      · replace hf := g_ip q0 hf
        have e : (r8 : Int32).toInt = 1 := by rw [q0]; rfl
        refine g_lookup (off := 124) (tgt := 188) C d_Ac_run_64 (by decide) (by rw [e]; rfl) rfl ?_
        refine g_iload_n (pc' := 189) C 8 d_Ac_run_188 rfl rfl ?_
        refine g_aload_n (pc' := 190) C 5 d_Ac_run_189 rfl rfl ?_
        refine g_get (pc' := 193) C kf_Ac 4 mw_2_6 d_Ac_run_190 rfl 0 rfl (by decide) rfl ?_
        refine g_iadd (pc' := 194) C d_Ac_run_193 rfl ?_
        replace hf := g_o2 hf; obtain ⟨h1, hf⟩ := hf; subst h1
        replace hf := g_o2 hf; obtain ⟨h1, hf⟩ := hf; subst h1
        replace hf := Option.some.inj hf; subst hf
        exact g_iret C d_Ac_run_194 () rfl
      replace hf := g_in q0 hf
      by_cases q1 : r8 = 2
      · replace hf := g_ip q1 hf
        have e : (r8 : Int32).toInt = 2 := by rw [q1]; rfl
        refine g_lookup (off := 131) (tgt := 195) C d_Ac_run_64 (by decide) (by rw [e]; rfl) rfl ?_
        refine g_aload_n (pc' := 196) C 5 d_Ac_run_195 rfl rfl ?_
        refine g_iconst (pc' := 197) (v := 1) C d_Ac_run_196 rfl rfl ?_
        refine g_iload (pc' := 199) C 3 d_Ac_run_197 rfl rfl ?_
        refine g_iload_n (pc' := 200) C 8 d_Ac_run_199 rfl rfl ?_
        refine g_iload (pc' := 202) C 1 d_Ac_run_200 rfl rfl ?_
        replace hf := g_bi hf; obtain ⟨⟨r13, u14, u15⟩, hc16, hf⟩ := hf
        dsimp only at hf
        refine g_callS (pc' := 205) (st1 := [.int r13]) (ws1 := [O_Ac a_p0 a_p0_kinds x_p0_bodies a_p0_trace u14 x_p0_number, A_I dA a_p0_kinds 50 x_p0_kinds, A_I dA a_p0_trace 24 u15]) C (hrec_Ac_run a_p0 a_p0_kinds a_p0_trace (1 : Int32) r5 p3 (p4 + (1 : Int32)) x_p0_bodies u10 x_p0_number x_p0_kinds u11 _ _ _ hc16) yy_Ac_run mw_4_21 d_Ac_run_202 rfl [] rfl rfl (Nat.le_of_ble_eq_true rfl) ⟨(by show fr + 1 ≤ fr + 3; omega), (by show 8 + (10 + 11) + (lo) ≤ lo + 65; omega)⟩ rfl rfl (Nat.zero_le _) (Nat.zero_le _) [0, 1, 2] rfl (by decide +kernel) rfl (g_lay_sel _ _ _ _ [(0, true), (1, true), (2, true)] (by decide +kernel) rfl (by decide +kernel) rfl rfl) rfl ?_
        refine g_aload_n (pc' := 206) C 5 d_Ac_run_205 rfl rfl ?_
        refine g_iconst (pc' := 207) (v := 2) C d_Ac_run_206 rfl rfl ?_
        refine g_iload (pc' := 209) C 3 d_Ac_run_207 rfl rfl ?_
        refine g_iconst (pc' := 210) (v := 1) C d_Ac_run_209 rfl rfl ?_
        refine g_iload (pc' := 212) C 1 d_Ac_run_210 rfl rfl ?_
        replace hf := g_bi hf; obtain ⟨⟨r17, u18, u19⟩, hc20, hf⟩ := hf
        dsimp only at hf
        refine g_callS (pc' := 215) (st1 := [.int r17, .int r13]) (ws1 := [O_Ac a_p0 a_p0_kinds x_p0_bodies a_p0_trace u18 x_p0_number, A_I dA a_p0_kinds 50 x_p0_kinds, A_I dA a_p0_trace 24 u19]) C (hrec_Ac_run a_p0 a_p0_kinds a_p0_trace (2 : Int32) r5 (1 : Int32) (p4 + (1 : Int32)) x_p0_bodies u14 x_p0_number x_p0_kinds u15 _ _ _ hc20) yy_Ac_run mw_4_21 d_Ac_run_212 rfl [.int r13] rfl rfl (Nat.le_of_ble_eq_true rfl) ⟨(by show fr + 1 ≤ fr + 3; omega), (by show 8 + (10 + 11) + (lo) ≤ lo + 65; omega)⟩ rfl rfl (Nat.zero_le _) (Nat.zero_le _) [0, 1, 2] rfl (by decide +kernel) rfl (g_lay_sel _ _ _ _ [(0, true), (1, true), (2, true)] (by decide +kernel) rfl (by decide +kernel) rfl rfl) rfl ?_
        refine g_isub (pc' := 216) C d_Ac_run_215 rfl ?_
        replace hf := g_o2 hf; obtain ⟨h1, hf⟩ := hf; subst h1
        replace hf := g_o2 hf; obtain ⟨h1, hf⟩ := hf; subst h1
        replace hf := Option.some.inj hf; subst hf
        exact g_iret C d_Ac_run_216 () rfl
      replace hf := g_in q1 hf
      by_cases q2 : r8 = 10
      · replace hf := g_ip q2 hf
        have e : (r8 : Int32).toInt = 10 := by rw [q2]; rfl
        refine g_lookup (off := 153) (tgt := 217) C d_Ac_run_64 (by decide) (by rw [e]; rfl) rfl ?_
        refine g_aload_n (pc' := 218) C 5 d_Ac_run_217 rfl rfl ?_
        refine g_iconst (pc' := 219) (v := 0) C d_Ac_run_218 rfl rfl ?_
        refine g_iload (pc' := 221) C 3 d_Ac_run_219 rfl rfl ?_
        refine g_iload_n (pc' := 222) C 8 d_Ac_run_221 rfl rfl ?_
        refine g_iload (pc' := 224) C 1 d_Ac_run_222 rfl rfl ?_
        replace hf := g_bi hf; obtain ⟨⟨r21, u22, u23⟩, hc24, hf⟩ := hf
        dsimp only at hf
        refine g_callS (pc' := 227) (st1 := [.int r21]) (ws1 := [O_Ac a_p0 a_p0_kinds x_p0_bodies a_p0_trace u22 x_p0_number, A_I dA a_p0_kinds 50 x_p0_kinds, A_I dA a_p0_trace 24 u23]) C (hrec_Ac_run a_p0 a_p0_kinds a_p0_trace (0 : Int32) r5 p3 (p4 + (1 : Int32)) x_p0_bodies u10 x_p0_number x_p0_kinds u11 _ _ _ hc24) yy_Ac_run mw_4_21 d_Ac_run_224 rfl [] rfl rfl (Nat.le_of_ble_eq_true rfl) ⟨(by show fr + 1 ≤ fr + 3; omega), (by show 8 + (10 + 11) + (lo) ≤ lo + 65; omega)⟩ rfl rfl (Nat.zero_le _) (Nat.zero_le _) [0, 1, 2] rfl (by decide +kernel) rfl (g_lay_sel _ _ _ _ [(0, true), (1, true), (2, true)] (by decide +kernel) rfl (by decide +kernel) rfl rfl) rfl ?_
        refine g_iconst (pc' := 228) (v := 2) C d_Ac_run_227 rfl rfl ?_
        refine g_imul (pc' := 229) C d_Ac_run_228 rfl ?_
        replace hf := g_o2 hf; obtain ⟨h1, hf⟩ := hf; subst h1
        replace hf := g_o2 hf; obtain ⟨h1, hf⟩ := hf; subst h1
        replace hf := Option.some.inj hf; subst hf
        exact g_iret C d_Ac_run_229 () rfl
      replace hf := g_in q2 hf
      by_cases q3 : r8 = 11
      · replace hf := g_ip q3 hf
        have e : (r8 : Int32).toInt = 11 := by rw [q3]; rfl
        refine g_lookup (off := 166) (tgt := 230) C d_Ac_run_64 (by decide) (by rw [e]; rfl) rfl ?_
        refine g_iload_n (pc' := 231) C 8 d_Ac_run_230 rfl rfl ?_
        refine g_aload_n (pc' := 232) C 5 d_Ac_run_231 rfl rfl ?_
        refine g_get (pc' := 235) C kf_Ac 4 mw_2_6 d_Ac_run_232 rfl 0 rfl (by decide) rfl ?_
        refine g_ixor (pc' := 236) C d_Ac_run_235 rfl ?_
        replace hf := g_o2 hf; obtain ⟨h1, hf⟩ := hf; subst h1
        replace hf := g_o2 hf; obtain ⟨h1, hf⟩ := hf; subst h1
        replace hf := Option.some.inj hf; subst hf
        exact g_iret C d_Ac_run_236 () rfl
      replace hf := g_in q3 hf
      by_cases q4 : r8 = 20
      · replace hf := g_ip q4 hf
        have e : (r8 : Int32).toInt = 20 := by rw [q4]; rfl
        refine g_lookup (off := 173) (tgt := 237) C d_Ac_run_64 (by decide) (by rw [e]; rfl) rfl ?_
        refine g_aload_n (pc' := 238) C 5 d_Ac_run_237 rfl rfl ?_
        refine g_iconst (pc' := 239) (v := 0) C d_Ac_run_238 rfl rfl ?_
        refine g_iload (pc' := 241) C 2 d_Ac_run_239 rfl rfl ?_
        refine g_iload_n (pc' := 242) C 8 d_Ac_run_241 rfl rfl ?_
        refine g_iload (pc' := 244) C 1 d_Ac_run_242 rfl rfl ?_
        replace hf := g_bi hf; obtain ⟨⟨r25, u26, u27⟩, hc28, hf⟩ := hf
        dsimp only at hf
        refine g_callS (pc' := 247) (st1 := [.int r25]) (ws1 := [O_Ac a_p0 a_p0_kinds x_p0_bodies a_p0_trace u26 x_p0_number, A_I dA a_p0_kinds 50 x_p0_kinds, A_I dA a_p0_trace 24 u27]) C (hrec_Ac_run a_p0 a_p0_kinds a_p0_trace (0 : Int32) (g_ABOVE (Int32.toNatClampNeg r1)) p3 (p4 + (1 : Int32)) x_p0_bodies u10 x_p0_number x_p0_kinds u11 _ _ _ hc28) yy_Ac_run mw_4_21 d_Ac_run_244 rfl [] rfl rfl (Nat.le_of_ble_eq_true rfl) ⟨(by show fr + 1 ≤ fr + 3; omega), (by show 8 + (10 + 11) + (lo) ≤ lo + 65; omega)⟩ rfl rfl (Nat.zero_le _) (Nat.zero_le _) [0, 1, 2] rfl (by decide +kernel) rfl (g_lay_sel _ _ _ _ [(0, true), (1, true), (2, true)] (by decide +kernel) rfl (by decide +kernel) rfl rfl) rfl ?_
        refine g_iconst (pc' := 248) (v := 3) C d_Ac_run_247 rfl rfl ?_
        refine g_iadd (pc' := 249) C d_Ac_run_248 rfl ?_
        replace hf := g_o2 hf; obtain ⟨h1, hf⟩ := hf; subst h1
        replace hf := g_o2 hf; obtain ⟨h1, hf⟩ := hf; subst h1
        replace hf := Option.some.inj hf; subst hf
        exact g_iret C d_Ac_run_249 () rfl
      replace hf := g_in q4 hf
      by_cases q5 : r8 = 30
      · replace hf := g_ip q5 hf
        have e : (r8 : Int32).toInt = 30 := by rw [q5]; rfl
        refine g_lookup (off := 186) (tgt := 250) C d_Ac_run_64 (by decide) (by rw [e]; rfl) rfl ?_
        refine g_aload_n (pc' := 251) C 5 d_Ac_run_250 rfl rfl ?_
        refine g_iconst (pc' := 252) (v := 1) C d_Ac_run_251 rfl rfl ?_
        refine g_iload (pc' := 254) C 2 d_Ac_run_252 rfl rfl ?_
        refine g_iload_n (pc' := 255) C 8 d_Ac_run_254 rfl rfl ?_
        refine g_iload (pc' := 257) C 1 d_Ac_run_255 rfl rfl ?_
        replace hf := g_bi hf; obtain ⟨⟨r29, u30, u31⟩, hc32, hf⟩ := hf
        dsimp only at hf
        refine g_callS (pc' := 260) (st1 := [.int r29]) (ws1 := [O_Ac a_p0 a_p0_kinds x_p0_bodies a_p0_trace u30 x_p0_number, A_I dA a_p0_kinds 50 x_p0_kinds, A_I dA a_p0_trace 24 u31]) C (hrec_Ac_run a_p0 a_p0_kinds a_p0_trace (1 : Int32) (g_ABOVE (Int32.toNatClampNeg r1)) p3 (p4 + (1 : Int32)) x_p0_bodies u10 x_p0_number x_p0_kinds u11 _ _ _ hc32) yy_Ac_run mw_4_21 d_Ac_run_257 rfl [] rfl rfl (Nat.le_of_ble_eq_true rfl) ⟨(by show fr + 1 ≤ fr + 3; omega), (by show 8 + (10 + 11) + (lo) ≤ lo + 65; omega)⟩ rfl rfl (Nat.zero_le _) (Nat.zero_le _) [0, 1, 2] rfl (by decide +kernel) rfl (g_lay_sel _ _ _ _ [(0, true), (1, true), (2, true)] (by decide +kernel) rfl (by decide +kernel) rfl rfl) rfl ?_
        refine g_ineg (pc' := 261) C d_Ac_run_260 rfl ?_
        replace hf := g_o2 hf; obtain ⟨h1, hf⟩ := hf; subst h1
        replace hf := g_o2 hf; obtain ⟨h1, hf⟩ := hf; subst h1
        replace hf := Option.some.inj hf; subst hf
        exact g_iret C d_Ac_run_261 () rfl
      replace hf := g_in q5 hf
      by_cases q6 : r8 = 40
      · replace hf := g_ip q6 hf
        have e : (r8 : Int32).toInt = 40 := by rw [q6]; rfl
        refine g_lookup (off := 198) (tgt := 262) C d_Ac_run_64 (by decide) (by rw [e]; rfl) rfl ?_
        refine g_aload_n (pc' := 263) C 5 d_Ac_run_262 rfl rfl ?_
        refine g_iconst (pc' := 264) (v := 2) C d_Ac_run_263 rfl rfl ?_
        refine g_iload (pc' := 266) C 2 d_Ac_run_264 rfl rfl ?_
        refine g_iload_n (pc' := 267) C 8 d_Ac_run_266 rfl rfl ?_
        refine g_iload (pc' := 269) C 1 d_Ac_run_267 rfl rfl ?_
        replace hf := g_bi hf; obtain ⟨⟨r33, u34, u35⟩, hc36, hf⟩ := hf
        dsimp only at hf
        refine g_callS (pc' := 272) (st1 := [.int r33]) (ws1 := [O_Ac a_p0 a_p0_kinds x_p0_bodies a_p0_trace u34 x_p0_number, A_I dA a_p0_kinds 50 x_p0_kinds, A_I dA a_p0_trace 24 u35]) C (hrec_Ac_run a_p0 a_p0_kinds a_p0_trace (2 : Int32) (g_ABOVE (Int32.toNatClampNeg r1)) p3 (p4 + (1 : Int32)) x_p0_bodies u10 x_p0_number x_p0_kinds u11 _ _ _ hc36) yy_Ac_run mw_4_21 d_Ac_run_269 rfl [] rfl rfl (Nat.le_of_ble_eq_true rfl) ⟨(by show fr + 1 ≤ fr + 3; omega), (by show 8 + (10 + 11) + (lo) ≤ lo + 65; omega)⟩ rfl rfl (Nat.zero_le _) (Nat.zero_le _) [0, 1, 2] rfl (by decide +kernel) rfl (g_lay_sel _ _ _ _ [(0, true), (1, true), (2, true)] (by decide +kernel) rfl (by decide +kernel) rfl rfl) rfl ?_
        refine g_iconst (pc' := 273) (v := 3) C d_Ac_run_272 rfl rfl ?_
        refine g_imul (pc' := 274) C d_Ac_run_273 rfl ?_
        replace hf := g_o2 hf; obtain ⟨h1, hf⟩ := hf; subst h1
        replace hf := g_o2 hf; obtain ⟨h1, hf⟩ := hf; subst h1
        replace hf := Option.some.inj hf; subst hf
        exact g_iret C d_Ac_run_274 () rfl
      replace hf := g_in q6 hf
      by_cases q7 : r8 = 41
      · replace hf := g_ip q7 hf
        have e : (r8 : Int32).toInt = 41 := by rw [q7]; rfl
        refine g_lookup (off := 211) (tgt := 275) C d_Ac_run_64 (by decide) (by rw [e]; rfl) rfl ?_
        refine g_aload_n (pc' := 276) C 5 d_Ac_run_275 rfl rfl ?_
        refine g_iconst (pc' := 277) (v := 1) C d_Ac_run_276 rfl rfl ?_
        refine g_iload (pc' := 279) C 2 d_Ac_run_277 rfl rfl ?_
        refine g_iload_n (pc' := 280) C 8 d_Ac_run_279 rfl rfl ?_
        refine g_iconst (pc' := 281) (v := 1) C d_Ac_run_280 rfl rfl ?_
        refine g_iadd (pc' := 282) C d_Ac_run_281 rfl ?_
        refine g_iload (pc' := 284) C 1 d_Ac_run_282 rfl rfl ?_
        replace hf := g_bi hf; obtain ⟨⟨r37, u38, u39⟩, hc40, hf⟩ := hf
        dsimp only at hf
        refine g_callS (pc' := 287) (st1 := [.int r37]) (ws1 := [O_Ac a_p0 a_p0_kinds x_p0_bodies a_p0_trace u38 x_p0_number, A_I dA a_p0_kinds 50 x_p0_kinds, A_I dA a_p0_trace 24 u39]) C (hrec_Ac_run a_p0 a_p0_kinds a_p0_trace (1 : Int32) (g_ABOVE (Int32.toNatClampNeg r1)) (p3 + (1 : Int32)) (p4 + (1 : Int32)) x_p0_bodies u10 x_p0_number x_p0_kinds u11 _ _ _ hc40) yy_Ac_run mw_4_21 d_Ac_run_284 rfl [] rfl rfl (Nat.le_of_ble_eq_true rfl) ⟨(by show fr + 1 ≤ fr + 3; omega), (by show 8 + (10 + 11) + (lo) ≤ lo + 65; omega)⟩ rfl rfl (Nat.zero_le _) (Nat.zero_le _) [0, 1, 2] rfl (by decide +kernel) rfl (g_lay_sel _ _ _ _ [(0, true), (1, true), (2, true)] (by decide +kernel) rfl (by decide +kernel) rfl rfl) rfl ?_
        replace hf := g_o2 hf; obtain ⟨h1, hf⟩ := hf; subst h1
        replace hf := g_o2 hf; obtain ⟨h1, hf⟩ := hf; subst h1
        replace hf := Option.some.inj hf; subst hf
        exact g_iret C d_Ac_run_287 () rfl
      replace hf := g_in q7 hf
      by_cases q8 : r8 = 50
      · replace hf := g_ip q8 hf
        have e : (r8 : Int32).toInt = 50 := by rw [q8]; rfl
        refine g_lookup (off := 224) (tgt := 288) C d_Ac_run_64 (by decide) (by rw [e]; rfl) rfl ?_
        refine g_aload_n (pc' := 289) C 5 d_Ac_run_288 rfl rfl ?_
        refine g_iconst (pc' := 290) (v := 3) C d_Ac_run_289 rfl rfl ?_
        refine g_iload (pc' := 292) C 2 d_Ac_run_290 rfl rfl ?_
        refine g_iload_n (pc' := 293) C 8 d_Ac_run_292 rfl rfl ?_
        refine g_iload (pc' := 295) C 1 d_Ac_run_293 rfl rfl ?_
        replace hf := g_bi hf; obtain ⟨⟨r41, u42, u43⟩, hc44, hf⟩ := hf
        dsimp only at hf
        refine g_callS (pc' := 298) (st1 := [.int r41]) (ws1 := [O_Ac a_p0 a_p0_kinds x_p0_bodies a_p0_trace u42 x_p0_number, A_I dA a_p0_kinds 50 x_p0_kinds, A_I dA a_p0_trace 24 u43]) C (hrec_Ac_run a_p0 a_p0_kinds a_p0_trace (3 : Int32) (g_ABOVE (Int32.toNatClampNeg r1)) p3 (p4 + (1 : Int32)) x_p0_bodies u10 x_p0_number x_p0_kinds u11 _ _ _ hc44) yy_Ac_run mw_4_21 d_Ac_run_295 rfl [] rfl rfl (Nat.le_of_ble_eq_true rfl) ⟨(by show fr + 1 ≤ fr + 3; omega), (by show 8 + (10 + 11) + (lo) ≤ lo + 65; omega)⟩ rfl rfl (Nat.zero_le _) (Nat.zero_le _) [0, 1, 2] rfl (by decide +kernel) rfl (g_lay_sel _ _ _ _ [(0, true), (1, true), (2, true)] (by decide +kernel) rfl (by decide +kernel) rfl rfl) rfl ?_
        refine g_iconst (pc' := 299) (v := 5) C d_Ac_run_298 rfl rfl ?_
        refine g_ixor (pc' := 300) C d_Ac_run_299 rfl ?_
        replace hf := g_o2 hf; obtain ⟨h1, hf⟩ := hf; subst h1
        replace hf := g_o2 hf; obtain ⟨h1, hf⟩ := hf; subst h1
        replace hf := Option.some.inj hf; subst hf
        exact g_iret C d_Ac_run_300 () rfl
      replace hf := g_in q8 hf
      by_cases q9 : r8 = 60
      · replace hf := g_ip q9 hf
        have e : (r8 : Int32).toInt = 60 := by rw [q9]; rfl
        refine g_lookup (off := 237) (tgt := 301) C d_Ac_run_64 (by decide) (by rw [e]; rfl) rfl ?_
        refine g_aload_n (pc' := 302) C 5 d_Ac_run_301 rfl rfl ?_
        refine g_iconst (pc' := 303) (v := 2) C d_Ac_run_302 rfl rfl ?_
        refine g_iload (pc' := 305) C 2 d_Ac_run_303 rfl rfl ?_
        refine g_iload_n (pc' := 306) C 8 d_Ac_run_305 rfl rfl ?_
        refine g_iload (pc' := 308) C 1 d_Ac_run_306 rfl rfl ?_
        replace hf := g_bi hf; obtain ⟨⟨r45, u46, u47⟩, hc48, hf⟩ := hf
        dsimp only at hf
        refine g_callS (pc' := 311) (st1 := [.int r45]) (ws1 := [O_Ac a_p0 a_p0_kinds x_p0_bodies a_p0_trace u46 x_p0_number, A_I dA a_p0_kinds 50 x_p0_kinds, A_I dA a_p0_trace 24 u47]) C (hrec_Ac_run a_p0 a_p0_kinds a_p0_trace (2 : Int32) (g_ABOVE (Int32.toNatClampNeg r1)) p3 (p4 + (1 : Int32)) x_p0_bodies u10 x_p0_number x_p0_kinds u11 _ _ _ hc48) yy_Ac_run mw_4_21 d_Ac_run_308 rfl [] rfl rfl (Nat.le_of_ble_eq_true rfl) ⟨(by show fr + 1 ≤ fr + 3; omega), (by show 8 + (10 + 11) + (lo) ≤ lo + 65; omega)⟩ rfl rfl (Nat.zero_le _) (Nat.zero_le _) [0, 1, 2] rfl (by decide +kernel) rfl (g_lay_sel _ _ _ _ [(0, true), (1, true), (2, true)] (by decide +kernel) rfl (by decide +kernel) rfl rfl) rfl ?_
        refine g_aload_n (pc' := 312) C 5 d_Ac_run_311 rfl rfl ?_
        refine g_iconst (pc' := 313) (v := 0) C d_Ac_run_312 rfl rfl ?_
        refine g_iload (pc' := 315) C 3 d_Ac_run_313 rfl rfl ?_
        refine g_iconst (pc' := 316) (v := 2) C d_Ac_run_315 rfl rfl ?_
        refine g_iload (pc' := 318) C 1 d_Ac_run_316 rfl rfl ?_
        replace hf := g_bi hf; obtain ⟨⟨r49, u50, u51⟩, hc52, hf⟩ := hf
        dsimp only at hf
        refine g_callS (pc' := 321) (st1 := [.int r49, .int r45]) (ws1 := [O_Ac a_p0 a_p0_kinds x_p0_bodies a_p0_trace u50 x_p0_number, A_I dA a_p0_kinds 50 x_p0_kinds, A_I dA a_p0_trace 24 u51]) C (hrec_Ac_run a_p0 a_p0_kinds a_p0_trace (0 : Int32) r5 (2 : Int32) (p4 + (1 : Int32)) x_p0_bodies u46 x_p0_number x_p0_kinds u47 _ _ _ hc52) yy_Ac_run mw_4_21 d_Ac_run_318 rfl [.int r45] rfl rfl (Nat.le_of_ble_eq_true rfl) ⟨(by show fr + 1 ≤ fr + 3; omega), (by show 8 + (10 + 11) + (lo) ≤ lo + 65; omega)⟩ rfl rfl (Nat.zero_le _) (Nat.zero_le _) [0, 1, 2] rfl (by decide +kernel) rfl (g_lay_sel _ _ _ _ [(0, true), (1, true), (2, true)] (by decide +kernel) rfl (by decide +kernel) rfl rfl) rfl ?_
        refine g_isub (pc' := 322) C d_Ac_run_321 rfl ?_
        replace hf := g_o2 hf; obtain ⟨h1, hf⟩ := hf; subst h1
        replace hf := g_o2 hf; obtain ⟨h1, hf⟩ := hf; subst h1
        replace hf := Option.some.inj hf; subst hf
        exact g_iret C d_Ac_run_322 () rfl
      replace hf := g_in q9 hf
      by_cases q10 : r8 = 61
      · replace hf := g_ip q10 hf
        have e : (r8 : Int32).toInt = 61 := by rw [q10]; rfl
        refine g_lookup (off := 259) (tgt := 323) C d_Ac_run_64 (by decide) (by rw [e]; rfl) rfl ?_
        refine g_aload_n (pc' := 324) C 5 d_Ac_run_323 rfl rfl ?_
        refine g_iconst (pc' := 325) (v := 3) C d_Ac_run_324 rfl rfl ?_
        refine g_iload (pc' := 327) C 2 d_Ac_run_325 rfl rfl ?_
        refine g_iload_n (pc' := 328) C 8 d_Ac_run_327 rfl rfl ?_
        refine g_iload (pc' := 330) C 1 d_Ac_run_328 rfl rfl ?_
        replace hf := g_bi hf; obtain ⟨⟨r53, u54, u55⟩, hc56, hf⟩ := hf
        dsimp only at hf
        refine g_callS (pc' := 333) (st1 := [.int r53]) (ws1 := [O_Ac a_p0 a_p0_kinds x_p0_bodies a_p0_trace u54 x_p0_number, A_I dA a_p0_kinds 50 x_p0_kinds, A_I dA a_p0_trace 24 u55]) C (hrec_Ac_run a_p0 a_p0_kinds a_p0_trace (3 : Int32) (g_ABOVE (Int32.toNatClampNeg r1)) p3 (p4 + (1 : Int32)) x_p0_bodies u10 x_p0_number x_p0_kinds u11 _ _ _ hc56) yy_Ac_run mw_4_21 d_Ac_run_330 rfl [] rfl rfl (Nat.le_of_ble_eq_true rfl) ⟨(by show fr + 1 ≤ fr + 3; omega), (by show 8 + (10 + 11) + (lo) ≤ lo + 65; omega)⟩ rfl rfl (Nat.zero_le _) (Nat.zero_le _) [0, 1, 2] rfl (by decide +kernel) rfl (g_lay_sel _ _ _ _ [(0, true), (1, true), (2, true)] (by decide +kernel) rfl (by decide +kernel) rfl rfl) rfl ?_
        refine g_iconst (pc' := 334) (v := 1) C d_Ac_run_333 rfl rfl ?_
        refine g_iadd (pc' := 335) C d_Ac_run_334 rfl ?_
        replace hf := g_o2 hf; obtain ⟨h1, hf⟩ := hf; subst h1
        replace hf := g_o2 hf; obtain ⟨h1, hf⟩ := hf; subst h1
        replace hf := Option.some.inj hf; subst hf
        exact g_iret C d_Ac_run_335 () rfl
      replace hf := g_in q10 hf
      by_cases q11 : r8 = 70
      · replace hf := g_ip q11 hf
        have e : (r8 : Int32).toInt = 70 := by rw [q11]; rfl
        refine g_lookup (off := 272) (tgt := 336) C d_Ac_run_64 (by decide) (by rw [e]; rfl) rfl ?_
        refine g_aload_n (pc' := 337) C 5 d_Ac_run_336 rfl rfl ?_
        refine g_iconst (pc' := 338) (v := 0) C d_Ac_run_337 rfl rfl ?_
        refine g_iload (pc' := 340) C 2 d_Ac_run_338 rfl rfl ?_
        refine g_iload_n (pc' := 341) C 8 d_Ac_run_340 rfl rfl ?_
        refine g_iload (pc' := 343) C 1 d_Ac_run_341 rfl rfl ?_
        replace hf := g_bi hf; obtain ⟨⟨r57, u58, u59⟩, hc60, hf⟩ := hf
        dsimp only at hf
        refine g_callS (pc' := 346) (st1 := [.int r57]) (ws1 := [O_Ac a_p0 a_p0_kinds x_p0_bodies a_p0_trace u58 x_p0_number, A_I dA a_p0_kinds 50 x_p0_kinds, A_I dA a_p0_trace 24 u59]) C (hrec_Ac_run a_p0 a_p0_kinds a_p0_trace (0 : Int32) (g_ABOVE (Int32.toNatClampNeg r1)) p3 (p4 + (1 : Int32)) x_p0_bodies u10 x_p0_number x_p0_kinds u11 _ _ _ hc60) yy_Ac_run mw_4_21 d_Ac_run_343 rfl [] rfl rfl (Nat.le_of_ble_eq_true rfl) ⟨(by show fr + 1 ≤ fr + 3; omega), (by show 8 + (10 + 11) + (lo) ≤ lo + 65; omega)⟩ rfl rfl (Nat.zero_le _) (Nat.zero_le _) [0, 1, 2] rfl (by decide +kernel) rfl (g_lay_sel _ _ _ _ [(0, true), (1, true), (2, true)] (by decide +kernel) rfl (by decide +kernel) rfl rfl) rfl ?_
        refine g_iconst (pc' := 347) (v := 2) C d_Ac_run_346 rfl rfl ?_
        refine g_imul (pc' := 348) C d_Ac_run_347 rfl ?_
        replace hf := g_o2 hf; obtain ⟨h1, hf⟩ := hf; subst h1
        replace hf := g_o2 hf; obtain ⟨h1, hf⟩ := hf; subst h1
        replace hf := Option.some.inj hf; subst hf
        exact g_iret C d_Ac_run_348 () rfl
      replace hf := g_in q11 hf
      by_cases q12 : r8 = 80
      · replace hf := g_ip q12 hf
        have e : (r8 : Int32).toInt = 80 := by rw [q12]; rfl
        refine g_lookup (off := 285) (tgt := 349) C d_Ac_run_64 (by decide) (by rw [e]; rfl) rfl ?_
        refine g_aload_n (pc' := 350) C 5 d_Ac_run_349 rfl rfl ?_
        refine g_iconst (pc' := 351) (v := 1) C d_Ac_run_350 rfl rfl ?_
        refine g_iload (pc' := 353) C 2 d_Ac_run_351 rfl rfl ?_
        refine g_iload_n (pc' := 354) C 8 d_Ac_run_353 rfl rfl ?_
        refine g_iload (pc' := 356) C 1 d_Ac_run_354 rfl rfl ?_
        replace hf := g_bi hf; obtain ⟨⟨r61, u62, u63⟩, hc64, hf⟩ := hf
        dsimp only at hf
        refine g_callS (pc' := 359) (st1 := [.int r61]) (ws1 := [O_Ac a_p0 a_p0_kinds x_p0_bodies a_p0_trace u62 x_p0_number, A_I dA a_p0_kinds 50 x_p0_kinds, A_I dA a_p0_trace 24 u63]) C (hrec_Ac_run a_p0 a_p0_kinds a_p0_trace (1 : Int32) (g_ABOVE (Int32.toNatClampNeg r1)) p3 (p4 + (1 : Int32)) x_p0_bodies u10 x_p0_number x_p0_kinds u11 _ _ _ hc64) yy_Ac_run mw_4_21 d_Ac_run_356 rfl [] rfl rfl (Nat.le_of_ble_eq_true rfl) ⟨(by show fr + 1 ≤ fr + 3; omega), (by show 8 + (10 + 11) + (lo) ≤ lo + 65; omega)⟩ rfl rfl (Nat.zero_le _) (Nat.zero_le _) [0, 1, 2] rfl (by decide +kernel) rfl (g_lay_sel _ _ _ _ [(0, true), (1, true), (2, true)] (by decide +kernel) rfl (by decide +kernel) rfl rfl) rfl ?_
        refine g_aload_n (pc' := 360) C 5 d_Ac_run_359 rfl rfl ?_
        refine g_iconst (pc' := 361) (v := 2) C d_Ac_run_360 rfl rfl ?_
        refine g_iload (pc' := 363) C 3 d_Ac_run_361 rfl rfl ?_
        refine g_iconst (pc' := 364) (v := 2) C d_Ac_run_363 rfl rfl ?_
        refine g_iload (pc' := 366) C 1 d_Ac_run_364 rfl rfl ?_
        replace hf := g_bi hf; obtain ⟨⟨r65, u66, u67⟩, hc68, hf⟩ := hf
        dsimp only at hf
        refine g_callS (pc' := 369) (st1 := [.int r65, .int r61]) (ws1 := [O_Ac a_p0 a_p0_kinds x_p0_bodies a_p0_trace u66 x_p0_number, A_I dA a_p0_kinds 50 x_p0_kinds, A_I dA a_p0_trace 24 u67]) C (hrec_Ac_run a_p0 a_p0_kinds a_p0_trace (2 : Int32) r5 (2 : Int32) (p4 + (1 : Int32)) x_p0_bodies u62 x_p0_number x_p0_kinds u63 _ _ _ hc68) yy_Ac_run mw_4_21 d_Ac_run_366 rfl [.int r61] rfl rfl (Nat.le_of_ble_eq_true rfl) ⟨(by show fr + 1 ≤ fr + 3; omega), (by show 8 + (10 + 11) + (lo) ≤ lo + 65; omega)⟩ rfl rfl (Nat.zero_le _) (Nat.zero_le _) [0, 1, 2] rfl (by decide +kernel) rfl (g_lay_sel _ _ _ _ [(0, true), (1, true), (2, true)] (by decide +kernel) rfl (by decide +kernel) rfl rfl) rfl ?_
        refine g_iadd (pc' := 370) C d_Ac_run_369 rfl ?_
        replace hf := g_o2 hf; obtain ⟨h1, hf⟩ := hf; subst h1
        replace hf := g_o2 hf; obtain ⟨h1, hf⟩ := hf; subst h1
        replace hf := Option.some.inj hf; subst hf
        exact g_iret C d_Ac_run_370 () rfl
      replace hf := g_in q12 hf
      by_cases q13 : r8 = 81
      · replace hf := g_ip q13 hf
        have e : (r8 : Int32).toInt = 81 := by rw [q13]; rfl
        refine g_lookup (off := 307) (tgt := 371) C d_Ac_run_64 (by decide) (by rw [e]; rfl) rfl ?_
        refine g_aload_n (pc' := 372) C 5 d_Ac_run_371 rfl rfl ?_
        refine g_iconst (pc' := 373) (v := 0) C d_Ac_run_372 rfl rfl ?_
        refine g_iload (pc' := 375) C 2 d_Ac_run_373 rfl rfl ?_
        refine g_iload_n (pc' := 376) C 8 d_Ac_run_375 rfl rfl ?_
        refine g_iload (pc' := 378) C 1 d_Ac_run_376 rfl rfl ?_
        replace hf := g_bi hf; obtain ⟨⟨r69, u70, u71⟩, hc72, hf⟩ := hf
        dsimp only at hf
        refine g_callS (pc' := 381) (st1 := [.int r69]) (ws1 := [O_Ac a_p0 a_p0_kinds x_p0_bodies a_p0_trace u70 x_p0_number, A_I dA a_p0_kinds 50 x_p0_kinds, A_I dA a_p0_trace 24 u71]) C (hrec_Ac_run a_p0 a_p0_kinds a_p0_trace (0 : Int32) (g_ABOVE (Int32.toNatClampNeg r1)) p3 (p4 + (1 : Int32)) x_p0_bodies u10 x_p0_number x_p0_kinds u11 _ _ _ hc72) yy_Ac_run mw_4_21 d_Ac_run_378 rfl [] rfl rfl (Nat.le_of_ble_eq_true rfl) ⟨(by show fr + 1 ≤ fr + 3; omega), (by show 8 + (10 + 11) + (lo) ≤ lo + 65; omega)⟩ rfl rfl (Nat.zero_le _) (Nat.zero_le _) [0, 1, 2] rfl (by decide +kernel) rfl (g_lay_sel _ _ _ _ [(0, true), (1, true), (2, true)] (by decide +kernel) rfl (by decide +kernel) rfl rfl) rfl ?_
        refine g_iconst (pc' := 382) (v := 1) C d_Ac_run_381 rfl rfl ?_
        refine g_isub (pc' := 383) C d_Ac_run_382 rfl ?_
        replace hf := g_o2 hf; obtain ⟨h1, hf⟩ := hf; subst h1
        replace hf := g_o2 hf; obtain ⟨h1, hf⟩ := hf; subst h1
        replace hf := Option.some.inj hf; subst hf
        exact g_iret C d_Ac_run_383 () rfl
      replace hf := g_in q13 hf
      refine g_lookup (off := 320) (tgt := 384) C d_Ac_run_64 (by decide) (by show Op.lookupswitch.offset [(1, 124), (2, 131), (10, 153), (11, 166), (20, 173), (30, 186), (40, 198), (41, 211), (50, 224), (60, 237), (61, 259), (70, 272), (80, 285), (81, 307)] 320 (r8 : Int32).toInt = 320; rw [lv_osw (a := 1) q0 rfl, lv_osw (a := 2) q1 rfl, lv_osw (a := 10) q2 rfl, lv_osw (a := 11) q3 rfl, lv_osw (a := 20) q4 rfl, lv_osw (a := 30) q5 rfl, lv_osw (a := 40) q6 rfl, lv_osw (a := 41) q7 rfl, lv_osw (a := 50) q8 rfl, lv_osw (a := 60) q9 rfl, lv_osw (a := 61) q10 rfl, lv_osw (a := 70) q11 rfl, lv_osw (a := 80) q12 rfl, lv_osw (a := 81) q13 rfl]; rfl) rfl ?_
      refine g_iconst (pc' := 385) (v := 0) C d_Ac_run_384 rfl rfl ?_
      replace hf := g_o2 hf; obtain ⟨h1, hf⟩ := hf; subst h1
      replace hf := g_o2 hf; obtain ⟨h1, hf⟩ := hf; subst h1
      replace hf := Option.some.inj hf; subst hf
      exact g_iret C d_Ac_run_385 () rfl
    · replace hf := g_bf h hf
      refine g_iconst (pc' := 23) (v := 0) C d_Ac_run_22 rfl rfl ?_
      replace hf := g_o2 hf; obtain ⟨h1, hf⟩ := hf; subst h1
      replace hf := g_o2 hf; obtain ⟨h1, hf⟩ := hf; subst h1
      replace hf := Option.some.inj hf; subst hf
      exact g_iret C d_Ac_run_23 () rfl
def f_Ac_run  : Nat → Int32 → Int32 → Int32 → Int32 → Int32 → Int32 → Int32 → (Nat → Int32) → (Nat → Int32) → Option (Int32 × Int32 × (Nat → Int32))
  | 0, _, _, _, _, _, _, _, _, _ => none
  | n + 1, p1, p2, p3, p4, x_p0_bodies, x_p0_ran, x_p0_number, x_p0_kinds, x_p0_trace => f_Ac_run_body (f_Ac_run  n) p1 p2 p3 p4 x_p0_bodies x_p0_ran x_p0_number x_p0_kinds x_p0_trace
set_option maxRecDepth 20000 in
theorem c_Ac_run {l : Launch} {D : va_G} {dA : Nat → ClassId}  : ∀ (n : Nat), ∀ (a_p0 : Nat) (a_p0_kinds : Nat) (a_p0_trace : Nat) (p1 : Int32) (p2 : Int32) (p3 : Int32) (p4 : Int32) (x_p0_bodies : Int32) (x_p0_ran : Int32) (x_p0_number : Int32) (x_p0_kinds : Nat → Int32) (x_p0_trace : Nat → Int32) (r0 : Int32) (o_x_p0_ran : Int32) (o_x_p0_trace : Nat → Int32), f_Ac_run  n p1 p2 p3 p4 x_p0_bodies x_p0_ran x_p0_number x_p0_kinds x_p0_trace = some (r0, o_x_p0_ran, o_x_p0_trace) → CT l y_Ac_run prog_2_method_13_code 10 (some .int) { frames := 3 * n, cells := 0, slots := 0, locals := 65 * n } D dA [.ref a_p0, .int p1, .int p2, .int p3, .int p4] [O_Ac a_p0 a_p0_kinds x_p0_bodies a_p0_trace x_p0_ran x_p0_number, A_I dA a_p0_kinds 50 x_p0_kinds, A_I dA a_p0_trace 24 x_p0_trace] (some (.int r0)) (fun _ : Unit => [O_Ac a_p0 a_p0_kinds x_p0_bodies a_p0_trace o_x_p0_ran x_p0_number, A_I dA a_p0_kinds 50 x_p0_kinds, A_I dA a_p0_trace 24 o_x_p0_trace]) := by
  intro n
  induction n with
  | zero =>
    intro a_p0 a_p0_kinds a_p0_trace p1 p2 p3 p4 x_p0_bodies x_p0_ran x_p0_number x_p0_kinds x_p0_trace r0 o_x_p0_ran o_x_p0_trace hf
    cases hf
  | succ n ih =>
    intro a_p0 a_p0_kinds a_p0_trace p1 p2 p3 p4 x_p0_bodies x_p0_ran x_p0_number x_p0_kinds x_p0_trace r0 o_x_p0_ran o_x_p0_trace hf
    unfold f_Ac_run at hf
    refine ct_mono (rm := { frames := (3 * n) + 3, cells := 0, slots := 0, locals := (65 * n) + 65 }) (by show (3 * n) + 3 ≤ 3 * (n + 1); omega) (by show (65 * n) + 65 ≤ 65 * (n + 1); omega) rfl rfl ?_
    exact c_Ac_run_body (fr := 3 * n) (lo := 65 * n) (f_Ac_run  n) ih hf
def y_Ac_perform : MethodName := ⟨"OneLamp$Acts", "perform", "(III)I"⟩
theorem yy_Ac_perform : YV y_Ac_perform prog_2_method_9_code 4 (some .int) 3 := ⟨mw_4_16, mw_1_10, mw_4_14, mw_4_15, by decide +kernel, by decide +kernel, by decide +kernel⟩
theorem d_Ac_perform_0 : decode prog_2_method_9_code 0 = .ok (.aload_n 0, 1) := by decide +kernel
theorem d_Ac_perform_1 : decode prog_2_method_9_code 1 = .ok (.iconst 0, 1) := by decide +kernel
theorem d_Ac_perform_2 : decode prog_2_method_9_code 2 = .ok (.putfield 32, 3) := by decide +kernel
theorem d_Ac_perform_5 : decode prog_2_method_9_code 5 = .ok (.aload_n 0, 1) := by decide +kernel
theorem d_Ac_perform_6 : decode prog_2_method_9_code 6 = .ok (.iload_n 1, 1) := by decide +kernel
theorem d_Ac_perform_7 : decode prog_2_method_9_code 7 = .ok (.invokevirtual 29, 3) := by decide +kernel
theorem d_Ac_perform_10 : decode prog_2_method_9_code 10 = .ok (.ifCond .eq 12, 3) := by decide +kernel
theorem d_Ac_perform_13 : decode prog_2_method_9_code 13 = .ok (.iload_n 2, 1) := by decide +kernel
theorem d_Ac_perform_14 : decode prog_2_method_9_code 14 = .ok (.ifCond .lt 8, 3) := by decide +kernel
theorem d_Ac_perform_17 : decode prog_2_method_9_code 17 = .ok (.iload_n 2, 1) := by decide +kernel
theorem d_Ac_perform_18 : decode prog_2_method_9_code 18 = .ok (.iconst 3, 1) := by decide +kernel
theorem d_Ac_perform_19 : decode prog_2_method_9_code 19 = .ok (.if_icmp .le 5, 3) := by decide +kernel
theorem d_Ac_perform_22 : decode prog_2_method_9_code 22 = .ok (.iconst 0, 1) := by decide +kernel
theorem d_Ac_perform_23 : decode prog_2_method_9_code 23 = .ok (.ireturn, 1) := by decide +kernel
theorem d_Ac_perform_24 : decode prog_2_method_9_code 24 = .ok (.aload_n 0, 1) := by decide +kernel
theorem d_Ac_perform_25 : decode prog_2_method_9_code 25 = .ok (.iload_n 1, 1) := by decide +kernel
theorem d_Ac_perform_26 : decode prog_2_method_9_code 26 = .ok (.putfield 38, 3) := by decide +kernel
theorem d_Ac_perform_29 : decode prog_2_method_9_code 29 = .ok (.aload_n 0, 1) := by decide +kernel
theorem d_Ac_perform_30 : decode prog_2_method_9_code 30 = .ok (.iload_n 2, 1) := by decide +kernel
theorem d_Ac_perform_31 : decode prog_2_method_9_code 31 = .ok (.aload_n 0, 1) := by decide +kernel
theorem d_Ac_perform_32 : decode prog_2_method_9_code 32 = .ok (.getfield 9, 3) := by decide +kernel
theorem d_Ac_perform_35 : decode prog_2_method_9_code 35 = .ok (.iload_n 1, 1) := by decide +kernel
theorem d_Ac_perform_36 : decode prog_2_method_9_code 36 = .ok (.iaload, 1) := by decide +kernel
theorem d_Ac_perform_37 : decode prog_2_method_9_code 37 = .ok (.iload_n 3, 1) := by decide +kernel
theorem d_Ac_perform_38 : decode prog_2_method_9_code 38 = .ok (.iconst 0, 1) := by decide +kernel
theorem d_Ac_perform_39 : decode prog_2_method_9_code 39 = .ok (.invokestatic 41, 3) := by decide +kernel
theorem d_Ac_perform_42 : decode prog_2_method_9_code 42 = .ok (.ireturn, 1) := by decide +kernel
def f_Ac_perform  (p1 : Int32) (p2 : Int32) (p3 : Int32) (x_o_bodies : Int32) (x_o_ran : Int32) (x_o_number : Int32) (x_o_kinds : Nat → Int32) (x_o_trace : Nat → Int32) : Option (Int32 × Int32 × Int32 × (Nat → Int32)) :=
  (f_Ac_isBody  p1 x_o_bodies).bind fun r1 =>
  if r1 = true then
    (if p2 < 0 then
      (some ((0 : Int32), (0 : Int32), x_o_number, x_o_trace))
    else
      (if p2 ≤ (3 : Int32) then
        (if p1 < 0 ∨ 50 ≤ Int32.toNatClampNeg p1 then none else
        (f_Ac_run  12 p2 (x_o_kinds (Int32.toNatClampNeg p1)) p3 (0 : Int32) x_o_bodies (0 : Int32) p1 x_o_kinds x_o_trace).bind fun (r3, u4, u5) =>
        some (r3, u4, p1, u5))
      else
        (some ((0 : Int32), (0 : Int32), x_o_number, x_o_trace))))
  else
    (some ((0 : Int32), (0 : Int32), x_o_number, x_o_trace))
set_option maxRecDepth 20000 in
theorem c_Ac_perform {l : Launch} {D : va_G} {dA : Nat → ClassId} {a_o a_o_kinds a_o_trace : Nat}  {p1 : Int32} {p2 : Int32} {p3 : Int32} {x_o_bodies : Int32} {x_o_ran : Int32} {x_o_number : Int32} {x_o_kinds : Nat → Int32} {x_o_trace : Nat → Int32} {r0 : Int32} {o_x_o_ran : Int32} {o_x_o_number : Int32} {o_x_o_trace : Nat → Int32}   (hf : f_Ac_perform  p1 p2 p3 x_o_bodies x_o_ran x_o_number x_o_kinds x_o_trace = some (r0, o_x_o_ran, o_x_o_number, o_x_o_trace)) : CT l y_Ac_perform prog_2_method_9_code 4 (some .int) { frames := 37, cells := 0, slots := 0, locals := 809 } D dA [.ref a_o, .int p1, .int p2, .int p3] [O_Ac a_o a_o_kinds x_o_bodies a_o_trace x_o_ran x_o_number, A_I dA a_o_kinds 50 x_o_kinds, A_I dA a_o_trace 24 x_o_trace] (some (.int r0)) (fun _ : Unit => [O_Ac a_o a_o_kinds x_o_bodies a_o_trace o_x_o_ran o_x_o_number, A_I dA a_o_kinds 50 x_o_kinds, A_I dA a_o_trace 24 o_x_o_trace]) := by
  refine ct_intro "OneLamp$Acts" rfl (by decide +kernel) (Nat.le_of_ble_eq_true rfl) [(0, .ref a_o), (1, .int p1), (2, .int p2), (3, .int p3)] rfl (fun _ C => ?_)
  unfold f_Ac_perform at hf
  refine g_aload_n (pc' := 1) C 0 d_Ac_perform_0 rfl rfl ?_
  refine g_iconst (pc' := 2) (v := 0) C d_Ac_perform_1 rfl rfl ?_
  refine g_put (pc' := 5) (ws' := [O_Ac a_o a_o_kinds x_o_bodies a_o_trace (0 : Int32) x_o_number, A_I dA a_o_kinds 50 x_o_kinds, A_I dA a_o_trace 24 x_o_trace]) C kf_Ac 3 mw_2_4 d_Ac_perform_2 rfl 0 rfl (by decide) rfl rfl rfl (Nat.le_of_ble_eq_true rfl) rfl ?_
  refine g_aload_n (pc' := 6) C 0 d_Ac_perform_5 rfl rfl ?_
  refine g_iload_n (pc' := 7) C 1 d_Ac_perform_6 rfl rfl ?_
  replace hf := g_bi hf; obtain ⟨r1, hc2, hf⟩ := hf
  refine g_callV (pc' := 10) (st1 := [.int (b2i r1)]) (ws1 := [O_Ac a_o a_o_kinds x_o_bodies a_o_trace (0 : Int32) x_o_number, A_I dA a_o_kinds 50 x_o_kinds, A_I dA a_o_trace 24 x_o_trace]) C (c_Ac_isBody (l := l) (D := D) (dA := dA) (a_o := a_o) (a_o_kinds := a_o_kinds) (a_o_trace := a_o_trace) (x_o_ran := (0 : Int32)) (x_o_number := x_o_number)   hc2) yy_Ac_isBody kf_Ac rfl mw_4_17 d_Ac_perform_7 rfl [] rfl rfl (Nat.le_of_ble_eq_true rfl) ⟨Nat.le_of_ble_eq_true rfl, Nat.le_of_ble_eq_true rfl⟩ rfl rfl (Nat.zero_le _) (Nat.zero_le _) 0 rfl [0] rfl (by decide +kernel) rfl (g_lay_sel _ _ _ _ [(0, true), (1, false), (2, false)] (by decide +kernel) rfl (by decide +kernel) rfl rfl) rfl ?_
  refine g_if_eqb (pc' := 13) (tgt := 22) C d_Ac_perform_10 rfl rfl (fun h => ?_) (fun h => ?_)
  · replace hf := g_bf h hf
    refine g_iconst (pc' := 23) (v := 0) C d_Ac_perform_22 rfl rfl ?_
    replace hf := g_o2 hf; obtain ⟨h1, hf⟩ := hf; subst h1
    replace hf := g_o2 hf; obtain ⟨h1, hf⟩ := hf; subst h1
    replace hf := g_o2 hf; obtain ⟨h1, hf⟩ := hf; subst h1
    replace hf := Option.some.inj hf; subst hf
    exact g_iret C d_Ac_perform_23 () rfl
  · replace hf := g_bt h hf
    refine g_iload_n (pc' := 14) C 2 d_Ac_perform_13 rfl rfl ?_
    refine g_if_lt (pc' := 17) (tgt := 22) C d_Ac_perform_14 rfl rfl (fun h => ?_) (fun h => ?_)
    · replace hf := g_ip h hf
      refine g_iconst (pc' := 23) (v := 0) C d_Ac_perform_22 rfl rfl ?_
      replace hf := g_o2 hf; obtain ⟨h1, hf⟩ := hf; subst h1
      replace hf := g_o2 hf; obtain ⟨h1, hf⟩ := hf; subst h1
      replace hf := g_o2 hf; obtain ⟨h1, hf⟩ := hf; subst h1
      replace hf := Option.some.inj hf; subst hf
      exact g_iret C d_Ac_perform_23 () rfl
    · replace hf := g_in h hf
      refine g_iload_n (pc' := 18) C 2 d_Ac_perform_17 rfl rfl ?_
      refine g_iconst (pc' := 19) (v := 3) C d_Ac_perform_18 rfl rfl ?_
      refine g_icmp_le (pc' := 22) (tgt := 24) C d_Ac_perform_19 rfl rfl (fun h => ?_) (fun h => ?_)
      · replace hf := g_ip h hf
        refine g_aload_n (pc' := 25) C 0 d_Ac_perform_24 rfl rfl ?_
        refine g_iload_n (pc' := 26) C 1 d_Ac_perform_25 rfl rfl ?_
        refine g_put (pc' := 29) (ws' := [O_Ac a_o a_o_kinds x_o_bodies a_o_trace (0 : Int32) p1, A_I dA a_o_kinds 50 x_o_kinds, A_I dA a_o_trace 24 x_o_trace]) C kf_Ac 4 mw_2_6 d_Ac_perform_26 rfl 0 rfl (by decide) rfl rfl rfl (Nat.le_of_ble_eq_true rfl) rfl ?_
        refine g_aload_n (pc' := 30) C 0 d_Ac_perform_29 rfl rfl ?_
        refine g_iload_n (pc' := 31) C 2 d_Ac_perform_30 rfl rfl ?_
        refine g_aload_n (pc' := 32) C 0 d_Ac_perform_31 rfl rfl ?_
        refine g_get (pc' := 35) C kf_Ac 0 mw_2_0 d_Ac_perform_32 rfl 0 rfl (by decide) rfl ?_
        refine g_iload_n (pc' := 36) C 1 d_Ac_perform_35 rfl rfl ?_
        have hb := g_ck hf
        replace hf := g_in hb hf
        refine g_iald (pc' := 37) C d_Ac_perform_36 rfl 1 rfl hb ?_
        refine g_iload_n (pc' := 38) C 3 d_Ac_perform_37 rfl rfl ?_
        refine g_iconst (pc' := 39) (v := 0) C d_Ac_perform_38 rfl rfl ?_
        replace hf := g_bi hf; obtain ⟨⟨r3, u4, u5⟩, hc6, hf⟩ := hf
        dsimp only at hf
        refine g_callS (pc' := 42) (st1 := [.int r3]) (ws1 := [O_Ac a_o a_o_kinds x_o_bodies a_o_trace u4 p1, A_I dA a_o_kinds 50 x_o_kinds, A_I dA a_o_trace 24 u5]) C (c_Ac_run (l := l) (D := D) (dA := dA)  12 a_o a_o_kinds a_o_trace p2 (x_o_kinds (Int32.toNatClampNeg p1)) p3 (0 : Int32) x_o_bodies (0 : Int32) p1 x_o_kinds x_o_trace _ _ _ hc6) yy_Ac_run mw_4_21 d_Ac_perform_39 rfl [] rfl rfl (Nat.le_of_ble_eq_true rfl) ⟨Nat.le_of_ble_eq_true rfl, Nat.le_of_ble_eq_true rfl⟩ rfl rfl (Nat.zero_le _) (Nat.zero_le _) [0, 1, 2] rfl (by decide +kernel) rfl (g_lay_sel _ _ _ _ [(0, true), (1, true), (2, true)] (by decide +kernel) rfl (by decide +kernel) rfl rfl) rfl ?_
        replace hf := g_o2 hf; obtain ⟨h1, hf⟩ := hf; subst h1
        replace hf := g_o2 hf; obtain ⟨h1, hf⟩ := hf; subst h1
        replace hf := g_o2 hf; obtain ⟨h1, hf⟩ := hf; subst h1
        replace hf := Option.some.inj hf; subst hf
        exact g_iret C d_Ac_perform_42 () rfl
      · replace hf := g_in h hf
        refine g_iconst (pc' := 23) (v := 0) C d_Ac_perform_22 rfl rfl ?_
        replace hf := g_o2 hf; obtain ⟨h1, hf⟩ := hf; subst h1
        replace hf := g_o2 hf; obtain ⟨h1, hf⟩ := hf; subst h1
        replace hf := g_o2 hf; obtain ⟨h1, hf⟩ := hf; subst h1
        replace hf := Option.some.inj hf; subst hf
        exact g_iret C d_Ac_perform_23 () rfl
