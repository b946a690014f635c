def y_Sh_isEmpty : MethodName := ⟨"OneLamp$Shelf", "isEmpty", "()Z"⟩
theorem yy_Sh_isEmpty : YV y_Sh_isEmpty prog_7_method_2_code 1 (some .boolean) 0 := ⟨mw_2_105, mw_1_11, mw_2_103, mw_2_104, by decide +kernel, by decide +kernel, by decide +kernel⟩
theorem d_Sh_isEmpty_0 : decode prog_7_method_2_code 0 = .ok (.aload_n 0, 1) := by decide +kernel
theorem d_Sh_isEmpty_1 : decode prog_7_method_2_code 1 = .ok (.getfield 15, 3) := by decide +kernel
theorem d_Sh_isEmpty_4 : decode prog_7_method_2_code 4 = .ok (.ifCond .ne 7, 3) := by decide +kernel
theorem d_Sh_isEmpty_7 : decode prog_7_method_2_code 7 = .ok (.iconst 1, 1) := by decide +kernel
theorem d_Sh_isEmpty_8 : decode prog_7_method_2_code 8 = .ok (.goto 4, 3) := by decide +kernel
theorem d_Sh_isEmpty_11 : decode prog_7_method_2_code 11 = .ok (.iconst 0, 1) := by decide +kernel
theorem d_Sh_isEmpty_12 : decode prog_7_method_2_code 12 = .ok (.ireturn, 1) := by decide +kernel
def f_Sh_isEmpty  (x_o_holds : Int32) : Option (Bool) :=
  if x_o_holds = 0 then
    (some (true))
  else
    (some (false))
set_option maxRecDepth 20000 in
theorem c_Sh_isEmpty {l : Launch} {D : va_G} {dA : Nat → ClassId} {a_o a_o_elements : Nat} {x_o_body : Int32} {x_o_sort : Int32} {x_o_length : Int32} {x_o_holds : Int32} {r0 : Bool}   (hf : f_Sh_isEmpty  x_o_holds = some r0) : CT l y_Sh_isEmpty prog_7_method_2_code 1 (some .boolean) { frames := 0, cells := 0, slots := 0, locals := 0 } D dA [.ref a_o] [O_Sh a_o x_o_holds x_o_body x_o_sort x_o_length a_o_elements] (some (.int (b2i r0))) (fun _ : Unit => [O_Sh a_o x_o_holds x_o_body x_o_sort x_o_length a_o_elements]) := by
  refine ct_intro "OneLamp$Shelf" rfl (by decide +kernel) (Nat.le_of_ble_eq_true rfl) [(0, .ref a_o)] rfl (fun _ C => ?_)
  unfold f_Sh_isEmpty at hf
  refine g_aload_n (pc' := 1) C 0 d_Sh_isEmpty_0 rfl rfl ?_
  refine g_get (pc' := 4) C kf_Sh 0 mw_2_25 d_Sh_isEmpty_1 rfl 0 rfl (by decide) rfl ?_
  refine g_if_ne (pc' := 7) (tgt := 11) C d_Sh_isEmpty_4 rfl rfl (fun h => ?_) (fun h => ?_)
  · replace hf := g_in h hf
    refine g_iconst (pc' := 12) (v := 0) C d_Sh_isEmpty_11 rfl rfl ?_
    replace hf := Option.some.inj hf; subst hf
    exact g_zret C d_Sh_isEmpty_12 () rfl
  · replace hf := g_ip h hf
    refine g_iconst (pc' := 8) (v := 1) C d_Sh_isEmpty_7 rfl rfl ?_
    refine g_goto (tgt := 12) C d_Sh_isEmpty_8 rfl ?_
    replace hf := Option.some.inj hf; subst hf
    exact g_zret C d_Sh_isEmpty_12 () rfl
def y_Sh_isBody : MethodName := ⟨"OneLamp$Shelf", "isBody", "()Z"⟩
theorem yy_Sh_isBody : YV y_Sh_isBody prog_7_method_3_code 1 (some .boolean) 0 := ⟨mw_4_124, mw_1_11, mw_4_122, mw_4_123, by decide +kernel, by decide +kernel, by decide +kernel⟩
theorem d_Sh_isBody_0 : decode prog_7_method_3_code 0 = .ok (.aload_n 0, 1) := by decide +kernel
theorem d_Sh_isBody_1 : decode prog_7_method_3_code 1 = .ok (.getfield 15, 3) := by decide +kernel
theorem d_Sh_isBody_4 : decode prog_7_method_3_code 4 = .ok (.iconst 1, 1) := by decide +kernel
theorem d_Sh_isBody_5 : decode prog_7_method_3_code 5 = .ok (.if_icmp .ne 7, 3) := by decide +kernel
theorem d_Sh_isBody_8 : decode prog_7_method_3_code 8 = .ok (.iconst 1, 1) := by decide +kernel
theorem d_Sh_isBody_9 : decode prog_7_method_3_code 9 = .ok (.goto 4, 3) := by decide +kernel
theorem d_Sh_isBody_12 : decode prog_7_method_3_code 12 = .ok (.iconst 0, 1) := by decide +kernel
theorem d_Sh_isBody_13 : decode prog_7_method_3_code 13 = .ok (.ireturn, 1) := by decide +kernel
def f_Sh_isBody  (x_o_holds : Int32) : Option (Bool) :=
  if x_o_holds = (1 : Int32) then
    (some (true))
  else
    (some (false))
set_option maxRecDepth 20000 in
theorem c_Sh_isBody {l : Launch} {D : va_G} {dA : Nat → ClassId} {a_o a_o_elements : Nat} {x_o_body : Int32} {x_o_sort : Int32} {x_o_length : Int32} {x_o_holds : Int32} {r0 : Bool}   (hf : f_Sh_isBody  x_o_holds = some r0) : CT l y_Sh_isBody prog_7_method_3_code 1 (some .boolean) { frames := 0, cells := 0, slots := 0, locals := 0 } D dA [.ref a_o] [O_Sh a_o x_o_holds x_o_body x_o_sort x_o_length a_o_elements] (some (.int (b2i r0))) (fun _ : Unit => [O_Sh a_o x_o_holds x_o_body x_o_sort x_o_length a_o_elements]) := by
  refine ct_intro "OneLamp$Shelf" rfl (by decide +kernel) (Nat.le_of_ble_eq_true rfl) [(0, .ref a_o)] rfl (fun _ C => ?_)
  unfold f_Sh_isBody at hf
  refine g_aload_n (pc' := 1) C 0 d_Sh_isBody_0 rfl rfl ?_
  refine g_get (pc' := 4) C kf_Sh 0 mw_2_25 d_Sh_isBody_1 rfl 0 rfl (by decide) rfl ?_
  refine g_iconst (pc' := 5) (v := 1) C d_Sh_isBody_4 rfl rfl ?_
  refine g_icmp_ne (pc' := 8) (tgt := 12) C d_Sh_isBody_5 rfl rfl (fun h => ?_) (fun h => ?_)
  · replace hf := g_in h hf
    refine g_iconst (pc' := 13) (v := 0) C d_Sh_isBody_12 rfl rfl ?_
    replace hf := Option.some.inj hf; subst hf
    exact g_zret C d_Sh_isBody_13 () rfl
  · replace hf := g_ip h hf
    refine g_iconst (pc' := 9) (v := 1) C d_Sh_isBody_8 rfl rfl ?_
    refine g_goto (tgt := 13) C d_Sh_isBody_9 rfl ?_
    replace hf := Option.some.inj hf; subst hf
    exact g_zret C d_Sh_isBody_13 () rfl
def y_Sh_isRow : MethodName := ⟨"OneLamp$Shelf", "isRow", "()Z"⟩
theorem yy_Sh_isRow : YV y_Sh_isRow prog_7_method_4_code 1 (some .boolean) 0 := ⟨mw_4_89, mw_1_11, mw_4_87, mw_4_88, by decide +kernel, by decide +kernel, by decide +kernel⟩
theorem d_Sh_isRow_0 : decode prog_7_method_4_code 0 = .ok (.aload_n 0, 1) := by decide +kernel
theorem d_Sh_isRow_1 : decode prog_7_method_4_code 1 = .ok (.getfield 15, 3) := by decide +kernel
theorem d_Sh_isRow_4 : decode prog_7_method_4_code 4 = .ok (.iconst 2, 1) := by decide +kernel
theorem d_Sh_isRow_5 : decode prog_7_method_4_code 5 = .ok (.if_icmp .ne 7, 3) := by decide +kernel
theorem d_Sh_isRow_8 : decode prog_7_method_4_code 8 = .ok (.iconst 1, 1) := by decide +kernel
theorem d_Sh_isRow_9 : decode prog_7_method_4_code 9 = .ok (.goto 4, 3) := by decide +kernel
theorem d_Sh_isRow_12 : decode prog_7_method_4_code 12 = .ok (.iconst 0, 1) := by decide +kernel
theorem d_Sh_isRow_13 : decode prog_7_method_4_code 13 = .ok (.ireturn, 1) := by decide +kernel
def f_Sh_isRow  (x_o_holds : Int32) : Option (Bool) :=
  if x_o_holds = (2 : Int32) then
    (some (true))
  else
    (some (false))
set_option maxRecDepth 20000 in
theorem c_Sh_isRow {l : Launch} {D : va_G} {dA : Nat → ClassId} {a_o a_o_elements : Nat} {x_o_body : Int32} {x_o_sort : Int32} {x_o_length : Int32} {x_o_holds : Int32} {r0 : Bool}   (hf : f_Sh_isRow  x_o_holds = some r0) : CT l y_Sh_isRow prog_7_method_4_code 1 (some .boolean) { frames := 0, cells := 0, slots := 0, locals := 0 } D dA [.ref a_o] [O_Sh a_o x_o_holds x_o_body x_o_sort x_o_length a_o_elements] (some (.int (b2i r0))) (fun _ : Unit => [O_Sh a_o x_o_holds x_o_body x_o_sort x_o_length a_o_elements]) := by
  refine ct_intro "OneLamp$Shelf" rfl (by decide +kernel) (Nat.le_of_ble_eq_true rfl) [(0, .ref a_o)] rfl (fun _ C => ?_)
  unfold f_Sh_isRow at hf
  refine g_aload_n (pc' := 1) C 0 d_Sh_isRow_0 rfl rfl ?_
  refine g_get (pc' := 4) C kf_Sh 0 mw_2_25 d_Sh_isRow_1 rfl 0 rfl (by decide) rfl ?_
  refine g_iconst (pc' := 5) (v := 2) C d_Sh_isRow_4 rfl rfl ?_
  refine g_icmp_ne (pc' := 8) (tgt := 12) C d_Sh_isRow_5 rfl rfl (fun h => ?_) (fun h => ?_)
  · replace hf := g_in h hf
    refine g_iconst (pc' := 13) (v := 0) C d_Sh_isRow_12 rfl rfl ?_
    replace hf := Option.some.inj hf; subst hf
    exact g_zret C d_Sh_isRow_13 () rfl
  · replace hf := g_ip h hf
    refine g_iconst (pc' := 9) (v := 1) C d_Sh_isRow_8 rfl rfl ?_
    refine g_goto (tgt := 13) C d_Sh_isRow_9 rfl ?_
    replace hf := Option.some.inj hf; subst hf
    exact g_zret C d_Sh_isRow_13 () rfl
def y_Sh_isRowOf : MethodName := ⟨"OneLamp$Shelf", "isRowOf", "(I)Z"⟩
theorem yy_Sh_isRowOf : YV y_Sh_isRowOf prog_7_method_5_code 2 (some .boolean) 1 := ⟨mw_2_109, mw_1_11, mw_2_107, mw_2_108, by decide +kernel, by decide +kernel, by decide +kernel⟩
theorem d_Sh_isRowOf_0 : decode prog_7_method_5_code 0 = .ok (.aload_n 0, 1) := by decide +kernel
theorem d_Sh_isRowOf_1 : decode prog_7_method_5_code 1 = .ok (.getfield 15, 3) := by decide +kernel
theorem d_Sh_isRowOf_4 : decode prog_7_method_5_code 4 = .ok (.iconst 2, 1) := by decide +kernel
theorem d_Sh_isRowOf_5 : decode prog_7_method_5_code 5 = .ok (.if_icmp .ne 15, 3) := by decide +kernel
theorem d_Sh_isRowOf_8 : decode prog_7_method_5_code 8 = .ok (.aload_n 0, 1) := by decide +kernel
theorem d_Sh_isRowOf_9 : decode prog_7_method_5_code 9 = .ok (.getfield 19, 3) := by decide +kernel
theorem d_Sh_isRowOf_12 : decode prog_7_method_5_code 12 = .ok (.iload_n 1, 1) := by decide +kernel
theorem d_Sh_isRowOf_13 : decode prog_7_method_5_code 13 = .ok (.if_icmp .ne 7, 3) := by decide +kernel
theorem d_Sh_isRowOf_16 : decode prog_7_method_5_code 16 = .ok (.iconst 1, 1) := by decide +kernel
theorem d_Sh_isRowOf_17 : decode prog_7_method_5_code 17 = .ok (.goto 4, 3) := by decide +kernel
theorem d_Sh_isRowOf_20 : decode prog_7_method_5_code 20 = .ok (.iconst 0, 1) := by decide +kernel
theorem d_Sh_isRowOf_21 : decode prog_7_method_5_code 21 = .ok (.ireturn, 1) := by decide +kernel
def f_Sh_isRowOf  (p1 : Int32) (x_o_holds : Int32) (x_o_sort : Int32) : Option (Bool) :=
  if x_o_holds = (2 : Int32) then
    (if x_o_sort = p1 then
      (some (true))
    else
      (some (false)))
  else
    (some (false))
set_option maxRecDepth 20000 in
theorem c_Sh_isRowOf {l : Launch} {D : va_G} {dA : Nat → ClassId} {a_o a_o_elements : Nat} {x_o_body : Int32} {x_o_length : Int32} {p1 : Int32} {x_o_holds : Int32} {x_o_sort : Int32} {r0 : Bool}   (hf : f_Sh_isRowOf  p1 x_o_holds x_o_sort = some r0) : CT l y_Sh_isRowOf prog_7_method_5_code 2 (some .boolean) { frames := 0, cells := 0, slots := 0, locals := 0 } D dA [.ref a_o, .int p1] [O_Sh a_o x_o_holds x_o_body x_o_sort x_o_length a_o_elements] (some (.int (b2i r0))) (fun _ : Unit => [O_Sh a_o x_o_holds x_o_body x_o_sort x_o_length a_o_elements]) := by
  refine ct_intro "OneLamp$Shelf" rfl (by decide +kernel) (Nat.le_of_ble_eq_true rfl) [(0, .ref a_o), (1, .int p1)] rfl (fun _ C => ?_)
  unfold f_Sh_isRowOf at hf
  refine g_aload_n (pc' := 1) C 0 d_Sh_isRowOf_0 rfl rfl ?_
  refine g_get (pc' := 4) C kf_Sh 0 mw_2_25 d_Sh_isRowOf_1 rfl 0 rfl (by decide) rfl ?_
  refine g_iconst (pc' := 5) (v := 2) C d_Sh_isRowOf_4 rfl rfl ?_
  refine g_icmp_ne (pc' := 8) (tgt := 20) C d_Sh_isRowOf_5 rfl rfl (fun h => ?_) (fun h => ?_)
  · replace hf := g_in h hf
    refine g_iconst (pc' := 21) (v := 0) C d_Sh_isRowOf_20 rfl rfl ?_
    replace hf := Option.some.inj hf; subst hf
    exact g_zret C d_Sh_isRowOf_21 () rfl
  · replace hf := g_ip h hf
    refine g_aload_n (pc' := 9) C 0 d_Sh_isRowOf_8 rfl rfl ?_
    refine g_get (pc' := 12) C kf_Sh 2 mw_2_28 d_Sh_isRowOf_9 rfl 0 rfl (by decide) rfl ?_
    refine g_iload_n (pc' := 13) C 1 d_Sh_isRowOf_12 rfl rfl ?_
    refine g_icmp_ne (pc' := 16) (tgt := 20) C d_Sh_isRowOf_13 rfl rfl (fun h => ?_) (fun h => ?_)
    · replace hf := g_in h hf
      refine g_iconst (pc' := 21) (v := 0) C d_Sh_isRowOf_20 rfl rfl ?_
      replace hf := Option.some.inj hf; subst hf
      exact g_zret C d_Sh_isRowOf_21 () rfl
    · replace hf := g_ip h hf
      refine g_iconst (pc' := 17) (v := 1) C d_Sh_isRowOf_16 rfl rfl ?_
      refine g_goto (tgt := 21) C d_Sh_isRowOf_17 rfl ?_
      replace hf := Option.some.inj hf; subst hf
      exact g_zret C d_Sh_isRowOf_21 () rfl
def y_Sh_holdNothing : MethodName := ⟨"OneLamp$Shelf", "holdNothing", "()V"⟩
theorem yy_Sh_holdNothing : YV y_Sh_holdNothing prog_7_method_6_code 1 none 0 := ⟨mw_4_64, mw_1_11, mw_4_62, mw_4_63, by decide +kernel, by decide +kernel, by decide +kernel⟩
theorem d_Sh_holdNothing_0 : decode prog_7_method_6_code 0 = .ok (.aload_n 0, 1) := by decide +kernel
theorem d_Sh_holdNothing_1 : decode prog_7_method_6_code 1 = .ok (.iconst 0, 1) := by decide +kernel
theorem d_Sh_holdNothing_2 : decode prog_7_method_6_code 2 = .ok (.putfield 15, 3) := by decide +kernel
theorem d_Sh_holdNothing_5 : decode prog_7_method_6_code 5 = .ok (.return_, 1) := by decide +kernel
def f_Sh_holdNothing  (x_o_holds : Int32) : Option (Int32) :=
  some ((0 : Int32))
set_option maxRecDepth 20000 in
theorem c_Sh_holdNothing {l : Launch} {D : va_G} {dA : Nat → ClassId} {a_o a_o_elements : Nat} {x_o_body : Int32} {x_o_sort : Int32} {x_o_length : Int32} {x_o_holds : Int32} {o_x_o_holds : Int32}   (hf : f_Sh_holdNothing  x_o_holds = some o_x_o_holds) : CT l y_Sh_holdNothing prog_7_method_6_code 1 none { frames := 0, cells := 0, slots := 0, locals := 0 } D dA [.ref a_o] [O_Sh a_o x_o_holds x_o_body x_o_sort x_o_length a_o_elements] none (fun _ : Unit => [O_Sh a_o o_x_o_holds x_o_body x_o_sort x_o_length a_o_elements]) := by
  refine ct_intro "OneLamp$Shelf" rfl (by decide +kernel) (Nat.le_of_ble_eq_true rfl) [(0, .ref a_o)] rfl (fun _ C => ?_)
  unfold f_Sh_holdNothing at hf
  refine g_aload_n (pc' := 1) C 0 d_Sh_holdNothing_0 rfl rfl ?_
  refine g_iconst (pc' := 2) (v := 0) C d_Sh_holdNothing_1 rfl rfl ?_
  refine g_put (pc' := 5) (ws' := [O_Sh a_o (0 : Int32) x_o_body x_o_sort x_o_length a_o_elements]) C kf_Sh 0 mw_2_25 d_Sh_holdNothing_2 rfl 0 rfl (by decide) rfl rfl rfl (Nat.le_of_ble_eq_true rfl) rfl ?_
  replace hf := Option.some.inj hf; subst hf
  exact g_vret C d_Sh_holdNothing_5 () rfl
def y_Sh_holdBody : MethodName := ⟨"OneLamp$Shelf", "holdBody", "(I)V"⟩
theorem yy_Sh_holdBody : YV y_Sh_holdBody prog_7_method_7_code 2 none 1 := ⟨mw_4_68, mw_1_11, mw_4_66, mw_4_67, by decide +kernel, by decide +kernel, by decide +kernel⟩
theorem d_Sh_holdBody_0 : decode prog_7_method_7_code 0 = .ok (.aload_n 0, 1) := by decide +kernel
theorem d_Sh_holdBody_1 : decode prog_7_method_7_code 1 = .ok (.iconst 1, 1) := by decide +kernel
theorem d_Sh_holdBody_2 : decode prog_7_method_7_code 2 = .ok (.putfield 15, 3) := by decide +kernel
theorem d_Sh_holdBody_5 : decode prog_7_method_7_code 5 = .ok (.aload_n 0, 1) := by decide +kernel
theorem d_Sh_holdBody_6 : decode prog_7_method_7_code 6 = .ok (.iload_n 1, 1) := by decide +kernel
theorem d_Sh_holdBody_7 : decode prog_7_method_7_code 7 = .ok (.putfield 22, 3) := by decide +kernel
theorem d_Sh_holdBody_10 : decode prog_7_method_7_code 10 = .ok (.return_, 1) := by decide +kernel
def f_Sh_holdBody  (p1 : Int32) (x_o_holds : Int32) (x_o_body : Int32) : Option (Int32 × Int32) :=
  some ((1 : Int32), p1)
set_option maxRecDepth 20000 in
theorem c_Sh_holdBody {l : Launch} {D : va_G} {dA : Nat → ClassId} {a_o a_o_elements : Nat} {x_o_sort : Int32} {x_o_length : Int32} {p1 : Int32} {x_o_holds : Int32} {x_o_body : Int32} {o_x_o_holds : Int32} {o_x_o_body : Int32}   (hf : f_Sh_holdBody  p1 x_o_holds x_o_body = some (o_x_o_holds, o_x_o_body)) : CT l y_Sh_holdBody prog_7_method_7_code 2 none { frames := 0, cells := 0, slots := 0, locals := 0 } D dA [.ref a_o, .int p1] [O_Sh a_o x_o_holds x_o_body x_o_sort x_o_length a_o_elements] none (fun _ : Unit => [O_Sh a_o o_x_o_holds o_x_o_body x_o_sort x_o_length a_o_elements]) := by
  refine ct_intro "OneLamp$Shelf" rfl (by decide +kernel) (Nat.le_of_ble_eq_true rfl) [(0, .ref a_o), (1, .int p1)] rfl (fun _ C => ?_)
  unfold f_Sh_holdBody at hf
  refine g_aload_n (pc' := 1) C 0 d_Sh_holdBody_0 rfl rfl ?_
  refine g_iconst (pc' := 2) (v := 1) C d_Sh_holdBody_1 rfl rfl ?_
  refine g_put (pc' := 5) (ws' := [O_Sh a_o (1 : Int32) x_o_body x_o_sort x_o_length a_o_elements]) C kf_Sh 0 mw_2_25 d_Sh_holdBody_2 rfl 0 rfl (by decide) rfl rfl rfl (Nat.le_of_ble_eq_true rfl) rfl ?_
  refine g_aload_n (pc' := 6) C 0 d_Sh_holdBody_5 rfl rfl ?_
  refine g_iload_n (pc' := 7) C 1 d_Sh_holdBody_6 rfl rfl ?_
  refine g_put (pc' := 10) (ws' := [O_Sh a_o (1 : Int32) p1 x_o_sort x_o_length a_o_elements]) C kf_Sh 1 mw_2_26 d_Sh_holdBody_7 rfl 0 rfl (by decide) rfl rfl rfl (Nat.le_of_ble_eq_true rfl) rfl ?_
  replace hf := g_o2 hf; obtain ⟨h1, hf⟩ := hf; subst h1
  replace hf := Option.some.inj hf; subst hf
  exact g_vret C d_Sh_holdBody_10 () rfl
def y_Sh_holdRow : MethodName := ⟨"OneLamp$Shelf", "holdRow", "(II)V"⟩
theorem yy_Sh_holdRow : YV y_Sh_holdRow prog_7_method_8_code 3 none 2 := ⟨mw_4_76, mw_1_11, mw_4_74, mw_4_75, by decide +kernel, by decide +kernel, by decide +kernel⟩
theorem d_Sh_holdRow_0 : decode prog_7_method_8_code 0 = .ok (.aload_n 0, 1) := by decide +kernel
theorem d_Sh_holdRow_1 : decode prog_7_method_8_code 1 = .ok (.iconst 2, 1) := by decide +kernel
theorem d_Sh_holdRow_2 : decode prog_7_method_8_code 2 = .ok (.putfield 15, 3) := by decide +kernel
theorem d_Sh_holdRow_5 : decode prog_7_method_8_code 5 = .ok (.aload_n 0, 1) := by decide +kernel
theorem d_Sh_holdRow_6 : decode prog_7_method_8_code 6 = .ok (.iload_n 1, 1) := by decide +kernel
theorem d_Sh_holdRow_7 : decode prog_7_method_8_code 7 = .ok (.putfield 19, 3) := by decide +kernel
theorem d_Sh_holdRow_10 : decode prog_7_method_8_code 10 = .ok (.aload_n 0, 1) := by decide +kernel
theorem d_Sh_holdRow_11 : decode prog_7_method_8_code 11 = .ok (.iload_n 2, 1) := by decide +kernel
theorem d_Sh_holdRow_12 : decode prog_7_method_8_code 12 = .ok (.putfield 25, 3) := by decide +kernel
theorem d_Sh_holdRow_15 : decode prog_7_method_8_code 15 = .ok (.aload_n 0, 1) := by decide +kernel
theorem d_Sh_holdRow_16 : decode prog_7_method_8_code 16 = .ok (.getfield 9, 3) := by decide +kernel
theorem d_Sh_holdRow_19 : decode prog_7_method_8_code 19 = .ok (.lconst 0, 1) := by decide +kernel
theorem d_Sh_holdRow_20 : decode prog_7_method_8_code 20 = .ok (.invokestatic 28, 3) := by decide +kernel
theorem d_Sh_holdRow_23 : decode prog_7_method_8_code 23 = .ok (.return_, 1) := by decide +kernel
def f_Sh_holdRow  (p1 : Int32) (p2 : Int32) (x_o_holds : Int32) (x_o_sort : Int32) (x_o_length : Int32) (x_o_elements : Nat → Int64) : Option (Int32 × Int32 × Int32 × (Nat → Int64)) :=
  (f_JA_fill_J  (0 : Int64) x_o_elements 60).bind fun u1 =>
  some ((2 : Int32), p1, p2, u1)
set_option maxRecDepth 20000 in
theorem c_Sh_holdRow {l : Launch} {D : va_G} {dA : Nat → ClassId} {a_o a_o_elements : Nat} {x_o_body : Int32} {p1 : Int32} {p2 : Int32} {x_o_holds : Int32} {x_o_sort : Int32} {x_o_length : Int32} {x_o_elements : Nat → Int64} {o_x_o_holds : Int32} {o_x_o_sort : Int32} {o_x_o_length : Int32} {o_x_o_elements : Nat → Int64}   (hf : f_Sh_holdRow  p1 p2 x_o_holds x_o_sort x_o_length x_o_elements = some (o_x_o_holds, o_x_o_sort, o_x_o_length, o_x_o_elements)) : CT l y_Sh_holdRow prog_7_method_8_code 3 none { frames := 1, cells := 0, slots := 0, locals := 24 } D dA [.ref a_o, .int p1, .int p2] [O_Sh a_o x_o_holds x_o_body x_o_sort x_o_length a_o_elements, A_J dA a_o_elements 60 x_o_elements] none (fun _ : Unit => [O_Sh a_o o_x_o_holds x_o_body o_x_o_sort o_x_o_length a_o_elements, A_J dA a_o_elements 60 o_x_o_elements]) := by
  refine ct_intro "OneLamp$Shelf" rfl (by decide +kernel) (Nat.le_of_ble_eq_true rfl) [(0, .ref a_o), (1, .int p1), (2, .int p2)] rfl (fun _ C => ?_)
  unfold f_Sh_holdRow at hf
  refine g_aload_n (pc' := 1) C 0 d_Sh_holdRow_0 rfl rfl ?_
  refine g_iconst (pc' := 2) (v := 2) C d_Sh_holdRow_1 rfl rfl ?_
  refine g_put (pc' := 5) (ws' := [O_Sh a_o (2 : Int32) x_o_body x_o_sort x_o_length a_o_elements, A_J dA a_o_elements 60 x_o_elements]) C kf_Sh 0 mw_2_25 d_Sh_holdRow_2 rfl 0 rfl (by decide) rfl rfl rfl (Nat.le_of_ble_eq_true rfl) rfl ?_
  refine g_aload_n (pc' := 6) C 0 d_Sh_holdRow_5 rfl rfl ?_
  refine g_iload_n (pc' := 7) C 1 d_Sh_holdRow_6 rfl rfl ?_
  refine g_put (pc' := 10) (ws' := [O_Sh a_o (2 : Int32) x_o_body p1 x_o_length a_o_elements, A_J dA a_o_elements 60 x_o_elements]) C kf_Sh 2 mw_2_28 d_Sh_holdRow_7 rfl 0 rfl (by decide) rfl rfl rfl (Nat.le_of_ble_eq_true rfl) rfl ?_
  refine g_aload_n (pc' := 11) C 0 d_Sh_holdRow_10 rfl rfl ?_
  refine g_iload_n (pc' := 12) C 2 d_Sh_holdRow_11 rfl rfl ?_
  refine g_put (pc' := 15) (ws' := [O_Sh a_o (2 : Int32) x_o_body p1 p2 a_o_elements, A_J dA a_o_elements 60 x_o_elements]) C kf_Sh 3 mw_2_31 d_Sh_holdRow_12 rfl 0 rfl (by decide) rfl rfl rfl (Nat.le_of_ble_eq_true rfl) rfl ?_
  refine g_aload_n (pc' := 16) C 0 d_Sh_holdRow_15 rfl rfl ?_
  refine g_get (pc' := 19) C kf_Sh 4 mw_2_32 d_Sh_holdRow_16 rfl 0 rfl (by decide) rfl ?_
  refine g_lconst (pc' := 20) (v := 0) C d_Sh_holdRow_19 rfl rfl ?_
  replace hf := g_bi hf; obtain ⟨u1, hc2, hf⟩ := hf
  refine g_callS (pc' := 23) (st1 := []) (ws1 := [O_Sh a_o (2 : Int32) x_o_body p1 p2 a_o_elements, A_J dA a_o_elements 60 u1]) C (c_JA_fill_J (l := l) (D := D) (dA := dA) (a_p0 := a_o_elements)   hc2) yy_JA_fill_J mw_4_77 d_Sh_holdRow_20 rfl [] rfl rfl (Nat.le_of_ble_eq_true rfl) ⟨Nat.le_of_ble_eq_true rfl, Nat.le_of_ble_eq_true rfl⟩ rfl rfl (Nat.zero_le _) (Nat.zero_le _) [1] rfl (by decide +kernel) rfl (g_lay_sel _ _ _ _ [(0, false), (0, true)] (by decide +kernel) rfl (by decide +kernel) rfl rfl) rfl ?_
  replace hf := g_o2 hf; obtain ⟨h1, hf⟩ := hf; subst h1
  replace hf := g_o2 hf; obtain ⟨h1, hf⟩ := hf; subst h1
  replace hf := g_o2 hf; obtain ⟨h1, hf⟩ := hf; subst h1
  replace hf := Option.some.inj hf; subst hf
  exact g_vret C d_Sh_holdRow_23 () rfl
def y_Sh_hasPlace : MethodName := ⟨"OneLamp$Shelf", "hasPlace", "(I)Z"⟩
theorem yy_Sh_hasPlace : YV y_Sh_hasPlace prog_7_method_9_code 2 (some .boolean) 1 := ⟨mw_2_113, mw_1_11, mw_2_111, mw_2_112, by decide +kernel, by decide +kernel, by decide +kernel⟩
theorem d_Sh_hasPlace_0 : decode prog_7_method_9_code 0 = .ok (.aload_n 0, 1) := by decide +kernel
theorem d_Sh_hasPlace_1 : decode prog_7_method_9_code 1 = .ok (.getfield 15, 3) := by decide +kernel
theorem d_Sh_hasPlace_4 : decode prog_7_method_9_code 4 = .ok (.iconst 2, 1) := by decide +kernel
theorem d_Sh_hasPlace_5 : decode prog_7_method_9_code 5 = .ok (.if_icmp .ne 25, 3) := by decide +kernel
theorem d_Sh_hasPlace_8 : decode prog_7_method_9_code 8 = .ok (.iload_n 1, 1) := by decide +kernel
theorem d_Sh_hasPlace_9 : decode prog_7_method_9_code 9 = .ok (.ifCond .lt 21, 3) := by decide +kernel
theorem d_Sh_hasPlace_12 : decode prog_7_method_9_code 12 = .ok (.iload_n 1, 1) := by decide +kernel
theorem d_Sh_hasPlace_13 : decode prog_7_method_9_code 13 = .ok (.aload_n 0, 1) := by decide +kernel
theorem d_Sh_hasPlace_14 : decode prog_7_method_9_code 14 = .ok (.getfield 25, 3) := by decide +kernel
theorem d_Sh_hasPlace_17 : decode prog_7_method_9_code 17 = .ok (.if_icmp .ge 13, 3) := by decide +kernel
theorem d_Sh_hasPlace_20 : decode prog_7_method_9_code 20 = .ok (.iload_n 1, 1) := by decide +kernel
theorem d_Sh_hasPlace_21 : decode prog_7_method_9_code 21 = .ok (.bipush 60, 2) := by decide +kernel
theorem d_Sh_hasPlace_23 : decode prog_7_method_9_code 23 = .ok (.if_icmp .ge 7, 3) := by decide +kernel
theorem d_Sh_hasPlace_26 : decode prog_7_method_9_code 26 = .ok (.iconst 1, 1) := by decide +kernel
theorem d_Sh_hasPlace_27 : decode prog_7_method_9_code 27 = .ok (.goto 4, 3) := by decide +kernel
theorem d_Sh_hasPlace_30 : decode prog_7_method_9_code 30 = .ok (.iconst 0, 1) := by decide +kernel
theorem d_Sh_hasPlace_31 : decode prog_7_method_9_code 31 = .ok (.ireturn, 1) := by decide +kernel
def f_Sh_hasPlace  (p1 : Int32) (x_o_holds : Int32) (x_o_length : Int32) : Option (Bool) :=
  if x_o_holds = (2 : Int32) then
    (if p1 < 0 then
      (some (false))
    else
      (if x_o_length ≤ p1 then
        (some (false))
      else
        (if (60 : Int32) ≤ p1 then
          (some (false))
        else
          (some (true)))))
  else
    (some (false))
set_option maxRecDepth 20000 in
theorem c_Sh_hasPlace {l : Launch} {D : va_G} {dA : Nat → ClassId} {a_o a_o_elements : Nat} {x_o_body : Int32} {x_o_sort : Int32} {p1 : Int32} {x_o_holds : Int32} {x_o_length : Int32} {r0 : Bool}   (hf : f_Sh_hasPlace  p1 x_o_holds x_o_length = some r0) : CT l y_Sh_hasPlace prog_7_method_9_code 2 (some .boolean) { frames := 0, cells := 0, slots := 0, locals := 0 } D dA [.ref a_o, .int p1] [O_Sh a_o x_o_holds x_o_body x_o_sort x_o_length a_o_elements] (some (.int (b2i r0))) (fun _ : Unit => [O_Sh a_o x_o_holds x_o_body x_o_sort x_o_length a_o_elements]) := by
  refine ct_intro "OneLamp$Shelf" rfl (by decide +kernel) (Nat.le_of_ble_eq_true rfl) [(0, .ref a_o), (1, .int p1)] rfl (fun _ C => ?_)
  unfold f_Sh_hasPlace at hf
  refine g_aload_n (pc' := 1) C 0 d_Sh_hasPlace_0 rfl rfl ?_
  refine g_get (pc' := 4) C kf_Sh 0 mw_2_25 d_Sh_hasPlace_1 rfl 0 rfl (by decide) rfl ?_
  refine g_iconst (pc' := 5) (v := 2) C d_Sh_hasPlace_4 rfl rfl ?_
  refine g_icmp_ne (pc' := 8) (tgt := 30) C d_Sh_hasPlace_5 rfl rfl (fun h => ?_) (fun h => ?_)
  · replace hf := g_in h hf
    refine g_iconst (pc' := 31) (v := 0) C d_Sh_hasPlace_30 rfl rfl ?_
    replace hf := Option.some.inj hf; subst hf
    exact g_zret C d_Sh_hasPlace_31 () rfl
  · replace hf := g_ip h hf
    refine g_iload_n (pc' := 9) C 1 d_Sh_hasPlace_8 rfl rfl ?_
    refine g_if_lt (pc' := 12) (tgt := 30) C d_Sh_hasPlace_9 rfl rfl (fun h => ?_) (fun h => ?_)
    · replace hf := g_ip h hf
      refine g_iconst (pc' := 31) (v := 0) C d_Sh_hasPlace_30 rfl rfl ?_
      replace hf := Option.some.inj hf; subst hf
      exact g_zret C d_Sh_hasPlace_31 () rfl
    · replace hf := g_in h hf
      refine g_iload_n (pc' := 13) C 1 d_Sh_hasPlace_12 rfl rfl ?_
      refine g_aload_n (pc' := 14) C 0 d_Sh_hasPlace_13 rfl rfl ?_
      refine g_get (pc' := 17) C kf_Sh 3 mw_2_31 d_Sh_hasPlace_14 rfl 0 rfl (by decide) rfl ?_
      refine g_icmp_ge (pc' := 20) (tgt := 30) C d_Sh_hasPlace_17 rfl rfl (fun h => ?_) (fun h => ?_)
      · replace hf := g_ip h hf
        refine g_iconst (pc' := 31) (v := 0) C d_Sh_hasPlace_30 rfl rfl ?_
        replace hf := Option.some.inj hf; subst hf
        exact g_zret C d_Sh_hasPlace_31 () rfl
      · replace hf := g_in h hf
        refine g_iload_n (pc' := 21) C 1 d_Sh_hasPlace_20 rfl rfl ?_
        refine g_bipush (pc' := 23) (v := 60) C d_Sh_hasPlace_21 rfl rfl ?_
        refine g_icmp_ge (pc' := 26) (tgt := 30) C d_Sh_hasPlace_23 rfl rfl (fun h => ?_) (fun h => ?_)
        · replace hf := g_ip h hf
          refine g_iconst (pc' := 31) (v := 0) C d_Sh_hasPlace_30 rfl rfl ?_
          replace hf := Option.some.inj hf; subst hf
          exact g_zret C d_Sh_hasPlace_31 () rfl
        · replace hf := g_in h hf
          refine g_iconst (pc' := 27) (v := 1) C d_Sh_hasPlace_26 rfl rfl ?_
          refine g_goto (tgt := 31) C d_Sh_hasPlace_27 rfl ?_
          replace hf := Option.some.inj hf; subst hf
          exact g_zret C d_Sh_hasPlace_31 () rfl
def y_Sh_hasPlaces : MethodName := ⟨"OneLamp$Shelf", "hasPlaces", "(II)Z"⟩
theorem yy_Sh_hasPlaces : YV y_Sh_hasPlaces prog_7_method_10_code 3 (some .boolean) 2 := ⟨mw_4_110, mw_1_11, mw_4_108, mw_4_109, by decide +kernel, by decide +kernel, by decide +kernel⟩
theorem d_Sh_hasPlaces_0 : decode prog_7_method_10_code 0 = .ok (.iload_n 1, 1) := by decide +kernel
theorem d_Sh_hasPlaces_1 : decode prog_7_method_10_code 1 = .ok (.ifCond .lt 38, 3) := by decide +kernel
theorem d_Sh_hasPlaces_4 : decode prog_7_method_10_code 4 = .ok (.iload_n 2, 1) := by decide +kernel
theorem d_Sh_hasPlaces_5 : decode prog_7_method_10_code 5 = .ok (.ifCond .lt 34, 3) := by decide +kernel
theorem d_Sh_hasPlaces_8 : decode prog_7_method_10_code 8 = .ok (.iload_n 1, 1) := by decide +kernel
theorem d_Sh_hasPlaces_9 : decode prog_7_method_10_code 9 = .ok (.aload_n 0, 1) := by decide +kernel
theorem d_Sh_hasPlaces_10 : decode prog_7_method_10_code 10 = .ok (.getfield 25, 3) := by decide +kernel
theorem d_Sh_hasPlaces_13 : decode prog_7_method_10_code 13 = .ok (.if_icmp .gt 26, 3) := by decide +kernel
theorem d_Sh_hasPlaces_16 : decode prog_7_method_10_code 16 = .ok (.iload_n 2, 1) := by decide +kernel
theorem d_Sh_hasPlaces_17 : decode prog_7_method_10_code 17 = .ok (.aload_n 0, 1) := by decide +kernel
theorem d_Sh_hasPlaces_18 : decode prog_7_method_10_code 18 = .ok (.getfield 25, 3) := by decide +kernel
theorem d_Sh_hasPlaces_21 : decode prog_7_method_10_code 21 = .ok (.iload_n 1, 1) := by decide +kernel
theorem d_Sh_hasPlaces_22 : decode prog_7_method_10_code 22 = .ok (.isub, 1) := by decide +kernel
theorem d_Sh_hasPlaces_23 : decode prog_7_method_10_code 23 = .ok (.if_icmp .gt 16, 3) := by decide +kernel
theorem d_Sh_hasPlaces_26 : decode prog_7_method_10_code 26 = .ok (.aload_n 0, 1) := by decide +kernel
theorem d_Sh_hasPlaces_27 : decode prog_7_method_10_code 27 = .ok (.getfield 25, 3) := by decide +kernel
theorem d_Sh_hasPlaces_30 : decode prog_7_method_10_code 30 = .ok (.bipush 60, 2) := by decide +kernel
theorem d_Sh_hasPlaces_32 : decode prog_7_method_10_code 32 = .ok (.if_icmp .gt 7, 3) := by decide +kernel
theorem d_Sh_hasPlaces_35 : decode prog_7_method_10_code 35 = .ok (.iconst 1, 1) := by decide +kernel
theorem d_Sh_hasPlaces_36 : decode prog_7_method_10_code 36 = .ok (.goto 4, 3) := by decide +kernel
theorem d_Sh_hasPlaces_39 : decode prog_7_method_10_code 39 = .ok (.iconst 0, 1) := by decide +kernel
theorem d_Sh_hasPlaces_40 : decode prog_7_method_10_code 40 = .ok (.ireturn, 1) := by decide +kernel
def f_Sh_hasPlaces  (p1 : Int32) (p2 : Int32) (x_o_length : Int32) : Option (Bool) :=
  if p1 < 0 then
    (some (false))
  else
    (if p2 < 0 then
      (some (false))
    else
      (if x_o_length < p1 then
        (some (false))
      else
        (if (x_o_length - p1) < p2 then
          (some (false))
        else
          (if (60 : Int32) < x_o_length then
            (some (false))
          else
            (some (true))))))
set_option maxRecDepth 20000 in
theorem c_Sh_hasPlaces {l : Launch} {D : va_G} {dA : Nat → ClassId} {a_o a_o_elements : Nat} {x_o_holds : Int32} {x_o_body : Int32} {x_o_sort : Int32} {p1 : Int32} {p2 : Int32} {x_o_length : Int32} {r0 : Bool}   (hf : f_Sh_hasPlaces  p1 p2 x_o_length = some r0) : CT l y_Sh_hasPlaces prog_7_method_10_code 3 (some .boolean) { frames := 0, cells := 0, slots := 0, locals := 0 } D dA [.ref a_o, .int p1, .int p2] [O_Sh a_o x_o_holds x_o_body x_o_sort x_o_length a_o_elements] (some (.int (b2i r0))) (fun _ : Unit => [O_Sh a_o x_o_holds x_o_body x_o_sort x_o_length a_o_elements]) := by
  refine ct_intro "OneLamp$Shelf" rfl (by decide +kernel) (Nat.le_of_ble_eq_true rfl) [(0, .ref a_o), (1, .int p1), (2, .int p2)] rfl (fun _ C => ?_)
  unfold f_Sh_hasPlaces at hf
  refine g_iload_n (pc' := 1) C 1 d_Sh_hasPlaces_0 rfl rfl ?_
  refine g_if_lt (pc' := 4) (tgt := 39) C d_Sh_hasPlaces_1 rfl rfl (fun h => ?_) (fun h => ?_)
  · replace hf := g_ip h hf
    refine g_iconst (pc' := 40) (v := 0) C d_Sh_hasPlaces_39 rfl rfl ?_
    replace hf := Option.some.inj hf; subst hf
    exact g_zret C d_Sh_hasPlaces_40 () rfl
  · replace hf := g_in h hf
    refine g_iload_n (pc' := 5) C 2 d_Sh_hasPlaces_4 rfl rfl ?_
    refine g_if_lt (pc' := 8) (tgt := 39) C d_Sh_hasPlaces_5 rfl rfl (fun h => ?_) (fun h => ?_)
    · replace hf := g_ip h hf
      refine g_iconst (pc' := 40) (v := 0) C d_Sh_hasPlaces_39 rfl rfl ?_
      replace hf := Option.some.inj hf; subst hf
      exact g_zret C d_Sh_hasPlaces_40 () rfl
    · replace hf := g_in h hf
      refine g_iload_n (pc' := 9) C 1 d_Sh_hasPlaces_8 rfl rfl ?_
      refine g_aload_n (pc' := 10) C 0 d_Sh_hasPlaces_9 rfl rfl ?_
      refine g_get (pc' := 13) C kf_Sh 3 mw_2_31 d_Sh_hasPlaces_10 rfl 0 rfl (by decide) rfl ?_
      refine g_icmp_gt (pc' := 16) (tgt := 39) C d_Sh_hasPlaces_13 rfl rfl (fun h => ?_) (fun h => ?_)
      · replace hf := g_ip h hf
        refine g_iconst (pc' := 40) (v := 0) C d_Sh_hasPlaces_39 rfl rfl ?_
        replace hf := Option.some.inj hf; subst hf
        exact g_zret C d_Sh_hasPlaces_40 () rfl
      · replace hf := g_in h hf
        refine g_iload_n (pc' := 17) C 2 d_Sh_hasPlaces_16 rfl rfl ?_
        refine g_aload_n (pc' := 18) C 0 d_Sh_hasPlaces_17 rfl rfl ?_
        refine g_get (pc' := 21) C kf_Sh 3 mw_2_31 d_Sh_hasPlaces_18 rfl 0 rfl (by decide) rfl ?_
        refine g_iload_n (pc' := 22) C 1 d_Sh_hasPlaces_21 rfl rfl ?_
        refine g_isub (pc' := 23) C d_Sh_hasPlaces_22 rfl ?_
        refine g_icmp_gt (pc' := 26) (tgt := 39) C d_Sh_hasPlaces_23 rfl rfl (fun h => ?_) (fun h => ?_)
        · replace hf := g_ip h hf
          refine g_iconst (pc' := 40) (v := 0) C d_Sh_hasPlaces_39 rfl rfl ?_
          replace hf := Option.some.inj hf; subst hf
          exact g_zret C d_Sh_hasPlaces_40 () rfl
        · replace hf := g_in h hf
          refine g_aload_n (pc' := 27) C 0 d_Sh_hasPlaces_26 rfl rfl ?_
          refine g_get (pc' := 30) C kf_Sh 3 mw_2_31 d_Sh_hasPlaces_27 rfl 0 rfl (by decide) rfl ?_
          refine g_bipush (pc' := 32) (v := 60) C d_Sh_hasPlaces_30 rfl rfl ?_
          refine g_icmp_gt (pc' := 35) (tgt := 39) C d_Sh_hasPlaces_32 rfl rfl (fun h => ?_) (fun h => ?_)
          · replace hf := g_ip h hf
            refine g_iconst (pc' := 40) (v := 0) C d_Sh_hasPlaces_39 rfl rfl ?_
            replace hf := Option.some.inj hf; subst hf
            exact g_zret C d_Sh_hasPlaces_40 () rfl
          · replace hf := g_in h hf
            refine g_iconst (pc' := 36) (v := 1) C d_Sh_hasPlaces_35 rfl rfl ?_
            refine g_goto (tgt := 40) C d_Sh_hasPlaces_36 rfl ?_
            replace hf := Option.some.inj hf; subst hf
            exact g_zret C d_Sh_hasPlaces_40 () rfl
def y_Sh_elementAt : MethodName := ⟨"OneLamp$Shelf", "elementAt", "(I)J"⟩
theorem yy_Sh_elementAt : YV y_Sh_elementAt prog_7_method_11_code 2 (some .long) 1 := ⟨mw_2_117, mw_1_11, mw_2_115, mw_2_116, by decide +kernel, by decide +kernel, by decide +kernel⟩
theorem d_Sh_elementAt_0 : decode prog_7_method_11_code 0 = .ok (.aload_n 0, 1) := by decide +kernel
theorem d_Sh_elementAt_1 : decode prog_7_method_11_code 1 = .ok (.iload_n 1, 1) := by decide +kernel
theorem d_Sh_elementAt_2 : decode prog_7_method_11_code 2 = .ok (.invokevirtual 34, 3) := by decide +kernel
theorem d_Sh_elementAt_5 : decode prog_7_method_11_code 5 = .ok (.ifCond .eq 12, 3) := by decide +kernel
theorem d_Sh_elementAt_8 : decode prog_7_method_11_code 8 = .ok (.aload_n 0, 1) := by decide +kernel
theorem d_Sh_elementAt_9 : decode prog_7_method_11_code 9 = .ok (.getfield 9, 3) := by decide +kernel
theorem d_Sh_elementAt_12 : decode prog_7_method_11_code 12 = .ok (.iload_n 1, 1) := by decide +kernel
theorem d_Sh_elementAt_13 : decode prog_7_method_11_code 13 = .ok (.laload, 1) := by decide +kernel
theorem d_Sh_elementAt_14 : decode prog_7_method_11_code 14 = .ok (.goto 4, 3) := by decide +kernel
theorem d_Sh_elementAt_17 : decode prog_7_method_11_code 17 = .ok (.lconst 0, 1) := by decide +kernel
theorem d_Sh_elementAt_18 : decode prog_7_method_11_code 18 = .ok (.lreturn, 1) := by decide +kernel
def f_Sh_elementAt  (p1 : Int32) (x_o_holds : Int32) (x_o_length : Int32) (x_o_elements : Nat → Int64) : Option (Int64) :=
  (f_Sh_hasPlace  p1 x_o_holds x_o_length).bind fun r1 =>
  if r1 = true then
    (if p1 < 0 ∨ 60 ≤ Int32.toNatClampNeg p1 then none else
    some ((x_o_elements (Int32.toNatClampNeg p1))))
  else
    (some ((0 : Int64)))
set_option maxRecDepth 20000 in
theorem c_Sh_elementAt {l : Launch} {D : va_G} {dA : Nat → ClassId} {a_o a_o_elements : Nat} {x_o_body : Int32} {x_o_sort : Int32} {p1 : Int32} {x_o_holds : Int32} {x_o_length : Int32} {x_o_elements : Nat → Int64} {r0 : Int64}   (hf : f_Sh_elementAt  p1 x_o_holds x_o_length x_o_elements = some r0) : CT l y_Sh_elementAt prog_7_method_11_code 2 (some .long) { frames := 1, cells := 0, slots := 0, locals := 21 } D dA [.ref a_o, .int p1] [O_Sh a_o x_o_holds x_o_body x_o_sort x_o_length a_o_elements, A_J dA a_o_elements 60 x_o_elements] (some (.long r0)) (fun _ : Unit => [O_Sh a_o x_o_holds x_o_body x_o_sort x_o_length a_o_elements, A_J dA a_o_elements 60 x_o_elements]) := by
  refine ct_intro "OneLamp$Shelf" rfl (by decide +kernel) (Nat.le_of_ble_eq_true rfl) [(0, .ref a_o), (1, .int p1)] rfl (fun _ C => ?_)
  unfold f_Sh_elementAt at hf
  refine g_aload_n (pc' := 1) C 0 d_Sh_elementAt_0 rfl rfl ?_
  refine g_iload_n (pc' := 2) C 1 d_Sh_elementAt_1 rfl rfl ?_
  replace hf := g_bi hf; obtain ⟨r1, hc2, hf⟩ := hf
  refine g_callV (pc' := 5) (st1 := [.int (b2i r1)]) (ws1 := [O_Sh a_o x_o_holds x_o_body x_o_sort x_o_length a_o_elements, A_J dA a_o_elements 60 x_o_elements]) C (c_Sh_hasPlace (l := l) (D := D) (dA := dA) (a_o := a_o) (a_o_elements := a_o_elements) (x_o_body := x_o_body) (x_o_sort := x_o_sort)   hc2) yy_Sh_hasPlace kf_Sh rfl mw_2_118 d_Sh_elementAt_2 rfl [] rfl rfl (Nat.le_of_ble_eq_true rfl) ⟨Nat.le_of_ble_eq_true rfl, Nat.le_of_ble_eq_true rfl⟩ rfl rfl (Nat.zero_le _) (Nat.zero_le _) 0 rfl [0] rfl (by decide +kernel) rfl (g_lay_sel _ _ _ _ [(0, true), (1, false)] (by decide +kernel) rfl (by decide +kernel) rfl rfl) rfl ?_
  refine g_if_eqb (pc' := 8) (tgt := 17) C d_Sh_elementAt_5 rfl rfl (fun h => ?_) (fun h => ?_)
  · replace hf := g_bf h hf
    refine g_lconst (pc' := 18) (v := 0) C d_Sh_elementAt_17 rfl rfl ?_
    replace hf := Option.some.inj hf; subst hf
    exact g_lret C d_Sh_elementAt_18 () rfl
  · replace hf := g_bt h hf
    refine g_aload_n (pc' := 9) C 0 d_Sh_elementAt_8 rfl rfl ?_
    refine g_get (pc' := 12) C kf_Sh 4 mw_2_32 d_Sh_elementAt_9 rfl 0 rfl (by decide) rfl ?_
    refine g_iload_n (pc' := 13) C 1 d_Sh_elementAt_12 rfl rfl ?_
    have hb := g_ck hf
    replace hf := g_in hb hf
    refine g_lald (pc' := 14) C d_Sh_elementAt_13 rfl 1 rfl hb ?_
    refine g_goto (tgt := 18) C d_Sh_elementAt_14 rfl ?_
    replace hf := Option.some.inj hf; subst hf
    exact g_lret C d_Sh_elementAt_18 () rfl
def y_Sh_narrowed : MethodName := ⟨"OneLamp$Shelf", "narrowed", "(J)J"⟩
theorem yy_Sh_narrowed : YV y_Sh_narrowed prog_7_method_13_code 3 (some .long) 1 := ⟨mw_4_97, mw_1_11, mw_4_96, tm_s (y := y_Sh_narrowed) (n := 5) (by decide +kernel), by decide +kernel, by decide +kernel, by decide +kernel⟩
theorem d_Sh_narrowed_0 : decode prog_7_method_13_code 0 = .ok (.aload_n 0, 1) := by decide +kernel
theorem d_Sh_narrowed_1 : decode prog_7_method_13_code 1 = .ok (.getfield 19, 3) := by decide +kernel
theorem d_Sh_narrowed_4 : decode prog_7_method_13_code 4 = .ok (.tableswitch 62 0 4 #[36, 41, 46, 62, 50], 36) := by decide +kernel
theorem d_Sh_narrowed_40 : decode prog_7_method_13_code 40 = .ok (.lload_n 1, 1) := by decide +kernel
theorem d_Sh_narrowed_41 : decode prog_7_method_13_code 41 = .ok (.l2i, 1) := by decide +kernel
theorem d_Sh_narrowed_42 : decode prog_7_method_13_code 42 = .ok (.i2b, 1) := by decide +kernel
theorem d_Sh_narrowed_43 : decode prog_7_method_13_code 43 = .ok (.i2l, 1) := by decide +kernel
theorem d_Sh_narrowed_44 : decode prog_7_method_13_code 44 = .ok (.lreturn, 1) := by decide +kernel
theorem d_Sh_narrowed_45 : decode prog_7_method_13_code 45 = .ok (.lload_n 1, 1) := by decide +kernel
theorem d_Sh_narrowed_46 : decode prog_7_method_13_code 46 = .ok (.l2i, 1) := by decide +kernel
theorem d_Sh_narrowed_47 : decode prog_7_method_13_code 47 = .ok (.i2s, 1) := by decide +kernel
theorem d_Sh_narrowed_48 : decode prog_7_method_13_code 48 = .ok (.i2l, 1) := by decide +kernel
theorem d_Sh_narrowed_49 : decode prog_7_method_13_code 49 = .ok (.lreturn, 1) := by decide +kernel
theorem d_Sh_narrowed_50 : decode prog_7_method_13_code 50 = .ok (.lload_n 1, 1) := by decide +kernel
theorem d_Sh_narrowed_51 : decode prog_7_method_13_code 51 = .ok (.l2i, 1) := by decide +kernel
theorem d_Sh_narrowed_52 : decode prog_7_method_13_code 52 = .ok (.i2l, 1) := by decide +kernel
theorem d_Sh_narrowed_53 : decode prog_7_method_13_code 53 = .ok (.lreturn, 1) := by decide +kernel
theorem d_Sh_narrowed_54 : decode prog_7_method_13_code 54 = .ok (.lload_n 1, 1) := by decide +kernel
theorem d_Sh_narrowed_55 : decode prog_7_method_13_code 55 = .ok (.lconst 0, 1) := by decide +kernel
theorem d_Sh_narrowed_56 : decode prog_7_method_13_code 56 = .ok (.lcmp, 1) := by decide +kernel
theorem d_Sh_narrowed_57 : decode prog_7_method_13_code 57 = .ok (.ifCond .eq 7, 3) := by decide +kernel
theorem d_Sh_narrowed_60 : decode prog_7_method_13_code 60 = .ok (.lconst 1, 1) := by decide +kernel
theorem d_Sh_narrowed_61 : decode prog_7_method_13_code 61 = .ok (.goto 4, 3) := by decide +kernel
theorem d_Sh_narrowed_64 : decode prog_7_method_13_code 64 = .ok (.lconst 0, 1) := by decide +kernel
theorem d_Sh_narrowed_65 : decode prog_7_method_13_code 65 = .ok (.lreturn, 1) := by decide +kernel
theorem d_Sh_narrowed_66 : decode prog_7_method_13_code 66 = .ok (.lload_n 1, 1) := by decide +kernel
theorem d_Sh_narrowed_67 : decode prog_7_method_13_code 67 = .ok (.lreturn, 1) := by decide +kernel
def f_Sh_narrowed  (p1 : Int64) (x_o_sort : Int32) : Option (Int64) :=
  if x_o_sort = 0 then
    (some ((Int32.toInt64 (Int8.toInt32 (Int32.toInt8 (Int64.toInt32 p1))))))
  else
  (if x_o_sort = 1 then
    (some ((Int32.toInt64 (Int16.toInt32 (Int32.toInt16 (Int64.toInt32 p1))))))
  else
  (if x_o_sort = 2 then
    (some ((Int32.toInt64 (Int64.toInt32 p1))))
  else
  (if x_o_sort = 4 then
    (if (lg_cmp p1 (0 : Int64)) = 0 then
      (some ((0 : Int64)))
    else
      (some ((1 : Int64))))
  else
  (some (p1)))))
set_option maxRecDepth 20000 in
theorem c_Sh_narrowed {l : Launch} {D : va_G} {dA : Nat → ClassId} {a_o a_o_elements : Nat} {x_o_holds : Int32} {x_o_body : Int32} {x_o_length : Int32} {p1 : Int64} {x_o_sort : Int32} {r0 : Int64}   (hf : f_Sh_narrowed  p1 x_o_sort = some r0) : CT l y_Sh_narrowed prog_7_method_13_code 3 (some .long) { frames := 0, cells := 0, slots := 0, locals := 0 } D dA [.ref a_o, .long p1] [O_Sh a_o x_o_holds x_o_body x_o_sort x_o_length a_o_elements] (some (.long r0)) (fun _ : Unit => [O_Sh a_o x_o_holds x_o_body x_o_sort x_o_length a_o_elements]) := by
  refine ct_intro "OneLamp$Shelf" rfl (by decide +kernel) (Nat.le_of_ble_eq_true rfl) [(0, .ref a_o), (1, .long p1)] rfl (fun _ C => ?_)
  unfold f_Sh_narrowed at hf
  refine g_aload_n (pc' := 1) C 0 d_Sh_narrowed_0 rfl rfl ?_
  refine g_get (pc' := 4) C kf_Sh 2 mw_2_28 d_Sh_narrowed_1 rfl 0 rfl (by decide) rfl ?_
  by_cases q0 : x_o_sort = 0
  · replace hf := g_ip q0 hf
    have e : (x_o_sort : Int32).toInt = 0 := by rw [q0]; rfl
    refine g_tableIn (off := 36) (tgt := 40) C d_Sh_narrowed_4 (by rw [e]; decide) (by rw [e]; decide) (by rw [e]; rfl) rfl ?_
    refine g_lload_n (pc' := 41) C 1 d_Sh_narrowed_40 rfl rfl ?_
    refine g_l2i (pc' := 42) C d_Sh_narrowed_41 rfl ?_
    refine g_i2b (pc' := 43) C d_Sh_narrowed_42 rfl ?_
    refine g_i2l (pc' := 44) C d_Sh_narrowed_43 rfl ?_
    replace hf := Option.some.inj hf; subst hf
    exact g_lret C d_Sh_narrowed_44 () rfl
  replace hf := g_in q0 hf
  by_cases q1 : x_o_sort = 1
  · replace hf := g_ip q1 hf
    have e : (x_o_sort : Int32).toInt = 1 := by rw [q1]; rfl
    refine g_tableIn (off := 41) (tgt := 45) C d_Sh_narrowed_4 (by rw [e]; decide) (by rw [e]; decide) (by rw [e]; rfl) rfl ?_
    refine g_lload_n (pc' := 46) C 1 d_Sh_narrowed_45 rfl rfl ?_
    refine g_l2i (pc' := 47) C d_Sh_narrowed_46 rfl ?_
    refine g_i2s (pc' := 48) C d_Sh_narrowed_47 rfl ?_
    refine g_i2l (pc' := 49) C d_Sh_narrowed_48 rfl ?_
    replace hf := Option.some.inj hf; subst hf
    exact g_lret C d_Sh_narrowed_49 () rfl
  replace hf := g_in q1 hf
  by_cases q2 : x_o_sort = 2
  · replace hf := g_ip q2 hf
    have e : (x_o_sort : Int32).toInt = 2 := by rw [q2]; rfl
    refine g_tableIn (off := 46) (tgt := 50) C d_Sh_narrowed_4 (by rw [e]; decide) (by rw [e]; decide) (by rw [e]; rfl) rfl ?_
    refine g_lload_n (pc' := 51) C 1 d_Sh_narrowed_50 rfl rfl ?_
    refine g_l2i (pc' := 52) C d_Sh_narrowed_51 rfl ?_
    refine g_i2l (pc' := 53) C d_Sh_narrowed_52 rfl ?_
    replace hf := Option.some.inj hf; subst hf
    exact g_lret C d_Sh_narrowed_53 () rfl
  replace hf := g_in q2 hf
  by_cases q3 : x_o_sort = 4
  · replace hf := g_ip q3 hf
    have e : (x_o_sort : Int32).toInt = 4 := by rw [q3]; rfl
    refine g_tableIn (off := 50) (tgt := 54) C d_Sh_narrowed_4 (by rw [e]; decide) (by rw [e]; decide) (by rw [e]; rfl) rfl ?_
    refine g_lload_n (pc' := 55) C 1 d_Sh_narrowed_54 rfl rfl ?_
    refine g_lconst (pc' := 56) (v := 0) C d_Sh_narrowed_55 rfl rfl ?_
    refine g_lcmp (pc' := 57) C d_Sh_narrowed_56 rfl ?_
    refine g_if_eq (pc' := 60) (tgt := 64) C d_Sh_narrowed_57 rfl rfl (fun h => ?_) (fun h => ?_)
    · replace hf := g_ip h hf
      refine g_lconst (pc' := 65) (v := 0) C d_Sh_narrowed_64 rfl rfl ?_
      replace hf := Option.some.inj hf; subst hf
      exact g_lret C d_Sh_narrowed_65 () rfl
    · replace hf := g_in h hf
      refine g_lconst (pc' := 61) (v := 1) C d_Sh_narrowed_60 rfl rfl ?_
      refine g_goto (tgt := 65) C d_Sh_narrowed_61 rfl ?_
      replace hf := Option.some.inj hf; subst hf
      exact g_lret C d_Sh_narrowed_65 () rfl
  replace hf := g_in q3 hf
  by_cases m3 : x_o_sort = 3
  · have e : (x_o_sort : Int32).toInt = 3 := by rw [m3]; rfl
    refine g_tableIn (off := 62) (tgt := 66) C d_Sh_narrowed_4 (by rw [e]; decide) (by rw [e]; decide) (by rw [e]; rfl) rfl ?_
    refine g_lload_n (pc' := 67) C 1 d_Sh_narrowed_66 rfl rfl ?_
    replace hf := Option.some.inj hf; subst hf
    exact g_lret C d_Sh_narrowed_67 () rfl
  refine g_tableOut (tgt := 66) C d_Sh_narrowed_4 (by have e0 := lv_neT q0 (show (0 : Int32).toInt = 0 from rfl); have e1 := lv_neT q1 (show (1 : Int32).toInt = 1 from rfl); have e2 := lv_neT q2 (show (2 : Int32).toInt = 2 from rfl); have e4 := lv_neT q3 (show (4 : Int32).toInt = 4 from rfl); have e2003 := lv_neT m3 (show (3 : Int32).toInt = 3 from rfl); omega) rfl ?_
  refine g_lload_n (pc' := 67) C 1 d_Sh_narrowed_66 rfl rfl ?_
  replace hf := Option.some.inj hf; subst hf
  exact g_lret C d_Sh_narrowed_67 () rfl
def y_Sh_write : MethodName := ⟨"OneLamp$Shelf", "write", "(IJ)V"⟩
theorem yy_Sh_write : YV y_Sh_write prog_7_method_12_code 4 none 2 := ⟨mw_4_93, mw_1_11, mw_4_91, mw_4_92, by decide +kernel, by decide +kernel, by decide +kernel⟩
theorem d_Sh_write_0 : decode prog_7_method_12_code 0 = .ok (.aload_n 0, 1) := by decide +kernel
theorem d_Sh_write_1 : decode prog_7_method_12_code 1 = .ok (.iload_n 1, 1) := by decide +kernel
theorem d_Sh_write_2 : decode prog_7_method_12_code 2 = .ok (.invokevirtual 34, 3) := by decide +kernel
theorem d_Sh_write_5 : decode prog_7_method_12_code 5 = .ok (.ifCond .eq 14, 3) := by decide +kernel
theorem d_Sh_write_8 : decode prog_7_method_12_code 8 = .ok (.aload_n 0, 1) := by decide +kernel
theorem d_Sh_write_9 : decode prog_7_method_12_code 9 = .ok (.getfield 9, 3) := by decide +kernel
theorem d_Sh_write_12 : decode prog_7_method_12_code 12 = .ok (.iload_n 1, 1) := by decide +kernel
theorem d_Sh_write_13 : decode prog_7_method_12_code 13 = .ok (.aload_n 0, 1) := by decide +kernel
theorem d_Sh_write_14 : decode prog_7_method_12_code 14 = .ok (.lload_n 2, 1) := by decide +kernel
theorem d_Sh_write_15 : decode prog_7_method_12_code 15 = .ok (.invokevirtual 38, 3) := by decide +kernel
theorem d_Sh_write_18 : decode prog_7_method_12_code 18 = .ok (.lastore, 1) := by decide +kernel
theorem d_Sh_write_19 : decode prog_7_method_12_code 19 = .ok (.return_, 1) := by decide +kernel
def f_Sh_write  (p1 : Int32) (p2 : Int64) (x_o_holds : Int32) (x_o_sort : Int32) (x_o_length : Int32) (x_o_elements : Nat → Int64) : Option ((Nat → Int64)) :=
  (f_Sh_hasPlace  p1 x_o_holds x_o_length).bind fun r1 =>
  if r1 = true then
    ((f_Sh_narrowed  p2 x_o_sort).bind fun r3 =>
    if p1 < 0 ∨ 60 ≤ Int32.toNatClampNeg p1 then none else
    some ((vp_updL x_o_elements (Int32.toNatClampNeg p1) r3)))
  else
    (some (x_o_elements))
set_option maxRecDepth 20000 in
theorem c_Sh_write {l : Launch} {D : va_G} {dA : Nat → ClassId} {a_o a_o_elements : Nat} {x_o_body : Int32} {p1 : Int32} {p2 : Int64} {x_o_holds : Int32} {x_o_sort : Int32} {x_o_length : Int32} {x_o_elements : Nat → Int64} {o_x_o_elements : Nat → Int64}   (hf : f_Sh_write  p1 p2 x_o_holds x_o_sort x_o_length x_o_elements = some o_x_o_elements) : CT l y_Sh_write prog_7_method_12_code 4 none { frames := 1, cells := 0, slots := 0, locals := 22 } D dA [.ref a_o, .int p1, .long p2] [O_Sh a_o x_o_holds x_o_body x_o_sort x_o_length a_o_elements, A_J dA a_o_elements 60 x_o_elements] none (fun _ : Unit => [O_Sh a_o x_o_holds x_o_body x_o_sort x_o_length a_o_elements, A_J dA a_o_elements 60 o_x_o_elements]) := by
  refine ct_intro "OneLamp$Shelf" rfl (by decide +kernel) (Nat.le_of_ble_eq_true rfl) [(0, .ref a_o), (1, .int p1), (2, .long p2)] rfl (fun _ C => ?_)
  unfold f_Sh_write at hf
  refine g_aload_n (pc' := 1) C 0 d_Sh_write_0 rfl rfl ?_
  refine g_iload_n (pc' := 2) C 1 d_Sh_write_1 rfl rfl ?_
  replace hf := g_bi hf; obtain ⟨r1, hc2, hf⟩ := hf
  refine g_callV (pc' := 5) (st1 := [.int (b2i r1)]) (ws1 := [O_Sh a_o x_o_holds x_o_body x_o_sort x_o_length a_o_elements, A_J dA a_o_elements 60 x_o_elements]) C (c_Sh_hasPlace (l := l) (D := D) (dA := dA) (a_o := a_o) (a_o_elements := a_o_elements) (x_o_body := x_o_body) (x_o_sort := x_o_sort)   hc2) yy_Sh_hasPlace kf_Sh rfl mw_2_118 d_Sh_write_2 rfl [] rfl rfl (Nat.le_of_ble_eq_true rfl) ⟨Nat.le_of_ble_eq_true rfl, Nat.le_of_ble_eq_true rfl⟩ rfl rfl (Nat.zero_le _) (Nat.zero_le _) 0 rfl [0] rfl (by decide +kernel) rfl (g_lay_sel _ _ _ _ [(0, true), (1, false)] (by decide +kernel) rfl (by decide +kernel) rfl rfl) rfl ?_
  refine g_if_eqb (pc' := 8) (tgt := 19) C d_Sh_write_5 rfl rfl (fun h => ?_) (fun h => ?_)
  · replace hf := g_bf h hf
    replace hf := Option.some.inj hf; subst hf
    exact g_vret C d_Sh_write_19 () rfl
  · replace hf := g_bt h hf
    refine g_aload_n (pc' := 9) C 0 d_Sh_write_8 rfl rfl ?_
    refine g_get (pc' := 12) C kf_Sh 4 mw_2_32 d_Sh_write_9 rfl 0 rfl (by decide) rfl ?_
    refine g_iload_n (pc' := 13) C 1 d_Sh_write_12 rfl rfl ?_
    refine g_aload_n (pc' := 14) C 0 d_Sh_write_13 rfl rfl ?_
    refine g_lload_n (pc' := 15) C 2 d_Sh_write_14 rfl rfl ?_
    replace hf := g_bi hf; obtain ⟨r3, hc4, hf⟩ := hf
    refine g_callV (pc' := 18) (st1 := [.long r3, .int p1, .ref a_o_elements]) (ws1 := [O_Sh a_o x_o_holds x_o_body x_o_sort x_o_length a_o_elements, A_J dA a_o_elements 60 x_o_elements]) C (c_Sh_narrowed (l := l) (D := D) (dA := dA) (a_o := a_o) (a_o_elements := a_o_elements) (x_o_holds := x_o_holds) (x_o_body := x_o_body) (x_o_length := x_o_length)   hc4) yy_Sh_narrowed kf_Sh rfl mw_4_94 d_Sh_write_15 rfl [.int p1, .ref a_o_elements] rfl rfl (Nat.le_of_ble_eq_true rfl) ⟨Nat.le_of_ble_eq_true rfl, Nat.le_of_ble_eq_true rfl⟩ rfl rfl (Nat.zero_le _) (Nat.zero_le _) 0 rfl [0] rfl (by decide +kernel) rfl (g_lay_sel _ _ _ _ [(0, true), (1, false)] (by decide +kernel) rfl (by decide +kernel) rfl rfl) rfl ?_
    have hb := g_ck hf
    replace hf := g_in hb hf
    refine g_last (pc' := 19) (ws' := [O_Sh a_o x_o_holds x_o_body x_o_sort x_o_length a_o_elements, A_J dA a_o_elements 60 (vp_updL x_o_elements (Int32.toNatClampNeg p1) r3)]) C d_Sh_write_18 rfl 1 rfl hb rfl ?_
    replace hf := Option.some.inj hf; subst hf
    exact g_vret C d_Sh_write_19 () rfl
def y_Sh_take : MethodName := ⟨"OneLamp$Shelf", "take", "(LOneLamp$Shelf;III)V"⟩
theorem yy_Sh_take : YV y_Sh_take prog_7_method_14_code 5 none 4 := ⟨mw_4_114, mw_1_11, mw_4_112, mw_4_113, by decide +kernel, by decide +kernel, by decide +kernel⟩
theorem d_Sh_take_0 : decode prog_7_method_14_code 0 = .ok (.aload_n 1, 1) := by decide +kernel
theorem d_Sh_take_1 : decode prog_7_method_14_code 1 = .ok (.iload_n 2, 1) := by decide +kernel
theorem d_Sh_take_2 : decode prog_7_method_14_code 2 = .ok (.iload 4, 2) := by decide +kernel
theorem d_Sh_take_4 : decode prog_7_method_14_code 4 = .ok (.invokevirtual 42, 3) := by decide +kernel
theorem d_Sh_take_7 : decode prog_7_method_14_code 7 = .ok (.ifCond .eq 28, 3) := by decide +kernel
theorem d_Sh_take_10 : decode prog_7_method_14_code 10 = .ok (.aload_n 0, 1) := by decide +kernel
theorem d_Sh_take_11 : decode prog_7_method_14_code 11 = .ok (.iload_n 3, 1) := by decide +kernel
theorem d_Sh_take_12 : decode prog_7_method_14_code 12 = .ok (.iload 4, 2) := by decide +kernel
theorem d_Sh_take_14 : decode prog_7_method_14_code 14 = .ok (.invokevirtual 42, 3) := by decide +kernel
theorem d_Sh_take_17 : decode prog_7_method_14_code 17 = .ok (.ifCond .eq 18, 3) := by decide +kernel
theorem d_Sh_take_20 : decode prog_7_method_14_code 20 = .ok (.aload_n 1, 1) := by decide +kernel
theorem d_Sh_take_21 : decode prog_7_method_14_code 21 = .ok (.getfield 9, 3) := by decide +kernel
theorem d_Sh_take_24 : decode prog_7_method_14_code 24 = .ok (.iload_n 2, 1) := by decide +kernel
theorem d_Sh_take_25 : decode prog_7_method_14_code 25 = .ok (.aload_n 0, 1) := by decide +kernel
theorem d_Sh_take_26 : decode prog_7_method_14_code 26 = .ok (.getfield 9, 3) := by decide +kernel
theorem d_Sh_take_29 : decode prog_7_method_14_code 29 = .ok (.iload_n 3, 1) := by decide +kernel
theorem d_Sh_take_30 : decode prog_7_method_14_code 30 = .ok (.iload 4, 2) := by decide +kernel
theorem d_Sh_take_32 : decode prog_7_method_14_code 32 = .ok (.invokestatic 46, 3) := by decide +kernel
theorem d_Sh_take_35 : decode prog_7_method_14_code 35 = .ok (.return_, 1) := by decide +kernel
def f_Sh_take  (p2 : Int32) (p3 : Int32) (p4 : Int32) (x_p1_length : Int32) (x_o_length : Int32) (x_p1_elements : Nat → Int64) (x_o_elements : Nat → Int64) : Option ((Nat → Int64)) :=
  (f_Sh_hasPlaces  p2 p4 x_p1_length).bind fun r1 =>
  if r1 = true then
    ((f_Sh_hasPlaces  p3 p4 x_o_length).bind fun r3 =>
    if r3 = true then
      (if p2 < 0 ∨ p3 < 0 ∨ p4 < 0 ∨ 60 < Int32.toNatClampNeg p2 + Int32.toNatClampNeg p4 ∨ 60 < Int32.toNatClampNeg p3 + Int32.toNatClampNeg p4 then none else
      some ((va_cpy x_p1_elements x_o_elements (Int32.toNatClampNeg p2) (Int32.toNatClampNeg p3) (Int32.toNatClampNeg p4))))
    else
      (some (x_o_elements)))
  else
    (some (x_o_elements))
set_option maxRecDepth 20000 in
theorem c_Sh_take {l : Launch} {D : va_G} {dA : Nat → ClassId} {a_o a_p1 a_p1_elements a_o_elements : Nat} {x_p1_holds : Int32} {x_p1_body : Int32} {x_p1_sort : Int32} {x_o_holds : Int32} {x_o_body : Int32} {x_o_sort : Int32} {p2 : Int32} {p3 : Int32} {p4 : Int32} {x_p1_length : Int32} {x_o_length : Int32} {x_p1_elements : Nat → Int64} {x_o_elements : Nat → Int64} {o_x_o_elements : Nat → Int64}   (hf : f_Sh_take  p2 p3 p4 x_p1_length x_o_length x_p1_elements x_o_elements = some o_x_o_elements) : CT l y_Sh_take prog_7_method_14_code 5 none { frames := 1, cells := 0, slots := 0, locals := 40 } D dA [.ref a_o, .ref a_p1, .int p2, .int p3, .int p4] [O_Sh a_p1 x_p1_holds x_p1_body x_p1_sort x_p1_length a_p1_elements, O_Sh a_o x_o_holds x_o_body x_o_sort x_o_length a_o_elements, A_J dA a_p1_elements 60 x_p1_elements, A_J dA a_o_elements 60 x_o_elements] none (fun _ : Unit => [O_Sh a_p1 x_p1_holds x_p1_body x_p1_sort x_p1_length a_p1_elements, O_Sh a_o x_o_holds x_o_body x_o_sort x_o_length a_o_elements, A_J dA a_p1_elements 60 x_p1_elements, A_J dA a_o_elements 60 o_x_o_elements]) := by
  refine ct_intro "OneLamp$Shelf" rfl (by decide +kernel) (Nat.le_of_ble_eq_true rfl) [(0, .ref a_o), (1, .ref a_p1), (2, .int p2), (3, .int p3), (4, .int p4)] rfl (fun _ C => ?_)
  unfold f_Sh_take at hf
  refine g_aload_n (pc' := 1) C 1 d_Sh_take_0 rfl rfl ?_
  refine g_iload_n (pc' := 2) C 2 d_Sh_take_1 rfl rfl ?_
  refine g_iload (pc' := 4) C 4 d_Sh_take_2 rfl rfl ?_
  replace hf := g_bi hf; obtain ⟨r1, hc2, hf⟩ := hf
  refine g_callV (pc' := 7) (st1 := [.int (b2i r1)]) (ws1 := [O_Sh a_p1 x_p1_holds x_p1_body x_p1_sort x_p1_length a_p1_elements, O_Sh a_o x_o_holds x_o_body x_o_sort x_o_length a_o_elements, A_J dA a_p1_elements 60 x_p1_elements, A_J dA a_o_elements 60 x_o_elements]) C (c_Sh_hasPlaces (l := l) (D := D) (dA := dA) (a_o := a_p1) (a_o_elements := a_p1_elements) (x_o_holds := x_p1_holds) (x_o_body := x_p1_body) (x_o_sort := x_p1_sort)   hc2) yy_Sh_hasPlaces kf_Sh rfl mw_4_115 d_Sh_take_4 rfl [] rfl rfl (Nat.le_of_ble_eq_true rfl) ⟨Nat.le_of_ble_eq_true rfl, Nat.le_of_ble_eq_true rfl⟩ rfl rfl (Nat.zero_le _) (Nat.zero_le _) 0 rfl [0] rfl (by decide +kernel) rfl (g_lay_sel _ _ _ _ [(0, true), (1, false), (2, false), (3, false)] (by decide +kernel) rfl (by decide +kernel) rfl rfl) rfl ?_
  refine g_if_eqb (pc' := 10) (tgt := 35) C d_Sh_take_7 rfl rfl (fun h => ?_) (fun h => ?_)
  · replace hf := g_bf h hf
    replace hf := Option.some.inj hf; subst hf
    exact g_vret C d_Sh_take_35 () rfl
  · replace hf := g_bt h hf
    refine g_aload_n (pc' := 11) C 0 d_Sh_take_10 rfl rfl ?_
    refine g_iload_n (pc' := 12) C 3 d_Sh_take_11 rfl rfl ?_
    refine g_iload (pc' := 14) C 4 d_Sh_take_12 rfl rfl ?_
    replace hf := g_bi hf; obtain ⟨r3, hc4, hf⟩ := hf
    refine g_callV (pc' := 17) (st1 := [.int (b2i r3)]) (ws1 := [O_Sh a_p1 x_p1_holds x_p1_body x_p1_sort x_p1_length a_p1_elements, O_Sh a_o x_o_holds x_o_body x_o_sort x_o_length a_o_elements, A_J dA a_p1_elements 60 x_p1_elements, A_J dA a_o_elements 60 x_o_elements]) C (c_Sh_hasPlaces (l := l) (D := D) (dA := dA) (a_o := a_o) (a_o_elements := a_o_elements) (x_o_holds := x_o_holds) (x_o_body := x_o_body) (x_o_sort := x_o_sort)   hc4) yy_Sh_hasPlaces kf_Sh rfl mw_4_115 d_Sh_take_14 rfl [] rfl rfl (Nat.le_of_ble_eq_true rfl) ⟨Nat.le_of_ble_eq_true rfl, Nat.le_of_ble_eq_true rfl⟩ rfl rfl (Nat.zero_le _) (Nat.zero_le _) 1 rfl [1] rfl (by decide +kernel) rfl (g_lay_sel _ _ _ _ [(0, false), (0, true), (2, false), (3, false)] (by decide +kernel) rfl (by decide +kernel) rfl rfl) rfl ?_
    refine g_if_eqb (pc' := 20) (tgt := 35) C d_Sh_take_17 rfl rfl (fun h => ?_) (fun h => ?_)
    · replace hf := g_bf h hf
      replace hf := Option.some.inj hf; subst hf
      exact g_vret C d_Sh_take_35 () rfl
    · replace hf := g_bt h hf
      refine g_aload_n (pc' := 21) C 1 d_Sh_take_20 rfl rfl ?_
      refine g_get (pc' := 24) C kf_Sh 4 mw_2_32 d_Sh_take_21 rfl 0 rfl (by decide) rfl ?_
      refine g_iload_n (pc' := 25) C 2 d_Sh_take_24 rfl rfl ?_
      refine g_aload_n (pc' := 26) C 0 d_Sh_take_25 rfl rfl ?_
      refine g_get (pc' := 29) C kf_Sh 4 mw_2_32 d_Sh_take_26 rfl 1 rfl (by decide) rfl ?_
      refine g_iload_n (pc' := 30) C 3 d_Sh_take_29 rfl rfl ?_
      refine g_iload (pc' := 32) C 4 d_Sh_take_30 rfl rfl ?_
      have hb := g_cp (g_ck hf)
      replace hf := g_in (g_ck hf) hf
      refine g_copyl (pc' := 35) (ws' := [O_Sh a_p1 x_p1_holds x_p1_body x_p1_sort x_p1_length a_p1_elements, O_Sh a_o x_o_holds x_o_body x_o_sort x_o_length a_o_elements, A_J dA a_p1_elements 60 x_p1_elements, A_J dA a_o_elements 60 (va_cpy x_p1_elements x_o_elements (Int32.toNatClampNeg p2) (Int32.toNatClampNeg p3) (Int32.toNatClampNeg p4))]) C mw_4_116 mw_2_173 mw_2_172 mw_1_13 d_Sh_take_32 rfl 2 3 rfl rfl hb.1 hb.2.1 hb.2.2.1 hb.2.2.2.1 hb.2.2.2.2 (Nat.le_of_ble_eq_true rfl) (Nat.le_of_ble_eq_true rfl) rfl ?_
      replace hf := Option.some.inj hf; subst hf
      exact g_vret C d_Sh_take_35 () rfl
def f_Sh_take__same  (p2 : Int32) (p3 : Int32) (p4 : Int32) (x_o_length : Int32) (x_o_elements : Nat → Int64) : Option ((Nat → Int64)) :=
  (f_Sh_hasPlaces  p2 p4 x_o_length).bind fun r1 =>
  if r1 = true then
    ((f_Sh_hasPlaces  p3 p4 x_o_length).bind fun r3 =>
    if r3 = true then
      (if p2 < 0 ∨ p3 < 0 ∨ p4 < 0 ∨ 60 < Int32.toNatClampNeg p2 + Int32.toNatClampNeg p4 ∨ 60 < Int32.toNatClampNeg p3 + Int32.toNatClampNeg p4 then none else
      some ((va_cpy x_o_elements x_o_elements (Int32.toNatClampNeg p2) (Int32.toNatClampNeg p3) (Int32.toNatClampNeg p4))))
    else
      (some (x_o_elements)))
  else
    (some (x_o_elements))
set_option maxRecDepth 20000 in
theorem c_Sh_take__same {l : Launch} {D : va_G} {dA : Nat → ClassId} {a_o a_o_elements : Nat} {x_o_holds : Int32} {x_o_body : Int32} {x_o_sort : Int32} {p2 : Int32} {p3 : Int32} {p4 : Int32} {x_o_length : Int32} {x_o_elements : Nat → Int64} {o_x_o_elements : Nat → Int64}   (hf : f_Sh_take__same  p2 p3 p4 x_o_length x_o_elements = some o_x_o_elements) : CT l y_Sh_take prog_7_method_14_code 5 none { frames := 1, cells := 0, slots := 0, locals := 40 } D dA [.ref a_o, .ref a_o, .int p2, .int p3, .int p4] [O_Sh a_o x_o_holds x_o_body x_o_sort x_o_length a_o_elements, A_J dA a_o_elements 60 x_o_elements] none (fun _ : Unit => [O_Sh a_o x_o_holds x_o_body x_o_sort x_o_length a_o_elements, A_J dA a_o_elements 60 o_x_o_elements]) := by
  refine ct_intro "OneLamp$Shelf" rfl (by decide +kernel) (Nat.le_of_ble_eq_true rfl) [(0, .ref a_o), (1, .ref a_o), (2, .int p2), (3, .int p3), (4, .int p4)] rfl (fun _ C => ?_)
  unfold f_Sh_take__same at hf
  refine g_aload_n (pc' := 1) C 1 d_Sh_take_0 rfl rfl ?_
  refine g_iload_n (pc' := 2) C 2 d_Sh_take_1 rfl rfl ?_
  refine g_iload (pc' := 4) C 4 d_Sh_take_2 rfl rfl ?_
  replace hf := g_bi hf; obtain ⟨r1, hc2, hf⟩ := hf
  refine g_callV (pc' := 7) (st1 := [.int (b2i r1)]) (ws1 := [O_Sh a_o x_o_holds x_o_body x_o_sort x_o_length a_o_elements, A_J dA a_o_elements 60 x_o_elements]) C (c_Sh_hasPlaces (l := l) (D := D) (dA := dA) (a_o := a_o) (a_o_elements := a_o_elements) (x_o_holds := x_o_holds) (x_o_body := x_o_body) (x_o_sort := x_o_sort)   hc2) yy_Sh_hasPlaces kf_Sh rfl mw_4_115 d_Sh_take_4 rfl [] rfl rfl (Nat.le_of_ble_eq_true rfl) ⟨Nat.le_of_ble_eq_true rfl, Nat.le_of_ble_eq_true rfl⟩ rfl rfl (Nat.zero_le _) (Nat.zero_le _) 0 rfl [0] rfl (by decide +kernel) rfl (g_lay_sel _ _ _ _ [(0, true), (1, false)] (by decide +kernel) rfl (by decide +kernel) rfl rfl) rfl ?_
  refine g_if_eqb (pc' := 10) (tgt := 35) C d_Sh_take_7 rfl rfl (fun h => ?_) (fun h => ?_)
  · replace hf := g_bf h hf
    replace hf := Option.some.inj hf; subst hf
    exact g_vret C d_Sh_take_35 () rfl
  · replace hf := g_bt h hf
    refine g_aload_n (pc' := 11) C 0 d_Sh_take_10 rfl rfl ?_
    refine g_iload_n (pc' := 12) C 3 d_Sh_take_11 rfl rfl ?_
    refine g_iload (pc' := 14) C 4 d_Sh_take_12 rfl rfl ?_
    replace hf := g_bi hf; obtain ⟨r3, hc4, hf⟩ := hf
    refine g_callV (pc' := 17) (st1 := [.int (b2i r3)]) (ws1 := [O_Sh a_o x_o_holds x_o_body x_o_sort x_o_length a_o_elements, A_J dA a_o_elements 60 x_o_elements]) C (c_Sh_hasPlaces (l := l) (D := D) (dA := dA) (a_o := a_o) (a_o_elements := a_o_elements) (x_o_holds := x_o_holds) (x_o_body := x_o_body) (x_o_sort := x_o_sort)   hc4) yy_Sh_hasPlaces kf_Sh rfl mw_4_115 d_Sh_take_14 rfl [] rfl rfl (Nat.le_of_ble_eq_true rfl) ⟨Nat.le_of_ble_eq_true rfl, Nat.le_of_ble_eq_true rfl⟩ rfl rfl (Nat.zero_le _) (Nat.zero_le _) 0 rfl [0] rfl (by decide +kernel) rfl (g_lay_sel _ _ _ _ [(0, true), (1, false)] (by decide +kernel) rfl (by decide +kernel) rfl rfl) rfl ?_
    refine g_if_eqb (pc' := 20) (tgt := 35) C d_Sh_take_17 rfl rfl (fun h => ?_) (fun h => ?_)
    · replace hf := g_bf h hf
      replace hf := Option.some.inj hf; subst hf
      exact g_vret C d_Sh_take_35 () rfl
    · replace hf := g_bt h hf
      refine g_aload_n (pc' := 21) C 1 d_Sh_take_20 rfl rfl ?_
      refine g_get (pc' := 24) C kf_Sh 4 mw_2_32 d_Sh_take_21 rfl 0 rfl (by decide) rfl ?_
      refine g_iload_n (pc' := 25) C 2 d_Sh_take_24 rfl rfl ?_
      refine g_aload_n (pc' := 26) C 0 d_Sh_take_25 rfl rfl ?_
      refine g_get (pc' := 29) C kf_Sh 4 mw_2_32 d_Sh_take_26 rfl 0 rfl (by decide) rfl ?_
      refine g_iload_n (pc' := 30) C 3 d_Sh_take_29 rfl rfl ?_
      refine g_iload (pc' := 32) C 4 d_Sh_take_30 rfl rfl ?_
      have hb := g_cp (g_ck hf)
      replace hf := g_in (g_ck hf) hf
      refine g_copyl (pc' := 35) (ws' := [O_Sh a_o x_o_holds x_o_body x_o_sort x_o_length a_o_elements, A_J dA a_o_elements 60 (va_cpy x_o_elements x_o_elements (Int32.toNatClampNeg p2) (Int32.toNatClampNeg p3) (Int32.toNatClampNeg p4))]) C mw_4_116 mw_2_173 mw_2_172 mw_1_13 d_Sh_take_32 rfl 1 1 rfl rfl hb.1 hb.2.1 hb.2.2.1 hb.2.2.2.1 hb.2.2.2.2 (Nat.le_of_ble_eq_true rfl) (Nat.le_of_ble_eq_true rfl) rfl ?_
      replace hf := Option.some.inj hf; subst hf
      exact g_vret C d_Sh_take_35 () rfl
