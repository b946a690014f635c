def y_Pi_fits : MethodName := ⟨"OneLamp$Pictures", "fits", "(I)Z"⟩
theorem yy_Pi_fits : YS y_Pi_fits prog_5_method_2_code 1 (some .boolean) 1 := ⟨mw_1_59, mw_1_3, mw_1_58, by decide +kernel, by decide +kernel, by decide +kernel⟩
theorem d_Pi_fits_0 : decode prog_5_method_2_code 0 = .ok (.iload_n 0, 1) := by decide +kernel
theorem d_Pi_fits_1 : decode prog_5_method_2_code 1 = .ok (.ifCond .lt 14, 3) := by decide +kernel
theorem d_Pi_fits_4 : decode prog_5_method_2_code 4 = .ok (.iload_n 0, 1) := by decide +kernel
theorem d_Pi_fits_5 : decode prog_5_method_2_code 5 = .ok (.sipush 1024, 3) := by decide +kernel
theorem d_Pi_fits_8 : decode prog_5_method_2_code 8 = .ok (.if_icmp .ge 7, 3) := by decide +kernel
theorem d_Pi_fits_11 : decode prog_5_method_2_code 11 = .ok (.iconst 1, 1) := by decide +kernel
theorem d_Pi_fits_12 : decode prog_5_method_2_code 12 = .ok (.goto 4, 3) := by decide +kernel
theorem d_Pi_fits_15 : decode prog_5_method_2_code 15 = .ok (.iconst 0, 1) := by decide +kernel
theorem d_Pi_fits_16 : decode prog_5_method_2_code 16 = .ok (.ireturn, 1) := by decide +kernel
def f_Pi_fits  (p0 : Int32) : Option (Bool) :=
  if p0 < 0 then
    (some (false))
  else
    (if (1024 : Int32) ≤ p0 then
      (some (false))
    else
      (some (true)))
set_option maxRecDepth 20000 in
theorem c_Pi_fits {l : Launch} {D : va_G} {dA : Nat → ClassId}   {p0 : Int32} {r0 : Bool}   (hf : f_Pi_fits  p0 = some r0) : CT l y_Pi_fits prog_5_method_2_code 1 (some .boolean) { frames := 0, cells := 0, slots := 0, locals := 0 } D dA [.int p0] [] (some (.int (b2i r0))) (fun _ : Unit => []) := by
  refine ct_intro "OneLamp$Pictures" rfl (by decide +kernel) (Nat.le_of_ble_eq_true rfl) [(0, .int p0)] rfl (fun _ C => ?_)
  unfold f_Pi_fits at hf
  refine g_iload_n (pc' := 1) C 0 d_Pi_fits_0 rfl rfl ?_
  refine g_if_lt (pc' := 4) (tgt := 15) C d_Pi_fits_1 rfl rfl (fun h => ?_) (fun h => ?_)
  · replace hf := g_ip h hf
    refine g_iconst (pc' := 16) (v := 0) C d_Pi_fits_15 rfl rfl ?_
    replace hf := Option.some.inj hf; subst hf
    exact g_zret C d_Pi_fits_16 () rfl
  · replace hf := g_in h hf
    refine g_iload_n (pc' := 5) C 0 d_Pi_fits_4 rfl rfl ?_
    refine g_sipush (pc' := 8) (v := 1024) C d_Pi_fits_5 rfl rfl ?_
    refine g_icmp_ge (pc' := 11) (tgt := 15) C d_Pi_fits_8 rfl rfl (fun h => ?_) (fun h => ?_)
    · replace hf := g_ip h hf
      refine g_iconst (pc' := 16) (v := 0) C d_Pi_fits_15 rfl rfl ?_
      replace hf := Option.some.inj hf; subst hf
      exact g_zret C d_Pi_fits_16 () rfl
    · replace hf := g_in h hf
      refine g_iconst (pc' := 12) (v := 1) C d_Pi_fits_11 rfl rfl ?_
      refine g_goto (tgt := 16) C d_Pi_fits_12 rfl ?_
      replace hf := Option.some.inj hf; subst hf
      exact g_zret C d_Pi_fits_16 () rfl
def y_Pi_holds : MethodName := ⟨"OneLamp$Pictures", "holds", "(I)Z"⟩
theorem yy_Pi_holds : YV y_Pi_holds prog_5_method_3_code 2 (some .boolean) 1 := ⟨mw_2_93, mw_1_3, mw_2_91, mw_2_92, by decide +kernel, by decide +kernel, by decide +kernel⟩
theorem d_Pi_holds_0 : decode prog_5_method_3_code 0 = .ok (.iload_n 1, 1) := by decide +kernel
theorem d_Pi_holds_1 : decode prog_5_method_3_code 1 = .ok (.invokestatic 15, 3) := by decide +kernel
theorem d_Pi_holds_4 : decode prog_5_method_3_code 4 = .ok (.ifCond .eq 28, 3) := by decide +kernel
theorem d_Pi_holds_7 : decode prog_5_method_3_code 7 = .ok (.aload_n 0, 1) := by decide +kernel
theorem d_Pi_holds_8 : decode prog_5_method_3_code 8 = .ok (.getfield 11, 3) := by decide +kernel
theorem d_Pi_holds_11 : decode prog_5_method_3_code 11 = .ok (.iload_n 1, 1) := by decide +kernel
theorem d_Pi_holds_12 : decode prog_5_method_3_code 12 = .ok (.bipush 64, 2) := by decide +kernel
theorem d_Pi_holds_14 : decode prog_5_method_3_code 14 = .ok (.idiv, 1) := by decide +kernel
theorem d_Pi_holds_15 : decode prog_5_method_3_code 15 = .ok (.laload, 1) := by decide +kernel
theorem d_Pi_holds_16 : decode prog_5_method_3_code 16 = .ok (.iload_n 1, 1) := by decide +kernel
theorem d_Pi_holds_17 : decode prog_5_method_3_code 17 = .ok (.bipush 64, 2) := by decide +kernel
theorem d_Pi_holds_19 : decode prog_5_method_3_code 19 = .ok (.irem, 1) := by decide +kernel
theorem d_Pi_holds_20 : decode prog_5_method_3_code 20 = .ok (.lshr, 1) := by decide +kernel
theorem d_Pi_holds_21 : decode prog_5_method_3_code 21 = .ok (.lconst 1, 1) := by decide +kernel
theorem d_Pi_holds_22 : decode prog_5_method_3_code 22 = .ok (.land, 1) := by decide +kernel
theorem d_Pi_holds_23 : decode prog_5_method_3_code 23 = .ok (.lconst 1, 1) := by decide +kernel
theorem d_Pi_holds_24 : decode prog_5_method_3_code 24 = .ok (.lcmp, 1) := by decide +kernel
theorem d_Pi_holds_25 : decode prog_5_method_3_code 25 = .ok (.ifCond .ne 7, 3) := by decide +kernel
theorem d_Pi_holds_28 : decode prog_5_method_3_code 28 = .ok (.iconst 1, 1) := by decide +kernel
theorem d_Pi_holds_29 : decode prog_5_method_3_code 29 = .ok (.goto 4, 3) := by decide +kernel
theorem d_Pi_holds_32 : decode prog_5_method_3_code 32 = .ok (.iconst 0, 1) := by decide +kernel
theorem d_Pi_holds_33 : decode prog_5_method_3_code 33 = .ok (.ireturn, 1) := by decide +kernel
def f_Pi_holds  (p1 : Int32) (x_o_words : Nat → Int64) : Option (Bool) :=
  (f_Pi_fits  p1).bind fun r1 =>
  if r1 = true then
    (if (p1 / (64 : Int32)) < 0 ∨ 16 ≤ Int32.toNatClampNeg (p1 / (64 : Int32)) then none else
    if (lg_cmp (((x_o_words (Int32.toNatClampNeg (p1 / (64 : Int32)))) >>> (Int32.toInt64 (p1 - p1 / (64 : Int32) * (64 : Int32)) &&& 63)) &&& (1 : Int64)) (1 : Int64)) = 0 then
      (some (true))
    else
      (some (false)))
  else
    (some (false))
set_option maxRecDepth 20000 in
theorem c_Pi_holds {l : Launch} {D : va_G} {dA : Nat → ClassId} {a_o a_o_words : Nat}  {p1 : Int32} {x_o_words : Nat → Int64} {r0 : Bool}   (hf : f_Pi_holds  p1 x_o_words = some r0) : CT l y_Pi_holds prog_5_method_3_code 2 (some .boolean) { frames := 1, cells := 0, slots := 0, locals := 20 } D dA [.ref a_o, .int p1] [O_Pi a_o a_o_words, A_J dA a_o_words 16 x_o_words] (some (.int (b2i r0))) (fun _ : Unit => [O_Pi a_o a_o_words, A_J dA a_o_words 16 x_o_words]) := by
  refine ct_intro "OneLamp$Pictures" rfl (by decide +kernel) (Nat.le_of_ble_eq_true rfl) [(0, .ref a_o), (1, .int p1)] rfl (fun _ C => ?_)
  unfold f_Pi_holds at hf
  refine g_iload_n (pc' := 1) C 1 d_Pi_holds_0 rfl rfl ?_
  replace hf := g_bi hf; obtain ⟨r1, hc2, hf⟩ := hf
  refine g_callS (pc' := 4) (st1 := [.int (b2i r1)]) (ws1 := [O_Pi a_o a_o_words, A_J dA a_o_words 16 x_o_words]) C (c_Pi_fits (l := l) (D := D) (dA := dA)    hc2) yy_Pi_fits mw_1_57 d_Pi_holds_1 rfl [] rfl rfl (Nat.le_of_ble_eq_true rfl) ⟨Nat.le_of_ble_eq_true rfl, Nat.le_of_ble_eq_true rfl⟩ rfl rfl (Nat.zero_le _) (Nat.zero_le _) [] rfl (by decide +kernel) rfl (g_lay_sel _ _ _ _ [(0, false), (1, false)] (by decide +kernel) rfl (by decide +kernel) rfl rfl) rfl ?_
  refine g_if_eqb (pc' := 7) (tgt := 32) C d_Pi_holds_4 rfl rfl (fun h => ?_) (fun h => ?_)
  · replace hf := g_bf h hf
    refine g_iconst (pc' := 33) (v := 0) C d_Pi_holds_32 rfl rfl ?_
    replace hf := Option.some.inj hf; subst hf
    exact g_zret C d_Pi_holds_33 () rfl
  · replace hf := g_bt h hf
    refine g_aload_n (pc' := 8) C 0 d_Pi_holds_7 rfl rfl ?_
    refine g_get (pc' := 11) C kf_Pi 0 mw_1_37 d_Pi_holds_8 rfl 0 rfl (by decide) rfl ?_
    refine g_iload_n (pc' := 12) C 1 d_Pi_holds_11 rfl rfl ?_
    refine g_bipush (pc' := 14) (v := 64) C d_Pi_holds_12 rfl rfl ?_
    refine g_idiv (pc' := 15) C d_Pi_holds_14 rfl (by decide) ?_
    have hb := g_ck hf
    replace hf := g_in hb hf
    refine g_lald (pc' := 16) C d_Pi_holds_15 rfl 1 rfl hb ?_
    refine g_iload_n (pc' := 17) C 1 d_Pi_holds_16 rfl rfl ?_
    refine g_bipush (pc' := 19) (v := 64) C d_Pi_holds_17 rfl rfl ?_
    refine g_irem (pc' := 20) C d_Pi_holds_19 rfl (by decide) ?_
    refine g_lshr (pc' := 21) C d_Pi_holds_20 rfl ?_
    refine g_lconst (pc' := 22) (v := 1) C d_Pi_holds_21 rfl rfl ?_
    refine g_land (pc' := 23) C d_Pi_holds_22 rfl ?_
    refine g_lconst (pc' := 24) (v := 1) C d_Pi_holds_23 rfl rfl ?_
    refine g_lcmp (pc' := 25) C d_Pi_holds_24 rfl ?_
    refine g_if_ne (pc' := 28) (tgt := 32) C d_Pi_holds_25 rfl rfl (fun h => ?_) (fun h => ?_)
    · replace hf := g_in h hf
      refine g_iconst (pc' := 33) (v := 0) C d_Pi_holds_32 rfl rfl ?_
      replace hf := Option.some.inj hf; subst hf
      exact g_zret C d_Pi_holds_33 () rfl
    · replace hf := g_ip h hf
      refine g_iconst (pc' := 29) (v := 1) C d_Pi_holds_28 rfl rfl ?_
      refine g_goto (tgt := 33) C d_Pi_holds_29 rfl ?_
      replace hf := Option.some.inj hf; subst hf
      exact g_zret C d_Pi_holds_33 () rfl
def y_Pi_add : MethodName := ⟨"OneLamp$Pictures", "add", "(I)V"⟩
theorem yy_Pi_add : YV y_Pi_add prog_5_method_4_code 2 none 1 := ⟨mw_1_56, mw_1_3, mw_1_54, mw_1_55, by decide +kernel, by decide +kernel, by decide +kernel⟩
theorem d_Pi_add_0 : decode prog_5_method_4_code 0 = .ok (.iload_n 1, 1) := by decide +kernel
theorem d_Pi_add_1 : decode prog_5_method_4_code 1 = .ok (.invokestatic 15, 3) := by decide +kernel
theorem d_Pi_add_4 : decode prog_5_method_4_code 4 = .ok (.ifCond .eq 21, 3) := by decide +kernel
theorem d_Pi_add_7 : decode prog_5_method_4_code 7 = .ok (.aload_n 0, 1) := by decide +kernel
theorem d_Pi_add_8 : decode prog_5_method_4_code 8 = .ok (.getfield 11, 3) := by decide +kernel
theorem d_Pi_add_11 : decode prog_5_method_4_code 11 = .ok (.iload_n 1, 1) := by decide +kernel
theorem d_Pi_add_12 : decode prog_5_method_4_code 12 = .ok (.bipush 64, 2) := by decide +kernel
theorem d_Pi_add_14 : decode prog_5_method_4_code 14 = .ok (.idiv, 1) := by decide +kernel
theorem d_Pi_add_15 : decode prog_5_method_4_code 15 = .ok (.dup2, 1) := by decide +kernel
theorem d_Pi_add_16 : decode prog_5_method_4_code 16 = .ok (.laload, 1) := by decide +kernel
theorem d_Pi_add_17 : decode prog_5_method_4_code 17 = .ok (.lconst 1, 1) := by decide +kernel
theorem d_Pi_add_18 : decode prog_5_method_4_code 18 = .ok (.iload_n 1, 1) := by decide +kernel
theorem d_Pi_add_19 : decode prog_5_method_4_code 19 = .ok (.bipush 64, 2) := by decide +kernel
theorem d_Pi_add_21 : decode prog_5_method_4_code 21 = .ok (.irem, 1) := by decide +kernel
theorem d_Pi_add_22 : decode prog_5_method_4_code 22 = .ok (.lshl, 1) := by decide +kernel
theorem d_Pi_add_23 : decode prog_5_method_4_code 23 = .ok (.lor, 1) := by decide +kernel
theorem d_Pi_add_24 : decode prog_5_method_4_code 24 = .ok (.lastore, 1) := by decide +kernel
theorem d_Pi_add_25 : decode prog_5_method_4_code 25 = .ok (.return_, 1) := by decide +kernel
def f_Pi_add  (p1 : Int32) (x_o_words : Nat → Int64) : Option ((Nat → Int64)) :=
  (f_Pi_fits  p1).bind fun r1 =>
  if r1 = true then
    (if (p1 / (64 : Int32)) < 0 ∨ 16 ≤ Int32.toNatClampNeg (p1 / (64 : Int32)) then none else
    if (p1 / (64 : Int32)) < 0 ∨ 16 ≤ Int32.toNatClampNeg (p1 / (64 : Int32)) then none else
    some ((vp_updL x_o_words (Int32.toNatClampNeg (p1 / (64 : Int32))) ((x_o_words (Int32.toNatClampNeg (p1 / (64 : Int32)))) ||| ((1 : Int64) <<< (Int32.toInt64 (p1 - p1 / (64 : Int32) * (64 : Int32)) &&& 63))))))
  else
    (some (x_o_words))
set_option maxRecDepth 20000 in
theorem c_Pi_add {l : Launch} {D : va_G} {dA : Nat → ClassId} {a_o a_o_words : Nat}  {p1 : Int32} {x_o_words : Nat → Int64} {o_x_o_words : Nat → Int64}   (hf : f_Pi_add  p1 x_o_words = some o_x_o_words) : CT l y_Pi_add prog_5_method_4_code 2 none { frames := 1, cells := 0, slots := 0, locals := 20 } D dA [.ref a_o, .int p1] [O_Pi a_o a_o_words, A_J dA a_o_words 16 x_o_words] none (fun _ : Unit => [O_Pi a_o a_o_words, A_J dA a_o_words 16 o_x_o_words]) := by
  refine ct_intro "OneLamp$Pictures" rfl (by decide +kernel) (Nat.le_of_ble_eq_true rfl) [(0, .ref a_o), (1, .int p1)] rfl (fun _ C => ?_)
  unfold f_Pi_add at hf
  refine g_iload_n (pc' := 1) C 1 d_Pi_add_0 rfl rfl ?_
  replace hf := g_bi hf; obtain ⟨r1, hc2, hf⟩ := hf
  refine g_callS (pc' := 4) (st1 := [.int (b2i r1)]) (ws1 := [O_Pi a_o a_o_words, A_J dA a_o_words 16 x_o_words]) C (c_Pi_fits (l := l) (D := D) (dA := dA)    hc2) yy_Pi_fits mw_1_57 d_Pi_add_1 rfl [] rfl rfl (Nat.le_of_ble_eq_true rfl) ⟨Nat.le_of_ble_eq_true rfl, Nat.le_of_ble_eq_true rfl⟩ rfl rfl (Nat.zero_le _) (Nat.zero_le _) [] rfl (by decide +kernel) rfl (g_lay_sel _ _ _ _ [(0, false), (1, false)] (by decide +kernel) rfl (by decide +kernel) rfl rfl) rfl ?_
  refine g_if_eqb (pc' := 7) (tgt := 25) C d_Pi_add_4 rfl rfl (fun h => ?_) (fun h => ?_)
  · replace hf := g_bf h hf
    replace hf := Option.some.inj hf; subst hf
    exact g_vret C d_Pi_add_25 () rfl
  · replace hf := g_bt h hf
    refine g_aload_n (pc' := 8) C 0 d_Pi_add_7 rfl rfl ?_
    refine g_get (pc' := 11) C kf_Pi 0 mw_1_37 d_Pi_add_8 rfl 0 rfl (by decide) rfl ?_
    refine g_iload_n (pc' := 12) C 1 d_Pi_add_11 rfl rfl ?_
    refine g_bipush (pc' := 14) (v := 64) C d_Pi_add_12 rfl rfl ?_
    refine g_idiv (pc' := 15) C d_Pi_add_14 rfl (by decide) ?_
    refine g_dup2 (pc' := 16) C d_Pi_add_15 rfl rfl rfl ?_
    have hb := g_ck hf
    replace hf := g_in hb hf
    refine g_lald (pc' := 17) C d_Pi_add_16 rfl 1 rfl hb ?_
    refine g_lconst (pc' := 18) (v := 1) C d_Pi_add_17 rfl rfl ?_
    refine g_iload_n (pc' := 19) C 1 d_Pi_add_18 rfl rfl ?_
    refine g_bipush (pc' := 21) (v := 64) C d_Pi_add_19 rfl rfl ?_
    refine g_irem (pc' := 22) C d_Pi_add_21 rfl (by decide) ?_
    refine g_lshl (pc' := 23) C d_Pi_add_22 rfl ?_
    refine g_lor (pc' := 24) C d_Pi_add_23 rfl ?_
    have hb := g_ck hf
    replace hf := g_in hb hf
    refine g_last (pc' := 25) (ws' := [O_Pi a_o a_o_words, A_J dA a_o_words 16 (vp_updL x_o_words (Int32.toNatClampNeg (p1 / (64 : Int32))) ((x_o_words (Int32.toNatClampNeg (p1 / (64 : Int32)))) ||| ((1 : Int64) <<< (Int32.toInt64 (p1 - p1 / (64 : Int32) * (64 : Int32)) &&& 63))))]) C d_Pi_add_24 rfl 1 rfl hb rfl ?_
    replace hf := Option.some.inj hf; subst hf
    exact g_vret C d_Pi_add_25 () rfl
def y_Pi_remove : MethodName := ⟨"OneLamp$Pictures", "remove", "(I)V"⟩
theorem yy_Pi_remove : YV y_Pi_remove prog_5_method_5_code 2 none 1 := ⟨mw_2_232, mw_1_3, mw_2_230, mw_2_231, by decide +kernel, by decide +kernel, by decide +kernel⟩
theorem d_Pi_remove_0 : decode prog_5_method_5_code 0 = .ok (.iload_n 1, 1) := by decide +kernel
theorem d_Pi_remove_1 : decode prog_5_method_5_code 1 = .ok (.invokestatic 15, 3) := by decide +kernel
theorem d_Pi_remove_4 : decode prog_5_method_5_code 4 = .ok (.ifCond .eq 25, 3) := by decide +kernel
theorem d_Pi_remove_7 : decode prog_5_method_5_code 7 = .ok (.aload_n 0, 1) := by decide +kernel
theorem d_Pi_remove_8 : decode prog_5_method_5_code 8 = .ok (.getfield 11, 3) := by decide +kernel
theorem d_Pi_remove_11 : decode prog_5_method_5_code 11 = .ok (.iload_n 1, 1) := by decide +kernel
theorem d_Pi_remove_12 : decode prog_5_method_5_code 12 = .ok (.bipush 64, 2) := by decide +kernel
theorem d_Pi_remove_14 : decode prog_5_method_5_code 14 = .ok (.idiv, 1) := by decide +kernel
theorem d_Pi_remove_15 : decode prog_5_method_5_code 15 = .ok (.dup2, 1) := by decide +kernel
theorem d_Pi_remove_16 : decode prog_5_method_5_code 16 = .ok (.laload, 1) := by decide +kernel
theorem d_Pi_remove_17 : decode prog_5_method_5_code 17 = .ok (.lconst 1, 1) := by decide +kernel
theorem d_Pi_remove_18 : decode prog_5_method_5_code 18 = .ok (.iload_n 1, 1) := by decide +kernel
theorem d_Pi_remove_19 : decode prog_5_method_5_code 19 = .ok (.bipush 64, 2) := by decide +kernel
theorem d_Pi_remove_21 : decode prog_5_method_5_code 21 = .ok (.irem, 1) := by decide +kernel
theorem d_Pi_remove_22 : decode prog_5_method_5_code 22 = .ok (.lshl, 1) := by decide +kernel
theorem d_Pi_remove_23 : decode prog_5_method_5_code 23 = .ok (.ldc2_w 19, 3) := by decide +kernel
theorem d_Pi_remove_26 : decode prog_5_method_5_code 26 = .ok (.lxor, 1) := by decide +kernel
theorem d_Pi_remove_27 : decode prog_5_method_5_code 27 = .ok (.land, 1) := by decide +kernel
theorem d_Pi_remove_28 : decode prog_5_method_5_code 28 = .ok (.lastore, 1) := by decide +kernel
theorem d_Pi_remove_29 : decode prog_5_method_5_code 29 = .ok (.return_, 1) := by decide +kernel
def f_Pi_remove  (p1 : Int32) (x_o_words : Nat → Int64) : Option ((Nat → Int64)) :=
  (f_Pi_fits  p1).bind fun r1 =>
  if r1 = true then
    (if (p1 / (64 : Int32)) < 0 ∨ 16 ≤ Int32.toNatClampNeg (p1 / (64 : Int32)) then none else
    if (p1 / (64 : Int32)) < 0 ∨ 16 ≤ Int32.toNatClampNeg (p1 / (64 : Int32)) then none else
    some ((vp_updL x_o_words (Int32.toNatClampNeg (p1 / (64 : Int32))) ((x_o_words (Int32.toNatClampNeg (p1 / (64 : Int32)))) &&& (((1 : Int64) <<< (Int32.toInt64 (p1 - p1 / (64 : Int32) * (64 : Int32)) &&& 63)) ^^^ (-1 : Int64))))))
  else
    (some (x_o_words))
set_option maxRecDepth 20000 in
theorem c_Pi_remove {l : Launch} {D : va_G} {dA : Nat → ClassId} {a_o a_o_words : Nat}  {p1 : Int32} {x_o_words : Nat → Int64} {o_x_o_words : Nat → Int64}   (hf : f_Pi_remove  p1 x_o_words = some o_x_o_words) : CT l y_Pi_remove prog_5_method_5_code 2 none { frames := 1, cells := 0, slots := 0, locals := 20 } D dA [.ref a_o, .int p1] [O_Pi a_o a_o_words, A_J dA a_o_words 16 x_o_words] none (fun _ : Unit => [O_Pi a_o a_o_words, A_J dA a_o_words 16 o_x_o_words]) := by
  refine ct_intro "OneLamp$Pictures" rfl (by decide +kernel) (Nat.le_of_ble_eq_true rfl) [(0, .ref a_o), (1, .int p1)] rfl (fun _ C => ?_)
  unfold f_Pi_remove at hf
  refine g_iload_n (pc' := 1) C 1 d_Pi_remove_0 rfl rfl ?_
  replace hf := g_bi hf; obtain ⟨r1, hc2, hf⟩ := hf
  refine g_callS (pc' := 4) (st1 := [.int (b2i r1)]) (ws1 := [O_Pi a_o a_o_words, A_J dA a_o_words 16 x_o_words]) C (c_Pi_fits (l := l) (D := D) (dA := dA)    hc2) yy_Pi_fits mw_1_57 d_Pi_remove_1 rfl [] rfl rfl (Nat.le_of_ble_eq_true rfl) ⟨Nat.le_of_ble_eq_true rfl, Nat.le_of_ble_eq_true rfl⟩ rfl rfl (Nat.zero_le _) (Nat.zero_le _) [] rfl (by decide +kernel) rfl (g_lay_sel _ _ _ _ [(0, false), (1, false)] (by decide +kernel) rfl (by decide +kernel) rfl rfl) rfl ?_
  refine g_if_eqb (pc' := 7) (tgt := 29) C d_Pi_remove_4 rfl rfl (fun h => ?_) (fun h => ?_)
  · replace hf := g_bf h hf
    replace hf := Option.some.inj hf; subst hf
    exact g_vret C d_Pi_remove_29 () rfl
  · replace hf := g_bt h hf
    refine g_aload_n (pc' := 8) C 0 d_Pi_remove_7 rfl rfl ?_
    refine g_get (pc' := 11) C kf_Pi 0 mw_1_37 d_Pi_remove_8 rfl 0 rfl (by decide) rfl ?_
    refine g_iload_n (pc' := 12) C 1 d_Pi_remove_11 rfl rfl ?_
    refine g_bipush (pc' := 14) (v := 64) C d_Pi_remove_12 rfl rfl ?_
    refine g_idiv (pc' := 15) C d_Pi_remove_14 rfl (by decide) ?_
    refine g_dup2 (pc' := 16) C d_Pi_remove_15 rfl rfl rfl ?_
    have hb := g_ck hf
    replace hf := g_in hb hf
    refine g_lald (pc' := 17) C d_Pi_remove_16 rfl 1 rfl hb ?_
    refine g_lconst (pc' := 18) (v := 1) C d_Pi_remove_17 rfl rfl ?_
    refine g_iload_n (pc' := 19) C 1 d_Pi_remove_18 rfl rfl ?_
    refine g_bipush (pc' := 21) (v := 64) C d_Pi_remove_19 rfl rfl ?_
    refine g_irem (pc' := 22) C d_Pi_remove_21 rfl (by decide) ?_
    refine g_lshl (pc' := 23) C d_Pi_remove_22 rfl ?_
    refine g_ldc2 (pc' := 26) (v := (-1)) C d_Pi_remove_23 rfl mw_2_233 ?_
    refine g_lxor (pc' := 27) C d_Pi_remove_26 rfl ?_
    refine g_land (pc' := 28) C d_Pi_remove_27 rfl ?_
    have hb := g_ck hf
    replace hf := g_in hb hf
    refine g_last (pc' := 29) (ws' := [O_Pi a_o a_o_words, A_J dA a_o_words 16 (vp_updL x_o_words (Int32.toNatClampNeg (p1 / (64 : Int32))) ((x_o_words (Int32.toNatClampNeg (p1 / (64 : Int32)))) &&& (((1 : Int64) <<< (Int32.toInt64 (p1 - p1 / (64 : Int32) * (64 : Int32)) &&& 63)) ^^^ (-1 : Int64))))]) C d_Pi_remove_28 rfl 1 rfl hb rfl ?_
    replace hf := Option.some.inj hf; subst hf
    exact g_vret C d_Pi_remove_29 () rfl
def y_Pi_empty : MethodName := ⟨"OneLamp$Pictures", "empty", "()V"⟩
theorem yy_Pi_empty : YV y_Pi_empty prog_5_method_6_code 1 none 0 := ⟨mw_1_49, mw_1_3, mw_1_47, mw_1_48, by decide +kernel, by decide +kernel, by decide +kernel⟩
theorem d_Pi_empty_0 : decode prog_5_method_6_code 0 = .ok (.aload_n 0, 1) := by decide +kernel
theorem d_Pi_empty_1 : decode prog_5_method_6_code 1 = .ok (.getfield 11, 3) := by decide +kernel
theorem d_Pi_empty_4 : decode prog_5_method_6_code 4 = .ok (.lconst 0, 1) := by decide +kernel
theorem d_Pi_empty_5 : decode prog_5_method_6_code 5 = .ok (.invokestatic 21, 3) := by decide +kernel
theorem d_Pi_empty_8 : decode prog_5_method_6_code 8 = .ok (.return_, 1) := by decide +kernel
def f_Pi_empty  (x_o_words : Nat → Int64) : Option ((Nat → Int64)) :=
  (f_JA_fill_J  (0 : Int64) x_o_words 16).bind fun u1 =>
  some (u1)
set_option maxRecDepth 20000 in
theorem c_Pi_empty {l : Launch} {D : va_G} {dA : Nat → ClassId} {a_o a_o_words : Nat}  {x_o_words : Nat → Int64} {o_x_o_words : Nat → Int64}   (hf : f_Pi_empty  x_o_words = some o_x_o_words) : CT l y_Pi_empty prog_5_method_6_code 1 none { frames := 1, cells := 0, slots := 0, locals := 24 } D dA [.ref a_o] [O_Pi a_o a_o_words, A_J dA a_o_words 16 x_o_words] none (fun _ : Unit => [O_Pi a_o a_o_words, A_J dA a_o_words 16 o_x_o_words]) := by
  refine ct_intro "OneLamp$Pictures" rfl (by decide +kernel) (Nat.le_of_ble_eq_true rfl) [(0, .ref a_o)] rfl (fun _ C => ?_)
  unfold f_Pi_empty at hf
  refine g_aload_n (pc' := 1) C 0 d_Pi_empty_0 rfl rfl ?_
  refine g_get (pc' := 4) C kf_Pi 0 mw_1_37 d_Pi_empty_1 rfl 0 rfl (by decide) rfl ?_
  refine g_lconst (pc' := 5) (v := 0) C d_Pi_empty_4 rfl rfl ?_
  replace hf := g_bi hf; obtain ⟨u1, hc2, hf⟩ := hf
  refine g_callS (pc' := 8) (st1 := []) (ws1 := [O_Pi a_o a_o_words, A_J dA a_o_words 16 u1]) C (c_JA_fill_J (l := l) (D := D) (dA := dA) (a_p0 := a_o_words)   hc2) yy_JA_fill_J mw_1_50 d_Pi_empty_5 rfl [] rfl rfl (Nat.le_of_ble_eq_true rfl) ⟨Nat.le_of_ble_eq_true rfl, Nat.le_of_ble_eq_true rfl⟩ rfl rfl (Nat.zero_le _) (Nat.zero_le _) [1] rfl (by decide +kernel) rfl (g_lay_sel _ _ _ _ [(0, false), (0, true)] (by decide +kernel) rfl (by decide +kernel) rfl rfl) rfl ?_
  replace hf := Option.some.inj hf; subst hf
  exact g_vret C d_Pi_empty_8 () rfl
def y_Pi_become : MethodName := ⟨"OneLamp$Pictures", "become", "(LOneLamp$Pictures;)V"⟩
theorem yy_Pi_become : YV y_Pi_become prog_5_method_7_code 2 none 1 := ⟨mw_3_94, mw_1_3, mw_3_92, mw_3_93, by decide +kernel, by decide +kernel, by decide +kernel⟩
theorem d_Pi_become_0 : decode prog_5_method_7_code 0 = .ok (.aload_n 1, 1) := by decide +kernel
theorem d_Pi_become_1 : decode prog_5_method_7_code 1 = .ok (.getfield 11, 3) := by decide +kernel
theorem d_Pi_become_4 : decode prog_5_method_7_code 4 = .ok (.iconst 0, 1) := by decide +kernel
theorem d_Pi_become_5 : decode prog_5_method_7_code 5 = .ok (.aload_n 0, 1) := by decide +kernel
theorem d_Pi_become_6 : decode prog_5_method_7_code 6 = .ok (.getfield 11, 3) := by decide +kernel
theorem d_Pi_become_9 : decode prog_5_method_7_code 9 = .ok (.iconst 0, 1) := by decide +kernel
theorem d_Pi_become_10 : decode prog_5_method_7_code 10 = .ok (.aload_n 0, 1) := by decide +kernel
theorem d_Pi_become_11 : decode prog_5_method_7_code 11 = .ok (.getfield 11, 3) := by decide +kernel
theorem d_Pi_become_14 : decode prog_5_method_7_code 14 = .ok (.arraylength, 1) := by decide +kernel
theorem d_Pi_become_15 : decode prog_5_method_7_code 15 = .ok (.invokestatic 27, 3) := by decide +kernel
theorem d_Pi_become_18 : decode prog_5_method_7_code 18 = .ok (.return_, 1) := by decide +kernel
def f_Pi_become  (x_o_words : Nat → Int64) (x_p1_words : Nat → Int64) : Option ((Nat → Int64)) :=
  if (0 : Int32) < 0 ∨ (0 : Int32) < 0 ∨ (16 : Int32) < 0 ∨ 16 < Int32.toNatClampNeg (0 : Int32) + Int32.toNatClampNeg (16 : Int32) ∨ 16 < Int32.toNatClampNeg (0 : Int32) + Int32.toNatClampNeg (16 : Int32) then none else
  some ((va_cpy x_p1_words x_o_words (Int32.toNatClampNeg (0 : Int32)) (Int32.toNatClampNeg (0 : Int32)) (Int32.toNatClampNeg (16 : Int32))))
set_option maxRecDepth 20000 in
theorem c_Pi_become {l : Launch} {D : va_G} {dA : Nat → ClassId} {a_o a_p1 a_p1_words a_o_words : Nat}  {x_o_words : Nat → Int64} {x_p1_words : Nat → Int64} {o_x_o_words : Nat → Int64}   (hf : f_Pi_become  x_o_words x_p1_words = some o_x_o_words) : CT l y_Pi_become prog_5_method_7_code 2 none { frames := 1, cells := 0, slots := 0, locals := 40 } D dA [.ref a_o, .ref a_p1] [O_Pi a_p1 a_p1_words, O_Pi a_o a_o_words, A_J dA a_o_words 16 x_o_words, A_J dA a_p1_words 16 x_p1_words] none (fun _ : Unit => [O_Pi a_p1 a_p1_words, O_Pi a_o a_o_words, A_J dA a_o_words 16 o_x_o_words, A_J dA a_p1_words 16 x_p1_words]) := by
  refine ct_intro "OneLamp$Pictures" rfl (by decide +kernel) (Nat.le_of_ble_eq_true rfl) [(0, .ref a_o), (1, .ref a_p1)] rfl (fun _ C => ?_)
  unfold f_Pi_become at hf
  refine g_aload_n (pc' := 1) C 1 d_Pi_become_0 rfl rfl ?_
  refine g_get (pc' := 4) C kf_Pi 0 mw_1_37 d_Pi_become_1 rfl 0 rfl (by decide) rfl ?_
  refine g_iconst (pc' := 5) (v := 0) C d_Pi_become_4 rfl rfl ?_
  refine g_aload_n (pc' := 6) C 0 d_Pi_become_5 rfl rfl ?_
  refine g_get (pc' := 9) C kf_Pi 0 mw_1_37 d_Pi_become_6 rfl 1 rfl (by decide) rfl ?_
  refine g_iconst (pc' := 10) (v := 0) C d_Pi_become_9 rfl rfl ?_
  refine g_aload_n (pc' := 11) C 0 d_Pi_become_10 rfl rfl ?_
  refine g_get (pc' := 14) C kf_Pi 0 mw_1_37 d_Pi_become_11 rfl 1 rfl (by decide) rfl ?_
  refine g_alen (pc' := 15) (v := 16) C d_Pi_become_14 rfl 2 1 rfl rfl rfl ?_
  have hb := g_cp (g_ck hf)
  replace hf := g_in (g_ck hf) hf
  refine g_copyl (pc' := 18) (ws' := [O_Pi a_p1 a_p1_words, O_Pi a_o a_o_words, A_J dA a_o_words 16 (va_cpy x_p1_words x_o_words (Int32.toNatClampNeg (0 : Int32)) (Int32.toNatClampNeg (0 : Int32)) (Int32.toNatClampNeg (16 : Int32))), A_J dA a_p1_words 16 x_p1_words]) C mw_3_95 mw_2_173 mw_2_172 mw_1_13 d_Pi_become_15 rfl 3 2 rfl rfl hb.1 hb.2.1 hb.2.2.1 hb.2.2.2.1 hb.2.2.2.2 (Nat.le_of_ble_eq_true rfl) (Nat.le_of_ble_eq_true rfl) rfl ?_
  replace hf := Option.some.inj hf; subst hf
  exact g_vret C d_Pi_become_18 () rfl
def y_Pi_size : MethodName := ⟨"OneLamp$Pictures", "size", "()I"⟩
theorem yy_Pi_size : YV y_Pi_size prog_5_method_8_code 7 (some .int) 0 := ⟨mw_2_208, mw_1_3, mw_2_206, mw_2_207, by decide +kernel, by decide +kernel, by decide +kernel⟩
theorem d_Pi_size_0 : decode prog_5_method_8_code 0 = .ok (.iconst 0, 1) := by decide +kernel
theorem d_Pi_size_1 : decode prog_5_method_8_code 1 = .ok (.istore_n 1, 1) := by decide +kernel
theorem d_Pi_size_2 : decode prog_5_method_8_code 2 = .ok (.aload_n 0, 1) := by decide +kernel
theorem d_Pi_size_3 : decode prog_5_method_8_code 3 = .ok (.getfield 11, 3) := by decide +kernel
theorem d_Pi_size_6 : decode prog_5_method_8_code 6 = .ok (.astore_n 2, 1) := by decide +kernel
theorem d_Pi_size_7 : decode prog_5_method_8_code 7 = .ok (.aload_n 2, 1) := by decide +kernel
theorem d_Pi_size_8 : decode prog_5_method_8_code 8 = .ok (.arraylength, 1) := by decide +kernel
theorem d_Pi_size_9 : decode prog_5_method_8_code 9 = .ok (.istore_n 3, 1) := by decide +kernel
theorem d_Pi_size_10 : decode prog_5_method_8_code 10 = .ok (.iconst 0, 1) := by decide +kernel
theorem d_Pi_size_11 : decode prog_5_method_8_code 11 = .ok (.istore 4, 2) := by decide +kernel
theorem d_Pi_size_13 : decode prog_5_method_8_code 13 = .ok (.iload 4, 2) := by decide +kernel
theorem d_Pi_size_15 : decode prog_5_method_8_code 15 = .ok (.iload_n 3, 1) := by decide +kernel
theorem d_Pi_size_16 : decode prog_5_method_8_code 16 = .ok (.if_icmp .ge 23, 3) := by decide +kernel
theorem d_Pi_size_19 : decode prog_5_method_8_code 19 = .ok (.aload_n 2, 1) := by decide +kernel
theorem d_Pi_size_20 : decode prog_5_method_8_code 20 = .ok (.iload 4, 2) := by decide +kernel
theorem d_Pi_size_22 : decode prog_5_method_8_code 22 = .ok (.laload, 1) := by decide +kernel
theorem d_Pi_size_23 : decode prog_5_method_8_code 23 = .ok (.lstore 5, 2) := by decide +kernel
theorem d_Pi_size_25 : decode prog_5_method_8_code 25 = .ok (.iload_n 1, 1) := by decide +kernel
theorem d_Pi_size_26 : decode prog_5_method_8_code 26 = .ok (.lload 5, 2) := by decide +kernel
theorem d_Pi_size_28 : decode prog_5_method_8_code 28 = .ok (.invokestatic 33, 3) := by decide +kernel
theorem d_Pi_size_31 : decode prog_5_method_8_code 31 = .ok (.iadd, 1) := by decide +kernel
theorem d_Pi_size_32 : decode prog_5_method_8_code 32 = .ok (.istore_n 1, 1) := by decide +kernel
theorem d_Pi_size_33 : decode prog_5_method_8_code 33 = .ok (.iinc 4 1, 3) := by decide +kernel
theorem d_Pi_size_36 : decode prog_5_method_8_code 36 = .ok (.goto (-23), 3) := by decide +kernel
theorem d_Pi_size_39 : decode prog_5_method_8_code 39 = .ok (.iload_n 1, 1) := by decide +kernel
theorem d_Pi_size_40 : decode prog_5_method_8_code 40 = .ok (.ireturn, 1) := by decide +kernel
def f_Pi_size_L13   : Nat → Int32 → Int32 → Int32 → (Nat → Int64) → Option (Int32)
  | 0, _, _, _, _ => none
  | n + 1, v1, v3, v4, x_o_words =>
    if v3 ≤ v4 then
      (some (v1))
    else
      (if v4 < 0 ∨ 16 ≤ Int32.toNatClampNeg v4 then none else
      (f_JL_bitCount  (x_o_words (Int32.toNatClampNeg v4))).bind fun r1 =>
      f_Pi_size_L13  n (v1 + r1) v3 (v4 + 1) x_o_words)
set_option maxRecDepth 20000 in
theorem w_Pi_size_L13 {p : Program} {l : Launch} {e : Env} {s : State} {m : MethodId} {args : Array Value} {below : List Frame} {meth : Method} {c : Code} {D : va_G} {dA : Nat → ClassId} {A : Nat → Prop} (C : GC p s m args meth c prog_5_method_8_code 7 "OneLamp$Pictures" (some .int) D dA A) {a_o a_o_words : Nat}  {r0 : Int32}    : ∀ (n : Nat) (v1 : Int32) (v3 : Int32) (v4 : Int32) (x_o_words : Nat → Int64), f_Pi_size_L13   n v1 v3 v4 x_o_words = some r0 → GG p l e { frames := 1, cells := 0, slots := 0, locals := 21 } s m args below meth c 7 D A 0 0 (MQ below (cQ D A (some (.int r0)) (fun _ : Unit => [O_Pi a_o a_o_words, A_J dA a_o_words 16 x_o_words])) args s 0 0 A) 13 [(1, .int v1), (2, .ref a_o_words), (3, .int v3), (4, .int v4)] [] [O_Pi a_o a_o_words, A_J dA a_o_words 16 x_o_words] := by
  intro n
  induction n with
  | zero =>
    intro v1 v3 v4 x_o_words hf
    cases hf
  | succ n ih =>
    intro v1 v3 v4 x_o_words hf
    unfold f_Pi_size_L13 at hf
    refine g_iload (pc' := 15) C 3 d_Pi_size_13 rfl rfl ?_
    refine g_iload_n (pc' := 16) C 2 d_Pi_size_15 rfl rfl ?_
    refine g_icmp_ge (pc' := 19) (tgt := 39) C d_Pi_size_16 rfl rfl (fun h => ?_) (fun h => ?_)
    · replace hf := g_ip h hf
      refine g_iload_n (pc' := 40) C 0 d_Pi_size_39 rfl rfl ?_
      replace hf := Option.some.inj hf; subst hf
      exact g_iret C d_Pi_size_40 () rfl
    · replace hf := g_in h hf
      refine g_aload_n (pc' := 20) C 1 d_Pi_size_19 rfl rfl ?_
      refine g_iload (pc' := 22) C 3 d_Pi_size_20 rfl rfl ?_
      have hb := g_ck hf
      replace hf := g_in hb hf
      refine g_lald (pc' := 23) C d_Pi_size_22 rfl 1 rfl hb ?_
      refine g_lstore (pc' := 25) (lv' := [(5, .long (x_o_words (Int32.toNatClampNeg v4))), (1, .int v1), (2, .ref a_o_words), (3, .int v3), (4, .int v4)]) C d_Pi_size_23 rfl (by decide) rfl ?_
      refine g_iload_n (pc' := 26) C 1 d_Pi_size_25 rfl rfl ?_
      refine g_lload (pc' := 28) C 0 d_Pi_size_26 rfl rfl ?_
      replace hf := g_bi hf; obtain ⟨r1, hc2, hf⟩ := hf
      refine g_callS (pc' := 31) (st1 := [.int r1, .int v1]) (ws1 := [O_Pi a_o a_o_words, A_J dA a_o_words 16 x_o_words]) C (c_JL_bitCount (l := l) (D := D) (dA := dA)    hc2) yy_JL_bitCount mw_2_209 d_Pi_size_28 rfl [.int v1] rfl rfl (Nat.le_of_ble_eq_true rfl) ⟨Nat.le_of_ble_eq_true rfl, Nat.le_of_ble_eq_true rfl⟩ rfl rfl (Nat.zero_le _) (Nat.zero_le _) [] rfl (by decide +kernel) rfl (g_lay_sel _ _ _ _ [(0, false), (1, false)] (by decide +kernel) rfl (by decide +kernel) rfl rfl) rfl ?_
      refine g_iadd (pc' := 32) C d_Pi_size_31 rfl ?_
      refine g_istore_n (pc' := 33) (lv' := [(1, .int (v1 + r1)), (5, .long (x_o_words (Int32.toNatClampNeg v4))), (2, .ref a_o_words), (3, .int v3), (4, .int v4)]) C d_Pi_size_32 rfl (by decide) rfl ?_
      refine g_iinc (pc' := 36) (j := 4) (v := (v4 + 1)) (lv' := [(4, .int (v4 + 1)), (1, .int (v1 + r1)), (5, .long (x_o_words (Int32.toNatClampNeg v4))), (2, .ref a_o_words), (3, .int v3)]) C d_Pi_size_33 rfl rfl rfl (by decide) rfl ?_
      refine g_goto (tgt := 13) C d_Pi_size_36 rfl ?_
      refine g_lv (lv' := [(1, .int (v1 + r1)), (2, .ref a_o_words), (3, .int v3), (4, .int (v4 + 1))]) [1, 3, 4, 0] rfl ?_
      exact ih (v1 + r1) v3 (v4 + 1) x_o_words hf
def f_Pi_size  (x_o_words : Nat → Int64) : Option (Int32) :=
  f_Pi_size_L13  3000 (0 : Int32) (16 : Int32) (0 : Int32) x_o_words
set_option maxRecDepth 20000 in
theorem c_Pi_size {l : Launch} {D : va_G} {dA : Nat → ClassId} {a_o a_o_words : Nat}  {x_o_words : Nat → Int64} {r0 : Int32}   (hf : f_Pi_size  x_o_words = some r0) : CT l y_Pi_size prog_5_method_8_code 7 (some .int) { frames := 1, cells := 0, slots := 0, locals := 21 } D dA [.ref a_o] [O_Pi a_o a_o_words, A_J dA a_o_words 16 x_o_words] (some (.int r0)) (fun _ : Unit => [O_Pi a_o a_o_words, A_J dA a_o_words 16 x_o_words]) := by
  refine ct_intro "OneLamp$Pictures" rfl (by decide +kernel) (Nat.le_of_ble_eq_true rfl) [(0, .ref a_o)] rfl (fun _ C => ?_)
  unfold f_Pi_size at hf
  refine g_iconst (pc' := 1) (v := 0) C d_Pi_size_0 rfl rfl ?_
  refine g_istore_n (pc' := 2) (lv' := [(1, .int 0), (0, .ref a_o)]) C d_Pi_size_1 rfl (by decide) rfl ?_
  refine g_aload_n (pc' := 3) C 1 d_Pi_size_2 rfl rfl ?_
  refine g_get (pc' := 6) C kf_Pi 0 mw_1_37 d_Pi_size_3 rfl 0 rfl (by decide) rfl ?_
  refine g_astore_n (pc' := 7) (lv' := [(2, .ref a_o_words), (1, .int 0), (0, .ref a_o)]) C d_Pi_size_6 rfl (by decide) rfl ?_
  refine g_aload_n (pc' := 8) C 0 d_Pi_size_7 rfl rfl ?_
  refine g_alen (pc' := 9) (v := 16) C d_Pi_size_8 rfl 1 1 rfl rfl rfl ?_
  refine g_istore_n (pc' := 10) (lv' := [(3, .int 16), (2, .ref a_o_words), (1, .int 0), (0, .ref a_o)]) C d_Pi_size_9 rfl (by decide) rfl ?_
  refine g_iconst (pc' := 11) (v := 0) C d_Pi_size_10 rfl rfl ?_
  refine g_istore (pc' := 13) (lv' := [(4, .int 0), (3, .int 16), (2, .ref a_o_words), (1, .int 0), (0, .ref a_o)]) C d_Pi_size_11 rfl (by decide) rfl ?_
  refine g_lv (lv' := [(1, .int (0 : Int32)), (2, .ref a_o_words), (3, .int (16 : Int32)), (4, .int (0 : Int32))]) [3, 2, 1, 0] rfl ?_
  exact w_Pi_size_L13 (a_o := a_o) (a_o_words := a_o_words) C   3000 (0 : Int32) (16 : Int32) (0 : Int32) x_o_words hf
def y_Pi_firstSixteen : MethodName := ⟨"OneLamp$Pictures", "firstSixteen", "()I"⟩
theorem yy_Pi_firstSixteen : YV y_Pi_firstSixteen prog_5_method_9_code 1 (some .int) 0 := ⟨mw_3_110, mw_1_3, mw_3_108, mw_3_109, by decide +kernel, by decide +kernel, by decide +kernel⟩
theorem d_Pi_firstSixteen_0 : decode prog_5_method_9_code 0 = .ok (.aload_n 0, 1) := by decide +kernel
theorem d_Pi_firstSixteen_1 : decode prog_5_method_9_code 1 = .ok (.getfield 11, 3) := by decide +kernel
theorem d_Pi_firstSixteen_4 : decode prog_5_method_9_code 4 = .ok (.iconst 0, 1) := by decide +kernel
theorem d_Pi_firstSixteen_5 : decode prog_5_method_9_code 5 = .ok (.laload, 1) := by decide +kernel
theorem d_Pi_firstSixteen_6 : decode prog_5_method_9_code 6 = .ok (.ldc2_w 39, 3) := by decide +kernel
theorem d_Pi_firstSixteen_9 : decode prog_5_method_9_code 9 = .ok (.land, 1) := by decide +kernel
theorem d_Pi_firstSixteen_10 : decode prog_5_method_9_code 10 = .ok (.l2i, 1) := by decide +kernel
theorem d_Pi_firstSixteen_11 : decode prog_5_method_9_code 11 = .ok (.ireturn, 1) := by decide +kernel
def f_Pi_firstSixteen  (x_o_words : Nat → Int64) : Option (Int32) :=
  some ((Int64.toInt32 ((x_o_words (Int32.toNatClampNeg (0 : Int32))) &&& (65535 : Int64))))
set_option maxRecDepth 20000 in
theorem c_Pi_firstSixteen {l : Launch} {D : va_G} {dA : Nat → ClassId} {a_o a_o_words : Nat}  {x_o_words : Nat → Int64} {r0 : Int32}   (hf : f_Pi_firstSixteen  x_o_words = some r0) : CT l y_Pi_firstSixteen prog_5_method_9_code 1 (some .int) { frames := 0, cells := 0, slots := 0, locals := 0 } D dA [.ref a_o] [O_Pi a_o a_o_words, A_J dA a_o_words 16 x_o_words] (some (.int r0)) (fun _ : Unit => [O_Pi a_o a_o_words, A_J dA a_o_words 16 x_o_words]) := by
  refine ct_intro "OneLamp$Pictures" rfl (by decide +kernel) (Nat.le_of_ble_eq_true rfl) [(0, .ref a_o)] rfl (fun _ C => ?_)
  unfold f_Pi_firstSixteen at hf
  refine g_aload_n (pc' := 1) C 0 d_Pi_firstSixteen_0 rfl rfl ?_
  refine g_get (pc' := 4) C kf_Pi 0 mw_1_37 d_Pi_firstSixteen_1 rfl 0 rfl (by decide) rfl ?_
  refine g_iconst (pc' := 5) (v := 0) C d_Pi_firstSixteen_4 rfl rfl ?_
  refine g_lald (pc' := 6) C d_Pi_firstSixteen_5 rfl 1 rfl (by decide) ?_
  refine g_ldc2 (pc' := 9) (v := 65535) C d_Pi_firstSixteen_6 rfl mw_3_111 ?_
  refine g_land (pc' := 10) C d_Pi_firstSixteen_9 rfl ?_
  refine g_l2i (pc' := 11) C d_Pi_firstSixteen_10 rfl ?_
  replace hf := Option.some.inj hf; subst hf
  exact g_iret C d_Pi_firstSixteen_11 () rfl
