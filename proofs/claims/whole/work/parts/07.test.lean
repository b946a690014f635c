def y_Pi_fits : MethodName := ⟨"OneLamp$Pictures", "fits", "(I)Z"⟩
theorem yy_Pi_fits : YS y_Pi_fits prog_5_method_2_code 1 (some .boolean) 1 := ⟨mw_1_59, mw_1_3, mw_1_58, by decide +kernel, by decide +kernel, by decide +kernel⟩
theorem d_Pi_fits_0 : decode prog_5_method_2_code 0 = .ok (.iload_n 0, 1) := by decide +kernel
theorem d_Pi_fits_1 : decode prog_5_method_2_code 1 = .ok (.ifCond .lt 14, 3) := by decide +kernel
theorem d_Pi_fits_4 : decode prog_5_method_2_code 4 = .ok (.iload_n 0, 1) := by decide +kernel
theorem d_Pi_fits_5 : decode prog_5_method_2_code 5 = .ok (.sipush 1024, 3) := by decide +kernel
theorem d_Pi_fits_8 : decode prog_5_method_2_code 8 = .ok (.if_icmp .ge 7, 3) := by decide +kernel
theorem d_Pi_fits_11 : decode prog_5_method_2_code 11 = .ok (.iconst 1, 1) := by decide +kernel
theorem d_Pi_fits_12 : decode prog_5_method_2_code 12 = .ok (.goto 4, 3) := by decide +kernel
theorem d_Pi_fits_15 : decode prog_5_method_2_code 15 = .ok (.iconst 0, 1) := by decide +kernel
theorem d_Pi_fits_16 : decode prog_5_method_2_code 16 = .ok (.ireturn, 1) := by decide +kernel
def f_Pi_fits  (p0 : Int32) : Option (Bool) :=
  if p0 < 0 then
    (some (false))
  else
    (if 1024 ≤ p0 then
      (some (false))
    else
      (some (true)))
set_option maxRecDepth 20000 in
theorem c_Pi_fits {l : Launch} {D : va_G} {dA : Nat → ClassId}   {p0 : Int32} {r0 : Bool}   (hf : f_Pi_fits  p0 = some r0) : CT l y_Pi_fits prog_5_method_2_code 1 (some .boolean) { frames := 0, cells := 0, slots := 0, locals := 0 } D dA [.int p0] [] (some (.int (b2i r0))) (fun _ : Unit => []) := by
  refine ct_intro "OneLamp$Pictures" rfl (by decide +kernel) (Nat.le_of_ble_eq_true rfl) [(0, .int p0)] rfl (fun _ C => ?_)
  unfold f_Pi_fits at hf
  refine g_iload_n (pc' := 1) C 0 d_Pi_fits_0 rfl rfl ?_
  refine g_if_lt (pc' := 4) (tgt := 15) C d_Pi_fits_1 rfl rfl (fun h => ?_) (fun h => ?_)
  · replace hf := g_ip h hf
    refine g_iconst (pc' := 16) (v := 0) C d_Pi_fits_15 rfl rfl ?_
    cases hf
    exact g_zret C d_Pi_fits_16 () rfl
  · replace hf := g_in h hf
    refine g_iload_n (pc' := 5) C 0 d_Pi_fits_4 rfl rfl ?_
    refine g_sipush (pc' := 8) (v := 1024) C d_Pi_fits_5 rfl rfl ?_
    refine g_icmp_ge (pc' := 11) (tgt := 15) C d_Pi_fits_8 rfl rfl (fun h => ?_) (fun h => ?_)
    · replace hf := g_ip h hf
      refine g_iconst (pc' := 16) (v := 0) C d_Pi_fits_15 rfl rfl ?_
      cases hf
      exact g_zret C d_Pi_fits_16 () rfl
    · replace hf := g_in h hf
      refine g_iconst (pc' := 12) (v := 1) C d_Pi_fits_11 rfl rfl ?_
      refine g_goto (tgt := 16) C d_Pi_fits_12 rfl ?_
      cases hf
      exact g_zret C d_Pi_fits_16 () rfl
def y_Pi_holds : MethodName := ⟨"OneLamp$Pictures", "holds", "(I)Z"⟩
theorem yy_Pi_holds : YV y_Pi_holds prog_5_method_3_code 2 (some .boolean) 1 := ⟨mw_2_93, mw_1_3, mw_2_91, mw_2_92, by decide +kernel, by decide +kernel, by decide +kernel⟩
theorem d_Pi_holds_0 : decode prog_5_method_3_code 0 = .ok (.iload_n 1, 1) := by decide +kernel
theorem d_Pi_holds_1 : decode prog_5_method_3_code 1 = .ok (.invokestatic 15, 3) := by decide +kernel
theorem d_Pi_holds_4 : decode prog_5_method_3_code 4 = .ok (.ifCond .eq 28, 3) := by decide +kernel
theorem d_Pi_holds_7 : decode prog_5_method_3_code 7 = .ok (.aload_n 0, 1) := by decide +kernel
theorem d_Pi_holds_8 : decode prog_5_method_3_code 8 = .ok (.getfield 11, 3) := by decide +kernel
theorem d_Pi_holds_11 : decode prog_5_method_3_code 11 = .ok (.iload_n 1, 1) := by decide +kernel
theorem d_Pi_holds_12 : decode prog_5_method_3_code 12 = .ok (.bipush 64, 2) := by decide +kernel
theorem d_Pi_holds_14 : decode prog_5_method_3_code 14 = .ok (.idiv, 1) := by decide +kernel
theorem d_Pi_holds_15 : decode prog_5_method_3_code 15 = .ok (.laload, 1) := by decide +kernel
theorem d_Pi_holds_16 : decode prog_5_method_3_code 16 = .ok (.iload_n 1, 1) := by decide +kernel
theorem d_Pi_holds_17 : decode prog_5_method_3_code 17 = .ok (.bipush 64, 2) := by decide +kernel
theorem d_Pi_holds_19 : decode prog_5_method_3_code 19 = .ok (.irem, 1) := by decide +kernel
theorem d_Pi_holds_20 : decode prog_5_method_3_code 20 = .ok (.lshr, 1) := by decide +kernel
theorem d_Pi_holds_21 : decode prog_5_method_3_code 21 = .ok (.lconst 1, 1) := by decide +kernel
theorem d_Pi_holds_22 : decode prog_5_method_3_code 22 = .ok (.land, 1) := by decide +kernel
theorem d_Pi_holds_23 : decode prog_5_method_3_code 23 = .ok (.lconst 1, 1) := by decide +kernel
theorem d_Pi_holds_24 : decode prog_5_method_3_code 24 = .ok (.lcmp, 1) := by decide +kernel
theorem d_Pi_holds_25 : decode prog_5_method_3_code 25 = .ok (.ifCond .ne 7, 3) := by decide +kernel
theorem d_Pi_holds_28 : decode prog_5_method_3_code 28 = .ok (.iconst 1, 1) := by decide +kernel
theorem d_Pi_holds_29 : decode prog_5_method_3_code 29 = .ok (.goto 4, 3) := by decide +kernel
theorem d_Pi_holds_32 : decode prog_5_method_3_code 32 = .ok (.iconst 0, 1) := by decide +kernel
theorem d_Pi_holds_33 : decode prog_5_method_3_code 33 = .ok (.ireturn, 1) := by decide +kernel
def f_Pi_holds  (p1 : Int32) (x_o_words : Nat → Int64) : Option (Bool) :=
  (f_Pi_fits  p1).bind fun r1 =>
  if r1 = true then
    (if (p1 / 64) < 0 ∨ 16 ≤ Int32.toNatClampNeg (p1 / 64) then none else
    if (lg_cmp (((x_o_words (Int32.toNatClampNeg (p1 / 64))) >>> (Int32.toInt64 (p1 - p1 / 64 * 64) &&& 63)) &&& 1) 1) = 0 then
      (some (true))
    else
      (some (false)))
  else
    (some (false))
set_option maxRecDepth 20000 in
theorem c_Pi_holds {l : Launch} {D : va_G} {dA : Nat → ClassId} {a_o a_o_words : Nat}  {p1 : Int32} {x_o_words : Nat → Int64} {r0 : Bool}   (hf : f_Pi_holds  p1 x_o_words = some r0) : CT l y_Pi_holds prog_5_method_3_code 2 (some .boolean) { frames := 1, cells := 0, slots := 0, locals := 20 } D dA [.ref a_o, .int p1] [(a_o, .inr (2, [.ref a_o_words])), (a_o_words, .inl (dA 1, 16, .inr (.inl x_o_words)))] (some (.int (b2i r0))) (fun _ : Unit => [(a_o, .inr (2, [.ref a_o_words])), (a_o_words, .inl (dA 1, 16, .inr (.inl x_o_words)))]) := by
  refine ct_intro "OneLamp$Pictures" rfl (by decide +kernel) (Nat.le_of_ble_eq_true rfl) [(0, .ref a_o), (1, .int p1)] rfl (fun _ C => ?_)
  unfold f_Pi_holds at hf
  refine g_iload_n (pc' := 1) C 1 d_Pi_holds_0 rfl rfl ?_
  obtain ⟨r1, hc2, hf⟩ := g_bi hf
  refine g_callS (pc' := 4) (st1 := [.int (b2i r1)]) (ws1 := [(a_o, .inr (2, [.ref a_o_words])), (a_o_words, .inl (dA 1, 16, .inr (.inl x_o_words)))]) C (c_Pi_fits (l := l) (D := D) (dA := dA)    hc2) yy_Pi_fits mw_1_57 d_Pi_holds_1 rfl [] rfl rfl (Nat.le_of_ble_eq_true rfl) ⟨Nat.le_of_ble_eq_true rfl, Nat.le_of_ble_eq_true rfl⟩ rfl rfl (Nat.zero_le _) (Nat.zero_le _) [] rfl (by decide) rfl rfl rfl ?_
  refine g_if_eqb (pc' := 7) (tgt := 32) C d_Pi_holds_4 rfl rfl (fun h => ?_) (fun h => ?_)
  · replace hf := g_bf h hf
    refine g_iconst (pc' := 33) (v := 0) C d_Pi_holds_32 rfl rfl ?_
    cases hf
    exact g_zret C d_Pi_holds_33 () rfl
  · replace hf := g_bt h hf
    refine g_aload_n (pc' := 8) C 0 d_Pi_holds_7 rfl rfl ?_
    refine g_get (pc' := 11) C kf_Pi 0 mw_1_37 d_Pi_holds_8 rfl 0 rfl (by decide) rfl ?_
    refine g_iload_n (pc' := 12) C 1 d_Pi_holds_11 rfl rfl ?_
    refine g_bipush (pc' := 14) (v := 64) C d_Pi_holds_12 rfl rfl ?_
    refine g_idiv (pc' := 15) C d_Pi_holds_14 rfl (by decide) ?_
    have hb := g_ck hf
    replace hf := g_in hb hf
    refine g_lald (pc' := 16) C d_Pi_holds_15 rfl 1 rfl hb ?_
    refine g_iload_n (pc' := 17) C 1 d_Pi_holds_16 rfl rfl ?_
    refine g_bipush (pc' := 19) (v := 64) C d_Pi_holds_17 rfl rfl ?_
    refine g_irem (pc' := 20) C d_Pi_holds_19 rfl (by decide) ?_
    refine g_lshr (pc' := 21) C d_Pi_holds_20 rfl ?_
    refine g_lconst (pc' := 22) (v := 1) C d_Pi_holds_21 rfl rfl ?_
    refine g_land (pc' := 23) C d_Pi_holds_22 rfl ?_
    refine g_lconst (pc' := 24) (v := 1) C d_Pi_holds_23 rfl rfl ?_
    refine g_lcmp (pc' := 25) C d_Pi_holds_24 rfl ?_
    refine g_if_ne (pc' := 28) (tgt := 32) C d_Pi_holds_25 rfl rfl (fun h => ?_) (fun h => ?_)
    · replace hf := g_in h hf
      refine g_iconst (pc' := 33) (v := 0) C d_Pi_holds_32 rfl rfl ?_
      cases hf
      exact g_zret C d_Pi_holds_33 () rfl
    · replace hf := g_ip h hf
      refine g_iconst (pc' := 29) (v := 1) C d_Pi_holds_28 rfl rfl ?_
      refine g_goto (tgt := 33) C d_Pi_holds_29 rfl ?_
      cases hf
      exact g_zret C d_Pi_holds_33 () rfl
def y_Pi_add : MethodName := ⟨"OneLamp$Pictures", "add", "(I)V"⟩
theorem yy_Pi_add : YV y_Pi_add prog_5_method_4_code 2 none 1 := ⟨mw_1_56, mw_1_3, mw_1_54, mw_1_55, by decide +kernel, by decide +kernel, by decide +kernel⟩
theorem d_Pi_add_0 : decode prog_5_method_4_code 0 = .ok (.iload_n 1, 1) := by decide +kernel
theorem d_Pi_add_1 : decode prog_5_method_4_code 1 = .ok (.invokestatic 15, 3) := by decide +kernel
theorem d_Pi_add_4 : decode prog_5_method_4_code 4 = .ok (.ifCond .eq 21, 3) := by decide +kernel
theorem d_Pi_add_7 : decode prog_5_method_4_code 7 = .ok (.aload_n 0, 1) := by decide +kernel
theorem d_Pi_add_8 : decode prog_5_method_4_code 8 = .ok (.getfield 11, 3) := by decide +kernel
theorem d_Pi_add_11 : decode prog_5_method_4_code 11 = .ok (.iload_n 1, 1) := by decide +kernel
theorem d_Pi_add_12 : decode prog_5_method_4_code 12 = .ok (.bipush 64, 2) := by decide +kernel
theorem d_Pi_add_14 : decode prog_5_method_4_code 14 = .ok (.idiv, 1) := by decide +kernel
theorem d_Pi_add_15 : decode prog_5_method_4_code 15 = .ok (.dup2, 1) := by decide +kernel
theorem d_Pi_add_16 : decode prog_5_method_4_code 16 = .ok (.laload, 1) := by decide +kernel
theorem d_Pi_add_17 : decode prog_5_method_4_code 17 = .ok (.lconst 1, 1) := by decide +kernel
theorem d_Pi_add_18 : decode prog_5_method_4_code 18 = .ok (.iload_n 1, 1) := by decide +kernel
theorem d_Pi_add_19 : decode prog_5_method_4_code 19 = .ok (.bipush 64, 2) := by decide +kernel
theorem d_Pi_add_21 : decode prog_5_method_4_code 21 = .ok (.irem, 1) := by decide +kernel
theorem d_Pi_add_22 : decode prog_5_method_4_code 22 = .ok (.lshl, 1) := by decide +kernel
theorem d_Pi_add_23 : decode prog_5_method_4_code 23 = .ok (.lor, 1) := by decide +kernel
theorem d_Pi_add_24 : decode prog_5_method_4_code 24 = .ok (.lastore, 1) := by decide +kernel
theorem d_Pi_add_25 : decode prog_5_method_4_code 25 = .ok (.return_, 1) := by decide +kernel
def f_Pi_add  (p1 : Int32) (x_o_words : Nat → Int64) : Option ((Nat → Int64)) :=
  (f_Pi_fits  p1).bind fun r1 =>
  if r1 = true then
    (if (p1 / 64) < 0 ∨ 16 ≤ Int32.toNatClampNeg (p1 / 64) then none else
    if (p1 / 64) < 0 ∨ 16 ≤ Int32.toNatClampNeg (p1 / 64) then none else
    some ((vp_updL x_o_words (Int32.toNatClampNeg (p1 / 64)) ((x_o_words (Int32.toNatClampNeg (p1 / 64))) ||| (1 <<< (Int32.toInt64 (p1 - p1 / 64 * 64) &&& 63))))))
  else
    (some (x_o_words))
set_option maxRecDepth 20000 in
theorem c_Pi_add {l : Launch} {D : va_G} {dA : Nat → ClassId} {a_o a_o_words : Nat}  {p1 : Int32} {x_o_words : Nat → Int64} {o_x_o_words : Nat → Int64}   (hf : f_Pi_add  p1 x_o_words = some o_x_o_words) : CT l y_Pi_add prog_5_method_4_code 2 none { frames := 1, cells := 0, slots := 0, locals := 20 } D dA [.ref a_o, .int p1] [(a_o, .inr (2, [.ref a_o_words])), (a_o_words, .inl (dA 1, 16, .inr (.inl x_o_words)))] none (fun _ : Unit => [(a_o, .inr (2, [.ref a_o_words])), (a_o_words, .inl (dA 1, 16, .inr (.inl o_x_o_words)))]) := by
  refine ct_intro "OneLamp$Pictures" rfl (by decide +kernel) (Nat.le_of_ble_eq_true rfl) [(0, .ref a_o), (1, .int p1)] rfl (fun _ C => ?_)
  unfold f_Pi_add at hf
  refine g_iload_n (pc' := 1) C 1 d_Pi_add_0 rfl rfl ?_
  obtain ⟨r1, hc2, hf⟩ := g_bi hf
  refine g_callS (pc' := 4) (st1 := [.int (b2i r1)]) (ws1 := [(a_o, .inr (2, [.ref a_o_words])), (a_o_words, .inl (dA 1, 16, .inr (.inl x_o_words)))]) C (c_Pi_fits (l := l) (D := D) (dA := dA)    hc2) yy_Pi_fits mw_1_57 d_Pi_add_1 rfl [] rfl rfl (Nat.le_of_ble_eq_true rfl) ⟨Nat.le_of_ble_eq_true rfl, Nat.le_of_ble_eq_true rfl⟩ rfl rfl (Nat.zero_le _) (Nat.zero_le _) [] rfl (by decide) rfl rfl rfl ?_
  refine g_if_eqb (pc' := 7) (tgt := 25) C d_Pi_add_4 rfl rfl (fun h => ?_) (fun h => ?_)
  · replace hf := g_bf h hf
    cases hf
    exact g_vret C d_Pi_add_25 () rfl
  · replace hf := g_bt h hf
    refine g_aload_n (pc' := 8) C 0 d_Pi_add_7 rfl rfl ?_
    refine g_get (pc' := 11) C kf_Pi 0 mw_1_37 d_Pi_add_8 rfl 0 rfl (by decide) rfl ?_
    refine g_iload_n (pc' := 12) C 1 d_Pi_add_11 rfl rfl ?_
    refine g_bipush (pc' := 14) (v := 64) C d_Pi_add_12 rfl rfl ?_
    refine g_idiv (pc' := 15) C d_Pi_add_14 rfl (by decide) ?_
    refine g_dup2 (pc' := 16) C d_Pi_add_15 rfl rfl rfl ?_
    have hb := g_ck hf
    replace hf := g_in hb hf
    refine g_lald (pc' := 17) C d_Pi_add_16 rfl 1 rfl hb ?_
    refine g_lconst (pc' := 18) (v := 1) C d_Pi_add_17 rfl rfl ?_
    refine g_iload_n (pc' := 19) C 1 d_Pi_add_18 rfl rfl ?_
    refine g_bipush (pc' := 21) (v := 64) C d_Pi_add_19 rfl rfl ?_
    refine g_irem (pc' := 22) C d_Pi_add_21 rfl (by decide) ?_
    refine g_lshl (pc' := 23) C d_Pi_add_22 rfl ?_
    refine g_lor (pc' := 24) C d_Pi_add_23 rfl ?_
    have hb := g_ck hf
    replace hf := g_in hb hf
    refine g_last (pc' := 25) (ws' := [(a_o, .inr (2, [.ref a_o_words])), (a_o_words, .inl (dA 1, 16, .inr (.inl (vp_updL x_o_words (Int32.toNatClampNeg (p1 / 64)) ((x_o_words (Int32.toNatClampNeg (p1 / 64))) ||| (1 <<< (Int32.toInt64 (p1 - p1 / 64 * 64) &&& 63)))))))]) C d_Pi_add_24 rfl 1 rfl hb rfl ?_
    cases hf
    exact g_vret C d_Pi_add_25 () rfl
def y_Pi_remove : MethodName := ⟨"OneLamp$Pictures", "remove", "(I)V"⟩
theorem yy_Pi_remove : YV y_Pi_remove prog_5_method_5_code 2 none 1 := ⟨mw_2_232, mw_1_3, mw_2_230, mw_2_231, by decide +kernel, by decide +kernel, by decide +kernel⟩
theorem d_Pi_remove_0 : decode prog_5_method_5_code 0 = .ok (.iload_n 1, 1) := by decide +kernel
theorem d_Pi_remove_1 : decode prog_5_method_5_code 1 = .ok (.invokestatic 15, 3) := by decide +kernel
theorem d_Pi_remove_4 : decode prog_5_method_5_code 4 = .ok (.ifCond .eq 25, 3) := by decide +kernel
theorem d_Pi_remove_7 : decode prog_5_method_5_code 7 = .ok (.aload_n 0, 1) := by decide +kernel
theorem d_Pi_remove_8 : decode prog_5_method_5_code 8 = .ok (.getfield 11, 3) := by decide +kernel
theorem d_Pi_remove_11 : decode prog_5_method_5_code 11 = .ok (.iload_n 1, 1) := by decide +kernel
theorem d_Pi_remove_12 : decode prog_5_method_5_code 12 = .ok (.bipush 64, 2) := by decide +kernel
theorem d_Pi_remove_14 : decode prog_5_method_5_code 14 = .ok (.idiv, 1) := by decide +kernel
theorem d_Pi_remove_15 : decode prog_5_method_5_code 15 = .ok (.dup2, 1) := by decide +kernel
theorem d_Pi_remove_16 : decode prog_5_method_5_code 16 = .ok (.laload, 1) := by decide +kernel
theorem d_Pi_remove_17 : decode prog_5_method_5_code 17 = .ok (.lconst 1, 1) := by decide +kernel
theorem d_Pi_remove_18 : decode prog_5_method_5_code 18 = .ok (.iload_n 1, 1) := by decide +kernel
theorem d_Pi_remove_19 : decode prog_5_method_5_code 19 = .ok (.bipush 64, 2) := by decide +kernel
theorem d_Pi_remove_21 : decode prog_5_method_5_code 21 = .ok (.irem, 1) := by decide +kernel
theorem d_Pi_remove_22 : decode prog_5_method_5_code 22 = .ok (.lshl, 1) := by decide +kernel
theorem d_Pi_remove_23 : decode prog_5_method_5_code 23 = .ok (.ldc2_w 19, 3) := by decide +kernel
theorem d_Pi_remove_26 : decode prog_5_method_5_code 26 = .ok (.lxor, 1) := by decide +kernel
theorem d_Pi_remove_27 : decode prog_5_method_5_code 27 = .ok (.land, 1) := by decide +kernel
theorem d_Pi_remove_28 : decode prog_5_method_5_code 28 = .ok (.lastore, 1) := by decide +kernel
theorem d_Pi_remove_29 : decode prog_5_method_5_code 29 = .ok (.return_, 1) := by decide +kernel
def f_Pi_remove  (p1 : Int32) (x_o_words : Nat → Int64) : Option ((Nat → Int64)) :=
  (f_Pi_fits  p1).bind fun r1 =>
  if r1 = true then
    (if (p1 / 64) < 0 ∨ 16 ≤ Int32.toNatClampNeg (p1 / 64) then none else
    if (p1 / 64) < 0 ∨ 16 ≤ Int32.toNatClampNeg (p1 / 64) then none else
    some ((vp_updL x_o_words (Int32.toNatClampNeg (p1 / 64)) ((x_o_words (Int32.toNatClampNeg (p1 / 64))) &&& ((1 <<< (Int32.toInt64 (p1 - p1 / 64 * 64) &&& 63)) ^^^ (-1))))))
  else
    (some (x_o_words))
set_option maxRecDepth 20000 in
theorem c_Pi_remove {l : Launch} {D : va_G} {dA : Nat → ClassId} {a_o a_o_words : Nat}  {p1 : Int32} {x_o_words : Nat → Int64} {o_x_o_words : Nat → Int64}   (hf : f_Pi_remove  p1 x_o_words = some o_x_o_words) : CT l y_Pi_remove prog_5_method_5_code 2 none { frames := 1, cells := 0, slots := 0, locals := 20 } D dA [.ref a_o, .int p1] [(a_o, .inr (2, [.ref a_o_words])), (a_o_words, .inl (dA 1, 16, .inr (.inl x_o_words)))] none (fun _ : Unit => [(a_o, .inr (2, [.ref a_o_words])), (a_o_words, .inl (dA 1, 16, .inr (.inl o_x_o_words)))]) := by
  refine ct_intro "OneLamp$Pictures" rfl (by decide +kernel) (Nat.le_of_ble_eq_true rfl) [(0, .ref a_o), (1, .int p1)] rfl (fun _ C => ?_)
  unfold f_Pi_remove at hf
  refine g_iload_n (pc' := 1) C 1 d_Pi_remove_0 rfl rfl ?_
  obtain ⟨r1, hc2, hf⟩ := g_bi hf
  refine g_callS (pc' := 4) (st1 := [.int (b2i r1)]) (ws1 := [(a_o, .inr (2, [.ref a_o_words])), (a_o_words, .inl (dA 1, 16, .inr (.inl x_o_words)))]) C (c_Pi_fits (l := l) (D := D) (dA := dA)    hc2) yy_Pi_fits mw_1_57 d_Pi_remove_1 rfl [] rfl rfl (Nat.le_of_ble_eq_true rfl) ⟨Nat.le_of_ble_eq_true rfl, Nat.le_of_ble_eq_true rfl⟩ rfl rfl (Nat.zero_le _) (Nat.zero_le _) [] rfl (by decide) rfl rfl rfl ?_
  refine g_if_eqb (pc' := 7) (tgt := 29) C d_Pi_remove_4 rfl rfl (fun h => ?_) (fun h => ?_)
  · replace hf := g_bf h hf
    cases hf
    exact g_vret C d_Pi_remove_29 () rfl
  · replace hf := g_bt h hf
    refine g_aload_n (pc' := 8) C 0 d_Pi_remove_7 rfl rfl ?_
    refine g_get (pc' := 11) C kf_Pi 0 mw_1_37 d_Pi_remove_8 rfl 0 rfl (by decide) rfl ?_
    refine g_iload_n (pc' := 12) C 1 d_Pi_remove_11 rfl rfl ?_
    refine g_bipush (pc' := 14) (v := 64) C d_Pi_remove_12 rfl rfl ?_
    refine g_idiv (pc' := 15) C d_Pi_remove_14 rfl (by decide) ?_
    refine g_dup2 (pc' := 16) C d_Pi_remove_15 rfl rfl rfl ?_
    have hb := g_ck hf
    replace hf := g_in hb hf
    refine g_lald (pc' := 17) C d_Pi_remove_16 rfl 1 rfl hb ?_
    refine g_lconst (pc' := 18) (v := 1) C d_Pi_remove_17 rfl rfl ?_
    refine g_iload_n (pc' := 19) C 1 d_Pi_remove_18 rfl rfl ?_
    refine g_bipush (pc' := 21) (v := 64) C d_Pi_remove_19 rfl rfl ?_
    refine g_irem (pc' := 22) C d_Pi_remove_21 rfl (by decide) ?_
    refine g_lshl (pc' := 23) C d_Pi_remove_22 rfl ?_
    refine g_ldc2 (pc' := 26) (v := (-1)) C d_Pi_remove_23 rfl mw_2_233 ?_
    refine g_lxor (pc' := 27) C d_Pi_remove_26 rfl ?_
    refine g_land (pc' := 28) C d_Pi_remove_27 rfl ?_
    have hb := g_ck hf
    replace hf := g_in hb hf
    refine g_last (pc' := 29) (ws' := [(a_o, .inr (2, [.ref a_o_words])), (a_o_words, .inl (dA 1, 16, .inr (.inl (vp_updL x_o_words (Int32.toNatClampNeg (p1 / 64)) ((x_o_words (Int32.toNatClampNeg (p1 / 64))) &&& ((1 <<< (Int32.toInt64 (p1 - p1 / 64 * 64) &&& 63)) ^^^ (-1)))))))]) C d_Pi_remove_28 rfl 1 rfl hb rfl ?_
    cases hf
    exact g_vret C d_Pi_remove_29 () rfl
def y_Wa_hasPicture : MethodName := ⟨"OneLamp$Wall", "hasPicture", "(I)Z"⟩
theorem yy_Wa_hasPicture : YV y_Wa_hasPicture prog_11_method_2_code 2 (some .boolean) 1 := ⟨mw_2_85, mw_1_2, mw_2_83, mw_2_84, by decide +kernel, by decide +kernel, by decide +kernel⟩
theorem d_Wa_hasPicture_0 : decode prog_11_method_2_code 0 = .ok (.iload_n 1, 1) := by decide +kernel
theorem d_Wa_hasPicture_1 : decode prog_11_method_2_code 1 = .ok (.ifCond .lt 17, 3) := by decide +kernel
theorem d_Wa_hasPicture_4 : decode prog_11_method_2_code 4 = .ok (.iload_n 1, 1) := by decide +kernel
theorem d_Wa_hasPicture_5 : decode prog_11_method_2_code 5 = .ok (.iconst 1, 1) := by decide +kernel
theorem d_Wa_hasPicture_6 : decode prog_11_method_2_code 6 = .ok (.aload_n 0, 1) := by decide +kernel
theorem d_Wa_hasPicture_7 : decode prog_11_method_2_code 7 = .ok (.getfield 9, 3) := by decide +kernel
theorem d_Wa_hasPicture_10 : decode prog_11_method_2_code 10 = .ok (.ishl, 1) := by decide +kernel
theorem d_Wa_hasPicture_11 : decode prog_11_method_2_code 11 = .ok (.if_icmp .ge 7, 3) := by decide +kernel
theorem d_Wa_hasPicture_14 : decode prog_11_method_2_code 14 = .ok (.iconst 1, 1) := by decide +kernel
theorem d_Wa_hasPicture_15 : decode prog_11_method_2_code 15 = .ok (.goto 4, 3) := by decide +kernel
theorem d_Wa_hasPicture_18 : decode prog_11_method_2_code 18 = .ok (.iconst 0, 1) := by decide +kernel
theorem d_Wa_hasPicture_19 : decode prog_11_method_2_code 19 = .ok (.ireturn, 1) := by decide +kernel
def f_Wa_hasPicture  (p1 : Int32) (x_o_lamps : Int32) : Option (Bool) :=
  if p1 < 0 then
    (some (false))
  else
    (if (1 <<< (x_o_lamps &&& 31)) ≤ p1 then
      (some (false))
    else
      (some (true)))
set_option maxRecDepth 20000 in
theorem c_Wa_hasPicture {l : Launch} {D : va_G} {dA : Nat → ClassId} {a_o a_o_had a_o_told a_o_last a_o_often : Nat} {x_o_picture : Int32} {x_o_night : Int32} {x_o_spent : Int32} {p1 : Int32} {x_o_lamps : Int32} {r0 : Bool}   (hf : f_Wa_hasPicture  p1 x_o_lamps = some r0) : CT l y_Wa_hasPicture prog_11_method_2_code 2 (some .boolean) { frames := 0, cells := 0, slots := 0, locals := 0 } D dA [.ref a_o, .int p1] [(a_o, .inr (1, [.int x_o_lamps, .int x_o_picture, .int x_o_night, .int x_o_spent, .ref a_o_had, .ref a_o_told, .ref a_o_last, .ref a_o_often]))] (some (.int (b2i r0))) (fun _ : Unit => [(a_o, .inr (1, [.int x_o_lamps, .int x_o_picture, .int x_o_night, .int x_o_spent, .ref a_o_had, .ref a_o_told, .ref a_o_last, .ref a_o_often]))]) := by
  refine ct_intro "OneLamp$Wall" rfl (by decide +kernel) (Nat.le_of_ble_eq_true rfl) [(0, .ref a_o), (1, .int p1)] rfl (fun _ C => ?_)
  unfold f_Wa_hasPicture at hf
  refine g_iload_n (pc' := 1) C 1 d_Wa_hasPicture_0 rfl rfl ?_
  refine g_if_lt (pc' := 4) (tgt := 18) C d_Wa_hasPicture_1 rfl rfl (fun h => ?_) (fun h => ?_)
  · replace hf := g_ip h hf
    refine g_iconst (pc' := 19) (v := 0) C d_Wa_hasPicture_18 rfl rfl ?_
    cases hf
    exact g_zret C d_Wa_hasPicture_19 () rfl
  · replace hf := g_in h hf
    refine g_iload_n (pc' := 5) C 1 d_Wa_hasPicture_4 rfl rfl ?_
    refine g_iconst (pc' := 6) (v := 1) C d_Wa_hasPicture_5 rfl rfl ?_
    refine g_aload_n (pc' := 7) C 0 d_Wa_hasPicture_6 rfl rfl ?_
    refine g_get (pc' := 10) C kf_Wa 0 mw_1_63 d_Wa_hasPicture_7 rfl 0 rfl (by decide) rfl ?_
    refine g_ishl (pc' := 11) C d_Wa_hasPicture_10 rfl ?_
    refine g_icmp_ge (pc' := 14) (tgt := 18) C d_Wa_hasPicture_11 rfl rfl (fun h => ?_) (fun h => ?_)
    · replace hf := g_ip h hf
      refine g_iconst (pc' := 19) (v := 0) C d_Wa_hasPicture_18 rfl rfl ?_
      cases hf
      exact g_zret C d_Wa_hasPicture_19 () rfl
    · replace hf := g_in h hf
      refine g_iconst (pc' := 15) (v := 1) C d_Wa_hasPicture_14 rfl rfl ?_
      refine g_goto (tgt := 19) C d_Wa_hasPicture_15 rfl ?_
      cases hf
      exact g_zret C d_Wa_hasPicture_19 () rfl
def y_Wa_hasLamp : MethodName := ⟨"OneLamp$Wall", "hasLamp", "(I)Z"⟩
theorem yy_Wa_hasLamp : YV y_Wa_hasLamp prog_11_method_3_code 2 (some .boolean) 1 := ⟨mw_3_35, mw_1_2, mw_3_33, mw_3_34, by decide +kernel, by decide +kernel, by decide +kernel⟩
theorem d_Wa_hasLamp_0 : decode prog_11_method_3_code 0 = .ok (.iload_n 1, 1) := by decide +kernel
theorem d_Wa_hasLamp_1 : decode prog_11_method_3_code 1 = .ok (.ifCond .lt 21, 3) := by decide +kernel
theorem d_Wa_hasLamp_4 : decode prog_11_method_3_code 4 = .ok (.iload_n 1, 1) := by decide +kernel
theorem d_Wa_hasLamp_5 : decode prog_11_method_3_code 5 = .ok (.aload_n 0, 1) := by decide +kernel
theorem d_Wa_hasLamp_6 : decode prog_11_method_3_code 6 = .ok (.getfield 9, 3) := by decide +kernel
theorem d_Wa_hasLamp_9 : decode prog_11_method_3_code 9 = .ok (.if_icmp .ge 13, 3) := by decide +kernel
theorem d_Wa_hasLamp_12 : decode prog_11_method_3_code 12 = .ok (.iload_n 1, 1) := by decide +kernel
theorem d_Wa_hasLamp_13 : decode prog_11_method_3_code 13 = .ok (.bipush 10, 2) := by decide +kernel
theorem d_Wa_hasLamp_15 : decode prog_11_method_3_code 15 = .ok (.if_icmp .ge 7, 3) := by decide +kernel
theorem d_Wa_hasLamp_18 : decode prog_11_method_3_code 18 = .ok (.iconst 1, 1) := by decide +kernel
theorem d_Wa_hasLamp_19 : decode prog_11_method_3_code 19 = .ok (.goto 4, 3) := by decide +kernel
theorem d_Wa_hasLamp_22 : decode prog_11_method_3_code 22 = .ok (.iconst 0, 1) := by decide +kernel
theorem d_Wa_hasLamp_23 : decode prog_11_method_3_code 23 = .ok (.ireturn, 1) := by decide +kernel
def f_Wa_hasLamp  (p1 : Int32) (x_o_lamps : Int32) : Option (Bool) :=
  if p1 < 0 then
    (some (false))
  else
    (if x_o_lamps ≤ p1 then
      (some (false))
    else
      (if 10 ≤ p1 then
        (some (false))
      else
        (some (true))))
set_option maxRecDepth 20000 in
theorem c_Wa_hasLamp {l : Launch} {D : va_G} {dA : Nat → ClassId} {a_o a_o_had a_o_told a_o_last a_o_often : Nat} {x_o_picture : Int32} {x_o_night : Int32} {x_o_spent : Int32} {p1 : Int32} {x_o_lamps : Int32} {r0 : Bool}   (hf : f_Wa_hasLamp  p1 x_o_lamps = some r0) : CT l y_Wa_hasLamp prog_11_method_3_code 2 (some .boolean) { frames := 0, cells := 0, slots := 0, locals := 0 } D dA [.ref a_o, .int p1] [(a_o, .inr (1, [.int x_o_lamps, .int x_o_picture, .int x_o_night, .int x_o_spent, .ref a_o_had, .ref a_o_told, .ref a_o_last, .ref a_o_often]))] (some (.int (b2i r0))) (fun _ : Unit => [(a_o, .inr (1, [.int x_o_lamps, .int x_o_picture, .int x_o_night, .int x_o_spent, .ref a_o_had, .ref a_o_told, .ref a_o_last, .ref a_o_often]))]) := by
  refine ct_intro "OneLamp$Wall" rfl (by decide +kernel) (Nat.le_of_ble_eq_true rfl) [(0, .ref a_o), (1, .int p1)] rfl (fun _ C => ?_)
  unfold f_Wa_hasLamp at hf
  refine g_iload_n (pc' := 1) C 1 d_Wa_hasLamp_0 rfl rfl ?_
  refine g_if_lt (pc' := 4) (tgt := 22) C d_Wa_hasLamp_1 rfl rfl (fun h => ?_) (fun h => ?_)
  · replace hf := g_ip h hf
    refine g_iconst (pc' := 23) (v := 0) C d_Wa_hasLamp_22 rfl rfl ?_
    cases hf
    exact g_zret C d_Wa_hasLamp_23 () rfl
  · replace hf := g_in h hf
    refine g_iload_n (pc' := 5) C 1 d_Wa_hasLamp_4 rfl rfl ?_
    refine g_aload_n (pc' := 6) C 0 d_Wa_hasLamp_5 rfl rfl ?_
    refine g_get (pc' := 9) C kf_Wa 0 mw_1_63 d_Wa_hasLamp_6 rfl 0 rfl (by decide) rfl ?_
    refine g_icmp_ge (pc' := 12) (tgt := 22) C d_Wa_hasLamp_9 rfl rfl (fun h => ?_) (fun h => ?_)
    · replace hf := g_ip h hf
      refine g_iconst (pc' := 23) (v := 0) C d_Wa_hasLamp_22 rfl rfl ?_
      cases hf
      exact g_zret C d_Wa_hasLamp_23 () rfl
    · replace hf := g_in h hf
      refine g_iload_n (pc' := 13) C 1 d_Wa_hasLamp_12 rfl rfl ?_
      refine g_bipush (pc' := 15) (v := 10) C d_Wa_hasLamp_13 rfl rfl ?_
      refine g_icmp_ge (pc' := 18) (tgt := 22) C d_Wa_hasLamp_15 rfl rfl (fun h => ?_) (fun h => ?_)
      · replace hf := g_ip h hf
        refine g_iconst (pc' := 23) (v := 0) C d_Wa_hasLamp_22 rfl rfl ?_
        cases hf
        exact g_zret C d_Wa_hasLamp_23 () rfl
      · replace hf := g_in h hf
        refine g_iconst (pc' := 19) (v := 1) C d_Wa_hasLamp_18 rfl rfl ?_
        refine g_goto (tgt := 23) C d_Wa_hasLamp_19 rfl ?_
        cases hf
        exact g_zret C d_Wa_hasLamp_23 () rfl
def y_Wa_lastOf : MethodName := ⟨"OneLamp$Wall", "lastOf", "(I)I"⟩
theorem yy_Wa_lastOf : YV y_Wa_lastOf prog_11_method_6_code 2 (some .int) 1 := ⟨mw_3_44, mw_1_2, mw_3_42, mw_3_43, by decide +kernel, by decide +kernel, by decide +kernel⟩
theorem d_Wa_lastOf_0 : decode prog_11_method_6_code 0 = .ok (.aload_n 0, 1) := by decide +kernel
theorem d_Wa_lastOf_1 : decode prog_11_method_6_code 1 = .ok (.iload_n 1, 1) := by decide +kernel
theorem d_Wa_lastOf_2 : decode prog_11_method_6_code 2 = .ok (.invokevirtual 67, 3) := by decide +kernel
theorem d_Wa_lastOf_5 : decode prog_11_method_6_code 5 = .ok (.ifCond .eq 12, 3) := by decide +kernel
theorem d_Wa_lastOf_8 : decode prog_11_method_6_code 8 = .ok (.aload_n 0, 1) := by decide +kernel
theorem d_Wa_lastOf_9 : decode prog_11_method_6_code 9 = .ok (.getfield 25, 3) := by decide +kernel
theorem d_Wa_lastOf_12 : decode prog_11_method_6_code 12 = .ok (.iload_n 1, 1) := by decide +kernel
theorem d_Wa_lastOf_13 : decode prog_11_method_6_code 13 = .ok (.iaload, 1) := by decide +kernel
theorem d_Wa_lastOf_14 : decode prog_11_method_6_code 14 = .ok (.goto 5, 3) := by decide +kernel
theorem d_Wa_lastOf_17 : decode prog_11_method_6_code 17 = .ok (.bipush (-2), 2) := by decide +kernel
theorem d_Wa_lastOf_19 : decode prog_11_method_6_code 19 = .ok (.ireturn, 1) := by decide +kernel
def f_Wa_lastOf  (p1 : Int32) (x_o_lamps : Int32) (x_o_last : Nat → Int32) : Option (Int32) :=
  (f_Wa_hasLamp  p1 x_o_lamps).bind fun r1 =>
  if r1 = true then
    (if p1 < 0 ∨ 10 ≤ Int32.toNatClampNeg p1 then none else
    some ((x_o_last (Int32.toNatClampNeg p1))))
  else
    (some ((-2)))
set_option maxRecDepth 20000 in
theorem c_Wa_lastOf {l : Launch} {D : va_G} {dA : Nat → ClassId} {a_o a_o_had a_o_told a_o_last a_o_often : Nat} {x_o_picture : Int32} {x_o_night : Int32} {x_o_spent : Int32} {p1 : Int32} {x_o_lamps : Int32} {x_o_last : Nat → Int32} {r0 : Int32}   (hf : f_Wa_lastOf  p1 x_o_lamps x_o_last = some r0) : CT l y_Wa_lastOf prog_11_method_6_code 2 (some .int) { frames := 1, cells := 0, slots := 0, locals := 21 } D dA [.ref a_o, .int p1] [(a_o, .inr (1, [.int x_o_lamps, .int x_o_picture, .int x_o_night, .int x_o_spent, .ref a_o_had, .ref a_o_told, .ref a_o_last, .ref a_o_often])), (a_o_last, .inl (dA 0, 10, .inl x_o_last))] (some (.int r0)) (fun _ : Unit => [(a_o, .inr (1, [.int x_o_lamps, .int x_o_picture, .int x_o_night, .int x_o_spent, .ref a_o_had, .ref a_o_told, .ref a_o_last, .ref a_o_often])), (a_o_last, .inl (dA 0, 10, .inl x_o_last))]) := by
  refine ct_intro "OneLamp$Wall" rfl (by decide +kernel) (Nat.le_of_ble_eq_true rfl) [(0, .ref a_o), (1, .int p1)] rfl (fun _ C => ?_)
  unfold f_Wa_lastOf at hf
  refine g_aload_n (pc' := 1) C 0 d_Wa_lastOf_0 rfl rfl ?_
  refine g_iload_n (pc' := 2) C 1 d_Wa_lastOf_1 rfl rfl ?_
  obtain ⟨r1, hc2, hf⟩ := g_bi hf
  refine g_callV (pc' := 5) (st1 := [.int (b2i r1)]) (ws1 := [(a_o, .inr (1, [.int x_o_lamps, .int x_o_picture, .int x_o_night, .int x_o_spent, .ref a_o_had, .ref a_o_told, .ref a_o_last, .ref a_o_often])), (a_o_last, .inl (dA 0, 10, .inl x_o_last))]) C (c_Wa_hasLamp (l := l) (D := D) (dA := dA) (a_o := a_o) (a_o_had := a_o_had) (a_o_told := a_o_told) (a_o_last := a_o_last) (a_o_often := a_o_often) (x_o_picture := x_o_picture) (x_o_night := x_o_night) (x_o_spent := x_o_spent)   hc2) yy_Wa_hasLamp kf_Wa rfl mw_3_40 d_Wa_lastOf_2 rfl [] rfl rfl (Nat.le_of_ble_eq_true rfl) ⟨Nat.le_of_ble_eq_true rfl, Nat.le_of_ble_eq_true rfl⟩ rfl rfl (Nat.zero_le _) (Nat.zero_le _) 0 rfl [0] rfl (by decide) rfl rfl rfl ?_
  refine g_if_eqb (pc' := 8) (tgt := 17) C d_Wa_lastOf_5 rfl rfl (fun h => ?_) (fun h => ?_)
  · replace hf := g_bf h hf
    refine g_bipush (pc' := 19) (v := (-2)) C d_Wa_lastOf_17 rfl rfl ?_
    cases hf
    exact g_iret C d_Wa_lastOf_19 () rfl
  · replace hf := g_bt h hf
    refine g_aload_n (pc' := 9) C 0 d_Wa_lastOf_8 rfl rfl ?_
    refine g_get (pc' := 12) C kf_Wa 6 mw_1_83 d_Wa_lastOf_9 rfl 0 rfl (by decide) rfl ?_
    refine g_iload_n (pc' := 13) C 1 d_Wa_lastOf_12 rfl rfl ?_
    have hb := g_ck hf
    replace hf := g_in hb hf
    refine g_iald (pc' := 14) C d_Wa_lastOf_13 rfl 1 rfl hb ?_
    refine g_goto (tgt := 19) C d_Wa_lastOf_14 rfl ?_
    cases hf
    exact g_iret C d_Wa_lastOf_19 () rfl
def y_Wa_step : MethodName := ⟨"OneLamp$Wall", "step", "(I)V"⟩
theorem yy_Wa_step : YV y_Wa_step prog_11_method_8_code 2 none 1 := ⟨mw_3_70, mw_1_2, mw_3_68, mw_3_69, by decide +kernel, by decide +kernel, by decide +kernel⟩
theorem d_Wa_step_0 : decode prog_11_method_8_code 0 = .ok (.aload_n 0, 1) := by decide +kernel
theorem d_Wa_step_1 : decode prog_11_method_8_code 1 = .ok (.iload_n 1, 1) := by decide +kernel
theorem d_Wa_step_2 : decode prog_11_method_8_code 2 = .ok (.invokevirtual 67, 3) := by decide +kernel
theorem d_Wa_step_5 : decode prog_11_method_8_code 5 = .ok (.ifCond .eq 46, 3) := by decide +kernel
theorem d_Wa_step_8 : decode prog_11_method_8_code 8 = .ok (.aload_n 0, 1) := by decide +kernel
theorem d_Wa_step_9 : decode prog_11_method_8_code 9 = .ok (.dup, 1) := by decide +kernel
theorem d_Wa_step_10 : decode prog_11_method_8_code 10 = .ok (.getfield 36, 3) := by decide +kernel
theorem d_Wa_step_13 : decode prog_11_method_8_code 13 = .ok (.iconst 1, 1) := by decide +kernel
theorem d_Wa_step_14 : decode prog_11_method_8_code 14 = .ok (.iload_n 1, 1) := by decide +kernel
theorem d_Wa_step_15 : decode prog_11_method_8_code 15 = .ok (.ishl, 1) := by decide +kernel
theorem d_Wa_step_16 : decode prog_11_method_8_code 16 = .ok (.ixor, 1) := by decide +kernel
theorem d_Wa_step_17 : decode prog_11_method_8_code 17 = .ok (.putfield 36, 3) := by decide +kernel
theorem d_Wa_step_20 : decode prog_11_method_8_code 20 = .ok (.aload_n 0, 1) := by decide +kernel
theorem d_Wa_step_21 : decode prog_11_method_8_code 21 = .ok (.dup, 1) := by decide +kernel
theorem d_Wa_step_22 : decode prog_11_method_8_code 22 = .ok (.getfield 39, 3) := by decide +kernel
theorem d_Wa_step_25 : decode prog_11_method_8_code 25 = .ok (.iconst 1, 1) := by decide +kernel
theorem d_Wa_step_26 : decode prog_11_method_8_code 26 = .ok (.iadd, 1) := by decide +kernel
theorem d_Wa_step_27 : decode prog_11_method_8_code 27 = .ok (.putfield 39, 3) := by decide +kernel
theorem d_Wa_step_30 : decode prog_11_method_8_code 30 = .ok (.aload_n 0, 1) := by decide +kernel
theorem d_Wa_step_31 : decode prog_11_method_8_code 31 = .ok (.getfield 25, 3) := by decide +kernel
theorem d_Wa_step_34 : decode prog_11_method_8_code 34 = .ok (.iload_n 1, 1) := by decide +kernel
theorem d_Wa_step_35 : decode prog_11_method_8_code 35 = .ok (.aload_n 0, 1) := by decide +kernel
theorem d_Wa_step_36 : decode prog_11_method_8_code 36 = .ok (.getfield 39, 3) := by decide +kernel
theorem d_Wa_step_39 : decode prog_11_method_8_code 39 = .ok (.iastore, 1) := by decide +kernel
theorem d_Wa_step_40 : decode prog_11_method_8_code 40 = .ok (.aload_n 0, 1) := by decide +kernel
theorem d_Wa_step_41 : decode prog_11_method_8_code 41 = .ok (.getfield 18, 3) := by decide +kernel
theorem d_Wa_step_44 : decode prog_11_method_8_code 44 = .ok (.aload_n 0, 1) := by decide +kernel
theorem d_Wa_step_45 : decode prog_11_method_8_code 45 = .ok (.getfield 36, 3) := by decide +kernel
theorem d_Wa_step_48 : decode prog_11_method_8_code 48 = .ok (.invokevirtual 48, 3) := by decide +kernel
theorem d_Wa_step_51 : decode prog_11_method_8_code 51 = .ok (.return_, 1) := by decide +kernel
def f_Wa_step  (p1 : Int32) (x_o_lamps : Int32) (x_o_picture : Int32) (x_o_night : Int32) (x_o_last : Nat → Int32) (x_o_had_words : Nat → Int64) : Option (Int32 × Int32 × (Nat → Int32) × (Nat → Int64)) :=
  (f_Wa_hasLamp  p1 x_o_lamps).bind fun r1 =>
  if r1 = true then
    (if p1 < 0 ∨ 10 ≤ Int32.toNatClampNeg p1 then none else
    (f_Pi_add  (x_o_picture ^^^ (1 <<< (p1 &&& 31))) x_o_had_words).bind fun u3 =>
    some ((x_o_picture ^^^ (1 <<< (p1 &&& 31))), (x_o_night + 1), (upd x_o_last (Int32.toNatClampNeg p1) (x_o_night + 1)), u3))
  else
    (some (x_o_picture, x_o_night, x_o_last, x_o_had_words))
set_option maxRecDepth 20000 in
theorem c_Wa_step {l : Launch} {D : va_G} {dA : Nat → ClassId} {a_o a_o_had a_o_told a_o_last a_o_often a_o_had_words : Nat} {x_o_spent : Int32} {p1 : Int32} {x_o_lamps : Int32} {x_o_picture : Int32} {x_o_night : Int32} {x_o_last : Nat → Int32} {x_o_had_words : Nat → Int64} {o_x_o_picture : Int32} {o_x_o_night : Int32} {o_x_o_last : Nat → Int32} {o_x_o_had_words : Nat → Int64}   (hf : f_Wa_step  p1 x_o_lamps x_o_picture x_o_night x_o_last x_o_had_words = some (o_x_o_picture, o_x_o_night, o_x_o_last, o_x_o_had_words)) : CT l y_Wa_step prog_11_method_8_code 2 none { frames := 2, cells := 0, slots := 0, locals := 41 } D dA [.ref a_o, .int p1] [(a_o, .inr (1, [.int x_o_lamps, .int x_o_picture, .int x_o_night, .int x_o_spent, .ref a_o_had, .ref a_o_told, .ref a_o_last, .ref a_o_often])), (a_o_last, .inl (dA 0, 10, .inl x_o_last)), (a_o_had, .inr (2, [.ref a_o_had_words])), (a_o_had_words, .inl (dA 1, 16, .inr (.inl x_o_had_words)))] none (fun _ : Unit => [(a_o, .inr (1, [.int x_o_lamps, .int o_x_o_picture, .int o_x_o_night, .int x_o_spent, .ref a_o_had, .ref a_o_told, .ref a_o_last, .ref a_o_often])), (a_o_last, .inl (dA 0, 10, .inl o_x_o_last)), (a_o_had, .inr (2, [.ref a_o_had_words])), (a_o_had_words, .inl (dA 1, 16, .inr (.inl o_x_o_had_words)))]) := by
  refine ct_intro "OneLamp$Wall" rfl (by decide +kernel) (Nat.le_of_ble_eq_true rfl) [(0, .ref a_o), (1, .int p1)] rfl (fun _ C => ?_)
  unfold f_Wa_step at hf
  refine g_aload_n (pc' := 1) C 0 d_Wa_step_0 rfl rfl ?_
  refine g_iload_n (pc' := 2) C 1 d_Wa_step_1 rfl rfl ?_
  obtain ⟨r1, hc2, hf⟩ := g_bi hf
  refine g_callV (pc' := 5) (st1 := [.int (b2i r1)]) (ws1 := [(a_o, .inr (1, [.int x_o_lamps, .int x_o_picture, .int x_o_night, .int x_o_spent, .ref a_o_had, .ref a_o_told, .ref a_o_last, .ref a_o_often])), (a_o_last, .inl (dA 0, 10, .inl x_o_last)), (a_o_had, .inr (2, [.ref a_o_had_words])), (a_o_had_words, .inl (dA 1, 16, .inr (.inl x_o_had_words)))]) C (c_Wa_hasLamp (l := l) (D := D) (dA := dA) (a_o := a_o) (a_o_had := a_o_had) (a_o_told := a_o_told) (a_o_last := a_o_last) (a_o_often := a_o_often) (x_o_picture := x_o_picture) (x_o_night := x_o_night) (x_o_spent := x_o_spent)   hc2) yy_Wa_hasLamp kf_Wa rfl mw_3_40 d_Wa_step_2 rfl [] rfl rfl (Nat.le_of_ble_eq_true rfl) ⟨Nat.le_of_ble_eq_true rfl, Nat.le_of_ble_eq_true rfl⟩ rfl rfl (Nat.zero_le _) (Nat.zero_le _) 0 rfl [0] rfl (by decide) rfl rfl rfl ?_
  refine g_if_eqb (pc' := 8) (tgt := 51) C d_Wa_step_5 rfl rfl (fun h => ?_) (fun h => ?_)
  · replace hf := g_bf h hf
    cases hf
    exact g_vret C d_Wa_step_51 () rfl
  · replace hf := g_bt h hf
    refine g_aload_n (pc' := 9) C 0 d_Wa_step_8 rfl rfl ?_
    refine g_dup (pc' := 10) C d_Wa_step_9 rfl rfl ?_
    refine g_get (pc' := 13) C kf_Wa 1 mw_1_67 d_Wa_step_10 rfl 0 rfl (by decide) rfl ?_
    refine g_iconst (pc' := 14) (v := 1) C d_Wa_step_13 rfl rfl ?_
    refine g_iload_n (pc' := 15) C 1 d_Wa_step_14 rfl rfl ?_
    refine g_ishl (pc' := 16) C d_Wa_step_15 rfl ?_
    refine g_ixor (pc' := 17) C d_Wa_step_16 rfl ?_
    refine g_put (pc' := 20) (ws' := [(a_o, .inr (1, [.int x_o_lamps, .int (x_o_picture ^^^ (1 <<< (p1 &&& 31))), .int x_o_night, .int x_o_spent, .ref a_o_had, .ref a_o_told, .ref a_o_last, .ref a_o_often])), (a_o_last, .inl (dA 0, 10, .inl x_o_last)), (a_o_had, .inr (2, [.ref a_o_had_words])), (a_o_had_words, .inl (dA 1, 16, .inr (.inl x_o_had_words)))]) C kf_Wa 1 mw_1_67 d_Wa_step_17 rfl 0 rfl (by decide) rfl rfl rfl (Nat.le_of_ble_eq_true rfl) rfl ?_
    refine g_aload_n (pc' := 21) C 0 d_Wa_step_20 rfl rfl ?_
    refine g_dup (pc' := 22) C d_Wa_step_21 rfl rfl ?_
    refine g_get (pc' := 25) C kf_Wa 2 mw_1_71 d_Wa_step_22 rfl 0 rfl (by decide) rfl ?_
    refine g_iconst (pc' := 26) (v := 1) C d_Wa_step_25 rfl rfl ?_
    refine g_iadd (pc' := 27) C d_Wa_step_26 rfl ?_
    refine g_put (pc' := 30) (ws' := [(a_o, .inr (1, [.int x_o_lamps, .int (x_o_picture ^^^ (1 <<< (p1 &&& 31))), .int (x_o_night + 1), .int x_o_spent, .ref a_o_had, .ref a_o_told, .ref a_o_last, .ref a_o_often])), (a_o_last, .inl (dA 0, 10, .inl x_o_last)), (a_o_had, .inr (2, [.ref a_o_had_words])), (a_o_had_words, .inl (dA 1, 16, .inr (.inl x_o_had_words)))]) C kf_Wa 2 mw_1_71 d_Wa_step_27 rfl 0 rfl (by decide) rfl rfl rfl (Nat.le_of_ble_eq_true rfl) rfl ?_
    refine g_aload_n (pc' := 31) C 0 d_Wa_step_30 rfl rfl ?_
    refine g_get (pc' := 34) C kf_Wa 6 mw_1_83 d_Wa_step_31 rfl 0 rfl (by decide) rfl ?_
    refine g_iload_n (pc' := 35) C 1 d_Wa_step_34 rfl rfl ?_
    refine g_aload_n (pc' := 36) C 0 d_Wa_step_35 rfl rfl ?_
    refine g_get (pc' := 39) C kf_Wa 2 mw_1_71 d_Wa_step_36 rfl 0 rfl (by decide) rfl ?_
    have hb := g_ck hf
    replace hf := g_in hb hf
    refine g_iast (pc' := 40) (ws' := [(a_o, .inr (1, [.int x_o_lamps, .int (x_o_picture ^^^ (1 <<< (p1 &&& 31))), .int (x_o_night + 1), .int x_o_spent, .ref a_o_had, .ref a_o_told, .ref a_o_last, .ref a_o_often])), (a_o_last, .inl (dA 0, 10, .inl (upd x_o_last (Int32.toNatClampNeg p1) (x_o_night + 1)))), (a_o_had, .inr (2, [.ref a_o_had_words])), (a_o_had_words, .inl (dA 1, 16, .inr (.inl x_o_had_words)))]) C d_Wa_step_39 rfl 1 rfl hb rfl ?_
    refine g_aload_n (pc' := 41) C 0 d_Wa_step_40 rfl rfl ?_
    refine g_get (pc' := 44) C kf_Wa 4 mw_1_76 d_Wa_step_41 rfl 0 rfl (by decide) rfl ?_
    refine g_aload_n (pc' := 45) C 0 d_Wa_step_44 rfl rfl ?_
    refine g_get (pc' := 48) C kf_Wa 1 mw_1_67 d_Wa_step_45 rfl 0 rfl (by decide) rfl ?_
    obtain ⟨u3, hc4, hf⟩ := g_bi hf
    refine g_callV (pc' := 51) (st1 := []) (ws1 := [(a_o, .inr (1, [.int x_o_lamps, .int (x_o_picture ^^^ (1 <<< (p1 &&& 31))), .int (x_o_night + 1), .int x_o_spent, .ref a_o_had, .ref a_o_told, .ref a_o_last, .ref a_o_often])), (a_o_last, .inl (dA 0, 10, .inl (upd x_o_last (Int32.toNatClampNeg p1) (x_o_night + 1)))), (a_o_had, .inr (2, [.ref a_o_had_words])), (a_o_had_words, .inl (dA 1, 16, .inr (.inl u3)))]) C (c_Pi_add (l := l) (D := D) (dA := dA) (a_o := a_o_had) (a_o_words := a_o_had_words)   hc4) yy_Pi_add kf_Pi rfl mw_1_53 d_Wa_step_48 rfl [] rfl rfl (Nat.le_of_ble_eq_true rfl) ⟨Nat.le_of_ble_eq_true rfl, Nat.le_of_ble_eq_true rfl⟩ rfl rfl (Nat.zero_le _) (Nat.zero_le _) 2 rfl [2, 3] rfl (by decide) rfl rfl rfl ?_
    cases hf
    exact g_vret C d_Wa_step_51 () rfl
def y_JA_fill_I : MethodName := ⟨"java/util/Arrays", "fill", "([II)V"⟩
theorem yy_JA_fill_I : YS y_JA_fill_I prog_17_method_103_code 4 none 2 := ⟨mw_1_62, mw_1_4, mw_1_61, by decide +kernel, by decide +kernel, by decide +kernel⟩
theorem d_JA_fill_I_0 : decode prog_17_method_103_code 0 = .ok (.iconst 0, 1) := by decide +kernel
theorem d_JA_fill_I_1 : decode prog_17_method_103_code 1 = .ok (.istore_n 2, 1) := by decide +kernel
theorem d_JA_fill_I_2 : decode prog_17_method_103_code 2 = .ok (.aload_n 0, 1) := by decide +kernel
theorem d_JA_fill_I_3 : decode prog_17_method_103_code 3 = .ok (.arraylength, 1) := by decide +kernel
theorem d_JA_fill_I_4 : decode prog_17_method_103_code 4 = .ok (.istore_n 3, 1) := by decide +kernel
theorem d_JA_fill_I_5 : decode prog_17_method_103_code 5 = .ok (.iload_n 2, 1) := by decide +kernel
theorem d_JA_fill_I_6 : decode prog_17_method_103_code 6 = .ok (.iload_n 3, 1) := by decide +kernel
theorem d_JA_fill_I_7 : decode prog_17_method_103_code 7 = .ok (.if_icmp .ge 13, 3) := by decide +kernel
theorem d_JA_fill_I_10 : decode prog_17_method_103_code 10 = .ok (.aload_n 0, 1) := by decide +kernel
theorem d_JA_fill_I_11 : decode prog_17_method_103_code 11 = .ok (.iload_n 2, 1) := by decide +kernel
theorem d_JA_fill_I_12 : decode prog_17_method_103_code 12 = .ok (.iload_n 1, 1) := by decide +kernel
theorem d_JA_fill_I_13 : decode prog_17_method_103_code 13 = .ok (.iastore, 1) := by decide +kernel
theorem d_JA_fill_I_14 : decode prog_17_method_103_code 14 = .ok (.iinc 2 1, 3) := by decide +kernel
theorem d_JA_fill_I_17 : decode prog_17_method_103_code 17 = .ok (.goto (-12), 3) := by decide +kernel
theorem d_JA_fill_I_20 : decode prog_17_method_103_code 20 = .ok (.return_, 1) := by decide +kernel
def f_JA_fill_I_L5   : Nat → Int32 → Int32 → Int32 → (Nat → Int32) → Nat → Option ((Nat → Int32))
  | 0, _, _, _, _, _ => none
  | n + 1, v1, v2, v3, x_p0, n_p0 =>
    if v3 ≤ v2 then
      (some (x_p0))
    else
      (if v2 < 0 ∨ n_p0 ≤ Int32.toNatClampNeg v2 then none else
      f_JA_fill_I_L5  n v1 (v2 + 1) v3 (upd x_p0 (Int32.toNatClampNeg v2) v1) n_p0)
set_option maxRecDepth 20000 in
theorem w_JA_fill_I_L5 {p : Program} {l : Launch} {e : Env} {s : State} {m : MethodId} {args : Array Value} {below : List Frame} {meth : Method} {c : Code} {D : va_G} {dA : Nat → ClassId} {A : Nat → Prop} (C : GC p s m args meth c prog_17_method_103_code 4 "java/util/Arrays" none D dA A) {a_p0 : Nat}  {o_x_p0 : Nat → Int32}    : ∀ (n : Nat) (v1 : Int32) (v2 : Int32) (v3 : Int32) (x_p0 : Nat → Int32) (n_p0 : Nat), f_JA_fill_I_L5   n v1 v2 v3 x_p0 n_p0 = some o_x_p0 → GG p l e { frames := 0, cells := 0, slots := 0, locals := 0 } s m args below meth c 4 D A 0 0 (MQ below (cQ D A none (fun _ : Unit => [(a_p0, .inl (dA 0, n_p0, .inl o_x_p0))])) args s 0 0 A) 5 [(0, .ref a_p0), (1, .int v1), (2, .int v2), (3, .int v3)] [] [(a_p0, .inl (dA 0, n_p0, .inl x_p0))] := by
  intro n
  induction n with
  | zero =>
    intro v1 v2 v3 x_p0 n_p0 hf
    cases hf
  | succ n ih =>
    intro v1 v2 v3 x_p0 n_p0 hf
    unfold f_JA_fill_I_L5 at hf
    refine g_iload_n (pc' := 6) C 2 d_JA_fill_I_5 rfl rfl ?_
    refine g_iload_n (pc' := 7) C 3 d_JA_fill_I_6 rfl rfl ?_
    refine g_icmp_ge (pc' := 10) (tgt := 20) C d_JA_fill_I_7 rfl rfl (fun h => ?_) (fun h => ?_)
    · replace hf := g_ip h hf
      cases hf
      exact g_vret C d_JA_fill_I_20 () rfl
    · replace hf := g_in h hf
      refine g_aload_n (pc' := 11) C 0 d_JA_fill_I_10 rfl rfl ?_
      refine g_iload_n (pc' := 12) C 2 d_JA_fill_I_11 rfl rfl ?_
      refine g_iload_n (pc' := 13) C 1 d_JA_fill_I_12 rfl rfl ?_
      have hb := g_ck hf
      replace hf := g_in hb hf
      refine g_iast (pc' := 14) (ws' := [(a_p0, .inl (dA 0, n_p0, .inl (upd x_p0 (Int32.toNatClampNeg v2) v1)))]) C d_JA_fill_I_13 rfl 0 rfl hb rfl ?_
      refine g_iinc (pc' := 17) (j := 2) (v := (v2 + 1)) (lv' := [(2, .int (v2 + 1)), (0, .ref a_p0), (1, .int v1), (3, .int v3)]) C d_JA_fill_I_14 rfl rfl rfl (by decide) rfl ?_
      refine g_goto (tgt := 5) C d_JA_fill_I_17 rfl ?_
      refine g_lv (lv' := [(0, .ref a_p0), (1, .int v1), (2, .int (v2 + 1)), (3, .int v3)]) [1, 2, 0, 3] rfl ?_
      exact ih v1 (v2 + 1) v3 (upd x_p0 (Int32.toNatClampNeg v2) v1) n_p0 hf
def f_JA_fill_I  (p1 : Int32) (x_p0 : Nat → Int32) (n_p0 : Nat) : Option ((Nat → Int32)) :=
  f_JA_fill_I_L5  3000 p1 0 (Int32.ofNat n_p0) x_p0 n_p0
set_option maxRecDepth 20000 in
theorem c_JA_fill_I {l : Launch} {D : va_G} {dA : Nat → ClassId} {a_p0 : Nat}  {p1 : Int32} {x_p0 : Nat → Int32} {n_p0 : Nat} {o_x_p0 : Nat → Int32}   (hf : f_JA_fill_I  p1 x_p0 n_p0 = some o_x_p0) : CT l y_JA_fill_I prog_17_method_103_code 4 none { frames := 0, cells := 0, slots := 0, locals := 0 } D dA [.ref a_p0, .int p1] [(a_p0, .inl (dA 0, n_p0, .inl x_p0))] none (fun _ : Unit => [(a_p0, .inl (dA 0, n_p0, .inl o_x_p0))]) := by
  refine ct_intro "java/util/Arrays" rfl (by decide +kernel) (Nat.le_of_ble_eq_true rfl) [(0, .ref a_p0), (1, .int p1)] rfl (fun _ C => ?_)
  unfold f_JA_fill_I at hf
  refine g_iconst (pc' := 1) (v := 0) C d_JA_fill_I_0 rfl rfl ?_
  refine g_istore_n (pc' := 2) (lv' := [(2, .int 0), (0, .ref a_p0), (1, .int p1)]) C d_JA_fill_I_1 rfl (by decide) rfl ?_
  refine g_aload_n (pc' := 3) C 1 d_JA_fill_I_2 rfl rfl ?_
  refine g_alen (pc' := 4) (v := (Int32.ofNat n_p0)) C d_JA_fill_I_3 rfl 0 0 rfl rfl rfl ?_
  refine g_istore_n (pc' := 5) (lv' := [(3, .int (Int32.ofNat n_p0)), (2, .int 0), (0, .ref a_p0), (1, .int p1)]) C d_JA_fill_I_4 rfl (by decide) rfl ?_
  refine g_lv (lv' := [(0, .ref a_p0), (1, .int p1), (2, .int 0), (3, .int (Int32.ofNat n_p0))]) [2, 3, 1, 0] rfl ?_
  exact w_JA_fill_I_L5 C  3000 p1 0 (Int32.ofNat n_p0) x_p0 n_p0 hf
